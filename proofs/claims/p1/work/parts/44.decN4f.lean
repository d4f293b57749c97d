theorem dX3_putCocoon_0 : decode cX3_putCocoon 0 = .ok (.aload_n 1, 1) := by decide +kernel
theorem dX3_putCocoon_1 : decode cX3_putCocoon 1 = .ok (.ifnull 10, 3) := by decide +kernel
theorem dX3_putCocoon_11 : decode cX3_putCocoon 11 = .ok (.iconst 0, 1) := by decide +kernel
theorem dX3_putCocoon_12 : decode cX3_putCocoon 12 = .ok (.ireturn, 1) := by decide +kernel
theorem dX3_putNumber_0 : decode cX3_putNumber 0 = .ok (.aload_n 0, 1) := by decide +kernel
theorem dX3_putNumber_1 : decode cX3_putNumber 1 = .ok (.iload_n 1, 1) := by decide +kernel
theorem dX3_putNumber_2 : decode cX3_putNumber 2 = .ok (.putfield 31, 3) := by decide +kernel
theorem dX3_putNumber_5 : decode cX3_putNumber 5 = .ok (.aload_n 0, 1) := by decide +kernel
theorem dX3_putNumber_6 : decode cX3_putNumber 6 = .ok (.iconst 1, 1) := by decide +kernel
theorem dX3_putNumber_7 : decode cX3_putNumber 7 = .ok (.putfield 9, 3) := by decide +kernel
theorem dX3_putNumber_10 : decode cX3_putNumber 10 = .ok (.iconst 1, 1) := by decide +kernel
theorem dX3_putNumber_11 : decode cX3_putNumber 11 = .ok (.ireturn, 1) := by decide +kernel
theorem inn_X3_putNumber_3 : ∀ w ∈ u_ws RX3 TX3 5, w ∈ wsX3_putNumber := fun w h => List.mem_cons_of_mem _ (List.mem_append_right _ h)
