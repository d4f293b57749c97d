set_option maxRecDepth 20000 in
theorem ggX12_pot_X12_within : GoodIn wsX12_pot wsX12_within := goodIn_r _ [8] (by decide +kernel) (by decide +kernel)
set_option maxRecDepth 20000 in
theorem gX12_pot_X12_within : GoodIn wsX12_pot (va_wsS RX12 168 yX12_within wsX12_within) := goodIn_app (goodIn_of _ (by decide +kernel)) ggX12_pot_X12_within
theorem dX12_pot_0 : decode cX12_pot 0 = .ok (.aload_n 0, 1) := by decide +kernel
theorem dX12_pot_1 : decode cX12_pot 1 = .ok (.iconst 0, 1) := by decide +kernel
theorem dX12_pot_2 : decode cX12_pot 2 = .ok (.putfield 161, 3) := by decide +kernel
theorem dX12_pot_5 : decode cX12_pot 5 = .ok (.aload_n 0, 1) := by decide +kernel
theorem dX12_pot_6 : decode cX12_pot 6 = .ok (.getfield 197, 3) := by decide +kernel
theorem dX12_pot_9 : decode cX12_pot 9 = .ok (.iconst 4, 1) := by decide +kernel
theorem dX12_pot_10 : decode cX12_pot 10 = .ok (.if_icmp .eq 25, 3) := by decide +kernel
theorem dX12_pot_13 : decode cX12_pot 13 = .ok (.iload_n 1, 1) := by decide +kernel
theorem dX12_pot_14 : decode cX12_pot 14 = .ok (.bipush 10, 2) := by decide +kernel
theorem dX12_pot_16 : decode cX12_pot 16 = .ok (.sipush 2000, 3) := by decide +kernel
theorem dX12_pot_19 : decode cX12_pot 19 = .ok (.invokestatic 168, 3) := by decide +kernel
theorem dX12_pot_22 : decode cX12_pot 22 = .ok (.ifCond .eq 13, 3) := by decide +kernel
theorem dX12_pot_25 : decode cX12_pot 25 = .ok (.iload_n 2, 1) := by decide +kernel
theorem dX12_pot_26 : decode cX12_pot 26 = .ok (.iconst 1, 1) := by decide +kernel
theorem dX12_pot_27 : decode cX12_pot 27 = .ok (.bipush 50, 2) := by decide +kernel
theorem dX12_pot_29 : decode cX12_pot 29 = .ok (.invokestatic 168, 3) := by decide +kernel
theorem dX12_pot_32 : decode cX12_pot 32 = .ok (.ifCond .ne 5, 3) := by decide +kernel
theorem dX12_pot_35 : decode cX12_pot 35 = .ok (.iconst (-1), 1) := by decide +kernel
theorem dX12_pot_36 : decode cX12_pot 36 = .ok (.ireturn, 1) := by decide +kernel
theorem dX12_pot_37 : decode cX12_pot 37 = .ok (.aload_n 0, 1) := by decide +kernel
theorem dX12_pot_38 : decode cX12_pot 38 = .ok (.getfield 37, 3) := by decide +kernel
theorem dX12_pot_41 : decode cX12_pot 41 = .ok (.aload_n 0, 1) := by decide +kernel
theorem dX12_pot_42 : decode cX12_pot 42 = .ok (.getfield 197, 3) := by decide +kernel
theorem dX12_pot_45 : decode cX12_pot 45 = .ok (.iload_n 1, 1) := by decide +kernel
theorem dX12_pot_46 : decode cX12_pot 46 = .ok (.iastore, 1) := by decide +kernel
theorem dX12_pot_47 : decode cX12_pot 47 = .ok (.aload_n 0, 1) := by decide +kernel
theorem dX12_pot_48 : decode cX12_pot 48 = .ok (.getfield 40, 3) := by decide +kernel
theorem dX12_pot_51 : decode cX12_pot 51 = .ok (.aload_n 0, 1) := by decide +kernel
theorem dX12_pot_52 : decode cX12_pot 52 = .ok (.getfield 197, 3) := by decide +kernel
theorem dX12_pot_55 : decode cX12_pot 55 = .ok (.iload_n 2, 1) := by decide +kernel
theorem dX12_pot_56 : decode cX12_pot 56 = .ok (.iastore, 1) := by decide +kernel
theorem dX12_pot_57 : decode cX12_pot 57 = .ok (.aload_n 0, 1) := by decide +kernel
theorem dX12_pot_58 : decode cX12_pot 58 = .ok (.dup, 1) := by decide +kernel
theorem dX12_pot_59 : decode cX12_pot 59 = .ok (.getfield 197, 3) := by decide +kernel
theorem dX12_pot_62 : decode cX12_pot 62 = .ok (.iconst 1, 1) := by decide +kernel
theorem dX12_pot_63 : decode cX12_pot 63 = .ok (.iadd, 1) := by decide +kernel
theorem dX12_pot_64 : decode cX12_pot 64 = .ok (.putfield 197, 3) := by decide +kernel
theorem dX12_pot_67 : decode cX12_pot 67 = .ok (.aload_n 0, 1) := by decide +kernel
theorem dX12_pot_68 : decode cX12_pot 68 = .ok (.getfield 197, 3) := by decide +kernel
theorem dX12_pot_71 : decode cX12_pot 71 = .ok (.iconst 1, 1) := by decide +kernel
theorem dX12_pot_72 : decode cX12_pot 72 = .ok (.isub, 1) := by decide +kernel
theorem dX12_pot_73 : decode cX12_pot 73 = .ok (.ireturn, 1) := by decide +kernel
theorem inn_X12_pot_12 : ∀ w ∈ u_ws RX12 TX12 66, w ∈ wsX12_pot := fun w h => List.mem_cons_of_mem _ (List.mem_append_right _ h)
