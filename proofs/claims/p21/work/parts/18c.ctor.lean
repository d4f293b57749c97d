theorem dX7_init_0 : decode cX7_init 0 = .ok (.aload_n 0, 1) := by decide +kernel
theorem dX7_init_1 : decode cX7_init 1 = .ok (.invokespecial 3, 3) := by decide +kernel
theorem dX7_init_4 : decode cX7_init 4 = .ok (.aload_n 0, 1) := by decide +kernel
theorem dX7_init_5 : decode cX7_init 5 = .ok (.iconst 3, 1) := by decide +kernel
theorem dX7_init_6 : decode cX7_init 6 = .ok (.putfield 9, 3) := by decide +kernel
theorem dX7_init_9 : decode cX7_init 9 = .ok (.aload_n 0, 1) := by decide +kernel
theorem dX7_init_10 : decode cX7_init 10 = .ok (.aload_n 1, 1) := by decide +kernel
theorem dX7_init_11 : decode cX7_init 11 = .ok (.putfield 15, 3) := by decide +kernel
theorem dX7_init_14 : decode cX7_init 14 = .ok (.aload_n 0, 1) := by decide +kernel
theorem dX7_init_15 : decode cX7_init 15 = .ok (.iload_n 2, 1) := by decide +kernel
theorem dX7_init_16 : decode cX7_init 16 = .ok (.putfield 19, 3) := by decide +kernel
theorem dX7_init_19 : decode cX7_init 19 = .ok (.aload_n 0, 1) := by decide +kernel
theorem dX7_init_20 : decode cX7_init 20 = .ok (.iload_n 3, 1) := by decide +kernel
theorem dX7_init_21 : decode cX7_init 21 = .ok (.putfield 22, 3) := by decide +kernel
theorem dX7_init_24 : decode cX7_init 24 = .ok (.aload_n 0, 1) := by decide +kernel
theorem dX7_init_25 : decode cX7_init 25 = .ok (.iload 4, 2) := by decide +kernel
theorem dX7_init_27 : decode cX7_init 27 = .ok (.putfield 25, 3) := by decide +kernel
theorem dX7_init_30 : decode cX7_init 30 = .ok (.aload_n 1, 1) := by decide +kernel
theorem dX7_init_31 : decode cX7_init 31 = .ok (.getfield 28, 3) := by decide +kernel
theorem dX7_init_34 : decode cX7_init 34 = .ok (.astore 5, 2) := by decide +kernel
theorem dX7_init_36 : decode cX7_init 36 = .ok (.ldc 36, 2) := by decide +kernel
theorem dX7_init_38 : decode cX7_init 38 = .ok (.istore 6, 2) := by decide +kernel
theorem dX7_init_40 : decode cX7_init 40 = .ok (.iconst 0, 1) := by decide +kernel
theorem dX7_init_41 : decode cX7_init 41 = .ok (.istore 7, 2) := by decide +kernel
theorem dX7_init_43 : decode cX7_init 43 = .ok (.iconst 0, 1) := by decide +kernel
theorem dX7_init_44 : decode cX7_init 44 = .ok (.istore 8, 2) := by decide +kernel
theorem dX7_init_46 : decode cX7_init 46 = .ok (.iconst 0, 1) := by decide +kernel
theorem dX7_init_47 : decode cX7_init 47 = .ok (.istore 9, 2) := by decide +kernel
theorem dX7_init_49 : decode cX7_init 49 = .ok (.iload 9, 2) := by decide +kernel
theorem dX7_init_51 : decode cX7_init 51 = .ok (.aload 5, 2) := by decide +kernel
theorem dX7_init_53 : decode cX7_init 53 = .ok (.arraylength, 1) := by decide +kernel
theorem dX7_init_54 : decode cX7_init 54 = .ok (.if_icmp .ge 61, 3) := by decide +kernel
theorem dX7_init_57 : decode cX7_init 57 = .ok (.iload 6, 2) := by decide +kernel
theorem dX7_init_59 : decode cX7_init 59 = .ok (.aload 5, 2) := by decide +kernel
theorem dX7_init_61 : decode cX7_init 61 = .ok (.iload 9, 2) := by decide +kernel
theorem dX7_init_63 : decode cX7_init 63 = .ok (.iaload, 1) := by decide +kernel
theorem dX7_init_64 : decode cX7_init 64 = .ok (.invokestatic 37, 3) := by decide +kernel
theorem dX7_init_67 : decode cX7_init 67 = .ok (.istore 6, 2) := by decide +kernel
theorem dX7_init_69 : decode cX7_init 69 = .ok (.iload 7, 2) := by decide +kernel
theorem dX7_init_71 : decode cX7_init 71 = .ok (.aload 5, 2) := by decide +kernel
theorem dX7_init_73 : decode cX7_init 73 = .ok (.iload 9, 2) := by decide +kernel
theorem dX7_init_75 : decode cX7_init 75 = .ok (.iaload, 1) := by decide +kernel
theorem dX7_init_76 : decode cX7_init 76 = .ok (.invokestatic 43, 3) := by decide +kernel
theorem dX7_init_79 : decode cX7_init 79 = .ok (.istore 7, 2) := by decide +kernel
theorem dX7_init_81 : decode cX7_init 81 = .ok (.iload 9, 2) := by decide +kernel
theorem dX7_init_83 : decode cX7_init 83 = .ok (.ifCond .le 26, 3) := by decide +kernel
theorem dX7_init_86 : decode cX7_init 86 = .ok (.aload 5, 2) := by decide +kernel
theorem dX7_init_88 : decode cX7_init 88 = .ok (.iload 9, 2) := by decide +kernel
theorem dX7_init_90 : decode cX7_init 90 = .ok (.iaload, 1) := by decide +kernel
theorem dX7_init_91 : decode cX7_init 91 = .ok (.aload 5, 2) := by decide +kernel
theorem dX7_init_93 : decode cX7_init 93 = .ok (.iload 9, 2) := by decide +kernel
theorem dX7_init_95 : decode cX7_init 95 = .ok (.iconst 1, 1) := by decide +kernel
theorem dX7_init_96 : decode cX7_init 96 = .ok (.isub, 1) := by decide +kernel
theorem dX7_init_97 : decode cX7_init 97 = .ok (.iaload, 1) := by decide +kernel
theorem dX7_init_98 : decode cX7_init 98 = .ok (.isub, 1) := by decide +kernel
theorem dX7_init_99 : decode cX7_init 99 = .ok (.invokestatic 46, 3) := by decide +kernel
theorem dX7_init_102 : decode cX7_init 102 = .ok (.iconst 4, 1) := by decide +kernel
theorem dX7_init_103 : decode cX7_init 103 = .ok (.if_icmp .le 6, 3) := by decide +kernel
theorem dX7_init_106 : decode cX7_init 106 = .ok (.iinc 8 1, 3) := by decide +kernel
theorem dX7_init_109 : decode cX7_init 109 = .ok (.iinc 9 1, 3) := by decide +kernel
theorem dX7_init_112 : decode cX7_init 112 = .ok (.goto (-63), 3) := by decide +kernel
theorem dX7_init_115 : decode cX7_init 115 = .ok (.aload_n 0, 1) := by decide +kernel
theorem dX7_init_116 : decode cX7_init 116 = .ok (.iload 6, 2) := by decide +kernel
theorem dX7_init_118 : decode cX7_init 118 = .ok (.putfield 50, 3) := by decide +kernel
theorem dX7_init_121 : decode cX7_init 121 = .ok (.aload_n 0, 1) := by decide +kernel
theorem dX7_init_122 : decode cX7_init 122 = .ok (.iload 7, 2) := by decide +kernel
theorem dX7_init_124 : decode cX7_init 124 = .ok (.putfield 53, 3) := by decide +kernel
theorem dX7_init_127 : decode cX7_init 127 = .ok (.aload_n 0, 1) := by decide +kernel
theorem dX7_init_128 : decode cX7_init 128 = .ok (.iload 8, 2) := by decide +kernel
theorem dX7_init_130 : decode cX7_init 130 = .ok (.putfield 56, 3) := by decide +kernel
theorem dX7_init_133 : decode cX7_init 133 = .ok (.return_, 1) := by decide +kernel
theorem inn_X7_init_7 : ∀ w ∈ u_ws RX7 TX7 10, w ∈ wsX7_init := fun w h => List.mem_cons_of_mem _ (List.mem_append_left _ (List.mem_append_right _ h))
theorem inn_X7_init_9 : ∀ w ∈ u_ws RX9 TX9 9, w ∈ wsX7_init := fun w h => List.mem_cons_of_mem _ (List.mem_append_right _ h)
