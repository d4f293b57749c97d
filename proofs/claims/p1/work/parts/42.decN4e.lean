set_option maxRecDepth 20000 in
theorem ggX11_pot_X11_isTarget : GoodIn wsX11_pot wsX11_isTarget := goodIn_r _ [9, 10, 11, 8, 12] (by decide +kernel) (by decide +kernel)
set_option maxRecDepth 20000 in
theorem gX11_pot_X11_isTarget : GoodIn wsX11_pot (va_wsS RX11 127 yX11_isTarget wsX11_isTarget) := goodIn_app (goodIn_of _ (by decide +kernel)) ggX11_pot_X11_isTarget
set_option maxRecDepth 20000 in
theorem ggX11_pot_X11_isWithin : GoodIn wsX11_pot wsX11_isWithin := goodIn_r _ [12] (by decide +kernel) (by decide +kernel)
set_option maxRecDepth 20000 in
theorem gX11_pot_X11_isWithin : GoodIn wsX11_pot (va_wsS RX11 67 yX11_isWithin wsX11_isWithin) := goodIn_app (goodIn_of _ (by decide +kernel)) ggX11_pot_X11_isWithin
set_option maxRecDepth 20000 in
theorem ggX11_pot_X4_init : GoodIn wsX11_pot wsX4_init := goodIn_r _ [15, 16, 17, 18, 19, 20, 21, 22, 23, 24, 25, 26, 27, 28, 29, 30, 31, 32, 33, 34, 35, 36, 37, 38, 39, 40, 41, 42, 43, 44, 45, 46, 47, 48, 49, 50, 51, 52, 53, 54, 55, 56, 57, 58, 59, 60, 61, 62, 63, 64, 65, 90, 91, 92, 78, 79, 80, 81, 82, 83, 84, 85, 86, 87, 88, 89, 93, 94, 95, 96, 97, 98, 99, 100, 101, 102, 103, 104, 105, 106, 107, 108] (by decide +kernel) (by decide +kernel)
set_option maxRecDepth 20000 in
theorem gX11_pot_X4_init : GoodIn wsX11_pot (wsX4_init) := ggX11_pot_X4_init
theorem dX11_pot_0 : decode cX11_pot 0 = .ok (.aload_n 0, 1) := by decide +kernel
theorem dX11_pot_1 : decode cX11_pot 1 = .ok (.getfield 124, 3) := by decide +kernel
theorem dX11_pot_4 : decode cX11_pot 4 = .ok (.iconst 4, 1) := by decide +kernel
theorem dX11_pot_5 : decode cX11_pot 5 = .ok (.if_icmp .ge 20, 3) := by decide +kernel
theorem dX11_pot_8 : decode cX11_pot 8 = .ok (.iload_n 1, 1) := by decide +kernel
theorem dX11_pot_9 : decode cX11_pot 9 = .ok (.invokestatic 127, 3) := by decide +kernel
theorem dX11_pot_12 : decode cX11_pot 12 = .ok (.ifCond .eq 13, 3) := by decide +kernel
theorem dX11_pot_15 : decode cX11_pot 15 = .ok (.iload_n 2, 1) := by decide +kernel
theorem dX11_pot_16 : decode cX11_pot 16 = .ok (.iconst 1, 1) := by decide +kernel
theorem dX11_pot_17 : decode cX11_pot 17 = .ok (.bipush 50, 2) := by decide +kernel
theorem dX11_pot_19 : decode cX11_pot 19 = .ok (.invokestatic 67, 3) := by decide +kernel
theorem dX11_pot_22 : decode cX11_pot 22 = .ok (.ifCond .ne 5, 3) := by decide +kernel
theorem dX11_pot_25 : decode cX11_pot 25 = .ok (.iconst (-1), 1) := by decide +kernel
theorem dX11_pot_26 : decode cX11_pot 26 = .ok (.ireturn, 1) := by decide +kernel
theorem dX11_pot_27 : decode cX11_pot 27 = .ok (.aload_n 0, 1) := by decide +kernel
theorem dX11_pot_28 : decode cX11_pot 28 = .ok (.getfield 21, 3) := by decide +kernel
theorem dX11_pot_31 : decode cX11_pot 31 = .ok (.aload_n 0, 1) := by decide +kernel
theorem dX11_pot_32 : decode cX11_pot 32 = .ok (.getfield 124, 3) := by decide +kernel
theorem dX11_pot_35 : decode cX11_pot 35 = .ok (.new 19, 3) := by decide +kernel
theorem dX11_pot_38 : decode cX11_pot 38 = .ok (.dup, 1) := by decide +kernel
theorem dX11_pot_39 : decode cX11_pot 39 = .ok (.aload_n 0, 1) := by decide +kernel
theorem dX11_pot_40 : decode cX11_pot 40 = .ok (.getfield 124, 3) := by decide +kernel
theorem dX11_pot_43 : decode cX11_pot 43 = .ok (.iload_n 1, 1) := by decide +kernel
theorem dX11_pot_44 : decode cX11_pot 44 = .ok (.iload_n 2, 1) := by decide +kernel
theorem dX11_pot_45 : decode cX11_pot 45 = .ok (.invokespecial 131, 3) := by decide +kernel
theorem dX11_pot_48 : decode cX11_pot 48 = .ok (.aastore, 1) := by decide +kernel
theorem dX11_pot_49 : decode cX11_pot 49 = .ok (.aload_n 0, 1) := by decide +kernel
theorem dX11_pot_50 : decode cX11_pot 50 = .ok (.dup, 1) := by decide +kernel
theorem dX11_pot_51 : decode cX11_pot 51 = .ok (.getfield 124, 3) := by decide +kernel
theorem dX11_pot_54 : decode cX11_pot 54 = .ok (.iconst 1, 1) := by decide +kernel
theorem dX11_pot_55 : decode cX11_pot 55 = .ok (.iadd, 1) := by decide +kernel
theorem dX11_pot_56 : decode cX11_pot 56 = .ok (.putfield 124, 3) := by decide +kernel
theorem dX11_pot_59 : decode cX11_pot 59 = .ok (.aload_n 0, 1) := by decide +kernel
theorem dX11_pot_60 : decode cX11_pot 60 = .ok (.getfield 124, 3) := by decide +kernel
theorem dX11_pot_63 : decode cX11_pot 63 = .ok (.iconst 1, 1) := by decide +kernel
theorem dX11_pot_64 : decode cX11_pot 64 = .ok (.isub, 1) := by decide +kernel
theorem dX11_pot_65 : decode cX11_pot 65 = .ok (.ireturn, 1) := by decide +kernel
set_option maxRecDepth 20000 in
theorem ggX11_count_X11_silkThatGrows : GoodIn wsX11_count wsX11_silkThatGrows := goodIn_r _ [18, 2, 19, 20, 21, 22, 23, 17, 24, 25, 26, 27, 28, 29, 30, 31, 32, 33, 34, 35, 36, 37, 58, 59, 60, 61, 62, 63, 64, 65, 66, 67, 68, 69, 70, 71, 72, 73, 74, 75, 76, 77, 78] (by decide +kernel) (by decide +kernel)
set_option maxRecDepth 20000 in
theorem gX11_count_X11_silkThatGrows : GoodIn wsX11_count (wsV RX11 371 RX11 yX11_silkThatGrows wsX11_silkThatGrows) := goodIn_app (goodIn_of _ (by decide +kernel)) ggX11_count_X11_silkThatGrows
theorem dX11_count_0 : decode cX11_count 0 = .ok (.iload_n 1, 1) := by decide +kernel
theorem dX11_count_1 : decode cX11_count 1 = .ok (.tableswitch 147 0 11 #[63, 68, 73, 81, 89, 97, 105, 113, 121, 126, 134, 142], 63) := by decide +kernel
theorem dX11_count_64 : decode cX11_count 64 = .ok (.aload_n 0, 1) := by decide +kernel
theorem dX11_count_65 : decode cX11_count 65 = .ok (.getfield 63, 3) := by decide +kernel
theorem dX11_count_68 : decode cX11_count 68 = .ok (.ireturn, 1) := by decide +kernel
theorem dX11_count_69 : decode cX11_count 69 = .ok (.aload_n 0, 1) := by decide +kernel
theorem dX11_count_70 : decode cX11_count 70 = .ok (.getfield 124, 3) := by decide +kernel
theorem dX11_count_73 : decode cX11_count 73 = .ok (.ireturn, 1) := by decide +kernel
theorem dX11_count_74 : decode cX11_count 74 = .ok (.aload_n 0, 1) := by decide +kernel
theorem dX11_count_75 : decode cX11_count 75 = .ok (.getfield 42, 3) := by decide +kernel
theorem dX11_count_78 : decode cX11_count 78 = .ok (.getfield 359, 3) := by decide +kernel
theorem dX11_count_81 : decode cX11_count 81 = .ok (.ireturn, 1) := by decide +kernel
theorem dX11_count_82 : decode cX11_count 82 = .ok (.aload_n 0, 1) := by decide +kernel
theorem dX11_count_83 : decode cX11_count 83 = .ok (.getfield 42, 3) := by decide +kernel
theorem dX11_count_86 : decode cX11_count 86 = .ok (.getfield 349, 3) := by decide +kernel
theorem dX11_count_89 : decode cX11_count 89 = .ok (.ireturn, 1) := by decide +kernel
theorem dX11_count_90 : decode cX11_count 90 = .ok (.aload_n 0, 1) := by decide +kernel
theorem dX11_count_91 : decode cX11_count 91 = .ok (.getfield 28, 3) := by decide +kernel
theorem dX11_count_94 : decode cX11_count 94 = .ok (.getfield 145, 3) := by decide +kernel
theorem dX11_count_97 : decode cX11_count 97 = .ok (.ireturn, 1) := by decide +kernel
theorem dX11_count_98 : decode cX11_count 98 = .ok (.aload_n 0, 1) := by decide +kernel
theorem dX11_count_99 : decode cX11_count 99 = .ok (.getfield 42, 3) := by decide +kernel
theorem dX11_count_102 : decode cX11_count 102 = .ok (.getfield 362, 3) := by decide +kernel
theorem dX11_count_105 : decode cX11_count 105 = .ok (.ireturn, 1) := by decide +kernel
theorem dX11_count_106 : decode cX11_count 106 = .ok (.aload_n 0, 1) := by decide +kernel
theorem dX11_count_107 : decode cX11_count 107 = .ok (.getfield 42, 3) := by decide +kernel
theorem dX11_count_110 : decode cX11_count 110 = .ok (.getfield 365, 3) := by decide +kernel
theorem dX11_count_113 : decode cX11_count 113 = .ok (.ireturn, 1) := by decide +kernel
theorem dX11_count_114 : decode cX11_count 114 = .ok (.aload_n 0, 1) := by decide +kernel
theorem dX11_count_115 : decode cX11_count 115 = .ok (.getfield 42, 3) := by decide +kernel
theorem dX11_count_118 : decode cX11_count 118 = .ok (.getfield 368, 3) := by decide +kernel
theorem dX11_count_121 : decode cX11_count 121 = .ok (.ireturn, 1) := by decide +kernel
theorem dX11_count_122 : decode cX11_count 122 = .ok (.aload_n 0, 1) := by decide +kernel
theorem dX11_count_123 : decode cX11_count 123 = .ok (.invokevirtual 371, 3) := by decide +kernel
theorem dX11_count_126 : decode cX11_count 126 = .ok (.ireturn, 1) := by decide +kernel
theorem dX11_count_127 : decode cX11_count 127 = .ok (.aload_n 0, 1) := by decide +kernel
theorem dX11_count_128 : decode cX11_count 128 = .ok (.getfield 42, 3) := by decide +kernel
theorem dX11_count_131 : decode cX11_count 131 = .ok (.getfield 374, 3) := by decide +kernel
theorem dX11_count_134 : decode cX11_count 134 = .ok (.ireturn, 1) := by decide +kernel
theorem dX11_count_135 : decode cX11_count 135 = .ok (.aload_n 0, 1) := by decide +kernel
theorem dX11_count_136 : decode cX11_count 136 = .ok (.getfield 42, 3) := by decide +kernel
theorem dX11_count_139 : decode cX11_count 139 = .ok (.getfield 377, 3) := by decide +kernel
theorem dX11_count_142 : decode cX11_count 142 = .ok (.ireturn, 1) := by decide +kernel
theorem dX11_count_143 : decode cX11_count 143 = .ok (.aload_n 0, 1) := by decide +kernel
theorem dX11_count_144 : decode cX11_count 144 = .ok (.getfield 321, 3) := by decide +kernel
theorem dX11_count_147 : decode cX11_count 147 = .ok (.ireturn, 1) := by decide +kernel
theorem dX11_count_148 : decode cX11_count 148 = .ok (.iconst (-1), 1) := by decide +kernel
theorem dX11_count_149 : decode cX11_count 149 = .ok (.ireturn, 1) := by decide +kernel
theorem dX11_silkThatGrows_0 : decode cX11_silkThatGrows 0 = .ok (.iconst 0, 1) := by decide +kernel
theorem dX11_silkThatGrows_1 : decode cX11_silkThatGrows 1 = .ok (.istore_n 1, 1) := by decide +kernel
theorem dX11_silkThatGrows_2 : decode cX11_silkThatGrows 2 = .ok (.iconst 0, 1) := by decide +kernel
theorem dX11_silkThatGrows_3 : decode cX11_silkThatGrows 3 = .ok (.istore_n 2, 1) := by decide +kernel
theorem dX11_silkThatGrows_4 : decode cX11_silkThatGrows 4 = .ok (.iload_n 2, 1) := by decide +kernel
theorem dX11_silkThatGrows_5 : decode cX11_silkThatGrows 5 = .ok (.aload_n 0, 1) := by decide +kernel
theorem dX11_silkThatGrows_6 : decode cX11_silkThatGrows 6 = .ok (.getfield 124, 3) := by decide +kernel
theorem dX11_silkThatGrows_9 : decode cX11_silkThatGrows 9 = .ok (.if_icmp .ge 33, 3) := by decide +kernel
theorem dX11_silkThatGrows_42 : decode cX11_silkThatGrows 42 = .ok (.iload_n 1, 1) := by decide +kernel
theorem dX11_silkThatGrows_43 : decode cX11_silkThatGrows 43 = .ok (.ireturn, 1) := by decide +kernel
theorem inn_X11_count_10 : ∀ w ∈ u_ws RX10 TX10 7, w ∈ wsX11_count := fun w h => List.mem_cons_of_mem _ (List.mem_append_left _ (List.mem_append_left _ (List.mem_append_right _ h)))
theorem inn_X11_count_11 : ∀ w ∈ u_ws RX11 TX11 12, w ∈ wsX11_count := fun w h => List.mem_cons_of_mem _ (List.mem_append_left _ (List.mem_append_left _ (List.mem_append_left _ (List.mem_append_left _ (List.mem_append_right _ h)))))
theorem inn_X11_count_8 : ∀ w ∈ u_ws RX8 TX8 13, w ∈ wsX11_count := fun w h => List.mem_cons_of_mem _ (List.mem_append_left _ (List.mem_append_left _ (List.mem_append_left _ (List.mem_append_right _ h))))
theorem inn_X11_pot_11 : ∀ w ∈ u_ws RX11 TX11 12, w ∈ wsX11_pot := fun w h => List.mem_cons_of_mem _ (List.mem_append_left _ (List.mem_append_left _ (List.mem_append_left _ (List.mem_append_left _ (List.mem_append_right _ h)))))
theorem inn_X11_pot_4 : ∀ w ∈ u_ws RX4 TX4 12, w ∈ wsX11_pot := fun w h => List.mem_cons_of_mem _ (List.mem_append_left _ (List.mem_append_left _ (List.mem_append_left _ (List.mem_append_right _ h))))
theorem inn_X11_silkThatGrows_11 : ∀ w ∈ u_ws RX11 TX11 12, w ∈ wsX11_silkThatGrows := fun w h => List.mem_cons_of_mem _ (List.mem_append_left _ (List.mem_append_left _ (List.mem_append_right _ h)))
