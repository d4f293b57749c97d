set_option maxRecDepth 20000 in
theorem ggX12_shelve_X12_within : GoodIn wsX12_shelve wsX12_within := goodIn_r _ [11] (by decide +kernel) (by decide +kernel)
set_option maxRecDepth 20000 in
theorem gX12_shelve_X12_within : GoodIn wsX12_shelve (va_wsS RX12 168 yX12_within wsX12_within) := goodIn_app (goodIn_of _ (by decide +kernel)) ggX12_shelve_X12_within
set_option maxRecDepth 20000 in
theorem ggX12_shelve_X12_isCocoon : GoodIn wsX12_shelve wsX12_isCocoon := goodIn_r _ [15, 16, 17, 8, 9, 10, 11, 18, 19, 20, 21, 22, 23, 24, 25, 26, 27, 28, 29, 30, 31, 32, 33, 34, 35, 36, 37, 38, 39, 40, 41, 42, 43, 44, 45, 46, 47, 48, 49, 50, 51, 52, 53, 54, 55, 56, 57, 58, 59, 60, 61, 62, 63, 64, 65, 66, 67, 68, 69, 70, 71, 72, 73, 74, 75, 76, 77, 78, 79, 80, 81, 82, 83] (by decide +kernel) (by decide +kernel)
set_option maxRecDepth 20000 in
theorem gX12_shelve_X12_isCocoon : GoodIn wsX12_shelve (wsV RX12 186 RX12 yX12_isCocoon wsX12_isCocoon) := goodIn_app (goodIn_of _ (by decide +kernel)) ggX12_shelve_X12_isCocoon
theorem dX12_shelve_0 : decode cX12_shelve 0 = .ok (.aload_n 0, 1) := by decide +kernel
theorem dX12_shelve_1 : decode cX12_shelve 1 = .ok (.iconst 0, 1) := by decide +kernel
theorem dX12_shelve_2 : decode cX12_shelve 2 = .ok (.putfield 161, 3) := by decide +kernel
theorem dX12_shelve_5 : decode cX12_shelve 5 = .ok (.iload_n 1, 1) := by decide +kernel
theorem dX12_shelve_6 : decode cX12_shelve 6 = .ok (.iconst 0, 1) := by decide +kernel
theorem dX12_shelve_7 : decode cX12_shelve 7 = .ok (.bipush 15, 2) := by decide +kernel
theorem dX12_shelve_9 : decode cX12_shelve 9 = .ok (.invokestatic 168, 3) := by decide +kernel
theorem dX12_shelve_12 : decode cX12_shelve 12 = .ok (.ifCond .eq 21, 3) := by decide +kernel
theorem dX12_shelve_15 : decode cX12_shelve 15 = .ok (.aload_n 0, 1) := by decide +kernel
theorem dX12_shelve_16 : decode cX12_shelve 16 = .ok (.getfield 125, 3) := by decide +kernel
theorem dX12_shelve_19 : decode cX12_shelve 19 = .ok (.iload_n 1, 1) := by decide +kernel
theorem dX12_shelve_20 : decode cX12_shelve 20 = .ok (.baload, 1) := by decide +kernel
theorem dX12_shelve_21 : decode cX12_shelve 21 = .ok (.ifCond .ne 12, 3) := by decide +kernel
theorem dX12_shelve_24 : decode cX12_shelve 24 = .ok (.iload_n 2, 1) := by decide +kernel
theorem dX12_shelve_25 : decode cX12_shelve 25 = .ok (.iconst 0, 1) := by decide +kernel
theorem dX12_shelve_26 : decode cX12_shelve 26 = .ok (.iconst 2, 1) := by decide +kernel
theorem dX12_shelve_27 : decode cX12_shelve 27 = .ok (.invokestatic 168, 3) := by decide +kernel
theorem dX12_shelve_30 : decode cX12_shelve 30 = .ok (.ifCond .ne 5, 3) := by decide +kernel
theorem dX12_shelve_33 : decode cX12_shelve 33 = .ok (.iconst 0, 1) := by decide +kernel
theorem dX12_shelve_34 : decode cX12_shelve 34 = .ok (.ireturn, 1) := by decide +kernel
theorem dX12_shelve_35 : decode cX12_shelve 35 = .ok (.iload_n 2, 1) := by decide +kernel
theorem dX12_shelve_36 : decode cX12_shelve 36 = .ok (.ifCond .ne 28, 3) := by decide +kernel
theorem dX12_shelve_39 : decode cX12_shelve 39 = .ok (.aload_n 0, 1) := by decide +kernel
theorem dX12_shelve_40 : decode cX12_shelve 40 = .ok (.iload_n 3, 1) := by decide +kernel
theorem dX12_shelve_41 : decode cX12_shelve 41 = .ok (.iload 4, 2) := by decide +kernel
theorem dX12_shelve_43 : decode cX12_shelve 43 = .ok (.invokevirtual 186, 3) := by decide +kernel
theorem dX12_shelve_46 : decode cX12_shelve 46 = .ok (.ifCond .eq 33, 3) := by decide +kernel
theorem dX12_shelve_64 : decode cX12_shelve 64 = .ok (.iload_n 2, 1) := by decide +kernel
theorem dX12_shelve_65 : decode cX12_shelve 65 = .ok (.iconst 2, 1) := by decide +kernel
theorem dX12_shelve_66 : decode cX12_shelve 66 = .ok (.if_icmp .ne 15, 3) := by decide +kernel
theorem dX12_shelve_69 : decode cX12_shelve 69 = .ok (.iload_n 3, 1) := by decide +kernel
theorem dX12_shelve_70 : decode cX12_shelve 70 = .ok (.iconst 0, 1) := by decide +kernel
theorem dX12_shelve_71 : decode cX12_shelve 71 = .ok (.bipush 8, 2) := by decide +kernel
theorem dX12_shelve_73 : decode cX12_shelve 73 = .ok (.invokestatic 168, 3) := by decide +kernel
theorem dX12_shelve_76 : decode cX12_shelve 76 = .ok (.ifCond .ne 5, 3) := by decide +kernel
theorem dX12_shelve_79 : decode cX12_shelve 79 = .ok (.iconst 0, 1) := by decide +kernel
theorem dX12_shelve_80 : decode cX12_shelve 80 = .ok (.ireturn, 1) := by decide +kernel
theorem dX12_shelve_81 : decode cX12_shelve 81 = .ok (.aload_n 0, 1) := by decide +kernel
theorem dX12_shelve_82 : decode cX12_shelve 82 = .ok (.getfield 125, 3) := by decide +kernel
theorem dX12_shelve_85 : decode cX12_shelve 85 = .ok (.iload_n 1, 1) := by decide +kernel
theorem dX12_shelve_86 : decode cX12_shelve 86 = .ok (.iconst 1, 1) := by decide +kernel
theorem dX12_shelve_87 : decode cX12_shelve 87 = .ok (.bastore, 1) := by decide +kernel
theorem dX12_shelve_88 : decode cX12_shelve 88 = .ok (.aload_n 0, 1) := by decide +kernel
theorem dX12_shelve_89 : decode cX12_shelve 89 = .ok (.getfield 128, 3) := by decide +kernel
theorem dX12_shelve_92 : decode cX12_shelve 92 = .ok (.iload_n 1, 1) := by decide +kernel
theorem dX12_shelve_93 : decode cX12_shelve 93 = .ok (.iload_n 2, 1) := by decide +kernel
theorem dX12_shelve_94 : decode cX12_shelve 94 = .ok (.iastore, 1) := by decide +kernel
theorem dX12_shelve_95 : decode cX12_shelve 95 = .ok (.aload_n 0, 1) := by decide +kernel
theorem dX12_shelve_96 : decode cX12_shelve 96 = .ok (.getfield 131, 3) := by decide +kernel
theorem dX12_shelve_99 : decode cX12_shelve 99 = .ok (.iload_n 1, 1) := by decide +kernel
theorem dX12_shelve_100 : decode cX12_shelve 100 = .ok (.iload_n 2, 1) := by decide +kernel
theorem dX12_shelve_101 : decode cX12_shelve 101 = .ok (.ifCond .ne 13, 3) := by decide +kernel
theorem dX12_shelve_114 : decode cX12_shelve 114 = .ok (.iload_n 3, 1) := by decide +kernel
theorem dX12_shelve_115 : decode cX12_shelve 115 = .ok (.iastore, 1) := by decide +kernel
theorem dX12_shelve_116 : decode cX12_shelve 116 = .ok (.iload_n 2, 1) := by decide +kernel
theorem dX12_shelve_117 : decode cX12_shelve 117 = .ok (.ifCond .ne 16, 3) := by decide +kernel
theorem dX12_shelve_133 : decode cX12_shelve 133 = .ok (.iload_n 2, 1) := by decide +kernel
theorem dX12_shelve_134 : decode cX12_shelve 134 = .ok (.iconst 2, 1) := by decide +kernel
theorem dX12_shelve_135 : decode cX12_shelve 135 = .ok (.if_icmp .ne 39, 3) := by decide +kernel
theorem dX12_shelve_138 : decode cX12_shelve 138 = .ok (.aload_n 0, 1) := by decide +kernel
theorem dX12_shelve_139 : decode cX12_shelve 139 = .ok (.getfield 134, 3) := by decide +kernel
theorem dX12_shelve_142 : decode cX12_shelve 142 = .ok (.iload_n 1, 1) := by decide +kernel
theorem dX12_shelve_143 : decode cX12_shelve 143 = .ok (.iload_n 3, 1) := by decide +kernel
theorem dX12_shelve_144 : decode cX12_shelve 144 = .ok (.iastore, 1) := by decide +kernel
theorem dX12_shelve_145 : decode cX12_shelve 145 = .ok (.iconst 0, 1) := by decide +kernel
theorem dX12_shelve_146 : decode cX12_shelve 146 = .ok (.istore 5, 2) := by decide +kernel
theorem dX12_shelve_148 : decode cX12_shelve 148 = .ok (.iload 5, 2) := by decide +kernel
theorem dX12_shelve_150 : decode cX12_shelve 150 = .ok (.iload_n 3, 1) := by decide +kernel
theorem dX12_shelve_151 : decode cX12_shelve 151 = .ok (.if_icmp .ge 23, 3) := by decide +kernel
theorem dX12_shelve_154 : decode cX12_shelve 154 = .ok (.aload_n 0, 1) := by decide +kernel
theorem dX12_shelve_155 : decode cX12_shelve 155 = .ok (.getfield 137, 3) := by decide +kernel
theorem dX12_shelve_158 : decode cX12_shelve 158 = .ok (.bipush 8, 2) := by decide +kernel
theorem dX12_shelve_160 : decode cX12_shelve 160 = .ok (.iload_n 1, 1) := by decide +kernel
theorem dX12_shelve_161 : decode cX12_shelve 161 = .ok (.imul, 1) := by decide +kernel
theorem dX12_shelve_162 : decode cX12_shelve 162 = .ok (.iload 5, 2) := by decide +kernel
theorem dX12_shelve_164 : decode cX12_shelve 164 = .ok (.iadd, 1) := by decide +kernel
theorem dX12_shelve_165 : decode cX12_shelve 165 = .ok (.iload 4, 2) := by decide +kernel
theorem dX12_shelve_167 : decode cX12_shelve 167 = .ok (.iastore, 1) := by decide +kernel
theorem dX12_shelve_168 : decode cX12_shelve 168 = .ok (.iinc 5 1, 3) := by decide +kernel
theorem dX12_shelve_171 : decode cX12_shelve 171 = .ok (.goto (-23), 3) := by decide +kernel
theorem dX12_shelve_174 : decode cX12_shelve 174 = .ok (.iconst 1, 1) := by decide +kernel
theorem dX12_shelve_175 : decode cX12_shelve 175 = .ok (.ireturn, 1) := by decide +kernel
theorem inn_X12_shelve_12 : ∀ w ∈ u_ws RX12 TX12 66, w ∈ wsX12_shelve := fun w h => List.mem_cons_of_mem _ (List.mem_append_right _ h)
