set_option maxRecDepth 20000 in
theorem ggX12_condition_X12_which : GoodIn wsX12_condition wsX12_which := goodIn_h _ [5, 3, 0, 0, 0, 0, 0, 0, 0, 0, 0, 0, 0, 0, 0, 0, 0, 0, 0, 0, 0, 0, 0, 0, 0, 0, 0, 0, 0, 0, 0, 0, 0, 0, 0, 0, 0, 0, 0, 0, 0, 0, 0, 0, 0, 0, 0, 0, 0, 0, 0, 0, 0, 0, 0, 0, 0, 0, 0, 0, 0, 21, 0, 0, 0, 0, 0, 0, 0, 0, 0, 0, 0, 0, 0, 0, 0, 0, 0, 0, 0, 0, 0, 0, 0, 0, 0, 0, 0, 0, 0, 0, 0, 0, 0, 0, 0, 0, 0, 0, 0, 0, 0, 0, 0, 0, 0, 0, 0, 0, 0, 0, 0, 0, 0, 0, 0, 0, 0, 0, 0, 0, 0, 0, 0, 0, 0] [2, 3, 0, 4, 5, 6, 7, 8, 9, 10, 11, 12, 13, 14, 15, 16, 17, 18, 19, 20, 21, 22, 23, 24, 25, 26, 27, 28, 29, 30, 31, 32, 33, 34, 35, 36, 37, 38, 39, 40, 41, 42, 43, 44, 45, 46, 47, 48, 49, 50, 51, 52, 53, 54, 55, 56, 57, 1, 58, 59, 60, 61, 62, 63, 64, 65, 66, 67, 68, 69, 70, 71, 72, 73, 74, 75, 76, 77, 78, 79, 80, 81, 82, 83, 84, 85, 86, 87, 88, 89, 90, 91, 92, 93, 94, 95, 96, 97, 98, 99, 100, 101, 102, 103, 104, 105, 106, 107, 108, 109, 110, 111, 112, 113, 114, 115, 116, 117, 118, 119, 120, 121, 122, 123, 124, 125, 126] (by decide +kernel) (by decide +kernel)
set_option maxRecDepth 20000 in
theorem gX12_condition_X12_which : GoodIn wsX12_condition (wsV RX12 254 RX12 yX12_which wsX12_which) := goodIn_app (goodIn_of _ (by decide +kernel)) ggX12_condition_X12_which
set_option maxRecDepth 20000 in
theorem ggX12_condition_X12_wrong : GoodIn wsX12_condition wsX12_wrong := goodIn_h _ [5, 7, 58, 0, 16, 0, 0, 0, 0, 0, 0, 0, 0, 0, 0, 0, 0, 0, 0, 0, 0, 0, 0, 0, 0, 0, 0, 0, 0, 0, 0, 0, 0, 0, 0, 0, 0, 0, 0, 0, 0, 0, 0, 0, 0, 0, 0, 0, 0, 0, 0, 0, 0, 0, 0, 0, 0, 0, 0, 0, 0, 0, 0, 0, 0, 0, 0, 0, 0, 0] [2, 0, 1, 3, 4, 5, 6, 7, 8, 9, 10, 11, 12, 13, 14, 15, 16, 17, 18, 19, 20, 21, 22, 23, 24, 25, 26, 27, 28, 29, 30, 31, 32, 33, 34, 35, 36, 37, 38, 39, 40, 41, 42, 43, 44, 45, 46, 47, 48, 49, 50, 51, 52, 53, 54, 55, 56, 57, 58, 59, 60, 61, 62, 63, 64, 65, 66, 67, 68, 69] (by decide +kernel) (by decide +kernel)
set_option maxRecDepth 20000 in
theorem gX12_condition_X12_wrong : GoodIn wsX12_condition (wsV RX12 246 RX12 yX12_wrong wsX12_wrong) := goodIn_app (goodIn_of _ (by decide +kernel)) ggX12_condition_X12_wrong
set_option maxRecDepth 20000 in
theorem ggX12_condition_X12_token : GoodIn wsX12_condition wsX12_token := goodIn_h _ [9, 1, 0, 0, 49, 0, 0, 0, 0, 0, 8, 0, 0, 0, 0, 8, 0, 0, 0, 0, 0, 0, 0, 0, 0, 0, 0, 0, 0, 0, 0, 0, 0, 0, 0, 0, 0, 0, 0, 0, 0, 0, 0, 0, 0, 0, 0, 0, 0, 0, 0, 0, 0, 0, 0, 0, 0, 0, 0, 0, 0, 0, 0, 0, 0, 0, 0, 0, 0, 0, 0, 0, 0, 0, 0, 0, 0, 0, 0, 0, 0] [10, 2, 3, 8, 1, 11, 4, 5, 6, 0, 7, 9, 12, 13, 14, 15, 16, 17, 18, 19, 20, 21, 22, 23, 24, 25, 26, 27, 28, 29, 30, 31, 32, 33, 34, 35, 36, 37, 38, 39, 40, 41, 42, 43, 44, 45, 46, 47, 48, 49, 50, 51, 52, 53, 54, 55, 56, 57, 58, 59, 60, 61, 62, 63, 64, 65, 66, 67, 68, 69, 70, 71, 72, 73, 74, 75, 76, 77, 78, 79, 80] (by decide +kernel) (by decide +kernel)
set_option maxRecDepth 20000 in
theorem gX12_condition_X12_token : GoodIn wsX12_condition (wsV RX12 249 RX12 yX12_token wsX12_token) := goodIn_app (goodIn_of _ (by decide +kernel)) ggX12_condition_X12_token
set_option maxRecDepth 20000 in
theorem ggX12_condition_X12_is : GoodIn wsX12_condition wsX12_is := goodIn_h _ [5, 3, 2, 0, 0, 0, 0, 0, 0, 0, 0, 0, 0, 0, 0, 0, 0, 0, 0, 0, 0, 0, 0, 0, 0, 0, 0, 0, 0, 0, 0, 0, 0, 0, 0, 0, 0, 0, 0, 0, 0, 0, 0, 0, 0, 0, 0, 0, 0, 0, 0, 0, 0, 0, 0, 0, 0, 0, 0, 16, 4, 0, 0, 0, 0, 0, 0, 0, 0, 0, 0, 0, 0, 0, 0, 0, 0, 0, 0, 0, 0, 0, 0, 0, 0, 0, 0, 0, 0, 0, 0, 0, 0, 0, 0, 0, 0, 0, 0, 0, 0, 0, 0, 0, 0, 0, 0, 0, 0, 0, 0, 0, 0, 0, 0, 0, 0, 0, 0, 0, 0, 0, 0, 0, 0, 0] [59, 0, 2, 3, 4, 5, 6, 7, 8, 9, 10, 11, 12, 13, 14, 15, 53, 54, 55, 1, 56, 57, 58, 16, 17, 18, 19, 20, 21, 22, 23, 24, 25, 26, 27, 28, 29, 30, 31, 32, 33, 34, 35, 36, 37, 38, 39, 40, 41, 42, 43, 44, 45, 46, 47, 48, 49, 50, 51, 52, 60, 61, 62, 63, 64, 65, 66, 67, 68, 69, 70, 71, 72, 73, 74, 75, 76, 77, 78, 79, 80, 81, 82, 83, 84, 85, 86, 87, 88, 89, 90, 91, 92, 93, 94, 95, 96, 97, 98, 99, 100, 101, 102, 103, 104, 105, 106, 107, 108, 109, 110, 111, 112, 113, 114, 115, 116, 117, 118, 119, 120, 121, 122, 123, 124, 125] (by decide +kernel) (by decide +kernel)
set_option maxRecDepth 20000 in
theorem gX12_condition_X12_is : GoodIn wsX12_condition (wsV RX12 242 RX12 yX12_is wsX12_is) := goodIn_app (goodIn_of _ (by decide +kernel)) ggX12_condition_X12_is
set_option maxRecDepth 20000 in
theorem ggX12_condition_X12_number : GoodIn wsX12_condition wsX12_number := goodIn_h _ [5, 3, 1, 0, 0, 49, 0, 0, 0, 0, 0, 0, 0, 0, 0, 0, 0, 0, 0, 0, 0, 0, 0, 0, 7, 0, 0, 0, 0, 0, 0, 0, 0, 0, 0, 0, 0, 0, 0, 0, 0, 0, 0, 0, 0, 0, 0, 0, 0, 0, 0, 0, 0, 0, 0, 0, 0, 0, 0, 0, 0, 0, 0, 0, 0, 0, 0, 0, 0, 0, 0, 0, 0, 0, 0, 0, 0, 0, 0, 0, 0, 0, 0, 0, 0, 0, 0, 0, 0, 0, 0] [24, 2, 20, 11, 12, 13, 1, 14, 0, 4, 15, 16, 17, 18, 19, 3, 9, 5, 6, 7, 8, 10, 21, 22, 23, 25, 26, 27, 28, 29, 30, 31, 32, 33, 34, 35, 36, 37, 38, 39, 40, 41, 42, 43, 44, 45, 46, 47, 48, 49, 50, 51, 52, 53, 54, 55, 56, 57, 58, 59, 60, 61, 62, 63, 64, 65, 66, 67, 68, 69, 70, 71, 72, 73, 74, 75, 76, 77, 78, 79, 80, 81, 82, 83, 84, 85, 86, 87, 88, 89, 90] (by decide +kernel) (by decide +kernel)
set_option maxRecDepth 20000 in
theorem gX12_condition_X12_number : GoodIn wsX12_condition (wsV RX12 264 RX12 yX12_number wsX12_number) := goodIn_app (goodIn_of _ (by decide +kernel)) ggX12_condition_X12_number
theorem dX12_condition_0 : decode cX12_condition 0 = .ok (.aload_n 0, 1) := by decide +kernel
theorem dX12_condition_1 : decode cX12_condition 1 = .ok (.ldc 252, 2) := by decide +kernel
theorem dX12_condition_3 : decode cX12_condition 3 = .ok (.invokevirtual 254, 3) := by decide +kernel
theorem dX12_condition_6 : decode cX12_condition 6 = .ok (.istore_n 2, 1) := by decide +kernel
theorem dX12_condition_7 : decode cX12_condition 7 = .ok (.iload_n 2, 1) := by decide +kernel
theorem dX12_condition_8 : decode cX12_condition 8 = .ok (.iconst (-1), 1) := by decide +kernel
theorem dX12_condition_9 : decode cX12_condition 9 = .ok (.if_icmp .ne 9, 3) := by decide +kernel
theorem dX12_condition_12 : decode cX12_condition 12 = .ok (.aload_n 0, 1) := by decide +kernel
theorem dX12_condition_13 : decode cX12_condition 13 = .ok (.iconst 1, 1) := by decide +kernel
theorem dX12_condition_14 : decode cX12_condition 14 = .ok (.invokevirtual 246, 3) := by decide +kernel
theorem dX12_condition_17 : decode cX12_condition 17 = .ok (.ireturn, 1) := by decide +kernel
theorem dX12_condition_18 : decode cX12_condition 18 = .ok (.aload_n 0, 1) := by decide +kernel
theorem dX12_condition_19 : decode cX12_condition 19 = .ok (.getfield 70, 3) := by decide +kernel
theorem dX12_condition_22 : decode cX12_condition 22 = .ok (.iload_n 1, 1) := by decide +kernel
theorem dX12_condition_23 : decode cX12_condition 23 = .ok (.iaload, 1) := by decide +kernel
theorem dX12_condition_24 : decode cX12_condition 24 = .ok (.iconst 4, 1) := by decide +kernel
theorem dX12_condition_25 : decode cX12_condition 25 = .ok (.if_icmp .ne 9, 3) := by decide +kernel
theorem dX12_condition_28 : decode cX12_condition 28 = .ok (.aload_n 0, 1) := by decide +kernel
theorem dX12_condition_29 : decode cX12_condition 29 = .ok (.iconst 2, 1) := by decide +kernel
theorem dX12_condition_30 : decode cX12_condition 30 = .ok (.invokevirtual 246, 3) := by decide +kernel
theorem dX12_condition_33 : decode cX12_condition 33 = .ok (.ireturn, 1) := by decide +kernel
theorem dX12_condition_34 : decode cX12_condition 34 = .ok (.iconst 4, 1) := by decide +kernel
theorem dX12_condition_35 : decode cX12_condition 35 = .ok (.iload_n 1, 1) := by decide +kernel
theorem dX12_condition_36 : decode cX12_condition 36 = .ok (.imul, 1) := by decide +kernel
theorem dX12_condition_37 : decode cX12_condition 37 = .ok (.aload_n 0, 1) := by decide +kernel
theorem dX12_condition_38 : decode cX12_condition 38 = .ok (.getfield 70, 3) := by decide +kernel
theorem dX12_condition_41 : decode cX12_condition 41 = .ok (.iload_n 1, 1) := by decide +kernel
theorem dX12_condition_42 : decode cX12_condition 42 = .ok (.iaload, 1) := by decide +kernel
theorem dX12_condition_43 : decode cX12_condition 43 = .ok (.iadd, 1) := by decide +kernel
theorem dX12_condition_44 : decode cX12_condition 44 = .ok (.istore_n 3, 1) := by decide +kernel
theorem dX12_condition_45 : decode cX12_condition 45 = .ok (.aload_n 0, 1) := by decide +kernel
theorem dX12_condition_46 : decode cX12_condition 46 = .ok (.invokevirtual 249, 3) := by decide +kernel
theorem dX12_condition_49 : decode cX12_condition 49 = .ok (.aload_n 0, 1) := by decide +kernel
theorem dX12_condition_50 : decode cX12_condition 50 = .ok (.getfield 73, 3) := by decide +kernel
theorem dX12_condition_53 : decode cX12_condition 53 = .ok (.iload_n 3, 1) := by decide +kernel
theorem dX12_condition_54 : decode cX12_condition 54 = .ok (.iload_n 2, 1) := by decide +kernel
theorem dX12_condition_55 : decode cX12_condition 55 = .ok (.iastore, 1) := by decide +kernel
theorem dX12_condition_56 : decode cX12_condition 56 = .ok (.aload_n 0, 1) := by decide +kernel
theorem dX12_condition_57 : decode cX12_condition 57 = .ok (.getfield 76, 3) := by decide +kernel
theorem dX12_condition_60 : decode cX12_condition 60 = .ok (.iload_n 3, 1) := by decide +kernel
theorem dX12_condition_61 : decode cX12_condition 61 = .ok (.aload_n 0, 1) := by decide +kernel
theorem dX12_condition_62 : decode cX12_condition 62 = .ok (.ldc_w 258, 3) := by decide +kernel
theorem dX12_condition_65 : decode cX12_condition 65 = .ok (.invokevirtual 242, 3) := by decide +kernel
theorem dX12_condition_68 : decode cX12_condition 68 = .ok (.ifCond .eq 7, 3) := by decide +kernel
theorem dX12_condition_71 : decode cX12_condition 71 = .ok (.iconst 0, 1) := by decide +kernel
theorem dX12_condition_72 : decode cX12_condition 72 = .ok (.goto 18, 3) := by decide +kernel
theorem dX12_condition_75 : decode cX12_condition 75 = .ok (.aload_n 0, 1) := by decide +kernel
theorem dX12_condition_76 : decode cX12_condition 76 = .ok (.ldc_w 260, 3) := by decide +kernel
theorem dX12_condition_79 : decode cX12_condition 79 = .ok (.invokevirtual 242, 3) := by decide +kernel
theorem dX12_condition_82 : decode cX12_condition 82 = .ok (.ifCond .eq 7, 3) := by decide +kernel
theorem dX12_condition_85 : decode cX12_condition 85 = .ok (.iconst 1, 1) := by decide +kernel
theorem dX12_condition_86 : decode cX12_condition 86 = .ok (.goto 4, 3) := by decide +kernel
theorem dX12_condition_89 : decode cX12_condition 89 = .ok (.iconst 2, 1) := by decide +kernel
theorem dX12_condition_90 : decode cX12_condition 90 = .ok (.iastore, 1) := by decide +kernel
theorem dX12_condition_91 : decode cX12_condition 91 = .ok (.aload_n 0, 1) := by decide +kernel
theorem dX12_condition_92 : decode cX12_condition 92 = .ok (.ldc_w 258, 3) := by decide +kernel
theorem dX12_condition_95 : decode cX12_condition 95 = .ok (.invokevirtual 242, 3) := by decide +kernel
theorem dX12_condition_98 : decode cX12_condition 98 = .ok (.ifCond .ne 29, 3) := by decide +kernel
theorem dX12_condition_101 : decode cX12_condition 101 = .ok (.aload_n 0, 1) := by decide +kernel
theorem dX12_condition_102 : decode cX12_condition 102 = .ok (.ldc_w 260, 3) := by decide +kernel
theorem dX12_condition_105 : decode cX12_condition 105 = .ok (.invokevirtual 242, 3) := by decide +kernel
theorem dX12_condition_108 : decode cX12_condition 108 = .ok (.ifCond .ne 19, 3) := by decide +kernel
theorem dX12_condition_111 : decode cX12_condition 111 = .ok (.aload_n 0, 1) := by decide +kernel
theorem dX12_condition_112 : decode cX12_condition 112 = .ok (.ldc_w 262, 3) := by decide +kernel
theorem dX12_condition_115 : decode cX12_condition 115 = .ok (.invokevirtual 242, 3) := by decide +kernel
theorem dX12_condition_118 : decode cX12_condition 118 = .ok (.ifCond .ne 9, 3) := by decide +kernel
theorem dX12_condition_121 : decode cX12_condition 121 = .ok (.aload_n 0, 1) := by decide +kernel
theorem dX12_condition_122 : decode cX12_condition 122 = .ok (.iconst 1, 1) := by decide +kernel
theorem dX12_condition_123 : decode cX12_condition 123 = .ok (.invokevirtual 246, 3) := by decide +kernel
theorem dX12_condition_126 : decode cX12_condition 126 = .ok (.ireturn, 1) := by decide +kernel
theorem dX12_condition_127 : decode cX12_condition 127 = .ok (.aload_n 0, 1) := by decide +kernel
theorem dX12_condition_128 : decode cX12_condition 128 = .ok (.invokevirtual 249, 3) := by decide +kernel
theorem dX12_condition_131 : decode cX12_condition 131 = .ok (.aload_n 0, 1) := by decide +kernel
theorem dX12_condition_132 : decode cX12_condition 132 = .ok (.getfield 79, 3) := by decide +kernel
theorem dX12_condition_135 : decode cX12_condition 135 = .ok (.iload_n 3, 1) := by decide +kernel
theorem dX12_condition_136 : decode cX12_condition 136 = .ok (.aload_n 0, 1) := by decide +kernel
theorem dX12_condition_137 : decode cX12_condition 137 = .ok (.invokevirtual 264, 3) := by decide +kernel
theorem dX12_condition_140 : decode cX12_condition 140 = .ok (.iastore, 1) := by decide +kernel
theorem dX12_condition_141 : decode cX12_condition 141 = .ok (.aload_n 0, 1) := by decide +kernel
theorem dX12_condition_142 : decode cX12_condition 142 = .ok (.getfield 70, 3) := by decide +kernel
theorem dX12_condition_145 : decode cX12_condition 145 = .ok (.iload_n 1, 1) := by decide +kernel
theorem dX12_condition_146 : decode cX12_condition 146 = .ok (.dup2, 1) := by decide +kernel
theorem dX12_condition_147 : decode cX12_condition 147 = .ok (.iaload, 1) := by decide +kernel
theorem dX12_condition_148 : decode cX12_condition 148 = .ok (.iconst 1, 1) := by decide +kernel
theorem dX12_condition_149 : decode cX12_condition 149 = .ok (.iadd, 1) := by decide +kernel
theorem dX12_condition_150 : decode cX12_condition 150 = .ok (.iastore, 1) := by decide +kernel
theorem dX12_condition_151 : decode cX12_condition 151 = .ok (.aload_n 0, 1) := by decide +kernel
theorem dX12_condition_152 : decode cX12_condition 152 = .ok (.getfield 229, 3) := by decide +kernel
theorem dX12_condition_155 : decode cX12_condition 155 = .ok (.ifCond .ne 7, 3) := by decide +kernel
theorem dX12_condition_158 : decode cX12_condition 158 = .ok (.iconst 1, 1) := by decide +kernel
theorem dX12_condition_159 : decode cX12_condition 159 = .ok (.goto 4, 3) := by decide +kernel
theorem dX12_condition_162 : decode cX12_condition 162 = .ok (.iconst 0, 1) := by decide +kernel
theorem dX12_condition_163 : decode cX12_condition 163 = .ok (.ireturn, 1) := by decide +kernel
theorem inn_X12_condition_12 : ∀ w ∈ u_ws RX12 TX12 66, w ∈ wsX12_condition := fun w h => List.mem_cons_of_mem _ (List.mem_append_right _ h)
