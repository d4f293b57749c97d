set_option maxRecDepth 20000 in
theorem ggX12_condition_X12_which : GoodIn wsX12_condition wsX12_which := goodIn_r _ [10, 11, 5, 12, 13, 14, 15, 16, 17, 18, 19, 20, 21, 22, 23, 24, 25, 26, 27, 28, 29, 30, 31, 32, 33, 34, 35, 36, 37, 38, 39, 40, 41, 42, 43, 44, 45, 46, 47, 48, 49, 50, 51, 52, 53, 54, 55, 56, 57, 58, 59, 60, 61, 62, 63, 64, 65, 9, 66, 67, 68, 90, 91, 92, 93, 94, 95, 96, 97, 98, 99, 100, 101, 102, 103, 104, 105, 106, 107, 108, 109, 110, 111, 112, 113, 114, 115, 116, 117, 118, 119, 120, 121, 122, 123, 124, 125, 126, 127, 128, 129, 130, 131, 132, 133, 134, 135, 136, 137, 138, 139, 140, 141, 142, 143, 144, 145, 146, 147, 148, 149, 150, 151, 152, 153, 154, 155] (by decide +kernel) (by decide +kernel)
set_option maxRecDepth 20000 in
theorem gX12_condition_X12_which : GoodIn wsX12_condition (wsV RX12 254 RX12 yX12_which wsX12_which) := goodIn_app (goodIn_of _ (by decide +kernel)) ggX12_condition_X12_which
set_option maxRecDepth 20000 in
theorem ggX12_condition_X12_wrong : GoodIn wsX12_condition wsX12_wrong := goodIn_r _ [72, 5, 13, 73, 90, 91, 92, 93, 94, 95, 96, 97, 98, 99, 100, 101, 102, 103, 104, 105, 106, 107, 108, 109, 110, 111, 112, 113, 114, 115, 116, 117, 118, 119, 120, 121, 122, 123, 124, 125, 126, 127, 128, 129, 130, 131, 132, 133, 134, 135, 136, 137, 138, 139, 140, 141, 142, 143, 144, 145, 146, 147, 148, 149, 150, 151, 152, 153, 154, 155] (by decide +kernel) (by decide +kernel)
set_option maxRecDepth 20000 in
theorem gX12_condition_X12_wrong : GoodIn wsX12_condition (wsV RX12 246 RX12 yX12_wrong wsX12_wrong) := goodIn_app (goodIn_of _ (by decide +kernel)) ggX12_condition_X12_wrong
set_option maxRecDepth 20000 in
theorem ggX12_condition_X12_token : GoodIn wsX12_condition wsX12_token := goodIn_r _ [77, 12, 13, 67, 11, 78, 63, 64, 65, 9, 66, 68, 79, 80, 81, 90, 91, 92, 93, 94, 95, 96, 97, 98, 99, 100, 101, 102, 103, 104, 105, 106, 107, 108, 109, 110, 111, 112, 113, 114, 115, 116, 117, 118, 119, 120, 121, 122, 123, 124, 125, 126, 127, 128, 129, 130, 131, 132, 133, 134, 135, 136, 137, 138, 139, 140, 141, 142, 143, 144, 145, 146, 147, 148, 149, 150, 151, 152, 153, 154, 155] (by decide +kernel) (by decide +kernel)
set_option maxRecDepth 20000 in
theorem gX12_condition_X12_token : GoodIn wsX12_condition (wsV RX12 249 RX12 yX12_token wsX12_token) := goodIn_app (goodIn_of _ (by decide +kernel)) ggX12_condition_X12_token
set_option maxRecDepth 20000 in
theorem ggX12_condition_X12_is : GoodIn wsX12_condition wsX12_is := goodIn_r _ [85, 5, 12, 13, 14, 15, 16, 17, 18, 19, 20, 21, 22, 23, 24, 25, 63, 64, 65, 9, 66, 67, 68, 26, 27, 28, 29, 30, 31, 32, 33, 34, 35, 36, 37, 38, 39, 40, 41, 42, 43, 44, 45, 46, 47, 48, 49, 50, 51, 52, 53, 54, 55, 56, 57, 58, 59, 60, 61, 62, 90, 91, 92, 93, 94, 95, 96, 97, 98, 99, 100, 101, 102, 103, 104, 105, 106, 107, 108, 109, 110, 111, 112, 113, 114, 115, 116, 117, 118, 119, 120, 121, 122, 123, 124, 125, 126, 127, 128, 129, 130, 131, 132, 133, 134, 135, 136, 137, 138, 139, 140, 141, 142, 143, 144, 145, 146, 147, 148, 149, 150, 151, 152, 153, 154, 155] (by decide +kernel) (by decide +kernel)
set_option maxRecDepth 20000 in
theorem gX12_condition_X12_is : GoodIn wsX12_condition (wsV RX12 242 RX12 yX12_is wsX12_is) := goodIn_app (goodIn_of _ (by decide +kernel)) ggX12_condition_X12_is
set_option maxRecDepth 20000 in
theorem ggX12_condition_X12_number : GoodIn wsX12_condition wsX12_number := goodIn_r _ [89, 11, 78, 69, 70, 71, 9, 72, 5, 13, 73, 74, 75, 76, 77, 12, 67, 63, 64, 65, 66, 68, 79, 80, 81, 90, 91, 92, 93, 94, 95, 96, 97, 98, 99, 100, 101, 102, 103, 104, 105, 106, 107, 108, 109, 110, 111, 112, 113, 114, 115, 116, 117, 118, 119, 120, 121, 122, 123, 124, 125, 126, 127, 128, 129, 130, 131, 132, 133, 134, 135, 136, 137, 138, 139, 140, 141, 142, 143, 144, 145, 146, 147, 148, 149, 150, 151, 152, 153, 154, 155] (by decide +kernel) (by decide +kernel)
set_option maxRecDepth 20000 in
theorem gX12_condition_X12_number : GoodIn wsX12_condition (wsV RX12 264 RX12 yX12_number wsX12_number) := goodIn_app (goodIn_of _ (by decide +kernel)) ggX12_condition_X12_number
theorem dX12_condition_0 : decode cX12_condition 0 = .ok (.aload_n 0, 1) := by decide +kernel
theorem dX12_condition_1 : decode cX12_condition 1 = .ok (.ldc 252, 2) := by decide +kernel
theorem dX12_condition_3 : decode cX12_condition 3 = .ok (.invokevirtual 254, 3) := by decide +kernel
theorem dX12_condition_6 : decode cX12_condition 6 = .ok (.istore_n 2, 1) := by decide +kernel
theorem dX12_condition_7 : decode cX12_condition 7 = .ok (.iload_n 2, 1) := by decide +kernel
theorem dX12_condition_8 : decode cX12_condition 8 = .ok (.iconst (-1), 1) := by decide +kernel
theorem dX12_condition_9 : decode cX12_condition 9 = .ok (.if_icmp .ne 9, 3) := by decide +kernel
theorem dX12_condition_12 : decode cX12_condition 12 = .ok (.aload_n 0, 1) := by decide +kernel
theorem dX12_condition_13 : decode cX12_condition 13 = .ok (.iconst 1, 1) := by decide +kernel
theorem dX12_condition_14 : decode cX12_condition 14 = .ok (.invokevirtual 246, 3) := by decide +kernel
theorem dX12_condition_17 : decode cX12_condition 17 = .ok (.ireturn, 1) := by decide +kernel
theorem dX12_condition_18 : decode cX12_condition 18 = .ok (.aload_n 0, 1) := by decide +kernel
theorem dX12_condition_19 : decode cX12_condition 19 = .ok (.getfield 70, 3) := by decide +kernel
theorem dX12_condition_22 : decode cX12_condition 22 = .ok (.iload_n 1, 1) := by decide +kernel
theorem dX12_condition_23 : decode cX12_condition 23 = .ok (.iaload, 1) := by decide +kernel
theorem dX12_condition_24 : decode cX12_condition 24 = .ok (.iconst 4, 1) := by decide +kernel
theorem dX12_condition_25 : decode cX12_condition 25 = .ok (.if_icmp .ne 9, 3) := by decide +kernel
theorem dX12_condition_28 : decode cX12_condition 28 = .ok (.aload_n 0, 1) := by decide +kernel
theorem dX12_condition_29 : decode cX12_condition 29 = .ok (.iconst 2, 1) := by decide +kernel
theorem dX12_condition_30 : decode cX12_condition 30 = .ok (.invokevirtual 246, 3) := by decide +kernel
theorem dX12_condition_33 : decode cX12_condition 33 = .ok (.ireturn, 1) := by decide +kernel
theorem dX12_condition_34 : decode cX12_condition 34 = .ok (.iconst 4, 1) := by decide +kernel
theorem dX12_condition_35 : decode cX12_condition 35 = .ok (.iload_n 1, 1) := by decide +kernel
theorem dX12_condition_36 : decode cX12_condition 36 = .ok (.imul, 1) := by decide +kernel
theorem dX12_condition_37 : decode cX12_condition 37 = .ok (.aload_n 0, 1) := by decide +kernel
theorem dX12_condition_38 : decode cX12_condition 38 = .ok (.getfield 70, 3) := by decide +kernel
theorem dX12_condition_41 : decode cX12_condition 41 = .ok (.iload_n 1, 1) := by decide +kernel
theorem dX12_condition_42 : decode cX12_condition 42 = .ok (.iaload, 1) := by decide +kernel
theorem dX12_condition_43 : decode cX12_condition 43 = .ok (.iadd, 1) := by decide +kernel
theorem dX12_condition_44 : decode cX12_condition 44 = .ok (.istore_n 3, 1) := by decide +kernel
theorem dX12_condition_45 : decode cX12_condition 45 = .ok (.aload_n 0, 1) := by decide +kernel
theorem dX12_condition_46 : decode cX12_condition 46 = .ok (.invokevirtual 249, 3) := by decide +kernel
theorem dX12_condition_49 : decode cX12_condition 49 = .ok (.aload_n 0, 1) := by decide +kernel
theorem dX12_condition_50 : decode cX12_condition 50 = .ok (.getfield 73, 3) := by decide +kernel
theorem dX12_condition_53 : decode cX12_condition 53 = .ok (.iload_n 3, 1) := by decide +kernel
theorem dX12_condition_54 : decode cX12_condition 54 = .ok (.iload_n 2, 1) := by decide +kernel
theorem dX12_condition_55 : decode cX12_condition 55 = .ok (.iastore, 1) := by decide +kernel
theorem dX12_condition_56 : decode cX12_condition 56 = .ok (.aload_n 0, 1) := by decide +kernel
theorem dX12_condition_57 : decode cX12_condition 57 = .ok (.getfield 76, 3) := by decide +kernel
theorem dX12_condition_60 : decode cX12_condition 60 = .ok (.iload_n 3, 1) := by decide +kernel
theorem dX12_condition_61 : decode cX12_condition 61 = .ok (.aload_n 0, 1) := by decide +kernel
theorem dX12_condition_62 : decode cX12_condition 62 = .ok (.ldc_w 258, 3) := by decide +kernel
theorem dX12_condition_65 : decode cX12_condition 65 = .ok (.invokevirtual 242, 3) := by decide +kernel
theorem dX12_condition_68 : decode cX12_condition 68 = .ok (.ifCond .eq 7, 3) := by decide +kernel
theorem dX12_condition_71 : decode cX12_condition 71 = .ok (.iconst 0, 1) := by decide +kernel
theorem dX12_condition_72 : decode cX12_condition 72 = .ok (.goto 18, 3) := by decide +kernel
theorem dX12_condition_75 : decode cX12_condition 75 = .ok (.aload_n 0, 1) := by decide +kernel
theorem dX12_condition_76 : decode cX12_condition 76 = .ok (.ldc_w 260, 3) := by decide +kernel
theorem dX12_condition_79 : decode cX12_condition 79 = .ok (.invokevirtual 242, 3) := by decide +kernel
theorem dX12_condition_82 : decode cX12_condition 82 = .ok (.ifCond .eq 7, 3) := by decide +kernel
theorem dX12_condition_85 : decode cX12_condition 85 = .ok (.iconst 1, 1) := by decide +kernel
theorem dX12_condition_86 : decode cX12_condition 86 = .ok (.goto 4, 3) := by decide +kernel
theorem dX12_condition_89 : decode cX12_condition 89 = .ok (.iconst 2, 1) := by decide +kernel
theorem dX12_condition_90 : decode cX12_condition 90 = .ok (.iastore, 1) := by decide +kernel
theorem dX12_condition_91 : decode cX12_condition 91 = .ok (.aload_n 0, 1) := by decide +kernel
theorem dX12_condition_92 : decode cX12_condition 92 = .ok (.ldc_w 258, 3) := by decide +kernel
theorem dX12_condition_95 : decode cX12_condition 95 = .ok (.invokevirtual 242, 3) := by decide +kernel
theorem dX12_condition_98 : decode cX12_condition 98 = .ok (.ifCond .ne 29, 3) := by decide +kernel
theorem dX12_condition_101 : decode cX12_condition 101 = .ok (.aload_n 0, 1) := by decide +kernel
theorem dX12_condition_102 : decode cX12_condition 102 = .ok (.ldc_w 260, 3) := by decide +kernel
theorem dX12_condition_105 : decode cX12_condition 105 = .ok (.invokevirtual 242, 3) := by decide +kernel
theorem dX12_condition_108 : decode cX12_condition 108 = .ok (.ifCond .ne 19, 3) := by decide +kernel
theorem dX12_condition_111 : decode cX12_condition 111 = .ok (.aload_n 0, 1) := by decide +kernel
theorem dX12_condition_112 : decode cX12_condition 112 = .ok (.ldc_w 262, 3) := by decide +kernel
theorem dX12_condition_115 : decode cX12_condition 115 = .ok (.invokevirtual 242, 3) := by decide +kernel
theorem dX12_condition_118 : decode cX12_condition 118 = .ok (.ifCond .ne 9, 3) := by decide +kernel
theorem dX12_condition_121 : decode cX12_condition 121 = .ok (.aload_n 0, 1) := by decide +kernel
theorem dX12_condition_122 : decode cX12_condition 122 = .ok (.iconst 1, 1) := by decide +kernel
theorem dX12_condition_123 : decode cX12_condition 123 = .ok (.invokevirtual 246, 3) := by decide +kernel
theorem dX12_condition_126 : decode cX12_condition 126 = .ok (.ireturn, 1) := by decide +kernel
theorem dX12_condition_127 : decode cX12_condition 127 = .ok (.aload_n 0, 1) := by decide +kernel
theorem dX12_condition_128 : decode cX12_condition 128 = .ok (.invokevirtual 249, 3) := by decide +kernel
theorem dX12_condition_131 : decode cX12_condition 131 = .ok (.aload_n 0, 1) := by decide +kernel
theorem dX12_condition_132 : decode cX12_condition 132 = .ok (.getfield 79, 3) := by decide +kernel
theorem dX12_condition_135 : decode cX12_condition 135 = .ok (.iload_n 3, 1) := by decide +kernel
theorem dX12_condition_136 : decode cX12_condition 136 = .ok (.aload_n 0, 1) := by decide +kernel
theorem dX12_condition_137 : decode cX12_condition 137 = .ok (.invokevirtual 264, 3) := by decide +kernel
theorem dX12_condition_140 : decode cX12_condition 140 = .ok (.iastore, 1) := by decide +kernel
theorem dX12_condition_141 : decode cX12_condition 141 = .ok (.aload_n 0, 1) := by decide +kernel
theorem dX12_condition_142 : decode cX12_condition 142 = .ok (.getfield 70, 3) := by decide +kernel
theorem dX12_condition_145 : decode cX12_condition 145 = .ok (.iload_n 1, 1) := by decide +kernel
theorem dX12_condition_146 : decode cX12_condition 146 = .ok (.dup2, 1) := by decide +kernel
theorem dX12_condition_147 : decode cX12_condition 147 = .ok (.iaload, 1) := by decide +kernel
theorem dX12_condition_148 : decode cX12_condition 148 = .ok (.iconst 1, 1) := by decide +kernel
theorem dX12_condition_149 : decode cX12_condition 149 = .ok (.iadd, 1) := by decide +kernel
theorem dX12_condition_150 : decode cX12_condition 150 = .ok (.iastore, 1) := by decide +kernel
theorem dX12_condition_151 : decode cX12_condition 151 = .ok (.aload_n 0, 1) := by decide +kernel
theorem dX12_condition_152 : decode cX12_condition 152 = .ok (.getfield 229, 3) := by decide +kernel
theorem dX12_condition_155 : decode cX12_condition 155 = .ok (.ifCond .ne 7, 3) := by decide +kernel
theorem dX12_condition_158 : decode cX12_condition 158 = .ok (.iconst 1, 1) := by decide +kernel
theorem dX12_condition_159 : decode cX12_condition 159 = .ok (.goto 4, 3) := by decide +kernel
theorem dX12_condition_162 : decode cX12_condition 162 = .ok (.iconst 0, 1) := by decide +kernel
theorem dX12_condition_163 : decode cX12_condition 163 = .ok (.ireturn, 1) := by decide +kernel
set_option maxRecDepth 20000 in
theorem ggX12_rule_X12_is : GoodIn wsX12_rule wsX12_is := goodIn_r _ [9, 10, 11, 12, 13, 14, 15, 16, 17, 18, 19, 20, 21, 22, 23, 24, 25, 26, 27, 8, 28, 29, 30, 31, 32, 33, 34, 35, 36, 37, 38, 39, 40, 41, 42, 43, 44, 45, 46, 47, 48, 49, 50, 51, 52, 53, 54, 55, 56, 57, 58, 59, 60, 61, 62, 63, 64, 65, 66, 67, 101, 102, 103, 104, 105, 106, 107, 108, 109, 110, 111, 112, 113, 114, 115, 116, 117, 118, 119, 120, 121, 122, 123, 124, 125, 126, 127, 128, 129, 130, 131, 132, 133, 134, 135, 136, 137, 138, 139, 140, 141, 142, 143, 144, 145, 146, 147, 148, 149, 150, 151, 152, 153, 154, 155, 156, 157, 158, 159, 160, 161, 162, 163, 164, 165, 166] (by decide +kernel) (by decide +kernel)
set_option maxRecDepth 20000 in
theorem gX12_rule_X12_is : GoodIn wsX12_rule (wsV RX12 242 RX12 yX12_is wsX12_is) := goodIn_app (goodIn_of _ (by decide +kernel)) ggX12_rule_X12_is
set_option maxRecDepth 20000 in
theorem ggX12_rule_X12_which : GoodIn wsX12_rule wsX12_which := goodIn_r _ [71, 72, 10, 11, 12, 13, 14, 15, 16, 17, 18, 19, 20, 21, 22, 23, 24, 31, 32, 33, 34, 35, 36, 37, 38, 39, 40, 41, 42, 43, 44, 45, 46, 47, 48, 49, 50, 51, 52, 53, 54, 55, 56, 57, 58, 59, 60, 61, 62, 63, 64, 65, 66, 67, 25, 26, 27, 8, 28, 29, 30, 101, 102, 103, 104, 105, 106, 107, 108, 109, 110, 111, 112, 113, 114, 115, 116, 117, 118, 119, 120, 121, 122, 123, 124, 125, 126, 127, 128, 129, 130, 131, 132, 133, 134, 135, 136, 137, 138, 139, 140, 141, 142, 143, 144, 145, 146, 147, 148, 149, 150, 151, 152, 153, 154, 155, 156, 157, 158, 159, 160, 161, 162, 163, 164, 165, 166] (by decide +kernel) (by decide +kernel)
set_option maxRecDepth 20000 in
theorem gX12_rule_X12_which : GoodIn wsX12_rule (wsV RX12 254 RX12 yX12_which wsX12_which) := goodIn_app (goodIn_of _ (by decide +kernel)) ggX12_rule_X12_which
set_option maxRecDepth 20000 in
theorem ggX12_rule_X12_wrong : GoodIn wsX12_rule wsX12_wrong := goodIn_r _ [76, 10, 12, 77, 101, 102, 103, 104, 105, 106, 107, 108, 109, 110, 111, 112, 113, 114, 115, 116, 117, 118, 119, 120, 121, 122, 123, 124, 125, 126, 127, 128, 129, 130, 131, 132, 133, 134, 135, 136, 137, 138, 139, 140, 141, 142, 143, 144, 145, 146, 147, 148, 149, 150, 151, 152, 153, 154, 155, 156, 157, 158, 159, 160, 161, 162, 163, 164, 165, 166] (by decide +kernel) (by decide +kernel)
set_option maxRecDepth 20000 in
theorem gX12_rule_X12_wrong : GoodIn wsX12_rule (wsV RX12 246 RX12 yX12_wrong wsX12_wrong) := goodIn_app (goodIn_of _ (by decide +kernel)) ggX12_rule_X12_wrong
set_option maxRecDepth 20000 in
theorem ggX12_rule_X12_token : GoodIn wsX12_rule wsX12_token := goodIn_r _ [81, 11, 12, 29, 72, 82, 25, 26, 27, 8, 28, 30, 83, 84, 85, 101, 102, 103, 104, 105, 106, 107, 108, 109, 110, 111, 112, 113, 114, 115, 116, 117, 118, 119, 120, 121, 122, 123, 124, 125, 126, 127, 128, 129, 130, 131, 132, 133, 134, 135, 136, 137, 138, 139, 140, 141, 142, 143, 144, 145, 146, 147, 148, 149, 150, 151, 152, 153, 154, 155, 156, 157, 158, 159, 160, 161, 162, 163, 164, 165, 166] (by decide +kernel) (by decide +kernel)
set_option maxRecDepth 20000 in
theorem gX12_rule_X12_token : GoodIn wsX12_rule (wsV RX12 249 RX12 yX12_token wsX12_token) := goodIn_app (goodIn_of _ (by decide +kernel)) ggX12_rule_X12_token
set_option maxRecDepth 20000 in
theorem ggX12_rule_X12_condition : GoodIn wsX12_rule wsX12_condition := goodIn_r _ [89, 2, 90, 91, 92, 10, 68, 69, 70, 8, 71, 72, 11, 12, 13, 14, 15, 16, 17, 18, 19, 20, 21, 22, 23, 24, 31, 32, 33, 34, 35, 36, 37, 38, 39, 40, 41, 42, 43, 44, 45, 46, 47, 48, 49, 50, 51, 52, 53, 54, 55, 56, 57, 58, 59, 60, 61, 62, 63, 64, 65, 66, 67, 25, 26, 27, 28, 29, 30, 73, 74, 75, 76, 77, 78, 79, 80, 81, 82, 83, 84, 85, 5, 6, 7, 9, 93, 94, 95, 96, 101, 102, 103, 104, 105, 106, 107, 108, 109, 110, 111, 112, 113, 114, 115, 116, 117, 118, 119, 120, 121, 122, 123, 124, 125, 126, 127, 128, 129, 130, 131, 132, 133, 134, 135, 136, 137, 138, 139, 140, 141, 142, 143, 144, 145, 146, 147, 148, 149, 150, 151, 152, 153, 154, 155, 156, 157, 158, 159, 160, 161, 162, 163, 164, 165, 166] (by decide +kernel) (by decide +kernel)
set_option maxRecDepth 20000 in
theorem gX12_rule_X12_condition : GoodIn wsX12_rule (wsV RX12 271 RX12 yX12_condition wsX12_condition) := goodIn_app (goodIn_of _ (by decide +kernel)) ggX12_rule_X12_condition
set_option maxRecDepth 20000 in
theorem ggX12_rule_X12_must : GoodIn wsX12_rule wsX12_must := goodIn_r _ [100, 5, 6, 7, 8, 9, 10, 11, 12, 13, 14, 15, 16, 17, 18, 19, 20, 21, 22, 23, 24, 25, 26, 27, 28, 29, 30, 31, 32, 33, 34, 35, 36, 37, 38, 39, 40, 41, 42, 43, 44, 45, 46, 47, 48, 49, 50, 51, 52, 53, 54, 55, 56, 57, 58, 59, 60, 61, 62, 63, 64, 65, 66, 67, 73, 74, 75, 76, 77, 78, 79, 80, 81, 72, 82, 83, 84, 85, 101, 102, 103, 104, 105, 106, 107, 108, 109, 110, 111, 112, 113, 114, 115, 116, 117, 118, 119, 120, 121, 122, 123, 124, 125, 126, 127, 128, 129, 130, 131, 132, 133, 134, 135, 136, 137, 138, 139, 140, 141, 142, 143, 144, 145, 146, 147, 148, 149, 150, 151, 152, 153, 154, 155, 156, 157, 158, 159, 160, 161, 162, 163, 164, 165, 166] (by decide +kernel) (by decide +kernel)
set_option maxRecDepth 20000 in
theorem gX12_rule_X12_must : GoodIn wsX12_rule (wsV RX12 278 RX12 yX12_must wsX12_must) := goodIn_app (goodIn_of _ (by decide +kernel)) ggX12_rule_X12_must
set_option maxRecDepth 20000 in
theorem ggX12_rule_X12_number : GoodIn wsX12_rule wsX12_number := goodIn_r _ [96, 72, 82, 73, 74, 75, 8, 76, 10, 12, 77, 78, 79, 80, 81, 11, 29, 25, 26, 27, 28, 30, 83, 84, 85, 101, 102, 103, 104, 105, 106, 107, 108, 109, 110, 111, 112, 113, 114, 115, 116, 117, 118, 119, 120, 121, 122, 123, 124, 125, 126, 127, 128, 129, 130, 131, 132, 133, 134, 135, 136, 137, 138, 139, 140, 141, 142, 143, 144, 145, 146, 147, 148, 149, 150, 151, 152, 153, 154, 155, 156, 157, 158, 159, 160, 161, 162, 163, 164, 165, 166] (by decide +kernel) (by decide +kernel)
set_option maxRecDepth 20000 in
theorem gX12_rule_X12_number : GoodIn wsX12_rule (wsV RX12 264 RX12 yX12_number wsX12_number) := goodIn_app (goodIn_of _ (by decide +kernel)) ggX12_rule_X12_number
theorem dX12_rule_0 : decode cX12_rule 0 = .ok (.aload_n 0, 1) := by decide +kernel
theorem dX12_rule_1 : decode cX12_rule 1 = .ok (.ldc_w 267, 3) := by decide +kernel
theorem dX12_rule_4 : decode cX12_rule 4 = .ok (.invokevirtual 242, 3) := by decide +kernel
theorem dX12_rule_7 : decode cX12_rule 7 = .ok (.istore_n 1, 1) := by decide +kernel
theorem dX12_rule_8 : decode cX12_rule 8 = .ok (.aload_n 0, 1) := by decide +kernel
theorem dX12_rule_9 : decode cX12_rule 9 = .ok (.ldc_w 269, 3) := by decide +kernel
theorem dX12_rule_12 : decode cX12_rule 12 = .ok (.invokevirtual 254, 3) := by decide +kernel
theorem dX12_rule_15 : decode cX12_rule 15 = .ok (.istore_n 2, 1) := by decide +kernel
theorem dX12_rule_16 : decode cX12_rule 16 = .ok (.iload_n 1, 1) := by decide +kernel
theorem dX12_rule_17 : decode cX12_rule 17 = .ok (.ifCond .ne 14, 3) := by decide +kernel
theorem dX12_rule_20 : decode cX12_rule 20 = .ok (.iload_n 2, 1) := by decide +kernel
theorem dX12_rule_21 : decode cX12_rule 21 = .ok (.iconst (-1), 1) := by decide +kernel
theorem dX12_rule_22 : decode cX12_rule 22 = .ok (.if_icmp .ne 9, 3) := by decide +kernel
theorem dX12_rule_25 : decode cX12_rule 25 = .ok (.aload_n 0, 1) := by decide +kernel
theorem dX12_rule_26 : decode cX12_rule 26 = .ok (.iconst 1, 1) := by decide +kernel
theorem dX12_rule_27 : decode cX12_rule 27 = .ok (.invokevirtual 246, 3) := by decide +kernel
theorem dX12_rule_30 : decode cX12_rule 30 = .ok (.ireturn, 1) := by decide +kernel
theorem dX12_rule_31 : decode cX12_rule 31 = .ok (.aload_n 0, 1) := by decide +kernel
theorem dX12_rule_32 : decode cX12_rule 32 = .ok (.getfield 61, 3) := by decide +kernel
theorem dX12_rule_35 : decode cX12_rule 35 = .ok (.iconst 4, 1) := by decide +kernel
theorem dX12_rule_36 : decode cX12_rule 36 = .ok (.iaload, 1) := by decide +kernel
theorem dX12_rule_37 : decode cX12_rule 37 = .ok (.bipush 12, 2) := by decide +kernel
theorem dX12_rule_39 : decode cX12_rule 39 = .ok (.if_icmp .ne 9, 3) := by decide +kernel
theorem dX12_rule_42 : decode cX12_rule 42 = .ok (.aload_n 0, 1) := by decide +kernel
theorem dX12_rule_43 : decode cX12_rule 43 = .ok (.iconst 2, 1) := by decide +kernel
theorem dX12_rule_44 : decode cX12_rule 44 = .ok (.invokevirtual 246, 3) := by decide +kernel
theorem dX12_rule_47 : decode cX12_rule 47 = .ok (.ireturn, 1) := by decide +kernel
theorem dX12_rule_48 : decode cX12_rule 48 = .ok (.bipush 48, 2) := by decide +kernel
theorem dX12_rule_50 : decode cX12_rule 50 = .ok (.aload_n 0, 1) := by decide +kernel
theorem dX12_rule_51 : decode cX12_rule 51 = .ok (.getfield 61, 3) := by decide +kernel
theorem dX12_rule_54 : decode cX12_rule 54 = .ok (.iconst 4, 1) := by decide +kernel
theorem dX12_rule_55 : decode cX12_rule 55 = .ok (.iaload, 1) := by decide +kernel
theorem dX12_rule_56 : decode cX12_rule 56 = .ok (.iadd, 1) := by decide +kernel
theorem dX12_rule_57 : decode cX12_rule 57 = .ok (.istore_n 3, 1) := by decide +kernel
theorem dX12_rule_58 : decode cX12_rule 58 = .ok (.aload_n 0, 1) := by decide +kernel
theorem dX12_rule_59 : decode cX12_rule 59 = .ok (.getfield 70, 3) := by decide +kernel
theorem dX12_rule_62 : decode cX12_rule 62 = .ok (.iload_n 3, 1) := by decide +kernel
theorem dX12_rule_63 : decode cX12_rule 63 = .ok (.iconst 0, 1) := by decide +kernel
theorem dX12_rule_64 : decode cX12_rule 64 = .ok (.iastore, 1) := by decide +kernel
theorem dX12_rule_65 : decode cX12_rule 65 = .ok (.iload_n 1, 1) := by decide +kernel
theorem dX12_rule_66 : decode cX12_rule 66 = .ok (.ifCond .eq 72, 3) := by decide +kernel
theorem dX12_rule_69 : decode cX12_rule 69 = .ok (.aload_n 0, 1) := by decide +kernel
theorem dX12_rule_70 : decode cX12_rule 70 = .ok (.invokevirtual 249, 3) := by decide +kernel
theorem dX12_rule_73 : decode cX12_rule 73 = .ok (.aload_n 0, 1) := by decide +kernel
theorem dX12_rule_74 : decode cX12_rule 74 = .ok (.iload_n 3, 1) := by decide +kernel
theorem dX12_rule_75 : decode cX12_rule 75 = .ok (.invokevirtual 271, 3) := by decide +kernel
theorem dX12_rule_78 : decode cX12_rule 78 = .ok (.ifCond .ne 5, 3) := by decide +kernel
theorem dX12_rule_81 : decode cX12_rule 81 = .ok (.iconst 0, 1) := by decide +kernel
theorem dX12_rule_82 : decode cX12_rule 82 = .ok (.ireturn, 1) := by decide +kernel
theorem dX12_rule_83 : decode cX12_rule 83 = .ok (.aload_n 0, 1) := by decide +kernel
theorem dX12_rule_84 : decode cX12_rule 84 = .ok (.ldc_w 274, 3) := by decide +kernel
theorem dX12_rule_87 : decode cX12_rule 87 = .ok (.invokevirtual 242, 3) := by decide +kernel
theorem dX12_rule_90 : decode cX12_rule 90 = .ok (.ifCond .eq 17, 3) := by decide +kernel
theorem dX12_rule_93 : decode cX12_rule 93 = .ok (.aload_n 0, 1) := by decide +kernel
theorem dX12_rule_94 : decode cX12_rule 94 = .ok (.invokevirtual 249, 3) := by decide +kernel
theorem dX12_rule_97 : decode cX12_rule 97 = .ok (.aload_n 0, 1) := by decide +kernel
theorem dX12_rule_98 : decode cX12_rule 98 = .ok (.iload_n 3, 1) := by decide +kernel
theorem dX12_rule_99 : decode cX12_rule 99 = .ok (.invokevirtual 271, 3) := by decide +kernel
theorem dX12_rule_102 : decode cX12_rule 102 = .ok (.ifCond .ne (-19), 3) := by decide +kernel
theorem dX12_rule_105 : decode cX12_rule 105 = .ok (.iconst 0, 1) := by decide +kernel
theorem dX12_rule_106 : decode cX12_rule 106 = .ok (.ireturn, 1) := by decide +kernel
theorem dX12_rule_107 : decode cX12_rule 107 = .ok (.aload_n 0, 1) := by decide +kernel
theorem dX12_rule_108 : decode cX12_rule 108 = .ok (.ldc_w 276, 3) := by decide +kernel
theorem dX12_rule_111 : decode cX12_rule 111 = .ok (.invokevirtual 278, 3) := by decide +kernel
theorem dX12_rule_114 : decode cX12_rule 114 = .ok (.ifCond .ne 5, 3) := by decide +kernel
theorem dX12_rule_117 : decode cX12_rule 117 = .ok (.iconst 0, 1) := by decide +kernel
theorem dX12_rule_118 : decode cX12_rule 118 = .ok (.ireturn, 1) := by decide +kernel
theorem dX12_rule_119 : decode cX12_rule 119 = .ok (.aload_n 0, 1) := by decide +kernel
theorem dX12_rule_120 : decode cX12_rule 120 = .ok (.ldc_w 269, 3) := by decide +kernel
theorem dX12_rule_123 : decode cX12_rule 123 = .ok (.invokevirtual 254, 3) := by decide +kernel
theorem dX12_rule_126 : decode cX12_rule 126 = .ok (.istore_n 2, 1) := by decide +kernel
theorem dX12_rule_127 : decode cX12_rule 127 = .ok (.iload_n 2, 1) := by decide +kernel
theorem dX12_rule_128 : decode cX12_rule 128 = .ok (.iconst (-1), 1) := by decide +kernel
theorem dX12_rule_129 : decode cX12_rule 129 = .ok (.if_icmp .ne 9, 3) := by decide +kernel
theorem dX12_rule_132 : decode cX12_rule 132 = .ok (.aload_n 0, 1) := by decide +kernel
theorem dX12_rule_133 : decode cX12_rule 133 = .ok (.iconst 1, 1) := by decide +kernel
theorem dX12_rule_134 : decode cX12_rule 134 = .ok (.invokevirtual 246, 3) := by decide +kernel
theorem dX12_rule_137 : decode cX12_rule 137 = .ok (.ireturn, 1) := by decide +kernel
theorem dX12_rule_138 : decode cX12_rule 138 = .ok (.aload_n 0, 1) := by decide +kernel
theorem dX12_rule_139 : decode cX12_rule 139 = .ok (.getfield 64, 3) := by decide +kernel
theorem dX12_rule_142 : decode cX12_rule 142 = .ok (.iload_n 3, 1) := by decide +kernel
theorem dX12_rule_143 : decode cX12_rule 143 = .ok (.iload_n 2, 1) := by decide +kernel
theorem dX12_rule_144 : decode cX12_rule 144 = .ok (.iastore, 1) := by decide +kernel
theorem dX12_rule_145 : decode cX12_rule 145 = .ok (.aload_n 0, 1) := by decide +kernel
theorem dX12_rule_146 : decode cX12_rule 146 = .ok (.invokevirtual 249, 3) := by decide +kernel
theorem dX12_rule_149 : decode cX12_rule 149 = .ok (.aload_n 0, 1) := by decide +kernel
theorem dX12_rule_150 : decode cX12_rule 150 = .ok (.getfield 67, 3) := by decide +kernel
theorem dX12_rule_153 : decode cX12_rule 153 = .ok (.iload_n 3, 1) := by decide +kernel
theorem dX12_rule_154 : decode cX12_rule 154 = .ok (.iload_n 2, 1) := by decide +kernel
theorem dX12_rule_155 : decode cX12_rule 155 = .ok (.iconst 5, 1) := by decide +kernel
theorem dX12_rule_156 : decode cX12_rule 156 = .ok (.if_icmp .ne 10, 3) := by decide +kernel
theorem dX12_rule_159 : decode cX12_rule 159 = .ok (.aload_n 0, 1) := by decide +kernel
theorem dX12_rule_160 : decode cX12_rule 160 = .ok (.invokevirtual 264, 3) := by decide +kernel
theorem dX12_rule_163 : decode cX12_rule 163 = .ok (.goto 4, 3) := by decide +kernel
theorem dX12_rule_166 : decode cX12_rule 166 = .ok (.iconst 0, 1) := by decide +kernel
theorem dX12_rule_167 : decode cX12_rule 167 = .ok (.iastore, 1) := by decide +kernel
theorem dX12_rule_168 : decode cX12_rule 168 = .ok (.aload_n 0, 1) := by decide +kernel
theorem dX12_rule_169 : decode cX12_rule 169 = .ok (.ldc_w 281, 3) := by decide +kernel
theorem dX12_rule_172 : decode cX12_rule 172 = .ok (.invokevirtual 278, 3) := by decide +kernel
theorem dX12_rule_175 : decode cX12_rule 175 = .ok (.ifCond .ne 5, 3) := by decide +kernel
theorem dX12_rule_178 : decode cX12_rule 178 = .ok (.iconst 0, 1) := by decide +kernel
theorem dX12_rule_179 : decode cX12_rule 179 = .ok (.ireturn, 1) := by decide +kernel
theorem dX12_rule_180 : decode cX12_rule 180 = .ok (.aload_n 0, 1) := by decide +kernel
theorem dX12_rule_181 : decode cX12_rule 181 = .ok (.getfield 61, 3) := by decide +kernel
theorem dX12_rule_184 : decode cX12_rule 184 = .ok (.iconst 4, 1) := by decide +kernel
theorem dX12_rule_185 : decode cX12_rule 185 = .ok (.dup2, 1) := by decide +kernel
theorem dX12_rule_186 : decode cX12_rule 186 = .ok (.iaload, 1) := by decide +kernel
theorem dX12_rule_187 : decode cX12_rule 187 = .ok (.iconst 1, 1) := by decide +kernel
theorem dX12_rule_188 : decode cX12_rule 188 = .ok (.iadd, 1) := by decide +kernel
theorem dX12_rule_189 : decode cX12_rule 189 = .ok (.iastore, 1) := by decide +kernel
theorem dX12_rule_190 : decode cX12_rule 190 = .ok (.iconst 1, 1) := by decide +kernel
theorem dX12_rule_191 : decode cX12_rule 191 = .ok (.ireturn, 1) := by decide +kernel
set_option maxRecDepth 20000 in
theorem ggX12_program_X12_isPot : GoodIn wsX12_program wsX12_isPot := goodIn_r _ [18, 19, 20, 21, 17, 22, 111, 112, 113, 114, 115, 116, 117, 118, 119, 120, 121, 122, 123, 124, 125, 126, 127, 128, 129, 130, 131, 132, 133, 134, 135, 136, 137, 138, 139, 140, 141, 142, 143, 144, 145, 146, 147, 148, 149, 150, 151, 152, 153, 154, 155, 156, 157, 158, 159, 160, 161, 162, 163, 164, 165, 166, 167, 168, 169, 170, 171, 172, 173, 174, 175, 176] (by decide +kernel) (by decide +kernel)
set_option maxRecDepth 20000 in
theorem gX12_program_X12_isPot : GoodIn wsX12_program (wsV RX12 200 RX12 yX12_isPot wsX12_isPot) := goodIn_app (goodIn_of _ (by decide +kernel)) ggX12_program_X12_isPot
set_option maxRecDepth 20000 in
theorem ggX12_program_X12_token : GoodIn wsX12_program wsX12_token := goodIn_r _ [26, 5, 27, 7, 6, 28, 29, 30, 31, 17, 32, 33, 20, 21, 22, 111, 112, 113, 114, 115, 116, 117, 118, 119, 120, 121, 122, 123, 124, 125, 126, 127, 128, 129, 130, 131, 132, 133, 134, 135, 136, 137, 138, 139, 140, 141, 142, 143, 144, 145, 146, 147, 148, 149, 150, 151, 152, 153, 154, 155, 156, 157, 158, 159, 160, 161, 162, 163, 164, 165, 166, 167, 168, 169, 170, 171, 172, 173, 174, 175, 176] (by decide +kernel) (by decide +kernel)
set_option maxRecDepth 20000 in
theorem gX12_program_X12_token : GoodIn wsX12_program (wsV RX12 249 RX12 yX12_token wsX12_token) := goodIn_app (goodIn_of _ (by decide +kernel)) ggX12_program_X12_token
set_option maxRecDepth 20000 in
theorem ggX12_program_X12_rule : GoodIn wsX12_program wsX12_rule := goodIn_r _ [37, 4, 10, 8, 9, 38, 39, 40, 17, 41, 2, 5, 27, 42, 43, 44, 45, 46, 47, 48, 49, 50, 51, 52, 53, 29, 30, 31, 32, 7, 33, 54, 55, 56, 57, 58, 59, 60, 61, 62, 63, 64, 65, 66, 67, 68, 69, 70, 71, 72, 73, 74, 75, 76, 77, 78, 79, 80, 81, 82, 83, 84, 85, 86, 87, 88, 89, 90, 91, 92, 93, 94, 6, 95, 96, 97, 98, 3, 23, 24, 25, 26, 28, 20, 21, 22, 99, 100, 101, 102, 11, 12, 13, 103, 104, 105, 106, 107, 108, 109, 110, 111, 112, 113, 114, 115, 116, 117, 118, 119, 120, 121, 122, 123, 124, 125, 126, 127, 128, 129, 130, 131, 132, 133, 134, 135, 136, 137, 138, 139, 140, 141, 142, 143, 144, 145, 146, 147, 148, 149, 150, 151, 152, 153, 154, 155, 156, 157, 158, 159, 160, 161, 162, 163, 164, 165, 166, 167, 168, 169, 170, 171, 172, 173, 174, 175, 176] (by decide +kernel) (by decide +kernel)
set_option maxRecDepth 20000 in
theorem gX12_program_X12_rule : GoodIn wsX12_program (wsV RX12 283 RX12 yX12_rule wsX12_rule) := goodIn_app (goodIn_of _ (by decide +kernel)) ggX12_program_X12_rule
theorem dX12_program_0 : decode cX12_program 0 = .ok (.aload_n 0, 1) := by decide +kernel
theorem dX12_program_1 : decode cX12_program 1 = .ok (.iconst 0, 1) := by decide +kernel
theorem dX12_program_2 : decode cX12_program 2 = .ok (.putfield 161, 3) := by decide +kernel
theorem dX12_program_5 : decode cX12_program 5 = .ok (.aload_n 0, 1) := by decide +kernel
theorem dX12_program_6 : decode cX12_program 6 = .ok (.iload_n 1, 1) := by decide +kernel
theorem dX12_program_7 : decode cX12_program 7 = .ok (.invokevirtual 200, 3) := by decide +kernel
theorem dX12_program_10 : decode cX12_program 10 = .ok (.ifCond .ne 5, 3) := by decide +kernel
theorem dX12_program_13 : decode cX12_program 13 = .ok (.iconst (-1), 1) := by decide +kernel
theorem dX12_program_14 : decode cX12_program 14 = .ok (.ireturn, 1) := by decide +kernel
theorem dX12_program_15 : decode cX12_program 15 = .ok (.aload_n 0, 1) := by decide +kernel
theorem dX12_program_16 : decode cX12_program 16 = .ok (.iconst 0, 1) := by decide +kernel
theorem dX12_program_17 : decode cX12_program 17 = .ok (.putfield 229, 3) := by decide +kernel
theorem dX12_program_20 : decode cX12_program 20 = .ok (.aload_n 0, 1) := by decide +kernel
theorem dX12_program_21 : decode cX12_program 21 = .ok (.iconst (-1), 1) := by decide +kernel
theorem dX12_program_22 : decode cX12_program 22 = .ok (.putfield 86, 3) := by decide +kernel
theorem dX12_program_25 : decode cX12_program 25 = .ok (.aload_n 0, 1) := by decide +kernel
theorem dX12_program_26 : decode cX12_program 26 = .ok (.getfield 61, 3) := by decide +kernel
theorem dX12_program_29 : decode cX12_program 29 = .ok (.iconst 4, 1) := by decide +kernel
theorem dX12_program_30 : decode cX12_program 30 = .ok (.iconst 0, 1) := by decide +kernel
theorem dX12_program_31 : decode cX12_program 31 = .ok (.iastore, 1) := by decide +kernel
theorem dX12_program_32 : decode cX12_program 32 = .ok (.aload_n 0, 1) := by decide +kernel
theorem dX12_program_33 : decode cX12_program 33 = .ok (.iconst 0, 1) := by decide +kernel
theorem dX12_program_34 : decode cX12_program 34 = .ok (.putfield 214, 3) := by decide +kernel
theorem dX12_program_37 : decode cX12_program 37 = .ok (.aload_n 0, 1) := by decide +kernel
theorem dX12_program_38 : decode cX12_program 38 = .ok (.invokevirtual 249, 3) := by decide +kernel
theorem dX12_program_41 : decode cX12_program 41 = .ok (.iconst 1, 1) := by decide +kernel
theorem dX12_program_42 : decode cX12_program 42 = .ok (.istore_n 2, 1) := by decide +kernel
theorem dX12_program_43 : decode cX12_program 43 = .ok (.iload_n 2, 1) := by decide +kernel
theorem dX12_program_44 : decode cX12_program 44 = .ok (.ifCond .eq 18, 3) := by decide +kernel
theorem dX12_program_47 : decode cX12_program 47 = .ok (.aload_n 0, 1) := by decide +kernel
theorem dX12_program_48 : decode cX12_program 48 = .ok (.getfield 223, 3) := by decide +kernel
theorem dX12_program_51 : decode cX12_program 51 = .ok (.ifCond .eq 11, 3) := by decide +kernel
theorem dX12_program_54 : decode cX12_program 54 = .ok (.aload_n 0, 1) := by decide +kernel
theorem dX12_program_55 : decode cX12_program 55 = .ok (.invokevirtual 283, 3) := by decide +kernel
theorem dX12_program_58 : decode cX12_program 58 = .ok (.istore_n 2, 1) := by decide +kernel
theorem dX12_program_59 : decode cX12_program 59 = .ok (.goto (-16), 3) := by decide +kernel
theorem dX12_program_62 : decode cX12_program 62 = .ok (.aload_n 0, 1) := by decide +kernel
theorem dX12_program_63 : decode cX12_program 63 = .ok (.iconst 0, 1) := by decide +kernel
theorem dX12_program_64 : decode cX12_program 64 = .ok (.putfield 211, 3) := by decide +kernel
theorem dX12_program_67 : decode cX12_program 67 = .ok (.aload_n 0, 1) := by decide +kernel
theorem dX12_program_68 : decode cX12_program 68 = .ok (.getfield 229, 3) := by decide +kernel
theorem dX12_program_71 : decode cX12_program 71 = .ok (.ifCond .le 11, 3) := by decide +kernel
theorem dX12_program_74 : decode cX12_program 74 = .ok (.aload_n 0, 1) := by decide +kernel
theorem dX12_program_75 : decode cX12_program 75 = .ok (.getfield 229, 3) := by decide +kernel
theorem dX12_program_78 : decode cX12_program 78 = .ok (.bipush 10, 2) := by decide +kernel
theorem dX12_program_80 : decode cX12_program 80 = .ok (.isub, 1) := by decide +kernel
theorem dX12_program_81 : decode cX12_program 81 = .ok (.ireturn, 1) := by decide +kernel
theorem dX12_program_82 : decode cX12_program 82 = .ok (.aload_n 0, 1) := by decide +kernel
theorem dX12_program_83 : decode cX12_program 83 = .ok (.getfield 61, 3) := by decide +kernel
theorem dX12_program_86 : decode cX12_program 86 = .ok (.iload_n 1, 1) := by decide +kernel
theorem dX12_program_87 : decode cX12_program 87 = .ok (.aload_n 0, 1) := by decide +kernel
theorem dX12_program_88 : decode cX12_program 88 = .ok (.getfield 61, 3) := by decide +kernel
theorem dX12_program_91 : decode cX12_program 91 = .ok (.iconst 4, 1) := by decide +kernel
theorem dX12_program_92 : decode cX12_program 92 = .ok (.iaload, 1) := by decide +kernel
theorem dX12_program_93 : decode cX12_program 93 = .ok (.iastore, 1) := by decide +kernel
theorem dX12_program_94 : decode cX12_program 94 = .ok (.iconst 0, 1) := by decide +kernel
theorem dX12_program_95 : decode cX12_program 95 = .ok (.istore_n 3, 1) := by decide +kernel
theorem dX12_program_96 : decode cX12_program 96 = .ok (.iload_n 3, 1) := by decide +kernel
theorem dX12_program_97 : decode cX12_program 97 = .ok (.bipush 12, 2) := by decide +kernel
theorem dX12_program_99 : decode cX12_program 99 = .ok (.if_icmp .ge 174, 3) := by decide +kernel
theorem dX12_program_102 : decode cX12_program 102 = .ok (.aload_n 0, 1) := by decide +kernel
theorem dX12_program_103 : decode cX12_program 103 = .ok (.getfield 64, 3) := by decide +kernel
theorem dX12_program_106 : decode cX12_program 106 = .ok (.bipush 12, 2) := by decide +kernel
theorem dX12_program_108 : decode cX12_program 108 = .ok (.iload_n 1, 1) := by decide +kernel
theorem dX12_program_109 : decode cX12_program 109 = .ok (.imul, 1) := by decide +kernel
theorem dX12_program_110 : decode cX12_program 110 = .ok (.iload_n 3, 1) := by decide +kernel
theorem dX12_program_111 : decode cX12_program 111 = .ok (.iadd, 1) := by decide +kernel
theorem dX12_program_112 : decode cX12_program 112 = .ok (.aload_n 0, 1) := by decide +kernel
theorem dX12_program_113 : decode cX12_program 113 = .ok (.getfield 64, 3) := by decide +kernel
theorem dX12_program_116 : decode cX12_program 116 = .ok (.bipush 48, 2) := by decide +kernel
theorem dX12_program_118 : decode cX12_program 118 = .ok (.iload_n 3, 1) := by decide +kernel
theorem dX12_program_119 : decode cX12_program 119 = .ok (.iadd, 1) := by decide +kernel
theorem dX12_program_120 : decode cX12_program 120 = .ok (.iaload, 1) := by decide +kernel
theorem dX12_program_121 : decode cX12_program 121 = .ok (.iastore, 1) := by decide +kernel
theorem dX12_program_122 : decode cX12_program 122 = .ok (.aload_n 0, 1) := by decide +kernel
theorem dX12_program_123 : decode cX12_program 123 = .ok (.getfield 67, 3) := by decide +kernel
theorem dX12_program_126 : decode cX12_program 126 = .ok (.bipush 12, 2) := by decide +kernel
theorem dX12_program_128 : decode cX12_program 128 = .ok (.iload_n 1, 1) := by decide +kernel
theorem dX12_program_129 : decode cX12_program 129 = .ok (.imul, 1) := by decide +kernel
theorem dX12_program_130 : decode cX12_program 130 = .ok (.iload_n 3, 1) := by decide +kernel
theorem dX12_program_131 : decode cX12_program 131 = .ok (.iadd, 1) := by decide +kernel
theorem dX12_program_132 : decode cX12_program 132 = .ok (.aload_n 0, 1) := by decide +kernel
theorem dX12_program_133 : decode cX12_program 133 = .ok (.getfield 67, 3) := by decide +kernel
theorem dX12_program_136 : decode cX12_program 136 = .ok (.bipush 48, 2) := by decide +kernel
theorem dX12_program_138 : decode cX12_program 138 = .ok (.iload_n 3, 1) := by decide +kernel
theorem dX12_program_139 : decode cX12_program 139 = .ok (.iadd, 1) := by decide +kernel
theorem dX12_program_140 : decode cX12_program 140 = .ok (.iaload, 1) := by decide +kernel
theorem dX12_program_141 : decode cX12_program 141 = .ok (.iastore, 1) := by decide +kernel
theorem dX12_program_142 : decode cX12_program 142 = .ok (.aload_n 0, 1) := by decide +kernel
theorem dX12_program_143 : decode cX12_program 143 = .ok (.getfield 70, 3) := by decide +kernel
theorem dX12_program_146 : decode cX12_program 146 = .ok (.bipush 12, 2) := by decide +kernel
theorem dX12_program_148 : decode cX12_program 148 = .ok (.iload_n 1, 1) := by decide +kernel
theorem dX12_program_149 : decode cX12_program 149 = .ok (.imul, 1) := by decide +kernel
theorem dX12_program_150 : decode cX12_program 150 = .ok (.iload_n 3, 1) := by decide +kernel
theorem dX12_program_151 : decode cX12_program 151 = .ok (.iadd, 1) := by decide +kernel
theorem dX12_program_152 : decode cX12_program 152 = .ok (.aload_n 0, 1) := by decide +kernel
theorem dX12_program_153 : decode cX12_program 153 = .ok (.getfield 70, 3) := by decide +kernel
theorem dX12_program_156 : decode cX12_program 156 = .ok (.bipush 48, 2) := by decide +kernel
theorem dX12_program_158 : decode cX12_program 158 = .ok (.iload_n 3, 1) := by decide +kernel
theorem dX12_program_159 : decode cX12_program 159 = .ok (.iadd, 1) := by decide +kernel
theorem dX12_program_160 : decode cX12_program 160 = .ok (.iaload, 1) := by decide +kernel
theorem dX12_program_161 : decode cX12_program 161 = .ok (.iastore, 1) := by decide +kernel
theorem dX12_program_162 : decode cX12_program 162 = .ok (.iconst 0, 1) := by decide +kernel
theorem dX12_program_163 : decode cX12_program 163 = .ok (.istore 4, 2) := by decide +kernel
theorem dX12_program_165 : decode cX12_program 165 = .ok (.iload 4, 2) := by decide +kernel
theorem dX12_program_167 : decode cX12_program 167 = .ok (.iconst 4, 1) := by decide +kernel
theorem dX12_program_168 : decode cX12_program 168 = .ok (.if_icmp .ge 99, 3) := by decide +kernel
theorem dX12_program_171 : decode cX12_program 171 = .ok (.aload_n 0, 1) := by decide +kernel
theorem dX12_program_172 : decode cX12_program 172 = .ok (.getfield 73, 3) := by decide +kernel
theorem dX12_program_175 : decode cX12_program 175 = .ok (.iconst 4, 1) := by decide +kernel
theorem dX12_program_176 : decode cX12_program 176 = .ok (.bipush 12, 2) := by decide +kernel
theorem dX12_program_178 : decode cX12_program 178 = .ok (.iload_n 1, 1) := by decide +kernel
theorem dX12_program_179 : decode cX12_program 179 = .ok (.imul, 1) := by decide +kernel
theorem dX12_program_180 : decode cX12_program 180 = .ok (.iload_n 3, 1) := by decide +kernel
theorem dX12_program_181 : decode cX12_program 181 = .ok (.iadd, 1) := by decide +kernel
theorem dX12_program_182 : decode cX12_program 182 = .ok (.imul, 1) := by decide +kernel
theorem dX12_program_183 : decode cX12_program 183 = .ok (.iload 4, 2) := by decide +kernel
theorem dX12_program_185 : decode cX12_program 185 = .ok (.iadd, 1) := by decide +kernel
theorem dX12_program_186 : decode cX12_program 186 = .ok (.aload_n 0, 1) := by decide +kernel
theorem dX12_program_187 : decode cX12_program 187 = .ok (.getfield 73, 3) := by decide +kernel
theorem dX12_program_190 : decode cX12_program 190 = .ok (.iconst 4, 1) := by decide +kernel
theorem dX12_program_191 : decode cX12_program 191 = .ok (.bipush 48, 2) := by decide +kernel
theorem dX12_program_193 : decode cX12_program 193 = .ok (.iload_n 3, 1) := by decide +kernel
theorem dX12_program_194 : decode cX12_program 194 = .ok (.iadd, 1) := by decide +kernel
theorem dX12_program_195 : decode cX12_program 195 = .ok (.imul, 1) := by decide +kernel
theorem dX12_program_196 : decode cX12_program 196 = .ok (.iload 4, 2) := by decide +kernel
theorem dX12_program_198 : decode cX12_program 198 = .ok (.iadd, 1) := by decide +kernel
theorem dX12_program_199 : decode cX12_program 199 = .ok (.iaload, 1) := by decide +kernel
theorem dX12_program_200 : decode cX12_program 200 = .ok (.iastore, 1) := by decide +kernel
theorem dX12_program_201 : decode cX12_program 201 = .ok (.aload_n 0, 1) := by decide +kernel
theorem dX12_program_202 : decode cX12_program 202 = .ok (.getfield 76, 3) := by decide +kernel
theorem dX12_program_205 : decode cX12_program 205 = .ok (.iconst 4, 1) := by decide +kernel
theorem dX12_program_206 : decode cX12_program 206 = .ok (.bipush 12, 2) := by decide +kernel
theorem dX12_program_208 : decode cX12_program 208 = .ok (.iload_n 1, 1) := by decide +kernel
theorem dX12_program_209 : decode cX12_program 209 = .ok (.imul, 1) := by decide +kernel
theorem dX12_program_210 : decode cX12_program 210 = .ok (.iload_n 3, 1) := by decide +kernel
theorem dX12_program_211 : decode cX12_program 211 = .ok (.iadd, 1) := by decide +kernel
theorem dX12_program_212 : decode cX12_program 212 = .ok (.imul, 1) := by decide +kernel
theorem dX12_program_213 : decode cX12_program 213 = .ok (.iload 4, 2) := by decide +kernel
theorem dX12_program_215 : decode cX12_program 215 = .ok (.iadd, 1) := by decide +kernel
theorem dX12_program_216 : decode cX12_program 216 = .ok (.aload_n 0, 1) := by decide +kernel
theorem dX12_program_217 : decode cX12_program 217 = .ok (.getfield 76, 3) := by decide +kernel
theorem dX12_program_220 : decode cX12_program 220 = .ok (.iconst 4, 1) := by decide +kernel
theorem dX12_program_221 : decode cX12_program 221 = .ok (.bipush 48, 2) := by decide +kernel
theorem dX12_program_223 : decode cX12_program 223 = .ok (.iload_n 3, 1) := by decide +kernel
theorem dX12_program_224 : decode cX12_program 224 = .ok (.iadd, 1) := by decide +kernel
theorem dX12_program_225 : decode cX12_program 225 = .ok (.imul, 1) := by decide +kernel
theorem dX12_program_226 : decode cX12_program 226 = .ok (.iload 4, 2) := by decide +kernel
theorem dX12_program_228 : decode cX12_program 228 = .ok (.iadd, 1) := by decide +kernel
theorem dX12_program_229 : decode cX12_program 229 = .ok (.iaload, 1) := by decide +kernel
theorem dX12_program_230 : decode cX12_program 230 = .ok (.iastore, 1) := by decide +kernel
theorem dX12_program_231 : decode cX12_program 231 = .ok (.aload_n 0, 1) := by decide +kernel
theorem dX12_program_232 : decode cX12_program 232 = .ok (.getfield 79, 3) := by decide +kernel
theorem dX12_program_235 : decode cX12_program 235 = .ok (.iconst 4, 1) := by decide +kernel
theorem dX12_program_236 : decode cX12_program 236 = .ok (.bipush 12, 2) := by decide +kernel
theorem dX12_program_238 : decode cX12_program 238 = .ok (.iload_n 1, 1) := by decide +kernel
theorem dX12_program_239 : decode cX12_program 239 = .ok (.imul, 1) := by decide +kernel
theorem dX12_program_240 : decode cX12_program 240 = .ok (.iload_n 3, 1) := by decide +kernel
theorem dX12_program_241 : decode cX12_program 241 = .ok (.iadd, 1) := by decide +kernel
theorem dX12_program_242 : decode cX12_program 242 = .ok (.imul, 1) := by decide +kernel
theorem dX12_program_243 : decode cX12_program 243 = .ok (.iload 4, 2) := by decide +kernel
theorem dX12_program_245 : decode cX12_program 245 = .ok (.iadd, 1) := by decide +kernel
theorem dX12_program_246 : decode cX12_program 246 = .ok (.aload_n 0, 1) := by decide +kernel
theorem dX12_program_247 : decode cX12_program 247 = .ok (.getfield 79, 3) := by decide +kernel
theorem dX12_program_250 : decode cX12_program 250 = .ok (.iconst 4, 1) := by decide +kernel
theorem dX12_program_251 : decode cX12_program 251 = .ok (.bipush 48, 2) := by decide +kernel
theorem dX12_program_253 : decode cX12_program 253 = .ok (.iload_n 3, 1) := by decide +kernel
theorem dX12_program_254 : decode cX12_program 254 = .ok (.iadd, 1) := by decide +kernel
theorem dX12_program_255 : decode cX12_program 255 = .ok (.imul, 1) := by decide +kernel
theorem dX12_program_256 : decode cX12_program 256 = .ok (.iload 4, 2) := by decide +kernel
theorem dX12_program_258 : decode cX12_program 258 = .ok (.iadd, 1) := by decide +kernel
theorem dX12_program_259 : decode cX12_program 259 = .ok (.iaload, 1) := by decide +kernel
theorem dX12_program_260 : decode cX12_program 260 = .ok (.iastore, 1) := by decide +kernel
theorem dX12_program_261 : decode cX12_program 261 = .ok (.iinc 4 1, 3) := by decide +kernel
theorem dX12_program_264 : decode cX12_program 264 = .ok (.goto (-99), 3) := by decide +kernel
theorem dX12_program_267 : decode cX12_program 267 = .ok (.iinc 3 1, 3) := by decide +kernel
theorem dX12_program_270 : decode cX12_program 270 = .ok (.goto (-174), 3) := by decide +kernel
theorem dX12_program_273 : decode cX12_program 273 = .ok (.aload_n 0, 1) := by decide +kernel
theorem dX12_program_274 : decode cX12_program 274 = .ok (.getfield 61, 3) := by decide +kernel
theorem dX12_program_277 : decode cX12_program 277 = .ok (.iload_n 1, 1) := by decide +kernel
theorem dX12_program_278 : decode cX12_program 278 = .ok (.iaload, 1) := by decide +kernel
theorem dX12_program_279 : decode cX12_program 279 = .ok (.ireturn, 1) := by decide +kernel
theorem inn_X12_condition_12 : ∀ w ∈ u_ws RX12 TX12 66, w ∈ wsX12_condition := fun w h => List.mem_cons_of_mem _ (List.mem_append_right _ h)
theorem inn_X12_program_12 : ∀ w ∈ u_ws RX12 TX12 66, w ∈ wsX12_program := fun w h => List.mem_cons_of_mem _ (List.mem_append_right _ h)
theorem inn_X12_rule_12 : ∀ w ∈ u_ws RX12 TX12 66, w ∈ wsX12_rule := fun w h => List.mem_cons_of_mem _ (List.mem_append_right _ h)
set_option maxHeartbeats 4000000 in
set_option maxRecDepth 100000 in
theorem k_X12_condition (l : Launch) (G : va_G) (cy : Nat → ClassId) (κ : Nat → Nat) (S : PS) (sz : Nat) (x : Nat) (a1 : Int32) (a1_z : Int) (hG : GX S) (ha_x : At S x 12) (hz_a1 : a1.toInt = a1_z) (hp_0 : 48 ≤ a1_z) (hp_1 : a1_z ≤ 59) : Ci l yX12_condition wsX12_condition ({ frames := 6, cells := 0, slots := 0, locals := 288 }) G cy κ S sz [.ref x, .int (a1)] (fun (r : Int32) (S9 : PS) => Ok MC S S9 ∧ (((zA S9 x 1223 a1_z.toNat = zA S x 1223 a1_z.toNat + 1 ∧ zA S9 x 1223 a1_z.toNat ≤ 4) ∧ r = 1) ∨ ((True) ∧ r = 0))) := by
  refine ent_m (cc := cX12_condition) (maxL := 4) (ret := (some .boolean)) (by decide) rfl (Nat.le_of_ble_eq_true rfl) ?_
  intro p e s m below meth c ls X hr hlocks hin hw hl hsz
  subst hsz
  have X : Cx p c cX12_condition 4 s [.ref x, .int (a1)].toArray wsX12_condition RX12 m G cy κ (AS S s.heap.size) := X
  have hl : lv_has ls 4 [(0, .ref x), (1, .int (a1))] := hl
  have rg_a1 : (-2147483648) ≤ a1_z ∧ a1_z ≤ 2147483647 := by rw [← hz_a1]; exact ⟨z_lo _, z_hi _⟩
  have hO : Ok MC S S := Ok.rf hG
  generalize hQQ : MQ below _ _ _ _ _ _ = QQ
  replace hQQ := hQQ.symm
  refine lv_aload_n X.1 X.2.1 dX12_condition_0 rfl (lv_at hl 0 rfl) ?_
  refine va_ldcS (q := κ (100 + 17)) X.1 X.2.1 X.2.2.2.2.1 (show vk_R RX12 252 "fine ends basket lost made thin day " (κ (100 + 17)) s from (X.2.2.2.2.2.2.2.2.2.2.2.2.2.2 17 (by decide)).1) dX12_condition_1 ?_
  refine k_i (rm := { frames := 5, cells := 0, slots := 0, locals := 240 }) (av := [.ref x, .ref (κ (100 + 17))]) X hw (va_runV (As := [.ref (κ (100 + 17))]) (rest := []) (cfix X) (k_X12_which l G cy κ S _ x 17 hO.1 ha_x (by decide)) (cwV 1 X.2.2.2.1 gX12_condition_X12_which rfl rfl rfl (by decide +kernel) ⟨Nat.le_of_ble_eq_true rfl, Nat.le_of_ble_eq_true rfl⟩) (pre_V X hw _ ha_x rfl (by decide) rfl) rfl rfl hl.1 rfl (lv_room (Nat.le_of_ble_eq_true rfl)) dX12_condition_3 ⟨Nat.le_of_ble_eq_true rfl, Nat.le_of_ble_eq_true rfl⟩) 0 0 (Nat.le_of_ble_eq_true rfl) (Nat.le_of_ble_eq_true rfl) (fun rr_1 S_2 H locs hp hw hfr hnw => ?_)
  obtain ⟨e2, hp⟩ := hp
  subst e2
  have rg_3 := And.intro (z_lo rr_1) (z_hi rr_1)
  refine lv_istore_n (lv' := [(2, .int (rr_1)), (0, .ref x), (1, .int (a1))]) X.1 X.2.1 dX12_condition_6 rfl hl (by decide) rfl (fun ls hl => ?_)
  refine lv_iload_n X.1 X.2.1 dX12_condition_7 rfl (lv_at hl 0 rfl) ?_
  refine lv_iconst (v := (-1)) X.1 X.2.1 dX12_condition_8 (by decide) ?_
  refine lv_icmp_ne (tgt := 18) X.1 X.2.1 dX12_condition_9 (by decide) (fun c_4 => ?_) (fun c_4 => ?_)
  · have z_b_5 := trivial
    have k_6 : rr_1.toInt ≠ (-1) := z_ne rfl ti_m1 c_4
    refine lv_aload_n X.1 X.2.1 dX12_condition_18 rfl (lv_at hl 1 rfl) ?_
    obtain ⟨q_7, h_8, h_9, h_10⟩ := gQ_12_1223 hO.1 ha_x
    refine r_getR (g := 1223) X hw ha_x rfl 23 h_8 (by decide) rfl inn_X12_condition_12 (by decide) (X.2.2.2.1 (.fieldLink RX12 70 "SilkMillModel" "conditions" "[I") (by decide +kernel)) rfl (gv_1223 _ _) dX12_condition_19 ?_
    refine lv_iload_n X.1 X.2.1 dX12_condition_22 rfl (lv_at hl 2 rfl) ?_
    refine r_iald X hw h_9 rfl (by rw [h_10]; exact z_ix hz_a1 (by omega) (by omega)) dX12_condition_23 ?_
    refine lv_topi (fun v_11 ev_11 => ?_)
    have z_12 := gE_674 hO.1 h_9 (Int32.toNatClampNeg (a1)); rw [← ev_11] at z_12
    have ev_11 := ev_11.symm
    have zf_13 : zA S x 1223 (a1_z).toNat = v_11.toInt := (zA_of h_8 hz_a1 (by omega) ev_11)
    refine lv_iconst (v := 4) X.1 X.2.1 dX12_condition_24 (by decide) ?_
    refine lv_icmp_ne (tgt := 34) X.1 X.2.1 dX12_condition_25 (by decide) (fun c_14 => ?_) (fun c_14 => ?_)
    · have z_b_15 := trivial
      have k_16 : v_11.toInt ≠ 4 := z_ne rfl ti_4 c_14
      refine lv_iconst (v := 4) X.1 X.2.1 dX12_condition_34 (by decide) ?_
      refine lv_iload_n X.1 X.2.1 dX12_condition_35 rfl (lv_at hl 2 rfl) ?_
      refine lv_imul X.1 X.2.1 dX12_condition_36 ?_
      refine lv_topi (fun v_17 ev_17 => ?_)
      have z_18 : v_17.toInt = 4 * a1_z := z_mul ev_17 ti_4 hz_a1 (by omega) (by omega)
      refine lv_aload_n X.1 X.2.1 dX12_condition_37 rfl (lv_at hl 1 rfl) ?_
      refine r_getR (g := 1223) X hw ha_x rfl 23 h_8 (by decide) rfl inn_X12_condition_12 (by decide) (X.2.2.2.1 (.fieldLink RX12 70 "SilkMillModel" "conditions" "[I") (by decide +kernel)) rfl (gv_1223 _ _) dX12_condition_38 ?_
      refine lv_iload_n X.1 X.2.1 dX12_condition_41 rfl (lv_at hl 2 rfl) ?_
      refine r_iald X hw h_9 rfl (by rw [h_10]; exact z_ix hz_a1 (by omega) (by omega)) dX12_condition_42 ?_
      rw [ev_11]
      refine lv_iadd X.1 X.2.1 dX12_condition_43 ?_
      refine lv_topi (fun v_19 ev_19 => ?_)
      have z_20 : v_19.toInt = (4 * a1_z) + v_11.toInt := z_add ev_19 z_18 rfl (by omega) (by omega)
      refine lv_istore_n (lv' := [(3, .int (v_19)), (2, .int (rr_1)), (0, .ref x), (1, .int (a1))]) X.1 X.2.1 dX12_condition_44 rfl hl (by decide) rfl (fun ls hl => ?_)
      refine lv_aload_n X.1 X.2.1 dX12_condition_45 rfl (lv_at hl 2 rfl) ?_
      refine k_v (rm := { frames := 2, cells := 0, slots := 0, locals := 96 }) (av := [.ref x]) X hw (va_runV (As := []) (rest := []) (cfix X) (k_X12_token l G cy κ S _ x hO.1 ha_x) (cwV 0 X.2.2.2.1 gX12_condition_X12_token rfl rfl rfl (by decide +kernel) ⟨Nat.le_of_ble_eq_true rfl, Nat.le_of_ble_eq_true rfl⟩) (pre_V X hw _ ha_x rfl (by decide) rfl) rfl rfl hl.1 rfl (lv_room (Nat.le_of_ble_eq_true rfl)) dX12_condition_46 ⟨Nat.le_of_ble_eq_true rfl, Nat.le_of_ble_eq_true rfl⟩) 0 0 (Nat.le_of_ble_eq_true rfl) (Nat.le_of_ble_eq_true rfl) (fun S_22 H locs hp hw hfr hnw => ?_)
      obtain ⟨hk_23, hp⟩ := hp
      have hO_24 : Ok MC S S_22 := hO.call hk_23 (by decide +kernel)
      refine lv_aload_n X.1 X.2.1 dX12_condition_49 rfl (lv_at hl 2 rfl) ?_
      have t_25 : At S_22 x 12 := hk_23.fr.at ha_x
      obtain ⟨q_26, h_27, h_28, h_29⟩ := gQ_12_1224 hO_24.1 t_25
      refine r_getR (g := 1224) X hw t_25 rfl 24 h_27 (by decide) rfl inn_X12_condition_12 (by decide) (X.2.2.2.1 (.fieldLink RX12 73 "SilkMillModel" "field" "[I") (by decide +kernel)) rfl (gv_1224 _ _) dX12_condition_50 ?_
      refine lv_iload_n X.1 X.2.1 dX12_condition_53 rfl (lv_at hl 0 rfl) ?_
      refine lv_iload_n X.1 X.2.1 dX12_condition_54 rfl (lv_at hl 1 rfl) ?_
      refine r_iast X hw h_28 rfl (by rw [h_29]; exact z_ix z_20 (by omega) (by omega)) dX12_condition_55 (fun H locs hw => ?_)
      obtain ⟨S_30, eS_30⟩ : ∃ T, T = sA S_22 q_26 (upd (pA S_22 q_26) (Int32.toNatClampNeg (v_19)) (rr_1)) := ⟨_, rfl⟩
      rw [← eS_30] at hw
      have hO_31 : Ok MC S S_30 := hO_24.sA eS_30 h_28 (by decide +kernel) (uA_694 hO_24.1 h_28)
      have h_32 : pA S_30 q_26 (Int32.toNatClampNeg (v_19)) = rr_1 := tA_sAs eS_30
      have zc_36 : zA S_22 x 1223 = zA S x 1223 := zA_fr hk_23.fr ha_x (ex3 (gQ_12_1223 hO.1 ha_x)) (by decide +kernel) (by decide +kernel)
      have zc_37 : zA S_30 x 1223 = zA S x 1223 := (zA_sAn eS_30 (ex3 (gQ_12_1223 hO_24.1 t_25)) h_28 rfl).trans zc_36
      have L_33 : ∀ (T_34 : PS) (H : Heap) (locs : List Loc) (ls : Array Slot) , (Wd G cy (AS S s.heap.size) s.heap T_34 H locs) → (At T_34 x 12) → (Ok MC S T_34) → (zA T_34 x 1223 = zA S x 1223) → (lv_has ls 4 [(3, .int (v_19)), (2, .int (rr_1)), (0, .ref x), (1, .int (a1))]) → W p l e ({ frames := 6, cells := 0, slots := 0, locals := 288 }) s m [.ref x, .int (a1)].toArray below meth c H locs 0 0 QQ (F0 m 91 ls []) := by
        intro T_34 H locs ls  hw ha_x_L_35 hO_T_34 zk_38 hl
        refine lv_aload_n X.1 X.2.1 dX12_condition_91 rfl (lv_at hl 2 rfl) ?_
        refine lv_ldcwS (q := κ (100 + 18)) X.1 X.2.1 X.2.2.2.2.1 (show vk_R RX12 258 "<" (κ (100 + 18)) s from (X.2.2.2.2.2.2.2.2.2.2.2.2.2.2 18 (by decide)).1) dX12_condition_92 ?_
        refine k_i (rm := { frames := 5, cells := 0, slots := 0, locals := 240 }) (av := [.ref x, .ref (κ (100 + 18))]) X hw (va_runV (As := [.ref (κ (100 + 18))]) (rest := []) (cfix X) (k_X12_is l G cy κ T_34 _ x 18 hO_T_34.1 ha_x_L_35 (by decide)) (cwV 1 X.2.2.2.1 gX12_condition_X12_is rfl rfl rfl (by decide +kernel) ⟨Nat.le_of_ble_eq_true rfl, Nat.le_of_ble_eq_true rfl⟩) (pre_V X hw _ ha_x_L_35 rfl (by decide) rfl) rfl rfl hl.1 rfl (lv_room (Nat.le_of_ble_eq_true rfl)) dX12_condition_95 ⟨Nat.le_of_ble_eq_true rfl, Nat.le_of_ble_eq_true rfl⟩) 0 0 (Nat.le_of_ble_eq_true rfl) (Nat.le_of_ble_eq_true rfl) (fun rr_39 S_40 H locs hp hw hfr hnw => ?_)
        obtain ⟨e2, hp⟩ := hp
        subst e2
        rcases hp with ⟨f_41, er_42⟩ | ⟨f_41, er_42⟩ <;> subst er_42
        · have z_b_43 := trivial
          refine lv_if_ne (tgt := 127) X.1 X.2.1 dX12_condition_98 (by decide) (fun c_44 => ?_) (fun c_44 => absurd c_44 (by decide))
          refine lv_aload_n X.1 X.2.1 dX12_condition_127 rfl (lv_at hl 2 rfl) ?_
          refine k_v (rm := { frames := 2, cells := 0, slots := 0, locals := 96 }) (av := [.ref x]) X hw (va_runV (As := []) (rest := []) (cfix X) (k_X12_token l G cy κ T_34 _ x hO_T_34.1 ha_x_L_35) (cwV 0 X.2.2.2.1 gX12_condition_X12_token rfl rfl rfl (by decide +kernel) ⟨Nat.le_of_ble_eq_true rfl, Nat.le_of_ble_eq_true rfl⟩) (pre_V X hw _ ha_x_L_35 rfl (by decide) rfl) rfl rfl hl.1 rfl (lv_room (Nat.le_of_ble_eq_true rfl)) dX12_condition_128 ⟨Nat.le_of_ble_eq_true rfl, Nat.le_of_ble_eq_true rfl⟩) 0 0 (Nat.le_of_ble_eq_true rfl) (Nat.le_of_ble_eq_true rfl) (fun S_46 H locs hp hw hfr hnw => ?_)
          obtain ⟨hk_47, hp⟩ := hp
          have hO_48 : Ok MC S S_46 := hO_T_34.call hk_47 (by decide +kernel)
          refine lv_aload_n X.1 X.2.1 dX12_condition_131 rfl (lv_at hl 2 rfl) ?_
          have t_49 : At S_46 x 12 := hk_47.fr.at ha_x_L_35
          obtain ⟨q_50, h_51, h_52, h_53⟩ := gQ_12_1226 hO_48.1 t_49
          refine r_getR (g := 1226) X hw t_49 rfl 26 h_51 (by decide) rfl inn_X12_condition_12 (by decide) (X.2.2.2.1 (.fieldLink RX12 79 "SilkMillModel" "than" "[I") (by decide +kernel)) rfl (gv_1226 _ _) dX12_condition_132 ?_
          refine lv_iload_n X.1 X.2.1 dX12_condition_135 rfl (lv_at hl 0 rfl) ?_
          refine lv_aload_n X.1 X.2.1 dX12_condition_136 rfl (lv_at hl 2 rfl) ?_
          refine k_i (rm := { frames := 3, cells := 0, slots := 0, locals := 144 }) (av := [.ref x]) X hw (va_runV (As := []) (rest := [.int (v_19), .ref q_50]) (cfix X) (k_X12_number l G cy κ S_46 _ x hO_48.1 t_49) (cwV 0 X.2.2.2.1 gX12_condition_X12_number rfl rfl rfl (by decide +kernel) ⟨Nat.le_of_ble_eq_true rfl, Nat.le_of_ble_eq_true rfl⟩) (pre_V X hw _ t_49 rfl (by decide) rfl) rfl rfl hl.1 rfl (lv_room (Nat.le_of_ble_eq_true rfl)) dX12_condition_137 ⟨Nat.le_of_ble_eq_true rfl, Nat.le_of_ble_eq_true rfl⟩) 0 0 (Nat.le_of_ble_eq_true rfl) (Nat.le_of_ble_eq_true rfl) (fun rr_54 S_55 H locs hp hw hfr hnw => ?_)
          obtain ⟨hk_56, hp⟩ := hp
          have hO_57 : Ok MC S S_55 := hO_48.call hk_56 (by decide +kernel)
          have rg_58 := And.intro (z_lo rr_54) (z_hi rr_54)
          have t_59 : At S_55 q_50 734 := hk_56.fr.at h_52
          have t_60 : pN S_55 q_50 = 240 := hk_56.fr.N h_52 h_53
          clear h_53
          refine r_iast X hw t_59 rfl (by rw [t_60]; exact z_ix z_20 (by omega) (by omega)) dX12_condition_140 (fun H locs hw => ?_)
          obtain ⟨S_61, eS_61⟩ : ∃ T, T = sA S_55 q_50 (upd (pA S_55 q_50) (Int32.toNatClampNeg (v_19)) (rr_54)) := ⟨_, rfl⟩
          rw [← eS_61] at hw
          have hO_62 : Ok MC S S_61 := hO_57.sA eS_61 t_59 (by decide +kernel) (uA_734 hO_57.1 t_59)
          have h_63 : pA S_61 q_50 (Int32.toNatClampNeg (v_19)) = rr_54 := tA_sAs eS_61
          refine lv_aload_n X.1 X.2.1 dX12_condition_141 rfl (lv_at hl 2 rfl) ?_
          have t_64 : At S_55 x 12 := hk_56.fr.at t_49
          have t_65 : At S_61 x 12 := tAt_sA eS_61 t_64
          obtain ⟨q_66, h_67, h_68, h_69⟩ := gQ_12_1223 hO_62.1 t_65
          refine r_getR (g := 1223) X hw t_65 rfl 23 h_67 (by decide) rfl inn_X12_condition_12 (by decide) (X.2.2.2.1 (.fieldLink RX12 70 "SilkMillModel" "conditions" "[I") (by decide +kernel)) rfl (gv_1223 _ _) dX12_condition_142 ?_
          have zc_70 : zA S_46 x 1223 = zA S x 1223 := (zA_fr hk_47.fr ha_x_L_35 (ex3 (gQ_12_1223 hO_T_34.1 ha_x_L_35)) (by decide +kernel) (by decide +kernel)).trans zk_38
          have zc_71 : zA S_55 x 1223 = zA S x 1223 := (zA_fr hk_56.fr t_49 (ex3 (gQ_12_1223 hO_48.1 t_49)) (by decide +kernel) (by decide +kernel)).trans zc_70
          have t_72 : At S_55 x 12 := hk_56.fr.at t_49
          have zc_73 : zA S_61 x 1223 = zA S x 1223 := (zA_sAn eS_61 (ex3 (gQ_12_1223 hO_57.1 t_72)) t_59 rfl).trans zc_71
          have zz_74 := congrFun zc_73 a1_z.toNat
          refine lv_iload_n X.1 X.2.1 dX12_condition_145 rfl (lv_at hl 3 rfl) ?_
          refine lv_dup2_11 X.1 X.2.1 dX12_condition_146 rfl rfl ?_
          refine r_iald X hw h_68 rfl (by rw [h_69]; exact z_ix hz_a1 (by omega) (by omega)) dX12_condition_147 ?_
          refine lv_topi (fun v_75 ev_75 => ?_)
          have z_76 := gE_674 hO_62.1 h_68 (Int32.toNatClampNeg (a1)); rw [← ev_75] at z_76
          have ev_75 := ev_75.symm
          have zf_77 : zA S_61 x 1223 (a1_z).toNat = v_75.toInt := (zA_of h_67 hz_a1 (by omega) ev_75)
          refine lv_iconst (v := 1) X.1 X.2.1 dX12_condition_148 (by decide) ?_
          refine lv_iadd X.1 X.2.1 dX12_condition_149 ?_
          refine lv_topi (fun v_78 ev_78 => ?_)
          have z_79 : v_78.toInt = v_75.toInt + 1 := z_add ev_78 rfl ti_1 (by omega) (by omega)
          refine r_iast X hw h_68 rfl (by rw [h_69]; exact z_ix hz_a1 (by omega) (by omega)) dX12_condition_150 (fun H locs hw => ?_)
          obtain ⟨S_80, eS_80⟩ : ∃ T, T = sA S_61 q_66 (upd (pA S_61 q_66) (Int32.toNatClampNeg (a1)) (v_78)) := ⟨_, rfl⟩
          rw [← eS_80] at hw
          have hO_81 : Ok MC S S_80 := hO_62.sA eS_80 h_68 (by decide +kernel) (uA_674 hO_62.1 h_68 (by omega) (by omega))
          have h_82 : pA S_80 q_66 (Int32.toNatClampNeg (a1)) = v_78 := tA_sAs eS_80
          have t_83 : pR S_80 1223 x = some q_66 := tR_sA eS_80 h_67
          have t_85 : pR S_61 1223 x = some q_66 := by have h := t_83; rw [eS_80, pR_sA] at h; exact h
          have zs_84 : ∀ j, zA S_80 x 1223 j = if j = (a1_z).toNat then (v_75.toInt + 1) else zA S_61 x 1223 j := by have h := zA_sAs eS_80 t_85 z_79; rw [z_nc hz_a1 (by omega)] at h; exact h
          have zs_86 := zs_84 (a1_z).toNat; rw [if_pos rfl] at zs_86
          refine lv_aload_n X.1 X.2.1 dX12_condition_151 rfl (lv_at hl 2 rfl) ?_
          have t_87 : At S_80 x 12 := tAt_sA eS_80 t_65
          obtain ⟨v_88, ev_88⟩ : ∃ v, pI S_80 1230 x = v := ⟨_, rfl⟩
          have rg_90 := And.intro (z_lo v_88) (z_hi v_88)
          refine r_getI (g := 1230) (x := v_88) X hw t_87 rfl 30 ev_88 (by decide) rfl inn_X12_condition_12 (by decide) (X.2.2.2.1 (.fieldLink RX12 229 "SilkMillModel" "faultKind" "I") (by decide +kernel)) rfl (gv_1230 _ _) dX12_condition_152 ?_
          refine lv_if_ne (tgt := 162) X.1 X.2.1 dX12_condition_155 (by decide) (fun c_91 => ?_) (fun c_91 => ?_)
          · have z_b_92 := trivial
            have k_93 : v_88.toInt ≠ 0 := z_ne rfl ti_0 c_91
            refine lv_iconst (v := 0) X.1 X.2.1 dX12_condition_162 (by decide) ?_
            rw [hQQ]
            exact ret_z X hw hr hlocks (Nat.le_of_ble_eq_true rfl) (Nat.le_of_ble_eq_true rfl) (by decide) ⟨hO_81, Or.inr ⟨trivial, rfl⟩⟩ dX12_condition_163
          · have z_b_94 := trivial
            have k_95 : v_88.toInt = 0 := z_eq rfl ti_0 c_91
            refine lv_iconst (v := 1) X.1 X.2.1 dX12_condition_158 (by decide) ?_
            refine lv_goto (tgt := 163) X.1 X.2.1 dX12_condition_159 (by decide) ?_
            rw [hQQ]
            exact ret_z X hw hr hlocks (Nat.le_of_ble_eq_true rfl) (Nat.le_of_ble_eq_true rfl) (by decide) ⟨hO_81, Or.inl ⟨by omega, rfl⟩⟩ dX12_condition_163
        · have z_b_96 := trivial
          refine lv_if_ne (tgt := 127) X.1 X.2.1 dX12_condition_98 (by decide) (fun c_97 => absurd c_97 (by decide)) (fun c_97 => ?_)
          refine lv_aload_n X.1 X.2.1 dX12_condition_101 rfl (lv_at hl 2 rfl) ?_
          refine lv_ldcwS (q := κ (100 + 19)) X.1 X.2.1 X.2.2.2.2.1 (show vk_R RX12 260 "=" (κ (100 + 19)) s from (X.2.2.2.2.2.2.2.2.2.2.2.2.2.2 19 (by decide)).1) dX12_condition_102 ?_
          refine k_i (rm := { frames := 5, cells := 0, slots := 0, locals := 240 }) (av := [.ref x, .ref (κ (100 + 19))]) X hw (va_runV (As := [.ref (κ (100 + 19))]) (rest := []) (cfix X) (k_X12_is l G cy κ T_34 _ x 19 hO_T_34.1 ha_x_L_35 (by decide)) (cwV 1 X.2.2.2.1 gX12_condition_X12_is rfl rfl rfl (by decide +kernel) ⟨Nat.le_of_ble_eq_true rfl, Nat.le_of_ble_eq_true rfl⟩) (pre_V X hw _ ha_x_L_35 rfl (by decide) rfl) rfl rfl hl.1 rfl (lv_room (Nat.le_of_ble_eq_true rfl)) dX12_condition_105 ⟨Nat.le_of_ble_eq_true rfl, Nat.le_of_ble_eq_true rfl⟩) 0 0 (Nat.le_of_ble_eq_true rfl) (Nat.le_of_ble_eq_true rfl) (fun rr_98 S_99 H locs hp hw hfr hnw => ?_)
          obtain ⟨e2, hp⟩ := hp
          subst e2
          rcases hp with ⟨f_100, er_101⟩ | ⟨f_100, er_101⟩ <;> subst er_101
          · have z_b_102 := trivial
            refine lv_if_ne (tgt := 127) X.1 X.2.1 dX12_condition_108 (by decide) (fun c_103 => ?_) (fun c_103 => absurd c_103 (by decide))
            refine lv_aload_n X.1 X.2.1 dX12_condition_127 rfl (lv_at hl 2 rfl) ?_
            refine k_v (rm := { frames := 2, cells := 0, slots := 0, locals := 96 }) (av := [.ref x]) X hw (va_runV (As := []) (rest := []) (cfix X) (k_X12_token l G cy κ T_34 _ x hO_T_34.1 ha_x_L_35) (cwV 0 X.2.2.2.1 gX12_condition_X12_token rfl rfl rfl (by decide +kernel) ⟨Nat.le_of_ble_eq_true rfl, Nat.le_of_ble_eq_true rfl⟩) (pre_V X hw _ ha_x_L_35 rfl (by decide) rfl) rfl rfl hl.1 rfl (lv_room (Nat.le_of_ble_eq_true rfl)) dX12_condition_128 ⟨Nat.le_of_ble_eq_true rfl, Nat.le_of_ble_eq_true rfl⟩) 0 0 (Nat.le_of_ble_eq_true rfl) (Nat.le_of_ble_eq_true rfl) (fun S_105 H locs hp hw hfr hnw => ?_)
            obtain ⟨hk_106, hp⟩ := hp
            have hO_107 : Ok MC S S_105 := hO_T_34.call hk_106 (by decide +kernel)
            refine lv_aload_n X.1 X.2.1 dX12_condition_131 rfl (lv_at hl 2 rfl) ?_
            have t_108 : At S_105 x 12 := hk_106.fr.at ha_x_L_35
            obtain ⟨q_109, h_110, h_111, h_112⟩ := gQ_12_1226 hO_107.1 t_108
            refine r_getR (g := 1226) X hw t_108 rfl 26 h_110 (by decide) rfl inn_X12_condition_12 (by decide) (X.2.2.2.1 (.fieldLink RX12 79 "SilkMillModel" "than" "[I") (by decide +kernel)) rfl (gv_1226 _ _) dX12_condition_132 ?_
            refine lv_iload_n X.1 X.2.1 dX12_condition_135 rfl (lv_at hl 0 rfl) ?_
            refine lv_aload_n X.1 X.2.1 dX12_condition_136 rfl (lv_at hl 2 rfl) ?_
            refine k_i (rm := { frames := 3, cells := 0, slots := 0, locals := 144 }) (av := [.ref x]) X hw (va_runV (As := []) (rest := [.int (v_19), .ref q_109]) (cfix X) (k_X12_number l G cy κ S_105 _ x hO_107.1 t_108) (cwV 0 X.2.2.2.1 gX12_condition_X12_number rfl rfl rfl (by decide +kernel) ⟨Nat.le_of_ble_eq_true rfl, Nat.le_of_ble_eq_true rfl⟩) (pre_V X hw _ t_108 rfl (by decide) rfl) rfl rfl hl.1 rfl (lv_room (Nat.le_of_ble_eq_true rfl)) dX12_condition_137 ⟨Nat.le_of_ble_eq_true rfl, Nat.le_of_ble_eq_true rfl⟩) 0 0 (Nat.le_of_ble_eq_true rfl) (Nat.le_of_ble_eq_true rfl) (fun rr_113 S_114 H locs hp hw hfr hnw => ?_)
            obtain ⟨hk_115, hp⟩ := hp
            have hO_116 : Ok MC S S_114 := hO_107.call hk_115 (by decide +kernel)
            have rg_117 := And.intro (z_lo rr_113) (z_hi rr_113)
            have t_118 : At S_114 q_109 734 := hk_115.fr.at h_111
            have t_119 : pN S_114 q_109 = 240 := hk_115.fr.N h_111 h_112
            clear h_112
            refine r_iast X hw t_118 rfl (by rw [t_119]; exact z_ix z_20 (by omega) (by omega)) dX12_condition_140 (fun H locs hw => ?_)
            obtain ⟨S_120, eS_120⟩ : ∃ T, T = sA S_114 q_109 (upd (pA S_114 q_109) (Int32.toNatClampNeg (v_19)) (rr_113)) := ⟨_, rfl⟩
            rw [← eS_120] at hw
            have hO_121 : Ok MC S S_120 := hO_116.sA eS_120 t_118 (by decide +kernel) (uA_734 hO_116.1 t_118)
            have h_122 : pA S_120 q_109 (Int32.toNatClampNeg (v_19)) = rr_113 := tA_sAs eS_120
            refine lv_aload_n X.1 X.2.1 dX12_condition_141 rfl (lv_at hl 2 rfl) ?_
            have t_123 : At S_114 x 12 := hk_115.fr.at t_108
            have t_124 : At S_120 x 12 := tAt_sA eS_120 t_123
            obtain ⟨q_125, h_126, h_127, h_128⟩ := gQ_12_1223 hO_121.1 t_124
            refine r_getR (g := 1223) X hw t_124 rfl 23 h_126 (by decide) rfl inn_X12_condition_12 (by decide) (X.2.2.2.1 (.fieldLink RX12 70 "SilkMillModel" "conditions" "[I") (by decide +kernel)) rfl (gv_1223 _ _) dX12_condition_142 ?_
            have zc_129 : zA S_105 x 1223 = zA S x 1223 := (zA_fr hk_106.fr ha_x_L_35 (ex3 (gQ_12_1223 hO_T_34.1 ha_x_L_35)) (by decide +kernel) (by decide +kernel)).trans zk_38
            have zc_130 : zA S_114 x 1223 = zA S x 1223 := (zA_fr hk_115.fr t_108 (ex3 (gQ_12_1223 hO_107.1 t_108)) (by decide +kernel) (by decide +kernel)).trans zc_129
            have t_131 : At S_114 x 12 := hk_115.fr.at t_108
            have zc_132 : zA S_120 x 1223 = zA S x 1223 := (zA_sAn eS_120 (ex3 (gQ_12_1223 hO_116.1 t_131)) t_118 rfl).trans zc_130
            have zz_133 := congrFun zc_132 a1_z.toNat
            refine lv_iload_n X.1 X.2.1 dX12_condition_145 rfl (lv_at hl 3 rfl) ?_
            refine lv_dup2_11 X.1 X.2.1 dX12_condition_146 rfl rfl ?_
            refine r_iald X hw h_127 rfl (by rw [h_128]; exact z_ix hz_a1 (by omega) (by omega)) dX12_condition_147 ?_
            refine lv_topi (fun v_134 ev_134 => ?_)
            have z_135 := gE_674 hO_121.1 h_127 (Int32.toNatClampNeg (a1)); rw [← ev_134] at z_135
            have ev_134 := ev_134.symm
            have zf_136 : zA S_120 x 1223 (a1_z).toNat = v_134.toInt := (zA_of h_126 hz_a1 (by omega) ev_134)
            refine lv_iconst (v := 1) X.1 X.2.1 dX12_condition_148 (by decide) ?_
            refine lv_iadd X.1 X.2.1 dX12_condition_149 ?_
            refine lv_topi (fun v_137 ev_137 => ?_)
            have z_138 : v_137.toInt = v_134.toInt + 1 := z_add ev_137 rfl ti_1 (by omega) (by omega)
            refine r_iast X hw h_127 rfl (by rw [h_128]; exact z_ix hz_a1 (by omega) (by omega)) dX12_condition_150 (fun H locs hw => ?_)
            obtain ⟨S_139, eS_139⟩ : ∃ T, T = sA S_120 q_125 (upd (pA S_120 q_125) (Int32.toNatClampNeg (a1)) (v_137)) := ⟨_, rfl⟩
            rw [← eS_139] at hw
            have hO_140 : Ok MC S S_139 := hO_121.sA eS_139 h_127 (by decide +kernel) (uA_674 hO_121.1 h_127 (by omega) (by omega))
            have h_141 : pA S_139 q_125 (Int32.toNatClampNeg (a1)) = v_137 := tA_sAs eS_139
            have t_142 : pR S_139 1223 x = some q_125 := tR_sA eS_139 h_126
            have t_144 : pR S_120 1223 x = some q_125 := by have h := t_142; rw [eS_139, pR_sA] at h; exact h
            have zs_143 : ∀ j, zA S_139 x 1223 j = if j = (a1_z).toNat then (v_134.toInt + 1) else zA S_120 x 1223 j := by have h := zA_sAs eS_139 t_144 z_138; rw [z_nc hz_a1 (by omega)] at h; exact h
            have zs_145 := zs_143 (a1_z).toNat; rw [if_pos rfl] at zs_145
            refine lv_aload_n X.1 X.2.1 dX12_condition_151 rfl (lv_at hl 2 rfl) ?_
            have t_146 : At S_139 x 12 := tAt_sA eS_139 t_124
            obtain ⟨v_147, ev_147⟩ : ∃ v, pI S_139 1230 x = v := ⟨_, rfl⟩
            have rg_149 := And.intro (z_lo v_147) (z_hi v_147)
            refine r_getI (g := 1230) (x := v_147) X hw t_146 rfl 30 ev_147 (by decide) rfl inn_X12_condition_12 (by decide) (X.2.2.2.1 (.fieldLink RX12 229 "SilkMillModel" "faultKind" "I") (by decide +kernel)) rfl (gv_1230 _ _) dX12_condition_152 ?_
            refine lv_if_ne (tgt := 162) X.1 X.2.1 dX12_condition_155 (by decide) (fun c_150 => ?_) (fun c_150 => ?_)
            · have z_b_151 := trivial
              have k_152 : v_147.toInt ≠ 0 := z_ne rfl ti_0 c_150
              refine lv_iconst (v := 0) X.1 X.2.1 dX12_condition_162 (by decide) ?_
              rw [hQQ]
              exact ret_z X hw hr hlocks (Nat.le_of_ble_eq_true rfl) (Nat.le_of_ble_eq_true rfl) (by decide) ⟨hO_140, Or.inr ⟨trivial, rfl⟩⟩ dX12_condition_163
            · have z_b_153 := trivial
              have k_154 : v_147.toInt = 0 := z_eq rfl ti_0 c_150
              refine lv_iconst (v := 1) X.1 X.2.1 dX12_condition_158 (by decide) ?_
              refine lv_goto (tgt := 163) X.1 X.2.1 dX12_condition_159 (by decide) ?_
              rw [hQQ]
              exact ret_z X hw hr hlocks (Nat.le_of_ble_eq_true rfl) (Nat.le_of_ble_eq_true rfl) (by decide) ⟨hO_140, Or.inl ⟨by omega, rfl⟩⟩ dX12_condition_163
          · have z_b_155 := trivial
            refine lv_if_ne (tgt := 127) X.1 X.2.1 dX12_condition_108 (by decide) (fun c_156 => absurd c_156 (by decide)) (fun c_156 => ?_)
            refine lv_aload_n X.1 X.2.1 dX12_condition_111 rfl (lv_at hl 2 rfl) ?_
            refine lv_ldcwS (q := κ (100 + 20)) X.1 X.2.1 X.2.2.2.2.1 (show vk_R RX12 262 ">" (κ (100 + 20)) s from (X.2.2.2.2.2.2.2.2.2.2.2.2.2.2 20 (by decide)).1) dX12_condition_112 ?_
            refine k_i (rm := { frames := 5, cells := 0, slots := 0, locals := 240 }) (av := [.ref x, .ref (κ (100 + 20))]) X hw (va_runV (As := [.ref (κ (100 + 20))]) (rest := []) (cfix X) (k_X12_is l G cy κ T_34 _ x 20 hO_T_34.1 ha_x_L_35 (by decide)) (cwV 1 X.2.2.2.1 gX12_condition_X12_is rfl rfl rfl (by decide +kernel) ⟨Nat.le_of_ble_eq_true rfl, Nat.le_of_ble_eq_true rfl⟩) (pre_V X hw _ ha_x_L_35 rfl (by decide) rfl) rfl rfl hl.1 rfl (lv_room (Nat.le_of_ble_eq_true rfl)) dX12_condition_115 ⟨Nat.le_of_ble_eq_true rfl, Nat.le_of_ble_eq_true rfl⟩) 0 0 (Nat.le_of_ble_eq_true rfl) (Nat.le_of_ble_eq_true rfl) (fun rr_157 S_158 H locs hp hw hfr hnw => ?_)
            obtain ⟨e2, hp⟩ := hp
            subst e2
            rcases hp with ⟨f_159, er_160⟩ | ⟨f_159, er_160⟩ <;> subst er_160
            · have z_b_161 := trivial
              refine lv_if_ne (tgt := 127) X.1 X.2.1 dX12_condition_118 (by decide) (fun c_162 => ?_) (fun c_162 => absurd c_162 (by decide))
              refine lv_aload_n X.1 X.2.1 dX12_condition_127 rfl (lv_at hl 2 rfl) ?_
              refine k_v (rm := { frames := 2, cells := 0, slots := 0, locals := 96 }) (av := [.ref x]) X hw (va_runV (As := []) (rest := []) (cfix X) (k_X12_token l G cy κ T_34 _ x hO_T_34.1 ha_x_L_35) (cwV 0 X.2.2.2.1 gX12_condition_X12_token rfl rfl rfl (by decide +kernel) ⟨Nat.le_of_ble_eq_true rfl, Nat.le_of_ble_eq_true rfl⟩) (pre_V X hw _ ha_x_L_35 rfl (by decide) rfl) rfl rfl hl.1 rfl (lv_room (Nat.le_of_ble_eq_true rfl)) dX12_condition_128 ⟨Nat.le_of_ble_eq_true rfl, Nat.le_of_ble_eq_true rfl⟩) 0 0 (Nat.le_of_ble_eq_true rfl) (Nat.le_of_ble_eq_true rfl) (fun S_164 H locs hp hw hfr hnw => ?_)
              obtain ⟨hk_165, hp⟩ := hp
              have hO_166 : Ok MC S S_164 := hO_T_34.call hk_165 (by decide +kernel)
              refine lv_aload_n X.1 X.2.1 dX12_condition_131 rfl (lv_at hl 2 rfl) ?_
              have t_167 : At S_164 x 12 := hk_165.fr.at ha_x_L_35
              obtain ⟨q_168, h_169, h_170, h_171⟩ := gQ_12_1226 hO_166.1 t_167
              refine r_getR (g := 1226) X hw t_167 rfl 26 h_169 (by decide) rfl inn_X12_condition_12 (by decide) (X.2.2.2.1 (.fieldLink RX12 79 "SilkMillModel" "than" "[I") (by decide +kernel)) rfl (gv_1226 _ _) dX12_condition_132 ?_
              refine lv_iload_n X.1 X.2.1 dX12_condition_135 rfl (lv_at hl 0 rfl) ?_
              refine lv_aload_n X.1 X.2.1 dX12_condition_136 rfl (lv_at hl 2 rfl) ?_
              refine k_i (rm := { frames := 3, cells := 0, slots := 0, locals := 144 }) (av := [.ref x]) X hw (va_runV (As := []) (rest := [.int (v_19), .ref q_168]) (cfix X) (k_X12_number l G cy κ S_164 _ x hO_166.1 t_167) (cwV 0 X.2.2.2.1 gX12_condition_X12_number rfl rfl rfl (by decide +kernel) ⟨Nat.le_of_ble_eq_true rfl, Nat.le_of_ble_eq_true rfl⟩) (pre_V X hw _ t_167 rfl (by decide) rfl) rfl rfl hl.1 rfl (lv_room (Nat.le_of_ble_eq_true rfl)) dX12_condition_137 ⟨Nat.le_of_ble_eq_true rfl, Nat.le_of_ble_eq_true rfl⟩) 0 0 (Nat.le_of_ble_eq_true rfl) (Nat.le_of_ble_eq_true rfl) (fun rr_172 S_173 H locs hp hw hfr hnw => ?_)
              obtain ⟨hk_174, hp⟩ := hp
              have hO_175 : Ok MC S S_173 := hO_166.call hk_174 (by decide +kernel)
              have rg_176 := And.intro (z_lo rr_172) (z_hi rr_172)
              have t_177 : At S_173 q_168 734 := hk_174.fr.at h_170
              have t_178 : pN S_173 q_168 = 240 := hk_174.fr.N h_170 h_171
              clear h_171
              refine r_iast X hw t_177 rfl (by rw [t_178]; exact z_ix z_20 (by omega) (by omega)) dX12_condition_140 (fun H locs hw => ?_)
              obtain ⟨S_179, eS_179⟩ : ∃ T, T = sA S_173 q_168 (upd (pA S_173 q_168) (Int32.toNatClampNeg (v_19)) (rr_172)) := ⟨_, rfl⟩
              rw [← eS_179] at hw
              have hO_180 : Ok MC S S_179 := hO_175.sA eS_179 t_177 (by decide +kernel) (uA_734 hO_175.1 t_177)
              have h_181 : pA S_179 q_168 (Int32.toNatClampNeg (v_19)) = rr_172 := tA_sAs eS_179
              refine lv_aload_n X.1 X.2.1 dX12_condition_141 rfl (lv_at hl 2 rfl) ?_
              have t_182 : At S_173 x 12 := hk_174.fr.at t_167
              have t_183 : At S_179 x 12 := tAt_sA eS_179 t_182
              obtain ⟨q_184, h_185, h_186, h_187⟩ := gQ_12_1223 hO_180.1 t_183
              refine r_getR (g := 1223) X hw t_183 rfl 23 h_185 (by decide) rfl inn_X12_condition_12 (by decide) (X.2.2.2.1 (.fieldLink RX12 70 "SilkMillModel" "conditions" "[I") (by decide +kernel)) rfl (gv_1223 _ _) dX12_condition_142 ?_
              have zc_188 : zA S_164 x 1223 = zA S x 1223 := (zA_fr hk_165.fr ha_x_L_35 (ex3 (gQ_12_1223 hO_T_34.1 ha_x_L_35)) (by decide +kernel) (by decide +kernel)).trans zk_38
              have zc_189 : zA S_173 x 1223 = zA S x 1223 := (zA_fr hk_174.fr t_167 (ex3 (gQ_12_1223 hO_166.1 t_167)) (by decide +kernel) (by decide +kernel)).trans zc_188
              have t_190 : At S_173 x 12 := hk_174.fr.at t_167
              have zc_191 : zA S_179 x 1223 = zA S x 1223 := (zA_sAn eS_179 (ex3 (gQ_12_1223 hO_175.1 t_190)) t_177 rfl).trans zc_189
              have zz_192 := congrFun zc_191 a1_z.toNat
              refine lv_iload_n X.1 X.2.1 dX12_condition_145 rfl (lv_at hl 3 rfl) ?_
              refine lv_dup2_11 X.1 X.2.1 dX12_condition_146 rfl rfl ?_
              refine r_iald X hw h_186 rfl (by rw [h_187]; exact z_ix hz_a1 (by omega) (by omega)) dX12_condition_147 ?_
              refine lv_topi (fun v_193 ev_193 => ?_)
              have z_194 := gE_674 hO_180.1 h_186 (Int32.toNatClampNeg (a1)); rw [← ev_193] at z_194
              have ev_193 := ev_193.symm
              have zf_195 : zA S_179 x 1223 (a1_z).toNat = v_193.toInt := (zA_of h_185 hz_a1 (by omega) ev_193)
              refine lv_iconst (v := 1) X.1 X.2.1 dX12_condition_148 (by decide) ?_
              refine lv_iadd X.1 X.2.1 dX12_condition_149 ?_
              refine lv_topi (fun v_196 ev_196 => ?_)
              have z_197 : v_196.toInt = v_193.toInt + 1 := z_add ev_196 rfl ti_1 (by omega) (by omega)
              refine r_iast X hw h_186 rfl (by rw [h_187]; exact z_ix hz_a1 (by omega) (by omega)) dX12_condition_150 (fun H locs hw => ?_)
              obtain ⟨S_198, eS_198⟩ : ∃ T, T = sA S_179 q_184 (upd (pA S_179 q_184) (Int32.toNatClampNeg (a1)) (v_196)) := ⟨_, rfl⟩
              rw [← eS_198] at hw
              have hO_199 : Ok MC S S_198 := hO_180.sA eS_198 h_186 (by decide +kernel) (uA_674 hO_180.1 h_186 (by omega) (by omega))
              have h_200 : pA S_198 q_184 (Int32.toNatClampNeg (a1)) = v_196 := tA_sAs eS_198
              have t_201 : pR S_198 1223 x = some q_184 := tR_sA eS_198 h_185
              have t_203 : pR S_179 1223 x = some q_184 := by have h := t_201; rw [eS_198, pR_sA] at h; exact h
              have zs_202 : ∀ j, zA S_198 x 1223 j = if j = (a1_z).toNat then (v_193.toInt + 1) else zA S_179 x 1223 j := by have h := zA_sAs eS_198 t_203 z_197; rw [z_nc hz_a1 (by omega)] at h; exact h
              have zs_204 := zs_202 (a1_z).toNat; rw [if_pos rfl] at zs_204
              refine lv_aload_n X.1 X.2.1 dX12_condition_151 rfl (lv_at hl 2 rfl) ?_
              have t_205 : At S_198 x 12 := tAt_sA eS_198 t_183
              obtain ⟨v_206, ev_206⟩ : ∃ v, pI S_198 1230 x = v := ⟨_, rfl⟩
              have rg_208 := And.intro (z_lo v_206) (z_hi v_206)
              refine r_getI (g := 1230) (x := v_206) X hw t_205 rfl 30 ev_206 (by decide) rfl inn_X12_condition_12 (by decide) (X.2.2.2.1 (.fieldLink RX12 229 "SilkMillModel" "faultKind" "I") (by decide +kernel)) rfl (gv_1230 _ _) dX12_condition_152 ?_
              refine lv_if_ne (tgt := 162) X.1 X.2.1 dX12_condition_155 (by decide) (fun c_209 => ?_) (fun c_209 => ?_)
              · have z_b_210 := trivial
                have k_211 : v_206.toInt ≠ 0 := z_ne rfl ti_0 c_209
                refine lv_iconst (v := 0) X.1 X.2.1 dX12_condition_162 (by decide) ?_
                rw [hQQ]
                exact ret_z X hw hr hlocks (Nat.le_of_ble_eq_true rfl) (Nat.le_of_ble_eq_true rfl) (by decide) ⟨hO_199, Or.inr ⟨trivial, rfl⟩⟩ dX12_condition_163
              · have z_b_212 := trivial
                have k_213 : v_206.toInt = 0 := z_eq rfl ti_0 c_209
                refine lv_iconst (v := 1) X.1 X.2.1 dX12_condition_158 (by decide) ?_
                refine lv_goto (tgt := 163) X.1 X.2.1 dX12_condition_159 (by decide) ?_
                rw [hQQ]
                exact ret_z X hw hr hlocks (Nat.le_of_ble_eq_true rfl) (Nat.le_of_ble_eq_true rfl) (by decide) ⟨hO_199, Or.inl ⟨by omega, rfl⟩⟩ dX12_condition_163
            · have z_b_214 := trivial
              refine lv_if_ne (tgt := 127) X.1 X.2.1 dX12_condition_118 (by decide) (fun c_215 => absurd c_215 (by decide)) (fun c_215 => ?_)
              refine lv_aload_n X.1 X.2.1 dX12_condition_121 rfl (lv_at hl 2 rfl) ?_
              refine lv_iconst (v := 1) X.1 X.2.1 dX12_condition_122 (by decide) ?_
              refine k_i (rm := { frames := 1, cells := 0, slots := 0, locals := 48 }) (av := [.ref x, .int 1]) X hw (va_runV (As := [.int 1]) (rest := []) (cfix X) (k_X12_wrong l G cy κ T_34 _ x (1) (1) hO_T_34.1 ha_x_L_35 ti_1) (cwV 1 X.2.2.2.1 gX12_condition_X12_wrong rfl rfl rfl (by decide +kernel) ⟨Nat.le_of_ble_eq_true rfl, Nat.le_of_ble_eq_true rfl⟩) (pre_V X hw _ ha_x_L_35 rfl (by decide) rfl) rfl rfl hl.1 rfl (lv_room (Nat.le_of_ble_eq_true rfl)) dX12_condition_123 ⟨Nat.le_of_ble_eq_true rfl, Nat.le_of_ble_eq_true rfl⟩) 0 0 (Nat.le_of_ble_eq_true rfl) (Nat.le_of_ble_eq_true rfl) (fun rr_216 S_217 H locs hp hw hfr hnw => ?_)
              obtain ⟨hk_218, hp⟩ := hp
              have hO_219 : Ok MC S S_217 := hO_T_34.call hk_218 (by decide +kernel)
              rcases hp with ⟨f_220, er_221⟩ | ⟨f_220, er_221⟩ <;> subst er_221
              · have z_b_222 := trivial
                rw [hQQ]
                exact ret_z X hw hr hlocks (Nat.le_of_ble_eq_true rfl) (Nat.le_of_ble_eq_true rfl) (by decide) ⟨hO_219, Or.inl ⟨by omega, rfl⟩⟩ dX12_condition_126
              · have z_b_223 := trivial
                rw [hQQ]
                exact ret_z X hw hr hlocks (Nat.le_of_ble_eq_true rfl) (Nat.le_of_ble_eq_true rfl) (by decide) ⟨hO_219, Or.inr ⟨trivial, rfl⟩⟩ dX12_condition_126
      refine lv_aload_n X.1 X.2.1 dX12_condition_56 rfl (lv_at hl 2 rfl) ?_
      have t_224 : At S_30 x 12 := tAt_sA eS_30 t_25
      obtain ⟨q_225, h_226, h_227, h_228⟩ := gQ_12_1225 hO_31.1 t_224
      refine r_getR (g := 1225) X hw t_224 rfl 25 h_226 (by decide) rfl inn_X12_condition_12 (by decide) (X.2.2.2.1 (.fieldLink RX12 76 "SilkMillModel" "rel" "[I") (by decide +kernel)) rfl (gv_1225 _ _) dX12_condition_57 ?_
      refine lv_iload_n X.1 X.2.1 dX12_condition_60 rfl (lv_at hl 0 rfl) ?_
      refine lv_aload_n X.1 X.2.1 dX12_condition_61 rfl (lv_at hl 2 rfl) ?_
      refine lv_ldcwS (q := κ (100 + 18)) X.1 X.2.1 X.2.2.2.2.1 (show vk_R RX12 258 "<" (κ (100 + 18)) s from (X.2.2.2.2.2.2.2.2.2.2.2.2.2.2 18 (by decide)).1) dX12_condition_62 ?_
      refine k_i (rm := { frames := 5, cells := 0, slots := 0, locals := 240 }) (av := [.ref x, .ref (κ (100 + 18))]) X hw (va_runV (As := [.ref (κ (100 + 18))]) (rest := [.int (v_19), .ref q_225]) (cfix X) (k_X12_is l G cy κ S_30 _ x 18 hO_31.1 t_224 (by decide)) (cwV 1 X.2.2.2.1 gX12_condition_X12_is rfl rfl rfl (by decide +kernel) ⟨Nat.le_of_ble_eq_true rfl, Nat.le_of_ble_eq_true rfl⟩) (pre_V X hw _ t_224 rfl (by decide) rfl) rfl rfl hl.1 rfl (lv_room (Nat.le_of_ble_eq_true rfl)) dX12_condition_65 ⟨Nat.le_of_ble_eq_true rfl, Nat.le_of_ble_eq_true rfl⟩) 0 0 (Nat.le_of_ble_eq_true rfl) (Nat.le_of_ble_eq_true rfl) (fun rr_229 S_230 H locs hp hw hfr hnw => ?_)
      obtain ⟨e2, hp⟩ := hp
      subst e2
      rcases hp with ⟨f_231, er_232⟩ | ⟨f_231, er_232⟩ <;> subst er_232
      · have z_b_233 := trivial
        refine lv_if_eq (tgt := 75) X.1 X.2.1 dX12_condition_68 (by decide) (fun c_234 => absurd c_234 (by decide)) (fun c_234 => ?_)
        refine lv_iconst (v := 0) X.1 X.2.1 dX12_condition_71 (by decide) ?_
        refine lv_goto (tgt := 90) X.1 X.2.1 dX12_condition_72 (by decide) ?_
        refine r_iast X hw h_227 rfl (by rw [h_228]; exact z_ix z_20 (by omega) (by omega)) dX12_condition_90 (fun H locs hw => ?_)
        obtain ⟨S_235, eS_235⟩ : ∃ T, T = sA S_30 q_225 (upd (pA S_30 q_225) (Int32.toNatClampNeg (v_19)) (0)) := ⟨_, rfl⟩
        rw [← eS_235] at hw
        have hO_236 : Ok MC S S_235 := hO_31.sA eS_235 h_227 (by decide +kernel) (uA_714 hO_31.1 h_227)
        have h_237 : pA S_235 q_225 (Int32.toNatClampNeg (v_19)) = 0 := tA_sAs eS_235
        have t_238 : At S_235 x 12 := tAt_sA eS_235 t_224
        have zc_239 : zA S_235 x 1223 = zA S x 1223 := (zA_sAn eS_235 (ex3 (gQ_12_1223 hO_31.1 t_224)) h_227 rfl).trans zc_37
        exact L_33 _ _ _ _  hw t_238 hO_236 zc_239 (lv_sub hl [0, 1, 2, 3] rfl)
      · have z_b_240 := trivial
        refine lv_if_eq (tgt := 75) X.1 X.2.1 dX12_condition_68 (by decide) (fun c_241 => ?_) (fun c_241 => absurd c_241 (by decide))
        refine lv_aload_n X.1 X.2.1 dX12_condition_75 rfl (lv_at hl 2 rfl) ?_
        refine lv_ldcwS (q := κ (100 + 19)) X.1 X.2.1 X.2.2.2.2.1 (show vk_R RX12 260 "=" (κ (100 + 19)) s from (X.2.2.2.2.2.2.2.2.2.2.2.2.2.2 19 (by decide)).1) dX12_condition_76 ?_
        refine k_i (rm := { frames := 5, cells := 0, slots := 0, locals := 240 }) (av := [.ref x, .ref (κ (100 + 19))]) X hw (va_runV (As := [.ref (κ (100 + 19))]) (rest := [.int (v_19), .ref q_225]) (cfix X) (k_X12_is l G cy κ S_30 _ x 19 hO_31.1 t_224 (by decide)) (cwV 1 X.2.2.2.1 gX12_condition_X12_is rfl rfl rfl (by decide +kernel) ⟨Nat.le_of_ble_eq_true rfl, Nat.le_of_ble_eq_true rfl⟩) (pre_V X hw _ t_224 rfl (by decide) rfl) rfl rfl hl.1 rfl (lv_room (Nat.le_of_ble_eq_true rfl)) dX12_condition_79 ⟨Nat.le_of_ble_eq_true rfl, Nat.le_of_ble_eq_true rfl⟩) 0 0 (Nat.le_of_ble_eq_true rfl) (Nat.le_of_ble_eq_true rfl) (fun rr_242 S_243 H locs hp hw hfr hnw => ?_)
        obtain ⟨e2, hp⟩ := hp
        subst e2
        rcases hp with ⟨f_244, er_245⟩ | ⟨f_244, er_245⟩ <;> subst er_245
        · have z_b_246 := trivial
          refine lv_if_eq (tgt := 89) X.1 X.2.1 dX12_condition_82 (by decide) (fun c_247 => absurd c_247 (by decide)) (fun c_247 => ?_)
          refine lv_iconst (v := 1) X.1 X.2.1 dX12_condition_85 (by decide) ?_
          refine lv_goto (tgt := 90) X.1 X.2.1 dX12_condition_86 (by decide) ?_
          refine r_iast X hw h_227 rfl (by rw [h_228]; exact z_ix z_20 (by omega) (by omega)) dX12_condition_90 (fun H locs hw => ?_)
          obtain ⟨S_248, eS_248⟩ : ∃ T, T = sA S_30 q_225 (upd (pA S_30 q_225) (Int32.toNatClampNeg (v_19)) (1)) := ⟨_, rfl⟩
          rw [← eS_248] at hw
          have hO_249 : Ok MC S S_248 := hO_31.sA eS_248 h_227 (by decide +kernel) (uA_714 hO_31.1 h_227)
          have h_250 : pA S_248 q_225 (Int32.toNatClampNeg (v_19)) = 1 := tA_sAs eS_248
          have t_251 : At S_248 x 12 := tAt_sA eS_248 t_224
          have zc_252 : zA S_248 x 1223 = zA S x 1223 := (zA_sAn eS_248 (ex3 (gQ_12_1223 hO_31.1 t_224)) h_227 rfl).trans zc_37
          exact L_33 _ _ _ _  hw t_251 hO_249 zc_252 (lv_sub hl [0, 1, 2, 3] rfl)
        · have z_b_253 := trivial
          refine lv_if_eq (tgt := 89) X.1 X.2.1 dX12_condition_82 (by decide) (fun c_254 => ?_) (fun c_254 => absurd c_254 (by decide))
          refine lv_iconst (v := 2) X.1 X.2.1 dX12_condition_89 (by decide) ?_
          refine r_iast X hw h_227 rfl (by rw [h_228]; exact z_ix z_20 (by omega) (by omega)) dX12_condition_90 (fun H locs hw => ?_)
          obtain ⟨S_255, eS_255⟩ : ∃ T, T = sA S_30 q_225 (upd (pA S_30 q_225) (Int32.toNatClampNeg (v_19)) (2)) := ⟨_, rfl⟩
          rw [← eS_255] at hw
          have hO_256 : Ok MC S S_255 := hO_31.sA eS_255 h_227 (by decide +kernel) (uA_714 hO_31.1 h_227)
          have h_257 : pA S_255 q_225 (Int32.toNatClampNeg (v_19)) = 2 := tA_sAs eS_255
          have t_258 : At S_255 x 12 := tAt_sA eS_255 t_224
          have zc_259 : zA S_255 x 1223 = zA S x 1223 := (zA_sAn eS_255 (ex3 (gQ_12_1223 hO_31.1 t_224)) h_227 rfl).trans zc_37
          exact L_33 _ _ _ _  hw t_258 hO_256 zc_259 (lv_sub hl [0, 1, 2, 3] rfl)
    · have z_b_260 := trivial
      have k_261 : v_11.toInt = 4 := z_eq rfl ti_4 c_14
      refine lv_aload_n X.1 X.2.1 dX12_condition_28 rfl (lv_at hl 1 rfl) ?_
      refine lv_iconst (v := 2) X.1 X.2.1 dX12_condition_29 (by decide) ?_
      refine k_i (rm := { frames := 1, cells := 0, slots := 0, locals := 48 }) (av := [.ref x, .int 2]) X hw (va_runV (As := [.int 2]) (rest := []) (cfix X) (k_X12_wrong l G cy κ S _ x (2) (2) hO.1 ha_x ti_2) (cwV 1 X.2.2.2.1 gX12_condition_X12_wrong rfl rfl rfl (by decide +kernel) ⟨Nat.le_of_ble_eq_true rfl, Nat.le_of_ble_eq_true rfl⟩) (pre_V X hw _ ha_x rfl (by decide) rfl) rfl rfl hl.1 rfl (lv_room (Nat.le_of_ble_eq_true rfl)) dX12_condition_30 ⟨Nat.le_of_ble_eq_true rfl, Nat.le_of_ble_eq_true rfl⟩) 0 0 (Nat.le_of_ble_eq_true rfl) (Nat.le_of_ble_eq_true rfl) (fun rr_262 S_263 H locs hp hw hfr hnw => ?_)
      obtain ⟨hk_264, hp⟩ := hp
      have hO_265 : Ok MC S S_263 := hO.call hk_264 (by decide +kernel)
      rcases hp with ⟨f_266, er_267⟩ | ⟨f_266, er_267⟩ <;> subst er_267
      · have z_b_268 := trivial
        rw [hQQ]
        exact ret_z X hw hr hlocks (Nat.le_of_ble_eq_true rfl) (Nat.le_of_ble_eq_true rfl) (by decide) ⟨hO_265, Or.inl ⟨by omega, rfl⟩⟩ dX12_condition_33
      · have z_b_269 := trivial
        rw [hQQ]
        exact ret_z X hw hr hlocks (Nat.le_of_ble_eq_true rfl) (Nat.le_of_ble_eq_true rfl) (by decide) ⟨hO_265, Or.inr ⟨trivial, rfl⟩⟩ dX12_condition_33
  · have z_b_270 := trivial
    have k_271 : rr_1.toInt = (-1) := z_eq rfl ti_m1 c_4
    refine lv_aload_n X.1 X.2.1 dX12_condition_12 rfl (lv_at hl 1 rfl) ?_
    refine lv_iconst (v := 1) X.1 X.2.1 dX12_condition_13 (by decide) ?_
    refine k_i (rm := { frames := 1, cells := 0, slots := 0, locals := 48 }) (av := [.ref x, .int 1]) X hw (va_runV (As := [.int 1]) (rest := []) (cfix X) (k_X12_wrong l G cy κ S _ x (1) (1) hO.1 ha_x ti_1) (cwV 1 X.2.2.2.1 gX12_condition_X12_wrong rfl rfl rfl (by decide +kernel) ⟨Nat.le_of_ble_eq_true rfl, Nat.le_of_ble_eq_true rfl⟩) (pre_V X hw _ ha_x rfl (by decide) rfl) rfl rfl hl.1 rfl (lv_room (Nat.le_of_ble_eq_true rfl)) dX12_condition_14 ⟨Nat.le_of_ble_eq_true rfl, Nat.le_of_ble_eq_true rfl⟩) 0 0 (Nat.le_of_ble_eq_true rfl) (Nat.le_of_ble_eq_true rfl) (fun rr_272 S_273 H locs hp hw hfr hnw => ?_)
    obtain ⟨hk_274, hp⟩ := hp
    have hO_275 : Ok MC S S_273 := hO.call hk_274 (by decide +kernel)
    rcases hp with ⟨f_276, er_277⟩ | ⟨f_276, er_277⟩ <;> subst er_277
    · have z_b_278 := trivial
      rw [hQQ]
      exact ret_z X hw hr hlocks (Nat.le_of_ble_eq_true rfl) (Nat.le_of_ble_eq_true rfl) (by decide) ⟨hO_275, Or.inl ⟨by omega, rfl⟩⟩ dX12_condition_17
    · have z_b_279 := trivial
      rw [hQQ]
      exact ret_z X hw hr hlocks (Nat.le_of_ble_eq_true rfl) (Nat.le_of_ble_eq_true rfl) (by decide) ⟨hO_275, Or.inr ⟨trivial, rfl⟩⟩ dX12_condition_17
set_option maxHeartbeats 4000000 in
set_option maxRecDepth 100000 in
theorem k_X12_rule (l : Launch) (G : va_G) (cy : Nat → ClassId) (κ : Nat → Nat) (S : PS) (sz : Nat) (x : Nat) (hG : GX S) (ha_x : At S x 12) : Ci l yX12_rule wsX12_rule ({ frames := 7, cells := 0, slots := 0, locals := 336 }) G cy κ S sz [.ref x] (fun (r : Int32) (S9 : PS) => Ok MR S S9 ∧ (((zA S9 x 1220 4 = zA S x 1220 4 + 1 ∧ zA S9 x 1220 4 ≤ 12) ∧ r = 1) ∨ ((zA S9 x 1220 4 = zA S x 1220 4) ∧ r = 0))) := by
  refine ent_m (cc := cX12_rule) (maxL := 4) (ret := (some .boolean)) (by decide) rfl (Nat.le_of_ble_eq_true rfl) ?_
  intro p e s m below meth c ls X hr hlocks hin hw hl hsz
  subst hsz
  have X : Cx p c cX12_rule 4 s [.ref x].toArray wsX12_rule RX12 m G cy κ (AS S s.heap.size) := X
  have hl : lv_has ls 4 [(0, .ref x)] := hl
  have hO : Ok MR S S := Ok.rf hG
  generalize hQQ : MQ below _ _ _ _ _ _ = QQ
  replace hQQ := hQQ.symm
  refine lv_aload_n X.1 X.2.1 dX12_rule_0 rfl (lv_at hl 0 rfl) ?_
  refine lv_ldcwS (q := κ (100 + 21)) X.1 X.2.1 X.2.2.2.2.1 (show vk_R RX12 267 "if" (κ (100 + 21)) s from (X.2.2.2.2.2.2.2.2.2.2.2.2.2.2 21 (by decide)).1) dX12_rule_1 ?_
  refine k_i (rm := { frames := 5, cells := 0, slots := 0, locals := 240 }) (av := [.ref x, .ref (κ (100 + 21))]) X hw (va_runV (As := [.ref (κ (100 + 21))]) (rest := []) (cfix X) (k_X12_is l G cy κ S _ x 21 hO.1 ha_x (by decide)) (cwV 1 X.2.2.2.1 gX12_rule_X12_is rfl rfl rfl (by decide +kernel) ⟨Nat.le_of_ble_eq_true rfl, Nat.le_of_ble_eq_true rfl⟩) (pre_V X hw _ ha_x rfl (by decide) rfl) rfl rfl hl.1 rfl (lv_room (Nat.le_of_ble_eq_true rfl)) dX12_rule_4 ⟨Nat.le_of_ble_eq_true rfl, Nat.le_of_ble_eq_true rfl⟩) 0 0 (Nat.le_of_ble_eq_true rfl) (Nat.le_of_ble_eq_true rfl) (fun rr_1 S_2 H locs hp hw hfr hnw => ?_)
  obtain ⟨e2, hp⟩ := hp
  subst e2
  rcases hp with ⟨f_3, er_4⟩ | ⟨f_3, er_4⟩ <;> subst er_4
  · have z_b_5 := trivial
    refine lv_istore_n (lv' := [(1, .int 1), (0, .ref x)]) X.1 X.2.1 dX12_rule_7 rfl hl (by decide) rfl (fun ls hl => ?_)
    refine lv_aload_n X.1 X.2.1 dX12_rule_8 rfl (lv_at hl 1 rfl) ?_
    refine lv_ldcwS (q := κ (100 + 22)) X.1 X.2.1 X.2.2.2.2.1 (show vk_R RX12 269 "cast drop find throw cut stop " (κ (100 + 22)) s from (X.2.2.2.2.2.2.2.2.2.2.2.2.2.2 22 (by decide)).1) dX12_rule_9 ?_
    refine k_i (rm := { frames := 5, cells := 0, slots := 0, locals := 240 }) (av := [.ref x, .ref (κ (100 + 22))]) X hw (va_runV (As := [.ref (κ (100 + 22))]) (rest := []) (cfix X) (k_X12_which l G cy κ S _ x 22 hO.1 ha_x (by decide)) (cwV 1 X.2.2.2.1 gX12_rule_X12_which rfl rfl rfl (by decide +kernel) ⟨Nat.le_of_ble_eq_true rfl, Nat.le_of_ble_eq_true rfl⟩) (pre_V X hw _ ha_x rfl (by decide) rfl) rfl rfl hl.1 rfl (lv_room (Nat.le_of_ble_eq_true rfl)) dX12_rule_12 ⟨Nat.le_of_ble_eq_true rfl, Nat.le_of_ble_eq_true rfl⟩) 0 0 (Nat.le_of_ble_eq_true rfl) (Nat.le_of_ble_eq_true rfl) (fun rr_6 S_7 H locs hp hw hfr hnw => ?_)
    obtain ⟨e2, hp⟩ := hp
    subst e2
    have rg_8 := And.intro (z_lo rr_6) (z_hi rr_6)
    refine lv_istore_n (lv' := [(2, .int (rr_6)), (1, .int 1), (0, .ref x)]) X.1 X.2.1 dX12_rule_15 rfl hl (by decide) rfl (fun ls hl => ?_)
    refine lv_iload_n X.1 X.2.1 dX12_rule_16 rfl (lv_at hl 1 rfl) ?_
    refine lv_if_ne (tgt := 31) X.1 X.2.1 dX12_rule_17 (by decide) (fun c_9 => ?_) (fun c_9 => absurd c_9 (by decide))
    refine lv_aload_n X.1 X.2.1 dX12_rule_31 rfl (lv_at hl 2 rfl) ?_
    obtain ⟨q_10, h_11, h_12, h_13⟩ := gQ_12_1220 hO.1 ha_x
    refine r_getR (g := 1220) X hw ha_x rfl 20 h_11 (by decide) rfl inn_X12_rule_12 (by decide) (X.2.2.2.1 (.fieldLink RX12 61 "SilkMillModel" "rules" "[I") (by decide +kernel)) rfl (gv_1220 _ _) dX12_rule_32 ?_
    refine lv_iconst (v := 4) X.1 X.2.1 dX12_rule_35 (by decide) ?_
    refine r_iald X hw h_12 rfl (by rw [h_13]; exact z_ix ti_4 (by omega) (by omega)) dX12_rule_36 ?_
    refine lv_topi (fun v_14 ev_14 => ?_)
    have z_15 := gE_614 hO.1 h_12 (Int32.toNatClampNeg (4)); rw [← ev_14] at z_15
    have ev_14 := ev_14.symm
    have zf_16 : zA S x 1220 4 = v_14.toInt := (zA_of (z := 4) h_11 ti_4 (by omega) ev_14)
    refine lv_bipush (v := 12) X.1 X.2.1 dX12_rule_37 (by decide) ?_
    refine lv_icmp_ne (tgt := 48) X.1 X.2.1 dX12_rule_39 (by decide) (fun c_17 => ?_) (fun c_17 => ?_)
    · have z_b_18 := trivial
      have k_19 : v_14.toInt ≠ 12 := z_ne rfl ti_12 c_17
      refine lv_bipush (v := 48) X.1 X.2.1 dX12_rule_48 (by decide) ?_
      refine lv_aload_n X.1 X.2.1 dX12_rule_50 rfl (lv_at hl 2 rfl) ?_
      refine r_getR (g := 1220) X hw ha_x rfl 20 h_11 (by decide) rfl inn_X12_rule_12 (by decide) (X.2.2.2.1 (.fieldLink RX12 61 "SilkMillModel" "rules" "[I") (by decide +kernel)) rfl (gv_1220 _ _) dX12_rule_51 ?_
      refine lv_iconst (v := 4) X.1 X.2.1 dX12_rule_54 (by decide) ?_
      refine r_iald X hw h_12 rfl (by rw [h_13]; exact z_ix ti_4 (by omega) (by omega)) dX12_rule_55 ?_
      rw [ev_14]
      refine lv_iadd X.1 X.2.1 dX12_rule_56 ?_
      refine lv_topi (fun v_20 ev_20 => ?_)
      have z_21 : v_20.toInt = 48 + v_14.toInt := z_add ev_20 ti_48 rfl (by omega) (by omega)
      refine lv_istore_n (lv' := [(3, .int (v_20)), (2, .int (rr_6)), (1, .int 1), (0, .ref x)]) X.1 X.2.1 dX12_rule_57 rfl hl (by decide) rfl (fun ls hl => ?_)
      refine lv_aload_n X.1 X.2.1 dX12_rule_58 rfl (lv_at hl 3 rfl) ?_
      obtain ⟨q_22, h_23, h_24, h_25⟩ := gQ_12_1223 hO.1 ha_x
      refine r_getR (g := 1223) X hw ha_x rfl 23 h_23 (by decide) rfl inn_X12_rule_12 (by decide) (X.2.2.2.1 (.fieldLink RX12 70 "SilkMillModel" "conditions" "[I") (by decide +kernel)) rfl (gv_1223 _ _) dX12_rule_59 ?_
      refine lv_iload_n X.1 X.2.1 dX12_rule_62 rfl (lv_at hl 0 rfl) ?_
      refine lv_iconst (v := 0) X.1 X.2.1 dX12_rule_63 (by decide) ?_
      refine r_iast X hw h_24 rfl (by rw [h_25]; exact z_ix z_21 (by omega) (by omega)) dX12_rule_64 (fun H locs hw => ?_)
      obtain ⟨S_26, eS_26⟩ : ∃ T, T = sA S q_22 (upd (pA S q_22) (Int32.toNatClampNeg (v_20)) (0)) := ⟨_, rfl⟩
      rw [← eS_26] at hw
      have hO_27 : Ok MR S S_26 := hO.sA eS_26 h_24 (by decide +kernel) (uA_674 hO.1 h_24 (by rw [ti_0]; omega) (by rw [ti_0]; omega))
      have h_28 : pA S_26 q_22 (Int32.toNatClampNeg (v_20)) = 0 := tA_sAs eS_26
      refine lv_iload_n X.1 X.2.1 dX12_rule_65 rfl (lv_at hl 2 rfl) ?_
      refine lv_if_eq (tgt := 138) X.1 X.2.1 dX12_rule_66 (by decide) (fun c_29 => absurd c_29 (by decide)) (fun c_29 => ?_)
      refine lv_aload_n X.1 X.2.1 dX12_rule_69 rfl (lv_at hl 3 rfl) ?_
      have t_30 : At S_26 x 12 := tAt_sA eS_26 ha_x
      refine k_v (rm := { frames := 2, cells := 0, slots := 0, locals := 96 }) (av := [.ref x]) X hw (va_runV (As := []) (rest := []) (cfix X) (k_X12_token l G cy κ S_26 _ x hO_27.1 t_30) (cwV 0 X.2.2.2.1 gX12_rule_X12_token rfl rfl rfl (by decide +kernel) ⟨Nat.le_of_ble_eq_true rfl, Nat.le_of_ble_eq_true rfl⟩) (pre_V X hw _ t_30 rfl (by decide) rfl) rfl rfl hl.1 rfl (lv_room (Nat.le_of_ble_eq_true rfl)) dX12_rule_70 ⟨Nat.le_of_ble_eq_true rfl, Nat.le_of_ble_eq_true rfl⟩) 0 0 (Nat.le_of_ble_eq_true rfl) (Nat.le_of_ble_eq_true rfl) (fun S_32 H locs hp hw hfr hnw => ?_)
      obtain ⟨hk_33, hp⟩ := hp
      have hO_34 : Ok MR S S_32 := hO_27.call hk_33 (by decide +kernel)
      refine lv_aload_n X.1 X.2.1 dX12_rule_73 rfl (lv_at hl 3 rfl) ?_
      refine lv_iload_n X.1 X.2.1 dX12_rule_74 rfl (lv_at hl 0 rfl) ?_
      have t_35 : At S_32 x 12 := hk_33.fr.at t_30
      refine k_i (rm := { frames := 6, cells := 0, slots := 0, locals := 288 }) (av := [.ref x, .int (v_20)]) X hw (va_runV (As := [.int (v_20)]) (rest := []) (cfix X) (k_X12_condition l G cy κ S_32 _ x (v_20) ((48 + v_14.toInt)) hO_34.1 t_35 z_21 (by first | assumption | omega) (by first | assumption | omega)) (cwV 1 X.2.2.2.1 gX12_rule_X12_condition rfl rfl rfl (by decide +kernel) ⟨Nat.le_of_ble_eq_true rfl, Nat.le_of_ble_eq_true rfl⟩) (pre_V X hw _ t_35 rfl (by decide) rfl) rfl rfl hl.1 rfl (lv_room (Nat.le_of_ble_eq_true rfl)) dX12_rule_75 ⟨Nat.le_of_ble_eq_true rfl, Nat.le_of_ble_eq_true rfl⟩) 0 0 (Nat.le_of_ble_eq_true rfl) (Nat.le_of_ble_eq_true rfl) (fun rr_36 S_37 H locs hp hw hfr hnw => ?_)
      obtain ⟨hk_38, hp⟩ := hp
      have hO_39 : Ok MR S S_37 := hO_34.call hk_38 (by decide +kernel)
      rcases hp with ⟨f_40, er_41⟩ | ⟨f_40, er_41⟩ <;> subst er_41
      · have z_b_42 := trivial
        refine lv_if_ne (tgt := 83) X.1 X.2.1 dX12_rule_78 (by decide) (fun c_43 => ?_) (fun c_43 => absurd c_43 (by decide))
        have zc_47 : zA S_26 x 1220 = zA S x 1220 := zA_sAn eS_26 (ex3 (gQ_12_1220 hO.1 ha_x)) h_24 rfl
        have zc_48 : zA S_32 x 1220 = zA S x 1220 := (zA_fr hk_33.fr t_30 (ex3 (gQ_12_1220 hO_27.1 t_30)) (by decide +kernel) (by decide +kernel)).trans zc_47
        have zc_49 : zA S_37 x 1220 = zA S x 1220 := (zA_fr hk_38.fr t_35 (ex3 (gQ_12_1220 hO_34.1 t_35)) (by decide +kernel) (by decide +kernel)).trans zc_48
        have L_44 : ∀ (n : Nat) (T_45 : PS) (H : Heap) (locs : List Loc) (ls : Array Slot) , ((4 - zA T_45 x 1223 ((48 + v_14.toInt)).toNat).toNat = n) → (Wd G cy (AS S s.heap.size) s.heap T_45 H locs) → (At T_45 x 12) → (Ok MR S T_45) → (zA T_45 x 1220 = zA S x 1220) → (lv_has ls 4 [(3, .int (v_20)), (2, .int (rr_6)), (1, .int 1), (0, .ref x)]) → W p l e ({ frames := 7, cells := 0, slots := 0, locals := 336 }) s m [.ref x].toArray below meth c H locs 0 0 QQ (F0 m 83 ls []) := by
          intro n
          induction n using Nat.strongRecOn with
          | ind n ih_L_44 =>
          intro T_45 H locs ls  hn hw ha_x_L_46 hO_T_45 zk_50 hl
          refine lv_aload_n X.1 X.2.1 dX12_rule_83 rfl (lv_at hl 3 rfl) ?_
          refine lv_ldcwS (q := κ (100 + 23)) X.1 X.2.1 X.2.2.2.2.1 (show vk_R RX12 274 "and" (κ (100 + 23)) s from (X.2.2.2.2.2.2.2.2.2.2.2.2.2.2 23 (by decide)).1) dX12_rule_84 ?_
          refine k_i (rm := { frames := 5, cells := 0, slots := 0, locals := 240 }) (av := [.ref x, .ref (κ (100 + 23))]) X hw (va_runV (As := [.ref (κ (100 + 23))]) (rest := []) (cfix X) (k_X12_is l G cy κ T_45 _ x 23 hO_T_45.1 ha_x_L_46 (by decide)) (cwV 1 X.2.2.2.1 gX12_rule_X12_is rfl rfl rfl (by decide +kernel) ⟨Nat.le_of_ble_eq_true rfl, Nat.le_of_ble_eq_true rfl⟩) (pre_V X hw _ ha_x_L_46 rfl (by decide) rfl) rfl rfl hl.1 rfl (lv_room (Nat.le_of_ble_eq_true rfl)) dX12_rule_87 ⟨Nat.le_of_ble_eq_true rfl, Nat.le_of_ble_eq_true rfl⟩) 0 0 (Nat.le_of_ble_eq_true rfl) (Nat.le_of_ble_eq_true rfl) (fun rr_51 S_52 H locs hp hw hfr hnw => ?_)
          obtain ⟨e2, hp⟩ := hp
          subst e2
          rcases hp with ⟨f_53, er_54⟩ | ⟨f_53, er_54⟩ <;> subst er_54
          · have z_b_55 := trivial
            refine lv_if_eq (tgt := 107) X.1 X.2.1 dX12_rule_90 (by decide) (fun c_56 => absurd c_56 (by decide)) (fun c_56 => ?_)
            refine lv_aload_n X.1 X.2.1 dX12_rule_93 rfl (lv_at hl 3 rfl) ?_
            refine k_v (rm := { frames := 2, cells := 0, slots := 0, locals := 96 }) (av := [.ref x]) X hw (va_runV (As := []) (rest := []) (cfix X) (k_X12_token l G cy κ T_45 _ x hO_T_45.1 ha_x_L_46) (cwV 0 X.2.2.2.1 gX12_rule_X12_token rfl rfl rfl (by decide +kernel) ⟨Nat.le_of_ble_eq_true rfl, Nat.le_of_ble_eq_true rfl⟩) (pre_V X hw _ ha_x_L_46 rfl (by decide) rfl) rfl rfl hl.1 rfl (lv_room (Nat.le_of_ble_eq_true rfl)) dX12_rule_94 ⟨Nat.le_of_ble_eq_true rfl, Nat.le_of_ble_eq_true rfl⟩) 0 0 (Nat.le_of_ble_eq_true rfl) (Nat.le_of_ble_eq_true rfl) (fun S_58 H locs hp hw hfr hnw => ?_)
            obtain ⟨hk_59, hp⟩ := hp
            have hO_60 : Ok MR S S_58 := hO_T_45.call hk_59 (by decide +kernel)
            have zc_61 : zA S_58 x 1223 = zA T_45 x 1223 := zA_fr hk_59.fr ha_x_L_46 (ex3 (gQ_12_1223 hO_T_45.1 ha_x_L_46)) (by decide +kernel) (by decide +kernel)
            have zz_62 := congrFun zc_61 (((48 + v_14.toInt)).toNat)
            refine lv_aload_n X.1 X.2.1 dX12_rule_97 rfl (lv_at hl 3 rfl) ?_
            refine lv_iload_n X.1 X.2.1 dX12_rule_98 rfl (lv_at hl 0 rfl) ?_
            have t_63 : At S_58 x 12 := hk_59.fr.at ha_x_L_46
            refine k_i (rm := { frames := 6, cells := 0, slots := 0, locals := 288 }) (av := [.ref x, .int (v_20)]) X hw (va_runV (As := [.int (v_20)]) (rest := []) (cfix X) (k_X12_condition l G cy κ S_58 _ x (v_20) ((48 + v_14.toInt)) hO_60.1 t_63 z_21 (by first | assumption | omega) (by first | assumption | omega)) (cwV 1 X.2.2.2.1 gX12_rule_X12_condition rfl rfl rfl (by decide +kernel) ⟨Nat.le_of_ble_eq_true rfl, Nat.le_of_ble_eq_true rfl⟩) (pre_V X hw _ t_63 rfl (by decide) rfl) rfl rfl hl.1 rfl (lv_room (Nat.le_of_ble_eq_true rfl)) dX12_rule_99 ⟨Nat.le_of_ble_eq_true rfl, Nat.le_of_ble_eq_true rfl⟩) 0 0 (Nat.le_of_ble_eq_true rfl) (Nat.le_of_ble_eq_true rfl) (fun rr_64 S_65 H locs hp hw hfr hnw => ?_)
            obtain ⟨hk_66, hp⟩ := hp
            have hO_67 : Ok MR S S_65 := hO_60.call hk_66 (by decide +kernel)
            rcases hp with ⟨f_68, er_69⟩ | ⟨f_68, er_69⟩ <;> subst er_69
            · have z_b_70 := trivial
              refine lv_if_ne (tgt := 83) X.1 X.2.1 dX12_rule_102 (by decide) (fun c_71 => ?_) (fun c_71 => absurd c_71 (by decide))
              have t_72 : At S_65 x 12 := hk_66.fr.at t_63
              have zc_73 : zA S_58 x 1220 = zA S x 1220 := (zA_fr hk_59.fr ha_x_L_46 (ex3 (gQ_12_1220 hO_T_45.1 ha_x_L_46)) (by decide +kernel) (by decide +kernel)).trans zk_50
              have zc_74 : zA S_65 x 1220 = zA S x 1220 := (zA_fr hk_66.fr t_63 (ex3 (gQ_12_1220 hO_60.1 t_63)) (by decide +kernel) (by decide +kernel)).trans zc_73
              exact ih_L_44 _ (by omega) _ _ _ _  rfl hw t_72 hO_67 zc_74 (lv_sub hl [0, 1, 2, 3] rfl)
            · have z_b_75 := trivial
              refine lv_if_ne (tgt := 83) X.1 X.2.1 dX12_rule_102 (by decide) (fun c_76 => absurd c_76 (by decide)) (fun c_76 => ?_)
              refine lv_iconst (v := 0) X.1 X.2.1 dX12_rule_105 (by decide) ?_
              have zc_77 : zA S_58 x 1220 = zA S x 1220 := (zA_fr hk_59.fr ha_x_L_46 (ex3 (gQ_12_1220 hO_T_45.1 ha_x_L_46)) (by decide +kernel) (by decide +kernel)).trans zk_50
              have zc_78 : zA S_65 x 1220 = zA S x 1220 := (zA_fr hk_66.fr t_63 (ex3 (gQ_12_1220 hO_60.1 t_63)) (by decide +kernel) (by decide +kernel)).trans zc_77
              rw [hQQ]
              exact ret_z X hw hr hlocks (Nat.le_of_ble_eq_true rfl) (Nat.le_of_ble_eq_true rfl) (by decide) ⟨hO_67, Or.inr ⟨congrFun zc_78 4, rfl⟩⟩ dX12_rule_106
          · have z_b_79 := trivial
            refine lv_if_eq (tgt := 107) X.1 X.2.1 dX12_rule_90 (by decide) (fun c_80 => ?_) (fun c_80 => absurd c_80 (by decide))
            refine lv_aload_n X.1 X.2.1 dX12_rule_107 rfl (lv_at hl 3 rfl) ?_
            refine lv_ldcwS (q := κ (100 + 24)) X.1 X.2.1 X.2.2.2.2.1 (show vk_R RX12 276 ":" (κ (100 + 24)) s from (X.2.2.2.2.2.2.2.2.2.2.2.2.2.2 24 (by decide)).1) dX12_rule_108 ?_
            refine k_i (rm := { frames := 6, cells := 0, slots := 0, locals := 288 }) (av := [.ref x, .ref (κ (100 + 24))]) X hw (va_runV (As := [.ref (κ (100 + 24))]) (rest := []) (cfix X) (k_X12_must l G cy κ T_45 _ x 24 hO_T_45.1 ha_x_L_46 (by decide)) (cwV 1 X.2.2.2.1 gX12_rule_X12_must rfl rfl rfl (by decide +kernel) ⟨Nat.le_of_ble_eq_true rfl, Nat.le_of_ble_eq_true rfl⟩) (pre_V X hw _ ha_x_L_46 rfl (by decide) rfl) rfl rfl hl.1 rfl (lv_room (Nat.le_of_ble_eq_true rfl)) dX12_rule_111 ⟨Nat.le_of_ble_eq_true rfl, Nat.le_of_ble_eq_true rfl⟩) 0 0 (Nat.le_of_ble_eq_true rfl) (Nat.le_of_ble_eq_true rfl) (fun rr_81 S_82 H locs hp hw hfr hnw => ?_)
            obtain ⟨hk_83, hp⟩ := hp
            have hO_84 : Ok MR S S_82 := hO_T_45.call hk_83 (by decide +kernel)
            rcases hp with ⟨f_85, er_86⟩ | ⟨f_85, er_86⟩ <;> subst er_86
            · have z_b_87 := trivial
              refine lv_if_ne (tgt := 119) X.1 X.2.1 dX12_rule_114 (by decide) (fun c_88 => ?_) (fun c_88 => absurd c_88 (by decide))
              refine lv_aload_n X.1 X.2.1 dX12_rule_119 rfl (lv_at hl 3 rfl) ?_
              refine lv_ldcwS (q := κ (100 + 22)) X.1 X.2.1 X.2.2.2.2.1 (show vk_R RX12 269 "cast drop find throw cut stop " (κ (100 + 22)) s from (X.2.2.2.2.2.2.2.2.2.2.2.2.2.2 22 (by decide)).1) dX12_rule_120 ?_
              have t_89 : At S_82 x 12 := hk_83.fr.at ha_x_L_46
              refine k_i (rm := { frames := 5, cells := 0, slots := 0, locals := 240 }) (av := [.ref x, .ref (κ (100 + 22))]) X hw (va_runV (As := [.ref (κ (100 + 22))]) (rest := []) (cfix X) (k_X12_which l G cy κ S_82 _ x 22 hO_84.1 t_89 (by decide)) (cwV 1 X.2.2.2.1 gX12_rule_X12_which rfl rfl rfl (by decide +kernel) ⟨Nat.le_of_ble_eq_true rfl, Nat.le_of_ble_eq_true rfl⟩) (pre_V X hw _ t_89 rfl (by decide) rfl) rfl rfl hl.1 rfl (lv_room (Nat.le_of_ble_eq_true rfl)) dX12_rule_123 ⟨Nat.le_of_ble_eq_true rfl, Nat.le_of_ble_eq_true rfl⟩) 0 0 (Nat.le_of_ble_eq_true rfl) (Nat.le_of_ble_eq_true rfl) (fun rr_90 S_91 H locs hp hw hfr hnw => ?_)
              obtain ⟨e2, hp⟩ := hp
              subst e2
              have rg_92 := And.intro (z_lo rr_90) (z_hi rr_90)
              refine lv_istore_n (lv' := [(2, .int (rr_90)), (3, .int (v_20)), (1, .int 1), (0, .ref x)]) X.1 X.2.1 dX12_rule_126 rfl hl (by decide) rfl (fun ls hl => ?_)
              refine lv_iload_n X.1 X.2.1 dX12_rule_127 rfl (lv_at hl 0 rfl) ?_
              refine lv_iconst (v := (-1)) X.1 X.2.1 dX12_rule_128 (by decide) ?_
              refine lv_icmp_ne (tgt := 138) X.1 X.2.1 dX12_rule_129 (by decide) (fun c_93 => ?_) (fun c_93 => ?_)
              · have z_b_94 := trivial
                have k_95 : rr_90.toInt ≠ (-1) := z_ne rfl ti_m1 c_93
                refine lv_aload_n X.1 X.2.1 dX12_rule_138 rfl (lv_at hl 3 rfl) ?_
                obtain ⟨q_96, h_97, h_98, h_99⟩ := gQ_12_1221 hO_84.1 t_89
                refine r_getR (g := 1221) X hw t_89 rfl 21 h_97 (by decide) rfl inn_X12_rule_12 (by decide) (X.2.2.2.1 (.fieldLink RX12 64 "SilkMillModel" "act" "[I") (by decide +kernel)) rfl (gv_1221 _ _) dX12_rule_139 ?_
                refine lv_iload_n X.1 X.2.1 dX12_rule_142 rfl (lv_at hl 1 rfl) ?_
                refine lv_iload_n X.1 X.2.1 dX12_rule_143 rfl (lv_at hl 0 rfl) ?_
                refine r_iast X hw h_98 rfl (by rw [h_99]; exact z_ix z_21 (by omega) (by omega)) dX12_rule_144 (fun H locs hw => ?_)
                obtain ⟨S_100, eS_100⟩ : ∃ T, T = sA S_82 q_96 (upd (pA S_82 q_96) (Int32.toNatClampNeg (v_20)) (rr_90)) := ⟨_, rfl⟩
                rw [← eS_100] at hw
                have hO_101 : Ok MR S S_100 := hO_84.sA eS_100 h_98 (by decide +kernel) (uA_634 hO_84.1 h_98)
                have h_102 : pA S_100 q_96 (Int32.toNatClampNeg (v_20)) = rr_90 := tA_sAs eS_100
                refine lv_aload_n X.1 X.2.1 dX12_rule_145 rfl (lv_at hl 3 rfl) ?_
                have t_103 : At S_100 x 12 := tAt_sA eS_100 t_89
                refine k_v (rm := { frames := 2, cells := 0, slots := 0, locals := 96 }) (av := [.ref x]) X hw (va_runV (As := []) (rest := []) (cfix X) (k_X12_token l G cy κ S_100 _ x hO_101.1 t_103) (cwV 0 X.2.2.2.1 gX12_rule_X12_token rfl rfl rfl (by decide +kernel) ⟨Nat.le_of_ble_eq_true rfl, Nat.le_of_ble_eq_true rfl⟩) (pre_V X hw _ t_103 rfl (by decide) rfl) rfl rfl hl.1 rfl (lv_room (Nat.le_of_ble_eq_true rfl)) dX12_rule_146 ⟨Nat.le_of_ble_eq_true rfl, Nat.le_of_ble_eq_true rfl⟩) 0 0 (Nat.le_of_ble_eq_true rfl) (Nat.le_of_ble_eq_true rfl) (fun S_105 H locs hp hw hfr hnw => ?_)
                obtain ⟨hk_106, hp⟩ := hp
                have hO_107 : Ok MR S S_105 := hO_101.call hk_106 (by decide +kernel)
                refine lv_aload_n X.1 X.2.1 dX12_rule_149 rfl (lv_at hl 3 rfl) ?_
                have t_108 : At S_105 x 12 := hk_106.fr.at t_103
                obtain ⟨q_109, h_110, h_111, h_112⟩ := gQ_12_1222 hO_107.1 t_108
                refine r_getR (g := 1222) X hw t_108 rfl 22 h_110 (by decide) rfl inn_X12_rule_12 (by decide) (X.2.2.2.1 (.fieldLink RX12 67 "SilkMillModel" "actNumber" "[I") (by decide +kernel)) rfl (gv_1222 _ _) dX12_rule_150 ?_
                refine lv_iload_n X.1 X.2.1 dX12_rule_153 rfl (lv_at hl 1 rfl) ?_
                refine lv_iload_n X.1 X.2.1 dX12_rule_154 rfl (lv_at hl 0 rfl) ?_
                refine lv_iconst (v := 5) X.1 X.2.1 dX12_rule_155 (by decide) ?_
                refine lv_icmp_ne (tgt := 166) X.1 X.2.1 dX12_rule_156 (by decide) (fun c_113 => ?_) (fun c_113 => ?_)
                · have z_b_114 := trivial
                  have k_115 : rr_90.toInt ≠ 5 := z_ne rfl ti_5 c_113
                  refine lv_iconst (v := 0) X.1 X.2.1 dX12_rule_166 (by decide) ?_
                  refine r_iast X hw h_111 rfl (by rw [h_112]; exact z_ix z_21 (by omega) (by omega)) dX12_rule_167 (fun H locs hw => ?_)
                  obtain ⟨S_116, eS_116⟩ : ∃ T, T = sA S_105 q_109 (upd (pA S_105 q_109) (Int32.toNatClampNeg (v_20)) (0)) := ⟨_, rfl⟩
                  rw [← eS_116] at hw
                  have hO_117 : Ok MR S S_116 := hO_107.sA eS_116 h_111 (by decide +kernel) (uA_654 hO_107.1 h_111)
                  have h_118 : pA S_116 q_109 (Int32.toNatClampNeg (v_20)) = 0 := tA_sAs eS_116
                  refine lv_aload_n X.1 X.2.1 dX12_rule_168 rfl (lv_at hl 3 rfl) ?_
                  refine lv_ldcwS (q := κ (100 + 25)) X.1 X.2.1 X.2.2.2.2.1 (show vk_R RX12 281 ";" (κ (100 + 25)) s from (X.2.2.2.2.2.2.2.2.2.2.2.2.2.2 25 (by decide)).1) dX12_rule_169 ?_
                  have t_119 : At S_116 x 12 := tAt_sA eS_116 t_108
                  refine k_i (rm := { frames := 6, cells := 0, slots := 0, locals := 288 }) (av := [.ref x, .ref (κ (100 + 25))]) X hw (va_runV (As := [.ref (κ (100 + 25))]) (rest := []) (cfix X) (k_X12_must l G cy κ S_116 _ x 25 hO_117.1 t_119 (by decide)) (cwV 1 X.2.2.2.1 gX12_rule_X12_must rfl rfl rfl (by decide +kernel) ⟨Nat.le_of_ble_eq_true rfl, Nat.le_of_ble_eq_true rfl⟩) (pre_V X hw _ t_119 rfl (by decide) rfl) rfl rfl hl.1 rfl (lv_room (Nat.le_of_ble_eq_true rfl)) dX12_rule_172 ⟨Nat.le_of_ble_eq_true rfl, Nat.le_of_ble_eq_true rfl⟩) 0 0 (Nat.le_of_ble_eq_true rfl) (Nat.le_of_ble_eq_true rfl) (fun rr_120 S_121 H locs hp hw hfr hnw => ?_)
                  obtain ⟨hk_122, hp⟩ := hp
                  have hO_123 : Ok MR S S_121 := hO_117.call hk_122 (by decide +kernel)
                  rcases hp with ⟨f_124, er_125⟩ | ⟨f_124, er_125⟩ <;> subst er_125
                  · have z_b_126 := trivial
                    refine lv_if_ne (tgt := 180) X.1 X.2.1 dX12_rule_175 (by decide) (fun c_127 => ?_) (fun c_127 => absurd c_127 (by decide))
                    refine lv_aload_n X.1 X.2.1 dX12_rule_180 rfl (lv_at hl 3 rfl) ?_
                    have t_128 : At S_121 x 12 := hk_122.fr.at t_119
                    obtain ⟨q_129, h_130, h_131, h_132⟩ := gQ_12_1220 hO_123.1 t_128
                    refine r_getR (g := 1220) X hw t_128 rfl 20 h_130 (by decide) rfl inn_X12_rule_12 (by decide) (X.2.2.2.1 (.fieldLink RX12 61 "SilkMillModel" "rules" "[I") (by decide +kernel)) rfl (gv_1220 _ _) dX12_rule_181 ?_
                    refine lv_iconst (v := 4) X.1 X.2.1 dX12_rule_184 (by decide) ?_
                    refine lv_dup2_11 X.1 X.2.1 dX12_rule_185 rfl rfl ?_
                    refine r_iald X hw h_131 rfl (by rw [h_132]; exact z_ix ti_4 (by omega) (by omega)) dX12_rule_186 ?_
                    refine lv_topi (fun v_133 ev_133 => ?_)
                    have z_134 := gE_614 hO_123.1 h_131 (Int32.toNatClampNeg (4)); rw [← ev_133] at z_134
                    have ev_133 := ev_133.symm
                    have zf_135 : zA S_121 x 1220 4 = v_133.toInt := (zA_of (z := 4) h_130 ti_4 (by omega) ev_133)
                    have zc_136 : zA S_82 x 1220 = zA S x 1220 := (zA_fr hk_83.fr ha_x_L_46 (ex3 (gQ_12_1220 hO_T_45.1 ha_x_L_46)) (by decide +kernel) (by decide +kernel)).trans zk_50
                    have zc_137 : zA S_100 x 1220 = zA S x 1220 := (zA_sAn eS_100 (ex3 (gQ_12_1220 hO_84.1 t_89)) h_98 rfl).trans zc_136
                    have zc_138 : zA S_105 x 1220 = zA S x 1220 := (zA_fr hk_106.fr t_103 (ex3 (gQ_12_1220 hO_101.1 t_103)) (by decide +kernel) (by decide +kernel)).trans zc_137
                    have zc_139 : zA S_116 x 1220 = zA S x 1220 := (zA_sAn eS_116 (ex3 (gQ_12_1220 hO_107.1 t_108)) h_111 rfl).trans zc_138
                    have zc_140 : zA S_121 x 1220 = zA S x 1220 := (zA_fr hk_122.fr t_119 (ex3 (gQ_12_1220 hO_117.1 t_119)) (by decide +kernel) (by decide +kernel)).trans zc_139
                    have zz_141 := congrFun zc_140 4
                    refine lv_iconst (v := 1) X.1 X.2.1 dX12_rule_187 (by decide) ?_
                    refine lv_iadd X.1 X.2.1 dX12_rule_188 ?_
                    refine lv_topi (fun v_142 ev_142 => ?_)
                    have z_143 : v_142.toInt = v_133.toInt + 1 := z_add ev_142 rfl ti_1 (by omega) (by omega)
                    refine r_iast X hw h_131 rfl (by rw [h_132]; exact z_ix ti_4 (by omega) (by omega)) dX12_rule_189 (fun H locs hw => ?_)
                    obtain ⟨S_144, eS_144⟩ : ∃ T, T = sA S_121 q_129 (upd (pA S_121 q_129) (Int32.toNatClampNeg (4)) (v_142)) := ⟨_, rfl⟩
                    rw [← eS_144] at hw
                    have hO_145 : Ok MR S S_144 := hO_123.sA eS_144 h_131 (by decide +kernel) (uA_614 hO_123.1 h_131 (by omega) (by omega))
                    have h_146 : pA S_144 q_129 (Int32.toNatClampNeg (4)) = v_142 := tA_sAs eS_144
                    have t_147 : pR S_144 1220 x = some q_129 := tR_sA eS_144 h_130
                    have t_149 : pR S_121 1220 x = some q_129 := by have h := t_147; rw [eS_144, pR_sA] at h; exact h
                    have zs_148 : ∀ j, zA S_144 x 1220 j = if j = (4 : Int).toNat then (v_133.toInt + 1) else zA S_121 x 1220 j := by have h := zA_sAs eS_144 t_149 z_143; rw [z_nc ti_4 (by omega)] at h; exact h
                    have zs_150 : zA S_144 x 1220 4 = (v_133.toInt + 1) := by have h := zs_148 4; rw [if_pos (by decide)] at h; exact h
                    refine lv_iconst (v := 1) X.1 X.2.1 dX12_rule_190 (by decide) ?_
                    rw [hQQ]
                    exact ret_z X hw hr hlocks (Nat.le_of_ble_eq_true rfl) (Nat.le_of_ble_eq_true rfl) (by decide) ⟨hO_145, Or.inl ⟨by omega, rfl⟩⟩ dX12_rule_191
                  · have z_b_151 := trivial
                    refine lv_if_ne (tgt := 180) X.1 X.2.1 dX12_rule_175 (by decide) (fun c_152 => absurd c_152 (by decide)) (fun c_152 => ?_)
                    refine lv_iconst (v := 0) X.1 X.2.1 dX12_rule_178 (by decide) ?_
                    have zc_153 : zA S_82 x 1220 = zA S x 1220 := (zA_fr hk_83.fr ha_x_L_46 (ex3 (gQ_12_1220 hO_T_45.1 ha_x_L_46)) (by decide +kernel) (by decide +kernel)).trans zk_50
                    have zc_154 : zA S_100 x 1220 = zA S x 1220 := (zA_sAn eS_100 (ex3 (gQ_12_1220 hO_84.1 t_89)) h_98 rfl).trans zc_153
                    have zc_155 : zA S_105 x 1220 = zA S x 1220 := (zA_fr hk_106.fr t_103 (ex3 (gQ_12_1220 hO_101.1 t_103)) (by decide +kernel) (by decide +kernel)).trans zc_154
                    have zc_156 : zA S_116 x 1220 = zA S x 1220 := (zA_sAn eS_116 (ex3 (gQ_12_1220 hO_107.1 t_108)) h_111 rfl).trans zc_155
                    have zc_157 : zA S_121 x 1220 = zA S x 1220 := (zA_fr hk_122.fr t_119 (ex3 (gQ_12_1220 hO_117.1 t_119)) (by decide +kernel) (by decide +kernel)).trans zc_156
                    rw [hQQ]
                    exact ret_z X hw hr hlocks (Nat.le_of_ble_eq_true rfl) (Nat.le_of_ble_eq_true rfl) (by decide) ⟨hO_123, Or.inr ⟨congrFun zc_157 4, rfl⟩⟩ dX12_rule_179
                · have z_b_158 := trivial
                  have k_159 : rr_90.toInt = 5 := z_eq rfl ti_5 c_113
                  refine lv_aload_n X.1 X.2.1 dX12_rule_159 rfl (lv_at hl 3 rfl) ?_
                  refine k_i (rm := { frames := 3, cells := 0, slots := 0, locals := 144 }) (av := [.ref x]) X hw (va_runV (As := []) (rest := [.int (v_20), .ref q_109]) (cfix X) (k_X12_number l G cy κ S_105 _ x hO_107.1 t_108) (cwV 0 X.2.2.2.1 gX12_rule_X12_number rfl rfl rfl (by decide +kernel) ⟨Nat.le_of_ble_eq_true rfl, Nat.le_of_ble_eq_true rfl⟩) (pre_V X hw _ t_108 rfl (by decide) rfl) rfl rfl hl.1 rfl (lv_room (Nat.le_of_ble_eq_true rfl)) dX12_rule_160 ⟨Nat.le_of_ble_eq_true rfl, Nat.le_of_ble_eq_true rfl⟩) 0 0 (Nat.le_of_ble_eq_true rfl) (Nat.le_of_ble_eq_true rfl) (fun rr_160 S_161 H locs hp hw hfr hnw => ?_)
                  obtain ⟨hk_162, hp⟩ := hp
                  have hO_163 : Ok MR S S_161 := hO_107.call hk_162 (by decide +kernel)
                  have rg_164 := And.intro (z_lo rr_160) (z_hi rr_160)
                  refine lv_goto (tgt := 167) X.1 X.2.1 dX12_rule_163 (by decide) ?_
                  have t_165 : At S_161 q_109 654 := hk_162.fr.at h_111
                  have t_166 : pN S_161 q_109 = 60 := hk_162.fr.N h_111 h_112
                  clear h_112
                  refine r_iast X hw t_165 rfl (by rw [t_166]; exact z_ix z_21 (by omega) (by omega)) dX12_rule_167 (fun H locs hw => ?_)
                  obtain ⟨S_167, eS_167⟩ : ∃ T, T = sA S_161 q_109 (upd (pA S_161 q_109) (Int32.toNatClampNeg (v_20)) (rr_160)) := ⟨_, rfl⟩
                  rw [← eS_167] at hw
                  have hO_168 : Ok MR S S_167 := hO_163.sA eS_167 t_165 (by decide +kernel) (uA_654 hO_163.1 t_165)
                  have h_169 : pA S_167 q_109 (Int32.toNatClampNeg (v_20)) = rr_160 := tA_sAs eS_167
                  refine lv_aload_n X.1 X.2.1 dX12_rule_168 rfl (lv_at hl 3 rfl) ?_
                  refine lv_ldcwS (q := κ (100 + 25)) X.1 X.2.1 X.2.2.2.2.1 (show vk_R RX12 281 ";" (κ (100 + 25)) s from (X.2.2.2.2.2.2.2.2.2.2.2.2.2.2 25 (by decide)).1) dX12_rule_169 ?_
                  have t_170 : At S_161 x 12 := hk_162.fr.at t_108
                  have t_171 : At S_167 x 12 := tAt_sA eS_167 t_170
                  refine k_i (rm := { frames := 6, cells := 0, slots := 0, locals := 288 }) (av := [.ref x, .ref (κ (100 + 25))]) X hw (va_runV (As := [.ref (κ (100 + 25))]) (rest := []) (cfix X) (k_X12_must l G cy κ S_167 _ x 25 hO_168.1 t_171 (by decide)) (cwV 1 X.2.2.2.1 gX12_rule_X12_must rfl rfl rfl (by decide +kernel) ⟨Nat.le_of_ble_eq_true rfl, Nat.le_of_ble_eq_true rfl⟩) (pre_V X hw _ t_171 rfl (by decide) rfl) rfl rfl hl.1 rfl (lv_room (Nat.le_of_ble_eq_true rfl)) dX12_rule_172 ⟨Nat.le_of_ble_eq_true rfl, Nat.le_of_ble_eq_true rfl⟩) 0 0 (Nat.le_of_ble_eq_true rfl) (Nat.le_of_ble_eq_true rfl) (fun rr_172 S_173 H locs hp hw hfr hnw => ?_)
                  obtain ⟨hk_174, hp⟩ := hp
                  have hO_175 : Ok MR S S_173 := hO_168.call hk_174 (by decide +kernel)
                  rcases hp with ⟨f_176, er_177⟩ | ⟨f_176, er_177⟩ <;> subst er_177
                  · have z_b_178 := trivial
                    refine lv_if_ne (tgt := 180) X.1 X.2.1 dX12_rule_175 (by decide) (fun c_179 => ?_) (fun c_179 => absurd c_179 (by decide))
                    refine lv_aload_n X.1 X.2.1 dX12_rule_180 rfl (lv_at hl 3 rfl) ?_
                    have t_180 : At S_173 x 12 := hk_174.fr.at t_171
                    obtain ⟨q_181, h_182, h_183, h_184⟩ := gQ_12_1220 hO_175.1 t_180
                    refine r_getR (g := 1220) X hw t_180 rfl 20 h_182 (by decide) rfl inn_X12_rule_12 (by decide) (X.2.2.2.1 (.fieldLink RX12 61 "SilkMillModel" "rules" "[I") (by decide +kernel)) rfl (gv_1220 _ _) dX12_rule_181 ?_
                    refine lv_iconst (v := 4) X.1 X.2.1 dX12_rule_184 (by decide) ?_
                    refine lv_dup2_11 X.1 X.2.1 dX12_rule_185 rfl rfl ?_
                    refine r_iald X hw h_183 rfl (by rw [h_184]; exact z_ix ti_4 (by omega) (by omega)) dX12_rule_186 ?_
                    refine lv_topi (fun v_185 ev_185 => ?_)
                    have z_186 := gE_614 hO_175.1 h_183 (Int32.toNatClampNeg (4)); rw [← ev_185] at z_186
                    have ev_185 := ev_185.symm
                    have zf_187 : zA S_173 x 1220 4 = v_185.toInt := (zA_of (z := 4) h_182 ti_4 (by omega) ev_185)
                    have zc_188 : zA S_82 x 1220 = zA S x 1220 := (zA_fr hk_83.fr ha_x_L_46 (ex3 (gQ_12_1220 hO_T_45.1 ha_x_L_46)) (by decide +kernel) (by decide +kernel)).trans zk_50
                    have zc_189 : zA S_100 x 1220 = zA S x 1220 := (zA_sAn eS_100 (ex3 (gQ_12_1220 hO_84.1 t_89)) h_98 rfl).trans zc_188
                    have zc_190 : zA S_105 x 1220 = zA S x 1220 := (zA_fr hk_106.fr t_103 (ex3 (gQ_12_1220 hO_101.1 t_103)) (by decide +kernel) (by decide +kernel)).trans zc_189
                    have zc_191 : zA S_161 x 1220 = zA S x 1220 := (zA_fr hk_162.fr t_108 (ex3 (gQ_12_1220 hO_107.1 t_108)) (by decide +kernel) (by decide +kernel)).trans zc_190
                    have t_192 : At S_161 x 12 := hk_162.fr.at t_108
                    have zc_193 : zA S_167 x 1220 = zA S x 1220 := (zA_sAn eS_167 (ex3 (gQ_12_1220 hO_163.1 t_192)) t_165 rfl).trans zc_191
                    have zc_194 : zA S_173 x 1220 = zA S x 1220 := (zA_fr hk_174.fr t_171 (ex3 (gQ_12_1220 hO_168.1 t_171)) (by decide +kernel) (by decide +kernel)).trans zc_193
                    have zz_195 := congrFun zc_194 4
                    refine lv_iconst (v := 1) X.1 X.2.1 dX12_rule_187 (by decide) ?_
                    refine lv_iadd X.1 X.2.1 dX12_rule_188 ?_
                    refine lv_topi (fun v_196 ev_196 => ?_)
                    have z_197 : v_196.toInt = v_185.toInt + 1 := z_add ev_196 rfl ti_1 (by omega) (by omega)
                    refine r_iast X hw h_183 rfl (by rw [h_184]; exact z_ix ti_4 (by omega) (by omega)) dX12_rule_189 (fun H locs hw => ?_)
                    obtain ⟨S_198, eS_198⟩ : ∃ T, T = sA S_173 q_181 (upd (pA S_173 q_181) (Int32.toNatClampNeg (4)) (v_196)) := ⟨_, rfl⟩
                    rw [← eS_198] at hw
                    have hO_199 : Ok MR S S_198 := hO_175.sA eS_198 h_183 (by decide +kernel) (uA_614 hO_175.1 h_183 (by omega) (by omega))
                    have h_200 : pA S_198 q_181 (Int32.toNatClampNeg (4)) = v_196 := tA_sAs eS_198
                    have t_201 : pR S_198 1220 x = some q_181 := tR_sA eS_198 h_182
                    have t_203 : pR S_173 1220 x = some q_181 := by have h := t_201; rw [eS_198, pR_sA] at h; exact h
                    have zs_202 : ∀ j, zA S_198 x 1220 j = if j = (4 : Int).toNat then (v_185.toInt + 1) else zA S_173 x 1220 j := by have h := zA_sAs eS_198 t_203 z_197; rw [z_nc ti_4 (by omega)] at h; exact h
                    have zs_204 : zA S_198 x 1220 4 = (v_185.toInt + 1) := by have h := zs_202 4; rw [if_pos (by decide)] at h; exact h
                    refine lv_iconst (v := 1) X.1 X.2.1 dX12_rule_190 (by decide) ?_
                    rw [hQQ]
                    exact ret_z X hw hr hlocks (Nat.le_of_ble_eq_true rfl) (Nat.le_of_ble_eq_true rfl) (by decide) ⟨hO_199, Or.inl ⟨by omega, rfl⟩⟩ dX12_rule_191
                  · have z_b_205 := trivial
                    refine lv_if_ne (tgt := 180) X.1 X.2.1 dX12_rule_175 (by decide) (fun c_206 => absurd c_206 (by decide)) (fun c_206 => ?_)
                    refine lv_iconst (v := 0) X.1 X.2.1 dX12_rule_178 (by decide) ?_
                    have zc_207 : zA S_82 x 1220 = zA S x 1220 := (zA_fr hk_83.fr ha_x_L_46 (ex3 (gQ_12_1220 hO_T_45.1 ha_x_L_46)) (by decide +kernel) (by decide +kernel)).trans zk_50
                    have zc_208 : zA S_100 x 1220 = zA S x 1220 := (zA_sAn eS_100 (ex3 (gQ_12_1220 hO_84.1 t_89)) h_98 rfl).trans zc_207
                    have zc_209 : zA S_105 x 1220 = zA S x 1220 := (zA_fr hk_106.fr t_103 (ex3 (gQ_12_1220 hO_101.1 t_103)) (by decide +kernel) (by decide +kernel)).trans zc_208
                    have zc_210 : zA S_161 x 1220 = zA S x 1220 := (zA_fr hk_162.fr t_108 (ex3 (gQ_12_1220 hO_107.1 t_108)) (by decide +kernel) (by decide +kernel)).trans zc_209
                    have t_211 : At S_161 x 12 := hk_162.fr.at t_108
                    have zc_212 : zA S_167 x 1220 = zA S x 1220 := (zA_sAn eS_167 (ex3 (gQ_12_1220 hO_163.1 t_211)) t_165 rfl).trans zc_210
                    have zc_213 : zA S_173 x 1220 = zA S x 1220 := (zA_fr hk_174.fr t_171 (ex3 (gQ_12_1220 hO_168.1 t_171)) (by decide +kernel) (by decide +kernel)).trans zc_212
                    rw [hQQ]
                    exact ret_z X hw hr hlocks (Nat.le_of_ble_eq_true rfl) (Nat.le_of_ble_eq_true rfl) (by decide) ⟨hO_175, Or.inr ⟨congrFun zc_213 4, rfl⟩⟩ dX12_rule_179
              · have z_b_214 := trivial
                have k_215 : rr_90.toInt = (-1) := z_eq rfl ti_m1 c_93
                refine lv_aload_n X.1 X.2.1 dX12_rule_132 rfl (lv_at hl 3 rfl) ?_
                refine lv_iconst (v := 1) X.1 X.2.1 dX12_rule_133 (by decide) ?_
                refine k_i (rm := { frames := 1, cells := 0, slots := 0, locals := 48 }) (av := [.ref x, .int 1]) X hw (va_runV (As := [.int 1]) (rest := []) (cfix X) (k_X12_wrong l G cy κ S_82 _ x (1) (1) hO_84.1 t_89 ti_1) (cwV 1 X.2.2.2.1 gX12_rule_X12_wrong rfl rfl rfl (by decide +kernel) ⟨Nat.le_of_ble_eq_true rfl, Nat.le_of_ble_eq_true rfl⟩) (pre_V X hw _ t_89 rfl (by decide) rfl) rfl rfl hl.1 rfl (lv_room (Nat.le_of_ble_eq_true rfl)) dX12_rule_134 ⟨Nat.le_of_ble_eq_true rfl, Nat.le_of_ble_eq_true rfl⟩) 0 0 (Nat.le_of_ble_eq_true rfl) (Nat.le_of_ble_eq_true rfl) (fun rr_216 S_217 H locs hp hw hfr hnw => ?_)
                obtain ⟨hk_218, hp⟩ := hp
                have hO_219 : Ok MR S S_217 := hO_84.call hk_218 (by decide +kernel)
                rcases hp with ⟨f_220, er_221⟩ | ⟨f_220, er_221⟩ <;> subst er_221
                · have z_b_222 := trivial
                  rw [hQQ]
                  exact ret_z X hw hr hlocks (Nat.le_of_ble_eq_true rfl) (Nat.le_of_ble_eq_true rfl) (by decide) ⟨hO_219, Or.inl ⟨by omega, rfl⟩⟩ dX12_rule_137
                · have z_b_223 := trivial
                  have zc_224 : zA S_82 x 1220 = zA S x 1220 := (zA_fr hk_83.fr ha_x_L_46 (ex3 (gQ_12_1220 hO_T_45.1 ha_x_L_46)) (by decide +kernel) (by decide +kernel)).trans zk_50
                  have zc_225 : zA S_217 x 1220 = zA S x 1220 := (zA_fr hk_218.fr t_89 (ex3 (gQ_12_1220 hO_84.1 t_89)) (by decide +kernel) (by decide +kernel)).trans zc_224
                  rw [hQQ]
                  exact ret_z X hw hr hlocks (Nat.le_of_ble_eq_true rfl) (Nat.le_of_ble_eq_true rfl) (by decide) ⟨hO_219, Or.inr ⟨congrFun zc_225 4, rfl⟩⟩ dX12_rule_137
            · have z_b_226 := trivial
              refine lv_if_ne (tgt := 119) X.1 X.2.1 dX12_rule_114 (by decide) (fun c_227 => absurd c_227 (by decide)) (fun c_227 => ?_)
              refine lv_iconst (v := 0) X.1 X.2.1 dX12_rule_117 (by decide) ?_
              have zc_228 : zA S_82 x 1220 = zA S x 1220 := (zA_fr hk_83.fr ha_x_L_46 (ex3 (gQ_12_1220 hO_T_45.1 ha_x_L_46)) (by decide +kernel) (by decide +kernel)).trans zk_50
              rw [hQQ]
              exact ret_z X hw hr hlocks (Nat.le_of_ble_eq_true rfl) (Nat.le_of_ble_eq_true rfl) (by decide) ⟨hO_84, Or.inr ⟨congrFun zc_228 4, rfl⟩⟩ dX12_rule_118
        have t_229 : At S_37 x 12 := hk_38.fr.at t_35
        exact L_44 _ _ _ _ _  rfl hw t_229 hO_39 zc_49 (lv_sub hl [0, 1, 2, 3] rfl)
      · have z_b_230 := trivial
        refine lv_if_ne (tgt := 83) X.1 X.2.1 dX12_rule_78 (by decide) (fun c_231 => absurd c_231 (by decide)) (fun c_231 => ?_)
        refine lv_iconst (v := 0) X.1 X.2.1 dX12_rule_81 (by decide) ?_
        have zc_232 : zA S_26 x 1220 = zA S x 1220 := zA_sAn eS_26 (ex3 (gQ_12_1220 hO.1 ha_x)) h_24 rfl
        have zc_233 : zA S_32 x 1220 = zA S x 1220 := (zA_fr hk_33.fr t_30 (ex3 (gQ_12_1220 hO_27.1 t_30)) (by decide +kernel) (by decide +kernel)).trans zc_232
        have zc_234 : zA S_37 x 1220 = zA S x 1220 := (zA_fr hk_38.fr t_35 (ex3 (gQ_12_1220 hO_34.1 t_35)) (by decide +kernel) (by decide +kernel)).trans zc_233
        rw [hQQ]
        exact ret_z X hw hr hlocks (Nat.le_of_ble_eq_true rfl) (Nat.le_of_ble_eq_true rfl) (by decide) ⟨hO_39, Or.inr ⟨congrFun zc_234 4, rfl⟩⟩ dX12_rule_82
    · have z_b_235 := trivial
      have k_236 : v_14.toInt = 12 := z_eq rfl ti_12 c_17
      refine lv_aload_n X.1 X.2.1 dX12_rule_42 rfl (lv_at hl 2 rfl) ?_
      refine lv_iconst (v := 2) X.1 X.2.1 dX12_rule_43 (by decide) ?_
      refine k_i (rm := { frames := 1, cells := 0, slots := 0, locals := 48 }) (av := [.ref x, .int 2]) X hw (va_runV (As := [.int 2]) (rest := []) (cfix X) (k_X12_wrong l G cy κ S _ x (2) (2) hO.1 ha_x ti_2) (cwV 1 X.2.2.2.1 gX12_rule_X12_wrong rfl rfl rfl (by decide +kernel) ⟨Nat.le_of_ble_eq_true rfl, Nat.le_of_ble_eq_true rfl⟩) (pre_V X hw _ ha_x rfl (by decide) rfl) rfl rfl hl.1 rfl (lv_room (Nat.le_of_ble_eq_true rfl)) dX12_rule_44 ⟨Nat.le_of_ble_eq_true rfl, Nat.le_of_ble_eq_true rfl⟩) 0 0 (Nat.le_of_ble_eq_true rfl) (Nat.le_of_ble_eq_true rfl) (fun rr_237 S_238 H locs hp hw hfr hnw => ?_)
      obtain ⟨hk_239, hp⟩ := hp
      have hO_240 : Ok MR S S_238 := hO.call hk_239 (by decide +kernel)
      rcases hp with ⟨f_241, er_242⟩ | ⟨f_241, er_242⟩ <;> subst er_242
      · have z_b_243 := trivial
        rw [hQQ]
        exact ret_z X hw hr hlocks (Nat.le_of_ble_eq_true rfl) (Nat.le_of_ble_eq_true rfl) (by decide) ⟨hO_240, Or.inl ⟨by omega, rfl⟩⟩ dX12_rule_47
      · have z_b_244 := trivial
        have zc_245 : zA S_238 x 1220 = zA S x 1220 := zA_fr hk_239.fr ha_x (ex3 (gQ_12_1220 hO.1 ha_x)) (by decide +kernel) (by decide +kernel)
        rw [hQQ]
        exact ret_z X hw hr hlocks (Nat.le_of_ble_eq_true rfl) (Nat.le_of_ble_eq_true rfl) (by decide) ⟨hO_240, Or.inr ⟨congrFun zc_245 4, rfl⟩⟩ dX12_rule_47
  · have z_b_246 := trivial
    refine lv_istore_n (lv' := [(1, .int 0), (0, .ref x)]) X.1 X.2.1 dX12_rule_7 rfl hl (by decide) rfl (fun ls hl => ?_)
    refine lv_aload_n X.1 X.2.1 dX12_rule_8 rfl (lv_at hl 1 rfl) ?_
    refine lv_ldcwS (q := κ (100 + 22)) X.1 X.2.1 X.2.2.2.2.1 (show vk_R RX12 269 "cast drop find throw cut stop " (κ (100 + 22)) s from (X.2.2.2.2.2.2.2.2.2.2.2.2.2.2 22 (by decide)).1) dX12_rule_9 ?_
    refine k_i (rm := { frames := 5, cells := 0, slots := 0, locals := 240 }) (av := [.ref x, .ref (κ (100 + 22))]) X hw (va_runV (As := [.ref (κ (100 + 22))]) (rest := []) (cfix X) (k_X12_which l G cy κ S _ x 22 hO.1 ha_x (by decide)) (cwV 1 X.2.2.2.1 gX12_rule_X12_which rfl rfl rfl (by decide +kernel) ⟨Nat.le_of_ble_eq_true rfl, Nat.le_of_ble_eq_true rfl⟩) (pre_V X hw _ ha_x rfl (by decide) rfl) rfl rfl hl.1 rfl (lv_room (Nat.le_of_ble_eq_true rfl)) dX12_rule_12 ⟨Nat.le_of_ble_eq_true rfl, Nat.le_of_ble_eq_true rfl⟩) 0 0 (Nat.le_of_ble_eq_true rfl) (Nat.le_of_ble_eq_true rfl) (fun rr_247 S_248 H locs hp hw hfr hnw => ?_)
    obtain ⟨e2, hp⟩ := hp
    subst e2
    have rg_249 := And.intro (z_lo rr_247) (z_hi rr_247)
    refine lv_istore_n (lv' := [(2, .int (rr_247)), (1, .int 0), (0, .ref x)]) X.1 X.2.1 dX12_rule_15 rfl hl (by decide) rfl (fun ls hl => ?_)
    refine lv_iload_n X.1 X.2.1 dX12_rule_16 rfl (lv_at hl 1 rfl) ?_
    refine lv_if_ne (tgt := 31) X.1 X.2.1 dX12_rule_17 (by decide) (fun c_250 => absurd c_250 (by decide)) (fun c_250 => ?_)
    refine lv_iload_n X.1 X.2.1 dX12_rule_20 rfl (lv_at hl 0 rfl) ?_
    refine lv_iconst (v := (-1)) X.1 X.2.1 dX12_rule_21 (by decide) ?_
    refine lv_icmp_ne (tgt := 31) X.1 X.2.1 dX12_rule_22 (by decide) (fun c_251 => ?_) (fun c_251 => ?_)
    · have z_b_252 := trivial
      have k_253 : rr_247.toInt ≠ (-1) := z_ne rfl ti_m1 c_251
      refine lv_aload_n X.1 X.2.1 dX12_rule_31 rfl (lv_at hl 2 rfl) ?_
      obtain ⟨q_254, h_255, h_256, h_257⟩ := gQ_12_1220 hO.1 ha_x
      refine r_getR (g := 1220) X hw ha_x rfl 20 h_255 (by decide) rfl inn_X12_rule_12 (by decide) (X.2.2.2.1 (.fieldLink RX12 61 "SilkMillModel" "rules" "[I") (by decide +kernel)) rfl (gv_1220 _ _) dX12_rule_32 ?_
      refine lv_iconst (v := 4) X.1 X.2.1 dX12_rule_35 (by decide) ?_
      refine r_iald X hw h_256 rfl (by rw [h_257]; exact z_ix ti_4 (by omega) (by omega)) dX12_rule_36 ?_
      refine lv_topi (fun v_258 ev_258 => ?_)
      have z_259 := gE_614 hO.1 h_256 (Int32.toNatClampNeg (4)); rw [← ev_258] at z_259
      have ev_258 := ev_258.symm
      have zf_260 : zA S x 1220 4 = v_258.toInt := (zA_of (z := 4) h_255 ti_4 (by omega) ev_258)
      refine lv_bipush (v := 12) X.1 X.2.1 dX12_rule_37 (by decide) ?_
      refine lv_icmp_ne (tgt := 48) X.1 X.2.1 dX12_rule_39 (by decide) (fun c_261 => ?_) (fun c_261 => ?_)
      · have z_b_262 := trivial
        have k_263 : v_258.toInt ≠ 12 := z_ne rfl ti_12 c_261
        refine lv_bipush (v := 48) X.1 X.2.1 dX12_rule_48 (by decide) ?_
        refine lv_aload_n X.1 X.2.1 dX12_rule_50 rfl (lv_at hl 2 rfl) ?_
        refine r_getR (g := 1220) X hw ha_x rfl 20 h_255 (by decide) rfl inn_X12_rule_12 (by decide) (X.2.2.2.1 (.fieldLink RX12 61 "SilkMillModel" "rules" "[I") (by decide +kernel)) rfl (gv_1220 _ _) dX12_rule_51 ?_
        refine lv_iconst (v := 4) X.1 X.2.1 dX12_rule_54 (by decide) ?_
        refine r_iald X hw h_256 rfl (by rw [h_257]; exact z_ix ti_4 (by omega) (by omega)) dX12_rule_55 ?_
        rw [ev_258]
        refine lv_iadd X.1 X.2.1 dX12_rule_56 ?_
        refine lv_topi (fun v_264 ev_264 => ?_)
        have z_265 : v_264.toInt = 48 + v_258.toInt := z_add ev_264 ti_48 rfl (by omega) (by omega)
        refine lv_istore_n (lv' := [(3, .int (v_264)), (2, .int (rr_247)), (1, .int 0), (0, .ref x)]) X.1 X.2.1 dX12_rule_57 rfl hl (by decide) rfl (fun ls hl => ?_)
        refine lv_aload_n X.1 X.2.1 dX12_rule_58 rfl (lv_at hl 3 rfl) ?_
        obtain ⟨q_266, h_267, h_268, h_269⟩ := gQ_12_1223 hO.1 ha_x
        refine r_getR (g := 1223) X hw ha_x rfl 23 h_267 (by decide) rfl inn_X12_rule_12 (by decide) (X.2.2.2.1 (.fieldLink RX12 70 "SilkMillModel" "conditions" "[I") (by decide +kernel)) rfl (gv_1223 _ _) dX12_rule_59 ?_
        refine lv_iload_n X.1 X.2.1 dX12_rule_62 rfl (lv_at hl 0 rfl) ?_
        refine lv_iconst (v := 0) X.1 X.2.1 dX12_rule_63 (by decide) ?_
        refine r_iast X hw h_268 rfl (by rw [h_269]; exact z_ix z_265 (by omega) (by omega)) dX12_rule_64 (fun H locs hw => ?_)
        obtain ⟨S_270, eS_270⟩ : ∃ T, T = sA S q_266 (upd (pA S q_266) (Int32.toNatClampNeg (v_264)) (0)) := ⟨_, rfl⟩
        rw [← eS_270] at hw
        have hO_271 : Ok MR S S_270 := hO.sA eS_270 h_268 (by decide +kernel) (uA_674 hO.1 h_268 (by rw [ti_0]; omega) (by rw [ti_0]; omega))
        have h_272 : pA S_270 q_266 (Int32.toNatClampNeg (v_264)) = 0 := tA_sAs eS_270
        refine lv_iload_n X.1 X.2.1 dX12_rule_65 rfl (lv_at hl 2 rfl) ?_
        refine lv_if_eq (tgt := 138) X.1 X.2.1 dX12_rule_66 (by decide) (fun c_273 => ?_) (fun c_273 => absurd c_273 (by decide))
        refine lv_aload_n X.1 X.2.1 dX12_rule_138 rfl (lv_at hl 3 rfl) ?_
        have t_274 : At S_270 x 12 := tAt_sA eS_270 ha_x
        obtain ⟨q_275, h_276, h_277, h_278⟩ := gQ_12_1221 hO_271.1 t_274
        refine r_getR (g := 1221) X hw t_274 rfl 21 h_276 (by decide) rfl inn_X12_rule_12 (by decide) (X.2.2.2.1 (.fieldLink RX12 64 "SilkMillModel" "act" "[I") (by decide +kernel)) rfl (gv_1221 _ _) dX12_rule_139 ?_
        refine lv_iload_n X.1 X.2.1 dX12_rule_142 rfl (lv_at hl 0 rfl) ?_
        refine lv_iload_n X.1 X.2.1 dX12_rule_143 rfl (lv_at hl 1 rfl) ?_
        refine r_iast X hw h_277 rfl (by rw [h_278]; exact z_ix z_265 (by omega) (by omega)) dX12_rule_144 (fun H locs hw => ?_)
        obtain ⟨S_279, eS_279⟩ : ∃ T, T = sA S_270 q_275 (upd (pA S_270 q_275) (Int32.toNatClampNeg (v_264)) (rr_247)) := ⟨_, rfl⟩
        rw [← eS_279] at hw
        have hO_280 : Ok MR S S_279 := hO_271.sA eS_279 h_277 (by decide +kernel) (uA_634 hO_271.1 h_277)
        have h_281 : pA S_279 q_275 (Int32.toNatClampNeg (v_264)) = rr_247 := tA_sAs eS_279
        refine lv_aload_n X.1 X.2.1 dX12_rule_145 rfl (lv_at hl 3 rfl) ?_
        have t_282 : At S_279 x 12 := tAt_sA eS_279 t_274
        refine k_v (rm := { frames := 2, cells := 0, slots := 0, locals := 96 }) (av := [.ref x]) X hw (va_runV (As := []) (rest := []) (cfix X) (k_X12_token l G cy κ S_279 _ x hO_280.1 t_282) (cwV 0 X.2.2.2.1 gX12_rule_X12_token rfl rfl rfl (by decide +kernel) ⟨Nat.le_of_ble_eq_true rfl, Nat.le_of_ble_eq_true rfl⟩) (pre_V X hw _ t_282 rfl (by decide) rfl) rfl rfl hl.1 rfl (lv_room (Nat.le_of_ble_eq_true rfl)) dX12_rule_146 ⟨Nat.le_of_ble_eq_true rfl, Nat.le_of_ble_eq_true rfl⟩) 0 0 (Nat.le_of_ble_eq_true rfl) (Nat.le_of_ble_eq_true rfl) (fun S_284 H locs hp hw hfr hnw => ?_)
        obtain ⟨hk_285, hp⟩ := hp
        have hO_286 : Ok MR S S_284 := hO_280.call hk_285 (by decide +kernel)
        refine lv_aload_n X.1 X.2.1 dX12_rule_149 rfl (lv_at hl 3 rfl) ?_
        have t_287 : At S_284 x 12 := hk_285.fr.at t_282
        obtain ⟨q_288, h_289, h_290, h_291⟩ := gQ_12_1222 hO_286.1 t_287
        refine r_getR (g := 1222) X hw t_287 rfl 22 h_289 (by decide) rfl inn_X12_rule_12 (by decide) (X.2.2.2.1 (.fieldLink RX12 67 "SilkMillModel" "actNumber" "[I") (by decide +kernel)) rfl (gv_1222 _ _) dX12_rule_150 ?_
        refine lv_iload_n X.1 X.2.1 dX12_rule_153 rfl (lv_at hl 0 rfl) ?_
        refine lv_iload_n X.1 X.2.1 dX12_rule_154 rfl (lv_at hl 1 rfl) ?_
        refine lv_iconst (v := 5) X.1 X.2.1 dX12_rule_155 (by decide) ?_
        refine lv_icmp_ne (tgt := 166) X.1 X.2.1 dX12_rule_156 (by decide) (fun c_292 => ?_) (fun c_292 => ?_)
        · have z_b_293 := trivial
          have k_294 : rr_247.toInt ≠ 5 := z_ne rfl ti_5 c_292
          refine lv_iconst (v := 0) X.1 X.2.1 dX12_rule_166 (by decide) ?_
          refine r_iast X hw h_290 rfl (by rw [h_291]; exact z_ix z_265 (by omega) (by omega)) dX12_rule_167 (fun H locs hw => ?_)
          obtain ⟨S_295, eS_295⟩ : ∃ T, T = sA S_284 q_288 (upd (pA S_284 q_288) (Int32.toNatClampNeg (v_264)) (0)) := ⟨_, rfl⟩
          rw [← eS_295] at hw
          have hO_296 : Ok MR S S_295 := hO_286.sA eS_295 h_290 (by decide +kernel) (uA_654 hO_286.1 h_290)
          have h_297 : pA S_295 q_288 (Int32.toNatClampNeg (v_264)) = 0 := tA_sAs eS_295
          refine lv_aload_n X.1 X.2.1 dX12_rule_168 rfl (lv_at hl 3 rfl) ?_
          refine lv_ldcwS (q := κ (100 + 25)) X.1 X.2.1 X.2.2.2.2.1 (show vk_R RX12 281 ";" (κ (100 + 25)) s from (X.2.2.2.2.2.2.2.2.2.2.2.2.2.2 25 (by decide)).1) dX12_rule_169 ?_
          have t_298 : At S_295 x 12 := tAt_sA eS_295 t_287
          refine k_i (rm := { frames := 6, cells := 0, slots := 0, locals := 288 }) (av := [.ref x, .ref (κ (100 + 25))]) X hw (va_runV (As := [.ref (κ (100 + 25))]) (rest := []) (cfix X) (k_X12_must l G cy κ S_295 _ x 25 hO_296.1 t_298 (by decide)) (cwV 1 X.2.2.2.1 gX12_rule_X12_must rfl rfl rfl (by decide +kernel) ⟨Nat.le_of_ble_eq_true rfl, Nat.le_of_ble_eq_true rfl⟩) (pre_V X hw _ t_298 rfl (by decide) rfl) rfl rfl hl.1 rfl (lv_room (Nat.le_of_ble_eq_true rfl)) dX12_rule_172 ⟨Nat.le_of_ble_eq_true rfl, Nat.le_of_ble_eq_true rfl⟩) 0 0 (Nat.le_of_ble_eq_true rfl) (Nat.le_of_ble_eq_true rfl) (fun rr_299 S_300 H locs hp hw hfr hnw => ?_)
          obtain ⟨hk_301, hp⟩ := hp
          have hO_302 : Ok MR S S_300 := hO_296.call hk_301 (by decide +kernel)
          rcases hp with ⟨f_303, er_304⟩ | ⟨f_303, er_304⟩ <;> subst er_304
          · have z_b_305 := trivial
            refine lv_if_ne (tgt := 180) X.1 X.2.1 dX12_rule_175 (by decide) (fun c_306 => ?_) (fun c_306 => absurd c_306 (by decide))
            refine lv_aload_n X.1 X.2.1 dX12_rule_180 rfl (lv_at hl 3 rfl) ?_
            have t_307 : At S_300 x 12 := hk_301.fr.at t_298
            have t_308 : pR S_270 1220 x = some q_254 := tR_sA eS_270 h_255
            have t_309 : pR S_279 1220 x = some q_254 := tR_sA eS_279 t_308
            have t_310 : pR S_284 1220 x = some q_254 := hk_285.fr.R' (by decide +kernel) t_282 t_309
            have t_311 : pR S_295 1220 x = some q_254 := tR_sA eS_295 t_310
            have t_312 : pR S_300 1220 x = some q_254 := hk_301.fr.R' (by decide +kernel) t_298 t_311
            refine r_getR (g := 1220) X hw t_307 rfl 20 t_312 (by decide) rfl inn_X12_rule_12 (by decide) (X.2.2.2.1 (.fieldLink RX12 61 "SilkMillModel" "rules" "[I") (by decide +kernel)) rfl (gv_1220 _ _) dX12_rule_181 ?_
            refine lv_iconst (v := 4) X.1 X.2.1 dX12_rule_184 (by decide) ?_
            refine lv_dup2_11 X.1 X.2.1 dX12_rule_185 rfl rfl ?_
            have t_313 : At S_270 q_254 614 := tAt_sA eS_270 h_256
            have t_314 : At S_279 q_254 614 := tAt_sA eS_279 t_313
            have t_315 : At S_284 q_254 614 := hk_285.fr.at t_314
            have t_316 : At S_295 q_254 614 := tAt_sA eS_295 t_315
            have t_317 : At S_300 q_254 614 := hk_301.fr.at t_316
            have t_318 : pN S_270 q_254 = 5 := tN_sA eS_270 h_257
            clear h_257
            have t_319 : pN S_279 q_254 = 5 := tN_sA eS_279 t_318
            clear t_318
            have t_321 : At S_270 q_254 614 := tAt_sA eS_270 h_256
            have t_322 : At S_279 q_254 614 := tAt_sA eS_279 t_321
            have t_320 : pN S_284 q_254 = 5 := hk_285.fr.N t_322 t_319
            clear t_319
            have t_323 : pN S_295 q_254 = 5 := tN_sA eS_295 t_320
            clear t_320
            have t_325 : At S_284 q_254 614 := hk_285.fr.at t_322
            have t_326 : At S_295 q_254 614 := tAt_sA eS_295 t_325
            have t_324 : pN S_300 q_254 = 5 := hk_301.fr.N t_326 t_323
            clear t_323
            refine r_iald X hw t_317 rfl (by rw [t_324]; exact z_ix ti_4 (by omega) (by omega)) dX12_rule_186 ?_
            have t_327 : pA S_270 q_254 (Int32.toNatClampNeg (4)) = v_258 := tA_sA eS_270 (At_ne h_256 h_268 (by decide)) ev_258
            have t_329 : At S_270 q_254 614 := tAt_sA eS_270 h_256
            have t_328 : pA S_279 q_254 (Int32.toNatClampNeg (4)) = v_258 := tA_sA eS_279 (At_ne t_329 h_277 (by decide)) t_327
            have t_330 : pA S_284 q_254 (Int32.toNatClampNeg (4)) = v_258 := (congrFun (hk_285.fr.A' (by decide +kernel) t_322) _).trans t_328
            have t_332 : At S_284 q_254 614 := hk_285.fr.at t_322
            have t_331 : pA S_295 q_254 (Int32.toNatClampNeg (4)) = v_258 := tA_sA eS_295 (At_ne t_332 h_290 (by decide)) t_330
            have t_333 : pA S_300 q_254 (Int32.toNatClampNeg (4)) = v_258 := (congrFun (hk_301.fr.A' (by decide +kernel) t_326) _).trans t_331
            rw [t_333]
            refine lv_iconst (v := 1) X.1 X.2.1 dX12_rule_187 (by decide) ?_
            refine lv_iadd X.1 X.2.1 dX12_rule_188 ?_
            refine lv_topi (fun v_334 ev_334 => ?_)
            have z_335 : v_334.toInt = v_258.toInt + 1 := z_add ev_334 rfl ti_1 (by omega) (by omega)
            refine r_iast X hw t_317 rfl (by rw [t_324]; exact z_ix ti_4 (by omega) (by omega)) dX12_rule_189 (fun H locs hw => ?_)
            obtain ⟨S_336, eS_336⟩ : ∃ T, T = sA S_300 q_254 (upd (pA S_300 q_254) (Int32.toNatClampNeg (4)) (v_334)) := ⟨_, rfl⟩
            rw [← eS_336] at hw
            have hO_337 : Ok MR S S_336 := hO_302.sA eS_336 t_317 (by decide +kernel) (uA_614 hO_302.1 t_317 (by omega) (by omega))
            have h_338 : pA S_336 q_254 (Int32.toNatClampNeg (4)) = v_334 := tA_sAs eS_336
            have t_339 : pR S_336 1220 x = some q_254 := tR_sA eS_336 t_312
            have t_341 : pR S_300 1220 x = some q_254 := by have h := t_339; rw [eS_336, pR_sA] at h; exact h
            have zs_340 : ∀ j, zA S_336 x 1220 j = if j = (4 : Int).toNat then (v_258.toInt + 1) else zA S_300 x 1220 j := by have h := zA_sAs eS_336 t_341 z_335; rw [z_nc ti_4 (by omega)] at h; exact h
            have zs_342 : zA S_336 x 1220 4 = (v_258.toInt + 1) := by have h := zs_340 4; rw [if_pos (by decide)] at h; exact h
            refine lv_iconst (v := 1) X.1 X.2.1 dX12_rule_190 (by decide) ?_
            rw [hQQ]
            exact ret_z X hw hr hlocks (Nat.le_of_ble_eq_true rfl) (Nat.le_of_ble_eq_true rfl) (by decide) ⟨hO_337, Or.inl ⟨by omega, rfl⟩⟩ dX12_rule_191
          · have z_b_343 := trivial
            refine lv_if_ne (tgt := 180) X.1 X.2.1 dX12_rule_175 (by decide) (fun c_344 => absurd c_344 (by decide)) (fun c_344 => ?_)
            refine lv_iconst (v := 0) X.1 X.2.1 dX12_rule_178 (by decide) ?_
            have zc_345 : zA S_270 x 1220 = zA S x 1220 := zA_sAn eS_270 (ex3 (gQ_12_1220 hO.1 ha_x)) h_268 rfl
            have zc_346 : zA S_279 x 1220 = zA S x 1220 := (zA_sAn eS_279 (ex3 (gQ_12_1220 hO_271.1 t_274)) h_277 rfl).trans zc_345
            have zc_347 : zA S_284 x 1220 = zA S x 1220 := (zA_fr hk_285.fr t_282 (ex3 (gQ_12_1220 hO_280.1 t_282)) (by decide +kernel) (by decide +kernel)).trans zc_346
            have zc_348 : zA S_295 x 1220 = zA S x 1220 := (zA_sAn eS_295 (ex3 (gQ_12_1220 hO_286.1 t_287)) h_290 rfl).trans zc_347
            have zc_349 : zA S_300 x 1220 = zA S x 1220 := (zA_fr hk_301.fr t_298 (ex3 (gQ_12_1220 hO_296.1 t_298)) (by decide +kernel) (by decide +kernel)).trans zc_348
            rw [hQQ]
            exact ret_z X hw hr hlocks (Nat.le_of_ble_eq_true rfl) (Nat.le_of_ble_eq_true rfl) (by decide) ⟨hO_302, Or.inr ⟨congrFun zc_349 4, rfl⟩⟩ dX12_rule_179
        · have z_b_350 := trivial
          have k_351 : rr_247.toInt = 5 := z_eq rfl ti_5 c_292
          refine lv_aload_n X.1 X.2.1 dX12_rule_159 rfl (lv_at hl 3 rfl) ?_
          refine k_i (rm := { frames := 3, cells := 0, slots := 0, locals := 144 }) (av := [.ref x]) X hw (va_runV (As := []) (rest := [.int (v_264), .ref q_288]) (cfix X) (k_X12_number l G cy κ S_284 _ x hO_286.1 t_287) (cwV 0 X.2.2.2.1 gX12_rule_X12_number rfl rfl rfl (by decide +kernel) ⟨Nat.le_of_ble_eq_true rfl, Nat.le_of_ble_eq_true rfl⟩) (pre_V X hw _ t_287 rfl (by decide) rfl) rfl rfl hl.1 rfl (lv_room (Nat.le_of_ble_eq_true rfl)) dX12_rule_160 ⟨Nat.le_of_ble_eq_true rfl, Nat.le_of_ble_eq_true rfl⟩) 0 0 (Nat.le_of_ble_eq_true rfl) (Nat.le_of_ble_eq_true rfl) (fun rr_352 S_353 H locs hp hw hfr hnw => ?_)
          obtain ⟨hk_354, hp⟩ := hp
          have hO_355 : Ok MR S S_353 := hO_286.call hk_354 (by decide +kernel)
          have rg_356 := And.intro (z_lo rr_352) (z_hi rr_352)
          refine lv_goto (tgt := 167) X.1 X.2.1 dX12_rule_163 (by decide) ?_
          have t_357 : At S_353 q_288 654 := hk_354.fr.at h_290
          have t_358 : pN S_353 q_288 = 60 := hk_354.fr.N h_290 h_291
          clear h_291
          refine r_iast X hw t_357 rfl (by rw [t_358]; exact z_ix z_265 (by omega) (by omega)) dX12_rule_167 (fun H locs hw => ?_)
          obtain ⟨S_359, eS_359⟩ : ∃ T, T = sA S_353 q_288 (upd (pA S_353 q_288) (Int32.toNatClampNeg (v_264)) (rr_352)) := ⟨_, rfl⟩
          rw [← eS_359] at hw
          have hO_360 : Ok MR S S_359 := hO_355.sA eS_359 t_357 (by decide +kernel) (uA_654 hO_355.1 t_357)
          have h_361 : pA S_359 q_288 (Int32.toNatClampNeg (v_264)) = rr_352 := tA_sAs eS_359
          refine lv_aload_n X.1 X.2.1 dX12_rule_168 rfl (lv_at hl 3 rfl) ?_
          refine lv_ldcwS (q := κ (100 + 25)) X.1 X.2.1 X.2.2.2.2.1 (show vk_R RX12 281 ";" (κ (100 + 25)) s from (X.2.2.2.2.2.2.2.2.2.2.2.2.2.2 25 (by decide)).1) dX12_rule_169 ?_
          have t_362 : At S_353 x 12 := hk_354.fr.at t_287
          have t_363 : At S_359 x 12 := tAt_sA eS_359 t_362
          refine k_i (rm := { frames := 6, cells := 0, slots := 0, locals := 288 }) (av := [.ref x, .ref (κ (100 + 25))]) X hw (va_runV (As := [.ref (κ (100 + 25))]) (rest := []) (cfix X) (k_X12_must l G cy κ S_359 _ x 25 hO_360.1 t_363 (by decide)) (cwV 1 X.2.2.2.1 gX12_rule_X12_must rfl rfl rfl (by decide +kernel) ⟨Nat.le_of_ble_eq_true rfl, Nat.le_of_ble_eq_true rfl⟩) (pre_V X hw _ t_363 rfl (by decide) rfl) rfl rfl hl.1 rfl (lv_room (Nat.le_of_ble_eq_true rfl)) dX12_rule_172 ⟨Nat.le_of_ble_eq_true rfl, Nat.le_of_ble_eq_true rfl⟩) 0 0 (Nat.le_of_ble_eq_true rfl) (Nat.le_of_ble_eq_true rfl) (fun rr_364 S_365 H locs hp hw hfr hnw => ?_)
          obtain ⟨hk_366, hp⟩ := hp
          have hO_367 : Ok MR S S_365 := hO_360.call hk_366 (by decide +kernel)
          rcases hp with ⟨f_368, er_369⟩ | ⟨f_368, er_369⟩ <;> subst er_369
          · have z_b_370 := trivial
            refine lv_if_ne (tgt := 180) X.1 X.2.1 dX12_rule_175 (by decide) (fun c_371 => ?_) (fun c_371 => absurd c_371 (by decide))
            refine lv_aload_n X.1 X.2.1 dX12_rule_180 rfl (lv_at hl 3 rfl) ?_
            have t_372 : At S_365 x 12 := hk_366.fr.at t_363
            have t_373 : pR S_270 1220 x = some q_254 := tR_sA eS_270 h_255
            have t_374 : pR S_279 1220 x = some q_254 := tR_sA eS_279 t_373
            have t_375 : pR S_284 1220 x = some q_254 := hk_285.fr.R' (by decide +kernel) t_282 t_374
            have t_376 : pR S_353 1220 x = some q_254 := hk_354.fr.R' (by decide +kernel) t_287 t_375
            have t_377 : pR S_359 1220 x = some q_254 := tR_sA eS_359 t_376
            have t_378 : pR S_365 1220 x = some q_254 := hk_366.fr.R' (by decide +kernel) t_363 t_377
            refine r_getR (g := 1220) X hw t_372 rfl 20 t_378 (by decide) rfl inn_X12_rule_12 (by decide) (X.2.2.2.1 (.fieldLink RX12 61 "SilkMillModel" "rules" "[I") (by decide +kernel)) rfl (gv_1220 _ _) dX12_rule_181 ?_
            refine lv_iconst (v := 4) X.1 X.2.1 dX12_rule_184 (by decide) ?_
            refine lv_dup2_11 X.1 X.2.1 dX12_rule_185 rfl rfl ?_
            have t_379 : At S_270 q_254 614 := tAt_sA eS_270 h_256
            have t_380 : At S_279 q_254 614 := tAt_sA eS_279 t_379
            have t_381 : At S_284 q_254 614 := hk_285.fr.at t_380
            have t_382 : At S_353 q_254 614 := hk_354.fr.at t_381
            have t_383 : At S_359 q_254 614 := tAt_sA eS_359 t_382
            have t_384 : At S_365 q_254 614 := hk_366.fr.at t_383
            have t_385 : pN S_270 q_254 = 5 := tN_sA eS_270 h_257
            clear h_257
            have t_386 : pN S_279 q_254 = 5 := tN_sA eS_279 t_385
            clear t_385
            have t_388 : At S_270 q_254 614 := tAt_sA eS_270 h_256
            have t_389 : At S_279 q_254 614 := tAt_sA eS_279 t_388
            have t_387 : pN S_284 q_254 = 5 := hk_285.fr.N t_389 t_386
            clear t_386
            have t_391 : At S_284 q_254 614 := hk_285.fr.at t_389
            have t_390 : pN S_353 q_254 = 5 := hk_354.fr.N t_391 t_387
            clear t_387
            have t_392 : pN S_359 q_254 = 5 := tN_sA eS_359 t_390
            clear t_390
            have t_394 : At S_353 q_254 614 := hk_354.fr.at t_391
            have t_395 : At S_359 q_254 614 := tAt_sA eS_359 t_394
            have t_393 : pN S_365 q_254 = 5 := hk_366.fr.N t_395 t_392
            clear t_392
            refine r_iald X hw t_384 rfl (by rw [t_393]; exact z_ix ti_4 (by omega) (by omega)) dX12_rule_186 ?_
            have t_396 : pA S_270 q_254 (Int32.toNatClampNeg (4)) = v_258 := tA_sA eS_270 (At_ne h_256 h_268 (by decide)) ev_258
            have t_398 : At S_270 q_254 614 := tAt_sA eS_270 h_256
            have t_397 : pA S_279 q_254 (Int32.toNatClampNeg (4)) = v_258 := tA_sA eS_279 (At_ne t_398 h_277 (by decide)) t_396
            have t_399 : pA S_284 q_254 (Int32.toNatClampNeg (4)) = v_258 := (congrFun (hk_285.fr.A' (by decide +kernel) t_389) _).trans t_397
            have t_400 : pA S_353 q_254 (Int32.toNatClampNeg (4)) = v_258 := (congrFun (hk_354.fr.A' (by decide +kernel) t_391) _).trans t_399
            have t_402 : At S_353 q_254 614 := hk_354.fr.at t_391
            have t_401 : pA S_359 q_254 (Int32.toNatClampNeg (4)) = v_258 := tA_sA eS_359 (At_ne t_402 t_357 (by decide)) t_400
            have t_403 : pA S_365 q_254 (Int32.toNatClampNeg (4)) = v_258 := (congrFun (hk_366.fr.A' (by decide +kernel) t_395) _).trans t_401
            rw [t_403]
            refine lv_iconst (v := 1) X.1 X.2.1 dX12_rule_187 (by decide) ?_
            refine lv_iadd X.1 X.2.1 dX12_rule_188 ?_
            refine lv_topi (fun v_404 ev_404 => ?_)
            have z_405 : v_404.toInt = v_258.toInt + 1 := z_add ev_404 rfl ti_1 (by omega) (by omega)
            refine r_iast X hw t_384 rfl (by rw [t_393]; exact z_ix ti_4 (by omega) (by omega)) dX12_rule_189 (fun H locs hw => ?_)
            obtain ⟨S_406, eS_406⟩ : ∃ T, T = sA S_365 q_254 (upd (pA S_365 q_254) (Int32.toNatClampNeg (4)) (v_404)) := ⟨_, rfl⟩
            rw [← eS_406] at hw
            have hO_407 : Ok MR S S_406 := hO_367.sA eS_406 t_384 (by decide +kernel) (uA_614 hO_367.1 t_384 (by omega) (by omega))
            have h_408 : pA S_406 q_254 (Int32.toNatClampNeg (4)) = v_404 := tA_sAs eS_406
            have t_409 : pR S_406 1220 x = some q_254 := tR_sA eS_406 t_378
            have t_411 : pR S_365 1220 x = some q_254 := by have h := t_409; rw [eS_406, pR_sA] at h; exact h
            have zs_410 : ∀ j, zA S_406 x 1220 j = if j = (4 : Int).toNat then (v_258.toInt + 1) else zA S_365 x 1220 j := by have h := zA_sAs eS_406 t_411 z_405; rw [z_nc ti_4 (by omega)] at h; exact h
            have zs_412 : zA S_406 x 1220 4 = (v_258.toInt + 1) := by have h := zs_410 4; rw [if_pos (by decide)] at h; exact h
            refine lv_iconst (v := 1) X.1 X.2.1 dX12_rule_190 (by decide) ?_
            rw [hQQ]
            exact ret_z X hw hr hlocks (Nat.le_of_ble_eq_true rfl) (Nat.le_of_ble_eq_true rfl) (by decide) ⟨hO_407, Or.inl ⟨by omega, rfl⟩⟩ dX12_rule_191
          · have z_b_413 := trivial
            refine lv_if_ne (tgt := 180) X.1 X.2.1 dX12_rule_175 (by decide) (fun c_414 => absurd c_414 (by decide)) (fun c_414 => ?_)
            refine lv_iconst (v := 0) X.1 X.2.1 dX12_rule_178 (by decide) ?_
            have zc_415 : zA S_270 x 1220 = zA S x 1220 := zA_sAn eS_270 (ex3 (gQ_12_1220 hO.1 ha_x)) h_268 rfl
            have zc_416 : zA S_279 x 1220 = zA S x 1220 := (zA_sAn eS_279 (ex3 (gQ_12_1220 hO_271.1 t_274)) h_277 rfl).trans zc_415
            have zc_417 : zA S_284 x 1220 = zA S x 1220 := (zA_fr hk_285.fr t_282 (ex3 (gQ_12_1220 hO_280.1 t_282)) (by decide +kernel) (by decide +kernel)).trans zc_416
            have zc_418 : zA S_353 x 1220 = zA S x 1220 := (zA_fr hk_354.fr t_287 (ex3 (gQ_12_1220 hO_286.1 t_287)) (by decide +kernel) (by decide +kernel)).trans zc_417
            have t_419 : At S_353 x 12 := hk_354.fr.at t_287
            have zc_420 : zA S_359 x 1220 = zA S x 1220 := (zA_sAn eS_359 (ex3 (gQ_12_1220 hO_355.1 t_419)) t_357 rfl).trans zc_418
            have zc_421 : zA S_365 x 1220 = zA S x 1220 := (zA_fr hk_366.fr t_363 (ex3 (gQ_12_1220 hO_360.1 t_363)) (by decide +kernel) (by decide +kernel)).trans zc_420
            rw [hQQ]
            exact ret_z X hw hr hlocks (Nat.le_of_ble_eq_true rfl) (Nat.le_of_ble_eq_true rfl) (by decide) ⟨hO_367, Or.inr ⟨congrFun zc_421 4, rfl⟩⟩ dX12_rule_179
      · have z_b_422 := trivial
        have k_423 : v_258.toInt = 12 := z_eq rfl ti_12 c_261
        refine lv_aload_n X.1 X.2.1 dX12_rule_42 rfl (lv_at hl 2 rfl) ?_
        refine lv_iconst (v := 2) X.1 X.2.1 dX12_rule_43 (by decide) ?_
        refine k_i (rm := { frames := 1, cells := 0, slots := 0, locals := 48 }) (av := [.ref x, .int 2]) X hw (va_runV (As := [.int 2]) (rest := []) (cfix X) (k_X12_wrong l G cy κ S _ x (2) (2) hO.1 ha_x ti_2) (cwV 1 X.2.2.2.1 gX12_rule_X12_wrong rfl rfl rfl (by decide +kernel) ⟨Nat.le_of_ble_eq_true rfl, Nat.le_of_ble_eq_true rfl⟩) (pre_V X hw _ ha_x rfl (by decide) rfl) rfl rfl hl.1 rfl (lv_room (Nat.le_of_ble_eq_true rfl)) dX12_rule_44 ⟨Nat.le_of_ble_eq_true rfl, Nat.le_of_ble_eq_true rfl⟩) 0 0 (Nat.le_of_ble_eq_true rfl) (Nat.le_of_ble_eq_true rfl) (fun rr_424 S_425 H locs hp hw hfr hnw => ?_)
        obtain ⟨hk_426, hp⟩ := hp
        have hO_427 : Ok MR S S_425 := hO.call hk_426 (by decide +kernel)
        rcases hp with ⟨f_428, er_429⟩ | ⟨f_428, er_429⟩ <;> subst er_429
        · have z_b_430 := trivial
          rw [hQQ]
          exact ret_z X hw hr hlocks (Nat.le_of_ble_eq_true rfl) (Nat.le_of_ble_eq_true rfl) (by decide) ⟨hO_427, Or.inl ⟨by omega, rfl⟩⟩ dX12_rule_47
        · have z_b_431 := trivial
          have zc_432 : zA S_425 x 1220 = zA S x 1220 := zA_fr hk_426.fr ha_x (ex3 (gQ_12_1220 hO.1 ha_x)) (by decide +kernel) (by decide +kernel)
          rw [hQQ]
          exact ret_z X hw hr hlocks (Nat.le_of_ble_eq_true rfl) (Nat.le_of_ble_eq_true rfl) (by decide) ⟨hO_427, Or.inr ⟨congrFun zc_432 4, rfl⟩⟩ dX12_rule_47
    · have z_b_433 := trivial
      have k_434 : rr_247.toInt = (-1) := z_eq rfl ti_m1 c_251
      refine lv_aload_n X.1 X.2.1 dX12_rule_25 rfl (lv_at hl 2 rfl) ?_
      refine lv_iconst (v := 1) X.1 X.2.1 dX12_rule_26 (by decide) ?_
      refine k_i (rm := { frames := 1, cells := 0, slots := 0, locals := 48 }) (av := [.ref x, .int 1]) X hw (va_runV (As := [.int 1]) (rest := []) (cfix X) (k_X12_wrong l G cy κ S _ x (1) (1) hO.1 ha_x ti_1) (cwV 1 X.2.2.2.1 gX12_rule_X12_wrong rfl rfl rfl (by decide +kernel) ⟨Nat.le_of_ble_eq_true rfl, Nat.le_of_ble_eq_true rfl⟩) (pre_V X hw _ ha_x rfl (by decide) rfl) rfl rfl hl.1 rfl (lv_room (Nat.le_of_ble_eq_true rfl)) dX12_rule_27 ⟨Nat.le_of_ble_eq_true rfl, Nat.le_of_ble_eq_true rfl⟩) 0 0 (Nat.le_of_ble_eq_true rfl) (Nat.le_of_ble_eq_true rfl) (fun rr_435 S_436 H locs hp hw hfr hnw => ?_)
      obtain ⟨hk_437, hp⟩ := hp
      have hO_438 : Ok MR S S_436 := hO.call hk_437 (by decide +kernel)
      rcases hp with ⟨f_439, er_440⟩ | ⟨f_439, er_440⟩ <;> subst er_440
      · have z_b_441 := trivial
        rw [hQQ]
        exact ret_z X hw hr hlocks (Nat.le_of_ble_eq_true rfl) (Nat.le_of_ble_eq_true rfl) (by decide) ⟨hO_438, Or.inl ⟨by omega, rfl⟩⟩ dX12_rule_30
      · have z_b_442 := trivial
        have zc_443 : zA S_436 x 1220 = zA S x 1220 := zA_fr hk_437.fr ha_x (ex3 (gQ_12_1220 hO.1 ha_x)) (by decide +kernel) (by decide +kernel)
        rw [hQQ]
        exact ret_z X hw hr hlocks (Nat.le_of_ble_eq_true rfl) (Nat.le_of_ble_eq_true rfl) (by decide) ⟨hO_438, Or.inr ⟨congrFun zc_443 4, rfl⟩⟩ dX12_rule_30
set_option maxHeartbeats 4000000 in
set_option maxRecDepth 100000 in
theorem k_X12_program (l : Launch) (G : va_G) (cy : Nat → ClassId) (κ : Nat → Nat) (S : PS) (sz : Nat) (x : Nat) (a1 : Int32) (a1_z : Int) (hG : GX S) (ha_x : At S x 12) (hz_a1 : a1.toInt = a1_z) : Ci l yX12_program wsX12_program ({ frames := 8, cells := 0, slots := 0, locals := 384 }) G cy κ S sz [.ref x, .int (a1)] (fun (r : Int32) (S9 : PS) => Ok MT S S9 ∧ (True)) := by
  refine ent_m (cc := cX12_program) (maxL := 5) (ret := (some .int)) (by decide) rfl (Nat.le_of_ble_eq_true rfl) ?_
  intro p e s m below meth c ls X hr hlocks hin hw hl hsz
  subst hsz
  have X : Cx p c cX12_program 5 s [.ref x, .int (a1)].toArray wsX12_program RX12 m G cy κ (AS S s.heap.size) := X
  have hl : lv_has ls 5 [(0, .ref x), (1, .int (a1))] := hl
  have rg_a1 : (-2147483648) ≤ a1_z ∧ a1_z ≤ 2147483647 := by rw [← hz_a1]; exact ⟨z_lo _, z_hi _⟩
  have hO : Ok MT S S := Ok.rf hG
  generalize hQQ : MQ below _ _ _ _ _ _ = QQ
  replace hQQ := hQQ.symm
  refine lv_aload_n X.1 X.2.1 dX12_program_0 rfl (lv_at hl 0 rfl) ?_
  refine lv_iconst (v := 0) X.1 X.2.1 dX12_program_1 (by decide) ?_
  refine r_putI (v := 0) X hw ha_x rfl 0 1200 tyX12 (by decide) rfl inn_X12_program_12 tyX12_ok nmX12 (by decide) (X.2.2.2.1 (.fieldLink RX12 161 "SilkMillModel" "thrown" "I") (by decide +kernel)) rfl (Or.inl rfl) rfl rfl (Nat.le_of_ble_eq_true rfl) (st_1200 _ _) dX12_program_2 (fun H locs hw => ?_)
  obtain ⟨S_1, eS_1⟩ : ∃ T, T = sI S 1200 x (0) := ⟨_, rfl⟩
  rw [← eS_1] at hw
  have hO_2 : Ok MT S S_1 := hO.sI eS_1 (by decide +kernel) (uI_12_1200 hO.1 ha_x)
  have h_3 : pI S_1 1200 x = 0 := tI_sIs eS_1
  refine lv_aload_n X.1 X.2.1 dX12_program_5 rfl (lv_at hl 0 rfl) ?_
  refine lv_iload_n X.1 X.2.1 dX12_program_6 rfl (lv_at hl 1 rfl) ?_
  have t_4 : At S_1 x 12 := tAt_sI eS_1 ha_x
  refine k_i (rm := { frames := 2, cells := 0, slots := 0, locals := 96 }) (av := [.ref x, .int (a1)]) X hw (va_runV (As := [.int (a1)]) (rest := []) (cfix X) (k_X12_isPot l G cy κ S_1 _ x (a1) (a1_z) hO_2.1 t_4 hz_a1) (cwV 1 X.2.2.2.1 gX12_program_X12_isPot rfl rfl rfl (by decide +kernel) ⟨Nat.le_of_ble_eq_true rfl, Nat.le_of_ble_eq_true rfl⟩) (pre_V X hw _ t_4 rfl (by decide) rfl) rfl rfl hl.1 rfl (lv_room (Nat.le_of_ble_eq_true rfl)) dX12_program_7 ⟨Nat.le_of_ble_eq_true rfl, Nat.le_of_ble_eq_true rfl⟩) 0 0 (Nat.le_of_ble_eq_true rfl) (Nat.le_of_ble_eq_true rfl) (fun rr_5 S_6 H locs hp hw hfr hnw => ?_)
  obtain ⟨e2, hp⟩ := hp
  subst e2
  rcases hp with ⟨f_7, er_8⟩ | ⟨f_7, er_8⟩ <;> subst er_8
  · have z_b_9 := trivial
    refine lv_if_ne (tgt := 15) X.1 X.2.1 dX12_program_10 (by decide) (fun c_10 => ?_) (fun c_10 => absurd c_10 (by decide))
    refine lv_aload_n X.1 X.2.1 dX12_program_15 rfl (lv_at hl 0 rfl) ?_
    refine lv_iconst (v := 0) X.1 X.2.1 dX12_program_16 (by decide) ?_
    refine r_putI (v := 0) X hw t_4 rfl 30 1230 tyX12 (by decide) rfl inn_X12_program_12 tyX12_ok nmX12 (by decide) (X.2.2.2.1 (.fieldLink RX12 229 "SilkMillModel" "faultKind" "I") (by decide +kernel)) rfl (Or.inl rfl) rfl rfl (Nat.le_of_ble_eq_true rfl) (st_1230 _ _) dX12_program_17 (fun H locs hw => ?_)
    obtain ⟨S_11, eS_11⟩ : ∃ T, T = sI S_1 1230 x (0) := ⟨_, rfl⟩
    rw [← eS_11] at hw
    have hO_12 : Ok MT S S_11 := hO_2.sI eS_11 (by decide +kernel) (uI_12_1230 hO_2.1 t_4)
    have h_13 : pI S_11 1230 x = 0 := tI_sIs eS_11
    refine lv_aload_n X.1 X.2.1 dX12_program_20 rfl (lv_at hl 0 rfl) ?_
    refine lv_iconst (v := (-1)) X.1 X.2.1 dX12_program_21 (by decide) ?_
    have t_14 : At S_11 x 12 := tAt_sI eS_11 t_4
    refine r_putI (v := (-1)) X hw t_14 rfl 29 1229 tyX12 (by decide) rfl inn_X12_program_12 tyX12_ok nmX12 (by decide) (X.2.2.2.1 (.fieldLink RX12 86 "SilkMillModel" "faultPlace" "I") (by decide +kernel)) rfl (Or.inl rfl) rfl rfl (Nat.le_of_ble_eq_true rfl) (st_1229 _ _) dX12_program_22 (fun H locs hw => ?_)
    obtain ⟨S_15, eS_15⟩ : ∃ T, T = sI S_11 1229 x ((-1)) := ⟨_, rfl⟩
    rw [← eS_15] at hw
    have hO_16 : Ok MT S S_15 := hO_12.sI eS_15 (by decide +kernel) (uI_12_1229 hO_12.1 t_14)
    have h_17 : pI S_15 1229 x = (-1) := tI_sIs eS_15
    refine lv_aload_n X.1 X.2.1 dX12_program_25 rfl (lv_at hl 0 rfl) ?_
    have t_18 : At S_15 x 12 := tAt_sI eS_15 t_14
    obtain ⟨q_19, h_20, h_21, h_22⟩ := gQ_12_1220 hO_16.1 t_18
    refine r_getR (g := 1220) X hw t_18 rfl 20 h_20 (by decide) rfl inn_X12_program_12 (by decide) (X.2.2.2.1 (.fieldLink RX12 61 "SilkMillModel" "rules" "[I") (by decide +kernel)) rfl (gv_1220 _ _) dX12_program_26 ?_
    refine lv_iconst (v := 4) X.1 X.2.1 dX12_program_29 (by decide) ?_
    refine lv_iconst (v := 0) X.1 X.2.1 dX12_program_30 (by decide) ?_
    refine r_iast X hw h_21 rfl (by rw [h_22]; exact z_ix ti_4 (by omega) (by omega)) dX12_program_31 (fun H locs hw => ?_)
    obtain ⟨S_23, eS_23⟩ : ∃ T, T = sA S_15 q_19 (upd (pA S_15 q_19) (Int32.toNatClampNeg (4)) (0)) := ⟨_, rfl⟩
    rw [← eS_23] at hw
    have hO_24 : Ok MT S S_23 := hO_16.sA eS_23 h_21 (by decide +kernel) (uA_614 hO_16.1 h_21 (by rw [ti_0]; omega) (by rw [ti_0]; omega))
    have h_25 : pA S_23 q_19 (Int32.toNatClampNeg (4)) = 0 := tA_sAs eS_23
    have t_26 : pR S_23 1220 x = some q_19 := tR_sA eS_23 h_20
    have t_28 : pR S_15 1220 x = some q_19 := by have h := t_26; rw [eS_23, pR_sA] at h; exact h
    have zs_27 : ∀ j, zA S_23 x 1220 j = if j = (4 : Int).toNat then 0 else zA S_15 x 1220 j := by have h := zA_sAs eS_23 t_28 ti_0; rw [z_nc ti_4 (by omega)] at h; exact h
    have zs_29 : zA S_23 x 1220 4 = 0 := by have h := zs_27 4; rw [if_pos (by decide)] at h; exact h
    refine lv_aload_n X.1 X.2.1 dX12_program_32 rfl (lv_at hl 0 rfl) ?_
    refine lv_iconst (v := 0) X.1 X.2.1 dX12_program_33 (by decide) ?_
    have t_30 : At S_23 x 12 := tAt_sA eS_23 t_18
    refine r_putI (v := 0) X hw t_30 rfl 33 1233 tyX12 (by decide) rfl inn_X12_program_12 tyX12_ok nmX12 (by decide) (X.2.2.2.1 (.fieldLink RX12 214 "SilkMillModel" "to" "I") (by decide +kernel)) rfl (Or.inl rfl) rfl rfl (Nat.le_of_ble_eq_true rfl) (st_1233 _ _) dX12_program_34 (fun H locs hw => ?_)
    obtain ⟨S_31, eS_31⟩ : ∃ T, T = sI S_23 1233 x (0) := ⟨_, rfl⟩
    rw [← eS_31] at hw
    have hO_32 : Ok MT S S_31 := hO_24.sI eS_31 (by decide +kernel) (uI_12_1233 hO_24.1 t_30 (by rw [ti_0]; omega) (by rw [ti_0]; omega))
    have h_33 : pI S_31 1233 x = 0 := tI_sIs eS_31
    refine lv_aload_n X.1 X.2.1 dX12_program_37 rfl (lv_at hl 0 rfl) ?_
    have t_34 : At S_31 x 12 := tAt_sI eS_31 t_30
    refine k_v (rm := { frames := 2, cells := 0, slots := 0, locals := 96 }) (av := [.ref x]) X hw (va_runV (As := []) (rest := []) (cfix X) (k_X12_token l G cy κ S_31 _ x hO_32.1 t_34) (cwV 0 X.2.2.2.1 gX12_program_X12_token rfl rfl rfl (by decide +kernel) ⟨Nat.le_of_ble_eq_true rfl, Nat.le_of_ble_eq_true rfl⟩) (pre_V X hw _ t_34 rfl (by decide) rfl) rfl rfl hl.1 rfl (lv_room (Nat.le_of_ble_eq_true rfl)) dX12_program_38 ⟨Nat.le_of_ble_eq_true rfl, Nat.le_of_ble_eq_true rfl⟩) 0 0 (Nat.le_of_ble_eq_true rfl) (Nat.le_of_ble_eq_true rfl) (fun S_36 H locs hp hw hfr hnw => ?_)
    obtain ⟨hk_37, hp⟩ := hp
    have hO_38 : Ok MT S S_36 := hO_32.call hk_37 (by decide +kernel)
    have zc_39 : zA S_1 x 1220 = zA S x 1220 := zA_sI eS_1
    have zc_40 : zA S_11 x 1220 = zA S x 1220 := (zA_sI eS_11).trans zc_39
    have zc_41 : zA S_15 x 1220 = zA S x 1220 := (zA_sI eS_15).trans zc_40
    have zc_42 : zA S_31 x 1220 = zA S_23 x 1220 := zA_sI eS_31
    have zc_43 : zA S_36 x 1220 = zA S_23 x 1220 := (zA_fr hk_37.fr t_34 (ex3 (gQ_12_1220 hO_32.1 t_34)) (by decide +kernel) (by decide +kernel)).trans zc_42
    have zz_44 := congrFun zc_43 (4)
    refine lv_iconst (v := 1) X.1 X.2.1 dX12_program_41 (by decide) ?_
    refine lv_istore_n (lv' := [(2, .int 1), (0, .ref x), (1, .int (a1))]) X.1 X.2.1 dX12_program_42 rfl hl (by decide) rfl (fun ls hl => ?_)
    have L_45 : ∀ (n : Nat) (T_47 : PS) (H : Heap) (locs : List Loc) (ls : Array Slot) (i2_46 : Int32) (i2_46_z : Int), ((2 * (13 - zA T_47 x 1220 4) + i2_46_z).toNat = n) → (Wd G cy (AS S s.heap.size) s.heap T_47 H locs) → (i2_46.toInt = i2_46_z) → (0 ≤ i2_46_z ∧ i2_46_z ≤ 1) → (At T_47 x 12) → (Ok MT S T_47) → (zA T_47 x 1220 4 ≤ 12) → (lv_has ls 5 [(2, .int (i2_46)), (0, .ref x), (1, .int (a1))]) → W p l e ({ frames := 8, cells := 0, slots := 0, locals := 384 }) s m [.ref x, .int (a1)].toArray below meth c H locs 0 0 QQ (F0 m 43 ls []) := by
      intro n
      induction n using Nat.strongRecOn with
      | ind n ih_L_45 =>
      intro T_47 H locs ls i2_46 i2_46_z hn hw hz_i2_46 hr_i2_46 ha_x_L_48 hO_T_47 iv_49 hl
      have rg_50 : (-2147483648) ≤ i2_46_z ∧ i2_46_z ≤ 2147483647 := by rw [← hz_i2_46]; exact ⟨z_lo _, z_hi _⟩
      refine lv_iload_n X.1 X.2.1 dX12_program_43 rfl (lv_at hl 0 rfl) ?_
      refine lv_if_eq (tgt := 62) X.1 X.2.1 dX12_program_44 (by decide) (fun c_51 => ?_) (fun c_51 => ?_)
      · have z_b_52 := trivial
        have k_53 : i2_46_z = 0 := z_eq hz_i2_46 ti_0 c_51
        refine lv_aload_n X.1 X.2.1 dX12_program_62 rfl (lv_at hl 1 rfl) ?_
        refine lv_iconst (v := 0) X.1 X.2.1 dX12_program_63 (by decide) ?_
        refine r_putI (v := 0) X hw ha_x_L_48 rfl 28 1228 tyX12 (by decide) rfl inn_X12_program_12 tyX12_ok nmX12 (by decide) (X.2.2.2.1 (.fieldLink RX12 211 "SilkMillModel" "taped" "I") (by decide +kernel)) rfl (Or.inl rfl) rfl rfl (Nat.le_of_ble_eq_true rfl) (st_1228 _ _) dX12_program_64 (fun H locs hw => ?_)
        obtain ⟨S_54, eS_54⟩ : ∃ T, T = sI T_47 1228 x (0) := ⟨_, rfl⟩
        rw [← eS_54] at hw
        have hO_55 : Ok MT S S_54 := hO_T_47.sI eS_54 (by decide +kernel) (uI_12_1228 hO_T_47.1 ha_x_L_48 (by rw [ti_0]; omega) (by rw [ti_0]; omega))
        have h_56 : pI S_54 1228 x = 0 := tI_sIs eS_54
        refine lv_aload_n X.1 X.2.1 dX12_program_67 rfl (lv_at hl 1 rfl) ?_
        have t_57 : At S_54 x 12 := tAt_sI eS_54 ha_x_L_48
        obtain ⟨v_58, ev_58⟩ : ∃ v, pI S_54 1230 x = v := ⟨_, rfl⟩
        have rg_60 := And.intro (z_lo v_58) (z_hi v_58)
        have pz_61 : (pI S_54 1230 x).toInt = v_58.toInt := by rw [ev_58]
        refine r_getI (g := 1230) (x := v_58) X hw t_57 rfl 30 ev_58 (by decide) rfl inn_X12_program_12 (by decide) (X.2.2.2.1 (.fieldLink RX12 229 "SilkMillModel" "faultKind" "I") (by decide +kernel)) rfl (gv_1230 _ _) dX12_program_68 ?_
        refine lv_if_le (tgt := 82) X.1 X.2.1 dX12_program_71 (by decide) (fun c_62 => ?_) (fun c_62 => ?_)
        · have z_b_63 := trivial
          have k_64 : v_58.toInt ≤ 0 := z_le rfl ti_0 c_62
          refine lv_aload_n X.1 X.2.1 dX12_program_82 rfl (lv_at hl 1 rfl) ?_
          obtain ⟨q_65, h_66, h_67, h_68⟩ := gQ_12_1220 hO_55.1 t_57
          refine r_getR (g := 1220) X hw t_57 rfl 20 h_66 (by decide) rfl inn_X12_program_12 (by decide) (X.2.2.2.1 (.fieldLink RX12 61 "SilkMillModel" "rules" "[I") (by decide +kernel)) rfl (gv_1220 _ _) dX12_program_83 ?_
          refine lv_iload_n X.1 X.2.1 dX12_program_86 rfl (lv_at hl 2 rfl) ?_
          refine lv_aload_n X.1 X.2.1 dX12_program_87 rfl (lv_at hl 1 rfl) ?_
          refine r_getR (g := 1220) X hw t_57 rfl 20 h_66 (by decide) rfl inn_X12_program_12 (by decide) (X.2.2.2.1 (.fieldLink RX12 61 "SilkMillModel" "rules" "[I") (by decide +kernel)) rfl (gv_1220 _ _) dX12_program_88 ?_
          refine lv_iconst (v := 4) X.1 X.2.1 dX12_program_91 (by decide) ?_
          refine r_iald X hw h_67 rfl (by rw [h_68]; exact z_ix ti_4 (by omega) (by omega)) dX12_program_92 ?_
          refine lv_topi (fun v_69 ev_69 => ?_)
          have z_70 := gE_614 hO_55.1 h_67 (Int32.toNatClampNeg (4)); rw [← ev_69] at z_70
          have ev_69 := ev_69.symm
          refine r_iast X hw h_67 rfl (by rw [h_68]; exact z_ix hz_a1 (by omega) (by omega)) dX12_program_93 (fun H locs hw => ?_)
          obtain ⟨S_71, eS_71⟩ : ∃ T, T = sA S_54 q_65 (upd (pA S_54 q_65) (Int32.toNatClampNeg (a1)) (v_69)) := ⟨_, rfl⟩
          rw [← eS_71] at hw
          have hO_72 : Ok MT S S_71 := hO_55.sA eS_71 h_67 (by decide +kernel) (uA_614 hO_55.1 h_67 (by omega) (by omega))
          have h_73 : pA S_71 q_65 (Int32.toNatClampNeg (a1)) = v_69 := tA_sAs eS_71
          refine lv_iconst (v := 0) X.1 X.2.1 dX12_program_94 (by decide) ?_
          refine lv_istore_n (lv' := [(3, .int 0), (2, .int (i2_46)), (0, .ref x), (1, .int (a1))]) X.1 X.2.1 dX12_program_95 rfl hl (by decide) rfl (fun ls hl => ?_)
          have L_74 : ∀ (n : Nat) (T_76 : PS) (H : Heap) (locs : List Loc) (ls : Array Slot) (i3_75 : Int32) (i3_75_z : Int), ((12 - i3_75_z).toNat = n) → (Wd G cy (AS S s.heap.size) s.heap T_76 H locs) → (i3_75.toInt = i3_75_z) → (0 ≤ i3_75_z ∧ i3_75_z ≤ 12) → (At T_76 x 12) → (Ok MT S T_76) → (lv_has ls 5 [(3, .int (i3_75)), (2, .int (i2_46)), (0, .ref x), (1, .int (a1))]) → W p l e ({ frames := 8, cells := 0, slots := 0, locals := 384 }) s m [.ref x, .int (a1)].toArray below meth c H locs 0 0 QQ (F0 m 96 ls []) := by
            intro n
            induction n using Nat.strongRecOn with
            | ind n ih_L_74 =>
            intro T_76 H locs ls i3_75 i3_75_z hn hw hz_i3_75 hr_i3_75 ha_x_L_77 hO_T_76 hl
            have rg_78 : (-2147483648) ≤ i3_75_z ∧ i3_75_z ≤ 2147483647 := by rw [← hz_i3_75]; exact ⟨z_lo _, z_hi _⟩
            refine lv_iload_n X.1 X.2.1 dX12_program_96 rfl (lv_at hl 0 rfl) ?_
            refine lv_bipush (v := 12) X.1 X.2.1 dX12_program_97 (by decide) ?_
            refine lv_icmp_ge (tgt := 273) X.1 X.2.1 dX12_program_99 (by decide) (fun c_79 => ?_) (fun c_79 => ?_)
            · have z_b_80 := trivial
              have k_81 : i3_75_z ≥ 12 := z_le ti_12 hz_i3_75 c_79
              refine lv_aload_n X.1 X.2.1 dX12_program_273 rfl (lv_at hl 2 rfl) ?_
              obtain ⟨q_82, h_83, h_84, h_85⟩ := gQ_12_1220 hO_T_76.1 ha_x_L_77
              refine r_getR (g := 1220) X hw ha_x_L_77 rfl 20 h_83 (by decide) rfl inn_X12_program_12 (by decide) (X.2.2.2.1 (.fieldLink RX12 61 "SilkMillModel" "rules" "[I") (by decide +kernel)) rfl (gv_1220 _ _) dX12_program_274 ?_
              refine lv_iload_n X.1 X.2.1 dX12_program_277 rfl (lv_at hl 3 rfl) ?_
              refine r_iald X hw h_84 rfl (by rw [h_85]; exact z_ix hz_a1 (by omega) (by omega)) dX12_program_278 ?_
              refine lv_topi (fun v_86 ev_86 => ?_)
              have z_87 := gE_614 hO_T_76.1 h_84 (Int32.toNatClampNeg (a1)); rw [← ev_86] at z_87
              have ev_86 := ev_86.symm
              rw [hQQ]
              exact ret_i X hw hr hlocks (Nat.le_of_ble_eq_true rfl) (Nat.le_of_ble_eq_true rfl) ⟨hO_T_76, trivial⟩ dX12_program_279
            · have z_b_88 := trivial
              have k_89 : i3_75_z < 12 := z_nle ti_12 hz_i3_75 c_79
              refine lv_aload_n X.1 X.2.1 dX12_program_102 rfl (lv_at hl 2 rfl) ?_
              obtain ⟨q_90, h_91, h_92, h_93⟩ := gQ_12_1221 hO_T_76.1 ha_x_L_77
              refine r_getR (g := 1221) X hw ha_x_L_77 rfl 21 h_91 (by decide) rfl inn_X12_program_12 (by decide) (X.2.2.2.1 (.fieldLink RX12 64 "SilkMillModel" "act" "[I") (by decide +kernel)) rfl (gv_1221 _ _) dX12_program_103 ?_
              refine lv_bipush (v := 12) X.1 X.2.1 dX12_program_106 (by decide) ?_
              refine lv_iload_n X.1 X.2.1 dX12_program_108 rfl (lv_at hl 3 rfl) ?_
              refine lv_imul X.1 X.2.1 dX12_program_109 ?_
              refine lv_topi (fun v_94 ev_94 => ?_)
              have z_95 : v_94.toInt = 12 * a1_z := z_mul ev_94 ti_12 hz_a1 (by omega) (by omega)
              refine lv_iload_n X.1 X.2.1 dX12_program_110 rfl (lv_at hl 0 rfl) ?_
              refine lv_iadd X.1 X.2.1 dX12_program_111 ?_
              refine lv_topi (fun v_96 ev_96 => ?_)
              have z_97 : v_96.toInt = (12 * a1_z) + i3_75_z := z_add ev_96 z_95 hz_i3_75 (by omega) (by omega)
              refine lv_aload_n X.1 X.2.1 dX12_program_112 rfl (lv_at hl 2 rfl) ?_
              refine r_getR (g := 1221) X hw ha_x_L_77 rfl 21 h_91 (by decide) rfl inn_X12_program_12 (by decide) (X.2.2.2.1 (.fieldLink RX12 64 "SilkMillModel" "act" "[I") (by decide +kernel)) rfl (gv_1221 _ _) dX12_program_113 ?_
              refine lv_bipush (v := 48) X.1 X.2.1 dX12_program_116 (by decide) ?_
              refine lv_iload_n X.1 X.2.1 dX12_program_118 rfl (lv_at hl 0 rfl) ?_
              refine lv_iadd X.1 X.2.1 dX12_program_119 ?_
              refine lv_topi (fun v_98 ev_98 => ?_)
              have z_99 : v_98.toInt = 48 + i3_75_z := z_add ev_98 ti_48 hz_i3_75 (by omega) (by omega)
              refine r_iald X hw h_92 rfl (by rw [h_93]; exact z_ix z_99 (by omega) (by omega)) dX12_program_120 ?_
              refine lv_topi (fun v_100 ev_100 => ?_)
              have rg_101 := And.intro (z_lo v_100) (z_hi v_100)
              have ev_100 := ev_100.symm
              refine r_iast X hw h_92 rfl (by rw [h_93]; exact z_ix z_97 (by omega) (by omega)) dX12_program_121 (fun H locs hw => ?_)
              obtain ⟨S_102, eS_102⟩ : ∃ T, T = sA T_76 q_90 (upd (pA T_76 q_90) (Int32.toNatClampNeg (v_96)) (v_100)) := ⟨_, rfl⟩
              rw [← eS_102] at hw
              have hO_103 : Ok MT S S_102 := hO_T_76.sA eS_102 h_92 (by decide +kernel) (uA_634 hO_T_76.1 h_92)
              have h_104 : pA S_102 q_90 (Int32.toNatClampNeg (v_96)) = v_100 := tA_sAs eS_102
              refine lv_aload_n X.1 X.2.1 dX12_program_122 rfl (lv_at hl 2 rfl) ?_
              have t_105 : At S_102 x 12 := tAt_sA eS_102 ha_x_L_77
              obtain ⟨q_106, h_107, h_108, h_109⟩ := gQ_12_1222 hO_103.1 t_105
              refine r_getR (g := 1222) X hw t_105 rfl 22 h_107 (by decide) rfl inn_X12_program_12 (by decide) (X.2.2.2.1 (.fieldLink RX12 67 "SilkMillModel" "actNumber" "[I") (by decide +kernel)) rfl (gv_1222 _ _) dX12_program_123 ?_
              refine lv_bipush (v := 12) X.1 X.2.1 dX12_program_126 (by decide) ?_
              refine lv_iload_n X.1 X.2.1 dX12_program_128 rfl (lv_at hl 3 rfl) ?_
              refine lv_imul X.1 X.2.1 dX12_program_129 ?_
              refine lv_topi (fun v_110 ev_110 => ?_)
              have z_111 : v_110.toInt = 12 * a1_z := z_mul ev_110 ti_12 hz_a1 (by omega) (by omega)
              refine lv_iload_n X.1 X.2.1 dX12_program_130 rfl (lv_at hl 0 rfl) ?_
              refine lv_iadd X.1 X.2.1 dX12_program_131 ?_
              refine lv_topi (fun v_112 ev_112 => ?_)
              have z_113 : v_112.toInt = (12 * a1_z) + i3_75_z := z_add ev_112 z_111 hz_i3_75 (by omega) (by omega)
              refine lv_aload_n X.1 X.2.1 dX12_program_132 rfl (lv_at hl 2 rfl) ?_
              refine r_getR (g := 1222) X hw t_105 rfl 22 h_107 (by decide) rfl inn_X12_program_12 (by decide) (X.2.2.2.1 (.fieldLink RX12 67 "SilkMillModel" "actNumber" "[I") (by decide +kernel)) rfl (gv_1222 _ _) dX12_program_133 ?_
              refine lv_bipush (v := 48) X.1 X.2.1 dX12_program_136 (by decide) ?_
              refine lv_iload_n X.1 X.2.1 dX12_program_138 rfl (lv_at hl 0 rfl) ?_
              refine lv_iadd X.1 X.2.1 dX12_program_139 ?_
              refine lv_topi (fun v_114 ev_114 => ?_)
              have z_115 : v_114.toInt = 48 + i3_75_z := z_add ev_114 ti_48 hz_i3_75 (by omega) (by omega)
              refine r_iald X hw h_108 rfl (by rw [h_109]; exact z_ix z_115 (by omega) (by omega)) dX12_program_140 ?_
              refine lv_topi (fun v_116 ev_116 => ?_)
              have rg_117 := And.intro (z_lo v_116) (z_hi v_116)
              have ev_116 := ev_116.symm
              refine r_iast X hw h_108 rfl (by rw [h_109]; exact z_ix z_113 (by omega) (by omega)) dX12_program_141 (fun H locs hw => ?_)
              obtain ⟨S_118, eS_118⟩ : ∃ T, T = sA S_102 q_106 (upd (pA S_102 q_106) (Int32.toNatClampNeg (v_112)) (v_116)) := ⟨_, rfl⟩
              rw [← eS_118] at hw
              have hO_119 : Ok MT S S_118 := hO_103.sA eS_118 h_108 (by decide +kernel) (uA_654 hO_103.1 h_108)
              have h_120 : pA S_118 q_106 (Int32.toNatClampNeg (v_112)) = v_116 := tA_sAs eS_118
              refine lv_aload_n X.1 X.2.1 dX12_program_142 rfl (lv_at hl 2 rfl) ?_
              have t_121 : At S_118 x 12 := tAt_sA eS_118 t_105
              obtain ⟨q_122, h_123, h_124, h_125⟩ := gQ_12_1223 hO_119.1 t_121
              refine r_getR (g := 1223) X hw t_121 rfl 23 h_123 (by decide) rfl inn_X12_program_12 (by decide) (X.2.2.2.1 (.fieldLink RX12 70 "SilkMillModel" "conditions" "[I") (by decide +kernel)) rfl (gv_1223 _ _) dX12_program_143 ?_
              refine lv_bipush (v := 12) X.1 X.2.1 dX12_program_146 (by decide) ?_
              refine lv_iload_n X.1 X.2.1 dX12_program_148 rfl (lv_at hl 3 rfl) ?_
              refine lv_imul X.1 X.2.1 dX12_program_149 ?_
              refine lv_topi (fun v_126 ev_126 => ?_)
              have z_127 : v_126.toInt = 12 * a1_z := z_mul ev_126 ti_12 hz_a1 (by omega) (by omega)
              refine lv_iload_n X.1 X.2.1 dX12_program_150 rfl (lv_at hl 0 rfl) ?_
              refine lv_iadd X.1 X.2.1 dX12_program_151 ?_
              refine lv_topi (fun v_128 ev_128 => ?_)
              have z_129 : v_128.toInt = (12 * a1_z) + i3_75_z := z_add ev_128 z_127 hz_i3_75 (by omega) (by omega)
              refine lv_aload_n X.1 X.2.1 dX12_program_152 rfl (lv_at hl 2 rfl) ?_
              refine r_getR (g := 1223) X hw t_121 rfl 23 h_123 (by decide) rfl inn_X12_program_12 (by decide) (X.2.2.2.1 (.fieldLink RX12 70 "SilkMillModel" "conditions" "[I") (by decide +kernel)) rfl (gv_1223 _ _) dX12_program_153 ?_
              refine lv_bipush (v := 48) X.1 X.2.1 dX12_program_156 (by decide) ?_
              refine lv_iload_n X.1 X.2.1 dX12_program_158 rfl (lv_at hl 0 rfl) ?_
              refine lv_iadd X.1 X.2.1 dX12_program_159 ?_
              refine lv_topi (fun v_130 ev_130 => ?_)
              have z_131 : v_130.toInt = 48 + i3_75_z := z_add ev_130 ti_48 hz_i3_75 (by omega) (by omega)
              refine r_iald X hw h_124 rfl (by rw [h_125]; exact z_ix z_131 (by omega) (by omega)) dX12_program_160 ?_
              refine lv_topi (fun v_132 ev_132 => ?_)
              have z_133 := gE_674 hO_119.1 h_124 (Int32.toNatClampNeg (v_130)); rw [← ev_132] at z_133
              have ev_132 := ev_132.symm
              refine r_iast X hw h_124 rfl (by rw [h_125]; exact z_ix z_129 (by omega) (by omega)) dX12_program_161 (fun H locs hw => ?_)
              obtain ⟨S_134, eS_134⟩ : ∃ T, T = sA S_118 q_122 (upd (pA S_118 q_122) (Int32.toNatClampNeg (v_128)) (v_132)) := ⟨_, rfl⟩
              rw [← eS_134] at hw
              have hO_135 : Ok MT S S_134 := hO_119.sA eS_134 h_124 (by decide +kernel) (uA_674 hO_119.1 h_124 (by omega) (by omega))
              have h_136 : pA S_134 q_122 (Int32.toNatClampNeg (v_128)) = v_132 := tA_sAs eS_134
              refine lv_iconst (v := 0) X.1 X.2.1 dX12_program_162 (by decide) ?_
              refine lv_istore (lv' := [(4, .int 0), (3, .int (i3_75)), (2, .int (i2_46)), (0, .ref x), (1, .int (a1))]) X.1 X.2.1 dX12_program_163 hl (by decide) rfl (fun ls hl => ?_)
              have L_137 : ∀ (n : Nat) (T_139 : PS) (H : Heap) (locs : List Loc) (ls : Array Slot) (i4_138 : Int32) (i4_138_z : Int), ((4 - i4_138_z).toNat = n) → (Wd G cy (AS S s.heap.size) s.heap T_139 H locs) → (i4_138.toInt = i4_138_z) → (0 ≤ i4_138_z ∧ i4_138_z ≤ 4) → (At T_139 x 12) → (Ok MT S T_139) → (lv_has ls 5 [(4, .int (i4_138)), (3, .int (i3_75)), (2, .int (i2_46)), (0, .ref x), (1, .int (a1))]) → W p l e ({ frames := 8, cells := 0, slots := 0, locals := 384 }) s m [.ref x, .int (a1)].toArray below meth c H locs 0 0 QQ (F0 m 165 ls []) := by
                intro n
                induction n using Nat.strongRecOn with
                | ind n ih_L_137 =>
                intro T_139 H locs ls i4_138 i4_138_z hn hw hz_i4_138 hr_i4_138 ha_x_L_140 hO_T_139 hl
                have rg_141 : (-2147483648) ≤ i4_138_z ∧ i4_138_z ≤ 2147483647 := by rw [← hz_i4_138]; exact ⟨z_lo _, z_hi _⟩
                refine lv_iload X.1 X.2.1 dX12_program_165 (lv_at hl 0 rfl) ?_
                refine lv_iconst (v := 4) X.1 X.2.1 dX12_program_167 (by decide) ?_
                refine lv_icmp_ge (tgt := 267) X.1 X.2.1 dX12_program_168 (by decide) (fun c_142 => ?_) (fun c_142 => ?_)
                · have z_b_143 := trivial
                  have k_144 : i4_138_z ≥ 4 := z_le ti_4 hz_i4_138 c_142
                  obtain ⟨x_145, ex_145⟩ : ∃ y : Int32, y = i3_75 + 1 := ⟨_, rfl⟩
                  have z_146 : x_145.toInt = i3_75_z + 1 := z_add ex_145 hz_i3_75 ti_1 (by omega) (by omega)
                  refine lv_iinc (v := x_145) (lv' := [(3, .int (x_145)), (4, .int (i4_138)), (2, .int (i2_46)), (0, .ref x), (1, .int (a1))]) X.1 X.2.1 dX12_program_267 hl (k := 1) rfl (by rw [ex_145]; rfl) (by decide) rfl (fun ls hl => ?_)
                  refine lv_goto (tgt := 96) X.1 X.2.1 dX12_program_270 (by decide) ?_
                  exact ih_L_74 _ (by omega) _ _ _ _ (x_145) (x_145.toInt) rfl hw rfl (by omega) ha_x_L_140 hO_T_139 (lv_sub hl [0, 2, 3, 4] rfl)
                · have z_b_147 := trivial
                  have k_148 : i4_138_z < 4 := z_nle ti_4 hz_i4_138 c_142
                  refine lv_aload_n X.1 X.2.1 dX12_program_171 rfl (lv_at hl 3 rfl) ?_
                  obtain ⟨q_149, h_150, h_151, h_152⟩ := gQ_12_1224 hO_T_139.1 ha_x_L_140
                  refine r_getR (g := 1224) X hw ha_x_L_140 rfl 24 h_150 (by decide) rfl inn_X12_program_12 (by decide) (X.2.2.2.1 (.fieldLink RX12 73 "SilkMillModel" "field" "[I") (by decide +kernel)) rfl (gv_1224 _ _) dX12_program_172 ?_
                  refine lv_iconst (v := 4) X.1 X.2.1 dX12_program_175 (by decide) ?_
                  refine lv_bipush (v := 12) X.1 X.2.1 dX12_program_176 (by decide) ?_
                  refine lv_iload_n X.1 X.2.1 dX12_program_178 rfl (lv_at hl 4 rfl) ?_
                  refine lv_imul X.1 X.2.1 dX12_program_179 ?_
                  refine lv_topi (fun v_153 ev_153 => ?_)
                  have z_154 : v_153.toInt = 12 * a1_z := z_mul ev_153 ti_12 hz_a1 (by omega) (by omega)
                  refine lv_iload_n X.1 X.2.1 dX12_program_180 rfl (lv_at hl 1 rfl) ?_
                  refine lv_iadd X.1 X.2.1 dX12_program_181 ?_
                  refine lv_topi (fun v_155 ev_155 => ?_)
                  have z_156 : v_155.toInt = (12 * a1_z) + i3_75_z := z_add ev_155 z_154 hz_i3_75 (by omega) (by omega)
                  refine lv_imul X.1 X.2.1 dX12_program_182 ?_
                  refine lv_topi (fun v_157 ev_157 => ?_)
                  have z_158 : v_157.toInt = 4 * ((12 * a1_z) + i3_75_z) := z_mul ev_157 ti_4 z_156 (by omega) (by omega)
                  refine lv_iload X.1 X.2.1 dX12_program_183 (lv_at hl 0 rfl) ?_
                  refine lv_iadd X.1 X.2.1 dX12_program_185 ?_
                  refine lv_topi (fun v_159 ev_159 => ?_)
                  have z_160 : v_159.toInt = (4 * ((12 * a1_z) + i3_75_z)) + i4_138_z := z_add ev_159 z_158 hz_i4_138 (by omega) (by omega)
                  refine lv_aload_n X.1 X.2.1 dX12_program_186 rfl (lv_at hl 3 rfl) ?_
                  refine r_getR (g := 1224) X hw ha_x_L_140 rfl 24 h_150 (by decide) rfl inn_X12_program_12 (by decide) (X.2.2.2.1 (.fieldLink RX12 73 "SilkMillModel" "field" "[I") (by decide +kernel)) rfl (gv_1224 _ _) dX12_program_187 ?_
                  refine lv_iconst (v := 4) X.1 X.2.1 dX12_program_190 (by decide) ?_
                  refine lv_bipush (v := 48) X.1 X.2.1 dX12_program_191 (by decide) ?_
                  refine lv_iload_n X.1 X.2.1 dX12_program_193 rfl (lv_at hl 1 rfl) ?_
                  refine lv_iadd X.1 X.2.1 dX12_program_194 ?_
                  refine lv_topi (fun v_161 ev_161 => ?_)
                  have z_162 : v_161.toInt = 48 + i3_75_z := z_add ev_161 ti_48 hz_i3_75 (by omega) (by omega)
                  refine lv_imul X.1 X.2.1 dX12_program_195 ?_
                  refine lv_topi (fun v_163 ev_163 => ?_)
                  have z_164 : v_163.toInt = 4 * (48 + i3_75_z) := z_mul ev_163 ti_4 z_162 (by omega) (by omega)
                  refine lv_iload X.1 X.2.1 dX12_program_196 (lv_at hl 0 rfl) ?_
                  refine lv_iadd X.1 X.2.1 dX12_program_198 ?_
                  refine lv_topi (fun v_165 ev_165 => ?_)
                  have z_166 : v_165.toInt = (4 * (48 + i3_75_z)) + i4_138_z := z_add ev_165 z_164 hz_i4_138 (by omega) (by omega)
                  refine r_iald X hw h_151 rfl (by rw [h_152]; exact z_ix z_166 (by omega) (by omega)) dX12_program_199 ?_
                  refine lv_topi (fun v_167 ev_167 => ?_)
                  have rg_168 := And.intro (z_lo v_167) (z_hi v_167)
                  have ev_167 := ev_167.symm
                  refine r_iast X hw h_151 rfl (by rw [h_152]; exact z_ix z_160 (by omega) (by omega)) dX12_program_200 (fun H locs hw => ?_)
                  obtain ⟨S_169, eS_169⟩ : ∃ T, T = sA T_139 q_149 (upd (pA T_139 q_149) (Int32.toNatClampNeg (v_159)) (v_167)) := ⟨_, rfl⟩
                  rw [← eS_169] at hw
                  have hO_170 : Ok MT S S_169 := hO_T_139.sA eS_169 h_151 (by decide +kernel) (uA_694 hO_T_139.1 h_151)
                  have h_171 : pA S_169 q_149 (Int32.toNatClampNeg (v_159)) = v_167 := tA_sAs eS_169
                  refine lv_aload_n X.1 X.2.1 dX12_program_201 rfl (lv_at hl 3 rfl) ?_
                  have t_172 : At S_169 x 12 := tAt_sA eS_169 ha_x_L_140
                  obtain ⟨q_173, h_174, h_175, h_176⟩ := gQ_12_1225 hO_170.1 t_172
                  refine r_getR (g := 1225) X hw t_172 rfl 25 h_174 (by decide) rfl inn_X12_program_12 (by decide) (X.2.2.2.1 (.fieldLink RX12 76 "SilkMillModel" "rel" "[I") (by decide +kernel)) rfl (gv_1225 _ _) dX12_program_202 ?_
                  refine lv_iconst (v := 4) X.1 X.2.1 dX12_program_205 (by decide) ?_
                  refine lv_bipush (v := 12) X.1 X.2.1 dX12_program_206 (by decide) ?_
                  refine lv_iload_n X.1 X.2.1 dX12_program_208 rfl (lv_at hl 4 rfl) ?_
                  refine lv_imul X.1 X.2.1 dX12_program_209 ?_
                  refine lv_topi (fun v_177 ev_177 => ?_)
                  have z_178 : v_177.toInt = 12 * a1_z := z_mul ev_177 ti_12 hz_a1 (by omega) (by omega)
                  refine lv_iload_n X.1 X.2.1 dX12_program_210 rfl (lv_at hl 1 rfl) ?_
                  refine lv_iadd X.1 X.2.1 dX12_program_211 ?_
                  refine lv_topi (fun v_179 ev_179 => ?_)
                  have z_180 : v_179.toInt = (12 * a1_z) + i3_75_z := z_add ev_179 z_178 hz_i3_75 (by omega) (by omega)
                  refine lv_imul X.1 X.2.1 dX12_program_212 ?_
                  refine lv_topi (fun v_181 ev_181 => ?_)
                  have z_182 : v_181.toInt = 4 * ((12 * a1_z) + i3_75_z) := z_mul ev_181 ti_4 z_180 (by omega) (by omega)
                  refine lv_iload X.1 X.2.1 dX12_program_213 (lv_at hl 0 rfl) ?_
                  refine lv_iadd X.1 X.2.1 dX12_program_215 ?_
                  refine lv_topi (fun v_183 ev_183 => ?_)
                  have z_184 : v_183.toInt = (4 * ((12 * a1_z) + i3_75_z)) + i4_138_z := z_add ev_183 z_182 hz_i4_138 (by omega) (by omega)
                  refine lv_aload_n X.1 X.2.1 dX12_program_216 rfl (lv_at hl 3 rfl) ?_
                  refine r_getR (g := 1225) X hw t_172 rfl 25 h_174 (by decide) rfl inn_X12_program_12 (by decide) (X.2.2.2.1 (.fieldLink RX12 76 "SilkMillModel" "rel" "[I") (by decide +kernel)) rfl (gv_1225 _ _) dX12_program_217 ?_
                  refine lv_iconst (v := 4) X.1 X.2.1 dX12_program_220 (by decide) ?_
                  refine lv_bipush (v := 48) X.1 X.2.1 dX12_program_221 (by decide) ?_
                  refine lv_iload_n X.1 X.2.1 dX12_program_223 rfl (lv_at hl 1 rfl) ?_
                  refine lv_iadd X.1 X.2.1 dX12_program_224 ?_
                  refine lv_topi (fun v_185 ev_185 => ?_)
                  have z_186 : v_185.toInt = 48 + i3_75_z := z_add ev_185 ti_48 hz_i3_75 (by omega) (by omega)
                  refine lv_imul X.1 X.2.1 dX12_program_225 ?_
                  refine lv_topi (fun v_187 ev_187 => ?_)
                  have z_188 : v_187.toInt = 4 * (48 + i3_75_z) := z_mul ev_187 ti_4 z_186 (by omega) (by omega)
                  refine lv_iload X.1 X.2.1 dX12_program_226 (lv_at hl 0 rfl) ?_
                  refine lv_iadd X.1 X.2.1 dX12_program_228 ?_
                  refine lv_topi (fun v_189 ev_189 => ?_)
                  have z_190 : v_189.toInt = (4 * (48 + i3_75_z)) + i4_138_z := z_add ev_189 z_188 hz_i4_138 (by omega) (by omega)
                  refine r_iald X hw h_175 rfl (by rw [h_176]; exact z_ix z_190 (by omega) (by omega)) dX12_program_229 ?_
                  refine lv_topi (fun v_191 ev_191 => ?_)
                  have rg_192 := And.intro (z_lo v_191) (z_hi v_191)
                  have ev_191 := ev_191.symm
                  refine r_iast X hw h_175 rfl (by rw [h_176]; exact z_ix z_184 (by omega) (by omega)) dX12_program_230 (fun H locs hw => ?_)
                  obtain ⟨S_193, eS_193⟩ : ∃ T, T = sA S_169 q_173 (upd (pA S_169 q_173) (Int32.toNatClampNeg (v_183)) (v_191)) := ⟨_, rfl⟩
                  rw [← eS_193] at hw
                  have hO_194 : Ok MT S S_193 := hO_170.sA eS_193 h_175 (by decide +kernel) (uA_714 hO_170.1 h_175)
                  have h_195 : pA S_193 q_173 (Int32.toNatClampNeg (v_183)) = v_191 := tA_sAs eS_193
                  refine lv_aload_n X.1 X.2.1 dX12_program_231 rfl (lv_at hl 3 rfl) ?_
                  have t_196 : At S_193 x 12 := tAt_sA eS_193 t_172
                  obtain ⟨q_197, h_198, h_199, h_200⟩ := gQ_12_1226 hO_194.1 t_196
                  refine r_getR (g := 1226) X hw t_196 rfl 26 h_198 (by decide) rfl inn_X12_program_12 (by decide) (X.2.2.2.1 (.fieldLink RX12 79 "SilkMillModel" "than" "[I") (by decide +kernel)) rfl (gv_1226 _ _) dX12_program_232 ?_
                  refine lv_iconst (v := 4) X.1 X.2.1 dX12_program_235 (by decide) ?_
                  refine lv_bipush (v := 12) X.1 X.2.1 dX12_program_236 (by decide) ?_
                  refine lv_iload_n X.1 X.2.1 dX12_program_238 rfl (lv_at hl 4 rfl) ?_
                  refine lv_imul X.1 X.2.1 dX12_program_239 ?_
                  refine lv_topi (fun v_201 ev_201 => ?_)
                  have z_202 : v_201.toInt = 12 * a1_z := z_mul ev_201 ti_12 hz_a1 (by omega) (by omega)
                  refine lv_iload_n X.1 X.2.1 dX12_program_240 rfl (lv_at hl 1 rfl) ?_
                  refine lv_iadd X.1 X.2.1 dX12_program_241 ?_
                  refine lv_topi (fun v_203 ev_203 => ?_)
                  have z_204 : v_203.toInt = (12 * a1_z) + i3_75_z := z_add ev_203 z_202 hz_i3_75 (by omega) (by omega)
                  refine lv_imul X.1 X.2.1 dX12_program_242 ?_
                  refine lv_topi (fun v_205 ev_205 => ?_)
                  have z_206 : v_205.toInt = 4 * ((12 * a1_z) + i3_75_z) := z_mul ev_205 ti_4 z_204 (by omega) (by omega)
                  refine lv_iload X.1 X.2.1 dX12_program_243 (lv_at hl 0 rfl) ?_
                  refine lv_iadd X.1 X.2.1 dX12_program_245 ?_
                  refine lv_topi (fun v_207 ev_207 => ?_)
                  have z_208 : v_207.toInt = (4 * ((12 * a1_z) + i3_75_z)) + i4_138_z := z_add ev_207 z_206 hz_i4_138 (by omega) (by omega)
                  refine lv_aload_n X.1 X.2.1 dX12_program_246 rfl (lv_at hl 3 rfl) ?_
                  refine r_getR (g := 1226) X hw t_196 rfl 26 h_198 (by decide) rfl inn_X12_program_12 (by decide) (X.2.2.2.1 (.fieldLink RX12 79 "SilkMillModel" "than" "[I") (by decide +kernel)) rfl (gv_1226 _ _) dX12_program_247 ?_
                  refine lv_iconst (v := 4) X.1 X.2.1 dX12_program_250 (by decide) ?_
                  refine lv_bipush (v := 48) X.1 X.2.1 dX12_program_251 (by decide) ?_
                  refine lv_iload_n X.1 X.2.1 dX12_program_253 rfl (lv_at hl 1 rfl) ?_
                  refine lv_iadd X.1 X.2.1 dX12_program_254 ?_
                  refine lv_topi (fun v_209 ev_209 => ?_)
                  have z_210 : v_209.toInt = 48 + i3_75_z := z_add ev_209 ti_48 hz_i3_75 (by omega) (by omega)
                  refine lv_imul X.1 X.2.1 dX12_program_255 ?_
                  refine lv_topi (fun v_211 ev_211 => ?_)
                  have z_212 : v_211.toInt = 4 * (48 + i3_75_z) := z_mul ev_211 ti_4 z_210 (by omega) (by omega)
                  refine lv_iload X.1 X.2.1 dX12_program_256 (lv_at hl 0 rfl) ?_
                  refine lv_iadd X.1 X.2.1 dX12_program_258 ?_
                  refine lv_topi (fun v_213 ev_213 => ?_)
                  have z_214 : v_213.toInt = (4 * (48 + i3_75_z)) + i4_138_z := z_add ev_213 z_212 hz_i4_138 (by omega) (by omega)
                  refine r_iald X hw h_199 rfl (by rw [h_200]; exact z_ix z_214 (by omega) (by omega)) dX12_program_259 ?_
                  refine lv_topi (fun v_215 ev_215 => ?_)
                  have rg_216 := And.intro (z_lo v_215) (z_hi v_215)
                  have ev_215 := ev_215.symm
                  refine r_iast X hw h_199 rfl (by rw [h_200]; exact z_ix z_208 (by omega) (by omega)) dX12_program_260 (fun H locs hw => ?_)
                  obtain ⟨S_217, eS_217⟩ : ∃ T, T = sA S_193 q_197 (upd (pA S_193 q_197) (Int32.toNatClampNeg (v_207)) (v_215)) := ⟨_, rfl⟩
                  rw [← eS_217] at hw
                  have hO_218 : Ok MT S S_217 := hO_194.sA eS_217 h_199 (by decide +kernel) (uA_734 hO_194.1 h_199)
                  have h_219 : pA S_217 q_197 (Int32.toNatClampNeg (v_207)) = v_215 := tA_sAs eS_217
                  obtain ⟨x_220, ex_220⟩ : ∃ y : Int32, y = i4_138 + 1 := ⟨_, rfl⟩
                  have z_221 : x_220.toInt = i4_138_z + 1 := z_add ex_220 hz_i4_138 ti_1 (by omega) (by omega)
                  refine lv_iinc (v := x_220) (lv' := [(4, .int (x_220)), (3, .int (i3_75)), (2, .int (i2_46)), (0, .ref x), (1, .int (a1))]) X.1 X.2.1 dX12_program_261 hl (k := 0) rfl (by rw [ex_220]; rfl) (by decide) rfl (fun ls hl => ?_)
                  refine lv_goto (tgt := 165) X.1 X.2.1 dX12_program_264 (by decide) ?_
                  have t_222 : At S_217 x 12 := tAt_sA eS_217 t_196
                  exact ih_L_137 _ (by omega) _ _ _ _ (x_220) (x_220.toInt) rfl hw rfl (by omega) t_222 hO_218 (lv_sub hl [0, 1, 2, 3, 4] rfl)
              have t_223 : At S_134 x 12 := tAt_sA eS_134 t_121
              exact L_137 _ _ _ _ _ (0) (0) rfl hw ti_0 (by omega) t_223 hO_135 (lv_sub hl [0, 1, 2, 3, 4] rfl)
          have t_224 : At S_71 x 12 := tAt_sA eS_71 t_57
          exact L_74 _ _ _ _ _ (0) (0) rfl hw ti_0 (by omega) t_224 hO_72 (lv_sub hl [0, 1, 2, 3] rfl)
        · have z_b_225 := trivial
          have k_226 : v_58.toInt > 0 := z_nle rfl ti_0 c_62
          refine lv_aload_n X.1 X.2.1 dX12_program_74 rfl (lv_at hl 1 rfl) ?_
          refine r_getI (g := 1230) (x := v_58) X hw t_57 rfl 30 ev_58 (by decide) rfl inn_X12_program_12 (by decide) (X.2.2.2.1 (.fieldLink RX12 229 "SilkMillModel" "faultKind" "I") (by decide +kernel)) rfl (gv_1230 _ _) dX12_program_75 ?_
          refine lv_bipush (v := 10) X.1 X.2.1 dX12_program_78 (by decide) ?_
          refine lv_isub X.1 X.2.1 dX12_program_80 ?_
          refine lv_topi (fun v_227 ev_227 => ?_)
          have z_228 : v_227.toInt = v_58.toInt - 10 := z_sub ev_227 rfl ti_10 (by omega) (by omega)
          rw [hQQ]
          exact ret_i X hw hr hlocks (Nat.le_of_ble_eq_true rfl) (Nat.le_of_ble_eq_true rfl) ⟨hO_55, trivial⟩ dX12_program_81
      · have z_b_229 := trivial
        have k_230 : i2_46_z ≠ 0 := z_ne hz_i2_46 ti_0 c_51
        refine lv_aload_n X.1 X.2.1 dX12_program_47 rfl (lv_at hl 1 rfl) ?_
        obtain ⟨v_231, ev_231⟩ : ∃ v, pI T_47 1231 x = v := ⟨_, rfl⟩
        have rg_233 := And.intro (z_lo v_231) (z_hi v_231)
        have pz_234 : (pI T_47 1231 x).toInt = v_231.toInt := by rw [ev_231]
        refine r_getI (g := 1231) (x := v_231) X hw ha_x_L_48 rfl 31 ev_231 (by decide) rfl inn_X12_program_12 (by decide) (X.2.2.2.1 (.fieldLink RX12 223 "SilkMillModel" "kind" "I") (by decide +kernel)) rfl (gv_1231 _ _) dX12_program_48 ?_
        refine lv_if_eq (tgt := 62) X.1 X.2.1 dX12_program_51 (by decide) (fun c_235 => ?_) (fun c_235 => ?_)
        · have z_b_236 := trivial
          have k_237 : v_231.toInt = 0 := z_eq rfl ti_0 c_235
          refine lv_aload_n X.1 X.2.1 dX12_program_62 rfl (lv_at hl 1 rfl) ?_
          refine lv_iconst (v := 0) X.1 X.2.1 dX12_program_63 (by decide) ?_
          refine r_putI (v := 0) X hw ha_x_L_48 rfl 28 1228 tyX12 (by decide) rfl inn_X12_program_12 tyX12_ok nmX12 (by decide) (X.2.2.2.1 (.fieldLink RX12 211 "SilkMillModel" "taped" "I") (by decide +kernel)) rfl (Or.inl rfl) rfl rfl (Nat.le_of_ble_eq_true rfl) (st_1228 _ _) dX12_program_64 (fun H locs hw => ?_)
          obtain ⟨S_238, eS_238⟩ : ∃ T, T = sI T_47 1228 x (0) := ⟨_, rfl⟩
          rw [← eS_238] at hw
          have hO_239 : Ok MT S S_238 := hO_T_47.sI eS_238 (by decide +kernel) (uI_12_1228 hO_T_47.1 ha_x_L_48 (by rw [ti_0]; omega) (by rw [ti_0]; omega))
          have h_240 : pI S_238 1228 x = 0 := tI_sIs eS_238
          refine lv_aload_n X.1 X.2.1 dX12_program_67 rfl (lv_at hl 1 rfl) ?_
          have t_241 : At S_238 x 12 := tAt_sI eS_238 ha_x_L_48
          obtain ⟨v_242, ev_242⟩ : ∃ v, pI S_238 1230 x = v := ⟨_, rfl⟩
          have rg_244 := And.intro (z_lo v_242) (z_hi v_242)
          have pz_245 : (pI S_238 1230 x).toInt = v_242.toInt := by rw [ev_242]
          refine r_getI (g := 1230) (x := v_242) X hw t_241 rfl 30 ev_242 (by decide) rfl inn_X12_program_12 (by decide) (X.2.2.2.1 (.fieldLink RX12 229 "SilkMillModel" "faultKind" "I") (by decide +kernel)) rfl (gv_1230 _ _) dX12_program_68 ?_
          refine lv_if_le (tgt := 82) X.1 X.2.1 dX12_program_71 (by decide) (fun c_246 => ?_) (fun c_246 => ?_)
          · have z_b_247 := trivial
            have k_248 : v_242.toInt ≤ 0 := z_le rfl ti_0 c_246
            refine lv_aload_n X.1 X.2.1 dX12_program_82 rfl (lv_at hl 1 rfl) ?_
            obtain ⟨q_249, h_250, h_251, h_252⟩ := gQ_12_1220 hO_239.1 t_241
            refine r_getR (g := 1220) X hw t_241 rfl 20 h_250 (by decide) rfl inn_X12_program_12 (by decide) (X.2.2.2.1 (.fieldLink RX12 61 "SilkMillModel" "rules" "[I") (by decide +kernel)) rfl (gv_1220 _ _) dX12_program_83 ?_
            refine lv_iload_n X.1 X.2.1 dX12_program_86 rfl (lv_at hl 2 rfl) ?_
            refine lv_aload_n X.1 X.2.1 dX12_program_87 rfl (lv_at hl 1 rfl) ?_
            refine r_getR (g := 1220) X hw t_241 rfl 20 h_250 (by decide) rfl inn_X12_program_12 (by decide) (X.2.2.2.1 (.fieldLink RX12 61 "SilkMillModel" "rules" "[I") (by decide +kernel)) rfl (gv_1220 _ _) dX12_program_88 ?_
            refine lv_iconst (v := 4) X.1 X.2.1 dX12_program_91 (by decide) ?_
            refine r_iald X hw h_251 rfl (by rw [h_252]; exact z_ix ti_4 (by omega) (by omega)) dX12_program_92 ?_
            refine lv_topi (fun v_253 ev_253 => ?_)
            have z_254 := gE_614 hO_239.1 h_251 (Int32.toNatClampNeg (4)); rw [← ev_253] at z_254
            have ev_253 := ev_253.symm
            refine r_iast X hw h_251 rfl (by rw [h_252]; exact z_ix hz_a1 (by omega) (by omega)) dX12_program_93 (fun H locs hw => ?_)
            obtain ⟨S_255, eS_255⟩ : ∃ T, T = sA S_238 q_249 (upd (pA S_238 q_249) (Int32.toNatClampNeg (a1)) (v_253)) := ⟨_, rfl⟩
            rw [← eS_255] at hw
            have hO_256 : Ok MT S S_255 := hO_239.sA eS_255 h_251 (by decide +kernel) (uA_614 hO_239.1 h_251 (by omega) (by omega))
            have h_257 : pA S_255 q_249 (Int32.toNatClampNeg (a1)) = v_253 := tA_sAs eS_255
            refine lv_iconst (v := 0) X.1 X.2.1 dX12_program_94 (by decide) ?_
            refine lv_istore_n (lv' := [(3, .int 0), (2, .int (i2_46)), (0, .ref x), (1, .int (a1))]) X.1 X.2.1 dX12_program_95 rfl hl (by decide) rfl (fun ls hl => ?_)
            have L_258 : ∀ (n : Nat) (T_260 : PS) (H : Heap) (locs : List Loc) (ls : Array Slot) (i3_259 : Int32) (i3_259_z : Int), ((12 - i3_259_z).toNat = n) → (Wd G cy (AS S s.heap.size) s.heap T_260 H locs) → (i3_259.toInt = i3_259_z) → (0 ≤ i3_259_z ∧ i3_259_z ≤ 12) → (At T_260 x 12) → (Ok MT S T_260) → (lv_has ls 5 [(3, .int (i3_259)), (2, .int (i2_46)), (0, .ref x), (1, .int (a1))]) → W p l e ({ frames := 8, cells := 0, slots := 0, locals := 384 }) s m [.ref x, .int (a1)].toArray below meth c H locs 0 0 QQ (F0 m 96 ls []) := by
              intro n
              induction n using Nat.strongRecOn with
              | ind n ih_L_258 =>
              intro T_260 H locs ls i3_259 i3_259_z hn hw hz_i3_259 hr_i3_259 ha_x_L_261 hO_T_260 hl
              have rg_262 : (-2147483648) ≤ i3_259_z ∧ i3_259_z ≤ 2147483647 := by rw [← hz_i3_259]; exact ⟨z_lo _, z_hi _⟩
              refine lv_iload_n X.1 X.2.1 dX12_program_96 rfl (lv_at hl 0 rfl) ?_
              refine lv_bipush (v := 12) X.1 X.2.1 dX12_program_97 (by decide) ?_
              refine lv_icmp_ge (tgt := 273) X.1 X.2.1 dX12_program_99 (by decide) (fun c_263 => ?_) (fun c_263 => ?_)
              · have z_b_264 := trivial
                have k_265 : i3_259_z ≥ 12 := z_le ti_12 hz_i3_259 c_263
                refine lv_aload_n X.1 X.2.1 dX12_program_273 rfl (lv_at hl 2 rfl) ?_
                obtain ⟨q_266, h_267, h_268, h_269⟩ := gQ_12_1220 hO_T_260.1 ha_x_L_261
                refine r_getR (g := 1220) X hw ha_x_L_261 rfl 20 h_267 (by decide) rfl inn_X12_program_12 (by decide) (X.2.2.2.1 (.fieldLink RX12 61 "SilkMillModel" "rules" "[I") (by decide +kernel)) rfl (gv_1220 _ _) dX12_program_274 ?_
                refine lv_iload_n X.1 X.2.1 dX12_program_277 rfl (lv_at hl 3 rfl) ?_
                refine r_iald X hw h_268 rfl (by rw [h_269]; exact z_ix hz_a1 (by omega) (by omega)) dX12_program_278 ?_
                refine lv_topi (fun v_270 ev_270 => ?_)
                have z_271 := gE_614 hO_T_260.1 h_268 (Int32.toNatClampNeg (a1)); rw [← ev_270] at z_271
                have ev_270 := ev_270.symm
                rw [hQQ]
                exact ret_i X hw hr hlocks (Nat.le_of_ble_eq_true rfl) (Nat.le_of_ble_eq_true rfl) ⟨hO_T_260, trivial⟩ dX12_program_279
              · have z_b_272 := trivial
                have k_273 : i3_259_z < 12 := z_nle ti_12 hz_i3_259 c_263
                refine lv_aload_n X.1 X.2.1 dX12_program_102 rfl (lv_at hl 2 rfl) ?_
                obtain ⟨q_274, h_275, h_276, h_277⟩ := gQ_12_1221 hO_T_260.1 ha_x_L_261
                refine r_getR (g := 1221) X hw ha_x_L_261 rfl 21 h_275 (by decide) rfl inn_X12_program_12 (by decide) (X.2.2.2.1 (.fieldLink RX12 64 "SilkMillModel" "act" "[I") (by decide +kernel)) rfl (gv_1221 _ _) dX12_program_103 ?_
                refine lv_bipush (v := 12) X.1 X.2.1 dX12_program_106 (by decide) ?_
                refine lv_iload_n X.1 X.2.1 dX12_program_108 rfl (lv_at hl 3 rfl) ?_
                refine lv_imul X.1 X.2.1 dX12_program_109 ?_
                refine lv_topi (fun v_278 ev_278 => ?_)
                have z_279 : v_278.toInt = 12 * a1_z := z_mul ev_278 ti_12 hz_a1 (by omega) (by omega)
                refine lv_iload_n X.1 X.2.1 dX12_program_110 rfl (lv_at hl 0 rfl) ?_
                refine lv_iadd X.1 X.2.1 dX12_program_111 ?_
                refine lv_topi (fun v_280 ev_280 => ?_)
                have z_281 : v_280.toInt = (12 * a1_z) + i3_259_z := z_add ev_280 z_279 hz_i3_259 (by omega) (by omega)
                refine lv_aload_n X.1 X.2.1 dX12_program_112 rfl (lv_at hl 2 rfl) ?_
                refine r_getR (g := 1221) X hw ha_x_L_261 rfl 21 h_275 (by decide) rfl inn_X12_program_12 (by decide) (X.2.2.2.1 (.fieldLink RX12 64 "SilkMillModel" "act" "[I") (by decide +kernel)) rfl (gv_1221 _ _) dX12_program_113 ?_
                refine lv_bipush (v := 48) X.1 X.2.1 dX12_program_116 (by decide) ?_
                refine lv_iload_n X.1 X.2.1 dX12_program_118 rfl (lv_at hl 0 rfl) ?_
                refine lv_iadd X.1 X.2.1 dX12_program_119 ?_
                refine lv_topi (fun v_282 ev_282 => ?_)
                have z_283 : v_282.toInt = 48 + i3_259_z := z_add ev_282 ti_48 hz_i3_259 (by omega) (by omega)
                refine r_iald X hw h_276 rfl (by rw [h_277]; exact z_ix z_283 (by omega) (by omega)) dX12_program_120 ?_
                refine lv_topi (fun v_284 ev_284 => ?_)
                have rg_285 := And.intro (z_lo v_284) (z_hi v_284)
                have ev_284 := ev_284.symm
                refine r_iast X hw h_276 rfl (by rw [h_277]; exact z_ix z_281 (by omega) (by omega)) dX12_program_121 (fun H locs hw => ?_)
                obtain ⟨S_286, eS_286⟩ : ∃ T, T = sA T_260 q_274 (upd (pA T_260 q_274) (Int32.toNatClampNeg (v_280)) (v_284)) := ⟨_, rfl⟩
                rw [← eS_286] at hw
                have hO_287 : Ok MT S S_286 := hO_T_260.sA eS_286 h_276 (by decide +kernel) (uA_634 hO_T_260.1 h_276)
                have h_288 : pA S_286 q_274 (Int32.toNatClampNeg (v_280)) = v_284 := tA_sAs eS_286
                refine lv_aload_n X.1 X.2.1 dX12_program_122 rfl (lv_at hl 2 rfl) ?_
                have t_289 : At S_286 x 12 := tAt_sA eS_286 ha_x_L_261
                obtain ⟨q_290, h_291, h_292, h_293⟩ := gQ_12_1222 hO_287.1 t_289
                refine r_getR (g := 1222) X hw t_289 rfl 22 h_291 (by decide) rfl inn_X12_program_12 (by decide) (X.2.2.2.1 (.fieldLink RX12 67 "SilkMillModel" "actNumber" "[I") (by decide +kernel)) rfl (gv_1222 _ _) dX12_program_123 ?_
                refine lv_bipush (v := 12) X.1 X.2.1 dX12_program_126 (by decide) ?_
                refine lv_iload_n X.1 X.2.1 dX12_program_128 rfl (lv_at hl 3 rfl) ?_
                refine lv_imul X.1 X.2.1 dX12_program_129 ?_
                refine lv_topi (fun v_294 ev_294 => ?_)
                have z_295 : v_294.toInt = 12 * a1_z := z_mul ev_294 ti_12 hz_a1 (by omega) (by omega)
                refine lv_iload_n X.1 X.2.1 dX12_program_130 rfl (lv_at hl 0 rfl) ?_
                refine lv_iadd X.1 X.2.1 dX12_program_131 ?_
                refine lv_topi (fun v_296 ev_296 => ?_)
                have z_297 : v_296.toInt = (12 * a1_z) + i3_259_z := z_add ev_296 z_295 hz_i3_259 (by omega) (by omega)
                refine lv_aload_n X.1 X.2.1 dX12_program_132 rfl (lv_at hl 2 rfl) ?_
                refine r_getR (g := 1222) X hw t_289 rfl 22 h_291 (by decide) rfl inn_X12_program_12 (by decide) (X.2.2.2.1 (.fieldLink RX12 67 "SilkMillModel" "actNumber" "[I") (by decide +kernel)) rfl (gv_1222 _ _) dX12_program_133 ?_
                refine lv_bipush (v := 48) X.1 X.2.1 dX12_program_136 (by decide) ?_
                refine lv_iload_n X.1 X.2.1 dX12_program_138 rfl (lv_at hl 0 rfl) ?_
                refine lv_iadd X.1 X.2.1 dX12_program_139 ?_
                refine lv_topi (fun v_298 ev_298 => ?_)
                have z_299 : v_298.toInt = 48 + i3_259_z := z_add ev_298 ti_48 hz_i3_259 (by omega) (by omega)
                refine r_iald X hw h_292 rfl (by rw [h_293]; exact z_ix z_299 (by omega) (by omega)) dX12_program_140 ?_
                refine lv_topi (fun v_300 ev_300 => ?_)
                have rg_301 := And.intro (z_lo v_300) (z_hi v_300)
                have ev_300 := ev_300.symm
                refine r_iast X hw h_292 rfl (by rw [h_293]; exact z_ix z_297 (by omega) (by omega)) dX12_program_141 (fun H locs hw => ?_)
                obtain ⟨S_302, eS_302⟩ : ∃ T, T = sA S_286 q_290 (upd (pA S_286 q_290) (Int32.toNatClampNeg (v_296)) (v_300)) := ⟨_, rfl⟩
                rw [← eS_302] at hw
                have hO_303 : Ok MT S S_302 := hO_287.sA eS_302 h_292 (by decide +kernel) (uA_654 hO_287.1 h_292)
                have h_304 : pA S_302 q_290 (Int32.toNatClampNeg (v_296)) = v_300 := tA_sAs eS_302
                refine lv_aload_n X.1 X.2.1 dX12_program_142 rfl (lv_at hl 2 rfl) ?_
                have t_305 : At S_302 x 12 := tAt_sA eS_302 t_289
                obtain ⟨q_306, h_307, h_308, h_309⟩ := gQ_12_1223 hO_303.1 t_305
                refine r_getR (g := 1223) X hw t_305 rfl 23 h_307 (by decide) rfl inn_X12_program_12 (by decide) (X.2.2.2.1 (.fieldLink RX12 70 "SilkMillModel" "conditions" "[I") (by decide +kernel)) rfl (gv_1223 _ _) dX12_program_143 ?_
                refine lv_bipush (v := 12) X.1 X.2.1 dX12_program_146 (by decide) ?_
                refine lv_iload_n X.1 X.2.1 dX12_program_148 rfl (lv_at hl 3 rfl) ?_
                refine lv_imul X.1 X.2.1 dX12_program_149 ?_
                refine lv_topi (fun v_310 ev_310 => ?_)
                have z_311 : v_310.toInt = 12 * a1_z := z_mul ev_310 ti_12 hz_a1 (by omega) (by omega)
                refine lv_iload_n X.1 X.2.1 dX12_program_150 rfl (lv_at hl 0 rfl) ?_
                refine lv_iadd X.1 X.2.1 dX12_program_151 ?_
                refine lv_topi (fun v_312 ev_312 => ?_)
                have z_313 : v_312.toInt = (12 * a1_z) + i3_259_z := z_add ev_312 z_311 hz_i3_259 (by omega) (by omega)
                refine lv_aload_n X.1 X.2.1 dX12_program_152 rfl (lv_at hl 2 rfl) ?_
                refine r_getR (g := 1223) X hw t_305 rfl 23 h_307 (by decide) rfl inn_X12_program_12 (by decide) (X.2.2.2.1 (.fieldLink RX12 70 "SilkMillModel" "conditions" "[I") (by decide +kernel)) rfl (gv_1223 _ _) dX12_program_153 ?_
                refine lv_bipush (v := 48) X.1 X.2.1 dX12_program_156 (by decide) ?_
                refine lv_iload_n X.1 X.2.1 dX12_program_158 rfl (lv_at hl 0 rfl) ?_
                refine lv_iadd X.1 X.2.1 dX12_program_159 ?_
                refine lv_topi (fun v_314 ev_314 => ?_)
                have z_315 : v_314.toInt = 48 + i3_259_z := z_add ev_314 ti_48 hz_i3_259 (by omega) (by omega)
                refine r_iald X hw h_308 rfl (by rw [h_309]; exact z_ix z_315 (by omega) (by omega)) dX12_program_160 ?_
                refine lv_topi (fun v_316 ev_316 => ?_)
                have z_317 := gE_674 hO_303.1 h_308 (Int32.toNatClampNeg (v_314)); rw [← ev_316] at z_317
                have ev_316 := ev_316.symm
                refine r_iast X hw h_308 rfl (by rw [h_309]; exact z_ix z_313 (by omega) (by omega)) dX12_program_161 (fun H locs hw => ?_)
                obtain ⟨S_318, eS_318⟩ : ∃ T, T = sA S_302 q_306 (upd (pA S_302 q_306) (Int32.toNatClampNeg (v_312)) (v_316)) := ⟨_, rfl⟩
                rw [← eS_318] at hw
                have hO_319 : Ok MT S S_318 := hO_303.sA eS_318 h_308 (by decide +kernel) (uA_674 hO_303.1 h_308 (by omega) (by omega))
                have h_320 : pA S_318 q_306 (Int32.toNatClampNeg (v_312)) = v_316 := tA_sAs eS_318
                refine lv_iconst (v := 0) X.1 X.2.1 dX12_program_162 (by decide) ?_
                refine lv_istore (lv' := [(4, .int 0), (3, .int (i3_259)), (2, .int (i2_46)), (0, .ref x), (1, .int (a1))]) X.1 X.2.1 dX12_program_163 hl (by decide) rfl (fun ls hl => ?_)
                have L_321 : ∀ (n : Nat) (T_323 : PS) (H : Heap) (locs : List Loc) (ls : Array Slot) (i4_322 : Int32) (i4_322_z : Int), ((4 - i4_322_z).toNat = n) → (Wd G cy (AS S s.heap.size) s.heap T_323 H locs) → (i4_322.toInt = i4_322_z) → (0 ≤ i4_322_z ∧ i4_322_z ≤ 4) → (At T_323 x 12) → (Ok MT S T_323) → (lv_has ls 5 [(4, .int (i4_322)), (3, .int (i3_259)), (2, .int (i2_46)), (0, .ref x), (1, .int (a1))]) → W p l e ({ frames := 8, cells := 0, slots := 0, locals := 384 }) s m [.ref x, .int (a1)].toArray below meth c H locs 0 0 QQ (F0 m 165 ls []) := by
                  intro n
                  induction n using Nat.strongRecOn with
                  | ind n ih_L_321 =>
                  intro T_323 H locs ls i4_322 i4_322_z hn hw hz_i4_322 hr_i4_322 ha_x_L_324 hO_T_323 hl
                  have rg_325 : (-2147483648) ≤ i4_322_z ∧ i4_322_z ≤ 2147483647 := by rw [← hz_i4_322]; exact ⟨z_lo _, z_hi _⟩
                  refine lv_iload X.1 X.2.1 dX12_program_165 (lv_at hl 0 rfl) ?_
                  refine lv_iconst (v := 4) X.1 X.2.1 dX12_program_167 (by decide) ?_
                  refine lv_icmp_ge (tgt := 267) X.1 X.2.1 dX12_program_168 (by decide) (fun c_326 => ?_) (fun c_326 => ?_)
                  · have z_b_327 := trivial
                    have k_328 : i4_322_z ≥ 4 := z_le ti_4 hz_i4_322 c_326
                    obtain ⟨x_329, ex_329⟩ : ∃ y : Int32, y = i3_259 + 1 := ⟨_, rfl⟩
                    have z_330 : x_329.toInt = i3_259_z + 1 := z_add ex_329 hz_i3_259 ti_1 (by omega) (by omega)
                    refine lv_iinc (v := x_329) (lv' := [(3, .int (x_329)), (4, .int (i4_322)), (2, .int (i2_46)), (0, .ref x), (1, .int (a1))]) X.1 X.2.1 dX12_program_267 hl (k := 1) rfl (by rw [ex_329]; rfl) (by decide) rfl (fun ls hl => ?_)
                    refine lv_goto (tgt := 96) X.1 X.2.1 dX12_program_270 (by decide) ?_
                    exact ih_L_258 _ (by omega) _ _ _ _ (x_329) (x_329.toInt) rfl hw rfl (by omega) ha_x_L_324 hO_T_323 (lv_sub hl [0, 2, 3, 4] rfl)
                  · have z_b_331 := trivial
                    have k_332 : i4_322_z < 4 := z_nle ti_4 hz_i4_322 c_326
                    refine lv_aload_n X.1 X.2.1 dX12_program_171 rfl (lv_at hl 3 rfl) ?_
                    obtain ⟨q_333, h_334, h_335, h_336⟩ := gQ_12_1224 hO_T_323.1 ha_x_L_324
                    refine r_getR (g := 1224) X hw ha_x_L_324 rfl 24 h_334 (by decide) rfl inn_X12_program_12 (by decide) (X.2.2.2.1 (.fieldLink RX12 73 "SilkMillModel" "field" "[I") (by decide +kernel)) rfl (gv_1224 _ _) dX12_program_172 ?_
                    refine lv_iconst (v := 4) X.1 X.2.1 dX12_program_175 (by decide) ?_
                    refine lv_bipush (v := 12) X.1 X.2.1 dX12_program_176 (by decide) ?_
                    refine lv_iload_n X.1 X.2.1 dX12_program_178 rfl (lv_at hl 4 rfl) ?_
                    refine lv_imul X.1 X.2.1 dX12_program_179 ?_
                    refine lv_topi (fun v_337 ev_337 => ?_)
                    have z_338 : v_337.toInt = 12 * a1_z := z_mul ev_337 ti_12 hz_a1 (by omega) (by omega)
                    refine lv_iload_n X.1 X.2.1 dX12_program_180 rfl (lv_at hl 1 rfl) ?_
                    refine lv_iadd X.1 X.2.1 dX12_program_181 ?_
                    refine lv_topi (fun v_339 ev_339 => ?_)
                    have z_340 : v_339.toInt = (12 * a1_z) + i3_259_z := z_add ev_339 z_338 hz_i3_259 (by omega) (by omega)
                    refine lv_imul X.1 X.2.1 dX12_program_182 ?_
                    refine lv_topi (fun v_341 ev_341 => ?_)
                    have z_342 : v_341.toInt = 4 * ((12 * a1_z) + i3_259_z) := z_mul ev_341 ti_4 z_340 (by omega) (by omega)
                    refine lv_iload X.1 X.2.1 dX12_program_183 (lv_at hl 0 rfl) ?_
                    refine lv_iadd X.1 X.2.1 dX12_program_185 ?_
                    refine lv_topi (fun v_343 ev_343 => ?_)
                    have z_344 : v_343.toInt = (4 * ((12 * a1_z) + i3_259_z)) + i4_322_z := z_add ev_343 z_342 hz_i4_322 (by omega) (by omega)
                    refine lv_aload_n X.1 X.2.1 dX12_program_186 rfl (lv_at hl 3 rfl) ?_
                    refine r_getR (g := 1224) X hw ha_x_L_324 rfl 24 h_334 (by decide) rfl inn_X12_program_12 (by decide) (X.2.2.2.1 (.fieldLink RX12 73 "SilkMillModel" "field" "[I") (by decide +kernel)) rfl (gv_1224 _ _) dX12_program_187 ?_
                    refine lv_iconst (v := 4) X.1 X.2.1 dX12_program_190 (by decide) ?_
                    refine lv_bipush (v := 48) X.1 X.2.1 dX12_program_191 (by decide) ?_
                    refine lv_iload_n X.1 X.2.1 dX12_program_193 rfl (lv_at hl 1 rfl) ?_
                    refine lv_iadd X.1 X.2.1 dX12_program_194 ?_
                    refine lv_topi (fun v_345 ev_345 => ?_)
                    have z_346 : v_345.toInt = 48 + i3_259_z := z_add ev_345 ti_48 hz_i3_259 (by omega) (by omega)
                    refine lv_imul X.1 X.2.1 dX12_program_195 ?_
                    refine lv_topi (fun v_347 ev_347 => ?_)
                    have z_348 : v_347.toInt = 4 * (48 + i3_259_z) := z_mul ev_347 ti_4 z_346 (by omega) (by omega)
                    refine lv_iload X.1 X.2.1 dX12_program_196 (lv_at hl 0 rfl) ?_
                    refine lv_iadd X.1 X.2.1 dX12_program_198 ?_
                    refine lv_topi (fun v_349 ev_349 => ?_)
                    have z_350 : v_349.toInt = (4 * (48 + i3_259_z)) + i4_322_z := z_add ev_349 z_348 hz_i4_322 (by omega) (by omega)
                    refine r_iald X hw h_335 rfl (by rw [h_336]; exact z_ix z_350 (by omega) (by omega)) dX12_program_199 ?_
                    refine lv_topi (fun v_351 ev_351 => ?_)
                    have rg_352 := And.intro (z_lo v_351) (z_hi v_351)
                    have ev_351 := ev_351.symm
                    refine r_iast X hw h_335 rfl (by rw [h_336]; exact z_ix z_344 (by omega) (by omega)) dX12_program_200 (fun H locs hw => ?_)
                    obtain ⟨S_353, eS_353⟩ : ∃ T, T = sA T_323 q_333 (upd (pA T_323 q_333) (Int32.toNatClampNeg (v_343)) (v_351)) := ⟨_, rfl⟩
                    rw [← eS_353] at hw
                    have hO_354 : Ok MT S S_353 := hO_T_323.sA eS_353 h_335 (by decide +kernel) (uA_694 hO_T_323.1 h_335)
                    have h_355 : pA S_353 q_333 (Int32.toNatClampNeg (v_343)) = v_351 := tA_sAs eS_353
                    refine lv_aload_n X.1 X.2.1 dX12_program_201 rfl (lv_at hl 3 rfl) ?_
                    have t_356 : At S_353 x 12 := tAt_sA eS_353 ha_x_L_324
                    obtain ⟨q_357, h_358, h_359, h_360⟩ := gQ_12_1225 hO_354.1 t_356
                    refine r_getR (g := 1225) X hw t_356 rfl 25 h_358 (by decide) rfl inn_X12_program_12 (by decide) (X.2.2.2.1 (.fieldLink RX12 76 "SilkMillModel" "rel" "[I") (by decide +kernel)) rfl (gv_1225 _ _) dX12_program_202 ?_
                    refine lv_iconst (v := 4) X.1 X.2.1 dX12_program_205 (by decide) ?_
                    refine lv_bipush (v := 12) X.1 X.2.1 dX12_program_206 (by decide) ?_
                    refine lv_iload_n X.1 X.2.1 dX12_program_208 rfl (lv_at hl 4 rfl) ?_
                    refine lv_imul X.1 X.2.1 dX12_program_209 ?_
                    refine lv_topi (fun v_361 ev_361 => ?_)
                    have z_362 : v_361.toInt = 12 * a1_z := z_mul ev_361 ti_12 hz_a1 (by omega) (by omega)
                    refine lv_iload_n X.1 X.2.1 dX12_program_210 rfl (lv_at hl 1 rfl) ?_
                    refine lv_iadd X.1 X.2.1 dX12_program_211 ?_
                    refine lv_topi (fun v_363 ev_363 => ?_)
                    have z_364 : v_363.toInt = (12 * a1_z) + i3_259_z := z_add ev_363 z_362 hz_i3_259 (by omega) (by omega)
                    refine lv_imul X.1 X.2.1 dX12_program_212 ?_
                    refine lv_topi (fun v_365 ev_365 => ?_)
                    have z_366 : v_365.toInt = 4 * ((12 * a1_z) + i3_259_z) := z_mul ev_365 ti_4 z_364 (by omega) (by omega)
                    refine lv_iload X.1 X.2.1 dX12_program_213 (lv_at hl 0 rfl) ?_
                    refine lv_iadd X.1 X.2.1 dX12_program_215 ?_
                    refine lv_topi (fun v_367 ev_367 => ?_)
                    have z_368 : v_367.toInt = (4 * ((12 * a1_z) + i3_259_z)) + i4_322_z := z_add ev_367 z_366 hz_i4_322 (by omega) (by omega)
                    refine lv_aload_n X.1 X.2.1 dX12_program_216 rfl (lv_at hl 3 rfl) ?_
                    refine r_getR (g := 1225) X hw t_356 rfl 25 h_358 (by decide) rfl inn_X12_program_12 (by decide) (X.2.2.2.1 (.fieldLink RX12 76 "SilkMillModel" "rel" "[I") (by decide +kernel)) rfl (gv_1225 _ _) dX12_program_217 ?_
                    refine lv_iconst (v := 4) X.1 X.2.1 dX12_program_220 (by decide) ?_
                    refine lv_bipush (v := 48) X.1 X.2.1 dX12_program_221 (by decide) ?_
                    refine lv_iload_n X.1 X.2.1 dX12_program_223 rfl (lv_at hl 1 rfl) ?_
                    refine lv_iadd X.1 X.2.1 dX12_program_224 ?_
                    refine lv_topi (fun v_369 ev_369 => ?_)
                    have z_370 : v_369.toInt = 48 + i3_259_z := z_add ev_369 ti_48 hz_i3_259 (by omega) (by omega)
                    refine lv_imul X.1 X.2.1 dX12_program_225 ?_
                    refine lv_topi (fun v_371 ev_371 => ?_)
                    have z_372 : v_371.toInt = 4 * (48 + i3_259_z) := z_mul ev_371 ti_4 z_370 (by omega) (by omega)
                    refine lv_iload X.1 X.2.1 dX12_program_226 (lv_at hl 0 rfl) ?_
                    refine lv_iadd X.1 X.2.1 dX12_program_228 ?_
                    refine lv_topi (fun v_373 ev_373 => ?_)
                    have z_374 : v_373.toInt = (4 * (48 + i3_259_z)) + i4_322_z := z_add ev_373 z_372 hz_i4_322 (by omega) (by omega)
                    refine r_iald X hw h_359 rfl (by rw [h_360]; exact z_ix z_374 (by omega) (by omega)) dX12_program_229 ?_
                    refine lv_topi (fun v_375 ev_375 => ?_)
                    have rg_376 := And.intro (z_lo v_375) (z_hi v_375)
                    have ev_375 := ev_375.symm
                    refine r_iast X hw h_359 rfl (by rw [h_360]; exact z_ix z_368 (by omega) (by omega)) dX12_program_230 (fun H locs hw => ?_)
                    obtain ⟨S_377, eS_377⟩ : ∃ T, T = sA S_353 q_357 (upd (pA S_353 q_357) (Int32.toNatClampNeg (v_367)) (v_375)) := ⟨_, rfl⟩
                    rw [← eS_377] at hw
                    have hO_378 : Ok MT S S_377 := hO_354.sA eS_377 h_359 (by decide +kernel) (uA_714 hO_354.1 h_359)
                    have h_379 : pA S_377 q_357 (Int32.toNatClampNeg (v_367)) = v_375 := tA_sAs eS_377
                    refine lv_aload_n X.1 X.2.1 dX12_program_231 rfl (lv_at hl 3 rfl) ?_
                    have t_380 : At S_377 x 12 := tAt_sA eS_377 t_356
                    obtain ⟨q_381, h_382, h_383, h_384⟩ := gQ_12_1226 hO_378.1 t_380
                    refine r_getR (g := 1226) X hw t_380 rfl 26 h_382 (by decide) rfl inn_X12_program_12 (by decide) (X.2.2.2.1 (.fieldLink RX12 79 "SilkMillModel" "than" "[I") (by decide +kernel)) rfl (gv_1226 _ _) dX12_program_232 ?_
                    refine lv_iconst (v := 4) X.1 X.2.1 dX12_program_235 (by decide) ?_
                    refine lv_bipush (v := 12) X.1 X.2.1 dX12_program_236 (by decide) ?_
                    refine lv_iload_n X.1 X.2.1 dX12_program_238 rfl (lv_at hl 4 rfl) ?_
                    refine lv_imul X.1 X.2.1 dX12_program_239 ?_
                    refine lv_topi (fun v_385 ev_385 => ?_)
                    have z_386 : v_385.toInt = 12 * a1_z := z_mul ev_385 ti_12 hz_a1 (by omega) (by omega)
                    refine lv_iload_n X.1 X.2.1 dX12_program_240 rfl (lv_at hl 1 rfl) ?_
                    refine lv_iadd X.1 X.2.1 dX12_program_241 ?_
                    refine lv_topi (fun v_387 ev_387 => ?_)
                    have z_388 : v_387.toInt = (12 * a1_z) + i3_259_z := z_add ev_387 z_386 hz_i3_259 (by omega) (by omega)
                    refine lv_imul X.1 X.2.1 dX12_program_242 ?_
                    refine lv_topi (fun v_389 ev_389 => ?_)
                    have z_390 : v_389.toInt = 4 * ((12 * a1_z) + i3_259_z) := z_mul ev_389 ti_4 z_388 (by omega) (by omega)
                    refine lv_iload X.1 X.2.1 dX12_program_243 (lv_at hl 0 rfl) ?_
                    refine lv_iadd X.1 X.2.1 dX12_program_245 ?_
                    refine lv_topi (fun v_391 ev_391 => ?_)
                    have z_392 : v_391.toInt = (4 * ((12 * a1_z) + i3_259_z)) + i4_322_z := z_add ev_391 z_390 hz_i4_322 (by omega) (by omega)
                    refine lv_aload_n X.1 X.2.1 dX12_program_246 rfl (lv_at hl 3 rfl) ?_
                    refine r_getR (g := 1226) X hw t_380 rfl 26 h_382 (by decide) rfl inn_X12_program_12 (by decide) (X.2.2.2.1 (.fieldLink RX12 79 "SilkMillModel" "than" "[I") (by decide +kernel)) rfl (gv_1226 _ _) dX12_program_247 ?_
                    refine lv_iconst (v := 4) X.1 X.2.1 dX12_program_250 (by decide) ?_
                    refine lv_bipush (v := 48) X.1 X.2.1 dX12_program_251 (by decide) ?_
                    refine lv_iload_n X.1 X.2.1 dX12_program_253 rfl (lv_at hl 1 rfl) ?_
                    refine lv_iadd X.1 X.2.1 dX12_program_254 ?_
                    refine lv_topi (fun v_393 ev_393 => ?_)
                    have z_394 : v_393.toInt = 48 + i3_259_z := z_add ev_393 ti_48 hz_i3_259 (by omega) (by omega)
                    refine lv_imul X.1 X.2.1 dX12_program_255 ?_
                    refine lv_topi (fun v_395 ev_395 => ?_)
                    have z_396 : v_395.toInt = 4 * (48 + i3_259_z) := z_mul ev_395 ti_4 z_394 (by omega) (by omega)
                    refine lv_iload X.1 X.2.1 dX12_program_256 (lv_at hl 0 rfl) ?_
                    refine lv_iadd X.1 X.2.1 dX12_program_258 ?_
                    refine lv_topi (fun v_397 ev_397 => ?_)
                    have z_398 : v_397.toInt = (4 * (48 + i3_259_z)) + i4_322_z := z_add ev_397 z_396 hz_i4_322 (by omega) (by omega)
                    refine r_iald X hw h_383 rfl (by rw [h_384]; exact z_ix z_398 (by omega) (by omega)) dX12_program_259 ?_
                    refine lv_topi (fun v_399 ev_399 => ?_)
                    have rg_400 := And.intro (z_lo v_399) (z_hi v_399)
                    have ev_399 := ev_399.symm
                    refine r_iast X hw h_383 rfl (by rw [h_384]; exact z_ix z_392 (by omega) (by omega)) dX12_program_260 (fun H locs hw => ?_)
                    obtain ⟨S_401, eS_401⟩ : ∃ T, T = sA S_377 q_381 (upd (pA S_377 q_381) (Int32.toNatClampNeg (v_391)) (v_399)) := ⟨_, rfl⟩
                    rw [← eS_401] at hw
                    have hO_402 : Ok MT S S_401 := hO_378.sA eS_401 h_383 (by decide +kernel) (uA_734 hO_378.1 h_383)
                    have h_403 : pA S_401 q_381 (Int32.toNatClampNeg (v_391)) = v_399 := tA_sAs eS_401
                    obtain ⟨x_404, ex_404⟩ : ∃ y : Int32, y = i4_322 + 1 := ⟨_, rfl⟩
                    have z_405 : x_404.toInt = i4_322_z + 1 := z_add ex_404 hz_i4_322 ti_1 (by omega) (by omega)
                    refine lv_iinc (v := x_404) (lv' := [(4, .int (x_404)), (3, .int (i3_259)), (2, .int (i2_46)), (0, .ref x), (1, .int (a1))]) X.1 X.2.1 dX12_program_261 hl (k := 0) rfl (by rw [ex_404]; rfl) (by decide) rfl (fun ls hl => ?_)
                    refine lv_goto (tgt := 165) X.1 X.2.1 dX12_program_264 (by decide) ?_
                    have t_406 : At S_401 x 12 := tAt_sA eS_401 t_380
                    exact ih_L_321 _ (by omega) _ _ _ _ (x_404) (x_404.toInt) rfl hw rfl (by omega) t_406 hO_402 (lv_sub hl [0, 1, 2, 3, 4] rfl)
                have t_407 : At S_318 x 12 := tAt_sA eS_318 t_305
                exact L_321 _ _ _ _ _ (0) (0) rfl hw ti_0 (by omega) t_407 hO_319 (lv_sub hl [0, 1, 2, 3, 4] rfl)
            have t_408 : At S_255 x 12 := tAt_sA eS_255 t_241
            exact L_258 _ _ _ _ _ (0) (0) rfl hw ti_0 (by omega) t_408 hO_256 (lv_sub hl [0, 1, 2, 3] rfl)
          · have z_b_409 := trivial
            have k_410 : v_242.toInt > 0 := z_nle rfl ti_0 c_246
            refine lv_aload_n X.1 X.2.1 dX12_program_74 rfl (lv_at hl 1 rfl) ?_
            refine r_getI (g := 1230) (x := v_242) X hw t_241 rfl 30 ev_242 (by decide) rfl inn_X12_program_12 (by decide) (X.2.2.2.1 (.fieldLink RX12 229 "SilkMillModel" "faultKind" "I") (by decide +kernel)) rfl (gv_1230 _ _) dX12_program_75 ?_
            refine lv_bipush (v := 10) X.1 X.2.1 dX12_program_78 (by decide) ?_
            refine lv_isub X.1 X.2.1 dX12_program_80 ?_
            refine lv_topi (fun v_411 ev_411 => ?_)
            have z_412 : v_411.toInt = v_242.toInt - 10 := z_sub ev_411 rfl ti_10 (by omega) (by omega)
            rw [hQQ]
            exact ret_i X hw hr hlocks (Nat.le_of_ble_eq_true rfl) (Nat.le_of_ble_eq_true rfl) ⟨hO_239, trivial⟩ dX12_program_81
        · have z_b_413 := trivial
          have k_414 : v_231.toInt ≠ 0 := z_ne rfl ti_0 c_235
          refine lv_aload_n X.1 X.2.1 dX12_program_54 rfl (lv_at hl 1 rfl) ?_
          refine k_i (rm := { frames := 7, cells := 0, slots := 0, locals := 336 }) (av := [.ref x]) X hw (va_runV (As := []) (rest := []) (cfix X) (k_X12_rule l G cy κ T_47 _ x hO_T_47.1 ha_x_L_48) (cwV 0 X.2.2.2.1 gX12_program_X12_rule rfl rfl rfl (by decide +kernel) ⟨Nat.le_of_ble_eq_true rfl, Nat.le_of_ble_eq_true rfl⟩) (pre_V X hw _ ha_x_L_48 rfl (by decide) rfl) rfl rfl hl.1 rfl (lv_room (Nat.le_of_ble_eq_true rfl)) dX12_program_55 ⟨Nat.le_of_ble_eq_true rfl, Nat.le_of_ble_eq_true rfl⟩) 0 0 (Nat.le_of_ble_eq_true rfl) (Nat.le_of_ble_eq_true rfl) (fun rr_415 S_416 H locs hp hw hfr hnw => ?_)
          obtain ⟨hk_417, hp⟩ := hp
          have hO_418 : Ok MT S S_416 := hO_T_47.call hk_417 (by decide +kernel)
          rcases hp with ⟨f_419, er_420⟩ | ⟨f_419, er_420⟩ <;> subst er_420
          · have z_b_421 := trivial
            refine lv_istore_n (lv' := [(2, .int 1), (0, .ref x), (1, .int (a1))]) X.1 X.2.1 dX12_program_58 rfl hl (by decide) rfl (fun ls hl => ?_)
            refine lv_goto (tgt := 43) X.1 X.2.1 dX12_program_59 (by decide) ?_
            have t_422 : At S_416 x 12 := hk_417.fr.at ha_x_L_48
            exact ih_L_45 _ (by omega) _ _ _ _ (1) (1) rfl hw ti_1 (by omega) t_422 hO_418 (by omega) (lv_sub hl [0, 1, 2] rfl)
          · have z_b_423 := trivial
            refine lv_istore_n (lv' := [(2, .int 0), (0, .ref x), (1, .int (a1))]) X.1 X.2.1 dX12_program_58 rfl hl (by decide) rfl (fun ls hl => ?_)
            refine lv_goto (tgt := 43) X.1 X.2.1 dX12_program_59 (by decide) ?_
            have t_424 : At S_416 x 12 := hk_417.fr.at ha_x_L_48
            exact ih_L_45 _ (by omega) _ _ _ _ (0) (0) rfl hw ti_0 (by omega) t_424 hO_418 (by omega) (lv_sub hl [0, 1, 2] rfl)
    have t_425 : At S_36 x 12 := hk_37.fr.at t_34
    exact L_45 _ _ _ _ _ (1) (1) rfl hw ti_1 (by omega) t_425 hO_38 (by omega) (lv_sub hl [0, 1, 2] rfl)
  · have z_b_426 := trivial
    refine lv_if_ne (tgt := 15) X.1 X.2.1 dX12_program_10 (by decide) (fun c_427 => absurd c_427 (by decide)) (fun c_427 => ?_)
    refine lv_iconst (v := (-1)) X.1 X.2.1 dX12_program_13 (by decide) ?_
    rw [hQQ]
    exact ret_i X hw hr hlocks (Nat.le_of_ble_eq_true rfl) (Nat.le_of_ble_eq_true rfl) ⟨hO_2, trivial⟩ dX12_program_14
