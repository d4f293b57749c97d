set_option maxRecDepth 20000 in
theorem ggX12_rule_X12_is : GoodIn wsX12_rule wsX12_is := goodIn_h _ [8, 0, 0, 0, 0, 0, 0, 0, 0, 0, 0, 0, 0, 0, 0, 0, 0, 0, 0, 0, 0, 0, 0, 0, 0, 0, 0, 0, 0, 0, 0, 0, 0, 0, 0, 0, 0, 0, 0, 0, 0, 0, 0, 0, 0, 0, 0, 0, 0, 0, 0, 0, 0, 0, 0, 0, 0, 0, 0, 0, 33, 0, 0, 0, 0, 0, 0, 0, 0, 0, 0, 0, 0, 0, 0, 0, 0, 0, 0, 0, 0, 0, 0, 0, 0, 0, 0, 0, 0, 0, 0, 0, 0, 0, 0, 0, 0, 0, 0, 0, 0, 0, 0, 0, 0, 0, 0, 0, 0, 0, 0, 0, 0, 0, 0, 0, 0, 0, 0, 0, 0, 0, 0, 0, 0, 0] [1, 2, 3, 4, 5, 6, 7, 8, 9, 10, 11, 12, 13, 14, 15, 16, 17, 18, 19, 0, 20, 21, 22, 23, 24, 25, 26, 27, 28, 29, 30, 31, 32, 33, 34, 35, 36, 37, 38, 39, 40, 41, 42, 43, 44, 45, 46, 47, 48, 49, 50, 51, 52, 53, 54, 55, 56, 57, 58, 59, 60, 61, 62, 63, 64, 65, 66, 67, 68, 69, 70, 71, 72, 73, 74, 75, 76, 77, 78, 79, 80, 81, 82, 83, 84, 85, 86, 87, 88, 89, 90, 91, 92, 93, 94, 95, 96, 97, 98, 99, 100, 101, 102, 103, 104, 105, 106, 107, 108, 109, 110, 111, 112, 113, 114, 115, 116, 117, 118, 119, 120, 121, 122, 123, 124, 125] (by decide +kernel) (by decide +kernel)
set_option maxRecDepth 20000 in
theorem gX12_rule_X12_is : GoodIn wsX12_rule (wsV RX12 242 RX12 yX12_is wsX12_is) := goodIn_app (goodIn_of _ (by decide +kernel)) ggX12_rule_X12_is
set_option maxRecDepth 20000 in
theorem ggX12_rule_X12_which : GoodIn wsX12_rule wsX12_which := goodIn_h _ [8, 1, 0, 0, 0, 0, 0, 0, 0, 0, 0, 0, 0, 0, 0, 0, 0, 0, 0, 0, 0, 0, 0, 0, 0, 0, 0, 0, 0, 0, 0, 0, 0, 0, 0, 0, 0, 0, 0, 0, 0, 0, 0, 0, 0, 0, 0, 0, 0, 0, 0, 0, 0, 0, 0, 0, 0, 0, 0, 3, 0, 28, 0, 0, 0, 0, 0, 0, 0, 0, 0, 0, 0, 0, 0, 0, 0, 0, 0, 0, 0, 0, 0, 0, 0, 0, 0, 0, 0, 0, 0, 0, 0, 0, 0, 0, 0, 0, 0, 0, 0, 0, 0, 0, 0, 0, 0, 0, 0, 0, 0, 0, 0, 0, 0, 0, 0, 0, 0, 0, 0, 0, 0, 0, 0, 0, 0] [59, 60, 1, 2, 3, 4, 5, 6, 7, 8, 9, 10, 11, 12, 13, 14, 15, 22, 23, 24, 25, 26, 27, 28, 29, 30, 31, 32, 33, 34, 35, 36, 37, 38, 39, 40, 41, 42, 43, 44, 45, 46, 47, 48, 49, 50, 51, 52, 53, 54, 55, 56, 57, 58, 16, 17, 18, 0, 19, 20, 21, 61, 62, 63, 64, 65, 66, 67, 68, 69, 70, 71, 72, 73, 74, 75, 76, 77, 78, 79, 80, 81, 82, 83, 84, 85, 86, 87, 88, 89, 90, 91, 92, 93, 94, 95, 96, 97, 98, 99, 100, 101, 102, 103, 104, 105, 106, 107, 108, 109, 110, 111, 112, 113, 114, 115, 116, 117, 118, 119, 120, 121, 122, 123, 124, 125, 126] (by decide +kernel) (by decide +kernel)
set_option maxRecDepth 20000 in
theorem gX12_rule_X12_which : GoodIn wsX12_rule (wsV RX12 254 RX12 yX12_which wsX12_which) := goodIn_app (goodIn_of _ (by decide +kernel)) ggX12_rule_X12_which
set_option maxRecDepth 20000 in
theorem ggX12_rule_X12_wrong : GoodIn wsX12_rule wsX12_wrong := goodIn_h _ [10, 1, 63, 0, 23, 0, 0, 0, 0, 0, 0, 0, 0, 0, 0, 0, 0, 0, 0, 0, 0, 0, 0, 0, 0, 0, 0, 0, 0, 0, 0, 0, 0, 0, 0, 0, 0, 0, 0, 0, 0, 0, 0, 0, 0, 0, 0, 0, 0, 0, 0, 0, 0, 0, 0, 0, 0, 0, 0, 0, 0, 0, 0, 0, 0, 0, 0, 0, 0, 0] [2, 0, 1, 3, 4, 5, 6, 7, 8, 9, 10, 11, 12, 13, 14, 15, 16, 17, 18, 19, 20, 21, 22, 23, 24, 25, 26, 27, 28, 29, 30, 31, 32, 33, 34, 35, 36, 37, 38, 39, 40, 41, 42, 43, 44, 45, 46, 47, 48, 49, 50, 51, 52, 53, 54, 55, 56, 57, 58, 59, 60, 61, 62, 63, 64, 65, 66, 67, 68, 69] (by decide +kernel) (by decide +kernel)
set_option maxRecDepth 20000 in
theorem gX12_rule_X12_wrong : GoodIn wsX12_rule (wsV RX12 246 RX12 yX12_wrong wsX12_wrong) := goodIn_app (goodIn_of _ (by decide +kernel)) ggX12_rule_X12_wrong
set_option maxRecDepth 20000 in
theorem ggX12_rule_X12_token : GoodIn wsX12_rule wsX12_token := goodIn_h _ [8, 2, 0, 12, 0, 0, 0, 0, 0, 41, 8, 0, 0, 0, 0, 15, 0, 0, 0, 0, 0, 0, 0, 0, 0, 0, 0, 0, 0, 0, 0, 0, 0, 0, 0, 0, 0, 0, 0, 0, 0, 0, 0, 0, 0, 0, 0, 0, 0, 0, 0, 0, 0, 0, 0, 0, 0, 0, 0, 0, 0, 0, 0, 0, 0, 0, 0, 0, 0, 0, 0, 0, 0, 0, 0, 0, 0, 0, 0, 0, 0] [10, 1, 2, 7, 9, 11, 3, 4, 5, 0, 6, 8, 12, 13, 14, 15, 16, 17, 18, 19, 20, 21, 22, 23, 24, 25, 26, 27, 28, 29, 30, 31, 32, 33, 34, 35, 36, 37, 38, 39, 40, 41, 42, 43, 44, 45, 46, 47, 48, 49, 50, 51, 52, 53, 54, 55, 56, 57, 58, 59, 60, 61, 62, 63, 64, 65, 66, 67, 68, 69, 70, 71, 72, 73, 74, 75, 76, 77, 78, 79, 80] (by decide +kernel) (by decide +kernel)
set_option maxRecDepth 20000 in
theorem gX12_rule_X12_token : GoodIn wsX12_rule (wsV RX12 249 RX12 yX12_token wsX12_token) := goodIn_app (goodIn_of _ (by decide +kernel)) ggX12_rule_X12_token
set_option maxRecDepth 20000 in
theorem ggX12_rule_X12_condition : GoodIn wsX12_rule wsX12_condition := goodIn_h _ [2, 2, 0, 0, 0, 0, 0, 0, 0, 0, 0, 0, 0, 0, 0, 0, 0, 0, 0, 0, 0, 0, 0, 0, 0, 0, 0, 0, 0, 0, 0, 0, 0, 0, 0, 0, 0, 0, 0, 0, 0, 0, 0, 0, 0, 0, 0, 0, 0, 0, 0, 0, 0, 0, 0, 0, 0, 0, 0, 0, 0, 0, 0, 0, 0, 0, 0, 0, 0, 0, 0, 0, 0, 0, 0, 0, 0, 0, 0, 0, 0, 0, 3, 0, 0, 0, 0, 0, 0, 0, 4, 0, 0, 0, 0, 0, 0, 0, 0, 0, 0, 0, 0, 0, 0, 0, 0, 0, 0, 0, 0, 0, 0, 0, 0, 0, 0, 0, 0, 0, 0, 0, 0, 0, 0, 0, 0, 0, 0, 0, 0, 0, 0, 0, 0, 0, 0, 0, 0, 0, 0, 0, 0, 0, 0, 0, 0, 0, 0, 0, 0, 0, 0, 0, 0, 0] [82, 0, 83, 84, 85, 6, 64, 65, 66, 4, 67, 68, 7, 8, 9, 10, 11, 12, 13, 14, 15, 16, 17, 18, 19, 20, 27, 28, 29, 30, 31, 32, 33, 34, 35, 36, 37, 38, 39, 40, 41, 42, 43, 44, 45, 46, 47, 48, 49, 50, 51, 52, 53, 54, 55, 56, 57, 58, 59, 60, 61, 62, 63, 21, 22, 23, 24, 25, 26, 69, 70, 71, 72, 73, 74, 75, 76, 77, 78, 79, 80, 81, 1, 2, 3, 5, 86, 87, 88, 89, 90, 91, 92, 93, 94, 95, 96, 97, 98, 99, 100, 101, 102, 103, 104, 105, 106, 107, 108, 109, 110, 111, 112, 113, 114, 115, 116, 117, 118, 119, 120, 121, 122, 123, 124, 125, 126, 127, 128, 129, 130, 131, 132, 133, 134, 135, 136, 137, 138, 139, 140, 141, 142, 143, 144, 145, 146, 147, 148, 149, 150, 151, 152, 153, 154, 155] (by decide +kernel) (by decide +kernel)
set_option maxRecDepth 20000 in
theorem gX12_rule_X12_condition : GoodIn wsX12_rule (wsV RX12 271 RX12 yX12_condition wsX12_condition) := goodIn_app (goodIn_of _ (by decide +kernel)) ggX12_rule_X12_condition
set_option maxRecDepth 20000 in
theorem ggX12_rule_X12_must : GoodIn wsX12_rule wsX12_must := goodIn_h _ [5, 0, 0, 0, 0, 0, 0, 0, 0, 0, 0, 0, 0, 0, 0, 0, 0, 0, 0, 0, 0, 0, 0, 0, 0, 0, 0, 0, 0, 0, 0, 0, 0, 0, 0, 0, 0, 0, 0, 0, 0, 0, 0, 0, 0, 0, 0, 0, 0, 0, 0, 0, 0, 0, 0, 0, 0, 0, 0, 0, 0, 0, 0, 4, 0, 0, 0, 0, 0, 0, 0, 0, 0, 0, 0, 0, 0, 14, 0, 0, 0, 0, 0, 0, 0, 0, 0, 0, 0, 0, 0, 0, 0, 0, 0, 0, 0, 0, 0, 0, 0, 0, 0, 0, 0, 0, 0, 0, 0, 0, 0, 0, 0, 0, 0, 0, 0, 0, 0, 0, 0, 0, 0, 0, 0, 0, 0, 0, 0, 0, 0, 0, 0, 0, 0, 0, 0, 0, 0, 0, 0, 0, 0, 0] [77, 0, 1, 2, 3, 4, 5, 6, 7, 8, 9, 10, 11, 12, 13, 14, 15, 16, 17, 18, 19, 20, 21, 22, 23, 24, 25, 26, 27, 28, 29, 30, 31, 32, 33, 34, 35, 36, 37, 38, 39, 40, 41, 42, 43, 44, 45, 46, 47, 48, 49, 50, 51, 52, 53, 54, 55, 56, 57, 58, 59, 60, 61, 62, 64, 65, 66, 67, 68, 69, 70, 71, 72, 63, 73, 74, 75, 76, 78, 79, 80, 81, 82, 83, 84, 85, 86, 87, 88, 89, 90, 91, 92, 93, 94, 95, 96, 97, 98, 99, 100, 101, 102, 103, 104, 105, 106, 107, 108, 109, 110, 111, 112, 113, 114, 115, 116, 117, 118, 119, 120, 121, 122, 123, 124, 125, 126, 127, 128, 129, 130, 131, 132, 133, 134, 135, 136, 137, 138, 139, 140, 141, 142, 143] (by decide +kernel) (by decide +kernel)
set_option maxRecDepth 20000 in
theorem gX12_rule_X12_must : GoodIn wsX12_rule (wsV RX12 278 RX12 yX12_must wsX12_must) := goodIn_app (goodIn_of _ (by decide +kernel)) ggX12_rule_X12_must
set_option maxRecDepth 20000 in
theorem ggX12_rule_X12_number : GoodIn wsX12_rule wsX12_number := goodIn_h _ [8, 1, 0, 0, 12, 0, 0, 0, 0, 0, 41, 0, 0, 0, 0, 0, 0, 0, 0, 0, 0, 0, 0, 0, 10, 4, 0, 0, 0, 0, 0, 0, 0, 0, 0, 0, 0, 0, 0, 0, 0, 0, 0, 0, 0, 0, 0, 0, 0, 0, 0, 0, 0, 0, 0, 0, 0, 0, 0, 0, 0, 0, 0, 0, 0, 0, 0, 0, 0, 0, 0, 0, 0, 0, 0, 0, 0, 0, 0, 0, 0, 0, 0, 0, 0, 0, 0, 0, 0, 0, 0] [24, 10, 20, 11, 12, 13, 0, 14, 1, 3, 15, 16, 17, 18, 19, 2, 8, 4, 5, 6, 7, 9, 21, 22, 23, 25, 26, 27, 28, 29, 30, 31, 32, 33, 34, 35, 36, 37, 38, 39, 40, 41, 42, 43, 44, 45, 46, 47, 48, 49, 50, 51, 52, 53, 54, 55, 56, 57, 58, 59, 60, 61, 62, 63, 64, 65, 66, 67, 68, 69, 70, 71, 72, 73, 74, 75, 76, 77, 78, 79, 80, 81, 82, 83, 84, 85, 86, 87, 88, 89, 90] (by decide +kernel) (by decide +kernel)
set_option maxRecDepth 20000 in
theorem gX12_rule_X12_number : GoodIn wsX12_rule (wsV RX12 264 RX12 yX12_number wsX12_number) := goodIn_app (goodIn_of _ (by decide +kernel)) ggX12_rule_X12_number
theorem dX12_rule_0 : decode cX12_rule 0 = .ok (.aload_n 0, 1) := by decide +kernel
theorem dX12_rule_1 : decode cX12_rule 1 = .ok (.ldc_w 267, 3) := by decide +kernel
theorem dX12_rule_4 : decode cX12_rule 4 = .ok (.invokevirtual 242, 3) := by decide +kernel
theorem dX12_rule_7 : decode cX12_rule 7 = .ok (.istore_n 1, 1) := by decide +kernel
theorem dX12_rule_8 : decode cX12_rule 8 = .ok (.aload_n 0, 1) := by decide +kernel
theorem dX12_rule_9 : decode cX12_rule 9 = .ok (.ldc_w 269, 3) := by decide +kernel
theorem dX12_rule_12 : decode cX12_rule 12 = .ok (.invokevirtual 254, 3) := by decide +kernel
theorem dX12_rule_15 : decode cX12_rule 15 = .ok (.istore_n 2, 1) := by decide +kernel
theorem dX12_rule_16 : decode cX12_rule 16 = .ok (.iload_n 1, 1) := by decide +kernel
theorem dX12_rule_17 : decode cX12_rule 17 = .ok (.ifCond .ne 14, 3) := by decide +kernel
theorem dX12_rule_20 : decode cX12_rule 20 = .ok (.iload_n 2, 1) := by decide +kernel
theorem dX12_rule_21 : decode cX12_rule 21 = .ok (.iconst (-1), 1) := by decide +kernel
theorem dX12_rule_22 : decode cX12_rule 22 = .ok (.if_icmp .ne 9, 3) := by decide +kernel
theorem dX12_rule_25 : decode cX12_rule 25 = .ok (.aload_n 0, 1) := by decide +kernel
theorem dX12_rule_26 : decode cX12_rule 26 = .ok (.iconst 1, 1) := by decide +kernel
theorem dX12_rule_27 : decode cX12_rule 27 = .ok (.invokevirtual 246, 3) := by decide +kernel
theorem dX12_rule_30 : decode cX12_rule 30 = .ok (.ireturn, 1) := by decide +kernel
theorem dX12_rule_31 : decode cX12_rule 31 = .ok (.aload_n 0, 1) := by decide +kernel
theorem dX12_rule_32 : decode cX12_rule 32 = .ok (.getfield 61, 3) := by decide +kernel
theorem dX12_rule_35 : decode cX12_rule 35 = .ok (.iconst 4, 1) := by decide +kernel
theorem dX12_rule_36 : decode cX12_rule 36 = .ok (.iaload, 1) := by decide +kernel
theorem dX12_rule_37 : decode cX12_rule 37 = .ok (.bipush 12, 2) := by decide +kernel
theorem dX12_rule_39 : decode cX12_rule 39 = .ok (.if_icmp .ne 9, 3) := by decide +kernel
theorem dX12_rule_42 : decode cX12_rule 42 = .ok (.aload_n 0, 1) := by decide +kernel
theorem dX12_rule_43 : decode cX12_rule 43 = .ok (.iconst 2, 1) := by decide +kernel
theorem dX12_rule_44 : decode cX12_rule 44 = .ok (.invokevirtual 246, 3) := by decide +kernel
theorem dX12_rule_47 : decode cX12_rule 47 = .ok (.ireturn, 1) := by decide +kernel
theorem dX12_rule_48 : decode cX12_rule 48 = .ok (.bipush 48, 2) := by decide +kernel
theorem dX12_rule_50 : decode cX12_rule 50 = .ok (.aload_n 0, 1) := by decide +kernel
theorem dX12_rule_51 : decode cX12_rule 51 = .ok (.getfield 61, 3) := by decide +kernel
theorem dX12_rule_54 : decode cX12_rule 54 = .ok (.iconst 4, 1) := by decide +kernel
theorem dX12_rule_55 : decode cX12_rule 55 = .ok (.iaload, 1) := by decide +kernel
theorem dX12_rule_56 : decode cX12_rule 56 = .ok (.iadd, 1) := by decide +kernel
theorem dX12_rule_57 : decode cX12_rule 57 = .ok (.istore_n 3, 1) := by decide +kernel
theorem dX12_rule_58 : decode cX12_rule 58 = .ok (.aload_n 0, 1) := by decide +kernel
theorem dX12_rule_59 : decode cX12_rule 59 = .ok (.getfield 70, 3) := by decide +kernel
theorem dX12_rule_62 : decode cX12_rule 62 = .ok (.iload_n 3, 1) := by decide +kernel
theorem dX12_rule_63 : decode cX12_rule 63 = .ok (.iconst 0, 1) := by decide +kernel
theorem dX12_rule_64 : decode cX12_rule 64 = .ok (.iastore, 1) := by decide +kernel
theorem dX12_rule_65 : decode cX12_rule 65 = .ok (.iload_n 1, 1) := by decide +kernel
theorem dX12_rule_66 : decode cX12_rule 66 = .ok (.ifCond .eq 72, 3) := by decide +kernel
theorem dX12_rule_69 : decode cX12_rule 69 = .ok (.aload_n 0, 1) := by decide +kernel
theorem dX12_rule_70 : decode cX12_rule 70 = .ok (.invokevirtual 249, 3) := by decide +kernel
theorem dX12_rule_73 : decode cX12_rule 73 = .ok (.aload_n 0, 1) := by decide +kernel
theorem dX12_rule_74 : decode cX12_rule 74 = .ok (.iload_n 3, 1) := by decide +kernel
theorem dX12_rule_75 : decode cX12_rule 75 = .ok (.invokevirtual 271, 3) := by decide +kernel
theorem dX12_rule_78 : decode cX12_rule 78 = .ok (.ifCond .ne 5, 3) := by decide +kernel
theorem dX12_rule_81 : decode cX12_rule 81 = .ok (.iconst 0, 1) := by decide +kernel
theorem dX12_rule_82 : decode cX12_rule 82 = .ok (.ireturn, 1) := by decide +kernel
theorem dX12_rule_83 : decode cX12_rule 83 = .ok (.aload_n 0, 1) := by decide +kernel
theorem dX12_rule_84 : decode cX12_rule 84 = .ok (.ldc_w 274, 3) := by decide +kernel
theorem dX12_rule_87 : decode cX12_rule 87 = .ok (.invokevirtual 242, 3) := by decide +kernel
theorem dX12_rule_90 : decode cX12_rule 90 = .ok (.ifCond .eq 17, 3) := by decide +kernel
theorem dX12_rule_93 : decode cX12_rule 93 = .ok (.aload_n 0, 1) := by decide +kernel
theorem dX12_rule_94 : decode cX12_rule 94 = .ok (.invokevirtual 249, 3) := by decide +kernel
theorem dX12_rule_97 : decode cX12_rule 97 = .ok (.aload_n 0, 1) := by decide +kernel
theorem dX12_rule_98 : decode cX12_rule 98 = .ok (.iload_n 3, 1) := by decide +kernel
theorem dX12_rule_99 : decode cX12_rule 99 = .ok (.invokevirtual 271, 3) := by decide +kernel
theorem dX12_rule_102 : decode cX12_rule 102 = .ok (.ifCond .ne (-19), 3) := by decide +kernel
theorem dX12_rule_105 : decode cX12_rule 105 = .ok (.iconst 0, 1) := by decide +kernel
theorem dX12_rule_106 : decode cX12_rule 106 = .ok (.ireturn, 1) := by decide +kernel
theorem dX12_rule_107 : decode cX12_rule 107 = .ok (.aload_n 0, 1) := by decide +kernel
theorem dX12_rule_108 : decode cX12_rule 108 = .ok (.ldc_w 276, 3) := by decide +kernel
theorem dX12_rule_111 : decode cX12_rule 111 = .ok (.invokevirtual 278, 3) := by decide +kernel
theorem dX12_rule_114 : decode cX12_rule 114 = .ok (.ifCond .ne 5, 3) := by decide +kernel
theorem dX12_rule_117 : decode cX12_rule 117 = .ok (.iconst 0, 1) := by decide +kernel
theorem dX12_rule_118 : decode cX12_rule 118 = .ok (.ireturn, 1) := by decide +kernel
theorem dX12_rule_119 : decode cX12_rule 119 = .ok (.aload_n 0, 1) := by decide +kernel
theorem dX12_rule_120 : decode cX12_rule 120 = .ok (.ldc_w 269, 3) := by decide +kernel
theorem dX12_rule_123 : decode cX12_rule 123 = .ok (.invokevirtual 254, 3) := by decide +kernel
theorem dX12_rule_126 : decode cX12_rule 126 = .ok (.istore_n 2, 1) := by decide +kernel
theorem dX12_rule_127 : decode cX12_rule 127 = .ok (.iload_n 2, 1) := by decide +kernel
theorem dX12_rule_128 : decode cX12_rule 128 = .ok (.iconst (-1), 1) := by decide +kernel
theorem dX12_rule_129 : decode cX12_rule 129 = .ok (.if_icmp .ne 9, 3) := by decide +kernel
theorem dX12_rule_132 : decode cX12_rule 132 = .ok (.aload_n 0, 1) := by decide +kernel
theorem dX12_rule_133 : decode cX12_rule 133 = .ok (.iconst 1, 1) := by decide +kernel
theorem dX12_rule_134 : decode cX12_rule 134 = .ok (.invokevirtual 246, 3) := by decide +kernel
theorem dX12_rule_137 : decode cX12_rule 137 = .ok (.ireturn, 1) := by decide +kernel
theorem dX12_rule_138 : decode cX12_rule 138 = .ok (.aload_n 0, 1) := by decide +kernel
theorem dX12_rule_139 : decode cX12_rule 139 = .ok (.getfield 64, 3) := by decide +kernel
theorem dX12_rule_142 : decode cX12_rule 142 = .ok (.iload_n 3, 1) := by decide +kernel
theorem dX12_rule_143 : decode cX12_rule 143 = .ok (.iload_n 2, 1) := by decide +kernel
theorem dX12_rule_144 : decode cX12_rule 144 = .ok (.iastore, 1) := by decide +kernel
theorem dX12_rule_145 : decode cX12_rule 145 = .ok (.aload_n 0, 1) := by decide +kernel
theorem dX12_rule_146 : decode cX12_rule 146 = .ok (.invokevirtual 249, 3) := by decide +kernel
theorem dX12_rule_149 : decode cX12_rule 149 = .ok (.aload_n 0, 1) := by decide +kernel
theorem dX12_rule_150 : decode cX12_rule 150 = .ok (.getfield 67, 3) := by decide +kernel
theorem dX12_rule_153 : decode cX12_rule 153 = .ok (.iload_n 3, 1) := by decide +kernel
theorem dX12_rule_154 : decode cX12_rule 154 = .ok (.iload_n 2, 1) := by decide +kernel
theorem dX12_rule_155 : decode cX12_rule 155 = .ok (.iconst 5, 1) := by decide +kernel
theorem dX12_rule_156 : decode cX12_rule 156 = .ok (.if_icmp .ne 10, 3) := by decide +kernel
theorem dX12_rule_159 : decode cX12_rule 159 = .ok (.aload_n 0, 1) := by decide +kernel
theorem dX12_rule_160 : decode cX12_rule 160 = .ok (.invokevirtual 264, 3) := by decide +kernel
theorem dX12_rule_163 : decode cX12_rule 163 = .ok (.goto 4, 3) := by decide +kernel
theorem dX12_rule_166 : decode cX12_rule 166 = .ok (.iconst 0, 1) := by decide +kernel
theorem dX12_rule_167 : decode cX12_rule 167 = .ok (.iastore, 1) := by decide +kernel
theorem dX12_rule_168 : decode cX12_rule 168 = .ok (.aload_n 0, 1) := by decide +kernel
theorem dX12_rule_169 : decode cX12_rule 169 = .ok (.ldc_w 281, 3) := by decide +kernel
theorem dX12_rule_172 : decode cX12_rule 172 = .ok (.invokevirtual 278, 3) := by decide +kernel
theorem dX12_rule_175 : decode cX12_rule 175 = .ok (.ifCond .ne 5, 3) := by decide +kernel
theorem dX12_rule_178 : decode cX12_rule 178 = .ok (.iconst 0, 1) := by decide +kernel
theorem dX12_rule_179 : decode cX12_rule 179 = .ok (.ireturn, 1) := by decide +kernel
theorem dX12_rule_180 : decode cX12_rule 180 = .ok (.aload_n 0, 1) := by decide +kernel
theorem dX12_rule_181 : decode cX12_rule 181 = .ok (.getfield 61, 3) := by decide +kernel
theorem dX12_rule_184 : decode cX12_rule 184 = .ok (.iconst 4, 1) := by decide +kernel
theorem dX12_rule_185 : decode cX12_rule 185 = .ok (.dup2, 1) := by decide +kernel
theorem dX12_rule_186 : decode cX12_rule 186 = .ok (.iaload, 1) := by decide +kernel
theorem dX12_rule_187 : decode cX12_rule 187 = .ok (.iconst 1, 1) := by decide +kernel
theorem dX12_rule_188 : decode cX12_rule 188 = .ok (.iadd, 1) := by decide +kernel
theorem dX12_rule_189 : decode cX12_rule 189 = .ok (.iastore, 1) := by decide +kernel
theorem dX12_rule_190 : decode cX12_rule 190 = .ok (.iconst 1, 1) := by decide +kernel
theorem dX12_rule_191 : decode cX12_rule 191 = .ok (.ireturn, 1) := by decide +kernel
theorem inn_X12_rule_12 : ∀ w ∈ u_ws RX12 TX12 66, w ∈ wsX12_rule := fun w h => List.mem_cons_of_mem _ (List.mem_append_right _ h)
set_option maxHeartbeats 4000000 in
set_option maxRecDepth 100000 in
theorem k_X12_rule (l : Launch) (G : va_G) (cy : Nat → ClassId) (κ : Nat → Nat) (S : PS) (sz : Nat) (x : Nat) (hG : GX S) (ha_x : At S x 12) : Ci l yX12_rule wsX12_rule ({ frames := 7, cells := 0, slots := 0, locals := 336 }) G cy κ S sz [.ref x] (fun (r : Int32) (S9 : PS) => Ok MR S S9 ∧ (((zA S9 x 1220 4 = zA S x 1220 4 + 1 ∧ zA S9 x 1220 4 ≤ 12) ∧ r = 1) ∨ ((zA S9 x 1220 4 = zA S x 1220 4) ∧ r = 0))) := by
  refine ent_m (cc := cX12_rule) (maxL := 4) (ret := (some .boolean)) (by decide) rfl (Nat.le_of_ble_eq_true rfl) ?_
  intro p e s m below meth c ls X hr hlocks hin hw hl hsz
  subst hsz
  have X : Cx p c cX12_rule 4 s [.ref x].toArray wsX12_rule RX12 m G cy κ (AS S s.heap.size) := X
  have hl : lv_has ls 4 [(0, .ref x)] := hl
  have hO : Ok MR S S := Ok.rf hG
  generalize hQQ : MQ below _ _ _ _ _ _ = QQ
  replace hQQ := hQQ.symm
  refine lv_aload_n X.1 X.2.1 dX12_rule_0 rfl (lv_at hl 0 rfl) ?_
  refine lv_ldcwS (q := κ (100 + 21)) X.1 X.2.1 X.2.2.2.2.1 (show vk_R RX12 267 "if" (κ (100 + 21)) s from (X.2.2.2.2.2.2.2.2.2.2.2.2.2.2 21 (by decide)).1) dX12_rule_1 ?_
  refine k_i (rm := { frames := 5, cells := 0, slots := 0, locals := 240 }) (av := [.ref x, .ref (κ (100 + 21))]) X hw (va_runV (As := [.ref (κ (100 + 21))]) (rest := []) (cfix X) (k_X12_is l G cy κ S _ x 21 hO.1 ha_x (by decide)) (cwV 1 X.2.2.2.1 gX12_rule_X12_is rfl rfl rfl (by decide +kernel) ⟨Nat.le_of_ble_eq_true rfl, Nat.le_of_ble_eq_true rfl⟩) (pre_V X hw _ ha_x rfl (by decide) rfl) rfl rfl hl.1 rfl (lv_room (Nat.le_of_ble_eq_true rfl)) dX12_rule_4 ⟨Nat.le_of_ble_eq_true rfl, Nat.le_of_ble_eq_true rfl⟩) 0 0 (Nat.le_of_ble_eq_true rfl) (Nat.le_of_ble_eq_true rfl) (fun rr_1 S_2 H locs hp hw hfr hnw => ?_)
  obtain ⟨e2, hp⟩ := hp
  subst e2
  rcases hp with ⟨f_3, er_4⟩ | ⟨f_3, er_4⟩ <;> subst er_4
  · have z_b_5 := trivial
    refine lv_istore_n (lv' := [(1, .int 1), (0, .ref x)]) X.1 X.2.1 dX12_rule_7 rfl hl (by decide) rfl (fun ls hl => ?_)
    refine lv_aload_n X.1 X.2.1 dX12_rule_8 rfl (lv_at hl 1 rfl) ?_
    refine lv_ldcwS (q := κ (100 + 22)) X.1 X.2.1 X.2.2.2.2.1 (show vk_R RX12 269 "cast drop find throw cut stop " (κ (100 + 22)) s from (X.2.2.2.2.2.2.2.2.2.2.2.2.2.2 22 (by decide)).1) dX12_rule_9 ?_
    refine k_i (rm := { frames := 5, cells := 0, slots := 0, locals := 240 }) (av := [.ref x, .ref (κ (100 + 22))]) X hw (va_runV (As := [.ref (κ (100 + 22))]) (rest := []) (cfix X) (k_X12_which l G cy κ S _ x 22 hO.1 ha_x (by decide)) (cwV 1 X.2.2.2.1 gX12_rule_X12_which rfl rfl rfl (by decide +kernel) ⟨Nat.le_of_ble_eq_true rfl, Nat.le_of_ble_eq_true rfl⟩) (pre_V X hw _ ha_x rfl (by decide) rfl) rfl rfl hl.1 rfl (lv_room (Nat.le_of_ble_eq_true rfl)) dX12_rule_12 ⟨Nat.le_of_ble_eq_true rfl, Nat.le_of_ble_eq_true rfl⟩) 0 0 (Nat.le_of_ble_eq_true rfl) (Nat.le_of_ble_eq_true rfl) (fun rr_6 S_7 H locs hp hw hfr hnw => ?_)
    obtain ⟨e2, hp⟩ := hp
    subst e2
    have rg_8 := And.intro (z_lo rr_6) (z_hi rr_6)
    refine lv_istore_n (lv' := [(2, .int (rr_6)), (1, .int 1), (0, .ref x)]) X.1 X.2.1 dX12_rule_15 rfl hl (by decide) rfl (fun ls hl => ?_)
    refine lv_iload_n X.1 X.2.1 dX12_rule_16 rfl (lv_at hl 1 rfl) ?_
    refine lv_if_ne (tgt := 31) X.1 X.2.1 dX12_rule_17 (by decide) (fun c_9 => ?_) (fun c_9 => absurd c_9 (by decide))
    refine lv_aload_n X.1 X.2.1 dX12_rule_31 rfl (lv_at hl 2 rfl) ?_
    obtain ⟨q_10, h_11, h_12, h_13⟩ := gQ_12_1220 hO.1 ha_x
    refine r_getR (g := 1220) X hw ha_x rfl 20 h_11 (by decide) rfl inn_X12_rule_12 (by decide) (X.2.2.2.1 (.fieldLink RX12 61 "SilkMillModel" "rules" "[I") (by decide +kernel)) rfl (gv_1220 _ _) dX12_rule_32 ?_
    refine lv_iconst (v := 4) X.1 X.2.1 dX12_rule_35 (by decide) ?_
    refine r_iald X hw h_12 rfl (by rw [h_13]; exact z_ix ti_4 (by omega) (by omega)) dX12_rule_36 ?_
    refine lv_topi (fun v_14 ev_14 => ?_)
    have z_15 := gE_614 hO.1 h_12 (Int32.toNatClampNeg (4)); rw [← ev_14] at z_15
    have ev_14 := ev_14.symm
    have zf_16 : zA S x 1220 4 = v_14.toInt := (zA_of (z := 4) h_11 ti_4 (by omega) ev_14)
    refine lv_bipush (v := 12) X.1 X.2.1 dX12_rule_37 (by decide) ?_
    refine lv_icmp_ne (tgt := 48) X.1 X.2.1 dX12_rule_39 (by decide) (fun c_17 => ?_) (fun c_17 => ?_)
    · have z_b_18 := trivial
      have k_19 : v_14.toInt ≠ 12 := z_ne rfl ti_12 c_17
      refine lv_bipush (v := 48) X.1 X.2.1 dX12_rule_48 (by decide) ?_
      refine lv_aload_n X.1 X.2.1 dX12_rule_50 rfl (lv_at hl 2 rfl) ?_
      refine r_getR (g := 1220) X hw ha_x rfl 20 h_11 (by decide) rfl inn_X12_rule_12 (by decide) (X.2.2.2.1 (.fieldLink RX12 61 "SilkMillModel" "rules" "[I") (by decide +kernel)) rfl (gv_1220 _ _) dX12_rule_51 ?_
      refine lv_iconst (v := 4) X.1 X.2.1 dX12_rule_54 (by decide) ?_
      refine r_iald X hw h_12 rfl (by rw [h_13]; exact z_ix ti_4 (by omega) (by omega)) dX12_rule_55 ?_
      rw [ev_14]
      refine lv_iadd X.1 X.2.1 dX12_rule_56 ?_
      refine lv_topi (fun v_20 ev_20 => ?_)
      have z_21 : v_20.toInt = 48 + v_14.toInt := z_add ev_20 ti_48 rfl (by omega) (by omega)
      refine lv_istore_n (lv' := [(3, .int (v_20)), (2, .int (rr_6)), (1, .int 1), (0, .ref x)]) X.1 X.2.1 dX12_rule_57 rfl hl (by decide) rfl (fun ls hl => ?_)
      refine lv_aload_n X.1 X.2.1 dX12_rule_58 rfl (lv_at hl 3 rfl) ?_
      obtain ⟨q_22, h_23, h_24, h_25⟩ := gQ_12_1223 hO.1 ha_x
      refine r_getR (g := 1223) X hw ha_x rfl 23 h_23 (by decide) rfl inn_X12_rule_12 (by decide) (X.2.2.2.1 (.fieldLink RX12 70 "SilkMillModel" "conditions" "[I") (by decide +kernel)) rfl (gv_1223 _ _) dX12_rule_59 ?_
      refine lv_iload_n X.1 X.2.1 dX12_rule_62 rfl (lv_at hl 0 rfl) ?_
      refine lv_iconst (v := 0) X.1 X.2.1 dX12_rule_63 (by decide) ?_
      refine r_iast X hw h_24 rfl (by rw [h_25]; exact z_ix z_21 (by omega) (by omega)) dX12_rule_64 (fun H locs hw => ?_)
      obtain ⟨S_26, eS_26⟩ : ∃ T, T = sA S q_22 (upd (pA S q_22) (Int32.toNatClampNeg (v_20)) (0)) := ⟨_, rfl⟩
      rw [← eS_26] at hw
      have hO_27 : Ok MR S S_26 := hO.sA eS_26 h_24 (by decide +kernel) (uA_674 hO.1 h_24 (by rw [ti_0]; omega) (by rw [ti_0]; omega))
      have h_28 : pA S_26 q_22 (Int32.toNatClampNeg (v_20)) = 0 := tA_sAs eS_26
      refine lv_iload_n X.1 X.2.1 dX12_rule_65 rfl (lv_at hl 2 rfl) ?_
      refine lv_if_eq (tgt := 138) X.1 X.2.1 dX12_rule_66 (by decide) (fun c_29 => absurd c_29 (by decide)) (fun c_29 => ?_)
      refine lv_aload_n X.1 X.2.1 dX12_rule_69 rfl (lv_at hl 3 rfl) ?_
      have t_30 : At S_26 x 12 := tAt_sA eS_26 ha_x
      refine k_v (rm := { frames := 2, cells := 0, slots := 0, locals := 96 }) (av := [.ref x]) X hw (va_runV (As := []) (rest := []) (cfix X) (k_X12_token l G cy κ S_26 _ x hO_27.1 t_30) (cwV 0 X.2.2.2.1 gX12_rule_X12_token rfl rfl rfl (by decide +kernel) ⟨Nat.le_of_ble_eq_true rfl, Nat.le_of_ble_eq_true rfl⟩) (pre_V X hw _ t_30 rfl (by decide) rfl) rfl rfl hl.1 rfl (lv_room (Nat.le_of_ble_eq_true rfl)) dX12_rule_70 ⟨Nat.le_of_ble_eq_true rfl, Nat.le_of_ble_eq_true rfl⟩) 0 0 (Nat.le_of_ble_eq_true rfl) (Nat.le_of_ble_eq_true rfl) (fun S_32 H locs hp hw hfr hnw => ?_)
      obtain ⟨hk_33, hp⟩ := hp
      have hO_34 : Ok MR S S_32 := hO_27.call hk_33 (by decide +kernel)
      refine lv_aload_n X.1 X.2.1 dX12_rule_73 rfl (lv_at hl 3 rfl) ?_
      refine lv_iload_n X.1 X.2.1 dX12_rule_74 rfl (lv_at hl 0 rfl) ?_
      have t_35 : At S_32 x 12 := hk_33.fr.at t_30
      refine k_i (rm := { frames := 6, cells := 0, slots := 0, locals := 288 }) (av := [.ref x, .int (v_20)]) X hw (va_runV (As := [.int (v_20)]) (rest := []) (cfix X) (k_X12_condition l G cy κ S_32 _ x (v_20) ((48 + v_14.toInt)) hO_34.1 t_35 z_21 (by first | assumption | omega) (by first | assumption | omega)) (cwV 1 X.2.2.2.1 gX12_rule_X12_condition rfl rfl rfl (by decide +kernel) ⟨Nat.le_of_ble_eq_true rfl, Nat.le_of_ble_eq_true rfl⟩) (pre_V X hw _ t_35 rfl (by decide) rfl) rfl rfl hl.1 rfl (lv_room (Nat.le_of_ble_eq_true rfl)) dX12_rule_75 ⟨Nat.le_of_ble_eq_true rfl, Nat.le_of_ble_eq_true rfl⟩) 0 0 (Nat.le_of_ble_eq_true rfl) (Nat.le_of_ble_eq_true rfl) (fun rr_36 S_37 H locs hp hw hfr hnw => ?_)
      obtain ⟨hk_38, hp⟩ := hp
      have hO_39 : Ok MR S S_37 := hO_34.call hk_38 (by decide +kernel)
      rcases hp with ⟨f_40, er_41⟩ | ⟨f_40, er_41⟩ <;> subst er_41
      · have z_b_42 := trivial
        refine lv_if_ne (tgt := 83) X.1 X.2.1 dX12_rule_78 (by decide) (fun c_43 => ?_) (fun c_43 => absurd c_43 (by decide))
        have zc_47 : zA S_26 x 1220 = zA S x 1220 := zA_sAn eS_26 (ex3 (gQ_12_1220 hO.1 ha_x)) h_24 rfl
        have zc_48 : zA S_32 x 1220 = zA S x 1220 := (zA_fr hk_33.fr t_30 (ex3 (gQ_12_1220 hO_27.1 t_30)) (by decide +kernel) (by decide +kernel)).trans zc_47
        have zc_49 : zA S_37 x 1220 = zA S x 1220 := (zA_fr hk_38.fr t_35 (ex3 (gQ_12_1220 hO_34.1 t_35)) (by decide +kernel) (by decide +kernel)).trans zc_48
        have L_44 : ∀ (n : Nat) (T_45 : PS) (H : Heap) (locs : List Loc) (ls : Array Slot) , ((4 - zA T_45 x 1223 ((48 + v_14.toInt)).toNat).toNat = n) → (Wd G cy (AS S s.heap.size) s.heap T_45 H locs) → (At T_45 x 12) → (Ok MR S T_45) → (zA T_45 x 1220 = zA S x 1220) → (lv_has ls 4 [(3, .int (v_20)), (2, .int (rr_6)), (1, .int 1), (0, .ref x)]) → W p l e ({ frames := 7, cells := 0, slots := 0, locals := 336 }) s m [.ref x].toArray below meth c H locs 0 0 QQ (F0 m 83 ls []) := by
          intro n
          induction n using Nat.strongRecOn with
          | ind n ih_L_44 =>
          intro T_45 H locs ls  hn hw ha_x_L_46 hO_T_45 zk_50 hl
          refine lv_aload_n X.1 X.2.1 dX12_rule_83 rfl (lv_at hl 3 rfl) ?_
          refine lv_ldcwS (q := κ (100 + 23)) X.1 X.2.1 X.2.2.2.2.1 (show vk_R RX12 274 "and" (κ (100 + 23)) s from (X.2.2.2.2.2.2.2.2.2.2.2.2.2.2 23 (by decide)).1) dX12_rule_84 ?_
          refine k_i (rm := { frames := 5, cells := 0, slots := 0, locals := 240 }) (av := [.ref x, .ref (κ (100 + 23))]) X hw (va_runV (As := [.ref (κ (100 + 23))]) (rest := []) (cfix X) (k_X12_is l G cy κ T_45 _ x 23 hO_T_45.1 ha_x_L_46 (by decide)) (cwV 1 X.2.2.2.1 gX12_rule_X12_is rfl rfl rfl (by decide +kernel) ⟨Nat.le_of_ble_eq_true rfl, Nat.le_of_ble_eq_true rfl⟩) (pre_V X hw _ ha_x_L_46 rfl (by decide) rfl) rfl rfl hl.1 rfl (lv_room (Nat.le_of_ble_eq_true rfl)) dX12_rule_87 ⟨Nat.le_of_ble_eq_true rfl, Nat.le_of_ble_eq_true rfl⟩) 0 0 (Nat.le_of_ble_eq_true rfl) (Nat.le_of_ble_eq_true rfl) (fun rr_51 S_52 H locs hp hw hfr hnw => ?_)
          obtain ⟨e2, hp⟩ := hp
          subst e2
          rcases hp with ⟨f_53, er_54⟩ | ⟨f_53, er_54⟩ <;> subst er_54
          · have z_b_55 := trivial
            refine lv_if_eq (tgt := 107) X.1 X.2.1 dX12_rule_90 (by decide) (fun c_56 => absurd c_56 (by decide)) (fun c_56 => ?_)
            refine lv_aload_n X.1 X.2.1 dX12_rule_93 rfl (lv_at hl 3 rfl) ?_
            refine k_v (rm := { frames := 2, cells := 0, slots := 0, locals := 96 }) (av := [.ref x]) X hw (va_runV (As := []) (rest := []) (cfix X) (k_X12_token l G cy κ T_45 _ x hO_T_45.1 ha_x_L_46) (cwV 0 X.2.2.2.1 gX12_rule_X12_token rfl rfl rfl (by decide +kernel) ⟨Nat.le_of_ble_eq_true rfl, Nat.le_of_ble_eq_true rfl⟩) (pre_V X hw _ ha_x_L_46 rfl (by decide) rfl) rfl rfl hl.1 rfl (lv_room (Nat.le_of_ble_eq_true rfl)) dX12_rule_94 ⟨Nat.le_of_ble_eq_true rfl, Nat.le_of_ble_eq_true rfl⟩) 0 0 (Nat.le_of_ble_eq_true rfl) (Nat.le_of_ble_eq_true rfl) (fun S_58 H locs hp hw hfr hnw => ?_)
            obtain ⟨hk_59, hp⟩ := hp
            have hO_60 : Ok MR S S_58 := hO_T_45.call hk_59 (by decide +kernel)
            have zc_61 : zA S_58 x 1223 = zA T_45 x 1223 := zA_fr hk_59.fr ha_x_L_46 (ex3 (gQ_12_1223 hO_T_45.1 ha_x_L_46)) (by decide +kernel) (by decide +kernel)
            have zz_62 := congrFun zc_61 (((48 + v_14.toInt)).toNat)
            refine lv_aload_n X.1 X.2.1 dX12_rule_97 rfl (lv_at hl 3 rfl) ?_
            refine lv_iload_n X.1 X.2.1 dX12_rule_98 rfl (lv_at hl 0 rfl) ?_
            have t_63 : At S_58 x 12 := hk_59.fr.at ha_x_L_46
            refine k_i (rm := { frames := 6, cells := 0, slots := 0, locals := 288 }) (av := [.ref x, .int (v_20)]) X hw (va_runV (As := [.int (v_20)]) (rest := []) (cfix X) (k_X12_condition l G cy κ S_58 _ x (v_20) ((48 + v_14.toInt)) hO_60.1 t_63 z_21 (by first | assumption | omega) (by first | assumption | omega)) (cwV 1 X.2.2.2.1 gX12_rule_X12_condition rfl rfl rfl (by decide +kernel) ⟨Nat.le_of_ble_eq_true rfl, Nat.le_of_ble_eq_true rfl⟩) (pre_V X hw _ t_63 rfl (by decide) rfl) rfl rfl hl.1 rfl (lv_room (Nat.le_of_ble_eq_true rfl)) dX12_rule_99 ⟨Nat.le_of_ble_eq_true rfl, Nat.le_of_ble_eq_true rfl⟩) 0 0 (Nat.le_of_ble_eq_true rfl) (Nat.le_of_ble_eq_true rfl) (fun rr_64 S_65 H locs hp hw hfr hnw => ?_)
            obtain ⟨hk_66, hp⟩ := hp
            have hO_67 : Ok MR S S_65 := hO_60.call hk_66 (by decide +kernel)
            rcases hp with ⟨f_68, er_69⟩ | ⟨f_68, er_69⟩ <;> subst er_69
            · have z_b_70 := trivial
              refine lv_if_ne (tgt := 83) X.1 X.2.1 dX12_rule_102 (by decide) (fun c_71 => ?_) (fun c_71 => absurd c_71 (by decide))
              have t_72 : At S_65 x 12 := hk_66.fr.at t_63
              have zc_73 : zA S_58 x 1220 = zA S x 1220 := (zA_fr hk_59.fr ha_x_L_46 (ex3 (gQ_12_1220 hO_T_45.1 ha_x_L_46)) (by decide +kernel) (by decide +kernel)).trans zk_50
              have zc_74 : zA S_65 x 1220 = zA S x 1220 := (zA_fr hk_66.fr t_63 (ex3 (gQ_12_1220 hO_60.1 t_63)) (by decide +kernel) (by decide +kernel)).trans zc_73
              exact ih_L_44 _ (by omega) _ _ _ _  rfl hw t_72 hO_67 zc_74 (lv_sub hl [0, 1, 2, 3] rfl)
            · have z_b_75 := trivial
              refine lv_if_ne (tgt := 83) X.1 X.2.1 dX12_rule_102 (by decide) (fun c_76 => absurd c_76 (by decide)) (fun c_76 => ?_)
              refine lv_iconst (v := 0) X.1 X.2.1 dX12_rule_105 (by decide) ?_
              have zc_77 : zA S_58 x 1220 = zA S x 1220 := (zA_fr hk_59.fr ha_x_L_46 (ex3 (gQ_12_1220 hO_T_45.1 ha_x_L_46)) (by decide +kernel) (by decide +kernel)).trans zk_50
              have zc_78 : zA S_65 x 1220 = zA S x 1220 := (zA_fr hk_66.fr t_63 (ex3 (gQ_12_1220 hO_60.1 t_63)) (by decide +kernel) (by decide +kernel)).trans zc_77
              rw [hQQ]
              exact ret_z X hw hr hlocks (Nat.le_of_ble_eq_true rfl) (Nat.le_of_ble_eq_true rfl) (by decide) ⟨hO_67, Or.inr ⟨congrFun zc_78 4, rfl⟩⟩ dX12_rule_106
          · have z_b_79 := trivial
            refine lv_if_eq (tgt := 107) X.1 X.2.1 dX12_rule_90 (by decide) (fun c_80 => ?_) (fun c_80 => absurd c_80 (by decide))
            refine lv_aload_n X.1 X.2.1 dX12_rule_107 rfl (lv_at hl 3 rfl) ?_
            refine lv_ldcwS (q := κ (100 + 24)) X.1 X.2.1 X.2.2.2.2.1 (show vk_R RX12 276 ":" (κ (100 + 24)) s from (X.2.2.2.2.2.2.2.2.2.2.2.2.2.2 24 (by decide)).1) dX12_rule_108 ?_
            refine k_i (rm := { frames := 6, cells := 0, slots := 0, locals := 288 }) (av := [.ref x, .ref (κ (100 + 24))]) X hw (va_runV (As := [.ref (κ (100 + 24))]) (rest := []) (cfix X) (k_X12_must l G cy κ T_45 _ x 24 hO_T_45.1 ha_x_L_46 (by decide)) (cwV 1 X.2.2.2.1 gX12_rule_X12_must rfl rfl rfl (by decide +kernel) ⟨Nat.le_of_ble_eq_true rfl, Nat.le_of_ble_eq_true rfl⟩) (pre_V X hw _ ha_x_L_46 rfl (by decide) rfl) rfl rfl hl.1 rfl (lv_room (Nat.le_of_ble_eq_true rfl)) dX12_rule_111 ⟨Nat.le_of_ble_eq_true rfl, Nat.le_of_ble_eq_true rfl⟩) 0 0 (Nat.le_of_ble_eq_true rfl) (Nat.le_of_ble_eq_true rfl) (fun rr_81 S_82 H locs hp hw hfr hnw => ?_)
            obtain ⟨hk_83, hp⟩ := hp
            have hO_84 : Ok MR S S_82 := hO_T_45.call hk_83 (by decide +kernel)
            rcases hp with ⟨f_85, er_86⟩ | ⟨f_85, er_86⟩ <;> subst er_86
            · have z_b_87 := trivial
              refine lv_if_ne (tgt := 119) X.1 X.2.1 dX12_rule_114 (by decide) (fun c_88 => ?_) (fun c_88 => absurd c_88 (by decide))
              refine lv_aload_n X.1 X.2.1 dX12_rule_119 rfl (lv_at hl 3 rfl) ?_
              refine lv_ldcwS (q := κ (100 + 22)) X.1 X.2.1 X.2.2.2.2.1 (show vk_R RX12 269 "cast drop find throw cut stop " (κ (100 + 22)) s from (X.2.2.2.2.2.2.2.2.2.2.2.2.2.2 22 (by decide)).1) dX12_rule_120 ?_
              have t_89 : At S_82 x 12 := hk_83.fr.at ha_x_L_46
              refine k_i (rm := { frames := 5, cells := 0, slots := 0, locals := 240 }) (av := [.ref x, .ref (κ (100 + 22))]) X hw (va_runV (As := [.ref (κ (100 + 22))]) (rest := []) (cfix X) (k_X12_which l G cy κ S_82 _ x 22 hO_84.1 t_89 (by decide)) (cwV 1 X.2.2.2.1 gX12_rule_X12_which rfl rfl rfl (by decide +kernel) ⟨Nat.le_of_ble_eq_true rfl, Nat.le_of_ble_eq_true rfl⟩) (pre_V X hw _ t_89 rfl (by decide) rfl) rfl rfl hl.1 rfl (lv_room (Nat.le_of_ble_eq_true rfl)) dX12_rule_123 ⟨Nat.le_of_ble_eq_true rfl, Nat.le_of_ble_eq_true rfl⟩) 0 0 (Nat.le_of_ble_eq_true rfl) (Nat.le_of_ble_eq_true rfl) (fun rr_90 S_91 H locs hp hw hfr hnw => ?_)
              obtain ⟨e2, hp⟩ := hp
              subst e2
              have rg_92 := And.intro (z_lo rr_90) (z_hi rr_90)
              refine lv_istore_n (lv' := [(2, .int (rr_90)), (3, .int (v_20)), (1, .int 1), (0, .ref x)]) X.1 X.2.1 dX12_rule_126 rfl hl (by decide) rfl (fun ls hl => ?_)
              refine lv_iload_n X.1 X.2.1 dX12_rule_127 rfl (lv_at hl 0 rfl) ?_
              refine lv_iconst (v := (-1)) X.1 X.2.1 dX12_rule_128 (by decide) ?_
              refine lv_icmp_ne (tgt := 138) X.1 X.2.1 dX12_rule_129 (by decide) (fun c_93 => ?_) (fun c_93 => ?_)
              · have z_b_94 := trivial
                have k_95 : rr_90.toInt ≠ (-1) := z_ne rfl ti_m1 c_93
                refine lv_aload_n X.1 X.2.1 dX12_rule_138 rfl (lv_at hl 3 rfl) ?_
                obtain ⟨q_96, h_97, h_98, h_99⟩ := gQ_12_1221 hO_84.1 t_89
                refine r_getR (g := 1221) X hw t_89 rfl 21 h_97 (by decide) rfl inn_X12_rule_12 (by decide) (X.2.2.2.1 (.fieldLink RX12 64 "SilkMillModel" "act" "[I") (by decide +kernel)) rfl (gv_1221 _ _) dX12_rule_139 ?_
                refine lv_iload_n X.1 X.2.1 dX12_rule_142 rfl (lv_at hl 1 rfl) ?_
                refine lv_iload_n X.1 X.2.1 dX12_rule_143 rfl (lv_at hl 0 rfl) ?_
                refine r_iast X hw h_98 rfl (by rw [h_99]; exact z_ix z_21 (by omega) (by omega)) dX12_rule_144 (fun H locs hw => ?_)
                obtain ⟨S_100, eS_100⟩ : ∃ T, T = sA S_82 q_96 (upd (pA S_82 q_96) (Int32.toNatClampNeg (v_20)) (rr_90)) := ⟨_, rfl⟩
                rw [← eS_100] at hw
                have hO_101 : Ok MR S S_100 := hO_84.sA eS_100 h_98 (by decide +kernel) (uA_634 hO_84.1 h_98)
                have h_102 : pA S_100 q_96 (Int32.toNatClampNeg (v_20)) = rr_90 := tA_sAs eS_100
                refine lv_aload_n X.1 X.2.1 dX12_rule_145 rfl (lv_at hl 3 rfl) ?_
                have t_103 : At S_100 x 12 := tAt_sA eS_100 t_89
                refine k_v (rm := { frames := 2, cells := 0, slots := 0, locals := 96 }) (av := [.ref x]) X hw (va_runV (As := []) (rest := []) (cfix X) (k_X12_token l G cy κ S_100 _ x hO_101.1 t_103) (cwV 0 X.2.2.2.1 gX12_rule_X12_token rfl rfl rfl (by decide +kernel) ⟨Nat.le_of_ble_eq_true rfl, Nat.le_of_ble_eq_true rfl⟩) (pre_V X hw _ t_103 rfl (by decide) rfl) rfl rfl hl.1 rfl (lv_room (Nat.le_of_ble_eq_true rfl)) dX12_rule_146 ⟨Nat.le_of_ble_eq_true rfl, Nat.le_of_ble_eq_true rfl⟩) 0 0 (Nat.le_of_ble_eq_true rfl) (Nat.le_of_ble_eq_true rfl) (fun S_105 H locs hp hw hfr hnw => ?_)
                obtain ⟨hk_106, hp⟩ := hp
                have hO_107 : Ok MR S S_105 := hO_101.call hk_106 (by decide +kernel)
                refine lv_aload_n X.1 X.2.1 dX12_rule_149 rfl (lv_at hl 3 rfl) ?_
                have t_108 : At S_105 x 12 := hk_106.fr.at t_103
                obtain ⟨q_109, h_110, h_111, h_112⟩ := gQ_12_1222 hO_107.1 t_108
                refine r_getR (g := 1222) X hw t_108 rfl 22 h_110 (by decide) rfl inn_X12_rule_12 (by decide) (X.2.2.2.1 (.fieldLink RX12 67 "SilkMillModel" "actNumber" "[I") (by decide +kernel)) rfl (gv_1222 _ _) dX12_rule_150 ?_
                refine lv_iload_n X.1 X.2.1 dX12_rule_153 rfl (lv_at hl 1 rfl) ?_
                refine lv_iload_n X.1 X.2.1 dX12_rule_154 rfl (lv_at hl 0 rfl) ?_
                refine lv_iconst (v := 5) X.1 X.2.1 dX12_rule_155 (by decide) ?_
                refine lv_icmp_ne (tgt := 166) X.1 X.2.1 dX12_rule_156 (by decide) (fun c_113 => ?_) (fun c_113 => ?_)
                · have z_b_114 := trivial
                  have k_115 : rr_90.toInt ≠ 5 := z_ne rfl ti_5 c_113
                  refine lv_iconst (v := 0) X.1 X.2.1 dX12_rule_166 (by decide) ?_
                  refine r_iast X hw h_111 rfl (by rw [h_112]; exact z_ix z_21 (by omega) (by omega)) dX12_rule_167 (fun H locs hw => ?_)
                  obtain ⟨S_116, eS_116⟩ : ∃ T, T = sA S_105 q_109 (upd (pA S_105 q_109) (Int32.toNatClampNeg (v_20)) (0)) := ⟨_, rfl⟩
                  rw [← eS_116] at hw
                  have hO_117 : Ok MR S S_116 := hO_107.sA eS_116 h_111 (by decide +kernel) (uA_654 hO_107.1 h_111)
                  have h_118 : pA S_116 q_109 (Int32.toNatClampNeg (v_20)) = 0 := tA_sAs eS_116
                  refine lv_aload_n X.1 X.2.1 dX12_rule_168 rfl (lv_at hl 3 rfl) ?_
                  refine lv_ldcwS (q := κ (100 + 25)) X.1 X.2.1 X.2.2.2.2.1 (show vk_R RX12 281 ";" (κ (100 + 25)) s from (X.2.2.2.2.2.2.2.2.2.2.2.2.2.2 25 (by decide)).1) dX12_rule_169 ?_
                  have t_119 : At S_116 x 12 := tAt_sA eS_116 t_108
                  refine k_i (rm := { frames := 6, cells := 0, slots := 0, locals := 288 }) (av := [.ref x, .ref (κ (100 + 25))]) X hw (va_runV (As := [.ref (κ (100 + 25))]) (rest := []) (cfix X) (k_X12_must l G cy κ S_116 _ x 25 hO_117.1 t_119 (by decide)) (cwV 1 X.2.2.2.1 gX12_rule_X12_must rfl rfl rfl (by decide +kernel) ⟨Nat.le_of_ble_eq_true rfl, Nat.le_of_ble_eq_true rfl⟩) (pre_V X hw _ t_119 rfl (by decide) rfl) rfl rfl hl.1 rfl (lv_room (Nat.le_of_ble_eq_true rfl)) dX12_rule_172 ⟨Nat.le_of_ble_eq_true rfl, Nat.le_of_ble_eq_true rfl⟩) 0 0 (Nat.le_of_ble_eq_true rfl) (Nat.le_of_ble_eq_true rfl) (fun rr_120 S_121 H locs hp hw hfr hnw => ?_)
                  obtain ⟨hk_122, hp⟩ := hp
                  have hO_123 : Ok MR S S_121 := hO_117.call hk_122 (by decide +kernel)
                  rcases hp with ⟨f_124, er_125⟩ | ⟨f_124, er_125⟩ <;> subst er_125
                  · have z_b_126 := trivial
                    refine lv_if_ne (tgt := 180) X.1 X.2.1 dX12_rule_175 (by decide) (fun c_127 => ?_) (fun c_127 => absurd c_127 (by decide))
                    refine lv_aload_n X.1 X.2.1 dX12_rule_180 rfl (lv_at hl 3 rfl) ?_
                    have t_128 : At S_121 x 12 := hk_122.fr.at t_119
                    obtain ⟨q_129, h_130, h_131, h_132⟩ := gQ_12_1220 hO_123.1 t_128
                    refine r_getR (g := 1220) X hw t_128 rfl 20 h_130 (by decide) rfl inn_X12_rule_12 (by decide) (X.2.2.2.1 (.fieldLink RX12 61 "SilkMillModel" "rules" "[I") (by decide +kernel)) rfl (gv_1220 _ _) dX12_rule_181 ?_
                    refine lv_iconst (v := 4) X.1 X.2.1 dX12_rule_184 (by decide) ?_
                    refine lv_dup2_11 X.1 X.2.1 dX12_rule_185 rfl rfl ?_
                    refine r_iald X hw h_131 rfl (by rw [h_132]; exact z_ix ti_4 (by omega) (by omega)) dX12_rule_186 ?_
                    refine lv_topi (fun v_133 ev_133 => ?_)
                    have z_134 := gE_614 hO_123.1 h_131 (Int32.toNatClampNeg (4)); rw [← ev_133] at z_134
                    have ev_133 := ev_133.symm
                    have zf_135 : zA S_121 x 1220 4 = v_133.toInt := (zA_of (z := 4) h_130 ti_4 (by omega) ev_133)
                    have zc_136 : zA S_82 x 1220 = zA S x 1220 := (zA_fr hk_83.fr ha_x_L_46 (ex3 (gQ_12_1220 hO_T_45.1 ha_x_L_46)) (by decide +kernel) (by decide +kernel)).trans zk_50
                    have zc_137 : zA S_100 x 1220 = zA S x 1220 := (zA_sAn eS_100 (ex3 (gQ_12_1220 hO_84.1 t_89)) h_98 rfl).trans zc_136
                    have zc_138 : zA S_105 x 1220 = zA S x 1220 := (zA_fr hk_106.fr t_103 (ex3 (gQ_12_1220 hO_101.1 t_103)) (by decide +kernel) (by decide +kernel)).trans zc_137
                    have zc_139 : zA S_116 x 1220 = zA S x 1220 := (zA_sAn eS_116 (ex3 (gQ_12_1220 hO_107.1 t_108)) h_111 rfl).trans zc_138
                    have zc_140 : zA S_121 x 1220 = zA S x 1220 := (zA_fr hk_122.fr t_119 (ex3 (gQ_12_1220 hO_117.1 t_119)) (by decide +kernel) (by decide +kernel)).trans zc_139
                    have zz_141 := congrFun zc_140 4
                    refine lv_iconst (v := 1) X.1 X.2.1 dX12_rule_187 (by decide) ?_
                    refine lv_iadd X.1 X.2.1 dX12_rule_188 ?_
                    refine lv_topi (fun v_142 ev_142 => ?_)
                    have z_143 : v_142.toInt = v_133.toInt + 1 := z_add ev_142 rfl ti_1 (by omega) (by omega)
                    refine r_iast X hw h_131 rfl (by rw [h_132]; exact z_ix ti_4 (by omega) (by omega)) dX12_rule_189 (fun H locs hw => ?_)
                    obtain ⟨S_144, eS_144⟩ : ∃ T, T = sA S_121 q_129 (upd (pA S_121 q_129) (Int32.toNatClampNeg (4)) (v_142)) := ⟨_, rfl⟩
                    rw [← eS_144] at hw
                    have hO_145 : Ok MR S S_144 := hO_123.sA eS_144 h_131 (by decide +kernel) (uA_614 hO_123.1 h_131 (by omega) (by omega))
                    have h_146 : pA S_144 q_129 (Int32.toNatClampNeg (4)) = v_142 := tA_sAs eS_144
                    have t_147 : pR S_144 1220 x = some q_129 := tR_sA eS_144 h_130
                    have t_149 : pR S_121 1220 x = some q_129 := by have h := t_147; rw [eS_144, pR_sA] at h; exact h
                    have zs_148 : ∀ j, zA S_144 x 1220 j = if j = (4 : Int).toNat then (v_133.toInt + 1) else zA S_121 x 1220 j := by have h := zA_sAs eS_144 t_149 z_143; rw [z_nc ti_4 (by omega)] at h; exact h
                    have zs_150 : zA S_144 x 1220 4 = (v_133.toInt + 1) := by have h := zs_148 4; rw [if_pos (by decide)] at h; exact h
                    refine lv_iconst (v := 1) X.1 X.2.1 dX12_rule_190 (by decide) ?_
                    rw [hQQ]
                    exact ret_z X hw hr hlocks (Nat.le_of_ble_eq_true rfl) (Nat.le_of_ble_eq_true rfl) (by decide) ⟨hO_145, Or.inl ⟨by omega, rfl⟩⟩ dX12_rule_191
                  · have z_b_151 := trivial
                    refine lv_if_ne (tgt := 180) X.1 X.2.1 dX12_rule_175 (by decide) (fun c_152 => absurd c_152 (by decide)) (fun c_152 => ?_)
                    refine lv_iconst (v := 0) X.1 X.2.1 dX12_rule_178 (by decide) ?_
                    have zc_153 : zA S_82 x 1220 = zA S x 1220 := (zA_fr hk_83.fr ha_x_L_46 (ex3 (gQ_12_1220 hO_T_45.1 ha_x_L_46)) (by decide +kernel) (by decide +kernel)).trans zk_50
                    have zc_154 : zA S_100 x 1220 = zA S x 1220 := (zA_sAn eS_100 (ex3 (gQ_12_1220 hO_84.1 t_89)) h_98 rfl).trans zc_153
                    have zc_155 : zA S_105 x 1220 = zA S x 1220 := (zA_fr hk_106.fr t_103 (ex3 (gQ_12_1220 hO_101.1 t_103)) (by decide +kernel) (by decide +kernel)).trans zc_154
                    have zc_156 : zA S_116 x 1220 = zA S x 1220 := (zA_sAn eS_116 (ex3 (gQ_12_1220 hO_107.1 t_108)) h_111 rfl).trans zc_155
                    have zc_157 : zA S_121 x 1220 = zA S x 1220 := (zA_fr hk_122.fr t_119 (ex3 (gQ_12_1220 hO_117.1 t_119)) (by decide +kernel) (by decide +kernel)).trans zc_156
                    rw [hQQ]
                    exact ret_z X hw hr hlocks (Nat.le_of_ble_eq_true rfl) (Nat.le_of_ble_eq_true rfl) (by decide) ⟨hO_123, Or.inr ⟨congrFun zc_157 4, rfl⟩⟩ dX12_rule_179
                · have z_b_158 := trivial
                  have k_159 : rr_90.toInt = 5 := z_eq rfl ti_5 c_113
                  refine lv_aload_n X.1 X.2.1 dX12_rule_159 rfl (lv_at hl 3 rfl) ?_
                  refine k_i (rm := { frames := 3, cells := 0, slots := 0, locals := 144 }) (av := [.ref x]) X hw (va_runV (As := []) (rest := [.int (v_20), .ref q_109]) (cfix X) (k_X12_number l G cy κ S_105 _ x hO_107.1 t_108) (cwV 0 X.2.2.2.1 gX12_rule_X12_number rfl rfl rfl (by decide +kernel) ⟨Nat.le_of_ble_eq_true rfl, Nat.le_of_ble_eq_true rfl⟩) (pre_V X hw _ t_108 rfl (by decide) rfl) rfl rfl hl.1 rfl (lv_room (Nat.le_of_ble_eq_true rfl)) dX12_rule_160 ⟨Nat.le_of_ble_eq_true rfl, Nat.le_of_ble_eq_true rfl⟩) 0 0 (Nat.le_of_ble_eq_true rfl) (Nat.le_of_ble_eq_true rfl) (fun rr_160 S_161 H locs hp hw hfr hnw => ?_)
                  obtain ⟨hk_162, hp⟩ := hp
                  have hO_163 : Ok MR S S_161 := hO_107.call hk_162 (by decide +kernel)
                  have rg_164 := And.intro (z_lo rr_160) (z_hi rr_160)
                  refine lv_goto (tgt := 167) X.1 X.2.1 dX12_rule_163 (by decide) ?_
                  have t_165 : At S_161 q_109 654 := hk_162.fr.at h_111
                  have t_166 : pN S_161 q_109 = 60 := hk_162.fr.N h_111 h_112
                  clear h_112
                  refine r_iast X hw t_165 rfl (by rw [t_166]; exact z_ix z_21 (by omega) (by omega)) dX12_rule_167 (fun H locs hw => ?_)
                  obtain ⟨S_167, eS_167⟩ : ∃ T, T = sA S_161 q_109 (upd (pA S_161 q_109) (Int32.toNatClampNeg (v_20)) (rr_160)) := ⟨_, rfl⟩
                  rw [← eS_167] at hw
                  have hO_168 : Ok MR S S_167 := hO_163.sA eS_167 t_165 (by decide +kernel) (uA_654 hO_163.1 t_165)
                  have h_169 : pA S_167 q_109 (Int32.toNatClampNeg (v_20)) = rr_160 := tA_sAs eS_167
                  refine lv_aload_n X.1 X.2.1 dX12_rule_168 rfl (lv_at hl 3 rfl) ?_
                  refine lv_ldcwS (q := κ (100 + 25)) X.1 X.2.1 X.2.2.2.2.1 (show vk_R RX12 281 ";" (κ (100 + 25)) s from (X.2.2.2.2.2.2.2.2.2.2.2.2.2.2 25 (by decide)).1) dX12_rule_169 ?_
                  have t_170 : At S_161 x 12 := hk_162.fr.at t_108
                  have t_171 : At S_167 x 12 := tAt_sA eS_167 t_170
                  refine k_i (rm := { frames := 6, cells := 0, slots := 0, locals := 288 }) (av := [.ref x, .ref (κ (100 + 25))]) X hw (va_runV (As := [.ref (κ (100 + 25))]) (rest := []) (cfix X) (k_X12_must l G cy κ S_167 _ x 25 hO_168.1 t_171 (by decide)) (cwV 1 X.2.2.2.1 gX12_rule_X12_must rfl rfl rfl (by decide +kernel) ⟨Nat.le_of_ble_eq_true rfl, Nat.le_of_ble_eq_true rfl⟩) (pre_V X hw _ t_171 rfl (by decide) rfl) rfl rfl hl.1 rfl (lv_room (Nat.le_of_ble_eq_true rfl)) dX12_rule_172 ⟨Nat.le_of_ble_eq_true rfl, Nat.le_of_ble_eq_true rfl⟩) 0 0 (Nat.le_of_ble_eq_true rfl) (Nat.le_of_ble_eq_true rfl) (fun rr_172 S_173 H locs hp hw hfr hnw => ?_)
                  obtain ⟨hk_174, hp⟩ := hp
                  have hO_175 : Ok MR S S_173 := hO_168.call hk_174 (by decide +kernel)
                  rcases hp with ⟨f_176, er_177⟩ | ⟨f_176, er_177⟩ <;> subst er_177
                  · have z_b_178 := trivial
                    refine lv_if_ne (tgt := 180) X.1 X.2.1 dX12_rule_175 (by decide) (fun c_179 => ?_) (fun c_179 => absurd c_179 (by decide))
                    refine lv_aload_n X.1 X.2.1 dX12_rule_180 rfl (lv_at hl 3 rfl) ?_
                    have t_180 : At S_173 x 12 := hk_174.fr.at t_171
                    obtain ⟨q_181, h_182, h_183, h_184⟩ := gQ_12_1220 hO_175.1 t_180
                    refine r_getR (g := 1220) X hw t_180 rfl 20 h_182 (by decide) rfl inn_X12_rule_12 (by decide) (X.2.2.2.1 (.fieldLink RX12 61 "SilkMillModel" "rules" "[I") (by decide +kernel)) rfl (gv_1220 _ _) dX12_rule_181 ?_
                    refine lv_iconst (v := 4) X.1 X.2.1 dX12_rule_184 (by decide) ?_
                    refine lv_dup2_11 X.1 X.2.1 dX12_rule_185 rfl rfl ?_
                    refine r_iald X hw h_183 rfl (by rw [h_184]; exact z_ix ti_4 (by omega) (by omega)) dX12_rule_186 ?_
                    refine lv_topi (fun v_185 ev_185 => ?_)
                    have z_186 := gE_614 hO_175.1 h_183 (Int32.toNatClampNeg (4)); rw [← ev_185] at z_186
                    have ev_185 := ev_185.symm
                    have zf_187 : zA S_173 x 1220 4 = v_185.toInt := (zA_of (z := 4) h_182 ti_4 (by omega) ev_185)
                    have zc_188 : zA S_82 x 1220 = zA S x 1220 := (zA_fr hk_83.fr ha_x_L_46 (ex3 (gQ_12_1220 hO_T_45.1 ha_x_L_46)) (by decide +kernel) (by decide +kernel)).trans zk_50
                    have zc_189 : zA S_100 x 1220 = zA S x 1220 := (zA_sAn eS_100 (ex3 (gQ_12_1220 hO_84.1 t_89)) h_98 rfl).trans zc_188
                    have zc_190 : zA S_105 x 1220 = zA S x 1220 := (zA_fr hk_106.fr t_103 (ex3 (gQ_12_1220 hO_101.1 t_103)) (by decide +kernel) (by decide +kernel)).trans zc_189
                    have zc_191 : zA S_161 x 1220 = zA S x 1220 := (zA_fr hk_162.fr t_108 (ex3 (gQ_12_1220 hO_107.1 t_108)) (by decide +kernel) (by decide +kernel)).trans zc_190
                    have t_192 : At S_161 x 12 := hk_162.fr.at t_108
                    have zc_193 : zA S_167 x 1220 = zA S x 1220 := (zA_sAn eS_167 (ex3 (gQ_12_1220 hO_163.1 t_192)) t_165 rfl).trans zc_191
                    have zc_194 : zA S_173 x 1220 = zA S x 1220 := (zA_fr hk_174.fr t_171 (ex3 (gQ_12_1220 hO_168.1 t_171)) (by decide +kernel) (by decide +kernel)).trans zc_193
                    have zz_195 := congrFun zc_194 4
                    refine lv_iconst (v := 1) X.1 X.2.1 dX12_rule_187 (by decide) ?_
                    refine lv_iadd X.1 X.2.1 dX12_rule_188 ?_
                    refine lv_topi (fun v_196 ev_196 => ?_)
                    have z_197 : v_196.toInt = v_185.toInt + 1 := z_add ev_196 rfl ti_1 (by omega) (by omega)
                    refine r_iast X hw h_183 rfl (by rw [h_184]; exact z_ix ti_4 (by omega) (by omega)) dX12_rule_189 (fun H locs hw => ?_)
                    obtain ⟨S_198, eS_198⟩ : ∃ T, T = sA S_173 q_181 (upd (pA S_173 q_181) (Int32.toNatClampNeg (4)) (v_196)) := ⟨_, rfl⟩
                    rw [← eS_198] at hw
                    have hO_199 : Ok MR S S_198 := hO_175.sA eS_198 h_183 (by decide +kernel) (uA_614 hO_175.1 h_183 (by omega) (by omega))
                    have h_200 : pA S_198 q_181 (Int32.toNatClampNeg (4)) = v_196 := tA_sAs eS_198
                    have t_201 : pR S_198 1220 x = some q_181 := tR_sA eS_198 h_182
                    have t_203 : pR S_173 1220 x = some q_181 := by have h := t_201; rw [eS_198, pR_sA] at h; exact h
                    have zs_202 : ∀ j, zA S_198 x 1220 j = if j = (4 : Int).toNat then (v_185.toInt + 1) else zA S_173 x 1220 j := by have h := zA_sAs eS_198 t_203 z_197; rw [z_nc ti_4 (by omega)] at h; exact h
                    have zs_204 : zA S_198 x 1220 4 = (v_185.toInt + 1) := by have h := zs_202 4; rw [if_pos (by decide)] at h; exact h
                    refine lv_iconst (v := 1) X.1 X.2.1 dX12_rule_190 (by decide) ?_
                    rw [hQQ]
                    exact ret_z X hw hr hlocks (Nat.le_of_ble_eq_true rfl) (Nat.le_of_ble_eq_true rfl) (by decide) ⟨hO_199, Or.inl ⟨by omega, rfl⟩⟩ dX12_rule_191
                  · have z_b_205 := trivial
                    refine lv_if_ne (tgt := 180) X.1 X.2.1 dX12_rule_175 (by decide) (fun c_206 => absurd c_206 (by decide)) (fun c_206 => ?_)
                    refine lv_iconst (v := 0) X.1 X.2.1 dX12_rule_178 (by decide) ?_
                    have zc_207 : zA S_82 x 1220 = zA S x 1220 := (zA_fr hk_83.fr ha_x_L_46 (ex3 (gQ_12_1220 hO_T_45.1 ha_x_L_46)) (by decide +kernel) (by decide +kernel)).trans zk_50
                    have zc_208 : zA S_100 x 1220 = zA S x 1220 := (zA_sAn eS_100 (ex3 (gQ_12_1220 hO_84.1 t_89)) h_98 rfl).trans zc_207
                    have zc_209 : zA S_105 x 1220 = zA S x 1220 := (zA_fr hk_106.fr t_103 (ex3 (gQ_12_1220 hO_101.1 t_103)) (by decide +kernel) (by decide +kernel)).trans zc_208
                    have zc_210 : zA S_161 x 1220 = zA S x 1220 := (zA_fr hk_162.fr t_108 (ex3 (gQ_12_1220 hO_107.1 t_108)) (by decide +kernel) (by decide +kernel)).trans zc_209
                    have t_211 : At S_161 x 12 := hk_162.fr.at t_108
                    have zc_212 : zA S_167 x 1220 = zA S x 1220 := (zA_sAn eS_167 (ex3 (gQ_12_1220 hO_163.1 t_211)) t_165 rfl).trans zc_210
                    have zc_213 : zA S_173 x 1220 = zA S x 1220 := (zA_fr hk_174.fr t_171 (ex3 (gQ_12_1220 hO_168.1 t_171)) (by decide +kernel) (by decide +kernel)).trans zc_212
                    rw [hQQ]
                    exact ret_z X hw hr hlocks (Nat.le_of_ble_eq_true rfl) (Nat.le_of_ble_eq_true rfl) (by decide) ⟨hO_175, Or.inr ⟨congrFun zc_213 4, rfl⟩⟩ dX12_rule_179
              · have z_b_214 := trivial
                have k_215 : rr_90.toInt = (-1) := z_eq rfl ti_m1 c_93
                refine lv_aload_n X.1 X.2.1 dX12_rule_132 rfl (lv_at hl 3 rfl) ?_
                refine lv_iconst (v := 1) X.1 X.2.1 dX12_rule_133 (by decide) ?_
                refine k_i (rm := { frames := 1, cells := 0, slots := 0, locals := 48 }) (av := [.ref x, .int 1]) X hw (va_runV (As := [.int 1]) (rest := []) (cfix X) (k_X12_wrong l G cy κ S_82 _ x (1) (1) hO_84.1 t_89 ti_1) (cwV 1 X.2.2.2.1 gX12_rule_X12_wrong rfl rfl rfl (by decide +kernel) ⟨Nat.le_of_ble_eq_true rfl, Nat.le_of_ble_eq_true rfl⟩) (pre_V X hw _ t_89 rfl (by decide) rfl) rfl rfl hl.1 rfl (lv_room (Nat.le_of_ble_eq_true rfl)) dX12_rule_134 ⟨Nat.le_of_ble_eq_true rfl, Nat.le_of_ble_eq_true rfl⟩) 0 0 (Nat.le_of_ble_eq_true rfl) (Nat.le_of_ble_eq_true rfl) (fun rr_216 S_217 H locs hp hw hfr hnw => ?_)
                obtain ⟨hk_218, hp⟩ := hp
                have hO_219 : Ok MR S S_217 := hO_84.call hk_218 (by decide +kernel)
                rcases hp with ⟨f_220, er_221⟩ | ⟨f_220, er_221⟩ <;> subst er_221
                · have z_b_222 := trivial
                  exact f_220.elim
                · have z_b_223 := trivial
                  have zc_224 : zA S_82 x 1220 = zA S x 1220 := (zA_fr hk_83.fr ha_x_L_46 (ex3 (gQ_12_1220 hO_T_45.1 ha_x_L_46)) (by decide +kernel) (by decide +kernel)).trans zk_50
                  have zc_225 : zA S_217 x 1220 = zA S x 1220 := (zA_fr hk_218.fr t_89 (ex3 (gQ_12_1220 hO_84.1 t_89)) (by decide +kernel) (by decide +kernel)).trans zc_224
                  rw [hQQ]
                  exact ret_z X hw hr hlocks (Nat.le_of_ble_eq_true rfl) (Nat.le_of_ble_eq_true rfl) (by decide) ⟨hO_219, Or.inr ⟨congrFun zc_225 4, rfl⟩⟩ dX12_rule_137
            · have z_b_226 := trivial
              refine lv_if_ne (tgt := 119) X.1 X.2.1 dX12_rule_114 (by decide) (fun c_227 => absurd c_227 (by decide)) (fun c_227 => ?_)
              refine lv_iconst (v := 0) X.1 X.2.1 dX12_rule_117 (by decide) ?_
              have zc_228 : zA S_82 x 1220 = zA S x 1220 := (zA_fr hk_83.fr ha_x_L_46 (ex3 (gQ_12_1220 hO_T_45.1 ha_x_L_46)) (by decide +kernel) (by decide +kernel)).trans zk_50
              rw [hQQ]
              exact ret_z X hw hr hlocks (Nat.le_of_ble_eq_true rfl) (Nat.le_of_ble_eq_true rfl) (by decide) ⟨hO_84, Or.inr ⟨congrFun zc_228 4, rfl⟩⟩ dX12_rule_118
        have t_229 : At S_37 x 12 := hk_38.fr.at t_35
        exact L_44 _ _ _ _ _  rfl hw t_229 hO_39 zc_49 (lv_sub hl [0, 1, 2, 3] rfl)
      · have z_b_230 := trivial
        refine lv_if_ne (tgt := 83) X.1 X.2.1 dX12_rule_78 (by decide) (fun c_231 => absurd c_231 (by decide)) (fun c_231 => ?_)
        refine lv_iconst (v := 0) X.1 X.2.1 dX12_rule_81 (by decide) ?_
        have zc_232 : zA S_26 x 1220 = zA S x 1220 := zA_sAn eS_26 (ex3 (gQ_12_1220 hO.1 ha_x)) h_24 rfl
        have zc_233 : zA S_32 x 1220 = zA S x 1220 := (zA_fr hk_33.fr t_30 (ex3 (gQ_12_1220 hO_27.1 t_30)) (by decide +kernel) (by decide +kernel)).trans zc_232
        have zc_234 : zA S_37 x 1220 = zA S x 1220 := (zA_fr hk_38.fr t_35 (ex3 (gQ_12_1220 hO_34.1 t_35)) (by decide +kernel) (by decide +kernel)).trans zc_233
        rw [hQQ]
        exact ret_z X hw hr hlocks (Nat.le_of_ble_eq_true rfl) (Nat.le_of_ble_eq_true rfl) (by decide) ⟨hO_39, Or.inr ⟨congrFun zc_234 4, rfl⟩⟩ dX12_rule_82
    · have z_b_235 := trivial
      have k_236 : v_14.toInt = 12 := z_eq rfl ti_12 c_17
      refine lv_aload_n X.1 X.2.1 dX12_rule_42 rfl (lv_at hl 2 rfl) ?_
      refine lv_iconst (v := 2) X.1 X.2.1 dX12_rule_43 (by decide) ?_
      refine k_i (rm := { frames := 1, cells := 0, slots := 0, locals := 48 }) (av := [.ref x, .int 2]) X hw (va_runV (As := [.int 2]) (rest := []) (cfix X) (k_X12_wrong l G cy κ S _ x (2) (2) hO.1 ha_x ti_2) (cwV 1 X.2.2.2.1 gX12_rule_X12_wrong rfl rfl rfl (by decide +kernel) ⟨Nat.le_of_ble_eq_true rfl, Nat.le_of_ble_eq_true rfl⟩) (pre_V X hw _ ha_x rfl (by decide) rfl) rfl rfl hl.1 rfl (lv_room (Nat.le_of_ble_eq_true rfl)) dX12_rule_44 ⟨Nat.le_of_ble_eq_true rfl, Nat.le_of_ble_eq_true rfl⟩) 0 0 (Nat.le_of_ble_eq_true rfl) (Nat.le_of_ble_eq_true rfl) (fun rr_237 S_238 H locs hp hw hfr hnw => ?_)
      obtain ⟨hk_239, hp⟩ := hp
      have hO_240 : Ok MR S S_238 := hO.call hk_239 (by decide +kernel)
      rcases hp with ⟨f_241, er_242⟩ | ⟨f_241, er_242⟩ <;> subst er_242
      · have z_b_243 := trivial
        exact f_241.elim
      · have z_b_244 := trivial
        have zc_245 : zA S_238 x 1220 = zA S x 1220 := zA_fr hk_239.fr ha_x (ex3 (gQ_12_1220 hO.1 ha_x)) (by decide +kernel) (by decide +kernel)
        rw [hQQ]
        exact ret_z X hw hr hlocks (Nat.le_of_ble_eq_true rfl) (Nat.le_of_ble_eq_true rfl) (by decide) ⟨hO_240, Or.inr ⟨congrFun zc_245 4, rfl⟩⟩ dX12_rule_47
  · have z_b_246 := trivial
    refine lv_istore_n (lv' := [(1, .int 0), (0, .ref x)]) X.1 X.2.1 dX12_rule_7 rfl hl (by decide) rfl (fun ls hl => ?_)
    refine lv_aload_n X.1 X.2.1 dX12_rule_8 rfl (lv_at hl 1 rfl) ?_
    refine lv_ldcwS (q := κ (100 + 22)) X.1 X.2.1 X.2.2.2.2.1 (show vk_R RX12 269 "cast drop find throw cut stop " (κ (100 + 22)) s from (X.2.2.2.2.2.2.2.2.2.2.2.2.2.2 22 (by decide)).1) dX12_rule_9 ?_
    refine k_i (rm := { frames := 5, cells := 0, slots := 0, locals := 240 }) (av := [.ref x, .ref (κ (100 + 22))]) X hw (va_runV (As := [.ref (κ (100 + 22))]) (rest := []) (cfix X) (k_X12_which l G cy κ S _ x 22 hO.1 ha_x (by decide)) (cwV 1 X.2.2.2.1 gX12_rule_X12_which rfl rfl rfl (by decide +kernel) ⟨Nat.le_of_ble_eq_true rfl, Nat.le_of_ble_eq_true rfl⟩) (pre_V X hw _ ha_x rfl (by decide) rfl) rfl rfl hl.1 rfl (lv_room (Nat.le_of_ble_eq_true rfl)) dX12_rule_12 ⟨Nat.le_of_ble_eq_true rfl, Nat.le_of_ble_eq_true rfl⟩) 0 0 (Nat.le_of_ble_eq_true rfl) (Nat.le_of_ble_eq_true rfl) (fun rr_247 S_248 H locs hp hw hfr hnw => ?_)
    obtain ⟨e2, hp⟩ := hp
    subst e2
    have rg_249 := And.intro (z_lo rr_247) (z_hi rr_247)
    refine lv_istore_n (lv' := [(2, .int (rr_247)), (1, .int 0), (0, .ref x)]) X.1 X.2.1 dX12_rule_15 rfl hl (by decide) rfl (fun ls hl => ?_)
    refine lv_iload_n X.1 X.2.1 dX12_rule_16 rfl (lv_at hl 1 rfl) ?_
    refine lv_if_ne (tgt := 31) X.1 X.2.1 dX12_rule_17 (by decide) (fun c_250 => absurd c_250 (by decide)) (fun c_250 => ?_)
    refine lv_iload_n X.1 X.2.1 dX12_rule_20 rfl (lv_at hl 0 rfl) ?_
    refine lv_iconst (v := (-1)) X.1 X.2.1 dX12_rule_21 (by decide) ?_
    refine lv_icmp_ne (tgt := 31) X.1 X.2.1 dX12_rule_22 (by decide) (fun c_251 => ?_) (fun c_251 => ?_)
    · have z_b_252 := trivial
      have k_253 : rr_247.toInt ≠ (-1) := z_ne rfl ti_m1 c_251
      refine lv_aload_n X.1 X.2.1 dX12_rule_31 rfl (lv_at hl 2 rfl) ?_
      obtain ⟨q_254, h_255, h_256, h_257⟩ := gQ_12_1220 hO.1 ha_x
      refine r_getR (g := 1220) X hw ha_x rfl 20 h_255 (by decide) rfl inn_X12_rule_12 (by decide) (X.2.2.2.1 (.fieldLink RX12 61 "SilkMillModel" "rules" "[I") (by decide +kernel)) rfl (gv_1220 _ _) dX12_rule_32 ?_
      refine lv_iconst (v := 4) X.1 X.2.1 dX12_rule_35 (by decide) ?_
      refine r_iald X hw h_256 rfl (by rw [h_257]; exact z_ix ti_4 (by omega) (by omega)) dX12_rule_36 ?_
      refine lv_topi (fun v_258 ev_258 => ?_)
      have z_259 := gE_614 hO.1 h_256 (Int32.toNatClampNeg (4)); rw [← ev_258] at z_259
      have ev_258 := ev_258.symm
      have zf_260 : zA S x 1220 4 = v_258.toInt := (zA_of (z := 4) h_255 ti_4 (by omega) ev_258)
      refine lv_bipush (v := 12) X.1 X.2.1 dX12_rule_37 (by decide) ?_
      refine lv_icmp_ne (tgt := 48) X.1 X.2.1 dX12_rule_39 (by decide) (fun c_261 => ?_) (fun c_261 => ?_)
      · have z_b_262 := trivial
        have k_263 : v_258.toInt ≠ 12 := z_ne rfl ti_12 c_261
        refine lv_bipush (v := 48) X.1 X.2.1 dX12_rule_48 (by decide) ?_
        refine lv_aload_n X.1 X.2.1 dX12_rule_50 rfl (lv_at hl 2 rfl) ?_
        refine r_getR (g := 1220) X hw ha_x rfl 20 h_255 (by decide) rfl inn_X12_rule_12 (by decide) (X.2.2.2.1 (.fieldLink RX12 61 "SilkMillModel" "rules" "[I") (by decide +kernel)) rfl (gv_1220 _ _) dX12_rule_51 ?_
        refine lv_iconst (v := 4) X.1 X.2.1 dX12_rule_54 (by decide) ?_
        refine r_iald X hw h_256 rfl (by rw [h_257]; exact z_ix ti_4 (by omega) (by omega)) dX12_rule_55 ?_
        rw [ev_258]
        refine lv_iadd X.1 X.2.1 dX12_rule_56 ?_
        refine lv_topi (fun v_264 ev_264 => ?_)
        have z_265 : v_264.toInt = 48 + v_258.toInt := z_add ev_264 ti_48 rfl (by omega) (by omega)
        refine lv_istore_n (lv' := [(3, .int (v_264)), (2, .int (rr_247)), (1, .int 0), (0, .ref x)]) X.1 X.2.1 dX12_rule_57 rfl hl (by decide) rfl (fun ls hl => ?_)
        refine lv_aload_n X.1 X.2.1 dX12_rule_58 rfl (lv_at hl 3 rfl) ?_
        obtain ⟨q_266, h_267, h_268, h_269⟩ := gQ_12_1223 hO.1 ha_x
        refine r_getR (g := 1223) X hw ha_x rfl 23 h_267 (by decide) rfl inn_X12_rule_12 (by decide) (X.2.2.2.1 (.fieldLink RX12 70 "SilkMillModel" "conditions" "[I") (by decide +kernel)) rfl (gv_1223 _ _) dX12_rule_59 ?_
        refine lv_iload_n X.1 X.2.1 dX12_rule_62 rfl (lv_at hl 0 rfl) ?_
        refine lv_iconst (v := 0) X.1 X.2.1 dX12_rule_63 (by decide) ?_
        refine r_iast X hw h_268 rfl (by rw [h_269]; exact z_ix z_265 (by omega) (by omega)) dX12_rule_64 (fun H locs hw => ?_)
        obtain ⟨S_270, eS_270⟩ : ∃ T, T = sA S q_266 (upd (pA S q_266) (Int32.toNatClampNeg (v_264)) (0)) := ⟨_, rfl⟩
        rw [← eS_270] at hw
        have hO_271 : Ok MR S S_270 := hO.sA eS_270 h_268 (by decide +kernel) (uA_674 hO.1 h_268 (by rw [ti_0]; omega) (by rw [ti_0]; omega))
        have h_272 : pA S_270 q_266 (Int32.toNatClampNeg (v_264)) = 0 := tA_sAs eS_270
        refine lv_iload_n X.1 X.2.1 dX12_rule_65 rfl (lv_at hl 2 rfl) ?_
        refine lv_if_eq (tgt := 138) X.1 X.2.1 dX12_rule_66 (by decide) (fun c_273 => ?_) (fun c_273 => absurd c_273 (by decide))
        refine lv_aload_n X.1 X.2.1 dX12_rule_138 rfl (lv_at hl 3 rfl) ?_
        have t_274 : At S_270 x 12 := tAt_sA eS_270 ha_x
        obtain ⟨q_275, h_276, h_277, h_278⟩ := gQ_12_1221 hO_271.1 t_274
        refine r_getR (g := 1221) X hw t_274 rfl 21 h_276 (by decide) rfl inn_X12_rule_12 (by decide) (X.2.2.2.1 (.fieldLink RX12 64 "SilkMillModel" "act" "[I") (by decide +kernel)) rfl (gv_1221 _ _) dX12_rule_139 ?_
        refine lv_iload_n X.1 X.2.1 dX12_rule_142 rfl (lv_at hl 0 rfl) ?_
        refine lv_iload_n X.1 X.2.1 dX12_rule_143 rfl (lv_at hl 1 rfl) ?_
        refine r_iast X hw h_277 rfl (by rw [h_278]; exact z_ix z_265 (by omega) (by omega)) dX12_rule_144 (fun H locs hw => ?_)
        obtain ⟨S_279, eS_279⟩ : ∃ T, T = sA S_270 q_275 (upd (pA S_270 q_275) (Int32.toNatClampNeg (v_264)) (rr_247)) := ⟨_, rfl⟩
        rw [← eS_279] at hw
        have hO_280 : Ok MR S S_279 := hO_271.sA eS_279 h_277 (by decide +kernel) (uA_634 hO_271.1 h_277)
        have h_281 : pA S_279 q_275 (Int32.toNatClampNeg (v_264)) = rr_247 := tA_sAs eS_279
        refine lv_aload_n X.1 X.2.1 dX12_rule_145 rfl (lv_at hl 3 rfl) ?_
        have t_282 : At S_279 x 12 := tAt_sA eS_279 t_274
        refine k_v (rm := { frames := 2, cells := 0, slots := 0, locals := 96 }) (av := [.ref x]) X hw (va_runV (As := []) (rest := []) (cfix X) (k_X12_token l G cy κ S_279 _ x hO_280.1 t_282) (cwV 0 X.2.2.2.1 gX12_rule_X12_token rfl rfl rfl (by decide +kernel) ⟨Nat.le_of_ble_eq_true rfl, Nat.le_of_ble_eq_true rfl⟩) (pre_V X hw _ t_282 rfl (by decide) rfl) rfl rfl hl.1 rfl (lv_room (Nat.le_of_ble_eq_true rfl)) dX12_rule_146 ⟨Nat.le_of_ble_eq_true rfl, Nat.le_of_ble_eq_true rfl⟩) 0 0 (Nat.le_of_ble_eq_true rfl) (Nat.le_of_ble_eq_true rfl) (fun S_284 H locs hp hw hfr hnw => ?_)
        obtain ⟨hk_285, hp⟩ := hp
        have hO_286 : Ok MR S S_284 := hO_280.call hk_285 (by decide +kernel)
        refine lv_aload_n X.1 X.2.1 dX12_rule_149 rfl (lv_at hl 3 rfl) ?_
        have t_287 : At S_284 x 12 := hk_285.fr.at t_282
        obtain ⟨q_288, h_289, h_290, h_291⟩ := gQ_12_1222 hO_286.1 t_287
        refine r_getR (g := 1222) X hw t_287 rfl 22 h_289 (by decide) rfl inn_X12_rule_12 (by decide) (X.2.2.2.1 (.fieldLink RX12 67 "SilkMillModel" "actNumber" "[I") (by decide +kernel)) rfl (gv_1222 _ _) dX12_rule_150 ?_
        refine lv_iload_n X.1 X.2.1 dX12_rule_153 rfl (lv_at hl 0 rfl) ?_
        refine lv_iload_n X.1 X.2.1 dX12_rule_154 rfl (lv_at hl 1 rfl) ?_
        refine lv_iconst (v := 5) X.1 X.2.1 dX12_rule_155 (by decide) ?_
        refine lv_icmp_ne (tgt := 166) X.1 X.2.1 dX12_rule_156 (by decide) (fun c_292 => ?_) (fun c_292 => ?_)
        · have z_b_293 := trivial
          have k_294 : rr_247.toInt ≠ 5 := z_ne rfl ti_5 c_292
          refine lv_iconst (v := 0) X.1 X.2.1 dX12_rule_166 (by decide) ?_
          refine r_iast X hw h_290 rfl (by rw [h_291]; exact z_ix z_265 (by omega) (by omega)) dX12_rule_167 (fun H locs hw => ?_)
          obtain ⟨S_295, eS_295⟩ : ∃ T, T = sA S_284 q_288 (upd (pA S_284 q_288) (Int32.toNatClampNeg (v_264)) (0)) := ⟨_, rfl⟩
          rw [← eS_295] at hw
          have hO_296 : Ok MR S S_295 := hO_286.sA eS_295 h_290 (by decide +kernel) (uA_654 hO_286.1 h_290)
          have h_297 : pA S_295 q_288 (Int32.toNatClampNeg (v_264)) = 0 := tA_sAs eS_295
          refine lv_aload_n X.1 X.2.1 dX12_rule_168 rfl (lv_at hl 3 rfl) ?_
          refine lv_ldcwS (q := κ (100 + 25)) X.1 X.2.1 X.2.2.2.2.1 (show vk_R RX12 281 ";" (κ (100 + 25)) s from (X.2.2.2.2.2.2.2.2.2.2.2.2.2.2 25 (by decide)).1) dX12_rule_169 ?_
          have t_298 : At S_295 x 12 := tAt_sA eS_295 t_287
          refine k_i (rm := { frames := 6, cells := 0, slots := 0, locals := 288 }) (av := [.ref x, .ref (κ (100 + 25))]) X hw (va_runV (As := [.ref (κ (100 + 25))]) (rest := []) (cfix X) (k_X12_must l G cy κ S_295 _ x 25 hO_296.1 t_298 (by decide)) (cwV 1 X.2.2.2.1 gX12_rule_X12_must rfl rfl rfl (by decide +kernel) ⟨Nat.le_of_ble_eq_true rfl, Nat.le_of_ble_eq_true rfl⟩) (pre_V X hw _ t_298 rfl (by decide) rfl) rfl rfl hl.1 rfl (lv_room (Nat.le_of_ble_eq_true rfl)) dX12_rule_172 ⟨Nat.le_of_ble_eq_true rfl, Nat.le_of_ble_eq_true rfl⟩) 0 0 (Nat.le_of_ble_eq_true rfl) (Nat.le_of_ble_eq_true rfl) (fun rr_299 S_300 H locs hp hw hfr hnw => ?_)
          obtain ⟨hk_301, hp⟩ := hp
          have hO_302 : Ok MR S S_300 := hO_296.call hk_301 (by decide +kernel)
          rcases hp with ⟨f_303, er_304⟩ | ⟨f_303, er_304⟩ <;> subst er_304
          · have z_b_305 := trivial
            refine lv_if_ne (tgt := 180) X.1 X.2.1 dX12_rule_175 (by decide) (fun c_306 => ?_) (fun c_306 => absurd c_306 (by decide))
            refine lv_aload_n X.1 X.2.1 dX12_rule_180 rfl (lv_at hl 3 rfl) ?_
            have t_307 : At S_300 x 12 := hk_301.fr.at t_298
            have t_308 : pR S_270 1220 x = some q_254 := tR_sA eS_270 h_255
            have t_309 : pR S_279 1220 x = some q_254 := tR_sA eS_279 t_308
            have t_310 : pR S_284 1220 x = some q_254 := hk_285.fr.R' (by decide +kernel) t_282 t_309
            have t_311 : pR S_295 1220 x = some q_254 := tR_sA eS_295 t_310
            have t_312 : pR S_300 1220 x = some q_254 := hk_301.fr.R' (by decide +kernel) t_298 t_311
            refine r_getR (g := 1220) X hw t_307 rfl 20 t_312 (by decide) rfl inn_X12_rule_12 (by decide) (X.2.2.2.1 (.fieldLink RX12 61 "SilkMillModel" "rules" "[I") (by decide +kernel)) rfl (gv_1220 _ _) dX12_rule_181 ?_
            refine lv_iconst (v := 4) X.1 X.2.1 dX12_rule_184 (by decide) ?_
            refine lv_dup2_11 X.1 X.2.1 dX12_rule_185 rfl rfl ?_
            have t_313 : At S_270 q_254 614 := tAt_sA eS_270 h_256
            have t_314 : At S_279 q_254 614 := tAt_sA eS_279 t_313
            have t_315 : At S_284 q_254 614 := hk_285.fr.at t_314
            have t_316 : At S_295 q_254 614 := tAt_sA eS_295 t_315
            have t_317 : At S_300 q_254 614 := hk_301.fr.at t_316
            have t_318 : pN S_270 q_254 = 5 := tN_sA eS_270 h_257
            clear h_257
            have t_319 : pN S_279 q_254 = 5 := tN_sA eS_279 t_318
            clear t_318
            have t_321 : At S_270 q_254 614 := tAt_sA eS_270 h_256
            have t_322 : At S_279 q_254 614 := tAt_sA eS_279 t_321
            have t_320 : pN S_284 q_254 = 5 := hk_285.fr.N t_322 t_319
            clear t_319
            have t_323 : pN S_295 q_254 = 5 := tN_sA eS_295 t_320
            clear t_320
            have t_325 : At S_284 q_254 614 := hk_285.fr.at t_322
            have t_326 : At S_295 q_254 614 := tAt_sA eS_295 t_325
            have t_324 : pN S_300 q_254 = 5 := hk_301.fr.N t_326 t_323
            clear t_323
            refine r_iald X hw t_317 rfl (by rw [t_324]; exact z_ix ti_4 (by omega) (by omega)) dX12_rule_186 ?_
            have t_327 : pA S_270 q_254 (Int32.toNatClampNeg (4)) = v_258 := tA_sA eS_270 (At_ne h_256 h_268 (by decide)) ev_258
            have t_329 : At S_270 q_254 614 := tAt_sA eS_270 h_256
            have t_328 : pA S_279 q_254 (Int32.toNatClampNeg (4)) = v_258 := tA_sA eS_279 (At_ne t_329 h_277 (by decide)) t_327
            have t_330 : pA S_284 q_254 (Int32.toNatClampNeg (4)) = v_258 := (congrFun (hk_285.fr.A' (by decide +kernel) t_322) _).trans t_328
            have t_332 : At S_284 q_254 614 := hk_285.fr.at t_322
            have t_331 : pA S_295 q_254 (Int32.toNatClampNeg (4)) = v_258 := tA_sA eS_295 (At_ne t_332 h_290 (by decide)) t_330
            have t_333 : pA S_300 q_254 (Int32.toNatClampNeg (4)) = v_258 := (congrFun (hk_301.fr.A' (by decide +kernel) t_326) _).trans t_331
            rw [t_333]
            refine lv_iconst (v := 1) X.1 X.2.1 dX12_rule_187 (by decide) ?_
            refine lv_iadd X.1 X.2.1 dX12_rule_188 ?_
            refine lv_topi (fun v_334 ev_334 => ?_)
            have z_335 : v_334.toInt = v_258.toInt + 1 := z_add ev_334 rfl ti_1 (by omega) (by omega)
            refine r_iast X hw t_317 rfl (by rw [t_324]; exact z_ix ti_4 (by omega) (by omega)) dX12_rule_189 (fun H locs hw => ?_)
            obtain ⟨S_336, eS_336⟩ : ∃ T, T = sA S_300 q_254 (upd (pA S_300 q_254) (Int32.toNatClampNeg (4)) (v_334)) := ⟨_, rfl⟩
            rw [← eS_336] at hw
            have hO_337 : Ok MR S S_336 := hO_302.sA eS_336 t_317 (by decide +kernel) (uA_614 hO_302.1 t_317 (by omega) (by omega))
            have h_338 : pA S_336 q_254 (Int32.toNatClampNeg (4)) = v_334 := tA_sAs eS_336
            have t_339 : pR S_336 1220 x = some q_254 := tR_sA eS_336 t_312
            have t_341 : pR S_300 1220 x = some q_254 := by have h := t_339; rw [eS_336, pR_sA] at h; exact h
            have zs_340 : ∀ j, zA S_336 x 1220 j = if j = (4 : Int).toNat then (v_258.toInt + 1) else zA S_300 x 1220 j := by have h := zA_sAs eS_336 t_341 z_335; rw [z_nc ti_4 (by omega)] at h; exact h
            have zs_342 : zA S_336 x 1220 4 = (v_258.toInt + 1) := by have h := zs_340 4; rw [if_pos (by decide)] at h; exact h
            refine lv_iconst (v := 1) X.1 X.2.1 dX12_rule_190 (by decide) ?_
            rw [hQQ]
            exact ret_z X hw hr hlocks (Nat.le_of_ble_eq_true rfl) (Nat.le_of_ble_eq_true rfl) (by decide) ⟨hO_337, Or.inl ⟨by omega, rfl⟩⟩ dX12_rule_191
          · have z_b_343 := trivial
            refine lv_if_ne (tgt := 180) X.1 X.2.1 dX12_rule_175 (by decide) (fun c_344 => absurd c_344 (by decide)) (fun c_344 => ?_)
            refine lv_iconst (v := 0) X.1 X.2.1 dX12_rule_178 (by decide) ?_
            have zc_345 : zA S_270 x 1220 = zA S x 1220 := zA_sAn eS_270 (ex3 (gQ_12_1220 hO.1 ha_x)) h_268 rfl
            have zc_346 : zA S_279 x 1220 = zA S x 1220 := (zA_sAn eS_279 (ex3 (gQ_12_1220 hO_271.1 t_274)) h_277 rfl).trans zc_345
            have zc_347 : zA S_284 x 1220 = zA S x 1220 := (zA_fr hk_285.fr t_282 (ex3 (gQ_12_1220 hO_280.1 t_282)) (by decide +kernel) (by decide +kernel)).trans zc_346
            have zc_348 : zA S_295 x 1220 = zA S x 1220 := (zA_sAn eS_295 (ex3 (gQ_12_1220 hO_286.1 t_287)) h_290 rfl).trans zc_347
            have zc_349 : zA S_300 x 1220 = zA S x 1220 := (zA_fr hk_301.fr t_298 (ex3 (gQ_12_1220 hO_296.1 t_298)) (by decide +kernel) (by decide +kernel)).trans zc_348
            rw [hQQ]
            exact ret_z X hw hr hlocks (Nat.le_of_ble_eq_true rfl) (Nat.le_of_ble_eq_true rfl) (by decide) ⟨hO_302, Or.inr ⟨congrFun zc_349 4, rfl⟩⟩ dX12_rule_179
        · have z_b_350 := trivial
          have k_351 : rr_247.toInt = 5 := z_eq rfl ti_5 c_292
          refine lv_aload_n X.1 X.2.1 dX12_rule_159 rfl (lv_at hl 3 rfl) ?_
          refine k_i (rm := { frames := 3, cells := 0, slots := 0, locals := 144 }) (av := [.ref x]) X hw (va_runV (As := []) (rest := [.int (v_264), .ref q_288]) (cfix X) (k_X12_number l G cy κ S_284 _ x hO_286.1 t_287) (cwV 0 X.2.2.2.1 gX12_rule_X12_number rfl rfl rfl (by decide +kernel) ⟨Nat.le_of_ble_eq_true rfl, Nat.le_of_ble_eq_true rfl⟩) (pre_V X hw _ t_287 rfl (by decide) rfl) rfl rfl hl.1 rfl (lv_room (Nat.le_of_ble_eq_true rfl)) dX12_rule_160 ⟨Nat.le_of_ble_eq_true rfl, Nat.le_of_ble_eq_true rfl⟩) 0 0 (Nat.le_of_ble_eq_true rfl) (Nat.le_of_ble_eq_true rfl) (fun rr_352 S_353 H locs hp hw hfr hnw => ?_)
          obtain ⟨hk_354, hp⟩ := hp
          have hO_355 : Ok MR S S_353 := hO_286.call hk_354 (by decide +kernel)
          have rg_356 := And.intro (z_lo rr_352) (z_hi rr_352)
          refine lv_goto (tgt := 167) X.1 X.2.1 dX12_rule_163 (by decide) ?_
          have t_357 : At S_353 q_288 654 := hk_354.fr.at h_290
          have t_358 : pN S_353 q_288 = 60 := hk_354.fr.N h_290 h_291
          clear h_291
          refine r_iast X hw t_357 rfl (by rw [t_358]; exact z_ix z_265 (by omega) (by omega)) dX12_rule_167 (fun H locs hw => ?_)
          obtain ⟨S_359, eS_359⟩ : ∃ T, T = sA S_353 q_288 (upd (pA S_353 q_288) (Int32.toNatClampNeg (v_264)) (rr_352)) := ⟨_, rfl⟩
          rw [← eS_359] at hw
          have hO_360 : Ok MR S S_359 := hO_355.sA eS_359 t_357 (by decide +kernel) (uA_654 hO_355.1 t_357)
          have h_361 : pA S_359 q_288 (Int32.toNatClampNeg (v_264)) = rr_352 := tA_sAs eS_359
          refine lv_aload_n X.1 X.2.1 dX12_rule_168 rfl (lv_at hl 3 rfl) ?_
          refine lv_ldcwS (q := κ (100 + 25)) X.1 X.2.1 X.2.2.2.2.1 (show vk_R RX12 281 ";" (κ (100 + 25)) s from (X.2.2.2.2.2.2.2.2.2.2.2.2.2.2 25 (by decide)).1) dX12_rule_169 ?_
          have t_362 : At S_353 x 12 := hk_354.fr.at t_287
          have t_363 : At S_359 x 12 := tAt_sA eS_359 t_362
          refine k_i (rm := { frames := 6, cells := 0, slots := 0, locals := 288 }) (av := [.ref x, .ref (κ (100 + 25))]) X hw (va_runV (As := [.ref (κ (100 + 25))]) (rest := []) (cfix X) (k_X12_must l G cy κ S_359 _ x 25 hO_360.1 t_363 (by decide)) (cwV 1 X.2.2.2.1 gX12_rule_X12_must rfl rfl rfl (by decide +kernel) ⟨Nat.le_of_ble_eq_true rfl, Nat.le_of_ble_eq_true rfl⟩) (pre_V X hw _ t_363 rfl (by decide) rfl) rfl rfl hl.1 rfl (lv_room (Nat.le_of_ble_eq_true rfl)) dX12_rule_172 ⟨Nat.le_of_ble_eq_true rfl, Nat.le_of_ble_eq_true rfl⟩) 0 0 (Nat.le_of_ble_eq_true rfl) (Nat.le_of_ble_eq_true rfl) (fun rr_364 S_365 H locs hp hw hfr hnw => ?_)
          obtain ⟨hk_366, hp⟩ := hp
          have hO_367 : Ok MR S S_365 := hO_360.call hk_366 (by decide +kernel)
          rcases hp with ⟨f_368, er_369⟩ | ⟨f_368, er_369⟩ <;> subst er_369
          · have z_b_370 := trivial
            refine lv_if_ne (tgt := 180) X.1 X.2.1 dX12_rule_175 (by decide) (fun c_371 => ?_) (fun c_371 => absurd c_371 (by decide))
            refine lv_aload_n X.1 X.2.1 dX12_rule_180 rfl (lv_at hl 3 rfl) ?_
            have t_372 : At S_365 x 12 := hk_366.fr.at t_363
            have t_373 : pR S_270 1220 x = some q_254 := tR_sA eS_270 h_255
            have t_374 : pR S_279 1220 x = some q_254 := tR_sA eS_279 t_373
            have t_375 : pR S_284 1220 x = some q_254 := hk_285.fr.R' (by decide +kernel) t_282 t_374
            have t_376 : pR S_353 1220 x = some q_254 := hk_354.fr.R' (by decide +kernel) t_287 t_375
            have t_377 : pR S_359 1220 x = some q_254 := tR_sA eS_359 t_376
            have t_378 : pR S_365 1220 x = some q_254 := hk_366.fr.R' (by decide +kernel) t_363 t_377
            refine r_getR (g := 1220) X hw t_372 rfl 20 t_378 (by decide) rfl inn_X12_rule_12 (by decide) (X.2.2.2.1 (.fieldLink RX12 61 "SilkMillModel" "rules" "[I") (by decide +kernel)) rfl (gv_1220 _ _) dX12_rule_181 ?_
            refine lv_iconst (v := 4) X.1 X.2.1 dX12_rule_184 (by decide) ?_
            refine lv_dup2_11 X.1 X.2.1 dX12_rule_185 rfl rfl ?_
            have t_379 : At S_270 q_254 614 := tAt_sA eS_270 h_256
            have t_380 : At S_279 q_254 614 := tAt_sA eS_279 t_379
            have t_381 : At S_284 q_254 614 := hk_285.fr.at t_380
            have t_382 : At S_353 q_254 614 := hk_354.fr.at t_381
            have t_383 : At S_359 q_254 614 := tAt_sA eS_359 t_382
            have t_384 : At S_365 q_254 614 := hk_366.fr.at t_383
            have t_385 : pN S_270 q_254 = 5 := tN_sA eS_270 h_257
            clear h_257
            have t_386 : pN S_279 q_254 = 5 := tN_sA eS_279 t_385
            clear t_385
            have t_388 : At S_270 q_254 614 := tAt_sA eS_270 h_256
            have t_389 : At S_279 q_254 614 := tAt_sA eS_279 t_388
            have t_387 : pN S_284 q_254 = 5 := hk_285.fr.N t_389 t_386
            clear t_386
            have t_391 : At S_284 q_254 614 := hk_285.fr.at t_389
            have t_390 : pN S_353 q_254 = 5 := hk_354.fr.N t_391 t_387
            clear t_387
            have t_392 : pN S_359 q_254 = 5 := tN_sA eS_359 t_390
            clear t_390
            have t_394 : At S_353 q_254 614 := hk_354.fr.at t_391
            have t_395 : At S_359 q_254 614 := tAt_sA eS_359 t_394
            have t_393 : pN S_365 q_254 = 5 := hk_366.fr.N t_395 t_392
            clear t_392
            refine r_iald X hw t_384 rfl (by rw [t_393]; exact z_ix ti_4 (by omega) (by omega)) dX12_rule_186 ?_
            have t_396 : pA S_270 q_254 (Int32.toNatClampNeg (4)) = v_258 := tA_sA eS_270 (At_ne h_256 h_268 (by decide)) ev_258
            have t_398 : At S_270 q_254 614 := tAt_sA eS_270 h_256
            have t_397 : pA S_279 q_254 (Int32.toNatClampNeg (4)) = v_258 := tA_sA eS_279 (At_ne t_398 h_277 (by decide)) t_396
            have t_399 : pA S_284 q_254 (Int32.toNatClampNeg (4)) = v_258 := (congrFun (hk_285.fr.A' (by decide +kernel) t_389) _).trans t_397
            have t_400 : pA S_353 q_254 (Int32.toNatClampNeg (4)) = v_258 := (congrFun (hk_354.fr.A' (by decide +kernel) t_391) _).trans t_399
            have t_402 : At S_353 q_254 614 := hk_354.fr.at t_391
            have t_401 : pA S_359 q_254 (Int32.toNatClampNeg (4)) = v_258 := tA_sA eS_359 (At_ne t_402 t_357 (by decide)) t_400
            have t_403 : pA S_365 q_254 (Int32.toNatClampNeg (4)) = v_258 := (congrFun (hk_366.fr.A' (by decide +kernel) t_395) _).trans t_401
            rw [t_403]
            refine lv_iconst (v := 1) X.1 X.2.1 dX12_rule_187 (by decide) ?_
            refine lv_iadd X.1 X.2.1 dX12_rule_188 ?_
            refine lv_topi (fun v_404 ev_404 => ?_)
            have z_405 : v_404.toInt = v_258.toInt + 1 := z_add ev_404 rfl ti_1 (by omega) (by omega)
            refine r_iast X hw t_384 rfl (by rw [t_393]; exact z_ix ti_4 (by omega) (by omega)) dX12_rule_189 (fun H locs hw => ?_)
            obtain ⟨S_406, eS_406⟩ : ∃ T, T = sA S_365 q_254 (upd (pA S_365 q_254) (Int32.toNatClampNeg (4)) (v_404)) := ⟨_, rfl⟩
            rw [← eS_406] at hw
            have hO_407 : Ok MR S S_406 := hO_367.sA eS_406 t_384 (by decide +kernel) (uA_614 hO_367.1 t_384 (by omega) (by omega))
            have h_408 : pA S_406 q_254 (Int32.toNatClampNeg (4)) = v_404 := tA_sAs eS_406
            have t_409 : pR S_406 1220 x = some q_254 := tR_sA eS_406 t_378
            have t_411 : pR S_365 1220 x = some q_254 := by have h := t_409; rw [eS_406, pR_sA] at h; exact h
            have zs_410 : ∀ j, zA S_406 x 1220 j = if j = (4 : Int).toNat then (v_258.toInt + 1) else zA S_365 x 1220 j := by have h := zA_sAs eS_406 t_411 z_405; rw [z_nc ti_4 (by omega)] at h; exact h
            have zs_412 : zA S_406 x 1220 4 = (v_258.toInt + 1) := by have h := zs_410 4; rw [if_pos (by decide)] at h; exact h
            refine lv_iconst (v := 1) X.1 X.2.1 dX12_rule_190 (by decide) ?_
            rw [hQQ]
            exact ret_z X hw hr hlocks (Nat.le_of_ble_eq_true rfl) (Nat.le_of_ble_eq_true rfl) (by decide) ⟨hO_407, Or.inl ⟨by omega, rfl⟩⟩ dX12_rule_191
          · have z_b_413 := trivial
            refine lv_if_ne (tgt := 180) X.1 X.2.1 dX12_rule_175 (by decide) (fun c_414 => absurd c_414 (by decide)) (fun c_414 => ?_)
            refine lv_iconst (v := 0) X.1 X.2.1 dX12_rule_178 (by decide) ?_
            have zc_415 : zA S_270 x 1220 = zA S x 1220 := zA_sAn eS_270 (ex3 (gQ_12_1220 hO.1 ha_x)) h_268 rfl
            have zc_416 : zA S_279 x 1220 = zA S x 1220 := (zA_sAn eS_279 (ex3 (gQ_12_1220 hO_271.1 t_274)) h_277 rfl).trans zc_415
            have zc_417 : zA S_284 x 1220 = zA S x 1220 := (zA_fr hk_285.fr t_282 (ex3 (gQ_12_1220 hO_280.1 t_282)) (by decide +kernel) (by decide +kernel)).trans zc_416
            have zc_418 : zA S_353 x 1220 = zA S x 1220 := (zA_fr hk_354.fr t_287 (ex3 (gQ_12_1220 hO_286.1 t_287)) (by decide +kernel) (by decide +kernel)).trans zc_417
            have t_419 : At S_353 x 12 := hk_354.fr.at t_287
            have zc_420 : zA S_359 x 1220 = zA S x 1220 := (zA_sAn eS_359 (ex3 (gQ_12_1220 hO_355.1 t_419)) t_357 rfl).trans zc_418
            have zc_421 : zA S_365 x 1220 = zA S x 1220 := (zA_fr hk_366.fr t_363 (ex3 (gQ_12_1220 hO_360.1 t_363)) (by decide +kernel) (by decide +kernel)).trans zc_420
            rw [hQQ]
            exact ret_z X hw hr hlocks (Nat.le_of_ble_eq_true rfl) (Nat.le_of_ble_eq_true rfl) (by decide) ⟨hO_367, Or.inr ⟨congrFun zc_421 4, rfl⟩⟩ dX12_rule_179
      · have z_b_422 := trivial
        have k_423 : v_258.toInt = 12 := z_eq rfl ti_12 c_261
        refine lv_aload_n X.1 X.2.1 dX12_rule_42 rfl (lv_at hl 2 rfl) ?_
        refine lv_iconst (v := 2) X.1 X.2.1 dX12_rule_43 (by decide) ?_
        refine k_i (rm := { frames := 1, cells := 0, slots := 0, locals := 48 }) (av := [.ref x, .int 2]) X hw (va_runV (As := [.int 2]) (rest := []) (cfix X) (k_X12_wrong l G cy κ S _ x (2) (2) hO.1 ha_x ti_2) (cwV 1 X.2.2.2.1 gX12_rule_X12_wrong rfl rfl rfl (by decide +kernel) ⟨Nat.le_of_ble_eq_true rfl, Nat.le_of_ble_eq_true rfl⟩) (pre_V X hw _ ha_x rfl (by decide) rfl) rfl rfl hl.1 rfl (lv_room (Nat.le_of_ble_eq_true rfl)) dX12_rule_44 ⟨Nat.le_of_ble_eq_true rfl, Nat.le_of_ble_eq_true rfl⟩) 0 0 (Nat.le_of_ble_eq_true rfl) (Nat.le_of_ble_eq_true rfl) (fun rr_424 S_425 H locs hp hw hfr hnw => ?_)
        obtain ⟨hk_426, hp⟩ := hp
        have hO_427 : Ok MR S S_425 := hO.call hk_426 (by decide +kernel)
        rcases hp with ⟨f_428, er_429⟩ | ⟨f_428, er_429⟩ <;> subst er_429
        · have z_b_430 := trivial
          exact f_428.elim
        · have z_b_431 := trivial
          have zc_432 : zA S_425 x 1220 = zA S x 1220 := zA_fr hk_426.fr ha_x (ex3 (gQ_12_1220 hO.1 ha_x)) (by decide +kernel) (by decide +kernel)
          rw [hQQ]
          exact ret_z X hw hr hlocks (Nat.le_of_ble_eq_true rfl) (Nat.le_of_ble_eq_true rfl) (by decide) ⟨hO_427, Or.inr ⟨congrFun zc_432 4, rfl⟩⟩ dX12_rule_47
    · have z_b_433 := trivial
      have k_434 : rr_247.toInt = (-1) := z_eq rfl ti_m1 c_251
      refine lv_aload_n X.1 X.2.1 dX12_rule_25 rfl (lv_at hl 2 rfl) ?_
      refine lv_iconst (v := 1) X.1 X.2.1 dX12_rule_26 (by decide) ?_
      refine k_i (rm := { frames := 1, cells := 0, slots := 0, locals := 48 }) (av := [.ref x, .int 1]) X hw (va_runV (As := [.int 1]) (rest := []) (cfix X) (k_X12_wrong l G cy κ S _ x (1) (1) hO.1 ha_x ti_1) (cwV 1 X.2.2.2.1 gX12_rule_X12_wrong rfl rfl rfl (by decide +kernel) ⟨Nat.le_of_ble_eq_true rfl, Nat.le_of_ble_eq_true rfl⟩) (pre_V X hw _ ha_x rfl (by decide) rfl) rfl rfl hl.1 rfl (lv_room (Nat.le_of_ble_eq_true rfl)) dX12_rule_27 ⟨Nat.le_of_ble_eq_true rfl, Nat.le_of_ble_eq_true rfl⟩) 0 0 (Nat.le_of_ble_eq_true rfl) (Nat.le_of_ble_eq_true rfl) (fun rr_435 S_436 H locs hp hw hfr hnw => ?_)
      obtain ⟨hk_437, hp⟩ := hp
      have hO_438 : Ok MR S S_436 := hO.call hk_437 (by decide +kernel)
      rcases hp with ⟨f_439, er_440⟩ | ⟨f_439, er_440⟩ <;> subst er_440
      · have z_b_441 := trivial
        exact f_439.elim
      · have z_b_442 := trivial
        have zc_443 : zA S_436 x 1220 = zA S x 1220 := zA_fr hk_437.fr ha_x (ex3 (gQ_12_1220 hO.1 ha_x)) (by decide +kernel) (by decide +kernel)
        rw [hQQ]
        exact ret_z X hw hr hlocks (Nat.le_of_ble_eq_true rfl) (Nat.le_of_ble_eq_true rfl) (by decide) ⟨hO_438, Or.inr ⟨congrFun zc_443 4, rfl⟩⟩ dX12_rule_30
