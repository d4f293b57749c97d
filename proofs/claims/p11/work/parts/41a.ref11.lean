set_option maxRecDepth 20000 in
theorem ggX12_lot_X12_within : GoodIn wsX12_lot wsX12_within := goodIn_h _ [11] [0] (by decide +kernel) (by decide +kernel)
set_option maxRecDepth 20000 in
theorem gX12_lot_X12_within : GoodIn wsX12_lot (va_wsS RX12 168 yX12_within wsX12_within) := goodIn_app (goodIn_of _ (by decide +kernel)) ggX12_lot_X12_within
theorem dX12_lot_0 : decode cX12_lot 0 = .ok (.aload_n 0, 1) := by decide +kernel
theorem dX12_lot_1 : decode cX12_lot 1 = .ok (.iconst 0, 1) := by decide +kernel
theorem dX12_lot_2 : decode cX12_lot 2 = .ok (.putfield 161, 3) := by decide +kernel
theorem dX12_lot_5 : decode cX12_lot 5 = .ok (.aload_n 0, 1) := by decide +kernel
theorem dX12_lot_6 : decode cX12_lot 6 = .ok (.getfield 165, 3) := by decide +kernel
theorem dX12_lot_9 : decode cX12_lot 9 = .ok (.bipush 10, 2) := by decide +kernel
theorem dX12_lot_11 : decode cX12_lot 11 = .ok (.if_icmp .eq 49, 3) := by decide +kernel
theorem dX12_lot_14 : decode cX12_lot 14 = .ok (.iload_n 1, 1) := by decide +kernel
theorem dX12_lot_15 : decode cX12_lot 15 = .ok (.iconst 1, 1) := by decide +kernel
theorem dX12_lot_16 : decode cX12_lot 16 = .ok (.bipush 60, 2) := by decide +kernel
theorem dX12_lot_18 : decode cX12_lot 18 = .ok (.invokestatic 168, 3) := by decide +kernel
theorem dX12_lot_21 : decode cX12_lot 21 = .ok (.ifCond .eq 39, 3) := by decide +kernel
theorem dX12_lot_24 : decode cX12_lot 24 = .ok (.iload_n 3, 1) := by decide +kernel
theorem dX12_lot_25 : decode cX12_lot 25 = .ok (.bipush 20, 2) := by decide +kernel
theorem dX12_lot_27 : decode cX12_lot 27 = .ok (.bipush 60, 2) := by decide +kernel
theorem dX12_lot_29 : decode cX12_lot 29 = .ok (.invokestatic 168, 3) := by decide +kernel
theorem dX12_lot_32 : decode cX12_lot 32 = .ok (.ifCond .eq 28, 3) := by decide +kernel
theorem dX12_lot_35 : decode cX12_lot 35 = .ok (.iload 4, 2) := by decide +kernel
theorem dX12_lot_37 : decode cX12_lot 37 = .ok (.bipush 40, 2) := by decide +kernel
theorem dX12_lot_39 : decode cX12_lot 39 = .ok (.sipush 200, 3) := by decide +kernel
theorem dX12_lot_42 : decode cX12_lot 42 = .ok (.invokestatic 168, 3) := by decide +kernel
theorem dX12_lot_45 : decode cX12_lot 45 = .ok (.ifCond .eq 15, 3) := by decide +kernel
theorem dX12_lot_48 : decode cX12_lot 48 = .ok (.iload 5, 2) := by decide +kernel
theorem dX12_lot_50 : decode cX12_lot 50 = .ok (.iconst 0, 1) := by decide +kernel
theorem dX12_lot_51 : decode cX12_lot 51 = .ok (.sipush 200, 3) := by decide +kernel
theorem dX12_lot_54 : decode cX12_lot 54 = .ok (.invokestatic 168, 3) := by decide +kernel
theorem dX12_lot_57 : decode cX12_lot 57 = .ok (.ifCond .ne 5, 3) := by decide +kernel
theorem dX12_lot_60 : decode cX12_lot 60 = .ok (.iconst (-1), 1) := by decide +kernel
theorem dX12_lot_61 : decode cX12_lot 61 = .ok (.ireturn, 1) := by decide +kernel
theorem dX12_lot_62 : decode cX12_lot 62 = .ok (.aload_n 0, 1) := by decide +kernel
theorem dX12_lot_63 : decode cX12_lot 63 = .ok (.getfield 7, 3) := by decide +kernel
theorem dX12_lot_66 : decode cX12_lot 66 = .ok (.aload_n 0, 1) := by decide +kernel
theorem dX12_lot_67 : decode cX12_lot 67 = .ok (.getfield 165, 3) := by decide +kernel
theorem dX12_lot_70 : decode cX12_lot 70 = .ok (.iload_n 1, 1) := by decide +kernel
theorem dX12_lot_71 : decode cX12_lot 71 = .ok (.iastore, 1) := by decide +kernel
theorem dX12_lot_72 : decode cX12_lot 72 = .ok (.aload_n 0, 1) := by decide +kernel
theorem dX12_lot_73 : decode cX12_lot 73 = .ok (.getfield 13, 3) := by decide +kernel
theorem dX12_lot_76 : decode cX12_lot 76 = .ok (.aload_n 0, 1) := by decide +kernel
theorem dX12_lot_77 : decode cX12_lot 77 = .ok (.getfield 165, 3) := by decide +kernel
theorem dX12_lot_80 : decode cX12_lot 80 = .ok (.iload_n 2, 1) := by decide +kernel
theorem dX12_lot_81 : decode cX12_lot 81 = .ok (.iastore, 1) := by decide +kernel
theorem dX12_lot_82 : decode cX12_lot 82 = .ok (.aload_n 0, 1) := by decide +kernel
theorem dX12_lot_83 : decode cX12_lot 83 = .ok (.getfield 16, 3) := by decide +kernel
theorem dX12_lot_86 : decode cX12_lot 86 = .ok (.aload_n 0, 1) := by decide +kernel
theorem dX12_lot_87 : decode cX12_lot 87 = .ok (.getfield 165, 3) := by decide +kernel
theorem dX12_lot_90 : decode cX12_lot 90 = .ok (.iload_n 3, 1) := by decide +kernel
theorem dX12_lot_91 : decode cX12_lot 91 = .ok (.iastore, 1) := by decide +kernel
theorem dX12_lot_92 : decode cX12_lot 92 = .ok (.aload_n 0, 1) := by decide +kernel
theorem dX12_lot_93 : decode cX12_lot 93 = .ok (.getfield 19, 3) := by decide +kernel
theorem dX12_lot_96 : decode cX12_lot 96 = .ok (.aload_n 0, 1) := by decide +kernel
theorem dX12_lot_97 : decode cX12_lot 97 = .ok (.getfield 165, 3) := by decide +kernel
theorem dX12_lot_100 : decode cX12_lot 100 = .ok (.iload 4, 2) := by decide +kernel
theorem dX12_lot_102 : decode cX12_lot 102 = .ok (.iastore, 1) := by decide +kernel
theorem dX12_lot_103 : decode cX12_lot 103 = .ok (.aload_n 0, 1) := by decide +kernel
theorem dX12_lot_104 : decode cX12_lot 104 = .ok (.getfield 22, 3) := by decide +kernel
theorem dX12_lot_107 : decode cX12_lot 107 = .ok (.aload_n 0, 1) := by decide +kernel
theorem dX12_lot_108 : decode cX12_lot 108 = .ok (.getfield 165, 3) := by decide +kernel
theorem dX12_lot_111 : decode cX12_lot 111 = .ok (.iload 5, 2) := by decide +kernel
theorem dX12_lot_113 : decode cX12_lot 113 = .ok (.iastore, 1) := by decide +kernel
theorem dX12_lot_114 : decode cX12_lot 114 = .ok (.aload_n 0, 1) := by decide +kernel
theorem dX12_lot_115 : decode cX12_lot 115 = .ok (.dup, 1) := by decide +kernel
theorem dX12_lot_116 : decode cX12_lot 116 = .ok (.getfield 165, 3) := by decide +kernel
theorem dX12_lot_119 : decode cX12_lot 119 = .ok (.iconst 1, 1) := by decide +kernel
theorem dX12_lot_120 : decode cX12_lot 120 = .ok (.iadd, 1) := by decide +kernel
theorem dX12_lot_121 : decode cX12_lot 121 = .ok (.putfield 165, 3) := by decide +kernel
theorem dX12_lot_124 : decode cX12_lot 124 = .ok (.aload_n 0, 1) := by decide +kernel
theorem dX12_lot_125 : decode cX12_lot 125 = .ok (.getfield 165, 3) := by decide +kernel
theorem dX12_lot_128 : decode cX12_lot 128 = .ok (.iconst 1, 1) := by decide +kernel
theorem dX12_lot_129 : decode cX12_lot 129 = .ok (.isub, 1) := by decide +kernel
theorem dX12_lot_130 : decode cX12_lot 130 = .ok (.ireturn, 1) := by decide +kernel
set_option maxRecDepth 20000 in
theorem ggX12_fill_X12_isPot : GoodIn wsX12_fill wsX12_isPot := goodIn_h _ [8, 0, 0, 0, 0, 0, 11, 0, 0, 0, 0, 0, 0, 0, 0, 0, 0, 0, 0, 0, 0, 0, 0, 0, 0, 0, 0, 0, 0, 0, 0, 0, 0, 0, 0, 0, 0, 0, 0, 0, 0, 0, 0, 0, 0, 0, 0, 0, 0, 0, 0, 0, 0, 0, 0, 0, 0, 0, 0, 0, 0, 0, 0, 0, 0, 0, 0, 0, 0, 0, 0, 0] [1, 2, 3, 4, 0, 5, 6, 7, 8, 9, 10, 11, 12, 13, 14, 15, 16, 17, 18, 19, 20, 21, 22, 23, 24, 25, 26, 27, 28, 29, 30, 31, 32, 33, 34, 35, 36, 37, 38, 39, 40, 41, 42, 43, 44, 45, 46, 47, 48, 49, 50, 51, 52, 53, 54, 55, 56, 57, 58, 59, 60, 61, 62, 63, 64, 65, 66, 67, 68, 69, 70, 71] (by decide +kernel) (by decide +kernel)
set_option maxRecDepth 20000 in
theorem gX12_fill_X12_isPot : GoodIn wsX12_fill (wsV RX12 200 RX12 yX12_isPot wsX12_isPot) := goodIn_app (goodIn_of _ (by decide +kernel)) ggX12_fill_X12_isPot
set_option maxRecDepth 20000 in
theorem ggX12_fill_X12_within : GoodIn wsX12_fill wsX12_within := goodIn_h _ [13] [0] (by decide +kernel) (by decide +kernel)
set_option maxRecDepth 20000 in
theorem gX12_fill_X12_within : GoodIn wsX12_fill (va_wsS RX12 168 yX12_within wsX12_within) := goodIn_app (goodIn_of _ (by decide +kernel)) ggX12_fill_X12_within
set_option maxRecDepth 20000 in
theorem ggX12_fill_X12_many : GoodIn wsX12_fill wsX12_many := goodIn_h _ [17, 0, 6, 0, 0, 0, 0, 0, 0, 0, 0, 0, 0, 0, 0, 0, 0, 0, 0, 0, 0, 0, 0, 0, 0, 0, 0, 0, 0, 0, 0, 0, 0, 0, 0, 0, 0, 0, 0, 0, 0, 0, 0, 0, 0, 0, 0, 0, 0, 0, 0, 0, 0, 0, 0, 0, 0, 0, 0, 0, 0, 0, 0, 0, 0, 0, 0, 0] [0, 1, 2, 3, 4, 5, 6, 7, 8, 9, 10, 11, 12, 13, 14, 15, 16, 17, 18, 19, 20, 21, 22, 23, 24, 25, 26, 27, 28, 29, 30, 31, 32, 33, 34, 35, 36, 37, 38, 39, 40, 41, 42, 43, 44, 45, 46, 47, 48, 49, 50, 51, 52, 53, 54, 55, 56, 57, 58, 59, 60, 61, 62, 63, 64, 65, 66, 67] (by decide +kernel) (by decide +kernel)
set_option maxRecDepth 20000 in
theorem gX12_fill_X12_many : GoodIn wsX12_fill (wsV RX12 204 RX12 yX12_many wsX12_many) := goodIn_app (goodIn_of _ (by decide +kernel)) ggX12_fill_X12_many
set_option maxRecDepth 20000 in
theorem ggX12_fill_X12_comes : GoodIn wsX12_fill wsX12_comes := goodIn_h _ [4, 13, 3, 0, 0, 0, 0, 0, 0, 0, 0, 0, 0, 0, 0, 0, 0, 0, 0, 0, 0, 0, 0, 0, 0, 0, 0, 0, 0, 0, 0, 0, 0, 0, 0, 0, 0, 0, 0, 0, 0, 0, 0, 0, 0, 0, 0, 0, 0, 0, 0, 0, 0, 0, 0, 0, 0, 0, 0, 0, 0, 0, 0, 0, 0, 0, 0, 0, 0, 0, 0] [2, 1, 3, 0, 4, 5, 6, 7, 8, 9, 10, 11, 12, 13, 14, 15, 16, 17, 18, 19, 20, 21, 22, 23, 24, 25, 26, 27, 28, 29, 30, 31, 32, 33, 34, 35, 36, 37, 38, 39, 40, 41, 42, 43, 44, 45, 46, 47, 48, 49, 50, 51, 52, 53, 54, 55, 56, 57, 58, 59, 60, 61, 62, 63, 64, 65, 66, 67, 68, 69, 70] (by decide +kernel) (by decide +kernel)
set_option maxRecDepth 20000 in
theorem gX12_fill_X12_comes : GoodIn wsX12_fill (wsV RX12 207 RX12 yX12_comes wsX12_comes) := goodIn_app (goodIn_of _ (by decide +kernel)) ggX12_fill_X12_comes
theorem dX12_fill_0 : decode cX12_fill 0 = .ok (.aload_n 0, 1) := by decide +kernel
theorem dX12_fill_1 : decode cX12_fill 1 = .ok (.iconst 0, 1) := by decide +kernel
theorem dX12_fill_2 : decode cX12_fill 2 = .ok (.putfield 161, 3) := by decide +kernel
theorem dX12_fill_5 : decode cX12_fill 5 = .ok (.aload_n 0, 1) := by decide +kernel
theorem dX12_fill_6 : decode cX12_fill 6 = .ok (.iload_n 1, 1) := by decide +kernel
theorem dX12_fill_7 : decode cX12_fill 7 = .ok (.invokevirtual 200, 3) := by decide +kernel
theorem dX12_fill_10 : decode cX12_fill 10 = .ok (.ifCond .eq 45, 3) := by decide +kernel
theorem dX12_fill_13 : decode cX12_fill 13 = .ok (.iload_n 2, 1) := by decide +kernel
theorem dX12_fill_14 : decode cX12_fill 14 = .ok (.iconst 0, 1) := by decide +kernel
theorem dX12_fill_15 : decode cX12_fill 15 = .ok (.aload_n 0, 1) := by decide +kernel
theorem dX12_fill_16 : decode cX12_fill 16 = .ok (.getfield 165, 3) := by decide +kernel
theorem dX12_fill_19 : decode cX12_fill 19 = .ok (.iconst 1, 1) := by decide +kernel
theorem dX12_fill_20 : decode cX12_fill 20 = .ok (.isub, 1) := by decide +kernel
theorem dX12_fill_21 : decode cX12_fill 21 = .ok (.invokestatic 168, 3) := by decide +kernel
theorem dX12_fill_24 : decode cX12_fill 24 = .ok (.ifCond .eq 31, 3) := by decide +kernel
theorem dX12_fill_27 : decode cX12_fill 27 = .ok (.iload 4, 2) := by decide +kernel
theorem dX12_fill_29 : decode cX12_fill 29 = .ok (.iconst 1, 1) := by decide +kernel
theorem dX12_fill_30 : decode cX12_fill 30 = .ok (.bipush 60, 2) := by decide +kernel
theorem dX12_fill_32 : decode cX12_fill 32 = .ok (.invokestatic 168, 3) := by decide +kernel
theorem dX12_fill_35 : decode cX12_fill 35 = .ok (.ifCond .eq 20, 3) := by decide +kernel
theorem dX12_fill_38 : decode cX12_fill 38 = .ok (.iload_n 3, 1) := by decide +kernel
theorem dX12_fill_39 : decode cX12_fill 39 = .ok (.ifCond .lt 16, 3) := by decide +kernel
theorem dX12_fill_42 : decode cX12_fill 42 = .ok (.iload_n 3, 1) := by decide +kernel
theorem dX12_fill_43 : decode cX12_fill 43 = .ok (.aload_n 0, 1) := by decide +kernel
theorem dX12_fill_44 : decode cX12_fill 44 = .ok (.getfield 7, 3) := by decide +kernel
theorem dX12_fill_47 : decode cX12_fill 47 = .ok (.iload_n 2, 1) := by decide +kernel
theorem dX12_fill_48 : decode cX12_fill 48 = .ok (.iaload, 1) := by decide +kernel
theorem dX12_fill_49 : decode cX12_fill 49 = .ok (.iload 4, 2) := by decide +kernel
theorem dX12_fill_51 : decode cX12_fill 51 = .ok (.isub, 1) := by decide +kernel
theorem dX12_fill_52 : decode cX12_fill 52 = .ok (.if_icmp .le 5, 3) := by decide +kernel
theorem dX12_fill_55 : decode cX12_fill 55 = .ok (.iconst 0, 1) := by decide +kernel
theorem dX12_fill_56 : decode cX12_fill 56 = .ok (.ireturn, 1) := by decide +kernel
theorem dX12_fill_57 : decode cX12_fill 57 = .ok (.iload_n 3, 1) := by decide +kernel
theorem dX12_fill_58 : decode cX12_fill 58 = .ok (.istore 5, 2) := by decide +kernel
theorem dX12_fill_60 : decode cX12_fill 60 = .ok (.iload 5, 2) := by decide +kernel
theorem dX12_fill_62 : decode cX12_fill 62 = .ok (.iload_n 3, 1) := by decide +kernel
theorem dX12_fill_63 : decode cX12_fill 63 = .ok (.iload 4, 2) := by decide +kernel
theorem dX12_fill_65 : decode cX12_fill 65 = .ok (.iadd, 1) := by decide +kernel
theorem dX12_fill_66 : decode cX12_fill 66 = .ok (.if_icmp .ge 26, 3) := by decide +kernel
theorem dX12_fill_69 : decode cX12_fill 69 = .ok (.aload_n 0, 1) := by decide +kernel
theorem dX12_fill_70 : decode cX12_fill 70 = .ok (.getfield 25, 3) := by decide +kernel
theorem dX12_fill_73 : decode cX12_fill 73 = .ok (.bipush 60, 2) := by decide +kernel
theorem dX12_fill_75 : decode cX12_fill 75 = .ok (.iload_n 2, 1) := by decide +kernel
theorem dX12_fill_76 : decode cX12_fill 76 = .ok (.imul, 1) := by decide +kernel
theorem dX12_fill_77 : decode cX12_fill 77 = .ok (.iload 5, 2) := by decide +kernel
theorem dX12_fill_79 : decode cX12_fill 79 = .ok (.iadd, 1) := by decide +kernel
theorem dX12_fill_80 : decode cX12_fill 80 = .ok (.iaload, 1) := by decide +kernel
theorem dX12_fill_81 : decode cX12_fill 81 = .ok (.ifCond .eq 5, 3) := by decide +kernel
theorem dX12_fill_84 : decode cX12_fill 84 = .ok (.iconst 0, 1) := by decide +kernel
theorem dX12_fill_85 : decode cX12_fill 85 = .ok (.ireturn, 1) := by decide +kernel
theorem dX12_fill_86 : decode cX12_fill 86 = .ok (.iinc 5 1, 3) := by decide +kernel
theorem dX12_fill_89 : decode cX12_fill 89 = .ok (.goto (-29), 3) := by decide +kernel
theorem dX12_fill_92 : decode cX12_fill 92 = .ok (.iload_n 3, 1) := by decide +kernel
theorem dX12_fill_93 : decode cX12_fill 93 = .ok (.istore 5, 2) := by decide +kernel
theorem dX12_fill_95 : decode cX12_fill 95 = .ok (.iload 5, 2) := by decide +kernel
theorem dX12_fill_97 : decode cX12_fill 97 = .ok (.iload_n 3, 1) := by decide +kernel
theorem dX12_fill_98 : decode cX12_fill 98 = .ok (.iload 4, 2) := by decide +kernel
theorem dX12_fill_100 : decode cX12_fill 100 = .ok (.iadd, 1) := by decide +kernel
theorem dX12_fill_101 : decode cX12_fill 101 = .ok (.if_icmp .ge 28, 3) := by decide +kernel
theorem dX12_fill_104 : decode cX12_fill 104 = .ok (.aload_n 0, 1) := by decide +kernel
theorem dX12_fill_105 : decode cX12_fill 105 = .ok (.iload_n 1, 1) := by decide +kernel
theorem dX12_fill_106 : decode cX12_fill 106 = .ok (.iconst 0, 1) := by decide +kernel
theorem dX12_fill_107 : decode cX12_fill 107 = .ok (.bipush 60, 2) := by decide +kernel
theorem dX12_fill_109 : decode cX12_fill 109 = .ok (.iload_n 2, 1) := by decide +kernel
theorem dX12_fill_110 : decode cX12_fill 110 = .ok (.imul, 1) := by decide +kernel
theorem dX12_fill_111 : decode cX12_fill 111 = .ok (.iload 5, 2) := by decide +kernel
theorem dX12_fill_113 : decode cX12_fill 113 = .ok (.iadd, 1) := by decide +kernel
theorem dX12_fill_114 : decode cX12_fill 114 = .ok (.aload_n 0, 1) := by decide +kernel
theorem dX12_fill_115 : decode cX12_fill 115 = .ok (.iload_n 1, 1) := by decide +kernel
theorem dX12_fill_116 : decode cX12_fill 116 = .ok (.iconst 0, 1) := by decide +kernel
theorem dX12_fill_117 : decode cX12_fill 117 = .ok (.invokevirtual 204, 3) := by decide +kernel
theorem dX12_fill_120 : decode cX12_fill 120 = .ok (.invokevirtual 207, 3) := by decide +kernel
theorem dX12_fill_123 : decode cX12_fill 123 = .ok (.iinc 5 1, 3) := by decide +kernel
theorem dX12_fill_126 : decode cX12_fill 126 = .ok (.goto (-31), 3) := by decide +kernel
theorem dX12_fill_129 : decode cX12_fill 129 = .ok (.iconst 1, 1) := by decide +kernel
theorem dX12_fill_130 : decode cX12_fill 130 = .ok (.ireturn, 1) := by decide +kernel
set_option maxRecDepth 20000 in
theorem ggX12_shelve_X12_within : GoodIn wsX12_shelve wsX12_within := goodIn_h _ [11] [0] (by decide +kernel) (by decide +kernel)
set_option maxRecDepth 20000 in
theorem gX12_shelve_X12_within : GoodIn wsX12_shelve (va_wsS RX12 168 yX12_within wsX12_within) := goodIn_app (goodIn_of _ (by decide +kernel)) ggX12_shelve_X12_within
set_option maxRecDepth 20000 in
theorem ggX12_shelve_X12_isCocoon : GoodIn wsX12_shelve wsX12_isCocoon := goodIn_h _ [8, 0, 0, 0, 3, 0, 0, 0, 0, 0, 0, 0, 0, 0, 0, 0, 0, 0, 0, 0, 0, 0, 0, 0, 0, 0, 0, 0, 0, 0, 0, 0, 0, 0, 0, 0, 0, 0, 0, 0, 0, 0, 0, 0, 0, 0, 0, 0, 0, 0, 0, 0, 0, 0, 0, 0, 0, 0, 0, 0, 0, 0, 0, 0, 0, 0, 0, 0, 0, 0, 0, 0, 0] [4, 5, 6, 0, 1, 2, 3, 7, 8, 9, 10, 11, 12, 13, 14, 15, 16, 17, 18, 19, 20, 21, 22, 23, 24, 25, 26, 27, 28, 29, 30, 31, 32, 33, 34, 35, 36, 37, 38, 39, 40, 41, 42, 43, 44, 45, 46, 47, 48, 49, 50, 51, 52, 53, 54, 55, 56, 57, 58, 59, 60, 61, 62, 63, 64, 65, 66, 67, 68, 69, 70, 71, 72] (by decide +kernel) (by decide +kernel)
set_option maxRecDepth 20000 in
theorem gX12_shelve_X12_isCocoon : GoodIn wsX12_shelve (wsV RX12 186 RX12 yX12_isCocoon wsX12_isCocoon) := goodIn_app (goodIn_of _ (by decide +kernel)) ggX12_shelve_X12_isCocoon
theorem dX12_shelve_0 : decode cX12_shelve 0 = .ok (.aload_n 0, 1) := by decide +kernel
theorem dX12_shelve_1 : decode cX12_shelve 1 = .ok (.iconst 0, 1) := by decide +kernel
theorem dX12_shelve_2 : decode cX12_shelve 2 = .ok (.putfield 161, 3) := by decide +kernel
theorem dX12_shelve_5 : decode cX12_shelve 5 = .ok (.iload_n 1, 1) := by decide +kernel
theorem dX12_shelve_6 : decode cX12_shelve 6 = .ok (.iconst 0, 1) := by decide +kernel
theorem dX12_shelve_7 : decode cX12_shelve 7 = .ok (.bipush 15, 2) := by decide +kernel
theorem dX12_shelve_9 : decode cX12_shelve 9 = .ok (.invokestatic 168, 3) := by decide +kernel
theorem dX12_shelve_12 : decode cX12_shelve 12 = .ok (.ifCond .eq 21, 3) := by decide +kernel
theorem dX12_shelve_15 : decode cX12_shelve 15 = .ok (.aload_n 0, 1) := by decide +kernel
theorem dX12_shelve_16 : decode cX12_shelve 16 = .ok (.getfield 125, 3) := by decide +kernel
theorem dX12_shelve_19 : decode cX12_shelve 19 = .ok (.iload_n 1, 1) := by decide +kernel
theorem dX12_shelve_20 : decode cX12_shelve 20 = .ok (.baload, 1) := by decide +kernel
theorem dX12_shelve_21 : decode cX12_shelve 21 = .ok (.ifCond .ne 12, 3) := by decide +kernel
theorem dX12_shelve_24 : decode cX12_shelve 24 = .ok (.iload_n 2, 1) := by decide +kernel
theorem dX12_shelve_25 : decode cX12_shelve 25 = .ok (.iconst 0, 1) := by decide +kernel
theorem dX12_shelve_26 : decode cX12_shelve 26 = .ok (.iconst 2, 1) := by decide +kernel
theorem dX12_shelve_27 : decode cX12_shelve 27 = .ok (.invokestatic 168, 3) := by decide +kernel
theorem dX12_shelve_30 : decode cX12_shelve 30 = .ok (.ifCond .ne 5, 3) := by decide +kernel
theorem dX12_shelve_33 : decode cX12_shelve 33 = .ok (.iconst 0, 1) := by decide +kernel
theorem dX12_shelve_34 : decode cX12_shelve 34 = .ok (.ireturn, 1) := by decide +kernel
theorem dX12_shelve_35 : decode cX12_shelve 35 = .ok (.iload_n 2, 1) := by decide +kernel
theorem dX12_shelve_36 : decode cX12_shelve 36 = .ok (.ifCond .ne 28, 3) := by decide +kernel
theorem dX12_shelve_39 : decode cX12_shelve 39 = .ok (.aload_n 0, 1) := by decide +kernel
theorem dX12_shelve_40 : decode cX12_shelve 40 = .ok (.iload_n 3, 1) := by decide +kernel
theorem dX12_shelve_41 : decode cX12_shelve 41 = .ok (.iload 4, 2) := by decide +kernel
theorem dX12_shelve_43 : decode cX12_shelve 43 = .ok (.invokevirtual 186, 3) := by decide +kernel
theorem dX12_shelve_46 : decode cX12_shelve 46 = .ok (.ifCond .eq 33, 3) := by decide +kernel
theorem dX12_shelve_49 : decode cX12_shelve 49 = .ok (.aload_n 0, 1) := by decide +kernel
theorem dX12_shelve_50 : decode cX12_shelve 50 = .ok (.getfield 25, 3) := by decide +kernel
theorem dX12_shelve_53 : decode cX12_shelve 53 = .ok (.bipush 60, 2) := by decide +kernel
theorem dX12_shelve_55 : decode cX12_shelve 55 = .ok (.iload_n 3, 1) := by decide +kernel
theorem dX12_shelve_56 : decode cX12_shelve 56 = .ok (.imul, 1) := by decide +kernel
theorem dX12_shelve_57 : decode cX12_shelve 57 = .ok (.iload 4, 2) := by decide +kernel
theorem dX12_shelve_59 : decode cX12_shelve 59 = .ok (.iadd, 1) := by decide +kernel
theorem dX12_shelve_60 : decode cX12_shelve 60 = .ok (.iaload, 1) := by decide +kernel
theorem dX12_shelve_61 : decode cX12_shelve 61 = .ok (.ifCond .ne 18, 3) := by decide +kernel
theorem dX12_shelve_64 : decode cX12_shelve 64 = .ok (.iload_n 2, 1) := by decide +kernel
theorem dX12_shelve_65 : decode cX12_shelve 65 = .ok (.iconst 2, 1) := by decide +kernel
theorem dX12_shelve_66 : decode cX12_shelve 66 = .ok (.if_icmp .ne 15, 3) := by decide +kernel
theorem dX12_shelve_69 : decode cX12_shelve 69 = .ok (.iload_n 3, 1) := by decide +kernel
theorem dX12_shelve_70 : decode cX12_shelve 70 = .ok (.iconst 0, 1) := by decide +kernel
theorem dX12_shelve_71 : decode cX12_shelve 71 = .ok (.bipush 8, 2) := by decide +kernel
theorem dX12_shelve_73 : decode cX12_shelve 73 = .ok (.invokestatic 168, 3) := by decide +kernel
theorem dX12_shelve_76 : decode cX12_shelve 76 = .ok (.ifCond .ne 5, 3) := by decide +kernel
theorem dX12_shelve_79 : decode cX12_shelve 79 = .ok (.iconst 0, 1) := by decide +kernel
theorem dX12_shelve_80 : decode cX12_shelve 80 = .ok (.ireturn, 1) := by decide +kernel
theorem dX12_shelve_81 : decode cX12_shelve 81 = .ok (.aload_n 0, 1) := by decide +kernel
theorem dX12_shelve_82 : decode cX12_shelve 82 = .ok (.getfield 125, 3) := by decide +kernel
theorem dX12_shelve_85 : decode cX12_shelve 85 = .ok (.iload_n 1, 1) := by decide +kernel
theorem dX12_shelve_86 : decode cX12_shelve 86 = .ok (.iconst 1, 1) := by decide +kernel
theorem dX12_shelve_87 : decode cX12_shelve 87 = .ok (.bastore, 1) := by decide +kernel
theorem dX12_shelve_88 : decode cX12_shelve 88 = .ok (.aload_n 0, 1) := by decide +kernel
theorem dX12_shelve_89 : decode cX12_shelve 89 = .ok (.getfield 128, 3) := by decide +kernel
theorem dX12_shelve_92 : decode cX12_shelve 92 = .ok (.iload_n 1, 1) := by decide +kernel
theorem dX12_shelve_93 : decode cX12_shelve 93 = .ok (.iload_n 2, 1) := by decide +kernel
theorem dX12_shelve_94 : decode cX12_shelve 94 = .ok (.iastore, 1) := by decide +kernel
theorem dX12_shelve_95 : decode cX12_shelve 95 = .ok (.aload_n 0, 1) := by decide +kernel
theorem dX12_shelve_96 : decode cX12_shelve 96 = .ok (.getfield 131, 3) := by decide +kernel
theorem dX12_shelve_99 : decode cX12_shelve 99 = .ok (.iload_n 1, 1) := by decide +kernel
theorem dX12_shelve_100 : decode cX12_shelve 100 = .ok (.iload_n 2, 1) := by decide +kernel
theorem dX12_shelve_101 : decode cX12_shelve 101 = .ok (.ifCond .ne 13, 3) := by decide +kernel
theorem dX12_shelve_104 : decode cX12_shelve 104 = .ok (.bipush 60, 2) := by decide +kernel
theorem dX12_shelve_106 : decode cX12_shelve 106 = .ok (.iload_n 3, 1) := by decide +kernel
theorem dX12_shelve_107 : decode cX12_shelve 107 = .ok (.imul, 1) := by decide +kernel
theorem dX12_shelve_108 : decode cX12_shelve 108 = .ok (.iload 4, 2) := by decide +kernel
theorem dX12_shelve_110 : decode cX12_shelve 110 = .ok (.iadd, 1) := by decide +kernel
theorem dX12_shelve_111 : decode cX12_shelve 111 = .ok (.goto 4, 3) := by decide +kernel
theorem dX12_shelve_114 : decode cX12_shelve 114 = .ok (.iload_n 3, 1) := by decide +kernel
theorem dX12_shelve_115 : decode cX12_shelve 115 = .ok (.iastore, 1) := by decide +kernel
theorem dX12_shelve_116 : decode cX12_shelve 116 = .ok (.iload_n 2, 1) := by decide +kernel
theorem dX12_shelve_117 : decode cX12_shelve 117 = .ok (.ifCond .ne 16, 3) := by decide +kernel
theorem dX12_shelve_120 : decode cX12_shelve 120 = .ok (.aload_n 0, 1) := by decide +kernel
theorem dX12_shelve_121 : decode cX12_shelve 121 = .ok (.getfield 25, 3) := by decide +kernel
theorem dX12_shelve_124 : decode cX12_shelve 124 = .ok (.bipush 60, 2) := by decide +kernel
theorem dX12_shelve_126 : decode cX12_shelve 126 = .ok (.iload_n 3, 1) := by decide +kernel
theorem dX12_shelve_127 : decode cX12_shelve 127 = .ok (.imul, 1) := by decide +kernel
theorem dX12_shelve_128 : decode cX12_shelve 128 = .ok (.iload 4, 2) := by decide +kernel
theorem dX12_shelve_130 : decode cX12_shelve 130 = .ok (.iadd, 1) := by decide +kernel
theorem dX12_shelve_131 : decode cX12_shelve 131 = .ok (.iconst 5, 1) := by decide +kernel
theorem dX12_shelve_132 : decode cX12_shelve 132 = .ok (.iastore, 1) := by decide +kernel
theorem dX12_shelve_133 : decode cX12_shelve 133 = .ok (.iload_n 2, 1) := by decide +kernel
theorem dX12_shelve_134 : decode cX12_shelve 134 = .ok (.iconst 2, 1) := by decide +kernel
theorem dX12_shelve_135 : decode cX12_shelve 135 = .ok (.if_icmp .ne 39, 3) := by decide +kernel
theorem dX12_shelve_138 : decode cX12_shelve 138 = .ok (.aload_n 0, 1) := by decide +kernel
theorem dX12_shelve_139 : decode cX12_shelve 139 = .ok (.getfield 134, 3) := by decide +kernel
theorem dX12_shelve_142 : decode cX12_shelve 142 = .ok (.iload_n 1, 1) := by decide +kernel
theorem dX12_shelve_143 : decode cX12_shelve 143 = .ok (.iload_n 3, 1) := by decide +kernel
theorem dX12_shelve_144 : decode cX12_shelve 144 = .ok (.iastore, 1) := by decide +kernel
theorem dX12_shelve_145 : decode cX12_shelve 145 = .ok (.iconst 0, 1) := by decide +kernel
theorem dX12_shelve_146 : decode cX12_shelve 146 = .ok (.istore 5, 2) := by decide +kernel
theorem dX12_shelve_148 : decode cX12_shelve 148 = .ok (.iload 5, 2) := by decide +kernel
theorem dX12_shelve_150 : decode cX12_shelve 150 = .ok (.iload_n 3, 1) := by decide +kernel
theorem dX12_shelve_151 : decode cX12_shelve 151 = .ok (.if_icmp .ge 23, 3) := by decide +kernel
theorem dX12_shelve_154 : decode cX12_shelve 154 = .ok (.aload_n 0, 1) := by decide +kernel
theorem dX12_shelve_155 : decode cX12_shelve 155 = .ok (.getfield 137, 3) := by decide +kernel
theorem dX12_shelve_158 : decode cX12_shelve 158 = .ok (.bipush 8, 2) := by decide +kernel
theorem dX12_shelve_160 : decode cX12_shelve 160 = .ok (.iload_n 1, 1) := by decide +kernel
theorem dX12_shelve_161 : decode cX12_shelve 161 = .ok (.imul, 1) := by decide +kernel
theorem dX12_shelve_162 : decode cX12_shelve 162 = .ok (.iload 5, 2) := by decide +kernel
theorem dX12_shelve_164 : decode cX12_shelve 164 = .ok (.iadd, 1) := by decide +kernel
theorem dX12_shelve_165 : decode cX12_shelve 165 = .ok (.iload 4, 2) := by decide +kernel
theorem dX12_shelve_167 : decode cX12_shelve 167 = .ok (.iastore, 1) := by decide +kernel
theorem dX12_shelve_168 : decode cX12_shelve 168 = .ok (.iinc 5 1, 3) := by decide +kernel
theorem dX12_shelve_171 : decode cX12_shelve 171 = .ok (.goto (-23), 3) := by decide +kernel
theorem dX12_shelve_174 : decode cX12_shelve 174 = .ok (.iconst 1, 1) := by decide +kernel
theorem dX12_shelve_175 : decode cX12_shelve 175 = .ok (.ireturn, 1) := by decide +kernel
set_option maxRecDepth 20000 in
theorem ggX12_take_X12_within : GoodIn wsX12_take wsX12_within := goodIn_h _ [11] [0] (by decide +kernel) (by decide +kernel)
set_option maxRecDepth 20000 in
theorem gX12_take_X12_within : GoodIn wsX12_take (va_wsS RX12 168 yX12_within wsX12_within) := goodIn_app (goodIn_of _ (by decide +kernel)) ggX12_take_X12_within
theorem dX12_take_0 : decode cX12_take 0 = .ok (.aload_n 0, 1) := by decide +kernel
theorem dX12_take_1 : decode cX12_take 1 = .ok (.iconst 0, 1) := by decide +kernel
theorem dX12_take_2 : decode cX12_take 2 = .ok (.putfield 161, 3) := by decide +kernel
theorem dX12_take_5 : decode cX12_take 5 = .ok (.iload_n 1, 1) := by decide +kernel
theorem dX12_take_6 : decode cX12_take 6 = .ok (.iconst 0, 1) := by decide +kernel
theorem dX12_take_7 : decode cX12_take 7 = .ok (.bipush 15, 2) := by decide +kernel
theorem dX12_take_9 : decode cX12_take 9 = .ok (.invokestatic 168, 3) := by decide +kernel
theorem dX12_take_12 : decode cX12_take 12 = .ok (.ifCond .eq 12, 3) := by decide +kernel
theorem dX12_take_15 : decode cX12_take 15 = .ok (.iload_n 2, 1) := by decide +kernel
theorem dX12_take_16 : decode cX12_take 16 = .ok (.iconst 0, 1) := by decide +kernel
theorem dX12_take_17 : decode cX12_take 17 = .ok (.iconst 2, 1) := by decide +kernel
theorem dX12_take_18 : decode cX12_take 18 = .ok (.invokestatic 168, 3) := by decide +kernel
theorem dX12_take_21 : decode cX12_take 21 = .ok (.ifCond .ne 5, 3) := by decide +kernel
theorem dX12_take_24 : decode cX12_take 24 = .ok (.iconst (-1), 1) := by decide +kernel
theorem dX12_take_25 : decode cX12_take 25 = .ok (.ireturn, 1) := by decide +kernel
theorem dX12_take_26 : decode cX12_take 26 = .ok (.aload_n 0, 1) := by decide +kernel
theorem dX12_take_27 : decode cX12_take 27 = .ok (.getfield 125, 3) := by decide +kernel
theorem dX12_take_30 : decode cX12_take 30 = .ok (.iload_n 1, 1) := by decide +kernel
theorem dX12_take_31 : decode cX12_take 31 = .ok (.baload, 1) := by decide +kernel
theorem dX12_take_32 : decode cX12_take 32 = .ok (.ifCond .ne 6, 3) := by decide +kernel
theorem dX12_take_35 : decode cX12_take 35 = .ok (.bipush (-2), 2) := by decide +kernel
theorem dX12_take_37 : decode cX12_take 37 = .ok (.ireturn, 1) := by decide +kernel
theorem dX12_take_38 : decode cX12_take 38 = .ok (.aload_n 0, 1) := by decide +kernel
theorem dX12_take_39 : decode cX12_take 39 = .ok (.getfield 128, 3) := by decide +kernel
theorem dX12_take_42 : decode cX12_take 42 = .ok (.iload_n 1, 1) := by decide +kernel
theorem dX12_take_43 : decode cX12_take 43 = .ok (.iaload, 1) := by decide +kernel
theorem dX12_take_44 : decode cX12_take 44 = .ok (.iload_n 2, 1) := by decide +kernel
theorem dX12_take_45 : decode cX12_take 45 = .ok (.if_icmp .eq 6, 3) := by decide +kernel
theorem dX12_take_48 : decode cX12_take 48 = .ok (.bipush (-3), 2) := by decide +kernel
theorem dX12_take_50 : decode cX12_take 50 = .ok (.ireturn, 1) := by decide +kernel
theorem dX12_take_51 : decode cX12_take 51 = .ok (.iload_n 2, 1) := by decide +kernel
theorem dX12_take_52 : decode cX12_take 52 = .ok (.iconst 2, 1) := by decide +kernel
theorem dX12_take_53 : decode cX12_take 53 = .ok (.if_icmp .ne 15, 3) := by decide +kernel
theorem dX12_take_56 : decode cX12_take 56 = .ok (.aload_n 0, 1) := by decide +kernel
theorem dX12_take_57 : decode cX12_take 57 = .ok (.getfield 134, 3) := by decide +kernel
theorem dX12_take_60 : decode cX12_take 60 = .ok (.iload_n 1, 1) := by decide +kernel
theorem dX12_take_61 : decode cX12_take 61 = .ok (.iaload, 1) := by decide +kernel
theorem dX12_take_62 : decode cX12_take 62 = .ok (.ifCond .ne 6, 3) := by decide +kernel
theorem dX12_take_65 : decode cX12_take 65 = .ok (.bipush (-4), 2) := by decide +kernel
theorem dX12_take_67 : decode cX12_take 67 = .ok (.ireturn, 1) := by decide +kernel
theorem dX12_take_68 : decode cX12_take 68 = .ok (.aload_n 0, 1) := by decide +kernel
theorem dX12_take_69 : decode cX12_take 69 = .ok (.getfield 125, 3) := by decide +kernel
theorem dX12_take_72 : decode cX12_take 72 = .ok (.iload_n 1, 1) := by decide +kernel
theorem dX12_take_73 : decode cX12_take 73 = .ok (.iconst 0, 1) := by decide +kernel
theorem dX12_take_74 : decode cX12_take 74 = .ok (.bastore, 1) := by decide +kernel
theorem dX12_take_75 : decode cX12_take 75 = .ok (.iload_n 2, 1) := by decide +kernel
theorem dX12_take_76 : decode cX12_take 76 = .ok (.iconst 1, 1) := by decide +kernel
theorem dX12_take_77 : decode cX12_take 77 = .ok (.if_icmp .ne 10, 3) := by decide +kernel
theorem dX12_take_80 : decode cX12_take 80 = .ok (.aload_n 0, 1) := by decide +kernel
theorem dX12_take_81 : decode cX12_take 81 = .ok (.getfield 131, 3) := by decide +kernel
theorem dX12_take_84 : decode cX12_take 84 = .ok (.iload_n 1, 1) := by decide +kernel
theorem dX12_take_85 : decode cX12_take 85 = .ok (.iaload, 1) := by decide +kernel
theorem dX12_take_86 : decode cX12_take 86 = .ok (.ireturn, 1) := by decide +kernel
theorem dX12_take_87 : decode cX12_take 87 = .ok (.iload_n 2, 1) := by decide +kernel
theorem dX12_take_88 : decode cX12_take 88 = .ok (.ifCond .ne 38, 3) := by decide +kernel
theorem dX12_take_91 : decode cX12_take 91 = .ok (.aload_n 0, 1) := by decide +kernel
theorem dX12_take_92 : decode cX12_take 92 = .ok (.getfield 25, 3) := by decide +kernel
theorem dX12_take_95 : decode cX12_take 95 = .ok (.aload_n 0, 1) := by decide +kernel
theorem dX12_take_96 : decode cX12_take 96 = .ok (.getfield 131, 3) := by decide +kernel
theorem dX12_take_99 : decode cX12_take 99 = .ok (.iload_n 1, 1) := by decide +kernel
theorem dX12_take_100 : decode cX12_take 100 = .ok (.iaload, 1) := by decide +kernel
theorem dX12_take_101 : decode cX12_take 101 = .ok (.iconst 0, 1) := by decide +kernel
theorem dX12_take_102 : decode cX12_take 102 = .ok (.iastore, 1) := by decide +kernel
theorem dX12_take_103 : decode cX12_take 103 = .ok (.aload_n 0, 1) := by decide +kernel
theorem dX12_take_104 : decode cX12_take 104 = .ok (.getfield 131, 3) := by decide +kernel
theorem dX12_take_107 : decode cX12_take 107 = .ok (.iload_n 1, 1) := by decide +kernel
theorem dX12_take_108 : decode cX12_take 108 = .ok (.iaload, 1) := by decide +kernel
theorem dX12_take_109 : decode cX12_take 109 = .ok (.bipush 60, 2) := by decide +kernel
theorem dX12_take_111 : decode cX12_take 111 = .ok (.idiv, 1) := by decide +kernel
theorem dX12_take_112 : decode cX12_take 112 = .ok (.bipush 100, 2) := by decide +kernel
theorem dX12_take_114 : decode cX12_take 114 = .ok (.imul, 1) := by decide +kernel
theorem dX12_take_115 : decode cX12_take 115 = .ok (.aload_n 0, 1) := by decide +kernel
theorem dX12_take_116 : decode cX12_take 116 = .ok (.getfield 131, 3) := by decide +kernel
theorem dX12_take_119 : decode cX12_take 119 = .ok (.iload_n 1, 1) := by decide +kernel
theorem dX12_take_120 : decode cX12_take 120 = .ok (.iaload, 1) := by decide +kernel
theorem dX12_take_121 : decode cX12_take 121 = .ok (.bipush 60, 2) := by decide +kernel
theorem dX12_take_123 : decode cX12_take 123 = .ok (.irem, 1) := by decide +kernel
theorem dX12_take_124 : decode cX12_take 124 = .ok (.iadd, 1) := by decide +kernel
theorem dX12_take_125 : decode cX12_take 125 = .ok (.ireturn, 1) := by decide +kernel
theorem dX12_take_126 : decode cX12_take 126 = .ok (.iconst 0, 1) := by decide +kernel
theorem dX12_take_127 : decode cX12_take 127 = .ok (.istore_n 3, 1) := by decide +kernel
theorem dX12_take_128 : decode cX12_take 128 = .ok (.iconst 0, 1) := by decide +kernel
theorem dX12_take_129 : decode cX12_take 129 = .ok (.istore 4, 2) := by decide +kernel
theorem dX12_take_131 : decode cX12_take 131 = .ok (.iload 4, 2) := by decide +kernel
theorem dX12_take_133 : decode cX12_take 133 = .ok (.aload_n 0, 1) := by decide +kernel
theorem dX12_take_134 : decode cX12_take 134 = .ok (.getfield 134, 3) := by decide +kernel
theorem dX12_take_137 : decode cX12_take 137 = .ok (.iload_n 1, 1) := by decide +kernel
theorem dX12_take_138 : decode cX12_take 138 = .ok (.iaload, 1) := by decide +kernel
theorem dX12_take_139 : decode cX12_take 139 = .ok (.if_icmp .ge 24, 3) := by decide +kernel
theorem dX12_take_142 : decode cX12_take 142 = .ok (.iload_n 3, 1) := by decide +kernel
theorem dX12_take_143 : decode cX12_take 143 = .ok (.aload_n 0, 1) := by decide +kernel
theorem dX12_take_144 : decode cX12_take 144 = .ok (.getfield 137, 3) := by decide +kernel
theorem dX12_take_147 : decode cX12_take 147 = .ok (.bipush 8, 2) := by decide +kernel
theorem dX12_take_149 : decode cX12_take 149 = .ok (.iload_n 1, 1) := by decide +kernel
theorem dX12_take_150 : decode cX12_take 150 = .ok (.imul, 1) := by decide +kernel
theorem dX12_take_151 : decode cX12_take 151 = .ok (.iload 4, 2) := by decide +kernel
theorem dX12_take_153 : decode cX12_take 153 = .ok (.iadd, 1) := by decide +kernel
theorem dX12_take_154 : decode cX12_take 154 = .ok (.iaload, 1) := by decide +kernel
theorem dX12_take_155 : decode cX12_take 155 = .ok (.iadd, 1) := by decide +kernel
theorem dX12_take_156 : decode cX12_take 156 = .ok (.istore_n 3, 1) := by decide +kernel
theorem dX12_take_157 : decode cX12_take 157 = .ok (.iinc 4 1, 3) := by decide +kernel
theorem dX12_take_160 : decode cX12_take 160 = .ok (.goto (-29), 3) := by decide +kernel
theorem dX12_take_163 : decode cX12_take 163 = .ok (.iload_n 3, 1) := by decide +kernel
theorem dX12_take_164 : decode cX12_take 164 = .ok (.ireturn, 1) := by decide +kernel
theorem inn_X12_fill_12 : ∀ w ∈ u_ws RX12 TX12 66, w ∈ wsX12_fill := fun w h => List.mem_cons_of_mem _ (List.mem_append_right _ h)
theorem inn_X12_lot_12 : ∀ w ∈ u_ws RX12 TX12 66, w ∈ wsX12_lot := fun w h => List.mem_cons_of_mem _ (List.mem_append_right _ h)
theorem inn_X12_shelve_12 : ∀ w ∈ u_ws RX12 TX12 66, w ∈ wsX12_shelve := fun w h => List.mem_cons_of_mem _ (List.mem_append_right _ h)
theorem inn_X12_take_12 : ∀ w ∈ u_ws RX12 TX12 66, w ∈ wsX12_take := fun w h => List.mem_cons_of_mem _ (List.mem_append_right _ h)
set_option maxHeartbeats 4000000 in
set_option maxRecDepth 100000 in
theorem k_X12_fill (l : Launch) (G : va_G) (cy : Nat → ClassId) (κ : Nat → Nat) (S : PS) (sz : Nat) (x : Nat) (a1 : Int32) (a1_z : Int) (a2 : Int32) (a2_z : Int) (a3 : Int32) (a3_z : Int) (a4 : Int32) (a4_z : Int) (hG : GX S) (ha_x : At S x 12) (hz_a1 : a1.toInt = a1_z) (hz_a2 : a2.toInt = a2_z) (hz_a3 : a3.toInt = a3_z) (hz_a4 : a4.toInt = a4_z) (hp_0 : MI S x) : Ci l yX12_fill wsX12_fill ({ frames := 3, cells := 0, slots := 0, locals := 144 }) G cy κ S sz [.ref x, .int (a1), .int (a2), .int (a3), .int (a4)] (fun (r : Int32) (S9 : PS) => Ok MFI S S9 ∧ (((MI S9 x) ∧ r = 1) ∨ ((MI S9 x) ∧ r = 0))) := by
  refine ent_m (cc := cX12_fill) (maxL := 6) (ret := (some .boolean)) (by decide) rfl (Nat.le_of_ble_eq_true rfl) ?_
  intro p e s m below meth c ls X hr hlocks hin hw hl hsz
  subst hsz
  have X : Cx p c cX12_fill 6 s [.ref x, .int (a1), .int (a2), .int (a3), .int (a4)].toArray wsX12_fill RX12 m G cy κ (AS S s.heap.size) := X
  have hl : lv_has ls 6 [(0, .ref x), (1, .int (a1)), (2, .int (a2)), (3, .int (a3)), (4, .int (a4))] := hl
  have rg_a1 : (-2147483648) ≤ a1_z ∧ a1_z ≤ 2147483647 := by rw [← hz_a1]; exact ⟨z_lo _, z_hi _⟩
  have rg_a2 : (-2147483648) ≤ a2_z ∧ a2_z ≤ 2147483647 := by rw [← hz_a2]; exact ⟨z_lo _, z_hi _⟩
  have rg_a3 : (-2147483648) ≤ a3_z ∧ a3_z ≤ 2147483647 := by rw [← hz_a3]; exact ⟨z_lo _, z_hi _⟩
  have rg_a4 : (-2147483648) ≤ a4_z ∧ a4_z ≤ 2147483647 := by rw [← hz_a4]; exact ⟨z_lo _, z_hi _⟩
  have hO : Ok MFI S S := Ok.rf hG
  generalize hQQ : MQ below _ _ _ _ _ _ = QQ
  replace hQQ := hQQ.symm
  obtain ⟨v_1, ev_1⟩ : ∃ v, pI S 1201 x = v := ⟨_, rfl⟩
  have rg_2 := gI_12_1201 hO.1 ha_x; rw [ev_1] at rg_2
  have pz_3 : (pI S 1201 x).toInt = v_1.toInt := by rw [ev_1]
  have pz_4 : (pI S 1201 x).toInt = v_1.toInt := (congrArg Int32.toInt ev_1).trans rfl
  refine lv_aload_n X.1 X.2.1 dX12_fill_0 rfl (lv_at hl 0 rfl) ?_
  refine lv_iconst (v := 0) X.1 X.2.1 dX12_fill_1 (by decide) ?_
  refine r_putI (v := 0) X hw ha_x rfl 0 1200 tyX12 (by decide) rfl inn_X12_fill_12 tyX12_ok nmX12 (by decide) (X.2.2.2.1 (.fieldLink RX12 161 "SilkMillModel" "thrown" "I") (by decide +kernel)) rfl (Or.inl rfl) rfl rfl (Nat.le_of_ble_eq_true rfl) (st_1200 _ _) dX12_fill_2 (fun H locs hw => ?_)
  obtain ⟨S_5, eS_5⟩ : ∃ T, T = sI S 1200 x (0) := ⟨_, rfl⟩
  rw [← eS_5] at hw
  have hO_6 : Ok MFI S S_5 := hO.sI eS_5 (by decide +kernel) (uI_12_1200 hO.1 ha_x)
  have h_7 : pI S_5 1200 x = 0 := tI_sIs eS_5
  refine lv_aload_n X.1 X.2.1 dX12_fill_5 rfl (lv_at hl 0 rfl) ?_
  refine lv_iload_n X.1 X.2.1 dX12_fill_6 rfl (lv_at hl 1 rfl) ?_
  have t_8 : At S_5 x 12 := tAt_sI eS_5 ha_x
  refine k_i (rm := { frames := 2, cells := 0, slots := 0, locals := 96 }) (av := [.ref x, .int (a1)]) X hw (va_runV (As := [.int (a1)]) (rest := []) (cfix X) (k_X12_isPot l G cy κ S_5 _ x (a1) (a1_z) hO_6.1 t_8 hz_a1) (cwV 1 X.2.2.2.1 gX12_fill_X12_isPot rfl rfl rfl (by decide +kernel) ⟨Nat.le_of_ble_eq_true rfl, Nat.le_of_ble_eq_true rfl⟩) (pre_V X hw _ t_8 rfl (by decide) rfl) rfl rfl hl.1 rfl (lv_room (Nat.le_of_ble_eq_true rfl)) dX12_fill_7 ⟨Nat.le_of_ble_eq_true rfl, Nat.le_of_ble_eq_true rfl⟩) 0 0 (Nat.le_of_ble_eq_true rfl) (Nat.le_of_ble_eq_true rfl) (fun rr_9 S_10 H locs hp hw hfr hnw => ?_)
  obtain ⟨e2, hp⟩ := hp
  subst e2
  rcases hp with ⟨f_11, er_12⟩ | ⟨f_11, er_12⟩ <;> subst er_12
  · have z_b_13 := trivial
    refine lv_if_eq (tgt := 55) X.1 X.2.1 dX12_fill_10 (by decide) (fun c_14 => absurd c_14 (by decide)) (fun c_14 => ?_)
    refine lv_iload_n X.1 X.2.1 dX12_fill_13 rfl (lv_at hl 2 rfl) ?_
    refine lv_iconst (v := 0) X.1 X.2.1 dX12_fill_14 (by decide) ?_
    refine lv_aload_n X.1 X.2.1 dX12_fill_15 rfl (lv_at hl 0 rfl) ?_
    have t_15 : pI S_5 1201 x = v_1 := tI_sI eS_5 rfl ev_1
    refine r_getI (g := 1201) (x := v_1) X hw t_8 rfl 1 t_15 (by decide) rfl inn_X12_fill_12 (by decide) (X.2.2.2.1 (.fieldLink RX12 165 "SilkMillModel" "lots" "I") (by decide +kernel)) rfl (gv_1201 _ _) dX12_fill_16 ?_
    refine lv_iconst (v := 1) X.1 X.2.1 dX12_fill_19 (by decide) ?_
    refine lv_isub X.1 X.2.1 dX12_fill_20 ?_
    refine lv_topi (fun v_16 ev_16 => ?_)
    have z_17 : v_16.toInt = v_1.toInt - 1 := z_sub ev_16 rfl ti_1 (by omega) (by omega)
    refine k_i (rm := { frames := 1, cells := 0, slots := 0, locals := 48 }) (av := [.int (a2), .int 0, .int (v_16)]) X hw (va_runS (As := [.int (a2), .int 0, .int (v_16)]) (rest := []) (cfix X) (k_X12_within l G cy κ S_5 _ (a2) (a2_z) (0) (0) (v_16) ((v_1.toInt - 1)) hO_6.1 hz_a2 ti_0 z_17) (cwS 3 X.2.2.2.1 gX12_fill_X12_within rfl rfl rfl (by decide +kernel) ⟨Nat.le_of_ble_eq_true rfl, Nat.le_of_ble_eq_true rfl⟩) (pre_S X hw _) rfl rfl hl.1 rfl (lv_room (Nat.le_of_ble_eq_true rfl)) dX12_fill_21 ⟨Nat.le_of_ble_eq_true rfl, Nat.le_of_ble_eq_true rfl⟩) 0 0 (Nat.le_of_ble_eq_true rfl) (Nat.le_of_ble_eq_true rfl) (fun rr_18 S_19 H locs hp hw hfr hnw => ?_)
    obtain ⟨e2, hp⟩ := hp
    subst e2
    rcases hp with ⟨f_20, er_21⟩ | ⟨f_20, er_21⟩ <;> subst er_21
    · have z_b_22 := trivial
      refine lv_if_eq (tgt := 55) X.1 X.2.1 dX12_fill_24 (by decide) (fun c_23 => absurd c_23 (by decide)) (fun c_23 => ?_)
      refine lv_iload X.1 X.2.1 dX12_fill_27 (lv_at hl 4 rfl) ?_
      refine lv_iconst (v := 1) X.1 X.2.1 dX12_fill_29 (by decide) ?_
      refine lv_bipush (v := 60) X.1 X.2.1 dX12_fill_30 (by decide) ?_
      refine k_i (rm := { frames := 1, cells := 0, slots := 0, locals := 48 }) (av := [.int (a4), .int 1, .int 60]) X hw (va_runS (As := [.int (a4), .int 1, .int 60]) (rest := []) (cfix X) (k_X12_within l G cy κ S_5 _ (a4) (a4_z) (1) (1) (60) (60) hO_6.1 hz_a4 ti_1 ti_60) (cwS 3 X.2.2.2.1 gX12_fill_X12_within rfl rfl rfl (by decide +kernel) ⟨Nat.le_of_ble_eq_true rfl, Nat.le_of_ble_eq_true rfl⟩) (pre_S X hw _) rfl rfl hl.1 rfl (lv_room (Nat.le_of_ble_eq_true rfl)) dX12_fill_32 ⟨Nat.le_of_ble_eq_true rfl, Nat.le_of_ble_eq_true rfl⟩) 0 0 (Nat.le_of_ble_eq_true rfl) (Nat.le_of_ble_eq_true rfl) (fun rr_24 S_25 H locs hp hw hfr hnw => ?_)
      obtain ⟨e2, hp⟩ := hp
      subst e2
      rcases hp with ⟨f_26, er_27⟩ | ⟨f_26, er_27⟩ <;> subst er_27
      · have z_b_28 := trivial
        refine lv_if_eq (tgt := 55) X.1 X.2.1 dX12_fill_35 (by decide) (fun c_29 => absurd c_29 (by decide)) (fun c_29 => ?_)
        refine lv_iload_n X.1 X.2.1 dX12_fill_38 rfl (lv_at hl 3 rfl) ?_
        refine lv_if_lt (tgt := 55) X.1 X.2.1 dX12_fill_39 (by decide) (fun c_30 => ?_) (fun c_30 => ?_)
        · have z_b_31 := trivial
          have k_32 : a3_z < 0 := z_lt hz_a3 ti_0 c_30
          refine lv_iconst (v := 0) X.1 X.2.1 dX12_fill_55 (by decide) ?_
          have mi_33 : MIe S_5 x (-1) := MIe_sI hp_0 hO.1 ha_x eS_5 (by decide +kernel)
          rw [hQQ]
          exact ret_z X hw hr hlocks (Nat.le_of_ble_eq_true rfl) (Nat.le_of_ble_eq_true rfl) (by decide) ⟨hO_6, Or.inr ⟨mi_33, rfl⟩⟩ dX12_fill_56
        · have z_b_34 := trivial
          have k_35 : a3_z ≥ 0 := z_nlt hz_a3 ti_0 c_30
          refine lv_iload_n X.1 X.2.1 dX12_fill_42 rfl (lv_at hl 3 rfl) ?_
          refine lv_aload_n X.1 X.2.1 dX12_fill_43 rfl (lv_at hl 0 rfl) ?_
          obtain ⟨q_36, h_37, h_38, h_39⟩ := gQ_12_1202 hO_6.1 t_8
          refine r_getR (g := 1202) X hw t_8 rfl 2 h_37 (by decide) rfl inn_X12_fill_12 (by decide) (X.2.2.2.1 (.fieldLink RX12 7 "SilkMillModel" "lotMany" "[I") (by decide +kernel)) rfl (gv_1202 _ _) dX12_fill_44 ?_
          refine lv_iload_n X.1 X.2.1 dX12_fill_47 rfl (lv_at hl 2 rfl) ?_
          refine r_iald X hw h_38 rfl (by rw [h_39]; exact z_ix hz_a2 (by omega) (by omega)) dX12_fill_48 ?_
          refine lv_topi (fun v_40 ev_40 => ?_)
          have z_41 := gE_254 hO_6.1 h_38 (Int32.toNatClampNeg (a2)); rw [← ev_40] at z_41
          have ev_40 := ev_40.symm
          refine lv_iload X.1 X.2.1 dX12_fill_49 (lv_at hl 4 rfl) ?_
          refine lv_isub X.1 X.2.1 dX12_fill_51 ?_
          refine lv_topi (fun v_42 ev_42 => ?_)
          have z_43 : v_42.toInt = v_40.toInt - a4_z := z_sub ev_42 rfl hz_a4 (by omega) (by omega)
          refine lv_icmp_le (tgt := 57) X.1 X.2.1 dX12_fill_52 (by decide) (fun c_44 => ?_) (fun c_44 => ?_)
          · have z_b_45 := trivial
            have k_46 : a3_z ≤ (v_40.toInt - a4_z) := z_le hz_a3 z_43 c_44
            refine lv_iload_n X.1 X.2.1 dX12_fill_57 rfl (lv_at hl 3 rfl) ?_
            refine lv_istore (lv' := [(5, .int (a3)), (0, .ref x), (1, .int (a1)), (2, .int (a2)), (3, .int (a3)), (4, .int (a4))]) X.1 X.2.1 dX12_fill_58 hl (by decide) rfl (fun ls hl => ?_)
            have L_47 : ∀ (n : Nat) (H : Heap) (locs : List Loc) (ls : Array Slot) (i5_48 : Int32) (i5_48_z : Int), ((a3_z + a4_z - i5_48_z).toNat = n) → (Wd G cy (AS S s.heap.size) s.heap S_5 H locs) → (i5_48.toInt = i5_48_z) → (0 ≤ i5_48_z ∧ i5_48_z ≤ 60) → ((∀ j : Int, a3_z ≤ j → j < i5_48_z → zA S_5 x 1207 (60 * a2_z + j).toNat = 0)) → (a3_z ≤ i5_48_z) → (lv_has ls 6 [(5, .int (i5_48)), (0, .ref x), (1, .int (a1)), (2, .int (a2)), (3, .int (a3)), (4, .int (a4))]) → W p l e ({ frames := 3, cells := 0, slots := 0, locals := 144 }) s m [.ref x, .int (a1), .int (a2), .int (a3), .int (a4)].toArray below meth c H locs 0 0 QQ (F0 m 60 ls []) := by
              intro n
              induction n using Nat.strongRecOn with
              | ind n ih_L_47 =>
              intro H locs ls i5_48 i5_48_z hn hw hz_i5_48 hr_i5_48 iv_49 iv_50 hl
              have rg_51 : (-2147483648) ≤ i5_48_z ∧ i5_48_z ≤ 2147483647 := by rw [← hz_i5_48]; exact ⟨z_lo _, z_hi _⟩
              refine lv_iload X.1 X.2.1 dX12_fill_60 (lv_at hl 0 rfl) ?_
              refine lv_iload_n X.1 X.2.1 dX12_fill_62 rfl (lv_at hl 4 rfl) ?_
              refine lv_iload X.1 X.2.1 dX12_fill_63 (lv_at hl 5 rfl) ?_
              refine lv_iadd X.1 X.2.1 dX12_fill_65 ?_
              refine lv_topi (fun v_52 ev_52 => ?_)
              have z_53 : v_52.toInt = a3_z + a4_z := z_add ev_52 hz_a3 hz_a4 (by omega) (by omega)
              refine lv_icmp_ge (tgt := 92) X.1 X.2.1 dX12_fill_66 (by decide) (fun c_54 => ?_) (fun c_54 => ?_)
              · have z_b_55 := trivial
                have k_56 : i5_48_z ≥ (a3_z + a4_z) := z_le z_53 hz_i5_48 c_54
                refine lv_iload_n X.1 X.2.1 dX12_fill_92 rfl (lv_at hl 4 rfl) ?_
                refine lv_istore (lv' := [(5, .int (a3)), (0, .ref x), (1, .int (a1)), (2, .int (a2)), (3, .int (a3)), (4, .int (a4))]) X.1 X.2.1 dX12_fill_93 hl (by decide) rfl (fun ls hl => ?_)
                have L_57 : ∀ (n : Nat) (T_59 : PS) (H : Heap) (locs : List Loc) (ls : Array Slot) (i5_58 : Int32) (i5_58_z : Int), ((a3_z + a4_z - i5_58_z).toNat = n) → (Wd G cy (AS S s.heap.size) s.heap T_59 H locs) → (i5_58.toInt = i5_58_z) → (0 ≤ i5_58_z ∧ i5_58_z ≤ 60) → (At T_59 x 12) → (Ok MFI S T_59) → (MIe T_59 x (-1)) → ((∀ j : Int, i5_58_z ≤ j → j < a3_z + a4_z → zA T_59 x 1207 (60 * a2_z + j).toNat = 0)) → (a3_z ≤ i5_58_z) → (pI T_59 1201 x = v_1) → (lv_has ls 6 [(5, .int (i5_58)), (0, .ref x), (1, .int (a1)), (2, .int (a2)), (3, .int (a3)), (4, .int (a4))]) → W p l e ({ frames := 3, cells := 0, slots := 0, locals := 144 }) s m [.ref x, .int (a1), .int (a2), .int (a3), .int (a4)].toArray below meth c H locs 0 0 QQ (F0 m 95 ls []) := by
                  intro n
                  induction n using Nat.strongRecOn with
                  | ind n ih_L_57 =>
                  intro T_59 H locs ls i5_58 i5_58_z hn hw hz_i5_58 hr_i5_58 ha_x_L_60 hO_T_59 mk_61 iv_62 iv_63 ik_64 hl
                  have rg_65 : (-2147483648) ≤ i5_58_z ∧ i5_58_z ≤ 2147483647 := by rw [← hz_i5_58]; exact ⟨z_lo _, z_hi _⟩
                  have pz_66 : (pI T_59 1201 x).toInt = v_1.toInt := (congrArg Int32.toInt ik_64).trans rfl
                  refine lv_iload X.1 X.2.1 dX12_fill_95 (lv_at hl 0 rfl) ?_
                  refine lv_iload_n X.1 X.2.1 dX12_fill_97 rfl (lv_at hl 4 rfl) ?_
                  refine lv_iload X.1 X.2.1 dX12_fill_98 (lv_at hl 5 rfl) ?_
                  refine lv_iadd X.1 X.2.1 dX12_fill_100 ?_
                  refine lv_topi (fun v_67 ev_67 => ?_)
                  have z_68 : v_67.toInt = a3_z + a4_z := z_add ev_67 hz_a3 hz_a4 (by omega) (by omega)
                  refine lv_icmp_ge (tgt := 129) X.1 X.2.1 dX12_fill_101 (by decide) (fun c_69 => ?_) (fun c_69 => ?_)
                  · have z_b_70 := trivial
                    have k_71 : i5_58_z ≥ (a3_z + a4_z) := z_le z_68 hz_i5_58 c_69
                    refine lv_iconst (v := 1) X.1 X.2.1 dX12_fill_129 (by decide) ?_
                    rw [hQQ]
                    exact ret_z X hw hr hlocks (Nat.le_of_ble_eq_true rfl) (Nat.le_of_ble_eq_true rfl) (by decide) ⟨hO_T_59, Or.inl ⟨mk_61, rfl⟩⟩ dX12_fill_130
                  · have z_b_72 := trivial
                    have k_73 : i5_58_z < (a3_z + a4_z) := z_nle z_68 hz_i5_58 c_69
                    refine lv_aload_n X.1 X.2.1 dX12_fill_104 rfl (lv_at hl 1 rfl) ?_
                    refine lv_iload_n X.1 X.2.1 dX12_fill_105 rfl (lv_at hl 2 rfl) ?_
                    refine lv_iconst (v := 0) X.1 X.2.1 dX12_fill_106 (by decide) ?_
                    refine lv_bipush (v := 60) X.1 X.2.1 dX12_fill_107 (by decide) ?_
                    refine lv_iload_n X.1 X.2.1 dX12_fill_109 rfl (lv_at hl 3 rfl) ?_
                    refine lv_imul X.1 X.2.1 dX12_fill_110 ?_
                    refine lv_topi (fun v_74 ev_74 => ?_)
                    have z_75 : v_74.toInt = 60 * a2_z := z_mul ev_74 ti_60 hz_a2 (by omega) (by omega)
                    refine lv_iload X.1 X.2.1 dX12_fill_111 (lv_at hl 0 rfl) ?_
                    refine lv_iadd X.1 X.2.1 dX12_fill_113 ?_
                    refine lv_topi (fun v_76 ev_76 => ?_)
                    have z_77 : v_76.toInt = (60 * a2_z) + i5_58_z := z_add ev_76 z_75 hz_i5_58 (by omega) (by omega)
                    refine lv_aload_n X.1 X.2.1 dX12_fill_114 rfl (lv_at hl 1 rfl) ?_
                    refine lv_iload_n X.1 X.2.1 dX12_fill_115 rfl (lv_at hl 2 rfl) ?_
                    refine lv_iconst (v := 0) X.1 X.2.1 dX12_fill_116 (by decide) ?_
                    refine k_i (rm := { frames := 1, cells := 0, slots := 0, locals := 48 }) (av := [.ref x, .int (a1), .int 0]) X hw (va_runV (As := [.int (a1), .int 0]) (rest := [.int (v_76), .int 0, .int (a1), .ref x]) (cfix X) (k_X12_many2 l G cy κ T_59 _ x (a1) (a1_z) (0) (0) hO_T_59.1 ha_x_L_60 hz_a1 ti_0 (by first | assumption | omega) (by first | assumption | omega) (by first | assumption | omega) (by first | assumption | omega)) (cwV 2 X.2.2.2.1 gX12_fill_X12_many rfl rfl rfl (by decide +kernel) ⟨Nat.le_of_ble_eq_true rfl, Nat.le_of_ble_eq_true rfl⟩) (pre_V X hw _ ha_x_L_60 rfl (by decide) rfl) rfl rfl hl.1 rfl (lv_room (Nat.le_of_ble_eq_true rfl)) dX12_fill_117 ⟨Nat.le_of_ble_eq_true rfl, Nat.le_of_ble_eq_true rfl⟩) 0 0 (Nat.le_of_ble_eq_true rfl) (Nat.le_of_ble_eq_true rfl) (fun rr_78 S_79 H locs hp hw hfr hnw => ?_)
                    obtain ⟨e2, hp⟩ := hp
                    subst e2
                    obtain ⟨f_80, f_81, f_82⟩ := hp
                    have hz_83 : zA T_59 x 1207 (((60 * a2_z) + i5_58_z)).toNat = 0 := iv_62 i5_58_z (by omega) (by omega)
                    have fr_84 : Fre T_59 x (((60 * a2_z) + i5_58_z)) := Fre_of mk_61 hz_83 (Or.inl (by omega))
                    have al_85 := ((MI_1 mk_61 (c := ((60 * a2_z) + i5_58_z)) (by omega) (by omega)).2 (by omega)).2 (by omega) (by omega)
                    refine k_v (rm := { frames := 1, cells := 0, slots := 0, locals := 48 }) (av := [.ref x, .int (a1), .int 0, .int (v_76), .int (rr_78)]) X hw (va_runV (As := [.int (a1), .int 0, .int (v_76), .int (rr_78)]) (rest := []) (cfix X) (k_X12_comes l G cy κ T_59 _ x (a1) (a1_z) (0) (0) (v_76) (((60 * a2_z) + i5_58_z)) (rr_78) (rr_78.toInt) hO_T_59.1 ha_x_L_60 hz_a1 ti_0 z_77 rfl (by first | assumption | omega) (by first | assumption | omega) (by first | assumption | omega) (by first | assumption | omega) (by first | assumption | omega) (by first | assumption | omega) (by first | assumption | omega) (by first | assumption | omega) (by first | assumption | omega) (by first | assumption | omega) mk_61 (by first | assumption | omega) (by first | assumption | omega)) (cwV 4 X.2.2.2.1 gX12_fill_X12_comes rfl rfl rfl (by decide +kernel) ⟨Nat.le_of_ble_eq_true rfl, Nat.le_of_ble_eq_true rfl⟩) (pre_V X hw _ ha_x_L_60 rfl (by decide) rfl) rfl rfl hl.1 rfl (lv_room (Nat.le_of_ble_eq_true rfl)) dX12_fill_120 ⟨Nat.le_of_ble_eq_true rfl, Nat.le_of_ble_eq_true rfl⟩) 0 0 (Nat.le_of_ble_eq_true rfl) (Nat.le_of_ble_eq_true rfl) (fun S_87 H locs hp hw hfr hnw => ?_)
                    obtain ⟨hk_88, hp⟩ := hp
                    have hO_89 : Ok MFI S S_87 := hO_T_59.call hk_88 (by decide +kernel)
                    obtain ⟨mi_90, cm_91, cs_92⟩ := hp
                    obtain ⟨x_93, ex_93⟩ : ∃ y : Int32, y = i5_58 + 1 := ⟨_, rfl⟩
                    have z_94 : x_93.toInt = i5_58_z + 1 := z_add ex_93 hz_i5_58 ti_1 (by omega) (by omega)
                    refine lv_iinc (v := x_93) (lv' := [(5, .int (x_93)), (0, .ref x), (1, .int (a1)), (2, .int (a2)), (3, .int (a3)), (4, .int (a4))]) X.1 X.2.1 dX12_fill_123 hl (k := 0) rfl (by rw [ex_93]; rfl) (by decide) rfl (fun ls hl => ?_)
                    refine lv_goto (tgt := 95) X.1 X.2.1 dX12_fill_126 (by decide) ?_
                    have t_95 : At S_87 x 12 := hk_88.fr.at ha_x_L_60
                    have t_96 : pI S_87 1201 x = v_1 := hk_88.fr.I' (by decide +kernel) ha_x_L_60 ik_64
                    exact ih_L_57 _ (by omega) _ _ _ _ (x_93) (x_93.toInt) rfl hw rfl (by omega) t_95 hO_89 mi_90 (fun j h1 h2 => by rw [cs_92 (60 * a2_z + j).toNat, if_neg (by omega)]; exact iv_62 j (by omega) (by omega)) (by omega) t_96 (lv_sub hl [0, 1, 2, 3, 4, 5] rfl)
                have mi_97 : MIe S_5 x (-1) := MIe_sI hp_0 hO.1 ha_x eS_5 (by decide +kernel)
                exact L_57 _ _ _ _ _ (a3) (a3_z) rfl hw hz_a3 (by omega) t_8 hO_6 mi_97 (fun j h1 h2 => iv_49 j (by omega) (by omega)) (by omega) t_15 (lv_sub hl [0, 1, 2, 3, 4, 5] rfl)
              · have z_b_98 := trivial
                have k_99 : i5_48_z < (a3_z + a4_z) := z_nle z_53 hz_i5_48 c_54
                refine lv_aload_n X.1 X.2.1 dX12_fill_69 rfl (lv_at hl 1 rfl) ?_
                obtain ⟨q_100, h_101, h_102, h_103⟩ := gQ_12_1207 hO_6.1 t_8
                refine r_getR (g := 1207) X hw t_8 rfl 7 h_101 (by decide) rfl inn_X12_fill_12 (by decide) (X.2.2.2.1 (.fieldLink RX12 25 "SilkMillModel" "stand" "[I") (by decide +kernel)) rfl (gv_1207 _ _) dX12_fill_70 ?_
                refine lv_bipush (v := 60) X.1 X.2.1 dX12_fill_73 (by decide) ?_
                refine lv_iload_n X.1 X.2.1 dX12_fill_75 rfl (lv_at hl 3 rfl) ?_
                refine lv_imul X.1 X.2.1 dX12_fill_76 ?_
                refine lv_topi (fun v_104 ev_104 => ?_)
                have z_105 : v_104.toInt = 60 * a2_z := z_mul ev_104 ti_60 hz_a2 (by omega) (by omega)
                refine lv_iload X.1 X.2.1 dX12_fill_77 (lv_at hl 0 rfl) ?_
                refine lv_iadd X.1 X.2.1 dX12_fill_79 ?_
                refine lv_topi (fun v_106 ev_106 => ?_)
                have z_107 : v_106.toInt = (60 * a2_z) + i5_48_z := z_add ev_106 z_105 hz_i5_48 (by omega) (by omega)
                refine r_iald X hw h_102 rfl (by rw [h_103]; exact z_ix z_107 (by omega) (by omega)) dX12_fill_80 ?_
                refine lv_topi (fun v_108 ev_108 => ?_)
                have rg_109 := And.intro (z_lo v_108) (z_hi v_108)
                have ev_108 := ev_108.symm
                have zf_110 : zA S_5 x 1207 (((60 * a2_z) + i5_48_z)).toNat = v_108.toInt := (zA_of h_101 z_107 (by omega) ev_108)
                refine lv_if_eq (tgt := 86) X.1 X.2.1 dX12_fill_81 (by decide) (fun c_111 => ?_) (fun c_111 => ?_)
                · have z_b_112 := trivial
                  have k_113 : v_108.toInt = 0 := z_eq rfl ti_0 c_111
                  obtain ⟨x_114, ex_114⟩ : ∃ y : Int32, y = i5_48 + 1 := ⟨_, rfl⟩
                  have z_115 : x_114.toInt = i5_48_z + 1 := z_add ex_114 hz_i5_48 ti_1 (by omega) (by omega)
                  refine lv_iinc (v := x_114) (lv' := [(5, .int (x_114)), (0, .ref x), (1, .int (a1)), (2, .int (a2)), (3, .int (a3)), (4, .int (a4))]) X.1 X.2.1 dX12_fill_86 hl (k := 0) rfl (by rw [ex_114]; rfl) (by decide) rfl (fun ls hl => ?_)
                  refine lv_goto (tgt := 60) X.1 X.2.1 dX12_fill_89 (by decide) ?_
                  exact ih_L_47 _ (by omega) _ _ _ (x_114) (x_114.toInt) rfl hw rfl (by omega) (fun j h1 h2 => by rcases (by omega : j < i5_48_z ∨ j = i5_48_z) with h | h; exact iv_49 j h1 h; rw [h]; omega) (by omega) (lv_sub hl [0, 1, 2, 3, 4, 5] rfl)
                · have z_b_116 := trivial
                  have k_117 : v_108.toInt ≠ 0 := z_ne rfl ti_0 c_111
                  refine lv_iconst (v := 0) X.1 X.2.1 dX12_fill_84 (by decide) ?_
                  have mi_118 : MIe S_5 x (-1) := MIe_sI hp_0 hO.1 ha_x eS_5 (by decide +kernel)
                  rw [hQQ]
                  exact ret_z X hw hr hlocks (Nat.le_of_ble_eq_true rfl) (Nat.le_of_ble_eq_true rfl) (by decide) ⟨hO_6, Or.inr ⟨mi_118, rfl⟩⟩ dX12_fill_85
            exact L_47 _ _ _ _ (a3) (a3_z) rfl hw hz_a3 (by omega) (fun j h1 h2 => absurd h2 (by omega)) (by omega) (lv_sub hl [0, 1, 2, 3, 4, 5] rfl)
          · have z_b_119 := trivial
            have k_120 : a3_z > (v_40.toInt - a4_z) := z_nle hz_a3 z_43 c_44
            refine lv_iconst (v := 0) X.1 X.2.1 dX12_fill_55 (by decide) ?_
            have mi_121 : MIe S_5 x (-1) := MIe_sI hp_0 hO.1 ha_x eS_5 (by decide +kernel)
            rw [hQQ]
            exact ret_z X hw hr hlocks (Nat.le_of_ble_eq_true rfl) (Nat.le_of_ble_eq_true rfl) (by decide) ⟨hO_6, Or.inr ⟨mi_121, rfl⟩⟩ dX12_fill_56
      · have z_b_122 := trivial
        refine lv_if_eq (tgt := 55) X.1 X.2.1 dX12_fill_35 (by decide) (fun c_123 => ?_) (fun c_123 => absurd c_123 (by decide))
        refine lv_iconst (v := 0) X.1 X.2.1 dX12_fill_55 (by decide) ?_
        have mi_124 : MIe S_5 x (-1) := MIe_sI hp_0 hO.1 ha_x eS_5 (by decide +kernel)
        rw [hQQ]
        exact ret_z X hw hr hlocks (Nat.le_of_ble_eq_true rfl) (Nat.le_of_ble_eq_true rfl) (by decide) ⟨hO_6, Or.inr ⟨mi_124, rfl⟩⟩ dX12_fill_56
    · have z_b_125 := trivial
      refine lv_if_eq (tgt := 55) X.1 X.2.1 dX12_fill_24 (by decide) (fun c_126 => ?_) (fun c_126 => absurd c_126 (by decide))
      refine lv_iconst (v := 0) X.1 X.2.1 dX12_fill_55 (by decide) ?_
      have mi_127 : MIe S_5 x (-1) := MIe_sI hp_0 hO.1 ha_x eS_5 (by decide +kernel)
      rw [hQQ]
      exact ret_z X hw hr hlocks (Nat.le_of_ble_eq_true rfl) (Nat.le_of_ble_eq_true rfl) (by decide) ⟨hO_6, Or.inr ⟨mi_127, rfl⟩⟩ dX12_fill_56
  · have z_b_128 := trivial
    refine lv_if_eq (tgt := 55) X.1 X.2.1 dX12_fill_10 (by decide) (fun c_129 => ?_) (fun c_129 => absurd c_129 (by decide))
    refine lv_iconst (v := 0) X.1 X.2.1 dX12_fill_55 (by decide) ?_
    have mi_130 : MIe S_5 x (-1) := MIe_sI hp_0 hO.1 ha_x eS_5 (by decide +kernel)
    rw [hQQ]
    exact ret_z X hw hr hlocks (Nat.le_of_ble_eq_true rfl) (Nat.le_of_ble_eq_true rfl) (by decide) ⟨hO_6, Or.inr ⟨mi_130, rfl⟩⟩ dX12_fill_56
set_option maxHeartbeats 4000000 in
set_option maxRecDepth 100000 in
theorem k_X12_shelve (l : Launch) (G : va_G) (cy : Nat → ClassId) (κ : Nat → Nat) (S : PS) (sz : Nat) (x : Nat) (a1 : Int32) (a1_z : Int) (a2 : Int32) (a2_z : Int) (a3 : Int32) (a3_z : Int) (a4 : Int32) (a4_z : Int) (hG : GX S) (ha_x : At S x 12) (hz_a1 : a1.toInt = a1_z) (hz_a2 : a2.toInt = a2_z) (hz_a3 : a3.toInt = a3_z) (hz_a4 : a4.toInt = a4_z) (hp_0 : MI S x) : Ci l yX12_shelve wsX12_shelve ({ frames := 3, cells := 0, slots := 0, locals := 144 }) G cy κ S sz [.ref x, .int (a1), .int (a2), .int (a3), .int (a4)] (fun (r : Int32) (S9 : PS) => Ok MSH S S9 ∧ (((MI S9 x) ∧ r = 1) ∨ ((MI S9 x) ∧ r = 0))) := by
  refine ent_m (cc := cX12_shelve) (maxL := 6) (ret := (some .boolean)) (by decide) rfl (Nat.le_of_ble_eq_true rfl) ?_
  intro p e s m below meth c ls X hr hlocks hin hw hl hsz
  subst hsz
  have X : Cx p c cX12_shelve 6 s [.ref x, .int (a1), .int (a2), .int (a3), .int (a4)].toArray wsX12_shelve RX12 m G cy κ (AS S s.heap.size) := X
  have hl : lv_has ls 6 [(0, .ref x), (1, .int (a1)), (2, .int (a2)), (3, .int (a3)), (4, .int (a4))] := hl
  have rg_a1 : (-2147483648) ≤ a1_z ∧ a1_z ≤ 2147483647 := by rw [← hz_a1]; exact ⟨z_lo _, z_hi _⟩
  have rg_a2 : (-2147483648) ≤ a2_z ∧ a2_z ≤ 2147483647 := by rw [← hz_a2]; exact ⟨z_lo _, z_hi _⟩
  have rg_a3 : (-2147483648) ≤ a3_z ∧ a3_z ≤ 2147483647 := by rw [← hz_a3]; exact ⟨z_lo _, z_hi _⟩
  have rg_a4 : (-2147483648) ≤ a4_z ∧ a4_z ≤ 2147483647 := by rw [← hz_a4]; exact ⟨z_lo _, z_hi _⟩
  have hO : Ok MSH S S := Ok.rf hG
  generalize hQQ : MQ below _ _ _ _ _ _ = QQ
  replace hQQ := hQQ.symm
  obtain ⟨v_1, ev_1⟩ : ∃ v, pI S 1201 x = v := ⟨_, rfl⟩
  have rg_2 := gI_12_1201 hO.1 ha_x; rw [ev_1] at rg_2
  have pz_3 : (pI S 1201 x).toInt = v_1.toInt := by rw [ev_1]
  have pz_4 : (pI S 1201 x).toInt = v_1.toInt := (congrArg Int32.toInt ev_1).trans rfl
  refine lv_aload_n X.1 X.2.1 dX12_shelve_0 rfl (lv_at hl 0 rfl) ?_
  refine lv_iconst (v := 0) X.1 X.2.1 dX12_shelve_1 (by decide) ?_
  refine r_putI (v := 0) X hw ha_x rfl 0 1200 tyX12 (by decide) rfl inn_X12_shelve_12 tyX12_ok nmX12 (by decide) (X.2.2.2.1 (.fieldLink RX12 161 "SilkMillModel" "thrown" "I") (by decide +kernel)) rfl (Or.inl rfl) rfl rfl (Nat.le_of_ble_eq_true rfl) (st_1200 _ _) dX12_shelve_2 (fun H locs hw => ?_)
  obtain ⟨S_5, eS_5⟩ : ∃ T, T = sI S 1200 x (0) := ⟨_, rfl⟩
  rw [← eS_5] at hw
  have hO_6 : Ok MSH S S_5 := hO.sI eS_5 (by decide +kernel) (uI_12_1200 hO.1 ha_x)
  have h_7 : pI S_5 1200 x = 0 := tI_sIs eS_5
  refine lv_iload_n X.1 X.2.1 dX12_shelve_5 rfl (lv_at hl 1 rfl) ?_
  refine lv_iconst (v := 0) X.1 X.2.1 dX12_shelve_6 (by decide) ?_
  refine lv_bipush (v := 15) X.1 X.2.1 dX12_shelve_7 (by decide) ?_
  refine k_i (rm := { frames := 1, cells := 0, slots := 0, locals := 48 }) (av := [.int (a1), .int 0, .int 15]) X hw (va_runS (As := [.int (a1), .int 0, .int 15]) (rest := []) (cfix X) (k_X12_within l G cy κ S_5 _ (a1) (a1_z) (0) (0) (15) (15) hO_6.1 hz_a1 ti_0 ti_15) (cwS 3 X.2.2.2.1 gX12_shelve_X12_within rfl rfl rfl (by decide +kernel) ⟨Nat.le_of_ble_eq_true rfl, Nat.le_of_ble_eq_true rfl⟩) (pre_S X hw _) rfl rfl hl.1 rfl (lv_room (Nat.le_of_ble_eq_true rfl)) dX12_shelve_9 ⟨Nat.le_of_ble_eq_true rfl, Nat.le_of_ble_eq_true rfl⟩) 0 0 (Nat.le_of_ble_eq_true rfl) (Nat.le_of_ble_eq_true rfl) (fun rr_8 S_9 H locs hp hw hfr hnw => ?_)
  obtain ⟨e2, hp⟩ := hp
  subst e2
  rcases hp with ⟨f_10, er_11⟩ | ⟨f_10, er_11⟩ <;> subst er_11
  · have z_b_12 := trivial
    refine lv_if_eq (tgt := 33) X.1 X.2.1 dX12_shelve_12 (by decide) (fun c_13 => absurd c_13 (by decide)) (fun c_13 => ?_)
    refine lv_aload_n X.1 X.2.1 dX12_shelve_15 rfl (lv_at hl 0 rfl) ?_
    have t_14 : At S_5 x 12 := tAt_sI eS_5 ha_x
    obtain ⟨q_15, h_16, h_17, h_18⟩ := gQ_12_1253 hO_6.1 t_14
    refine r_getR (g := 1253) X hw t_14 rfl 53 h_16 (by decide) rfl inn_X12_shelve_12 (by decide) (X.2.2.2.1 (.fieldLink RX12 125 "SilkMillModel" "isLaid" "[Z") (by decide +kernel)) rfl (gv_1253 _ _) dX12_shelve_16 ?_
    refine lv_iload_n X.1 X.2.1 dX12_shelve_19 rfl (lv_at hl 1 rfl) ?_
    refine r_zald X hw h_17 rfl (by rw [h_18]; exact z_ix hz_a1 (by omega) (by omega)) dX12_shelve_20 ?_
    refine lv_topi (fun v_19 ev_19 => ?_)
    have rg_20 := And.intro (z_lo v_19) (z_hi v_19)
    have ev_19 := ev_19.symm
    refine lv_if_ne (tgt := 33) X.1 X.2.1 dX12_shelve_21 (by decide) (fun c_21 => ?_) (fun c_21 => ?_)
    · have z_b_22 := trivial
      have k_23 : v_19.toInt ≠ 0 := z_ne rfl ti_0 c_21
      refine lv_iconst (v := 0) X.1 X.2.1 dX12_shelve_33 (by decide) ?_
      have mi_24 : MIe S_5 x (-1) := MIe_sI hp_0 hO.1 ha_x eS_5 (by decide +kernel)
      rw [hQQ]
      exact ret_z X hw hr hlocks (Nat.le_of_ble_eq_true rfl) (Nat.le_of_ble_eq_true rfl) (by decide) ⟨hO_6, Or.inr ⟨mi_24, rfl⟩⟩ dX12_shelve_34
    · have z_b_25 := trivial
      have k_26 : v_19.toInt = 0 := z_eq rfl ti_0 c_21
      refine lv_iload_n X.1 X.2.1 dX12_shelve_24 rfl (lv_at hl 2 rfl) ?_
      refine lv_iconst (v := 0) X.1 X.2.1 dX12_shelve_25 (by decide) ?_
      refine lv_iconst (v := 2) X.1 X.2.1 dX12_shelve_26 (by decide) ?_
      refine k_i (rm := { frames := 1, cells := 0, slots := 0, locals := 48 }) (av := [.int (a2), .int 0, .int 2]) X hw (va_runS (As := [.int (a2), .int 0, .int 2]) (rest := []) (cfix X) (k_X12_within l G cy κ S_5 _ (a2) (a2_z) (0) (0) (2) (2) hO_6.1 hz_a2 ti_0 ti_2) (cwS 3 X.2.2.2.1 gX12_shelve_X12_within rfl rfl rfl (by decide +kernel) ⟨Nat.le_of_ble_eq_true rfl, Nat.le_of_ble_eq_true rfl⟩) (pre_S X hw _) rfl rfl hl.1 rfl (lv_room (Nat.le_of_ble_eq_true rfl)) dX12_shelve_27 ⟨Nat.le_of_ble_eq_true rfl, Nat.le_of_ble_eq_true rfl⟩) 0 0 (Nat.le_of_ble_eq_true rfl) (Nat.le_of_ble_eq_true rfl) (fun rr_27 S_28 H locs hp hw hfr hnw => ?_)
      obtain ⟨e2, hp⟩ := hp
      subst e2
      rcases hp with ⟨f_29, er_30⟩ | ⟨f_29, er_30⟩ <;> subst er_30
      · have z_b_31 := trivial
        refine lv_if_ne (tgt := 35) X.1 X.2.1 dX12_shelve_30 (by decide) (fun c_32 => ?_) (fun c_32 => absurd c_32 (by decide))
        refine lv_iload_n X.1 X.2.1 dX12_shelve_35 rfl (lv_at hl 2 rfl) ?_
        refine lv_if_ne (tgt := 64) X.1 X.2.1 dX12_shelve_36 (by decide) (fun c_33 => ?_) (fun c_33 => ?_)
        · have z_b_34 := trivial
          have k_35 : a2_z ≠ 0 := z_ne hz_a2 ti_0 c_33
          refine lv_iload_n X.1 X.2.1 dX12_shelve_64 rfl (lv_at hl 2 rfl) ?_
          refine lv_iconst (v := 2) X.1 X.2.1 dX12_shelve_65 (by decide) ?_
          refine lv_icmp_ne (tgt := 81) X.1 X.2.1 dX12_shelve_66 (by decide) (fun c_36 => ?_) (fun c_36 => ?_)
          · have z_b_37 := trivial
            have k_38 : a2_z ≠ 2 := z_ne hz_a2 ti_2 c_36
            refine lv_aload_n X.1 X.2.1 dX12_shelve_81 rfl (lv_at hl 0 rfl) ?_
            refine r_getR (g := 1253) X hw t_14 rfl 53 h_16 (by decide) rfl inn_X12_shelve_12 (by decide) (X.2.2.2.1 (.fieldLink RX12 125 "SilkMillModel" "isLaid" "[Z") (by decide +kernel)) rfl (gv_1253 _ _) dX12_shelve_82 ?_
            refine lv_iload_n X.1 X.2.1 dX12_shelve_85 rfl (lv_at hl 1 rfl) ?_
            refine lv_iconst (v := 1) X.1 X.2.1 dX12_shelve_86 (by decide) ?_
            refine r_zast X hw h_17 rfl (by rw [h_18]; exact z_ix hz_a1 (by omega) (by omega)) dX12_shelve_87 (fun H locs hw => ?_)
            obtain ⟨S_39, eS_39⟩ : ∃ T, T = sA S_5 q_15 (upd (pA S_5 q_15) (Int32.toNatClampNeg (a1)) (vp_nar .boolean (1))) := ⟨_, rfl⟩
            rw [← eS_39] at hw
            have hO_40 : Ok MSH S S_39 := hO_6.sA eS_39 h_17 (by decide +kernel) (uA_1275 hO_6.1 h_17)
            have zc_41 : zA S_5 x 1253 = zA S x 1253 := zA_sI eS_5
            have t_42 : pR S_39 1253 x = some q_15 := tR_sA eS_39 h_16
            have t_44 : pR S_5 1253 x = some q_15 := by have h := t_42; rw [eS_39, pR_sA] at h; exact h
            have zs_43 : ∀ j, zA S_39 x 1253 j = if j = (a1_z).toNat then 1 else zA S_5 x 1253 j := by have h := zA_sAs eS_39 t_44 nar1; rw [z_nc hz_a1 (by omega)] at h; exact h
            have zs_45 : ∀ j, zA S_39 x 1253 j = if j = (a1_z).toNat then 1 else zA S x 1253 j := fun j => by rw [zs_43 j, zc_41]
            refine lv_aload_n X.1 X.2.1 dX12_shelve_88 rfl (lv_at hl 0 rfl) ?_
            have t_46 : At S_39 x 12 := tAt_sA eS_39 t_14
            obtain ⟨q_47, h_48, h_49, h_50⟩ := gQ_12_1254 hO_40.1 t_46
            refine r_getR (g := 1254) X hw t_46 rfl 54 h_48 (by decide) rfl inn_X12_shelve_12 (by decide) (X.2.2.2.1 (.fieldLink RX12 128 "SilkMillModel" "laid" "[I") (by decide +kernel)) rfl (gv_1254 _ _) dX12_shelve_89 ?_
            refine lv_iload_n X.1 X.2.1 dX12_shelve_92 rfl (lv_at hl 1 rfl) ?_
            refine lv_iload_n X.1 X.2.1 dX12_shelve_93 rfl (lv_at hl 2 rfl) ?_
            refine r_iast X hw h_49 rfl (by rw [h_50]; exact z_ix hz_a1 (by omega) (by omega)) dX12_shelve_94 (fun H locs hw => ?_)
            obtain ⟨S_51, eS_51⟩ : ∃ T, T = sA S_39 q_47 (upd (pA S_39 q_47) (Int32.toNatClampNeg (a1)) (a2)) := ⟨_, rfl⟩
            rw [← eS_51] at hw
            have hO_52 : Ok MSH S S_51 := hO_40.sA eS_51 h_49 (by decide +kernel) (uA_1294 hO_40.1 h_49)
            have h_53 : pA S_51 q_47 (Int32.toNatClampNeg (a1)) = a2 := tA_sAs eS_51
            have zc_54 : zA S_5 x 1254 = zA S x 1254 := zA_sI eS_5
            have zc_55 : zA S_39 x 1254 = zA S x 1254 := (zA_sAn eS_39 (ex3 (gQ_12_1254 hO_6.1 t_14)) h_17 rfl).trans zc_54
            have t_56 : pR S_51 1254 x = some q_47 := tR_sA eS_51 h_48
            have t_58 : pR S_39 1254 x = some q_47 := by have h := t_56; rw [eS_51, pR_sA] at h; exact h
            have zs_57 : ∀ j, zA S_51 x 1254 j = if j = (a1_z).toNat then a2_z else zA S_39 x 1254 j := by have h := zA_sAs eS_51 t_58 hz_a2; rw [z_nc hz_a1 (by omega)] at h; exact h
            have zs_59 : ∀ j, zA S_51 x 1254 j = if j = (a1_z).toNat then a2_z else zA S x 1254 j := fun j => by rw [zs_57 j, zc_55]
            refine lv_aload_n X.1 X.2.1 dX12_shelve_95 rfl (lv_at hl 0 rfl) ?_
            have t_60 : At S_51 x 12 := tAt_sA eS_51 t_46
            obtain ⟨q_61, h_62, h_63, h_64⟩ := gQ_12_1255 hO_52.1 t_60
            refine r_getR (g := 1255) X hw t_60 rfl 55 h_62 (by decide) rfl inn_X12_shelve_12 (by decide) (X.2.2.2.1 (.fieldLink RX12 131 "SilkMillModel" "laidValue" "[I") (by decide +kernel)) rfl (gv_1255 _ _) dX12_shelve_96 ?_
            refine lv_iload_n X.1 X.2.1 dX12_shelve_99 rfl (lv_at hl 1 rfl) ?_
            refine lv_iload_n X.1 X.2.1 dX12_shelve_100 rfl (lv_at hl 2 rfl) ?_
            refine lv_if_ne (tgt := 114) X.1 X.2.1 dX12_shelve_101 (by decide) (fun c_65 => ?_) (fun c_65 => ?_)
            rotate_left
            · exfalso
              have k_66 : a2_z = 0 := z_eq hz_a2 ti_0 c_65
              omega
            have k_67 : a2_z ≠ 0 := z_ne hz_a2 ti_0 c_65
            refine lv_iload_n X.1 X.2.1 dX12_shelve_114 rfl (lv_at hl 3 rfl) ?_
            refine r_iast X hw h_63 rfl (by rw [h_64]; exact z_ix hz_a1 (by omega) (by omega)) dX12_shelve_115 (fun H locs hw => ?_)
            obtain ⟨S_68, eS_68⟩ : ∃ T, T = sA S_51 q_61 (upd (pA S_51 q_61) (Int32.toNatClampNeg (a1)) (a3)) := ⟨_, rfl⟩
            rw [← eS_68] at hw
            have hO_69 : Ok MSH S S_68 := hO_52.sA eS_68 h_63 (by decide +kernel) (uA_1314 hO_52.1 h_63)
            have h_70 : pA S_68 q_61 (Int32.toNatClampNeg (a1)) = a3 := tA_sAs eS_68
            have zc_71 : zA S_5 x 1255 = zA S x 1255 := zA_sI eS_5
            have zc_72 : zA S_39 x 1255 = zA S x 1255 := (zA_sAn eS_39 (ex3 (gQ_12_1255 hO_6.1 t_14)) h_17 rfl).trans zc_71
            have zc_73 : zA S_51 x 1255 = zA S x 1255 := (zA_sAn eS_51 (ex3 (gQ_12_1255 hO_40.1 t_46)) h_49 rfl).trans zc_72
            have t_74 : pR S_68 1255 x = some q_61 := tR_sA eS_68 h_62
            have t_76 : pR S_51 1255 x = some q_61 := by have h := t_74; rw [eS_68, pR_sA] at h; exact h
            have zs_75 : ∀ j, zA S_68 x 1255 j = if j = (a1_z).toNat then a3_z else zA S_51 x 1255 j := by have h := zA_sAs eS_68 t_76 hz_a3; rw [z_nc hz_a1 (by omega)] at h; exact h
            have zs_77 : ∀ j, zA S_68 x 1255 j = if j = (a1_z).toNat then a3_z else zA S x 1255 j := fun j => by rw [zs_75 j, zc_73]
            refine lv_iload_n X.1 X.2.1 dX12_shelve_116 rfl (lv_at hl 2 rfl) ?_
            refine lv_if_ne (tgt := 133) X.1 X.2.1 dX12_shelve_117 (by decide) (fun c_78 => ?_) (fun c_78 => ?_)
            rotate_left
            · exfalso
              have k_79 : a2_z = 0 := z_eq hz_a2 ti_0 c_78
              omega
            have k_80 : a2_z ≠ 0 := z_ne hz_a2 ti_0 c_78
            have zc_81 : zA S_5 x 1253 = zA S x 1253 := zA_sI eS_5
            have zc_82 : zA S_51 x 1253 = zA S_39 x 1253 := zA_sAn eS_51 (ex3 (gQ_12_1253 hO_40.1 t_46)) h_49 rfl
            have zc_83 : zA S_68 x 1253 = zA S_39 x 1253 := (zA_sAn eS_68 (ex3 (gQ_12_1253 hO_52.1 t_60)) h_63 rfl).trans zc_82
            have zs_84 : ∀ j, zA S_68 x 1253 j = if j = (a1_z).toNat then 1 else zA S x 1253 j := fun j => by rw [zc_83]; exact zs_45 j
            have zc_85 : zA S_5 x 1254 = zA S x 1254 := zA_sI eS_5
            have zc_86 : zA S_39 x 1254 = zA S x 1254 := (zA_sAn eS_39 (ex3 (gQ_12_1254 hO_6.1 t_14)) h_17 rfl).trans zc_85
            have zc_87 : zA S_68 x 1254 = zA S_51 x 1254 := zA_sAn eS_68 (ex3 (gQ_12_1254 hO_52.1 t_60)) h_63 rfl
            have zs_88 : ∀ j, zA S_68 x 1254 j = if j = (a1_z).toNat then a2_z else zA S x 1254 j := fun j => by rw [zc_87]; exact zs_59 j
            have zc_89 : zA S_5 x 1255 = zA S x 1255 := zA_sI eS_5
            have zc_90 : zA S_39 x 1255 = zA S x 1255 := (zA_sAn eS_39 (ex3 (gQ_12_1255 hO_6.1 t_14)) h_17 rfl).trans zc_89
            have zc_91 : zA S_51 x 1255 = zA S x 1255 := (zA_sAn eS_51 (ex3 (gQ_12_1255 hO_40.1 t_46)) h_49 rfl).trans zc_90
            have zc_93 : zA S_5 x 1207 = zA S x 1207 := zA_sI eS_5
            have zc_94 : zA S_39 x 1207 = zA S x 1207 := (zA_sAn eS_39 (ex3 (gQ_12_1207 hO_6.1 t_14)) h_17 rfl).trans zc_93
            have zc_95 : zA S_51 x 1207 = zA S x 1207 := (zA_sAn eS_51 (ex3 (gQ_12_1207 hO_40.1 t_46)) h_49 rfl).trans zc_94
            have zc_96 : zA S_68 x 1207 = zA S x 1207 := (zA_sAn eS_68 (ex3 (gQ_12_1207 hO_52.1 t_60)) h_63 rfl).trans zc_95
            have mi_92 : MI S_68 x := lay_MI (p := (a1_z).toNat) hG ha_x hO_69.fr hp_0 zc_96 (fun j hj => by rw [zs_84 j, if_neg hj]) (fun j hj => by rw [zs_88 j, if_neg hj]) (fun j hj => by rw [zs_77 j, if_neg hj]) (Or.inr (by rw [zs_88, if_pos rfl]; omega))
            refine lv_iload_n X.1 X.2.1 dX12_shelve_133 rfl (lv_at hl 2 rfl) ?_
            refine lv_iconst (v := 2) X.1 X.2.1 dX12_shelve_134 (by decide) ?_
            refine lv_icmp_ne (tgt := 174) X.1 X.2.1 dX12_shelve_135 (by decide) (fun c_97 => ?_) (fun c_97 => ?_)
            rotate_left
            · exfalso
              have k_98 : a2_z = 2 := z_eq hz_a2 ti_2 c_97
              omega
            have k_99 : a2_z ≠ 2 := z_ne hz_a2 ti_2 c_97
            refine lv_iconst (v := 1) X.1 X.2.1 dX12_shelve_174 (by decide) ?_
            rw [hQQ]
            exact ret_z X hw hr hlocks (Nat.le_of_ble_eq_true rfl) (Nat.le_of_ble_eq_true rfl) (by decide) ⟨hO_69, Or.inl ⟨mi_92, rfl⟩⟩ dX12_shelve_175
          · have z_b_100 := trivial
            have k_101 : a2_z = 2 := z_eq hz_a2 ti_2 c_36
            refine lv_iload_n X.1 X.2.1 dX12_shelve_69 rfl (lv_at hl 3 rfl) ?_
            refine lv_iconst (v := 0) X.1 X.2.1 dX12_shelve_70 (by decide) ?_
            refine lv_bipush (v := 8) X.1 X.2.1 dX12_shelve_71 (by decide) ?_
            refine k_i (rm := { frames := 1, cells := 0, slots := 0, locals := 48 }) (av := [.int (a3), .int 0, .int 8]) X hw (va_runS (As := [.int (a3), .int 0, .int 8]) (rest := []) (cfix X) (k_X12_within l G cy κ S_5 _ (a3) (a3_z) (0) (0) (8) (8) hO_6.1 hz_a3 ti_0 ti_8) (cwS 3 X.2.2.2.1 gX12_shelve_X12_within rfl rfl rfl (by decide +kernel) ⟨Nat.le_of_ble_eq_true rfl, Nat.le_of_ble_eq_true rfl⟩) (pre_S X hw _) rfl rfl hl.1 rfl (lv_room (Nat.le_of_ble_eq_true rfl)) dX12_shelve_73 ⟨Nat.le_of_ble_eq_true rfl, Nat.le_of_ble_eq_true rfl⟩) 0 0 (Nat.le_of_ble_eq_true rfl) (Nat.le_of_ble_eq_true rfl) (fun rr_102 S_103 H locs hp hw hfr hnw => ?_)
            obtain ⟨e2, hp⟩ := hp
            subst e2
            rcases hp with ⟨f_104, er_105⟩ | ⟨f_104, er_105⟩ <;> subst er_105
            · have z_b_106 := trivial
              refine lv_if_ne (tgt := 81) X.1 X.2.1 dX12_shelve_76 (by decide) (fun c_107 => ?_) (fun c_107 => absurd c_107 (by decide))
              refine lv_aload_n X.1 X.2.1 dX12_shelve_81 rfl (lv_at hl 0 rfl) ?_
              refine r_getR (g := 1253) X hw t_14 rfl 53 h_16 (by decide) rfl inn_X12_shelve_12 (by decide) (X.2.2.2.1 (.fieldLink RX12 125 "SilkMillModel" "isLaid" "[Z") (by decide +kernel)) rfl (gv_1253 _ _) dX12_shelve_82 ?_
              refine lv_iload_n X.1 X.2.1 dX12_shelve_85 rfl (lv_at hl 1 rfl) ?_
              refine lv_iconst (v := 1) X.1 X.2.1 dX12_shelve_86 (by decide) ?_
              refine r_zast X hw h_17 rfl (by rw [h_18]; exact z_ix hz_a1 (by omega) (by omega)) dX12_shelve_87 (fun H locs hw => ?_)
              obtain ⟨S_108, eS_108⟩ : ∃ T, T = sA S_5 q_15 (upd (pA S_5 q_15) (Int32.toNatClampNeg (a1)) (vp_nar .boolean (1))) := ⟨_, rfl⟩
              rw [← eS_108] at hw
              have hO_109 : Ok MSH S S_108 := hO_6.sA eS_108 h_17 (by decide +kernel) (uA_1275 hO_6.1 h_17)
              have zc_110 : zA S_5 x 1253 = zA S x 1253 := zA_sI eS_5
              have t_111 : pR S_108 1253 x = some q_15 := tR_sA eS_108 h_16
              have t_113 : pR S_5 1253 x = some q_15 := by have h := t_111; rw [eS_108, pR_sA] at h; exact h
              have zs_112 : ∀ j, zA S_108 x 1253 j = if j = (a1_z).toNat then 1 else zA S_5 x 1253 j := by have h := zA_sAs eS_108 t_113 nar1; rw [z_nc hz_a1 (by omega)] at h; exact h
              have zs_114 : ∀ j, zA S_108 x 1253 j = if j = (a1_z).toNat then 1 else zA S x 1253 j := fun j => by rw [zs_112 j, zc_110]
              refine lv_aload_n X.1 X.2.1 dX12_shelve_88 rfl (lv_at hl 0 rfl) ?_
              have t_115 : At S_108 x 12 := tAt_sA eS_108 t_14
              obtain ⟨q_116, h_117, h_118, h_119⟩ := gQ_12_1254 hO_109.1 t_115
              refine r_getR (g := 1254) X hw t_115 rfl 54 h_117 (by decide) rfl inn_X12_shelve_12 (by decide) (X.2.2.2.1 (.fieldLink RX12 128 "SilkMillModel" "laid" "[I") (by decide +kernel)) rfl (gv_1254 _ _) dX12_shelve_89 ?_
              refine lv_iload_n X.1 X.2.1 dX12_shelve_92 rfl (lv_at hl 1 rfl) ?_
              refine lv_iload_n X.1 X.2.1 dX12_shelve_93 rfl (lv_at hl 2 rfl) ?_
              refine r_iast X hw h_118 rfl (by rw [h_119]; exact z_ix hz_a1 (by omega) (by omega)) dX12_shelve_94 (fun H locs hw => ?_)
              obtain ⟨S_120, eS_120⟩ : ∃ T, T = sA S_108 q_116 (upd (pA S_108 q_116) (Int32.toNatClampNeg (a1)) (a2)) := ⟨_, rfl⟩
              rw [← eS_120] at hw
              have hO_121 : Ok MSH S S_120 := hO_109.sA eS_120 h_118 (by decide +kernel) (uA_1294 hO_109.1 h_118)
              have h_122 : pA S_120 q_116 (Int32.toNatClampNeg (a1)) = a2 := tA_sAs eS_120
              have zc_123 : zA S_5 x 1254 = zA S x 1254 := zA_sI eS_5
              have zc_124 : zA S_108 x 1254 = zA S x 1254 := (zA_sAn eS_108 (ex3 (gQ_12_1254 hO_6.1 t_14)) h_17 rfl).trans zc_123
              have t_125 : pR S_120 1254 x = some q_116 := tR_sA eS_120 h_117
              have t_127 : pR S_108 1254 x = some q_116 := by have h := t_125; rw [eS_120, pR_sA] at h; exact h
              have zs_126 : ∀ j, zA S_120 x 1254 j = if j = (a1_z).toNat then a2_z else zA S_108 x 1254 j := by have h := zA_sAs eS_120 t_127 hz_a2; rw [z_nc hz_a1 (by omega)] at h; exact h
              have zs_128 : ∀ j, zA S_120 x 1254 j = if j = (a1_z).toNat then a2_z else zA S x 1254 j := fun j => by rw [zs_126 j, zc_124]
              refine lv_aload_n X.1 X.2.1 dX12_shelve_95 rfl (lv_at hl 0 rfl) ?_
              have t_129 : At S_120 x 12 := tAt_sA eS_120 t_115
              obtain ⟨q_130, h_131, h_132, h_133⟩ := gQ_12_1255 hO_121.1 t_129
              refine r_getR (g := 1255) X hw t_129 rfl 55 h_131 (by decide) rfl inn_X12_shelve_12 (by decide) (X.2.2.2.1 (.fieldLink RX12 131 "SilkMillModel" "laidValue" "[I") (by decide +kernel)) rfl (gv_1255 _ _) dX12_shelve_96 ?_
              refine lv_iload_n X.1 X.2.1 dX12_shelve_99 rfl (lv_at hl 1 rfl) ?_
              refine lv_iload_n X.1 X.2.1 dX12_shelve_100 rfl (lv_at hl 2 rfl) ?_
              refine lv_if_ne (tgt := 114) X.1 X.2.1 dX12_shelve_101 (by decide) (fun c_134 => ?_) (fun c_134 => ?_)
              rotate_left
              · exfalso
                have k_135 : a2_z = 0 := z_eq hz_a2 ti_0 c_134
                omega
              have k_136 : a2_z ≠ 0 := z_ne hz_a2 ti_0 c_134
              refine lv_iload_n X.1 X.2.1 dX12_shelve_114 rfl (lv_at hl 3 rfl) ?_
              refine r_iast X hw h_132 rfl (by rw [h_133]; exact z_ix hz_a1 (by omega) (by omega)) dX12_shelve_115 (fun H locs hw => ?_)
              obtain ⟨S_137, eS_137⟩ : ∃ T, T = sA S_120 q_130 (upd (pA S_120 q_130) (Int32.toNatClampNeg (a1)) (a3)) := ⟨_, rfl⟩
              rw [← eS_137] at hw
              have hO_138 : Ok MSH S S_137 := hO_121.sA eS_137 h_132 (by decide +kernel) (uA_1314 hO_121.1 h_132)
              have h_139 : pA S_137 q_130 (Int32.toNatClampNeg (a1)) = a3 := tA_sAs eS_137
              have zc_140 : zA S_5 x 1255 = zA S x 1255 := zA_sI eS_5
              have zc_141 : zA S_108 x 1255 = zA S x 1255 := (zA_sAn eS_108 (ex3 (gQ_12_1255 hO_6.1 t_14)) h_17 rfl).trans zc_140
              have zc_142 : zA S_120 x 1255 = zA S x 1255 := (zA_sAn eS_120 (ex3 (gQ_12_1255 hO_109.1 t_115)) h_118 rfl).trans zc_141
              have t_143 : pR S_137 1255 x = some q_130 := tR_sA eS_137 h_131
              have t_145 : pR S_120 1255 x = some q_130 := by have h := t_143; rw [eS_137, pR_sA] at h; exact h
              have zs_144 : ∀ j, zA S_137 x 1255 j = if j = (a1_z).toNat then a3_z else zA S_120 x 1255 j := by have h := zA_sAs eS_137 t_145 hz_a3; rw [z_nc hz_a1 (by omega)] at h; exact h
              have zs_146 : ∀ j, zA S_137 x 1255 j = if j = (a1_z).toNat then a3_z else zA S x 1255 j := fun j => by rw [zs_144 j, zc_142]
              refine lv_iload_n X.1 X.2.1 dX12_shelve_116 rfl (lv_at hl 2 rfl) ?_
              refine lv_if_ne (tgt := 133) X.1 X.2.1 dX12_shelve_117 (by decide) (fun c_147 => ?_) (fun c_147 => ?_)
              rotate_left
              · exfalso
                have k_148 : a2_z = 0 := z_eq hz_a2 ti_0 c_147
                omega
              have k_149 : a2_z ≠ 0 := z_ne hz_a2 ti_0 c_147
              have zc_150 : zA S_5 x 1253 = zA S x 1253 := zA_sI eS_5
              have zc_151 : zA S_120 x 1253 = zA S_108 x 1253 := zA_sAn eS_120 (ex3 (gQ_12_1253 hO_109.1 t_115)) h_118 rfl
              have zc_152 : zA S_137 x 1253 = zA S_108 x 1253 := (zA_sAn eS_137 (ex3 (gQ_12_1253 hO_121.1 t_129)) h_132 rfl).trans zc_151
              have zs_153 : ∀ j, zA S_137 x 1253 j = if j = (a1_z).toNat then 1 else zA S x 1253 j := fun j => by rw [zc_152]; exact zs_114 j
              have zc_154 : zA S_5 x 1254 = zA S x 1254 := zA_sI eS_5
              have zc_155 : zA S_108 x 1254 = zA S x 1254 := (zA_sAn eS_108 (ex3 (gQ_12_1254 hO_6.1 t_14)) h_17 rfl).trans zc_154
              have zc_156 : zA S_137 x 1254 = zA S_120 x 1254 := zA_sAn eS_137 (ex3 (gQ_12_1254 hO_121.1 t_129)) h_132 rfl
              have zs_157 : ∀ j, zA S_137 x 1254 j = if j = (a1_z).toNat then a2_z else zA S x 1254 j := fun j => by rw [zc_156]; exact zs_128 j
              have zc_158 : zA S_5 x 1255 = zA S x 1255 := zA_sI eS_5
              have zc_159 : zA S_108 x 1255 = zA S x 1255 := (zA_sAn eS_108 (ex3 (gQ_12_1255 hO_6.1 t_14)) h_17 rfl).trans zc_158
              have zc_160 : zA S_120 x 1255 = zA S x 1255 := (zA_sAn eS_120 (ex3 (gQ_12_1255 hO_109.1 t_115)) h_118 rfl).trans zc_159
              have zc_162 : zA S_5 x 1207 = zA S x 1207 := zA_sI eS_5
              have zc_163 : zA S_108 x 1207 = zA S x 1207 := (zA_sAn eS_108 (ex3 (gQ_12_1207 hO_6.1 t_14)) h_17 rfl).trans zc_162
              have zc_164 : zA S_120 x 1207 = zA S x 1207 := (zA_sAn eS_120 (ex3 (gQ_12_1207 hO_109.1 t_115)) h_118 rfl).trans zc_163
              have zc_165 : zA S_137 x 1207 = zA S x 1207 := (zA_sAn eS_137 (ex3 (gQ_12_1207 hO_121.1 t_129)) h_132 rfl).trans zc_164
              have mi_161 : MI S_137 x := lay_MI (p := (a1_z).toNat) hG ha_x hO_138.fr hp_0 zc_165 (fun j hj => by rw [zs_153 j, if_neg hj]) (fun j hj => by rw [zs_157 j, if_neg hj]) (fun j hj => by rw [zs_146 j, if_neg hj]) (Or.inr (by rw [zs_157, if_pos rfl]; omega))
              refine lv_iload_n X.1 X.2.1 dX12_shelve_133 rfl (lv_at hl 2 rfl) ?_
              refine lv_iconst (v := 2) X.1 X.2.1 dX12_shelve_134 (by decide) ?_
              refine lv_icmp_ne (tgt := 174) X.1 X.2.1 dX12_shelve_135 (by decide) (fun c_166 => ?_) (fun c_166 => ?_)
              · exfalso
                have k_167 : a2_z ≠ 2 := z_ne hz_a2 ti_2 c_166
                omega
              have k_168 : a2_z = 2 := z_eq hz_a2 ti_2 c_166
              refine lv_aload_n X.1 X.2.1 dX12_shelve_138 rfl (lv_at hl 0 rfl) ?_
              have t_169 : At S_137 x 12 := tAt_sA eS_137 t_129
              obtain ⟨q_170, h_171, h_172, h_173⟩ := gQ_12_1256 hO_138.1 t_169
              refine r_getR (g := 1256) X hw t_169 rfl 56 h_171 (by decide) rfl inn_X12_shelve_12 (by decide) (X.2.2.2.1 (.fieldLink RX12 134 "SilkMillModel" "wordMany" "[I") (by decide +kernel)) rfl (gv_1256 _ _) dX12_shelve_139 ?_
              refine lv_iload_n X.1 X.2.1 dX12_shelve_142 rfl (lv_at hl 1 rfl) ?_
              refine lv_iload_n X.1 X.2.1 dX12_shelve_143 rfl (lv_at hl 3 rfl) ?_
              refine r_iast X hw h_172 rfl (by rw [h_173]; exact z_ix hz_a1 (by omega) (by omega)) dX12_shelve_144 (fun H locs hw => ?_)
              obtain ⟨S_174, eS_174⟩ : ∃ T, T = sA S_137 q_170 (upd (pA S_137 q_170) (Int32.toNatClampNeg (a1)) (a3)) := ⟨_, rfl⟩
              rw [← eS_174] at hw
              have hO_175 : Ok MSH S S_174 := hO_138.sA eS_174 h_172 (by decide +kernel) (uA_1334 hO_138.1 h_172 (by omega) (by omega))
              have h_176 : pA S_174 q_170 (Int32.toNatClampNeg (a1)) = a3 := tA_sAs eS_174
              refine lv_iconst (v := 0) X.1 X.2.1 dX12_shelve_145 (by decide) ?_
              refine lv_istore (lv' := [(5, .int 0), (0, .ref x), (1, .int (a1)), (2, .int (a2)), (3, .int (a3)), (4, .int (a4))]) X.1 X.2.1 dX12_shelve_146 hl (by decide) rfl (fun ls hl => ?_)
              have L_177 : ∀ (n : Nat) (T_179 : PS) (H : Heap) (locs : List Loc) (ls : Array Slot) (i5_178 : Int32) (i5_178_z : Int), ((8 - i5_178_z).toNat = n) → (Wd G cy (AS S s.heap.size) s.heap T_179 H locs) → (i5_178.toInt = i5_178_z) → (0 ≤ i5_178_z ∧ i5_178_z ≤ 8) → (At T_179 x 12) → (Ok MSH S T_179) → (MIe T_179 x (-1)) → (lv_has ls 6 [(5, .int (i5_178)), (0, .ref x), (1, .int (a1)), (2, .int (a2)), (3, .int (a3)), (4, .int (a4))]) → W p l e ({ frames := 3, cells := 0, slots := 0, locals := 144 }) s m [.ref x, .int (a1), .int (a2), .int (a3), .int (a4)].toArray below meth c H locs 0 0 QQ (F0 m 148 ls []) := by
                intro n
                induction n using Nat.strongRecOn with
                | ind n ih_L_177 =>
                intro T_179 H locs ls i5_178 i5_178_z hn hw hz_i5_178 hr_i5_178 ha_x_L_180 hO_T_179 mk_181 hl
                have rg_182 : (-2147483648) ≤ i5_178_z ∧ i5_178_z ≤ 2147483647 := by rw [← hz_i5_178]; exact ⟨z_lo _, z_hi _⟩
                refine lv_iload X.1 X.2.1 dX12_shelve_148 (lv_at hl 0 rfl) ?_
                refine lv_iload_n X.1 X.2.1 dX12_shelve_150 rfl (lv_at hl 4 rfl) ?_
                refine lv_icmp_ge (tgt := 174) X.1 X.2.1 dX12_shelve_151 (by decide) (fun c_183 => ?_) (fun c_183 => ?_)
                · have z_b_184 := trivial
                  have k_185 : i5_178_z ≥ a3_z := z_le hz_a3 hz_i5_178 c_183
                  refine lv_iconst (v := 1) X.1 X.2.1 dX12_shelve_174 (by decide) ?_
                  rw [hQQ]
                  exact ret_z X hw hr hlocks (Nat.le_of_ble_eq_true rfl) (Nat.le_of_ble_eq_true rfl) (by decide) ⟨hO_T_179, Or.inl ⟨mk_181, rfl⟩⟩ dX12_shelve_175
                · have z_b_186 := trivial
                  have k_187 : i5_178_z < a3_z := z_nle hz_a3 hz_i5_178 c_183
                  refine lv_aload_n X.1 X.2.1 dX12_shelve_154 rfl (lv_at hl 1 rfl) ?_
                  obtain ⟨q_188, h_189, h_190, h_191⟩ := gQ_12_1257 hO_T_179.1 ha_x_L_180
                  refine r_getR (g := 1257) X hw ha_x_L_180 rfl 57 h_189 (by decide) rfl inn_X12_shelve_12 (by decide) (X.2.2.2.1 (.fieldLink RX12 137 "SilkMillModel" "wordOf" "[I") (by decide +kernel)) rfl (gv_1257 _ _) dX12_shelve_155 ?_
                  refine lv_bipush (v := 8) X.1 X.2.1 dX12_shelve_158 (by decide) ?_
                  refine lv_iload_n X.1 X.2.1 dX12_shelve_160 rfl (lv_at hl 2 rfl) ?_
                  refine lv_imul X.1 X.2.1 dX12_shelve_161 ?_
                  refine lv_topi (fun v_192 ev_192 => ?_)
                  have z_193 : v_192.toInt = 8 * a1_z := z_mul ev_192 ti_8 hz_a1 (by omega) (by omega)
                  refine lv_iload X.1 X.2.1 dX12_shelve_162 (lv_at hl 0 rfl) ?_
                  refine lv_iadd X.1 X.2.1 dX12_shelve_164 ?_
                  refine lv_topi (fun v_194 ev_194 => ?_)
                  have z_195 : v_194.toInt = (8 * a1_z) + i5_178_z := z_add ev_194 z_193 hz_i5_178 (by omega) (by omega)
                  refine lv_iload X.1 X.2.1 dX12_shelve_165 (lv_at hl 5 rfl) ?_
                  refine r_iast X hw h_190 rfl (by rw [h_191]; exact z_ix z_195 (by omega) (by omega)) dX12_shelve_167 (fun H locs hw => ?_)
                  obtain ⟨S_196, eS_196⟩ : ∃ T, T = sA T_179 q_188 (upd (pA T_179 q_188) (Int32.toNatClampNeg (v_194)) (a4)) := ⟨_, rfl⟩
                  rw [← eS_196] at hw
                  have hO_197 : Ok MSH S S_196 := hO_T_179.sA eS_196 h_190 (by decide +kernel) (uA_1354 hO_T_179.1 h_190)
                  have h_198 : pA S_196 q_188 (Int32.toNatClampNeg (v_194)) = a4 := tA_sAs eS_196
                  obtain ⟨x_199, ex_199⟩ : ∃ y : Int32, y = i5_178 + 1 := ⟨_, rfl⟩
                  have z_200 : x_199.toInt = i5_178_z + 1 := z_add ex_199 hz_i5_178 ti_1 (by omega) (by omega)
                  refine lv_iinc (v := x_199) (lv' := [(5, .int (x_199)), (0, .ref x), (1, .int (a1)), (2, .int (a2)), (3, .int (a3)), (4, .int (a4))]) X.1 X.2.1 dX12_shelve_168 hl (k := 0) rfl (by rw [ex_199]; rfl) (by decide) rfl (fun ls hl => ?_)
                  refine lv_goto (tgt := 148) X.1 X.2.1 dX12_shelve_171 (by decide) ?_
                  have t_201 : At S_196 x 12 := tAt_sA eS_196 ha_x_L_180
                  have mi_202 : MIe S_196 x (-1) := MIe_sA mk_181 hO_T_179.1 ha_x_L_180 h_190 eS_196 (by decide +kernel)
                  exact ih_L_177 _ (by omega) _ _ _ _ (x_199) (x_199.toInt) rfl hw rfl (by omega) t_201 hO_197 mi_202 (lv_sub hl [0, 1, 2, 3, 4, 5] rfl)
              have t_203 : At S_174 x 12 := tAt_sA eS_174 t_169
              have mi_204 : MIe S_174 x (-1) := MIe_sA mi_161 hO_138.1 t_169 h_172 eS_174 (by decide +kernel)
              exact L_177 _ _ _ _ _ (0) (0) rfl hw ti_0 (by omega) t_203 hO_175 mi_204 (lv_sub hl [0, 1, 2, 3, 4, 5] rfl)
            · have z_b_205 := trivial
              refine lv_if_ne (tgt := 81) X.1 X.2.1 dX12_shelve_76 (by decide) (fun c_206 => absurd c_206 (by decide)) (fun c_206 => ?_)
              refine lv_iconst (v := 0) X.1 X.2.1 dX12_shelve_79 (by decide) ?_
              have mi_207 : MIe S_5 x (-1) := MIe_sI hp_0 hO.1 ha_x eS_5 (by decide +kernel)
              rw [hQQ]
              exact ret_z X hw hr hlocks (Nat.le_of_ble_eq_true rfl) (Nat.le_of_ble_eq_true rfl) (by decide) ⟨hO_6, Or.inr ⟨mi_207, rfl⟩⟩ dX12_shelve_80
        · have z_b_208 := trivial
          have k_209 : a2_z = 0 := z_eq hz_a2 ti_0 c_33
          refine lv_aload_n X.1 X.2.1 dX12_shelve_39 rfl (lv_at hl 0 rfl) ?_
          refine lv_iload_n X.1 X.2.1 dX12_shelve_40 rfl (lv_at hl 3 rfl) ?_
          refine lv_iload X.1 X.2.1 dX12_shelve_41 (lv_at hl 4 rfl) ?_
          have t_210 : pI S_5 1201 x = v_1 := tI_sI eS_5 rfl ev_1
          have pz_211 : (pI S_5 1201 x).toInt = v_1.toInt := (congrArg Int32.toInt t_210).trans rfl
          refine k_i (rm := { frames := 2, cells := 0, slots := 0, locals := 96 }) (av := [.ref x, .int (a3), .int (a4)]) X hw (va_runV (As := [.int (a3), .int (a4)]) (rest := []) (cfix X) (k_X12_isCocoon l G cy κ S_5 _ x (a3) (a3_z) (a4) (a4_z) hO_6.1 t_14 hz_a3 hz_a4) (cwV 2 X.2.2.2.1 gX12_shelve_X12_isCocoon rfl rfl rfl (by decide +kernel) ⟨Nat.le_of_ble_eq_true rfl, Nat.le_of_ble_eq_true rfl⟩) (pre_V X hw _ t_14 rfl (by decide) rfl) rfl rfl hl.1 rfl (lv_room (Nat.le_of_ble_eq_true rfl)) dX12_shelve_43 ⟨Nat.le_of_ble_eq_true rfl, Nat.le_of_ble_eq_true rfl⟩) 0 0 (Nat.le_of_ble_eq_true rfl) (Nat.le_of_ble_eq_true rfl) (fun rr_212 S_213 H locs hp hw hfr hnw => ?_)
          obtain ⟨e2, hp⟩ := hp
          subst e2
          rcases hp with ⟨f_214, er_215⟩ | ⟨f_214, er_215⟩ <;> subst er_215
          · have z_b_216 := trivial
            refine lv_if_eq (tgt := 79) X.1 X.2.1 dX12_shelve_46 (by decide) (fun c_217 => absurd c_217 (by decide)) (fun c_217 => ?_)
            refine lv_aload_n X.1 X.2.1 dX12_shelve_49 rfl (lv_at hl 0 rfl) ?_
            obtain ⟨q_218, h_219, h_220, h_221⟩ := gQ_12_1207 hO_6.1 t_14
            refine r_getR (g := 1207) X hw t_14 rfl 7 h_219 (by decide) rfl inn_X12_shelve_12 (by decide) (X.2.2.2.1 (.fieldLink RX12 25 "SilkMillModel" "stand" "[I") (by decide +kernel)) rfl (gv_1207 _ _) dX12_shelve_50 ?_
            refine lv_bipush (v := 60) X.1 X.2.1 dX12_shelve_53 (by decide) ?_
            refine lv_iload_n X.1 X.2.1 dX12_shelve_55 rfl (lv_at hl 3 rfl) ?_
            refine lv_imul X.1 X.2.1 dX12_shelve_56 ?_
            refine lv_topi (fun v_222 ev_222 => ?_)
            have z_223 : v_222.toInt = 60 * a3_z := z_mul ev_222 ti_60 hz_a3 (by omega) (by omega)
            refine lv_iload X.1 X.2.1 dX12_shelve_57 (lv_at hl 4 rfl) ?_
            refine lv_iadd X.1 X.2.1 dX12_shelve_59 ?_
            refine lv_topi (fun v_224 ev_224 => ?_)
            have z_225 : v_224.toInt = (60 * a3_z) + a4_z := z_add ev_224 z_223 hz_a4 (by omega) (by omega)
            refine r_iald X hw h_220 rfl (by rw [h_221]; exact z_ix z_225 (by omega) (by omega)) dX12_shelve_60 ?_
            refine lv_topi (fun v_226 ev_226 => ?_)
            have rg_227 := And.intro (z_lo v_226) (z_hi v_226)
            have ev_226 := ev_226.symm
            have zf_228 : zA S_5 x 1207 (((60 * a3_z) + a4_z)).toNat = v_226.toInt := (zA_of h_219 z_225 (by omega) ev_226)
            have zc_229 : zA S_5 x 1207 = zA S x 1207 := zA_sI eS_5
            have zz_230 := congrFun zc_229 (((60 * a3_z) + a4_z).toNat)
            refine lv_if_ne (tgt := 79) X.1 X.2.1 dX12_shelve_61 (by decide) (fun c_231 => ?_) (fun c_231 => ?_)
            · have z_b_232 := trivial
              have k_233 : v_226.toInt ≠ 0 := z_ne rfl ti_0 c_231
              refine lv_iconst (v := 0) X.1 X.2.1 dX12_shelve_79 (by decide) ?_
              have mi_234 : MIe S_5 x (-1) := MIe_sI hp_0 hO.1 ha_x eS_5 (by decide +kernel)
              rw [hQQ]
              exact ret_z X hw hr hlocks (Nat.le_of_ble_eq_true rfl) (Nat.le_of_ble_eq_true rfl) (by decide) ⟨hO_6, Or.inr ⟨mi_234, rfl⟩⟩ dX12_shelve_80
            · have z_b_235 := trivial
              have k_236 : v_226.toInt = 0 := z_eq rfl ti_0 c_231
              refine lv_iload_n X.1 X.2.1 dX12_shelve_64 rfl (lv_at hl 2 rfl) ?_
              refine lv_iconst (v := 2) X.1 X.2.1 dX12_shelve_65 (by decide) ?_
              refine lv_icmp_ne (tgt := 81) X.1 X.2.1 dX12_shelve_66 (by decide) (fun c_237 => ?_) (fun c_237 => ?_)
              rotate_left
              · exfalso
                have k_238 : a2_z = 2 := z_eq hz_a2 ti_2 c_237
                omega
              have k_239 : a2_z ≠ 2 := z_ne hz_a2 ti_2 c_237
              refine lv_aload_n X.1 X.2.1 dX12_shelve_81 rfl (lv_at hl 0 rfl) ?_
              refine r_getR (g := 1253) X hw t_14 rfl 53 h_16 (by decide) rfl inn_X12_shelve_12 (by decide) (X.2.2.2.1 (.fieldLink RX12 125 "SilkMillModel" "isLaid" "[Z") (by decide +kernel)) rfl (gv_1253 _ _) dX12_shelve_82 ?_
              refine lv_iload_n X.1 X.2.1 dX12_shelve_85 rfl (lv_at hl 1 rfl) ?_
              refine lv_iconst (v := 1) X.1 X.2.1 dX12_shelve_86 (by decide) ?_
              refine r_zast X hw h_17 rfl (by rw [h_18]; exact z_ix hz_a1 (by omega) (by omega)) dX12_shelve_87 (fun H locs hw => ?_)
              obtain ⟨S_240, eS_240⟩ : ∃ T, T = sA S_5 q_15 (upd (pA S_5 q_15) (Int32.toNatClampNeg (a1)) (vp_nar .boolean (1))) := ⟨_, rfl⟩
              rw [← eS_240] at hw
              have hO_241 : Ok MSH S S_240 := hO_6.sA eS_240 h_17 (by decide +kernel) (uA_1275 hO_6.1 h_17)
              have zc_242 : zA S_5 x 1253 = zA S x 1253 := zA_sI eS_5
              have t_243 : pR S_240 1253 x = some q_15 := tR_sA eS_240 h_16
              have t_245 : pR S_5 1253 x = some q_15 := by have h := t_243; rw [eS_240, pR_sA] at h; exact h
              have zs_244 : ∀ j, zA S_240 x 1253 j = if j = (a1_z).toNat then 1 else zA S_5 x 1253 j := by have h := zA_sAs eS_240 t_245 nar1; rw [z_nc hz_a1 (by omega)] at h; exact h
              have zs_246 : ∀ j, zA S_240 x 1253 j = if j = (a1_z).toNat then 1 else zA S x 1253 j := fun j => by rw [zs_244 j, zc_242]
              refine lv_aload_n X.1 X.2.1 dX12_shelve_88 rfl (lv_at hl 0 rfl) ?_
              have t_247 : At S_240 x 12 := tAt_sA eS_240 t_14
              obtain ⟨q_248, h_249, h_250, h_251⟩ := gQ_12_1254 hO_241.1 t_247
              refine r_getR (g := 1254) X hw t_247 rfl 54 h_249 (by decide) rfl inn_X12_shelve_12 (by decide) (X.2.2.2.1 (.fieldLink RX12 128 "SilkMillModel" "laid" "[I") (by decide +kernel)) rfl (gv_1254 _ _) dX12_shelve_89 ?_
              refine lv_iload_n X.1 X.2.1 dX12_shelve_92 rfl (lv_at hl 1 rfl) ?_
              refine lv_iload_n X.1 X.2.1 dX12_shelve_93 rfl (lv_at hl 2 rfl) ?_
              refine r_iast X hw h_250 rfl (by rw [h_251]; exact z_ix hz_a1 (by omega) (by omega)) dX12_shelve_94 (fun H locs hw => ?_)
              obtain ⟨S_252, eS_252⟩ : ∃ T, T = sA S_240 q_248 (upd (pA S_240 q_248) (Int32.toNatClampNeg (a1)) (a2)) := ⟨_, rfl⟩
              rw [← eS_252] at hw
              have hO_253 : Ok MSH S S_252 := hO_241.sA eS_252 h_250 (by decide +kernel) (uA_1294 hO_241.1 h_250)
              have h_254 : pA S_252 q_248 (Int32.toNatClampNeg (a1)) = a2 := tA_sAs eS_252
              have zc_255 : zA S_5 x 1254 = zA S x 1254 := zA_sI eS_5
              have zc_256 : zA S_240 x 1254 = zA S x 1254 := (zA_sAn eS_240 (ex3 (gQ_12_1254 hO_6.1 t_14)) h_17 rfl).trans zc_255
              have t_257 : pR S_252 1254 x = some q_248 := tR_sA eS_252 h_249
              have t_259 : pR S_240 1254 x = some q_248 := by have h := t_257; rw [eS_252, pR_sA] at h; exact h
              have zs_258 : ∀ j, zA S_252 x 1254 j = if j = (a1_z).toNat then a2_z else zA S_240 x 1254 j := by have h := zA_sAs eS_252 t_259 hz_a2; rw [z_nc hz_a1 (by omega)] at h; exact h
              have zs_260 : ∀ j, zA S_252 x 1254 j = if j = (a1_z).toNat then a2_z else zA S x 1254 j := fun j => by rw [zs_258 j, zc_256]
              refine lv_aload_n X.1 X.2.1 dX12_shelve_95 rfl (lv_at hl 0 rfl) ?_
              have t_261 : At S_252 x 12 := tAt_sA eS_252 t_247
              obtain ⟨q_262, h_263, h_264, h_265⟩ := gQ_12_1255 hO_253.1 t_261
              refine r_getR (g := 1255) X hw t_261 rfl 55 h_263 (by decide) rfl inn_X12_shelve_12 (by decide) (X.2.2.2.1 (.fieldLink RX12 131 "SilkMillModel" "laidValue" "[I") (by decide +kernel)) rfl (gv_1255 _ _) dX12_shelve_96 ?_
              refine lv_iload_n X.1 X.2.1 dX12_shelve_99 rfl (lv_at hl 1 rfl) ?_
              refine lv_iload_n X.1 X.2.1 dX12_shelve_100 rfl (lv_at hl 2 rfl) ?_
              refine lv_if_ne (tgt := 114) X.1 X.2.1 dX12_shelve_101 (by decide) (fun c_266 => ?_) (fun c_266 => ?_)
              · exfalso
                have k_267 : a2_z ≠ 0 := z_ne hz_a2 ti_0 c_266
                omega
              have k_268 : a2_z = 0 := z_eq hz_a2 ti_0 c_266
              refine lv_bipush (v := 60) X.1 X.2.1 dX12_shelve_104 (by decide) ?_
              refine lv_iload_n X.1 X.2.1 dX12_shelve_106 rfl (lv_at hl 3 rfl) ?_
              refine lv_imul X.1 X.2.1 dX12_shelve_107 ?_
              refine lv_topi (fun v_269 ev_269 => ?_)
              have z_270 : v_269.toInt = 60 * a3_z := z_mul ev_269 ti_60 hz_a3 (by omega) (by omega)
              refine lv_iload X.1 X.2.1 dX12_shelve_108 (lv_at hl 4 rfl) ?_
              refine lv_iadd X.1 X.2.1 dX12_shelve_110 ?_
              refine lv_topi (fun v_271 ev_271 => ?_)
              have z_272 : v_271.toInt = (60 * a3_z) + a4_z := z_add ev_271 z_270 hz_a4 (by omega) (by omega)
              refine lv_goto (tgt := 115) X.1 X.2.1 dX12_shelve_111 (by decide) ?_
              refine r_iast X hw h_264 rfl (by rw [h_265]; exact z_ix hz_a1 (by omega) (by omega)) dX12_shelve_115 (fun H locs hw => ?_)
              obtain ⟨S_273, eS_273⟩ : ∃ T, T = sA S_252 q_262 (upd (pA S_252 q_262) (Int32.toNatClampNeg (a1)) (v_271)) := ⟨_, rfl⟩
              rw [← eS_273] at hw
              have hO_274 : Ok MSH S S_273 := hO_253.sA eS_273 h_264 (by decide +kernel) (uA_1314 hO_253.1 h_264)
              have h_275 : pA S_273 q_262 (Int32.toNatClampNeg (a1)) = v_271 := tA_sAs eS_273
              have zc_276 : zA S_5 x 1255 = zA S x 1255 := zA_sI eS_5
              have zc_277 : zA S_240 x 1255 = zA S x 1255 := (zA_sAn eS_240 (ex3 (gQ_12_1255 hO_6.1 t_14)) h_17 rfl).trans zc_276
              have zc_278 : zA S_252 x 1255 = zA S x 1255 := (zA_sAn eS_252 (ex3 (gQ_12_1255 hO_241.1 t_247)) h_250 rfl).trans zc_277
              have t_279 : pR S_273 1255 x = some q_262 := tR_sA eS_273 h_263
              have t_281 : pR S_252 1255 x = some q_262 := by have h := t_279; rw [eS_273, pR_sA] at h; exact h
              have zs_280 : ∀ j, zA S_273 x 1255 j = if j = (a1_z).toNat then ((60 * a3_z) + a4_z) else zA S_252 x 1255 j := by have h := zA_sAs eS_273 t_281 z_272; rw [z_nc hz_a1 (by omega)] at h; exact h
              have zs_282 : ∀ j, zA S_273 x 1255 j = if j = (a1_z).toNat then ((60 * a3_z) + a4_z) else zA S x 1255 j := fun j => by rw [zs_280 j, zc_278]
              refine lv_iload_n X.1 X.2.1 dX12_shelve_116 rfl (lv_at hl 2 rfl) ?_
              refine lv_if_ne (tgt := 133) X.1 X.2.1 dX12_shelve_117 (by decide) (fun c_283 => ?_) (fun c_283 => ?_)
              · exfalso
                have k_284 : a2_z ≠ 0 := z_ne hz_a2 ti_0 c_283
                omega
              have k_285 : a2_z = 0 := z_eq hz_a2 ti_0 c_283
              refine lv_aload_n X.1 X.2.1 dX12_shelve_120 rfl (lv_at hl 0 rfl) ?_
              have t_286 : At S_273 x 12 := tAt_sA eS_273 t_261
              have t_287 : pR S_240 1207 x = some q_218 := tR_sA eS_240 h_219
              have t_288 : pR S_252 1207 x = some q_218 := tR_sA eS_252 t_287
              have t_289 : pR S_273 1207 x = some q_218 := tR_sA eS_273 t_288
              refine r_getR (g := 1207) X hw t_286 rfl 7 t_289 (by decide) rfl inn_X12_shelve_12 (by decide) (X.2.2.2.1 (.fieldLink RX12 25 "SilkMillModel" "stand" "[I") (by decide +kernel)) rfl (gv_1207 _ _) dX12_shelve_121 ?_
              refine lv_bipush (v := 60) X.1 X.2.1 dX12_shelve_124 (by decide) ?_
              refine lv_iload_n X.1 X.2.1 dX12_shelve_126 rfl (lv_at hl 3 rfl) ?_
              refine lv_imul X.1 X.2.1 dX12_shelve_127 ?_
              refine lv_topi (fun v_290 ev_290 => ?_)
              have z_291 : v_290.toInt = 60 * a3_z := z_mul ev_290 ti_60 hz_a3 (by omega) (by omega)
              refine lv_iload X.1 X.2.1 dX12_shelve_128 (lv_at hl 4 rfl) ?_
              refine lv_iadd X.1 X.2.1 dX12_shelve_130 ?_
              refine lv_topi (fun v_292 ev_292 => ?_)
              have z_293 : v_292.toInt = (60 * a3_z) + a4_z := z_add ev_292 z_291 hz_a4 (by omega) (by omega)
              refine lv_iconst (v := 5) X.1 X.2.1 dX12_shelve_131 (by decide) ?_
              have t_294 : At S_240 q_218 354 := tAt_sA eS_240 h_220
              have t_295 : At S_252 q_218 354 := tAt_sA eS_252 t_294
              have t_296 : At S_273 q_218 354 := tAt_sA eS_273 t_295
              have t_297 : pN S_240 q_218 = 600 := tN_sA eS_240 h_221
              clear h_221
              have t_298 : pN S_252 q_218 = 600 := tN_sA eS_252 t_297
              clear t_297
              have t_299 : pN S_273 q_218 = 600 := tN_sA eS_273 t_298
              clear t_298
              refine r_iast X hw t_296 rfl (by rw [t_299]; exact z_ix z_293 (by omega) (by omega)) dX12_shelve_132 (fun H locs hw => ?_)
              obtain ⟨S_300, eS_300⟩ : ∃ T, T = sA S_273 q_218 (upd (pA S_273 q_218) (Int32.toNatClampNeg (v_292)) (5)) := ⟨_, rfl⟩
              rw [← eS_300] at hw
              have hO_301 : Ok MSH S S_300 := hO_274.sA eS_300 t_296 (by decide +kernel) (uA_354 hO_274.1 t_296)
              have h_302 : pA S_300 q_218 (Int32.toNatClampNeg (v_292)) = 5 := tA_sAs eS_300
              have zc_303 : zA S_240 x 1207 = zA S x 1207 := (zA_sAn eS_240 (ex3 (gQ_12_1207 hO_6.1 t_14)) h_17 rfl).trans zc_229
              have zc_304 : zA S_252 x 1207 = zA S x 1207 := (zA_sAn eS_252 (ex3 (gQ_12_1207 hO_241.1 t_247)) h_250 rfl).trans zc_303
              have zc_305 : zA S_273 x 1207 = zA S x 1207 := (zA_sAn eS_273 (ex3 (gQ_12_1207 hO_253.1 t_261)) h_264 rfl).trans zc_304
              have t_306 : pR S_300 1207 x = some q_218 := tR_sA eS_300 t_289
              have t_308 : pR S_273 1207 x = some q_218 := by have h := t_306; rw [eS_300, pR_sA] at h; exact h
              have zs_307 : ∀ j, zA S_300 x 1207 j = if j = (((60 * a3_z) + a4_z)).toNat then 5 else zA S_273 x 1207 j := by have h := zA_sAs eS_300 t_308 ti_5; rw [z_nc z_293 (by omega)] at h; exact h
              have zs_309 : ∀ j, zA S_300 x 1207 j = if j = (((60 * a3_z) + a4_z)).toNat then 5 else zA S x 1207 j := fun j => by rw [zs_307 j, zc_305]
              have zc_310 : zA S_5 x 1253 = zA S x 1253 := zA_sI eS_5
              have zc_311 : zA S_252 x 1253 = zA S_240 x 1253 := zA_sAn eS_252 (ex3 (gQ_12_1253 hO_241.1 t_247)) h_250 rfl
              have zc_312 : zA S_273 x 1253 = zA S_240 x 1253 := (zA_sAn eS_273 (ex3 (gQ_12_1253 hO_253.1 t_261)) h_264 rfl).trans zc_311
              have zc_313 : zA S_300 x 1253 = zA S_240 x 1253 := (zA_sAn eS_300 (ex3 (gQ_12_1253 hO_274.1 t_286)) t_296 rfl).trans zc_312
              have zs_314 : ∀ j, zA S_300 x 1253 j = if j = (a1_z).toNat then 1 else zA S x 1253 j := fun j => by rw [zc_313]; exact zs_246 j
              have zc_315 : zA S_5 x 1254 = zA S x 1254 := zA_sI eS_5
              have zc_316 : zA S_240 x 1254 = zA S x 1254 := (zA_sAn eS_240 (ex3 (gQ_12_1254 hO_6.1 t_14)) h_17 rfl).trans zc_315
              have zc_317 : zA S_273 x 1254 = zA S_252 x 1254 := zA_sAn eS_273 (ex3 (gQ_12_1254 hO_253.1 t_261)) h_264 rfl
              have zc_318 : zA S_300 x 1254 = zA S_252 x 1254 := (zA_sAn eS_300 (ex3 (gQ_12_1254 hO_274.1 t_286)) t_296 rfl).trans zc_317
              have zs_319 : ∀ j, zA S_300 x 1254 j = if j = (a1_z).toNat then a2_z else zA S x 1254 j := fun j => by rw [zc_318]; exact zs_260 j
              have zc_320 : zA S_5 x 1255 = zA S x 1255 := zA_sI eS_5
              have zc_321 : zA S_240 x 1255 = zA S x 1255 := (zA_sAn eS_240 (ex3 (gQ_12_1255 hO_6.1 t_14)) h_17 rfl).trans zc_320
              have zc_322 : zA S_252 x 1255 = zA S x 1255 := (zA_sAn eS_252 (ex3 (gQ_12_1255 hO_241.1 t_247)) h_250 rfl).trans zc_321
              have zc_323 : zA S_300 x 1255 = zA S_273 x 1255 := zA_sAn eS_300 (ex3 (gQ_12_1255 hO_274.1 t_286)) t_296 rfl
              have zs_324 : ∀ j, zA S_300 x 1255 j = if j = (a1_z).toNat then ((60 * a3_z) + a4_z) else zA S x 1255 j := fun j => by rw [zc_323]; exact zs_282 j
              have zc_326 : zA S_240 x 1207 = zA S x 1207 := (zA_sAn eS_240 (ex3 (gQ_12_1207 hO_6.1 t_14)) h_17 rfl).trans zc_229
              have zc_327 : zA S_252 x 1207 = zA S x 1207 := (zA_sAn eS_252 (ex3 (gQ_12_1207 hO_241.1 t_247)) h_250 rfl).trans zc_326
              have zc_328 : zA S_273 x 1207 = zA S x 1207 := (zA_sAn eS_273 (ex3 (gQ_12_1207 hO_253.1 t_261)) h_264 rfl).trans zc_327
              have hla : ∀ j, zA S_300 x 1254 j = if j = (a1_z).toNat then 0 else zA S x 1254 j := fun j => by rw [zs_319 j]; split <;> omega
              have mi_325 : MI S_300 x := shelve_MI (p := (a1_z).toNat) (c := ((60 * a3_z) + a4_z)) hG ha_x hO_301.fr hp_0 (by omega) (by omega) (by omega) (by omega) zs_309 zs_314 hla zs_324
              refine lv_iload_n X.1 X.2.1 dX12_shelve_133 rfl (lv_at hl 2 rfl) ?_
              refine lv_iconst (v := 2) X.1 X.2.1 dX12_shelve_134 (by decide) ?_
              refine lv_icmp_ne (tgt := 174) X.1 X.2.1 dX12_shelve_135 (by decide) (fun c_329 => ?_) (fun c_329 => ?_)
              rotate_left
              · exfalso
                have k_330 : a2_z = 2 := z_eq hz_a2 ti_2 c_329
                omega
              have k_331 : a2_z ≠ 2 := z_ne hz_a2 ti_2 c_329
              refine lv_iconst (v := 1) X.1 X.2.1 dX12_shelve_174 (by decide) ?_
              rw [hQQ]
              exact ret_z X hw hr hlocks (Nat.le_of_ble_eq_true rfl) (Nat.le_of_ble_eq_true rfl) (by decide) ⟨hO_301, Or.inl ⟨mi_325, rfl⟩⟩ dX12_shelve_175
          · have z_b_332 := trivial
            refine lv_if_eq (tgt := 79) X.1 X.2.1 dX12_shelve_46 (by decide) (fun c_333 => ?_) (fun c_333 => absurd c_333 (by decide))
            refine lv_iconst (v := 0) X.1 X.2.1 dX12_shelve_79 (by decide) ?_
            have mi_334 : MIe S_5 x (-1) := MIe_sI hp_0 hO.1 ha_x eS_5 (by decide +kernel)
            rw [hQQ]
            exact ret_z X hw hr hlocks (Nat.le_of_ble_eq_true rfl) (Nat.le_of_ble_eq_true rfl) (by decide) ⟨hO_6, Or.inr ⟨mi_334, rfl⟩⟩ dX12_shelve_80
      · have z_b_335 := trivial
        refine lv_if_ne (tgt := 35) X.1 X.2.1 dX12_shelve_30 (by decide) (fun c_336 => absurd c_336 (by decide)) (fun c_336 => ?_)
        refine lv_iconst (v := 0) X.1 X.2.1 dX12_shelve_33 (by decide) ?_
        have mi_337 : MIe S_5 x (-1) := MIe_sI hp_0 hO.1 ha_x eS_5 (by decide +kernel)
        rw [hQQ]
        exact ret_z X hw hr hlocks (Nat.le_of_ble_eq_true rfl) (Nat.le_of_ble_eq_true rfl) (by decide) ⟨hO_6, Or.inr ⟨mi_337, rfl⟩⟩ dX12_shelve_34
  · have z_b_338 := trivial
    refine lv_if_eq (tgt := 33) X.1 X.2.1 dX12_shelve_12 (by decide) (fun c_339 => ?_) (fun c_339 => absurd c_339 (by decide))
    refine lv_iconst (v := 0) X.1 X.2.1 dX12_shelve_33 (by decide) ?_
    have mi_340 : MIe S_5 x (-1) := MIe_sI hp_0 hO.1 ha_x eS_5 (by decide +kernel)
    rw [hQQ]
    exact ret_z X hw hr hlocks (Nat.le_of_ble_eq_true rfl) (Nat.le_of_ble_eq_true rfl) (by decide) ⟨hO_6, Or.inr ⟨mi_340, rfl⟩⟩ dX12_shelve_34
set_option maxHeartbeats 4000000 in
set_option maxRecDepth 100000 in
theorem k_X12_take (l : Launch) (G : va_G) (cy : Nat → ClassId) (κ : Nat → Nat) (S : PS) (sz : Nat) (x : Nat) (a1 : Int32) (a1_z : Int) (a2 : Int32) (a2_z : Int) (hG : GX S) (ha_x : At S x 12) (hz_a1 : a1.toInt = a1_z) (hz_a2 : a2.toInt = a2_z) (hp_0 : MI S x) : Ci l yX12_take wsX12_take ({ frames := 2, cells := 0, slots := 0, locals := 96 }) G cy κ S sz [.ref x, .int (a1), .int (a2)] (fun (r : Int32) (S9 : PS) => Ok MSH S S9 ∧ (MI S9 x)) := by
  refine ent_m (cc := cX12_take) (maxL := 5) (ret := (some .int)) (by decide) rfl (Nat.le_of_ble_eq_true rfl) ?_
  intro p e s m below meth c ls X hr hlocks hin hw hl hsz
  subst hsz
  have X : Cx p c cX12_take 5 s [.ref x, .int (a1), .int (a2)].toArray wsX12_take RX12 m G cy κ (AS S s.heap.size) := X
  have hl : lv_has ls 5 [(0, .ref x), (1, .int (a1)), (2, .int (a2))] := hl
  have rg_a1 : (-2147483648) ≤ a1_z ∧ a1_z ≤ 2147483647 := by rw [← hz_a1]; exact ⟨z_lo _, z_hi _⟩
  have rg_a2 : (-2147483648) ≤ a2_z ∧ a2_z ≤ 2147483647 := by rw [← hz_a2]; exact ⟨z_lo _, z_hi _⟩
  have hO : Ok MSH S S := Ok.rf hG
  generalize hQQ : MQ below _ _ _ _ _ _ = QQ
  replace hQQ := hQQ.symm
  obtain ⟨v_1, ev_1⟩ : ∃ v, pI S 1201 x = v := ⟨_, rfl⟩
  have rg_2 := gI_12_1201 hO.1 ha_x; rw [ev_1] at rg_2
  have pz_3 : (pI S 1201 x).toInt = v_1.toInt := (congrArg Int32.toInt ev_1).trans rfl
  refine lv_aload_n X.1 X.2.1 dX12_take_0 rfl (lv_at hl 0 rfl) ?_
  refine lv_iconst (v := 0) X.1 X.2.1 dX12_take_1 (by decide) ?_
  refine r_putI (v := 0) X hw ha_x rfl 0 1200 tyX12 (by decide) rfl inn_X12_take_12 tyX12_ok nmX12 (by decide) (X.2.2.2.1 (.fieldLink RX12 161 "SilkMillModel" "thrown" "I") (by decide +kernel)) rfl (Or.inl rfl) rfl rfl (Nat.le_of_ble_eq_true rfl) (st_1200 _ _) dX12_take_2 (fun H locs hw => ?_)
  obtain ⟨S_4, eS_4⟩ : ∃ T, T = sI S 1200 x (0) := ⟨_, rfl⟩
  rw [← eS_4] at hw
  have hO_5 : Ok MSH S S_4 := hO.sI eS_4 (by decide +kernel) (uI_12_1200 hO.1 ha_x)
  have h_6 : pI S_4 1200 x = 0 := tI_sIs eS_4
  refine lv_iload_n X.1 X.2.1 dX12_take_5 rfl (lv_at hl 1 rfl) ?_
  refine lv_iconst (v := 0) X.1 X.2.1 dX12_take_6 (by decide) ?_
  refine lv_bipush (v := 15) X.1 X.2.1 dX12_take_7 (by decide) ?_
  refine k_i (rm := { frames := 1, cells := 0, slots := 0, locals := 48 }) (av := [.int (a1), .int 0, .int 15]) X hw (va_runS (As := [.int (a1), .int 0, .int 15]) (rest := []) (cfix X) (k_X12_within l G cy κ S_4 _ (a1) (a1_z) (0) (0) (15) (15) hO_5.1 hz_a1 ti_0 ti_15) (cwS 3 X.2.2.2.1 gX12_take_X12_within rfl rfl rfl (by decide +kernel) ⟨Nat.le_of_ble_eq_true rfl, Nat.le_of_ble_eq_true rfl⟩) (pre_S X hw _) rfl rfl hl.1 rfl (lv_room (Nat.le_of_ble_eq_true rfl)) dX12_take_9 ⟨Nat.le_of_ble_eq_true rfl, Nat.le_of_ble_eq_true rfl⟩) 0 0 (Nat.le_of_ble_eq_true rfl) (Nat.le_of_ble_eq_true rfl) (fun rr_7 S_8 H locs hp hw hfr hnw => ?_)
  obtain ⟨e2, hp⟩ := hp
  subst e2
  rcases hp with ⟨f_9, er_10⟩ | ⟨f_9, er_10⟩ <;> subst er_10
  · have z_b_11 := trivial
    refine lv_if_eq (tgt := 24) X.1 X.2.1 dX12_take_12 (by decide) (fun c_12 => absurd c_12 (by decide)) (fun c_12 => ?_)
    refine lv_iload_n X.1 X.2.1 dX12_take_15 rfl (lv_at hl 2 rfl) ?_
    refine lv_iconst (v := 0) X.1 X.2.1 dX12_take_16 (by decide) ?_
    refine lv_iconst (v := 2) X.1 X.2.1 dX12_take_17 (by decide) ?_
    refine k_i (rm := { frames := 1, cells := 0, slots := 0, locals := 48 }) (av := [.int (a2), .int 0, .int 2]) X hw (va_runS (As := [.int (a2), .int 0, .int 2]) (rest := []) (cfix X) (k_X12_within l G cy κ S_4 _ (a2) (a2_z) (0) (0) (2) (2) hO_5.1 hz_a2 ti_0 ti_2) (cwS 3 X.2.2.2.1 gX12_take_X12_within rfl rfl rfl (by decide +kernel) ⟨Nat.le_of_ble_eq_true rfl, Nat.le_of_ble_eq_true rfl⟩) (pre_S X hw _) rfl rfl hl.1 rfl (lv_room (Nat.le_of_ble_eq_true rfl)) dX12_take_18 ⟨Nat.le_of_ble_eq_true rfl, Nat.le_of_ble_eq_true rfl⟩) 0 0 (Nat.le_of_ble_eq_true rfl) (Nat.le_of_ble_eq_true rfl) (fun rr_13 S_14 H locs hp hw hfr hnw => ?_)
    obtain ⟨e2, hp⟩ := hp
    subst e2
    rcases hp with ⟨f_15, er_16⟩ | ⟨f_15, er_16⟩ <;> subst er_16
    · have z_b_17 := trivial
      refine lv_if_ne (tgt := 26) X.1 X.2.1 dX12_take_21 (by decide) (fun c_18 => ?_) (fun c_18 => absurd c_18 (by decide))
      refine lv_aload_n X.1 X.2.1 dX12_take_26 rfl (lv_at hl 0 rfl) ?_
      have t_19 : At S_4 x 12 := tAt_sI eS_4 ha_x
      obtain ⟨q_20, h_21, h_22, h_23⟩ := gQ_12_1253 hO_5.1 t_19
      refine r_getR (g := 1253) X hw t_19 rfl 53 h_21 (by decide) rfl inn_X12_take_12 (by decide) (X.2.2.2.1 (.fieldLink RX12 125 "SilkMillModel" "isLaid" "[Z") (by decide +kernel)) rfl (gv_1253 _ _) dX12_take_27 ?_
      refine lv_iload_n X.1 X.2.1 dX12_take_30 rfl (lv_at hl 1 rfl) ?_
      refine r_zald X hw h_22 rfl (by rw [h_23]; exact z_ix hz_a1 (by omega) (by omega)) dX12_take_31 ?_
      refine lv_topi (fun v_24 ev_24 => ?_)
      have rg_25 := And.intro (z_lo v_24) (z_hi v_24)
      have ev_24 := ev_24.symm
      have zf_26 : zA S_4 x 1253 (a1_z).toNat = v_24.toInt := (zA_of h_21 hz_a1 (by omega) ev_24)
      have zc_27 : zA S_4 x 1253 = zA S x 1253 := zA_sI eS_4
      have zz_28 := congrFun zc_27 ((a1_z).toNat)
      refine lv_if_ne (tgt := 38) X.1 X.2.1 dX12_take_32 (by decide) (fun c_29 => ?_) (fun c_29 => ?_)
      · have z_b_30 := trivial
        have k_31 : v_24.toInt ≠ 0 := z_ne rfl ti_0 c_29
        refine lv_aload_n X.1 X.2.1 dX12_take_38 rfl (lv_at hl 0 rfl) ?_
        obtain ⟨q_32, h_33, h_34, h_35⟩ := gQ_12_1254 hO_5.1 t_19
        refine r_getR (g := 1254) X hw t_19 rfl 54 h_33 (by decide) rfl inn_X12_take_12 (by decide) (X.2.2.2.1 (.fieldLink RX12 128 "SilkMillModel" "laid" "[I") (by decide +kernel)) rfl (gv_1254 _ _) dX12_take_39 ?_
        refine lv_iload_n X.1 X.2.1 dX12_take_42 rfl (lv_at hl 1 rfl) ?_
        refine r_iald X hw h_34 rfl (by rw [h_35]; exact z_ix hz_a1 (by omega) (by omega)) dX12_take_43 ?_
        refine lv_topi (fun v_36 ev_36 => ?_)
        have rg_37 := And.intro (z_lo v_36) (z_hi v_36)
        have ev_36 := ev_36.symm
        have zf_38 : zA S_4 x 1254 (a1_z).toNat = v_36.toInt := (zA_of h_33 hz_a1 (by omega) ev_36)
        have zc_39 : zA S_4 x 1254 = zA S x 1254 := zA_sI eS_4
        have zz_40 := congrFun zc_39 ((a1_z).toNat)
        refine lv_iload_n X.1 X.2.1 dX12_take_44 rfl (lv_at hl 2 rfl) ?_
        refine lv_icmp_eq (tgt := 51) X.1 X.2.1 dX12_take_45 (by decide) (fun c_41 => ?_) (fun c_41 => ?_)
        · have z_b_42 := trivial
          have k_43 : v_36.toInt = a2_z := z_eq rfl hz_a2 c_41
          refine lv_iload_n X.1 X.2.1 dX12_take_51 rfl (lv_at hl 2 rfl) ?_
          refine lv_iconst (v := 2) X.1 X.2.1 dX12_take_52 (by decide) ?_
          refine lv_icmp_ne (tgt := 68) X.1 X.2.1 dX12_take_53 (by decide) (fun c_44 => ?_) (fun c_44 => ?_)
          · have z_b_45 := trivial
            have k_46 : a2_z ≠ 2 := z_ne hz_a2 ti_2 c_44
            refine lv_aload_n X.1 X.2.1 dX12_take_68 rfl (lv_at hl 0 rfl) ?_
            refine r_getR (g := 1253) X hw t_19 rfl 53 h_21 (by decide) rfl inn_X12_take_12 (by decide) (X.2.2.2.1 (.fieldLink RX12 125 "SilkMillModel" "isLaid" "[Z") (by decide +kernel)) rfl (gv_1253 _ _) dX12_take_69 ?_
            refine lv_iload_n X.1 X.2.1 dX12_take_72 rfl (lv_at hl 1 rfl) ?_
            refine lv_iconst (v := 0) X.1 X.2.1 dX12_take_73 (by decide) ?_
            refine r_zast X hw h_22 rfl (by rw [h_23]; exact z_ix hz_a1 (by omega) (by omega)) dX12_take_74 (fun H locs hw => ?_)
            obtain ⟨S_47, eS_47⟩ : ∃ T, T = sA S_4 q_20 (upd (pA S_4 q_20) (Int32.toNatClampNeg (a1)) (vp_nar .boolean (0))) := ⟨_, rfl⟩
            rw [← eS_47] at hw
            have hO_48 : Ok MSH S S_47 := hO_5.sA eS_47 h_22 (by decide +kernel) (uA_1275 hO_5.1 h_22)
            have t_49 : pR S_47 1253 x = some q_20 := tR_sA eS_47 h_21
            have t_51 : pR S_4 1253 x = some q_20 := by have h := t_49; rw [eS_47, pR_sA] at h; exact h
            have zs_50 : ∀ j, zA S_47 x 1253 j = if j = (a1_z).toNat then 0 else zA S_4 x 1253 j := by have h := zA_sAs eS_47 t_51 nar0; rw [z_nc hz_a1 (by omega)] at h; exact h
            have zs_52 : ∀ j, zA S_47 x 1253 j = if j = (a1_z).toNat then 0 else zA S x 1253 j := fun j => by rw [zs_50 j, zc_27]
            have zc_53 : zA S_4 x 1207 = zA S x 1207 := zA_sI eS_4
            have zc_54 : zA S_47 x 1207 = zA S x 1207 := (zA_sAn eS_47 (ex3 (gQ_12_1207 hO_5.1 t_19)) h_22 rfl).trans zc_53
            have zc_55 : zA S_47 x 1254 = zA S x 1254 := (zA_sAn eS_47 (ex3 (gQ_12_1254 hO_5.1 t_19)) h_22 rfl).trans zc_39
            have zc_56 : zA S_4 x 1255 = zA S x 1255 := zA_sI eS_4
            have zc_57 : zA S_47 x 1255 = zA S x 1255 := (zA_sAn eS_47 (ex3 (gQ_12_1255 hO_5.1 t_19)) h_22 rfl).trans zc_56
            have mi_58 : MI S_47 x := lay_MI (p := (a1_z).toNat) hG ha_x hO_48.fr hp_0 zc_54 (fun j hj => by rw [zs_52 j, if_neg hj]) (fun j _ => congrFun zc_55 j) (fun j _ => congrFun zc_57 j) (Or.inl (by rw [zs_52, if_pos rfl]))
            refine lv_iload_n X.1 X.2.1 dX12_take_75 rfl (lv_at hl 2 rfl) ?_
            refine lv_iconst (v := 1) X.1 X.2.1 dX12_take_76 (by decide) ?_
            refine lv_icmp_ne (tgt := 87) X.1 X.2.1 dX12_take_77 (by decide) (fun c_59 => ?_) (fun c_59 => ?_)
            · have z_b_60 := trivial
              have k_61 : a2_z ≠ 1 := z_ne hz_a2 ti_1 c_59
              refine lv_iload_n X.1 X.2.1 dX12_take_87 rfl (lv_at hl 2 rfl) ?_
              refine lv_if_ne (tgt := 126) X.1 X.2.1 dX12_take_88 (by decide) (fun c_62 => ?_) (fun c_62 => ?_)
              · exfalso
                have k_63 : a2_z ≠ 0 := z_ne hz_a2 ti_0 c_62
                omega
              have k_64 : a2_z = 0 := z_eq hz_a2 ti_0 c_62
              refine lv_aload_n X.1 X.2.1 dX12_take_91 rfl (lv_at hl 0 rfl) ?_
              have t_65 : At S_47 x 12 := tAt_sA eS_47 t_19
              obtain ⟨q_66, h_67, h_68, h_69⟩ := gQ_12_1207 hO_48.1 t_65
              refine r_getR (g := 1207) X hw t_65 rfl 7 h_67 (by decide) rfl inn_X12_take_12 (by decide) (X.2.2.2.1 (.fieldLink RX12 25 "SilkMillModel" "stand" "[I") (by decide +kernel)) rfl (gv_1207 _ _) dX12_take_92 ?_
              refine lv_aload_n X.1 X.2.1 dX12_take_95 rfl (lv_at hl 0 rfl) ?_
              obtain ⟨q_70, h_71, h_72, h_73⟩ := gQ_12_1255 hO_48.1 t_65
              refine r_getR (g := 1255) X hw t_65 rfl 55 h_71 (by decide) rfl inn_X12_take_12 (by decide) (X.2.2.2.1 (.fieldLink RX12 131 "SilkMillModel" "laidValue" "[I") (by decide +kernel)) rfl (gv_1255 _ _) dX12_take_96 ?_
              refine lv_iload_n X.1 X.2.1 dX12_take_99 rfl (lv_at hl 1 rfl) ?_
              refine r_iald X hw h_72 rfl (by rw [h_73]; exact z_ix hz_a1 (by omega) (by omega)) dX12_take_100 ?_
              refine lv_topi (fun v_74 ev_74 => ?_)
              have rg_75 := And.intro (z_lo v_74) (z_hi v_74)
              have ev_74 := ev_74.symm
              have zf_76 : zA S_47 x 1255 (a1_z).toNat = v_74.toInt := (zA_of h_71 hz_a1 (by omega) ev_74)
              have hlv : zA S x 1255 (a1_z).toNat = v_74.toInt := (congrFun zc_57 _).symm.trans zf_76
              obtain ⟨tf1, tf2, tf3, tf4, tf5⟩ := take_free (p := (a1_z).toNat) hp_0 (by omega) (by omega) (by omega) hlv
              have zc_77 : zA S_4 x 1218 = zA S x 1218 := zA_sI eS_4
              have zc_78 : zA S_47 x 1218 = zA S x 1218 := (zA_sAn eS_47 (ex3 (gQ_12_1218 hO_5.1 t_19)) h_22 rfl).trans zc_77
              have zc_79 : zA S_4 x 1219 = zA S x 1219 := zA_sI eS_4
              have zc_80 : zA S_47 x 1219 = zA S x 1219 := (zA_sAn eS_47 (ex3 (gQ_12_1219 hO_5.1 t_19)) h_22 rfl).trans zc_79
              have hfre : Fre S_47 x v_74.toInt := take_fre zs_52 zc_55 zc_57 zc_78 zc_80 tf4 tf5
              have tf6 : zA S_47 x 1207 (v_74.toInt).toNat = 5 := (congrFun zc_54 _).trans tf3
              have t_81 : pI S_4 1201 x = v_1 := tI_sI eS_4 rfl ev_1
              have t_82 : pI S_47 1201 x = v_1 := tI_sA eS_47 t_81
              have pz_83 : (pI S_47 1201 x).toInt = v_1.toInt := (congrArg Int32.toInt t_82).trans rfl
              have hal := ((MI_1 mi_58 (c := v_74.toInt) (by omega) (by omega)).2 (by omega)).2 (by omega) (by omega)
              refine lv_iconst (v := 0) X.1 X.2.1 dX12_take_101 (by decide) ?_
              refine r_iast X hw h_68 rfl (by rw [h_69]; exact z_ix rfl (by omega) (by omega)) dX12_take_102 (fun H locs hw => ?_)
              obtain ⟨S_84, eS_84⟩ : ∃ T, T = sA S_47 q_66 (upd (pA S_47 q_66) (Int32.toNatClampNeg (v_74)) (0)) := ⟨_, rfl⟩
              rw [← eS_84] at hw
              have hO_85 : Ok MSH S S_84 := hO_48.sA eS_84 h_68 (by decide +kernel) (uA_354 hO_48.1 h_68)
              have h_86 : pA S_84 q_66 (Int32.toNatClampNeg (v_74)) = 0 := tA_sAs eS_84
              have t_87 : pR S_84 1207 x = some q_66 := tR_sA eS_84 h_67
              have t_89 : pR S_47 1207 x = some q_66 := by have h := t_87; rw [eS_84, pR_sA] at h; exact h
              have zs_88 : ∀ j, zA S_84 x 1207 j = if j = (v_74.toInt).toNat then 0 else zA S_47 x 1207 j := by have h := zA_sAs eS_84 t_89 ti_0; rw [z_nc rfl (by omega)] at h; exact h
              have mi_90 : MIe S_84 x (-1) := stand_MI (c := v_74.toInt) hO_48.1 t_65 (show Fr [10354] S_47 S_84 by rw [eS_84]; exact Fr_sA h_68 List.mem_cons_self) mi_58 (by omega) (by omega) hfre zs_88 (Or.inr (Or.inr hal))
              refine lv_aload_n X.1 X.2.1 dX12_take_103 rfl (lv_at hl 0 rfl) ?_
              have t_91 : At S_84 x 12 := tAt_sA eS_84 t_65
              have t_92 : pR S_84 1255 x = some q_70 := tR_sA eS_84 h_71
              refine r_getR (g := 1255) X hw t_91 rfl 55 t_92 (by decide) rfl inn_X12_take_12 (by decide) (X.2.2.2.1 (.fieldLink RX12 131 "SilkMillModel" "laidValue" "[I") (by decide +kernel)) rfl (gv_1255 _ _) dX12_take_104 ?_
              refine lv_iload_n X.1 X.2.1 dX12_take_107 rfl (lv_at hl 1 rfl) ?_
              have t_93 : At S_84 q_70 1314 := tAt_sA eS_84 h_72
              have t_94 : pN S_84 q_70 = 16 := tN_sA eS_84 h_73
              clear h_73
              refine r_iald X hw t_93 rfl (by rw [t_94]; exact z_ix hz_a1 (by omega) (by omega)) dX12_take_108 ?_
              have t_95 : pA S_84 q_70 (Int32.toNatClampNeg (a1)) = v_74 := tA_sA eS_84 (At_ne h_72 h_68 (by decide)) ev_74
              rw [t_95]
              refine lv_bipush (v := 60) X.1 X.2.1 dX12_take_109 (by decide) ?_
              refine lv_idiv X.1 X.2.1 dX12_take_111 (by decide) ?_
              refine lv_topi (fun v_96 ev_96 => ?_)
              have rg_97 := And.intro (z_lo v_96) (z_hi v_96)
              refine lv_bipush (v := 100) X.1 X.2.1 dX12_take_112 (by decide) ?_
              refine lv_imul X.1 X.2.1 dX12_take_114 ?_
              refine lv_topi (fun v_98 ev_98 => ?_)
              have rg_99 := And.intro (z_lo v_98) (z_hi v_98)
              refine lv_aload_n X.1 X.2.1 dX12_take_115 rfl (lv_at hl 0 rfl) ?_
              refine r_getR (g := 1255) X hw t_91 rfl 55 t_92 (by decide) rfl inn_X12_take_12 (by decide) (X.2.2.2.1 (.fieldLink RX12 131 "SilkMillModel" "laidValue" "[I") (by decide +kernel)) rfl (gv_1255 _ _) dX12_take_116 ?_
              refine lv_iload_n X.1 X.2.1 dX12_take_119 rfl (lv_at hl 1 rfl) ?_
              refine r_iald X hw t_93 rfl (by rw [t_94]; exact z_ix hz_a1 (by omega) (by omega)) dX12_take_120 ?_
              rw [t_95]
              refine lv_bipush (v := 60) X.1 X.2.1 dX12_take_121 (by decide) ?_
              refine lv_irem X.1 X.2.1 dX12_take_123 (by decide) ?_
              refine lv_topi (fun v_100 ev_100 => ?_)
              have rg_101 := And.intro (z_lo v_100) (z_hi v_100)
              refine lv_iadd X.1 X.2.1 dX12_take_124 ?_
              refine lv_topi (fun v_102 ev_102 => ?_)
              have rg_103 := And.intro (z_lo v_102) (z_hi v_102)
              rw [hQQ]
              exact ret_i X hw hr hlocks (Nat.le_of_ble_eq_true rfl) (Nat.le_of_ble_eq_true rfl) ⟨hO_85, mi_90⟩ dX12_take_125
            · have z_b_104 := trivial
              have k_105 : a2_z = 1 := z_eq hz_a2 ti_1 c_59
              refine lv_aload_n X.1 X.2.1 dX12_take_80 rfl (lv_at hl 0 rfl) ?_
              have t_106 : At S_47 x 12 := tAt_sA eS_47 t_19
              obtain ⟨q_107, h_108, h_109, h_110⟩ := gQ_12_1255 hO_48.1 t_106
              refine r_getR (g := 1255) X hw t_106 rfl 55 h_108 (by decide) rfl inn_X12_take_12 (by decide) (X.2.2.2.1 (.fieldLink RX12 131 "SilkMillModel" "laidValue" "[I") (by decide +kernel)) rfl (gv_1255 _ _) dX12_take_81 ?_
              refine lv_iload_n X.1 X.2.1 dX12_take_84 rfl (lv_at hl 1 rfl) ?_
              refine r_iald X hw h_109 rfl (by rw [h_110]; exact z_ix hz_a1 (by omega) (by omega)) dX12_take_85 ?_
              refine lv_topi (fun v_111 ev_111 => ?_)
              have rg_112 := And.intro (z_lo v_111) (z_hi v_111)
              have ev_111 := ev_111.symm
              rw [hQQ]
              exact ret_i X hw hr hlocks (Nat.le_of_ble_eq_true rfl) (Nat.le_of_ble_eq_true rfl) ⟨hO_48, mi_58⟩ dX12_take_86
          · have z_b_113 := trivial
            have k_114 : a2_z = 2 := z_eq hz_a2 ti_2 c_44
            refine lv_aload_n X.1 X.2.1 dX12_take_56 rfl (lv_at hl 0 rfl) ?_
            obtain ⟨q_115, h_116, h_117, h_118⟩ := gQ_12_1256 hO_5.1 t_19
            refine r_getR (g := 1256) X hw t_19 rfl 56 h_116 (by decide) rfl inn_X12_take_12 (by decide) (X.2.2.2.1 (.fieldLink RX12 134 "SilkMillModel" "wordMany" "[I") (by decide +kernel)) rfl (gv_1256 _ _) dX12_take_57 ?_
            refine lv_iload_n X.1 X.2.1 dX12_take_60 rfl (lv_at hl 1 rfl) ?_
            refine r_iald X hw h_117 rfl (by rw [h_118]; exact z_ix hz_a1 (by omega) (by omega)) dX12_take_61 ?_
            refine lv_topi (fun v_119 ev_119 => ?_)
            have z_120 := gE_1334 hO_5.1 h_117 (Int32.toNatClampNeg (a1)); rw [← ev_119] at z_120
            have ev_119 := ev_119.symm
            refine lv_if_ne (tgt := 68) X.1 X.2.1 dX12_take_62 (by decide) (fun c_121 => ?_) (fun c_121 => ?_)
            · have z_b_122 := trivial
              have k_123 : v_119.toInt ≠ 0 := z_ne rfl ti_0 c_121
              refine lv_aload_n X.1 X.2.1 dX12_take_68 rfl (lv_at hl 0 rfl) ?_
              refine r_getR (g := 1253) X hw t_19 rfl 53 h_21 (by decide) rfl inn_X12_take_12 (by decide) (X.2.2.2.1 (.fieldLink RX12 125 "SilkMillModel" "isLaid" "[Z") (by decide +kernel)) rfl (gv_1253 _ _) dX12_take_69 ?_
              refine lv_iload_n X.1 X.2.1 dX12_take_72 rfl (lv_at hl 1 rfl) ?_
              refine lv_iconst (v := 0) X.1 X.2.1 dX12_take_73 (by decide) ?_
              refine r_zast X hw h_22 rfl (by rw [h_23]; exact z_ix hz_a1 (by omega) (by omega)) dX12_take_74 (fun H locs hw => ?_)
              obtain ⟨S_124, eS_124⟩ : ∃ T, T = sA S_4 q_20 (upd (pA S_4 q_20) (Int32.toNatClampNeg (a1)) (vp_nar .boolean (0))) := ⟨_, rfl⟩
              rw [← eS_124] at hw
              have hO_125 : Ok MSH S S_124 := hO_5.sA eS_124 h_22 (by decide +kernel) (uA_1275 hO_5.1 h_22)
              have t_126 : pR S_124 1253 x = some q_20 := tR_sA eS_124 h_21
              have t_128 : pR S_4 1253 x = some q_20 := by have h := t_126; rw [eS_124, pR_sA] at h; exact h
              have zs_127 : ∀ j, zA S_124 x 1253 j = if j = (a1_z).toNat then 0 else zA S_4 x 1253 j := by have h := zA_sAs eS_124 t_128 nar0; rw [z_nc hz_a1 (by omega)] at h; exact h
              have zs_129 : ∀ j, zA S_124 x 1253 j = if j = (a1_z).toNat then 0 else zA S x 1253 j := fun j => by rw [zs_127 j, zc_27]
              have zc_130 : zA S_4 x 1207 = zA S x 1207 := zA_sI eS_4
              have zc_131 : zA S_124 x 1207 = zA S x 1207 := (zA_sAn eS_124 (ex3 (gQ_12_1207 hO_5.1 t_19)) h_22 rfl).trans zc_130
              have zc_132 : zA S_124 x 1254 = zA S x 1254 := (zA_sAn eS_124 (ex3 (gQ_12_1254 hO_5.1 t_19)) h_22 rfl).trans zc_39
              have zc_133 : zA S_4 x 1255 = zA S x 1255 := zA_sI eS_4
              have zc_134 : zA S_124 x 1255 = zA S x 1255 := (zA_sAn eS_124 (ex3 (gQ_12_1255 hO_5.1 t_19)) h_22 rfl).trans zc_133
              have mi_135 : MI S_124 x := lay_MI (p := (a1_z).toNat) hG ha_x hO_125.fr hp_0 zc_131 (fun j hj => by rw [zs_129 j, if_neg hj]) (fun j _ => congrFun zc_132 j) (fun j _ => congrFun zc_134 j) (Or.inl (by rw [zs_129, if_pos rfl]))
              refine lv_iload_n X.1 X.2.1 dX12_take_75 rfl (lv_at hl 2 rfl) ?_
              refine lv_iconst (v := 1) X.1 X.2.1 dX12_take_76 (by decide) ?_
              refine lv_icmp_ne (tgt := 87) X.1 X.2.1 dX12_take_77 (by decide) (fun c_136 => ?_) (fun c_136 => ?_)
              rotate_left
              · exfalso
                have k_137 : a2_z = 1 := z_eq hz_a2 ti_1 c_136
                omega
              have k_138 : a2_z ≠ 1 := z_ne hz_a2 ti_1 c_136
              refine lv_iload_n X.1 X.2.1 dX12_take_87 rfl (lv_at hl 2 rfl) ?_
              refine lv_if_ne (tgt := 126) X.1 X.2.1 dX12_take_88 (by decide) (fun c_139 => ?_) (fun c_139 => ?_)
              rotate_left
              · exfalso
                have k_140 : a2_z = 0 := z_eq hz_a2 ti_0 c_139
                omega
              have k_141 : a2_z ≠ 0 := z_ne hz_a2 ti_0 c_139
              refine lv_iconst (v := 0) X.1 X.2.1 dX12_take_126 (by decide) ?_
              refine lv_istore_n (lv' := [(3, .int 0), (0, .ref x), (1, .int (a1)), (2, .int (a2))]) X.1 X.2.1 dX12_take_127 rfl hl (by decide) rfl (fun ls hl => ?_)
              refine lv_iconst (v := 0) X.1 X.2.1 dX12_take_128 (by decide) ?_
              refine lv_istore (lv' := [(4, .int 0), (3, .int 0), (0, .ref x), (1, .int (a1)), (2, .int (a2))]) X.1 X.2.1 dX12_take_129 hl (by decide) rfl (fun ls hl => ?_)
              have L_142 : ∀ (n : Nat) (H : Heap) (locs : List Loc) (ls : Array Slot) (i3_143 : Int32) (i3_143_z : Int) (i4_144 : Int32) (i4_144_z : Int), ((8 - i4_144_z).toNat = n) → (Wd G cy (AS S s.heap.size) s.heap S_124 H locs) → (i3_143.toInt = i3_143_z) → (i4_144.toInt = i4_144_z) → (0 ≤ i4_144_z ∧ i4_144_z ≤ 8) → (lv_has ls 5 [(3, .int (i3_143)), (4, .int (i4_144)), (0, .ref x), (1, .int (a1)), (2, .int (a2))]) → W p l e ({ frames := 2, cells := 0, slots := 0, locals := 96 }) s m [.ref x, .int (a1), .int (a2)].toArray below meth c H locs 0 0 QQ (F0 m 131 ls []) := by
                intro n
                induction n using Nat.strongRecOn with
                | ind n ih_L_142 =>
                intro H locs ls i3_143 i3_143_z i4_144 i4_144_z hn hw hz_i3_143 hz_i4_144 hr_i4_144 hl
                have rg_145 : (-2147483648) ≤ i3_143_z ∧ i3_143_z ≤ 2147483647 := by rw [← hz_i3_143]; exact ⟨z_lo _, z_hi _⟩
                have rg_146 : (-2147483648) ≤ i4_144_z ∧ i4_144_z ≤ 2147483647 := by rw [← hz_i4_144]; exact ⟨z_lo _, z_hi _⟩
                refine lv_iload X.1 X.2.1 dX12_take_131 (lv_at hl 1 rfl) ?_
                refine lv_aload_n X.1 X.2.1 dX12_take_133 rfl (lv_at hl 2 rfl) ?_
                have t_147 : At S_124 x 12 := tAt_sA eS_124 t_19
                have t_148 : pR S_124 1256 x = some q_115 := tR_sA eS_124 h_116
                refine r_getR (g := 1256) X hw t_147 rfl 56 t_148 (by decide) rfl inn_X12_take_12 (by decide) (X.2.2.2.1 (.fieldLink RX12 134 "SilkMillModel" "wordMany" "[I") (by decide +kernel)) rfl (gv_1256 _ _) dX12_take_134 ?_
                refine lv_iload_n X.1 X.2.1 dX12_take_137 rfl (lv_at hl 3 rfl) ?_
                have t_149 : At S_124 q_115 1334 := tAt_sA eS_124 h_117
                have t_150 : pN S_124 q_115 = 16 := tN_sA eS_124 h_118
                clear h_118
                refine r_iald X hw t_149 rfl (by rw [t_150]; exact z_ix hz_a1 (by omega) (by omega)) dX12_take_138 ?_
                have t_151 : pA S_124 q_115 (Int32.toNatClampNeg (a1)) = v_119 := tA_sA eS_124 (At_ne h_117 h_22 (by decide)) ev_119
                rw [t_151]
                refine lv_icmp_ge (tgt := 163) X.1 X.2.1 dX12_take_139 (by decide) (fun c_152 => ?_) (fun c_152 => ?_)
                · have z_b_153 := trivial
                  have k_154 : i4_144_z ≥ v_119.toInt := z_le rfl hz_i4_144 c_152
                  refine lv_iload_n X.1 X.2.1 dX12_take_163 rfl (lv_at hl 0 rfl) ?_
                  rw [hQQ]
                  exact ret_i X hw hr hlocks (Nat.le_of_ble_eq_true rfl) (Nat.le_of_ble_eq_true rfl) ⟨hO_125, mi_135⟩ dX12_take_164
                · have z_b_155 := trivial
                  have k_156 : i4_144_z < v_119.toInt := z_nle rfl hz_i4_144 c_152
                  refine lv_iload_n X.1 X.2.1 dX12_take_142 rfl (lv_at hl 0 rfl) ?_
                  refine lv_aload_n X.1 X.2.1 dX12_take_143 rfl (lv_at hl 2 rfl) ?_
                  obtain ⟨q_157, h_158, h_159, h_160⟩ := gQ_12_1257 hO_125.1 t_147
                  refine r_getR (g := 1257) X hw t_147 rfl 57 h_158 (by decide) rfl inn_X12_take_12 (by decide) (X.2.2.2.1 (.fieldLink RX12 137 "SilkMillModel" "wordOf" "[I") (by decide +kernel)) rfl (gv_1257 _ _) dX12_take_144 ?_
                  refine lv_bipush (v := 8) X.1 X.2.1 dX12_take_147 (by decide) ?_
                  refine lv_iload_n X.1 X.2.1 dX12_take_149 rfl (lv_at hl 3 rfl) ?_
                  refine lv_imul X.1 X.2.1 dX12_take_150 ?_
                  refine lv_topi (fun v_161 ev_161 => ?_)
                  have z_162 : v_161.toInt = 8 * a1_z := z_mul ev_161 ti_8 hz_a1 (by omega) (by omega)
                  refine lv_iload X.1 X.2.1 dX12_take_151 (lv_at hl 1 rfl) ?_
                  refine lv_iadd X.1 X.2.1 dX12_take_153 ?_
                  refine lv_topi (fun v_163 ev_163 => ?_)
                  have z_164 : v_163.toInt = (8 * a1_z) + i4_144_z := z_add ev_163 z_162 hz_i4_144 (by omega) (by omega)
                  refine r_iald X hw h_159 rfl (by rw [h_160]; exact z_ix z_164 (by omega) (by omega)) dX12_take_154 ?_
                  refine lv_topi (fun v_165 ev_165 => ?_)
                  have rg_166 := And.intro (z_lo v_165) (z_hi v_165)
                  have ev_165 := ev_165.symm
                  refine lv_iadd X.1 X.2.1 dX12_take_155 ?_
                  refine lv_topi (fun v_167 ev_167 => ?_)
                  have rg_168 := And.intro (z_lo v_167) (z_hi v_167)
                  refine lv_istore_n (lv' := [(3, .int (v_167)), (4, .int (i4_144)), (0, .ref x), (1, .int (a1)), (2, .int (a2))]) X.1 X.2.1 dX12_take_156 rfl hl (by decide) rfl (fun ls hl => ?_)
                  obtain ⟨x_169, ex_169⟩ : ∃ y : Int32, y = i4_144 + 1 := ⟨_, rfl⟩
                  have z_170 : x_169.toInt = i4_144_z + 1 := z_add ex_169 hz_i4_144 ti_1 (by omega) (by omega)
                  refine lv_iinc (v := x_169) (lv' := [(4, .int (x_169)), (3, .int (v_167)), (0, .ref x), (1, .int (a1)), (2, .int (a2))]) X.1 X.2.1 dX12_take_157 hl (k := 1) rfl (by rw [ex_169]; rfl) (by decide) rfl (fun ls hl => ?_)
                  refine lv_goto (tgt := 131) X.1 X.2.1 dX12_take_160 (by decide) ?_
                  exact ih_L_142 _ (by omega) _ _ _ (v_167) (v_167.toInt) (x_169) (x_169.toInt) rfl hw rfl rfl (by omega) (lv_sub hl [1, 0, 2, 3, 4] rfl)
              exact L_142 _ _ _ _ (0) (0) (0) (0) rfl hw ti_0 ti_0 (by omega) (lv_sub hl [1, 0, 2, 3, 4] rfl)
            · have z_b_171 := trivial
              have k_172 : v_119.toInt = 0 := z_eq rfl ti_0 c_121
              refine lv_bipush (v := (-4)) X.1 X.2.1 dX12_take_65 (by decide) ?_
              have mi_173 : MIe S_4 x (-1) := MIe_sI hp_0 hO.1 ha_x eS_4 (by decide +kernel)
              rw [hQQ]
              exact ret_i X hw hr hlocks (Nat.le_of_ble_eq_true rfl) (Nat.le_of_ble_eq_true rfl) ⟨hO_5, mi_173⟩ dX12_take_67
        · have z_b_174 := trivial
          have k_175 : v_36.toInt ≠ a2_z := z_ne rfl hz_a2 c_41
          refine lv_bipush (v := (-3)) X.1 X.2.1 dX12_take_48 (by decide) ?_
          have mi_176 : MIe S_4 x (-1) := MIe_sI hp_0 hO.1 ha_x eS_4 (by decide +kernel)
          rw [hQQ]
          exact ret_i X hw hr hlocks (Nat.le_of_ble_eq_true rfl) (Nat.le_of_ble_eq_true rfl) ⟨hO_5, mi_176⟩ dX12_take_50
      · have z_b_177 := trivial
        have k_178 : v_24.toInt = 0 := z_eq rfl ti_0 c_29
        refine lv_bipush (v := (-2)) X.1 X.2.1 dX12_take_35 (by decide) ?_
        have mi_179 : MIe S_4 x (-1) := MIe_sI hp_0 hO.1 ha_x eS_4 (by decide +kernel)
        rw [hQQ]
        exact ret_i X hw hr hlocks (Nat.le_of_ble_eq_true rfl) (Nat.le_of_ble_eq_true rfl) ⟨hO_5, mi_179⟩ dX12_take_37
    · have z_b_180 := trivial
      refine lv_if_ne (tgt := 26) X.1 X.2.1 dX12_take_21 (by decide) (fun c_181 => absurd c_181 (by decide)) (fun c_181 => ?_)
      refine lv_iconst (v := (-1)) X.1 X.2.1 dX12_take_24 (by decide) ?_
      have mi_182 : MIe S_4 x (-1) := MIe_sI hp_0 hO.1 ha_x eS_4 (by decide +kernel)
      rw [hQQ]
      exact ret_i X hw hr hlocks (Nat.le_of_ble_eq_true rfl) (Nat.le_of_ble_eq_true rfl) ⟨hO_5, mi_182⟩ dX12_take_25
  · have z_b_183 := trivial
    refine lv_if_eq (tgt := 24) X.1 X.2.1 dX12_take_12 (by decide) (fun c_184 => ?_) (fun c_184 => absurd c_184 (by decide))
    refine lv_iconst (v := (-1)) X.1 X.2.1 dX12_take_24 (by decide) ?_
    have mi_185 : MIe S_4 x (-1) := MIe_sI hp_0 hO.1 ha_x eS_4 (by decide +kernel)
    rw [hQQ]
    exact ret_i X hw hr hlocks (Nat.le_of_ble_eq_true rfl) (Nat.le_of_ble_eq_true rfl) ⟨hO_5, mi_185⟩ dX12_take_25
