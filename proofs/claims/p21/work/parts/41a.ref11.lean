set_option maxRecDepth 20000 in
theorem ggX12_lot_X12_within : GoodIn wsX12_lot wsX12_within := goodIn_h _ [11] [0] (by decide +kernel) (by decide +kernel)
set_option maxRecDepth 20000 in
theorem gX12_lot_X12_within : GoodIn wsX12_lot (va_wsS RX12 168 yX12_within wsX12_within) := goodIn_app (goodIn_of _ (by decide +kernel)) ggX12_lot_X12_within
theorem dX12_lot_0 : decode cX12_lot 0 = .ok (.aload_n 0, 1) := by decide +kernel
theorem dX12_lot_1 : decode cX12_lot 1 = .ok (.iconst 0, 1) := by decide +kernel
theorem dX12_lot_2 : decode cX12_lot 2 = .ok (.putfield 161, 3) := by decide +kernel
theorem dX12_lot_5 : decode cX12_lot 5 = .ok (.aload_n 0, 1) := by decide +kernel
theorem dX12_lot_6 : decode cX12_lot 6 = .ok (.getfield 165, 3) := by decide +kernel
theorem dX12_lot_9 : decode cX12_lot 9 = .ok (.bipush 10, 2) := by decide +kernel
theorem dX12_lot_11 : decode cX12_lot 11 = .ok (.if_icmp .eq 49, 3) := by decide +kernel
theorem dX12_lot_14 : decode cX12_lot 14 = .ok (.iload_n 1, 1) := by decide +kernel
theorem dX12_lot_15 : decode cX12_lot 15 = .ok (.iconst 1, 1) := by decide +kernel
theorem dX12_lot_16 : decode cX12_lot 16 = .ok (.bipush 60, 2) := by decide +kernel
theorem dX12_lot_18 : decode cX12_lot 18 = .ok (.invokestatic 168, 3) := by decide +kernel
theorem dX12_lot_21 : decode cX12_lot 21 = .ok (.ifCond .eq 39, 3) := by decide +kernel
theorem dX12_lot_24 : decode cX12_lot 24 = .ok (.iload_n 3, 1) := by decide +kernel
theorem dX12_lot_25 : decode cX12_lot 25 = .ok (.bipush 20, 2) := by decide +kernel
theorem dX12_lot_27 : decode cX12_lot 27 = .ok (.bipush 60, 2) := by decide +kernel
theorem dX12_lot_29 : decode cX12_lot 29 = .ok (.invokestatic 168, 3) := by decide +kernel
theorem dX12_lot_32 : decode cX12_lot 32 = .ok (.ifCond .eq 28, 3) := by decide +kernel
theorem dX12_lot_35 : decode cX12_lot 35 = .ok (.iload 4, 2) := by decide +kernel
theorem dX12_lot_37 : decode cX12_lot 37 = .ok (.bipush 40, 2) := by decide +kernel
theorem dX12_lot_39 : decode cX12_lot 39 = .ok (.sipush 200, 3) := by decide +kernel
theorem dX12_lot_42 : decode cX12_lot 42 = .ok (.invokestatic 168, 3) := by decide +kernel
theorem dX12_lot_45 : decode cX12_lot 45 = .ok (.ifCond .eq 15, 3) := by decide +kernel
theorem dX12_lot_48 : decode cX12_lot 48 = .ok (.iload 5, 2) := by decide +kernel
theorem dX12_lot_50 : decode cX12_lot 50 = .ok (.iconst 0, 1) := by decide +kernel
theorem dX12_lot_51 : decode cX12_lot 51 = .ok (.sipush 200, 3) := by decide +kernel
theorem dX12_lot_54 : decode cX12_lot 54 = .ok (.invokestatic 168, 3) := by decide +kernel
theorem dX12_lot_57 : decode cX12_lot 57 = .ok (.ifCond .ne 5, 3) := by decide +kernel
theorem dX12_lot_60 : decode cX12_lot 60 = .ok (.iconst (-1), 1) := by decide +kernel
theorem dX12_lot_61 : decode cX12_lot 61 = .ok (.ireturn, 1) := by decide +kernel
theorem dX12_lot_62 : decode cX12_lot 62 = .ok (.aload_n 0, 1) := by decide +kernel
theorem dX12_lot_63 : decode cX12_lot 63 = .ok (.getfield 7, 3) := by decide +kernel
theorem dX12_lot_66 : decode cX12_lot 66 = .ok (.aload_n 0, 1) := by decide +kernel
theorem dX12_lot_67 : decode cX12_lot 67 = .ok (.getfield 165, 3) := by decide +kernel
theorem dX12_lot_70 : decode cX12_lot 70 = .ok (.iload_n 1, 1) := by decide +kernel
theorem dX12_lot_71 : decode cX12_lot 71 = .ok (.iastore, 1) := by decide +kernel
theorem dX12_lot_72 : decode cX12_lot 72 = .ok (.aload_n 0, 1) := by decide +kernel
theorem dX12_lot_73 : decode cX12_lot 73 = .ok (.getfield 13, 3) := by decide +kernel
theorem dX12_lot_76 : decode cX12_lot 76 = .ok (.aload_n 0, 1) := by decide +kernel
theorem dX12_lot_77 : decode cX12_lot 77 = .ok (.getfield 165, 3) := by decide +kernel
theorem dX12_lot_80 : decode cX12_lot 80 = .ok (.iload_n 2, 1) := by decide +kernel
theorem dX12_lot_81 : decode cX12_lot 81 = .ok (.iastore, 1) := by decide +kernel
theorem dX12_lot_82 : decode cX12_lot 82 = .ok (.aload_n 0, 1) := by decide +kernel
theorem dX12_lot_83 : decode cX12_lot 83 = .ok (.getfield 16, 3) := by decide +kernel
theorem dX12_lot_86 : decode cX12_lot 86 = .ok (.aload_n 0, 1) := by decide +kernel
theorem dX12_lot_87 : decode cX12_lot 87 = .ok (.getfield 165, 3) := by decide +kernel
theorem dX12_lot_90 : decode cX12_lot 90 = .ok (.iload_n 3, 1) := by decide +kernel
theorem dX12_lot_91 : decode cX12_lot 91 = .ok (.iastore, 1) := by decide +kernel
theorem dX12_lot_92 : decode cX12_lot 92 = .ok (.aload_n 0, 1) := by decide +kernel
theorem dX12_lot_93 : decode cX12_lot 93 = .ok (.getfield 19, 3) := by decide +kernel
theorem dX12_lot_96 : decode cX12_lot 96 = .ok (.aload_n 0, 1) := by decide +kernel
theorem dX12_lot_97 : decode cX12_lot 97 = .ok (.getfield 165, 3) := by decide +kernel
theorem dX12_lot_100 : decode cX12_lot 100 = .ok (.iload 4, 2) := by decide +kernel
theorem dX12_lot_102 : decode cX12_lot 102 = .ok (.iastore, 1) := by decide +kernel
theorem dX12_lot_103 : decode cX12_lot 103 = .ok (.aload_n 0, 1) := by decide +kernel
theorem dX12_lot_104 : decode cX12_lot 104 = .ok (.getfield 22, 3) := by decide +kernel
theorem dX12_lot_107 : decode cX12_lot 107 = .ok (.aload_n 0, 1) := by decide +kernel
theorem dX12_lot_108 : decode cX12_lot 108 = .ok (.getfield 165, 3) := by decide +kernel
theorem dX12_lot_111 : decode cX12_lot 111 = .ok (.iload 5, 2) := by decide +kernel
theorem dX12_lot_113 : decode cX12_lot 113 = .ok (.iastore, 1) := by decide +kernel
theorem dX12_lot_114 : decode cX12_lot 114 = .ok (.aload_n 0, 1) := by decide +kernel
theorem dX12_lot_115 : decode cX12_lot 115 = .ok (.dup, 1) := by decide +kernel
theorem dX12_lot_116 : decode cX12_lot 116 = .ok (.getfield 165, 3) := by decide +kernel
theorem dX12_lot_119 : decode cX12_lot 119 = .ok (.iconst 1, 1) := by decide +kernel
theorem dX12_lot_120 : decode cX12_lot 120 = .ok (.iadd, 1) := by decide +kernel
theorem dX12_lot_121 : decode cX12_lot 121 = .ok (.putfield 165, 3) := by decide +kernel
theorem dX12_lot_124 : decode cX12_lot 124 = .ok (.aload_n 0, 1) := by decide +kernel
theorem dX12_lot_125 : decode cX12_lot 125 = .ok (.getfield 165, 3) := by decide +kernel
theorem dX12_lot_128 : decode cX12_lot 128 = .ok (.iconst 1, 1) := by decide +kernel
theorem dX12_lot_129 : decode cX12_lot 129 = .ok (.isub, 1) := by decide +kernel
theorem dX12_lot_130 : decode cX12_lot 130 = .ok (.ireturn, 1) := by decide +kernel
set_option maxRecDepth 20000 in
theorem ggX12_fill_X12_isPot : GoodIn wsX12_fill wsX12_isPot := goodIn_h _ [8, 0, 0, 0, 0, 0, 11, 0, 0, 0, 0, 0, 0, 0, 0, 0, 0, 0, 0, 0, 0, 0, 0, 0, 0, 0, 0, 0, 0, 0, 0, 0, 0, 0, 0, 0, 0, 0, 0, 0, 0, 0, 0, 0, 0, 0, 0, 0, 0, 0, 0, 0, 0, 0, 0, 0, 0, 0, 0, 0, 0, 0, 0, 0, 0, 0, 0, 0, 0, 0, 0, 0] [1, 2, 3, 4, 0, 5, 6, 7, 8, 9, 10, 11, 12, 13, 14, 15, 16, 17, 18, 19, 20, 21, 22, 23, 24, 25, 26, 27, 28, 29, 30, 31, 32, 33, 34, 35, 36, 37, 38, 39, 40, 41, 42, 43, 44, 45, 46, 47, 48, 49, 50, 51, 52, 53, 54, 55, 56, 57, 58, 59, 60, 61, 62, 63, 64, 65, 66, 67, 68, 69, 70, 71] (by decide +kernel) (by decide +kernel)
set_option maxRecDepth 20000 in
theorem gX12_fill_X12_isPot : GoodIn wsX12_fill (wsV RX12 200 RX12 yX12_isPot wsX12_isPot) := goodIn_app (goodIn_of _ (by decide +kernel)) ggX12_fill_X12_isPot
set_option maxRecDepth 20000 in
theorem ggX12_fill_X12_within : GoodIn wsX12_fill wsX12_within := goodIn_h _ [13] [0] (by decide +kernel) (by decide +kernel)
set_option maxRecDepth 20000 in
theorem gX12_fill_X12_within : GoodIn wsX12_fill (va_wsS RX12 168 yX12_within wsX12_within) := goodIn_app (goodIn_of _ (by decide +kernel)) ggX12_fill_X12_within
set_option maxRecDepth 20000 in
theorem ggX12_fill_X12_many : GoodIn wsX12_fill wsX12_many := goodIn_h _ [17, 0, 6, 0, 0, 0, 0, 0, 0, 0, 0, 0, 0, 0, 0, 0, 0, 0, 0, 0, 0, 0, 0, 0, 0, 0, 0, 0, 0, 0, 0, 0, 0, 0, 0, 0, 0, 0, 0, 0, 0, 0, 0, 0, 0, 0, 0, 0, 0, 0, 0, 0, 0, 0, 0, 0, 0, 0, 0, 0, 0, 0, 0, 0, 0, 0, 0, 0] [0, 1, 2, 3, 4, 5, 6, 7, 8, 9, 10, 11, 12, 13, 14, 15, 16, 17, 18, 19, 20, 21, 22, 23, 24, 25, 26, 27, 28, 29, 30, 31, 32, 33, 34, 35, 36, 37, 38, 39, 40, 41, 42, 43, 44, 45, 46, 47, 48, 49, 50, 51, 52, 53, 54, 55, 56, 57, 58, 59, 60, 61, 62, 63, 64, 65, 66, 67] (by decide +kernel) (by decide +kernel)
set_option maxRecDepth 20000 in
theorem gX12_fill_X12_many : GoodIn wsX12_fill (wsV RX12 204 RX12 yX12_many wsX12_many) := goodIn_app (goodIn_of _ (by decide +kernel)) ggX12_fill_X12_many
set_option maxRecDepth 20000 in
theorem ggX12_fill_X12_comes : GoodIn wsX12_fill wsX12_comes := goodIn_h _ [4, 13, 3, 0, 0, 0, 0, 0, 0, 0, 0, 0, 0, 0, 0, 0, 0, 0, 0, 0, 0, 0, 0, 0, 0, 0, 0, 0, 0, 0, 0, 0, 0, 0, 0, 0, 0, 0, 0, 0, 0, 0, 0, 0, 0, 0, 0, 0, 0, 0, 0, 0, 0, 0, 0, 0, 0, 0, 0, 0, 0, 0, 0, 0, 0, 0, 0, 0, 0, 0, 0] [2, 1, 3, 0, 4, 5, 6, 7, 8, 9, 10, 11, 12, 13, 14, 15, 16, 17, 18, 19, 20, 21, 22, 23, 24, 25, 26, 27, 28, 29, 30, 31, 32, 33, 34, 35, 36, 37, 38, 39, 40, 41, 42, 43, 44, 45, 46, 47, 48, 49, 50, 51, 52, 53, 54, 55, 56, 57, 58, 59, 60, 61, 62, 63, 64, 65, 66, 67, 68, 69, 70] (by decide +kernel) (by decide +kernel)
set_option maxRecDepth 20000 in
theorem gX12_fill_X12_comes : GoodIn wsX12_fill (wsV RX12 207 RX12 yX12_comes wsX12_comes) := goodIn_app (goodIn_of _ (by decide +kernel)) ggX12_fill_X12_comes
theorem dX12_fill_0 : decode cX12_fill 0 = .ok (.aload_n 0, 1) := by decide +kernel
theorem dX12_fill_1 : decode cX12_fill 1 = .ok (.iconst 0, 1) := by decide +kernel
theorem dX12_fill_2 : decode cX12_fill 2 = .ok (.putfield 161, 3) := by decide +kernel
theorem dX12_fill_5 : decode cX12_fill 5 = .ok (.aload_n 0, 1) := by decide +kernel
theorem dX12_fill_6 : decode cX12_fill 6 = .ok (.iload_n 1, 1) := by decide +kernel
theorem dX12_fill_7 : decode cX12_fill 7 = .ok (.invokevirtual 200, 3) := by decide +kernel
theorem dX12_fill_10 : decode cX12_fill 10 = .ok (.ifCond .eq 45, 3) := by decide +kernel
theorem dX12_fill_13 : decode cX12_fill 13 = .ok (.iload_n 2, 1) := by decide +kernel
theorem dX12_fill_14 : decode cX12_fill 14 = .ok (.iconst 0, 1) := by decide +kernel
theorem dX12_fill_15 : decode cX12_fill 15 = .ok (.aload_n 0, 1) := by decide +kernel
theorem dX12_fill_16 : decode cX12_fill 16 = .ok (.getfield 165, 3) := by decide +kernel
theorem dX12_fill_19 : decode cX12_fill 19 = .ok (.iconst 1, 1) := by decide +kernel
theorem dX12_fill_20 : decode cX12_fill 20 = .ok (.isub, 1) := by decide +kernel
theorem dX12_fill_21 : decode cX12_fill 21 = .ok (.invokestatic 168, 3) := by decide +kernel
theorem dX12_fill_24 : decode cX12_fill 24 = .ok (.ifCond .eq 31, 3) := by decide +kernel
theorem dX12_fill_27 : decode cX12_fill 27 = .ok (.iload 4, 2) := by decide +kernel
theorem dX12_fill_29 : decode cX12_fill 29 = .ok (.iconst 1, 1) := by decide +kernel
theorem dX12_fill_30 : decode cX12_fill 30 = .ok (.bipush 60, 2) := by decide +kernel
theorem dX12_fill_32 : decode cX12_fill 32 = .ok (.invokestatic 168, 3) := by decide +kernel
theorem dX12_fill_35 : decode cX12_fill 35 = .ok (.ifCond .eq 20, 3) := by decide +kernel
theorem dX12_fill_38 : decode cX12_fill 38 = .ok (.iload_n 3, 1) := by decide +kernel
theorem dX12_fill_39 : decode cX12_fill 39 = .ok (.ifCond .lt 16, 3) := by decide +kernel
theorem dX12_fill_42 : decode cX12_fill 42 = .ok (.iload_n 3, 1) := by decide +kernel
theorem dX12_fill_43 : decode cX12_fill 43 = .ok (.aload_n 0, 1) := by decide +kernel
theorem dX12_fill_44 : decode cX12_fill 44 = .ok (.getfield 7, 3) := by decide +kernel
theorem dX12_fill_47 : decode cX12_fill 47 = .ok (.iload_n 2, 1) := by decide +kernel
theorem dX12_fill_48 : decode cX12_fill 48 = .ok (.iaload, 1) := by decide +kernel
theorem dX12_fill_49 : decode cX12_fill 49 = .ok (.iload 4, 2) := by decide +kernel
theorem dX12_fill_51 : decode cX12_fill 51 = .ok (.isub, 1) := by decide +kernel
theorem dX12_fill_52 : decode cX12_fill 52 = .ok (.if_icmp .le 5, 3) := by decide +kernel
theorem dX12_fill_55 : decode cX12_fill 55 = .ok (.iconst 0, 1) := by decide +kernel
theorem dX12_fill_56 : decode cX12_fill 56 = .ok (.ireturn, 1) := by decide +kernel
theorem dX12_fill_57 : decode cX12_fill 57 = .ok (.iload_n 3, 1) := by decide +kernel
theorem dX12_fill_58 : decode cX12_fill 58 = .ok (.istore 5, 2) := by decide +kernel
theorem dX12_fill_60 : decode cX12_fill 60 = .ok (.iload 5, 2) := by decide +kernel
theorem dX12_fill_62 : decode cX12_fill 62 = .ok (.iload_n 3, 1) := by decide +kernel
theorem dX12_fill_63 : decode cX12_fill 63 = .ok (.iload 4, 2) := by decide +kernel
theorem dX12_fill_65 : decode cX12_fill 65 = .ok (.iadd, 1) := by decide +kernel
theorem dX12_fill_66 : decode cX12_fill 66 = .ok (.if_icmp .ge 26, 3) := by decide +kernel
theorem dX12_fill_69 : decode cX12_fill 69 = .ok (.aload_n 0, 1) := by decide +kernel
theorem dX12_fill_70 : decode cX12_fill 70 = .ok (.getfield 25, 3) := by decide +kernel
theorem dX12_fill_73 : decode cX12_fill 73 = .ok (.bipush 60, 2) := by decide +kernel
theorem dX12_fill_75 : decode cX12_fill 75 = .ok (.iload_n 2, 1) := by decide +kernel
theorem dX12_fill_76 : decode cX12_fill 76 = .ok (.imul, 1) := by decide +kernel
theorem dX12_fill_77 : decode cX12_fill 77 = .ok (.iload 5, 2) := by decide +kernel
theorem dX12_fill_79 : decode cX12_fill 79 = .ok (.iadd, 1) := by decide +kernel
theorem dX12_fill_80 : decode cX12_fill 80 = .ok (.iaload, 1) := by decide +kernel
theorem dX12_fill_81 : decode cX12_fill 81 = .ok (.ifCond .eq 5, 3) := by decide +kernel
theorem dX12_fill_84 : decode cX12_fill 84 = .ok (.iconst 0, 1) := by decide +kernel
theorem dX12_fill_85 : decode cX12_fill 85 = .ok (.ireturn, 1) := by decide +kernel
theorem dX12_fill_86 : decode cX12_fill 86 = .ok (.iinc 5 1, 3) := by decide +kernel
theorem dX12_fill_89 : decode cX12_fill 89 = .ok (.goto (-29), 3) := by decide +kernel
theorem dX12_fill_92 : decode cX12_fill 92 = .ok (.iload_n 3, 1) := by decide +kernel
theorem dX12_fill_93 : decode cX12_fill 93 = .ok (.istore 5, 2) := by decide +kernel
theorem dX12_fill_95 : decode cX12_fill 95 = .ok (.iload 5, 2) := by decide +kernel
theorem dX12_fill_97 : decode cX12_fill 97 = .ok (.iload_n 3, 1) := by decide +kernel
theorem dX12_fill_98 : decode cX12_fill 98 = .ok (.iload 4, 2) := by decide +kernel
theorem dX12_fill_100 : decode cX12_fill 100 = .ok (.iadd, 1) := by decide +kernel
theorem dX12_fill_101 : decode cX12_fill 101 = .ok (.if_icmp .ge 28, 3) := by decide +kernel
theorem dX12_fill_104 : decode cX12_fill 104 = .ok (.aload_n 0, 1) := by decide +kernel
theorem dX12_fill_105 : decode cX12_fill 105 = .ok (.iload_n 1, 1) := by decide +kernel
theorem dX12_fill_106 : decode cX12_fill 106 = .ok (.iconst 0, 1) := by decide +kernel
theorem dX12_fill_107 : decode cX12_fill 107 = .ok (.bipush 60, 2) := by decide +kernel
theorem dX12_fill_109 : decode cX12_fill 109 = .ok (.iload_n 2, 1) := by decide +kernel
theorem dX12_fill_110 : decode cX12_fill 110 = .ok (.imul, 1) := by decide +kernel
theorem dX12_fill_111 : decode cX12_fill 111 = .ok (.iload 5, 2) := by decide +kernel
theorem dX12_fill_113 : decode cX12_fill 113 = .ok (.iadd, 1) := by decide +kernel
theorem dX12_fill_114 : decode cX12_fill 114 = .ok (.aload_n 0, 1) := by decide +kernel
theorem dX12_fill_115 : decode cX12_fill 115 = .ok (.iload_n 1, 1) := by decide +kernel
theorem dX12_fill_116 : decode cX12_fill 116 = .ok (.iconst 0, 1) := by decide +kernel
theorem dX12_fill_117 : decode cX12_fill 117 = .ok (.invokevirtual 204, 3) := by decide +kernel
theorem dX12_fill_120 : decode cX12_fill 120 = .ok (.invokevirtual 207, 3) := by decide +kernel
theorem dX12_fill_123 : decode cX12_fill 123 = .ok (.iinc 5 1, 3) := by decide +kernel
theorem dX12_fill_126 : decode cX12_fill 126 = .ok (.goto (-31), 3) := by decide +kernel
theorem dX12_fill_129 : decode cX12_fill 129 = .ok (.iconst 1, 1) := by decide +kernel
theorem dX12_fill_130 : decode cX12_fill 130 = .ok (.ireturn, 1) := by decide +kernel
set_option maxRecDepth 20000 in
theorem ggX12_shelve_X12_within : GoodIn wsX12_shelve wsX12_within := goodIn_h _ [11] [0] (by decide +kernel) (by decide +kernel)
set_option maxRecDepth 20000 in
theorem gX12_shelve_X12_within : GoodIn wsX12_shelve (va_wsS RX12 168 yX12_within wsX12_within) := goodIn_app (goodIn_of _ (by decide +kernel)) ggX12_shelve_X12_within
set_option maxRecDepth 20000 in
theorem ggX12_shelve_X12_isCocoon : GoodIn wsX12_shelve wsX12_isCocoon := goodIn_h _ [8, 0, 0, 0, 3, 0, 0, 0, 0, 0, 0, 0, 0, 0, 0, 0, 0, 0, 0, 0, 0, 0, 0, 0, 0, 0, 0, 0, 0, 0, 0, 0, 0, 0, 0, 0, 0, 0, 0, 0, 0, 0, 0, 0, 0, 0, 0, 0, 0, 0, 0, 0, 0, 0, 0, 0, 0, 0, 0, 0, 0, 0, 0, 0, 0, 0, 0, 0, 0, 0, 0, 0, 0] [4, 5, 6, 0, 1, 2, 3, 7, 8, 9, 10, 11, 12, 13, 14, 15, 16, 17, 18, 19, 20, 21, 22, 23, 24, 25, 26, 27, 28, 29, 30, 31, 32, 33, 34, 35, 36, 37, 38, 39, 40, 41, 42, 43, 44, 45, 46, 47, 48, 49, 50, 51, 52, 53, 54, 55, 56, 57, 58, 59, 60, 61, 62, 63, 64, 65, 66, 67, 68, 69, 70, 71, 72] (by decide +kernel) (by decide +kernel)
set_option maxRecDepth 20000 in
theorem gX12_shelve_X12_isCocoon : GoodIn wsX12_shelve (wsV RX12 186 RX12 yX12_isCocoon wsX12_isCocoon) := goodIn_app (goodIn_of _ (by decide +kernel)) ggX12_shelve_X12_isCocoon
theorem dX12_shelve_0 : decode cX12_shelve 0 = .ok (.aload_n 0, 1) := by decide +kernel
theorem dX12_shelve_1 : decode cX12_shelve 1 = .ok (.iconst 0, 1) := by decide +kernel
theorem dX12_shelve_2 : decode cX12_shelve 2 = .ok (.putfield 161, 3) := by decide +kernel
theorem dX12_shelve_5 : decode cX12_shelve 5 = .ok (.iload_n 1, 1) := by decide +kernel
theorem dX12_shelve_6 : decode cX12_shelve 6 = .ok (.iconst 0, 1) := by decide +kernel
theorem dX12_shelve_7 : decode cX12_shelve 7 = .ok (.bipush 15, 2) := by decide +kernel
theorem dX12_shelve_9 : decode cX12_shelve 9 = .ok (.invokestatic 168, 3) := by decide +kernel
theorem dX12_shelve_12 : decode cX12_shelve 12 = .ok (.ifCond .eq 21, 3) := by decide +kernel
theorem dX12_shelve_15 : decode cX12_shelve 15 = .ok (.aload_n 0, 1) := by decide +kernel
theorem dX12_shelve_16 : decode cX12_shelve 16 = .ok (.getfield 125, 3) := by decide +kernel
theorem dX12_shelve_19 : decode cX12_shelve 19 = .ok (.iload_n 1, 1) := by decide +kernel
theorem dX12_shelve_20 : decode cX12_shelve 20 = .ok (.baload, 1) := by decide +kernel
theorem dX12_shelve_21 : decode cX12_shelve 21 = .ok (.ifCond .ne 12, 3) := by decide +kernel
theorem dX12_shelve_24 : decode cX12_shelve 24 = .ok (.iload_n 2, 1) := by decide +kernel
theorem dX12_shelve_25 : decode cX12_shelve 25 = .ok (.iconst 0, 1) := by decide +kernel
theorem dX12_shelve_26 : decode cX12_shelve 26 = .ok (.iconst 2, 1) := by decide +kernel
theorem dX12_shelve_27 : decode cX12_shelve 27 = .ok (.invokestatic 168, 3) := by decide +kernel
theorem dX12_shelve_30 : decode cX12_shelve 30 = .ok (.ifCond .ne 5, 3) := by decide +kernel
theorem dX12_shelve_33 : decode cX12_shelve 33 = .ok (.iconst 0, 1) := by decide +kernel
theorem dX12_shelve_34 : decode cX12_shelve 34 = .ok (.ireturn, 1) := by decide +kernel
theorem dX12_shelve_35 : decode cX12_shelve 35 = .ok (.iload_n 2, 1) := by decide +kernel
theorem dX12_shelve_36 : decode cX12_shelve 36 = .ok (.ifCond .ne 28, 3) := by decide +kernel
theorem dX12_shelve_39 : decode cX12_shelve 39 = .ok (.aload_n 0, 1) := by decide +kernel
theorem dX12_shelve_40 : decode cX12_shelve 40 = .ok (.iload_n 3, 1) := by decide +kernel
theorem dX12_shelve_41 : decode cX12_shelve 41 = .ok (.iload 4, 2) := by decide +kernel
theorem dX12_shelve_43 : decode cX12_shelve 43 = .ok (.invokevirtual 186, 3) := by decide +kernel
theorem dX12_shelve_46 : decode cX12_shelve 46 = .ok (.ifCond .eq 33, 3) := by decide +kernel
theorem dX12_shelve_49 : decode cX12_shelve 49 = .ok (.aload_n 0, 1) := by decide +kernel
theorem dX12_shelve_50 : decode cX12_shelve 50 = .ok (.getfield 25, 3) := by decide +kernel
theorem dX12_shelve_53 : decode cX12_shelve 53 = .ok (.bipush 60, 2) := by decide +kernel
theorem dX12_shelve_55 : decode cX12_shelve 55 = .ok (.iload_n 3, 1) := by decide +kernel
theorem dX12_shelve_56 : decode cX12_shelve 56 = .ok (.imul, 1) := by decide +kernel
theorem dX12_shelve_57 : decode cX12_shelve 57 = .ok (.iload 4, 2) := by decide +kernel
theorem dX12_shelve_59 : decode cX12_shelve 59 = .ok (.iadd, 1) := by decide +kernel
theorem dX12_shelve_60 : decode cX12_shelve 60 = .ok (.iaload, 1) := by decide +kernel
theorem dX12_shelve_61 : decode cX12_shelve 61 = .ok (.ifCond .ne 18, 3) := by decide +kernel
theorem dX12_shelve_64 : decode cX12_shelve 64 = .ok (.iload_n 2, 1) := by decide +kernel
theorem dX12_shelve_65 : decode cX12_shelve 65 = .ok (.iconst 2, 1) := by decide +kernel
theorem dX12_shelve_66 : decode cX12_shelve 66 = .ok (.if_icmp .ne 15, 3) := by decide +kernel
theorem dX12_shelve_69 : decode cX12_shelve 69 = .ok (.iload_n 3, 1) := by decide +kernel
theorem dX12_shelve_70 : decode cX12_shelve 70 = .ok (.iconst 0, 1) := by decide +kernel
theorem dX12_shelve_71 : decode cX12_shelve 71 = .ok (.bipush 8, 2) := by decide +kernel
theorem dX12_shelve_73 : decode cX12_shelve 73 = .ok (.invokestatic 168, 3) := by decide +kernel
theorem dX12_shelve_76 : decode cX12_shelve 76 = .ok (.ifCond .ne 5, 3) := by decide +kernel
theorem dX12_shelve_79 : decode cX12_shelve 79 = .ok (.iconst 0, 1) := by decide +kernel
theorem dX12_shelve_80 : decode cX12_shelve 80 = .ok (.ireturn, 1) := by decide +kernel
theorem dX12_shelve_81 : decode cX12_shelve 81 = .ok (.aload_n 0, 1) := by decide +kernel
theorem dX12_shelve_82 : decode cX12_shelve 82 = .ok (.getfield 125, 3) := by decide +kernel
theorem dX12_shelve_85 : decode cX12_shelve 85 = .ok (.iload_n 1, 1) := by decide +kernel
theorem dX12_shelve_86 : decode cX12_shelve 86 = .ok (.iconst 1, 1) := by decide +kernel
theorem dX12_shelve_87 : decode cX12_shelve 87 = .ok (.bastore, 1) := by decide +kernel
theorem dX12_shelve_88 : decode cX12_shelve 88 = .ok (.aload_n 0, 1) := by decide +kernel
theorem dX12_shelve_89 : decode cX12_shelve 89 = .ok (.getfield 128, 3) := by decide +kernel
theorem dX12_shelve_92 : decode cX12_shelve 92 = .ok (.iload_n 1, 1) := by decide +kernel
theorem dX12_shelve_93 : decode cX12_shelve 93 = .ok (.iload_n 2, 1) := by decide +kernel
theorem dX12_shelve_94 : decode cX12_shelve 94 = .ok (.iastore, 1) := by decide +kernel
theorem dX12_shelve_95 : decode cX12_shelve 95 = .ok (.aload_n 0, 1) := by decide +kernel
theorem dX12_shelve_96 : decode cX12_shelve 96 = .ok (.getfield 131, 3) := by decide +kernel
theorem dX12_shelve_99 : decode cX12_shelve 99 = .ok (.iload_n 1, 1) := by decide +kernel
theorem dX12_shelve_100 : decode cX12_shelve 100 = .ok (.iload_n 2, 1) := by decide +kernel
theorem dX12_shelve_101 : decode cX12_shelve 101 = .ok (.ifCond .ne 13, 3) := by decide +kernel
theorem dX12_shelve_104 : decode cX12_shelve 104 = .ok (.bipush 60, 2) := by decide +kernel
theorem dX12_shelve_106 : decode cX12_shelve 106 = .ok (.iload_n 3, 1) := by decide +kernel
theorem dX12_shelve_107 : decode cX12_shelve 107 = .ok (.imul, 1) := by decide +kernel
theorem dX12_shelve_108 : decode cX12_shelve 108 = .ok (.iload 4, 2) := by decide +kernel
theorem dX12_shelve_110 : decode cX12_shelve 110 = .ok (.iadd, 1) := by decide +kernel
theorem dX12_shelve_111 : decode cX12_shelve 111 = .ok (.goto 4, 3) := by decide +kernel
theorem dX12_shelve_114 : decode cX12_shelve 114 = .ok (.iload_n 3, 1) := by decide +kernel
theorem dX12_shelve_115 : decode cX12_shelve 115 = .ok (.iastore, 1) := by decide +kernel
theorem dX12_shelve_116 : decode cX12_shelve 116 = .ok (.iload_n 2, 1) := by decide +kernel
theorem dX12_shelve_117 : decode cX12_shelve 117 = .ok (.ifCond .ne 16, 3) := by decide +kernel
theorem dX12_shelve_120 : decode cX12_shelve 120 = .ok (.aload_n 0, 1) := by decide +kernel
theorem dX12_shelve_121 : decode cX12_shelve 121 = .ok (.getfield 25, 3) := by decide +kernel
theorem dX12_shelve_124 : decode cX12_shelve 124 = .ok (.bipush 60, 2) := by decide +kernel
theorem dX12_shelve_126 : decode cX12_shelve 126 = .ok (.iload_n 3, 1) := by decide +kernel
theorem dX12_shelve_127 : decode cX12_shelve 127 = .ok (.imul, 1) := by decide +kernel
theorem dX12_shelve_128 : decode cX12_shelve 128 = .ok (.iload 4, 2) := by decide +kernel
theorem dX12_shelve_130 : decode cX12_shelve 130 = .ok (.iadd, 1) := by decide +kernel
theorem dX12_shelve_131 : decode cX12_shelve 131 = .ok (.iconst 5, 1) := by decide +kernel
theorem dX12_shelve_132 : decode cX12_shelve 132 = .ok (.iastore, 1) := by decide +kernel
theorem dX12_shelve_133 : decode cX12_shelve 133 = .ok (.iload_n 2, 1) := by decide +kernel
theorem dX12_shelve_134 : decode cX12_shelve 134 = .ok (.iconst 2, 1) := by decide +kernel
theorem dX12_shelve_135 : decode cX12_shelve 135 = .ok (.if_icmp .ne 39, 3) := by decide +kernel
theorem dX12_shelve_138 : decode cX12_shelve 138 = .ok (.aload_n 0, 1) := by decide +kernel
theorem dX12_shelve_139 : decode cX12_shelve 139 = .ok (.getfield 134, 3) := by decide +kernel
theorem dX12_shelve_142 : decode cX12_shelve 142 = .ok (.iload_n 1, 1) := by decide +kernel
theorem dX12_shelve_143 : decode cX12_shelve 143 = .ok (.iload_n 3, 1) := by decide +kernel
theorem dX12_shelve_144 : decode cX12_shelve 144 = .ok (.iastore, 1) := by decide +kernel
theorem dX12_shelve_145 : decode cX12_shelve 145 = .ok (.iconst 0, 1) := by decide +kernel
theorem dX12_shelve_146 : decode cX12_shelve 146 = .ok (.istore 5, 2) := by decide +kernel
theorem dX12_shelve_148 : decode cX12_shelve 148 = .ok (.iload 5, 2) := by decide +kernel
theorem dX12_shelve_150 : decode cX12_shelve 150 = .ok (.iload_n 3, 1) := by decide +kernel
theorem dX12_shelve_151 : decode cX12_shelve 151 = .ok (.if_icmp .ge 23, 3) := by decide +kernel
theorem dX12_shelve_154 : decode cX12_shelve 154 = .ok (.aload_n 0, 1) := by decide +kernel
theorem dX12_shelve_155 : decode cX12_shelve 155 = .ok (.getfield 137, 3) := by decide +kernel
theorem dX12_shelve_158 : decode cX12_shelve 158 = .ok (.bipush 8, 2) := by decide +kernel
theorem dX12_shelve_160 : decode cX12_shelve 160 = .ok (.iload_n 1, 1) := by decide +kernel
theorem dX12_shelve_161 : decode cX12_shelve 161 = .ok (.imul, 1) := by decide +kernel
theorem dX12_shelve_162 : decode cX12_shelve 162 = .ok (.iload 5, 2) := by decide +kernel
theorem dX12_shelve_164 : decode cX12_shelve 164 = .ok (.iadd, 1) := by decide +kernel
theorem dX12_shelve_165 : decode cX12_shelve 165 = .ok (.iload 4, 2) := by decide +kernel
theorem dX12_shelve_167 : decode cX12_shelve 167 = .ok (.iastore, 1) := by decide +kernel
theorem dX12_shelve_168 : decode cX12_shelve 168 = .ok (.iinc 5 1, 3) := by decide +kernel
theorem dX12_shelve_171 : decode cX12_shelve 171 = .ok (.goto (-23), 3) := by decide +kernel
theorem dX12_shelve_174 : decode cX12_shelve 174 = .ok (.iconst 1, 1) := by decide +kernel
theorem dX12_shelve_175 : decode cX12_shelve 175 = .ok (.ireturn, 1) := by decide +kernel
set_option maxRecDepth 20000 in
theorem ggX12_take_X12_within : GoodIn wsX12_take wsX12_within := goodIn_h _ [11] [0] (by decide +kernel) (by decide +kernel)
set_option maxRecDepth 20000 in
theorem gX12_take_X12_within : GoodIn wsX12_take (va_wsS RX12 168 yX12_within wsX12_within) := goodIn_app (goodIn_of _ (by decide +kernel)) ggX12_take_X12_within
theorem dX12_take_0 : decode cX12_take 0 = .ok (.aload_n 0, 1) := by decide +kernel
theorem dX12_take_1 : decode cX12_take 1 = .ok (.iconst 0, 1) := by decide +kernel
theorem dX12_take_2 : decode cX12_take 2 = .ok (.putfield 161, 3) := by decide +kernel
theorem dX12_take_5 : decode cX12_take 5 = .ok (.iload_n 1, 1) := by decide +kernel
theorem dX12_take_6 : decode cX12_take 6 = .ok (.iconst 0, 1) := by decide +kernel
theorem dX12_take_7 : decode cX12_take 7 = .ok (.bipush 15, 2) := by decide +kernel
theorem dX12_take_9 : decode cX12_take 9 = .ok (.invokestatic 168, 3) := by decide +kernel
theorem dX12_take_12 : decode cX12_take 12 = .ok (.ifCond .eq 12, 3) := by decide +kernel
theorem dX12_take_15 : decode cX12_take 15 = .ok (.iload_n 2, 1) := by decide +kernel
theorem dX12_take_16 : decode cX12_take 16 = .ok (.iconst 0, 1) := by decide +kernel
theorem dX12_take_17 : decode cX12_take 17 = .ok (.iconst 2, 1) := by decide +kernel
theorem dX12_take_18 : decode cX12_take 18 = .ok (.invokestatic 168, 3) := by decide +kernel
theorem dX12_take_21 : decode cX12_take 21 = .ok (.ifCond .ne 5, 3) := by decide +kernel
theorem dX12_take_24 : decode cX12_take 24 = .ok (.iconst (-1), 1) := by decide +kernel
theorem dX12_take_25 : decode cX12_take 25 = .ok (.ireturn, 1) := by decide +kernel
theorem dX12_take_26 : decode cX12_take 26 = .ok (.aload_n 0, 1) := by decide +kernel
theorem dX12_take_27 : decode cX12_take 27 = .ok (.getfield 125, 3) := by decide +kernel
theorem dX12_take_30 : decode cX12_take 30 = .ok (.iload_n 1, 1) := by decide +kernel
theorem dX12_take_31 : decode cX12_take 31 = .ok (.baload, 1) := by decide +kernel
theorem dX12_take_32 : decode cX12_take 32 = .ok (.ifCond .ne 6, 3) := by decide +kernel
theorem dX12_take_35 : decode cX12_take 35 = .ok (.bipush (-2), 2) := by decide +kernel
theorem dX12_take_37 : decode cX12_take 37 = .ok (.ireturn, 1) := by decide +kernel
theorem dX12_take_38 : decode cX12_take 38 = .ok (.aload_n 0, 1) := by decide +kernel
theorem dX12_take_39 : decode cX12_take 39 = .ok (.getfield 128, 3) := by decide +kernel
theorem dX12_take_42 : decode cX12_take 42 = .ok (.iload_n 1, 1) := by decide +kernel
theorem dX12_take_43 : decode cX12_take 43 = .ok (.iaload, 1) := by decide +kernel
theorem dX12_take_44 : decode cX12_take 44 = .ok (.iload_n 2, 1) := by decide +kernel
theorem dX12_take_45 : decode cX12_take 45 = .ok (.if_icmp .eq 6, 3) := by decide +kernel
theorem dX12_take_48 : decode cX12_take 48 = .ok (.bipush (-3), 2) := by decide +kernel
theorem dX12_take_50 : decode cX12_take 50 = .ok (.ireturn, 1) := by decide +kernel
theorem dX12_take_51 : decode cX12_take 51 = .ok (.iload_n 2, 1) := by decide +kernel
theorem dX12_take_52 : decode cX12_take 52 = .ok (.iconst 2, 1) := by decide +kernel
theorem dX12_take_53 : decode cX12_take 53 = .ok (.if_icmp .ne 15, 3) := by decide +kernel
theorem dX12_take_56 : decode cX12_take 56 = .ok (.aload_n 0, 1) := by decide +kernel
theorem dX12_take_57 : decode cX12_take 57 = .ok (.getfield 134, 3) := by decide +kernel
theorem dX12_take_60 : decode cX12_take 60 = .ok (.iload_n 1, 1) := by decide +kernel
theorem dX12_take_61 : decode cX12_take 61 = .ok (.iaload, 1) := by decide +kernel
theorem dX12_take_62 : decode cX12_take 62 = .ok (.ifCond .ne 6, 3) := by decide +kernel
theorem dX12_take_65 : decode cX12_take 65 = .ok (.bipush (-4), 2) := by decide +kernel
theorem dX12_take_67 : decode cX12_take 67 = .ok (.ireturn, 1) := by decide +kernel
theorem dX12_take_68 : decode cX12_take 68 = .ok (.aload_n 0, 1) := by decide +kernel
theorem dX12_take_69 : decode cX12_take 69 = .ok (.getfield 125, 3) := by decide +kernel
theorem dX12_take_72 : decode cX12_take 72 = .ok (.iload_n 1, 1) := by decide +kernel
theorem dX12_take_73 : decode cX12_take 73 = .ok (.iconst 0, 1) := by decide +kernel
theorem dX12_take_74 : decode cX12_take 74 = .ok (.bastore, 1) := by decide +kernel
theorem dX12_take_75 : decode cX12_take 75 = .ok (.iload_n 2, 1) := by decide +kernel
theorem dX12_take_76 : decode cX12_take 76 = .ok (.iconst 1, 1) := by decide +kernel
theorem dX12_take_77 : decode cX12_take 77 = .ok (.if_icmp .ne 10, 3) := by decide +kernel
theorem dX12_take_80 : decode cX12_take 80 = .ok (.aload_n 0, 1) := by decide +kernel
theorem dX12_take_81 : decode cX12_take 81 = .ok (.getfield 131, 3) := by decide +kernel
theorem dX12_take_84 : decode cX12_take 84 = .ok (.iload_n 1, 1) := by decide +kernel
theorem dX12_take_85 : decode cX12_take 85 = .ok (.iaload, 1) := by decide +kernel
theorem dX12_take_86 : decode cX12_take 86 = .ok (.ireturn, 1) := by decide +kernel
theorem dX12_take_87 : decode cX12_take 87 = .ok (.iload_n 2, 1) := by decide +kernel
theorem dX12_take_88 : decode cX12_take 88 = .ok (.ifCond .ne 38, 3) := by decide +kernel
theorem dX12_take_91 : decode cX12_take 91 = .ok (.aload_n 0, 1) := by decide +kernel
theorem dX12_take_92 : decode cX12_take 92 = .ok (.getfield 25, 3) := by decide +kernel
theorem dX12_take_95 : decode cX12_take 95 = .ok (.aload_n 0, 1) := by decide +kernel
theorem dX12_take_96 : decode cX12_take 96 = .ok (.getfield 131, 3) := by decide +kernel
theorem dX12_take_99 : decode cX12_take 99 = .ok (.iload_n 1, 1) := by decide +kernel
theorem dX12_take_100 : decode cX12_take 100 = .ok (.iaload, 1) := by decide +kernel
theorem dX12_take_101 : decode cX12_take 101 = .ok (.iconst 0, 1) := by decide +kernel
theorem dX12_take_102 : decode cX12_take 102 = .ok (.iastore, 1) := by decide +kernel
theorem dX12_take_103 : decode cX12_take 103 = .ok (.aload_n 0, 1) := by decide +kernel
theorem dX12_take_104 : decode cX12_take 104 = .ok (.getfield 131, 3) := by decide +kernel
theorem dX12_take_107 : decode cX12_take 107 = .ok (.iload_n 1, 1) := by decide +kernel
theorem dX12_take_108 : decode cX12_take 108 = .ok (.iaload, 1) := by decide +kernel
theorem dX12_take_109 : decode cX12_take 109 = .ok (.bipush 60, 2) := by decide +kernel
theorem dX12_take_111 : decode cX12_take 111 = .ok (.idiv, 1) := by decide +kernel
theorem dX12_take_112 : decode cX12_take 112 = .ok (.bipush 100, 2) := by decide +kernel
theorem dX12_take_114 : decode cX12_take 114 = .ok (.imul, 1) := by decide +kernel
theorem dX12_take_115 : decode cX12_take 115 = .ok (.aload_n 0, 1) := by decide +kernel
theorem dX12_take_116 : decode cX12_take 116 = .ok (.getfield 131, 3) := by decide +kernel
theorem dX12_take_119 : decode cX12_take 119 = .ok (.iload_n 1, 1) := by decide +kernel
theorem dX12_take_120 : decode cX12_take 120 = .ok (.iaload, 1) := by decide +kernel
theorem dX12_take_121 : decode cX12_take 121 = .ok (.bipush 60, 2) := by decide +kernel
theorem dX12_take_123 : decode cX12_take 123 = .ok (.irem, 1) := by decide +kernel
theorem dX12_take_124 : decode cX12_take 124 = .ok (.iadd, 1) := by decide +kernel
theorem dX12_take_125 : decode cX12_take 125 = .ok (.ireturn, 1) := by decide +kernel
theorem dX12_take_126 : decode cX12_take 126 = .ok (.iconst 0, 1) := by decide +kernel
theorem dX12_take_127 : decode cX12_take 127 = .ok (.istore_n 3, 1) := by decide +kernel
theorem dX12_take_128 : decode cX12_take 128 = .ok (.iconst 0, 1) := by decide +kernel
theorem dX12_take_129 : decode cX12_take 129 = .ok (.istore 4, 2) := by decide +kernel
theorem dX12_take_131 : decode cX12_take 131 = .ok (.iload 4, 2) := by decide +kernel
theorem dX12_take_133 : decode cX12_take 133 = .ok (.aload_n 0, 1) := by decide +kernel
theorem dX12_take_134 : decode cX12_take 134 = .ok (.getfield 134, 3) := by decide +kernel
theorem dX12_take_137 : decode cX12_take 137 = .ok (.iload_n 1, 1) := by decide +kernel
theorem dX12_take_138 : decode cX12_take 138 = .ok (.iaload, 1) := by decide +kernel
theorem dX12_take_139 : decode cX12_take 139 = .ok (.if_icmp .ge 24, 3) := by decide +kernel
theorem dX12_take_142 : decode cX12_take 142 = .ok (.iload_n 3, 1) := by decide +kernel
theorem dX12_take_143 : decode cX12_take 143 = .ok (.aload_n 0, 1) := by decide +kernel
theorem dX12_take_144 : decode cX12_take 144 = .ok (.getfield 137, 3) := by decide +kernel
theorem dX12_take_147 : decode cX12_take 147 = .ok (.bipush 8, 2) := by decide +kernel
theorem dX12_take_149 : decode cX12_take 149 = .ok (.iload_n 1, 1) := by decide +kernel
theorem dX12_take_150 : decode cX12_take 150 = .ok (.imul, 1) := by decide +kernel
theorem dX12_take_151 : decode cX12_take 151 = .ok (.iload 4, 2) := by decide +kernel
theorem dX12_take_153 : decode cX12_take 153 = .ok (.iadd, 1) := by decide +kernel
theorem dX12_take_154 : decode cX12_take 154 = .ok (.iaload, 1) := by decide +kernel
theorem dX12_take_155 : decode cX12_take 155 = .ok (.iadd, 1) := by decide +kernel
theorem dX12_take_156 : decode cX12_take 156 = .ok (.istore_n 3, 1) := by decide +kernel
theorem dX12_take_157 : decode cX12_take 157 = .ok (.iinc 4 1, 3) := by decide +kernel
theorem dX12_take_160 : decode cX12_take 160 = .ok (.goto (-29), 3) := by decide +kernel
theorem dX12_take_163 : decode cX12_take 163 = .ok (.iload_n 3, 1) := by decide +kernel
theorem dX12_take_164 : decode cX12_take 164 = .ok (.ireturn, 1) := by decide +kernel
theorem inn_X12_fill_12 : ∀ w ∈ u_ws RX12 TX12 66, w ∈ wsX12_fill := fun w h => List.mem_cons_of_mem _ (List.mem_append_right _ h)
theorem inn_X12_lot_12 : ∀ w ∈ u_ws RX12 TX12 66, w ∈ wsX12_lot := fun w h => List.mem_cons_of_mem _ (List.mem_append_right _ h)
theorem inn_X12_shelve_12 : ∀ w ∈ u_ws RX12 TX12 66, w ∈ wsX12_shelve := fun w h => List.mem_cons_of_mem _ (List.mem_append_right _ h)
theorem inn_X12_take_12 : ∀ w ∈ u_ws RX12 TX12 66, w ∈ wsX12_take := fun w h => List.mem_cons_of_mem _ (List.mem_append_right _ h)
