set_option maxRecDepth 20000 in
theorem ggX1_drawFrom_X11_next : GoodIn wsX1_drawFrom wsX11_next := goodIn_h _ [18, 0] [0, 1] (by decide +kernel) (by decide +kernel)
set_option maxRecDepth 20000 in
theorem gX1_drawFrom_X11_next_n32 : GoodIn wsX1_drawFrom (wsX11_next) := ggX1_drawFrom_X11_next
set_option maxRecDepth 20000 in
theorem ggX1_drawFrom_X1_notDrawnFrom : GoodIn wsX1_drawFrom wsX1_notDrawnFrom := goodIn_h _ [1, 3, 17, 0, 0, 0, 0, 0, 7, 0, 0, 0] [3, 4, 5, 6, 2, 7, 0, 1, 8, 9, 10, 11] (by decide +kernel) (by decide +kernel)
set_option maxRecDepth 20000 in
theorem gX1_drawFrom_X1_notDrawnFrom : GoodIn wsX1_drawFrom (wsV RX1 36 RX1 yX1_notDrawnFrom wsX1_notDrawnFrom) := goodIn_app (goodIn_of _ (by decide +kernel)) ggX1_drawFrom_X1_notDrawnFrom
set_option maxRecDepth 20000 in
theorem ggX1_drawFrom_X1_boundOf : GoodIn wsX1_drawFrom wsX1_boundOf := goodIn_h _ [23, 7, 0, 0, 0, 0] [1, 2, 3, 4, 0, 5] (by decide +kernel) (by decide +kernel)
set_option maxRecDepth 20000 in
theorem gX1_drawFrom_X1_boundOf : GoodIn wsX1_drawFrom (va_wsS RX1 54 yX1_boundOf wsX1_boundOf) := goodIn_app (goodIn_of _ (by decide +kernel)) ggX1_drawFrom_X1_boundOf
theorem dX1_drawFrom_0 : decode cX1_drawFrom 0 = .ok (.aload_n 0, 1) := by decide +kernel
theorem dX1_drawFrom_1 : decode cX1_drawFrom 1 = .ok (.iconst 0, 1) := by decide +kernel
theorem dX1_drawFrom_2 : decode cX1_drawFrom 2 = .ok (.putfield 15, 3) := by decide +kernel
theorem dX1_drawFrom_5 : decode cX1_drawFrom 5 = .ok (.aload_n 0, 1) := by decide +kernel
theorem dX1_drawFrom_6 : decode cX1_drawFrom 6 = .ok (.iconst 0, 1) := by decide +kernel
theorem dX1_drawFrom_7 : decode cX1_drawFrom 7 = .ok (.putfield 19, 3) := by decide +kernel
theorem dX1_drawFrom_10 : decode cX1_drawFrom 10 = .ok (.iload_n 2, 1) := by decide +kernel
theorem dX1_drawFrom_11 : decode cX1_drawFrom 11 = .ok (.istore 4, 2) := by decide +kernel
theorem dX1_drawFrom_13 : decode cX1_drawFrom 13 = .ok (.iconst 0, 1) := by decide +kernel
theorem dX1_drawFrom_14 : decode cX1_drawFrom 14 = .ok (.istore 5, 2) := by decide +kernel
theorem dX1_drawFrom_16 : decode cX1_drawFrom 16 = .ok (.iload 5, 2) := by decide +kernel
theorem dX1_drawFrom_18 : decode cX1_drawFrom 18 = .ok (.iload_n 3, 1) := by decide +kernel
theorem dX1_drawFrom_19 : decode cX1_drawFrom 19 = .ok (.if_icmp .ge 108, 3) := by decide +kernel
theorem dX1_drawFrom_22 : decode cX1_drawFrom 22 = .ok (.iload 5, 2) := by decide +kernel
theorem dX1_drawFrom_24 : decode cX1_drawFrom 24 = .ok (.iconst 5, 1) := by decide +kernel
theorem dX1_drawFrom_25 : decode cX1_drawFrom 25 = .ok (.if_icmp .ge 102, 3) := by decide +kernel
theorem dX1_drawFrom_28 : decode cX1_drawFrom 28 = .ok (.aload_n 1, 1) := by decide +kernel
theorem dX1_drawFrom_29 : decode cX1_drawFrom 29 = .ok (.getfield 22, 3) := by decide +kernel
theorem dX1_drawFrom_32 : decode cX1_drawFrom 32 = .ok (.getfield 28, 3) := by decide +kernel
theorem dX1_drawFrom_35 : decode cX1_drawFrom 35 = .ok (.ifCond .le 92, 3) := by decide +kernel
theorem dX1_drawFrom_38 : decode cX1_drawFrom 38 = .ok (.iload 4, 2) := by decide +kernel
theorem dX1_drawFrom_40 : decode cX1_drawFrom 40 = .ok (.invokestatic 32, 3) := by decide +kernel
theorem dX1_drawFrom_43 : decode cX1_drawFrom 43 = .ok (.istore 4, 2) := by decide +kernel
theorem dX1_drawFrom_45 : decode cX1_drawFrom 45 = .ok (.aload_n 0, 1) := by decide +kernel
theorem dX1_drawFrom_46 : decode cX1_drawFrom 46 = .ok (.iload 4, 2) := by decide +kernel
theorem dX1_drawFrom_48 : decode cX1_drawFrom 48 = .ok (.bipush 16, 2) := by decide +kernel
theorem dX1_drawFrom_50 : decode cX1_drawFrom 50 = .ok (.iushr, 1) := by decide +kernel
theorem dX1_drawFrom_51 : decode cX1_drawFrom 51 = .ok (.aload_n 1, 1) := by decide +kernel
theorem dX1_drawFrom_52 : decode cX1_drawFrom 52 = .ok (.getfield 22, 3) := by decide +kernel
theorem dX1_drawFrom_55 : decode cX1_drawFrom 55 = .ok (.getfield 28, 3) := by decide +kernel
theorem dX1_drawFrom_58 : decode cX1_drawFrom 58 = .ok (.irem, 1) := by decide +kernel
theorem dX1_drawFrom_59 : decode cX1_drawFrom 59 = .ok (.aload_n 1, 1) := by decide +kernel
theorem dX1_drawFrom_60 : decode cX1_drawFrom 60 = .ok (.getfield 22, 3) := by decide +kernel
theorem dX1_drawFrom_63 : decode cX1_drawFrom 63 = .ok (.getfield 28, 3) := by decide +kernel
theorem dX1_drawFrom_66 : decode cX1_drawFrom 66 = .ok (.invokevirtual 36, 3) := by decide +kernel
theorem dX1_drawFrom_69 : decode cX1_drawFrom 69 = .ok (.istore 6, 2) := by decide +kernel
theorem dX1_drawFrom_71 : decode cX1_drawFrom 71 = .ok (.aload_n 0, 1) := by decide +kernel
theorem dX1_drawFrom_72 : decode cX1_drawFrom 72 = .ok (.getfield 9, 3) := by decide +kernel
theorem dX1_drawFrom_75 : decode cX1_drawFrom 75 = .ok (.aload_n 0, 1) := by decide +kernel
theorem dX1_drawFrom_76 : decode cX1_drawFrom 76 = .ok (.getfield 15, 3) := by decide +kernel
theorem dX1_drawFrom_79 : decode cX1_drawFrom 79 = .ok (.iload 6, 2) := by decide +kernel
theorem dX1_drawFrom_81 : decode cX1_drawFrom 81 = .ok (.iastore, 1) := by decide +kernel
theorem dX1_drawFrom_82 : decode cX1_drawFrom 82 = .ok (.aload_n 0, 1) := by decide +kernel
theorem dX1_drawFrom_83 : decode cX1_drawFrom 83 = .ok (.dup, 1) := by decide +kernel
theorem dX1_drawFrom_84 : decode cX1_drawFrom 84 = .ok (.getfield 15, 3) := by decide +kernel
theorem dX1_drawFrom_87 : decode cX1_drawFrom 87 = .ok (.iconst 1, 1) := by decide +kernel
theorem dX1_drawFrom_88 : decode cX1_drawFrom 88 = .ok (.iadd, 1) := by decide +kernel
theorem dX1_drawFrom_89 : decode cX1_drawFrom 89 = .ok (.putfield 15, 3) := by decide +kernel
theorem dX1_drawFrom_92 : decode cX1_drawFrom 92 = .ok (.aload_n 0, 1) := by decide +kernel
theorem dX1_drawFrom_93 : decode cX1_drawFrom 93 = .ok (.aload_n 0, 1) := by decide +kernel
theorem dX1_drawFrom_94 : decode cX1_drawFrom 94 = .ok (.getfield 19, 3) := by decide +kernel
theorem dX1_drawFrom_97 : decode cX1_drawFrom 97 = .ok (.aload_n 1, 1) := by decide +kernel
theorem dX1_drawFrom_98 : decode cX1_drawFrom 98 = .ok (.getfield 22, 3) := by decide +kernel
theorem dX1_drawFrom_101 : decode cX1_drawFrom 101 = .ok (.getfield 40, 3) := by decide +kernel
theorem dX1_drawFrom_104 : decode cX1_drawFrom 104 = .ok (.iload 6, 2) := by decide +kernel
theorem dX1_drawFrom_106 : decode cX1_drawFrom 106 = .ok (.iaload, 1) := by decide +kernel
theorem dX1_drawFrom_107 : decode cX1_drawFrom 107 = .ok (.aload_n 1, 1) := by decide +kernel
theorem dX1_drawFrom_108 : decode cX1_drawFrom 108 = .ok (.getfield 43, 3) := by decide +kernel
theorem dX1_drawFrom_111 : decode cX1_drawFrom 111 = .ok (.isub, 1) := by decide +kernel
theorem dX1_drawFrom_112 : decode cX1_drawFrom 112 = .ok (.invokestatic 46, 3) := by decide +kernel
theorem dX1_drawFrom_115 : decode cX1_drawFrom 115 = .ok (.invokestatic 51, 3) := by decide +kernel
theorem dX1_drawFrom_118 : decode cX1_drawFrom 118 = .ok (.putfield 19, 3) := by decide +kernel
theorem dX1_drawFrom_121 : decode cX1_drawFrom 121 = .ok (.iinc 5 1, 3) := by decide +kernel
theorem dX1_drawFrom_124 : decode cX1_drawFrom 124 = .ok (.goto (-108), 3) := by decide +kernel
theorem dX1_drawFrom_127 : decode cX1_drawFrom 127 = .ok (.aload_n 0, 1) := by decide +kernel
theorem dX1_drawFrom_128 : decode cX1_drawFrom 128 = .ok (.aload_n 1, 1) := by decide +kernel
theorem dX1_drawFrom_129 : decode cX1_drawFrom 129 = .ok (.getfield 22, 3) := by decide +kernel
theorem dX1_drawFrom_132 : decode cX1_drawFrom 132 = .ok (.getfield 28, 3) := by decide +kernel
theorem dX1_drawFrom_135 : decode cX1_drawFrom 135 = .ok (.aload_n 0, 1) := by decide +kernel
theorem dX1_drawFrom_136 : decode cX1_drawFrom 136 = .ok (.getfield 15, 3) := by decide +kernel
theorem dX1_drawFrom_139 : decode cX1_drawFrom 139 = .ok (.invokestatic 54, 3) := by decide +kernel
theorem dX1_drawFrom_142 : decode cX1_drawFrom 142 = .ok (.putfield 57, 3) := by decide +kernel
theorem dX1_drawFrom_145 : decode cX1_drawFrom 145 = .ok (.return_, 1) := by decide +kernel
theorem dX1_gradeOfOff_0 : decode cX1_gradeOfOff 0 = .ok (.aload_n 0, 1) := by decide +kernel
theorem dX1_gradeOfOff_1 : decode cX1_gradeOfOff 1 = .ok (.getfield 19, 3) := by decide +kernel
theorem dX1_gradeOfOff_4 : decode cX1_gradeOfOff 4 = .ok (.iconst 3, 1) := by decide +kernel
theorem dX1_gradeOfOff_5 : decode cX1_gradeOfOff 5 = .ok (.if_icmp .gt 5, 3) := by decide +kernel
theorem dX1_gradeOfOff_8 : decode cX1_gradeOfOff 8 = .ok (.iconst 0, 1) := by decide +kernel
theorem dX1_gradeOfOff_9 : decode cX1_gradeOfOff 9 = .ok (.ireturn, 1) := by decide +kernel
theorem dX1_gradeOfOff_10 : decode cX1_gradeOfOff 10 = .ok (.aload_n 0, 1) := by decide +kernel
theorem dX1_gradeOfOff_11 : decode cX1_gradeOfOff 11 = .ok (.getfield 19, 3) := by decide +kernel
theorem dX1_gradeOfOff_14 : decode cX1_gradeOfOff 14 = .ok (.bipush 8, 2) := by decide +kernel
theorem dX1_gradeOfOff_16 : decode cX1_gradeOfOff 16 = .ok (.if_icmp .gt 5, 3) := by decide +kernel
theorem dX1_gradeOfOff_19 : decode cX1_gradeOfOff 19 = .ok (.iconst 1, 1) := by decide +kernel
theorem dX1_gradeOfOff_20 : decode cX1_gradeOfOff 20 = .ok (.ireturn, 1) := by decide +kernel
theorem dX1_gradeOfOff_21 : decode cX1_gradeOfOff 21 = .ok (.aload_n 0, 1) := by decide +kernel
theorem dX1_gradeOfOff_22 : decode cX1_gradeOfOff 22 = .ok (.getfield 19, 3) := by decide +kernel
theorem dX1_gradeOfOff_25 : decode cX1_gradeOfOff 25 = .ok (.bipush 20, 2) := by decide +kernel
theorem dX1_gradeOfOff_27 : decode cX1_gradeOfOff 27 = .ok (.if_icmp .gt 7, 3) := by decide +kernel
theorem dX1_gradeOfOff_30 : decode cX1_gradeOfOff 30 = .ok (.iconst 2, 1) := by decide +kernel
theorem dX1_gradeOfOff_31 : decode cX1_gradeOfOff 31 = .ok (.goto 4, 3) := by decide +kernel
theorem dX1_gradeOfOff_34 : decode cX1_gradeOfOff 34 = .ok (.iconst 3, 1) := by decide +kernel
theorem dX1_gradeOfOff_35 : decode cX1_gradeOfOff 35 = .ok (.ireturn, 1) := by decide +kernel
set_option maxRecDepth 20000 in
theorem ggX1_notDrawnFrom_X1_isDrawn : GoodIn wsX1_notDrawnFrom wsX1_isDrawn := goodIn_h _ [5, 0, 0, 0, 0, 0, 0] [0, 1, 2, 3, 4, 5, 6] (by decide +kernel) (by decide +kernel)
set_option maxRecDepth 20000 in
theorem gX1_notDrawnFrom_X1_isDrawn : GoodIn wsX1_notDrawnFrom (wsV RX1 60 RX1 yX1_isDrawn wsX1_isDrawn) := goodIn_app (goodIn_of _ (by decide +kernel)) ggX1_notDrawnFrom_X1_isDrawn
theorem dX1_notDrawnFrom_0 : decode cX1_notDrawnFrom 0 = .ok (.iload_n 1, 1) := by decide +kernel
theorem dX1_notDrawnFrom_1 : decode cX1_notDrawnFrom 1 = .ok (.istore_n 3, 1) := by decide +kernel
theorem dX1_notDrawnFrom_2 : decode cX1_notDrawnFrom 2 = .ok (.iconst 0, 1) := by decide +kernel
theorem dX1_notDrawnFrom_3 : decode cX1_notDrawnFrom 3 = .ok (.istore 4, 2) := by decide +kernel
theorem dX1_notDrawnFrom_5 : decode cX1_notDrawnFrom 5 = .ok (.iload 4, 2) := by decide +kernel
theorem dX1_notDrawnFrom_7 : decode cX1_notDrawnFrom 7 = .ok (.iconst 5, 1) := by decide +kernel
theorem dX1_notDrawnFrom_8 : decode cX1_notDrawnFrom 8 = .ok (.if_icmp .ge 32, 3) := by decide +kernel
theorem dX1_notDrawnFrom_11 : decode cX1_notDrawnFrom 11 = .ok (.aload_n 0, 1) := by decide +kernel
theorem dX1_notDrawnFrom_12 : decode cX1_notDrawnFrom 12 = .ok (.iload_n 3, 1) := by decide +kernel
theorem dX1_notDrawnFrom_13 : decode cX1_notDrawnFrom 13 = .ok (.invokevirtual 60, 3) := by decide +kernel
theorem dX1_notDrawnFrom_16 : decode cX1_notDrawnFrom 16 = .ok (.ifCond .eq 24, 3) := by decide +kernel
theorem dX1_notDrawnFrom_19 : decode cX1_notDrawnFrom 19 = .ok (.iload_n 3, 1) := by decide +kernel
theorem dX1_notDrawnFrom_20 : decode cX1_notDrawnFrom 20 = .ok (.iconst 1, 1) := by decide +kernel
theorem dX1_notDrawnFrom_21 : decode cX1_notDrawnFrom 21 = .ok (.iadd, 1) := by decide +kernel
theorem dX1_notDrawnFrom_22 : decode cX1_notDrawnFrom 22 = .ok (.iload_n 2, 1) := by decide +kernel
theorem dX1_notDrawnFrom_23 : decode cX1_notDrawnFrom 23 = .ok (.if_icmp .ge 9, 3) := by decide +kernel
theorem dX1_notDrawnFrom_26 : decode cX1_notDrawnFrom 26 = .ok (.iload_n 3, 1) := by decide +kernel
theorem dX1_notDrawnFrom_27 : decode cX1_notDrawnFrom 27 = .ok (.iconst 1, 1) := by decide +kernel
theorem dX1_notDrawnFrom_28 : decode cX1_notDrawnFrom 28 = .ok (.iadd, 1) := by decide +kernel
theorem dX1_notDrawnFrom_29 : decode cX1_notDrawnFrom 29 = .ok (.goto 4, 3) := by decide +kernel
theorem dX1_notDrawnFrom_32 : decode cX1_notDrawnFrom 32 = .ok (.iconst 0, 1) := by decide +kernel
theorem dX1_notDrawnFrom_33 : decode cX1_notDrawnFrom 33 = .ok (.istore_n 3, 1) := by decide +kernel
theorem dX1_notDrawnFrom_34 : decode cX1_notDrawnFrom 34 = .ok (.iinc 4 1, 3) := by decide +kernel
theorem dX1_notDrawnFrom_37 : decode cX1_notDrawnFrom 37 = .ok (.goto (-32), 3) := by decide +kernel
theorem dX1_notDrawnFrom_40 : decode cX1_notDrawnFrom 40 = .ok (.iload_n 3, 1) := by decide +kernel
theorem dX1_notDrawnFrom_41 : decode cX1_notDrawnFrom 41 = .ok (.ireturn, 1) := by decide +kernel
theorem dX1_isDrawn_0 : decode cX1_isDrawn 0 = .ok (.iconst 0, 1) := by decide +kernel
theorem dX1_isDrawn_1 : decode cX1_isDrawn 1 = .ok (.istore_n 2, 1) := by decide +kernel
theorem dX1_isDrawn_2 : decode cX1_isDrawn 2 = .ok (.iload_n 2, 1) := by decide +kernel
theorem dX1_isDrawn_3 : decode cX1_isDrawn 3 = .ok (.aload_n 0, 1) := by decide +kernel
theorem dX1_isDrawn_4 : decode cX1_isDrawn 4 = .ok (.getfield 15, 3) := by decide +kernel
theorem dX1_isDrawn_7 : decode cX1_isDrawn 7 = .ok (.if_icmp .ge 21, 3) := by decide +kernel
theorem dX1_isDrawn_10 : decode cX1_isDrawn 10 = .ok (.aload_n 0, 1) := by decide +kernel
theorem dX1_isDrawn_11 : decode cX1_isDrawn 11 = .ok (.getfield 9, 3) := by decide +kernel
theorem dX1_isDrawn_14 : decode cX1_isDrawn 14 = .ok (.iload_n 2, 1) := by decide +kernel
theorem dX1_isDrawn_15 : decode cX1_isDrawn 15 = .ok (.iaload, 1) := by decide +kernel
theorem dX1_isDrawn_16 : decode cX1_isDrawn 16 = .ok (.iload_n 1, 1) := by decide +kernel
theorem dX1_isDrawn_17 : decode cX1_isDrawn 17 = .ok (.if_icmp .ne 5, 3) := by decide +kernel
theorem dX1_isDrawn_20 : decode cX1_isDrawn 20 = .ok (.iconst 1, 1) := by decide +kernel
theorem dX1_isDrawn_21 : decode cX1_isDrawn 21 = .ok (.ireturn, 1) := by decide +kernel
theorem dX1_isDrawn_22 : decode cX1_isDrawn 22 = .ok (.iinc 2 1, 3) := by decide +kernel
theorem dX1_isDrawn_25 : decode cX1_isDrawn 25 = .ok (.goto (-23), 3) := by decide +kernel
theorem dX1_isDrawn_28 : decode cX1_isDrawn 28 = .ok (.iconst 0, 1) := by decide +kernel
theorem dX1_isDrawn_29 : decode cX1_isDrawn 29 = .ok (.ireturn, 1) := by decide +kernel
set_option maxRecDepth 20000 in
theorem ggX1_boundOf_X1_waysInOrder : GoodIn wsX1_boundOf wsX1_waysInOrder := goodIn_h _ [5] [0] (by decide +kernel) (by decide +kernel)
set_option maxRecDepth 20000 in
theorem gX1_boundOf_X1_waysInOrder : GoodIn wsX1_boundOf (va_wsS RX1 64 yX1_waysInOrder wsX1_waysInOrder) := goodIn_app (goodIn_of _ (by decide +kernel)) ggX1_boundOf_X1_waysInOrder
theorem dX1_boundOf_0 : decode cX1_boundOf 0 = .ok (.iload_n 0, 1) := by decide +kernel
theorem dX1_boundOf_1 : decode cX1_boundOf 1 = .ok (.iload_n 1, 1) := by decide +kernel
theorem dX1_boundOf_2 : decode cX1_boundOf 2 = .ok (.invokestatic 64, 3) := by decide +kernel
theorem dX1_boundOf_5 : decode cX1_boundOf 5 = .ok (.lstore_n 2, 1) := by decide +kernel
theorem dX1_boundOf_6 : decode cX1_boundOf 6 = .ok (.iload_n 0, 1) := by decide +kernel
theorem dX1_boundOf_7 : decode cX1_boundOf 7 = .ok (.iload_n 1, 1) := by decide +kernel
theorem dX1_boundOf_8 : decode cX1_boundOf 8 = .ok (.isub, 1) := by decide +kernel
theorem dX1_boundOf_9 : decode cX1_boundOf 9 = .ok (.istore 4, 2) := by decide +kernel
theorem dX1_boundOf_11 : decode cX1_boundOf 11 = .ok (.iload 4, 2) := by decide +kernel
theorem dX1_boundOf_13 : decode cX1_boundOf 13 = .ok (.ifCond .le 29, 3) := by decide +kernel
theorem dX1_boundOf_16 : decode cX1_boundOf 16 = .ok (.ldc2_w 68, 3) := by decide +kernel
theorem dX1_boundOf_19 : decode cX1_boundOf 19 = .ok (.iload_n 0, 1) := by decide +kernel
theorem dX1_boundOf_20 : decode cX1_boundOf 20 = .ok (.iload 4, 2) := by decide +kernel
theorem dX1_boundOf_22 : decode cX1_boundOf 22 = .ok (.isub, 1) := by decide +kernel
theorem dX1_boundOf_23 : decode cX1_boundOf 23 = .ok (.iload_n 1, 1) := by decide +kernel
theorem dX1_boundOf_24 : decode cX1_boundOf 24 = .ok (.invokestatic 64, 3) := by decide +kernel
theorem dX1_boundOf_27 : decode cX1_boundOf 27 = .ok (.lmul, 1) := by decide +kernel
theorem dX1_boundOf_28 : decode cX1_boundOf 28 = .ok (.lload_n 2, 1) := by decide +kernel
theorem dX1_boundOf_29 : decode cX1_boundOf 29 = .ok (.lcmp, 1) := by decide +kernel
theorem dX1_boundOf_30 : decode cX1_boundOf 30 = .ok (.ifCond .lt 6, 3) := by decide +kernel
theorem dX1_boundOf_33 : decode cX1_boundOf 33 = .ok (.iload 4, 2) := by decide +kernel
theorem dX1_boundOf_35 : decode cX1_boundOf 35 = .ok (.ireturn, 1) := by decide +kernel
theorem dX1_boundOf_36 : decode cX1_boundOf 36 = .ok (.iinc 4 (-1), 3) := by decide +kernel
theorem dX1_boundOf_39 : decode cX1_boundOf 39 = .ok (.goto (-28), 3) := by decide +kernel
theorem dX1_boundOf_42 : decode cX1_boundOf 42 = .ok (.iconst 0, 1) := by decide +kernel
theorem dX1_boundOf_43 : decode cX1_boundOf 43 = .ok (.ireturn, 1) := by decide +kernel
theorem dX1_waysInOrder_0 : decode cX1_waysInOrder 0 = .ok (.lconst 1, 1) := by decide +kernel
theorem dX1_waysInOrder_1 : decode cX1_waysInOrder 1 = .ok (.lstore_n 2, 1) := by decide +kernel
theorem dX1_waysInOrder_2 : decode cX1_waysInOrder 2 = .ok (.iconst 0, 1) := by decide +kernel
theorem dX1_waysInOrder_3 : decode cX1_waysInOrder 3 = .ok (.istore 4, 2) := by decide +kernel
theorem dX1_waysInOrder_5 : decode cX1_waysInOrder 5 = .ok (.iload 4, 2) := by decide +kernel
theorem dX1_waysInOrder_7 : decode cX1_waysInOrder 7 = .ok (.iload_n 1, 1) := by decide +kernel
theorem dX1_waysInOrder_8 : decode cX1_waysInOrder 8 = .ok (.if_icmp .ge 17, 3) := by decide +kernel
theorem dX1_waysInOrder_11 : decode cX1_waysInOrder 11 = .ok (.lload_n 2, 1) := by decide +kernel
theorem dX1_waysInOrder_12 : decode cX1_waysInOrder 12 = .ok (.iload_n 0, 1) := by decide +kernel
theorem dX1_waysInOrder_13 : decode cX1_waysInOrder 13 = .ok (.iload 4, 2) := by decide +kernel
theorem dX1_waysInOrder_15 : decode cX1_waysInOrder 15 = .ok (.isub, 1) := by decide +kernel
theorem dX1_waysInOrder_16 : decode cX1_waysInOrder 16 = .ok (.i2l, 1) := by decide +kernel
theorem dX1_waysInOrder_17 : decode cX1_waysInOrder 17 = .ok (.lmul, 1) := by decide +kernel
theorem dX1_waysInOrder_18 : decode cX1_waysInOrder 18 = .ok (.lstore_n 2, 1) := by decide +kernel
theorem dX1_waysInOrder_19 : decode cX1_waysInOrder 19 = .ok (.iinc 4 1, 3) := by decide +kernel
theorem dX1_waysInOrder_22 : decode cX1_waysInOrder 22 = .ok (.goto (-17), 3) := by decide +kernel
theorem dX1_waysInOrder_25 : decode cX1_waysInOrder 25 = .ok (.lload_n 2, 1) := by decide +kernel
theorem dX1_waysInOrder_26 : decode cX1_waysInOrder 26 = .ok (.lreturn, 1) := by decide +kernel
theorem dX6_openRule_0 : decode cX6_openRule 0 = .ok (.aload_n 0, 1) := by decide +kernel
theorem dX6_openRule_1 : decode cX6_openRule 1 = .ok (.getfield 30, 3) := by decide +kernel
theorem dX6_openRule_4 : decode cX6_openRule 4 = .ok (.bipush 12, 2) := by decide +kernel
theorem dX6_openRule_6 : decode cX6_openRule 6 = .ok (.if_icmp .ge 13, 3) := by decide +kernel
theorem dX6_openRule_9 : decode cX6_openRule 9 = .ok (.aload_n 0, 1) := by decide +kernel
theorem dX6_openRule_10 : decode cX6_openRule 10 = .ok (.getfield 18, 3) := by decide +kernel
theorem dX6_openRule_13 : decode cX6_openRule 13 = .ok (.aload_n 0, 1) := by decide +kernel
theorem dX6_openRule_14 : decode cX6_openRule 14 = .ok (.getfield 30, 3) := by decide +kernel
theorem dX6_openRule_17 : decode cX6_openRule 17 = .ok (.iconst 0, 1) := by decide +kernel
theorem dX6_openRule_18 : decode cX6_openRule 18 = .ok (.iastore, 1) := by decide +kernel
theorem dX6_openRule_19 : decode cX6_openRule 19 = .ok (.return_, 1) := by decide +kernel
theorem dX6_addCondition_0 : decode cX6_addCondition 0 = .ok (.aload_n 0, 1) := by decide +kernel
theorem dX6_addCondition_1 : decode cX6_addCondition 1 = .ok (.getfield 30, 3) := by decide +kernel
theorem dX6_addCondition_4 : decode cX6_addCondition 4 = .ok (.bipush 12, 2) := by decide +kernel
theorem dX6_addCondition_6 : decode cX6_addCondition 6 = .ok (.if_icmp .ge 71, 3) := by decide +kernel
theorem dX6_addCondition_9 : decode cX6_addCondition 9 = .ok (.aload_n 0, 1) := by decide +kernel
theorem dX6_addCondition_10 : decode cX6_addCondition 10 = .ok (.getfield 18, 3) := by decide +kernel
theorem dX6_addCondition_13 : decode cX6_addCondition 13 = .ok (.aload_n 0, 1) := by decide +kernel
theorem dX6_addCondition_14 : decode cX6_addCondition 14 = .ok (.getfield 30, 3) := by decide +kernel
theorem dX6_addCondition_17 : decode cX6_addCondition 17 = .ok (.iaload, 1) := by decide +kernel
theorem dX6_addCondition_18 : decode cX6_addCondition 18 = .ok (.iconst 4, 1) := by decide +kernel
theorem dX6_addCondition_19 : decode cX6_addCondition 19 = .ok (.if_icmp .ge 58, 3) := by decide +kernel
theorem dX6_addCondition_22 : decode cX6_addCondition 22 = .ok (.aload_n 0, 1) := by decide +kernel
theorem dX6_addCondition_23 : decode cX6_addCondition 23 = .ok (.getfield 30, 3) := by decide +kernel
theorem dX6_addCondition_26 : decode cX6_addCondition 26 = .ok (.iconst 4, 1) := by decide +kernel
theorem dX6_addCondition_27 : decode cX6_addCondition 27 = .ok (.imul, 1) := by decide +kernel
theorem dX6_addCondition_28 : decode cX6_addCondition 28 = .ok (.aload_n 0, 1) := by decide +kernel
theorem dX6_addCondition_29 : decode cX6_addCondition 29 = .ok (.getfield 18, 3) := by decide +kernel
theorem dX6_addCondition_32 : decode cX6_addCondition 32 = .ok (.aload_n 0, 1) := by decide +kernel
theorem dX6_addCondition_33 : decode cX6_addCondition 33 = .ok (.getfield 30, 3) := by decide +kernel
theorem dX6_addCondition_36 : decode cX6_addCondition 36 = .ok (.iaload, 1) := by decide +kernel
theorem dX6_addCondition_37 : decode cX6_addCondition 37 = .ok (.iadd, 1) := by decide +kernel
theorem dX6_addCondition_38 : decode cX6_addCondition 38 = .ok (.istore 4, 2) := by decide +kernel
theorem dX6_addCondition_40 : decode cX6_addCondition 40 = .ok (.aload_n 0, 1) := by decide +kernel
theorem dX6_addCondition_41 : decode cX6_addCondition 41 = .ok (.getfield 21, 3) := by decide +kernel
theorem dX6_addCondition_44 : decode cX6_addCondition 44 = .ok (.iload 4, 2) := by decide +kernel
theorem dX6_addCondition_46 : decode cX6_addCondition 46 = .ok (.iload_n 1, 1) := by decide +kernel
theorem dX6_addCondition_47 : decode cX6_addCondition 47 = .ok (.iastore, 1) := by decide +kernel
theorem dX6_addCondition_48 : decode cX6_addCondition 48 = .ok (.aload_n 0, 1) := by decide +kernel
theorem dX6_addCondition_49 : decode cX6_addCondition 49 = .ok (.getfield 24, 3) := by decide +kernel
theorem dX6_addCondition_52 : decode cX6_addCondition 52 = .ok (.iload 4, 2) := by decide +kernel
theorem dX6_addCondition_54 : decode cX6_addCondition 54 = .ok (.iload_n 2, 1) := by decide +kernel
theorem dX6_addCondition_55 : decode cX6_addCondition 55 = .ok (.iastore, 1) := by decide +kernel
theorem dX6_addCondition_56 : decode cX6_addCondition 56 = .ok (.aload_n 0, 1) := by decide +kernel
theorem dX6_addCondition_57 : decode cX6_addCondition 57 = .ok (.getfield 27, 3) := by decide +kernel
theorem dX6_addCondition_60 : decode cX6_addCondition 60 = .ok (.iload 4, 2) := by decide +kernel
theorem dX6_addCondition_62 : decode cX6_addCondition 62 = .ok (.iload_n 3, 1) := by decide +kernel
theorem dX6_addCondition_63 : decode cX6_addCondition 63 = .ok (.iastore, 1) := by decide +kernel
theorem dX6_addCondition_64 : decode cX6_addCondition 64 = .ok (.aload_n 0, 1) := by decide +kernel
theorem dX6_addCondition_65 : decode cX6_addCondition 65 = .ok (.getfield 18, 3) := by decide +kernel
theorem dX6_addCondition_68 : decode cX6_addCondition 68 = .ok (.aload_n 0, 1) := by decide +kernel
theorem dX6_addCondition_69 : decode cX6_addCondition 69 = .ok (.getfield 30, 3) := by decide +kernel
theorem dX6_addCondition_72 : decode cX6_addCondition 72 = .ok (.dup2, 1) := by decide +kernel
theorem dX6_addCondition_73 : decode cX6_addCondition 73 = .ok (.iaload, 1) := by decide +kernel
theorem dX6_addCondition_74 : decode cX6_addCondition 74 = .ok (.iconst 1, 1) := by decide +kernel
theorem dX6_addCondition_75 : decode cX6_addCondition 75 = .ok (.iadd, 1) := by decide +kernel
theorem dX6_addCondition_76 : decode cX6_addCondition 76 = .ok (.iastore, 1) := by decide +kernel
theorem dX6_addCondition_77 : decode cX6_addCondition 77 = .ok (.return_, 1) := by decide +kernel
theorem dX6_closeRule_0 : decode cX6_closeRule 0 = .ok (.aload_n 0, 1) := by decide +kernel
theorem dX6_closeRule_1 : decode cX6_closeRule 1 = .ok (.getfield 30, 3) := by decide +kernel
theorem dX6_closeRule_4 : decode cX6_closeRule 4 = .ok (.bipush 12, 2) := by decide +kernel
theorem dX6_closeRule_6 : decode cX6_closeRule 6 = .ok (.if_icmp .ge 33, 3) := by decide +kernel
theorem dX6_closeRule_9 : decode cX6_closeRule 9 = .ok (.aload_n 0, 1) := by decide +kernel
theorem dX6_closeRule_10 : decode cX6_closeRule 10 = .ok (.getfield 9, 3) := by decide +kernel
theorem dX6_closeRule_13 : decode cX6_closeRule 13 = .ok (.aload_n 0, 1) := by decide +kernel
theorem dX6_closeRule_14 : decode cX6_closeRule 14 = .ok (.getfield 30, 3) := by decide +kernel
theorem dX6_closeRule_17 : decode cX6_closeRule 17 = .ok (.iload_n 1, 1) := by decide +kernel
theorem dX6_closeRule_18 : decode cX6_closeRule 18 = .ok (.iastore, 1) := by decide +kernel
theorem dX6_closeRule_19 : decode cX6_closeRule 19 = .ok (.aload_n 0, 1) := by decide +kernel
theorem dX6_closeRule_20 : decode cX6_closeRule 20 = .ok (.getfield 15, 3) := by decide +kernel
theorem dX6_closeRule_23 : decode cX6_closeRule 23 = .ok (.aload_n 0, 1) := by decide +kernel
theorem dX6_closeRule_24 : decode cX6_closeRule 24 = .ok (.getfield 30, 3) := by decide +kernel
theorem dX6_closeRule_27 : decode cX6_closeRule 27 = .ok (.iload_n 2, 1) := by decide +kernel
theorem dX6_closeRule_28 : decode cX6_closeRule 28 = .ok (.iastore, 1) := by decide +kernel
theorem dX6_closeRule_29 : decode cX6_closeRule 29 = .ok (.aload_n 0, 1) := by decide +kernel
theorem dX6_closeRule_30 : decode cX6_closeRule 30 = .ok (.dup, 1) := by decide +kernel
theorem dX6_closeRule_31 : decode cX6_closeRule 31 = .ok (.getfield 30, 3) := by decide +kernel
theorem dX6_closeRule_34 : decode cX6_closeRule 34 = .ok (.iconst 1, 1) := by decide +kernel
theorem dX6_closeRule_35 : decode cX6_closeRule 35 = .ok (.iadd, 1) := by decide +kernel
theorem dX6_closeRule_36 : decode cX6_closeRule 36 = .ok (.putfield 30, 3) := by decide +kernel
theorem dX6_closeRule_39 : decode cX6_closeRule 39 = .ok (.return_, 1) := by decide +kernel
theorem dX7_isOf_0 : decode cX7_isOf 0 = .ok (.aload_n 0, 1) := by decide +kernel
theorem dX7_isOf_1 : decode cX7_isOf 1 = .ok (.getfield 19, 3) := by decide +kernel
theorem dX7_isOf_4 : decode cX7_isOf 4 = .ok (.iload_n 1, 1) := by decide +kernel
theorem dX7_isOf_5 : decode cX7_isOf 5 = .ok (.if_icmp .ne 15, 3) := by decide +kernel
theorem dX7_isOf_8 : decode cX7_isOf 8 = .ok (.aload_n 0, 1) := by decide +kernel
theorem dX7_isOf_9 : decode cX7_isOf 9 = .ok (.getfield 25, 3) := by decide +kernel
theorem dX7_isOf_12 : decode cX7_isOf 12 = .ok (.iload_n 2, 1) := by decide +kernel
theorem dX7_isOf_13 : decode cX7_isOf 13 = .ok (.if_icmp .ne 7, 3) := by decide +kernel
theorem dX7_isOf_16 : decode cX7_isOf 16 = .ok (.iconst 1, 1) := by decide +kernel
theorem dX7_isOf_17 : decode cX7_isOf 17 = .ok (.goto 4, 3) := by decide +kernel
theorem dX7_isOf_20 : decode cX7_isOf 20 = .ok (.iconst 0, 1) := by decide +kernel
theorem dX7_isOf_21 : decode cX7_isOf 21 = .ok (.ireturn, 1) := by decide +kernel
theorem dX9_beginAnew_0 : decode cX9_beginAnew 0 = .ok (.aload_n 0, 1) := by decide +kernel
theorem dX9_beginAnew_1 : decode cX9_beginAnew 1 = .ok (.iconst 0, 1) := by decide +kernel
theorem dX9_beginAnew_2 : decode cX9_beginAnew 2 = .ok (.putfield 30, 3) := by decide +kernel
theorem dX9_beginAnew_5 : decode cX9_beginAnew 5 = .ok (.aload_n 0, 1) := by decide +kernel
theorem dX9_beginAnew_6 : decode cX9_beginAnew 6 = .ok (.iconst 0, 1) := by decide +kernel
theorem dX9_beginAnew_7 : decode cX9_beginAnew 7 = .ok (.putfield 40, 3) := by decide +kernel
theorem dX9_beginAnew_10 : decode cX9_beginAnew 10 = .ok (.aload_n 0, 1) := by decide +kernel
theorem dX9_beginAnew_11 : decode cX9_beginAnew 11 = .ok (.iconst 0, 1) := by decide +kernel
theorem dX9_beginAnew_12 : decode cX9_beginAnew 12 = .ok (.putfield 43, 3) := by decide +kernel
theorem dX9_beginAnew_15 : decode cX9_beginAnew 15 = .ok (.return_, 1) := by decide +kernel
theorem dX9_addMetre_0 : decode cX9_addMetre 0 = .ok (.aload_n 0, 1) := by decide +kernel
theorem dX9_addMetre_1 : decode cX9_addMetre 1 = .ok (.getfield 30, 3) := by decide +kernel
theorem dX9_addMetre_4 : decode cX9_addMetre 4 = .ok (.sipush 300, 3) := by decide +kernel
theorem dX9_addMetre_7 : decode cX9_addMetre 7 = .ok (.if_icmp .ge 43, 3) := by decide +kernel
theorem dX9_addMetre_10 : decode cX9_addMetre 10 = .ok (.aload_n 0, 1) := by decide +kernel
theorem dX9_addMetre_11 : decode cX9_addMetre 11 = .ok (.getfield 9, 3) := by decide +kernel
theorem dX9_addMetre_14 : decode cX9_addMetre 14 = .ok (.aload_n 0, 1) := by decide +kernel
theorem dX9_addMetre_15 : decode cX9_addMetre 15 = .ok (.getfield 30, 3) := by decide +kernel
theorem dX9_addMetre_18 : decode cX9_addMetre 18 = .ok (.iload_n 1, 1) := by decide +kernel
theorem dX9_addMetre_19 : decode cX9_addMetre 19 = .ok (.iastore, 1) := by decide +kernel
theorem dX9_addMetre_20 : decode cX9_addMetre 20 = .ok (.aload_n 0, 1) := by decide +kernel
theorem dX9_addMetre_21 : decode cX9_addMetre 21 = .ok (.getfield 15, 3) := by decide +kernel
theorem dX9_addMetre_24 : decode cX9_addMetre 24 = .ok (.aload_n 0, 1) := by decide +kernel
theorem dX9_addMetre_25 : decode cX9_addMetre 25 = .ok (.getfield 30, 3) := by decide +kernel
theorem dX9_addMetre_28 : decode cX9_addMetre 28 = .ok (.iload_n 2, 1) := by decide +kernel
theorem dX9_addMetre_29 : decode cX9_addMetre 29 = .ok (.iastore, 1) := by decide +kernel
theorem dX9_addMetre_30 : decode cX9_addMetre 30 = .ok (.aload_n 0, 1) := by decide +kernel
theorem dX9_addMetre_31 : decode cX9_addMetre 31 = .ok (.dup, 1) := by decide +kernel
theorem dX9_addMetre_32 : decode cX9_addMetre 32 = .ok (.getfield 30, 3) := by decide +kernel
theorem dX9_addMetre_35 : decode cX9_addMetre 35 = .ok (.iconst 1, 1) := by decide +kernel
theorem dX9_addMetre_36 : decode cX9_addMetre 36 = .ok (.iadd, 1) := by decide +kernel
theorem dX9_addMetre_37 : decode cX9_addMetre 37 = .ok (.putfield 30, 3) := by decide +kernel
theorem dX9_addMetre_40 : decode cX9_addMetre 40 = .ok (.aload_n 0, 1) := by decide +kernel
theorem dX9_addMetre_41 : decode cX9_addMetre 41 = .ok (.dup, 1) := by decide +kernel
theorem dX9_addMetre_42 : decode cX9_addMetre 42 = .ok (.getfield 40, 3) := by decide +kernel
theorem dX9_addMetre_45 : decode cX9_addMetre 45 = .ok (.iload_n 1, 1) := by decide +kernel
theorem dX9_addMetre_46 : decode cX9_addMetre 46 = .ok (.iadd, 1) := by decide +kernel
theorem dX9_addMetre_47 : decode cX9_addMetre 47 = .ok (.putfield 40, 3) := by decide +kernel
theorem dX9_addMetre_50 : decode cX9_addMetre 50 = .ok (.return_, 1) := by decide +kernel
theorem inn_X1_drawFrom_1 : ∀ w ∈ u_ws RX1 TX1 4, w ∈ wsX1_drawFrom := fun w h => List.mem_cons_of_mem _ (List.mem_append_left _ (List.mem_append_left _ (List.mem_append_right _ h)))
theorem inn_X1_drawFrom_7 : ∀ w ∈ u_ws RX7 TX7 10, w ∈ wsX1_drawFrom := fun w h => List.mem_cons_of_mem _ (List.mem_append_left _ (List.mem_append_right _ h))
theorem inn_X1_drawFrom_9 : ∀ w ∈ u_ws RX9 TX9 9, w ∈ wsX1_drawFrom := fun w h => List.mem_cons_of_mem _ (List.mem_append_right _ h)
theorem inn_X1_gradeOfOff_1 : ∀ w ∈ u_ws RX1 TX1 4, w ∈ wsX1_gradeOfOff := fun w h => List.mem_cons_of_mem _ (List.mem_append_right _ h)
theorem inn_X1_isDrawn_1 : ∀ w ∈ u_ws RX1 TX1 4, w ∈ wsX1_isDrawn := fun w h => List.mem_cons_of_mem _ (List.mem_append_right _ h)
theorem inn_X6_addCondition_6 : ∀ w ∈ u_ws RX6 TX6 7, w ∈ wsX6_addCondition := fun w h => List.mem_cons_of_mem _ (List.mem_append_right _ h)
theorem inn_X6_closeRule_6 : ∀ w ∈ u_ws RX6 TX6 7, w ∈ wsX6_closeRule := fun w h => List.mem_cons_of_mem _ (List.mem_append_right _ h)
theorem inn_X6_openRule_6 : ∀ w ∈ u_ws RX6 TX6 7, w ∈ wsX6_openRule := fun w h => List.mem_cons_of_mem _ (List.mem_append_right _ h)
theorem inn_X7_isOf_7 : ∀ w ∈ u_ws RX7 TX7 10, w ∈ wsX7_isOf := fun w h => List.mem_cons_of_mem _ (List.mem_append_right _ h)
theorem inn_X9_addMetre_9 : ∀ w ∈ u_ws RX9 TX9 9, w ∈ wsX9_addMetre := fun w h => List.mem_cons_of_mem _ (List.mem_append_right _ h)
theorem inn_X9_beginAnew_9 : ∀ w ∈ u_ws RX9 TX9 9, w ∈ wsX9_beginAnew := fun w h => List.mem_cons_of_mem _ (List.mem_append_right _ h)
set_option maxHeartbeats 4000000 in
set_option maxRecDepth 100000 in
theorem k_X7_isOf (l : Launch) (G : va_G) (cy : Nat → ClassId) (κ : Nat → Nat) (S : PS) (sz : Nat) (x : Nat) (a1 : Int32) (a1_z : Int) (a2 : Int32) (a2_z : Int) (hG : GX S) (ha_x : At S x 7) (hz_a1 : a1.toInt = a1_z) (hz_a2 : a2.toInt = a2_z) : Ci l yX7_isOf wsX7_isOf ({ frames := 1, cells := 0, slots := 0, locals := 48 }) G cy κ S sz [.ref x, .int (a1), .int (a2)] (fun (r : Int32) (S9 : PS) => S = S9 ∧ (((True) ∧ r = 1) ∨ ((True) ∧ r = 0))) := by
  refine ent_m (cc := cX7_isOf) (maxL := 3) (ret := (some .boolean)) (by decide) rfl (Nat.le_of_ble_eq_true rfl) ?_
  intro p e s m below meth c ls X hr hlocks hin hw hl hsz
  subst hsz
  have X : Cx p c cX7_isOf 3 s [.ref x, .int (a1), .int (a2)].toArray wsX7_isOf RX7 m G cy κ (AS S s.heap.size) := X
  have hl : lv_has ls 3 [(0, .ref x), (1, .int (a1)), (2, .int (a2))] := hl
  have rg_a1 : (-2147483648) ≤ a1_z ∧ a1_z ≤ 2147483647 := by rw [← hz_a1]; exact ⟨z_lo _, z_hi _⟩
  have rg_a2 : (-2147483648) ≤ a2_z ∧ a2_z ≤ 2147483647 := by rw [← hz_a2]; exact ⟨z_lo _, z_hi _⟩
  refine lv_aload_n X.1 X.2.1 dX7_isOf_0 rfl (lv_at hl 0 rfl) ?_
  obtain ⟨v_1, ev_1⟩ : ∃ v, pI S 700 x = v := ⟨_, rfl⟩
  have rg_3 := And.intro (z_lo v_1) (z_hi v_1)
  refine r_getI (g := 700) (x := v_1) X hw ha_x rfl 0 ev_1 (by decide) rfl inn_X7_isOf_7 (by decide) (X.2.2.2.1 (.fieldLink RX7 19 "SilkMill$Skein" "potNumber" "I") (by decide +kernel)) rfl (gv_700 _ _) dX7_isOf_1 ?_
  refine lv_iload_n X.1 X.2.1 dX7_isOf_4 rfl (lv_at hl 1 rfl) ?_
  refine lv_icmp_ne (tgt := 20) X.1 X.2.1 dX7_isOf_5 (by decide) (fun c_4 => ?_) (fun c_4 => ?_)
  · have z_b_5 := trivial
    have k_6 : v_1.toInt ≠ a1_z := z_ne rfl hz_a1 c_4
    refine lv_iconst (v := 0) X.1 X.2.1 dX7_isOf_20 (by decide) ?_
    exact ret_z X hw hr hlocks (Nat.le_of_ble_eq_true rfl) (Nat.le_of_ble_eq_true rfl) (by decide) ⟨rfl, Or.inr ⟨trivial, rfl⟩⟩ dX7_isOf_21
  · have z_b_7 := trivial
    have k_8 : v_1.toInt = a1_z := z_eq rfl hz_a1 c_4
    refine lv_aload_n X.1 X.2.1 dX7_isOf_8 rfl (lv_at hl 0 rfl) ?_
    obtain ⟨v_9, ev_9⟩ : ∃ v, pI S 702 x = v := ⟨_, rfl⟩
    have rg_11 := And.intro (z_lo v_9) (z_hi v_9)
    refine r_getI (g := 702) (x := v_9) X hw ha_x rfl 2 ev_9 (by decide) rfl inn_X7_isOf_7 (by decide) (X.2.2.2.1 (.fieldLink RX7 25 "SilkMill$Skein" "dayCut" "I") (by decide +kernel)) rfl (gv_702 _ _) dX7_isOf_9 ?_
    refine lv_iload_n X.1 X.2.1 dX7_isOf_12 rfl (lv_at hl 2 rfl) ?_
    refine lv_icmp_ne (tgt := 20) X.1 X.2.1 dX7_isOf_13 (by decide) (fun c_12 => ?_) (fun c_12 => ?_)
    · have z_b_13 := trivial
      have k_14 : v_9.toInt ≠ a2_z := z_ne rfl hz_a2 c_12
      refine lv_iconst (v := 0) X.1 X.2.1 dX7_isOf_20 (by decide) ?_
      exact ret_z X hw hr hlocks (Nat.le_of_ble_eq_true rfl) (Nat.le_of_ble_eq_true rfl) (by decide) ⟨rfl, Or.inr ⟨trivial, rfl⟩⟩ dX7_isOf_21
    · have z_b_15 := trivial
      have k_16 : v_9.toInt = a2_z := z_eq rfl hz_a2 c_12
      refine lv_iconst (v := 1) X.1 X.2.1 dX7_isOf_16 (by decide) ?_
      refine lv_goto (tgt := 21) X.1 X.2.1 dX7_isOf_17 (by decide) ?_
      exact ret_z X hw hr hlocks (Nat.le_of_ble_eq_true rfl) (Nat.le_of_ble_eq_true rfl) (by decide) ⟨rfl, Or.inl ⟨trivial, rfl⟩⟩ dX7_isOf_21
set_option maxHeartbeats 4000000 in
set_option maxRecDepth 100000 in
theorem k_X1_isDrawn (l : Launch) (G : va_G) (cy : Nat → ClassId) (κ : Nat → Nat) (S : PS) (sz : Nat) (x : Nat) (a1 : Int32) (a1_z : Int) (hG : GX S) (ha_x : At S x 1) (hz_a1 : a1.toInt = a1_z) : Ci l yX1_isDrawn wsX1_isDrawn ({ frames := 1, cells := 0, slots := 0, locals := 48 }) G cy κ S sz [.ref x, .int (a1)] (fun (r : Int32) (S9 : PS) => S = S9 ∧ (((True) ∧ r = 1) ∨ ((True) ∧ r = 0))) := by
  refine ent_m (cc := cX1_isDrawn) (maxL := 3) (ret := (some .boolean)) (by decide) rfl (Nat.le_of_ble_eq_true rfl) ?_
  intro p e s m below meth c ls X hr hlocks hin hw hl hsz
  subst hsz
  have X : Cx p c cX1_isDrawn 3 s [.ref x, .int (a1)].toArray wsX1_isDrawn RX1 m G cy κ (AS S s.heap.size) := X
  have hl : lv_has ls 3 [(0, .ref x), (1, .int (a1))] := hl
  have rg_a1 : (-2147483648) ≤ a1_z ∧ a1_z ≤ 2147483647 := by rw [← hz_a1]; exact ⟨z_lo _, z_hi _⟩
  generalize hQQ : MQ below _ _ _ _ _ _ = QQ
  replace hQQ := hQQ.symm
  refine lv_iconst (v := 0) X.1 X.2.1 dX1_isDrawn_0 (by decide) ?_
  refine lv_istore_n (lv' := [(2, .int 0), (0, .ref x), (1, .int (a1))]) X.1 X.2.1 dX1_isDrawn_1 rfl hl (by decide) rfl (fun ls hl => ?_)
  have L_1 : ∀ (n : Nat) (H : Heap) (locs : List Loc) (ls : Array Slot) (i2_2 : Int32) (i2_2_z : Int), ((5 - i2_2_z).toNat = n) → (Wd G cy (AS S s.heap.size) s.heap S H locs) → (i2_2.toInt = i2_2_z) → (0 ≤ i2_2_z ∧ i2_2_z ≤ 5) → (lv_has ls 3 [(2, .int (i2_2)), (0, .ref x), (1, .int (a1))]) → W p l e ({ frames := 1, cells := 0, slots := 0, locals := 48 }) s m [.ref x, .int (a1)].toArray below meth c H locs 0 0 QQ (F0 m 2 ls []) := by
    intro n
    induction n using Nat.strongRecOn with
    | ind n ih =>
    intro H locs ls i2_2 i2_2_z hn hw hz_i2_2 hr_i2_2 hl
    have rg_3 : (-2147483648) ≤ i2_2_z ∧ i2_2_z ≤ 2147483647 := by rw [← hz_i2_2]; exact ⟨z_lo _, z_hi _⟩
    refine lv_iload_n X.1 X.2.1 dX1_isDrawn_2 rfl (lv_at hl 0 rfl) ?_
    refine lv_aload_n X.1 X.2.1 dX1_isDrawn_3 rfl (lv_at hl 1 rfl) ?_
    obtain ⟨v_4, ev_4⟩ : ∃ v, pI S 101 x = v := ⟨_, rfl⟩
    have rg_5 := gI_1_101 hG ha_x; rw [ev_4] at rg_5
    refine r_getI (g := 101) (x := v_4) X hw ha_x rfl 1 ev_4 (by decide) rfl inn_X1_isDrawn_1 (by decide) (X.2.2.2.1 (.fieldLink RX1 15 "SilkMill$Draw" "size" "I") (by decide +kernel)) rfl (gv_101 _ _) dX1_isDrawn_4 ?_
    refine lv_icmp_ge (tgt := 28) X.1 X.2.1 dX1_isDrawn_7 (by decide) (fun c_6 => ?_) (fun c_6 => ?_)
    · have z_b_7 := trivial
      have k_8 : i2_2_z ≥ v_4.toInt := z_le rfl hz_i2_2 c_6
      refine lv_iconst (v := 0) X.1 X.2.1 dX1_isDrawn_28 (by decide) ?_
      rw [hQQ]
      exact ret_z X hw hr hlocks (Nat.le_of_ble_eq_true rfl) (Nat.le_of_ble_eq_true rfl) (by decide) ⟨rfl, Or.inr ⟨trivial, rfl⟩⟩ dX1_isDrawn_29
    · have z_b_9 := trivial
      have k_10 : i2_2_z < v_4.toInt := z_nle rfl hz_i2_2 c_6
      refine lv_aload_n X.1 X.2.1 dX1_isDrawn_10 rfl (lv_at hl 1 rfl) ?_
      obtain ⟨q_11, h_12, h_13, h_14⟩ := gQ_1_100 hG ha_x
      refine r_getR (g := 100) X hw ha_x rfl 0 h_12 (by decide) rfl inn_X1_isDrawn_1 (by decide) (X.2.2.2.1 (.fieldLink RX1 9 "SilkMill$Draw" "metres" "[I") (by decide +kernel)) rfl (gv_100 _ _) dX1_isDrawn_11 ?_
      refine lv_iload_n X.1 X.2.1 dX1_isDrawn_14 rfl (lv_at hl 0 rfl) ?_
      refine r_iald X hw h_13 rfl (by rw [h_14]; exact z_ix hz_i2_2 (by omega) (by omega)) dX1_isDrawn_15 ?_
      refine lv_topi (fun v_15 ev_15 => ?_)
      have rg_16 := And.intro (z_lo v_15) (z_hi v_15)
      have ev_15 := ev_15.symm
      refine lv_iload_n X.1 X.2.1 dX1_isDrawn_16 rfl (lv_at hl 2 rfl) ?_
      refine lv_icmp_ne (tgt := 22) X.1 X.2.1 dX1_isDrawn_17 (by decide) (fun c_17 => ?_) (fun c_17 => ?_)
      · have z_b_18 := trivial
        have k_19 : v_15.toInt ≠ a1_z := z_ne rfl hz_a1 c_17
        obtain ⟨x_20, ex_20⟩ : ∃ y : Int32, y = i2_2 + 1 := ⟨_, rfl⟩
        have z_21 : x_20.toInt = i2_2_z + 1 := z_add ex_20 hz_i2_2 ti_1 (by omega) (by omega)
        refine lv_iinc (v := x_20) (lv' := [(2, .int (x_20)), (0, .ref x), (1, .int (a1))]) X.1 X.2.1 dX1_isDrawn_22 hl (k := 0) rfl (by rw [ex_20]; rfl) (by decide) rfl (fun ls hl => ?_)
        refine lv_goto (tgt := 2) X.1 X.2.1 dX1_isDrawn_25 (by decide) ?_
        exact ih _ (by omega) _ _ _ (x_20) (x_20.toInt) rfl hw rfl (by omega) (lv_sub hl [0, 1, 2] rfl)
      · have z_b_22 := trivial
        have k_23 : v_15.toInt = a1_z := z_eq rfl hz_a1 c_17
        refine lv_iconst (v := 1) X.1 X.2.1 dX1_isDrawn_20 (by decide) ?_
        rw [hQQ]
        exact ret_z X hw hr hlocks (Nat.le_of_ble_eq_true rfl) (Nat.le_of_ble_eq_true rfl) (by decide) ⟨rfl, Or.inl ⟨trivial, rfl⟩⟩ dX1_isDrawn_21
  exact L_1 _ _ _ _ (0) (0) rfl hw ti_0 (by omega) (lv_sub hl [0, 1, 2] rfl)
set_option maxHeartbeats 4000000 in
set_option maxRecDepth 100000 in
theorem k_X1_notDrawnFrom (l : Launch) (G : va_G) (cy : Nat → ClassId) (κ : Nat → Nat) (S : PS) (sz : Nat) (x : Nat) (a1 : Int32) (a1_z : Int) (a2 : Int32) (a2_z : Int) (hG : GX S) (ha_x : At S x 1) (hz_a1 : a1.toInt = a1_z) (hz_a2 : a2.toInt = a2_z) (hp_0 : 0 ≤ a1_z) (hp_1 : a1_z < a2_z) (hp_2 : a2_z ≤ 300) : Ci l yX1_notDrawnFrom wsX1_notDrawnFrom ({ frames := 2, cells := 0, slots := 0, locals := 96 }) G cy κ S sz [.ref x, .int (a1), .int (a2)] (fun (r : Int32) (S9 : PS) => S = S9 ∧ (0 ≤ r.toInt ∧ r.toInt < a2_z)) := by
  refine ent_m (cc := cX1_notDrawnFrom) (maxL := 5) (ret := (some .int)) (by decide) rfl (Nat.le_of_ble_eq_true rfl) ?_
  intro p e s m below meth c ls X hr hlocks hin hw hl hsz
  subst hsz
  have X : Cx p c cX1_notDrawnFrom 5 s [.ref x, .int (a1), .int (a2)].toArray wsX1_notDrawnFrom RX1 m G cy κ (AS S s.heap.size) := X
  have hl : lv_has ls 5 [(0, .ref x), (1, .int (a1)), (2, .int (a2))] := hl
  have rg_a1 : (-2147483648) ≤ a1_z ∧ a1_z ≤ 2147483647 := by rw [← hz_a1]; exact ⟨z_lo _, z_hi _⟩
  have rg_a2 : (-2147483648) ≤ a2_z ∧ a2_z ≤ 2147483647 := by rw [← hz_a2]; exact ⟨z_lo _, z_hi _⟩
  generalize hQQ : MQ below _ _ _ _ _ _ = QQ
  replace hQQ := hQQ.symm
  refine lv_iload_n X.1 X.2.1 dX1_notDrawnFrom_0 rfl (lv_at hl 1 rfl) ?_
  refine lv_istore_n (lv' := [(3, .int (a1)), (0, .ref x), (1, .int (a1)), (2, .int (a2))]) X.1 X.2.1 dX1_notDrawnFrom_1 rfl hl (by decide) rfl (fun ls hl => ?_)
  refine lv_iconst (v := 0) X.1 X.2.1 dX1_notDrawnFrom_2 (by decide) ?_
  refine lv_istore (lv' := [(4, .int 0), (3, .int (a1)), (0, .ref x), (1, .int (a1)), (2, .int (a2))]) X.1 X.2.1 dX1_notDrawnFrom_3 hl (by decide) rfl (fun ls hl => ?_)
  have L_1 : ∀ (n : Nat) (H : Heap) (locs : List Loc) (ls : Array Slot) (i3_2 : Int32) (i3_2_z : Int) (i4_3 : Int32) (i4_3_z : Int), ((5 - i4_3_z).toNat = n) → (Wd G cy (AS S s.heap.size) s.heap S H locs) → (i3_2.toInt = i3_2_z) → (0 ≤ i3_2_z ∧ i3_2_z ≤ 299) → (i4_3.toInt = i4_3_z) → (0 ≤ i4_3_z ∧ i4_3_z ≤ 5) → (i3_2_z < a2_z) → (lv_has ls 5 [(3, .int (i3_2)), (4, .int (i4_3)), (0, .ref x), (1, .int (a1)), (2, .int (a2))]) → W p l e ({ frames := 2, cells := 0, slots := 0, locals := 96 }) s m [.ref x, .int (a1), .int (a2)].toArray below meth c H locs 0 0 QQ (F0 m 5 ls []) := by
    intro n
    induction n using Nat.strongRecOn with
    | ind n ih =>
    intro H locs ls i3_2 i3_2_z i4_3 i4_3_z hn hw hz_i3_2 hr_i3_2 hz_i4_3 hr_i4_3 iv_4 hl
    have rg_5 : (-2147483648) ≤ i3_2_z ∧ i3_2_z ≤ 2147483647 := by rw [← hz_i3_2]; exact ⟨z_lo _, z_hi _⟩
    have rg_6 : (-2147483648) ≤ i4_3_z ∧ i4_3_z ≤ 2147483647 := by rw [← hz_i4_3]; exact ⟨z_lo _, z_hi _⟩
    refine lv_iload X.1 X.2.1 dX1_notDrawnFrom_5 (lv_at hl 1 rfl) ?_
    refine lv_iconst (v := 5) X.1 X.2.1 dX1_notDrawnFrom_7 (by decide) ?_
    refine lv_icmp_ge (tgt := 40) X.1 X.2.1 dX1_notDrawnFrom_8 (by decide) (fun c_7 => ?_) (fun c_7 => ?_)
    · have z_b_8 := trivial
      have k_9 : i4_3_z ≥ 5 := z_le ti_5 hz_i4_3 c_7
      refine lv_iload_n X.1 X.2.1 dX1_notDrawnFrom_40 rfl (lv_at hl 0 rfl) ?_
      rw [hQQ]
      exact ret_i X hw hr hlocks (Nat.le_of_ble_eq_true rfl) (Nat.le_of_ble_eq_true rfl) ⟨rfl, ⟨by rw [hz_i3_2]; omega, by rw [hz_i3_2]; omega⟩⟩ dX1_notDrawnFrom_41
    · have z_b_10 := trivial
      have k_11 : i4_3_z < 5 := z_nle ti_5 hz_i4_3 c_7
      refine lv_aload_n X.1 X.2.1 dX1_notDrawnFrom_11 rfl (lv_at hl 2 rfl) ?_
      refine lv_iload_n X.1 X.2.1 dX1_notDrawnFrom_12 rfl (lv_at hl 0 rfl) ?_
      refine k_i (rm := { frames := 1, cells := 0, slots := 0, locals := 48 }) (av := [.ref x, .int (i3_2)]) X hw (va_runV (As := [.int (i3_2)]) (rest := []) (cfix X) (k_X1_isDrawn l G cy κ S _ x (i3_2) (i3_2_z) hG ha_x hz_i3_2) (cwV 1 X.2.2.2.1 gX1_notDrawnFrom_X1_isDrawn rfl rfl rfl (by decide +kernel) ⟨Nat.le_of_ble_eq_true rfl, Nat.le_of_ble_eq_true rfl⟩) (pre_V X hw _ ha_x rfl (by decide) rfl) rfl rfl hl.1 rfl (lv_room (Nat.le_of_ble_eq_true rfl)) dX1_notDrawnFrom_13 ⟨Nat.le_of_ble_eq_true rfl, Nat.le_of_ble_eq_true rfl⟩) 0 0 (Nat.le_of_ble_eq_true rfl) (Nat.le_of_ble_eq_true rfl) (fun rr_12 S_13 H locs hp hw hfr hnw => ?_)
      obtain ⟨e2, hp⟩ := hp
      subst e2
      rcases hp with ⟨f_14, er_15⟩ | ⟨f_14, er_15⟩ <;> subst er_15
      · have z_b_16 := trivial
        refine lv_if_eq (tgt := 40) X.1 X.2.1 dX1_notDrawnFrom_16 (by decide) (fun c_17 => absurd c_17 (by decide)) (fun c_17 => ?_)
        refine lv_iload_n X.1 X.2.1 dX1_notDrawnFrom_19 rfl (lv_at hl 0 rfl) ?_
        refine lv_iconst (v := 1) X.1 X.2.1 dX1_notDrawnFrom_20 (by decide) ?_
        refine lv_iadd X.1 X.2.1 dX1_notDrawnFrom_21 ?_
        refine lv_topi (fun v_18 ev_18 => ?_)
        have z_19 : v_18.toInt = i3_2_z + 1 := z_add ev_18 hz_i3_2 ti_1 (by omega) (by omega)
        refine lv_iload_n X.1 X.2.1 dX1_notDrawnFrom_22 rfl (lv_at hl 4 rfl) ?_
        refine lv_icmp_ge (tgt := 32) X.1 X.2.1 dX1_notDrawnFrom_23 (by decide) (fun c_20 => ?_) (fun c_20 => ?_)
        · have z_b_21 := trivial
          have k_22 : v_18.toInt ≥ a2_z := z_le hz_a2 rfl c_20
          refine lv_iconst (v := 0) X.1 X.2.1 dX1_notDrawnFrom_32 (by decide) ?_
          refine lv_istore_n (lv' := [(3, .int 0), (4, .int (i4_3)), (0, .ref x), (1, .int (a1)), (2, .int (a2))]) X.1 X.2.1 dX1_notDrawnFrom_33 rfl hl (by decide) rfl (fun ls hl => ?_)
          obtain ⟨x_23, ex_23⟩ : ∃ y : Int32, y = i4_3 + 1 := ⟨_, rfl⟩
          have z_24 : x_23.toInt = i4_3_z + 1 := z_add ex_23 hz_i4_3 ti_1 (by omega) (by omega)
          refine lv_iinc (v := x_23) (lv' := [(4, .int (x_23)), (3, .int 0), (0, .ref x), (1, .int (a1)), (2, .int (a2))]) X.1 X.2.1 dX1_notDrawnFrom_34 hl (k := 1) rfl (by rw [ex_23]; rfl) (by decide) rfl (fun ls hl => ?_)
          refine lv_goto (tgt := 5) X.1 X.2.1 dX1_notDrawnFrom_37 (by decide) ?_
          exact ih _ (by omega) _ _ _ (0) (0) (x_23) (x_23.toInt) rfl hw ti_0 (by omega) rfl (by omega) (by omega) (lv_sub hl [1, 0, 2, 3, 4] rfl)
        · have z_b_25 := trivial
          have k_26 : v_18.toInt < a2_z := z_nle hz_a2 rfl c_20
          refine lv_iload_n X.1 X.2.1 dX1_notDrawnFrom_26 rfl (lv_at hl 0 rfl) ?_
          refine lv_iconst (v := 1) X.1 X.2.1 dX1_notDrawnFrom_27 (by decide) ?_
          refine lv_iadd X.1 X.2.1 dX1_notDrawnFrom_28 ?_
          refine lv_topi (fun v_27 ev_27 => ?_)
          have z_28 : v_27.toInt = i3_2_z + 1 := z_add ev_27 hz_i3_2 ti_1 (by omega) (by omega)
          refine lv_goto (tgt := 33) X.1 X.2.1 dX1_notDrawnFrom_29 (by decide) ?_
          refine lv_istore_n (lv' := [(3, .int (v_27)), (4, .int (i4_3)), (0, .ref x), (1, .int (a1)), (2, .int (a2))]) X.1 X.2.1 dX1_notDrawnFrom_33 rfl hl (by decide) rfl (fun ls hl => ?_)
          obtain ⟨x_29, ex_29⟩ : ∃ y : Int32, y = i4_3 + 1 := ⟨_, rfl⟩
          have z_30 : x_29.toInt = i4_3_z + 1 := z_add ex_29 hz_i4_3 ti_1 (by omega) (by omega)
          refine lv_iinc (v := x_29) (lv' := [(4, .int (x_29)), (3, .int (v_27)), (0, .ref x), (1, .int (a1)), (2, .int (a2))]) X.1 X.2.1 dX1_notDrawnFrom_34 hl (k := 1) rfl (by rw [ex_29]; rfl) (by decide) rfl (fun ls hl => ?_)
          refine lv_goto (tgt := 5) X.1 X.2.1 dX1_notDrawnFrom_37 (by decide) ?_
          exact ih _ (by omega) _ _ _ (v_27) (v_27.toInt) (x_29) (x_29.toInt) rfl hw rfl (by omega) rfl (by omega) (by omega) (lv_sub hl [1, 0, 2, 3, 4] rfl)
      · have z_b_31 := trivial
        refine lv_if_eq (tgt := 40) X.1 X.2.1 dX1_notDrawnFrom_16 (by decide) (fun c_32 => ?_) (fun c_32 => absurd c_32 (by decide))
        refine lv_iload_n X.1 X.2.1 dX1_notDrawnFrom_40 rfl (lv_at hl 0 rfl) ?_
        rw [hQQ]
        exact ret_i X hw hr hlocks (Nat.le_of_ble_eq_true rfl) (Nat.le_of_ble_eq_true rfl) ⟨rfl, ⟨by rw [hz_i3_2]; omega, by rw [hz_i3_2]; omega⟩⟩ dX1_notDrawnFrom_41
  exact L_1 _ _ _ _ (a1) (a1_z) (0) (0) rfl hw hz_a1 (by omega) ti_0 (by omega) (by omega) (lv_sub hl [1, 0, 2, 3, 4] rfl)
set_option maxHeartbeats 4000000 in
set_option maxRecDepth 100000 in
theorem k_X1_waysInOrder (l : Launch) (G : va_G) (cy : Nat → ClassId) (κ : Nat → Nat) (S : PS) (sz : Nat) (a1 : Int32) (a1_z : Int) (a2 : Int32) (a2_z : Int) (hG : GX S) (hz_a1 : a1.toInt = a1_z) (hz_a2 : a2.toInt = a2_z) : Cl l yX1_waysInOrder wsX1_waysInOrder ({ frames := 1, cells := 0, slots := 0, locals := 48 }) G cy κ S sz [.int (a1), .int (a2)] (fun (r : Int64) (S9 : PS) => S = S9 ∧ (True)) := by
  refine ent_m (cc := cX1_waysInOrder) (maxL := 5) (ret := (some .long)) (by decide) rfl (Nat.le_of_ble_eq_true rfl) ?_
  intro p e s m below meth c ls X hr hlocks hin hw hl hsz
  subst hsz
  have X : Cx p c cX1_waysInOrder 5 s [.int (a1), .int (a2)].toArray wsX1_waysInOrder RX1 m G cy κ (AS S s.heap.size) := X
  have hl : lv_has ls 5 [(0, .int (a1)), (1, .int (a2))] := hl
  have rg_a1 : (-2147483648) ≤ a1_z ∧ a1_z ≤ 2147483647 := by rw [← hz_a1]; exact ⟨z_lo _, z_hi _⟩
  have rg_a2 : (-2147483648) ≤ a2_z ∧ a2_z ≤ 2147483647 := by rw [← hz_a2]; exact ⟨z_lo _, z_hi _⟩
  generalize hQQ : MQ below _ _ _ _ _ _ = QQ
  replace hQQ := hQQ.symm
  refine lv_lconst (v := 1) X.1 X.2.1 dX1_waysInOrder_0 (by decide) ?_
  refine lv_lstore_n (lv' := [(2, .long (1)), (0, .int (a1)), (1, .int (a2))]) X.1 X.2.1 dX1_waysInOrder_1 rfl hl (by decide) rfl (fun ls hl => ?_)
  refine lv_iconst (v := 0) X.1 X.2.1 dX1_waysInOrder_2 (by decide) ?_
  refine lv_istore (lv' := [(4, .int 0), (2, .long (1)), (0, .int (a1)), (1, .int (a2))]) X.1 X.2.1 dX1_waysInOrder_3 hl (by decide) rfl (fun ls hl => ?_)
  have L_1 : ∀ (n : Nat) (H : Heap) (locs : List Loc) (ls : Array Slot) (i4_2 : Int32) (i4_2_z : Int) (j_3 : Int64), ((a2_z - i4_2_z).toNat = n) → (Wd G cy (AS S s.heap.size) s.heap S H locs) → (i4_2.toInt = i4_2_z) → (0 ≤ i4_2_z ∧ i4_2_z ≤ 2147483647) → (lv_has ls 5 [(4, .int (i4_2)), (2, .long (j_3)), (0, .int (a1)), (1, .int (a2))]) → W p l e ({ frames := 1, cells := 0, slots := 0, locals := 48 }) s m [.int (a1), .int (a2)].toArray below meth c H locs 0 0 QQ (F0 m 5 ls []) := by
    intro n
    induction n using Nat.strongRecOn with
    | ind n ih =>
    intro H locs ls i4_2 i4_2_z j_3 hn hw hz_i4_2 hr_i4_2 hl
    have rg_4 : (-2147483648) ≤ i4_2_z ∧ i4_2_z ≤ 2147483647 := by rw [← hz_i4_2]; exact ⟨z_lo _, z_hi _⟩
    refine lv_iload X.1 X.2.1 dX1_waysInOrder_5 (lv_at hl 0 rfl) ?_
    refine lv_iload_n X.1 X.2.1 dX1_waysInOrder_7 rfl (lv_at hl 3 rfl) ?_
    refine lv_icmp_ge (tgt := 25) X.1 X.2.1 dX1_waysInOrder_8 (by decide) (fun c_5 => ?_) (fun c_5 => ?_)
    · have z_b_6 := trivial
      have k_7 : i4_2_z ≥ a2_z := z_le hz_a2 hz_i4_2 c_5
      refine lv_lload_n X.1 X.2.1 dX1_waysInOrder_25 rfl (lv_at hl 1 rfl) ?_
      rw [hQQ]
      exact ret_l X hw hr hlocks (Nat.le_of_ble_eq_true rfl) (Nat.le_of_ble_eq_true rfl) ⟨rfl, trivial⟩ dX1_waysInOrder_26
    · have z_b_8 := trivial
      have k_9 : i4_2_z < a2_z := z_nle hz_a2 hz_i4_2 c_5
      refine lv_lload_n X.1 X.2.1 dX1_waysInOrder_11 rfl (lv_at hl 1 rfl) ?_
      refine lv_iload_n X.1 X.2.1 dX1_waysInOrder_12 rfl (lv_at hl 2 rfl) ?_
      refine lv_iload X.1 X.2.1 dX1_waysInOrder_13 (lv_at hl 0 rfl) ?_
      refine lv_isub X.1 X.2.1 dX1_waysInOrder_15 ?_
      refine lv_topi (fun v_10 ev_10 => ?_)
      have rg_11 := And.intro (z_lo v_10) (z_hi v_10)
      refine lv_i2l X.1 X.2.1 dX1_waysInOrder_16 rfl ?_
      refine lv_topl (fun v_12 ev_12 => ?_)
      refine lv_lmul X.1 X.2.1 dX1_waysInOrder_17 ?_
      refine lv_topl (fun v_13 ev_13 => ?_)
      refine lv_lstore_n (lv' := [(2, .long (v_13)), (4, .int (i4_2)), (0, .int (a1)), (1, .int (a2))]) X.1 X.2.1 dX1_waysInOrder_18 rfl hl (by decide) rfl (fun ls hl => ?_)
      obtain ⟨x_14, ex_14⟩ : ∃ y : Int32, y = i4_2 + 1 := ⟨_, rfl⟩
      have z_15 : x_14.toInt = i4_2_z + 1 := z_add ex_14 hz_i4_2 ti_1 (by omega) (by omega)
      refine lv_iinc (v := x_14) (lv' := [(4, .int (x_14)), (2, .long (v_13)), (0, .int (a1)), (1, .int (a2))]) X.1 X.2.1 dX1_waysInOrder_19 hl (k := 1) rfl (by rw [ex_14]; rfl) (by decide) rfl (fun ls hl => ?_)
      refine lv_goto (tgt := 5) X.1 X.2.1 dX1_waysInOrder_22 (by decide) ?_
      exact ih _ (by omega) _ _ _ (x_14) (x_14.toInt) (v_13) rfl hw rfl (by omega) (lv_sub hl [0, 1, 2, 3] rfl)
  exact L_1 _ _ _ _ (0) (0) (1) rfl hw ti_0 (by omega) (lv_sub hl [0, 1, 2, 3] rfl)
set_option maxHeartbeats 4000000 in
set_option maxRecDepth 100000 in
theorem k_X1_boundOf (l : Launch) (G : va_G) (cy : Nat → ClassId) (κ : Nat → Nat) (S : PS) (sz : Nat) (a1 : Int32) (a1_z : Int) (a2 : Int32) (a2_z : Int) (hG : GX S) (hz_a1 : a1.toInt = a1_z) (hz_a2 : a2.toInt = a2_z) : Ci l yX1_boundOf wsX1_boundOf ({ frames := 2, cells := 0, slots := 0, locals := 96 }) G cy κ S sz [.int (a1), .int (a2)] (fun (r : Int32) (S9 : PS) => S = S9 ∧ (True)) := by
  refine ent_m (cc := cX1_boundOf) (maxL := 5) (ret := (some .int)) (by decide) rfl (Nat.le_of_ble_eq_true rfl) ?_
  intro p e s m below meth c ls X hr hlocks hin hw hl hsz
  subst hsz
  have X : Cx p c cX1_boundOf 5 s [.int (a1), .int (a2)].toArray wsX1_boundOf RX1 m G cy κ (AS S s.heap.size) := X
  have hl : lv_has ls 5 [(0, .int (a1)), (1, .int (a2))] := hl
  have rg_a1 : (-2147483648) ≤ a1_z ∧ a1_z ≤ 2147483647 := by rw [← hz_a1]; exact ⟨z_lo _, z_hi _⟩
  have rg_a2 : (-2147483648) ≤ a2_z ∧ a2_z ≤ 2147483647 := by rw [← hz_a2]; exact ⟨z_lo _, z_hi _⟩
  generalize hQQ : MQ below _ _ _ _ _ _ = QQ
  replace hQQ := hQQ.symm
  refine lv_iload_n X.1 X.2.1 dX1_boundOf_0 rfl (lv_at hl 0 rfl) ?_
  refine lv_iload_n X.1 X.2.1 dX1_boundOf_1 rfl (lv_at hl 1 rfl) ?_
  refine k_l (rm := { frames := 1, cells := 0, slots := 0, locals := 48 }) (av := [.int (a1), .int (a2)]) X hw (va_runS (As := [.int (a1), .int (a2)]) (rest := []) (cfix X) (k_X1_waysInOrder l G cy κ S _ (a1) (a1_z) (a2) (a2_z) hG hz_a1 hz_a2) (cwS 2 X.2.2.2.1 gX1_boundOf_X1_waysInOrder rfl rfl rfl (by decide +kernel) ⟨Nat.le_of_ble_eq_true rfl, Nat.le_of_ble_eq_true rfl⟩) (pre_S X hw _) rfl rfl hl.1 rfl (lv_room (Nat.le_of_ble_eq_true rfl)) dX1_boundOf_2 ⟨Nat.le_of_ble_eq_true rfl, Nat.le_of_ble_eq_true rfl⟩) 0 0 (Nat.le_of_ble_eq_true rfl) (Nat.le_of_ble_eq_true rfl) (fun rr_1 S_2 H locs hp hw hfr hnw => ?_)
  obtain ⟨e2, hp⟩ := hp
  subst e2
  refine lv_lstore_n (lv' := [(2, .long (rr_1)), (0, .int (a1)), (1, .int (a2))]) X.1 X.2.1 dX1_boundOf_5 rfl hl (by decide) rfl (fun ls hl => ?_)
  refine lv_iload_n X.1 X.2.1 dX1_boundOf_6 rfl (lv_at hl 1 rfl) ?_
  refine lv_iload_n X.1 X.2.1 dX1_boundOf_7 rfl (lv_at hl 2 rfl) ?_
  refine lv_isub X.1 X.2.1 dX1_boundOf_8 ?_
  refine lv_topi (fun v_3 ev_3 => ?_)
  have rg_4 := And.intro (z_lo v_3) (z_hi v_3)
  refine lv_istore (lv' := [(4, .int (v_3)), (2, .long (rr_1)), (0, .int (a1)), (1, .int (a2))]) X.1 X.2.1 dX1_boundOf_9 hl (by decide) rfl (fun ls hl => ?_)
  have L_5 : ∀ (n : Nat) (H : Heap) (locs : List Loc) (ls : Array Slot) (i4_6 : Int32) (i4_6_z : Int), ((i4_6_z).toNat = n) → (Wd G cy (AS S s.heap.size) s.heap S H locs) → (i4_6.toInt = i4_6_z) → (lv_has ls 5 [(4, .int (i4_6)), (2, .long (rr_1)), (0, .int (a1)), (1, .int (a2))]) → W p l e ({ frames := 2, cells := 0, slots := 0, locals := 96 }) s m [.int (a1), .int (a2)].toArray below meth c H locs 0 0 QQ (F0 m 11 ls []) := by
    intro n
    induction n using Nat.strongRecOn with
    | ind n ih =>
    intro H locs ls i4_6 i4_6_z hn hw hz_i4_6 hl
    have rg_7 : (-2147483648) ≤ i4_6_z ∧ i4_6_z ≤ 2147483647 := by rw [← hz_i4_6]; exact ⟨z_lo _, z_hi _⟩
    refine lv_iload X.1 X.2.1 dX1_boundOf_11 (lv_at hl 0 rfl) ?_
    refine lv_if_le (tgt := 42) X.1 X.2.1 dX1_boundOf_13 (by decide) (fun c_8 => ?_) (fun c_8 => ?_)
    · have z_b_9 := trivial
      have k_10 : i4_6_z ≤ 0 := z_le hz_i4_6 ti_0 c_8
      refine lv_iconst (v := 0) X.1 X.2.1 dX1_boundOf_42 (by decide) ?_
      rw [hQQ]
      exact ret_i X hw hr hlocks (Nat.le_of_ble_eq_true rfl) (Nat.le_of_ble_eq_true rfl) ⟨rfl, trivial⟩ dX1_boundOf_43
    · have z_b_11 := trivial
      have k_12 : i4_6_z > 0 := z_nle hz_i4_6 ti_0 c_8
      refine lv_ldc2 (v := 20) X.1 X.2.1 X.2.2.2.2.1 (X.2.2.2.1 (.constantLong RX1 68 20) (by decide +kernel)) dX1_boundOf_16 ?_
      refine lv_iload_n X.1 X.2.1 dX1_boundOf_19 rfl (lv_at hl 2 rfl) ?_
      refine lv_iload X.1 X.2.1 dX1_boundOf_20 (lv_at hl 0 rfl) ?_
      refine lv_isub X.1 X.2.1 dX1_boundOf_22 ?_
      refine lv_topi (fun v_13 ev_13 => ?_)
      have rg_14 := And.intro (z_lo v_13) (z_hi v_13)
      refine lv_iload_n X.1 X.2.1 dX1_boundOf_23 rfl (lv_at hl 3 rfl) ?_
      refine k_l (rm := { frames := 1, cells := 0, slots := 0, locals := 48 }) (av := [.int (v_13), .int (a2)]) X hw (va_runS (As := [.int (v_13), .int (a2)]) (rest := [.long (20)]) (cfix X) (k_X1_waysInOrder l G cy κ S _ (v_13) (v_13.toInt) (a2) (a2_z) hG rfl hz_a2) (cwS 2 X.2.2.2.1 gX1_boundOf_X1_waysInOrder rfl rfl rfl (by decide +kernel) ⟨Nat.le_of_ble_eq_true rfl, Nat.le_of_ble_eq_true rfl⟩) (pre_S X hw _) rfl rfl hl.1 rfl (lv_room (Nat.le_of_ble_eq_true rfl)) dX1_boundOf_24 ⟨Nat.le_of_ble_eq_true rfl, Nat.le_of_ble_eq_true rfl⟩) 0 0 (Nat.le_of_ble_eq_true rfl) (Nat.le_of_ble_eq_true rfl) (fun rr_15 S_16 H locs hp hw hfr hnw => ?_)
      obtain ⟨e2, hp⟩ := hp
      subst e2
      refine lv_lmul X.1 X.2.1 dX1_boundOf_27 ?_
      refine lv_topl (fun v_17 ev_17 => ?_)
      refine lv_lload_n X.1 X.2.1 dX1_boundOf_28 rfl (lv_at hl 1 rfl) ?_
      refine W.lcmp X.1 X.2.1 dX1_boundOf_29 ?_
      refine lv_topi (fun v_18 ev_18 => ?_)
      have rg_19 := And.intro (z_lo v_18) (z_hi v_18)
      refine lv_if_lt (tgt := 36) X.1 X.2.1 dX1_boundOf_30 (by decide) (fun c_20 => ?_) (fun c_20 => ?_)
      · have z_b_21 := trivial
        have k_22 : v_18.toInt < 0 := z_lt rfl ti_0 c_20
        obtain ⟨x_23, ex_23⟩ : ∃ y : Int32, y = i4_6 + (-1) := ⟨_, rfl⟩
        have z_24 : x_23.toInt = i4_6_z + (-1) := z_add ex_23 hz_i4_6 ti_m1 (by omega) (by omega)
        refine lv_iinc (v := x_23) (lv' := [(4, .int (x_23)), (2, .long (rr_1)), (0, .int (a1)), (1, .int (a2))]) X.1 X.2.1 dX1_boundOf_36 hl (k := 0) rfl (by rw [ex_23]; rfl) (by decide) rfl (fun ls hl => ?_)
        refine lv_goto (tgt := 11) X.1 X.2.1 dX1_boundOf_39 (by decide) ?_
        exact ih _ (by omega) _ _ _ (x_23) (x_23.toInt) rfl hw rfl (lv_sub hl [0, 1, 2, 3] rfl)
      · have z_b_25 := trivial
        have k_26 : v_18.toInt ≥ 0 := z_nlt rfl ti_0 c_20
        refine lv_iload X.1 X.2.1 dX1_boundOf_33 (lv_at hl 0 rfl) ?_
        rw [hQQ]
        exact ret_i X hw hr hlocks (Nat.le_of_ble_eq_true rfl) (Nat.le_of_ble_eq_true rfl) ⟨rfl, trivial⟩ dX1_boundOf_35
  exact L_5 _ _ _ _ (v_3) (v_3.toInt) rfl hw rfl (lv_sub hl [0, 1, 2, 3] rfl)
set_option maxHeartbeats 4000000 in
set_option maxRecDepth 100000 in
theorem k_X1_gradeOfOff (l : Launch) (G : va_G) (cy : Nat → ClassId) (κ : Nat → Nat) (S : PS) (sz : Nat) (x : Nat) (hG : GX S) (ha_x : At S x 1) : Ci l yX1_gradeOfOff wsX1_gradeOfOff ({ frames := 1, cells := 0, slots := 0, locals := 48 }) G cy κ S sz [.ref x] (fun (r : Int32) (S9 : PS) => S = S9 ∧ (0 ≤ r.toInt ∧ r.toInt ≤ 3)) := by
  refine ent_m (cc := cX1_gradeOfOff) (maxL := 1) (ret := (some .int)) (by decide) rfl (Nat.le_of_ble_eq_true rfl) ?_
  intro p e s m below meth c ls X hr hlocks hin hw hl hsz
  subst hsz
  have X : Cx p c cX1_gradeOfOff 1 s [.ref x].toArray wsX1_gradeOfOff RX1 m G cy κ (AS S s.heap.size) := X
  have hl : lv_has ls 1 [(0, .ref x)] := hl
  refine lv_aload_n X.1 X.2.1 dX1_gradeOfOff_0 rfl (lv_at hl 0 rfl) ?_
  obtain ⟨v_1, ev_1⟩ : ∃ v, pI S 102 x = v := ⟨_, rfl⟩
  have rg_3 := And.intro (z_lo v_1) (z_hi v_1)
  refine r_getI (g := 102) (x := v_1) X hw ha_x rfl 2 ev_1 (by decide) rfl inn_X1_gradeOfOff_1 (by decide) (X.2.2.2.1 (.fieldLink RX1 19 "SilkMill$Draw" "off" "I") (by decide +kernel)) rfl (gv_102 _ _) dX1_gradeOfOff_1 ?_
  refine lv_iconst (v := 3) X.1 X.2.1 dX1_gradeOfOff_4 (by decide) ?_
  refine lv_icmp_gt (tgt := 10) X.1 X.2.1 dX1_gradeOfOff_5 (by decide) (fun c_4 => ?_) (fun c_4 => ?_)
  · have z_b_5 := trivial
    have k_6 : v_1.toInt > 3 := z_lt ti_3 rfl c_4
    refine lv_aload_n X.1 X.2.1 dX1_gradeOfOff_10 rfl (lv_at hl 0 rfl) ?_
    refine r_getI (g := 102) (x := v_1) X hw ha_x rfl 2 ev_1 (by decide) rfl inn_X1_gradeOfOff_1 (by decide) (X.2.2.2.1 (.fieldLink RX1 19 "SilkMill$Draw" "off" "I") (by decide +kernel)) rfl (gv_102 _ _) dX1_gradeOfOff_11 ?_
    refine lv_bipush (v := 8) X.1 X.2.1 dX1_gradeOfOff_14 (by decide) ?_
    refine lv_icmp_gt (tgt := 21) X.1 X.2.1 dX1_gradeOfOff_16 (by decide) (fun c_7 => ?_) (fun c_7 => ?_)
    · have z_b_8 := trivial
      have k_9 : v_1.toInt > 8 := z_lt ti_8 rfl c_7
      refine lv_aload_n X.1 X.2.1 dX1_gradeOfOff_21 rfl (lv_at hl 0 rfl) ?_
      refine r_getI (g := 102) (x := v_1) X hw ha_x rfl 2 ev_1 (by decide) rfl inn_X1_gradeOfOff_1 (by decide) (X.2.2.2.1 (.fieldLink RX1 19 "SilkMill$Draw" "off" "I") (by decide +kernel)) rfl (gv_102 _ _) dX1_gradeOfOff_22 ?_
      refine lv_bipush (v := 20) X.1 X.2.1 dX1_gradeOfOff_25 (by decide) ?_
      refine lv_icmp_gt (tgt := 34) X.1 X.2.1 dX1_gradeOfOff_27 (by decide) (fun c_10 => ?_) (fun c_10 => ?_)
      · have z_b_11 := trivial
        have k_12 : v_1.toInt > 20 := z_lt ti_20 rfl c_10
        refine lv_iconst (v := 3) X.1 X.2.1 dX1_gradeOfOff_34 (by decide) ?_
        exact ret_i X hw hr hlocks (Nat.le_of_ble_eq_true rfl) (Nat.le_of_ble_eq_true rfl) ⟨rfl, ⟨by rw [ti_3]; omega, by rw [ti_3]; omega⟩⟩ dX1_gradeOfOff_35
      · have z_b_13 := trivial
        have k_14 : v_1.toInt ≤ 20 := z_nlt ti_20 rfl c_10
        refine lv_iconst (v := 2) X.1 X.2.1 dX1_gradeOfOff_30 (by decide) ?_
        refine lv_goto (tgt := 35) X.1 X.2.1 dX1_gradeOfOff_31 (by decide) ?_
        exact ret_i X hw hr hlocks (Nat.le_of_ble_eq_true rfl) (Nat.le_of_ble_eq_true rfl) ⟨rfl, ⟨by rw [ti_2]; omega, by rw [ti_2]; omega⟩⟩ dX1_gradeOfOff_35
    · have z_b_15 := trivial
      have k_16 : v_1.toInt ≤ 8 := z_nlt ti_8 rfl c_7
      refine lv_iconst (v := 1) X.1 X.2.1 dX1_gradeOfOff_19 (by decide) ?_
      exact ret_i X hw hr hlocks (Nat.le_of_ble_eq_true rfl) (Nat.le_of_ble_eq_true rfl) ⟨rfl, ⟨by rw [ti_1]; omega, by rw [ti_1]; omega⟩⟩ dX1_gradeOfOff_20
  · have z_b_17 := trivial
    have k_18 : v_1.toInt ≤ 3 := z_nlt ti_3 rfl c_4
    refine lv_iconst (v := 0) X.1 X.2.1 dX1_gradeOfOff_8 (by decide) ?_
    exact ret_i X hw hr hlocks (Nat.le_of_ble_eq_true rfl) (Nat.le_of_ble_eq_true rfl) ⟨rfl, ⟨by rw [ti_0]; omega, by rw [ti_0]; omega⟩⟩ dX1_gradeOfOff_9
set_option maxHeartbeats 4000000 in
set_option maxRecDepth 100000 in
theorem k_X1_drawFrom (l : Launch) (G : va_G) (cy : Nat → ClassId) (κ : Nat → Nat) (S : PS) (sz : Nat) (x : Nat) (s1 : Nat) (a1 : Int32) (a1_z : Int) (a2 : Int32) (a2_z : Int) (hG : GX S) (ha_x : At S x 1) (ha_s1 : At S s1 7) (hz_a1 : a1.toInt = a1_z) (hz_a2 : a2.toInt = a2_z) : Cv l yX1_drawFrom wsX1_drawFrom ({ frames := 3, cells := 0, slots := 0, locals := 144 }) G cy κ S sz [.ref x, .ref s1, .int (a1), .int (a2)] (fun (S9 : PS) => Ok eDR S S9 ∧ (True)) := by
  refine ent_m (cc := cX1_drawFrom) (maxL := 7) (ret := none) (by decide) rfl (Nat.le_of_ble_eq_true rfl) ?_
  intro p e s m below meth c ls X hr hlocks hin hw hl hsz
  subst hsz
  have X : Cx p c cX1_drawFrom 7 s [.ref x, .ref s1, .int (a1), .int (a2)].toArray wsX1_drawFrom RX1 m G cy κ (AS S s.heap.size) := X
  have hl : lv_has ls 7 [(0, .ref x), (1, .ref s1), (2, .int (a1)), (3, .int (a2))] := hl
  have rg_a1 : (-2147483648) ≤ a1_z ∧ a1_z ≤ 2147483647 := by rw [← hz_a1]; exact ⟨z_lo _, z_hi _⟩
  have rg_a2 : (-2147483648) ≤ a2_z ∧ a2_z ≤ 2147483647 := by rw [← hz_a2]; exact ⟨z_lo _, z_hi _⟩
  have hO : Ok eDR S S := Ok.rf hG
  generalize hQQ : MQ below _ _ _ _ _ _ = QQ
  replace hQQ := hQQ.symm
  refine lv_aload_n X.1 X.2.1 dX1_drawFrom_0 rfl (lv_at hl 0 rfl) ?_
  refine lv_iconst (v := 0) X.1 X.2.1 dX1_drawFrom_1 (by decide) ?_
  refine r_putI (v := 0) X hw ha_x rfl 1 101 tyX1 (by decide) rfl inn_X1_drawFrom_1 tyX1_ok nmX1 (by decide) (X.2.2.2.1 (.fieldLink RX1 15 "SilkMill$Draw" "size" "I") (by decide +kernel)) rfl (Or.inl rfl) rfl rfl (Nat.le_of_ble_eq_true rfl) (st_101 _ _) dX1_drawFrom_2 (fun H locs hw => ?_)
  obtain ⟨S_1, eS_1⟩ : ∃ T, T = sI S 101 x (0) := ⟨_, rfl⟩
  rw [← eS_1] at hw
  have hO_2 : Ok eDR S S_1 := hO.sI eS_1 (by decide +kernel) (uI_1_101 hO.1 ha_x (by rw [ti_0]; omega) (by rw [ti_0]; omega))
  have h_3 : pI S_1 101 x = 0 := tI_sIs eS_1
  refine lv_aload_n X.1 X.2.1 dX1_drawFrom_5 rfl (lv_at hl 0 rfl) ?_
  refine lv_iconst (v := 0) X.1 X.2.1 dX1_drawFrom_6 (by decide) ?_
  have t_4 : At S_1 x 1 := tAt_sI eS_1 ha_x
  refine r_putI (v := 0) X hw t_4 rfl 2 102 tyX1 (by decide) rfl inn_X1_drawFrom_1 tyX1_ok nmX1 (by decide) (X.2.2.2.1 (.fieldLink RX1 19 "SilkMill$Draw" "off" "I") (by decide +kernel)) rfl (Or.inl rfl) rfl rfl (Nat.le_of_ble_eq_true rfl) (st_102 _ _) dX1_drawFrom_7 (fun H locs hw => ?_)
  obtain ⟨S_5, eS_5⟩ : ∃ T, T = sI S_1 102 x (0) := ⟨_, rfl⟩
  rw [← eS_5] at hw
  have hO_6 : Ok eDR S S_5 := hO_2.sI eS_5 (by decide +kernel) (uI_1_102 hO_2.1 t_4)
  have h_7 : pI S_5 102 x = 0 := tI_sIs eS_5
  refine lv_iload_n X.1 X.2.1 dX1_drawFrom_10 rfl (lv_at hl 2 rfl) ?_
  refine lv_istore (lv' := [(4, .int (a1)), (0, .ref x), (1, .ref s1), (2, .int (a1)), (3, .int (a2))]) X.1 X.2.1 dX1_drawFrom_11 hl (by decide) rfl (fun ls hl => ?_)
  refine lv_iconst (v := 0) X.1 X.2.1 dX1_drawFrom_13 (by decide) ?_
  refine lv_istore (lv' := [(5, .int 0), (4, .int (a1)), (0, .ref x), (1, .ref s1), (2, .int (a1)), (3, .int (a2))]) X.1 X.2.1 dX1_drawFrom_14 hl (by decide) rfl (fun ls hl => ?_)
  have L_8 : ∀ (n : Nat) (T_11 : PS) (H : Heap) (locs : List Loc) (ls : Array Slot) (i4_9 : Int32) (i4_9_z : Int) (i5_10 : Int32) (i5_10_z : Int), ((5 - i5_10_z).toNat = n) → (Wd G cy (AS S s.heap.size) s.heap T_11 H locs) → (i4_9.toInt = i4_9_z) → (i5_10.toInt = i5_10_z) → (0 ≤ i5_10_z ∧ i5_10_z ≤ 5) → (At T_11 s1 7) → (At T_11 x 1) → (Ok eDR S T_11) → ((pI T_11 101 x).toInt = i5_10_z) → (lv_has ls 7 [(4, .int (i4_9)), (5, .int (i5_10)), (0, .ref x), (1, .ref s1), (2, .int (a1)), (3, .int (a2))]) → W p l e ({ frames := 3, cells := 0, slots := 0, locals := 144 }) s m [.ref x, .ref s1, .int (a1), .int (a2)].toArray below meth c H locs 0 0 QQ (F0 m 16 ls []) := by
    intro n
    induction n using Nat.strongRecOn with
    | ind n ih =>
    intro T_11 H locs ls i4_9 i4_9_z i5_10 i5_10_z hn hw hz_i4_9 hz_i5_10 hr_i5_10 ha_s1_L_12 ha_x_L_13 hO_T_11 iv_14 hl
    have rg_15 : (-2147483648) ≤ i4_9_z ∧ i4_9_z ≤ 2147483647 := by rw [← hz_i4_9]; exact ⟨z_lo _, z_hi _⟩
    have rg_16 : (-2147483648) ≤ i5_10_z ∧ i5_10_z ≤ 2147483647 := by rw [← hz_i5_10]; exact ⟨z_lo _, z_hi _⟩
    obtain ⟨v_17, ev_17⟩ : ∃ v, pI T_11 101 x = v := ⟨_, rfl⟩
    have rg_18 := gI_1_101 hO_T_11.1 ha_x_L_13; rw [ev_17] at rg_18
    have pz_19 : (pI T_11 101 x).toInt = v_17.toInt := by rw [ev_17]
    have pz_20 : (pI T_11 101 x).toInt = v_17.toInt := (congrArg Int32.toInt ev_17).trans rfl
    refine lv_iload X.1 X.2.1 dX1_drawFrom_16 (lv_at hl 1 rfl) ?_
    refine lv_iload_n X.1 X.2.1 dX1_drawFrom_18 rfl (lv_at hl 5 rfl) ?_
    refine lv_icmp_ge (tgt := 127) X.1 X.2.1 dX1_drawFrom_19 (by decide) (fun c_21 => ?_) (fun c_21 => ?_)
    · have z_b_22 := trivial
      have k_23 : i5_10_z ≥ a2_z := z_le hz_a2 hz_i5_10 c_21
      refine lv_aload_n X.1 X.2.1 dX1_drawFrom_127 rfl (lv_at hl 2 rfl) ?_
      refine lv_aload_n X.1 X.2.1 dX1_drawFrom_128 rfl (lv_at hl 3 rfl) ?_
      obtain ⟨q_24, h_25, h_26⟩ := gQ_7_703 hO_T_11.1 ha_s1_L_12
      refine r_getR (g := 703) X hw ha_s1_L_12 rfl 3 h_25 (by decide) rfl inn_X1_drawFrom_7 (by decide) (X.2.2.2.1 (.fieldLink RX1 22 "SilkMill$Skein" "strand" "LSilkMill$Strand;") (by decide +kernel)) rfl (gv_703 _ _) dX1_drawFrom_129 ?_
      obtain ⟨v_28, ev_28⟩ : ∃ v, pI T_11 902 q_24 = v := ⟨_, rfl⟩
      have rg_29 := gI_9_902 hO_T_11.1 h_26; rw [ev_28] at rg_29
      have pz_30 : (pI T_11 902 q_24).toInt = v_28.toInt := by rw [ev_28]
      refine r_getI (g := 902) (x := v_28) X hw h_26 rfl 2 ev_28 (by decide) rfl inn_X1_drawFrom_9 (by decide) (X.2.2.2.1 (.fieldLink RX1 28 "SilkMill$Strand" "metres" "I") (by decide +kernel)) rfl (gv_902 _ _) dX1_drawFrom_132 ?_
      refine lv_aload_n X.1 X.2.1 dX1_drawFrom_135 rfl (lv_at hl 2 rfl) ?_
      refine r_getI (g := 101) (x := v_17) X hw ha_x_L_13 rfl 1 ev_17 (by decide) rfl inn_X1_drawFrom_1 (by decide) (X.2.2.2.1 (.fieldLink RX1 15 "SilkMill$Draw" "size" "I") (by decide +kernel)) rfl (gv_101 _ _) dX1_drawFrom_136 ?_
      refine k_i (rm := { frames := 2, cells := 0, slots := 0, locals := 96 }) (av := [.int (v_28), .int (v_17)]) X hw (va_runS (As := [.int (v_28), .int (v_17)]) (rest := [.ref x]) (cfix X) (k_X1_boundOf l G cy κ T_11 _ (v_28) (v_28.toInt) (v_17) (v_17.toInt) hO_T_11.1 rfl rfl) (cwS 2 X.2.2.2.1 gX1_drawFrom_X1_boundOf rfl rfl rfl (by decide +kernel) ⟨Nat.le_of_ble_eq_true rfl, Nat.le_of_ble_eq_true rfl⟩) (pre_S X hw _) rfl rfl hl.1 rfl (lv_room (Nat.le_of_ble_eq_true rfl)) dX1_drawFrom_139 ⟨Nat.le_of_ble_eq_true rfl, Nat.le_of_ble_eq_true rfl⟩) 0 0 (Nat.le_of_ble_eq_true rfl) (Nat.le_of_ble_eq_true rfl) (fun rr_31 S_32 H locs hp hw hfr hnw => ?_)
      obtain ⟨e2, hp⟩ := hp
      subst e2
      have rg_33 := And.intro (z_lo rr_31) (z_hi rr_31)
      refine r_putI (v := rr_31) X hw ha_x_L_13 rfl 3 103 tyX1 (by decide) rfl inn_X1_drawFrom_1 tyX1_ok nmX1 (by decide) (X.2.2.2.1 (.fieldLink RX1 57 "SilkMill$Draw" "bound" "I") (by decide +kernel)) rfl (Or.inl rfl) rfl rfl (Nat.le_of_ble_eq_true rfl) (st_103 _ _) dX1_drawFrom_142 (fun H locs hw => ?_)
      obtain ⟨S_34, eS_34⟩ : ∃ T, T = sI T_11 103 x (rr_31) := ⟨_, rfl⟩
      rw [← eS_34] at hw
      have hO_35 : Ok eDR S S_34 := hO_T_11.sI eS_34 (by decide +kernel) (uI_1_103 hO_T_11.1 ha_x_L_13)
      have h_36 : pI S_34 103 x = rr_31 := tI_sIs eS_34
      rw [hQQ]
      exact ret_v X hw hr hlocks (Nat.le_of_ble_eq_true rfl) (Nat.le_of_ble_eq_true rfl) ⟨hO_35, trivial⟩ dX1_drawFrom_145
    · have z_b_37 := trivial
      have k_38 : i5_10_z < a2_z := z_nle hz_a2 hz_i5_10 c_21
      refine lv_iload X.1 X.2.1 dX1_drawFrom_22 (lv_at hl 1 rfl) ?_
      refine lv_iconst (v := 5) X.1 X.2.1 dX1_drawFrom_24 (by decide) ?_
      refine lv_icmp_ge (tgt := 127) X.1 X.2.1 dX1_drawFrom_25 (by decide) (fun c_39 => ?_) (fun c_39 => ?_)
      · have z_b_40 := trivial
        have k_41 : i5_10_z ≥ 5 := z_le ti_5 hz_i5_10 c_39
        refine lv_aload_n X.1 X.2.1 dX1_drawFrom_127 rfl (lv_at hl 2 rfl) ?_
        refine lv_aload_n X.1 X.2.1 dX1_drawFrom_128 rfl (lv_at hl 3 rfl) ?_
        obtain ⟨q_42, h_43, h_44⟩ := gQ_7_703 hO_T_11.1 ha_s1_L_12
        refine r_getR (g := 703) X hw ha_s1_L_12 rfl 3 h_43 (by decide) rfl inn_X1_drawFrom_7 (by decide) (X.2.2.2.1 (.fieldLink RX1 22 "SilkMill$Skein" "strand" "LSilkMill$Strand;") (by decide +kernel)) rfl (gv_703 _ _) dX1_drawFrom_129 ?_
        obtain ⟨v_46, ev_46⟩ : ∃ v, pI T_11 902 q_42 = v := ⟨_, rfl⟩
        have rg_47 := gI_9_902 hO_T_11.1 h_44; rw [ev_46] at rg_47
        have pz_48 : (pI T_11 902 q_42).toInt = v_46.toInt := by rw [ev_46]
        refine r_getI (g := 902) (x := v_46) X hw h_44 rfl 2 ev_46 (by decide) rfl inn_X1_drawFrom_9 (by decide) (X.2.2.2.1 (.fieldLink RX1 28 "SilkMill$Strand" "metres" "I") (by decide +kernel)) rfl (gv_902 _ _) dX1_drawFrom_132 ?_
        refine lv_aload_n X.1 X.2.1 dX1_drawFrom_135 rfl (lv_at hl 2 rfl) ?_
        refine r_getI (g := 101) (x := v_17) X hw ha_x_L_13 rfl 1 ev_17 (by decide) rfl inn_X1_drawFrom_1 (by decide) (X.2.2.2.1 (.fieldLink RX1 15 "SilkMill$Draw" "size" "I") (by decide +kernel)) rfl (gv_101 _ _) dX1_drawFrom_136 ?_
        refine k_i (rm := { frames := 2, cells := 0, slots := 0, locals := 96 }) (av := [.int (v_46), .int (v_17)]) X hw (va_runS (As := [.int (v_46), .int (v_17)]) (rest := [.ref x]) (cfix X) (k_X1_boundOf l G cy κ T_11 _ (v_46) (v_46.toInt) (v_17) (v_17.toInt) hO_T_11.1 rfl rfl) (cwS 2 X.2.2.2.1 gX1_drawFrom_X1_boundOf rfl rfl rfl (by decide +kernel) ⟨Nat.le_of_ble_eq_true rfl, Nat.le_of_ble_eq_true rfl⟩) (pre_S X hw _) rfl rfl hl.1 rfl (lv_room (Nat.le_of_ble_eq_true rfl)) dX1_drawFrom_139 ⟨Nat.le_of_ble_eq_true rfl, Nat.le_of_ble_eq_true rfl⟩) 0 0 (Nat.le_of_ble_eq_true rfl) (Nat.le_of_ble_eq_true rfl) (fun rr_49 S_50 H locs hp hw hfr hnw => ?_)
        obtain ⟨e2, hp⟩ := hp
        subst e2
        have rg_51 := And.intro (z_lo rr_49) (z_hi rr_49)
        refine r_putI (v := rr_49) X hw ha_x_L_13 rfl 3 103 tyX1 (by decide) rfl inn_X1_drawFrom_1 tyX1_ok nmX1 (by decide) (X.2.2.2.1 (.fieldLink RX1 57 "SilkMill$Draw" "bound" "I") (by decide +kernel)) rfl (Or.inl rfl) rfl rfl (Nat.le_of_ble_eq_true rfl) (st_103 _ _) dX1_drawFrom_142 (fun H locs hw => ?_)
        obtain ⟨S_52, eS_52⟩ : ∃ T, T = sI T_11 103 x (rr_49) := ⟨_, rfl⟩
        rw [← eS_52] at hw
        have hO_53 : Ok eDR S S_52 := hO_T_11.sI eS_52 (by decide +kernel) (uI_1_103 hO_T_11.1 ha_x_L_13)
        have h_54 : pI S_52 103 x = rr_49 := tI_sIs eS_52
        rw [hQQ]
        exact ret_v X hw hr hlocks (Nat.le_of_ble_eq_true rfl) (Nat.le_of_ble_eq_true rfl) ⟨hO_53, trivial⟩ dX1_drawFrom_145
      · have z_b_55 := trivial
        have k_56 : i5_10_z < 5 := z_nle ti_5 hz_i5_10 c_39
        refine lv_aload_n X.1 X.2.1 dX1_drawFrom_28 rfl (lv_at hl 3 rfl) ?_
        obtain ⟨q_57, h_58, h_59⟩ := gQ_7_703 hO_T_11.1 ha_s1_L_12
        refine r_getR (g := 703) X hw ha_s1_L_12 rfl 3 h_58 (by decide) rfl inn_X1_drawFrom_7 (by decide) (X.2.2.2.1 (.fieldLink RX1 22 "SilkMill$Skein" "strand" "LSilkMill$Strand;") (by decide +kernel)) rfl (gv_703 _ _) dX1_drawFrom_29 ?_
        obtain ⟨v_61, ev_61⟩ : ∃ v, pI T_11 902 q_57 = v := ⟨_, rfl⟩
        have rg_62 := gI_9_902 hO_T_11.1 h_59; rw [ev_61] at rg_62
        have pz_63 : (pI T_11 902 q_57).toInt = v_61.toInt := by rw [ev_61]
        refine r_getI (g := 902) (x := v_61) X hw h_59 rfl 2 ev_61 (by decide) rfl inn_X1_drawFrom_9 (by decide) (X.2.2.2.1 (.fieldLink RX1 28 "SilkMill$Strand" "metres" "I") (by decide +kernel)) rfl (gv_902 _ _) dX1_drawFrom_32 ?_
        refine lv_if_le (tgt := 127) X.1 X.2.1 dX1_drawFrom_35 (by decide) (fun c_64 => ?_) (fun c_64 => ?_)
        · have z_b_65 := trivial
          have k_66 : v_61.toInt ≤ 0 := z_le rfl ti_0 c_64
          refine lv_aload_n X.1 X.2.1 dX1_drawFrom_127 rfl (lv_at hl 2 rfl) ?_
          refine lv_aload_n X.1 X.2.1 dX1_drawFrom_128 rfl (lv_at hl 3 rfl) ?_
          refine r_getR (g := 703) X hw ha_s1_L_12 rfl 3 h_58 (by decide) rfl inn_X1_drawFrom_7 (by decide) (X.2.2.2.1 (.fieldLink RX1 22 "SilkMill$Skein" "strand" "LSilkMill$Strand;") (by decide +kernel)) rfl (gv_703 _ _) dX1_drawFrom_129 ?_
          refine r_getI (g := 902) (x := v_61) X hw h_59 rfl 2 ev_61 (by decide) rfl inn_X1_drawFrom_9 (by decide) (X.2.2.2.1 (.fieldLink RX1 28 "SilkMill$Strand" "metres" "I") (by decide +kernel)) rfl (gv_902 _ _) dX1_drawFrom_132 ?_
          refine lv_aload_n X.1 X.2.1 dX1_drawFrom_135 rfl (lv_at hl 2 rfl) ?_
          refine r_getI (g := 101) (x := v_17) X hw ha_x_L_13 rfl 1 ev_17 (by decide) rfl inn_X1_drawFrom_1 (by decide) (X.2.2.2.1 (.fieldLink RX1 15 "SilkMill$Draw" "size" "I") (by decide +kernel)) rfl (gv_101 _ _) dX1_drawFrom_136 ?_
          refine k_i (rm := { frames := 2, cells := 0, slots := 0, locals := 96 }) (av := [.int (v_61), .int (v_17)]) X hw (va_runS (As := [.int (v_61), .int (v_17)]) (rest := [.ref x]) (cfix X) (k_X1_boundOf l G cy κ T_11 _ (v_61) (v_61.toInt) (v_17) (v_17.toInt) hO_T_11.1 rfl rfl) (cwS 2 X.2.2.2.1 gX1_drawFrom_X1_boundOf rfl rfl rfl (by decide +kernel) ⟨Nat.le_of_ble_eq_true rfl, Nat.le_of_ble_eq_true rfl⟩) (pre_S X hw _) rfl rfl hl.1 rfl (lv_room (Nat.le_of_ble_eq_true rfl)) dX1_drawFrom_139 ⟨Nat.le_of_ble_eq_true rfl, Nat.le_of_ble_eq_true rfl⟩) 0 0 (Nat.le_of_ble_eq_true rfl) (Nat.le_of_ble_eq_true rfl) (fun rr_67 S_68 H locs hp hw hfr hnw => ?_)
          obtain ⟨e2, hp⟩ := hp
          subst e2
          have rg_69 := And.intro (z_lo rr_67) (z_hi rr_67)
          refine r_putI (v := rr_67) X hw ha_x_L_13 rfl 3 103 tyX1 (by decide) rfl inn_X1_drawFrom_1 tyX1_ok nmX1 (by decide) (X.2.2.2.1 (.fieldLink RX1 57 "SilkMill$Draw" "bound" "I") (by decide +kernel)) rfl (Or.inl rfl) rfl rfl (Nat.le_of_ble_eq_true rfl) (st_103 _ _) dX1_drawFrom_142 (fun H locs hw => ?_)
          obtain ⟨S_70, eS_70⟩ : ∃ T, T = sI T_11 103 x (rr_67) := ⟨_, rfl⟩
          rw [← eS_70] at hw
          have hO_71 : Ok eDR S S_70 := hO_T_11.sI eS_70 (by decide +kernel) (uI_1_103 hO_T_11.1 ha_x_L_13)
          have h_72 : pI S_70 103 x = rr_67 := tI_sIs eS_70
          rw [hQQ]
          exact ret_v X hw hr hlocks (Nat.le_of_ble_eq_true rfl) (Nat.le_of_ble_eq_true rfl) ⟨hO_71, trivial⟩ dX1_drawFrom_145
        · have z_b_73 := trivial
          have k_74 : v_61.toInt > 0 := z_nle rfl ti_0 c_64
          refine lv_iload X.1 X.2.1 dX1_drawFrom_38 (lv_at hl 0 rfl) ?_
          refine k_i (rm := { frames := 1, cells := 0, slots := 0, locals := 48 }) (av := [.int (i4_9)]) X hw (va_runSN (As := [.int (i4_9)]) (rest := []) (cfix X) (k_X11_next l G cy κ T_11 _ (i4_9) (i4_9_z) hO_T_11.1 hz_i4_9) ⟨(va_cnB (host := RX11) 1 X.2.2.2.1 gX1_drawFrom_X11_next_n32 rfl rfl rfl (X.2.2.2.2.2.2.2.1.2.1 (RX1, 32, yX11_next) (by decide +kernel)) (X.2.2.2.1 (.initialized RX11) (by decide +kernel)) (by decide +kernel) ⟨Nat.le_of_ble_eq_true rfl, Nat.le_of_ble_eq_true rfl⟩), (X.2.2.2.1 (.static yX11_next) (by decide +kernel)), trivial⟩ (pre_S X hw _) rfl rfl hl.1 rfl (lv_room (Nat.le_of_ble_eq_true rfl)) dX1_drawFrom_40 ⟨Nat.le_of_ble_eq_true rfl, Nat.le_of_ble_eq_true rfl⟩) 0 0 (Nat.le_of_ble_eq_true rfl) (Nat.le_of_ble_eq_true rfl) (fun rr_75 S_76 H locs hp hw hfr hnw => ?_)
          obtain ⟨e2, hp⟩ := hp
          subst e2
          have rg_77 := And.intro (z_lo rr_75) (z_hi rr_75)
          refine lv_istore (lv' := [(4, .int (rr_75)), (5, .int (i5_10)), (0, .ref x), (1, .ref s1), (2, .int (a1)), (3, .int (a2))]) X.1 X.2.1 dX1_drawFrom_43 hl (by decide) rfl (fun ls hl => ?_)
          refine lv_aload_n X.1 X.2.1 dX1_drawFrom_45 rfl (lv_at hl 2 rfl) ?_
          refine lv_iload X.1 X.2.1 dX1_drawFrom_46 (lv_at hl 0 rfl) ?_
          refine lv_bipush (v := 16) X.1 X.2.1 dX1_drawFrom_48 (by decide) ?_
          refine lv_iushr X.1 X.2.1 dX1_drawFrom_50 rfl ?_
          refine lv_topi (fun v_78 ev_78 => ?_)
          have z_79 : 0 ≤ v_78.toInt ∧ v_78.toInt ≤ 65535 := z_ushr16 ev_78
          refine lv_aload_n X.1 X.2.1 dX1_drawFrom_51 rfl (lv_at hl 3 rfl) ?_
          refine r_getR (g := 703) X hw ha_s1_L_12 rfl 3 h_58 (by decide) rfl inn_X1_drawFrom_7 (by decide) (X.2.2.2.1 (.fieldLink RX1 22 "SilkMill$Skein" "strand" "LSilkMill$Strand;") (by decide +kernel)) rfl (gv_703 _ _) dX1_drawFrom_52 ?_
          refine r_getI (g := 902) (x := v_61) X hw h_59 rfl 2 ev_61 (by decide) rfl inn_X1_drawFrom_9 (by decide) (X.2.2.2.1 (.fieldLink RX1 28 "SilkMill$Strand" "metres" "I") (by decide +kernel)) rfl (gv_902 _ _) dX1_drawFrom_55 ?_
          refine lv_irem X.1 X.2.1 dX1_drawFrom_58 (z_nz rfl (by omega)) ?_
          refine lv_topi (fun v_80 ev_80 => ?_)
          have z_81 : v_80.toInt = v_78.toInt % v_61.toInt := z_rem ev_80 rfl rfl (by omega) (by omega)
          have z_82 : 0 ≤ v_80.toInt ∧ v_80.toInt < v_61.toInt := by rw [z_81]; exact ⟨Int.emod_nonneg _ (by omega), Int.emod_lt_of_pos _ (by omega)⟩
          refine lv_aload_n X.1 X.2.1 dX1_drawFrom_59 rfl (lv_at hl 3 rfl) ?_
          refine r_getR (g := 703) X hw ha_s1_L_12 rfl 3 h_58 (by decide) rfl inn_X1_drawFrom_7 (by decide) (X.2.2.2.1 (.fieldLink RX1 22 "SilkMill$Skein" "strand" "LSilkMill$Strand;") (by decide +kernel)) rfl (gv_703 _ _) dX1_drawFrom_60 ?_
          refine r_getI (g := 902) (x := v_61) X hw h_59 rfl 2 ev_61 (by decide) rfl inn_X1_drawFrom_9 (by decide) (X.2.2.2.1 (.fieldLink RX1 28 "SilkMill$Strand" "metres" "I") (by decide +kernel)) rfl (gv_902 _ _) dX1_drawFrom_63 ?_
          refine k_i (rm := { frames := 2, cells := 0, slots := 0, locals := 96 }) (av := [.ref x, .int (v_80), .int (v_61)]) X hw (va_runV (As := [.int (v_80), .int (v_61)]) (rest := []) (cfix X) (k_X1_notDrawnFrom l G cy κ T_11 _ x (v_80) (v_80.toInt) (v_61) (v_61.toInt) hO_T_11.1 ha_x_L_13 rfl rfl (by omega) (by omega) (by omega)) (cwV 2 X.2.2.2.1 gX1_drawFrom_X1_notDrawnFrom rfl rfl rfl (by decide +kernel) ⟨Nat.le_of_ble_eq_true rfl, Nat.le_of_ble_eq_true rfl⟩) (pre_V X hw _ ha_x_L_13 rfl (by decide) rfl) rfl rfl hl.1 rfl (lv_room (Nat.le_of_ble_eq_true rfl)) dX1_drawFrom_66 ⟨Nat.le_of_ble_eq_true rfl, Nat.le_of_ble_eq_true rfl⟩) 0 0 (Nat.le_of_ble_eq_true rfl) (Nat.le_of_ble_eq_true rfl) (fun rr_83 S_84 H locs hp hw hfr hnw => ?_)
          obtain ⟨e2, hp⟩ := hp
          subst e2
          obtain ⟨f_85, f_86⟩ := hp
          refine lv_istore (lv' := [(6, .int (rr_83)), (4, .int (rr_75)), (5, .int (i5_10)), (0, .ref x), (1, .ref s1), (2, .int (a1)), (3, .int (a2))]) X.1 X.2.1 dX1_drawFrom_69 hl (by decide) rfl (fun ls hl => ?_)
          refine lv_aload_n X.1 X.2.1 dX1_drawFrom_71 rfl (lv_at hl 3 rfl) ?_
          obtain ⟨q_87, h_88, h_89, h_90⟩ := gQ_1_100 hO_T_11.1 ha_x_L_13
          refine r_getR (g := 100) X hw ha_x_L_13 rfl 0 h_88 (by decide) rfl inn_X1_drawFrom_1 (by decide) (X.2.2.2.1 (.fieldLink RX1 9 "SilkMill$Draw" "metres" "[I") (by decide +kernel)) rfl (gv_100 _ _) dX1_drawFrom_72 ?_
          refine lv_aload_n X.1 X.2.1 dX1_drawFrom_75 rfl (lv_at hl 3 rfl) ?_
          refine r_getI (g := 101) (x := v_17) X hw ha_x_L_13 rfl 1 ev_17 (by decide) rfl inn_X1_drawFrom_1 (by decide) (X.2.2.2.1 (.fieldLink RX1 15 "SilkMill$Draw" "size" "I") (by decide +kernel)) rfl (gv_101 _ _) dX1_drawFrom_76 ?_
          refine lv_iload X.1 X.2.1 dX1_drawFrom_79 (lv_at hl 0 rfl) ?_
          refine r_iast X hw h_89 rfl (by rw [h_90]; exact z_ix rfl (by omega) (by omega)) dX1_drawFrom_81 (fun H locs hw => ?_)
          obtain ⟨S_91, eS_91⟩ : ∃ T, T = sA T_11 q_87 (upd (pA T_11 q_87) (Int32.toNatClampNeg (v_17)) (rr_83)) := ⟨_, rfl⟩
          rw [← eS_91] at hw
          have hO_92 : Ok eDR S S_91 := hO_T_11.sA eS_91 h_89 (by decide +kernel) (uA_74 hO_T_11.1 h_89)
          have h_93 : pA S_91 q_87 (Int32.toNatClampNeg (v_17)) = rr_83 := tA_sAs eS_91
          refine lv_aload_n X.1 X.2.1 dX1_drawFrom_82 rfl (lv_at hl 3 rfl) ?_
          refine lv_dup X.1 X.2.1 dX1_drawFrom_83 rfl ?_
          have t_94 : At S_91 x 1 := tAt_sA eS_91 ha_x_L_13
          have t_95 : pI S_91 101 x = v_17 := tI_sA eS_91 ev_17
          refine r_getI (g := 101) (x := v_17) X hw t_94 rfl 1 t_95 (by decide) rfl inn_X1_drawFrom_1 (by decide) (X.2.2.2.1 (.fieldLink RX1 15 "SilkMill$Draw" "size" "I") (by decide +kernel)) rfl (gv_101 _ _) dX1_drawFrom_84 ?_
          refine lv_iconst (v := 1) X.1 X.2.1 dX1_drawFrom_87 (by decide) ?_
          refine lv_iadd X.1 X.2.1 dX1_drawFrom_88 ?_
          refine lv_topi (fun v_96 ev_96 => ?_)
          have z_97 : v_96.toInt = v_17.toInt + 1 := z_add ev_96 rfl ti_1 (by omega) (by omega)
          refine r_putI (v := v_96) X hw t_94 rfl 1 101 tyX1 (by decide) rfl inn_X1_drawFrom_1 tyX1_ok nmX1 (by decide) (X.2.2.2.1 (.fieldLink RX1 15 "SilkMill$Draw" "size" "I") (by decide +kernel)) rfl (Or.inl rfl) rfl rfl (Nat.le_of_ble_eq_true rfl) (st_101 _ _) dX1_drawFrom_89 (fun H locs hw => ?_)
          obtain ⟨S_98, eS_98⟩ : ∃ T, T = sI S_91 101 x (v_96) := ⟨_, rfl⟩
          rw [← eS_98] at hw
          have hO_99 : Ok eDR S S_98 := hO_92.sI eS_98 (by decide +kernel) (uI_1_101 hO_92.1 t_94 (by omega) (by omega))
          have h_100 : pI S_98 101 x = v_96 := tI_sIs eS_98
          refine lv_aload_n X.1 X.2.1 dX1_drawFrom_92 rfl (lv_at hl 3 rfl) ?_
          refine lv_aload_n X.1 X.2.1 dX1_drawFrom_93 rfl (lv_at hl 3 rfl) ?_
          have t_101 : At S_98 x 1 := tAt_sI eS_98 t_94
          obtain ⟨v_102, ev_102⟩ : ∃ v, pI S_98 102 x = v := ⟨_, rfl⟩
          have rg_104 := And.intro (z_lo v_102) (z_hi v_102)
          have pz_105 : (pI S_98 102 x).toInt = v_102.toInt := by rw [ev_102]
          refine r_getI (g := 102) (x := v_102) X hw t_101 rfl 2 ev_102 (by decide) rfl inn_X1_drawFrom_1 (by decide) (X.2.2.2.1 (.fieldLink RX1 19 "SilkMill$Draw" "off" "I") (by decide +kernel)) rfl (gv_102 _ _) dX1_drawFrom_94 ?_
          refine lv_aload_n X.1 X.2.1 dX1_drawFrom_97 rfl (lv_at hl 4 rfl) ?_
          have t_106 : At S_91 s1 7 := tAt_sA eS_91 ha_s1_L_12
          have t_107 : At S_98 s1 7 := tAt_sI eS_98 t_106
          have t_108 : pR S_91 703 s1 = some q_57 := tR_sA eS_91 h_58
          have t_109 : pR S_98 703 s1 = some q_57 := tR_sI eS_98 t_108
          refine r_getR (g := 703) X hw t_107 rfl 3 t_109 (by decide) rfl inn_X1_drawFrom_7 (by decide) (X.2.2.2.1 (.fieldLink RX1 22 "SilkMill$Skein" "strand" "LSilkMill$Strand;") (by decide +kernel)) rfl (gv_703 _ _) dX1_drawFrom_98 ?_
          have t_110 : At S_91 q_57 9 := tAt_sA eS_91 h_59
          have t_111 : At S_98 q_57 9 := tAt_sI eS_98 t_110
          have t_112 : pI S_91 902 q_57 = v_61 := tI_sA eS_91 ev_61
          have t_113 : pI S_98 902 q_57 = v_61 := tI_sI eS_98 rfl t_112
          obtain ⟨q_114, h_115, h_116, h_117, h_120⟩ := gC_9_900 hO_99.1 t_111
          obtain ⟨n_118, h_119⟩ : ∃ n, pN S_98 q_114 = n := ⟨_, rfl⟩
          rw [t_113, h_119] at h_117
          rw [h_119] at h_120
          refine r_getR (g := 900) X hw t_111 rfl 0 h_115 (by decide) rfl inn_X1_drawFrom_9 (by decide) (X.2.2.2.1 (.fieldLink RX1 40 "SilkMill$Strand" "fineness" "[I") (by decide +kernel)) rfl (gv_900 _ _) dX1_drawFrom_101 ?_
          refine lv_iload X.1 X.2.1 dX1_drawFrom_104 (lv_at hl 0 rfl) ?_
          refine r_iald X hw h_116 rfl (by rw [h_119]; exact z_ix rfl (by omega) (by omega)) dX1_drawFrom_106 ?_
          refine lv_topi (fun v_121 ev_121 => ?_)
          have rg_122 := And.intro (z_lo v_121) (z_hi v_121)
          have ev_121 := ev_121.symm
          refine lv_aload_n X.1 X.2.1 dX1_drawFrom_107 rfl (lv_at hl 4 rfl) ?_
          obtain ⟨v_123, ev_123⟩ : ∃ v, pI S_98 701 s1 = v := ⟨_, rfl⟩
          have rg_125 := And.intro (z_lo v_123) (z_hi v_123)
          have pz_126 : (pI S_98 701 s1).toInt = v_123.toInt := by rw [ev_123]
          refine r_getI (g := 701) (x := v_123) X hw t_107 rfl 1 ev_123 (by decide) rfl inn_X1_drawFrom_7 (by decide) (X.2.2.2.1 (.fieldLink RX1 43 "SilkMill$Skein" "aim" "I") (by decide +kernel)) rfl (gv_701 _ _) dX1_drawFrom_108 ?_
          refine lv_isub X.1 X.2.1 dX1_drawFrom_111 ?_
          refine lv_topi (fun v_127 ev_127 => ?_)
          have rg_128 := And.intro (z_lo v_127) (z_hi v_127)
          refine va_mabs X.1 X.2.1 (X.2.2.1.trans hl.1.symm) X.2.2.2.2.1 (X.2.2.2.1 (.methodLink RX1 46 Lib.Math.abs.name) (by decide +kernel)) (X.2.2.2.1 (.static Lib.Math.abs.name) (by decide +kernel)) (X.2.2.2.1 (.initialized "java/lang/Math") (by decide +kernel)) (X.2.2.2.1 (.code Lib.Math.abs.name Lib.Math.abs.code 1 (some .int)) (by decide +kernel)) (Nat.le_of_ble_eq_true rfl) (Nat.le_of_ble_eq_true rfl) (Nat.le_of_ble_eq_true rfl) (Nat.le_of_ble_eq_true rfl) dX1_drawFrom_112 ?_
          refine lv_topi (fun v_129 ev_129 => ?_)
          have rg_131 := And.intro (z_lo v_129) (z_hi v_129)
          refine va_mmax X.1 X.2.1 (X.2.2.1.trans hl.1.symm) X.2.2.2.2.1 (X.2.2.2.1 (.methodLink RX1 51 Lib.Math.max.name) (by decide +kernel)) (X.2.2.2.1 (.static Lib.Math.max.name) (by decide +kernel)) (X.2.2.2.1 (.initialized "java/lang/Math") (by decide +kernel)) (X.2.2.2.1 (.code Lib.Math.max.name Lib.Math.max.code 2 (some .int)) (by decide +kernel)) (Nat.le_of_ble_eq_true rfl) (Nat.le_of_ble_eq_true rfl) (Nat.le_of_ble_eq_true rfl) (Nat.le_of_ble_eq_true rfl) dX1_drawFrom_115 ?_
          refine lv_topi (fun v_132 ev_132 => ?_)
          have z_133 := z_max ev_132 rfl rfl
          refine r_putI (v := v_132) X hw t_101 rfl 2 102 tyX1 (by decide) rfl inn_X1_drawFrom_1 tyX1_ok nmX1 (by decide) (X.2.2.2.1 (.fieldLink RX1 19 "SilkMill$Draw" "off" "I") (by decide +kernel)) rfl (Or.inl rfl) rfl rfl (Nat.le_of_ble_eq_true rfl) (st_102 _ _) dX1_drawFrom_118 (fun H locs hw => ?_)
          obtain ⟨S_134, eS_134⟩ : ∃ T, T = sI S_98 102 x (v_132) := ⟨_, rfl⟩
          rw [← eS_134] at hw
          have hO_135 : Ok eDR S S_134 := hO_99.sI eS_134 (by decide +kernel) (uI_1_102 hO_99.1 t_101)
          have h_136 : pI S_134 102 x = v_132 := tI_sIs eS_134
          obtain ⟨x_137, ex_137⟩ : ∃ y : Int32, y = i5_10 + 1 := ⟨_, rfl⟩
          have z_138 : x_137.toInt = i5_10_z + 1 := z_add ex_137 hz_i5_10 ti_1 (by omega) (by omega)
          refine lv_iinc (v := x_137) (lv' := [(5, .int (x_137)), (6, .int (rr_83)), (4, .int (rr_75)), (0, .ref x), (1, .ref s1), (2, .int (a1)), (3, .int (a2))]) X.1 X.2.1 dX1_drawFrom_121 hl (k := 2) rfl (by rw [ex_137]; rfl) (by decide) rfl (fun ls hl => ?_)
          refine lv_goto (tgt := 16) X.1 X.2.1 dX1_drawFrom_124 (by decide) ?_
          have t_139 : pI S_134 101 x = v_96 := tI_sI eS_134 rfl h_100
          have pz_140 : (pI S_134 101 x).toInt = v_96.toInt := (congrArg Int32.toInt t_139).trans rfl
          have t_141 : At S_134 s1 7 := tAt_sI eS_134 t_107
          have t_142 : At S_134 x 1 := tAt_sI eS_134 t_101
          exact ih _ (by omega) _ _ _ _ (rr_75) (rr_75.toInt) (x_137) (x_137.toInt) rfl hw rfl rfl (by omega) t_141 t_142 hO_135 (by omega) (lv_sub hl [2, 0, 3, 4, 5, 6] rfl)
  have t_143 : pI S_5 101 x = 0 := tI_sI eS_5 rfl h_3
  have pz_144 : (pI S_5 101 x).toInt = 0 := (congrArg Int32.toInt t_143).trans ti_0
  have t_145 : At S_1 s1 7 := tAt_sI eS_1 ha_s1
  have t_146 : At S_5 s1 7 := tAt_sI eS_5 t_145
  have t_147 : At S_5 x 1 := tAt_sI eS_5 t_4
  exact L_8 _ _ _ _ _ (a1) (a1_z) (0) (0) rfl hw hz_a1 ti_0 (by omega) t_146 t_147 hO_6 (by omega) (lv_sub hl [1, 0, 2, 3, 4, 5] rfl)
