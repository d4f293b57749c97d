set_option maxRecDepth 20000 in
theorem ggX1_drawFrom_X11_next : GoodIn wsX1_drawFrom wsX11_next := goodIn_h _ [18, 0] [0, 1] (by decide +kernel) (by decide +kernel)
set_option maxRecDepth 20000 in
theorem gX1_drawFrom_X11_next_n32 : GoodIn wsX1_drawFrom (wsX11_next) := ggX1_drawFrom_X11_next
set_option maxRecDepth 20000 in
theorem ggX1_drawFrom_X1_notDrawnFrom : GoodIn wsX1_drawFrom wsX1_notDrawnFrom := goodIn_h _ [1, 3, 17, 0, 0, 0, 0, 0, 7, 0, 0, 0] [3, 4, 5, 6, 2, 7, 0, 1, 8, 9, 10, 11] (by decide +kernel) (by decide +kernel)
set_option maxRecDepth 20000 in
theorem gX1_drawFrom_X1_notDrawnFrom : GoodIn wsX1_drawFrom (wsV RX1 36 RX1 yX1_notDrawnFrom wsX1_notDrawnFrom) := goodIn_app (goodIn_of _ (by decide +kernel)) ggX1_drawFrom_X1_notDrawnFrom
set_option maxRecDepth 20000 in
theorem ggX1_drawFrom_X1_boundOf : GoodIn wsX1_drawFrom wsX1_boundOf := goodIn_h _ [23, 7, 0, 0, 0, 0] [1, 2, 3, 4, 0, 5] (by decide +kernel) (by decide +kernel)
set_option maxRecDepth 20000 in
theorem gX1_drawFrom_X1_boundOf : GoodIn wsX1_drawFrom (va_wsS RX1 54 yX1_boundOf wsX1_boundOf) := goodIn_app (goodIn_of _ (by decide +kernel)) ggX1_drawFrom_X1_boundOf
theorem dX1_drawFrom_0 : decode cX1_drawFrom 0 = .ok (.aload_n 0, 1) := by decide +kernel
theorem dX1_drawFrom_1 : decode cX1_drawFrom 1 = .ok (.iconst 0, 1) := by decide +kernel
theorem dX1_drawFrom_2 : decode cX1_drawFrom 2 = .ok (.putfield 15, 3) := by decide +kernel
theorem dX1_drawFrom_5 : decode cX1_drawFrom 5 = .ok (.aload_n 0, 1) := by decide +kernel
theorem dX1_drawFrom_6 : decode cX1_drawFrom 6 = .ok (.iconst 0, 1) := by decide +kernel
theorem dX1_drawFrom_7 : decode cX1_drawFrom 7 = .ok (.putfield 19, 3) := by decide +kernel
theorem dX1_drawFrom_10 : decode cX1_drawFrom 10 = .ok (.iload_n 2, 1) := by decide +kernel
theorem dX1_drawFrom_11 : decode cX1_drawFrom 11 = .ok (.istore 4, 2) := by decide +kernel
theorem dX1_drawFrom_13 : decode cX1_drawFrom 13 = .ok (.iconst 0, 1) := by decide +kernel
theorem dX1_drawFrom_14 : decode cX1_drawFrom 14 = .ok (.istore 5, 2) := by decide +kernel
theorem dX1_drawFrom_16 : decode cX1_drawFrom 16 = .ok (.iload 5, 2) := by decide +kernel
theorem dX1_drawFrom_18 : decode cX1_drawFrom 18 = .ok (.iload_n 3, 1) := by decide +kernel
theorem dX1_drawFrom_19 : decode cX1_drawFrom 19 = .ok (.if_icmp .ge 108, 3) := by decide +kernel
theorem dX1_drawFrom_22 : decode cX1_drawFrom 22 = .ok (.iload 5, 2) := by decide +kernel
theorem dX1_drawFrom_24 : decode cX1_drawFrom 24 = .ok (.iconst 5, 1) := by decide +kernel
theorem dX1_drawFrom_25 : decode cX1_drawFrom 25 = .ok (.if_icmp .ge 102, 3) := by decide +kernel
theorem dX1_drawFrom_28 : decode cX1_drawFrom 28 = .ok (.aload_n 1, 1) := by decide +kernel
theorem dX1_drawFrom_29 : decode cX1_drawFrom 29 = .ok (.getfield 22, 3) := by decide +kernel
theorem dX1_drawFrom_32 : decode cX1_drawFrom 32 = .ok (.getfield 28, 3) := by decide +kernel
theorem dX1_drawFrom_35 : decode cX1_drawFrom 35 = .ok (.ifCond .le 92, 3) := by decide +kernel
theorem dX1_drawFrom_38 : decode cX1_drawFrom 38 = .ok (.iload 4, 2) := by decide +kernel
theorem dX1_drawFrom_40 : decode cX1_drawFrom 40 = .ok (.invokestatic 32, 3) := by decide +kernel
theorem dX1_drawFrom_43 : decode cX1_drawFrom 43 = .ok (.istore 4, 2) := by decide +kernel
theorem dX1_drawFrom_45 : decode cX1_drawFrom 45 = .ok (.aload_n 0, 1) := by decide +kernel
theorem dX1_drawFrom_46 : decode cX1_drawFrom 46 = .ok (.iload 4, 2) := by decide +kernel
theorem dX1_drawFrom_48 : decode cX1_drawFrom 48 = .ok (.bipush 16, 2) := by decide +kernel
theorem dX1_drawFrom_50 : decode cX1_drawFrom 50 = .ok (.iushr, 1) := by decide +kernel
theorem dX1_drawFrom_51 : decode cX1_drawFrom 51 = .ok (.aload_n 1, 1) := by decide +kernel
theorem dX1_drawFrom_52 : decode cX1_drawFrom 52 = .ok (.getfield 22, 3) := by decide +kernel
theorem dX1_drawFrom_55 : decode cX1_drawFrom 55 = .ok (.getfield 28, 3) := by decide +kernel
theorem dX1_drawFrom_58 : decode cX1_drawFrom 58 = .ok (.irem, 1) := by decide +kernel
theorem dX1_drawFrom_59 : decode cX1_drawFrom 59 = .ok (.aload_n 1, 1) := by decide +kernel
theorem dX1_drawFrom_60 : decode cX1_drawFrom 60 = .ok (.getfield 22, 3) := by decide +kernel
theorem dX1_drawFrom_63 : decode cX1_drawFrom 63 = .ok (.getfield 28, 3) := by decide +kernel
theorem dX1_drawFrom_66 : decode cX1_drawFrom 66 = .ok (.invokevirtual 36, 3) := by decide +kernel
theorem dX1_drawFrom_69 : decode cX1_drawFrom 69 = .ok (.istore 6, 2) := by decide +kernel
theorem dX1_drawFrom_71 : decode cX1_drawFrom 71 = .ok (.aload_n 0, 1) := by decide +kernel
theorem dX1_drawFrom_72 : decode cX1_drawFrom 72 = .ok (.getfield 9, 3) := by decide +kernel
theorem dX1_drawFrom_75 : decode cX1_drawFrom 75 = .ok (.aload_n 0, 1) := by decide +kernel
theorem dX1_drawFrom_76 : decode cX1_drawFrom 76 = .ok (.getfield 15, 3) := by decide +kernel
theorem dX1_drawFrom_79 : decode cX1_drawFrom 79 = .ok (.iload 6, 2) := by decide +kernel
theorem dX1_drawFrom_81 : decode cX1_drawFrom 81 = .ok (.iastore, 1) := by decide +kernel
theorem dX1_drawFrom_82 : decode cX1_drawFrom 82 = .ok (.aload_n 0, 1) := by decide +kernel
theorem dX1_drawFrom_83 : decode cX1_drawFrom 83 = .ok (.dup, 1) := by decide +kernel
theorem dX1_drawFrom_84 : decode cX1_drawFrom 84 = .ok (.getfield 15, 3) := by decide +kernel
theorem dX1_drawFrom_87 : decode cX1_drawFrom 87 = .ok (.iconst 1, 1) := by decide +kernel
theorem dX1_drawFrom_88 : decode cX1_drawFrom 88 = .ok (.iadd, 1) := by decide +kernel
theorem dX1_drawFrom_89 : decode cX1_drawFrom 89 = .ok (.putfield 15, 3) := by decide +kernel
theorem dX1_drawFrom_92 : decode cX1_drawFrom 92 = .ok (.aload_n 0, 1) := by decide +kernel
theorem dX1_drawFrom_93 : decode cX1_drawFrom 93 = .ok (.aload_n 0, 1) := by decide +kernel
theorem dX1_drawFrom_94 : decode cX1_drawFrom 94 = .ok (.getfield 19, 3) := by decide +kernel
theorem dX1_drawFrom_97 : decode cX1_drawFrom 97 = .ok (.aload_n 1, 1) := by decide +kernel
theorem dX1_drawFrom_98 : decode cX1_drawFrom 98 = .ok (.getfield 22, 3) := by decide +kernel
theorem dX1_drawFrom_101 : decode cX1_drawFrom 101 = .ok (.getfield 40, 3) := by decide +kernel
theorem dX1_drawFrom_104 : decode cX1_drawFrom 104 = .ok (.iload 6, 2) := by decide +kernel
theorem dX1_drawFrom_106 : decode cX1_drawFrom 106 = .ok (.iaload, 1) := by decide +kernel
theorem dX1_drawFrom_107 : decode cX1_drawFrom 107 = .ok (.aload_n 1, 1) := by decide +kernel
theorem dX1_drawFrom_108 : decode cX1_drawFrom 108 = .ok (.getfield 43, 3) := by decide +kernel
theorem dX1_drawFrom_111 : decode cX1_drawFrom 111 = .ok (.isub, 1) := by decide +kernel
theorem dX1_drawFrom_112 : decode cX1_drawFrom 112 = .ok (.invokestatic 46, 3) := by decide +kernel
theorem dX1_drawFrom_115 : decode cX1_drawFrom 115 = .ok (.invokestatic 51, 3) := by decide +kernel
theorem dX1_drawFrom_118 : decode cX1_drawFrom 118 = .ok (.putfield 19, 3) := by decide +kernel
theorem dX1_drawFrom_121 : decode cX1_drawFrom 121 = .ok (.iinc 5 1, 3) := by decide +kernel
theorem dX1_drawFrom_124 : decode cX1_drawFrom 124 = .ok (.goto (-108), 3) := by decide +kernel
theorem dX1_drawFrom_127 : decode cX1_drawFrom 127 = .ok (.aload_n 0, 1) := by decide +kernel
theorem dX1_drawFrom_128 : decode cX1_drawFrom 128 = .ok (.aload_n 1, 1) := by decide +kernel
theorem dX1_drawFrom_129 : decode cX1_drawFrom 129 = .ok (.getfield 22, 3) := by decide +kernel
theorem dX1_drawFrom_132 : decode cX1_drawFrom 132 = .ok (.getfield 28, 3) := by decide +kernel
theorem dX1_drawFrom_135 : decode cX1_drawFrom 135 = .ok (.aload_n 0, 1) := by decide +kernel
theorem dX1_drawFrom_136 : decode cX1_drawFrom 136 = .ok (.getfield 15, 3) := by decide +kernel
theorem dX1_drawFrom_139 : decode cX1_drawFrom 139 = .ok (.invokestatic 54, 3) := by decide +kernel
theorem dX1_drawFrom_142 : decode cX1_drawFrom 142 = .ok (.putfield 57, 3) := by decide +kernel
theorem dX1_drawFrom_145 : decode cX1_drawFrom 145 = .ok (.return_, 1) := by decide +kernel
theorem dX1_gradeOfOff_0 : decode cX1_gradeOfOff 0 = .ok (.aload_n 0, 1) := by decide +kernel
theorem dX1_gradeOfOff_1 : decode cX1_gradeOfOff 1 = .ok (.getfield 19, 3) := by decide +kernel
theorem dX1_gradeOfOff_4 : decode cX1_gradeOfOff 4 = .ok (.iconst 3, 1) := by decide +kernel
theorem dX1_gradeOfOff_5 : decode cX1_gradeOfOff 5 = .ok (.if_icmp .gt 5, 3) := by decide +kernel
theorem dX1_gradeOfOff_8 : decode cX1_gradeOfOff 8 = .ok (.iconst 0, 1) := by decide +kernel
theorem dX1_gradeOfOff_9 : decode cX1_gradeOfOff 9 = .ok (.ireturn, 1) := by decide +kernel
theorem dX1_gradeOfOff_10 : decode cX1_gradeOfOff 10 = .ok (.aload_n 0, 1) := by decide +kernel
theorem dX1_gradeOfOff_11 : decode cX1_gradeOfOff 11 = .ok (.getfield 19, 3) := by decide +kernel
theorem dX1_gradeOfOff_14 : decode cX1_gradeOfOff 14 = .ok (.bipush 8, 2) := by decide +kernel
theorem dX1_gradeOfOff_16 : decode cX1_gradeOfOff 16 = .ok (.if_icmp .gt 5, 3) := by decide +kernel
theorem dX1_gradeOfOff_19 : decode cX1_gradeOfOff 19 = .ok (.iconst 1, 1) := by decide +kernel
theorem dX1_gradeOfOff_20 : decode cX1_gradeOfOff 20 = .ok (.ireturn, 1) := by decide +kernel
theorem dX1_gradeOfOff_21 : decode cX1_gradeOfOff 21 = .ok (.aload_n 0, 1) := by decide +kernel
theorem dX1_gradeOfOff_22 : decode cX1_gradeOfOff 22 = .ok (.getfield 19, 3) := by decide +kernel
theorem dX1_gradeOfOff_25 : decode cX1_gradeOfOff 25 = .ok (.bipush 20, 2) := by decide +kernel
theorem dX1_gradeOfOff_27 : decode cX1_gradeOfOff 27 = .ok (.if_icmp .gt 7, 3) := by decide +kernel
theorem dX1_gradeOfOff_30 : decode cX1_gradeOfOff 30 = .ok (.iconst 2, 1) := by decide +kernel
theorem dX1_gradeOfOff_31 : decode cX1_gradeOfOff 31 = .ok (.goto 4, 3) := by decide +kernel
theorem dX1_gradeOfOff_34 : decode cX1_gradeOfOff 34 = .ok (.iconst 3, 1) := by decide +kernel
theorem dX1_gradeOfOff_35 : decode cX1_gradeOfOff 35 = .ok (.ireturn, 1) := by decide +kernel
set_option maxRecDepth 20000 in
theorem ggX1_notDrawnFrom_X1_isDrawn : GoodIn wsX1_notDrawnFrom wsX1_isDrawn := goodIn_h _ [5, 0, 0, 0, 0, 0, 0] [0, 1, 2, 3, 4, 5, 6] (by decide +kernel) (by decide +kernel)
set_option maxRecDepth 20000 in
theorem gX1_notDrawnFrom_X1_isDrawn : GoodIn wsX1_notDrawnFrom (wsV RX1 60 RX1 yX1_isDrawn wsX1_isDrawn) := goodIn_app (goodIn_of _ (by decide +kernel)) ggX1_notDrawnFrom_X1_isDrawn
theorem dX1_notDrawnFrom_0 : decode cX1_notDrawnFrom 0 = .ok (.iload_n 1, 1) := by decide +kernel
theorem dX1_notDrawnFrom_1 : decode cX1_notDrawnFrom 1 = .ok (.istore_n 3, 1) := by decide +kernel
theorem dX1_notDrawnFrom_2 : decode cX1_notDrawnFrom 2 = .ok (.iconst 0, 1) := by decide +kernel
theorem dX1_notDrawnFrom_3 : decode cX1_notDrawnFrom 3 = .ok (.istore 4, 2) := by decide +kernel
theorem dX1_notDrawnFrom_5 : decode cX1_notDrawnFrom 5 = .ok (.iload 4, 2) := by decide +kernel
theorem dX1_notDrawnFrom_7 : decode cX1_notDrawnFrom 7 = .ok (.iconst 5, 1) := by decide +kernel
theorem dX1_notDrawnFrom_8 : decode cX1_notDrawnFrom 8 = .ok (.if_icmp .ge 32, 3) := by decide +kernel
theorem dX1_notDrawnFrom_11 : decode cX1_notDrawnFrom 11 = .ok (.aload_n 0, 1) := by decide +kernel
theorem dX1_notDrawnFrom_12 : decode cX1_notDrawnFrom 12 = .ok (.iload_n 3, 1) := by decide +kernel
theorem dX1_notDrawnFrom_13 : decode cX1_notDrawnFrom 13 = .ok (.invokevirtual 60, 3) := by decide +kernel
theorem dX1_notDrawnFrom_16 : decode cX1_notDrawnFrom 16 = .ok (.ifCond .eq 24, 3) := by decide +kernel
theorem dX1_notDrawnFrom_19 : decode cX1_notDrawnFrom 19 = .ok (.iload_n 3, 1) := by decide +kernel
theorem dX1_notDrawnFrom_20 : decode cX1_notDrawnFrom 20 = .ok (.iconst 1, 1) := by decide +kernel
theorem dX1_notDrawnFrom_21 : decode cX1_notDrawnFrom 21 = .ok (.iadd, 1) := by decide +kernel
theorem dX1_notDrawnFrom_22 : decode cX1_notDrawnFrom 22 = .ok (.iload_n 2, 1) := by decide +kernel
theorem dX1_notDrawnFrom_23 : decode cX1_notDrawnFrom 23 = .ok (.if_icmp .ge 9, 3) := by decide +kernel
theorem dX1_notDrawnFrom_26 : decode cX1_notDrawnFrom 26 = .ok (.iload_n 3, 1) := by decide +kernel
theorem dX1_notDrawnFrom_27 : decode cX1_notDrawnFrom 27 = .ok (.iconst 1, 1) := by decide +kernel
theorem dX1_notDrawnFrom_28 : decode cX1_notDrawnFrom 28 = .ok (.iadd, 1) := by decide +kernel
theorem dX1_notDrawnFrom_29 : decode cX1_notDrawnFrom 29 = .ok (.goto 4, 3) := by decide +kernel
theorem dX1_notDrawnFrom_32 : decode cX1_notDrawnFrom 32 = .ok (.iconst 0, 1) := by decide +kernel
theorem dX1_notDrawnFrom_33 : decode cX1_notDrawnFrom 33 = .ok (.istore_n 3, 1) := by decide +kernel
theorem dX1_notDrawnFrom_34 : decode cX1_notDrawnFrom 34 = .ok (.iinc 4 1, 3) := by decide +kernel
theorem dX1_notDrawnFrom_37 : decode cX1_notDrawnFrom 37 = .ok (.goto (-32), 3) := by decide +kernel
theorem dX1_notDrawnFrom_40 : decode cX1_notDrawnFrom 40 = .ok (.iload_n 3, 1) := by decide +kernel
theorem dX1_notDrawnFrom_41 : decode cX1_notDrawnFrom 41 = .ok (.ireturn, 1) := by decide +kernel
theorem dX1_isDrawn_0 : decode cX1_isDrawn 0 = .ok (.iconst 0, 1) := by decide +kernel
theorem dX1_isDrawn_1 : decode cX1_isDrawn 1 = .ok (.istore_n 2, 1) := by decide +kernel
theorem dX1_isDrawn_2 : decode cX1_isDrawn 2 = .ok (.iload_n 2, 1) := by decide +kernel
theorem dX1_isDrawn_3 : decode cX1_isDrawn 3 = .ok (.aload_n 0, 1) := by decide +kernel
theorem dX1_isDrawn_4 : decode cX1_isDrawn 4 = .ok (.getfield 15, 3) := by decide +kernel
theorem dX1_isDrawn_7 : decode cX1_isDrawn 7 = .ok (.if_icmp .ge 21, 3) := by decide +kernel
theorem dX1_isDrawn_10 : decode cX1_isDrawn 10 = .ok (.aload_n 0, 1) := by decide +kernel
theorem dX1_isDrawn_11 : decode cX1_isDrawn 11 = .ok (.getfield 9, 3) := by decide +kernel
theorem dX1_isDrawn_14 : decode cX1_isDrawn 14 = .ok (.iload_n 2, 1) := by decide +kernel
theorem dX1_isDrawn_15 : decode cX1_isDrawn 15 = .ok (.iaload, 1) := by decide +kernel
theorem dX1_isDrawn_16 : decode cX1_isDrawn 16 = .ok (.iload_n 1, 1) := by decide +kernel
theorem dX1_isDrawn_17 : decode cX1_isDrawn 17 = .ok (.if_icmp .ne 5, 3) := by decide +kernel
theorem dX1_isDrawn_20 : decode cX1_isDrawn 20 = .ok (.iconst 1, 1) := by decide +kernel
theorem dX1_isDrawn_21 : decode cX1_isDrawn 21 = .ok (.ireturn, 1) := by decide +kernel
theorem dX1_isDrawn_22 : decode cX1_isDrawn 22 = .ok (.iinc 2 1, 3) := by decide +kernel
theorem dX1_isDrawn_25 : decode cX1_isDrawn 25 = .ok (.goto (-23), 3) := by decide +kernel
theorem dX1_isDrawn_28 : decode cX1_isDrawn 28 = .ok (.iconst 0, 1) := by decide +kernel
theorem dX1_isDrawn_29 : decode cX1_isDrawn 29 = .ok (.ireturn, 1) := by decide +kernel
set_option maxRecDepth 20000 in
theorem ggX1_boundOf_X1_waysInOrder : GoodIn wsX1_boundOf wsX1_waysInOrder := goodIn_h _ [5] [0] (by decide +kernel) (by decide +kernel)
set_option maxRecDepth 20000 in
theorem gX1_boundOf_X1_waysInOrder : GoodIn wsX1_boundOf (va_wsS RX1 64 yX1_waysInOrder wsX1_waysInOrder) := goodIn_app (goodIn_of _ (by decide +kernel)) ggX1_boundOf_X1_waysInOrder
theorem dX1_boundOf_0 : decode cX1_boundOf 0 = .ok (.iload_n 0, 1) := by decide +kernel
theorem dX1_boundOf_1 : decode cX1_boundOf 1 = .ok (.iload_n 1, 1) := by decide +kernel
theorem dX1_boundOf_2 : decode cX1_boundOf 2 = .ok (.invokestatic 64, 3) := by decide +kernel
theorem dX1_boundOf_5 : decode cX1_boundOf 5 = .ok (.lstore_n 2, 1) := by decide +kernel
theorem dX1_boundOf_6 : decode cX1_boundOf 6 = .ok (.iload_n 0, 1) := by decide +kernel
theorem dX1_boundOf_7 : decode cX1_boundOf 7 = .ok (.iload_n 1, 1) := by decide +kernel
theorem dX1_boundOf_8 : decode cX1_boundOf 8 = .ok (.isub, 1) := by decide +kernel
theorem dX1_boundOf_9 : decode cX1_boundOf 9 = .ok (.istore 4, 2) := by decide +kernel
theorem dX1_boundOf_11 : decode cX1_boundOf 11 = .ok (.iload 4, 2) := by decide +kernel
theorem dX1_boundOf_13 : decode cX1_boundOf 13 = .ok (.ifCond .le 29, 3) := by decide +kernel
theorem dX1_boundOf_16 : decode cX1_boundOf 16 = .ok (.ldc2_w 68, 3) := by decide +kernel
theorem dX1_boundOf_19 : decode cX1_boundOf 19 = .ok (.iload_n 0, 1) := by decide +kernel
theorem dX1_boundOf_20 : decode cX1_boundOf 20 = .ok (.iload 4, 2) := by decide +kernel
theorem dX1_boundOf_22 : decode cX1_boundOf 22 = .ok (.isub, 1) := by decide +kernel
theorem dX1_boundOf_23 : decode cX1_boundOf 23 = .ok (.iload_n 1, 1) := by decide +kernel
theorem dX1_boundOf_24 : decode cX1_boundOf 24 = .ok (.invokestatic 64, 3) := by decide +kernel
theorem dX1_boundOf_27 : decode cX1_boundOf 27 = .ok (.lmul, 1) := by decide +kernel
theorem dX1_boundOf_28 : decode cX1_boundOf 28 = .ok (.lload_n 2, 1) := by decide +kernel
theorem dX1_boundOf_29 : decode cX1_boundOf 29 = .ok (.lcmp, 1) := by decide +kernel
theorem dX1_boundOf_30 : decode cX1_boundOf 30 = .ok (.ifCond .lt 6, 3) := by decide +kernel
theorem dX1_boundOf_33 : decode cX1_boundOf 33 = .ok (.iload 4, 2) := by decide +kernel
theorem dX1_boundOf_35 : decode cX1_boundOf 35 = .ok (.ireturn, 1) := by decide +kernel
theorem dX1_boundOf_36 : decode cX1_boundOf 36 = .ok (.iinc 4 (-1), 3) := by decide +kernel
theorem dX1_boundOf_39 : decode cX1_boundOf 39 = .ok (.goto (-28), 3) := by decide +kernel
theorem dX1_boundOf_42 : decode cX1_boundOf 42 = .ok (.iconst 0, 1) := by decide +kernel
theorem dX1_boundOf_43 : decode cX1_boundOf 43 = .ok (.ireturn, 1) := by decide +kernel
theorem dX1_waysInOrder_0 : decode cX1_waysInOrder 0 = .ok (.lconst 1, 1) := by decide +kernel
theorem dX1_waysInOrder_1 : decode cX1_waysInOrder 1 = .ok (.lstore_n 2, 1) := by decide +kernel
theorem dX1_waysInOrder_2 : decode cX1_waysInOrder 2 = .ok (.iconst 0, 1) := by decide +kernel
theorem dX1_waysInOrder_3 : decode cX1_waysInOrder 3 = .ok (.istore 4, 2) := by decide +kernel
theorem dX1_waysInOrder_5 : decode cX1_waysInOrder 5 = .ok (.iload 4, 2) := by decide +kernel
theorem dX1_waysInOrder_7 : decode cX1_waysInOrder 7 = .ok (.iload_n 1, 1) := by decide +kernel
theorem dX1_waysInOrder_8 : decode cX1_waysInOrder 8 = .ok (.if_icmp .ge 17, 3) := by decide +kernel
theorem dX1_waysInOrder_11 : decode cX1_waysInOrder 11 = .ok (.lload_n 2, 1) := by decide +kernel
theorem dX1_waysInOrder_12 : decode cX1_waysInOrder 12 = .ok (.iload_n 0, 1) := by decide +kernel
theorem dX1_waysInOrder_13 : decode cX1_waysInOrder 13 = .ok (.iload 4, 2) := by decide +kernel
theorem dX1_waysInOrder_15 : decode cX1_waysInOrder 15 = .ok (.isub, 1) := by decide +kernel
theorem dX1_waysInOrder_16 : decode cX1_waysInOrder 16 = .ok (.i2l, 1) := by decide +kernel
theorem dX1_waysInOrder_17 : decode cX1_waysInOrder 17 = .ok (.lmul, 1) := by decide +kernel
theorem dX1_waysInOrder_18 : decode cX1_waysInOrder 18 = .ok (.lstore_n 2, 1) := by decide +kernel
theorem dX1_waysInOrder_19 : decode cX1_waysInOrder 19 = .ok (.iinc 4 1, 3) := by decide +kernel
theorem dX1_waysInOrder_22 : decode cX1_waysInOrder 22 = .ok (.goto (-17), 3) := by decide +kernel
theorem dX1_waysInOrder_25 : decode cX1_waysInOrder 25 = .ok (.lload_n 2, 1) := by decide +kernel
theorem dX1_waysInOrder_26 : decode cX1_waysInOrder 26 = .ok (.lreturn, 1) := by decide +kernel
theorem dX6_openRule_0 : decode cX6_openRule 0 = .ok (.aload_n 0, 1) := by decide +kernel
theorem dX6_openRule_1 : decode cX6_openRule 1 = .ok (.getfield 30, 3) := by decide +kernel
theorem dX6_openRule_4 : decode cX6_openRule 4 = .ok (.bipush 12, 2) := by decide +kernel
theorem dX6_openRule_6 : decode cX6_openRule 6 = .ok (.if_icmp .ge 13, 3) := by decide +kernel
theorem dX6_openRule_9 : decode cX6_openRule 9 = .ok (.aload_n 0, 1) := by decide +kernel
theorem dX6_openRule_10 : decode cX6_openRule 10 = .ok (.getfield 18, 3) := by decide +kernel
theorem dX6_openRule_13 : decode cX6_openRule 13 = .ok (.aload_n 0, 1) := by decide +kernel
theorem dX6_openRule_14 : decode cX6_openRule 14 = .ok (.getfield 30, 3) := by decide +kernel
theorem dX6_openRule_17 : decode cX6_openRule 17 = .ok (.iconst 0, 1) := by decide +kernel
theorem dX6_openRule_18 : decode cX6_openRule 18 = .ok (.iastore, 1) := by decide +kernel
theorem dX6_openRule_19 : decode cX6_openRule 19 = .ok (.return_, 1) := by decide +kernel
theorem dX6_addCondition_0 : decode cX6_addCondition 0 = .ok (.aload_n 0, 1) := by decide +kernel
theorem dX6_addCondition_1 : decode cX6_addCondition 1 = .ok (.getfield 30, 3) := by decide +kernel
theorem dX6_addCondition_4 : decode cX6_addCondition 4 = .ok (.bipush 12, 2) := by decide +kernel
theorem dX6_addCondition_6 : decode cX6_addCondition 6 = .ok (.if_icmp .ge 71, 3) := by decide +kernel
theorem dX6_addCondition_9 : decode cX6_addCondition 9 = .ok (.aload_n 0, 1) := by decide +kernel
theorem dX6_addCondition_10 : decode cX6_addCondition 10 = .ok (.getfield 18, 3) := by decide +kernel
theorem dX6_addCondition_13 : decode cX6_addCondition 13 = .ok (.aload_n 0, 1) := by decide +kernel
theorem dX6_addCondition_14 : decode cX6_addCondition 14 = .ok (.getfield 30, 3) := by decide +kernel
theorem dX6_addCondition_17 : decode cX6_addCondition 17 = .ok (.iaload, 1) := by decide +kernel
theorem dX6_addCondition_18 : decode cX6_addCondition 18 = .ok (.iconst 4, 1) := by decide +kernel
theorem dX6_addCondition_19 : decode cX6_addCondition 19 = .ok (.if_icmp .ge 58, 3) := by decide +kernel
theorem dX6_addCondition_22 : decode cX6_addCondition 22 = .ok (.aload_n 0, 1) := by decide +kernel
theorem dX6_addCondition_23 : decode cX6_addCondition 23 = .ok (.getfield 30, 3) := by decide +kernel
theorem dX6_addCondition_26 : decode cX6_addCondition 26 = .ok (.iconst 4, 1) := by decide +kernel
theorem dX6_addCondition_27 : decode cX6_addCondition 27 = .ok (.imul, 1) := by decide +kernel
theorem dX6_addCondition_28 : decode cX6_addCondition 28 = .ok (.aload_n 0, 1) := by decide +kernel
theorem dX6_addCondition_29 : decode cX6_addCondition 29 = .ok (.getfield 18, 3) := by decide +kernel
theorem dX6_addCondition_32 : decode cX6_addCondition 32 = .ok (.aload_n 0, 1) := by decide +kernel
theorem dX6_addCondition_33 : decode cX6_addCondition 33 = .ok (.getfield 30, 3) := by decide +kernel
theorem dX6_addCondition_36 : decode cX6_addCondition 36 = .ok (.iaload, 1) := by decide +kernel
theorem dX6_addCondition_37 : decode cX6_addCondition 37 = .ok (.iadd, 1) := by decide +kernel
theorem dX6_addCondition_38 : decode cX6_addCondition 38 = .ok (.istore 4, 2) := by decide +kernel
theorem dX6_addCondition_40 : decode cX6_addCondition 40 = .ok (.aload_n 0, 1) := by decide +kernel
theorem dX6_addCondition_41 : decode cX6_addCondition 41 = .ok (.getfield 21, 3) := by decide +kernel
theorem dX6_addCondition_44 : decode cX6_addCondition 44 = .ok (.iload 4, 2) := by decide +kernel
theorem dX6_addCondition_46 : decode cX6_addCondition 46 = .ok (.iload_n 1, 1) := by decide +kernel
theorem dX6_addCondition_47 : decode cX6_addCondition 47 = .ok (.iastore, 1) := by decide +kernel
theorem dX6_addCondition_48 : decode cX6_addCondition 48 = .ok (.aload_n 0, 1) := by decide +kernel
theorem dX6_addCondition_49 : decode cX6_addCondition 49 = .ok (.getfield 24, 3) := by decide +kernel
theorem dX6_addCondition_52 : decode cX6_addCondition 52 = .ok (.iload 4, 2) := by decide +kernel
theorem dX6_addCondition_54 : decode cX6_addCondition 54 = .ok (.iload_n 2, 1) := by decide +kernel
theorem dX6_addCondition_55 : decode cX6_addCondition 55 = .ok (.iastore, 1) := by decide +kernel
theorem dX6_addCondition_56 : decode cX6_addCondition 56 = .ok (.aload_n 0, 1) := by decide +kernel
theorem dX6_addCondition_57 : decode cX6_addCondition 57 = .ok (.getfield 27, 3) := by decide +kernel
theorem dX6_addCondition_60 : decode cX6_addCondition 60 = .ok (.iload 4, 2) := by decide +kernel
theorem dX6_addCondition_62 : decode cX6_addCondition 62 = .ok (.iload_n 3, 1) := by decide +kernel
theorem dX6_addCondition_63 : decode cX6_addCondition 63 = .ok (.iastore, 1) := by decide +kernel
theorem dX6_addCondition_64 : decode cX6_addCondition 64 = .ok (.aload_n 0, 1) := by decide +kernel
theorem dX6_addCondition_65 : decode cX6_addCondition 65 = .ok (.getfield 18, 3) := by decide +kernel
theorem dX6_addCondition_68 : decode cX6_addCondition 68 = .ok (.aload_n 0, 1) := by decide +kernel
theorem dX6_addCondition_69 : decode cX6_addCondition 69 = .ok (.getfield 30, 3) := by decide +kernel
theorem dX6_addCondition_72 : decode cX6_addCondition 72 = .ok (.dup2, 1) := by decide +kernel
theorem dX6_addCondition_73 : decode cX6_addCondition 73 = .ok (.iaload, 1) := by decide +kernel
theorem dX6_addCondition_74 : decode cX6_addCondition 74 = .ok (.iconst 1, 1) := by decide +kernel
theorem dX6_addCondition_75 : decode cX6_addCondition 75 = .ok (.iadd, 1) := by decide +kernel
theorem dX6_addCondition_76 : decode cX6_addCondition 76 = .ok (.iastore, 1) := by decide +kernel
theorem dX6_addCondition_77 : decode cX6_addCondition 77 = .ok (.return_, 1) := by decide +kernel
theorem dX6_closeRule_0 : decode cX6_closeRule 0 = .ok (.aload_n 0, 1) := by decide +kernel
theorem dX6_closeRule_1 : decode cX6_closeRule 1 = .ok (.getfield 30, 3) := by decide +kernel
theorem dX6_closeRule_4 : decode cX6_closeRule 4 = .ok (.bipush 12, 2) := by decide +kernel
theorem dX6_closeRule_6 : decode cX6_closeRule 6 = .ok (.if_icmp .ge 33, 3) := by decide +kernel
theorem dX6_closeRule_9 : decode cX6_closeRule 9 = .ok (.aload_n 0, 1) := by decide +kernel
theorem dX6_closeRule_10 : decode cX6_closeRule 10 = .ok (.getfield 9, 3) := by decide +kernel
theorem dX6_closeRule_13 : decode cX6_closeRule 13 = .ok (.aload_n 0, 1) := by decide +kernel
theorem dX6_closeRule_14 : decode cX6_closeRule 14 = .ok (.getfield 30, 3) := by decide +kernel
theorem dX6_closeRule_17 : decode cX6_closeRule 17 = .ok (.iload_n 1, 1) := by decide +kernel
theorem dX6_closeRule_18 : decode cX6_closeRule 18 = .ok (.iastore, 1) := by decide +kernel
theorem dX6_closeRule_19 : decode cX6_closeRule 19 = .ok (.aload_n 0, 1) := by decide +kernel
theorem dX6_closeRule_20 : decode cX6_closeRule 20 = .ok (.getfield 15, 3) := by decide +kernel
theorem dX6_closeRule_23 : decode cX6_closeRule 23 = .ok (.aload_n 0, 1) := by decide +kernel
theorem dX6_closeRule_24 : decode cX6_closeRule 24 = .ok (.getfield 30, 3) := by decide +kernel
theorem dX6_closeRule_27 : decode cX6_closeRule 27 = .ok (.iload_n 2, 1) := by decide +kernel
theorem dX6_closeRule_28 : decode cX6_closeRule 28 = .ok (.iastore, 1) := by decide +kernel
theorem dX6_closeRule_29 : decode cX6_closeRule 29 = .ok (.aload_n 0, 1) := by decide +kernel
theorem dX6_closeRule_30 : decode cX6_closeRule 30 = .ok (.dup, 1) := by decide +kernel
theorem dX6_closeRule_31 : decode cX6_closeRule 31 = .ok (.getfield 30, 3) := by decide +kernel
theorem dX6_closeRule_34 : decode cX6_closeRule 34 = .ok (.iconst 1, 1) := by decide +kernel
theorem dX6_closeRule_35 : decode cX6_closeRule 35 = .ok (.iadd, 1) := by decide +kernel
theorem dX6_closeRule_36 : decode cX6_closeRule 36 = .ok (.putfield 30, 3) := by decide +kernel
theorem dX6_closeRule_39 : decode cX6_closeRule 39 = .ok (.return_, 1) := by decide +kernel
theorem dX7_isOf_0 : decode cX7_isOf 0 = .ok (.aload_n 0, 1) := by decide +kernel
theorem dX7_isOf_1 : decode cX7_isOf 1 = .ok (.getfield 19, 3) := by decide +kernel
theorem dX7_isOf_4 : decode cX7_isOf 4 = .ok (.iload_n 1, 1) := by decide +kernel
theorem dX7_isOf_5 : decode cX7_isOf 5 = .ok (.if_icmp .ne 15, 3) := by decide +kernel
theorem dX7_isOf_8 : decode cX7_isOf 8 = .ok (.aload_n 0, 1) := by decide +kernel
theorem dX7_isOf_9 : decode cX7_isOf 9 = .ok (.getfield 25, 3) := by decide +kernel
theorem dX7_isOf_12 : decode cX7_isOf 12 = .ok (.iload_n 2, 1) := by decide +kernel
theorem dX7_isOf_13 : decode cX7_isOf 13 = .ok (.if_icmp .ne 7, 3) := by decide +kernel
theorem dX7_isOf_16 : decode cX7_isOf 16 = .ok (.iconst 1, 1) := by decide +kernel
theorem dX7_isOf_17 : decode cX7_isOf 17 = .ok (.goto 4, 3) := by decide +kernel
theorem dX7_isOf_20 : decode cX7_isOf 20 = .ok (.iconst 0, 1) := by decide +kernel
theorem dX7_isOf_21 : decode cX7_isOf 21 = .ok (.ireturn, 1) := by decide +kernel
theorem dX9_beginAnew_0 : decode cX9_beginAnew 0 = .ok (.aload_n 0, 1) := by decide +kernel
theorem dX9_beginAnew_1 : decode cX9_beginAnew 1 = .ok (.iconst 0, 1) := by decide +kernel
theorem dX9_beginAnew_2 : decode cX9_beginAnew 2 = .ok (.putfield 30, 3) := by decide +kernel
theorem dX9_beginAnew_5 : decode cX9_beginAnew 5 = .ok (.aload_n 0, 1) := by decide +kernel
theorem dX9_beginAnew_6 : decode cX9_beginAnew 6 = .ok (.iconst 0, 1) := by decide +kernel
theorem dX9_beginAnew_7 : decode cX9_beginAnew 7 = .ok (.putfield 40, 3) := by decide +kernel
theorem dX9_beginAnew_10 : decode cX9_beginAnew 10 = .ok (.aload_n 0, 1) := by decide +kernel
theorem dX9_beginAnew_11 : decode cX9_beginAnew 11 = .ok (.iconst 0, 1) := by decide +kernel
theorem dX9_beginAnew_12 : decode cX9_beginAnew 12 = .ok (.putfield 43, 3) := by decide +kernel
theorem dX9_beginAnew_15 : decode cX9_beginAnew 15 = .ok (.return_, 1) := by decide +kernel
theorem dX9_addMetre_0 : decode cX9_addMetre 0 = .ok (.aload_n 0, 1) := by decide +kernel
theorem dX9_addMetre_1 : decode cX9_addMetre 1 = .ok (.getfield 30, 3) := by decide +kernel
theorem dX9_addMetre_4 : decode cX9_addMetre 4 = .ok (.sipush 300, 3) := by decide +kernel
theorem dX9_addMetre_7 : decode cX9_addMetre 7 = .ok (.if_icmp .ge 43, 3) := by decide +kernel
theorem dX9_addMetre_10 : decode cX9_addMetre 10 = .ok (.aload_n 0, 1) := by decide +kernel
theorem dX9_addMetre_11 : decode cX9_addMetre 11 = .ok (.getfield 9, 3) := by decide +kernel
theorem dX9_addMetre_14 : decode cX9_addMetre 14 = .ok (.aload_n 0, 1) := by decide +kernel
theorem dX9_addMetre_15 : decode cX9_addMetre 15 = .ok (.getfield 30, 3) := by decide +kernel
theorem dX9_addMetre_18 : decode cX9_addMetre 18 = .ok (.iload_n 1, 1) := by decide +kernel
theorem dX9_addMetre_19 : decode cX9_addMetre 19 = .ok (.iastore, 1) := by decide +kernel
theorem dX9_addMetre_20 : decode cX9_addMetre 20 = .ok (.aload_n 0, 1) := by decide +kernel
theorem dX9_addMetre_21 : decode cX9_addMetre 21 = .ok (.getfield 15, 3) := by decide +kernel
theorem dX9_addMetre_24 : decode cX9_addMetre 24 = .ok (.aload_n 0, 1) := by decide +kernel
theorem dX9_addMetre_25 : decode cX9_addMetre 25 = .ok (.getfield 30, 3) := by decide +kernel
theorem dX9_addMetre_28 : decode cX9_addMetre 28 = .ok (.iload_n 2, 1) := by decide +kernel
theorem dX9_addMetre_29 : decode cX9_addMetre 29 = .ok (.iastore, 1) := by decide +kernel
theorem dX9_addMetre_30 : decode cX9_addMetre 30 = .ok (.aload_n 0, 1) := by decide +kernel
theorem dX9_addMetre_31 : decode cX9_addMetre 31 = .ok (.dup, 1) := by decide +kernel
theorem dX9_addMetre_32 : decode cX9_addMetre 32 = .ok (.getfield 30, 3) := by decide +kernel
theorem dX9_addMetre_35 : decode cX9_addMetre 35 = .ok (.iconst 1, 1) := by decide +kernel
theorem dX9_addMetre_36 : decode cX9_addMetre 36 = .ok (.iadd, 1) := by decide +kernel
theorem dX9_addMetre_37 : decode cX9_addMetre 37 = .ok (.putfield 30, 3) := by decide +kernel
theorem dX9_addMetre_40 : decode cX9_addMetre 40 = .ok (.aload_n 0, 1) := by decide +kernel
theorem dX9_addMetre_41 : decode cX9_addMetre 41 = .ok (.dup, 1) := by decide +kernel
theorem dX9_addMetre_42 : decode cX9_addMetre 42 = .ok (.getfield 40, 3) := by decide +kernel
theorem dX9_addMetre_45 : decode cX9_addMetre 45 = .ok (.iload_n 1, 1) := by decide +kernel
theorem dX9_addMetre_46 : decode cX9_addMetre 46 = .ok (.iadd, 1) := by decide +kernel
theorem dX9_addMetre_47 : decode cX9_addMetre 47 = .ok (.putfield 40, 3) := by decide +kernel
theorem dX9_addMetre_50 : decode cX9_addMetre 50 = .ok (.return_, 1) := by decide +kernel
theorem inn_X1_drawFrom_1 : ∀ w ∈ u_ws RX1 TX1 4, w ∈ wsX1_drawFrom := fun w h => List.mem_cons_of_mem _ (List.mem_append_left _ (List.mem_append_left _ (List.mem_append_right _ h)))
theorem inn_X1_drawFrom_7 : ∀ w ∈ u_ws RX7 TX7 10, w ∈ wsX1_drawFrom := fun w h => List.mem_cons_of_mem _ (List.mem_append_left _ (List.mem_append_right _ h))
theorem inn_X1_drawFrom_9 : ∀ w ∈ u_ws RX9 TX9 9, w ∈ wsX1_drawFrom := fun w h => List.mem_cons_of_mem _ (List.mem_append_right _ h)
theorem inn_X1_gradeOfOff_1 : ∀ w ∈ u_ws RX1 TX1 4, w ∈ wsX1_gradeOfOff := fun w h => List.mem_cons_of_mem _ (List.mem_append_right _ h)
theorem inn_X1_isDrawn_1 : ∀ w ∈ u_ws RX1 TX1 4, w ∈ wsX1_isDrawn := fun w h => List.mem_cons_of_mem _ (List.mem_append_right _ h)
theorem inn_X6_addCondition_6 : ∀ w ∈ u_ws RX6 TX6 7, w ∈ wsX6_addCondition := fun w h => List.mem_cons_of_mem _ (List.mem_append_right _ h)
theorem inn_X6_closeRule_6 : ∀ w ∈ u_ws RX6 TX6 7, w ∈ wsX6_closeRule := fun w h => List.mem_cons_of_mem _ (List.mem_append_right _ h)
theorem inn_X6_openRule_6 : ∀ w ∈ u_ws RX6 TX6 7, w ∈ wsX6_openRule := fun w h => List.mem_cons_of_mem _ (List.mem_append_right _ h)
theorem inn_X7_isOf_7 : ∀ w ∈ u_ws RX7 TX7 10, w ∈ wsX7_isOf := fun w h => List.mem_cons_of_mem _ (List.mem_append_right _ h)
theorem inn_X9_addMetre_9 : ∀ w ∈ u_ws RX9 TX9 9, w ∈ wsX9_addMetre := fun w h => List.mem_cons_of_mem _ (List.mem_append_right _ h)
theorem inn_X9_beginAnew_9 : ∀ w ∈ u_ws RX9 TX9 9, w ∈ wsX9_beginAnew := fun w h => List.mem_cons_of_mem _ (List.mem_append_right _ h)
set_option maxHeartbeats 4000000 in
set_option maxRecDepth 100000 in
theorem k_X7_isOf (l : Launch) (G : va_G) (cy : Nat → ClassId) (κ : Nat → Nat) (S : PS) (sz : Nat) (x : Nat) (a1 : Int32) (a1_z : Int) (a2 : Int32) (a2_z : Int) (hG : GX S) (ha_x : At S x 7) (hz_a1 : a1.toInt = a1_z) (hz_a2 : a2.toInt = a2_z) : Ci l yX7_isOf wsX7_isOf ({ frames := 1, cells := 0, slots := 0, locals := 48 }) G cy κ S sz [.ref x, .int (a1), .int (a2)] (fun (r : Int32) (S9 : PS) => S = S9 ∧ (((True) ∧ r = 1) ∨ ((True) ∧ r = 0))) := by
  refine ent_m (cc := cX7_isOf) (maxL := 3) (ret := (some .boolean)) (by decide) rfl (Nat.le_of_ble_eq_true rfl) ?_
  intro p e s m below meth c ls X hr hlocks hin hw hl hsz
  subst hsz
  have X : Cx p c cX7_isOf 3 s [.ref x, .int (a1), .int (a2)].toArray wsX7_isOf RX7 m G cy κ (AS S s.heap.size) := X
  have hl : lv_has ls 3 [(0, .ref x), (1, .int (a1)), (2, .int (a2))] := hl
  have rg_a1 : (-2147483648) ≤ a1_z ∧ a1_z ≤ 2147483647 := by rw [← hz_a1]; exact ⟨z_lo _, z_hi _⟩
  have rg_a2 : (-2147483648) ≤ a2_z ∧ a2_z ≤ 2147483647 := by rw [← hz_a2]; exact ⟨z_lo _, z_hi _⟩
  refine lv_aload_n X.1 X.2.1 dX7_isOf_0 rfl (lv_at hl 0 rfl) ?_
  obtain ⟨v_1, ev_1⟩ : ∃ v, pI S 700 x = v := ⟨_, rfl⟩
  have rg_3 := And.intro (z_lo v_1) (z_hi v_1)
  refine r_getI (g := 700) (x := v_1) X hw ha_x rfl 0 ev_1 (by decide) rfl inn_X7_isOf_7 (by decide) (X.2.2.2.1 (.fieldLink RX7 19 "SilkMill$Skein" "potNumber" "I") (by decide +kernel)) rfl (gv_700 _ _) dX7_isOf_1 ?_
  refine lv_iload_n X.1 X.2.1 dX7_isOf_4 rfl (lv_at hl 1 rfl) ?_
  refine lv_icmp_ne (tgt := 20) X.1 X.2.1 dX7_isOf_5 (by decide) (fun c_4 => ?_) (fun c_4 => ?_)
  · have z_b_5 := trivial
    have k_6 : v_1.toInt ≠ a1_z := z_ne rfl hz_a1 c_4
    refine lv_iconst (v := 0) X.1 X.2.1 dX7_isOf_20 (by decide) ?_
    exact ret_z X hw hr hlocks (Nat.le_of_ble_eq_true rfl) (Nat.le_of_ble_eq_true rfl) (by decide) ⟨rfl, Or.inr ⟨trivial, rfl⟩⟩ dX7_isOf_21
  · have z_b_7 := trivial
    have k_8 : v_1.toInt = a1_z := z_eq rfl hz_a1 c_4
    refine lv_aload_n X.1 X.2.1 dX7_isOf_8 rfl (lv_at hl 0 rfl) ?_
    obtain ⟨v_9, ev_9⟩ : ∃ v, pI S 702 x = v := ⟨_, rfl⟩
    have rg_11 := And.intro (z_lo v_9) (z_hi v_9)
    refine r_getI (g := 702) (x := v_9) X hw ha_x rfl 2 ev_9 (by decide) rfl inn_X7_isOf_7 (by decide) (X.2.2.2.1 (.fieldLink RX7 25 "SilkMill$Skein" "dayCut" "I") (by decide +kernel)) rfl (gv_702 _ _) dX7_isOf_9 ?_
    refine lv_iload_n X.1 X.2.1 dX7_isOf_12 rfl (lv_at hl 2 rfl) ?_
    refine lv_icmp_ne (tgt := 20) X.1 X.2.1 dX7_isOf_13 (by decide) (fun c_12 => ?_) (fun c_12 => ?_)
    · have z_b_13 := trivial
      have k_14 : v_9.toInt ≠ a2_z := z_ne rfl hz_a2 c_12
      refine lv_iconst (v := 0) X.1 X.2.1 dX7_isOf_20 (by decide) ?_
      exact ret_z X hw hr hlocks (Nat.le_of_ble_eq_true rfl) (Nat.le_of_ble_eq_true rfl) (by decide) ⟨rfl, Or.inr ⟨trivial, rfl⟩⟩ dX7_isOf_21
    · have z_b_15 := trivial
      have k_16 : v_9.toInt = a2_z := z_eq rfl hz_a2 c_12
      refine lv_iconst (v := 1) X.1 X.2.1 dX7_isOf_16 (by decide) ?_
      refine lv_goto (tgt := 21) X.1 X.2.1 dX7_isOf_17 (by decide) ?_
      exact ret_z X hw hr hlocks (Nat.le_of_ble_eq_true rfl) (Nat.le_of_ble_eq_true rfl) (by decide) ⟨rfl, Or.inl ⟨trivial, rfl⟩⟩ dX7_isOf_21
