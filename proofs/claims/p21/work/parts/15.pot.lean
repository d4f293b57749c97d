set_option maxRecDepth 20000 in
theorem ggX4_receive_X5_addLast : GoodIn wsX4_receive wsX5_addLast := goodIn_h _ [8, 0, 0, 0, 0, 0, 0, 0, 0, 22, 0, 0] [1, 2, 3, 4, 5, 6, 0, 7, 8, 9, 10, 11] (by decide +kernel) (by decide +kernel)
set_option maxRecDepth 20000 in
theorem gX4_receive_X5_addLast : GoodIn wsX4_receive (wsV RX4 56 RX5 yX5_addLast wsX5_addLast) := goodIn_app (goodIn_of _ (by decide +kernel)) ggX4_receive_X5_addLast
theorem dX4_receive_0 : decode cX4_receive 0 = .ok (.aload_n 1, 1) := by decide +kernel
theorem dX4_receive_1 : decode cX4_receive 1 = .ok (.ifnull 24, 3) := by decide +kernel
theorem dX4_receive_4 : decode cX4_receive 4 = .ok (.aload_n 1, 1) := by decide +kernel
theorem dX4_receive_5 : decode cX4_receive 5 = .ok (.aload_n 0, 1) := by decide +kernel
theorem dX4_receive_6 : decode cX4_receive 6 = .ok (.getfield 40, 3) := by decide +kernel
theorem dX4_receive_9 : decode cX4_receive 9 = .ok (.putfield 50, 3) := by decide +kernel
theorem dX4_receive_12 : decode cX4_receive 12 = .ok (.aload_n 1, 1) := by decide +kernel
theorem dX4_receive_13 : decode cX4_receive 13 = .ok (.iconst 1, 1) := by decide +kernel
theorem dX4_receive_14 : decode cX4_receive 14 = .ok (.putfield 53, 3) := by decide +kernel
theorem dX4_receive_17 : decode cX4_receive 17 = .ok (.aload_n 0, 1) := by decide +kernel
theorem dX4_receive_18 : decode cX4_receive 18 = .ok (.getfield 14, 3) := by decide +kernel
theorem dX4_receive_21 : decode cX4_receive 21 = .ok (.aload_n 1, 1) := by decide +kernel
theorem dX4_receive_22 : decode cX4_receive 22 = .ok (.invokevirtual 56, 3) := by decide +kernel
theorem dX4_receive_25 : decode cX4_receive 25 = .ok (.return_, 1) := by decide +kernel
theorem dX4_rowNumbered_0 : decode cX4_rowNumbered 0 = .ok (.iload_n 1, 1) := by decide +kernel
theorem dX4_rowNumbered_1 : decode cX4_rowNumbered 1 = .ok (.tableswitch 42 0 2 #[27, 32, 37], 27) := by decide +kernel
theorem dX4_rowNumbered_28 : decode cX4_rowNumbered 28 = .ok (.aload_n 0, 1) := by decide +kernel
theorem dX4_rowNumbered_29 : decode cX4_rowNumbered 29 = .ok (.getfield 14, 3) := by decide +kernel
theorem dX4_rowNumbered_32 : decode cX4_rowNumbered 32 = .ok (.areturn, 1) := by decide +kernel
theorem dX4_rowNumbered_33 : decode cX4_rowNumbered 33 = .ok (.aload_n 0, 1) := by decide +kernel
theorem dX4_rowNumbered_34 : decode cX4_rowNumbered 34 = .ok (.getfield 20, 3) := by decide +kernel
theorem dX4_rowNumbered_37 : decode cX4_rowNumbered 37 = .ok (.areturn, 1) := by decide +kernel
theorem dX4_rowNumbered_38 : decode cX4_rowNumbered 38 = .ok (.aload_n 0, 1) := by decide +kernel
theorem dX4_rowNumbered_39 : decode cX4_rowNumbered 39 = .ok (.getfield 23, 3) := by decide +kernel
theorem dX4_rowNumbered_42 : decode cX4_rowNumbered 42 = .ok (.areturn, 1) := by decide +kernel
theorem dX4_rowNumbered_43 : decode cX4_rowNumbered 43 = .ok (.aconst_null, 1) := by decide +kernel
theorem dX4_rowNumbered_44 : decode cX4_rowNumbered 44 = .ok (.areturn, 1) := by decide +kernel
set_option maxRecDepth 20000 in
theorem ggX4_searchLost_X4_fetchLost : GoodIn wsX4_searchLost wsX4_fetchLost := goodIn_h _ [1, 0, 0, 5, 0, 0, 0, 0, 0, 0, 0, 0, 0, 0, 0, 0, 0, 0, 0, 0, 0, 0, 0, 0, 0, 0, 0, 0, 0, 0, 0, 0, 0, 0, 0, 0, 0, 0, 0, 0, 0, 0, 0, 0, 0, 0, 0] [3, 0, 4, 5, 1, 2, 6, 7, 8, 9, 10, 11, 12, 13, 14, 15, 16, 17, 18, 19, 20, 21, 22, 23, 24, 25, 26, 27, 28, 29, 30, 31, 32, 33, 37, 38, 39, 40, 41, 42, 43, 44, 45, 46, 34, 35, 36] (by decide +kernel) (by decide +kernel)
set_option maxRecDepth 20000 in
theorem gX4_searchLost_X4_fetchLost : GoodIn wsX4_searchLost (wsV RX4 94 RX4 yX4_fetchLost wsX4_fetchLost) := goodIn_app (goodIn_of _ (by decide +kernel)) ggX4_searchLost_X4_fetchLost
theorem dX4_searchLost_0 : decode cX4_searchLost 0 = .ok (.aload_n 0, 1) := by decide +kernel
theorem dX4_searchLost_1 : decode cX4_searchLost 1 = .ok (.getfield 23, 3) := by decide +kernel
theorem dX4_searchLost_4 : decode cX4_searchLost 4 = .ok (.getfield 73, 3) := by decide +kernel
theorem dX4_searchLost_7 : decode cX4_searchLost 7 = .ok (.ifCond .ne 4, 3) := by decide +kernel
theorem dX4_searchLost_10 : decode cX4_searchLost 10 = .ok (.return_, 1) := by decide +kernel
theorem dX4_searchLost_11 : decode cX4_searchLost 11 = .ok (.aload_n 0, 1) := by decide +kernel
theorem dX4_searchLost_12 : decode cX4_searchLost 12 = .ok (.dup, 1) := by decide +kernel
theorem dX4_searchLost_13 : decode cX4_searchLost 13 = .ok (.getfield 91, 3) := by decide +kernel
theorem dX4_searchLost_16 : decode cX4_searchLost 16 = .ok (.iconst 1, 1) := by decide +kernel
theorem dX4_searchLost_17 : decode cX4_searchLost 17 = .ok (.iadd, 1) := by decide +kernel
theorem dX4_searchLost_18 : decode cX4_searchLost 18 = .ok (.putfield 91, 3) := by decide +kernel
theorem dX4_searchLost_21 : decode cX4_searchLost 21 = .ok (.aload_n 0, 1) := by decide +kernel
theorem dX4_searchLost_22 : decode cX4_searchLost 22 = .ok (.getfield 91, 3) := by decide +kernel
theorem dX4_searchLost_25 : decode cX4_searchLost 25 = .ok (.aload_n 0, 1) := by decide +kernel
theorem dX4_searchLost_26 : decode cX4_searchLost 26 = .ok (.getfield 47, 3) := by decide +kernel
theorem dX4_searchLost_29 : decode cX4_searchLost 29 = .ok (.if_icmp .lt 12, 3) := by decide +kernel
theorem dX4_searchLost_32 : decode cX4_searchLost 32 = .ok (.aload_n 0, 1) := by decide +kernel
theorem dX4_searchLost_33 : decode cX4_searchLost 33 = .ok (.iconst 0, 1) := by decide +kernel
theorem dX4_searchLost_34 : decode cX4_searchLost 34 = .ok (.putfield 91, 3) := by decide +kernel
theorem dX4_searchLost_37 : decode cX4_searchLost 37 = .ok (.aload_n 0, 1) := by decide +kernel
theorem dX4_searchLost_38 : decode cX4_searchLost 38 = .ok (.invokevirtual 94, 3) := by decide +kernel
theorem dX4_searchLost_41 : decode cX4_searchLost 41 = .ok (.return_, 1) := by decide +kernel
set_option maxRecDepth 20000 in
theorem ggX4_fetchLost_X5_removeFirst : GoodIn wsX4_fetchLost wsX5_removeFirst := goodIn_h _ [9, 0, 0, 0, 0, 0, 0, 0, 0, 26, 0, 0] [1, 2, 3, 4, 5, 6, 7, 0, 8, 9, 10, 11] (by decide +kernel) (by decide +kernel)
set_option maxRecDepth 20000 in
theorem gX4_fetchLost_X5_removeFirst : GoodIn wsX4_fetchLost (wsV RX4 97 RX5 yX5_removeFirst wsX5_removeFirst) := goodIn_app (goodIn_of _ (by decide +kernel)) ggX4_fetchLost_X5_removeFirst
set_option maxRecDepth 20000 in
theorem ggX4_fetchLost_X5_addLast : GoodIn wsX4_fetchLost wsX5_addLast := goodIn_h _ [9, 1, 0, 0, 0, 0, 0, 0, 3, 22, 0, 0] [8, 1, 2, 4, 5, 6, 0, 7, 3, 9, 10, 11] (by decide +kernel) (by decide +kernel)
set_option maxRecDepth 20000 in
theorem gX4_fetchLost_X5_addLast : GoodIn wsX4_fetchLost (wsV RX4 56 RX5 yX5_addLast wsX5_addLast) := goodIn_app (goodIn_of _ (by decide +kernel)) ggX4_fetchLost_X5_addLast
theorem dX4_fetchLost_0 : decode cX4_fetchLost 0 = .ok (.aload_n 0, 1) := by decide +kernel
theorem dX4_fetchLost_1 : decode cX4_fetchLost 1 = .ok (.getfield 23, 3) := by decide +kernel
theorem dX4_fetchLost_4 : decode cX4_fetchLost 4 = .ok (.invokevirtual 97, 3) := by decide +kernel
theorem dX4_fetchLost_7 : decode cX4_fetchLost 7 = .ok (.astore_n 1, 1) := by decide +kernel
theorem dX4_fetchLost_8 : decode cX4_fetchLost 8 = .ok (.aload_n 1, 1) := by decide +kernel
theorem dX4_fetchLost_9 : decode cX4_fetchLost 9 = .ok (.ifnull 16, 3) := by decide +kernel
theorem dX4_fetchLost_12 : decode cX4_fetchLost 12 = .ok (.aload_n 1, 1) := by decide +kernel
theorem dX4_fetchLost_13 : decode cX4_fetchLost 13 = .ok (.iconst 1, 1) := by decide +kernel
theorem dX4_fetchLost_14 : decode cX4_fetchLost 14 = .ok (.putfield 53, 3) := by decide +kernel
theorem dX4_fetchLost_17 : decode cX4_fetchLost 17 = .ok (.aload_n 0, 1) := by decide +kernel
theorem dX4_fetchLost_18 : decode cX4_fetchLost 18 = .ok (.getfield 14, 3) := by decide +kernel
theorem dX4_fetchLost_21 : decode cX4_fetchLost 21 = .ok (.aload_n 1, 1) := by decide +kernel
theorem dX4_fetchLost_22 : decode cX4_fetchLost 22 = .ok (.invokevirtual 56, 3) := by decide +kernel
theorem dX4_fetchLost_25 : decode cX4_fetchLost 25 = .ok (.aload_n 0, 1) := by decide +kernel
theorem dX4_fetchLost_26 : decode cX4_fetchLost 26 = .ok (.getfield 23, 3) := by decide +kernel
theorem dX4_fetchLost_29 : decode cX4_fetchLost 29 = .ok (.getfield 73, 3) := by decide +kernel
theorem dX4_fetchLost_32 : decode cX4_fetchLost 32 = .ok (.ifCond .ne 8, 3) := by decide +kernel
theorem dX4_fetchLost_35 : decode cX4_fetchLost 35 = .ok (.aload_n 0, 1) := by decide +kernel
theorem dX4_fetchLost_36 : decode cX4_fetchLost 36 = .ok (.iconst 0, 1) := by decide +kernel
theorem dX4_fetchLost_37 : decode cX4_fetchLost 37 = .ok (.putfield 91, 3) := by decide +kernel
theorem dX4_fetchLost_40 : decode cX4_fetchLost 40 = .ok (.return_, 1) := by decide +kernel
set_option maxRecDepth 20000 in
theorem ggX4_allHold_X4_valueOf : GoodIn wsX4_allHold wsX4_valueOf := goodIn_h _ [9, 0, 0, 0, 0, 0, 0, 0, 0, 0, 0, 0, 0, 0, 0, 0, 0, 0, 0, 0, 0, 0, 0, 0, 0, 0, 0, 0, 0, 0, 0, 0, 0, 0, 0, 0, 0, 0, 0, 0, 0, 0, 0, 3, 0, 0, 0, 0, 0, 0, 0, 0, 0, 0, 0, 7, 0, 0, 0, 0, 0, 0, 0, 0, 0, 0, 0, 0, 0, 0, 0, 0, 0, 0, 0, 0, 0] [1, 2, 3, 4, 5, 6, 7, 8, 9, 10, 11, 12, 13, 14, 15, 16, 17, 18, 19, 20, 21, 22, 23, 24, 25, 26, 27, 28, 29, 30, 31, 32, 33, 34, 35, 36, 37, 38, 39, 0, 40, 41, 42, 43, 44, 45, 46, 47, 48, 49, 50, 51, 52, 53, 54, 55, 56, 57, 58, 59, 60, 61, 62, 63, 64, 65, 66, 67, 68, 69, 70, 71, 72, 73, 74, 75, 76] (by decide +kernel) (by decide +kernel)
set_option maxRecDepth 20000 in
theorem gX4_allHold_X4_valueOf : GoodIn wsX4_allHold (wsV RX4 126 RX4 yX4_valueOf wsX4_valueOf) := goodIn_app (goodIn_of _ (by decide +kernel)) ggX4_allHold_X4_valueOf
set_option maxRecDepth 20000 in
theorem ggX4_allHold_X4_isRelated : GoodIn wsX4_allHold wsX4_isRelated := goodIn_h _ [54] [0] (by decide +kernel) (by decide +kernel)
set_option maxRecDepth 20000 in
theorem gX4_allHold_X4_isRelated : GoodIn wsX4_allHold (va_wsS RX4 136 yX4_isRelated wsX4_isRelated) := goodIn_app (goodIn_of _ (by decide +kernel)) ggX4_allHold_X4_isRelated
theorem dX4_allHold_0 : decode cX4_allHold 0 = .ok (.iload_n 1, 1) := by decide +kernel
theorem dX4_allHold_1 : decode cX4_allHold 1 = .ok (.iconst 4, 1) := by decide +kernel
theorem dX4_allHold_2 : decode cX4_allHold 2 = .ok (.imul, 1) := by decide +kernel
theorem dX4_allHold_3 : decode cX4_allHold 3 = .ok (.istore_n 3, 1) := by decide +kernel
theorem dX4_allHold_4 : decode cX4_allHold 4 = .ok (.iload_n 3, 1) := by decide +kernel
theorem dX4_allHold_5 : decode cX4_allHold 5 = .ok (.istore 4, 2) := by decide +kernel
theorem dX4_allHold_7 : decode cX4_allHold 7 = .ok (.iload 4, 2) := by decide +kernel
theorem dX4_allHold_9 : decode cX4_allHold 9 = .ok (.iload_n 3, 1) := by decide +kernel
theorem dX4_allHold_10 : decode cX4_allHold 10 = .ok (.aload_n 0, 1) := by decide +kernel
theorem dX4_allHold_11 : decode cX4_allHold 11 = .ok (.getfield 36, 3) := by decide +kernel
theorem dX4_allHold_14 : decode cX4_allHold 14 = .ok (.getfield 120, 3) := by decide +kernel
theorem dX4_allHold_17 : decode cX4_allHold 17 = .ok (.iload_n 1, 1) := by decide +kernel
theorem dX4_allHold_18 : decode cX4_allHold 18 = .ok (.iaload, 1) := by decide +kernel
theorem dX4_allHold_19 : decode cX4_allHold 19 = .ok (.iadd, 1) := by decide +kernel
theorem dX4_allHold_20 : decode cX4_allHold 20 = .ok (.if_icmp .ge 56, 3) := by decide +kernel
theorem dX4_allHold_23 : decode cX4_allHold 23 = .ok (.aload_n 0, 1) := by decide +kernel
theorem dX4_allHold_24 : decode cX4_allHold 24 = .ok (.aload_n 0, 1) := by decide +kernel
theorem dX4_allHold_25 : decode cX4_allHold 25 = .ok (.getfield 36, 3) := by decide +kernel
theorem dX4_allHold_28 : decode cX4_allHold 28 = .ok (.getfield 123, 3) := by decide +kernel
theorem dX4_allHold_31 : decode cX4_allHold 31 = .ok (.iload 4, 2) := by decide +kernel
theorem dX4_allHold_33 : decode cX4_allHold 33 = .ok (.iaload, 1) := by decide +kernel
theorem dX4_allHold_34 : decode cX4_allHold 34 = .ok (.iload_n 2, 1) := by decide +kernel
theorem dX4_allHold_35 : decode cX4_allHold 35 = .ok (.invokevirtual 126, 3) := by decide +kernel
theorem dX4_allHold_38 : decode cX4_allHold 38 = .ok (.istore 5, 2) := by decide +kernel
theorem dX4_allHold_40 : decode cX4_allHold 40 = .ok (.iload 5, 2) := by decide +kernel
theorem dX4_allHold_42 : decode cX4_allHold 42 = .ok (.aload_n 0, 1) := by decide +kernel
theorem dX4_allHold_43 : decode cX4_allHold 43 = .ok (.getfield 36, 3) := by decide +kernel
theorem dX4_allHold_46 : decode cX4_allHold 46 = .ok (.getfield 130, 3) := by decide +kernel
theorem dX4_allHold_49 : decode cX4_allHold 49 = .ok (.iload 4, 2) := by decide +kernel
theorem dX4_allHold_51 : decode cX4_allHold 51 = .ok (.iaload, 1) := by decide +kernel
theorem dX4_allHold_52 : decode cX4_allHold 52 = .ok (.aload_n 0, 1) := by decide +kernel
theorem dX4_allHold_53 : decode cX4_allHold 53 = .ok (.getfield 36, 3) := by decide +kernel
theorem dX4_allHold_56 : decode cX4_allHold 56 = .ok (.getfield 133, 3) := by decide +kernel
theorem dX4_allHold_59 : decode cX4_allHold 59 = .ok (.iload 4, 2) := by decide +kernel
theorem dX4_allHold_61 : decode cX4_allHold 61 = .ok (.iaload, 1) := by decide +kernel
theorem dX4_allHold_62 : decode cX4_allHold 62 = .ok (.invokestatic 136, 3) := by decide +kernel
theorem dX4_allHold_65 : decode cX4_allHold 65 = .ok (.ifCond .ne 5, 3) := by decide +kernel
theorem dX4_allHold_68 : decode cX4_allHold 68 = .ok (.iconst 0, 1) := by decide +kernel
theorem dX4_allHold_69 : decode cX4_allHold 69 = .ok (.ireturn, 1) := by decide +kernel
theorem dX4_allHold_70 : decode cX4_allHold 70 = .ok (.iinc 4 1, 3) := by decide +kernel
theorem dX4_allHold_73 : decode cX4_allHold 73 = .ok (.goto (-66), 3) := by decide +kernel
theorem dX4_allHold_76 : decode cX4_allHold 76 = .ok (.iconst 1, 1) := by decide +kernel
theorem dX4_allHold_77 : decode cX4_allHold 77 = .ok (.ireturn, 1) := by decide +kernel
set_option maxRecDepth 20000 in
theorem ggX4_valueOf_X5_sumOfFineness : GoodIn wsX4_valueOf wsX5_sumOfFineness := goodIn_h _ [10, 0, 0, 0, 0, 0, 0, 0, 0, 0, 0, 0, 0, 0, 0, 0, 0, 0, 0, 0, 0, 24, 0, 0, 9, 0, 0, 0, 0, 0, 0, 0, 0, 0] [1, 2, 3, 4, 5, 6, 0, 7, 8, 9, 10, 11, 12, 13, 14, 15, 16, 17, 18, 19, 20, 21, 22, 23, 24, 25, 26, 27, 28, 29, 30, 31, 32, 33] (by decide +kernel) (by decide +kernel)
set_option maxRecDepth 20000 in
theorem gX4_valueOf_X5_sumOfFineness : GoodIn wsX4_valueOf (wsV RX4 140 RX5 yX5_sumOfFineness wsX5_sumOfFineness) := goodIn_app (goodIn_of _ (by decide +kernel)) ggX4_valueOf_X5_sumOfFineness
set_option maxRecDepth 20000 in
theorem ggX4_valueOf_X5_thinnest : GoodIn wsX4_valueOf wsX5_thinnest := goodIn_h _ [10, 1, 0, 0, 0, 0, 0, 0, 0, 0, 0, 0, 0, 0, 0, 0, 0, 0, 0, 0, 3, 0, 19, 0, 0, 9, 0, 0, 0, 0, 0, 0, 0, 0, 0] [20, 21, 1, 2, 3, 4, 5, 0, 6, 7, 8, 9, 10, 11, 12, 13, 14, 15, 16, 17, 18, 19, 22, 23, 24, 25, 26, 27, 28, 29, 30, 31, 32, 33, 34] (by decide +kernel) (by decide +kernel)
set_option maxRecDepth 20000 in
theorem gX4_valueOf_X5_thinnest : GoodIn wsX4_valueOf (wsV RX4 144 RX5 yX5_thinnest wsX5_thinnest) := goodIn_app (goodIn_of _ (by decide +kernel)) ggX4_valueOf_X5_thinnest
set_option maxRecDepth 20000 in
theorem ggX4_valueOf_X5_at : GoodIn wsX4_valueOf wsX5_at := goodIn_h _ [10, 1, 4, 0, 0, 0, 0, 0, 0, 31, 0, 0] [2, 1, 3, 4, 5, 6, 0, 7, 8, 9, 10, 11] (by decide +kernel) (by decide +kernel)
set_option maxRecDepth 20000 in
theorem gX4_valueOf_X5_at : GoodIn wsX4_valueOf (wsV RX4 147 RX5 yX5_at wsX5_at) := goodIn_app (goodIn_of _ (by decide +kernel)) ggX4_valueOf_X5_at
set_option maxRecDepth 20000 in
theorem ggX4_valueOf_X4_finenessOf : GoodIn wsX4_valueOf wsX4_finenessOf := goodIn_h _ [25, 0, 0, 0, 0, 0, 9, 0, 0, 24, 0, 0, 0, 0, 0, 0, 0, 0, 0] [6, 7, 8, 0, 1, 2, 3, 4, 5, 9, 10, 11, 12, 13, 14, 15, 16, 17, 18] (by decide +kernel) (by decide +kernel)
set_option maxRecDepth 20000 in
theorem gX4_valueOf_X4_finenessOf : GoodIn wsX4_valueOf (va_wsS RX4 151 yX4_finenessOf wsX4_finenessOf) := goodIn_app (goodIn_of _ (by decide +kernel)) ggX4_valueOf_X4_finenessOf
theorem dX4_valueOf_0 : decode cX4_valueOf 0 = .ok (.iload_n 1, 1) := by decide +kernel
theorem dX4_valueOf_1 : decode cX4_valueOf 1 = .ok (.tableswitch 97 0 5 #[39, 47, 55, 63, 71, 79], 39) := by decide +kernel
theorem dX4_valueOf_40 : decode cX4_valueOf 40 = .ok (.aload_n 0, 1) := by decide +kernel
theorem dX4_valueOf_41 : decode cX4_valueOf 41 = .ok (.getfield 20, 3) := by decide +kernel
theorem dX4_valueOf_44 : decode cX4_valueOf 44 = .ok (.invokevirtual 140, 3) := by decide +kernel
theorem dX4_valueOf_47 : decode cX4_valueOf 47 = .ok (.ireturn, 1) := by decide +kernel
theorem dX4_valueOf_48 : decode cX4_valueOf 48 = .ok (.aload_n 0, 1) := by decide +kernel
theorem dX4_valueOf_49 : decode cX4_valueOf 49 = .ok (.getfield 20, 3) := by decide +kernel
theorem dX4_valueOf_52 : decode cX4_valueOf 52 = .ok (.getfield 73, 3) := by decide +kernel
theorem dX4_valueOf_55 : decode cX4_valueOf 55 = .ok (.ireturn, 1) := by decide +kernel
theorem dX4_valueOf_56 : decode cX4_valueOf 56 = .ok (.aload_n 0, 1) := by decide +kernel
theorem dX4_valueOf_57 : decode cX4_valueOf 57 = .ok (.getfield 14, 3) := by decide +kernel
theorem dX4_valueOf_60 : decode cX4_valueOf 60 = .ok (.getfield 73, 3) := by decide +kernel
theorem dX4_valueOf_63 : decode cX4_valueOf 63 = .ok (.ireturn, 1) := by decide +kernel
theorem dX4_valueOf_64 : decode cX4_valueOf 64 = .ok (.aload_n 0, 1) := by decide +kernel
theorem dX4_valueOf_65 : decode cX4_valueOf 65 = .ok (.getfield 23, 3) := by decide +kernel
theorem dX4_valueOf_68 : decode cX4_valueOf 68 = .ok (.getfield 73, 3) := by decide +kernel
theorem dX4_valueOf_71 : decode cX4_valueOf 71 = .ok (.ireturn, 1) := by decide +kernel
theorem dX4_valueOf_72 : decode cX4_valueOf 72 = .ok (.aload_n 0, 1) := by decide +kernel
theorem dX4_valueOf_73 : decode cX4_valueOf 73 = .ok (.getfield 29, 3) := by decide +kernel
theorem dX4_valueOf_76 : decode cX4_valueOf 76 = .ok (.getfield 79, 3) := by decide +kernel
theorem dX4_valueOf_79 : decode cX4_valueOf 79 = .ok (.ireturn, 1) := by decide +kernel
theorem dX4_valueOf_80 : decode cX4_valueOf 80 = .ok (.aload_n 0, 1) := by decide +kernel
theorem dX4_valueOf_81 : decode cX4_valueOf 81 = .ok (.getfield 20, 3) := by decide +kernel
theorem dX4_valueOf_84 : decode cX4_valueOf 84 = .ok (.aload_n 0, 1) := by decide +kernel
theorem dX4_valueOf_85 : decode cX4_valueOf 85 = .ok (.getfield 20, 3) := by decide +kernel
theorem dX4_valueOf_88 : decode cX4_valueOf 88 = .ok (.invokevirtual 144, 3) := by decide +kernel
theorem dX4_valueOf_91 : decode cX4_valueOf 91 = .ok (.invokevirtual 147, 3) := by decide +kernel
theorem dX4_valueOf_94 : decode cX4_valueOf 94 = .ok (.invokestatic 151, 3) := by decide +kernel
theorem dX4_valueOf_97 : decode cX4_valueOf 97 = .ok (.ireturn, 1) := by decide +kernel
theorem dX4_valueOf_98 : decode cX4_valueOf 98 = .ok (.iload_n 2, 1) := by decide +kernel
theorem dX4_valueOf_99 : decode cX4_valueOf 99 = .ok (.ireturn, 1) := by decide +kernel
theorem dX4_isRelated_0 : decode cX4_isRelated 0 = .ok (.iload_n 1, 1) := by decide +kernel
theorem dX4_isRelated_1 : decode cX4_isRelated 1 = .ok (.bipush 60, 2) := by decide +kernel
theorem dX4_isRelated_3 : decode cX4_isRelated 3 = .ok (.if_icmp .ne 14, 3) := by decide +kernel
theorem dX4_isRelated_6 : decode cX4_isRelated 6 = .ok (.iload_n 0, 1) := by decide +kernel
theorem dX4_isRelated_7 : decode cX4_isRelated 7 = .ok (.iload_n 2, 1) := by decide +kernel
theorem dX4_isRelated_8 : decode cX4_isRelated 8 = .ok (.if_icmp .ge 7, 3) := by decide +kernel
theorem dX4_isRelated_11 : decode cX4_isRelated 11 = .ok (.iconst 1, 1) := by decide +kernel
theorem dX4_isRelated_12 : decode cX4_isRelated 12 = .ok (.goto 4, 3) := by decide +kernel
theorem dX4_isRelated_15 : decode cX4_isRelated 15 = .ok (.iconst 0, 1) := by decide +kernel
theorem dX4_isRelated_16 : decode cX4_isRelated 16 = .ok (.ireturn, 1) := by decide +kernel
theorem dX4_isRelated_17 : decode cX4_isRelated 17 = .ok (.iload_n 1, 1) := by decide +kernel
theorem dX4_isRelated_18 : decode cX4_isRelated 18 = .ok (.bipush 61, 2) := by decide +kernel
theorem dX4_isRelated_20 : decode cX4_isRelated 20 = .ok (.if_icmp .ne 16, 3) := by decide +kernel
theorem dX4_isRelated_23 : decode cX4_isRelated 23 = .ok (.iload_n 0, 1) := by decide +kernel
theorem dX4_isRelated_24 : decode cX4_isRelated 24 = .ok (.iload_n 2, 1) := by decide +kernel
theorem dX4_isRelated_25 : decode cX4_isRelated 25 = .ok (.if_icmp .ne 7, 3) := by decide +kernel
theorem dX4_isRelated_28 : decode cX4_isRelated 28 = .ok (.iconst 1, 1) := by decide +kernel
theorem dX4_isRelated_29 : decode cX4_isRelated 29 = .ok (.goto 17, 3) := by decide +kernel
theorem dX4_isRelated_32 : decode cX4_isRelated 32 = .ok (.iconst 0, 1) := by decide +kernel
theorem dX4_isRelated_33 : decode cX4_isRelated 33 = .ok (.goto 13, 3) := by decide +kernel
theorem dX4_isRelated_36 : decode cX4_isRelated 36 = .ok (.iload_n 0, 1) := by decide +kernel
theorem dX4_isRelated_37 : decode cX4_isRelated 37 = .ok (.iload_n 2, 1) := by decide +kernel
theorem dX4_isRelated_38 : decode cX4_isRelated 38 = .ok (.if_icmp .le 7, 3) := by decide +kernel
theorem dX4_isRelated_41 : decode cX4_isRelated 41 = .ok (.iconst 1, 1) := by decide +kernel
theorem dX4_isRelated_42 : decode cX4_isRelated 42 = .ok (.goto 4, 3) := by decide +kernel
theorem dX4_isRelated_45 : decode cX4_isRelated 45 = .ok (.iconst 0, 1) := by decide +kernel
theorem dX4_isRelated_46 : decode cX4_isRelated 46 = .ok (.ireturn, 1) := by decide +kernel
set_option maxRecDepth 20000 in
theorem ggX4_castFirst_X5_removeFirst : GoodIn wsX4_castFirst wsX5_removeFirst := goodIn_h _ [8, 0, 0, 0, 0, 0, 0, 0, 0, 16, 0, 0] [1, 2, 3, 4, 5, 6, 7, 0, 8, 9, 10, 11] (by decide +kernel) (by decide +kernel)
set_option maxRecDepth 20000 in
theorem gX4_castFirst_X5_removeFirst : GoodIn wsX4_castFirst (wsV RX4 97 RX5 yX5_removeFirst wsX5_removeFirst) := goodIn_app (goodIn_of _ (by decide +kernel)) ggX4_castFirst_X5_removeFirst
set_option maxRecDepth 20000 in
theorem ggX4_castFirst_X5_addLast : GoodIn wsX4_castFirst wsX5_addLast := goodIn_h _ [8, 1, 0, 0, 0, 0, 0, 0, 3, 12, 0, 0] [8, 1, 2, 4, 5, 6, 0, 7, 3, 9, 10, 11] (by decide +kernel) (by decide +kernel)
set_option maxRecDepth 20000 in
theorem gX4_castFirst_X5_addLast : GoodIn wsX4_castFirst (wsV RX4 56 RX5 yX5_addLast wsX5_addLast) := goodIn_app (goodIn_of _ (by decide +kernel)) ggX4_castFirst_X5_addLast
theorem dX4_castFirst_0 : decode cX4_castFirst 0 = .ok (.aload_n 0, 1) := by decide +kernel
theorem dX4_castFirst_1 : decode cX4_castFirst 1 = .ok (.getfield 14, 3) := by decide +kernel
theorem dX4_castFirst_4 : decode cX4_castFirst 4 = .ok (.getfield 73, 3) := by decide +kernel
theorem dX4_castFirst_7 : decode cX4_castFirst 7 = .ok (.ifCond .le 40, 3) := by decide +kernel
theorem dX4_castFirst_10 : decode cX4_castFirst 10 = .ok (.aload_n 0, 1) := by decide +kernel
theorem dX4_castFirst_11 : decode cX4_castFirst 11 = .ok (.getfield 20, 3) := by decide +kernel
theorem dX4_castFirst_14 : decode cX4_castFirst 14 = .ok (.getfield 73, 3) := by decide +kernel
theorem dX4_castFirst_17 : decode cX4_castFirst 17 = .ok (.bipush 12, 2) := by decide +kernel
theorem dX4_castFirst_19 : decode cX4_castFirst 19 = .ok (.if_icmp .ge 28, 3) := by decide +kernel
theorem dX4_castFirst_22 : decode cX4_castFirst 22 = .ok (.aload_n 0, 1) := by decide +kernel
theorem dX4_castFirst_23 : decode cX4_castFirst 23 = .ok (.getfield 14, 3) := by decide +kernel
theorem dX4_castFirst_26 : decode cX4_castFirst 26 = .ok (.invokevirtual 97, 3) := by decide +kernel
theorem dX4_castFirst_29 : decode cX4_castFirst 29 = .ok (.astore_n 1, 1) := by decide +kernel
theorem dX4_castFirst_30 : decode cX4_castFirst 30 = .ok (.aload_n 1, 1) := by decide +kernel
theorem dX4_castFirst_31 : decode cX4_castFirst 31 = .ok (.ifnull 16, 3) := by decide +kernel
theorem dX4_castFirst_34 : decode cX4_castFirst 34 = .ok (.aload_n 1, 1) := by decide +kernel
theorem dX4_castFirst_35 : decode cX4_castFirst 35 = .ok (.iconst 2, 1) := by decide +kernel
theorem dX4_castFirst_36 : decode cX4_castFirst 36 = .ok (.putfield 53, 3) := by decide +kernel
theorem dX4_castFirst_39 : decode cX4_castFirst 39 = .ok (.aload_n 0, 1) := by decide +kernel
theorem dX4_castFirst_40 : decode cX4_castFirst 40 = .ok (.getfield 20, 3) := by decide +kernel
theorem dX4_castFirst_43 : decode cX4_castFirst 43 = .ok (.aload_n 1, 1) := by decide +kernel
theorem dX4_castFirst_44 : decode cX4_castFirst 44 = .ok (.invokevirtual 56, 3) := by decide +kernel
theorem dX4_castFirst_47 : decode cX4_castFirst 47 = .ok (.return_, 1) := by decide +kernel
set_option maxRecDepth 20000 in
theorem ggX4_dropThinnest_X5_thinnest : GoodIn wsX4_dropThinnest wsX5_thinnest := goodIn_h _ [7, 0, 0, 0, 0, 0, 0, 0, 0, 0, 0, 0, 0, 0, 0, 0, 0, 0, 0, 0, 0, 0, 20, 0, 0, 0, 0, 0, 0, 0, 0, 0, 0, 0, 0] [1, 2, 3, 4, 5, 6, 7, 0, 8, 9, 10, 11, 12, 13, 14, 15, 16, 17, 18, 19, 20, 21, 32, 33, 34, 22, 23, 24, 25, 26, 27, 28, 29, 30, 31] (by decide +kernel) (by decide +kernel)
set_option maxRecDepth 20000 in
theorem gX4_dropThinnest_X5_thinnest : GoodIn wsX4_dropThinnest (wsV RX4 144 RX5 yX5_thinnest wsX5_thinnest) := goodIn_app (goodIn_of _ (by decide +kernel)) ggX4_dropThinnest_X5_thinnest
set_option maxRecDepth 20000 in
theorem ggX4_dropThinnest_X5_removeAt : GoodIn wsX4_dropThinnest wsX5_removeAt := goodIn_h _ [7, 2, 1, 0, 0, 0, 0, 0, 0, 0, 0, 0, 10, 26, 0, 0] [12, 1, 6, 2, 3, 4, 0, 5, 7, 8, 9, 10, 11, 13, 14, 15] (by decide +kernel) (by decide +kernel)
set_option maxRecDepth 20000 in
theorem gX4_dropThinnest_X5_removeAt : GoodIn wsX4_dropThinnest (wsV RX4 171 RX5 yX5_removeAt wsX5_removeAt) := goodIn_app (goodIn_of _ (by decide +kernel)) ggX4_dropThinnest_X5_removeAt
set_option maxRecDepth 20000 in
theorem ggX4_dropThinnest_X5_addFirst : GoodIn wsX4_dropThinnest wsX5_addFirst := goodIn_h _ [10, 5, 4, 14, 22, 0, 0] [3, 0, 1, 2, 4, 5, 6] (by decide +kernel) (by decide +kernel)
set_option maxRecDepth 20000 in
theorem gX4_dropThinnest_X5_addFirst : GoodIn wsX4_dropThinnest (wsV RX4 174 RX5 yX5_addFirst wsX5_addFirst) := goodIn_app (goodIn_of _ (by decide +kernel)) ggX4_dropThinnest_X5_addFirst
theorem dX4_dropThinnest_0 : decode cX4_dropThinnest 0 = .ok (.aload_n 0, 1) := by decide +kernel
theorem dX4_dropThinnest_1 : decode cX4_dropThinnest 1 = .ok (.getfield 20, 3) := by decide +kernel
theorem dX4_dropThinnest_4 : decode cX4_dropThinnest 4 = .ok (.aload_n 0, 1) := by decide +kernel
theorem dX4_dropThinnest_5 : decode cX4_dropThinnest 5 = .ok (.getfield 20, 3) := by decide +kernel
theorem dX4_dropThinnest_8 : decode cX4_dropThinnest 8 = .ok (.invokevirtual 144, 3) := by decide +kernel
theorem dX4_dropThinnest_11 : decode cX4_dropThinnest 11 = .ok (.invokevirtual 171, 3) := by decide +kernel
theorem dX4_dropThinnest_14 : decode cX4_dropThinnest 14 = .ok (.astore_n 1, 1) := by decide +kernel
theorem dX4_dropThinnest_15 : decode cX4_dropThinnest 15 = .ok (.aload_n 1, 1) := by decide +kernel
theorem dX4_dropThinnest_16 : decode cX4_dropThinnest 16 = .ok (.ifnull 16, 3) := by decide +kernel
theorem dX4_dropThinnest_19 : decode cX4_dropThinnest 19 = .ok (.aload_n 1, 1) := by decide +kernel
theorem dX4_dropThinnest_20 : decode cX4_dropThinnest 20 = .ok (.iconst 1, 1) := by decide +kernel
theorem dX4_dropThinnest_21 : decode cX4_dropThinnest 21 = .ok (.putfield 53, 3) := by decide +kernel
theorem dX4_dropThinnest_24 : decode cX4_dropThinnest 24 = .ok (.aload_n 0, 1) := by decide +kernel
theorem dX4_dropThinnest_25 : decode cX4_dropThinnest 25 = .ok (.getfield 14, 3) := by decide +kernel
theorem dX4_dropThinnest_28 : decode cX4_dropThinnest 28 = .ok (.aload_n 1, 1) := by decide +kernel
theorem dX4_dropThinnest_29 : decode cX4_dropThinnest 29 = .ok (.invokevirtual 174, 3) := by decide +kernel
theorem dX4_dropThinnest_32 : decode cX4_dropThinnest 32 = .ok (.return_, 1) := by decide +kernel
set_option maxRecDepth 20000 in
theorem ggX4_findFirst_X4_fetchLost : GoodIn wsX4_findFirst wsX4_fetchLost := goodIn_h _ [1, 0, 5, 0, 0, 0, 0, 0, 0, 0, 0, 0, 0, 0, 0, 0, 0, 0, 0, 0, 0, 0, 0, 0, 0, 0, 0, 0, 0, 0, 0, 0, 0, 0, 0, 0, 0, 0, 0, 0, 0, 0, 0, 0, 0, 0, 0] [2, 0, 3, 4, 1, 5, 6, 7, 8, 9, 10, 11, 12, 13, 14, 15, 16, 17, 18, 19, 20, 21, 22, 23, 24, 25, 26, 27, 28, 29, 30, 31, 32, 33, 37, 38, 39, 40, 41, 42, 43, 44, 45, 46, 34, 35, 36] (by decide +kernel) (by decide +kernel)
set_option maxRecDepth 20000 in
theorem gX4_findFirst_X4_fetchLost : GoodIn wsX4_findFirst (wsV RX4 94 RX4 yX4_fetchLost wsX4_fetchLost) := goodIn_app (goodIn_of _ (by decide +kernel)) ggX4_findFirst_X4_fetchLost
theorem dX4_findFirst_0 : decode cX4_findFirst 0 = .ok (.aload_n 0, 1) := by decide +kernel
theorem dX4_findFirst_1 : decode cX4_findFirst 1 = .ok (.getfield 23, 3) := by decide +kernel
theorem dX4_findFirst_4 : decode cX4_findFirst 4 = .ok (.getfield 73, 3) := by decide +kernel
theorem dX4_findFirst_7 : decode cX4_findFirst 7 = .ok (.ifCond .le 17, 3) := by decide +kernel
theorem dX4_findFirst_10 : decode cX4_findFirst 10 = .ok (.aload_n 0, 1) := by decide +kernel
theorem dX4_findFirst_11 : decode cX4_findFirst 11 = .ok (.invokevirtual 94, 3) := by decide +kernel
theorem dX4_findFirst_14 : decode cX4_findFirst 14 = .ok (.aload_n 0, 1) := by decide +kernel
theorem dX4_findFirst_15 : decode cX4_findFirst 15 = .ok (.dup, 1) := by decide +kernel
theorem dX4_findFirst_16 : decode cX4_findFirst 16 = .ok (.getfield 66, 3) := by decide +kernel
theorem dX4_findFirst_19 : decode cX4_findFirst 19 = .ok (.iconst 2, 1) := by decide +kernel
theorem dX4_findFirst_20 : decode cX4_findFirst 20 = .ok (.iadd, 1) := by decide +kernel
theorem dX4_findFirst_21 : decode cX4_findFirst 21 = .ok (.putfield 66, 3) := by decide +kernel
theorem dX4_findFirst_24 : decode cX4_findFirst 24 = .ok (.return_, 1) := by decide +kernel
set_option maxRecDepth 20000 in
theorem ggX4_throwLast_X5_removeAt : GoodIn wsX4_throwLast wsX5_removeAt := goodIn_h _ [10, 0, 0, 0, 0, 0, 0, 0, 0, 0, 0, 0, 0, 23, 0, 0] [1, 2, 3, 4, 5, 6, 0, 7, 8, 9, 10, 11, 12, 13, 14, 15] (by decide +kernel) (by decide +kernel)
set_option maxRecDepth 20000 in
theorem gX4_throwLast_X5_removeAt : GoodIn wsX4_throwLast (wsV RX4 171 RX5 yX5_removeAt wsX5_removeAt) := goodIn_app (goodIn_of _ (by decide +kernel)) ggX4_throwLast_X5_removeAt
set_option maxRecDepth 20000 in
theorem ggX4_throwLast_X0_silkBetween : GoodIn wsX4_throwLast wsX0_silkBetween := goodIn_h _ [26, 0, 0, 0, 0, 0, 0, 0, 15, 0, 0, 0, 0, 0, 0, 0, 0, 0] [1, 2, 3, 4, 0, 5, 6, 7, 8, 9, 10, 11, 12, 13, 14, 15, 16, 17] (by decide +kernel) (by decide +kernel)
set_option maxRecDepth 20000 in
theorem gX4_throwLast_X0_silkBetween : GoodIn wsX4_throwLast (wsV RX4 186 RX0 yX0_silkBetween wsX0_silkBetween) := goodIn_app (goodIn_of _ (by decide +kernel)) ggX4_throwLast_X0_silkBetween
theorem dX4_throwLast_0 : decode cX4_throwLast 0 = .ok (.aload_n 0, 1) := by decide +kernel
theorem dX4_throwLast_1 : decode cX4_throwLast 1 = .ok (.getfield 14, 3) := by decide +kernel
theorem dX4_throwLast_4 : decode cX4_throwLast 4 = .ok (.aload_n 0, 1) := by decide +kernel
theorem dX4_throwLast_5 : decode cX4_throwLast 5 = .ok (.getfield 14, 3) := by decide +kernel
theorem dX4_throwLast_8 : decode cX4_throwLast 8 = .ok (.getfield 73, 3) := by decide +kernel
theorem dX4_throwLast_11 : decode cX4_throwLast 11 = .ok (.iconst 1, 1) := by decide +kernel
theorem dX4_throwLast_12 : decode cX4_throwLast 12 = .ok (.isub, 1) := by decide +kernel
theorem dX4_throwLast_13 : decode cX4_throwLast 13 = .ok (.invokevirtual 171, 3) := by decide +kernel
theorem dX4_throwLast_16 : decode cX4_throwLast 16 = .ok (.astore_n 2, 1) := by decide +kernel
theorem dX4_throwLast_17 : decode cX4_throwLast 17 = .ok (.aload_n 2, 1) := by decide +kernel
theorem dX4_throwLast_18 : decode cX4_throwLast 18 = .ok (.ifnull 30, 3) := by decide +kernel
theorem dX4_throwLast_21 : decode cX4_throwLast 21 = .ok (.aload_n 2, 1) := by decide +kernel
theorem dX4_throwLast_22 : decode cX4_throwLast 22 = .ok (.bipush 6, 2) := by decide +kernel
theorem dX4_throwLast_24 : decode cX4_throwLast 24 = .ok (.putfield 53, 3) := by decide +kernel
theorem dX4_throwLast_27 : decode cX4_throwLast 27 = .ok (.aload_n 1, 1) := by decide +kernel
theorem dX4_throwLast_28 : decode cX4_throwLast 28 = .ok (.dup, 1) := by decide +kernel
theorem dX4_throwLast_29 : decode cX4_throwLast 29 = .ok (.getfield 177, 3) := by decide +kernel
theorem dX4_throwLast_32 : decode cX4_throwLast 32 = .ok (.aload_n 2, 1) := by decide +kernel
theorem dX4_throwLast_33 : decode cX4_throwLast 33 = .ok (.aload_n 2, 1) := by decide +kernel
theorem dX4_throwLast_34 : decode cX4_throwLast 34 = .ok (.getfield 180, 3) := by decide +kernel
theorem dX4_throwLast_37 : decode cX4_throwLast 37 = .ok (.aload_n 2, 1) := by decide +kernel
theorem dX4_throwLast_38 : decode cX4_throwLast 38 = .ok (.getfield 183, 3) := by decide +kernel
theorem dX4_throwLast_41 : decode cX4_throwLast 41 = .ok (.invokevirtual 186, 3) := by decide +kernel
theorem dX4_throwLast_44 : decode cX4_throwLast 44 = .ok (.iadd, 1) := by decide +kernel
theorem dX4_throwLast_45 : decode cX4_throwLast 45 = .ok (.putfield 177, 3) := by decide +kernel
theorem dX4_throwLast_48 : decode cX4_throwLast 48 = .ok (.return_, 1) := by decide +kernel
set_option maxRecDepth 20000 in
theorem ggX4_finenessOf_X0_finenessAt : GoodIn wsX4_finenessOf wsX0_finenessAt := goodIn_h _ [6, 0, 0, 0, 0, 0, 0, 0, 0, 0, 0, 0, 0] [0, 1, 2, 3, 4, 5, 6, 7, 8, 9, 10, 11, 12] (by decide +kernel) (by decide +kernel)
set_option maxRecDepth 20000 in
theorem gX4_finenessOf_X0_finenessAt : GoodIn wsX4_finenessOf (wsV RX4 189 RX0 yX0_finenessAt wsX0_finenessAt) := goodIn_app (goodIn_of _ (by decide +kernel)) ggX4_finenessOf_X0_finenessAt
theorem dX4_finenessOf_0 : decode cX4_finenessOf 0 = .ok (.aload_n 0, 1) := by decide +kernel
theorem dX4_finenessOf_1 : decode cX4_finenessOf 1 = .ok (.ifnonnull 7, 3) := by decide +kernel
theorem dX4_finenessOf_4 : decode cX4_finenessOf 4 = .ok (.iconst 0, 1) := by decide +kernel
theorem dX4_finenessOf_5 : decode cX4_finenessOf 5 = .ok (.goto 11, 3) := by decide +kernel
theorem dX4_finenessOf_8 : decode cX4_finenessOf 8 = .ok (.aload_n 0, 1) := by decide +kernel
theorem dX4_finenessOf_9 : decode cX4_finenessOf 9 = .ok (.aload_n 0, 1) := by decide +kernel
theorem dX4_finenessOf_10 : decode cX4_finenessOf 10 = .ok (.getfield 180, 3) := by decide +kernel
theorem dX4_finenessOf_13 : decode cX4_finenessOf 13 = .ok (.invokevirtual 189, 3) := by decide +kernel
theorem dX4_finenessOf_16 : decode cX4_finenessOf 16 = .ok (.ireturn, 1) := by decide +kernel
set_option maxRecDepth 20000 in
theorem ggX11_fill_X11_potAt : GoodIn wsX11_fill wsX11_potAt := goodIn_h _ [6, 0, 0, 41, 0, 0, 0, 0, 0, 0, 0, 0, 0, 0, 0] [0, 1, 2, 3, 4, 5, 6, 7, 8, 9, 10, 11, 12, 13, 14] (by decide +kernel) (by decide +kernel)
set_option maxRecDepth 20000 in
theorem gX11_fill_X11_potAt : GoodIn wsX11_fill (wsV RX11 134 RX11 yX11_potAt wsX11_potAt) := goodIn_app (goodIn_of _ (by decide +kernel)) ggX11_fill_X11_potAt
set_option maxRecDepth 20000 in
theorem ggX11_fill_X11_isWithin : GoodIn wsX11_fill wsX11_isWithin := goodIn_h _ [11] [0] (by decide +kernel) (by decide +kernel)
set_option maxRecDepth 20000 in
theorem gX11_fill_X11_isWithin : GoodIn wsX11_fill (va_wsS RX11 67 yX11_isWithin wsX11_isWithin) := goodIn_app (goodIn_of _ (by decide +kernel)) ggX11_fill_X11_isWithin
set_option maxRecDepth 20000 in
theorem ggX11_fill_X11_cocoonAt : GoodIn wsX11_fill wsX11_cocoonAt := goodIn_h _ [15, 0, 0, 0, 31, 0, 0, 0, 0, 0, 0, 0, 0, 0, 0, 0] [0, 1, 2, 3, 4, 5, 6, 7, 8, 9, 10, 11, 12, 13, 14, 15] (by decide +kernel) (by decide +kernel)
set_option maxRecDepth 20000 in
theorem gX11_fill_X11_cocoonAt : GoodIn wsX11_fill (wsV RX11 74 RX11 yX11_cocoonAt wsX11_cocoonAt) := goodIn_app (goodIn_of _ (by decide +kernel)) ggX11_fill_X11_cocoonAt
set_option maxRecDepth 20000 in
theorem ggX11_fill_X4_receive : GoodIn wsX11_fill wsX4_receive := goodIn_h _ [23, 0, 0, 0, 0, 0, 0, 0, 0, 0, 0, 0, 0, 0, 0, 0, 0, 0, 0, 0, 0, 0, 0, 0, 0, 0, 0, 12, 0, 0, 0, 0, 0, 0, 0, 0, 0, 0, 0, 0, 0, 0] [0, 1, 2, 3, 4, 5, 6, 7, 8, 9, 10, 11, 12, 13, 14, 15, 16, 27, 28, 29, 30, 31, 32, 33, 34, 35, 36, 37, 38, 17, 18, 19, 20, 21, 22, 23, 24, 25, 26, 39, 40, 41] (by decide +kernel) (by decide +kernel)
set_option maxRecDepth 20000 in
theorem gX11_fill_X4_receive : GoodIn wsX11_fill (wsV RX11 141 RX4 yX4_receive wsX4_receive) := goodIn_app (goodIn_of _ (by decide +kernel)) ggX11_fill_X4_receive
theorem dX11_fill_0 : decode cX11_fill 0 = .ok (.aload_n 0, 1) := by decide +kernel
theorem dX11_fill_1 : decode cX11_fill 1 = .ok (.iload_n 1, 1) := by decide +kernel
theorem dX11_fill_2 : decode cX11_fill 2 = .ok (.invokevirtual 134, 3) := by decide +kernel
theorem dX11_fill_5 : decode cX11_fill 5 = .ok (.astore 5, 2) := by decide +kernel
theorem dX11_fill_7 : decode cX11_fill 7 = .ok (.aload 5, 2) := by decide +kernel
theorem dX11_fill_9 : decode cX11_fill 9 = .ok (.ifnull 24, 3) := by decide +kernel
theorem dX11_fill_12 : decode cX11_fill 12 = .ok (.iload 4, 2) := by decide +kernel
theorem dX11_fill_14 : decode cX11_fill 14 = .ok (.iconst 1, 1) := by decide +kernel
theorem dX11_fill_15 : decode cX11_fill 15 = .ok (.bipush 60, 2) := by decide +kernel
theorem dX11_fill_17 : decode cX11_fill 17 = .ok (.invokestatic 67, 3) := by decide +kernel
theorem dX11_fill_20 : decode cX11_fill 20 = .ok (.ifCond .eq 13, 3) := by decide +kernel
theorem dX11_fill_23 : decode cX11_fill 23 = .ok (.iload_n 3, 1) := by decide +kernel
theorem dX11_fill_24 : decode cX11_fill 24 = .ok (.iconst 0, 1) := by decide +kernel
theorem dX11_fill_25 : decode cX11_fill 25 = .ok (.bipush 59, 2) := by decide +kernel
theorem dX11_fill_27 : decode cX11_fill 27 = .ok (.invokestatic 67, 3) := by decide +kernel
theorem dX11_fill_30 : decode cX11_fill 30 = .ok (.ifCond .ne 5, 3) := by decide +kernel
theorem dX11_fill_33 : decode cX11_fill 33 = .ok (.iconst 0, 1) := by decide +kernel
theorem dX11_fill_34 : decode cX11_fill 34 = .ok (.ireturn, 1) := by decide +kernel
theorem dX11_fill_35 : decode cX11_fill 35 = .ok (.iload_n 3, 1) := by decide +kernel
theorem dX11_fill_36 : decode cX11_fill 36 = .ok (.istore 6, 2) := by decide +kernel
theorem dX11_fill_38 : decode cX11_fill 38 = .ok (.iload 6, 2) := by decide +kernel
theorem dX11_fill_40 : decode cX11_fill 40 = .ok (.iload_n 3, 1) := by decide +kernel
theorem dX11_fill_41 : decode cX11_fill 41 = .ok (.iload 4, 2) := by decide +kernel
theorem dX11_fill_43 : decode cX11_fill 43 = .ok (.iadd, 1) := by decide +kernel
theorem dX11_fill_44 : decode cX11_fill 44 = .ok (.if_icmp .ge 33, 3) := by decide +kernel
theorem dX11_fill_47 : decode cX11_fill 47 = .ok (.aload_n 0, 1) := by decide +kernel
theorem dX11_fill_48 : decode cX11_fill 48 = .ok (.iload_n 2, 1) := by decide +kernel
theorem dX11_fill_49 : decode cX11_fill 49 = .ok (.iload 6, 2) := by decide +kernel
theorem dX11_fill_51 : decode cX11_fill 51 = .ok (.invokevirtual 74, 3) := by decide +kernel
theorem dX11_fill_54 : decode cX11_fill 54 = .ok (.astore 7, 2) := by decide +kernel
theorem dX11_fill_56 : decode cX11_fill 56 = .ok (.aload 7, 2) := by decide +kernel
theorem dX11_fill_58 : decode cX11_fill 58 = .ok (.ifnull 11, 3) := by decide +kernel
theorem dX11_fill_61 : decode cX11_fill 61 = .ok (.aload 7, 2) := by decide +kernel
theorem dX11_fill_63 : decode cX11_fill 63 = .ok (.getfield 81, 3) := by decide +kernel
theorem dX11_fill_66 : decode cX11_fill 66 = .ok (.ifCond .eq 5, 3) := by decide +kernel
theorem dX11_fill_69 : decode cX11_fill 69 = .ok (.iconst 0, 1) := by decide +kernel
theorem dX11_fill_70 : decode cX11_fill 70 = .ok (.ireturn, 1) := by decide +kernel
theorem dX11_fill_71 : decode cX11_fill 71 = .ok (.iinc 6 1, 3) := by decide +kernel
theorem dX11_fill_74 : decode cX11_fill 74 = .ok (.goto (-36), 3) := by decide +kernel
theorem dX11_fill_77 : decode cX11_fill 77 = .ok (.iload_n 3, 1) := by decide +kernel
theorem dX11_fill_78 : decode cX11_fill 78 = .ok (.istore 6, 2) := by decide +kernel
theorem dX11_fill_80 : decode cX11_fill 80 = .ok (.iload 6, 2) := by decide +kernel
theorem dX11_fill_82 : decode cX11_fill 82 = .ok (.iload_n 3, 1) := by decide +kernel
theorem dX11_fill_83 : decode cX11_fill 83 = .ok (.iload 4, 2) := by decide +kernel
theorem dX11_fill_85 : decode cX11_fill 85 = .ok (.iadd, 1) := by decide +kernel
theorem dX11_fill_86 : decode cX11_fill 86 = .ok (.if_icmp .ge 21, 3) := by decide +kernel
theorem dX11_fill_89 : decode cX11_fill 89 = .ok (.aload 5, 2) := by decide +kernel
theorem dX11_fill_91 : decode cX11_fill 91 = .ok (.aload_n 0, 1) := by decide +kernel
theorem dX11_fill_92 : decode cX11_fill 92 = .ok (.iload_n 2, 1) := by decide +kernel
theorem dX11_fill_93 : decode cX11_fill 93 = .ok (.iload 6, 2) := by decide +kernel
theorem dX11_fill_95 : decode cX11_fill 95 = .ok (.invokevirtual 74, 3) := by decide +kernel
theorem dX11_fill_98 : decode cX11_fill 98 = .ok (.invokevirtual 141, 3) := by decide +kernel
theorem dX11_fill_101 : decode cX11_fill 101 = .ok (.iinc 6 1, 3) := by decide +kernel
theorem dX11_fill_104 : decode cX11_fill 104 = .ok (.goto (-24), 3) := by decide +kernel
theorem dX11_fill_107 : decode cX11_fill 107 = .ok (.iconst 1, 1) := by decide +kernel
theorem dX11_fill_108 : decode cX11_fill 108 = .ok (.ireturn, 1) := by decide +kernel
theorem inn_X11_fill_0 : ∀ w ∈ u_ws RX0 TX0 10, w ∈ wsX11_fill := fun w h => List.mem_cons_of_mem _ (List.mem_append_left _ (List.mem_append_left _ (List.mem_append_left _ (List.mem_append_right _ h))))
theorem inn_X4_allHold_4 : ∀ w ∈ u_ws RX4 TX4 12, w ∈ wsX4_allHold := fun w h => List.mem_cons_of_mem _ (List.mem_append_left _ (List.mem_append_left _ (List.mem_append_left _ (List.mem_append_left _ (List.mem_append_right _ h)))))
theorem inn_X4_allHold_6 : ∀ w ∈ u_ws RX6 TX6 7, w ∈ wsX4_allHold := fun w h => List.mem_cons_of_mem _ (List.mem_append_left _ (List.mem_append_left _ (List.mem_append_left _ (List.mem_append_right _ h))))
theorem inn_X4_castFirst_0 : ∀ w ∈ u_ws RX0 TX0 10, w ∈ wsX4_castFirst := fun w h => List.mem_cons_of_mem _ (List.mem_append_right _ h)
theorem inn_X4_castFirst_4 : ∀ w ∈ u_ws RX4 TX4 12, w ∈ wsX4_castFirst := fun w h => List.mem_cons_of_mem _ (List.mem_append_left _ (List.mem_append_left _ (List.mem_append_right _ h)))
theorem inn_X4_castFirst_5 : ∀ w ∈ u_ws RX5 TX5 3, w ∈ wsX4_castFirst := fun w h => List.mem_cons_of_mem _ (List.mem_append_left _ (List.mem_append_right _ h))
theorem inn_X4_dropThinnest_0 : ∀ w ∈ u_ws RX0 TX0 10, w ∈ wsX4_dropThinnest := fun w h => List.mem_cons_of_mem _ (List.mem_append_left _ (List.mem_append_right _ h))
theorem inn_X4_dropThinnest_4 : ∀ w ∈ u_ws RX4 TX4 12, w ∈ wsX4_dropThinnest := fun w h => List.mem_cons_of_mem _ (List.mem_append_left _ (List.mem_append_left _ (List.mem_append_right _ h)))
theorem inn_X4_fetchLost_0 : ∀ w ∈ u_ws RX0 TX0 10, w ∈ wsX4_fetchLost := fun w h => List.mem_cons_of_mem _ (List.mem_append_left _ (List.mem_append_right _ h))
theorem inn_X4_fetchLost_4 : ∀ w ∈ u_ws RX4 TX4 12, w ∈ wsX4_fetchLost := fun w h => List.mem_cons_of_mem _ (List.mem_append_left _ (List.mem_append_left _ (List.mem_append_right _ h)))
theorem inn_X4_fetchLost_5 : ∀ w ∈ u_ws RX5 TX5 3, w ∈ wsX4_fetchLost := fun w h => List.mem_cons_of_mem _ (List.mem_append_right _ h)
theorem inn_X4_findFirst_4 : ∀ w ∈ u_ws RX4 TX4 12, w ∈ wsX4_findFirst := fun w h => List.mem_cons_of_mem _ (List.mem_append_left _ (List.mem_append_left _ (List.mem_append_right _ h)))
theorem inn_X4_findFirst_5 : ∀ w ∈ u_ws RX5 TX5 3, w ∈ wsX4_findFirst := fun w h => List.mem_cons_of_mem _ (List.mem_append_left _ (List.mem_append_right _ h))
theorem inn_X4_finenessOf_0 : ∀ w ∈ u_ws RX0 TX0 10, w ∈ wsX4_finenessOf := fun w h => List.mem_cons_of_mem _ (List.mem_append_right _ h)
theorem inn_X4_receive_0 : ∀ w ∈ u_ws RX0 TX0 10, w ∈ wsX4_receive := fun w h => List.mem_cons_of_mem _ (List.mem_append_left _ (List.mem_append_right _ h))
theorem inn_X4_receive_4 : ∀ w ∈ u_ws RX4 TX4 12, w ∈ wsX4_receive := fun w h => List.mem_cons_of_mem _ (List.mem_append_left _ (List.mem_append_left _ (List.mem_append_right _ h)))
theorem inn_X4_rowNumbered_4 : ∀ w ∈ u_ws RX4 TX4 12, w ∈ wsX4_rowNumbered := fun w h => List.mem_cons_of_mem _ (List.mem_append_right _ h)
theorem inn_X4_searchLost_4 : ∀ w ∈ u_ws RX4 TX4 12, w ∈ wsX4_searchLost := fun w h => List.mem_cons_of_mem _ (List.mem_append_left _ (List.mem_append_left _ (List.mem_append_right _ h)))
theorem inn_X4_searchLost_5 : ∀ w ∈ u_ws RX5 TX5 3, w ∈ wsX4_searchLost := fun w h => List.mem_cons_of_mem _ (List.mem_append_left _ (List.mem_append_right _ h))
theorem inn_X4_throwLast_0 : ∀ w ∈ u_ws RX0 TX0 10, w ∈ wsX4_throwLast := fun w h => List.mem_cons_of_mem _ (List.mem_append_left _ (List.mem_append_right _ h))
theorem inn_X4_throwLast_4 : ∀ w ∈ u_ws RX4 TX4 12, w ∈ wsX4_throwLast := fun w h => List.mem_cons_of_mem _ (List.mem_append_left _ (List.mem_append_left _ (List.mem_append_left _ (List.mem_append_right _ h))))
theorem inn_X4_throwLast_5 : ∀ w ∈ u_ws RX5 TX5 3, w ∈ wsX4_throwLast := fun w h => List.mem_cons_of_mem _ (List.mem_append_left _ (List.mem_append_left _ (List.mem_append_right _ h)))
theorem inn_X4_throwLast_8 : ∀ w ∈ u_ws RX8 TX8 13, w ∈ wsX4_throwLast := fun w h => List.mem_cons_of_mem _ (List.mem_append_right _ h)
theorem inn_X4_valueOf_4 : ∀ w ∈ u_ws RX4 TX4 12, w ∈ wsX4_valueOf := fun w h => List.mem_cons_of_mem _ (List.mem_append_left _ (List.mem_append_left _ (List.mem_append_left _ (List.mem_append_right _ h))))
theorem inn_X4_valueOf_5 : ∀ w ∈ u_ws RX5 TX5 3, w ∈ wsX4_valueOf := fun w h => List.mem_cons_of_mem _ (List.mem_append_left _ (List.mem_append_left _ (List.mem_append_right _ h)))
theorem inn_X4_valueOf_9 : ∀ w ∈ u_ws RX9 TX9 9, w ∈ wsX4_valueOf := fun w h => List.mem_cons_of_mem _ (List.mem_append_left _ (List.mem_append_right _ h))
set_option maxHeartbeats 4000000 in
set_option maxRecDepth 100000 in
theorem k_X4_rowNumbered (l : Launch) (G : va_G) (cy : Nat → ClassId) (κ : Nat → Nat) (S : PS) (sz : Nat) (x : Nat) (a1 : Int32) (a1_z : Int) (hG : GX S) (ha_x : At S x 4) (hz_a1 : a1.toInt = a1_z) : Cq l yX4_rowNumbered wsX4_rowNumbered ({ frames := 1, cells := 0, slots := 0, locals := 48 }) G cy κ S sz [.ref x, .int (a1)] (fun (r : Option Nat) (S9 : PS) => S = S9 ∧ (∀ q, r = some q → At S9 q 5)) := by
  refine ent_m (cc := cX4_rowNumbered) (maxL := 2) (ret := (some (.object "SilkMill$Row"))) (by decide) rfl (Nat.le_of_ble_eq_true rfl) ?_
  intro p e s m below meth c ls X hr hlocks hin hw hl hsz
  subst hsz
  have X : Cx p c cX4_rowNumbered 2 s [.ref x, .int (a1)].toArray wsX4_rowNumbered RX4 m G cy κ (AS S s.heap.size) := X
  have hl : lv_has ls 2 [(0, .ref x), (1, .int (a1))] := hl
  have rg_a1 : (-2147483648) ≤ a1_z ∧ a1_z ≤ 2147483647 := by rw [← hz_a1]; exact ⟨z_lo _, z_hi _⟩
  refine lv_iload_n X.1 X.2.1 dX4_rowNumbered_0 rfl (lv_at hl 1 rfl) ?_
  by_cases w_1 : (a1).toInt < 0 ∨ 2 < (a1).toInt
  · refine lv_tableOut (tgt := 43) X.1 X.2.1 dX4_rowNumbered_1 w_1 (by decide) ?_
    refine lv_null X.1 X.2.1 dX4_rowNumbered_43 ?_
    exact ret_q none rfl X hw hr hlocks (Nat.le_of_ble_eq_true rfl) (Nat.le_of_ble_eq_true rfl) ⟨rfl, (fun q h => by cases h)⟩ dX4_rowNumbered_44
  have w_1b : (a1).toInt = 0 ∨ (a1).toInt = 1 ∨ (a1).toInt = 2 := by omega
  rcases w_1b with w_1c | w_1c | w_1c
  · refine lv_tableIn (tgt := 28) X.1 X.2.1 dX4_rowNumbered_1 (by omega) (by omega) (by rw [w_1c]; rfl) (by decide) ?_
    refine lv_aload_n X.1 X.2.1 dX4_rowNumbered_28 rfl (lv_at hl 0 rfl) ?_
    obtain ⟨q_2, h_3, h_4⟩ := gQ_4_400 hG ha_x
    refine r_getR (g := 400) X hw ha_x rfl 0 h_3 (by decide) rfl inn_X4_rowNumbered_4 (by decide) (X.2.2.2.1 (.fieldLink RX4 14 "SilkMill$Pot" "basket" "LSilkMill$Row;") (by decide +kernel)) rfl (gv_400 _ _) dX4_rowNumbered_29 ?_
    exact ret_q (some q_2) rfl X hw hr hlocks (Nat.le_of_ble_eq_true rfl) (Nat.le_of_ble_eq_true rfl) ⟨rfl, (fun q h => by cases h; exact h_4)⟩ dX4_rowNumbered_32
  · refine lv_tableIn (tgt := 33) X.1 X.2.1 dX4_rowNumbered_1 (by omega) (by omega) (by rw [w_1c]; rfl) (by decide) ?_
    refine lv_aload_n X.1 X.2.1 dX4_rowNumbered_33 rfl (lv_at hl 0 rfl) ?_
    obtain ⟨q_6, h_7, h_8⟩ := gQ_4_401 hG ha_x
    refine r_getR (g := 401) X hw ha_x rfl 1 h_7 (by decide) rfl inn_X4_rowNumbered_4 (by decide) (X.2.2.2.1 (.fieldLink RX4 20 "SilkMill$Pot" "ends" "LSilkMill$Row;") (by decide +kernel)) rfl (gv_401 _ _) dX4_rowNumbered_34 ?_
    exact ret_q (some q_6) rfl X hw hr hlocks (Nat.le_of_ble_eq_true rfl) (Nat.le_of_ble_eq_true rfl) ⟨rfl, (fun q h => by cases h; exact h_8)⟩ dX4_rowNumbered_37
  · refine lv_tableIn (tgt := 38) X.1 X.2.1 dX4_rowNumbered_1 (by omega) (by omega) (by rw [w_1c]; rfl) (by decide) ?_
    refine lv_aload_n X.1 X.2.1 dX4_rowNumbered_38 rfl (lv_at hl 0 rfl) ?_
    obtain ⟨q_10, h_11, h_12⟩ := gQ_4_402 hG ha_x
    refine r_getR (g := 402) X hw ha_x rfl 2 h_11 (by decide) rfl inn_X4_rowNumbered_4 (by decide) (X.2.2.2.1 (.fieldLink RX4 23 "SilkMill$Pot" "lost" "LSilkMill$Row;") (by decide +kernel)) rfl (gv_402 _ _) dX4_rowNumbered_39 ?_
    exact ret_q (some q_10) rfl X hw hr hlocks (Nat.le_of_ble_eq_true rfl) (Nat.le_of_ble_eq_true rfl) ⟨rfl, (fun q h => by cases h; exact h_12)⟩ dX4_rowNumbered_42
