set_option maxRecDepth 20000 in
theorem ggX4_receive_X5_addLast : GoodIn wsX4_receive wsX5_addLast := goodIn_h _ [8, 0, 0, 0, 0, 0, 0, 0, 0, 22, 0, 0] [1, 2, 3, 4, 5, 6, 0, 7, 8, 9, 10, 11] (by decide +kernel) (by decide +kernel)
set_option maxRecDepth 20000 in
theorem gX4_receive_X5_addLast : GoodIn wsX4_receive (wsV RX4 56 RX5 yX5_addLast wsX5_addLast) := goodIn_app (goodIn_of _ (by decide +kernel)) ggX4_receive_X5_addLast
theorem dX4_receive_0 : decode cX4_receive 0 = .ok (.aload_n 1, 1) := by decide +kernel
theorem dX4_receive_1 : decode cX4_receive 1 = .ok (.ifnull 24, 3) := by decide +kernel
theorem dX4_receive_4 : decode cX4_receive 4 = .ok (.aload_n 1, 1) := by decide +kernel
theorem dX4_receive_5 : decode cX4_receive 5 = .ok (.aload_n 0, 1) := by decide +kernel
theorem dX4_receive_6 : decode cX4_receive 6 = .ok (.getfield 40, 3) := by decide +kernel
theorem dX4_receive_9 : decode cX4_receive 9 = .ok (.putfield 50, 3) := by decide +kernel
theorem dX4_receive_12 : decode cX4_receive 12 = .ok (.aload_n 1, 1) := by decide +kernel
theorem dX4_receive_13 : decode cX4_receive 13 = .ok (.iconst 1, 1) := by decide +kernel
theorem dX4_receive_14 : decode cX4_receive 14 = .ok (.putfield 53, 3) := by decide +kernel
theorem dX4_receive_17 : decode cX4_receive 17 = .ok (.aload_n 0, 1) := by decide +kernel
theorem dX4_receive_18 : decode cX4_receive 18 = .ok (.getfield 14, 3) := by decide +kernel
theorem dX4_receive_21 : decode cX4_receive 21 = .ok (.aload_n 1, 1) := by decide +kernel
theorem dX4_receive_22 : decode cX4_receive 22 = .ok (.invokevirtual 56, 3) := by decide +kernel
theorem dX4_receive_25 : decode cX4_receive 25 = .ok (.return_, 1) := by decide +kernel
theorem dX4_rowNumbered_0 : decode cX4_rowNumbered 0 = .ok (.iload_n 1, 1) := by decide +kernel
theorem dX4_rowNumbered_1 : decode cX4_rowNumbered 1 = .ok (.tableswitch 42 0 2 #[27, 32, 37], 27) := by decide +kernel
theorem dX4_rowNumbered_28 : decode cX4_rowNumbered 28 = .ok (.aload_n 0, 1) := by decide +kernel
theorem dX4_rowNumbered_29 : decode cX4_rowNumbered 29 = .ok (.getfield 14, 3) := by decide +kernel
theorem dX4_rowNumbered_32 : decode cX4_rowNumbered 32 = .ok (.areturn, 1) := by decide +kernel
theorem dX4_rowNumbered_33 : decode cX4_rowNumbered 33 = .ok (.aload_n 0, 1) := by decide +kernel
theorem dX4_rowNumbered_34 : decode cX4_rowNumbered 34 = .ok (.getfield 20, 3) := by decide +kernel
theorem dX4_rowNumbered_37 : decode cX4_rowNumbered 37 = .ok (.areturn, 1) := by decide +kernel
theorem dX4_rowNumbered_38 : decode cX4_rowNumbered 38 = .ok (.aload_n 0, 1) := by decide +kernel
theorem dX4_rowNumbered_39 : decode cX4_rowNumbered 39 = .ok (.getfield 23, 3) := by decide +kernel
theorem dX4_rowNumbered_42 : decode cX4_rowNumbered 42 = .ok (.areturn, 1) := by decide +kernel
theorem dX4_rowNumbered_43 : decode cX4_rowNumbered 43 = .ok (.aconst_null, 1) := by decide +kernel
theorem dX4_rowNumbered_44 : decode cX4_rowNumbered 44 = .ok (.areturn, 1) := by decide +kernel
set_option maxRecDepth 20000 in
theorem ggX4_searchLost_X4_fetchLost : GoodIn wsX4_searchLost wsX4_fetchLost := goodIn_h _ [1, 0, 0, 5, 0, 0, 0, 0, 0, 0, 0, 0, 0, 0, 0, 0, 0, 0, 0, 0, 0, 0, 0, 0, 0, 0, 0, 0, 0, 0, 0, 0, 0, 0, 0, 0, 0, 0, 0, 0, 0, 0, 0, 0, 0, 0, 0] [3, 0, 4, 5, 1, 2, 6, 7, 8, 9, 10, 11, 12, 13, 14, 15, 16, 17, 18, 19, 20, 21, 22, 23, 24, 25, 26, 27, 28, 29, 30, 31, 32, 33, 37, 38, 39, 40, 41, 42, 43, 44, 45, 46, 34, 35, 36] (by decide +kernel) (by decide +kernel)
set_option maxRecDepth 20000 in
theorem gX4_searchLost_X4_fetchLost : GoodIn wsX4_searchLost (wsV RX4 94 RX4 yX4_fetchLost wsX4_fetchLost) := goodIn_app (goodIn_of _ (by decide +kernel)) ggX4_searchLost_X4_fetchLost
theorem dX4_searchLost_0 : decode cX4_searchLost 0 = .ok (.aload_n 0, 1) := by decide +kernel
theorem dX4_searchLost_1 : decode cX4_searchLost 1 = .ok (.getfield 23, 3) := by decide +kernel
theorem dX4_searchLost_4 : decode cX4_searchLost 4 = .ok (.getfield 73, 3) := by decide +kernel
theorem dX4_searchLost_7 : decode cX4_searchLost 7 = .ok (.ifCond .ne 4, 3) := by decide +kernel
theorem dX4_searchLost_10 : decode cX4_searchLost 10 = .ok (.return_, 1) := by decide +kernel
theorem dX4_searchLost_11 : decode cX4_searchLost 11 = .ok (.aload_n 0, 1) := by decide +kernel
theorem dX4_searchLost_12 : decode cX4_searchLost 12 = .ok (.dup, 1) := by decide +kernel
theorem dX4_searchLost_13 : decode cX4_searchLost 13 = .ok (.getfield 91, 3) := by decide +kernel
theorem dX4_searchLost_16 : decode cX4_searchLost 16 = .ok (.iconst 1, 1) := by decide +kernel
theorem dX4_searchLost_17 : decode cX4_searchLost 17 = .ok (.iadd, 1) := by decide +kernel
theorem dX4_searchLost_18 : decode cX4_searchLost 18 = .ok (.putfield 91, 3) := by decide +kernel
theorem dX4_searchLost_21 : decode cX4_searchLost 21 = .ok (.aload_n 0, 1) := by decide +kernel
theorem dX4_searchLost_22 : decode cX4_searchLost 22 = .ok (.getfield 91, 3) := by decide +kernel
theorem dX4_searchLost_25 : decode cX4_searchLost 25 = .ok (.aload_n 0, 1) := by decide +kernel
theorem dX4_searchLost_26 : decode cX4_searchLost 26 = .ok (.getfield 47, 3) := by decide +kernel
theorem dX4_searchLost_29 : decode cX4_searchLost 29 = .ok (.if_icmp .lt 12, 3) := by decide +kernel
theorem dX4_searchLost_32 : decode cX4_searchLost 32 = .ok (.aload_n 0, 1) := by decide +kernel
theorem dX4_searchLost_33 : decode cX4_searchLost 33 = .ok (.iconst 0, 1) := by decide +kernel
theorem dX4_searchLost_34 : decode cX4_searchLost 34 = .ok (.putfield 91, 3) := by decide +kernel
theorem dX4_searchLost_37 : decode cX4_searchLost 37 = .ok (.aload_n 0, 1) := by decide +kernel
theorem dX4_searchLost_38 : decode cX4_searchLost 38 = .ok (.invokevirtual 94, 3) := by decide +kernel
theorem dX4_searchLost_41 : decode cX4_searchLost 41 = .ok (.return_, 1) := by decide +kernel
set_option maxRecDepth 20000 in
theorem ggX4_fetchLost_X5_removeFirst : GoodIn wsX4_fetchLost wsX5_removeFirst := goodIn_h _ [9, 0, 0, 0, 0, 0, 0, 0, 0, 26, 0, 0] [1, 2, 3, 4, 5, 6, 7, 0, 8, 9, 10, 11] (by decide +kernel) (by decide +kernel)
set_option maxRecDepth 20000 in
theorem gX4_fetchLost_X5_removeFirst : GoodIn wsX4_fetchLost (wsV RX4 97 RX5 yX5_removeFirst wsX5_removeFirst) := goodIn_app (goodIn_of _ (by decide +kernel)) ggX4_fetchLost_X5_removeFirst
set_option maxRecDepth 20000 in
theorem ggX4_fetchLost_X5_addLast : GoodIn wsX4_fetchLost wsX5_addLast := goodIn_h _ [9, 1, 0, 0, 0, 0, 0, 0, 3, 22, 0, 0] [8, 1, 2, 4, 5, 6, 0, 7, 3, 9, 10, 11] (by decide +kernel) (by decide +kernel)
set_option maxRecDepth 20000 in
theorem gX4_fetchLost_X5_addLast : GoodIn wsX4_fetchLost (wsV RX4 56 RX5 yX5_addLast wsX5_addLast) := goodIn_app (goodIn_of _ (by decide +kernel)) ggX4_fetchLost_X5_addLast
theorem dX4_fetchLost_0 : decode cX4_fetchLost 0 = .ok (.aload_n 0, 1) := by decide +kernel
theorem dX4_fetchLost_1 : decode cX4_fetchLost 1 = .ok (.getfield 23, 3) := by decide +kernel
theorem dX4_fetchLost_4 : decode cX4_fetchLost 4 = .ok (.invokevirtual 97, 3) := by decide +kernel
theorem dX4_fetchLost_7 : decode cX4_fetchLost 7 = .ok (.astore_n 1, 1) := by decide +kernel
theorem dX4_fetchLost_8 : decode cX4_fetchLost 8 = .ok (.aload_n 1, 1) := by decide +kernel
theorem dX4_fetchLost_9 : decode cX4_fetchLost 9 = .ok (.ifnull 16, 3) := by decide +kernel
theorem dX4_fetchLost_12 : decode cX4_fetchLost 12 = .ok (.aload_n 1, 1) := by decide +kernel
theorem dX4_fetchLost_13 : decode cX4_fetchLost 13 = .ok (.iconst 1, 1) := by decide +kernel
theorem dX4_fetchLost_14 : decode cX4_fetchLost 14 = .ok (.putfield 53, 3) := by decide +kernel
theorem dX4_fetchLost_17 : decode cX4_fetchLost 17 = .ok (.aload_n 0, 1) := by decide +kernel
theorem dX4_fetchLost_18 : decode cX4_fetchLost 18 = .ok (.getfield 14, 3) := by decide +kernel
theorem dX4_fetchLost_21 : decode cX4_fetchLost 21 = .ok (.aload_n 1, 1) := by decide +kernel
theorem dX4_fetchLost_22 : decode cX4_fetchLost 22 = .ok (.invokevirtual 56, 3) := by decide +kernel
theorem dX4_fetchLost_25 : decode cX4_fetchLost 25 = .ok (.aload_n 0, 1) := by decide +kernel
theorem dX4_fetchLost_26 : decode cX4_fetchLost 26 = .ok (.getfield 23, 3) := by decide +kernel
theorem dX4_fetchLost_29 : decode cX4_fetchLost 29 = .ok (.getfield 73, 3) := by decide +kernel
theorem dX4_fetchLost_32 : decode cX4_fetchLost 32 = .ok (.ifCond .ne 8, 3) := by decide +kernel
theorem dX4_fetchLost_35 : decode cX4_fetchLost 35 = .ok (.aload_n 0, 1) := by decide +kernel
theorem dX4_fetchLost_36 : decode cX4_fetchLost 36 = .ok (.iconst 0, 1) := by decide +kernel
theorem dX4_fetchLost_37 : decode cX4_fetchLost 37 = .ok (.putfield 91, 3) := by decide +kernel
theorem dX4_fetchLost_40 : decode cX4_fetchLost 40 = .ok (.return_, 1) := by decide +kernel
set_option maxRecDepth 20000 in
theorem ggX4_allHold_X4_valueOf : GoodIn wsX4_allHold wsX4_valueOf := goodIn_h _ [9, 0, 0, 0, 0, 0, 0, 0, 0, 0, 0, 0, 0, 0, 0, 0, 0, 0, 0, 0, 0, 0, 0, 0, 0, 0, 0, 0, 0, 0, 0, 0, 0, 0, 0, 0, 0, 0, 0, 0, 0, 0, 0, 3, 0, 0, 0, 0, 0, 0, 0, 0, 0, 0, 0, 7, 0, 0, 0, 0, 0, 0, 0, 0, 0, 0, 0, 0, 0, 0, 0, 0, 0, 0, 0, 0, 0] [1, 2, 3, 4, 5, 6, 7, 8, 9, 10, 11, 12, 13, 14, 15, 16, 17, 18, 19, 20, 21, 22, 23, 24, 25, 26, 27, 28, 29, 30, 31, 32, 33, 34, 35, 36, 37, 38, 39, 0, 40, 41, 42, 43, 44, 45, 46, 47, 48, 49, 50, 51, 52, 53, 54, 55, 56, 57, 58, 59, 60, 61, 62, 63, 64, 65, 66, 67, 68, 69, 70, 71, 72, 73, 74, 75, 76] (by decide +kernel) (by decide +kernel)
set_option maxRecDepth 20000 in
theorem gX4_allHold_X4_valueOf : GoodIn wsX4_allHold (wsV RX4 126 RX4 yX4_valueOf wsX4_valueOf) := goodIn_app (goodIn_of _ (by decide +kernel)) ggX4_allHold_X4_valueOf
set_option maxRecDepth 20000 in
theorem ggX4_allHold_X4_isRelated : GoodIn wsX4_allHold wsX4_isRelated := goodIn_h _ [54] [0] (by decide +kernel) (by decide +kernel)
set_option maxRecDepth 20000 in
theorem gX4_allHold_X4_isRelated : GoodIn wsX4_allHold (va_wsS RX4 136 yX4_isRelated wsX4_isRelated) := goodIn_app (goodIn_of _ (by decide +kernel)) ggX4_allHold_X4_isRelated
theorem dX4_allHold_0 : decode cX4_allHold 0 = .ok (.iload_n 1, 1) := by decide +kernel
theorem dX4_allHold_1 : decode cX4_allHold 1 = .ok (.iconst 4, 1) := by decide +kernel
theorem dX4_allHold_2 : decode cX4_allHold 2 = .ok (.imul, 1) := by decide +kernel
theorem dX4_allHold_3 : decode cX4_allHold 3 = .ok (.istore_n 3, 1) := by decide +kernel
theorem dX4_allHold_4 : decode cX4_allHold 4 = .ok (.iload_n 3, 1) := by decide +kernel
theorem dX4_allHold_5 : decode cX4_allHold 5 = .ok (.istore 4, 2) := by decide +kernel
theorem dX4_allHold_7 : decode cX4_allHold 7 = .ok (.iload 4, 2) := by decide +kernel
theorem dX4_allHold_9 : decode cX4_allHold 9 = .ok (.iload_n 3, 1) := by decide +kernel
theorem dX4_allHold_10 : decode cX4_allHold 10 = .ok (.aload_n 0, 1) := by decide +kernel
theorem dX4_allHold_11 : decode cX4_allHold 11 = .ok (.getfield 36, 3) := by decide +kernel
theorem dX4_allHold_14 : decode cX4_allHold 14 = .ok (.getfield 120, 3) := by decide +kernel
theorem dX4_allHold_17 : decode cX4_allHold 17 = .ok (.iload_n 1, 1) := by decide +kernel
theorem dX4_allHold_18 : decode cX4_allHold 18 = .ok (.iaload, 1) := by decide +kernel
theorem dX4_allHold_19 : decode cX4_allHold 19 = .ok (.iadd, 1) := by decide +kernel
theorem dX4_allHold_20 : decode cX4_allHold 20 = .ok (.if_icmp .ge 56, 3) := by decide +kernel
theorem dX4_allHold_23 : decode cX4_allHold 23 = .ok (.aload_n 0, 1) := by decide +kernel
theorem dX4_allHold_24 : decode cX4_allHold 24 = .ok (.aload_n 0, 1) := by decide +kernel
theorem dX4_allHold_25 : decode cX4_allHold 25 = .ok (.getfield 36, 3) := by decide +kernel
theorem dX4_allHold_28 : decode cX4_allHold 28 = .ok (.getfield 123, 3) := by decide +kernel
theorem dX4_allHold_31 : decode cX4_allHold 31 = .ok (.iload 4, 2) := by decide +kernel
theorem dX4_allHold_33 : decode cX4_allHold 33 = .ok (.iaload, 1) := by decide +kernel
theorem dX4_allHold_34 : decode cX4_allHold 34 = .ok (.iload_n 2, 1) := by decide +kernel
theorem dX4_allHold_35 : decode cX4_allHold 35 = .ok (.invokevirtual 126, 3) := by decide +kernel
theorem dX4_allHold_38 : decode cX4_allHold 38 = .ok (.istore 5, 2) := by decide +kernel
theorem dX4_allHold_40 : decode cX4_allHold 40 = .ok (.iload 5, 2) := by decide +kernel
theorem dX4_allHold_42 : decode cX4_allHold 42 = .ok (.aload_n 0, 1) := by decide +kernel
theorem dX4_allHold_43 : decode cX4_allHold 43 = .ok (.getfield 36, 3) := by decide +kernel
theorem dX4_allHold_46 : decode cX4_allHold 46 = .ok (.getfield 130, 3) := by decide +kernel
theorem dX4_allHold_49 : decode cX4_allHold 49 = .ok (.iload 4, 2) := by decide +kernel
theorem dX4_allHold_51 : decode cX4_allHold 51 = .ok (.iaload, 1) := by decide +kernel
theorem dX4_allHold_52 : decode cX4_allHold 52 = .ok (.aload_n 0, 1) := by decide +kernel
theorem dX4_allHold_53 : decode cX4_allHold 53 = .ok (.getfield 36, 3) := by decide +kernel
theorem dX4_allHold_56 : decode cX4_allHold 56 = .ok (.getfield 133, 3) := by decide +kernel
theorem dX4_allHold_59 : decode cX4_allHold 59 = .ok (.iload 4, 2) := by decide +kernel
theorem dX4_allHold_61 : decode cX4_allHold 61 = .ok (.iaload, 1) := by decide +kernel
theorem dX4_allHold_62 : decode cX4_allHold 62 = .ok (.invokestatic 136, 3) := by decide +kernel
theorem dX4_allHold_65 : decode cX4_allHold 65 = .ok (.ifCond .ne 5, 3) := by decide +kernel
theorem dX4_allHold_68 : decode cX4_allHold 68 = .ok (.iconst 0, 1) := by decide +kernel
theorem dX4_allHold_69 : decode cX4_allHold 69 = .ok (.ireturn, 1) := by decide +kernel
theorem dX4_allHold_70 : decode cX4_allHold 70 = .ok (.iinc 4 1, 3) := by decide +kernel
theorem dX4_allHold_73 : decode cX4_allHold 73 = .ok (.goto (-66), 3) := by decide +kernel
theorem dX4_allHold_76 : decode cX4_allHold 76 = .ok (.iconst 1, 1) := by decide +kernel
theorem dX4_allHold_77 : decode cX4_allHold 77 = .ok (.ireturn, 1) := by decide +kernel
set_option maxRecDepth 20000 in
theorem ggX4_valueOf_X5_sumOfFineness : GoodIn wsX4_valueOf wsX5_sumOfFineness := goodIn_h _ [10, 0, 0, 0, 0, 0, 0, 0, 0, 0, 0, 0, 0, 0, 0, 0, 0, 0, 0, 0, 0, 24, 0, 0, 9, 0, 0, 0, 0, 0, 0, 0, 0, 0] [1, 2, 3, 4, 5, 6, 0, 7, 8, 9, 10, 11, 12, 13, 14, 15, 16, 17, 18, 19, 20, 21, 22, 23, 24, 25, 26, 27, 28, 29, 30, 31, 32, 33] (by decide +kernel) (by decide +kernel)
set_option maxRecDepth 20000 in
theorem gX4_valueOf_X5_sumOfFineness : GoodIn wsX4_valueOf (wsV RX4 140 RX5 yX5_sumOfFineness wsX5_sumOfFineness) := goodIn_app (goodIn_of _ (by decide +kernel)) ggX4_valueOf_X5_sumOfFineness
set_option maxRecDepth 20000 in
theorem ggX4_valueOf_X5_thinnest : GoodIn wsX4_valueOf wsX5_thinnest := goodIn_h _ [10, 1, 0, 0, 0, 0, 0, 0, 0, 0, 0, 0, 0, 0, 0, 0, 0, 0, 0, 0, 3, 0, 19, 0, 0, 9, 0, 0, 0, 0, 0, 0, 0, 0, 0] [20, 21, 1, 2, 3, 4, 5, 0, 6, 7, 8, 9, 10, 11, 12, 13, 14, 15, 16, 17, 18, 19, 22, 23, 24, 25, 26, 27, 28, 29, 30, 31, 32, 33, 34] (by decide +kernel) (by decide +kernel)
set_option maxRecDepth 20000 in
theorem gX4_valueOf_X5_thinnest : GoodIn wsX4_valueOf (wsV RX4 144 RX5 yX5_thinnest wsX5_thinnest) := goodIn_app (goodIn_of _ (by decide +kernel)) ggX4_valueOf_X5_thinnest
set_option maxRecDepth 20000 in
theorem ggX4_valueOf_X5_at : GoodIn wsX4_valueOf wsX5_at := goodIn_h _ [10, 1, 4, 0, 0, 0, 0, 0, 0, 31, 0, 0] [2, 1, 3, 4, 5, 6, 0, 7, 8, 9, 10, 11] (by decide +kernel) (by decide +kernel)
set_option maxRecDepth 20000 in
theorem gX4_valueOf_X5_at : GoodIn wsX4_valueOf (wsV RX4 147 RX5 yX5_at wsX5_at) := goodIn_app (goodIn_of _ (by decide +kernel)) ggX4_valueOf_X5_at
set_option maxRecDepth 20000 in
theorem ggX4_valueOf_X4_finenessOf : GoodIn wsX4_valueOf wsX4_finenessOf := goodIn_h _ [25, 0, 0, 0, 0, 0, 9, 0, 0, 24, 0, 0, 0, 0, 0, 0, 0, 0, 0] [6, 7, 8, 0, 1, 2, 3, 4, 5, 9, 10, 11, 12, 13, 14, 15, 16, 17, 18] (by decide +kernel) (by decide +kernel)
set_option maxRecDepth 20000 in
theorem gX4_valueOf_X4_finenessOf : GoodIn wsX4_valueOf (va_wsS RX4 151 yX4_finenessOf wsX4_finenessOf) := goodIn_app (goodIn_of _ (by decide +kernel)) ggX4_valueOf_X4_finenessOf
theorem dX4_valueOf_0 : decode cX4_valueOf 0 = .ok (.iload_n 1, 1) := by decide +kernel
theorem dX4_valueOf_1 : decode cX4_valueOf 1 = .ok (.tableswitch 97 0 5 #[39, 47, 55, 63, 71, 79], 39) := by decide +kernel
theorem dX4_valueOf_40 : decode cX4_valueOf 40 = .ok (.aload_n 0, 1) := by decide +kernel
theorem dX4_valueOf_41 : decode cX4_valueOf 41 = .ok (.getfield 20, 3) := by decide +kernel
theorem dX4_valueOf_44 : decode cX4_valueOf 44 = .ok (.invokevirtual 140, 3) := by decide +kernel
theorem dX4_valueOf_47 : decode cX4_valueOf 47 = .ok (.ireturn, 1) := by decide +kernel
theorem dX4_valueOf_48 : decode cX4_valueOf 48 = .ok (.aload_n 0, 1) := by decide +kernel
theorem dX4_valueOf_49 : decode cX4_valueOf 49 = .ok (.getfield 20, 3) := by decide +kernel
theorem dX4_valueOf_52 : decode cX4_valueOf 52 = .ok (.getfield 73, 3) := by decide +kernel
theorem dX4_valueOf_55 : decode cX4_valueOf 55 = .ok (.ireturn, 1) := by decide +kernel
theorem dX4_valueOf_56 : decode cX4_valueOf 56 = .ok (.aload_n 0, 1) := by decide +kernel
theorem dX4_valueOf_57 : decode cX4_valueOf 57 = .ok (.getfield 14, 3) := by decide +kernel
theorem dX4_valueOf_60 : decode cX4_valueOf 60 = .ok (.getfield 73, 3) := by decide +kernel
theorem dX4_valueOf_63 : decode cX4_valueOf 63 = .ok (.ireturn, 1) := by decide +kernel
theorem dX4_valueOf_64 : decode cX4_valueOf 64 = .ok (.aload_n 0, 1) := by decide +kernel
theorem dX4_valueOf_65 : decode cX4_valueOf 65 = .ok (.getfield 23, 3) := by decide +kernel
theorem dX4_valueOf_68 : decode cX4_valueOf 68 = .ok (.getfield 73, 3) := by decide +kernel
theorem dX4_valueOf_71 : decode cX4_valueOf 71 = .ok (.ireturn, 1) := by decide +kernel
theorem dX4_valueOf_72 : decode cX4_valueOf 72 = .ok (.aload_n 0, 1) := by decide +kernel
theorem dX4_valueOf_73 : decode cX4_valueOf 73 = .ok (.getfield 29, 3) := by decide +kernel
theorem dX4_valueOf_76 : decode cX4_valueOf 76 = .ok (.getfield 79, 3) := by decide +kernel
theorem dX4_valueOf_79 : decode cX4_valueOf 79 = .ok (.ireturn, 1) := by decide +kernel
theorem dX4_valueOf_80 : decode cX4_valueOf 80 = .ok (.aload_n 0, 1) := by decide +kernel
theorem dX4_valueOf_81 : decode cX4_valueOf 81 = .ok (.getfield 20, 3) := by decide +kernel
theorem dX4_valueOf_84 : decode cX4_valueOf 84 = .ok (.aload_n 0, 1) := by decide +kernel
theorem dX4_valueOf_85 : decode cX4_valueOf 85 = .ok (.getfield 20, 3) := by decide +kernel
theorem dX4_valueOf_88 : decode cX4_valueOf 88 = .ok (.invokevirtual 144, 3) := by decide +kernel
theorem dX4_valueOf_91 : decode cX4_valueOf 91 = .ok (.invokevirtual 147, 3) := by decide +kernel
theorem dX4_valueOf_94 : decode cX4_valueOf 94 = .ok (.invokestatic 151, 3) := by decide +kernel
theorem dX4_valueOf_97 : decode cX4_valueOf 97 = .ok (.ireturn, 1) := by decide +kernel
theorem dX4_valueOf_98 : decode cX4_valueOf 98 = .ok (.iload_n 2, 1) := by decide +kernel
theorem dX4_valueOf_99 : decode cX4_valueOf 99 = .ok (.ireturn, 1) := by decide +kernel
theorem dX4_isRelated_0 : decode cX4_isRelated 0 = .ok (.iload_n 1, 1) := by decide +kernel
theorem dX4_isRelated_1 : decode cX4_isRelated 1 = .ok (.bipush 60, 2) := by decide +kernel
theorem dX4_isRelated_3 : decode cX4_isRelated 3 = .ok (.if_icmp .ne 14, 3) := by decide +kernel
theorem dX4_isRelated_6 : decode cX4_isRelated 6 = .ok (.iload_n 0, 1) := by decide +kernel
theorem dX4_isRelated_7 : decode cX4_isRelated 7 = .ok (.iload_n 2, 1) := by decide +kernel
theorem dX4_isRelated_8 : decode cX4_isRelated 8 = .ok (.if_icmp .ge 7, 3) := by decide +kernel
theorem dX4_isRelated_11 : decode cX4_isRelated 11 = .ok (.iconst 1, 1) := by decide +kernel
theorem dX4_isRelated_12 : decode cX4_isRelated 12 = .ok (.goto 4, 3) := by decide +kernel
theorem dX4_isRelated_15 : decode cX4_isRelated 15 = .ok (.iconst 0, 1) := by decide +kernel
theorem dX4_isRelated_16 : decode cX4_isRelated 16 = .ok (.ireturn, 1) := by decide +kernel
theorem dX4_isRelated_17 : decode cX4_isRelated 17 = .ok (.iload_n 1, 1) := by decide +kernel
theorem dX4_isRelated_18 : decode cX4_isRelated 18 = .ok (.bipush 61, 2) := by decide +kernel
theorem dX4_isRelated_20 : decode cX4_isRelated 20 = .ok (.if_icmp .ne 16, 3) := by decide +kernel
theorem dX4_isRelated_23 : decode cX4_isRelated 23 = .ok (.iload_n 0, 1) := by decide +kernel
theorem dX4_isRelated_24 : decode cX4_isRelated 24 = .ok (.iload_n 2, 1) := by decide +kernel
theorem dX4_isRelated_25 : decode cX4_isRelated 25 = .ok (.if_icmp .ne 7, 3) := by decide +kernel
theorem dX4_isRelated_28 : decode cX4_isRelated 28 = .ok (.iconst 1, 1) := by decide +kernel
theorem dX4_isRelated_29 : decode cX4_isRelated 29 = .ok (.goto 17, 3) := by decide +kernel
theorem dX4_isRelated_32 : decode cX4_isRelated 32 = .ok (.iconst 0, 1) := by decide +kernel
theorem dX4_isRelated_33 : decode cX4_isRelated 33 = .ok (.goto 13, 3) := by decide +kernel
theorem dX4_isRelated_36 : decode cX4_isRelated 36 = .ok (.iload_n 0, 1) := by decide +kernel
theorem dX4_isRelated_37 : decode cX4_isRelated 37 = .ok (.iload_n 2, 1) := by decide +kernel
theorem dX4_isRelated_38 : decode cX4_isRelated 38 = .ok (.if_icmp .le 7, 3) := by decide +kernel
theorem dX4_isRelated_41 : decode cX4_isRelated 41 = .ok (.iconst 1, 1) := by decide +kernel
theorem dX4_isRelated_42 : decode cX4_isRelated 42 = .ok (.goto 4, 3) := by decide +kernel
theorem dX4_isRelated_45 : decode cX4_isRelated 45 = .ok (.iconst 0, 1) := by decide +kernel
theorem dX4_isRelated_46 : decode cX4_isRelated 46 = .ok (.ireturn, 1) := by decide +kernel
set_option maxRecDepth 20000 in
theorem ggX4_castFirst_X5_removeFirst : GoodIn wsX4_castFirst wsX5_removeFirst := goodIn_h _ [8, 0, 0, 0, 0, 0, 0, 0, 0, 16, 0, 0] [1, 2, 3, 4, 5, 6, 7, 0, 8, 9, 10, 11] (by decide +kernel) (by decide +kernel)
set_option maxRecDepth 20000 in
theorem gX4_castFirst_X5_removeFirst : GoodIn wsX4_castFirst (wsV RX4 97 RX5 yX5_removeFirst wsX5_removeFirst) := goodIn_app (goodIn_of _ (by decide +kernel)) ggX4_castFirst_X5_removeFirst
set_option maxRecDepth 20000 in
theorem ggX4_castFirst_X5_addLast : GoodIn wsX4_castFirst wsX5_addLast := goodIn_h _ [8, 1, 0, 0, 0, 0, 0, 0, 3, 12, 0, 0] [8, 1, 2, 4, 5, 6, 0, 7, 3, 9, 10, 11] (by decide +kernel) (by decide +kernel)
set_option maxRecDepth 20000 in
theorem gX4_castFirst_X5_addLast : GoodIn wsX4_castFirst (wsV RX4 56 RX5 yX5_addLast wsX5_addLast) := goodIn_app (goodIn_of _ (by decide +kernel)) ggX4_castFirst_X5_addLast
theorem dX4_castFirst_0 : decode cX4_castFirst 0 = .ok (.aload_n 0, 1) := by decide +kernel
theorem dX4_castFirst_1 : decode cX4_castFirst 1 = .ok (.getfield 14, 3) := by decide +kernel
theorem dX4_castFirst_4 : decode cX4_castFirst 4 = .ok (.getfield 73, 3) := by decide +kernel
theorem dX4_castFirst_7 : decode cX4_castFirst 7 = .ok (.ifCond .le 40, 3) := by decide +kernel
theorem dX4_castFirst_10 : decode cX4_castFirst 10 = .ok (.aload_n 0, 1) := by decide +kernel
theorem dX4_castFirst_11 : decode cX4_castFirst 11 = .ok (.getfield 20, 3) := by decide +kernel
theorem dX4_castFirst_14 : decode cX4_castFirst 14 = .ok (.getfield 73, 3) := by decide +kernel
theorem dX4_castFirst_17 : decode cX4_castFirst 17 = .ok (.bipush 12, 2) := by decide +kernel
theorem dX4_castFirst_19 : decode cX4_castFirst 19 = .ok (.if_icmp .ge 28, 3) := by decide +kernel
theorem dX4_castFirst_22 : decode cX4_castFirst 22 = .ok (.aload_n 0, 1) := by decide +kernel
theorem dX4_castFirst_23 : decode cX4_castFirst 23 = .ok (.getfield 14, 3) := by decide +kernel
theorem dX4_castFirst_26 : decode cX4_castFirst 26 = .ok (.invokevirtual 97, 3) := by decide +kernel
theorem dX4_castFirst_29 : decode cX4_castFirst 29 = .ok (.astore_n 1, 1) := by decide +kernel
theorem dX4_castFirst_30 : decode cX4_castFirst 30 = .ok (.aload_n 1, 1) := by decide +kernel
theorem dX4_castFirst_31 : decode cX4_castFirst 31 = .ok (.ifnull 16, 3) := by decide +kernel
theorem dX4_castFirst_34 : decode cX4_castFirst 34 = .ok (.aload_n 1, 1) := by decide +kernel
theorem dX4_castFirst_35 : decode cX4_castFirst 35 = .ok (.iconst 2, 1) := by decide +kernel
theorem dX4_castFirst_36 : decode cX4_castFirst 36 = .ok (.putfield 53, 3) := by decide +kernel
theorem dX4_castFirst_39 : decode cX4_castFirst 39 = .ok (.aload_n 0, 1) := by decide +kernel
theorem dX4_castFirst_40 : decode cX4_castFirst 40 = .ok (.getfield 20, 3) := by decide +kernel
theorem dX4_castFirst_43 : decode cX4_castFirst 43 = .ok (.aload_n 1, 1) := by decide +kernel
theorem dX4_castFirst_44 : decode cX4_castFirst 44 = .ok (.invokevirtual 56, 3) := by decide +kernel
theorem dX4_castFirst_47 : decode cX4_castFirst 47 = .ok (.return_, 1) := by decide +kernel
set_option maxRecDepth 20000 in
theorem ggX4_dropThinnest_X5_thinnest : GoodIn wsX4_dropThinnest wsX5_thinnest := goodIn_h _ [7, 0, 0, 0, 0, 0, 0, 0, 0, 0, 0, 0, 0, 0, 0, 0, 0, 0, 0, 0, 0, 0, 20, 0, 0, 0, 0, 0, 0, 0, 0, 0, 0, 0, 0] [1, 2, 3, 4, 5, 6, 7, 0, 8, 9, 10, 11, 12, 13, 14, 15, 16, 17, 18, 19, 20, 21, 32, 33, 34, 22, 23, 24, 25, 26, 27, 28, 29, 30, 31] (by decide +kernel) (by decide +kernel)
set_option maxRecDepth 20000 in
theorem gX4_dropThinnest_X5_thinnest : GoodIn wsX4_dropThinnest (wsV RX4 144 RX5 yX5_thinnest wsX5_thinnest) := goodIn_app (goodIn_of _ (by decide +kernel)) ggX4_dropThinnest_X5_thinnest
set_option maxRecDepth 20000 in
theorem ggX4_dropThinnest_X5_removeAt : GoodIn wsX4_dropThinnest wsX5_removeAt := goodIn_h _ [7, 2, 1, 0, 0, 0, 0, 0, 0, 0, 0, 0, 10, 26, 0, 0] [12, 1, 6, 2, 3, 4, 0, 5, 7, 8, 9, 10, 11, 13, 14, 15] (by decide +kernel) (by decide +kernel)
set_option maxRecDepth 20000 in
theorem gX4_dropThinnest_X5_removeAt : GoodIn wsX4_dropThinnest (wsV RX4 171 RX5 yX5_removeAt wsX5_removeAt) := goodIn_app (goodIn_of _ (by decide +kernel)) ggX4_dropThinnest_X5_removeAt
set_option maxRecDepth 20000 in
theorem ggX4_dropThinnest_X5_addFirst : GoodIn wsX4_dropThinnest wsX5_addFirst := goodIn_h _ [10, 5, 4, 14, 22, 0, 0] [3, 0, 1, 2, 4, 5, 6] (by decide +kernel) (by decide +kernel)
set_option maxRecDepth 20000 in
theorem gX4_dropThinnest_X5_addFirst : GoodIn wsX4_dropThinnest (wsV RX4 174 RX5 yX5_addFirst wsX5_addFirst) := goodIn_app (goodIn_of _ (by decide +kernel)) ggX4_dropThinnest_X5_addFirst
theorem dX4_dropThinnest_0 : decode cX4_dropThinnest 0 = .ok (.aload_n 0, 1) := by decide +kernel
theorem dX4_dropThinnest_1 : decode cX4_dropThinnest 1 = .ok (.getfield 20, 3) := by decide +kernel
theorem dX4_dropThinnest_4 : decode cX4_dropThinnest 4 = .ok (.aload_n 0, 1) := by decide +kernel
theorem dX4_dropThinnest_5 : decode cX4_dropThinnest 5 = .ok (.getfield 20, 3) := by decide +kernel
theorem dX4_dropThinnest_8 : decode cX4_dropThinnest 8 = .ok (.invokevirtual 144, 3) := by decide +kernel
theorem dX4_dropThinnest_11 : decode cX4_dropThinnest 11 = .ok (.invokevirtual 171, 3) := by decide +kernel
theorem dX4_dropThinnest_14 : decode cX4_dropThinnest 14 = .ok (.astore_n 1, 1) := by decide +kernel
theorem dX4_dropThinnest_15 : decode cX4_dropThinnest 15 = .ok (.aload_n 1, 1) := by decide +kernel
theorem dX4_dropThinnest_16 : decode cX4_dropThinnest 16 = .ok (.ifnull 16, 3) := by decide +kernel
theorem dX4_dropThinnest_19 : decode cX4_dropThinnest 19 = .ok (.aload_n 1, 1) := by decide +kernel
theorem dX4_dropThinnest_20 : decode cX4_dropThinnest 20 = .ok (.iconst 1, 1) := by decide +kernel
theorem dX4_dropThinnest_21 : decode cX4_dropThinnest 21 = .ok (.putfield 53, 3) := by decide +kernel
theorem dX4_dropThinnest_24 : decode cX4_dropThinnest 24 = .ok (.aload_n 0, 1) := by decide +kernel
theorem dX4_dropThinnest_25 : decode cX4_dropThinnest 25 = .ok (.getfield 14, 3) := by decide +kernel
theorem dX4_dropThinnest_28 : decode cX4_dropThinnest 28 = .ok (.aload_n 1, 1) := by decide +kernel
theorem dX4_dropThinnest_29 : decode cX4_dropThinnest 29 = .ok (.invokevirtual 174, 3) := by decide +kernel
theorem dX4_dropThinnest_32 : decode cX4_dropThinnest 32 = .ok (.return_, 1) := by decide +kernel
set_option maxRecDepth 20000 in
theorem ggX4_findFirst_X4_fetchLost : GoodIn wsX4_findFirst wsX4_fetchLost := goodIn_h _ [1, 0, 5, 0, 0, 0, 0, 0, 0, 0, 0, 0, 0, 0, 0, 0, 0, 0, 0, 0, 0, 0, 0, 0, 0, 0, 0, 0, 0, 0, 0, 0, 0, 0, 0, 0, 0, 0, 0, 0, 0, 0, 0, 0, 0, 0, 0] [2, 0, 3, 4, 1, 5, 6, 7, 8, 9, 10, 11, 12, 13, 14, 15, 16, 17, 18, 19, 20, 21, 22, 23, 24, 25, 26, 27, 28, 29, 30, 31, 32, 33, 37, 38, 39, 40, 41, 42, 43, 44, 45, 46, 34, 35, 36] (by decide +kernel) (by decide +kernel)
set_option maxRecDepth 20000 in
theorem gX4_findFirst_X4_fetchLost : GoodIn wsX4_findFirst (wsV RX4 94 RX4 yX4_fetchLost wsX4_fetchLost) := goodIn_app (goodIn_of _ (by decide +kernel)) ggX4_findFirst_X4_fetchLost
theorem dX4_findFirst_0 : decode cX4_findFirst 0 = .ok (.aload_n 0, 1) := by decide +kernel
theorem dX4_findFirst_1 : decode cX4_findFirst 1 = .ok (.getfield 23, 3) := by decide +kernel
theorem dX4_findFirst_4 : decode cX4_findFirst 4 = .ok (.getfield 73, 3) := by decide +kernel
theorem dX4_findFirst_7 : decode cX4_findFirst 7 = .ok (.ifCond .le 17, 3) := by decide +kernel
theorem dX4_findFirst_10 : decode cX4_findFirst 10 = .ok (.aload_n 0, 1) := by decide +kernel
theorem dX4_findFirst_11 : decode cX4_findFirst 11 = .ok (.invokevirtual 94, 3) := by decide +kernel
theorem dX4_findFirst_14 : decode cX4_findFirst 14 = .ok (.aload_n 0, 1) := by decide +kernel
theorem dX4_findFirst_15 : decode cX4_findFirst 15 = .ok (.dup, 1) := by decide +kernel
theorem dX4_findFirst_16 : decode cX4_findFirst 16 = .ok (.getfield 66, 3) := by decide +kernel
theorem dX4_findFirst_19 : decode cX4_findFirst 19 = .ok (.iconst 2, 1) := by decide +kernel
theorem dX4_findFirst_20 : decode cX4_findFirst 20 = .ok (.iadd, 1) := by decide +kernel
theorem dX4_findFirst_21 : decode cX4_findFirst 21 = .ok (.putfield 66, 3) := by decide +kernel
theorem dX4_findFirst_24 : decode cX4_findFirst 24 = .ok (.return_, 1) := by decide +kernel
set_option maxRecDepth 20000 in
theorem ggX4_throwLast_X5_removeAt : GoodIn wsX4_throwLast wsX5_removeAt := goodIn_h _ [10, 0, 0, 0, 0, 0, 0, 0, 0, 0, 0, 0, 0, 23, 0, 0] [1, 2, 3, 4, 5, 6, 0, 7, 8, 9, 10, 11, 12, 13, 14, 15] (by decide +kernel) (by decide +kernel)
set_option maxRecDepth 20000 in
theorem gX4_throwLast_X5_removeAt : GoodIn wsX4_throwLast (wsV RX4 171 RX5 yX5_removeAt wsX5_removeAt) := goodIn_app (goodIn_of _ (by decide +kernel)) ggX4_throwLast_X5_removeAt
set_option maxRecDepth 20000 in
theorem ggX4_throwLast_X0_silkBetween : GoodIn wsX4_throwLast wsX0_silkBetween := goodIn_h _ [26, 0, 0, 0, 0, 0, 0, 0, 15, 0, 0, 0, 0, 0, 0, 0, 0, 0] [1, 2, 3, 4, 0, 5, 6, 7, 8, 9, 10, 11, 12, 13, 14, 15, 16, 17] (by decide +kernel) (by decide +kernel)
set_option maxRecDepth 20000 in
theorem gX4_throwLast_X0_silkBetween : GoodIn wsX4_throwLast (wsV RX4 186 RX0 yX0_silkBetween wsX0_silkBetween) := goodIn_app (goodIn_of _ (by decide +kernel)) ggX4_throwLast_X0_silkBetween
theorem dX4_throwLast_0 : decode cX4_throwLast 0 = .ok (.aload_n 0, 1) := by decide +kernel
theorem dX4_throwLast_1 : decode cX4_throwLast 1 = .ok (.getfield 14, 3) := by decide +kernel
theorem dX4_throwLast_4 : decode cX4_throwLast 4 = .ok (.aload_n 0, 1) := by decide +kernel
theorem dX4_throwLast_5 : decode cX4_throwLast 5 = .ok (.getfield 14, 3) := by decide +kernel
theorem dX4_throwLast_8 : decode cX4_throwLast 8 = .ok (.getfield 73, 3) := by decide +kernel
theorem dX4_throwLast_11 : decode cX4_throwLast 11 = .ok (.iconst 1, 1) := by decide +kernel
theorem dX4_throwLast_12 : decode cX4_throwLast 12 = .ok (.isub, 1) := by decide +kernel
theorem dX4_throwLast_13 : decode cX4_throwLast 13 = .ok (.invokevirtual 171, 3) := by decide +kernel
theorem dX4_throwLast_16 : decode cX4_throwLast 16 = .ok (.astore_n 2, 1) := by decide +kernel
theorem dX4_throwLast_17 : decode cX4_throwLast 17 = .ok (.aload_n 2, 1) := by decide +kernel
theorem dX4_throwLast_18 : decode cX4_throwLast 18 = .ok (.ifnull 30, 3) := by decide +kernel
theorem dX4_throwLast_21 : decode cX4_throwLast 21 = .ok (.aload_n 2, 1) := by decide +kernel
theorem dX4_throwLast_22 : decode cX4_throwLast 22 = .ok (.bipush 6, 2) := by decide +kernel
theorem dX4_throwLast_24 : decode cX4_throwLast 24 = .ok (.putfield 53, 3) := by decide +kernel
theorem dX4_throwLast_27 : decode cX4_throwLast 27 = .ok (.aload_n 1, 1) := by decide +kernel
theorem dX4_throwLast_28 : decode cX4_throwLast 28 = .ok (.dup, 1) := by decide +kernel
theorem dX4_throwLast_29 : decode cX4_throwLast 29 = .ok (.getfield 177, 3) := by decide +kernel
theorem dX4_throwLast_32 : decode cX4_throwLast 32 = .ok (.aload_n 2, 1) := by decide +kernel
theorem dX4_throwLast_33 : decode cX4_throwLast 33 = .ok (.aload_n 2, 1) := by decide +kernel
theorem dX4_throwLast_34 : decode cX4_throwLast 34 = .ok (.getfield 180, 3) := by decide +kernel
theorem dX4_throwLast_37 : decode cX4_throwLast 37 = .ok (.aload_n 2, 1) := by decide +kernel
theorem dX4_throwLast_38 : decode cX4_throwLast 38 = .ok (.getfield 183, 3) := by decide +kernel
theorem dX4_throwLast_41 : decode cX4_throwLast 41 = .ok (.invokevirtual 186, 3) := by decide +kernel
theorem dX4_throwLast_44 : decode cX4_throwLast 44 = .ok (.iadd, 1) := by decide +kernel
theorem dX4_throwLast_45 : decode cX4_throwLast 45 = .ok (.putfield 177, 3) := by decide +kernel
theorem dX4_throwLast_48 : decode cX4_throwLast 48 = .ok (.return_, 1) := by decide +kernel
set_option maxRecDepth 20000 in
theorem ggX4_finenessOf_X0_finenessAt : GoodIn wsX4_finenessOf wsX0_finenessAt := goodIn_h _ [6, 0, 0, 0, 0, 0, 0, 0, 0, 0, 0, 0, 0] [0, 1, 2, 3, 4, 5, 6, 7, 8, 9, 10, 11, 12] (by decide +kernel) (by decide +kernel)
set_option maxRecDepth 20000 in
theorem gX4_finenessOf_X0_finenessAt : GoodIn wsX4_finenessOf (wsV RX4 189 RX0 yX0_finenessAt wsX0_finenessAt) := goodIn_app (goodIn_of _ (by decide +kernel)) ggX4_finenessOf_X0_finenessAt
theorem dX4_finenessOf_0 : decode cX4_finenessOf 0 = .ok (.aload_n 0, 1) := by decide +kernel
theorem dX4_finenessOf_1 : decode cX4_finenessOf 1 = .ok (.ifnonnull 7, 3) := by decide +kernel
theorem dX4_finenessOf_4 : decode cX4_finenessOf 4 = .ok (.iconst 0, 1) := by decide +kernel
theorem dX4_finenessOf_5 : decode cX4_finenessOf 5 = .ok (.goto 11, 3) := by decide +kernel
theorem dX4_finenessOf_8 : decode cX4_finenessOf 8 = .ok (.aload_n 0, 1) := by decide +kernel
theorem dX4_finenessOf_9 : decode cX4_finenessOf 9 = .ok (.aload_n 0, 1) := by decide +kernel
theorem dX4_finenessOf_10 : decode cX4_finenessOf 10 = .ok (.getfield 180, 3) := by decide +kernel
theorem dX4_finenessOf_13 : decode cX4_finenessOf 13 = .ok (.invokevirtual 189, 3) := by decide +kernel
theorem dX4_finenessOf_16 : decode cX4_finenessOf 16 = .ok (.ireturn, 1) := by decide +kernel
set_option maxRecDepth 20000 in
theorem ggX11_fill_X11_potAt : GoodIn wsX11_fill wsX11_potAt := goodIn_h _ [6, 0, 0, 41, 0, 0, 0, 0, 0, 0, 0, 0, 0, 0, 0] [0, 1, 2, 3, 4, 5, 6, 7, 8, 9, 10, 11, 12, 13, 14] (by decide +kernel) (by decide +kernel)
set_option maxRecDepth 20000 in
theorem gX11_fill_X11_potAt : GoodIn wsX11_fill (wsV RX11 134 RX11 yX11_potAt wsX11_potAt) := goodIn_app (goodIn_of _ (by decide +kernel)) ggX11_fill_X11_potAt
set_option maxRecDepth 20000 in
theorem ggX11_fill_X11_isWithin : GoodIn wsX11_fill wsX11_isWithin := goodIn_h _ [11] [0] (by decide +kernel) (by decide +kernel)
set_option maxRecDepth 20000 in
theorem gX11_fill_X11_isWithin : GoodIn wsX11_fill (va_wsS RX11 67 yX11_isWithin wsX11_isWithin) := goodIn_app (goodIn_of _ (by decide +kernel)) ggX11_fill_X11_isWithin
set_option maxRecDepth 20000 in
theorem ggX11_fill_X11_cocoonAt : GoodIn wsX11_fill wsX11_cocoonAt := goodIn_h _ [15, 0, 0, 0, 31, 0, 0, 0, 0, 0, 0, 0, 0, 0, 0, 0] [0, 1, 2, 3, 4, 5, 6, 7, 8, 9, 10, 11, 12, 13, 14, 15] (by decide +kernel) (by decide +kernel)
set_option maxRecDepth 20000 in
theorem gX11_fill_X11_cocoonAt : GoodIn wsX11_fill (wsV RX11 74 RX11 yX11_cocoonAt wsX11_cocoonAt) := goodIn_app (goodIn_of _ (by decide +kernel)) ggX11_fill_X11_cocoonAt
set_option maxRecDepth 20000 in
theorem ggX11_fill_X4_receive : GoodIn wsX11_fill wsX4_receive := goodIn_h _ [23, 0, 0, 0, 0, 0, 0, 0, 0, 0, 0, 0, 0, 0, 0, 0, 0, 0, 0, 0, 0, 0, 0, 0, 0, 0, 0, 12, 0, 0, 0, 0, 0, 0, 0, 0, 0, 0, 0, 0, 0, 0] [0, 1, 2, 3, 4, 5, 6, 7, 8, 9, 10, 11, 12, 13, 14, 15, 16, 27, 28, 29, 30, 31, 32, 33, 34, 35, 36, 37, 38, 17, 18, 19, 20, 21, 22, 23, 24, 25, 26, 39, 40, 41] (by decide +kernel) (by decide +kernel)
set_option maxRecDepth 20000 in
theorem gX11_fill_X4_receive : GoodIn wsX11_fill (wsV RX11 141 RX4 yX4_receive wsX4_receive) := goodIn_app (goodIn_of _ (by decide +kernel)) ggX11_fill_X4_receive
theorem dX11_fill_0 : decode cX11_fill 0 = .ok (.aload_n 0, 1) := by decide +kernel
theorem dX11_fill_1 : decode cX11_fill 1 = .ok (.iload_n 1, 1) := by decide +kernel
theorem dX11_fill_2 : decode cX11_fill 2 = .ok (.invokevirtual 134, 3) := by decide +kernel
theorem dX11_fill_5 : decode cX11_fill 5 = .ok (.astore 5, 2) := by decide +kernel
theorem dX11_fill_7 : decode cX11_fill 7 = .ok (.aload 5, 2) := by decide +kernel
theorem dX11_fill_9 : decode cX11_fill 9 = .ok (.ifnull 24, 3) := by decide +kernel
theorem dX11_fill_12 : decode cX11_fill 12 = .ok (.iload 4, 2) := by decide +kernel
theorem dX11_fill_14 : decode cX11_fill 14 = .ok (.iconst 1, 1) := by decide +kernel
theorem dX11_fill_15 : decode cX11_fill 15 = .ok (.bipush 60, 2) := by decide +kernel
theorem dX11_fill_17 : decode cX11_fill 17 = .ok (.invokestatic 67, 3) := by decide +kernel
theorem dX11_fill_20 : decode cX11_fill 20 = .ok (.ifCond .eq 13, 3) := by decide +kernel
theorem dX11_fill_23 : decode cX11_fill 23 = .ok (.iload_n 3, 1) := by decide +kernel
theorem dX11_fill_24 : decode cX11_fill 24 = .ok (.iconst 0, 1) := by decide +kernel
theorem dX11_fill_25 : decode cX11_fill 25 = .ok (.bipush 59, 2) := by decide +kernel
theorem dX11_fill_27 : decode cX11_fill 27 = .ok (.invokestatic 67, 3) := by decide +kernel
theorem dX11_fill_30 : decode cX11_fill 30 = .ok (.ifCond .ne 5, 3) := by decide +kernel
theorem dX11_fill_33 : decode cX11_fill 33 = .ok (.iconst 0, 1) := by decide +kernel
theorem dX11_fill_34 : decode cX11_fill 34 = .ok (.ireturn, 1) := by decide +kernel
theorem dX11_fill_35 : decode cX11_fill 35 = .ok (.iload_n 3, 1) := by decide +kernel
theorem dX11_fill_36 : decode cX11_fill 36 = .ok (.istore 6, 2) := by decide +kernel
theorem dX11_fill_38 : decode cX11_fill 38 = .ok (.iload 6, 2) := by decide +kernel
theorem dX11_fill_40 : decode cX11_fill 40 = .ok (.iload_n 3, 1) := by decide +kernel
theorem dX11_fill_41 : decode cX11_fill 41 = .ok (.iload 4, 2) := by decide +kernel
theorem dX11_fill_43 : decode cX11_fill 43 = .ok (.iadd, 1) := by decide +kernel
theorem dX11_fill_44 : decode cX11_fill 44 = .ok (.if_icmp .ge 33, 3) := by decide +kernel
theorem dX11_fill_47 : decode cX11_fill 47 = .ok (.aload_n 0, 1) := by decide +kernel
theorem dX11_fill_48 : decode cX11_fill 48 = .ok (.iload_n 2, 1) := by decide +kernel
theorem dX11_fill_49 : decode cX11_fill 49 = .ok (.iload 6, 2) := by decide +kernel
theorem dX11_fill_51 : decode cX11_fill 51 = .ok (.invokevirtual 74, 3) := by decide +kernel
theorem dX11_fill_54 : decode cX11_fill 54 = .ok (.astore 7, 2) := by decide +kernel
theorem dX11_fill_56 : decode cX11_fill 56 = .ok (.aload 7, 2) := by decide +kernel
theorem dX11_fill_58 : decode cX11_fill 58 = .ok (.ifnull 11, 3) := by decide +kernel
theorem dX11_fill_61 : decode cX11_fill 61 = .ok (.aload 7, 2) := by decide +kernel
theorem dX11_fill_63 : decode cX11_fill 63 = .ok (.getfield 81, 3) := by decide +kernel
theorem dX11_fill_66 : decode cX11_fill 66 = .ok (.ifCond .eq 5, 3) := by decide +kernel
theorem dX11_fill_69 : decode cX11_fill 69 = .ok (.iconst 0, 1) := by decide +kernel
theorem dX11_fill_70 : decode cX11_fill 70 = .ok (.ireturn, 1) := by decide +kernel
theorem dX11_fill_71 : decode cX11_fill 71 = .ok (.iinc 6 1, 3) := by decide +kernel
theorem dX11_fill_74 : decode cX11_fill 74 = .ok (.goto (-36), 3) := by decide +kernel
theorem dX11_fill_77 : decode cX11_fill 77 = .ok (.iload_n 3, 1) := by decide +kernel
theorem dX11_fill_78 : decode cX11_fill 78 = .ok (.istore 6, 2) := by decide +kernel
theorem dX11_fill_80 : decode cX11_fill 80 = .ok (.iload 6, 2) := by decide +kernel
theorem dX11_fill_82 : decode cX11_fill 82 = .ok (.iload_n 3, 1) := by decide +kernel
theorem dX11_fill_83 : decode cX11_fill 83 = .ok (.iload 4, 2) := by decide +kernel
theorem dX11_fill_85 : decode cX11_fill 85 = .ok (.iadd, 1) := by decide +kernel
theorem dX11_fill_86 : decode cX11_fill 86 = .ok (.if_icmp .ge 21, 3) := by decide +kernel
theorem dX11_fill_89 : decode cX11_fill 89 = .ok (.aload 5, 2) := by decide +kernel
theorem dX11_fill_91 : decode cX11_fill 91 = .ok (.aload_n 0, 1) := by decide +kernel
theorem dX11_fill_92 : decode cX11_fill 92 = .ok (.iload_n 2, 1) := by decide +kernel
theorem dX11_fill_93 : decode cX11_fill 93 = .ok (.iload 6, 2) := by decide +kernel
theorem dX11_fill_95 : decode cX11_fill 95 = .ok (.invokevirtual 74, 3) := by decide +kernel
theorem dX11_fill_98 : decode cX11_fill 98 = .ok (.invokevirtual 141, 3) := by decide +kernel
theorem dX11_fill_101 : decode cX11_fill 101 = .ok (.iinc 6 1, 3) := by decide +kernel
theorem dX11_fill_104 : decode cX11_fill 104 = .ok (.goto (-24), 3) := by decide +kernel
theorem dX11_fill_107 : decode cX11_fill 107 = .ok (.iconst 1, 1) := by decide +kernel
theorem dX11_fill_108 : decode cX11_fill 108 = .ok (.ireturn, 1) := by decide +kernel
theorem inn_X11_fill_0 : ∀ w ∈ u_ws RX0 TX0 10, w ∈ wsX11_fill := fun w h => List.mem_cons_of_mem _ (List.mem_append_left _ (List.mem_append_left _ (List.mem_append_left _ (List.mem_append_right _ h))))
theorem inn_X4_allHold_4 : ∀ w ∈ u_ws RX4 TX4 12, w ∈ wsX4_allHold := fun w h => List.mem_cons_of_mem _ (List.mem_append_left _ (List.mem_append_left _ (List.mem_append_left _ (List.mem_append_left _ (List.mem_append_right _ h)))))
theorem inn_X4_allHold_6 : ∀ w ∈ u_ws RX6 TX6 7, w ∈ wsX4_allHold := fun w h => List.mem_cons_of_mem _ (List.mem_append_left _ (List.mem_append_left _ (List.mem_append_left _ (List.mem_append_right _ h))))
theorem inn_X4_castFirst_0 : ∀ w ∈ u_ws RX0 TX0 10, w ∈ wsX4_castFirst := fun w h => List.mem_cons_of_mem _ (List.mem_append_right _ h)
theorem inn_X4_castFirst_4 : ∀ w ∈ u_ws RX4 TX4 12, w ∈ wsX4_castFirst := fun w h => List.mem_cons_of_mem _ (List.mem_append_left _ (List.mem_append_left _ (List.mem_append_right _ h)))
theorem inn_X4_castFirst_5 : ∀ w ∈ u_ws RX5 TX5 3, w ∈ wsX4_castFirst := fun w h => List.mem_cons_of_mem _ (List.mem_append_left _ (List.mem_append_right _ h))
theorem inn_X4_dropThinnest_0 : ∀ w ∈ u_ws RX0 TX0 10, w ∈ wsX4_dropThinnest := fun w h => List.mem_cons_of_mem _ (List.mem_append_left _ (List.mem_append_right _ h))
theorem inn_X4_dropThinnest_4 : ∀ w ∈ u_ws RX4 TX4 12, w ∈ wsX4_dropThinnest := fun w h => List.mem_cons_of_mem _ (List.mem_append_left _ (List.mem_append_left _ (List.mem_append_right _ h)))
theorem inn_X4_fetchLost_0 : ∀ w ∈ u_ws RX0 TX0 10, w ∈ wsX4_fetchLost := fun w h => List.mem_cons_of_mem _ (List.mem_append_left _ (List.mem_append_right _ h))
theorem inn_X4_fetchLost_4 : ∀ w ∈ u_ws RX4 TX4 12, w ∈ wsX4_fetchLost := fun w h => List.mem_cons_of_mem _ (List.mem_append_left _ (List.mem_append_left _ (List.mem_append_right _ h)))
theorem inn_X4_fetchLost_5 : ∀ w ∈ u_ws RX5 TX5 3, w ∈ wsX4_fetchLost := fun w h => List.mem_cons_of_mem _ (List.mem_append_right _ h)
theorem inn_X4_findFirst_4 : ∀ w ∈ u_ws RX4 TX4 12, w ∈ wsX4_findFirst := fun w h => List.mem_cons_of_mem _ (List.mem_append_left _ (List.mem_append_left _ (List.mem_append_right _ h)))
theorem inn_X4_findFirst_5 : ∀ w ∈ u_ws RX5 TX5 3, w ∈ wsX4_findFirst := fun w h => List.mem_cons_of_mem _ (List.mem_append_left _ (List.mem_append_right _ h))
theorem inn_X4_finenessOf_0 : ∀ w ∈ u_ws RX0 TX0 10, w ∈ wsX4_finenessOf := fun w h => List.mem_cons_of_mem _ (List.mem_append_right _ h)
theorem inn_X4_receive_0 : ∀ w ∈ u_ws RX0 TX0 10, w ∈ wsX4_receive := fun w h => List.mem_cons_of_mem _ (List.mem_append_left _ (List.mem_append_right _ h))
theorem inn_X4_receive_4 : ∀ w ∈ u_ws RX4 TX4 12, w ∈ wsX4_receive := fun w h => List.mem_cons_of_mem _ (List.mem_append_left _ (List.mem_append_left _ (List.mem_append_right _ h)))
theorem inn_X4_rowNumbered_4 : ∀ w ∈ u_ws RX4 TX4 12, w ∈ wsX4_rowNumbered := fun w h => List.mem_cons_of_mem _ (List.mem_append_right _ h)
theorem inn_X4_searchLost_4 : ∀ w ∈ u_ws RX4 TX4 12, w ∈ wsX4_searchLost := fun w h => List.mem_cons_of_mem _ (List.mem_append_left _ (List.mem_append_left _ (List.mem_append_right _ h)))
theorem inn_X4_searchLost_5 : ∀ w ∈ u_ws RX5 TX5 3, w ∈ wsX4_searchLost := fun w h => List.mem_cons_of_mem _ (List.mem_append_left _ (List.mem_append_right _ h))
theorem inn_X4_throwLast_0 : ∀ w ∈ u_ws RX0 TX0 10, w ∈ wsX4_throwLast := fun w h => List.mem_cons_of_mem _ (List.mem_append_left _ (List.mem_append_right _ h))
theorem inn_X4_throwLast_4 : ∀ w ∈ u_ws RX4 TX4 12, w ∈ wsX4_throwLast := fun w h => List.mem_cons_of_mem _ (List.mem_append_left _ (List.mem_append_left _ (List.mem_append_left _ (List.mem_append_right _ h))))
theorem inn_X4_throwLast_5 : ∀ w ∈ u_ws RX5 TX5 3, w ∈ wsX4_throwLast := fun w h => List.mem_cons_of_mem _ (List.mem_append_left _ (List.mem_append_left _ (List.mem_append_right _ h)))
theorem inn_X4_throwLast_8 : ∀ w ∈ u_ws RX8 TX8 13, w ∈ wsX4_throwLast := fun w h => List.mem_cons_of_mem _ (List.mem_append_right _ h)
theorem inn_X4_valueOf_4 : ∀ w ∈ u_ws RX4 TX4 12, w ∈ wsX4_valueOf := fun w h => List.mem_cons_of_mem _ (List.mem_append_left _ (List.mem_append_left _ (List.mem_append_left _ (List.mem_append_right _ h))))
theorem inn_X4_valueOf_5 : ∀ w ∈ u_ws RX5 TX5 3, w ∈ wsX4_valueOf := fun w h => List.mem_cons_of_mem _ (List.mem_append_left _ (List.mem_append_left _ (List.mem_append_right _ h)))
theorem inn_X4_valueOf_9 : ∀ w ∈ u_ws RX9 TX9 9, w ∈ wsX4_valueOf := fun w h => List.mem_cons_of_mem _ (List.mem_append_left _ (List.mem_append_right _ h))
set_option maxHeartbeats 4000000 in
set_option maxRecDepth 100000 in
theorem k_X4_rowNumbered (l : Launch) (G : va_G) (cy : Nat → ClassId) (κ : Nat → Nat) (S : PS) (sz : Nat) (x : Nat) (a1 : Int32) (a1_z : Int) (hG : GX S) (ha_x : At S x 4) (hz_a1 : a1.toInt = a1_z) : Cq l yX4_rowNumbered wsX4_rowNumbered ({ frames := 1, cells := 0, slots := 0, locals := 48 }) G cy κ S sz [.ref x, .int (a1)] (fun (r : Option Nat) (S9 : PS) => S = S9 ∧ (∀ q, r = some q → At S9 q 5)) := by
  refine ent_m (cc := cX4_rowNumbered) (maxL := 2) (ret := (some (.object "SilkMill$Row"))) (by decide) rfl (Nat.le_of_ble_eq_true rfl) ?_
  intro p e s m below meth c ls X hr hlocks hin hw hl hsz
  subst hsz
  have X : Cx p c cX4_rowNumbered 2 s [.ref x, .int (a1)].toArray wsX4_rowNumbered RX4 m G cy κ (AS S s.heap.size) := X
  have hl : lv_has ls 2 [(0, .ref x), (1, .int (a1))] := hl
  have rg_a1 : (-2147483648) ≤ a1_z ∧ a1_z ≤ 2147483647 := by rw [← hz_a1]; exact ⟨z_lo _, z_hi _⟩
  refine lv_iload_n X.1 X.2.1 dX4_rowNumbered_0 rfl (lv_at hl 1 rfl) ?_
  by_cases w_1 : (a1).toInt < 0 ∨ 2 < (a1).toInt
  · refine lv_tableOut (tgt := 43) X.1 X.2.1 dX4_rowNumbered_1 w_1 (by decide) ?_
    refine lv_null X.1 X.2.1 dX4_rowNumbered_43 ?_
    exact ret_q none rfl X hw hr hlocks (Nat.le_of_ble_eq_true rfl) (Nat.le_of_ble_eq_true rfl) ⟨rfl, (fun q h => by cases h)⟩ dX4_rowNumbered_44
  have w_1b : (a1).toInt = 0 ∨ (a1).toInt = 1 ∨ (a1).toInt = 2 := by omega
  rcases w_1b with w_1c | w_1c | w_1c
  · refine lv_tableIn (tgt := 28) X.1 X.2.1 dX4_rowNumbered_1 (by omega) (by omega) (by rw [w_1c]; rfl) (by decide) ?_
    refine lv_aload_n X.1 X.2.1 dX4_rowNumbered_28 rfl (lv_at hl 0 rfl) ?_
    obtain ⟨q_2, h_3, h_4⟩ := gQ_4_400 hG ha_x
    refine r_getR (g := 400) X hw ha_x rfl 0 h_3 (by decide) rfl inn_X4_rowNumbered_4 (by decide) (X.2.2.2.1 (.fieldLink RX4 14 "SilkMill$Pot" "basket" "LSilkMill$Row;") (by decide +kernel)) rfl (gv_400 _ _) dX4_rowNumbered_29 ?_
    exact ret_q (some q_2) rfl X hw hr hlocks (Nat.le_of_ble_eq_true rfl) (Nat.le_of_ble_eq_true rfl) ⟨rfl, (fun q h => by cases h; exact h_4)⟩ dX4_rowNumbered_32
  · refine lv_tableIn (tgt := 33) X.1 X.2.1 dX4_rowNumbered_1 (by omega) (by omega) (by rw [w_1c]; rfl) (by decide) ?_
    refine lv_aload_n X.1 X.2.1 dX4_rowNumbered_33 rfl (lv_at hl 0 rfl) ?_
    obtain ⟨q_6, h_7, h_8⟩ := gQ_4_401 hG ha_x
    refine r_getR (g := 401) X hw ha_x rfl 1 h_7 (by decide) rfl inn_X4_rowNumbered_4 (by decide) (X.2.2.2.1 (.fieldLink RX4 20 "SilkMill$Pot" "ends" "LSilkMill$Row;") (by decide +kernel)) rfl (gv_401 _ _) dX4_rowNumbered_34 ?_
    exact ret_q (some q_6) rfl X hw hr hlocks (Nat.le_of_ble_eq_true rfl) (Nat.le_of_ble_eq_true rfl) ⟨rfl, (fun q h => by cases h; exact h_8)⟩ dX4_rowNumbered_37
  · refine lv_tableIn (tgt := 38) X.1 X.2.1 dX4_rowNumbered_1 (by omega) (by omega) (by rw [w_1c]; rfl) (by decide) ?_
    refine lv_aload_n X.1 X.2.1 dX4_rowNumbered_38 rfl (lv_at hl 0 rfl) ?_
    obtain ⟨q_10, h_11, h_12⟩ := gQ_4_402 hG ha_x
    refine r_getR (g := 402) X hw ha_x rfl 2 h_11 (by decide) rfl inn_X4_rowNumbered_4 (by decide) (X.2.2.2.1 (.fieldLink RX4 23 "SilkMill$Pot" "lost" "LSilkMill$Row;") (by decide +kernel)) rfl (gv_402 _ _) dX4_rowNumbered_39 ?_
    exact ret_q (some q_10) rfl X hw hr hlocks (Nat.le_of_ble_eq_true rfl) (Nat.le_of_ble_eq_true rfl) ⟨rfl, (fun q h => by cases h; exact h_12)⟩ dX4_rowNumbered_42
set_option maxHeartbeats 4000000 in
set_option maxRecDepth 100000 in
theorem k_X4_finenessOf (l : Launch) (G : va_G) (cy : Nat → ClassId) (κ : Nat → Nat) (S : PS) (sz : Nat) (c1 : Option Nat) (hG : GX S) (hq_c1 : ∀ q, c1 = some q → At S q 0) : Ci l yX4_finenessOf wsX4_finenessOf ({ frames := 2, cells := 0, slots := 0, locals := 96 }) G cy κ S sz [va_rf c1] (fun (r : Int32) (S9 : PS) => S = S9 ∧ (True)) := by
  rcases c1 with _ | q_c1
  · have z_b_1 := trivial
    refine ent_m (cc := cX4_finenessOf) (maxL := 1) (ret := (some .int)) (by decide) rfl (Nat.le_of_ble_eq_true rfl) ?_
    intro p e s m below meth c ls X hr hlocks hin hw hl hsz
    subst hsz
    have X : Cx p c cX4_finenessOf 1 s [.null].toArray wsX4_finenessOf RX4 m G cy κ (AS S s.heap.size) := X
    have hl : lv_has ls 1 [(0, .null)] := hl
    refine lv_aload_nN X.1 X.2.1 dX4_finenessOf_0 rfl (lv_at hl 0 rfl) ?_
    refine lv_ifnonnullN X.1 X.2.1 dX4_finenessOf_1 ?_
    refine lv_iconst (v := 0) X.1 X.2.1 dX4_finenessOf_4 (by decide) ?_
    refine lv_goto (tgt := 16) X.1 X.2.1 dX4_finenessOf_5 (by decide) ?_
    exact ret_i X hw hr hlocks (Nat.le_of_ble_eq_true rfl) (Nat.le_of_ble_eq_true rfl) ⟨rfl, trivial⟩ dX4_finenessOf_16
  · have z_b_2 := trivial
    have ha_q_c1 : At S q_c1 0 := hq_c1 _ rfl
    refine ent_m (cc := cX4_finenessOf) (maxL := 1) (ret := (some .int)) (by decide) rfl (Nat.le_of_ble_eq_true rfl) ?_
    intro p e s m below meth c ls X hr hlocks hin hw hl hsz
    subst hsz
    have X : Cx p c cX4_finenessOf 1 s [.ref q_c1].toArray wsX4_finenessOf RX4 m G cy κ (AS S s.heap.size) := X
    have hl : lv_has ls 1 [(0, .ref q_c1)] := hl
    refine lv_aload_n X.1 X.2.1 dX4_finenessOf_0 rfl (lv_at hl 0 rfl) ?_
    refine lv_ifnonnull (tgt := 8) X.1 X.2.1 dX4_finenessOf_1 (by decide) ?_
    refine lv_aload_n X.1 X.2.1 dX4_finenessOf_8 rfl (lv_at hl 0 rfl) ?_
    refine lv_aload_n X.1 X.2.1 dX4_finenessOf_9 rfl (lv_at hl 0 rfl) ?_
    obtain ⟨v_3, ev_3⟩ : ∃ v, pI S 4 q_c1 = v := ⟨_, rfl⟩
    have rg_5 := And.intro (z_lo v_3) (z_hi v_3)
    refine r_getI (g := 4) (x := v_3) X hw ha_q_c1 rfl 4 ev_3 (by decide) rfl inn_X4_finenessOf_0 (by decide) (X.2.2.2.1 (.fieldLink RX4 180 "SilkMill$Cocoon" "drawnTo" "I") (by decide +kernel)) rfl (gv_4 _ _) dX4_finenessOf_10 ?_
    refine k_i (rm := { frames := 1, cells := 0, slots := 0, locals := 48 }) (av := [.ref q_c1, .int (v_3)]) X hw (va_runV (As := [.int (v_3)]) (rest := []) (cfix X) (k_X0_finenessAt l G cy κ S _ q_c1 (v_3) (v_3.toInt) hG ha_q_c1 rfl) (cwV 1 X.2.2.2.1 gX4_finenessOf_X0_finenessAt rfl rfl rfl (by decide +kernel) ⟨Nat.le_of_ble_eq_true rfl, Nat.le_of_ble_eq_true rfl⟩) (pre_V X hw _ ha_q_c1 rfl (by decide) rfl) rfl rfl hl.1 rfl (lv_room (Nat.le_of_ble_eq_true rfl)) dX4_finenessOf_13 ⟨Nat.le_of_ble_eq_true rfl, Nat.le_of_ble_eq_true rfl⟩) 0 0 (Nat.le_of_ble_eq_true rfl) (Nat.le_of_ble_eq_true rfl) (fun rr_6 S_7 H locs hp hw hfr hnw => ?_)
    obtain ⟨e2, hp⟩ := hp
    subst e2
    have rg_8 := And.intro (z_lo rr_6) (z_hi rr_6)
    exact ret_i X hw hr hlocks (Nat.le_of_ble_eq_true rfl) (Nat.le_of_ble_eq_true rfl) ⟨rfl, trivial⟩ dX4_finenessOf_16
set_option maxHeartbeats 4000000 in
set_option maxRecDepth 100000 in
theorem k_X4_valueOf (l : Launch) (G : va_G) (cy : Nat → ClassId) (κ : Nat → Nat) (S : PS) (sz : Nat) (x : Nat) (a1 : Int32) (a1_z : Int) (a2 : Int32) (a2_z : Int) (hG : GX S) (ha_x : At S x 4) (hz_a1 : a1.toInt = a1_z) (hz_a2 : a2.toInt = a2_z) : Ci l yX4_valueOf wsX4_valueOf ({ frames := 4, cells := 0, slots := 0, locals := 192 }) G cy κ S sz [.ref x, .int (a1), .int (a2)] (fun (r : Int32) (S9 : PS) => S = S9 ∧ (True)) := by
  refine ent_m (cc := cX4_valueOf) (maxL := 3) (ret := (some .int)) (by decide) rfl (Nat.le_of_ble_eq_true rfl) ?_
  intro p e s m below meth c ls X hr hlocks hin hw hl hsz
  subst hsz
  have X : Cx p c cX4_valueOf 3 s [.ref x, .int (a1), .int (a2)].toArray wsX4_valueOf RX4 m G cy κ (AS S s.heap.size) := X
  have hl : lv_has ls 3 [(0, .ref x), (1, .int (a1)), (2, .int (a2))] := hl
  have rg_a1 : (-2147483648) ≤ a1_z ∧ a1_z ≤ 2147483647 := by rw [← hz_a1]; exact ⟨z_lo _, z_hi _⟩
  have rg_a2 : (-2147483648) ≤ a2_z ∧ a2_z ≤ 2147483647 := by rw [← hz_a2]; exact ⟨z_lo _, z_hi _⟩
  refine lv_iload_n X.1 X.2.1 dX4_valueOf_0 rfl (lv_at hl 1 rfl) ?_
  by_cases w_1 : (a1).toInt < 0 ∨ 5 < (a1).toInt
  · refine lv_tableOut (tgt := 98) X.1 X.2.1 dX4_valueOf_1 w_1 (by decide) ?_
    refine lv_iload_n X.1 X.2.1 dX4_valueOf_98 rfl (lv_at hl 2 rfl) ?_
    exact ret_i X hw hr hlocks (Nat.le_of_ble_eq_true rfl) (Nat.le_of_ble_eq_true rfl) ⟨rfl, trivial⟩ dX4_valueOf_99
  have w_1b : (a1).toInt = 0 ∨ (a1).toInt = 1 ∨ (a1).toInt = 2 ∨ (a1).toInt = 3 ∨ (a1).toInt = 4 ∨ (a1).toInt = 5 := by omega
  rcases w_1b with w_1c | w_1c | w_1c | w_1c | w_1c | w_1c
  · refine lv_tableIn (tgt := 40) X.1 X.2.1 dX4_valueOf_1 (by omega) (by omega) (by rw [w_1c]; rfl) (by decide) ?_
    refine lv_aload_n X.1 X.2.1 dX4_valueOf_40 rfl (lv_at hl 0 rfl) ?_
    obtain ⟨q_2, h_3, h_4⟩ := gQ_4_401 hG ha_x
    refine r_getR (g := 401) X hw ha_x rfl 1 h_3 (by decide) rfl inn_X4_valueOf_4 (by decide) (X.2.2.2.1 (.fieldLink RX4 20 "SilkMill$Pot" "ends" "LSilkMill$Row;") (by decide +kernel)) rfl (gv_401 _ _) dX4_valueOf_41 ?_
    refine k_i (rm := { frames := 3, cells := 0, slots := 0, locals := 144 }) (av := [.ref q_2]) X hw (va_runV (As := []) (rest := []) (cfix X) (k_X5_sumOfFineness l G cy κ S _ q_2 hG h_4) (cwV 0 X.2.2.2.1 gX4_valueOf_X5_sumOfFineness rfl rfl rfl (by decide +kernel) ⟨Nat.le_of_ble_eq_true rfl, Nat.le_of_ble_eq_true rfl⟩) (pre_V X hw _ h_4 rfl (by decide) rfl) rfl rfl hl.1 rfl (lv_room (Nat.le_of_ble_eq_true rfl)) dX4_valueOf_44 ⟨Nat.le_of_ble_eq_true rfl, Nat.le_of_ble_eq_true rfl⟩) 0 0 (Nat.le_of_ble_eq_true rfl) (Nat.le_of_ble_eq_true rfl) (fun rr_6 S_7 H locs hp hw hfr hnw => ?_)
    obtain ⟨e2, hp⟩ := hp
    subst e2
    have rg_8 := And.intro (z_lo rr_6) (z_hi rr_6)
    exact ret_i X hw hr hlocks (Nat.le_of_ble_eq_true rfl) (Nat.le_of_ble_eq_true rfl) ⟨rfl, trivial⟩ dX4_valueOf_47
  · refine lv_tableIn (tgt := 48) X.1 X.2.1 dX4_valueOf_1 (by omega) (by omega) (by rw [w_1c]; rfl) (by decide) ?_
    refine lv_aload_n X.1 X.2.1 dX4_valueOf_48 rfl (lv_at hl 0 rfl) ?_
    obtain ⟨q_9, h_10, h_11⟩ := gQ_4_401 hG ha_x
    refine r_getR (g := 401) X hw ha_x rfl 1 h_10 (by decide) rfl inn_X4_valueOf_4 (by decide) (X.2.2.2.1 (.fieldLink RX4 20 "SilkMill$Pot" "ends" "LSilkMill$Row;") (by decide +kernel)) rfl (gv_401 _ _) dX4_valueOf_49 ?_
    obtain ⟨v_13, ev_13⟩ : ∃ v, pI S 500 q_9 = v := ⟨_, rfl⟩
    obtain ⟨q_15, n_16, h_17, h_18, h_19, h_20, h_21⟩ := gRowQ hG h_11
    have rg_14 := gRow_500 hG h_11 h_17 h_19; rw [ev_13] at rg_14
    have pz_22 : (pI S 500 q_9).toInt = v_13.toInt := by rw [ev_13]
    refine r_getI (g := 500) (x := v_13) X hw h_11 rfl 0 ev_13 (by decide) rfl inn_X4_valueOf_5 (by decide) (X.2.2.2.1 (.fieldLink RX4 73 "SilkMill$Row" "size" "I") (by decide +kernel)) rfl (gv_500 _ _) dX4_valueOf_52 ?_
    exact ret_i X hw hr hlocks (Nat.le_of_ble_eq_true rfl) (Nat.le_of_ble_eq_true rfl) ⟨rfl, trivial⟩ dX4_valueOf_55
  · refine lv_tableIn (tgt := 56) X.1 X.2.1 dX4_valueOf_1 (by omega) (by omega) (by rw [w_1c]; rfl) (by decide) ?_
    refine lv_aload_n X.1 X.2.1 dX4_valueOf_56 rfl (lv_at hl 0 rfl) ?_
    obtain ⟨q_23, h_24, h_25⟩ := gQ_4_400 hG ha_x
    refine r_getR (g := 400) X hw ha_x rfl 0 h_24 (by decide) rfl inn_X4_valueOf_4 (by decide) (X.2.2.2.1 (.fieldLink RX4 14 "SilkMill$Pot" "basket" "LSilkMill$Row;") (by decide +kernel)) rfl (gv_400 _ _) dX4_valueOf_57 ?_
    obtain ⟨v_27, ev_27⟩ : ∃ v, pI S 500 q_23 = v := ⟨_, rfl⟩
    obtain ⟨q_29, n_30, h_31, h_32, h_33, h_34, h_35⟩ := gRowQ hG h_25
    have rg_28 := gRow_500 hG h_25 h_31 h_33; rw [ev_27] at rg_28
    have pz_36 : (pI S 500 q_23).toInt = v_27.toInt := by rw [ev_27]
    refine r_getI (g := 500) (x := v_27) X hw h_25 rfl 0 ev_27 (by decide) rfl inn_X4_valueOf_5 (by decide) (X.2.2.2.1 (.fieldLink RX4 73 "SilkMill$Row" "size" "I") (by decide +kernel)) rfl (gv_500 _ _) dX4_valueOf_60 ?_
    exact ret_i X hw hr hlocks (Nat.le_of_ble_eq_true rfl) (Nat.le_of_ble_eq_true rfl) ⟨rfl, trivial⟩ dX4_valueOf_63
  · refine lv_tableIn (tgt := 64) X.1 X.2.1 dX4_valueOf_1 (by omega) (by omega) (by rw [w_1c]; rfl) (by decide) ?_
    refine lv_aload_n X.1 X.2.1 dX4_valueOf_64 rfl (lv_at hl 0 rfl) ?_
    obtain ⟨q_37, h_38, h_39⟩ := gQ_4_402 hG ha_x
    refine r_getR (g := 402) X hw ha_x rfl 2 h_38 (by decide) rfl inn_X4_valueOf_4 (by decide) (X.2.2.2.1 (.fieldLink RX4 23 "SilkMill$Pot" "lost" "LSilkMill$Row;") (by decide +kernel)) rfl (gv_402 _ _) dX4_valueOf_65 ?_
    obtain ⟨v_41, ev_41⟩ : ∃ v, pI S 500 q_37 = v := ⟨_, rfl⟩
    obtain ⟨q_43, n_44, h_45, h_46, h_47, h_48, h_49⟩ := gRowQ hG h_39
    have rg_42 := gRow_500 hG h_39 h_45 h_47; rw [ev_41] at rg_42
    have pz_50 : (pI S 500 q_37).toInt = v_41.toInt := by rw [ev_41]
    refine r_getI (g := 500) (x := v_41) X hw h_39 rfl 0 ev_41 (by decide) rfl inn_X4_valueOf_5 (by decide) (X.2.2.2.1 (.fieldLink RX4 73 "SilkMill$Row" "size" "I") (by decide +kernel)) rfl (gv_500 _ _) dX4_valueOf_68 ?_
    exact ret_i X hw hr hlocks (Nat.le_of_ble_eq_true rfl) (Nat.le_of_ble_eq_true rfl) ⟨rfl, trivial⟩ dX4_valueOf_71
  · refine lv_tableIn (tgt := 72) X.1 X.2.1 dX4_valueOf_1 (by omega) (by omega) (by rw [w_1c]; rfl) (by decide) ?_
    refine lv_aload_n X.1 X.2.1 dX4_valueOf_72 rfl (lv_at hl 0 rfl) ?_
    obtain ⟨q_51, h_52, h_53⟩ := gQ_4_403 hG ha_x
    refine r_getR (g := 403) X hw ha_x rfl 3 h_52 (by decide) rfl inn_X4_valueOf_4 (by decide) (X.2.2.2.1 (.fieldLink RX4 29 "SilkMill$Pot" "strand" "LSilkMill$Strand;") (by decide +kernel)) rfl (gv_403 _ _) dX4_valueOf_73 ?_
    obtain ⟨v_55, ev_55⟩ : ∃ v, pI S 902 q_51 = v := ⟨_, rfl⟩
    have rg_56 := gI_29_902 hG h_53; rw [ev_55] at rg_56
    have pz_57 : (pI S 902 q_51).toInt = v_55.toInt := by rw [ev_55]
    refine r_getI (g := 902) (x := v_55) X hw h_53 rfl 2 ev_55 (by decide) rfl inn_X4_valueOf_9 (by decide) (X.2.2.2.1 (.fieldLink RX4 79 "SilkMill$Strand" "metres" "I") (by decide +kernel)) rfl (gv_902 _ _) dX4_valueOf_76 ?_
    exact ret_i X hw hr hlocks (Nat.le_of_ble_eq_true rfl) (Nat.le_of_ble_eq_true rfl) ⟨rfl, trivial⟩ dX4_valueOf_79
  · refine lv_tableIn (tgt := 80) X.1 X.2.1 dX4_valueOf_1 (by omega) (by omega) (by rw [w_1c]; rfl) (by decide) ?_
    refine lv_aload_n X.1 X.2.1 dX4_valueOf_80 rfl (lv_at hl 0 rfl) ?_
    obtain ⟨q_58, h_59, h_60⟩ := gQ_4_401 hG ha_x
    refine r_getR (g := 401) X hw ha_x rfl 1 h_59 (by decide) rfl inn_X4_valueOf_4 (by decide) (X.2.2.2.1 (.fieldLink RX4 20 "SilkMill$Pot" "ends" "LSilkMill$Row;") (by decide +kernel)) rfl (gv_401 _ _) dX4_valueOf_81 ?_
    refine lv_aload_n X.1 X.2.1 dX4_valueOf_84 rfl (lv_at hl 0 rfl) ?_
    refine r_getR (g := 401) X hw ha_x rfl 1 h_59 (by decide) rfl inn_X4_valueOf_4 (by decide) (X.2.2.2.1 (.fieldLink RX4 20 "SilkMill$Pot" "ends" "LSilkMill$Row;") (by decide +kernel)) rfl (gv_401 _ _) dX4_valueOf_85 ?_
    refine k_i (rm := { frames := 3, cells := 0, slots := 0, locals := 144 }) (av := [.ref q_58]) X hw (va_runV (As := []) (rest := [.ref q_58]) (cfix X) (k_X5_thinnest l G cy κ S _ q_58 hG h_60) (cwV 0 X.2.2.2.1 gX4_valueOf_X5_thinnest rfl rfl rfl (by decide +kernel) ⟨Nat.le_of_ble_eq_true rfl, Nat.le_of_ble_eq_true rfl⟩) (pre_V X hw _ h_60 rfl (by decide) rfl) rfl rfl hl.1 rfl (lv_room (Nat.le_of_ble_eq_true rfl)) dX4_valueOf_88 ⟨Nat.le_of_ble_eq_true rfl, Nat.le_of_ble_eq_true rfl⟩) 0 0 (Nat.le_of_ble_eq_true rfl) (Nat.le_of_ble_eq_true rfl) (fun rr_62 S_63 H locs hp hw hfr hnw => ?_)
    obtain ⟨e2, hp⟩ := hp
    subst e2
    have rg_64 := And.intro (z_lo rr_62) (z_hi rr_62)
    refine k_q (rm := { frames := 2, cells := 0, slots := 0, locals := 96 }) (av := [.ref q_58, .int (rr_62)]) X hw (va_runV (As := [.int (rr_62)]) (rest := []) (cfix X) (k_X5_at l G cy κ S _ q_58 (rr_62) (rr_62.toInt) hG h_60 rfl) (cwV 1 X.2.2.2.1 gX4_valueOf_X5_at rfl rfl rfl (by decide +kernel) ⟨Nat.le_of_ble_eq_true rfl, Nat.le_of_ble_eq_true rfl⟩) (pre_V X hw _ h_60 rfl (by decide) rfl) rfl rfl hl.1 rfl (lv_room (Nat.le_of_ble_eq_true rfl)) dX4_valueOf_91 ⟨Nat.le_of_ble_eq_true rfl, Nat.le_of_ble_eq_true rfl⟩) 0 0 (Nat.le_of_ble_eq_true rfl) (Nat.le_of_ble_eq_true rfl) (fun rr_65 S_66 H locs hp hw hfr hnw => ?_)
    obtain ⟨e2, hp⟩ := hp
    subst e2
    have hq_67 := hp
    rcases rr_65 with _ | q_68
    · refine W.eq (g2 := F0 m 94 ls (.null :: [])) rfl ?_
      refine k_i (rm := { frames := 2, cells := 0, slots := 0, locals := 96 }) (av := [.null]) X hw (va_runS (As := [.null]) (rest := []) (cfix X) (k_X4_finenessOf l G cy κ S _ none hG (fun q h => by cases h)) (cwS 1 X.2.2.2.1 gX4_valueOf_X4_finenessOf rfl rfl rfl (by decide +kernel) ⟨Nat.le_of_ble_eq_true rfl, Nat.le_of_ble_eq_true rfl⟩) (pre_S X hw _) rfl rfl hl.1 rfl (lv_room (Nat.le_of_ble_eq_true rfl)) dX4_valueOf_94 ⟨Nat.le_of_ble_eq_true rfl, Nat.le_of_ble_eq_true rfl⟩) 0 0 (Nat.le_of_ble_eq_true rfl) (Nat.le_of_ble_eq_true rfl) (fun rr_69 S_70 H locs hp hw hfr hnw => ?_)
      obtain ⟨e2, hp⟩ := hp
      subst e2
      have rg_71 := And.intro (z_lo rr_69) (z_hi rr_69)
      exact ret_i X hw hr hlocks (Nat.le_of_ble_eq_true rfl) (Nat.le_of_ble_eq_true rfl) ⟨rfl, trivial⟩ dX4_valueOf_97
    · refine W.eq (g2 := F0 m 94 ls (.ref q_68 :: [])) rfl ?_
      obtain ⟨ha_72, f_73, f_74⟩ := hq_67 _ rfl
      refine k_i (rm := { frames := 2, cells := 0, slots := 0, locals := 96 }) (av := [.ref q_68]) X hw (va_runS (As := [.ref q_68]) (rest := []) (cfix X) (k_X4_finenessOf l G cy κ S _ (some q_68) hG (fun q h => by cases h; exact ha_72)) (cwS 1 X.2.2.2.1 gX4_valueOf_X4_finenessOf rfl rfl rfl (by decide +kernel) ⟨Nat.le_of_ble_eq_true rfl, Nat.le_of_ble_eq_true rfl⟩) (pre_S X hw _) rfl rfl hl.1 rfl (lv_room (Nat.le_of_ble_eq_true rfl)) dX4_valueOf_94 ⟨Nat.le_of_ble_eq_true rfl, Nat.le_of_ble_eq_true rfl⟩) 0 0 (Nat.le_of_ble_eq_true rfl) (Nat.le_of_ble_eq_true rfl) (fun rr_75 S_76 H locs hp hw hfr hnw => ?_)
      obtain ⟨e2, hp⟩ := hp
      subst e2
      have rg_77 := And.intro (z_lo rr_75) (z_hi rr_75)
      exact ret_i X hw hr hlocks (Nat.le_of_ble_eq_true rfl) (Nat.le_of_ble_eq_true rfl) ⟨rfl, trivial⟩ dX4_valueOf_97
set_option maxHeartbeats 4000000 in
set_option maxRecDepth 100000 in
theorem k_X4_isRelated (l : Launch) (G : va_G) (cy : Nat → ClassId) (κ : Nat → Nat) (S : PS) (sz : Nat) (a1 : Int32) (a1_z : Int) (a2 : Int32) (a2_z : Int) (a3 : Int32) (a3_z : Int) (hG : GX S) (hz_a1 : a1.toInt = a1_z) (hz_a2 : a2.toInt = a2_z) (hz_a3 : a3.toInt = a3_z) : Ci l yX4_isRelated wsX4_isRelated ({ frames := 1, cells := 0, slots := 0, locals := 48 }) G cy κ S sz [.int (a1), .int (a2), .int (a3)] (fun (r : Int32) (S9 : PS) => S = S9 ∧ (((True) ∧ r = 1) ∨ ((True) ∧ r = 0))) := by
  refine ent_m (cc := cX4_isRelated) (maxL := 3) (ret := (some .boolean)) (by decide) rfl (Nat.le_of_ble_eq_true rfl) ?_
  intro p e s m below meth c ls X hr hlocks hin hw hl hsz
  subst hsz
  have X : Cx p c cX4_isRelated 3 s [.int (a1), .int (a2), .int (a3)].toArray wsX4_isRelated RX4 m G cy κ (AS S s.heap.size) := X
  have hl : lv_has ls 3 [(0, .int (a1)), (1, .int (a2)), (2, .int (a3))] := hl
  have rg_a1 : (-2147483648) ≤ a1_z ∧ a1_z ≤ 2147483647 := by rw [← hz_a1]; exact ⟨z_lo _, z_hi _⟩
  have rg_a2 : (-2147483648) ≤ a2_z ∧ a2_z ≤ 2147483647 := by rw [← hz_a2]; exact ⟨z_lo _, z_hi _⟩
  have rg_a3 : (-2147483648) ≤ a3_z ∧ a3_z ≤ 2147483647 := by rw [← hz_a3]; exact ⟨z_lo _, z_hi _⟩
  refine lv_iload_n X.1 X.2.1 dX4_isRelated_0 rfl (lv_at hl 1 rfl) ?_
  refine lv_bipush (v := 60) X.1 X.2.1 dX4_isRelated_1 (by decide) ?_
  refine lv_icmp_ne (tgt := 17) X.1 X.2.1 dX4_isRelated_3 (by decide) (fun c_1 => ?_) (fun c_1 => ?_)
  · have z_b_2 := trivial
    have k_3 : a2_z ≠ 60 := z_ne hz_a2 ti_60 c_1
    refine lv_iload_n X.1 X.2.1 dX4_isRelated_17 rfl (lv_at hl 1 rfl) ?_
    refine lv_bipush (v := 61) X.1 X.2.1 dX4_isRelated_18 (by decide) ?_
    refine lv_icmp_ne (tgt := 36) X.1 X.2.1 dX4_isRelated_20 (by decide) (fun c_4 => ?_) (fun c_4 => ?_)
    · have z_b_5 := trivial
      have k_6 : a2_z ≠ 61 := z_ne hz_a2 ti_61 c_4
      refine lv_iload_n X.1 X.2.1 dX4_isRelated_36 rfl (lv_at hl 0 rfl) ?_
      refine lv_iload_n X.1 X.2.1 dX4_isRelated_37 rfl (lv_at hl 2 rfl) ?_
      refine lv_icmp_le (tgt := 45) X.1 X.2.1 dX4_isRelated_38 (by decide) (fun c_7 => ?_) (fun c_7 => ?_)
      · have z_b_8 := trivial
        have k_9 : a1_z ≤ a3_z := z_le hz_a1 hz_a3 c_7
        refine lv_iconst (v := 0) X.1 X.2.1 dX4_isRelated_45 (by decide) ?_
        exact ret_z X hw hr hlocks (Nat.le_of_ble_eq_true rfl) (Nat.le_of_ble_eq_true rfl) (by decide) ⟨rfl, Or.inr ⟨trivial, rfl⟩⟩ dX4_isRelated_46
      · have z_b_10 := trivial
        have k_11 : a1_z > a3_z := z_nle hz_a1 hz_a3 c_7
        refine lv_iconst (v := 1) X.1 X.2.1 dX4_isRelated_41 (by decide) ?_
        refine lv_goto (tgt := 46) X.1 X.2.1 dX4_isRelated_42 (by decide) ?_
        exact ret_z X hw hr hlocks (Nat.le_of_ble_eq_true rfl) (Nat.le_of_ble_eq_true rfl) (by decide) ⟨rfl, Or.inl ⟨trivial, rfl⟩⟩ dX4_isRelated_46
    · have z_b_12 := trivial
      have k_13 : a2_z = 61 := z_eq hz_a2 ti_61 c_4
      refine lv_iload_n X.1 X.2.1 dX4_isRelated_23 rfl (lv_at hl 0 rfl) ?_
      refine lv_iload_n X.1 X.2.1 dX4_isRelated_24 rfl (lv_at hl 2 rfl) ?_
      refine lv_icmp_ne (tgt := 32) X.1 X.2.1 dX4_isRelated_25 (by decide) (fun c_14 => ?_) (fun c_14 => ?_)
      · have z_b_15 := trivial
        have k_16 : a1_z ≠ a3_z := z_ne hz_a1 hz_a3 c_14
        refine lv_iconst (v := 0) X.1 X.2.1 dX4_isRelated_32 (by decide) ?_
        refine lv_goto (tgt := 46) X.1 X.2.1 dX4_isRelated_33 (by decide) ?_
        exact ret_z X hw hr hlocks (Nat.le_of_ble_eq_true rfl) (Nat.le_of_ble_eq_true rfl) (by decide) ⟨rfl, Or.inr ⟨trivial, rfl⟩⟩ dX4_isRelated_46
      · have z_b_17 := trivial
        have k_18 : a1_z = a3_z := z_eq hz_a1 hz_a3 c_14
        refine lv_iconst (v := 1) X.1 X.2.1 dX4_isRelated_28 (by decide) ?_
        refine lv_goto (tgt := 46) X.1 X.2.1 dX4_isRelated_29 (by decide) ?_
        exact ret_z X hw hr hlocks (Nat.le_of_ble_eq_true rfl) (Nat.le_of_ble_eq_true rfl) (by decide) ⟨rfl, Or.inl ⟨trivial, rfl⟩⟩ dX4_isRelated_46
  · have z_b_19 := trivial
    have k_20 : a2_z = 60 := z_eq hz_a2 ti_60 c_1
    refine lv_iload_n X.1 X.2.1 dX4_isRelated_6 rfl (lv_at hl 0 rfl) ?_
    refine lv_iload_n X.1 X.2.1 dX4_isRelated_7 rfl (lv_at hl 2 rfl) ?_
    refine lv_icmp_ge (tgt := 15) X.1 X.2.1 dX4_isRelated_8 (by decide) (fun c_21 => ?_) (fun c_21 => ?_)
    · have z_b_22 := trivial
      have k_23 : a1_z ≥ a3_z := z_le hz_a3 hz_a1 c_21
      refine lv_iconst (v := 0) X.1 X.2.1 dX4_isRelated_15 (by decide) ?_
      exact ret_z X hw hr hlocks (Nat.le_of_ble_eq_true rfl) (Nat.le_of_ble_eq_true rfl) (by decide) ⟨rfl, Or.inr ⟨trivial, rfl⟩⟩ dX4_isRelated_16
    · have z_b_24 := trivial
      have k_25 : a1_z < a3_z := z_nle hz_a3 hz_a1 c_21
      refine lv_iconst (v := 1) X.1 X.2.1 dX4_isRelated_11 (by decide) ?_
      refine lv_goto (tgt := 16) X.1 X.2.1 dX4_isRelated_12 (by decide) ?_
      exact ret_z X hw hr hlocks (Nat.le_of_ble_eq_true rfl) (Nat.le_of_ble_eq_true rfl) (by decide) ⟨rfl, Or.inl ⟨trivial, rfl⟩⟩ dX4_isRelated_16
set_option maxHeartbeats 4000000 in
set_option maxRecDepth 100000 in
theorem k_X4_allHold (l : Launch) (G : va_G) (cy : Nat → ClassId) (κ : Nat → Nat) (S : PS) (sz : Nat) (x : Nat) (a1 : Int32) (a1_z : Int) (a2 : Int32) (a2_z : Int) (hG : GX S) (ha_x : At S x 4) (hz_a1 : a1.toInt = a1_z) (hz_a2 : a2.toInt = a2_z) (hp_0 : 0 ≤ a1_z) (hp_1 : a1_z ≤ 11) : Ci l yX4_allHold wsX4_allHold ({ frames := 5, cells := 0, slots := 0, locals := 240 }) G cy κ S sz [.ref x, .int (a1), .int (a2)] (fun (r : Int32) (S9 : PS) => S = S9 ∧ (((True) ∧ r = 1) ∨ ((True) ∧ r = 0))) := by
  refine ent_m (cc := cX4_allHold) (maxL := 6) (ret := (some .boolean)) (by decide) rfl (Nat.le_of_ble_eq_true rfl) ?_
  intro p e s m below meth c ls X hr hlocks hin hw hl hsz
  subst hsz
  have X : Cx p c cX4_allHold 6 s [.ref x, .int (a1), .int (a2)].toArray wsX4_allHold RX4 m G cy κ (AS S s.heap.size) := X
  have hl : lv_has ls 6 [(0, .ref x), (1, .int (a1)), (2, .int (a2))] := hl
  have rg_a1 : (-2147483648) ≤ a1_z ∧ a1_z ≤ 2147483647 := by rw [← hz_a1]; exact ⟨z_lo _, z_hi _⟩
  have rg_a2 : (-2147483648) ≤ a2_z ∧ a2_z ≤ 2147483647 := by rw [← hz_a2]; exact ⟨z_lo _, z_hi _⟩
  generalize hQQ : MQ below _ _ _ _ _ _ = QQ
  replace hQQ := hQQ.symm
  refine lv_iload_n X.1 X.2.1 dX4_allHold_0 rfl (lv_at hl 1 rfl) ?_
  refine lv_iconst (v := 4) X.1 X.2.1 dX4_allHold_1 (by decide) ?_
  refine lv_imul X.1 X.2.1 dX4_allHold_2 ?_
  refine lv_topi (fun v_1 ev_1 => ?_)
  have z_2 : v_1.toInt = a1_z * 4 := z_mul ev_1 hz_a1 ti_4 (by omega) (by omega)
  refine lv_istore_n (lv' := [(3, .int (v_1)), (0, .ref x), (1, .int (a1)), (2, .int (a2))]) X.1 X.2.1 dX4_allHold_3 rfl hl (by decide) rfl (fun ls hl => ?_)
  refine lv_iload_n X.1 X.2.1 dX4_allHold_4 rfl (lv_at hl 0 rfl) ?_
  refine lv_istore (lv' := [(4, .int (v_1)), (3, .int (v_1)), (0, .ref x), (1, .int (a1)), (2, .int (a2))]) X.1 X.2.1 dX4_allHold_5 hl (by decide) rfl (fun ls hl => ?_)
  have L_3 : ∀ (n : Nat) (H : Heap) (locs : List Loc) (ls : Array Slot) (i4_4 : Int32) (i4_4_z : Int), ((48 - i4_4_z).toNat = n) → (Wd G cy (AS S s.heap.size) s.heap S H locs) → (i4_4.toInt = i4_4_z) → (0 ≤ i4_4_z ∧ i4_4_z ≤ 48) → (lv_has ls 6 [(4, .int (i4_4)), (3, .int (v_1)), (0, .ref x), (1, .int (a1)), (2, .int (a2))]) → W p l e ({ frames := 5, cells := 0, slots := 0, locals := 240 }) s m [.ref x, .int (a1), .int (a2)].toArray below meth c H locs 0 0 QQ (F0 m 7 ls []) := by
    intro n
    induction n using Nat.strongRecOn with
    | ind n ih =>
    intro H locs ls i4_4 i4_4_z hn hw hz_i4_4 hr_i4_4 hl
    have rg_5 : (-2147483648) ≤ i4_4_z ∧ i4_4_z ≤ 2147483647 := by rw [← hz_i4_4]; exact ⟨z_lo _, z_hi _⟩
    refine lv_iload X.1 X.2.1 dX4_allHold_7 (lv_at hl 0 rfl) ?_
    refine lv_iload_n X.1 X.2.1 dX4_allHold_9 rfl (lv_at hl 1 rfl) ?_
    refine lv_aload_n X.1 X.2.1 dX4_allHold_10 rfl (lv_at hl 2 rfl) ?_
    obtain ⟨q_6, h_7, h_8⟩ := gQ_4_409 hG ha_x
    refine r_getR (g := 409) X hw ha_x rfl 9 h_7 (by decide) rfl inn_X4_allHold_4 (by decide) (X.2.2.2.1 (.fieldLink RX4 36 "SilkMill$Pot" "rules" "LSilkMill$Rules;") (by decide +kernel)) rfl (gv_409 _ _) dX4_allHold_11 ?_
    obtain ⟨q_10, h_11, h_12, h_13⟩ := gQ_6_603 hG h_8
    refine r_getR (g := 603) X hw h_8 rfl 3 h_11 (by decide) rfl inn_X4_allHold_6 (by decide) (X.2.2.2.1 (.fieldLink RX4 120 "SilkMill$Rules" "conditions" "[I") (by decide +kernel)) rfl (gv_603 _ _) dX4_allHold_14 ?_
    refine lv_iload_n X.1 X.2.1 dX4_allHold_17 rfl (lv_at hl 3 rfl) ?_
    refine r_iald X hw h_12 rfl (by rw [h_13]; exact z_ix hz_a1 (by omega) (by omega)) dX4_allHold_18 ?_
    refine lv_topi (fun v_14 ev_14 => ?_)
    have z_15 := gE_34 hG h_12 (Int32.toNatClampNeg (a1)); rw [← ev_14] at z_15
    have ev_14 := ev_14.symm
    refine lv_iadd X.1 X.2.1 dX4_allHold_19 ?_
    refine lv_topi (fun v_16 ev_16 => ?_)
    have z_17 : v_16.toInt = v_1.toInt + v_14.toInt := z_add ev_16 rfl rfl (by omega) (by omega)
    refine lv_icmp_ge (tgt := 76) X.1 X.2.1 dX4_allHold_20 (by decide) (fun c_18 => ?_) (fun c_18 => ?_)
    · have z_b_19 := trivial
      have k_20 : i4_4_z ≥ v_16.toInt := z_le rfl hz_i4_4 c_18
      refine lv_iconst (v := 1) X.1 X.2.1 dX4_allHold_76 (by decide) ?_
      rw [hQQ]
      exact ret_z X hw hr hlocks (Nat.le_of_ble_eq_true rfl) (Nat.le_of_ble_eq_true rfl) (by decide) ⟨rfl, Or.inl ⟨trivial, rfl⟩⟩ dX4_allHold_77
    · have z_b_21 := trivial
      have k_22 : i4_4_z < v_16.toInt := z_nle rfl hz_i4_4 c_18
      refine lv_aload_n X.1 X.2.1 dX4_allHold_23 rfl (lv_at hl 2 rfl) ?_
      refine lv_aload_n X.1 X.2.1 dX4_allHold_24 rfl (lv_at hl 2 rfl) ?_
      refine r_getR (g := 409) X hw ha_x rfl 9 h_7 (by decide) rfl inn_X4_allHold_4 (by decide) (X.2.2.2.1 (.fieldLink RX4 36 "SilkMill$Pot" "rules" "LSilkMill$Rules;") (by decide +kernel)) rfl (gv_409 _ _) dX4_allHold_25 ?_
      obtain ⟨q_23, h_24, h_25, h_26⟩ := gQ_6_604 hG h_8
      refine r_getR (g := 604) X hw h_8 rfl 4 h_24 (by decide) rfl inn_X4_allHold_6 (by decide) (X.2.2.2.1 (.fieldLink RX4 123 "SilkMill$Rules" "fields" "[I") (by decide +kernel)) rfl (gv_604 _ _) dX4_allHold_28 ?_
      refine lv_iload X.1 X.2.1 dX4_allHold_31 (lv_at hl 0 rfl) ?_
      refine r_iald X hw h_25 rfl (by rw [h_26]; exact z_ix hz_i4_4 (by omega) (by omega)) dX4_allHold_33 ?_
      refine lv_topi (fun v_27 ev_27 => ?_)
      have rg_28 := And.intro (z_lo v_27) (z_hi v_27)
      have ev_27 := ev_27.symm
      refine lv_iload_n X.1 X.2.1 dX4_allHold_34 rfl (lv_at hl 4 rfl) ?_
      refine k_i (rm := { frames := 4, cells := 0, slots := 0, locals := 192 }) (av := [.ref x, .int (v_27), .int (a2)]) X hw (va_runV (As := [.int (v_27), .int (a2)]) (rest := []) (cfix X) (k_X4_valueOf l G cy κ S _ x (v_27) (v_27.toInt) (a2) (a2_z) hG ha_x rfl hz_a2) (cwV 2 X.2.2.2.1 gX4_allHold_X4_valueOf rfl rfl rfl (by decide +kernel) ⟨Nat.le_of_ble_eq_true rfl, Nat.le_of_ble_eq_true rfl⟩) (pre_V X hw _ ha_x rfl (by decide) rfl) rfl rfl hl.1 rfl (lv_room (Nat.le_of_ble_eq_true rfl)) dX4_allHold_35 ⟨Nat.le_of_ble_eq_true rfl, Nat.le_of_ble_eq_true rfl⟩) 0 0 (Nat.le_of_ble_eq_true rfl) (Nat.le_of_ble_eq_true rfl) (fun rr_29 S_30 H locs hp hw hfr hnw => ?_)
      obtain ⟨e2, hp⟩ := hp
      subst e2
      have rg_31 := And.intro (z_lo rr_29) (z_hi rr_29)
      refine lv_istore (lv' := [(5, .int (rr_29)), (4, .int (i4_4)), (3, .int (v_1)), (0, .ref x), (1, .int (a1)), (2, .int (a2))]) X.1 X.2.1 dX4_allHold_38 hl (by decide) rfl (fun ls hl => ?_)
      refine lv_iload X.1 X.2.1 dX4_allHold_40 (lv_at hl 0 rfl) ?_
      refine lv_aload_n X.1 X.2.1 dX4_allHold_42 rfl (lv_at hl 3 rfl) ?_
      refine r_getR (g := 409) X hw ha_x rfl 9 h_7 (by decide) rfl inn_X4_allHold_4 (by decide) (X.2.2.2.1 (.fieldLink RX4 36 "SilkMill$Pot" "rules" "LSilkMill$Rules;") (by decide +kernel)) rfl (gv_409 _ _) dX4_allHold_43 ?_
      obtain ⟨q_32, h_33, h_34, h_35⟩ := gQ_6_605 hG h_8
      refine r_getR (g := 605) X hw h_8 rfl 5 h_33 (by decide) rfl inn_X4_allHold_6 (by decide) (X.2.2.2.1 (.fieldLink RX4 130 "SilkMill$Rules" "relations" "[I") (by decide +kernel)) rfl (gv_605 _ _) dX4_allHold_46 ?_
      refine lv_iload X.1 X.2.1 dX4_allHold_49 (lv_at hl 1 rfl) ?_
      refine r_iald X hw h_34 rfl (by rw [h_35]; exact z_ix hz_i4_4 (by omega) (by omega)) dX4_allHold_51 ?_
      refine lv_topi (fun v_36 ev_36 => ?_)
      have rg_37 := And.intro (z_lo v_36) (z_hi v_36)
      have ev_36 := ev_36.symm
      refine lv_aload_n X.1 X.2.1 dX4_allHold_52 rfl (lv_at hl 3 rfl) ?_
      refine r_getR (g := 409) X hw ha_x rfl 9 h_7 (by decide) rfl inn_X4_allHold_4 (by decide) (X.2.2.2.1 (.fieldLink RX4 36 "SilkMill$Pot" "rules" "LSilkMill$Rules;") (by decide +kernel)) rfl (gv_409 _ _) dX4_allHold_53 ?_
      obtain ⟨q_38, h_39, h_40, h_41⟩ := gQ_6_606 hG h_8
      refine r_getR (g := 606) X hw h_8 rfl 6 h_39 (by decide) rfl inn_X4_allHold_6 (by decide) (X.2.2.2.1 (.fieldLink RX4 133 "SilkMill$Rules" "numbers" "[I") (by decide +kernel)) rfl (gv_606 _ _) dX4_allHold_56 ?_
      refine lv_iload X.1 X.2.1 dX4_allHold_59 (lv_at hl 1 rfl) ?_
      refine r_iald X hw h_40 rfl (by rw [h_41]; exact z_ix hz_i4_4 (by omega) (by omega)) dX4_allHold_61 ?_
      refine lv_topi (fun v_42 ev_42 => ?_)
      have rg_43 := And.intro (z_lo v_42) (z_hi v_42)
      have ev_42 := ev_42.symm
      refine k_i (rm := { frames := 1, cells := 0, slots := 0, locals := 48 }) (av := [.int (rr_29), .int (v_36), .int (v_42)]) X hw (va_runS (As := [.int (rr_29), .int (v_36), .int (v_42)]) (rest := []) (cfix X) (k_X4_isRelated l G cy κ S _ (rr_29) (rr_29.toInt) (v_36) (v_36.toInt) (v_42) (v_42.toInt) hG rfl rfl rfl) (cwS 3 X.2.2.2.1 gX4_allHold_X4_isRelated rfl rfl rfl (by decide +kernel) ⟨Nat.le_of_ble_eq_true rfl, Nat.le_of_ble_eq_true rfl⟩) (pre_S X hw _) rfl rfl hl.1 rfl (lv_room (Nat.le_of_ble_eq_true rfl)) dX4_allHold_62 ⟨Nat.le_of_ble_eq_true rfl, Nat.le_of_ble_eq_true rfl⟩) 0 0 (Nat.le_of_ble_eq_true rfl) (Nat.le_of_ble_eq_true rfl) (fun rr_44 S_45 H locs hp hw hfr hnw => ?_)
      obtain ⟨e2, hp⟩ := hp
      subst e2
      rcases hp with ⟨f_46, er_47⟩ | ⟨f_46, er_47⟩ <;> subst er_47
      · have z_b_48 := trivial
        refine lv_if_ne (tgt := 70) X.1 X.2.1 dX4_allHold_65 (by decide) (fun c_49 => ?_) (fun c_49 => absurd c_49 (by decide))
        obtain ⟨x_50, ex_50⟩ : ∃ y : Int32, y = i4_4 + 1 := ⟨_, rfl⟩
        have z_51 : x_50.toInt = i4_4_z + 1 := z_add ex_50 hz_i4_4 ti_1 (by omega) (by omega)
        refine lv_iinc (v := x_50) (lv' := [(4, .int (x_50)), (5, .int (rr_29)), (3, .int (v_1)), (0, .ref x), (1, .int (a1)), (2, .int (a2))]) X.1 X.2.1 dX4_allHold_70 hl (k := 1) rfl (by rw [ex_50]; rfl) (by decide) rfl (fun ls hl => ?_)
        refine lv_goto (tgt := 7) X.1 X.2.1 dX4_allHold_73 (by decide) ?_
        exact ih _ (by omega) _ _ _ (x_50) (x_50.toInt) rfl hw rfl (by omega) (lv_sub hl [0, 2, 3, 4, 5] rfl)
      · have z_b_52 := trivial
        refine lv_if_ne (tgt := 70) X.1 X.2.1 dX4_allHold_65 (by decide) (fun c_53 => absurd c_53 (by decide)) (fun c_53 => ?_)
        refine lv_iconst (v := 0) X.1 X.2.1 dX4_allHold_68 (by decide) ?_
        rw [hQQ]
        exact ret_z X hw hr hlocks (Nat.le_of_ble_eq_true rfl) (Nat.le_of_ble_eq_true rfl) (by decide) ⟨rfl, Or.inr ⟨trivial, rfl⟩⟩ dX4_allHold_69
  exact L_3 _ _ _ _ (v_1) (v_1.toInt) rfl hw rfl (by omega) (lv_sub hl [0, 1, 2, 3, 4] rfl)
