theorem dX12_place_0 : decode cX12_place 0 = .ok (.aload_n 0, 1) := by decide +kernel
theorem dX12_place_1 : decode cX12_place 1 = .ok (.iconst 0, 1) := by decide +kernel
theorem dX12_place_2 : decode cX12_place 2 = .ok (.putfield 161, 3) := by decide +kernel
theorem dX12_place_5 : decode cX12_place 5 = .ok (.aload_n 0, 1) := by decide +kernel
theorem dX12_place_6 : decode cX12_place 6 = .ok (.getfield 86, 3) := by decide +kernel
theorem dX12_place_9 : decode cX12_place 9 = .ok (.ireturn, 1) := by decide +kernel
theorem dX12_growing_0 : decode cX12_growing 0 = .ok (.sipush 12000, 3) := by decide +kernel
theorem dX12_growing_3 : decode cX12_growing 3 = .ok (.sipush 300, 3) := by decide +kernel
theorem dX12_growing_6 : decode cX12_growing 6 = .ok (.iload_n 1, 1) := by decide +kernel
theorem dX12_growing_7 : decode cX12_growing 7 = .ok (.imul, 1) := by decide +kernel
theorem dX12_growing_8 : decode cX12_growing 8 = .ok (.iadd, 1) := by decide +kernel
theorem dX12_growing_9 : decode cX12_growing 9 = .ok (.ireturn, 1) := by decide +kernel
set_option maxRecDepth 20000 in
theorem ggX12_isSkein_X12_within : GoodIn wsX12_isSkein wsX12_within := goodIn_h _ [5] [0] (by decide +kernel) (by decide +kernel)
set_option maxRecDepth 20000 in
theorem gX12_isSkein_X12_within : GoodIn wsX12_isSkein (va_wsS RX12 168 yX12_within wsX12_within) := goodIn_app (goodIn_of _ (by decide +kernel)) ggX12_isSkein_X12_within
theorem dX12_isSkein_0 : decode cX12_isSkein 0 = .ok (.iload_n 1, 1) := by decide +kernel
theorem dX12_isSkein_1 : decode cX12_isSkein 1 = .ok (.iconst 0, 1) := by decide +kernel
theorem dX12_isSkein_2 : decode cX12_isSkein 2 = .ok (.aload_n 0, 1) := by decide +kernel
theorem dX12_isSkein_3 : decode cX12_isSkein 3 = .ok (.getfield 290, 3) := by decide +kernel
theorem dX12_isSkein_6 : decode cX12_isSkein 6 = .ok (.iconst 1, 1) := by decide +kernel
theorem dX12_isSkein_7 : decode cX12_isSkein 7 = .ok (.isub, 1) := by decide +kernel
theorem dX12_isSkein_8 : decode cX12_isSkein 8 = .ok (.invokestatic 168, 3) := by decide +kernel
theorem dX12_isSkein_11 : decode cX12_isSkein 11 = .ok (.ireturn, 1) := by decide +kernel
theorem dX12_gradeOf_0 : decode cX12_gradeOf 0 = .ok (.aload_n 0, 1) := by decide +kernel
theorem dX12_gradeOf_1 : decode cX12_gradeOf 1 = .ok (.getfield 112, 3) := by decide +kernel
theorem dX12_gradeOf_4 : decode cX12_gradeOf 4 = .ok (.iload_n 1, 1) := by decide +kernel
theorem dX12_gradeOf_5 : decode cX12_gradeOf 5 = .ok (.iaload, 1) := by decide +kernel
theorem dX12_gradeOf_6 : decode cX12_gradeOf 6 = .ok (.iconst (-1), 1) := by decide +kernel
theorem dX12_gradeOf_7 : decode cX12_gradeOf 7 = .ok (.if_icmp .ne 7, 3) := by decide +kernel
theorem dX12_gradeOf_10 : decode cX12_gradeOf 10 = .ok (.iconst 3, 1) := by decide +kernel
theorem dX12_gradeOf_11 : decode cX12_gradeOf 11 = .ok (.goto 9, 3) := by decide +kernel
theorem dX12_gradeOf_14 : decode cX12_gradeOf 14 = .ok (.aload_n 0, 1) := by decide +kernel
theorem dX12_gradeOf_15 : decode cX12_gradeOf 15 = .ok (.getfield 112, 3) := by decide +kernel
theorem dX12_gradeOf_18 : decode cX12_gradeOf 18 = .ok (.iload_n 1, 1) := by decide +kernel
theorem dX12_gradeOf_19 : decode cX12_gradeOf 19 = .ok (.iaload, 1) := by decide +kernel
theorem dX12_gradeOf_20 : decode cX12_gradeOf 20 = .ok (.ireturn, 1) := by decide +kernel
theorem dX12_isDrawn_0 : decode cX12_isDrawn 0 = .ok (.iconst 0, 1) := by decide +kernel
theorem dX12_isDrawn_1 : decode cX12_isDrawn 1 = .ok (.istore_n 3, 1) := by decide +kernel
theorem dX12_isDrawn_2 : decode cX12_isDrawn 2 = .ok (.iconst 0, 1) := by decide +kernel
theorem dX12_isDrawn_3 : decode cX12_isDrawn 3 = .ok (.istore 4, 2) := by decide +kernel
theorem dX12_isDrawn_5 : decode cX12_isDrawn 5 = .ok (.iload 4, 2) := by decide +kernel
theorem dX12_isDrawn_7 : decode cX12_isDrawn 7 = .ok (.iload_n 1, 1) := by decide +kernel
theorem dX12_isDrawn_8 : decode cX12_isDrawn 8 = .ok (.if_icmp .ge 30, 3) := by decide +kernel
theorem dX12_isDrawn_11 : decode cX12_isDrawn 11 = .ok (.iload_n 3, 1) := by decide +kernel
theorem dX12_isDrawn_12 : decode cX12_isDrawn 12 = .ok (.ifCond .ne 14, 3) := by decide +kernel
theorem dX12_isDrawn_15 : decode cX12_isDrawn 15 = .ok (.aload_n 0, 1) := by decide +kernel
theorem dX12_isDrawn_16 : decode cX12_isDrawn 16 = .ok (.getfield 122, 3) := by decide +kernel
theorem dX12_isDrawn_19 : decode cX12_isDrawn 19 = .ok (.iload 4, 2) := by decide +kernel
theorem dX12_isDrawn_21 : decode cX12_isDrawn 21 = .ok (.iaload, 1) := by decide +kernel
theorem dX12_isDrawn_22 : decode cX12_isDrawn 22 = .ok (.iload_n 2, 1) := by decide +kernel
theorem dX12_isDrawn_23 : decode cX12_isDrawn 23 = .ok (.if_icmp .ne 7, 3) := by decide +kernel
theorem dX12_isDrawn_26 : decode cX12_isDrawn 26 = .ok (.iconst 1, 1) := by decide +kernel
theorem dX12_isDrawn_27 : decode cX12_isDrawn 27 = .ok (.goto 4, 3) := by decide +kernel
theorem dX12_isDrawn_30 : decode cX12_isDrawn 30 = .ok (.iconst 0, 1) := by decide +kernel
theorem dX12_isDrawn_31 : decode cX12_isDrawn 31 = .ok (.istore_n 3, 1) := by decide +kernel
theorem dX12_isDrawn_32 : decode cX12_isDrawn 32 = .ok (.iinc 4 1, 3) := by decide +kernel
theorem dX12_isDrawn_35 : decode cX12_isDrawn 35 = .ok (.goto (-30), 3) := by decide +kernel
theorem dX12_isDrawn_38 : decode cX12_isDrawn 38 = .ok (.iload_n 3, 1) := by decide +kernel
theorem dX12_isDrawn_39 : decode cX12_isDrawn 39 = .ok (.ireturn, 1) := by decide +kernel
theorem dX12_ways_0 : decode cX12_ways 0 = .ok (.lconst 1, 1) := by decide +kernel
theorem dX12_ways_1 : decode cX12_ways 1 = .ok (.lstore_n 2, 1) := by decide +kernel
theorem dX12_ways_2 : decode cX12_ways 2 = .ok (.iconst 0, 1) := by decide +kernel
theorem dX12_ways_3 : decode cX12_ways 3 = .ok (.istore 4, 2) := by decide +kernel
theorem dX12_ways_5 : decode cX12_ways 5 = .ok (.iload 4, 2) := by decide +kernel
theorem dX12_ways_7 : decode cX12_ways 7 = .ok (.iload_n 1, 1) := by decide +kernel
theorem dX12_ways_8 : decode cX12_ways 8 = .ok (.if_icmp .ge 17, 3) := by decide +kernel
theorem dX12_ways_11 : decode cX12_ways 11 = .ok (.lload_n 2, 1) := by decide +kernel
theorem dX12_ways_12 : decode cX12_ways 12 = .ok (.iload_n 0, 1) := by decide +kernel
theorem dX12_ways_13 : decode cX12_ways 13 = .ok (.iload 4, 2) := by decide +kernel
theorem dX12_ways_15 : decode cX12_ways 15 = .ok (.isub, 1) := by decide +kernel
theorem dX12_ways_16 : decode cX12_ways 16 = .ok (.i2l, 1) := by decide +kernel
theorem dX12_ways_17 : decode cX12_ways 17 = .ok (.lmul, 1) := by decide +kernel
theorem dX12_ways_18 : decode cX12_ways 18 = .ok (.lstore_n 2, 1) := by decide +kernel
theorem dX12_ways_19 : decode cX12_ways 19 = .ok (.iinc 4 1, 3) := by decide +kernel
theorem dX12_ways_22 : decode cX12_ways 22 = .ok (.goto (-17), 3) := by decide +kernel
theorem dX12_ways_25 : decode cX12_ways 25 = .ok (.lload_n 2, 1) := by decide +kernel
theorem dX12_ways_26 : decode cX12_ways 26 = .ok (.lreturn, 1) := by decide +kernel
set_option maxRecDepth 20000 in
theorem ggX12_drawn_X12_within : GoodIn wsX12_drawn wsX12_within := goodIn_h _ [9] [0] (by decide +kernel) (by decide +kernel)
set_option maxRecDepth 20000 in
theorem gX12_drawn_X12_within : GoodIn wsX12_drawn (va_wsS RX12 168 yX12_within wsX12_within) := goodIn_app (goodIn_of _ (by decide +kernel)) ggX12_drawn_X12_within
theorem dX12_drawn_0 : decode cX12_drawn 0 = .ok (.aload_n 0, 1) := by decide +kernel
theorem dX12_drawn_1 : decode cX12_drawn 1 = .ok (.iconst 0, 1) := by decide +kernel
theorem dX12_drawn_2 : decode cX12_drawn 2 = .ok (.putfield 161, 3) := by decide +kernel
theorem dX12_drawn_5 : decode cX12_drawn 5 = .ok (.aload_n 0, 1) := by decide +kernel
theorem dX12_drawn_6 : decode cX12_drawn 6 = .ok (.getfield 388, 3) := by decide +kernel
theorem dX12_drawn_9 : decode cX12_drawn 9 = .ok (.ifCond .eq 17, 3) := by decide +kernel
theorem dX12_drawn_12 : decode cX12_drawn 12 = .ok (.iload_n 1, 1) := by decide +kernel
theorem dX12_drawn_13 : decode cX12_drawn 13 = .ok (.iconst 0, 1) := by decide +kernel
theorem dX12_drawn_14 : decode cX12_drawn 14 = .ok (.aload_n 0, 1) := by decide +kernel
theorem dX12_drawn_15 : decode cX12_drawn 15 = .ok (.getfield 388, 3) := by decide +kernel
theorem dX12_drawn_18 : decode cX12_drawn 18 = .ok (.iconst 1, 1) := by decide +kernel
theorem dX12_drawn_19 : decode cX12_drawn 19 = .ok (.iadd, 1) := by decide +kernel
theorem dX12_drawn_20 : decode cX12_drawn 20 = .ok (.invokestatic 168, 3) := by decide +kernel
theorem dX12_drawn_23 : decode cX12_drawn 23 = .ok (.ifCond .ne 5, 3) := by decide +kernel
theorem dX12_drawn_26 : decode cX12_drawn 26 = .ok (.iconst (-1), 1) := by decide +kernel
theorem dX12_drawn_27 : decode cX12_drawn 27 = .ok (.ireturn, 1) := by decide +kernel
theorem dX12_drawn_28 : decode cX12_drawn 28 = .ok (.iload_n 1, 1) := by decide +kernel
theorem dX12_drawn_29 : decode cX12_drawn 29 = .ok (.ifCond .ne 10, 3) := by decide +kernel
theorem dX12_drawn_32 : decode cX12_drawn 32 = .ok (.aload_n 0, 1) := by decide +kernel
theorem dX12_drawn_33 : decode cX12_drawn 33 = .ok (.getfield 382, 3) := by decide +kernel
theorem dX12_drawn_36 : decode cX12_drawn 36 = .ok (.goto 23, 3) := by decide +kernel
theorem dX12_drawn_39 : decode cX12_drawn 39 = .ok (.iload_n 1, 1) := by decide +kernel
theorem dX12_drawn_40 : decode cX12_drawn 40 = .ok (.iconst 1, 1) := by decide +kernel
theorem dX12_drawn_41 : decode cX12_drawn 41 = .ok (.if_icmp .ne 10, 3) := by decide +kernel
theorem dX12_drawn_44 : decode cX12_drawn 44 = .ok (.aload_n 0, 1) := by decide +kernel
theorem dX12_drawn_45 : decode cX12_drawn 45 = .ok (.getfield 391, 3) := by decide +kernel
theorem dX12_drawn_48 : decode cX12_drawn 48 = .ok (.goto 11, 3) := by decide +kernel
theorem dX12_drawn_51 : decode cX12_drawn 51 = .ok (.aload_n 0, 1) := by decide +kernel
theorem dX12_drawn_52 : decode cX12_drawn 52 = .ok (.getfield 122, 3) := by decide +kernel
theorem dX12_drawn_55 : decode cX12_drawn 55 = .ok (.iload_n 1, 1) := by decide +kernel
theorem dX12_drawn_56 : decode cX12_drawn 56 = .ok (.iconst 2, 1) := by decide +kernel
theorem dX12_drawn_57 : decode cX12_drawn 57 = .ok (.isub, 1) := by decide +kernel
theorem dX12_drawn_58 : decode cX12_drawn 58 = .ok (.iaload, 1) := by decide +kernel
theorem dX12_drawn_59 : decode cX12_drawn 59 = .ok (.ireturn, 1) := by decide +kernel
set_option maxRecDepth 20000 in
theorem ggX12_isWord_X12_within : GoodIn wsX12_isWord wsX12_within := goodIn_h _ [7] [0] (by decide +kernel) (by decide +kernel)
set_option maxRecDepth 20000 in
theorem gX12_isWord_X12_within : GoodIn wsX12_isWord (va_wsS RX12 168 yX12_within wsX12_within) := goodIn_app (goodIn_of _ (by decide +kernel)) ggX12_isWord_X12_within
theorem dX12_isWord_0 : decode cX12_isWord 0 = .ok (.iload_n 1, 1) := by decide +kernel
theorem dX12_isWord_1 : decode cX12_isWord 1 = .ok (.iconst 0, 1) := by decide +kernel
theorem dX12_isWord_2 : decode cX12_isWord 2 = .ok (.bipush 15, 2) := by decide +kernel
theorem dX12_isWord_4 : decode cX12_isWord 4 = .ok (.invokestatic 168, 3) := by decide +kernel
theorem dX12_isWord_7 : decode cX12_isWord 7 = .ok (.ifCond .eq 35, 3) := by decide +kernel
theorem dX12_isWord_10 : decode cX12_isWord 10 = .ok (.aload_n 0, 1) := by decide +kernel
theorem dX12_isWord_11 : decode cX12_isWord 11 = .ok (.getfield 125, 3) := by decide +kernel
theorem dX12_isWord_14 : decode cX12_isWord 14 = .ok (.iload_n 1, 1) := by decide +kernel
theorem dX12_isWord_15 : decode cX12_isWord 15 = .ok (.baload, 1) := by decide +kernel
theorem dX12_isWord_16 : decode cX12_isWord 16 = .ok (.ifCond .eq 26, 3) := by decide +kernel
theorem dX12_isWord_19 : decode cX12_isWord 19 = .ok (.aload_n 0, 1) := by decide +kernel
theorem dX12_isWord_20 : decode cX12_isWord 20 = .ok (.getfield 128, 3) := by decide +kernel
theorem dX12_isWord_23 : decode cX12_isWord 23 = .ok (.iload_n 1, 1) := by decide +kernel
theorem dX12_isWord_24 : decode cX12_isWord 24 = .ok (.iaload, 1) := by decide +kernel
theorem dX12_isWord_25 : decode cX12_isWord 25 = .ok (.iconst 2, 1) := by decide +kernel
theorem dX12_isWord_26 : decode cX12_isWord 26 = .ok (.if_icmp .ne 16, 3) := by decide +kernel
theorem dX12_isWord_29 : decode cX12_isWord 29 = .ok (.aload_n 0, 1) := by decide +kernel
theorem dX12_isWord_30 : decode cX12_isWord 30 = .ok (.getfield 134, 3) := by decide +kernel
theorem dX12_isWord_33 : decode cX12_isWord 33 = .ok (.iload_n 1, 1) := by decide +kernel
theorem dX12_isWord_34 : decode cX12_isWord 34 = .ok (.iaload, 1) := by decide +kernel
theorem dX12_isWord_35 : decode cX12_isWord 35 = .ok (.ifCond .le 7, 3) := by decide +kernel
theorem dX12_isWord_38 : decode cX12_isWord 38 = .ok (.iconst 1, 1) := by decide +kernel
theorem dX12_isWord_39 : decode cX12_isWord 39 = .ok (.goto 4, 3) := by decide +kernel
theorem dX12_isWord_42 : decode cX12_isWord 42 = .ok (.iconst 0, 1) := by decide +kernel
theorem dX12_isWord_43 : decode cX12_isWord 43 = .ok (.ireturn, 1) := by decide +kernel
set_option maxRecDepth 20000 in
theorem ggX12_number__X12_isWord : GoodIn wsX12_number_ wsX12_isWord := goodIn_h _ [2, 4, 0, 0, 0, 0, 0, 0, 0, 0, 0, 0, 0, 0, 0, 0, 0, 0, 0, 0, 0, 0, 0, 0, 0, 0, 0, 0, 0, 0, 0, 0, 0, 0, 0, 0, 0, 0, 0, 0, 0, 0, 0, 0, 0, 0, 0, 0, 0, 0, 0, 0, 0, 0, 0, 0, 0, 0, 0, 0, 0, 0, 0, 0, 0, 0, 0, 0, 0, 0, 0, 0, 0, 0] [2, 3, 4, 0, 5, 6, 1, 7, 8, 9, 10, 11, 12, 13, 14, 15, 16, 17, 18, 19, 20, 21, 22, 23, 24, 25, 26, 27, 28, 29, 30, 31, 32, 33, 34, 35, 36, 37, 38, 39, 40, 41, 42, 43, 44, 45, 46, 47, 48, 49, 50, 51, 52, 53, 54, 55, 56, 57, 58, 59, 60, 61, 62, 63, 64, 65, 66, 67, 68, 69, 70, 71, 72, 73] (by decide +kernel) (by decide +kernel)
set_option maxRecDepth 20000 in
theorem gX12_number__X12_isWord : GoodIn wsX12_number_ (wsV RX12 400 RX12 yX12_isWord wsX12_isWord) := goodIn_app (goodIn_of _ (by decide +kernel)) ggX12_number__X12_isWord
set_option maxRecDepth 20000 in
theorem ggX12_number__X12_within : GoodIn wsX12_number_ wsX12_within := goodIn_h _ [13] [0] (by decide +kernel) (by decide +kernel)
set_option maxRecDepth 20000 in
theorem gX12_number__X12_within : GoodIn wsX12_number_ (va_wsS RX12 168 yX12_within wsX12_within) := goodIn_app (goodIn_of _ (by decide +kernel)) ggX12_number__X12_within
theorem dX12_number__0 : decode cX12_number_ 0 = .ok (.aload_n 0, 1) := by decide +kernel
theorem dX12_number__1 : decode cX12_number_ 1 = .ok (.iconst 0, 1) := by decide +kernel
theorem dX12_number__2 : decode cX12_number_ 2 = .ok (.putfield 161, 3) := by decide +kernel
theorem dX12_number__5 : decode cX12_number_ 5 = .ok (.aload_n 0, 1) := by decide +kernel
theorem dX12_number__6 : decode cX12_number_ 6 = .ok (.iload_n 1, 1) := by decide +kernel
theorem dX12_number__7 : decode cX12_number_ 7 = .ok (.invokevirtual 400, 3) := by decide +kernel
theorem dX12_number__10 : decode cX12_number_ 10 = .ok (.ifCond .eq 33, 3) := by decide +kernel
theorem dX12_number__13 : decode cX12_number_ 13 = .ok (.iload_n 2, 1) := by decide +kernel
theorem dX12_number__14 : decode cX12_number_ 14 = .ok (.iconst 0, 1) := by decide +kernel
theorem dX12_number__15 : decode cX12_number_ 15 = .ok (.aload_n 0, 1) := by decide +kernel
theorem dX12_number__16 : decode cX12_number_ 16 = .ok (.getfield 134, 3) := by decide +kernel
theorem dX12_number__19 : decode cX12_number_ 19 = .ok (.iload_n 1, 1) := by decide +kernel
theorem dX12_number__20 : decode cX12_number_ 20 = .ok (.iaload, 1) := by decide +kernel
theorem dX12_number__21 : decode cX12_number_ 21 = .ok (.iconst 1, 1) := by decide +kernel
theorem dX12_number__22 : decode cX12_number_ 22 = .ok (.isub, 1) := by decide +kernel
theorem dX12_number__23 : decode cX12_number_ 23 = .ok (.invokestatic 168, 3) := by decide +kernel
theorem dX12_number__26 : decode cX12_number_ 26 = .ok (.ifCond .eq 17, 3) := by decide +kernel
theorem dX12_number__29 : decode cX12_number_ 29 = .ok (.aload_n 0, 1) := by decide +kernel
theorem dX12_number__30 : decode cX12_number_ 30 = .ok (.getfield 137, 3) := by decide +kernel
theorem dX12_number__33 : decode cX12_number_ 33 = .ok (.bipush 8, 2) := by decide +kernel
theorem dX12_number__35 : decode cX12_number_ 35 = .ok (.iload_n 1, 1) := by decide +kernel
theorem dX12_number__36 : decode cX12_number_ 36 = .ok (.imul, 1) := by decide +kernel
theorem dX12_number__37 : decode cX12_number_ 37 = .ok (.iload_n 2, 1) := by decide +kernel
theorem dX12_number__38 : decode cX12_number_ 38 = .ok (.iadd, 1) := by decide +kernel
theorem dX12_number__39 : decode cX12_number_ 39 = .ok (.iaload, 1) := by decide +kernel
theorem dX12_number__40 : decode cX12_number_ 40 = .ok (.goto 4, 3) := by decide +kernel
theorem dX12_number__43 : decode cX12_number_ 43 = .ok (.iconst (-1), 1) := by decide +kernel
theorem dX12_number__44 : decode cX12_number_ 44 = .ok (.ireturn, 1) := by decide +kernel
set_option maxRecDepth 20000 in
theorem ggX12_price_X12_within : GoodIn wsX12_price wsX12_within := goodIn_h _ [6] [0] (by decide +kernel) (by decide +kernel)
set_option maxRecDepth 20000 in
theorem gX12_price_X12_within : GoodIn wsX12_price (va_wsS RX12 168 yX12_within wsX12_within) := goodIn_app (goodIn_of _ (by decide +kernel)) ggX12_price_X12_within
theorem dX12_price_0 : decode cX12_price 0 = .ok (.aload_n 0, 1) := by decide +kernel
theorem dX12_price_1 : decode cX12_price 1 = .ok (.iconst 0, 1) := by decide +kernel
theorem dX12_price_2 : decode cX12_price 2 = .ok (.putfield 161, 3) := by decide +kernel
theorem dX12_price_5 : decode cX12_price 5 = .ok (.iload_n 1, 1) := by decide +kernel
theorem dX12_price_6 : decode cX12_price 6 = .ok (.iconst 0, 1) := by decide +kernel
theorem dX12_price_7 : decode cX12_price 7 = .ok (.iconst 3, 1) := by decide +kernel
theorem dX12_price_8 : decode cX12_price 8 = .ok (.invokestatic 168, 3) := by decide +kernel
theorem dX12_price_11 : decode cX12_price 11 = .ok (.ifCond .eq 14, 3) := by decide +kernel
theorem dX12_price_14 : decode cX12_price 14 = .ok (.iload_n 2, 1) := by decide +kernel
theorem dX12_price_15 : decode cX12_price 15 = .ok (.iconst 0, 1) := by decide +kernel
theorem dX12_price_16 : decode cX12_price 16 = .ok (.sipush 1000, 3) := by decide +kernel
theorem dX12_price_19 : decode cX12_price 19 = .ok (.invokestatic 168, 3) := by decide +kernel
theorem dX12_price_22 : decode cX12_price 22 = .ok (.ifCond .ne 5, 3) := by decide +kernel
theorem dX12_price_25 : decode cX12_price 25 = .ok (.iconst 0, 1) := by decide +kernel
theorem dX12_price_26 : decode cX12_price 26 = .ok (.ireturn, 1) := by decide +kernel
theorem dX12_price_27 : decode cX12_price 27 = .ok (.aload_n 0, 1) := by decide +kernel
theorem dX12_price_28 : decode cX12_price 28 = .ok (.getfield 119, 3) := by decide +kernel
theorem dX12_price_31 : decode cX12_price 31 = .ok (.iload_n 1, 1) := by decide +kernel
theorem dX12_price_32 : decode cX12_price 32 = .ok (.iload_n 2, 1) := by decide +kernel
theorem dX12_price_33 : decode cX12_price 33 = .ok (.iastore, 1) := by decide +kernel
theorem dX12_price_34 : decode cX12_price 34 = .ok (.iconst 1, 1) := by decide +kernel
theorem dX12_price_35 : decode cX12_price 35 = .ok (.ireturn, 1) := by decide +kernel
set_option maxRecDepth 20000 in
theorem ggX12_mixed_X12_isSkein : GoodIn wsX12_mixed wsX12_isSkein := goodIn_h _ [6, 0, 0, 0, 0, 0, 0, 0, 0, 0, 0, 0, 0, 0, 0, 0, 0, 0, 0, 0, 0, 0, 0, 0, 0, 0, 0, 0, 0, 0, 0, 0, 0, 0, 0, 0, 0, 0, 0, 0, 0, 0, 0, 0, 0, 0, 0, 0, 0, 0, 0, 0, 0, 0, 0, 0, 0, 0, 0, 0, 0, 0, 0, 0, 0, 0, 0, 0, 0, 0, 0, 0] [1, 2, 3, 4, 0, 5, 6, 7, 8, 9, 10, 11, 12, 13, 14, 15, 16, 17, 18, 19, 20, 21, 22, 23, 24, 25, 26, 27, 28, 29, 30, 31, 32, 33, 34, 35, 36, 37, 38, 39, 40, 41, 42, 43, 44, 45, 46, 47, 48, 49, 50, 51, 52, 53, 54, 55, 56, 57, 58, 59, 60, 61, 62, 63, 64, 65, 66, 67, 68, 69, 70, 71] (by decide +kernel) (by decide +kernel)
set_option maxRecDepth 20000 in
theorem gX12_mixed_X12_isSkein : GoodIn wsX12_mixed (wsV RX12 362 RX12 yX12_isSkein wsX12_isSkein) := goodIn_app (goodIn_of _ (by decide +kernel)) ggX12_mixed_X12_isSkein
theorem dX12_mixed_0 : decode cX12_mixed 0 = .ok (.aload_n 0, 1) := by decide +kernel
theorem dX12_mixed_1 : decode cX12_mixed 1 = .ok (.iconst 0, 1) := by decide +kernel
theorem dX12_mixed_2 : decode cX12_mixed 2 = .ok (.putfield 161, 3) := by decide +kernel
theorem dX12_mixed_5 : decode cX12_mixed 5 = .ok (.aload_n 0, 1) := by decide +kernel
theorem dX12_mixed_6 : decode cX12_mixed 6 = .ok (.iload_n 1, 1) := by decide +kernel
theorem dX12_mixed_7 : decode cX12_mixed 7 = .ok (.invokevirtual 362, 3) := by decide +kernel
theorem dX12_mixed_10 : decode cX12_mixed 10 = .ok (.ifCond .eq 16, 3) := by decide +kernel
theorem dX12_mixed_13 : decode cX12_mixed 13 = .ok (.aload_n 0, 1) := by decide +kernel
theorem dX12_mixed_14 : decode cX12_mixed 14 = .ok (.getfield 149, 3) := by decide +kernel
theorem dX12_mixed_17 : decode cX12_mixed 17 = .ok (.iload_n 1, 1) := by decide +kernel
theorem dX12_mixed_18 : decode cX12_mixed 18 = .ok (.baload, 1) := by decide +kernel
theorem dX12_mixed_19 : decode cX12_mixed 19 = .ok (.ifCond .eq 7, 3) := by decide +kernel
theorem dX12_mixed_22 : decode cX12_mixed 22 = .ok (.iconst 1, 1) := by decide +kernel
theorem dX12_mixed_23 : decode cX12_mixed 23 = .ok (.goto 4, 3) := by decide +kernel
theorem dX12_mixed_26 : decode cX12_mixed 26 = .ok (.iconst 0, 1) := by decide +kernel
theorem dX12_mixed_27 : decode cX12_mixed 27 = .ok (.ireturn, 1) := by decide +kernel
theorem dX12_day_0 : decode cX12_day 0 = .ok (.aload_n 0, 1) := by decide +kernel
theorem dX12_day_1 : decode cX12_day 1 = .ok (.iconst 0, 1) := by decide +kernel
theorem dX12_day_2 : decode cX12_day 2 = .ok (.putfield 161, 3) := by decide +kernel
theorem dX12_day_5 : decode cX12_day 5 = .ok (.aload_n 0, 1) := by decide +kernel
theorem dX12_day_6 : decode cX12_day 6 = .ok (.dup, 1) := by decide +kernel
theorem dX12_day_7 : decode cX12_day 7 = .ok (.getfield 302, 3) := by decide +kernel
theorem dX12_day_10 : decode cX12_day 10 = .ok (.iconst 1, 1) := by decide +kernel
theorem dX12_day_11 : decode cX12_day 11 = .ok (.iadd, 1) := by decide +kernel
theorem dX12_day_12 : decode cX12_day 12 = .ok (.putfield 302, 3) := by decide +kernel
theorem dX12_day_15 : decode cX12_day 15 = .ok (.aload_n 0, 1) := by decide +kernel
theorem dX12_day_16 : decode cX12_day 16 = .ok (.getfield 302, 3) := by decide +kernel
theorem dX12_day_19 : decode cX12_day 19 = .ok (.ireturn, 1) := by decide +kernel
set_option maxRecDepth 20000 in
theorem ggX12_fault_X12_isSkein : GoodIn wsX12_fault wsX12_isSkein := goodIn_h _ [10, 0, 0, 0, 0, 0, 0, 0, 0, 0, 0, 0, 0, 0, 0, 0, 0, 0, 0, 0, 0, 0, 0, 0, 0, 0, 0, 0, 0, 0, 0, 0, 0, 0, 0, 0, 0, 0, 0, 0, 0, 0, 0, 0, 0, 0, 0, 0, 0, 0, 0, 0, 0, 0, 0, 0, 0, 0, 0, 0, 0, 0, 0, 0, 0, 0, 0, 0, 0, 0, 0, 0] [1, 2, 3, 4, 0, 5, 6, 7, 8, 9, 10, 11, 12, 13, 14, 15, 16, 17, 18, 19, 20, 21, 22, 23, 24, 25, 26, 27, 28, 29, 30, 31, 32, 33, 34, 35, 36, 37, 38, 39, 40, 41, 42, 43, 44, 45, 46, 47, 48, 49, 50, 51, 52, 53, 54, 55, 56, 57, 58, 59, 60, 61, 62, 63, 64, 65, 66, 67, 68, 69, 70, 71] (by decide +kernel) (by decide +kernel)
set_option maxRecDepth 20000 in
theorem gX12_fault_X12_isSkein : GoodIn wsX12_fault (wsV RX12 362 RX12 yX12_isSkein wsX12_isSkein) := goodIn_app (goodIn_of _ (by decide +kernel)) ggX12_fault_X12_isSkein
set_option maxRecDepth 20000 in
theorem ggX12_fault_X12_within : GoodIn wsX12_fault wsX12_within := goodIn_h _ [15] [0] (by decide +kernel) (by decide +kernel)
set_option maxRecDepth 20000 in
theorem gX12_fault_X12_within : GoodIn wsX12_fault (va_wsS RX12 168 yX12_within wsX12_within) := goodIn_app (goodIn_of _ (by decide +kernel)) ggX12_fault_X12_within
theorem dX12_fault_0 : decode cX12_fault 0 = .ok (.aload_n 0, 1) := by decide +kernel
theorem dX12_fault_1 : decode cX12_fault 1 = .ok (.iconst 0, 1) := by decide +kernel
theorem dX12_fault_2 : decode cX12_fault 2 = .ok (.putfield 161, 3) := by decide +kernel
theorem dX12_fault_5 : decode cX12_fault 5 = .ok (.aload_n 0, 1) := by decide +kernel
theorem dX12_fault_6 : decode cX12_fault 6 = .ok (.iload_n 1, 1) := by decide +kernel
theorem dX12_fault_7 : decode cX12_fault 7 = .ok (.invokevirtual 362, 3) := by decide +kernel
theorem dX12_fault_10 : decode cX12_fault 10 = .ok (.ifCond .eq 23, 3) := by decide +kernel
theorem dX12_fault_13 : decode cX12_fault 13 = .ok (.iload_n 2, 1) := by decide +kernel
theorem dX12_fault_14 : decode cX12_fault 14 = .ok (.iconst 1, 1) := by decide +kernel
theorem dX12_fault_15 : decode cX12_fault 15 = .ok (.sipush 10000, 3) := by decide +kernel
theorem dX12_fault_18 : decode cX12_fault 18 = .ok (.invokestatic 168, 3) := by decide +kernel
theorem dX12_fault_21 : decode cX12_fault 21 = .ok (.ifCond .eq 12, 3) := by decide +kernel
theorem dX12_fault_24 : decode cX12_fault 24 = .ok (.aload_n 0, 1) := by decide +kernel
theorem dX12_fault_25 : decode cX12_fault 25 = .ok (.getfield 403, 3) := by decide +kernel
theorem dX12_fault_28 : decode cX12_fault 28 = .ok (.bipush 40, 2) := by decide +kernel
theorem dX12_fault_30 : decode cX12_fault 30 = .ok (.if_icmp .ne 5, 3) := by decide +kernel
theorem dX12_fault_33 : decode cX12_fault 33 = .ok (.iconst 0, 1) := by decide +kernel
theorem dX12_fault_34 : decode cX12_fault 34 = .ok (.ireturn, 1) := by decide +kernel
theorem dX12_fault_35 : decode cX12_fault 35 = .ok (.aload_n 0, 1) := by decide +kernel
theorem dX12_fault_36 : decode cX12_fault 36 = .ok (.getfield 152, 3) := by decide +kernel
theorem dX12_fault_39 : decode cX12_fault 39 = .ok (.aload_n 0, 1) := by decide +kernel
theorem dX12_fault_40 : decode cX12_fault 40 = .ok (.getfield 403, 3) := by decide +kernel
theorem dX12_fault_43 : decode cX12_fault 43 = .ok (.iload_n 1, 1) := by decide +kernel
theorem dX12_fault_44 : decode cX12_fault 44 = .ok (.iastore, 1) := by decide +kernel
theorem dX12_fault_45 : decode cX12_fault 45 = .ok (.aload_n 0, 1) := by decide +kernel
theorem dX12_fault_46 : decode cX12_fault 46 = .ok (.getfield 155, 3) := by decide +kernel
theorem dX12_fault_49 : decode cX12_fault 49 = .ok (.aload_n 0, 1) := by decide +kernel
theorem dX12_fault_50 : decode cX12_fault 50 = .ok (.getfield 403, 3) := by decide +kernel
theorem dX12_fault_53 : decode cX12_fault 53 = .ok (.iload_n 2, 1) := by decide +kernel
theorem dX12_fault_54 : decode cX12_fault 54 = .ok (.iastore, 1) := by decide +kernel
theorem dX12_fault_55 : decode cX12_fault 55 = .ok (.aload_n 0, 1) := by decide +kernel
theorem dX12_fault_56 : decode cX12_fault 56 = .ok (.getfield 158, 3) := by decide +kernel
theorem dX12_fault_59 : decode cX12_fault 59 = .ok (.aload_n 0, 1) := by decide +kernel
theorem dX12_fault_60 : decode cX12_fault 60 = .ok (.getfield 403, 3) := by decide +kernel
theorem dX12_fault_63 : decode cX12_fault 63 = .ok (.aload_n 0, 1) := by decide +kernel
theorem dX12_fault_64 : decode cX12_fault 64 = .ok (.getfield 302, 3) := by decide +kernel
theorem dX12_fault_67 : decode cX12_fault 67 = .ok (.iastore, 1) := by decide +kernel
theorem dX12_fault_68 : decode cX12_fault 68 = .ok (.aload_n 0, 1) := by decide +kernel
theorem dX12_fault_69 : decode cX12_fault 69 = .ok (.dup, 1) := by decide +kernel
theorem dX12_fault_70 : decode cX12_fault 70 = .ok (.getfield 403, 3) := by decide +kernel
theorem dX12_fault_73 : decode cX12_fault 73 = .ok (.iconst 1, 1) := by decide +kernel
theorem dX12_fault_74 : decode cX12_fault 74 = .ok (.iadd, 1) := by decide +kernel
theorem dX12_fault_75 : decode cX12_fault 75 = .ok (.putfield 403, 3) := by decide +kernel
theorem dX12_fault_78 : decode cX12_fault 78 = .ok (.iconst 1, 1) := by decide +kernel
theorem dX12_fault_79 : decode cX12_fault 79 = .ok (.ireturn, 1) := by decide +kernel
theorem inn_X12_day_12 : ∀ w ∈ u_ws RX12 TX12 66, w ∈ wsX12_day := fun w h => List.mem_cons_of_mem _ (List.mem_append_right _ h)
theorem inn_X12_drawn_12 : ∀ w ∈ u_ws RX12 TX12 66, w ∈ wsX12_drawn := fun w h => List.mem_cons_of_mem _ (List.mem_append_right _ h)
theorem inn_X12_fault_12 : ∀ w ∈ u_ws RX12 TX12 66, w ∈ wsX12_fault := fun w h => List.mem_cons_of_mem _ (List.mem_append_right _ h)
theorem inn_X12_gradeOf_12 : ∀ w ∈ u_ws RX12 TX12 66, w ∈ wsX12_gradeOf := fun w h => List.mem_cons_of_mem _ (List.mem_append_right _ h)
theorem inn_X12_isDrawn_12 : ∀ w ∈ u_ws RX12 TX12 66, w ∈ wsX12_isDrawn := fun w h => List.mem_cons_of_mem _ (List.mem_append_right _ h)
theorem inn_X12_isSkein_12 : ∀ w ∈ u_ws RX12 TX12 66, w ∈ wsX12_isSkein := fun w h => List.mem_cons_of_mem _ (List.mem_append_right _ h)
theorem inn_X12_isWord_12 : ∀ w ∈ u_ws RX12 TX12 66, w ∈ wsX12_isWord := fun w h => List.mem_cons_of_mem _ (List.mem_append_right _ h)
theorem inn_X12_mixed_12 : ∀ w ∈ u_ws RX12 TX12 66, w ∈ wsX12_mixed := fun w h => List.mem_cons_of_mem _ (List.mem_append_right _ h)
theorem inn_X12_number__12 : ∀ w ∈ u_ws RX12 TX12 66, w ∈ wsX12_number_ := fun w h => List.mem_cons_of_mem _ (List.mem_append_right _ h)
theorem inn_X12_place_12 : ∀ w ∈ u_ws RX12 TX12 66, w ∈ wsX12_place := fun w h => List.mem_cons_of_mem _ (List.mem_append_right _ h)
theorem inn_X12_price_12 : ∀ w ∈ u_ws RX12 TX12 66, w ∈ wsX12_price := fun w h => List.mem_cons_of_mem _ (List.mem_append_right _ h)
set_option maxHeartbeats 4000000 in
set_option maxRecDepth 100000 in
theorem k_X12_place (l : Launch) (G : va_G) (cy : Nat → ClassId) (κ : Nat → Nat) (S : PS) (sz : Nat) (x : Nat) (hG : GX S) (ha_x : At S x 12) : Ci l yX12_place wsX12_place ({ frames := 1, cells := 0, slots := 0, locals := 48 }) G cy κ S sz [.ref x] (fun (r : Int32) (S9 : PS) => Ok MN S S9 ∧ (True)) := by
  refine ent_m (cc := cX12_place) (maxL := 1) (ret := (some .int)) (by decide) rfl (Nat.le_of_ble_eq_true rfl) ?_
  intro p e s m below meth c ls X hr hlocks hin hw hl hsz
  subst hsz
  have X : Cx p c cX12_place 1 s [.ref x].toArray wsX12_place RX12 m G cy κ (AS S s.heap.size) := X
  have hl : lv_has ls 1 [(0, .ref x)] := hl
  have hO : Ok MN S S := Ok.rf hG
  refine lv_aload_n X.1 X.2.1 dX12_place_0 rfl (lv_at hl 0 rfl) ?_
  refine lv_iconst (v := 0) X.1 X.2.1 dX12_place_1 (by decide) ?_
  refine r_putI (v := 0) X hw ha_x rfl 0 1200 tyX12 (by decide) rfl inn_X12_place_12 tyX12_ok nmX12 (by decide) (X.2.2.2.1 (.fieldLink RX12 161 "SilkMillModel" "thrown" "I") (by decide +kernel)) rfl (Or.inl rfl) rfl rfl (Nat.le_of_ble_eq_true rfl) (st_1200 _ _) dX12_place_2 (fun H locs hw => ?_)
  obtain ⟨S_1, eS_1⟩ : ∃ T, T = sI S 1200 x (0) := ⟨_, rfl⟩
  rw [← eS_1] at hw
  have hO_2 : Ok MN S S_1 := hO.sI eS_1 (by decide +kernel) (uI_12_1200 hO.1 ha_x)
  have h_3 : pI S_1 1200 x = 0 := tI_sIs eS_1
  refine lv_aload_n X.1 X.2.1 dX12_place_5 rfl (lv_at hl 0 rfl) ?_
  have t_4 : At S_1 x 12 := tAt_sI eS_1 ha_x
  obtain ⟨v_5, ev_5⟩ : ∃ v, pI S_1 1229 x = v := ⟨_, rfl⟩
  have rg_7 := And.intro (z_lo v_5) (z_hi v_5)
  refine r_getI (g := 1229) (x := v_5) X hw t_4 rfl 29 ev_5 (by decide) rfl inn_X12_place_12 (by decide) (X.2.2.2.1 (.fieldLink RX12 86 "SilkMillModel" "faultPlace" "I") (by decide +kernel)) rfl (gv_1229 _ _) dX12_place_6 ?_
  exact ret_i X hw hr hlocks (Nat.le_of_ble_eq_true rfl) (Nat.le_of_ble_eq_true rfl) ⟨hO_2, trivial⟩ dX12_place_9
set_option maxHeartbeats 4000000 in
set_option maxRecDepth 100000 in
theorem k_X12_growing (l : Launch) (G : va_G) (cy : Nat → ClassId) (κ : Nat → Nat) (S : PS) (sz : Nat) (x : Nat) (a1 : Int32) (a1_z : Int) (hG : GX S) (ha_x : At S x 12) (hz_a1 : a1.toInt = a1_z) (hp_0 : 0 ≤ a1_z) (hp_1 : a1_z ≤ 3) : Ci l yX12_growing wsX12_growing ({ frames := 1, cells := 0, slots := 0, locals := 48 }) G cy κ S sz [.ref x, .int (a1)] (fun (r : Int32) (S9 : PS) => S = S9 ∧ (r.toInt = 12000 + 300 * a1_z)) := by
  refine ent_m (cc := cX12_growing) (maxL := 2) (ret := (some .int)) (by decide) rfl (Nat.le_of_ble_eq_true rfl) ?_
  intro p e s m below meth c ls X hr hlocks hin hw hl hsz
  subst hsz
  have X : Cx p c cX12_growing 2 s [.ref x, .int (a1)].toArray wsX12_growing RX12 m G cy κ (AS S s.heap.size) := X
  have hl : lv_has ls 2 [(0, .ref x), (1, .int (a1))] := hl
  have rg_a1 : (-2147483648) ≤ a1_z ∧ a1_z ≤ 2147483647 := by rw [← hz_a1]; exact ⟨z_lo _, z_hi _⟩
  refine lv_sipush (v := 12000) X.1 X.2.1 dX12_growing_0 (by decide) ?_
  refine lv_sipush (v := 300) X.1 X.2.1 dX12_growing_3 (by decide) ?_
  refine lv_iload_n X.1 X.2.1 dX12_growing_6 rfl (lv_at hl 1 rfl) ?_
  refine lv_imul X.1 X.2.1 dX12_growing_7 ?_
  refine lv_topi (fun v_1 ev_1 => ?_)
  have z_2 : v_1.toInt = 300 * a1_z := z_mul ev_1 ti_300 hz_a1 (by omega) (by omega)
  refine lv_iadd X.1 X.2.1 dX12_growing_8 ?_
  refine lv_topi (fun v_3 ev_3 => ?_)
  have z_4 : v_3.toInt = 12000 + (300 * a1_z) := z_add ev_3 ti_12000 z_2 (by omega) (by omega)
  exact ret_i X hw hr hlocks (Nat.le_of_ble_eq_true rfl) (Nat.le_of_ble_eq_true rfl) ⟨rfl, (by have hzr := z_4; omega)⟩ dX12_growing_9
set_option maxHeartbeats 4000000 in
set_option maxRecDepth 100000 in
theorem k_X12_isSkein (l : Launch) (G : va_G) (cy : Nat → ClassId) (κ : Nat → Nat) (S : PS) (sz : Nat) (x : Nat) (a1 : Int32) (a1_z : Int) (hG : GX S) (ha_x : At S x 12) (hz_a1 : a1.toInt = a1_z) : Ci l yX12_isSkein wsX12_isSkein ({ frames := 2, cells := 0, slots := 0, locals := 96 }) G cy κ S sz [.ref x, .int (a1)] (fun (r : Int32) (S9 : PS) => S = S9 ∧ (((0 ≤ a1_z ∧ a1_z < (pI S 1238 x).toInt ∧ a1_z ≤ 39) ∧ r = 1) ∨ ((True) ∧ r = 0))) := by
  refine ent_m (cc := cX12_isSkein) (maxL := 2) (ret := (some .boolean)) (by decide) rfl (Nat.le_of_ble_eq_true rfl) ?_
  intro p e s m below meth c ls X hr hlocks hin hw hl hsz
  subst hsz
  have X : Cx p c cX12_isSkein 2 s [.ref x, .int (a1)].toArray wsX12_isSkein RX12 m G cy κ (AS S s.heap.size) := X
  have hl : lv_has ls 2 [(0, .ref x), (1, .int (a1))] := hl
  have rg_a1 : (-2147483648) ≤ a1_z ∧ a1_z ≤ 2147483647 := by rw [← hz_a1]; exact ⟨z_lo _, z_hi _⟩
  refine lv_iload_n X.1 X.2.1 dX12_isSkein_0 rfl (lv_at hl 1 rfl) ?_
  refine lv_iconst (v := 0) X.1 X.2.1 dX12_isSkein_1 (by decide) ?_
  refine lv_aload_n X.1 X.2.1 dX12_isSkein_2 rfl (lv_at hl 0 rfl) ?_
  obtain ⟨v_1, ev_1⟩ : ∃ v, pI S 1238 x = v := ⟨_, rfl⟩
  have rg_2 := gI_12_1238 hG ha_x; rw [ev_1] at rg_2
  have pz_3 : (pI S 1238 x).toInt = v_1.toInt := by rw [ev_1]
  refine r_getI (g := 1238) (x := v_1) X hw ha_x rfl 38 ev_1 (by decide) rfl inn_X12_isSkein_12 (by decide) (X.2.2.2.1 (.fieldLink RX12 290 "SilkMillModel" "skeins" "I") (by decide +kernel)) rfl (gv_1238 _ _) dX12_isSkein_3 ?_
  refine lv_iconst (v := 1) X.1 X.2.1 dX12_isSkein_6 (by decide) ?_
  refine lv_isub X.1 X.2.1 dX12_isSkein_7 ?_
  refine lv_topi (fun v_4 ev_4 => ?_)
  have z_5 : v_4.toInt = v_1.toInt - 1 := z_sub ev_4 rfl ti_1 (by omega) (by omega)
  refine k_i (rm := { frames := 1, cells := 0, slots := 0, locals := 48 }) (av := [.int (a1), .int 0, .int (v_4)]) X hw (va_runS (As := [.int (a1), .int 0, .int (v_4)]) (rest := []) (cfix X) (k_X12_within l G cy κ S _ (a1) (a1_z) (0) (0) (v_4) ((v_1.toInt - 1)) hG hz_a1 ti_0 z_5) (cwS 3 X.2.2.2.1 gX12_isSkein_X12_within rfl rfl rfl (by decide +kernel) ⟨Nat.le_of_ble_eq_true rfl, Nat.le_of_ble_eq_true rfl⟩) (pre_S X hw _) rfl rfl hl.1 rfl (lv_room (Nat.le_of_ble_eq_true rfl)) dX12_isSkein_8 ⟨Nat.le_of_ble_eq_true rfl, Nat.le_of_ble_eq_true rfl⟩) 0 0 (Nat.le_of_ble_eq_true rfl) (Nat.le_of_ble_eq_true rfl) (fun rr_6 S_7 H locs hp hw hfr hnw => ?_)
  obtain ⟨e2, hp⟩ := hp
  subst e2
  rcases hp with ⟨f_8, er_9⟩ | ⟨f_8, er_9⟩ <;> subst er_9
  · have z_b_10 := trivial
    exact ret_z X hw hr hlocks (Nat.le_of_ble_eq_true rfl) (Nat.le_of_ble_eq_true rfl) (by decide) ⟨rfl, Or.inl ⟨by omega, rfl⟩⟩ dX12_isSkein_11
  · have z_b_11 := trivial
    exact ret_z X hw hr hlocks (Nat.le_of_ble_eq_true rfl) (Nat.le_of_ble_eq_true rfl) (by decide) ⟨rfl, Or.inr ⟨trivial, rfl⟩⟩ dX12_isSkein_11
set_option maxHeartbeats 4000000 in
set_option maxRecDepth 100000 in
theorem k_X12_gradeOf (l : Launch) (G : va_G) (cy : Nat → ClassId) (κ : Nat → Nat) (S : PS) (sz : Nat) (x : Nat) (a1 : Int32) (a1_z : Int) (hG : GX S) (ha_x : At S x 12) (hz_a1 : a1.toInt = a1_z) (hp_0 : 0 ≤ a1_z) (hp_1 : a1_z ≤ 39) : Ci l yX12_gradeOf wsX12_gradeOf ({ frames := 1, cells := 0, slots := 0, locals := 48 }) G cy κ S sz [.ref x, .int (a1)] (fun (r : Int32) (S9 : PS) => S = S9 ∧ (0 ≤ r.toInt ∧ r.toInt ≤ 3)) := by
  refine ent_m (cc := cX12_gradeOf) (maxL := 2) (ret := (some .int)) (by decide) rfl (Nat.le_of_ble_eq_true rfl) ?_
  intro p e s m below meth c ls X hr hlocks hin hw hl hsz
  subst hsz
  have X : Cx p c cX12_gradeOf 2 s [.ref x, .int (a1)].toArray wsX12_gradeOf RX12 m G cy κ (AS S s.heap.size) := X
  have hl : lv_has ls 2 [(0, .ref x), (1, .int (a1))] := hl
  have rg_a1 : (-2147483648) ≤ a1_z ∧ a1_z ≤ 2147483647 := by rw [← hz_a1]; exact ⟨z_lo _, z_hi _⟩
  refine lv_aload_n X.1 X.2.1 dX12_gradeOf_0 rfl (lv_at hl 0 rfl) ?_
  obtain ⟨q_1, h_2, h_3, h_4⟩ := gQ_12_1243 hG ha_x
  refine r_getR (g := 1243) X hw ha_x rfl 43 h_2 (by decide) rfl inn_X12_gradeOf_12 (by decide) (X.2.2.2.1 (.fieldLink RX12 112 "SilkMillModel" "skeinGrade" "[I") (by decide +kernel)) rfl (gv_1243 _ _) dX12_gradeOf_1 ?_
  refine lv_iload_n X.1 X.2.1 dX12_gradeOf_4 rfl (lv_at hl 1 rfl) ?_
  refine r_iald X hw h_3 rfl (by rw [h_4]; exact z_ix hz_a1 (by omega) (by omega)) dX12_gradeOf_5 ?_
  refine lv_topi (fun v_5 ev_5 => ?_)
  have z_6 := gE_1074 hG h_3 (Int32.toNatClampNeg (a1)); rw [← ev_5] at z_6
  have ev_5 := ev_5.symm
  refine lv_iconst (v := (-1)) X.1 X.2.1 dX12_gradeOf_6 (by decide) ?_
  refine lv_icmp_ne (tgt := 14) X.1 X.2.1 dX12_gradeOf_7 (by decide) (fun c_7 => ?_) (fun c_7 => ?_)
  · have z_b_8 := trivial
    have k_9 : v_5.toInt ≠ (-1) := z_ne rfl ti_m1 c_7
    refine lv_aload_n X.1 X.2.1 dX12_gradeOf_14 rfl (lv_at hl 0 rfl) ?_
    refine r_getR (g := 1243) X hw ha_x rfl 43 h_2 (by decide) rfl inn_X12_gradeOf_12 (by decide) (X.2.2.2.1 (.fieldLink RX12 112 "SilkMillModel" "skeinGrade" "[I") (by decide +kernel)) rfl (gv_1243 _ _) dX12_gradeOf_15 ?_
    refine lv_iload_n X.1 X.2.1 dX12_gradeOf_18 rfl (lv_at hl 1 rfl) ?_
    refine r_iald X hw h_3 rfl (by rw [h_4]; exact z_ix hz_a1 (by omega) (by omega)) dX12_gradeOf_19 ?_
    rw [ev_5]
    exact ret_i X hw hr hlocks (Nat.le_of_ble_eq_true rfl) (Nat.le_of_ble_eq_true rfl) ⟨rfl, ⟨by omega, by omega⟩⟩ dX12_gradeOf_20
  · have z_b_10 := trivial
    have k_11 : v_5.toInt = (-1) := z_eq rfl ti_m1 c_7
    refine lv_iconst (v := 3) X.1 X.2.1 dX12_gradeOf_10 (by decide) ?_
    refine lv_goto (tgt := 20) X.1 X.2.1 dX12_gradeOf_11 (by decide) ?_
    exact ret_i X hw hr hlocks (Nat.le_of_ble_eq_true rfl) (Nat.le_of_ble_eq_true rfl) ⟨rfl, ⟨by have hzr := ti_3; omega, by have hzr := ti_3; omega⟩⟩ dX12_gradeOf_20
set_option maxHeartbeats 4000000 in
set_option maxRecDepth 100000 in
theorem k_X12_isWord (l : Launch) (G : va_G) (cy : Nat → ClassId) (κ : Nat → Nat) (S : PS) (sz : Nat) (x : Nat) (a1 : Int32) (a1_z : Int) (hG : GX S) (ha_x : At S x 12) (hz_a1 : a1.toInt = a1_z) : Ci l yX12_isWord wsX12_isWord ({ frames := 2, cells := 0, slots := 0, locals := 96 }) G cy κ S sz [.ref x, .int (a1)] (fun (r : Int32) (S9 : PS) => S = S9 ∧ (((0 ≤ a1_z ∧ a1_z ≤ 15) ∧ r = 1) ∨ ((True) ∧ r = 0))) := by
  refine ent_m (cc := cX12_isWord) (maxL := 2) (ret := (some .boolean)) (by decide) rfl (Nat.le_of_ble_eq_true rfl) ?_
  intro p e s m below meth c ls X hr hlocks hin hw hl hsz
  subst hsz
  have X : Cx p c cX12_isWord 2 s [.ref x, .int (a1)].toArray wsX12_isWord RX12 m G cy κ (AS S s.heap.size) := X
  have hl : lv_has ls 2 [(0, .ref x), (1, .int (a1))] := hl
  have rg_a1 : (-2147483648) ≤ a1_z ∧ a1_z ≤ 2147483647 := by rw [← hz_a1]; exact ⟨z_lo _, z_hi _⟩
  refine lv_iload_n X.1 X.2.1 dX12_isWord_0 rfl (lv_at hl 1 rfl) ?_
  refine lv_iconst (v := 0) X.1 X.2.1 dX12_isWord_1 (by decide) ?_
  refine lv_bipush (v := 15) X.1 X.2.1 dX12_isWord_2 (by decide) ?_
  refine k_i (rm := { frames := 1, cells := 0, slots := 0, locals := 48 }) (av := [.int (a1), .int 0, .int 15]) X hw (va_runS (As := [.int (a1), .int 0, .int 15]) (rest := []) (cfix X) (k_X12_within l G cy κ S _ (a1) (a1_z) (0) (0) (15) (15) hG hz_a1 ti_0 ti_15) (cwS 3 X.2.2.2.1 gX12_isWord_X12_within rfl rfl rfl (by decide +kernel) ⟨Nat.le_of_ble_eq_true rfl, Nat.le_of_ble_eq_true rfl⟩) (pre_S X hw _) rfl rfl hl.1 rfl (lv_room (Nat.le_of_ble_eq_true rfl)) dX12_isWord_4 ⟨Nat.le_of_ble_eq_true rfl, Nat.le_of_ble_eq_true rfl⟩) 0 0 (Nat.le_of_ble_eq_true rfl) (Nat.le_of_ble_eq_true rfl) (fun rr_1 S_2 H locs hp hw hfr hnw => ?_)
  obtain ⟨e2, hp⟩ := hp
  subst e2
  rcases hp with ⟨f_3, er_4⟩ | ⟨f_3, er_4⟩ <;> subst er_4
  · have z_b_5 := trivial
    refine lv_if_eq (tgt := 42) X.1 X.2.1 dX12_isWord_7 (by decide) (fun c_6 => absurd c_6 (by decide)) (fun c_6 => ?_)
    refine lv_aload_n X.1 X.2.1 dX12_isWord_10 rfl (lv_at hl 0 rfl) ?_
    obtain ⟨q_7, h_8, h_9, h_10⟩ := gQ_12_1253 hG ha_x
    refine r_getR (g := 1253) X hw ha_x rfl 53 h_8 (by decide) rfl inn_X12_isWord_12 (by decide) (X.2.2.2.1 (.fieldLink RX12 125 "SilkMillModel" "isLaid" "[Z") (by decide +kernel)) rfl (gv_1253 _ _) dX12_isWord_11 ?_
    refine lv_iload_n X.1 X.2.1 dX12_isWord_14 rfl (lv_at hl 1 rfl) ?_
    refine r_zald X hw h_9 rfl (by rw [h_10]; exact z_ix hz_a1 (by omega) (by omega)) dX12_isWord_15 ?_
    refine lv_topi (fun v_11 ev_11 => ?_)
    have rg_12 := And.intro (z_lo v_11) (z_hi v_11)
    have ev_11 := ev_11.symm
    refine lv_if_eq (tgt := 42) X.1 X.2.1 dX12_isWord_16 (by decide) (fun c_13 => ?_) (fun c_13 => ?_)
    · have z_b_14 := trivial
      have k_15 : v_11.toInt = 0 := z_eq rfl ti_0 c_13
      refine lv_iconst (v := 0) X.1 X.2.1 dX12_isWord_42 (by decide) ?_
      exact ret_z X hw hr hlocks (Nat.le_of_ble_eq_true rfl) (Nat.le_of_ble_eq_true rfl) (by decide) ⟨rfl, Or.inr ⟨trivial, rfl⟩⟩ dX12_isWord_43
    · have z_b_16 := trivial
      have k_17 : v_11.toInt ≠ 0 := z_ne rfl ti_0 c_13
      refine lv_aload_n X.1 X.2.1 dX12_isWord_19 rfl (lv_at hl 0 rfl) ?_
      obtain ⟨q_18, h_19, h_20, h_21⟩ := gQ_12_1254 hG ha_x
      refine r_getR (g := 1254) X hw ha_x rfl 54 h_19 (by decide) rfl inn_X12_isWord_12 (by decide) (X.2.2.2.1 (.fieldLink RX12 128 "SilkMillModel" "laid" "[I") (by decide +kernel)) rfl (gv_1254 _ _) dX12_isWord_20 ?_
      refine lv_iload_n X.1 X.2.1 dX12_isWord_23 rfl (lv_at hl 1 rfl) ?_
      refine r_iald X hw h_20 rfl (by rw [h_21]; exact z_ix hz_a1 (by omega) (by omega)) dX12_isWord_24 ?_
      refine lv_topi (fun v_22 ev_22 => ?_)
      have rg_23 := And.intro (z_lo v_22) (z_hi v_22)
      have ev_22 := ev_22.symm
      refine lv_iconst (v := 2) X.1 X.2.1 dX12_isWord_25 (by decide) ?_
      refine lv_icmp_ne (tgt := 42) X.1 X.2.1 dX12_isWord_26 (by decide) (fun c_24 => ?_) (fun c_24 => ?_)
      · have z_b_25 := trivial
        have k_26 : v_22.toInt ≠ 2 := z_ne rfl ti_2 c_24
        refine lv_iconst (v := 0) X.1 X.2.1 dX12_isWord_42 (by decide) ?_
        exact ret_z X hw hr hlocks (Nat.le_of_ble_eq_true rfl) (Nat.le_of_ble_eq_true rfl) (by decide) ⟨rfl, Or.inr ⟨trivial, rfl⟩⟩ dX12_isWord_43
      · have z_b_27 := trivial
        have k_28 : v_22.toInt = 2 := z_eq rfl ti_2 c_24
        refine lv_aload_n X.1 X.2.1 dX12_isWord_29 rfl (lv_at hl 0 rfl) ?_
        obtain ⟨q_29, h_30, h_31, h_32⟩ := gQ_12_1256 hG ha_x
        refine r_getR (g := 1256) X hw ha_x rfl 56 h_30 (by decide) rfl inn_X12_isWord_12 (by decide) (X.2.2.2.1 (.fieldLink RX12 134 "SilkMillModel" "wordMany" "[I") (by decide +kernel)) rfl (gv_1256 _ _) dX12_isWord_30 ?_
        refine lv_iload_n X.1 X.2.1 dX12_isWord_33 rfl (lv_at hl 1 rfl) ?_
        refine r_iald X hw h_31 rfl (by rw [h_32]; exact z_ix hz_a1 (by omega) (by omega)) dX12_isWord_34 ?_
        refine lv_topi (fun v_33 ev_33 => ?_)
        have z_34 := gE_1334 hG h_31 (Int32.toNatClampNeg (a1)); rw [← ev_33] at z_34
        have ev_33 := ev_33.symm
        refine lv_if_le (tgt := 42) X.1 X.2.1 dX12_isWord_35 (by decide) (fun c_35 => ?_) (fun c_35 => ?_)
        · have z_b_36 := trivial
          have k_37 : v_33.toInt ≤ 0 := z_le rfl ti_0 c_35
          refine lv_iconst (v := 0) X.1 X.2.1 dX12_isWord_42 (by decide) ?_
          exact ret_z X hw hr hlocks (Nat.le_of_ble_eq_true rfl) (Nat.le_of_ble_eq_true rfl) (by decide) ⟨rfl, Or.inr ⟨trivial, rfl⟩⟩ dX12_isWord_43
        · have z_b_38 := trivial
          have k_39 : v_33.toInt > 0 := z_nle rfl ti_0 c_35
          refine lv_iconst (v := 1) X.1 X.2.1 dX12_isWord_38 (by decide) ?_
          refine lv_goto (tgt := 43) X.1 X.2.1 dX12_isWord_39 (by decide) ?_
          exact ret_z X hw hr hlocks (Nat.le_of_ble_eq_true rfl) (Nat.le_of_ble_eq_true rfl) (by decide) ⟨rfl, Or.inl ⟨by omega, rfl⟩⟩ dX12_isWord_43
  · have z_b_40 := trivial
    refine lv_if_eq (tgt := 42) X.1 X.2.1 dX12_isWord_7 (by decide) (fun c_41 => ?_) (fun c_41 => absurd c_41 (by decide))
    refine lv_iconst (v := 0) X.1 X.2.1 dX12_isWord_42 (by decide) ?_
    exact ret_z X hw hr hlocks (Nat.le_of_ble_eq_true rfl) (Nat.le_of_ble_eq_true rfl) (by decide) ⟨rfl, Or.inr ⟨trivial, rfl⟩⟩ dX12_isWord_43
set_option maxHeartbeats 4000000 in
set_option maxRecDepth 100000 in
theorem k_X12_number_ (l : Launch) (G : va_G) (cy : Nat → ClassId) (κ : Nat → Nat) (S : PS) (sz : Nat) (x : Nat) (a1 : Int32) (a1_z : Int) (a2 : Int32) (a2_z : Int) (hG : GX S) (ha_x : At S x 12) (hz_a1 : a1.toInt = a1_z) (hz_a2 : a2.toInt = a2_z) : Ci l yX12_number_ wsX12_number_ ({ frames := 3, cells := 0, slots := 0, locals := 144 }) G cy κ S sz [.ref x, .int (a1), .int (a2)] (fun (r : Int32) (S9 : PS) => Ok MN S S9 ∧ (True)) := by
  refine ent_m (cc := cX12_number_) (maxL := 3) (ret := (some .int)) (by decide) rfl (Nat.le_of_ble_eq_true rfl) ?_
  intro p e s m below meth c ls X hr hlocks hin hw hl hsz
  subst hsz
  have X : Cx p c cX12_number_ 3 s [.ref x, .int (a1), .int (a2)].toArray wsX12_number_ RX12 m G cy κ (AS S s.heap.size) := X
  have hl : lv_has ls 3 [(0, .ref x), (1, .int (a1)), (2, .int (a2))] := hl
  have rg_a1 : (-2147483648) ≤ a1_z ∧ a1_z ≤ 2147483647 := by rw [← hz_a1]; exact ⟨z_lo _, z_hi _⟩
  have rg_a2 : (-2147483648) ≤ a2_z ∧ a2_z ≤ 2147483647 := by rw [← hz_a2]; exact ⟨z_lo _, z_hi _⟩
  have hO : Ok MN S S := Ok.rf hG
  refine lv_aload_n X.1 X.2.1 dX12_number__0 rfl (lv_at hl 0 rfl) ?_
  refine lv_iconst (v := 0) X.1 X.2.1 dX12_number__1 (by decide) ?_
  refine r_putI (v := 0) X hw ha_x rfl 0 1200 tyX12 (by decide) rfl inn_X12_number__12 tyX12_ok nmX12 (by decide) (X.2.2.2.1 (.fieldLink RX12 161 "SilkMillModel" "thrown" "I") (by decide +kernel)) rfl (Or.inl rfl) rfl rfl (Nat.le_of_ble_eq_true rfl) (st_1200 _ _) dX12_number__2 (fun H locs hw => ?_)
  obtain ⟨S_1, eS_1⟩ : ∃ T, T = sI S 1200 x (0) := ⟨_, rfl⟩
  rw [← eS_1] at hw
  have hO_2 : Ok MN S S_1 := hO.sI eS_1 (by decide +kernel) (uI_12_1200 hO.1 ha_x)
  have h_3 : pI S_1 1200 x = 0 := tI_sIs eS_1
  refine lv_aload_n X.1 X.2.1 dX12_number__5 rfl (lv_at hl 0 rfl) ?_
  refine lv_iload_n X.1 X.2.1 dX12_number__6 rfl (lv_at hl 1 rfl) ?_
  have t_4 : At S_1 x 12 := tAt_sI eS_1 ha_x
  refine k_i (rm := { frames := 2, cells := 0, slots := 0, locals := 96 }) (av := [.ref x, .int (a1)]) X hw (va_runV (As := [.int (a1)]) (rest := []) (cfix X) (k_X12_isWord l G cy κ S_1 _ x (a1) (a1_z) hO_2.1 t_4 hz_a1) (cwV 1 X.2.2.2.1 gX12_number__X12_isWord rfl rfl rfl (by decide +kernel) ⟨Nat.le_of_ble_eq_true rfl, Nat.le_of_ble_eq_true rfl⟩) (pre_V X hw _ t_4 rfl (by decide) rfl) rfl rfl hl.1 rfl (lv_room (Nat.le_of_ble_eq_true rfl)) dX12_number__7 ⟨Nat.le_of_ble_eq_true rfl, Nat.le_of_ble_eq_true rfl⟩) 0 0 (Nat.le_of_ble_eq_true rfl) (Nat.le_of_ble_eq_true rfl) (fun rr_5 S_6 H locs hp hw hfr hnw => ?_)
  obtain ⟨e2, hp⟩ := hp
  subst e2
  rcases hp with ⟨f_7, er_8⟩ | ⟨f_7, er_8⟩ <;> subst er_8
  · have z_b_9 := trivial
    refine lv_if_eq (tgt := 43) X.1 X.2.1 dX12_number__10 (by decide) (fun c_10 => absurd c_10 (by decide)) (fun c_10 => ?_)
    refine lv_iload_n X.1 X.2.1 dX12_number__13 rfl (lv_at hl 2 rfl) ?_
    refine lv_iconst (v := 0) X.1 X.2.1 dX12_number__14 (by decide) ?_
    refine lv_aload_n X.1 X.2.1 dX12_number__15 rfl (lv_at hl 0 rfl) ?_
    obtain ⟨q_11, h_12, h_13, h_14⟩ := gQ_12_1256 hO_2.1 t_4
    refine r_getR (g := 1256) X hw t_4 rfl 56 h_12 (by decide) rfl inn_X12_number__12 (by decide) (X.2.2.2.1 (.fieldLink RX12 134 "SilkMillModel" "wordMany" "[I") (by decide +kernel)) rfl (gv_1256 _ _) dX12_number__16 ?_
    refine lv_iload_n X.1 X.2.1 dX12_number__19 rfl (lv_at hl 1 rfl) ?_
    refine r_iald X hw h_13 rfl (by rw [h_14]; exact z_ix hz_a1 (by omega) (by omega)) dX12_number__20 ?_
    refine lv_topi (fun v_15 ev_15 => ?_)
    have z_16 := gE_1334 hO_2.1 h_13 (Int32.toNatClampNeg (a1)); rw [← ev_15] at z_16
    have ev_15 := ev_15.symm
    refine lv_iconst (v := 1) X.1 X.2.1 dX12_number__21 (by decide) ?_
    refine lv_isub X.1 X.2.1 dX12_number__22 ?_
    refine lv_topi (fun v_17 ev_17 => ?_)
    have z_18 : v_17.toInt = v_15.toInt - 1 := z_sub ev_17 rfl ti_1 (by omega) (by omega)
    refine k_i (rm := { frames := 1, cells := 0, slots := 0, locals := 48 }) (av := [.int (a2), .int 0, .int (v_17)]) X hw (va_runS (As := [.int (a2), .int 0, .int (v_17)]) (rest := []) (cfix X) (k_X12_within l G cy κ S_1 _ (a2) (a2_z) (0) (0) (v_17) ((v_15.toInt - 1)) hO_2.1 hz_a2 ti_0 z_18) (cwS 3 X.2.2.2.1 gX12_number__X12_within rfl rfl rfl (by decide +kernel) ⟨Nat.le_of_ble_eq_true rfl, Nat.le_of_ble_eq_true rfl⟩) (pre_S X hw _) rfl rfl hl.1 rfl (lv_room (Nat.le_of_ble_eq_true rfl)) dX12_number__23 ⟨Nat.le_of_ble_eq_true rfl, Nat.le_of_ble_eq_true rfl⟩) 0 0 (Nat.le_of_ble_eq_true rfl) (Nat.le_of_ble_eq_true rfl) (fun rr_19 S_20 H locs hp hw hfr hnw => ?_)
    obtain ⟨e2, hp⟩ := hp
    subst e2
    rcases hp with ⟨f_21, er_22⟩ | ⟨f_21, er_22⟩ <;> subst er_22
    · have z_b_23 := trivial
      refine lv_if_eq (tgt := 43) X.1 X.2.1 dX12_number__26 (by decide) (fun c_24 => absurd c_24 (by decide)) (fun c_24 => ?_)
      refine lv_aload_n X.1 X.2.1 dX12_number__29 rfl (lv_at hl 0 rfl) ?_
      obtain ⟨q_25, h_26, h_27, h_28⟩ := gQ_12_1257 hO_2.1 t_4
      refine r_getR (g := 1257) X hw t_4 rfl 57 h_26 (by decide) rfl inn_X12_number__12 (by decide) (X.2.2.2.1 (.fieldLink RX12 137 "SilkMillModel" "wordOf" "[I") (by decide +kernel)) rfl (gv_1257 _ _) dX12_number__30 ?_
      refine lv_bipush (v := 8) X.1 X.2.1 dX12_number__33 (by decide) ?_
      refine lv_iload_n X.1 X.2.1 dX12_number__35 rfl (lv_at hl 1 rfl) ?_
      refine lv_imul X.1 X.2.1 dX12_number__36 ?_
      refine lv_topi (fun v_29 ev_29 => ?_)
      have z_30 : v_29.toInt = 8 * a1_z := z_mul ev_29 ti_8 hz_a1 (by omega) (by omega)
      refine lv_iload_n X.1 X.2.1 dX12_number__37 rfl (lv_at hl 2 rfl) ?_
      refine lv_iadd X.1 X.2.1 dX12_number__38 ?_
      refine lv_topi (fun v_31 ev_31 => ?_)
      have z_32 : v_31.toInt = (8 * a1_z) + a2_z := z_add ev_31 z_30 hz_a2 (by omega) (by omega)
      refine r_iald X hw h_27 rfl (by rw [h_28]; exact z_ix z_32 (by omega) (by omega)) dX12_number__39 ?_
      refine lv_topi (fun v_33 ev_33 => ?_)
      have rg_34 := And.intro (z_lo v_33) (z_hi v_33)
      have ev_33 := ev_33.symm
      refine lv_goto (tgt := 44) X.1 X.2.1 dX12_number__40 (by decide) ?_
      exact ret_i X hw hr hlocks (Nat.le_of_ble_eq_true rfl) (Nat.le_of_ble_eq_true rfl) ⟨hO_2, trivial⟩ dX12_number__44
    · have z_b_35 := trivial
      refine lv_if_eq (tgt := 43) X.1 X.2.1 dX12_number__26 (by decide) (fun c_36 => ?_) (fun c_36 => absurd c_36 (by decide))
      refine lv_iconst (v := (-1)) X.1 X.2.1 dX12_number__43 (by decide) ?_
      exact ret_i X hw hr hlocks (Nat.le_of_ble_eq_true rfl) (Nat.le_of_ble_eq_true rfl) ⟨hO_2, trivial⟩ dX12_number__44
  · have z_b_37 := trivial
    refine lv_if_eq (tgt := 43) X.1 X.2.1 dX12_number__10 (by decide) (fun c_38 => ?_) (fun c_38 => absurd c_38 (by decide))
    refine lv_iconst (v := (-1)) X.1 X.2.1 dX12_number__43 (by decide) ?_
    exact ret_i X hw hr hlocks (Nat.le_of_ble_eq_true rfl) (Nat.le_of_ble_eq_true rfl) ⟨hO_2, trivial⟩ dX12_number__44
set_option maxHeartbeats 4000000 in
set_option maxRecDepth 100000 in
theorem k_X12_price (l : Launch) (G : va_G) (cy : Nat → ClassId) (κ : Nat → Nat) (S : PS) (sz : Nat) (x : Nat) (a1 : Int32) (a1_z : Int) (a2 : Int32) (a2_z : Int) (hG : GX S) (ha_x : At S x 12) (hz_a1 : a1.toInt = a1_z) (hz_a2 : a2.toInt = a2_z) : Ci l yX12_price wsX12_price ({ frames := 2, cells := 0, slots := 0, locals := 96 }) G cy κ S sz [.ref x, .int (a1), .int (a2)] (fun (r : Int32) (S9 : PS) => Ok Mpr S S9 ∧ (((0 ≤ a1_z ∧ a1_z ≤ 3 ∧ 0 ≤ a2_z ∧ a2_z ≤ 1000) ∧ r = 1) ∨ ((¬ (0 ≤ a1_z ∧ a1_z ≤ 3 ∧ 0 ≤ a2_z ∧ a2_z ≤ 1000)) ∧ r = 0))) := by
  refine ent_m (cc := cX12_price) (maxL := 3) (ret := (some .boolean)) (by decide) rfl (Nat.le_of_ble_eq_true rfl) ?_
  intro p e s m below meth c ls X hr hlocks hin hw hl hsz
  subst hsz
  have X : Cx p c cX12_price 3 s [.ref x, .int (a1), .int (a2)].toArray wsX12_price RX12 m G cy κ (AS S s.heap.size) := X
  have hl : lv_has ls 3 [(0, .ref x), (1, .int (a1)), (2, .int (a2))] := hl
  have rg_a1 : (-2147483648) ≤ a1_z ∧ a1_z ≤ 2147483647 := by rw [← hz_a1]; exact ⟨z_lo _, z_hi _⟩
  have rg_a2 : (-2147483648) ≤ a2_z ∧ a2_z ≤ 2147483647 := by rw [← hz_a2]; exact ⟨z_lo _, z_hi _⟩
  have hO : Ok Mpr S S := Ok.rf hG
  refine lv_aload_n X.1 X.2.1 dX12_price_0 rfl (lv_at hl 0 rfl) ?_
  refine lv_iconst (v := 0) X.1 X.2.1 dX12_price_1 (by decide) ?_
  refine r_putI (v := 0) X hw ha_x rfl 0 1200 tyX12 (by decide) rfl inn_X12_price_12 tyX12_ok nmX12 (by decide) (X.2.2.2.1 (.fieldLink RX12 161 "SilkMillModel" "thrown" "I") (by decide +kernel)) rfl (Or.inl rfl) rfl rfl (Nat.le_of_ble_eq_true rfl) (st_1200 _ _) dX12_price_2 (fun H locs hw => ?_)
  obtain ⟨S_1, eS_1⟩ : ∃ T, T = sI S 1200 x (0) := ⟨_, rfl⟩
  rw [← eS_1] at hw
  have hO_2 : Ok Mpr S S_1 := hO.sI eS_1 (by decide +kernel) (uI_12_1200 hO.1 ha_x)
  have h_3 : pI S_1 1200 x = 0 := tI_sIs eS_1
  refine lv_iload_n X.1 X.2.1 dX12_price_5 rfl (lv_at hl 1 rfl) ?_
  refine lv_iconst (v := 0) X.1 X.2.1 dX12_price_6 (by decide) ?_
  refine lv_iconst (v := 3) X.1 X.2.1 dX12_price_7 (by decide) ?_
  refine k_i (rm := { frames := 1, cells := 0, slots := 0, locals := 48 }) (av := [.int (a1), .int 0, .int 3]) X hw (va_runS (As := [.int (a1), .int 0, .int 3]) (rest := []) (cfix X) (k_X12_within l G cy κ S_1 _ (a1) (a1_z) (0) (0) (3) (3) hO_2.1 hz_a1 ti_0 ti_3) (cwS 3 X.2.2.2.1 gX12_price_X12_within rfl rfl rfl (by decide +kernel) ⟨Nat.le_of_ble_eq_true rfl, Nat.le_of_ble_eq_true rfl⟩) (pre_S X hw _) rfl rfl hl.1 rfl (lv_room (Nat.le_of_ble_eq_true rfl)) dX12_price_8 ⟨Nat.le_of_ble_eq_true rfl, Nat.le_of_ble_eq_true rfl⟩) 0 0 (Nat.le_of_ble_eq_true rfl) (Nat.le_of_ble_eq_true rfl) (fun rr_4 S_5 H locs hp hw hfr hnw => ?_)
  obtain ⟨e2, hp⟩ := hp
  subst e2
  rcases hp with ⟨f_6, er_7⟩ | ⟨f_6, er_7⟩ <;> subst er_7
  · have z_b_8 := trivial
    refine lv_if_eq (tgt := 25) X.1 X.2.1 dX12_price_11 (by decide) (fun c_9 => absurd c_9 (by decide)) (fun c_9 => ?_)
    refine lv_iload_n X.1 X.2.1 dX12_price_14 rfl (lv_at hl 2 rfl) ?_
    refine lv_iconst (v := 0) X.1 X.2.1 dX12_price_15 (by decide) ?_
    refine lv_sipush (v := 1000) X.1 X.2.1 dX12_price_16 (by decide) ?_
    refine k_i (rm := { frames := 1, cells := 0, slots := 0, locals := 48 }) (av := [.int (a2), .int 0, .int 1000]) X hw (va_runS (As := [.int (a2), .int 0, .int 1000]) (rest := []) (cfix X) (k_X12_within l G cy κ S_1 _ (a2) (a2_z) (0) (0) (1000) (1000) hO_2.1 hz_a2 ti_0 ti_1000) (cwS 3 X.2.2.2.1 gX12_price_X12_within rfl rfl rfl (by decide +kernel) ⟨Nat.le_of_ble_eq_true rfl, Nat.le_of_ble_eq_true rfl⟩) (pre_S X hw _) rfl rfl hl.1 rfl (lv_room (Nat.le_of_ble_eq_true rfl)) dX12_price_19 ⟨Nat.le_of_ble_eq_true rfl, Nat.le_of_ble_eq_true rfl⟩) 0 0 (Nat.le_of_ble_eq_true rfl) (Nat.le_of_ble_eq_true rfl) (fun rr_10 S_11 H locs hp hw hfr hnw => ?_)
    obtain ⟨e2, hp⟩ := hp
    subst e2
    rcases hp with ⟨f_12, er_13⟩ | ⟨f_12, er_13⟩ <;> subst er_13
    · have z_b_14 := trivial
      refine lv_if_ne (tgt := 27) X.1 X.2.1 dX12_price_22 (by decide) (fun c_15 => ?_) (fun c_15 => absurd c_15 (by decide))
      refine lv_aload_n X.1 X.2.1 dX12_price_27 rfl (lv_at hl 0 rfl) ?_
      have t_16 : At S_1 x 12 := tAt_sI eS_1 ha_x
      obtain ⟨q_17, h_18, h_19, h_20⟩ := gQ_12_1248 hO_2.1 t_16
      refine r_getR (g := 1248) X hw t_16 rfl 48 h_18 (by decide) rfl inn_X12_price_12 (by decide) (X.2.2.2.1 (.fieldLink RX12 119 "SilkMillModel" "price" "[I") (by decide +kernel)) rfl (gv_1248 _ _) dX12_price_28 ?_
      refine lv_iload_n X.1 X.2.1 dX12_price_31 rfl (lv_at hl 1 rfl) ?_
      refine lv_iload_n X.1 X.2.1 dX12_price_32 rfl (lv_at hl 2 rfl) ?_
      refine r_iast X hw h_19 rfl (by rw [h_20]; exact z_ix hz_a1 (by omega) (by omega)) dX12_price_33 (fun H locs hw => ?_)
      obtain ⟨S_21, eS_21⟩ : ∃ T, T = sA S_1 q_17 (upd (pA S_1 q_17) (Int32.toNatClampNeg (a1)) (a2)) := ⟨_, rfl⟩
      rw [← eS_21] at hw
      have hO_22 : Ok Mpr S S_21 := hO_2.sA eS_21 h_19 (by decide +kernel) (uA_1174 hO_2.1 h_19)
      have h_23 : pA S_21 q_17 (Int32.toNatClampNeg (a1)) = a2 := tA_sAs eS_21
      refine lv_iconst (v := 1) X.1 X.2.1 dX12_price_34 (by decide) ?_
      exact ret_z X hw hr hlocks (Nat.le_of_ble_eq_true rfl) (Nat.le_of_ble_eq_true rfl) (by decide) ⟨hO_22, Or.inl ⟨by omega, rfl⟩⟩ dX12_price_35
    · have z_b_24 := trivial
      refine lv_if_ne (tgt := 27) X.1 X.2.1 dX12_price_22 (by decide) (fun c_25 => absurd c_25 (by decide)) (fun c_25 => ?_)
      refine lv_iconst (v := 0) X.1 X.2.1 dX12_price_25 (by decide) ?_
      exact ret_z X hw hr hlocks (Nat.le_of_ble_eq_true rfl) (Nat.le_of_ble_eq_true rfl) (by decide) ⟨hO_2, Or.inr ⟨by omega, rfl⟩⟩ dX12_price_26
  · have z_b_26 := trivial
    refine lv_if_eq (tgt := 25) X.1 X.2.1 dX12_price_11 (by decide) (fun c_27 => ?_) (fun c_27 => absurd c_27 (by decide))
    refine lv_iconst (v := 0) X.1 X.2.1 dX12_price_25 (by decide) ?_
    exact ret_z X hw hr hlocks (Nat.le_of_ble_eq_true rfl) (Nat.le_of_ble_eq_true rfl) (by decide) ⟨hO_2, Or.inr ⟨by omega, rfl⟩⟩ dX12_price_26
set_option maxHeartbeats 4000000 in
set_option maxRecDepth 100000 in
theorem k_X12_mixed (l : Launch) (G : va_G) (cy : Nat → ClassId) (κ : Nat → Nat) (S : PS) (sz : Nat) (x : Nat) (a1 : Int32) (a1_z : Int) (hG : GX S) (ha_x : At S x 12) (hz_a1 : a1.toInt = a1_z) : Ci l yX12_mixed wsX12_mixed ({ frames := 3, cells := 0, slots := 0, locals := 144 }) G cy κ S sz [.ref x, .int (a1)] (fun (r : Int32) (S9 : PS) => Ok MN S S9 ∧ (((True) ∧ r = 1) ∨ ((True) ∧ r = 0))) := by
  refine ent_m (cc := cX12_mixed) (maxL := 2) (ret := (some .boolean)) (by decide) rfl (Nat.le_of_ble_eq_true rfl) ?_
  intro p e s m below meth c ls X hr hlocks hin hw hl hsz
  subst hsz
  have X : Cx p c cX12_mixed 2 s [.ref x, .int (a1)].toArray wsX12_mixed RX12 m G cy κ (AS S s.heap.size) := X
  have hl : lv_has ls 2 [(0, .ref x), (1, .int (a1))] := hl
  have rg_a1 : (-2147483648) ≤ a1_z ∧ a1_z ≤ 2147483647 := by rw [← hz_a1]; exact ⟨z_lo _, z_hi _⟩
  have hO : Ok MN S S := Ok.rf hG
  refine lv_aload_n X.1 X.2.1 dX12_mixed_0 rfl (lv_at hl 0 rfl) ?_
  refine lv_iconst (v := 0) X.1 X.2.1 dX12_mixed_1 (by decide) ?_
  refine r_putI (v := 0) X hw ha_x rfl 0 1200 tyX12 (by decide) rfl inn_X12_mixed_12 tyX12_ok nmX12 (by decide) (X.2.2.2.1 (.fieldLink RX12 161 "SilkMillModel" "thrown" "I") (by decide +kernel)) rfl (Or.inl rfl) rfl rfl (Nat.le_of_ble_eq_true rfl) (st_1200 _ _) dX12_mixed_2 (fun H locs hw => ?_)
  obtain ⟨S_1, eS_1⟩ : ∃ T, T = sI S 1200 x (0) := ⟨_, rfl⟩
  rw [← eS_1] at hw
  have hO_2 : Ok MN S S_1 := hO.sI eS_1 (by decide +kernel) (uI_12_1200 hO.1 ha_x)
  have h_3 : pI S_1 1200 x = 0 := tI_sIs eS_1
  refine lv_aload_n X.1 X.2.1 dX12_mixed_5 rfl (lv_at hl 0 rfl) ?_
  refine lv_iload_n X.1 X.2.1 dX12_mixed_6 rfl (lv_at hl 1 rfl) ?_
  have t_4 : At S_1 x 12 := tAt_sI eS_1 ha_x
  refine k_i (rm := { frames := 2, cells := 0, slots := 0, locals := 96 }) (av := [.ref x, .int (a1)]) X hw (va_runV (As := [.int (a1)]) (rest := []) (cfix X) (k_X12_isSkein l G cy κ S_1 _ x (a1) (a1_z) hO_2.1 t_4 hz_a1) (cwV 1 X.2.2.2.1 gX12_mixed_X12_isSkein rfl rfl rfl (by decide +kernel) ⟨Nat.le_of_ble_eq_true rfl, Nat.le_of_ble_eq_true rfl⟩) (pre_V X hw _ t_4 rfl (by decide) rfl) rfl rfl hl.1 rfl (lv_room (Nat.le_of_ble_eq_true rfl)) dX12_mixed_7 ⟨Nat.le_of_ble_eq_true rfl, Nat.le_of_ble_eq_true rfl⟩) 0 0 (Nat.le_of_ble_eq_true rfl) (Nat.le_of_ble_eq_true rfl) (fun rr_5 S_6 H locs hp hw hfr hnw => ?_)
  obtain ⟨e2, hp⟩ := hp
  subst e2
  rcases hp with ⟨f_7, er_8⟩ | ⟨f_7, er_8⟩ <;> subst er_8
  · have z_b_9 := trivial
    refine lv_if_eq (tgt := 26) X.1 X.2.1 dX12_mixed_10 (by decide) (fun c_10 => absurd c_10 (by decide)) (fun c_10 => ?_)
    refine lv_aload_n X.1 X.2.1 dX12_mixed_13 rfl (lv_at hl 0 rfl) ?_
    obtain ⟨q_11, h_12, h_13, h_14⟩ := gQ_12_1261 hO_2.1 t_4
    refine r_getR (g := 1261) X hw t_4 rfl 61 h_12 (by decide) rfl inn_X12_mixed_12 (by decide) (X.2.2.2.1 (.fieldLink RX12 149 "SilkMillModel" "isMixed" "[Z") (by decide +kernel)) rfl (gv_1261 _ _) dX12_mixed_14 ?_
    refine lv_iload_n X.1 X.2.1 dX12_mixed_17 rfl (lv_at hl 1 rfl) ?_
    refine r_zald X hw h_13 rfl (by rw [h_14]; exact z_ix hz_a1 (by omega) (by omega)) dX12_mixed_18 ?_
    refine lv_topi (fun v_15 ev_15 => ?_)
    have rg_16 := And.intro (z_lo v_15) (z_hi v_15)
    have ev_15 := ev_15.symm
    refine lv_if_eq (tgt := 26) X.1 X.2.1 dX12_mixed_19 (by decide) (fun c_17 => ?_) (fun c_17 => ?_)
    · have z_b_18 := trivial
      have k_19 : v_15.toInt = 0 := z_eq rfl ti_0 c_17
      refine lv_iconst (v := 0) X.1 X.2.1 dX12_mixed_26 (by decide) ?_
      exact ret_z X hw hr hlocks (Nat.le_of_ble_eq_true rfl) (Nat.le_of_ble_eq_true rfl) (by decide) ⟨hO_2, Or.inr ⟨trivial, rfl⟩⟩ dX12_mixed_27
    · have z_b_20 := trivial
      have k_21 : v_15.toInt ≠ 0 := z_ne rfl ti_0 c_17
      refine lv_iconst (v := 1) X.1 X.2.1 dX12_mixed_22 (by decide) ?_
      refine lv_goto (tgt := 27) X.1 X.2.1 dX12_mixed_23 (by decide) ?_
      exact ret_z X hw hr hlocks (Nat.le_of_ble_eq_true rfl) (Nat.le_of_ble_eq_true rfl) (by decide) ⟨hO_2, Or.inl ⟨trivial, rfl⟩⟩ dX12_mixed_27
  · have z_b_22 := trivial
    refine lv_if_eq (tgt := 26) X.1 X.2.1 dX12_mixed_10 (by decide) (fun c_23 => ?_) (fun c_23 => absurd c_23 (by decide))
    refine lv_iconst (v := 0) X.1 X.2.1 dX12_mixed_26 (by decide) ?_
    exact ret_z X hw hr hlocks (Nat.le_of_ble_eq_true rfl) (Nat.le_of_ble_eq_true rfl) (by decide) ⟨hO_2, Or.inr ⟨trivial, rfl⟩⟩ dX12_mixed_27
set_option maxHeartbeats 4000000 in
set_option maxRecDepth 100000 in
theorem k_X12_day (l : Launch) (G : va_G) (cy : Nat → ClassId) (κ : Nat → Nat) (S : PS) (sz : Nat) (x : Nat) (hG : GX S) (ha_x : At S x 12) : Ci l yX12_day wsX12_day ({ frames := 1, cells := 0, slots := 0, locals := 48 }) G cy κ S sz [.ref x] (fun (r : Int32) (S9 : PS) => Ok MD S S9 ∧ (-2147483648 ≤ r.toInt ∧ r.toInt ≤ 2147483647 ∧ r = pI S 1245 x + 1 ∧ pI S9 1245 x = pI S 1245 x + 1)) := by
  refine ent_m (cc := cX12_day) (maxL := 1) (ret := (some .int)) (by decide) rfl (Nat.le_of_ble_eq_true rfl) ?_
  intro p e s m below meth c ls X hr hlocks hin hw hl hsz
  subst hsz
  have X : Cx p c cX12_day 1 s [.ref x].toArray wsX12_day RX12 m G cy κ (AS S s.heap.size) := X
  have hl : lv_has ls 1 [(0, .ref x)] := hl
  have hO : Ok MD S S := Ok.rf hG
  obtain ⟨v_1, ev_1⟩ : ∃ v, pI S 1245 x = v := ⟨_, rfl⟩
  have rg_3 := And.intro (z_lo v_1) (z_hi v_1)
  refine lv_aload_n X.1 X.2.1 dX12_day_0 rfl (lv_at hl 0 rfl) ?_
  refine lv_iconst (v := 0) X.1 X.2.1 dX12_day_1 (by decide) ?_
  refine r_putI (v := 0) X hw ha_x rfl 0 1200 tyX12 (by decide) rfl inn_X12_day_12 tyX12_ok nmX12 (by decide) (X.2.2.2.1 (.fieldLink RX12 161 "SilkMillModel" "thrown" "I") (by decide +kernel)) rfl (Or.inl rfl) rfl rfl (Nat.le_of_ble_eq_true rfl) (st_1200 _ _) dX12_day_2 (fun H locs hw => ?_)
  obtain ⟨S_4, eS_4⟩ : ∃ T, T = sI S 1200 x (0) := ⟨_, rfl⟩
  rw [← eS_4] at hw
  have hO_5 : Ok MD S S_4 := hO.sI eS_4 (by decide +kernel) (uI_12_1200 hO.1 ha_x)
  have h_6 : pI S_4 1200 x = 0 := tI_sIs eS_4
  refine lv_aload_n X.1 X.2.1 dX12_day_5 rfl (lv_at hl 0 rfl) ?_
  refine lv_dup X.1 X.2.1 dX12_day_6 rfl ?_
  have t_7 : At S_4 x 12 := tAt_sI eS_4 ha_x
  have t_8 : pI S_4 1245 x = v_1 := tI_sI eS_4 rfl ev_1
  refine r_getI (g := 1245) (x := v_1) X hw t_7 rfl 45 t_8 (by decide) rfl inn_X12_day_12 (by decide) (X.2.2.2.1 (.fieldLink RX12 302 "SilkMillModel" "today" "I") (by decide +kernel)) rfl (gv_1245 _ _) dX12_day_7 ?_
  refine lv_iconst (v := 1) X.1 X.2.1 dX12_day_10 (by decide) ?_
  refine lv_iadd X.1 X.2.1 dX12_day_11 ?_
  refine lv_topi (fun v_9 ev_9 => ?_)
  have rg_10 := And.intro (z_lo v_9) (z_hi v_9)
  refine r_putI (v := v_9) X hw t_7 rfl 45 1245 tyX12 (by decide) rfl inn_X12_day_12 tyX12_ok nmX12 (by decide) (X.2.2.2.1 (.fieldLink RX12 302 "SilkMillModel" "today" "I") (by decide +kernel)) rfl (Or.inl rfl) rfl rfl (Nat.le_of_ble_eq_true rfl) (st_1245 _ _) dX12_day_12 (fun H locs hw => ?_)
  obtain ⟨S_11, eS_11⟩ : ∃ T, T = sI S_4 1245 x (v_9) := ⟨_, rfl⟩
  rw [← eS_11] at hw
  have hO_12 : Ok MD S S_11 := hO_5.sI eS_11 (by decide +kernel) (uI_12_1245 hO_5.1 t_7)
  have h_13 : pI S_11 1245 x = v_9 := tI_sIs eS_11
  refine lv_aload_n X.1 X.2.1 dX12_day_15 rfl (lv_at hl 0 rfl) ?_
  have t_14 : At S_11 x 12 := tAt_sI eS_11 t_7
  refine r_getI (g := 1245) (x := v_9) X hw t_14 rfl 45 h_13 (by decide) rfl inn_X12_day_12 (by decide) (X.2.2.2.1 (.fieldLink RX12 302 "SilkMillModel" "today" "I") (by decide +kernel)) rfl (gv_1245 _ _) dX12_day_16 ?_
  exact ret_i X hw hr hlocks (Nat.le_of_ble_eq_true rfl) (Nat.le_of_ble_eq_true rfl) ⟨hO_12, ⟨z_lo _, z_hi _, by rw [ev_1]; exact ev_9, by rw [h_13, ev_1]; exact ev_9⟩⟩ dX12_day_19
