set_option maxRecDepth 20000 in
theorem ggX12_begins_X12_endOf : GoodIn wsX12_begins wsX12_endOf := goodIn_r _ [7, 8, 2, 9, 10, 11, 12, 13, 14, 15, 16, 17, 18, 19, 20, 21, 22, 23, 24, 25, 26, 27, 28, 29, 30, 31, 32, 33, 34, 35, 36, 37, 38, 39, 40, 41, 42, 43, 44, 45, 46, 47, 48, 49, 50, 51, 52, 53, 54, 55, 56, 57, 58, 59, 60, 61, 62, 63, 64, 65, 66, 67, 68, 69, 70, 71, 72, 73, 74] (by decide +kernel) (by decide +kernel)
set_option maxRecDepth 20000 in
theorem gX12_begins_X12_endOf : GoodIn wsX12_begins (wsV RX12 336 RX12 yX12_endOf wsX12_endOf) := goodIn_app (goodIn_of _ (by decide +kernel)) ggX12_begins_X12_endOf
theorem dX12_begins_0 : decode cX12_begins 0 = .ok (.aload_n 0, 1) := by decide +kernel
theorem dX12_begins_1 : decode cX12_begins 1 = .ok (.getfield 100, 3) := by decide +kernel
theorem dX12_begins_4 : decode cX12_begins 4 = .ok (.iload_n 1, 1) := by decide +kernel
theorem dX12_begins_5 : decode cX12_begins 5 = .ok (.iaload, 1) := by decide +kernel
theorem dX12_begins_6 : decode cX12_begins 6 = .ok (.iload_n 2, 1) := by decide +kernel
theorem dX12_begins_7 : decode cX12_begins 7 = .ok (.iadd, 1) := by decide +kernel
theorem dX12_begins_8 : decode cX12_begins 8 = .ok (.istore 4, 2) := by decide +kernel
theorem dX12_begins_10 : decode cX12_begins 10 = .ok (.iload_n 2, 1) := by decide +kernel
theorem dX12_begins_11 : decode cX12_begins 11 = .ok (.ifCond .eq 31, 3) := by decide +kernel
theorem dX12_begins_14 : decode cX12_begins 14 = .ok (.aload_n 0, 1) := by decide +kernel
theorem dX12_begins_15 : decode cX12_begins 15 = .ok (.iload 4, 2) := by decide +kernel
theorem dX12_begins_17 : decode cX12_begins 17 = .ok (.iconst 1, 1) := by decide +kernel
theorem dX12_begins_18 : decode cX12_begins 18 = .ok (.isub, 1) := by decide +kernel
theorem dX12_begins_19 : decode cX12_begins 19 = .ok (.aload_n 0, 1) := by decide +kernel
theorem dX12_begins_20 : decode cX12_begins 20 = .ok (.getfield 94, 3) := by decide +kernel
theorem dX12_begins_23 : decode cX12_begins 23 = .ok (.bipush 12, 2) := by decide +kernel
theorem dX12_begins_25 : decode cX12_begins 25 = .ok (.iload 4, 2) := by decide +kernel
theorem dX12_begins_27 : decode cX12_begins 27 = .ok (.imul, 1) := by decide +kernel
theorem dX12_begins_28 : decode cX12_begins 28 = .ok (.iload_n 3, 1) := by decide +kernel
theorem dX12_begins_29 : decode cX12_begins 29 = .ok (.iadd, 1) := by decide +kernel
theorem dX12_begins_30 : decode cX12_begins 30 = .ok (.iaload, 1) := by decide +kernel
theorem dX12_begins_31 : decode cX12_begins 31 = .ok (.sipush 1000, 3) := by decide +kernel
theorem dX12_begins_34 : decode cX12_begins 34 = .ok (.idiv, 1) := by decide +kernel
theorem dX12_begins_35 : decode cX12_begins 35 = .ok (.invokevirtual 336, 3) := by decide +kernel
theorem dX12_begins_38 : decode cX12_begins 38 = .ok (.iconst (-1), 1) := by decide +kernel
theorem dX12_begins_39 : decode cX12_begins 39 = .ok (.if_icmp .ne 7, 3) := by decide +kernel
theorem dX12_begins_42 : decode cX12_begins 42 = .ok (.iconst 1, 1) := by decide +kernel
theorem dX12_begins_43 : decode cX12_begins 43 = .ok (.goto 4, 3) := by decide +kernel
theorem dX12_begins_46 : decode cX12_begins 46 = .ok (.iconst 0, 1) := by decide +kernel
theorem dX12_begins_47 : decode cX12_begins 47 = .ok (.ireturn, 1) := by decide +kernel
set_option maxRecDepth 20000 in
theorem ggX12_pieces_X12_metres : GoodIn wsX12_pieces wsX12_metres := goodIn_r _ [7, 2, 17, 18, 19, 20, 21, 22, 23, 24, 25, 26, 27, 28, 29, 30, 31, 32, 33, 34, 35, 36, 37, 38, 39, 40, 41, 42, 43, 44, 45, 46, 47, 48, 49, 50, 51, 52, 53, 54, 55, 56, 57, 58, 59, 60, 61, 62, 63, 64, 65, 66, 67, 68, 69, 70, 71, 72, 73, 74, 75, 76, 77, 78, 79, 80, 81, 82] (by decide +kernel) (by decide +kernel)
set_option maxRecDepth 20000 in
theorem gX12_pieces_X12_metres : GoodIn wsX12_pieces (wsV RX12 350 RX12 yX12_metres wsX12_metres) := goodIn_app (goodIn_of _ (by decide +kernel)) ggX12_pieces_X12_metres
set_option maxRecDepth 20000 in
theorem ggX12_pieces_X12_begins : GoodIn wsX12_pieces wsX12_begins := goodIn_r _ [11, 2, 12, 13, 14, 15, 6, 16, 1, 17, 18, 19, 20, 21, 22, 23, 24, 25, 26, 27, 28, 29, 30, 31, 32, 33, 34, 35, 36, 37, 38, 39, 40, 41, 42, 43, 44, 45, 46, 47, 48, 49, 50, 51, 52, 53, 54, 55, 56, 57, 58, 59, 60, 61, 62, 63, 64, 65, 66, 67, 68, 69, 70, 71, 72, 73, 74, 75, 76, 77, 78, 79, 80, 81, 82] (by decide +kernel) (by decide +kernel)
set_option maxRecDepth 20000 in
theorem gX12_pieces_X12_begins : GoodIn wsX12_pieces (wsV RX12 353 RX12 yX12_begins wsX12_begins) := goodIn_app (goodIn_of _ (by decide +kernel)) ggX12_pieces_X12_begins
theorem dX12_pieces_0 : decode cX12_pieces 0 = .ok (.iconst 0, 1) := by decide +kernel
theorem dX12_pieces_1 : decode cX12_pieces 1 = .ok (.istore_n 2, 1) := by decide +kernel
theorem dX12_pieces_2 : decode cX12_pieces 2 = .ok (.iconst 0, 1) := by decide +kernel
theorem dX12_pieces_3 : decode cX12_pieces 3 = .ok (.istore_n 3, 1) := by decide +kernel
theorem dX12_pieces_4 : decode cX12_pieces 4 = .ok (.iload_n 3, 1) := by decide +kernel
theorem dX12_pieces_5 : decode cX12_pieces 5 = .ok (.aload_n 0, 1) := by decide +kernel
theorem dX12_pieces_6 : decode cX12_pieces 6 = .ok (.iload_n 1, 1) := by decide +kernel
theorem dX12_pieces_7 : decode cX12_pieces 7 = .ok (.invokevirtual 350, 3) := by decide +kernel
theorem dX12_pieces_10 : decode cX12_pieces 10 = .ok (.if_icmp .ge 55, 3) := by decide +kernel
theorem dX12_pieces_13 : decode cX12_pieces 13 = .ok (.iconst 0, 1) := by decide +kernel
theorem dX12_pieces_14 : decode cX12_pieces 14 = .ok (.istore 4, 2) := by decide +kernel
theorem dX12_pieces_16 : decode cX12_pieces 16 = .ok (.iload 4, 2) := by decide +kernel
theorem dX12_pieces_18 : decode cX12_pieces 18 = .ok (.aload_n 0, 1) := by decide +kernel
theorem dX12_pieces_19 : decode cX12_pieces 19 = .ok (.getfield 90, 3) := by decide +kernel
theorem dX12_pieces_22 : decode cX12_pieces 22 = .ok (.aload_n 0, 1) := by decide +kernel
theorem dX12_pieces_23 : decode cX12_pieces 23 = .ok (.getfield 100, 3) := by decide +kernel
theorem dX12_pieces_26 : decode cX12_pieces 26 = .ok (.iload_n 1, 1) := by decide +kernel
theorem dX12_pieces_27 : decode cX12_pieces 27 = .ok (.iaload, 1) := by decide +kernel
theorem dX12_pieces_28 : decode cX12_pieces 28 = .ok (.iload_n 3, 1) := by decide +kernel
theorem dX12_pieces_29 : decode cX12_pieces 29 = .ok (.iadd, 1) := by decide +kernel
theorem dX12_pieces_30 : decode cX12_pieces 30 = .ok (.iaload, 1) := by decide +kernel
theorem dX12_pieces_31 : decode cX12_pieces 31 = .ok (.if_icmp .ge 28, 3) := by decide +kernel
theorem dX12_pieces_34 : decode cX12_pieces 34 = .ok (.iload_n 2, 1) := by decide +kernel
theorem dX12_pieces_35 : decode cX12_pieces 35 = .ok (.aload_n 0, 1) := by decide +kernel
theorem dX12_pieces_36 : decode cX12_pieces 36 = .ok (.iload_n 1, 1) := by decide +kernel
theorem dX12_pieces_37 : decode cX12_pieces 37 = .ok (.iload_n 3, 1) := by decide +kernel
theorem dX12_pieces_38 : decode cX12_pieces 38 = .ok (.iload 4, 2) := by decide +kernel
theorem dX12_pieces_40 : decode cX12_pieces 40 = .ok (.invokevirtual 353, 3) := by decide +kernel
theorem dX12_pieces_43 : decode cX12_pieces 43 = .ok (.ifCond .eq 7, 3) := by decide +kernel
theorem dX12_pieces_46 : decode cX12_pieces 46 = .ok (.iconst 1, 1) := by decide +kernel
theorem dX12_pieces_47 : decode cX12_pieces 47 = .ok (.goto 4, 3) := by decide +kernel
theorem dX12_pieces_50 : decode cX12_pieces 50 = .ok (.iconst 0, 1) := by decide +kernel
theorem dX12_pieces_51 : decode cX12_pieces 51 = .ok (.iadd, 1) := by decide +kernel
theorem dX12_pieces_52 : decode cX12_pieces 52 = .ok (.istore_n 2, 1) := by decide +kernel
theorem dX12_pieces_53 : decode cX12_pieces 53 = .ok (.iinc 4 1, 3) := by decide +kernel
theorem dX12_pieces_56 : decode cX12_pieces 56 = .ok (.goto (-40), 3) := by decide +kernel
theorem dX12_pieces_59 : decode cX12_pieces 59 = .ok (.iinc 3 1, 3) := by decide +kernel
theorem dX12_pieces_62 : decode cX12_pieces 62 = .ok (.goto (-58), 3) := by decide +kernel
theorem dX12_pieces_65 : decode cX12_pieces 65 = .ok (.iload_n 2, 1) := by decide +kernel
theorem dX12_pieces_66 : decode cX12_pieces 66 = .ok (.ireturn, 1) := by decide +kernel
set_option maxRecDepth 20000 in
theorem ggX12_skein_X12_isSkein : GoodIn wsX12_skein wsX12_isSkein := goodIn_r _ [10, 11, 12, 13, 9, 14, 93, 94, 95, 96, 97, 98, 99, 100, 101, 102, 103, 104, 105, 106, 107, 108, 109, 110, 111, 112, 113, 114, 115, 116, 117, 118, 119, 120, 121, 122, 123, 124, 125, 126, 127, 128, 129, 130, 131, 132, 133, 134, 135, 136, 137, 138, 139, 140, 141, 142, 143, 144, 145, 146, 147, 148, 149, 150, 151, 152, 153, 154, 155, 156, 157, 158] (by decide +kernel) (by decide +kernel)
set_option maxRecDepth 20000 in
theorem gX12_skein_X12_isSkein : GoodIn wsX12_skein (wsV RX12 362 RX12 yX12_isSkein wsX12_isSkein) := goodIn_app (goodIn_of _ (by decide +kernel)) ggX12_skein_X12_isSkein
set_option maxRecDepth 20000 in
theorem ggX12_skein_X12_metres : GoodIn wsX12_skein wsX12_metres := goodIn_r _ [18, 19, 93, 94, 95, 96, 97, 98, 99, 100, 101, 102, 103, 104, 105, 106, 107, 108, 109, 110, 111, 112, 113, 114, 115, 116, 117, 118, 119, 120, 121, 122, 123, 124, 125, 126, 127, 128, 129, 130, 131, 132, 133, 134, 135, 136, 137, 138, 139, 140, 141, 142, 143, 144, 145, 146, 147, 148, 149, 150, 151, 152, 153, 154, 155, 156, 157, 158] (by decide +kernel) (by decide +kernel)
set_option maxRecDepth 20000 in
theorem gX12_skein_X12_metres : GoodIn wsX12_skein (wsV RX12 350 RX12 yX12_metres wsX12_metres) := goodIn_app (goodIn_of _ (by decide +kernel)) ggX12_skein_X12_metres
set_option maxRecDepth 20000 in
theorem ggX12_skein_X12_weightOf : GoodIn wsX12_skein wsX12_weightOf := goodIn_r _ [23, 19, 15, 16, 17, 9, 18, 24, 25, 26, 27, 28, 29, 30, 31, 32, 33, 34, 35, 36, 37, 38, 39, 40, 41, 42, 43, 44, 45, 46, 47, 48, 49, 50, 51, 52, 93, 94, 95, 96, 97, 98, 99, 100, 101, 102, 103, 104, 105, 106, 107, 108, 109, 110, 111, 112, 113, 114, 115, 116, 117, 118, 119, 120, 121, 122, 123, 124, 125, 126, 127, 128, 129, 130, 131, 132, 133, 134, 135, 136, 137, 138, 139, 140, 141, 142, 143, 144, 145, 146, 147, 148, 149, 150, 151, 152, 153, 154, 155, 156, 157, 158] (by decide +kernel) (by decide +kernel)
set_option maxRecDepth 20000 in
theorem gX12_skein_X12_weightOf : GoodIn wsX12_skein (wsV RX12 356 RX12 yX12_weightOf wsX12_weightOf) := goodIn_app (goodIn_of _ (by decide +kernel)) ggX12_skein_X12_weightOf
set_option maxRecDepth 20000 in
theorem ggX12_skein_X12_least : GoodIn wsX12_skein wsX12_least := goodIn_r _ [56, 19, 57, 58, 59, 60, 61, 62, 63, 28, 29, 30, 9, 31, 32, 33, 34, 35, 36, 37, 38, 39, 40, 41, 42, 43, 44, 45, 46, 47, 48, 49, 50, 51, 52, 93, 94, 95, 96, 97, 98, 99, 100, 101, 102, 103, 104, 105, 106, 107, 108, 109, 110, 111, 112, 113, 114, 115, 116, 117, 118, 119, 120, 121, 122, 123, 124, 125, 126, 127, 128, 129, 130, 131, 132, 133, 134, 135, 136, 137, 138, 139, 140, 141, 142, 143, 144, 145, 146, 147, 148, 149, 150, 151, 152, 153, 154, 155, 156, 157, 158] (by decide +kernel) (by decide +kernel)
set_option maxRecDepth 20000 in
theorem gX12_skein_X12_least : GoodIn wsX12_skein (wsV RX12 365 RX12 yX12_least wsX12_least) := goodIn_app (goodIn_of _ (by decide +kernel)) ggX12_skein_X12_least
set_option maxRecDepth 20000 in
theorem ggX12_skein_X12_slips : GoodIn wsX12_skein wsX12_slips := goodIn_r _ [67, 19, 68, 69, 59, 70, 28, 29, 30, 9, 31, 32, 33, 34, 35, 36, 37, 38, 39, 40, 41, 42, 43, 44, 45, 46, 47, 48, 49, 50, 51, 52, 93, 94, 95, 96, 97, 98, 99, 100, 101, 102, 103, 104, 105, 106, 107, 108, 109, 110, 111, 112, 113, 114, 115, 116, 117, 118, 119, 120, 121, 122, 123, 124, 125, 126, 127, 128, 129, 130, 131, 132, 133, 134, 135, 136, 137, 138, 139, 140, 141, 142, 143, 144, 145, 146, 147, 148, 149, 150, 151, 152, 153, 154, 155, 156, 157, 158] (by decide +kernel) (by decide +kernel)
set_option maxRecDepth 20000 in
theorem gX12_skein_X12_slips : GoodIn wsX12_skein (wsV RX12 369 RX12 yX12_slips wsX12_slips) := goodIn_app (goodIn_of _ (by decide +kernel)) ggX12_skein_X12_slips
set_option maxRecDepth 20000 in
theorem ggX12_skein_X12_pieces : GoodIn wsX12_skein wsX12_pieces := goodIn_r _ [74, 32, 19, 15, 16, 17, 9, 18, 75, 76, 77, 78, 33, 79, 80, 81, 82, 93, 94, 95, 96, 97, 98, 99, 100, 101, 102, 103, 104, 105, 106, 107, 108, 109, 110, 111, 112, 113, 114, 115, 116, 117, 118, 119, 120, 121, 122, 123, 124, 125, 126, 127, 128, 129, 130, 131, 132, 133, 134, 135, 136, 137, 138, 139, 140, 141, 142, 143, 144, 145, 146, 147, 148, 149, 150, 151, 152, 153, 154, 155, 156, 157, 158] (by decide +kernel) (by decide +kernel)
set_option maxRecDepth 20000 in
theorem gX12_skein_X12_pieces : GoodIn wsX12_skein (wsV RX12 372 RX12 yX12_pieces wsX12_pieces) := goodIn_app (goodIn_of _ (by decide +kernel)) ggX12_skein_X12_pieces
set_option maxRecDepth 20000 in
theorem ggX12_skein_X12_gradeOf : GoodIn wsX12_skein wsX12_gradeOf := goodIn_r _ [86, 87, 93, 94, 95, 96, 97, 98, 99, 100, 101, 102, 103, 104, 105, 106, 107, 108, 109, 110, 111, 112, 113, 114, 115, 116, 117, 118, 119, 120, 121, 122, 123, 124, 125, 126, 127, 128, 129, 130, 131, 132, 133, 134, 135, 136, 137, 138, 139, 140, 141, 142, 143, 144, 145, 146, 147, 148, 149, 150, 151, 152, 153, 154, 155, 156, 157, 158] (by decide +kernel) (by decide +kernel)
set_option maxRecDepth 20000 in
theorem gX12_skein_X12_gradeOf : GoodIn wsX12_skein (wsV RX12 359 RX12 yX12_gradeOf wsX12_gradeOf) := goodIn_app (goodIn_of _ (by decide +kernel)) ggX12_skein_X12_gradeOf
set_option maxRecDepth 20000 in
theorem ggX12_skein_X12_priceOf : GoodIn wsX12_skein wsX12_priceOf := goodIn_r _ [91, 92, 20, 21, 22, 9, 23, 19, 15, 16, 17, 18, 24, 25, 26, 27, 28, 29, 30, 31, 32, 33, 34, 35, 36, 37, 38, 39, 40, 41, 42, 43, 44, 45, 46, 47, 48, 49, 50, 51, 52, 83, 84, 85, 86, 87, 93, 94, 95, 96, 97, 98, 99, 100, 101, 102, 103, 104, 105, 106, 107, 108, 109, 110, 111, 112, 113, 114, 115, 116, 117, 118, 119, 120, 121, 122, 123, 124, 125, 126, 127, 128, 129, 130, 131, 132, 133, 134, 135, 136, 137, 138, 139, 140, 141, 142, 143, 144, 145, 146, 147, 148, 149, 150, 151, 152, 153, 154, 155, 156, 157, 158] (by decide +kernel) (by decide +kernel)
set_option maxRecDepth 20000 in
theorem gX12_skein_X12_priceOf : GoodIn wsX12_skein (wsV RX12 375 RX12 yX12_priceOf wsX12_priceOf) := goodIn_app (goodIn_of _ (by decide +kernel)) ggX12_skein_X12_priceOf
theorem dX12_skein_0 : decode cX12_skein 0 = .ok (.aload_n 0, 1) := by decide +kernel
theorem dX12_skein_1 : decode cX12_skein 1 = .ok (.iconst 0, 1) := by decide +kernel
theorem dX12_skein_2 : decode cX12_skein 2 = .ok (.putfield 161, 3) := by decide +kernel
theorem dX12_skein_5 : decode cX12_skein 5 = .ok (.aload_n 0, 1) := by decide +kernel
theorem dX12_skein_6 : decode cX12_skein 6 = .ok (.iload_n 1, 1) := by decide +kernel
theorem dX12_skein_7 : decode cX12_skein 7 = .ok (.invokevirtual 362, 3) := by decide +kernel
theorem dX12_skein_10 : decode cX12_skein 10 = .ok (.ifCond .ne 5, 3) := by decide +kernel
theorem dX12_skein_13 : decode cX12_skein 13 = .ok (.iconst (-1), 1) := by decide +kernel
theorem dX12_skein_14 : decode cX12_skein 14 = .ok (.ireturn, 1) := by decide +kernel
theorem dX12_skein_15 : decode cX12_skein 15 = .ok (.iload_n 2, 1) := by decide +kernel
theorem dX12_skein_16 : decode cX12_skein 16 = .ok (.tableswitch 152 0 11 #[64, 71, 78, 84, 90, 90, 106, 112, 118, 124, 139, 145], 64) := by decide +kernel
theorem dX12_skein_80 : decode cX12_skein 80 = .ok (.aload_n 0, 1) := by decide +kernel
theorem dX12_skein_81 : decode cX12_skein 81 = .ok (.getfield 103, 3) := by decide +kernel
theorem dX12_skein_84 : decode cX12_skein 84 = .ok (.iload_n 1, 1) := by decide +kernel
theorem dX12_skein_85 : decode cX12_skein 85 = .ok (.iaload, 1) := by decide +kernel
theorem dX12_skein_86 : decode cX12_skein 86 = .ok (.ireturn, 1) := by decide +kernel
theorem dX12_skein_87 : decode cX12_skein 87 = .ok (.aload_n 0, 1) := by decide +kernel
theorem dX12_skein_88 : decode cX12_skein 88 = .ok (.getfield 106, 3) := by decide +kernel
theorem dX12_skein_91 : decode cX12_skein 91 = .ok (.iload_n 1, 1) := by decide +kernel
theorem dX12_skein_92 : decode cX12_skein 92 = .ok (.iaload, 1) := by decide +kernel
theorem dX12_skein_93 : decode cX12_skein 93 = .ok (.ireturn, 1) := by decide +kernel
theorem dX12_skein_94 : decode cX12_skein 94 = .ok (.aload_n 0, 1) := by decide +kernel
theorem dX12_skein_95 : decode cX12_skein 95 = .ok (.iload_n 1, 1) := by decide +kernel
theorem dX12_skein_96 : decode cX12_skein 96 = .ok (.invokevirtual 350, 3) := by decide +kernel
theorem dX12_skein_99 : decode cX12_skein 99 = .ok (.ireturn, 1) := by decide +kernel
theorem dX12_skein_100 : decode cX12_skein 100 = .ok (.aload_n 0, 1) := by decide +kernel
theorem dX12_skein_101 : decode cX12_skein 101 = .ok (.iload_n 1, 1) := by decide +kernel
theorem dX12_skein_102 : decode cX12_skein 102 = .ok (.invokevirtual 356, 3) := by decide +kernel
theorem dX12_skein_105 : decode cX12_skein 105 = .ok (.ireturn, 1) := by decide +kernel
theorem dX12_skein_106 : decode cX12_skein 106 = .ok (.aload_n 0, 1) := by decide +kernel
theorem dX12_skein_107 : decode cX12_skein 107 = .ok (.iload_n 1, 1) := by decide +kernel
theorem dX12_skein_108 : decode cX12_skein 108 = .ok (.iload_n 2, 1) := by decide +kernel
theorem dX12_skein_109 : decode cX12_skein 109 = .ok (.iconst 5, 1) := by decide +kernel
theorem dX12_skein_110 : decode cX12_skein 110 = .ok (.if_icmp .ne 7, 3) := by decide +kernel
theorem dX12_skein_113 : decode cX12_skein 113 = .ok (.iconst 1, 1) := by decide +kernel
theorem dX12_skein_114 : decode cX12_skein 114 = .ok (.goto 4, 3) := by decide +kernel
theorem dX12_skein_117 : decode cX12_skein 117 = .ok (.iconst 0, 1) := by decide +kernel
theorem dX12_skein_118 : decode cX12_skein 118 = .ok (.invokevirtual 365, 3) := by decide +kernel
theorem dX12_skein_121 : decode cX12_skein 121 = .ok (.ireturn, 1) := by decide +kernel
theorem dX12_skein_122 : decode cX12_skein 122 = .ok (.aload_n 0, 1) := by decide +kernel
theorem dX12_skein_123 : decode cX12_skein 123 = .ok (.iload_n 1, 1) := by decide +kernel
theorem dX12_skein_124 : decode cX12_skein 124 = .ok (.invokevirtual 369, 3) := by decide +kernel
theorem dX12_skein_127 : decode cX12_skein 127 = .ok (.ireturn, 1) := by decide +kernel
theorem dX12_skein_128 : decode cX12_skein 128 = .ok (.aload_n 0, 1) := by decide +kernel
theorem dX12_skein_129 : decode cX12_skein 129 = .ok (.iload_n 1, 1) := by decide +kernel
theorem dX12_skein_130 : decode cX12_skein 130 = .ok (.invokevirtual 372, 3) := by decide +kernel
theorem dX12_skein_133 : decode cX12_skein 133 = .ok (.ireturn, 1) := by decide +kernel
theorem dX12_skein_134 : decode cX12_skein 134 = .ok (.aload_n 0, 1) := by decide +kernel
theorem dX12_skein_135 : decode cX12_skein 135 = .ok (.iload_n 1, 1) := by decide +kernel
theorem dX12_skein_136 : decode cX12_skein 136 = .ok (.invokevirtual 359, 3) := by decide +kernel
theorem dX12_skein_139 : decode cX12_skein 139 = .ok (.ireturn, 1) := by decide +kernel
theorem dX12_skein_140 : decode cX12_skein 140 = .ok (.aload_n 0, 1) := by decide +kernel
theorem dX12_skein_141 : decode cX12_skein 141 = .ok (.getfield 115, 3) := by decide +kernel
theorem dX12_skein_144 : decode cX12_skein 144 = .ok (.iload_n 1, 1) := by decide +kernel
theorem dX12_skein_145 : decode cX12_skein 145 = .ok (.baload, 1) := by decide +kernel
theorem dX12_skein_146 : decode cX12_skein 146 = .ok (.ifCond .eq 7, 3) := by decide +kernel
theorem dX12_skein_149 : decode cX12_skein 149 = .ok (.iconst 1, 1) := by decide +kernel
theorem dX12_skein_150 : decode cX12_skein 150 = .ok (.goto 4, 3) := by decide +kernel
theorem dX12_skein_153 : decode cX12_skein 153 = .ok (.iconst 0, 1) := by decide +kernel
theorem dX12_skein_154 : decode cX12_skein 154 = .ok (.ireturn, 1) := by decide +kernel
theorem dX12_skein_155 : decode cX12_skein 155 = .ok (.aload_n 0, 1) := by decide +kernel
theorem dX12_skein_156 : decode cX12_skein 156 = .ok (.iload_n 1, 1) := by decide +kernel
theorem dX12_skein_157 : decode cX12_skein 157 = .ok (.invokevirtual 375, 3) := by decide +kernel
theorem dX12_skein_160 : decode cX12_skein 160 = .ok (.ireturn, 1) := by decide +kernel
theorem dX12_skein_161 : decode cX12_skein 161 = .ok (.aload_n 0, 1) := by decide +kernel
theorem dX12_skein_162 : decode cX12_skein 162 = .ok (.getfield 109, 3) := by decide +kernel
theorem dX12_skein_165 : decode cX12_skein 165 = .ok (.iload_n 1, 1) := by decide +kernel
theorem dX12_skein_166 : decode cX12_skein 166 = .ok (.iaload, 1) := by decide +kernel
theorem dX12_skein_167 : decode cX12_skein 167 = .ok (.ireturn, 1) := by decide +kernel
theorem dX12_skein_168 : decode cX12_skein 168 = .ok (.iconst (-1), 1) := by decide +kernel
theorem dX12_skein_169 : decode cX12_skein 169 = .ok (.ireturn, 1) := by decide +kernel
set_option maxRecDepth 20000 in
theorem ggX12_piece_X12_isSkein : GoodIn wsX12_piece wsX12_isSkein := goodIn_r _ [9, 10, 11, 12, 8, 13, 30, 31, 32, 33, 34, 35, 36, 37, 38, 39, 40, 41, 42, 43, 44, 45, 46, 47, 48, 49, 50, 51, 52, 53, 54, 55, 56, 57, 58, 59, 60, 61, 62, 63, 64, 65, 66, 67, 68, 69, 70, 71, 72, 73, 74, 75, 76, 77, 78, 79, 80, 81, 82, 83, 84, 85, 86, 87, 88, 89, 90, 91, 92, 93, 94, 95] (by decide +kernel) (by decide +kernel)
set_option maxRecDepth 20000 in
theorem gX12_piece_X12_isSkein : GoodIn wsX12_piece (wsV RX12 362 RX12 yX12_isSkein wsX12_isSkein) := goodIn_app (goodIn_of _ (by decide +kernel)) ggX12_piece_X12_isSkein
set_option maxRecDepth 20000 in
theorem ggX12_piece_X12_within : GoodIn wsX12_piece wsX12_within := goodIn_r _ [13] (by decide +kernel) (by decide +kernel)
set_option maxRecDepth 20000 in
theorem gX12_piece_X12_within : GoodIn wsX12_piece (va_wsS RX12 168 yX12_within wsX12_within) := goodIn_app (goodIn_of _ (by decide +kernel)) ggX12_piece_X12_within
set_option maxRecDepth 20000 in
theorem ggX12_piece_X12_metres : GoodIn wsX12_piece wsX12_metres := goodIn_r _ [17, 3, 30, 31, 32, 33, 34, 35, 36, 37, 38, 39, 40, 41, 42, 43, 44, 45, 46, 47, 48, 49, 50, 51, 52, 53, 54, 55, 56, 57, 58, 59, 60, 61, 62, 63, 64, 65, 66, 67, 68, 69, 70, 71, 72, 73, 74, 75, 76, 77, 78, 79, 80, 81, 82, 83, 84, 85, 86, 87, 88, 89, 90, 91, 92, 93, 94, 95] (by decide +kernel) (by decide +kernel)
set_option maxRecDepth 20000 in
theorem gX12_piece_X12_metres : GoodIn wsX12_piece (wsV RX12 350 RX12 yX12_metres wsX12_metres) := goodIn_app (goodIn_of _ (by decide +kernel)) ggX12_piece_X12_metres
set_option maxRecDepth 20000 in
theorem ggX12_piece_X12_begins : GoodIn wsX12_piece wsX12_begins := goodIn_r _ [21, 3, 4, 22, 23, 24, 8, 25, 2, 30, 31, 32, 33, 34, 35, 36, 37, 38, 39, 40, 41, 42, 43, 44, 45, 46, 47, 48, 49, 50, 51, 52, 53, 54, 55, 56, 57, 58, 59, 60, 61, 62, 63, 64, 65, 66, 67, 68, 69, 70, 71, 72, 73, 74, 75, 76, 77, 78, 79, 80, 81, 82, 83, 84, 85, 86, 87, 88, 89, 90, 91, 92, 93, 94, 95] (by decide +kernel) (by decide +kernel)
set_option maxRecDepth 20000 in
theorem gX12_piece_X12_begins : GoodIn wsX12_piece (wsV RX12 353 RX12 yX12_begins wsX12_begins) := goodIn_app (goodIn_of _ (by decide +kernel)) ggX12_piece_X12_begins
set_option maxRecDepth 20000 in
theorem ggX12_piece_X12_told : GoodIn wsX12_piece wsX12_told := goodIn_r _ [29, 3, 14, 15, 16, 8, 17, 22, 23, 24, 25, 2, 4, 30, 31, 32, 33, 34, 35, 36, 37, 38, 39, 40, 41, 42, 43, 44, 45, 46, 47, 48, 49, 50, 51, 52, 53, 54, 55, 56, 57, 58, 59, 60, 61, 62, 63, 64, 65, 66, 67, 68, 69, 70, 71, 72, 73, 74, 75, 76, 77, 78, 79, 80, 81, 82, 83, 84, 85, 86, 87, 88, 89, 90, 91, 92, 93, 94, 95] (by decide +kernel) (by decide +kernel)
set_option maxRecDepth 20000 in
theorem gX12_piece_X12_told : GoodIn wsX12_piece (wsV RX12 378 RX12 yX12_told wsX12_told) := goodIn_app (goodIn_of _ (by decide +kernel)) ggX12_piece_X12_told
theorem dX12_piece_0 : decode cX12_piece 0 = .ok (.aload_n 0, 1) := by decide +kernel
theorem dX12_piece_1 : decode cX12_piece 1 = .ok (.iconst 0, 1) := by decide +kernel
theorem dX12_piece_2 : decode cX12_piece 2 = .ok (.putfield 161, 3) := by decide +kernel
theorem dX12_piece_5 : decode cX12_piece 5 = .ok (.aload_n 0, 1) := by decide +kernel
theorem dX12_piece_6 : decode cX12_piece 6 = .ok (.iload_n 1, 1) := by decide +kernel
theorem dX12_piece_7 : decode cX12_piece 7 = .ok (.invokevirtual 362, 3) := by decide +kernel
theorem dX12_piece_10 : decode cX12_piece 10 = .ok (.ifCond .eq 16, 3) := by decide +kernel
theorem dX12_piece_13 : decode cX12_piece 13 = .ok (.iload_n 2, 1) := by decide +kernel
theorem dX12_piece_14 : decode cX12_piece 14 = .ok (.ifCond .lt 12, 3) := by decide +kernel
theorem dX12_piece_17 : decode cX12_piece 17 = .ok (.iload_n 3, 1) := by decide +kernel
theorem dX12_piece_18 : decode cX12_piece 18 = .ok (.iconst 0, 1) := by decide +kernel
theorem dX12_piece_19 : decode cX12_piece 19 = .ok (.iconst 4, 1) := by decide +kernel
theorem dX12_piece_20 : decode cX12_piece 20 = .ok (.invokestatic 168, 3) := by decide +kernel
theorem dX12_piece_23 : decode cX12_piece 23 = .ok (.ifCond .ne 5, 3) := by decide +kernel
theorem dX12_piece_26 : decode cX12_piece 26 = .ok (.iconst (-1), 1) := by decide +kernel
theorem dX12_piece_27 : decode cX12_piece 27 = .ok (.ireturn, 1) := by decide +kernel
theorem dX12_piece_28 : decode cX12_piece 28 = .ok (.iload_n 2, 1) := by decide +kernel
theorem dX12_piece_29 : decode cX12_piece 29 = .ok (.istore 4, 2) := by decide +kernel
theorem dX12_piece_31 : decode cX12_piece 31 = .ok (.iconst 0, 1) := by decide +kernel
theorem dX12_piece_32 : decode cX12_piece 32 = .ok (.istore 5, 2) := by decide +kernel
theorem dX12_piece_34 : decode cX12_piece 34 = .ok (.iload 5, 2) := by decide +kernel
theorem dX12_piece_36 : decode cX12_piece 36 = .ok (.aload_n 0, 1) := by decide +kernel
theorem dX12_piece_37 : decode cX12_piece 37 = .ok (.iload_n 1, 1) := by decide +kernel
theorem dX12_piece_38 : decode cX12_piece 38 = .ok (.invokevirtual 350, 3) := by decide +kernel
theorem dX12_piece_41 : decode cX12_piece 41 = .ok (.if_icmp .ge 89, 3) := by decide +kernel
theorem dX12_piece_44 : decode cX12_piece 44 = .ok (.iconst 0, 1) := by decide +kernel
theorem dX12_piece_45 : decode cX12_piece 45 = .ok (.istore 6, 2) := by decide +kernel
theorem dX12_piece_47 : decode cX12_piece 47 = .ok (.iload 6, 2) := by decide +kernel
theorem dX12_piece_49 : decode cX12_piece 49 = .ok (.aload_n 0, 1) := by decide +kernel
theorem dX12_piece_50 : decode cX12_piece 50 = .ok (.getfield 90, 3) := by decide +kernel
theorem dX12_piece_53 : decode cX12_piece 53 = .ok (.aload_n 0, 1) := by decide +kernel
theorem dX12_piece_54 : decode cX12_piece 54 = .ok (.getfield 100, 3) := by decide +kernel
theorem dX12_piece_57 : decode cX12_piece 57 = .ok (.iload_n 1, 1) := by decide +kernel
theorem dX12_piece_58 : decode cX12_piece 58 = .ok (.iaload, 1) := by decide +kernel
theorem dX12_piece_59 : decode cX12_piece 59 = .ok (.iload 5, 2) := by decide +kernel
theorem dX12_piece_61 : decode cX12_piece 61 = .ok (.iadd, 1) := by decide +kernel
theorem dX12_piece_62 : decode cX12_piece 62 = .ok (.iaload, 1) := by decide +kernel
theorem dX12_piece_63 : decode cX12_piece 63 = .ok (.if_icmp .ge 61, 3) := by decide +kernel
theorem dX12_piece_66 : decode cX12_piece 66 = .ok (.aload_n 0, 1) := by decide +kernel
theorem dX12_piece_67 : decode cX12_piece 67 = .ok (.iload_n 1, 1) := by decide +kernel
theorem dX12_piece_68 : decode cX12_piece 68 = .ok (.iload 5, 2) := by decide +kernel
theorem dX12_piece_70 : decode cX12_piece 70 = .ok (.iload 6, 2) := by decide +kernel
theorem dX12_piece_72 : decode cX12_piece 72 = .ok (.invokevirtual 353, 3) := by decide +kernel
theorem dX12_piece_75 : decode cX12_piece 75 = .ok (.ifCond .ne 6, 3) := by decide +kernel
theorem dX12_piece_78 : decode cX12_piece 78 = .ok (.goto 40, 3) := by decide +kernel
theorem dX12_piece_81 : decode cX12_piece 81 = .ok (.iload 4, 2) := by decide +kernel
theorem dX12_piece_83 : decode cX12_piece 83 = .ok (.ifCond .ne 32, 3) := by decide +kernel
theorem dX12_piece_86 : decode cX12_piece 86 = .ok (.aload_n 0, 1) := by decide +kernel
theorem dX12_piece_87 : decode cX12_piece 87 = .ok (.iload_n 1, 1) := by decide +kernel
theorem dX12_piece_88 : decode cX12_piece 88 = .ok (.iload 5, 2) := by decide +kernel
theorem dX12_piece_90 : decode cX12_piece 90 = .ok (.aload_n 0, 1) := by decide +kernel
theorem dX12_piece_91 : decode cX12_piece 91 = .ok (.getfield 94, 3) := by decide +kernel
theorem dX12_piece_94 : decode cX12_piece 94 = .ok (.bipush 12, 2) := by decide +kernel
theorem dX12_piece_96 : decode cX12_piece 96 = .ok (.aload_n 0, 1) := by decide +kernel
theorem dX12_piece_97 : decode cX12_piece 97 = .ok (.getfield 100, 3) := by decide +kernel
theorem dX12_piece_100 : decode cX12_piece 100 = .ok (.iload_n 1, 1) := by decide +kernel
theorem dX12_piece_101 : decode cX12_piece 101 = .ok (.iaload, 1) := by decide +kernel
theorem dX12_piece_102 : decode cX12_piece 102 = .ok (.iload 5, 2) := by decide +kernel
theorem dX12_piece_104 : decode cX12_piece 104 = .ok (.iadd, 1) := by decide +kernel
theorem dX12_piece_105 : decode cX12_piece 105 = .ok (.imul, 1) := by decide +kernel
theorem dX12_piece_106 : decode cX12_piece 106 = .ok (.iload 6, 2) := by decide +kernel
theorem dX12_piece_108 : decode cX12_piece 108 = .ok (.iadd, 1) := by decide +kernel
theorem dX12_piece_109 : decode cX12_piece 109 = .ok (.iaload, 1) := by decide +kernel
theorem dX12_piece_110 : decode cX12_piece 110 = .ok (.iload_n 3, 1) := by decide +kernel
theorem dX12_piece_111 : decode cX12_piece 111 = .ok (.invokevirtual 378, 3) := by decide +kernel
theorem dX12_piece_114 : decode cX12_piece 114 = .ok (.ireturn, 1) := by decide +kernel
theorem dX12_piece_115 : decode cX12_piece 115 = .ok (.iinc 4 (-1), 3) := by decide +kernel
theorem dX12_piece_118 : decode cX12_piece 118 = .ok (.iinc 6 1, 3) := by decide +kernel
theorem dX12_piece_121 : decode cX12_piece 121 = .ok (.goto (-74), 3) := by decide +kernel
theorem dX12_piece_124 : decode cX12_piece 124 = .ok (.iinc 5 1, 3) := by decide +kernel
theorem dX12_piece_127 : decode cX12_piece 127 = .ok (.goto (-93), 3) := by decide +kernel
theorem dX12_piece_130 : decode cX12_piece 130 = .ok (.iconst (-1), 1) := by decide +kernel
theorem dX12_piece_131 : decode cX12_piece 131 = .ok (.ireturn, 1) := by decide +kernel
set_option maxRecDepth 20000 in
theorem ggX12_told_X12_metres : GoodIn wsX12_told wsX12_metres := goodIn_r _ [6, 1, 13, 14, 15, 16, 17, 18, 19, 20, 21, 22, 23, 24, 25, 26, 27, 28, 29, 30, 31, 32, 33, 34, 35, 36, 37, 38, 39, 40, 41, 42, 43, 44, 45, 46, 47, 48, 49, 50, 51, 52, 53, 54, 55, 56, 57, 58, 59, 60, 61, 62, 63, 64, 65, 66, 67, 68, 69, 70, 71, 72, 73, 74, 75, 76, 77, 78] (by decide +kernel) (by decide +kernel)
set_option maxRecDepth 20000 in
theorem gX12_told_X12_metres : GoodIn wsX12_told (wsV RX12 350 RX12 yX12_metres wsX12_metres) := goodIn_app (goodIn_of _ (by decide +kernel)) ggX12_told_X12_metres
set_option maxRecDepth 20000 in
theorem ggX12_told_X12_endOf : GoodIn wsX12_told wsX12_endOf := goodIn_r _ [10, 11, 12, 13, 14, 15, 16, 17, 18, 19, 20, 21, 22, 23, 24, 25, 26, 27, 28, 29, 30, 31, 32, 33, 34, 35, 36, 37, 38, 39, 40, 41, 42, 43, 44, 45, 46, 47, 48, 49, 50, 51, 52, 53, 54, 55, 56, 57, 58, 59, 60, 61, 62, 63, 64, 65, 66, 67, 68, 69, 70, 71, 72, 73, 74, 75, 76, 77, 78] (by decide +kernel) (by decide +kernel)
set_option maxRecDepth 20000 in
theorem gX12_told_X12_endOf : GoodIn wsX12_told (wsV RX12 336 RX12 yX12_endOf wsX12_endOf) := goodIn_app (goodIn_of _ (by decide +kernel)) ggX12_told_X12_endOf
theorem dX12_told_0 : decode cX12_told 0 = .ok (.iload_n 3, 1) := by decide +kernel
theorem dX12_told_1 : decode cX12_told 1 = .ok (.sipush 1000, 3) := by decide +kernel
theorem dX12_told_4 : decode cX12_told 4 = .ok (.idiv, 1) := by decide +kernel
theorem dX12_told_5 : decode cX12_told 5 = .ok (.istore 5, 2) := by decide +kernel
theorem dX12_told_7 : decode cX12_told 7 = .ok (.iload 4, 2) := by decide +kernel
theorem dX12_told_9 : decode cX12_told 9 = .ok (.tableswitch 55 0 4 #[35, 41, 47, 55, 49], 35) := by decide +kernel
theorem dX12_told_44 : decode cX12_told 44 = .ok (.iload 5, 2) := by decide +kernel
theorem dX12_told_46 : decode cX12_told 46 = .ok (.bipush 60, 2) := by decide +kernel
theorem dX12_told_48 : decode cX12_told 48 = .ok (.idiv, 1) := by decide +kernel
theorem dX12_told_49 : decode cX12_told 49 = .ok (.ireturn, 1) := by decide +kernel
theorem dX12_told_50 : decode cX12_told 50 = .ok (.iload 5, 2) := by decide +kernel
theorem dX12_told_52 : decode cX12_told 52 = .ok (.bipush 60, 2) := by decide +kernel
theorem dX12_told_54 : decode cX12_told 54 = .ok (.irem, 1) := by decide +kernel
theorem dX12_told_55 : decode cX12_told 55 = .ok (.ireturn, 1) := by decide +kernel
theorem dX12_told_56 : decode cX12_told 56 = .ok (.iload_n 2, 1) := by decide +kernel
theorem dX12_told_57 : decode cX12_told 57 = .ok (.ireturn, 1) := by decide +kernel
theorem dX12_told_58 : decode cX12_told 58 = .ok (.iload_n 3, 1) := by decide +kernel
theorem dX12_told_59 : decode cX12_told 59 = .ok (.sipush 1000, 3) := by decide +kernel
theorem dX12_told_62 : decode cX12_told 62 = .ok (.irem, 1) := by decide +kernel
theorem dX12_told_63 : decode cX12_told 63 = .ok (.ireturn, 1) := by decide +kernel
theorem dX12_told_64 : decode cX12_told 64 = .ok (.iconst 1, 1) := by decide +kernel
theorem dX12_told_65 : decode cX12_told 65 = .ok (.istore 6, 2) := by decide +kernel
theorem dX12_told_67 : decode cX12_told 67 = .ok (.iload_n 2, 1) := by decide +kernel
theorem dX12_told_68 : decode cX12_told 68 = .ok (.iload 6, 2) := by decide +kernel
theorem dX12_told_70 : decode cX12_told 70 = .ok (.iadd, 1) := by decide +kernel
theorem dX12_told_71 : decode cX12_told 71 = .ok (.aload_n 0, 1) := by decide +kernel
theorem dX12_told_72 : decode cX12_told 72 = .ok (.iload_n 1, 1) := by decide +kernel
theorem dX12_told_73 : decode cX12_told 73 = .ok (.invokevirtual 350, 3) := by decide +kernel
theorem dX12_told_76 : decode cX12_told 76 = .ok (.if_icmp .ge 30, 3) := by decide +kernel
theorem dX12_told_79 : decode cX12_told 79 = .ok (.aload_n 0, 1) := by decide +kernel
theorem dX12_told_80 : decode cX12_told 80 = .ok (.aload_n 0, 1) := by decide +kernel
theorem dX12_told_81 : decode cX12_told 81 = .ok (.getfield 100, 3) := by decide +kernel
theorem dX12_told_84 : decode cX12_told 84 = .ok (.iload_n 1, 1) := by decide +kernel
theorem dX12_told_85 : decode cX12_told 85 = .ok (.iaload, 1) := by decide +kernel
theorem dX12_told_86 : decode cX12_told 86 = .ok (.iload_n 2, 1) := by decide +kernel
theorem dX12_told_87 : decode cX12_told 87 = .ok (.iadd, 1) := by decide +kernel
theorem dX12_told_88 : decode cX12_told 88 = .ok (.iload 6, 2) := by decide +kernel
theorem dX12_told_90 : decode cX12_told 90 = .ok (.iadd, 1) := by decide +kernel
theorem dX12_told_91 : decode cX12_told 91 = .ok (.iload 5, 2) := by decide +kernel
theorem dX12_told_93 : decode cX12_told 93 = .ok (.invokevirtual 336, 3) := by decide +kernel
theorem dX12_told_96 : decode cX12_told 96 = .ok (.iconst (-1), 1) := by decide +kernel
theorem dX12_told_97 : decode cX12_told 97 = .ok (.if_icmp .eq 9, 3) := by decide +kernel
theorem dX12_told_100 : decode cX12_told 100 = .ok (.iinc 6 1, 3) := by decide +kernel
theorem dX12_told_103 : decode cX12_told 103 = .ok (.goto (-36), 3) := by decide +kernel
theorem dX12_told_106 : decode cX12_told 106 = .ok (.iload 6, 2) := by decide +kernel
theorem dX12_told_108 : decode cX12_told 108 = .ok (.ireturn, 1) := by decide +kernel
set_option maxRecDepth 20000 in
theorem ggX12_mix_X12_least : GoodIn wsX12_mix wsX12_least := goodIn_r _ [12, 13, 14, 15, 16, 17, 18, 19, 20, 21, 22, 23, 11, 24, 25, 26, 27, 28, 29, 30, 31, 32, 33, 34, 35, 36, 37, 38, 39, 40, 41, 42, 43, 44, 45, 68, 69, 70, 71, 72, 73, 74, 75, 76, 77, 78, 79, 80, 81, 82, 83, 84, 85, 86, 87, 88, 89, 90, 91, 92, 93, 94, 95, 96, 97, 98, 99, 100, 101, 102, 103, 104, 105, 106, 107, 108, 109, 110, 111, 112, 113, 114, 115, 116, 117, 118, 119, 120, 121, 122, 123, 124, 125, 126, 127, 128, 129, 130, 131, 132, 133] (by decide +kernel) (by decide +kernel)
set_option maxRecDepth 20000 in
theorem gX12_mix_X12_least : GoodIn wsX12_mix (wsV RX12 365 RX12 yX12_least wsX12_least) := goodIn_app (goodIn_of _ (by decide +kernel)) ggX12_mix_X12_least
set_option maxRecDepth 20000 in
theorem ggX12_mix_X12_weightOf : GoodIn wsX12_mix wsX12_weightOf := goodIn_r _ [49, 13, 50, 51, 52, 11, 53, 54, 55, 56, 57, 21, 22, 23, 24, 25, 26, 27, 28, 29, 30, 31, 32, 33, 34, 35, 36, 37, 38, 39, 40, 41, 42, 43, 44, 45, 68, 69, 70, 71, 72, 73, 74, 75, 76, 77, 78, 79, 80, 81, 82, 83, 84, 85, 86, 87, 88, 89, 90, 91, 92, 93, 94, 95, 96, 97, 98, 99, 100, 101, 102, 103, 104, 105, 106, 107, 108, 109, 110, 111, 112, 113, 114, 115, 116, 117, 118, 119, 120, 121, 122, 123, 124, 125, 126, 127, 128, 129, 130, 131, 132, 133] (by decide +kernel) (by decide +kernel)
set_option maxRecDepth 20000 in
theorem gX12_mix_X12_weightOf : GoodIn wsX12_mix (wsV RX12 356 RX12 yX12_weightOf wsX12_weightOf) := goodIn_app (goodIn_of _ (by decide +kernel)) ggX12_mix_X12_weightOf
set_option maxRecDepth 20000 in
theorem ggX12_mix_X12_priceOf : GoodIn wsX12_mix wsX12_priceOf := goodIn_r _ [61, 62, 46, 47, 48, 11, 49, 13, 50, 51, 52, 53, 54, 55, 56, 57, 21, 22, 23, 24, 25, 26, 27, 28, 29, 30, 31, 32, 33, 34, 35, 36, 37, 38, 39, 40, 41, 42, 43, 44, 45, 63, 64, 65, 66, 67, 68, 69, 70, 71, 72, 73, 74, 75, 76, 77, 78, 79, 80, 81, 82, 83, 84, 85, 86, 87, 88, 89, 90, 91, 92, 93, 94, 95, 96, 97, 98, 99, 100, 101, 102, 103, 104, 105, 106, 107, 108, 109, 110, 111, 112, 113, 114, 115, 116, 117, 118, 119, 120, 121, 122, 123, 124, 125, 126, 127, 128, 129, 130, 131, 132, 133] (by decide +kernel) (by decide +kernel)
set_option maxRecDepth 20000 in
theorem gX12_mix_X12_priceOf : GoodIn wsX12_mix (wsV RX12 375 RX12 yX12_priceOf wsX12_priceOf) := goodIn_app (goodIn_of _ (by decide +kernel)) ggX12_mix_X12_priceOf
theorem dX12_mix_0 : decode cX12_mix 0 = .ok (.aload_n 0, 1) := by decide +kernel
theorem dX12_mix_1 : decode cX12_mix 1 = .ok (.iconst 0, 1) := by decide +kernel
theorem dX12_mix_2 : decode cX12_mix 2 = .ok (.putfield 161, 3) := by decide +kernel
theorem dX12_mix_5 : decode cX12_mix 5 = .ok (.iconst 0, 1) := by decide +kernel
theorem dX12_mix_6 : decode cX12_mix 6 = .ok (.istore 5, 2) := by decide +kernel
theorem dX12_mix_8 : decode cX12_mix 8 = .ok (.iconst 0, 1) := by decide +kernel
theorem dX12_mix_9 : decode cX12_mix 9 = .ok (.istore 6, 2) := by decide +kernel
theorem dX12_mix_11 : decode cX12_mix 11 = .ok (.iload 6, 2) := by decide +kernel
theorem dX12_mix_13 : decode cX12_mix 13 = .ok (.aload_n 0, 1) := by decide +kernel
theorem dX12_mix_14 : decode cX12_mix 14 = .ok (.getfield 290, 3) := by decide +kernel
theorem dX12_mix_17 : decode cX12_mix 17 = .ok (.if_icmp .ge 93, 3) := by decide +kernel
theorem dX12_mix_20 : decode cX12_mix 20 = .ok (.iload 5, 2) := by decide +kernel
theorem dX12_mix_22 : decode cX12_mix 22 = .ok (.bipush 14, 2) := by decide +kernel
theorem dX12_mix_24 : decode cX12_mix 24 = .ok (.if_icmp .ge 86, 3) := by decide +kernel
theorem dX12_mix_27 : decode cX12_mix 27 = .ok (.iload_n 1, 1) := by decide +kernel
theorem dX12_mix_28 : decode cX12_mix 28 = .ok (.ifCond .le 82, 3) := by decide +kernel
theorem dX12_mix_31 : decode cX12_mix 31 = .ok (.aload_n 0, 1) := by decide +kernel
theorem dX12_mix_32 : decode cX12_mix 32 = .ok (.getfield 115, 3) := by decide +kernel
theorem dX12_mix_35 : decode cX12_mix 35 = .ok (.iload 6, 2) := by decide +kernel
theorem dX12_mix_37 : decode cX12_mix 37 = .ok (.baload, 1) := by decide +kernel
theorem dX12_mix_38 : decode cX12_mix 38 = .ok (.ifCond .ne 66, 3) := by decide +kernel
theorem dX12_mix_41 : decode cX12_mix 41 = .ok (.aload_n 0, 1) := by decide +kernel
theorem dX12_mix_42 : decode cX12_mix 42 = .ok (.iload 6, 2) := by decide +kernel
theorem dX12_mix_44 : decode cX12_mix 44 = .ok (.iconst 0, 1) := by decide +kernel
theorem dX12_mix_45 : decode cX12_mix 45 = .ok (.invokevirtual 365, 3) := by decide +kernel
theorem dX12_mix_48 : decode cX12_mix 48 = .ok (.iload_n 2, 1) := by decide +kernel
theorem dX12_mix_49 : decode cX12_mix 49 = .ok (.if_icmp .lt 55, 3) := by decide +kernel
theorem dX12_mix_52 : decode cX12_mix 52 = .ok (.aload_n 0, 1) := by decide +kernel
theorem dX12_mix_53 : decode cX12_mix 53 = .ok (.iload 6, 2) := by decide +kernel
theorem dX12_mix_55 : decode cX12_mix 55 = .ok (.iconst 1, 1) := by decide +kernel
theorem dX12_mix_56 : decode cX12_mix 56 = .ok (.invokevirtual 365, 3) := by decide +kernel
theorem dX12_mix_59 : decode cX12_mix 59 = .ok (.iload_n 3, 1) := by decide +kernel
theorem dX12_mix_60 : decode cX12_mix 60 = .ok (.if_icmp .le 6, 3) := by decide +kernel
theorem dX12_mix_63 : decode cX12_mix 63 = .ok (.goto 41, 3) := by decide +kernel
theorem dX12_mix_66 : decode cX12_mix 66 = .ok (.aload_n 0, 1) := by decide +kernel
theorem dX12_mix_67 : decode cX12_mix 67 = .ok (.getfield 140, 3) := by decide +kernel
theorem dX12_mix_70 : decode cX12_mix 70 = .ok (.iload 5, 2) := by decide +kernel
theorem dX12_mix_72 : decode cX12_mix 72 = .ok (.iload 6, 2) := by decide +kernel
theorem dX12_mix_74 : decode cX12_mix 74 = .ok (.iastore, 1) := by decide +kernel
theorem dX12_mix_75 : decode cX12_mix 75 = .ok (.aload_n 0, 1) := by decide +kernel
theorem dX12_mix_76 : decode cX12_mix 76 = .ok (.getfield 143, 3) := by decide +kernel
theorem dX12_mix_79 : decode cX12_mix 79 = .ok (.iload 5, 2) := by decide +kernel
theorem dX12_mix_81 : decode cX12_mix 81 = .ok (.aload_n 0, 1) := by decide +kernel
theorem dX12_mix_82 : decode cX12_mix 82 = .ok (.iload 6, 2) := by decide +kernel
theorem dX12_mix_84 : decode cX12_mix 84 = .ok (.invokevirtual 356, 3) := by decide +kernel
theorem dX12_mix_87 : decode cX12_mix 87 = .ok (.iastore, 1) := by decide +kernel
theorem dX12_mix_88 : decode cX12_mix 88 = .ok (.aload_n 0, 1) := by decide +kernel
theorem dX12_mix_89 : decode cX12_mix 89 = .ok (.getfield 146, 3) := by decide +kernel
theorem dX12_mix_92 : decode cX12_mix 92 = .ok (.iload 5, 2) := by decide +kernel
theorem dX12_mix_94 : decode cX12_mix 94 = .ok (.aload_n 0, 1) := by decide +kernel
theorem dX12_mix_95 : decode cX12_mix 95 = .ok (.iload 6, 2) := by decide +kernel
theorem dX12_mix_97 : decode cX12_mix 97 = .ok (.invokevirtual 375, 3) := by decide +kernel
theorem dX12_mix_100 : decode cX12_mix 100 = .ok (.iastore, 1) := by decide +kernel
theorem dX12_mix_101 : decode cX12_mix 101 = .ok (.iinc 5 1, 3) := by decide +kernel
theorem dX12_mix_104 : decode cX12_mix 104 = .ok (.iinc 6 1, 3) := by decide +kernel
theorem dX12_mix_107 : decode cX12_mix 107 = .ok (.goto (-96), 3) := by decide +kernel
theorem dX12_mix_110 : decode cX12_mix 110 = .ok (.iconst 0, 1) := by decide +kernel
theorem dX12_mix_111 : decode cX12_mix 111 = .ok (.istore 6, 2) := by decide +kernel
theorem dX12_mix_113 : decode cX12_mix 113 = .ok (.iconst (-1), 1) := by decide +kernel
theorem dX12_mix_114 : decode cX12_mix 114 = .ok (.istore 7, 2) := by decide +kernel
theorem dX12_mix_116 : decode cX12_mix 116 = .ok (.iconst 1, 1) := by decide +kernel
theorem dX12_mix_117 : decode cX12_mix 117 = .ok (.istore 8, 2) := by decide +kernel
theorem dX12_mix_119 : decode cX12_mix 119 = .ok (.iload 8, 2) := by decide +kernel
theorem dX12_mix_121 : decode cX12_mix 121 = .ok (.iconst 1, 1) := by decide +kernel
theorem dX12_mix_122 : decode cX12_mix 122 = .ok (.iload 5, 2) := by decide +kernel
theorem dX12_mix_124 : decode cX12_mix 124 = .ok (.ishl, 1) := by decide +kernel
theorem dX12_mix_125 : decode cX12_mix 125 = .ok (.if_icmp .ge 139, 3) := by decide +kernel
theorem dX12_mix_128 : decode cX12_mix 128 = .ok (.iconst 0, 1) := by decide +kernel
theorem dX12_mix_129 : decode cX12_mix 129 = .ok (.istore 9, 2) := by decide +kernel
theorem dX12_mix_131 : decode cX12_mix 131 = .ok (.iconst 0, 1) := by decide +kernel
theorem dX12_mix_132 : decode cX12_mix 132 = .ok (.istore 10, 2) := by decide +kernel
theorem dX12_mix_134 : decode cX12_mix 134 = .ok (.iconst 0, 1) := by decide +kernel
theorem dX12_mix_135 : decode cX12_mix 135 = .ok (.istore 11, 2) := by decide +kernel
theorem dX12_mix_137 : decode cX12_mix 137 = .ok (.iload 11, 2) := by decide +kernel
theorem dX12_mix_139 : decode cX12_mix 139 = .ok (.iload 5, 2) := by decide +kernel
theorem dX12_mix_141 : decode cX12_mix 141 = .ok (.if_icmp .ge 46, 3) := by decide +kernel
theorem dX12_mix_144 : decode cX12_mix 144 = .ok (.iload 8, 2) := by decide +kernel
theorem dX12_mix_146 : decode cX12_mix 146 = .ok (.iload 11, 2) := by decide +kernel
theorem dX12_mix_148 : decode cX12_mix 148 = .ok (.ishr, 1) := by decide +kernel
theorem dX12_mix_149 : decode cX12_mix 149 = .ok (.iconst 1, 1) := by decide +kernel
theorem dX12_mix_150 : decode cX12_mix 150 = .ok (.iand, 1) := by decide +kernel
theorem dX12_mix_151 : decode cX12_mix 151 = .ok (.ifCond .ne 6, 3) := by decide +kernel
theorem dX12_mix_154 : decode cX12_mix 154 = .ok (.goto 27, 3) := by decide +kernel
theorem dX12_mix_157 : decode cX12_mix 157 = .ok (.iload 9, 2) := by decide +kernel
theorem dX12_mix_159 : decode cX12_mix 159 = .ok (.aload_n 0, 1) := by decide +kernel
theorem dX12_mix_160 : decode cX12_mix 160 = .ok (.getfield 143, 3) := by decide +kernel
theorem dX12_mix_163 : decode cX12_mix 163 = .ok (.iload 11, 2) := by decide +kernel
theorem dX12_mix_165 : decode cX12_mix 165 = .ok (.iaload, 1) := by decide +kernel
theorem dX12_mix_166 : decode cX12_mix 166 = .ok (.iadd, 1) := by decide +kernel
theorem dX12_mix_167 : decode cX12_mix 167 = .ok (.istore 9, 2) := by decide +kernel
theorem dX12_mix_169 : decode cX12_mix 169 = .ok (.iload 10, 2) := by decide +kernel
theorem dX12_mix_171 : decode cX12_mix 171 = .ok (.aload_n 0, 1) := by decide +kernel
theorem dX12_mix_172 : decode cX12_mix 172 = .ok (.getfield 146, 3) := by decide +kernel
theorem dX12_mix_175 : decode cX12_mix 175 = .ok (.iload 11, 2) := by decide +kernel
theorem dX12_mix_177 : decode cX12_mix 177 = .ok (.iaload, 1) := by decide +kernel
theorem dX12_mix_178 : decode cX12_mix 178 = .ok (.iadd, 1) := by decide +kernel
theorem dX12_mix_179 : decode cX12_mix 179 = .ok (.istore 10, 2) := by decide +kernel
theorem dX12_mix_181 : decode cX12_mix 181 = .ok (.iinc 11 1, 3) := by decide +kernel
theorem dX12_mix_184 : decode cX12_mix 184 = .ok (.goto (-47), 3) := by decide +kernel
theorem dX12_mix_187 : decode cX12_mix 187 = .ok (.iload 9, 2) := by decide +kernel
theorem dX12_mix_189 : decode cX12_mix 189 = .ok (.iload_n 1, 1) := by decide +kernel
theorem dX12_mix_190 : decode cX12_mix 190 = .ok (.if_icmp .ge 6, 3) := by decide +kernel
theorem dX12_mix_193 : decode cX12_mix 193 = .ok (.goto 65, 3) := by decide +kernel
theorem dX12_mix_196 : decode cX12_mix 196 = .ok (.iload 8, 2) := by decide +kernel
theorem dX12_mix_198 : decode cX12_mix 198 = .ok (.iload 6, 2) := by decide +kernel
theorem dX12_mix_200 : decode cX12_mix 200 = .ok (.ixor, 1) := by decide +kernel
theorem dX12_mix_201 : decode cX12_mix 201 = .ok (.istore 11, 2) := by decide +kernel
theorem dX12_mix_203 : decode cX12_mix 203 = .ok (.iload 8, 2) := by decide +kernel
theorem dX12_mix_205 : decode cX12_mix 205 = .ok (.iload 11, 2) := by decide +kernel
theorem dX12_mix_207 : decode cX12_mix 207 = .ok (.iand, 1) := by decide +kernel
theorem dX12_mix_208 : decode cX12_mix 208 = .ok (.iload 11, 2) := by decide +kernel
theorem dX12_mix_210 : decode cX12_mix 210 = .ok (.ineg, 1) := by decide +kernel
theorem dX12_mix_211 : decode cX12_mix 211 = .ok (.iand, 1) := by decide +kernel
theorem dX12_mix_212 : decode cX12_mix 212 = .ok (.ifCond .eq 7, 3) := by decide +kernel
theorem dX12_mix_215 : decode cX12_mix 215 = .ok (.iconst 1, 1) := by decide +kernel
theorem dX12_mix_216 : decode cX12_mix 216 = .ok (.goto 4, 3) := by decide +kernel
theorem dX12_mix_219 : decode cX12_mix 219 = .ok (.iconst 0, 1) := by decide +kernel
theorem dX12_mix_220 : decode cX12_mix 220 = .ok (.istore 12, 2) := by decide +kernel
theorem dX12_mix_222 : decode cX12_mix 222 = .ok (.iload 7, 2) := by decide +kernel
theorem dX12_mix_224 : decode cX12_mix 224 = .ok (.iconst (-1), 1) := by decide +kernel
theorem dX12_mix_225 : decode cX12_mix 225 = .ok (.if_icmp .eq 25, 3) := by decide +kernel
theorem dX12_mix_228 : decode cX12_mix 228 = .ok (.iload 10, 2) := by decide +kernel
theorem dX12_mix_230 : decode cX12_mix 230 = .ok (.iload 7, 2) := by decide +kernel
theorem dX12_mix_232 : decode cX12_mix 232 = .ok (.if_icmp .gt 26, 3) := by decide +kernel
theorem dX12_mix_235 : decode cX12_mix 235 = .ok (.iload 10, 2) := by decide +kernel
theorem dX12_mix_237 : decode cX12_mix 237 = .ok (.iload 7, 2) := by decide +kernel
theorem dX12_mix_239 : decode cX12_mix 239 = .ok (.if_icmp .ne 11, 3) := by decide +kernel
theorem dX12_mix_242 : decode cX12_mix 242 = .ok (.iload 12, 2) := by decide +kernel
theorem dX12_mix_244 : decode cX12_mix 244 = .ok (.ifCond .ne 6, 3) := by decide +kernel
theorem dX12_mix_247 : decode cX12_mix 247 = .ok (.goto 11, 3) := by decide +kernel
theorem dX12_mix_250 : decode cX12_mix 250 = .ok (.iload 8, 2) := by decide +kernel
theorem dX12_mix_252 : decode cX12_mix 252 = .ok (.istore 6, 2) := by decide +kernel
theorem dX12_mix_254 : decode cX12_mix 254 = .ok (.iload 10, 2) := by decide +kernel
theorem dX12_mix_256 : decode cX12_mix 256 = .ok (.istore 7, 2) := by decide +kernel
theorem dX12_mix_258 : decode cX12_mix 258 = .ok (.iinc 8 1, 3) := by decide +kernel
theorem dX12_mix_261 : decode cX12_mix 261 = .ok (.goto (-142), 3) := by decide +kernel
theorem dX12_mix_264 : decode cX12_mix 264 = .ok (.iload 7, 2) := by decide +kernel
theorem dX12_mix_266 : decode cX12_mix 266 = .ok (.iconst (-1), 1) := by decide +kernel
theorem dX12_mix_267 : decode cX12_mix 267 = .ok (.if_icmp .ne 5, 3) := by decide +kernel
theorem dX12_mix_270 : decode cX12_mix 270 = .ok (.iconst (-1), 1) := by decide +kernel
theorem dX12_mix_271 : decode cX12_mix 271 = .ok (.ireturn, 1) := by decide +kernel
theorem dX12_mix_272 : decode cX12_mix 272 = .ok (.iconst 0, 1) := by decide +kernel
theorem dX12_mix_273 : decode cX12_mix 273 = .ok (.istore 8, 2) := by decide +kernel
theorem dX12_mix_275 : decode cX12_mix 275 = .ok (.iload 8, 2) := by decide +kernel
theorem dX12_mix_277 : decode cX12_mix 277 = .ok (.bipush 40, 2) := by decide +kernel
theorem dX12_mix_279 : decode cX12_mix 279 = .ok (.if_icmp .ge 17, 3) := by decide +kernel
theorem dX12_mix_282 : decode cX12_mix 282 = .ok (.aload_n 0, 1) := by decide +kernel
theorem dX12_mix_283 : decode cX12_mix 283 = .ok (.getfield 149, 3) := by decide +kernel
theorem dX12_mix_286 : decode cX12_mix 286 = .ok (.iload 8, 2) := by decide +kernel
theorem dX12_mix_288 : decode cX12_mix 288 = .ok (.iconst 0, 1) := by decide +kernel
theorem dX12_mix_289 : decode cX12_mix 289 = .ok (.bastore, 1) := by decide +kernel
theorem dX12_mix_290 : decode cX12_mix 290 = .ok (.iinc 8 1, 3) := by decide +kernel
theorem dX12_mix_293 : decode cX12_mix 293 = .ok (.goto (-18), 3) := by decide +kernel
theorem dX12_mix_296 : decode cX12_mix 296 = .ok (.iconst 0, 1) := by decide +kernel
theorem dX12_mix_297 : decode cX12_mix 297 = .ok (.istore 8, 2) := by decide +kernel
theorem dX12_mix_299 : decode cX12_mix 299 = .ok (.iload 8, 2) := by decide +kernel
theorem dX12_mix_301 : decode cX12_mix 301 = .ok (.iload 5, 2) := by decide +kernel
theorem dX12_mix_303 : decode cX12_mix 303 = .ok (.if_icmp .ge 53, 3) := by decide +kernel
theorem dX12_mix_306 : decode cX12_mix 306 = .ok (.iload 6, 2) := by decide +kernel
theorem dX12_mix_308 : decode cX12_mix 308 = .ok (.iload 8, 2) := by decide +kernel
theorem dX12_mix_310 : decode cX12_mix 310 = .ok (.ishr, 1) := by decide +kernel
theorem dX12_mix_311 : decode cX12_mix 311 = .ok (.iconst 1, 1) := by decide +kernel
theorem dX12_mix_312 : decode cX12_mix 312 = .ok (.iand, 1) := by decide +kernel
theorem dX12_mix_313 : decode cX12_mix 313 = .ok (.ifCond .ne 6, 3) := by decide +kernel
theorem dX12_mix_316 : decode cX12_mix 316 = .ok (.goto 34, 3) := by decide +kernel
theorem dX12_mix_319 : decode cX12_mix 319 = .ok (.aload_n 0, 1) := by decide +kernel
theorem dX12_mix_320 : decode cX12_mix 320 = .ok (.getfield 149, 3) := by decide +kernel
theorem dX12_mix_323 : decode cX12_mix 323 = .ok (.aload_n 0, 1) := by decide +kernel
theorem dX12_mix_324 : decode cX12_mix 324 = .ok (.getfield 140, 3) := by decide +kernel
theorem dX12_mix_327 : decode cX12_mix 327 = .ok (.iload 8, 2) := by decide +kernel
theorem dX12_mix_329 : decode cX12_mix 329 = .ok (.iaload, 1) := by decide +kernel
theorem dX12_mix_330 : decode cX12_mix 330 = .ok (.iconst 1, 1) := by decide +kernel
theorem dX12_mix_331 : decode cX12_mix 331 = .ok (.bastore, 1) := by decide +kernel
theorem dX12_mix_332 : decode cX12_mix 332 = .ok (.iload 4, 2) := by decide +kernel
theorem dX12_mix_334 : decode cX12_mix 334 = .ok (.ifCond .eq 16, 3) := by decide +kernel
theorem dX12_mix_337 : decode cX12_mix 337 = .ok (.aload_n 0, 1) := by decide +kernel
theorem dX12_mix_338 : decode cX12_mix 338 = .ok (.getfield 115, 3) := by decide +kernel
theorem dX12_mix_341 : decode cX12_mix 341 = .ok (.aload_n 0, 1) := by decide +kernel
theorem dX12_mix_342 : decode cX12_mix 342 = .ok (.getfield 140, 3) := by decide +kernel
theorem dX12_mix_345 : decode cX12_mix 345 = .ok (.iload 8, 2) := by decide +kernel
theorem dX12_mix_347 : decode cX12_mix 347 = .ok (.iaload, 1) := by decide +kernel
theorem dX12_mix_348 : decode cX12_mix 348 = .ok (.iconst 1, 1) := by decide +kernel
theorem dX12_mix_349 : decode cX12_mix 349 = .ok (.bastore, 1) := by decide +kernel
theorem dX12_mix_350 : decode cX12_mix 350 = .ok (.iinc 8 1, 3) := by decide +kernel
theorem dX12_mix_353 : decode cX12_mix 353 = .ok (.goto (-54), 3) := by decide +kernel
theorem dX12_mix_356 : decode cX12_mix 356 = .ok (.iload 7, 2) := by decide +kernel
theorem dX12_mix_358 : decode cX12_mix 358 = .ok (.ireturn, 1) := by decide +kernel
set_option maxRecDepth 20000 in
theorem ggX12_count_X12_silk : GoodIn wsX12_count wsX12_silk := goodIn_r _ [19, 20, 21, 22, 18, 23, 24, 25, 26, 27, 28, 29, 30, 31, 32, 33, 34, 35, 36, 37, 38, 53, 54, 55, 56, 57, 58, 59, 60, 61, 62, 63, 64, 65, 66, 67, 68, 69, 70, 71, 72, 73, 74, 75, 76, 77, 78, 79, 80, 81, 82, 83, 84, 85, 86, 87, 88, 89, 90, 91, 92, 93, 94, 95, 96, 97, 98, 99, 100, 101, 102, 103, 104, 105, 106, 107, 108, 109, 110, 111, 112, 113, 114, 115, 116, 117, 118] (by decide +kernel) (by decide +kernel)
set_option maxRecDepth 20000 in
theorem gX12_count_X12_silk : GoodIn wsX12_count (wsV RX12 190 RX12 yX12_silk wsX12_silk) := goodIn_app (goodIn_of _ (by decide +kernel)) ggX12_count_X12_silk
set_option maxRecDepth 20000 in
theorem ggX12_count_X12_weight : GoodIn wsX12_count wsX12_weight := goodIn_r _ [42, 43, 44, 45, 18, 46, 47, 48, 20, 21, 22, 23, 24, 25, 26, 27, 28, 29, 30, 31, 32, 33, 34, 35, 36, 37, 38, 53, 54, 55, 56, 57, 58, 59, 60, 61, 62, 63, 64, 65, 66, 67, 68, 69, 70, 71, 72, 73, 74, 75, 76, 77, 78, 79, 80, 81, 82, 83, 84, 85, 86, 87, 88, 89, 90, 91, 92, 93, 94, 95, 96, 97, 98, 99, 100, 101, 102, 103, 104, 105, 106, 107, 108, 109, 110, 111, 112, 113, 114, 115, 116, 117, 118] (by decide +kernel) (by decide +kernel)
set_option maxRecDepth 20000 in
theorem gX12_count_X12_weight : GoodIn wsX12_count (wsV RX12 299 RX12 yX12_weight wsX12_weight) := goodIn_app (goodIn_of _ (by decide +kernel)) ggX12_count_X12_weight
set_option maxRecDepth 20000 in
theorem ggX12_count_X12_growing : GoodIn wsX12_count wsX12_growing := goodIn_r _ [52] (by decide +kernel) (by decide +kernel)
set_option maxRecDepth 20000 in
theorem gX12_count_X12_growing : GoodIn wsX12_count (wsV RX12 296 RX12 yX12_growing wsX12_growing) := goodIn_app (goodIn_of _ (by decide +kernel)) ggX12_count_X12_growing
set_option maxRecDepth 20000 in
theorem ggX12_count_X12_lengthOf : GoodIn wsX12_count wsX12_lengthOf := goodIn_r _ [37, 38, 24, 27, 28, 18, 29, 30, 31, 32, 33, 53, 54, 55, 56, 57, 58, 59, 60, 61, 62, 63, 64, 65, 66, 67, 68, 69, 70, 71, 72, 73, 74, 75, 76, 77, 78, 79, 80, 81, 82, 83, 84, 85, 86, 87, 88, 89, 90, 91, 92, 93, 94, 95, 96, 97, 98, 99, 100, 101, 102, 103, 104, 105, 106, 107, 108, 109, 110, 111, 112, 113, 114, 115, 116, 117, 118] (by decide +kernel) (by decide +kernel)
set_option maxRecDepth 20000 in
theorem gX12_count_X12_lengthOf : GoodIn wsX12_count (wsV RX12 180 RX12 yX12_lengthOf wsX12_lengthOf) := goodIn_app (goodIn_of _ (by decide +kernel)) ggX12_count_X12_lengthOf
theorem dX12_count_0 : decode cX12_count 0 = .ok (.aload_n 0, 1) := by decide +kernel
theorem dX12_count_1 : decode cX12_count 1 = .ok (.iconst 0, 1) := by decide +kernel
theorem dX12_count_2 : decode cX12_count 2 = .ok (.putfield 161, 3) := by decide +kernel
theorem dX12_count_5 : decode cX12_count 5 = .ok (.iconst 0, 1) := by decide +kernel
theorem dX12_count_6 : decode cX12_count 6 = .ok (.istore_n 2, 1) := by decide +kernel
theorem dX12_count_7 : decode cX12_count 7 = .ok (.iload_n 1, 1) := by decide +kernel
theorem dX12_count_8 : decode cX12_count 8 = .ok (.tableswitch 302 0 11 #[64, 69, 74, 79, 84, 89, 94, 146, 161, 197, 202, 269], 64) := by decide +kernel
theorem dX12_count_72 : decode cX12_count 72 = .ok (.aload_n 0, 1) := by decide +kernel
theorem dX12_count_73 : decode cX12_count 73 = .ok (.getfield 165, 3) := by decide +kernel
theorem dX12_count_76 : decode cX12_count 76 = .ok (.ireturn, 1) := by decide +kernel
theorem dX12_count_77 : decode cX12_count 77 = .ok (.aload_n 0, 1) := by decide +kernel
theorem dX12_count_78 : decode cX12_count 78 = .ok (.getfield 197, 3) := by decide +kernel
theorem dX12_count_81 : decode cX12_count 81 = .ok (.ireturn, 1) := by decide +kernel
theorem dX12_count_82 : decode cX12_count 82 = .ok (.aload_n 0, 1) := by decide +kernel
theorem dX12_count_83 : decode cX12_count 83 = .ok (.getfield 290, 3) := by decide +kernel
theorem dX12_count_86 : decode cX12_count 86 = .ok (.ireturn, 1) := by decide +kernel
theorem dX12_count_87 : decode cX12_count 87 = .ok (.aload_n 0, 1) := by decide +kernel
theorem dX12_count_88 : decode cX12_count 88 = .ok (.getfield 302, 3) := by decide +kernel
theorem dX12_count_91 : decode cX12_count 91 = .ok (.ireturn, 1) := by decide +kernel
theorem dX12_count_92 : decode cX12_count 92 = .ok (.aload_n 0, 1) := by decide +kernel
theorem dX12_count_93 : decode cX12_count 93 = .ok (.getfield 211, 3) := by decide +kernel
theorem dX12_count_96 : decode cX12_count 96 = .ok (.ireturn, 1) := by decide +kernel
theorem dX12_count_97 : decode cX12_count 97 = .ok (.aload_n 0, 1) := by decide +kernel
theorem dX12_count_98 : decode cX12_count 98 = .ok (.getfield 403, 3) := by decide +kernel
theorem dX12_count_101 : decode cX12_count 101 = .ok (.ireturn, 1) := by decide +kernel
theorem dX12_count_102 : decode cX12_count 102 = .ok (.iconst 0, 1) := by decide +kernel
theorem dX12_count_103 : decode cX12_count 103 = .ok (.istore_n 3, 1) := by decide +kernel
theorem dX12_count_104 : decode cX12_count 104 = .ok (.iload_n 3, 1) := by decide +kernel
theorem dX12_count_105 : decode cX12_count 105 = .ok (.bipush 60, 2) := by decide +kernel
theorem dX12_count_107 : decode cX12_count 107 = .ok (.aload_n 0, 1) := by decide +kernel
theorem dX12_count_108 : decode cX12_count 108 = .ok (.getfield 165, 3) := by decide +kernel
theorem dX12_count_111 : decode cX12_count 111 = .ok (.imul, 1) := by decide +kernel
theorem dX12_count_112 : decode cX12_count 112 = .ok (.if_icmp .ge 40, 3) := by decide +kernel
theorem dX12_count_115 : decode cX12_count 115 = .ok (.iload_n 3, 1) := by decide +kernel
theorem dX12_count_116 : decode cX12_count 116 = .ok (.bipush 60, 2) := by decide +kernel
theorem dX12_count_118 : decode cX12_count 118 = .ok (.irem, 1) := by decide +kernel
theorem dX12_count_119 : decode cX12_count 119 = .ok (.aload_n 0, 1) := by decide +kernel
theorem dX12_count_120 : decode cX12_count 120 = .ok (.getfield 7, 3) := by decide +kernel
theorem dX12_count_123 : decode cX12_count 123 = .ok (.iload_n 3, 1) := by decide +kernel
theorem dX12_count_124 : decode cX12_count 124 = .ok (.bipush 60, 2) := by decide +kernel
theorem dX12_count_126 : decode cX12_count 126 = .ok (.idiv, 1) := by decide +kernel
theorem dX12_count_127 : decode cX12_count 127 = .ok (.iaload, 1) := by decide +kernel
theorem dX12_count_128 : decode cX12_count 128 = .ok (.if_icmp .ge 18, 3) := by decide +kernel
theorem dX12_count_131 : decode cX12_count 131 = .ok (.iload_n 2, 1) := by decide +kernel
theorem dX12_count_132 : decode cX12_count 132 = .ok (.aload_n 0, 1) := by decide +kernel
theorem dX12_count_133 : decode cX12_count 133 = .ok (.iload_n 3, 1) := by decide +kernel
theorem dX12_count_134 : decode cX12_count 134 = .ok (.iconst 0, 1) := by decide +kernel
theorem dX12_count_135 : decode cX12_count 135 = .ok (.aload_n 0, 1) := by decide +kernel
theorem dX12_count_136 : decode cX12_count 136 = .ok (.getfield 28, 3) := by decide +kernel
theorem dX12_count_139 : decode cX12_count 139 = .ok (.iload_n 3, 1) := by decide +kernel
theorem dX12_count_140 : decode cX12_count 140 = .ok (.iaload, 1) := by decide +kernel
theorem dX12_count_141 : decode cX12_count 141 = .ok (.invokevirtual 190, 3) := by decide +kernel
theorem dX12_count_144 : decode cX12_count 144 = .ok (.iadd, 1) := by decide +kernel
theorem dX12_count_145 : decode cX12_count 145 = .ok (.istore_n 2, 1) := by decide +kernel
theorem dX12_count_146 : decode cX12_count 146 = .ok (.iinc 3 1, 3) := by decide +kernel
theorem dX12_count_149 : decode cX12_count 149 = .ok (.goto (-45), 3) := by decide +kernel
theorem dX12_count_152 : decode cX12_count 152 = .ok (.iload_n 2, 1) := by decide +kernel
theorem dX12_count_153 : decode cX12_count 153 = .ok (.ireturn, 1) := by decide +kernel
theorem dX12_count_154 : decode cX12_count 154 = .ok (.aload_n 0, 1) := by decide +kernel
theorem dX12_count_155 : decode cX12_count 155 = .ok (.iconst 0, 1) := by decide +kernel
theorem dX12_count_156 : decode cX12_count 156 = .ok (.aload_n 0, 1) := by decide +kernel
theorem dX12_count_157 : decode cX12_count 157 = .ok (.getfield 100, 3) := by decide +kernel
theorem dX12_count_160 : decode cX12_count 160 = .ok (.aload_n 0, 1) := by decide +kernel
theorem dX12_count_161 : decode cX12_count 161 = .ok (.getfield 290, 3) := by decide +kernel
theorem dX12_count_164 : decode cX12_count 164 = .ok (.iaload, 1) := by decide +kernel
theorem dX12_count_165 : decode cX12_count 165 = .ok (.invokevirtual 299, 3) := by decide +kernel
theorem dX12_count_168 : decode cX12_count 168 = .ok (.ireturn, 1) := by decide +kernel
theorem dX12_count_169 : decode cX12_count 169 = .ok (.iconst 0, 1) := by decide +kernel
theorem dX12_count_170 : decode cX12_count 170 = .ok (.istore_n 3, 1) := by decide +kernel
theorem dX12_count_171 : decode cX12_count 171 = .ok (.iload_n 3, 1) := by decide +kernel
theorem dX12_count_172 : decode cX12_count 172 = .ok (.aload_n 0, 1) := by decide +kernel
theorem dX12_count_173 : decode cX12_count 173 = .ok (.getfield 197, 3) := by decide +kernel
theorem dX12_count_176 : decode cX12_count 176 = .ok (.if_icmp .ge 27, 3) := by decide +kernel
theorem dX12_count_179 : decode cX12_count 179 = .ok (.iload_n 2, 1) := by decide +kernel
theorem dX12_count_180 : decode cX12_count 180 = .ok (.aload_n 0, 1) := by decide +kernel
theorem dX12_count_181 : decode cX12_count 181 = .ok (.aload_n 0, 1) := by decide +kernel
theorem dX12_count_182 : decode cX12_count 182 = .ok (.iload_n 3, 1) := by decide +kernel
theorem dX12_count_183 : decode cX12_count 183 = .ok (.invokevirtual 296, 3) := by decide +kernel
theorem dX12_count_186 : decode cX12_count 186 = .ok (.aload_n 0, 1) := by decide +kernel
theorem dX12_count_187 : decode cX12_count 187 = .ok (.getfield 97, 3) := by decide +kernel
theorem dX12_count_190 : decode cX12_count 190 = .ok (.iload_n 3, 1) := by decide +kernel
theorem dX12_count_191 : decode cX12_count 191 = .ok (.iaload, 1) := by decide +kernel
theorem dX12_count_192 : decode cX12_count 192 = .ok (.invokevirtual 299, 3) := by decide +kernel
theorem dX12_count_195 : decode cX12_count 195 = .ok (.iadd, 1) := by decide +kernel
theorem dX12_count_196 : decode cX12_count 196 = .ok (.istore_n 2, 1) := by decide +kernel
theorem dX12_count_197 : decode cX12_count 197 = .ok (.iinc 3 1, 3) := by decide +kernel
theorem dX12_count_200 : decode cX12_count 200 = .ok (.goto (-29), 3) := by decide +kernel
theorem dX12_count_203 : decode cX12_count 203 = .ok (.iload_n 2, 1) := by decide +kernel
theorem dX12_count_204 : decode cX12_count 204 = .ok (.ireturn, 1) := by decide +kernel
theorem dX12_count_205 : decode cX12_count 205 = .ok (.aload_n 0, 1) := by decide +kernel
theorem dX12_count_206 : decode cX12_count 206 = .ok (.getfield 293, 3) := by decide +kernel
theorem dX12_count_209 : decode cX12_count 209 = .ok (.ireturn, 1) := by decide +kernel
theorem dX12_count_210 : decode cX12_count 210 = .ok (.iconst 0, 1) := by decide +kernel
theorem dX12_count_211 : decode cX12_count 211 = .ok (.istore_n 3, 1) := by decide +kernel
theorem dX12_count_212 : decode cX12_count 212 = .ok (.iload_n 3, 1) := by decide +kernel
theorem dX12_count_213 : decode cX12_count 213 = .ok (.bipush 60, 2) := by decide +kernel
theorem dX12_count_215 : decode cX12_count 215 = .ok (.aload_n 0, 1) := by decide +kernel
theorem dX12_count_216 : decode cX12_count 216 = .ok (.getfield 165, 3) := by decide +kernel
theorem dX12_count_219 : decode cX12_count 219 = .ok (.imul, 1) := by decide +kernel
theorem dX12_count_220 : decode cX12_count 220 = .ok (.if_icmp .ge 55, 3) := by decide +kernel
theorem dX12_count_223 : decode cX12_count 223 = .ok (.iload_n 3, 1) := by decide +kernel
theorem dX12_count_224 : decode cX12_count 224 = .ok (.bipush 60, 2) := by decide +kernel
theorem dX12_count_226 : decode cX12_count 226 = .ok (.irem, 1) := by decide +kernel
theorem dX12_count_227 : decode cX12_count 227 = .ok (.aload_n 0, 1) := by decide +kernel
theorem dX12_count_228 : decode cX12_count 228 = .ok (.getfield 7, 3) := by decide +kernel
theorem dX12_count_231 : decode cX12_count 231 = .ok (.iload_n 3, 1) := by decide +kernel
theorem dX12_count_232 : decode cX12_count 232 = .ok (.bipush 60, 2) := by decide +kernel
theorem dX12_count_234 : decode cX12_count 234 = .ok (.idiv, 1) := by decide +kernel
theorem dX12_count_235 : decode cX12_count 235 = .ok (.iaload, 1) := by decide +kernel
theorem dX12_count_236 : decode cX12_count 236 = .ok (.if_icmp .ge 33, 3) := by decide +kernel
theorem dX12_count_239 : decode cX12_count 239 = .ok (.aload_n 0, 1) := by decide +kernel
theorem dX12_count_240 : decode cX12_count 240 = .ok (.getfield 25, 3) := by decide +kernel
theorem dX12_count_243 : decode cX12_count 243 = .ok (.iload_n 3, 1) := by decide +kernel
theorem dX12_count_244 : decode cX12_count 244 = .ok (.iaload, 1) := by decide +kernel
theorem dX12_count_245 : decode cX12_count 245 = .ok (.bipush 6, 2) := by decide +kernel
theorem dX12_count_247 : decode cX12_count 247 = .ok (.if_icmp .ne 22, 3) := by decide +kernel
theorem dX12_count_250 : decode cX12_count 250 = .ok (.iload_n 2, 1) := by decide +kernel
theorem dX12_count_251 : decode cX12_count 251 = .ok (.aload_n 0, 1) := by decide +kernel
theorem dX12_count_252 : decode cX12_count 252 = .ok (.iload_n 3, 1) := by decide +kernel
theorem dX12_count_253 : decode cX12_count 253 = .ok (.aload_n 0, 1) := by decide +kernel
theorem dX12_count_254 : decode cX12_count 254 = .ok (.getfield 28, 3) := by decide +kernel
theorem dX12_count_257 : decode cX12_count 257 = .ok (.iload_n 3, 1) := by decide +kernel
theorem dX12_count_258 : decode cX12_count 258 = .ok (.iaload, 1) := by decide +kernel
theorem dX12_count_259 : decode cX12_count 259 = .ok (.aload_n 0, 1) := by decide +kernel
theorem dX12_count_260 : decode cX12_count 260 = .ok (.iload_n 3, 1) := by decide +kernel
theorem dX12_count_261 : decode cX12_count 261 = .ok (.invokevirtual 180, 3) := by decide +kernel
theorem dX12_count_264 : decode cX12_count 264 = .ok (.invokevirtual 190, 3) := by decide +kernel
theorem dX12_count_267 : decode cX12_count 267 = .ok (.iadd, 1) := by decide +kernel
theorem dX12_count_268 : decode cX12_count 268 = .ok (.istore_n 2, 1) := by decide +kernel
theorem dX12_count_269 : decode cX12_count 269 = .ok (.iinc 3 1, 3) := by decide +kernel
theorem dX12_count_272 : decode cX12_count 272 = .ok (.goto (-60), 3) := by decide +kernel
theorem dX12_count_275 : decode cX12_count 275 = .ok (.iload_n 2, 1) := by decide +kernel
theorem dX12_count_276 : decode cX12_count 276 = .ok (.ireturn, 1) := by decide +kernel
theorem dX12_count_277 : decode cX12_count 277 = .ok (.iconst 0, 1) := by decide +kernel
theorem dX12_count_278 : decode cX12_count 278 = .ok (.istore_n 3, 1) := by decide +kernel
theorem dX12_count_279 : decode cX12_count 279 = .ok (.iload_n 3, 1) := by decide +kernel
theorem dX12_count_280 : decode cX12_count 280 = .ok (.bipush 16, 2) := by decide +kernel
theorem dX12_count_282 : decode cX12_count 282 = .ok (.if_icmp .ge 26, 3) := by decide +kernel
theorem dX12_count_285 : decode cX12_count 285 = .ok (.iload_n 2, 1) := by decide +kernel
theorem dX12_count_286 : decode cX12_count 286 = .ok (.aload_n 0, 1) := by decide +kernel
theorem dX12_count_287 : decode cX12_count 287 = .ok (.getfield 125, 3) := by decide +kernel
theorem dX12_count_290 : decode cX12_count 290 = .ok (.iload_n 3, 1) := by decide +kernel
theorem dX12_count_291 : decode cX12_count 291 = .ok (.baload, 1) := by decide +kernel
theorem dX12_count_292 : decode cX12_count 292 = .ok (.ifCond .eq 7, 3) := by decide +kernel
theorem dX12_count_295 : decode cX12_count 295 = .ok (.iconst 1, 1) := by decide +kernel
theorem dX12_count_296 : decode cX12_count 296 = .ok (.goto 4, 3) := by decide +kernel
theorem dX12_count_299 : decode cX12_count 299 = .ok (.iconst 0, 1) := by decide +kernel
theorem dX12_count_300 : decode cX12_count 300 = .ok (.iadd, 1) := by decide +kernel
theorem dX12_count_301 : decode cX12_count 301 = .ok (.istore_n 2, 1) := by decide +kernel
theorem dX12_count_302 : decode cX12_count 302 = .ok (.iinc 3 1, 3) := by decide +kernel
theorem dX12_count_305 : decode cX12_count 305 = .ok (.goto (-26), 3) := by decide +kernel
theorem dX12_count_308 : decode cX12_count 308 = .ok (.iload_n 2, 1) := by decide +kernel
theorem dX12_count_309 : decode cX12_count 309 = .ok (.ireturn, 1) := by decide +kernel
theorem dX12_count_310 : decode cX12_count 310 = .ok (.iconst (-1), 1) := by decide +kernel
theorem dX12_count_311 : decode cX12_count 311 = .ok (.ireturn, 1) := by decide +kernel
theorem inn_X12_begins_12 : ∀ w ∈ u_ws RX12 TX12 66, w ∈ wsX12_begins := fun w h => List.mem_cons_of_mem _ (List.mem_append_right _ h)
theorem inn_X12_count_12 : ∀ w ∈ u_ws RX12 TX12 66, w ∈ wsX12_count := fun w h => List.mem_cons_of_mem _ (List.mem_append_right _ h)
theorem inn_X12_mix_12 : ∀ w ∈ u_ws RX12 TX12 66, w ∈ wsX12_mix := fun w h => List.mem_cons_of_mem _ (List.mem_append_right _ h)
theorem inn_X12_piece_12 : ∀ w ∈ u_ws RX12 TX12 66, w ∈ wsX12_piece := fun w h => List.mem_cons_of_mem _ (List.mem_append_right _ h)
theorem inn_X12_pieces_12 : ∀ w ∈ u_ws RX12 TX12 66, w ∈ wsX12_pieces := fun w h => List.mem_cons_of_mem _ (List.mem_append_right _ h)
theorem inn_X12_skein_12 : ∀ w ∈ u_ws RX12 TX12 66, w ∈ wsX12_skein := fun w h => List.mem_cons_of_mem _ (List.mem_append_right _ h)
theorem inn_X12_told_12 : ∀ w ∈ u_ws RX12 TX12 66, w ∈ wsX12_told := fun w h => List.mem_cons_of_mem _ (List.mem_append_right _ h)
set_option maxHeartbeats 4000000 in
set_option maxRecDepth 100000 in
theorem k_X12_begins (l : Launch) (G : va_G) (cy : Nat → ClassId) (κ : Nat → Nat) (S : PS) (sz : Nat) (x : Nat) (a1 : Int32) (a1_z : Int) (a2 : Int32) (a2_z : Int) (a3 : Int32) (a3_z : Int) (hG : GX S) (ha_x : At S x 12) (hz_a1 : a1.toInt = a1_z) (hz_a2 : a2.toInt = a2_z) (hz_a3 : a3.toInt = a3_z) (hp_0 : 0 ≤ a1_z) (hp_1 : a1_z ≤ 39) (hp_2 : a1_z < (pI S 1238 x).toInt) (hp_3 : MI S x) (hp_4 : 0 ≤ a2_z) (hp_5 : a2_z < zA S x 1239 (a1_z + 1).toNat - zA S x 1239 a1_z.toNat) (hp_6 : 0 ≤ a3_z) (hp_7 : a3_z ≤ 11) : Ci l yX12_begins wsX12_begins ({ frames := 2, cells := 0, slots := 0, locals := 96 }) G cy κ S sz [.ref x, .int (a1), .int (a2), .int (a3)] (fun (r : Int32) (S9 : PS) => S = S9 ∧ (((True) ∧ r = 1) ∨ ((True) ∧ r = 0))) := by
  refine ent_m (cc := cX12_begins) (maxL := 5) (ret := (some .boolean)) (by decide) rfl (Nat.le_of_ble_eq_true rfl) ?_
  intro p e s m below meth c ls X hr hlocks hin hw hl hsz
  subst hsz
  have X : Cx p c cX12_begins 5 s [.ref x, .int (a1), .int (a2), .int (a3)].toArray wsX12_begins RX12 m G cy κ (AS S s.heap.size) := X
  have hl : lv_has ls 5 [(0, .ref x), (1, .int (a1)), (2, .int (a2)), (3, .int (a3))] := hl
  have rg_a1 : (-2147483648) ≤ a1_z ∧ a1_z ≤ 2147483647 := by rw [← hz_a1]; exact ⟨z_lo _, z_hi _⟩
  have rg_a2 : (-2147483648) ≤ a2_z ∧ a2_z ≤ 2147483647 := by rw [← hz_a2]; exact ⟨z_lo _, z_hi _⟩
  have rg_a3 : (-2147483648) ≤ a3_z ∧ a3_z ≤ 2147483647 := by rw [← hz_a3]; exact ⟨z_lo _, z_hi _⟩
  have h7 := MI_7 hp_3 (k := a1_z) (by omega) (by omega)
  refine lv_aload_n X.1 X.2.1 dX12_begins_0 rfl (lv_at hl 0 rfl) ?_
  obtain ⟨q_1, h_2, h_3, h_4⟩ := gQ_12_1239 hG ha_x
  refine r_getR (g := 1239) X hw ha_x rfl 39 h_2 (by decide) rfl inn_X12_begins_12 (by decide) (X.2.2.2.1 (.fieldLink RX12 100 "SilkMillModel" "firstMetre" "[I") (by decide +kernel)) rfl (gv_1239 _ _) dX12_begins_1 ?_
  refine lv_iload_n X.1 X.2.1 dX12_begins_4 rfl (lv_at hl 1 rfl) ?_
  refine r_iald X hw h_3 rfl (by rw [h_4]; exact z_ix hz_a1 (by omega) (by omega)) dX12_begins_5 ?_
  refine lv_topi (fun v_5 ev_5 => ?_)
  have z_6 := gE_994 hG h_3 (Int32.toNatClampNeg (a1)); rw [← ev_5] at z_6
  have ev_5 := ev_5.symm
  have zf_7 : zA S x 1239 (a1_z).toNat = v_5.toInt := (zA_of h_2 hz_a1 (by omega) ev_5)
  refine lv_iload_n X.1 X.2.1 dX12_begins_6 rfl (lv_at hl 2 rfl) ?_
  refine lv_iadd X.1 X.2.1 dX12_begins_7 ?_
  refine lv_topi (fun v_8 ev_8 => ?_)
  have z_9 : v_8.toInt = v_5.toInt + a2_z := z_add ev_8 rfl hz_a2 (by omega) (by omega)
  refine lv_istore (lv' := [(4, .int (v_8)), (0, .ref x), (1, .int (a1)), (2, .int (a2)), (3, .int (a3))]) X.1 X.2.1 dX12_begins_8 hl (by decide) rfl (fun ls hl => ?_)
  refine lv_iload_n X.1 X.2.1 dX12_begins_10 rfl (lv_at hl 3 rfl) ?_
  refine lv_if_eq (tgt := 42) X.1 X.2.1 dX12_begins_11 (by decide) (fun c_10 => ?_) (fun c_10 => ?_)
  · have z_b_11 := trivial
    have k_12 : a2_z = 0 := z_eq hz_a2 ti_0 c_10
    refine lv_iconst (v := 1) X.1 X.2.1 dX12_begins_42 (by decide) ?_
    refine lv_goto (tgt := 47) X.1 X.2.1 dX12_begins_43 (by decide) ?_
    exact ret_z X hw hr hlocks (Nat.le_of_ble_eq_true rfl) (Nat.le_of_ble_eq_true rfl) (by decide) ⟨rfl, Or.inl ⟨trivial, rfl⟩⟩ dX12_begins_47
  · have z_b_13 := trivial
    have k_14 : a2_z ≠ 0 := z_ne hz_a2 ti_0 c_10
    refine lv_aload_n X.1 X.2.1 dX12_begins_14 rfl (lv_at hl 1 rfl) ?_
    refine lv_iload X.1 X.2.1 dX12_begins_15 (lv_at hl 0 rfl) ?_
    refine lv_iconst (v := 1) X.1 X.2.1 dX12_begins_17 (by decide) ?_
    refine lv_isub X.1 X.2.1 dX12_begins_18 ?_
    refine lv_topi (fun v_15 ev_15 => ?_)
    have z_16 : v_15.toInt = (v_5.toInt + a2_z) - 1 := z_sub ev_15 z_9 ti_1 (by omega) (by omega)
    refine lv_aload_n X.1 X.2.1 dX12_begins_19 rfl (lv_at hl 1 rfl) ?_
    obtain ⟨q_17, h_18, h_19, h_20⟩ := gQ_12_1236 hG ha_x
    refine r_getR (g := 1236) X hw ha_x rfl 36 h_18 (by decide) rfl inn_X12_begins_12 (by decide) (X.2.2.2.1 (.fieldLink RX12 94 "SilkMillModel" "drawn" "[I") (by decide +kernel)) rfl (gv_1236 _ _) dX12_begins_20 ?_
    refine lv_bipush (v := 12) X.1 X.2.1 dX12_begins_23 (by decide) ?_
    refine lv_iload X.1 X.2.1 dX12_begins_25 (lv_at hl 0 rfl) ?_
    refine lv_imul X.1 X.2.1 dX12_begins_27 ?_
    refine lv_topi (fun v_21 ev_21 => ?_)
    have z_22 : v_21.toInt = 12 * (v_5.toInt + a2_z) := z_mul ev_21 ti_12 z_9 (by omega) (by omega)
    refine lv_iload_n X.1 X.2.1 dX12_begins_28 rfl (lv_at hl 4 rfl) ?_
    refine lv_iadd X.1 X.2.1 dX12_begins_29 ?_
    refine lv_topi (fun v_23 ev_23 => ?_)
    have z_24 : v_23.toInt = (12 * (v_5.toInt + a2_z)) + a3_z := z_add ev_23 z_22 hz_a3 (by omega) (by omega)
    refine r_iald X hw h_19 rfl (by rw [h_20]; exact z_ix z_24 (by omega) (by omega)) dX12_begins_30 ?_
    refine lv_topi (fun v_25 ev_25 => ?_)
    have z_26 := gE_934 hG h_19 (Int32.toNatClampNeg (v_23)); rw [← ev_25] at z_26
    have ev_25 := ev_25.symm
    refine lv_sipush (v := 1000) X.1 X.2.1 dX12_begins_31 (by decide) ?_
    refine lv_idiv X.1 X.2.1 dX12_begins_34 (by decide) ?_
    refine lv_topi (fun v_27 ev_27 => ?_)
    have z_28 : v_27.toInt = v_25.toInt / 1000 := z_div ev_27 rfl ti_1000 (by omega) (by omega)
    refine k_i (rm := { frames := 1, cells := 0, slots := 0, locals := 48 }) (av := [.ref x, .int (v_15), .int (v_27)]) X hw (va_runV (As := [.int (v_15), .int (v_27)]) (rest := []) (cfix X) (k_X12_endOf l G cy κ S _ x (v_15) (((v_5.toInt + a2_z) - 1)) (v_27) ((v_25.toInt / 1000)) hG ha_x z_16 z_28 (by first | assumption | omega) (by first | assumption | omega)) (cwV 2 X.2.2.2.1 gX12_begins_X12_endOf rfl rfl rfl (by decide +kernel) ⟨Nat.le_of_ble_eq_true rfl, Nat.le_of_ble_eq_true rfl⟩) (pre_V X hw _ ha_x rfl (by decide) rfl) rfl rfl hl.1 rfl (lv_room (Nat.le_of_ble_eq_true rfl)) dX12_begins_35 ⟨Nat.le_of_ble_eq_true rfl, Nat.le_of_ble_eq_true rfl⟩) 0 0 (Nat.le_of_ble_eq_true rfl) (Nat.le_of_ble_eq_true rfl) (fun rr_29 S_30 H locs hp hw hfr hnw => ?_)
    obtain ⟨e2, hp⟩ := hp
    subst e2
    have rg_31 := And.intro (z_lo rr_29) (z_hi rr_29)
    refine lv_iconst (v := (-1)) X.1 X.2.1 dX12_begins_38 (by decide) ?_
    refine lv_icmp_ne (tgt := 46) X.1 X.2.1 dX12_begins_39 (by decide) (fun c_32 => ?_) (fun c_32 => ?_)
    · have z_b_33 := trivial
      have k_34 : rr_29.toInt ≠ (-1) := z_ne rfl ti_m1 c_32
      refine lv_iconst (v := 0) X.1 X.2.1 dX12_begins_46 (by decide) ?_
      exact ret_z X hw hr hlocks (Nat.le_of_ble_eq_true rfl) (Nat.le_of_ble_eq_true rfl) (by decide) ⟨rfl, Or.inr ⟨trivial, rfl⟩⟩ dX12_begins_47
    · have z_b_35 := trivial
      have k_36 : rr_29.toInt = (-1) := z_eq rfl ti_m1 c_32
      refine lv_iconst (v := 1) X.1 X.2.1 dX12_begins_42 (by decide) ?_
      refine lv_goto (tgt := 47) X.1 X.2.1 dX12_begins_43 (by decide) ?_
      exact ret_z X hw hr hlocks (Nat.le_of_ble_eq_true rfl) (Nat.le_of_ble_eq_true rfl) (by decide) ⟨rfl, Or.inl ⟨trivial, rfl⟩⟩ dX12_begins_47
set_option maxHeartbeats 4000000 in
set_option maxRecDepth 100000 in
theorem k_X12_pieces (l : Launch) (G : va_G) (cy : Nat → ClassId) (κ : Nat → Nat) (S : PS) (sz : Nat) (x : Nat) (a1 : Int32) (a1_z : Int) (hG : GX S) (ha_x : At S x 12) (hz_a1 : a1.toInt = a1_z) (hp_0 : 0 ≤ a1_z) (hp_1 : a1_z ≤ 39) (hp_2 : a1_z < (pI S 1238 x).toInt) (hp_3 : MI S x) : Ci l yX12_pieces wsX12_pieces ({ frames := 3, cells := 0, slots := 0, locals := 144 }) G cy κ S sz [.ref x, .int (a1)] (fun (r : Int32) (S9 : PS) => S = S9 ∧ (True)) := by
  refine ent_m (cc := cX12_pieces) (maxL := 5) (ret := (some .int)) (by decide) rfl (Nat.le_of_ble_eq_true rfl) ?_
  intro p e s m below meth c ls X hr hlocks hin hw hl hsz
  subst hsz
  have X : Cx p c cX12_pieces 5 s [.ref x, .int (a1)].toArray wsX12_pieces RX12 m G cy κ (AS S s.heap.size) := X
  have hl : lv_has ls 5 [(0, .ref x), (1, .int (a1))] := hl
  have rg_a1 : (-2147483648) ≤ a1_z ∧ a1_z ≤ 2147483647 := by rw [← hz_a1]; exact ⟨z_lo _, z_hi _⟩
  generalize hQQ : MQ below _ _ _ _ _ _ = QQ
  replace hQQ := hQQ.symm
  have h7 := MI_7 hp_3 (k := a1_z) (by omega) (by omega)
  refine lv_iconst (v := 0) X.1 X.2.1 dX12_pieces_0 (by decide) ?_
  refine lv_istore_n (lv' := [(2, .int 0), (0, .ref x), (1, .int (a1))]) X.1 X.2.1 dX12_pieces_1 rfl hl (by decide) rfl (fun ls hl => ?_)
  refine lv_iconst (v := 0) X.1 X.2.1 dX12_pieces_2 (by decide) ?_
  refine lv_istore_n (lv' := [(3, .int 0), (2, .int 0), (0, .ref x), (1, .int (a1))]) X.1 X.2.1 dX12_pieces_3 rfl hl (by decide) rfl (fun ls hl => ?_)
  have L_1 : ∀ (n : Nat) (H : Heap) (locs : List Loc) (ls : Array Slot) (i2_2 : Int32) (i2_2_z : Int) (i3_3 : Int32) (i3_3_z : Int), ((300 - i3_3_z).toNat = n) → (Wd G cy (AS S s.heap.size) s.heap S H locs) → (i2_2.toInt = i2_2_z) → (i3_3.toInt = i3_3_z) → (0 ≤ i3_3_z ∧ i3_3_z ≤ 300) → (lv_has ls 5 [(2, .int (i2_2)), (3, .int (i3_3)), (0, .ref x), (1, .int (a1))]) → W p l e ({ frames := 3, cells := 0, slots := 0, locals := 144 }) s m [.ref x, .int (a1)].toArray below meth c H locs 0 0 QQ (F0 m 4 ls []) := by
    intro n
    induction n using Nat.strongRecOn with
    | ind n ih_L_1 =>
    intro H locs ls i2_2 i2_2_z i3_3 i3_3_z hn hw hz_i2_2 hz_i3_3 hr_i3_3 hl
    have rg_4 : (-2147483648) ≤ i2_2_z ∧ i2_2_z ≤ 2147483647 := by rw [← hz_i2_2]; exact ⟨z_lo _, z_hi _⟩
    have rg_5 : (-2147483648) ≤ i3_3_z ∧ i3_3_z ≤ 2147483647 := by rw [← hz_i3_3]; exact ⟨z_lo _, z_hi _⟩
    refine lv_iload_n X.1 X.2.1 dX12_pieces_4 rfl (lv_at hl 1 rfl) ?_
    refine lv_aload_n X.1 X.2.1 dX12_pieces_5 rfl (lv_at hl 2 rfl) ?_
    refine lv_iload_n X.1 X.2.1 dX12_pieces_6 rfl (lv_at hl 3 rfl) ?_
    refine k_i (rm := { frames := 1, cells := 0, slots := 0, locals := 48 }) (av := [.ref x, .int (a1)]) X hw (va_runV (As := [.int (a1)]) (rest := [.int (i3_3)]) (cfix X) (k_X12_metres l G cy κ S _ x (a1) (a1_z) hG ha_x hz_a1 (by first | assumption | omega) (by first | assumption | omega) (by first | assumption | omega) hp_3) (cwV 1 X.2.2.2.1 gX12_pieces_X12_metres rfl rfl rfl (by decide +kernel) ⟨Nat.le_of_ble_eq_true rfl, Nat.le_of_ble_eq_true rfl⟩) (pre_V X hw _ ha_x rfl (by decide) rfl) rfl rfl hl.1 rfl (lv_room (Nat.le_of_ble_eq_true rfl)) dX12_pieces_7 ⟨Nat.le_of_ble_eq_true rfl, Nat.le_of_ble_eq_true rfl⟩) 0 0 (Nat.le_of_ble_eq_true rfl) (Nat.le_of_ble_eq_true rfl) (fun rr_6 S_7 H locs hp hw hfr hnw => ?_)
    obtain ⟨e2, hp⟩ := hp
    subst e2
    obtain ⟨f_8, f_9, f_10⟩ := hp
    refine lv_icmp_ge (tgt := 65) X.1 X.2.1 dX12_pieces_10 (by decide) (fun c_11 => ?_) (fun c_11 => ?_)
    · have z_b_12 := trivial
      have k_13 : i3_3_z ≥ rr_6.toInt := z_le rfl hz_i3_3 c_11
      refine lv_iload_n X.1 X.2.1 dX12_pieces_65 rfl (lv_at hl 0 rfl) ?_
      rw [hQQ]
      exact ret_i X hw hr hlocks (Nat.le_of_ble_eq_true rfl) (Nat.le_of_ble_eq_true rfl) ⟨rfl, trivial⟩ dX12_pieces_66
    · have z_b_14 := trivial
      have k_15 : i3_3_z < rr_6.toInt := z_nle rfl hz_i3_3 c_11
      refine lv_iconst (v := 0) X.1 X.2.1 dX12_pieces_13 (by decide) ?_
      refine lv_istore (lv' := [(4, .int 0), (2, .int (i2_2)), (3, .int (i3_3)), (0, .ref x), (1, .int (a1))]) X.1 X.2.1 dX12_pieces_14 hl (by decide) rfl (fun ls hl => ?_)
      have L_16 : ∀ (n : Nat) (H : Heap) (locs : List Loc) (ls : Array Slot) (i2_17 : Int32) (i2_17_z : Int) (i4_18 : Int32) (i4_18_z : Int), ((12 - i4_18_z).toNat = n) → (Wd G cy (AS S s.heap.size) s.heap S H locs) → (i2_17.toInt = i2_17_z) → (i4_18.toInt = i4_18_z) → (0 ≤ i4_18_z ∧ i4_18_z ≤ 12) → (lv_has ls 5 [(2, .int (i2_17)), (4, .int (i4_18)), (3, .int (i3_3)), (0, .ref x), (1, .int (a1))]) → W p l e ({ frames := 3, cells := 0, slots := 0, locals := 144 }) s m [.ref x, .int (a1)].toArray below meth c H locs 0 0 QQ (F0 m 16 ls []) := by
        intro n
        induction n using Nat.strongRecOn with
        | ind n ih_L_16 =>
        intro H locs ls i2_17 i2_17_z i4_18 i4_18_z hn hw hz_i2_17 hz_i4_18 hr_i4_18 hl
        have rg_19 : (-2147483648) ≤ i2_17_z ∧ i2_17_z ≤ 2147483647 := by rw [← hz_i2_17]; exact ⟨z_lo _, z_hi _⟩
        have rg_20 : (-2147483648) ≤ i4_18_z ∧ i4_18_z ≤ 2147483647 := by rw [← hz_i4_18]; exact ⟨z_lo _, z_hi _⟩
        refine lv_iload X.1 X.2.1 dX12_pieces_16 (lv_at hl 1 rfl) ?_
        refine lv_aload_n X.1 X.2.1 dX12_pieces_18 rfl (lv_at hl 3 rfl) ?_
        obtain ⟨q_21, h_22, h_23, h_24⟩ := gQ_12_1235 hG ha_x
        refine r_getR (g := 1235) X hw ha_x rfl 35 h_22 (by decide) rfl inn_X12_pieces_12 (by decide) (X.2.2.2.1 (.fieldLink RX12 90 "SilkMillModel" "metreEnds" "[I") (by decide +kernel)) rfl (gv_1235 _ _) dX12_pieces_19 ?_
        refine lv_aload_n X.1 X.2.1 dX12_pieces_22 rfl (lv_at hl 3 rfl) ?_
        obtain ⟨q_25, h_26, h_27, h_28⟩ := gQ_12_1239 hG ha_x
        refine r_getR (g := 1239) X hw ha_x rfl 39 h_26 (by decide) rfl inn_X12_pieces_12 (by decide) (X.2.2.2.1 (.fieldLink RX12 100 "SilkMillModel" "firstMetre" "[I") (by decide +kernel)) rfl (gv_1239 _ _) dX12_pieces_23 ?_
        refine lv_iload_n X.1 X.2.1 dX12_pieces_26 rfl (lv_at hl 4 rfl) ?_
        refine r_iald X hw h_27 rfl (by rw [h_28]; exact z_ix hz_a1 (by omega) (by omega)) dX12_pieces_27 ?_
        refine lv_topi (fun v_29 ev_29 => ?_)
        have z_30 := gE_994 hG h_27 (Int32.toNatClampNeg (a1)); rw [← ev_29] at z_30
        have ev_29 := ev_29.symm
        have zf_31 : zA S x 1239 (a1_z).toNat = v_29.toInt := (zA_of h_26 hz_a1 (by omega) ev_29)
        refine lv_iload_n X.1 X.2.1 dX12_pieces_28 rfl (lv_at hl 2 rfl) ?_
        refine lv_iadd X.1 X.2.1 dX12_pieces_29 ?_
        refine lv_topi (fun v_32 ev_32 => ?_)
        have z_33 : v_32.toInt = v_29.toInt + i3_3_z := z_add ev_32 rfl hz_i3_3 (by omega) (by omega)
        refine r_iald X hw h_23 rfl (by rw [h_24]; exact z_ix z_33 (by omega) (by omega)) dX12_pieces_30 ?_
        refine lv_topi (fun v_34 ev_34 => ?_)
        have z_35 := gE_914 hG h_23 (Int32.toNatClampNeg (v_32)); rw [← ev_34] at z_35
        have ev_34 := ev_34.symm
        refine lv_icmp_ge (tgt := 59) X.1 X.2.1 dX12_pieces_31 (by decide) (fun c_36 => ?_) (fun c_36 => ?_)
        · have z_b_37 := trivial
          have k_38 : i4_18_z ≥ v_34.toInt := z_le rfl hz_i4_18 c_36
          obtain ⟨x_39, ex_39⟩ : ∃ y : Int32, y = i3_3 + 1 := ⟨_, rfl⟩
          have z_40 : x_39.toInt = i3_3_z + 1 := z_add ex_39 hz_i3_3 ti_1 (by omega) (by omega)
          refine lv_iinc (v := x_39) (lv' := [(3, .int (x_39)), (2, .int (i2_17)), (4, .int (i4_18)), (0, .ref x), (1, .int (a1))]) X.1 X.2.1 dX12_pieces_59 hl (k := 2) rfl (by rw [ex_39]; rfl) (by decide) rfl (fun ls hl => ?_)
          refine lv_goto (tgt := 4) X.1 X.2.1 dX12_pieces_62 (by decide) ?_
          exact ih_L_1 _ (by omega) _ _ _ (i2_17) (i2_17_z) (x_39) (x_39.toInt) rfl hw hz_i2_17 rfl (by omega) (lv_sub hl [1, 0, 3, 4] rfl)
        · have z_b_41 := trivial
          have k_42 : i4_18_z < v_34.toInt := z_nle rfl hz_i4_18 c_36
          refine lv_iload_n X.1 X.2.1 dX12_pieces_34 rfl (lv_at hl 0 rfl) ?_
          refine lv_aload_n X.1 X.2.1 dX12_pieces_35 rfl (lv_at hl 3 rfl) ?_
          refine lv_iload_n X.1 X.2.1 dX12_pieces_36 rfl (lv_at hl 4 rfl) ?_
          refine lv_iload_n X.1 X.2.1 dX12_pieces_37 rfl (lv_at hl 2 rfl) ?_
          refine lv_iload X.1 X.2.1 dX12_pieces_38 (lv_at hl 1 rfl) ?_
          refine k_i (rm := { frames := 2, cells := 0, slots := 0, locals := 96 }) (av := [.ref x, .int (a1), .int (i3_3), .int (i4_18)]) X hw (va_runV (As := [.int (a1), .int (i3_3), .int (i4_18)]) (rest := [.int (i2_17)]) (cfix X) (k_X12_begins l G cy κ S _ x (a1) (a1_z) (i3_3) (i3_3_z) (i4_18) (i4_18_z) hG ha_x hz_a1 hz_i3_3 hz_i4_18 (by first | assumption | omega) (by first | assumption | omega) (by first | assumption | omega) hp_3 (by first | assumption | omega) (by first | assumption | omega) (by first | assumption | omega) (by first | assumption | omega)) (cwV 3 X.2.2.2.1 gX12_pieces_X12_begins rfl rfl rfl (by decide +kernel) ⟨Nat.le_of_ble_eq_true rfl, Nat.le_of_ble_eq_true rfl⟩) (pre_V X hw _ ha_x rfl (by decide) rfl) rfl rfl hl.1 rfl (lv_room (Nat.le_of_ble_eq_true rfl)) dX12_pieces_40 ⟨Nat.le_of_ble_eq_true rfl, Nat.le_of_ble_eq_true rfl⟩) 0 0 (Nat.le_of_ble_eq_true rfl) (Nat.le_of_ble_eq_true rfl) (fun rr_43 S_44 H locs hp hw hfr hnw => ?_)
          obtain ⟨e2, hp⟩ := hp
          subst e2
          rcases hp with ⟨f_45, er_46⟩ | ⟨f_45, er_46⟩ <;> subst er_46
          · have z_b_47 := trivial
            refine lv_if_eq (tgt := 50) X.1 X.2.1 dX12_pieces_43 (by decide) (fun c_48 => absurd c_48 (by decide)) (fun c_48 => ?_)
            refine lv_iconst (v := 1) X.1 X.2.1 dX12_pieces_46 (by decide) ?_
            refine lv_goto (tgt := 51) X.1 X.2.1 dX12_pieces_47 (by decide) ?_
            refine lv_iadd X.1 X.2.1 dX12_pieces_51 ?_
            refine lv_topi (fun v_49 ev_49 => ?_)
            have rg_50 := And.intro (z_lo v_49) (z_hi v_49)
            refine lv_istore_n (lv' := [(2, .int (v_49)), (4, .int (i4_18)), (3, .int (i3_3)), (0, .ref x), (1, .int (a1))]) X.1 X.2.1 dX12_pieces_52 rfl hl (by decide) rfl (fun ls hl => ?_)
            obtain ⟨x_51, ex_51⟩ : ∃ y : Int32, y = i4_18 + 1 := ⟨_, rfl⟩
            have z_52 : x_51.toInt = i4_18_z + 1 := z_add ex_51 hz_i4_18 ti_1 (by omega) (by omega)
            refine lv_iinc (v := x_51) (lv' := [(4, .int (x_51)), (2, .int (v_49)), (3, .int (i3_3)), (0, .ref x), (1, .int (a1))]) X.1 X.2.1 dX12_pieces_53 hl (k := 1) rfl (by rw [ex_51]; rfl) (by decide) rfl (fun ls hl => ?_)
            refine lv_goto (tgt := 16) X.1 X.2.1 dX12_pieces_56 (by decide) ?_
            exact ih_L_16 _ (by omega) _ _ _ (v_49) (v_49.toInt) (x_51) (x_51.toInt) rfl hw rfl rfl (by omega) (lv_sub hl [1, 0, 2, 3, 4] rfl)
          · have z_b_53 := trivial
            refine lv_if_eq (tgt := 50) X.1 X.2.1 dX12_pieces_43 (by decide) (fun c_54 => ?_) (fun c_54 => absurd c_54 (by decide))
            refine lv_iconst (v := 0) X.1 X.2.1 dX12_pieces_50 (by decide) ?_
            refine lv_iadd X.1 X.2.1 dX12_pieces_51 ?_
            refine lv_topi (fun v_55 ev_55 => ?_)
            have z_56 : v_55.toInt = i2_17_z + 0 := z_add ev_55 hz_i2_17 ti_0 (by omega) (by omega)
            refine lv_istore_n (lv' := [(2, .int (v_55)), (4, .int (i4_18)), (3, .int (i3_3)), (0, .ref x), (1, .int (a1))]) X.1 X.2.1 dX12_pieces_52 rfl hl (by decide) rfl (fun ls hl => ?_)
            obtain ⟨x_57, ex_57⟩ : ∃ y : Int32, y = i4_18 + 1 := ⟨_, rfl⟩
            have z_58 : x_57.toInt = i4_18_z + 1 := z_add ex_57 hz_i4_18 ti_1 (by omega) (by omega)
            refine lv_iinc (v := x_57) (lv' := [(4, .int (x_57)), (2, .int (v_55)), (3, .int (i3_3)), (0, .ref x), (1, .int (a1))]) X.1 X.2.1 dX12_pieces_53 hl (k := 1) rfl (by rw [ex_57]; rfl) (by decide) rfl (fun ls hl => ?_)
            refine lv_goto (tgt := 16) X.1 X.2.1 dX12_pieces_56 (by decide) ?_
            exact ih_L_16 _ (by omega) _ _ _ (v_55) ((i2_17_z + 0)) (x_57) (x_57.toInt) rfl hw z_56 rfl (by omega) (lv_sub hl [1, 0, 2, 3, 4] rfl)
      exact L_16 _ _ _ _ (i2_2) (i2_2_z) (0) (0) rfl hw hz_i2_2 ti_0 (by omega) (lv_sub hl [1, 0, 2, 3, 4] rfl)
  exact L_1 _ _ _ _ (0) (0) (0) (0) rfl hw ti_0 ti_0 (by omega) (lv_sub hl [1, 0, 2, 3] rfl)
set_option maxHeartbeats 4000000 in
set_option maxRecDepth 100000 in
theorem k_X12_told (l : Launch) (G : va_G) (cy : Nat → ClassId) (κ : Nat → Nat) (S : PS) (sz : Nat) (x : Nat) (a1 : Int32) (a1_z : Int) (a2 : Int32) (a2_z : Int) (a3 : Int32) (a3_z : Int) (a4 : Int32) (a4_z : Int) (hG : GX S) (ha_x : At S x 12) (hz_a1 : a1.toInt = a1_z) (hz_a2 : a2.toInt = a2_z) (hz_a3 : a3.toInt = a3_z) (hz_a4 : a4.toInt = a4_z) (hp_0 : 0 ≤ a1_z) (hp_1 : a1_z ≤ 39) (hp_2 : a1_z < (pI S 1238 x).toInt) (hp_3 : MI S x) (hp_4 : 0 ≤ a2_z) (hp_5 : a2_z ≤ 299) (hp_6 : 0 ≤ a3_z) (hp_7 : a3_z ≤ 599999) : Ci l yX12_told wsX12_told ({ frames := 2, cells := 0, slots := 0, locals := 96 }) G cy κ S sz [.ref x, .int (a1), .int (a2), .int (a3), .int (a4)] (fun (r : Int32) (S9 : PS) => S = S9 ∧ (True)) := by
  refine ent_m (cc := cX12_told) (maxL := 7) (ret := (some .int)) (by decide) rfl (Nat.le_of_ble_eq_true rfl) ?_
  intro p e s m below meth c ls X hr hlocks hin hw hl hsz
  subst hsz
  have X : Cx p c cX12_told 7 s [.ref x, .int (a1), .int (a2), .int (a3), .int (a4)].toArray wsX12_told RX12 m G cy κ (AS S s.heap.size) := X
  have hl : lv_has ls 7 [(0, .ref x), (1, .int (a1)), (2, .int (a2)), (3, .int (a3)), (4, .int (a4))] := hl
  have rg_a1 : (-2147483648) ≤ a1_z ∧ a1_z ≤ 2147483647 := by rw [← hz_a1]; exact ⟨z_lo _, z_hi _⟩
  have rg_a2 : (-2147483648) ≤ a2_z ∧ a2_z ≤ 2147483647 := by rw [← hz_a2]; exact ⟨z_lo _, z_hi _⟩
  have rg_a3 : (-2147483648) ≤ a3_z ∧ a3_z ≤ 2147483647 := by rw [← hz_a3]; exact ⟨z_lo _, z_hi _⟩
  have rg_a4 : (-2147483648) ≤ a4_z ∧ a4_z ≤ 2147483647 := by rw [← hz_a4]; exact ⟨z_lo _, z_hi _⟩
  generalize hQQ : MQ below _ _ _ _ _ _ = QQ
  replace hQQ := hQQ.symm
  have h7 := MI_7 hp_3 (k := a1_z) (by omega) (by omega)
  refine lv_iload_n X.1 X.2.1 dX12_told_0 rfl (lv_at hl 3 rfl) ?_
  refine lv_sipush (v := 1000) X.1 X.2.1 dX12_told_1 (by decide) ?_
  refine lv_idiv X.1 X.2.1 dX12_told_4 (by decide) ?_
  refine lv_topi (fun v_1 ev_1 => ?_)
  have z_2 : v_1.toInt = a3_z / 1000 := z_div ev_1 hz_a3 ti_1000 (by omega) (by omega)
  refine lv_istore (lv' := [(5, .int (v_1)), (0, .ref x), (1, .int (a1)), (2, .int (a2)), (3, .int (a3)), (4, .int (a4))]) X.1 X.2.1 dX12_told_5 hl (by decide) rfl (fun ls hl => ?_)
  refine lv_iload X.1 X.2.1 dX12_told_7 (lv_at hl 5 rfl) ?_
  by_cases w_3 : (a4).toInt < 0 ∨ 4 < (a4).toInt
  · refine lv_tableOut (tgt := 64) X.1 X.2.1 dX12_told_9 w_3 (by decide) ?_
    refine lv_iconst (v := 1) X.1 X.2.1 dX12_told_64 (by decide) ?_
    refine lv_istore (lv' := [(6, .int 1), (5, .int (v_1)), (0, .ref x), (1, .int (a1)), (2, .int (a2)), (3, .int (a3)), (4, .int (a4))]) X.1 X.2.1 dX12_told_65 hl (by decide) rfl (fun ls hl => ?_)
    have L_4 : ∀ (n : Nat) (H : Heap) (locs : List Loc) (ls : Array Slot) (i6_5 : Int32) (i6_5_z : Int), ((300 - i6_5_z).toNat = n) → (Wd G cy (AS S s.heap.size) s.heap S H locs) → (i6_5.toInt = i6_5_z) → (1 ≤ i6_5_z ∧ i6_5_z ≤ 300) → (lv_has ls 7 [(6, .int (i6_5)), (5, .int (v_1)), (0, .ref x), (1, .int (a1)), (2, .int (a2)), (3, .int (a3)), (4, .int (a4))]) → W p l e ({ frames := 2, cells := 0, slots := 0, locals := 96 }) s m [.ref x, .int (a1), .int (a2), .int (a3), .int (a4)].toArray below meth c H locs 0 0 QQ (F0 m 67 ls []) := by
      intro n
      induction n using Nat.strongRecOn with
      | ind n ih_L_4 =>
      intro H locs ls i6_5 i6_5_z hn hw hz_i6_5 hr_i6_5 hl
      have rg_6 : (-2147483648) ≤ i6_5_z ∧ i6_5_z ≤ 2147483647 := by rw [← hz_i6_5]; exact ⟨z_lo _, z_hi _⟩
      refine lv_iload_n X.1 X.2.1 dX12_told_67 rfl (lv_at hl 4 rfl) ?_
      refine lv_iload X.1 X.2.1 dX12_told_68 (lv_at hl 0 rfl) ?_
      refine lv_iadd X.1 X.2.1 dX12_told_70 ?_
      refine lv_topi (fun v_7 ev_7 => ?_)
      have z_8 : v_7.toInt = a2_z + i6_5_z := z_add ev_7 hz_a2 hz_i6_5 (by omega) (by omega)
      refine lv_aload_n X.1 X.2.1 dX12_told_71 rfl (lv_at hl 2 rfl) ?_
      refine lv_iload_n X.1 X.2.1 dX12_told_72 rfl (lv_at hl 3 rfl) ?_
      refine k_i (rm := { frames := 1, cells := 0, slots := 0, locals := 48 }) (av := [.ref x, .int (a1)]) X hw (va_runV (As := [.int (a1)]) (rest := [.int (v_7)]) (cfix X) (k_X12_metres l G cy κ S _ x (a1) (a1_z) hG ha_x hz_a1 (by first | assumption | omega) (by first | assumption | omega) (by first | assumption | omega) hp_3) (cwV 1 X.2.2.2.1 gX12_told_X12_metres rfl rfl rfl (by decide +kernel) ⟨Nat.le_of_ble_eq_true rfl, Nat.le_of_ble_eq_true rfl⟩) (pre_V X hw _ ha_x rfl (by decide) rfl) rfl rfl hl.1 rfl (lv_room (Nat.le_of_ble_eq_true rfl)) dX12_told_73 ⟨Nat.le_of_ble_eq_true rfl, Nat.le_of_ble_eq_true rfl⟩) 0 0 (Nat.le_of_ble_eq_true rfl) (Nat.le_of_ble_eq_true rfl) (fun rr_9 S_10 H locs hp hw hfr hnw => ?_)
      obtain ⟨e2, hp⟩ := hp
      subst e2
      obtain ⟨f_11, f_12, f_13⟩ := hp
      refine lv_icmp_ge (tgt := 106) X.1 X.2.1 dX12_told_76 (by decide) (fun c_14 => ?_) (fun c_14 => ?_)
      · have z_b_15 := trivial
        have k_16 : (a2_z + i6_5_z) ≥ rr_9.toInt := z_le rfl z_8 c_14
        refine lv_iload X.1 X.2.1 dX12_told_106 (lv_at hl 0 rfl) ?_
        rw [hQQ]
        exact ret_i X hw hr hlocks (Nat.le_of_ble_eq_true rfl) (Nat.le_of_ble_eq_true rfl) ⟨rfl, trivial⟩ dX12_told_108
      · have z_b_17 := trivial
        have k_18 : (a2_z + i6_5_z) < rr_9.toInt := z_nle rfl z_8 c_14
        refine lv_aload_n X.1 X.2.1 dX12_told_79 rfl (lv_at hl 2 rfl) ?_
        refine lv_aload_n X.1 X.2.1 dX12_told_80 rfl (lv_at hl 2 rfl) ?_
        obtain ⟨q_19, h_20, h_21, h_22⟩ := gQ_12_1239 hG ha_x
        refine r_getR (g := 1239) X hw ha_x rfl 39 h_20 (by decide) rfl inn_X12_told_12 (by decide) (X.2.2.2.1 (.fieldLink RX12 100 "SilkMillModel" "firstMetre" "[I") (by decide +kernel)) rfl (gv_1239 _ _) dX12_told_81 ?_
        refine lv_iload_n X.1 X.2.1 dX12_told_84 rfl (lv_at hl 3 rfl) ?_
        refine r_iald X hw h_21 rfl (by rw [h_22]; exact z_ix hz_a1 (by omega) (by omega)) dX12_told_85 ?_
        refine lv_topi (fun v_23 ev_23 => ?_)
        have z_24 := gE_994 hG h_21 (Int32.toNatClampNeg (a1)); rw [← ev_23] at z_24
        have ev_23 := ev_23.symm
        have zf_25 : zA S x 1239 (a1_z).toNat = v_23.toInt := (zA_of h_20 hz_a1 (by omega) ev_23)
        refine lv_iload_n X.1 X.2.1 dX12_told_86 rfl (lv_at hl 4 rfl) ?_
        refine lv_iadd X.1 X.2.1 dX12_told_87 ?_
        refine lv_topi (fun v_26 ev_26 => ?_)
        have z_27 : v_26.toInt = v_23.toInt + a2_z := z_add ev_26 rfl hz_a2 (by omega) (by omega)
        refine lv_iload X.1 X.2.1 dX12_told_88 (lv_at hl 0 rfl) ?_
        refine lv_iadd X.1 X.2.1 dX12_told_90 ?_
        refine lv_topi (fun v_28 ev_28 => ?_)
        have z_29 : v_28.toInt = (v_23.toInt + a2_z) + i6_5_z := z_add ev_28 z_27 hz_i6_5 (by omega) (by omega)
        refine lv_iload X.1 X.2.1 dX12_told_91 (lv_at hl 1 rfl) ?_
        refine k_i (rm := { frames := 1, cells := 0, slots := 0, locals := 48 }) (av := [.ref x, .int (v_28), .int (v_1)]) X hw (va_runV (As := [.int (v_28), .int (v_1)]) (rest := []) (cfix X) (k_X12_endOf l G cy κ S _ x (v_28) (((v_23.toInt + a2_z) + i6_5_z)) (v_1) ((a3_z / 1000)) hG ha_x z_29 z_2 (by first | assumption | omega) (by first | assumption | omega)) (cwV 2 X.2.2.2.1 gX12_told_X12_endOf rfl rfl rfl (by decide +kernel) ⟨Nat.le_of_ble_eq_true rfl, Nat.le_of_ble_eq_true rfl⟩) (pre_V X hw _ ha_x rfl (by decide) rfl) rfl rfl hl.1 rfl (lv_room (Nat.le_of_ble_eq_true rfl)) dX12_told_93 ⟨Nat.le_of_ble_eq_true rfl, Nat.le_of_ble_eq_true rfl⟩) 0 0 (Nat.le_of_ble_eq_true rfl) (Nat.le_of_ble_eq_true rfl) (fun rr_30 S_31 H locs hp hw hfr hnw => ?_)
        obtain ⟨e2, hp⟩ := hp
        subst e2
        have rg_32 := And.intro (z_lo rr_30) (z_hi rr_30)
        refine lv_iconst (v := (-1)) X.1 X.2.1 dX12_told_96 (by decide) ?_
        refine lv_icmp_eq (tgt := 106) X.1 X.2.1 dX12_told_97 (by decide) (fun c_33 => ?_) (fun c_33 => ?_)
        · have z_b_34 := trivial
          have k_35 : rr_30.toInt = (-1) := z_eq rfl ti_m1 c_33
          refine lv_iload X.1 X.2.1 dX12_told_106 (lv_at hl 0 rfl) ?_
          rw [hQQ]
          exact ret_i X hw hr hlocks (Nat.le_of_ble_eq_true rfl) (Nat.le_of_ble_eq_true rfl) ⟨rfl, trivial⟩ dX12_told_108
        · have z_b_36 := trivial
          have k_37 : rr_30.toInt ≠ (-1) := z_ne rfl ti_m1 c_33
          obtain ⟨x_38, ex_38⟩ : ∃ y : Int32, y = i6_5 + 1 := ⟨_, rfl⟩
          have z_39 : x_38.toInt = i6_5_z + 1 := z_add ex_38 hz_i6_5 ti_1 (by omega) (by omega)
          refine lv_iinc (v := x_38) (lv' := [(6, .int (x_38)), (5, .int (v_1)), (0, .ref x), (1, .int (a1)), (2, .int (a2)), (3, .int (a3)), (4, .int (a4))]) X.1 X.2.1 dX12_told_100 hl (k := 0) rfl (by rw [ex_38]; rfl) (by decide) rfl (fun ls hl => ?_)
          refine lv_goto (tgt := 67) X.1 X.2.1 dX12_told_103 (by decide) ?_
          exact ih_L_4 _ (by omega) _ _ _ (x_38) (x_38.toInt) rfl hw rfl (by omega) (lv_sub hl [0, 1, 2, 3, 4, 5, 6] rfl)
    exact L_4 _ _ _ _ (1) (1) rfl hw ti_1 (by omega) (lv_sub hl [0, 1, 2, 3, 4, 5, 6] rfl)
  have w_3b : (a4).toInt = 0 ∨ (a4).toInt = 1 ∨ (a4).toInt = 2 ∨ (a4).toInt = 3 ∨ (a4).toInt = 4 := by omega
  rcases w_3b with w_3c | w_3c | w_3c | w_3c | w_3c
  · refine lv_tableIn (tgt := 44) X.1 X.2.1 dX12_told_9 (by omega) (by omega) (by rw [w_3c]; rfl) (by decide) ?_
    refine lv_iload X.1 X.2.1 dX12_told_44 (lv_at hl 0 rfl) ?_
    refine lv_bipush (v := 60) X.1 X.2.1 dX12_told_46 (by decide) ?_
    refine lv_idiv X.1 X.2.1 dX12_told_48 (by decide) ?_
    refine lv_topi (fun v_40 ev_40 => ?_)
    have z_41 : v_40.toInt = (a3_z / 1000) / 60 := z_div ev_40 z_2 ti_60 (by omega) (by omega)
    rw [hQQ]
    exact ret_i X hw hr hlocks (Nat.le_of_ble_eq_true rfl) (Nat.le_of_ble_eq_true rfl) ⟨rfl, trivial⟩ dX12_told_49
  · refine lv_tableIn (tgt := 50) X.1 X.2.1 dX12_told_9 (by omega) (by omega) (by rw [w_3c]; rfl) (by decide) ?_
    refine lv_iload X.1 X.2.1 dX12_told_50 (lv_at hl 0 rfl) ?_
    refine lv_bipush (v := 60) X.1 X.2.1 dX12_told_52 (by decide) ?_
    refine lv_irem X.1 X.2.1 dX12_told_54 (by decide) ?_
    refine lv_topi (fun v_42 ev_42 => ?_)
    have z_43 : v_42.toInt = (a3_z / 1000) % 60 := z_rem ev_42 z_2 ti_60 (by omega) (by omega)
    have z_44 : 0 ≤ v_42.toInt ∧ v_42.toInt < 60 := by rw [z_43]; exact ⟨Int.emod_nonneg _ (by omega), Int.emod_lt_of_pos _ (by omega)⟩
    rw [hQQ]
    exact ret_i X hw hr hlocks (Nat.le_of_ble_eq_true rfl) (Nat.le_of_ble_eq_true rfl) ⟨rfl, trivial⟩ dX12_told_55
  · refine lv_tableIn (tgt := 56) X.1 X.2.1 dX12_told_9 (by omega) (by omega) (by rw [w_3c]; rfl) (by decide) ?_
    refine lv_iload_n X.1 X.2.1 dX12_told_56 rfl (lv_at hl 3 rfl) ?_
    rw [hQQ]
    exact ret_i X hw hr hlocks (Nat.le_of_ble_eq_true rfl) (Nat.le_of_ble_eq_true rfl) ⟨rfl, trivial⟩ dX12_told_57
  · refine lv_tableIn (tgt := 64) X.1 X.2.1 dX12_told_9 (by omega) (by omega) (by rw [w_3c]; rfl) (by decide) ?_
    refine lv_iconst (v := 1) X.1 X.2.1 dX12_told_64 (by decide) ?_
    refine lv_istore (lv' := [(6, .int 1), (5, .int (v_1)), (0, .ref x), (1, .int (a1)), (2, .int (a2)), (3, .int (a3)), (4, .int (a4))]) X.1 X.2.1 dX12_told_65 hl (by decide) rfl (fun ls hl => ?_)
    have L_45 : ∀ (n : Nat) (H : Heap) (locs : List Loc) (ls : Array Slot) (i6_46 : Int32) (i6_46_z : Int), ((300 - i6_46_z).toNat = n) → (Wd G cy (AS S s.heap.size) s.heap S H locs) → (i6_46.toInt = i6_46_z) → (1 ≤ i6_46_z ∧ i6_46_z ≤ 300) → (lv_has ls 7 [(6, .int (i6_46)), (5, .int (v_1)), (0, .ref x), (1, .int (a1)), (2, .int (a2)), (3, .int (a3)), (4, .int (a4))]) → W p l e ({ frames := 2, cells := 0, slots := 0, locals := 96 }) s m [.ref x, .int (a1), .int (a2), .int (a3), .int (a4)].toArray below meth c H locs 0 0 QQ (F0 m 67 ls []) := by
      intro n
      induction n using Nat.strongRecOn with
      | ind n ih_L_45 =>
      intro H locs ls i6_46 i6_46_z hn hw hz_i6_46 hr_i6_46 hl
      have rg_47 : (-2147483648) ≤ i6_46_z ∧ i6_46_z ≤ 2147483647 := by rw [← hz_i6_46]; exact ⟨z_lo _, z_hi _⟩
      refine lv_iload_n X.1 X.2.1 dX12_told_67 rfl (lv_at hl 4 rfl) ?_
      refine lv_iload X.1 X.2.1 dX12_told_68 (lv_at hl 0 rfl) ?_
      refine lv_iadd X.1 X.2.1 dX12_told_70 ?_
      refine lv_topi (fun v_48 ev_48 => ?_)
      have z_49 : v_48.toInt = a2_z + i6_46_z := z_add ev_48 hz_a2 hz_i6_46 (by omega) (by omega)
      refine lv_aload_n X.1 X.2.1 dX12_told_71 rfl (lv_at hl 2 rfl) ?_
      refine lv_iload_n X.1 X.2.1 dX12_told_72 rfl (lv_at hl 3 rfl) ?_
      refine k_i (rm := { frames := 1, cells := 0, slots := 0, locals := 48 }) (av := [.ref x, .int (a1)]) X hw (va_runV (As := [.int (a1)]) (rest := [.int (v_48)]) (cfix X) (k_X12_metres l G cy κ S _ x (a1) (a1_z) hG ha_x hz_a1 (by first | assumption | omega) (by first | assumption | omega) (by first | assumption | omega) hp_3) (cwV 1 X.2.2.2.1 gX12_told_X12_metres rfl rfl rfl (by decide +kernel) ⟨Nat.le_of_ble_eq_true rfl, Nat.le_of_ble_eq_true rfl⟩) (pre_V X hw _ ha_x rfl (by decide) rfl) rfl rfl hl.1 rfl (lv_room (Nat.le_of_ble_eq_true rfl)) dX12_told_73 ⟨Nat.le_of_ble_eq_true rfl, Nat.le_of_ble_eq_true rfl⟩) 0 0 (Nat.le_of_ble_eq_true rfl) (Nat.le_of_ble_eq_true rfl) (fun rr_50 S_51 H locs hp hw hfr hnw => ?_)
      obtain ⟨e2, hp⟩ := hp
      subst e2
      obtain ⟨f_52, f_53, f_54⟩ := hp
      refine lv_icmp_ge (tgt := 106) X.1 X.2.1 dX12_told_76 (by decide) (fun c_55 => ?_) (fun c_55 => ?_)
      · have z_b_56 := trivial
        have k_57 : (a2_z + i6_46_z) ≥ rr_50.toInt := z_le rfl z_49 c_55
        refine lv_iload X.1 X.2.1 dX12_told_106 (lv_at hl 0 rfl) ?_
        rw [hQQ]
        exact ret_i X hw hr hlocks (Nat.le_of_ble_eq_true rfl) (Nat.le_of_ble_eq_true rfl) ⟨rfl, trivial⟩ dX12_told_108
      · have z_b_58 := trivial
        have k_59 : (a2_z + i6_46_z) < rr_50.toInt := z_nle rfl z_49 c_55
        refine lv_aload_n X.1 X.2.1 dX12_told_79 rfl (lv_at hl 2 rfl) ?_
        refine lv_aload_n X.1 X.2.1 dX12_told_80 rfl (lv_at hl 2 rfl) ?_
        obtain ⟨q_60, h_61, h_62, h_63⟩ := gQ_12_1239 hG ha_x
        refine r_getR (g := 1239) X hw ha_x rfl 39 h_61 (by decide) rfl inn_X12_told_12 (by decide) (X.2.2.2.1 (.fieldLink RX12 100 "SilkMillModel" "firstMetre" "[I") (by decide +kernel)) rfl (gv_1239 _ _) dX12_told_81 ?_
        refine lv_iload_n X.1 X.2.1 dX12_told_84 rfl (lv_at hl 3 rfl) ?_
        refine r_iald X hw h_62 rfl (by rw [h_63]; exact z_ix hz_a1 (by omega) (by omega)) dX12_told_85 ?_
        refine lv_topi (fun v_64 ev_64 => ?_)
        have z_65 := gE_994 hG h_62 (Int32.toNatClampNeg (a1)); rw [← ev_64] at z_65
        have ev_64 := ev_64.symm
        have zf_66 : zA S x 1239 (a1_z).toNat = v_64.toInt := (zA_of h_61 hz_a1 (by omega) ev_64)
        refine lv_iload_n X.1 X.2.1 dX12_told_86 rfl (lv_at hl 4 rfl) ?_
        refine lv_iadd X.1 X.2.1 dX12_told_87 ?_
        refine lv_topi (fun v_67 ev_67 => ?_)
        have z_68 : v_67.toInt = v_64.toInt + a2_z := z_add ev_67 rfl hz_a2 (by omega) (by omega)
        refine lv_iload X.1 X.2.1 dX12_told_88 (lv_at hl 0 rfl) ?_
        refine lv_iadd X.1 X.2.1 dX12_told_90 ?_
        refine lv_topi (fun v_69 ev_69 => ?_)
        have z_70 : v_69.toInt = (v_64.toInt + a2_z) + i6_46_z := z_add ev_69 z_68 hz_i6_46 (by omega) (by omega)
        refine lv_iload X.1 X.2.1 dX12_told_91 (lv_at hl 1 rfl) ?_
        refine k_i (rm := { frames := 1, cells := 0, slots := 0, locals := 48 }) (av := [.ref x, .int (v_69), .int (v_1)]) X hw (va_runV (As := [.int (v_69), .int (v_1)]) (rest := []) (cfix X) (k_X12_endOf l G cy κ S _ x (v_69) (((v_64.toInt + a2_z) + i6_46_z)) (v_1) ((a3_z / 1000)) hG ha_x z_70 z_2 (by first | assumption | omega) (by first | assumption | omega)) (cwV 2 X.2.2.2.1 gX12_told_X12_endOf rfl rfl rfl (by decide +kernel) ⟨Nat.le_of_ble_eq_true rfl, Nat.le_of_ble_eq_true rfl⟩) (pre_V X hw _ ha_x rfl (by decide) rfl) rfl rfl hl.1 rfl (lv_room (Nat.le_of_ble_eq_true rfl)) dX12_told_93 ⟨Nat.le_of_ble_eq_true rfl, Nat.le_of_ble_eq_true rfl⟩) 0 0 (Nat.le_of_ble_eq_true rfl) (Nat.le_of_ble_eq_true rfl) (fun rr_71 S_72 H locs hp hw hfr hnw => ?_)
        obtain ⟨e2, hp⟩ := hp
        subst e2
        have rg_73 := And.intro (z_lo rr_71) (z_hi rr_71)
        refine lv_iconst (v := (-1)) X.1 X.2.1 dX12_told_96 (by decide) ?_
        refine lv_icmp_eq (tgt := 106) X.1 X.2.1 dX12_told_97 (by decide) (fun c_74 => ?_) (fun c_74 => ?_)
        · have z_b_75 := trivial
          have k_76 : rr_71.toInt = (-1) := z_eq rfl ti_m1 c_74
          refine lv_iload X.1 X.2.1 dX12_told_106 (lv_at hl 0 rfl) ?_
          rw [hQQ]
          exact ret_i X hw hr hlocks (Nat.le_of_ble_eq_true rfl) (Nat.le_of_ble_eq_true rfl) ⟨rfl, trivial⟩ dX12_told_108
        · have z_b_77 := trivial
          have k_78 : rr_71.toInt ≠ (-1) := z_ne rfl ti_m1 c_74
          obtain ⟨x_79, ex_79⟩ : ∃ y : Int32, y = i6_46 + 1 := ⟨_, rfl⟩
          have z_80 : x_79.toInt = i6_46_z + 1 := z_add ex_79 hz_i6_46 ti_1 (by omega) (by omega)
          refine lv_iinc (v := x_79) (lv' := [(6, .int (x_79)), (5, .int (v_1)), (0, .ref x), (1, .int (a1)), (2, .int (a2)), (3, .int (a3)), (4, .int (a4))]) X.1 X.2.1 dX12_told_100 hl (k := 0) rfl (by rw [ex_79]; rfl) (by decide) rfl (fun ls hl => ?_)
          refine lv_goto (tgt := 67) X.1 X.2.1 dX12_told_103 (by decide) ?_
          exact ih_L_45 _ (by omega) _ _ _ (x_79) (x_79.toInt) rfl hw rfl (by omega) (lv_sub hl [0, 1, 2, 3, 4, 5, 6] rfl)
    exact L_45 _ _ _ _ (1) (1) rfl hw ti_1 (by omega) (lv_sub hl [0, 1, 2, 3, 4, 5, 6] rfl)
  · refine lv_tableIn (tgt := 58) X.1 X.2.1 dX12_told_9 (by omega) (by omega) (by rw [w_3c]; rfl) (by decide) ?_
    refine lv_iload_n X.1 X.2.1 dX12_told_58 rfl (lv_at hl 4 rfl) ?_
    refine lv_sipush (v := 1000) X.1 X.2.1 dX12_told_59 (by decide) ?_
    refine lv_irem X.1 X.2.1 dX12_told_62 (by decide) ?_
    refine lv_topi (fun v_81 ev_81 => ?_)
    have z_82 : v_81.toInt = a3_z % 1000 := z_rem ev_81 hz_a3 ti_1000 (by omega) (by omega)
    have z_83 : 0 ≤ v_81.toInt ∧ v_81.toInt < 1000 := by rw [z_82]; exact ⟨Int.emod_nonneg _ (by omega), Int.emod_lt_of_pos _ (by omega)⟩
    rw [hQQ]
    exact ret_i X hw hr hlocks (Nat.le_of_ble_eq_true rfl) (Nat.le_of_ble_eq_true rfl) ⟨rfl, trivial⟩ dX12_told_63
set_option maxHeartbeats 4000000 in
set_option maxRecDepth 100000 in
theorem k_X12_skein (l : Launch) (G : va_G) (cy : Nat → ClassId) (κ : Nat → Nat) (S : PS) (sz : Nat) (x : Nat) (a1 : Int32) (a1_z : Int) (a2 : Int32) (a2_z : Int) (hG : GX S) (ha_x : At S x 12) (hz_a1 : a1.toInt = a1_z) (hz_a2 : a2.toInt = a2_z) (hp_0 : MI S x) : Ci l yX12_skein wsX12_skein ({ frames := 8, cells := 0, slots := 0, locals := 384 }) G cy κ S sz [.ref x, .int (a1), .int (a2)] (fun (r : Int32) (S9 : PS) => Ok MN S S9 ∧ (True)) := by
  refine ent_m (cc := cX12_skein) (maxL := 3) (ret := (some .int)) (by decide) rfl (Nat.le_of_ble_eq_true rfl) ?_
  intro p e s m below meth c ls X hr hlocks hin hw hl hsz
  subst hsz
  have X : Cx p c cX12_skein 3 s [.ref x, .int (a1), .int (a2)].toArray wsX12_skein RX12 m G cy κ (AS S s.heap.size) := X
  have hl : lv_has ls 3 [(0, .ref x), (1, .int (a1)), (2, .int (a2))] := hl
  have rg_a1 : (-2147483648) ≤ a1_z ∧ a1_z ≤ 2147483647 := by rw [← hz_a1]; exact ⟨z_lo _, z_hi _⟩
  have rg_a2 : (-2147483648) ≤ a2_z ∧ a2_z ≤ 2147483647 := by rw [← hz_a2]; exact ⟨z_lo _, z_hi _⟩
  have hO : Ok MN S S := Ok.rf hG
  refine lv_aload_n X.1 X.2.1 dX12_skein_0 rfl (lv_at hl 0 rfl) ?_
  refine lv_iconst (v := 0) X.1 X.2.1 dX12_skein_1 (by decide) ?_
  refine r_putI (v := 0) X hw ha_x rfl 0 1200 tyX12 (by decide) rfl inn_X12_skein_12 tyX12_ok nmX12 (by decide) (X.2.2.2.1 (.fieldLink RX12 161 "SilkMillModel" "thrown" "I") (by decide +kernel)) rfl (Or.inl rfl) rfl rfl (Nat.le_of_ble_eq_true rfl) (st_1200 _ _) dX12_skein_2 (fun H locs hw => ?_)
  obtain ⟨S_1, eS_1⟩ : ∃ T, T = sI S 1200 x (0) := ⟨_, rfl⟩
  rw [← eS_1] at hw
  have hO_2 : Ok MN S S_1 := hO.sI eS_1 (by decide +kernel) (uI_12_1200 hO.1 ha_x)
  have h_3 : pI S_1 1200 x = 0 := tI_sIs eS_1
  refine lv_aload_n X.1 X.2.1 dX12_skein_5 rfl (lv_at hl 0 rfl) ?_
  refine lv_iload_n X.1 X.2.1 dX12_skein_6 rfl (lv_at hl 1 rfl) ?_
  have t_4 : At S_1 x 12 := tAt_sI eS_1 ha_x
  refine k_i (rm := { frames := 2, cells := 0, slots := 0, locals := 96 }) (av := [.ref x, .int (a1)]) X hw (va_runV (As := [.int (a1)]) (rest := []) (cfix X) (k_X12_isSkein l G cy κ S_1 _ x (a1) (a1_z) hO_2.1 t_4 hz_a1) (cwV 1 X.2.2.2.1 gX12_skein_X12_isSkein rfl rfl rfl (by decide +kernel) ⟨Nat.le_of_ble_eq_true rfl, Nat.le_of_ble_eq_true rfl⟩) (pre_V X hw _ t_4 rfl (by decide) rfl) rfl rfl hl.1 rfl (lv_room (Nat.le_of_ble_eq_true rfl)) dX12_skein_7 ⟨Nat.le_of_ble_eq_true rfl, Nat.le_of_ble_eq_true rfl⟩) 0 0 (Nat.le_of_ble_eq_true rfl) (Nat.le_of_ble_eq_true rfl) (fun rr_5 S_6 H locs hp hw hfr hnw => ?_)
  obtain ⟨e2, hp⟩ := hp
  subst e2
  rcases hp with ⟨f_7, er_8⟩ | ⟨f_7, er_8⟩ <;> subst er_8
  · have z_b_9 := trivial
    refine lv_if_ne (tgt := 15) X.1 X.2.1 dX12_skein_10 (by decide) (fun c_10 => ?_) (fun c_10 => absurd c_10 (by decide))
    refine lv_iload_n X.1 X.2.1 dX12_skein_15 rfl (lv_at hl 2 rfl) ?_
    by_cases w_11 : (a2).toInt < 0 ∨ 11 < (a2).toInt
    · refine lv_tableOut (tgt := 168) X.1 X.2.1 dX12_skein_16 w_11 (by decide) ?_
      refine lv_iconst (v := (-1)) X.1 X.2.1 dX12_skein_168 (by decide) ?_
      exact ret_i X hw hr hlocks (Nat.le_of_ble_eq_true rfl) (Nat.le_of_ble_eq_true rfl) ⟨hO_2, trivial⟩ dX12_skein_169
    have w_11b : (a2).toInt = 0 ∨ (a2).toInt = 1 ∨ (a2).toInt = 2 ∨ (a2).toInt = 3 ∨ (a2).toInt = 4 ∨ (a2).toInt = 5 ∨ (a2).toInt = 6 ∨ (a2).toInt = 7 ∨ (a2).toInt = 8 ∨ (a2).toInt = 9 ∨ (a2).toInt = 10 ∨ (a2).toInt = 11 := by omega
    rcases w_11b with w_11c | w_11c | w_11c | w_11c | w_11c | w_11c | w_11c | w_11c | w_11c | w_11c | w_11c | w_11c
    · refine lv_tableIn (tgt := 80) X.1 X.2.1 dX12_skein_16 (by omega) (by omega) (by rw [w_11c]; rfl) (by decide) ?_
      refine lv_aload_n X.1 X.2.1 dX12_skein_80 rfl (lv_at hl 0 rfl) ?_
      obtain ⟨q_12, h_13, h_14, h_15⟩ := gQ_12_1240 hO_2.1 t_4
      refine r_getR (g := 1240) X hw t_4 rfl 40 h_13 (by decide) rfl inn_X12_skein_12 (by decide) (X.2.2.2.1 (.fieldLink RX12 103 "SilkMillModel" "skeinPot" "[I") (by decide +kernel)) rfl (gv_1240 _ _) dX12_skein_81 ?_
      refine lv_iload_n X.1 X.2.1 dX12_skein_84 rfl (lv_at hl 1 rfl) ?_
      refine r_iald X hw h_14 rfl (by rw [h_15]; exact z_ix hz_a1 (by omega) (by omega)) dX12_skein_85 ?_
      refine lv_topi (fun v_16 ev_16 => ?_)
      have rg_17 := And.intro (z_lo v_16) (z_hi v_16)
      have ev_16 := ev_16.symm
      exact ret_i X hw hr hlocks (Nat.le_of_ble_eq_true rfl) (Nat.le_of_ble_eq_true rfl) ⟨hO_2, trivial⟩ dX12_skein_86
    · refine lv_tableIn (tgt := 87) X.1 X.2.1 dX12_skein_16 (by omega) (by omega) (by rw [w_11c]; rfl) (by decide) ?_
      refine lv_aload_n X.1 X.2.1 dX12_skein_87 rfl (lv_at hl 0 rfl) ?_
      obtain ⟨q_18, h_19, h_20, h_21⟩ := gQ_12_1241 hO_2.1 t_4
      refine r_getR (g := 1241) X hw t_4 rfl 41 h_19 (by decide) rfl inn_X12_skein_12 (by decide) (X.2.2.2.1 (.fieldLink RX12 106 "SilkMillModel" "skeinDay" "[I") (by decide +kernel)) rfl (gv_1241 _ _) dX12_skein_88 ?_
      refine lv_iload_n X.1 X.2.1 dX12_skein_91 rfl (lv_at hl 1 rfl) ?_
      refine r_iald X hw h_20 rfl (by rw [h_21]; exact z_ix hz_a1 (by omega) (by omega)) dX12_skein_92 ?_
      refine lv_topi (fun v_22 ev_22 => ?_)
      have rg_23 := And.intro (z_lo v_22) (z_hi v_22)
      have ev_22 := ev_22.symm
      exact ret_i X hw hr hlocks (Nat.le_of_ble_eq_true rfl) (Nat.le_of_ble_eq_true rfl) ⟨hO_2, trivial⟩ dX12_skein_93
    · refine lv_tableIn (tgt := 94) X.1 X.2.1 dX12_skein_16 (by omega) (by omega) (by rw [w_11c]; rfl) (by decide) ?_
      refine lv_aload_n X.1 X.2.1 dX12_skein_94 rfl (lv_at hl 0 rfl) ?_
      refine lv_iload_n X.1 X.2.1 dX12_skein_95 rfl (lv_at hl 1 rfl) ?_
      refine k_i (rm := { frames := 1, cells := 0, slots := 0, locals := 48 }) (av := [.ref x, .int (a1)]) X hw (va_runV (As := [.int (a1)]) (rest := []) (cfix X) (k_X12_metres l G cy κ S_1 _ x (a1) (a1_z) hO_2.1 t_4 hz_a1 (by first | assumption | omega) (by first | assumption | omega) (by first | assumption | omega) (MIe_free hG ha_x hO_2.fr (by decide +kernel) hp_0)) (cwV 1 X.2.2.2.1 gX12_skein_X12_metres rfl rfl rfl (by decide +kernel) ⟨Nat.le_of_ble_eq_true rfl, Nat.le_of_ble_eq_true rfl⟩) (pre_V X hw _ t_4 rfl (by decide) rfl) rfl rfl hl.1 rfl (lv_room (Nat.le_of_ble_eq_true rfl)) dX12_skein_96 ⟨Nat.le_of_ble_eq_true rfl, Nat.le_of_ble_eq_true rfl⟩) 0 0 (Nat.le_of_ble_eq_true rfl) (Nat.le_of_ble_eq_true rfl) (fun rr_24 S_25 H locs hp hw hfr hnw => ?_)
      obtain ⟨e2, hp⟩ := hp
      subst e2
      obtain ⟨f_26, f_27, f_28⟩ := hp
      exact ret_i X hw hr hlocks (Nat.le_of_ble_eq_true rfl) (Nat.le_of_ble_eq_true rfl) ⟨hO_2, trivial⟩ dX12_skein_99
    · refine lv_tableIn (tgt := 100) X.1 X.2.1 dX12_skein_16 (by omega) (by omega) (by rw [w_11c]; rfl) (by decide) ?_
      refine lv_aload_n X.1 X.2.1 dX12_skein_100 rfl (lv_at hl 0 rfl) ?_
      refine lv_iload_n X.1 X.2.1 dX12_skein_101 rfl (lv_at hl 1 rfl) ?_
      refine k_i (rm := { frames := 6, cells := 0, slots := 0, locals := 288 }) (av := [.ref x, .int (a1)]) X hw (va_runV (As := [.int (a1)]) (rest := []) (cfix X) (k_X12_weightOf l G cy κ S_1 _ x (a1) (a1_z) hO_2.1 t_4 hz_a1 (by first | assumption | omega) (by first | assumption | omega) (by first | assumption | omega) (MIe_free hG ha_x hO_2.fr (by decide +kernel) hp_0)) (cwV 1 X.2.2.2.1 gX12_skein_X12_weightOf rfl rfl rfl (by decide +kernel) ⟨Nat.le_of_ble_eq_true rfl, Nat.le_of_ble_eq_true rfl⟩) (pre_V X hw _ t_4 rfl (by decide) rfl) rfl rfl hl.1 rfl (lv_room (Nat.le_of_ble_eq_true rfl)) dX12_skein_102 ⟨Nat.le_of_ble_eq_true rfl, Nat.le_of_ble_eq_true rfl⟩) 0 0 (Nat.le_of_ble_eq_true rfl) (Nat.le_of_ble_eq_true rfl) (fun rr_29 S_30 H locs hp hw hfr hnw => ?_)
      obtain ⟨e2, hp⟩ := hp
      subst e2
      have rg_31 := And.intro (z_lo rr_29) (z_hi rr_29)
      exact ret_i X hw hr hlocks (Nat.le_of_ble_eq_true rfl) (Nat.le_of_ble_eq_true rfl) ⟨hO_2, trivial⟩ dX12_skein_105
    · refine lv_tableIn (tgt := 106) X.1 X.2.1 dX12_skein_16 (by omega) (by omega) (by rw [w_11c]; rfl) (by decide) ?_
      refine lv_aload_n X.1 X.2.1 dX12_skein_106 rfl (lv_at hl 0 rfl) ?_
      refine lv_iload_n X.1 X.2.1 dX12_skein_107 rfl (lv_at hl 1 rfl) ?_
      refine lv_iload_n X.1 X.2.1 dX12_skein_108 rfl (lv_at hl 2 rfl) ?_
      refine lv_iconst (v := 5) X.1 X.2.1 dX12_skein_109 (by decide) ?_
      refine lv_icmp_ne (tgt := 117) X.1 X.2.1 dX12_skein_110 (by decide) (fun c_32 => ?_) (fun c_32 => ?_)
      · have z_b_33 := trivial
        have k_34 : a2_z ≠ 5 := z_ne hz_a2 ti_5 c_32
        refine lv_iconst (v := 0) X.1 X.2.1 dX12_skein_117 (by decide) ?_
        refine k_i (rm := { frames := 5, cells := 0, slots := 0, locals := 240 }) (av := [.ref x, .int (a1), .int 0]) X hw (va_runV (As := [.int (a1), .int 0]) (rest := []) (cfix X) (k_X12_least l G cy κ S_1 _ x (a1) (a1_z) (0) (0) hO_2.1 t_4 hz_a1 ti_0 (by first | assumption | omega) (by first | assumption | omega) (by first | assumption | omega) (MIe_free hG ha_x hO_2.fr (by decide +kernel) hp_0)) (cwV 2 X.2.2.2.1 gX12_skein_X12_least rfl rfl rfl (by decide +kernel) ⟨Nat.le_of_ble_eq_true rfl, Nat.le_of_ble_eq_true rfl⟩) (pre_V X hw _ t_4 rfl (by decide) rfl) rfl rfl hl.1 rfl (lv_room (Nat.le_of_ble_eq_true rfl)) dX12_skein_118 ⟨Nat.le_of_ble_eq_true rfl, Nat.le_of_ble_eq_true rfl⟩) 0 0 (Nat.le_of_ble_eq_true rfl) (Nat.le_of_ble_eq_true rfl) (fun rr_35 S_36 H locs hp hw hfr hnw => ?_)
        obtain ⟨e2, hp⟩ := hp
        subst e2
        have rg_37 := And.intro (z_lo rr_35) (z_hi rr_35)
        exact ret_i X hw hr hlocks (Nat.le_of_ble_eq_true rfl) (Nat.le_of_ble_eq_true rfl) ⟨hO_2, trivial⟩ dX12_skein_121
      · have z_b_38 := trivial
        have k_39 : a2_z = 5 := z_eq hz_a2 ti_5 c_32
        refine lv_iconst (v := 1) X.1 X.2.1 dX12_skein_113 (by decide) ?_
        refine lv_goto (tgt := 118) X.1 X.2.1 dX12_skein_114 (by decide) ?_
        refine k_i (rm := { frames := 5, cells := 0, slots := 0, locals := 240 }) (av := [.ref x, .int (a1), .int 1]) X hw (va_runV (As := [.int (a1), .int 1]) (rest := []) (cfix X) (k_X12_least l G cy κ S_1 _ x (a1) (a1_z) (1) (1) hO_2.1 t_4 hz_a1 ti_1 (by first | assumption | omega) (by first | assumption | omega) (by first | assumption | omega) (MIe_free hG ha_x hO_2.fr (by decide +kernel) hp_0)) (cwV 2 X.2.2.2.1 gX12_skein_X12_least rfl rfl rfl (by decide +kernel) ⟨Nat.le_of_ble_eq_true rfl, Nat.le_of_ble_eq_true rfl⟩) (pre_V X hw _ t_4 rfl (by decide) rfl) rfl rfl hl.1 rfl (lv_room (Nat.le_of_ble_eq_true rfl)) dX12_skein_118 ⟨Nat.le_of_ble_eq_true rfl, Nat.le_of_ble_eq_true rfl⟩) 0 0 (Nat.le_of_ble_eq_true rfl) (Nat.le_of_ble_eq_true rfl) (fun rr_40 S_41 H locs hp hw hfr hnw => ?_)
        obtain ⟨e2, hp⟩ := hp
        subst e2
        have rg_42 := And.intro (z_lo rr_40) (z_hi rr_40)
        exact ret_i X hw hr hlocks (Nat.le_of_ble_eq_true rfl) (Nat.le_of_ble_eq_true rfl) ⟨hO_2, trivial⟩ dX12_skein_121
    · refine lv_tableIn (tgt := 106) X.1 X.2.1 dX12_skein_16 (by omega) (by omega) (by rw [w_11c]; rfl) (by decide) ?_
      refine lv_aload_n X.1 X.2.1 dX12_skein_106 rfl (lv_at hl 0 rfl) ?_
      refine lv_iload_n X.1 X.2.1 dX12_skein_107 rfl (lv_at hl 1 rfl) ?_
      refine lv_iload_n X.1 X.2.1 dX12_skein_108 rfl (lv_at hl 2 rfl) ?_
      refine lv_iconst (v := 5) X.1 X.2.1 dX12_skein_109 (by decide) ?_
      refine lv_icmp_ne (tgt := 117) X.1 X.2.1 dX12_skein_110 (by decide) (fun c_43 => ?_) (fun c_43 => ?_)
      · have z_b_44 := trivial
        have k_45 : a2_z ≠ 5 := z_ne hz_a2 ti_5 c_43
        refine lv_iconst (v := 0) X.1 X.2.1 dX12_skein_117 (by decide) ?_
        refine k_i (rm := { frames := 5, cells := 0, slots := 0, locals := 240 }) (av := [.ref x, .int (a1), .int 0]) X hw (va_runV (As := [.int (a1), .int 0]) (rest := []) (cfix X) (k_X12_least l G cy κ S_1 _ x (a1) (a1_z) (0) (0) hO_2.1 t_4 hz_a1 ti_0 (by first | assumption | omega) (by first | assumption | omega) (by first | assumption | omega) (MIe_free hG ha_x hO_2.fr (by decide +kernel) hp_0)) (cwV 2 X.2.2.2.1 gX12_skein_X12_least rfl rfl rfl (by decide +kernel) ⟨Nat.le_of_ble_eq_true rfl, Nat.le_of_ble_eq_true rfl⟩) (pre_V X hw _ t_4 rfl (by decide) rfl) rfl rfl hl.1 rfl (lv_room (Nat.le_of_ble_eq_true rfl)) dX12_skein_118 ⟨Nat.le_of_ble_eq_true rfl, Nat.le_of_ble_eq_true rfl⟩) 0 0 (Nat.le_of_ble_eq_true rfl) (Nat.le_of_ble_eq_true rfl) (fun rr_46 S_47 H locs hp hw hfr hnw => ?_)
        obtain ⟨e2, hp⟩ := hp
        subst e2
        have rg_48 := And.intro (z_lo rr_46) (z_hi rr_46)
        exact ret_i X hw hr hlocks (Nat.le_of_ble_eq_true rfl) (Nat.le_of_ble_eq_true rfl) ⟨hO_2, trivial⟩ dX12_skein_121
      · have z_b_49 := trivial
        have k_50 : a2_z = 5 := z_eq hz_a2 ti_5 c_43
        refine lv_iconst (v := 1) X.1 X.2.1 dX12_skein_113 (by decide) ?_
        refine lv_goto (tgt := 118) X.1 X.2.1 dX12_skein_114 (by decide) ?_
        refine k_i (rm := { frames := 5, cells := 0, slots := 0, locals := 240 }) (av := [.ref x, .int (a1), .int 1]) X hw (va_runV (As := [.int (a1), .int 1]) (rest := []) (cfix X) (k_X12_least l G cy κ S_1 _ x (a1) (a1_z) (1) (1) hO_2.1 t_4 hz_a1 ti_1 (by first | assumption | omega) (by first | assumption | omega) (by first | assumption | omega) (MIe_free hG ha_x hO_2.fr (by decide +kernel) hp_0)) (cwV 2 X.2.2.2.1 gX12_skein_X12_least rfl rfl rfl (by decide +kernel) ⟨Nat.le_of_ble_eq_true rfl, Nat.le_of_ble_eq_true rfl⟩) (pre_V X hw _ t_4 rfl (by decide) rfl) rfl rfl hl.1 rfl (lv_room (Nat.le_of_ble_eq_true rfl)) dX12_skein_118 ⟨Nat.le_of_ble_eq_true rfl, Nat.le_of_ble_eq_true rfl⟩) 0 0 (Nat.le_of_ble_eq_true rfl) (Nat.le_of_ble_eq_true rfl) (fun rr_51 S_52 H locs hp hw hfr hnw => ?_)
        obtain ⟨e2, hp⟩ := hp
        subst e2
        have rg_53 := And.intro (z_lo rr_51) (z_hi rr_51)
        exact ret_i X hw hr hlocks (Nat.le_of_ble_eq_true rfl) (Nat.le_of_ble_eq_true rfl) ⟨hO_2, trivial⟩ dX12_skein_121
    · refine lv_tableIn (tgt := 122) X.1 X.2.1 dX12_skein_16 (by omega) (by omega) (by rw [w_11c]; rfl) (by decide) ?_
      refine lv_aload_n X.1 X.2.1 dX12_skein_122 rfl (lv_at hl 0 rfl) ?_
      refine lv_iload_n X.1 X.2.1 dX12_skein_123 rfl (lv_at hl 1 rfl) ?_
      refine k_i (rm := { frames := 5, cells := 0, slots := 0, locals := 240 }) (av := [.ref x, .int (a1)]) X hw (va_runV (As := [.int (a1)]) (rest := []) (cfix X) (k_X12_slips l G cy κ S_1 _ x (a1) (a1_z) hO_2.1 t_4 hz_a1 (by first | assumption | omega) (by first | assumption | omega) (by first | assumption | omega) (MIe_free hG ha_x hO_2.fr (by decide +kernel) hp_0)) (cwV 1 X.2.2.2.1 gX12_skein_X12_slips rfl rfl rfl (by decide +kernel) ⟨Nat.le_of_ble_eq_true rfl, Nat.le_of_ble_eq_true rfl⟩) (pre_V X hw _ t_4 rfl (by decide) rfl) rfl rfl hl.1 rfl (lv_room (Nat.le_of_ble_eq_true rfl)) dX12_skein_124 ⟨Nat.le_of_ble_eq_true rfl, Nat.le_of_ble_eq_true rfl⟩) 0 0 (Nat.le_of_ble_eq_true rfl) (Nat.le_of_ble_eq_true rfl) (fun rr_54 S_55 H locs hp hw hfr hnw => ?_)
      obtain ⟨e2, hp⟩ := hp
      subst e2
      have rg_56 := And.intro (z_lo rr_54) (z_hi rr_54)
      exact ret_i X hw hr hlocks (Nat.le_of_ble_eq_true rfl) (Nat.le_of_ble_eq_true rfl) ⟨hO_2, trivial⟩ dX12_skein_127
    · refine lv_tableIn (tgt := 128) X.1 X.2.1 dX12_skein_16 (by omega) (by omega) (by rw [w_11c]; rfl) (by decide) ?_
      refine lv_aload_n X.1 X.2.1 dX12_skein_128 rfl (lv_at hl 0 rfl) ?_
      refine lv_iload_n X.1 X.2.1 dX12_skein_129 rfl (lv_at hl 1 rfl) ?_
      refine k_i (rm := { frames := 3, cells := 0, slots := 0, locals := 144 }) (av := [.ref x, .int (a1)]) X hw (va_runV (As := [.int (a1)]) (rest := []) (cfix X) (k_X12_pieces l G cy κ S_1 _ x (a1) (a1_z) hO_2.1 t_4 hz_a1 (by first | assumption | omega) (by first | assumption | omega) (by first | assumption | omega) (MIe_free hG ha_x hO_2.fr (by decide +kernel) hp_0)) (cwV 1 X.2.2.2.1 gX12_skein_X12_pieces rfl rfl rfl (by decide +kernel) ⟨Nat.le_of_ble_eq_true rfl, Nat.le_of_ble_eq_true rfl⟩) (pre_V X hw _ t_4 rfl (by decide) rfl) rfl rfl hl.1 rfl (lv_room (Nat.le_of_ble_eq_true rfl)) dX12_skein_130 ⟨Nat.le_of_ble_eq_true rfl, Nat.le_of_ble_eq_true rfl⟩) 0 0 (Nat.le_of_ble_eq_true rfl) (Nat.le_of_ble_eq_true rfl) (fun rr_57 S_58 H locs hp hw hfr hnw => ?_)
      obtain ⟨e2, hp⟩ := hp
      subst e2
      have rg_59 := And.intro (z_lo rr_57) (z_hi rr_57)
      exact ret_i X hw hr hlocks (Nat.le_of_ble_eq_true rfl) (Nat.le_of_ble_eq_true rfl) ⟨hO_2, trivial⟩ dX12_skein_133
    · refine lv_tableIn (tgt := 134) X.1 X.2.1 dX12_skein_16 (by omega) (by omega) (by rw [w_11c]; rfl) (by decide) ?_
      refine lv_aload_n X.1 X.2.1 dX12_skein_134 rfl (lv_at hl 0 rfl) ?_
      refine lv_iload_n X.1 X.2.1 dX12_skein_135 rfl (lv_at hl 1 rfl) ?_
      refine k_i (rm := { frames := 1, cells := 0, slots := 0, locals := 48 }) (av := [.ref x, .int (a1)]) X hw (va_runV (As := [.int (a1)]) (rest := []) (cfix X) (k_X12_gradeOf l G cy κ S_1 _ x (a1) (a1_z) hO_2.1 t_4 hz_a1 (by first | assumption | omega) (by first | assumption | omega)) (cwV 1 X.2.2.2.1 gX12_skein_X12_gradeOf rfl rfl rfl (by decide +kernel) ⟨Nat.le_of_ble_eq_true rfl, Nat.le_of_ble_eq_true rfl⟩) (pre_V X hw _ t_4 rfl (by decide) rfl) rfl rfl hl.1 rfl (lv_room (Nat.le_of_ble_eq_true rfl)) dX12_skein_136 ⟨Nat.le_of_ble_eq_true rfl, Nat.le_of_ble_eq_true rfl⟩) 0 0 (Nat.le_of_ble_eq_true rfl) (Nat.le_of_ble_eq_true rfl) (fun rr_60 S_61 H locs hp hw hfr hnw => ?_)
      obtain ⟨e2, hp⟩ := hp
      subst e2
      obtain ⟨f_62, f_63⟩ := hp
      exact ret_i X hw hr hlocks (Nat.le_of_ble_eq_true rfl) (Nat.le_of_ble_eq_true rfl) ⟨hO_2, trivial⟩ dX12_skein_139
    · refine lv_tableIn (tgt := 140) X.1 X.2.1 dX12_skein_16 (by omega) (by omega) (by rw [w_11c]; rfl) (by decide) ?_
      refine lv_aload_n X.1 X.2.1 dX12_skein_140 rfl (lv_at hl 0 rfl) ?_
      obtain ⟨q_64, h_65, h_66, h_67⟩ := gQ_12_1244 hO_2.1 t_4
      refine r_getR (g := 1244) X hw t_4 rfl 44 h_65 (by decide) rfl inn_X12_skein_12 (by decide) (X.2.2.2.1 (.fieldLink RX12 115 "SilkMillModel" "isSold" "[Z") (by decide +kernel)) rfl (gv_1244 _ _) dX12_skein_141 ?_
      refine lv_iload_n X.1 X.2.1 dX12_skein_144 rfl (lv_at hl 1 rfl) ?_
      refine r_zald X hw h_66 rfl (by rw [h_67]; exact z_ix hz_a1 (by omega) (by omega)) dX12_skein_145 ?_
      refine lv_topi (fun v_68 ev_68 => ?_)
      have rg_69 := And.intro (z_lo v_68) (z_hi v_68)
      have ev_68 := ev_68.symm
      refine lv_if_eq (tgt := 153) X.1 X.2.1 dX12_skein_146 (by decide) (fun c_70 => ?_) (fun c_70 => ?_)
      · have z_b_71 := trivial
        have k_72 : v_68.toInt = 0 := z_eq rfl ti_0 c_70
        refine lv_iconst (v := 0) X.1 X.2.1 dX12_skein_153 (by decide) ?_
        exact ret_i X hw hr hlocks (Nat.le_of_ble_eq_true rfl) (Nat.le_of_ble_eq_true rfl) ⟨hO_2, trivial⟩ dX12_skein_154
      · have z_b_73 := trivial
        have k_74 : v_68.toInt ≠ 0 := z_ne rfl ti_0 c_70
        refine lv_iconst (v := 1) X.1 X.2.1 dX12_skein_149 (by decide) ?_
        refine lv_goto (tgt := 154) X.1 X.2.1 dX12_skein_150 (by decide) ?_
        exact ret_i X hw hr hlocks (Nat.le_of_ble_eq_true rfl) (Nat.le_of_ble_eq_true rfl) ⟨hO_2, trivial⟩ dX12_skein_154
    · refine lv_tableIn (tgt := 155) X.1 X.2.1 dX12_skein_16 (by omega) (by omega) (by rw [w_11c]; rfl) (by decide) ?_
      refine lv_aload_n X.1 X.2.1 dX12_skein_155 rfl (lv_at hl 0 rfl) ?_
      refine lv_iload_n X.1 X.2.1 dX12_skein_156 rfl (lv_at hl 1 rfl) ?_
      refine k_i (rm := { frames := 7, cells := 0, slots := 0, locals := 336 }) (av := [.ref x, .int (a1)]) X hw (va_runV (As := [.int (a1)]) (rest := []) (cfix X) (k_X12_priceOf l G cy κ S_1 _ x (a1) (a1_z) hO_2.1 t_4 hz_a1 (by first | assumption | omega) (by first | assumption | omega) (by first | assumption | omega) (MIe_free hG ha_x hO_2.fr (by decide +kernel) hp_0)) (cwV 1 X.2.2.2.1 gX12_skein_X12_priceOf rfl rfl rfl (by decide +kernel) ⟨Nat.le_of_ble_eq_true rfl, Nat.le_of_ble_eq_true rfl⟩) (pre_V X hw _ t_4 rfl (by decide) rfl) rfl rfl hl.1 rfl (lv_room (Nat.le_of_ble_eq_true rfl)) dX12_skein_157 ⟨Nat.le_of_ble_eq_true rfl, Nat.le_of_ble_eq_true rfl⟩) 0 0 (Nat.le_of_ble_eq_true rfl) (Nat.le_of_ble_eq_true rfl) (fun rr_75 S_76 H locs hp hw hfr hnw => ?_)
      obtain ⟨e2, hp⟩ := hp
      subst e2
      have rg_77 := And.intro (z_lo rr_75) (z_hi rr_75)
      exact ret_i X hw hr hlocks (Nat.le_of_ble_eq_true rfl) (Nat.le_of_ble_eq_true rfl) ⟨hO_2, trivial⟩ dX12_skein_160
    · refine lv_tableIn (tgt := 161) X.1 X.2.1 dX12_skein_16 (by omega) (by omega) (by rw [w_11c]; rfl) (by decide) ?_
      refine lv_aload_n X.1 X.2.1 dX12_skein_161 rfl (lv_at hl 0 rfl) ?_
      obtain ⟨q_78, h_79, h_80, h_81⟩ := gQ_12_1242 hO_2.1 t_4
      refine r_getR (g := 1242) X hw t_4 rfl 42 h_79 (by decide) rfl inn_X12_skein_12 (by decide) (X.2.2.2.1 (.fieldLink RX12 109 "SilkMillModel" "skeinAim" "[I") (by decide +kernel)) rfl (gv_1242 _ _) dX12_skein_162 ?_
      refine lv_iload_n X.1 X.2.1 dX12_skein_165 rfl (lv_at hl 1 rfl) ?_
      refine r_iald X hw h_80 rfl (by rw [h_81]; exact z_ix hz_a1 (by omega) (by omega)) dX12_skein_166 ?_
      refine lv_topi (fun v_82 ev_82 => ?_)
      have rg_83 := And.intro (z_lo v_82) (z_hi v_82)
      have ev_82 := ev_82.symm
      exact ret_i X hw hr hlocks (Nat.le_of_ble_eq_true rfl) (Nat.le_of_ble_eq_true rfl) ⟨hO_2, trivial⟩ dX12_skein_167
  · have z_b_84 := trivial
    refine lv_if_ne (tgt := 15) X.1 X.2.1 dX12_skein_10 (by decide) (fun c_85 => absurd c_85 (by decide)) (fun c_85 => ?_)
    refine lv_iconst (v := (-1)) X.1 X.2.1 dX12_skein_13 (by decide) ?_
    exact ret_i X hw hr hlocks (Nat.le_of_ble_eq_true rfl) (Nat.le_of_ble_eq_true rfl) ⟨hO_2, trivial⟩ dX12_skein_14
set_option maxHeartbeats 4000000 in
set_option maxRecDepth 100000 in
theorem k_X12_piece (l : Launch) (G : va_G) (cy : Nat → ClassId) (κ : Nat → Nat) (S : PS) (sz : Nat) (x : Nat) (a1 : Int32) (a1_z : Int) (a2 : Int32) (a2_z : Int) (a3 : Int32) (a3_z : Int) (hG : GX S) (ha_x : At S x 12) (hz_a1 : a1.toInt = a1_z) (hz_a2 : a2.toInt = a2_z) (hz_a3 : a3.toInt = a3_z) (hp_0 : MI S x) : Ci l yX12_piece wsX12_piece ({ frames := 3, cells := 0, slots := 0, locals := 144 }) G cy κ S sz [.ref x, .int (a1), .int (a2), .int (a3)] (fun (r : Int32) (S9 : PS) => Ok MN S S9 ∧ (True)) := by
  refine ent_m (cc := cX12_piece) (maxL := 7) (ret := (some .int)) (by decide) rfl (Nat.le_of_ble_eq_true rfl) ?_
  intro p e s m below meth c ls X hr hlocks hin hw hl hsz
  subst hsz
  have X : Cx p c cX12_piece 7 s [.ref x, .int (a1), .int (a2), .int (a3)].toArray wsX12_piece RX12 m G cy κ (AS S s.heap.size) := X
  have hl : lv_has ls 7 [(0, .ref x), (1, .int (a1)), (2, .int (a2)), (3, .int (a3))] := hl
  have rg_a1 : (-2147483648) ≤ a1_z ∧ a1_z ≤ 2147483647 := by rw [← hz_a1]; exact ⟨z_lo _, z_hi _⟩
  have rg_a2 : (-2147483648) ≤ a2_z ∧ a2_z ≤ 2147483647 := by rw [← hz_a2]; exact ⟨z_lo _, z_hi _⟩
  have rg_a3 : (-2147483648) ≤ a3_z ∧ a3_z ≤ 2147483647 := by rw [← hz_a3]; exact ⟨z_lo _, z_hi _⟩
  have hO : Ok MN S S := Ok.rf hG
  generalize hQQ : MQ below _ _ _ _ _ _ = QQ
  replace hQQ := hQQ.symm
  refine lv_aload_n X.1 X.2.1 dX12_piece_0 rfl (lv_at hl 0 rfl) ?_
  refine lv_iconst (v := 0) X.1 X.2.1 dX12_piece_1 (by decide) ?_
  refine r_putI (v := 0) X hw ha_x rfl 0 1200 tyX12 (by decide) rfl inn_X12_piece_12 tyX12_ok nmX12 (by decide) (X.2.2.2.1 (.fieldLink RX12 161 "SilkMillModel" "thrown" "I") (by decide +kernel)) rfl (Or.inl rfl) rfl rfl (Nat.le_of_ble_eq_true rfl) (st_1200 _ _) dX12_piece_2 (fun H locs hw => ?_)
  obtain ⟨S_1, eS_1⟩ : ∃ T, T = sI S 1200 x (0) := ⟨_, rfl⟩
  rw [← eS_1] at hw
  have hO_2 : Ok MN S S_1 := hO.sI eS_1 (by decide +kernel) (uI_12_1200 hO.1 ha_x)
  have h_3 : pI S_1 1200 x = 0 := tI_sIs eS_1
  refine lv_aload_n X.1 X.2.1 dX12_piece_5 rfl (lv_at hl 0 rfl) ?_
  refine lv_iload_n X.1 X.2.1 dX12_piece_6 rfl (lv_at hl 1 rfl) ?_
  have t_4 : At S_1 x 12 := tAt_sI eS_1 ha_x
  refine k_i (rm := { frames := 2, cells := 0, slots := 0, locals := 96 }) (av := [.ref x, .int (a1)]) X hw (va_runV (As := [.int (a1)]) (rest := []) (cfix X) (k_X12_isSkein l G cy κ S_1 _ x (a1) (a1_z) hO_2.1 t_4 hz_a1) (cwV 1 X.2.2.2.1 gX12_piece_X12_isSkein rfl rfl rfl (by decide +kernel) ⟨Nat.le_of_ble_eq_true rfl, Nat.le_of_ble_eq_true rfl⟩) (pre_V X hw _ t_4 rfl (by decide) rfl) rfl rfl hl.1 rfl (lv_room (Nat.le_of_ble_eq_true rfl)) dX12_piece_7 ⟨Nat.le_of_ble_eq_true rfl, Nat.le_of_ble_eq_true rfl⟩) 0 0 (Nat.le_of_ble_eq_true rfl) (Nat.le_of_ble_eq_true rfl) (fun rr_5 S_6 H locs hp hw hfr hnw => ?_)
  obtain ⟨e2, hp⟩ := hp
  subst e2
  rcases hp with ⟨f_7, er_8⟩ | ⟨f_7, er_8⟩ <;> subst er_8
  · have z_b_9 := trivial
    refine lv_if_eq (tgt := 26) X.1 X.2.1 dX12_piece_10 (by decide) (fun c_10 => absurd c_10 (by decide)) (fun c_10 => ?_)
    refine lv_iload_n X.1 X.2.1 dX12_piece_13 rfl (lv_at hl 2 rfl) ?_
    refine lv_if_lt (tgt := 26) X.1 X.2.1 dX12_piece_14 (by decide) (fun c_11 => ?_) (fun c_11 => ?_)
    · have z_b_12 := trivial
      have k_13 : a2_z < 0 := z_lt hz_a2 ti_0 c_11
      refine lv_iconst (v := (-1)) X.1 X.2.1 dX12_piece_26 (by decide) ?_
      rw [hQQ]
      exact ret_i X hw hr hlocks (Nat.le_of_ble_eq_true rfl) (Nat.le_of_ble_eq_true rfl) ⟨hO_2, trivial⟩ dX12_piece_27
    · have z_b_14 := trivial
      have k_15 : a2_z ≥ 0 := z_nlt hz_a2 ti_0 c_11
      refine lv_iload_n X.1 X.2.1 dX12_piece_17 rfl (lv_at hl 3 rfl) ?_
      refine lv_iconst (v := 0) X.1 X.2.1 dX12_piece_18 (by decide) ?_
      refine lv_iconst (v := 4) X.1 X.2.1 dX12_piece_19 (by decide) ?_
      refine k_i (rm := { frames := 1, cells := 0, slots := 0, locals := 48 }) (av := [.int (a3), .int 0, .int 4]) X hw (va_runS (As := [.int (a3), .int 0, .int 4]) (rest := []) (cfix X) (k_X12_within l G cy κ S_1 _ (a3) (a3_z) (0) (0) (4) (4) hO_2.1 hz_a3 ti_0 ti_4) (cwS 3 X.2.2.2.1 gX12_piece_X12_within rfl rfl rfl (by decide +kernel) ⟨Nat.le_of_ble_eq_true rfl, Nat.le_of_ble_eq_true rfl⟩) (pre_S X hw _) rfl rfl hl.1 rfl (lv_room (Nat.le_of_ble_eq_true rfl)) dX12_piece_20 ⟨Nat.le_of_ble_eq_true rfl, Nat.le_of_ble_eq_true rfl⟩) 0 0 (Nat.le_of_ble_eq_true rfl) (Nat.le_of_ble_eq_true rfl) (fun rr_16 S_17 H locs hp hw hfr hnw => ?_)
      obtain ⟨e2, hp⟩ := hp
      subst e2
      rcases hp with ⟨f_18, er_19⟩ | ⟨f_18, er_19⟩ <;> subst er_19
      · have z_b_20 := trivial
        refine lv_if_ne (tgt := 28) X.1 X.2.1 dX12_piece_23 (by decide) (fun c_21 => ?_) (fun c_21 => absurd c_21 (by decide))
        refine lv_iload_n X.1 X.2.1 dX12_piece_28 rfl (lv_at hl 2 rfl) ?_
        refine lv_istore (lv' := [(4, .int (a2)), (0, .ref x), (1, .int (a1)), (2, .int (a2)), (3, .int (a3))]) X.1 X.2.1 dX12_piece_29 hl (by decide) rfl (fun ls hl => ?_)
        refine lv_iconst (v := 0) X.1 X.2.1 dX12_piece_31 (by decide) ?_
        refine lv_istore (lv' := [(5, .int 0), (4, .int (a2)), (0, .ref x), (1, .int (a1)), (2, .int (a2)), (3, .int (a3))]) X.1 X.2.1 dX12_piece_32 hl (by decide) rfl (fun ls hl => ?_)
        have L_22 : ∀ (n : Nat) (H : Heap) (locs : List Loc) (ls : Array Slot) (i4_23 : Int32) (i4_23_z : Int) (i5_24 : Int32) (i5_24_z : Int), ((300 - i5_24_z).toNat = n) → (Wd G cy (AS S s.heap.size) s.heap S_1 H locs) → (i4_23.toInt = i4_23_z) → (0 ≤ i4_23_z ∧ i4_23_z ≤ 2147483647) → (i5_24.toInt = i5_24_z) → (0 ≤ i5_24_z ∧ i5_24_z ≤ 300) → (lv_has ls 7 [(4, .int (i4_23)), (5, .int (i5_24)), (0, .ref x), (1, .int (a1)), (2, .int (a2)), (3, .int (a3))]) → W p l e ({ frames := 3, cells := 0, slots := 0, locals := 144 }) s m [.ref x, .int (a1), .int (a2), .int (a3)].toArray below meth c H locs 0 0 QQ (F0 m 34 ls []) := by
          intro n
          induction n using Nat.strongRecOn with
          | ind n ih_L_22 =>
          intro H locs ls i4_23 i4_23_z i5_24 i5_24_z hn hw hz_i4_23 hr_i4_23 hz_i5_24 hr_i5_24 hl
          have rg_25 : (-2147483648) ≤ i4_23_z ∧ i4_23_z ≤ 2147483647 := by rw [← hz_i4_23]; exact ⟨z_lo _, z_hi _⟩
          have rg_26 : (-2147483648) ≤ i5_24_z ∧ i5_24_z ≤ 2147483647 := by rw [← hz_i5_24]; exact ⟨z_lo _, z_hi _⟩
          refine lv_iload X.1 X.2.1 dX12_piece_34 (lv_at hl 1 rfl) ?_
          refine lv_aload_n X.1 X.2.1 dX12_piece_36 rfl (lv_at hl 2 rfl) ?_
          refine lv_iload_n X.1 X.2.1 dX12_piece_37 rfl (lv_at hl 3 rfl) ?_
          refine k_i (rm := { frames := 1, cells := 0, slots := 0, locals := 48 }) (av := [.ref x, .int (a1)]) X hw (va_runV (As := [.int (a1)]) (rest := [.int (i5_24)]) (cfix X) (k_X12_metres l G cy κ S_1 _ x (a1) (a1_z) hO_2.1 t_4 hz_a1 (by first | assumption | omega) (by first | assumption | omega) (by first | assumption | omega) (MIe_free hG ha_x hO_2.fr (by decide +kernel) hp_0)) (cwV 1 X.2.2.2.1 gX12_piece_X12_metres rfl rfl rfl (by decide +kernel) ⟨Nat.le_of_ble_eq_true rfl, Nat.le_of_ble_eq_true rfl⟩) (pre_V X hw _ t_4 rfl (by decide) rfl) rfl rfl hl.1 rfl (lv_room (Nat.le_of_ble_eq_true rfl)) dX12_piece_38 ⟨Nat.le_of_ble_eq_true rfl, Nat.le_of_ble_eq_true rfl⟩) 0 0 (Nat.le_of_ble_eq_true rfl) (Nat.le_of_ble_eq_true rfl) (fun rr_27 S_28 H locs hp hw hfr hnw => ?_)
          obtain ⟨e2, hp⟩ := hp
          subst e2
          obtain ⟨f_29, f_30, f_31⟩ := hp
          refine lv_icmp_ge (tgt := 130) X.1 X.2.1 dX12_piece_41 (by decide) (fun c_32 => ?_) (fun c_32 => ?_)
          · have z_b_33 := trivial
            have k_34 : i5_24_z ≥ rr_27.toInt := z_le rfl hz_i5_24 c_32
            refine lv_iconst (v := (-1)) X.1 X.2.1 dX12_piece_130 (by decide) ?_
            rw [hQQ]
            exact ret_i X hw hr hlocks (Nat.le_of_ble_eq_true rfl) (Nat.le_of_ble_eq_true rfl) ⟨hO_2, trivial⟩ dX12_piece_131
          · have z_b_35 := trivial
            have k_36 : i5_24_z < rr_27.toInt := z_nle rfl hz_i5_24 c_32
            refine lv_iconst (v := 0) X.1 X.2.1 dX12_piece_44 (by decide) ?_
            refine lv_istore (lv' := [(6, .int 0), (4, .int (i4_23)), (5, .int (i5_24)), (0, .ref x), (1, .int (a1)), (2, .int (a2)), (3, .int (a3))]) X.1 X.2.1 dX12_piece_45 hl (by decide) rfl (fun ls hl => ?_)
            have L_37 : ∀ (n : Nat) (H : Heap) (locs : List Loc) (ls : Array Slot) (i4_38 : Int32) (i4_38_z : Int) (i6_39 : Int32) (i6_39_z : Int), ((12 - i6_39_z).toNat = n) → (Wd G cy (AS S s.heap.size) s.heap S_1 H locs) → (i4_38.toInt = i4_38_z) → (0 ≤ i4_38_z ∧ i4_38_z ≤ 2147483647) → (i6_39.toInt = i6_39_z) → (0 ≤ i6_39_z ∧ i6_39_z ≤ 12) → (lv_has ls 7 [(4, .int (i4_38)), (6, .int (i6_39)), (5, .int (i5_24)), (0, .ref x), (1, .int (a1)), (2, .int (a2)), (3, .int (a3))]) → W p l e ({ frames := 3, cells := 0, slots := 0, locals := 144 }) s m [.ref x, .int (a1), .int (a2), .int (a3)].toArray below meth c H locs 0 0 QQ (F0 m 47 ls []) := by
              intro n
              induction n using Nat.strongRecOn with
              | ind n ih_L_37 =>
              intro H locs ls i4_38 i4_38_z i6_39 i6_39_z hn hw hz_i4_38 hr_i4_38 hz_i6_39 hr_i6_39 hl
              have rg_40 : (-2147483648) ≤ i4_38_z ∧ i4_38_z ≤ 2147483647 := by rw [← hz_i4_38]; exact ⟨z_lo _, z_hi _⟩
              have rg_41 : (-2147483648) ≤ i6_39_z ∧ i6_39_z ≤ 2147483647 := by rw [← hz_i6_39]; exact ⟨z_lo _, z_hi _⟩
              refine lv_iload X.1 X.2.1 dX12_piece_47 (lv_at hl 1 rfl) ?_
              refine lv_aload_n X.1 X.2.1 dX12_piece_49 rfl (lv_at hl 3 rfl) ?_
              obtain ⟨q_42, h_43, h_44, h_45⟩ := gQ_12_1235 hO_2.1 t_4
              refine r_getR (g := 1235) X hw t_4 rfl 35 h_43 (by decide) rfl inn_X12_piece_12 (by decide) (X.2.2.2.1 (.fieldLink RX12 90 "SilkMillModel" "metreEnds" "[I") (by decide +kernel)) rfl (gv_1235 _ _) dX12_piece_50 ?_
              refine lv_aload_n X.1 X.2.1 dX12_piece_53 rfl (lv_at hl 3 rfl) ?_
              obtain ⟨q_46, h_47, h_48, h_49⟩ := gQ_12_1239 hO_2.1 t_4
              refine r_getR (g := 1239) X hw t_4 rfl 39 h_47 (by decide) rfl inn_X12_piece_12 (by decide) (X.2.2.2.1 (.fieldLink RX12 100 "SilkMillModel" "firstMetre" "[I") (by decide +kernel)) rfl (gv_1239 _ _) dX12_piece_54 ?_
              refine lv_iload_n X.1 X.2.1 dX12_piece_57 rfl (lv_at hl 4 rfl) ?_
              refine r_iald X hw h_48 rfl (by rw [h_49]; exact z_ix hz_a1 (by omega) (by omega)) dX12_piece_58 ?_
              refine lv_topi (fun v_50 ev_50 => ?_)
              have z_51 := gE_994 hO_2.1 h_48 (Int32.toNatClampNeg (a1)); rw [← ev_50] at z_51
              have ev_50 := ev_50.symm
              refine lv_iload X.1 X.2.1 dX12_piece_59 (lv_at hl 2 rfl) ?_
              refine lv_iadd X.1 X.2.1 dX12_piece_61 ?_
              refine lv_topi (fun v_52 ev_52 => ?_)
              have z_53 : v_52.toInt = v_50.toInt + i5_24_z := z_add ev_52 rfl hz_i5_24 (by omega) (by omega)
              refine r_iald X hw h_44 rfl (by rw [h_45]; exact z_ix z_53 (by omega) (by omega)) dX12_piece_62 ?_
              refine lv_topi (fun v_54 ev_54 => ?_)
              have z_55 := gE_914 hO_2.1 h_44 (Int32.toNatClampNeg (v_52)); rw [← ev_54] at z_55
              have ev_54 := ev_54.symm
              refine lv_icmp_ge (tgt := 124) X.1 X.2.1 dX12_piece_63 (by decide) (fun c_56 => ?_) (fun c_56 => ?_)
              · have z_b_57 := trivial
                have k_58 : i6_39_z ≥ v_54.toInt := z_le rfl hz_i6_39 c_56
                obtain ⟨x_59, ex_59⟩ : ∃ y : Int32, y = i5_24 + 1 := ⟨_, rfl⟩
                have z_60 : x_59.toInt = i5_24_z + 1 := z_add ex_59 hz_i5_24 ti_1 (by omega) (by omega)
                refine lv_iinc (v := x_59) (lv' := [(5, .int (x_59)), (4, .int (i4_38)), (6, .int (i6_39)), (0, .ref x), (1, .int (a1)), (2, .int (a2)), (3, .int (a3))]) X.1 X.2.1 dX12_piece_124 hl (k := 2) rfl (by rw [ex_59]; rfl) (by decide) rfl (fun ls hl => ?_)
                refine lv_goto (tgt := 34) X.1 X.2.1 dX12_piece_127 (by decide) ?_
                exact ih_L_22 _ (by omega) _ _ _ (i4_38) (i4_38_z) (x_59) (x_59.toInt) rfl hw hz_i4_38 (by omega) rfl (by omega) (lv_sub hl [1, 0, 3, 4, 5, 6] rfl)
              · have z_b_61 := trivial
                have k_62 : i6_39_z < v_54.toInt := z_nle rfl hz_i6_39 c_56
                refine lv_aload_n X.1 X.2.1 dX12_piece_66 rfl (lv_at hl 3 rfl) ?_
                refine lv_iload_n X.1 X.2.1 dX12_piece_67 rfl (lv_at hl 4 rfl) ?_
                refine lv_iload X.1 X.2.1 dX12_piece_68 (lv_at hl 2 rfl) ?_
                refine lv_iload X.1 X.2.1 dX12_piece_70 (lv_at hl 1 rfl) ?_
                refine k_i (rm := { frames := 2, cells := 0, slots := 0, locals := 96 }) (av := [.ref x, .int (a1), .int (i5_24), .int (i6_39)]) X hw (va_runV (As := [.int (a1), .int (i5_24), .int (i6_39)]) (rest := []) (cfix X) (k_X12_begins l G cy κ S_1 _ x (a1) (a1_z) (i5_24) (i5_24_z) (i6_39) (i6_39_z) hO_2.1 t_4 hz_a1 hz_i5_24 hz_i6_39 (by first | assumption | omega) (by first | assumption | omega) (by first | assumption | omega) (MIe_free hG ha_x hO_2.fr (by decide +kernel) hp_0) (by first | assumption | omega) (by first | assumption | omega) (by first | assumption | omega) (by first | assumption | omega)) (cwV 3 X.2.2.2.1 gX12_piece_X12_begins rfl rfl rfl (by decide +kernel) ⟨Nat.le_of_ble_eq_true rfl, Nat.le_of_ble_eq_true rfl⟩) (pre_V X hw _ t_4 rfl (by decide) rfl) rfl rfl hl.1 rfl (lv_room (Nat.le_of_ble_eq_true rfl)) dX12_piece_72 ⟨Nat.le_of_ble_eq_true rfl, Nat.le_of_ble_eq_true rfl⟩) 0 0 (Nat.le_of_ble_eq_true rfl) (Nat.le_of_ble_eq_true rfl) (fun rr_63 S_64 H locs hp hw hfr hnw => ?_)
                obtain ⟨e2, hp⟩ := hp
                subst e2
                rcases hp with ⟨f_65, er_66⟩ | ⟨f_65, er_66⟩ <;> subst er_66
                · have z_b_67 := trivial
                  refine lv_if_ne (tgt := 81) X.1 X.2.1 dX12_piece_75 (by decide) (fun c_68 => ?_) (fun c_68 => absurd c_68 (by decide))
                  refine lv_iload X.1 X.2.1 dX12_piece_81 (lv_at hl 0 rfl) ?_
                  refine lv_if_ne (tgt := 115) X.1 X.2.1 dX12_piece_83 (by decide) (fun c_69 => ?_) (fun c_69 => ?_)
                  · have z_b_70 := trivial
                    have k_71 : i4_38_z ≠ 0 := z_ne hz_i4_38 ti_0 c_69
                    obtain ⟨x_72, ex_72⟩ : ∃ y : Int32, y = i4_38 + (-1) := ⟨_, rfl⟩
                    have z_73 : x_72.toInt = i4_38_z + (-1) := z_add ex_72 hz_i4_38 ti_m1 (by omega) (by omega)
                    refine lv_iinc (v := x_72) (lv' := [(4, .int (x_72)), (6, .int (i6_39)), (5, .int (i5_24)), (0, .ref x), (1, .int (a1)), (2, .int (a2)), (3, .int (a3))]) X.1 X.2.1 dX12_piece_115 hl (k := 0) rfl (by rw [ex_72]; rfl) (by decide) rfl (fun ls hl => ?_)
                    obtain ⟨x_74, ex_74⟩ : ∃ y : Int32, y = i6_39 + 1 := ⟨_, rfl⟩
                    have z_75 : x_74.toInt = i6_39_z + 1 := z_add ex_74 hz_i6_39 ti_1 (by omega) (by omega)
                    refine lv_iinc (v := x_74) (lv' := [(6, .int (x_74)), (4, .int (x_72)), (5, .int (i5_24)), (0, .ref x), (1, .int (a1)), (2, .int (a2)), (3, .int (a3))]) X.1 X.2.1 dX12_piece_118 hl (k := 1) rfl (by rw [ex_74]; rfl) (by decide) rfl (fun ls hl => ?_)
                    refine lv_goto (tgt := 47) X.1 X.2.1 dX12_piece_121 (by decide) ?_
                    exact ih_L_37 _ (by omega) _ _ _ (x_72) (x_72.toInt) (x_74) (x_74.toInt) rfl hw rfl (by omega) rfl (by omega) (lv_sub hl [1, 0, 2, 3, 4, 5, 6] rfl)
                  · have z_b_76 := trivial
                    have k_77 : i4_38_z = 0 := z_eq hz_i4_38 ti_0 c_69
                    refine lv_aload_n X.1 X.2.1 dX12_piece_86 rfl (lv_at hl 3 rfl) ?_
                    refine lv_iload_n X.1 X.2.1 dX12_piece_87 rfl (lv_at hl 4 rfl) ?_
                    refine lv_iload X.1 X.2.1 dX12_piece_88 (lv_at hl 2 rfl) ?_
                    refine lv_aload_n X.1 X.2.1 dX12_piece_90 rfl (lv_at hl 3 rfl) ?_
                    obtain ⟨q_78, h_79, h_80, h_81⟩ := gQ_12_1236 hO_2.1 t_4
                    refine r_getR (g := 1236) X hw t_4 rfl 36 h_79 (by decide) rfl inn_X12_piece_12 (by decide) (X.2.2.2.1 (.fieldLink RX12 94 "SilkMillModel" "drawn" "[I") (by decide +kernel)) rfl (gv_1236 _ _) dX12_piece_91 ?_
                    refine lv_bipush (v := 12) X.1 X.2.1 dX12_piece_94 (by decide) ?_
                    refine lv_aload_n X.1 X.2.1 dX12_piece_96 rfl (lv_at hl 3 rfl) ?_
                    refine r_getR (g := 1239) X hw t_4 rfl 39 h_47 (by decide) rfl inn_X12_piece_12 (by decide) (X.2.2.2.1 (.fieldLink RX12 100 "SilkMillModel" "firstMetre" "[I") (by decide +kernel)) rfl (gv_1239 _ _) dX12_piece_97 ?_
                    refine lv_iload_n X.1 X.2.1 dX12_piece_100 rfl (lv_at hl 4 rfl) ?_
                    refine r_iald X hw h_48 rfl (by rw [h_49]; exact z_ix hz_a1 (by omega) (by omega)) dX12_piece_101 ?_
                    rw [ev_50]
                    refine lv_iload X.1 X.2.1 dX12_piece_102 (lv_at hl 2 rfl) ?_
                    refine lv_iadd X.1 X.2.1 dX12_piece_104 ?_
                    refine lv_topi (fun v_82 ev_82 => ?_)
                    have z_83 : v_82.toInt = v_50.toInt + i5_24_z := z_add ev_82 rfl hz_i5_24 (by omega) (by omega)
                    refine lv_imul X.1 X.2.1 dX12_piece_105 ?_
                    refine lv_topi (fun v_84 ev_84 => ?_)
                    have z_85 : v_84.toInt = 12 * (v_50.toInt + i5_24_z) := z_mul ev_84 ti_12 z_83 (by omega) (by omega)
                    refine lv_iload X.1 X.2.1 dX12_piece_106 (lv_at hl 1 rfl) ?_
                    refine lv_iadd X.1 X.2.1 dX12_piece_108 ?_
                    refine lv_topi (fun v_86 ev_86 => ?_)
                    have z_87 : v_86.toInt = (12 * (v_50.toInt + i5_24_z)) + i6_39_z := z_add ev_86 z_85 hz_i6_39 (by omega) (by omega)
                    refine r_iald X hw h_80 rfl (by rw [h_81]; exact z_ix z_87 (by omega) (by omega)) dX12_piece_109 ?_
                    refine lv_topi (fun v_88 ev_88 => ?_)
                    have z_89 := gE_934 hO_2.1 h_80 (Int32.toNatClampNeg (v_86)); rw [← ev_88] at z_89
                    have ev_88 := ev_88.symm
                    refine lv_iload_n X.1 X.2.1 dX12_piece_110 rfl (lv_at hl 6 rfl) ?_
                    refine k_i (rm := { frames := 2, cells := 0, slots := 0, locals := 96 }) (av := [.ref x, .int (a1), .int (i5_24), .int (v_88), .int (a3)]) X hw (va_runV (As := [.int (a1), .int (i5_24), .int (v_88), .int (a3)]) (rest := []) (cfix X) (k_X12_told l G cy κ S_1 _ x (a1) (a1_z) (i5_24) (i5_24_z) (v_88) (v_88.toInt) (a3) (a3_z) hO_2.1 t_4 hz_a1 hz_i5_24 rfl hz_a3 (by first | assumption | omega) (by first | assumption | omega) (by first | assumption | omega) (MIe_free hG ha_x hO_2.fr (by decide +kernel) hp_0) (by first | assumption | omega) (by first | assumption | omega) (by first | assumption | omega) (by first | assumption | omega)) (cwV 4 X.2.2.2.1 gX12_piece_X12_told rfl rfl rfl (by decide +kernel) ⟨Nat.le_of_ble_eq_true rfl, Nat.le_of_ble_eq_true rfl⟩) (pre_V X hw _ t_4 rfl (by decide) rfl) rfl rfl hl.1 rfl (lv_room (Nat.le_of_ble_eq_true rfl)) dX12_piece_111 ⟨Nat.le_of_ble_eq_true rfl, Nat.le_of_ble_eq_true rfl⟩) 0 0 (Nat.le_of_ble_eq_true rfl) (Nat.le_of_ble_eq_true rfl) (fun rr_90 S_91 H locs hp hw hfr hnw => ?_)
                    obtain ⟨e2, hp⟩ := hp
                    subst e2
                    have rg_92 := And.intro (z_lo rr_90) (z_hi rr_90)
                    rw [hQQ]
                    exact ret_i X hw hr hlocks (Nat.le_of_ble_eq_true rfl) (Nat.le_of_ble_eq_true rfl) ⟨hO_2, trivial⟩ dX12_piece_114
                · have z_b_93 := trivial
                  refine lv_if_ne (tgt := 81) X.1 X.2.1 dX12_piece_75 (by decide) (fun c_94 => absurd c_94 (by decide)) (fun c_94 => ?_)
                  refine lv_goto (tgt := 118) X.1 X.2.1 dX12_piece_78 (by decide) ?_
                  obtain ⟨x_95, ex_95⟩ : ∃ y : Int32, y = i6_39 + 1 := ⟨_, rfl⟩
                  have z_96 : x_95.toInt = i6_39_z + 1 := z_add ex_95 hz_i6_39 ti_1 (by omega) (by omega)
                  refine lv_iinc (v := x_95) (lv' := [(6, .int (x_95)), (4, .int (i4_38)), (5, .int (i5_24)), (0, .ref x), (1, .int (a1)), (2, .int (a2)), (3, .int (a3))]) X.1 X.2.1 dX12_piece_118 hl (k := 1) rfl (by rw [ex_95]; rfl) (by decide) rfl (fun ls hl => ?_)
                  refine lv_goto (tgt := 47) X.1 X.2.1 dX12_piece_121 (by decide) ?_
                  exact ih_L_37 _ (by omega) _ _ _ (i4_38) (i4_38_z) (x_95) (x_95.toInt) rfl hw hz_i4_38 (by omega) rfl (by omega) (lv_sub hl [1, 0, 2, 3, 4, 5, 6] rfl)
            exact L_37 _ _ _ _ (i4_23) (i4_23_z) (0) (0) rfl hw hz_i4_23 (by omega) ti_0 (by omega) (lv_sub hl [1, 0, 2, 3, 4, 5, 6] rfl)
        exact L_22 _ _ _ _ (a2) (a2_z) (0) (0) rfl hw hz_a2 (by omega) ti_0 (by omega) (lv_sub hl [1, 0, 2, 3, 4, 5] rfl)
      · have z_b_97 := trivial
        refine lv_if_ne (tgt := 28) X.1 X.2.1 dX12_piece_23 (by decide) (fun c_98 => absurd c_98 (by decide)) (fun c_98 => ?_)
        refine lv_iconst (v := (-1)) X.1 X.2.1 dX12_piece_26 (by decide) ?_
        rw [hQQ]
        exact ret_i X hw hr hlocks (Nat.le_of_ble_eq_true rfl) (Nat.le_of_ble_eq_true rfl) ⟨hO_2, trivial⟩ dX12_piece_27
  · have z_b_99 := trivial
    refine lv_if_eq (tgt := 26) X.1 X.2.1 dX12_piece_10 (by decide) (fun c_100 => ?_) (fun c_100 => absurd c_100 (by decide))
    refine lv_iconst (v := (-1)) X.1 X.2.1 dX12_piece_26 (by decide) ?_
    rw [hQQ]
    exact ret_i X hw hr hlocks (Nat.le_of_ble_eq_true rfl) (Nat.le_of_ble_eq_true rfl) ⟨hO_2, trivial⟩ dX12_piece_27
set_option maxHeartbeats 4000000 in
set_option maxRecDepth 100000 in
theorem k_X12_mix (l : Launch) (G : va_G) (cy : Nat → ClassId) (κ : Nat → Nat) (S : PS) (sz : Nat) (x : Nat) (a1 : Int32) (a1_z : Int) (a2 : Int32) (a2_z : Int) (a3 : Int32) (a3_z : Int) (a4 : Int32) (a4_z : Int) (hG : GX S) (ha_x : At S x 12) (hz_a1 : a1.toInt = a1_z) (hz_a2 : a2.toInt = a2_z) (hz_a3 : a3.toInt = a3_z) (hz_a4 : a4.toInt = a4_z) (hp_0 : MI S x) : Ci l yX12_mix wsX12_mix ({ frames := 8, cells := 0, slots := 0, locals := 384 }) G cy κ S sz [.ref x, .int (a1), .int (a2), .int (a3), .int (a4)] (fun (r : Int32) (S9 : PS) => Ok MN S S9 ∧ (True)) := by
  refine ent_m (cc := cX12_mix) (maxL := 13) (ret := (some .int)) (by decide) rfl (Nat.le_of_ble_eq_true rfl) ?_
  intro p e s m below meth c ls X hr hlocks hin hw hl hsz
  subst hsz
  have X : Cx p c cX12_mix 13 s [.ref x, .int (a1), .int (a2), .int (a3), .int (a4)].toArray wsX12_mix RX12 m G cy κ (AS S s.heap.size) := X
  have hl : lv_has ls 13 [(0, .ref x), (1, .int (a1)), (2, .int (a2)), (3, .int (a3)), (4, .int (a4))] := hl
  have rg_a1 : (-2147483648) ≤ a1_z ∧ a1_z ≤ 2147483647 := by rw [← hz_a1]; exact ⟨z_lo _, z_hi _⟩
  have rg_a2 : (-2147483648) ≤ a2_z ∧ a2_z ≤ 2147483647 := by rw [← hz_a2]; exact ⟨z_lo _, z_hi _⟩
  have rg_a3 : (-2147483648) ≤ a3_z ∧ a3_z ≤ 2147483647 := by rw [← hz_a3]; exact ⟨z_lo _, z_hi _⟩
  have rg_a4 : (-2147483648) ≤ a4_z ∧ a4_z ≤ 2147483647 := by rw [← hz_a4]; exact ⟨z_lo _, z_hi _⟩
  have hO : Ok MN S S := Ok.rf hG
  generalize hQQ : MQ below _ _ _ _ _ _ = QQ
  replace hQQ := hQQ.symm
  refine lv_aload_n X.1 X.2.1 dX12_mix_0 rfl (lv_at hl 0 rfl) ?_
  refine lv_iconst (v := 0) X.1 X.2.1 dX12_mix_1 (by decide) ?_
  refine r_putI (v := 0) X hw ha_x rfl 0 1200 tyX12 (by decide) rfl inn_X12_mix_12 tyX12_ok nmX12 (by decide) (X.2.2.2.1 (.fieldLink RX12 161 "SilkMillModel" "thrown" "I") (by decide +kernel)) rfl (Or.inl rfl) rfl rfl (Nat.le_of_ble_eq_true rfl) (st_1200 _ _) dX12_mix_2 (fun H locs hw => ?_)
  obtain ⟨S_1, eS_1⟩ : ∃ T, T = sI S 1200 x (0) := ⟨_, rfl⟩
  rw [← eS_1] at hw
  have hO_2 : Ok MN S S_1 := hO.sI eS_1 (by decide +kernel) (uI_12_1200 hO.1 ha_x)
  have h_3 : pI S_1 1200 x = 0 := tI_sIs eS_1
  refine lv_iconst (v := 0) X.1 X.2.1 dX12_mix_5 (by decide) ?_
  refine lv_istore (lv' := [(5, .int 0), (0, .ref x), (1, .int (a1)), (2, .int (a2)), (3, .int (a3)), (4, .int (a4))]) X.1 X.2.1 dX12_mix_6 hl (by decide) rfl (fun ls hl => ?_)
  refine lv_iconst (v := 0) X.1 X.2.1 dX12_mix_8 (by decide) ?_
  refine lv_istore (lv' := [(6, .int 0), (5, .int 0), (0, .ref x), (1, .int (a1)), (2, .int (a2)), (3, .int (a3)), (4, .int (a4))]) X.1 X.2.1 dX12_mix_9 hl (by decide) rfl (fun ls hl => ?_)
  have L_4 : ∀ (n : Nat) (T_7 : PS) (H : Heap) (locs : List Loc) (ls : Array Slot) (i5_5 : Int32) (i5_5_z : Int) (i6_6 : Int32) (i6_6_z : Int), ((40 - i6_6_z).toNat = n) → (Wd G cy (AS S s.heap.size) s.heap T_7 H locs) → (i5_5.toInt = i5_5_z) → (0 ≤ i5_5_z ∧ i5_5_z ≤ 14) → (i6_6.toInt = i6_6_z) → (0 ≤ i6_6_z ∧ i6_6_z ≤ 40) → (At T_7 x 12) → (Ok MN S T_7) → (lv_has ls 13 [(5, .int (i5_5)), (6, .int (i6_6)), (0, .ref x), (1, .int (a1)), (2, .int (a2)), (3, .int (a3)), (4, .int (a4))]) → W p l e ({ frames := 8, cells := 0, slots := 0, locals := 384 }) s m [.ref x, .int (a1), .int (a2), .int (a3), .int (a4)].toArray below meth c H locs 0 0 QQ (F0 m 11 ls []) := by
    intro n
    induction n using Nat.strongRecOn with
    | ind n ih_L_4 =>
    intro T_7 H locs ls i5_5 i5_5_z i6_6 i6_6_z hn hw hz_i5_5 hr_i5_5 hz_i6_6 hr_i6_6 ha_x_L_8 hO_T_7 hl
    have rg_9 : (-2147483648) ≤ i5_5_z ∧ i5_5_z ≤ 2147483647 := by rw [← hz_i5_5]; exact ⟨z_lo _, z_hi _⟩
    have rg_10 : (-2147483648) ≤ i6_6_z ∧ i6_6_z ≤ 2147483647 := by rw [← hz_i6_6]; exact ⟨z_lo _, z_hi _⟩
    refine lv_iload X.1 X.2.1 dX12_mix_11 (lv_at hl 1 rfl) ?_
    refine lv_aload_n X.1 X.2.1 dX12_mix_13 rfl (lv_at hl 2 rfl) ?_
    obtain ⟨v_11, ev_11⟩ : ∃ v, pI T_7 1238 x = v := ⟨_, rfl⟩
    have rg_12 := gI_12_1238 hO_T_7.1 ha_x_L_8; rw [ev_11] at rg_12
    have pz_13 : (pI T_7 1238 x).toInt = v_11.toInt := by rw [ev_11]
    refine r_getI (g := 1238) (x := v_11) X hw ha_x_L_8 rfl 38 ev_11 (by decide) rfl inn_X12_mix_12 (by decide) (X.2.2.2.1 (.fieldLink RX12 290 "SilkMillModel" "skeins" "I") (by decide +kernel)) rfl (gv_1238 _ _) dX12_mix_14 ?_
    refine lv_icmp_ge (tgt := 110) X.1 X.2.1 dX12_mix_17 (by decide) (fun c_14 => ?_) (fun c_14 => ?_)
    · have z_b_15 := trivial
      have k_16 : i6_6_z ≥ v_11.toInt := z_le rfl hz_i6_6 c_14
      refine lv_iconst (v := 0) X.1 X.2.1 dX12_mix_110 (by decide) ?_
      refine lv_istore (lv' := [(6, .int 0), (5, .int (i5_5)), (0, .ref x), (1, .int (a1)), (2, .int (a2)), (3, .int (a3)), (4, .int (a4))]) X.1 X.2.1 dX12_mix_111 hl (by decide) rfl (fun ls hl => ?_)
      refine lv_iconst (v := (-1)) X.1 X.2.1 dX12_mix_113 (by decide) ?_
      refine lv_istore (lv' := [(7, .int (-1)), (6, .int 0), (5, .int (i5_5)), (0, .ref x), (1, .int (a1)), (2, .int (a2)), (3, .int (a3)), (4, .int (a4))]) X.1 X.2.1 dX12_mix_114 hl (by decide) rfl (fun ls hl => ?_)
      refine lv_iconst (v := 1) X.1 X.2.1 dX12_mix_116 (by decide) ?_
      refine lv_istore (lv' := [(8, .int 1), (7, .int (-1)), (6, .int 0), (5, .int (i5_5)), (0, .ref x), (1, .int (a1)), (2, .int (a2)), (3, .int (a3)), (4, .int (a4))]) X.1 X.2.1 dX12_mix_117 hl (by decide) rfl (fun ls hl => ?_)
      have L_17 : ∀ (n : Nat) (H : Heap) (locs : List Loc) (ls : Array Slot) (i6_18 : Int32) (i6_18_z : Int) (i7_19 : Int32) (i7_19_z : Int) (i8_20 : Int32) (i8_20_z : Int), ((2147483647 - i8_20_z).toNat = n) → (Wd G cy (AS S s.heap.size) s.heap T_7 H locs) → (i6_18.toInt = i6_18_z) → (i7_19.toInt = i7_19_z) → (i8_20.toInt = i8_20_z) → (1 ≤ i8_20_z ∧ i8_20_z ≤ 2147483647) → (lv_has ls 13 [(6, .int (i6_18)), (7, .int (i7_19)), (8, .int (i8_20)), (5, .int (i5_5)), (0, .ref x), (1, .int (a1)), (2, .int (a2)), (3, .int (a3)), (4, .int (a4))]) → W p l e ({ frames := 8, cells := 0, slots := 0, locals := 384 }) s m [.ref x, .int (a1), .int (a2), .int (a3), .int (a4)].toArray below meth c H locs 0 0 QQ (F0 m 119 ls []) := by
        intro n
        induction n using Nat.strongRecOn with
        | ind n ih_L_17 =>
        intro H locs ls i6_18 i6_18_z i7_19 i7_19_z i8_20 i8_20_z hn hw hz_i6_18 hz_i7_19 hz_i8_20 hr_i8_20 hl
        have rg_21 : (-2147483648) ≤ i6_18_z ∧ i6_18_z ≤ 2147483647 := by rw [← hz_i6_18]; exact ⟨z_lo _, z_hi _⟩
        have rg_22 : (-2147483648) ≤ i7_19_z ∧ i7_19_z ≤ 2147483647 := by rw [← hz_i7_19]; exact ⟨z_lo _, z_hi _⟩
        have rg_23 : (-2147483648) ≤ i8_20_z ∧ i8_20_z ≤ 2147483647 := by rw [← hz_i8_20]; exact ⟨z_lo _, z_hi _⟩
        refine lv_iload X.1 X.2.1 dX12_mix_119 (lv_at hl 2 rfl) ?_
        refine lv_iconst (v := 1) X.1 X.2.1 dX12_mix_121 (by decide) ?_
        refine lv_iload X.1 X.2.1 dX12_mix_122 (lv_at hl 3 rfl) ?_
        refine lv_ishl X.1 X.2.1 dX12_mix_124 ?_
        refine lv_topi (fun v_24 ev_24 => ?_)
        have rg_25 := And.intro (z_lo v_24) (z_hi v_24)
        refine lv_icmp_ge (tgt := 264) X.1 X.2.1 dX12_mix_125 (by decide) (fun c_26 => ?_) (fun c_26 => ?_)
        · have z_b_27 := trivial
          have k_28 : i8_20_z ≥ v_24.toInt := z_le rfl hz_i8_20 c_26
          refine lv_iload X.1 X.2.1 dX12_mix_264 (lv_at hl 1 rfl) ?_
          refine lv_iconst (v := (-1)) X.1 X.2.1 dX12_mix_266 (by decide) ?_
          refine lv_icmp_ne (tgt := 272) X.1 X.2.1 dX12_mix_267 (by decide) (fun c_29 => ?_) (fun c_29 => ?_)
          · have z_b_30 := trivial
            have k_31 : i7_19_z ≠ (-1) := z_ne hz_i7_19 ti_m1 c_29
            refine lv_iconst (v := 0) X.1 X.2.1 dX12_mix_272 (by decide) ?_
            refine lv_istore (lv' := [(8, .int 0), (6, .int (i6_18)), (7, .int (i7_19)), (5, .int (i5_5)), (0, .ref x), (1, .int (a1)), (2, .int (a2)), (3, .int (a3)), (4, .int (a4))]) X.1 X.2.1 dX12_mix_273 hl (by decide) rfl (fun ls hl => ?_)
            have L_32 : ∀ (n : Nat) (T_34 : PS) (H : Heap) (locs : List Loc) (ls : Array Slot) (i8_33 : Int32) (i8_33_z : Int), ((40 - i8_33_z).toNat = n) → (Wd G cy (AS S s.heap.size) s.heap T_34 H locs) → (i8_33.toInt = i8_33_z) → (0 ≤ i8_33_z ∧ i8_33_z ≤ 40) → (At T_34 x 12) → (Ok MN S T_34) → (lv_has ls 13 [(8, .int (i8_33)), (6, .int (i6_18)), (7, .int (i7_19)), (5, .int (i5_5)), (0, .ref x), (1, .int (a1)), (2, .int (a2)), (3, .int (a3)), (4, .int (a4))]) → W p l e ({ frames := 8, cells := 0, slots := 0, locals := 384 }) s m [.ref x, .int (a1), .int (a2), .int (a3), .int (a4)].toArray below meth c H locs 0 0 QQ (F0 m 275 ls []) := by
              intro n
              induction n using Nat.strongRecOn with
              | ind n ih_L_32 =>
              intro T_34 H locs ls i8_33 i8_33_z hn hw hz_i8_33 hr_i8_33 ha_x_L_35 hO_T_34 hl
              have rg_36 : (-2147483648) ≤ i8_33_z ∧ i8_33_z ≤ 2147483647 := by rw [← hz_i8_33]; exact ⟨z_lo _, z_hi _⟩
              refine lv_iload X.1 X.2.1 dX12_mix_275 (lv_at hl 0 rfl) ?_
              refine lv_bipush (v := 40) X.1 X.2.1 dX12_mix_277 (by decide) ?_
              refine lv_icmp_ge (tgt := 296) X.1 X.2.1 dX12_mix_279 (by decide) (fun c_37 => ?_) (fun c_37 => ?_)
              · have z_b_38 := trivial
                have k_39 : i8_33_z ≥ 40 := z_le ti_40 hz_i8_33 c_37
                refine lv_iconst (v := 0) X.1 X.2.1 dX12_mix_296 (by decide) ?_
                refine lv_istore (lv' := [(8, .int 0), (6, .int (i6_18)), (7, .int (i7_19)), (5, .int (i5_5)), (0, .ref x), (1, .int (a1)), (2, .int (a2)), (3, .int (a3)), (4, .int (a4))]) X.1 X.2.1 dX12_mix_297 hl (by decide) rfl (fun ls hl => ?_)
                have L_40 : ∀ (n : Nat) (T_42 : PS) (H : Heap) (locs : List Loc) (ls : Array Slot) (i8_41 : Int32) (i8_41_z : Int), ((14 - i8_41_z).toNat = n) → (Wd G cy (AS S s.heap.size) s.heap T_42 H locs) → (i8_41.toInt = i8_41_z) → (0 ≤ i8_41_z ∧ i8_41_z ≤ 14) → (At T_42 x 12) → (Ok MN S T_42) → (lv_has ls 13 [(8, .int (i8_41)), (6, .int (i6_18)), (7, .int (i7_19)), (5, .int (i5_5)), (0, .ref x), (1, .int (a1)), (2, .int (a2)), (3, .int (a3)), (4, .int (a4))]) → W p l e ({ frames := 8, cells := 0, slots := 0, locals := 384 }) s m [.ref x, .int (a1), .int (a2), .int (a3), .int (a4)].toArray below meth c H locs 0 0 QQ (F0 m 299 ls []) := by
                  intro n
                  induction n using Nat.strongRecOn with
                  | ind n ih_L_40 =>
                  intro T_42 H locs ls i8_41 i8_41_z hn hw hz_i8_41 hr_i8_41 ha_x_L_43 hO_T_42 hl
                  have rg_44 : (-2147483648) ≤ i8_41_z ∧ i8_41_z ≤ 2147483647 := by rw [← hz_i8_41]; exact ⟨z_lo _, z_hi _⟩
                  refine lv_iload X.1 X.2.1 dX12_mix_299 (lv_at hl 0 rfl) ?_
                  refine lv_iload X.1 X.2.1 dX12_mix_301 (lv_at hl 3 rfl) ?_
                  refine lv_icmp_ge (tgt := 356) X.1 X.2.1 dX12_mix_303 (by decide) (fun c_45 => ?_) (fun c_45 => ?_)
                  · have z_b_46 := trivial
                    have k_47 : i8_41_z ≥ i5_5_z := z_le hz_i5_5 hz_i8_41 c_45
                    refine lv_iload X.1 X.2.1 dX12_mix_356 (lv_at hl 2 rfl) ?_
                    rw [hQQ]
                    exact ret_i X hw hr hlocks (Nat.le_of_ble_eq_true rfl) (Nat.le_of_ble_eq_true rfl) ⟨hO_T_42, trivial⟩ dX12_mix_358
                  · have z_b_48 := trivial
                    have k_49 : i8_41_z < i5_5_z := z_nle hz_i5_5 hz_i8_41 c_45
                    refine lv_iload X.1 X.2.1 dX12_mix_306 (lv_at hl 1 rfl) ?_
                    refine lv_iload X.1 X.2.1 dX12_mix_308 (lv_at hl 0 rfl) ?_
                    refine lv_ishr X.1 X.2.1 dX12_mix_310 ?_
                    refine lv_topi (fun v_50 ev_50 => ?_)
                    have rg_51 := And.intro (z_lo v_50) (z_hi v_50)
                    refine lv_iconst (v := 1) X.1 X.2.1 dX12_mix_311 (by decide) ?_
                    refine lv_iand X.1 X.2.1 dX12_mix_312 ?_
                    refine lv_topi (fun v_52 ev_52 => ?_)
                    have z_53 : 0 ≤ v_52.toInt ∧ v_52.toInt ≤ 1 := z_and1 ev_52
                    refine lv_if_ne (tgt := 319) X.1 X.2.1 dX12_mix_313 (by decide) (fun c_54 => ?_) (fun c_54 => ?_)
                    · have z_b_55 := trivial
                      have k_56 : v_52.toInt ≠ 0 := z_ne rfl ti_0 c_54
                      refine lv_aload_n X.1 X.2.1 dX12_mix_319 rfl (lv_at hl 4 rfl) ?_
                      obtain ⟨q_57, h_58, h_59, h_60⟩ := gQ_12_1261 hO_T_42.1 ha_x_L_43
                      refine r_getR (g := 1261) X hw ha_x_L_43 rfl 61 h_58 (by decide) rfl inn_X12_mix_12 (by decide) (X.2.2.2.1 (.fieldLink RX12 149 "SilkMillModel" "isMixed" "[Z") (by decide +kernel)) rfl (gv_1261 _ _) dX12_mix_320 ?_
                      refine lv_aload_n X.1 X.2.1 dX12_mix_323 rfl (lv_at hl 4 rfl) ?_
                      obtain ⟨q_61, h_62, h_63, h_64⟩ := gQ_12_1258 hO_T_42.1 ha_x_L_43
                      refine r_getR (g := 1258) X hw ha_x_L_43 rfl 58 h_62 (by decide) rfl inn_X12_mix_12 (by decide) (X.2.2.2.1 (.fieldLink RX12 140 "SilkMillModel" "asked" "[I") (by decide +kernel)) rfl (gv_1258 _ _) dX12_mix_324 ?_
                      refine lv_iload X.1 X.2.1 dX12_mix_327 (lv_at hl 0 rfl) ?_
                      refine r_iald X hw h_63 rfl (by rw [h_64]; exact z_ix hz_i8_41 (by omega) (by omega)) dX12_mix_329 ?_
                      refine lv_topi (fun v_65 ev_65 => ?_)
                      have z_66 := gE_1374 hO_T_42.1 h_63 (Int32.toNatClampNeg (i8_41)); rw [← ev_65] at z_66
                      have ev_65 := ev_65.symm
                      refine lv_iconst (v := 1) X.1 X.2.1 dX12_mix_330 (by decide) ?_
                      refine r_zast X hw h_59 rfl (by rw [h_60]; exact z_ix rfl (by omega) (by omega)) dX12_mix_331 (fun H locs hw => ?_)
                      obtain ⟨S_67, eS_67⟩ : ∃ T, T = sA T_42 q_57 (upd (pA T_42 q_57) (Int32.toNatClampNeg (v_65)) (vp_nar .boolean (1))) := ⟨_, rfl⟩
                      rw [← eS_67] at hw
                      have hO_68 : Ok MN S S_67 := hO_T_42.sA eS_67 h_59 (by decide +kernel) (uA_1435 hO_T_42.1 h_59)
                      refine lv_iload X.1 X.2.1 dX12_mix_332 (lv_at hl 8 rfl) ?_
                      refine lv_if_eq (tgt := 350) X.1 X.2.1 dX12_mix_334 (by decide) (fun c_69 => ?_) (fun c_69 => ?_)
                      · have z_b_70 := trivial
                        have k_71 : a4_z = 0 := z_eq hz_a4 ti_0 c_69
                        obtain ⟨x_72, ex_72⟩ : ∃ y : Int32, y = i8_41 + 1 := ⟨_, rfl⟩
                        have z_73 : x_72.toInt = i8_41_z + 1 := z_add ex_72 hz_i8_41 ti_1 (by omega) (by omega)
                        refine lv_iinc (v := x_72) (lv' := [(8, .int (x_72)), (6, .int (i6_18)), (7, .int (i7_19)), (5, .int (i5_5)), (0, .ref x), (1, .int (a1)), (2, .int (a2)), (3, .int (a3)), (4, .int (a4))]) X.1 X.2.1 dX12_mix_350 hl (k := 0) rfl (by rw [ex_72]; rfl) (by decide) rfl (fun ls hl => ?_)
                        refine lv_goto (tgt := 299) X.1 X.2.1 dX12_mix_353 (by decide) ?_
                        have t_74 : At S_67 x 12 := tAt_sA eS_67 ha_x_L_43
                        exact ih_L_40 _ (by omega) _ _ _ _ (x_72) (x_72.toInt) rfl hw rfl (by omega) t_74 hO_68 (lv_sub hl [0, 1, 2, 3, 4, 5, 6, 7, 8] rfl)
                      · have z_b_75 := trivial
                        have k_76 : a4_z ≠ 0 := z_ne hz_a4 ti_0 c_69
                        refine lv_aload_n X.1 X.2.1 dX12_mix_337 rfl (lv_at hl 4 rfl) ?_
                        have t_77 : At S_67 x 12 := tAt_sA eS_67 ha_x_L_43
                        obtain ⟨q_78, h_79, h_80, h_81⟩ := gQ_12_1244 hO_68.1 t_77
                        refine r_getR (g := 1244) X hw t_77 rfl 44 h_79 (by decide) rfl inn_X12_mix_12 (by decide) (X.2.2.2.1 (.fieldLink RX12 115 "SilkMillModel" "isSold" "[Z") (by decide +kernel)) rfl (gv_1244 _ _) dX12_mix_338 ?_
                        refine lv_aload_n X.1 X.2.1 dX12_mix_341 rfl (lv_at hl 4 rfl) ?_
                        have t_82 : pR S_67 1258 x = some q_61 := tR_sA eS_67 h_62
                        refine r_getR (g := 1258) X hw t_77 rfl 58 t_82 (by decide) rfl inn_X12_mix_12 (by decide) (X.2.2.2.1 (.fieldLink RX12 140 "SilkMillModel" "asked" "[I") (by decide +kernel)) rfl (gv_1258 _ _) dX12_mix_342 ?_
                        refine lv_iload X.1 X.2.1 dX12_mix_345 (lv_at hl 0 rfl) ?_
                        have t_83 : At S_67 q_61 1374 := tAt_sA eS_67 h_63
                        have t_84 : pN S_67 q_61 = 14 := tN_sA eS_67 h_64
                        clear h_64
                        refine r_iald X hw t_83 rfl (by rw [t_84]; exact z_ix hz_i8_41 (by omega) (by omega)) dX12_mix_347 ?_
                        have t_85 : pA S_67 q_61 (Int32.toNatClampNeg (i8_41)) = v_65 := tA_sA eS_67 (At_ne h_63 h_59 (by decide)) ev_65
                        rw [t_85]
                        refine lv_iconst (v := 1) X.1 X.2.1 dX12_mix_348 (by decide) ?_
                        refine r_zast X hw h_80 rfl (by rw [h_81]; exact z_ix rfl (by omega) (by omega)) dX12_mix_349 (fun H locs hw => ?_)
                        obtain ⟨S_86, eS_86⟩ : ∃ T, T = sA S_67 q_78 (upd (pA S_67 q_78) (Int32.toNatClampNeg (v_65)) (vp_nar .boolean (1))) := ⟨_, rfl⟩
                        rw [← eS_86] at hw
                        have hO_87 : Ok MN S S_86 := hO_68.sA eS_86 h_80 (by decide +kernel) (uA_1095 hO_68.1 h_80)
                        obtain ⟨x_88, ex_88⟩ : ∃ y : Int32, y = i8_41 + 1 := ⟨_, rfl⟩
                        have z_89 : x_88.toInt = i8_41_z + 1 := z_add ex_88 hz_i8_41 ti_1 (by omega) (by omega)
                        refine lv_iinc (v := x_88) (lv' := [(8, .int (x_88)), (6, .int (i6_18)), (7, .int (i7_19)), (5, .int (i5_5)), (0, .ref x), (1, .int (a1)), (2, .int (a2)), (3, .int (a3)), (4, .int (a4))]) X.1 X.2.1 dX12_mix_350 hl (k := 0) rfl (by rw [ex_88]; rfl) (by decide) rfl (fun ls hl => ?_)
                        refine lv_goto (tgt := 299) X.1 X.2.1 dX12_mix_353 (by decide) ?_
                        have t_90 : At S_86 x 12 := tAt_sA eS_86 t_77
                        exact ih_L_40 _ (by omega) _ _ _ _ (x_88) (x_88.toInt) rfl hw rfl (by omega) t_90 hO_87 (lv_sub hl [0, 1, 2, 3, 4, 5, 6, 7, 8] rfl)
                    · have z_b_91 := trivial
                      have k_92 : v_52.toInt = 0 := z_eq rfl ti_0 c_54
                      refine lv_goto (tgt := 350) X.1 X.2.1 dX12_mix_316 (by decide) ?_
                      obtain ⟨x_93, ex_93⟩ : ∃ y : Int32, y = i8_41 + 1 := ⟨_, rfl⟩
                      have z_94 : x_93.toInt = i8_41_z + 1 := z_add ex_93 hz_i8_41 ti_1 (by omega) (by omega)
                      refine lv_iinc (v := x_93) (lv' := [(8, .int (x_93)), (6, .int (i6_18)), (7, .int (i7_19)), (5, .int (i5_5)), (0, .ref x), (1, .int (a1)), (2, .int (a2)), (3, .int (a3)), (4, .int (a4))]) X.1 X.2.1 dX12_mix_350 hl (k := 0) rfl (by rw [ex_93]; rfl) (by decide) rfl (fun ls hl => ?_)
                      refine lv_goto (tgt := 299) X.1 X.2.1 dX12_mix_353 (by decide) ?_
                      exact ih_L_40 _ (by omega) _ _ _ _ (x_93) (x_93.toInt) rfl hw rfl (by omega) ha_x_L_43 hO_T_42 (lv_sub hl [0, 1, 2, 3, 4, 5, 6, 7, 8] rfl)
                exact L_40 _ _ _ _ _ (0) (0) rfl hw ti_0 (by omega) ha_x_L_35 hO_T_34 (lv_sub hl [0, 1, 2, 3, 4, 5, 6, 7, 8] rfl)
              · have z_b_95 := trivial
                have k_96 : i8_33_z < 40 := z_nle ti_40 hz_i8_33 c_37
                refine lv_aload_n X.1 X.2.1 dX12_mix_282 rfl (lv_at hl 4 rfl) ?_
                obtain ⟨q_97, h_98, h_99, h_100⟩ := gQ_12_1261 hO_T_34.1 ha_x_L_35
                refine r_getR (g := 1261) X hw ha_x_L_35 rfl 61 h_98 (by decide) rfl inn_X12_mix_12 (by decide) (X.2.2.2.1 (.fieldLink RX12 149 "SilkMillModel" "isMixed" "[Z") (by decide +kernel)) rfl (gv_1261 _ _) dX12_mix_283 ?_
                refine lv_iload X.1 X.2.1 dX12_mix_286 (lv_at hl 0 rfl) ?_
                refine lv_iconst (v := 0) X.1 X.2.1 dX12_mix_288 (by decide) ?_
                refine r_zast X hw h_99 rfl (by rw [h_100]; exact z_ix hz_i8_33 (by omega) (by omega)) dX12_mix_289 (fun H locs hw => ?_)
                obtain ⟨S_101, eS_101⟩ : ∃ T, T = sA T_34 q_97 (upd (pA T_34 q_97) (Int32.toNatClampNeg (i8_33)) (vp_nar .boolean (0))) := ⟨_, rfl⟩
                rw [← eS_101] at hw
                have hO_102 : Ok MN S S_101 := hO_T_34.sA eS_101 h_99 (by decide +kernel) (uA_1435 hO_T_34.1 h_99)
                obtain ⟨x_103, ex_103⟩ : ∃ y : Int32, y = i8_33 + 1 := ⟨_, rfl⟩
                have z_104 : x_103.toInt = i8_33_z + 1 := z_add ex_103 hz_i8_33 ti_1 (by omega) (by omega)
                refine lv_iinc (v := x_103) (lv' := [(8, .int (x_103)), (6, .int (i6_18)), (7, .int (i7_19)), (5, .int (i5_5)), (0, .ref x), (1, .int (a1)), (2, .int (a2)), (3, .int (a3)), (4, .int (a4))]) X.1 X.2.1 dX12_mix_290 hl (k := 0) rfl (by rw [ex_103]; rfl) (by decide) rfl (fun ls hl => ?_)
                refine lv_goto (tgt := 275) X.1 X.2.1 dX12_mix_293 (by decide) ?_
                have t_105 : At S_101 x 12 := tAt_sA eS_101 ha_x_L_35
                exact ih_L_32 _ (by omega) _ _ _ _ (x_103) (x_103.toInt) rfl hw rfl (by omega) t_105 hO_102 (lv_sub hl [0, 1, 2, 3, 4, 5, 6, 7, 8] rfl)
            exact L_32 _ _ _ _ _ (0) (0) rfl hw ti_0 (by omega) ha_x_L_8 hO_T_7 (lv_sub hl [0, 1, 2, 3, 4, 5, 6, 7, 8] rfl)
          · have z_b_106 := trivial
            have k_107 : i7_19_z = (-1) := z_eq hz_i7_19 ti_m1 c_29
            refine lv_iconst (v := (-1)) X.1 X.2.1 dX12_mix_270 (by decide) ?_
            rw [hQQ]
            exact ret_i X hw hr hlocks (Nat.le_of_ble_eq_true rfl) (Nat.le_of_ble_eq_true rfl) ⟨hO_T_7, trivial⟩ dX12_mix_271
        · have z_b_108 := trivial
          have k_109 : i8_20_z < v_24.toInt := z_nle rfl hz_i8_20 c_26
          refine lv_iconst (v := 0) X.1 X.2.1 dX12_mix_128 (by decide) ?_
          refine lv_istore (lv' := [(9, .int 0), (6, .int (i6_18)), (7, .int (i7_19)), (8, .int (i8_20)), (5, .int (i5_5)), (0, .ref x), (1, .int (a1)), (2, .int (a2)), (3, .int (a3)), (4, .int (a4))]) X.1 X.2.1 dX12_mix_129 hl (by decide) rfl (fun ls hl => ?_)
          refine lv_iconst (v := 0) X.1 X.2.1 dX12_mix_131 (by decide) ?_
          refine lv_istore (lv' := [(10, .int 0), (9, .int 0), (6, .int (i6_18)), (7, .int (i7_19)), (8, .int (i8_20)), (5, .int (i5_5)), (0, .ref x), (1, .int (a1)), (2, .int (a2)), (3, .int (a3)), (4, .int (a4))]) X.1 X.2.1 dX12_mix_132 hl (by decide) rfl (fun ls hl => ?_)
          refine lv_iconst (v := 0) X.1 X.2.1 dX12_mix_134 (by decide) ?_
          refine lv_istore (lv' := [(11, .int 0), (10, .int 0), (9, .int 0), (6, .int (i6_18)), (7, .int (i7_19)), (8, .int (i8_20)), (5, .int (i5_5)), (0, .ref x), (1, .int (a1)), (2, .int (a2)), (3, .int (a3)), (4, .int (a4))]) X.1 X.2.1 dX12_mix_135 hl (by decide) rfl (fun ls hl => ?_)
          have L_110 : ∀ (n : Nat) (H : Heap) (locs : List Loc) (ls : Array Slot) (i9_111 : Int32) (i9_111_z : Int) (i10_112 : Int32) (i10_112_z : Int) (i11_113 : Int32) (i11_113_z : Int), ((14 - i11_113_z).toNat = n) → (Wd G cy (AS S s.heap.size) s.heap T_7 H locs) → (i9_111.toInt = i9_111_z) → (i10_112.toInt = i10_112_z) → (i11_113.toInt = i11_113_z) → (0 ≤ i11_113_z ∧ i11_113_z ≤ 14) → (lv_has ls 13 [(9, .int (i9_111)), (10, .int (i10_112)), (11, .int (i11_113)), (6, .int (i6_18)), (7, .int (i7_19)), (8, .int (i8_20)), (5, .int (i5_5)), (0, .ref x), (1, .int (a1)), (2, .int (a2)), (3, .int (a3)), (4, .int (a4))]) → W p l e ({ frames := 8, cells := 0, slots := 0, locals := 384 }) s m [.ref x, .int (a1), .int (a2), .int (a3), .int (a4)].toArray below meth c H locs 0 0 QQ (F0 m 137 ls []) := by
            intro n
            induction n using Nat.strongRecOn with
            | ind n ih_L_110 =>
            intro H locs ls i9_111 i9_111_z i10_112 i10_112_z i11_113 i11_113_z hn hw hz_i9_111 hz_i10_112 hz_i11_113 hr_i11_113 hl
            have rg_114 : (-2147483648) ≤ i9_111_z ∧ i9_111_z ≤ 2147483647 := by rw [← hz_i9_111]; exact ⟨z_lo _, z_hi _⟩
            have rg_115 : (-2147483648) ≤ i10_112_z ∧ i10_112_z ≤ 2147483647 := by rw [← hz_i10_112]; exact ⟨z_lo _, z_hi _⟩
            have rg_116 : (-2147483648) ≤ i11_113_z ∧ i11_113_z ≤ 2147483647 := by rw [← hz_i11_113]; exact ⟨z_lo _, z_hi _⟩
            refine lv_iload X.1 X.2.1 dX12_mix_137 (lv_at hl 2 rfl) ?_
            refine lv_iload X.1 X.2.1 dX12_mix_139 (lv_at hl 6 rfl) ?_
            refine lv_icmp_ge (tgt := 187) X.1 X.2.1 dX12_mix_141 (by decide) (fun c_117 => ?_) (fun c_117 => ?_)
            · have z_b_118 := trivial
              have k_119 : i11_113_z ≥ i5_5_z := z_le hz_i5_5 hz_i11_113 c_117
              refine lv_iload X.1 X.2.1 dX12_mix_187 (lv_at hl 0 rfl) ?_
              refine lv_iload_n X.1 X.2.1 dX12_mix_189 rfl (lv_at hl 8 rfl) ?_
              refine lv_icmp_ge (tgt := 196) X.1 X.2.1 dX12_mix_190 (by decide) (fun c_120 => ?_) (fun c_120 => ?_)
              · have z_b_121 := trivial
                have k_122 : i9_111_z ≥ a1_z := z_le hz_a1 hz_i9_111 c_120
                refine lv_iload X.1 X.2.1 dX12_mix_196 (lv_at hl 5 rfl) ?_
                refine lv_iload X.1 X.2.1 dX12_mix_198 (lv_at hl 3 rfl) ?_
                refine lv_ixor X.1 X.2.1 dX12_mix_200 ?_
                refine lv_topi (fun v_123 ev_123 => ?_)
                have rg_124 := And.intro (z_lo v_123) (z_hi v_123)
                refine lv_istore (lv' := [(11, .int (v_123)), (9, .int (i9_111)), (10, .int (i10_112)), (6, .int (i6_18)), (7, .int (i7_19)), (8, .int (i8_20)), (5, .int (i5_5)), (0, .ref x), (1, .int (a1)), (2, .int (a2)), (3, .int (a3)), (4, .int (a4))]) X.1 X.2.1 dX12_mix_201 hl (by decide) rfl (fun ls hl => ?_)
                refine lv_iload X.1 X.2.1 dX12_mix_203 (lv_at hl 5 rfl) ?_
                refine lv_iload X.1 X.2.1 dX12_mix_205 (lv_at hl 0 rfl) ?_
                refine lv_iand X.1 X.2.1 dX12_mix_207 ?_
                refine lv_topi (fun v_125 ev_125 => ?_)
                have rg_126 := And.intro (z_lo v_125) (z_hi v_125)
                refine lv_iload X.1 X.2.1 dX12_mix_208 (lv_at hl 0 rfl) ?_
                refine lv_ineg X.1 X.2.1 dX12_mix_210 ?_
                refine lv_topi (fun v_127 ev_127 => ?_)
                have rg_128 := And.intro (z_lo v_127) (z_hi v_127)
                refine lv_iand X.1 X.2.1 dX12_mix_211 ?_
                refine lv_topi (fun v_129 ev_129 => ?_)
                have rg_130 := And.intro (z_lo v_129) (z_hi v_129)
                refine lv_if_eq (tgt := 219) X.1 X.2.1 dX12_mix_212 (by decide) (fun c_131 => ?_) (fun c_131 => ?_)
                · have z_b_132 := trivial
                  have k_133 : v_129.toInt = 0 := z_eq rfl ti_0 c_131
                  refine lv_iconst (v := 0) X.1 X.2.1 dX12_mix_219 (by decide) ?_
                  refine lv_istore (lv' := [(12, .int 0), (11, .int (v_123)), (9, .int (i9_111)), (10, .int (i10_112)), (6, .int (i6_18)), (7, .int (i7_19)), (8, .int (i8_20)), (5, .int (i5_5)), (0, .ref x), (1, .int (a1)), (2, .int (a2)), (3, .int (a3)), (4, .int (a4))]) X.1 X.2.1 dX12_mix_220 hl (by decide) rfl (fun ls hl => ?_)
                  refine lv_iload X.1 X.2.1 dX12_mix_222 (lv_at hl 5 rfl) ?_
                  refine lv_iconst (v := (-1)) X.1 X.2.1 dX12_mix_224 (by decide) ?_
                  refine lv_icmp_eq (tgt := 250) X.1 X.2.1 dX12_mix_225 (by decide) (fun c_134 => ?_) (fun c_134 => ?_)
                  · have z_b_135 := trivial
                    have k_136 : i7_19_z = (-1) := z_eq hz_i7_19 ti_m1 c_134
                    refine lv_iload X.1 X.2.1 dX12_mix_250 (lv_at hl 6 rfl) ?_
                    refine lv_istore (lv' := [(6, .int (i8_20)), (12, .int 0), (11, .int (v_123)), (9, .int (i9_111)), (10, .int (i10_112)), (7, .int (i7_19)), (8, .int (i8_20)), (5, .int (i5_5)), (0, .ref x), (1, .int (a1)), (2, .int (a2)), (3, .int (a3)), (4, .int (a4))]) X.1 X.2.1 dX12_mix_252 hl (by decide) rfl (fun ls hl => ?_)
                    refine lv_iload X.1 X.2.1 dX12_mix_254 (lv_at hl 4 rfl) ?_
                    refine lv_istore (lv' := [(7, .int (i10_112)), (6, .int (i8_20)), (12, .int 0), (11, .int (v_123)), (9, .int (i9_111)), (10, .int (i10_112)), (8, .int (i8_20)), (5, .int (i5_5)), (0, .ref x), (1, .int (a1)), (2, .int (a2)), (3, .int (a3)), (4, .int (a4))]) X.1 X.2.1 dX12_mix_256 hl (by decide) rfl (fun ls hl => ?_)
                    obtain ⟨x_137, ex_137⟩ : ∃ y : Int32, y = i8_20 + 1 := ⟨_, rfl⟩
                    have z_138 : x_137.toInt = i8_20_z + 1 := z_add ex_137 hz_i8_20 ti_1 (by omega) (by omega)
                    refine lv_iinc (v := x_137) (lv' := [(8, .int (x_137)), (7, .int (i10_112)), (6, .int (i8_20)), (12, .int 0), (11, .int (v_123)), (9, .int (i9_111)), (10, .int (i10_112)), (5, .int (i5_5)), (0, .ref x), (1, .int (a1)), (2, .int (a2)), (3, .int (a3)), (4, .int (a4))]) X.1 X.2.1 dX12_mix_258 hl (k := 6) rfl (by rw [ex_137]; rfl) (by decide) rfl (fun ls hl => ?_)
                    refine lv_goto (tgt := 119) X.1 X.2.1 dX12_mix_261 (by decide) ?_
                    exact ih_L_17 _ (by omega) _ _ _ (i8_20) (i8_20_z) (i10_112) (i10_112_z) (x_137) (x_137.toInt) rfl hw hz_i8_20 hz_i10_112 rfl (by omega) (lv_sub hl [2, 1, 0, 7, 8, 9, 10, 11, 12] rfl)
                  · have z_b_139 := trivial
                    have k_140 : i7_19_z ≠ (-1) := z_ne hz_i7_19 ti_m1 c_134
                    refine lv_iload X.1 X.2.1 dX12_mix_228 (lv_at hl 3 rfl) ?_
                    refine lv_iload X.1 X.2.1 dX12_mix_230 (lv_at hl 5 rfl) ?_
                    refine lv_icmp_gt (tgt := 258) X.1 X.2.1 dX12_mix_232 (by decide) (fun c_141 => ?_) (fun c_141 => ?_)
                    · have z_b_142 := trivial
                      have k_143 : i10_112_z > i7_19_z := z_lt hz_i7_19 hz_i10_112 c_141
                      obtain ⟨x_144, ex_144⟩ : ∃ y : Int32, y = i8_20 + 1 := ⟨_, rfl⟩
                      have z_145 : x_144.toInt = i8_20_z + 1 := z_add ex_144 hz_i8_20 ti_1 (by omega) (by omega)
                      refine lv_iinc (v := x_144) (lv' := [(8, .int (x_144)), (12, .int 0), (11, .int (v_123)), (9, .int (i9_111)), (10, .int (i10_112)), (6, .int (i6_18)), (7, .int (i7_19)), (5, .int (i5_5)), (0, .ref x), (1, .int (a1)), (2, .int (a2)), (3, .int (a3)), (4, .int (a4))]) X.1 X.2.1 dX12_mix_258 hl (k := 6) rfl (by rw [ex_144]; rfl) (by decide) rfl (fun ls hl => ?_)
                      refine lv_goto (tgt := 119) X.1 X.2.1 dX12_mix_261 (by decide) ?_
                      exact ih_L_17 _ (by omega) _ _ _ (i6_18) (i6_18_z) (i7_19) (i7_19_z) (x_144) (x_144.toInt) rfl hw hz_i6_18 hz_i7_19 rfl (by omega) (lv_sub hl [5, 6, 0, 7, 8, 9, 10, 11, 12] rfl)
                    · have z_b_146 := trivial
                      have k_147 : i10_112_z ≤ i7_19_z := z_nlt hz_i7_19 hz_i10_112 c_141
                      refine lv_iload X.1 X.2.1 dX12_mix_235 (lv_at hl 3 rfl) ?_
                      refine lv_iload X.1 X.2.1 dX12_mix_237 (lv_at hl 5 rfl) ?_
                      refine lv_icmp_ne (tgt := 250) X.1 X.2.1 dX12_mix_239 (by decide) (fun c_148 => ?_) (fun c_148 => ?_)
                      · have z_b_149 := trivial
                        have k_150 : i10_112_z ≠ i7_19_z := z_ne hz_i10_112 hz_i7_19 c_148
                        refine lv_iload X.1 X.2.1 dX12_mix_250 (lv_at hl 6 rfl) ?_
                        refine lv_istore (lv' := [(6, .int (i8_20)), (12, .int 0), (11, .int (v_123)), (9, .int (i9_111)), (10, .int (i10_112)), (7, .int (i7_19)), (8, .int (i8_20)), (5, .int (i5_5)), (0, .ref x), (1, .int (a1)), (2, .int (a2)), (3, .int (a3)), (4, .int (a4))]) X.1 X.2.1 dX12_mix_252 hl (by decide) rfl (fun ls hl => ?_)
                        refine lv_iload X.1 X.2.1 dX12_mix_254 (lv_at hl 4 rfl) ?_
                        refine lv_istore (lv' := [(7, .int (i10_112)), (6, .int (i8_20)), (12, .int 0), (11, .int (v_123)), (9, .int (i9_111)), (10, .int (i10_112)), (8, .int (i8_20)), (5, .int (i5_5)), (0, .ref x), (1, .int (a1)), (2, .int (a2)), (3, .int (a3)), (4, .int (a4))]) X.1 X.2.1 dX12_mix_256 hl (by decide) rfl (fun ls hl => ?_)
                        obtain ⟨x_151, ex_151⟩ : ∃ y : Int32, y = i8_20 + 1 := ⟨_, rfl⟩
                        have z_152 : x_151.toInt = i8_20_z + 1 := z_add ex_151 hz_i8_20 ti_1 (by omega) (by omega)
                        refine lv_iinc (v := x_151) (lv' := [(8, .int (x_151)), (7, .int (i10_112)), (6, .int (i8_20)), (12, .int 0), (11, .int (v_123)), (9, .int (i9_111)), (10, .int (i10_112)), (5, .int (i5_5)), (0, .ref x), (1, .int (a1)), (2, .int (a2)), (3, .int (a3)), (4, .int (a4))]) X.1 X.2.1 dX12_mix_258 hl (k := 6) rfl (by rw [ex_151]; rfl) (by decide) rfl (fun ls hl => ?_)
                        refine lv_goto (tgt := 119) X.1 X.2.1 dX12_mix_261 (by decide) ?_
                        exact ih_L_17 _ (by omega) _ _ _ (i8_20) (i8_20_z) (i10_112) (i10_112_z) (x_151) (x_151.toInt) rfl hw hz_i8_20 hz_i10_112 rfl (by omega) (lv_sub hl [2, 1, 0, 7, 8, 9, 10, 11, 12] rfl)
                      · have z_b_153 := trivial
                        have k_154 : i10_112_z = i7_19_z := z_eq hz_i10_112 hz_i7_19 c_148
                        refine lv_iload X.1 X.2.1 dX12_mix_242 (lv_at hl 0 rfl) ?_
                        refine lv_if_ne (tgt := 250) X.1 X.2.1 dX12_mix_244 (by decide) (fun c_155 => absurd c_155 (by decide)) (fun c_155 => ?_)
                        refine lv_goto (tgt := 258) X.1 X.2.1 dX12_mix_247 (by decide) ?_
                        obtain ⟨x_156, ex_156⟩ : ∃ y : Int32, y = i8_20 + 1 := ⟨_, rfl⟩
                        have z_157 : x_156.toInt = i8_20_z + 1 := z_add ex_156 hz_i8_20 ti_1 (by omega) (by omega)
                        refine lv_iinc (v := x_156) (lv' := [(8, .int (x_156)), (12, .int 0), (11, .int (v_123)), (9, .int (i9_111)), (10, .int (i10_112)), (6, .int (i6_18)), (7, .int (i7_19)), (5, .int (i5_5)), (0, .ref x), (1, .int (a1)), (2, .int (a2)), (3, .int (a3)), (4, .int (a4))]) X.1 X.2.1 dX12_mix_258 hl (k := 6) rfl (by rw [ex_156]; rfl) (by decide) rfl (fun ls hl => ?_)
                        refine lv_goto (tgt := 119) X.1 X.2.1 dX12_mix_261 (by decide) ?_
                        exact ih_L_17 _ (by omega) _ _ _ (i6_18) (i6_18_z) (i7_19) (i7_19_z) (x_156) (x_156.toInt) rfl hw hz_i6_18 hz_i7_19 rfl (by omega) (lv_sub hl [5, 6, 0, 7, 8, 9, 10, 11, 12] rfl)
                · have z_b_158 := trivial
                  have k_159 : v_129.toInt ≠ 0 := z_ne rfl ti_0 c_131
                  refine lv_iconst (v := 1) X.1 X.2.1 dX12_mix_215 (by decide) ?_
                  refine lv_goto (tgt := 220) X.1 X.2.1 dX12_mix_216 (by decide) ?_
                  refine lv_istore (lv' := [(12, .int 1), (11, .int (v_123)), (9, .int (i9_111)), (10, .int (i10_112)), (6, .int (i6_18)), (7, .int (i7_19)), (8, .int (i8_20)), (5, .int (i5_5)), (0, .ref x), (1, .int (a1)), (2, .int (a2)), (3, .int (a3)), (4, .int (a4))]) X.1 X.2.1 dX12_mix_220 hl (by decide) rfl (fun ls hl => ?_)
                  refine lv_iload X.1 X.2.1 dX12_mix_222 (lv_at hl 5 rfl) ?_
                  refine lv_iconst (v := (-1)) X.1 X.2.1 dX12_mix_224 (by decide) ?_
                  refine lv_icmp_eq (tgt := 250) X.1 X.2.1 dX12_mix_225 (by decide) (fun c_160 => ?_) (fun c_160 => ?_)
                  · have z_b_161 := trivial
                    have k_162 : i7_19_z = (-1) := z_eq hz_i7_19 ti_m1 c_160
                    refine lv_iload X.1 X.2.1 dX12_mix_250 (lv_at hl 6 rfl) ?_
                    refine lv_istore (lv' := [(6, .int (i8_20)), (12, .int 1), (11, .int (v_123)), (9, .int (i9_111)), (10, .int (i10_112)), (7, .int (i7_19)), (8, .int (i8_20)), (5, .int (i5_5)), (0, .ref x), (1, .int (a1)), (2, .int (a2)), (3, .int (a3)), (4, .int (a4))]) X.1 X.2.1 dX12_mix_252 hl (by decide) rfl (fun ls hl => ?_)
                    refine lv_iload X.1 X.2.1 dX12_mix_254 (lv_at hl 4 rfl) ?_
                    refine lv_istore (lv' := [(7, .int (i10_112)), (6, .int (i8_20)), (12, .int 1), (11, .int (v_123)), (9, .int (i9_111)), (10, .int (i10_112)), (8, .int (i8_20)), (5, .int (i5_5)), (0, .ref x), (1, .int (a1)), (2, .int (a2)), (3, .int (a3)), (4, .int (a4))]) X.1 X.2.1 dX12_mix_256 hl (by decide) rfl (fun ls hl => ?_)
                    obtain ⟨x_163, ex_163⟩ : ∃ y : Int32, y = i8_20 + 1 := ⟨_, rfl⟩
                    have z_164 : x_163.toInt = i8_20_z + 1 := z_add ex_163 hz_i8_20 ti_1 (by omega) (by omega)
                    refine lv_iinc (v := x_163) (lv' := [(8, .int (x_163)), (7, .int (i10_112)), (6, .int (i8_20)), (12, .int 1), (11, .int (v_123)), (9, .int (i9_111)), (10, .int (i10_112)), (5, .int (i5_5)), (0, .ref x), (1, .int (a1)), (2, .int (a2)), (3, .int (a3)), (4, .int (a4))]) X.1 X.2.1 dX12_mix_258 hl (k := 6) rfl (by rw [ex_163]; rfl) (by decide) rfl (fun ls hl => ?_)
                    refine lv_goto (tgt := 119) X.1 X.2.1 dX12_mix_261 (by decide) ?_
                    exact ih_L_17 _ (by omega) _ _ _ (i8_20) (i8_20_z) (i10_112) (i10_112_z) (x_163) (x_163.toInt) rfl hw hz_i8_20 hz_i10_112 rfl (by omega) (lv_sub hl [2, 1, 0, 7, 8, 9, 10, 11, 12] rfl)
                  · have z_b_165 := trivial
                    have k_166 : i7_19_z ≠ (-1) := z_ne hz_i7_19 ti_m1 c_160
                    refine lv_iload X.1 X.2.1 dX12_mix_228 (lv_at hl 3 rfl) ?_
                    refine lv_iload X.1 X.2.1 dX12_mix_230 (lv_at hl 5 rfl) ?_
                    refine lv_icmp_gt (tgt := 258) X.1 X.2.1 dX12_mix_232 (by decide) (fun c_167 => ?_) (fun c_167 => ?_)
                    · have z_b_168 := trivial
                      have k_169 : i10_112_z > i7_19_z := z_lt hz_i7_19 hz_i10_112 c_167
                      obtain ⟨x_170, ex_170⟩ : ∃ y : Int32, y = i8_20 + 1 := ⟨_, rfl⟩
                      have z_171 : x_170.toInt = i8_20_z + 1 := z_add ex_170 hz_i8_20 ti_1 (by omega) (by omega)
                      refine lv_iinc (v := x_170) (lv' := [(8, .int (x_170)), (12, .int 1), (11, .int (v_123)), (9, .int (i9_111)), (10, .int (i10_112)), (6, .int (i6_18)), (7, .int (i7_19)), (5, .int (i5_5)), (0, .ref x), (1, .int (a1)), (2, .int (a2)), (3, .int (a3)), (4, .int (a4))]) X.1 X.2.1 dX12_mix_258 hl (k := 6) rfl (by rw [ex_170]; rfl) (by decide) rfl (fun ls hl => ?_)
                      refine lv_goto (tgt := 119) X.1 X.2.1 dX12_mix_261 (by decide) ?_
                      exact ih_L_17 _ (by omega) _ _ _ (i6_18) (i6_18_z) (i7_19) (i7_19_z) (x_170) (x_170.toInt) rfl hw hz_i6_18 hz_i7_19 rfl (by omega) (lv_sub hl [5, 6, 0, 7, 8, 9, 10, 11, 12] rfl)
                    · have z_b_172 := trivial
                      have k_173 : i10_112_z ≤ i7_19_z := z_nlt hz_i7_19 hz_i10_112 c_167
                      refine lv_iload X.1 X.2.1 dX12_mix_235 (lv_at hl 3 rfl) ?_
                      refine lv_iload X.1 X.2.1 dX12_mix_237 (lv_at hl 5 rfl) ?_
                      refine lv_icmp_ne (tgt := 250) X.1 X.2.1 dX12_mix_239 (by decide) (fun c_174 => ?_) (fun c_174 => ?_)
                      · have z_b_175 := trivial
                        have k_176 : i10_112_z ≠ i7_19_z := z_ne hz_i10_112 hz_i7_19 c_174
                        refine lv_iload X.1 X.2.1 dX12_mix_250 (lv_at hl 6 rfl) ?_
                        refine lv_istore (lv' := [(6, .int (i8_20)), (12, .int 1), (11, .int (v_123)), (9, .int (i9_111)), (10, .int (i10_112)), (7, .int (i7_19)), (8, .int (i8_20)), (5, .int (i5_5)), (0, .ref x), (1, .int (a1)), (2, .int (a2)), (3, .int (a3)), (4, .int (a4))]) X.1 X.2.1 dX12_mix_252 hl (by decide) rfl (fun ls hl => ?_)
                        refine lv_iload X.1 X.2.1 dX12_mix_254 (lv_at hl 4 rfl) ?_
                        refine lv_istore (lv' := [(7, .int (i10_112)), (6, .int (i8_20)), (12, .int 1), (11, .int (v_123)), (9, .int (i9_111)), (10, .int (i10_112)), (8, .int (i8_20)), (5, .int (i5_5)), (0, .ref x), (1, .int (a1)), (2, .int (a2)), (3, .int (a3)), (4, .int (a4))]) X.1 X.2.1 dX12_mix_256 hl (by decide) rfl (fun ls hl => ?_)
                        obtain ⟨x_177, ex_177⟩ : ∃ y : Int32, y = i8_20 + 1 := ⟨_, rfl⟩
                        have z_178 : x_177.toInt = i8_20_z + 1 := z_add ex_177 hz_i8_20 ti_1 (by omega) (by omega)
                        refine lv_iinc (v := x_177) (lv' := [(8, .int (x_177)), (7, .int (i10_112)), (6, .int (i8_20)), (12, .int 1), (11, .int (v_123)), (9, .int (i9_111)), (10, .int (i10_112)), (5, .int (i5_5)), (0, .ref x), (1, .int (a1)), (2, .int (a2)), (3, .int (a3)), (4, .int (a4))]) X.1 X.2.1 dX12_mix_258 hl (k := 6) rfl (by rw [ex_177]; rfl) (by decide) rfl (fun ls hl => ?_)
                        refine lv_goto (tgt := 119) X.1 X.2.1 dX12_mix_261 (by decide) ?_
                        exact ih_L_17 _ (by omega) _ _ _ (i8_20) (i8_20_z) (i10_112) (i10_112_z) (x_177) (x_177.toInt) rfl hw hz_i8_20 hz_i10_112 rfl (by omega) (lv_sub hl [2, 1, 0, 7, 8, 9, 10, 11, 12] rfl)
                      · have z_b_179 := trivial
                        have k_180 : i10_112_z = i7_19_z := z_eq hz_i10_112 hz_i7_19 c_174
                        refine lv_iload X.1 X.2.1 dX12_mix_242 (lv_at hl 0 rfl) ?_
                        refine lv_if_ne (tgt := 250) X.1 X.2.1 dX12_mix_244 (by decide) (fun c_181 => ?_) (fun c_181 => absurd c_181 (by decide))
                        refine lv_iload X.1 X.2.1 dX12_mix_250 (lv_at hl 6 rfl) ?_
                        refine lv_istore (lv' := [(6, .int (i8_20)), (12, .int 1), (11, .int (v_123)), (9, .int (i9_111)), (10, .int (i10_112)), (7, .int (i7_19)), (8, .int (i8_20)), (5, .int (i5_5)), (0, .ref x), (1, .int (a1)), (2, .int (a2)), (3, .int (a3)), (4, .int (a4))]) X.1 X.2.1 dX12_mix_252 hl (by decide) rfl (fun ls hl => ?_)
                        refine lv_iload X.1 X.2.1 dX12_mix_254 (lv_at hl 4 rfl) ?_
                        refine lv_istore (lv' := [(7, .int (i10_112)), (6, .int (i8_20)), (12, .int 1), (11, .int (v_123)), (9, .int (i9_111)), (10, .int (i10_112)), (8, .int (i8_20)), (5, .int (i5_5)), (0, .ref x), (1, .int (a1)), (2, .int (a2)), (3, .int (a3)), (4, .int (a4))]) X.1 X.2.1 dX12_mix_256 hl (by decide) rfl (fun ls hl => ?_)
                        obtain ⟨x_182, ex_182⟩ : ∃ y : Int32, y = i8_20 + 1 := ⟨_, rfl⟩
                        have z_183 : x_182.toInt = i8_20_z + 1 := z_add ex_182 hz_i8_20 ti_1 (by omega) (by omega)
                        refine lv_iinc (v := x_182) (lv' := [(8, .int (x_182)), (7, .int (i10_112)), (6, .int (i8_20)), (12, .int 1), (11, .int (v_123)), (9, .int (i9_111)), (10, .int (i10_112)), (5, .int (i5_5)), (0, .ref x), (1, .int (a1)), (2, .int (a2)), (3, .int (a3)), (4, .int (a4))]) X.1 X.2.1 dX12_mix_258 hl (k := 6) rfl (by rw [ex_182]; rfl) (by decide) rfl (fun ls hl => ?_)
                        refine lv_goto (tgt := 119) X.1 X.2.1 dX12_mix_261 (by decide) ?_
                        exact ih_L_17 _ (by omega) _ _ _ (i8_20) (i8_20_z) (i10_112) (i10_112_z) (x_182) (x_182.toInt) rfl hw hz_i8_20 hz_i10_112 rfl (by omega) (lv_sub hl [2, 1, 0, 7, 8, 9, 10, 11, 12] rfl)
              · have z_b_184 := trivial
                have k_185 : i9_111_z < a1_z := z_nle hz_a1 hz_i9_111 c_120
                refine lv_goto (tgt := 258) X.1 X.2.1 dX12_mix_193 (by decide) ?_
                obtain ⟨x_186, ex_186⟩ : ∃ y : Int32, y = i8_20 + 1 := ⟨_, rfl⟩
                have z_187 : x_186.toInt = i8_20_z + 1 := z_add ex_186 hz_i8_20 ti_1 (by omega) (by omega)
                refine lv_iinc (v := x_186) (lv' := [(8, .int (x_186)), (9, .int (i9_111)), (10, .int (i10_112)), (11, .int (i11_113)), (6, .int (i6_18)), (7, .int (i7_19)), (5, .int (i5_5)), (0, .ref x), (1, .int (a1)), (2, .int (a2)), (3, .int (a3)), (4, .int (a4))]) X.1 X.2.1 dX12_mix_258 hl (k := 5) rfl (by rw [ex_186]; rfl) (by decide) rfl (fun ls hl => ?_)
                refine lv_goto (tgt := 119) X.1 X.2.1 dX12_mix_261 (by decide) ?_
                exact ih_L_17 _ (by omega) _ _ _ (i6_18) (i6_18_z) (i7_19) (i7_19_z) (x_186) (x_186.toInt) rfl hw hz_i6_18 hz_i7_19 rfl (by omega) (lv_sub hl [4, 5, 0, 6, 7, 8, 9, 10, 11] rfl)
            · have z_b_188 := trivial
              have k_189 : i11_113_z < i5_5_z := z_nle hz_i5_5 hz_i11_113 c_117
              refine lv_iload X.1 X.2.1 dX12_mix_144 (lv_at hl 5 rfl) ?_
              refine lv_iload X.1 X.2.1 dX12_mix_146 (lv_at hl 2 rfl) ?_
              refine lv_ishr X.1 X.2.1 dX12_mix_148 ?_
              refine lv_topi (fun v_190 ev_190 => ?_)
              have rg_191 := And.intro (z_lo v_190) (z_hi v_190)
              refine lv_iconst (v := 1) X.1 X.2.1 dX12_mix_149 (by decide) ?_
              refine lv_iand X.1 X.2.1 dX12_mix_150 ?_
              refine lv_topi (fun v_192 ev_192 => ?_)
              have z_193 : 0 ≤ v_192.toInt ∧ v_192.toInt ≤ 1 := z_and1 ev_192
              refine lv_if_ne (tgt := 157) X.1 X.2.1 dX12_mix_151 (by decide) (fun c_194 => ?_) (fun c_194 => ?_)
              · have z_b_195 := trivial
                have k_196 : v_192.toInt ≠ 0 := z_ne rfl ti_0 c_194
                refine lv_iload X.1 X.2.1 dX12_mix_157 (lv_at hl 0 rfl) ?_
                refine lv_aload_n X.1 X.2.1 dX12_mix_159 rfl (lv_at hl 7 rfl) ?_
                obtain ⟨q_197, h_198, h_199, h_200⟩ := gQ_12_1259 hO_T_7.1 ha_x_L_8
                refine r_getR (g := 1259) X hw ha_x_L_8 rfl 59 h_198 (by decide) rfl inn_X12_mix_12 (by decide) (X.2.2.2.1 (.fieldLink RX12 143 "SilkMillModel" "askedWeight" "[I") (by decide +kernel)) rfl (gv_1259 _ _) dX12_mix_160 ?_
                refine lv_iload X.1 X.2.1 dX12_mix_163 (lv_at hl 2 rfl) ?_
                refine r_iald X hw h_199 rfl (by rw [h_200]; exact z_ix hz_i11_113 (by omega) (by omega)) dX12_mix_165 ?_
                refine lv_topi (fun v_201 ev_201 => ?_)
                have rg_202 := And.intro (z_lo v_201) (z_hi v_201)
                have ev_201 := ev_201.symm
                refine lv_iadd X.1 X.2.1 dX12_mix_166 ?_
                refine lv_topi (fun v_203 ev_203 => ?_)
                have rg_204 := And.intro (z_lo v_203) (z_hi v_203)
                refine lv_istore (lv' := [(9, .int (v_203)), (10, .int (i10_112)), (11, .int (i11_113)), (6, .int (i6_18)), (7, .int (i7_19)), (8, .int (i8_20)), (5, .int (i5_5)), (0, .ref x), (1, .int (a1)), (2, .int (a2)), (3, .int (a3)), (4, .int (a4))]) X.1 X.2.1 dX12_mix_167 hl (by decide) rfl (fun ls hl => ?_)
                refine lv_iload X.1 X.2.1 dX12_mix_169 (lv_at hl 1 rfl) ?_
                refine lv_aload_n X.1 X.2.1 dX12_mix_171 rfl (lv_at hl 7 rfl) ?_
                obtain ⟨q_205, h_206, h_207, h_208⟩ := gQ_12_1260 hO_T_7.1 ha_x_L_8
                refine r_getR (g := 1260) X hw ha_x_L_8 rfl 60 h_206 (by decide) rfl inn_X12_mix_12 (by decide) (X.2.2.2.1 (.fieldLink RX12 146 "SilkMillModel" "askedPrice" "[I") (by decide +kernel)) rfl (gv_1260 _ _) dX12_mix_172 ?_
                refine lv_iload X.1 X.2.1 dX12_mix_175 (lv_at hl 2 rfl) ?_
                refine r_iald X hw h_207 rfl (by rw [h_208]; exact z_ix hz_i11_113 (by omega) (by omega)) dX12_mix_177 ?_
                refine lv_topi (fun v_209 ev_209 => ?_)
                have rg_210 := And.intro (z_lo v_209) (z_hi v_209)
                have ev_209 := ev_209.symm
                refine lv_iadd X.1 X.2.1 dX12_mix_178 ?_
                refine lv_topi (fun v_211 ev_211 => ?_)
                have rg_212 := And.intro (z_lo v_211) (z_hi v_211)
                refine lv_istore (lv' := [(10, .int (v_211)), (9, .int (v_203)), (11, .int (i11_113)), (6, .int (i6_18)), (7, .int (i7_19)), (8, .int (i8_20)), (5, .int (i5_5)), (0, .ref x), (1, .int (a1)), (2, .int (a2)), (3, .int (a3)), (4, .int (a4))]) X.1 X.2.1 dX12_mix_179 hl (by decide) rfl (fun ls hl => ?_)
                obtain ⟨x_213, ex_213⟩ : ∃ y : Int32, y = i11_113 + 1 := ⟨_, rfl⟩
                have z_214 : x_213.toInt = i11_113_z + 1 := z_add ex_213 hz_i11_113 ti_1 (by omega) (by omega)
                refine lv_iinc (v := x_213) (lv' := [(11, .int (x_213)), (10, .int (v_211)), (9, .int (v_203)), (6, .int (i6_18)), (7, .int (i7_19)), (8, .int (i8_20)), (5, .int (i5_5)), (0, .ref x), (1, .int (a1)), (2, .int (a2)), (3, .int (a3)), (4, .int (a4))]) X.1 X.2.1 dX12_mix_181 hl (k := 2) rfl (by rw [ex_213]; rfl) (by decide) rfl (fun ls hl => ?_)
                refine lv_goto (tgt := 137) X.1 X.2.1 dX12_mix_184 (by decide) ?_
                exact ih_L_110 _ (by omega) _ _ _ (v_203) (v_203.toInt) (v_211) (v_211.toInt) (x_213) (x_213.toInt) rfl hw rfl rfl rfl (by omega) (lv_sub hl [2, 1, 0, 3, 4, 5, 6, 7, 8, 9, 10, 11] rfl)
              · have z_b_215 := trivial
                have k_216 : v_192.toInt = 0 := z_eq rfl ti_0 c_194
                refine lv_goto (tgt := 181) X.1 X.2.1 dX12_mix_154 (by decide) ?_
                obtain ⟨x_217, ex_217⟩ : ∃ y : Int32, y = i11_113 + 1 := ⟨_, rfl⟩
                have z_218 : x_217.toInt = i11_113_z + 1 := z_add ex_217 hz_i11_113 ti_1 (by omega) (by omega)
                refine lv_iinc (v := x_217) (lv' := [(11, .int (x_217)), (9, .int (i9_111)), (10, .int (i10_112)), (6, .int (i6_18)), (7, .int (i7_19)), (8, .int (i8_20)), (5, .int (i5_5)), (0, .ref x), (1, .int (a1)), (2, .int (a2)), (3, .int (a3)), (4, .int (a4))]) X.1 X.2.1 dX12_mix_181 hl (k := 2) rfl (by rw [ex_217]; rfl) (by decide) rfl (fun ls hl => ?_)
                refine lv_goto (tgt := 137) X.1 X.2.1 dX12_mix_184 (by decide) ?_
                exact ih_L_110 _ (by omega) _ _ _ (i9_111) (i9_111_z) (i10_112) (i10_112_z) (x_217) (x_217.toInt) rfl hw hz_i9_111 hz_i10_112 rfl (by omega) (lv_sub hl [1, 2, 0, 3, 4, 5, 6, 7, 8, 9, 10, 11] rfl)
          exact L_110 _ _ _ _ (0) (0) (0) (0) (0) (0) rfl hw ti_0 ti_0 ti_0 (by omega) (lv_sub hl [2, 1, 0, 3, 4, 5, 6, 7, 8, 9, 10, 11] rfl)
      exact L_17 _ _ _ _ (0) (0) ((-1)) ((-1)) (1) (1) rfl hw ti_0 ti_m1 ti_1 (by omega) (lv_sub hl [2, 1, 0, 3, 4, 5, 6, 7, 8] rfl)
    · have z_b_219 := trivial
      have k_220 : i6_6_z < v_11.toInt := z_nle rfl hz_i6_6 c_14
      refine lv_iload X.1 X.2.1 dX12_mix_20 (lv_at hl 0 rfl) ?_
      refine lv_bipush (v := 14) X.1 X.2.1 dX12_mix_22 (by decide) ?_
      refine lv_icmp_ge (tgt := 110) X.1 X.2.1 dX12_mix_24 (by decide) (fun c_221 => ?_) (fun c_221 => ?_)
      · have z_b_222 := trivial
        have k_223 : i5_5_z ≥ 14 := z_le ti_14 hz_i5_5 c_221
        refine lv_iconst (v := 0) X.1 X.2.1 dX12_mix_110 (by decide) ?_
        refine lv_istore (lv' := [(6, .int 0), (5, .int (i5_5)), (0, .ref x), (1, .int (a1)), (2, .int (a2)), (3, .int (a3)), (4, .int (a4))]) X.1 X.2.1 dX12_mix_111 hl (by decide) rfl (fun ls hl => ?_)
        refine lv_iconst (v := (-1)) X.1 X.2.1 dX12_mix_113 (by decide) ?_
        refine lv_istore (lv' := [(7, .int (-1)), (6, .int 0), (5, .int (i5_5)), (0, .ref x), (1, .int (a1)), (2, .int (a2)), (3, .int (a3)), (4, .int (a4))]) X.1 X.2.1 dX12_mix_114 hl (by decide) rfl (fun ls hl => ?_)
        refine lv_iconst (v := 1) X.1 X.2.1 dX12_mix_116 (by decide) ?_
        refine lv_istore (lv' := [(8, .int 1), (7, .int (-1)), (6, .int 0), (5, .int (i5_5)), (0, .ref x), (1, .int (a1)), (2, .int (a2)), (3, .int (a3)), (4, .int (a4))]) X.1 X.2.1 dX12_mix_117 hl (by decide) rfl (fun ls hl => ?_)
        have L_224 : ∀ (n : Nat) (H : Heap) (locs : List Loc) (ls : Array Slot) (i6_225 : Int32) (i6_225_z : Int) (i7_226 : Int32) (i7_226_z : Int) (i8_227 : Int32) (i8_227_z : Int), ((2147483647 - i8_227_z).toNat = n) → (Wd G cy (AS S s.heap.size) s.heap T_7 H locs) → (i6_225.toInt = i6_225_z) → (i7_226.toInt = i7_226_z) → (i8_227.toInt = i8_227_z) → (1 ≤ i8_227_z ∧ i8_227_z ≤ 2147483647) → (lv_has ls 13 [(6, .int (i6_225)), (7, .int (i7_226)), (8, .int (i8_227)), (5, .int (i5_5)), (0, .ref x), (1, .int (a1)), (2, .int (a2)), (3, .int (a3)), (4, .int (a4))]) → W p l e ({ frames := 8, cells := 0, slots := 0, locals := 384 }) s m [.ref x, .int (a1), .int (a2), .int (a3), .int (a4)].toArray below meth c H locs 0 0 QQ (F0 m 119 ls []) := by
          intro n
          induction n using Nat.strongRecOn with
          | ind n ih_L_224 =>
          intro H locs ls i6_225 i6_225_z i7_226 i7_226_z i8_227 i8_227_z hn hw hz_i6_225 hz_i7_226 hz_i8_227 hr_i8_227 hl
          have rg_228 : (-2147483648) ≤ i6_225_z ∧ i6_225_z ≤ 2147483647 := by rw [← hz_i6_225]; exact ⟨z_lo _, z_hi _⟩
          have rg_229 : (-2147483648) ≤ i7_226_z ∧ i7_226_z ≤ 2147483647 := by rw [← hz_i7_226]; exact ⟨z_lo _, z_hi _⟩
          have rg_230 : (-2147483648) ≤ i8_227_z ∧ i8_227_z ≤ 2147483647 := by rw [← hz_i8_227]; exact ⟨z_lo _, z_hi _⟩
          refine lv_iload X.1 X.2.1 dX12_mix_119 (lv_at hl 2 rfl) ?_
          refine lv_iconst (v := 1) X.1 X.2.1 dX12_mix_121 (by decide) ?_
          refine lv_iload X.1 X.2.1 dX12_mix_122 (lv_at hl 3 rfl) ?_
          refine lv_ishl X.1 X.2.1 dX12_mix_124 ?_
          refine lv_topi (fun v_231 ev_231 => ?_)
          have rg_232 := And.intro (z_lo v_231) (z_hi v_231)
          refine lv_icmp_ge (tgt := 264) X.1 X.2.1 dX12_mix_125 (by decide) (fun c_233 => ?_) (fun c_233 => ?_)
          · have z_b_234 := trivial
            have k_235 : i8_227_z ≥ v_231.toInt := z_le rfl hz_i8_227 c_233
            refine lv_iload X.1 X.2.1 dX12_mix_264 (lv_at hl 1 rfl) ?_
            refine lv_iconst (v := (-1)) X.1 X.2.1 dX12_mix_266 (by decide) ?_
            refine lv_icmp_ne (tgt := 272) X.1 X.2.1 dX12_mix_267 (by decide) (fun c_236 => ?_) (fun c_236 => ?_)
            · have z_b_237 := trivial
              have k_238 : i7_226_z ≠ (-1) := z_ne hz_i7_226 ti_m1 c_236
              refine lv_iconst (v := 0) X.1 X.2.1 dX12_mix_272 (by decide) ?_
              refine lv_istore (lv' := [(8, .int 0), (6, .int (i6_225)), (7, .int (i7_226)), (5, .int (i5_5)), (0, .ref x), (1, .int (a1)), (2, .int (a2)), (3, .int (a3)), (4, .int (a4))]) X.1 X.2.1 dX12_mix_273 hl (by decide) rfl (fun ls hl => ?_)
              have L_239 : ∀ (n : Nat) (T_241 : PS) (H : Heap) (locs : List Loc) (ls : Array Slot) (i8_240 : Int32) (i8_240_z : Int), ((40 - i8_240_z).toNat = n) → (Wd G cy (AS S s.heap.size) s.heap T_241 H locs) → (i8_240.toInt = i8_240_z) → (0 ≤ i8_240_z ∧ i8_240_z ≤ 40) → (At T_241 x 12) → (Ok MN S T_241) → (lv_has ls 13 [(8, .int (i8_240)), (6, .int (i6_225)), (7, .int (i7_226)), (5, .int (i5_5)), (0, .ref x), (1, .int (a1)), (2, .int (a2)), (3, .int (a3)), (4, .int (a4))]) → W p l e ({ frames := 8, cells := 0, slots := 0, locals := 384 }) s m [.ref x, .int (a1), .int (a2), .int (a3), .int (a4)].toArray below meth c H locs 0 0 QQ (F0 m 275 ls []) := by
                intro n
                induction n using Nat.strongRecOn with
                | ind n ih_L_239 =>
                intro T_241 H locs ls i8_240 i8_240_z hn hw hz_i8_240 hr_i8_240 ha_x_L_242 hO_T_241 hl
                have rg_243 : (-2147483648) ≤ i8_240_z ∧ i8_240_z ≤ 2147483647 := by rw [← hz_i8_240]; exact ⟨z_lo _, z_hi _⟩
                refine lv_iload X.1 X.2.1 dX12_mix_275 (lv_at hl 0 rfl) ?_
                refine lv_bipush (v := 40) X.1 X.2.1 dX12_mix_277 (by decide) ?_
                refine lv_icmp_ge (tgt := 296) X.1 X.2.1 dX12_mix_279 (by decide) (fun c_244 => ?_) (fun c_244 => ?_)
                · have z_b_245 := trivial
                  have k_246 : i8_240_z ≥ 40 := z_le ti_40 hz_i8_240 c_244
                  refine lv_iconst (v := 0) X.1 X.2.1 dX12_mix_296 (by decide) ?_
                  refine lv_istore (lv' := [(8, .int 0), (6, .int (i6_225)), (7, .int (i7_226)), (5, .int (i5_5)), (0, .ref x), (1, .int (a1)), (2, .int (a2)), (3, .int (a3)), (4, .int (a4))]) X.1 X.2.1 dX12_mix_297 hl (by decide) rfl (fun ls hl => ?_)
                  have L_247 : ∀ (n : Nat) (T_249 : PS) (H : Heap) (locs : List Loc) (ls : Array Slot) (i8_248 : Int32) (i8_248_z : Int), ((14 - i8_248_z).toNat = n) → (Wd G cy (AS S s.heap.size) s.heap T_249 H locs) → (i8_248.toInt = i8_248_z) → (0 ≤ i8_248_z ∧ i8_248_z ≤ 14) → (At T_249 x 12) → (Ok MN S T_249) → (lv_has ls 13 [(8, .int (i8_248)), (6, .int (i6_225)), (7, .int (i7_226)), (5, .int (i5_5)), (0, .ref x), (1, .int (a1)), (2, .int (a2)), (3, .int (a3)), (4, .int (a4))]) → W p l e ({ frames := 8, cells := 0, slots := 0, locals := 384 }) s m [.ref x, .int (a1), .int (a2), .int (a3), .int (a4)].toArray below meth c H locs 0 0 QQ (F0 m 299 ls []) := by
                    intro n
                    induction n using Nat.strongRecOn with
                    | ind n ih_L_247 =>
                    intro T_249 H locs ls i8_248 i8_248_z hn hw hz_i8_248 hr_i8_248 ha_x_L_250 hO_T_249 hl
                    have rg_251 : (-2147483648) ≤ i8_248_z ∧ i8_248_z ≤ 2147483647 := by rw [← hz_i8_248]; exact ⟨z_lo _, z_hi _⟩
                    refine lv_iload X.1 X.2.1 dX12_mix_299 (lv_at hl 0 rfl) ?_
                    refine lv_iload X.1 X.2.1 dX12_mix_301 (lv_at hl 3 rfl) ?_
                    refine lv_icmp_ge (tgt := 356) X.1 X.2.1 dX12_mix_303 (by decide) (fun c_252 => ?_) (fun c_252 => ?_)
                    · have z_b_253 := trivial
                      have k_254 : i8_248_z ≥ i5_5_z := z_le hz_i5_5 hz_i8_248 c_252
                      refine lv_iload X.1 X.2.1 dX12_mix_356 (lv_at hl 2 rfl) ?_
                      rw [hQQ]
                      exact ret_i X hw hr hlocks (Nat.le_of_ble_eq_true rfl) (Nat.le_of_ble_eq_true rfl) ⟨hO_T_249, trivial⟩ dX12_mix_358
                    · have z_b_255 := trivial
                      have k_256 : i8_248_z < i5_5_z := z_nle hz_i5_5 hz_i8_248 c_252
                      refine lv_iload X.1 X.2.1 dX12_mix_306 (lv_at hl 1 rfl) ?_
                      refine lv_iload X.1 X.2.1 dX12_mix_308 (lv_at hl 0 rfl) ?_
                      refine lv_ishr X.1 X.2.1 dX12_mix_310 ?_
                      refine lv_topi (fun v_257 ev_257 => ?_)
                      have rg_258 := And.intro (z_lo v_257) (z_hi v_257)
                      refine lv_iconst (v := 1) X.1 X.2.1 dX12_mix_311 (by decide) ?_
                      refine lv_iand X.1 X.2.1 dX12_mix_312 ?_
                      refine lv_topi (fun v_259 ev_259 => ?_)
                      have z_260 : 0 ≤ v_259.toInt ∧ v_259.toInt ≤ 1 := z_and1 ev_259
                      refine lv_if_ne (tgt := 319) X.1 X.2.1 dX12_mix_313 (by decide) (fun c_261 => ?_) (fun c_261 => ?_)
                      · have z_b_262 := trivial
                        have k_263 : v_259.toInt ≠ 0 := z_ne rfl ti_0 c_261
                        refine lv_aload_n X.1 X.2.1 dX12_mix_319 rfl (lv_at hl 4 rfl) ?_
                        obtain ⟨q_264, h_265, h_266, h_267⟩ := gQ_12_1261 hO_T_249.1 ha_x_L_250
                        refine r_getR (g := 1261) X hw ha_x_L_250 rfl 61 h_265 (by decide) rfl inn_X12_mix_12 (by decide) (X.2.2.2.1 (.fieldLink RX12 149 "SilkMillModel" "isMixed" "[Z") (by decide +kernel)) rfl (gv_1261 _ _) dX12_mix_320 ?_
                        refine lv_aload_n X.1 X.2.1 dX12_mix_323 rfl (lv_at hl 4 rfl) ?_
                        obtain ⟨q_268, h_269, h_270, h_271⟩ := gQ_12_1258 hO_T_249.1 ha_x_L_250
                        refine r_getR (g := 1258) X hw ha_x_L_250 rfl 58 h_269 (by decide) rfl inn_X12_mix_12 (by decide) (X.2.2.2.1 (.fieldLink RX12 140 "SilkMillModel" "asked" "[I") (by decide +kernel)) rfl (gv_1258 _ _) dX12_mix_324 ?_
                        refine lv_iload X.1 X.2.1 dX12_mix_327 (lv_at hl 0 rfl) ?_
                        refine r_iald X hw h_270 rfl (by rw [h_271]; exact z_ix hz_i8_248 (by omega) (by omega)) dX12_mix_329 ?_
                        refine lv_topi (fun v_272 ev_272 => ?_)
                        have z_273 := gE_1374 hO_T_249.1 h_270 (Int32.toNatClampNeg (i8_248)); rw [← ev_272] at z_273
                        have ev_272 := ev_272.symm
                        refine lv_iconst (v := 1) X.1 X.2.1 dX12_mix_330 (by decide) ?_
                        refine r_zast X hw h_266 rfl (by rw [h_267]; exact z_ix rfl (by omega) (by omega)) dX12_mix_331 (fun H locs hw => ?_)
                        obtain ⟨S_274, eS_274⟩ : ∃ T, T = sA T_249 q_264 (upd (pA T_249 q_264) (Int32.toNatClampNeg (v_272)) (vp_nar .boolean (1))) := ⟨_, rfl⟩
                        rw [← eS_274] at hw
                        have hO_275 : Ok MN S S_274 := hO_T_249.sA eS_274 h_266 (by decide +kernel) (uA_1435 hO_T_249.1 h_266)
                        refine lv_iload X.1 X.2.1 dX12_mix_332 (lv_at hl 8 rfl) ?_
                        refine lv_if_eq (tgt := 350) X.1 X.2.1 dX12_mix_334 (by decide) (fun c_276 => ?_) (fun c_276 => ?_)
                        · have z_b_277 := trivial
                          have k_278 : a4_z = 0 := z_eq hz_a4 ti_0 c_276
                          obtain ⟨x_279, ex_279⟩ : ∃ y : Int32, y = i8_248 + 1 := ⟨_, rfl⟩
                          have z_280 : x_279.toInt = i8_248_z + 1 := z_add ex_279 hz_i8_248 ti_1 (by omega) (by omega)
                          refine lv_iinc (v := x_279) (lv' := [(8, .int (x_279)), (6, .int (i6_225)), (7, .int (i7_226)), (5, .int (i5_5)), (0, .ref x), (1, .int (a1)), (2, .int (a2)), (3, .int (a3)), (4, .int (a4))]) X.1 X.2.1 dX12_mix_350 hl (k := 0) rfl (by rw [ex_279]; rfl) (by decide) rfl (fun ls hl => ?_)
                          refine lv_goto (tgt := 299) X.1 X.2.1 dX12_mix_353 (by decide) ?_
                          have t_281 : At S_274 x 12 := tAt_sA eS_274 ha_x_L_250
                          exact ih_L_247 _ (by omega) _ _ _ _ (x_279) (x_279.toInt) rfl hw rfl (by omega) t_281 hO_275 (lv_sub hl [0, 1, 2, 3, 4, 5, 6, 7, 8] rfl)
                        · have z_b_282 := trivial
                          have k_283 : a4_z ≠ 0 := z_ne hz_a4 ti_0 c_276
                          refine lv_aload_n X.1 X.2.1 dX12_mix_337 rfl (lv_at hl 4 rfl) ?_
                          have t_284 : At S_274 x 12 := tAt_sA eS_274 ha_x_L_250
                          obtain ⟨q_285, h_286, h_287, h_288⟩ := gQ_12_1244 hO_275.1 t_284
                          refine r_getR (g := 1244) X hw t_284 rfl 44 h_286 (by decide) rfl inn_X12_mix_12 (by decide) (X.2.2.2.1 (.fieldLink RX12 115 "SilkMillModel" "isSold" "[Z") (by decide +kernel)) rfl (gv_1244 _ _) dX12_mix_338 ?_
                          refine lv_aload_n X.1 X.2.1 dX12_mix_341 rfl (lv_at hl 4 rfl) ?_
                          have t_289 : pR S_274 1258 x = some q_268 := tR_sA eS_274 h_269
                          refine r_getR (g := 1258) X hw t_284 rfl 58 t_289 (by decide) rfl inn_X12_mix_12 (by decide) (X.2.2.2.1 (.fieldLink RX12 140 "SilkMillModel" "asked" "[I") (by decide +kernel)) rfl (gv_1258 _ _) dX12_mix_342 ?_
                          refine lv_iload X.1 X.2.1 dX12_mix_345 (lv_at hl 0 rfl) ?_
                          have t_290 : At S_274 q_268 1374 := tAt_sA eS_274 h_270
                          have t_291 : pN S_274 q_268 = 14 := tN_sA eS_274 h_271
                          clear h_271
                          refine r_iald X hw t_290 rfl (by rw [t_291]; exact z_ix hz_i8_248 (by omega) (by omega)) dX12_mix_347 ?_
                          have t_292 : pA S_274 q_268 (Int32.toNatClampNeg (i8_248)) = v_272 := tA_sA eS_274 (At_ne h_270 h_266 (by decide)) ev_272
                          rw [t_292]
                          refine lv_iconst (v := 1) X.1 X.2.1 dX12_mix_348 (by decide) ?_
                          refine r_zast X hw h_287 rfl (by rw [h_288]; exact z_ix rfl (by omega) (by omega)) dX12_mix_349 (fun H locs hw => ?_)
                          obtain ⟨S_293, eS_293⟩ : ∃ T, T = sA S_274 q_285 (upd (pA S_274 q_285) (Int32.toNatClampNeg (v_272)) (vp_nar .boolean (1))) := ⟨_, rfl⟩
                          rw [← eS_293] at hw
                          have hO_294 : Ok MN S S_293 := hO_275.sA eS_293 h_287 (by decide +kernel) (uA_1095 hO_275.1 h_287)
                          obtain ⟨x_295, ex_295⟩ : ∃ y : Int32, y = i8_248 + 1 := ⟨_, rfl⟩
                          have z_296 : x_295.toInt = i8_248_z + 1 := z_add ex_295 hz_i8_248 ti_1 (by omega) (by omega)
                          refine lv_iinc (v := x_295) (lv' := [(8, .int (x_295)), (6, .int (i6_225)), (7, .int (i7_226)), (5, .int (i5_5)), (0, .ref x), (1, .int (a1)), (2, .int (a2)), (3, .int (a3)), (4, .int (a4))]) X.1 X.2.1 dX12_mix_350 hl (k := 0) rfl (by rw [ex_295]; rfl) (by decide) rfl (fun ls hl => ?_)
                          refine lv_goto (tgt := 299) X.1 X.2.1 dX12_mix_353 (by decide) ?_
                          have t_297 : At S_293 x 12 := tAt_sA eS_293 t_284
                          exact ih_L_247 _ (by omega) _ _ _ _ (x_295) (x_295.toInt) rfl hw rfl (by omega) t_297 hO_294 (lv_sub hl [0, 1, 2, 3, 4, 5, 6, 7, 8] rfl)
                      · have z_b_298 := trivial
                        have k_299 : v_259.toInt = 0 := z_eq rfl ti_0 c_261
                        refine lv_goto (tgt := 350) X.1 X.2.1 dX12_mix_316 (by decide) ?_
                        obtain ⟨x_300, ex_300⟩ : ∃ y : Int32, y = i8_248 + 1 := ⟨_, rfl⟩
                        have z_301 : x_300.toInt = i8_248_z + 1 := z_add ex_300 hz_i8_248 ti_1 (by omega) (by omega)
                        refine lv_iinc (v := x_300) (lv' := [(8, .int (x_300)), (6, .int (i6_225)), (7, .int (i7_226)), (5, .int (i5_5)), (0, .ref x), (1, .int (a1)), (2, .int (a2)), (3, .int (a3)), (4, .int (a4))]) X.1 X.2.1 dX12_mix_350 hl (k := 0) rfl (by rw [ex_300]; rfl) (by decide) rfl (fun ls hl => ?_)
                        refine lv_goto (tgt := 299) X.1 X.2.1 dX12_mix_353 (by decide) ?_
                        exact ih_L_247 _ (by omega) _ _ _ _ (x_300) (x_300.toInt) rfl hw rfl (by omega) ha_x_L_250 hO_T_249 (lv_sub hl [0, 1, 2, 3, 4, 5, 6, 7, 8] rfl)
                  exact L_247 _ _ _ _ _ (0) (0) rfl hw ti_0 (by omega) ha_x_L_242 hO_T_241 (lv_sub hl [0, 1, 2, 3, 4, 5, 6, 7, 8] rfl)
                · have z_b_302 := trivial
                  have k_303 : i8_240_z < 40 := z_nle ti_40 hz_i8_240 c_244
                  refine lv_aload_n X.1 X.2.1 dX12_mix_282 rfl (lv_at hl 4 rfl) ?_
                  obtain ⟨q_304, h_305, h_306, h_307⟩ := gQ_12_1261 hO_T_241.1 ha_x_L_242
                  refine r_getR (g := 1261) X hw ha_x_L_242 rfl 61 h_305 (by decide) rfl inn_X12_mix_12 (by decide) (X.2.2.2.1 (.fieldLink RX12 149 "SilkMillModel" "isMixed" "[Z") (by decide +kernel)) rfl (gv_1261 _ _) dX12_mix_283 ?_
                  refine lv_iload X.1 X.2.1 dX12_mix_286 (lv_at hl 0 rfl) ?_
                  refine lv_iconst (v := 0) X.1 X.2.1 dX12_mix_288 (by decide) ?_
                  refine r_zast X hw h_306 rfl (by rw [h_307]; exact z_ix hz_i8_240 (by omega) (by omega)) dX12_mix_289 (fun H locs hw => ?_)
                  obtain ⟨S_308, eS_308⟩ : ∃ T, T = sA T_241 q_304 (upd (pA T_241 q_304) (Int32.toNatClampNeg (i8_240)) (vp_nar .boolean (0))) := ⟨_, rfl⟩
                  rw [← eS_308] at hw
                  have hO_309 : Ok MN S S_308 := hO_T_241.sA eS_308 h_306 (by decide +kernel) (uA_1435 hO_T_241.1 h_306)
                  obtain ⟨x_310, ex_310⟩ : ∃ y : Int32, y = i8_240 + 1 := ⟨_, rfl⟩
                  have z_311 : x_310.toInt = i8_240_z + 1 := z_add ex_310 hz_i8_240 ti_1 (by omega) (by omega)
                  refine lv_iinc (v := x_310) (lv' := [(8, .int (x_310)), (6, .int (i6_225)), (7, .int (i7_226)), (5, .int (i5_5)), (0, .ref x), (1, .int (a1)), (2, .int (a2)), (3, .int (a3)), (4, .int (a4))]) X.1 X.2.1 dX12_mix_290 hl (k := 0) rfl (by rw [ex_310]; rfl) (by decide) rfl (fun ls hl => ?_)
                  refine lv_goto (tgt := 275) X.1 X.2.1 dX12_mix_293 (by decide) ?_
                  have t_312 : At S_308 x 12 := tAt_sA eS_308 ha_x_L_242
                  exact ih_L_239 _ (by omega) _ _ _ _ (x_310) (x_310.toInt) rfl hw rfl (by omega) t_312 hO_309 (lv_sub hl [0, 1, 2, 3, 4, 5, 6, 7, 8] rfl)
              exact L_239 _ _ _ _ _ (0) (0) rfl hw ti_0 (by omega) ha_x_L_8 hO_T_7 (lv_sub hl [0, 1, 2, 3, 4, 5, 6, 7, 8] rfl)
            · have z_b_313 := trivial
              have k_314 : i7_226_z = (-1) := z_eq hz_i7_226 ti_m1 c_236
              refine lv_iconst (v := (-1)) X.1 X.2.1 dX12_mix_270 (by decide) ?_
              rw [hQQ]
              exact ret_i X hw hr hlocks (Nat.le_of_ble_eq_true rfl) (Nat.le_of_ble_eq_true rfl) ⟨hO_T_7, trivial⟩ dX12_mix_271
          · have z_b_315 := trivial
            have k_316 : i8_227_z < v_231.toInt := z_nle rfl hz_i8_227 c_233
            refine lv_iconst (v := 0) X.1 X.2.1 dX12_mix_128 (by decide) ?_
            refine lv_istore (lv' := [(9, .int 0), (6, .int (i6_225)), (7, .int (i7_226)), (8, .int (i8_227)), (5, .int (i5_5)), (0, .ref x), (1, .int (a1)), (2, .int (a2)), (3, .int (a3)), (4, .int (a4))]) X.1 X.2.1 dX12_mix_129 hl (by decide) rfl (fun ls hl => ?_)
            refine lv_iconst (v := 0) X.1 X.2.1 dX12_mix_131 (by decide) ?_
            refine lv_istore (lv' := [(10, .int 0), (9, .int 0), (6, .int (i6_225)), (7, .int (i7_226)), (8, .int (i8_227)), (5, .int (i5_5)), (0, .ref x), (1, .int (a1)), (2, .int (a2)), (3, .int (a3)), (4, .int (a4))]) X.1 X.2.1 dX12_mix_132 hl (by decide) rfl (fun ls hl => ?_)
            refine lv_iconst (v := 0) X.1 X.2.1 dX12_mix_134 (by decide) ?_
            refine lv_istore (lv' := [(11, .int 0), (10, .int 0), (9, .int 0), (6, .int (i6_225)), (7, .int (i7_226)), (8, .int (i8_227)), (5, .int (i5_5)), (0, .ref x), (1, .int (a1)), (2, .int (a2)), (3, .int (a3)), (4, .int (a4))]) X.1 X.2.1 dX12_mix_135 hl (by decide) rfl (fun ls hl => ?_)
            have L_317 : ∀ (n : Nat) (H : Heap) (locs : List Loc) (ls : Array Slot) (i9_318 : Int32) (i9_318_z : Int) (i10_319 : Int32) (i10_319_z : Int) (i11_320 : Int32) (i11_320_z : Int), ((14 - i11_320_z).toNat = n) → (Wd G cy (AS S s.heap.size) s.heap T_7 H locs) → (i9_318.toInt = i9_318_z) → (i10_319.toInt = i10_319_z) → (i11_320.toInt = i11_320_z) → (0 ≤ i11_320_z ∧ i11_320_z ≤ 14) → (lv_has ls 13 [(9, .int (i9_318)), (10, .int (i10_319)), (11, .int (i11_320)), (6, .int (i6_225)), (7, .int (i7_226)), (8, .int (i8_227)), (5, .int (i5_5)), (0, .ref x), (1, .int (a1)), (2, .int (a2)), (3, .int (a3)), (4, .int (a4))]) → W p l e ({ frames := 8, cells := 0, slots := 0, locals := 384 }) s m [.ref x, .int (a1), .int (a2), .int (a3), .int (a4)].toArray below meth c H locs 0 0 QQ (F0 m 137 ls []) := by
              intro n
              induction n using Nat.strongRecOn with
              | ind n ih_L_317 =>
              intro H locs ls i9_318 i9_318_z i10_319 i10_319_z i11_320 i11_320_z hn hw hz_i9_318 hz_i10_319 hz_i11_320 hr_i11_320 hl
              have rg_321 : (-2147483648) ≤ i9_318_z ∧ i9_318_z ≤ 2147483647 := by rw [← hz_i9_318]; exact ⟨z_lo _, z_hi _⟩
              have rg_322 : (-2147483648) ≤ i10_319_z ∧ i10_319_z ≤ 2147483647 := by rw [← hz_i10_319]; exact ⟨z_lo _, z_hi _⟩
              have rg_323 : (-2147483648) ≤ i11_320_z ∧ i11_320_z ≤ 2147483647 := by rw [← hz_i11_320]; exact ⟨z_lo _, z_hi _⟩
              refine lv_iload X.1 X.2.1 dX12_mix_137 (lv_at hl 2 rfl) ?_
              refine lv_iload X.1 X.2.1 dX12_mix_139 (lv_at hl 6 rfl) ?_
              refine lv_icmp_ge (tgt := 187) X.1 X.2.1 dX12_mix_141 (by decide) (fun c_324 => ?_) (fun c_324 => ?_)
              · have z_b_325 := trivial
                have k_326 : i11_320_z ≥ i5_5_z := z_le hz_i5_5 hz_i11_320 c_324
                refine lv_iload X.1 X.2.1 dX12_mix_187 (lv_at hl 0 rfl) ?_
                refine lv_iload_n X.1 X.2.1 dX12_mix_189 rfl (lv_at hl 8 rfl) ?_
                refine lv_icmp_ge (tgt := 196) X.1 X.2.1 dX12_mix_190 (by decide) (fun c_327 => ?_) (fun c_327 => ?_)
                · have z_b_328 := trivial
                  have k_329 : i9_318_z ≥ a1_z := z_le hz_a1 hz_i9_318 c_327
                  refine lv_iload X.1 X.2.1 dX12_mix_196 (lv_at hl 5 rfl) ?_
                  refine lv_iload X.1 X.2.1 dX12_mix_198 (lv_at hl 3 rfl) ?_
                  refine lv_ixor X.1 X.2.1 dX12_mix_200 ?_
                  refine lv_topi (fun v_330 ev_330 => ?_)
                  have rg_331 := And.intro (z_lo v_330) (z_hi v_330)
                  refine lv_istore (lv' := [(11, .int (v_330)), (9, .int (i9_318)), (10, .int (i10_319)), (6, .int (i6_225)), (7, .int (i7_226)), (8, .int (i8_227)), (5, .int (i5_5)), (0, .ref x), (1, .int (a1)), (2, .int (a2)), (3, .int (a3)), (4, .int (a4))]) X.1 X.2.1 dX12_mix_201 hl (by decide) rfl (fun ls hl => ?_)
                  refine lv_iload X.1 X.2.1 dX12_mix_203 (lv_at hl 5 rfl) ?_
                  refine lv_iload X.1 X.2.1 dX12_mix_205 (lv_at hl 0 rfl) ?_
                  refine lv_iand X.1 X.2.1 dX12_mix_207 ?_
                  refine lv_topi (fun v_332 ev_332 => ?_)
                  have rg_333 := And.intro (z_lo v_332) (z_hi v_332)
                  refine lv_iload X.1 X.2.1 dX12_mix_208 (lv_at hl 0 rfl) ?_
                  refine lv_ineg X.1 X.2.1 dX12_mix_210 ?_
                  refine lv_topi (fun v_334 ev_334 => ?_)
                  have rg_335 := And.intro (z_lo v_334) (z_hi v_334)
                  refine lv_iand X.1 X.2.1 dX12_mix_211 ?_
                  refine lv_topi (fun v_336 ev_336 => ?_)
                  have rg_337 := And.intro (z_lo v_336) (z_hi v_336)
                  refine lv_if_eq (tgt := 219) X.1 X.2.1 dX12_mix_212 (by decide) (fun c_338 => ?_) (fun c_338 => ?_)
                  · have z_b_339 := trivial
                    have k_340 : v_336.toInt = 0 := z_eq rfl ti_0 c_338
                    refine lv_iconst (v := 0) X.1 X.2.1 dX12_mix_219 (by decide) ?_
                    refine lv_istore (lv' := [(12, .int 0), (11, .int (v_330)), (9, .int (i9_318)), (10, .int (i10_319)), (6, .int (i6_225)), (7, .int (i7_226)), (8, .int (i8_227)), (5, .int (i5_5)), (0, .ref x), (1, .int (a1)), (2, .int (a2)), (3, .int (a3)), (4, .int (a4))]) X.1 X.2.1 dX12_mix_220 hl (by decide) rfl (fun ls hl => ?_)
                    refine lv_iload X.1 X.2.1 dX12_mix_222 (lv_at hl 5 rfl) ?_
                    refine lv_iconst (v := (-1)) X.1 X.2.1 dX12_mix_224 (by decide) ?_
                    refine lv_icmp_eq (tgt := 250) X.1 X.2.1 dX12_mix_225 (by decide) (fun c_341 => ?_) (fun c_341 => ?_)
                    · have z_b_342 := trivial
                      have k_343 : i7_226_z = (-1) := z_eq hz_i7_226 ti_m1 c_341
                      refine lv_iload X.1 X.2.1 dX12_mix_250 (lv_at hl 6 rfl) ?_
                      refine lv_istore (lv' := [(6, .int (i8_227)), (12, .int 0), (11, .int (v_330)), (9, .int (i9_318)), (10, .int (i10_319)), (7, .int (i7_226)), (8, .int (i8_227)), (5, .int (i5_5)), (0, .ref x), (1, .int (a1)), (2, .int (a2)), (3, .int (a3)), (4, .int (a4))]) X.1 X.2.1 dX12_mix_252 hl (by decide) rfl (fun ls hl => ?_)
                      refine lv_iload X.1 X.2.1 dX12_mix_254 (lv_at hl 4 rfl) ?_
                      refine lv_istore (lv' := [(7, .int (i10_319)), (6, .int (i8_227)), (12, .int 0), (11, .int (v_330)), (9, .int (i9_318)), (10, .int (i10_319)), (8, .int (i8_227)), (5, .int (i5_5)), (0, .ref x), (1, .int (a1)), (2, .int (a2)), (3, .int (a3)), (4, .int (a4))]) X.1 X.2.1 dX12_mix_256 hl (by decide) rfl (fun ls hl => ?_)
                      obtain ⟨x_344, ex_344⟩ : ∃ y : Int32, y = i8_227 + 1 := ⟨_, rfl⟩
                      have z_345 : x_344.toInt = i8_227_z + 1 := z_add ex_344 hz_i8_227 ti_1 (by omega) (by omega)
                      refine lv_iinc (v := x_344) (lv' := [(8, .int (x_344)), (7, .int (i10_319)), (6, .int (i8_227)), (12, .int 0), (11, .int (v_330)), (9, .int (i9_318)), (10, .int (i10_319)), (5, .int (i5_5)), (0, .ref x), (1, .int (a1)), (2, .int (a2)), (3, .int (a3)), (4, .int (a4))]) X.1 X.2.1 dX12_mix_258 hl (k := 6) rfl (by rw [ex_344]; rfl) (by decide) rfl (fun ls hl => ?_)
                      refine lv_goto (tgt := 119) X.1 X.2.1 dX12_mix_261 (by decide) ?_
                      exact ih_L_224 _ (by omega) _ _ _ (i8_227) (i8_227_z) (i10_319) (i10_319_z) (x_344) (x_344.toInt) rfl hw hz_i8_227 hz_i10_319 rfl (by omega) (lv_sub hl [2, 1, 0, 7, 8, 9, 10, 11, 12] rfl)
                    · have z_b_346 := trivial
                      have k_347 : i7_226_z ≠ (-1) := z_ne hz_i7_226 ti_m1 c_341
                      refine lv_iload X.1 X.2.1 dX12_mix_228 (lv_at hl 3 rfl) ?_
                      refine lv_iload X.1 X.2.1 dX12_mix_230 (lv_at hl 5 rfl) ?_
                      refine lv_icmp_gt (tgt := 258) X.1 X.2.1 dX12_mix_232 (by decide) (fun c_348 => ?_) (fun c_348 => ?_)
                      · have z_b_349 := trivial
                        have k_350 : i10_319_z > i7_226_z := z_lt hz_i7_226 hz_i10_319 c_348
                        obtain ⟨x_351, ex_351⟩ : ∃ y : Int32, y = i8_227 + 1 := ⟨_, rfl⟩
                        have z_352 : x_351.toInt = i8_227_z + 1 := z_add ex_351 hz_i8_227 ti_1 (by omega) (by omega)
                        refine lv_iinc (v := x_351) (lv' := [(8, .int (x_351)), (12, .int 0), (11, .int (v_330)), (9, .int (i9_318)), (10, .int (i10_319)), (6, .int (i6_225)), (7, .int (i7_226)), (5, .int (i5_5)), (0, .ref x), (1, .int (a1)), (2, .int (a2)), (3, .int (a3)), (4, .int (a4))]) X.1 X.2.1 dX12_mix_258 hl (k := 6) rfl (by rw [ex_351]; rfl) (by decide) rfl (fun ls hl => ?_)
                        refine lv_goto (tgt := 119) X.1 X.2.1 dX12_mix_261 (by decide) ?_
                        exact ih_L_224 _ (by omega) _ _ _ (i6_225) (i6_225_z) (i7_226) (i7_226_z) (x_351) (x_351.toInt) rfl hw hz_i6_225 hz_i7_226 rfl (by omega) (lv_sub hl [5, 6, 0, 7, 8, 9, 10, 11, 12] rfl)
                      · have z_b_353 := trivial
                        have k_354 : i10_319_z ≤ i7_226_z := z_nlt hz_i7_226 hz_i10_319 c_348
                        refine lv_iload X.1 X.2.1 dX12_mix_235 (lv_at hl 3 rfl) ?_
                        refine lv_iload X.1 X.2.1 dX12_mix_237 (lv_at hl 5 rfl) ?_
                        refine lv_icmp_ne (tgt := 250) X.1 X.2.1 dX12_mix_239 (by decide) (fun c_355 => ?_) (fun c_355 => ?_)
                        · have z_b_356 := trivial
                          have k_357 : i10_319_z ≠ i7_226_z := z_ne hz_i10_319 hz_i7_226 c_355
                          refine lv_iload X.1 X.2.1 dX12_mix_250 (lv_at hl 6 rfl) ?_
                          refine lv_istore (lv' := [(6, .int (i8_227)), (12, .int 0), (11, .int (v_330)), (9, .int (i9_318)), (10, .int (i10_319)), (7, .int (i7_226)), (8, .int (i8_227)), (5, .int (i5_5)), (0, .ref x), (1, .int (a1)), (2, .int (a2)), (3, .int (a3)), (4, .int (a4))]) X.1 X.2.1 dX12_mix_252 hl (by decide) rfl (fun ls hl => ?_)
                          refine lv_iload X.1 X.2.1 dX12_mix_254 (lv_at hl 4 rfl) ?_
                          refine lv_istore (lv' := [(7, .int (i10_319)), (6, .int (i8_227)), (12, .int 0), (11, .int (v_330)), (9, .int (i9_318)), (10, .int (i10_319)), (8, .int (i8_227)), (5, .int (i5_5)), (0, .ref x), (1, .int (a1)), (2, .int (a2)), (3, .int (a3)), (4, .int (a4))]) X.1 X.2.1 dX12_mix_256 hl (by decide) rfl (fun ls hl => ?_)
                          obtain ⟨x_358, ex_358⟩ : ∃ y : Int32, y = i8_227 + 1 := ⟨_, rfl⟩
                          have z_359 : x_358.toInt = i8_227_z + 1 := z_add ex_358 hz_i8_227 ti_1 (by omega) (by omega)
                          refine lv_iinc (v := x_358) (lv' := [(8, .int (x_358)), (7, .int (i10_319)), (6, .int (i8_227)), (12, .int 0), (11, .int (v_330)), (9, .int (i9_318)), (10, .int (i10_319)), (5, .int (i5_5)), (0, .ref x), (1, .int (a1)), (2, .int (a2)), (3, .int (a3)), (4, .int (a4))]) X.1 X.2.1 dX12_mix_258 hl (k := 6) rfl (by rw [ex_358]; rfl) (by decide) rfl (fun ls hl => ?_)
                          refine lv_goto (tgt := 119) X.1 X.2.1 dX12_mix_261 (by decide) ?_
                          exact ih_L_224 _ (by omega) _ _ _ (i8_227) (i8_227_z) (i10_319) (i10_319_z) (x_358) (x_358.toInt) rfl hw hz_i8_227 hz_i10_319 rfl (by omega) (lv_sub hl [2, 1, 0, 7, 8, 9, 10, 11, 12] rfl)
                        · have z_b_360 := trivial
                          have k_361 : i10_319_z = i7_226_z := z_eq hz_i10_319 hz_i7_226 c_355
                          refine lv_iload X.1 X.2.1 dX12_mix_242 (lv_at hl 0 rfl) ?_
                          refine lv_if_ne (tgt := 250) X.1 X.2.1 dX12_mix_244 (by decide) (fun c_362 => absurd c_362 (by decide)) (fun c_362 => ?_)
                          refine lv_goto (tgt := 258) X.1 X.2.1 dX12_mix_247 (by decide) ?_
                          obtain ⟨x_363, ex_363⟩ : ∃ y : Int32, y = i8_227 + 1 := ⟨_, rfl⟩
                          have z_364 : x_363.toInt = i8_227_z + 1 := z_add ex_363 hz_i8_227 ti_1 (by omega) (by omega)
                          refine lv_iinc (v := x_363) (lv' := [(8, .int (x_363)), (12, .int 0), (11, .int (v_330)), (9, .int (i9_318)), (10, .int (i10_319)), (6, .int (i6_225)), (7, .int (i7_226)), (5, .int (i5_5)), (0, .ref x), (1, .int (a1)), (2, .int (a2)), (3, .int (a3)), (4, .int (a4))]) X.1 X.2.1 dX12_mix_258 hl (k := 6) rfl (by rw [ex_363]; rfl) (by decide) rfl (fun ls hl => ?_)
                          refine lv_goto (tgt := 119) X.1 X.2.1 dX12_mix_261 (by decide) ?_
                          exact ih_L_224 _ (by omega) _ _ _ (i6_225) (i6_225_z) (i7_226) (i7_226_z) (x_363) (x_363.toInt) rfl hw hz_i6_225 hz_i7_226 rfl (by omega) (lv_sub hl [5, 6, 0, 7, 8, 9, 10, 11, 12] rfl)
                  · have z_b_365 := trivial
                    have k_366 : v_336.toInt ≠ 0 := z_ne rfl ti_0 c_338
                    refine lv_iconst (v := 1) X.1 X.2.1 dX12_mix_215 (by decide) ?_
                    refine lv_goto (tgt := 220) X.1 X.2.1 dX12_mix_216 (by decide) ?_
                    refine lv_istore (lv' := [(12, .int 1), (11, .int (v_330)), (9, .int (i9_318)), (10, .int (i10_319)), (6, .int (i6_225)), (7, .int (i7_226)), (8, .int (i8_227)), (5, .int (i5_5)), (0, .ref x), (1, .int (a1)), (2, .int (a2)), (3, .int (a3)), (4, .int (a4))]) X.1 X.2.1 dX12_mix_220 hl (by decide) rfl (fun ls hl => ?_)
                    refine lv_iload X.1 X.2.1 dX12_mix_222 (lv_at hl 5 rfl) ?_
                    refine lv_iconst (v := (-1)) X.1 X.2.1 dX12_mix_224 (by decide) ?_
                    refine lv_icmp_eq (tgt := 250) X.1 X.2.1 dX12_mix_225 (by decide) (fun c_367 => ?_) (fun c_367 => ?_)
                    · have z_b_368 := trivial
                      have k_369 : i7_226_z = (-1) := z_eq hz_i7_226 ti_m1 c_367
                      refine lv_iload X.1 X.2.1 dX12_mix_250 (lv_at hl 6 rfl) ?_
                      refine lv_istore (lv' := [(6, .int (i8_227)), (12, .int 1), (11, .int (v_330)), (9, .int (i9_318)), (10, .int (i10_319)), (7, .int (i7_226)), (8, .int (i8_227)), (5, .int (i5_5)), (0, .ref x), (1, .int (a1)), (2, .int (a2)), (3, .int (a3)), (4, .int (a4))]) X.1 X.2.1 dX12_mix_252 hl (by decide) rfl (fun ls hl => ?_)
                      refine lv_iload X.1 X.2.1 dX12_mix_254 (lv_at hl 4 rfl) ?_
                      refine lv_istore (lv' := [(7, .int (i10_319)), (6, .int (i8_227)), (12, .int 1), (11, .int (v_330)), (9, .int (i9_318)), (10, .int (i10_319)), (8, .int (i8_227)), (5, .int (i5_5)), (0, .ref x), (1, .int (a1)), (2, .int (a2)), (3, .int (a3)), (4, .int (a4))]) X.1 X.2.1 dX12_mix_256 hl (by decide) rfl (fun ls hl => ?_)
                      obtain ⟨x_370, ex_370⟩ : ∃ y : Int32, y = i8_227 + 1 := ⟨_, rfl⟩
                      have z_371 : x_370.toInt = i8_227_z + 1 := z_add ex_370 hz_i8_227 ti_1 (by omega) (by omega)
                      refine lv_iinc (v := x_370) (lv' := [(8, .int (x_370)), (7, .int (i10_319)), (6, .int (i8_227)), (12, .int 1), (11, .int (v_330)), (9, .int (i9_318)), (10, .int (i10_319)), (5, .int (i5_5)), (0, .ref x), (1, .int (a1)), (2, .int (a2)), (3, .int (a3)), (4, .int (a4))]) X.1 X.2.1 dX12_mix_258 hl (k := 6) rfl (by rw [ex_370]; rfl) (by decide) rfl (fun ls hl => ?_)
                      refine lv_goto (tgt := 119) X.1 X.2.1 dX12_mix_261 (by decide) ?_
                      exact ih_L_224 _ (by omega) _ _ _ (i8_227) (i8_227_z) (i10_319) (i10_319_z) (x_370) (x_370.toInt) rfl hw hz_i8_227 hz_i10_319 rfl (by omega) (lv_sub hl [2, 1, 0, 7, 8, 9, 10, 11, 12] rfl)
                    · have z_b_372 := trivial
                      have k_373 : i7_226_z ≠ (-1) := z_ne hz_i7_226 ti_m1 c_367
                      refine lv_iload X.1 X.2.1 dX12_mix_228 (lv_at hl 3 rfl) ?_
                      refine lv_iload X.1 X.2.1 dX12_mix_230 (lv_at hl 5 rfl) ?_
                      refine lv_icmp_gt (tgt := 258) X.1 X.2.1 dX12_mix_232 (by decide) (fun c_374 => ?_) (fun c_374 => ?_)
                      · have z_b_375 := trivial
                        have k_376 : i10_319_z > i7_226_z := z_lt hz_i7_226 hz_i10_319 c_374
                        obtain ⟨x_377, ex_377⟩ : ∃ y : Int32, y = i8_227 + 1 := ⟨_, rfl⟩
                        have z_378 : x_377.toInt = i8_227_z + 1 := z_add ex_377 hz_i8_227 ti_1 (by omega) (by omega)
                        refine lv_iinc (v := x_377) (lv' := [(8, .int (x_377)), (12, .int 1), (11, .int (v_330)), (9, .int (i9_318)), (10, .int (i10_319)), (6, .int (i6_225)), (7, .int (i7_226)), (5, .int (i5_5)), (0, .ref x), (1, .int (a1)), (2, .int (a2)), (3, .int (a3)), (4, .int (a4))]) X.1 X.2.1 dX12_mix_258 hl (k := 6) rfl (by rw [ex_377]; rfl) (by decide) rfl (fun ls hl => ?_)
                        refine lv_goto (tgt := 119) X.1 X.2.1 dX12_mix_261 (by decide) ?_
                        exact ih_L_224 _ (by omega) _ _ _ (i6_225) (i6_225_z) (i7_226) (i7_226_z) (x_377) (x_377.toInt) rfl hw hz_i6_225 hz_i7_226 rfl (by omega) (lv_sub hl [5, 6, 0, 7, 8, 9, 10, 11, 12] rfl)
                      · have z_b_379 := trivial
                        have k_380 : i10_319_z ≤ i7_226_z := z_nlt hz_i7_226 hz_i10_319 c_374
                        refine lv_iload X.1 X.2.1 dX12_mix_235 (lv_at hl 3 rfl) ?_
                        refine lv_iload X.1 X.2.1 dX12_mix_237 (lv_at hl 5 rfl) ?_
                        refine lv_icmp_ne (tgt := 250) X.1 X.2.1 dX12_mix_239 (by decide) (fun c_381 => ?_) (fun c_381 => ?_)
                        · have z_b_382 := trivial
                          have k_383 : i10_319_z ≠ i7_226_z := z_ne hz_i10_319 hz_i7_226 c_381
                          refine lv_iload X.1 X.2.1 dX12_mix_250 (lv_at hl 6 rfl) ?_
                          refine lv_istore (lv' := [(6, .int (i8_227)), (12, .int 1), (11, .int (v_330)), (9, .int (i9_318)), (10, .int (i10_319)), (7, .int (i7_226)), (8, .int (i8_227)), (5, .int (i5_5)), (0, .ref x), (1, .int (a1)), (2, .int (a2)), (3, .int (a3)), (4, .int (a4))]) X.1 X.2.1 dX12_mix_252 hl (by decide) rfl (fun ls hl => ?_)
                          refine lv_iload X.1 X.2.1 dX12_mix_254 (lv_at hl 4 rfl) ?_
                          refine lv_istore (lv' := [(7, .int (i10_319)), (6, .int (i8_227)), (12, .int 1), (11, .int (v_330)), (9, .int (i9_318)), (10, .int (i10_319)), (8, .int (i8_227)), (5, .int (i5_5)), (0, .ref x), (1, .int (a1)), (2, .int (a2)), (3, .int (a3)), (4, .int (a4))]) X.1 X.2.1 dX12_mix_256 hl (by decide) rfl (fun ls hl => ?_)
                          obtain ⟨x_384, ex_384⟩ : ∃ y : Int32, y = i8_227 + 1 := ⟨_, rfl⟩
                          have z_385 : x_384.toInt = i8_227_z + 1 := z_add ex_384 hz_i8_227 ti_1 (by omega) (by omega)
                          refine lv_iinc (v := x_384) (lv' := [(8, .int (x_384)), (7, .int (i10_319)), (6, .int (i8_227)), (12, .int 1), (11, .int (v_330)), (9, .int (i9_318)), (10, .int (i10_319)), (5, .int (i5_5)), (0, .ref x), (1, .int (a1)), (2, .int (a2)), (3, .int (a3)), (4, .int (a4))]) X.1 X.2.1 dX12_mix_258 hl (k := 6) rfl (by rw [ex_384]; rfl) (by decide) rfl (fun ls hl => ?_)
                          refine lv_goto (tgt := 119) X.1 X.2.1 dX12_mix_261 (by decide) ?_
                          exact ih_L_224 _ (by omega) _ _ _ (i8_227) (i8_227_z) (i10_319) (i10_319_z) (x_384) (x_384.toInt) rfl hw hz_i8_227 hz_i10_319 rfl (by omega) (lv_sub hl [2, 1, 0, 7, 8, 9, 10, 11, 12] rfl)
                        · have z_b_386 := trivial
                          have k_387 : i10_319_z = i7_226_z := z_eq hz_i10_319 hz_i7_226 c_381
                          refine lv_iload X.1 X.2.1 dX12_mix_242 (lv_at hl 0 rfl) ?_
                          refine lv_if_ne (tgt := 250) X.1 X.2.1 dX12_mix_244 (by decide) (fun c_388 => ?_) (fun c_388 => absurd c_388 (by decide))
                          refine lv_iload X.1 X.2.1 dX12_mix_250 (lv_at hl 6 rfl) ?_
                          refine lv_istore (lv' := [(6, .int (i8_227)), (12, .int 1), (11, .int (v_330)), (9, .int (i9_318)), (10, .int (i10_319)), (7, .int (i7_226)), (8, .int (i8_227)), (5, .int (i5_5)), (0, .ref x), (1, .int (a1)), (2, .int (a2)), (3, .int (a3)), (4, .int (a4))]) X.1 X.2.1 dX12_mix_252 hl (by decide) rfl (fun ls hl => ?_)
                          refine lv_iload X.1 X.2.1 dX12_mix_254 (lv_at hl 4 rfl) ?_
                          refine lv_istore (lv' := [(7, .int (i10_319)), (6, .int (i8_227)), (12, .int 1), (11, .int (v_330)), (9, .int (i9_318)), (10, .int (i10_319)), (8, .int (i8_227)), (5, .int (i5_5)), (0, .ref x), (1, .int (a1)), (2, .int (a2)), (3, .int (a3)), (4, .int (a4))]) X.1 X.2.1 dX12_mix_256 hl (by decide) rfl (fun ls hl => ?_)
                          obtain ⟨x_389, ex_389⟩ : ∃ y : Int32, y = i8_227 + 1 := ⟨_, rfl⟩
                          have z_390 : x_389.toInt = i8_227_z + 1 := z_add ex_389 hz_i8_227 ti_1 (by omega) (by omega)
                          refine lv_iinc (v := x_389) (lv' := [(8, .int (x_389)), (7, .int (i10_319)), (6, .int (i8_227)), (12, .int 1), (11, .int (v_330)), (9, .int (i9_318)), (10, .int (i10_319)), (5, .int (i5_5)), (0, .ref x), (1, .int (a1)), (2, .int (a2)), (3, .int (a3)), (4, .int (a4))]) X.1 X.2.1 dX12_mix_258 hl (k := 6) rfl (by rw [ex_389]; rfl) (by decide) rfl (fun ls hl => ?_)
                          refine lv_goto (tgt := 119) X.1 X.2.1 dX12_mix_261 (by decide) ?_
                          exact ih_L_224 _ (by omega) _ _ _ (i8_227) (i8_227_z) (i10_319) (i10_319_z) (x_389) (x_389.toInt) rfl hw hz_i8_227 hz_i10_319 rfl (by omega) (lv_sub hl [2, 1, 0, 7, 8, 9, 10, 11, 12] rfl)
                · have z_b_391 := trivial
                  have k_392 : i9_318_z < a1_z := z_nle hz_a1 hz_i9_318 c_327
                  refine lv_goto (tgt := 258) X.1 X.2.1 dX12_mix_193 (by decide) ?_
                  obtain ⟨x_393, ex_393⟩ : ∃ y : Int32, y = i8_227 + 1 := ⟨_, rfl⟩
                  have z_394 : x_393.toInt = i8_227_z + 1 := z_add ex_393 hz_i8_227 ti_1 (by omega) (by omega)
                  refine lv_iinc (v := x_393) (lv' := [(8, .int (x_393)), (9, .int (i9_318)), (10, .int (i10_319)), (11, .int (i11_320)), (6, .int (i6_225)), (7, .int (i7_226)), (5, .int (i5_5)), (0, .ref x), (1, .int (a1)), (2, .int (a2)), (3, .int (a3)), (4, .int (a4))]) X.1 X.2.1 dX12_mix_258 hl (k := 5) rfl (by rw [ex_393]; rfl) (by decide) rfl (fun ls hl => ?_)
                  refine lv_goto (tgt := 119) X.1 X.2.1 dX12_mix_261 (by decide) ?_
                  exact ih_L_224 _ (by omega) _ _ _ (i6_225) (i6_225_z) (i7_226) (i7_226_z) (x_393) (x_393.toInt) rfl hw hz_i6_225 hz_i7_226 rfl (by omega) (lv_sub hl [4, 5, 0, 6, 7, 8, 9, 10, 11] rfl)
              · have z_b_395 := trivial
                have k_396 : i11_320_z < i5_5_z := z_nle hz_i5_5 hz_i11_320 c_324
                refine lv_iload X.1 X.2.1 dX12_mix_144 (lv_at hl 5 rfl) ?_
                refine lv_iload X.1 X.2.1 dX12_mix_146 (lv_at hl 2 rfl) ?_
                refine lv_ishr X.1 X.2.1 dX12_mix_148 ?_
                refine lv_topi (fun v_397 ev_397 => ?_)
                have rg_398 := And.intro (z_lo v_397) (z_hi v_397)
                refine lv_iconst (v := 1) X.1 X.2.1 dX12_mix_149 (by decide) ?_
                refine lv_iand X.1 X.2.1 dX12_mix_150 ?_
                refine lv_topi (fun v_399 ev_399 => ?_)
                have z_400 : 0 ≤ v_399.toInt ∧ v_399.toInt ≤ 1 := z_and1 ev_399
                refine lv_if_ne (tgt := 157) X.1 X.2.1 dX12_mix_151 (by decide) (fun c_401 => ?_) (fun c_401 => ?_)
                · have z_b_402 := trivial
                  have k_403 : v_399.toInt ≠ 0 := z_ne rfl ti_0 c_401
                  refine lv_iload X.1 X.2.1 dX12_mix_157 (lv_at hl 0 rfl) ?_
                  refine lv_aload_n X.1 X.2.1 dX12_mix_159 rfl (lv_at hl 7 rfl) ?_
                  obtain ⟨q_404, h_405, h_406, h_407⟩ := gQ_12_1259 hO_T_7.1 ha_x_L_8
                  refine r_getR (g := 1259) X hw ha_x_L_8 rfl 59 h_405 (by decide) rfl inn_X12_mix_12 (by decide) (X.2.2.2.1 (.fieldLink RX12 143 "SilkMillModel" "askedWeight" "[I") (by decide +kernel)) rfl (gv_1259 _ _) dX12_mix_160 ?_
                  refine lv_iload X.1 X.2.1 dX12_mix_163 (lv_at hl 2 rfl) ?_
                  refine r_iald X hw h_406 rfl (by rw [h_407]; exact z_ix hz_i11_320 (by omega) (by omega)) dX12_mix_165 ?_
                  refine lv_topi (fun v_408 ev_408 => ?_)
                  have rg_409 := And.intro (z_lo v_408) (z_hi v_408)
                  have ev_408 := ev_408.symm
                  refine lv_iadd X.1 X.2.1 dX12_mix_166 ?_
                  refine lv_topi (fun v_410 ev_410 => ?_)
                  have rg_411 := And.intro (z_lo v_410) (z_hi v_410)
                  refine lv_istore (lv' := [(9, .int (v_410)), (10, .int (i10_319)), (11, .int (i11_320)), (6, .int (i6_225)), (7, .int (i7_226)), (8, .int (i8_227)), (5, .int (i5_5)), (0, .ref x), (1, .int (a1)), (2, .int (a2)), (3, .int (a3)), (4, .int (a4))]) X.1 X.2.1 dX12_mix_167 hl (by decide) rfl (fun ls hl => ?_)
                  refine lv_iload X.1 X.2.1 dX12_mix_169 (lv_at hl 1 rfl) ?_
                  refine lv_aload_n X.1 X.2.1 dX12_mix_171 rfl (lv_at hl 7 rfl) ?_
                  obtain ⟨q_412, h_413, h_414, h_415⟩ := gQ_12_1260 hO_T_7.1 ha_x_L_8
                  refine r_getR (g := 1260) X hw ha_x_L_8 rfl 60 h_413 (by decide) rfl inn_X12_mix_12 (by decide) (X.2.2.2.1 (.fieldLink RX12 146 "SilkMillModel" "askedPrice" "[I") (by decide +kernel)) rfl (gv_1260 _ _) dX12_mix_172 ?_
                  refine lv_iload X.1 X.2.1 dX12_mix_175 (lv_at hl 2 rfl) ?_
                  refine r_iald X hw h_414 rfl (by rw [h_415]; exact z_ix hz_i11_320 (by omega) (by omega)) dX12_mix_177 ?_
                  refine lv_topi (fun v_416 ev_416 => ?_)
                  have rg_417 := And.intro (z_lo v_416) (z_hi v_416)
                  have ev_416 := ev_416.symm
                  refine lv_iadd X.1 X.2.1 dX12_mix_178 ?_
                  refine lv_topi (fun v_418 ev_418 => ?_)
                  have rg_419 := And.intro (z_lo v_418) (z_hi v_418)
                  refine lv_istore (lv' := [(10, .int (v_418)), (9, .int (v_410)), (11, .int (i11_320)), (6, .int (i6_225)), (7, .int (i7_226)), (8, .int (i8_227)), (5, .int (i5_5)), (0, .ref x), (1, .int (a1)), (2, .int (a2)), (3, .int (a3)), (4, .int (a4))]) X.1 X.2.1 dX12_mix_179 hl (by decide) rfl (fun ls hl => ?_)
                  obtain ⟨x_420, ex_420⟩ : ∃ y : Int32, y = i11_320 + 1 := ⟨_, rfl⟩
                  have z_421 : x_420.toInt = i11_320_z + 1 := z_add ex_420 hz_i11_320 ti_1 (by omega) (by omega)
                  refine lv_iinc (v := x_420) (lv' := [(11, .int (x_420)), (10, .int (v_418)), (9, .int (v_410)), (6, .int (i6_225)), (7, .int (i7_226)), (8, .int (i8_227)), (5, .int (i5_5)), (0, .ref x), (1, .int (a1)), (2, .int (a2)), (3, .int (a3)), (4, .int (a4))]) X.1 X.2.1 dX12_mix_181 hl (k := 2) rfl (by rw [ex_420]; rfl) (by decide) rfl (fun ls hl => ?_)
                  refine lv_goto (tgt := 137) X.1 X.2.1 dX12_mix_184 (by decide) ?_
                  exact ih_L_317 _ (by omega) _ _ _ (v_410) (v_410.toInt) (v_418) (v_418.toInt) (x_420) (x_420.toInt) rfl hw rfl rfl rfl (by omega) (lv_sub hl [2, 1, 0, 3, 4, 5, 6, 7, 8, 9, 10, 11] rfl)
                · have z_b_422 := trivial
                  have k_423 : v_399.toInt = 0 := z_eq rfl ti_0 c_401
                  refine lv_goto (tgt := 181) X.1 X.2.1 dX12_mix_154 (by decide) ?_
                  obtain ⟨x_424, ex_424⟩ : ∃ y : Int32, y = i11_320 + 1 := ⟨_, rfl⟩
                  have z_425 : x_424.toInt = i11_320_z + 1 := z_add ex_424 hz_i11_320 ti_1 (by omega) (by omega)
                  refine lv_iinc (v := x_424) (lv' := [(11, .int (x_424)), (9, .int (i9_318)), (10, .int (i10_319)), (6, .int (i6_225)), (7, .int (i7_226)), (8, .int (i8_227)), (5, .int (i5_5)), (0, .ref x), (1, .int (a1)), (2, .int (a2)), (3, .int (a3)), (4, .int (a4))]) X.1 X.2.1 dX12_mix_181 hl (k := 2) rfl (by rw [ex_424]; rfl) (by decide) rfl (fun ls hl => ?_)
                  refine lv_goto (tgt := 137) X.1 X.2.1 dX12_mix_184 (by decide) ?_
                  exact ih_L_317 _ (by omega) _ _ _ (i9_318) (i9_318_z) (i10_319) (i10_319_z) (x_424) (x_424.toInt) rfl hw hz_i9_318 hz_i10_319 rfl (by omega) (lv_sub hl [1, 2, 0, 3, 4, 5, 6, 7, 8, 9, 10, 11] rfl)
            exact L_317 _ _ _ _ (0) (0) (0) (0) (0) (0) rfl hw ti_0 ti_0 ti_0 (by omega) (lv_sub hl [2, 1, 0, 3, 4, 5, 6, 7, 8, 9, 10, 11] rfl)
        exact L_224 _ _ _ _ (0) (0) ((-1)) ((-1)) (1) (1) rfl hw ti_0 ti_m1 ti_1 (by omega) (lv_sub hl [2, 1, 0, 3, 4, 5, 6, 7, 8] rfl)
      · have z_b_426 := trivial
        have k_427 : i5_5_z < 14 := z_nle ti_14 hz_i5_5 c_221
        refine lv_iload_n X.1 X.2.1 dX12_mix_27 rfl (lv_at hl 3 rfl) ?_
        refine lv_if_le (tgt := 110) X.1 X.2.1 dX12_mix_28 (by decide) (fun c_428 => ?_) (fun c_428 => ?_)
        · have z_b_429 := trivial
          have k_430 : a1_z ≤ 0 := z_le hz_a1 ti_0 c_428
          refine lv_iconst (v := 0) X.1 X.2.1 dX12_mix_110 (by decide) ?_
          refine lv_istore (lv' := [(6, .int 0), (5, .int (i5_5)), (0, .ref x), (1, .int (a1)), (2, .int (a2)), (3, .int (a3)), (4, .int (a4))]) X.1 X.2.1 dX12_mix_111 hl (by decide) rfl (fun ls hl => ?_)
          refine lv_iconst (v := (-1)) X.1 X.2.1 dX12_mix_113 (by decide) ?_
          refine lv_istore (lv' := [(7, .int (-1)), (6, .int 0), (5, .int (i5_5)), (0, .ref x), (1, .int (a1)), (2, .int (a2)), (3, .int (a3)), (4, .int (a4))]) X.1 X.2.1 dX12_mix_114 hl (by decide) rfl (fun ls hl => ?_)
          refine lv_iconst (v := 1) X.1 X.2.1 dX12_mix_116 (by decide) ?_
          refine lv_istore (lv' := [(8, .int 1), (7, .int (-1)), (6, .int 0), (5, .int (i5_5)), (0, .ref x), (1, .int (a1)), (2, .int (a2)), (3, .int (a3)), (4, .int (a4))]) X.1 X.2.1 dX12_mix_117 hl (by decide) rfl (fun ls hl => ?_)
          have L_431 : ∀ (n : Nat) (H : Heap) (locs : List Loc) (ls : Array Slot) (i6_432 : Int32) (i6_432_z : Int) (i7_433 : Int32) (i7_433_z : Int) (i8_434 : Int32) (i8_434_z : Int), ((2147483647 - i8_434_z).toNat = n) → (Wd G cy (AS S s.heap.size) s.heap T_7 H locs) → (i6_432.toInt = i6_432_z) → (i7_433.toInt = i7_433_z) → (i8_434.toInt = i8_434_z) → (1 ≤ i8_434_z ∧ i8_434_z ≤ 2147483647) → (lv_has ls 13 [(6, .int (i6_432)), (7, .int (i7_433)), (8, .int (i8_434)), (5, .int (i5_5)), (0, .ref x), (1, .int (a1)), (2, .int (a2)), (3, .int (a3)), (4, .int (a4))]) → W p l e ({ frames := 8, cells := 0, slots := 0, locals := 384 }) s m [.ref x, .int (a1), .int (a2), .int (a3), .int (a4)].toArray below meth c H locs 0 0 QQ (F0 m 119 ls []) := by
            intro n
            induction n using Nat.strongRecOn with
            | ind n ih_L_431 =>
            intro H locs ls i6_432 i6_432_z i7_433 i7_433_z i8_434 i8_434_z hn hw hz_i6_432 hz_i7_433 hz_i8_434 hr_i8_434 hl
            have rg_435 : (-2147483648) ≤ i6_432_z ∧ i6_432_z ≤ 2147483647 := by rw [← hz_i6_432]; exact ⟨z_lo _, z_hi _⟩
            have rg_436 : (-2147483648) ≤ i7_433_z ∧ i7_433_z ≤ 2147483647 := by rw [← hz_i7_433]; exact ⟨z_lo _, z_hi _⟩
            have rg_437 : (-2147483648) ≤ i8_434_z ∧ i8_434_z ≤ 2147483647 := by rw [← hz_i8_434]; exact ⟨z_lo _, z_hi _⟩
            refine lv_iload X.1 X.2.1 dX12_mix_119 (lv_at hl 2 rfl) ?_
            refine lv_iconst (v := 1) X.1 X.2.1 dX12_mix_121 (by decide) ?_
            refine lv_iload X.1 X.2.1 dX12_mix_122 (lv_at hl 3 rfl) ?_
            refine lv_ishl X.1 X.2.1 dX12_mix_124 ?_
            refine lv_topi (fun v_438 ev_438 => ?_)
            have rg_439 := And.intro (z_lo v_438) (z_hi v_438)
            refine lv_icmp_ge (tgt := 264) X.1 X.2.1 dX12_mix_125 (by decide) (fun c_440 => ?_) (fun c_440 => ?_)
            · have z_b_441 := trivial
              have k_442 : i8_434_z ≥ v_438.toInt := z_le rfl hz_i8_434 c_440
              refine lv_iload X.1 X.2.1 dX12_mix_264 (lv_at hl 1 rfl) ?_
              refine lv_iconst (v := (-1)) X.1 X.2.1 dX12_mix_266 (by decide) ?_
              refine lv_icmp_ne (tgt := 272) X.1 X.2.1 dX12_mix_267 (by decide) (fun c_443 => ?_) (fun c_443 => ?_)
              · have z_b_444 := trivial
                have k_445 : i7_433_z ≠ (-1) := z_ne hz_i7_433 ti_m1 c_443
                refine lv_iconst (v := 0) X.1 X.2.1 dX12_mix_272 (by decide) ?_
                refine lv_istore (lv' := [(8, .int 0), (6, .int (i6_432)), (7, .int (i7_433)), (5, .int (i5_5)), (0, .ref x), (1, .int (a1)), (2, .int (a2)), (3, .int (a3)), (4, .int (a4))]) X.1 X.2.1 dX12_mix_273 hl (by decide) rfl (fun ls hl => ?_)
                have L_446 : ∀ (n : Nat) (T_448 : PS) (H : Heap) (locs : List Loc) (ls : Array Slot) (i8_447 : Int32) (i8_447_z : Int), ((40 - i8_447_z).toNat = n) → (Wd G cy (AS S s.heap.size) s.heap T_448 H locs) → (i8_447.toInt = i8_447_z) → (0 ≤ i8_447_z ∧ i8_447_z ≤ 40) → (At T_448 x 12) → (Ok MN S T_448) → (lv_has ls 13 [(8, .int (i8_447)), (6, .int (i6_432)), (7, .int (i7_433)), (5, .int (i5_5)), (0, .ref x), (1, .int (a1)), (2, .int (a2)), (3, .int (a3)), (4, .int (a4))]) → W p l e ({ frames := 8, cells := 0, slots := 0, locals := 384 }) s m [.ref x, .int (a1), .int (a2), .int (a3), .int (a4)].toArray below meth c H locs 0 0 QQ (F0 m 275 ls []) := by
                  intro n
                  induction n using Nat.strongRecOn with
                  | ind n ih_L_446 =>
                  intro T_448 H locs ls i8_447 i8_447_z hn hw hz_i8_447 hr_i8_447 ha_x_L_449 hO_T_448 hl
                  have rg_450 : (-2147483648) ≤ i8_447_z ∧ i8_447_z ≤ 2147483647 := by rw [← hz_i8_447]; exact ⟨z_lo _, z_hi _⟩
                  refine lv_iload X.1 X.2.1 dX12_mix_275 (lv_at hl 0 rfl) ?_
                  refine lv_bipush (v := 40) X.1 X.2.1 dX12_mix_277 (by decide) ?_
                  refine lv_icmp_ge (tgt := 296) X.1 X.2.1 dX12_mix_279 (by decide) (fun c_451 => ?_) (fun c_451 => ?_)
                  · have z_b_452 := trivial
                    have k_453 : i8_447_z ≥ 40 := z_le ti_40 hz_i8_447 c_451
                    refine lv_iconst (v := 0) X.1 X.2.1 dX12_mix_296 (by decide) ?_
                    refine lv_istore (lv' := [(8, .int 0), (6, .int (i6_432)), (7, .int (i7_433)), (5, .int (i5_5)), (0, .ref x), (1, .int (a1)), (2, .int (a2)), (3, .int (a3)), (4, .int (a4))]) X.1 X.2.1 dX12_mix_297 hl (by decide) rfl (fun ls hl => ?_)
                    have L_454 : ∀ (n : Nat) (T_456 : PS) (H : Heap) (locs : List Loc) (ls : Array Slot) (i8_455 : Int32) (i8_455_z : Int), ((14 - i8_455_z).toNat = n) → (Wd G cy (AS S s.heap.size) s.heap T_456 H locs) → (i8_455.toInt = i8_455_z) → (0 ≤ i8_455_z ∧ i8_455_z ≤ 14) → (At T_456 x 12) → (Ok MN S T_456) → (lv_has ls 13 [(8, .int (i8_455)), (6, .int (i6_432)), (7, .int (i7_433)), (5, .int (i5_5)), (0, .ref x), (1, .int (a1)), (2, .int (a2)), (3, .int (a3)), (4, .int (a4))]) → W p l e ({ frames := 8, cells := 0, slots := 0, locals := 384 }) s m [.ref x, .int (a1), .int (a2), .int (a3), .int (a4)].toArray below meth c H locs 0 0 QQ (F0 m 299 ls []) := by
                      intro n
                      induction n using Nat.strongRecOn with
                      | ind n ih_L_454 =>
                      intro T_456 H locs ls i8_455 i8_455_z hn hw hz_i8_455 hr_i8_455 ha_x_L_457 hO_T_456 hl
                      have rg_458 : (-2147483648) ≤ i8_455_z ∧ i8_455_z ≤ 2147483647 := by rw [← hz_i8_455]; exact ⟨z_lo _, z_hi _⟩
                      refine lv_iload X.1 X.2.1 dX12_mix_299 (lv_at hl 0 rfl) ?_
                      refine lv_iload X.1 X.2.1 dX12_mix_301 (lv_at hl 3 rfl) ?_
                      refine lv_icmp_ge (tgt := 356) X.1 X.2.1 dX12_mix_303 (by decide) (fun c_459 => ?_) (fun c_459 => ?_)
                      · have z_b_460 := trivial
                        have k_461 : i8_455_z ≥ i5_5_z := z_le hz_i5_5 hz_i8_455 c_459
                        refine lv_iload X.1 X.2.1 dX12_mix_356 (lv_at hl 2 rfl) ?_
                        rw [hQQ]
                        exact ret_i X hw hr hlocks (Nat.le_of_ble_eq_true rfl) (Nat.le_of_ble_eq_true rfl) ⟨hO_T_456, trivial⟩ dX12_mix_358
                      · have z_b_462 := trivial
                        have k_463 : i8_455_z < i5_5_z := z_nle hz_i5_5 hz_i8_455 c_459
                        refine lv_iload X.1 X.2.1 dX12_mix_306 (lv_at hl 1 rfl) ?_
                        refine lv_iload X.1 X.2.1 dX12_mix_308 (lv_at hl 0 rfl) ?_
                        refine lv_ishr X.1 X.2.1 dX12_mix_310 ?_
                        refine lv_topi (fun v_464 ev_464 => ?_)
                        have rg_465 := And.intro (z_lo v_464) (z_hi v_464)
                        refine lv_iconst (v := 1) X.1 X.2.1 dX12_mix_311 (by decide) ?_
                        refine lv_iand X.1 X.2.1 dX12_mix_312 ?_
                        refine lv_topi (fun v_466 ev_466 => ?_)
                        have z_467 : 0 ≤ v_466.toInt ∧ v_466.toInt ≤ 1 := z_and1 ev_466
                        refine lv_if_ne (tgt := 319) X.1 X.2.1 dX12_mix_313 (by decide) (fun c_468 => ?_) (fun c_468 => ?_)
                        · have z_b_469 := trivial
                          have k_470 : v_466.toInt ≠ 0 := z_ne rfl ti_0 c_468
                          refine lv_aload_n X.1 X.2.1 dX12_mix_319 rfl (lv_at hl 4 rfl) ?_
                          obtain ⟨q_471, h_472, h_473, h_474⟩ := gQ_12_1261 hO_T_456.1 ha_x_L_457
                          refine r_getR (g := 1261) X hw ha_x_L_457 rfl 61 h_472 (by decide) rfl inn_X12_mix_12 (by decide) (X.2.2.2.1 (.fieldLink RX12 149 "SilkMillModel" "isMixed" "[Z") (by decide +kernel)) rfl (gv_1261 _ _) dX12_mix_320 ?_
                          refine lv_aload_n X.1 X.2.1 dX12_mix_323 rfl (lv_at hl 4 rfl) ?_
                          obtain ⟨q_475, h_476, h_477, h_478⟩ := gQ_12_1258 hO_T_456.1 ha_x_L_457
                          refine r_getR (g := 1258) X hw ha_x_L_457 rfl 58 h_476 (by decide) rfl inn_X12_mix_12 (by decide) (X.2.2.2.1 (.fieldLink RX12 140 "SilkMillModel" "asked" "[I") (by decide +kernel)) rfl (gv_1258 _ _) dX12_mix_324 ?_
                          refine lv_iload X.1 X.2.1 dX12_mix_327 (lv_at hl 0 rfl) ?_
                          refine r_iald X hw h_477 rfl (by rw [h_478]; exact z_ix hz_i8_455 (by omega) (by omega)) dX12_mix_329 ?_
                          refine lv_topi (fun v_479 ev_479 => ?_)
                          have z_480 := gE_1374 hO_T_456.1 h_477 (Int32.toNatClampNeg (i8_455)); rw [← ev_479] at z_480
                          have ev_479 := ev_479.symm
                          refine lv_iconst (v := 1) X.1 X.2.1 dX12_mix_330 (by decide) ?_
                          refine r_zast X hw h_473 rfl (by rw [h_474]; exact z_ix rfl (by omega) (by omega)) dX12_mix_331 (fun H locs hw => ?_)
                          obtain ⟨S_481, eS_481⟩ : ∃ T, T = sA T_456 q_471 (upd (pA T_456 q_471) (Int32.toNatClampNeg (v_479)) (vp_nar .boolean (1))) := ⟨_, rfl⟩
                          rw [← eS_481] at hw
                          have hO_482 : Ok MN S S_481 := hO_T_456.sA eS_481 h_473 (by decide +kernel) (uA_1435 hO_T_456.1 h_473)
                          refine lv_iload X.1 X.2.1 dX12_mix_332 (lv_at hl 8 rfl) ?_
                          refine lv_if_eq (tgt := 350) X.1 X.2.1 dX12_mix_334 (by decide) (fun c_483 => ?_) (fun c_483 => ?_)
                          · have z_b_484 := trivial
                            have k_485 : a4_z = 0 := z_eq hz_a4 ti_0 c_483
                            obtain ⟨x_486, ex_486⟩ : ∃ y : Int32, y = i8_455 + 1 := ⟨_, rfl⟩
                            have z_487 : x_486.toInt = i8_455_z + 1 := z_add ex_486 hz_i8_455 ti_1 (by omega) (by omega)
                            refine lv_iinc (v := x_486) (lv' := [(8, .int (x_486)), (6, .int (i6_432)), (7, .int (i7_433)), (5, .int (i5_5)), (0, .ref x), (1, .int (a1)), (2, .int (a2)), (3, .int (a3)), (4, .int (a4))]) X.1 X.2.1 dX12_mix_350 hl (k := 0) rfl (by rw [ex_486]; rfl) (by decide) rfl (fun ls hl => ?_)
                            refine lv_goto (tgt := 299) X.1 X.2.1 dX12_mix_353 (by decide) ?_
                            have t_488 : At S_481 x 12 := tAt_sA eS_481 ha_x_L_457
                            exact ih_L_454 _ (by omega) _ _ _ _ (x_486) (x_486.toInt) rfl hw rfl (by omega) t_488 hO_482 (lv_sub hl [0, 1, 2, 3, 4, 5, 6, 7, 8] rfl)
                          · have z_b_489 := trivial
                            have k_490 : a4_z ≠ 0 := z_ne hz_a4 ti_0 c_483
                            refine lv_aload_n X.1 X.2.1 dX12_mix_337 rfl (lv_at hl 4 rfl) ?_
                            have t_491 : At S_481 x 12 := tAt_sA eS_481 ha_x_L_457
                            obtain ⟨q_492, h_493, h_494, h_495⟩ := gQ_12_1244 hO_482.1 t_491
                            refine r_getR (g := 1244) X hw t_491 rfl 44 h_493 (by decide) rfl inn_X12_mix_12 (by decide) (X.2.2.2.1 (.fieldLink RX12 115 "SilkMillModel" "isSold" "[Z") (by decide +kernel)) rfl (gv_1244 _ _) dX12_mix_338 ?_
                            refine lv_aload_n X.1 X.2.1 dX12_mix_341 rfl (lv_at hl 4 rfl) ?_
                            have t_496 : pR S_481 1258 x = some q_475 := tR_sA eS_481 h_476
                            refine r_getR (g := 1258) X hw t_491 rfl 58 t_496 (by decide) rfl inn_X12_mix_12 (by decide) (X.2.2.2.1 (.fieldLink RX12 140 "SilkMillModel" "asked" "[I") (by decide +kernel)) rfl (gv_1258 _ _) dX12_mix_342 ?_
                            refine lv_iload X.1 X.2.1 dX12_mix_345 (lv_at hl 0 rfl) ?_
                            have t_497 : At S_481 q_475 1374 := tAt_sA eS_481 h_477
                            have t_498 : pN S_481 q_475 = 14 := tN_sA eS_481 h_478
                            clear h_478
                            refine r_iald X hw t_497 rfl (by rw [t_498]; exact z_ix hz_i8_455 (by omega) (by omega)) dX12_mix_347 ?_
                            have t_499 : pA S_481 q_475 (Int32.toNatClampNeg (i8_455)) = v_479 := tA_sA eS_481 (At_ne h_477 h_473 (by decide)) ev_479
                            rw [t_499]
                            refine lv_iconst (v := 1) X.1 X.2.1 dX12_mix_348 (by decide) ?_
                            refine r_zast X hw h_494 rfl (by rw [h_495]; exact z_ix rfl (by omega) (by omega)) dX12_mix_349 (fun H locs hw => ?_)
                            obtain ⟨S_500, eS_500⟩ : ∃ T, T = sA S_481 q_492 (upd (pA S_481 q_492) (Int32.toNatClampNeg (v_479)) (vp_nar .boolean (1))) := ⟨_, rfl⟩
                            rw [← eS_500] at hw
                            have hO_501 : Ok MN S S_500 := hO_482.sA eS_500 h_494 (by decide +kernel) (uA_1095 hO_482.1 h_494)
                            obtain ⟨x_502, ex_502⟩ : ∃ y : Int32, y = i8_455 + 1 := ⟨_, rfl⟩
                            have z_503 : x_502.toInt = i8_455_z + 1 := z_add ex_502 hz_i8_455 ti_1 (by omega) (by omega)
                            refine lv_iinc (v := x_502) (lv' := [(8, .int (x_502)), (6, .int (i6_432)), (7, .int (i7_433)), (5, .int (i5_5)), (0, .ref x), (1, .int (a1)), (2, .int (a2)), (3, .int (a3)), (4, .int (a4))]) X.1 X.2.1 dX12_mix_350 hl (k := 0) rfl (by rw [ex_502]; rfl) (by decide) rfl (fun ls hl => ?_)
                            refine lv_goto (tgt := 299) X.1 X.2.1 dX12_mix_353 (by decide) ?_
                            have t_504 : At S_500 x 12 := tAt_sA eS_500 t_491
                            exact ih_L_454 _ (by omega) _ _ _ _ (x_502) (x_502.toInt) rfl hw rfl (by omega) t_504 hO_501 (lv_sub hl [0, 1, 2, 3, 4, 5, 6, 7, 8] rfl)
                        · have z_b_505 := trivial
                          have k_506 : v_466.toInt = 0 := z_eq rfl ti_0 c_468
                          refine lv_goto (tgt := 350) X.1 X.2.1 dX12_mix_316 (by decide) ?_
                          obtain ⟨x_507, ex_507⟩ : ∃ y : Int32, y = i8_455 + 1 := ⟨_, rfl⟩
                          have z_508 : x_507.toInt = i8_455_z + 1 := z_add ex_507 hz_i8_455 ti_1 (by omega) (by omega)
                          refine lv_iinc (v := x_507) (lv' := [(8, .int (x_507)), (6, .int (i6_432)), (7, .int (i7_433)), (5, .int (i5_5)), (0, .ref x), (1, .int (a1)), (2, .int (a2)), (3, .int (a3)), (4, .int (a4))]) X.1 X.2.1 dX12_mix_350 hl (k := 0) rfl (by rw [ex_507]; rfl) (by decide) rfl (fun ls hl => ?_)
                          refine lv_goto (tgt := 299) X.1 X.2.1 dX12_mix_353 (by decide) ?_
                          exact ih_L_454 _ (by omega) _ _ _ _ (x_507) (x_507.toInt) rfl hw rfl (by omega) ha_x_L_457 hO_T_456 (lv_sub hl [0, 1, 2, 3, 4, 5, 6, 7, 8] rfl)
                    exact L_454 _ _ _ _ _ (0) (0) rfl hw ti_0 (by omega) ha_x_L_449 hO_T_448 (lv_sub hl [0, 1, 2, 3, 4, 5, 6, 7, 8] rfl)
                  · have z_b_509 := trivial
                    have k_510 : i8_447_z < 40 := z_nle ti_40 hz_i8_447 c_451
                    refine lv_aload_n X.1 X.2.1 dX12_mix_282 rfl (lv_at hl 4 rfl) ?_
                    obtain ⟨q_511, h_512, h_513, h_514⟩ := gQ_12_1261 hO_T_448.1 ha_x_L_449
                    refine r_getR (g := 1261) X hw ha_x_L_449 rfl 61 h_512 (by decide) rfl inn_X12_mix_12 (by decide) (X.2.2.2.1 (.fieldLink RX12 149 "SilkMillModel" "isMixed" "[Z") (by decide +kernel)) rfl (gv_1261 _ _) dX12_mix_283 ?_
                    refine lv_iload X.1 X.2.1 dX12_mix_286 (lv_at hl 0 rfl) ?_
                    refine lv_iconst (v := 0) X.1 X.2.1 dX12_mix_288 (by decide) ?_
                    refine r_zast X hw h_513 rfl (by rw [h_514]; exact z_ix hz_i8_447 (by omega) (by omega)) dX12_mix_289 (fun H locs hw => ?_)
                    obtain ⟨S_515, eS_515⟩ : ∃ T, T = sA T_448 q_511 (upd (pA T_448 q_511) (Int32.toNatClampNeg (i8_447)) (vp_nar .boolean (0))) := ⟨_, rfl⟩
                    rw [← eS_515] at hw
                    have hO_516 : Ok MN S S_515 := hO_T_448.sA eS_515 h_513 (by decide +kernel) (uA_1435 hO_T_448.1 h_513)
                    obtain ⟨x_517, ex_517⟩ : ∃ y : Int32, y = i8_447 + 1 := ⟨_, rfl⟩
                    have z_518 : x_517.toInt = i8_447_z + 1 := z_add ex_517 hz_i8_447 ti_1 (by omega) (by omega)
                    refine lv_iinc (v := x_517) (lv' := [(8, .int (x_517)), (6, .int (i6_432)), (7, .int (i7_433)), (5, .int (i5_5)), (0, .ref x), (1, .int (a1)), (2, .int (a2)), (3, .int (a3)), (4, .int (a4))]) X.1 X.2.1 dX12_mix_290 hl (k := 0) rfl (by rw [ex_517]; rfl) (by decide) rfl (fun ls hl => ?_)
                    refine lv_goto (tgt := 275) X.1 X.2.1 dX12_mix_293 (by decide) ?_
                    have t_519 : At S_515 x 12 := tAt_sA eS_515 ha_x_L_449
                    exact ih_L_446 _ (by omega) _ _ _ _ (x_517) (x_517.toInt) rfl hw rfl (by omega) t_519 hO_516 (lv_sub hl [0, 1, 2, 3, 4, 5, 6, 7, 8] rfl)
                exact L_446 _ _ _ _ _ (0) (0) rfl hw ti_0 (by omega) ha_x_L_8 hO_T_7 (lv_sub hl [0, 1, 2, 3, 4, 5, 6, 7, 8] rfl)
              · have z_b_520 := trivial
                have k_521 : i7_433_z = (-1) := z_eq hz_i7_433 ti_m1 c_443
                refine lv_iconst (v := (-1)) X.1 X.2.1 dX12_mix_270 (by decide) ?_
                rw [hQQ]
                exact ret_i X hw hr hlocks (Nat.le_of_ble_eq_true rfl) (Nat.le_of_ble_eq_true rfl) ⟨hO_T_7, trivial⟩ dX12_mix_271
            · have z_b_522 := trivial
              have k_523 : i8_434_z < v_438.toInt := z_nle rfl hz_i8_434 c_440
              refine lv_iconst (v := 0) X.1 X.2.1 dX12_mix_128 (by decide) ?_
              refine lv_istore (lv' := [(9, .int 0), (6, .int (i6_432)), (7, .int (i7_433)), (8, .int (i8_434)), (5, .int (i5_5)), (0, .ref x), (1, .int (a1)), (2, .int (a2)), (3, .int (a3)), (4, .int (a4))]) X.1 X.2.1 dX12_mix_129 hl (by decide) rfl (fun ls hl => ?_)
              refine lv_iconst (v := 0) X.1 X.2.1 dX12_mix_131 (by decide) ?_
              refine lv_istore (lv' := [(10, .int 0), (9, .int 0), (6, .int (i6_432)), (7, .int (i7_433)), (8, .int (i8_434)), (5, .int (i5_5)), (0, .ref x), (1, .int (a1)), (2, .int (a2)), (3, .int (a3)), (4, .int (a4))]) X.1 X.2.1 dX12_mix_132 hl (by decide) rfl (fun ls hl => ?_)
              refine lv_iconst (v := 0) X.1 X.2.1 dX12_mix_134 (by decide) ?_
              refine lv_istore (lv' := [(11, .int 0), (10, .int 0), (9, .int 0), (6, .int (i6_432)), (7, .int (i7_433)), (8, .int (i8_434)), (5, .int (i5_5)), (0, .ref x), (1, .int (a1)), (2, .int (a2)), (3, .int (a3)), (4, .int (a4))]) X.1 X.2.1 dX12_mix_135 hl (by decide) rfl (fun ls hl => ?_)
              have L_524 : ∀ (n : Nat) (H : Heap) (locs : List Loc) (ls : Array Slot) (i9_525 : Int32) (i9_525_z : Int) (i10_526 : Int32) (i10_526_z : Int) (i11_527 : Int32) (i11_527_z : Int), ((14 - i11_527_z).toNat = n) → (Wd G cy (AS S s.heap.size) s.heap T_7 H locs) → (i9_525.toInt = i9_525_z) → (i10_526.toInt = i10_526_z) → (i11_527.toInt = i11_527_z) → (0 ≤ i11_527_z ∧ i11_527_z ≤ 14) → (lv_has ls 13 [(9, .int (i9_525)), (10, .int (i10_526)), (11, .int (i11_527)), (6, .int (i6_432)), (7, .int (i7_433)), (8, .int (i8_434)), (5, .int (i5_5)), (0, .ref x), (1, .int (a1)), (2, .int (a2)), (3, .int (a3)), (4, .int (a4))]) → W p l e ({ frames := 8, cells := 0, slots := 0, locals := 384 }) s m [.ref x, .int (a1), .int (a2), .int (a3), .int (a4)].toArray below meth c H locs 0 0 QQ (F0 m 137 ls []) := by
                intro n
                induction n using Nat.strongRecOn with
                | ind n ih_L_524 =>
                intro H locs ls i9_525 i9_525_z i10_526 i10_526_z i11_527 i11_527_z hn hw hz_i9_525 hz_i10_526 hz_i11_527 hr_i11_527 hl
                have rg_528 : (-2147483648) ≤ i9_525_z ∧ i9_525_z ≤ 2147483647 := by rw [← hz_i9_525]; exact ⟨z_lo _, z_hi _⟩
                have rg_529 : (-2147483648) ≤ i10_526_z ∧ i10_526_z ≤ 2147483647 := by rw [← hz_i10_526]; exact ⟨z_lo _, z_hi _⟩
                have rg_530 : (-2147483648) ≤ i11_527_z ∧ i11_527_z ≤ 2147483647 := by rw [← hz_i11_527]; exact ⟨z_lo _, z_hi _⟩
                refine lv_iload X.1 X.2.1 dX12_mix_137 (lv_at hl 2 rfl) ?_
                refine lv_iload X.1 X.2.1 dX12_mix_139 (lv_at hl 6 rfl) ?_
                refine lv_icmp_ge (tgt := 187) X.1 X.2.1 dX12_mix_141 (by decide) (fun c_531 => ?_) (fun c_531 => ?_)
                · have z_b_532 := trivial
                  have k_533 : i11_527_z ≥ i5_5_z := z_le hz_i5_5 hz_i11_527 c_531
                  refine lv_iload X.1 X.2.1 dX12_mix_187 (lv_at hl 0 rfl) ?_
                  refine lv_iload_n X.1 X.2.1 dX12_mix_189 rfl (lv_at hl 8 rfl) ?_
                  refine lv_icmp_ge (tgt := 196) X.1 X.2.1 dX12_mix_190 (by decide) (fun c_534 => ?_) (fun c_534 => ?_)
                  · have z_b_535 := trivial
                    have k_536 : i9_525_z ≥ a1_z := z_le hz_a1 hz_i9_525 c_534
                    refine lv_iload X.1 X.2.1 dX12_mix_196 (lv_at hl 5 rfl) ?_
                    refine lv_iload X.1 X.2.1 dX12_mix_198 (lv_at hl 3 rfl) ?_
                    refine lv_ixor X.1 X.2.1 dX12_mix_200 ?_
                    refine lv_topi (fun v_537 ev_537 => ?_)
                    have rg_538 := And.intro (z_lo v_537) (z_hi v_537)
                    refine lv_istore (lv' := [(11, .int (v_537)), (9, .int (i9_525)), (10, .int (i10_526)), (6, .int (i6_432)), (7, .int (i7_433)), (8, .int (i8_434)), (5, .int (i5_5)), (0, .ref x), (1, .int (a1)), (2, .int (a2)), (3, .int (a3)), (4, .int (a4))]) X.1 X.2.1 dX12_mix_201 hl (by decide) rfl (fun ls hl => ?_)
                    refine lv_iload X.1 X.2.1 dX12_mix_203 (lv_at hl 5 rfl) ?_
                    refine lv_iload X.1 X.2.1 dX12_mix_205 (lv_at hl 0 rfl) ?_
                    refine lv_iand X.1 X.2.1 dX12_mix_207 ?_
                    refine lv_topi (fun v_539 ev_539 => ?_)
                    have rg_540 := And.intro (z_lo v_539) (z_hi v_539)
                    refine lv_iload X.1 X.2.1 dX12_mix_208 (lv_at hl 0 rfl) ?_
                    refine lv_ineg X.1 X.2.1 dX12_mix_210 ?_
                    refine lv_topi (fun v_541 ev_541 => ?_)
                    have rg_542 := And.intro (z_lo v_541) (z_hi v_541)
                    refine lv_iand X.1 X.2.1 dX12_mix_211 ?_
                    refine lv_topi (fun v_543 ev_543 => ?_)
                    have rg_544 := And.intro (z_lo v_543) (z_hi v_543)
                    refine lv_if_eq (tgt := 219) X.1 X.2.1 dX12_mix_212 (by decide) (fun c_545 => ?_) (fun c_545 => ?_)
                    · have z_b_546 := trivial
                      have k_547 : v_543.toInt = 0 := z_eq rfl ti_0 c_545
                      refine lv_iconst (v := 0) X.1 X.2.1 dX12_mix_219 (by decide) ?_
                      refine lv_istore (lv' := [(12, .int 0), (11, .int (v_537)), (9, .int (i9_525)), (10, .int (i10_526)), (6, .int (i6_432)), (7, .int (i7_433)), (8, .int (i8_434)), (5, .int (i5_5)), (0, .ref x), (1, .int (a1)), (2, .int (a2)), (3, .int (a3)), (4, .int (a4))]) X.1 X.2.1 dX12_mix_220 hl (by decide) rfl (fun ls hl => ?_)
                      refine lv_iload X.1 X.2.1 dX12_mix_222 (lv_at hl 5 rfl) ?_
                      refine lv_iconst (v := (-1)) X.1 X.2.1 dX12_mix_224 (by decide) ?_
                      refine lv_icmp_eq (tgt := 250) X.1 X.2.1 dX12_mix_225 (by decide) (fun c_548 => ?_) (fun c_548 => ?_)
                      · have z_b_549 := trivial
                        have k_550 : i7_433_z = (-1) := z_eq hz_i7_433 ti_m1 c_548
                        refine lv_iload X.1 X.2.1 dX12_mix_250 (lv_at hl 6 rfl) ?_
                        refine lv_istore (lv' := [(6, .int (i8_434)), (12, .int 0), (11, .int (v_537)), (9, .int (i9_525)), (10, .int (i10_526)), (7, .int (i7_433)), (8, .int (i8_434)), (5, .int (i5_5)), (0, .ref x), (1, .int (a1)), (2, .int (a2)), (3, .int (a3)), (4, .int (a4))]) X.1 X.2.1 dX12_mix_252 hl (by decide) rfl (fun ls hl => ?_)
                        refine lv_iload X.1 X.2.1 dX12_mix_254 (lv_at hl 4 rfl) ?_
                        refine lv_istore (lv' := [(7, .int (i10_526)), (6, .int (i8_434)), (12, .int 0), (11, .int (v_537)), (9, .int (i9_525)), (10, .int (i10_526)), (8, .int (i8_434)), (5, .int (i5_5)), (0, .ref x), (1, .int (a1)), (2, .int (a2)), (3, .int (a3)), (4, .int (a4))]) X.1 X.2.1 dX12_mix_256 hl (by decide) rfl (fun ls hl => ?_)
                        obtain ⟨x_551, ex_551⟩ : ∃ y : Int32, y = i8_434 + 1 := ⟨_, rfl⟩
                        have z_552 : x_551.toInt = i8_434_z + 1 := z_add ex_551 hz_i8_434 ti_1 (by omega) (by omega)
                        refine lv_iinc (v := x_551) (lv' := [(8, .int (x_551)), (7, .int (i10_526)), (6, .int (i8_434)), (12, .int 0), (11, .int (v_537)), (9, .int (i9_525)), (10, .int (i10_526)), (5, .int (i5_5)), (0, .ref x), (1, .int (a1)), (2, .int (a2)), (3, .int (a3)), (4, .int (a4))]) X.1 X.2.1 dX12_mix_258 hl (k := 6) rfl (by rw [ex_551]; rfl) (by decide) rfl (fun ls hl => ?_)
                        refine lv_goto (tgt := 119) X.1 X.2.1 dX12_mix_261 (by decide) ?_
                        exact ih_L_431 _ (by omega) _ _ _ (i8_434) (i8_434_z) (i10_526) (i10_526_z) (x_551) (x_551.toInt) rfl hw hz_i8_434 hz_i10_526 rfl (by omega) (lv_sub hl [2, 1, 0, 7, 8, 9, 10, 11, 12] rfl)
                      · have z_b_553 := trivial
                        have k_554 : i7_433_z ≠ (-1) := z_ne hz_i7_433 ti_m1 c_548
                        refine lv_iload X.1 X.2.1 dX12_mix_228 (lv_at hl 3 rfl) ?_
                        refine lv_iload X.1 X.2.1 dX12_mix_230 (lv_at hl 5 rfl) ?_
                        refine lv_icmp_gt (tgt := 258) X.1 X.2.1 dX12_mix_232 (by decide) (fun c_555 => ?_) (fun c_555 => ?_)
                        · have z_b_556 := trivial
                          have k_557 : i10_526_z > i7_433_z := z_lt hz_i7_433 hz_i10_526 c_555
                          obtain ⟨x_558, ex_558⟩ : ∃ y : Int32, y = i8_434 + 1 := ⟨_, rfl⟩
                          have z_559 : x_558.toInt = i8_434_z + 1 := z_add ex_558 hz_i8_434 ti_1 (by omega) (by omega)
                          refine lv_iinc (v := x_558) (lv' := [(8, .int (x_558)), (12, .int 0), (11, .int (v_537)), (9, .int (i9_525)), (10, .int (i10_526)), (6, .int (i6_432)), (7, .int (i7_433)), (5, .int (i5_5)), (0, .ref x), (1, .int (a1)), (2, .int (a2)), (3, .int (a3)), (4, .int (a4))]) X.1 X.2.1 dX12_mix_258 hl (k := 6) rfl (by rw [ex_558]; rfl) (by decide) rfl (fun ls hl => ?_)
                          refine lv_goto (tgt := 119) X.1 X.2.1 dX12_mix_261 (by decide) ?_
                          exact ih_L_431 _ (by omega) _ _ _ (i6_432) (i6_432_z) (i7_433) (i7_433_z) (x_558) (x_558.toInt) rfl hw hz_i6_432 hz_i7_433 rfl (by omega) (lv_sub hl [5, 6, 0, 7, 8, 9, 10, 11, 12] rfl)
                        · have z_b_560 := trivial
                          have k_561 : i10_526_z ≤ i7_433_z := z_nlt hz_i7_433 hz_i10_526 c_555
                          refine lv_iload X.1 X.2.1 dX12_mix_235 (lv_at hl 3 rfl) ?_
                          refine lv_iload X.1 X.2.1 dX12_mix_237 (lv_at hl 5 rfl) ?_
                          refine lv_icmp_ne (tgt := 250) X.1 X.2.1 dX12_mix_239 (by decide) (fun c_562 => ?_) (fun c_562 => ?_)
                          · have z_b_563 := trivial
                            have k_564 : i10_526_z ≠ i7_433_z := z_ne hz_i10_526 hz_i7_433 c_562
                            refine lv_iload X.1 X.2.1 dX12_mix_250 (lv_at hl 6 rfl) ?_
                            refine lv_istore (lv' := [(6, .int (i8_434)), (12, .int 0), (11, .int (v_537)), (9, .int (i9_525)), (10, .int (i10_526)), (7, .int (i7_433)), (8, .int (i8_434)), (5, .int (i5_5)), (0, .ref x), (1, .int (a1)), (2, .int (a2)), (3, .int (a3)), (4, .int (a4))]) X.1 X.2.1 dX12_mix_252 hl (by decide) rfl (fun ls hl => ?_)
                            refine lv_iload X.1 X.2.1 dX12_mix_254 (lv_at hl 4 rfl) ?_
                            refine lv_istore (lv' := [(7, .int (i10_526)), (6, .int (i8_434)), (12, .int 0), (11, .int (v_537)), (9, .int (i9_525)), (10, .int (i10_526)), (8, .int (i8_434)), (5, .int (i5_5)), (0, .ref x), (1, .int (a1)), (2, .int (a2)), (3, .int (a3)), (4, .int (a4))]) X.1 X.2.1 dX12_mix_256 hl (by decide) rfl (fun ls hl => ?_)
                            obtain ⟨x_565, ex_565⟩ : ∃ y : Int32, y = i8_434 + 1 := ⟨_, rfl⟩
                            have z_566 : x_565.toInt = i8_434_z + 1 := z_add ex_565 hz_i8_434 ti_1 (by omega) (by omega)
                            refine lv_iinc (v := x_565) (lv' := [(8, .int (x_565)), (7, .int (i10_526)), (6, .int (i8_434)), (12, .int 0), (11, .int (v_537)), (9, .int (i9_525)), (10, .int (i10_526)), (5, .int (i5_5)), (0, .ref x), (1, .int (a1)), (2, .int (a2)), (3, .int (a3)), (4, .int (a4))]) X.1 X.2.1 dX12_mix_258 hl (k := 6) rfl (by rw [ex_565]; rfl) (by decide) rfl (fun ls hl => ?_)
                            refine lv_goto (tgt := 119) X.1 X.2.1 dX12_mix_261 (by decide) ?_
                            exact ih_L_431 _ (by omega) _ _ _ (i8_434) (i8_434_z) (i10_526) (i10_526_z) (x_565) (x_565.toInt) rfl hw hz_i8_434 hz_i10_526 rfl (by omega) (lv_sub hl [2, 1, 0, 7, 8, 9, 10, 11, 12] rfl)
                          · have z_b_567 := trivial
                            have k_568 : i10_526_z = i7_433_z := z_eq hz_i10_526 hz_i7_433 c_562
                            refine lv_iload X.1 X.2.1 dX12_mix_242 (lv_at hl 0 rfl) ?_
                            refine lv_if_ne (tgt := 250) X.1 X.2.1 dX12_mix_244 (by decide) (fun c_569 => absurd c_569 (by decide)) (fun c_569 => ?_)
                            refine lv_goto (tgt := 258) X.1 X.2.1 dX12_mix_247 (by decide) ?_
                            obtain ⟨x_570, ex_570⟩ : ∃ y : Int32, y = i8_434 + 1 := ⟨_, rfl⟩
                            have z_571 : x_570.toInt = i8_434_z + 1 := z_add ex_570 hz_i8_434 ti_1 (by omega) (by omega)
                            refine lv_iinc (v := x_570) (lv' := [(8, .int (x_570)), (12, .int 0), (11, .int (v_537)), (9, .int (i9_525)), (10, .int (i10_526)), (6, .int (i6_432)), (7, .int (i7_433)), (5, .int (i5_5)), (0, .ref x), (1, .int (a1)), (2, .int (a2)), (3, .int (a3)), (4, .int (a4))]) X.1 X.2.1 dX12_mix_258 hl (k := 6) rfl (by rw [ex_570]; rfl) (by decide) rfl (fun ls hl => ?_)
                            refine lv_goto (tgt := 119) X.1 X.2.1 dX12_mix_261 (by decide) ?_
                            exact ih_L_431 _ (by omega) _ _ _ (i6_432) (i6_432_z) (i7_433) (i7_433_z) (x_570) (x_570.toInt) rfl hw hz_i6_432 hz_i7_433 rfl (by omega) (lv_sub hl [5, 6, 0, 7, 8, 9, 10, 11, 12] rfl)
                    · have z_b_572 := trivial
                      have k_573 : v_543.toInt ≠ 0 := z_ne rfl ti_0 c_545
                      refine lv_iconst (v := 1) X.1 X.2.1 dX12_mix_215 (by decide) ?_
                      refine lv_goto (tgt := 220) X.1 X.2.1 dX12_mix_216 (by decide) ?_
                      refine lv_istore (lv' := [(12, .int 1), (11, .int (v_537)), (9, .int (i9_525)), (10, .int (i10_526)), (6, .int (i6_432)), (7, .int (i7_433)), (8, .int (i8_434)), (5, .int (i5_5)), (0, .ref x), (1, .int (a1)), (2, .int (a2)), (3, .int (a3)), (4, .int (a4))]) X.1 X.2.1 dX12_mix_220 hl (by decide) rfl (fun ls hl => ?_)
                      refine lv_iload X.1 X.2.1 dX12_mix_222 (lv_at hl 5 rfl) ?_
                      refine lv_iconst (v := (-1)) X.1 X.2.1 dX12_mix_224 (by decide) ?_
                      refine lv_icmp_eq (tgt := 250) X.1 X.2.1 dX12_mix_225 (by decide) (fun c_574 => ?_) (fun c_574 => ?_)
                      · have z_b_575 := trivial
                        have k_576 : i7_433_z = (-1) := z_eq hz_i7_433 ti_m1 c_574
                        refine lv_iload X.1 X.2.1 dX12_mix_250 (lv_at hl 6 rfl) ?_
                        refine lv_istore (lv' := [(6, .int (i8_434)), (12, .int 1), (11, .int (v_537)), (9, .int (i9_525)), (10, .int (i10_526)), (7, .int (i7_433)), (8, .int (i8_434)), (5, .int (i5_5)), (0, .ref x), (1, .int (a1)), (2, .int (a2)), (3, .int (a3)), (4, .int (a4))]) X.1 X.2.1 dX12_mix_252 hl (by decide) rfl (fun ls hl => ?_)
                        refine lv_iload X.1 X.2.1 dX12_mix_254 (lv_at hl 4 rfl) ?_
                        refine lv_istore (lv' := [(7, .int (i10_526)), (6, .int (i8_434)), (12, .int 1), (11, .int (v_537)), (9, .int (i9_525)), (10, .int (i10_526)), (8, .int (i8_434)), (5, .int (i5_5)), (0, .ref x), (1, .int (a1)), (2, .int (a2)), (3, .int (a3)), (4, .int (a4))]) X.1 X.2.1 dX12_mix_256 hl (by decide) rfl (fun ls hl => ?_)
                        obtain ⟨x_577, ex_577⟩ : ∃ y : Int32, y = i8_434 + 1 := ⟨_, rfl⟩
                        have z_578 : x_577.toInt = i8_434_z + 1 := z_add ex_577 hz_i8_434 ti_1 (by omega) (by omega)
                        refine lv_iinc (v := x_577) (lv' := [(8, .int (x_577)), (7, .int (i10_526)), (6, .int (i8_434)), (12, .int 1), (11, .int (v_537)), (9, .int (i9_525)), (10, .int (i10_526)), (5, .int (i5_5)), (0, .ref x), (1, .int (a1)), (2, .int (a2)), (3, .int (a3)), (4, .int (a4))]) X.1 X.2.1 dX12_mix_258 hl (k := 6) rfl (by rw [ex_577]; rfl) (by decide) rfl (fun ls hl => ?_)
                        refine lv_goto (tgt := 119) X.1 X.2.1 dX12_mix_261 (by decide) ?_
                        exact ih_L_431 _ (by omega) _ _ _ (i8_434) (i8_434_z) (i10_526) (i10_526_z) (x_577) (x_577.toInt) rfl hw hz_i8_434 hz_i10_526 rfl (by omega) (lv_sub hl [2, 1, 0, 7, 8, 9, 10, 11, 12] rfl)
                      · have z_b_579 := trivial
                        have k_580 : i7_433_z ≠ (-1) := z_ne hz_i7_433 ti_m1 c_574
                        refine lv_iload X.1 X.2.1 dX12_mix_228 (lv_at hl 3 rfl) ?_
                        refine lv_iload X.1 X.2.1 dX12_mix_230 (lv_at hl 5 rfl) ?_
                        refine lv_icmp_gt (tgt := 258) X.1 X.2.1 dX12_mix_232 (by decide) (fun c_581 => ?_) (fun c_581 => ?_)
                        · have z_b_582 := trivial
                          have k_583 : i10_526_z > i7_433_z := z_lt hz_i7_433 hz_i10_526 c_581
                          obtain ⟨x_584, ex_584⟩ : ∃ y : Int32, y = i8_434 + 1 := ⟨_, rfl⟩
                          have z_585 : x_584.toInt = i8_434_z + 1 := z_add ex_584 hz_i8_434 ti_1 (by omega) (by omega)
                          refine lv_iinc (v := x_584) (lv' := [(8, .int (x_584)), (12, .int 1), (11, .int (v_537)), (9, .int (i9_525)), (10, .int (i10_526)), (6, .int (i6_432)), (7, .int (i7_433)), (5, .int (i5_5)), (0, .ref x), (1, .int (a1)), (2, .int (a2)), (3, .int (a3)), (4, .int (a4))]) X.1 X.2.1 dX12_mix_258 hl (k := 6) rfl (by rw [ex_584]; rfl) (by decide) rfl (fun ls hl => ?_)
                          refine lv_goto (tgt := 119) X.1 X.2.1 dX12_mix_261 (by decide) ?_
                          exact ih_L_431 _ (by omega) _ _ _ (i6_432) (i6_432_z) (i7_433) (i7_433_z) (x_584) (x_584.toInt) rfl hw hz_i6_432 hz_i7_433 rfl (by omega) (lv_sub hl [5, 6, 0, 7, 8, 9, 10, 11, 12] rfl)
                        · have z_b_586 := trivial
                          have k_587 : i10_526_z ≤ i7_433_z := z_nlt hz_i7_433 hz_i10_526 c_581
                          refine lv_iload X.1 X.2.1 dX12_mix_235 (lv_at hl 3 rfl) ?_
                          refine lv_iload X.1 X.2.1 dX12_mix_237 (lv_at hl 5 rfl) ?_
                          refine lv_icmp_ne (tgt := 250) X.1 X.2.1 dX12_mix_239 (by decide) (fun c_588 => ?_) (fun c_588 => ?_)
                          · have z_b_589 := trivial
                            have k_590 : i10_526_z ≠ i7_433_z := z_ne hz_i10_526 hz_i7_433 c_588
                            refine lv_iload X.1 X.2.1 dX12_mix_250 (lv_at hl 6 rfl) ?_
                            refine lv_istore (lv' := [(6, .int (i8_434)), (12, .int 1), (11, .int (v_537)), (9, .int (i9_525)), (10, .int (i10_526)), (7, .int (i7_433)), (8, .int (i8_434)), (5, .int (i5_5)), (0, .ref x), (1, .int (a1)), (2, .int (a2)), (3, .int (a3)), (4, .int (a4))]) X.1 X.2.1 dX12_mix_252 hl (by decide) rfl (fun ls hl => ?_)
                            refine lv_iload X.1 X.2.1 dX12_mix_254 (lv_at hl 4 rfl) ?_
                            refine lv_istore (lv' := [(7, .int (i10_526)), (6, .int (i8_434)), (12, .int 1), (11, .int (v_537)), (9, .int (i9_525)), (10, .int (i10_526)), (8, .int (i8_434)), (5, .int (i5_5)), (0, .ref x), (1, .int (a1)), (2, .int (a2)), (3, .int (a3)), (4, .int (a4))]) X.1 X.2.1 dX12_mix_256 hl (by decide) rfl (fun ls hl => ?_)
                            obtain ⟨x_591, ex_591⟩ : ∃ y : Int32, y = i8_434 + 1 := ⟨_, rfl⟩
                            have z_592 : x_591.toInt = i8_434_z + 1 := z_add ex_591 hz_i8_434 ti_1 (by omega) (by omega)
                            refine lv_iinc (v := x_591) (lv' := [(8, .int (x_591)), (7, .int (i10_526)), (6, .int (i8_434)), (12, .int 1), (11, .int (v_537)), (9, .int (i9_525)), (10, .int (i10_526)), (5, .int (i5_5)), (0, .ref x), (1, .int (a1)), (2, .int (a2)), (3, .int (a3)), (4, .int (a4))]) X.1 X.2.1 dX12_mix_258 hl (k := 6) rfl (by rw [ex_591]; rfl) (by decide) rfl (fun ls hl => ?_)
                            refine lv_goto (tgt := 119) X.1 X.2.1 dX12_mix_261 (by decide) ?_
                            exact ih_L_431 _ (by omega) _ _ _ (i8_434) (i8_434_z) (i10_526) (i10_526_z) (x_591) (x_591.toInt) rfl hw hz_i8_434 hz_i10_526 rfl (by omega) (lv_sub hl [2, 1, 0, 7, 8, 9, 10, 11, 12] rfl)
                          · have z_b_593 := trivial
                            have k_594 : i10_526_z = i7_433_z := z_eq hz_i10_526 hz_i7_433 c_588
                            refine lv_iload X.1 X.2.1 dX12_mix_242 (lv_at hl 0 rfl) ?_
                            refine lv_if_ne (tgt := 250) X.1 X.2.1 dX12_mix_244 (by decide) (fun c_595 => ?_) (fun c_595 => absurd c_595 (by decide))
                            refine lv_iload X.1 X.2.1 dX12_mix_250 (lv_at hl 6 rfl) ?_
                            refine lv_istore (lv' := [(6, .int (i8_434)), (12, .int 1), (11, .int (v_537)), (9, .int (i9_525)), (10, .int (i10_526)), (7, .int (i7_433)), (8, .int (i8_434)), (5, .int (i5_5)), (0, .ref x), (1, .int (a1)), (2, .int (a2)), (3, .int (a3)), (4, .int (a4))]) X.1 X.2.1 dX12_mix_252 hl (by decide) rfl (fun ls hl => ?_)
                            refine lv_iload X.1 X.2.1 dX12_mix_254 (lv_at hl 4 rfl) ?_
                            refine lv_istore (lv' := [(7, .int (i10_526)), (6, .int (i8_434)), (12, .int 1), (11, .int (v_537)), (9, .int (i9_525)), (10, .int (i10_526)), (8, .int (i8_434)), (5, .int (i5_5)), (0, .ref x), (1, .int (a1)), (2, .int (a2)), (3, .int (a3)), (4, .int (a4))]) X.1 X.2.1 dX12_mix_256 hl (by decide) rfl (fun ls hl => ?_)
                            obtain ⟨x_596, ex_596⟩ : ∃ y : Int32, y = i8_434 + 1 := ⟨_, rfl⟩
                            have z_597 : x_596.toInt = i8_434_z + 1 := z_add ex_596 hz_i8_434 ti_1 (by omega) (by omega)
                            refine lv_iinc (v := x_596) (lv' := [(8, .int (x_596)), (7, .int (i10_526)), (6, .int (i8_434)), (12, .int 1), (11, .int (v_537)), (9, .int (i9_525)), (10, .int (i10_526)), (5, .int (i5_5)), (0, .ref x), (1, .int (a1)), (2, .int (a2)), (3, .int (a3)), (4, .int (a4))]) X.1 X.2.1 dX12_mix_258 hl (k := 6) rfl (by rw [ex_596]; rfl) (by decide) rfl (fun ls hl => ?_)
                            refine lv_goto (tgt := 119) X.1 X.2.1 dX12_mix_261 (by decide) ?_
                            exact ih_L_431 _ (by omega) _ _ _ (i8_434) (i8_434_z) (i10_526) (i10_526_z) (x_596) (x_596.toInt) rfl hw hz_i8_434 hz_i10_526 rfl (by omega) (lv_sub hl [2, 1, 0, 7, 8, 9, 10, 11, 12] rfl)
                  · have z_b_598 := trivial
                    have k_599 : i9_525_z < a1_z := z_nle hz_a1 hz_i9_525 c_534
                    refine lv_goto (tgt := 258) X.1 X.2.1 dX12_mix_193 (by decide) ?_
                    obtain ⟨x_600, ex_600⟩ : ∃ y : Int32, y = i8_434 + 1 := ⟨_, rfl⟩
                    have z_601 : x_600.toInt = i8_434_z + 1 := z_add ex_600 hz_i8_434 ti_1 (by omega) (by omega)
                    refine lv_iinc (v := x_600) (lv' := [(8, .int (x_600)), (9, .int (i9_525)), (10, .int (i10_526)), (11, .int (i11_527)), (6, .int (i6_432)), (7, .int (i7_433)), (5, .int (i5_5)), (0, .ref x), (1, .int (a1)), (2, .int (a2)), (3, .int (a3)), (4, .int (a4))]) X.1 X.2.1 dX12_mix_258 hl (k := 5) rfl (by rw [ex_600]; rfl) (by decide) rfl (fun ls hl => ?_)
                    refine lv_goto (tgt := 119) X.1 X.2.1 dX12_mix_261 (by decide) ?_
                    exact ih_L_431 _ (by omega) _ _ _ (i6_432) (i6_432_z) (i7_433) (i7_433_z) (x_600) (x_600.toInt) rfl hw hz_i6_432 hz_i7_433 rfl (by omega) (lv_sub hl [4, 5, 0, 6, 7, 8, 9, 10, 11] rfl)
                · have z_b_602 := trivial
                  have k_603 : i11_527_z < i5_5_z := z_nle hz_i5_5 hz_i11_527 c_531
                  refine lv_iload X.1 X.2.1 dX12_mix_144 (lv_at hl 5 rfl) ?_
                  refine lv_iload X.1 X.2.1 dX12_mix_146 (lv_at hl 2 rfl) ?_
                  refine lv_ishr X.1 X.2.1 dX12_mix_148 ?_
                  refine lv_topi (fun v_604 ev_604 => ?_)
                  have rg_605 := And.intro (z_lo v_604) (z_hi v_604)
                  refine lv_iconst (v := 1) X.1 X.2.1 dX12_mix_149 (by decide) ?_
                  refine lv_iand X.1 X.2.1 dX12_mix_150 ?_
                  refine lv_topi (fun v_606 ev_606 => ?_)
                  have z_607 : 0 ≤ v_606.toInt ∧ v_606.toInt ≤ 1 := z_and1 ev_606
                  refine lv_if_ne (tgt := 157) X.1 X.2.1 dX12_mix_151 (by decide) (fun c_608 => ?_) (fun c_608 => ?_)
                  · have z_b_609 := trivial
                    have k_610 : v_606.toInt ≠ 0 := z_ne rfl ti_0 c_608
                    refine lv_iload X.1 X.2.1 dX12_mix_157 (lv_at hl 0 rfl) ?_
                    refine lv_aload_n X.1 X.2.1 dX12_mix_159 rfl (lv_at hl 7 rfl) ?_
                    obtain ⟨q_611, h_612, h_613, h_614⟩ := gQ_12_1259 hO_T_7.1 ha_x_L_8
                    refine r_getR (g := 1259) X hw ha_x_L_8 rfl 59 h_612 (by decide) rfl inn_X12_mix_12 (by decide) (X.2.2.2.1 (.fieldLink RX12 143 "SilkMillModel" "askedWeight" "[I") (by decide +kernel)) rfl (gv_1259 _ _) dX12_mix_160 ?_
                    refine lv_iload X.1 X.2.1 dX12_mix_163 (lv_at hl 2 rfl) ?_
                    refine r_iald X hw h_613 rfl (by rw [h_614]; exact z_ix hz_i11_527 (by omega) (by omega)) dX12_mix_165 ?_
                    refine lv_topi (fun v_615 ev_615 => ?_)
                    have rg_616 := And.intro (z_lo v_615) (z_hi v_615)
                    have ev_615 := ev_615.symm
                    refine lv_iadd X.1 X.2.1 dX12_mix_166 ?_
                    refine lv_topi (fun v_617 ev_617 => ?_)
                    have rg_618 := And.intro (z_lo v_617) (z_hi v_617)
                    refine lv_istore (lv' := [(9, .int (v_617)), (10, .int (i10_526)), (11, .int (i11_527)), (6, .int (i6_432)), (7, .int (i7_433)), (8, .int (i8_434)), (5, .int (i5_5)), (0, .ref x), (1, .int (a1)), (2, .int (a2)), (3, .int (a3)), (4, .int (a4))]) X.1 X.2.1 dX12_mix_167 hl (by decide) rfl (fun ls hl => ?_)
                    refine lv_iload X.1 X.2.1 dX12_mix_169 (lv_at hl 1 rfl) ?_
                    refine lv_aload_n X.1 X.2.1 dX12_mix_171 rfl (lv_at hl 7 rfl) ?_
                    obtain ⟨q_619, h_620, h_621, h_622⟩ := gQ_12_1260 hO_T_7.1 ha_x_L_8
                    refine r_getR (g := 1260) X hw ha_x_L_8 rfl 60 h_620 (by decide) rfl inn_X12_mix_12 (by decide) (X.2.2.2.1 (.fieldLink RX12 146 "SilkMillModel" "askedPrice" "[I") (by decide +kernel)) rfl (gv_1260 _ _) dX12_mix_172 ?_
                    refine lv_iload X.1 X.2.1 dX12_mix_175 (lv_at hl 2 rfl) ?_
                    refine r_iald X hw h_621 rfl (by rw [h_622]; exact z_ix hz_i11_527 (by omega) (by omega)) dX12_mix_177 ?_
                    refine lv_topi (fun v_623 ev_623 => ?_)
                    have rg_624 := And.intro (z_lo v_623) (z_hi v_623)
                    have ev_623 := ev_623.symm
                    refine lv_iadd X.1 X.2.1 dX12_mix_178 ?_
                    refine lv_topi (fun v_625 ev_625 => ?_)
                    have rg_626 := And.intro (z_lo v_625) (z_hi v_625)
                    refine lv_istore (lv' := [(10, .int (v_625)), (9, .int (v_617)), (11, .int (i11_527)), (6, .int (i6_432)), (7, .int (i7_433)), (8, .int (i8_434)), (5, .int (i5_5)), (0, .ref x), (1, .int (a1)), (2, .int (a2)), (3, .int (a3)), (4, .int (a4))]) X.1 X.2.1 dX12_mix_179 hl (by decide) rfl (fun ls hl => ?_)
                    obtain ⟨x_627, ex_627⟩ : ∃ y : Int32, y = i11_527 + 1 := ⟨_, rfl⟩
                    have z_628 : x_627.toInt = i11_527_z + 1 := z_add ex_627 hz_i11_527 ti_1 (by omega) (by omega)
                    refine lv_iinc (v := x_627) (lv' := [(11, .int (x_627)), (10, .int (v_625)), (9, .int (v_617)), (6, .int (i6_432)), (7, .int (i7_433)), (8, .int (i8_434)), (5, .int (i5_5)), (0, .ref x), (1, .int (a1)), (2, .int (a2)), (3, .int (a3)), (4, .int (a4))]) X.1 X.2.1 dX12_mix_181 hl (k := 2) rfl (by rw [ex_627]; rfl) (by decide) rfl (fun ls hl => ?_)
                    refine lv_goto (tgt := 137) X.1 X.2.1 dX12_mix_184 (by decide) ?_
                    exact ih_L_524 _ (by omega) _ _ _ (v_617) (v_617.toInt) (v_625) (v_625.toInt) (x_627) (x_627.toInt) rfl hw rfl rfl rfl (by omega) (lv_sub hl [2, 1, 0, 3, 4, 5, 6, 7, 8, 9, 10, 11] rfl)
                  · have z_b_629 := trivial
                    have k_630 : v_606.toInt = 0 := z_eq rfl ti_0 c_608
                    refine lv_goto (tgt := 181) X.1 X.2.1 dX12_mix_154 (by decide) ?_
                    obtain ⟨x_631, ex_631⟩ : ∃ y : Int32, y = i11_527 + 1 := ⟨_, rfl⟩
                    have z_632 : x_631.toInt = i11_527_z + 1 := z_add ex_631 hz_i11_527 ti_1 (by omega) (by omega)
                    refine lv_iinc (v := x_631) (lv' := [(11, .int (x_631)), (9, .int (i9_525)), (10, .int (i10_526)), (6, .int (i6_432)), (7, .int (i7_433)), (8, .int (i8_434)), (5, .int (i5_5)), (0, .ref x), (1, .int (a1)), (2, .int (a2)), (3, .int (a3)), (4, .int (a4))]) X.1 X.2.1 dX12_mix_181 hl (k := 2) rfl (by rw [ex_631]; rfl) (by decide) rfl (fun ls hl => ?_)
                    refine lv_goto (tgt := 137) X.1 X.2.1 dX12_mix_184 (by decide) ?_
                    exact ih_L_524 _ (by omega) _ _ _ (i9_525) (i9_525_z) (i10_526) (i10_526_z) (x_631) (x_631.toInt) rfl hw hz_i9_525 hz_i10_526 rfl (by omega) (lv_sub hl [1, 2, 0, 3, 4, 5, 6, 7, 8, 9, 10, 11] rfl)
              exact L_524 _ _ _ _ (0) (0) (0) (0) (0) (0) rfl hw ti_0 ti_0 ti_0 (by omega) (lv_sub hl [2, 1, 0, 3, 4, 5, 6, 7, 8, 9, 10, 11] rfl)
          exact L_431 _ _ _ _ (0) (0) ((-1)) ((-1)) (1) (1) rfl hw ti_0 ti_m1 ti_1 (by omega) (lv_sub hl [2, 1, 0, 3, 4, 5, 6, 7, 8] rfl)
        · have z_b_633 := trivial
          have k_634 : a1_z > 0 := z_nle hz_a1 ti_0 c_428
          refine lv_aload_n X.1 X.2.1 dX12_mix_31 rfl (lv_at hl 2 rfl) ?_
          obtain ⟨q_635, h_636, h_637, h_638⟩ := gQ_12_1244 hO_T_7.1 ha_x_L_8
          refine r_getR (g := 1244) X hw ha_x_L_8 rfl 44 h_636 (by decide) rfl inn_X12_mix_12 (by decide) (X.2.2.2.1 (.fieldLink RX12 115 "SilkMillModel" "isSold" "[Z") (by decide +kernel)) rfl (gv_1244 _ _) dX12_mix_32 ?_
          refine lv_iload X.1 X.2.1 dX12_mix_35 (lv_at hl 1 rfl) ?_
          refine r_zald X hw h_637 rfl (by rw [h_638]; exact z_ix hz_i6_6 (by omega) (by omega)) dX12_mix_37 ?_
          refine lv_topi (fun v_639 ev_639 => ?_)
          have rg_640 := And.intro (z_lo v_639) (z_hi v_639)
          have ev_639 := ev_639.symm
          refine lv_if_ne (tgt := 104) X.1 X.2.1 dX12_mix_38 (by decide) (fun c_641 => ?_) (fun c_641 => ?_)
          · have z_b_642 := trivial
            have k_643 : v_639.toInt ≠ 0 := z_ne rfl ti_0 c_641
            obtain ⟨x_644, ex_644⟩ : ∃ y : Int32, y = i6_6 + 1 := ⟨_, rfl⟩
            have z_645 : x_644.toInt = i6_6_z + 1 := z_add ex_644 hz_i6_6 ti_1 (by omega) (by omega)
            refine lv_iinc (v := x_644) (lv' := [(6, .int (x_644)), (5, .int (i5_5)), (0, .ref x), (1, .int (a1)), (2, .int (a2)), (3, .int (a3)), (4, .int (a4))]) X.1 X.2.1 dX12_mix_104 hl (k := 1) rfl (by rw [ex_644]; rfl) (by decide) rfl (fun ls hl => ?_)
            refine lv_goto (tgt := 11) X.1 X.2.1 dX12_mix_107 (by decide) ?_
            exact ih_L_4 _ (by omega) _ _ _ _ (i5_5) (i5_5_z) (x_644) (x_644.toInt) rfl hw hz_i5_5 (by omega) rfl (by omega) ha_x_L_8 hO_T_7 (lv_sub hl [1, 0, 2, 3, 4, 5, 6] rfl)
          · have z_b_646 := trivial
            have k_647 : v_639.toInt = 0 := z_eq rfl ti_0 c_641
            refine lv_aload_n X.1 X.2.1 dX12_mix_41 rfl (lv_at hl 2 rfl) ?_
            refine lv_iload X.1 X.2.1 dX12_mix_42 (lv_at hl 1 rfl) ?_
            refine lv_iconst (v := 0) X.1 X.2.1 dX12_mix_44 (by decide) ?_
            refine k_i (rm := { frames := 5, cells := 0, slots := 0, locals := 240 }) (av := [.ref x, .int (i6_6), .int 0]) X hw (va_runV (As := [.int (i6_6), .int 0]) (rest := []) (cfix X) (k_X12_least l G cy κ T_7 _ x (i6_6) (i6_6_z) (0) (0) hO_T_7.1 ha_x_L_8 hz_i6_6 ti_0 (by first | assumption | omega) (by first | assumption | omega) (by first | assumption | omega) (MIe_free hG ha_x hO_T_7.fr (by decide +kernel) hp_0)) (cwV 2 X.2.2.2.1 gX12_mix_X12_least rfl rfl rfl (by decide +kernel) ⟨Nat.le_of_ble_eq_true rfl, Nat.le_of_ble_eq_true rfl⟩) (pre_V X hw _ ha_x_L_8 rfl (by decide) rfl) rfl rfl hl.1 rfl (lv_room (Nat.le_of_ble_eq_true rfl)) dX12_mix_45 ⟨Nat.le_of_ble_eq_true rfl, Nat.le_of_ble_eq_true rfl⟩) 0 0 (Nat.le_of_ble_eq_true rfl) (Nat.le_of_ble_eq_true rfl) (fun rr_648 S_649 H locs hp hw hfr hnw => ?_)
            obtain ⟨e2, hp⟩ := hp
            subst e2
            have rg_650 := And.intro (z_lo rr_648) (z_hi rr_648)
            refine lv_iload_n X.1 X.2.1 dX12_mix_48 rfl (lv_at hl 4 rfl) ?_
            refine lv_icmp_lt (tgt := 104) X.1 X.2.1 dX12_mix_49 (by decide) (fun c_651 => ?_) (fun c_651 => ?_)
            · have z_b_652 := trivial
              have k_653 : rr_648.toInt < a2_z := z_lt rfl hz_a2 c_651
              obtain ⟨x_654, ex_654⟩ : ∃ y : Int32, y = i6_6 + 1 := ⟨_, rfl⟩
              have z_655 : x_654.toInt = i6_6_z + 1 := z_add ex_654 hz_i6_6 ti_1 (by omega) (by omega)
              refine lv_iinc (v := x_654) (lv' := [(6, .int (x_654)), (5, .int (i5_5)), (0, .ref x), (1, .int (a1)), (2, .int (a2)), (3, .int (a3)), (4, .int (a4))]) X.1 X.2.1 dX12_mix_104 hl (k := 1) rfl (by rw [ex_654]; rfl) (by decide) rfl (fun ls hl => ?_)
              refine lv_goto (tgt := 11) X.1 X.2.1 dX12_mix_107 (by decide) ?_
              exact ih_L_4 _ (by omega) _ _ _ _ (i5_5) (i5_5_z) (x_654) (x_654.toInt) rfl hw hz_i5_5 (by omega) rfl (by omega) ha_x_L_8 hO_T_7 (lv_sub hl [1, 0, 2, 3, 4, 5, 6] rfl)
            · have z_b_656 := trivial
              have k_657 : rr_648.toInt ≥ a2_z := z_nlt rfl hz_a2 c_651
              refine lv_aload_n X.1 X.2.1 dX12_mix_52 rfl (lv_at hl 2 rfl) ?_
              refine lv_iload X.1 X.2.1 dX12_mix_53 (lv_at hl 1 rfl) ?_
              refine lv_iconst (v := 1) X.1 X.2.1 dX12_mix_55 (by decide) ?_
              refine k_i (rm := { frames := 5, cells := 0, slots := 0, locals := 240 }) (av := [.ref x, .int (i6_6), .int 1]) X hw (va_runV (As := [.int (i6_6), .int 1]) (rest := []) (cfix X) (k_X12_least l G cy κ T_7 _ x (i6_6) (i6_6_z) (1) (1) hO_T_7.1 ha_x_L_8 hz_i6_6 ti_1 (by first | assumption | omega) (by first | assumption | omega) (by first | assumption | omega) (MIe_free hG ha_x hO_T_7.fr (by decide +kernel) hp_0)) (cwV 2 X.2.2.2.1 gX12_mix_X12_least rfl rfl rfl (by decide +kernel) ⟨Nat.le_of_ble_eq_true rfl, Nat.le_of_ble_eq_true rfl⟩) (pre_V X hw _ ha_x_L_8 rfl (by decide) rfl) rfl rfl hl.1 rfl (lv_room (Nat.le_of_ble_eq_true rfl)) dX12_mix_56 ⟨Nat.le_of_ble_eq_true rfl, Nat.le_of_ble_eq_true rfl⟩) 0 0 (Nat.le_of_ble_eq_true rfl) (Nat.le_of_ble_eq_true rfl) (fun rr_658 S_659 H locs hp hw hfr hnw => ?_)
              obtain ⟨e2, hp⟩ := hp
              subst e2
              have rg_660 := And.intro (z_lo rr_658) (z_hi rr_658)
              refine lv_iload_n X.1 X.2.1 dX12_mix_59 rfl (lv_at hl 5 rfl) ?_
              refine lv_icmp_le (tgt := 66) X.1 X.2.1 dX12_mix_60 (by decide) (fun c_661 => ?_) (fun c_661 => ?_)
              · have z_b_662 := trivial
                have k_663 : rr_658.toInt ≤ a3_z := z_le rfl hz_a3 c_661
                refine lv_aload_n X.1 X.2.1 dX12_mix_66 rfl (lv_at hl 2 rfl) ?_
                obtain ⟨q_664, h_665, h_666, h_667⟩ := gQ_12_1258 hO_T_7.1 ha_x_L_8
                refine r_getR (g := 1258) X hw ha_x_L_8 rfl 58 h_665 (by decide) rfl inn_X12_mix_12 (by decide) (X.2.2.2.1 (.fieldLink RX12 140 "SilkMillModel" "asked" "[I") (by decide +kernel)) rfl (gv_1258 _ _) dX12_mix_67 ?_
                refine lv_iload X.1 X.2.1 dX12_mix_70 (lv_at hl 0 rfl) ?_
                refine lv_iload X.1 X.2.1 dX12_mix_72 (lv_at hl 1 rfl) ?_
                refine r_iast X hw h_666 rfl (by rw [h_667]; exact z_ix hz_i5_5 (by omega) (by omega)) dX12_mix_74 (fun H locs hw => ?_)
                obtain ⟨S_668, eS_668⟩ : ∃ T, T = sA T_7 q_664 (upd (pA T_7 q_664) (Int32.toNatClampNeg (i5_5)) (i6_6)) := ⟨_, rfl⟩
                rw [← eS_668] at hw
                have hO_669 : Ok MN S S_668 := hO_T_7.sA eS_668 h_666 (by decide +kernel) (uA_1374 hO_T_7.1 h_666 (by omega) (by omega))
                have h_670 : pA S_668 q_664 (Int32.toNatClampNeg (i5_5)) = i6_6 := tA_sAs eS_668
                refine lv_aload_n X.1 X.2.1 dX12_mix_75 rfl (lv_at hl 2 rfl) ?_
                have t_671 : At S_668 x 12 := tAt_sA eS_668 ha_x_L_8
                obtain ⟨q_672, h_673, h_674, h_675⟩ := gQ_12_1259 hO_669.1 t_671
                refine r_getR (g := 1259) X hw t_671 rfl 59 h_673 (by decide) rfl inn_X12_mix_12 (by decide) (X.2.2.2.1 (.fieldLink RX12 143 "SilkMillModel" "askedWeight" "[I") (by decide +kernel)) rfl (gv_1259 _ _) dX12_mix_76 ?_
                refine lv_iload X.1 X.2.1 dX12_mix_79 (lv_at hl 0 rfl) ?_
                refine lv_aload_n X.1 X.2.1 dX12_mix_81 rfl (lv_at hl 2 rfl) ?_
                refine lv_iload X.1 X.2.1 dX12_mix_82 (lv_at hl 1 rfl) ?_
                refine k_i (rm := { frames := 6, cells := 0, slots := 0, locals := 288 }) (av := [.ref x, .int (i6_6)]) X hw (va_runV (As := [.int (i6_6)]) (rest := [.int (i5_5), .ref q_672]) (cfix X) (k_X12_weightOf l G cy κ S_668 _ x (i6_6) (i6_6_z) hO_669.1 t_671 hz_i6_6 (by first | assumption | omega) (by first | assumption | omega) (by first | assumption | omega) (MIe_free hG ha_x hO_669.fr (by decide +kernel) hp_0)) (cwV 1 X.2.2.2.1 gX12_mix_X12_weightOf rfl rfl rfl (by decide +kernel) ⟨Nat.le_of_ble_eq_true rfl, Nat.le_of_ble_eq_true rfl⟩) (pre_V X hw _ t_671 rfl (by decide) rfl) rfl rfl hl.1 rfl (lv_room (Nat.le_of_ble_eq_true rfl)) dX12_mix_84 ⟨Nat.le_of_ble_eq_true rfl, Nat.le_of_ble_eq_true rfl⟩) 0 0 (Nat.le_of_ble_eq_true rfl) (Nat.le_of_ble_eq_true rfl) (fun rr_676 S_677 H locs hp hw hfr hnw => ?_)
                obtain ⟨e2, hp⟩ := hp
                subst e2
                have rg_678 := And.intro (z_lo rr_676) (z_hi rr_676)
                refine r_iast X hw h_674 rfl (by rw [h_675]; exact z_ix hz_i5_5 (by omega) (by omega)) dX12_mix_87 (fun H locs hw => ?_)
                obtain ⟨S_679, eS_679⟩ : ∃ T, T = sA S_668 q_672 (upd (pA S_668 q_672) (Int32.toNatClampNeg (i5_5)) (rr_676)) := ⟨_, rfl⟩
                rw [← eS_679] at hw
                have hO_680 : Ok MN S S_679 := hO_669.sA eS_679 h_674 (by decide +kernel) (uA_1394 hO_669.1 h_674)
                have h_681 : pA S_679 q_672 (Int32.toNatClampNeg (i5_5)) = rr_676 := tA_sAs eS_679
                refine lv_aload_n X.1 X.2.1 dX12_mix_88 rfl (lv_at hl 2 rfl) ?_
                have t_682 : At S_679 x 12 := tAt_sA eS_679 t_671
                obtain ⟨q_683, h_684, h_685, h_686⟩ := gQ_12_1260 hO_680.1 t_682
                refine r_getR (g := 1260) X hw t_682 rfl 60 h_684 (by decide) rfl inn_X12_mix_12 (by decide) (X.2.2.2.1 (.fieldLink RX12 146 "SilkMillModel" "askedPrice" "[I") (by decide +kernel)) rfl (gv_1260 _ _) dX12_mix_89 ?_
                refine lv_iload X.1 X.2.1 dX12_mix_92 (lv_at hl 0 rfl) ?_
                refine lv_aload_n X.1 X.2.1 dX12_mix_94 rfl (lv_at hl 2 rfl) ?_
                refine lv_iload X.1 X.2.1 dX12_mix_95 (lv_at hl 1 rfl) ?_
                refine k_i (rm := { frames := 7, cells := 0, slots := 0, locals := 336 }) (av := [.ref x, .int (i6_6)]) X hw (va_runV (As := [.int (i6_6)]) (rest := [.int (i5_5), .ref q_683]) (cfix X) (k_X12_priceOf l G cy κ S_679 _ x (i6_6) (i6_6_z) hO_680.1 t_682 hz_i6_6 (by first | assumption | omega) (by first | assumption | omega) (by first | assumption | omega) (MIe_free hG ha_x hO_680.fr (by decide +kernel) hp_0)) (cwV 1 X.2.2.2.1 gX12_mix_X12_priceOf rfl rfl rfl (by decide +kernel) ⟨Nat.le_of_ble_eq_true rfl, Nat.le_of_ble_eq_true rfl⟩) (pre_V X hw _ t_682 rfl (by decide) rfl) rfl rfl hl.1 rfl (lv_room (Nat.le_of_ble_eq_true rfl)) dX12_mix_97 ⟨Nat.le_of_ble_eq_true rfl, Nat.le_of_ble_eq_true rfl⟩) 0 0 (Nat.le_of_ble_eq_true rfl) (Nat.le_of_ble_eq_true rfl) (fun rr_687 S_688 H locs hp hw hfr hnw => ?_)
                obtain ⟨e2, hp⟩ := hp
                subst e2
                have rg_689 := And.intro (z_lo rr_687) (z_hi rr_687)
                refine r_iast X hw h_685 rfl (by rw [h_686]; exact z_ix hz_i5_5 (by omega) (by omega)) dX12_mix_100 (fun H locs hw => ?_)
                obtain ⟨S_690, eS_690⟩ : ∃ T, T = sA S_679 q_683 (upd (pA S_679 q_683) (Int32.toNatClampNeg (i5_5)) (rr_687)) := ⟨_, rfl⟩
                rw [← eS_690] at hw
                have hO_691 : Ok MN S S_690 := hO_680.sA eS_690 h_685 (by decide +kernel) (uA_1414 hO_680.1 h_685)
                have h_692 : pA S_690 q_683 (Int32.toNatClampNeg (i5_5)) = rr_687 := tA_sAs eS_690
                obtain ⟨x_693, ex_693⟩ : ∃ y : Int32, y = i5_5 + 1 := ⟨_, rfl⟩
                have z_694 : x_693.toInt = i5_5_z + 1 := z_add ex_693 hz_i5_5 ti_1 (by omega) (by omega)
                refine lv_iinc (v := x_693) (lv' := [(5, .int (x_693)), (6, .int (i6_6)), (0, .ref x), (1, .int (a1)), (2, .int (a2)), (3, .int (a3)), (4, .int (a4))]) X.1 X.2.1 dX12_mix_101 hl (k := 0) rfl (by rw [ex_693]; rfl) (by decide) rfl (fun ls hl => ?_)
                obtain ⟨x_695, ex_695⟩ : ∃ y : Int32, y = i6_6 + 1 := ⟨_, rfl⟩
                have z_696 : x_695.toInt = i6_6_z + 1 := z_add ex_695 hz_i6_6 ti_1 (by omega) (by omega)
                refine lv_iinc (v := x_695) (lv' := [(6, .int (x_695)), (5, .int (x_693)), (0, .ref x), (1, .int (a1)), (2, .int (a2)), (3, .int (a3)), (4, .int (a4))]) X.1 X.2.1 dX12_mix_104 hl (k := 1) rfl (by rw [ex_695]; rfl) (by decide) rfl (fun ls hl => ?_)
                refine lv_goto (tgt := 11) X.1 X.2.1 dX12_mix_107 (by decide) ?_
                have t_697 : At S_690 x 12 := tAt_sA eS_690 t_682
                exact ih_L_4 _ (by omega) _ _ _ _ (x_693) (x_693.toInt) (x_695) (x_695.toInt) rfl hw rfl (by omega) rfl (by omega) t_697 hO_691 (lv_sub hl [1, 0, 2, 3, 4, 5, 6] rfl)
              · have z_b_698 := trivial
                have k_699 : rr_658.toInt > a3_z := z_nle rfl hz_a3 c_661
                refine lv_goto (tgt := 104) X.1 X.2.1 dX12_mix_63 (by decide) ?_
                obtain ⟨x_700, ex_700⟩ : ∃ y : Int32, y = i6_6 + 1 := ⟨_, rfl⟩
                have z_701 : x_700.toInt = i6_6_z + 1 := z_add ex_700 hz_i6_6 ti_1 (by omega) (by omega)
                refine lv_iinc (v := x_700) (lv' := [(6, .int (x_700)), (5, .int (i5_5)), (0, .ref x), (1, .int (a1)), (2, .int (a2)), (3, .int (a3)), (4, .int (a4))]) X.1 X.2.1 dX12_mix_104 hl (k := 1) rfl (by rw [ex_700]; rfl) (by decide) rfl (fun ls hl => ?_)
                refine lv_goto (tgt := 11) X.1 X.2.1 dX12_mix_107 (by decide) ?_
                exact ih_L_4 _ (by omega) _ _ _ _ (i5_5) (i5_5_z) (x_700) (x_700.toInt) rfl hw hz_i5_5 (by omega) rfl (by omega) ha_x_L_8 hO_T_7 (lv_sub hl [1, 0, 2, 3, 4, 5, 6] rfl)
  have t_702 : At S_1 x 12 := tAt_sI eS_1 ha_x
  exact L_4 _ _ _ _ _ (0) (0) (0) (0) rfl hw ti_0 (by omega) ti_0 (by omega) t_702 hO_2 (lv_sub hl [1, 0, 2, 3, 4, 5, 6] rfl)
set_option maxHeartbeats 4000000 in
set_option maxRecDepth 100000 in
theorem k_X12_count (l : Launch) (G : va_G) (cy : Nat → ClassId) (κ : Nat → Nat) (S : PS) (sz : Nat) (x : Nat) (a1 : Int32) (a1_z : Int) (hG : GX S) (ha_x : At S x 12) (hz_a1 : a1.toInt = a1_z) (hp_0 : MI S x) : Ci l yX12_count wsX12_count ({ frames := 6, cells := 0, slots := 0, locals := 288 }) G cy κ S sz [.ref x, .int (a1)] (fun (r : Int32) (S9 : PS) => Ok MN S S9 ∧ (True)) := by
  refine ent_m (cc := cX12_count) (maxL := 4) (ret := (some .int)) (by decide) rfl (Nat.le_of_ble_eq_true rfl) ?_
  intro p e s m below meth c ls X hr hlocks hin hw hl hsz
  subst hsz
  have X : Cx p c cX12_count 4 s [.ref x, .int (a1)].toArray wsX12_count RX12 m G cy κ (AS S s.heap.size) := X
  have hl : lv_has ls 4 [(0, .ref x), (1, .int (a1))] := hl
  have rg_a1 : (-2147483648) ≤ a1_z ∧ a1_z ≤ 2147483647 := by rw [← hz_a1]; exact ⟨z_lo _, z_hi _⟩
  have hO : Ok MN S S := Ok.rf hG
  generalize hQQ : MQ below _ _ _ _ _ _ = QQ
  replace hQQ := hQQ.symm
  refine lv_aload_n X.1 X.2.1 dX12_count_0 rfl (lv_at hl 0 rfl) ?_
  refine lv_iconst (v := 0) X.1 X.2.1 dX12_count_1 (by decide) ?_
  refine r_putI (v := 0) X hw ha_x rfl 0 1200 tyX12 (by decide) rfl inn_X12_count_12 tyX12_ok nmX12 (by decide) (X.2.2.2.1 (.fieldLink RX12 161 "SilkMillModel" "thrown" "I") (by decide +kernel)) rfl (Or.inl rfl) rfl rfl (Nat.le_of_ble_eq_true rfl) (st_1200 _ _) dX12_count_2 (fun H locs hw => ?_)
  obtain ⟨S_1, eS_1⟩ : ∃ T, T = sI S 1200 x (0) := ⟨_, rfl⟩
  rw [← eS_1] at hw
  have hO_2 : Ok MN S S_1 := hO.sI eS_1 (by decide +kernel) (uI_12_1200 hO.1 ha_x)
  have h_3 : pI S_1 1200 x = 0 := tI_sIs eS_1
  refine lv_iconst (v := 0) X.1 X.2.1 dX12_count_5 (by decide) ?_
  refine lv_istore_n (lv' := [(2, .int 0), (0, .ref x), (1, .int (a1))]) X.1 X.2.1 dX12_count_6 rfl hl (by decide) rfl (fun ls hl => ?_)
  refine lv_iload_n X.1 X.2.1 dX12_count_7 rfl (lv_at hl 2 rfl) ?_
  by_cases w_4 : (a1).toInt < 0 ∨ 11 < (a1).toInt
  · refine lv_tableOut (tgt := 310) X.1 X.2.1 dX12_count_8 w_4 (by decide) ?_
    refine lv_iconst (v := (-1)) X.1 X.2.1 dX12_count_310 (by decide) ?_
    rw [hQQ]
    exact ret_i X hw hr hlocks (Nat.le_of_ble_eq_true rfl) (Nat.le_of_ble_eq_true rfl) ⟨hO_2, trivial⟩ dX12_count_311
  have w_4b : (a1).toInt = 0 ∨ (a1).toInt = 1 ∨ (a1).toInt = 2 ∨ (a1).toInt = 3 ∨ (a1).toInt = 4 ∨ (a1).toInt = 5 ∨ (a1).toInt = 6 ∨ (a1).toInt = 7 ∨ (a1).toInt = 8 ∨ (a1).toInt = 9 ∨ (a1).toInt = 10 ∨ (a1).toInt = 11 := by omega
  rcases w_4b with w_4c | w_4c | w_4c | w_4c | w_4c | w_4c | w_4c | w_4c | w_4c | w_4c | w_4c | w_4c
  · refine lv_tableIn (tgt := 72) X.1 X.2.1 dX12_count_8 (by omega) (by omega) (by rw [w_4c]; rfl) (by decide) ?_
    refine lv_aload_n X.1 X.2.1 dX12_count_72 rfl (lv_at hl 1 rfl) ?_
    have t_5 : At S_1 x 12 := tAt_sI eS_1 ha_x
    obtain ⟨v_6, ev_6⟩ : ∃ v, pI S_1 1201 x = v := ⟨_, rfl⟩
    have rg_7 := gI_12_1201 hO_2.1 t_5; rw [ev_6] at rg_7
    have pz_8 : (pI S_1 1201 x).toInt = v_6.toInt := by rw [ev_6]
    refine r_getI (g := 1201) (x := v_6) X hw t_5 rfl 1 ev_6 (by decide) rfl inn_X12_count_12 (by decide) (X.2.2.2.1 (.fieldLink RX12 165 "SilkMillModel" "lots" "I") (by decide +kernel)) rfl (gv_1201 _ _) dX12_count_73 ?_
    rw [hQQ]
    exact ret_i X hw hr hlocks (Nat.le_of_ble_eq_true rfl) (Nat.le_of_ble_eq_true rfl) ⟨hO_2, trivial⟩ dX12_count_76
  · refine lv_tableIn (tgt := 77) X.1 X.2.1 dX12_count_8 (by omega) (by omega) (by rw [w_4c]; rfl) (by decide) ?_
    refine lv_aload_n X.1 X.2.1 dX12_count_77 rfl (lv_at hl 1 rfl) ?_
    have t_9 : At S_1 x 12 := tAt_sI eS_1 ha_x
    obtain ⟨v_10, ev_10⟩ : ∃ v, pI S_1 1211 x = v := ⟨_, rfl⟩
    have rg_11 := gI_12_1211 hO_2.1 t_9; rw [ev_10] at rg_11
    have pz_12 : (pI S_1 1211 x).toInt = v_10.toInt := by rw [ev_10]
    refine r_getI (g := 1211) (x := v_10) X hw t_9 rfl 11 ev_10 (by decide) rfl inn_X12_count_12 (by decide) (X.2.2.2.1 (.fieldLink RX12 197 "SilkMillModel" "pots" "I") (by decide +kernel)) rfl (gv_1211 _ _) dX12_count_78 ?_
    rw [hQQ]
    exact ret_i X hw hr hlocks (Nat.le_of_ble_eq_true rfl) (Nat.le_of_ble_eq_true rfl) ⟨hO_2, trivial⟩ dX12_count_81
  · refine lv_tableIn (tgt := 82) X.1 X.2.1 dX12_count_8 (by omega) (by omega) (by rw [w_4c]; rfl) (by decide) ?_
    refine lv_aload_n X.1 X.2.1 dX12_count_82 rfl (lv_at hl 1 rfl) ?_
    have t_13 : At S_1 x 12 := tAt_sI eS_1 ha_x
    obtain ⟨v_14, ev_14⟩ : ∃ v, pI S_1 1238 x = v := ⟨_, rfl⟩
    have rg_15 := gI_12_1238 hO_2.1 t_13; rw [ev_14] at rg_15
    have pz_16 : (pI S_1 1238 x).toInt = v_14.toInt := by rw [ev_14]
    refine r_getI (g := 1238) (x := v_14) X hw t_13 rfl 38 ev_14 (by decide) rfl inn_X12_count_12 (by decide) (X.2.2.2.1 (.fieldLink RX12 290 "SilkMillModel" "skeins" "I") (by decide +kernel)) rfl (gv_1238 _ _) dX12_count_83 ?_
    rw [hQQ]
    exact ret_i X hw hr hlocks (Nat.le_of_ble_eq_true rfl) (Nat.le_of_ble_eq_true rfl) ⟨hO_2, trivial⟩ dX12_count_86
  · refine lv_tableIn (tgt := 87) X.1 X.2.1 dX12_count_8 (by omega) (by omega) (by rw [w_4c]; rfl) (by decide) ?_
    refine lv_aload_n X.1 X.2.1 dX12_count_87 rfl (lv_at hl 1 rfl) ?_
    have t_17 : At S_1 x 12 := tAt_sI eS_1 ha_x
    obtain ⟨v_18, ev_18⟩ : ∃ v, pI S_1 1245 x = v := ⟨_, rfl⟩
    have rg_20 := And.intro (z_lo v_18) (z_hi v_18)
    have pz_21 : (pI S_1 1245 x).toInt = v_18.toInt := by rw [ev_18]
    refine r_getI (g := 1245) (x := v_18) X hw t_17 rfl 45 ev_18 (by decide) rfl inn_X12_count_12 (by decide) (X.2.2.2.1 (.fieldLink RX12 302 "SilkMillModel" "today" "I") (by decide +kernel)) rfl (gv_1245 _ _) dX12_count_88 ?_
    rw [hQQ]
    exact ret_i X hw hr hlocks (Nat.le_of_ble_eq_true rfl) (Nat.le_of_ble_eq_true rfl) ⟨hO_2, trivial⟩ dX12_count_91
  · refine lv_tableIn (tgt := 92) X.1 X.2.1 dX12_count_8 (by omega) (by omega) (by rw [w_4c]; rfl) (by decide) ?_
    refine lv_aload_n X.1 X.2.1 dX12_count_92 rfl (lv_at hl 1 rfl) ?_
    have t_22 : At S_1 x 12 := tAt_sI eS_1 ha_x
    obtain ⟨v_23, ev_23⟩ : ∃ v, pI S_1 1228 x = v := ⟨_, rfl⟩
    have rg_24 := gI_12_1228 hO_2.1 t_22; rw [ev_23] at rg_24
    have pz_25 : (pI S_1 1228 x).toInt = v_23.toInt := by rw [ev_23]
    refine r_getI (g := 1228) (x := v_23) X hw t_22 rfl 28 ev_23 (by decide) rfl inn_X12_count_12 (by decide) (X.2.2.2.1 (.fieldLink RX12 211 "SilkMillModel" "taped" "I") (by decide +kernel)) rfl (gv_1228 _ _) dX12_count_93 ?_
    rw [hQQ]
    exact ret_i X hw hr hlocks (Nat.le_of_ble_eq_true rfl) (Nat.le_of_ble_eq_true rfl) ⟨hO_2, trivial⟩ dX12_count_96
  · refine lv_tableIn (tgt := 97) X.1 X.2.1 dX12_count_8 (by omega) (by omega) (by rw [w_4c]; rfl) (by decide) ?_
    refine lv_aload_n X.1 X.2.1 dX12_count_97 rfl (lv_at hl 1 rfl) ?_
    have t_26 : At S_1 x 12 := tAt_sI eS_1 ha_x
    obtain ⟨v_27, ev_27⟩ : ∃ v, pI S_1 1262 x = v := ⟨_, rfl⟩
    have rg_28 := gI_12_1262 hO_2.1 t_26; rw [ev_27] at rg_28
    have pz_29 : (pI S_1 1262 x).toInt = v_27.toInt := by rw [ev_27]
    refine r_getI (g := 1262) (x := v_27) X hw t_26 rfl 62 ev_27 (by decide) rfl inn_X12_count_12 (by decide) (X.2.2.2.1 (.fieldLink RX12 403 "SilkMillModel" "faults" "I") (by decide +kernel)) rfl (gv_1262 _ _) dX12_count_98 ?_
    rw [hQQ]
    exact ret_i X hw hr hlocks (Nat.le_of_ble_eq_true rfl) (Nat.le_of_ble_eq_true rfl) ⟨hO_2, trivial⟩ dX12_count_101
  · refine lv_tableIn (tgt := 102) X.1 X.2.1 dX12_count_8 (by omega) (by omega) (by rw [w_4c]; rfl) (by decide) ?_
    refine lv_iconst (v := 0) X.1 X.2.1 dX12_count_102 (by decide) ?_
    refine lv_istore_n (lv' := [(3, .int 0), (2, .int 0), (0, .ref x), (1, .int (a1))]) X.1 X.2.1 dX12_count_103 rfl hl (by decide) rfl (fun ls hl => ?_)
    have L_30 : ∀ (n : Nat) (H : Heap) (locs : List Loc) (ls : Array Slot) (i2_31 : Int32) (i2_31_z : Int) (i3_32 : Int32) (i3_32_z : Int), ((600 - i3_32_z).toNat = n) → (Wd G cy (AS S s.heap.size) s.heap S_1 H locs) → (i2_31.toInt = i2_31_z) → (i3_32.toInt = i3_32_z) → (0 ≤ i3_32_z ∧ i3_32_z ≤ 600) → (lv_has ls 4 [(2, .int (i2_31)), (3, .int (i3_32)), (0, .ref x), (1, .int (a1))]) → W p l e ({ frames := 6, cells := 0, slots := 0, locals := 288 }) s m [.ref x, .int (a1)].toArray below meth c H locs 0 0 QQ (F0 m 104 ls []) := by
      intro n
      induction n using Nat.strongRecOn with
      | ind n ih_L_30 =>
      intro H locs ls i2_31 i2_31_z i3_32 i3_32_z hn hw hz_i2_31 hz_i3_32 hr_i3_32 hl
      have rg_33 : (-2147483648) ≤ i2_31_z ∧ i2_31_z ≤ 2147483647 := by rw [← hz_i2_31]; exact ⟨z_lo _, z_hi _⟩
      have rg_34 : (-2147483648) ≤ i3_32_z ∧ i3_32_z ≤ 2147483647 := by rw [← hz_i3_32]; exact ⟨z_lo _, z_hi _⟩
      refine lv_iload_n X.1 X.2.1 dX12_count_104 rfl (lv_at hl 1 rfl) ?_
      refine lv_bipush (v := 60) X.1 X.2.1 dX12_count_105 (by decide) ?_
      refine lv_aload_n X.1 X.2.1 dX12_count_107 rfl (lv_at hl 2 rfl) ?_
      have t_35 : At S_1 x 12 := tAt_sI eS_1 ha_x
      obtain ⟨v_36, ev_36⟩ : ∃ v, pI S_1 1201 x = v := ⟨_, rfl⟩
      have rg_37 := gI_12_1201 hO_2.1 t_35; rw [ev_36] at rg_37
      have pz_38 : (pI S_1 1201 x).toInt = v_36.toInt := by rw [ev_36]
      refine r_getI (g := 1201) (x := v_36) X hw t_35 rfl 1 ev_36 (by decide) rfl inn_X12_count_12 (by decide) (X.2.2.2.1 (.fieldLink RX12 165 "SilkMillModel" "lots" "I") (by decide +kernel)) rfl (gv_1201 _ _) dX12_count_108 ?_
      refine lv_imul X.1 X.2.1 dX12_count_111 ?_
      refine lv_topi (fun v_39 ev_39 => ?_)
      have z_40 : v_39.toInt = 60 * v_36.toInt := z_mul ev_39 ti_60 rfl (by omega) (by omega)
      refine lv_icmp_ge (tgt := 152) X.1 X.2.1 dX12_count_112 (by decide) (fun c_41 => ?_) (fun c_41 => ?_)
      · have z_b_42 := trivial
        have k_43 : i3_32_z ≥ (60 * v_36.toInt) := z_le z_40 hz_i3_32 c_41
        refine lv_iload_n X.1 X.2.1 dX12_count_152 rfl (lv_at hl 0 rfl) ?_
        rw [hQQ]
        exact ret_i X hw hr hlocks (Nat.le_of_ble_eq_true rfl) (Nat.le_of_ble_eq_true rfl) ⟨hO_2, trivial⟩ dX12_count_153
      · have z_b_44 := trivial
        have k_45 : i3_32_z < (60 * v_36.toInt) := z_nle z_40 hz_i3_32 c_41
        refine lv_iload_n X.1 X.2.1 dX12_count_115 rfl (lv_at hl 1 rfl) ?_
        refine lv_bipush (v := 60) X.1 X.2.1 dX12_count_116 (by decide) ?_
        refine lv_irem X.1 X.2.1 dX12_count_118 (by decide) ?_
        refine lv_topi (fun v_46 ev_46 => ?_)
        have z_47 : v_46.toInt = i3_32_z % 60 := z_rem ev_46 hz_i3_32 ti_60 (by omega) (by omega)
        have z_48 : 0 ≤ v_46.toInt ∧ v_46.toInt < 60 := by rw [z_47]; exact ⟨Int.emod_nonneg _ (by omega), Int.emod_lt_of_pos _ (by omega)⟩
        refine lv_aload_n X.1 X.2.1 dX12_count_119 rfl (lv_at hl 2 rfl) ?_
        obtain ⟨q_49, h_50, h_51, h_52⟩ := gQ_12_1202 hO_2.1 t_35
        refine r_getR (g := 1202) X hw t_35 rfl 2 h_50 (by decide) rfl inn_X12_count_12 (by decide) (X.2.2.2.1 (.fieldLink RX12 7 "SilkMillModel" "lotMany" "[I") (by decide +kernel)) rfl (gv_1202 _ _) dX12_count_120 ?_
        refine lv_iload_n X.1 X.2.1 dX12_count_123 rfl (lv_at hl 1 rfl) ?_
        refine lv_bipush (v := 60) X.1 X.2.1 dX12_count_124 (by decide) ?_
        refine lv_idiv X.1 X.2.1 dX12_count_126 (by decide) ?_
        refine lv_topi (fun v_53 ev_53 => ?_)
        have z_54 : v_53.toInt = i3_32_z / 60 := z_div ev_53 hz_i3_32 ti_60 (by omega) (by omega)
        refine r_iald X hw h_51 rfl (by rw [h_52]; exact z_ix z_54 (by omega) (by omega)) dX12_count_127 ?_
        refine lv_topi (fun v_55 ev_55 => ?_)
        have z_56 := gE_254 hO_2.1 h_51 (Int32.toNatClampNeg (v_53)); rw [← ev_55] at z_56
        have ev_55 := ev_55.symm
        refine lv_icmp_ge (tgt := 146) X.1 X.2.1 dX12_count_128 (by decide) (fun c_57 => ?_) (fun c_57 => ?_)
        · have z_b_58 := trivial
          have k_59 : (i3_32_z % 60) ≥ v_55.toInt := z_le rfl z_47 c_57
          obtain ⟨x_60, ex_60⟩ : ∃ y : Int32, y = i3_32 + 1 := ⟨_, rfl⟩
          have z_61 : x_60.toInt = i3_32_z + 1 := z_add ex_60 hz_i3_32 ti_1 (by omega) (by omega)
          refine lv_iinc (v := x_60) (lv' := [(3, .int (x_60)), (2, .int (i2_31)), (0, .ref x), (1, .int (a1))]) X.1 X.2.1 dX12_count_146 hl (k := 1) rfl (by rw [ex_60]; rfl) (by decide) rfl (fun ls hl => ?_)
          refine lv_goto (tgt := 104) X.1 X.2.1 dX12_count_149 (by decide) ?_
          exact ih_L_30 _ (by omega) _ _ _ (i2_31) (i2_31_z) (x_60) (x_60.toInt) rfl hw hz_i2_31 rfl (by omega) (lv_sub hl [1, 0, 2, 3] rfl)
        · have z_b_62 := trivial
          have k_63 : (i3_32_z % 60) < v_55.toInt := z_nle rfl z_47 c_57
          refine lv_iload_n X.1 X.2.1 dX12_count_131 rfl (lv_at hl 0 rfl) ?_
          refine lv_aload_n X.1 X.2.1 dX12_count_132 rfl (lv_at hl 2 rfl) ?_
          refine lv_iload_n X.1 X.2.1 dX12_count_133 rfl (lv_at hl 1 rfl) ?_
          refine lv_iconst (v := 0) X.1 X.2.1 dX12_count_134 (by decide) ?_
          refine lv_aload_n X.1 X.2.1 dX12_count_135 rfl (lv_at hl 2 rfl) ?_
          obtain ⟨q_64, h_65, h_66, h_67⟩ := gQ_12_1208 hO_2.1 t_35
          refine r_getR (g := 1208) X hw t_35 rfl 8 h_65 (by decide) rfl inn_X12_count_12 (by decide) (X.2.2.2.1 (.fieldLink RX12 28 "SilkMillModel" "place" "[I") (by decide +kernel)) rfl (gv_1208 _ _) dX12_count_136 ?_
          refine lv_iload_n X.1 X.2.1 dX12_count_139 rfl (lv_at hl 1 rfl) ?_
          refine r_iald X hw h_66 rfl (by rw [h_67]; exact z_ix hz_i3_32 (by omega) (by omega)) dX12_count_140 ?_
          refine lv_topi (fun v_68 ev_68 => ?_)
          have z_69 := gE_374 hO_2.1 h_66 (Int32.toNatClampNeg (i3_32)); rw [← ev_68] at z_69
          have ev_68 := ev_68.symm
          have zf_70 : zA S_1 x 1208 (i3_32_z).toNat = v_68.toInt := (zA_of h_65 hz_i3_32 (by omega) ev_68)
          have m1_71 := (MI_1 (MIe_free hG ha_x hO_2.fr (by decide +kernel) hp_0) (c := i3_32_z) (by omega) (by omega)).2 (by omega); rw [zf_70] at m1_71
          have m1_72 := m1_71.1
          clear m1_71
          refine k_i (rm := { frames := 4, cells := 0, slots := 0, locals := 192 }) (av := [.ref x, .int (i3_32), .int 0, .int (v_68)]) X hw (va_runV (As := [.int (i3_32), .int 0, .int (v_68)]) (rest := [.int (i2_31)]) (cfix X) (k_X12_silk l G cy κ S_1 _ x (i3_32) (i3_32_z) (0) (0) (v_68) (v_68.toInt) hO_2.1 t_35 hz_i3_32 ti_0 rfl (by first | assumption | omega) (by first | assumption | omega) (by first | assumption | omega) (by first | assumption | omega) (by first | assumption | omega)) (cwV 3 X.2.2.2.1 gX12_count_X12_silk rfl rfl rfl (by decide +kernel) ⟨Nat.le_of_ble_eq_true rfl, Nat.le_of_ble_eq_true rfl⟩) (pre_V X hw _ t_35 rfl (by decide) rfl) rfl rfl hl.1 rfl (lv_room (Nat.le_of_ble_eq_true rfl)) dX12_count_141 ⟨Nat.le_of_ble_eq_true rfl, Nat.le_of_ble_eq_true rfl⟩) 0 0 (Nat.le_of_ble_eq_true rfl) (Nat.le_of_ble_eq_true rfl) (fun rr_73 S_74 H locs hp hw hfr hnw => ?_)
          obtain ⟨e2, hp⟩ := hp
          subst e2
          have rg_75 := And.intro (z_lo rr_73) (z_hi rr_73)
          refine lv_iadd X.1 X.2.1 dX12_count_144 ?_
          refine lv_topi (fun v_76 ev_76 => ?_)
          have rg_77 := And.intro (z_lo v_76) (z_hi v_76)
          refine lv_istore_n (lv' := [(2, .int (v_76)), (3, .int (i3_32)), (0, .ref x), (1, .int (a1))]) X.1 X.2.1 dX12_count_145 rfl hl (by decide) rfl (fun ls hl => ?_)
          obtain ⟨x_78, ex_78⟩ : ∃ y : Int32, y = i3_32 + 1 := ⟨_, rfl⟩
          have z_79 : x_78.toInt = i3_32_z + 1 := z_add ex_78 hz_i3_32 ti_1 (by omega) (by omega)
          refine lv_iinc (v := x_78) (lv' := [(3, .int (x_78)), (2, .int (v_76)), (0, .ref x), (1, .int (a1))]) X.1 X.2.1 dX12_count_146 hl (k := 1) rfl (by rw [ex_78]; rfl) (by decide) rfl (fun ls hl => ?_)
          refine lv_goto (tgt := 104) X.1 X.2.1 dX12_count_149 (by decide) ?_
          exact ih_L_30 _ (by omega) _ _ _ (v_76) (v_76.toInt) (x_78) (x_78.toInt) rfl hw rfl rfl (by omega) (lv_sub hl [1, 0, 2, 3] rfl)
    exact L_30 _ _ _ _ (0) (0) (0) (0) rfl hw ti_0 ti_0 (by omega) (lv_sub hl [1, 0, 2, 3] rfl)
  · refine lv_tableIn (tgt := 154) X.1 X.2.1 dX12_count_8 (by omega) (by omega) (by rw [w_4c]; rfl) (by decide) ?_
    refine lv_aload_n X.1 X.2.1 dX12_count_154 rfl (lv_at hl 1 rfl) ?_
    refine lv_iconst (v := 0) X.1 X.2.1 dX12_count_155 (by decide) ?_
    refine lv_aload_n X.1 X.2.1 dX12_count_156 rfl (lv_at hl 1 rfl) ?_
    have t_80 : At S_1 x 12 := tAt_sI eS_1 ha_x
    obtain ⟨q_81, h_82, h_83, h_84⟩ := gQ_12_1239 hO_2.1 t_80
    refine r_getR (g := 1239) X hw t_80 rfl 39 h_82 (by decide) rfl inn_X12_count_12 (by decide) (X.2.2.2.1 (.fieldLink RX12 100 "SilkMillModel" "firstMetre" "[I") (by decide +kernel)) rfl (gv_1239 _ _) dX12_count_157 ?_
    refine lv_aload_n X.1 X.2.1 dX12_count_160 rfl (lv_at hl 1 rfl) ?_
    obtain ⟨v_85, ev_85⟩ : ∃ v, pI S_1 1238 x = v := ⟨_, rfl⟩
    have rg_86 := gI_12_1238 hO_2.1 t_80; rw [ev_85] at rg_86
    have pz_87 : (pI S_1 1238 x).toInt = v_85.toInt := by rw [ev_85]
    refine r_getI (g := 1238) (x := v_85) X hw t_80 rfl 38 ev_85 (by decide) rfl inn_X12_count_12 (by decide) (X.2.2.2.1 (.fieldLink RX12 290 "SilkMillModel" "skeins" "I") (by decide +kernel)) rfl (gv_1238 _ _) dX12_count_161 ?_
    refine r_iald X hw h_83 rfl (by rw [h_84]; exact z_ix rfl (by omega) (by omega)) dX12_count_164 ?_
    refine lv_topi (fun v_88 ev_88 => ?_)
    have z_89 := gE_994 hO_2.1 h_83 (Int32.toNatClampNeg (v_85)); rw [← ev_88] at z_89
    have ev_88 := ev_88.symm
    have zf_90 : zA S_1 x 1239 (v_85.toInt).toNat = v_88.toInt := (zA_of h_82 rfl (by omega) ev_88)
    have m7_91 := MI_7' (MIe_free hG ha_x hO_2.fr (by decide +kernel) hp_0) (k := v_85.toInt) (by omega) (by omega); rw [zf_90] at m7_91
    refine k_i (rm := { frames := 5, cells := 0, slots := 0, locals := 240 }) (av := [.ref x, .int 0, .int (v_88)]) X hw (va_runV (As := [.int 0, .int (v_88)]) (rest := []) (cfix X) (k_X12_weight l G cy κ S_1 _ x (0) (0) (v_88) (v_88.toInt) hO_2.1 t_80 ti_0 rfl (by first | assumption | omega) (by first | assumption | omega) (by first | assumption | omega) (MIe_free hG ha_x hO_2.fr (by decide +kernel) hp_0)) (cwV 2 X.2.2.2.1 gX12_count_X12_weight rfl rfl rfl (by decide +kernel) ⟨Nat.le_of_ble_eq_true rfl, Nat.le_of_ble_eq_true rfl⟩) (pre_V X hw _ t_80 rfl (by decide) rfl) rfl rfl hl.1 rfl (lv_room (Nat.le_of_ble_eq_true rfl)) dX12_count_165 ⟨Nat.le_of_ble_eq_true rfl, Nat.le_of_ble_eq_true rfl⟩) 0 0 (Nat.le_of_ble_eq_true rfl) (Nat.le_of_ble_eq_true rfl) (fun rr_92 S_93 H locs hp hw hfr hnw => ?_)
    obtain ⟨e2, hp⟩ := hp
    subst e2
    have rg_94 := And.intro (z_lo rr_92) (z_hi rr_92)
    rw [hQQ]
    exact ret_i X hw hr hlocks (Nat.le_of_ble_eq_true rfl) (Nat.le_of_ble_eq_true rfl) ⟨hO_2, trivial⟩ dX12_count_168
  · refine lv_tableIn (tgt := 169) X.1 X.2.1 dX12_count_8 (by omega) (by omega) (by rw [w_4c]; rfl) (by decide) ?_
    refine lv_iconst (v := 0) X.1 X.2.1 dX12_count_169 (by decide) ?_
    refine lv_istore_n (lv' := [(3, .int 0), (2, .int 0), (0, .ref x), (1, .int (a1))]) X.1 X.2.1 dX12_count_170 rfl hl (by decide) rfl (fun ls hl => ?_)
    have L_95 : ∀ (n : Nat) (H : Heap) (locs : List Loc) (ls : Array Slot) (i2_96 : Int32) (i2_96_z : Int) (i3_97 : Int32) (i3_97_z : Int), ((4 - i3_97_z).toNat = n) → (Wd G cy (AS S s.heap.size) s.heap S_1 H locs) → (i2_96.toInt = i2_96_z) → (i3_97.toInt = i3_97_z) → (0 ≤ i3_97_z ∧ i3_97_z ≤ 4) → (lv_has ls 4 [(2, .int (i2_96)), (3, .int (i3_97)), (0, .ref x), (1, .int (a1))]) → W p l e ({ frames := 6, cells := 0, slots := 0, locals := 288 }) s m [.ref x, .int (a1)].toArray below meth c H locs 0 0 QQ (F0 m 171 ls []) := by
      intro n
      induction n using Nat.strongRecOn with
      | ind n ih_L_95 =>
      intro H locs ls i2_96 i2_96_z i3_97 i3_97_z hn hw hz_i2_96 hz_i3_97 hr_i3_97 hl
      have rg_98 : (-2147483648) ≤ i2_96_z ∧ i2_96_z ≤ 2147483647 := by rw [← hz_i2_96]; exact ⟨z_lo _, z_hi _⟩
      have rg_99 : (-2147483648) ≤ i3_97_z ∧ i3_97_z ≤ 2147483647 := by rw [← hz_i3_97]; exact ⟨z_lo _, z_hi _⟩
      refine lv_iload_n X.1 X.2.1 dX12_count_171 rfl (lv_at hl 1 rfl) ?_
      refine lv_aload_n X.1 X.2.1 dX12_count_172 rfl (lv_at hl 2 rfl) ?_
      have t_100 : At S_1 x 12 := tAt_sI eS_1 ha_x
      obtain ⟨v_101, ev_101⟩ : ∃ v, pI S_1 1211 x = v := ⟨_, rfl⟩
      have rg_102 := gI_12_1211 hO_2.1 t_100; rw [ev_101] at rg_102
      have pz_103 : (pI S_1 1211 x).toInt = v_101.toInt := by rw [ev_101]
      refine r_getI (g := 1211) (x := v_101) X hw t_100 rfl 11 ev_101 (by decide) rfl inn_X12_count_12 (by decide) (X.2.2.2.1 (.fieldLink RX12 197 "SilkMillModel" "pots" "I") (by decide +kernel)) rfl (gv_1211 _ _) dX12_count_173 ?_
      refine lv_icmp_ge (tgt := 203) X.1 X.2.1 dX12_count_176 (by decide) (fun c_104 => ?_) (fun c_104 => ?_)
      · have z_b_105 := trivial
        have k_106 : i3_97_z ≥ v_101.toInt := z_le rfl hz_i3_97 c_104
        refine lv_iload_n X.1 X.2.1 dX12_count_203 rfl (lv_at hl 0 rfl) ?_
        rw [hQQ]
        exact ret_i X hw hr hlocks (Nat.le_of_ble_eq_true rfl) (Nat.le_of_ble_eq_true rfl) ⟨hO_2, trivial⟩ dX12_count_204
      · have z_b_107 := trivial
        have k_108 : i3_97_z < v_101.toInt := z_nle rfl hz_i3_97 c_104
        refine lv_iload_n X.1 X.2.1 dX12_count_179 rfl (lv_at hl 0 rfl) ?_
        refine lv_aload_n X.1 X.2.1 dX12_count_180 rfl (lv_at hl 2 rfl) ?_
        refine lv_aload_n X.1 X.2.1 dX12_count_181 rfl (lv_at hl 2 rfl) ?_
        refine lv_iload_n X.1 X.2.1 dX12_count_182 rfl (lv_at hl 1 rfl) ?_
        refine k_i (rm := { frames := 1, cells := 0, slots := 0, locals := 48 }) (av := [.ref x, .int (i3_97)]) X hw (va_runV (As := [.int (i3_97)]) (rest := [.ref x, .int (i2_96)]) (cfix X) (k_X12_growing l G cy κ S_1 _ x (i3_97) (i3_97_z) hO_2.1 t_100 hz_i3_97 (by first | assumption | omega) (by first | assumption | omega)) (cwV 1 X.2.2.2.1 gX12_count_X12_growing rfl rfl rfl (by decide +kernel) ⟨Nat.le_of_ble_eq_true rfl, Nat.le_of_ble_eq_true rfl⟩) (pre_V X hw _ t_100 rfl (by decide) rfl) rfl rfl hl.1 rfl (lv_room (Nat.le_of_ble_eq_true rfl)) dX12_count_183 ⟨Nat.le_of_ble_eq_true rfl, Nat.le_of_ble_eq_true rfl⟩) 0 0 (Nat.le_of_ble_eq_true rfl) (Nat.le_of_ble_eq_true rfl) (fun rr_109 S_110 H locs hp hw hfr hnw => ?_)
        obtain ⟨e2, hp⟩ := hp
        subst e2
        have f_111 := hp
        refine lv_aload_n X.1 X.2.1 dX12_count_186 rfl (lv_at hl 2 rfl) ?_
        obtain ⟨q_112, h_113, h_114, h_115⟩ := gQ_12_1237 hO_2.1 t_100
        refine r_getR (g := 1237) X hw t_100 rfl 37 h_113 (by decide) rfl inn_X12_count_12 (by decide) (X.2.2.2.1 (.fieldLink RX12 97 "SilkMillModel" "grown" "[I") (by decide +kernel)) rfl (gv_1237 _ _) dX12_count_187 ?_
        refine lv_iload_n X.1 X.2.1 dX12_count_190 rfl (lv_at hl 1 rfl) ?_
        refine r_iald X hw h_114 rfl (by rw [h_115]; exact z_ix hz_i3_97 (by omega) (by omega)) dX12_count_191 ?_
        refine lv_topi (fun v_116 ev_116 => ?_)
        have z_117 := gE_954 hO_2.1 h_114 (Int32.toNatClampNeg (i3_97)); rw [← ev_116] at z_117
        have ev_116 := ev_116.symm
        refine k_i (rm := { frames := 5, cells := 0, slots := 0, locals := 240 }) (av := [.ref x, .int (rr_109), .int (v_116)]) X hw (va_runV (As := [.int (rr_109), .int (v_116)]) (rest := [.int (i2_96)]) (cfix X) (k_X12_weight l G cy κ S_1 _ x (rr_109) (rr_109.toInt) (v_116) (v_116.toInt) hO_2.1 t_100 rfl rfl (by first | assumption | omega) (by first | assumption | omega) (by first | assumption | omega) (MIe_free hG ha_x hO_2.fr (by decide +kernel) hp_0)) (cwV 2 X.2.2.2.1 gX12_count_X12_weight rfl rfl rfl (by decide +kernel) ⟨Nat.le_of_ble_eq_true rfl, Nat.le_of_ble_eq_true rfl⟩) (pre_V X hw _ t_100 rfl (by decide) rfl) rfl rfl hl.1 rfl (lv_room (Nat.le_of_ble_eq_true rfl)) dX12_count_192 ⟨Nat.le_of_ble_eq_true rfl, Nat.le_of_ble_eq_true rfl⟩) 0 0 (Nat.le_of_ble_eq_true rfl) (Nat.le_of_ble_eq_true rfl) (fun rr_118 S_119 H locs hp hw hfr hnw => ?_)
        obtain ⟨e2, hp⟩ := hp
        subst e2
        have rg_120 := And.intro (z_lo rr_118) (z_hi rr_118)
        refine lv_iadd X.1 X.2.1 dX12_count_195 ?_
        refine lv_topi (fun v_121 ev_121 => ?_)
        have rg_122 := And.intro (z_lo v_121) (z_hi v_121)
        refine lv_istore_n (lv' := [(2, .int (v_121)), (3, .int (i3_97)), (0, .ref x), (1, .int (a1))]) X.1 X.2.1 dX12_count_196 rfl hl (by decide) rfl (fun ls hl => ?_)
        obtain ⟨x_123, ex_123⟩ : ∃ y : Int32, y = i3_97 + 1 := ⟨_, rfl⟩
        have z_124 : x_123.toInt = i3_97_z + 1 := z_add ex_123 hz_i3_97 ti_1 (by omega) (by omega)
        refine lv_iinc (v := x_123) (lv' := [(3, .int (x_123)), (2, .int (v_121)), (0, .ref x), (1, .int (a1))]) X.1 X.2.1 dX12_count_197 hl (k := 1) rfl (by rw [ex_123]; rfl) (by decide) rfl (fun ls hl => ?_)
        refine lv_goto (tgt := 171) X.1 X.2.1 dX12_count_200 (by decide) ?_
        exact ih_L_95 _ (by omega) _ _ _ (v_121) (v_121.toInt) (x_123) (x_123.toInt) rfl hw rfl rfl (by omega) (lv_sub hl [1, 0, 2, 3] rfl)
    exact L_95 _ _ _ _ (0) (0) (0) (0) rfl hw ti_0 ti_0 (by omega) (lv_sub hl [1, 0, 2, 3] rfl)
  · refine lv_tableIn (tgt := 205) X.1 X.2.1 dX12_count_8 (by omega) (by omega) (by rw [w_4c]; rfl) (by decide) ?_
    refine lv_aload_n X.1 X.2.1 dX12_count_205 rfl (lv_at hl 1 rfl) ?_
    have t_125 : At S_1 x 12 := tAt_sI eS_1 ha_x
    obtain ⟨v_126, ev_126⟩ : ∃ v, pI S_1 1246 x = v := ⟨_, rfl⟩
    have rg_128 := And.intro (z_lo v_126) (z_hi v_126)
    have pz_129 : (pI S_1 1246 x).toInt = v_126.toInt := by rw [ev_126]
    refine r_getI (g := 1246) (x := v_126) X hw t_125 rfl 46 ev_126 (by decide) rfl inn_X12_count_12 (by decide) (X.2.2.2.1 (.fieldLink RX12 293 "SilkMillModel" "waste" "I") (by decide +kernel)) rfl (gv_1246 _ _) dX12_count_206 ?_
    rw [hQQ]
    exact ret_i X hw hr hlocks (Nat.le_of_ble_eq_true rfl) (Nat.le_of_ble_eq_true rfl) ⟨hO_2, trivial⟩ dX12_count_209
  · refine lv_tableIn (tgt := 210) X.1 X.2.1 dX12_count_8 (by omega) (by omega) (by rw [w_4c]; rfl) (by decide) ?_
    refine lv_iconst (v := 0) X.1 X.2.1 dX12_count_210 (by decide) ?_
    refine lv_istore_n (lv' := [(3, .int 0), (2, .int 0), (0, .ref x), (1, .int (a1))]) X.1 X.2.1 dX12_count_211 rfl hl (by decide) rfl (fun ls hl => ?_)
    have L_130 : ∀ (n : Nat) (H : Heap) (locs : List Loc) (ls : Array Slot) (i2_131 : Int32) (i2_131_z : Int) (i3_132 : Int32) (i3_132_z : Int), ((600 - i3_132_z).toNat = n) → (Wd G cy (AS S s.heap.size) s.heap S_1 H locs) → (i2_131.toInt = i2_131_z) → (i3_132.toInt = i3_132_z) → (0 ≤ i3_132_z ∧ i3_132_z ≤ 600) → (lv_has ls 4 [(2, .int (i2_131)), (3, .int (i3_132)), (0, .ref x), (1, .int (a1))]) → W p l e ({ frames := 6, cells := 0, slots := 0, locals := 288 }) s m [.ref x, .int (a1)].toArray below meth c H locs 0 0 QQ (F0 m 212 ls []) := by
      intro n
      induction n using Nat.strongRecOn with
      | ind n ih_L_130 =>
      intro H locs ls i2_131 i2_131_z i3_132 i3_132_z hn hw hz_i2_131 hz_i3_132 hr_i3_132 hl
      have rg_133 : (-2147483648) ≤ i2_131_z ∧ i2_131_z ≤ 2147483647 := by rw [← hz_i2_131]; exact ⟨z_lo _, z_hi _⟩
      have rg_134 : (-2147483648) ≤ i3_132_z ∧ i3_132_z ≤ 2147483647 := by rw [← hz_i3_132]; exact ⟨z_lo _, z_hi _⟩
      refine lv_iload_n X.1 X.2.1 dX12_count_212 rfl (lv_at hl 1 rfl) ?_
      refine lv_bipush (v := 60) X.1 X.2.1 dX12_count_213 (by decide) ?_
      refine lv_aload_n X.1 X.2.1 dX12_count_215 rfl (lv_at hl 2 rfl) ?_
      have t_135 : At S_1 x 12 := tAt_sI eS_1 ha_x
      obtain ⟨v_136, ev_136⟩ : ∃ v, pI S_1 1201 x = v := ⟨_, rfl⟩
      have rg_137 := gI_12_1201 hO_2.1 t_135; rw [ev_136] at rg_137
      have pz_138 : (pI S_1 1201 x).toInt = v_136.toInt := by rw [ev_136]
      refine r_getI (g := 1201) (x := v_136) X hw t_135 rfl 1 ev_136 (by decide) rfl inn_X12_count_12 (by decide) (X.2.2.2.1 (.fieldLink RX12 165 "SilkMillModel" "lots" "I") (by decide +kernel)) rfl (gv_1201 _ _) dX12_count_216 ?_
      refine lv_imul X.1 X.2.1 dX12_count_219 ?_
      refine lv_topi (fun v_139 ev_139 => ?_)
      have z_140 : v_139.toInt = 60 * v_136.toInt := z_mul ev_139 ti_60 rfl (by omega) (by omega)
      refine lv_icmp_ge (tgt := 275) X.1 X.2.1 dX12_count_220 (by decide) (fun c_141 => ?_) (fun c_141 => ?_)
      · have z_b_142 := trivial
        have k_143 : i3_132_z ≥ (60 * v_136.toInt) := z_le z_140 hz_i3_132 c_141
        refine lv_iload_n X.1 X.2.1 dX12_count_275 rfl (lv_at hl 0 rfl) ?_
        rw [hQQ]
        exact ret_i X hw hr hlocks (Nat.le_of_ble_eq_true rfl) (Nat.le_of_ble_eq_true rfl) ⟨hO_2, trivial⟩ dX12_count_276
      · have z_b_144 := trivial
        have k_145 : i3_132_z < (60 * v_136.toInt) := z_nle z_140 hz_i3_132 c_141
        refine lv_iload_n X.1 X.2.1 dX12_count_223 rfl (lv_at hl 1 rfl) ?_
        refine lv_bipush (v := 60) X.1 X.2.1 dX12_count_224 (by decide) ?_
        refine lv_irem X.1 X.2.1 dX12_count_226 (by decide) ?_
        refine lv_topi (fun v_146 ev_146 => ?_)
        have z_147 : v_146.toInt = i3_132_z % 60 := z_rem ev_146 hz_i3_132 ti_60 (by omega) (by omega)
        have z_148 : 0 ≤ v_146.toInt ∧ v_146.toInt < 60 := by rw [z_147]; exact ⟨Int.emod_nonneg _ (by omega), Int.emod_lt_of_pos _ (by omega)⟩
        refine lv_aload_n X.1 X.2.1 dX12_count_227 rfl (lv_at hl 2 rfl) ?_
        obtain ⟨q_149, h_150, h_151, h_152⟩ := gQ_12_1202 hO_2.1 t_135
        refine r_getR (g := 1202) X hw t_135 rfl 2 h_150 (by decide) rfl inn_X12_count_12 (by decide) (X.2.2.2.1 (.fieldLink RX12 7 "SilkMillModel" "lotMany" "[I") (by decide +kernel)) rfl (gv_1202 _ _) dX12_count_228 ?_
        refine lv_iload_n X.1 X.2.1 dX12_count_231 rfl (lv_at hl 1 rfl) ?_
        refine lv_bipush (v := 60) X.1 X.2.1 dX12_count_232 (by decide) ?_
        refine lv_idiv X.1 X.2.1 dX12_count_234 (by decide) ?_
        refine lv_topi (fun v_153 ev_153 => ?_)
        have z_154 : v_153.toInt = i3_132_z / 60 := z_div ev_153 hz_i3_132 ti_60 (by omega) (by omega)
        refine r_iald X hw h_151 rfl (by rw [h_152]; exact z_ix z_154 (by omega) (by omega)) dX12_count_235 ?_
        refine lv_topi (fun v_155 ev_155 => ?_)
        have z_156 := gE_254 hO_2.1 h_151 (Int32.toNatClampNeg (v_153)); rw [← ev_155] at z_156
        have ev_155 := ev_155.symm
        refine lv_icmp_ge (tgt := 269) X.1 X.2.1 dX12_count_236 (by decide) (fun c_157 => ?_) (fun c_157 => ?_)
        · have z_b_158 := trivial
          have k_159 : (i3_132_z % 60) ≥ v_155.toInt := z_le rfl z_147 c_157
          obtain ⟨x_160, ex_160⟩ : ∃ y : Int32, y = i3_132 + 1 := ⟨_, rfl⟩
          have z_161 : x_160.toInt = i3_132_z + 1 := z_add ex_160 hz_i3_132 ti_1 (by omega) (by omega)
          refine lv_iinc (v := x_160) (lv' := [(3, .int (x_160)), (2, .int (i2_131)), (0, .ref x), (1, .int (a1))]) X.1 X.2.1 dX12_count_269 hl (k := 1) rfl (by rw [ex_160]; rfl) (by decide) rfl (fun ls hl => ?_)
          refine lv_goto (tgt := 212) X.1 X.2.1 dX12_count_272 (by decide) ?_
          exact ih_L_130 _ (by omega) _ _ _ (i2_131) (i2_131_z) (x_160) (x_160.toInt) rfl hw hz_i2_131 rfl (by omega) (lv_sub hl [1, 0, 2, 3] rfl)
        · have z_b_162 := trivial
          have k_163 : (i3_132_z % 60) < v_155.toInt := z_nle rfl z_147 c_157
          refine lv_aload_n X.1 X.2.1 dX12_count_239 rfl (lv_at hl 2 rfl) ?_
          obtain ⟨q_164, h_165, h_166, h_167⟩ := gQ_12_1207 hO_2.1 t_135
          refine r_getR (g := 1207) X hw t_135 rfl 7 h_165 (by decide) rfl inn_X12_count_12 (by decide) (X.2.2.2.1 (.fieldLink RX12 25 "SilkMillModel" "stand" "[I") (by decide +kernel)) rfl (gv_1207 _ _) dX12_count_240 ?_
          refine lv_iload_n X.1 X.2.1 dX12_count_243 rfl (lv_at hl 1 rfl) ?_
          refine r_iald X hw h_166 rfl (by rw [h_167]; exact z_ix hz_i3_132 (by omega) (by omega)) dX12_count_244 ?_
          refine lv_topi (fun v_168 ev_168 => ?_)
          have rg_169 := And.intro (z_lo v_168) (z_hi v_168)
          have ev_168 := ev_168.symm
          refine lv_bipush (v := 6) X.1 X.2.1 dX12_count_245 (by decide) ?_
          refine lv_icmp_ne (tgt := 269) X.1 X.2.1 dX12_count_247 (by decide) (fun c_170 => ?_) (fun c_170 => ?_)
          · have z_b_171 := trivial
            have k_172 : v_168.toInt ≠ 6 := z_ne rfl ti_6 c_170
            obtain ⟨x_173, ex_173⟩ : ∃ y : Int32, y = i3_132 + 1 := ⟨_, rfl⟩
            have z_174 : x_173.toInt = i3_132_z + 1 := z_add ex_173 hz_i3_132 ti_1 (by omega) (by omega)
            refine lv_iinc (v := x_173) (lv' := [(3, .int (x_173)), (2, .int (i2_131)), (0, .ref x), (1, .int (a1))]) X.1 X.2.1 dX12_count_269 hl (k := 1) rfl (by rw [ex_173]; rfl) (by decide) rfl (fun ls hl => ?_)
            refine lv_goto (tgt := 212) X.1 X.2.1 dX12_count_272 (by decide) ?_
            exact ih_L_130 _ (by omega) _ _ _ (i2_131) (i2_131_z) (x_173) (x_173.toInt) rfl hw hz_i2_131 rfl (by omega) (lv_sub hl [1, 0, 2, 3] rfl)
          · have z_b_175 := trivial
            have k_176 : v_168.toInt = 6 := z_eq rfl ti_6 c_170
            refine lv_iload_n X.1 X.2.1 dX12_count_250 rfl (lv_at hl 0 rfl) ?_
            refine lv_aload_n X.1 X.2.1 dX12_count_251 rfl (lv_at hl 2 rfl) ?_
            refine lv_iload_n X.1 X.2.1 dX12_count_252 rfl (lv_at hl 1 rfl) ?_
            refine lv_aload_n X.1 X.2.1 dX12_count_253 rfl (lv_at hl 2 rfl) ?_
            obtain ⟨q_177, h_178, h_179, h_180⟩ := gQ_12_1208 hO_2.1 t_135
            refine r_getR (g := 1208) X hw t_135 rfl 8 h_178 (by decide) rfl inn_X12_count_12 (by decide) (X.2.2.2.1 (.fieldLink RX12 28 "SilkMillModel" "place" "[I") (by decide +kernel)) rfl (gv_1208 _ _) dX12_count_254 ?_
            refine lv_iload_n X.1 X.2.1 dX12_count_257 rfl (lv_at hl 1 rfl) ?_
            refine r_iald X hw h_179 rfl (by rw [h_180]; exact z_ix hz_i3_132 (by omega) (by omega)) dX12_count_258 ?_
            refine lv_topi (fun v_181 ev_181 => ?_)
            have z_182 := gE_374 hO_2.1 h_179 (Int32.toNatClampNeg (i3_132)); rw [← ev_181] at z_182
            have ev_181 := ev_181.symm
            refine lv_aload_n X.1 X.2.1 dX12_count_259 rfl (lv_at hl 2 rfl) ?_
            refine lv_iload_n X.1 X.2.1 dX12_count_260 rfl (lv_at hl 1 rfl) ?_
            refine k_i (rm := { frames := 2, cells := 0, slots := 0, locals := 96 }) (av := [.ref x, .int (i3_132)]) X hw (va_runV (As := [.int (i3_132)]) (rest := [.int (v_181), .int (i3_132), .ref x, .int (i2_131)]) (cfix X) (k_X12_lengthOf l G cy κ S_1 _ x (i3_132) (i3_132_z) hO_2.1 t_135 hz_i3_132 (by first | assumption | omega) (by first | assumption | omega)) (cwV 1 X.2.2.2.1 gX12_count_X12_lengthOf rfl rfl rfl (by decide +kernel) ⟨Nat.le_of_ble_eq_true rfl, Nat.le_of_ble_eq_true rfl⟩) (pre_V X hw _ t_135 rfl (by decide) rfl) rfl rfl hl.1 rfl (lv_room (Nat.le_of_ble_eq_true rfl)) dX12_count_261 ⟨Nat.le_of_ble_eq_true rfl, Nat.le_of_ble_eq_true rfl⟩) 0 0 (Nat.le_of_ble_eq_true rfl) (Nat.le_of_ble_eq_true rfl) (fun rr_183 S_184 H locs hp hw hfr hnw => ?_)
            obtain ⟨e2, hp⟩ := hp
            subst e2
            obtain ⟨f_185, f_186, f_187⟩ := hp
            refine k_i (rm := { frames := 4, cells := 0, slots := 0, locals := 192 }) (av := [.ref x, .int (i3_132), .int (v_181), .int (rr_183)]) X hw (va_runV (As := [.int (i3_132), .int (v_181), .int (rr_183)]) (rest := [.int (i2_131)]) (cfix X) (k_X12_silk l G cy κ S_1 _ x (i3_132) (i3_132_z) (v_181) (v_181.toInt) (rr_183) (rr_183.toInt) hO_2.1 t_135 hz_i3_132 rfl rfl (by first | assumption | omega) (by first | assumption | omega) (by first | assumption | omega) (by first | assumption | omega) (by first | assumption | omega)) (cwV 3 X.2.2.2.1 gX12_count_X12_silk rfl rfl rfl (by decide +kernel) ⟨Nat.le_of_ble_eq_true rfl, Nat.le_of_ble_eq_true rfl⟩) (pre_V X hw _ t_135 rfl (by decide) rfl) rfl rfl hl.1 rfl (lv_room (Nat.le_of_ble_eq_true rfl)) dX12_count_264 ⟨Nat.le_of_ble_eq_true rfl, Nat.le_of_ble_eq_true rfl⟩) 0 0 (Nat.le_of_ble_eq_true rfl) (Nat.le_of_ble_eq_true rfl) (fun rr_188 S_189 H locs hp hw hfr hnw => ?_)
            obtain ⟨e2, hp⟩ := hp
            subst e2
            have rg_190 := And.intro (z_lo rr_188) (z_hi rr_188)
            refine lv_iadd X.1 X.2.1 dX12_count_267 ?_
            refine lv_topi (fun v_191 ev_191 => ?_)
            have rg_192 := And.intro (z_lo v_191) (z_hi v_191)
            refine lv_istore_n (lv' := [(2, .int (v_191)), (3, .int (i3_132)), (0, .ref x), (1, .int (a1))]) X.1 X.2.1 dX12_count_268 rfl hl (by decide) rfl (fun ls hl => ?_)
            obtain ⟨x_193, ex_193⟩ : ∃ y : Int32, y = i3_132 + 1 := ⟨_, rfl⟩
            have z_194 : x_193.toInt = i3_132_z + 1 := z_add ex_193 hz_i3_132 ti_1 (by omega) (by omega)
            refine lv_iinc (v := x_193) (lv' := [(3, .int (x_193)), (2, .int (v_191)), (0, .ref x), (1, .int (a1))]) X.1 X.2.1 dX12_count_269 hl (k := 1) rfl (by rw [ex_193]; rfl) (by decide) rfl (fun ls hl => ?_)
            refine lv_goto (tgt := 212) X.1 X.2.1 dX12_count_272 (by decide) ?_
            exact ih_L_130 _ (by omega) _ _ _ (v_191) (v_191.toInt) (x_193) (x_193.toInt) rfl hw rfl rfl (by omega) (lv_sub hl [1, 0, 2, 3] rfl)
    exact L_130 _ _ _ _ (0) (0) (0) (0) rfl hw ti_0 ti_0 (by omega) (lv_sub hl [1, 0, 2, 3] rfl)
  · refine lv_tableIn (tgt := 277) X.1 X.2.1 dX12_count_8 (by omega) (by omega) (by rw [w_4c]; rfl) (by decide) ?_
    refine lv_iconst (v := 0) X.1 X.2.1 dX12_count_277 (by decide) ?_
    refine lv_istore_n (lv' := [(3, .int 0), (2, .int 0), (0, .ref x), (1, .int (a1))]) X.1 X.2.1 dX12_count_278 rfl hl (by decide) rfl (fun ls hl => ?_)
    have L_195 : ∀ (n : Nat) (H : Heap) (locs : List Loc) (ls : Array Slot) (i2_196 : Int32) (i2_196_z : Int) (i3_197 : Int32) (i3_197_z : Int), ((16 - i3_197_z).toNat = n) → (Wd G cy (AS S s.heap.size) s.heap S_1 H locs) → (i2_196.toInt = i2_196_z) → (i3_197.toInt = i3_197_z) → (0 ≤ i3_197_z ∧ i3_197_z ≤ 16) → (lv_has ls 4 [(2, .int (i2_196)), (3, .int (i3_197)), (0, .ref x), (1, .int (a1))]) → W p l e ({ frames := 6, cells := 0, slots := 0, locals := 288 }) s m [.ref x, .int (a1)].toArray below meth c H locs 0 0 QQ (F0 m 279 ls []) := by
      intro n
      induction n using Nat.strongRecOn with
      | ind n ih_L_195 =>
      intro H locs ls i2_196 i2_196_z i3_197 i3_197_z hn hw hz_i2_196 hz_i3_197 hr_i3_197 hl
      have rg_198 : (-2147483648) ≤ i2_196_z ∧ i2_196_z ≤ 2147483647 := by rw [← hz_i2_196]; exact ⟨z_lo _, z_hi _⟩
      have rg_199 : (-2147483648) ≤ i3_197_z ∧ i3_197_z ≤ 2147483647 := by rw [← hz_i3_197]; exact ⟨z_lo _, z_hi _⟩
      refine lv_iload_n X.1 X.2.1 dX12_count_279 rfl (lv_at hl 1 rfl) ?_
      refine lv_bipush (v := 16) X.1 X.2.1 dX12_count_280 (by decide) ?_
      refine lv_icmp_ge (tgt := 308) X.1 X.2.1 dX12_count_282 (by decide) (fun c_200 => ?_) (fun c_200 => ?_)
      · have z_b_201 := trivial
        have k_202 : i3_197_z ≥ 16 := z_le ti_16 hz_i3_197 c_200
        refine lv_iload_n X.1 X.2.1 dX12_count_308 rfl (lv_at hl 0 rfl) ?_
        rw [hQQ]
        exact ret_i X hw hr hlocks (Nat.le_of_ble_eq_true rfl) (Nat.le_of_ble_eq_true rfl) ⟨hO_2, trivial⟩ dX12_count_309
      · have z_b_203 := trivial
        have k_204 : i3_197_z < 16 := z_nle ti_16 hz_i3_197 c_200
        refine lv_iload_n X.1 X.2.1 dX12_count_285 rfl (lv_at hl 0 rfl) ?_
        refine lv_aload_n X.1 X.2.1 dX12_count_286 rfl (lv_at hl 2 rfl) ?_
        have t_205 : At S_1 x 12 := tAt_sI eS_1 ha_x
        obtain ⟨q_206, h_207, h_208, h_209⟩ := gQ_12_1253 hO_2.1 t_205
        refine r_getR (g := 1253) X hw t_205 rfl 53 h_207 (by decide) rfl inn_X12_count_12 (by decide) (X.2.2.2.1 (.fieldLink RX12 125 "SilkMillModel" "isLaid" "[Z") (by decide +kernel)) rfl (gv_1253 _ _) dX12_count_287 ?_
        refine lv_iload_n X.1 X.2.1 dX12_count_290 rfl (lv_at hl 1 rfl) ?_
        refine r_zald X hw h_208 rfl (by rw [h_209]; exact z_ix hz_i3_197 (by omega) (by omega)) dX12_count_291 ?_
        refine lv_topi (fun v_210 ev_210 => ?_)
        have rg_211 := And.intro (z_lo v_210) (z_hi v_210)
        have ev_210 := ev_210.symm
        refine lv_if_eq (tgt := 299) X.1 X.2.1 dX12_count_292 (by decide) (fun c_212 => ?_) (fun c_212 => ?_)
        · have z_b_213 := trivial
          have k_214 : v_210.toInt = 0 := z_eq rfl ti_0 c_212
          refine lv_iconst (v := 0) X.1 X.2.1 dX12_count_299 (by decide) ?_
          refine lv_iadd X.1 X.2.1 dX12_count_300 ?_
          refine lv_topi (fun v_215 ev_215 => ?_)
          have z_216 : v_215.toInt = i2_196_z + 0 := z_add ev_215 hz_i2_196 ti_0 (by omega) (by omega)
          refine lv_istore_n (lv' := [(2, .int (v_215)), (3, .int (i3_197)), (0, .ref x), (1, .int (a1))]) X.1 X.2.1 dX12_count_301 rfl hl (by decide) rfl (fun ls hl => ?_)
          obtain ⟨x_217, ex_217⟩ : ∃ y : Int32, y = i3_197 + 1 := ⟨_, rfl⟩
          have z_218 : x_217.toInt = i3_197_z + 1 := z_add ex_217 hz_i3_197 ti_1 (by omega) (by omega)
          refine lv_iinc (v := x_217) (lv' := [(3, .int (x_217)), (2, .int (v_215)), (0, .ref x), (1, .int (a1))]) X.1 X.2.1 dX12_count_302 hl (k := 1) rfl (by rw [ex_217]; rfl) (by decide) rfl (fun ls hl => ?_)
          refine lv_goto (tgt := 279) X.1 X.2.1 dX12_count_305 (by decide) ?_
          exact ih_L_195 _ (by omega) _ _ _ (v_215) ((i2_196_z + 0)) (x_217) (x_217.toInt) rfl hw z_216 rfl (by omega) (lv_sub hl [1, 0, 2, 3] rfl)
        · have z_b_219 := trivial
          have k_220 : v_210.toInt ≠ 0 := z_ne rfl ti_0 c_212
          refine lv_iconst (v := 1) X.1 X.2.1 dX12_count_295 (by decide) ?_
          refine lv_goto (tgt := 300) X.1 X.2.1 dX12_count_296 (by decide) ?_
          refine lv_iadd X.1 X.2.1 dX12_count_300 ?_
          refine lv_topi (fun v_221 ev_221 => ?_)
          have rg_222 := And.intro (z_lo v_221) (z_hi v_221)
          refine lv_istore_n (lv' := [(2, .int (v_221)), (3, .int (i3_197)), (0, .ref x), (1, .int (a1))]) X.1 X.2.1 dX12_count_301 rfl hl (by decide) rfl (fun ls hl => ?_)
          obtain ⟨x_223, ex_223⟩ : ∃ y : Int32, y = i3_197 + 1 := ⟨_, rfl⟩
          have z_224 : x_223.toInt = i3_197_z + 1 := z_add ex_223 hz_i3_197 ti_1 (by omega) (by omega)
          refine lv_iinc (v := x_223) (lv' := [(3, .int (x_223)), (2, .int (v_221)), (0, .ref x), (1, .int (a1))]) X.1 X.2.1 dX12_count_302 hl (k := 1) rfl (by rw [ex_223]; rfl) (by decide) rfl (fun ls hl => ?_)
          refine lv_goto (tgt := 279) X.1 X.2.1 dX12_count_305 (by decide) ?_
          exact ih_L_195 _ (by omega) _ _ _ (v_221) (v_221.toInt) (x_223) (x_223.toInt) rfl hw rfl rfl (by omega) (lv_sub hl [1, 0, 2, 3] rfl)
    exact L_195 _ _ _ _ (0) (0) (0) (0) rfl hw ti_0 ti_0 (by omega) (lv_sub hl [1, 0, 2, 3] rfl)
