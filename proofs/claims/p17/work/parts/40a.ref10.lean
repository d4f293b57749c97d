set_option maxRecDepth 20000 in
theorem ggX12_begins_X12_endOf : GoodIn wsX12_begins wsX12_endOf := goodIn_h _ [2, 4, 0, 0, 0, 0, 0, 0, 0, 0, 0, 0, 0, 0, 0, 0, 0, 0, 0, 0, 0, 0, 0, 0, 0, 0, 0, 0, 0, 0, 0, 0, 0, 0, 0, 0, 0, 0, 0, 0, 0, 0, 0, 0, 0, 0, 0, 0, 0, 0, 0, 0, 0, 0, 0, 0, 0, 0, 0, 0, 0, 0, 0, 0, 0, 0, 0, 0, 0] [1, 2, 0, 3, 4, 5, 6, 7, 8, 9, 10, 11, 12, 13, 14, 15, 16, 17, 18, 19, 20, 21, 22, 23, 24, 25, 26, 27, 28, 29, 30, 31, 32, 33, 34, 35, 36, 37, 38, 39, 40, 41, 42, 43, 44, 45, 46, 47, 48, 49, 50, 51, 52, 53, 54, 55, 56, 57, 58, 59, 60, 61, 62, 63, 64, 65, 66, 67, 68] (by decide +kernel) (by decide +kernel)
set_option maxRecDepth 20000 in
theorem gX12_begins_X12_endOf : GoodIn wsX12_begins (wsV RX12 336 RX12 yX12_endOf wsX12_endOf) := goodIn_app (goodIn_of _ (by decide +kernel)) ggX12_begins_X12_endOf
theorem dX12_begins_0 : decode cX12_begins 0 = .ok (.aload_n 0, 1) := by decide +kernel
theorem dX12_begins_1 : decode cX12_begins 1 = .ok (.getfield 100, 3) := by decide +kernel
theorem dX12_begins_4 : decode cX12_begins 4 = .ok (.iload_n 1, 1) := by decide +kernel
theorem dX12_begins_5 : decode cX12_begins 5 = .ok (.iaload, 1) := by decide +kernel
theorem dX12_begins_6 : decode cX12_begins 6 = .ok (.iload_n 2, 1) := by decide +kernel
theorem dX12_begins_7 : decode cX12_begins 7 = .ok (.iadd, 1) := by decide +kernel
theorem dX12_begins_8 : decode cX12_begins 8 = .ok (.istore 4, 2) := by decide +kernel
theorem dX12_begins_10 : decode cX12_begins 10 = .ok (.iload_n 2, 1) := by decide +kernel
theorem dX12_begins_11 : decode cX12_begins 11 = .ok (.ifCond .eq 31, 3) := by decide +kernel
theorem dX12_begins_14 : decode cX12_begins 14 = .ok (.aload_n 0, 1) := by decide +kernel
theorem dX12_begins_15 : decode cX12_begins 15 = .ok (.iload 4, 2) := by decide +kernel
theorem dX12_begins_17 : decode cX12_begins 17 = .ok (.iconst 1, 1) := by decide +kernel
theorem dX12_begins_18 : decode cX12_begins 18 = .ok (.isub, 1) := by decide +kernel
theorem dX12_begins_19 : decode cX12_begins 19 = .ok (.aload_n 0, 1) := by decide +kernel
theorem dX12_begins_20 : decode cX12_begins 20 = .ok (.getfield 94, 3) := by decide +kernel
theorem dX12_begins_23 : decode cX12_begins 23 = .ok (.bipush 12, 2) := by decide +kernel
theorem dX12_begins_25 : decode cX12_begins 25 = .ok (.iload 4, 2) := by decide +kernel
theorem dX12_begins_27 : decode cX12_begins 27 = .ok (.imul, 1) := by decide +kernel
theorem dX12_begins_28 : decode cX12_begins 28 = .ok (.iload_n 3, 1) := by decide +kernel
theorem dX12_begins_29 : decode cX12_begins 29 = .ok (.iadd, 1) := by decide +kernel
theorem dX12_begins_30 : decode cX12_begins 30 = .ok (.iaload, 1) := by decide +kernel
theorem dX12_begins_31 : decode cX12_begins 31 = .ok (.sipush 1000, 3) := by decide +kernel
theorem dX12_begins_34 : decode cX12_begins 34 = .ok (.idiv, 1) := by decide +kernel
theorem dX12_begins_35 : decode cX12_begins 35 = .ok (.invokevirtual 336, 3) := by decide +kernel
theorem dX12_begins_38 : decode cX12_begins 38 = .ok (.iconst (-1), 1) := by decide +kernel
theorem dX12_begins_39 : decode cX12_begins 39 = .ok (.if_icmp .ne 7, 3) := by decide +kernel
theorem dX12_begins_42 : decode cX12_begins 42 = .ok (.iconst 1, 1) := by decide +kernel
theorem dX12_begins_43 : decode cX12_begins 43 = .ok (.goto 4, 3) := by decide +kernel
theorem dX12_begins_46 : decode cX12_begins 46 = .ok (.iconst 0, 1) := by decide +kernel
theorem dX12_begins_47 : decode cX12_begins 47 = .ok (.ireturn, 1) := by decide +kernel
set_option maxRecDepth 20000 in
theorem ggX12_pieces_X12_metres : GoodIn wsX12_pieces wsX12_metres := goodIn_h _ [2, 4, 9, 0, 0, 0, 0, 0, 0, 0, 0, 0, 0, 0, 0, 0, 0, 0, 0, 0, 0, 0, 0, 0, 0, 0, 0, 0, 0, 0, 0, 0, 0, 0, 0, 0, 0, 0, 0, 0, 0, 0, 0, 0, 0, 0, 0, 0, 0, 0, 0, 0, 0, 0, 0, 0, 0, 0, 0, 0, 0, 0, 0, 0, 0, 0, 0, 0] [1, 0, 2, 3, 4, 5, 6, 7, 8, 9, 10, 11, 12, 13, 14, 15, 16, 17, 18, 19, 20, 21, 22, 23, 24, 25, 26, 27, 28, 29, 30, 31, 32, 33, 34, 35, 36, 37, 38, 39, 40, 41, 42, 43, 44, 45, 46, 47, 48, 49, 50, 51, 52, 53, 54, 55, 56, 57, 58, 59, 60, 61, 62, 63, 64, 65, 66, 67] (by decide +kernel) (by decide +kernel)
set_option maxRecDepth 20000 in
theorem gX12_pieces_X12_metres : GoodIn wsX12_pieces (wsV RX12 350 RX12 yX12_metres wsX12_metres) := goodIn_app (goodIn_of _ (by decide +kernel)) ggX12_pieces_X12_metres
set_option maxRecDepth 20000 in
theorem ggX12_pieces_X12_begins : GoodIn wsX12_pieces wsX12_begins := goodIn_h _ [1, 0, 3, 4, 0, 0, 0, 0, 0, 0, 0, 0, 0, 0, 0, 0, 0, 0, 0, 0, 0, 0, 0, 0, 0, 0, 0, 0, 0, 0, 0, 0, 0, 0, 0, 0, 0, 0, 0, 0, 0, 0, 0, 0, 0, 0, 0, 0, 0, 0, 0, 0, 0, 0, 0, 0, 0, 0, 0, 0, 0, 0, 0, 0, 0, 0, 0, 0, 0, 0, 0, 0, 0, 0, 0] [3, 1, 4, 5, 6, 7, 2, 8, 0, 9, 10, 11, 12, 13, 14, 15, 16, 17, 18, 19, 20, 21, 22, 23, 24, 25, 26, 27, 28, 29, 30, 31, 32, 33, 34, 35, 36, 37, 38, 39, 40, 41, 42, 43, 44, 45, 46, 47, 48, 49, 50, 51, 52, 53, 54, 55, 56, 57, 58, 59, 60, 61, 62, 63, 64, 65, 66, 67, 68, 69, 70, 71, 72, 73, 74] (by decide +kernel) (by decide +kernel)
set_option maxRecDepth 20000 in
theorem gX12_pieces_X12_begins : GoodIn wsX12_pieces (wsV RX12 353 RX12 yX12_begins wsX12_begins) := goodIn_app (goodIn_of _ (by decide +kernel)) ggX12_pieces_X12_begins
theorem dX12_pieces_0 : decode cX12_pieces 0 = .ok (.iconst 0, 1) := by decide +kernel
theorem dX12_pieces_1 : decode cX12_pieces 1 = .ok (.istore_n 2, 1) := by decide +kernel
theorem dX12_pieces_2 : decode cX12_pieces 2 = .ok (.iconst 0, 1) := by decide +kernel
theorem dX12_pieces_3 : decode cX12_pieces 3 = .ok (.istore_n 3, 1) := by decide +kernel
theorem dX12_pieces_4 : decode cX12_pieces 4 = .ok (.iload_n 3, 1) := by decide +kernel
theorem dX12_pieces_5 : decode cX12_pieces 5 = .ok (.aload_n 0, 1) := by decide +kernel
theorem dX12_pieces_6 : decode cX12_pieces 6 = .ok (.iload_n 1, 1) := by decide +kernel
theorem dX12_pieces_7 : decode cX12_pieces 7 = .ok (.invokevirtual 350, 3) := by decide +kernel
theorem dX12_pieces_10 : decode cX12_pieces 10 = .ok (.if_icmp .ge 55, 3) := by decide +kernel
theorem dX12_pieces_13 : decode cX12_pieces 13 = .ok (.iconst 0, 1) := by decide +kernel
theorem dX12_pieces_14 : decode cX12_pieces 14 = .ok (.istore 4, 2) := by decide +kernel
theorem dX12_pieces_16 : decode cX12_pieces 16 = .ok (.iload 4, 2) := by decide +kernel
theorem dX12_pieces_18 : decode cX12_pieces 18 = .ok (.aload_n 0, 1) := by decide +kernel
theorem dX12_pieces_19 : decode cX12_pieces 19 = .ok (.getfield 90, 3) := by decide +kernel
theorem dX12_pieces_22 : decode cX12_pieces 22 = .ok (.aload_n 0, 1) := by decide +kernel
theorem dX12_pieces_23 : decode cX12_pieces 23 = .ok (.getfield 100, 3) := by decide +kernel
theorem dX12_pieces_26 : decode cX12_pieces 26 = .ok (.iload_n 1, 1) := by decide +kernel
theorem dX12_pieces_27 : decode cX12_pieces 27 = .ok (.iaload, 1) := by decide +kernel
theorem dX12_pieces_28 : decode cX12_pieces 28 = .ok (.iload_n 3, 1) := by decide +kernel
theorem dX12_pieces_29 : decode cX12_pieces 29 = .ok (.iadd, 1) := by decide +kernel
theorem dX12_pieces_30 : decode cX12_pieces 30 = .ok (.iaload, 1) := by decide +kernel
theorem dX12_pieces_31 : decode cX12_pieces 31 = .ok (.if_icmp .ge 28, 3) := by decide +kernel
theorem dX12_pieces_34 : decode cX12_pieces 34 = .ok (.iload_n 2, 1) := by decide +kernel
theorem dX12_pieces_35 : decode cX12_pieces 35 = .ok (.aload_n 0, 1) := by decide +kernel
theorem dX12_pieces_36 : decode cX12_pieces 36 = .ok (.iload_n 1, 1) := by decide +kernel
theorem dX12_pieces_37 : decode cX12_pieces 37 = .ok (.iload_n 3, 1) := by decide +kernel
theorem dX12_pieces_38 : decode cX12_pieces 38 = .ok (.iload 4, 2) := by decide +kernel
theorem dX12_pieces_40 : decode cX12_pieces 40 = .ok (.invokevirtual 353, 3) := by decide +kernel
theorem dX12_pieces_43 : decode cX12_pieces 43 = .ok (.ifCond .eq 7, 3) := by decide +kernel
theorem dX12_pieces_46 : decode cX12_pieces 46 = .ok (.iconst 1, 1) := by decide +kernel
theorem dX12_pieces_47 : decode cX12_pieces 47 = .ok (.goto 4, 3) := by decide +kernel
theorem dX12_pieces_50 : decode cX12_pieces 50 = .ok (.iconst 0, 1) := by decide +kernel
theorem dX12_pieces_51 : decode cX12_pieces 51 = .ok (.iadd, 1) := by decide +kernel
theorem dX12_pieces_52 : decode cX12_pieces 52 = .ok (.istore_n 2, 1) := by decide +kernel
theorem dX12_pieces_53 : decode cX12_pieces 53 = .ok (.iinc 4 1, 3) := by decide +kernel
theorem dX12_pieces_56 : decode cX12_pieces 56 = .ok (.goto (-40), 3) := by decide +kernel
theorem dX12_pieces_59 : decode cX12_pieces 59 = .ok (.iinc 3 1, 3) := by decide +kernel
theorem dX12_pieces_62 : decode cX12_pieces 62 = .ok (.goto (-58), 3) := by decide +kernel
theorem dX12_pieces_65 : decode cX12_pieces 65 = .ok (.iload_n 2, 1) := by decide +kernel
theorem dX12_pieces_66 : decode cX12_pieces 66 = .ok (.ireturn, 1) := by decide +kernel
set_option maxRecDepth 20000 in
theorem ggX12_skein_X12_isSkein : GoodIn wsX12_skein wsX12_isSkein := goodIn_h _ [9, 0, 0, 0, 0, 0, 78, 0, 0, 0, 0, 0, 0, 0, 0, 0, 0, 0, 0, 0, 0, 0, 0, 0, 0, 0, 0, 0, 0, 0, 0, 0, 0, 0, 0, 0, 0, 0, 0, 0, 0, 0, 0, 0, 0, 0, 0, 0, 0, 0, 0, 0, 0, 0, 0, 0, 0, 0, 0, 0, 0, 0, 0, 0, 0, 0, 0, 0, 0, 0, 0, 0] [1, 2, 3, 4, 0, 5, 6, 7, 8, 9, 10, 11, 12, 13, 14, 15, 16, 17, 18, 19, 20, 21, 22, 23, 24, 25, 26, 27, 28, 29, 30, 31, 32, 33, 34, 35, 36, 37, 38, 39, 40, 41, 42, 43, 44, 45, 46, 47, 48, 49, 50, 51, 52, 53, 54, 55, 56, 57, 58, 59, 60, 61, 62, 63, 64, 65, 66, 67, 68, 69, 70, 71] (by decide +kernel) (by decide +kernel)
set_option maxRecDepth 20000 in
theorem gX12_skein_X12_isSkein : GoodIn wsX12_skein (wsV RX12 362 RX12 yX12_isSkein wsX12_isSkein) := goodIn_app (goodIn_of _ (by decide +kernel)) ggX12_skein_X12_isSkein
set_option maxRecDepth 20000 in
theorem ggX12_skein_X12_metres : GoodIn wsX12_skein wsX12_metres := goodIn_h _ [18, 0, 73, 0, 0, 0, 0, 0, 0, 0, 0, 0, 0, 0, 0, 0, 0, 0, 0, 0, 0, 0, 0, 0, 0, 0, 0, 0, 0, 0, 0, 0, 0, 0, 0, 0, 0, 0, 0, 0, 0, 0, 0, 0, 0, 0, 0, 0, 0, 0, 0, 0, 0, 0, 0, 0, 0, 0, 0, 0, 0, 0, 0, 0, 0, 0, 0, 0] [0, 1, 2, 3, 4, 5, 6, 7, 8, 9, 10, 11, 12, 13, 14, 15, 16, 17, 18, 19, 20, 21, 22, 23, 24, 25, 26, 27, 28, 29, 30, 31, 32, 33, 34, 35, 36, 37, 38, 39, 40, 41, 42, 43, 44, 45, 46, 47, 48, 49, 50, 51, 52, 53, 54, 55, 56, 57, 58, 59, 60, 61, 62, 63, 64, 65, 66, 67] (by decide +kernel) (by decide +kernel)
set_option maxRecDepth 20000 in
theorem gX12_skein_X12_metres : GoodIn wsX12_skein (wsV RX12 350 RX12 yX12_metres wsX12_metres) := goodIn_app (goodIn_of _ (by decide +kernel)) ggX12_skein_X12_metres
set_option maxRecDepth 20000 in
theorem ggX12_skein_X12_weightOf : GoodIn wsX12_skein wsX12_weightOf := goodIn_h _ [9, 5, 0, 0, 0, 0, 3, 0, 0, 0, 0, 0, 0, 0, 0, 0, 0, 0, 0, 0, 0, 0, 0, 0, 0, 0, 0, 0, 0, 0, 0, 0, 0, 0, 0, 0, 40, 0, 0, 0, 0, 0, 0, 0, 0, 0, 0, 0, 0, 0, 0, 0, 0, 0, 0, 0, 0, 0, 0, 0, 0, 0, 0, 0, 0, 0, 0, 0, 0, 0, 0, 0, 0, 0, 0, 0, 0, 0, 0, 0, 0, 0, 0, 0, 0, 0, 0, 0, 0, 0, 0, 0, 0, 0, 0, 0, 0, 0, 0, 0, 0, 0] [6, 5, 1, 2, 3, 0, 4, 7, 8, 9, 10, 11, 12, 13, 14, 15, 16, 17, 18, 19, 20, 21, 22, 23, 24, 25, 26, 27, 28, 29, 30, 31, 32, 33, 34, 35, 36, 37, 38, 39, 40, 41, 42, 43, 44, 45, 46, 47, 48, 49, 50, 51, 52, 53, 54, 55, 56, 57, 58, 59, 60, 61, 62, 63, 64, 65, 66, 67, 68, 69, 70, 71, 72, 73, 74, 75, 76, 77, 78, 79, 80, 81, 82, 83, 84, 85, 86, 87, 88, 89, 90, 91, 92, 93, 94, 95, 96, 97, 98, 99, 100, 101] (by decide +kernel) (by decide +kernel)
set_option maxRecDepth 20000 in
theorem gX12_skein_X12_weightOf : GoodIn wsX12_skein (wsV RX12 356 RX12 yX12_weightOf wsX12_weightOf) := goodIn_app (goodIn_of _ (by decide +kernel)) ggX12_skein_X12_weightOf
set_option maxRecDepth 20000 in
theorem ggX12_skein_X12_least : GoodIn wsX12_skein wsX12_least := goodIn_h _ [9, 9, 8, 0, 0, 0, 0, 0, 0, 0, 0, 0, 0, 0, 0, 0, 0, 0, 0, 0, 0, 0, 0, 0, 0, 0, 0, 3, 0, 0, 0, 0, 0, 0, 0, 29, 0, 0, 0, 0, 0, 0, 0, 0, 0, 0, 0, 0, 0, 0, 0, 0, 0, 0, 0, 0, 0, 0, 0, 0, 0, 0, 0, 0, 0, 0, 0, 0, 0, 0, 0, 0, 0, 0, 0, 0, 0, 0, 0, 0, 0, 0, 0, 0, 0, 0, 0, 0, 0, 0, 0, 0, 0, 0, 0, 0, 0, 0, 0, 0, 0] [27, 1, 28, 29, 30, 31, 32, 33, 34, 2, 3, 4, 0, 5, 6, 7, 8, 9, 10, 11, 12, 13, 14, 15, 16, 17, 18, 19, 20, 21, 22, 23, 24, 25, 26, 35, 36, 37, 38, 39, 40, 41, 42, 43, 44, 45, 46, 47, 48, 49, 50, 51, 52, 53, 54, 55, 56, 57, 58, 59, 60, 61, 62, 63, 64, 65, 66, 67, 68, 69, 70, 71, 72, 73, 74, 75, 76, 77, 78, 79, 80, 81, 82, 83, 84, 85, 86, 87, 88, 89, 90, 91, 92, 93, 94, 95, 96, 97, 98, 99, 100] (by decide +kernel) (by decide +kernel)
set_option maxRecDepth 20000 in
theorem gX12_skein_X12_least : GoodIn wsX12_skein (wsV RX12 365 RX12 yX12_least wsX12_least) := goodIn_app (goodIn_of _ (by decide +kernel)) ggX12_skein_X12_least
set_option maxRecDepth 20000 in
theorem ggX12_skein_X12_slips : GoodIn wsX12_skein wsX12_slips := goodIn_h _ [9, 9, 8, 0, 0, 0, 0, 0, 0, 0, 0, 0, 0, 0, 0, 0, 0, 0, 0, 0, 0, 0, 0, 0, 0, 0, 0, 6, 7, 0, 0, 0, 22, 0, 0, 0, 0, 0, 0, 0, 0, 0, 0, 0, 0, 0, 0, 0, 0, 0, 0, 0, 0, 0, 0, 0, 0, 0, 0, 0, 0, 0, 0, 0, 0, 0, 0, 0, 0, 0, 0, 0, 0, 0, 0, 0, 0, 0, 0, 0, 0, 0, 0, 0, 0, 0, 0, 0, 0, 0, 0, 0, 0, 0, 0, 0, 0, 0] [28, 1, 29, 30, 27, 31, 2, 3, 4, 0, 5, 6, 7, 8, 9, 10, 11, 12, 13, 14, 15, 16, 17, 18, 19, 20, 21, 22, 23, 24, 25, 26, 32, 33, 34, 35, 36, 37, 38, 39, 40, 41, 42, 43, 44, 45, 46, 47, 48, 49, 50, 51, 52, 53, 54, 55, 56, 57, 58, 59, 60, 61, 62, 63, 64, 65, 66, 67, 68, 69, 70, 71, 72, 73, 74, 75, 76, 77, 78, 79, 80, 81, 82, 83, 84, 85, 86, 87, 88, 89, 90, 91, 92, 93, 94, 95, 96, 97] (by decide +kernel) (by decide +kernel)
set_option maxRecDepth 20000 in
theorem gX12_skein_X12_slips : GoodIn wsX12_skein (wsV RX12 369 RX12 yX12_slips wsX12_slips) := goodIn_app (goodIn_of _ (by decide +kernel)) ggX12_skein_X12_slips
set_option maxRecDepth 20000 in
theorem ggX12_skein_X12_pieces : GoodIn wsX12_skein wsX12_pieces := goodIn_h _ [9, 5, 0, 0, 0, 0, 12, 0, 40, 0, 0, 0, 0, 0, 0, 0, 0, 10, 0, 0, 0, 0, 0, 0, 0, 0, 0, 0, 0, 0, 0, 0, 0, 0, 0, 0, 0, 0, 0, 0, 0, 0, 0, 0, 0, 0, 0, 0, 0, 0, 0, 0, 0, 0, 0, 0, 0, 0, 0, 0, 0, 0, 0, 0, 0, 0, 0, 0, 0, 0, 0, 0, 0, 0, 0, 0, 0, 0, 0, 0, 0, 0, 0] [8, 6, 5, 1, 2, 3, 0, 4, 9, 10, 11, 12, 7, 13, 14, 15, 16, 17, 18, 19, 20, 21, 22, 23, 24, 25, 26, 27, 28, 29, 30, 31, 32, 33, 34, 35, 36, 37, 38, 39, 40, 41, 42, 43, 44, 45, 46, 47, 48, 49, 50, 51, 52, 53, 54, 55, 56, 57, 58, 59, 60, 61, 62, 63, 64, 65, 66, 67, 68, 69, 70, 71, 72, 73, 74, 75, 76, 77, 78, 79, 80, 81, 82] (by decide +kernel) (by decide +kernel)
set_option maxRecDepth 20000 in
theorem gX12_skein_X12_pieces : GoodIn wsX12_skein (wsV RX12 372 RX12 yX12_pieces wsX12_pieces) := goodIn_app (goodIn_of _ (by decide +kernel)) ggX12_skein_X12_pieces
set_option maxRecDepth 20000 in
theorem ggX12_skein_X12_gradeOf : GoodIn wsX12_skein wsX12_gradeOf := goodIn_h _ [86, 0, 5, 0, 0, 0, 0, 0, 0, 0, 0, 0, 0, 0, 0, 0, 0, 0, 0, 0, 0, 0, 0, 0, 0, 0, 0, 0, 0, 0, 0, 0, 0, 0, 0, 0, 0, 0, 0, 0, 0, 0, 0, 0, 0, 0, 0, 0, 0, 0, 0, 0, 0, 0, 0, 0, 0, 0, 0, 0, 0, 0, 0, 0, 0, 0, 0, 0] [0, 1, 2, 3, 4, 5, 6, 7, 8, 9, 10, 11, 12, 13, 14, 15, 16, 17, 18, 19, 20, 21, 22, 23, 24, 25, 26, 27, 28, 29, 30, 31, 32, 33, 34, 35, 36, 37, 38, 39, 40, 41, 42, 43, 44, 45, 46, 47, 48, 49, 50, 51, 52, 53, 54, 55, 56, 57, 58, 59, 60, 61, 62, 63, 64, 65, 66, 67] (by decide +kernel) (by decide +kernel)
set_option maxRecDepth 20000 in
theorem gX12_skein_X12_gradeOf : GoodIn wsX12_skein (wsV RX12 359 RX12 yX12_gradeOf wsX12_gradeOf) := goodIn_app (goodIn_of _ (by decide +kernel)) ggX12_skein_X12_gradeOf
set_option maxRecDepth 20000 in
theorem ggX12_skein_X12_priceOf : GoodIn wsX12_skein wsX12_priceOf := goodIn_h _ [9, 5, 0, 0, 0, 0, 0, 0, 0, 0, 0, 0, 0, 0, 0, 0, 0, 0, 0, 0, 0, 0, 0, 0, 0, 0, 0, 0, 0, 0, 0, 0, 0, 0, 0, 0, 0, 0, 0, 30, 0, 0, 0, 0, 3, 0, 0, 0, 0, 0, 0, 0, 0, 0, 0, 0, 0, 0, 0, 0, 0, 0, 0, 0, 0, 0, 0, 0, 0, 0, 0, 0, 0, 0, 0, 0, 0, 0, 0, 0, 0, 0, 0, 0, 0, 0, 0, 0, 0, 0, 0, 0, 0, 0, 0, 0, 0, 0, 0, 0, 0, 0, 0, 0, 0, 0, 0, 0, 0, 0, 0, 0] [44, 45, 6, 7, 8, 0, 9, 5, 1, 2, 3, 4, 10, 11, 12, 13, 14, 15, 16, 17, 18, 19, 20, 21, 22, 23, 24, 25, 26, 27, 28, 29, 30, 31, 32, 33, 34, 35, 36, 37, 38, 39, 40, 41, 42, 43, 46, 47, 48, 49, 50, 51, 52, 53, 54, 55, 56, 57, 58, 59, 60, 61, 62, 63, 64, 65, 66, 67, 68, 69, 70, 71, 72, 73, 74, 75, 76, 77, 78, 79, 80, 81, 82, 83, 84, 85, 86, 87, 88, 89, 90, 91, 92, 93, 94, 95, 96, 97, 98, 99, 100, 101, 102, 103, 104, 105, 106, 107, 108, 109, 110, 111] (by decide +kernel) (by decide +kernel)
set_option maxRecDepth 20000 in
theorem gX12_skein_X12_priceOf : GoodIn wsX12_skein (wsV RX12 375 RX12 yX12_priceOf wsX12_priceOf) := goodIn_app (goodIn_of _ (by decide +kernel)) ggX12_skein_X12_priceOf
theorem dX12_skein_0 : decode cX12_skein 0 = .ok (.aload_n 0, 1) := by decide +kernel
theorem dX12_skein_1 : decode cX12_skein 1 = .ok (.iconst 0, 1) := by decide +kernel
theorem dX12_skein_2 : decode cX12_skein 2 = .ok (.putfield 161, 3) := by decide +kernel
theorem dX12_skein_5 : decode cX12_skein 5 = .ok (.aload_n 0, 1) := by decide +kernel
theorem dX12_skein_6 : decode cX12_skein 6 = .ok (.iload_n 1, 1) := by decide +kernel
theorem dX12_skein_7 : decode cX12_skein 7 = .ok (.invokevirtual 362, 3) := by decide +kernel
theorem dX12_skein_10 : decode cX12_skein 10 = .ok (.ifCond .ne 5, 3) := by decide +kernel
theorem dX12_skein_13 : decode cX12_skein 13 = .ok (.iconst (-1), 1) := by decide +kernel
theorem dX12_skein_14 : decode cX12_skein 14 = .ok (.ireturn, 1) := by decide +kernel
theorem dX12_skein_15 : decode cX12_skein 15 = .ok (.iload_n 2, 1) := by decide +kernel
theorem dX12_skein_16 : decode cX12_skein 16 = .ok (.tableswitch 152 0 11 #[64, 71, 78, 84, 90, 90, 106, 112, 118, 124, 139, 145], 64) := by decide +kernel
theorem dX12_skein_80 : decode cX12_skein 80 = .ok (.aload_n 0, 1) := by decide +kernel
theorem dX12_skein_81 : decode cX12_skein 81 = .ok (.getfield 103, 3) := by decide +kernel
theorem dX12_skein_84 : decode cX12_skein 84 = .ok (.iload_n 1, 1) := by decide +kernel
theorem dX12_skein_85 : decode cX12_skein 85 = .ok (.iaload, 1) := by decide +kernel
theorem dX12_skein_86 : decode cX12_skein 86 = .ok (.ireturn, 1) := by decide +kernel
theorem dX12_skein_87 : decode cX12_skein 87 = .ok (.aload_n 0, 1) := by decide +kernel
theorem dX12_skein_88 : decode cX12_skein 88 = .ok (.getfield 106, 3) := by decide +kernel
theorem dX12_skein_91 : decode cX12_skein 91 = .ok (.iload_n 1, 1) := by decide +kernel
theorem dX12_skein_92 : decode cX12_skein 92 = .ok (.iaload, 1) := by decide +kernel
theorem dX12_skein_93 : decode cX12_skein 93 = .ok (.ireturn, 1) := by decide +kernel
theorem dX12_skein_94 : decode cX12_skein 94 = .ok (.aload_n 0, 1) := by decide +kernel
theorem dX12_skein_95 : decode cX12_skein 95 = .ok (.iload_n 1, 1) := by decide +kernel
theorem dX12_skein_96 : decode cX12_skein 96 = .ok (.invokevirtual 350, 3) := by decide +kernel
theorem dX12_skein_99 : decode cX12_skein 99 = .ok (.ireturn, 1) := by decide +kernel
theorem dX12_skein_100 : decode cX12_skein 100 = .ok (.aload_n 0, 1) := by decide +kernel
theorem dX12_skein_101 : decode cX12_skein 101 = .ok (.iload_n 1, 1) := by decide +kernel
theorem dX12_skein_102 : decode cX12_skein 102 = .ok (.invokevirtual 356, 3) := by decide +kernel
theorem dX12_skein_105 : decode cX12_skein 105 = .ok (.ireturn, 1) := by decide +kernel
theorem dX12_skein_106 : decode cX12_skein 106 = .ok (.aload_n 0, 1) := by decide +kernel
theorem dX12_skein_107 : decode cX12_skein 107 = .ok (.iload_n 1, 1) := by decide +kernel
theorem dX12_skein_108 : decode cX12_skein 108 = .ok (.iload_n 2, 1) := by decide +kernel
theorem dX12_skein_109 : decode cX12_skein 109 = .ok (.iconst 5, 1) := by decide +kernel
theorem dX12_skein_110 : decode cX12_skein 110 = .ok (.if_icmp .ne 7, 3) := by decide +kernel
theorem dX12_skein_113 : decode cX12_skein 113 = .ok (.iconst 1, 1) := by decide +kernel
theorem dX12_skein_114 : decode cX12_skein 114 = .ok (.goto 4, 3) := by decide +kernel
theorem dX12_skein_117 : decode cX12_skein 117 = .ok (.iconst 0, 1) := by decide +kernel
theorem dX12_skein_118 : decode cX12_skein 118 = .ok (.invokevirtual 365, 3) := by decide +kernel
theorem dX12_skein_121 : decode cX12_skein 121 = .ok (.ireturn, 1) := by decide +kernel
theorem dX12_skein_122 : decode cX12_skein 122 = .ok (.aload_n 0, 1) := by decide +kernel
theorem dX12_skein_123 : decode cX12_skein 123 = .ok (.iload_n 1, 1) := by decide +kernel
theorem dX12_skein_124 : decode cX12_skein 124 = .ok (.invokevirtual 369, 3) := by decide +kernel
theorem dX12_skein_127 : decode cX12_skein 127 = .ok (.ireturn, 1) := by decide +kernel
theorem dX12_skein_128 : decode cX12_skein 128 = .ok (.aload_n 0, 1) := by decide +kernel
theorem dX12_skein_129 : decode cX12_skein 129 = .ok (.iload_n 1, 1) := by decide +kernel
theorem dX12_skein_130 : decode cX12_skein 130 = .ok (.invokevirtual 372, 3) := by decide +kernel
theorem dX12_skein_133 : decode cX12_skein 133 = .ok (.ireturn, 1) := by decide +kernel
theorem dX12_skein_134 : decode cX12_skein 134 = .ok (.aload_n 0, 1) := by decide +kernel
theorem dX12_skein_135 : decode cX12_skein 135 = .ok (.iload_n 1, 1) := by decide +kernel
theorem dX12_skein_136 : decode cX12_skein 136 = .ok (.invokevirtual 359, 3) := by decide +kernel
theorem dX12_skein_139 : decode cX12_skein 139 = .ok (.ireturn, 1) := by decide +kernel
theorem dX12_skein_140 : decode cX12_skein 140 = .ok (.aload_n 0, 1) := by decide +kernel
theorem dX12_skein_141 : decode cX12_skein 141 = .ok (.getfield 115, 3) := by decide +kernel
theorem dX12_skein_144 : decode cX12_skein 144 = .ok (.iload_n 1, 1) := by decide +kernel
theorem dX12_skein_145 : decode cX12_skein 145 = .ok (.baload, 1) := by decide +kernel
theorem dX12_skein_146 : decode cX12_skein 146 = .ok (.ifCond .eq 7, 3) := by decide +kernel
theorem dX12_skein_149 : decode cX12_skein 149 = .ok (.iconst 1, 1) := by decide +kernel
theorem dX12_skein_150 : decode cX12_skein 150 = .ok (.goto 4, 3) := by decide +kernel
theorem dX12_skein_153 : decode cX12_skein 153 = .ok (.iconst 0, 1) := by decide +kernel
theorem dX12_skein_154 : decode cX12_skein 154 = .ok (.ireturn, 1) := by decide +kernel
theorem dX12_skein_155 : decode cX12_skein 155 = .ok (.aload_n 0, 1) := by decide +kernel
theorem dX12_skein_156 : decode cX12_skein 156 = .ok (.iload_n 1, 1) := by decide +kernel
theorem dX12_skein_157 : decode cX12_skein 157 = .ok (.invokevirtual 375, 3) := by decide +kernel
theorem dX12_skein_160 : decode cX12_skein 160 = .ok (.ireturn, 1) := by decide +kernel
theorem dX12_skein_161 : decode cX12_skein 161 = .ok (.aload_n 0, 1) := by decide +kernel
theorem dX12_skein_162 : decode cX12_skein 162 = .ok (.getfield 109, 3) := by decide +kernel
theorem dX12_skein_165 : decode cX12_skein 165 = .ok (.iload_n 1, 1) := by decide +kernel
theorem dX12_skein_166 : decode cX12_skein 166 = .ok (.iaload, 1) := by decide +kernel
theorem dX12_skein_167 : decode cX12_skein 167 = .ok (.ireturn, 1) := by decide +kernel
theorem dX12_skein_168 : decode cX12_skein 168 = .ok (.iconst (-1), 1) := by decide +kernel
theorem dX12_skein_169 : decode cX12_skein 169 = .ok (.ireturn, 1) := by decide +kernel
set_option maxRecDepth 20000 in
theorem ggX12_piece_X12_isSkein : GoodIn wsX12_piece wsX12_isSkein := goodIn_h _ [8, 0, 0, 0, 0, 0, 16, 0, 0, 0, 0, 0, 0, 0, 0, 0, 0, 0, 0, 0, 0, 0, 0, 0, 0, 0, 0, 0, 0, 0, 0, 0, 0, 0, 0, 0, 0, 0, 0, 0, 0, 0, 0, 0, 0, 0, 0, 0, 0, 0, 0, 0, 0, 0, 0, 0, 0, 0, 0, 0, 0, 0, 0, 0, 0, 0, 0, 0, 0, 0, 0, 0] [1, 2, 3, 4, 0, 5, 6, 7, 8, 9, 10, 11, 12, 13, 14, 15, 16, 17, 18, 19, 20, 21, 22, 23, 24, 25, 26, 27, 28, 29, 30, 31, 32, 33, 34, 35, 36, 37, 38, 39, 40, 41, 42, 43, 44, 45, 46, 47, 48, 49, 50, 51, 52, 53, 54, 55, 56, 57, 58, 59, 60, 61, 62, 63, 64, 65, 66, 67, 68, 69, 70, 71] (by decide +kernel) (by decide +kernel)
set_option maxRecDepth 20000 in
theorem gX12_piece_X12_isSkein : GoodIn wsX12_piece (wsV RX12 362 RX12 yX12_isSkein wsX12_isSkein) := goodIn_app (goodIn_of _ (by decide +kernel)) ggX12_piece_X12_isSkein
set_option maxRecDepth 20000 in
theorem ggX12_piece_X12_within : GoodIn wsX12_piece wsX12_within := goodIn_h _ [13] [0] (by decide +kernel) (by decide +kernel)
set_option maxRecDepth 20000 in
theorem gX12_piece_X12_within : GoodIn wsX12_piece (va_wsS RX12 168 yX12_within wsX12_within) := goodIn_app (goodIn_of _ (by decide +kernel)) ggX12_piece_X12_within
set_option maxRecDepth 20000 in
theorem ggX12_piece_X12_metres : GoodIn wsX12_piece wsX12_metres := goodIn_h _ [3, 13, 12, 0, 0, 0, 0, 0, 0, 0, 0, 0, 0, 0, 0, 0, 0, 0, 0, 0, 0, 0, 0, 0, 0, 0, 0, 0, 0, 0, 0, 0, 0, 0, 0, 0, 0, 0, 0, 0, 0, 0, 0, 0, 0, 0, 0, 0, 0, 0, 0, 0, 0, 0, 0, 0, 0, 0, 0, 0, 0, 0, 0, 0, 0, 0, 0, 0] [1, 0, 2, 3, 4, 5, 6, 7, 8, 9, 10, 11, 12, 13, 14, 15, 16, 17, 18, 19, 20, 21, 22, 23, 24, 25, 26, 27, 28, 29, 30, 31, 32, 33, 34, 35, 36, 37, 38, 39, 40, 41, 42, 43, 44, 45, 46, 47, 48, 49, 50, 51, 52, 53, 54, 55, 56, 57, 58, 59, 60, 61, 62, 63, 64, 65, 66, 67] (by decide +kernel) (by decide +kernel)
set_option maxRecDepth 20000 in
theorem gX12_piece_X12_metres : GoodIn wsX12_piece (wsV RX12 350 RX12 yX12_metres wsX12_metres) := goodIn_app (goodIn_of _ (by decide +kernel)) ggX12_piece_X12_metres
set_option maxRecDepth 20000 in
theorem ggX12_piece_X12_begins : GoodIn wsX12_piece wsX12_begins := goodIn_h _ [2, 0, 0, 3, 12, 0, 0, 0, 0, 4, 0, 0, 0, 0, 0, 0, 0, 0, 0, 0, 0, 0, 0, 0, 0, 0, 0, 0, 0, 0, 0, 0, 0, 0, 0, 0, 0, 0, 0, 0, 0, 0, 0, 0, 0, 0, 0, 0, 0, 0, 0, 0, 0, 0, 0, 0, 0, 0, 0, 0, 0, 0, 0, 0, 0, 0, 0, 0, 0, 0, 0, 0, 0, 0, 0] [4, 1, 2, 5, 6, 7, 3, 8, 0, 9, 10, 11, 12, 13, 14, 15, 16, 17, 18, 19, 20, 21, 22, 23, 24, 25, 26, 27, 28, 29, 30, 31, 32, 33, 34, 35, 36, 37, 38, 39, 40, 41, 42, 43, 44, 45, 46, 47, 48, 49, 50, 51, 52, 53, 54, 55, 56, 57, 58, 59, 60, 61, 62, 63, 64, 65, 66, 67, 68, 69, 70, 71, 72, 73, 74] (by decide +kernel) (by decide +kernel)
set_option maxRecDepth 20000 in
theorem gX12_piece_X12_begins : GoodIn wsX12_piece (wsV RX12 353 RX12 yX12_begins wsX12_begins) := goodIn_app (goodIn_of _ (by decide +kernel)) ggX12_piece_X12_begins
set_option maxRecDepth 20000 in
theorem ggX12_piece_X12_told : GoodIn wsX12_piece wsX12_told := goodIn_h _ [2, 0, 0, 3, 5, 0, 0, 0, 4, 0, 0, 0, 3, 0, 0, 0, 0, 0, 0, 0, 0, 0, 0, 0, 0, 0, 0, 0, 0, 0, 0, 0, 0, 0, 0, 0, 0, 0, 0, 0, 0, 0, 0, 0, 0, 0, 0, 0, 0, 0, 0, 0, 0, 0, 0, 0, 0, 0, 0, 0, 0, 0, 0, 0, 0, 0, 0, 0, 0, 0, 0, 0, 0, 0, 0, 0, 0, 0, 0] [12, 1, 4, 5, 6, 3, 7, 8, 9, 10, 11, 0, 2, 13, 14, 15, 16, 17, 18, 19, 20, 21, 22, 23, 24, 25, 26, 27, 28, 29, 30, 31, 32, 33, 34, 35, 36, 37, 38, 39, 40, 41, 42, 43, 44, 45, 46, 47, 48, 49, 50, 51, 52, 53, 54, 55, 56, 57, 58, 59, 60, 61, 62, 63, 64, 65, 66, 67, 68, 69, 70, 71, 72, 73, 74, 75, 76, 77, 78] (by decide +kernel) (by decide +kernel)
set_option maxRecDepth 20000 in
theorem gX12_piece_X12_told : GoodIn wsX12_piece (wsV RX12 378 RX12 yX12_told wsX12_told) := goodIn_app (goodIn_of _ (by decide +kernel)) ggX12_piece_X12_told
theorem dX12_piece_0 : decode cX12_piece 0 = .ok (.aload_n 0, 1) := by decide +kernel
theorem dX12_piece_1 : decode cX12_piece 1 = .ok (.iconst 0, 1) := by decide +kernel
theorem dX12_piece_2 : decode cX12_piece 2 = .ok (.putfield 161, 3) := by decide +kernel
theorem dX12_piece_5 : decode cX12_piece 5 = .ok (.aload_n 0, 1) := by decide +kernel
theorem dX12_piece_6 : decode cX12_piece 6 = .ok (.iload_n 1, 1) := by decide +kernel
theorem dX12_piece_7 : decode cX12_piece 7 = .ok (.invokevirtual 362, 3) := by decide +kernel
theorem dX12_piece_10 : decode cX12_piece 10 = .ok (.ifCond .eq 16, 3) := by decide +kernel
theorem dX12_piece_13 : decode cX12_piece 13 = .ok (.iload_n 2, 1) := by decide +kernel
theorem dX12_piece_14 : decode cX12_piece 14 = .ok (.ifCond .lt 12, 3) := by decide +kernel
theorem dX12_piece_17 : decode cX12_piece 17 = .ok (.iload_n 3, 1) := by decide +kernel
theorem dX12_piece_18 : decode cX12_piece 18 = .ok (.iconst 0, 1) := by decide +kernel
theorem dX12_piece_19 : decode cX12_piece 19 = .ok (.iconst 4, 1) := by decide +kernel
theorem dX12_piece_20 : decode cX12_piece 20 = .ok (.invokestatic 168, 3) := by decide +kernel
theorem dX12_piece_23 : decode cX12_piece 23 = .ok (.ifCond .ne 5, 3) := by decide +kernel
theorem dX12_piece_26 : decode cX12_piece 26 = .ok (.iconst (-1), 1) := by decide +kernel
theorem dX12_piece_27 : decode cX12_piece 27 = .ok (.ireturn, 1) := by decide +kernel
theorem dX12_piece_28 : decode cX12_piece 28 = .ok (.iload_n 2, 1) := by decide +kernel
theorem dX12_piece_29 : decode cX12_piece 29 = .ok (.istore 4, 2) := by decide +kernel
theorem dX12_piece_31 : decode cX12_piece 31 = .ok (.iconst 0, 1) := by decide +kernel
theorem dX12_piece_32 : decode cX12_piece 32 = .ok (.istore 5, 2) := by decide +kernel
theorem dX12_piece_34 : decode cX12_piece 34 = .ok (.iload 5, 2) := by decide +kernel
theorem dX12_piece_36 : decode cX12_piece 36 = .ok (.aload_n 0, 1) := by decide +kernel
theorem dX12_piece_37 : decode cX12_piece 37 = .ok (.iload_n 1, 1) := by decide +kernel
theorem dX12_piece_38 : decode cX12_piece 38 = .ok (.invokevirtual 350, 3) := by decide +kernel
theorem dX12_piece_41 : decode cX12_piece 41 = .ok (.if_icmp .ge 89, 3) := by decide +kernel
theorem dX12_piece_44 : decode cX12_piece 44 = .ok (.iconst 0, 1) := by decide +kernel
theorem dX12_piece_45 : decode cX12_piece 45 = .ok (.istore 6, 2) := by decide +kernel
theorem dX12_piece_47 : decode cX12_piece 47 = .ok (.iload 6, 2) := by decide +kernel
theorem dX12_piece_49 : decode cX12_piece 49 = .ok (.aload_n 0, 1) := by decide +kernel
theorem dX12_piece_50 : decode cX12_piece 50 = .ok (.getfield 90, 3) := by decide +kernel
theorem dX12_piece_53 : decode cX12_piece 53 = .ok (.aload_n 0, 1) := by decide +kernel
theorem dX12_piece_54 : decode cX12_piece 54 = .ok (.getfield 100, 3) := by decide +kernel
theorem dX12_piece_57 : decode cX12_piece 57 = .ok (.iload_n 1, 1) := by decide +kernel
theorem dX12_piece_58 : decode cX12_piece 58 = .ok (.iaload, 1) := by decide +kernel
theorem dX12_piece_59 : decode cX12_piece 59 = .ok (.iload 5, 2) := by decide +kernel
theorem dX12_piece_61 : decode cX12_piece 61 = .ok (.iadd, 1) := by decide +kernel
theorem dX12_piece_62 : decode cX12_piece 62 = .ok (.iaload, 1) := by decide +kernel
theorem dX12_piece_63 : decode cX12_piece 63 = .ok (.if_icmp .ge 61, 3) := by decide +kernel
theorem dX12_piece_66 : decode cX12_piece 66 = .ok (.aload_n 0, 1) := by decide +kernel
theorem dX12_piece_67 : decode cX12_piece 67 = .ok (.iload_n 1, 1) := by decide +kernel
theorem dX12_piece_68 : decode cX12_piece 68 = .ok (.iload 5, 2) := by decide +kernel
theorem dX12_piece_70 : decode cX12_piece 70 = .ok (.iload 6, 2) := by decide +kernel
theorem dX12_piece_72 : decode cX12_piece 72 = .ok (.invokevirtual 353, 3) := by decide +kernel
theorem dX12_piece_75 : decode cX12_piece 75 = .ok (.ifCond .ne 6, 3) := by decide +kernel
theorem dX12_piece_78 : decode cX12_piece 78 = .ok (.goto 40, 3) := by decide +kernel
theorem dX12_piece_81 : decode cX12_piece 81 = .ok (.iload 4, 2) := by decide +kernel
theorem dX12_piece_83 : decode cX12_piece 83 = .ok (.ifCond .ne 32, 3) := by decide +kernel
theorem dX12_piece_86 : decode cX12_piece 86 = .ok (.aload_n 0, 1) := by decide +kernel
theorem dX12_piece_87 : decode cX12_piece 87 = .ok (.iload_n 1, 1) := by decide +kernel
theorem dX12_piece_88 : decode cX12_piece 88 = .ok (.iload 5, 2) := by decide +kernel
theorem dX12_piece_90 : decode cX12_piece 90 = .ok (.aload_n 0, 1) := by decide +kernel
theorem dX12_piece_91 : decode cX12_piece 91 = .ok (.getfield 94, 3) := by decide +kernel
theorem dX12_piece_94 : decode cX12_piece 94 = .ok (.bipush 12, 2) := by decide +kernel
theorem dX12_piece_96 : decode cX12_piece 96 = .ok (.aload_n 0, 1) := by decide +kernel
theorem dX12_piece_97 : decode cX12_piece 97 = .ok (.getfield 100, 3) := by decide +kernel
theorem dX12_piece_100 : decode cX12_piece 100 = .ok (.iload_n 1, 1) := by decide +kernel
theorem dX12_piece_101 : decode cX12_piece 101 = .ok (.iaload, 1) := by decide +kernel
theorem dX12_piece_102 : decode cX12_piece 102 = .ok (.iload 5, 2) := by decide +kernel
theorem dX12_piece_104 : decode cX12_piece 104 = .ok (.iadd, 1) := by decide +kernel
theorem dX12_piece_105 : decode cX12_piece 105 = .ok (.imul, 1) := by decide +kernel
theorem dX12_piece_106 : decode cX12_piece 106 = .ok (.iload 6, 2) := by decide +kernel
theorem dX12_piece_108 : decode cX12_piece 108 = .ok (.iadd, 1) := by decide +kernel
theorem dX12_piece_109 : decode cX12_piece 109 = .ok (.iaload, 1) := by decide +kernel
theorem dX12_piece_110 : decode cX12_piece 110 = .ok (.iload_n 3, 1) := by decide +kernel
theorem dX12_piece_111 : decode cX12_piece 111 = .ok (.invokevirtual 378, 3) := by decide +kernel
theorem dX12_piece_114 : decode cX12_piece 114 = .ok (.ireturn, 1) := by decide +kernel
theorem dX12_piece_115 : decode cX12_piece 115 = .ok (.iinc 4 (-1), 3) := by decide +kernel
theorem dX12_piece_118 : decode cX12_piece 118 = .ok (.iinc 6 1, 3) := by decide +kernel
theorem dX12_piece_121 : decode cX12_piece 121 = .ok (.goto (-74), 3) := by decide +kernel
theorem dX12_piece_124 : decode cX12_piece 124 = .ok (.iinc 5 1, 3) := by decide +kernel
theorem dX12_piece_127 : decode cX12_piece 127 = .ok (.goto (-93), 3) := by decide +kernel
theorem dX12_piece_130 : decode cX12_piece 130 = .ok (.iconst (-1), 1) := by decide +kernel
theorem dX12_piece_131 : decode cX12_piece 131 = .ok (.ireturn, 1) := by decide +kernel
set_option maxRecDepth 20000 in
theorem ggX12_told_X12_metres : GoodIn wsX12_told wsX12_metres := goodIn_h _ [1, 4, 6, 0, 0, 0, 0, 0, 0, 0, 0, 0, 0, 0, 0, 0, 0, 0, 0, 0, 0, 0, 0, 0, 0, 0, 0, 0, 0, 0, 0, 0, 0, 0, 0, 0, 0, 0, 0, 0, 0, 0, 0, 0, 0, 0, 0, 0, 0, 0, 0, 0, 0, 0, 0, 0, 0, 0, 0, 0, 0, 0, 0, 0, 0, 0, 0, 0] [1, 0, 2, 3, 4, 5, 6, 7, 8, 9, 10, 11, 12, 13, 14, 15, 16, 17, 18, 19, 20, 21, 22, 23, 24, 25, 26, 27, 28, 29, 30, 31, 32, 33, 34, 35, 36, 37, 38, 39, 40, 41, 42, 43, 44, 45, 46, 47, 48, 49, 50, 51, 52, 53, 54, 55, 56, 57, 58, 59, 60, 61, 62, 63, 64, 65, 66, 67] (by decide +kernel) (by decide +kernel)
set_option maxRecDepth 20000 in
theorem gX12_told_X12_metres : GoodIn wsX12_told (wsV RX12 350 RX12 yX12_metres wsX12_metres) := goodIn_app (goodIn_of _ (by decide +kernel)) ggX12_told_X12_metres
set_option maxRecDepth 20000 in
theorem ggX12_told_X12_endOf : GoodIn wsX12_told wsX12_endOf := goodIn_h _ [10, 0, 0, 0, 0, 0, 0, 0, 0, 0, 0, 0, 0, 0, 0, 0, 0, 0, 0, 0, 0, 0, 0, 0, 0, 0, 0, 0, 0, 0, 0, 0, 0, 0, 0, 0, 0, 0, 0, 0, 0, 0, 0, 0, 0, 0, 0, 0, 0, 0, 0, 0, 0, 0, 0, 0, 0, 0, 0, 0, 0, 0, 0, 0, 0, 0, 0, 0, 0] [0, 1, 2, 3, 4, 5, 6, 7, 8, 9, 10, 11, 12, 13, 14, 15, 16, 17, 18, 19, 20, 21, 22, 23, 24, 25, 26, 27, 28, 29, 30, 31, 32, 33, 34, 35, 36, 37, 38, 39, 40, 41, 42, 43, 44, 45, 46, 47, 48, 49, 50, 51, 52, 53, 54, 55, 56, 57, 58, 59, 60, 61, 62, 63, 64, 65, 66, 67, 68] (by decide +kernel) (by decide +kernel)
set_option maxRecDepth 20000 in
theorem gX12_told_X12_endOf : GoodIn wsX12_told (wsV RX12 336 RX12 yX12_endOf wsX12_endOf) := goodIn_app (goodIn_of _ (by decide +kernel)) ggX12_told_X12_endOf
theorem dX12_told_0 : decode cX12_told 0 = .ok (.iload_n 3, 1) := by decide +kernel
theorem dX12_told_1 : decode cX12_told 1 = .ok (.sipush 1000, 3) := by decide +kernel
theorem dX12_told_4 : decode cX12_told 4 = .ok (.idiv, 1) := by decide +kernel
theorem dX12_told_5 : decode cX12_told 5 = .ok (.istore 5, 2) := by decide +kernel
theorem dX12_told_7 : decode cX12_told 7 = .ok (.iload 4, 2) := by decide +kernel
theorem dX12_told_9 : decode cX12_told 9 = .ok (.tableswitch 55 0 4 #[35, 41, 47, 55, 49], 35) := by decide +kernel
theorem dX12_told_44 : decode cX12_told 44 = .ok (.iload 5, 2) := by decide +kernel
theorem dX12_told_46 : decode cX12_told 46 = .ok (.bipush 60, 2) := by decide +kernel
theorem dX12_told_48 : decode cX12_told 48 = .ok (.idiv, 1) := by decide +kernel
theorem dX12_told_49 : decode cX12_told 49 = .ok (.ireturn, 1) := by decide +kernel
theorem dX12_told_50 : decode cX12_told 50 = .ok (.iload 5, 2) := by decide +kernel
theorem dX12_told_52 : decode cX12_told 52 = .ok (.bipush 60, 2) := by decide +kernel
theorem dX12_told_54 : decode cX12_told 54 = .ok (.irem, 1) := by decide +kernel
theorem dX12_told_55 : decode cX12_told 55 = .ok (.ireturn, 1) := by decide +kernel
theorem dX12_told_56 : decode cX12_told 56 = .ok (.iload_n 2, 1) := by decide +kernel
theorem dX12_told_57 : decode cX12_told 57 = .ok (.ireturn, 1) := by decide +kernel
theorem dX12_told_58 : decode cX12_told 58 = .ok (.iload_n 3, 1) := by decide +kernel
theorem dX12_told_59 : decode cX12_told 59 = .ok (.sipush 1000, 3) := by decide +kernel
theorem dX12_told_62 : decode cX12_told 62 = .ok (.irem, 1) := by decide +kernel
theorem dX12_told_63 : decode cX12_told 63 = .ok (.ireturn, 1) := by decide +kernel
theorem dX12_told_64 : decode cX12_told 64 = .ok (.iconst 1, 1) := by decide +kernel
theorem dX12_told_65 : decode cX12_told 65 = .ok (.istore 6, 2) := by decide +kernel
theorem dX12_told_67 : decode cX12_told 67 = .ok (.iload_n 2, 1) := by decide +kernel
theorem dX12_told_68 : decode cX12_told 68 = .ok (.iload 6, 2) := by decide +kernel
theorem dX12_told_70 : decode cX12_told 70 = .ok (.iadd, 1) := by decide +kernel
theorem dX12_told_71 : decode cX12_told 71 = .ok (.aload_n 0, 1) := by decide +kernel
theorem dX12_told_72 : decode cX12_told 72 = .ok (.iload_n 1, 1) := by decide +kernel
theorem dX12_told_73 : decode cX12_told 73 = .ok (.invokevirtual 350, 3) := by decide +kernel
theorem dX12_told_76 : decode cX12_told 76 = .ok (.if_icmp .ge 30, 3) := by decide +kernel
theorem dX12_told_79 : decode cX12_told 79 = .ok (.aload_n 0, 1) := by decide +kernel
theorem dX12_told_80 : decode cX12_told 80 = .ok (.aload_n 0, 1) := by decide +kernel
theorem dX12_told_81 : decode cX12_told 81 = .ok (.getfield 100, 3) := by decide +kernel
theorem dX12_told_84 : decode cX12_told 84 = .ok (.iload_n 1, 1) := by decide +kernel
theorem dX12_told_85 : decode cX12_told 85 = .ok (.iaload, 1) := by decide +kernel
theorem dX12_told_86 : decode cX12_told 86 = .ok (.iload_n 2, 1) := by decide +kernel
theorem dX12_told_87 : decode cX12_told 87 = .ok (.iadd, 1) := by decide +kernel
theorem dX12_told_88 : decode cX12_told 88 = .ok (.iload 6, 2) := by decide +kernel
theorem dX12_told_90 : decode cX12_told 90 = .ok (.iadd, 1) := by decide +kernel
theorem dX12_told_91 : decode cX12_told 91 = .ok (.iload 5, 2) := by decide +kernel
theorem dX12_told_93 : decode cX12_told 93 = .ok (.invokevirtual 336, 3) := by decide +kernel
theorem dX12_told_96 : decode cX12_told 96 = .ok (.iconst (-1), 1) := by decide +kernel
theorem dX12_told_97 : decode cX12_told 97 = .ok (.if_icmp .eq 9, 3) := by decide +kernel
theorem dX12_told_100 : decode cX12_told 100 = .ok (.iinc 6 1, 3) := by decide +kernel
theorem dX12_told_103 : decode cX12_told 103 = .ok (.goto (-36), 3) := by decide +kernel
theorem dX12_told_106 : decode cX12_told 106 = .ok (.iload 6, 2) := by decide +kernel
theorem dX12_told_108 : decode cX12_told 108 = .ok (.ireturn, 1) := by decide +kernel
theorem inn_X12_begins_12 : ∀ w ∈ u_ws RX12 TX12 66, w ∈ wsX12_begins := fun w h => List.mem_cons_of_mem _ (List.mem_append_right _ h)
theorem inn_X12_piece_12 : ∀ w ∈ u_ws RX12 TX12 66, w ∈ wsX12_piece := fun w h => List.mem_cons_of_mem _ (List.mem_append_right _ h)
theorem inn_X12_pieces_12 : ∀ w ∈ u_ws RX12 TX12 66, w ∈ wsX12_pieces := fun w h => List.mem_cons_of_mem _ (List.mem_append_right _ h)
theorem inn_X12_skein_12 : ∀ w ∈ u_ws RX12 TX12 66, w ∈ wsX12_skein := fun w h => List.mem_cons_of_mem _ (List.mem_append_right _ h)
theorem inn_X12_told_12 : ∀ w ∈ u_ws RX12 TX12 66, w ∈ wsX12_told := fun w h => List.mem_cons_of_mem _ (List.mem_append_right _ h)
