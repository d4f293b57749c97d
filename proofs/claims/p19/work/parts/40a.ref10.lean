set_option maxRecDepth 20000 in
theorem ggX12_begins_X12_endOf : GoodIn wsX12_begins wsX12_endOf := goodIn_h _ [2, 4, 0, 0, 0, 0, 0, 0, 0, 0, 0, 0, 0, 0, 0, 0, 0, 0, 0, 0, 0, 0, 0, 0, 0, 0, 0, 0, 0, 0, 0, 0, 0, 0, 0, 0, 0, 0, 0, 0, 0, 0, 0, 0, 0, 0, 0, 0, 0, 0, 0, 0, 0, 0, 0, 0, 0, 0, 0, 0, 0, 0, 0, 0, 0, 0, 0, 0, 0] [1, 2, 0, 3, 4, 5, 6, 7, 8, 9, 10, 11, 12, 13, 14, 15, 16, 17, 18, 19, 20, 21, 22, 23, 24, 25, 26, 27, 28, 29, 30, 31, 32, 33, 34, 35, 36, 37, 38, 39, 40, 41, 42, 43, 44, 45, 46, 47, 48, 49, 50, 51, 52, 53, 54, 55, 56, 57, 58, 59, 60, 61, 62, 63, 64, 65, 66, 67, 68] (by decide +kernel) (by decide +kernel)
set_option maxRecDepth 20000 in
theorem gX12_begins_X12_endOf : GoodIn wsX12_begins (wsV RX12 336 RX12 yX12_endOf wsX12_endOf) := goodIn_app (goodIn_of _ (by decide +kernel)) ggX12_begins_X12_endOf
theorem dX12_begins_0 : decode cX12_begins 0 = .ok (.aload_n 0, 1) := by decide +kernel
theorem dX12_begins_1 : decode cX12_begins 1 = .ok (.getfield 100, 3) := by decide +kernel
theorem dX12_begins_4 : decode cX12_begins 4 = .ok (.iload_n 1, 1) := by decide +kernel
theorem dX12_begins_5 : decode cX12_begins 5 = .ok (.iaload, 1) := by decide +kernel
theorem dX12_begins_6 : decode cX12_begins 6 = .ok (.iload_n 2, 1) := by decide +kernel
theorem dX12_begins_7 : decode cX12_begins 7 = .ok (.iadd, 1) := by decide +kernel
theorem dX12_begins_8 : decode cX12_begins 8 = .ok (.istore 4, 2) := by decide +kernel
theorem dX12_begins_10 : decode cX12_begins 10 = .ok (.iload_n 2, 1) := by decide +kernel
theorem dX12_begins_11 : decode cX12_begins 11 = .ok (.ifCond .eq 31, 3) := by decide +kernel
theorem dX12_begins_14 : decode cX12_begins 14 = .ok (.aload_n 0, 1) := by decide +kernel
theorem dX12_begins_15 : decode cX12_begins 15 = .ok (.iload 4, 2) := by decide +kernel
theorem dX12_begins_17 : decode cX12_begins 17 = .ok (.iconst 1, 1) := by decide +kernel
theorem dX12_begins_18 : decode cX12_begins 18 = .ok (.isub, 1) := by decide +kernel
theorem dX12_begins_19 : decode cX12_begins 19 = .ok (.aload_n 0, 1) := by decide +kernel
theorem dX12_begins_20 : decode cX12_begins 20 = .ok (.getfield 94, 3) := by decide +kernel
theorem dX12_begins_23 : decode cX12_begins 23 = .ok (.bipush 12, 2) := by decide +kernel
theorem dX12_begins_25 : decode cX12_begins 25 = .ok (.iload 4, 2) := by decide +kernel
theorem dX12_begins_27 : decode cX12_begins 27 = .ok (.imul, 1) := by decide +kernel
theorem dX12_begins_28 : decode cX12_begins 28 = .ok (.iload_n 3, 1) := by decide +kernel
theorem dX12_begins_29 : decode cX12_begins 29 = .ok (.iadd, 1) := by decide +kernel
theorem dX12_begins_30 : decode cX12_begins 30 = .ok (.iaload, 1) := by decide +kernel
theorem dX12_begins_31 : decode cX12_begins 31 = .ok (.sipush 1000, 3) := by decide +kernel
theorem dX12_begins_34 : decode cX12_begins 34 = .ok (.idiv, 1) := by decide +kernel
theorem dX12_begins_35 : decode cX12_begins 35 = .ok (.invokevirtual 336, 3) := by decide +kernel
theorem dX12_begins_38 : decode cX12_begins 38 = .ok (.iconst (-1), 1) := by decide +kernel
theorem dX12_begins_39 : decode cX12_begins 39 = .ok (.if_icmp .ne 7, 3) := by decide +kernel
theorem dX12_begins_42 : decode cX12_begins 42 = .ok (.iconst 1, 1) := by decide +kernel
theorem dX12_begins_43 : decode cX12_begins 43 = .ok (.goto 4, 3) := by decide +kernel
theorem dX12_begins_46 : decode cX12_begins 46 = .ok (.iconst 0, 1) := by decide +kernel
theorem dX12_begins_47 : decode cX12_begins 47 = .ok (.ireturn, 1) := by decide +kernel
set_option maxRecDepth 20000 in
theorem ggX12_pieces_X12_metres : GoodIn wsX12_pieces wsX12_metres := goodIn_h _ [2, 4, 9, 0, 0, 0, 0, 0, 0, 0, 0, 0, 0, 0, 0, 0, 0, 0, 0, 0, 0, 0, 0, 0, 0, 0, 0, 0, 0, 0, 0, 0, 0, 0, 0, 0, 0, 0, 0, 0, 0, 0, 0, 0, 0, 0, 0, 0, 0, 0, 0, 0, 0, 0, 0, 0, 0, 0, 0, 0, 0, 0, 0, 0, 0, 0, 0, 0] [1, 0, 2, 3, 4, 5, 6, 7, 8, 9, 10, 11, 12, 13, 14, 15, 16, 17, 18, 19, 20, 21, 22, 23, 24, 25, 26, 27, 28, 29, 30, 31, 32, 33, 34, 35, 36, 37, 38, 39, 40, 41, 42, 43, 44, 45, 46, 47, 48, 49, 50, 51, 52, 53, 54, 55, 56, 57, 58, 59, 60, 61, 62, 63, 64, 65, 66, 67] (by decide +kernel) (by decide +kernel)
set_option maxRecDepth 20000 in
theorem gX12_pieces_X12_metres : GoodIn wsX12_pieces (wsV RX12 350 RX12 yX12_metres wsX12_metres) := goodIn_app (goodIn_of _ (by decide +kernel)) ggX12_pieces_X12_metres
set_option maxRecDepth 20000 in
theorem ggX12_pieces_X12_begins : GoodIn wsX12_pieces wsX12_begins := goodIn_h _ [1, 0, 3, 4, 0, 0, 0, 0, 0, 0, 0, 0, 0, 0, 0, 0, 0, 0, 0, 0, 0, 0, 0, 0, 0, 0, 0, 0, 0, 0, 0, 0, 0, 0, 0, 0, 0, 0, 0, 0, 0, 0, 0, 0, 0, 0, 0, 0, 0, 0, 0, 0, 0, 0, 0, 0, 0, 0, 0, 0, 0, 0, 0, 0, 0, 0, 0, 0, 0, 0, 0, 0, 0, 0, 0] [3, 1, 4, 5, 6, 7, 2, 8, 0, 9, 10, 11, 12, 13, 14, 15, 16, 17, 18, 19, 20, 21, 22, 23, 24, 25, 26, 27, 28, 29, 30, 31, 32, 33, 34, 35, 36, 37, 38, 39, 40, 41, 42, 43, 44, 45, 46, 47, 48, 49, 50, 51, 52, 53, 54, 55, 56, 57, 58, 59, 60, 61, 62, 63, 64, 65, 66, 67, 68, 69, 70, 71, 72, 73, 74] (by decide +kernel) (by decide +kernel)
set_option maxRecDepth 20000 in
theorem gX12_pieces_X12_begins : GoodIn wsX12_pieces (wsV RX12 353 RX12 yX12_begins wsX12_begins) := goodIn_app (goodIn_of _ (by decide +kernel)) ggX12_pieces_X12_begins
theorem dX12_pieces_0 : decode cX12_pieces 0 = .ok (.iconst 0, 1) := by decide +kernel
theorem dX12_pieces_1 : decode cX12_pieces 1 = .ok (.istore_n 2, 1) := by decide +kernel
theorem dX12_pieces_2 : decode cX12_pieces 2 = .ok (.iconst 0, 1) := by decide +kernel
theorem dX12_pieces_3 : decode cX12_pieces 3 = .ok (.istore_n 3, 1) := by decide +kernel
theorem dX12_pieces_4 : decode cX12_pieces 4 = .ok (.iload_n 3, 1) := by decide +kernel
theorem dX12_pieces_5 : decode cX12_pieces 5 = .ok (.aload_n 0, 1) := by decide +kernel
theorem dX12_pieces_6 : decode cX12_pieces 6 = .ok (.iload_n 1, 1) := by decide +kernel
theorem dX12_pieces_7 : decode cX12_pieces 7 = .ok (.invokevirtual 350, 3) := by decide +kernel
theorem dX12_pieces_10 : decode cX12_pieces 10 = .ok (.if_icmp .ge 55, 3) := by decide +kernel
theorem dX12_pieces_13 : decode cX12_pieces 13 = .ok (.iconst 0, 1) := by decide +kernel
theorem dX12_pieces_14 : decode cX12_pieces 14 = .ok (.istore 4, 2) := by decide +kernel
theorem dX12_pieces_16 : decode cX12_pieces 16 = .ok (.iload 4, 2) := by decide +kernel
theorem dX12_pieces_18 : decode cX12_pieces 18 = .ok (.aload_n 0, 1) := by decide +kernel
theorem dX12_pieces_19 : decode cX12_pieces 19 = .ok (.getfield 90, 3) := by decide +kernel
theorem dX12_pieces_22 : decode cX12_pieces 22 = .ok (.aload_n 0, 1) := by decide +kernel
theorem dX12_pieces_23 : decode cX12_pieces 23 = .ok (.getfield 100, 3) := by decide +kernel
theorem dX12_pieces_26 : decode cX12_pieces 26 = .ok (.iload_n 1, 1) := by decide +kernel
theorem dX12_pieces_27 : decode cX12_pieces 27 = .ok (.iaload, 1) := by decide +kernel
theorem dX12_pieces_28 : decode cX12_pieces 28 = .ok (.iload_n 3, 1) := by decide +kernel
theorem dX12_pieces_29 : decode cX12_pieces 29 = .ok (.iadd, 1) := by decide +kernel
theorem dX12_pieces_30 : decode cX12_pieces 30 = .ok (.iaload, 1) := by decide +kernel
theorem dX12_pieces_31 : decode cX12_pieces 31 = .ok (.if_icmp .ge 28, 3) := by decide +kernel
theorem dX12_pieces_34 : decode cX12_pieces 34 = .ok (.iload_n 2, 1) := by decide +kernel
theorem dX12_pieces_35 : decode cX12_pieces 35 = .ok (.aload_n 0, 1) := by decide +kernel
theorem dX12_pieces_36 : decode cX12_pieces 36 = .ok (.iload_n 1, 1) := by decide +kernel
theorem dX12_pieces_37 : decode cX12_pieces 37 = .ok (.iload_n 3, 1) := by decide +kernel
theorem dX12_pieces_38 : decode cX12_pieces 38 = .ok (.iload 4, 2) := by decide +kernel
theorem dX12_pieces_40 : decode cX12_pieces 40 = .ok (.invokevirtual 353, 3) := by decide +kernel
theorem dX12_pieces_43 : decode cX12_pieces 43 = .ok (.ifCond .eq 7, 3) := by decide +kernel
theorem dX12_pieces_46 : decode cX12_pieces 46 = .ok (.iconst 1, 1) := by decide +kernel
theorem dX12_pieces_47 : decode cX12_pieces 47 = .ok (.goto 4, 3) := by decide +kernel
theorem dX12_pieces_50 : decode cX12_pieces 50 = .ok (.iconst 0, 1) := by decide +kernel
theorem dX12_pieces_51 : decode cX12_pieces 51 = .ok (.iadd, 1) := by decide +kernel
theorem dX12_pieces_52 : decode cX12_pieces 52 = .ok (.istore_n 2, 1) := by decide +kernel
theorem dX12_pieces_53 : decode cX12_pieces 53 = .ok (.iinc 4 1, 3) := by decide +kernel
theorem dX12_pieces_56 : decode cX12_pieces 56 = .ok (.goto (-40), 3) := by decide +kernel
theorem dX12_pieces_59 : decode cX12_pieces 59 = .ok (.iinc 3 1, 3) := by decide +kernel
theorem dX12_pieces_62 : decode cX12_pieces 62 = .ok (.goto (-58), 3) := by decide +kernel
theorem dX12_pieces_65 : decode cX12_pieces 65 = .ok (.iload_n 2, 1) := by decide +kernel
theorem dX12_pieces_66 : decode cX12_pieces 66 = .ok (.ireturn, 1) := by decide +kernel
set_option maxRecDepth 20000 in
theorem ggX12_skein_X12_isSkein : GoodIn wsX12_skein wsX12_isSkein := goodIn_h _ [9, 0, 0, 0, 0, 0, 78, 0, 0, 0, 0, 0, 0, 0, 0, 0, 0, 0, 0, 0, 0, 0, 0, 0, 0, 0, 0, 0, 0, 0, 0, 0, 0, 0, 0, 0, 0, 0, 0, 0, 0, 0, 0, 0, 0, 0, 0, 0, 0, 0, 0, 0, 0, 0, 0, 0, 0, 0, 0, 0, 0, 0, 0, 0, 0, 0, 0, 0, 0, 0, 0, 0] [1, 2, 3, 4, 0, 5, 6, 7, 8, 9, 10, 11, 12, 13, 14, 15, 16, 17, 18, 19, 20, 21, 22, 23, 24, 25, 26, 27, 28, 29, 30, 31, 32, 33, 34, 35, 36, 37, 38, 39, 40, 41, 42, 43, 44, 45, 46, 47, 48, 49, 50, 51, 52, 53, 54, 55, 56, 57, 58, 59, 60, 61, 62, 63, 64, 65, 66, 67, 68, 69, 70, 71] (by decide +kernel) (by decide +kernel)
set_option maxRecDepth 20000 in
theorem gX12_skein_X12_isSkein : GoodIn wsX12_skein (wsV RX12 362 RX12 yX12_isSkein wsX12_isSkein) := goodIn_app (goodIn_of _ (by decide +kernel)) ggX12_skein_X12_isSkein
set_option maxRecDepth 20000 in
theorem ggX12_skein_X12_metres : GoodIn wsX12_skein wsX12_metres := goodIn_h _ [18, 0, 73, 0, 0, 0, 0, 0, 0, 0, 0, 0, 0, 0, 0, 0, 0, 0, 0, 0, 0, 0, 0, 0, 0, 0, 0, 0, 0, 0, 0, 0, 0, 0, 0, 0, 0, 0, 0, 0, 0, 0, 0, 0, 0, 0, 0, 0, 0, 0, 0, 0, 0, 0, 0, 0, 0, 0, 0, 0, 0, 0, 0, 0, 0, 0, 0, 0] [0, 1, 2, 3, 4, 5, 6, 7, 8, 9, 10, 11, 12, 13, 14, 15, 16, 17, 18, 19, 20, 21, 22, 23, 24, 25, 26, 27, 28, 29, 30, 31, 32, 33, 34, 35, 36, 37, 38, 39, 40, 41, 42, 43, 44, 45, 46, 47, 48, 49, 50, 51, 52, 53, 54, 55, 56, 57, 58, 59, 60, 61, 62, 63, 64, 65, 66, 67] (by decide +kernel) (by decide +kernel)
set_option maxRecDepth 20000 in
theorem gX12_skein_X12_metres : GoodIn wsX12_skein (wsV RX12 350 RX12 yX12_metres wsX12_metres) := goodIn_app (goodIn_of _ (by decide +kernel)) ggX12_skein_X12_metres
set_option maxRecDepth 20000 in
theorem ggX12_skein_X12_weightOf : GoodIn wsX12_skein wsX12_weightOf := goodIn_h _ [9, 5, 0, 0, 0, 0, 3, 0, 0, 0, 0, 0, 0, 0, 0, 0, 0, 0, 0, 0, 0, 0, 0, 0, 0, 0, 0, 0, 0, 0, 0, 0, 0, 0, 0, 0, 40, 0, 0, 0, 0, 0, 0, 0, 0, 0, 0, 0, 0, 0, 0, 0, 0, 0, 0, 0, 0, 0, 0, 0, 0, 0, 0, 0, 0, 0, 0, 0, 0, 0, 0, 0, 0, 0, 0, 0, 0, 0, 0, 0, 0, 0, 0, 0, 0, 0, 0, 0, 0, 0, 0, 0, 0, 0, 0, 0, 0, 0, 0, 0, 0, 0] [6, 5, 1, 2, 3, 0, 4, 7, 8, 9, 10, 11, 12, 13, 14, 15, 16, 17, 18, 19, 20, 21, 22, 23, 24, 25, 26, 27, 28, 29, 30, 31, 32, 33, 34, 35, 36, 37, 38, 39, 40, 41, 42, 43, 44, 45, 46, 47, 48, 49, 50, 51, 52, 53, 54, 55, 56, 57, 58, 59, 60, 61, 62, 63, 64, 65, 66, 67, 68, 69, 70, 71, 72, 73, 74, 75, 76, 77, 78, 79, 80, 81, 82, 83, 84, 85, 86, 87, 88, 89, 90, 91, 92, 93, 94, 95, 96, 97, 98, 99, 100, 101] (by decide +kernel) (by decide +kernel)
set_option maxRecDepth 20000 in
theorem gX12_skein_X12_weightOf : GoodIn wsX12_skein (wsV RX12 356 RX12 yX12_weightOf wsX12_weightOf) := goodIn_app (goodIn_of _ (by decide +kernel)) ggX12_skein_X12_weightOf
set_option maxRecDepth 20000 in
theorem ggX12_skein_X12_least : GoodIn wsX12_skein wsX12_least := goodIn_h _ [9, 9, 8, 0, 0, 0, 0, 0, 0, 0, 0, 0, 0, 0, 0, 0, 0, 0, 0, 0, 0, 0, 0, 0, 0, 0, 0, 3, 0, 0, 0, 0, 0, 0, 0, 29, 0, 0, 0, 0, 0, 0, 0, 0, 0, 0, 0, 0, 0, 0, 0, 0, 0, 0, 0, 0, 0, 0, 0, 0, 0, 0, 0, 0, 0, 0, 0, 0, 0, 0, 0, 0, 0, 0, 0, 0, 0, 0, 0, 0, 0, 0, 0, 0, 0, 0, 0, 0, 0, 0, 0, 0, 0, 0, 0, 0, 0, 0, 0, 0, 0] [27, 1, 28, 29, 30, 31, 32, 33, 34, 2, 3, 4, 0, 5, 6, 7, 8, 9, 10, 11, 12, 13, 14, 15, 16, 17, 18, 19, 20, 21, 22, 23, 24, 25, 26, 35, 36, 37, 38, 39, 40, 41, 42, 43, 44, 45, 46, 47, 48, 49, 50, 51, 52, 53, 54, 55, 56, 57, 58, 59, 60, 61, 62, 63, 64, 65, 66, 67, 68, 69, 70, 71, 72, 73, 74, 75, 76, 77, 78, 79, 80, 81, 82, 83, 84, 85, 86, 87, 88, 89, 90, 91, 92, 93, 94, 95, 96, 97, 98, 99, 100] (by decide +kernel) (by decide +kernel)
set_option maxRecDepth 20000 in
theorem gX12_skein_X12_least : GoodIn wsX12_skein (wsV RX12 365 RX12 yX12_least wsX12_least) := goodIn_app (goodIn_of _ (by decide +kernel)) ggX12_skein_X12_least
set_option maxRecDepth 20000 in
theorem ggX12_skein_X12_slips : GoodIn wsX12_skein wsX12_slips := goodIn_h _ [9, 9, 8, 0, 0, 0, 0, 0, 0, 0, 0, 0, 0, 0, 0, 0, 0, 0, 0, 0, 0, 0, 0, 0, 0, 0, 0, 6, 7, 0, 0, 0, 22, 0, 0, 0, 0, 0, 0, 0, 0, 0, 0, 0, 0, 0, 0, 0, 0, 0, 0, 0, 0, 0, 0, 0, 0, 0, 0, 0, 0, 0, 0, 0, 0, 0, 0, 0, 0, 0, 0, 0, 0, 0, 0, 0, 0, 0, 0, 0, 0, 0, 0, 0, 0, 0, 0, 0, 0, 0, 0, 0, 0, 0, 0, 0, 0, 0] [28, 1, 29, 30, 27, 31, 2, 3, 4, 0, 5, 6, 7, 8, 9, 10, 11, 12, 13, 14, 15, 16, 17, 18, 19, 20, 21, 22, 23, 24, 25, 26, 32, 33, 34, 35, 36, 37, 38, 39, 40, 41, 42, 43, 44, 45, 46, 47, 48, 49, 50, 51, 52, 53, 54, 55, 56, 57, 58, 59, 60, 61, 62, 63, 64, 65, 66, 67, 68, 69, 70, 71, 72, 73, 74, 75, 76, 77, 78, 79, 80, 81, 82, 83, 84, 85, 86, 87, 88, 89, 90, 91, 92, 93, 94, 95, 96, 97] (by decide +kernel) (by decide +kernel)
set_option maxRecDepth 20000 in
theorem gX12_skein_X12_slips : GoodIn wsX12_skein (wsV RX12 369 RX12 yX12_slips wsX12_slips) := goodIn_app (goodIn_of _ (by decide +kernel)) ggX12_skein_X12_slips
set_option maxRecDepth 20000 in
theorem ggX12_skein_X12_pieces : GoodIn wsX12_skein wsX12_pieces := goodIn_h _ [9, 5, 0, 0, 0, 0, 12, 0, 40, 0, 0, 0, 0, 0, 0, 0, 0, 10, 0, 0, 0, 0, 0, 0, 0, 0, 0, 0, 0, 0, 0, 0, 0, 0, 0, 0, 0, 0, 0, 0, 0, 0, 0, 0, 0, 0, 0, 0, 0, 0, 0, 0, 0, 0, 0, 0, 0, 0, 0, 0, 0, 0, 0, 0, 0, 0, 0, 0, 0, 0, 0, 0, 0, 0, 0, 0, 0, 0, 0, 0, 0, 0, 0] [8, 6, 5, 1, 2, 3, 0, 4, 9, 10, 11, 12, 7, 13, 14, 15, 16, 17, 18, 19, 20, 21, 22, 23, 24, 25, 26, 27, 28, 29, 30, 31, 32, 33, 34, 35, 36, 37, 38, 39, 40, 41, 42, 43, 44, 45, 46, 47, 48, 49, 50, 51, 52, 53, 54, 55, 56, 57, 58, 59, 60, 61, 62, 63, 64, 65, 66, 67, 68, 69, 70, 71, 72, 73, 74, 75, 76, 77, 78, 79, 80, 81, 82] (by decide +kernel) (by decide +kernel)
set_option maxRecDepth 20000 in
theorem gX12_skein_X12_pieces : GoodIn wsX12_skein (wsV RX12 372 RX12 yX12_pieces wsX12_pieces) := goodIn_app (goodIn_of _ (by decide +kernel)) ggX12_skein_X12_pieces
set_option maxRecDepth 20000 in
theorem ggX12_skein_X12_gradeOf : GoodIn wsX12_skein wsX12_gradeOf := goodIn_h _ [86, 0, 5, 0, 0, 0, 0, 0, 0, 0, 0, 0, 0, 0, 0, 0, 0, 0, 0, 0, 0, 0, 0, 0, 0, 0, 0, 0, 0, 0, 0, 0, 0, 0, 0, 0, 0, 0, 0, 0, 0, 0, 0, 0, 0, 0, 0, 0, 0, 0, 0, 0, 0, 0, 0, 0, 0, 0, 0, 0, 0, 0, 0, 0, 0, 0, 0, 0] [0, 1, 2, 3, 4, 5, 6, 7, 8, 9, 10, 11, 12, 13, 14, 15, 16, 17, 18, 19, 20, 21, 22, 23, 24, 25, 26, 27, 28, 29, 30, 31, 32, 33, 34, 35, 36, 37, 38, 39, 40, 41, 42, 43, 44, 45, 46, 47, 48, 49, 50, 51, 52, 53, 54, 55, 56, 57, 58, 59, 60, 61, 62, 63, 64, 65, 66, 67] (by decide +kernel) (by decide +kernel)
set_option maxRecDepth 20000 in
theorem gX12_skein_X12_gradeOf : GoodIn wsX12_skein (wsV RX12 359 RX12 yX12_gradeOf wsX12_gradeOf) := goodIn_app (goodIn_of _ (by decide +kernel)) ggX12_skein_X12_gradeOf
set_option maxRecDepth 20000 in
theorem ggX12_skein_X12_priceOf : GoodIn wsX12_skein wsX12_priceOf := goodIn_h _ [9, 5, 0, 0, 0, 0, 0, 0, 0, 0, 0, 0, 0, 0, 0, 0, 0, 0, 0, 0, 0, 0, 0, 0, 0, 0, 0, 0, 0, 0, 0, 0, 0, 0, 0, 0, 0, 0, 0, 30, 0, 0, 0, 0, 3, 0, 0, 0, 0, 0, 0, 0, 0, 0, 0, 0, 0, 0, 0, 0, 0, 0, 0, 0, 0, 0, 0, 0, 0, 0, 0, 0, 0, 0, 0, 0, 0, 0, 0, 0, 0, 0, 0, 0, 0, 0, 0, 0, 0, 0, 0, 0, 0, 0, 0, 0, 0, 0, 0, 0, 0, 0, 0, 0, 0, 0, 0, 0, 0, 0, 0, 0] [44, 45, 6, 7, 8, 0, 9, 5, 1, 2, 3, 4, 10, 11, 12, 13, 14, 15, 16, 17, 18, 19, 20, 21, 22, 23, 24, 25, 26, 27, 28, 29, 30, 31, 32, 33, 34, 35, 36, 37, 38, 39, 40, 41, 42, 43, 46, 47, 48, 49, 50, 51, 52, 53, 54, 55, 56, 57, 58, 59, 60, 61, 62, 63, 64, 65, 66, 67, 68, 69, 70, 71, 72, 73, 74, 75, 76, 77, 78, 79, 80, 81, 82, 83, 84, 85, 86, 87, 88, 89, 90, 91, 92, 93, 94, 95, 96, 97, 98, 99, 100, 101, 102, 103, 104, 105, 106, 107, 108, 109, 110, 111] (by decide +kernel) (by decide +kernel)
set_option maxRecDepth 20000 in
theorem gX12_skein_X12_priceOf : GoodIn wsX12_skein (wsV RX12 375 RX12 yX12_priceOf wsX12_priceOf) := goodIn_app (goodIn_of _ (by decide +kernel)) ggX12_skein_X12_priceOf
theorem dX12_skein_0 : decode cX12_skein 0 = .ok (.aload_n 0, 1) := by decide +kernel
theorem dX12_skein_1 : decode cX12_skein 1 = .ok (.iconst 0, 1) := by decide +kernel
theorem dX12_skein_2 : decode cX12_skein 2 = .ok (.putfield 161, 3) := by decide +kernel
theorem dX12_skein_5 : decode cX12_skein 5 = .ok (.aload_n 0, 1) := by decide +kernel
theorem dX12_skein_6 : decode cX12_skein 6 = .ok (.iload_n 1, 1) := by decide +kernel
theorem dX12_skein_7 : decode cX12_skein 7 = .ok (.invokevirtual 362, 3) := by decide +kernel
theorem dX12_skein_10 : decode cX12_skein 10 = .ok (.ifCond .ne 5, 3) := by decide +kernel
theorem dX12_skein_13 : decode cX12_skein 13 = .ok (.iconst (-1), 1) := by decide +kernel
theorem dX12_skein_14 : decode cX12_skein 14 = .ok (.ireturn, 1) := by decide +kernel
theorem dX12_skein_15 : decode cX12_skein 15 = .ok (.iload_n 2, 1) := by decide +kernel
theorem dX12_skein_16 : decode cX12_skein 16 = .ok (.tableswitch 152 0 11 #[64, 71, 78, 84, 90, 90, 106, 112, 118, 124, 139, 145], 64) := by decide +kernel
theorem dX12_skein_80 : decode cX12_skein 80 = .ok (.aload_n 0, 1) := by decide +kernel
theorem dX12_skein_81 : decode cX12_skein 81 = .ok (.getfield 103, 3) := by decide +kernel
theorem dX12_skein_84 : decode cX12_skein 84 = .ok (.iload_n 1, 1) := by decide +kernel
theorem dX12_skein_85 : decode cX12_skein 85 = .ok (.iaload, 1) := by decide +kernel
theorem dX12_skein_86 : decode cX12_skein 86 = .ok (.ireturn, 1) := by decide +kernel
theorem dX12_skein_87 : decode cX12_skein 87 = .ok (.aload_n 0, 1) := by decide +kernel
theorem dX12_skein_88 : decode cX12_skein 88 = .ok (.getfield 106, 3) := by decide +kernel
theorem dX12_skein_91 : decode cX12_skein 91 = .ok (.iload_n 1, 1) := by decide +kernel
theorem dX12_skein_92 : decode cX12_skein 92 = .ok (.iaload, 1) := by decide +kernel
theorem dX12_skein_93 : decode cX12_skein 93 = .ok (.ireturn, 1) := by decide +kernel
theorem dX12_skein_94 : decode cX12_skein 94 = .ok (.aload_n 0, 1) := by decide +kernel
theorem dX12_skein_95 : decode cX12_skein 95 = .ok (.iload_n 1, 1) := by decide +kernel
theorem dX12_skein_96 : decode cX12_skein 96 = .ok (.invokevirtual 350, 3) := by decide +kernel
theorem dX12_skein_99 : decode cX12_skein 99 = .ok (.ireturn, 1) := by decide +kernel
theorem dX12_skein_100 : decode cX12_skein 100 = .ok (.aload_n 0, 1) := by decide +kernel
theorem dX12_skein_101 : decode cX12_skein 101 = .ok (.iload_n 1, 1) := by decide +kernel
theorem dX12_skein_102 : decode cX12_skein 102 = .ok (.invokevirtual 356, 3) := by decide +kernel
theorem dX12_skein_105 : decode cX12_skein 105 = .ok (.ireturn, 1) := by decide +kernel
theorem dX12_skein_106 : decode cX12_skein 106 = .ok (.aload_n 0, 1) := by decide +kernel
theorem dX12_skein_107 : decode cX12_skein 107 = .ok (.iload_n 1, 1) := by decide +kernel
theorem dX12_skein_108 : decode cX12_skein 108 = .ok (.iload_n 2, 1) := by decide +kernel
theorem dX12_skein_109 : decode cX12_skein 109 = .ok (.iconst 5, 1) := by decide +kernel
theorem dX12_skein_110 : decode cX12_skein 110 = .ok (.if_icmp .ne 7, 3) := by decide +kernel
theorem dX12_skein_113 : decode cX12_skein 113 = .ok (.iconst 1, 1) := by decide +kernel
theorem dX12_skein_114 : decode cX12_skein 114 = .ok (.goto 4, 3) := by decide +kernel
theorem dX12_skein_117 : decode cX12_skein 117 = .ok (.iconst 0, 1) := by decide +kernel
theorem dX12_skein_118 : decode cX12_skein 118 = .ok (.invokevirtual 365, 3) := by decide +kernel
theorem dX12_skein_121 : decode cX12_skein 121 = .ok (.ireturn, 1) := by decide +kernel
theorem dX12_skein_122 : decode cX12_skein 122 = .ok (.aload_n 0, 1) := by decide +kernel
theorem dX12_skein_123 : decode cX12_skein 123 = .ok (.iload_n 1, 1) := by decide +kernel
theorem dX12_skein_124 : decode cX12_skein 124 = .ok (.invokevirtual 369, 3) := by decide +kernel
theorem dX12_skein_127 : decode cX12_skein 127 = .ok (.ireturn, 1) := by decide +kernel
theorem dX12_skein_128 : decode cX12_skein 128 = .ok (.aload_n 0, 1) := by decide +kernel
theorem dX12_skein_129 : decode cX12_skein 129 = .ok (.iload_n 1, 1) := by decide +kernel
theorem dX12_skein_130 : decode cX12_skein 130 = .ok (.invokevirtual 372, 3) := by decide +kernel
theorem dX12_skein_133 : decode cX12_skein 133 = .ok (.ireturn, 1) := by decide +kernel
theorem dX12_skein_134 : decode cX12_skein 134 = .ok (.aload_n 0, 1) := by decide +kernel
theorem dX12_skein_135 : decode cX12_skein 135 = .ok (.iload_n 1, 1) := by decide +kernel
theorem dX12_skein_136 : decode cX12_skein 136 = .ok (.invokevirtual 359, 3) := by decide +kernel
theorem dX12_skein_139 : decode cX12_skein 139 = .ok (.ireturn, 1) := by decide +kernel
theorem dX12_skein_140 : decode cX12_skein 140 = .ok (.aload_n 0, 1) := by decide +kernel
theorem dX12_skein_141 : decode cX12_skein 141 = .ok (.getfield 115, 3) := by decide +kernel
theorem dX12_skein_144 : decode cX12_skein 144 = .ok (.iload_n 1, 1) := by decide +kernel
theorem dX12_skein_145 : decode cX12_skein 145 = .ok (.baload, 1) := by decide +kernel
theorem dX12_skein_146 : decode cX12_skein 146 = .ok (.ifCond .eq 7, 3) := by decide +kernel
theorem dX12_skein_149 : decode cX12_skein 149 = .ok (.iconst 1, 1) := by decide +kernel
theorem dX12_skein_150 : decode cX12_skein 150 = .ok (.goto 4, 3) := by decide +kernel
theorem dX12_skein_153 : decode cX12_skein 153 = .ok (.iconst 0, 1) := by decide +kernel
theorem dX12_skein_154 : decode cX12_skein 154 = .ok (.ireturn, 1) := by decide +kernel
theorem dX12_skein_155 : decode cX12_skein 155 = .ok (.aload_n 0, 1) := by decide +kernel
theorem dX12_skein_156 : decode cX12_skein 156 = .ok (.iload_n 1, 1) := by decide +kernel
theorem dX12_skein_157 : decode cX12_skein 157 = .ok (.invokevirtual 375, 3) := by decide +kernel
theorem dX12_skein_160 : decode cX12_skein 160 = .ok (.ireturn, 1) := by decide +kernel
theorem dX12_skein_161 : decode cX12_skein 161 = .ok (.aload_n 0, 1) := by decide +kernel
theorem dX12_skein_162 : decode cX12_skein 162 = .ok (.getfield 109, 3) := by decide +kernel
theorem dX12_skein_165 : decode cX12_skein 165 = .ok (.iload_n 1, 1) := by decide +kernel
theorem dX12_skein_166 : decode cX12_skein 166 = .ok (.iaload, 1) := by decide +kernel
theorem dX12_skein_167 : decode cX12_skein 167 = .ok (.ireturn, 1) := by decide +kernel
theorem dX12_skein_168 : decode cX12_skein 168 = .ok (.iconst (-1), 1) := by decide +kernel
theorem dX12_skein_169 : decode cX12_skein 169 = .ok (.ireturn, 1) := by decide +kernel
set_option maxRecDepth 20000 in
theorem ggX12_piece_X12_isSkein : GoodIn wsX12_piece wsX12_isSkein := goodIn_h _ [8, 0, 0, 0, 0, 0, 16, 0, 0, 0, 0, 0, 0, 0, 0, 0, 0, 0, 0, 0, 0, 0, 0, 0, 0, 0, 0, 0, 0, 0, 0, 0, 0, 0, 0, 0, 0, 0, 0, 0, 0, 0, 0, 0, 0, 0, 0, 0, 0, 0, 0, 0, 0, 0, 0, 0, 0, 0, 0, 0, 0, 0, 0, 0, 0, 0, 0, 0, 0, 0, 0, 0] [1, 2, 3, 4, 0, 5, 6, 7, 8, 9, 10, 11, 12, 13, 14, 15, 16, 17, 18, 19, 20, 21, 22, 23, 24, 25, 26, 27, 28, 29, 30, 31, 32, 33, 34, 35, 36, 37, 38, 39, 40, 41, 42, 43, 44, 45, 46, 47, 48, 49, 50, 51, 52, 53, 54, 55, 56, 57, 58, 59, 60, 61, 62, 63, 64, 65, 66, 67, 68, 69, 70, 71] (by decide +kernel) (by decide +kernel)
set_option maxRecDepth 20000 in
theorem gX12_piece_X12_isSkein : GoodIn wsX12_piece (wsV RX12 362 RX12 yX12_isSkein wsX12_isSkein) := goodIn_app (goodIn_of _ (by decide +kernel)) ggX12_piece_X12_isSkein
set_option maxRecDepth 20000 in
theorem ggX12_piece_X12_within : GoodIn wsX12_piece wsX12_within := goodIn_h _ [13] [0] (by decide +kernel) (by decide +kernel)
set_option maxRecDepth 20000 in
theorem gX12_piece_X12_within : GoodIn wsX12_piece (va_wsS RX12 168 yX12_within wsX12_within) := goodIn_app (goodIn_of _ (by decide +kernel)) ggX12_piece_X12_within
set_option maxRecDepth 20000 in
theorem ggX12_piece_X12_metres : GoodIn wsX12_piece wsX12_metres := goodIn_h _ [3, 13, 12, 0, 0, 0, 0, 0, 0, 0, 0, 0, 0, 0, 0, 0, 0, 0, 0, 0, 0, 0, 0, 0, 0, 0, 0, 0, 0, 0, 0, 0, 0, 0, 0, 0, 0, 0, 0, 0, 0, 0, 0, 0, 0, 0, 0, 0, 0, 0, 0, 0, 0, 0, 0, 0, 0, 0, 0, 0, 0, 0, 0, 0, 0, 0, 0, 0] [1, 0, 2, 3, 4, 5, 6, 7, 8, 9, 10, 11, 12, 13, 14, 15, 16, 17, 18, 19, 20, 21, 22, 23, 24, 25, 26, 27, 28, 29, 30, 31, 32, 33, 34, 35, 36, 37, 38, 39, 40, 41, 42, 43, 44, 45, 46, 47, 48, 49, 50, 51, 52, 53, 54, 55, 56, 57, 58, 59, 60, 61, 62, 63, 64, 65, 66, 67] (by decide +kernel) (by decide +kernel)
set_option maxRecDepth 20000 in
theorem gX12_piece_X12_metres : GoodIn wsX12_piece (wsV RX12 350 RX12 yX12_metres wsX12_metres) := goodIn_app (goodIn_of _ (by decide +kernel)) ggX12_piece_X12_metres
set_option maxRecDepth 20000 in
theorem ggX12_piece_X12_begins : GoodIn wsX12_piece wsX12_begins := goodIn_h _ [2, 0, 0, 3, 12, 0, 0, 0, 0, 4, 0, 0, 0, 0, 0, 0, 0, 0, 0, 0, 0, 0, 0, 0, 0, 0, 0, 0, 0, 0, 0, 0, 0, 0, 0, 0, 0, 0, 0, 0, 0, 0, 0, 0, 0, 0, 0, 0, 0, 0, 0, 0, 0, 0, 0, 0, 0, 0, 0, 0, 0, 0, 0, 0, 0, 0, 0, 0, 0, 0, 0, 0, 0, 0, 0] [4, 1, 2, 5, 6, 7, 3, 8, 0, 9, 10, 11, 12, 13, 14, 15, 16, 17, 18, 19, 20, 21, 22, 23, 24, 25, 26, 27, 28, 29, 30, 31, 32, 33, 34, 35, 36, 37, 38, 39, 40, 41, 42, 43, 44, 45, 46, 47, 48, 49, 50, 51, 52, 53, 54, 55, 56, 57, 58, 59, 60, 61, 62, 63, 64, 65, 66, 67, 68, 69, 70, 71, 72, 73, 74] (by decide +kernel) (by decide +kernel)
set_option maxRecDepth 20000 in
theorem gX12_piece_X12_begins : GoodIn wsX12_piece (wsV RX12 353 RX12 yX12_begins wsX12_begins) := goodIn_app (goodIn_of _ (by decide +kernel)) ggX12_piece_X12_begins
set_option maxRecDepth 20000 in
theorem ggX12_piece_X12_told : GoodIn wsX12_piece wsX12_told := goodIn_h _ [2, 0, 0, 3, 5, 0, 0, 0, 4, 0, 0, 0, 3, 0, 0, 0, 0, 0, 0, 0, 0, 0, 0, 0, 0, 0, 0, 0, 0, 0, 0, 0, 0, 0, 0, 0, 0, 0, 0, 0, 0, 0, 0, 0, 0, 0, 0, 0, 0, 0, 0, 0, 0, 0, 0, 0, 0, 0, 0, 0, 0, 0, 0, 0, 0, 0, 0, 0, 0, 0, 0, 0, 0, 0, 0, 0, 0, 0, 0] [12, 1, 4, 5, 6, 3, 7, 8, 9, 10, 11, 0, 2, 13, 14, 15, 16, 17, 18, 19, 20, 21, 22, 23, 24, 25, 26, 27, 28, 29, 30, 31, 32, 33, 34, 35, 36, 37, 38, 39, 40, 41, 42, 43, 44, 45, 46, 47, 48, 49, 50, 51, 52, 53, 54, 55, 56, 57, 58, 59, 60, 61, 62, 63, 64, 65, 66, 67, 68, 69, 70, 71, 72, 73, 74, 75, 76, 77, 78] (by decide +kernel) (by decide +kernel)
set_option maxRecDepth 20000 in
theorem gX12_piece_X12_told : GoodIn wsX12_piece (wsV RX12 378 RX12 yX12_told wsX12_told) := goodIn_app (goodIn_of _ (by decide +kernel)) ggX12_piece_X12_told
theorem dX12_piece_0 : decode cX12_piece 0 = .ok (.aload_n 0, 1) := by decide +kernel
theorem dX12_piece_1 : decode cX12_piece 1 = .ok (.iconst 0, 1) := by decide +kernel
theorem dX12_piece_2 : decode cX12_piece 2 = .ok (.putfield 161, 3) := by decide +kernel
theorem dX12_piece_5 : decode cX12_piece 5 = .ok (.aload_n 0, 1) := by decide +kernel
theorem dX12_piece_6 : decode cX12_piece 6 = .ok (.iload_n 1, 1) := by decide +kernel
theorem dX12_piece_7 : decode cX12_piece 7 = .ok (.invokevirtual 362, 3) := by decide +kernel
theorem dX12_piece_10 : decode cX12_piece 10 = .ok (.ifCond .eq 16, 3) := by decide +kernel
theorem dX12_piece_13 : decode cX12_piece 13 = .ok (.iload_n 2, 1) := by decide +kernel
theorem dX12_piece_14 : decode cX12_piece 14 = .ok (.ifCond .lt 12, 3) := by decide +kernel
theorem dX12_piece_17 : decode cX12_piece 17 = .ok (.iload_n 3, 1) := by decide +kernel
theorem dX12_piece_18 : decode cX12_piece 18 = .ok (.iconst 0, 1) := by decide +kernel
theorem dX12_piece_19 : decode cX12_piece 19 = .ok (.iconst 4, 1) := by decide +kernel
theorem dX12_piece_20 : decode cX12_piece 20 = .ok (.invokestatic 168, 3) := by decide +kernel
theorem dX12_piece_23 : decode cX12_piece 23 = .ok (.ifCond .ne 5, 3) := by decide +kernel
theorem dX12_piece_26 : decode cX12_piece 26 = .ok (.iconst (-1), 1) := by decide +kernel
theorem dX12_piece_27 : decode cX12_piece 27 = .ok (.ireturn, 1) := by decide +kernel
theorem dX12_piece_28 : decode cX12_piece 28 = .ok (.iload_n 2, 1) := by decide +kernel
theorem dX12_piece_29 : decode cX12_piece 29 = .ok (.istore 4, 2) := by decide +kernel
theorem dX12_piece_31 : decode cX12_piece 31 = .ok (.iconst 0, 1) := by decide +kernel
theorem dX12_piece_32 : decode cX12_piece 32 = .ok (.istore 5, 2) := by decide +kernel
theorem dX12_piece_34 : decode cX12_piece 34 = .ok (.iload 5, 2) := by decide +kernel
theorem dX12_piece_36 : decode cX12_piece 36 = .ok (.aload_n 0, 1) := by decide +kernel
theorem dX12_piece_37 : decode cX12_piece 37 = .ok (.iload_n 1, 1) := by decide +kernel
theorem dX12_piece_38 : decode cX12_piece 38 = .ok (.invokevirtual 350, 3) := by decide +kernel
theorem dX12_piece_41 : decode cX12_piece 41 = .ok (.if_icmp .ge 89, 3) := by decide +kernel
theorem dX12_piece_44 : decode cX12_piece 44 = .ok (.iconst 0, 1) := by decide +kernel
theorem dX12_piece_45 : decode cX12_piece 45 = .ok (.istore 6, 2) := by decide +kernel
theorem dX12_piece_47 : decode cX12_piece 47 = .ok (.iload 6, 2) := by decide +kernel
theorem dX12_piece_49 : decode cX12_piece 49 = .ok (.aload_n 0, 1) := by decide +kernel
theorem dX12_piece_50 : decode cX12_piece 50 = .ok (.getfield 90, 3) := by decide +kernel
theorem dX12_piece_53 : decode cX12_piece 53 = .ok (.aload_n 0, 1) := by decide +kernel
theorem dX12_piece_54 : decode cX12_piece 54 = .ok (.getfield 100, 3) := by decide +kernel
theorem dX12_piece_57 : decode cX12_piece 57 = .ok (.iload_n 1, 1) := by decide +kernel
theorem dX12_piece_58 : decode cX12_piece 58 = .ok (.iaload, 1) := by decide +kernel
theorem dX12_piece_59 : decode cX12_piece 59 = .ok (.iload 5, 2) := by decide +kernel
theorem dX12_piece_61 : decode cX12_piece 61 = .ok (.iadd, 1) := by decide +kernel
theorem dX12_piece_62 : decode cX12_piece 62 = .ok (.iaload, 1) := by decide +kernel
theorem dX12_piece_63 : decode cX12_piece 63 = .ok (.if_icmp .ge 61, 3) := by decide +kernel
theorem dX12_piece_66 : decode cX12_piece 66 = .ok (.aload_n 0, 1) := by decide +kernel
theorem dX12_piece_67 : decode cX12_piece 67 = .ok (.iload_n 1, 1) := by decide +kernel
theorem dX12_piece_68 : decode cX12_piece 68 = .ok (.iload 5, 2) := by decide +kernel
theorem dX12_piece_70 : decode cX12_piece 70 = .ok (.iload 6, 2) := by decide +kernel
theorem dX12_piece_72 : decode cX12_piece 72 = .ok (.invokevirtual 353, 3) := by decide +kernel
theorem dX12_piece_75 : decode cX12_piece 75 = .ok (.ifCond .ne 6, 3) := by decide +kernel
theorem dX12_piece_78 : decode cX12_piece 78 = .ok (.goto 40, 3) := by decide +kernel
theorem dX12_piece_81 : decode cX12_piece 81 = .ok (.iload 4, 2) := by decide +kernel
theorem dX12_piece_83 : decode cX12_piece 83 = .ok (.ifCond .ne 32, 3) := by decide +kernel
theorem dX12_piece_86 : decode cX12_piece 86 = .ok (.aload_n 0, 1) := by decide +kernel
theorem dX12_piece_87 : decode cX12_piece 87 = .ok (.iload_n 1, 1) := by decide +kernel
theorem dX12_piece_88 : decode cX12_piece 88 = .ok (.iload 5, 2) := by decide +kernel
theorem dX12_piece_90 : decode cX12_piece 90 = .ok (.aload_n 0, 1) := by decide +kernel
theorem dX12_piece_91 : decode cX12_piece 91 = .ok (.getfield 94, 3) := by decide +kernel
theorem dX12_piece_94 : decode cX12_piece 94 = .ok (.bipush 12, 2) := by decide +kernel
theorem dX12_piece_96 : decode cX12_piece 96 = .ok (.aload_n 0, 1) := by decide +kernel
theorem dX12_piece_97 : decode cX12_piece 97 = .ok (.getfield 100, 3) := by decide +kernel
theorem dX12_piece_100 : decode cX12_piece 100 = .ok (.iload_n 1, 1) := by decide +kernel
theorem dX12_piece_101 : decode cX12_piece 101 = .ok (.iaload, 1) := by decide +kernel
theorem dX12_piece_102 : decode cX12_piece 102 = .ok (.iload 5, 2) := by decide +kernel
theorem dX12_piece_104 : decode cX12_piece 104 = .ok (.iadd, 1) := by decide +kernel
theorem dX12_piece_105 : decode cX12_piece 105 = .ok (.imul, 1) := by decide +kernel
theorem dX12_piece_106 : decode cX12_piece 106 = .ok (.iload 6, 2) := by decide +kernel
theorem dX12_piece_108 : decode cX12_piece 108 = .ok (.iadd, 1) := by decide +kernel
theorem dX12_piece_109 : decode cX12_piece 109 = .ok (.iaload, 1) := by decide +kernel
theorem dX12_piece_110 : decode cX12_piece 110 = .ok (.iload_n 3, 1) := by decide +kernel
theorem dX12_piece_111 : decode cX12_piece 111 = .ok (.invokevirtual 378, 3) := by decide +kernel
theorem dX12_piece_114 : decode cX12_piece 114 = .ok (.ireturn, 1) := by decide +kernel
theorem dX12_piece_115 : decode cX12_piece 115 = .ok (.iinc 4 (-1), 3) := by decide +kernel
theorem dX12_piece_118 : decode cX12_piece 118 = .ok (.iinc 6 1, 3) := by decide +kernel
theorem dX12_piece_121 : decode cX12_piece 121 = .ok (.goto (-74), 3) := by decide +kernel
theorem dX12_piece_124 : decode cX12_piece 124 = .ok (.iinc 5 1, 3) := by decide +kernel
theorem dX12_piece_127 : decode cX12_piece 127 = .ok (.goto (-93), 3) := by decide +kernel
theorem dX12_piece_130 : decode cX12_piece 130 = .ok (.iconst (-1), 1) := by decide +kernel
theorem dX12_piece_131 : decode cX12_piece 131 = .ok (.ireturn, 1) := by decide +kernel
set_option maxRecDepth 20000 in
theorem ggX12_told_X12_metres : GoodIn wsX12_told wsX12_metres := goodIn_h _ [1, 4, 6, 0, 0, 0, 0, 0, 0, 0, 0, 0, 0, 0, 0, 0, 0, 0, 0, 0, 0, 0, 0, 0, 0, 0, 0, 0, 0, 0, 0, 0, 0, 0, 0, 0, 0, 0, 0, 0, 0, 0, 0, 0, 0, 0, 0, 0, 0, 0, 0, 0, 0, 0, 0, 0, 0, 0, 0, 0, 0, 0, 0, 0, 0, 0, 0, 0] [1, 0, 2, 3, 4, 5, 6, 7, 8, 9, 10, 11, 12, 13, 14, 15, 16, 17, 18, 19, 20, 21, 22, 23, 24, 25, 26, 27, 28, 29, 30, 31, 32, 33, 34, 35, 36, 37, 38, 39, 40, 41, 42, 43, 44, 45, 46, 47, 48, 49, 50, 51, 52, 53, 54, 55, 56, 57, 58, 59, 60, 61, 62, 63, 64, 65, 66, 67] (by decide +kernel) (by decide +kernel)
set_option maxRecDepth 20000 in
theorem gX12_told_X12_metres : GoodIn wsX12_told (wsV RX12 350 RX12 yX12_metres wsX12_metres) := goodIn_app (goodIn_of _ (by decide +kernel)) ggX12_told_X12_metres
set_option maxRecDepth 20000 in
theorem ggX12_told_X12_endOf : GoodIn wsX12_told wsX12_endOf := goodIn_h _ [10, 0, 0, 0, 0, 0, 0, 0, 0, 0, 0, 0, 0, 0, 0, 0, 0, 0, 0, 0, 0, 0, 0, 0, 0, 0, 0, 0, 0, 0, 0, 0, 0, 0, 0, 0, 0, 0, 0, 0, 0, 0, 0, 0, 0, 0, 0, 0, 0, 0, 0, 0, 0, 0, 0, 0, 0, 0, 0, 0, 0, 0, 0, 0, 0, 0, 0, 0, 0] [0, 1, 2, 3, 4, 5, 6, 7, 8, 9, 10, 11, 12, 13, 14, 15, 16, 17, 18, 19, 20, 21, 22, 23, 24, 25, 26, 27, 28, 29, 30, 31, 32, 33, 34, 35, 36, 37, 38, 39, 40, 41, 42, 43, 44, 45, 46, 47, 48, 49, 50, 51, 52, 53, 54, 55, 56, 57, 58, 59, 60, 61, 62, 63, 64, 65, 66, 67, 68] (by decide +kernel) (by decide +kernel)
set_option maxRecDepth 20000 in
theorem gX12_told_X12_endOf : GoodIn wsX12_told (wsV RX12 336 RX12 yX12_endOf wsX12_endOf) := goodIn_app (goodIn_of _ (by decide +kernel)) ggX12_told_X12_endOf
theorem dX12_told_0 : decode cX12_told 0 = .ok (.iload_n 3, 1) := by decide +kernel
theorem dX12_told_1 : decode cX12_told 1 = .ok (.sipush 1000, 3) := by decide +kernel
theorem dX12_told_4 : decode cX12_told 4 = .ok (.idiv, 1) := by decide +kernel
theorem dX12_told_5 : decode cX12_told 5 = .ok (.istore 5, 2) := by decide +kernel
theorem dX12_told_7 : decode cX12_told 7 = .ok (.iload 4, 2) := by decide +kernel
theorem dX12_told_9 : decode cX12_told 9 = .ok (.tableswitch 55 0 4 #[35, 41, 47, 55, 49], 35) := by decide +kernel
theorem dX12_told_44 : decode cX12_told 44 = .ok (.iload 5, 2) := by decide +kernel
theorem dX12_told_46 : decode cX12_told 46 = .ok (.bipush 60, 2) := by decide +kernel
theorem dX12_told_48 : decode cX12_told 48 = .ok (.idiv, 1) := by decide +kernel
theorem dX12_told_49 : decode cX12_told 49 = .ok (.ireturn, 1) := by decide +kernel
theorem dX12_told_50 : decode cX12_told 50 = .ok (.iload 5, 2) := by decide +kernel
theorem dX12_told_52 : decode cX12_told 52 = .ok (.bipush 60, 2) := by decide +kernel
theorem dX12_told_54 : decode cX12_told 54 = .ok (.irem, 1) := by decide +kernel
theorem dX12_told_55 : decode cX12_told 55 = .ok (.ireturn, 1) := by decide +kernel
theorem dX12_told_56 : decode cX12_told 56 = .ok (.iload_n 2, 1) := by decide +kernel
theorem dX12_told_57 : decode cX12_told 57 = .ok (.ireturn, 1) := by decide +kernel
theorem dX12_told_58 : decode cX12_told 58 = .ok (.iload_n 3, 1) := by decide +kernel
theorem dX12_told_59 : decode cX12_told 59 = .ok (.sipush 1000, 3) := by decide +kernel
theorem dX12_told_62 : decode cX12_told 62 = .ok (.irem, 1) := by decide +kernel
theorem dX12_told_63 : decode cX12_told 63 = .ok (.ireturn, 1) := by decide +kernel
theorem dX12_told_64 : decode cX12_told 64 = .ok (.iconst 1, 1) := by decide +kernel
theorem dX12_told_65 : decode cX12_told 65 = .ok (.istore 6, 2) := by decide +kernel
theorem dX12_told_67 : decode cX12_told 67 = .ok (.iload_n 2, 1) := by decide +kernel
theorem dX12_told_68 : decode cX12_told 68 = .ok (.iload 6, 2) := by decide +kernel
theorem dX12_told_70 : decode cX12_told 70 = .ok (.iadd, 1) := by decide +kernel
theorem dX12_told_71 : decode cX12_told 71 = .ok (.aload_n 0, 1) := by decide +kernel
theorem dX12_told_72 : decode cX12_told 72 = .ok (.iload_n 1, 1) := by decide +kernel
theorem dX12_told_73 : decode cX12_told 73 = .ok (.invokevirtual 350, 3) := by decide +kernel
theorem dX12_told_76 : decode cX12_told 76 = .ok (.if_icmp .ge 30, 3) := by decide +kernel
theorem dX12_told_79 : decode cX12_told 79 = .ok (.aload_n 0, 1) := by decide +kernel
theorem dX12_told_80 : decode cX12_told 80 = .ok (.aload_n 0, 1) := by decide +kernel
theorem dX12_told_81 : decode cX12_told 81 = .ok (.getfield 100, 3) := by decide +kernel
theorem dX12_told_84 : decode cX12_told 84 = .ok (.iload_n 1, 1) := by decide +kernel
theorem dX12_told_85 : decode cX12_told 85 = .ok (.iaload, 1) := by decide +kernel
theorem dX12_told_86 : decode cX12_told 86 = .ok (.iload_n 2, 1) := by decide +kernel
theorem dX12_told_87 : decode cX12_told 87 = .ok (.iadd, 1) := by decide +kernel
theorem dX12_told_88 : decode cX12_told 88 = .ok (.iload 6, 2) := by decide +kernel
theorem dX12_told_90 : decode cX12_told 90 = .ok (.iadd, 1) := by decide +kernel
theorem dX12_told_91 : decode cX12_told 91 = .ok (.iload 5, 2) := by decide +kernel
theorem dX12_told_93 : decode cX12_told 93 = .ok (.invokevirtual 336, 3) := by decide +kernel
theorem dX12_told_96 : decode cX12_told 96 = .ok (.iconst (-1), 1) := by decide +kernel
theorem dX12_told_97 : decode cX12_told 97 = .ok (.if_icmp .eq 9, 3) := by decide +kernel
theorem dX12_told_100 : decode cX12_told 100 = .ok (.iinc 6 1, 3) := by decide +kernel
theorem dX12_told_103 : decode cX12_told 103 = .ok (.goto (-36), 3) := by decide +kernel
theorem dX12_told_106 : decode cX12_told 106 = .ok (.iload 6, 2) := by decide +kernel
theorem dX12_told_108 : decode cX12_told 108 = .ok (.ireturn, 1) := by decide +kernel
theorem inn_X12_begins_12 : ∀ w ∈ u_ws RX12 TX12 66, w ∈ wsX12_begins := fun w h => List.mem_cons_of_mem _ (List.mem_append_right _ h)
theorem inn_X12_piece_12 : ∀ w ∈ u_ws RX12 TX12 66, w ∈ wsX12_piece := fun w h => List.mem_cons_of_mem _ (List.mem_append_right _ h)
theorem inn_X12_pieces_12 : ∀ w ∈ u_ws RX12 TX12 66, w ∈ wsX12_pieces := fun w h => List.mem_cons_of_mem _ (List.mem_append_right _ h)
theorem inn_X12_skein_12 : ∀ w ∈ u_ws RX12 TX12 66, w ∈ wsX12_skein := fun w h => List.mem_cons_of_mem _ (List.mem_append_right _ h)
theorem inn_X12_told_12 : ∀ w ∈ u_ws RX12 TX12 66, w ∈ wsX12_told := fun w h => List.mem_cons_of_mem _ (List.mem_append_right _ h)
set_option maxHeartbeats 4000000 in
set_option maxRecDepth 100000 in
theorem k_X12_begins (l : Launch) (G : va_G) (cy : Nat → ClassId) (κ : Nat → Nat) (S : PS) (sz : Nat) (x : Nat) (a1 : Int32) (a1_z : Int) (a2 : Int32) (a2_z : Int) (a3 : Int32) (a3_z : Int) (hG : GX S) (ha_x : At S x 12) (hz_a1 : a1.toInt = a1_z) (hz_a2 : a2.toInt = a2_z) (hz_a3 : a3.toInt = a3_z) (hp_0 : 0 ≤ a1_z) (hp_1 : a1_z ≤ 39) (hp_2 : a1_z < (pI S 1238 x).toInt) (hp_3 : MI S x) (hp_4 : 0 ≤ a2_z) (hp_5 : a2_z < zA S x 1239 (a1_z + 1).toNat - zA S x 1239 a1_z.toNat) (hp_6 : 0 ≤ a3_z) (hp_7 : a3_z ≤ 11) : Ci l yX12_begins wsX12_begins ({ frames := 2, cells := 0, slots := 0, locals := 96 }) G cy κ S sz [.ref x, .int (a1), .int (a2), .int (a3)] (fun (r : Int32) (S9 : PS) => S = S9 ∧ (((True) ∧ r = 1) ∨ ((True) ∧ r = 0))) := by
  refine ent_m (cc := cX12_begins) (maxL := 5) (ret := (some .boolean)) (by decide) rfl (Nat.le_of_ble_eq_true rfl) ?_
  intro p e s m below meth c ls X hr hlocks hin hw hl hsz
  subst hsz
  have X : Cx p c cX12_begins 5 s [.ref x, .int (a1), .int (a2), .int (a3)].toArray wsX12_begins RX12 m G cy κ (AS S s.heap.size) := X
  have hl : lv_has ls 5 [(0, .ref x), (1, .int (a1)), (2, .int (a2)), (3, .int (a3))] := hl
  have rg_a1 : (-2147483648) ≤ a1_z ∧ a1_z ≤ 2147483647 := by rw [← hz_a1]; exact ⟨z_lo _, z_hi _⟩
  have rg_a2 : (-2147483648) ≤ a2_z ∧ a2_z ≤ 2147483647 := by rw [← hz_a2]; exact ⟨z_lo _, z_hi _⟩
  have rg_a3 : (-2147483648) ≤ a3_z ∧ a3_z ≤ 2147483647 := by rw [← hz_a3]; exact ⟨z_lo _, z_hi _⟩
  have h7 := MI_7 hp_3 (k := a1_z) (by omega) (by omega)
  refine lv_aload_n X.1 X.2.1 dX12_begins_0 rfl (lv_at hl 0 rfl) ?_
  obtain ⟨q_1, h_2, h_3, h_4⟩ := gQ_12_1239 hG ha_x
  refine r_getR (g := 1239) X hw ha_x rfl 39 h_2 (by decide) rfl inn_X12_begins_12 (by decide) (X.2.2.2.1 (.fieldLink RX12 100 "SilkMillModel" "firstMetre" "[I") (by decide +kernel)) rfl (gv_1239 _ _) dX12_begins_1 ?_
  refine lv_iload_n X.1 X.2.1 dX12_begins_4 rfl (lv_at hl 1 rfl) ?_
  refine r_iald X hw h_3 rfl (by rw [h_4]; exact z_ix hz_a1 (by omega) (by omega)) dX12_begins_5 ?_
  refine lv_topi (fun v_5 ev_5 => ?_)
  have z_6 := gE_994 hG h_3 (Int32.toNatClampNeg (a1)); rw [← ev_5] at z_6
  have ev_5 := ev_5.symm
  have zf_7 : zA S x 1239 (a1_z).toNat = v_5.toInt := (zA_of h_2 hz_a1 (by omega) ev_5)
  refine lv_iload_n X.1 X.2.1 dX12_begins_6 rfl (lv_at hl 2 rfl) ?_
  refine lv_iadd X.1 X.2.1 dX12_begins_7 ?_
  refine lv_topi (fun v_8 ev_8 => ?_)
  have z_9 : v_8.toInt = v_5.toInt + a2_z := z_add ev_8 rfl hz_a2 (by omega) (by omega)
  refine lv_istore (lv' := [(4, .int (v_8)), (0, .ref x), (1, .int (a1)), (2, .int (a2)), (3, .int (a3))]) X.1 X.2.1 dX12_begins_8 hl (by decide) rfl (fun ls hl => ?_)
  refine lv_iload_n X.1 X.2.1 dX12_begins_10 rfl (lv_at hl 3 rfl) ?_
  refine lv_if_eq (tgt := 42) X.1 X.2.1 dX12_begins_11 (by decide) (fun c_10 => ?_) (fun c_10 => ?_)
  · have z_b_11 := trivial
    have k_12 : a2_z = 0 := z_eq hz_a2 ti_0 c_10
    refine lv_iconst (v := 1) X.1 X.2.1 dX12_begins_42 (by decide) ?_
    refine lv_goto (tgt := 47) X.1 X.2.1 dX12_begins_43 (by decide) ?_
    exact ret_z X hw hr hlocks (Nat.le_of_ble_eq_true rfl) (Nat.le_of_ble_eq_true rfl) (by decide) ⟨rfl, Or.inl ⟨trivial, rfl⟩⟩ dX12_begins_47
  · have z_b_13 := trivial
    have k_14 : a2_z ≠ 0 := z_ne hz_a2 ti_0 c_10
    refine lv_aload_n X.1 X.2.1 dX12_begins_14 rfl (lv_at hl 1 rfl) ?_
    refine lv_iload X.1 X.2.1 dX12_begins_15 (lv_at hl 0 rfl) ?_
    refine lv_iconst (v := 1) X.1 X.2.1 dX12_begins_17 (by decide) ?_
    refine lv_isub X.1 X.2.1 dX12_begins_18 ?_
    refine lv_topi (fun v_15 ev_15 => ?_)
    have z_16 : v_15.toInt = (v_5.toInt + a2_z) - 1 := z_sub ev_15 z_9 ti_1 (by omega) (by omega)
    refine lv_aload_n X.1 X.2.1 dX12_begins_19 rfl (lv_at hl 1 rfl) ?_
    obtain ⟨q_17, h_18, h_19, h_20⟩ := gQ_12_1236 hG ha_x
    refine r_getR (g := 1236) X hw ha_x rfl 36 h_18 (by decide) rfl inn_X12_begins_12 (by decide) (X.2.2.2.1 (.fieldLink RX12 94 "SilkMillModel" "drawn" "[I") (by decide +kernel)) rfl (gv_1236 _ _) dX12_begins_20 ?_
    refine lv_bipush (v := 12) X.1 X.2.1 dX12_begins_23 (by decide) ?_
    refine lv_iload X.1 X.2.1 dX12_begins_25 (lv_at hl 0 rfl) ?_
    refine lv_imul X.1 X.2.1 dX12_begins_27 ?_
    refine lv_topi (fun v_21 ev_21 => ?_)
    have z_22 : v_21.toInt = 12 * (v_5.toInt + a2_z) := z_mul ev_21 ti_12 z_9 (by omega) (by omega)
    refine lv_iload_n X.1 X.2.1 dX12_begins_28 rfl (lv_at hl 4 rfl) ?_
    refine lv_iadd X.1 X.2.1 dX12_begins_29 ?_
    refine lv_topi (fun v_23 ev_23 => ?_)
    have z_24 : v_23.toInt = (12 * (v_5.toInt + a2_z)) + a3_z := z_add ev_23 z_22 hz_a3 (by omega) (by omega)
    refine r_iald X hw h_19 rfl (by rw [h_20]; exact z_ix z_24 (by omega) (by omega)) dX12_begins_30 ?_
    refine lv_topi (fun v_25 ev_25 => ?_)
    have z_26 := gE_934 hG h_19 (Int32.toNatClampNeg (v_23)); rw [← ev_25] at z_26
    have ev_25 := ev_25.symm
    refine lv_sipush (v := 1000) X.1 X.2.1 dX12_begins_31 (by decide) ?_
    refine lv_idiv X.1 X.2.1 dX12_begins_34 (by decide) ?_
    refine lv_topi (fun v_27 ev_27 => ?_)
    have z_28 : v_27.toInt = v_25.toInt / 1000 := z_div ev_27 rfl ti_1000 (by omega) (by omega)
    refine k_i (rm := { frames := 1, cells := 0, slots := 0, locals := 48 }) (av := [.ref x, .int (v_15), .int (v_27)]) X hw (va_runV (As := [.int (v_15), .int (v_27)]) (rest := []) (cfix X) (k_X12_endOf l G cy κ S _ x (v_15) (((v_5.toInt + a2_z) - 1)) (v_27) ((v_25.toInt / 1000)) hG ha_x z_16 z_28 (by first | assumption | omega) (by first | assumption | omega)) (cwV 2 X.2.2.2.1 gX12_begins_X12_endOf rfl rfl rfl (by decide +kernel) ⟨Nat.le_of_ble_eq_true rfl, Nat.le_of_ble_eq_true rfl⟩) (pre_V X hw _ ha_x rfl (by decide) rfl) rfl rfl hl.1 rfl (lv_room (Nat.le_of_ble_eq_true rfl)) dX12_begins_35 ⟨Nat.le_of_ble_eq_true rfl, Nat.le_of_ble_eq_true rfl⟩) 0 0 (Nat.le_of_ble_eq_true rfl) (Nat.le_of_ble_eq_true rfl) (fun rr_29 S_30 H locs hp hw hfr hnw => ?_)
    obtain ⟨e2, hp⟩ := hp
    subst e2
    have rg_31 := And.intro (z_lo rr_29) (z_hi rr_29)
    refine lv_iconst (v := (-1)) X.1 X.2.1 dX12_begins_38 (by decide) ?_
    refine lv_icmp_ne (tgt := 46) X.1 X.2.1 dX12_begins_39 (by decide) (fun c_32 => ?_) (fun c_32 => ?_)
    · have z_b_33 := trivial
      have k_34 : rr_29.toInt ≠ (-1) := z_ne rfl ti_m1 c_32
      refine lv_iconst (v := 0) X.1 X.2.1 dX12_begins_46 (by decide) ?_
      exact ret_z X hw hr hlocks (Nat.le_of_ble_eq_true rfl) (Nat.le_of_ble_eq_true rfl) (by decide) ⟨rfl, Or.inr ⟨trivial, rfl⟩⟩ dX12_begins_47
    · have z_b_35 := trivial
      have k_36 : rr_29.toInt = (-1) := z_eq rfl ti_m1 c_32
      refine lv_iconst (v := 1) X.1 X.2.1 dX12_begins_42 (by decide) ?_
      refine lv_goto (tgt := 47) X.1 X.2.1 dX12_begins_43 (by decide) ?_
      exact ret_z X hw hr hlocks (Nat.le_of_ble_eq_true rfl) (Nat.le_of_ble_eq_true rfl) (by decide) ⟨rfl, Or.inl ⟨trivial, rfl⟩⟩ dX12_begins_47
set_option maxHeartbeats 4000000 in
set_option maxRecDepth 100000 in
theorem k_X12_pieces (l : Launch) (G : va_G) (cy : Nat → ClassId) (κ : Nat → Nat) (S : PS) (sz : Nat) (x : Nat) (a1 : Int32) (a1_z : Int) (hG : GX S) (ha_x : At S x 12) (hz_a1 : a1.toInt = a1_z) (hp_0 : 0 ≤ a1_z) (hp_1 : a1_z ≤ 39) (hp_2 : a1_z < (pI S 1238 x).toInt) (hp_3 : MI S x) : Ci l yX12_pieces wsX12_pieces ({ frames := 3, cells := 0, slots := 0, locals := 144 }) G cy κ S sz [.ref x, .int (a1)] (fun (r : Int32) (S9 : PS) => S = S9 ∧ (True)) := by
  refine ent_m (cc := cX12_pieces) (maxL := 5) (ret := (some .int)) (by decide) rfl (Nat.le_of_ble_eq_true rfl) ?_
  intro p e s m below meth c ls X hr hlocks hin hw hl hsz
  subst hsz
  have X : Cx p c cX12_pieces 5 s [.ref x, .int (a1)].toArray wsX12_pieces RX12 m G cy κ (AS S s.heap.size) := X
  have hl : lv_has ls 5 [(0, .ref x), (1, .int (a1))] := hl
  have rg_a1 : (-2147483648) ≤ a1_z ∧ a1_z ≤ 2147483647 := by rw [← hz_a1]; exact ⟨z_lo _, z_hi _⟩
  generalize hQQ : MQ below _ _ _ _ _ _ = QQ
  replace hQQ := hQQ.symm
  have h7 := MI_7 hp_3 (k := a1_z) (by omega) (by omega)
  refine lv_iconst (v := 0) X.1 X.2.1 dX12_pieces_0 (by decide) ?_
  refine lv_istore_n (lv' := [(2, .int 0), (0, .ref x), (1, .int (a1))]) X.1 X.2.1 dX12_pieces_1 rfl hl (by decide) rfl (fun ls hl => ?_)
  refine lv_iconst (v := 0) X.1 X.2.1 dX12_pieces_2 (by decide) ?_
  refine lv_istore_n (lv' := [(3, .int 0), (2, .int 0), (0, .ref x), (1, .int (a1))]) X.1 X.2.1 dX12_pieces_3 rfl hl (by decide) rfl (fun ls hl => ?_)
  have L_1 : ∀ (n : Nat) (H : Heap) (locs : List Loc) (ls : Array Slot) (i2_2 : Int32) (i2_2_z : Int) (i3_3 : Int32) (i3_3_z : Int), ((300 - i3_3_z).toNat = n) → (Wd G cy (AS S s.heap.size) s.heap S H locs) → (i2_2.toInt = i2_2_z) → (i3_3.toInt = i3_3_z) → (0 ≤ i3_3_z ∧ i3_3_z ≤ 300) → (lv_has ls 5 [(2, .int (i2_2)), (3, .int (i3_3)), (0, .ref x), (1, .int (a1))]) → W p l e ({ frames := 3, cells := 0, slots := 0, locals := 144 }) s m [.ref x, .int (a1)].toArray below meth c H locs 0 0 QQ (F0 m 4 ls []) := by
    intro n
    induction n using Nat.strongRecOn with
    | ind n ih_L_1 =>
    intro H locs ls i2_2 i2_2_z i3_3 i3_3_z hn hw hz_i2_2 hz_i3_3 hr_i3_3 hl
    have rg_4 : (-2147483648) ≤ i2_2_z ∧ i2_2_z ≤ 2147483647 := by rw [← hz_i2_2]; exact ⟨z_lo _, z_hi _⟩
    have rg_5 : (-2147483648) ≤ i3_3_z ∧ i3_3_z ≤ 2147483647 := by rw [← hz_i3_3]; exact ⟨z_lo _, z_hi _⟩
    refine lv_iload_n X.1 X.2.1 dX12_pieces_4 rfl (lv_at hl 1 rfl) ?_
    refine lv_aload_n X.1 X.2.1 dX12_pieces_5 rfl (lv_at hl 2 rfl) ?_
    refine lv_iload_n X.1 X.2.1 dX12_pieces_6 rfl (lv_at hl 3 rfl) ?_
    refine k_i (rm := { frames := 1, cells := 0, slots := 0, locals := 48 }) (av := [.ref x, .int (a1)]) X hw (va_runV (As := [.int (a1)]) (rest := [.int (i3_3)]) (cfix X) (k_X12_metres l G cy κ S _ x (a1) (a1_z) hG ha_x hz_a1 (by first | assumption | omega) (by first | assumption | omega) (by first | assumption | omega) hp_3) (cwV 1 X.2.2.2.1 gX12_pieces_X12_metres rfl rfl rfl (by decide +kernel) ⟨Nat.le_of_ble_eq_true rfl, Nat.le_of_ble_eq_true rfl⟩) (pre_V X hw _ ha_x rfl (by decide) rfl) rfl rfl hl.1 rfl (lv_room (Nat.le_of_ble_eq_true rfl)) dX12_pieces_7 ⟨Nat.le_of_ble_eq_true rfl, Nat.le_of_ble_eq_true rfl⟩) 0 0 (Nat.le_of_ble_eq_true rfl) (Nat.le_of_ble_eq_true rfl) (fun rr_6 S_7 H locs hp hw hfr hnw => ?_)
    obtain ⟨e2, hp⟩ := hp
    subst e2
    obtain ⟨f_8, f_9, f_10⟩ := hp
    refine lv_icmp_ge (tgt := 65) X.1 X.2.1 dX12_pieces_10 (by decide) (fun c_11 => ?_) (fun c_11 => ?_)
    · have z_b_12 := trivial
      have k_13 : i3_3_z ≥ rr_6.toInt := z_le rfl hz_i3_3 c_11
      refine lv_iload_n X.1 X.2.1 dX12_pieces_65 rfl (lv_at hl 0 rfl) ?_
      rw [hQQ]
      exact ret_i X hw hr hlocks (Nat.le_of_ble_eq_true rfl) (Nat.le_of_ble_eq_true rfl) ⟨rfl, trivial⟩ dX12_pieces_66
    · have z_b_14 := trivial
      have k_15 : i3_3_z < rr_6.toInt := z_nle rfl hz_i3_3 c_11
      refine lv_iconst (v := 0) X.1 X.2.1 dX12_pieces_13 (by decide) ?_
      refine lv_istore (lv' := [(4, .int 0), (2, .int (i2_2)), (3, .int (i3_3)), (0, .ref x), (1, .int (a1))]) X.1 X.2.1 dX12_pieces_14 hl (by decide) rfl (fun ls hl => ?_)
      have L_16 : ∀ (n : Nat) (H : Heap) (locs : List Loc) (ls : Array Slot) (i2_17 : Int32) (i2_17_z : Int) (i4_18 : Int32) (i4_18_z : Int), ((12 - i4_18_z).toNat = n) → (Wd G cy (AS S s.heap.size) s.heap S H locs) → (i2_17.toInt = i2_17_z) → (i4_18.toInt = i4_18_z) → (0 ≤ i4_18_z ∧ i4_18_z ≤ 12) → (lv_has ls 5 [(2, .int (i2_17)), (4, .int (i4_18)), (3, .int (i3_3)), (0, .ref x), (1, .int (a1))]) → W p l e ({ frames := 3, cells := 0, slots := 0, locals := 144 }) s m [.ref x, .int (a1)].toArray below meth c H locs 0 0 QQ (F0 m 16 ls []) := by
        intro n
        induction n using Nat.strongRecOn with
        | ind n ih_L_16 =>
        intro H locs ls i2_17 i2_17_z i4_18 i4_18_z hn hw hz_i2_17 hz_i4_18 hr_i4_18 hl
        have rg_19 : (-2147483648) ≤ i2_17_z ∧ i2_17_z ≤ 2147483647 := by rw [← hz_i2_17]; exact ⟨z_lo _, z_hi _⟩
        have rg_20 : (-2147483648) ≤ i4_18_z ∧ i4_18_z ≤ 2147483647 := by rw [← hz_i4_18]; exact ⟨z_lo _, z_hi _⟩
        refine lv_iload X.1 X.2.1 dX12_pieces_16 (lv_at hl 1 rfl) ?_
        refine lv_aload_n X.1 X.2.1 dX12_pieces_18 rfl (lv_at hl 3 rfl) ?_
        obtain ⟨q_21, h_22, h_23, h_24⟩ := gQ_12_1235 hG ha_x
        refine r_getR (g := 1235) X hw ha_x rfl 35 h_22 (by decide) rfl inn_X12_pieces_12 (by decide) (X.2.2.2.1 (.fieldLink RX12 90 "SilkMillModel" "metreEnds" "[I") (by decide +kernel)) rfl (gv_1235 _ _) dX12_pieces_19 ?_
        refine lv_aload_n X.1 X.2.1 dX12_pieces_22 rfl (lv_at hl 3 rfl) ?_
        obtain ⟨q_25, h_26, h_27, h_28⟩ := gQ_12_1239 hG ha_x
        refine r_getR (g := 1239) X hw ha_x rfl 39 h_26 (by decide) rfl inn_X12_pieces_12 (by decide) (X.2.2.2.1 (.fieldLink RX12 100 "SilkMillModel" "firstMetre" "[I") (by decide +kernel)) rfl (gv_1239 _ _) dX12_pieces_23 ?_
        refine lv_iload_n X.1 X.2.1 dX12_pieces_26 rfl (lv_at hl 4 rfl) ?_
        refine r_iald X hw h_27 rfl (by rw [h_28]; exact z_ix hz_a1 (by omega) (by omega)) dX12_pieces_27 ?_
        refine lv_topi (fun v_29 ev_29 => ?_)
        have z_30 := gE_994 hG h_27 (Int32.toNatClampNeg (a1)); rw [← ev_29] at z_30
        have ev_29 := ev_29.symm
        have zf_31 : zA S x 1239 (a1_z).toNat = v_29.toInt := (zA_of h_26 hz_a1 (by omega) ev_29)
        refine lv_iload_n X.1 X.2.1 dX12_pieces_28 rfl (lv_at hl 2 rfl) ?_
        refine lv_iadd X.1 X.2.1 dX12_pieces_29 ?_
        refine lv_topi (fun v_32 ev_32 => ?_)
        have z_33 : v_32.toInt = v_29.toInt + i3_3_z := z_add ev_32 rfl hz_i3_3 (by omega) (by omega)
        refine r_iald X hw h_23 rfl (by rw [h_24]; exact z_ix z_33 (by omega) (by omega)) dX12_pieces_30 ?_
        refine lv_topi (fun v_34 ev_34 => ?_)
        have z_35 := gE_914 hG h_23 (Int32.toNatClampNeg (v_32)); rw [← ev_34] at z_35
        have ev_34 := ev_34.symm
        refine lv_icmp_ge (tgt := 59) X.1 X.2.1 dX12_pieces_31 (by decide) (fun c_36 => ?_) (fun c_36 => ?_)
        · have z_b_37 := trivial
          have k_38 : i4_18_z ≥ v_34.toInt := z_le rfl hz_i4_18 c_36
          obtain ⟨x_39, ex_39⟩ : ∃ y : Int32, y = i3_3 + 1 := ⟨_, rfl⟩
          have z_40 : x_39.toInt = i3_3_z + 1 := z_add ex_39 hz_i3_3 ti_1 (by omega) (by omega)
          refine lv_iinc (v := x_39) (lv' := [(3, .int (x_39)), (2, .int (i2_17)), (4, .int (i4_18)), (0, .ref x), (1, .int (a1))]) X.1 X.2.1 dX12_pieces_59 hl (k := 2) rfl (by rw [ex_39]; rfl) (by decide) rfl (fun ls hl => ?_)
          refine lv_goto (tgt := 4) X.1 X.2.1 dX12_pieces_62 (by decide) ?_
          exact ih_L_1 _ (by omega) _ _ _ (i2_17) (i2_17_z) (x_39) (x_39.toInt) rfl hw hz_i2_17 rfl (by omega) (lv_sub hl [1, 0, 3, 4] rfl)
        · have z_b_41 := trivial
          have k_42 : i4_18_z < v_34.toInt := z_nle rfl hz_i4_18 c_36
          refine lv_iload_n X.1 X.2.1 dX12_pieces_34 rfl (lv_at hl 0 rfl) ?_
          refine lv_aload_n X.1 X.2.1 dX12_pieces_35 rfl (lv_at hl 3 rfl) ?_
          refine lv_iload_n X.1 X.2.1 dX12_pieces_36 rfl (lv_at hl 4 rfl) ?_
          refine lv_iload_n X.1 X.2.1 dX12_pieces_37 rfl (lv_at hl 2 rfl) ?_
          refine lv_iload X.1 X.2.1 dX12_pieces_38 (lv_at hl 1 rfl) ?_
          refine k_i (rm := { frames := 2, cells := 0, slots := 0, locals := 96 }) (av := [.ref x, .int (a1), .int (i3_3), .int (i4_18)]) X hw (va_runV (As := [.int (a1), .int (i3_3), .int (i4_18)]) (rest := [.int (i2_17)]) (cfix X) (k_X12_begins l G cy κ S _ x (a1) (a1_z) (i3_3) (i3_3_z) (i4_18) (i4_18_z) hG ha_x hz_a1 hz_i3_3 hz_i4_18 (by first | assumption | omega) (by first | assumption | omega) (by first | assumption | omega) hp_3 (by first | assumption | omega) (by first | assumption | omega) (by first | assumption | omega) (by first | assumption | omega)) (cwV 3 X.2.2.2.1 gX12_pieces_X12_begins rfl rfl rfl (by decide +kernel) ⟨Nat.le_of_ble_eq_true rfl, Nat.le_of_ble_eq_true rfl⟩) (pre_V X hw _ ha_x rfl (by decide) rfl) rfl rfl hl.1 rfl (lv_room (Nat.le_of_ble_eq_true rfl)) dX12_pieces_40 ⟨Nat.le_of_ble_eq_true rfl, Nat.le_of_ble_eq_true rfl⟩) 0 0 (Nat.le_of_ble_eq_true rfl) (Nat.le_of_ble_eq_true rfl) (fun rr_43 S_44 H locs hp hw hfr hnw => ?_)
          obtain ⟨e2, hp⟩ := hp
          subst e2
          rcases hp with ⟨f_45, er_46⟩ | ⟨f_45, er_46⟩ <;> subst er_46
          · have z_b_47 := trivial
            refine lv_if_eq (tgt := 50) X.1 X.2.1 dX12_pieces_43 (by decide) (fun c_48 => absurd c_48 (by decide)) (fun c_48 => ?_)
            refine lv_iconst (v := 1) X.1 X.2.1 dX12_pieces_46 (by decide) ?_
            refine lv_goto (tgt := 51) X.1 X.2.1 dX12_pieces_47 (by decide) ?_
            refine lv_iadd X.1 X.2.1 dX12_pieces_51 ?_
            refine lv_topi (fun v_49 ev_49 => ?_)
            have rg_50 := And.intro (z_lo v_49) (z_hi v_49)
            refine lv_istore_n (lv' := [(2, .int (v_49)), (4, .int (i4_18)), (3, .int (i3_3)), (0, .ref x), (1, .int (a1))]) X.1 X.2.1 dX12_pieces_52 rfl hl (by decide) rfl (fun ls hl => ?_)
            obtain ⟨x_51, ex_51⟩ : ∃ y : Int32, y = i4_18 + 1 := ⟨_, rfl⟩
            have z_52 : x_51.toInt = i4_18_z + 1 := z_add ex_51 hz_i4_18 ti_1 (by omega) (by omega)
            refine lv_iinc (v := x_51) (lv' := [(4, .int (x_51)), (2, .int (v_49)), (3, .int (i3_3)), (0, .ref x), (1, .int (a1))]) X.1 X.2.1 dX12_pieces_53 hl (k := 1) rfl (by rw [ex_51]; rfl) (by decide) rfl (fun ls hl => ?_)
            refine lv_goto (tgt := 16) X.1 X.2.1 dX12_pieces_56 (by decide) ?_
            exact ih_L_16 _ (by omega) _ _ _ (v_49) (v_49.toInt) (x_51) (x_51.toInt) rfl hw rfl rfl (by omega) (lv_sub hl [1, 0, 2, 3, 4] rfl)
          · have z_b_53 := trivial
            refine lv_if_eq (tgt := 50) X.1 X.2.1 dX12_pieces_43 (by decide) (fun c_54 => ?_) (fun c_54 => absurd c_54 (by decide))
            refine lv_iconst (v := 0) X.1 X.2.1 dX12_pieces_50 (by decide) ?_
            refine lv_iadd X.1 X.2.1 dX12_pieces_51 ?_
            refine lv_topi (fun v_55 ev_55 => ?_)
            have z_56 : v_55.toInt = i2_17_z + 0 := z_add ev_55 hz_i2_17 ti_0 (by omega) (by omega)
            refine lv_istore_n (lv' := [(2, .int (v_55)), (4, .int (i4_18)), (3, .int (i3_3)), (0, .ref x), (1, .int (a1))]) X.1 X.2.1 dX12_pieces_52 rfl hl (by decide) rfl (fun ls hl => ?_)
            obtain ⟨x_57, ex_57⟩ : ∃ y : Int32, y = i4_18 + 1 := ⟨_, rfl⟩
            have z_58 : x_57.toInt = i4_18_z + 1 := z_add ex_57 hz_i4_18 ti_1 (by omega) (by omega)
            refine lv_iinc (v := x_57) (lv' := [(4, .int (x_57)), (2, .int (v_55)), (3, .int (i3_3)), (0, .ref x), (1, .int (a1))]) X.1 X.2.1 dX12_pieces_53 hl (k := 1) rfl (by rw [ex_57]; rfl) (by decide) rfl (fun ls hl => ?_)
            refine lv_goto (tgt := 16) X.1 X.2.1 dX12_pieces_56 (by decide) ?_
            exact ih_L_16 _ (by omega) _ _ _ (v_55) ((i2_17_z + 0)) (x_57) (x_57.toInt) rfl hw z_56 rfl (by omega) (lv_sub hl [1, 0, 2, 3, 4] rfl)
      exact L_16 _ _ _ _ (i2_2) (i2_2_z) (0) (0) rfl hw hz_i2_2 ti_0 (by omega) (lv_sub hl [1, 0, 2, 3, 4] rfl)
  exact L_1 _ _ _ _ (0) (0) (0) (0) rfl hw ti_0 ti_0 (by omega) (lv_sub hl [1, 0, 2, 3] rfl)
set_option maxHeartbeats 4000000 in
set_option maxRecDepth 100000 in
theorem k_X12_skein (l : Launch) (G : va_G) (cy : Nat → ClassId) (κ : Nat → Nat) (S : PS) (sz : Nat) (x : Nat) (a1 : Int32) (a1_z : Int) (a2 : Int32) (a2_z : Int) (hG : GX S) (ha_x : At S x 12) (hz_a1 : a1.toInt = a1_z) (hz_a2 : a2.toInt = a2_z) (hp_0 : MI S x) : Ci l yX12_skein wsX12_skein ({ frames := 8, cells := 0, slots := 0, locals := 384 }) G cy κ S sz [.ref x, .int (a1), .int (a2)] (fun (r : Int32) (S9 : PS) => Ok MN S S9 ∧ (True)) := by
  refine ent_m (cc := cX12_skein) (maxL := 3) (ret := (some .int)) (by decide) rfl (Nat.le_of_ble_eq_true rfl) ?_
  intro p e s m below meth c ls X hr hlocks hin hw hl hsz
  subst hsz
  have X : Cx p c cX12_skein 3 s [.ref x, .int (a1), .int (a2)].toArray wsX12_skein RX12 m G cy κ (AS S s.heap.size) := X
  have hl : lv_has ls 3 [(0, .ref x), (1, .int (a1)), (2, .int (a2))] := hl
  have rg_a1 : (-2147483648) ≤ a1_z ∧ a1_z ≤ 2147483647 := by rw [← hz_a1]; exact ⟨z_lo _, z_hi _⟩
  have rg_a2 : (-2147483648) ≤ a2_z ∧ a2_z ≤ 2147483647 := by rw [← hz_a2]; exact ⟨z_lo _, z_hi _⟩
  have hO : Ok MN S S := Ok.rf hG
  refine lv_aload_n X.1 X.2.1 dX12_skein_0 rfl (lv_at hl 0 rfl) ?_
  refine lv_iconst (v := 0) X.1 X.2.1 dX12_skein_1 (by decide) ?_
  refine r_putI (v := 0) X hw ha_x rfl 0 1200 tyX12 (by decide) rfl inn_X12_skein_12 tyX12_ok nmX12 (by decide) (X.2.2.2.1 (.fieldLink RX12 161 "SilkMillModel" "thrown" "I") (by decide +kernel)) rfl (Or.inl rfl) rfl rfl (Nat.le_of_ble_eq_true rfl) (st_1200 _ _) dX12_skein_2 (fun H locs hw => ?_)
  obtain ⟨S_1, eS_1⟩ : ∃ T, T = sI S 1200 x (0) := ⟨_, rfl⟩
  rw [← eS_1] at hw
  have hO_2 : Ok MN S S_1 := hO.sI eS_1 (by decide +kernel) (uI_12_1200 hO.1 ha_x)
  have h_3 : pI S_1 1200 x = 0 := tI_sIs eS_1
  refine lv_aload_n X.1 X.2.1 dX12_skein_5 rfl (lv_at hl 0 rfl) ?_
  refine lv_iload_n X.1 X.2.1 dX12_skein_6 rfl (lv_at hl 1 rfl) ?_
  have t_4 : At S_1 x 12 := tAt_sI eS_1 ha_x
  refine k_i (rm := { frames := 2, cells := 0, slots := 0, locals := 96 }) (av := [.ref x, .int (a1)]) X hw (va_runV (As := [.int (a1)]) (rest := []) (cfix X) (k_X12_isSkein l G cy κ S_1 _ x (a1) (a1_z) hO_2.1 t_4 hz_a1) (cwV 1 X.2.2.2.1 gX12_skein_X12_isSkein rfl rfl rfl (by decide +kernel) ⟨Nat.le_of_ble_eq_true rfl, Nat.le_of_ble_eq_true rfl⟩) (pre_V X hw _ t_4 rfl (by decide) rfl) rfl rfl hl.1 rfl (lv_room (Nat.le_of_ble_eq_true rfl)) dX12_skein_7 ⟨Nat.le_of_ble_eq_true rfl, Nat.le_of_ble_eq_true rfl⟩) 0 0 (Nat.le_of_ble_eq_true rfl) (Nat.le_of_ble_eq_true rfl) (fun rr_5 S_6 H locs hp hw hfr hnw => ?_)
  obtain ⟨e2, hp⟩ := hp
  subst e2
  rcases hp with ⟨f_7, er_8⟩ | ⟨f_7, er_8⟩ <;> subst er_8
  · have z_b_9 := trivial
    refine lv_if_ne (tgt := 15) X.1 X.2.1 dX12_skein_10 (by decide) (fun c_10 => ?_) (fun c_10 => absurd c_10 (by decide))
    refine lv_iload_n X.1 X.2.1 dX12_skein_15 rfl (lv_at hl 2 rfl) ?_
    by_cases w_11 : (a2).toInt < 0 ∨ 11 < (a2).toInt
    · refine lv_tableOut (tgt := 168) X.1 X.2.1 dX12_skein_16 w_11 (by decide) ?_
      refine lv_iconst (v := (-1)) X.1 X.2.1 dX12_skein_168 (by decide) ?_
      exact ret_i X hw hr hlocks (Nat.le_of_ble_eq_true rfl) (Nat.le_of_ble_eq_true rfl) ⟨hO_2, trivial⟩ dX12_skein_169
    have w_11b : (a2).toInt = 0 ∨ (a2).toInt = 1 ∨ (a2).toInt = 2 ∨ (a2).toInt = 3 ∨ (a2).toInt = 4 ∨ (a2).toInt = 5 ∨ (a2).toInt = 6 ∨ (a2).toInt = 7 ∨ (a2).toInt = 8 ∨ (a2).toInt = 9 ∨ (a2).toInt = 10 ∨ (a2).toInt = 11 := by omega
    rcases w_11b with w_11c | w_11c | w_11c | w_11c | w_11c | w_11c | w_11c | w_11c | w_11c | w_11c | w_11c | w_11c
    · refine lv_tableIn (tgt := 80) X.1 X.2.1 dX12_skein_16 (by omega) (by omega) (by rw [w_11c]; rfl) (by decide) ?_
      refine lv_aload_n X.1 X.2.1 dX12_skein_80 rfl (lv_at hl 0 rfl) ?_
      obtain ⟨q_12, h_13, h_14, h_15⟩ := gQ_12_1240 hO_2.1 t_4
      refine r_getR (g := 1240) X hw t_4 rfl 40 h_13 (by decide) rfl inn_X12_skein_12 (by decide) (X.2.2.2.1 (.fieldLink RX12 103 "SilkMillModel" "skeinPot" "[I") (by decide +kernel)) rfl (gv_1240 _ _) dX12_skein_81 ?_
      refine lv_iload_n X.1 X.2.1 dX12_skein_84 rfl (lv_at hl 1 rfl) ?_
      refine r_iald X hw h_14 rfl (by rw [h_15]; exact z_ix hz_a1 (by omega) (by omega)) dX12_skein_85 ?_
      refine lv_topi (fun v_16 ev_16 => ?_)
      have rg_17 := And.intro (z_lo v_16) (z_hi v_16)
      have ev_16 := ev_16.symm
      exact ret_i X hw hr hlocks (Nat.le_of_ble_eq_true rfl) (Nat.le_of_ble_eq_true rfl) ⟨hO_2, trivial⟩ dX12_skein_86
    · refine lv_tableIn (tgt := 87) X.1 X.2.1 dX12_skein_16 (by omega) (by omega) (by rw [w_11c]; rfl) (by decide) ?_
      refine lv_aload_n X.1 X.2.1 dX12_skein_87 rfl (lv_at hl 0 rfl) ?_
      obtain ⟨q_18, h_19, h_20, h_21⟩ := gQ_12_1241 hO_2.1 t_4
      refine r_getR (g := 1241) X hw t_4 rfl 41 h_19 (by decide) rfl inn_X12_skein_12 (by decide) (X.2.2.2.1 (.fieldLink RX12 106 "SilkMillModel" "skeinDay" "[I") (by decide +kernel)) rfl (gv_1241 _ _) dX12_skein_88 ?_
      refine lv_iload_n X.1 X.2.1 dX12_skein_91 rfl (lv_at hl 1 rfl) ?_
      refine r_iald X hw h_20 rfl (by rw [h_21]; exact z_ix hz_a1 (by omega) (by omega)) dX12_skein_92 ?_
      refine lv_topi (fun v_22 ev_22 => ?_)
      have rg_23 := And.intro (z_lo v_22) (z_hi v_22)
      have ev_22 := ev_22.symm
      exact ret_i X hw hr hlocks (Nat.le_of_ble_eq_true rfl) (Nat.le_of_ble_eq_true rfl) ⟨hO_2, trivial⟩ dX12_skein_93
    · refine lv_tableIn (tgt := 94) X.1 X.2.1 dX12_skein_16 (by omega) (by omega) (by rw [w_11c]; rfl) (by decide) ?_
      refine lv_aload_n X.1 X.2.1 dX12_skein_94 rfl (lv_at hl 0 rfl) ?_
      refine lv_iload_n X.1 X.2.1 dX12_skein_95 rfl (lv_at hl 1 rfl) ?_
      refine k_i (rm := { frames := 1, cells := 0, slots := 0, locals := 48 }) (av := [.ref x, .int (a1)]) X hw (va_runV (As := [.int (a1)]) (rest := []) (cfix X) (k_X12_metres l G cy κ S_1 _ x (a1) (a1_z) hO_2.1 t_4 hz_a1 (by first | assumption | omega) (by first | assumption | omega) (by first | assumption | omega) (MIe_free hG ha_x hO_2.fr (by decide +kernel) hp_0)) (cwV 1 X.2.2.2.1 gX12_skein_X12_metres rfl rfl rfl (by decide +kernel) ⟨Nat.le_of_ble_eq_true rfl, Nat.le_of_ble_eq_true rfl⟩) (pre_V X hw _ t_4 rfl (by decide) rfl) rfl rfl hl.1 rfl (lv_room (Nat.le_of_ble_eq_true rfl)) dX12_skein_96 ⟨Nat.le_of_ble_eq_true rfl, Nat.le_of_ble_eq_true rfl⟩) 0 0 (Nat.le_of_ble_eq_true rfl) (Nat.le_of_ble_eq_true rfl) (fun rr_24 S_25 H locs hp hw hfr hnw => ?_)
      obtain ⟨e2, hp⟩ := hp
      subst e2
      obtain ⟨f_26, f_27, f_28⟩ := hp
      exact ret_i X hw hr hlocks (Nat.le_of_ble_eq_true rfl) (Nat.le_of_ble_eq_true rfl) ⟨hO_2, trivial⟩ dX12_skein_99
    · refine lv_tableIn (tgt := 100) X.1 X.2.1 dX12_skein_16 (by omega) (by omega) (by rw [w_11c]; rfl) (by decide) ?_
      refine lv_aload_n X.1 X.2.1 dX12_skein_100 rfl (lv_at hl 0 rfl) ?_
      refine lv_iload_n X.1 X.2.1 dX12_skein_101 rfl (lv_at hl 1 rfl) ?_
      refine k_i (rm := { frames := 6, cells := 0, slots := 0, locals := 288 }) (av := [.ref x, .int (a1)]) X hw (va_runV (As := [.int (a1)]) (rest := []) (cfix X) (k_X12_weightOf l G cy κ S_1 _ x (a1) (a1_z) hO_2.1 t_4 hz_a1 (by first | assumption | omega) (by first | assumption | omega) (by first | assumption | omega) (MIe_free hG ha_x hO_2.fr (by decide +kernel) hp_0)) (cwV 1 X.2.2.2.1 gX12_skein_X12_weightOf rfl rfl rfl (by decide +kernel) ⟨Nat.le_of_ble_eq_true rfl, Nat.le_of_ble_eq_true rfl⟩) (pre_V X hw _ t_4 rfl (by decide) rfl) rfl rfl hl.1 rfl (lv_room (Nat.le_of_ble_eq_true rfl)) dX12_skein_102 ⟨Nat.le_of_ble_eq_true rfl, Nat.le_of_ble_eq_true rfl⟩) 0 0 (Nat.le_of_ble_eq_true rfl) (Nat.le_of_ble_eq_true rfl) (fun rr_29 S_30 H locs hp hw hfr hnw => ?_)
      obtain ⟨e2, hp⟩ := hp
      subst e2
      have rg_31 := And.intro (z_lo rr_29) (z_hi rr_29)
      exact ret_i X hw hr hlocks (Nat.le_of_ble_eq_true rfl) (Nat.le_of_ble_eq_true rfl) ⟨hO_2, trivial⟩ dX12_skein_105
    · refine lv_tableIn (tgt := 106) X.1 X.2.1 dX12_skein_16 (by omega) (by omega) (by rw [w_11c]; rfl) (by decide) ?_
      refine lv_aload_n X.1 X.2.1 dX12_skein_106 rfl (lv_at hl 0 rfl) ?_
      refine lv_iload_n X.1 X.2.1 dX12_skein_107 rfl (lv_at hl 1 rfl) ?_
      refine lv_iload_n X.1 X.2.1 dX12_skein_108 rfl (lv_at hl 2 rfl) ?_
      refine lv_iconst (v := 5) X.1 X.2.1 dX12_skein_109 (by decide) ?_
      refine lv_icmp_ne (tgt := 117) X.1 X.2.1 dX12_skein_110 (by decide) (fun c_32 => ?_) (fun c_32 => ?_)
      · have z_b_33 := trivial
        have k_34 : a2_z ≠ 5 := z_ne hz_a2 ti_5 c_32
        refine lv_iconst (v := 0) X.1 X.2.1 dX12_skein_117 (by decide) ?_
        refine k_i (rm := { frames := 5, cells := 0, slots := 0, locals := 240 }) (av := [.ref x, .int (a1), .int 0]) X hw (va_runV (As := [.int (a1), .int 0]) (rest := []) (cfix X) (k_X12_least l G cy κ S_1 _ x (a1) (a1_z) (0) (0) hO_2.1 t_4 hz_a1 ti_0 (by first | assumption | omega) (by first | assumption | omega) (by first | assumption | omega) (MIe_free hG ha_x hO_2.fr (by decide +kernel) hp_0)) (cwV 2 X.2.2.2.1 gX12_skein_X12_least rfl rfl rfl (by decide +kernel) ⟨Nat.le_of_ble_eq_true rfl, Nat.le_of_ble_eq_true rfl⟩) (pre_V X hw _ t_4 rfl (by decide) rfl) rfl rfl hl.1 rfl (lv_room (Nat.le_of_ble_eq_true rfl)) dX12_skein_118 ⟨Nat.le_of_ble_eq_true rfl, Nat.le_of_ble_eq_true rfl⟩) 0 0 (Nat.le_of_ble_eq_true rfl) (Nat.le_of_ble_eq_true rfl) (fun rr_35 S_36 H locs hp hw hfr hnw => ?_)
        obtain ⟨e2, hp⟩ := hp
        subst e2
        have rg_37 := And.intro (z_lo rr_35) (z_hi rr_35)
        exact ret_i X hw hr hlocks (Nat.le_of_ble_eq_true rfl) (Nat.le_of_ble_eq_true rfl) ⟨hO_2, trivial⟩ dX12_skein_121
      · have z_b_38 := trivial
        have k_39 : a2_z = 5 := z_eq hz_a2 ti_5 c_32
        refine lv_iconst (v := 1) X.1 X.2.1 dX12_skein_113 (by decide) ?_
        refine lv_goto (tgt := 118) X.1 X.2.1 dX12_skein_114 (by decide) ?_
        refine k_i (rm := { frames := 5, cells := 0, slots := 0, locals := 240 }) (av := [.ref x, .int (a1), .int 1]) X hw (va_runV (As := [.int (a1), .int 1]) (rest := []) (cfix X) (k_X12_least l G cy κ S_1 _ x (a1) (a1_z) (1) (1) hO_2.1 t_4 hz_a1 ti_1 (by first | assumption | omega) (by first | assumption | omega) (by first | assumption | omega) (MIe_free hG ha_x hO_2.fr (by decide +kernel) hp_0)) (cwV 2 X.2.2.2.1 gX12_skein_X12_least rfl rfl rfl (by decide +kernel) ⟨Nat.le_of_ble_eq_true rfl, Nat.le_of_ble_eq_true rfl⟩) (pre_V X hw _ t_4 rfl (by decide) rfl) rfl rfl hl.1 rfl (lv_room (Nat.le_of_ble_eq_true rfl)) dX12_skein_118 ⟨Nat.le_of_ble_eq_true rfl, Nat.le_of_ble_eq_true rfl⟩) 0 0 (Nat.le_of_ble_eq_true rfl) (Nat.le_of_ble_eq_true rfl) (fun rr_40 S_41 H locs hp hw hfr hnw => ?_)
        obtain ⟨e2, hp⟩ := hp
        subst e2
        have rg_42 := And.intro (z_lo rr_40) (z_hi rr_40)
        exact ret_i X hw hr hlocks (Nat.le_of_ble_eq_true rfl) (Nat.le_of_ble_eq_true rfl) ⟨hO_2, trivial⟩ dX12_skein_121
    · refine lv_tableIn (tgt := 106) X.1 X.2.1 dX12_skein_16 (by omega) (by omega) (by rw [w_11c]; rfl) (by decide) ?_
      refine lv_aload_n X.1 X.2.1 dX12_skein_106 rfl (lv_at hl 0 rfl) ?_
      refine lv_iload_n X.1 X.2.1 dX12_skein_107 rfl (lv_at hl 1 rfl) ?_
      refine lv_iload_n X.1 X.2.1 dX12_skein_108 rfl (lv_at hl 2 rfl) ?_
      refine lv_iconst (v := 5) X.1 X.2.1 dX12_skein_109 (by decide) ?_
      refine lv_icmp_ne (tgt := 117) X.1 X.2.1 dX12_skein_110 (by decide) (fun c_43 => ?_) (fun c_43 => ?_)
      · have z_b_44 := trivial
        have k_45 : a2_z ≠ 5 := z_ne hz_a2 ti_5 c_43
        refine lv_iconst (v := 0) X.1 X.2.1 dX12_skein_117 (by decide) ?_
        refine k_i (rm := { frames := 5, cells := 0, slots := 0, locals := 240 }) (av := [.ref x, .int (a1), .int 0]) X hw (va_runV (As := [.int (a1), .int 0]) (rest := []) (cfix X) (k_X12_least l G cy κ S_1 _ x (a1) (a1_z) (0) (0) hO_2.1 t_4 hz_a1 ti_0 (by first | assumption | omega) (by first | assumption | omega) (by first | assumption | omega) (MIe_free hG ha_x hO_2.fr (by decide +kernel) hp_0)) (cwV 2 X.2.2.2.1 gX12_skein_X12_least rfl rfl rfl (by decide +kernel) ⟨Nat.le_of_ble_eq_true rfl, Nat.le_of_ble_eq_true rfl⟩) (pre_V X hw _ t_4 rfl (by decide) rfl) rfl rfl hl.1 rfl (lv_room (Nat.le_of_ble_eq_true rfl)) dX12_skein_118 ⟨Nat.le_of_ble_eq_true rfl, Nat.le_of_ble_eq_true rfl⟩) 0 0 (Nat.le_of_ble_eq_true rfl) (Nat.le_of_ble_eq_true rfl) (fun rr_46 S_47 H locs hp hw hfr hnw => ?_)
        obtain ⟨e2, hp⟩ := hp
        subst e2
        have rg_48 := And.intro (z_lo rr_46) (z_hi rr_46)
        exact ret_i X hw hr hlocks (Nat.le_of_ble_eq_true rfl) (Nat.le_of_ble_eq_true rfl) ⟨hO_2, trivial⟩ dX12_skein_121
      · have z_b_49 := trivial
        have k_50 : a2_z = 5 := z_eq hz_a2 ti_5 c_43
        refine lv_iconst (v := 1) X.1 X.2.1 dX12_skein_113 (by decide) ?_
        refine lv_goto (tgt := 118) X.1 X.2.1 dX12_skein_114 (by decide) ?_
        refine k_i (rm := { frames := 5, cells := 0, slots := 0, locals := 240 }) (av := [.ref x, .int (a1), .int 1]) X hw (va_runV (As := [.int (a1), .int 1]) (rest := []) (cfix X) (k_X12_least l G cy κ S_1 _ x (a1) (a1_z) (1) (1) hO_2.1 t_4 hz_a1 ti_1 (by first | assumption | omega) (by first | assumption | omega) (by first | assumption | omega) (MIe_free hG ha_x hO_2.fr (by decide +kernel) hp_0)) (cwV 2 X.2.2.2.1 gX12_skein_X12_least rfl rfl rfl (by decide +kernel) ⟨Nat.le_of_ble_eq_true rfl, Nat.le_of_ble_eq_true rfl⟩) (pre_V X hw _ t_4 rfl (by decide) rfl) rfl rfl hl.1 rfl (lv_room (Nat.le_of_ble_eq_true rfl)) dX12_skein_118 ⟨Nat.le_of_ble_eq_true rfl, Nat.le_of_ble_eq_true rfl⟩) 0 0 (Nat.le_of_ble_eq_true rfl) (Nat.le_of_ble_eq_true rfl) (fun rr_51 S_52 H locs hp hw hfr hnw => ?_)
        obtain ⟨e2, hp⟩ := hp
        subst e2
        have rg_53 := And.intro (z_lo rr_51) (z_hi rr_51)
        exact ret_i X hw hr hlocks (Nat.le_of_ble_eq_true rfl) (Nat.le_of_ble_eq_true rfl) ⟨hO_2, trivial⟩ dX12_skein_121
    · refine lv_tableIn (tgt := 122) X.1 X.2.1 dX12_skein_16 (by omega) (by omega) (by rw [w_11c]; rfl) (by decide) ?_
      refine lv_aload_n X.1 X.2.1 dX12_skein_122 rfl (lv_at hl 0 rfl) ?_
      refine lv_iload_n X.1 X.2.1 dX12_skein_123 rfl (lv_at hl 1 rfl) ?_
      refine k_i (rm := { frames := 5, cells := 0, slots := 0, locals := 240 }) (av := [.ref x, .int (a1)]) X hw (va_runV (As := [.int (a1)]) (rest := []) (cfix X) (k_X12_slips l G cy κ S_1 _ x (a1) (a1_z) hO_2.1 t_4 hz_a1 (by first | assumption | omega) (by first | assumption | omega) (by first | assumption | omega) (MIe_free hG ha_x hO_2.fr (by decide +kernel) hp_0)) (cwV 1 X.2.2.2.1 gX12_skein_X12_slips rfl rfl rfl (by decide +kernel) ⟨Nat.le_of_ble_eq_true rfl, Nat.le_of_ble_eq_true rfl⟩) (pre_V X hw _ t_4 rfl (by decide) rfl) rfl rfl hl.1 rfl (lv_room (Nat.le_of_ble_eq_true rfl)) dX12_skein_124 ⟨Nat.le_of_ble_eq_true rfl, Nat.le_of_ble_eq_true rfl⟩) 0 0 (Nat.le_of_ble_eq_true rfl) (Nat.le_of_ble_eq_true rfl) (fun rr_54 S_55 H locs hp hw hfr hnw => ?_)
      obtain ⟨e2, hp⟩ := hp
      subst e2
      have rg_56 := And.intro (z_lo rr_54) (z_hi rr_54)
      exact ret_i X hw hr hlocks (Nat.le_of_ble_eq_true rfl) (Nat.le_of_ble_eq_true rfl) ⟨hO_2, trivial⟩ dX12_skein_127
    · refine lv_tableIn (tgt := 128) X.1 X.2.1 dX12_skein_16 (by omega) (by omega) (by rw [w_11c]; rfl) (by decide) ?_
      refine lv_aload_n X.1 X.2.1 dX12_skein_128 rfl (lv_at hl 0 rfl) ?_
      refine lv_iload_n X.1 X.2.1 dX12_skein_129 rfl (lv_at hl 1 rfl) ?_
      refine k_i (rm := { frames := 3, cells := 0, slots := 0, locals := 144 }) (av := [.ref x, .int (a1)]) X hw (va_runV (As := [.int (a1)]) (rest := []) (cfix X) (k_X12_pieces l G cy κ S_1 _ x (a1) (a1_z) hO_2.1 t_4 hz_a1 (by first | assumption | omega) (by first | assumption | omega) (by first | assumption | omega) (MIe_free hG ha_x hO_2.fr (by decide +kernel) hp_0)) (cwV 1 X.2.2.2.1 gX12_skein_X12_pieces rfl rfl rfl (by decide +kernel) ⟨Nat.le_of_ble_eq_true rfl, Nat.le_of_ble_eq_true rfl⟩) (pre_V X hw _ t_4 rfl (by decide) rfl) rfl rfl hl.1 rfl (lv_room (Nat.le_of_ble_eq_true rfl)) dX12_skein_130 ⟨Nat.le_of_ble_eq_true rfl, Nat.le_of_ble_eq_true rfl⟩) 0 0 (Nat.le_of_ble_eq_true rfl) (Nat.le_of_ble_eq_true rfl) (fun rr_57 S_58 H locs hp hw hfr hnw => ?_)
      obtain ⟨e2, hp⟩ := hp
      subst e2
      have rg_59 := And.intro (z_lo rr_57) (z_hi rr_57)
      exact ret_i X hw hr hlocks (Nat.le_of_ble_eq_true rfl) (Nat.le_of_ble_eq_true rfl) ⟨hO_2, trivial⟩ dX12_skein_133
    · refine lv_tableIn (tgt := 134) X.1 X.2.1 dX12_skein_16 (by omega) (by omega) (by rw [w_11c]; rfl) (by decide) ?_
      refine lv_aload_n X.1 X.2.1 dX12_skein_134 rfl (lv_at hl 0 rfl) ?_
      refine lv_iload_n X.1 X.2.1 dX12_skein_135 rfl (lv_at hl 1 rfl) ?_
      refine k_i (rm := { frames := 1, cells := 0, slots := 0, locals := 48 }) (av := [.ref x, .int (a1)]) X hw (va_runV (As := [.int (a1)]) (rest := []) (cfix X) (k_X12_gradeOf l G cy κ S_1 _ x (a1) (a1_z) hO_2.1 t_4 hz_a1 (by first | assumption | omega) (by first | assumption | omega)) (cwV 1 X.2.2.2.1 gX12_skein_X12_gradeOf rfl rfl rfl (by decide +kernel) ⟨Nat.le_of_ble_eq_true rfl, Nat.le_of_ble_eq_true rfl⟩) (pre_V X hw _ t_4 rfl (by decide) rfl) rfl rfl hl.1 rfl (lv_room (Nat.le_of_ble_eq_true rfl)) dX12_skein_136 ⟨Nat.le_of_ble_eq_true rfl, Nat.le_of_ble_eq_true rfl⟩) 0 0 (Nat.le_of_ble_eq_true rfl) (Nat.le_of_ble_eq_true rfl) (fun rr_60 S_61 H locs hp hw hfr hnw => ?_)
      obtain ⟨e2, hp⟩ := hp
      subst e2
      obtain ⟨f_62, f_63⟩ := hp
      exact ret_i X hw hr hlocks (Nat.le_of_ble_eq_true rfl) (Nat.le_of_ble_eq_true rfl) ⟨hO_2, trivial⟩ dX12_skein_139
    · refine lv_tableIn (tgt := 140) X.1 X.2.1 dX12_skein_16 (by omega) (by omega) (by rw [w_11c]; rfl) (by decide) ?_
      refine lv_aload_n X.1 X.2.1 dX12_skein_140 rfl (lv_at hl 0 rfl) ?_
      obtain ⟨q_64, h_65, h_66, h_67⟩ := gQ_12_1244 hO_2.1 t_4
      refine r_getR (g := 1244) X hw t_4 rfl 44 h_65 (by decide) rfl inn_X12_skein_12 (by decide) (X.2.2.2.1 (.fieldLink RX12 115 "SilkMillModel" "isSold" "[Z") (by decide +kernel)) rfl (gv_1244 _ _) dX12_skein_141 ?_
      refine lv_iload_n X.1 X.2.1 dX12_skein_144 rfl (lv_at hl 1 rfl) ?_
      refine r_zald X hw h_66 rfl (by rw [h_67]; exact z_ix hz_a1 (by omega) (by omega)) dX12_skein_145 ?_
      refine lv_topi (fun v_68 ev_68 => ?_)
      have rg_69 := And.intro (z_lo v_68) (z_hi v_68)
      have ev_68 := ev_68.symm
      refine lv_if_eq (tgt := 153) X.1 X.2.1 dX12_skein_146 (by decide) (fun c_70 => ?_) (fun c_70 => ?_)
      · have z_b_71 := trivial
        have k_72 : v_68.toInt = 0 := z_eq rfl ti_0 c_70
        refine lv_iconst (v := 0) X.1 X.2.1 dX12_skein_153 (by decide) ?_
        exact ret_i X hw hr hlocks (Nat.le_of_ble_eq_true rfl) (Nat.le_of_ble_eq_true rfl) ⟨hO_2, trivial⟩ dX12_skein_154
      · have z_b_73 := trivial
        have k_74 : v_68.toInt ≠ 0 := z_ne rfl ti_0 c_70
        refine lv_iconst (v := 1) X.1 X.2.1 dX12_skein_149 (by decide) ?_
        refine lv_goto (tgt := 154) X.1 X.2.1 dX12_skein_150 (by decide) ?_
        exact ret_i X hw hr hlocks (Nat.le_of_ble_eq_true rfl) (Nat.le_of_ble_eq_true rfl) ⟨hO_2, trivial⟩ dX12_skein_154
    · refine lv_tableIn (tgt := 155) X.1 X.2.1 dX12_skein_16 (by omega) (by omega) (by rw [w_11c]; rfl) (by decide) ?_
      refine lv_aload_n X.1 X.2.1 dX12_skein_155 rfl (lv_at hl 0 rfl) ?_
      refine lv_iload_n X.1 X.2.1 dX12_skein_156 rfl (lv_at hl 1 rfl) ?_
      refine k_i (rm := { frames := 7, cells := 0, slots := 0, locals := 336 }) (av := [.ref x, .int (a1)]) X hw (va_runV (As := [.int (a1)]) (rest := []) (cfix X) (k_X12_priceOf l G cy κ S_1 _ x (a1) (a1_z) hO_2.1 t_4 hz_a1 (by first | assumption | omega) (by first | assumption | omega) (by first | assumption | omega) (MIe_free hG ha_x hO_2.fr (by decide +kernel) hp_0)) (cwV 1 X.2.2.2.1 gX12_skein_X12_priceOf rfl rfl rfl (by decide +kernel) ⟨Nat.le_of_ble_eq_true rfl, Nat.le_of_ble_eq_true rfl⟩) (pre_V X hw _ t_4 rfl (by decide) rfl) rfl rfl hl.1 rfl (lv_room (Nat.le_of_ble_eq_true rfl)) dX12_skein_157 ⟨Nat.le_of_ble_eq_true rfl, Nat.le_of_ble_eq_true rfl⟩) 0 0 (Nat.le_of_ble_eq_true rfl) (Nat.le_of_ble_eq_true rfl) (fun rr_75 S_76 H locs hp hw hfr hnw => ?_)
      obtain ⟨e2, hp⟩ := hp
      subst e2
      have rg_77 := And.intro (z_lo rr_75) (z_hi rr_75)
      exact ret_i X hw hr hlocks (Nat.le_of_ble_eq_true rfl) (Nat.le_of_ble_eq_true rfl) ⟨hO_2, trivial⟩ dX12_skein_160
    · refine lv_tableIn (tgt := 161) X.1 X.2.1 dX12_skein_16 (by omega) (by omega) (by rw [w_11c]; rfl) (by decide) ?_
      refine lv_aload_n X.1 X.2.1 dX12_skein_161 rfl (lv_at hl 0 rfl) ?_
      obtain ⟨q_78, h_79, h_80, h_81⟩ := gQ_12_1242 hO_2.1 t_4
      refine r_getR (g := 1242) X hw t_4 rfl 42 h_79 (by decide) rfl inn_X12_skein_12 (by decide) (X.2.2.2.1 (.fieldLink RX12 109 "SilkMillModel" "skeinAim" "[I") (by decide +kernel)) rfl (gv_1242 _ _) dX12_skein_162 ?_
      refine lv_iload_n X.1 X.2.1 dX12_skein_165 rfl (lv_at hl 1 rfl) ?_
      refine r_iald X hw h_80 rfl (by rw [h_81]; exact z_ix hz_a1 (by omega) (by omega)) dX12_skein_166 ?_
      refine lv_topi (fun v_82 ev_82 => ?_)
      have rg_83 := And.intro (z_lo v_82) (z_hi v_82)
      have ev_82 := ev_82.symm
      exact ret_i X hw hr hlocks (Nat.le_of_ble_eq_true rfl) (Nat.le_of_ble_eq_true rfl) ⟨hO_2, trivial⟩ dX12_skein_167
  · have z_b_84 := trivial
    refine lv_if_ne (tgt := 15) X.1 X.2.1 dX12_skein_10 (by decide) (fun c_85 => absurd c_85 (by decide)) (fun c_85 => ?_)
    refine lv_iconst (v := (-1)) X.1 X.2.1 dX12_skein_13 (by decide) ?_
    exact ret_i X hw hr hlocks (Nat.le_of_ble_eq_true rfl) (Nat.le_of_ble_eq_true rfl) ⟨hO_2, trivial⟩ dX12_skein_14
