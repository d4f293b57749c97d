set_option maxRecDepth 20000 in
theorem ggX12_begins_X12_endOf : GoodIn wsX12_begins wsX12_endOf := goodIn_h _ [2, 4, 0, 0, 0, 0, 0, 0, 0, 0, 0, 0, 0, 0, 0, 0, 0, 0, 0, 0, 0, 0, 0, 0, 0, 0, 0, 0, 0, 0, 0, 0, 0, 0, 0, 0, 0, 0, 0, 0, 0, 0, 0, 0, 0, 0, 0, 0, 0, 0, 0, 0, 0, 0, 0, 0, 0, 0, 0, 0, 0, 0, 0, 0, 0, 0, 0, 0, 0] [1, 2, 0, 3, 4, 5, 6, 7, 8, 9, 10, 11, 12, 13, 14, 15, 16, 17, 18, 19, 20, 21, 22, 23, 24, 25, 26, 27, 28, 29, 30, 31, 32, 33, 34, 35, 36, 37, 38, 39, 40, 41, 42, 43, 44, 45, 46, 47, 48, 49, 50, 51, 52, 53, 54, 55, 56, 57, 58, 59, 60, 61, 62, 63, 64, 65, 66, 67, 68] (by decide +kernel) (by decide +kernel)
set_option maxRecDepth 20000 in
theorem gX12_begins_X12_endOf : GoodIn wsX12_begins (wsV RX12 336 RX12 yX12_endOf wsX12_endOf) := goodIn_app (goodIn_of _ (by decide +kernel)) ggX12_begins_X12_endOf
theorem dX12_begins_0 : decode cX12_begins 0 = .ok (.aload_n 0, 1) := by decide +kernel
theorem dX12_begins_1 : decode cX12_begins 1 = .ok (.getfield 100, 3) := by decide +kernel
theorem dX12_begins_4 : decode cX12_begins 4 = .ok (.iload_n 1, 1) := by decide +kernel
theorem dX12_begins_5 : decode cX12_begins 5 = .ok (.iaload, 1) := by decide +kernel
theorem dX12_begins_6 : decode cX12_begins 6 = .ok (.iload_n 2, 1) := by decide +kernel
theorem dX12_begins_7 : decode cX12_begins 7 = .ok (.iadd, 1) := by decide +kernel
theorem dX12_begins_8 : decode cX12_begins 8 = .ok (.istore 4, 2) := by decide +kernel
theorem dX12_begins_10 : decode cX12_begins 10 = .ok (.iload_n 2, 1) := by decide +kernel
theorem dX12_begins_11 : decode cX12_begins 11 = .ok (.ifCond .eq 31, 3) := by decide +kernel
theorem dX12_begins_14 : decode cX12_begins 14 = .ok (.aload_n 0, 1) := by decide +kernel
theorem dX12_begins_15 : decode cX12_begins 15 = .ok (.iload 4, 2) := by decide +kernel
theorem dX12_begins_17 : decode cX12_begins 17 = .ok (.iconst 1, 1) := by decide +kernel
theorem dX12_begins_18 : decode cX12_begins 18 = .ok (.isub, 1) := by decide +kernel
theorem dX12_begins_19 : decode cX12_begins 19 = .ok (.aload_n 0, 1) := by decide +kernel
theorem dX12_begins_20 : decode cX12_begins 20 = .ok (.getfield 94, 3) := by decide +kernel
theorem dX12_begins_23 : decode cX12_begins 23 = .ok (.bipush 12, 2) := by decide +kernel
theorem dX12_begins_25 : decode cX12_begins 25 = .ok (.iload 4, 2) := by decide +kernel
theorem dX12_begins_27 : decode cX12_begins 27 = .ok (.imul, 1) := by decide +kernel
theorem dX12_begins_28 : decode cX12_begins 28 = .ok (.iload_n 3, 1) := by decide +kernel
theorem dX12_begins_29 : decode cX12_begins 29 = .ok (.iadd, 1) := by decide +kernel
theorem dX12_begins_30 : decode cX12_begins 30 = .ok (.iaload, 1) := by decide +kernel
theorem dX12_begins_31 : decode cX12_begins 31 = .ok (.sipush 1000, 3) := by decide +kernel
theorem dX12_begins_34 : decode cX12_begins 34 = .ok (.idiv, 1) := by decide +kernel
theorem dX12_begins_35 : decode cX12_begins 35 = .ok (.invokevirtual 336, 3) := by decide +kernel
theorem dX12_begins_38 : decode cX12_begins 38 = .ok (.iconst (-1), 1) := by decide +kernel
theorem dX12_begins_39 : decode cX12_begins 39 = .ok (.if_icmp .ne 7, 3) := by decide +kernel
theorem dX12_begins_42 : decode cX12_begins 42 = .ok (.iconst 1, 1) := by decide +kernel
theorem dX12_begins_43 : decode cX12_begins 43 = .ok (.goto 4, 3) := by decide +kernel
theorem dX12_begins_46 : decode cX12_begins 46 = .ok (.iconst 0, 1) := by decide +kernel
theorem dX12_begins_47 : decode cX12_begins 47 = .ok (.ireturn, 1) := by decide +kernel
set_option maxRecDepth 20000 in
theorem ggX12_pieces_X12_metres : GoodIn wsX12_pieces wsX12_metres := goodIn_h _ [2, 4, 9, 0, 0, 0, 0, 0, 0, 0, 0, 0, 0, 0, 0, 0, 0, 0, 0, 0, 0, 0, 0, 0, 0, 0, 0, 0, 0, 0, 0, 0, 0, 0, 0, 0, 0, 0, 0, 0, 0, 0, 0, 0, 0, 0, 0, 0, 0, 0, 0, 0, 0, 0, 0, 0, 0, 0, 0, 0, 0, 0, 0, 0, 0, 0, 0, 0] [1, 0, 2, 3, 4, 5, 6, 7, 8, 9, 10, 11, 12, 13, 14, 15, 16, 17, 18, 19, 20, 21, 22, 23, 24, 25, 26, 27, 28, 29, 30, 31, 32, 33, 34, 35, 36, 37, 38, 39, 40, 41, 42, 43, 44, 45, 46, 47, 48, 49, 50, 51, 52, 53, 54, 55, 56, 57, 58, 59, 60, 61, 62, 63, 64, 65, 66, 67] (by decide +kernel) (by decide +kernel)
set_option maxRecDepth 20000 in
theorem gX12_pieces_X12_metres : GoodIn wsX12_pieces (wsV RX12 350 RX12 yX12_metres wsX12_metres) := goodIn_app (goodIn_of _ (by decide +kernel)) ggX12_pieces_X12_metres
set_option maxRecDepth 20000 in
theorem ggX12_pieces_X12_begins : GoodIn wsX12_pieces wsX12_begins := goodIn_h _ [1, 0, 3, 4, 0, 0, 0, 0, 0, 0, 0, 0, 0, 0, 0, 0, 0, 0, 0, 0, 0, 0, 0, 0, 0, 0, 0, 0, 0, 0, 0, 0, 0, 0, 0, 0, 0, 0, 0, 0, 0, 0, 0, 0, 0, 0, 0, 0, 0, 0, 0, 0, 0, 0, 0, 0, 0, 0, 0, 0, 0, 0, 0, 0, 0, 0, 0, 0, 0, 0, 0, 0, 0, 0, 0] [3, 1, 4, 5, 6, 7, 2, 8, 0, 9, 10, 11, 12, 13, 14, 15, 16, 17, 18, 19, 20, 21, 22, 23, 24, 25, 26, 27, 28, 29, 30, 31, 32, 33, 34, 35, 36, 37, 38, 39, 40, 41, 42, 43, 44, 45, 46, 47, 48, 49, 50, 51, 52, 53, 54, 55, 56, 57, 58, 59, 60, 61, 62, 63, 64, 65, 66, 67, 68, 69, 70, 71, 72, 73, 74] (by decide +kernel) (by decide +kernel)
set_option maxRecDepth 20000 in
theorem gX12_pieces_X12_begins : GoodIn wsX12_pieces (wsV RX12 353 RX12 yX12_begins wsX12_begins) := goodIn_app (goodIn_of _ (by decide +kernel)) ggX12_pieces_X12_begins
theorem dX12_pieces_0 : decode cX12_pieces 0 = .ok (.iconst 0, 1) := by decide +kernel
theorem dX12_pieces_1 : decode cX12_pieces 1 = .ok (.istore_n 2, 1) := by decide +kernel
theorem dX12_pieces_2 : decode cX12_pieces 2 = .ok (.iconst 0, 1) := by decide +kernel
theorem dX12_pieces_3 : decode cX12_pieces 3 = .ok (.istore_n 3, 1) := by decide +kernel
theorem dX12_pieces_4 : decode cX12_pieces 4 = .ok (.iload_n 3, 1) := by decide +kernel
theorem dX12_pieces_5 : decode cX12_pieces 5 = .ok (.aload_n 0, 1) := by decide +kernel
theorem dX12_pieces_6 : decode cX12_pieces 6 = .ok (.iload_n 1, 1) := by decide +kernel
theorem dX12_pieces_7 : decode cX12_pieces 7 = .ok (.invokevirtual 350, 3) := by decide +kernel
theorem dX12_pieces_10 : decode cX12_pieces 10 = .ok (.if_icmp .ge 55, 3) := by decide +kernel
theorem dX12_pieces_13 : decode cX12_pieces 13 = .ok (.iconst 0, 1) := by decide +kernel
theorem dX12_pieces_14 : decode cX12_pieces 14 = .ok (.istore 4, 2) := by decide +kernel
theorem dX12_pieces_16 : decode cX12_pieces 16 = .ok (.iload 4, 2) := by decide +kernel
theorem dX12_pieces_18 : decode cX12_pieces 18 = .ok (.aload_n 0, 1) := by decide +kernel
theorem dX12_pieces_19 : decode cX12_pieces 19 = .ok (.getfield 90, 3) := by decide +kernel
theorem dX12_pieces_22 : decode cX12_pieces 22 = .ok (.aload_n 0, 1) := by decide +kernel
theorem dX12_pieces_23 : decode cX12_pieces 23 = .ok (.getfield 100, 3) := by decide +kernel
theorem dX12_pieces_26 : decode cX12_pieces 26 = .ok (.iload_n 1, 1) := by decide +kernel
theorem dX12_pieces_27 : decode cX12_pieces 27 = .ok (.iaload, 1) := by decide +kernel
theorem dX12_pieces_28 : decode cX12_pieces 28 = .ok (.iload_n 3, 1) := by decide +kernel
theorem dX12_pieces_29 : decode cX12_pieces 29 = .ok (.iadd, 1) := by decide +kernel
theorem dX12_pieces_30 : decode cX12_pieces 30 = .ok (.iaload, 1) := by decide +kernel
theorem dX12_pieces_31 : decode cX12_pieces 31 = .ok (.if_icmp .ge 28, 3) := by decide +kernel
theorem dX12_pieces_34 : decode cX12_pieces 34 = .ok (.iload_n 2, 1) := by decide +kernel
theorem dX12_pieces_35 : decode cX12_pieces 35 = .ok (.aload_n 0, 1) := by decide +kernel
theorem dX12_pieces_36 : decode cX12_pieces 36 = .ok (.iload_n 1, 1) := by decide +kernel
theorem dX12_pieces_37 : decode cX12_pieces 37 = .ok (.iload_n 3, 1) := by decide +kernel
theorem dX12_pieces_38 : decode cX12_pieces 38 = .ok (.iload 4, 2) := by decide +kernel
theorem dX12_pieces_40 : decode cX12_pieces 40 = .ok (.invokevirtual 353, 3) := by decide +kernel
theorem dX12_pieces_43 : decode cX12_pieces 43 = .ok (.ifCond .eq 7, 3) := by decide +kernel
theorem dX12_pieces_46 : decode cX12_pieces 46 = .ok (.iconst 1, 1) := by decide +kernel
theorem dX12_pieces_47 : decode cX12_pieces 47 = .ok (.goto 4, 3) := by decide +kernel
theorem dX12_pieces_50 : decode cX12_pieces 50 = .ok (.iconst 0, 1) := by decide +kernel
theorem dX12_pieces_51 : decode cX12_pieces 51 = .ok (.iadd, 1) := by decide +kernel
theorem dX12_pieces_52 : decode cX12_pieces 52 = .ok (.istore_n 2, 1) := by decide +kernel
theorem dX12_pieces_53 : decode cX12_pieces 53 = .ok (.iinc 4 1, 3) := by decide +kernel
theorem dX12_pieces_56 : decode cX12_pieces 56 = .ok (.goto (-40), 3) := by decide +kernel
theorem dX12_pieces_59 : decode cX12_pieces 59 = .ok (.iinc 3 1, 3) := by decide +kernel
theorem dX12_pieces_62 : decode cX12_pieces 62 = .ok (.goto (-58), 3) := by decide +kernel
theorem dX12_pieces_65 : decode cX12_pieces 65 = .ok (.iload_n 2, 1) := by decide +kernel
theorem dX12_pieces_66 : decode cX12_pieces 66 = .ok (.ireturn, 1) := by decide +kernel
set_option maxRecDepth 20000 in
theorem ggX12_skein_X12_isSkein : GoodIn wsX12_skein wsX12_isSkein := goodIn_h _ [9, 0, 0, 0, 0, 0, 78, 0, 0, 0, 0, 0, 0, 0, 0, 0, 0, 0, 0, 0, 0, 0, 0, 0, 0, 0, 0, 0, 0, 0, 0, 0, 0, 0, 0, 0, 0, 0, 0, 0, 0, 0, 0, 0, 0, 0, 0, 0, 0, 0, 0, 0, 0, 0, 0, 0, 0, 0, 0, 0, 0, 0, 0, 0, 0, 0, 0, 0, 0, 0, 0, 0] [1, 2, 3, 4, 0, 5, 6, 7, 8, 9, 10, 11, 12, 13, 14, 15, 16, 17, 18, 19, 20, 21, 22, 23, 24, 25, 26, 27, 28, 29, 30, 31, 32, 33, 34, 35, 36, 37, 38, 39, 40, 41, 42, 43, 44, 45, 46, 47, 48, 49, 50, 51, 52, 53, 54, 55, 56, 57, 58, 59, 60, 61, 62, 63, 64, 65, 66, 67, 68, 69, 70, 71] (by decide +kernel) (by decide +kernel)
set_option maxRecDepth 20000 in
theorem gX12_skein_X12_isSkein : GoodIn wsX12_skein (wsV RX12 362 RX12 yX12_isSkein wsX12_isSkein) := goodIn_app (goodIn_of _ (by decide +kernel)) ggX12_skein_X12_isSkein
set_option maxRecDepth 20000 in
theorem ggX12_skein_X12_metres : GoodIn wsX12_skein wsX12_metres := goodIn_h _ [18, 0, 73, 0, 0, 0, 0, 0, 0, 0, 0, 0, 0, 0, 0, 0, 0, 0, 0, 0, 0, 0, 0, 0, 0, 0, 0, 0, 0, 0, 0, 0, 0, 0, 0, 0, 0, 0, 0, 0, 0, 0, 0, 0, 0, 0, 0, 0, 0, 0, 0, 0, 0, 0, 0, 0, 0, 0, 0, 0, 0, 0, 0, 0, 0, 0, 0, 0] [0, 1, 2, 3, 4, 5, 6, 7, 8, 9, 10, 11, 12, 13, 14, 15, 16, 17, 18, 19, 20, 21, 22, 23, 24, 25, 26, 27, 28, 29, 30, 31, 32, 33, 34, 35, 36, 37, 38, 39, 40, 41, 42, 43, 44, 45, 46, 47, 48, 49, 50, 51, 52, 53, 54, 55, 56, 57, 58, 59, 60, 61, 62, 63, 64, 65, 66, 67] (by decide +kernel) (by decide +kernel)
set_option maxRecDepth 20000 in
theorem gX12_skein_X12_metres : GoodIn wsX12_skein (wsV RX12 350 RX12 yX12_metres wsX12_metres) := goodIn_app (goodIn_of _ (by decide +kernel)) ggX12_skein_X12_metres
set_option maxRecDepth 20000 in
theorem ggX12_skein_X12_weightOf : GoodIn wsX12_skein wsX12_weightOf := goodIn_h _ [9, 5, 0, 0, 0, 0, 3, 0, 0, 0, 0, 0, 0, 0, 0, 0, 0, 0, 0, 0, 0, 0, 0, 0, 0, 0, 0, 0, 0, 0, 0, 0, 0, 0, 0, 0, 40, 0, 0, 0, 0, 0, 0, 0, 0, 0, 0, 0, 0, 0, 0, 0, 0, 0, 0, 0, 0, 0, 0, 0, 0, 0, 0, 0, 0, 0, 0, 0, 0, 0, 0, 0, 0, 0, 0, 0, 0, 0, 0, 0, 0, 0, 0, 0, 0, 0, 0, 0, 0, 0, 0, 0, 0, 0, 0, 0, 0, 0, 0, 0, 0, 0] [6, 5, 1, 2, 3, 0, 4, 7, 8, 9, 10, 11, 12, 13, 14, 15, 16, 17, 18, 19, 20, 21, 22, 23, 24, 25, 26, 27, 28, 29, 30, 31, 32, 33, 34, 35, 36, 37, 38, 39, 40, 41, 42, 43, 44, 45, 46, 47, 48, 49, 50, 51, 52, 53, 54, 55, 56, 57, 58, 59, 60, 61, 62, 63, 64, 65, 66, 67, 68, 69, 70, 71, 72, 73, 74, 75, 76, 77, 78, 79, 80, 81, 82, 83, 84, 85, 86, 87, 88, 89, 90, 91, 92, 93, 94, 95, 96, 97, 98, 99, 100, 101] (by decide +kernel) (by decide +kernel)
set_option maxRecDepth 20000 in
theorem gX12_skein_X12_weightOf : GoodIn wsX12_skein (wsV RX12 356 RX12 yX12_weightOf wsX12_weightOf) := goodIn_app (goodIn_of _ (by decide +kernel)) ggX12_skein_X12_weightOf
set_option maxRecDepth 20000 in
theorem ggX12_skein_X12_least : GoodIn wsX12_skein wsX12_least := goodIn_h _ [9, 9, 8, 0, 0, 0, 0, 0, 0, 0, 0, 0, 0, 0, 0, 0, 0, 0, 0, 0, 0, 0, 0, 0, 0, 0, 0, 3, 0, 0, 0, 0, 0, 0, 0, 29, 0, 0, 0, 0, 0, 0, 0, 0, 0, 0, 0, 0, 0, 0, 0, 0, 0, 0, 0, 0, 0, 0, 0, 0, 0, 0, 0, 0, 0, 0, 0, 0, 0, 0, 0, 0, 0, 0, 0, 0, 0, 0, 0, 0, 0, 0, 0, 0, 0, 0, 0, 0, 0, 0, 0, 0, 0, 0, 0, 0, 0, 0, 0, 0, 0] [27, 1, 28, 29, 30, 31, 32, 33, 34, 2, 3, 4, 0, 5, 6, 7, 8, 9, 10, 11, 12, 13, 14, 15, 16, 17, 18, 19, 20, 21, 22, 23, 24, 25, 26, 35, 36, 37, 38, 39, 40, 41, 42, 43, 44, 45, 46, 47, 48, 49, 50, 51, 52, 53, 54, 55, 56, 57, 58, 59, 60, 61, 62, 63, 64, 65, 66, 67, 68, 69, 70, 71, 72, 73, 74, 75, 76, 77, 78, 79, 80, 81, 82, 83, 84, 85, 86, 87, 88, 89, 90, 91, 92, 93, 94, 95, 96, 97, 98, 99, 100] (by decide +kernel) (by decide +kernel)
set_option maxRecDepth 20000 in
theorem gX12_skein_X12_least : GoodIn wsX12_skein (wsV RX12 365 RX12 yX12_least wsX12_least) := goodIn_app (goodIn_of _ (by decide +kernel)) ggX12_skein_X12_least
set_option maxRecDepth 20000 in
theorem ggX12_skein_X12_slips : GoodIn wsX12_skein wsX12_slips := goodIn_h _ [9, 9, 8, 0, 0, 0, 0, 0, 0, 0, 0, 0, 0, 0, 0, 0, 0, 0, 0, 0, 0, 0, 0, 0, 0, 0, 0, 6, 7, 0, 0, 0, 22, 0, 0, 0, 0, 0, 0, 0, 0, 0, 0, 0, 0, 0, 0, 0, 0, 0, 0, 0, 0, 0, 0, 0, 0, 0, 0, 0, 0, 0, 0, 0, 0, 0, 0, 0, 0, 0, 0, 0, 0, 0, 0, 0, 0, 0, 0, 0, 0, 0, 0, 0, 0, 0, 0, 0, 0, 0, 0, 0, 0, 0, 0, 0, 0, 0] [28, 1, 29, 30, 27, 31, 2, 3, 4, 0, 5, 6, 7, 8, 9, 10, 11, 12, 13, 14, 15, 16, 17, 18, 19, 20, 21, 22, 23, 24, 25, 26, 32, 33, 34, 35, 36, 37, 38, 39, 40, 41, 42, 43, 44, 45, 46, 47, 48, 49, 50, 51, 52, 53, 54, 55, 56, 57, 58, 59, 60, 61, 62, 63, 64, 65, 66, 67, 68, 69, 70, 71, 72, 73, 74, 75, 76, 77, 78, 79, 80, 81, 82, 83, 84, 85, 86, 87, 88, 89, 90, 91, 92, 93, 94, 95, 96, 97] (by decide +kernel) (by decide +kernel)
set_option maxRecDepth 20000 in
theorem gX12_skein_X12_slips : GoodIn wsX12_skein (wsV RX12 369 RX12 yX12_slips wsX12_slips) := goodIn_app (goodIn_of _ (by decide +kernel)) ggX12_skein_X12_slips
set_option maxRecDepth 20000 in
theorem ggX12_skein_X12_pieces : GoodIn wsX12_skein wsX12_pieces := goodIn_h _ [9, 5, 0, 0, 0, 0, 12, 0, 40, 0, 0, 0, 0, 0, 0, 0, 0, 10, 0, 0, 0, 0, 0, 0, 0, 0, 0, 0, 0, 0, 0, 0, 0, 0, 0, 0, 0, 0, 0, 0, 0, 0, 0, 0, 0, 0, 0, 0, 0, 0, 0, 0, 0, 0, 0, 0, 0, 0, 0, 0, 0, 0, 0, 0, 0, 0, 0, 0, 0, 0, 0, 0, 0, 0, 0, 0, 0, 0, 0, 0, 0, 0, 0] [8, 6, 5, 1, 2, 3, 0, 4, 9, 10, 11, 12, 7, 13, 14, 15, 16, 17, 18, 19, 20, 21, 22, 23, 24, 25, 26, 27, 28, 29, 30, 31, 32, 33, 34, 35, 36, 37, 38, 39, 40, 41, 42, 43, 44, 45, 46, 47, 48, 49, 50, 51, 52, 53, 54, 55, 56, 57, 58, 59, 60, 61, 62, 63, 64, 65, 66, 67, 68, 69, 70, 71, 72, 73, 74, 75, 76, 77, 78, 79, 80, 81, 82] (by decide +kernel) (by decide +kernel)
set_option maxRecDepth 20000 in
theorem gX12_skein_X12_pieces : GoodIn wsX12_skein (wsV RX12 372 RX12 yX12_pieces wsX12_pieces) := goodIn_app (goodIn_of _ (by decide +kernel)) ggX12_skein_X12_pieces
set_option maxRecDepth 20000 in
theorem ggX12_skein_X12_gradeOf : GoodIn wsX12_skein wsX12_gradeOf := goodIn_h _ [86, 0, 5, 0, 0, 0, 0, 0, 0, 0, 0, 0, 0, 0, 0, 0, 0, 0, 0, 0, 0, 0, 0, 0, 0, 0, 0, 0, 0, 0, 0, 0, 0, 0, 0, 0, 0, 0, 0, 0, 0, 0, 0, 0, 0, 0, 0, 0, 0, 0, 0, 0, 0, 0, 0, 0, 0, 0, 0, 0, 0, 0, 0, 0, 0, 0, 0, 0] [0, 1, 2, 3, 4, 5, 6, 7, 8, 9, 10, 11, 12, 13, 14, 15, 16, 17, 18, 19, 20, 21, 22, 23, 24, 25, 26, 27, 28, 29, 30, 31, 32, 33, 34, 35, 36, 37, 38, 39, 40, 41, 42, 43, 44, 45, 46, 47, 48, 49, 50, 51, 52, 53, 54, 55, 56, 57, 58, 59, 60, 61, 62, 63, 64, 65, 66, 67] (by decide +kernel) (by decide +kernel)
set_option maxRecDepth 20000 in
theorem gX12_skein_X12_gradeOf : GoodIn wsX12_skein (wsV RX12 359 RX12 yX12_gradeOf wsX12_gradeOf) := goodIn_app (goodIn_of _ (by decide +kernel)) ggX12_skein_X12_gradeOf
set_option maxRecDepth 20000 in
theorem ggX12_skein_X12_priceOf : GoodIn wsX12_skein wsX12_priceOf := goodIn_h _ [9, 5, 0, 0, 0, 0, 0, 0, 0, 0, 0, 0, 0, 0, 0, 0, 0, 0, 0, 0, 0, 0, 0, 0, 0, 0, 0, 0, 0, 0, 0, 0, 0, 0, 0, 0, 0, 0, 0, 30, 0, 0, 0, 0, 3, 0, 0, 0, 0, 0, 0, 0, 0, 0, 0, 0, 0, 0, 0, 0, 0, 0, 0, 0, 0, 0, 0, 0, 0, 0, 0, 0, 0, 0, 0, 0, 0, 0, 0, 0, 0, 0, 0, 0, 0, 0, 0, 0, 0, 0, 0, 0, 0, 0, 0, 0, 0, 0, 0, 0, 0, 0, 0, 0, 0, 0, 0, 0, 0, 0, 0, 0] [44, 45, 6, 7, 8, 0, 9, 5, 1, 2, 3, 4, 10, 11, 12, 13, 14, 15, 16, 17, 18, 19, 20, 21, 22, 23, 24, 25, 26, 27, 28, 29, 30, 31, 32, 33, 34, 35, 36, 37, 38, 39, 40, 41, 42, 43, 46, 47, 48, 49, 50, 51, 52, 53, 54, 55, 56, 57, 58, 59, 60, 61, 62, 63, 64, 65, 66, 67, 68, 69, 70, 71, 72, 73, 74, 75, 76, 77, 78, 79, 80, 81, 82, 83, 84, 85, 86, 87, 88, 89, 90, 91, 92, 93, 94, 95, 96, 97, 98, 99, 100, 101, 102, 103, 104, 105, 106, 107, 108, 109, 110, 111] (by decide +kernel) (by decide +kernel)
set_option maxRecDepth 20000 in
theorem gX12_skein_X12_priceOf : GoodIn wsX12_skein (wsV RX12 375 RX12 yX12_priceOf wsX12_priceOf) := goodIn_app (goodIn_of _ (by decide +kernel)) ggX12_skein_X12_priceOf
theorem dX12_skein_0 : decode cX12_skein 0 = .ok (.aload_n 0, 1) := by decide +kernel
theorem dX12_skein_1 : decode cX12_skein 1 = .ok (.iconst 0, 1) := by decide +kernel
theorem dX12_skein_2 : decode cX12_skein 2 = .ok (.putfield 161, 3) := by decide +kernel
theorem dX12_skein_5 : decode cX12_skein 5 = .ok (.aload_n 0, 1) := by decide +kernel
theorem dX12_skein_6 : decode cX12_skein 6 = .ok (.iload_n 1, 1) := by decide +kernel
theorem dX12_skein_7 : decode cX12_skein 7 = .ok (.invokevirtual 362, 3) := by decide +kernel
theorem dX12_skein_10 : decode cX12_skein 10 = .ok (.ifCond .ne 5, 3) := by decide +kernel
theorem dX12_skein_13 : decode cX12_skein 13 = .ok (.iconst (-1), 1) := by decide +kernel
theorem dX12_skein_14 : decode cX12_skein 14 = .ok (.ireturn, 1) := by decide +kernel
theorem dX12_skein_15 : decode cX12_skein 15 = .ok (.iload_n 2, 1) := by decide +kernel
theorem dX12_skein_16 : decode cX12_skein 16 = .ok (.tableswitch 152 0 11 #[64, 71, 78, 84, 90, 90, 106, 112, 118, 124, 139, 145], 64) := by decide +kernel
theorem dX12_skein_80 : decode cX12_skein 80 = .ok (.aload_n 0, 1) := by decide +kernel
theorem dX12_skein_81 : decode cX12_skein 81 = .ok (.getfield 103, 3) := by decide +kernel
theorem dX12_skein_84 : decode cX12_skein 84 = .ok (.iload_n 1, 1) := by decide +kernel
theorem dX12_skein_85 : decode cX12_skein 85 = .ok (.iaload, 1) := by decide +kernel
theorem dX12_skein_86 : decode cX12_skein 86 = .ok (.ireturn, 1) := by decide +kernel
theorem dX12_skein_87 : decode cX12_skein 87 = .ok (.aload_n 0, 1) := by decide +kernel
theorem dX12_skein_88 : decode cX12_skein 88 = .ok (.getfield 106, 3) := by decide +kernel
theorem dX12_skein_91 : decode cX12_skein 91 = .ok (.iload_n 1, 1) := by decide +kernel
theorem dX12_skein_92 : decode cX12_skein 92 = .ok (.iaload, 1) := by decide +kernel
theorem dX12_skein_93 : decode cX12_skein 93 = .ok (.ireturn, 1) := by decide +kernel
theorem dX12_skein_94 : decode cX12_skein 94 = .ok (.aload_n 0, 1) := by decide +kernel
theorem dX12_skein_95 : decode cX12_skein 95 = .ok (.iload_n 1, 1) := by decide +kernel
theorem dX12_skein_96 : decode cX12_skein 96 = .ok (.invokevirtual 350, 3) := by decide +kernel
theorem dX12_skein_99 : decode cX12_skein 99 = .ok (.ireturn, 1) := by decide +kernel
theorem dX12_skein_100 : decode cX12_skein 100 = .ok (.aload_n 0, 1) := by decide +kernel
theorem dX12_skein_101 : decode cX12_skein 101 = .ok (.iload_n 1, 1) := by decide +kernel
theorem dX12_skein_102 : decode cX12_skein 102 = .ok (.invokevirtual 356, 3) := by decide +kernel
theorem dX12_skein_105 : decode cX12_skein 105 = .ok (.ireturn, 1) := by decide +kernel
theorem dX12_skein_106 : decode cX12_skein 106 = .ok (.aload_n 0, 1) := by decide +kernel
theorem dX12_skein_107 : decode cX12_skein 107 = .ok (.iload_n 1, 1) := by decide +kernel
theorem dX12_skein_108 : decode cX12_skein 108 = .ok (.iload_n 2, 1) := by decide +kernel
theorem dX12_skein_109 : decode cX12_skein 109 = .ok (.iconst 5, 1) := by decide +kernel
theorem dX12_skein_110 : decode cX12_skein 110 = .ok (.if_icmp .ne 7, 3) := by decide +kernel
theorem dX12_skein_113 : decode cX12_skein 113 = .ok (.iconst 1, 1) := by decide +kernel
theorem dX12_skein_114 : decode cX12_skein 114 = .ok (.goto 4, 3) := by decide +kernel
theorem dX12_skein_117 : decode cX12_skein 117 = .ok (.iconst 0, 1) := by decide +kernel
theorem dX12_skein_118 : decode cX12_skein 118 = .ok (.invokevirtual 365, 3) := by decide +kernel
theorem dX12_skein_121 : decode cX12_skein 121 = .ok (.ireturn, 1) := by decide +kernel
theorem dX12_skein_122 : decode cX12_skein 122 = .ok (.aload_n 0, 1) := by decide +kernel
theorem dX12_skein_123 : decode cX12_skein 123 = .ok (.iload_n 1, 1) := by decide +kernel
theorem dX12_skein_124 : decode cX12_skein 124 = .ok (.invokevirtual 369, 3) := by decide +kernel
theorem dX12_skein_127 : decode cX12_skein 127 = .ok (.ireturn, 1) := by decide +kernel
theorem dX12_skein_128 : decode cX12_skein 128 = .ok (.aload_n 0, 1) := by decide +kernel
theorem dX12_skein_129 : decode cX12_skein 129 = .ok (.iload_n 1, 1) := by decide +kernel
theorem dX12_skein_130 : decode cX12_skein 130 = .ok (.invokevirtual 372, 3) := by decide +kernel
theorem dX12_skein_133 : decode cX12_skein 133 = .ok (.ireturn, 1) := by decide +kernel
theorem dX12_skein_134 : decode cX12_skein 134 = .ok (.aload_n 0, 1) := by decide +kernel
theorem dX12_skein_135 : decode cX12_skein 135 = .ok (.iload_n 1, 1) := by decide +kernel
theorem dX12_skein_136 : decode cX12_skein 136 = .ok (.invokevirtual 359, 3) := by decide +kernel
theorem dX12_skein_139 : decode cX12_skein 139 = .ok (.ireturn, 1) := by decide +kernel
theorem dX12_skein_140 : decode cX12_skein 140 = .ok (.aload_n 0, 1) := by decide +kernel
theorem dX12_skein_141 : decode cX12_skein 141 = .ok (.getfield 115, 3) := by decide +kernel
theorem dX12_skein_144 : decode cX12_skein 144 = .ok (.iload_n 1, 1) := by decide +kernel
theorem dX12_skein_145 : decode cX12_skein 145 = .ok (.baload, 1) := by decide +kernel
theorem dX12_skein_146 : decode cX12_skein 146 = .ok (.ifCond .eq 7, 3) := by decide +kernel
theorem dX12_skein_149 : decode cX12_skein 149 = .ok (.iconst 1, 1) := by decide +kernel
theorem dX12_skein_150 : decode cX12_skein 150 = .ok (.goto 4, 3) := by decide +kernel
theorem dX12_skein_153 : decode cX12_skein 153 = .ok (.iconst 0, 1) := by decide +kernel
theorem dX12_skein_154 : decode cX12_skein 154 = .ok (.ireturn, 1) := by decide +kernel
theorem dX12_skein_155 : decode cX12_skein 155 = .ok (.aload_n 0, 1) := by decide +kernel
theorem dX12_skein_156 : decode cX12_skein 156 = .ok (.iload_n 1, 1) := by decide +kernel
theorem dX12_skein_157 : decode cX12_skein 157 = .ok (.invokevirtual 375, 3) := by decide +kernel
theorem dX12_skein_160 : decode cX12_skein 160 = .ok (.ireturn, 1) := by decide +kernel
theorem dX12_skein_161 : decode cX12_skein 161 = .ok (.aload_n 0, 1) := by decide +kernel
theorem dX12_skein_162 : decode cX12_skein 162 = .ok (.getfield 109, 3) := by decide +kernel
theorem dX12_skein_165 : decode cX12_skein 165 = .ok (.iload_n 1, 1) := by decide +kernel
theorem dX12_skein_166 : decode cX12_skein 166 = .ok (.iaload, 1) := by decide +kernel
theorem dX12_skein_167 : decode cX12_skein 167 = .ok (.ireturn, 1) := by decide +kernel
theorem dX12_skein_168 : decode cX12_skein 168 = .ok (.iconst (-1), 1) := by decide +kernel
theorem dX12_skein_169 : decode cX12_skein 169 = .ok (.ireturn, 1) := by decide +kernel
set_option maxRecDepth 20000 in
theorem ggX12_piece_X12_isSkein : GoodIn wsX12_piece wsX12_isSkein := goodIn_h _ [8, 0, 0, 0, 0, 0, 16, 0, 0, 0, 0, 0, 0, 0, 0, 0, 0, 0, 0, 0, 0, 0, 0, 0, 0, 0, 0, 0, 0, 0, 0, 0, 0, 0, 0, 0, 0, 0, 0, 0, 0, 0, 0, 0, 0, 0, 0, 0, 0, 0, 0, 0, 0, 0, 0, 0, 0, 0, 0, 0, 0, 0, 0, 0, 0, 0, 0, 0, 0, 0, 0, 0] [1, 2, 3, 4, 0, 5, 6, 7, 8, 9, 10, 11, 12, 13, 14, 15, 16, 17, 18, 19, 20, 21, 22, 23, 24, 25, 26, 27, 28, 29, 30, 31, 32, 33, 34, 35, 36, 37, 38, 39, 40, 41, 42, 43, 44, 45, 46, 47, 48, 49, 50, 51, 52, 53, 54, 55, 56, 57, 58, 59, 60, 61, 62, 63, 64, 65, 66, 67, 68, 69, 70, 71] (by decide +kernel) (by decide +kernel)
set_option maxRecDepth 20000 in
theorem gX12_piece_X12_isSkein : GoodIn wsX12_piece (wsV RX12 362 RX12 yX12_isSkein wsX12_isSkein) := goodIn_app (goodIn_of _ (by decide +kernel)) ggX12_piece_X12_isSkein
set_option maxRecDepth 20000 in
theorem ggX12_piece_X12_within : GoodIn wsX12_piece wsX12_within := goodIn_h _ [13] [0] (by decide +kernel) (by decide +kernel)
set_option maxRecDepth 20000 in
theorem gX12_piece_X12_within : GoodIn wsX12_piece (va_wsS RX12 168 yX12_within wsX12_within) := goodIn_app (goodIn_of _ (by decide +kernel)) ggX12_piece_X12_within
set_option maxRecDepth 20000 in
theorem ggX12_piece_X12_metres : GoodIn wsX12_piece wsX12_metres := goodIn_h _ [3, 13, 12, 0, 0, 0, 0, 0, 0, 0, 0, 0, 0, 0, 0, 0, 0, 0, 0, 0, 0, 0, 0, 0, 0, 0, 0, 0, 0, 0, 0, 0, 0, 0, 0, 0, 0, 0, 0, 0, 0, 0, 0, 0, 0, 0, 0, 0, 0, 0, 0, 0, 0, 0, 0, 0, 0, 0, 0, 0, 0, 0, 0, 0, 0, 0, 0, 0] [1, 0, 2, 3, 4, 5, 6, 7, 8, 9, 10, 11, 12, 13, 14, 15, 16, 17, 18, 19, 20, 21, 22, 23, 24, 25, 26, 27, 28, 29, 30, 31, 32, 33, 34, 35, 36, 37, 38, 39, 40, 41, 42, 43, 44, 45, 46, 47, 48, 49, 50, 51, 52, 53, 54, 55, 56, 57, 58, 59, 60, 61, 62, 63, 64, 65, 66, 67] (by decide +kernel) (by decide +kernel)
set_option maxRecDepth 20000 in
theorem gX12_piece_X12_metres : GoodIn wsX12_piece (wsV RX12 350 RX12 yX12_metres wsX12_metres) := goodIn_app (goodIn_of _ (by decide +kernel)) ggX12_piece_X12_metres
set_option maxRecDepth 20000 in
theorem ggX12_piece_X12_begins : GoodIn wsX12_piece wsX12_begins := goodIn_h _ [2, 0, 0, 3, 12, 0, 0, 0, 0, 4, 0, 0, 0, 0, 0, 0, 0, 0, 0, 0, 0, 0, 0, 0, 0, 0, 0, 0, 0, 0, 0, 0, 0, 0, 0, 0, 0, 0, 0, 0, 0, 0, 0, 0, 0, 0, 0, 0, 0, 0, 0, 0, 0, 0, 0, 0, 0, 0, 0, 0, 0, 0, 0, 0, 0, 0, 0, 0, 0, 0, 0, 0, 0, 0, 0] [4, 1, 2, 5, 6, 7, 3, 8, 0, 9, 10, 11, 12, 13, 14, 15, 16, 17, 18, 19, 20, 21, 22, 23, 24, 25, 26, 27, 28, 29, 30, 31, 32, 33, 34, 35, 36, 37, 38, 39, 40, 41, 42, 43, 44, 45, 46, 47, 48, 49, 50, 51, 52, 53, 54, 55, 56, 57, 58, 59, 60, 61, 62, 63, 64, 65, 66, 67, 68, 69, 70, 71, 72, 73, 74] (by decide +kernel) (by decide +kernel)
set_option maxRecDepth 20000 in
theorem gX12_piece_X12_begins : GoodIn wsX12_piece (wsV RX12 353 RX12 yX12_begins wsX12_begins) := goodIn_app (goodIn_of _ (by decide +kernel)) ggX12_piece_X12_begins
set_option maxRecDepth 20000 in
theorem ggX12_piece_X12_told : GoodIn wsX12_piece wsX12_told := goodIn_h _ [2, 0, 0, 3, 5, 0, 0, 0, 4, 0, 0, 0, 3, 0, 0, 0, 0, 0, 0, 0, 0, 0, 0, 0, 0, 0, 0, 0, 0, 0, 0, 0, 0, 0, 0, 0, 0, 0, 0, 0, 0, 0, 0, 0, 0, 0, 0, 0, 0, 0, 0, 0, 0, 0, 0, 0, 0, 0, 0, 0, 0, 0, 0, 0, 0, 0, 0, 0, 0, 0, 0, 0, 0, 0, 0, 0, 0, 0, 0] [12, 1, 4, 5, 6, 3, 7, 8, 9, 10, 11, 0, 2, 13, 14, 15, 16, 17, 18, 19, 20, 21, 22, 23, 24, 25, 26, 27, 28, 29, 30, 31, 32, 33, 34, 35, 36, 37, 38, 39, 40, 41, 42, 43, 44, 45, 46, 47, 48, 49, 50, 51, 52, 53, 54, 55, 56, 57, 58, 59, 60, 61, 62, 63, 64, 65, 66, 67, 68, 69, 70, 71, 72, 73, 74, 75, 76, 77, 78] (by decide +kernel) (by decide +kernel)
set_option maxRecDepth 20000 in
theorem gX12_piece_X12_told : GoodIn wsX12_piece (wsV RX12 378 RX12 yX12_told wsX12_told) := goodIn_app (goodIn_of _ (by decide +kernel)) ggX12_piece_X12_told
theorem dX12_piece_0 : decode cX12_piece 0 = .ok (.aload_n 0, 1) := by decide +kernel
theorem dX12_piece_1 : decode cX12_piece 1 = .ok (.iconst 0, 1) := by decide +kernel
theorem dX12_piece_2 : decode cX12_piece 2 = .ok (.putfield 161, 3) := by decide +kernel
theorem dX12_piece_5 : decode cX12_piece 5 = .ok (.aload_n 0, 1) := by decide +kernel
theorem dX12_piece_6 : decode cX12_piece 6 = .ok (.iload_n 1, 1) := by decide +kernel
theorem dX12_piece_7 : decode cX12_piece 7 = .ok (.invokevirtual 362, 3) := by decide +kernel
theorem dX12_piece_10 : decode cX12_piece 10 = .ok (.ifCond .eq 16, 3) := by decide +kernel
theorem dX12_piece_13 : decode cX12_piece 13 = .ok (.iload_n 2, 1) := by decide +kernel
theorem dX12_piece_14 : decode cX12_piece 14 = .ok (.ifCond .lt 12, 3) := by decide +kernel
theorem dX12_piece_17 : decode cX12_piece 17 = .ok (.iload_n 3, 1) := by decide +kernel
theorem dX12_piece_18 : decode cX12_piece 18 = .ok (.iconst 0, 1) := by decide +kernel
theorem dX12_piece_19 : decode cX12_piece 19 = .ok (.iconst 4, 1) := by decide +kernel
theorem dX12_piece_20 : decode cX12_piece 20 = .ok (.invokestatic 168, 3) := by decide +kernel
theorem dX12_piece_23 : decode cX12_piece 23 = .ok (.ifCond .ne 5, 3) := by decide +kernel
theorem dX12_piece_26 : decode cX12_piece 26 = .ok (.iconst (-1), 1) := by decide +kernel
theorem dX12_piece_27 : decode cX12_piece 27 = .ok (.ireturn, 1) := by decide +kernel
theorem dX12_piece_28 : decode cX12_piece 28 = .ok (.iload_n 2, 1) := by decide +kernel
theorem dX12_piece_29 : decode cX12_piece 29 = .ok (.istore 4, 2) := by decide +kernel
theorem dX12_piece_31 : decode cX12_piece 31 = .ok (.iconst 0, 1) := by decide +kernel
theorem dX12_piece_32 : decode cX12_piece 32 = .ok (.istore 5, 2) := by decide +kernel
theorem dX12_piece_34 : decode cX12_piece 34 = .ok (.iload 5, 2) := by decide +kernel
theorem dX12_piece_36 : decode cX12_piece 36 = .ok (.aload_n 0, 1) := by decide +kernel
theorem dX12_piece_37 : decode cX12_piece 37 = .ok (.iload_n 1, 1) := by decide +kernel
theorem dX12_piece_38 : decode cX12_piece 38 = .ok (.invokevirtual 350, 3) := by decide +kernel
theorem dX12_piece_41 : decode cX12_piece 41 = .ok (.if_icmp .ge 89, 3) := by decide +kernel
theorem dX12_piece_44 : decode cX12_piece 44 = .ok (.iconst 0, 1) := by decide +kernel
theorem dX12_piece_45 : decode cX12_piece 45 = .ok (.istore 6, 2) := by decide +kernel
theorem dX12_piece_47 : decode cX12_piece 47 = .ok (.iload 6, 2) := by decide +kernel
theorem dX12_piece_49 : decode cX12_piece 49 = .ok (.aload_n 0, 1) := by decide +kernel
theorem dX12_piece_50 : decode cX12_piece 50 = .ok (.getfield 90, 3) := by decide +kernel
theorem dX12_piece_53 : decode cX12_piece 53 = .ok (.aload_n 0, 1) := by decide +kernel
theorem dX12_piece_54 : decode cX12_piece 54 = .ok (.getfield 100, 3) := by decide +kernel
theorem dX12_piece_57 : decode cX12_piece 57 = .ok (.iload_n 1, 1) := by decide +kernel
theorem dX12_piece_58 : decode cX12_piece 58 = .ok (.iaload, 1) := by decide +kernel
theorem dX12_piece_59 : decode cX12_piece 59 = .ok (.iload 5, 2) := by decide +kernel
theorem dX12_piece_61 : decode cX12_piece 61 = .ok (.iadd, 1) := by decide +kernel
theorem dX12_piece_62 : decode cX12_piece 62 = .ok (.iaload, 1) := by decide +kernel
theorem dX12_piece_63 : decode cX12_piece 63 = .ok (.if_icmp .ge 61, 3) := by decide +kernel
theorem dX12_piece_66 : decode cX12_piece 66 = .ok (.aload_n 0, 1) := by decide +kernel
theorem dX12_piece_67 : decode cX12_piece 67 = .ok (.iload_n 1, 1) := by decide +kernel
theorem dX12_piece_68 : decode cX12_piece 68 = .ok (.iload 5, 2) := by decide +kernel
theorem dX12_piece_70 : decode cX12_piece 70 = .ok (.iload 6, 2) := by decide +kernel
theorem dX12_piece_72 : decode cX12_piece 72 = .ok (.invokevirtual 353, 3) := by decide +kernel
theorem dX12_piece_75 : decode cX12_piece 75 = .ok (.ifCond .ne 6, 3) := by decide +kernel
theorem dX12_piece_78 : decode cX12_piece 78 = .ok (.goto 40, 3) := by decide +kernel
theorem dX12_piece_81 : decode cX12_piece 81 = .ok (.iload 4, 2) := by decide +kernel
theorem dX12_piece_83 : decode cX12_piece 83 = .ok (.ifCond .ne 32, 3) := by decide +kernel
theorem dX12_piece_86 : decode cX12_piece 86 = .ok (.aload_n 0, 1) := by decide +kernel
theorem dX12_piece_87 : decode cX12_piece 87 = .ok (.iload_n 1, 1) := by decide +kernel
theorem dX12_piece_88 : decode cX12_piece 88 = .ok (.iload 5, 2) := by decide +kernel
theorem dX12_piece_90 : decode cX12_piece 90 = .ok (.aload_n 0, 1) := by decide +kernel
theorem dX12_piece_91 : decode cX12_piece 91 = .ok (.getfield 94, 3) := by decide +kernel
theorem dX12_piece_94 : decode cX12_piece 94 = .ok (.bipush 12, 2) := by decide +kernel
theorem dX12_piece_96 : decode cX12_piece 96 = .ok (.aload_n 0, 1) := by decide +kernel
theorem dX12_piece_97 : decode cX12_piece 97 = .ok (.getfield 100, 3) := by decide +kernel
theorem dX12_piece_100 : decode cX12_piece 100 = .ok (.iload_n 1, 1) := by decide +kernel
theorem dX12_piece_101 : decode cX12_piece 101 = .ok (.iaload, 1) := by decide +kernel
theorem dX12_piece_102 : decode cX12_piece 102 = .ok (.iload 5, 2) := by decide +kernel
theorem dX12_piece_104 : decode cX12_piece 104 = .ok (.iadd, 1) := by decide +kernel
theorem dX12_piece_105 : decode cX12_piece 105 = .ok (.imul, 1) := by decide +kernel
theorem dX12_piece_106 : decode cX12_piece 106 = .ok (.iload 6, 2) := by decide +kernel
theorem dX12_piece_108 : decode cX12_piece 108 = .ok (.iadd, 1) := by decide +kernel
theorem dX12_piece_109 : decode cX12_piece 109 = .ok (.iaload, 1) := by decide +kernel
theorem dX12_piece_110 : decode cX12_piece 110 = .ok (.iload_n 3, 1) := by decide +kernel
theorem dX12_piece_111 : decode cX12_piece 111 = .ok (.invokevirtual 378, 3) := by decide +kernel
theorem dX12_piece_114 : decode cX12_piece 114 = .ok (.ireturn, 1) := by decide +kernel
theorem dX12_piece_115 : decode cX12_piece 115 = .ok (.iinc 4 (-1), 3) := by decide +kernel
theorem dX12_piece_118 : decode cX12_piece 118 = .ok (.iinc 6 1, 3) := by decide +kernel
theorem dX12_piece_121 : decode cX12_piece 121 = .ok (.goto (-74), 3) := by decide +kernel
theorem dX12_piece_124 : decode cX12_piece 124 = .ok (.iinc 5 1, 3) := by decide +kernel
theorem dX12_piece_127 : decode cX12_piece 127 = .ok (.goto (-93), 3) := by decide +kernel
theorem dX12_piece_130 : decode cX12_piece 130 = .ok (.iconst (-1), 1) := by decide +kernel
theorem dX12_piece_131 : decode cX12_piece 131 = .ok (.ireturn, 1) := by decide +kernel
set_option maxRecDepth 20000 in
theorem ggX12_told_X12_metres : GoodIn wsX12_told wsX12_metres := goodIn_h _ [1, 4, 6, 0, 0, 0, 0, 0, 0, 0, 0, 0, 0, 0, 0, 0, 0, 0, 0, 0, 0, 0, 0, 0, 0, 0, 0, 0, 0, 0, 0, 0, 0, 0, 0, 0, 0, 0, 0, 0, 0, 0, 0, 0, 0, 0, 0, 0, 0, 0, 0, 0, 0, 0, 0, 0, 0, 0, 0, 0, 0, 0, 0, 0, 0, 0, 0, 0] [1, 0, 2, 3, 4, 5, 6, 7, 8, 9, 10, 11, 12, 13, 14, 15, 16, 17, 18, 19, 20, 21, 22, 23, 24, 25, 26, 27, 28, 29, 30, 31, 32, 33, 34, 35, 36, 37, 38, 39, 40, 41, 42, 43, 44, 45, 46, 47, 48, 49, 50, 51, 52, 53, 54, 55, 56, 57, 58, 59, 60, 61, 62, 63, 64, 65, 66, 67] (by decide +kernel) (by decide +kernel)
set_option maxRecDepth 20000 in
theorem gX12_told_X12_metres : GoodIn wsX12_told (wsV RX12 350 RX12 yX12_metres wsX12_metres) := goodIn_app (goodIn_of _ (by decide +kernel)) ggX12_told_X12_metres
set_option maxRecDepth 20000 in
theorem ggX12_told_X12_endOf : GoodIn wsX12_told wsX12_endOf := goodIn_h _ [10, 0, 0, 0, 0, 0, 0, 0, 0, 0, 0, 0, 0, 0, 0, 0, 0, 0, 0, 0, 0, 0, 0, 0, 0, 0, 0, 0, 0, 0, 0, 0, 0, 0, 0, 0, 0, 0, 0, 0, 0, 0, 0, 0, 0, 0, 0, 0, 0, 0, 0, 0, 0, 0, 0, 0, 0, 0, 0, 0, 0, 0, 0, 0, 0, 0, 0, 0, 0] [0, 1, 2, 3, 4, 5, 6, 7, 8, 9, 10, 11, 12, 13, 14, 15, 16, 17, 18, 19, 20, 21, 22, 23, 24, 25, 26, 27, 28, 29, 30, 31, 32, 33, 34, 35, 36, 37, 38, 39, 40, 41, 42, 43, 44, 45, 46, 47, 48, 49, 50, 51, 52, 53, 54, 55, 56, 57, 58, 59, 60, 61, 62, 63, 64, 65, 66, 67, 68] (by decide +kernel) (by decide +kernel)
set_option maxRecDepth 20000 in
theorem gX12_told_X12_endOf : GoodIn wsX12_told (wsV RX12 336 RX12 yX12_endOf wsX12_endOf) := goodIn_app (goodIn_of _ (by decide +kernel)) ggX12_told_X12_endOf
theorem dX12_told_0 : decode cX12_told 0 = .ok (.iload_n 3, 1) := by decide +kernel
theorem dX12_told_1 : decode cX12_told 1 = .ok (.sipush 1000, 3) := by decide +kernel
theorem dX12_told_4 : decode cX12_told 4 = .ok (.idiv, 1) := by decide +kernel
theorem dX12_told_5 : decode cX12_told 5 = .ok (.istore 5, 2) := by decide +kernel
theorem dX12_told_7 : decode cX12_told 7 = .ok (.iload 4, 2) := by decide +kernel
theorem dX12_told_9 : decode cX12_told 9 = .ok (.tableswitch 55 0 4 #[35, 41, 47, 55, 49], 35) := by decide +kernel
theorem dX12_told_44 : decode cX12_told 44 = .ok (.iload 5, 2) := by decide +kernel
theorem dX12_told_46 : decode cX12_told 46 = .ok (.bipush 60, 2) := by decide +kernel
theorem dX12_told_48 : decode cX12_told 48 = .ok (.idiv, 1) := by decide +kernel
theorem dX12_told_49 : decode cX12_told 49 = .ok (.ireturn, 1) := by decide +kernel
theorem dX12_told_50 : decode cX12_told 50 = .ok (.iload 5, 2) := by decide +kernel
theorem dX12_told_52 : decode cX12_told 52 = .ok (.bipush 60, 2) := by decide +kernel
theorem dX12_told_54 : decode cX12_told 54 = .ok (.irem, 1) := by decide +kernel
theorem dX12_told_55 : decode cX12_told 55 = .ok (.ireturn, 1) := by decide +kernel
theorem dX12_told_56 : decode cX12_told 56 = .ok (.iload_n 2, 1) := by decide +kernel
theorem dX12_told_57 : decode cX12_told 57 = .ok (.ireturn, 1) := by decide +kernel
theorem dX12_told_58 : decode cX12_told 58 = .ok (.iload_n 3, 1) := by decide +kernel
theorem dX12_told_59 : decode cX12_told 59 = .ok (.sipush 1000, 3) := by decide +kernel
theorem dX12_told_62 : decode cX12_told 62 = .ok (.irem, 1) := by decide +kernel
theorem dX12_told_63 : decode cX12_told 63 = .ok (.ireturn, 1) := by decide +kernel
theorem dX12_told_64 : decode cX12_told 64 = .ok (.iconst 1, 1) := by decide +kernel
theorem dX12_told_65 : decode cX12_told 65 = .ok (.istore 6, 2) := by decide +kernel
theorem dX12_told_67 : decode cX12_told 67 = .ok (.iload_n 2, 1) := by decide +kernel
theorem dX12_told_68 : decode cX12_told 68 = .ok (.iload 6, 2) := by decide +kernel
theorem dX12_told_70 : decode cX12_told 70 = .ok (.iadd, 1) := by decide +kernel
theorem dX12_told_71 : decode cX12_told 71 = .ok (.aload_n 0, 1) := by decide +kernel
theorem dX12_told_72 : decode cX12_told 72 = .ok (.iload_n 1, 1) := by decide +kernel
theorem dX12_told_73 : decode cX12_told 73 = .ok (.invokevirtual 350, 3) := by decide +kernel
theorem dX12_told_76 : decode cX12_told 76 = .ok (.if_icmp .ge 30, 3) := by decide +kernel
theorem dX12_told_79 : decode cX12_told 79 = .ok (.aload_n 0, 1) := by decide +kernel
theorem dX12_told_80 : decode cX12_told 80 = .ok (.aload_n 0, 1) := by decide +kernel
theorem dX12_told_81 : decode cX12_told 81 = .ok (.getfield 100, 3) := by decide +kernel
theorem dX12_told_84 : decode cX12_told 84 = .ok (.iload_n 1, 1) := by decide +kernel
theorem dX12_told_85 : decode cX12_told 85 = .ok (.iaload, 1) := by decide +kernel
theorem dX12_told_86 : decode cX12_told 86 = .ok (.iload_n 2, 1) := by decide +kernel
theorem dX12_told_87 : decode cX12_told 87 = .ok (.iadd, 1) := by decide +kernel
theorem dX12_told_88 : decode cX12_told 88 = .ok (.iload 6, 2) := by decide +kernel
theorem dX12_told_90 : decode cX12_told 90 = .ok (.iadd, 1) := by decide +kernel
theorem dX12_told_91 : decode cX12_told 91 = .ok (.iload 5, 2) := by decide +kernel
theorem dX12_told_93 : decode cX12_told 93 = .ok (.invokevirtual 336, 3) := by decide +kernel
theorem dX12_told_96 : decode cX12_told 96 = .ok (.iconst (-1), 1) := by decide +kernel
theorem dX12_told_97 : decode cX12_told 97 = .ok (.if_icmp .eq 9, 3) := by decide +kernel
theorem dX12_told_100 : decode cX12_told 100 = .ok (.iinc 6 1, 3) := by decide +kernel
theorem dX12_told_103 : decode cX12_told 103 = .ok (.goto (-36), 3) := by decide +kernel
theorem dX12_told_106 : decode cX12_told 106 = .ok (.iload 6, 2) := by decide +kernel
theorem dX12_told_108 : decode cX12_told 108 = .ok (.ireturn, 1) := by decide +kernel
theorem inn_X12_begins_12 : ∀ w ∈ u_ws RX12 TX12 66, w ∈ wsX12_begins := fun w h => List.mem_cons_of_mem _ (List.mem_append_right _ h)
theorem inn_X12_piece_12 : ∀ w ∈ u_ws RX12 TX12 66, w ∈ wsX12_piece := fun w h => List.mem_cons_of_mem _ (List.mem_append_right _ h)
theorem inn_X12_pieces_12 : ∀ w ∈ u_ws RX12 TX12 66, w ∈ wsX12_pieces := fun w h => List.mem_cons_of_mem _ (List.mem_append_right _ h)
theorem inn_X12_skein_12 : ∀ w ∈ u_ws RX12 TX12 66, w ∈ wsX12_skein := fun w h => List.mem_cons_of_mem _ (List.mem_append_right _ h)
theorem inn_X12_told_12 : ∀ w ∈ u_ws RX12 TX12 66, w ∈ wsX12_told := fun w h => List.mem_cons_of_mem _ (List.mem_append_right _ h)
set_option maxHeartbeats 4000000 in
set_option maxRecDepth 100000 in
theorem k_X12_begins (l : Launch) (G : va_G) (cy : Nat → ClassId) (κ : Nat → Nat) (S : PS) (sz : Nat) (x : Nat) (a1 : Int32) (a1_z : Int) (a2 : Int32) (a2_z : Int) (a3 : Int32) (a3_z : Int) (hG : GX S) (ha_x : At S x 12) (hz_a1 : a1.toInt = a1_z) (hz_a2 : a2.toInt = a2_z) (hz_a3 : a3.toInt = a3_z) (hp_0 : 0 ≤ a1_z) (hp_1 : a1_z ≤ 39) (hp_2 : a1_z < (pI S 1238 x).toInt) (hp_3 : MI S x) (hp_4 : 0 ≤ a2_z) (hp_5 : a2_z < zA S x 1239 (a1_z + 1).toNat - zA S x 1239 a1_z.toNat) (hp_6 : 0 ≤ a3_z) (hp_7 : a3_z ≤ 11) : Ci l yX12_begins wsX12_begins ({ frames := 2, cells := 0, slots := 0, locals := 96 }) G cy κ S sz [.ref x, .int (a1), .int (a2), .int (a3)] (fun (r : Int32) (S9 : PS) => S = S9 ∧ (((True) ∧ r = 1) ∨ ((True) ∧ r = 0))) := by
  refine ent_m (cc := cX12_begins) (maxL := 5) (ret := (some .boolean)) (by decide) rfl (Nat.le_of_ble_eq_true rfl) ?_
  intro p e s m below meth c ls X hr hlocks hin hw hl hsz
  subst hsz
  have X : Cx p c cX12_begins 5 s [.ref x, .int (a1), .int (a2), .int (a3)].toArray wsX12_begins RX12 m G cy κ (AS S s.heap.size) := X
  have hl : lv_has ls 5 [(0, .ref x), (1, .int (a1)), (2, .int (a2)), (3, .int (a3))] := hl
  have rg_a1 : (-2147483648) ≤ a1_z ∧ a1_z ≤ 2147483647 := by rw [← hz_a1]; exact ⟨z_lo _, z_hi _⟩
  have rg_a2 : (-2147483648) ≤ a2_z ∧ a2_z ≤ 2147483647 := by rw [← hz_a2]; exact ⟨z_lo _, z_hi _⟩
  have rg_a3 : (-2147483648) ≤ a3_z ∧ a3_z ≤ 2147483647 := by rw [← hz_a3]; exact ⟨z_lo _, z_hi _⟩
  have h7 := MI_7 hp_3 (k := a1_z) (by omega) (by omega)
  refine lv_aload_n X.1 X.2.1 dX12_begins_0 rfl (lv_at hl 0 rfl) ?_
  obtain ⟨q_1, h_2, h_3, h_4⟩ := gQ_12_1239 hG ha_x
  refine r_getR (g := 1239) X hw ha_x rfl 39 h_2 (by decide) rfl inn_X12_begins_12 (by decide) (X.2.2.2.1 (.fieldLink RX12 100 "SilkMillModel" "firstMetre" "[I") (by decide +kernel)) rfl (gv_1239 _ _) dX12_begins_1 ?_
  refine lv_iload_n X.1 X.2.1 dX12_begins_4 rfl (lv_at hl 1 rfl) ?_
  refine r_iald X hw h_3 rfl (by rw [h_4]; exact z_ix hz_a1 (by omega) (by omega)) dX12_begins_5 ?_
  refine lv_topi (fun v_5 ev_5 => ?_)
  have z_6 := gE_994 hG h_3 (Int32.toNatClampNeg (a1)); rw [← ev_5] at z_6
  have ev_5 := ev_5.symm
  have zf_7 : zA S x 1239 (a1_z).toNat = v_5.toInt := (zA_of h_2 hz_a1 (by omega) ev_5)
  refine lv_iload_n X.1 X.2.1 dX12_begins_6 rfl (lv_at hl 2 rfl) ?_
  refine lv_iadd X.1 X.2.1 dX12_begins_7 ?_
  refine lv_topi (fun v_8 ev_8 => ?_)
  have z_9 : v_8.toInt = v_5.toInt + a2_z := z_add ev_8 rfl hz_a2 (by omega) (by omega)
  refine lv_istore (lv' := [(4, .int (v_8)), (0, .ref x), (1, .int (a1)), (2, .int (a2)), (3, .int (a3))]) X.1 X.2.1 dX12_begins_8 hl (by decide) rfl (fun ls hl => ?_)
  refine lv_iload_n X.1 X.2.1 dX12_begins_10 rfl (lv_at hl 3 rfl) ?_
  refine lv_if_eq (tgt := 42) X.1 X.2.1 dX12_begins_11 (by decide) (fun c_10 => ?_) (fun c_10 => ?_)
  · have z_b_11 := trivial
    have k_12 : a2_z = 0 := z_eq hz_a2 ti_0 c_10
    refine lv_iconst (v := 1) X.1 X.2.1 dX12_begins_42 (by decide) ?_
    refine lv_goto (tgt := 47) X.1 X.2.1 dX12_begins_43 (by decide) ?_
    exact ret_z X hw hr hlocks (Nat.le_of_ble_eq_true rfl) (Nat.le_of_ble_eq_true rfl) (by decide) ⟨rfl, Or.inl ⟨trivial, rfl⟩⟩ dX12_begins_47
  · have z_b_13 := trivial
    have k_14 : a2_z ≠ 0 := z_ne hz_a2 ti_0 c_10
    refine lv_aload_n X.1 X.2.1 dX12_begins_14 rfl (lv_at hl 1 rfl) ?_
    refine lv_iload X.1 X.2.1 dX12_begins_15 (lv_at hl 0 rfl) ?_
    refine lv_iconst (v := 1) X.1 X.2.1 dX12_begins_17 (by decide) ?_
    refine lv_isub X.1 X.2.1 dX12_begins_18 ?_
    refine lv_topi (fun v_15 ev_15 => ?_)
    have z_16 : v_15.toInt = (v_5.toInt + a2_z) - 1 := z_sub ev_15 z_9 ti_1 (by omega) (by omega)
    refine lv_aload_n X.1 X.2.1 dX12_begins_19 rfl (lv_at hl 1 rfl) ?_
    obtain ⟨q_17, h_18, h_19, h_20⟩ := gQ_12_1236 hG ha_x
    refine r_getR (g := 1236) X hw ha_x rfl 36 h_18 (by decide) rfl inn_X12_begins_12 (by decide) (X.2.2.2.1 (.fieldLink RX12 94 "SilkMillModel" "drawn" "[I") (by decide +kernel)) rfl (gv_1236 _ _) dX12_begins_20 ?_
    refine lv_bipush (v := 12) X.1 X.2.1 dX12_begins_23 (by decide) ?_
    refine lv_iload X.1 X.2.1 dX12_begins_25 (lv_at hl 0 rfl) ?_
    refine lv_imul X.1 X.2.1 dX12_begins_27 ?_
    refine lv_topi (fun v_21 ev_21 => ?_)
    have z_22 : v_21.toInt = 12 * (v_5.toInt + a2_z) := z_mul ev_21 ti_12 z_9 (by omega) (by omega)
    refine lv_iload_n X.1 X.2.1 dX12_begins_28 rfl (lv_at hl 4 rfl) ?_
    refine lv_iadd X.1 X.2.1 dX12_begins_29 ?_
    refine lv_topi (fun v_23 ev_23 => ?_)
    have z_24 : v_23.toInt = (12 * (v_5.toInt + a2_z)) + a3_z := z_add ev_23 z_22 hz_a3 (by omega) (by omega)
    refine r_iald X hw h_19 rfl (by rw [h_20]; exact z_ix z_24 (by omega) (by omega)) dX12_begins_30 ?_
    refine lv_topi (fun v_25 ev_25 => ?_)
    have z_26 := gE_934 hG h_19 (Int32.toNatClampNeg (v_23)); rw [← ev_25] at z_26
    have ev_25 := ev_25.symm
    refine lv_sipush (v := 1000) X.1 X.2.1 dX12_begins_31 (by decide) ?_
    refine lv_idiv X.1 X.2.1 dX12_begins_34 (by decide) ?_
    refine lv_topi (fun v_27 ev_27 => ?_)
    have z_28 : v_27.toInt = v_25.toInt / 1000 := z_div ev_27 rfl ti_1000 (by omega) (by omega)
    refine k_i (rm := { frames := 1, cells := 0, slots := 0, locals := 48 }) (av := [.ref x, .int (v_15), .int (v_27)]) X hw (va_runV (As := [.int (v_15), .int (v_27)]) (rest := []) (cfix X) (k_X12_endOf l G cy κ S _ x (v_15) (((v_5.toInt + a2_z) - 1)) (v_27) ((v_25.toInt / 1000)) hG ha_x z_16 z_28 (by first | assumption | omega) (by first | assumption | omega)) (cwV 2 X.2.2.2.1 gX12_begins_X12_endOf rfl rfl rfl (by decide +kernel) ⟨Nat.le_of_ble_eq_true rfl, Nat.le_of_ble_eq_true rfl⟩) (pre_V X hw _ ha_x rfl (by decide) rfl) rfl rfl hl.1 rfl (lv_room (Nat.le_of_ble_eq_true rfl)) dX12_begins_35 ⟨Nat.le_of_ble_eq_true rfl, Nat.le_of_ble_eq_true rfl⟩) 0 0 (Nat.le_of_ble_eq_true rfl) (Nat.le_of_ble_eq_true rfl) (fun rr_29 S_30 H locs hp hw hfr hnw => ?_)
    obtain ⟨e2, hp⟩ := hp
    subst e2
    have rg_31 := And.intro (z_lo rr_29) (z_hi rr_29)
    refine lv_iconst (v := (-1)) X.1 X.2.1 dX12_begins_38 (by decide) ?_
    refine lv_icmp_ne (tgt := 46) X.1 X.2.1 dX12_begins_39 (by decide) (fun c_32 => ?_) (fun c_32 => ?_)
    · have z_b_33 := trivial
      have k_34 : rr_29.toInt ≠ (-1) := z_ne rfl ti_m1 c_32
      refine lv_iconst (v := 0) X.1 X.2.1 dX12_begins_46 (by decide) ?_
      exact ret_z X hw hr hlocks (Nat.le_of_ble_eq_true rfl) (Nat.le_of_ble_eq_true rfl) (by decide) ⟨rfl, Or.inr ⟨trivial, rfl⟩⟩ dX12_begins_47
    · have z_b_35 := trivial
      have k_36 : rr_29.toInt = (-1) := z_eq rfl ti_m1 c_32
      refine lv_iconst (v := 1) X.1 X.2.1 dX12_begins_42 (by decide) ?_
      refine lv_goto (tgt := 47) X.1 X.2.1 dX12_begins_43 (by decide) ?_
      exact ret_z X hw hr hlocks (Nat.le_of_ble_eq_true rfl) (Nat.le_of_ble_eq_true rfl) (by decide) ⟨rfl, Or.inl ⟨trivial, rfl⟩⟩ dX12_begins_47
set_option maxHeartbeats 4000000 in
set_option maxRecDepth 100000 in
theorem k_X12_pieces (l : Launch) (G : va_G) (cy : Nat → ClassId) (κ : Nat → Nat) (S : PS) (sz : Nat) (x : Nat) (a1 : Int32) (a1_z : Int) (hG : GX S) (ha_x : At S x 12) (hz_a1 : a1.toInt = a1_z) (hp_0 : 0 ≤ a1_z) (hp_1 : a1_z ≤ 39) (hp_2 : a1_z < (pI S 1238 x).toInt) (hp_3 : MI S x) : Ci l yX12_pieces wsX12_pieces ({ frames := 3, cells := 0, slots := 0, locals := 144 }) G cy κ S sz [.ref x, .int (a1)] (fun (r : Int32) (S9 : PS) => S = S9 ∧ (True)) := by
  refine ent_m (cc := cX12_pieces) (maxL := 5) (ret := (some .int)) (by decide) rfl (Nat.le_of_ble_eq_true rfl) ?_
  intro p e s m below meth c ls X hr hlocks hin hw hl hsz
  subst hsz
  have X : Cx p c cX12_pieces 5 s [.ref x, .int (a1)].toArray wsX12_pieces RX12 m G cy κ (AS S s.heap.size) := X
  have hl : lv_has ls 5 [(0, .ref x), (1, .int (a1))] := hl
  have rg_a1 : (-2147483648) ≤ a1_z ∧ a1_z ≤ 2147483647 := by rw [← hz_a1]; exact ⟨z_lo _, z_hi _⟩
  generalize hQQ : MQ below _ _ _ _ _ _ = QQ
  replace hQQ := hQQ.symm
  have h7 := MI_7 hp_3 (k := a1_z) (by omega) (by omega)
  refine lv_iconst (v := 0) X.1 X.2.1 dX12_pieces_0 (by decide) ?_
  refine lv_istore_n (lv' := [(2, .int 0), (0, .ref x), (1, .int (a1))]) X.1 X.2.1 dX12_pieces_1 rfl hl (by decide) rfl (fun ls hl => ?_)
  refine lv_iconst (v := 0) X.1 X.2.1 dX12_pieces_2 (by decide) ?_
  refine lv_istore_n (lv' := [(3, .int 0), (2, .int 0), (0, .ref x), (1, .int (a1))]) X.1 X.2.1 dX12_pieces_3 rfl hl (by decide) rfl (fun ls hl => ?_)
  have L_1 : ∀ (n : Nat) (H : Heap) (locs : List Loc) (ls : Array Slot) (i2_2 : Int32) (i2_2_z : Int) (i3_3 : Int32) (i3_3_z : Int), ((300 - i3_3_z).toNat = n) → (Wd G cy (AS S s.heap.size) s.heap S H locs) → (i2_2.toInt = i2_2_z) → (i3_3.toInt = i3_3_z) → (0 ≤ i3_3_z ∧ i3_3_z ≤ 300) → (lv_has ls 5 [(2, .int (i2_2)), (3, .int (i3_3)), (0, .ref x), (1, .int (a1))]) → W p l e ({ frames := 3, cells := 0, slots := 0, locals := 144 }) s m [.ref x, .int (a1)].toArray below meth c H locs 0 0 QQ (F0 m 4 ls []) := by
    intro n
    induction n using Nat.strongRecOn with
    | ind n ih_L_1 =>
    intro H locs ls i2_2 i2_2_z i3_3 i3_3_z hn hw hz_i2_2 hz_i3_3 hr_i3_3 hl
    have rg_4 : (-2147483648) ≤ i2_2_z ∧ i2_2_z ≤ 2147483647 := by rw [← hz_i2_2]; exact ⟨z_lo _, z_hi _⟩
    have rg_5 : (-2147483648) ≤ i3_3_z ∧ i3_3_z ≤ 2147483647 := by rw [← hz_i3_3]; exact ⟨z_lo _, z_hi _⟩
    refine lv_iload_n X.1 X.2.1 dX12_pieces_4 rfl (lv_at hl 1 rfl) ?_
    refine lv_aload_n X.1 X.2.1 dX12_pieces_5 rfl (lv_at hl 2 rfl) ?_
    refine lv_iload_n X.1 X.2.1 dX12_pieces_6 rfl (lv_at hl 3 rfl) ?_
    refine k_i (rm := { frames := 1, cells := 0, slots := 0, locals := 48 }) (av := [.ref x, .int (a1)]) X hw (va_runV (As := [.int (a1)]) (rest := [.int (i3_3)]) (cfix X) (k_X12_metres l G cy κ S _ x (a1) (a1_z) hG ha_x hz_a1 (by first | assumption | omega) (by first | assumption | omega) (by first | assumption | omega) hp_3) (cwV 1 X.2.2.2.1 gX12_pieces_X12_metres rfl rfl rfl (by decide +kernel) ⟨Nat.le_of_ble_eq_true rfl, Nat.le_of_ble_eq_true rfl⟩) (pre_V X hw _ ha_x rfl (by decide) rfl) rfl rfl hl.1 rfl (lv_room (Nat.le_of_ble_eq_true rfl)) dX12_pieces_7 ⟨Nat.le_of_ble_eq_true rfl, Nat.le_of_ble_eq_true rfl⟩) 0 0 (Nat.le_of_ble_eq_true rfl) (Nat.le_of_ble_eq_true rfl) (fun rr_6 S_7 H locs hp hw hfr hnw => ?_)
    obtain ⟨e2, hp⟩ := hp
    subst e2
    obtain ⟨f_8, f_9, f_10⟩ := hp
    refine lv_icmp_ge (tgt := 65) X.1 X.2.1 dX12_pieces_10 (by decide) (fun c_11 => ?_) (fun c_11 => ?_)
    · have z_b_12 := trivial
      have k_13 : i3_3_z ≥ rr_6.toInt := z_le rfl hz_i3_3 c_11
      refine lv_iload_n X.1 X.2.1 dX12_pieces_65 rfl (lv_at hl 0 rfl) ?_
      rw [hQQ]
      exact ret_i X hw hr hlocks (Nat.le_of_ble_eq_true rfl) (Nat.le_of_ble_eq_true rfl) ⟨rfl, trivial⟩ dX12_pieces_66
    · have z_b_14 := trivial
      have k_15 : i3_3_z < rr_6.toInt := z_nle rfl hz_i3_3 c_11
      refine lv_iconst (v := 0) X.1 X.2.1 dX12_pieces_13 (by decide) ?_
      refine lv_istore (lv' := [(4, .int 0), (2, .int (i2_2)), (3, .int (i3_3)), (0, .ref x), (1, .int (a1))]) X.1 X.2.1 dX12_pieces_14 hl (by decide) rfl (fun ls hl => ?_)
      have L_16 : ∀ (n : Nat) (H : Heap) (locs : List Loc) (ls : Array Slot) (i2_17 : Int32) (i2_17_z : Int) (i4_18 : Int32) (i4_18_z : Int), ((12 - i4_18_z).toNat = n) → (Wd G cy (AS S s.heap.size) s.heap S H locs) → (i2_17.toInt = i2_17_z) → (i4_18.toInt = i4_18_z) → (0 ≤ i4_18_z ∧ i4_18_z ≤ 12) → (lv_has ls 5 [(2, .int (i2_17)), (4, .int (i4_18)), (3, .int (i3_3)), (0, .ref x), (1, .int (a1))]) → W p l e ({ frames := 3, cells := 0, slots := 0, locals := 144 }) s m [.ref x, .int (a1)].toArray below meth c H locs 0 0 QQ (F0 m 16 ls []) := by
        intro n
        induction n using Nat.strongRecOn with
        | ind n ih_L_16 =>
        intro H locs ls i2_17 i2_17_z i4_18 i4_18_z hn hw hz_i2_17 hz_i4_18 hr_i4_18 hl
        have rg_19 : (-2147483648) ≤ i2_17_z ∧ i2_17_z ≤ 2147483647 := by rw [← hz_i2_17]; exact ⟨z_lo _, z_hi _⟩
        have rg_20 : (-2147483648) ≤ i4_18_z ∧ i4_18_z ≤ 2147483647 := by rw [← hz_i4_18]; exact ⟨z_lo _, z_hi _⟩
        refine lv_iload X.1 X.2.1 dX12_pieces_16 (lv_at hl 1 rfl) ?_
        refine lv_aload_n X.1 X.2.1 dX12_pieces_18 rfl (lv_at hl 3 rfl) ?_
        obtain ⟨q_21, h_22, h_23, h_24⟩ := gQ_12_1235 hG ha_x
        refine r_getR (g := 1235) X hw ha_x rfl 35 h_22 (by decide) rfl inn_X12_pieces_12 (by decide) (X.2.2.2.1 (.fieldLink RX12 90 "SilkMillModel" "metreEnds" "[I") (by decide +kernel)) rfl (gv_1235 _ _) dX12_pieces_19 ?_
        refine lv_aload_n X.1 X.2.1 dX12_pieces_22 rfl (lv_at hl 3 rfl) ?_
        obtain ⟨q_25, h_26, h_27, h_28⟩ := gQ_12_1239 hG ha_x
        refine r_getR (g := 1239) X hw ha_x rfl 39 h_26 (by decide) rfl inn_X12_pieces_12 (by decide) (X.2.2.2.1 (.fieldLink RX12 100 "SilkMillModel" "firstMetre" "[I") (by decide +kernel)) rfl (gv_1239 _ _) dX12_pieces_23 ?_
        refine lv_iload_n X.1 X.2.1 dX12_pieces_26 rfl (lv_at hl 4 rfl) ?_
        refine r_iald X hw h_27 rfl (by rw [h_28]; exact z_ix hz_a1 (by omega) (by omega)) dX12_pieces_27 ?_
        refine lv_topi (fun v_29 ev_29 => ?_)
        have z_30 := gE_994 hG h_27 (Int32.toNatClampNeg (a1)); rw [← ev_29] at z_30
        have ev_29 := ev_29.symm
        have zf_31 : zA S x 1239 (a1_z).toNat = v_29.toInt := (zA_of h_26 hz_a1 (by omega) ev_29)
        refine lv_iload_n X.1 X.2.1 dX12_pieces_28 rfl (lv_at hl 2 rfl) ?_
        refine lv_iadd X.1 X.2.1 dX12_pieces_29 ?_
        refine lv_topi (fun v_32 ev_32 => ?_)
        have z_33 : v_32.toInt = v_29.toInt + i3_3_z := z_add ev_32 rfl hz_i3_3 (by omega) (by omega)
        refine r_iald X hw h_23 rfl (by rw [h_24]; exact z_ix z_33 (by omega) (by omega)) dX12_pieces_30 ?_
        refine lv_topi (fun v_34 ev_34 => ?_)
        have z_35 := gE_914 hG h_23 (Int32.toNatClampNeg (v_32)); rw [← ev_34] at z_35
        have ev_34 := ev_34.symm
        refine lv_icmp_ge (tgt := 59) X.1 X.2.1 dX12_pieces_31 (by decide) (fun c_36 => ?_) (fun c_36 => ?_)
        · have z_b_37 := trivial
          have k_38 : i4_18_z ≥ v_34.toInt := z_le rfl hz_i4_18 c_36
          obtain ⟨x_39, ex_39⟩ : ∃ y : Int32, y = i3_3 + 1 := ⟨_, rfl⟩
          have z_40 : x_39.toInt = i3_3_z + 1 := z_add ex_39 hz_i3_3 ti_1 (by omega) (by omega)
          refine lv_iinc (v := x_39) (lv' := [(3, .int (x_39)), (2, .int (i2_17)), (4, .int (i4_18)), (0, .ref x), (1, .int (a1))]) X.1 X.2.1 dX12_pieces_59 hl (k := 2) rfl (by rw [ex_39]; rfl) (by decide) rfl (fun ls hl => ?_)
          refine lv_goto (tgt := 4) X.1 X.2.1 dX12_pieces_62 (by decide) ?_
          exact ih_L_1 _ (by omega) _ _ _ (i2_17) (i2_17_z) (x_39) (x_39.toInt) rfl hw hz_i2_17 rfl (by omega) (lv_sub hl [1, 0, 3, 4] rfl)
        · have z_b_41 := trivial
          have k_42 : i4_18_z < v_34.toInt := z_nle rfl hz_i4_18 c_36
          refine lv_iload_n X.1 X.2.1 dX12_pieces_34 rfl (lv_at hl 0 rfl) ?_
          refine lv_aload_n X.1 X.2.1 dX12_pieces_35 rfl (lv_at hl 3 rfl) ?_
          refine lv_iload_n X.1 X.2.1 dX12_pieces_36 rfl (lv_at hl 4 rfl) ?_
          refine lv_iload_n X.1 X.2.1 dX12_pieces_37 rfl (lv_at hl 2 rfl) ?_
          refine lv_iload X.1 X.2.1 dX12_pieces_38 (lv_at hl 1 rfl) ?_
          refine k_i (rm := { frames := 2, cells := 0, slots := 0, locals := 96 }) (av := [.ref x, .int (a1), .int (i3_3), .int (i4_18)]) X hw (va_runV (As := [.int (a1), .int (i3_3), .int (i4_18)]) (rest := [.int (i2_17)]) (cfix X) (k_X12_begins l G cy κ S _ x (a1) (a1_z) (i3_3) (i3_3_z) (i4_18) (i4_18_z) hG ha_x hz_a1 hz_i3_3 hz_i4_18 (by first | assumption | omega) (by first | assumption | omega) (by first | assumption | omega) hp_3 (by first | assumption | omega) (by first | assumption | omega) (by first | assumption | omega) (by first | assumption | omega)) (cwV 3 X.2.2.2.1 gX12_pieces_X12_begins rfl rfl rfl (by decide +kernel) ⟨Nat.le_of_ble_eq_true rfl, Nat.le_of_ble_eq_true rfl⟩) (pre_V X hw _ ha_x rfl (by decide) rfl) rfl rfl hl.1 rfl (lv_room (Nat.le_of_ble_eq_true rfl)) dX12_pieces_40 ⟨Nat.le_of_ble_eq_true rfl, Nat.le_of_ble_eq_true rfl⟩) 0 0 (Nat.le_of_ble_eq_true rfl) (Nat.le_of_ble_eq_true rfl) (fun rr_43 S_44 H locs hp hw hfr hnw => ?_)
          obtain ⟨e2, hp⟩ := hp
          subst e2
          rcases hp with ⟨f_45, er_46⟩ | ⟨f_45, er_46⟩ <;> subst er_46
          · have z_b_47 := trivial
            refine lv_if_eq (tgt := 50) X.1 X.2.1 dX12_pieces_43 (by decide) (fun c_48 => absurd c_48 (by decide)) (fun c_48 => ?_)
            refine lv_iconst (v := 1) X.1 X.2.1 dX12_pieces_46 (by decide) ?_
            refine lv_goto (tgt := 51) X.1 X.2.1 dX12_pieces_47 (by decide) ?_
            refine lv_iadd X.1 X.2.1 dX12_pieces_51 ?_
            refine lv_topi (fun v_49 ev_49 => ?_)
            have rg_50 := And.intro (z_lo v_49) (z_hi v_49)
            refine lv_istore_n (lv' := [(2, .int (v_49)), (4, .int (i4_18)), (3, .int (i3_3)), (0, .ref x), (1, .int (a1))]) X.1 X.2.1 dX12_pieces_52 rfl hl (by decide) rfl (fun ls hl => ?_)
            obtain ⟨x_51, ex_51⟩ : ∃ y : Int32, y = i4_18 + 1 := ⟨_, rfl⟩
            have z_52 : x_51.toInt = i4_18_z + 1 := z_add ex_51 hz_i4_18 ti_1 (by omega) (by omega)
            refine lv_iinc (v := x_51) (lv' := [(4, .int (x_51)), (2, .int (v_49)), (3, .int (i3_3)), (0, .ref x), (1, .int (a1))]) X.1 X.2.1 dX12_pieces_53 hl (k := 1) rfl (by rw [ex_51]; rfl) (by decide) rfl (fun ls hl => ?_)
            refine lv_goto (tgt := 16) X.1 X.2.1 dX12_pieces_56 (by decide) ?_
            exact ih_L_16 _ (by omega) _ _ _ (v_49) (v_49.toInt) (x_51) (x_51.toInt) rfl hw rfl rfl (by omega) (lv_sub hl [1, 0, 2, 3, 4] rfl)
          · have z_b_53 := trivial
            refine lv_if_eq (tgt := 50) X.1 X.2.1 dX12_pieces_43 (by decide) (fun c_54 => ?_) (fun c_54 => absurd c_54 (by decide))
            refine lv_iconst (v := 0) X.1 X.2.1 dX12_pieces_50 (by decide) ?_
            refine lv_iadd X.1 X.2.1 dX12_pieces_51 ?_
            refine lv_topi (fun v_55 ev_55 => ?_)
            have z_56 : v_55.toInt = i2_17_z + 0 := z_add ev_55 hz_i2_17 ti_0 (by omega) (by omega)
            refine lv_istore_n (lv' := [(2, .int (v_55)), (4, .int (i4_18)), (3, .int (i3_3)), (0, .ref x), (1, .int (a1))]) X.1 X.2.1 dX12_pieces_52 rfl hl (by decide) rfl (fun ls hl => ?_)
            obtain ⟨x_57, ex_57⟩ : ∃ y : Int32, y = i4_18 + 1 := ⟨_, rfl⟩
            have z_58 : x_57.toInt = i4_18_z + 1 := z_add ex_57 hz_i4_18 ti_1 (by omega) (by omega)
            refine lv_iinc (v := x_57) (lv' := [(4, .int (x_57)), (2, .int (v_55)), (3, .int (i3_3)), (0, .ref x), (1, .int (a1))]) X.1 X.2.1 dX12_pieces_53 hl (k := 1) rfl (by rw [ex_57]; rfl) (by decide) rfl (fun ls hl => ?_)
            refine lv_goto (tgt := 16) X.1 X.2.1 dX12_pieces_56 (by decide) ?_
            exact ih_L_16 _ (by omega) _ _ _ (v_55) ((i2_17_z + 0)) (x_57) (x_57.toInt) rfl hw z_56 rfl (by omega) (lv_sub hl [1, 0, 2, 3, 4] rfl)
      exact L_16 _ _ _ _ (i2_2) (i2_2_z) (0) (0) rfl hw hz_i2_2 ti_0 (by omega) (lv_sub hl [1, 0, 2, 3, 4] rfl)
  exact L_1 _ _ _ _ (0) (0) (0) (0) rfl hw ti_0 ti_0 (by omega) (lv_sub hl [1, 0, 2, 3] rfl)
set_option maxHeartbeats 4000000 in
set_option maxRecDepth 100000 in
theorem k_X12_told (l : Launch) (G : va_G) (cy : Nat → ClassId) (κ : Nat → Nat) (S : PS) (sz : Nat) (x : Nat) (a1 : Int32) (a1_z : Int) (a2 : Int32) (a2_z : Int) (a3 : Int32) (a3_z : Int) (a4 : Int32) (a4_z : Int) (hG : GX S) (ha_x : At S x 12) (hz_a1 : a1.toInt = a1_z) (hz_a2 : a2.toInt = a2_z) (hz_a3 : a3.toInt = a3_z) (hz_a4 : a4.toInt = a4_z) (hp_0 : 0 ≤ a1_z) (hp_1 : a1_z ≤ 39) (hp_2 : a1_z < (pI S 1238 x).toInt) (hp_3 : MI S x) (hp_4 : 0 ≤ a2_z) (hp_5 : a2_z ≤ 299) (hp_6 : 0 ≤ a3_z) (hp_7 : a3_z ≤ 599999) : Ci l yX12_told wsX12_told ({ frames := 2, cells := 0, slots := 0, locals := 96 }) G cy κ S sz [.ref x, .int (a1), .int (a2), .int (a3), .int (a4)] (fun (r : Int32) (S9 : PS) => S = S9 ∧ (True)) := by
  refine ent_m (cc := cX12_told) (maxL := 7) (ret := (some .int)) (by decide) rfl (Nat.le_of_ble_eq_true rfl) ?_
  intro p e s m below meth c ls X hr hlocks hin hw hl hsz
  subst hsz
  have X : Cx p c cX12_told 7 s [.ref x, .int (a1), .int (a2), .int (a3), .int (a4)].toArray wsX12_told RX12 m G cy κ (AS S s.heap.size) := X
  have hl : lv_has ls 7 [(0, .ref x), (1, .int (a1)), (2, .int (a2)), (3, .int (a3)), (4, .int (a4))] := hl
  have rg_a1 : (-2147483648) ≤ a1_z ∧ a1_z ≤ 2147483647 := by rw [← hz_a1]; exact ⟨z_lo _, z_hi _⟩
  have rg_a2 : (-2147483648) ≤ a2_z ∧ a2_z ≤ 2147483647 := by rw [← hz_a2]; exact ⟨z_lo _, z_hi _⟩
  have rg_a3 : (-2147483648) ≤ a3_z ∧ a3_z ≤ 2147483647 := by rw [← hz_a3]; exact ⟨z_lo _, z_hi _⟩
  have rg_a4 : (-2147483648) ≤ a4_z ∧ a4_z ≤ 2147483647 := by rw [← hz_a4]; exact ⟨z_lo _, z_hi _⟩
  generalize hQQ : MQ below _ _ _ _ _ _ = QQ
  replace hQQ := hQQ.symm
  have h7 := MI_7 hp_3 (k := a1_z) (by omega) (by omega)
  refine lv_iload_n X.1 X.2.1 dX12_told_0 rfl (lv_at hl 3 rfl) ?_
  refine lv_sipush (v := 1000) X.1 X.2.1 dX12_told_1 (by decide) ?_
  refine lv_idiv X.1 X.2.1 dX12_told_4 (by decide) ?_
  refine lv_topi (fun v_1 ev_1 => ?_)
  have z_2 : v_1.toInt = a3_z / 1000 := z_div ev_1 hz_a3 ti_1000 (by omega) (by omega)
  refine lv_istore (lv' := [(5, .int (v_1)), (0, .ref x), (1, .int (a1)), (2, .int (a2)), (3, .int (a3)), (4, .int (a4))]) X.1 X.2.1 dX12_told_5 hl (by decide) rfl (fun ls hl => ?_)
  refine lv_iload X.1 X.2.1 dX12_told_7 (lv_at hl 5 rfl) ?_
  by_cases w_3 : (a4).toInt < 0 ∨ 4 < (a4).toInt
  · refine lv_tableOut (tgt := 64) X.1 X.2.1 dX12_told_9 w_3 (by decide) ?_
    refine lv_iconst (v := 1) X.1 X.2.1 dX12_told_64 (by decide) ?_
    refine lv_istore (lv' := [(6, .int 1), (5, .int (v_1)), (0, .ref x), (1, .int (a1)), (2, .int (a2)), (3, .int (a3)), (4, .int (a4))]) X.1 X.2.1 dX12_told_65 hl (by decide) rfl (fun ls hl => ?_)
    have L_4 : ∀ (n : Nat) (H : Heap) (locs : List Loc) (ls : Array Slot) (i6_5 : Int32) (i6_5_z : Int), ((300 - i6_5_z).toNat = n) → (Wd G cy (AS S s.heap.size) s.heap S H locs) → (i6_5.toInt = i6_5_z) → (1 ≤ i6_5_z ∧ i6_5_z ≤ 300) → (lv_has ls 7 [(6, .int (i6_5)), (5, .int (v_1)), (0, .ref x), (1, .int (a1)), (2, .int (a2)), (3, .int (a3)), (4, .int (a4))]) → W p l e ({ frames := 2, cells := 0, slots := 0, locals := 96 }) s m [.ref x, .int (a1), .int (a2), .int (a3), .int (a4)].toArray below meth c H locs 0 0 QQ (F0 m 67 ls []) := by
      intro n
      induction n using Nat.strongRecOn with
      | ind n ih_L_4 =>
      intro H locs ls i6_5 i6_5_z hn hw hz_i6_5 hr_i6_5 hl
      have rg_6 : (-2147483648) ≤ i6_5_z ∧ i6_5_z ≤ 2147483647 := by rw [← hz_i6_5]; exact ⟨z_lo _, z_hi _⟩
      refine lv_iload_n X.1 X.2.1 dX12_told_67 rfl (lv_at hl 4 rfl) ?_
      refine lv_iload X.1 X.2.1 dX12_told_68 (lv_at hl 0 rfl) ?_
      refine lv_iadd X.1 X.2.1 dX12_told_70 ?_
      refine lv_topi (fun v_7 ev_7 => ?_)
      have z_8 : v_7.toInt = a2_z + i6_5_z := z_add ev_7 hz_a2 hz_i6_5 (by omega) (by omega)
      refine lv_aload_n X.1 X.2.1 dX12_told_71 rfl (lv_at hl 2 rfl) ?_
      refine lv_iload_n X.1 X.2.1 dX12_told_72 rfl (lv_at hl 3 rfl) ?_
      refine k_i (rm := { frames := 1, cells := 0, slots := 0, locals := 48 }) (av := [.ref x, .int (a1)]) X hw (va_runV (As := [.int (a1)]) (rest := [.int (v_7)]) (cfix X) (k_X12_metres l G cy κ S _ x (a1) (a1_z) hG ha_x hz_a1 (by first | assumption | omega) (by first | assumption | omega) (by first | assumption | omega) hp_3) (cwV 1 X.2.2.2.1 gX12_told_X12_metres rfl rfl rfl (by decide +kernel) ⟨Nat.le_of_ble_eq_true rfl, Nat.le_of_ble_eq_true rfl⟩) (pre_V X hw _ ha_x rfl (by decide) rfl) rfl rfl hl.1 rfl (lv_room (Nat.le_of_ble_eq_true rfl)) dX12_told_73 ⟨Nat.le_of_ble_eq_true rfl, Nat.le_of_ble_eq_true rfl⟩) 0 0 (Nat.le_of_ble_eq_true rfl) (Nat.le_of_ble_eq_true rfl) (fun rr_9 S_10 H locs hp hw hfr hnw => ?_)
      obtain ⟨e2, hp⟩ := hp
      subst e2
      obtain ⟨f_11, f_12, f_13⟩ := hp
      refine lv_icmp_ge (tgt := 106) X.1 X.2.1 dX12_told_76 (by decide) (fun c_14 => ?_) (fun c_14 => ?_)
      · have z_b_15 := trivial
        have k_16 : (a2_z + i6_5_z) ≥ rr_9.toInt := z_le rfl z_8 c_14
        refine lv_iload X.1 X.2.1 dX12_told_106 (lv_at hl 0 rfl) ?_
        rw [hQQ]
        exact ret_i X hw hr hlocks (Nat.le_of_ble_eq_true rfl) (Nat.le_of_ble_eq_true rfl) ⟨rfl, trivial⟩ dX12_told_108
      · have z_b_17 := trivial
        have k_18 : (a2_z + i6_5_z) < rr_9.toInt := z_nle rfl z_8 c_14
        refine lv_aload_n X.1 X.2.1 dX12_told_79 rfl (lv_at hl 2 rfl) ?_
        refine lv_aload_n X.1 X.2.1 dX12_told_80 rfl (lv_at hl 2 rfl) ?_
        obtain ⟨q_19, h_20, h_21, h_22⟩ := gQ_12_1239 hG ha_x
        refine r_getR (g := 1239) X hw ha_x rfl 39 h_20 (by decide) rfl inn_X12_told_12 (by decide) (X.2.2.2.1 (.fieldLink RX12 100 "SilkMillModel" "firstMetre" "[I") (by decide +kernel)) rfl (gv_1239 _ _) dX12_told_81 ?_
        refine lv_iload_n X.1 X.2.1 dX12_told_84 rfl (lv_at hl 3 rfl) ?_
        refine r_iald X hw h_21 rfl (by rw [h_22]; exact z_ix hz_a1 (by omega) (by omega)) dX12_told_85 ?_
        refine lv_topi (fun v_23 ev_23 => ?_)
        have z_24 := gE_994 hG h_21 (Int32.toNatClampNeg (a1)); rw [← ev_23] at z_24
        have ev_23 := ev_23.symm
        have zf_25 : zA S x 1239 (a1_z).toNat = v_23.toInt := (zA_of h_20 hz_a1 (by omega) ev_23)
        refine lv_iload_n X.1 X.2.1 dX12_told_86 rfl (lv_at hl 4 rfl) ?_
        refine lv_iadd X.1 X.2.1 dX12_told_87 ?_
        refine lv_topi (fun v_26 ev_26 => ?_)
        have z_27 : v_26.toInt = v_23.toInt + a2_z := z_add ev_26 rfl hz_a2 (by omega) (by omega)
        refine lv_iload X.1 X.2.1 dX12_told_88 (lv_at hl 0 rfl) ?_
        refine lv_iadd X.1 X.2.1 dX12_told_90 ?_
        refine lv_topi (fun v_28 ev_28 => ?_)
        have z_29 : v_28.toInt = (v_23.toInt + a2_z) + i6_5_z := z_add ev_28 z_27 hz_i6_5 (by omega) (by omega)
        refine lv_iload X.1 X.2.1 dX12_told_91 (lv_at hl 1 rfl) ?_
        refine k_i (rm := { frames := 1, cells := 0, slots := 0, locals := 48 }) (av := [.ref x, .int (v_28), .int (v_1)]) X hw (va_runV (As := [.int (v_28), .int (v_1)]) (rest := []) (cfix X) (k_X12_endOf l G cy κ S _ x (v_28) (((v_23.toInt + a2_z) + i6_5_z)) (v_1) ((a3_z / 1000)) hG ha_x z_29 z_2 (by first | assumption | omega) (by first | assumption | omega)) (cwV 2 X.2.2.2.1 gX12_told_X12_endOf rfl rfl rfl (by decide +kernel) ⟨Nat.le_of_ble_eq_true rfl, Nat.le_of_ble_eq_true rfl⟩) (pre_V X hw _ ha_x rfl (by decide) rfl) rfl rfl hl.1 rfl (lv_room (Nat.le_of_ble_eq_true rfl)) dX12_told_93 ⟨Nat.le_of_ble_eq_true rfl, Nat.le_of_ble_eq_true rfl⟩) 0 0 (Nat.le_of_ble_eq_true rfl) (Nat.le_of_ble_eq_true rfl) (fun rr_30 S_31 H locs hp hw hfr hnw => ?_)
        obtain ⟨e2, hp⟩ := hp
        subst e2
        have rg_32 := And.intro (z_lo rr_30) (z_hi rr_30)
        refine lv_iconst (v := (-1)) X.1 X.2.1 dX12_told_96 (by decide) ?_
        refine lv_icmp_eq (tgt := 106) X.1 X.2.1 dX12_told_97 (by decide) (fun c_33 => ?_) (fun c_33 => ?_)
        · have z_b_34 := trivial
          have k_35 : rr_30.toInt = (-1) := z_eq rfl ti_m1 c_33
          refine lv_iload X.1 X.2.1 dX12_told_106 (lv_at hl 0 rfl) ?_
          rw [hQQ]
          exact ret_i X hw hr hlocks (Nat.le_of_ble_eq_true rfl) (Nat.le_of_ble_eq_true rfl) ⟨rfl, trivial⟩ dX12_told_108
        · have z_b_36 := trivial
          have k_37 : rr_30.toInt ≠ (-1) := z_ne rfl ti_m1 c_33
          obtain ⟨x_38, ex_38⟩ : ∃ y : Int32, y = i6_5 + 1 := ⟨_, rfl⟩
          have z_39 : x_38.toInt = i6_5_z + 1 := z_add ex_38 hz_i6_5 ti_1 (by omega) (by omega)
          refine lv_iinc (v := x_38) (lv' := [(6, .int (x_38)), (5, .int (v_1)), (0, .ref x), (1, .int (a1)), (2, .int (a2)), (3, .int (a3)), (4, .int (a4))]) X.1 X.2.1 dX12_told_100 hl (k := 0) rfl (by rw [ex_38]; rfl) (by decide) rfl (fun ls hl => ?_)
          refine lv_goto (tgt := 67) X.1 X.2.1 dX12_told_103 (by decide) ?_
          exact ih_L_4 _ (by omega) _ _ _ (x_38) (x_38.toInt) rfl hw rfl (by omega) (lv_sub hl [0, 1, 2, 3, 4, 5, 6] rfl)
    exact L_4 _ _ _ _ (1) (1) rfl hw ti_1 (by omega) (lv_sub hl [0, 1, 2, 3, 4, 5, 6] rfl)
  have w_3b : (a4).toInt = 0 ∨ (a4).toInt = 1 ∨ (a4).toInt = 2 ∨ (a4).toInt = 3 ∨ (a4).toInt = 4 := by omega
  rcases w_3b with w_3c | w_3c | w_3c | w_3c | w_3c
  · refine lv_tableIn (tgt := 44) X.1 X.2.1 dX12_told_9 (by omega) (by omega) (by rw [w_3c]; rfl) (by decide) ?_
    refine lv_iload X.1 X.2.1 dX12_told_44 (lv_at hl 0 rfl) ?_
    refine lv_bipush (v := 60) X.1 X.2.1 dX12_told_46 (by decide) ?_
    refine lv_idiv X.1 X.2.1 dX12_told_48 (by decide) ?_
    refine lv_topi (fun v_40 ev_40 => ?_)
    have z_41 : v_40.toInt = (a3_z / 1000) / 60 := z_div ev_40 z_2 ti_60 (by omega) (by omega)
    rw [hQQ]
    exact ret_i X hw hr hlocks (Nat.le_of_ble_eq_true rfl) (Nat.le_of_ble_eq_true rfl) ⟨rfl, trivial⟩ dX12_told_49
  · refine lv_tableIn (tgt := 50) X.1 X.2.1 dX12_told_9 (by omega) (by omega) (by rw [w_3c]; rfl) (by decide) ?_
    refine lv_iload X.1 X.2.1 dX12_told_50 (lv_at hl 0 rfl) ?_
    refine lv_bipush (v := 60) X.1 X.2.1 dX12_told_52 (by decide) ?_
    refine lv_irem X.1 X.2.1 dX12_told_54 (by decide) ?_
    refine lv_topi (fun v_42 ev_42 => ?_)
    have z_43 : v_42.toInt = (a3_z / 1000) % 60 := z_rem ev_42 z_2 ti_60 (by omega) (by omega)
    have z_44 : 0 ≤ v_42.toInt ∧ v_42.toInt < 60 := by rw [z_43]; exact ⟨Int.emod_nonneg _ (by omega), Int.emod_lt_of_pos _ (by omega)⟩
    rw [hQQ]
    exact ret_i X hw hr hlocks (Nat.le_of_ble_eq_true rfl) (Nat.le_of_ble_eq_true rfl) ⟨rfl, trivial⟩ dX12_told_55
  · refine lv_tableIn (tgt := 56) X.1 X.2.1 dX12_told_9 (by omega) (by omega) (by rw [w_3c]; rfl) (by decide) ?_
    refine lv_iload_n X.1 X.2.1 dX12_told_56 rfl (lv_at hl 3 rfl) ?_
    rw [hQQ]
    exact ret_i X hw hr hlocks (Nat.le_of_ble_eq_true rfl) (Nat.le_of_ble_eq_true rfl) ⟨rfl, trivial⟩ dX12_told_57
  · refine lv_tableIn (tgt := 64) X.1 X.2.1 dX12_told_9 (by omega) (by omega) (by rw [w_3c]; rfl) (by decide) ?_
    refine lv_iconst (v := 1) X.1 X.2.1 dX12_told_64 (by decide) ?_
    refine lv_istore (lv' := [(6, .int 1), (5, .int (v_1)), (0, .ref x), (1, .int (a1)), (2, .int (a2)), (3, .int (a3)), (4, .int (a4))]) X.1 X.2.1 dX12_told_65 hl (by decide) rfl (fun ls hl => ?_)
    have L_45 : ∀ (n : Nat) (H : Heap) (locs : List Loc) (ls : Array Slot) (i6_46 : Int32) (i6_46_z : Int), ((300 - i6_46_z).toNat = n) → (Wd G cy (AS S s.heap.size) s.heap S H locs) → (i6_46.toInt = i6_46_z) → (1 ≤ i6_46_z ∧ i6_46_z ≤ 300) → (lv_has ls 7 [(6, .int (i6_46)), (5, .int (v_1)), (0, .ref x), (1, .int (a1)), (2, .int (a2)), (3, .int (a3)), (4, .int (a4))]) → W p l e ({ frames := 2, cells := 0, slots := 0, locals := 96 }) s m [.ref x, .int (a1), .int (a2), .int (a3), .int (a4)].toArray below meth c H locs 0 0 QQ (F0 m 67 ls []) := by
      intro n
      induction n using Nat.strongRecOn with
      | ind n ih_L_45 =>
      intro H locs ls i6_46 i6_46_z hn hw hz_i6_46 hr_i6_46 hl
      have rg_47 : (-2147483648) ≤ i6_46_z ∧ i6_46_z ≤ 2147483647 := by rw [← hz_i6_46]; exact ⟨z_lo _, z_hi _⟩
      refine lv_iload_n X.1 X.2.1 dX12_told_67 rfl (lv_at hl 4 rfl) ?_
      refine lv_iload X.1 X.2.1 dX12_told_68 (lv_at hl 0 rfl) ?_
      refine lv_iadd X.1 X.2.1 dX12_told_70 ?_
      refine lv_topi (fun v_48 ev_48 => ?_)
      have z_49 : v_48.toInt = a2_z + i6_46_z := z_add ev_48 hz_a2 hz_i6_46 (by omega) (by omega)
      refine lv_aload_n X.1 X.2.1 dX12_told_71 rfl (lv_at hl 2 rfl) ?_
      refine lv_iload_n X.1 X.2.1 dX12_told_72 rfl (lv_at hl 3 rfl) ?_
      refine k_i (rm := { frames := 1, cells := 0, slots := 0, locals := 48 }) (av := [.ref x, .int (a1)]) X hw (va_runV (As := [.int (a1)]) (rest := [.int (v_48)]) (cfix X) (k_X12_metres l G cy κ S _ x (a1) (a1_z) hG ha_x hz_a1 (by first | assumption | omega) (by first | assumption | omega) (by first | assumption | omega) hp_3) (cwV 1 X.2.2.2.1 gX12_told_X12_metres rfl rfl rfl (by decide +kernel) ⟨Nat.le_of_ble_eq_true rfl, Nat.le_of_ble_eq_true rfl⟩) (pre_V X hw _ ha_x rfl (by decide) rfl) rfl rfl hl.1 rfl (lv_room (Nat.le_of_ble_eq_true rfl)) dX12_told_73 ⟨Nat.le_of_ble_eq_true rfl, Nat.le_of_ble_eq_true rfl⟩) 0 0 (Nat.le_of_ble_eq_true rfl) (Nat.le_of_ble_eq_true rfl) (fun rr_50 S_51 H locs hp hw hfr hnw => ?_)
      obtain ⟨e2, hp⟩ := hp
      subst e2
      obtain ⟨f_52, f_53, f_54⟩ := hp
      refine lv_icmp_ge (tgt := 106) X.1 X.2.1 dX12_told_76 (by decide) (fun c_55 => ?_) (fun c_55 => ?_)
      · have z_b_56 := trivial
        have k_57 : (a2_z + i6_46_z) ≥ rr_50.toInt := z_le rfl z_49 c_55
        refine lv_iload X.1 X.2.1 dX12_told_106 (lv_at hl 0 rfl) ?_
        rw [hQQ]
        exact ret_i X hw hr hlocks (Nat.le_of_ble_eq_true rfl) (Nat.le_of_ble_eq_true rfl) ⟨rfl, trivial⟩ dX12_told_108
      · have z_b_58 := trivial
        have k_59 : (a2_z + i6_46_z) < rr_50.toInt := z_nle rfl z_49 c_55
        refine lv_aload_n X.1 X.2.1 dX12_told_79 rfl (lv_at hl 2 rfl) ?_
        refine lv_aload_n X.1 X.2.1 dX12_told_80 rfl (lv_at hl 2 rfl) ?_
        obtain ⟨q_60, h_61, h_62, h_63⟩ := gQ_12_1239 hG ha_x
        refine r_getR (g := 1239) X hw ha_x rfl 39 h_61 (by decide) rfl inn_X12_told_12 (by decide) (X.2.2.2.1 (.fieldLink RX12 100 "SilkMillModel" "firstMetre" "[I") (by decide +kernel)) rfl (gv_1239 _ _) dX12_told_81 ?_
        refine lv_iload_n X.1 X.2.1 dX12_told_84 rfl (lv_at hl 3 rfl) ?_
        refine r_iald X hw h_62 rfl (by rw [h_63]; exact z_ix hz_a1 (by omega) (by omega)) dX12_told_85 ?_
        refine lv_topi (fun v_64 ev_64 => ?_)
        have z_65 := gE_994 hG h_62 (Int32.toNatClampNeg (a1)); rw [← ev_64] at z_65
        have ev_64 := ev_64.symm
        have zf_66 : zA S x 1239 (a1_z).toNat = v_64.toInt := (zA_of h_61 hz_a1 (by omega) ev_64)
        refine lv_iload_n X.1 X.2.1 dX12_told_86 rfl (lv_at hl 4 rfl) ?_
        refine lv_iadd X.1 X.2.1 dX12_told_87 ?_
        refine lv_topi (fun v_67 ev_67 => ?_)
        have z_68 : v_67.toInt = v_64.toInt + a2_z := z_add ev_67 rfl hz_a2 (by omega) (by omega)
        refine lv_iload X.1 X.2.1 dX12_told_88 (lv_at hl 0 rfl) ?_
        refine lv_iadd X.1 X.2.1 dX12_told_90 ?_
        refine lv_topi (fun v_69 ev_69 => ?_)
        have z_70 : v_69.toInt = (v_64.toInt + a2_z) + i6_46_z := z_add ev_69 z_68 hz_i6_46 (by omega) (by omega)
        refine lv_iload X.1 X.2.1 dX12_told_91 (lv_at hl 1 rfl) ?_
        refine k_i (rm := { frames := 1, cells := 0, slots := 0, locals := 48 }) (av := [.ref x, .int (v_69), .int (v_1)]) X hw (va_runV (As := [.int (v_69), .int (v_1)]) (rest := []) (cfix X) (k_X12_endOf l G cy κ S _ x (v_69) (((v_64.toInt + a2_z) + i6_46_z)) (v_1) ((a3_z / 1000)) hG ha_x z_70 z_2 (by first | assumption | omega) (by first | assumption | omega)) (cwV 2 X.2.2.2.1 gX12_told_X12_endOf rfl rfl rfl (by decide +kernel) ⟨Nat.le_of_ble_eq_true rfl, Nat.le_of_ble_eq_true rfl⟩) (pre_V X hw _ ha_x rfl (by decide) rfl) rfl rfl hl.1 rfl (lv_room (Nat.le_of_ble_eq_true rfl)) dX12_told_93 ⟨Nat.le_of_ble_eq_true rfl, Nat.le_of_ble_eq_true rfl⟩) 0 0 (Nat.le_of_ble_eq_true rfl) (Nat.le_of_ble_eq_true rfl) (fun rr_71 S_72 H locs hp hw hfr hnw => ?_)
        obtain ⟨e2, hp⟩ := hp
        subst e2
        have rg_73 := And.intro (z_lo rr_71) (z_hi rr_71)
        refine lv_iconst (v := (-1)) X.1 X.2.1 dX12_told_96 (by decide) ?_
        refine lv_icmp_eq (tgt := 106) X.1 X.2.1 dX12_told_97 (by decide) (fun c_74 => ?_) (fun c_74 => ?_)
        · have z_b_75 := trivial
          have k_76 : rr_71.toInt = (-1) := z_eq rfl ti_m1 c_74
          refine lv_iload X.1 X.2.1 dX12_told_106 (lv_at hl 0 rfl) ?_
          rw [hQQ]
          exact ret_i X hw hr hlocks (Nat.le_of_ble_eq_true rfl) (Nat.le_of_ble_eq_true rfl) ⟨rfl, trivial⟩ dX12_told_108
        · have z_b_77 := trivial
          have k_78 : rr_71.toInt ≠ (-1) := z_ne rfl ti_m1 c_74
          obtain ⟨x_79, ex_79⟩ : ∃ y : Int32, y = i6_46 + 1 := ⟨_, rfl⟩
          have z_80 : x_79.toInt = i6_46_z + 1 := z_add ex_79 hz_i6_46 ti_1 (by omega) (by omega)
          refine lv_iinc (v := x_79) (lv' := [(6, .int (x_79)), (5, .int (v_1)), (0, .ref x), (1, .int (a1)), (2, .int (a2)), (3, .int (a3)), (4, .int (a4))]) X.1 X.2.1 dX12_told_100 hl (k := 0) rfl (by rw [ex_79]; rfl) (by decide) rfl (fun ls hl => ?_)
          refine lv_goto (tgt := 67) X.1 X.2.1 dX12_told_103 (by decide) ?_
          exact ih_L_45 _ (by omega) _ _ _ (x_79) (x_79.toInt) rfl hw rfl (by omega) (lv_sub hl [0, 1, 2, 3, 4, 5, 6] rfl)
    exact L_45 _ _ _ _ (1) (1) rfl hw ti_1 (by omega) (lv_sub hl [0, 1, 2, 3, 4, 5, 6] rfl)
  · refine lv_tableIn (tgt := 58) X.1 X.2.1 dX12_told_9 (by omega) (by omega) (by rw [w_3c]; rfl) (by decide) ?_
    refine lv_iload_n X.1 X.2.1 dX12_told_58 rfl (lv_at hl 4 rfl) ?_
    refine lv_sipush (v := 1000) X.1 X.2.1 dX12_told_59 (by decide) ?_
    refine lv_irem X.1 X.2.1 dX12_told_62 (by decide) ?_
    refine lv_topi (fun v_81 ev_81 => ?_)
    have z_82 : v_81.toInt = a3_z % 1000 := z_rem ev_81 hz_a3 ti_1000 (by omega) (by omega)
    have z_83 : 0 ≤ v_81.toInt ∧ v_81.toInt < 1000 := by rw [z_82]; exact ⟨Int.emod_nonneg _ (by omega), Int.emod_lt_of_pos _ (by omega)⟩
    rw [hQQ]
    exact ret_i X hw hr hlocks (Nat.le_of_ble_eq_true rfl) (Nat.le_of_ble_eq_true rfl) ⟨rfl, trivial⟩ dX12_told_63
set_option maxHeartbeats 4000000 in
set_option maxRecDepth 100000 in
theorem k_X12_skein (l : Launch) (G : va_G) (cy : Nat → ClassId) (κ : Nat → Nat) (S : PS) (sz : Nat) (x : Nat) (a1 : Int32) (a1_z : Int) (a2 : Int32) (a2_z : Int) (hG : GX S) (ha_x : At S x 12) (hz_a1 : a1.toInt = a1_z) (hz_a2 : a2.toInt = a2_z) (hp_0 : MI S x) : Ci l yX12_skein wsX12_skein ({ frames := 8, cells := 0, slots := 0, locals := 384 }) G cy κ S sz [.ref x, .int (a1), .int (a2)] (fun (r : Int32) (S9 : PS) => Ok MN S S9 ∧ (True)) := by
  refine ent_m (cc := cX12_skein) (maxL := 3) (ret := (some .int)) (by decide) rfl (Nat.le_of_ble_eq_true rfl) ?_
  intro p e s m below meth c ls X hr hlocks hin hw hl hsz
  subst hsz
  have X : Cx p c cX12_skein 3 s [.ref x, .int (a1), .int (a2)].toArray wsX12_skein RX12 m G cy κ (AS S s.heap.size) := X
  have hl : lv_has ls 3 [(0, .ref x), (1, .int (a1)), (2, .int (a2))] := hl
  have rg_a1 : (-2147483648) ≤ a1_z ∧ a1_z ≤ 2147483647 := by rw [← hz_a1]; exact ⟨z_lo _, z_hi _⟩
  have rg_a2 : (-2147483648) ≤ a2_z ∧ a2_z ≤ 2147483647 := by rw [← hz_a2]; exact ⟨z_lo _, z_hi _⟩
  have hO : Ok MN S S := Ok.rf hG
  refine lv_aload_n X.1 X.2.1 dX12_skein_0 rfl (lv_at hl 0 rfl) ?_
  refine lv_iconst (v := 0) X.1 X.2.1 dX12_skein_1 (by decide) ?_
  refine r_putI (v := 0) X hw ha_x rfl 0 1200 tyX12 (by decide) rfl inn_X12_skein_12 tyX12_ok nmX12 (by decide) (X.2.2.2.1 (.fieldLink RX12 161 "SilkMillModel" "thrown" "I") (by decide +kernel)) rfl (Or.inl rfl) rfl rfl (Nat.le_of_ble_eq_true rfl) (st_1200 _ _) dX12_skein_2 (fun H locs hw => ?_)
  obtain ⟨S_1, eS_1⟩ : ∃ T, T = sI S 1200 x (0) := ⟨_, rfl⟩
  rw [← eS_1] at hw
  have hO_2 : Ok MN S S_1 := hO.sI eS_1 (by decide +kernel) (uI_12_1200 hO.1 ha_x)
  have h_3 : pI S_1 1200 x = 0 := tI_sIs eS_1
  refine lv_aload_n X.1 X.2.1 dX12_skein_5 rfl (lv_at hl 0 rfl) ?_
  refine lv_iload_n X.1 X.2.1 dX12_skein_6 rfl (lv_at hl 1 rfl) ?_
  have t_4 : At S_1 x 12 := tAt_sI eS_1 ha_x
  refine k_i (rm := { frames := 2, cells := 0, slots := 0, locals := 96 }) (av := [.ref x, .int (a1)]) X hw (va_runV (As := [.int (a1)]) (rest := []) (cfix X) (k_X12_isSkein l G cy κ S_1 _ x (a1) (a1_z) hO_2.1 t_4 hz_a1) (cwV 1 X.2.2.2.1 gX12_skein_X12_isSkein rfl rfl rfl (by decide +kernel) ⟨Nat.le_of_ble_eq_true rfl, Nat.le_of_ble_eq_true rfl⟩) (pre_V X hw _ t_4 rfl (by decide) rfl) rfl rfl hl.1 rfl (lv_room (Nat.le_of_ble_eq_true rfl)) dX12_skein_7 ⟨Nat.le_of_ble_eq_true rfl, Nat.le_of_ble_eq_true rfl⟩) 0 0 (Nat.le_of_ble_eq_true rfl) (Nat.le_of_ble_eq_true rfl) (fun rr_5 S_6 H locs hp hw hfr hnw => ?_)
  obtain ⟨e2, hp⟩ := hp
  subst e2
  rcases hp with ⟨f_7, er_8⟩ | ⟨f_7, er_8⟩ <;> subst er_8
  · have z_b_9 := trivial
    refine lv_if_ne (tgt := 15) X.1 X.2.1 dX12_skein_10 (by decide) (fun c_10 => ?_) (fun c_10 => absurd c_10 (by decide))
    refine lv_iload_n X.1 X.2.1 dX12_skein_15 rfl (lv_at hl 2 rfl) ?_
    by_cases w_11 : (a2).toInt < 0 ∨ 11 < (a2).toInt
    · refine lv_tableOut (tgt := 168) X.1 X.2.1 dX12_skein_16 w_11 (by decide) ?_
      refine lv_iconst (v := (-1)) X.1 X.2.1 dX12_skein_168 (by decide) ?_
      exact ret_i X hw hr hlocks (Nat.le_of_ble_eq_true rfl) (Nat.le_of_ble_eq_true rfl) ⟨hO_2, trivial⟩ dX12_skein_169
    have w_11b : (a2).toInt = 0 ∨ (a2).toInt = 1 ∨ (a2).toInt = 2 ∨ (a2).toInt = 3 ∨ (a2).toInt = 4 ∨ (a2).toInt = 5 ∨ (a2).toInt = 6 ∨ (a2).toInt = 7 ∨ (a2).toInt = 8 ∨ (a2).toInt = 9 ∨ (a2).toInt = 10 ∨ (a2).toInt = 11 := by omega
    rcases w_11b with w_11c | w_11c | w_11c | w_11c | w_11c | w_11c | w_11c | w_11c | w_11c | w_11c | w_11c | w_11c
    · refine lv_tableIn (tgt := 80) X.1 X.2.1 dX12_skein_16 (by omega) (by omega) (by rw [w_11c]; rfl) (by decide) ?_
      refine lv_aload_n X.1 X.2.1 dX12_skein_80 rfl (lv_at hl 0 rfl) ?_
      obtain ⟨q_12, h_13, h_14, h_15⟩ := gQ_12_1240 hO_2.1 t_4
      refine r_getR (g := 1240) X hw t_4 rfl 40 h_13 (by decide) rfl inn_X12_skein_12 (by decide) (X.2.2.2.1 (.fieldLink RX12 103 "SilkMillModel" "skeinPot" "[I") (by decide +kernel)) rfl (gv_1240 _ _) dX12_skein_81 ?_
      refine lv_iload_n X.1 X.2.1 dX12_skein_84 rfl (lv_at hl 1 rfl) ?_
      refine r_iald X hw h_14 rfl (by rw [h_15]; exact z_ix hz_a1 (by omega) (by omega)) dX12_skein_85 ?_
      refine lv_topi (fun v_16 ev_16 => ?_)
      have rg_17 := And.intro (z_lo v_16) (z_hi v_16)
      have ev_16 := ev_16.symm
      exact ret_i X hw hr hlocks (Nat.le_of_ble_eq_true rfl) (Nat.le_of_ble_eq_true rfl) ⟨hO_2, trivial⟩ dX12_skein_86
    · refine lv_tableIn (tgt := 87) X.1 X.2.1 dX12_skein_16 (by omega) (by omega) (by rw [w_11c]; rfl) (by decide) ?_
      refine lv_aload_n X.1 X.2.1 dX12_skein_87 rfl (lv_at hl 0 rfl) ?_
      obtain ⟨q_18, h_19, h_20, h_21⟩ := gQ_12_1241 hO_2.1 t_4
      refine r_getR (g := 1241) X hw t_4 rfl 41 h_19 (by decide) rfl inn_X12_skein_12 (by decide) (X.2.2.2.1 (.fieldLink RX12 106 "SilkMillModel" "skeinDay" "[I") (by decide +kernel)) rfl (gv_1241 _ _) dX12_skein_88 ?_
      refine lv_iload_n X.1 X.2.1 dX12_skein_91 rfl (lv_at hl 1 rfl) ?_
      refine r_iald X hw h_20 rfl (by rw [h_21]; exact z_ix hz_a1 (by omega) (by omega)) dX12_skein_92 ?_
      refine lv_topi (fun v_22 ev_22 => ?_)
      have rg_23 := And.intro (z_lo v_22) (z_hi v_22)
      have ev_22 := ev_22.symm
      exact ret_i X hw hr hlocks (Nat.le_of_ble_eq_true rfl) (Nat.le_of_ble_eq_true rfl) ⟨hO_2, trivial⟩ dX12_skein_93
    · refine lv_tableIn (tgt := 94) X.1 X.2.1 dX12_skein_16 (by omega) (by omega) (by rw [w_11c]; rfl) (by decide) ?_
      refine lv_aload_n X.1 X.2.1 dX12_skein_94 rfl (lv_at hl 0 rfl) ?_
      refine lv_iload_n X.1 X.2.1 dX12_skein_95 rfl (lv_at hl 1 rfl) ?_
      refine k_i (rm := { frames := 1, cells := 0, slots := 0, locals := 48 }) (av := [.ref x, .int (a1)]) X hw (va_runV (As := [.int (a1)]) (rest := []) (cfix X) (k_X12_metres l G cy κ S_1 _ x (a1) (a1_z) hO_2.1 t_4 hz_a1 (by first | assumption | omega) (by first | assumption | omega) (by first | assumption | omega) (MIe_free hG ha_x hO_2.fr (by decide +kernel) hp_0)) (cwV 1 X.2.2.2.1 gX12_skein_X12_metres rfl rfl rfl (by decide +kernel) ⟨Nat.le_of_ble_eq_true rfl, Nat.le_of_ble_eq_true rfl⟩) (pre_V X hw _ t_4 rfl (by decide) rfl) rfl rfl hl.1 rfl (lv_room (Nat.le_of_ble_eq_true rfl)) dX12_skein_96 ⟨Nat.le_of_ble_eq_true rfl, Nat.le_of_ble_eq_true rfl⟩) 0 0 (Nat.le_of_ble_eq_true rfl) (Nat.le_of_ble_eq_true rfl) (fun rr_24 S_25 H locs hp hw hfr hnw => ?_)
      obtain ⟨e2, hp⟩ := hp
      subst e2
      obtain ⟨f_26, f_27, f_28⟩ := hp
      exact ret_i X hw hr hlocks (Nat.le_of_ble_eq_true rfl) (Nat.le_of_ble_eq_true rfl) ⟨hO_2, trivial⟩ dX12_skein_99
    · refine lv_tableIn (tgt := 100) X.1 X.2.1 dX12_skein_16 (by omega) (by omega) (by rw [w_11c]; rfl) (by decide) ?_
      refine lv_aload_n X.1 X.2.1 dX12_skein_100 rfl (lv_at hl 0 rfl) ?_
      refine lv_iload_n X.1 X.2.1 dX12_skein_101 rfl (lv_at hl 1 rfl) ?_
      refine k_i (rm := { frames := 6, cells := 0, slots := 0, locals := 288 }) (av := [.ref x, .int (a1)]) X hw (va_runV (As := [.int (a1)]) (rest := []) (cfix X) (k_X12_weightOf l G cy κ S_1 _ x (a1) (a1_z) hO_2.1 t_4 hz_a1 (by first | assumption | omega) (by first | assumption | omega) (by first | assumption | omega) (MIe_free hG ha_x hO_2.fr (by decide +kernel) hp_0)) (cwV 1 X.2.2.2.1 gX12_skein_X12_weightOf rfl rfl rfl (by decide +kernel) ⟨Nat.le_of_ble_eq_true rfl, Nat.le_of_ble_eq_true rfl⟩) (pre_V X hw _ t_4 rfl (by decide) rfl) rfl rfl hl.1 rfl (lv_room (Nat.le_of_ble_eq_true rfl)) dX12_skein_102 ⟨Nat.le_of_ble_eq_true rfl, Nat.le_of_ble_eq_true rfl⟩) 0 0 (Nat.le_of_ble_eq_true rfl) (Nat.le_of_ble_eq_true rfl) (fun rr_29 S_30 H locs hp hw hfr hnw => ?_)
      obtain ⟨e2, hp⟩ := hp
      subst e2
      have rg_31 := And.intro (z_lo rr_29) (z_hi rr_29)
      exact ret_i X hw hr hlocks (Nat.le_of_ble_eq_true rfl) (Nat.le_of_ble_eq_true rfl) ⟨hO_2, trivial⟩ dX12_skein_105
    · refine lv_tableIn (tgt := 106) X.1 X.2.1 dX12_skein_16 (by omega) (by omega) (by rw [w_11c]; rfl) (by decide) ?_
      refine lv_aload_n X.1 X.2.1 dX12_skein_106 rfl (lv_at hl 0 rfl) ?_
      refine lv_iload_n X.1 X.2.1 dX12_skein_107 rfl (lv_at hl 1 rfl) ?_
      refine lv_iload_n X.1 X.2.1 dX12_skein_108 rfl (lv_at hl 2 rfl) ?_
      refine lv_iconst (v := 5) X.1 X.2.1 dX12_skein_109 (by decide) ?_
      refine lv_icmp_ne (tgt := 117) X.1 X.2.1 dX12_skein_110 (by decide) (fun c_32 => ?_) (fun c_32 => ?_)
      · have z_b_33 := trivial
        have k_34 : a2_z ≠ 5 := z_ne hz_a2 ti_5 c_32
        refine lv_iconst (v := 0) X.1 X.2.1 dX12_skein_117 (by decide) ?_
        refine k_i (rm := { frames := 5, cells := 0, slots := 0, locals := 240 }) (av := [.ref x, .int (a1), .int 0]) X hw (va_runV (As := [.int (a1), .int 0]) (rest := []) (cfix X) (k_X12_least l G cy κ S_1 _ x (a1) (a1_z) (0) (0) hO_2.1 t_4 hz_a1 ti_0 (by first | assumption | omega) (by first | assumption | omega) (by first | assumption | omega) (MIe_free hG ha_x hO_2.fr (by decide +kernel) hp_0)) (cwV 2 X.2.2.2.1 gX12_skein_X12_least rfl rfl rfl (by decide +kernel) ⟨Nat.le_of_ble_eq_true rfl, Nat.le_of_ble_eq_true rfl⟩) (pre_V X hw _ t_4 rfl (by decide) rfl) rfl rfl hl.1 rfl (lv_room (Nat.le_of_ble_eq_true rfl)) dX12_skein_118 ⟨Nat.le_of_ble_eq_true rfl, Nat.le_of_ble_eq_true rfl⟩) 0 0 (Nat.le_of_ble_eq_true rfl) (Nat.le_of_ble_eq_true rfl) (fun rr_35 S_36 H locs hp hw hfr hnw => ?_)
        obtain ⟨e2, hp⟩ := hp
        subst e2
        have rg_37 := And.intro (z_lo rr_35) (z_hi rr_35)
        exact ret_i X hw hr hlocks (Nat.le_of_ble_eq_true rfl) (Nat.le_of_ble_eq_true rfl) ⟨hO_2, trivial⟩ dX12_skein_121
      · have z_b_38 := trivial
        have k_39 : a2_z = 5 := z_eq hz_a2 ti_5 c_32
        refine lv_iconst (v := 1) X.1 X.2.1 dX12_skein_113 (by decide) ?_
        refine lv_goto (tgt := 118) X.1 X.2.1 dX12_skein_114 (by decide) ?_
        refine k_i (rm := { frames := 5, cells := 0, slots := 0, locals := 240 }) (av := [.ref x, .int (a1), .int 1]) X hw (va_runV (As := [.int (a1), .int 1]) (rest := []) (cfix X) (k_X12_least l G cy κ S_1 _ x (a1) (a1_z) (1) (1) hO_2.1 t_4 hz_a1 ti_1 (by first | assumption | omega) (by first | assumption | omega) (by first | assumption | omega) (MIe_free hG ha_x hO_2.fr (by decide +kernel) hp_0)) (cwV 2 X.2.2.2.1 gX12_skein_X12_least rfl rfl rfl (by decide +kernel) ⟨Nat.le_of_ble_eq_true rfl, Nat.le_of_ble_eq_true rfl⟩) (pre_V X hw _ t_4 rfl (by decide) rfl) rfl rfl hl.1 rfl (lv_room (Nat.le_of_ble_eq_true rfl)) dX12_skein_118 ⟨Nat.le_of_ble_eq_true rfl, Nat.le_of_ble_eq_true rfl⟩) 0 0 (Nat.le_of_ble_eq_true rfl) (Nat.le_of_ble_eq_true rfl) (fun rr_40 S_41 H locs hp hw hfr hnw => ?_)
        obtain ⟨e2, hp⟩ := hp
        subst e2
        have rg_42 := And.intro (z_lo rr_40) (z_hi rr_40)
        exact ret_i X hw hr hlocks (Nat.le_of_ble_eq_true rfl) (Nat.le_of_ble_eq_true rfl) ⟨hO_2, trivial⟩ dX12_skein_121
    · refine lv_tableIn (tgt := 106) X.1 X.2.1 dX12_skein_16 (by omega) (by omega) (by rw [w_11c]; rfl) (by decide) ?_
      refine lv_aload_n X.1 X.2.1 dX12_skein_106 rfl (lv_at hl 0 rfl) ?_
      refine lv_iload_n X.1 X.2.1 dX12_skein_107 rfl (lv_at hl 1 rfl) ?_
      refine lv_iload_n X.1 X.2.1 dX12_skein_108 rfl (lv_at hl 2 rfl) ?_
      refine lv_iconst (v := 5) X.1 X.2.1 dX12_skein_109 (by decide) ?_
      refine lv_icmp_ne (tgt := 117) X.1 X.2.1 dX12_skein_110 (by decide) (fun c_43 => ?_) (fun c_43 => ?_)
      · have z_b_44 := trivial
        have k_45 : a2_z ≠ 5 := z_ne hz_a2 ti_5 c_43
        refine lv_iconst (v := 0) X.1 X.2.1 dX12_skein_117 (by decide) ?_
        refine k_i (rm := { frames := 5, cells := 0, slots := 0, locals := 240 }) (av := [.ref x, .int (a1), .int 0]) X hw (va_runV (As := [.int (a1), .int 0]) (rest := []) (cfix X) (k_X12_least l G cy κ S_1 _ x (a1) (a1_z) (0) (0) hO_2.1 t_4 hz_a1 ti_0 (by first | assumption | omega) (by first | assumption | omega) (by first | assumption | omega) (MIe_free hG ha_x hO_2.fr (by decide +kernel) hp_0)) (cwV 2 X.2.2.2.1 gX12_skein_X12_least rfl rfl rfl (by decide +kernel) ⟨Nat.le_of_ble_eq_true rfl, Nat.le_of_ble_eq_true rfl⟩) (pre_V X hw _ t_4 rfl (by decide) rfl) rfl rfl hl.1 rfl (lv_room (Nat.le_of_ble_eq_true rfl)) dX12_skein_118 ⟨Nat.le_of_ble_eq_true rfl, Nat.le_of_ble_eq_true rfl⟩) 0 0 (Nat.le_of_ble_eq_true rfl) (Nat.le_of_ble_eq_true rfl) (fun rr_46 S_47 H locs hp hw hfr hnw => ?_)
        obtain ⟨e2, hp⟩ := hp
        subst e2
        have rg_48 := And.intro (z_lo rr_46) (z_hi rr_46)
        exact ret_i X hw hr hlocks (Nat.le_of_ble_eq_true rfl) (Nat.le_of_ble_eq_true rfl) ⟨hO_2, trivial⟩ dX12_skein_121
      · have z_b_49 := trivial
        have k_50 : a2_z = 5 := z_eq hz_a2 ti_5 c_43
        refine lv_iconst (v := 1) X.1 X.2.1 dX12_skein_113 (by decide) ?_
        refine lv_goto (tgt := 118) X.1 X.2.1 dX12_skein_114 (by decide) ?_
        refine k_i (rm := { frames := 5, cells := 0, slots := 0, locals := 240 }) (av := [.ref x, .int (a1), .int 1]) X hw (va_runV (As := [.int (a1), .int 1]) (rest := []) (cfix X) (k_X12_least l G cy κ S_1 _ x (a1) (a1_z) (1) (1) hO_2.1 t_4 hz_a1 ti_1 (by first | assumption | omega) (by first | assumption | omega) (by first | assumption | omega) (MIe_free hG ha_x hO_2.fr (by decide +kernel) hp_0)) (cwV 2 X.2.2.2.1 gX12_skein_X12_least rfl rfl rfl (by decide +kernel) ⟨Nat.le_of_ble_eq_true rfl, Nat.le_of_ble_eq_true rfl⟩) (pre_V X hw _ t_4 rfl (by decide) rfl) rfl rfl hl.1 rfl (lv_room (Nat.le_of_ble_eq_true rfl)) dX12_skein_118 ⟨Nat.le_of_ble_eq_true rfl, Nat.le_of_ble_eq_true rfl⟩) 0 0 (Nat.le_of_ble_eq_true rfl) (Nat.le_of_ble_eq_true rfl) (fun rr_51 S_52 H locs hp hw hfr hnw => ?_)
        obtain ⟨e2, hp⟩ := hp
        subst e2
        have rg_53 := And.intro (z_lo rr_51) (z_hi rr_51)
        exact ret_i X hw hr hlocks (Nat.le_of_ble_eq_true rfl) (Nat.le_of_ble_eq_true rfl) ⟨hO_2, trivial⟩ dX12_skein_121
    · refine lv_tableIn (tgt := 122) X.1 X.2.1 dX12_skein_16 (by omega) (by omega) (by rw [w_11c]; rfl) (by decide) ?_
      refine lv_aload_n X.1 X.2.1 dX12_skein_122 rfl (lv_at hl 0 rfl) ?_
      refine lv_iload_n X.1 X.2.1 dX12_skein_123 rfl (lv_at hl 1 rfl) ?_
      refine k_i (rm := { frames := 5, cells := 0, slots := 0, locals := 240 }) (av := [.ref x, .int (a1)]) X hw (va_runV (As := [.int (a1)]) (rest := []) (cfix X) (k_X12_slips l G cy κ S_1 _ x (a1) (a1_z) hO_2.1 t_4 hz_a1 (by first | assumption | omega) (by first | assumption | omega) (by first | assumption | omega) (MIe_free hG ha_x hO_2.fr (by decide +kernel) hp_0)) (cwV 1 X.2.2.2.1 gX12_skein_X12_slips rfl rfl rfl (by decide +kernel) ⟨Nat.le_of_ble_eq_true rfl, Nat.le_of_ble_eq_true rfl⟩) (pre_V X hw _ t_4 rfl (by decide) rfl) rfl rfl hl.1 rfl (lv_room (Nat.le_of_ble_eq_true rfl)) dX12_skein_124 ⟨Nat.le_of_ble_eq_true rfl, Nat.le_of_ble_eq_true rfl⟩) 0 0 (Nat.le_of_ble_eq_true rfl) (Nat.le_of_ble_eq_true rfl) (fun rr_54 S_55 H locs hp hw hfr hnw => ?_)
      obtain ⟨e2, hp⟩ := hp
      subst e2
      have rg_56 := And.intro (z_lo rr_54) (z_hi rr_54)
      exact ret_i X hw hr hlocks (Nat.le_of_ble_eq_true rfl) (Nat.le_of_ble_eq_true rfl) ⟨hO_2, trivial⟩ dX12_skein_127
    · refine lv_tableIn (tgt := 128) X.1 X.2.1 dX12_skein_16 (by omega) (by omega) (by rw [w_11c]; rfl) (by decide) ?_
      refine lv_aload_n X.1 X.2.1 dX12_skein_128 rfl (lv_at hl 0 rfl) ?_
      refine lv_iload_n X.1 X.2.1 dX12_skein_129 rfl (lv_at hl 1 rfl) ?_
      refine k_i (rm := { frames := 3, cells := 0, slots := 0, locals := 144 }) (av := [.ref x, .int (a1)]) X hw (va_runV (As := [.int (a1)]) (rest := []) (cfix X) (k_X12_pieces l G cy κ S_1 _ x (a1) (a1_z) hO_2.1 t_4 hz_a1 (by first | assumption | omega) (by first | assumption | omega) (by first | assumption | omega) (MIe_free hG ha_x hO_2.fr (by decide +kernel) hp_0)) (cwV 1 X.2.2.2.1 gX12_skein_X12_pieces rfl rfl rfl (by decide +kernel) ⟨Nat.le_of_ble_eq_true rfl, Nat.le_of_ble_eq_true rfl⟩) (pre_V X hw _ t_4 rfl (by decide) rfl) rfl rfl hl.1 rfl (lv_room (Nat.le_of_ble_eq_true rfl)) dX12_skein_130 ⟨Nat.le_of_ble_eq_true rfl, Nat.le_of_ble_eq_true rfl⟩) 0 0 (Nat.le_of_ble_eq_true rfl) (Nat.le_of_ble_eq_true rfl) (fun rr_57 S_58 H locs hp hw hfr hnw => ?_)
      obtain ⟨e2, hp⟩ := hp
      subst e2
      have rg_59 := And.intro (z_lo rr_57) (z_hi rr_57)
      exact ret_i X hw hr hlocks (Nat.le_of_ble_eq_true rfl) (Nat.le_of_ble_eq_true rfl) ⟨hO_2, trivial⟩ dX12_skein_133
    · refine lv_tableIn (tgt := 134) X.1 X.2.1 dX12_skein_16 (by omega) (by omega) (by rw [w_11c]; rfl) (by decide) ?_
      refine lv_aload_n X.1 X.2.1 dX12_skein_134 rfl (lv_at hl 0 rfl) ?_
      refine lv_iload_n X.1 X.2.1 dX12_skein_135 rfl (lv_at hl 1 rfl) ?_
      refine k_i (rm := { frames := 1, cells := 0, slots := 0, locals := 48 }) (av := [.ref x, .int (a1)]) X hw (va_runV (As := [.int (a1)]) (rest := []) (cfix X) (k_X12_gradeOf l G cy κ S_1 _ x (a1) (a1_z) hO_2.1 t_4 hz_a1 (by first | assumption | omega) (by first | assumption | omega)) (cwV 1 X.2.2.2.1 gX12_skein_X12_gradeOf rfl rfl rfl (by decide +kernel) ⟨Nat.le_of_ble_eq_true rfl, Nat.le_of_ble_eq_true rfl⟩) (pre_V X hw _ t_4 rfl (by decide) rfl) rfl rfl hl.1 rfl (lv_room (Nat.le_of_ble_eq_true rfl)) dX12_skein_136 ⟨Nat.le_of_ble_eq_true rfl, Nat.le_of_ble_eq_true rfl⟩) 0 0 (Nat.le_of_ble_eq_true rfl) (Nat.le_of_ble_eq_true rfl) (fun rr_60 S_61 H locs hp hw hfr hnw => ?_)
      obtain ⟨e2, hp⟩ := hp
      subst e2
      obtain ⟨f_62, f_63⟩ := hp
      exact ret_i X hw hr hlocks (Nat.le_of_ble_eq_true rfl) (Nat.le_of_ble_eq_true rfl) ⟨hO_2, trivial⟩ dX12_skein_139
    · refine lv_tableIn (tgt := 140) X.1 X.2.1 dX12_skein_16 (by omega) (by omega) (by rw [w_11c]; rfl) (by decide) ?_
      refine lv_aload_n X.1 X.2.1 dX12_skein_140 rfl (lv_at hl 0 rfl) ?_
      obtain ⟨q_64, h_65, h_66, h_67⟩ := gQ_12_1244 hO_2.1 t_4
      refine r_getR (g := 1244) X hw t_4 rfl 44 h_65 (by decide) rfl inn_X12_skein_12 (by decide) (X.2.2.2.1 (.fieldLink RX12 115 "SilkMillModel" "isSold" "[Z") (by decide +kernel)) rfl (gv_1244 _ _) dX12_skein_141 ?_
      refine lv_iload_n X.1 X.2.1 dX12_skein_144 rfl (lv_at hl 1 rfl) ?_
      refine r_zald X hw h_66 rfl (by rw [h_67]; exact z_ix hz_a1 (by omega) (by omega)) dX12_skein_145 ?_
      refine lv_topi (fun v_68 ev_68 => ?_)
      have rg_69 := And.intro (z_lo v_68) (z_hi v_68)
      have ev_68 := ev_68.symm
      refine lv_if_eq (tgt := 153) X.1 X.2.1 dX12_skein_146 (by decide) (fun c_70 => ?_) (fun c_70 => ?_)
      · have z_b_71 := trivial
        have k_72 : v_68.toInt = 0 := z_eq rfl ti_0 c_70
        refine lv_iconst (v := 0) X.1 X.2.1 dX12_skein_153 (by decide) ?_
        exact ret_i X hw hr hlocks (Nat.le_of_ble_eq_true rfl) (Nat.le_of_ble_eq_true rfl) ⟨hO_2, trivial⟩ dX12_skein_154
      · have z_b_73 := trivial
        have k_74 : v_68.toInt ≠ 0 := z_ne rfl ti_0 c_70
        refine lv_iconst (v := 1) X.1 X.2.1 dX12_skein_149 (by decide) ?_
        refine lv_goto (tgt := 154) X.1 X.2.1 dX12_skein_150 (by decide) ?_
        exact ret_i X hw hr hlocks (Nat.le_of_ble_eq_true rfl) (Nat.le_of_ble_eq_true rfl) ⟨hO_2, trivial⟩ dX12_skein_154
    · refine lv_tableIn (tgt := 155) X.1 X.2.1 dX12_skein_16 (by omega) (by omega) (by rw [w_11c]; rfl) (by decide) ?_
      refine lv_aload_n X.1 X.2.1 dX12_skein_155 rfl (lv_at hl 0 rfl) ?_
      refine lv_iload_n X.1 X.2.1 dX12_skein_156 rfl (lv_at hl 1 rfl) ?_
      refine k_i (rm := { frames := 7, cells := 0, slots := 0, locals := 336 }) (av := [.ref x, .int (a1)]) X hw (va_runV (As := [.int (a1)]) (rest := []) (cfix X) (k_X12_priceOf l G cy κ S_1 _ x (a1) (a1_z) hO_2.1 t_4 hz_a1 (by first | assumption | omega) (by first | assumption | omega) (by first | assumption | omega) (MIe_free hG ha_x hO_2.fr (by decide +kernel) hp_0)) (cwV 1 X.2.2.2.1 gX12_skein_X12_priceOf rfl rfl rfl (by decide +kernel) ⟨Nat.le_of_ble_eq_true rfl, Nat.le_of_ble_eq_true rfl⟩) (pre_V X hw _ t_4 rfl (by decide) rfl) rfl rfl hl.1 rfl (lv_room (Nat.le_of_ble_eq_true rfl)) dX12_skein_157 ⟨Nat.le_of_ble_eq_true rfl, Nat.le_of_ble_eq_true rfl⟩) 0 0 (Nat.le_of_ble_eq_true rfl) (Nat.le_of_ble_eq_true rfl) (fun rr_75 S_76 H locs hp hw hfr hnw => ?_)
      obtain ⟨e2, hp⟩ := hp
      subst e2
      have rg_77 := And.intro (z_lo rr_75) (z_hi rr_75)
      exact ret_i X hw hr hlocks (Nat.le_of_ble_eq_true rfl) (Nat.le_of_ble_eq_true rfl) ⟨hO_2, trivial⟩ dX12_skein_160
    · refine lv_tableIn (tgt := 161) X.1 X.2.1 dX12_skein_16 (by omega) (by omega) (by rw [w_11c]; rfl) (by decide) ?_
      refine lv_aload_n X.1 X.2.1 dX12_skein_161 rfl (lv_at hl 0 rfl) ?_
      obtain ⟨q_78, h_79, h_80, h_81⟩ := gQ_12_1242 hO_2.1 t_4
      refine r_getR (g := 1242) X hw t_4 rfl 42 h_79 (by decide) rfl inn_X12_skein_12 (by decide) (X.2.2.2.1 (.fieldLink RX12 109 "SilkMillModel" "skeinAim" "[I") (by decide +kernel)) rfl (gv_1242 _ _) dX12_skein_162 ?_
      refine lv_iload_n X.1 X.2.1 dX12_skein_165 rfl (lv_at hl 1 rfl) ?_
      refine r_iald X hw h_80 rfl (by rw [h_81]; exact z_ix hz_a1 (by omega) (by omega)) dX12_skein_166 ?_
      refine lv_topi (fun v_82 ev_82 => ?_)
      have rg_83 := And.intro (z_lo v_82) (z_hi v_82)
      have ev_82 := ev_82.symm
      exact ret_i X hw hr hlocks (Nat.le_of_ble_eq_true rfl) (Nat.le_of_ble_eq_true rfl) ⟨hO_2, trivial⟩ dX12_skein_167
  · have z_b_84 := trivial
    refine lv_if_ne (tgt := 15) X.1 X.2.1 dX12_skein_10 (by decide) (fun c_85 => absurd c_85 (by decide)) (fun c_85 => ?_)
    refine lv_iconst (v := (-1)) X.1 X.2.1 dX12_skein_13 (by decide) ?_
    exact ret_i X hw hr hlocks (Nat.le_of_ble_eq_true rfl) (Nat.le_of_ble_eq_true rfl) ⟨hO_2, trivial⟩ dX12_skein_14
set_option maxHeartbeats 4000000 in
set_option maxRecDepth 100000 in
theorem k_X12_piece (l : Launch) (G : va_G) (cy : Nat → ClassId) (κ : Nat → Nat) (S : PS) (sz : Nat) (x : Nat) (a1 : Int32) (a1_z : Int) (a2 : Int32) (a2_z : Int) (a3 : Int32) (a3_z : Int) (hG : GX S) (ha_x : At S x 12) (hz_a1 : a1.toInt = a1_z) (hz_a2 : a2.toInt = a2_z) (hz_a3 : a3.toInt = a3_z) (hp_0 : MI S x) : Ci l yX12_piece wsX12_piece ({ frames := 3, cells := 0, slots := 0, locals := 144 }) G cy κ S sz [.ref x, .int (a1), .int (a2), .int (a3)] (fun (r : Int32) (S9 : PS) => Ok MN S S9 ∧ (True)) := by
  refine ent_m (cc := cX12_piece) (maxL := 7) (ret := (some .int)) (by decide) rfl (Nat.le_of_ble_eq_true rfl) ?_
  intro p e s m below meth c ls X hr hlocks hin hw hl hsz
  subst hsz
  have X : Cx p c cX12_piece 7 s [.ref x, .int (a1), .int (a2), .int (a3)].toArray wsX12_piece RX12 m G cy κ (AS S s.heap.size) := X
  have hl : lv_has ls 7 [(0, .ref x), (1, .int (a1)), (2, .int (a2)), (3, .int (a3))] := hl
  have rg_a1 : (-2147483648) ≤ a1_z ∧ a1_z ≤ 2147483647 := by rw [← hz_a1]; exact ⟨z_lo _, z_hi _⟩
  have rg_a2 : (-2147483648) ≤ a2_z ∧ a2_z ≤ 2147483647 := by rw [← hz_a2]; exact ⟨z_lo _, z_hi _⟩
  have rg_a3 : (-2147483648) ≤ a3_z ∧ a3_z ≤ 2147483647 := by rw [← hz_a3]; exact ⟨z_lo _, z_hi _⟩
  have hO : Ok MN S S := Ok.rf hG
  generalize hQQ : MQ below _ _ _ _ _ _ = QQ
  replace hQQ := hQQ.symm
  refine lv_aload_n X.1 X.2.1 dX12_piece_0 rfl (lv_at hl 0 rfl) ?_
  refine lv_iconst (v := 0) X.1 X.2.1 dX12_piece_1 (by decide) ?_
  refine r_putI (v := 0) X hw ha_x rfl 0 1200 tyX12 (by decide) rfl inn_X12_piece_12 tyX12_ok nmX12 (by decide) (X.2.2.2.1 (.fieldLink RX12 161 "SilkMillModel" "thrown" "I") (by decide +kernel)) rfl (Or.inl rfl) rfl rfl (Nat.le_of_ble_eq_true rfl) (st_1200 _ _) dX12_piece_2 (fun H locs hw => ?_)
  obtain ⟨S_1, eS_1⟩ : ∃ T, T = sI S 1200 x (0) := ⟨_, rfl⟩
  rw [← eS_1] at hw
  have hO_2 : Ok MN S S_1 := hO.sI eS_1 (by decide +kernel) (uI_12_1200 hO.1 ha_x)
  have h_3 : pI S_1 1200 x = 0 := tI_sIs eS_1
  refine lv_aload_n X.1 X.2.1 dX12_piece_5 rfl (lv_at hl 0 rfl) ?_
  refine lv_iload_n X.1 X.2.1 dX12_piece_6 rfl (lv_at hl 1 rfl) ?_
  have t_4 : At S_1 x 12 := tAt_sI eS_1 ha_x
  refine k_i (rm := { frames := 2, cells := 0, slots := 0, locals := 96 }) (av := [.ref x, .int (a1)]) X hw (va_runV (As := [.int (a1)]) (rest := []) (cfix X) (k_X12_isSkein l G cy κ S_1 _ x (a1) (a1_z) hO_2.1 t_4 hz_a1) (cwV 1 X.2.2.2.1 gX12_piece_X12_isSkein rfl rfl rfl (by decide +kernel) ⟨Nat.le_of_ble_eq_true rfl, Nat.le_of_ble_eq_true rfl⟩) (pre_V X hw _ t_4 rfl (by decide) rfl) rfl rfl hl.1 rfl (lv_room (Nat.le_of_ble_eq_true rfl)) dX12_piece_7 ⟨Nat.le_of_ble_eq_true rfl, Nat.le_of_ble_eq_true rfl⟩) 0 0 (Nat.le_of_ble_eq_true rfl) (Nat.le_of_ble_eq_true rfl) (fun rr_5 S_6 H locs hp hw hfr hnw => ?_)
  obtain ⟨e2, hp⟩ := hp
  subst e2
  rcases hp with ⟨f_7, er_8⟩ | ⟨f_7, er_8⟩ <;> subst er_8
  · have z_b_9 := trivial
    refine lv_if_eq (tgt := 26) X.1 X.2.1 dX12_piece_10 (by decide) (fun c_10 => absurd c_10 (by decide)) (fun c_10 => ?_)
    refine lv_iload_n X.1 X.2.1 dX12_piece_13 rfl (lv_at hl 2 rfl) ?_
    refine lv_if_lt (tgt := 26) X.1 X.2.1 dX12_piece_14 (by decide) (fun c_11 => ?_) (fun c_11 => ?_)
    · have z_b_12 := trivial
      have k_13 : a2_z < 0 := z_lt hz_a2 ti_0 c_11
      refine lv_iconst (v := (-1)) X.1 X.2.1 dX12_piece_26 (by decide) ?_
      rw [hQQ]
      exact ret_i X hw hr hlocks (Nat.le_of_ble_eq_true rfl) (Nat.le_of_ble_eq_true rfl) ⟨hO_2, trivial⟩ dX12_piece_27
    · have z_b_14 := trivial
      have k_15 : a2_z ≥ 0 := z_nlt hz_a2 ti_0 c_11
      refine lv_iload_n X.1 X.2.1 dX12_piece_17 rfl (lv_at hl 3 rfl) ?_
      refine lv_iconst (v := 0) X.1 X.2.1 dX12_piece_18 (by decide) ?_
      refine lv_iconst (v := 4) X.1 X.2.1 dX12_piece_19 (by decide) ?_
      refine k_i (rm := { frames := 1, cells := 0, slots := 0, locals := 48 }) (av := [.int (a3), .int 0, .int 4]) X hw (va_runS (As := [.int (a3), .int 0, .int 4]) (rest := []) (cfix X) (k_X12_within l G cy κ S_1 _ (a3) (a3_z) (0) (0) (4) (4) hO_2.1 hz_a3 ti_0 ti_4) (cwS 3 X.2.2.2.1 gX12_piece_X12_within rfl rfl rfl (by decide +kernel) ⟨Nat.le_of_ble_eq_true rfl, Nat.le_of_ble_eq_true rfl⟩) (pre_S X hw _) rfl rfl hl.1 rfl (lv_room (Nat.le_of_ble_eq_true rfl)) dX12_piece_20 ⟨Nat.le_of_ble_eq_true rfl, Nat.le_of_ble_eq_true rfl⟩) 0 0 (Nat.le_of_ble_eq_true rfl) (Nat.le_of_ble_eq_true rfl) (fun rr_16 S_17 H locs hp hw hfr hnw => ?_)
      obtain ⟨e2, hp⟩ := hp
      subst e2
      rcases hp with ⟨f_18, er_19⟩ | ⟨f_18, er_19⟩ <;> subst er_19
      · have z_b_20 := trivial
        refine lv_if_ne (tgt := 28) X.1 X.2.1 dX12_piece_23 (by decide) (fun c_21 => ?_) (fun c_21 => absurd c_21 (by decide))
        refine lv_iload_n X.1 X.2.1 dX12_piece_28 rfl (lv_at hl 2 rfl) ?_
        refine lv_istore (lv' := [(4, .int (a2)), (0, .ref x), (1, .int (a1)), (2, .int (a2)), (3, .int (a3))]) X.1 X.2.1 dX12_piece_29 hl (by decide) rfl (fun ls hl => ?_)
        refine lv_iconst (v := 0) X.1 X.2.1 dX12_piece_31 (by decide) ?_
        refine lv_istore (lv' := [(5, .int 0), (4, .int (a2)), (0, .ref x), (1, .int (a1)), (2, .int (a2)), (3, .int (a3))]) X.1 X.2.1 dX12_piece_32 hl (by decide) rfl (fun ls hl => ?_)
        have L_22 : ∀ (n : Nat) (H : Heap) (locs : List Loc) (ls : Array Slot) (i4_23 : Int32) (i4_23_z : Int) (i5_24 : Int32) (i5_24_z : Int), ((300 - i5_24_z).toNat = n) → (Wd G cy (AS S s.heap.size) s.heap S_1 H locs) → (i4_23.toInt = i4_23_z) → (0 ≤ i4_23_z ∧ i4_23_z ≤ 2147483647) → (i5_24.toInt = i5_24_z) → (0 ≤ i5_24_z ∧ i5_24_z ≤ 300) → (lv_has ls 7 [(4, .int (i4_23)), (5, .int (i5_24)), (0, .ref x), (1, .int (a1)), (2, .int (a2)), (3, .int (a3))]) → W p l e ({ frames := 3, cells := 0, slots := 0, locals := 144 }) s m [.ref x, .int (a1), .int (a2), .int (a3)].toArray below meth c H locs 0 0 QQ (F0 m 34 ls []) := by
          intro n
          induction n using Nat.strongRecOn with
          | ind n ih_L_22 =>
          intro H locs ls i4_23 i4_23_z i5_24 i5_24_z hn hw hz_i4_23 hr_i4_23 hz_i5_24 hr_i5_24 hl
          have rg_25 : (-2147483648) ≤ i4_23_z ∧ i4_23_z ≤ 2147483647 := by rw [← hz_i4_23]; exact ⟨z_lo _, z_hi _⟩
          have rg_26 : (-2147483648) ≤ i5_24_z ∧ i5_24_z ≤ 2147483647 := by rw [← hz_i5_24]; exact ⟨z_lo _, z_hi _⟩
          refine lv_iload X.1 X.2.1 dX12_piece_34 (lv_at hl 1 rfl) ?_
          refine lv_aload_n X.1 X.2.1 dX12_piece_36 rfl (lv_at hl 2 rfl) ?_
          refine lv_iload_n X.1 X.2.1 dX12_piece_37 rfl (lv_at hl 3 rfl) ?_
          refine k_i (rm := { frames := 1, cells := 0, slots := 0, locals := 48 }) (av := [.ref x, .int (a1)]) X hw (va_runV (As := [.int (a1)]) (rest := [.int (i5_24)]) (cfix X) (k_X12_metres l G cy κ S_1 _ x (a1) (a1_z) hO_2.1 t_4 hz_a1 (by first | assumption | omega) (by first | assumption | omega) (by first | assumption | omega) (MIe_free hG ha_x hO_2.fr (by decide +kernel) hp_0)) (cwV 1 X.2.2.2.1 gX12_piece_X12_metres rfl rfl rfl (by decide +kernel) ⟨Nat.le_of_ble_eq_true rfl, Nat.le_of_ble_eq_true rfl⟩) (pre_V X hw _ t_4 rfl (by decide) rfl) rfl rfl hl.1 rfl (lv_room (Nat.le_of_ble_eq_true rfl)) dX12_piece_38 ⟨Nat.le_of_ble_eq_true rfl, Nat.le_of_ble_eq_true rfl⟩) 0 0 (Nat.le_of_ble_eq_true rfl) (Nat.le_of_ble_eq_true rfl) (fun rr_27 S_28 H locs hp hw hfr hnw => ?_)
          obtain ⟨e2, hp⟩ := hp
          subst e2
          obtain ⟨f_29, f_30, f_31⟩ := hp
          refine lv_icmp_ge (tgt := 130) X.1 X.2.1 dX12_piece_41 (by decide) (fun c_32 => ?_) (fun c_32 => ?_)
          · have z_b_33 := trivial
            have k_34 : i5_24_z ≥ rr_27.toInt := z_le rfl hz_i5_24 c_32
            refine lv_iconst (v := (-1)) X.1 X.2.1 dX12_piece_130 (by decide) ?_
            rw [hQQ]
            exact ret_i X hw hr hlocks (Nat.le_of_ble_eq_true rfl) (Nat.le_of_ble_eq_true rfl) ⟨hO_2, trivial⟩ dX12_piece_131
          · have z_b_35 := trivial
            have k_36 : i5_24_z < rr_27.toInt := z_nle rfl hz_i5_24 c_32
            refine lv_iconst (v := 0) X.1 X.2.1 dX12_piece_44 (by decide) ?_
            refine lv_istore (lv' := [(6, .int 0), (4, .int (i4_23)), (5, .int (i5_24)), (0, .ref x), (1, .int (a1)), (2, .int (a2)), (3, .int (a3))]) X.1 X.2.1 dX12_piece_45 hl (by decide) rfl (fun ls hl => ?_)
            have L_37 : ∀ (n : Nat) (H : Heap) (locs : List Loc) (ls : Array Slot) (i4_38 : Int32) (i4_38_z : Int) (i6_39 : Int32) (i6_39_z : Int), ((12 - i6_39_z).toNat = n) → (Wd G cy (AS S s.heap.size) s.heap S_1 H locs) → (i4_38.toInt = i4_38_z) → (0 ≤ i4_38_z ∧ i4_38_z ≤ 2147483647) → (i6_39.toInt = i6_39_z) → (0 ≤ i6_39_z ∧ i6_39_z ≤ 12) → (lv_has ls 7 [(4, .int (i4_38)), (6, .int (i6_39)), (5, .int (i5_24)), (0, .ref x), (1, .int (a1)), (2, .int (a2)), (3, .int (a3))]) → W p l e ({ frames := 3, cells := 0, slots := 0, locals := 144 }) s m [.ref x, .int (a1), .int (a2), .int (a3)].toArray below meth c H locs 0 0 QQ (F0 m 47 ls []) := by
              intro n
              induction n using Nat.strongRecOn with
              | ind n ih_L_37 =>
              intro H locs ls i4_38 i4_38_z i6_39 i6_39_z hn hw hz_i4_38 hr_i4_38 hz_i6_39 hr_i6_39 hl
              have rg_40 : (-2147483648) ≤ i4_38_z ∧ i4_38_z ≤ 2147483647 := by rw [← hz_i4_38]; exact ⟨z_lo _, z_hi _⟩
              have rg_41 : (-2147483648) ≤ i6_39_z ∧ i6_39_z ≤ 2147483647 := by rw [← hz_i6_39]; exact ⟨z_lo _, z_hi _⟩
              refine lv_iload X.1 X.2.1 dX12_piece_47 (lv_at hl 1 rfl) ?_
              refine lv_aload_n X.1 X.2.1 dX12_piece_49 rfl (lv_at hl 3 rfl) ?_
              obtain ⟨q_42, h_43, h_44, h_45⟩ := gQ_12_1235 hO_2.1 t_4
              refine r_getR (g := 1235) X hw t_4 rfl 35 h_43 (by decide) rfl inn_X12_piece_12 (by decide) (X.2.2.2.1 (.fieldLink RX12 90 "SilkMillModel" "metreEnds" "[I") (by decide +kernel)) rfl (gv_1235 _ _) dX12_piece_50 ?_
              refine lv_aload_n X.1 X.2.1 dX12_piece_53 rfl (lv_at hl 3 rfl) ?_
              obtain ⟨q_46, h_47, h_48, h_49⟩ := gQ_12_1239 hO_2.1 t_4
              refine r_getR (g := 1239) X hw t_4 rfl 39 h_47 (by decide) rfl inn_X12_piece_12 (by decide) (X.2.2.2.1 (.fieldLink RX12 100 "SilkMillModel" "firstMetre" "[I") (by decide +kernel)) rfl (gv_1239 _ _) dX12_piece_54 ?_
              refine lv_iload_n X.1 X.2.1 dX12_piece_57 rfl (lv_at hl 4 rfl) ?_
              refine r_iald X hw h_48 rfl (by rw [h_49]; exact z_ix hz_a1 (by omega) (by omega)) dX12_piece_58 ?_
              refine lv_topi (fun v_50 ev_50 => ?_)
              have z_51 := gE_994 hO_2.1 h_48 (Int32.toNatClampNeg (a1)); rw [← ev_50] at z_51
              have ev_50 := ev_50.symm
              refine lv_iload X.1 X.2.1 dX12_piece_59 (lv_at hl 2 rfl) ?_
              refine lv_iadd X.1 X.2.1 dX12_piece_61 ?_
              refine lv_topi (fun v_52 ev_52 => ?_)
              have z_53 : v_52.toInt = v_50.toInt + i5_24_z := z_add ev_52 rfl hz_i5_24 (by omega) (by omega)
              refine r_iald X hw h_44 rfl (by rw [h_45]; exact z_ix z_53 (by omega) (by omega)) dX12_piece_62 ?_
              refine lv_topi (fun v_54 ev_54 => ?_)
              have z_55 := gE_914 hO_2.1 h_44 (Int32.toNatClampNeg (v_52)); rw [← ev_54] at z_55
              have ev_54 := ev_54.symm
              refine lv_icmp_ge (tgt := 124) X.1 X.2.1 dX12_piece_63 (by decide) (fun c_56 => ?_) (fun c_56 => ?_)
              · have z_b_57 := trivial
                have k_58 : i6_39_z ≥ v_54.toInt := z_le rfl hz_i6_39 c_56
                obtain ⟨x_59, ex_59⟩ : ∃ y : Int32, y = i5_24 + 1 := ⟨_, rfl⟩
                have z_60 : x_59.toInt = i5_24_z + 1 := z_add ex_59 hz_i5_24 ti_1 (by omega) (by omega)
                refine lv_iinc (v := x_59) (lv' := [(5, .int (x_59)), (4, .int (i4_38)), (6, .int (i6_39)), (0, .ref x), (1, .int (a1)), (2, .int (a2)), (3, .int (a3))]) X.1 X.2.1 dX12_piece_124 hl (k := 2) rfl (by rw [ex_59]; rfl) (by decide) rfl (fun ls hl => ?_)
                refine lv_goto (tgt := 34) X.1 X.2.1 dX12_piece_127 (by decide) ?_
                exact ih_L_22 _ (by omega) _ _ _ (i4_38) (i4_38_z) (x_59) (x_59.toInt) rfl hw hz_i4_38 (by omega) rfl (by omega) (lv_sub hl [1, 0, 3, 4, 5, 6] rfl)
              · have z_b_61 := trivial
                have k_62 : i6_39_z < v_54.toInt := z_nle rfl hz_i6_39 c_56
                refine lv_aload_n X.1 X.2.1 dX12_piece_66 rfl (lv_at hl 3 rfl) ?_
                refine lv_iload_n X.1 X.2.1 dX12_piece_67 rfl (lv_at hl 4 rfl) ?_
                refine lv_iload X.1 X.2.1 dX12_piece_68 (lv_at hl 2 rfl) ?_
                refine lv_iload X.1 X.2.1 dX12_piece_70 (lv_at hl 1 rfl) ?_
                refine k_i (rm := { frames := 2, cells := 0, slots := 0, locals := 96 }) (av := [.ref x, .int (a1), .int (i5_24), .int (i6_39)]) X hw (va_runV (As := [.int (a1), .int (i5_24), .int (i6_39)]) (rest := []) (cfix X) (k_X12_begins l G cy κ S_1 _ x (a1) (a1_z) (i5_24) (i5_24_z) (i6_39) (i6_39_z) hO_2.1 t_4 hz_a1 hz_i5_24 hz_i6_39 (by first | assumption | omega) (by first | assumption | omega) (by first | assumption | omega) (MIe_free hG ha_x hO_2.fr (by decide +kernel) hp_0) (by first | assumption | omega) (by first | assumption | omega) (by first | assumption | omega) (by first | assumption | omega)) (cwV 3 X.2.2.2.1 gX12_piece_X12_begins rfl rfl rfl (by decide +kernel) ⟨Nat.le_of_ble_eq_true rfl, Nat.le_of_ble_eq_true rfl⟩) (pre_V X hw _ t_4 rfl (by decide) rfl) rfl rfl hl.1 rfl (lv_room (Nat.le_of_ble_eq_true rfl)) dX12_piece_72 ⟨Nat.le_of_ble_eq_true rfl, Nat.le_of_ble_eq_true rfl⟩) 0 0 (Nat.le_of_ble_eq_true rfl) (Nat.le_of_ble_eq_true rfl) (fun rr_63 S_64 H locs hp hw hfr hnw => ?_)
                obtain ⟨e2, hp⟩ := hp
                subst e2
                rcases hp with ⟨f_65, er_66⟩ | ⟨f_65, er_66⟩ <;> subst er_66
                · have z_b_67 := trivial
                  refine lv_if_ne (tgt := 81) X.1 X.2.1 dX12_piece_75 (by decide) (fun c_68 => ?_) (fun c_68 => absurd c_68 (by decide))
                  refine lv_iload X.1 X.2.1 dX12_piece_81 (lv_at hl 0 rfl) ?_
                  refine lv_if_ne (tgt := 115) X.1 X.2.1 dX12_piece_83 (by decide) (fun c_69 => ?_) (fun c_69 => ?_)
                  · have z_b_70 := trivial
                    have k_71 : i4_38_z ≠ 0 := z_ne hz_i4_38 ti_0 c_69
                    obtain ⟨x_72, ex_72⟩ : ∃ y : Int32, y = i4_38 + (-1) := ⟨_, rfl⟩
                    have z_73 : x_72.toInt = i4_38_z + (-1) := z_add ex_72 hz_i4_38 ti_m1 (by omega) (by omega)
                    refine lv_iinc (v := x_72) (lv' := [(4, .int (x_72)), (6, .int (i6_39)), (5, .int (i5_24)), (0, .ref x), (1, .int (a1)), (2, .int (a2)), (3, .int (a3))]) X.1 X.2.1 dX12_piece_115 hl (k := 0) rfl (by rw [ex_72]; rfl) (by decide) rfl (fun ls hl => ?_)
                    obtain ⟨x_74, ex_74⟩ : ∃ y : Int32, y = i6_39 + 1 := ⟨_, rfl⟩
                    have z_75 : x_74.toInt = i6_39_z + 1 := z_add ex_74 hz_i6_39 ti_1 (by omega) (by omega)
                    refine lv_iinc (v := x_74) (lv' := [(6, .int (x_74)), (4, .int (x_72)), (5, .int (i5_24)), (0, .ref x), (1, .int (a1)), (2, .int (a2)), (3, .int (a3))]) X.1 X.2.1 dX12_piece_118 hl (k := 1) rfl (by rw [ex_74]; rfl) (by decide) rfl (fun ls hl => ?_)
                    refine lv_goto (tgt := 47) X.1 X.2.1 dX12_piece_121 (by decide) ?_
                    exact ih_L_37 _ (by omega) _ _ _ (x_72) (x_72.toInt) (x_74) (x_74.toInt) rfl hw rfl (by omega) rfl (by omega) (lv_sub hl [1, 0, 2, 3, 4, 5, 6] rfl)
                  · have z_b_76 := trivial
                    have k_77 : i4_38_z = 0 := z_eq hz_i4_38 ti_0 c_69
                    refine lv_aload_n X.1 X.2.1 dX12_piece_86 rfl (lv_at hl 3 rfl) ?_
                    refine lv_iload_n X.1 X.2.1 dX12_piece_87 rfl (lv_at hl 4 rfl) ?_
                    refine lv_iload X.1 X.2.1 dX12_piece_88 (lv_at hl 2 rfl) ?_
                    refine lv_aload_n X.1 X.2.1 dX12_piece_90 rfl (lv_at hl 3 rfl) ?_
                    obtain ⟨q_78, h_79, h_80, h_81⟩ := gQ_12_1236 hO_2.1 t_4
                    refine r_getR (g := 1236) X hw t_4 rfl 36 h_79 (by decide) rfl inn_X12_piece_12 (by decide) (X.2.2.2.1 (.fieldLink RX12 94 "SilkMillModel" "drawn" "[I") (by decide +kernel)) rfl (gv_1236 _ _) dX12_piece_91 ?_
                    refine lv_bipush (v := 12) X.1 X.2.1 dX12_piece_94 (by decide) ?_
                    refine lv_aload_n X.1 X.2.1 dX12_piece_96 rfl (lv_at hl 3 rfl) ?_
                    refine r_getR (g := 1239) X hw t_4 rfl 39 h_47 (by decide) rfl inn_X12_piece_12 (by decide) (X.2.2.2.1 (.fieldLink RX12 100 "SilkMillModel" "firstMetre" "[I") (by decide +kernel)) rfl (gv_1239 _ _) dX12_piece_97 ?_
                    refine lv_iload_n X.1 X.2.1 dX12_piece_100 rfl (lv_at hl 4 rfl) ?_
                    refine r_iald X hw h_48 rfl (by rw [h_49]; exact z_ix hz_a1 (by omega) (by omega)) dX12_piece_101 ?_
                    rw [ev_50]
                    refine lv_iload X.1 X.2.1 dX12_piece_102 (lv_at hl 2 rfl) ?_
                    refine lv_iadd X.1 X.2.1 dX12_piece_104 ?_
                    refine lv_topi (fun v_82 ev_82 => ?_)
                    have z_83 : v_82.toInt = v_50.toInt + i5_24_z := z_add ev_82 rfl hz_i5_24 (by omega) (by omega)
                    refine lv_imul X.1 X.2.1 dX12_piece_105 ?_
                    refine lv_topi (fun v_84 ev_84 => ?_)
                    have z_85 : v_84.toInt = 12 * (v_50.toInt + i5_24_z) := z_mul ev_84 ti_12 z_83 (by omega) (by omega)
                    refine lv_iload X.1 X.2.1 dX12_piece_106 (lv_at hl 1 rfl) ?_
                    refine lv_iadd X.1 X.2.1 dX12_piece_108 ?_
                    refine lv_topi (fun v_86 ev_86 => ?_)
                    have z_87 : v_86.toInt = (12 * (v_50.toInt + i5_24_z)) + i6_39_z := z_add ev_86 z_85 hz_i6_39 (by omega) (by omega)
                    refine r_iald X hw h_80 rfl (by rw [h_81]; exact z_ix z_87 (by omega) (by omega)) dX12_piece_109 ?_
                    refine lv_topi (fun v_88 ev_88 => ?_)
                    have z_89 := gE_934 hO_2.1 h_80 (Int32.toNatClampNeg (v_86)); rw [← ev_88] at z_89
                    have ev_88 := ev_88.symm
                    refine lv_iload_n X.1 X.2.1 dX12_piece_110 rfl (lv_at hl 6 rfl) ?_
                    refine k_i (rm := { frames := 2, cells := 0, slots := 0, locals := 96 }) (av := [.ref x, .int (a1), .int (i5_24), .int (v_88), .int (a3)]) X hw (va_runV (As := [.int (a1), .int (i5_24), .int (v_88), .int (a3)]) (rest := []) (cfix X) (k_X12_told l G cy κ S_1 _ x (a1) (a1_z) (i5_24) (i5_24_z) (v_88) (v_88.toInt) (a3) (a3_z) hO_2.1 t_4 hz_a1 hz_i5_24 rfl hz_a3 (by first | assumption | omega) (by first | assumption | omega) (by first | assumption | omega) (MIe_free hG ha_x hO_2.fr (by decide +kernel) hp_0) (by first | assumption | omega) (by first | assumption | omega) (by first | assumption | omega) (by first | assumption | omega)) (cwV 4 X.2.2.2.1 gX12_piece_X12_told rfl rfl rfl (by decide +kernel) ⟨Nat.le_of_ble_eq_true rfl, Nat.le_of_ble_eq_true rfl⟩) (pre_V X hw _ t_4 rfl (by decide) rfl) rfl rfl hl.1 rfl (lv_room (Nat.le_of_ble_eq_true rfl)) dX12_piece_111 ⟨Nat.le_of_ble_eq_true rfl, Nat.le_of_ble_eq_true rfl⟩) 0 0 (Nat.le_of_ble_eq_true rfl) (Nat.le_of_ble_eq_true rfl) (fun rr_90 S_91 H locs hp hw hfr hnw => ?_)
                    obtain ⟨e2, hp⟩ := hp
                    subst e2
                    have rg_92 := And.intro (z_lo rr_90) (z_hi rr_90)
                    rw [hQQ]
                    exact ret_i X hw hr hlocks (Nat.le_of_ble_eq_true rfl) (Nat.le_of_ble_eq_true rfl) ⟨hO_2, trivial⟩ dX12_piece_114
                · have z_b_93 := trivial
                  refine lv_if_ne (tgt := 81) X.1 X.2.1 dX12_piece_75 (by decide) (fun c_94 => absurd c_94 (by decide)) (fun c_94 => ?_)
                  refine lv_goto (tgt := 118) X.1 X.2.1 dX12_piece_78 (by decide) ?_
                  obtain ⟨x_95, ex_95⟩ : ∃ y : Int32, y = i6_39 + 1 := ⟨_, rfl⟩
                  have z_96 : x_95.toInt = i6_39_z + 1 := z_add ex_95 hz_i6_39 ti_1 (by omega) (by omega)
                  refine lv_iinc (v := x_95) (lv' := [(6, .int (x_95)), (4, .int (i4_38)), (5, .int (i5_24)), (0, .ref x), (1, .int (a1)), (2, .int (a2)), (3, .int (a3))]) X.1 X.2.1 dX12_piece_118 hl (k := 1) rfl (by rw [ex_95]; rfl) (by decide) rfl (fun ls hl => ?_)
                  refine lv_goto (tgt := 47) X.1 X.2.1 dX12_piece_121 (by decide) ?_
                  exact ih_L_37 _ (by omega) _ _ _ (i4_38) (i4_38_z) (x_95) (x_95.toInt) rfl hw hz_i4_38 (by omega) rfl (by omega) (lv_sub hl [1, 0, 2, 3, 4, 5, 6] rfl)
            exact L_37 _ _ _ _ (i4_23) (i4_23_z) (0) (0) rfl hw hz_i4_23 (by omega) ti_0 (by omega) (lv_sub hl [1, 0, 2, 3, 4, 5, 6] rfl)
        exact L_22 _ _ _ _ (a2) (a2_z) (0) (0) rfl hw hz_a2 (by omega) ti_0 (by omega) (lv_sub hl [1, 0, 2, 3, 4, 5] rfl)
      · have z_b_97 := trivial
        refine lv_if_ne (tgt := 28) X.1 X.2.1 dX12_piece_23 (by decide) (fun c_98 => absurd c_98 (by decide)) (fun c_98 => ?_)
        refine lv_iconst (v := (-1)) X.1 X.2.1 dX12_piece_26 (by decide) ?_
        rw [hQQ]
        exact ret_i X hw hr hlocks (Nat.le_of_ble_eq_true rfl) (Nat.le_of_ble_eq_true rfl) ⟨hO_2, trivial⟩ dX12_piece_27
  · have z_b_99 := trivial
    refine lv_if_eq (tgt := 26) X.1 X.2.1 dX12_piece_10 (by decide) (fun c_100 => ?_) (fun c_100 => absurd c_100 (by decide))
    refine lv_iconst (v := (-1)) X.1 X.2.1 dX12_piece_26 (by decide) ?_
    rw [hQQ]
    exact ret_i X hw hr hlocks (Nat.le_of_ble_eq_true rfl) (Nat.le_of_ble_eq_true rfl) ⟨hO_2, trivial⟩ dX12_piece_27
