set_option maxRecDepth 20000 in
theorem ggX12_nowFine_X12_many : GoodIn wsX12_nowFine wsX12_many := goodIn_h _ [6, 0, 24, 0, 0, 0, 0, 0, 0, 0, 0, 0, 0, 0, 0, 0, 0, 0, 0, 0, 0, 0, 0, 0, 0, 0, 0, 0, 0, 0, 0, 0, 0, 0, 0, 0, 0, 0, 0, 0, 0, 0, 0, 0, 0, 0, 0, 0, 0, 0, 0, 0, 0, 0, 0, 0, 0, 0, 0, 0, 0, 0, 0, 0, 0, 0, 0, 0] [0, 1, 2, 3, 4, 5, 6, 7, 8, 9, 10, 11, 12, 13, 14, 15, 16, 17, 18, 19, 20, 21, 22, 23, 24, 25, 26, 27, 28, 29, 30, 31, 32, 33, 34, 35, 36, 37, 38, 39, 40, 41, 42, 43, 44, 45, 46, 47, 48, 49, 50, 51, 52, 53, 54, 55, 56, 57, 58, 59, 60, 61, 62, 63, 64, 65, 66, 67] (by decide +kernel) (by decide +kernel)
set_option maxRecDepth 20000 in
theorem gX12_nowFine_X12_many : GoodIn wsX12_nowFine (wsV RX12 204 RX12 yX12_many wsX12_many) := goodIn_app (goodIn_of _ (by decide +kernel)) ggX12_nowFine_X12_many
set_option maxRecDepth 20000 in
theorem ggX12_nowFine_X12_at : GoodIn wsX12_nowFine wsX12_at := goodIn_h _ [11, 0, 19, 0, 0, 0, 0, 0, 0, 0, 0, 0, 0, 0, 0, 0, 0, 0, 0, 0, 0, 0, 0, 0, 0, 0, 0, 0, 0, 0, 0, 0, 0, 0, 0, 0, 0, 0, 0, 0, 0, 0, 0, 0, 0, 0, 0, 0, 0, 0, 0, 0, 0, 0, 0, 0, 0, 0, 0, 0, 0, 0, 0, 0, 0, 0, 0, 0] [0, 1, 2, 3, 4, 5, 6, 7, 8, 9, 10, 11, 12, 13, 14, 15, 16, 17, 18, 19, 20, 21, 22, 23, 24, 25, 26, 27, 28, 29, 30, 31, 32, 33, 34, 35, 36, 37, 38, 39, 40, 41, 42, 43, 44, 45, 46, 47, 48, 49, 50, 51, 52, 53, 54, 55, 56, 57, 58, 59, 60, 61, 62, 63, 64, 65, 66, 67] (by decide +kernel) (by decide +kernel)
set_option maxRecDepth 20000 in
theorem gX12_nowFine_X12_at : GoodIn wsX12_nowFine (wsV RX12 308 RX12 yX12_at wsX12_at) := goodIn_app (goodIn_of _ (by decide +kernel)) ggX12_nowFine_X12_at
set_option maxRecDepth 20000 in
theorem ggX12_nowFine_X12_fineOf : GoodIn wsX12_nowFine wsX12_fineOf := goodIn_h _ [5, 10, 0, 0, 0, 0, 0, 0, 0, 0, 0, 0, 0, 0, 0, 0, 0, 0, 0, 0, 0, 0, 0, 0, 0, 0, 0, 0, 0, 0, 0, 0, 0, 0, 0, 0, 0, 0, 0, 0, 0, 0, 0, 0, 0, 0, 0, 0, 0, 0, 0, 0, 0, 0, 0, 0, 0, 0, 0, 0, 0, 0, 0, 0, 0, 0, 0, 0, 0, 0, 0, 0, 0, 0, 0, 0, 0, 0, 0, 0, 0, 0, 0] [1, 2, 3, 4, 5, 6, 0, 7, 8, 9, 10, 11, 12, 13, 14, 15, 16, 17, 18, 19, 20, 21, 22, 23, 24, 25, 26, 27, 28, 29, 30, 31, 32, 33, 34, 35, 36, 37, 38, 39, 40, 41, 42, 43, 44, 45, 46, 47, 48, 49, 50, 51, 52, 53, 54, 55, 56, 57, 58, 59, 60, 61, 62, 63, 64, 65, 66, 67, 68, 69, 70, 71, 72, 73, 74, 75, 76, 77, 78, 79, 80, 81, 82] (by decide +kernel) (by decide +kernel)
set_option maxRecDepth 20000 in
theorem gX12_nowFine_X12_fineOf : GoodIn wsX12_nowFine (wsV RX12 183 RX12 yX12_fineOf wsX12_fineOf) := goodIn_app (goodIn_of _ (by decide +kernel)) ggX12_nowFine_X12_fineOf
theorem dX12_nowFine_0 : decode cX12_nowFine 0 = .ok (.iconst 0, 1) := by decide +kernel
theorem dX12_nowFine_1 : decode cX12_nowFine 1 = .ok (.istore_n 2, 1) := by decide +kernel
theorem dX12_nowFine_2 : decode cX12_nowFine 2 = .ok (.iconst 0, 1) := by decide +kernel
theorem dX12_nowFine_3 : decode cX12_nowFine 3 = .ok (.istore_n 3, 1) := by decide +kernel
theorem dX12_nowFine_4 : decode cX12_nowFine 4 = .ok (.iload_n 3, 1) := by decide +kernel
theorem dX12_nowFine_5 : decode cX12_nowFine 5 = .ok (.aload_n 0, 1) := by decide +kernel
theorem dX12_nowFine_6 : decode cX12_nowFine 6 = .ok (.iload_n 1, 1) := by decide +kernel
theorem dX12_nowFine_7 : decode cX12_nowFine 7 = .ok (.iconst 1, 1) := by decide +kernel
theorem dX12_nowFine_8 : decode cX12_nowFine 8 = .ok (.invokevirtual 204, 3) := by decide +kernel
theorem dX12_nowFine_11 : decode cX12_nowFine 11 = .ok (.if_icmp .ge 35, 3) := by decide +kernel
theorem dX12_nowFine_14 : decode cX12_nowFine 14 = .ok (.iload_n 2, 1) := by decide +kernel
theorem dX12_nowFine_15 : decode cX12_nowFine 15 = .ok (.aload_n 0, 1) := by decide +kernel
theorem dX12_nowFine_16 : decode cX12_nowFine 16 = .ok (.aload_n 0, 1) := by decide +kernel
theorem dX12_nowFine_17 : decode cX12_nowFine 17 = .ok (.iload_n 1, 1) := by decide +kernel
theorem dX12_nowFine_18 : decode cX12_nowFine 18 = .ok (.iconst 1, 1) := by decide +kernel
theorem dX12_nowFine_19 : decode cX12_nowFine 19 = .ok (.iload_n 3, 1) := by decide +kernel
theorem dX12_nowFine_20 : decode cX12_nowFine 20 = .ok (.invokevirtual 308, 3) := by decide +kernel
theorem dX12_nowFine_23 : decode cX12_nowFine 23 = .ok (.aload_n 0, 1) := by decide +kernel
theorem dX12_nowFine_24 : decode cX12_nowFine 24 = .ok (.getfield 28, 3) := by decide +kernel
theorem dX12_nowFine_27 : decode cX12_nowFine 27 = .ok (.aload_n 0, 1) := by decide +kernel
theorem dX12_nowFine_28 : decode cX12_nowFine 28 = .ok (.iload_n 1, 1) := by decide +kernel
theorem dX12_nowFine_29 : decode cX12_nowFine 29 = .ok (.iconst 1, 1) := by decide +kernel
theorem dX12_nowFine_30 : decode cX12_nowFine 30 = .ok (.iload_n 3, 1) := by decide +kernel
theorem dX12_nowFine_31 : decode cX12_nowFine 31 = .ok (.invokevirtual 308, 3) := by decide +kernel
theorem dX12_nowFine_34 : decode cX12_nowFine 34 = .ok (.iaload, 1) := by decide +kernel
theorem dX12_nowFine_35 : decode cX12_nowFine 35 = .ok (.invokevirtual 183, 3) := by decide +kernel
theorem dX12_nowFine_38 : decode cX12_nowFine 38 = .ok (.iadd, 1) := by decide +kernel
theorem dX12_nowFine_39 : decode cX12_nowFine 39 = .ok (.istore_n 2, 1) := by decide +kernel
theorem dX12_nowFine_40 : decode cX12_nowFine 40 = .ok (.iinc 3 1, 3) := by decide +kernel
theorem dX12_nowFine_43 : decode cX12_nowFine 43 = .ok (.goto (-39), 3) := by decide +kernel
theorem dX12_nowFine_46 : decode cX12_nowFine 46 = .ok (.iload_n 2, 1) := by decide +kernel
theorem dX12_nowFine_47 : decode cX12_nowFine 47 = .ok (.ireturn, 1) := by decide +kernel
set_option maxRecDepth 20000 in
theorem ggX12_thinnest_X12_many : GoodIn wsX12_thinnest wsX12_many := goodIn_h _ [6, 0, 24, 0, 0, 0, 0, 0, 0, 0, 0, 0, 0, 0, 0, 0, 0, 0, 0, 0, 0, 0, 0, 0, 0, 0, 0, 0, 0, 0, 0, 0, 0, 0, 0, 0, 0, 0, 0, 0, 0, 0, 0, 0, 0, 0, 0, 0, 0, 0, 0, 0, 0, 0, 0, 0, 0, 0, 0, 0, 0, 0, 0, 0, 0, 0, 0, 0] [0, 1, 2, 3, 4, 5, 6, 7, 8, 9, 10, 11, 12, 13, 14, 15, 16, 17, 18, 19, 20, 21, 22, 23, 24, 25, 26, 27, 28, 29, 30, 31, 32, 33, 34, 35, 36, 37, 38, 39, 40, 41, 42, 43, 44, 45, 46, 47, 48, 49, 50, 51, 52, 53, 54, 55, 56, 57, 58, 59, 60, 61, 62, 63, 64, 65, 66, 67] (by decide +kernel) (by decide +kernel)
set_option maxRecDepth 20000 in
theorem gX12_thinnest_X12_many : GoodIn wsX12_thinnest (wsV RX12 204 RX12 yX12_many wsX12_many) := goodIn_app (goodIn_of _ (by decide +kernel)) ggX12_thinnest_X12_many
set_option maxRecDepth 20000 in
theorem ggX12_thinnest_X12_at : GoodIn wsX12_thinnest wsX12_at := goodIn_h _ [11, 0, 19, 0, 0, 0, 0, 0, 0, 0, 0, 0, 0, 0, 0, 0, 0, 0, 0, 0, 0, 0, 0, 0, 0, 0, 0, 0, 0, 0, 0, 0, 0, 0, 0, 0, 0, 0, 0, 0, 0, 0, 0, 0, 0, 0, 0, 0, 0, 0, 0, 0, 0, 0, 0, 0, 0, 0, 0, 0, 0, 0, 0, 0, 0, 0, 0, 0] [0, 1, 2, 3, 4, 5, 6, 7, 8, 9, 10, 11, 12, 13, 14, 15, 16, 17, 18, 19, 20, 21, 22, 23, 24, 25, 26, 27, 28, 29, 30, 31, 32, 33, 34, 35, 36, 37, 38, 39, 40, 41, 42, 43, 44, 45, 46, 47, 48, 49, 50, 51, 52, 53, 54, 55, 56, 57, 58, 59, 60, 61, 62, 63, 64, 65, 66, 67] (by decide +kernel) (by decide +kernel)
set_option maxRecDepth 20000 in
theorem gX12_thinnest_X12_at : GoodIn wsX12_thinnest (wsV RX12 308 RX12 yX12_at wsX12_at) := goodIn_app (goodIn_of _ (by decide +kernel)) ggX12_thinnest_X12_at
set_option maxRecDepth 20000 in
theorem ggX12_thinnest_X12_fineOf : GoodIn wsX12_thinnest wsX12_fineOf := goodIn_h _ [5, 10, 0, 0, 0, 0, 0, 0, 0, 0, 0, 0, 0, 0, 0, 0, 0, 0, 0, 0, 0, 0, 0, 0, 0, 0, 0, 0, 0, 0, 0, 0, 0, 0, 0, 0, 0, 0, 0, 0, 0, 0, 0, 0, 0, 0, 0, 0, 0, 0, 0, 0, 0, 0, 0, 0, 0, 0, 0, 0, 0, 0, 0, 0, 0, 0, 0, 0, 0, 0, 0, 0, 0, 0, 0, 0, 0, 0, 0, 0, 0, 0, 0] [1, 2, 3, 4, 5, 6, 0, 7, 8, 9, 10, 11, 12, 13, 14, 15, 16, 17, 18, 19, 20, 21, 22, 23, 24, 25, 26, 27, 28, 29, 30, 31, 32, 33, 34, 35, 36, 37, 38, 39, 40, 41, 42, 43, 44, 45, 46, 47, 48, 49, 50, 51, 52, 53, 54, 55, 56, 57, 58, 59, 60, 61, 62, 63, 64, 65, 66, 67, 68, 69, 70, 71, 72, 73, 74, 75, 76, 77, 78, 79, 80, 81, 82] (by decide +kernel) (by decide +kernel)
set_option maxRecDepth 20000 in
theorem gX12_thinnest_X12_fineOf : GoodIn wsX12_thinnest (wsV RX12 183 RX12 yX12_fineOf wsX12_fineOf) := goodIn_app (goodIn_of _ (by decide +kernel)) ggX12_thinnest_X12_fineOf
theorem dX12_thinnest_0 : decode cX12_thinnest 0 = .ok (.iconst (-1), 1) := by decide +kernel
theorem dX12_thinnest_1 : decode cX12_thinnest 1 = .ok (.istore_n 2, 1) := by decide +kernel
theorem dX12_thinnest_2 : decode cX12_thinnest 2 = .ok (.aload_n 0, 1) := by decide +kernel
theorem dX12_thinnest_3 : decode cX12_thinnest 3 = .ok (.iload_n 1, 1) := by decide +kernel
theorem dX12_thinnest_4 : decode cX12_thinnest 4 = .ok (.iconst 1, 1) := by decide +kernel
theorem dX12_thinnest_5 : decode cX12_thinnest 5 = .ok (.invokevirtual 204, 3) := by decide +kernel
theorem dX12_thinnest_8 : decode cX12_thinnest 8 = .ok (.iconst 1, 1) := by decide +kernel
theorem dX12_thinnest_9 : decode cX12_thinnest 9 = .ok (.isub, 1) := by decide +kernel
theorem dX12_thinnest_10 : decode cX12_thinnest 10 = .ok (.istore_n 3, 1) := by decide +kernel
theorem dX12_thinnest_11 : decode cX12_thinnest 11 = .ok (.iload_n 3, 1) := by decide +kernel
theorem dX12_thinnest_12 : decode cX12_thinnest 12 = .ok (.ifCond .lt 65, 3) := by decide +kernel
theorem dX12_thinnest_15 : decode cX12_thinnest 15 = .ok (.iload_n 2, 1) := by decide +kernel
theorem dX12_thinnest_16 : decode cX12_thinnest 16 = .ok (.iconst (-1), 1) := by decide +kernel
theorem dX12_thinnest_17 : decode cX12_thinnest 17 = .ok (.if_icmp .eq 52, 3) := by decide +kernel
theorem dX12_thinnest_20 : decode cX12_thinnest 20 = .ok (.aload_n 0, 1) := by decide +kernel
theorem dX12_thinnest_21 : decode cX12_thinnest 21 = .ok (.aload_n 0, 1) := by decide +kernel
theorem dX12_thinnest_22 : decode cX12_thinnest 22 = .ok (.iload_n 1, 1) := by decide +kernel
theorem dX12_thinnest_23 : decode cX12_thinnest 23 = .ok (.iconst 1, 1) := by decide +kernel
theorem dX12_thinnest_24 : decode cX12_thinnest 24 = .ok (.iload_n 3, 1) := by decide +kernel
theorem dX12_thinnest_25 : decode cX12_thinnest 25 = .ok (.invokevirtual 308, 3) := by decide +kernel
theorem dX12_thinnest_28 : decode cX12_thinnest 28 = .ok (.aload_n 0, 1) := by decide +kernel
theorem dX12_thinnest_29 : decode cX12_thinnest 29 = .ok (.getfield 28, 3) := by decide +kernel
theorem dX12_thinnest_32 : decode cX12_thinnest 32 = .ok (.aload_n 0, 1) := by decide +kernel
theorem dX12_thinnest_33 : decode cX12_thinnest 33 = .ok (.iload_n 1, 1) := by decide +kernel
theorem dX12_thinnest_34 : decode cX12_thinnest 34 = .ok (.iconst 1, 1) := by decide +kernel
theorem dX12_thinnest_35 : decode cX12_thinnest 35 = .ok (.iload_n 3, 1) := by decide +kernel
theorem dX12_thinnest_36 : decode cX12_thinnest 36 = .ok (.invokevirtual 308, 3) := by decide +kernel
theorem dX12_thinnest_39 : decode cX12_thinnest 39 = .ok (.iaload, 1) := by decide +kernel
theorem dX12_thinnest_40 : decode cX12_thinnest 40 = .ok (.invokevirtual 183, 3) := by decide +kernel
theorem dX12_thinnest_43 : decode cX12_thinnest 43 = .ok (.aload_n 0, 1) := by decide +kernel
theorem dX12_thinnest_44 : decode cX12_thinnest 44 = .ok (.aload_n 0, 1) := by decide +kernel
theorem dX12_thinnest_45 : decode cX12_thinnest 45 = .ok (.iload_n 1, 1) := by decide +kernel
theorem dX12_thinnest_46 : decode cX12_thinnest 46 = .ok (.iconst 1, 1) := by decide +kernel
theorem dX12_thinnest_47 : decode cX12_thinnest 47 = .ok (.iload_n 2, 1) := by decide +kernel
theorem dX12_thinnest_48 : decode cX12_thinnest 48 = .ok (.invokevirtual 308, 3) := by decide +kernel
theorem dX12_thinnest_51 : decode cX12_thinnest 51 = .ok (.aload_n 0, 1) := by decide +kernel
theorem dX12_thinnest_52 : decode cX12_thinnest 52 = .ok (.getfield 28, 3) := by decide +kernel
theorem dX12_thinnest_55 : decode cX12_thinnest 55 = .ok (.aload_n 0, 1) := by decide +kernel
theorem dX12_thinnest_56 : decode cX12_thinnest 56 = .ok (.iload_n 1, 1) := by decide +kernel
theorem dX12_thinnest_57 : decode cX12_thinnest 57 = .ok (.iconst 1, 1) := by decide +kernel
theorem dX12_thinnest_58 : decode cX12_thinnest 58 = .ok (.iload_n 2, 1) := by decide +kernel
theorem dX12_thinnest_59 : decode cX12_thinnest 59 = .ok (.invokevirtual 308, 3) := by decide +kernel
theorem dX12_thinnest_62 : decode cX12_thinnest 62 = .ok (.iaload, 1) := by decide +kernel
theorem dX12_thinnest_63 : decode cX12_thinnest 63 = .ok (.invokevirtual 183, 3) := by decide +kernel
theorem dX12_thinnest_66 : decode cX12_thinnest 66 = .ok (.if_icmp .gt 5, 3) := by decide +kernel
theorem dX12_thinnest_69 : decode cX12_thinnest 69 = .ok (.iload_n 3, 1) := by decide +kernel
theorem dX12_thinnest_70 : decode cX12_thinnest 70 = .ok (.istore_n 2, 1) := by decide +kernel
theorem dX12_thinnest_71 : decode cX12_thinnest 71 = .ok (.iinc 3 (-1), 3) := by decide +kernel
theorem dX12_thinnest_74 : decode cX12_thinnest 74 = .ok (.goto (-63), 3) := by decide +kernel
theorem dX12_thinnest_77 : decode cX12_thinnest 77 = .ok (.iload_n 2, 1) := by decide +kernel
theorem dX12_thinnest_78 : decode cX12_thinnest 78 = .ok (.ireturn, 1) := by decide +kernel
set_option maxRecDepth 20000 in
theorem ggX12_fieldOf_X12_nowFine : GoodIn wsX12_fieldOf wsX12_nowFine := goodIn_h _ [2, 4, 0, 0, 0, 0, 0, 0, 0, 0, 0, 0, 0, 0, 0, 0, 0, 0, 0, 0, 0, 0, 0, 0, 0, 0, 0, 0, 0, 0, 0, 0, 4, 0, 0, 0, 0, 0, 0, 0, 0, 0, 0, 0, 0, 0, 0, 0, 0, 0, 0, 0, 0, 0, 0, 0, 0, 0, 0, 0, 0, 0, 0, 0, 0, 0, 0, 0, 0, 0, 0, 0, 0, 0, 0, 0, 0, 0, 0, 0, 0, 0, 0, 0, 0, 0, 0, 0, 0, 0, 0, 0, 0, 0, 0, 0, 0, 0] [2, 0, 3, 4, 5, 1, 6, 7, 8, 9, 10, 11, 12, 13, 14, 15, 16, 17, 18, 19, 20, 21, 22, 23, 24, 25, 26, 27, 28, 29, 30, 31, 32, 33, 34, 35, 36, 37, 38, 39, 40, 41, 42, 43, 44, 45, 46, 47, 48, 49, 50, 51, 52, 53, 54, 55, 56, 57, 58, 59, 60, 61, 62, 63, 64, 65, 66, 67, 68, 69, 70, 71, 72, 73, 74, 75, 76, 77, 78, 79, 80, 81, 82, 83, 84, 85, 86, 87, 88, 89, 90, 91, 92, 93, 94, 95, 96, 97] (by decide +kernel) (by decide +kernel)
set_option maxRecDepth 20000 in
theorem gX12_fieldOf_X12_nowFine : GoodIn wsX12_fieldOf (wsV RX12 311 RX12 yX12_nowFine wsX12_nowFine) := goodIn_app (goodIn_of _ (by decide +kernel)) ggX12_fieldOf_X12_nowFine
set_option maxRecDepth 20000 in
theorem ggX12_fieldOf_X12_many : GoodIn wsX12_fieldOf wsX12_many := goodIn_h _ [12, 0, 28, 0, 0, 0, 0, 0, 0, 0, 0, 0, 0, 0, 0, 0, 0, 0, 0, 0, 0, 0, 0, 0, 0, 0, 0, 0, 0, 0, 0, 0, 0, 0, 0, 0, 0, 0, 0, 0, 0, 0, 0, 0, 0, 0, 0, 0, 0, 0, 0, 0, 0, 0, 0, 0, 0, 0, 0, 0, 0, 0, 0, 0, 0, 0, 0, 0] [0, 1, 2, 3, 4, 5, 6, 7, 8, 9, 10, 11, 12, 13, 14, 15, 16, 17, 18, 19, 20, 21, 22, 23, 24, 25, 26, 27, 28, 29, 30, 31, 32, 33, 34, 35, 36, 37, 38, 39, 40, 41, 42, 43, 44, 45, 46, 47, 48, 49, 50, 51, 52, 53, 54, 55, 56, 57, 58, 59, 60, 61, 62, 63, 64, 65, 66, 67] (by decide +kernel) (by decide +kernel)
set_option maxRecDepth 20000 in
theorem gX12_fieldOf_X12_many : GoodIn wsX12_fieldOf (wsV RX12 204 RX12 yX12_many wsX12_many) := goodIn_app (goodIn_of _ (by decide +kernel)) ggX12_fieldOf_X12_many
set_option maxRecDepth 20000 in
theorem ggX12_fieldOf_X12_thinnest : GoodIn wsX12_fieldOf wsX12_thinnest := goodIn_h _ [2, 4, 1, 0, 0, 0, 0, 0, 0, 0, 0, 0, 0, 0, 0, 0, 0, 0, 0, 0, 0, 0, 0, 0, 0, 0, 0, 0, 0, 0, 0, 3, 0, 0, 0, 0, 0, 0, 0, 0, 0, 0, 0, 0, 0, 0, 0, 0, 0, 0, 0, 0, 0, 0, 0, 0, 0, 0, 0, 0, 0, 0, 0, 0, 0, 0, 0, 0, 0, 0, 0, 0, 0, 0, 0, 0, 0, 0, 0, 0, 0, 0, 0, 0, 0, 0, 0, 0, 0, 0, 0, 0, 0, 0, 0, 0, 0, 0] [31, 0, 2, 3, 4, 1, 5, 6, 7, 8, 9, 10, 11, 12, 13, 14, 15, 16, 17, 18, 19, 20, 21, 22, 23, 24, 25, 26, 27, 28, 29, 30, 32, 33, 34, 35, 36, 37, 38, 39, 40, 41, 42, 43, 44, 45, 46, 47, 48, 49, 50, 51, 52, 53, 54, 55, 56, 57, 58, 59, 60, 61, 62, 63, 64, 65, 66, 67, 68, 69, 70, 71, 72, 73, 74, 75, 76, 77, 78, 79, 80, 81, 82, 83, 84, 85, 86, 87, 88, 89, 90, 91, 92, 93, 94, 95, 96, 97] (by decide +kernel) (by decide +kernel)
set_option maxRecDepth 20000 in
theorem gX12_fieldOf_X12_thinnest : GoodIn wsX12_fieldOf (wsV RX12 314 RX12 yX12_thinnest wsX12_thinnest) := goodIn_app (goodIn_of _ (by decide +kernel)) ggX12_fieldOf_X12_thinnest
set_option maxRecDepth 20000 in
theorem ggX12_fieldOf_X12_at : GoodIn wsX12_fieldOf wsX12_at := goodIn_h _ [17, 0, 23, 0, 0, 0, 0, 0, 0, 0, 0, 0, 0, 0, 0, 0, 0, 0, 0, 0, 0, 0, 0, 0, 0, 0, 0, 0, 0, 0, 0, 0, 0, 0, 0, 0, 0, 0, 0, 0, 0, 0, 0, 0, 0, 0, 0, 0, 0, 0, 0, 0, 0, 0, 0, 0, 0, 0, 0, 0, 0, 0, 0, 0, 0, 0, 0, 0] [0, 1, 2, 3, 4, 5, 6, 7, 8, 9, 10, 11, 12, 13, 14, 15, 16, 17, 18, 19, 20, 21, 22, 23, 24, 25, 26, 27, 28, 29, 30, 31, 32, 33, 34, 35, 36, 37, 38, 39, 40, 41, 42, 43, 44, 45, 46, 47, 48, 49, 50, 51, 52, 53, 54, 55, 56, 57, 58, 59, 60, 61, 62, 63, 64, 65, 66, 67] (by decide +kernel) (by decide +kernel)
set_option maxRecDepth 20000 in
theorem gX12_fieldOf_X12_at : GoodIn wsX12_fieldOf (wsV RX12 308 RX12 yX12_at wsX12_at) := goodIn_app (goodIn_of _ (by decide +kernel)) ggX12_fieldOf_X12_at
set_option maxRecDepth 20000 in
theorem ggX12_fieldOf_X12_fineOf : GoodIn wsX12_fieldOf wsX12_fineOf := goodIn_h _ [7, 14, 0, 0, 0, 0, 0, 0, 0, 0, 0, 0, 0, 0, 0, 0, 0, 4, 0, 0, 0, 0, 0, 0, 0, 0, 0, 0, 0, 0, 0, 0, 0, 0, 0, 0, 0, 0, 0, 0, 0, 0, 0, 0, 0, 0, 0, 0, 0, 0, 0, 0, 0, 0, 0, 0, 0, 0, 0, 0, 0, 0, 0, 0, 0, 0, 0, 0, 0, 0, 0, 0, 0, 0, 0, 0, 0, 0, 0, 0, 0, 0, 0] [1, 2, 3, 4, 5, 6, 0, 7, 8, 9, 10, 11, 12, 13, 14, 15, 16, 17, 18, 19, 20, 21, 22, 23, 24, 25, 26, 27, 28, 29, 30, 31, 32, 33, 34, 35, 36, 37, 38, 39, 40, 41, 42, 43, 44, 45, 46, 47, 48, 49, 50, 51, 52, 53, 54, 55, 56, 57, 58, 59, 60, 61, 62, 63, 64, 65, 66, 67, 68, 69, 70, 71, 72, 73, 74, 75, 76, 77, 78, 79, 80, 81, 82] (by decide +kernel) (by decide +kernel)
set_option maxRecDepth 20000 in
theorem gX12_fieldOf_X12_fineOf : GoodIn wsX12_fieldOf (wsV RX12 183 RX12 yX12_fineOf wsX12_fineOf) := goodIn_app (goodIn_of _ (by decide +kernel)) ggX12_fieldOf_X12_fineOf
theorem dX12_fieldOf_0 : decode cX12_fieldOf 0 = .ok (.iload_n 2, 1) := by decide +kernel
theorem dX12_fieldOf_1 : decode cX12_fieldOf 1 = .ok (.tableswitch 118 0 5 #[39, 45, 52, 59, 66, 73], 39) := by decide +kernel
theorem dX12_fieldOf_40 : decode cX12_fieldOf 40 = .ok (.aload_n 0, 1) := by decide +kernel
theorem dX12_fieldOf_41 : decode cX12_fieldOf 41 = .ok (.iload_n 1, 1) := by decide +kernel
theorem dX12_fieldOf_42 : decode cX12_fieldOf 42 = .ok (.invokevirtual 311, 3) := by decide +kernel
theorem dX12_fieldOf_45 : decode cX12_fieldOf 45 = .ok (.ireturn, 1) := by decide +kernel
theorem dX12_fieldOf_46 : decode cX12_fieldOf 46 = .ok (.aload_n 0, 1) := by decide +kernel
theorem dX12_fieldOf_47 : decode cX12_fieldOf 47 = .ok (.iload_n 1, 1) := by decide +kernel
theorem dX12_fieldOf_48 : decode cX12_fieldOf 48 = .ok (.iconst 1, 1) := by decide +kernel
theorem dX12_fieldOf_49 : decode cX12_fieldOf 49 = .ok (.invokevirtual 204, 3) := by decide +kernel
theorem dX12_fieldOf_52 : decode cX12_fieldOf 52 = .ok (.ireturn, 1) := by decide +kernel
theorem dX12_fieldOf_53 : decode cX12_fieldOf 53 = .ok (.aload_n 0, 1) := by decide +kernel
theorem dX12_fieldOf_54 : decode cX12_fieldOf 54 = .ok (.iload_n 1, 1) := by decide +kernel
theorem dX12_fieldOf_55 : decode cX12_fieldOf 55 = .ok (.iconst 0, 1) := by decide +kernel
theorem dX12_fieldOf_56 : decode cX12_fieldOf 56 = .ok (.invokevirtual 204, 3) := by decide +kernel
theorem dX12_fieldOf_59 : decode cX12_fieldOf 59 = .ok (.ireturn, 1) := by decide +kernel
theorem dX12_fieldOf_60 : decode cX12_fieldOf 60 = .ok (.aload_n 0, 1) := by decide +kernel
theorem dX12_fieldOf_61 : decode cX12_fieldOf 61 = .ok (.iload_n 1, 1) := by decide +kernel
theorem dX12_fieldOf_62 : decode cX12_fieldOf 62 = .ok (.iconst 2, 1) := by decide +kernel
theorem dX12_fieldOf_63 : decode cX12_fieldOf 63 = .ok (.invokevirtual 204, 3) := by decide +kernel
theorem dX12_fieldOf_66 : decode cX12_fieldOf 66 = .ok (.ireturn, 1) := by decide +kernel
theorem dX12_fieldOf_67 : decode cX12_fieldOf 67 = .ok (.aload_n 0, 1) := by decide +kernel
theorem dX12_fieldOf_68 : decode cX12_fieldOf 68 = .ok (.getfield 97, 3) := by decide +kernel
theorem dX12_fieldOf_71 : decode cX12_fieldOf 71 = .ok (.iload_n 1, 1) := by decide +kernel
theorem dX12_fieldOf_72 : decode cX12_fieldOf 72 = .ok (.iaload, 1) := by decide +kernel
theorem dX12_fieldOf_73 : decode cX12_fieldOf 73 = .ok (.ireturn, 1) := by decide +kernel
theorem dX12_fieldOf_74 : decode cX12_fieldOf 74 = .ok (.aload_n 0, 1) := by decide +kernel
theorem dX12_fieldOf_75 : decode cX12_fieldOf 75 = .ok (.iload_n 1, 1) := by decide +kernel
theorem dX12_fieldOf_76 : decode cX12_fieldOf 76 = .ok (.invokevirtual 314, 3) := by decide +kernel
theorem dX12_fieldOf_79 : decode cX12_fieldOf 79 = .ok (.iconst (-1), 1) := by decide +kernel
theorem dX12_fieldOf_80 : decode cX12_fieldOf 80 = .ok (.if_icmp .ne 7, 3) := by decide +kernel
theorem dX12_fieldOf_83 : decode cX12_fieldOf 83 = .ok (.iconst 0, 1) := by decide +kernel
theorem dX12_fieldOf_84 : decode cX12_fieldOf 84 = .ok (.goto 34, 3) := by decide +kernel
theorem dX12_fieldOf_87 : decode cX12_fieldOf 87 = .ok (.aload_n 0, 1) := by decide +kernel
theorem dX12_fieldOf_88 : decode cX12_fieldOf 88 = .ok (.aload_n 0, 1) := by decide +kernel
theorem dX12_fieldOf_89 : decode cX12_fieldOf 89 = .ok (.iload_n 1, 1) := by decide +kernel
theorem dX12_fieldOf_90 : decode cX12_fieldOf 90 = .ok (.iconst 1, 1) := by decide +kernel
theorem dX12_fieldOf_91 : decode cX12_fieldOf 91 = .ok (.aload_n 0, 1) := by decide +kernel
theorem dX12_fieldOf_92 : decode cX12_fieldOf 92 = .ok (.iload_n 1, 1) := by decide +kernel
theorem dX12_fieldOf_93 : decode cX12_fieldOf 93 = .ok (.invokevirtual 314, 3) := by decide +kernel
theorem dX12_fieldOf_96 : decode cX12_fieldOf 96 = .ok (.invokevirtual 308, 3) := by decide +kernel
theorem dX12_fieldOf_99 : decode cX12_fieldOf 99 = .ok (.aload_n 0, 1) := by decide +kernel
theorem dX12_fieldOf_100 : decode cX12_fieldOf 100 = .ok (.getfield 28, 3) := by decide +kernel
theorem dX12_fieldOf_103 : decode cX12_fieldOf 103 = .ok (.aload_n 0, 1) := by decide +kernel
theorem dX12_fieldOf_104 : decode cX12_fieldOf 104 = .ok (.iload_n 1, 1) := by decide +kernel
theorem dX12_fieldOf_105 : decode cX12_fieldOf 105 = .ok (.iconst 1, 1) := by decide +kernel
theorem dX12_fieldOf_106 : decode cX12_fieldOf 106 = .ok (.aload_n 0, 1) := by decide +kernel
theorem dX12_fieldOf_107 : decode cX12_fieldOf 107 = .ok (.iload_n 1, 1) := by decide +kernel
theorem dX12_fieldOf_108 : decode cX12_fieldOf 108 = .ok (.invokevirtual 314, 3) := by decide +kernel
theorem dX12_fieldOf_111 : decode cX12_fieldOf 111 = .ok (.invokevirtual 308, 3) := by decide +kernel
theorem dX12_fieldOf_114 : decode cX12_fieldOf 114 = .ok (.iaload, 1) := by decide +kernel
theorem dX12_fieldOf_115 : decode cX12_fieldOf 115 = .ok (.invokevirtual 183, 3) := by decide +kernel
theorem dX12_fieldOf_118 : decode cX12_fieldOf 118 = .ok (.ireturn, 1) := by decide +kernel
theorem dX12_fieldOf_119 : decode cX12_fieldOf 119 = .ok (.aload_n 0, 1) := by decide +kernel
theorem dX12_fieldOf_120 : decode cX12_fieldOf 120 = .ok (.getfield 302, 3) := by decide +kernel
theorem dX12_fieldOf_123 : decode cX12_fieldOf 123 = .ok (.ireturn, 1) := by decide +kernel
set_option maxRecDepth 20000 in
theorem ggX12_holds_X12_fieldOf : GoodIn wsX12_holds wsX12_fieldOf := goodIn_h _ [8, 0, 0, 0, 0, 0, 0, 0, 0, 0, 0, 0, 0, 0, 0, 0, 0, 0, 0, 0, 0, 0, 0, 0, 0, 0, 0, 0, 0, 0, 0, 0, 0, 0, 0, 0, 0, 0, 0, 0, 0, 0, 0, 0, 0, 0, 0, 0, 0, 0, 0, 0, 0, 0, 0, 0, 0, 0, 0, 0, 0, 0, 0, 0, 0, 0, 0, 0, 0, 0, 0, 0, 0, 0, 0, 0, 0, 0, 0, 0, 0, 0, 0, 0, 0, 0, 0, 0, 0, 0, 0, 0, 0, 0, 0, 0, 0, 0, 0, 0, 0, 0, 0, 0, 0, 0, 0, 0] [1, 2, 3, 4, 5, 6, 7, 0, 8, 9, 10, 11, 12, 13, 14, 15, 16, 17, 18, 19, 20, 21, 22, 23, 24, 25, 26, 27, 28, 29, 30, 31, 32, 33, 34, 35, 36, 37, 38, 39, 40, 41, 42, 43, 44, 45, 46, 47, 48, 49, 50, 51, 52, 53, 54, 55, 56, 57, 58, 59, 60, 61, 62, 63, 64, 65, 66, 67, 68, 69, 70, 71, 72, 73, 74, 75, 76, 77, 78, 79, 80, 81, 82, 83, 84, 85, 86, 87, 88, 89, 90, 91, 92, 93, 94, 95, 96, 97, 98, 99, 100, 101, 102, 103, 104, 105, 106, 107] (by decide +kernel) (by decide +kernel)
set_option maxRecDepth 20000 in
theorem gX12_holds_X12_fieldOf : GoodIn wsX12_holds (wsV RX12 317 RX12 yX12_fieldOf wsX12_fieldOf) := goodIn_app (goodIn_of _ (by decide +kernel)) ggX12_holds_X12_fieldOf
theorem dX12_holds_0 : decode cX12_holds 0 = .ok (.iconst 1, 1) := by decide +kernel
theorem dX12_holds_1 : decode cX12_holds 1 = .ok (.istore_n 3, 1) := by decide +kernel
theorem dX12_holds_2 : decode cX12_holds 2 = .ok (.iconst 4, 1) := by decide +kernel
theorem dX12_holds_3 : decode cX12_holds 3 = .ok (.iload_n 2, 1) := by decide +kernel
theorem dX12_holds_4 : decode cX12_holds 4 = .ok (.imul, 1) := by decide +kernel
theorem dX12_holds_5 : decode cX12_holds 5 = .ok (.istore 4, 2) := by decide +kernel
theorem dX12_holds_7 : decode cX12_holds 7 = .ok (.iload 4, 2) := by decide +kernel
theorem dX12_holds_9 : decode cX12_holds 9 = .ok (.iconst 4, 1) := by decide +kernel
theorem dX12_holds_10 : decode cX12_holds 10 = .ok (.iload_n 2, 1) := by decide +kernel
theorem dX12_holds_11 : decode cX12_holds 11 = .ok (.imul, 1) := by decide +kernel
theorem dX12_holds_12 : decode cX12_holds 12 = .ok (.aload_n 0, 1) := by decide +kernel
theorem dX12_holds_13 : decode cX12_holds 13 = .ok (.getfield 70, 3) := by decide +kernel
theorem dX12_holds_16 : decode cX12_holds 16 = .ok (.iload_n 2, 1) := by decide +kernel
theorem dX12_holds_17 : decode cX12_holds 17 = .ok (.iaload, 1) := by decide +kernel
theorem dX12_holds_18 : decode cX12_holds 18 = .ok (.iadd, 1) := by decide +kernel
theorem dX12_holds_19 : decode cX12_holds 19 = .ok (.if_icmp .ge 106, 3) := by decide +kernel
theorem dX12_holds_22 : decode cX12_holds 22 = .ok (.iload_n 3, 1) := by decide +kernel
theorem dX12_holds_23 : decode cX12_holds 23 = .ok (.ifCond .eq 102, 3) := by decide +kernel
theorem dX12_holds_26 : decode cX12_holds 26 = .ok (.aload_n 0, 1) := by decide +kernel
theorem dX12_holds_27 : decode cX12_holds 27 = .ok (.iload_n 1, 1) := by decide +kernel
theorem dX12_holds_28 : decode cX12_holds 28 = .ok (.aload_n 0, 1) := by decide +kernel
theorem dX12_holds_29 : decode cX12_holds 29 = .ok (.getfield 73, 3) := by decide +kernel
theorem dX12_holds_32 : decode cX12_holds 32 = .ok (.iload 4, 2) := by decide +kernel
theorem dX12_holds_34 : decode cX12_holds 34 = .ok (.iaload, 1) := by decide +kernel
theorem dX12_holds_35 : decode cX12_holds 35 = .ok (.invokevirtual 317, 3) := by decide +kernel
theorem dX12_holds_38 : decode cX12_holds 38 = .ok (.istore 5, 2) := by decide +kernel
theorem dX12_holds_40 : decode cX12_holds 40 = .ok (.aload_n 0, 1) := by decide +kernel
theorem dX12_holds_41 : decode cX12_holds 41 = .ok (.getfield 76, 3) := by decide +kernel
theorem dX12_holds_44 : decode cX12_holds 44 = .ok (.iload 4, 2) := by decide +kernel
theorem dX12_holds_46 : decode cX12_holds 46 = .ok (.iaload, 1) := by decide +kernel
theorem dX12_holds_47 : decode cX12_holds 47 = .ok (.ifCond .ne 23, 3) := by decide +kernel
theorem dX12_holds_50 : decode cX12_holds 50 = .ok (.iload 5, 2) := by decide +kernel
theorem dX12_holds_52 : decode cX12_holds 52 = .ok (.aload_n 0, 1) := by decide +kernel
theorem dX12_holds_53 : decode cX12_holds 53 = .ok (.getfield 79, 3) := by decide +kernel
theorem dX12_holds_56 : decode cX12_holds 56 = .ok (.iload 4, 2) := by decide +kernel
theorem dX12_holds_58 : decode cX12_holds 58 = .ok (.iaload, 1) := by decide +kernel
theorem dX12_holds_59 : decode cX12_holds 59 = .ok (.if_icmp .ge 7, 3) := by decide +kernel
theorem dX12_holds_62 : decode cX12_holds 62 = .ok (.iconst 1, 1) := by decide +kernel
theorem dX12_holds_63 : decode cX12_holds 63 = .ok (.goto 55, 3) := by decide +kernel
theorem dX12_holds_66 : decode cX12_holds 66 = .ok (.iconst 0, 1) := by decide +kernel
theorem dX12_holds_67 : decode cX12_holds 67 = .ok (.goto 51, 3) := by decide +kernel
theorem dX12_holds_70 : decode cX12_holds 70 = .ok (.aload_n 0, 1) := by decide +kernel
theorem dX12_holds_71 : decode cX12_holds 71 = .ok (.getfield 76, 3) := by decide +kernel
theorem dX12_holds_74 : decode cX12_holds 74 = .ok (.iload 4, 2) := by decide +kernel
theorem dX12_holds_76 : decode cX12_holds 76 = .ok (.iaload, 1) := by decide +kernel
theorem dX12_holds_77 : decode cX12_holds 77 = .ok (.iconst 1, 1) := by decide +kernel
theorem dX12_holds_78 : decode cX12_holds 78 = .ok (.if_icmp .ne 23, 3) := by decide +kernel
theorem dX12_holds_81 : decode cX12_holds 81 = .ok (.iload 5, 2) := by decide +kernel
theorem dX12_holds_83 : decode cX12_holds 83 = .ok (.aload_n 0, 1) := by decide +kernel
theorem dX12_holds_84 : decode cX12_holds 84 = .ok (.getfield 79, 3) := by decide +kernel
theorem dX12_holds_87 : decode cX12_holds 87 = .ok (.iload 4, 2) := by decide +kernel
theorem dX12_holds_89 : decode cX12_holds 89 = .ok (.iaload, 1) := by decide +kernel
theorem dX12_holds_90 : decode cX12_holds 90 = .ok (.if_icmp .ne 7, 3) := by decide +kernel
theorem dX12_holds_93 : decode cX12_holds 93 = .ok (.iconst 1, 1) := by decide +kernel
theorem dX12_holds_94 : decode cX12_holds 94 = .ok (.goto 24, 3) := by decide +kernel
theorem dX12_holds_97 : decode cX12_holds 97 = .ok (.iconst 0, 1) := by decide +kernel
theorem dX12_holds_98 : decode cX12_holds 98 = .ok (.goto 20, 3) := by decide +kernel
theorem dX12_holds_101 : decode cX12_holds 101 = .ok (.iload 5, 2) := by decide +kernel
theorem dX12_holds_103 : decode cX12_holds 103 = .ok (.aload_n 0, 1) := by decide +kernel
theorem dX12_holds_104 : decode cX12_holds 104 = .ok (.getfield 79, 3) := by decide +kernel
theorem dX12_holds_107 : decode cX12_holds 107 = .ok (.iload 4, 2) := by decide +kernel
theorem dX12_holds_109 : decode cX12_holds 109 = .ok (.iaload, 1) := by decide +kernel
theorem dX12_holds_110 : decode cX12_holds 110 = .ok (.if_icmp .le 7, 3) := by decide +kernel
theorem dX12_holds_113 : decode cX12_holds 113 = .ok (.iconst 1, 1) := by decide +kernel
theorem dX12_holds_114 : decode cX12_holds 114 = .ok (.goto 4, 3) := by decide +kernel
theorem dX12_holds_117 : decode cX12_holds 117 = .ok (.iconst 0, 1) := by decide +kernel
theorem dX12_holds_118 : decode cX12_holds 118 = .ok (.istore_n 3, 1) := by decide +kernel
theorem dX12_holds_119 : decode cX12_holds 119 = .ok (.iinc 4 1, 3) := by decide +kernel
theorem dX12_holds_122 : decode cX12_holds 122 = .ok (.goto (-115), 3) := by decide +kernel
theorem dX12_holds_125 : decode cX12_holds 125 = .ok (.iload_n 3, 1) := by decide +kernel
theorem dX12_holds_126 : decode cX12_holds 126 = .ok (.ireturn, 1) := by decide +kernel
set_option maxRecDepth 20000 in
theorem ggX12_about_X12_isPot : GoodIn wsX12_about wsX12_isPot := goodIn_h _ [12, 0, 0, 0, 0, 0, 34, 0, 0, 0, 0, 0, 0, 0, 0, 0, 0, 0, 0, 0, 0, 0, 0, 0, 0, 0, 0, 0, 0, 0, 0, 0, 0, 0, 0, 0, 0, 0, 0, 0, 0, 0, 0, 0, 0, 0, 0, 0, 0, 0, 0, 0, 0, 0, 0, 0, 0, 0, 0, 0, 0, 0, 0, 0, 0, 0, 0, 0, 0, 0, 0, 0] [1, 2, 3, 4, 0, 5, 6, 7, 8, 9, 10, 11, 12, 13, 14, 15, 16, 17, 18, 19, 20, 21, 22, 23, 24, 25, 26, 27, 28, 29, 30, 31, 32, 33, 34, 35, 36, 37, 38, 39, 40, 41, 42, 43, 44, 45, 46, 47, 48, 49, 50, 51, 52, 53, 54, 55, 56, 57, 58, 59, 60, 61, 62, 63, 64, 65, 66, 67, 68, 69, 70, 71] (by decide +kernel) (by decide +kernel)
set_option maxRecDepth 20000 in
theorem gX12_about_X12_isPot : GoodIn wsX12_about (wsV RX12 200 RX12 yX12_isPot wsX12_isPot) := goodIn_app (goodIn_of _ (by decide +kernel)) ggX12_about_X12_isPot
set_option maxRecDepth 20000 in
theorem ggX12_about_X12_many : GoodIn wsX12_about wsX12_many := goodIn_h _ [21, 0, 29, 0, 0, 0, 0, 0, 0, 0, 0, 0, 0, 0, 0, 0, 0, 0, 0, 0, 0, 0, 0, 0, 0, 0, 0, 0, 0, 0, 0, 0, 0, 0, 0, 0, 0, 0, 0, 0, 0, 0, 0, 0, 0, 0, 0, 0, 0, 0, 0, 0, 0, 0, 0, 0, 0, 0, 0, 0, 0, 0, 0, 0, 0, 0, 0, 0] [0, 1, 2, 3, 4, 5, 6, 7, 8, 9, 10, 11, 12, 13, 14, 15, 16, 17, 18, 19, 20, 21, 22, 23, 24, 25, 26, 27, 28, 29, 30, 31, 32, 33, 34, 35, 36, 37, 38, 39, 40, 41, 42, 43, 44, 45, 46, 47, 48, 49, 50, 51, 52, 53, 54, 55, 56, 57, 58, 59, 60, 61, 62, 63, 64, 65, 66, 67] (by decide +kernel) (by decide +kernel)
set_option maxRecDepth 20000 in
theorem gX12_about_X12_many : GoodIn wsX12_about (wsV RX12 204 RX12 yX12_many wsX12_many) := goodIn_app (goodIn_of _ (by decide +kernel)) ggX12_about_X12_many
set_option maxRecDepth 20000 in
theorem ggX12_about_X12_nowFine : GoodIn wsX12_about wsX12_nowFine := goodIn_h _ [12, 5, 0, 0, 0, 0, 3, 0, 0, 0, 0, 0, 0, 0, 0, 0, 0, 0, 0, 0, 0, 0, 0, 0, 0, 0, 0, 0, 0, 0, 0, 0, 0, 0, 0, 0, 0, 0, 0, 0, 0, 0, 0, 0, 0, 0, 0, 0, 0, 0, 0, 0, 0, 0, 0, 0, 0, 0, 0, 0, 0, 0, 0, 0, 0, 0, 0, 0, 0, 0, 0, 0, 0, 0, 0, 0, 0, 0, 0, 0, 0, 0, 0, 0, 0, 0, 0, 0, 0, 0, 0, 0, 0, 0, 0, 0, 0, 0] [6, 7, 1, 2, 3, 0, 4, 5, 8, 9, 10, 11, 12, 13, 14, 15, 16, 17, 18, 19, 20, 21, 22, 23, 24, 25, 26, 27, 28, 29, 30, 31, 32, 33, 34, 35, 36, 37, 38, 39, 40, 41, 42, 43, 44, 45, 46, 47, 48, 49, 50, 51, 52, 53, 54, 55, 56, 57, 58, 59, 60, 61, 62, 63, 64, 65, 66, 67, 68, 69, 70, 71, 72, 73, 74, 75, 76, 77, 78, 79, 80, 81, 82, 83, 84, 85, 86, 87, 88, 89, 90, 91, 92, 93, 94, 95, 96, 97] (by decide +kernel) (by decide +kernel)
set_option maxRecDepth 20000 in
theorem gX12_about_X12_nowFine : GoodIn wsX12_about (wsV RX12 311 RX12 yX12_nowFine wsX12_nowFine) := goodIn_app (goodIn_of _ (by decide +kernel)) ggX12_about_X12_nowFine
theorem dX12_about_0 : decode cX12_about 0 = .ok (.aload_n 0, 1) := by decide +kernel
theorem dX12_about_1 : decode cX12_about 1 = .ok (.iconst 0, 1) := by decide +kernel
theorem dX12_about_2 : decode cX12_about 2 = .ok (.putfield 161, 3) := by decide +kernel
theorem dX12_about_5 : decode cX12_about 5 = .ok (.aload_n 0, 1) := by decide +kernel
theorem dX12_about_6 : decode cX12_about 6 = .ok (.iload_n 1, 1) := by decide +kernel
theorem dX12_about_7 : decode cX12_about 7 = .ok (.invokevirtual 200, 3) := by decide +kernel
theorem dX12_about_10 : decode cX12_about 10 = .ok (.ifCond .ne 5, 3) := by decide +kernel
theorem dX12_about_13 : decode cX12_about 13 = .ok (.iconst (-1), 1) := by decide +kernel
theorem dX12_about_14 : decode cX12_about 14 = .ok (.ireturn, 1) := by decide +kernel
theorem dX12_about_15 : decode cX12_about 15 = .ok (.iload_n 2, 1) := by decide +kernel
theorem dX12_about_16 : decode cX12_about 16 = .ok (.tableswitch 122 0 10 #[60, 60, 60, 67, 74, 81, 88, 94, 101, 108, 115], 60) := by decide +kernel
theorem dX12_about_76 : decode cX12_about 76 = .ok (.aload_n 0, 1) := by decide +kernel
theorem dX12_about_77 : decode cX12_about 77 = .ok (.iload_n 1, 1) := by decide +kernel
theorem dX12_about_78 : decode cX12_about 78 = .ok (.iload_n 2, 1) := by decide +kernel
theorem dX12_about_79 : decode cX12_about 79 = .ok (.invokevirtual 204, 3) := by decide +kernel
theorem dX12_about_82 : decode cX12_about 82 = .ok (.ireturn, 1) := by decide +kernel
theorem dX12_about_83 : decode cX12_about 83 = .ok (.aload_n 0, 1) := by decide +kernel
theorem dX12_about_84 : decode cX12_about 84 = .ok (.getfield 97, 3) := by decide +kernel
theorem dX12_about_87 : decode cX12_about 87 = .ok (.iload_n 1, 1) := by decide +kernel
theorem dX12_about_88 : decode cX12_about 88 = .ok (.iaload, 1) := by decide +kernel
theorem dX12_about_89 : decode cX12_about 89 = .ok (.ireturn, 1) := by decide +kernel
theorem dX12_about_90 : decode cX12_about 90 = .ok (.aload_n 0, 1) := by decide +kernel
theorem dX12_about_91 : decode cX12_about 91 = .ok (.getfield 46, 3) := by decide +kernel
theorem dX12_about_94 : decode cX12_about 94 = .ok (.iload_n 1, 1) := by decide +kernel
theorem dX12_about_95 : decode cX12_about 95 = .ok (.iaload, 1) := by decide +kernel
theorem dX12_about_96 : decode cX12_about 96 = .ok (.ireturn, 1) := by decide +kernel
theorem dX12_about_97 : decode cX12_about 97 = .ok (.aload_n 0, 1) := by decide +kernel
theorem dX12_about_98 : decode cX12_about 98 = .ok (.getfield 43, 3) := by decide +kernel
theorem dX12_about_101 : decode cX12_about 101 = .ok (.iload_n 1, 1) := by decide +kernel
theorem dX12_about_102 : decode cX12_about 102 = .ok (.iaload, 1) := by decide +kernel
theorem dX12_about_103 : decode cX12_about 103 = .ok (.ireturn, 1) := by decide +kernel
theorem dX12_about_104 : decode cX12_about 104 = .ok (.aload_n 0, 1) := by decide +kernel
theorem dX12_about_105 : decode cX12_about 105 = .ok (.iload_n 1, 1) := by decide +kernel
theorem dX12_about_106 : decode cX12_about 106 = .ok (.invokevirtual 311, 3) := by decide +kernel
theorem dX12_about_109 : decode cX12_about 109 = .ok (.ireturn, 1) := by decide +kernel
theorem dX12_about_110 : decode cX12_about 110 = .ok (.aload_n 0, 1) := by decide +kernel
theorem dX12_about_111 : decode cX12_about 111 = .ok (.getfield 49, 3) := by decide +kernel
theorem dX12_about_114 : decode cX12_about 114 = .ok (.iload_n 1, 1) := by decide +kernel
theorem dX12_about_115 : decode cX12_about 115 = .ok (.iaload, 1) := by decide +kernel
theorem dX12_about_116 : decode cX12_about 116 = .ok (.ireturn, 1) := by decide +kernel
theorem dX12_about_117 : decode cX12_about 117 = .ok (.aload_n 0, 1) := by decide +kernel
theorem dX12_about_118 : decode cX12_about 118 = .ok (.getfield 52, 3) := by decide +kernel
theorem dX12_about_121 : decode cX12_about 121 = .ok (.iload_n 1, 1) := by decide +kernel
theorem dX12_about_122 : decode cX12_about 122 = .ok (.iaload, 1) := by decide +kernel
theorem dX12_about_123 : decode cX12_about 123 = .ok (.ireturn, 1) := by decide +kernel
theorem dX12_about_124 : decode cX12_about 124 = .ok (.aload_n 0, 1) := by decide +kernel
theorem dX12_about_125 : decode cX12_about 125 = .ok (.getfield 61, 3) := by decide +kernel
theorem dX12_about_128 : decode cX12_about 128 = .ok (.iload_n 1, 1) := by decide +kernel
theorem dX12_about_129 : decode cX12_about 129 = .ok (.iaload, 1) := by decide +kernel
theorem dX12_about_130 : decode cX12_about 130 = .ok (.ireturn, 1) := by decide +kernel
theorem dX12_about_131 : decode cX12_about 131 = .ok (.aload_n 0, 1) := by decide +kernel
theorem dX12_about_132 : decode cX12_about 132 = .ok (.getfield 37, 3) := by decide +kernel
theorem dX12_about_135 : decode cX12_about 135 = .ok (.iload_n 1, 1) := by decide +kernel
theorem dX12_about_136 : decode cX12_about 136 = .ok (.iaload, 1) := by decide +kernel
theorem dX12_about_137 : decode cX12_about 137 = .ok (.ireturn, 1) := by decide +kernel
theorem dX12_about_138 : decode cX12_about 138 = .ok (.iconst (-1), 1) := by decide +kernel
theorem dX12_about_139 : decode cX12_about 139 = .ok (.ireturn, 1) := by decide +kernel
set_option maxRecDepth 20000 in
theorem ggX12_in_X12_isPot : GoodIn wsX12_in wsX12_isPot := goodIn_h _ [5, 0, 0, 0, 0, 0, 10, 0, 0, 0, 0, 0, 0, 0, 0, 0, 0, 0, 0, 0, 0, 0, 0, 0, 0, 0, 0, 0, 0, 0, 0, 0, 0, 0, 0, 0, 0, 0, 0, 0, 0, 0, 0, 0, 0, 0, 0, 0, 0, 0, 0, 0, 0, 0, 0, 0, 0, 0, 0, 0, 0, 0, 0, 0, 0, 0, 0, 0, 0, 0, 0, 0] [1, 2, 3, 4, 0, 5, 6, 7, 8, 9, 10, 11, 12, 13, 14, 15, 16, 17, 18, 19, 20, 21, 22, 23, 24, 25, 26, 27, 28, 29, 30, 31, 32, 33, 34, 35, 36, 37, 38, 39, 40, 41, 42, 43, 44, 45, 46, 47, 48, 49, 50, 51, 52, 53, 54, 55, 56, 57, 58, 59, 60, 61, 62, 63, 64, 65, 66, 67, 68, 69, 70, 71] (by decide +kernel) (by decide +kernel)
set_option maxRecDepth 20000 in
theorem gX12_in_X12_isPot : GoodIn wsX12_in (wsV RX12 200 RX12 yX12_isPot wsX12_isPot) := goodIn_app (goodIn_of _ (by decide +kernel)) ggX12_in_X12_isPot
set_option maxRecDepth 20000 in
theorem ggX12_in_X12_within : GoodIn wsX12_in wsX12_within := goodIn_h _ [10] [0] (by decide +kernel) (by decide +kernel)
set_option maxRecDepth 20000 in
theorem gX12_in_X12_within : GoodIn wsX12_in (va_wsS RX12 168 yX12_within wsX12_within) := goodIn_app (goodIn_of _ (by decide +kernel)) ggX12_in_X12_within
set_option maxRecDepth 20000 in
theorem ggX12_in_X12_many : GoodIn wsX12_in wsX12_many := goodIn_h _ [14, 0, 5, 0, 0, 0, 0, 0, 0, 0, 0, 0, 0, 0, 0, 0, 0, 0, 0, 0, 0, 0, 0, 0, 0, 0, 0, 0, 0, 0, 0, 0, 0, 0, 0, 0, 0, 0, 0, 0, 0, 0, 0, 0, 0, 0, 0, 0, 0, 0, 0, 0, 0, 0, 0, 0, 0, 0, 0, 0, 0, 0, 0, 0, 0, 0, 0, 0] [0, 1, 2, 3, 4, 5, 6, 7, 8, 9, 10, 11, 12, 13, 14, 15, 16, 17, 18, 19, 20, 21, 22, 23, 24, 25, 26, 27, 28, 29, 30, 31, 32, 33, 34, 35, 36, 37, 38, 39, 40, 41, 42, 43, 44, 45, 46, 47, 48, 49, 50, 51, 52, 53, 54, 55, 56, 57, 58, 59, 60, 61, 62, 63, 64, 65, 66, 67] (by decide +kernel) (by decide +kernel)
set_option maxRecDepth 20000 in
theorem gX12_in_X12_many : GoodIn wsX12_in (wsV RX12 204 RX12 yX12_many wsX12_many) := goodIn_app (goodIn_of _ (by decide +kernel)) ggX12_in_X12_many
set_option maxRecDepth 20000 in
theorem ggX12_in_X12_at : GoodIn wsX12_in wsX12_at := goodIn_h _ [19, 0, 0, 0, 0, 0, 0, 0, 0, 0, 0, 0, 0, 0, 0, 0, 0, 0, 0, 0, 0, 0, 0, 0, 0, 0, 0, 0, 0, 0, 0, 0, 0, 0, 0, 0, 0, 0, 0, 0, 0, 0, 0, 0, 0, 0, 0, 0, 0, 0, 0, 0, 0, 0, 0, 0, 0, 0, 0, 0, 0, 0, 0, 0, 0, 0, 0, 0] [0, 1, 2, 3, 4, 5, 6, 7, 8, 9, 10, 11, 12, 13, 14, 15, 16, 17, 18, 19, 20, 21, 22, 23, 24, 25, 26, 27, 28, 29, 30, 31, 32, 33, 34, 35, 36, 37, 38, 39, 40, 41, 42, 43, 44, 45, 46, 47, 48, 49, 50, 51, 52, 53, 54, 55, 56, 57, 58, 59, 60, 61, 62, 63, 64, 65, 66, 67] (by decide +kernel) (by decide +kernel)
set_option maxRecDepth 20000 in
theorem gX12_in_X12_at : GoodIn wsX12_in (wsV RX12 308 RX12 yX12_at wsX12_at) := goodIn_app (goodIn_of _ (by decide +kernel)) ggX12_in_X12_at
theorem dX12_in_0 : decode cX12_in 0 = .ok (.aload_n 0, 1) := by decide +kernel
theorem dX12_in_1 : decode cX12_in 1 = .ok (.iload_n 1, 1) := by decide +kernel
theorem dX12_in_2 : decode cX12_in 2 = .ok (.invokevirtual 200, 3) := by decide +kernel
theorem dX12_in_5 : decode cX12_in 5 = .ok (.ifCond .eq 32, 3) := by decide +kernel
theorem dX12_in_8 : decode cX12_in 8 = .ok (.iload_n 2, 1) := by decide +kernel
theorem dX12_in_9 : decode cX12_in 9 = .ok (.iconst 0, 1) := by decide +kernel
theorem dX12_in_10 : decode cX12_in 10 = .ok (.iconst 2, 1) := by decide +kernel
theorem dX12_in_11 : decode cX12_in 11 = .ok (.invokestatic 168, 3) := by decide +kernel
theorem dX12_in_14 : decode cX12_in 14 = .ok (.ifCond .eq 23, 3) := by decide +kernel
theorem dX12_in_17 : decode cX12_in 17 = .ok (.iload_n 3, 1) := by decide +kernel
theorem dX12_in_18 : decode cX12_in 18 = .ok (.iconst 0, 1) := by decide +kernel
theorem dX12_in_19 : decode cX12_in 19 = .ok (.aload_n 0, 1) := by decide +kernel
theorem dX12_in_20 : decode cX12_in 20 = .ok (.iload_n 1, 1) := by decide +kernel
theorem dX12_in_21 : decode cX12_in 21 = .ok (.iload_n 2, 1) := by decide +kernel
theorem dX12_in_22 : decode cX12_in 22 = .ok (.invokevirtual 204, 3) := by decide +kernel
theorem dX12_in_25 : decode cX12_in 25 = .ok (.iconst 1, 1) := by decide +kernel
theorem dX12_in_26 : decode cX12_in 26 = .ok (.isub, 1) := by decide +kernel
theorem dX12_in_27 : decode cX12_in 27 = .ok (.invokestatic 168, 3) := by decide +kernel
theorem dX12_in_30 : decode cX12_in 30 = .ok (.ifCond .eq 7, 3) := by decide +kernel
theorem dX12_in_33 : decode cX12_in 33 = .ok (.iconst 1, 1) := by decide +kernel
theorem dX12_in_34 : decode cX12_in 34 = .ok (.goto 4, 3) := by decide +kernel
theorem dX12_in_37 : decode cX12_in 37 = .ok (.iconst 0, 1) := by decide +kernel
theorem dX12_in_38 : decode cX12_in 38 = .ok (.istore 4, 2) := by decide +kernel
theorem dX12_in_40 : decode cX12_in 40 = .ok (.aload_n 0, 1) := by decide +kernel
theorem dX12_in_41 : decode cX12_in 41 = .ok (.iload 4, 2) := by decide +kernel
theorem dX12_in_43 : decode cX12_in 43 = .ok (.ifCond .eq 7, 3) := by decide +kernel
theorem dX12_in_46 : decode cX12_in 46 = .ok (.iconst 0, 1) := by decide +kernel
theorem dX12_in_47 : decode cX12_in 47 = .ok (.goto 4, 3) := by decide +kernel
theorem dX12_in_50 : decode cX12_in 50 = .ok (.iconst 1, 1) := by decide +kernel
theorem dX12_in_51 : decode cX12_in 51 = .ok (.putfield 161, 3) := by decide +kernel
theorem dX12_in_54 : decode cX12_in 54 = .ok (.iload 4, 2) := by decide +kernel
theorem dX12_in_56 : decode cX12_in 56 = .ok (.ifCond .eq 30, 3) := by decide +kernel
theorem dX12_in_59 : decode cX12_in 59 = .ok (.aload_n 0, 1) := by decide +kernel
theorem dX12_in_60 : decode cX12_in 60 = .ok (.iload_n 1, 1) := by decide +kernel
theorem dX12_in_61 : decode cX12_in 61 = .ok (.iload_n 2, 1) := by decide +kernel
theorem dX12_in_62 : decode cX12_in 62 = .ok (.iload_n 3, 1) := by decide +kernel
theorem dX12_in_63 : decode cX12_in 63 = .ok (.invokevirtual 308, 3) := by decide +kernel
theorem dX12_in_66 : decode cX12_in 66 = .ok (.bipush 60, 2) := by decide +kernel
theorem dX12_in_68 : decode cX12_in 68 = .ok (.idiv, 1) := by decide +kernel
theorem dX12_in_69 : decode cX12_in 69 = .ok (.bipush 100, 2) := by decide +kernel
theorem dX12_in_71 : decode cX12_in 71 = .ok (.imul, 1) := by decide +kernel
theorem dX12_in_72 : decode cX12_in 72 = .ok (.aload_n 0, 1) := by decide +kernel
theorem dX12_in_73 : decode cX12_in 73 = .ok (.iload_n 1, 1) := by decide +kernel
theorem dX12_in_74 : decode cX12_in 74 = .ok (.iload_n 2, 1) := by decide +kernel
theorem dX12_in_75 : decode cX12_in 75 = .ok (.iload_n 3, 1) := by decide +kernel
theorem dX12_in_76 : decode cX12_in 76 = .ok (.invokevirtual 308, 3) := by decide +kernel
theorem dX12_in_79 : decode cX12_in 79 = .ok (.bipush 60, 2) := by decide +kernel
theorem dX12_in_81 : decode cX12_in 81 = .ok (.irem, 1) := by decide +kernel
theorem dX12_in_82 : decode cX12_in 82 = .ok (.iadd, 1) := by decide +kernel
theorem dX12_in_83 : decode cX12_in 83 = .ok (.goto 4, 3) := by decide +kernel
theorem dX12_in_86 : decode cX12_in 86 = .ok (.iconst 0, 1) := by decide +kernel
theorem dX12_in_87 : decode cX12_in 87 = .ok (.ireturn, 1) := by decide +kernel
theorem inn_X12_about_12 : ∀ w ∈ u_ws RX12 TX12 66, w ∈ wsX12_about := fun w h => List.mem_cons_of_mem _ (List.mem_append_right _ h)
theorem inn_X12_fieldOf_12 : ∀ w ∈ u_ws RX12 TX12 66, w ∈ wsX12_fieldOf := fun w h => List.mem_cons_of_mem _ (List.mem_append_right _ h)
theorem inn_X12_holds_12 : ∀ w ∈ u_ws RX12 TX12 66, w ∈ wsX12_holds := fun w h => List.mem_cons_of_mem _ (List.mem_append_right _ h)
theorem inn_X12_in_12 : ∀ w ∈ u_ws RX12 TX12 66, w ∈ wsX12_in := fun w h => List.mem_cons_of_mem _ (List.mem_append_right _ h)
theorem inn_X12_nowFine_12 : ∀ w ∈ u_ws RX12 TX12 66, w ∈ wsX12_nowFine := fun w h => List.mem_cons_of_mem _ (List.mem_append_right _ h)
theorem inn_X12_thinnest_12 : ∀ w ∈ u_ws RX12 TX12 66, w ∈ wsX12_thinnest := fun w h => List.mem_cons_of_mem _ (List.mem_append_right _ h)
set_option maxHeartbeats 4000000 in
set_option maxRecDepth 100000 in
theorem k_X12_fineOf2 (l : Launch) (G : va_G) (cy : Nat → ClassId) (κ : Nat → Nat) (S : PS) (sz : Nat) (x : Nat) (a1 : Int32) (a1_z : Int) (a2 : Int32) (a2_z : Int) (hG : GX S) (ha_x : At S x 12) (hz_a1 : a1.toInt = a1_z) (hz_a2 : a2.toInt = a2_z) (hp_0 : 0 ≤ a1_z) (hp_1 : a1_z ≤ 599) (hp_2 : 0 ≤ a2_z) (hp_3 : a2_z ≤ 219) (hp_4 : a2_z < lenZ S x a1_z) : Ci l yX12_fineOf wsX12_fineOf ({ frames := 3, cells := 0, slots := 0, locals := 144 }) G cy κ S sz [.ref x, .int (a1), .int (a2)] (fun (r : Int32) (S9 : PS) => S = S9 ∧ (-2147483648 ≤ r.toInt ∧ r.toInt ≤ 2147483647 ∧ r.toInt = fnZ S x a1_z a2_z)) := by
  refine ent_m (cc := cX12_fineOf) (maxL := 6) (ret := (some .int)) (by decide) rfl (Nat.le_of_ble_eq_true rfl) ?_
  intro p e s m below meth c ls X hr hlocks hin hw hl hsz
  subst hsz
  have X : Cx p c cX12_fineOf 6 s [.ref x, .int (a1), .int (a2)].toArray wsX12_fineOf RX12 m G cy κ (AS S s.heap.size) := X
  have hl : lv_has ls 6 [(0, .ref x), (1, .int (a1)), (2, .int (a2))] := hl
  have rg_a1 : (-2147483648) ≤ a1_z ∧ a1_z ≤ 2147483647 := by rw [← hz_a1]; exact ⟨z_lo _, z_hi _⟩
  have rg_a2 : (-2147483648) ≤ a2_z ∧ a2_z ≤ 2147483647 := by rw [← hz_a2]; exact ⟨z_lo _, z_hi _⟩
  refine lv_iload_n X.1 X.2.1 dX12_fineOf_0 rfl (lv_at hl 1 rfl) ?_
  refine lv_bipush (v := 60) X.1 X.2.1 dX12_fineOf_1 (by decide) ?_
  refine lv_idiv X.1 X.2.1 dX12_fineOf_3 (by decide) ?_
  refine lv_topi (fun v_1 ev_1 => ?_)
  have z_2 : v_1.toInt = a1_z / 60 := z_div ev_1 hz_a1 ti_60 (by omega) (by omega)
  refine lv_istore_n (lv' := [(3, .int (v_1)), (0, .ref x), (1, .int (a1)), (2, .int (a2))]) X.1 X.2.1 dX12_fineOf_4 rfl hl (by decide) rfl (fun ls hl => ?_)
  refine lv_aload_n X.1 X.2.1 dX12_fineOf_5 rfl (lv_at hl 1 rfl) ?_
  obtain ⟨q_3, h_4, h_5, h_6⟩ := gQ_12_1203 hG ha_x
  refine r_getR (g := 1203) X hw ha_x rfl 3 h_4 (by decide) rfl inn_X12_fineOf_12 (by decide) (X.2.2.2.1 (.fieldLink RX12 13 "SilkMillModel" "lotSeed" "[I") (by decide +kernel)) rfl (gv_1203 _ _) dX12_fineOf_6 ?_
  refine lv_iload_n X.1 X.2.1 dX12_fineOf_9 rfl (lv_at hl 0 rfl) ?_
  refine r_iald X hw h_5 rfl (by rw [h_6]; exact z_ix z_2 (by omega) (by omega)) dX12_fineOf_10 ?_
  refine lv_topi (fun v_7 ev_7 => ?_)
  have rg_8 := And.intro (z_lo v_7) (z_hi v_7)
  have ev_7 := ev_7.symm
  refine lv_sipush (v := 7919) X.1 X.2.1 dX12_fineOf_11 (by decide) ?_
  refine lv_iload_n X.1 X.2.1 dX12_fineOf_14 rfl (lv_at hl 2 rfl) ?_
  refine lv_bipush (v := 60) X.1 X.2.1 dX12_fineOf_15 (by decide) ?_
  refine lv_irem X.1 X.2.1 dX12_fineOf_17 (by decide) ?_
  refine lv_topi (fun v_9 ev_9 => ?_)
  have z_10 : v_9.toInt = a1_z % 60 := z_rem ev_9 hz_a1 ti_60 (by omega) (by omega)
  have z_11 : 0 ≤ v_9.toInt ∧ v_9.toInt < 60 := by rw [z_10]; exact ⟨Int.emod_nonneg _ (by omega), Int.emod_lt_of_pos _ (by omega)⟩
  refine lv_imul X.1 X.2.1 dX12_fineOf_18 ?_
  refine lv_topi (fun v_12 ev_12 => ?_)
  have z_13 : v_12.toInt = 7919 * (a1_z % 60) := z_mul ev_12 ti_7919 z_10 (by omega) (by omega)
  refine lv_iadd X.1 X.2.1 dX12_fineOf_19 ?_
  refine lv_topi (fun v_14 ev_14 => ?_)
  have rg_15 := And.intro (z_lo v_14) (z_hi v_14)
  refine k_i (rm := { frames := 1, cells := 0, slots := 0, locals := 48 }) (av := [.int (v_14)]) X hw (va_runS (As := [.int (v_14)]) (rest := []) (cfix X) (k_X12_next2 l G cy κ S _ (v_14) (v_14.toInt) hG rfl) (cwS 1 X.2.2.2.1 gX12_fineOf_X12_next rfl rfl rfl (by decide +kernel) ⟨Nat.le_of_ble_eq_true rfl, Nat.le_of_ble_eq_true rfl⟩) (pre_S X hw _) rfl rfl hl.1 rfl (lv_room (Nat.le_of_ble_eq_true rfl)) dX12_fineOf_20 ⟨Nat.le_of_ble_eq_true rfl, Nat.le_of_ble_eq_true rfl⟩) 0 0 (Nat.le_of_ble_eq_true rfl) (Nat.le_of_ble_eq_true rfl) (fun rr_16 S_17 H locs hp hw hfr hnw => ?_)
  obtain ⟨e2, hp⟩ := hp
  subst e2
  have f_18 := hp
  refine k_i (rm := { frames := 1, cells := 0, slots := 0, locals := 48 }) (av := [.int (rr_16)]) X hw (va_runS (As := [.int (rr_16)]) (rest := []) (cfix X) (k_X12_next2 l G cy κ S _ (rr_16) (rr_16.toInt) hG rfl) (cwS 1 X.2.2.2.1 gX12_fineOf_X12_next rfl rfl rfl (by decide +kernel) ⟨Nat.le_of_ble_eq_true rfl, Nat.le_of_ble_eq_true rfl⟩) (pre_S X hw _) rfl rfl hl.1 rfl (lv_room (Nat.le_of_ble_eq_true rfl)) dX12_fineOf_23 ⟨Nat.le_of_ble_eq_true rfl, Nat.le_of_ble_eq_true rfl⟩) 0 0 (Nat.le_of_ble_eq_true rfl) (Nat.le_of_ble_eq_true rfl) (fun rr_19 S_20 H locs hp hw hfr hnw => ?_)
  obtain ⟨e2, hp⟩ := hp
  subst e2
  have f_21 := hp
  refine lv_istore (lv' := [(4, .int (rr_19)), (3, .int (v_1)), (0, .ref x), (1, .int (a1)), (2, .int (a2))]) X.1 X.2.1 dX12_fineOf_26 hl (by decide) rfl (fun ls hl => ?_)
  refine lv_aload_n X.1 X.2.1 dX12_fineOf_28 rfl (lv_at hl 2 rfl) ?_
  obtain ⟨q_22, h_23, h_24, h_25⟩ := gQ_12_1204 hG ha_x
  refine r_getR (g := 1204) X hw ha_x rfl 4 h_23 (by decide) rfl inn_X12_fineOf_12 (by decide) (X.2.2.2.1 (.fieldLink RX12 16 "SilkMillModel" "lotBase" "[I") (by decide +kernel)) rfl (gv_1204 _ _) dX12_fineOf_29 ?_
  refine lv_iload_n X.1 X.2.1 dX12_fineOf_32 rfl (lv_at hl 1 rfl) ?_
  refine r_iald X hw h_24 rfl (by rw [h_25]; exact z_ix z_2 (by omega) (by omega)) dX12_fineOf_33 ?_
  refine lv_topi (fun v_26 ev_26 => ?_)
  have rg_27 := And.intro (z_lo v_26) (z_hi v_26)
  have ev_26 := ev_26.symm
  refine lv_iload X.1 X.2.1 dX12_fineOf_34 (lv_at hl 0 rfl) ?_
  refine lv_bipush (v := 9) X.1 X.2.1 dX12_fineOf_36 (by decide) ?_
  refine k_i (rm := { frames := 1, cells := 0, slots := 0, locals := 48 }) (av := [.int (rr_19), .int 9]) X hw (va_runS (As := [.int (rr_19), .int 9]) (rest := [.int (v_26)]) (cfix X) (k_X12_part2 l G cy κ S _ (rr_19) (rr_19.toInt) (9) (9) hG rfl ti_9 (by first | assumption | omega)) (cwS 2 X.2.2.2.1 gX12_fineOf_X12_part rfl rfl rfl (by decide +kernel) ⟨Nat.le_of_ble_eq_true rfl, Nat.le_of_ble_eq_true rfl⟩) (pre_S X hw _) rfl rfl hl.1 rfl (lv_room (Nat.le_of_ble_eq_true rfl)) dX12_fineOf_38 ⟨Nat.le_of_ble_eq_true rfl, Nat.le_of_ble_eq_true rfl⟩) 0 0 (Nat.le_of_ble_eq_true rfl) (Nat.le_of_ble_eq_true rfl) (fun rr_28 S_29 H locs hp hw hfr hnw => ?_)
  obtain ⟨e2, hp⟩ := hp
  subst e2
  obtain ⟨f_30, f_31, f_32, f_33⟩ := hp
  refine lv_iadd X.1 X.2.1 dX12_fineOf_41 ?_
  refine lv_topi (fun v_34 ev_34 => ?_)
  have rg_35 := And.intro (z_lo v_34) (z_hi v_34)
  refine lv_iconst (v := 4) X.1 X.2.1 dX12_fineOf_42 (by decide) ?_
  refine lv_isub X.1 X.2.1 dX12_fineOf_43 ?_
  refine lv_topi (fun v_36 ev_36 => ?_)
  have rg_37 := And.intro (z_lo v_36) (z_hi v_36)
  refine lv_istore (lv' := [(5, .int (v_36)), (4, .int (rr_19)), (3, .int (v_1)), (0, .ref x), (1, .int (a1)), (2, .int (a2))]) X.1 X.2.1 dX12_fineOf_44 hl (by decide) rfl (fun ls hl => ?_)
  refine lv_iload X.1 X.2.1 dX12_fineOf_46 (lv_at hl 0 rfl) ?_
  refine lv_aload_n X.1 X.2.1 dX12_fineOf_48 rfl (lv_at hl 3 rfl) ?_
  obtain ⟨q_38, h_39, h_40, h_41⟩ := gQ_12_1210 hG ha_x
  refine r_getR (g := 1210) X hw ha_x rfl 10 h_39 (by decide) rfl inn_X12_fineOf_12 (by decide) (X.2.2.2.1 (.fieldLink RX12 34 "SilkMillModel" "thin" "[I") (by decide +kernel)) rfl (gv_1210 _ _) dX12_fineOf_49 ?_
  refine lv_bipush (v := 8) X.1 X.2.1 dX12_fineOf_52 (by decide) ?_
  refine lv_iload_n X.1 X.2.1 dX12_fineOf_54 rfl (lv_at hl 5 rfl) ?_
  refine lv_imul X.1 X.2.1 dX12_fineOf_55 ?_
  refine lv_topi (fun v_42 ev_42 => ?_)
  have z_43 : v_42.toInt = 8 * a2_z := z_mul ev_42 ti_8 hz_a2 (by omega) (by omega)
  refine lv_aload_n X.1 X.2.1 dX12_fineOf_56 rfl (lv_at hl 3 rfl) ?_
  refine lv_iload_n X.1 X.2.1 dX12_fineOf_57 rfl (lv_at hl 4 rfl) ?_
  refine k_i (rm := { frames := 2, cells := 0, slots := 0, locals := 96 }) (av := [.ref x, .int (a1)]) X hw (va_runV (As := [.int (a1)]) (rest := [.int (v_42), .ref q_38, .int (v_36)]) (cfix X) (k_X12_lengthOf l G cy κ S _ x (a1) (a1_z) hG ha_x hz_a1 (by first | assumption | omega) (by first | assumption | omega)) (cwV 1 X.2.2.2.1 gX12_fineOf_X12_lengthOf rfl rfl rfl (by decide +kernel) ⟨Nat.le_of_ble_eq_true rfl, Nat.le_of_ble_eq_true rfl⟩) (pre_V X hw _ ha_x rfl (by decide) rfl) rfl rfl hl.1 rfl (lv_room (Nat.le_of_ble_eq_true rfl)) dX12_fineOf_58 ⟨Nat.le_of_ble_eq_true rfl, Nat.le_of_ble_eq_true rfl⟩) 0 0 (Nat.le_of_ble_eq_true rfl) (Nat.le_of_ble_eq_true rfl) (fun rr_44 S_45 H locs hp hw hfr hnw => ?_)
  obtain ⟨e2, hp⟩ := hp
  subst e2
  obtain ⟨f_46, f_47, f_48⟩ := hp
  refine lv_idiv X.1 X.2.1 dX12_fineOf_61 (z_nz rfl (by omega)) ?_
  refine lv_topi (fun v_49 ev_49 => ?_)
  have z_50 : v_49.toInt = (8 * a2_z) / rr_44.toInt := z_div ev_49 z_43 rfl (by omega) (by omega)
  have z_51 : v_49.toInt < 8 := by rw [z_50]; exact Int.ediv_lt_of_lt_mul (by omega) (by omega)
  have z_52 : 0 ≤ v_49.toInt ∧ v_49.toInt ≤ (8 * a2_z) := by rw [z_50]; exact ⟨Int.ediv_nonneg (by omega) (by omega), Int.ediv_le_self _ (by omega)⟩
  refine r_iald X hw h_40 rfl (by rw [h_41]; exact z_ix rfl (by omega) (by omega)) dX12_fineOf_62 ?_
  refine lv_topi (fun v_53 ev_53 => ?_)
  have rg_54 := And.intro (z_lo v_53) (z_hi v_53)
  have ev_53 := ev_53.symm
  refine lv_imul X.1 X.2.1 dX12_fineOf_63 ?_
  refine lv_topi (fun v_55 ev_55 => ?_)
  have rg_56 := And.intro (z_lo v_55) (z_hi v_55)
  refine lv_bipush (v := 100) X.1 X.2.1 dX12_fineOf_64 (by decide) ?_
  refine lv_idiv X.1 X.2.1 dX12_fineOf_66 (by decide) ?_
  refine lv_topi (fun v_57 ev_57 => ?_)
  have rg_58 := And.intro (z_lo v_57) (z_hi v_57)
  exact ret_i X hw hr hlocks (Nat.le_of_ble_eq_true rfl) (Nat.le_of_ble_eq_true rfl) ⟨rfl, ⟨z_lo _, z_hi _, by rw [fnZ_eq, mA_eq h_4, mA_eq h_23, mA_eq h_39, ← lz1 hz_a1 (by omega), ← lz2 hz_a1 (by omega), show (8 * a2_z / lenZ S x a1_z).toNat = (Int32.toNatClampNeg (v_49)) from by rw [← ‹rr_44.toInt = lenZ S x a1_z›]; exact (z_nc ‹v_49.toInt = 8 * a2_z / rr_44.toInt› (Int.ediv_nonneg (by omega) (by omega))).symm]; exact congrArg Int32.toInt (by subst_vars; rfl)⟩⟩ dX12_fineOf_67
set_option maxHeartbeats 4000000 in
set_option maxRecDepth 100000 in
theorem k_X12_nowFine (l : Launch) (G : va_G) (cy : Nat → ClassId) (κ : Nat → Nat) (S : PS) (sz : Nat) (x : Nat) (a1 : Int32) (a1_z : Int) (hG : GX S) (ha_x : At S x 12) (hz_a1 : a1.toInt = a1_z) (hp_0 : 0 ≤ a1_z) (hp_1 : a1_z ≤ 3) (hp_2 : MI S x) : Ci l yX12_nowFine wsX12_nowFine ({ frames := 4, cells := 0, slots := 0, locals := 192 }) G cy κ S sz [.ref x, .int (a1)] (fun (r : Int32) (S9 : PS) => S = S9 ∧ (True)) := by
  refine ent_m (cc := cX12_nowFine) (maxL := 4) (ret := (some .int)) (by decide) rfl (Nat.le_of_ble_eq_true rfl) ?_
  intro p e s m below meth c ls X hr hlocks hin hw hl hsz
  subst hsz
  have X : Cx p c cX12_nowFine 4 s [.ref x, .int (a1)].toArray wsX12_nowFine RX12 m G cy κ (AS S s.heap.size) := X
  have hl : lv_has ls 4 [(0, .ref x), (1, .int (a1))] := hl
  have rg_a1 : (-2147483648) ≤ a1_z ∧ a1_z ≤ 2147483647 := by rw [← hz_a1]; exact ⟨z_lo _, z_hi _⟩
  generalize hQQ : MQ below _ _ _ _ _ _ = QQ
  replace hQQ := hQQ.symm
  refine lv_iconst (v := 0) X.1 X.2.1 dX12_nowFine_0 (by decide) ?_
  refine lv_istore_n (lv' := [(2, .int 0), (0, .ref x), (1, .int (a1))]) X.1 X.2.1 dX12_nowFine_1 rfl hl (by decide) rfl (fun ls hl => ?_)
  refine lv_iconst (v := 0) X.1 X.2.1 dX12_nowFine_2 (by decide) ?_
  refine lv_istore_n (lv' := [(3, .int 0), (2, .int 0), (0, .ref x), (1, .int (a1))]) X.1 X.2.1 dX12_nowFine_3 rfl hl (by decide) rfl (fun ls hl => ?_)
  have L_1 : ∀ (n : Nat) (H : Heap) (locs : List Loc) (ls : Array Slot) (i2_2 : Int32) (i2_2_z : Int) (i3_3 : Int32) (i3_3_z : Int), ((600 - i3_3_z).toNat = n) → (Wd G cy (AS S s.heap.size) s.heap S H locs) → (i2_2.toInt = i2_2_z) → (i3_3.toInt = i3_3_z) → (0 ≤ i3_3_z ∧ i3_3_z ≤ 600) → (lv_has ls 4 [(2, .int (i2_2)), (3, .int (i3_3)), (0, .ref x), (1, .int (a1))]) → W p l e ({ frames := 4, cells := 0, slots := 0, locals := 192 }) s m [.ref x, .int (a1)].toArray below meth c H locs 0 0 QQ (F0 m 4 ls []) := by
    intro n
    induction n using Nat.strongRecOn with
    | ind n ih_L_1 =>
    intro H locs ls i2_2 i2_2_z i3_3 i3_3_z hn hw hz_i2_2 hz_i3_3 hr_i3_3 hl
    have rg_4 : (-2147483648) ≤ i2_2_z ∧ i2_2_z ≤ 2147483647 := by rw [← hz_i2_2]; exact ⟨z_lo _, z_hi _⟩
    have rg_5 : (-2147483648) ≤ i3_3_z ∧ i3_3_z ≤ 2147483647 := by rw [← hz_i3_3]; exact ⟨z_lo _, z_hi _⟩
    refine lv_iload_n X.1 X.2.1 dX12_nowFine_4 rfl (lv_at hl 1 rfl) ?_
    refine lv_aload_n X.1 X.2.1 dX12_nowFine_5 rfl (lv_at hl 2 rfl) ?_
    refine lv_iload_n X.1 X.2.1 dX12_nowFine_6 rfl (lv_at hl 3 rfl) ?_
    refine lv_iconst (v := 1) X.1 X.2.1 dX12_nowFine_7 (by decide) ?_
    refine k_i (rm := { frames := 1, cells := 0, slots := 0, locals := 48 }) (av := [.ref x, .int (a1), .int 1]) X hw (va_runV (As := [.int (a1), .int 1]) (rest := [.int (i3_3)]) (cfix X) (k_X12_many2 l G cy κ S _ x (a1) (a1_z) (1) (1) hG ha_x hz_a1 ti_1 (by first | assumption | omega) (by first | assumption | omega) (by first | assumption | omega) (by first | assumption | omega)) (cwV 2 X.2.2.2.1 gX12_nowFine_X12_many rfl rfl rfl (by decide +kernel) ⟨Nat.le_of_ble_eq_true rfl, Nat.le_of_ble_eq_true rfl⟩) (pre_V X hw _ ha_x rfl (by decide) rfl) rfl rfl hl.1 rfl (lv_room (Nat.le_of_ble_eq_true rfl)) dX12_nowFine_8 ⟨Nat.le_of_ble_eq_true rfl, Nat.le_of_ble_eq_true rfl⟩) 0 0 (Nat.le_of_ble_eq_true rfl) (Nat.le_of_ble_eq_true rfl) (fun rr_6 S_7 H locs hp hw hfr hnw => ?_)
    obtain ⟨e2, hp⟩ := hp
    subst e2
    obtain ⟨f_8, f_9, f_10⟩ := hp
    refine lv_icmp_ge (tgt := 46) X.1 X.2.1 dX12_nowFine_11 (by decide) (fun c_11 => ?_) (fun c_11 => ?_)
    · have z_b_12 := trivial
      have k_13 : i3_3_z ≥ rr_6.toInt := z_le rfl hz_i3_3 c_11
      refine lv_iload_n X.1 X.2.1 dX12_nowFine_46 rfl (lv_at hl 0 rfl) ?_
      rw [hQQ]
      exact ret_i X hw hr hlocks (Nat.le_of_ble_eq_true rfl) (Nat.le_of_ble_eq_true rfl) ⟨rfl, trivial⟩ dX12_nowFine_47
    · have z_b_14 := trivial
      have k_15 : i3_3_z < rr_6.toInt := z_nle rfl hz_i3_3 c_11
      refine lv_iload_n X.1 X.2.1 dX12_nowFine_14 rfl (lv_at hl 0 rfl) ?_
      refine lv_aload_n X.1 X.2.1 dX12_nowFine_15 rfl (lv_at hl 2 rfl) ?_
      refine lv_aload_n X.1 X.2.1 dX12_nowFine_16 rfl (lv_at hl 2 rfl) ?_
      refine lv_iload_n X.1 X.2.1 dX12_nowFine_17 rfl (lv_at hl 3 rfl) ?_
      refine lv_iconst (v := 1) X.1 X.2.1 dX12_nowFine_18 (by decide) ?_
      refine lv_iload_n X.1 X.2.1 dX12_nowFine_19 rfl (lv_at hl 1 rfl) ?_
      refine k_i (rm := { frames := 1, cells := 0, slots := 0, locals := 48 }) (av := [.ref x, .int (a1), .int 1, .int (i3_3)]) X hw (va_runV (As := [.int (a1), .int 1, .int (i3_3)]) (rest := [.ref x, .int (i2_2)]) (cfix X) (k_X12_at2 l G cy κ S _ x (a1) (a1_z) (1) (1) (i3_3) (i3_3_z) hG ha_x hz_a1 ti_1 hz_i3_3 (by first | assumption | omega) (by first | assumption | omega) (by first | assumption | omega) (by first | assumption | omega) (by first | assumption | omega) (by first | assumption | omega)) (cwV 3 X.2.2.2.1 gX12_nowFine_X12_at rfl rfl rfl (by decide +kernel) ⟨Nat.le_of_ble_eq_true rfl, Nat.le_of_ble_eq_true rfl⟩) (pre_V X hw _ ha_x rfl (by decide) rfl) rfl rfl hl.1 rfl (lv_room (Nat.le_of_ble_eq_true rfl)) dX12_nowFine_20 ⟨Nat.le_of_ble_eq_true rfl, Nat.le_of_ble_eq_true rfl⟩) 0 0 (Nat.le_of_ble_eq_true rfl) (Nat.le_of_ble_eq_true rfl) (fun rr_16 S_17 H locs hp hw hfr hnw => ?_)
      obtain ⟨e2, hp⟩ := hp
      subst e2
      obtain ⟨f_18, f_19, f_20⟩ := hp
      refine lv_aload_n X.1 X.2.1 dX12_nowFine_23 rfl (lv_at hl 2 rfl) ?_
      obtain ⟨q_21, h_22, h_23, h_24⟩ := gQ_12_1208 hG ha_x
      refine r_getR (g := 1208) X hw ha_x rfl 8 h_22 (by decide) rfl inn_X12_nowFine_12 (by decide) (X.2.2.2.1 (.fieldLink RX12 28 "SilkMillModel" "place" "[I") (by decide +kernel)) rfl (gv_1208 _ _) dX12_nowFine_24 ?_
      refine lv_aload_n X.1 X.2.1 dX12_nowFine_27 rfl (lv_at hl 2 rfl) ?_
      refine lv_iload_n X.1 X.2.1 dX12_nowFine_28 rfl (lv_at hl 3 rfl) ?_
      refine lv_iconst (v := 1) X.1 X.2.1 dX12_nowFine_29 (by decide) ?_
      refine lv_iload_n X.1 X.2.1 dX12_nowFine_30 rfl (lv_at hl 1 rfl) ?_
      refine k_i (rm := { frames := 1, cells := 0, slots := 0, locals := 48 }) (av := [.ref x, .int (a1), .int 1, .int (i3_3)]) X hw (va_runV (As := [.int (a1), .int 1, .int (i3_3)]) (rest := [.ref q_21, .int (rr_16), .ref x, .int (i2_2)]) (cfix X) (k_X12_at2 l G cy κ S _ x (a1) (a1_z) (1) (1) (i3_3) (i3_3_z) hG ha_x hz_a1 ti_1 hz_i3_3 (by first | assumption | omega) (by first | assumption | omega) (by first | assumption | omega) (by first | assumption | omega) (by first | assumption | omega) (by first | assumption | omega)) (cwV 3 X.2.2.2.1 gX12_nowFine_X12_at rfl rfl rfl (by decide +kernel) ⟨Nat.le_of_ble_eq_true rfl, Nat.le_of_ble_eq_true rfl⟩) (pre_V X hw _ ha_x rfl (by decide) rfl) rfl rfl hl.1 rfl (lv_room (Nat.le_of_ble_eq_true rfl)) dX12_nowFine_31 ⟨Nat.le_of_ble_eq_true rfl, Nat.le_of_ble_eq_true rfl⟩) 0 0 (Nat.le_of_ble_eq_true rfl) (Nat.le_of_ble_eq_true rfl) (fun rr_25 S_26 H locs hp hw hfr hnw => ?_)
      obtain ⟨e2, hp⟩ := hp
      subst e2
      obtain ⟨f_27, f_28, f_29⟩ := hp
      refine r_iald X hw h_23 rfl (by rw [h_24]; exact z_ix rfl (by omega) (by omega)) dX12_nowFine_34 ?_
      refine lv_topi (fun v_30 ev_30 => ?_)
      have z_31 := gE_374 hG h_23 (Int32.toNatClampNeg (rr_25)); rw [← ev_30] at z_31
      have ev_30 := ev_30.symm
      have zf_32 : zA S x 1208 (rr_25.toInt).toNat = v_30.toInt := (zA_of h_22 rfl (by omega) ev_30)
      have m8_33 := MI_alive hp_2 (c := rr_25.toInt) (r := 3 * a1_z + 1) (k := i3_3_z) (gI_12_1201 hG ha_x).2 (by omega) (by omega) (by omega) (by omega) (by omega)
      have hh_34 : rr_25.toInt = rr_16.toInt := by omega
      rw [hh_34] at m8_33 zf_32
      rw [zf_32] at m8_33
      have lg_35 := lenZ_le hG ha_x (rr_16.toInt)
      have hF_36 : ∀ v, v = fnZ S x rr_16.toInt v_30.toInt → thF S x a1_z (i3_3_z).toNat = v := fun v hv => thF_of (by omega) (by assumption) zf_32 hv
      refine k_i (rm := { frames := 3, cells := 0, slots := 0, locals := 144 }) (av := [.ref x, .int (rr_16), .int (v_30)]) X hw (va_runV (As := [.int (rr_16), .int (v_30)]) (rest := [.int (i2_2)]) (cfix X) (k_X12_fineOf2 l G cy κ S _ x (rr_16) (rr_16.toInt) (v_30) (v_30.toInt) hG ha_x rfl rfl (by first | assumption | omega) (by first | assumption | omega) (by first | assumption | omega) (by first | assumption | omega) (by first | assumption | omega)) (cwV 2 X.2.2.2.1 gX12_nowFine_X12_fineOf rfl rfl rfl (by decide +kernel) ⟨Nat.le_of_ble_eq_true rfl, Nat.le_of_ble_eq_true rfl⟩) (pre_V X hw _ ha_x rfl (by decide) rfl) rfl rfl hl.1 rfl (lv_room (Nat.le_of_ble_eq_true rfl)) dX12_nowFine_35 ⟨Nat.le_of_ble_eq_true rfl, Nat.le_of_ble_eq_true rfl⟩) 0 0 (Nat.le_of_ble_eq_true rfl) (Nat.le_of_ble_eq_true rfl) (fun rr_37 S_38 H locs hp hw hfr hnw => ?_)
      obtain ⟨e2, hp⟩ := hp
      subst e2
      obtain ⟨f_39, f_40, f_41⟩ := hp
      refine lv_iadd X.1 X.2.1 dX12_nowFine_38 ?_
      refine lv_topi (fun v_42 ev_42 => ?_)
      have rg_43 := And.intro (z_lo v_42) (z_hi v_42)
      refine lv_istore_n (lv' := [(2, .int (v_42)), (3, .int (i3_3)), (0, .ref x), (1, .int (a1))]) X.1 X.2.1 dX12_nowFine_39 rfl hl (by decide) rfl (fun ls hl => ?_)
      obtain ⟨x_44, ex_44⟩ : ∃ y : Int32, y = i3_3 + 1 := ⟨_, rfl⟩
      have z_45 : x_44.toInt = i3_3_z + 1 := z_add ex_44 hz_i3_3 ti_1 (by omega) (by omega)
      refine lv_iinc (v := x_44) (lv' := [(3, .int (x_44)), (2, .int (v_42)), (0, .ref x), (1, .int (a1))]) X.1 X.2.1 dX12_nowFine_40 hl (k := 1) rfl (by rw [ex_44]; rfl) (by decide) rfl (fun ls hl => ?_)
      refine lv_goto (tgt := 4) X.1 X.2.1 dX12_nowFine_43 (by decide) ?_
      exact ih_L_1 _ (by omega) _ _ _ (v_42) (v_42.toInt) (x_44) (x_44.toInt) rfl hw rfl rfl (by omega) (lv_sub hl [1, 0, 2, 3] rfl)
  exact L_1 _ _ _ _ (0) (0) (0) (0) rfl hw ti_0 ti_0 (by omega) (lv_sub hl [1, 0, 2, 3] rfl)
set_option maxHeartbeats 4000000 in
set_option maxRecDepth 100000 in
theorem k_X12_thinnest (l : Launch) (G : va_G) (cy : Nat → ClassId) (κ : Nat → Nat) (S : PS) (sz : Nat) (x : Nat) (a1 : Int32) (a1_z : Int) (hG : GX S) (ha_x : At S x 12) (hz_a1 : a1.toInt = a1_z) (hp_0 : 0 ≤ a1_z) (hp_1 : a1_z ≤ 3) (hp_2 : MI S x) : Ci l yX12_thinnest wsX12_thinnest ({ frames := 4, cells := 0, slots := 0, locals := 192 }) G cy κ S sz [.ref x, .int (a1)] (fun (r : Int32) (S9 : PS) => S = S9 ∧ (-1 ≤ r.toInt ∧ r.toInt ≤ 599 ∧ r.toInt < zA S x 1219 (3 * a1_z + 1).toNat ∧ (r.toInt = -1 → zA S x 1219 (3 * a1_z + 1).toNat ≤ 0) ∧ r.toInt = thZ S x a1_z)) := by
  refine ent_m (cc := cX12_thinnest) (maxL := 4) (ret := (some .int)) (by decide) rfl (Nat.le_of_ble_eq_true rfl) ?_
  intro p e s m below meth c ls X hr hlocks hin hw hl hsz
  subst hsz
  have X : Cx p c cX12_thinnest 4 s [.ref x, .int (a1)].toArray wsX12_thinnest RX12 m G cy κ (AS S s.heap.size) := X
  have hl : lv_has ls 4 [(0, .ref x), (1, .int (a1))] := hl
  have rg_a1 : (-2147483648) ≤ a1_z ∧ a1_z ≤ 2147483647 := by rw [← hz_a1]; exact ⟨z_lo _, z_hi _⟩
  generalize hQQ : MQ below _ _ _ _ _ _ = QQ
  replace hQQ := hQQ.symm
  refine lv_iconst (v := (-1)) X.1 X.2.1 dX12_thinnest_0 (by decide) ?_
  refine lv_istore_n (lv' := [(2, .int (-1)), (0, .ref x), (1, .int (a1))]) X.1 X.2.1 dX12_thinnest_1 rfl hl (by decide) rfl (fun ls hl => ?_)
  refine lv_aload_n X.1 X.2.1 dX12_thinnest_2 rfl (lv_at hl 1 rfl) ?_
  refine lv_iload_n X.1 X.2.1 dX12_thinnest_3 rfl (lv_at hl 2 rfl) ?_
  refine lv_iconst (v := 1) X.1 X.2.1 dX12_thinnest_4 (by decide) ?_
  refine k_i (rm := { frames := 1, cells := 0, slots := 0, locals := 48 }) (av := [.ref x, .int (a1), .int 1]) X hw (va_runV (As := [.int (a1), .int 1]) (rest := []) (cfix X) (k_X12_many2 l G cy κ S _ x (a1) (a1_z) (1) (1) hG ha_x hz_a1 ti_1 (by first | assumption | omega) (by first | assumption | omega) (by first | assumption | omega) (by first | assumption | omega)) (cwV 2 X.2.2.2.1 gX12_thinnest_X12_many rfl rfl rfl (by decide +kernel) ⟨Nat.le_of_ble_eq_true rfl, Nat.le_of_ble_eq_true rfl⟩) (pre_V X hw _ ha_x rfl (by decide) rfl) rfl rfl hl.1 rfl (lv_room (Nat.le_of_ble_eq_true rfl)) dX12_thinnest_5 ⟨Nat.le_of_ble_eq_true rfl, Nat.le_of_ble_eq_true rfl⟩) 0 0 (Nat.le_of_ble_eq_true rfl) (Nat.le_of_ble_eq_true rfl) (fun rr_1 S_2 H locs hp hw hfr hnw => ?_)
  obtain ⟨e2, hp⟩ := hp
  subst e2
  obtain ⟨f_3, f_4, f_5⟩ := hp
  refine lv_iconst (v := 1) X.1 X.2.1 dX12_thinnest_8 (by decide) ?_
  refine lv_isub X.1 X.2.1 dX12_thinnest_9 ?_
  refine lv_topi (fun v_6 ev_6 => ?_)
  have z_7 : v_6.toInt = rr_1.toInt - 1 := z_sub ev_6 rfl ti_1 (by omega) (by omega)
  refine lv_istore_n (lv' := [(3, .int (v_6)), (2, .int (-1)), (0, .ref x), (1, .int (a1))]) X.1 X.2.1 dX12_thinnest_10 rfl hl (by decide) rfl (fun ls hl => ?_)
  have L_8 : ∀ (n : Nat) (H : Heap) (locs : List Loc) (ls : Array Slot) (i2_9 : Int32) (i2_9_z : Int) (i3_10 : Int32) (i3_10_z : Int), ((i3_10_z + 1).toNat = n) → (Wd G cy (AS S s.heap.size) s.heap S H locs) → (i2_9.toInt = i2_9_z) → ((-1) ≤ i2_9_z ∧ i2_9_z ≤ 599) → (i3_10.toInt = i3_10_z) → ((-1) ≤ i3_10_z ∧ i3_10_z ≤ 599) → (i2_9_z < zA S x 1219 (3 * a1_z + 1).toNat) → (i3_10_z < zA S x 1219 (3 * a1_z + 1).toNat) → ((i2_9_z = -1 → i3_10_z = zA S x 1219 (3 * a1_z + 1).toNat - 1)) → (thS (thF S x a1_z) (i3_10_z + 1).toNat i2_9_z = thZ S x a1_z) → (lv_has ls 4 [(2, .int (i2_9)), (3, .int (i3_10)), (0, .ref x), (1, .int (a1))]) → W p l e ({ frames := 4, cells := 0, slots := 0, locals := 192 }) s m [.ref x, .int (a1)].toArray below meth c H locs 0 0 QQ (F0 m 11 ls []) := by
    intro n
    induction n using Nat.strongRecOn with
    | ind n ih_L_8 =>
    intro H locs ls i2_9 i2_9_z i3_10 i3_10_z hn hw hz_i2_9 hr_i2_9 hz_i3_10 hr_i3_10 iv_11 iv_12 iv_13 iv_14 hl
    have rg_15 : (-2147483648) ≤ i2_9_z ∧ i2_9_z ≤ 2147483647 := by rw [← hz_i2_9]; exact ⟨z_lo _, z_hi _⟩
    have rg_16 : (-2147483648) ≤ i3_10_z ∧ i3_10_z ≤ 2147483647 := by rw [← hz_i3_10]; exact ⟨z_lo _, z_hi _⟩
    refine lv_iload_n X.1 X.2.1 dX12_thinnest_11 rfl (lv_at hl 1 rfl) ?_
    refine lv_if_lt (tgt := 77) X.1 X.2.1 dX12_thinnest_12 (by decide) (fun c_17 => ?_) (fun c_17 => ?_)
    · have z_b_18 := trivial
      have k_19 : i3_10_z < 0 := z_lt hz_i3_10 ti_0 c_17
      refine lv_iload_n X.1 X.2.1 dX12_thinnest_77 rfl (lv_at hl 0 rfl) ?_
      rw [hQQ]
      exact ret_i X hw hr hlocks (Nat.le_of_ble_eq_true rfl) (Nat.le_of_ble_eq_true rfl) ⟨rfl, ⟨by omega, by omega, by omega, by omega, by have h := iv_14; rw [show (i3_10_z + 1).toNat = 0 by omega] at h; unfold thS at h; rw [hz_i2_9]; exact h⟩⟩ dX12_thinnest_78
    · have z_b_20 := trivial
      have k_21 : i3_10_z ≥ 0 := z_nlt hz_i3_10 ti_0 c_17
      refine lv_iload_n X.1 X.2.1 dX12_thinnest_15 rfl (lv_at hl 0 rfl) ?_
      refine lv_iconst (v := (-1)) X.1 X.2.1 dX12_thinnest_16 (by decide) ?_
      refine lv_icmp_eq (tgt := 69) X.1 X.2.1 dX12_thinnest_17 (by decide) (fun c_22 => ?_) (fun c_22 => ?_)
      · have z_b_23 := trivial
        have k_24 : i2_9_z = (-1) := z_eq hz_i2_9 ti_m1 c_22
        refine lv_iload_n X.1 X.2.1 dX12_thinnest_69 rfl (lv_at hl 1 rfl) ?_
        refine lv_istore_n (lv' := [(2, .int (i3_10)), (3, .int (i3_10)), (0, .ref x), (1, .int (a1))]) X.1 X.2.1 dX12_thinnest_70 rfl hl (by decide) rfl (fun ls hl => ?_)
        obtain ⟨x_25, ex_25⟩ : ∃ y : Int32, y = i3_10 + (-1) := ⟨_, rfl⟩
        have z_26 : x_25.toInt = i3_10_z + (-1) := z_add ex_25 hz_i3_10 ti_m1 (by omega) (by omega)
        refine lv_iinc (v := x_25) (lv' := [(3, .int (x_25)), (2, .int (i3_10)), (0, .ref x), (1, .int (a1))]) X.1 X.2.1 dX12_thinnest_71 hl (k := 1) rfl (by rw [ex_25]; rfl) (by decide) rfl (fun ls hl => ?_)
        refine lv_goto (tgt := 11) X.1 X.2.1 dX12_thinnest_74 (by decide) ?_
        exact ih_L_8 _ (by omega) _ _ _ (i3_10) (i3_10_z) (x_25) (x_25.toInt) rfl hw hz_i3_10 (by omega) rfl (by omega) (by omega) (by omega) (by omega) (by rw [show (x_25.toInt : Int) + 1 = i3_10_z by omega]; exact thS_yes (by omega) iv_14 (Or.inl (by omega))) (lv_sub hl [1, 0, 2, 3] rfl)
      · have z_b_27 := trivial
        have k_28 : i2_9_z ≠ (-1) := z_ne hz_i2_9 ti_m1 c_22
        refine lv_aload_n X.1 X.2.1 dX12_thinnest_20 rfl (lv_at hl 2 rfl) ?_
        refine lv_aload_n X.1 X.2.1 dX12_thinnest_21 rfl (lv_at hl 2 rfl) ?_
        refine lv_iload_n X.1 X.2.1 dX12_thinnest_22 rfl (lv_at hl 3 rfl) ?_
        refine lv_iconst (v := 1) X.1 X.2.1 dX12_thinnest_23 (by decide) ?_
        refine lv_iload_n X.1 X.2.1 dX12_thinnest_24 rfl (lv_at hl 1 rfl) ?_
        refine k_i (rm := { frames := 1, cells := 0, slots := 0, locals := 48 }) (av := [.ref x, .int (a1), .int 1, .int (i3_10)]) X hw (va_runV (As := [.int (a1), .int 1, .int (i3_10)]) (rest := [.ref x]) (cfix X) (k_X12_at2 l G cy κ S _ x (a1) (a1_z) (1) (1) (i3_10) (i3_10_z) hG ha_x hz_a1 ti_1 hz_i3_10 (by first | assumption | omega) (by first | assumption | omega) (by first | assumption | omega) (by first | assumption | omega) (by first | assumption | omega) (by first | assumption | omega)) (cwV 3 X.2.2.2.1 gX12_thinnest_X12_at rfl rfl rfl (by decide +kernel) ⟨Nat.le_of_ble_eq_true rfl, Nat.le_of_ble_eq_true rfl⟩) (pre_V X hw _ ha_x rfl (by decide) rfl) rfl rfl hl.1 rfl (lv_room (Nat.le_of_ble_eq_true rfl)) dX12_thinnest_25 ⟨Nat.le_of_ble_eq_true rfl, Nat.le_of_ble_eq_true rfl⟩) 0 0 (Nat.le_of_ble_eq_true rfl) (Nat.le_of_ble_eq_true rfl) (fun rr_29 S_30 H locs hp hw hfr hnw => ?_)
        obtain ⟨e2, hp⟩ := hp
        subst e2
        obtain ⟨f_31, f_32, f_33⟩ := hp
        refine lv_aload_n X.1 X.2.1 dX12_thinnest_28 rfl (lv_at hl 2 rfl) ?_
        obtain ⟨q_34, h_35, h_36, h_37⟩ := gQ_12_1208 hG ha_x
        refine r_getR (g := 1208) X hw ha_x rfl 8 h_35 (by decide) rfl inn_X12_thinnest_12 (by decide) (X.2.2.2.1 (.fieldLink RX12 28 "SilkMillModel" "place" "[I") (by decide +kernel)) rfl (gv_1208 _ _) dX12_thinnest_29 ?_
        refine lv_aload_n X.1 X.2.1 dX12_thinnest_32 rfl (lv_at hl 2 rfl) ?_
        refine lv_iload_n X.1 X.2.1 dX12_thinnest_33 rfl (lv_at hl 3 rfl) ?_
        refine lv_iconst (v := 1) X.1 X.2.1 dX12_thinnest_34 (by decide) ?_
        refine lv_iload_n X.1 X.2.1 dX12_thinnest_35 rfl (lv_at hl 1 rfl) ?_
        refine k_i (rm := { frames := 1, cells := 0, slots := 0, locals := 48 }) (av := [.ref x, .int (a1), .int 1, .int (i3_10)]) X hw (va_runV (As := [.int (a1), .int 1, .int (i3_10)]) (rest := [.ref q_34, .int (rr_29), .ref x]) (cfix X) (k_X12_at2 l G cy κ S _ x (a1) (a1_z) (1) (1) (i3_10) (i3_10_z) hG ha_x hz_a1 ti_1 hz_i3_10 (by first | assumption | omega) (by first | assumption | omega) (by first | assumption | omega) (by first | assumption | omega) (by first | assumption | omega) (by first | assumption | omega)) (cwV 3 X.2.2.2.1 gX12_thinnest_X12_at rfl rfl rfl (by decide +kernel) ⟨Nat.le_of_ble_eq_true rfl, Nat.le_of_ble_eq_true rfl⟩) (pre_V X hw _ ha_x rfl (by decide) rfl) rfl rfl hl.1 rfl (lv_room (Nat.le_of_ble_eq_true rfl)) dX12_thinnest_36 ⟨Nat.le_of_ble_eq_true rfl, Nat.le_of_ble_eq_true rfl⟩) 0 0 (Nat.le_of_ble_eq_true rfl) (Nat.le_of_ble_eq_true rfl) (fun rr_38 S_39 H locs hp hw hfr hnw => ?_)
        obtain ⟨e2, hp⟩ := hp
        subst e2
        obtain ⟨f_40, f_41, f_42⟩ := hp
        refine r_iald X hw h_36 rfl (by rw [h_37]; exact z_ix rfl (by omega) (by omega)) dX12_thinnest_39 ?_
        refine lv_topi (fun v_43 ev_43 => ?_)
        have z_44 := gE_374 hG h_36 (Int32.toNatClampNeg (rr_38)); rw [← ev_43] at z_44
        have ev_43 := ev_43.symm
        have zf_45 : zA S x 1208 (rr_38.toInt).toNat = v_43.toInt := (zA_of h_35 rfl (by omega) ev_43)
        have m8_46 := MI_alive hp_2 (c := rr_38.toInt) (r := 3 * a1_z + 1) (k := i3_10_z) (gI_12_1201 hG ha_x).2 (by omega) (by omega) (by omega) (by omega) (by omega)
        have hh_47 : rr_38.toInt = rr_29.toInt := by omega
        rw [hh_47] at m8_46 zf_45
        rw [zf_45] at m8_46
        have lg_48 := lenZ_le hG ha_x (rr_29.toInt)
        have hF_49 : ∀ v, v = fnZ S x rr_29.toInt v_43.toInt → thF S x a1_z (i3_10_z).toNat = v := fun v hv => thF_of (by omega) (by assumption) zf_45 hv
        refine k_i (rm := { frames := 3, cells := 0, slots := 0, locals := 144 }) (av := [.ref x, .int (rr_29), .int (v_43)]) X hw (va_runV (As := [.int (rr_29), .int (v_43)]) (rest := []) (cfix X) (k_X12_fineOf2 l G cy κ S _ x (rr_29) (rr_29.toInt) (v_43) (v_43.toInt) hG ha_x rfl rfl (by first | assumption | omega) (by first | assumption | omega) (by first | assumption | omega) (by first | assumption | omega) (by first | assumption | omega)) (cwV 2 X.2.2.2.1 gX12_thinnest_X12_fineOf rfl rfl rfl (by decide +kernel) ⟨Nat.le_of_ble_eq_true rfl, Nat.le_of_ble_eq_true rfl⟩) (pre_V X hw _ ha_x rfl (by decide) rfl) rfl rfl hl.1 rfl (lv_room (Nat.le_of_ble_eq_true rfl)) dX12_thinnest_40 ⟨Nat.le_of_ble_eq_true rfl, Nat.le_of_ble_eq_true rfl⟩) 0 0 (Nat.le_of_ble_eq_true rfl) (Nat.le_of_ble_eq_true rfl) (fun rr_50 S_51 H locs hp hw hfr hnw => ?_)
        obtain ⟨e2, hp⟩ := hp
        subst e2
        obtain ⟨f_52, f_53, f_54⟩ := hp
        refine lv_aload_n X.1 X.2.1 dX12_thinnest_43 rfl (lv_at hl 2 rfl) ?_
        refine lv_aload_n X.1 X.2.1 dX12_thinnest_44 rfl (lv_at hl 2 rfl) ?_
        refine lv_iload_n X.1 X.2.1 dX12_thinnest_45 rfl (lv_at hl 3 rfl) ?_
        refine lv_iconst (v := 1) X.1 X.2.1 dX12_thinnest_46 (by decide) ?_
        refine lv_iload_n X.1 X.2.1 dX12_thinnest_47 rfl (lv_at hl 0 rfl) ?_
        refine k_i (rm := { frames := 1, cells := 0, slots := 0, locals := 48 }) (av := [.ref x, .int (a1), .int 1, .int (i2_9)]) X hw (va_runV (As := [.int (a1), .int 1, .int (i2_9)]) (rest := [.ref x, .int (rr_50)]) (cfix X) (k_X12_at2 l G cy κ S _ x (a1) (a1_z) (1) (1) (i2_9) (i2_9_z) hG ha_x hz_a1 ti_1 hz_i2_9 (by first | assumption | omega) (by first | assumption | omega) (by first | assumption | omega) (by first | assumption | omega) (by first | assumption | omega) (by first | assumption | omega)) (cwV 3 X.2.2.2.1 gX12_thinnest_X12_at rfl rfl rfl (by decide +kernel) ⟨Nat.le_of_ble_eq_true rfl, Nat.le_of_ble_eq_true rfl⟩) (pre_V X hw _ ha_x rfl (by decide) rfl) rfl rfl hl.1 rfl (lv_room (Nat.le_of_ble_eq_true rfl)) dX12_thinnest_48 ⟨Nat.le_of_ble_eq_true rfl, Nat.le_of_ble_eq_true rfl⟩) 0 0 (Nat.le_of_ble_eq_true rfl) (Nat.le_of_ble_eq_true rfl) (fun rr_55 S_56 H locs hp hw hfr hnw => ?_)
        obtain ⟨e2, hp⟩ := hp
        subst e2
        obtain ⟨f_57, f_58, f_59⟩ := hp
        refine lv_aload_n X.1 X.2.1 dX12_thinnest_51 rfl (lv_at hl 2 rfl) ?_
        refine r_getR (g := 1208) X hw ha_x rfl 8 h_35 (by decide) rfl inn_X12_thinnest_12 (by decide) (X.2.2.2.1 (.fieldLink RX12 28 "SilkMillModel" "place" "[I") (by decide +kernel)) rfl (gv_1208 _ _) dX12_thinnest_52 ?_
        refine lv_aload_n X.1 X.2.1 dX12_thinnest_55 rfl (lv_at hl 2 rfl) ?_
        refine lv_iload_n X.1 X.2.1 dX12_thinnest_56 rfl (lv_at hl 3 rfl) ?_
        refine lv_iconst (v := 1) X.1 X.2.1 dX12_thinnest_57 (by decide) ?_
        refine lv_iload_n X.1 X.2.1 dX12_thinnest_58 rfl (lv_at hl 0 rfl) ?_
        refine k_i (rm := { frames := 1, cells := 0, slots := 0, locals := 48 }) (av := [.ref x, .int (a1), .int 1, .int (i2_9)]) X hw (va_runV (As := [.int (a1), .int 1, .int (i2_9)]) (rest := [.ref q_34, .int (rr_55), .ref x, .int (rr_50)]) (cfix X) (k_X12_at2 l G cy κ S _ x (a1) (a1_z) (1) (1) (i2_9) (i2_9_z) hG ha_x hz_a1 ti_1 hz_i2_9 (by first | assumption | omega) (by first | assumption | omega) (by first | assumption | omega) (by first | assumption | omega) (by first | assumption | omega) (by first | assumption | omega)) (cwV 3 X.2.2.2.1 gX12_thinnest_X12_at rfl rfl rfl (by decide +kernel) ⟨Nat.le_of_ble_eq_true rfl, Nat.le_of_ble_eq_true rfl⟩) (pre_V X hw _ ha_x rfl (by decide) rfl) rfl rfl hl.1 rfl (lv_room (Nat.le_of_ble_eq_true rfl)) dX12_thinnest_59 ⟨Nat.le_of_ble_eq_true rfl, Nat.le_of_ble_eq_true rfl⟩) 0 0 (Nat.le_of_ble_eq_true rfl) (Nat.le_of_ble_eq_true rfl) (fun rr_60 S_61 H locs hp hw hfr hnw => ?_)
        obtain ⟨e2, hp⟩ := hp
        subst e2
        obtain ⟨f_62, f_63, f_64⟩ := hp
        refine r_iald X hw h_36 rfl (by rw [h_37]; exact z_ix rfl (by omega) (by omega)) dX12_thinnest_62 ?_
        refine lv_topi (fun v_65 ev_65 => ?_)
        have z_66 := gE_374 hG h_36 (Int32.toNatClampNeg (rr_60)); rw [← ev_65] at z_66
        have ev_65 := ev_65.symm
        have zf_67 : zA S x 1208 (rr_60.toInt).toNat = v_65.toInt := (zA_of h_35 rfl (by omega) ev_65)
        have m8_68 := MI_alive hp_2 (c := rr_60.toInt) (r := 3 * a1_z + 1) (k := i2_9_z) (gI_12_1201 hG ha_x).2 (by omega) (by omega) (by omega) (by omega) (by omega)
        have hh_69 : rr_60.toInt = rr_55.toInt := by omega
        rw [hh_69] at m8_68 zf_67
        rw [zf_67] at m8_68
        have lg_70 := lenZ_le hG ha_x (rr_55.toInt)
        have hF_71 : ∀ v, v = fnZ S x rr_55.toInt v_65.toInt → thF S x a1_z (i2_9_z).toNat = v := fun v hv => thF_of (by omega) (by assumption) zf_67 hv
        refine k_i (rm := { frames := 3, cells := 0, slots := 0, locals := 144 }) (av := [.ref x, .int (rr_55), .int (v_65)]) X hw (va_runV (As := [.int (rr_55), .int (v_65)]) (rest := [.int (rr_50)]) (cfix X) (k_X12_fineOf2 l G cy κ S _ x (rr_55) (rr_55.toInt) (v_65) (v_65.toInt) hG ha_x rfl rfl (by first | assumption | omega) (by first | assumption | omega) (by first | assumption | omega) (by first | assumption | omega) (by first | assumption | omega)) (cwV 2 X.2.2.2.1 gX12_thinnest_X12_fineOf rfl rfl rfl (by decide +kernel) ⟨Nat.le_of_ble_eq_true rfl, Nat.le_of_ble_eq_true rfl⟩) (pre_V X hw _ ha_x rfl (by decide) rfl) rfl rfl hl.1 rfl (lv_room (Nat.le_of_ble_eq_true rfl)) dX12_thinnest_63 ⟨Nat.le_of_ble_eq_true rfl, Nat.le_of_ble_eq_true rfl⟩) 0 0 (Nat.le_of_ble_eq_true rfl) (Nat.le_of_ble_eq_true rfl) (fun rr_72 S_73 H locs hp hw hfr hnw => ?_)
        obtain ⟨e2, hp⟩ := hp
        subst e2
        obtain ⟨f_74, f_75, f_76⟩ := hp
        refine lv_icmp_gt (tgt := 71) X.1 X.2.1 dX12_thinnest_66 (by decide) (fun c_77 => ?_) (fun c_77 => ?_)
        · have z_b_78 := trivial
          have k_79 : rr_50.toInt > rr_72.toInt := z_lt rfl rfl c_77
          obtain ⟨x_80, ex_80⟩ : ∃ y : Int32, y = i3_10 + (-1) := ⟨_, rfl⟩
          have z_81 : x_80.toInt = i3_10_z + (-1) := z_add ex_80 hz_i3_10 ti_m1 (by omega) (by omega)
          refine lv_iinc (v := x_80) (lv' := [(3, .int (x_80)), (2, .int (i2_9)), (0, .ref x), (1, .int (a1))]) X.1 X.2.1 dX12_thinnest_71 hl (k := 1) rfl (by rw [ex_80]; rfl) (by decide) rfl (fun ls hl => ?_)
          refine lv_goto (tgt := 11) X.1 X.2.1 dX12_thinnest_74 (by decide) ?_
          exact ih_L_8 _ (by omega) _ _ _ (i2_9) (i2_9_z) (x_80) (x_80.toInt) rfl hw hz_i2_9 (by omega) rfl (by omega) (by omega) (by omega) (by omega) (by rw [show (x_80.toInt : Int) + 1 = i3_10_z by omega]; exact thS_no (by omega) iv_14 (by omega) (by rw [hF_49 _ (by assumption), hF_71 _ (by assumption)]; omega)) (lv_sub hl [1, 0, 2, 3] rfl)
        · have z_b_82 := trivial
          have k_83 : rr_50.toInt ≤ rr_72.toInt := z_nlt rfl rfl c_77
          refine lv_iload_n X.1 X.2.1 dX12_thinnest_69 rfl (lv_at hl 1 rfl) ?_
          refine lv_istore_n (lv' := [(2, .int (i3_10)), (3, .int (i3_10)), (0, .ref x), (1, .int (a1))]) X.1 X.2.1 dX12_thinnest_70 rfl hl (by decide) rfl (fun ls hl => ?_)
          obtain ⟨x_84, ex_84⟩ : ∃ y : Int32, y = i3_10 + (-1) := ⟨_, rfl⟩
          have z_85 : x_84.toInt = i3_10_z + (-1) := z_add ex_84 hz_i3_10 ti_m1 (by omega) (by omega)
          refine lv_iinc (v := x_84) (lv' := [(3, .int (x_84)), (2, .int (i3_10)), (0, .ref x), (1, .int (a1))]) X.1 X.2.1 dX12_thinnest_71 hl (k := 1) rfl (by rw [ex_84]; rfl) (by decide) rfl (fun ls hl => ?_)
          refine lv_goto (tgt := 11) X.1 X.2.1 dX12_thinnest_74 (by decide) ?_
          exact ih_L_8 _ (by omega) _ _ _ (i3_10) (i3_10_z) (x_84) (x_84.toInt) rfl hw hz_i3_10 (by omega) rfl (by omega) (by omega) (by omega) (by omega) (by rw [show (x_84.toInt : Int) + 1 = i3_10_z by omega]; exact thS_yes (by omega) iv_14 (Or.inr (by rw [hF_49 _ (by assumption), hF_71 _ (by assumption)]; omega))) (lv_sub hl [1, 0, 2, 3] rfl)
  exact L_8 _ _ _ _ ((-1)) ((-1)) (v_6) ((rr_1.toInt - 1)) rfl hw ti_m1 (by omega) z_7 (by omega) (by omega) (by omega) (by omega) (by rw [show ((rr_1.toInt - 1) : Int) + 1 = zA S x 1219 (3 * a1_z + 1).toNat by omega]; rfl) (lv_sub hl [1, 0, 2, 3] rfl)
set_option maxHeartbeats 4000000 in
set_option maxRecDepth 100000 in
theorem k_X12_about (l : Launch) (G : va_G) (cy : Nat → ClassId) (κ : Nat → Nat) (S : PS) (sz : Nat) (x : Nat) (a1 : Int32) (a1_z : Int) (a2 : Int32) (a2_z : Int) (hG : GX S) (ha_x : At S x 12) (hz_a1 : a1.toInt = a1_z) (hz_a2 : a2.toInt = a2_z) (hp_0 : MI S x) : Ci l yX12_about wsX12_about ({ frames := 5, cells := 0, slots := 0, locals := 240 }) G cy κ S sz [.ref x, .int (a1), .int (a2)] (fun (r : Int32) (S9 : PS) => Ok MN S S9 ∧ (True)) := by
  refine ent_m (cc := cX12_about) (maxL := 3) (ret := (some .int)) (by decide) rfl (Nat.le_of_ble_eq_true rfl) ?_
  intro p e s m below meth c ls X hr hlocks hin hw hl hsz
  subst hsz
  have X : Cx p c cX12_about 3 s [.ref x, .int (a1), .int (a2)].toArray wsX12_about RX12 m G cy κ (AS S s.heap.size) := X
  have hl : lv_has ls 3 [(0, .ref x), (1, .int (a1)), (2, .int (a2))] := hl
  have rg_a1 : (-2147483648) ≤ a1_z ∧ a1_z ≤ 2147483647 := by rw [← hz_a1]; exact ⟨z_lo _, z_hi _⟩
  have rg_a2 : (-2147483648) ≤ a2_z ∧ a2_z ≤ 2147483647 := by rw [← hz_a2]; exact ⟨z_lo _, z_hi _⟩
  have hO : Ok MN S S := Ok.rf hG
  refine lv_aload_n X.1 X.2.1 dX12_about_0 rfl (lv_at hl 0 rfl) ?_
  refine lv_iconst (v := 0) X.1 X.2.1 dX12_about_1 (by decide) ?_
  refine r_putI (v := 0) X hw ha_x rfl 0 1200 tyX12 (by decide) rfl inn_X12_about_12 tyX12_ok nmX12 (by decide) (X.2.2.2.1 (.fieldLink RX12 161 "SilkMillModel" "thrown" "I") (by decide +kernel)) rfl (Or.inl rfl) rfl rfl (Nat.le_of_ble_eq_true rfl) (st_1200 _ _) dX12_about_2 (fun H locs hw => ?_)
  obtain ⟨S_1, eS_1⟩ : ∃ T, T = sI S 1200 x (0) := ⟨_, rfl⟩
  rw [← eS_1] at hw
  have hO_2 : Ok MN S S_1 := hO.sI eS_1 (by decide +kernel) (uI_12_1200 hO.1 ha_x)
  have h_3 : pI S_1 1200 x = 0 := tI_sIs eS_1
  refine lv_aload_n X.1 X.2.1 dX12_about_5 rfl (lv_at hl 0 rfl) ?_
  refine lv_iload_n X.1 X.2.1 dX12_about_6 rfl (lv_at hl 1 rfl) ?_
  have t_4 : At S_1 x 12 := tAt_sI eS_1 ha_x
  refine k_i (rm := { frames := 2, cells := 0, slots := 0, locals := 96 }) (av := [.ref x, .int (a1)]) X hw (va_runV (As := [.int (a1)]) (rest := []) (cfix X) (k_X12_isPot l G cy κ S_1 _ x (a1) (a1_z) hO_2.1 t_4 hz_a1) (cwV 1 X.2.2.2.1 gX12_about_X12_isPot rfl rfl rfl (by decide +kernel) ⟨Nat.le_of_ble_eq_true rfl, Nat.le_of_ble_eq_true rfl⟩) (pre_V X hw _ t_4 rfl (by decide) rfl) rfl rfl hl.1 rfl (lv_room (Nat.le_of_ble_eq_true rfl)) dX12_about_7 ⟨Nat.le_of_ble_eq_true rfl, Nat.le_of_ble_eq_true rfl⟩) 0 0 (Nat.le_of_ble_eq_true rfl) (Nat.le_of_ble_eq_true rfl) (fun rr_5 S_6 H locs hp hw hfr hnw => ?_)
  obtain ⟨e2, hp⟩ := hp
  subst e2
  rcases hp with ⟨f_7, er_8⟩ | ⟨f_7, er_8⟩ <;> subst er_8
  · have z_b_9 := trivial
    refine lv_if_ne (tgt := 15) X.1 X.2.1 dX12_about_10 (by decide) (fun c_10 => ?_) (fun c_10 => absurd c_10 (by decide))
    refine lv_iload_n X.1 X.2.1 dX12_about_15 rfl (lv_at hl 2 rfl) ?_
    by_cases w_11 : (a2).toInt < 0 ∨ 10 < (a2).toInt
    · refine lv_tableOut (tgt := 138) X.1 X.2.1 dX12_about_16 w_11 (by decide) ?_
      refine lv_iconst (v := (-1)) X.1 X.2.1 dX12_about_138 (by decide) ?_
      exact ret_i X hw hr hlocks (Nat.le_of_ble_eq_true rfl) (Nat.le_of_ble_eq_true rfl) ⟨hO_2, trivial⟩ dX12_about_139
    have w_11b : (a2).toInt = 0 ∨ (a2).toInt = 1 ∨ (a2).toInt = 2 ∨ (a2).toInt = 3 ∨ (a2).toInt = 4 ∨ (a2).toInt = 5 ∨ (a2).toInt = 6 ∨ (a2).toInt = 7 ∨ (a2).toInt = 8 ∨ (a2).toInt = 9 ∨ (a2).toInt = 10 := by omega
    rcases w_11b with w_11c | w_11c | w_11c | w_11c | w_11c | w_11c | w_11c | w_11c | w_11c | w_11c | w_11c
    · refine lv_tableIn (tgt := 76) X.1 X.2.1 dX12_about_16 (by omega) (by omega) (by rw [w_11c]; rfl) (by decide) ?_
      refine lv_aload_n X.1 X.2.1 dX12_about_76 rfl (lv_at hl 0 rfl) ?_
      refine lv_iload_n X.1 X.2.1 dX12_about_77 rfl (lv_at hl 1 rfl) ?_
      refine lv_iload_n X.1 X.2.1 dX12_about_78 rfl (lv_at hl 2 rfl) ?_
      refine k_i (rm := { frames := 1, cells := 0, slots := 0, locals := 48 }) (av := [.ref x, .int (a1), .int (a2)]) X hw (va_runV (As := [.int (a1), .int (a2)]) (rest := []) (cfix X) (k_X12_many2 l G cy κ S_1 _ x (a1) (a1_z) (a2) (a2_z) hO_2.1 t_4 hz_a1 hz_a2 (by first | assumption | omega) (by first | assumption | omega) (by first | assumption | omega) (by first | assumption | omega)) (cwV 2 X.2.2.2.1 gX12_about_X12_many rfl rfl rfl (by decide +kernel) ⟨Nat.le_of_ble_eq_true rfl, Nat.le_of_ble_eq_true rfl⟩) (pre_V X hw _ t_4 rfl (by decide) rfl) rfl rfl hl.1 rfl (lv_room (Nat.le_of_ble_eq_true rfl)) dX12_about_79 ⟨Nat.le_of_ble_eq_true rfl, Nat.le_of_ble_eq_true rfl⟩) 0 0 (Nat.le_of_ble_eq_true rfl) (Nat.le_of_ble_eq_true rfl) (fun rr_12 S_13 H locs hp hw hfr hnw => ?_)
      obtain ⟨e2, hp⟩ := hp
      subst e2
      obtain ⟨f_14, f_15, f_16⟩ := hp
      exact ret_i X hw hr hlocks (Nat.le_of_ble_eq_true rfl) (Nat.le_of_ble_eq_true rfl) ⟨hO_2, trivial⟩ dX12_about_82
    · refine lv_tableIn (tgt := 76) X.1 X.2.1 dX12_about_16 (by omega) (by omega) (by rw [w_11c]; rfl) (by decide) ?_
      refine lv_aload_n X.1 X.2.1 dX12_about_76 rfl (lv_at hl 0 rfl) ?_
      refine lv_iload_n X.1 X.2.1 dX12_about_77 rfl (lv_at hl 1 rfl) ?_
      refine lv_iload_n X.1 X.2.1 dX12_about_78 rfl (lv_at hl 2 rfl) ?_
      refine k_i (rm := { frames := 1, cells := 0, slots := 0, locals := 48 }) (av := [.ref x, .int (a1), .int (a2)]) X hw (va_runV (As := [.int (a1), .int (a2)]) (rest := []) (cfix X) (k_X12_many2 l G cy κ S_1 _ x (a1) (a1_z) (a2) (a2_z) hO_2.1 t_4 hz_a1 hz_a2 (by first | assumption | omega) (by first | assumption | omega) (by first | assumption | omega) (by first | assumption | omega)) (cwV 2 X.2.2.2.1 gX12_about_X12_many rfl rfl rfl (by decide +kernel) ⟨Nat.le_of_ble_eq_true rfl, Nat.le_of_ble_eq_true rfl⟩) (pre_V X hw _ t_4 rfl (by decide) rfl) rfl rfl hl.1 rfl (lv_room (Nat.le_of_ble_eq_true rfl)) dX12_about_79 ⟨Nat.le_of_ble_eq_true rfl, Nat.le_of_ble_eq_true rfl⟩) 0 0 (Nat.le_of_ble_eq_true rfl) (Nat.le_of_ble_eq_true rfl) (fun rr_17 S_18 H locs hp hw hfr hnw => ?_)
      obtain ⟨e2, hp⟩ := hp
      subst e2
      obtain ⟨f_19, f_20, f_21⟩ := hp
      exact ret_i X hw hr hlocks (Nat.le_of_ble_eq_true rfl) (Nat.le_of_ble_eq_true rfl) ⟨hO_2, trivial⟩ dX12_about_82
    · refine lv_tableIn (tgt := 76) X.1 X.2.1 dX12_about_16 (by omega) (by omega) (by rw [w_11c]; rfl) (by decide) ?_
      refine lv_aload_n X.1 X.2.1 dX12_about_76 rfl (lv_at hl 0 rfl) ?_
      refine lv_iload_n X.1 X.2.1 dX12_about_77 rfl (lv_at hl 1 rfl) ?_
      refine lv_iload_n X.1 X.2.1 dX12_about_78 rfl (lv_at hl 2 rfl) ?_
      refine k_i (rm := { frames := 1, cells := 0, slots := 0, locals := 48 }) (av := [.ref x, .int (a1), .int (a2)]) X hw (va_runV (As := [.int (a1), .int (a2)]) (rest := []) (cfix X) (k_X12_many2 l G cy κ S_1 _ x (a1) (a1_z) (a2) (a2_z) hO_2.1 t_4 hz_a1 hz_a2 (by first | assumption | omega) (by first | assumption | omega) (by first | assumption | omega) (by first | assumption | omega)) (cwV 2 X.2.2.2.1 gX12_about_X12_many rfl rfl rfl (by decide +kernel) ⟨Nat.le_of_ble_eq_true rfl, Nat.le_of_ble_eq_true rfl⟩) (pre_V X hw _ t_4 rfl (by decide) rfl) rfl rfl hl.1 rfl (lv_room (Nat.le_of_ble_eq_true rfl)) dX12_about_79 ⟨Nat.le_of_ble_eq_true rfl, Nat.le_of_ble_eq_true rfl⟩) 0 0 (Nat.le_of_ble_eq_true rfl) (Nat.le_of_ble_eq_true rfl) (fun rr_22 S_23 H locs hp hw hfr hnw => ?_)
      obtain ⟨e2, hp⟩ := hp
      subst e2
      obtain ⟨f_24, f_25, f_26⟩ := hp
      exact ret_i X hw hr hlocks (Nat.le_of_ble_eq_true rfl) (Nat.le_of_ble_eq_true rfl) ⟨hO_2, trivial⟩ dX12_about_82
    · refine lv_tableIn (tgt := 83) X.1 X.2.1 dX12_about_16 (by omega) (by omega) (by rw [w_11c]; rfl) (by decide) ?_
      refine lv_aload_n X.1 X.2.1 dX12_about_83 rfl (lv_at hl 0 rfl) ?_
      obtain ⟨q_27, h_28, h_29, h_30⟩ := gQ_12_1237 hO_2.1 t_4
      refine r_getR (g := 1237) X hw t_4 rfl 37 h_28 (by decide) rfl inn_X12_about_12 (by decide) (X.2.2.2.1 (.fieldLink RX12 97 "SilkMillModel" "grown" "[I") (by decide +kernel)) rfl (gv_1237 _ _) dX12_about_84 ?_
      refine lv_iload_n X.1 X.2.1 dX12_about_87 rfl (lv_at hl 1 rfl) ?_
      refine r_iald X hw h_29 rfl (by rw [h_30]; exact z_ix hz_a1 (by omega) (by omega)) dX12_about_88 ?_
      refine lv_topi (fun v_31 ev_31 => ?_)
      have z_32 := gE_954 hO_2.1 h_29 (Int32.toNatClampNeg (a1)); rw [← ev_31] at z_32
      have ev_31 := ev_31.symm
      exact ret_i X hw hr hlocks (Nat.le_of_ble_eq_true rfl) (Nat.le_of_ble_eq_true rfl) ⟨hO_2, trivial⟩ dX12_about_89
    · refine lv_tableIn (tgt := 90) X.1 X.2.1 dX12_about_16 (by omega) (by omega) (by rw [w_11c]; rfl) (by decide) ?_
      refine lv_aload_n X.1 X.2.1 dX12_about_90 rfl (lv_at hl 0 rfl) ?_
      obtain ⟨q_33, h_34, h_35, h_36⟩ := gQ_12_1215 hO_2.1 t_4
      refine r_getR (g := 1215) X hw t_4 rfl 15 h_34 (by decide) rfl inn_X12_about_12 (by decide) (X.2.2.2.1 (.fieldLink RX12 46 "SilkMillModel" "stop" "[I") (by decide +kernel)) rfl (gv_1215 _ _) dX12_about_91 ?_
      refine lv_iload_n X.1 X.2.1 dX12_about_94 rfl (lv_at hl 1 rfl) ?_
      refine r_iald X hw h_35 rfl (by rw [h_36]; exact z_ix hz_a1 (by omega) (by omega)) dX12_about_95 ?_
      refine lv_topi (fun v_37 ev_37 => ?_)
      have rg_38 := And.intro (z_lo v_37) (z_hi v_37)
      have ev_37 := ev_37.symm
      exact ret_i X hw hr hlocks (Nat.le_of_ble_eq_true rfl) (Nat.le_of_ble_eq_true rfl) ⟨hO_2, trivial⟩ dX12_about_96
    · refine lv_tableIn (tgt := 97) X.1 X.2.1 dX12_about_16 (by omega) (by omega) (by rw [w_11c]; rfl) (by decide) ?_
      refine lv_aload_n X.1 X.2.1 dX12_about_97 rfl (lv_at hl 0 rfl) ?_
      obtain ⟨q_39, h_40, h_41, h_42⟩ := gQ_12_1214 hO_2.1 t_4
      refine r_getR (g := 1214) X hw t_4 rfl 14 h_40 (by decide) rfl inn_X12_about_12 (by decide) (X.2.2.2.1 (.fieldLink RX12 43 "SilkMillModel" "search" "[I") (by decide +kernel)) rfl (gv_1214 _ _) dX12_about_98 ?_
      refine lv_iload_n X.1 X.2.1 dX12_about_101 rfl (lv_at hl 1 rfl) ?_
      refine r_iald X hw h_41 rfl (by rw [h_42]; exact z_ix hz_a1 (by omega) (by omega)) dX12_about_102 ?_
      refine lv_topi (fun v_43 ev_43 => ?_)
      have rg_44 := And.intro (z_lo v_43) (z_hi v_43)
      have ev_43 := ev_43.symm
      exact ret_i X hw hr hlocks (Nat.le_of_ble_eq_true rfl) (Nat.le_of_ble_eq_true rfl) ⟨hO_2, trivial⟩ dX12_about_103
    · refine lv_tableIn (tgt := 104) X.1 X.2.1 dX12_about_16 (by omega) (by omega) (by rw [w_11c]; rfl) (by decide) ?_
      refine lv_aload_n X.1 X.2.1 dX12_about_104 rfl (lv_at hl 0 rfl) ?_
      refine lv_iload_n X.1 X.2.1 dX12_about_105 rfl (lv_at hl 1 rfl) ?_
      refine k_i (rm := { frames := 4, cells := 0, slots := 0, locals := 192 }) (av := [.ref x, .int (a1)]) X hw (va_runV (As := [.int (a1)]) (rest := []) (cfix X) (k_X12_nowFine l G cy κ S_1 _ x (a1) (a1_z) hO_2.1 t_4 hz_a1 (by first | assumption | omega) (by first | assumption | omega) (MIe_free hG ha_x hO_2.fr (by decide +kernel) hp_0)) (cwV 1 X.2.2.2.1 gX12_about_X12_nowFine rfl rfl rfl (by decide +kernel) ⟨Nat.le_of_ble_eq_true rfl, Nat.le_of_ble_eq_true rfl⟩) (pre_V X hw _ t_4 rfl (by decide) rfl) rfl rfl hl.1 rfl (lv_room (Nat.le_of_ble_eq_true rfl)) dX12_about_106 ⟨Nat.le_of_ble_eq_true rfl, Nat.le_of_ble_eq_true rfl⟩) 0 0 (Nat.le_of_ble_eq_true rfl) (Nat.le_of_ble_eq_true rfl) (fun rr_45 S_46 H locs hp hw hfr hnw => ?_)
      obtain ⟨e2, hp⟩ := hp
      subst e2
      have rg_47 := And.intro (z_lo rr_45) (z_hi rr_45)
      exact ret_i X hw hr hlocks (Nat.le_of_ble_eq_true rfl) (Nat.le_of_ble_eq_true rfl) ⟨hO_2, trivial⟩ dX12_about_109
    · refine lv_tableIn (tgt := 110) X.1 X.2.1 dX12_about_16 (by omega) (by omega) (by rw [w_11c]; rfl) (by decide) ?_
      refine lv_aload_n X.1 X.2.1 dX12_about_110 rfl (lv_at hl 0 rfl) ?_
      obtain ⟨q_48, h_49, h_50, h_51⟩ := gQ_12_1216 hO_2.1 t_4
      refine r_getR (g := 1216) X hw t_4 rfl 16 h_49 (by decide) rfl inn_X12_about_12 (by decide) (X.2.2.2.1 (.fieldLink RX12 49 "SilkMillModel" "drawnEver" "[I") (by decide +kernel)) rfl (gv_1216 _ _) dX12_about_111 ?_
      refine lv_iload_n X.1 X.2.1 dX12_about_114 rfl (lv_at hl 1 rfl) ?_
      refine r_iald X hw h_50 rfl (by rw [h_51]; exact z_ix hz_a1 (by omega) (by omega)) dX12_about_115 ?_
      refine lv_topi (fun v_52 ev_52 => ?_)
      have rg_53 := And.intro (z_lo v_52) (z_hi v_52)
      have ev_52 := ev_52.symm
      exact ret_i X hw hr hlocks (Nat.le_of_ble_eq_true rfl) (Nat.le_of_ble_eq_true rfl) ⟨hO_2, trivial⟩ dX12_about_116
    · refine lv_tableIn (tgt := 117) X.1 X.2.1 dX12_about_16 (by omega) (by omega) (by rw [w_11c]; rfl) (by decide) ?_
      refine lv_aload_n X.1 X.2.1 dX12_about_117 rfl (lv_at hl 0 rfl) ?_
      obtain ⟨q_54, h_55, h_56, h_57⟩ := gQ_12_1217 hO_2.1 t_4
      refine r_getR (g := 1217) X hw t_4 rfl 17 h_55 (by decide) rfl inn_X12_about_12 (by decide) (X.2.2.2.1 (.fieldLink RX12 52 "SilkMillModel" "ticksEver" "[I") (by decide +kernel)) rfl (gv_1217 _ _) dX12_about_118 ?_
      refine lv_iload_n X.1 X.2.1 dX12_about_121 rfl (lv_at hl 1 rfl) ?_
      refine r_iald X hw h_56 rfl (by rw [h_57]; exact z_ix hz_a1 (by omega) (by omega)) dX12_about_122 ?_
      refine lv_topi (fun v_58 ev_58 => ?_)
      have rg_59 := And.intro (z_lo v_58) (z_hi v_58)
      have ev_58 := ev_58.symm
      exact ret_i X hw hr hlocks (Nat.le_of_ble_eq_true rfl) (Nat.le_of_ble_eq_true rfl) ⟨hO_2, trivial⟩ dX12_about_123
    · refine lv_tableIn (tgt := 124) X.1 X.2.1 dX12_about_16 (by omega) (by omega) (by rw [w_11c]; rfl) (by decide) ?_
      refine lv_aload_n X.1 X.2.1 dX12_about_124 rfl (lv_at hl 0 rfl) ?_
      obtain ⟨q_60, h_61, h_62, h_63⟩ := gQ_12_1220 hO_2.1 t_4
      refine r_getR (g := 1220) X hw t_4 rfl 20 h_61 (by decide) rfl inn_X12_about_12 (by decide) (X.2.2.2.1 (.fieldLink RX12 61 "SilkMillModel" "rules" "[I") (by decide +kernel)) rfl (gv_1220 _ _) dX12_about_125 ?_
      refine lv_iload_n X.1 X.2.1 dX12_about_128 rfl (lv_at hl 1 rfl) ?_
      refine r_iald X hw h_62 rfl (by rw [h_63]; exact z_ix hz_a1 (by omega) (by omega)) dX12_about_129 ?_
      refine lv_topi (fun v_64 ev_64 => ?_)
      have z_65 := gE_614 hO_2.1 h_62 (Int32.toNatClampNeg (a1)); rw [← ev_64] at z_65
      have ev_64 := ev_64.symm
      exact ret_i X hw hr hlocks (Nat.le_of_ble_eq_true rfl) (Nat.le_of_ble_eq_true rfl) ⟨hO_2, trivial⟩ dX12_about_130
    · refine lv_tableIn (tgt := 131) X.1 X.2.1 dX12_about_16 (by omega) (by omega) (by rw [w_11c]; rfl) (by decide) ?_
      refine lv_aload_n X.1 X.2.1 dX12_about_131 rfl (lv_at hl 0 rfl) ?_
      obtain ⟨q_66, h_67, h_68, h_69⟩ := gQ_12_1212 hO_2.1 t_4
      refine r_getR (g := 1212) X hw t_4 rfl 12 h_67 (by decide) rfl inn_X12_about_12 (by decide) (X.2.2.2.1 (.fieldLink RX12 37 "SilkMillModel" "aim" "[I") (by decide +kernel)) rfl (gv_1212 _ _) dX12_about_132 ?_
      refine lv_iload_n X.1 X.2.1 dX12_about_135 rfl (lv_at hl 1 rfl) ?_
      refine r_iald X hw h_68 rfl (by rw [h_69]; exact z_ix hz_a1 (by omega) (by omega)) dX12_about_136 ?_
      refine lv_topi (fun v_70 ev_70 => ?_)
      have rg_71 := And.intro (z_lo v_70) (z_hi v_70)
      have ev_70 := ev_70.symm
      exact ret_i X hw hr hlocks (Nat.le_of_ble_eq_true rfl) (Nat.le_of_ble_eq_true rfl) ⟨hO_2, trivial⟩ dX12_about_137
  · have z_b_72 := trivial
    refine lv_if_ne (tgt := 15) X.1 X.2.1 dX12_about_10 (by decide) (fun c_73 => absurd c_73 (by decide)) (fun c_73 => ?_)
    refine lv_iconst (v := (-1)) X.1 X.2.1 dX12_about_13 (by decide) ?_
    exact ret_i X hw hr hlocks (Nat.le_of_ble_eq_true rfl) (Nat.le_of_ble_eq_true rfl) ⟨hO_2, trivial⟩ dX12_about_14
set_option maxHeartbeats 4000000 in
set_option maxRecDepth 100000 in
theorem k_X12_in (l : Launch) (G : va_G) (cy : Nat → ClassId) (κ : Nat → Nat) (S : PS) (sz : Nat) (x : Nat) (a1 : Int32) (a1_z : Int) (a2 : Int32) (a2_z : Int) (a3 : Int32) (a3_z : Int) (hG : GX S) (ha_x : At S x 12) (hz_a1 : a1.toInt = a1_z) (hz_a2 : a2.toInt = a2_z) (hz_a3 : a3.toInt = a3_z) : Ci l yX12_in wsX12_in ({ frames := 3, cells := 0, slots := 0, locals := 144 }) G cy κ S sz [.ref x, .int (a1), .int (a2), .int (a3)] (fun (r : Int32) (S9 : PS) => Ok MN S S9 ∧ (True)) := by
  refine ent_m (cc := cX12_in) (maxL := 5) (ret := (some .int)) (by decide) rfl (Nat.le_of_ble_eq_true rfl) ?_
  intro p e s m below meth c ls X hr hlocks hin hw hl hsz
  subst hsz
  have X : Cx p c cX12_in 5 s [.ref x, .int (a1), .int (a2), .int (a3)].toArray wsX12_in RX12 m G cy κ (AS S s.heap.size) := X
  have hl : lv_has ls 5 [(0, .ref x), (1, .int (a1)), (2, .int (a2)), (3, .int (a3))] := hl
  have rg_a1 : (-2147483648) ≤ a1_z ∧ a1_z ≤ 2147483647 := by rw [← hz_a1]; exact ⟨z_lo _, z_hi _⟩
  have rg_a2 : (-2147483648) ≤ a2_z ∧ a2_z ≤ 2147483647 := by rw [← hz_a2]; exact ⟨z_lo _, z_hi _⟩
  have rg_a3 : (-2147483648) ≤ a3_z ∧ a3_z ≤ 2147483647 := by rw [← hz_a3]; exact ⟨z_lo _, z_hi _⟩
  have hO : Ok MN S S := Ok.rf hG
  refine lv_aload_n X.1 X.2.1 dX12_in_0 rfl (lv_at hl 0 rfl) ?_
  refine lv_iload_n X.1 X.2.1 dX12_in_1 rfl (lv_at hl 1 rfl) ?_
  refine k_i (rm := { frames := 2, cells := 0, slots := 0, locals := 96 }) (av := [.ref x, .int (a1)]) X hw (va_runV (As := [.int (a1)]) (rest := []) (cfix X) (k_X12_isPot l G cy κ S _ x (a1) (a1_z) hO.1 ha_x hz_a1) (cwV 1 X.2.2.2.1 gX12_in_X12_isPot rfl rfl rfl (by decide +kernel) ⟨Nat.le_of_ble_eq_true rfl, Nat.le_of_ble_eq_true rfl⟩) (pre_V X hw _ ha_x rfl (by decide) rfl) rfl rfl hl.1 rfl (lv_room (Nat.le_of_ble_eq_true rfl)) dX12_in_2 ⟨Nat.le_of_ble_eq_true rfl, Nat.le_of_ble_eq_true rfl⟩) 0 0 (Nat.le_of_ble_eq_true rfl) (Nat.le_of_ble_eq_true rfl) (fun rr_1 S_2 H locs hp hw hfr hnw => ?_)
  obtain ⟨e2, hp⟩ := hp
  subst e2
  rcases hp with ⟨f_3, er_4⟩ | ⟨f_3, er_4⟩ <;> subst er_4
  · have z_b_5 := trivial
    refine lv_if_eq (tgt := 37) X.1 X.2.1 dX12_in_5 (by decide) (fun c_6 => absurd c_6 (by decide)) (fun c_6 => ?_)
    refine lv_iload_n X.1 X.2.1 dX12_in_8 rfl (lv_at hl 2 rfl) ?_
    refine lv_iconst (v := 0) X.1 X.2.1 dX12_in_9 (by decide) ?_
    refine lv_iconst (v := 2) X.1 X.2.1 dX12_in_10 (by decide) ?_
    refine k_i (rm := { frames := 1, cells := 0, slots := 0, locals := 48 }) (av := [.int (a2), .int 0, .int 2]) X hw (va_runS (As := [.int (a2), .int 0, .int 2]) (rest := []) (cfix X) (k_X12_within l G cy κ S _ (a2) (a2_z) (0) (0) (2) (2) hO.1 hz_a2 ti_0 ti_2) (cwS 3 X.2.2.2.1 gX12_in_X12_within rfl rfl rfl (by decide +kernel) ⟨Nat.le_of_ble_eq_true rfl, Nat.le_of_ble_eq_true rfl⟩) (pre_S X hw _) rfl rfl hl.1 rfl (lv_room (Nat.le_of_ble_eq_true rfl)) dX12_in_11 ⟨Nat.le_of_ble_eq_true rfl, Nat.le_of_ble_eq_true rfl⟩) 0 0 (Nat.le_of_ble_eq_true rfl) (Nat.le_of_ble_eq_true rfl) (fun rr_7 S_8 H locs hp hw hfr hnw => ?_)
    obtain ⟨e2, hp⟩ := hp
    subst e2
    rcases hp with ⟨f_9, er_10⟩ | ⟨f_9, er_10⟩ <;> subst er_10
    · have z_b_11 := trivial
      refine lv_if_eq (tgt := 37) X.1 X.2.1 dX12_in_14 (by decide) (fun c_12 => absurd c_12 (by decide)) (fun c_12 => ?_)
      refine lv_iload_n X.1 X.2.1 dX12_in_17 rfl (lv_at hl 3 rfl) ?_
      refine lv_iconst (v := 0) X.1 X.2.1 dX12_in_18 (by decide) ?_
      refine lv_aload_n X.1 X.2.1 dX12_in_19 rfl (lv_at hl 0 rfl) ?_
      refine lv_iload_n X.1 X.2.1 dX12_in_20 rfl (lv_at hl 1 rfl) ?_
      refine lv_iload_n X.1 X.2.1 dX12_in_21 rfl (lv_at hl 2 rfl) ?_
      refine k_i (rm := { frames := 1, cells := 0, slots := 0, locals := 48 }) (av := [.ref x, .int (a1), .int (a2)]) X hw (va_runV (As := [.int (a1), .int (a2)]) (rest := [.int 0, .int (a3)]) (cfix X) (k_X12_many2 l G cy κ S _ x (a1) (a1_z) (a2) (a2_z) hO.1 ha_x hz_a1 hz_a2 (by first | assumption | omega) (by first | assumption | omega) (by first | assumption | omega) (by first | assumption | omega)) (cwV 2 X.2.2.2.1 gX12_in_X12_many rfl rfl rfl (by decide +kernel) ⟨Nat.le_of_ble_eq_true rfl, Nat.le_of_ble_eq_true rfl⟩) (pre_V X hw _ ha_x rfl (by decide) rfl) rfl rfl hl.1 rfl (lv_room (Nat.le_of_ble_eq_true rfl)) dX12_in_22 ⟨Nat.le_of_ble_eq_true rfl, Nat.le_of_ble_eq_true rfl⟩) 0 0 (Nat.le_of_ble_eq_true rfl) (Nat.le_of_ble_eq_true rfl) (fun rr_13 S_14 H locs hp hw hfr hnw => ?_)
      obtain ⟨e2, hp⟩ := hp
      subst e2
      obtain ⟨f_15, f_16, f_17⟩ := hp
      refine lv_iconst (v := 1) X.1 X.2.1 dX12_in_25 (by decide) ?_
      refine lv_isub X.1 X.2.1 dX12_in_26 ?_
      refine lv_topi (fun v_18 ev_18 => ?_)
      have z_19 : v_18.toInt = rr_13.toInt - 1 := z_sub ev_18 rfl ti_1 (by omega) (by omega)
      refine k_i (rm := { frames := 1, cells := 0, slots := 0, locals := 48 }) (av := [.int (a3), .int 0, .int (v_18)]) X hw (va_runS (As := [.int (a3), .int 0, .int (v_18)]) (rest := []) (cfix X) (k_X12_within l G cy κ S _ (a3) (a3_z) (0) (0) (v_18) ((rr_13.toInt - 1)) hO.1 hz_a3 ti_0 z_19) (cwS 3 X.2.2.2.1 gX12_in_X12_within rfl rfl rfl (by decide +kernel) ⟨Nat.le_of_ble_eq_true rfl, Nat.le_of_ble_eq_true rfl⟩) (pre_S X hw _) rfl rfl hl.1 rfl (lv_room (Nat.le_of_ble_eq_true rfl)) dX12_in_27 ⟨Nat.le_of_ble_eq_true rfl, Nat.le_of_ble_eq_true rfl⟩) 0 0 (Nat.le_of_ble_eq_true rfl) (Nat.le_of_ble_eq_true rfl) (fun rr_20 S_21 H locs hp hw hfr hnw => ?_)
      obtain ⟨e2, hp⟩ := hp
      subst e2
      rcases hp with ⟨f_22, er_23⟩ | ⟨f_22, er_23⟩ <;> subst er_23
      · have z_b_24 := trivial
        refine lv_if_eq (tgt := 37) X.1 X.2.1 dX12_in_30 (by decide) (fun c_25 => absurd c_25 (by decide)) (fun c_25 => ?_)
        refine lv_iconst (v := 1) X.1 X.2.1 dX12_in_33 (by decide) ?_
        refine lv_goto (tgt := 38) X.1 X.2.1 dX12_in_34 (by decide) ?_
        refine lv_istore (lv' := [(4, .int 1), (0, .ref x), (1, .int (a1)), (2, .int (a2)), (3, .int (a3))]) X.1 X.2.1 dX12_in_38 hl (by decide) rfl (fun ls hl => ?_)
        refine lv_aload_n X.1 X.2.1 dX12_in_40 rfl (lv_at hl 1 rfl) ?_
        refine lv_iload X.1 X.2.1 dX12_in_41 (lv_at hl 0 rfl) ?_
        refine lv_if_eq (tgt := 50) X.1 X.2.1 dX12_in_43 (by decide) (fun c_26 => absurd c_26 (by decide)) (fun c_26 => ?_)
        refine lv_iconst (v := 0) X.1 X.2.1 dX12_in_46 (by decide) ?_
        refine lv_goto (tgt := 51) X.1 X.2.1 dX12_in_47 (by decide) ?_
        refine r_putI (v := 0) X hw ha_x rfl 0 1200 tyX12 (by decide) rfl inn_X12_in_12 tyX12_ok nmX12 (by decide) (X.2.2.2.1 (.fieldLink RX12 161 "SilkMillModel" "thrown" "I") (by decide +kernel)) rfl (Or.inl rfl) rfl rfl (Nat.le_of_ble_eq_true rfl) (st_1200 _ _) dX12_in_51 (fun H locs hw => ?_)
        obtain ⟨S_27, eS_27⟩ : ∃ T, T = sI S 1200 x (0) := ⟨_, rfl⟩
        rw [← eS_27] at hw
        have hO_28 : Ok MN S S_27 := hO.sI eS_27 (by decide +kernel) (uI_12_1200 hO.1 ha_x)
        have h_29 : pI S_27 1200 x = 0 := tI_sIs eS_27
        refine lv_iload X.1 X.2.1 dX12_in_54 (lv_at hl 0 rfl) ?_
        refine lv_if_eq (tgt := 86) X.1 X.2.1 dX12_in_56 (by decide) (fun c_30 => absurd c_30 (by decide)) (fun c_30 => ?_)
        refine lv_aload_n X.1 X.2.1 dX12_in_59 rfl (lv_at hl 1 rfl) ?_
        refine lv_iload_n X.1 X.2.1 dX12_in_60 rfl (lv_at hl 2 rfl) ?_
        refine lv_iload_n X.1 X.2.1 dX12_in_61 rfl (lv_at hl 3 rfl) ?_
        refine lv_iload_n X.1 X.2.1 dX12_in_62 rfl (lv_at hl 4 rfl) ?_
        have t_31 : At S_27 x 12 := tAt_sI eS_27 ha_x
        refine k_i (rm := { frames := 1, cells := 0, slots := 0, locals := 48 }) (av := [.ref x, .int (a1), .int (a2), .int (a3)]) X hw (va_runV (As := [.int (a1), .int (a2), .int (a3)]) (rest := []) (cfix X) (k_X12_at2 l G cy κ S_27 _ x (a1) (a1_z) (a2) (a2_z) (a3) (a3_z) hO_28.1 t_31 hz_a1 hz_a2 hz_a3 (by first | assumption | omega) (by first | assumption | omega) (by first | assumption | omega) (by first | assumption | omega) (by first | assumption | omega) (by first | assumption | omega)) (cwV 3 X.2.2.2.1 gX12_in_X12_at rfl rfl rfl (by decide +kernel) ⟨Nat.le_of_ble_eq_true rfl, Nat.le_of_ble_eq_true rfl⟩) (pre_V X hw _ t_31 rfl (by decide) rfl) rfl rfl hl.1 rfl (lv_room (Nat.le_of_ble_eq_true rfl)) dX12_in_63 ⟨Nat.le_of_ble_eq_true rfl, Nat.le_of_ble_eq_true rfl⟩) 0 0 (Nat.le_of_ble_eq_true rfl) (Nat.le_of_ble_eq_true rfl) (fun rr_32 S_33 H locs hp hw hfr hnw => ?_)
        obtain ⟨e2, hp⟩ := hp
        subst e2
        obtain ⟨f_34, f_35, f_36⟩ := hp
        refine lv_bipush (v := 60) X.1 X.2.1 dX12_in_66 (by decide) ?_
        refine lv_idiv X.1 X.2.1 dX12_in_68 (by decide) ?_
        refine lv_topi (fun v_37 ev_37 => ?_)
        have z_38 : v_37.toInt = rr_32.toInt / 60 := z_div ev_37 rfl ti_60 (by omega) (by omega)
        refine lv_bipush (v := 100) X.1 X.2.1 dX12_in_69 (by decide) ?_
        refine lv_imul X.1 X.2.1 dX12_in_71 ?_
        refine lv_topi (fun v_39 ev_39 => ?_)
        have z_40 : v_39.toInt = (rr_32.toInt / 60) * 100 := z_mul ev_39 z_38 ti_100 (by omega) (by omega)
        refine lv_aload_n X.1 X.2.1 dX12_in_72 rfl (lv_at hl 1 rfl) ?_
        refine lv_iload_n X.1 X.2.1 dX12_in_73 rfl (lv_at hl 2 rfl) ?_
        refine lv_iload_n X.1 X.2.1 dX12_in_74 rfl (lv_at hl 3 rfl) ?_
        refine lv_iload_n X.1 X.2.1 dX12_in_75 rfl (lv_at hl 4 rfl) ?_
        refine k_i (rm := { frames := 1, cells := 0, slots := 0, locals := 48 }) (av := [.ref x, .int (a1), .int (a2), .int (a3)]) X hw (va_runV (As := [.int (a1), .int (a2), .int (a3)]) (rest := [.int (v_39)]) (cfix X) (k_X12_at2 l G cy κ S_27 _ x (a1) (a1_z) (a2) (a2_z) (a3) (a3_z) hO_28.1 t_31 hz_a1 hz_a2 hz_a3 (by first | assumption | omega) (by first | assumption | omega) (by first | assumption | omega) (by first | assumption | omega) (by first | assumption | omega) (by first | assumption | omega)) (cwV 3 X.2.2.2.1 gX12_in_X12_at rfl rfl rfl (by decide +kernel) ⟨Nat.le_of_ble_eq_true rfl, Nat.le_of_ble_eq_true rfl⟩) (pre_V X hw _ t_31 rfl (by decide) rfl) rfl rfl hl.1 rfl (lv_room (Nat.le_of_ble_eq_true rfl)) dX12_in_76 ⟨Nat.le_of_ble_eq_true rfl, Nat.le_of_ble_eq_true rfl⟩) 0 0 (Nat.le_of_ble_eq_true rfl) (Nat.le_of_ble_eq_true rfl) (fun rr_41 S_42 H locs hp hw hfr hnw => ?_)
        obtain ⟨e2, hp⟩ := hp
        subst e2
        obtain ⟨f_43, f_44, f_45⟩ := hp
        refine lv_bipush (v := 60) X.1 X.2.1 dX12_in_79 (by decide) ?_
        refine lv_irem X.1 X.2.1 dX12_in_81 (by decide) ?_
        refine lv_topi (fun v_46 ev_46 => ?_)
        have z_47 : v_46.toInt = rr_41.toInt % 60 := z_rem ev_46 rfl ti_60 (by omega) (by omega)
        have z_48 : 0 ≤ v_46.toInt ∧ v_46.toInt < 60 := by rw [z_47]; exact ⟨Int.emod_nonneg _ (by omega), Int.emod_lt_of_pos _ (by omega)⟩
        refine lv_iadd X.1 X.2.1 dX12_in_82 ?_
        refine lv_topi (fun v_49 ev_49 => ?_)
        have z_50 : v_49.toInt = ((rr_32.toInt / 60) * 100) + (rr_41.toInt % 60) := z_add ev_49 z_40 z_47 (by omega) (by omega)
        refine lv_goto (tgt := 87) X.1 X.2.1 dX12_in_83 (by decide) ?_
        exact ret_i X hw hr hlocks (Nat.le_of_ble_eq_true rfl) (Nat.le_of_ble_eq_true rfl) ⟨hO_28, trivial⟩ dX12_in_87
      · have z_b_51 := trivial
        refine lv_if_eq (tgt := 37) X.1 X.2.1 dX12_in_30 (by decide) (fun c_52 => ?_) (fun c_52 => absurd c_52 (by decide))
        refine lv_iconst (v := 0) X.1 X.2.1 dX12_in_37 (by decide) ?_
        refine lv_istore (lv' := [(4, .int 0), (0, .ref x), (1, .int (a1)), (2, .int (a2)), (3, .int (a3))]) X.1 X.2.1 dX12_in_38 hl (by decide) rfl (fun ls hl => ?_)
        refine lv_aload_n X.1 X.2.1 dX12_in_40 rfl (lv_at hl 1 rfl) ?_
        refine lv_iload X.1 X.2.1 dX12_in_41 (lv_at hl 0 rfl) ?_
        refine lv_if_eq (tgt := 50) X.1 X.2.1 dX12_in_43 (by decide) (fun c_53 => ?_) (fun c_53 => absurd c_53 (by decide))
        refine lv_iconst (v := 1) X.1 X.2.1 dX12_in_50 (by decide) ?_
        refine r_putI (v := 1) X hw ha_x rfl 0 1200 tyX12 (by decide) rfl inn_X12_in_12 tyX12_ok nmX12 (by decide) (X.2.2.2.1 (.fieldLink RX12 161 "SilkMillModel" "thrown" "I") (by decide +kernel)) rfl (Or.inl rfl) rfl rfl (Nat.le_of_ble_eq_true rfl) (st_1200 _ _) dX12_in_51 (fun H locs hw => ?_)
        obtain ⟨S_54, eS_54⟩ : ∃ T, T = sI S 1200 x (1) := ⟨_, rfl⟩
        rw [← eS_54] at hw
        have hO_55 : Ok MN S S_54 := hO.sI eS_54 (by decide +kernel) (uI_12_1200 hO.1 ha_x)
        have h_56 : pI S_54 1200 x = 1 := tI_sIs eS_54
        refine lv_iload X.1 X.2.1 dX12_in_54 (lv_at hl 0 rfl) ?_
        refine lv_if_eq (tgt := 86) X.1 X.2.1 dX12_in_56 (by decide) (fun c_57 => ?_) (fun c_57 => absurd c_57 (by decide))
        refine lv_iconst (v := 0) X.1 X.2.1 dX12_in_86 (by decide) ?_
        exact ret_i X hw hr hlocks (Nat.le_of_ble_eq_true rfl) (Nat.le_of_ble_eq_true rfl) ⟨hO_55, trivial⟩ dX12_in_87
    · have z_b_58 := trivial
      refine lv_if_eq (tgt := 37) X.1 X.2.1 dX12_in_14 (by decide) (fun c_59 => ?_) (fun c_59 => absurd c_59 (by decide))
      refine lv_iconst (v := 0) X.1 X.2.1 dX12_in_37 (by decide) ?_
      refine lv_istore (lv' := [(4, .int 0), (0, .ref x), (1, .int (a1)), (2, .int (a2)), (3, .int (a3))]) X.1 X.2.1 dX12_in_38 hl (by decide) rfl (fun ls hl => ?_)
      refine lv_aload_n X.1 X.2.1 dX12_in_40 rfl (lv_at hl 1 rfl) ?_
      refine lv_iload X.1 X.2.1 dX12_in_41 (lv_at hl 0 rfl) ?_
      refine lv_if_eq (tgt := 50) X.1 X.2.1 dX12_in_43 (by decide) (fun c_60 => ?_) (fun c_60 => absurd c_60 (by decide))
      refine lv_iconst (v := 1) X.1 X.2.1 dX12_in_50 (by decide) ?_
      refine r_putI (v := 1) X hw ha_x rfl 0 1200 tyX12 (by decide) rfl inn_X12_in_12 tyX12_ok nmX12 (by decide) (X.2.2.2.1 (.fieldLink RX12 161 "SilkMillModel" "thrown" "I") (by decide +kernel)) rfl (Or.inl rfl) rfl rfl (Nat.le_of_ble_eq_true rfl) (st_1200 _ _) dX12_in_51 (fun H locs hw => ?_)
      obtain ⟨S_61, eS_61⟩ : ∃ T, T = sI S 1200 x (1) := ⟨_, rfl⟩
      rw [← eS_61] at hw
      have hO_62 : Ok MN S S_61 := hO.sI eS_61 (by decide +kernel) (uI_12_1200 hO.1 ha_x)
      have h_63 : pI S_61 1200 x = 1 := tI_sIs eS_61
      refine lv_iload X.1 X.2.1 dX12_in_54 (lv_at hl 0 rfl) ?_
      refine lv_if_eq (tgt := 86) X.1 X.2.1 dX12_in_56 (by decide) (fun c_64 => ?_) (fun c_64 => absurd c_64 (by decide))
      refine lv_iconst (v := 0) X.1 X.2.1 dX12_in_86 (by decide) ?_
      exact ret_i X hw hr hlocks (Nat.le_of_ble_eq_true rfl) (Nat.le_of_ble_eq_true rfl) ⟨hO_62, trivial⟩ dX12_in_87
  · have z_b_65 := trivial
    refine lv_if_eq (tgt := 37) X.1 X.2.1 dX12_in_5 (by decide) (fun c_66 => ?_) (fun c_66 => absurd c_66 (by decide))
    refine lv_iconst (v := 0) X.1 X.2.1 dX12_in_37 (by decide) ?_
    refine lv_istore (lv' := [(4, .int 0), (0, .ref x), (1, .int (a1)), (2, .int (a2)), (3, .int (a3))]) X.1 X.2.1 dX12_in_38 hl (by decide) rfl (fun ls hl => ?_)
    refine lv_aload_n X.1 X.2.1 dX12_in_40 rfl (lv_at hl 1 rfl) ?_
    refine lv_iload X.1 X.2.1 dX12_in_41 (lv_at hl 0 rfl) ?_
    refine lv_if_eq (tgt := 50) X.1 X.2.1 dX12_in_43 (by decide) (fun c_67 => ?_) (fun c_67 => absurd c_67 (by decide))
    refine lv_iconst (v := 1) X.1 X.2.1 dX12_in_50 (by decide) ?_
    refine r_putI (v := 1) X hw ha_x rfl 0 1200 tyX12 (by decide) rfl inn_X12_in_12 tyX12_ok nmX12 (by decide) (X.2.2.2.1 (.fieldLink RX12 161 "SilkMillModel" "thrown" "I") (by decide +kernel)) rfl (Or.inl rfl) rfl rfl (Nat.le_of_ble_eq_true rfl) (st_1200 _ _) dX12_in_51 (fun H locs hw => ?_)
    obtain ⟨S_68, eS_68⟩ : ∃ T, T = sI S 1200 x (1) := ⟨_, rfl⟩
    rw [← eS_68] at hw
    have hO_69 : Ok MN S S_68 := hO.sI eS_68 (by decide +kernel) (uI_12_1200 hO.1 ha_x)
    have h_70 : pI S_68 1200 x = 1 := tI_sIs eS_68
    refine lv_iload X.1 X.2.1 dX12_in_54 (lv_at hl 0 rfl) ?_
    refine lv_if_eq (tgt := 86) X.1 X.2.1 dX12_in_56 (by decide) (fun c_71 => ?_) (fun c_71 => absurd c_71 (by decide))
    refine lv_iconst (v := 0) X.1 X.2.1 dX12_in_86 (by decide) ?_
    exact ret_i X hw hr hlocks (Nat.le_of_ble_eq_true rfl) (Nat.le_of_ble_eq_true rfl) ⟨hO_69, trivial⟩ dX12_in_87
