set_option maxRecDepth 20000 in
theorem ggX12_least_X12_fineAt : GoodIn wsX12_least wsX12_fineAt := goodIn_h _ [12, 0, 0, 0, 0, 0, 0, 0, 0, 0, 0, 0, 0, 0, 0, 0, 0, 0, 0, 0, 0, 0, 0, 0, 0, 0, 0, 0, 0, 0, 0, 0, 0, 0, 0, 0, 0, 0, 0, 0, 0, 0, 0, 0, 0, 0, 0, 0, 0, 0, 0, 0, 0, 0, 0, 0, 0, 0, 0, 0, 0, 0, 0, 0, 0, 0, 0, 0, 0, 0, 0, 0, 0, 0, 0, 0, 0, 0, 0, 0, 0, 0, 0, 0, 0, 0, 0, 0, 0] [1, 2, 3, 4, 5, 6, 0, 7, 8, 9, 10, 11, 12, 13, 14, 15, 16, 17, 18, 19, 20, 21, 22, 23, 24, 25, 26, 27, 28, 29, 30, 31, 32, 33, 34, 35, 36, 37, 38, 39, 40, 41, 42, 43, 44, 45, 46, 47, 48, 49, 50, 51, 52, 53, 54, 55, 56, 57, 58, 59, 60, 61, 62, 63, 64, 65, 66, 67, 68, 69, 70, 71, 72, 73, 74, 75, 76, 77, 78, 79, 80, 81, 82, 83, 84, 85, 86, 87, 88] (by decide +kernel) (by decide +kernel)
set_option maxRecDepth 20000 in
theorem gX12_least_X12_fineAt : GoodIn wsX12_least (wsV RX12 287 RX12 yX12_fineAt wsX12_fineAt) := goodIn_app (goodIn_of _ (by decide +kernel)) ggX12_least_X12_fineAt
theorem dX12_least_0 : decode cX12_least 0 = .ok (.aload_n 0, 1) := by decide +kernel
theorem dX12_least_1 : decode cX12_least 1 = .ok (.aload_n 0, 1) := by decide +kernel
theorem dX12_least_2 : decode cX12_least 2 = .ok (.getfield 100, 3) := by decide +kernel
theorem dX12_least_5 : decode cX12_least 5 = .ok (.iload_n 1, 1) := by decide +kernel
theorem dX12_least_6 : decode cX12_least 6 = .ok (.iaload, 1) := by decide +kernel
theorem dX12_least_7 : decode cX12_least 7 = .ok (.invokevirtual 287, 3) := by decide +kernel
theorem dX12_least_10 : decode cX12_least 10 = .ok (.istore_n 3, 1) := by decide +kernel
theorem dX12_least_11 : decode cX12_least 11 = .ok (.aload_n 0, 1) := by decide +kernel
theorem dX12_least_12 : decode cX12_least 12 = .ok (.getfield 100, 3) := by decide +kernel
theorem dX12_least_15 : decode cX12_least 15 = .ok (.iload_n 1, 1) := by decide +kernel
theorem dX12_least_16 : decode cX12_least 16 = .ok (.iaload, 1) := by decide +kernel
theorem dX12_least_17 : decode cX12_least 17 = .ok (.istore 4, 2) := by decide +kernel
theorem dX12_least_19 : decode cX12_least 19 = .ok (.iload 4, 2) := by decide +kernel
theorem dX12_least_21 : decode cX12_least 21 = .ok (.aload_n 0, 1) := by decide +kernel
theorem dX12_least_22 : decode cX12_least 22 = .ok (.getfield 100, 3) := by decide +kernel
theorem dX12_least_25 : decode cX12_least 25 = .ok (.iload_n 1, 1) := by decide +kernel
theorem dX12_least_26 : decode cX12_least 26 = .ok (.iconst 1, 1) := by decide +kernel
theorem dX12_least_27 : decode cX12_least 27 = .ok (.iadd, 1) := by decide +kernel
theorem dX12_least_28 : decode cX12_least 28 = .ok (.iaload, 1) := by decide +kernel
theorem dX12_least_29 : decode cX12_least 29 = .ok (.if_icmp .ge 37, 3) := by decide +kernel
theorem dX12_least_32 : decode cX12_least 32 = .ok (.iload_n 2, 1) := by decide +kernel
theorem dX12_least_33 : decode cX12_least 33 = .ok (.ifCond .eq 16, 3) := by decide +kernel
theorem dX12_least_36 : decode cX12_least 36 = .ok (.iload_n 3, 1) := by decide +kernel
theorem dX12_least_37 : decode cX12_least 37 = .ok (.aload_n 0, 1) := by decide +kernel
theorem dX12_least_38 : decode cX12_least 38 = .ok (.iload 4, 2) := by decide +kernel
theorem dX12_least_40 : decode cX12_least 40 = .ok (.invokevirtual 287, 3) := by decide +kernel
theorem dX12_least_43 : decode cX12_least 43 = .ok (.invokestatic 339, 3) := by decide +kernel
theorem dX12_least_46 : decode cX12_least 46 = .ok (.goto 13, 3) := by decide +kernel
theorem dX12_least_49 : decode cX12_least 49 = .ok (.iload_n 3, 1) := by decide +kernel
theorem dX12_least_50 : decode cX12_least 50 = .ok (.aload_n 0, 1) := by decide +kernel
theorem dX12_least_51 : decode cX12_least 51 = .ok (.iload 4, 2) := by decide +kernel
theorem dX12_least_53 : decode cX12_least 53 = .ok (.invokevirtual 287, 3) := by decide +kernel
theorem dX12_least_56 : decode cX12_least 56 = .ok (.invokestatic 344, 3) := by decide +kernel
theorem dX12_least_59 : decode cX12_least 59 = .ok (.istore_n 3, 1) := by decide +kernel
theorem dX12_least_60 : decode cX12_least 60 = .ok (.iinc 4 1, 3) := by decide +kernel
theorem dX12_least_63 : decode cX12_least 63 = .ok (.goto (-44), 3) := by decide +kernel
theorem dX12_least_66 : decode cX12_least 66 = .ok (.iload_n 3, 1) := by decide +kernel
theorem dX12_least_67 : decode cX12_least 67 = .ok (.ireturn, 1) := by decide +kernel
set_option maxRecDepth 20000 in
theorem ggX12_slips_X12_fineAt : GoodIn wsX12_slips wsX12_fineAt := goodIn_h _ [9, 0, 0, 0, 0, 0, 0, 0, 0, 0, 0, 0, 0, 0, 0, 0, 0, 0, 0, 0, 0, 0, 0, 0, 0, 0, 0, 0, 0, 0, 0, 0, 0, 0, 0, 0, 0, 0, 0, 0, 0, 0, 0, 0, 0, 0, 0, 0, 0, 0, 0, 0, 0, 0, 0, 0, 0, 0, 0, 0, 0, 0, 0, 0, 0, 0, 0, 0, 0, 0, 0, 0, 0, 0, 0, 0, 0, 0, 0, 0, 0, 0, 0, 0, 0, 0, 0, 0, 0] [1, 2, 3, 4, 5, 6, 0, 7, 8, 9, 10, 11, 12, 13, 14, 15, 16, 17, 18, 19, 20, 21, 22, 23, 24, 25, 26, 27, 28, 29, 30, 31, 32, 33, 34, 35, 36, 37, 38, 39, 40, 41, 42, 43, 44, 45, 46, 47, 48, 49, 50, 51, 52, 53, 54, 55, 56, 57, 58, 59, 60, 61, 62, 63, 64, 65, 66, 67, 68, 69, 70, 71, 72, 73, 74, 75, 76, 77, 78, 79, 80, 81, 82, 83, 84, 85, 86, 87, 88] (by decide +kernel) (by decide +kernel)
set_option maxRecDepth 20000 in
theorem gX12_slips_X12_fineAt : GoodIn wsX12_slips (wsV RX12 287 RX12 yX12_fineAt wsX12_fineAt) := goodIn_app (goodIn_of _ (by decide +kernel)) ggX12_slips_X12_fineAt
theorem dX12_slips_0 : decode cX12_slips 0 = .ok (.iconst 0, 1) := by decide +kernel
theorem dX12_slips_1 : decode cX12_slips 1 = .ok (.istore_n 2, 1) := by decide +kernel
theorem dX12_slips_2 : decode cX12_slips 2 = .ok (.aload_n 0, 1) := by decide +kernel
theorem dX12_slips_3 : decode cX12_slips 3 = .ok (.getfield 100, 3) := by decide +kernel
theorem dX12_slips_6 : decode cX12_slips 6 = .ok (.iload_n 1, 1) := by decide +kernel
theorem dX12_slips_7 : decode cX12_slips 7 = .ok (.iaload, 1) := by decide +kernel
theorem dX12_slips_8 : decode cX12_slips 8 = .ok (.iconst 1, 1) := by decide +kernel
theorem dX12_slips_9 : decode cX12_slips 9 = .ok (.iadd, 1) := by decide +kernel
theorem dX12_slips_10 : decode cX12_slips 10 = .ok (.istore_n 3, 1) := by decide +kernel
theorem dX12_slips_11 : decode cX12_slips 11 = .ok (.iload_n 3, 1) := by decide +kernel
theorem dX12_slips_12 : decode cX12_slips 12 = .ok (.aload_n 0, 1) := by decide +kernel
theorem dX12_slips_13 : decode cX12_slips 13 = .ok (.getfield 100, 3) := by decide +kernel
theorem dX12_slips_16 : decode cX12_slips 16 = .ok (.iload_n 1, 1) := by decide +kernel
theorem dX12_slips_17 : decode cX12_slips 17 = .ok (.iconst 1, 1) := by decide +kernel
theorem dX12_slips_18 : decode cX12_slips 18 = .ok (.iadd, 1) := by decide +kernel
theorem dX12_slips_19 : decode cX12_slips 19 = .ok (.iaload, 1) := by decide +kernel
theorem dX12_slips_20 : decode cX12_slips 20 = .ok (.if_icmp .ge 37, 3) := by decide +kernel
theorem dX12_slips_23 : decode cX12_slips 23 = .ok (.iload_n 2, 1) := by decide +kernel
theorem dX12_slips_24 : decode cX12_slips 24 = .ok (.aload_n 0, 1) := by decide +kernel
theorem dX12_slips_25 : decode cX12_slips 25 = .ok (.iload_n 3, 1) := by decide +kernel
theorem dX12_slips_26 : decode cX12_slips 26 = .ok (.invokevirtual 287, 3) := by decide +kernel
theorem dX12_slips_29 : decode cX12_slips 29 = .ok (.aload_n 0, 1) := by decide +kernel
theorem dX12_slips_30 : decode cX12_slips 30 = .ok (.iload_n 3, 1) := by decide +kernel
theorem dX12_slips_31 : decode cX12_slips 31 = .ok (.iconst 1, 1) := by decide +kernel
theorem dX12_slips_32 : decode cX12_slips 32 = .ok (.isub, 1) := by decide +kernel
theorem dX12_slips_33 : decode cX12_slips 33 = .ok (.invokevirtual 287, 3) := by decide +kernel
theorem dX12_slips_36 : decode cX12_slips 36 = .ok (.isub, 1) := by decide +kernel
theorem dX12_slips_37 : decode cX12_slips 37 = .ok (.invokestatic 347, 3) := by decide +kernel
theorem dX12_slips_40 : decode cX12_slips 40 = .ok (.iconst 4, 1) := by decide +kernel
theorem dX12_slips_41 : decode cX12_slips 41 = .ok (.if_icmp .le 7, 3) := by decide +kernel
theorem dX12_slips_44 : decode cX12_slips 44 = .ok (.iconst 1, 1) := by decide +kernel
theorem dX12_slips_45 : decode cX12_slips 45 = .ok (.goto 4, 3) := by decide +kernel
theorem dX12_slips_48 : decode cX12_slips 48 = .ok (.iconst 0, 1) := by decide +kernel
theorem dX12_slips_49 : decode cX12_slips 49 = .ok (.iadd, 1) := by decide +kernel
theorem dX12_slips_50 : decode cX12_slips 50 = .ok (.istore_n 2, 1) := by decide +kernel
theorem dX12_slips_51 : decode cX12_slips 51 = .ok (.iinc 3 1, 3) := by decide +kernel
theorem dX12_slips_54 : decode cX12_slips 54 = .ok (.goto (-43), 3) := by decide +kernel
theorem dX12_slips_57 : decode cX12_slips 57 = .ok (.iload_n 2, 1) := by decide +kernel
theorem dX12_slips_58 : decode cX12_slips 58 = .ok (.ireturn, 1) := by decide +kernel
set_option maxRecDepth 20000 in
theorem ggX12_metre_X12_isSkein : GoodIn wsX12_metre wsX12_isSkein := goodIn_h _ [7, 0, 0, 0, 0, 0, 28, 0, 0, 0, 0, 0, 0, 0, 0, 0, 0, 0, 0, 0, 0, 0, 0, 0, 0, 0, 0, 0, 0, 0, 0, 0, 0, 0, 0, 0, 0, 0, 0, 0, 0, 0, 0, 0, 0, 0, 0, 0, 0, 0, 0, 0, 0, 0, 0, 0, 0, 0, 0, 0, 0, 0, 0, 0, 0, 0, 0, 0, 0, 0, 0, 0] [1, 2, 3, 4, 0, 5, 6, 7, 8, 9, 10, 11, 12, 13, 14, 15, 16, 17, 18, 19, 20, 21, 22, 23, 24, 25, 26, 27, 28, 29, 30, 31, 32, 33, 34, 35, 36, 37, 38, 39, 40, 41, 42, 43, 44, 45, 46, 47, 48, 49, 50, 51, 52, 53, 54, 55, 56, 57, 58, 59, 60, 61, 62, 63, 64, 65, 66, 67, 68, 69, 70, 71] (by decide +kernel) (by decide +kernel)
set_option maxRecDepth 20000 in
theorem gX12_metre_X12_isSkein : GoodIn wsX12_metre (wsV RX12 362 RX12 yX12_isSkein wsX12_isSkein) := goodIn_app (goodIn_of _ (by decide +kernel)) ggX12_metre_X12_isSkein
set_option maxRecDepth 20000 in
theorem ggX12_metre_X12_metres : GoodIn wsX12_metre wsX12_metres := goodIn_h _ [2, 13, 24, 0, 0, 0, 0, 0, 0, 0, 0, 0, 0, 0, 0, 0, 0, 0, 0, 0, 0, 0, 0, 0, 0, 0, 0, 0, 0, 0, 0, 0, 0, 0, 0, 0, 0, 0, 0, 0, 0, 0, 0, 0, 0, 0, 0, 0, 0, 0, 0, 0, 0, 0, 0, 0, 0, 0, 0, 0, 0, 0, 0, 0, 0, 0, 0, 0] [1, 0, 2, 3, 4, 5, 6, 7, 8, 9, 10, 11, 12, 13, 14, 15, 16, 17, 18, 19, 20, 21, 22, 23, 24, 25, 26, 27, 28, 29, 30, 31, 32, 33, 34, 35, 36, 37, 38, 39, 40, 41, 42, 43, 44, 45, 46, 47, 48, 49, 50, 51, 52, 53, 54, 55, 56, 57, 58, 59, 60, 61, 62, 63, 64, 65, 66, 67] (by decide +kernel) (by decide +kernel)
set_option maxRecDepth 20000 in
theorem gX12_metre_X12_metres : GoodIn wsX12_metre (wsV RX12 350 RX12 yX12_metres wsX12_metres) := goodIn_app (goodIn_of _ (by decide +kernel)) ggX12_metre_X12_metres
set_option maxRecDepth 20000 in
theorem ggX12_metre_X12_within : GoodIn wsX12_metre wsX12_within := goodIn_h _ [12] [0] (by decide +kernel) (by decide +kernel)
set_option maxRecDepth 20000 in
theorem gX12_metre_X12_within : GoodIn wsX12_metre (va_wsS RX12 168 yX12_within wsX12_within) := goodIn_app (goodIn_of _ (by decide +kernel)) ggX12_metre_X12_within
set_option maxRecDepth 20000 in
theorem ggX12_metre_X12_fineAt : GoodIn wsX12_metre wsX12_fineAt := goodIn_h _ [3, 3, 12, 0, 0, 0, 0, 0, 0, 0, 0, 0, 0, 0, 0, 0, 0, 0, 0, 0, 0, 0, 0, 0, 0, 0, 0, 0, 0, 0, 0, 0, 0, 0, 0, 0, 0, 0, 0, 0, 0, 0, 0, 0, 0, 0, 0, 0, 0, 0, 0, 0, 0, 0, 0, 0, 0, 0, 0, 0, 0, 0, 0, 0, 0, 0, 0, 0, 0, 0, 0, 0, 0, 0, 0, 0, 0, 0, 0, 0, 0, 0, 0, 0, 0, 0, 0, 0, 0] [2, 0, 3, 4, 5, 6, 1, 7, 8, 9, 10, 11, 12, 13, 14, 15, 16, 17, 18, 19, 20, 21, 22, 23, 24, 25, 26, 27, 28, 29, 30, 31, 32, 33, 34, 35, 36, 37, 38, 39, 40, 41, 42, 43, 44, 45, 46, 47, 48, 49, 50, 51, 52, 53, 54, 55, 56, 57, 58, 59, 60, 61, 62, 63, 64, 65, 66, 67, 68, 69, 70, 71, 72, 73, 74, 75, 76, 77, 78, 79, 80, 81, 82, 83, 84, 85, 86, 87, 88] (by decide +kernel) (by decide +kernel)
set_option maxRecDepth 20000 in
theorem gX12_metre_X12_fineAt : GoodIn wsX12_metre (wsV RX12 287 RX12 yX12_fineAt wsX12_fineAt) := goodIn_app (goodIn_of _ (by decide +kernel)) ggX12_metre_X12_fineAt
theorem dX12_metre_0 : decode cX12_metre 0 = .ok (.aload_n 0, 1) := by decide +kernel
theorem dX12_metre_1 : decode cX12_metre 1 = .ok (.iconst 0, 1) := by decide +kernel
theorem dX12_metre_2 : decode cX12_metre 2 = .ok (.putfield 161, 3) := by decide +kernel
theorem dX12_metre_5 : decode cX12_metre 5 = .ok (.aload_n 0, 1) := by decide +kernel
theorem dX12_metre_6 : decode cX12_metre 6 = .ok (.iload_n 1, 1) := by decide +kernel
theorem dX12_metre_7 : decode cX12_metre 7 = .ok (.invokevirtual 362, 3) := by decide +kernel
theorem dX12_metre_10 : decode cX12_metre 10 = .ok (.ifCond .eq 18, 3) := by decide +kernel
theorem dX12_metre_13 : decode cX12_metre 13 = .ok (.iload_n 2, 1) := by decide +kernel
theorem dX12_metre_14 : decode cX12_metre 14 = .ok (.iconst 0, 1) := by decide +kernel
theorem dX12_metre_15 : decode cX12_metre 15 = .ok (.aload_n 0, 1) := by decide +kernel
theorem dX12_metre_16 : decode cX12_metre 16 = .ok (.iload_n 1, 1) := by decide +kernel
theorem dX12_metre_17 : decode cX12_metre 17 = .ok (.invokevirtual 350, 3) := by decide +kernel
theorem dX12_metre_20 : decode cX12_metre 20 = .ok (.iconst 1, 1) := by decide +kernel
theorem dX12_metre_21 : decode cX12_metre 21 = .ok (.isub, 1) := by decide +kernel
theorem dX12_metre_22 : decode cX12_metre 22 = .ok (.invokestatic 168, 3) := by decide +kernel
theorem dX12_metre_25 : decode cX12_metre 25 = .ok (.ifCond .ne 5, 3) := by decide +kernel
theorem dX12_metre_28 : decode cX12_metre 28 = .ok (.iconst (-1), 1) := by decide +kernel
theorem dX12_metre_29 : decode cX12_metre 29 = .ok (.ireturn, 1) := by decide +kernel
theorem dX12_metre_30 : decode cX12_metre 30 = .ok (.iload_n 3, 1) := by decide +kernel
theorem dX12_metre_31 : decode cX12_metre 31 = .ok (.ifCond .ne 18, 3) := by decide +kernel
theorem dX12_metre_34 : decode cX12_metre 34 = .ok (.aload_n 0, 1) := by decide +kernel
theorem dX12_metre_35 : decode cX12_metre 35 = .ok (.aload_n 0, 1) := by decide +kernel
theorem dX12_metre_36 : decode cX12_metre 36 = .ok (.getfield 100, 3) := by decide +kernel
theorem dX12_metre_39 : decode cX12_metre 39 = .ok (.iload_n 1, 1) := by decide +kernel
theorem dX12_metre_40 : decode cX12_metre 40 = .ok (.iaload, 1) := by decide +kernel
theorem dX12_metre_41 : decode cX12_metre 41 = .ok (.iload_n 2, 1) := by decide +kernel
theorem dX12_metre_42 : decode cX12_metre 42 = .ok (.iadd, 1) := by decide +kernel
theorem dX12_metre_43 : decode cX12_metre 43 = .ok (.invokevirtual 287, 3) := by decide +kernel
theorem dX12_metre_46 : decode cX12_metre 46 = .ok (.goto 25, 3) := by decide +kernel
theorem dX12_metre_49 : decode cX12_metre 49 = .ok (.iload_n 3, 1) := by decide +kernel
theorem dX12_metre_50 : decode cX12_metre 50 = .ok (.iconst 1, 1) := by decide +kernel
theorem dX12_metre_51 : decode cX12_metre 51 = .ok (.if_icmp .ne 19, 3) := by decide +kernel
theorem dX12_metre_54 : decode cX12_metre 54 = .ok (.aload_n 0, 1) := by decide +kernel
theorem dX12_metre_55 : decode cX12_metre 55 = .ok (.getfield 90, 3) := by decide +kernel
theorem dX12_metre_58 : decode cX12_metre 58 = .ok (.aload_n 0, 1) := by decide +kernel
theorem dX12_metre_59 : decode cX12_metre 59 = .ok (.getfield 100, 3) := by decide +kernel
theorem dX12_metre_62 : decode cX12_metre 62 = .ok (.iload_n 1, 1) := by decide +kernel
theorem dX12_metre_63 : decode cX12_metre 63 = .ok (.iaload, 1) := by decide +kernel
theorem dX12_metre_64 : decode cX12_metre 64 = .ok (.iload_n 2, 1) := by decide +kernel
theorem dX12_metre_65 : decode cX12_metre 65 = .ok (.iadd, 1) := by decide +kernel
theorem dX12_metre_66 : decode cX12_metre 66 = .ok (.iaload, 1) := by decide +kernel
theorem dX12_metre_67 : decode cX12_metre 67 = .ok (.goto 4, 3) := by decide +kernel
theorem dX12_metre_70 : decode cX12_metre 70 = .ok (.iconst (-1), 1) := by decide +kernel
theorem dX12_metre_71 : decode cX12_metre 71 = .ok (.ireturn, 1) := by decide +kernel
set_option maxRecDepth 20000 in
theorem ggX12_pay_X12_isPot : GoodIn wsX12_pay wsX12_isPot := goodIn_h _ [13, 0, 0, 0, 0, 0, 48, 0, 0, 0, 0, 0, 0, 0, 0, 0, 0, 0, 0, 0, 0, 0, 0, 0, 0, 0, 0, 0, 0, 0, 0, 0, 0, 0, 0, 0, 0, 0, 0, 0, 0, 0, 0, 0, 0, 0, 0, 0, 0, 0, 0, 0, 0, 0, 0, 0, 0, 0, 0, 0, 0, 0, 0, 0, 0, 0, 0, 0, 0, 0, 0, 0] [1, 2, 3, 4, 0, 5, 6, 7, 8, 9, 10, 11, 12, 13, 14, 15, 16, 17, 18, 19, 20, 21, 22, 23, 24, 25, 26, 27, 28, 29, 30, 31, 32, 33, 34, 35, 36, 37, 38, 39, 40, 41, 42, 43, 44, 45, 46, 47, 48, 49, 50, 51, 52, 53, 54, 55, 56, 57, 58, 59, 60, 61, 62, 63, 64, 65, 66, 67, 68, 69, 70, 71] (by decide +kernel) (by decide +kernel)
set_option maxRecDepth 20000 in
theorem gX12_pay_X12_isPot : GoodIn wsX12_pay (wsV RX12 200 RX12 yX12_isPot wsX12_isPot) := goodIn_app (goodIn_of _ (by decide +kernel)) ggX12_pay_X12_isPot
set_option maxRecDepth 20000 in
theorem ggX12_pay_X12_within : GoodIn wsX12_pay wsX12_within := goodIn_h _ [18] [0] (by decide +kernel) (by decide +kernel)
set_option maxRecDepth 20000 in
theorem gX12_pay_X12_within : GoodIn wsX12_pay (va_wsS RX12 168 yX12_within wsX12_within) := goodIn_app (goodIn_of _ (by decide +kernel)) ggX12_pay_X12_within
set_option maxRecDepth 20000 in
theorem ggX12_pay_X12_priceOf : GoodIn wsX12_pay wsX12_priceOf := goodIn_h _ [13, 8, 0, 0, 0, 0, 0, 0, 0, 0, 0, 0, 0, 0, 0, 0, 0, 0, 0, 0, 0, 0, 0, 0, 0, 0, 0, 0, 0, 0, 0, 0, 0, 0, 0, 0, 0, 0, 0, 0, 0, 0, 0, 0, 0, 0, 0, 0, 0, 0, 0, 0, 0, 0, 0, 0, 0, 0, 0, 0, 0, 0, 0, 0, 0, 0, 0, 0, 0, 0, 0, 0, 0, 0, 0, 0, 0, 0, 0, 0, 0, 0, 0, 0, 0, 0, 0, 0, 0, 0, 0, 0, 0, 0, 0, 0, 0, 0, 0, 0, 0, 0, 0, 0, 0, 0, 0, 0, 0, 0, 0, 0] [1, 2, 3, 4, 5, 0, 6, 7, 8, 9, 10, 11, 12, 13, 14, 15, 16, 17, 18, 19, 20, 21, 22, 23, 24, 25, 26, 27, 28, 29, 30, 31, 32, 33, 34, 35, 36, 37, 38, 39, 40, 41, 42, 43, 44, 45, 46, 47, 48, 49, 50, 51, 52, 53, 54, 55, 56, 57, 58, 59, 60, 61, 62, 63, 64, 65, 66, 67, 68, 69, 70, 71, 72, 73, 74, 75, 76, 77, 78, 79, 80, 81, 82, 83, 84, 85, 86, 87, 88, 89, 90, 91, 92, 93, 94, 95, 96, 97, 98, 99, 100, 101, 102, 103, 104, 105, 106, 107, 108, 109, 110, 111] (by decide +kernel) (by decide +kernel)
set_option maxRecDepth 20000 in
theorem gX12_pay_X12_priceOf : GoodIn wsX12_pay (wsV RX12 375 RX12 yX12_priceOf wsX12_priceOf) := goodIn_app (goodIn_of _ (by decide +kernel)) ggX12_pay_X12_priceOf
theorem dX12_pay_0 : decode cX12_pay 0 = .ok (.aload_n 0, 1) := by decide +kernel
theorem dX12_pay_1 : decode cX12_pay 1 = .ok (.iconst 0, 1) := by decide +kernel
theorem dX12_pay_2 : decode cX12_pay 2 = .ok (.putfield 161, 3) := by decide +kernel
theorem dX12_pay_5 : decode cX12_pay 5 = .ok (.aload_n 0, 1) := by decide +kernel
theorem dX12_pay_6 : decode cX12_pay 6 = .ok (.iload_n 1, 1) := by decide +kernel
theorem dX12_pay_7 : decode cX12_pay 7 = .ok (.invokevirtual 200, 3) := by decide +kernel
theorem dX12_pay_10 : decode cX12_pay 10 = .ok (.ifCond .eq 27, 3) := by decide +kernel
theorem dX12_pay_13 : decode cX12_pay 13 = .ok (.iload_n 2, 1) := by decide +kernel
theorem dX12_pay_14 : decode cX12_pay 14 = .ok (.iconst 0, 1) := by decide +kernel
theorem dX12_pay_15 : decode cX12_pay 15 = .ok (.aload_n 0, 1) := by decide +kernel
theorem dX12_pay_16 : decode cX12_pay 16 = .ok (.getfield 302, 3) := by decide +kernel
theorem dX12_pay_19 : decode cX12_pay 19 = .ok (.invokestatic 168, 3) := by decide +kernel
theorem dX12_pay_22 : decode cX12_pay 22 = .ok (.ifCond .eq 15, 3) := by decide +kernel
theorem dX12_pay_25 : decode cX12_pay 25 = .ok (.iload_n 3, 1) := by decide +kernel
theorem dX12_pay_26 : decode cX12_pay 26 = .ok (.iconst 0, 1) := by decide +kernel
theorem dX12_pay_27 : decode cX12_pay 27 = .ok (.aload_n 0, 1) := by decide +kernel
theorem dX12_pay_28 : decode cX12_pay 28 = .ok (.getfield 302, 3) := by decide +kernel
theorem dX12_pay_31 : decode cX12_pay 31 = .ok (.invokestatic 168, 3) := by decide +kernel
theorem dX12_pay_34 : decode cX12_pay 34 = .ok (.ifCond .ne 5, 3) := by decide +kernel
theorem dX12_pay_37 : decode cX12_pay 37 = .ok (.iconst 0, 1) := by decide +kernel
theorem dX12_pay_38 : decode cX12_pay 38 = .ok (.ireturn, 1) := by decide +kernel
theorem dX12_pay_39 : decode cX12_pay 39 = .ok (.iconst 0, 1) := by decide +kernel
theorem dX12_pay_40 : decode cX12_pay 40 = .ok (.istore 4, 2) := by decide +kernel
theorem dX12_pay_42 : decode cX12_pay 42 = .ok (.iconst 0, 1) := by decide +kernel
theorem dX12_pay_43 : decode cX12_pay 43 = .ok (.istore 5, 2) := by decide +kernel
theorem dX12_pay_45 : decode cX12_pay 45 = .ok (.iload 5, 2) := by decide +kernel
theorem dX12_pay_47 : decode cX12_pay 47 = .ok (.aload_n 0, 1) := by decide +kernel
theorem dX12_pay_48 : decode cX12_pay 48 = .ok (.getfield 290, 3) := by decide +kernel
theorem dX12_pay_51 : decode cX12_pay 51 = .ok (.if_icmp .ge 46, 3) := by decide +kernel
theorem dX12_pay_54 : decode cX12_pay 54 = .ok (.iload 4, 2) := by decide +kernel
theorem dX12_pay_56 : decode cX12_pay 56 = .ok (.aload_n 0, 1) := by decide +kernel
theorem dX12_pay_57 : decode cX12_pay 57 = .ok (.getfield 103, 3) := by decide +kernel
theorem dX12_pay_60 : decode cX12_pay 60 = .ok (.iload 5, 2) := by decide +kernel
theorem dX12_pay_62 : decode cX12_pay 62 = .ok (.iaload, 1) := by decide +kernel
theorem dX12_pay_63 : decode cX12_pay 63 = .ok (.iload_n 1, 1) := by decide +kernel
theorem dX12_pay_64 : decode cX12_pay 64 = .ok (.if_icmp .ne 23, 3) := by decide +kernel
theorem dX12_pay_67 : decode cX12_pay 67 = .ok (.aload_n 0, 1) := by decide +kernel
theorem dX12_pay_68 : decode cX12_pay 68 = .ok (.getfield 106, 3) := by decide +kernel
theorem dX12_pay_71 : decode cX12_pay 71 = .ok (.iload 5, 2) := by decide +kernel
theorem dX12_pay_73 : decode cX12_pay 73 = .ok (.iaload, 1) := by decide +kernel
theorem dX12_pay_74 : decode cX12_pay 74 = .ok (.iload_n 2, 1) := by decide +kernel
theorem dX12_pay_75 : decode cX12_pay 75 = .ok (.if_icmp .ne 12, 3) := by decide +kernel
theorem dX12_pay_78 : decode cX12_pay 78 = .ok (.aload_n 0, 1) := by decide +kernel
theorem dX12_pay_79 : decode cX12_pay 79 = .ok (.iload 5, 2) := by decide +kernel
theorem dX12_pay_81 : decode cX12_pay 81 = .ok (.invokevirtual 375, 3) := by decide +kernel
theorem dX12_pay_84 : decode cX12_pay 84 = .ok (.goto 4, 3) := by decide +kernel
theorem dX12_pay_87 : decode cX12_pay 87 = .ok (.iconst 0, 1) := by decide +kernel
theorem dX12_pay_88 : decode cX12_pay 88 = .ok (.iadd, 1) := by decide +kernel
theorem dX12_pay_89 : decode cX12_pay 89 = .ok (.istore 4, 2) := by decide +kernel
theorem dX12_pay_91 : decode cX12_pay 91 = .ok (.iinc 5 1, 3) := by decide +kernel
theorem dX12_pay_94 : decode cX12_pay 94 = .ok (.goto (-49), 3) := by decide +kernel
theorem dX12_pay_97 : decode cX12_pay 97 = .ok (.iconst 0, 1) := by decide +kernel
theorem dX12_pay_98 : decode cX12_pay 98 = .ok (.istore 5, 2) := by decide +kernel
theorem dX12_pay_100 : decode cX12_pay 100 = .ok (.iload 5, 2) := by decide +kernel
theorem dX12_pay_102 : decode cX12_pay 102 = .ok (.aload_n 0, 1) := by decide +kernel
theorem dX12_pay_103 : decode cX12_pay 103 = .ok (.getfield 403, 3) := by decide +kernel
theorem dX12_pay_106 : decode cX12_pay 106 = .ok (.if_icmp .ge 68, 3) := by decide +kernel
theorem dX12_pay_109 : decode cX12_pay 109 = .ok (.iload 4, 2) := by decide +kernel
theorem dX12_pay_111 : decode cX12_pay 111 = .ok (.aload_n 0, 1) := by decide +kernel
theorem dX12_pay_112 : decode cX12_pay 112 = .ok (.getfield 103, 3) := by decide +kernel
theorem dX12_pay_115 : decode cX12_pay 115 = .ok (.aload_n 0, 1) := by decide +kernel
theorem dX12_pay_116 : decode cX12_pay 116 = .ok (.getfield 152, 3) := by decide +kernel
theorem dX12_pay_119 : decode cX12_pay 119 = .ok (.iload 5, 2) := by decide +kernel
theorem dX12_pay_121 : decode cX12_pay 121 = .ok (.iaload, 1) := by decide +kernel
theorem dX12_pay_122 : decode cX12_pay 122 = .ok (.iaload, 1) := by decide +kernel
theorem dX12_pay_123 : decode cX12_pay 123 = .ok (.iload_n 1, 1) := by decide +kernel
theorem dX12_pay_124 : decode cX12_pay 124 = .ok (.if_icmp .ne 40, 3) := by decide +kernel
theorem dX12_pay_127 : decode cX12_pay 127 = .ok (.aload_n 0, 1) := by decide +kernel
theorem dX12_pay_128 : decode cX12_pay 128 = .ok (.getfield 106, 3) := by decide +kernel
theorem dX12_pay_131 : decode cX12_pay 131 = .ok (.aload_n 0, 1) := by decide +kernel
theorem dX12_pay_132 : decode cX12_pay 132 = .ok (.getfield 152, 3) := by decide +kernel
theorem dX12_pay_135 : decode cX12_pay 135 = .ok (.iload 5, 2) := by decide +kernel
theorem dX12_pay_137 : decode cX12_pay 137 = .ok (.iaload, 1) := by decide +kernel
theorem dX12_pay_138 : decode cX12_pay 138 = .ok (.iaload, 1) := by decide +kernel
theorem dX12_pay_139 : decode cX12_pay 139 = .ok (.iload_n 2, 1) := by decide +kernel
theorem dX12_pay_140 : decode cX12_pay 140 = .ok (.if_icmp .ne 24, 3) := by decide +kernel
theorem dX12_pay_143 : decode cX12_pay 143 = .ok (.aload_n 0, 1) := by decide +kernel
theorem dX12_pay_144 : decode cX12_pay 144 = .ok (.getfield 158, 3) := by decide +kernel
theorem dX12_pay_147 : decode cX12_pay 147 = .ok (.iload 5, 2) := by decide +kernel
theorem dX12_pay_149 : decode cX12_pay 149 = .ok (.iaload, 1) := by decide +kernel
theorem dX12_pay_150 : decode cX12_pay 150 = .ok (.iload_n 3, 1) := by decide +kernel
theorem dX12_pay_151 : decode cX12_pay 151 = .ok (.if_icmp .gt 13, 3) := by decide +kernel
theorem dX12_pay_154 : decode cX12_pay 154 = .ok (.aload_n 0, 1) := by decide +kernel
theorem dX12_pay_155 : decode cX12_pay 155 = .ok (.getfield 155, 3) := by decide +kernel
theorem dX12_pay_158 : decode cX12_pay 158 = .ok (.iload 5, 2) := by decide +kernel
theorem dX12_pay_160 : decode cX12_pay 160 = .ok (.iaload, 1) := by decide +kernel
theorem dX12_pay_161 : decode cX12_pay 161 = .ok (.goto 4, 3) := by decide +kernel
theorem dX12_pay_164 : decode cX12_pay 164 = .ok (.iconst 0, 1) := by decide +kernel
theorem dX12_pay_165 : decode cX12_pay 165 = .ok (.isub, 1) := by decide +kernel
theorem dX12_pay_166 : decode cX12_pay 166 = .ok (.istore 4, 2) := by decide +kernel
theorem dX12_pay_168 : decode cX12_pay 168 = .ok (.iinc 5 1, 3) := by decide +kernel
theorem dX12_pay_171 : decode cX12_pay 171 = .ok (.goto (-71), 3) := by decide +kernel
theorem dX12_pay_174 : decode cX12_pay 174 = .ok (.iload 4, 2) := by decide +kernel
theorem dX12_pay_176 : decode cX12_pay 176 = .ok (.ireturn, 1) := by decide +kernel
theorem inn_X12_least_12 : ∀ w ∈ u_ws RX12 TX12 66, w ∈ wsX12_least := fun w h => List.mem_cons_of_mem _ (List.mem_append_right _ h)
theorem inn_X12_metre_12 : ∀ w ∈ u_ws RX12 TX12 66, w ∈ wsX12_metre := fun w h => List.mem_cons_of_mem _ (List.mem_append_right _ h)
theorem inn_X12_pay_12 : ∀ w ∈ u_ws RX12 TX12 66, w ∈ wsX12_pay := fun w h => List.mem_cons_of_mem _ (List.mem_append_right _ h)
theorem inn_X12_slips_12 : ∀ w ∈ u_ws RX12 TX12 66, w ∈ wsX12_slips := fun w h => List.mem_cons_of_mem _ (List.mem_append_right _ h)
set_option maxHeartbeats 4000000 in
set_option maxRecDepth 100000 in
theorem k_X12_least (l : Launch) (G : va_G) (cy : Nat → ClassId) (κ : Nat → Nat) (S : PS) (sz : Nat) (x : Nat) (a1 : Int32) (a1_z : Int) (a2 : Int32) (a2_z : Int) (hG : GX S) (ha_x : At S x 12) (hz_a1 : a1.toInt = a1_z) (hz_a2 : a2.toInt = a2_z) (hp_0 : 0 ≤ a1_z) (hp_1 : a1_z ≤ 39) (hp_2 : a1_z < (pI S 1238 x).toInt) (hp_3 : MI S x) : Ci l yX12_least wsX12_least ({ frames := 5, cells := 0, slots := 0, locals := 240 }) G cy κ S sz [.ref x, .int (a1), .int (a2)] (fun (r : Int32) (S9 : PS) => S = S9 ∧ (True)) := by
  refine ent_m (cc := cX12_least) (maxL := 5) (ret := (some .int)) (by decide) rfl (Nat.le_of_ble_eq_true rfl) ?_
  intro p e s m below meth c ls X hr hlocks hin hw hl hsz
  subst hsz
  have X : Cx p c cX12_least 5 s [.ref x, .int (a1), .int (a2)].toArray wsX12_least RX12 m G cy κ (AS S s.heap.size) := X
  have hl : lv_has ls 5 [(0, .ref x), (1, .int (a1)), (2, .int (a2))] := hl
  have rg_a1 : (-2147483648) ≤ a1_z ∧ a1_z ≤ 2147483647 := by rw [← hz_a1]; exact ⟨z_lo _, z_hi _⟩
  have rg_a2 : (-2147483648) ≤ a2_z ∧ a2_z ≤ 2147483647 := by rw [← hz_a2]; exact ⟨z_lo _, z_hi _⟩
  generalize hQQ : MQ below _ _ _ _ _ _ = QQ
  replace hQQ := hQQ.symm
  refine lv_aload_n X.1 X.2.1 dX12_least_0 rfl (lv_at hl 0 rfl) ?_
  refine lv_aload_n X.1 X.2.1 dX12_least_1 rfl (lv_at hl 0 rfl) ?_
  obtain ⟨q_1, h_2, h_3, h_4⟩ := gQ_12_1239 hG ha_x
  refine r_getR (g := 1239) X hw ha_x rfl 39 h_2 (by decide) rfl inn_X12_least_12 (by decide) (X.2.2.2.1 (.fieldLink RX12 100 "SilkMillModel" "firstMetre" "[I") (by decide +kernel)) rfl (gv_1239 _ _) dX12_least_2 ?_
  refine lv_iload_n X.1 X.2.1 dX12_least_5 rfl (lv_at hl 1 rfl) ?_
  refine r_iald X hw h_3 rfl (by rw [h_4]; exact z_ix hz_a1 (by omega) (by omega)) dX12_least_6 ?_
  refine lv_topi (fun v_5 ev_5 => ?_)
  have z_6 := gE_994 hG h_3 (Int32.toNatClampNeg (a1)); rw [← ev_5] at z_6
  have ev_5 := ev_5.symm
  refine k_i (rm := { frames := 4, cells := 0, slots := 0, locals := 192 }) (av := [.ref x, .int (v_5)]) X hw (va_runV (As := [.int (v_5)]) (rest := []) (cfix X) (k_X12_fineAt l G cy κ S _ x (v_5) (v_5.toInt) hG ha_x rfl (by omega) (by omega) hp_3) (cwV 1 X.2.2.2.1 gX12_least_X12_fineAt rfl rfl rfl (by decide +kernel) ⟨Nat.le_of_ble_eq_true rfl, Nat.le_of_ble_eq_true rfl⟩) (pre_V X hw _ ha_x rfl (by decide) rfl) rfl rfl hl.1 rfl (lv_room (Nat.le_of_ble_eq_true rfl)) dX12_least_7 ⟨Nat.le_of_ble_eq_true rfl, Nat.le_of_ble_eq_true rfl⟩) 0 0 (Nat.le_of_ble_eq_true rfl) (Nat.le_of_ble_eq_true rfl) (fun rr_7 S_8 H locs hp hw hfr hnw => ?_)
  obtain ⟨e2, hp⟩ := hp
  subst e2
  have rg_9 := And.intro (z_lo rr_7) (z_hi rr_7)
  refine lv_istore_n (lv' := [(3, .int (rr_7)), (0, .ref x), (1, .int (a1)), (2, .int (a2))]) X.1 X.2.1 dX12_least_10 rfl hl (by decide) rfl (fun ls hl => ?_)
  refine lv_aload_n X.1 X.2.1 dX12_least_11 rfl (lv_at hl 1 rfl) ?_
  refine r_getR (g := 1239) X hw ha_x rfl 39 h_2 (by decide) rfl inn_X12_least_12 (by decide) (X.2.2.2.1 (.fieldLink RX12 100 "SilkMillModel" "firstMetre" "[I") (by decide +kernel)) rfl (gv_1239 _ _) dX12_least_12 ?_
  refine lv_iload_n X.1 X.2.1 dX12_least_15 rfl (lv_at hl 2 rfl) ?_
  refine r_iald X hw h_3 rfl (by rw [h_4]; exact z_ix hz_a1 (by omega) (by omega)) dX12_least_16 ?_
  rw [ev_5]
  refine lv_istore (lv' := [(4, .int (v_5)), (3, .int (rr_7)), (0, .ref x), (1, .int (a1)), (2, .int (a2))]) X.1 X.2.1 dX12_least_17 hl (by decide) rfl (fun ls hl => ?_)
  have L_10 : ∀ (n : Nat) (H : Heap) (locs : List Loc) (ls : Array Slot) (i3_11 : Int32) (i3_11_z : Int) (i4_12 : Int32) (i4_12_z : Int), ((12000 - i4_12_z).toNat = n) → (Wd G cy (AS S s.heap.size) s.heap S H locs) → (i3_11.toInt = i3_11_z) → (i4_12.toInt = i4_12_z) → (0 ≤ i4_12_z ∧ i4_12_z ≤ 12000) → (lv_has ls 5 [(3, .int (i3_11)), (4, .int (i4_12)), (0, .ref x), (1, .int (a1)), (2, .int (a2))]) → W p l e ({ frames := 5, cells := 0, slots := 0, locals := 240 }) s m [.ref x, .int (a1), .int (a2)].toArray below meth c H locs 0 0 QQ (F0 m 19 ls []) := by
    intro n
    induction n using Nat.strongRecOn with
    | ind n ih_L_10 =>
    intro H locs ls i3_11 i3_11_z i4_12 i4_12_z hn hw hz_i3_11 hz_i4_12 hr_i4_12 hl
    have rg_13 : (-2147483648) ≤ i3_11_z ∧ i3_11_z ≤ 2147483647 := by rw [← hz_i3_11]; exact ⟨z_lo _, z_hi _⟩
    have rg_14 : (-2147483648) ≤ i4_12_z ∧ i4_12_z ≤ 2147483647 := by rw [← hz_i4_12]; exact ⟨z_lo _, z_hi _⟩
    refine lv_iload X.1 X.2.1 dX12_least_19 (lv_at hl 1 rfl) ?_
    refine lv_aload_n X.1 X.2.1 dX12_least_21 rfl (lv_at hl 2 rfl) ?_
    refine r_getR (g := 1239) X hw ha_x rfl 39 h_2 (by decide) rfl inn_X12_least_12 (by decide) (X.2.2.2.1 (.fieldLink RX12 100 "SilkMillModel" "firstMetre" "[I") (by decide +kernel)) rfl (gv_1239 _ _) dX12_least_22 ?_
    refine lv_iload_n X.1 X.2.1 dX12_least_25 rfl (lv_at hl 3 rfl) ?_
    refine lv_iconst (v := 1) X.1 X.2.1 dX12_least_26 (by decide) ?_
    refine lv_iadd X.1 X.2.1 dX12_least_27 ?_
    refine lv_topi (fun v_15 ev_15 => ?_)
    have z_16 : v_15.toInt = a1_z + 1 := z_add ev_15 hz_a1 ti_1 (by omega) (by omega)
    refine r_iald X hw h_3 rfl (by rw [h_4]; exact z_ix z_16 (by omega) (by omega)) dX12_least_28 ?_
    refine lv_topi (fun v_17 ev_17 => ?_)
    have z_18 := gE_994 hG h_3 (Int32.toNatClampNeg (v_15)); rw [← ev_17] at z_18
    have ev_17 := ev_17.symm
    refine lv_icmp_ge (tgt := 66) X.1 X.2.1 dX12_least_29 (by decide) (fun c_19 => ?_) (fun c_19 => ?_)
    · have z_b_20 := trivial
      have k_21 : i4_12_z ≥ v_17.toInt := z_le rfl hz_i4_12 c_19
      refine lv_iload_n X.1 X.2.1 dX12_least_66 rfl (lv_at hl 0 rfl) ?_
      rw [hQQ]
      exact ret_i X hw hr hlocks (Nat.le_of_ble_eq_true rfl) (Nat.le_of_ble_eq_true rfl) ⟨rfl, trivial⟩ dX12_least_67
    · have z_b_22 := trivial
      have k_23 : i4_12_z < v_17.toInt := z_nle rfl hz_i4_12 c_19
      refine lv_iload_n X.1 X.2.1 dX12_least_32 rfl (lv_at hl 4 rfl) ?_
      refine lv_if_eq (tgt := 49) X.1 X.2.1 dX12_least_33 (by decide) (fun c_24 => ?_) (fun c_24 => ?_)
      · have z_b_25 := trivial
        have k_26 : a2_z = 0 := z_eq hz_a2 ti_0 c_24
        refine lv_iload_n X.1 X.2.1 dX12_least_49 rfl (lv_at hl 0 rfl) ?_
        refine lv_aload_n X.1 X.2.1 dX12_least_50 rfl (lv_at hl 2 rfl) ?_
        refine lv_iload X.1 X.2.1 dX12_least_51 (lv_at hl 1 rfl) ?_
        refine k_i (rm := { frames := 4, cells := 0, slots := 0, locals := 192 }) (av := [.ref x, .int (i4_12)]) X hw (va_runV (As := [.int (i4_12)]) (rest := [.int (i3_11)]) (cfix X) (k_X12_fineAt l G cy κ S _ x (i4_12) (i4_12_z) hG ha_x hz_i4_12 (by omega) (by omega) hp_3) (cwV 1 X.2.2.2.1 gX12_least_X12_fineAt rfl rfl rfl (by decide +kernel) ⟨Nat.le_of_ble_eq_true rfl, Nat.le_of_ble_eq_true rfl⟩) (pre_V X hw _ ha_x rfl (by decide) rfl) rfl rfl hl.1 rfl (lv_room (Nat.le_of_ble_eq_true rfl)) dX12_least_53 ⟨Nat.le_of_ble_eq_true rfl, Nat.le_of_ble_eq_true rfl⟩) 0 0 (Nat.le_of_ble_eq_true rfl) (Nat.le_of_ble_eq_true rfl) (fun rr_27 S_28 H locs hp hw hfr hnw => ?_)
        obtain ⟨e2, hp⟩ := hp
        subst e2
        have rg_29 := And.intro (z_lo rr_27) (z_hi rr_27)
        refine va_mmin X.1 X.2.1 (X.2.2.1.trans hl.1.symm) X.2.2.2.2.1 (X.2.2.2.1 (.methodLink RX12 344 Lib.Math.min.name) (by decide +kernel)) (X.2.2.2.1 (.static Lib.Math.min.name) (by decide +kernel)) (X.2.2.2.1 (.initialized "java/lang/Math") (by decide +kernel)) (X.2.2.2.1 (.code Lib.Math.min.name Lib.Math.min.code 2 (some .int)) (by decide +kernel)) (Nat.le_of_ble_eq_true rfl) (Nat.le_of_ble_eq_true rfl) (Nat.le_of_ble_eq_true rfl) (Nat.le_of_ble_eq_true rfl) dX12_least_56 ?_
        refine lv_topi (fun v_30 ev_30 => ?_)
        have z_31 := z_min ev_30 hz_i3_11 rfl
        refine lv_istore_n (lv' := [(3, .int (v_30)), (4, .int (i4_12)), (0, .ref x), (1, .int (a1)), (2, .int (a2))]) X.1 X.2.1 dX12_least_59 rfl hl (by decide) rfl (fun ls hl => ?_)
        obtain ⟨x_32, ex_32⟩ : ∃ y : Int32, y = i4_12 + 1 := ⟨_, rfl⟩
        have z_33 : x_32.toInt = i4_12_z + 1 := z_add ex_32 hz_i4_12 ti_1 (by omega) (by omega)
        refine lv_iinc (v := x_32) (lv' := [(4, .int (x_32)), (3, .int (v_30)), (0, .ref x), (1, .int (a1)), (2, .int (a2))]) X.1 X.2.1 dX12_least_60 hl (k := 1) rfl (by rw [ex_32]; rfl) (by decide) rfl (fun ls hl => ?_)
        refine lv_goto (tgt := 19) X.1 X.2.1 dX12_least_63 (by decide) ?_
        exact ih_L_10 _ (by omega) _ _ _ (v_30) (v_30.toInt) (x_32) (x_32.toInt) rfl hw rfl rfl (by omega) (lv_sub hl [1, 0, 2, 3, 4] rfl)
      · have z_b_34 := trivial
        have k_35 : a2_z ≠ 0 := z_ne hz_a2 ti_0 c_24
        refine lv_iload_n X.1 X.2.1 dX12_least_36 rfl (lv_at hl 0 rfl) ?_
        refine lv_aload_n X.1 X.2.1 dX12_least_37 rfl (lv_at hl 2 rfl) ?_
        refine lv_iload X.1 X.2.1 dX12_least_38 (lv_at hl 1 rfl) ?_
        refine k_i (rm := { frames := 4, cells := 0, slots := 0, locals := 192 }) (av := [.ref x, .int (i4_12)]) X hw (va_runV (As := [.int (i4_12)]) (rest := [.int (i3_11)]) (cfix X) (k_X12_fineAt l G cy κ S _ x (i4_12) (i4_12_z) hG ha_x hz_i4_12 (by omega) (by omega) hp_3) (cwV 1 X.2.2.2.1 gX12_least_X12_fineAt rfl rfl rfl (by decide +kernel) ⟨Nat.le_of_ble_eq_true rfl, Nat.le_of_ble_eq_true rfl⟩) (pre_V X hw _ ha_x rfl (by decide) rfl) rfl rfl hl.1 rfl (lv_room (Nat.le_of_ble_eq_true rfl)) dX12_least_40 ⟨Nat.le_of_ble_eq_true rfl, Nat.le_of_ble_eq_true rfl⟩) 0 0 (Nat.le_of_ble_eq_true rfl) (Nat.le_of_ble_eq_true rfl) (fun rr_36 S_37 H locs hp hw hfr hnw => ?_)
        obtain ⟨e2, hp⟩ := hp
        subst e2
        have rg_38 := And.intro (z_lo rr_36) (z_hi rr_36)
        refine va_mmax X.1 X.2.1 (X.2.2.1.trans hl.1.symm) X.2.2.2.2.1 (X.2.2.2.1 (.methodLink RX12 339 Lib.Math.max.name) (by decide +kernel)) (X.2.2.2.1 (.static Lib.Math.max.name) (by decide +kernel)) (X.2.2.2.1 (.initialized "java/lang/Math") (by decide +kernel)) (X.2.2.2.1 (.code Lib.Math.max.name Lib.Math.max.code 2 (some .int)) (by decide +kernel)) (Nat.le_of_ble_eq_true rfl) (Nat.le_of_ble_eq_true rfl) (Nat.le_of_ble_eq_true rfl) (Nat.le_of_ble_eq_true rfl) dX12_least_43 ?_
        refine lv_topi (fun v_39 ev_39 => ?_)
        have z_40 := z_max ev_39 hz_i3_11 rfl
        refine lv_goto (tgt := 59) X.1 X.2.1 dX12_least_46 (by decide) ?_
        refine lv_istore_n (lv' := [(3, .int (v_39)), (4, .int (i4_12)), (0, .ref x), (1, .int (a1)), (2, .int (a2))]) X.1 X.2.1 dX12_least_59 rfl hl (by decide) rfl (fun ls hl => ?_)
        obtain ⟨x_41, ex_41⟩ : ∃ y : Int32, y = i4_12 + 1 := ⟨_, rfl⟩
        have z_42 : x_41.toInt = i4_12_z + 1 := z_add ex_41 hz_i4_12 ti_1 (by omega) (by omega)
        refine lv_iinc (v := x_41) (lv' := [(4, .int (x_41)), (3, .int (v_39)), (0, .ref x), (1, .int (a1)), (2, .int (a2))]) X.1 X.2.1 dX12_least_60 hl (k := 1) rfl (by rw [ex_41]; rfl) (by decide) rfl (fun ls hl => ?_)
        refine lv_goto (tgt := 19) X.1 X.2.1 dX12_least_63 (by decide) ?_
        exact ih_L_10 _ (by omega) _ _ _ (v_39) (v_39.toInt) (x_41) (x_41.toInt) rfl hw rfl rfl (by omega) (lv_sub hl [1, 0, 2, 3, 4] rfl)
  exact L_10 _ _ _ _ (rr_7) (rr_7.toInt) (v_5) (v_5.toInt) rfl hw rfl rfl (by omega) (lv_sub hl [1, 0, 2, 3, 4] rfl)
set_option maxHeartbeats 4000000 in
set_option maxRecDepth 100000 in
theorem k_X12_slips (l : Launch) (G : va_G) (cy : Nat → ClassId) (κ : Nat → Nat) (S : PS) (sz : Nat) (x : Nat) (a1 : Int32) (a1_z : Int) (hG : GX S) (ha_x : At S x 12) (hz_a1 : a1.toInt = a1_z) (hp_0 : 0 ≤ a1_z) (hp_1 : a1_z ≤ 39) (hp_2 : a1_z < (pI S 1238 x).toInt) (hp_3 : MI S x) : Ci l yX12_slips wsX12_slips ({ frames := 5, cells := 0, slots := 0, locals := 240 }) G cy κ S sz [.ref x, .int (a1)] (fun (r : Int32) (S9 : PS) => S = S9 ∧ (True)) := by
  refine ent_m (cc := cX12_slips) (maxL := 4) (ret := (some .int)) (by decide) rfl (Nat.le_of_ble_eq_true rfl) ?_
  intro p e s m below meth c ls X hr hlocks hin hw hl hsz
  subst hsz
  have X : Cx p c cX12_slips 4 s [.ref x, .int (a1)].toArray wsX12_slips RX12 m G cy κ (AS S s.heap.size) := X
  have hl : lv_has ls 4 [(0, .ref x), (1, .int (a1))] := hl
  have rg_a1 : (-2147483648) ≤ a1_z ∧ a1_z ≤ 2147483647 := by rw [← hz_a1]; exact ⟨z_lo _, z_hi _⟩
  generalize hQQ : MQ below _ _ _ _ _ _ = QQ
  replace hQQ := hQQ.symm
  refine lv_iconst (v := 0) X.1 X.2.1 dX12_slips_0 (by decide) ?_
  refine lv_istore_n (lv' := [(2, .int 0), (0, .ref x), (1, .int (a1))]) X.1 X.2.1 dX12_slips_1 rfl hl (by decide) rfl (fun ls hl => ?_)
  refine lv_aload_n X.1 X.2.1 dX12_slips_2 rfl (lv_at hl 1 rfl) ?_
  obtain ⟨q_1, h_2, h_3, h_4⟩ := gQ_12_1239 hG ha_x
  refine r_getR (g := 1239) X hw ha_x rfl 39 h_2 (by decide) rfl inn_X12_slips_12 (by decide) (X.2.2.2.1 (.fieldLink RX12 100 "SilkMillModel" "firstMetre" "[I") (by decide +kernel)) rfl (gv_1239 _ _) dX12_slips_3 ?_
  refine lv_iload_n X.1 X.2.1 dX12_slips_6 rfl (lv_at hl 2 rfl) ?_
  refine r_iald X hw h_3 rfl (by rw [h_4]; exact z_ix hz_a1 (by omega) (by omega)) dX12_slips_7 ?_
  refine lv_topi (fun v_5 ev_5 => ?_)
  have z_6 := gE_994 hG h_3 (Int32.toNatClampNeg (a1)); rw [← ev_5] at z_6
  have ev_5 := ev_5.symm
  refine lv_iconst (v := 1) X.1 X.2.1 dX12_slips_8 (by decide) ?_
  refine lv_iadd X.1 X.2.1 dX12_slips_9 ?_
  refine lv_topi (fun v_7 ev_7 => ?_)
  have z_8 : v_7.toInt = v_5.toInt + 1 := z_add ev_7 rfl ti_1 (by omega) (by omega)
  refine lv_istore_n (lv' := [(3, .int (v_7)), (2, .int 0), (0, .ref x), (1, .int (a1))]) X.1 X.2.1 dX12_slips_10 rfl hl (by decide) rfl (fun ls hl => ?_)
  have L_9 : ∀ (n : Nat) (H : Heap) (locs : List Loc) (ls : Array Slot) (i2_10 : Int32) (i2_10_z : Int) (i3_11 : Int32) (i3_11_z : Int), ((12000 - i3_11_z).toNat = n) → (Wd G cy (AS S s.heap.size) s.heap S H locs) → (i2_10.toInt = i2_10_z) → (0 ≤ i2_10_z ∧ i2_10_z ≤ 12001) → (i3_11.toInt = i3_11_z) → (1 ≤ i3_11_z ∧ i3_11_z ≤ 12001) → (i2_10_z ≤ i3_11_z) → (lv_has ls 4 [(2, .int (i2_10)), (3, .int (i3_11)), (0, .ref x), (1, .int (a1))]) → W p l e ({ frames := 5, cells := 0, slots := 0, locals := 240 }) s m [.ref x, .int (a1)].toArray below meth c H locs 0 0 QQ (F0 m 11 ls []) := by
    intro n
    induction n using Nat.strongRecOn with
    | ind n ih_L_9 =>
    intro H locs ls i2_10 i2_10_z i3_11 i3_11_z hn hw hz_i2_10 hr_i2_10 hz_i3_11 hr_i3_11 iv_12 hl
    have rg_13 : (-2147483648) ≤ i2_10_z ∧ i2_10_z ≤ 2147483647 := by rw [← hz_i2_10]; exact ⟨z_lo _, z_hi _⟩
    have rg_14 : (-2147483648) ≤ i3_11_z ∧ i3_11_z ≤ 2147483647 := by rw [← hz_i3_11]; exact ⟨z_lo _, z_hi _⟩
    refine lv_iload_n X.1 X.2.1 dX12_slips_11 rfl (lv_at hl 1 rfl) ?_
    refine lv_aload_n X.1 X.2.1 dX12_slips_12 rfl (lv_at hl 2 rfl) ?_
    refine r_getR (g := 1239) X hw ha_x rfl 39 h_2 (by decide) rfl inn_X12_slips_12 (by decide) (X.2.2.2.1 (.fieldLink RX12 100 "SilkMillModel" "firstMetre" "[I") (by decide +kernel)) rfl (gv_1239 _ _) dX12_slips_13 ?_
    refine lv_iload_n X.1 X.2.1 dX12_slips_16 rfl (lv_at hl 3 rfl) ?_
    refine lv_iconst (v := 1) X.1 X.2.1 dX12_slips_17 (by decide) ?_
    refine lv_iadd X.1 X.2.1 dX12_slips_18 ?_
    refine lv_topi (fun v_15 ev_15 => ?_)
    have z_16 : v_15.toInt = a1_z + 1 := z_add ev_15 hz_a1 ti_1 (by omega) (by omega)
    refine r_iald X hw h_3 rfl (by rw [h_4]; exact z_ix z_16 (by omega) (by omega)) dX12_slips_19 ?_
    refine lv_topi (fun v_17 ev_17 => ?_)
    have z_18 := gE_994 hG h_3 (Int32.toNatClampNeg (v_15)); rw [← ev_17] at z_18
    have ev_17 := ev_17.symm
    refine lv_icmp_ge (tgt := 57) X.1 X.2.1 dX12_slips_20 (by decide) (fun c_19 => ?_) (fun c_19 => ?_)
    · have z_b_20 := trivial
      have k_21 : i3_11_z ≥ v_17.toInt := z_le rfl hz_i3_11 c_19
      refine lv_iload_n X.1 X.2.1 dX12_slips_57 rfl (lv_at hl 0 rfl) ?_
      rw [hQQ]
      exact ret_i X hw hr hlocks (Nat.le_of_ble_eq_true rfl) (Nat.le_of_ble_eq_true rfl) ⟨rfl, trivial⟩ dX12_slips_58
    · have z_b_22 := trivial
      have k_23 : i3_11_z < v_17.toInt := z_nle rfl hz_i3_11 c_19
      refine lv_iload_n X.1 X.2.1 dX12_slips_23 rfl (lv_at hl 0 rfl) ?_
      refine lv_aload_n X.1 X.2.1 dX12_slips_24 rfl (lv_at hl 2 rfl) ?_
      refine lv_iload_n X.1 X.2.1 dX12_slips_25 rfl (lv_at hl 1 rfl) ?_
      refine k_i (rm := { frames := 4, cells := 0, slots := 0, locals := 192 }) (av := [.ref x, .int (i3_11)]) X hw (va_runV (As := [.int (i3_11)]) (rest := [.int (i2_10)]) (cfix X) (k_X12_fineAt l G cy κ S _ x (i3_11) (i3_11_z) hG ha_x hz_i3_11 (by omega) (by omega) hp_3) (cwV 1 X.2.2.2.1 gX12_slips_X12_fineAt rfl rfl rfl (by decide +kernel) ⟨Nat.le_of_ble_eq_true rfl, Nat.le_of_ble_eq_true rfl⟩) (pre_V X hw _ ha_x rfl (by decide) rfl) rfl rfl hl.1 rfl (lv_room (Nat.le_of_ble_eq_true rfl)) dX12_slips_26 ⟨Nat.le_of_ble_eq_true rfl, Nat.le_of_ble_eq_true rfl⟩) 0 0 (Nat.le_of_ble_eq_true rfl) (Nat.le_of_ble_eq_true rfl) (fun rr_24 S_25 H locs hp hw hfr hnw => ?_)
      obtain ⟨e2, hp⟩ := hp
      subst e2
      have rg_26 := And.intro (z_lo rr_24) (z_hi rr_24)
      refine lv_aload_n X.1 X.2.1 dX12_slips_29 rfl (lv_at hl 2 rfl) ?_
      refine lv_iload_n X.1 X.2.1 dX12_slips_30 rfl (lv_at hl 1 rfl) ?_
      refine lv_iconst (v := 1) X.1 X.2.1 dX12_slips_31 (by decide) ?_
      refine lv_isub X.1 X.2.1 dX12_slips_32 ?_
      refine lv_topi (fun v_27 ev_27 => ?_)
      have z_28 : v_27.toInt = i3_11_z - 1 := z_sub ev_27 hz_i3_11 ti_1 (by omega) (by omega)
      refine k_i (rm := { frames := 4, cells := 0, slots := 0, locals := 192 }) (av := [.ref x, .int (v_27)]) X hw (va_runV (As := [.int (v_27)]) (rest := [.int (rr_24), .int (i2_10)]) (cfix X) (k_X12_fineAt l G cy κ S _ x (v_27) ((i3_11_z - 1)) hG ha_x z_28 (by omega) (by omega) hp_3) (cwV 1 X.2.2.2.1 gX12_slips_X12_fineAt rfl rfl rfl (by decide +kernel) ⟨Nat.le_of_ble_eq_true rfl, Nat.le_of_ble_eq_true rfl⟩) (pre_V X hw _ ha_x rfl (by decide) rfl) rfl rfl hl.1 rfl (lv_room (Nat.le_of_ble_eq_true rfl)) dX12_slips_33 ⟨Nat.le_of_ble_eq_true rfl, Nat.le_of_ble_eq_true rfl⟩) 0 0 (Nat.le_of_ble_eq_true rfl) (Nat.le_of_ble_eq_true rfl) (fun rr_29 S_30 H locs hp hw hfr hnw => ?_)
      obtain ⟨e2, hp⟩ := hp
      subst e2
      have rg_31 := And.intro (z_lo rr_29) (z_hi rr_29)
      refine lv_isub X.1 X.2.1 dX12_slips_36 ?_
      refine lv_topi (fun v_32 ev_32 => ?_)
      have rg_33 := And.intro (z_lo v_32) (z_hi v_32)
      refine va_mabs X.1 X.2.1 (X.2.2.1.trans hl.1.symm) X.2.2.2.2.1 (X.2.2.2.1 (.methodLink RX12 347 Lib.Math.abs.name) (by decide +kernel)) (X.2.2.2.1 (.static Lib.Math.abs.name) (by decide +kernel)) (X.2.2.2.1 (.initialized "java/lang/Math") (by decide +kernel)) (X.2.2.2.1 (.code Lib.Math.abs.name Lib.Math.abs.code 1 (some .int)) (by decide +kernel)) (Nat.le_of_ble_eq_true rfl) (Nat.le_of_ble_eq_true rfl) (Nat.le_of_ble_eq_true rfl) (Nat.le_of_ble_eq_true rfl) dX12_slips_37 ?_
      refine lv_topi (fun v_34 ev_34 => ?_)
      have rg_36 := And.intro (z_lo v_34) (z_hi v_34)
      refine lv_iconst (v := 4) X.1 X.2.1 dX12_slips_40 (by decide) ?_
      refine lv_icmp_le (tgt := 48) X.1 X.2.1 dX12_slips_41 (by decide) (fun c_37 => ?_) (fun c_37 => ?_)
      · have z_b_38 := trivial
        have k_39 : v_34.toInt ≤ 4 := z_le rfl ti_4 c_37
        refine lv_iconst (v := 0) X.1 X.2.1 dX12_slips_48 (by decide) ?_
        refine lv_iadd X.1 X.2.1 dX12_slips_49 ?_
        refine lv_topi (fun v_40 ev_40 => ?_)
        have z_41 : v_40.toInt = i2_10_z + 0 := z_add ev_40 hz_i2_10 ti_0 (by omega) (by omega)
        refine lv_istore_n (lv' := [(2, .int (v_40)), (3, .int (i3_11)), (0, .ref x), (1, .int (a1))]) X.1 X.2.1 dX12_slips_50 rfl hl (by decide) rfl (fun ls hl => ?_)
        obtain ⟨x_42, ex_42⟩ : ∃ y : Int32, y = i3_11 + 1 := ⟨_, rfl⟩
        have z_43 : x_42.toInt = i3_11_z + 1 := z_add ex_42 hz_i3_11 ti_1 (by omega) (by omega)
        refine lv_iinc (v := x_42) (lv' := [(3, .int (x_42)), (2, .int (v_40)), (0, .ref x), (1, .int (a1))]) X.1 X.2.1 dX12_slips_51 hl (k := 1) rfl (by rw [ex_42]; rfl) (by decide) rfl (fun ls hl => ?_)
        refine lv_goto (tgt := 11) X.1 X.2.1 dX12_slips_54 (by decide) ?_
        exact ih_L_9 _ (by omega) _ _ _ (v_40) ((i2_10_z + 0)) (x_42) (x_42.toInt) rfl hw z_41 (by omega) rfl (by omega) (by omega) (lv_sub hl [1, 0, 2, 3] rfl)
      · have z_b_44 := trivial
        have k_45 : v_34.toInt > 4 := z_nle rfl ti_4 c_37
        refine lv_iconst (v := 1) X.1 X.2.1 dX12_slips_44 (by decide) ?_
        refine lv_goto (tgt := 49) X.1 X.2.1 dX12_slips_45 (by decide) ?_
        refine lv_iadd X.1 X.2.1 dX12_slips_49 ?_
        refine lv_topi (fun v_46 ev_46 => ?_)
        have z_47 : v_46.toInt = i2_10_z + 1 := z_add ev_46 hz_i2_10 ti_1 (by omega) (by omega)
        refine lv_istore_n (lv' := [(2, .int (v_46)), (3, .int (i3_11)), (0, .ref x), (1, .int (a1))]) X.1 X.2.1 dX12_slips_50 rfl hl (by decide) rfl (fun ls hl => ?_)
        obtain ⟨x_48, ex_48⟩ : ∃ y : Int32, y = i3_11 + 1 := ⟨_, rfl⟩
        have z_49 : x_48.toInt = i3_11_z + 1 := z_add ex_48 hz_i3_11 ti_1 (by omega) (by omega)
        refine lv_iinc (v := x_48) (lv' := [(3, .int (x_48)), (2, .int (v_46)), (0, .ref x), (1, .int (a1))]) X.1 X.2.1 dX12_slips_51 hl (k := 1) rfl (by rw [ex_48]; rfl) (by decide) rfl (fun ls hl => ?_)
        refine lv_goto (tgt := 11) X.1 X.2.1 dX12_slips_54 (by decide) ?_
        exact ih_L_9 _ (by omega) _ _ _ (v_46) ((i2_10_z + 1)) (x_48) (x_48.toInt) rfl hw z_47 (by omega) rfl (by omega) (by omega) (lv_sub hl [1, 0, 2, 3] rfl)
  exact L_9 _ _ _ _ (0) (0) (v_7) ((v_5.toInt + 1)) rfl hw ti_0 (by omega) z_8 (by omega) (by omega) (lv_sub hl [1, 0, 2, 3] rfl)
set_option maxHeartbeats 4000000 in
set_option maxRecDepth 100000 in
theorem k_X12_pay (l : Launch) (G : va_G) (cy : Nat → ClassId) (κ : Nat → Nat) (S : PS) (sz : Nat) (x : Nat) (a1 : Int32) (a1_z : Int) (a2 : Int32) (a2_z : Int) (a3 : Int32) (a3_z : Int) (hG : GX S) (ha_x : At S x 12) (hz_a1 : a1.toInt = a1_z) (hz_a2 : a2.toInt = a2_z) (hz_a3 : a3.toInt = a3_z) (hp_0 : MI S x) : Ci l yX12_pay wsX12_pay ({ frames := 8, cells := 0, slots := 0, locals := 384 }) G cy κ S sz [.ref x, .int (a1), .int (a2), .int (a3)] (fun (r : Int32) (S9 : PS) => Ok MN S S9 ∧ (True)) := by
  refine ent_m (cc := cX12_pay) (maxL := 6) (ret := (some .int)) (by decide) rfl (Nat.le_of_ble_eq_true rfl) ?_
  intro p e s m below meth c ls X hr hlocks hin hw hl hsz
  subst hsz
  have X : Cx p c cX12_pay 6 s [.ref x, .int (a1), .int (a2), .int (a3)].toArray wsX12_pay RX12 m G cy κ (AS S s.heap.size) := X
  have hl : lv_has ls 6 [(0, .ref x), (1, .int (a1)), (2, .int (a2)), (3, .int (a3))] := hl
  have rg_a1 : (-2147483648) ≤ a1_z ∧ a1_z ≤ 2147483647 := by rw [← hz_a1]; exact ⟨z_lo _, z_hi _⟩
  have rg_a2 : (-2147483648) ≤ a2_z ∧ a2_z ≤ 2147483647 := by rw [← hz_a2]; exact ⟨z_lo _, z_hi _⟩
  have rg_a3 : (-2147483648) ≤ a3_z ∧ a3_z ≤ 2147483647 := by rw [← hz_a3]; exact ⟨z_lo _, z_hi _⟩
  have hO : Ok MN S S := Ok.rf hG
  generalize hQQ : MQ below _ _ _ _ _ _ = QQ
  replace hQQ := hQQ.symm
  refine lv_aload_n X.1 X.2.1 dX12_pay_0 rfl (lv_at hl 0 rfl) ?_
  refine lv_iconst (v := 0) X.1 X.2.1 dX12_pay_1 (by decide) ?_
  refine r_putI (v := 0) X hw ha_x rfl 0 1200 tyX12 (by decide) rfl inn_X12_pay_12 tyX12_ok nmX12 (by decide) (X.2.2.2.1 (.fieldLink RX12 161 "SilkMillModel" "thrown" "I") (by decide +kernel)) rfl (Or.inl rfl) rfl rfl (Nat.le_of_ble_eq_true rfl) (st_1200 _ _) dX12_pay_2 (fun H locs hw => ?_)
  obtain ⟨S_1, eS_1⟩ : ∃ T, T = sI S 1200 x (0) := ⟨_, rfl⟩
  rw [← eS_1] at hw
  have hO_2 : Ok MN S S_1 := hO.sI eS_1 (by decide +kernel) (uI_12_1200 hO.1 ha_x)
  have h_3 : pI S_1 1200 x = 0 := tI_sIs eS_1
  refine lv_aload_n X.1 X.2.1 dX12_pay_5 rfl (lv_at hl 0 rfl) ?_
  refine lv_iload_n X.1 X.2.1 dX12_pay_6 rfl (lv_at hl 1 rfl) ?_
  have t_4 : At S_1 x 12 := tAt_sI eS_1 ha_x
  refine k_i (rm := { frames := 2, cells := 0, slots := 0, locals := 96 }) (av := [.ref x, .int (a1)]) X hw (va_runV (As := [.int (a1)]) (rest := []) (cfix X) (k_X12_isPot l G cy κ S_1 _ x (a1) (a1_z) hO_2.1 t_4 hz_a1) (cwV 1 X.2.2.2.1 gX12_pay_X12_isPot rfl rfl rfl (by decide +kernel) ⟨Nat.le_of_ble_eq_true rfl, Nat.le_of_ble_eq_true rfl⟩) (pre_V X hw _ t_4 rfl (by decide) rfl) rfl rfl hl.1 rfl (lv_room (Nat.le_of_ble_eq_true rfl)) dX12_pay_7 ⟨Nat.le_of_ble_eq_true rfl, Nat.le_of_ble_eq_true rfl⟩) 0 0 (Nat.le_of_ble_eq_true rfl) (Nat.le_of_ble_eq_true rfl) (fun rr_5 S_6 H locs hp hw hfr hnw => ?_)
  obtain ⟨e2, hp⟩ := hp
  subst e2
  rcases hp with ⟨f_7, er_8⟩ | ⟨f_7, er_8⟩ <;> subst er_8
  · have z_b_9 := trivial
    refine lv_if_eq (tgt := 37) X.1 X.2.1 dX12_pay_10 (by decide) (fun c_10 => absurd c_10 (by decide)) (fun c_10 => ?_)
    refine lv_iload_n X.1 X.2.1 dX12_pay_13 rfl (lv_at hl 2 rfl) ?_
    refine lv_iconst (v := 0) X.1 X.2.1 dX12_pay_14 (by decide) ?_
    refine lv_aload_n X.1 X.2.1 dX12_pay_15 rfl (lv_at hl 0 rfl) ?_
    obtain ⟨v_11, ev_11⟩ : ∃ v, pI S_1 1245 x = v := ⟨_, rfl⟩
    have rg_13 := And.intro (z_lo v_11) (z_hi v_11)
    have pz_14 : (pI S_1 1245 x).toInt = v_11.toInt := by rw [ev_11]
    refine r_getI (g := 1245) (x := v_11) X hw t_4 rfl 45 ev_11 (by decide) rfl inn_X12_pay_12 (by decide) (X.2.2.2.1 (.fieldLink RX12 302 "SilkMillModel" "today" "I") (by decide +kernel)) rfl (gv_1245 _ _) dX12_pay_16 ?_
    refine k_i (rm := { frames := 1, cells := 0, slots := 0, locals := 48 }) (av := [.int (a2), .int 0, .int (v_11)]) X hw (va_runS (As := [.int (a2), .int 0, .int (v_11)]) (rest := []) (cfix X) (k_X12_within l G cy κ S_1 _ (a2) (a2_z) (0) (0) (v_11) (v_11.toInt) hO_2.1 hz_a2 ti_0 rfl) (cwS 3 X.2.2.2.1 gX12_pay_X12_within rfl rfl rfl (by decide +kernel) ⟨Nat.le_of_ble_eq_true rfl, Nat.le_of_ble_eq_true rfl⟩) (pre_S X hw _) rfl rfl hl.1 rfl (lv_room (Nat.le_of_ble_eq_true rfl)) dX12_pay_19 ⟨Nat.le_of_ble_eq_true rfl, Nat.le_of_ble_eq_true rfl⟩) 0 0 (Nat.le_of_ble_eq_true rfl) (Nat.le_of_ble_eq_true rfl) (fun rr_15 S_16 H locs hp hw hfr hnw => ?_)
    obtain ⟨e2, hp⟩ := hp
    subst e2
    rcases hp with ⟨f_17, er_18⟩ | ⟨f_17, er_18⟩ <;> subst er_18
    · have z_b_19 := trivial
      refine lv_if_eq (tgt := 37) X.1 X.2.1 dX12_pay_22 (by decide) (fun c_20 => absurd c_20 (by decide)) (fun c_20 => ?_)
      refine lv_iload_n X.1 X.2.1 dX12_pay_25 rfl (lv_at hl 3 rfl) ?_
      refine lv_iconst (v := 0) X.1 X.2.1 dX12_pay_26 (by decide) ?_
      refine lv_aload_n X.1 X.2.1 dX12_pay_27 rfl (lv_at hl 0 rfl) ?_
      refine r_getI (g := 1245) (x := v_11) X hw t_4 rfl 45 ev_11 (by decide) rfl inn_X12_pay_12 (by decide) (X.2.2.2.1 (.fieldLink RX12 302 "SilkMillModel" "today" "I") (by decide +kernel)) rfl (gv_1245 _ _) dX12_pay_28 ?_
      refine k_i (rm := { frames := 1, cells := 0, slots := 0, locals := 48 }) (av := [.int (a3), .int 0, .int (v_11)]) X hw (va_runS (As := [.int (a3), .int 0, .int (v_11)]) (rest := []) (cfix X) (k_X12_within l G cy κ S_1 _ (a3) (a3_z) (0) (0) (v_11) (v_11.toInt) hO_2.1 hz_a3 ti_0 rfl) (cwS 3 X.2.2.2.1 gX12_pay_X12_within rfl rfl rfl (by decide +kernel) ⟨Nat.le_of_ble_eq_true rfl, Nat.le_of_ble_eq_true rfl⟩) (pre_S X hw _) rfl rfl hl.1 rfl (lv_room (Nat.le_of_ble_eq_true rfl)) dX12_pay_31 ⟨Nat.le_of_ble_eq_true rfl, Nat.le_of_ble_eq_true rfl⟩) 0 0 (Nat.le_of_ble_eq_true rfl) (Nat.le_of_ble_eq_true rfl) (fun rr_21 S_22 H locs hp hw hfr hnw => ?_)
      obtain ⟨e2, hp⟩ := hp
      subst e2
      rcases hp with ⟨f_23, er_24⟩ | ⟨f_23, er_24⟩ <;> subst er_24
      · have z_b_25 := trivial
        refine lv_if_ne (tgt := 39) X.1 X.2.1 dX12_pay_34 (by decide) (fun c_26 => ?_) (fun c_26 => absurd c_26 (by decide))
        refine lv_iconst (v := 0) X.1 X.2.1 dX12_pay_39 (by decide) ?_
        refine lv_istore (lv' := [(4, .int 0), (0, .ref x), (1, .int (a1)), (2, .int (a2)), (3, .int (a3))]) X.1 X.2.1 dX12_pay_40 hl (by decide) rfl (fun ls hl => ?_)
        refine lv_iconst (v := 0) X.1 X.2.1 dX12_pay_42 (by decide) ?_
        refine lv_istore (lv' := [(5, .int 0), (4, .int 0), (0, .ref x), (1, .int (a1)), (2, .int (a2)), (3, .int (a3))]) X.1 X.2.1 dX12_pay_43 hl (by decide) rfl (fun ls hl => ?_)
        have L_27 : ∀ (n : Nat) (H : Heap) (locs : List Loc) (ls : Array Slot) (i4_28 : Int32) (i4_28_z : Int) (i5_29 : Int32) (i5_29_z : Int), ((40 - i5_29_z).toNat = n) → (Wd G cy (AS S s.heap.size) s.heap S_1 H locs) → (i4_28.toInt = i4_28_z) → (i5_29.toInt = i5_29_z) → (0 ≤ i5_29_z ∧ i5_29_z ≤ 40) → (lv_has ls 6 [(4, .int (i4_28)), (5, .int (i5_29)), (0, .ref x), (1, .int (a1)), (2, .int (a2)), (3, .int (a3))]) → W p l e ({ frames := 8, cells := 0, slots := 0, locals := 384 }) s m [.ref x, .int (a1), .int (a2), .int (a3)].toArray below meth c H locs 0 0 QQ (F0 m 45 ls []) := by
          intro n
          induction n using Nat.strongRecOn with
          | ind n ih_L_27 =>
          intro H locs ls i4_28 i4_28_z i5_29 i5_29_z hn hw hz_i4_28 hz_i5_29 hr_i5_29 hl
          have rg_30 : (-2147483648) ≤ i4_28_z ∧ i4_28_z ≤ 2147483647 := by rw [← hz_i4_28]; exact ⟨z_lo _, z_hi _⟩
          have rg_31 : (-2147483648) ≤ i5_29_z ∧ i5_29_z ≤ 2147483647 := by rw [← hz_i5_29]; exact ⟨z_lo _, z_hi _⟩
          refine lv_iload X.1 X.2.1 dX12_pay_45 (lv_at hl 1 rfl) ?_
          refine lv_aload_n X.1 X.2.1 dX12_pay_47 rfl (lv_at hl 2 rfl) ?_
          obtain ⟨v_32, ev_32⟩ : ∃ v, pI S_1 1238 x = v := ⟨_, rfl⟩
          have rg_33 := gI_12_1238 hO_2.1 t_4; rw [ev_32] at rg_33
          have pz_34 : (pI S_1 1238 x).toInt = v_32.toInt := by rw [ev_32]
          refine r_getI (g := 1238) (x := v_32) X hw t_4 rfl 38 ev_32 (by decide) rfl inn_X12_pay_12 (by decide) (X.2.2.2.1 (.fieldLink RX12 290 "SilkMillModel" "skeins" "I") (by decide +kernel)) rfl (gv_1238 _ _) dX12_pay_48 ?_
          refine lv_icmp_ge (tgt := 97) X.1 X.2.1 dX12_pay_51 (by decide) (fun c_35 => ?_) (fun c_35 => ?_)
          · have z_b_36 := trivial
            have k_37 : i5_29_z ≥ v_32.toInt := z_le rfl hz_i5_29 c_35
            refine lv_iconst (v := 0) X.1 X.2.1 dX12_pay_97 (by decide) ?_
            refine lv_istore (lv' := [(5, .int 0), (4, .int (i4_28)), (0, .ref x), (1, .int (a1)), (2, .int (a2)), (3, .int (a3))]) X.1 X.2.1 dX12_pay_98 hl (by decide) rfl (fun ls hl => ?_)
            have L_38 : ∀ (n : Nat) (H : Heap) (locs : List Loc) (ls : Array Slot) (i4_39 : Int32) (i4_39_z : Int) (i5_40 : Int32) (i5_40_z : Int), ((40 - i5_40_z).toNat = n) → (Wd G cy (AS S s.heap.size) s.heap S_1 H locs) → (i4_39.toInt = i4_39_z) → (i5_40.toInt = i5_40_z) → (0 ≤ i5_40_z ∧ i5_40_z ≤ 40) → (lv_has ls 6 [(4, .int (i4_39)), (5, .int (i5_40)), (0, .ref x), (1, .int (a1)), (2, .int (a2)), (3, .int (a3))]) → W p l e ({ frames := 8, cells := 0, slots := 0, locals := 384 }) s m [.ref x, .int (a1), .int (a2), .int (a3)].toArray below meth c H locs 0 0 QQ (F0 m 100 ls []) := by
              intro n
              induction n using Nat.strongRecOn with
              | ind n ih_L_38 =>
              intro H locs ls i4_39 i4_39_z i5_40 i5_40_z hn hw hz_i4_39 hz_i5_40 hr_i5_40 hl
              have rg_41 : (-2147483648) ≤ i4_39_z ∧ i4_39_z ≤ 2147483647 := by rw [← hz_i4_39]; exact ⟨z_lo _, z_hi _⟩
              have rg_42 : (-2147483648) ≤ i5_40_z ∧ i5_40_z ≤ 2147483647 := by rw [← hz_i5_40]; exact ⟨z_lo _, z_hi _⟩
              refine lv_iload X.1 X.2.1 dX12_pay_100 (lv_at hl 1 rfl) ?_
              refine lv_aload_n X.1 X.2.1 dX12_pay_102 rfl (lv_at hl 2 rfl) ?_
              obtain ⟨v_43, ev_43⟩ : ∃ v, pI S_1 1262 x = v := ⟨_, rfl⟩
              have rg_44 := gI_12_1262 hO_2.1 t_4; rw [ev_43] at rg_44
              have pz_45 : (pI S_1 1262 x).toInt = v_43.toInt := by rw [ev_43]
              refine r_getI (g := 1262) (x := v_43) X hw t_4 rfl 62 ev_43 (by decide) rfl inn_X12_pay_12 (by decide) (X.2.2.2.1 (.fieldLink RX12 403 "SilkMillModel" "faults" "I") (by decide +kernel)) rfl (gv_1262 _ _) dX12_pay_103 ?_
              refine lv_icmp_ge (tgt := 174) X.1 X.2.1 dX12_pay_106 (by decide) (fun c_46 => ?_) (fun c_46 => ?_)
              · have z_b_47 := trivial
                have k_48 : i5_40_z ≥ v_43.toInt := z_le rfl hz_i5_40 c_46
                refine lv_iload X.1 X.2.1 dX12_pay_174 (lv_at hl 0 rfl) ?_
                rw [hQQ]
                exact ret_i X hw hr hlocks (Nat.le_of_ble_eq_true rfl) (Nat.le_of_ble_eq_true rfl) ⟨hO_2, trivial⟩ dX12_pay_176
              · have z_b_49 := trivial
                have k_50 : i5_40_z < v_43.toInt := z_nle rfl hz_i5_40 c_46
                refine lv_iload X.1 X.2.1 dX12_pay_109 (lv_at hl 0 rfl) ?_
                refine lv_aload_n X.1 X.2.1 dX12_pay_111 rfl (lv_at hl 2 rfl) ?_
                obtain ⟨q_51, h_52, h_53, h_54⟩ := gQ_12_1240 hO_2.1 t_4
                refine r_getR (g := 1240) X hw t_4 rfl 40 h_52 (by decide) rfl inn_X12_pay_12 (by decide) (X.2.2.2.1 (.fieldLink RX12 103 "SilkMillModel" "skeinPot" "[I") (by decide +kernel)) rfl (gv_1240 _ _) dX12_pay_112 ?_
                refine lv_aload_n X.1 X.2.1 dX12_pay_115 rfl (lv_at hl 2 rfl) ?_
                obtain ⟨q_55, h_56, h_57, h_58⟩ := gQ_12_1263 hO_2.1 t_4
                refine r_getR (g := 1263) X hw t_4 rfl 63 h_56 (by decide) rfl inn_X12_pay_12 (by decide) (X.2.2.2.1 (.fieldLink RX12 152 "SilkMillModel" "faultOf" "[I") (by decide +kernel)) rfl (gv_1263 _ _) dX12_pay_116 ?_
                refine lv_iload X.1 X.2.1 dX12_pay_119 (lv_at hl 1 rfl) ?_
                refine r_iald X hw h_57 rfl (by rw [h_58]; exact z_ix hz_i5_40 (by omega) (by omega)) dX12_pay_121 ?_
                refine lv_topi (fun v_59 ev_59 => ?_)
                have z_60 := gE_1474 hO_2.1 h_57 (Int32.toNatClampNeg (i5_40)); rw [← ev_59] at z_60
                have ev_59 := ev_59.symm
                refine r_iald X hw h_53 rfl (by rw [h_54]; exact z_ix rfl (by omega) (by omega)) dX12_pay_122 ?_
                refine lv_topi (fun v_61 ev_61 => ?_)
                have rg_62 := And.intro (z_lo v_61) (z_hi v_61)
                have ev_61 := ev_61.symm
                refine lv_iload_n X.1 X.2.1 dX12_pay_123 rfl (lv_at hl 3 rfl) ?_
                refine lv_icmp_ne (tgt := 164) X.1 X.2.1 dX12_pay_124 (by decide) (fun c_63 => ?_) (fun c_63 => ?_)
                · have z_b_64 := trivial
                  have k_65 : v_61.toInt ≠ a1_z := z_ne rfl hz_a1 c_63
                  refine lv_iconst (v := 0) X.1 X.2.1 dX12_pay_164 (by decide) ?_
                  refine lv_isub X.1 X.2.1 dX12_pay_165 ?_
                  refine lv_topi (fun v_66 ev_66 => ?_)
                  have z_67 : v_66.toInt = i4_39_z - 0 := z_sub ev_66 hz_i4_39 ti_0 (by omega) (by omega)
                  refine lv_istore (lv' := [(4, .int (v_66)), (5, .int (i5_40)), (0, .ref x), (1, .int (a1)), (2, .int (a2)), (3, .int (a3))]) X.1 X.2.1 dX12_pay_166 hl (by decide) rfl (fun ls hl => ?_)
                  obtain ⟨x_68, ex_68⟩ : ∃ y : Int32, y = i5_40 + 1 := ⟨_, rfl⟩
                  have z_69 : x_68.toInt = i5_40_z + 1 := z_add ex_68 hz_i5_40 ti_1 (by omega) (by omega)
                  refine lv_iinc (v := x_68) (lv' := [(5, .int (x_68)), (4, .int (v_66)), (0, .ref x), (1, .int (a1)), (2, .int (a2)), (3, .int (a3))]) X.1 X.2.1 dX12_pay_168 hl (k := 1) rfl (by rw [ex_68]; rfl) (by decide) rfl (fun ls hl => ?_)
                  refine lv_goto (tgt := 100) X.1 X.2.1 dX12_pay_171 (by decide) ?_
                  exact ih_L_38 _ (by omega) _ _ _ (v_66) ((i4_39_z - 0)) (x_68) (x_68.toInt) rfl hw z_67 rfl (by omega) (lv_sub hl [1, 0, 2, 3, 4, 5] rfl)
                · have z_b_70 := trivial
                  have k_71 : v_61.toInt = a1_z := z_eq rfl hz_a1 c_63
                  refine lv_aload_n X.1 X.2.1 dX12_pay_127 rfl (lv_at hl 2 rfl) ?_
                  obtain ⟨q_72, h_73, h_74, h_75⟩ := gQ_12_1241 hO_2.1 t_4
                  refine r_getR (g := 1241) X hw t_4 rfl 41 h_73 (by decide) rfl inn_X12_pay_12 (by decide) (X.2.2.2.1 (.fieldLink RX12 106 "SilkMillModel" "skeinDay" "[I") (by decide +kernel)) rfl (gv_1241 _ _) dX12_pay_128 ?_
                  refine lv_aload_n X.1 X.2.1 dX12_pay_131 rfl (lv_at hl 2 rfl) ?_
                  refine r_getR (g := 1263) X hw t_4 rfl 63 h_56 (by decide) rfl inn_X12_pay_12 (by decide) (X.2.2.2.1 (.fieldLink RX12 152 "SilkMillModel" "faultOf" "[I") (by decide +kernel)) rfl (gv_1263 _ _) dX12_pay_132 ?_
                  refine lv_iload X.1 X.2.1 dX12_pay_135 (lv_at hl 1 rfl) ?_
                  refine r_iald X hw h_57 rfl (by rw [h_58]; exact z_ix hz_i5_40 (by omega) (by omega)) dX12_pay_137 ?_
                  rw [ev_59]
                  refine r_iald X hw h_74 rfl (by rw [h_75]; exact z_ix rfl (by omega) (by omega)) dX12_pay_138 ?_
                  refine lv_topi (fun v_76 ev_76 => ?_)
                  have rg_77 := And.intro (z_lo v_76) (z_hi v_76)
                  have ev_76 := ev_76.symm
                  refine lv_iload_n X.1 X.2.1 dX12_pay_139 rfl (lv_at hl 4 rfl) ?_
                  refine lv_icmp_ne (tgt := 164) X.1 X.2.1 dX12_pay_140 (by decide) (fun c_78 => ?_) (fun c_78 => ?_)
                  · have z_b_79 := trivial
                    have k_80 : v_76.toInt ≠ a2_z := z_ne rfl hz_a2 c_78
                    refine lv_iconst (v := 0) X.1 X.2.1 dX12_pay_164 (by decide) ?_
                    refine lv_isub X.1 X.2.1 dX12_pay_165 ?_
                    refine lv_topi (fun v_81 ev_81 => ?_)
                    have z_82 : v_81.toInt = i4_39_z - 0 := z_sub ev_81 hz_i4_39 ti_0 (by omega) (by omega)
                    refine lv_istore (lv' := [(4, .int (v_81)), (5, .int (i5_40)), (0, .ref x), (1, .int (a1)), (2, .int (a2)), (3, .int (a3))]) X.1 X.2.1 dX12_pay_166 hl (by decide) rfl (fun ls hl => ?_)
                    obtain ⟨x_83, ex_83⟩ : ∃ y : Int32, y = i5_40 + 1 := ⟨_, rfl⟩
                    have z_84 : x_83.toInt = i5_40_z + 1 := z_add ex_83 hz_i5_40 ti_1 (by omega) (by omega)
                    refine lv_iinc (v := x_83) (lv' := [(5, .int (x_83)), (4, .int (v_81)), (0, .ref x), (1, .int (a1)), (2, .int (a2)), (3, .int (a3))]) X.1 X.2.1 dX12_pay_168 hl (k := 1) rfl (by rw [ex_83]; rfl) (by decide) rfl (fun ls hl => ?_)
                    refine lv_goto (tgt := 100) X.1 X.2.1 dX12_pay_171 (by decide) ?_
                    exact ih_L_38 _ (by omega) _ _ _ (v_81) ((i4_39_z - 0)) (x_83) (x_83.toInt) rfl hw z_82 rfl (by omega) (lv_sub hl [1, 0, 2, 3, 4, 5] rfl)
                  · have z_b_85 := trivial
                    have k_86 : v_76.toInt = a2_z := z_eq rfl hz_a2 c_78
                    refine lv_aload_n X.1 X.2.1 dX12_pay_143 rfl (lv_at hl 2 rfl) ?_
                    obtain ⟨q_87, h_88, h_89, h_90⟩ := gQ_12_1265 hO_2.1 t_4
                    refine r_getR (g := 1265) X hw t_4 rfl 65 h_88 (by decide) rfl inn_X12_pay_12 (by decide) (X.2.2.2.1 (.fieldLink RX12 158 "SilkMillModel" "faultDay" "[I") (by decide +kernel)) rfl (gv_1265 _ _) dX12_pay_144 ?_
                    refine lv_iload X.1 X.2.1 dX12_pay_147 (lv_at hl 1 rfl) ?_
                    refine r_iald X hw h_89 rfl (by rw [h_90]; exact z_ix hz_i5_40 (by omega) (by omega)) dX12_pay_149 ?_
                    refine lv_topi (fun v_91 ev_91 => ?_)
                    have rg_92 := And.intro (z_lo v_91) (z_hi v_91)
                    have ev_91 := ev_91.symm
                    refine lv_iload_n X.1 X.2.1 dX12_pay_150 rfl (lv_at hl 5 rfl) ?_
                    refine lv_icmp_gt (tgt := 164) X.1 X.2.1 dX12_pay_151 (by decide) (fun c_93 => ?_) (fun c_93 => ?_)
                    · have z_b_94 := trivial
                      have k_95 : v_91.toInt > a3_z := z_lt hz_a3 rfl c_93
                      refine lv_iconst (v := 0) X.1 X.2.1 dX12_pay_164 (by decide) ?_
                      refine lv_isub X.1 X.2.1 dX12_pay_165 ?_
                      refine lv_topi (fun v_96 ev_96 => ?_)
                      have z_97 : v_96.toInt = i4_39_z - 0 := z_sub ev_96 hz_i4_39 ti_0 (by omega) (by omega)
                      refine lv_istore (lv' := [(4, .int (v_96)), (5, .int (i5_40)), (0, .ref x), (1, .int (a1)), (2, .int (a2)), (3, .int (a3))]) X.1 X.2.1 dX12_pay_166 hl (by decide) rfl (fun ls hl => ?_)
                      obtain ⟨x_98, ex_98⟩ : ∃ y : Int32, y = i5_40 + 1 := ⟨_, rfl⟩
                      have z_99 : x_98.toInt = i5_40_z + 1 := z_add ex_98 hz_i5_40 ti_1 (by omega) (by omega)
                      refine lv_iinc (v := x_98) (lv' := [(5, .int (x_98)), (4, .int (v_96)), (0, .ref x), (1, .int (a1)), (2, .int (a2)), (3, .int (a3))]) X.1 X.2.1 dX12_pay_168 hl (k := 1) rfl (by rw [ex_98]; rfl) (by decide) rfl (fun ls hl => ?_)
                      refine lv_goto (tgt := 100) X.1 X.2.1 dX12_pay_171 (by decide) ?_
                      exact ih_L_38 _ (by omega) _ _ _ (v_96) ((i4_39_z - 0)) (x_98) (x_98.toInt) rfl hw z_97 rfl (by omega) (lv_sub hl [1, 0, 2, 3, 4, 5] rfl)
                    · have z_b_100 := trivial
                      have k_101 : v_91.toInt ≤ a3_z := z_nlt hz_a3 rfl c_93
                      refine lv_aload_n X.1 X.2.1 dX12_pay_154 rfl (lv_at hl 2 rfl) ?_
                      obtain ⟨q_102, h_103, h_104, h_105⟩ := gQ_12_1264 hO_2.1 t_4
                      refine r_getR (g := 1264) X hw t_4 rfl 64 h_103 (by decide) rfl inn_X12_pay_12 (by decide) (X.2.2.2.1 (.fieldLink RX12 155 "SilkMillModel" "faultAmount" "[I") (by decide +kernel)) rfl (gv_1264 _ _) dX12_pay_155 ?_
                      refine lv_iload X.1 X.2.1 dX12_pay_158 (lv_at hl 1 rfl) ?_
                      refine r_iald X hw h_104 rfl (by rw [h_105]; exact z_ix hz_i5_40 (by omega) (by omega)) dX12_pay_160 ?_
                      refine lv_topi (fun v_106 ev_106 => ?_)
                      have rg_107 := And.intro (z_lo v_106) (z_hi v_106)
                      have ev_106 := ev_106.symm
                      refine lv_goto (tgt := 165) X.1 X.2.1 dX12_pay_161 (by decide) ?_
                      refine lv_isub X.1 X.2.1 dX12_pay_165 ?_
                      refine lv_topi (fun v_108 ev_108 => ?_)
                      have rg_109 := And.intro (z_lo v_108) (z_hi v_108)
                      refine lv_istore (lv' := [(4, .int (v_108)), (5, .int (i5_40)), (0, .ref x), (1, .int (a1)), (2, .int (a2)), (3, .int (a3))]) X.1 X.2.1 dX12_pay_166 hl (by decide) rfl (fun ls hl => ?_)
                      obtain ⟨x_110, ex_110⟩ : ∃ y : Int32, y = i5_40 + 1 := ⟨_, rfl⟩
                      have z_111 : x_110.toInt = i5_40_z + 1 := z_add ex_110 hz_i5_40 ti_1 (by omega) (by omega)
                      refine lv_iinc (v := x_110) (lv' := [(5, .int (x_110)), (4, .int (v_108)), (0, .ref x), (1, .int (a1)), (2, .int (a2)), (3, .int (a3))]) X.1 X.2.1 dX12_pay_168 hl (k := 1) rfl (by rw [ex_110]; rfl) (by decide) rfl (fun ls hl => ?_)
                      refine lv_goto (tgt := 100) X.1 X.2.1 dX12_pay_171 (by decide) ?_
                      exact ih_L_38 _ (by omega) _ _ _ (v_108) (v_108.toInt) (x_110) (x_110.toInt) rfl hw rfl rfl (by omega) (lv_sub hl [1, 0, 2, 3, 4, 5] rfl)
            exact L_38 _ _ _ _ (i4_28) (i4_28_z) (0) (0) rfl hw hz_i4_28 ti_0 (by omega) (lv_sub hl [1, 0, 2, 3, 4, 5] rfl)
          · have z_b_112 := trivial
            have k_113 : i5_29_z < v_32.toInt := z_nle rfl hz_i5_29 c_35
            refine lv_iload X.1 X.2.1 dX12_pay_54 (lv_at hl 0 rfl) ?_
            refine lv_aload_n X.1 X.2.1 dX12_pay_56 rfl (lv_at hl 2 rfl) ?_
            obtain ⟨q_114, h_115, h_116, h_117⟩ := gQ_12_1240 hO_2.1 t_4
            refine r_getR (g := 1240) X hw t_4 rfl 40 h_115 (by decide) rfl inn_X12_pay_12 (by decide) (X.2.2.2.1 (.fieldLink RX12 103 "SilkMillModel" "skeinPot" "[I") (by decide +kernel)) rfl (gv_1240 _ _) dX12_pay_57 ?_
            refine lv_iload X.1 X.2.1 dX12_pay_60 (lv_at hl 1 rfl) ?_
            refine r_iald X hw h_116 rfl (by rw [h_117]; exact z_ix hz_i5_29 (by omega) (by omega)) dX12_pay_62 ?_
            refine lv_topi (fun v_118 ev_118 => ?_)
            have rg_119 := And.intro (z_lo v_118) (z_hi v_118)
            have ev_118 := ev_118.symm
            refine lv_iload_n X.1 X.2.1 dX12_pay_63 rfl (lv_at hl 3 rfl) ?_
            refine lv_icmp_ne (tgt := 87) X.1 X.2.1 dX12_pay_64 (by decide) (fun c_120 => ?_) (fun c_120 => ?_)
            · have z_b_121 := trivial
              have k_122 : v_118.toInt ≠ a1_z := z_ne rfl hz_a1 c_120
              refine lv_iconst (v := 0) X.1 X.2.1 dX12_pay_87 (by decide) ?_
              refine lv_iadd X.1 X.2.1 dX12_pay_88 ?_
              refine lv_topi (fun v_123 ev_123 => ?_)
              have z_124 : v_123.toInt = i4_28_z + 0 := z_add ev_123 hz_i4_28 ti_0 (by omega) (by omega)
              refine lv_istore (lv' := [(4, .int (v_123)), (5, .int (i5_29)), (0, .ref x), (1, .int (a1)), (2, .int (a2)), (3, .int (a3))]) X.1 X.2.1 dX12_pay_89 hl (by decide) rfl (fun ls hl => ?_)
              obtain ⟨x_125, ex_125⟩ : ∃ y : Int32, y = i5_29 + 1 := ⟨_, rfl⟩
              have z_126 : x_125.toInt = i5_29_z + 1 := z_add ex_125 hz_i5_29 ti_1 (by omega) (by omega)
              refine lv_iinc (v := x_125) (lv' := [(5, .int (x_125)), (4, .int (v_123)), (0, .ref x), (1, .int (a1)), (2, .int (a2)), (3, .int (a3))]) X.1 X.2.1 dX12_pay_91 hl (k := 1) rfl (by rw [ex_125]; rfl) (by decide) rfl (fun ls hl => ?_)
              refine lv_goto (tgt := 45) X.1 X.2.1 dX12_pay_94 (by decide) ?_
              exact ih_L_27 _ (by omega) _ _ _ (v_123) ((i4_28_z + 0)) (x_125) (x_125.toInt) rfl hw z_124 rfl (by omega) (lv_sub hl [1, 0, 2, 3, 4, 5] rfl)
            · have z_b_127 := trivial
              have k_128 : v_118.toInt = a1_z := z_eq rfl hz_a1 c_120
              refine lv_aload_n X.1 X.2.1 dX12_pay_67 rfl (lv_at hl 2 rfl) ?_
              obtain ⟨q_129, h_130, h_131, h_132⟩ := gQ_12_1241 hO_2.1 t_4
              refine r_getR (g := 1241) X hw t_4 rfl 41 h_130 (by decide) rfl inn_X12_pay_12 (by decide) (X.2.2.2.1 (.fieldLink RX12 106 "SilkMillModel" "skeinDay" "[I") (by decide +kernel)) rfl (gv_1241 _ _) dX12_pay_68 ?_
              refine lv_iload X.1 X.2.1 dX12_pay_71 (lv_at hl 1 rfl) ?_
              refine r_iald X hw h_131 rfl (by rw [h_132]; exact z_ix hz_i5_29 (by omega) (by omega)) dX12_pay_73 ?_
              refine lv_topi (fun v_133 ev_133 => ?_)
              have rg_134 := And.intro (z_lo v_133) (z_hi v_133)
              have ev_133 := ev_133.symm
              refine lv_iload_n X.1 X.2.1 dX12_pay_74 rfl (lv_at hl 4 rfl) ?_
              refine lv_icmp_ne (tgt := 87) X.1 X.2.1 dX12_pay_75 (by decide) (fun c_135 => ?_) (fun c_135 => ?_)
              · have z_b_136 := trivial
                have k_137 : v_133.toInt ≠ a2_z := z_ne rfl hz_a2 c_135
                refine lv_iconst (v := 0) X.1 X.2.1 dX12_pay_87 (by decide) ?_
                refine lv_iadd X.1 X.2.1 dX12_pay_88 ?_
                refine lv_topi (fun v_138 ev_138 => ?_)
                have z_139 : v_138.toInt = i4_28_z + 0 := z_add ev_138 hz_i4_28 ti_0 (by omega) (by omega)
                refine lv_istore (lv' := [(4, .int (v_138)), (5, .int (i5_29)), (0, .ref x), (1, .int (a1)), (2, .int (a2)), (3, .int (a3))]) X.1 X.2.1 dX12_pay_89 hl (by decide) rfl (fun ls hl => ?_)
                obtain ⟨x_140, ex_140⟩ : ∃ y : Int32, y = i5_29 + 1 := ⟨_, rfl⟩
                have z_141 : x_140.toInt = i5_29_z + 1 := z_add ex_140 hz_i5_29 ti_1 (by omega) (by omega)
                refine lv_iinc (v := x_140) (lv' := [(5, .int (x_140)), (4, .int (v_138)), (0, .ref x), (1, .int (a1)), (2, .int (a2)), (3, .int (a3))]) X.1 X.2.1 dX12_pay_91 hl (k := 1) rfl (by rw [ex_140]; rfl) (by decide) rfl (fun ls hl => ?_)
                refine lv_goto (tgt := 45) X.1 X.2.1 dX12_pay_94 (by decide) ?_
                exact ih_L_27 _ (by omega) _ _ _ (v_138) ((i4_28_z + 0)) (x_140) (x_140.toInt) rfl hw z_139 rfl (by omega) (lv_sub hl [1, 0, 2, 3, 4, 5] rfl)
              · have z_b_142 := trivial
                have k_143 : v_133.toInt = a2_z := z_eq rfl hz_a2 c_135
                refine lv_aload_n X.1 X.2.1 dX12_pay_78 rfl (lv_at hl 2 rfl) ?_
                refine lv_iload X.1 X.2.1 dX12_pay_79 (lv_at hl 1 rfl) ?_
                refine k_i (rm := { frames := 7, cells := 0, slots := 0, locals := 336 }) (av := [.ref x, .int (i5_29)]) X hw (va_runV (As := [.int (i5_29)]) (rest := [.int (i4_28)]) (cfix X) (k_X12_priceOf l G cy κ S_1 _ x (i5_29) (i5_29_z) hO_2.1 t_4 hz_i5_29 (by first | assumption | omega) (by first | assumption | omega) (by first | assumption | omega) (MIe_free hG ha_x hO_2.fr (by decide +kernel) hp_0)) (cwV 1 X.2.2.2.1 gX12_pay_X12_priceOf rfl rfl rfl (by decide +kernel) ⟨Nat.le_of_ble_eq_true rfl, Nat.le_of_ble_eq_true rfl⟩) (pre_V X hw _ t_4 rfl (by decide) rfl) rfl rfl hl.1 rfl (lv_room (Nat.le_of_ble_eq_true rfl)) dX12_pay_81 ⟨Nat.le_of_ble_eq_true rfl, Nat.le_of_ble_eq_true rfl⟩) 0 0 (Nat.le_of_ble_eq_true rfl) (Nat.le_of_ble_eq_true rfl) (fun rr_144 S_145 H locs hp hw hfr hnw => ?_)
                obtain ⟨e2, hp⟩ := hp
                subst e2
                have rg_146 := And.intro (z_lo rr_144) (z_hi rr_144)
                refine lv_goto (tgt := 88) X.1 X.2.1 dX12_pay_84 (by decide) ?_
                refine lv_iadd X.1 X.2.1 dX12_pay_88 ?_
                refine lv_topi (fun v_147 ev_147 => ?_)
                have rg_148 := And.intro (z_lo v_147) (z_hi v_147)
                refine lv_istore (lv' := [(4, .int (v_147)), (5, .int (i5_29)), (0, .ref x), (1, .int (a1)), (2, .int (a2)), (3, .int (a3))]) X.1 X.2.1 dX12_pay_89 hl (by decide) rfl (fun ls hl => ?_)
                obtain ⟨x_149, ex_149⟩ : ∃ y : Int32, y = i5_29 + 1 := ⟨_, rfl⟩
                have z_150 : x_149.toInt = i5_29_z + 1 := z_add ex_149 hz_i5_29 ti_1 (by omega) (by omega)
                refine lv_iinc (v := x_149) (lv' := [(5, .int (x_149)), (4, .int (v_147)), (0, .ref x), (1, .int (a1)), (2, .int (a2)), (3, .int (a3))]) X.1 X.2.1 dX12_pay_91 hl (k := 1) rfl (by rw [ex_149]; rfl) (by decide) rfl (fun ls hl => ?_)
                refine lv_goto (tgt := 45) X.1 X.2.1 dX12_pay_94 (by decide) ?_
                exact ih_L_27 _ (by omega) _ _ _ (v_147) (v_147.toInt) (x_149) (x_149.toInt) rfl hw rfl rfl (by omega) (lv_sub hl [1, 0, 2, 3, 4, 5] rfl)
        exact L_27 _ _ _ _ (0) (0) (0) (0) rfl hw ti_0 ti_0 (by omega) (lv_sub hl [1, 0, 2, 3, 4, 5] rfl)
      · have z_b_151 := trivial
        refine lv_if_ne (tgt := 39) X.1 X.2.1 dX12_pay_34 (by decide) (fun c_152 => absurd c_152 (by decide)) (fun c_152 => ?_)
        refine lv_iconst (v := 0) X.1 X.2.1 dX12_pay_37 (by decide) ?_
        rw [hQQ]
        exact ret_i X hw hr hlocks (Nat.le_of_ble_eq_true rfl) (Nat.le_of_ble_eq_true rfl) ⟨hO_2, trivial⟩ dX12_pay_38
    · have z_b_153 := trivial
      refine lv_if_eq (tgt := 37) X.1 X.2.1 dX12_pay_22 (by decide) (fun c_154 => ?_) (fun c_154 => absurd c_154 (by decide))
      refine lv_iconst (v := 0) X.1 X.2.1 dX12_pay_37 (by decide) ?_
      rw [hQQ]
      exact ret_i X hw hr hlocks (Nat.le_of_ble_eq_true rfl) (Nat.le_of_ble_eq_true rfl) ⟨hO_2, trivial⟩ dX12_pay_38
  · have z_b_155 := trivial
    refine lv_if_eq (tgt := 37) X.1 X.2.1 dX12_pay_10 (by decide) (fun c_156 => ?_) (fun c_156 => absurd c_156 (by decide))
    refine lv_iconst (v := 0) X.1 X.2.1 dX12_pay_37 (by decide) ?_
    rw [hQQ]
    exact ret_i X hw hr hlocks (Nat.le_of_ble_eq_true rfl) (Nat.le_of_ble_eq_true rfl) ⟨hO_2, trivial⟩ dX12_pay_38
