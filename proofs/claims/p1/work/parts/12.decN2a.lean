set_option maxRecDepth 20000 in
theorem ggX12_isCocoon_X12_within : GoodIn wsX12_isCocoon wsX12_within := goodIn_r _ [6] (by decide +kernel) (by decide +kernel)
set_option maxRecDepth 20000 in
theorem gX12_isCocoon_X12_within : GoodIn wsX12_isCocoon (va_wsS RX12 168 yX12_within wsX12_within) := goodIn_app (goodIn_of _ (by decide +kernel)) ggX12_isCocoon_X12_within
theorem dX12_isCocoon_0 : decode cX12_isCocoon 0 = .ok (.iload_n 1, 1) := by decide +kernel
theorem dX12_isCocoon_1 : decode cX12_isCocoon 1 = .ok (.iconst 0, 1) := by decide +kernel
theorem dX12_isCocoon_2 : decode cX12_isCocoon 2 = .ok (.aload_n 0, 1) := by decide +kernel
theorem dX12_isCocoon_3 : decode cX12_isCocoon 3 = .ok (.getfield 165, 3) := by decide +kernel
theorem dX12_isCocoon_6 : decode cX12_isCocoon 6 = .ok (.iconst 1, 1) := by decide +kernel
theorem dX12_isCocoon_7 : decode cX12_isCocoon 7 = .ok (.isub, 1) := by decide +kernel
theorem dX12_isCocoon_8 : decode cX12_isCocoon 8 = .ok (.invokestatic 168, 3) := by decide +kernel
theorem dX12_isCocoon_11 : decode cX12_isCocoon 11 = .ok (.ifCond .eq 23, 3) := by decide +kernel
theorem dX12_isCocoon_34 : decode cX12_isCocoon 34 = .ok (.iconst 0, 1) := by decide +kernel
theorem dX12_isCocoon_35 : decode cX12_isCocoon 35 = .ok (.ireturn, 1) := by decide +kernel
set_option maxRecDepth 20000 in
theorem ggX12_cocoon_X12_isCocoon : GoodIn wsX12_cocoon wsX12_isCocoon := goodIn_r _ [9, 10, 11, 12, 13, 8, 14, 38, 39, 40, 41, 42, 43, 44, 45, 46, 47, 48, 49, 50, 51, 52, 53, 54, 55, 56, 57, 58, 59, 60, 61, 62, 63, 64, 65, 66, 67, 68, 69, 70, 71, 72, 73, 74, 75, 76, 77, 78, 79, 80, 81, 82, 83, 84, 85, 86, 87, 88, 89, 90, 91, 92, 93, 94, 95, 96, 97, 98, 99, 100, 101, 102, 103] (by decide +kernel) (by decide +kernel)
set_option maxRecDepth 20000 in
theorem gX12_cocoon_X12_isCocoon : GoodIn wsX12_cocoon (wsV RX12 186 RX12 yX12_isCocoon wsX12_isCocoon) := goodIn_app (goodIn_of _ (by decide +kernel)) ggX12_cocoon_X12_isCocoon
theorem dX12_cocoon_0 : decode cX12_cocoon 0 = .ok (.aload_n 0, 1) := by decide +kernel
theorem dX12_cocoon_1 : decode cX12_cocoon 1 = .ok (.iconst 0, 1) := by decide +kernel
theorem dX12_cocoon_2 : decode cX12_cocoon 2 = .ok (.putfield 161, 3) := by decide +kernel
theorem dX12_cocoon_5 : decode cX12_cocoon 5 = .ok (.aload_n 0, 1) := by decide +kernel
theorem dX12_cocoon_6 : decode cX12_cocoon 6 = .ok (.iload_n 1, 1) := by decide +kernel
theorem dX12_cocoon_7 : decode cX12_cocoon 7 = .ok (.iload_n 2, 1) := by decide +kernel
theorem dX12_cocoon_8 : decode cX12_cocoon 8 = .ok (.invokevirtual 186, 3) := by decide +kernel
theorem dX12_cocoon_11 : decode cX12_cocoon 11 = .ok (.ifCond .ne 5, 3) := by decide +kernel
theorem dX12_cocoon_14 : decode cX12_cocoon 14 = .ok (.iconst (-1), 1) := by decide +kernel
theorem dX12_cocoon_15 : decode cX12_cocoon 15 = .ok (.ireturn, 1) := by decide +kernel
set_option maxRecDepth 20000 in
theorem ggX12_fineness_X12_isCocoon : GoodIn wsX12_fineness wsX12_isCocoon := goodIn_r _ [6, 7, 8, 9, 10, 5, 11, 31, 32, 33, 34, 35, 36, 37, 38, 39, 40, 41, 42, 43, 44, 45, 46, 47, 48, 49, 50, 51, 52, 53, 54, 55, 56, 57, 58, 59, 60, 61, 62, 63, 64, 65, 66, 67, 68, 69, 70, 71, 72, 73, 74, 75, 76, 77, 78, 79, 80, 81, 82, 83, 84, 85, 86, 87, 88, 89, 90, 91, 92, 93, 94, 95, 96] (by decide +kernel) (by decide +kernel)
set_option maxRecDepth 20000 in
theorem gX12_fineness_X12_isCocoon : GoodIn wsX12_fineness (wsV RX12 186 RX12 yX12_isCocoon wsX12_isCocoon) := goodIn_app (goodIn_of _ (by decide +kernel)) ggX12_fineness_X12_isCocoon
theorem dX12_fineness_0 : decode cX12_fineness 0 = .ok (.aload_n 0, 1) := by decide +kernel
theorem dX12_fineness_1 : decode cX12_fineness 1 = .ok (.iload_n 1, 1) := by decide +kernel
theorem dX12_fineness_2 : decode cX12_fineness 2 = .ok (.iload_n 2, 1) := by decide +kernel
theorem dX12_fineness_3 : decode cX12_fineness 3 = .ok (.invokevirtual 186, 3) := by decide +kernel
theorem dX12_fineness_6 : decode cX12_fineness 6 = .ok (.ifCond .eq 27, 3) := by decide +kernel
theorem dX12_fineness_33 : decode cX12_fineness 33 = .ok (.iconst 0, 1) := by decide +kernel
theorem dX12_fineness_34 : decode cX12_fineness 34 = .ok (.istore 4, 2) := by decide +kernel
theorem dX12_fineness_36 : decode cX12_fineness 36 = .ok (.aload_n 0, 1) := by decide +kernel
theorem dX12_fineness_37 : decode cX12_fineness 37 = .ok (.iload 4, 2) := by decide +kernel
theorem dX12_fineness_39 : decode cX12_fineness 39 = .ok (.ifCond .eq 7, 3) := by decide +kernel
theorem dX12_fineness_46 : decode cX12_fineness 46 = .ok (.iconst 1, 1) := by decide +kernel
theorem dX12_fineness_47 : decode cX12_fineness 47 = .ok (.putfield 161, 3) := by decide +kernel
theorem dX12_fineness_50 : decode cX12_fineness 50 = .ok (.iload 4, 2) := by decide +kernel
theorem dX12_fineness_52 : decode cX12_fineness 52 = .ok (.ifCond .eq 17, 3) := by decide +kernel
theorem dX12_fineness_69 : decode cX12_fineness 69 = .ok (.iconst 0, 1) := by decide +kernel
theorem dX12_fineness_70 : decode cX12_fineness 70 = .ok (.ireturn, 1) := by decide +kernel
set_option maxRecDepth 20000 in
theorem ggX12_test_X12_within : GoodIn wsX12_test wsX12_within := goodIn_r _ [9] (by decide +kernel) (by decide +kernel)
set_option maxRecDepth 20000 in
theorem gX12_test_X12_within : GoodIn wsX12_test (va_wsS RX12 168 yX12_within wsX12_within) := goodIn_app (goodIn_of _ (by decide +kernel)) ggX12_test_X12_within
theorem dX12_test_0 : decode cX12_test 0 = .ok (.aload_n 0, 1) := by decide +kernel
theorem dX12_test_1 : decode cX12_test 1 = .ok (.iconst 0, 1) := by decide +kernel
theorem dX12_test_2 : decode cX12_test 2 = .ok (.putfield 161, 3) := by decide +kernel
theorem dX12_test_5 : decode cX12_test 5 = .ok (.iload_n 1, 1) := by decide +kernel
theorem dX12_test_6 : decode cX12_test 6 = .ok (.iconst 0, 1) := by decide +kernel
theorem dX12_test_7 : decode cX12_test 7 = .ok (.aload_n 0, 1) := by decide +kernel
theorem dX12_test_8 : decode cX12_test 8 = .ok (.getfield 165, 3) := by decide +kernel
theorem dX12_test_11 : decode cX12_test 11 = .ok (.iconst 1, 1) := by decide +kernel
theorem dX12_test_12 : decode cX12_test 12 = .ok (.isub, 1) := by decide +kernel
theorem dX12_test_13 : decode cX12_test 13 = .ok (.invokestatic 168, 3) := by decide +kernel
theorem dX12_test_16 : decode cX12_test 16 = .ok (.ifCond .ne 5, 3) := by decide +kernel
theorem dX12_test_19 : decode cX12_test 19 = .ok (.iconst (-1), 1) := by decide +kernel
theorem dX12_test_20 : decode cX12_test 20 = .ok (.ireturn, 1) := by decide +kernel
set_option maxRecDepth 20000 in
theorem ggX12_isPot_X12_within : GoodIn wsX12_isPot wsX12_within := goodIn_r _ [5] (by decide +kernel) (by decide +kernel)
set_option maxRecDepth 20000 in
theorem gX12_isPot_X12_within : GoodIn wsX12_isPot (va_wsS RX12 168 yX12_within wsX12_within) := goodIn_app (goodIn_of _ (by decide +kernel)) ggX12_isPot_X12_within
theorem dX12_isPot_0 : decode cX12_isPot 0 = .ok (.iload_n 1, 1) := by decide +kernel
theorem dX12_isPot_1 : decode cX12_isPot 1 = .ok (.iconst 0, 1) := by decide +kernel
theorem dX12_isPot_2 : decode cX12_isPot 2 = .ok (.aload_n 0, 1) := by decide +kernel
theorem dX12_isPot_3 : decode cX12_isPot 3 = .ok (.getfield 197, 3) := by decide +kernel
theorem dX12_isPot_6 : decode cX12_isPot 6 = .ok (.iconst 1, 1) := by decide +kernel
theorem dX12_isPot_7 : decode cX12_isPot 7 = .ok (.isub, 1) := by decide +kernel
theorem dX12_isPot_8 : decode cX12_isPot 8 = .ok (.invokestatic 168, 3) := by decide +kernel
theorem dX12_isPot_11 : decode cX12_isPot 11 = .ok (.ireturn, 1) := by decide +kernel
set_option maxRecDepth 20000 in
theorem ggX12_target_X12_isPot : GoodIn wsX12_target wsX12_isPot := goodIn_r _ [7, 8, 9, 10, 6, 11, 12, 13, 14, 15, 16, 17, 18, 19, 20, 21, 22, 23, 24, 25, 26, 27, 28, 29, 30, 31, 32, 33, 34, 35, 36, 37, 38, 39, 40, 41, 42, 43, 44, 45, 46, 47, 48, 49, 50, 51, 52, 53, 54, 55, 56, 57, 58, 59, 60, 61, 62, 63, 64, 65, 66, 67, 68, 69, 70, 71, 72, 73, 74, 75, 76, 77] (by decide +kernel) (by decide +kernel)
set_option maxRecDepth 20000 in
theorem gX12_target_X12_isPot : GoodIn wsX12_target (wsV RX12 200 RX12 yX12_isPot wsX12_isPot) := goodIn_app (goodIn_of _ (by decide +kernel)) ggX12_target_X12_isPot
theorem dX12_target_0 : decode cX12_target 0 = .ok (.aload_n 0, 1) := by decide +kernel
theorem dX12_target_1 : decode cX12_target 1 = .ok (.iconst 0, 1) := by decide +kernel
theorem dX12_target_2 : decode cX12_target 2 = .ok (.putfield 161, 3) := by decide +kernel
theorem dX12_target_5 : decode cX12_target 5 = .ok (.aload_n 0, 1) := by decide +kernel
theorem dX12_target_6 : decode cX12_target 6 = .ok (.iload_n 1, 1) := by decide +kernel
theorem dX12_target_7 : decode cX12_target 7 = .ok (.invokevirtual 200, 3) := by decide +kernel
theorem dX12_target_10 : decode cX12_target 10 = .ok (.ifCond .eq 15, 3) := by decide +kernel
theorem dX12_target_25 : decode cX12_target 25 = .ok (.iconst 0, 1) := by decide +kernel
theorem dX12_target_26 : decode cX12_target 26 = .ok (.ireturn, 1) := by decide +kernel
set_option maxRecDepth 20000 in
theorem ggX12_fill_X12_isPot : GoodIn wsX12_fill wsX12_isPot := goodIn_r _ [9, 10, 11, 12, 8, 13, 25, 26, 27, 28, 29, 30, 31, 32, 33, 34, 35, 36, 37, 38, 39, 40, 41, 42, 43, 44, 45, 46, 47, 48, 49, 50, 51, 52, 53, 54, 55, 56, 57, 58, 59, 60, 61, 62, 63, 64, 65, 66, 67, 68, 69, 70, 71, 72, 73, 74, 75, 76, 77, 78, 79, 80, 81, 82, 83, 84, 85, 86, 87, 88, 89, 90] (by decide +kernel) (by decide +kernel)
set_option maxRecDepth 20000 in
theorem gX12_fill_X12_isPot : GoodIn wsX12_fill (wsV RX12 200 RX12 yX12_isPot wsX12_isPot) := goodIn_app (goodIn_of _ (by decide +kernel)) ggX12_fill_X12_isPot
theorem dX12_fill_0 : decode cX12_fill 0 = .ok (.aload_n 0, 1) := by decide +kernel
theorem dX12_fill_1 : decode cX12_fill 1 = .ok (.iconst 0, 1) := by decide +kernel
theorem dX12_fill_2 : decode cX12_fill 2 = .ok (.putfield 161, 3) := by decide +kernel
theorem dX12_fill_5 : decode cX12_fill 5 = .ok (.aload_n 0, 1) := by decide +kernel
theorem dX12_fill_6 : decode cX12_fill 6 = .ok (.iload_n 1, 1) := by decide +kernel
theorem dX12_fill_7 : decode cX12_fill 7 = .ok (.invokevirtual 200, 3) := by decide +kernel
theorem dX12_fill_10 : decode cX12_fill 10 = .ok (.ifCond .eq 45, 3) := by decide +kernel
theorem dX12_fill_55 : decode cX12_fill 55 = .ok (.iconst 0, 1) := by decide +kernel
theorem dX12_fill_56 : decode cX12_fill 56 = .ok (.ireturn, 1) := by decide +kernel
set_option maxRecDepth 20000 in
theorem ggX12_end_X12_within : GoodIn wsX12_end wsX12_within := goodIn_r _ [6] (by decide +kernel) (by decide +kernel)
set_option maxRecDepth 20000 in
theorem gX12_end_X12_within : GoodIn wsX12_end (va_wsS RX12 168 yX12_within wsX12_within) := goodIn_app (goodIn_of _ (by decide +kernel)) ggX12_end_X12_within
theorem dX12_end_0 : decode cX12_end 0 = .ok (.aload_n 0, 1) := by decide +kernel
theorem dX12_end_1 : decode cX12_end 1 = .ok (.iconst 0, 1) := by decide +kernel
theorem dX12_end_2 : decode cX12_end 2 = .ok (.putfield 161, 3) := by decide +kernel
theorem dX12_end_5 : decode cX12_end 5 = .ok (.iload_n 1, 1) := by decide +kernel
theorem dX12_end_6 : decode cX12_end 6 = .ok (.iconst 0, 1) := by decide +kernel
theorem dX12_end_7 : decode cX12_end 7 = .ok (.aload_n 0, 1) := by decide +kernel
theorem dX12_end_8 : decode cX12_end 8 = .ok (.getfield 211, 3) := by decide +kernel
theorem dX12_end_11 : decode cX12_end 11 = .ok (.invokestatic 168, 3) := by decide +kernel
theorem dX12_end_14 : decode cX12_end 14 = .ok (.ifCond .ne 5, 3) := by decide +kernel
theorem dX12_end_17 : decode cX12_end 17 = .ok (.iconst (-1), 1) := by decide +kernel
theorem dX12_end_18 : decode cX12_end 18 = .ok (.ireturn, 1) := by decide +kernel
theorem dX12_end_19 : decode cX12_end 19 = .ok (.aload_n 0, 1) := by decide +kernel
theorem dX12_end_20 : decode cX12_end 20 = .ok (.iload_n 1, 1) := by decide +kernel
theorem dX12_end_21 : decode cX12_end 21 = .ok (.putfield 211, 3) := by decide +kernel
theorem dX12_end_24 : decode cX12_end 24 = .ok (.iload_n 1, 1) := by decide +kernel
theorem dX12_end_25 : decode cX12_end 25 = .ok (.ireturn, 1) := by decide +kernel
set_option maxRecDepth 20000 in
theorem ggX12_program_X12_isPot : GoodIn wsX12_program wsX12_isPot := goodIn_r _ [18, 19, 20, 21, 17, 22, 111, 112, 113, 114, 115, 116, 117, 118, 119, 120, 121, 122, 123, 124, 125, 126, 127, 128, 129, 130, 131, 132, 133, 134, 135, 136, 137, 138, 139, 140, 141, 142, 143, 144, 145, 146, 147, 148, 149, 150, 151, 152, 153, 154, 155, 156, 157, 158, 159, 160, 161, 162, 163, 164, 165, 166, 167, 168, 169, 170, 171, 172, 173, 174, 175, 176] (by decide +kernel) (by decide +kernel)
set_option maxRecDepth 20000 in
theorem gX12_program_X12_isPot : GoodIn wsX12_program (wsV RX12 200 RX12 yX12_isPot wsX12_isPot) := goodIn_app (goodIn_of _ (by decide +kernel)) ggX12_program_X12_isPot
theorem dX12_program_0 : decode cX12_program 0 = .ok (.aload_n 0, 1) := by decide +kernel
theorem dX12_program_1 : decode cX12_program 1 = .ok (.iconst 0, 1) := by decide +kernel
theorem dX12_program_2 : decode cX12_program 2 = .ok (.putfield 161, 3) := by decide +kernel
theorem dX12_program_5 : decode cX12_program 5 = .ok (.aload_n 0, 1) := by decide +kernel
theorem dX12_program_6 : decode cX12_program 6 = .ok (.iload_n 1, 1) := by decide +kernel
theorem dX12_program_7 : decode cX12_program 7 = .ok (.invokevirtual 200, 3) := by decide +kernel
theorem dX12_program_10 : decode cX12_program 10 = .ok (.ifCond .ne 5, 3) := by decide +kernel
theorem dX12_program_13 : decode cX12_program 13 = .ok (.iconst (-1), 1) := by decide +kernel
theorem dX12_program_14 : decode cX12_program 14 = .ok (.ireturn, 1) := by decide +kernel
theorem dX12_place_0 : decode cX12_place 0 = .ok (.aload_n 0, 1) := by decide +kernel
theorem dX12_place_1 : decode cX12_place 1 = .ok (.iconst 0, 1) := by decide +kernel
theorem dX12_place_2 : decode cX12_place 2 = .ok (.putfield 161, 3) := by decide +kernel
theorem dX12_place_5 : decode cX12_place 5 = .ok (.aload_n 0, 1) := by decide +kernel
theorem dX12_place_6 : decode cX12_place 6 = .ok (.getfield 86, 3) := by decide +kernel
theorem dX12_place_9 : decode cX12_place 9 = .ok (.ireturn, 1) := by decide +kernel
set_option maxRecDepth 20000 in
theorem ggX12_cut_X12_isPot : GoodIn wsX12_cut wsX12_isPot := goodIn_r _ [6, 7, 8, 9, 5, 10, 59, 60, 61, 62, 63, 64, 65, 66, 67, 68, 69, 70, 71, 72, 73, 74, 75, 76, 77, 78, 79, 80, 81, 82, 83, 84, 85, 86, 87, 88, 89, 90, 91, 92, 93, 94, 95, 96, 97, 98, 99, 100, 101, 102, 103, 104, 105, 106, 107, 108, 109, 110, 111, 112, 113, 114, 115, 116, 117, 118, 119, 120, 121, 122, 123, 124] (by decide +kernel) (by decide +kernel)
set_option maxRecDepth 20000 in
theorem gX12_cut_X12_isPot : GoodIn wsX12_cut (wsV RX12 200 RX12 yX12_isPot wsX12_isPot) := goodIn_app (goodIn_of _ (by decide +kernel)) ggX12_cut_X12_isPot
theorem dX12_cut_0 : decode cX12_cut 0 = .ok (.aload_n 0, 1) := by decide +kernel
theorem dX12_cut_1 : decode cX12_cut 1 = .ok (.iconst 0, 1) := by decide +kernel
theorem dX12_cut_2 : decode cX12_cut 2 = .ok (.putfield 161, 3) := by decide +kernel
theorem dX12_cut_5 : decode cX12_cut 5 = .ok (.aload_n 0, 1) := by decide +kernel
theorem dX12_cut_6 : decode cX12_cut 6 = .ok (.iload_n 1, 1) := by decide +kernel
theorem dX12_cut_7 : decode cX12_cut 7 = .ok (.invokevirtual 200, 3) := by decide +kernel
theorem dX12_cut_10 : decode cX12_cut 10 = .ok (.ifCond .eq 11, 3) := by decide +kernel
theorem dX12_cut_21 : decode cX12_cut 21 = .ok (.iconst (-1), 1) := by decide +kernel
theorem dX12_cut_22 : decode cX12_cut 22 = .ok (.ireturn, 1) := by decide +kernel
set_option maxRecDepth 20000 in
theorem ggX12_run_X12_isPot : GoodIn wsX12_run wsX12_isPot := goodIn_r _ [6, 7, 8, 9, 5, 10, 122, 123, 124, 125, 126, 127, 128, 129, 130, 131, 132, 133, 134, 135, 136, 137, 138, 139, 140, 141, 142, 143, 144, 145, 146, 147, 148, 149, 150, 151, 152, 153, 154, 155, 156, 157, 158, 159, 160, 161, 162, 163, 164, 165, 166, 167, 168, 169, 170, 171, 172, 173, 174, 175, 176, 177, 178, 179, 180, 181, 182, 183, 184, 185, 186, 187] (by decide +kernel) (by decide +kernel)
set_option maxRecDepth 20000 in
theorem gX12_run_X12_isPot : GoodIn wsX12_run (wsV RX12 200 RX12 yX12_isPot wsX12_isPot) := goodIn_app (goodIn_of _ (by decide +kernel)) ggX12_run_X12_isPot
theorem dX12_run_0 : decode cX12_run 0 = .ok (.aload_n 0, 1) := by decide +kernel
theorem dX12_run_1 : decode cX12_run 1 = .ok (.iconst 0, 1) := by decide +kernel
theorem dX12_run_2 : decode cX12_run 2 = .ok (.putfield 161, 3) := by decide +kernel
theorem dX12_run_5 : decode cX12_run 5 = .ok (.aload_n 0, 1) := by decide +kernel
theorem dX12_run_6 : decode cX12_run 6 = .ok (.iload_n 1, 1) := by decide +kernel
theorem dX12_run_7 : decode cX12_run 7 = .ok (.invokevirtual 200, 3) := by decide +kernel
theorem dX12_run_10 : decode cX12_run 10 = .ok (.ifCond .eq 14, 3) := by decide +kernel
theorem dX12_run_24 : decode cX12_run 24 = .ok (.iconst (-1), 1) := by decide +kernel
theorem dX12_run_25 : decode cX12_run 25 = .ok (.ireturn, 1) := by decide +kernel
set_option maxRecDepth 20000 in
theorem ggX12_about_X12_isPot : GoodIn wsX12_about wsX12_isPot := goodIn_r _ [13, 14, 15, 16, 12, 17, 52, 53, 54, 55, 56, 57, 58, 59, 60, 61, 62, 63, 64, 65, 66, 67, 68, 69, 70, 71, 72, 73, 74, 75, 76, 77, 78, 79, 80, 81, 82, 83, 84, 85, 86, 87, 88, 89, 90, 91, 92, 93, 94, 95, 96, 97, 98, 99, 100, 101, 102, 103, 104, 105, 106, 107, 108, 109, 110, 111, 112, 113, 114, 115, 116, 117] (by decide +kernel) (by decide +kernel)
set_option maxRecDepth 20000 in
theorem gX12_about_X12_isPot : GoodIn wsX12_about (wsV RX12 200 RX12 yX12_isPot wsX12_isPot) := goodIn_app (goodIn_of _ (by decide +kernel)) ggX12_about_X12_isPot
theorem dX12_about_0 : decode cX12_about 0 = .ok (.aload_n 0, 1) := by decide +kernel
theorem dX12_about_1 : decode cX12_about 1 = .ok (.iconst 0, 1) := by decide +kernel
theorem dX12_about_2 : decode cX12_about 2 = .ok (.putfield 161, 3) := by decide +kernel
theorem dX12_about_5 : decode cX12_about 5 = .ok (.aload_n 0, 1) := by decide +kernel
theorem dX12_about_6 : decode cX12_about 6 = .ok (.iload_n 1, 1) := by decide +kernel
theorem dX12_about_7 : decode cX12_about 7 = .ok (.invokevirtual 200, 3) := by decide +kernel
theorem dX12_about_10 : decode cX12_about 10 = .ok (.ifCond .ne 5, 3) := by decide +kernel
theorem dX12_about_13 : decode cX12_about 13 = .ok (.iconst (-1), 1) := by decide +kernel
theorem dX12_about_14 : decode cX12_about 14 = .ok (.ireturn, 1) := by decide +kernel
set_option maxRecDepth 20000 in
theorem ggX12_in_X12_isPot : GoodIn wsX12_in wsX12_isPot := goodIn_r _ [6, 7, 8, 9, 5, 10, 21, 22, 23, 24, 25, 26, 27, 28, 29, 30, 31, 32, 33, 34, 35, 36, 37, 38, 39, 40, 41, 42, 43, 44, 45, 46, 47, 48, 49, 50, 51, 52, 53, 54, 55, 56, 57, 58, 59, 60, 61, 62, 63, 64, 65, 66, 67, 68, 69, 70, 71, 72, 73, 74, 75, 76, 77, 78, 79, 80, 81, 82, 83, 84, 85, 86] (by decide +kernel) (by decide +kernel)
set_option maxRecDepth 20000 in
theorem gX12_in_X12_isPot : GoodIn wsX12_in (wsV RX12 200 RX12 yX12_isPot wsX12_isPot) := goodIn_app (goodIn_of _ (by decide +kernel)) ggX12_in_X12_isPot
theorem dX12_in_0 : decode cX12_in 0 = .ok (.aload_n 0, 1) := by decide +kernel
theorem dX12_in_1 : decode cX12_in 1 = .ok (.iload_n 1, 1) := by decide +kernel
theorem dX12_in_2 : decode cX12_in 2 = .ok (.invokevirtual 200, 3) := by decide +kernel
theorem dX12_in_5 : decode cX12_in 5 = .ok (.ifCond .eq 32, 3) := by decide +kernel
theorem dX12_in_37 : decode cX12_in 37 = .ok (.iconst 0, 1) := by decide +kernel
theorem dX12_in_38 : decode cX12_in 38 = .ok (.istore 4, 2) := by decide +kernel
theorem dX12_in_40 : decode cX12_in 40 = .ok (.aload_n 0, 1) := by decide +kernel
theorem dX12_in_41 : decode cX12_in 41 = .ok (.iload 4, 2) := by decide +kernel
theorem dX12_in_43 : decode cX12_in 43 = .ok (.ifCond .eq 7, 3) := by decide +kernel
theorem dX12_in_50 : decode cX12_in 50 = .ok (.iconst 1, 1) := by decide +kernel
theorem dX12_in_51 : decode cX12_in 51 = .ok (.putfield 161, 3) := by decide +kernel
theorem dX12_in_54 : decode cX12_in 54 = .ok (.iload 4, 2) := by decide +kernel
theorem dX12_in_56 : decode cX12_in 56 = .ok (.ifCond .eq 30, 3) := by decide +kernel
theorem dX12_in_86 : decode cX12_in 86 = .ok (.iconst 0, 1) := by decide +kernel
theorem dX12_in_87 : decode cX12_in 87 = .ok (.ireturn, 1) := by decide +kernel
set_option maxRecDepth 20000 in
theorem ggX12_isSkein_X12_within : GoodIn wsX12_isSkein wsX12_within := goodIn_r _ [5] (by decide +kernel) (by decide +kernel)
set_option maxRecDepth 20000 in
theorem gX12_isSkein_X12_within : GoodIn wsX12_isSkein (va_wsS RX12 168 yX12_within wsX12_within) := goodIn_app (goodIn_of _ (by decide +kernel)) ggX12_isSkein_X12_within
theorem dX12_isSkein_0 : decode cX12_isSkein 0 = .ok (.iload_n 1, 1) := by decide +kernel
theorem dX12_isSkein_1 : decode cX12_isSkein 1 = .ok (.iconst 0, 1) := by decide +kernel
theorem dX12_isSkein_2 : decode cX12_isSkein 2 = .ok (.aload_n 0, 1) := by decide +kernel
theorem dX12_isSkein_3 : decode cX12_isSkein 3 = .ok (.getfield 290, 3) := by decide +kernel
theorem dX12_isSkein_6 : decode cX12_isSkein 6 = .ok (.iconst 1, 1) := by decide +kernel
theorem dX12_isSkein_7 : decode cX12_isSkein 7 = .ok (.isub, 1) := by decide +kernel
theorem dX12_isSkein_8 : decode cX12_isSkein 8 = .ok (.invokestatic 168, 3) := by decide +kernel
theorem dX12_isSkein_11 : decode cX12_isSkein 11 = .ok (.ireturn, 1) := by decide +kernel
set_option maxRecDepth 20000 in
theorem ggX12_skein_X12_isSkein : GoodIn wsX12_skein wsX12_isSkein := goodIn_r _ [10, 11, 12, 13, 9, 14, 93, 94, 95, 96, 97, 98, 99, 100, 101, 102, 103, 104, 105, 106, 107, 108, 109, 110, 111, 112, 113, 114, 115, 116, 117, 118, 119, 120, 121, 122, 123, 124, 125, 126, 127, 128, 129, 130, 131, 132, 133, 134, 135, 136, 137, 138, 139, 140, 141, 142, 143, 144, 145, 146, 147, 148, 149, 150, 151, 152, 153, 154, 155, 156, 157, 158] (by decide +kernel) (by decide +kernel)
set_option maxRecDepth 20000 in
theorem gX12_skein_X12_isSkein : GoodIn wsX12_skein (wsV RX12 362 RX12 yX12_isSkein wsX12_isSkein) := goodIn_app (goodIn_of _ (by decide +kernel)) ggX12_skein_X12_isSkein
theorem dX12_skein_0 : decode cX12_skein 0 = .ok (.aload_n 0, 1) := by decide +kernel
theorem dX12_skein_1 : decode cX12_skein 1 = .ok (.iconst 0, 1) := by decide +kernel
theorem dX12_skein_2 : decode cX12_skein 2 = .ok (.putfield 161, 3) := by decide +kernel
theorem dX12_skein_5 : decode cX12_skein 5 = .ok (.aload_n 0, 1) := by decide +kernel
theorem dX12_skein_6 : decode cX12_skein 6 = .ok (.iload_n 1, 1) := by decide +kernel
theorem dX12_skein_7 : decode cX12_skein 7 = .ok (.invokevirtual 362, 3) := by decide +kernel
theorem dX12_skein_10 : decode cX12_skein 10 = .ok (.ifCond .ne 5, 3) := by decide +kernel
theorem dX12_skein_13 : decode cX12_skein 13 = .ok (.iconst (-1), 1) := by decide +kernel
theorem dX12_skein_14 : decode cX12_skein 14 = .ok (.ireturn, 1) := by decide +kernel
set_option maxRecDepth 20000 in
theorem ggX12_metre_X12_isSkein : GoodIn wsX12_metre wsX12_isSkein := goodIn_r _ [8, 9, 10, 11, 7, 12, 41, 42, 43, 44, 45, 46, 47, 48, 49, 50, 51, 52, 53, 54, 55, 56, 57, 58, 59, 60, 61, 62, 63, 64, 65, 66, 67, 68, 69, 70, 71, 72, 73, 74, 75, 76, 77, 78, 79, 80, 81, 82, 83, 84, 85, 86, 87, 88, 89, 90, 91, 92, 93, 94, 95, 96, 97, 98, 99, 100, 101, 102, 103, 104, 105, 106] (by decide +kernel) (by decide +kernel)
set_option maxRecDepth 20000 in
theorem gX12_metre_X12_isSkein : GoodIn wsX12_metre (wsV RX12 362 RX12 yX12_isSkein wsX12_isSkein) := goodIn_app (goodIn_of _ (by decide +kernel)) ggX12_metre_X12_isSkein
theorem dX12_metre_0 : decode cX12_metre 0 = .ok (.aload_n 0, 1) := by decide +kernel
theorem dX12_metre_1 : decode cX12_metre 1 = .ok (.iconst 0, 1) := by decide +kernel
theorem dX12_metre_2 : decode cX12_metre 2 = .ok (.putfield 161, 3) := by decide +kernel
theorem dX12_metre_5 : decode cX12_metre 5 = .ok (.aload_n 0, 1) := by decide +kernel
theorem dX12_metre_6 : decode cX12_metre 6 = .ok (.iload_n 1, 1) := by decide +kernel
theorem dX12_metre_7 : decode cX12_metre 7 = .ok (.invokevirtual 362, 3) := by decide +kernel
theorem dX12_metre_10 : decode cX12_metre 10 = .ok (.ifCond .eq 18, 3) := by decide +kernel
theorem dX12_metre_28 : decode cX12_metre 28 = .ok (.iconst (-1), 1) := by decide +kernel
theorem dX12_metre_29 : decode cX12_metre 29 = .ok (.ireturn, 1) := by decide +kernel
set_option maxRecDepth 20000 in
theorem ggX12_piece_X12_isSkein : GoodIn wsX12_piece wsX12_isSkein := goodIn_r _ [9, 10, 11, 12, 8, 13, 30, 31, 32, 33, 34, 35, 36, 37, 38, 39, 40, 41, 42, 43, 44, 45, 46, 47, 48, 49, 50, 51, 52, 53, 54, 55, 56, 57, 58, 59, 60, 61, 62, 63, 64, 65, 66, 67, 68, 69, 70, 71, 72, 73, 74, 75, 76, 77, 78, 79, 80, 81, 82, 83, 84, 85, 86, 87, 88, 89, 90, 91, 92, 93, 94, 95] (by decide +kernel) (by decide +kernel)
set_option maxRecDepth 20000 in
theorem gX12_piece_X12_isSkein : GoodIn wsX12_piece (wsV RX12 362 RX12 yX12_isSkein wsX12_isSkein) := goodIn_app (goodIn_of _ (by decide +kernel)) ggX12_piece_X12_isSkein
theorem dX12_piece_0 : decode cX12_piece 0 = .ok (.aload_n 0, 1) := by decide +kernel
theorem dX12_piece_1 : decode cX12_piece 1 = .ok (.iconst 0, 1) := by decide +kernel
theorem dX12_piece_2 : decode cX12_piece 2 = .ok (.putfield 161, 3) := by decide +kernel
theorem dX12_piece_5 : decode cX12_piece 5 = .ok (.aload_n 0, 1) := by decide +kernel
theorem dX12_piece_6 : decode cX12_piece 6 = .ok (.iload_n 1, 1) := by decide +kernel
theorem dX12_piece_7 : decode cX12_piece 7 = .ok (.invokevirtual 362, 3) := by decide +kernel
theorem dX12_piece_10 : decode cX12_piece 10 = .ok (.ifCond .eq 16, 3) := by decide +kernel
theorem dX12_piece_26 : decode cX12_piece 26 = .ok (.iconst (-1), 1) := by decide +kernel
theorem dX12_piece_27 : decode cX12_piece 27 = .ok (.ireturn, 1) := by decide +kernel
set_option maxRecDepth 20000 in
theorem ggX12_grade_X12_isSkein : GoodIn wsX12_grade wsX12_isSkein := goodIn_r _ [21, 22, 23, 24, 20, 25, 62, 63, 64, 65, 66, 67, 68, 69, 70, 71, 72, 73, 74, 75, 76, 77, 78, 79, 80, 81, 82, 83, 84, 85, 86, 87, 88, 89, 90, 91, 92, 93, 94, 95, 96, 97, 98, 99, 100, 101, 102, 103, 104, 105, 106, 107, 108, 109, 110, 111, 112, 113, 114, 115, 116, 117, 118, 119, 120, 121, 122, 123, 124, 125, 126, 127] (by decide +kernel) (by decide +kernel)
set_option maxRecDepth 20000 in
theorem gX12_grade_X12_isSkein : GoodIn wsX12_grade (wsV RX12 362 RX12 yX12_isSkein wsX12_isSkein) := goodIn_app (goodIn_of _ (by decide +kernel)) ggX12_grade_X12_isSkein
theorem dX12_grade_0 : decode cX12_grade 0 = .ok (.aload_n 0, 1) := by decide +kernel
theorem dX12_grade_1 : decode cX12_grade 1 = .ok (.iconst 0, 1) := by decide +kernel
theorem dX12_grade_2 : decode cX12_grade 2 = .ok (.putfield 161, 3) := by decide +kernel
theorem dX12_grade_5 : decode cX12_grade 5 = .ok (.aload_n 0, 1) := by decide +kernel
theorem dX12_grade_6 : decode cX12_grade 6 = .ok (.iload_n 1, 1) := by decide +kernel
theorem dX12_grade_7 : decode cX12_grade 7 = .ok (.invokevirtual 362, 3) := by decide +kernel
theorem dX12_grade_10 : decode cX12_grade 10 = .ok (.ifCond .eq 21, 3) := by decide +kernel
theorem dX12_grade_31 : decode cX12_grade 31 = .ok (.iconst (-1), 1) := by decide +kernel
theorem dX12_grade_32 : decode cX12_grade 32 = .ok (.ireturn, 1) := by decide +kernel
theorem dX12_drawn_0 : decode cX12_drawn 0 = .ok (.aload_n 0, 1) := by decide +kernel
theorem dX12_drawn_1 : decode cX12_drawn 1 = .ok (.iconst 0, 1) := by decide +kernel
theorem dX12_drawn_2 : decode cX12_drawn 2 = .ok (.putfield 161, 3) := by decide +kernel
theorem dX12_drawn_5 : decode cX12_drawn 5 = .ok (.aload_n 0, 1) := by decide +kernel
theorem dX12_drawn_6 : decode cX12_drawn 6 = .ok (.getfield 388, 3) := by decide +kernel
theorem dX12_drawn_9 : decode cX12_drawn 9 = .ok (.ifCond .eq 17, 3) := by decide +kernel
theorem dX12_drawn_26 : decode cX12_drawn 26 = .ok (.iconst (-1), 1) := by decide +kernel
theorem dX12_drawn_27 : decode cX12_drawn 27 = .ok (.ireturn, 1) := by decide +kernel
set_option maxRecDepth 20000 in
theorem ggX12_isWord_X12_within : GoodIn wsX12_isWord wsX12_within := goodIn_r _ [7] (by decide +kernel) (by decide +kernel)
set_option maxRecDepth 20000 in
theorem gX12_isWord_X12_within : GoodIn wsX12_isWord (va_wsS RX12 168 yX12_within wsX12_within) := goodIn_app (goodIn_of _ (by decide +kernel)) ggX12_isWord_X12_within
theorem dX12_isWord_0 : decode cX12_isWord 0 = .ok (.iload_n 1, 1) := by decide +kernel
theorem dX12_isWord_1 : decode cX12_isWord 1 = .ok (.iconst 0, 1) := by decide +kernel
theorem dX12_isWord_2 : decode cX12_isWord 2 = .ok (.bipush 15, 2) := by decide +kernel
theorem dX12_isWord_4 : decode cX12_isWord 4 = .ok (.invokestatic 168, 3) := by decide +kernel
theorem dX12_isWord_7 : decode cX12_isWord 7 = .ok (.ifCond .eq 35, 3) := by decide +kernel
theorem dX12_isWord_10 : decode cX12_isWord 10 = .ok (.aload_n 0, 1) := by decide +kernel
theorem dX12_isWord_11 : decode cX12_isWord 11 = .ok (.getfield 125, 3) := by decide +kernel
theorem dX12_isWord_14 : decode cX12_isWord 14 = .ok (.iload_n 1, 1) := by decide +kernel
theorem dX12_isWord_15 : decode cX12_isWord 15 = .ok (.baload, 1) := by decide +kernel
theorem dX12_isWord_16 : decode cX12_isWord 16 = .ok (.ifCond .eq 26, 3) := by decide +kernel
theorem dX12_isWord_42 : decode cX12_isWord 42 = .ok (.iconst 0, 1) := by decide +kernel
theorem dX12_isWord_43 : decode cX12_isWord 43 = .ok (.ireturn, 1) := by decide +kernel
set_option maxRecDepth 20000 in
theorem ggX12_price_X12_within : GoodIn wsX12_price wsX12_within := goodIn_r _ [6] (by decide +kernel) (by decide +kernel)
set_option maxRecDepth 20000 in
theorem gX12_price_X12_within : GoodIn wsX12_price (va_wsS RX12 168 yX12_within wsX12_within) := goodIn_app (goodIn_of _ (by decide +kernel)) ggX12_price_X12_within
theorem dX12_price_0 : decode cX12_price 0 = .ok (.aload_n 0, 1) := by decide +kernel
theorem dX12_price_1 : decode cX12_price 1 = .ok (.iconst 0, 1) := by decide +kernel
theorem dX12_price_2 : decode cX12_price 2 = .ok (.putfield 161, 3) := by decide +kernel
theorem dX12_price_5 : decode cX12_price 5 = .ok (.iload_n 1, 1) := by decide +kernel
theorem dX12_price_6 : decode cX12_price 6 = .ok (.iconst 0, 1) := by decide +kernel
theorem dX12_price_7 : decode cX12_price 7 = .ok (.iconst 3, 1) := by decide +kernel
theorem dX12_price_8 : decode cX12_price 8 = .ok (.invokestatic 168, 3) := by decide +kernel
theorem dX12_price_11 : decode cX12_price 11 = .ok (.ifCond .eq 14, 3) := by decide +kernel
theorem dX12_price_14 : decode cX12_price 14 = .ok (.iload_n 2, 1) := by decide +kernel
theorem dX12_price_15 : decode cX12_price 15 = .ok (.iconst 0, 1) := by decide +kernel
theorem dX12_price_16 : decode cX12_price 16 = .ok (.sipush 1000, 3) := by decide +kernel
theorem dX12_price_19 : decode cX12_price 19 = .ok (.invokestatic 168, 3) := by decide +kernel
theorem dX12_price_22 : decode cX12_price 22 = .ok (.ifCond .ne 5, 3) := by decide +kernel
theorem dX12_price_25 : decode cX12_price 25 = .ok (.iconst 0, 1) := by decide +kernel
theorem dX12_price_26 : decode cX12_price 26 = .ok (.ireturn, 1) := by decide +kernel
theorem dX12_price_27 : decode cX12_price 27 = .ok (.aload_n 0, 1) := by decide +kernel
theorem dX12_price_28 : decode cX12_price 28 = .ok (.getfield 119, 3) := by decide +kernel
theorem dX12_price_31 : decode cX12_price 31 = .ok (.iload_n 1, 1) := by decide +kernel
theorem dX12_price_32 : decode cX12_price 32 = .ok (.iload_n 2, 1) := by decide +kernel
theorem dX12_price_33 : decode cX12_price 33 = .ok (.iastore, 1) := by decide +kernel
theorem dX12_price_34 : decode cX12_price 34 = .ok (.iconst 1, 1) := by decide +kernel
theorem dX12_price_35 : decode cX12_price 35 = .ok (.ireturn, 1) := by decide +kernel
set_option maxRecDepth 20000 in
theorem ggX12_mixed_X12_isSkein : GoodIn wsX12_mixed wsX12_isSkein := goodIn_r _ [7, 8, 9, 10, 6, 11, 12, 13, 14, 15, 16, 17, 18, 19, 20, 21, 22, 23, 24, 25, 26, 27, 28, 29, 30, 31, 32, 33, 34, 35, 36, 37, 38, 39, 40, 41, 42, 43, 44, 45, 46, 47, 48, 49, 50, 51, 52, 53, 54, 55, 56, 57, 58, 59, 60, 61, 62, 63, 64, 65, 66, 67, 68, 69, 70, 71, 72, 73, 74, 75, 76, 77] (by decide +kernel) (by decide +kernel)
set_option maxRecDepth 20000 in
theorem gX12_mixed_X12_isSkein : GoodIn wsX12_mixed (wsV RX12 362 RX12 yX12_isSkein wsX12_isSkein) := goodIn_app (goodIn_of _ (by decide +kernel)) ggX12_mixed_X12_isSkein
theorem dX12_mixed_0 : decode cX12_mixed 0 = .ok (.aload_n 0, 1) := by decide +kernel
theorem dX12_mixed_1 : decode cX12_mixed 1 = .ok (.iconst 0, 1) := by decide +kernel
theorem dX12_mixed_2 : decode cX12_mixed 2 = .ok (.putfield 161, 3) := by decide +kernel
theorem dX12_mixed_5 : decode cX12_mixed 5 = .ok (.aload_n 0, 1) := by decide +kernel
theorem dX12_mixed_6 : decode cX12_mixed 6 = .ok (.iload_n 1, 1) := by decide +kernel
theorem dX12_mixed_7 : decode cX12_mixed 7 = .ok (.invokevirtual 362, 3) := by decide +kernel
theorem dX12_mixed_10 : decode cX12_mixed 10 = .ok (.ifCond .eq 16, 3) := by decide +kernel
theorem dX12_mixed_26 : decode cX12_mixed 26 = .ok (.iconst 0, 1) := by decide +kernel
theorem dX12_mixed_27 : decode cX12_mixed 27 = .ok (.ireturn, 1) := by decide +kernel
theorem dX12_day_0 : decode cX12_day 0 = .ok (.aload_n 0, 1) := by decide +kernel
theorem dX12_day_1 : decode cX12_day 1 = .ok (.iconst 0, 1) := by decide +kernel
theorem dX12_day_2 : decode cX12_day 2 = .ok (.putfield 161, 3) := by decide +kernel
theorem dX12_day_5 : decode cX12_day 5 = .ok (.aload_n 0, 1) := by decide +kernel
theorem dX12_day_6 : decode cX12_day 6 = .ok (.dup, 1) := by decide +kernel
theorem dX12_day_7 : decode cX12_day 7 = .ok (.getfield 302, 3) := by decide +kernel
theorem dX12_day_10 : decode cX12_day 10 = .ok (.iconst 1, 1) := by decide +kernel
theorem dX12_day_11 : decode cX12_day 11 = .ok (.iadd, 1) := by decide +kernel
theorem dX12_day_12 : decode cX12_day 12 = .ok (.putfield 302, 3) := by decide +kernel
theorem dX12_day_15 : decode cX12_day 15 = .ok (.aload_n 0, 1) := by decide +kernel
theorem dX12_day_16 : decode cX12_day 16 = .ok (.getfield 302, 3) := by decide +kernel
theorem dX12_day_19 : decode cX12_day 19 = .ok (.ireturn, 1) := by decide +kernel
set_option maxRecDepth 20000 in
theorem ggX12_fault_X12_isSkein : GoodIn wsX12_fault wsX12_isSkein := goodIn_r _ [11, 12, 13, 14, 10, 15, 16, 17, 18, 19, 20, 21, 22, 23, 24, 25, 26, 27, 28, 29, 30, 31, 32, 33, 34, 35, 36, 37, 38, 39, 40, 41, 42, 43, 44, 45, 46, 47, 48, 49, 50, 51, 52, 53, 54, 55, 56, 57, 58, 59, 60, 61, 62, 63, 64, 65, 66, 67, 68, 69, 70, 71, 72, 73, 74, 75, 76, 77, 78, 79, 80, 81] (by decide +kernel) (by decide +kernel)
set_option maxRecDepth 20000 in
theorem gX12_fault_X12_isSkein : GoodIn wsX12_fault (wsV RX12 362 RX12 yX12_isSkein wsX12_isSkein) := goodIn_app (goodIn_of _ (by decide +kernel)) ggX12_fault_X12_isSkein
theorem dX12_fault_0 : decode cX12_fault 0 = .ok (.aload_n 0, 1) := by decide +kernel
theorem dX12_fault_1 : decode cX12_fault 1 = .ok (.iconst 0, 1) := by decide +kernel
theorem dX12_fault_2 : decode cX12_fault 2 = .ok (.putfield 161, 3) := by decide +kernel
theorem dX12_fault_5 : decode cX12_fault 5 = .ok (.aload_n 0, 1) := by decide +kernel
theorem dX12_fault_6 : decode cX12_fault 6 = .ok (.iload_n 1, 1) := by decide +kernel
theorem dX12_fault_7 : decode cX12_fault 7 = .ok (.invokevirtual 362, 3) := by decide +kernel
theorem dX12_fault_10 : decode cX12_fault 10 = .ok (.ifCond .eq 23, 3) := by decide +kernel
theorem dX12_fault_33 : decode cX12_fault 33 = .ok (.iconst 0, 1) := by decide +kernel
theorem dX12_fault_34 : decode cX12_fault 34 = .ok (.ireturn, 1) := by decide +kernel
set_option maxRecDepth 20000 in
theorem ggX12_pay_X12_isPot : GoodIn wsX12_pay wsX12_isPot := goodIn_r _ [14, 15, 16, 17, 13, 18, 67, 68, 69, 70, 71, 72, 73, 74, 75, 76, 77, 78, 79, 80, 81, 82, 83, 84, 85, 86, 87, 88, 89, 90, 91, 92, 93, 94, 95, 96, 97, 98, 99, 100, 101, 102, 103, 104, 105, 106, 107, 108, 109, 110, 111, 112, 113, 114, 115, 116, 117, 118, 119, 120, 121, 122, 123, 124, 125, 126, 127, 128, 129, 130, 131, 132] (by decide +kernel) (by decide +kernel)
set_option maxRecDepth 20000 in
theorem gX12_pay_X12_isPot : GoodIn wsX12_pay (wsV RX12 200 RX12 yX12_isPot wsX12_isPot) := goodIn_app (goodIn_of _ (by decide +kernel)) ggX12_pay_X12_isPot
theorem dX12_pay_0 : decode cX12_pay 0 = .ok (.aload_n 0, 1) := by decide +kernel
theorem dX12_pay_1 : decode cX12_pay 1 = .ok (.iconst 0, 1) := by decide +kernel
theorem dX12_pay_2 : decode cX12_pay 2 = .ok (.putfield 161, 3) := by decide +kernel
theorem dX12_pay_5 : decode cX12_pay 5 = .ok (.aload_n 0, 1) := by decide +kernel
theorem dX12_pay_6 : decode cX12_pay 6 = .ok (.iload_n 1, 1) := by decide +kernel
theorem dX12_pay_7 : decode cX12_pay 7 = .ok (.invokevirtual 200, 3) := by decide +kernel
theorem dX12_pay_10 : decode cX12_pay 10 = .ok (.ifCond .eq 27, 3) := by decide +kernel
theorem dX12_pay_37 : decode cX12_pay 37 = .ok (.iconst 0, 1) := by decide +kernel
theorem dX12_pay_38 : decode cX12_pay 38 = .ok (.ireturn, 1) := by decide +kernel
theorem inn_X12_about_12 : ∀ w ∈ u_ws RX12 TX12 66, w ∈ wsX12_about := fun w h => List.mem_cons_of_mem _ (List.mem_append_right _ h)
theorem inn_X12_cocoon_12 : ∀ w ∈ u_ws RX12 TX12 66, w ∈ wsX12_cocoon := fun w h => List.mem_cons_of_mem _ (List.mem_append_right _ h)
theorem inn_X12_cut_12 : ∀ w ∈ u_ws RX12 TX12 66, w ∈ wsX12_cut := fun w h => List.mem_cons_of_mem _ (List.mem_append_right _ h)
theorem inn_X12_day_12 : ∀ w ∈ u_ws RX12 TX12 66, w ∈ wsX12_day := fun w h => List.mem_cons_of_mem _ (List.mem_append_right _ h)
theorem inn_X12_drawn_12 : ∀ w ∈ u_ws RX12 TX12 66, w ∈ wsX12_drawn := fun w h => List.mem_cons_of_mem _ (List.mem_append_right _ h)
theorem inn_X12_end_12 : ∀ w ∈ u_ws RX12 TX12 66, w ∈ wsX12_end := fun w h => List.mem_cons_of_mem _ (List.mem_append_right _ h)
theorem inn_X12_fault_12 : ∀ w ∈ u_ws RX12 TX12 66, w ∈ wsX12_fault := fun w h => List.mem_cons_of_mem _ (List.mem_append_right _ h)
theorem inn_X12_fill_12 : ∀ w ∈ u_ws RX12 TX12 66, w ∈ wsX12_fill := fun w h => List.mem_cons_of_mem _ (List.mem_append_right _ h)
theorem inn_X12_fineness_12 : ∀ w ∈ u_ws RX12 TX12 66, w ∈ wsX12_fineness := fun w h => List.mem_cons_of_mem _ (List.mem_append_right _ h)
theorem inn_X12_grade_12 : ∀ w ∈ u_ws RX12 TX12 66, w ∈ wsX12_grade := fun w h => List.mem_cons_of_mem _ (List.mem_append_right _ h)
theorem inn_X12_in_12 : ∀ w ∈ u_ws RX12 TX12 66, w ∈ wsX12_in := fun w h => List.mem_cons_of_mem _ (List.mem_append_right _ h)
theorem inn_X12_isCocoon_12 : ∀ w ∈ u_ws RX12 TX12 66, w ∈ wsX12_isCocoon := fun w h => List.mem_cons_of_mem _ (List.mem_append_right _ h)
theorem inn_X12_isPot_12 : ∀ w ∈ u_ws RX12 TX12 66, w ∈ wsX12_isPot := fun w h => List.mem_cons_of_mem _ (List.mem_append_right _ h)
theorem inn_X12_isSkein_12 : ∀ w ∈ u_ws RX12 TX12 66, w ∈ wsX12_isSkein := fun w h => List.mem_cons_of_mem _ (List.mem_append_right _ h)
theorem inn_X12_isWord_12 : ∀ w ∈ u_ws RX12 TX12 66, w ∈ wsX12_isWord := fun w h => List.mem_cons_of_mem _ (List.mem_append_right _ h)
theorem inn_X12_metre_12 : ∀ w ∈ u_ws RX12 TX12 66, w ∈ wsX12_metre := fun w h => List.mem_cons_of_mem _ (List.mem_append_right _ h)
theorem inn_X12_mixed_12 : ∀ w ∈ u_ws RX12 TX12 66, w ∈ wsX12_mixed := fun w h => List.mem_cons_of_mem _ (List.mem_append_right _ h)
theorem inn_X12_pay_12 : ∀ w ∈ u_ws RX12 TX12 66, w ∈ wsX12_pay := fun w h => List.mem_cons_of_mem _ (List.mem_append_right _ h)
theorem inn_X12_piece_12 : ∀ w ∈ u_ws RX12 TX12 66, w ∈ wsX12_piece := fun w h => List.mem_cons_of_mem _ (List.mem_append_right _ h)
theorem inn_X12_place_12 : ∀ w ∈ u_ws RX12 TX12 66, w ∈ wsX12_place := fun w h => List.mem_cons_of_mem _ (List.mem_append_right _ h)
theorem inn_X12_price_12 : ∀ w ∈ u_ws RX12 TX12 66, w ∈ wsX12_price := fun w h => List.mem_cons_of_mem _ (List.mem_append_right _ h)
theorem inn_X12_program_12 : ∀ w ∈ u_ws RX12 TX12 66, w ∈ wsX12_program := fun w h => List.mem_cons_of_mem _ (List.mem_append_right _ h)
theorem inn_X12_run_12 : ∀ w ∈ u_ws RX12 TX12 66, w ∈ wsX12_run := fun w h => List.mem_cons_of_mem _ (List.mem_append_right _ h)
theorem inn_X12_skein_12 : ∀ w ∈ u_ws RX12 TX12 66, w ∈ wsX12_skein := fun w h => List.mem_cons_of_mem _ (List.mem_append_right _ h)
theorem inn_X12_target_12 : ∀ w ∈ u_ws RX12 TX12 66, w ∈ wsX12_target := fun w h => List.mem_cons_of_mem _ (List.mem_append_right _ h)
theorem inn_X12_test_12 : ∀ w ∈ u_ws RX12 TX12 66, w ∈ wsX12_test := fun w h => List.mem_cons_of_mem _ (List.mem_append_right _ h)
