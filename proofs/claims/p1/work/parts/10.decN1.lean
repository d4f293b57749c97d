theorem dX8_skeinAt_0 : decode cX8_skeinAt 0 = .ok (.iload_n 1, 1) := by decide +kernel
theorem dX8_skeinAt_1 : decode cX8_skeinAt 1 = .ok (.ifCond .lt 11, 3) := by decide +kernel
theorem dX8_skeinAt_4 : decode cX8_skeinAt 4 = .ok (.iload_n 1, 1) := by decide +kernel
theorem dX8_skeinAt_5 : decode cX8_skeinAt 5 = .ok (.aload_n 0, 1) := by decide +kernel
theorem dX8_skeinAt_6 : decode cX8_skeinAt 6 = .ok (.getfield 37, 3) := by decide +kernel
theorem dX8_skeinAt_9 : decode cX8_skeinAt 9 = .ok (.if_icmp .lt 7, 3) := by decide +kernel
theorem dX8_skeinAt_12 : decode cX8_skeinAt 12 = .ok (.aconst_null, 1) := by decide +kernel
theorem dX8_skeinAt_13 : decode cX8_skeinAt 13 = .ok (.goto 9, 3) := by decide +kernel
theorem dX8_skeinAt_22 : decode cX8_skeinAt 22 = .ok (.areturn, 1) := by decide +kernel
set_option maxRecDepth 20000 in
theorem ggX11_cocoon_X11_cocoonAt : GoodIn wsX11_cocoon wsX11_cocoonAt := goodIn_r _ [9, 10, 11, 12, 40, 41, 42, 43, 44, 45, 46, 47, 48, 49, 50, 51] (by decide +kernel) (by decide +kernel)
set_option maxRecDepth 20000 in
theorem gX11_cocoon_X11_cocoonAt : GoodIn wsX11_cocoon (wsV RX11 74 RX11 yX11_cocoonAt wsX11_cocoonAt) := goodIn_app (goodIn_of _ (by decide +kernel)) ggX11_cocoon_X11_cocoonAt
theorem dX11_cocoon_0 : decode cX11_cocoon 0 = .ok (.aload_n 0, 1) := by decide +kernel
theorem dX11_cocoon_1 : decode cX11_cocoon 1 = .ok (.iload_n 1, 1) := by decide +kernel
theorem dX11_cocoon_2 : decode cX11_cocoon 2 = .ok (.iload_n 2, 1) := by decide +kernel
theorem dX11_cocoon_3 : decode cX11_cocoon 3 = .ok (.invokevirtual 74, 3) := by decide +kernel
theorem dX11_cocoon_6 : decode cX11_cocoon 6 = .ok (.astore 4, 2) := by decide +kernel
theorem dX11_cocoon_8 : decode cX11_cocoon 8 = .ok (.aload 4, 2) := by decide +kernel
theorem dX11_cocoon_10 : decode cX11_cocoon 10 = .ok (.ifnonnull 5, 3) := by decide +kernel
theorem dX11_cocoon_13 : decode cX11_cocoon 13 = .ok (.iconst (-1), 1) := by decide +kernel
theorem dX11_cocoon_14 : decode cX11_cocoon 14 = .ok (.ireturn, 1) := by decide +kernel
theorem dX11_test_0 : decode cX11_test 0 = .ok (.iload_n 1, 1) := by decide +kernel
theorem dX11_test_1 : decode cX11_test 1 = .ok (.ifCond .lt 15, 3) := by decide +kernel
theorem dX11_test_4 : decode cX11_test 4 = .ok (.iload_n 1, 1) := by decide +kernel
theorem dX11_test_5 : decode cX11_test 5 = .ok (.aload_n 0, 1) := by decide +kernel
theorem dX11_test_6 : decode cX11_test 6 = .ok (.getfield 63, 3) := by decide +kernel
theorem dX11_test_9 : decode cX11_test 9 = .ok (.if_icmp .ge 7, 3) := by decide +kernel
theorem dX11_test_16 : decode cX11_test 16 = .ok (.iconst (-1), 1) := by decide +kernel
theorem dX11_test_17 : decode cX11_test 17 = .ok (.ireturn, 1) := by decide +kernel
set_option maxRecDepth 20000 in
theorem ggX11_target_X11_potAt : GoodIn wsX11_target wsX11_potAt := goodIn_r _ [6, 7, 8, 27, 28, 29, 30, 31, 32, 33, 34, 35, 36, 37, 38] (by decide +kernel) (by decide +kernel)
set_option maxRecDepth 20000 in
theorem gX11_target_X11_potAt : GoodIn wsX11_target (wsV RX11 134 RX11 yX11_potAt wsX11_potAt) := goodIn_app (goodIn_of _ (by decide +kernel)) ggX11_target_X11_potAt
theorem dX11_target_0 : decode cX11_target 0 = .ok (.aload_n 0, 1) := by decide +kernel
theorem dX11_target_1 : decode cX11_target 1 = .ok (.iload_n 1, 1) := by decide +kernel
theorem dX11_target_2 : decode cX11_target 2 = .ok (.invokevirtual 134, 3) := by decide +kernel
theorem dX11_target_5 : decode cX11_target 5 = .ok (.astore_n 3, 1) := by decide +kernel
theorem dX11_target_6 : decode cX11_target 6 = .ok (.aload_n 3, 1) := by decide +kernel
theorem dX11_target_7 : decode cX11_target 7 = .ok (.ifnull 10, 3) := by decide +kernel
theorem dX11_target_17 : decode cX11_target 17 = .ok (.iconst 0, 1) := by decide +kernel
theorem dX11_target_18 : decode cX11_target 18 = .ok (.ireturn, 1) := by decide +kernel
set_option maxRecDepth 20000 in
theorem ggX11_fill_X11_potAt : GoodIn wsX11_fill wsX11_potAt := goodIn_r _ [6, 7, 8, 50, 51, 52, 53, 54, 55, 56, 57, 58, 59, 60, 61] (by decide +kernel) (by decide +kernel)
set_option maxRecDepth 20000 in
theorem gX11_fill_X11_potAt : GoodIn wsX11_fill (wsV RX11 134 RX11 yX11_potAt wsX11_potAt) := goodIn_app (goodIn_of _ (by decide +kernel)) ggX11_fill_X11_potAt
theorem dX11_fill_0 : decode cX11_fill 0 = .ok (.aload_n 0, 1) := by decide +kernel
theorem dX11_fill_1 : decode cX11_fill 1 = .ok (.iload_n 1, 1) := by decide +kernel
theorem dX11_fill_2 : decode cX11_fill 2 = .ok (.invokevirtual 134, 3) := by decide +kernel
theorem dX11_fill_5 : decode cX11_fill 5 = .ok (.astore 5, 2) := by decide +kernel
theorem dX11_fill_7 : decode cX11_fill 7 = .ok (.aload 5, 2) := by decide +kernel
theorem dX11_fill_9 : decode cX11_fill 9 = .ok (.ifnull 24, 3) := by decide +kernel
theorem dX11_fill_33 : decode cX11_fill 33 = .ok (.iconst 0, 1) := by decide +kernel
theorem dX11_fill_34 : decode cX11_fill 34 = .ok (.ireturn, 1) := by decide +kernel
theorem dX11_place_0 : decode cX11_place 0 = .ok (.aload_n 0, 1) := by decide +kernel
theorem dX11_place_1 : decode cX11_place 1 = .ok (.getfield 28, 3) := by decide +kernel
theorem dX11_place_4 : decode cX11_place 4 = .ok (.getfield 166, 3) := by decide +kernel
theorem dX11_place_7 : decode cX11_place 7 = .ok (.ireturn, 1) := by decide +kernel
set_option maxRecDepth 20000 in
theorem ggX11_run_X11_potAt : GoodIn wsX11_run wsX11_potAt := goodIn_r _ [6, 7, 8, 267, 268, 269, 270, 271, 272, 273, 274, 275, 276, 277, 278] (by decide +kernel) (by decide +kernel)
set_option maxRecDepth 20000 in
theorem gX11_run_X11_potAt : GoodIn wsX11_run (wsV RX11 134 RX11 yX11_potAt wsX11_potAt) := goodIn_app (goodIn_of _ (by decide +kernel)) ggX11_run_X11_potAt
theorem dX11_run_0 : decode cX11_run 0 = .ok (.aload_n 0, 1) := by decide +kernel
theorem dX11_run_1 : decode cX11_run 1 = .ok (.iload_n 1, 1) := by decide +kernel
theorem dX11_run_2 : decode cX11_run 2 = .ok (.invokevirtual 134, 3) := by decide +kernel
theorem dX11_run_5 : decode cX11_run 5 = .ok (.astore_n 3, 1) := by decide +kernel
theorem dX11_run_6 : decode cX11_run 6 = .ok (.aload_n 3, 1) := by decide +kernel
theorem dX11_run_7 : decode cX11_run 7 = .ok (.ifnull 14, 3) := by decide +kernel
theorem dX11_run_21 : decode cX11_run 21 = .ok (.iconst (-1), 1) := by decide +kernel
theorem dX11_run_22 : decode cX11_run 22 = .ok (.ireturn, 1) := by decide +kernel
set_option maxRecDepth 20000 in
theorem ggX11_about_X11_potAt : GoodIn wsX11_about wsX11_potAt := goodIn_r _ [18, 19, 20, 76, 77, 78, 79, 80, 81, 82, 83, 84, 85, 86, 87] (by decide +kernel) (by decide +kernel)
set_option maxRecDepth 20000 in
theorem gX11_about_X11_potAt : GoodIn wsX11_about (wsV RX11 134 RX11 yX11_potAt wsX11_potAt) := goodIn_app (goodIn_of _ (by decide +kernel)) ggX11_about_X11_potAt
theorem dX11_about_0 : decode cX11_about 0 = .ok (.aload_n 0, 1) := by decide +kernel
theorem dX11_about_1 : decode cX11_about 1 = .ok (.iload_n 1, 1) := by decide +kernel
theorem dX11_about_2 : decode cX11_about 2 = .ok (.invokevirtual 134, 3) := by decide +kernel
theorem dX11_about_5 : decode cX11_about 5 = .ok (.astore_n 3, 1) := by decide +kernel
theorem dX11_about_6 : decode cX11_about 6 = .ok (.aload_n 3, 1) := by decide +kernel
theorem dX11_about_7 : decode cX11_about 7 = .ok (.ifnonnull 5, 3) := by decide +kernel
theorem dX11_about_10 : decode cX11_about 10 = .ok (.iconst (-1), 1) := by decide +kernel
theorem dX11_about_11 : decode cX11_about 11 = .ok (.ireturn, 1) := by decide +kernel
set_option maxRecDepth 20000 in
theorem ggX11_cut_X11_potAt : GoodIn wsX11_cut wsX11_potAt := goodIn_r _ [6, 7, 8, 95, 96, 97, 98, 99, 100, 101, 102, 103, 104, 105, 106] (by decide +kernel) (by decide +kernel)
set_option maxRecDepth 20000 in
theorem gX11_cut_X11_potAt : GoodIn wsX11_cut (wsV RX11 134 RX11 yX11_potAt wsX11_potAt) := goodIn_app (goodIn_of _ (by decide +kernel)) ggX11_cut_X11_potAt
theorem dX11_cut_0 : decode cX11_cut 0 = .ok (.aload_n 0, 1) := by decide +kernel
theorem dX11_cut_1 : decode cX11_cut 1 = .ok (.iload_n 1, 1) := by decide +kernel
theorem dX11_cut_2 : decode cX11_cut 2 = .ok (.invokevirtual 134, 3) := by decide +kernel
theorem dX11_cut_5 : decode cX11_cut 5 = .ok (.astore_n 2, 1) := by decide +kernel
theorem dX11_cut_6 : decode cX11_cut 6 = .ok (.aload_n 2, 1) := by decide +kernel
theorem dX11_cut_7 : decode cX11_cut 7 = .ok (.ifnonnull 7, 3) := by decide +kernel
theorem dX11_cut_10 : decode cX11_cut 10 = .ok (.iconst (-1), 1) := by decide +kernel
theorem dX11_cut_11 : decode cX11_cut 11 = .ok (.goto 11, 3) := by decide +kernel
theorem dX11_cut_22 : decode cX11_cut 22 = .ok (.ireturn, 1) := by decide +kernel
set_option maxRecDepth 20000 in
theorem ggX11_skein_X8_skeinAt : GoodIn wsX11_skein wsX8_skeinAt := goodIn_r _ [18, 19, 20, 63, 64, 65, 66, 67, 68, 69, 70, 71, 72, 73, 74, 75] (by decide +kernel) (by decide +kernel)
set_option maxRecDepth 20000 in
theorem gX11_skein_X8_skeinAt : GoodIn wsX11_skein (wsV RX11 231 RX8 yX8_skeinAt wsX8_skeinAt) := goodIn_app (goodIn_of _ (by decide +kernel)) ggX11_skein_X8_skeinAt
theorem dX11_skein_0 : decode cX11_skein 0 = .ok (.aload_n 0, 1) := by decide +kernel
theorem dX11_skein_1 : decode cX11_skein 1 = .ok (.getfield 42, 3) := by decide +kernel
theorem dX11_skein_4 : decode cX11_skein 4 = .ok (.iload_n 1, 1) := by decide +kernel
theorem dX11_skein_5 : decode cX11_skein 5 = .ok (.invokevirtual 231, 3) := by decide +kernel
theorem dX11_skein_8 : decode cX11_skein 8 = .ok (.astore_n 3, 1) := by decide +kernel
theorem dX11_skein_9 : decode cX11_skein 9 = .ok (.aload_n 3, 1) := by decide +kernel
theorem dX11_skein_10 : decode cX11_skein 10 = .ok (.ifnonnull 5, 3) := by decide +kernel
theorem dX11_skein_13 : decode cX11_skein 13 = .ok (.iconst (-1), 1) := by decide +kernel
theorem dX11_skein_14 : decode cX11_skein 14 = .ok (.ireturn, 1) := by decide +kernel
set_option maxRecDepth 20000 in
theorem ggX11_metre_X8_skeinAt : GoodIn wsX11_metre wsX8_skeinAt := goodIn_r _ [10, 11, 12, 44, 45, 46, 47, 48, 49, 50, 51, 52, 53, 54, 55, 56] (by decide +kernel) (by decide +kernel)
set_option maxRecDepth 20000 in
theorem gX11_metre_X8_skeinAt : GoodIn wsX11_metre (wsV RX11 231 RX8 yX8_skeinAt wsX8_skeinAt) := goodIn_app (goodIn_of _ (by decide +kernel)) ggX11_metre_X8_skeinAt
theorem dX11_metre_0 : decode cX11_metre 0 = .ok (.aload_n 0, 1) := by decide +kernel
theorem dX11_metre_1 : decode cX11_metre 1 = .ok (.getfield 42, 3) := by decide +kernel
theorem dX11_metre_4 : decode cX11_metre 4 = .ok (.iload_n 1, 1) := by decide +kernel
theorem dX11_metre_5 : decode cX11_metre 5 = .ok (.invokevirtual 231, 3) := by decide +kernel
theorem dX11_metre_8 : decode cX11_metre 8 = .ok (.astore 4, 2) := by decide +kernel
theorem dX11_metre_10 : decode cX11_metre 10 = .ok (.aload 4, 2) := by decide +kernel
theorem dX11_metre_12 : decode cX11_metre 12 = .ok (.ifnull 19, 3) := by decide +kernel
theorem dX11_metre_31 : decode cX11_metre 31 = .ok (.iconst (-1), 1) := by decide +kernel
theorem dX11_metre_32 : decode cX11_metre 32 = .ok (.ireturn, 1) := by decide +kernel
set_option maxRecDepth 20000 in
theorem ggX11_piece_X8_skeinAt : GoodIn wsX11_piece wsX8_skeinAt := goodIn_r _ [12, 13, 14, 46, 47, 48, 49, 50, 51, 52, 53, 54, 55, 56, 57, 58] (by decide +kernel) (by decide +kernel)
set_option maxRecDepth 20000 in
theorem gX11_piece_X8_skeinAt : GoodIn wsX11_piece (wsV RX11 231 RX8 yX8_skeinAt wsX8_skeinAt) := goodIn_app (goodIn_of _ (by decide +kernel)) ggX11_piece_X8_skeinAt
theorem dX11_piece_0 : decode cX11_piece 0 = .ok (.aload_n 0, 1) := by decide +kernel
theorem dX11_piece_1 : decode cX11_piece 1 = .ok (.getfield 42, 3) := by decide +kernel
theorem dX11_piece_4 : decode cX11_piece 4 = .ok (.iload_n 1, 1) := by decide +kernel
theorem dX11_piece_5 : decode cX11_piece 5 = .ok (.invokevirtual 231, 3) := by decide +kernel
theorem dX11_piece_8 : decode cX11_piece 8 = .ok (.astore 4, 2) := by decide +kernel
theorem dX11_piece_10 : decode cX11_piece 10 = .ok (.aload 4, 2) := by decide +kernel
theorem dX11_piece_12 : decode cX11_piece 12 = .ok (.ifnull 19, 3) := by decide +kernel
theorem dX11_piece_31 : decode cX11_piece 31 = .ok (.iconst (-1), 1) := by decide +kernel
theorem dX11_piece_32 : decode cX11_piece 32 = .ok (.ireturn, 1) := by decide +kernel
set_option maxRecDepth 20000 in
theorem ggX11_grade_X8_skeinAt : GoodIn wsX11_grade wsX8_skeinAt := goodIn_r _ [10, 11, 12, 90, 91, 92, 93, 94, 95, 96, 97, 98, 99, 100, 101, 102] (by decide +kernel) (by decide +kernel)
set_option maxRecDepth 20000 in
theorem gX11_grade_X8_skeinAt : GoodIn wsX11_grade (wsV RX11 231 RX8 yX8_skeinAt wsX8_skeinAt) := goodIn_app (goodIn_of _ (by decide +kernel)) ggX11_grade_X8_skeinAt
theorem dX11_grade_0 : decode cX11_grade 0 = .ok (.aload_n 0, 1) := by decide +kernel
theorem dX11_grade_1 : decode cX11_grade 1 = .ok (.getfield 42, 3) := by decide +kernel
theorem dX11_grade_4 : decode cX11_grade 4 = .ok (.iload_n 1, 1) := by decide +kernel
theorem dX11_grade_5 : decode cX11_grade 5 = .ok (.invokevirtual 231, 3) := by decide +kernel
theorem dX11_grade_8 : decode cX11_grade 8 = .ok (.astore 4, 2) := by decide +kernel
theorem dX11_grade_10 : decode cX11_grade 10 = .ok (.aload 4, 2) := by decide +kernel
theorem dX11_grade_12 : decode cX11_grade 12 = .ok (.ifnull 24, 3) := by decide +kernel
theorem dX11_grade_36 : decode cX11_grade 36 = .ok (.iconst (-1), 1) := by decide +kernel
theorem dX11_grade_37 : decode cX11_grade 37 = .ok (.ireturn, 1) := by decide +kernel
theorem dX11_drawn_0 : decode cX11_drawn 0 = .ok (.aload_n 0, 1) := by decide +kernel
theorem dX11_drawn_1 : decode cX11_drawn 1 = .ok (.getfield 49, 3) := by decide +kernel
theorem dX11_drawn_4 : decode cX11_drawn 4 = .ok (.getfield 294, 3) := by decide +kernel
theorem dX11_drawn_7 : decode cX11_drawn 7 = .ok (.ifCond .eq 7, 3) := by decide +kernel
theorem dX11_drawn_14 : decode cX11_drawn 14 = .ok (.iconst (-1), 1) := by decide +kernel
theorem dX11_drawn_15 : decode cX11_drawn 15 = .ok (.ireturn, 1) := by decide +kernel
set_option maxRecDepth 20000 in
theorem ggX11_mixed_X8_skeinAt : GoodIn wsX11_mixed wsX8_skeinAt := goodIn_r _ [7, 8, 9, 32, 33, 34, 35, 36, 37, 38, 39, 40, 41, 42, 43, 44] (by decide +kernel) (by decide +kernel)
set_option maxRecDepth 20000 in
theorem gX11_mixed_X8_skeinAt : GoodIn wsX11_mixed (wsV RX11 231 RX8 yX8_skeinAt wsX8_skeinAt) := goodIn_app (goodIn_of _ (by decide +kernel)) ggX11_mixed_X8_skeinAt
theorem dX11_mixed_0 : decode cX11_mixed 0 = .ok (.aload_n 0, 1) := by decide +kernel
theorem dX11_mixed_1 : decode cX11_mixed 1 = .ok (.getfield 42, 3) := by decide +kernel
theorem dX11_mixed_4 : decode cX11_mixed 4 = .ok (.iload_n 1, 1) := by decide +kernel
theorem dX11_mixed_5 : decode cX11_mixed 5 = .ok (.invokevirtual 231, 3) := by decide +kernel
theorem dX11_mixed_8 : decode cX11_mixed 8 = .ok (.astore_n 2, 1) := by decide +kernel
theorem dX11_mixed_9 : decode cX11_mixed 9 = .ok (.aload_n 2, 1) := by decide +kernel
theorem dX11_mixed_10 : decode cX11_mixed 10 = .ok (.ifnull 14, 3) := by decide +kernel
theorem dX11_mixed_24 : decode cX11_mixed 24 = .ok (.iconst 0, 1) := by decide +kernel
theorem dX11_mixed_25 : decode cX11_mixed 25 = .ok (.ireturn, 1) := by decide +kernel
theorem dX11_day_0 : decode cX11_day 0 = .ok (.aload_n 0, 1) := by decide +kernel
theorem dX11_day_1 : decode cX11_day 1 = .ok (.getfield 42, 3) := by decide +kernel
theorem dX11_day_4 : decode cX11_day 4 = .ok (.dup, 1) := by decide +kernel
theorem dX11_day_5 : decode cX11_day 5 = .ok (.getfield 349, 3) := by decide +kernel
theorem dX11_day_8 : decode cX11_day 8 = .ok (.iconst 1, 1) := by decide +kernel
theorem dX11_day_9 : decode cX11_day 9 = .ok (.iadd, 1) := by decide +kernel
theorem dX11_day_10 : decode cX11_day 10 = .ok (.putfield 349, 3) := by decide +kernel
theorem dX11_day_13 : decode cX11_day 13 = .ok (.aload_n 0, 1) := by decide +kernel
theorem dX11_day_14 : decode cX11_day 14 = .ok (.getfield 42, 3) := by decide +kernel
theorem dX11_day_17 : decode cX11_day 17 = .ok (.getfield 349, 3) := by decide +kernel
theorem dX11_day_20 : decode cX11_day 20 = .ok (.ireturn, 1) := by decide +kernel
set_option maxRecDepth 20000 in
theorem ggX11_fault_X8_skeinAt : GoodIn wsX11_fault wsX8_skeinAt := goodIn_r _ [6, 7, 8, 34, 35, 36, 37, 38, 39, 40, 41, 42, 43, 44, 45, 46] (by decide +kernel) (by decide +kernel)
set_option maxRecDepth 20000 in
theorem gX11_fault_X8_skeinAt : GoodIn wsX11_fault (wsV RX11 231 RX8 yX8_skeinAt wsX8_skeinAt) := goodIn_app (goodIn_of _ (by decide +kernel)) ggX11_fault_X8_skeinAt
theorem dX11_fault_0 : decode cX11_fault 0 = .ok (.aload_n 0, 1) := by decide +kernel
theorem dX11_fault_1 : decode cX11_fault 1 = .ok (.getfield 42, 3) := by decide +kernel
theorem dX11_fault_4 : decode cX11_fault 4 = .ok (.iload_n 1, 1) := by decide +kernel
theorem dX11_fault_5 : decode cX11_fault 5 = .ok (.invokevirtual 231, 3) := by decide +kernel
theorem dX11_fault_8 : decode cX11_fault 8 = .ok (.ifnull 30, 3) := by decide +kernel
theorem dX11_fault_38 : decode cX11_fault 38 = .ok (.iconst 0, 1) := by decide +kernel
theorem dX11_fault_39 : decode cX11_fault 39 = .ok (.ireturn, 1) := by decide +kernel
set_option maxRecDepth 20000 in
theorem ggX11_pay_X11_potAt : GoodIn wsX11_pay wsX11_potAt := goodIn_r _ [7, 8, 9, 43, 44, 45, 46, 47, 48, 49, 50, 51, 52, 53, 54] (by decide +kernel) (by decide +kernel)
set_option maxRecDepth 20000 in
theorem gX11_pay_X11_potAt : GoodIn wsX11_pay (wsV RX11 134 RX11 yX11_potAt wsX11_potAt) := goodIn_app (goodIn_of _ (by decide +kernel)) ggX11_pay_X11_potAt
theorem dX11_pay_0 : decode cX11_pay 0 = .ok (.aload_n 0, 1) := by decide +kernel
theorem dX11_pay_1 : decode cX11_pay 1 = .ok (.iload_n 1, 1) := by decide +kernel
theorem dX11_pay_2 : decode cX11_pay 2 = .ok (.invokevirtual 134, 3) := by decide +kernel
theorem dX11_pay_5 : decode cX11_pay 5 = .ok (.ifnull 33, 3) := by decide +kernel
theorem dX11_pay_38 : decode cX11_pay 38 = .ok (.iconst 0, 1) := by decide +kernel
theorem dX11_pay_39 : decode cX11_pay 39 = .ok (.ireturn, 1) := by decide +kernel
theorem dX11_isWithin_0 : decode cX11_isWithin 0 = .ok (.iload_n 0, 1) := by decide +kernel
theorem dX11_isWithin_1 : decode cX11_isWithin 1 = .ok (.iload_n 1, 1) := by decide +kernel
theorem dX11_isWithin_2 : decode cX11_isWithin 2 = .ok (.if_icmp .lt 12, 3) := by decide +kernel
theorem dX11_isWithin_5 : decode cX11_isWithin 5 = .ok (.iload_n 0, 1) := by decide +kernel
theorem dX11_isWithin_6 : decode cX11_isWithin 6 = .ok (.iload_n 2, 1) := by decide +kernel
theorem dX11_isWithin_7 : decode cX11_isWithin 7 = .ok (.if_icmp .gt 7, 3) := by decide +kernel
theorem dX11_isWithin_10 : decode cX11_isWithin 10 = .ok (.iconst 1, 1) := by decide +kernel
theorem dX11_isWithin_11 : decode cX11_isWithin 11 = .ok (.goto 4, 3) := by decide +kernel
theorem dX11_isWithin_14 : decode cX11_isWithin 14 = .ok (.iconst 0, 1) := by decide +kernel
theorem dX11_isWithin_15 : decode cX11_isWithin 15 = .ok (.ireturn, 1) := by decide +kernel
set_option maxRecDepth 20000 in
theorem ggX11_isTarget_X11_isWithin : GoodIn wsX11_isTarget wsX11_isWithin := goodIn_r _ [4] (by decide +kernel) (by decide +kernel)
set_option maxRecDepth 20000 in
theorem gX11_isTarget_X11_isWithin : GoodIn wsX11_isTarget (va_wsS RX11 67 yX11_isWithin wsX11_isWithin) := goodIn_app (goodIn_of _ (by decide +kernel)) ggX11_isTarget_X11_isWithin
theorem dX11_isTarget_0 : decode cX11_isTarget 0 = .ok (.iload_n 0, 1) := by decide +kernel
theorem dX11_isTarget_1 : decode cX11_isTarget 1 = .ok (.bipush 10, 2) := by decide +kernel
theorem dX11_isTarget_3 : decode cX11_isTarget 3 = .ok (.sipush 2000, 3) := by decide +kernel
theorem dX11_isTarget_6 : decode cX11_isTarget 6 = .ok (.invokestatic 67, 3) := by decide +kernel
theorem dX11_isTarget_9 : decode cX11_isTarget 9 = .ok (.ireturn, 1) := by decide +kernel
theorem dX11_cocoonAt_0 : decode cX11_cocoonAt 0 = .ok (.iload_n 1, 1) := by decide +kernel
theorem dX11_cocoonAt_1 : decode cX11_cocoonAt 1 = .ok (.ifCond .lt 25, 3) := by decide +kernel
theorem dX11_cocoonAt_4 : decode cX11_cocoonAt 4 = .ok (.iload_n 1, 1) := by decide +kernel
theorem dX11_cocoonAt_5 : decode cX11_cocoonAt 5 = .ok (.aload_n 0, 1) := by decide +kernel
theorem dX11_cocoonAt_6 : decode cX11_cocoonAt 6 = .ok (.getfield 63, 3) := by decide +kernel
theorem dX11_cocoonAt_9 : decode cX11_cocoonAt 9 = .ok (.if_icmp .ge 17, 3) := by decide +kernel
theorem dX11_cocoonAt_26 : decode cX11_cocoonAt 26 = .ok (.aconst_null, 1) := by decide +kernel
theorem dX11_cocoonAt_27 : decode cX11_cocoonAt 27 = .ok (.areturn, 1) := by decide +kernel
theorem dX11_potAt_0 : decode cX11_potAt 0 = .ok (.iload_n 1, 1) := by decide +kernel
theorem dX11_potAt_1 : decode cX11_potAt 1 = .ok (.ifCond .lt 11, 3) := by decide +kernel
theorem dX11_potAt_4 : decode cX11_potAt 4 = .ok (.iload_n 1, 1) := by decide +kernel
theorem dX11_potAt_5 : decode cX11_potAt 5 = .ok (.aload_n 0, 1) := by decide +kernel
theorem dX11_potAt_6 : decode cX11_potAt 6 = .ok (.getfield 124, 3) := by decide +kernel
theorem dX11_potAt_9 : decode cX11_potAt 9 = .ok (.if_icmp .lt 7, 3) := by decide +kernel
theorem dX11_potAt_12 : decode cX11_potAt 12 = .ok (.aconst_null, 1) := by decide +kernel
theorem dX11_potAt_13 : decode cX11_potAt 13 = .ok (.goto 9, 3) := by decide +kernel
theorem dX11_potAt_22 : decode cX11_potAt 22 = .ok (.areturn, 1) := by decide +kernel
theorem dX12_within_0 : decode cX12_within 0 = .ok (.iload_n 0, 1) := by decide +kernel
theorem dX12_within_1 : decode cX12_within 1 = .ok (.iload_n 1, 1) := by decide +kernel
theorem dX12_within_2 : decode cX12_within 2 = .ok (.if_icmp .lt 12, 3) := by decide +kernel
theorem dX12_within_5 : decode cX12_within 5 = .ok (.iload_n 0, 1) := by decide +kernel
theorem dX12_within_6 : decode cX12_within 6 = .ok (.iload_n 2, 1) := by decide +kernel
theorem dX12_within_7 : decode cX12_within 7 = .ok (.if_icmp .gt 7, 3) := by decide +kernel
theorem dX12_within_10 : decode cX12_within 10 = .ok (.iconst 1, 1) := by decide +kernel
theorem dX12_within_11 : decode cX12_within 11 = .ok (.goto 4, 3) := by decide +kernel
theorem dX12_within_14 : decode cX12_within 14 = .ok (.iconst 0, 1) := by decide +kernel
theorem dX12_within_15 : decode cX12_within 15 = .ok (.ireturn, 1) := by decide +kernel
theorem inn_X11_cocoonAt_11 : ∀ w ∈ u_ws RX11 TX11 12, w ∈ wsX11_cocoonAt := fun w h => List.mem_cons_of_mem _ (List.mem_append_right _ h)
theorem inn_X11_day_11 : ∀ w ∈ u_ws RX11 TX11 12, w ∈ wsX11_day := fun w h => List.mem_cons_of_mem _ (List.mem_append_left _ (List.mem_append_right _ h))
theorem inn_X11_day_8 : ∀ w ∈ u_ws RX8 TX8 13, w ∈ wsX11_day := fun w h => List.mem_cons_of_mem _ (List.mem_append_right _ h)
theorem inn_X11_drawn_1 : ∀ w ∈ u_ws RX1 TX1 4, w ∈ wsX11_drawn := fun w h => List.mem_cons_of_mem _ (List.mem_append_right _ h)
theorem inn_X11_drawn_11 : ∀ w ∈ u_ws RX11 TX11 12, w ∈ wsX11_drawn := fun w h => List.mem_cons_of_mem _ (List.mem_append_left _ (List.mem_append_right _ h))
theorem inn_X11_fault_11 : ∀ w ∈ u_ws RX11 TX11 12, w ∈ wsX11_fault := fun w h => List.mem_cons_of_mem _ (List.mem_append_left _ (List.mem_append_right _ h))
theorem inn_X11_grade_11 : ∀ w ∈ u_ws RX11 TX11 12, w ∈ wsX11_grade := fun w h => List.mem_cons_of_mem _ (List.mem_append_left _ (List.mem_append_left _ (List.mem_append_left _ (List.mem_append_left _ (List.mem_append_right _ h)))))
theorem inn_X11_metre_11 : ∀ w ∈ u_ws RX11 TX11 12, w ∈ wsX11_metre := fun w h => List.mem_cons_of_mem _ (List.mem_append_left _ (List.mem_append_left _ (List.mem_append_left _ (List.mem_append_right _ h))))
theorem inn_X11_mixed_11 : ∀ w ∈ u_ws RX11 TX11 12, w ∈ wsX11_mixed := fun w h => List.mem_cons_of_mem _ (List.mem_append_left _ (List.mem_append_left _ (List.mem_append_right _ h)))
theorem inn_X11_piece_11 : ∀ w ∈ u_ws RX11 TX11 12, w ∈ wsX11_piece := fun w h => List.mem_cons_of_mem _ (List.mem_append_left _ (List.mem_append_left _ (List.mem_append_left _ (List.mem_append_right _ h))))
theorem inn_X11_place_10 : ∀ w ∈ u_ws RX10 TX10 7, w ∈ wsX11_place := fun w h => List.mem_cons_of_mem _ (List.mem_append_right _ h)
theorem inn_X11_place_11 : ∀ w ∈ u_ws RX11 TX11 12, w ∈ wsX11_place := fun w h => List.mem_cons_of_mem _ (List.mem_append_left _ (List.mem_append_right _ h))
theorem inn_X11_potAt_11 : ∀ w ∈ u_ws RX11 TX11 12, w ∈ wsX11_potAt := fun w h => List.mem_cons_of_mem _ (List.mem_append_right _ h)
theorem inn_X11_skein_11 : ∀ w ∈ u_ws RX11 TX11 12, w ∈ wsX11_skein := fun w h => List.mem_cons_of_mem _ (List.mem_append_left _ (List.mem_append_left _ (List.mem_append_left _ (List.mem_append_right _ h))))
theorem inn_X11_test_11 : ∀ w ∈ u_ws RX11 TX11 12, w ∈ wsX11_test := fun w h => List.mem_cons_of_mem _ (List.mem_append_left _ (List.mem_append_right _ h))
theorem inn_X8_skeinAt_8 : ∀ w ∈ u_ws RX8 TX8 13, w ∈ wsX8_skeinAt := fun w h => List.mem_cons_of_mem _ (List.mem_append_right _ h)
