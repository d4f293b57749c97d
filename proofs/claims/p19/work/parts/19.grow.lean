set_option maxRecDepth 20000 in
theorem ggX4_tick_X4_searchLost : GoodIn wsX4_tick wsX4_searchLost := goodIn_h _ [4, 3, 0, 0, 0, 0, 0, 0, 0, 0, 0, 0, 0, 0, 0, 0, 0, 0, 0, 0, 0, 0, 0, 0, 0, 0, 0, 0, 218, 0, 0, 0, 0, 0, 0, 0, 0, 0, 0, 0, 0, 0, 0, 0, 0, 0, 0, 0, 0, 0, 0, 0, 0] [2, 3, 0, 4, 5, 6, 7, 8, 1, 9, 10, 11, 12, 13, 14, 15, 16, 17, 18, 19, 20, 21, 22, 23, 24, 25, 26, 27, 28, 29, 30, 31, 32, 33, 34, 35, 36, 37, 38, 39, 40, 41, 42, 43, 44, 45, 46, 47, 48, 49, 50, 51, 52] (by decide +kernel) (by decide +kernel)
set_option maxRecDepth 20000 in
theorem gX4_tick_X4_searchLost : GoodIn wsX4_tick (wsV RX4 63 RX4 yX4_searchLost wsX4_searchLost) := goodIn_app (goodIn_of _ (by decide +kernel)) ggX4_tick_X4_searchLost
set_option maxRecDepth 20000 in
theorem ggX4_tick_X4_applyRules : GoodIn wsX4_tick wsX4_applyRules := goodIn_h _ [2, 0, 0, 3, 1, 0, 1, 0, 0, 0, 0, 0, 0, 0, 0, 0, 0, 0, 0, 0, 0, 0, 0, 0, 0, 0, 0, 0, 3, 0, 0, 0, 0, 0, 0, 0, 0, 0, 0, 0, 0, 0, 0, 0, 0, 0, 0, 0, 0, 0, 0, 0, 0, 0, 0, 0, 0, 0, 0, 0, 0, 0, 0, 0, 0, 0, 0, 0, 0, 0, 0, 0, 0, 0, 0, 0, 0, 0, 0, 0, 0, 0, 0, 0, 0, 0, 0, 0, 0, 0, 0, 0, 0, 0, 0, 0, 0, 0, 0, 0, 0, 0, 0, 0, 0, 0, 0, 0, 0, 0, 0, 0, 0, 0, 0, 0, 0, 0, 0, 0, 0, 0, 0, 0, 0, 0, 0, 0, 0, 0, 0, 0, 0, 0, 0, 0, 0, 0, 0, 0, 0, 0, 0, 0, 0, 0, 0, 0, 0, 0, 0, 0, 0, 0, 0, 0, 0, 0, 0, 0, 0, 0, 0, 0, 0, 0, 0, 0, 0, 0, 0, 0, 0, 0, 0, 0, 0, 0, 0, 0, 0, 0, 0, 0, 0, 0, 0, 0, 0, 0, 0, 0, 0, 0, 0, 0, 47, 0, 0, 0, 0, 0, 0, 0, 0, 0, 0, 0, 0, 0, 0, 0, 0, 0, 0, 0, 0, 0, 0, 0, 0, 0, 0, 0, 0, 0, 0, 0, 0, 0, 0, 0, 0, 0, 0, 0, 0, 0, 0, 0, 0, 0, 0, 0, 0, 0, 0, 0, 0, 0, 0, 0, 0, 0, 0, 0, 0, 0, 0, 0] [28, 29, 30, 31, 32, 33, 34, 35, 36, 3, 37, 38, 39, 40, 41, 42, 43, 44, 45, 1, 2, 11, 4, 46, 47, 48, 49, 50, 15, 51, 17, 52, 53, 54, 55, 56, 18, 20, 21, 22, 23, 19, 57, 58, 59, 60, 61, 62, 63, 64, 65, 66, 67, 68, 69, 70, 71, 72, 73, 74, 75, 76, 77, 78, 79, 80, 81, 0, 82, 83, 84, 85, 10, 12, 13, 14, 16, 24, 25, 26, 27, 86, 87, 88, 89, 90, 91, 92, 93, 94, 95, 96, 97, 98, 99, 100, 101, 6, 7, 8, 9, 5, 102, 103, 104, 105, 106, 107, 108, 109, 110, 111, 112, 113, 114, 115, 116, 117, 118, 119, 120, 121, 122, 123, 124, 125, 126, 127, 128, 129, 130, 131, 132, 133, 134, 135, 136, 137, 138, 139, 140, 141, 142, 143, 144, 145, 146, 147, 148, 149, 150, 151, 152, 153, 154, 155, 156, 157, 158, 159, 160, 161, 162, 163, 164, 165, 166, 167, 168, 169, 170, 171, 172, 173, 174, 175, 176, 177, 178, 179, 180, 181, 182, 183, 184, 185, 186, 187, 188, 189, 190, 191, 192, 193, 194, 195, 196, 197, 198, 199, 200, 201, 202, 203, 204, 205, 206, 207, 221, 222, 223, 224, 225, 226, 227, 228, 229, 230, 231, 232, 233, 234, 235, 236, 237, 238, 239, 240, 208, 209, 210, 241, 242, 243, 244, 245, 246, 247, 248, 249, 211, 212, 213, 214, 215, 216, 217, 218, 219, 220, 250, 251, 252, 253, 254, 255, 256, 257, 258, 259] (by decide +kernel) (by decide +kernel)
set_option maxRecDepth 20000 in
theorem gX4_tick_X4_applyRules : GoodIn wsX4_tick (wsV RX4 69 RX4 yX4_applyRules wsX4_applyRules) := goodIn_app (goodIn_of _ (by decide +kernel)) ggX4_tick_X4_applyRules
set_option maxRecDepth 20000 in
theorem ggX4_tick_X4_drawMetre : GoodIn wsX4_tick wsX4_drawMetre := goodIn_h _ [3, 0, 3, 1, 6, 1, 0, 0, 0, 0, 0, 0, 0, 0, 0, 0, 0, 0, 0, 0, 0, 21, 0, 0, 0, 0, 0, 0, 0, 0, 0, 0, 0, 0, 0, 0, 0, 0, 0, 49, 0, 0, 0, 0, 0, 0, 0, 0, 0, 0, 0, 0, 0, 0, 0, 0, 0, 0, 0, 0, 0, 0, 0, 0, 0, 0, 0, 0, 0, 0, 0, 0, 0, 0, 0, 0, 0, 0, 0, 0, 0, 0, 0, 0, 0, 0, 0, 0, 0, 0, 0, 0, 0, 0, 0, 0, 0, 0, 0, 0, 0, 0, 0, 0, 0, 0, 0, 0, 0, 0, 0, 0, 0, 0, 0, 0, 0, 0, 0, 0, 0, 0, 3, 0, 0, 0, 0, 0, 0, 0, 0, 0, 0, 0, 0, 0, 0, 0, 0, 0, 0, 0, 0, 0, 0, 0, 0, 0, 0, 0, 0, 0, 0, 0, 0, 0, 0, 0, 0, 0, 0, 0, 0, 0, 0, 0, 0, 0, 0, 0, 0, 0, 0, 0, 0, 0, 0, 0, 0, 0, 0, 0, 0, 0, 0, 0, 0, 0, 0, 0, 0, 7, 0, 0, 0, 0, 0, 0, 0, 0, 0, 0, 0, 0, 0, 0, 0, 0, 0, 0, 0, 0, 0, 0, 0, 0, 0, 0, 0, 0, 0, 0, 0] [122, 0, 1, 21, 22, 123, 124, 23, 24, 25, 8, 26, 10, 27, 28, 29, 30, 31, 11, 13, 14, 15, 16, 12, 32, 33, 34, 35, 36, 37, 38, 125, 126, 127, 59, 128, 68, 75, 76, 73, 5, 6, 7, 9, 129, 130, 131, 2, 132, 4, 3, 133, 134, 135, 136, 137, 74, 77, 78, 79, 80, 138, 139, 140, 141, 142, 143, 144, 145, 146, 147, 148, 149, 93, 71, 94, 81, 82, 83, 84, 85, 86, 87, 88, 89, 90, 91, 92, 95, 96, 97, 98, 150, 151, 152, 153, 154, 155, 156, 157, 158, 159, 160, 161, 162, 163, 164, 165, 17, 18, 19, 20, 39, 40, 41, 42, 43, 44, 45, 46, 47, 48, 49, 50, 51, 52, 53, 54, 55, 56, 57, 58, 60, 61, 62, 63, 64, 65, 66, 67, 69, 70, 72, 99, 100, 101, 102, 103, 104, 105, 106, 107, 108, 109, 110, 111, 112, 113, 114, 115, 116, 117, 118, 119, 120, 121, 166, 167, 168, 169, 170, 171, 172, 173, 174, 175, 176, 177, 178, 179, 180, 204, 205, 206, 207, 208, 209, 210, 211, 212, 191, 192, 193, 194, 195, 196, 197, 198, 199, 200, 201, 202, 203, 181, 182, 183, 184, 185, 186, 187, 188, 189, 190, 213, 214, 215, 216, 217, 218, 219, 220, 221, 222] (by decide +kernel) (by decide +kernel)
set_option maxRecDepth 20000 in
theorem gX4_tick_X4_drawMetre : GoodIn wsX4_tick (wsV RX4 76 RX4 yX4_drawMetre wsX4_drawMetre) := goodIn_app (goodIn_of _ (by decide +kernel)) ggX4_tick_X4_drawMetre
theorem dX4_tick_0 : decode cX4_tick 0 = .ok (.aload_n 0, 1) := by decide +kernel
theorem dX4_tick_1 : decode cX4_tick 1 = .ok (.dup, 1) := by decide +kernel
theorem dX4_tick_2 : decode cX4_tick 2 = .ok (.getfield 60, 3) := by decide +kernel
theorem dX4_tick_5 : decode cX4_tick 5 = .ok (.iconst 1, 1) := by decide +kernel
theorem dX4_tick_6 : decode cX4_tick 6 = .ok (.iadd, 1) := by decide +kernel
theorem dX4_tick_7 : decode cX4_tick 7 = .ok (.putfield 60, 3) := by decide +kernel
theorem dX4_tick_10 : decode cX4_tick 10 = .ok (.aload_n 0, 1) := by decide +kernel
theorem dX4_tick_11 : decode cX4_tick 11 = .ok (.invokevirtual 63, 3) := by decide +kernel
theorem dX4_tick_14 : decode cX4_tick 14 = .ok (.aload_n 0, 1) := by decide +kernel
theorem dX4_tick_15 : decode cX4_tick 15 = .ok (.getfield 66, 3) := by decide +kernel
theorem dX4_tick_18 : decode cX4_tick 18 = .ok (.ifCond .ne 8, 3) := by decide +kernel
theorem dX4_tick_21 : decode cX4_tick 21 = .ok (.aload_n 0, 1) := by decide +kernel
theorem dX4_tick_22 : decode cX4_tick 22 = .ok (.aload_n 1, 1) := by decide +kernel
theorem dX4_tick_23 : decode cX4_tick 23 = .ok (.invokevirtual 69, 3) := by decide +kernel
theorem dX4_tick_26 : decode cX4_tick 26 = .ok (.aload_n 0, 1) := by decide +kernel
theorem dX4_tick_27 : decode cX4_tick 27 = .ok (.getfield 66, 3) := by decide +kernel
theorem dX4_tick_30 : decode cX4_tick 30 = .ok (.ifCond .le 15, 3) := by decide +kernel
theorem dX4_tick_33 : decode cX4_tick 33 = .ok (.aload_n 0, 1) := by decide +kernel
theorem dX4_tick_34 : decode cX4_tick 34 = .ok (.dup, 1) := by decide +kernel
theorem dX4_tick_35 : decode cX4_tick 35 = .ok (.getfield 66, 3) := by decide +kernel
theorem dX4_tick_38 : decode cX4_tick 38 = .ok (.iconst 1, 1) := by decide +kernel
theorem dX4_tick_39 : decode cX4_tick 39 = .ok (.isub, 1) := by decide +kernel
theorem dX4_tick_40 : decode cX4_tick 40 = .ok (.putfield 66, 3) := by decide +kernel
theorem dX4_tick_43 : decode cX4_tick 43 = .ok (.iconst 0, 1) := by decide +kernel
theorem dX4_tick_44 : decode cX4_tick 44 = .ok (.ireturn, 1) := by decide +kernel
theorem dX4_tick_45 : decode cX4_tick 45 = .ok (.aload_n 0, 1) := by decide +kernel
theorem dX4_tick_46 : decode cX4_tick 46 = .ok (.getfield 20, 3) := by decide +kernel
theorem dX4_tick_49 : decode cX4_tick 49 = .ok (.getfield 73, 3) := by decide +kernel
theorem dX4_tick_52 : decode cX4_tick 52 = .ok (.ifCond .ne 5, 3) := by decide +kernel
theorem dX4_tick_55 : decode cX4_tick 55 = .ok (.iconst 0, 1) := by decide +kernel
theorem dX4_tick_56 : decode cX4_tick 56 = .ok (.ireturn, 1) := by decide +kernel
theorem dX4_tick_57 : decode cX4_tick 57 = .ok (.aload_n 0, 1) := by decide +kernel
theorem dX4_tick_58 : decode cX4_tick 58 = .ok (.aload_n 1, 1) := by decide +kernel
theorem dX4_tick_59 : decode cX4_tick 59 = .ok (.invokevirtual 76, 3) := by decide +kernel
theorem dX4_tick_62 : decode cX4_tick 62 = .ok (.iconst 1, 1) := by decide +kernel
theorem dX4_tick_63 : decode cX4_tick 63 = .ok (.ireturn, 1) := by decide +kernel
set_option maxRecDepth 20000 in
theorem ggX4_cutStrand_X8_keep : GoodIn wsX4_cutStrand wsX8_keep := goodIn_h _ [9, 0, 0, 0, 0, 0, 0, 0, 0, 0, 0, 0, 0, 0, 0, 0, 0, 0, 0, 0, 0, 0, 0, 0, 0, 0, 0, 0, 0, 0, 0, 0, 0, 0, 0, 0, 0, 0, 0, 0, 0, 0, 0, 0, 0, 0, 0, 0, 0, 0, 0, 0, 0, 0, 0, 0, 0, 0, 0, 0, 0, 0, 0, 0, 0, 0, 0, 0, 0, 16, 0, 0, 0, 0, 0, 0, 0, 0, 0, 0, 0, 0, 0, 0, 0, 0, 0, 0, 0, 0, 0, 0, 0, 0, 0, 0, 0, 0, 0, 0, 0] [0, 1, 2, 3, 4, 5, 6, 7, 8, 9, 10, 11, 12, 13, 14, 15, 16, 17, 18, 19, 20, 21, 22, 23, 24, 25, 26, 27, 28, 29, 30, 31, 32, 33, 34, 35, 36, 37, 38, 39, 40, 41, 42, 43, 44, 45, 46, 47, 48, 49, 50, 51, 52, 53, 54, 55, 56, 57, 58, 59, 60, 61, 62, 63, 64, 65, 66, 67, 68, 78, 79, 80, 81, 82, 83, 84, 85, 86, 87, 88, 89, 90, 69, 70, 71, 72, 73, 74, 75, 76, 77, 91, 92, 93, 94, 95, 96, 97, 98, 99, 100] (by decide +kernel) (by decide +kernel)
set_option maxRecDepth 20000 in
theorem gX4_cutStrand_X8_keep : GoodIn wsX4_cutStrand (wsV RX4 82 RX8 yX8_keep wsX8_keep) := goodIn_app (goodIn_of _ (by decide +kernel)) ggX4_cutStrand_X8_keep
set_option maxRecDepth 20000 in
theorem ggX4_cutStrand_X9_beginAnew : GoodIn wsX4_cutStrand wsX9_beginAnew := goodIn_h _ [28, 4, 0, 46, 12, 0, 0, 0, 0, 0, 0, 0, 0] [3, 0, 1, 2, 4, 5, 6, 7, 8, 9, 10, 11, 12] (by decide +kernel) (by decide +kernel)
set_option maxRecDepth 20000 in
theorem gX4_cutStrand_X9_beginAnew : GoodIn wsX4_cutStrand (wsV RX4 88 RX9 yX9_beginAnew wsX9_beginAnew) := goodIn_app (goodIn_of _ (by decide +kernel)) ggX4_cutStrand_X9_beginAnew
theorem dX4_cutStrand_0 : decode cX4_cutStrand 0 = .ok (.aload_n 0, 1) := by decide +kernel
theorem dX4_cutStrand_1 : decode cX4_cutStrand 1 = .ok (.getfield 29, 3) := by decide +kernel
theorem dX4_cutStrand_4 : decode cX4_cutStrand 4 = .ok (.getfield 79, 3) := by decide +kernel
theorem dX4_cutStrand_7 : decode cX4_cutStrand 7 = .ok (.ifCond .ne 5, 3) := by decide +kernel
theorem dX4_cutStrand_10 : decode cX4_cutStrand 10 = .ok (.iconst (-1), 1) := by decide +kernel
theorem dX4_cutStrand_11 : decode cX4_cutStrand 11 = .ok (.ireturn, 1) := by decide +kernel
theorem dX4_cutStrand_12 : decode cX4_cutStrand 12 = .ok (.aload_n 1, 1) := by decide +kernel
theorem dX4_cutStrand_13 : decode cX4_cutStrand 13 = .ok (.aload_n 0, 1) := by decide +kernel
theorem dX4_cutStrand_14 : decode cX4_cutStrand 14 = .ok (.getfield 29, 3) := by decide +kernel
theorem dX4_cutStrand_17 : decode cX4_cutStrand 17 = .ok (.aload_n 0, 1) := by decide +kernel
theorem dX4_cutStrand_18 : decode cX4_cutStrand 18 = .ok (.getfield 40, 3) := by decide +kernel
theorem dX4_cutStrand_21 : decode cX4_cutStrand 21 = .ok (.aload_n 0, 1) := by decide +kernel
theorem dX4_cutStrand_22 : decode cX4_cutStrand 22 = .ok (.getfield 44, 3) := by decide +kernel
theorem dX4_cutStrand_25 : decode cX4_cutStrand 25 = .ok (.invokevirtual 82, 3) := by decide +kernel
theorem dX4_cutStrand_28 : decode cX4_cutStrand 28 = .ok (.istore_n 2, 1) := by decide +kernel
theorem dX4_cutStrand_29 : decode cX4_cutStrand 29 = .ok (.aload_n 0, 1) := by decide +kernel
theorem dX4_cutStrand_30 : decode cX4_cutStrand 30 = .ok (.getfield 29, 3) := by decide +kernel
theorem dX4_cutStrand_33 : decode cX4_cutStrand 33 = .ok (.invokevirtual 88, 3) := by decide +kernel
theorem dX4_cutStrand_36 : decode cX4_cutStrand 36 = .ok (.iload_n 2, 1) := by decide +kernel
theorem dX4_cutStrand_37 : decode cX4_cutStrand 37 = .ok (.ireturn, 1) := by decide +kernel
set_option maxRecDepth 20000 in
theorem ggX4_applyRules_X4_allHold : GoodIn wsX4_applyRules wsX4_allHold := goodIn_h _ [1, 7, 0, 0, 0, 0, 0, 0, 0, 0, 0, 0, 0, 0, 0, 0, 0, 0, 0, 0, 0, 0, 0, 0, 0, 0, 0, 0, 0, 0, 0, 0, 0, 0, 0, 0, 0, 0, 0, 0, 0, 0, 0, 0, 0, 0, 0, 0, 0, 0, 0, 0, 0, 0, 0, 133, 0, 0, 0, 0, 0, 0, 0, 0, 0, 0, 0, 0, 0, 0, 0, 0, 0, 0, 13, 0, 0, 0, 0, 0, 0, 0, 0, 0, 0, 0, 0, 0, 0, 0, 0, 0, 0, 0, 0, 0] [2, 0, 3, 4, 5, 6, 7, 8, 9, 1, 10, 11, 12, 13, 14, 15, 16, 17, 18, 19, 20, 21, 22, 23, 24, 25, 26, 27, 28, 29, 30, 31, 32, 33, 34, 35, 36, 37, 38, 39, 40, 41, 42, 43, 44, 45, 46, 47, 48, 49, 50, 51, 52, 53, 54, 55, 56, 57, 58, 59, 60, 61, 62, 63, 64, 65, 66, 67, 68, 69, 70, 71, 72, 73, 74, 75, 76, 77, 78, 79, 80, 81, 82, 83, 84, 85, 86, 87, 88, 89, 90, 91, 92, 93, 94, 95] (by decide +kernel) (by decide +kernel)
set_option maxRecDepth 20000 in
theorem gX4_applyRules_X4_allHold : GoodIn wsX4_applyRules (wsV RX4 105 RX4 yX4_allHold wsX4_allHold) := goodIn_app (goodIn_of _ (by decide +kernel)) ggX4_applyRules_X4_allHold
set_option maxRecDepth 20000 in
theorem ggX4_applyRules_X4_act : GoodIn wsX4_applyRules wsX4_act := goodIn_h _ [9, 9, 0, 0, 0, 0, 0, 3, 1, 0, 0, 0, 0, 0, 0, 0, 0, 0, 0, 0, 0, 0, 0, 0, 0, 0, 0, 0, 0, 0, 0, 0, 4, 7, 0, 0, 0, 0, 0, 0, 0, 0, 0, 0, 0, 0, 0, 0, 0, 0, 0, 0, 0, 0, 0, 0, 0, 0, 0, 0, 0, 0, 0, 0, 0, 0, 0, 0, 0, 0, 0, 0, 0, 0, 0, 0, 0, 0, 0, 0, 0, 0, 0, 0, 0, 0, 0, 0, 0, 0, 0, 0, 0, 0, 0, 0, 0, 0, 0, 0, 0, 0, 0, 0, 0, 0, 0, 0, 0, 0, 0, 0, 0, 0, 0, 0, 0, 0, 0, 0, 0, 0, 0, 0, 0, 0, 0, 0, 0, 0, 0, 0, 0, 0, 0, 0, 0, 0, 0, 0, 0, 0, 0, 0, 0, 0, 0, 0, 0, 0, 0, 0, 0, 0, 0, 0, 0, 0, 0, 0, 0, 0, 0, 0, 0, 0, 0, 0, 0, 0, 0, 0, 0, 0, 0, 7, 0, 0, 0, 0, 0, 0, 0, 0, 0, 0, 0, 0, 0, 0, 0, 0, 0, 0, 0, 0, 0, 0, 0, 0, 0, 0, 0, 0, 0, 0, 0, 0, 0, 0, 0, 0, 0, 0, 0, 0, 0, 0, 0, 0] [33, 34, 35, 36, 37, 0, 38, 3, 2, 1, 39, 40, 41, 42, 7, 43, 8, 14, 19, 15, 16, 17, 18, 44, 45, 46, 47, 48, 49, 50, 51, 27, 28, 29, 30, 31, 9, 10, 11, 12, 13, 20, 21, 22, 23, 24, 25, 26, 52, 53, 54, 55, 56, 57, 58, 59, 60, 61, 62, 63, 4, 64, 65, 66, 67, 68, 69, 70, 71, 72, 73, 32, 74, 75, 76, 77, 78, 79, 80, 81, 82, 83, 5, 6, 84, 85, 86, 87, 88, 89, 90, 91, 92, 93, 94, 95, 96, 97, 98, 99, 100, 101, 102, 103, 104, 105, 106, 107, 108, 109, 110, 111, 112, 113, 114, 115, 116, 117, 118, 119, 120, 121, 122, 123, 124, 125, 126, 127, 128, 129, 130, 131, 132, 133, 134, 135, 136, 137, 138, 139, 140, 141, 142, 143, 144, 145, 146, 147, 148, 149, 150, 151, 152, 153, 154, 155, 156, 157, 158, 159, 160, 161, 162, 163, 164, 165, 166, 167, 168, 169, 170, 171, 172, 173, 174, 188, 189, 190, 200, 201, 202, 203, 204, 205, 206, 207, 208, 209, 175, 176, 177, 178, 179, 180, 181, 182, 183, 184, 185, 186, 187, 191, 192, 193, 194, 195, 196, 197, 198, 199, 210, 211, 212, 213, 214, 215, 216, 217, 218, 219] (by decide +kernel) (by decide +kernel)
set_option maxRecDepth 20000 in
theorem gX4_applyRules_X4_act : GoodIn wsX4_applyRules (wsV RX4 116 RX4 yX4_act wsX4_act) := goodIn_app (goodIn_of _ (by decide +kernel)) ggX4_applyRules_X4_act
theorem dX4_applyRules_0 : decode cX4_applyRules 0 = .ok (.iconst 0, 1) := by decide +kernel
theorem dX4_applyRules_1 : decode cX4_applyRules 1 = .ok (.istore_n 2, 1) := by decide +kernel
theorem dX4_applyRules_2 : decode cX4_applyRules 2 = .ok (.iload_n 2, 1) := by decide +kernel
theorem dX4_applyRules_3 : decode cX4_applyRules 3 = .ok (.aload_n 0, 1) := by decide +kernel
theorem dX4_applyRules_4 : decode cX4_applyRules 4 = .ok (.getfield 36, 3) := by decide +kernel
theorem dX4_applyRules_7 : decode cX4_applyRules 7 = .ok (.getfield 101, 3) := by decide +kernel
theorem dX4_applyRules_10 : decode cX4_applyRules 10 = .ok (.if_icmp .ge 44, 3) := by decide +kernel
theorem dX4_applyRules_13 : decode cX4_applyRules 13 = .ok (.aload_n 0, 1) := by decide +kernel
theorem dX4_applyRules_14 : decode cX4_applyRules 14 = .ok (.iload_n 2, 1) := by decide +kernel
theorem dX4_applyRules_15 : decode cX4_applyRules 15 = .ok (.aload_n 1, 1) := by decide +kernel
theorem dX4_applyRules_16 : decode cX4_applyRules 16 = .ok (.getfield 102, 3) := by decide +kernel
theorem dX4_applyRules_19 : decode cX4_applyRules 19 = .ok (.invokevirtual 105, 3) := by decide +kernel
theorem dX4_applyRules_22 : decode cX4_applyRules 22 = .ok (.ifCond .eq 26, 3) := by decide +kernel
theorem dX4_applyRules_25 : decode cX4_applyRules 25 = .ok (.aload_n 0, 1) := by decide +kernel
theorem dX4_applyRules_26 : decode cX4_applyRules 26 = .ok (.aload_n 0, 1) := by decide +kernel
theorem dX4_applyRules_27 : decode cX4_applyRules 27 = .ok (.getfield 36, 3) := by decide +kernel
theorem dX4_applyRules_30 : decode cX4_applyRules 30 = .ok (.getfield 109, 3) := by decide +kernel
theorem dX4_applyRules_33 : decode cX4_applyRules 33 = .ok (.iload_n 2, 1) := by decide +kernel
theorem dX4_applyRules_34 : decode cX4_applyRules 34 = .ok (.iaload, 1) := by decide +kernel
theorem dX4_applyRules_35 : decode cX4_applyRules 35 = .ok (.aload_n 0, 1) := by decide +kernel
theorem dX4_applyRules_36 : decode cX4_applyRules 36 = .ok (.getfield 36, 3) := by decide +kernel
theorem dX4_applyRules_39 : decode cX4_applyRules 39 = .ok (.getfield 113, 3) := by decide +kernel
theorem dX4_applyRules_42 : decode cX4_applyRules 42 = .ok (.iload_n 2, 1) := by decide +kernel
theorem dX4_applyRules_43 : decode cX4_applyRules 43 = .ok (.iaload, 1) := by decide +kernel
theorem dX4_applyRules_44 : decode cX4_applyRules 44 = .ok (.aload_n 1, 1) := by decide +kernel
theorem dX4_applyRules_45 : decode cX4_applyRules 45 = .ok (.invokevirtual 116, 3) := by decide +kernel
theorem dX4_applyRules_48 : decode cX4_applyRules 48 = .ok (.iinc 2 1, 3) := by decide +kernel
theorem dX4_applyRules_51 : decode cX4_applyRules 51 = .ok (.goto (-49), 3) := by decide +kernel
theorem dX4_applyRules_54 : decode cX4_applyRules 54 = .ok (.return_, 1) := by decide +kernel
set_option maxRecDepth 20000 in
theorem ggX4_act_X4_castFirst : GoodIn wsX4_act wsX4_castFirst := goodIn_h _ [6, 0, 0, 0, 0, 0, 0, 0, 0, 0, 0, 0, 0, 0, 0, 0, 0, 0, 0, 0, 0, 136, 0, 0, 0, 0, 0, 0, 0, 0, 0, 0, 0, 0, 0, 0, 0, 0, 0, 0, 0, 0, 0, 0, 0, 0] [0, 1, 2, 3, 4, 5, 6, 7, 8, 9, 10, 11, 12, 13, 14, 15, 16, 17, 18, 19, 20, 21, 22, 23, 24, 25, 26, 27, 28, 29, 30, 31, 32, 33, 34, 35, 36, 37, 38, 39, 40, 41, 42, 43, 44, 45] (by decide +kernel) (by decide +kernel)
set_option maxRecDepth 20000 in
theorem gX4_act_X4_castFirst : GoodIn wsX4_act (wsV RX4 155 RX4 yX4_castFirst wsX4_castFirst) := goodIn_app (goodIn_of _ (by decide +kernel)) ggX4_act_X4_castFirst
set_option maxRecDepth 20000 in
theorem ggX4_act_X4_dropThinnest : GoodIn wsX4_act wsX4_dropThinnest := goodIn_h _ [7, 1, 0, 3, 1, 0, 0, 0, 0, 0, 0, 7, 0, 0, 0, 0, 0, 0, 0, 0, 0, 0, 0, 0, 0, 0, 0, 0, 0, 0, 0, 0, 0, 0, 0, 0, 0, 107, 0, 0, 0, 0, 0, 0, 0, 0, 0, 0, 0, 0, 0, 0, 0, 0, 0, 0, 0, 0, 0, 0, 0, 0] [11, 1, 2, 0, 12, 13, 14, 3, 15, 16, 4, 17, 18, 19, 20, 21, 5, 7, 8, 9, 10, 6, 22, 23, 24, 25, 26, 27, 28, 29, 30, 31, 32, 33, 34, 35, 36, 37, 38, 39, 40, 41, 42, 43, 44, 45, 46, 47, 48, 52, 53, 54, 55, 56, 57, 58, 59, 60, 61, 49, 50, 51] (by decide +kernel) (by decide +kernel)
set_option maxRecDepth 20000 in
theorem gX4_act_X4_dropThinnest : GoodIn wsX4_act (wsV RX4 158 RX4 yX4_dropThinnest wsX4_dropThinnest) := goodIn_app (goodIn_of _ (by decide +kernel)) ggX4_act_X4_dropThinnest
set_option maxRecDepth 20000 in
theorem ggX4_act_X4_findFirst : GoodIn wsX4_act wsX4_findFirst := goodIn_h _ [1, 3, 1, 0, 1, 0, 0, 0, 0, 0, 0, 0, 0, 0, 0, 0, 0, 0, 0, 0, 0, 32, 0, 0, 0, 0, 0, 0, 97, 0, 0, 0, 0, 0, 0, 0, 0, 0, 0, 0, 0, 0, 0, 0, 0, 0, 0, 0, 0, 0, 0, 0, 0] [21, 22, 3, 0, 23, 24, 25, 1, 26, 4, 2, 27, 5, 6, 7, 8, 9, 10, 11, 12, 13, 14, 15, 16, 17, 18, 19, 20, 28, 29, 30, 31, 32, 33, 34, 35, 36, 37, 38, 39, 40, 41, 42, 43, 44, 45, 46, 47, 48, 49, 50, 51, 52] (by decide +kernel) (by decide +kernel)
set_option maxRecDepth 20000 in
theorem gX4_act_X4_findFirst : GoodIn wsX4_act (wsV RX4 161 RX4 yX4_findFirst wsX4_findFirst) := goodIn_app (goodIn_of _ (by decide +kernel)) ggX4_act_X4_findFirst
set_option maxRecDepth 20000 in
theorem ggX4_act_X4_throwLast : GoodIn wsX4_act wsX4_throwLast := goodIn_h _ [7, 0, 1, 3, 1, 0, 0, 0, 0, 0, 0, 14, 0, 0, 0, 1, 0, 0, 0, 0, 0, 0, 0, 0, 0, 17, 0, 0, 0, 0, 0, 0, 0, 0, 85, 0, 0, 0, 0, 0, 0, 0, 0, 0, 0, 0, 0, 0, 0, 0, 0, 0, 0, 0, 0, 0, 0, 0, 0, 0, 0, 0, 0, 0, 0, 0, 0, 0, 0, 0, 0, 0] [25, 0, 1, 2, 26, 27, 28, 21, 22, 23, 3, 24, 4, 5, 11, 12, 13, 14, 7, 8, 9, 10, 6, 29, 30, 31, 17, 32, 33, 15, 16, 18, 19, 20, 34, 35, 36, 37, 38, 39, 40, 41, 42, 43, 44, 45, 46, 47, 48, 49, 50, 51, 52, 53, 54, 55, 56, 57, 58, 59, 60, 61, 62, 63, 64, 65, 66, 67, 68, 69, 70, 71] (by decide +kernel) (by decide +kernel)
set_option maxRecDepth 20000 in
theorem gX4_act_X4_throwLast : GoodIn wsX4_act (wsV RX4 164 RX4 yX4_throwLast wsX4_throwLast) := goodIn_app (goodIn_of _ (by decide +kernel)) ggX4_act_X4_throwLast
set_option maxRecDepth 20000 in
theorem ggX4_act_X4_cutStrand : GoodIn wsX4_act wsX4_cutStrand := goodIn_h _ [81, 0, 0, 0, 0, 0, 0, 0, 0, 0, 0, 0, 0, 0, 0, 0, 0, 0, 0, 0, 0, 0, 0, 0, 0, 0, 0, 0, 0, 0, 0, 0, 0, 0, 0, 0, 0, 0, 0, 0, 0, 0, 0, 0, 0, 0, 0, 0, 0, 0, 0, 0, 0, 0, 0, 0, 0, 0, 0, 0, 0, 0, 0, 0, 0, 0, 0, 0, 0, 0, 0, 0, 0, 0, 0, 0, 0, 0, 0, 0, 0, 0, 0, 0, 0, 0, 0, 0, 0, 0, 0, 0, 0, 0, 13, 0, 0, 0, 0, 0, 0, 0, 0, 0, 0, 0, 0, 0, 0, 0, 0, 0, 0, 0, 0, 0, 0, 0, 0, 0, 0, 0, 0, 0, 0, 0] [0, 1, 2, 3, 4, 5, 6, 7, 8, 9, 10, 11, 12, 13, 14, 15, 16, 17, 18, 19, 20, 21, 22, 23, 24, 25, 26, 27, 28, 29, 30, 31, 32, 33, 34, 35, 36, 37, 38, 39, 40, 41, 42, 43, 44, 45, 46, 47, 48, 49, 50, 51, 52, 53, 54, 55, 56, 57, 58, 59, 60, 61, 62, 63, 64, 65, 66, 67, 68, 69, 70, 71, 72, 73, 74, 75, 76, 77, 78, 79, 80, 81, 82, 83, 84, 85, 86, 87, 88, 89, 90, 91, 92, 93, 107, 108, 109, 110, 111, 112, 113, 114, 115, 94, 95, 96, 97, 98, 99, 100, 101, 102, 103, 104, 105, 106, 116, 117, 118, 119, 120, 121, 122, 123, 124, 125] (by decide +kernel) (by decide +kernel)
set_option maxRecDepth 20000 in
theorem gX4_act_X4_cutStrand : GoodIn wsX4_act (wsV RX4 167 RX4 yX4_cutStrand wsX4_cutStrand) := goodIn_app (goodIn_of _ (by decide +kernel)) ggX4_act_X4_cutStrand
theorem dX4_act_0 : decode cX4_act 0 = .ok (.iload_n 1, 1) := by decide +kernel
theorem dX4_act_1 : decode cX4_act 1 = .ok (.tableswitch 73 0 4 #[35, 42, 49, 56, 64], 35) := by decide +kernel
theorem dX4_act_36 : decode cX4_act 36 = .ok (.aload_n 0, 1) := by decide +kernel
theorem dX4_act_37 : decode cX4_act 37 = .ok (.invokevirtual 155, 3) := by decide +kernel
theorem dX4_act_40 : decode cX4_act 40 = .ok (.goto 44, 3) := by decide +kernel
theorem dX4_act_43 : decode cX4_act 43 = .ok (.aload_n 0, 1) := by decide +kernel
theorem dX4_act_44 : decode cX4_act 44 = .ok (.invokevirtual 158, 3) := by decide +kernel
theorem dX4_act_47 : decode cX4_act 47 = .ok (.goto 37, 3) := by decide +kernel
theorem dX4_act_50 : decode cX4_act 50 = .ok (.aload_n 0, 1) := by decide +kernel
theorem dX4_act_51 : decode cX4_act 51 = .ok (.invokevirtual 161, 3) := by decide +kernel
theorem dX4_act_54 : decode cX4_act 54 = .ok (.goto 30, 3) := by decide +kernel
theorem dX4_act_57 : decode cX4_act 57 = .ok (.aload_n 0, 1) := by decide +kernel
theorem dX4_act_58 : decode cX4_act 58 = .ok (.aload_n 3, 1) := by decide +kernel
theorem dX4_act_59 : decode cX4_act 59 = .ok (.invokevirtual 164, 3) := by decide +kernel
theorem dX4_act_62 : decode cX4_act 62 = .ok (.goto 22, 3) := by decide +kernel
theorem dX4_act_65 : decode cX4_act 65 = .ok (.aload_n 0, 1) := by decide +kernel
theorem dX4_act_66 : decode cX4_act 66 = .ok (.aload_n 3, 1) := by decide +kernel
theorem dX4_act_67 : decode cX4_act 67 = .ok (.invokevirtual 167, 3) := by decide +kernel
theorem dX4_act_70 : decode cX4_act 70 = .ok (.pop, 1) := by decide +kernel
theorem dX4_act_71 : decode cX4_act 71 = .ok (.goto 13, 3) := by decide +kernel
theorem dX4_act_74 : decode cX4_act 74 = .ok (.aload_n 0, 1) := by decide +kernel
theorem dX4_act_75 : decode cX4_act 75 = .ok (.dup, 1) := by decide +kernel
theorem dX4_act_76 : decode cX4_act 76 = .ok (.getfield 66, 3) := by decide +kernel
theorem dX4_act_79 : decode cX4_act 79 = .ok (.iload_n 2, 1) := by decide +kernel
theorem dX4_act_80 : decode cX4_act 80 = .ok (.iadd, 1) := by decide +kernel
theorem dX4_act_81 : decode cX4_act 81 = .ok (.putfield 66, 3) := by decide +kernel
theorem dX4_act_84 : decode cX4_act 84 = .ok (.return_, 1) := by decide +kernel
set_option maxRecDepth 20000 in
theorem ggX4_drawMetre_X5_sumOfFineness : GoodIn wsX4_drawMetre wsX5_sumOfFineness := goodIn_h _ [10, 0, 0, 0, 0, 0, 0, 0, 0, 0, 0, 0, 0, 0, 0, 0, 0, 0, 0, 0, 0, 147, 0, 0, 22, 0, 0, 0, 0, 0, 0, 0, 0, 0] [1, 2, 3, 4, 5, 6, 0, 7, 8, 9, 10, 11, 12, 13, 14, 15, 16, 17, 18, 19, 20, 21, 22, 23, 24, 25, 26, 27, 28, 29, 30, 31, 32, 33] (by decide +kernel) (by decide +kernel)
set_option maxRecDepth 20000 in
theorem gX4_drawMetre_X5_sumOfFineness : GoodIn wsX4_drawMetre (wsV RX4 140 RX5 yX5_sumOfFineness wsX5_sumOfFineness) := goodIn_app (goodIn_of _ (by decide +kernel)) ggX4_drawMetre_X5_sumOfFineness
set_option maxRecDepth 20000 in
theorem ggX4_drawMetre_X9_addMetre : GoodIn wsX4_drawMetre wsX9_addMetre := goodIn_h _ [35, 0, 0, 0, 0, 141, 0, 0, 0, 0, 0, 0, 0, 0] [0, 1, 2, 3, 4, 5, 6, 7, 8, 9, 10, 11, 12, 13] (by decide +kernel) (by decide +kernel)
set_option maxRecDepth 20000 in
theorem gX4_drawMetre_X9_addMetre : GoodIn wsX4_drawMetre (wsV RX4 193 RX9 yX9_addMetre wsX9_addMetre) := goodIn_app (goodIn_of _ (by decide +kernel)) ggX4_drawMetre_X9_addMetre
set_option maxRecDepth 20000 in
theorem ggX4_drawMetre_X5_removeFirst : GoodIn wsX4_drawMetre wsX5_removeFirst := goodIn_h _ [10, 1, 5, 0, 0, 0, 0, 0, 19, 134, 0, 0] [8, 1, 2, 7, 3, 4, 5, 0, 6, 9, 10, 11] (by decide +kernel) (by decide +kernel)
set_option maxRecDepth 20000 in
theorem gX4_drawMetre_X5_removeFirst : GoodIn wsX4_drawMetre (wsV RX4 97 RX5 yX5_removeFirst wsX5_removeFirst) := goodIn_app (goodIn_of _ (by decide +kernel)) ggX4_drawMetre_X5_removeFirst
set_option maxRecDepth 20000 in
theorem ggX4_drawMetre_X4_drawEnd : GoodIn wsX4_drawMetre wsX4_drawEnd := goodIn_h _ [1, 1, 6, 1, 5, 0, 0, 0, 0, 0, 3, 1, 4, 13, 0, 0, 0, 0, 0, 0, 0, 0, 0, 0, 0, 0, 0, 0, 0, 0, 0, 0, 0, 0, 0, 0, 0, 0, 0, 0, 0, 0, 0, 0, 0, 0, 0, 0, 0, 0, 0, 0, 0, 0, 0, 0, 0, 0, 0, 0, 0, 0, 0, 0, 0, 0, 0, 0, 0, 0, 0, 0, 0, 0, 0, 0, 0, 54, 0, 0, 0, 0, 0, 0, 0, 0, 0, 0, 0, 0, 0, 0, 0, 0, 0, 0, 0, 0, 0, 0, 0, 13, 0, 0, 0, 0, 0, 0, 0, 0, 0] [13, 1, 14, 0, 15, 16, 17, 18, 12, 19, 20, 21, 22, 23, 24, 25, 26, 27, 28, 29, 10, 30, 31, 32, 33, 34, 35, 36, 37, 38, 39, 40, 41, 42, 43, 44, 45, 46, 47, 48, 49, 50, 51, 52, 53, 54, 55, 56, 57, 58, 59, 60, 61, 11, 62, 63, 64, 65, 66, 67, 68, 69, 70, 71, 72, 73, 74, 75, 2, 76, 3, 4, 5, 6, 7, 8, 9, 77, 78, 79, 80, 81, 82, 83, 84, 85, 86, 87, 88, 101, 102, 103, 104, 105, 106, 107, 108, 109, 110, 92, 93, 94, 95, 96, 97, 98, 99, 100, 89, 90, 91] (by decide +kernel) (by decide +kernel)
set_option maxRecDepth 20000 in
theorem gX4_drawMetre_X4_drawEnd : GoodIn wsX4_drawMetre (wsV RX4 203 RX4 yX4_drawEnd wsX4_drawEnd) := goodIn_app (goodIn_of _ (by decide +kernel)) ggX4_drawMetre_X4_drawEnd
set_option maxRecDepth 20000 in
theorem ggX4_drawMetre_X4_cutStrand : GoodIn wsX4_drawMetre wsX4_cutStrand := goodIn_h _ [3, 0, 29, 1, 0, 0, 0, 16, 0, 0, 0, 0, 12, 0, 0, 0, 0, 0, 0, 0, 0, 0, 0, 0, 0, 0, 0, 0, 0, 0, 0, 23, 0, 0, 0, 0, 0, 0, 0, 0, 0, 0, 0, 0, 0, 0, 0, 0, 0, 0, 0, 0, 0, 0, 0, 0, 0, 0, 0, 0, 0, 0, 0, 0, 0, 0, 0, 0, 0, 0, 0, 0, 0, 0, 0, 0, 0, 0, 0, 0, 0, 0, 0, 0, 0, 0, 0, 0, 0, 0, 0, 0, 0, 0, 3, 0, 0, 0, 0, 0, 0, 0, 0, 0, 0, 0, 0, 0, 0, 0, 0, 0, 0, 0, 0, 0, 10, 0, 0, 0, 0, 0, 0, 0, 0, 0] [31, 0, 1, 32, 33, 34, 35, 36, 37, 38, 39, 40, 41, 42, 43, 44, 45, 46, 47, 2, 48, 49, 50, 51, 52, 53, 54, 55, 3, 56, 57, 13, 58, 6, 7, 4, 5, 8, 9, 10, 11, 15, 16, 17, 18, 19, 20, 21, 22, 23, 24, 25, 26, 12, 14, 27, 28, 29, 30, 59, 60, 61, 62, 63, 64, 65, 66, 67, 68, 69, 70, 71, 72, 73, 74, 75, 76, 77, 78, 79, 80, 81, 82, 83, 84, 85, 86, 87, 88, 89, 90, 91, 92, 93, 94, 95, 96, 97, 98, 99, 100, 101, 102, 103, 104, 105, 106, 107, 108, 109, 110, 111, 112, 113, 114, 115, 116, 117, 118, 119, 120, 121, 122, 123, 124, 125] (by decide +kernel) (by decide +kernel)
set_option maxRecDepth 20000 in
theorem gX4_drawMetre_X4_cutStrand : GoodIn wsX4_drawMetre (wsV RX4 167 RX4 yX4_cutStrand wsX4_cutStrand) := goodIn_app (goodIn_of _ (by decide +kernel)) ggX4_drawMetre_X4_cutStrand
theorem dX4_drawMetre_0 : decode cX4_drawMetre 0 = .ok (.aload_n 0, 1) := by decide +kernel
theorem dX4_drawMetre_1 : decode cX4_drawMetre 1 = .ok (.getfield 20, 3) := by decide +kernel
theorem dX4_drawMetre_4 : decode cX4_drawMetre 4 = .ok (.invokevirtual 140, 3) := by decide +kernel
theorem dX4_drawMetre_7 : decode cX4_drawMetre 7 = .ok (.istore_n 2, 1) := by decide +kernel
theorem dX4_drawMetre_8 : decode cX4_drawMetre 8 = .ok (.aload_n 0, 1) := by decide +kernel
theorem dX4_drawMetre_9 : decode cX4_drawMetre 9 = .ok (.getfield 20, 3) := by decide +kernel
theorem dX4_drawMetre_12 : decode cX4_drawMetre 12 = .ok (.getfield 73, 3) := by decide +kernel
theorem dX4_drawMetre_15 : decode cX4_drawMetre 15 = .ok (.istore_n 3, 1) := by decide +kernel
theorem dX4_drawMetre_16 : decode cX4_drawMetre 16 = .ok (.aload_n 0, 1) := by decide +kernel
theorem dX4_drawMetre_17 : decode cX4_drawMetre 17 = .ok (.getfield 29, 3) := by decide +kernel
theorem dX4_drawMetre_20 : decode cX4_drawMetre 20 = .ok (.getfield 79, 3) := by decide +kernel
theorem dX4_drawMetre_23 : decode cX4_drawMetre 23 = .ok (.istore 4, 2) := by decide +kernel
theorem dX4_drawMetre_25 : decode cX4_drawMetre 25 = .ok (.aload_n 0, 1) := by decide +kernel
theorem dX4_drawMetre_26 : decode cX4_drawMetre 26 = .ok (.getfield 29, 3) := by decide +kernel
theorem dX4_drawMetre_29 : decode cX4_drawMetre 29 = .ok (.iload_n 2, 1) := by decide +kernel
theorem dX4_drawMetre_30 : decode cX4_drawMetre 30 = .ok (.iload_n 3, 1) := by decide +kernel
theorem dX4_drawMetre_31 : decode cX4_drawMetre 31 = .ok (.invokevirtual 193, 3) := by decide +kernel
theorem dX4_drawMetre_34 : decode cX4_drawMetre 34 = .ok (.aload_n 1, 1) := by decide +kernel
theorem dX4_drawMetre_35 : decode cX4_drawMetre 35 = .ok (.dup, 1) := by decide +kernel
theorem dX4_drawMetre_36 : decode cX4_drawMetre 36 = .ok (.getfield 197, 3) := by decide +kernel
theorem dX4_drawMetre_39 : decode cX4_drawMetre 39 = .ok (.iload_n 2, 1) := by decide +kernel
theorem dX4_drawMetre_40 : decode cX4_drawMetre 40 = .ok (.iadd, 1) := by decide +kernel
theorem dX4_drawMetre_41 : decode cX4_drawMetre 41 = .ok (.putfield 197, 3) := by decide +kernel
theorem dX4_drawMetre_44 : decode cX4_drawMetre 44 = .ok (.aload_n 0, 1) := by decide +kernel
theorem dX4_drawMetre_45 : decode cX4_drawMetre 45 = .ok (.dup, 1) := by decide +kernel
theorem dX4_drawMetre_46 : decode cX4_drawMetre 46 = .ok (.getfield 200, 3) := by decide +kernel
theorem dX4_drawMetre_49 : decode cX4_drawMetre 49 = .ok (.iconst 1, 1) := by decide +kernel
theorem dX4_drawMetre_50 : decode cX4_drawMetre 50 = .ok (.iadd, 1) := by decide +kernel
theorem dX4_drawMetre_51 : decode cX4_drawMetre 51 = .ok (.putfield 200, 3) := by decide +kernel
theorem dX4_drawMetre_54 : decode cX4_drawMetre 54 = .ok (.iconst 0, 1) := by decide +kernel
theorem dX4_drawMetre_55 : decode cX4_drawMetre 55 = .ok (.istore 5, 2) := by decide +kernel
theorem dX4_drawMetre_57 : decode cX4_drawMetre 57 = .ok (.iload 5, 2) := by decide +kernel
theorem dX4_drawMetre_59 : decode cX4_drawMetre 59 = .ok (.iload_n 3, 1) := by decide +kernel
theorem dX4_drawMetre_60 : decode cX4_drawMetre 60 = .ok (.if_icmp .ge 22, 3) := by decide +kernel
theorem dX4_drawMetre_63 : decode cX4_drawMetre 63 = .ok (.aload_n 0, 1) := by decide +kernel
theorem dX4_drawMetre_64 : decode cX4_drawMetre 64 = .ok (.aload_n 0, 1) := by decide +kernel
theorem dX4_drawMetre_65 : decode cX4_drawMetre 65 = .ok (.getfield 20, 3) := by decide +kernel
theorem dX4_drawMetre_68 : decode cX4_drawMetre 68 = .ok (.invokevirtual 97, 3) := by decide +kernel
theorem dX4_drawMetre_71 : decode cX4_drawMetre 71 = .ok (.iload 4, 2) := by decide +kernel
theorem dX4_drawMetre_73 : decode cX4_drawMetre 73 = .ok (.invokevirtual 203, 3) := by decide +kernel
theorem dX4_drawMetre_76 : decode cX4_drawMetre 76 = .ok (.iinc 5 1, 3) := by decide +kernel
theorem dX4_drawMetre_79 : decode cX4_drawMetre 79 = .ok (.goto (-22), 3) := by decide +kernel
theorem dX4_drawMetre_82 : decode cX4_drawMetre 82 = .ok (.aload_n 0, 1) := by decide +kernel
theorem dX4_drawMetre_83 : decode cX4_drawMetre 83 = .ok (.getfield 29, 3) := by decide +kernel
theorem dX4_drawMetre_86 : decode cX4_drawMetre 86 = .ok (.getfield 79, 3) := by decide +kernel
theorem dX4_drawMetre_89 : decode cX4_drawMetre 89 = .ok (.sipush 300, 3) := by decide +kernel
theorem dX4_drawMetre_92 : decode cX4_drawMetre 92 = .ok (.if_icmp .lt 9, 3) := by decide +kernel
theorem dX4_drawMetre_95 : decode cX4_drawMetre 95 = .ok (.aload_n 0, 1) := by decide +kernel
theorem dX4_drawMetre_96 : decode cX4_drawMetre 96 = .ok (.aload_n 1, 1) := by decide +kernel
theorem dX4_drawMetre_97 : decode cX4_drawMetre 97 = .ok (.invokevirtual 167, 3) := by decide +kernel
theorem dX4_drawMetre_100 : decode cX4_drawMetre 100 = .ok (.pop, 1) := by decide +kernel
theorem dX4_drawMetre_101 : decode cX4_drawMetre 101 = .ok (.return_, 1) := by decide +kernel
set_option maxRecDepth 20000 in
theorem ggX4_drawEnd_X9_addMetreOf : GoodIn wsX4_drawEnd wsX9_addMetreOf := goodIn_h _ [8, 0, 0, 0, 0, 0, 0, 0, 0, 0, 0, 0, 0, 0, 0, 0, 0, 0, 0, 0, 0, 0, 0, 0, 0, 0, 0, 0, 0, 0, 0, 0, 0, 0, 0, 0, 0, 0, 0, 0, 41, 0, 0, 0, 0, 0, 0, 0, 0, 0, 0, 0, 0, 0, 0, 0, 0, 0, 0] [1, 2, 3, 4, 5, 6, 7, 8, 9, 10, 11, 12, 13, 14, 15, 16, 17, 18, 0, 19, 20, 21, 22, 23, 24, 25, 26, 27, 28, 29, 30, 31, 32, 33, 34, 35, 36, 37, 38, 39, 40, 41, 42, 43, 44, 45, 46, 47, 48, 49, 50, 51, 52, 53, 54, 55, 56, 57, 58] (by decide +kernel) (by decide +kernel)
set_option maxRecDepth 20000 in
theorem gX4_drawEnd_X9_addMetreOf : GoodIn wsX4_drawEnd (wsV RX4 207 RX9 yX9_addMetreOf wsX9_addMetreOf) := goodIn_app (goodIn_of _ (by decide +kernel)) ggX4_drawEnd_X9_addMetreOf
set_option maxRecDepth 20000 in
theorem ggX4_drawEnd_X0_drawOneMetre : GoodIn wsX4_drawEnd wsX0_drawOneMetre := goodIn_h _ [20, 2, 27, 0, 0, 0, 0, 0, 0, 0, 0, 0, 0, 0, 0, 0, 24, 0, 0, 0, 0, 0, 0, 0, 0, 0] [2, 3, 4, 5, 6, 7, 8, 0, 9, 10, 1, 11, 12, 13, 14, 15, 16, 17, 18, 19, 20, 21, 22, 23, 24, 25] (by decide +kernel) (by decide +kernel)
set_option maxRecDepth 20000 in
theorem gX4_drawEnd_X0_drawOneMetre : GoodIn wsX4_drawEnd (wsV RX4 210 RX0 yX0_drawOneMetre wsX0_drawOneMetre) := goodIn_app (goodIn_of _ (by decide +kernel)) ggX4_drawEnd_X0_drawOneMetre
set_option maxRecDepth 20000 in
theorem ggX4_drawEnd_X5_addLast : GoodIn wsX4_drawEnd wsX5_addLast := goodIn_h _ [68, 0, 0, 0, 0, 0, 0, 0, 0, 31, 0, 0] [1, 2, 3, 4, 5, 6, 0, 7, 8, 9, 10, 11] (by decide +kernel) (by decide +kernel)
set_option maxRecDepth 20000 in
theorem gX4_drawEnd_X5_addLast : GoodIn wsX4_drawEnd (wsV RX4 56 RX5 yX5_addLast wsX5_addLast) := goodIn_app (goodIn_of _ (by decide +kernel)) ggX4_drawEnd_X5_addLast
theorem dX4_drawEnd_0 : decode cX4_drawEnd 0 = .ok (.aload_n 1, 1) := by decide +kernel
theorem dX4_drawEnd_1 : decode cX4_drawEnd 1 = .ok (.ifnonnull 4, 3) := by decide +kernel
theorem dX4_drawEnd_4 : decode cX4_drawEnd 4 = .ok (.return_, 1) := by decide +kernel
theorem dX4_drawEnd_5 : decode cX4_drawEnd 5 = .ok (.aload_n 0, 1) := by decide +kernel
theorem dX4_drawEnd_6 : decode cX4_drawEnd 6 = .ok (.getfield 29, 3) := by decide +kernel
theorem dX4_drawEnd_9 : decode cX4_drawEnd 9 = .ok (.aload_n 1, 1) := by decide +kernel
theorem dX4_drawEnd_10 : decode cX4_drawEnd 10 = .ok (.iload_n 2, 1) := by decide +kernel
theorem dX4_drawEnd_11 : decode cX4_drawEnd 11 = .ok (.invokevirtual 207, 3) := by decide +kernel
theorem dX4_drawEnd_14 : decode cX4_drawEnd 14 = .ok (.aload_n 1, 1) := by decide +kernel
theorem dX4_drawEnd_15 : decode cX4_drawEnd 15 = .ok (.invokevirtual 210, 3) := by decide +kernel
theorem dX4_drawEnd_18 : decode cX4_drawEnd 18 = .ok (.aload_n 1, 1) := by decide +kernel
theorem dX4_drawEnd_19 : decode cX4_drawEnd 19 = .ok (.getfield 53, 3) := by decide +kernel
theorem dX4_drawEnd_22 : decode cX4_drawEnd 22 = .ok (.iconst 2, 1) := by decide +kernel
theorem dX4_drawEnd_23 : decode cX4_drawEnd 23 = .ok (.if_icmp .ne 14, 3) := by decide +kernel
theorem dX4_drawEnd_26 : decode cX4_drawEnd 26 = .ok (.aload_n 0, 1) := by decide +kernel
theorem dX4_drawEnd_27 : decode cX4_drawEnd 27 = .ok (.getfield 20, 3) := by decide +kernel
theorem dX4_drawEnd_30 : decode cX4_drawEnd 30 = .ok (.aload_n 1, 1) := by decide +kernel
theorem dX4_drawEnd_31 : decode cX4_drawEnd 31 = .ok (.invokevirtual 56, 3) := by decide +kernel
theorem dX4_drawEnd_34 : decode cX4_drawEnd 34 = .ok (.goto 19, 3) := by decide +kernel
theorem dX4_drawEnd_37 : decode cX4_drawEnd 37 = .ok (.aload_n 1, 1) := by decide +kernel
theorem dX4_drawEnd_38 : decode cX4_drawEnd 38 = .ok (.getfield 53, 3) := by decide +kernel
theorem dX4_drawEnd_41 : decode cX4_drawEnd 41 = .ok (.iconst 3, 1) := by decide +kernel
theorem dX4_drawEnd_42 : decode cX4_drawEnd 42 = .ok (.if_icmp .ne 11, 3) := by decide +kernel
theorem dX4_drawEnd_45 : decode cX4_drawEnd 45 = .ok (.aload_n 0, 1) := by decide +kernel
theorem dX4_drawEnd_46 : decode cX4_drawEnd 46 = .ok (.getfield 23, 3) := by decide +kernel
theorem dX4_drawEnd_49 : decode cX4_drawEnd 49 = .ok (.aload_n 1, 1) := by decide +kernel
theorem dX4_drawEnd_50 : decode cX4_drawEnd 50 = .ok (.invokevirtual 56, 3) := by decide +kernel
theorem dX4_drawEnd_53 : decode cX4_drawEnd 53 = .ok (.return_, 1) := by decide +kernel
set_option maxRecDepth 20000 in
theorem ggX8_keep_X9_init_ : GoodIn wsX8_keep wsX9_init_ := goodIn_h _ [15, 0, 0, 0, 0, 0, 0, 0, 0, 0, 0, 0, 0, 0, 0, 0, 0, 0, 0, 0, 0, 0, 0, 0, 0, 0, 0, 0, 0, 0, 0, 0, 0, 0, 0, 32, 0, 0, 0, 0, 0, 0, 0, 0] [0, 1, 2, 3, 4, 5, 6, 7, 8, 9, 10, 11, 12, 13, 14, 15, 16, 17, 18, 19, 20, 21, 22, 23, 24, 25, 26, 27, 28, 29, 30, 31, 32, 33, 34, 35, 36, 37, 38, 39, 40, 41, 42, 43] (by decide +kernel) (by decide +kernel)
set_option maxRecDepth 20000 in
theorem gX8_keep_X9_init_ : GoodIn wsX8_keep (wsX9_init_) := ggX8_keep_X9_init_
set_option maxRecDepth 20000 in
theorem ggX8_keep_X7_init : GoodIn wsX8_keep wsX7_init := goodIn_h _ [17, 0, 2, 0, 0, 20, 0, 6, 0, 0, 0, 0, 0, 0, 0, 0, 0, 0, 0, 0, 0, 0, 0, 0, 13, 0, 0, 0, 0, 0, 0, 0, 0, 0, 0, 0, 0, 0, 0, 0, 0, 0, 0] [7, 8, 0, 1, 9, 10, 11, 12, 13, 14, 15, 16, 5, 3, 6, 17, 2, 4, 18, 19, 20, 21, 22, 23, 33, 34, 35, 36, 37, 38, 39, 40, 41, 42, 24, 25, 26, 27, 28, 29, 30, 31, 32] (by decide +kernel) (by decide +kernel)
set_option maxRecDepth 20000 in
theorem gX8_keep_X7_init : GoodIn wsX8_keep (wsX7_init) := ggX8_keep_X7_init
theorem dX8_keep_0 : decode cX8_keep 0 = .ok (.aload_n 0, 1) := by decide +kernel
theorem dX8_keep_1 : decode cX8_keep 1 = .ok (.getfield 37, 3) := by decide +kernel
theorem dX8_keep_4 : decode cX8_keep 4 = .ok (.bipush 40, 2) := by decide +kernel
theorem dX8_keep_6 : decode cX8_keep 6 = .ok (.if_icmp .lt 19, 3) := by decide +kernel
theorem dX8_keep_9 : decode cX8_keep 9 = .ok (.aload_n 0, 1) := by decide +kernel
theorem dX8_keep_10 : decode cX8_keep 10 = .ok (.dup, 1) := by decide +kernel
theorem dX8_keep_11 : decode cX8_keep 11 = .ok (.getfield 41, 3) := by decide +kernel
theorem dX8_keep_14 : decode cX8_keep 14 = .ok (.aload_n 1, 1) := by decide +kernel
theorem dX8_keep_15 : decode cX8_keep 15 = .ok (.getfield 44, 3) := by decide +kernel
theorem dX8_keep_18 : decode cX8_keep 18 = .ok (.iadd, 1) := by decide +kernel
theorem dX8_keep_19 : decode cX8_keep 19 = .ok (.putfield 41, 3) := by decide +kernel
theorem dX8_keep_22 : decode cX8_keep 22 = .ok (.bipush (-2), 2) := by decide +kernel
theorem dX8_keep_24 : decode cX8_keep 24 = .ok (.ireturn, 1) := by decide +kernel
theorem dX8_keep_25 : decode cX8_keep 25 = .ok (.aload_n 0, 1) := by decide +kernel
theorem dX8_keep_26 : decode cX8_keep 26 = .ok (.getfield 17, 3) := by decide +kernel
theorem dX8_keep_29 : decode cX8_keep 29 = .ok (.aload_n 0, 1) := by decide +kernel
theorem dX8_keep_30 : decode cX8_keep 30 = .ok (.getfield 37, 3) := by decide +kernel
theorem dX8_keep_33 : decode cX8_keep 33 = .ok (.new 15, 3) := by decide +kernel
theorem dX8_keep_36 : decode cX8_keep 36 = .ok (.dup, 1) := by decide +kernel
theorem dX8_keep_37 : decode cX8_keep 37 = .ok (.new 45, 3) := by decide +kernel
theorem dX8_keep_40 : decode cX8_keep 40 = .ok (.dup, 1) := by decide +kernel
theorem dX8_keep_41 : decode cX8_keep 41 = .ok (.aload_n 1, 1) := by decide +kernel
theorem dX8_keep_42 : decode cX8_keep 42 = .ok (.invokespecial 49, 3) := by decide +kernel
theorem dX8_keep_45 : decode cX8_keep 45 = .ok (.iload_n 2, 1) := by decide +kernel
theorem dX8_keep_46 : decode cX8_keep 46 = .ok (.iload_n 3, 1) := by decide +kernel
theorem dX8_keep_47 : decode cX8_keep 47 = .ok (.aload_n 0, 1) := by decide +kernel
theorem dX8_keep_48 : decode cX8_keep 48 = .ok (.getfield 52, 3) := by decide +kernel
theorem dX8_keep_51 : decode cX8_keep 51 = .ok (.invokespecial 55, 3) := by decide +kernel
theorem dX8_keep_54 : decode cX8_keep 54 = .ok (.aastore, 1) := by decide +kernel
theorem dX8_keep_55 : decode cX8_keep 55 = .ok (.aload_n 0, 1) := by decide +kernel
theorem dX8_keep_56 : decode cX8_keep 56 = .ok (.dup, 1) := by decide +kernel
theorem dX8_keep_57 : decode cX8_keep 57 = .ok (.getfield 58, 3) := by decide +kernel
theorem dX8_keep_60 : decode cX8_keep 60 = .ok (.aload_n 1, 1) := by decide +kernel
theorem dX8_keep_61 : decode cX8_keep 61 = .ok (.getfield 44, 3) := by decide +kernel
theorem dX8_keep_64 : decode cX8_keep 64 = .ok (.iadd, 1) := by decide +kernel
theorem dX8_keep_65 : decode cX8_keep 65 = .ok (.putfield 58, 3) := by decide +kernel
theorem dX8_keep_68 : decode cX8_keep 68 = .ok (.aload_n 0, 1) := by decide +kernel
theorem dX8_keep_69 : decode cX8_keep 69 = .ok (.dup, 1) := by decide +kernel
theorem dX8_keep_70 : decode cX8_keep 70 = .ok (.getfield 37, 3) := by decide +kernel
theorem dX8_keep_73 : decode cX8_keep 73 = .ok (.iconst 1, 1) := by decide +kernel
theorem dX8_keep_74 : decode cX8_keep 74 = .ok (.iadd, 1) := by decide +kernel
theorem dX8_keep_75 : decode cX8_keep 75 = .ok (.putfield 37, 3) := by decide +kernel
theorem dX8_keep_78 : decode cX8_keep 78 = .ok (.aload_n 0, 1) := by decide +kernel
theorem dX8_keep_79 : decode cX8_keep 79 = .ok (.getfield 37, 3) := by decide +kernel
theorem dX8_keep_82 : decode cX8_keep 82 = .ok (.iconst 1, 1) := by decide +kernel
theorem dX8_keep_83 : decode cX8_keep 83 = .ok (.isub, 1) := by decide +kernel
theorem dX8_keep_84 : decode cX8_keep 84 = .ok (.ireturn, 1) := by decide +kernel
set_option maxRecDepth 20000 in
theorem ggX9_addMetreOf_X0_code : GoodIn wsX9_addMetreOf wsX0_code := goodIn_h _ [12, 0, 0, 25, 0, 0, 0, 0, 0, 0, 0, 0, 0] [0, 1, 2, 3, 4, 5, 6, 7, 8, 9, 10, 11, 12] (by decide +kernel) (by decide +kernel)
set_option maxRecDepth 20000 in
theorem gX9_addMetreOf_X0_code : GoodIn wsX9_addMetreOf (wsV RX9 57 RX0 yX0_code wsX0_code) := goodIn_app (goodIn_of _ (by decide +kernel)) ggX9_addMetreOf_X0_code
set_option maxRecDepth 20000 in
theorem ggX9_addMetreOf_X9_makeRoomForPiece : GoodIn wsX9_addMetreOf wsX9_makeRoomForPiece := goodIn_h _ [2, 0, 0, 0, 0, 12, 0, 0, 0, 0, 0, 0, 0, 0, 0, 0, 0, 0, 0, 0, 0, 0, 0, 0, 0, 0, 10, 0, 0, 0, 0, 0, 0, 0, 0] [5, 0, 1, 6, 7, 8, 9, 2, 3, 4, 10, 11, 12, 13, 14, 15, 16, 17, 18, 19, 20, 21, 22, 23, 24, 25, 26, 27, 28, 29, 30, 31, 32, 33, 34] (by decide +kernel) (by decide +kernel)
set_option maxRecDepth 20000 in
theorem gX9_addMetreOf_X9_makeRoomForPiece : GoodIn wsX9_addMetreOf (wsV RX9 61 RX9 yX9_makeRoomForPiece wsX9_makeRoomForPiece) := goodIn_app (goodIn_of _ (by decide +kernel)) ggX9_addMetreOf_X9_makeRoomForPiece
theorem dX9_addMetreOf_0 : decode cX9_addMetreOf 0 = .ok (.aload_n 1, 1) := by decide +kernel
theorem dX9_addMetreOf_1 : decode cX9_addMetreOf 1 = .ok (.getfield 52, 3) := by decide +kernel
theorem dX9_addMetreOf_4 : decode cX9_addMetreOf 4 = .ok (.istore_n 3, 1) := by decide +kernel
theorem dX9_addMetreOf_5 : decode cX9_addMetreOf 5 = .ok (.iload_n 3, 1) := by decide +kernel
theorem dX9_addMetreOf_6 : decode cX9_addMetreOf 6 = .ok (.ifCond .lt 52, 3) := by decide +kernel
theorem dX9_addMetreOf_9 : decode cX9_addMetreOf 9 = .ok (.iload_n 3, 1) := by decide +kernel
theorem dX9_addMetreOf_10 : decode cX9_addMetreOf 10 = .ok (.aload_n 0, 1) := by decide +kernel
theorem dX9_addMetreOf_11 : decode cX9_addMetreOf 11 = .ok (.getfield 43, 3) := by decide +kernel
theorem dX9_addMetreOf_14 : decode cX9_addMetreOf 14 = .ok (.if_icmp .ge 44, 3) := by decide +kernel
theorem dX9_addMetreOf_17 : decode cX9_addMetreOf 17 = .ok (.aload_n 0, 1) := by decide +kernel
theorem dX9_addMetreOf_18 : decode cX9_addMetreOf 18 = .ok (.getfield 18, 3) := by decide +kernel
theorem dX9_addMetreOf_21 : decode cX9_addMetreOf 21 = .ok (.iload_n 3, 1) := by decide +kernel
theorem dX9_addMetreOf_22 : decode cX9_addMetreOf 22 = .ok (.iaload, 1) := by decide +kernel
theorem dX9_addMetreOf_23 : decode cX9_addMetreOf 23 = .ok (.aload_n 1, 1) := by decide +kernel
theorem dX9_addMetreOf_24 : decode cX9_addMetreOf 24 = .ok (.invokevirtual 57, 3) := by decide +kernel
theorem dX9_addMetreOf_27 : decode cX9_addMetreOf 27 = .ok (.if_icmp .ne 31, 3) := by decide +kernel
theorem dX9_addMetreOf_30 : decode cX9_addMetreOf 30 = .ok (.aload_n 0, 1) := by decide +kernel
theorem dX9_addMetreOf_31 : decode cX9_addMetreOf 31 = .ok (.getfield 21, 3) := by decide +kernel
theorem dX9_addMetreOf_34 : decode cX9_addMetreOf 34 = .ok (.iload_n 3, 1) := by decide +kernel
theorem dX9_addMetreOf_35 : decode cX9_addMetreOf 35 = .ok (.iaload, 1) := by decide +kernel
theorem dX9_addMetreOf_36 : decode cX9_addMetreOf 36 = .ok (.aload_n 0, 1) := by decide +kernel
theorem dX9_addMetreOf_37 : decode cX9_addMetreOf 37 = .ok (.getfield 24, 3) := by decide +kernel
theorem dX9_addMetreOf_40 : decode cX9_addMetreOf 40 = .ok (.iload_n 3, 1) := by decide +kernel
theorem dX9_addMetreOf_41 : decode cX9_addMetreOf 41 = .ok (.iaload, 1) := by decide +kernel
theorem dX9_addMetreOf_42 : decode cX9_addMetreOf 42 = .ok (.iadd, 1) := by decide +kernel
theorem dX9_addMetreOf_43 : decode cX9_addMetreOf 43 = .ok (.iload_n 2, 1) := by decide +kernel
theorem dX9_addMetreOf_44 : decode cX9_addMetreOf 44 = .ok (.if_icmp .ne 14, 3) := by decide +kernel
theorem dX9_addMetreOf_47 : decode cX9_addMetreOf 47 = .ok (.aload_n 0, 1) := by decide +kernel
theorem dX9_addMetreOf_48 : decode cX9_addMetreOf 48 = .ok (.getfield 24, 3) := by decide +kernel
theorem dX9_addMetreOf_51 : decode cX9_addMetreOf 51 = .ok (.iload_n 3, 1) := by decide +kernel
theorem dX9_addMetreOf_52 : decode cX9_addMetreOf 52 = .ok (.dup2, 1) := by decide +kernel
theorem dX9_addMetreOf_53 : decode cX9_addMetreOf 53 = .ok (.iaload, 1) := by decide +kernel
theorem dX9_addMetreOf_54 : decode cX9_addMetreOf 54 = .ok (.iconst 1, 1) := by decide +kernel
theorem dX9_addMetreOf_55 : decode cX9_addMetreOf 55 = .ok (.iadd, 1) := by decide +kernel
theorem dX9_addMetreOf_56 : decode cX9_addMetreOf 56 = .ok (.iastore, 1) := by decide +kernel
theorem dX9_addMetreOf_57 : decode cX9_addMetreOf 57 = .ok (.return_, 1) := by decide +kernel
theorem dX9_addMetreOf_58 : decode cX9_addMetreOf 58 = .ok (.aload_n 0, 1) := by decide +kernel
theorem dX9_addMetreOf_59 : decode cX9_addMetreOf 59 = .ok (.getfield 43, 3) := by decide +kernel
theorem dX9_addMetreOf_62 : decode cX9_addMetreOf 62 = .ok (.sipush 3600, 3) := by decide +kernel
theorem dX9_addMetreOf_65 : decode cX9_addMetreOf 65 = .ok (.if_icmp .lt 4, 3) := by decide +kernel
theorem dX9_addMetreOf_68 : decode cX9_addMetreOf 68 = .ok (.return_, 1) := by decide +kernel
theorem dX9_addMetreOf_69 : decode cX9_addMetreOf 69 = .ok (.aload_n 0, 1) := by decide +kernel
theorem dX9_addMetreOf_70 : decode cX9_addMetreOf 70 = .ok (.invokevirtual 61, 3) := by decide +kernel
theorem dX9_addMetreOf_73 : decode cX9_addMetreOf 73 = .ok (.aload_n 0, 1) := by decide +kernel
theorem dX9_addMetreOf_74 : decode cX9_addMetreOf 74 = .ok (.getfield 18, 3) := by decide +kernel
theorem dX9_addMetreOf_77 : decode cX9_addMetreOf 77 = .ok (.aload_n 0, 1) := by decide +kernel
theorem dX9_addMetreOf_78 : decode cX9_addMetreOf 78 = .ok (.getfield 43, 3) := by decide +kernel
theorem dX9_addMetreOf_81 : decode cX9_addMetreOf 81 = .ok (.aload_n 1, 1) := by decide +kernel
theorem dX9_addMetreOf_82 : decode cX9_addMetreOf 82 = .ok (.invokevirtual 57, 3) := by decide +kernel
theorem dX9_addMetreOf_85 : decode cX9_addMetreOf 85 = .ok (.iastore, 1) := by decide +kernel
theorem dX9_addMetreOf_86 : decode cX9_addMetreOf 86 = .ok (.aload_n 0, 1) := by decide +kernel
theorem dX9_addMetreOf_87 : decode cX9_addMetreOf 87 = .ok (.getfield 21, 3) := by decide +kernel
theorem dX9_addMetreOf_90 : decode cX9_addMetreOf 90 = .ok (.aload_n 0, 1) := by decide +kernel
theorem dX9_addMetreOf_91 : decode cX9_addMetreOf 91 = .ok (.getfield 43, 3) := by decide +kernel
theorem dX9_addMetreOf_94 : decode cX9_addMetreOf 94 = .ok (.iload_n 2, 1) := by decide +kernel
theorem dX9_addMetreOf_95 : decode cX9_addMetreOf 95 = .ok (.iastore, 1) := by decide +kernel
theorem dX9_addMetreOf_96 : decode cX9_addMetreOf 96 = .ok (.aload_n 0, 1) := by decide +kernel
theorem dX9_addMetreOf_97 : decode cX9_addMetreOf 97 = .ok (.getfield 24, 3) := by decide +kernel
theorem dX9_addMetreOf_100 : decode cX9_addMetreOf 100 = .ok (.aload_n 0, 1) := by decide +kernel
theorem dX9_addMetreOf_101 : decode cX9_addMetreOf 101 = .ok (.getfield 43, 3) := by decide +kernel
theorem dX9_addMetreOf_104 : decode cX9_addMetreOf 104 = .ok (.iconst 1, 1) := by decide +kernel
theorem dX9_addMetreOf_105 : decode cX9_addMetreOf 105 = .ok (.iastore, 1) := by decide +kernel
theorem dX9_addMetreOf_106 : decode cX9_addMetreOf 106 = .ok (.aload_n 0, 1) := by decide +kernel
theorem dX9_addMetreOf_107 : decode cX9_addMetreOf 107 = .ok (.getfield 27, 3) := by decide +kernel
theorem dX9_addMetreOf_110 : decode cX9_addMetreOf 110 = .ok (.aload_n 0, 1) := by decide +kernel
theorem dX9_addMetreOf_111 : decode cX9_addMetreOf 111 = .ok (.getfield 43, 3) := by decide +kernel
theorem dX9_addMetreOf_114 : decode cX9_addMetreOf 114 = .ok (.aload_n 1, 1) := by decide +kernel
theorem dX9_addMetreOf_115 : decode cX9_addMetreOf 115 = .ok (.getfield 64, 3) := by decide +kernel
theorem dX9_addMetreOf_118 : decode cX9_addMetreOf 118 = .ok (.iastore, 1) := by decide +kernel
theorem dX9_addMetreOf_119 : decode cX9_addMetreOf 119 = .ok (.aload_n 1, 1) := by decide +kernel
theorem dX9_addMetreOf_120 : decode cX9_addMetreOf 120 = .ok (.aload_n 0, 1) := by decide +kernel
theorem dX9_addMetreOf_121 : decode cX9_addMetreOf 121 = .ok (.getfield 43, 3) := by decide +kernel
theorem dX9_addMetreOf_124 : decode cX9_addMetreOf 124 = .ok (.putfield 52, 3) := by decide +kernel
theorem dX9_addMetreOf_127 : decode cX9_addMetreOf 127 = .ok (.aload_n 0, 1) := by decide +kernel
theorem dX9_addMetreOf_128 : decode cX9_addMetreOf 128 = .ok (.dup, 1) := by decide +kernel
theorem dX9_addMetreOf_129 : decode cX9_addMetreOf 129 = .ok (.getfield 43, 3) := by decide +kernel
theorem dX9_addMetreOf_132 : decode cX9_addMetreOf 132 = .ok (.iconst 1, 1) := by decide +kernel
theorem dX9_addMetreOf_133 : decode cX9_addMetreOf 133 = .ok (.iadd, 1) := by decide +kernel
theorem dX9_addMetreOf_134 : decode cX9_addMetreOf 134 = .ok (.putfield 43, 3) := by decide +kernel
theorem dX9_addMetreOf_137 : decode cX9_addMetreOf 137 = .ok (.return_, 1) := by decide +kernel
set_option maxRecDepth 20000 in
theorem ggX9_makeRoomForPiece_J7_copyOf_59c91 : GoodIn wsX9_makeRoomForPiece wsJ7_copyOf_59c91 := goodIn_h _ [4, 0, 0, 6, 0, 0, 0, 0, 0, 0, 0, 0, 0, 0, 0, 0] [3, 4, 5, 6, 7, 8, 9, 10, 11, 0, 1, 2, 12, 13, 14, 15] (by decide +kernel) (by decide +kernel)
set_option maxRecDepth 20000 in
theorem gX9_makeRoomForPiece_J7_copyOf_59c91 : GoodIn wsX9_makeRoomForPiece (va_wsS RX9 46 yJ7_copyOf_59c91 wsJ7_copyOf_59c91) := goodIn_app (goodIn_of _ (by decide +kernel)) ggX9_makeRoomForPiece_J7_copyOf_59c91
theorem dX9_makeRoomForPiece_0 : decode cX9_makeRoomForPiece 0 = .ok (.aload_n 0, 1) := by decide +kernel
theorem dX9_makeRoomForPiece_1 : decode cX9_makeRoomForPiece 1 = .ok (.getfield 43, 3) := by decide +kernel
theorem dX9_makeRoomForPiece_4 : decode cX9_makeRoomForPiece 4 = .ok (.aload_n 0, 1) := by decide +kernel
theorem dX9_makeRoomForPiece_5 : decode cX9_makeRoomForPiece 5 = .ok (.getfield 18, 3) := by decide +kernel
theorem dX9_makeRoomForPiece_8 : decode cX9_makeRoomForPiece 8 = .ok (.arraylength, 1) := by decide +kernel
theorem dX9_makeRoomForPiece_9 : decode cX9_makeRoomForPiece 9 = .ok (.if_icmp .ge 4, 3) := by decide +kernel
theorem dX9_makeRoomForPiece_12 : decode cX9_makeRoomForPiece 12 = .ok (.return_, 1) := by decide +kernel
theorem dX9_makeRoomForPiece_13 : decode cX9_makeRoomForPiece 13 = .ok (.sipush 3600, 3) := by decide +kernel
theorem dX9_makeRoomForPiece_16 : decode cX9_makeRoomForPiece 16 = .ok (.iconst 2, 1) := by decide +kernel
theorem dX9_makeRoomForPiece_17 : decode cX9_makeRoomForPiece 17 = .ok (.aload_n 0, 1) := by decide +kernel
theorem dX9_makeRoomForPiece_18 : decode cX9_makeRoomForPiece 18 = .ok (.getfield 43, 3) := by decide +kernel
theorem dX9_makeRoomForPiece_21 : decode cX9_makeRoomForPiece 21 = .ok (.imul, 1) := by decide +kernel
theorem dX9_makeRoomForPiece_22 : decode cX9_makeRoomForPiece 22 = .ok (.iconst 1, 1) := by decide +kernel
theorem dX9_makeRoomForPiece_23 : decode cX9_makeRoomForPiece 23 = .ok (.iadd, 1) := by decide +kernel
theorem dX9_makeRoomForPiece_24 : decode cX9_makeRoomForPiece 24 = .ok (.invokestatic 67, 3) := by decide +kernel
theorem dX9_makeRoomForPiece_27 : decode cX9_makeRoomForPiece 27 = .ok (.istore_n 1, 1) := by decide +kernel
theorem dX9_makeRoomForPiece_28 : decode cX9_makeRoomForPiece 28 = .ok (.aload_n 0, 1) := by decide +kernel
theorem dX9_makeRoomForPiece_29 : decode cX9_makeRoomForPiece 29 = .ok (.aload_n 0, 1) := by decide +kernel
theorem dX9_makeRoomForPiece_30 : decode cX9_makeRoomForPiece 30 = .ok (.getfield 18, 3) := by decide +kernel
theorem dX9_makeRoomForPiece_33 : decode cX9_makeRoomForPiece 33 = .ok (.iload_n 1, 1) := by decide +kernel
theorem dX9_makeRoomForPiece_34 : decode cX9_makeRoomForPiece 34 = .ok (.invokestatic 46, 3) := by decide +kernel
theorem dX9_makeRoomForPiece_37 : decode cX9_makeRoomForPiece 37 = .ok (.putfield 18, 3) := by decide +kernel
theorem dX9_makeRoomForPiece_40 : decode cX9_makeRoomForPiece 40 = .ok (.aload_n 0, 1) := by decide +kernel
theorem dX9_makeRoomForPiece_41 : decode cX9_makeRoomForPiece 41 = .ok (.aload_n 0, 1) := by decide +kernel
theorem dX9_makeRoomForPiece_42 : decode cX9_makeRoomForPiece 42 = .ok (.getfield 21, 3) := by decide +kernel
theorem dX9_makeRoomForPiece_45 : decode cX9_makeRoomForPiece 45 = .ok (.iload_n 1, 1) := by decide +kernel
theorem dX9_makeRoomForPiece_46 : decode cX9_makeRoomForPiece 46 = .ok (.invokestatic 46, 3) := by decide +kernel
theorem dX9_makeRoomForPiece_49 : decode cX9_makeRoomForPiece 49 = .ok (.putfield 21, 3) := by decide +kernel
theorem dX9_makeRoomForPiece_52 : decode cX9_makeRoomForPiece 52 = .ok (.aload_n 0, 1) := by decide +kernel
theorem dX9_makeRoomForPiece_53 : decode cX9_makeRoomForPiece 53 = .ok (.aload_n 0, 1) := by decide +kernel
theorem dX9_makeRoomForPiece_54 : decode cX9_makeRoomForPiece 54 = .ok (.getfield 24, 3) := by decide +kernel
theorem dX9_makeRoomForPiece_57 : decode cX9_makeRoomForPiece 57 = .ok (.iload_n 1, 1) := by decide +kernel
theorem dX9_makeRoomForPiece_58 : decode cX9_makeRoomForPiece 58 = .ok (.invokestatic 46, 3) := by decide +kernel
theorem dX9_makeRoomForPiece_61 : decode cX9_makeRoomForPiece 61 = .ok (.putfield 24, 3) := by decide +kernel
theorem dX9_makeRoomForPiece_64 : decode cX9_makeRoomForPiece 64 = .ok (.aload_n 0, 1) := by decide +kernel
theorem dX9_makeRoomForPiece_65 : decode cX9_makeRoomForPiece 65 = .ok (.aload_n 0, 1) := by decide +kernel
theorem dX9_makeRoomForPiece_66 : decode cX9_makeRoomForPiece 66 = .ok (.getfield 27, 3) := by decide +kernel
theorem dX9_makeRoomForPiece_69 : decode cX9_makeRoomForPiece 69 = .ok (.iload_n 1, 1) := by decide +kernel
theorem dX9_makeRoomForPiece_70 : decode cX9_makeRoomForPiece 70 = .ok (.invokestatic 46, 3) := by decide +kernel
theorem dX9_makeRoomForPiece_73 : decode cX9_makeRoomForPiece 73 = .ok (.putfield 27, 3) := by decide +kernel
theorem dX9_makeRoomForPiece_76 : decode cX9_makeRoomForPiece 76 = .ok (.return_, 1) := by decide +kernel
set_option maxRecDepth 20000 in
theorem ggX11_lot_X11_isWithin : GoodIn wsX11_lot wsX11_isWithin := goodIn_h _ [10] [0] (by decide +kernel) (by decide +kernel)
set_option maxRecDepth 20000 in
theorem gX11_lot_X11_isWithin : GoodIn wsX11_lot (va_wsS RX11 67 yX11_isWithin wsX11_isWithin) := goodIn_app (goodIn_of _ (by decide +kernel)) ggX11_lot_X11_isWithin
set_option maxRecDepth 20000 in
theorem ggX11_lot_X0_init : GoodIn wsX11_lot wsX0_init := goodIn_h _ [9, 3, 0, 0, 0, 0, 0, 0, 0, 0, 0, 0, 0, 0, 0, 0, 0, 0, 0, 0, 12, 0, 0, 0, 0, 0, 0, 0, 0, 0] [1, 2, 3, 4, 5, 6, 7, 8, 9, 10, 11, 12, 13, 14, 15, 16, 17, 0, 18, 19, 20, 21, 22, 23, 24, 25, 26, 27, 28, 29] (by decide +kernel) (by decide +kernel)
set_option maxRecDepth 20000 in
theorem gX11_lot_X0_init : GoodIn wsX11_lot (wsX0_init) := ggX11_lot_X0_init
theorem dX11_lot_0 : decode cX11_lot 0 = .ok (.aload_n 0, 1) := by decide +kernel
theorem dX11_lot_1 : decode cX11_lot 1 = .ok (.getfield 63, 3) := by decide +kernel
theorem dX11_lot_4 : decode cX11_lot 4 = .ok (.bipush 10, 2) := by decide +kernel
theorem dX11_lot_6 : decode cX11_lot 6 = .ok (.if_icmp .ge 49, 3) := by decide +kernel
theorem dX11_lot_9 : decode cX11_lot 9 = .ok (.iload_n 1, 1) := by decide +kernel
theorem dX11_lot_10 : decode cX11_lot 10 = .ok (.iconst 1, 1) := by decide +kernel
theorem dX11_lot_11 : decode cX11_lot 11 = .ok (.bipush 60, 2) := by decide +kernel
theorem dX11_lot_13 : decode cX11_lot 13 = .ok (.invokestatic 67, 3) := by decide +kernel
theorem dX11_lot_16 : decode cX11_lot 16 = .ok (.ifCond .eq 39, 3) := by decide +kernel
theorem dX11_lot_19 : decode cX11_lot 19 = .ok (.iload_n 3, 1) := by decide +kernel
theorem dX11_lot_20 : decode cX11_lot 20 = .ok (.bipush 20, 2) := by decide +kernel
theorem dX11_lot_22 : decode cX11_lot 22 = .ok (.bipush 60, 2) := by decide +kernel
theorem dX11_lot_24 : decode cX11_lot 24 = .ok (.invokestatic 67, 3) := by decide +kernel
theorem dX11_lot_27 : decode cX11_lot 27 = .ok (.ifCond .eq 28, 3) := by decide +kernel
theorem dX11_lot_30 : decode cX11_lot 30 = .ok (.iload 4, 2) := by decide +kernel
theorem dX11_lot_32 : decode cX11_lot 32 = .ok (.bipush 40, 2) := by decide +kernel
theorem dX11_lot_34 : decode cX11_lot 34 = .ok (.sipush 200, 3) := by decide +kernel
theorem dX11_lot_37 : decode cX11_lot 37 = .ok (.invokestatic 67, 3) := by decide +kernel
theorem dX11_lot_40 : decode cX11_lot 40 = .ok (.ifCond .eq 15, 3) := by decide +kernel
theorem dX11_lot_43 : decode cX11_lot 43 = .ok (.iload 5, 2) := by decide +kernel
theorem dX11_lot_45 : decode cX11_lot 45 = .ok (.iconst 0, 1) := by decide +kernel
theorem dX11_lot_46 : decode cX11_lot 46 = .ok (.sipush 200, 3) := by decide +kernel
theorem dX11_lot_49 : decode cX11_lot 49 = .ok (.invokestatic 67, 3) := by decide +kernel
theorem dX11_lot_52 : decode cX11_lot 52 = .ok (.ifCond .ne 5, 3) := by decide +kernel
theorem dX11_lot_55 : decode cX11_lot 55 = .ok (.iconst (-1), 1) := by decide +kernel
theorem dX11_lot_56 : decode cX11_lot 56 = .ok (.ireturn, 1) := by decide +kernel
theorem dX11_lot_57 : decode cX11_lot 57 = .ok (.iconst 0, 1) := by decide +kernel
theorem dX11_lot_58 : decode cX11_lot 58 = .ok (.istore 6, 2) := by decide +kernel
theorem dX11_lot_60 : decode cX11_lot 60 = .ok (.iload 6, 2) := by decide +kernel
theorem dX11_lot_62 : decode cX11_lot 62 = .ok (.iload_n 1, 1) := by decide +kernel
theorem dX11_lot_63 : decode cX11_lot 63 = .ok (.if_icmp .ge 43, 3) := by decide +kernel
theorem dX11_lot_66 : decode cX11_lot 66 = .ok (.aload_n 0, 1) := by decide +kernel
theorem dX11_lot_67 : decode cX11_lot 67 = .ok (.getfield 11, 3) := by decide +kernel
theorem dX11_lot_70 : decode cX11_lot 70 = .ok (.aload_n 0, 1) := by decide +kernel
theorem dX11_lot_71 : decode cX11_lot 71 = .ok (.getfield 63, 3) := by decide +kernel
theorem dX11_lot_74 : decode cX11_lot 74 = .ok (.bipush 60, 2) := by decide +kernel
theorem dX11_lot_76 : decode cX11_lot 76 = .ok (.imul, 1) := by decide +kernel
theorem dX11_lot_77 : decode cX11_lot 77 = .ok (.iload 6, 2) := by decide +kernel
theorem dX11_lot_79 : decode cX11_lot 79 = .ok (.iadd, 1) := by decide +kernel
theorem dX11_lot_80 : decode cX11_lot 80 = .ok (.new 9, 3) := by decide +kernel
theorem dX11_lot_83 : decode cX11_lot 83 = .ok (.dup, 1) := by decide +kernel
theorem dX11_lot_84 : decode cX11_lot 84 = .ok (.aload_n 0, 1) := by decide +kernel
theorem dX11_lot_85 : decode cX11_lot 85 = .ok (.getfield 63, 3) := by decide +kernel
theorem dX11_lot_88 : decode cX11_lot 88 = .ok (.iload 6, 2) := by decide +kernel
theorem dX11_lot_90 : decode cX11_lot 90 = .ok (.iload_n 2, 1) := by decide +kernel
theorem dX11_lot_91 : decode cX11_lot 91 = .ok (.iload_n 3, 1) := by decide +kernel
theorem dX11_lot_92 : decode cX11_lot 92 = .ok (.iload 4, 2) := by decide +kernel
theorem dX11_lot_94 : decode cX11_lot 94 = .ok (.iload 5, 2) := by decide +kernel
theorem dX11_lot_96 : decode cX11_lot 96 = .ok (.invokespecial 71, 3) := by decide +kernel
theorem dX11_lot_99 : decode cX11_lot 99 = .ok (.aastore, 1) := by decide +kernel
theorem dX11_lot_100 : decode cX11_lot 100 = .ok (.iinc 6 1, 3) := by decide +kernel
theorem dX11_lot_103 : decode cX11_lot 103 = .ok (.goto (-43), 3) := by decide +kernel
theorem dX11_lot_106 : decode cX11_lot 106 = .ok (.aload_n 0, 1) := by decide +kernel
theorem dX11_lot_107 : decode cX11_lot 107 = .ok (.getfield 15, 3) := by decide +kernel
theorem dX11_lot_110 : decode cX11_lot 110 = .ok (.aload_n 0, 1) := by decide +kernel
theorem dX11_lot_111 : decode cX11_lot 111 = .ok (.getfield 63, 3) := by decide +kernel
theorem dX11_lot_114 : decode cX11_lot 114 = .ok (.iload_n 1, 1) := by decide +kernel
theorem dX11_lot_115 : decode cX11_lot 115 = .ok (.iastore, 1) := by decide +kernel
theorem dX11_lot_116 : decode cX11_lot 116 = .ok (.aload_n 0, 1) := by decide +kernel
theorem dX11_lot_117 : decode cX11_lot 117 = .ok (.dup, 1) := by decide +kernel
theorem dX11_lot_118 : decode cX11_lot 118 = .ok (.getfield 63, 3) := by decide +kernel
theorem dX11_lot_121 : decode cX11_lot 121 = .ok (.iconst 1, 1) := by decide +kernel
theorem dX11_lot_122 : decode cX11_lot 122 = .ok (.iadd, 1) := by decide +kernel
theorem dX11_lot_123 : decode cX11_lot 123 = .ok (.putfield 63, 3) := by decide +kernel
theorem dX11_lot_126 : decode cX11_lot 126 = .ok (.aload_n 0, 1) := by decide +kernel
theorem dX11_lot_127 : decode cX11_lot 127 = .ok (.getfield 63, 3) := by decide +kernel
theorem dX11_lot_130 : decode cX11_lot 130 = .ok (.iconst 1, 1) := by decide +kernel
theorem dX11_lot_131 : decode cX11_lot 131 = .ok (.isub, 1) := by decide +kernel
theorem dX11_lot_132 : decode cX11_lot 132 = .ok (.ireturn, 1) := by decide +kernel
set_option maxRecDepth 20000 in
theorem ggX11_pot_X11_isTarget : GoodIn wsX11_pot wsX11_isTarget := goodIn_h _ [8, 0, 0, 0, 0] [1, 2, 3, 0, 4] (by decide +kernel) (by decide +kernel)
set_option maxRecDepth 20000 in
theorem gX11_pot_X11_isTarget : GoodIn wsX11_pot (va_wsS RX11 127 yX11_isTarget wsX11_isTarget) := goodIn_app (goodIn_of _ (by decide +kernel)) ggX11_pot_X11_isTarget
set_option maxRecDepth 20000 in
theorem ggX11_pot_X11_isWithin : GoodIn wsX11_pot wsX11_isWithin := goodIn_h _ [12] [0] (by decide +kernel) (by decide +kernel)
set_option maxRecDepth 20000 in
theorem gX11_pot_X11_isWithin : GoodIn wsX11_pot (va_wsS RX11 67 yX11_isWithin wsX11_isWithin) := goodIn_app (goodIn_of _ (by decide +kernel)) ggX11_pot_X11_isWithin
set_option maxRecDepth 20000 in
theorem ggX11_pot_X4_init : GoodIn wsX11_pot wsX4_init := goodIn_h _ [15, 0, 0, 0, 0, 0, 0, 0, 0, 0, 0, 0, 0, 0, 0, 0, 0, 0, 0, 0, 0, 0, 0, 0, 0, 0, 0, 0, 0, 0, 0, 0, 0, 0, 0, 0, 0, 0, 0, 0, 0, 0, 0, 0, 0, 0, 0, 0, 0, 0, 0, 12, 0, 0, 0, 0, 0, 0, 0, 0, 0, 0, 0, 0, 0, 0, 0, 0, 0, 0, 0, 0, 0, 0, 0, 0, 0, 0, 0, 0, 0, 0] [0, 1, 2, 3, 4, 5, 6, 7, 8, 9, 10, 11, 12, 13, 14, 15, 16, 17, 18, 19, 20, 21, 22, 23, 24, 25, 26, 27, 28, 29, 30, 31, 32, 33, 34, 35, 36, 37, 38, 39, 40, 41, 42, 43, 44, 45, 46, 47, 48, 49, 50, 63, 64, 65, 51, 52, 53, 54, 55, 56, 57, 58, 59, 60, 61, 62, 66, 67, 68, 69, 70, 71, 72, 73, 74, 75, 76, 77, 78, 79, 80, 81] (by decide +kernel) (by decide +kernel)
set_option maxRecDepth 20000 in
theorem gX11_pot_X4_init : GoodIn wsX11_pot (wsX4_init) := ggX11_pot_X4_init
theorem dX11_pot_0 : decode cX11_pot 0 = .ok (.aload_n 0, 1) := by decide +kernel
theorem dX11_pot_1 : decode cX11_pot 1 = .ok (.getfield 124, 3) := by decide +kernel
theorem dX11_pot_4 : decode cX11_pot 4 = .ok (.iconst 4, 1) := by decide +kernel
theorem dX11_pot_5 : decode cX11_pot 5 = .ok (.if_icmp .ge 20, 3) := by decide +kernel
theorem dX11_pot_8 : decode cX11_pot 8 = .ok (.iload_n 1, 1) := by decide +kernel
theorem dX11_pot_9 : decode cX11_pot 9 = .ok (.invokestatic 127, 3) := by decide +kernel
theorem dX11_pot_12 : decode cX11_pot 12 = .ok (.ifCond .eq 13, 3) := by decide +kernel
theorem dX11_pot_15 : decode cX11_pot 15 = .ok (.iload_n 2, 1) := by decide +kernel
theorem dX11_pot_16 : decode cX11_pot 16 = .ok (.iconst 1, 1) := by decide +kernel
theorem dX11_pot_17 : decode cX11_pot 17 = .ok (.bipush 50, 2) := by decide +kernel
theorem dX11_pot_19 : decode cX11_pot 19 = .ok (.invokestatic 67, 3) := by decide +kernel
theorem dX11_pot_22 : decode cX11_pot 22 = .ok (.ifCond .ne 5, 3) := by decide +kernel
theorem dX11_pot_25 : decode cX11_pot 25 = .ok (.iconst (-1), 1) := by decide +kernel
theorem dX11_pot_26 : decode cX11_pot 26 = .ok (.ireturn, 1) := by decide +kernel
theorem dX11_pot_27 : decode cX11_pot 27 = .ok (.aload_n 0, 1) := by decide +kernel
theorem dX11_pot_28 : decode cX11_pot 28 = .ok (.getfield 21, 3) := by decide +kernel
theorem dX11_pot_31 : decode cX11_pot 31 = .ok (.aload_n 0, 1) := by decide +kernel
theorem dX11_pot_32 : decode cX11_pot 32 = .ok (.getfield 124, 3) := by decide +kernel
theorem dX11_pot_35 : decode cX11_pot 35 = .ok (.new 19, 3) := by decide +kernel
theorem dX11_pot_38 : decode cX11_pot 38 = .ok (.dup, 1) := by decide +kernel
theorem dX11_pot_39 : decode cX11_pot 39 = .ok (.aload_n 0, 1) := by decide +kernel
theorem dX11_pot_40 : decode cX11_pot 40 = .ok (.getfield 124, 3) := by decide +kernel
theorem dX11_pot_43 : decode cX11_pot 43 = .ok (.iload_n 1, 1) := by decide +kernel
theorem dX11_pot_44 : decode cX11_pot 44 = .ok (.iload_n 2, 1) := by decide +kernel
theorem dX11_pot_45 : decode cX11_pot 45 = .ok (.invokespecial 131, 3) := by decide +kernel
theorem dX11_pot_48 : decode cX11_pot 48 = .ok (.aastore, 1) := by decide +kernel
theorem dX11_pot_49 : decode cX11_pot 49 = .ok (.aload_n 0, 1) := by decide +kernel
theorem dX11_pot_50 : decode cX11_pot 50 = .ok (.dup, 1) := by decide +kernel
theorem dX11_pot_51 : decode cX11_pot 51 = .ok (.getfield 124, 3) := by decide +kernel
theorem dX11_pot_54 : decode cX11_pot 54 = .ok (.iconst 1, 1) := by decide +kernel
theorem dX11_pot_55 : decode cX11_pot 55 = .ok (.iadd, 1) := by decide +kernel
theorem dX11_pot_56 : decode cX11_pot 56 = .ok (.putfield 124, 3) := by decide +kernel
theorem dX11_pot_59 : decode cX11_pot 59 = .ok (.aload_n 0, 1) := by decide +kernel
theorem dX11_pot_60 : decode cX11_pot 60 = .ok (.getfield 124, 3) := by decide +kernel
theorem dX11_pot_63 : decode cX11_pot 63 = .ok (.iconst 1, 1) := by decide +kernel
theorem dX11_pot_64 : decode cX11_pot 64 = .ok (.isub, 1) := by decide +kernel
theorem dX11_pot_65 : decode cX11_pot 65 = .ok (.ireturn, 1) := by decide +kernel
set_option maxRecDepth 20000 in
theorem ggX11_run_X11_potAt : GoodIn wsX11_run wsX11_potAt := goodIn_h _ [6, 0, 0, 258, 0, 0, 0, 0, 0, 0, 0, 0, 0, 0, 0] [0, 1, 2, 3, 4, 5, 6, 7, 8, 9, 10, 11, 12, 13, 14] (by decide +kernel) (by decide +kernel)
set_option maxRecDepth 20000 in
theorem gX11_run_X11_potAt : GoodIn wsX11_run (wsV RX11 134 RX11 yX11_potAt wsX11_potAt) := goodIn_app (goodIn_of _ (by decide +kernel)) ggX11_run_X11_potAt
set_option maxRecDepth 20000 in
theorem ggX11_run_X11_isWithin : GoodIn wsX11_run wsX11_isWithin := goodIn_h _ [11] [0] (by decide +kernel) (by decide +kernel)
set_option maxRecDepth 20000 in
theorem gX11_run_X11_isWithin : GoodIn wsX11_run (va_wsS RX11 67 yX11_isWithin wsX11_isWithin) := goodIn_app (goodIn_of _ (by decide +kernel)) ggX11_run_X11_isWithin
set_option maxRecDepth 20000 in
theorem ggX11_run_X4_tick : GoodIn wsX11_run wsX4_tick := goodIn_h _ [5, 9, 0, 0, 0, 0, 0, 0, 0, 0, 0, 0, 0, 0, 0, 0, 0, 0, 0, 0, 0, 0, 0, 0, 0, 0, 0, 0, 0, 0, 0, 0, 0, 0, 0, 0, 0, 0, 0, 0, 0, 0, 0, 0, 0, 0, 0, 0, 0, 0, 0, 0, 0, 0, 0, 0, 0, 0, 0, 0, 0, 0, 0, 0, 0, 0, 0, 0, 0, 0, 0, 0, 0, 0, 0, 0, 0, 0, 0, 0, 0, 0, 0, 0, 0, 0, 0, 0, 0, 0, 0, 0, 0, 0, 0, 0, 0, 0, 0, 0, 0, 0, 0, 0, 0, 0, 0, 0, 0, 0, 0, 0, 0, 0, 0, 0, 0, 0, 0, 0, 0, 0, 0, 0, 0, 0, 0, 0, 0, 0, 0, 0, 0, 0, 0, 0, 0, 0, 0, 0, 0, 0, 0, 0, 0, 0, 0, 0, 0, 0, 0, 0, 0, 0, 0, 0, 0, 0, 0, 0, 0, 0, 0, 0, 0, 0, 0, 0, 0, 0, 0, 0, 0, 0, 0, 0, 0, 0, 0, 0, 0, 0, 0, 0, 0, 0, 0, 0, 0, 0, 0, 0, 0, 0, 0, 0, 0, 0, 0, 0, 0, 0, 0, 0, 0, 0, 0, 0, 0, 0, 0, 0, 0, 0, 0, 0, 0, 0, 0, 0, 0, 0, 0, 0, 0, 0, 0, 0, 0, 0, 0, 0, 0, 0, 0, 0, 0, 0, 0, 0, 0, 0, 0, 0, 0, 0, 0, 0, 0, 0, 0, 0, 0, 12, 0, 0, 0, 0, 0, 0, 0, 0, 0, 0, 0, 0, 0, 0, 0, 0, 0, 0, 0, 0, 0, 0, 0, 0, 0, 0, 0, 0, 0, 0, 0, 0, 0, 0, 0, 0, 0, 0, 0, 0, 0, 0, 0, 0, 0, 0, 0, 0, 0, 0, 0, 0, 0, 0, 0, 0, 0, 0, 0, 0, 0, 0, 0] [2, 3, 4, 5, 6, 7, 8, 9, 1, 10, 11, 12, 13, 14, 15, 16, 17, 18, 19, 20, 21, 22, 23, 24, 25, 26, 27, 28, 29, 30, 31, 32, 33, 34, 35, 36, 37, 38, 39, 40, 41, 42, 43, 44, 45, 46, 47, 48, 49, 50, 51, 52, 53, 54, 55, 56, 57, 58, 59, 60, 61, 62, 63, 64, 65, 66, 67, 68, 69, 70, 71, 72, 73, 74, 75, 76, 77, 78, 79, 80, 81, 82, 83, 84, 85, 86, 87, 88, 89, 90, 91, 92, 93, 94, 95, 96, 97, 98, 99, 100, 101, 102, 103, 104, 105, 106, 107, 108, 109, 110, 111, 112, 113, 114, 115, 116, 117, 118, 119, 120, 121, 122, 123, 124, 125, 126, 127, 128, 129, 130, 131, 132, 133, 134, 135, 136, 137, 138, 139, 140, 141, 142, 143, 144, 145, 146, 147, 148, 149, 150, 151, 152, 153, 154, 155, 156, 157, 158, 159, 160, 161, 162, 163, 164, 165, 166, 167, 168, 169, 170, 171, 172, 173, 174, 175, 176, 177, 178, 179, 180, 181, 182, 183, 184, 185, 186, 187, 188, 189, 190, 191, 192, 193, 194, 195, 196, 197, 198, 199, 200, 201, 202, 203, 204, 205, 206, 207, 208, 209, 210, 211, 212, 213, 214, 215, 216, 217, 218, 219, 220, 221, 222, 223, 224, 225, 226, 227, 228, 229, 230, 231, 232, 233, 234, 235, 236, 237, 238, 239, 240, 241, 242, 243, 244, 245, 246, 247, 248, 249, 250, 0, 251, 252, 253, 254, 255, 256, 257, 258, 259, 260, 261, 262, 263, 264, 265, 266, 267, 268, 269, 270, 271, 272, 273, 274, 275, 276, 277, 278, 279, 280, 281, 282, 283, 284, 285, 286, 287, 288, 289, 290, 291, 292, 293, 294, 295, 296, 297, 298, 299, 300, 301, 302, 303, 304, 305, 306, 307, 308, 309, 310, 311, 312, 313, 314, 315, 316] (by decide +kernel) (by decide +kernel)
set_option maxRecDepth 20000 in
theorem gX11_run_X4_tick : GoodIn wsX11_run (wsV RX11 169 RX4 yX4_tick wsX4_tick) := goodIn_app (goodIn_of _ (by decide +kernel)) ggX11_run_X4_tick
theorem dX11_run_0 : decode cX11_run 0 = .ok (.aload_n 0, 1) := by decide +kernel
theorem dX11_run_1 : decode cX11_run 1 = .ok (.iload_n 1, 1) := by decide +kernel
theorem dX11_run_2 : decode cX11_run 2 = .ok (.invokevirtual 134, 3) := by decide +kernel
theorem dX11_run_5 : decode cX11_run 5 = .ok (.astore_n 3, 1) := by decide +kernel
theorem dX11_run_6 : decode cX11_run 6 = .ok (.aload_n 3, 1) := by decide +kernel
theorem dX11_run_7 : decode cX11_run 7 = .ok (.ifnull 14, 3) := by decide +kernel
theorem dX11_run_10 : decode cX11_run 10 = .ok (.iload_n 2, 1) := by decide +kernel
theorem dX11_run_11 : decode cX11_run 11 = .ok (.iconst 0, 1) := by decide +kernel
theorem dX11_run_12 : decode cX11_run 12 = .ok (.sipush 300, 3) := by decide +kernel
theorem dX11_run_15 : decode cX11_run 15 = .ok (.invokestatic 67, 3) := by decide +kernel
theorem dX11_run_18 : decode cX11_run 18 = .ok (.ifCond .ne 5, 3) := by decide +kernel
theorem dX11_run_21 : decode cX11_run 21 = .ok (.iconst (-1), 1) := by decide +kernel
theorem dX11_run_22 : decode cX11_run 22 = .ok (.ireturn, 1) := by decide +kernel
theorem dX11_run_23 : decode cX11_run 23 = .ok (.iconst 0, 1) := by decide +kernel
theorem dX11_run_24 : decode cX11_run 24 = .ok (.istore 4, 2) := by decide +kernel
theorem dX11_run_26 : decode cX11_run 26 = .ok (.iconst 0, 1) := by decide +kernel
theorem dX11_run_27 : decode cX11_run 27 = .ok (.istore 5, 2) := by decide +kernel
theorem dX11_run_29 : decode cX11_run 29 = .ok (.iload 5, 2) := by decide +kernel
theorem dX11_run_31 : decode cX11_run 31 = .ok (.iload_n 2, 1) := by decide +kernel
theorem dX11_run_32 : decode cX11_run 32 = .ok (.if_icmp .ge 23, 3) := by decide +kernel
theorem dX11_run_35 : decode cX11_run 35 = .ok (.aload_n 3, 1) := by decide +kernel
theorem dX11_run_36 : decode cX11_run 36 = .ok (.aload_n 0, 1) := by decide +kernel
theorem dX11_run_37 : decode cX11_run 37 = .ok (.getfield 42, 3) := by decide +kernel
theorem dX11_run_40 : decode cX11_run 40 = .ok (.invokevirtual 169, 3) := by decide +kernel
theorem dX11_run_43 : decode cX11_run 43 = .ok (.ifCond .eq 6, 3) := by decide +kernel
theorem dX11_run_46 : decode cX11_run 46 = .ok (.iinc 4 1, 3) := by decide +kernel
theorem dX11_run_49 : decode cX11_run 49 = .ok (.iinc 5 1, 3) := by decide +kernel
theorem dX11_run_52 : decode cX11_run 52 = .ok (.goto (-23), 3) := by decide +kernel
theorem dX11_run_55 : decode cX11_run 55 = .ok (.iload 4, 2) := by decide +kernel
theorem dX11_run_57 : decode cX11_run 57 = .ok (.ireturn, 1) := by decide +kernel
set_option maxRecDepth 20000 in
theorem ggX11_cut_X11_potAt : GoodIn wsX11_cut wsX11_potAt := goodIn_h _ [6, 0, 0, 86, 0, 0, 0, 0, 0, 0, 0, 0, 0, 0, 0] [0, 1, 2, 3, 4, 5, 6, 7, 8, 9, 10, 11, 12, 13, 14] (by decide +kernel) (by decide +kernel)
set_option maxRecDepth 20000 in
theorem gX11_cut_X11_potAt : GoodIn wsX11_cut (wsV RX11 134 RX11 yX11_potAt wsX11_potAt) := goodIn_app (goodIn_of _ (by decide +kernel)) ggX11_cut_X11_potAt
set_option maxRecDepth 20000 in
theorem ggX11_cut_X4_cutStrand : GoodIn wsX11_cut wsX4_cutStrand := goodIn_h _ [13, 0, 0, 0, 0, 0, 0, 0, 0, 0, 0, 0, 0, 0, 0, 0, 0, 0, 0, 0, 0, 0, 0, 0, 0, 0, 0, 0, 0, 0, 0, 0, 0, 0, 0, 0, 0, 0, 0, 0, 0, 0, 0, 0, 0, 0, 0, 0, 0, 0, 0, 0, 0, 0, 0, 0, 0, 0, 0, 0, 0, 0, 0, 0, 0, 0, 0, 0, 0, 0, 0, 0, 0, 0, 0, 0, 0, 0, 0, 0, 0, 0, 12, 0, 0, 0, 0, 0, 0, 0, 0, 0, 0, 0, 0, 0, 0, 0, 0, 0, 0, 0, 0, 0, 0, 0, 0, 0, 0, 0, 0, 0, 0, 0, 0, 0, 0, 0, 0, 0, 0, 0, 0, 0, 0, 0] [0, 1, 2, 3, 4, 5, 6, 7, 8, 9, 10, 11, 12, 13, 14, 15, 16, 17, 18, 19, 20, 21, 22, 23, 24, 25, 26, 27, 28, 29, 30, 31, 32, 33, 34, 35, 36, 37, 38, 39, 40, 41, 42, 43, 44, 45, 46, 47, 48, 49, 50, 51, 52, 53, 54, 55, 56, 57, 58, 59, 60, 61, 62, 63, 64, 65, 66, 67, 68, 69, 70, 71, 72, 73, 74, 75, 76, 77, 78, 79, 80, 81, 82, 83, 84, 85, 86, 87, 88, 89, 90, 91, 92, 93, 94, 95, 96, 97, 98, 99, 100, 101, 102, 103, 104, 105, 106, 107, 108, 109, 110, 111, 112, 113, 114, 115, 116, 117, 118, 119, 120, 121, 122, 123, 124, 125] (by decide +kernel) (by decide +kernel)
set_option maxRecDepth 20000 in
theorem gX11_cut_X4_cutStrand : GoodIn wsX11_cut (wsV RX11 227 RX4 yX4_cutStrand wsX4_cutStrand) := goodIn_app (goodIn_of _ (by decide +kernel)) ggX11_cut_X4_cutStrand
theorem dX11_cut_0 : decode cX11_cut 0 = .ok (.aload_n 0, 1) := by decide +kernel
theorem dX11_cut_1 : decode cX11_cut 1 = .ok (.iload_n 1, 1) := by decide +kernel
theorem dX11_cut_2 : decode cX11_cut 2 = .ok (.invokevirtual 134, 3) := by decide +kernel
theorem dX11_cut_5 : decode cX11_cut 5 = .ok (.astore_n 2, 1) := by decide +kernel
theorem dX11_cut_6 : decode cX11_cut 6 = .ok (.aload_n 2, 1) := by decide +kernel
theorem dX11_cut_7 : decode cX11_cut 7 = .ok (.ifnonnull 7, 3) := by decide +kernel
theorem dX11_cut_10 : decode cX11_cut 10 = .ok (.iconst (-1), 1) := by decide +kernel
theorem dX11_cut_11 : decode cX11_cut 11 = .ok (.goto 11, 3) := by decide +kernel
theorem dX11_cut_14 : decode cX11_cut 14 = .ok (.aload_n 2, 1) := by decide +kernel
theorem dX11_cut_15 : decode cX11_cut 15 = .ok (.aload_n 0, 1) := by decide +kernel
theorem dX11_cut_16 : decode cX11_cut 16 = .ok (.getfield 42, 3) := by decide +kernel
theorem dX11_cut_19 : decode cX11_cut 19 = .ok (.invokevirtual 227, 3) := by decide +kernel
theorem dX11_cut_22 : decode cX11_cut 22 = .ok (.ireturn, 1) := by decide +kernel
theorem inn_X11_cut_11 : ∀ w ∈ u_ws RX11 TX11 12, w ∈ wsX11_cut := fun w h => List.mem_cons_of_mem _ (List.mem_append_left _ (List.mem_append_left _ (List.mem_append_left _ (List.mem_append_left _ (List.mem_append_right _ h)))))
theorem inn_X11_lot_0 : ∀ w ∈ u_ws RX0 TX0 10, w ∈ wsX11_lot := fun w h => List.mem_cons_of_mem _ (List.mem_append_right _ h)
theorem inn_X11_lot_11 : ∀ w ∈ u_ws RX11 TX11 12, w ∈ wsX11_lot := fun w h => List.mem_cons_of_mem _ (List.mem_append_left _ (List.mem_append_right _ h))
theorem inn_X11_pot_11 : ∀ w ∈ u_ws RX11 TX11 12, w ∈ wsX11_pot := fun w h => List.mem_cons_of_mem _ (List.mem_append_left _ (List.mem_append_left _ (List.mem_append_left _ (List.mem_append_left _ (List.mem_append_right _ h)))))
theorem inn_X11_pot_4 : ∀ w ∈ u_ws RX4 TX4 12, w ∈ wsX11_pot := fun w h => List.mem_cons_of_mem _ (List.mem_append_left _ (List.mem_append_left _ (List.mem_append_left _ (List.mem_append_right _ h))))
theorem inn_X11_run_11 : ∀ w ∈ u_ws RX11 TX11 12, w ∈ wsX11_run := fun w h => List.mem_cons_of_mem _ (List.mem_append_left _ (List.mem_append_left _ (List.mem_append_left _ (List.mem_append_left _ (List.mem_append_left _ (List.mem_append_left _ (List.mem_append_left _ (List.mem_append_right _ h))))))))
theorem inn_X4_act_4 : ∀ w ∈ u_ws RX4 TX4 12, w ∈ wsX4_act := fun w h => List.mem_cons_of_mem _ (List.mem_append_left _ (List.mem_append_left _ (List.mem_append_left _ (List.mem_append_left _ (List.mem_append_left _ (List.mem_append_right _ h))))))
theorem inn_X4_applyRules_4 : ∀ w ∈ u_ws RX4 TX4 12, w ∈ wsX4_applyRules := fun w h => List.mem_cons_of_mem _ (List.mem_append_left _ (List.mem_append_left _ (List.mem_append_left _ (List.mem_append_left _ (List.mem_append_left _ (List.mem_append_left _ (List.mem_append_right _ h)))))))
theorem inn_X4_applyRules_6 : ∀ w ∈ u_ws RX6 TX6 7, w ∈ wsX4_applyRules := fun w h => List.mem_cons_of_mem _ (List.mem_append_left _ (List.mem_append_left _ (List.mem_append_left _ (List.mem_append_left _ (List.mem_append_left _ (List.mem_append_right _ h))))))
theorem inn_X4_applyRules_8 : ∀ w ∈ u_ws RX8 TX8 13, w ∈ wsX4_applyRules := fun w h => List.mem_cons_of_mem _ (List.mem_append_left _ (List.mem_append_left _ (List.mem_append_left _ (List.mem_append_left _ (List.mem_append_right _ h)))))
theorem inn_X4_cutStrand_4 : ∀ w ∈ u_ws RX4 TX4 12, w ∈ wsX4_cutStrand := fun w h => List.mem_cons_of_mem _ (List.mem_append_left _ (List.mem_append_left _ (List.mem_append_left _ (List.mem_append_right _ h))))
theorem inn_X4_cutStrand_9 : ∀ w ∈ u_ws RX9 TX9 9, w ∈ wsX4_cutStrand := fun w h => List.mem_cons_of_mem _ (List.mem_append_left _ (List.mem_append_left _ (List.mem_append_right _ h)))
theorem inn_X4_drawEnd_0 : ∀ w ∈ u_ws RX0 TX0 10, w ∈ wsX4_drawEnd := fun w h => List.mem_cons_of_mem _ (List.mem_append_left _ (List.mem_append_left _ (List.mem_append_right _ h)))
theorem inn_X4_drawEnd_4 : ∀ w ∈ u_ws RX4 TX4 12, w ∈ wsX4_drawEnd := fun w h => List.mem_cons_of_mem _ (List.mem_append_left _ (List.mem_append_left _ (List.mem_append_left _ (List.mem_append_right _ h))))
theorem inn_X4_drawMetre_4 : ∀ w ∈ u_ws RX4 TX4 12, w ∈ wsX4_drawMetre := fun w h => List.mem_cons_of_mem _ (List.mem_append_left _ (List.mem_append_left _ (List.mem_append_left _ (List.mem_append_left _ (List.mem_append_left _ (List.mem_append_right _ h))))))
theorem inn_X4_drawMetre_5 : ∀ w ∈ u_ws RX5 TX5 3, w ∈ wsX4_drawMetre := fun w h => List.mem_cons_of_mem _ (List.mem_append_left _ (List.mem_append_left _ (List.mem_append_left _ (List.mem_append_left _ (List.mem_append_right _ h)))))
theorem inn_X4_drawMetre_8 : ∀ w ∈ u_ws RX8 TX8 13, w ∈ wsX4_drawMetre := fun w h => List.mem_cons_of_mem _ (List.mem_append_left _ (List.mem_append_left _ (List.mem_append_right _ h)))
theorem inn_X4_drawMetre_9 : ∀ w ∈ u_ws RX9 TX9 9, w ∈ wsX4_drawMetre := fun w h => List.mem_cons_of_mem _ (List.mem_append_left _ (List.mem_append_left _ (List.mem_append_left _ (List.mem_append_right _ h))))
theorem inn_X4_tick_4 : ∀ w ∈ u_ws RX4 TX4 12, w ∈ wsX4_tick := fun w h => List.mem_cons_of_mem _ (List.mem_append_left _ (List.mem_append_left _ (List.mem_append_left _ (List.mem_append_left _ (List.mem_append_left _ (List.mem_append_left _ (List.mem_append_right _ h)))))))
theorem inn_X4_tick_5 : ∀ w ∈ u_ws RX5 TX5 3, w ∈ wsX4_tick := fun w h => List.mem_cons_of_mem _ (List.mem_append_left _ (List.mem_append_left _ (List.mem_append_left _ (List.mem_append_left _ (List.mem_append_left _ (List.mem_append_right _ h))))))
theorem inn_X8_keep_7 : ∀ w ∈ u_ws RX7 TX7 10, w ∈ wsX8_keep := fun w h => List.mem_cons_of_mem _ (List.mem_append_right _ h)
theorem inn_X8_keep_8 : ∀ w ∈ u_ws RX8 TX8 13, w ∈ wsX8_keep := fun w h => List.mem_cons_of_mem _ (List.mem_append_left _ (List.mem_append_left _ (List.mem_append_right _ h)))
theorem inn_X8_keep_9 : ∀ w ∈ u_ws RX9 TX9 9, w ∈ wsX8_keep := fun w h => List.mem_cons_of_mem _ (List.mem_append_left _ (List.mem_append_right _ h))
theorem inn_X9_addMetreOf_0 : ∀ w ∈ u_ws RX0 TX0 10, w ∈ wsX9_addMetreOf := fun w h => List.mem_cons_of_mem _ (List.mem_append_left _ (List.mem_append_right _ h))
theorem inn_X9_addMetreOf_9 : ∀ w ∈ u_ws RX9 TX9 9, w ∈ wsX9_addMetreOf := fun w h => List.mem_cons_of_mem _ (List.mem_append_right _ h)
theorem inn_X9_makeRoomForPiece_9 : ∀ w ∈ u_ws RX9 TX9 9, w ∈ wsX9_makeRoomForPiece := fun w h => List.mem_cons_of_mem _ (List.mem_append_right _ h)
