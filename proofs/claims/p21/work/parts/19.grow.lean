set_option maxRecDepth 20000 in
theorem ggX4_tick_X4_searchLost : GoodIn wsX4_tick wsX4_searchLost := goodIn_h _ [4, 3, 0, 0, 0, 0, 0, 0, 0, 0, 0, 0, 0, 0, 0, 0, 0, 0, 0, 0, 0, 0, 0, 0, 0, 0, 0, 0, 218, 0, 0, 0, 0, 0, 0, 0, 0, 0, 0, 0, 0, 0, 0, 0, 0, 0, 0, 0, 0, 0, 0, 0, 0] [2, 3, 0, 4, 5, 6, 7, 8, 1, 9, 10, 11, 12, 13, 14, 15, 16, 17, 18, 19, 20, 21, 22, 23, 24, 25, 26, 27, 28, 29, 30, 31, 32, 33, 34, 35, 36, 37, 38, 39, 40, 41, 42, 43, 44, 45, 46, 47, 48, 49, 50, 51, 52] (by decide +kernel) (by decide +kernel)
set_option maxRecDepth 20000 in
theorem gX4_tick_X4_searchLost : GoodIn wsX4_tick (wsV RX4 63 RX4 yX4_searchLost wsX4_searchLost) := goodIn_app (goodIn_of _ (by decide +kernel)) ggX4_tick_X4_searchLost
set_option maxRecDepth 20000 in
theorem ggX4_tick_X4_applyRules : GoodIn wsX4_tick wsX4_applyRules := goodIn_h _ [2, 0, 0, 3, 1, 0, 1, 0, 0, 0, 0, 0, 0, 0, 0, 0, 0, 0, 0, 0, 0, 0, 0, 0, 0, 0, 0, 0, 3, 0, 0, 0, 0, 0, 0, 0, 0, 0, 0, 0, 0, 0, 0, 0, 0, 0, 0, 0, 0, 0, 0, 0, 0, 0, 0, 0, 0, 0, 0, 0, 0, 0, 0, 0, 0, 0, 0, 0, 0, 0, 0, 0, 0, 0, 0, 0, 0, 0, 0, 0, 0, 0, 0, 0, 0, 0, 0, 0, 0, 0, 0, 0, 0, 0, 0, 0, 0, 0, 0, 0, 0, 0, 0, 0, 0, 0, 0, 0, 0, 0, 0, 0, 0, 0, 0, 0, 0, 0, 0, 0, 0, 0, 0, 0, 0, 0, 0, 0, 0, 0, 0, 0, 0, 0, 0, 0, 0, 0, 0, 0, 0, 0, 0, 0, 0, 0, 0, 0, 0, 0, 0, 0, 0, 0, 0, 0, 0, 0, 0, 0, 0, 0, 0, 0, 0, 0, 0, 0, 0, 0, 0, 0, 0, 0, 0, 0, 0, 0, 0, 0, 0, 0, 0, 0, 0, 0, 0, 0, 0, 0, 0, 0, 0, 0, 0, 0, 47, 0, 0, 0, 0, 0, 0, 0, 0, 0, 0, 0, 0, 0, 0, 0, 0, 0, 0, 0, 0, 0, 0, 0, 0, 0, 0, 0, 0, 0, 0, 0, 0, 0, 0, 0, 0, 0, 0, 0, 0, 0, 0, 0, 0, 0, 0, 0, 0, 0, 0, 0, 0, 0, 0, 0, 0, 0, 0, 0, 0, 0, 0, 0] [28, 29, 30, 31, 32, 33, 34, 35, 36, 3, 37, 38, 39, 40, 41, 42, 43, 44, 45, 1, 2, 11, 4, 46, 47, 48, 49, 50, 15, 51, 17, 52, 53, 54, 55, 56, 18, 20, 21, 22, 23, 19, 57, 58, 59, 60, 61, 62, 63, 64, 65, 66, 67, 68, 69, 70, 71, 72, 73, 74, 75, 76, 77, 78, 79, 80, 81, 0, 82, 83, 84, 85, 10, 12, 13, 14, 16, 24, 25, 26, 27, 86, 87, 88, 89, 90, 91, 92, 93, 94, 95, 96, 97, 98, 99, 100, 101, 6, 7, 8, 9, 5, 102, 103, 104, 105, 106, 107, 108, 109, 110, 111, 112, 113, 114, 115, 116, 117, 118, 119, 120, 121, 122, 123, 124, 125, 126, 127, 128, 129, 130, 131, 132, 133, 134, 135, 136, 137, 138, 139, 140, 141, 142, 143, 144, 145, 146, 147, 148, 149, 150, 151, 152, 153, 154, 155, 156, 157, 158, 159, 160, 161, 162, 163, 164, 165, 166, 167, 168, 169, 170, 171, 172, 173, 174, 175, 176, 177, 178, 179, 180, 181, 182, 183, 184, 185, 186, 187, 188, 189, 190, 191, 192, 193, 194, 195, 196, 197, 198, 199, 200, 201, 202, 203, 204, 205, 206, 207, 221, 222, 223, 224, 225, 226, 227, 228, 229, 230, 231, 232, 233, 234, 235, 236, 237, 238, 239, 240, 208, 209, 210, 241, 242, 243, 244, 245, 246, 247, 248, 249, 211, 212, 213, 214, 215, 216, 217, 218, 219, 220, 250, 251, 252, 253, 254, 255, 256, 257, 258, 259] (by decide +kernel) (by decide +kernel)
set_option maxRecDepth 20000 in
theorem gX4_tick_X4_applyRules : GoodIn wsX4_tick (wsV RX4 69 RX4 yX4_applyRules wsX4_applyRules) := goodIn_app (goodIn_of _ (by decide +kernel)) ggX4_tick_X4_applyRules
set_option maxRecDepth 20000 in
theorem ggX4_tick_X4_drawMetre : GoodIn wsX4_tick wsX4_drawMetre := goodIn_h _ [3, 0, 3, 1, 6, 1, 0, 0, 0, 0, 0, 0, 0, 0, 0, 0, 0, 0, 0, 0, 0, 21, 0, 0, 0, 0, 0, 0, 0, 0, 0, 0, 0, 0, 0, 0, 0, 0, 0, 49, 0, 0, 0, 0, 0, 0, 0, 0, 0, 0, 0, 0, 0, 0, 0, 0, 0, 0, 0, 0, 0, 0, 0, 0, 0, 0, 0, 0, 0, 0, 0, 0, 0, 0, 0, 0, 0, 0, 0, 0, 0, 0, 0, 0, 0, 0, 0, 0, 0, 0, 0, 0, 0, 0, 0, 0, 0, 0, 0, 0, 0, 0, 0, 0, 0, 0, 0, 0, 0, 0, 0, 0, 0, 0, 0, 0, 0, 0, 0, 0, 0, 0, 3, 0, 0, 0, 0, 0, 0, 0, 0, 0, 0, 0, 0, 0, 0, 0, 0, 0, 0, 0, 0, 0, 0, 0, 0, 0, 0, 0, 0, 0, 0, 0, 0, 0, 0, 0, 0, 0, 0, 0, 0, 0, 0, 0, 0, 0, 0, 0, 0, 0, 0, 0, 0, 0, 0, 0, 0, 0, 0, 0, 0, 0, 0, 0, 0, 0, 0, 0, 0, 7, 0, 0, 0, 0, 0, 0, 0, 0, 0, 0, 0, 0, 0, 0, 0, 0, 0, 0, 0, 0, 0, 0, 0, 0, 0, 0, 0, 0, 0, 0, 0] [122, 0, 1, 21, 22, 123, 124, 23, 24, 25, 8, 26, 10, 27, 28, 29, 30, 31, 11, 13, 14, 15, 16, 12, 32, 33, 34, 35, 36, 37, 38, 125, 126, 127, 59, 128, 68, 75, 76, 73, 5, 6, 7, 9, 129, 130, 131, 2, 132, 4, 3, 133, 134, 135, 136, 137, 74, 77, 78, 79, 80, 138, 139, 140, 141, 142, 143, 144, 145, 146, 147, 148, 149, 93, 71, 94, 81, 82, 83, 84, 85, 86, 87, 88, 89, 90, 91, 92, 95, 96, 97, 98, 150, 151, 152, 153, 154, 155, 156, 157, 158, 159, 160, 161, 162, 163, 164, 165, 17, 18, 19, 20, 39, 40, 41, 42, 43, 44, 45, 46, 47, 48, 49, 50, 51, 52, 53, 54, 55, 56, 57, 58, 60, 61, 62, 63, 64, 65, 66, 67, 69, 70, 72, 99, 100, 101, 102, 103, 104, 105, 106, 107, 108, 109, 110, 111, 112, 113, 114, 115, 116, 117, 118, 119, 120, 121, 166, 167, 168, 169, 170, 171, 172, 173, 174, 175, 176, 177, 178, 179, 180, 204, 205, 206, 207, 208, 209, 210, 211, 212, 191, 192, 193, 194, 195, 196, 197, 198, 199, 200, 201, 202, 203, 181, 182, 183, 184, 185, 186, 187, 188, 189, 190, 213, 214, 215, 216, 217, 218, 219, 220, 221, 222] (by decide +kernel) (by decide +kernel)
set_option maxRecDepth 20000 in
theorem gX4_tick_X4_drawMetre : GoodIn wsX4_tick (wsV RX4 76 RX4 yX4_drawMetre wsX4_drawMetre) := goodIn_app (goodIn_of _ (by decide +kernel)) ggX4_tick_X4_drawMetre
theorem dX4_tick_0 : decode cX4_tick 0 = .ok (.aload_n 0, 1) := by decide +kernel
theorem dX4_tick_1 : decode cX4_tick 1 = .ok (.dup, 1) := by decide +kernel
theorem dX4_tick_2 : decode cX4_tick 2 = .ok (.getfield 60, 3) := by decide +kernel
theorem dX4_tick_5 : decode cX4_tick 5 = .ok (.iconst 1, 1) := by decide +kernel
theorem dX4_tick_6 : decode cX4_tick 6 = .ok (.iadd, 1) := by decide +kernel
theorem dX4_tick_7 : decode cX4_tick 7 = .ok (.putfield 60, 3) := by decide +kernel
theorem dX4_tick_10 : decode cX4_tick 10 = .ok (.aload_n 0, 1) := by decide +kernel
theorem dX4_tick_11 : decode cX4_tick 11 = .ok (.invokevirtual 63, 3) := by decide +kernel
theorem dX4_tick_14 : decode cX4_tick 14 = .ok (.aload_n 0, 1) := by decide +kernel
theorem dX4_tick_15 : decode cX4_tick 15 = .ok (.getfield 66, 3) := by decide +kernel
theorem dX4_tick_18 : decode cX4_tick 18 = .ok (.ifCond .ne 8, 3) := by decide +kernel
theorem dX4_tick_21 : decode cX4_tick 21 = .ok (.aload_n 0, 1) := by decide +kernel
theorem dX4_tick_22 : decode cX4_tick 22 = .ok (.aload_n 1, 1) := by decide +kernel
theorem dX4_tick_23 : decode cX4_tick 23 = .ok (.invokevirtual 69, 3) := by decide +kernel
theorem dX4_tick_26 : decode cX4_tick 26 = .ok (.aload_n 0, 1) := by decide +kernel
theorem dX4_tick_27 : decode cX4_tick 27 = .ok (.getfield 66, 3) := by decide +kernel
theorem dX4_tick_30 : decode cX4_tick 30 = .ok (.ifCond .le 15, 3) := by decide +kernel
theorem dX4_tick_33 : decode cX4_tick 33 = .ok (.aload_n 0, 1) := by decide +kernel
theorem dX4_tick_34 : decode cX4_tick 34 = .ok (.dup, 1) := by decide +kernel
theorem dX4_tick_35 : decode cX4_tick 35 = .ok (.getfield 66, 3) := by decide +kernel
theorem dX4_tick_38 : decode cX4_tick 38 = .ok (.iconst 1, 1) := by decide +kernel
theorem dX4_tick_39 : decode cX4_tick 39 = .ok (.isub, 1) := by decide +kernel
theorem dX4_tick_40 : decode cX4_tick 40 = .ok (.putfield 66, 3) := by decide +kernel
theorem dX4_tick_43 : decode cX4_tick 43 = .ok (.iconst 0, 1) := by decide +kernel
theorem dX4_tick_44 : decode cX4_tick 44 = .ok (.ireturn, 1) := by decide +kernel
theorem dX4_tick_45 : decode cX4_tick 45 = .ok (.aload_n 0, 1) := by decide +kernel
theorem dX4_tick_46 : decode cX4_tick 46 = .ok (.getfield 20, 3) := by decide +kernel
theorem dX4_tick_49 : decode cX4_tick 49 = .ok (.getfield 73, 3) := by decide +kernel
theorem dX4_tick_52 : decode cX4_tick 52 = .ok (.ifCond .ne 5, 3) := by decide +kernel
theorem dX4_tick_55 : decode cX4_tick 55 = .ok (.iconst 0, 1) := by decide +kernel
theorem dX4_tick_56 : decode cX4_tick 56 = .ok (.ireturn, 1) := by decide +kernel
theorem dX4_tick_57 : decode cX4_tick 57 = .ok (.aload_n 0, 1) := by decide +kernel
theorem dX4_tick_58 : decode cX4_tick 58 = .ok (.aload_n 1, 1) := by decide +kernel
theorem dX4_tick_59 : decode cX4_tick 59 = .ok (.invokevirtual 76, 3) := by decide +kernel
theorem dX4_tick_62 : decode cX4_tick 62 = .ok (.iconst 1, 1) := by decide +kernel
theorem dX4_tick_63 : decode cX4_tick 63 = .ok (.ireturn, 1) := by decide +kernel
set_option maxRecDepth 20000 in
theorem ggX4_cutStrand_X8_keep : GoodIn wsX4_cutStrand wsX8_keep := goodIn_h _ [9, 0, 0, 0, 0, 0, 0, 0, 0, 0, 0, 0, 0, 0, 0, 0, 0, 0, 0, 0, 0, 0, 0, 0, 0, 0, 0, 0, 0, 0, 0, 0, 0, 0, 0, 0, 0, 0, 0, 0, 0, 0, 0, 0, 0, 0, 0, 0, 0, 0, 0, 0, 0, 0, 0, 0, 0, 0, 0, 0, 0, 0, 0, 0, 0, 0, 0, 0, 0, 16, 0, 0, 0, 0, 0, 0, 0, 0, 0, 0, 0, 0, 0, 0, 0, 0, 0, 0, 0, 0, 0, 0, 0, 0, 0, 0, 0, 0, 0, 0, 0] [0, 1, 2, 3, 4, 5, 6, 7, 8, 9, 10, 11, 12, 13, 14, 15, 16, 17, 18, 19, 20, 21, 22, 23, 24, 25, 26, 27, 28, 29, 30, 31, 32, 33, 34, 35, 36, 37, 38, 39, 40, 41, 42, 43, 44, 45, 46, 47, 48, 49, 50, 51, 52, 53, 54, 55, 56, 57, 58, 59, 60, 61, 62, 63, 64, 65, 66, 67, 68, 78, 79, 80, 81, 82, 83, 84, 85, 86, 87, 88, 89, 90, 69, 70, 71, 72, 73, 74, 75, 76, 77, 91, 92, 93, 94, 95, 96, 97, 98, 99, 100] (by decide +kernel) (by decide +kernel)
set_option maxRecDepth 20000 in
theorem gX4_cutStrand_X8_keep : GoodIn wsX4_cutStrand (wsV RX4 82 RX8 yX8_keep wsX8_keep) := goodIn_app (goodIn_of _ (by decide +kernel)) ggX4_cutStrand_X8_keep
set_option maxRecDepth 20000 in
theorem ggX4_cutStrand_X9_beginAnew : GoodIn wsX4_cutStrand wsX9_beginAnew := goodIn_h _ [28, 4, 0, 46, 12, 0, 0, 0, 0, 0, 0, 0, 0] [3, 0, 1, 2, 4, 5, 6, 7, 8, 9, 10, 11, 12] (by decide +kernel) (by decide +kernel)
set_option maxRecDepth 20000 in
theorem gX4_cutStrand_X9_beginAnew : GoodIn wsX4_cutStrand (wsV RX4 88 RX9 yX9_beginAnew wsX9_beginAnew) := goodIn_app (goodIn_of _ (by decide +kernel)) ggX4_cutStrand_X9_beginAnew
theorem dX4_cutStrand_0 : decode cX4_cutStrand 0 = .ok (.aload_n 0, 1) := by decide +kernel
theorem dX4_cutStrand_1 : decode cX4_cutStrand 1 = .ok (.getfield 29, 3) := by decide +kernel
theorem dX4_cutStrand_4 : decode cX4_cutStrand 4 = .ok (.getfield 79, 3) := by decide +kernel
theorem dX4_cutStrand_7 : decode cX4_cutStrand 7 = .ok (.ifCond .ne 5, 3) := by decide +kernel
theorem dX4_cutStrand_10 : decode cX4_cutStrand 10 = .ok (.iconst (-1), 1) := by decide +kernel
theorem dX4_cutStrand_11 : decode cX4_cutStrand 11 = .ok (.ireturn, 1) := by decide +kernel
theorem dX4_cutStrand_12 : decode cX4_cutStrand 12 = .ok (.aload_n 1, 1) := by decide +kernel
theorem dX4_cutStrand_13 : decode cX4_cutStrand 13 = .ok (.aload_n 0, 1) := by decide +kernel
theorem dX4_cutStrand_14 : decode cX4_cutStrand 14 = .ok (.getfield 29, 3) := by decide +kernel
theorem dX4_cutStrand_17 : decode cX4_cutStrand 17 = .ok (.aload_n 0, 1) := by decide +kernel
theorem dX4_cutStrand_18 : decode cX4_cutStrand 18 = .ok (.getfield 40, 3) := by decide +kernel
theorem dX4_cutStrand_21 : decode cX4_cutStrand 21 = .ok (.aload_n 0, 1) := by decide +kernel
theorem dX4_cutStrand_22 : decode cX4_cutStrand 22 = .ok (.getfield 44, 3) := by decide +kernel
theorem dX4_cutStrand_25 : decode cX4_cutStrand 25 = .ok (.invokevirtual 82, 3) := by decide +kernel
theorem dX4_cutStrand_28 : decode cX4_cutStrand 28 = .ok (.istore_n 2, 1) := by decide +kernel
theorem dX4_cutStrand_29 : decode cX4_cutStrand 29 = .ok (.aload_n 0, 1) := by decide +kernel
theorem dX4_cutStrand_30 : decode cX4_cutStrand 30 = .ok (.getfield 29, 3) := by decide +kernel
theorem dX4_cutStrand_33 : decode cX4_cutStrand 33 = .ok (.invokevirtual 88, 3) := by decide +kernel
theorem dX4_cutStrand_36 : decode cX4_cutStrand 36 = .ok (.iload_n 2, 1) := by decide +kernel
theorem dX4_cutStrand_37 : decode cX4_cutStrand 37 = .ok (.ireturn, 1) := by decide +kernel
set_option maxRecDepth 20000 in
theorem ggX4_applyRules_X4_allHold : GoodIn wsX4_applyRules wsX4_allHold := goodIn_h _ [1, 7, 0, 0, 0, 0, 0, 0, 0, 0, 0, 0, 0, 0, 0, 0, 0, 0, 0, 0, 0, 0, 0, 0, 0, 0, 0, 0, 0, 0, 0, 0, 0, 0, 0, 0, 0, 0, 0, 0, 0, 0, 0, 0, 0, 0, 0, 0, 0, 0, 0, 0, 0, 0, 0, 133, 0, 0, 0, 0, 0, 0, 0, 0, 0, 0, 0, 0, 0, 0, 0, 0, 0, 0, 13, 0, 0, 0, 0, 0, 0, 0, 0, 0, 0, 0, 0, 0, 0, 0, 0, 0, 0, 0, 0, 0] [2, 0, 3, 4, 5, 6, 7, 8, 9, 1, 10, 11, 12, 13, 14, 15, 16, 17, 18, 19, 20, 21, 22, 23, 24, 25, 26, 27, 28, 29, 30, 31, 32, 33, 34, 35, 36, 37, 38, 39, 40, 41, 42, 43, 44, 45, 46, 47, 48, 49, 50, 51, 52, 53, 54, 55, 56, 57, 58, 59, 60, 61, 62, 63, 64, 65, 66, 67, 68, 69, 70, 71, 72, 73, 74, 75, 76, 77, 78, 79, 80, 81, 82, 83, 84, 85, 86, 87, 88, 89, 90, 91, 92, 93, 94, 95] (by decide +kernel) (by decide +kernel)
set_option maxRecDepth 20000 in
theorem gX4_applyRules_X4_allHold : GoodIn wsX4_applyRules (wsV RX4 105 RX4 yX4_allHold wsX4_allHold) := goodIn_app (goodIn_of _ (by decide +kernel)) ggX4_applyRules_X4_allHold
set_option maxRecDepth 20000 in
theorem ggX4_applyRules_X4_act : GoodIn wsX4_applyRules wsX4_act := goodIn_h _ [9, 9, 0, 0, 0, 0, 0, 3, 1, 0, 0, 0, 0, 0, 0, 0, 0, 0, 0, 0, 0, 0, 0, 0, 0, 0, 0, 0, 0, 0, 0, 0, 4, 7, 0, 0, 0, 0, 0, 0, 0, 0, 0, 0, 0, 0, 0, 0, 0, 0, 0, 0, 0, 0, 0, 0, 0, 0, 0, 0, 0, 0, 0, 0, 0, 0, 0, 0, 0, 0, 0, 0, 0, 0, 0, 0, 0, 0, 0, 0, 0, 0, 0, 0, 0, 0, 0, 0, 0, 0, 0, 0, 0, 0, 0, 0, 0, 0, 0, 0, 0, 0, 0, 0, 0, 0, 0, 0, 0, 0, 0, 0, 0, 0, 0, 0, 0, 0, 0, 0, 0, 0, 0, 0, 0, 0, 0, 0, 0, 0, 0, 0, 0, 0, 0, 0, 0, 0, 0, 0, 0, 0, 0, 0, 0, 0, 0, 0, 0, 0, 0, 0, 0, 0, 0, 0, 0, 0, 0, 0, 0, 0, 0, 0, 0, 0, 0, 0, 0, 0, 0, 0, 0, 0, 0, 7, 0, 0, 0, 0, 0, 0, 0, 0, 0, 0, 0, 0, 0, 0, 0, 0, 0, 0, 0, 0, 0, 0, 0, 0, 0, 0, 0, 0, 0, 0, 0, 0, 0, 0, 0, 0, 0, 0, 0, 0, 0, 0, 0, 0] [33, 34, 35, 36, 37, 0, 38, 3, 2, 1, 39, 40, 41, 42, 7, 43, 8, 14, 19, 15, 16, 17, 18, 44, 45, 46, 47, 48, 49, 50, 51, 27, 28, 29, 30, 31, 9, 10, 11, 12, 13, 20, 21, 22, 23, 24, 25, 26, 52, 53, 54, 55, 56, 57, 58, 59, 60, 61, 62, 63, 4, 64, 65, 66, 67, 68, 69, 70, 71, 72, 73, 32, 74, 75, 76, 77, 78, 79, 80, 81, 82, 83, 5, 6, 84, 85, 86, 87, 88, 89, 90, 91, 92, 93, 94, 95, 96, 97, 98, 99, 100, 101, 102, 103, 104, 105, 106, 107, 108, 109, 110, 111, 112, 113, 114, 115, 116, 117, 118, 119, 120, 121, 122, 123, 124, 125, 126, 127, 128, 129, 130, 131, 132, 133, 134, 135, 136, 137, 138, 139, 140, 141, 142, 143, 144, 145, 146, 147, 148, 149, 150, 151, 152, 153, 154, 155, 156, 157, 158, 159, 160, 161, 162, 163, 164, 165, 166, 167, 168, 169, 170, 171, 172, 173, 174, 188, 189, 190, 200, 201, 202, 203, 204, 205, 206, 207, 208, 209, 175, 176, 177, 178, 179, 180, 181, 182, 183, 184, 185, 186, 187, 191, 192, 193, 194, 195, 196, 197, 198, 199, 210, 211, 212, 213, 214, 215, 216, 217, 218, 219] (by decide +kernel) (by decide +kernel)
set_option maxRecDepth 20000 in
theorem gX4_applyRules_X4_act : GoodIn wsX4_applyRules (wsV RX4 116 RX4 yX4_act wsX4_act) := goodIn_app (goodIn_of _ (by decide +kernel)) ggX4_applyRules_X4_act
theorem dX4_applyRules_0 : decode cX4_applyRules 0 = .ok (.iconst 0, 1) := by decide +kernel
theorem dX4_applyRules_1 : decode cX4_applyRules 1 = .ok (.istore_n 2, 1) := by decide +kernel
theorem dX4_applyRules_2 : decode cX4_applyRules 2 = .ok (.iload_n 2, 1) := by decide +kernel
theorem dX4_applyRules_3 : decode cX4_applyRules 3 = .ok (.aload_n 0, 1) := by decide +kernel
theorem dX4_applyRules_4 : decode cX4_applyRules 4 = .ok (.getfield 36, 3) := by decide +kernel
theorem dX4_applyRules_7 : decode cX4_applyRules 7 = .ok (.getfield 101, 3) := by decide +kernel
theorem dX4_applyRules_10 : decode cX4_applyRules 10 = .ok (.if_icmp .ge 44, 3) := by decide +kernel
theorem dX4_applyRules_13 : decode cX4_applyRules 13 = .ok (.aload_n 0, 1) := by decide +kernel
theorem dX4_applyRules_14 : decode cX4_applyRules 14 = .ok (.iload_n 2, 1) := by decide +kernel
theorem dX4_applyRules_15 : decode cX4_applyRules 15 = .ok (.aload_n 1, 1) := by decide +kernel
theorem dX4_applyRules_16 : decode cX4_applyRules 16 = .ok (.getfield 102, 3) := by decide +kernel
theorem dX4_applyRules_19 : decode cX4_applyRules 19 = .ok (.invokevirtual 105, 3) := by decide +kernel
theorem dX4_applyRules_22 : decode cX4_applyRules 22 = .ok (.ifCond .eq 26, 3) := by decide +kernel
theorem dX4_applyRules_25 : decode cX4_applyRules 25 = .ok (.aload_n 0, 1) := by decide +kernel
theorem dX4_applyRules_26 : decode cX4_applyRules 26 = .ok (.aload_n 0, 1) := by decide +kernel
theorem dX4_applyRules_27 : decode cX4_applyRules 27 = .ok (.getfield 36, 3) := by decide +kernel
theorem dX4_applyRules_30 : decode cX4_applyRules 30 = .ok (.getfield 109, 3) := by decide +kernel
theorem dX4_applyRules_33 : decode cX4_applyRules 33 = .ok (.iload_n 2, 1) := by decide +kernel
theorem dX4_applyRules_34 : decode cX4_applyRules 34 = .ok (.iaload, 1) := by decide +kernel
theorem dX4_applyRules_35 : decode cX4_applyRules 35 = .ok (.aload_n 0, 1) := by decide +kernel
theorem dX4_applyRules_36 : decode cX4_applyRules 36 = .ok (.getfield 36, 3) := by decide +kernel
theorem dX4_applyRules_39 : decode cX4_applyRules 39 = .ok (.getfield 113, 3) := by decide +kernel
theorem dX4_applyRules_42 : decode cX4_applyRules 42 = .ok (.iload_n 2, 1) := by decide +kernel
theorem dX4_applyRules_43 : decode cX4_applyRules 43 = .ok (.iaload, 1) := by decide +kernel
theorem dX4_applyRules_44 : decode cX4_applyRules 44 = .ok (.aload_n 1, 1) := by decide +kernel
theorem dX4_applyRules_45 : decode cX4_applyRules 45 = .ok (.invokevirtual 116, 3) := by decide +kernel
theorem dX4_applyRules_48 : decode cX4_applyRules 48 = .ok (.iinc 2 1, 3) := by decide +kernel
theorem dX4_applyRules_51 : decode cX4_applyRules 51 = .ok (.goto (-49), 3) := by decide +kernel
theorem dX4_applyRules_54 : decode cX4_applyRules 54 = .ok (.return_, 1) := by decide +kernel
set_option maxRecDepth 20000 in
theorem ggX4_act_X4_castFirst : GoodIn wsX4_act wsX4_castFirst := goodIn_h _ [6, 0, 0, 0, 0, 0, 0, 0, 0, 0, 0, 0, 0, 0, 0, 0, 0, 0, 0, 0, 0, 136, 0, 0, 0, 0, 0, 0, 0, 0, 0, 0, 0, 0, 0, 0, 0, 0, 0, 0, 0, 0, 0, 0, 0, 0] [0, 1, 2, 3, 4, 5, 6, 7, 8, 9, 10, 11, 12, 13, 14, 15, 16, 17, 18, 19, 20, 21, 22, 23, 24, 25, 26, 27, 28, 29, 30, 31, 32, 33, 34, 35, 36, 37, 38, 39, 40, 41, 42, 43, 44, 45] (by decide +kernel) (by decide +kernel)
set_option maxRecDepth 20000 in
theorem gX4_act_X4_castFirst : GoodIn wsX4_act (wsV RX4 155 RX4 yX4_castFirst wsX4_castFirst) := goodIn_app (goodIn_of _ (by decide +kernel)) ggX4_act_X4_castFirst
set_option maxRecDepth 20000 in
theorem ggX4_act_X4_dropThinnest : GoodIn wsX4_act wsX4_dropThinnest := goodIn_h _ [7, 1, 0, 3, 1, 0, 0, 0, 0, 0, 0, 7, 0, 0, 0, 0, 0, 0, 0, 0, 0, 0, 0, 0, 0, 0, 0, 0, 0, 0, 0, 0, 0, 0, 0, 0, 0, 107, 0, 0, 0, 0, 0, 0, 0, 0, 0, 0, 0, 0, 0, 0, 0, 0, 0, 0, 0, 0, 0, 0, 0, 0] [11, 1, 2, 0, 12, 13, 14, 3, 15, 16, 4, 17, 18, 19, 20, 21, 5, 7, 8, 9, 10, 6, 22, 23, 24, 25, 26, 27, 28, 29, 30, 31, 32, 33, 34, 35, 36, 37, 38, 39, 40, 41, 42, 43, 44, 45, 46, 47, 48, 52, 53, 54, 55, 56, 57, 58, 59, 60, 61, 49, 50, 51] (by decide +kernel) (by decide +kernel)
set_option maxRecDepth 20000 in
theorem gX4_act_X4_dropThinnest : GoodIn wsX4_act (wsV RX4 158 RX4 yX4_dropThinnest wsX4_dropThinnest) := goodIn_app (goodIn_of _ (by decide +kernel)) ggX4_act_X4_dropThinnest
set_option maxRecDepth 20000 in
theorem ggX4_act_X4_findFirst : GoodIn wsX4_act wsX4_findFirst := goodIn_h _ [1, 3, 1, 0, 1, 0, 0, 0, 0, 0, 0, 0, 0, 0, 0, 0, 0, 0, 0, 0, 0, 32, 0, 0, 0, 0, 0, 0, 97, 0, 0, 0, 0, 0, 0, 0, 0, 0, 0, 0, 0, 0, 0, 0, 0, 0, 0, 0, 0, 0, 0, 0, 0] [21, 22, 3, 0, 23, 24, 25, 1, 26, 4, 2, 27, 5, 6, 7, 8, 9, 10, 11, 12, 13, 14, 15, 16, 17, 18, 19, 20, 28, 29, 30, 31, 32, 33, 34, 35, 36, 37, 38, 39, 40, 41, 42, 43, 44, 45, 46, 47, 48, 49, 50, 51, 52] (by decide +kernel) (by decide +kernel)
set_option maxRecDepth 20000 in
theorem gX4_act_X4_findFirst : GoodIn wsX4_act (wsV RX4 161 RX4 yX4_findFirst wsX4_findFirst) := goodIn_app (goodIn_of _ (by decide +kernel)) ggX4_act_X4_findFirst
set_option maxRecDepth 20000 in
theorem ggX4_act_X4_throwLast : GoodIn wsX4_act wsX4_throwLast := goodIn_h _ [7, 0, 1, 3, 1, 0, 0, 0, 0, 0, 0, 14, 0, 0, 0, 1, 0, 0, 0, 0, 0, 0, 0, 0, 0, 17, 0, 0, 0, 0, 0, 0, 0, 0, 85, 0, 0, 0, 0, 0, 0, 0, 0, 0, 0, 0, 0, 0, 0, 0, 0, 0, 0, 0, 0, 0, 0, 0, 0, 0, 0, 0, 0, 0, 0, 0, 0, 0, 0, 0, 0, 0] [25, 0, 1, 2, 26, 27, 28, 21, 22, 23, 3, 24, 4, 5, 11, 12, 13, 14, 7, 8, 9, 10, 6, 29, 30, 31, 17, 32, 33, 15, 16, 18, 19, 20, 34, 35, 36, 37, 38, 39, 40, 41, 42, 43, 44, 45, 46, 47, 48, 49, 50, 51, 52, 53, 54, 55, 56, 57, 58, 59, 60, 61, 62, 63, 64, 65, 66, 67, 68, 69, 70, 71] (by decide +kernel) (by decide +kernel)
set_option maxRecDepth 20000 in
theorem gX4_act_X4_throwLast : GoodIn wsX4_act (wsV RX4 164 RX4 yX4_throwLast wsX4_throwLast) := goodIn_app (goodIn_of _ (by decide +kernel)) ggX4_act_X4_throwLast
set_option maxRecDepth 20000 in
theorem ggX4_act_X4_cutStrand : GoodIn wsX4_act wsX4_cutStrand := goodIn_h _ [81, 0, 0, 0, 0, 0, 0, 0, 0, 0, 0, 0, 0, 0, 0, 0, 0, 0, 0, 0, 0, 0, 0, 0, 0, 0, 0, 0, 0, 0, 0, 0, 0, 0, 0, 0, 0, 0, 0, 0, 0, 0, 0, 0, 0, 0, 0, 0, 0, 0, 0, 0, 0, 0, 0, 0, 0, 0, 0, 0, 0, 0, 0, 0, 0, 0, 0, 0, 0, 0, 0, 0, 0, 0, 0, 0, 0, 0, 0, 0, 0, 0, 0, 0, 0, 0, 0, 0, 0, 0, 0, 0, 0, 0, 13, 0, 0, 0, 0, 0, 0, 0, 0, 0, 0, 0, 0, 0, 0, 0, 0, 0, 0, 0, 0, 0, 0, 0, 0, 0, 0, 0, 0, 0, 0, 0] [0, 1, 2, 3, 4, 5, 6, 7, 8, 9, 10, 11, 12, 13, 14, 15, 16, 17, 18, 19, 20, 21, 22, 23, 24, 25, 26, 27, 28, 29, 30, 31, 32, 33, 34, 35, 36, 37, 38, 39, 40, 41, 42, 43, 44, 45, 46, 47, 48, 49, 50, 51, 52, 53, 54, 55, 56, 57, 58, 59, 60, 61, 62, 63, 64, 65, 66, 67, 68, 69, 70, 71, 72, 73, 74, 75, 76, 77, 78, 79, 80, 81, 82, 83, 84, 85, 86, 87, 88, 89, 90, 91, 92, 93, 107, 108, 109, 110, 111, 112, 113, 114, 115, 94, 95, 96, 97, 98, 99, 100, 101, 102, 103, 104, 105, 106, 116, 117, 118, 119, 120, 121, 122, 123, 124, 125] (by decide +kernel) (by decide +kernel)
set_option maxRecDepth 20000 in
theorem gX4_act_X4_cutStrand : GoodIn wsX4_act (wsV RX4 167 RX4 yX4_cutStrand wsX4_cutStrand) := goodIn_app (goodIn_of _ (by decide +kernel)) ggX4_act_X4_cutStrand
theorem dX4_act_0 : decode cX4_act 0 = .ok (.iload_n 1, 1) := by decide +kernel
theorem dX4_act_1 : decode cX4_act 1 = .ok (.tableswitch 73 0 4 #[35, 42, 49, 56, 64], 35) := by decide +kernel
theorem dX4_act_36 : decode cX4_act 36 = .ok (.aload_n 0, 1) := by decide +kernel
theorem dX4_act_37 : decode cX4_act 37 = .ok (.invokevirtual 155, 3) := by decide +kernel
theorem dX4_act_40 : decode cX4_act 40 = .ok (.goto 44, 3) := by decide +kernel
theorem dX4_act_43 : decode cX4_act 43 = .ok (.aload_n 0, 1) := by decide +kernel
theorem dX4_act_44 : decode cX4_act 44 = .ok (.invokevirtual 158, 3) := by decide +kernel
theorem dX4_act_47 : decode cX4_act 47 = .ok (.goto 37, 3) := by decide +kernel
theorem dX4_act_50 : decode cX4_act 50 = .ok (.aload_n 0, 1) := by decide +kernel
theorem dX4_act_51 : decode cX4_act 51 = .ok (.invokevirtual 161, 3) := by decide +kernel
theorem dX4_act_54 : decode cX4_act 54 = .ok (.goto 30, 3) := by decide +kernel
theorem dX4_act_57 : decode cX4_act 57 = .ok (.aload_n 0, 1) := by decide +kernel
theorem dX4_act_58 : decode cX4_act 58 = .ok (.aload_n 3, 1) := by decide +kernel
theorem dX4_act_59 : decode cX4_act 59 = .ok (.invokevirtual 164, 3) := by decide +kernel
theorem dX4_act_62 : decode cX4_act 62 = .ok (.goto 22, 3) := by decide +kernel
theorem dX4_act_65 : decode cX4_act 65 = .ok (.aload_n 0, 1) := by decide +kernel
theorem dX4_act_66 : decode cX4_act 66 = .ok (.aload_n 3, 1) := by decide +kernel
theorem dX4_act_67 : decode cX4_act 67 = .ok (.invokevirtual 167, 3) := by decide +kernel
theorem dX4_act_70 : decode cX4_act 70 = .ok (.pop, 1) := by decide +kernel
theorem dX4_act_71 : decode cX4_act 71 = .ok (.goto 13, 3) := by decide +kernel
theorem dX4_act_74 : decode cX4_act 74 = .ok (.aload_n 0, 1) := by decide +kernel
theorem dX4_act_75 : decode cX4_act 75 = .ok (.dup, 1) := by decide +kernel
theorem dX4_act_76 : decode cX4_act 76 = .ok (.getfield 66, 3) := by decide +kernel
theorem dX4_act_79 : decode cX4_act 79 = .ok (.iload_n 2, 1) := by decide +kernel
theorem dX4_act_80 : decode cX4_act 80 = .ok (.iadd, 1) := by decide +kernel
theorem dX4_act_81 : decode cX4_act 81 = .ok (.putfield 66, 3) := by decide +kernel
theorem dX4_act_84 : decode cX4_act 84 = .ok (.return_, 1) := by decide +kernel
set_option maxRecDepth 20000 in
theorem ggX4_drawMetre_X5_sumOfFineness : GoodIn wsX4_drawMetre wsX5_sumOfFineness := goodIn_h _ [10, 0, 0, 0, 0, 0, 0, 0, 0, 0, 0, 0, 0, 0, 0, 0, 0, 0, 0, 0, 0, 147, 0, 0, 22, 0, 0, 0, 0, 0, 0, 0, 0, 0] [1, 2, 3, 4, 5, 6, 0, 7, 8, 9, 10, 11, 12, 13, 14, 15, 16, 17, 18, 19, 20, 21, 22, 23, 24, 25, 26, 27, 28, 29, 30, 31, 32, 33] (by decide +kernel) (by decide +kernel)
set_option maxRecDepth 20000 in
theorem gX4_drawMetre_X5_sumOfFineness : GoodIn wsX4_drawMetre (wsV RX4 140 RX5 yX5_sumOfFineness wsX5_sumOfFineness) := goodIn_app (goodIn_of _ (by decide +kernel)) ggX4_drawMetre_X5_sumOfFineness
set_option maxRecDepth 20000 in
theorem ggX4_drawMetre_X9_addMetre : GoodIn wsX4_drawMetre wsX9_addMetre := goodIn_h _ [35, 0, 0, 0, 0, 141, 0, 0, 0, 0, 0, 0, 0, 0] [0, 1, 2, 3, 4, 5, 6, 7, 8, 9, 10, 11, 12, 13] (by decide +kernel) (by decide +kernel)
set_option maxRecDepth 20000 in
theorem gX4_drawMetre_X9_addMetre : GoodIn wsX4_drawMetre (wsV RX4 193 RX9 yX9_addMetre wsX9_addMetre) := goodIn_app (goodIn_of _ (by decide +kernel)) ggX4_drawMetre_X9_addMetre
set_option maxRecDepth 20000 in
theorem ggX4_drawMetre_X5_removeFirst : GoodIn wsX4_drawMetre wsX5_removeFirst := goodIn_h _ [10, 1, 5, 0, 0, 0, 0, 0, 19, 134, 0, 0] [8, 1, 2, 7, 3, 4, 5, 0, 6, 9, 10, 11] (by decide +kernel) (by decide +kernel)
set_option maxRecDepth 20000 in
theorem gX4_drawMetre_X5_removeFirst : GoodIn wsX4_drawMetre (wsV RX4 97 RX5 yX5_removeFirst wsX5_removeFirst) := goodIn_app (goodIn_of _ (by decide +kernel)) ggX4_drawMetre_X5_removeFirst
set_option maxRecDepth 20000 in
theorem ggX4_drawMetre_X4_drawEnd : GoodIn wsX4_drawMetre wsX4_drawEnd := goodIn_h _ [1, 1, 6, 1, 5, 0, 0, 0, 0, 0, 3, 1, 4, 13, 0, 0, 0, 0, 0, 0, 0, 0, 0, 0, 0, 0, 0, 0, 0, 0, 0, 0, 0, 0, 0, 0, 0, 0, 0, 0, 0, 0, 0, 0, 0, 0, 0, 0, 0, 0, 0, 0, 0, 0, 0, 0, 0, 0, 0, 0, 0, 0, 0, 0, 0, 0, 0, 0, 0, 0, 0, 0, 0, 0, 0, 0, 0, 54, 0, 0, 0, 0, 0, 0, 0, 0, 0, 0, 0, 0, 0, 0, 0, 0, 0, 0, 0, 0, 0, 0, 0, 13, 0, 0, 0, 0, 0, 0, 0, 0, 0] [13, 1, 14, 0, 15, 16, 17, 18, 12, 19, 20, 21, 22, 23, 24, 25, 26, 27, 28, 29, 10, 30, 31, 32, 33, 34, 35, 36, 37, 38, 39, 40, 41, 42, 43, 44, 45, 46, 47, 48, 49, 50, 51, 52, 53, 54, 55, 56, 57, 58, 59, 60, 61, 11, 62, 63, 64, 65, 66, 67, 68, 69, 70, 71, 72, 73, 74, 75, 2, 76, 3, 4, 5, 6, 7, 8, 9, 77, 78, 79, 80, 81, 82, 83, 84, 85, 86, 87, 88, 101, 102, 103, 104, 105, 106, 107, 108, 109, 110, 92, 93, 94, 95, 96, 97, 98, 99, 100, 89, 90, 91] (by decide +kernel) (by decide +kernel)
set_option maxRecDepth 20000 in
theorem gX4_drawMetre_X4_drawEnd : GoodIn wsX4_drawMetre (wsV RX4 203 RX4 yX4_drawEnd wsX4_drawEnd) := goodIn_app (goodIn_of _ (by decide +kernel)) ggX4_drawMetre_X4_drawEnd
set_option maxRecDepth 20000 in
theorem ggX4_drawMetre_X4_cutStrand : GoodIn wsX4_drawMetre wsX4_cutStrand := goodIn_h _ [3, 0, 29, 1, 0, 0, 0, 16, 0, 0, 0, 0, 12, 0, 0, 0, 0, 0, 0, 0, 0, 0, 0, 0, 0, 0, 0, 0, 0, 0, 0, 23, 0, 0, 0, 0, 0, 0, 0, 0, 0, 0, 0, 0, 0, 0, 0, 0, 0, 0, 0, 0, 0, 0, 0, 0, 0, 0, 0, 0, 0, 0, 0, 0, 0, 0, 0, 0, 0, 0, 0, 0, 0, 0, 0, 0, 0, 0, 0, 0, 0, 0, 0, 0, 0, 0, 0, 0, 0, 0, 0, 0, 0, 0, 3, 0, 0, 0, 0, 0, 0, 0, 0, 0, 0, 0, 0, 0, 0, 0, 0, 0, 0, 0, 0, 0, 10, 0, 0, 0, 0, 0, 0, 0, 0, 0] [31, 0, 1, 32, 33, 34, 35, 36, 37, 38, 39, 40, 41, 42, 43, 44, 45, 46, 47, 2, 48, 49, 50, 51, 52, 53, 54, 55, 3, 56, 57, 13, 58, 6, 7, 4, 5, 8, 9, 10, 11, 15, 16, 17, 18, 19, 20, 21, 22, 23, 24, 25, 26, 12, 14, 27, 28, 29, 30, 59, 60, 61, 62, 63, 64, 65, 66, 67, 68, 69, 70, 71, 72, 73, 74, 75, 76, 77, 78, 79, 80, 81, 82, 83, 84, 85, 86, 87, 88, 89, 90, 91, 92, 93, 94, 95, 96, 97, 98, 99, 100, 101, 102, 103, 104, 105, 106, 107, 108, 109, 110, 111, 112, 113, 114, 115, 116, 117, 118, 119, 120, 121, 122, 123, 124, 125] (by decide +kernel) (by decide +kernel)
set_option maxRecDepth 20000 in
theorem gX4_drawMetre_X4_cutStrand : GoodIn wsX4_drawMetre (wsV RX4 167 RX4 yX4_cutStrand wsX4_cutStrand) := goodIn_app (goodIn_of _ (by decide +kernel)) ggX4_drawMetre_X4_cutStrand
theorem dX4_drawMetre_0 : decode cX4_drawMetre 0 = .ok (.aload_n 0, 1) := by decide +kernel
theorem dX4_drawMetre_1 : decode cX4_drawMetre 1 = .ok (.getfield 20, 3) := by decide +kernel
theorem dX4_drawMetre_4 : decode cX4_drawMetre 4 = .ok (.invokevirtual 140, 3) := by decide +kernel
theorem dX4_drawMetre_7 : decode cX4_drawMetre 7 = .ok (.istore_n 2, 1) := by decide +kernel
theorem dX4_drawMetre_8 : decode cX4_drawMetre 8 = .ok (.aload_n 0, 1) := by decide +kernel
theorem dX4_drawMetre_9 : decode cX4_drawMetre 9 = .ok (.getfield 20, 3) := by decide +kernel
theorem dX4_drawMetre_12 : decode cX4_drawMetre 12 = .ok (.getfield 73, 3) := by decide +kernel
theorem dX4_drawMetre_15 : decode cX4_drawMetre 15 = .ok (.istore_n 3, 1) := by decide +kernel
theorem dX4_drawMetre_16 : decode cX4_drawMetre 16 = .ok (.aload_n 0, 1) := by decide +kernel
theorem dX4_drawMetre_17 : decode cX4_drawMetre 17 = .ok (.getfield 29, 3) := by decide +kernel
theorem dX4_drawMetre_20 : decode cX4_drawMetre 20 = .ok (.getfield 79, 3) := by decide +kernel
theorem dX4_drawMetre_23 : decode cX4_drawMetre 23 = .ok (.istore 4, 2) := by decide +kernel
theorem dX4_drawMetre_25 : decode cX4_drawMetre 25 = .ok (.aload_n 0, 1) := by decide +kernel
theorem dX4_drawMetre_26 : decode cX4_drawMetre 26 = .ok (.getfield 29, 3) := by decide +kernel
theorem dX4_drawMetre_29 : decode cX4_drawMetre 29 = .ok (.iload_n 2, 1) := by decide +kernel
theorem dX4_drawMetre_30 : decode cX4_drawMetre 30 = .ok (.iload_n 3, 1) := by decide +kernel
theorem dX4_drawMetre_31 : decode cX4_drawMetre 31 = .ok (.invokevirtual 193, 3) := by decide +kernel
theorem dX4_drawMetre_34 : decode cX4_drawMetre 34 = .ok (.aload_n 1, 1) := by decide +kernel
theorem dX4_drawMetre_35 : decode cX4_drawMetre 35 = .ok (.dup, 1) := by decide +kernel
theorem dX4_drawMetre_36 : decode cX4_drawMetre 36 = .ok (.getfield 197, 3) := by decide +kernel
theorem dX4_drawMetre_39 : decode cX4_drawMetre 39 = .ok (.iload_n 2, 1) := by decide +kernel
theorem dX4_drawMetre_40 : decode cX4_drawMetre 40 = .ok (.iadd, 1) := by decide +kernel
theorem dX4_drawMetre_41 : decode cX4_drawMetre 41 = .ok (.putfield 197, 3) := by decide +kernel
theorem dX4_drawMetre_44 : decode cX4_drawMetre 44 = .ok (.aload_n 0, 1) := by decide +kernel
theorem dX4_drawMetre_45 : decode cX4_drawMetre 45 = .ok (.dup, 1) := by decide +kernel
theorem dX4_drawMetre_46 : decode cX4_drawMetre 46 = .ok (.getfield 200, 3) := by decide +kernel
theorem dX4_drawMetre_49 : decode cX4_drawMetre 49 = .ok (.iconst 1, 1) := by decide +kernel
theorem dX4_drawMetre_50 : decode cX4_drawMetre 50 = .ok (.iadd, 1) := by decide +kernel
theorem dX4_drawMetre_51 : decode cX4_drawMetre 51 = .ok (.putfield 200, 3) := by decide +kernel
theorem dX4_drawMetre_54 : decode cX4_drawMetre 54 = .ok (.iconst 0, 1) := by decide +kernel
theorem dX4_drawMetre_55 : decode cX4_drawMetre 55 = .ok (.istore 5, 2) := by decide +kernel
theorem dX4_drawMetre_57 : decode cX4_drawMetre 57 = .ok (.iload 5, 2) := by decide +kernel
theorem dX4_drawMetre_59 : decode cX4_drawMetre 59 = .ok (.iload_n 3, 1) := by decide +kernel
theorem dX4_drawMetre_60 : decode cX4_drawMetre 60 = .ok (.if_icmp .ge 22, 3) := by decide +kernel
theorem dX4_drawMetre_63 : decode cX4_drawMetre 63 = .ok (.aload_n 0, 1) := by decide +kernel
theorem dX4_drawMetre_64 : decode cX4_drawMetre 64 = .ok (.aload_n 0, 1) := by decide +kernel
theorem dX4_drawMetre_65 : decode cX4_drawMetre 65 = .ok (.getfield 20, 3) := by decide +kernel
theorem dX4_drawMetre_68 : decode cX4_drawMetre 68 = .ok (.invokevirtual 97, 3) := by decide +kernel
theorem dX4_drawMetre_71 : decode cX4_drawMetre 71 = .ok (.iload 4, 2) := by decide +kernel
theorem dX4_drawMetre_73 : decode cX4_drawMetre 73 = .ok (.invokevirtual 203, 3) := by decide +kernel
theorem dX4_drawMetre_76 : decode cX4_drawMetre 76 = .ok (.iinc 5 1, 3) := by decide +kernel
theorem dX4_drawMetre_79 : decode cX4_drawMetre 79 = .ok (.goto (-22), 3) := by decide +kernel
theorem dX4_drawMetre_82 : decode cX4_drawMetre 82 = .ok (.aload_n 0, 1) := by decide +kernel
theorem dX4_drawMetre_83 : decode cX4_drawMetre 83 = .ok (.getfield 29, 3) := by decide +kernel
theorem dX4_drawMetre_86 : decode cX4_drawMetre 86 = .ok (.getfield 79, 3) := by decide +kernel
theorem dX4_drawMetre_89 : decode cX4_drawMetre 89 = .ok (.sipush 300, 3) := by decide +kernel
theorem dX4_drawMetre_92 : decode cX4_drawMetre 92 = .ok (.if_icmp .lt 9, 3) := by decide +kernel
theorem dX4_drawMetre_95 : decode cX4_drawMetre 95 = .ok (.aload_n 0, 1) := by decide +kernel
theorem dX4_drawMetre_96 : decode cX4_drawMetre 96 = .ok (.aload_n 1, 1) := by decide +kernel
theorem dX4_drawMetre_97 : decode cX4_drawMetre 97 = .ok (.invokevirtual 167, 3) := by decide +kernel
theorem dX4_drawMetre_100 : decode cX4_drawMetre 100 = .ok (.pop, 1) := by decide +kernel
theorem dX4_drawMetre_101 : decode cX4_drawMetre 101 = .ok (.return_, 1) := by decide +kernel
set_option maxRecDepth 20000 in
theorem ggX4_drawEnd_X9_addMetreOf : GoodIn wsX4_drawEnd wsX9_addMetreOf := goodIn_h _ [8, 0, 0, 0, 0, 0, 0, 0, 0, 0, 0, 0, 0, 0, 0, 0, 0, 0, 0, 0, 0, 0, 0, 0, 0, 0, 0, 0, 0, 0, 0, 0, 0, 0, 0, 0, 0, 0, 0, 0, 41, 0, 0, 0, 0, 0, 0, 0, 0, 0, 0, 0, 0, 0, 0, 0, 0, 0, 0] [1, 2, 3, 4, 5, 6, 7, 8, 9, 10, 11, 12, 13, 14, 15, 16, 17, 18, 0, 19, 20, 21, 22, 23, 24, 25, 26, 27, 28, 29, 30, 31, 32, 33, 34, 35, 36, 37, 38, 39, 40, 41, 42, 43, 44, 45, 46, 47, 48, 49, 50, 51, 52, 53, 54, 55, 56, 57, 58] (by decide +kernel) (by decide +kernel)
set_option maxRecDepth 20000 in
theorem gX4_drawEnd_X9_addMetreOf : GoodIn wsX4_drawEnd (wsV RX4 207 RX9 yX9_addMetreOf wsX9_addMetreOf) := goodIn_app (goodIn_of _ (by decide +kernel)) ggX4_drawEnd_X9_addMetreOf
set_option maxRecDepth 20000 in
theorem ggX4_drawEnd_X0_drawOneMetre : GoodIn wsX4_drawEnd wsX0_drawOneMetre := goodIn_h _ [20, 2, 27, 0, 0, 0, 0, 0, 0, 0, 0, 0, 0, 0, 0, 0, 24, 0, 0, 0, 0, 0, 0, 0, 0, 0] [2, 3, 4, 5, 6, 7, 8, 0, 9, 10, 1, 11, 12, 13, 14, 15, 16, 17, 18, 19, 20, 21, 22, 23, 24, 25] (by decide +kernel) (by decide +kernel)
set_option maxRecDepth 20000 in
theorem gX4_drawEnd_X0_drawOneMetre : GoodIn wsX4_drawEnd (wsV RX4 210 RX0 yX0_drawOneMetre wsX0_drawOneMetre) := goodIn_app (goodIn_of _ (by decide +kernel)) ggX4_drawEnd_X0_drawOneMetre
set_option maxRecDepth 20000 in
theorem ggX4_drawEnd_X5_addLast : GoodIn wsX4_drawEnd wsX5_addLast := goodIn_h _ [68, 0, 0, 0, 0, 0, 0, 0, 0, 31, 0, 0] [1, 2, 3, 4, 5, 6, 0, 7, 8, 9, 10, 11] (by decide +kernel) (by decide +kernel)
set_option maxRecDepth 20000 in
theorem gX4_drawEnd_X5_addLast : GoodIn wsX4_drawEnd (wsV RX4 56 RX5 yX5_addLast wsX5_addLast) := goodIn_app (goodIn_of _ (by decide +kernel)) ggX4_drawEnd_X5_addLast
theorem dX4_drawEnd_0 : decode cX4_drawEnd 0 = .ok (.aload_n 1, 1) := by decide +kernel
theorem dX4_drawEnd_1 : decode cX4_drawEnd 1 = .ok (.ifnonnull 4, 3) := by decide +kernel
theorem dX4_drawEnd_4 : decode cX4_drawEnd 4 = .ok (.return_, 1) := by decide +kernel
theorem dX4_drawEnd_5 : decode cX4_drawEnd 5 = .ok (.aload_n 0, 1) := by decide +kernel
theorem dX4_drawEnd_6 : decode cX4_drawEnd 6 = .ok (.getfield 29, 3) := by decide +kernel
theorem dX4_drawEnd_9 : decode cX4_drawEnd 9 = .ok (.aload_n 1, 1) := by decide +kernel
theorem dX4_drawEnd_10 : decode cX4_drawEnd 10 = .ok (.iload_n 2, 1) := by decide +kernel
theorem dX4_drawEnd_11 : decode cX4_drawEnd 11 = .ok (.invokevirtual 207, 3) := by decide +kernel
theorem dX4_drawEnd_14 : decode cX4_drawEnd 14 = .ok (.aload_n 1, 1) := by decide +kernel
theorem dX4_drawEnd_15 : decode cX4_drawEnd 15 = .ok (.invokevirtual 210, 3) := by decide +kernel
theorem dX4_drawEnd_18 : decode cX4_drawEnd 18 = .ok (.aload_n 1, 1) := by decide +kernel
theorem dX4_drawEnd_19 : decode cX4_drawEnd 19 = .ok (.getfield 53, 3) := by decide +kernel
theorem dX4_drawEnd_22 : decode cX4_drawEnd 22 = .ok (.iconst 2, 1) := by decide +kernel
theorem dX4_drawEnd_23 : decode cX4_drawEnd 23 = .ok (.if_icmp .ne 14, 3) := by decide +kernel
theorem dX4_drawEnd_26 : decode cX4_drawEnd 26 = .ok (.aload_n 0, 1) := by decide +kernel
theorem dX4_drawEnd_27 : decode cX4_drawEnd 27 = .ok (.getfield 20, 3) := by decide +kernel
theorem dX4_drawEnd_30 : decode cX4_drawEnd 30 = .ok (.aload_n 1, 1) := by decide +kernel
theorem dX4_drawEnd_31 : decode cX4_drawEnd 31 = .ok (.invokevirtual 56, 3) := by decide +kernel
theorem dX4_drawEnd_34 : decode cX4_drawEnd 34 = .ok (.goto 19, 3) := by decide +kernel
theorem dX4_drawEnd_37 : decode cX4_drawEnd 37 = .ok (.aload_n 1, 1) := by decide +kernel
theorem dX4_drawEnd_38 : decode cX4_drawEnd 38 = .ok (.getfield 53, 3) := by decide +kernel
theorem dX4_drawEnd_41 : decode cX4_drawEnd 41 = .ok (.iconst 3, 1) := by decide +kernel
theorem dX4_drawEnd_42 : decode cX4_drawEnd 42 = .ok (.if_icmp .ne 11, 3) := by decide +kernel
theorem dX4_drawEnd_45 : decode cX4_drawEnd 45 = .ok (.aload_n 0, 1) := by decide +kernel
theorem dX4_drawEnd_46 : decode cX4_drawEnd 46 = .ok (.getfield 23, 3) := by decide +kernel
theorem dX4_drawEnd_49 : decode cX4_drawEnd 49 = .ok (.aload_n 1, 1) := by decide +kernel
theorem dX4_drawEnd_50 : decode cX4_drawEnd 50 = .ok (.invokevirtual 56, 3) := by decide +kernel
theorem dX4_drawEnd_53 : decode cX4_drawEnd 53 = .ok (.return_, 1) := by decide +kernel
set_option maxRecDepth 20000 in
theorem ggX8_keep_X9_init_ : GoodIn wsX8_keep wsX9_init_ := goodIn_h _ [15, 0, 0, 0, 0, 0, 0, 0, 0, 0, 0, 0, 0, 0, 0, 0, 0, 0, 0, 0, 0, 0, 0, 0, 0, 0, 0, 0, 0, 0, 0, 0, 0, 0, 0, 32, 0, 0, 0, 0, 0, 0, 0, 0] [0, 1, 2, 3, 4, 5, 6, 7, 8, 9, 10, 11, 12, 13, 14, 15, 16, 17, 18, 19, 20, 21, 22, 23, 24, 25, 26, 27, 28, 29, 30, 31, 32, 33, 34, 35, 36, 37, 38, 39, 40, 41, 42, 43] (by decide +kernel) (by decide +kernel)
set_option maxRecDepth 20000 in
theorem gX8_keep_X9_init_ : GoodIn wsX8_keep (wsX9_init_) := ggX8_keep_X9_init_
set_option maxRecDepth 20000 in
theorem ggX8_keep_X7_init : GoodIn wsX8_keep wsX7_init := goodIn_h _ [17, 0, 2, 0, 0, 20, 0, 6, 0, 0, 0, 0, 0, 0, 0, 0, 0, 0, 0, 0, 0, 0, 0, 0, 13, 0, 0, 0, 0, 0, 0, 0, 0, 0, 0, 0, 0, 0, 0, 0, 0, 0, 0] [7, 8, 0, 1, 9, 10, 11, 12, 13, 14, 15, 16, 5, 3, 6, 17, 2, 4, 18, 19, 20, 21, 22, 23, 33, 34, 35, 36, 37, 38, 39, 40, 41, 42, 24, 25, 26, 27, 28, 29, 30, 31, 32] (by decide +kernel) (by decide +kernel)
set_option maxRecDepth 20000 in
theorem gX8_keep_X7_init : GoodIn wsX8_keep (wsX7_init) := ggX8_keep_X7_init
theorem dX8_keep_0 : decode cX8_keep 0 = .ok (.aload_n 0, 1) := by decide +kernel
theorem dX8_keep_1 : decode cX8_keep 1 = .ok (.getfield 37, 3) := by decide +kernel
theorem dX8_keep_4 : decode cX8_keep 4 = .ok (.bipush 40, 2) := by decide +kernel
theorem dX8_keep_6 : decode cX8_keep 6 = .ok (.if_icmp .lt 19, 3) := by decide +kernel
theorem dX8_keep_9 : decode cX8_keep 9 = .ok (.aload_n 0, 1) := by decide +kernel
theorem dX8_keep_10 : decode cX8_keep 10 = .ok (.dup, 1) := by decide +kernel
theorem dX8_keep_11 : decode cX8_keep 11 = .ok (.getfield 41, 3) := by decide +kernel
theorem dX8_keep_14 : decode cX8_keep 14 = .ok (.aload_n 1, 1) := by decide +kernel
theorem dX8_keep_15 : decode cX8_keep 15 = .ok (.getfield 44, 3) := by decide +kernel
theorem dX8_keep_18 : decode cX8_keep 18 = .ok (.iadd, 1) := by decide +kernel
theorem dX8_keep_19 : decode cX8_keep 19 = .ok (.putfield 41, 3) := by decide +kernel
theorem dX8_keep_22 : decode cX8_keep 22 = .ok (.bipush (-2), 2) := by decide +kernel
theorem dX8_keep_24 : decode cX8_keep 24 = .ok (.ireturn, 1) := by decide +kernel
theorem dX8_keep_25 : decode cX8_keep 25 = .ok (.aload_n 0, 1) := by decide +kernel
theorem dX8_keep_26 : decode cX8_keep 26 = .ok (.getfield 17, 3) := by decide +kernel
theorem dX8_keep_29 : decode cX8_keep 29 = .ok (.aload_n 0, 1) := by decide +kernel
theorem dX8_keep_30 : decode cX8_keep 30 = .ok (.getfield 37, 3) := by decide +kernel
theorem dX8_keep_33 : decode cX8_keep 33 = .ok (.new 15, 3) := by decide +kernel
theorem dX8_keep_36 : decode cX8_keep 36 = .ok (.dup, 1) := by decide +kernel
theorem dX8_keep_37 : decode cX8_keep 37 = .ok (.new 45, 3) := by decide +kernel
theorem dX8_keep_40 : decode cX8_keep 40 = .ok (.dup, 1) := by decide +kernel
theorem dX8_keep_41 : decode cX8_keep 41 = .ok (.aload_n 1, 1) := by decide +kernel
theorem dX8_keep_42 : decode cX8_keep 42 = .ok (.invokespecial 49, 3) := by decide +kernel
theorem dX8_keep_45 : decode cX8_keep 45 = .ok (.iload_n 2, 1) := by decide +kernel
theorem dX8_keep_46 : decode cX8_keep 46 = .ok (.iload_n 3, 1) := by decide +kernel
theorem dX8_keep_47 : decode cX8_keep 47 = .ok (.aload_n 0, 1) := by decide +kernel
theorem dX8_keep_48 : decode cX8_keep 48 = .ok (.getfield 52, 3) := by decide +kernel
theorem dX8_keep_51 : decode cX8_keep 51 = .ok (.invokespecial 55, 3) := by decide +kernel
theorem dX8_keep_54 : decode cX8_keep 54 = .ok (.aastore, 1) := by decide +kernel
theorem dX8_keep_55 : decode cX8_keep 55 = .ok (.aload_n 0, 1) := by decide +kernel
theorem dX8_keep_56 : decode cX8_keep 56 = .ok (.dup, 1) := by decide +kernel
theorem dX8_keep_57 : decode cX8_keep 57 = .ok (.getfield 58, 3) := by decide +kernel
theorem dX8_keep_60 : decode cX8_keep 60 = .ok (.aload_n 1, 1) := by decide +kernel
theorem dX8_keep_61 : decode cX8_keep 61 = .ok (.getfield 44, 3) := by decide +kernel
theorem dX8_keep_64 : decode cX8_keep 64 = .ok (.iadd, 1) := by decide +kernel
theorem dX8_keep_65 : decode cX8_keep 65 = .ok (.putfield 58, 3) := by decide +kernel
theorem dX8_keep_68 : decode cX8_keep 68 = .ok (.aload_n 0, 1) := by decide +kernel
theorem dX8_keep_69 : decode cX8_keep 69 = .ok (.dup, 1) := by decide +kernel
theorem dX8_keep_70 : decode cX8_keep 70 = .ok (.getfield 37, 3) := by decide +kernel
theorem dX8_keep_73 : decode cX8_keep 73 = .ok (.iconst 1, 1) := by decide +kernel
theorem dX8_keep_74 : decode cX8_keep 74 = .ok (.iadd, 1) := by decide +kernel
theorem dX8_keep_75 : decode cX8_keep 75 = .ok (.putfield 37, 3) := by decide +kernel
theorem dX8_keep_78 : decode cX8_keep 78 = .ok (.aload_n 0, 1) := by decide +kernel
theorem dX8_keep_79 : decode cX8_keep 79 = .ok (.getfield 37, 3) := by decide +kernel
theorem dX8_keep_82 : decode cX8_keep 82 = .ok (.iconst 1, 1) := by decide +kernel
theorem dX8_keep_83 : decode cX8_keep 83 = .ok (.isub, 1) := by decide +kernel
theorem dX8_keep_84 : decode cX8_keep 84 = .ok (.ireturn, 1) := by decide +kernel
set_option maxRecDepth 20000 in
theorem ggX9_addMetreOf_X0_code : GoodIn wsX9_addMetreOf wsX0_code := goodIn_h _ [12, 0, 0, 25, 0, 0, 0, 0, 0, 0, 0, 0, 0] [0, 1, 2, 3, 4, 5, 6, 7, 8, 9, 10, 11, 12] (by decide +kernel) (by decide +kernel)
set_option maxRecDepth 20000 in
theorem gX9_addMetreOf_X0_code : GoodIn wsX9_addMetreOf (wsV RX9 57 RX0 yX0_code wsX0_code) := goodIn_app (goodIn_of _ (by decide +kernel)) ggX9_addMetreOf_X0_code
set_option maxRecDepth 20000 in
theorem ggX9_addMetreOf_X9_makeRoomForPiece : GoodIn wsX9_addMetreOf wsX9_makeRoomForPiece := goodIn_h _ [2, 0, 0, 0, 0, 12, 0, 0, 0, 0, 0, 0, 0, 0, 0, 0, 0, 0, 0, 0, 0, 0, 0, 0, 0, 0, 10, 0, 0, 0, 0, 0, 0, 0, 0] [5, 0, 1, 6, 7, 8, 9, 2, 3, 4, 10, 11, 12, 13, 14, 15, 16, 17, 18, 19, 20, 21, 22, 23, 24, 25, 26, 27, 28, 29, 30, 31, 32, 33, 34] (by decide +kernel) (by decide +kernel)
set_option maxRecDepth 20000 in
theorem gX9_addMetreOf_X9_makeRoomForPiece : GoodIn wsX9_addMetreOf (wsV RX9 61 RX9 yX9_makeRoomForPiece wsX9_makeRoomForPiece) := goodIn_app (goodIn_of _ (by decide +kernel)) ggX9_addMetreOf_X9_makeRoomForPiece
theorem dX9_addMetreOf_0 : decode cX9_addMetreOf 0 = .ok (.aload_n 1, 1) := by decide +kernel
theorem dX9_addMetreOf_1 : decode cX9_addMetreOf 1 = .ok (.getfield 52, 3) := by decide +kernel
theorem dX9_addMetreOf_4 : decode cX9_addMetreOf 4 = .ok (.istore_n 3, 1) := by decide +kernel
theorem dX9_addMetreOf_5 : decode cX9_addMetreOf 5 = .ok (.iload_n 3, 1) := by decide +kernel
theorem dX9_addMetreOf_6 : decode cX9_addMetreOf 6 = .ok (.ifCond .lt 52, 3) := by decide +kernel
theorem dX9_addMetreOf_9 : decode cX9_addMetreOf 9 = .ok (.iload_n 3, 1) := by decide +kernel
theorem dX9_addMetreOf_10 : decode cX9_addMetreOf 10 = .ok (.aload_n 0, 1) := by decide +kernel
theorem dX9_addMetreOf_11 : decode cX9_addMetreOf 11 = .ok (.getfield 43, 3) := by decide +kernel
theorem dX9_addMetreOf_14 : decode cX9_addMetreOf 14 = .ok (.if_icmp .ge 44, 3) := by decide +kernel
theorem dX9_addMetreOf_17 : decode cX9_addMetreOf 17 = .ok (.aload_n 0, 1) := by decide +kernel
theorem dX9_addMetreOf_18 : decode cX9_addMetreOf 18 = .ok (.getfield 18, 3) := by decide +kernel
theorem dX9_addMetreOf_21 : decode cX9_addMetreOf 21 = .ok (.iload_n 3, 1) := by decide +kernel
theorem dX9_addMetreOf_22 : decode cX9_addMetreOf 22 = .ok (.iaload, 1) := by decide +kernel
theorem dX9_addMetreOf_23 : decode cX9_addMetreOf 23 = .ok (.aload_n 1, 1) := by decide +kernel
theorem dX9_addMetreOf_24 : decode cX9_addMetreOf 24 = .ok (.invokevirtual 57, 3) := by decide +kernel
theorem dX9_addMetreOf_27 : decode cX9_addMetreOf 27 = .ok (.if_icmp .ne 31, 3) := by decide +kernel
theorem dX9_addMetreOf_30 : decode cX9_addMetreOf 30 = .ok (.aload_n 0, 1) := by decide +kernel
theorem dX9_addMetreOf_31 : decode cX9_addMetreOf 31 = .ok (.getfield 21, 3) := by decide +kernel
theorem dX9_addMetreOf_34 : decode cX9_addMetreOf 34 = .ok (.iload_n 3, 1) := by decide +kernel
theorem dX9_addMetreOf_35 : decode cX9_addMetreOf 35 = .ok (.iaload, 1) := by decide +kernel
theorem dX9_addMetreOf_36 : decode cX9_addMetreOf 36 = .ok (.aload_n 0, 1) := by decide +kernel
theorem dX9_addMetreOf_37 : decode cX9_addMetreOf 37 = .ok (.getfield 24, 3) := by decide +kernel
theorem dX9_addMetreOf_40 : decode cX9_addMetreOf 40 = .ok (.iload_n 3, 1) := by decide +kernel
theorem dX9_addMetreOf_41 : decode cX9_addMetreOf 41 = .ok (.iaload, 1) := by decide +kernel
theorem dX9_addMetreOf_42 : decode cX9_addMetreOf 42 = .ok (.iadd, 1) := by decide +kernel
theorem dX9_addMetreOf_43 : decode cX9_addMetreOf 43 = .ok (.iload_n 2, 1) := by decide +kernel
theorem dX9_addMetreOf_44 : decode cX9_addMetreOf 44 = .ok (.if_icmp .ne 14, 3) := by decide +kernel
theorem dX9_addMetreOf_47 : decode cX9_addMetreOf 47 = .ok (.aload_n 0, 1) := by decide +kernel
theorem dX9_addMetreOf_48 : decode cX9_addMetreOf 48 = .ok (.getfield 24, 3) := by decide +kernel
theorem dX9_addMetreOf_51 : decode cX9_addMetreOf 51 = .ok (.iload_n 3, 1) := by decide +kernel
theorem dX9_addMetreOf_52 : decode cX9_addMetreOf 52 = .ok (.dup2, 1) := by decide +kernel
theorem dX9_addMetreOf_53 : decode cX9_addMetreOf 53 = .ok (.iaload, 1) := by decide +kernel
theorem dX9_addMetreOf_54 : decode cX9_addMetreOf 54 = .ok (.iconst 1, 1) := by decide +kernel
theorem dX9_addMetreOf_55 : decode cX9_addMetreOf 55 = .ok (.iadd, 1) := by decide +kernel
theorem dX9_addMetreOf_56 : decode cX9_addMetreOf 56 = .ok (.iastore, 1) := by decide +kernel
theorem dX9_addMetreOf_57 : decode cX9_addMetreOf 57 = .ok (.return_, 1) := by decide +kernel
theorem dX9_addMetreOf_58 : decode cX9_addMetreOf 58 = .ok (.aload_n 0, 1) := by decide +kernel
theorem dX9_addMetreOf_59 : decode cX9_addMetreOf 59 = .ok (.getfield 43, 3) := by decide +kernel
theorem dX9_addMetreOf_62 : decode cX9_addMetreOf 62 = .ok (.sipush 3600, 3) := by decide +kernel
theorem dX9_addMetreOf_65 : decode cX9_addMetreOf 65 = .ok (.if_icmp .lt 4, 3) := by decide +kernel
theorem dX9_addMetreOf_68 : decode cX9_addMetreOf 68 = .ok (.return_, 1) := by decide +kernel
theorem dX9_addMetreOf_69 : decode cX9_addMetreOf 69 = .ok (.aload_n 0, 1) := by decide +kernel
theorem dX9_addMetreOf_70 : decode cX9_addMetreOf 70 = .ok (.invokevirtual 61, 3) := by decide +kernel
theorem dX9_addMetreOf_73 : decode cX9_addMetreOf 73 = .ok (.aload_n 0, 1) := by decide +kernel
theorem dX9_addMetreOf_74 : decode cX9_addMetreOf 74 = .ok (.getfield 18, 3) := by decide +kernel
theorem dX9_addMetreOf_77 : decode cX9_addMetreOf 77 = .ok (.aload_n 0, 1) := by decide +kernel
theorem dX9_addMetreOf_78 : decode cX9_addMetreOf 78 = .ok (.getfield 43, 3) := by decide +kernel
theorem dX9_addMetreOf_81 : decode cX9_addMetreOf 81 = .ok (.aload_n 1, 1) := by decide +kernel
theorem dX9_addMetreOf_82 : decode cX9_addMetreOf 82 = .ok (.invokevirtual 57, 3) := by decide +kernel
theorem dX9_addMetreOf_85 : decode cX9_addMetreOf 85 = .ok (.iastore, 1) := by decide +kernel
theorem dX9_addMetreOf_86 : decode cX9_addMetreOf 86 = .ok (.aload_n 0, 1) := by decide +kernel
theorem dX9_addMetreOf_87 : decode cX9_addMetreOf 87 = .ok (.getfield 21, 3) := by decide +kernel
theorem dX9_addMetreOf_90 : decode cX9_addMetreOf 90 = .ok (.aload_n 0, 1) := by decide +kernel
theorem dX9_addMetreOf_91 : decode cX9_addMetreOf 91 = .ok (.getfield 43, 3) := by decide +kernel
theorem dX9_addMetreOf_94 : decode cX9_addMetreOf 94 = .ok (.iload_n 2, 1) := by decide +kernel
theorem dX9_addMetreOf_95 : decode cX9_addMetreOf 95 = .ok (.iastore, 1) := by decide +kernel
theorem dX9_addMetreOf_96 : decode cX9_addMetreOf 96 = .ok (.aload_n 0, 1) := by decide +kernel
theorem dX9_addMetreOf_97 : decode cX9_addMetreOf 97 = .ok (.getfield 24, 3) := by decide +kernel
theorem dX9_addMetreOf_100 : decode cX9_addMetreOf 100 = .ok (.aload_n 0, 1) := by decide +kernel
theorem dX9_addMetreOf_101 : decode cX9_addMetreOf 101 = .ok (.getfield 43, 3) := by decide +kernel
theorem dX9_addMetreOf_104 : decode cX9_addMetreOf 104 = .ok (.iconst 1, 1) := by decide +kernel
theorem dX9_addMetreOf_105 : decode cX9_addMetreOf 105 = .ok (.iastore, 1) := by decide +kernel
theorem dX9_addMetreOf_106 : decode cX9_addMetreOf 106 = .ok (.aload_n 0, 1) := by decide +kernel
theorem dX9_addMetreOf_107 : decode cX9_addMetreOf 107 = .ok (.getfield 27, 3) := by decide +kernel
theorem dX9_addMetreOf_110 : decode cX9_addMetreOf 110 = .ok (.aload_n 0, 1) := by decide +kernel
theorem dX9_addMetreOf_111 : decode cX9_addMetreOf 111 = .ok (.getfield 43, 3) := by decide +kernel
theorem dX9_addMetreOf_114 : decode cX9_addMetreOf 114 = .ok (.aload_n 1, 1) := by decide +kernel
theorem dX9_addMetreOf_115 : decode cX9_addMetreOf 115 = .ok (.getfield 64, 3) := by decide +kernel
theorem dX9_addMetreOf_118 : decode cX9_addMetreOf 118 = .ok (.iastore, 1) := by decide +kernel
theorem dX9_addMetreOf_119 : decode cX9_addMetreOf 119 = .ok (.aload_n 1, 1) := by decide +kernel
theorem dX9_addMetreOf_120 : decode cX9_addMetreOf 120 = .ok (.aload_n 0, 1) := by decide +kernel
theorem dX9_addMetreOf_121 : decode cX9_addMetreOf 121 = .ok (.getfield 43, 3) := by decide +kernel
theorem dX9_addMetreOf_124 : decode cX9_addMetreOf 124 = .ok (.putfield 52, 3) := by decide +kernel
theorem dX9_addMetreOf_127 : decode cX9_addMetreOf 127 = .ok (.aload_n 0, 1) := by decide +kernel
theorem dX9_addMetreOf_128 : decode cX9_addMetreOf 128 = .ok (.dup, 1) := by decide +kernel
theorem dX9_addMetreOf_129 : decode cX9_addMetreOf 129 = .ok (.getfield 43, 3) := by decide +kernel
theorem dX9_addMetreOf_132 : decode cX9_addMetreOf 132 = .ok (.iconst 1, 1) := by decide +kernel
theorem dX9_addMetreOf_133 : decode cX9_addMetreOf 133 = .ok (.iadd, 1) := by decide +kernel
theorem dX9_addMetreOf_134 : decode cX9_addMetreOf 134 = .ok (.putfield 43, 3) := by decide +kernel
theorem dX9_addMetreOf_137 : decode cX9_addMetreOf 137 = .ok (.return_, 1) := by decide +kernel
set_option maxRecDepth 20000 in
theorem ggX9_makeRoomForPiece_J7_copyOf_59c91 : GoodIn wsX9_makeRoomForPiece wsJ7_copyOf_59c91 := goodIn_h _ [4, 0, 0, 6, 0, 0, 0, 0, 0, 0, 0, 0, 0, 0, 0, 0] [3, 4, 5, 6, 7, 8, 9, 10, 11, 0, 1, 2, 12, 13, 14, 15] (by decide +kernel) (by decide +kernel)
set_option maxRecDepth 20000 in
theorem gX9_makeRoomForPiece_J7_copyOf_59c91 : GoodIn wsX9_makeRoomForPiece (va_wsS RX9 46 yJ7_copyOf_59c91 wsJ7_copyOf_59c91) := goodIn_app (goodIn_of _ (by decide +kernel)) ggX9_makeRoomForPiece_J7_copyOf_59c91
theorem dX9_makeRoomForPiece_0 : decode cX9_makeRoomForPiece 0 = .ok (.aload_n 0, 1) := by decide +kernel
theorem dX9_makeRoomForPiece_1 : decode cX9_makeRoomForPiece 1 = .ok (.getfield 43, 3) := by decide +kernel
theorem dX9_makeRoomForPiece_4 : decode cX9_makeRoomForPiece 4 = .ok (.aload_n 0, 1) := by decide +kernel
theorem dX9_makeRoomForPiece_5 : decode cX9_makeRoomForPiece 5 = .ok (.getfield 18, 3) := by decide +kernel
theorem dX9_makeRoomForPiece_8 : decode cX9_makeRoomForPiece 8 = .ok (.arraylength, 1) := by decide +kernel
theorem dX9_makeRoomForPiece_9 : decode cX9_makeRoomForPiece 9 = .ok (.if_icmp .ge 4, 3) := by decide +kernel
theorem dX9_makeRoomForPiece_12 : decode cX9_makeRoomForPiece 12 = .ok (.return_, 1) := by decide +kernel
theorem dX9_makeRoomForPiece_13 : decode cX9_makeRoomForPiece 13 = .ok (.sipush 3600, 3) := by decide +kernel
theorem dX9_makeRoomForPiece_16 : decode cX9_makeRoomForPiece 16 = .ok (.iconst 2, 1) := by decide +kernel
theorem dX9_makeRoomForPiece_17 : decode cX9_makeRoomForPiece 17 = .ok (.aload_n 0, 1) := by decide +kernel
theorem dX9_makeRoomForPiece_18 : decode cX9_makeRoomForPiece 18 = .ok (.getfield 43, 3) := by decide +kernel
theorem dX9_makeRoomForPiece_21 : decode cX9_makeRoomForPiece 21 = .ok (.imul, 1) := by decide +kernel
theorem dX9_makeRoomForPiece_22 : decode cX9_makeRoomForPiece 22 = .ok (.iconst 1, 1) := by decide +kernel
theorem dX9_makeRoomForPiece_23 : decode cX9_makeRoomForPiece 23 = .ok (.iadd, 1) := by decide +kernel
theorem dX9_makeRoomForPiece_24 : decode cX9_makeRoomForPiece 24 = .ok (.invokestatic 67, 3) := by decide +kernel
theorem dX9_makeRoomForPiece_27 : decode cX9_makeRoomForPiece 27 = .ok (.istore_n 1, 1) := by decide +kernel
theorem dX9_makeRoomForPiece_28 : decode cX9_makeRoomForPiece 28 = .ok (.aload_n 0, 1) := by decide +kernel
theorem dX9_makeRoomForPiece_29 : decode cX9_makeRoomForPiece 29 = .ok (.aload_n 0, 1) := by decide +kernel
theorem dX9_makeRoomForPiece_30 : decode cX9_makeRoomForPiece 30 = .ok (.getfield 18, 3) := by decide +kernel
theorem dX9_makeRoomForPiece_33 : decode cX9_makeRoomForPiece 33 = .ok (.iload_n 1, 1) := by decide +kernel
theorem dX9_makeRoomForPiece_34 : decode cX9_makeRoomForPiece 34 = .ok (.invokestatic 46, 3) := by decide +kernel
theorem dX9_makeRoomForPiece_37 : decode cX9_makeRoomForPiece 37 = .ok (.putfield 18, 3) := by decide +kernel
theorem dX9_makeRoomForPiece_40 : decode cX9_makeRoomForPiece 40 = .ok (.aload_n 0, 1) := by decide +kernel
theorem dX9_makeRoomForPiece_41 : decode cX9_makeRoomForPiece 41 = .ok (.aload_n 0, 1) := by decide +kernel
theorem dX9_makeRoomForPiece_42 : decode cX9_makeRoomForPiece 42 = .ok (.getfield 21, 3) := by decide +kernel
theorem dX9_makeRoomForPiece_45 : decode cX9_makeRoomForPiece 45 = .ok (.iload_n 1, 1) := by decide +kernel
theorem dX9_makeRoomForPiece_46 : decode cX9_makeRoomForPiece 46 = .ok (.invokestatic 46, 3) := by decide +kernel
theorem dX9_makeRoomForPiece_49 : decode cX9_makeRoomForPiece 49 = .ok (.putfield 21, 3) := by decide +kernel
theorem dX9_makeRoomForPiece_52 : decode cX9_makeRoomForPiece 52 = .ok (.aload_n 0, 1) := by decide +kernel
theorem dX9_makeRoomForPiece_53 : decode cX9_makeRoomForPiece 53 = .ok (.aload_n 0, 1) := by decide +kernel
theorem dX9_makeRoomForPiece_54 : decode cX9_makeRoomForPiece 54 = .ok (.getfield 24, 3) := by decide +kernel
theorem dX9_makeRoomForPiece_57 : decode cX9_makeRoomForPiece 57 = .ok (.iload_n 1, 1) := by decide +kernel
theorem dX9_makeRoomForPiece_58 : decode cX9_makeRoomForPiece 58 = .ok (.invokestatic 46, 3) := by decide +kernel
theorem dX9_makeRoomForPiece_61 : decode cX9_makeRoomForPiece 61 = .ok (.putfield 24, 3) := by decide +kernel
theorem dX9_makeRoomForPiece_64 : decode cX9_makeRoomForPiece 64 = .ok (.aload_n 0, 1) := by decide +kernel
theorem dX9_makeRoomForPiece_65 : decode cX9_makeRoomForPiece 65 = .ok (.aload_n 0, 1) := by decide +kernel
theorem dX9_makeRoomForPiece_66 : decode cX9_makeRoomForPiece 66 = .ok (.getfield 27, 3) := by decide +kernel
theorem dX9_makeRoomForPiece_69 : decode cX9_makeRoomForPiece 69 = .ok (.iload_n 1, 1) := by decide +kernel
theorem dX9_makeRoomForPiece_70 : decode cX9_makeRoomForPiece 70 = .ok (.invokestatic 46, 3) := by decide +kernel
theorem dX9_makeRoomForPiece_73 : decode cX9_makeRoomForPiece 73 = .ok (.putfield 27, 3) := by decide +kernel
theorem dX9_makeRoomForPiece_76 : decode cX9_makeRoomForPiece 76 = .ok (.return_, 1) := by decide +kernel
set_option maxRecDepth 20000 in
theorem ggX11_lot_X11_isWithin : GoodIn wsX11_lot wsX11_isWithin := goodIn_h _ [10] [0] (by decide +kernel) (by decide +kernel)
set_option maxRecDepth 20000 in
theorem gX11_lot_X11_isWithin : GoodIn wsX11_lot (va_wsS RX11 67 yX11_isWithin wsX11_isWithin) := goodIn_app (goodIn_of _ (by decide +kernel)) ggX11_lot_X11_isWithin
set_option maxRecDepth 20000 in
theorem ggX11_lot_X0_init : GoodIn wsX11_lot wsX0_init := goodIn_h _ [9, 3, 0, 0, 0, 0, 0, 0, 0, 0, 0, 0, 0, 0, 0, 0, 0, 0, 0, 0, 12, 0, 0, 0, 0, 0, 0, 0, 0, 0] [1, 2, 3, 4, 5, 6, 7, 8, 9, 10, 11, 12, 13, 14, 15, 16, 17, 0, 18, 19, 20, 21, 22, 23, 24, 25, 26, 27, 28, 29] (by decide +kernel) (by decide +kernel)
set_option maxRecDepth 20000 in
theorem gX11_lot_X0_init : GoodIn wsX11_lot (wsX0_init) := ggX11_lot_X0_init
theorem dX11_lot_0 : decode cX11_lot 0 = .ok (.aload_n 0, 1) := by decide +kernel
theorem dX11_lot_1 : decode cX11_lot 1 = .ok (.getfield 63, 3) := by decide +kernel
theorem dX11_lot_4 : decode cX11_lot 4 = .ok (.bipush 10, 2) := by decide +kernel
theorem dX11_lot_6 : decode cX11_lot 6 = .ok (.if_icmp .ge 49, 3) := by decide +kernel
theorem dX11_lot_9 : decode cX11_lot 9 = .ok (.iload_n 1, 1) := by decide +kernel
theorem dX11_lot_10 : decode cX11_lot 10 = .ok (.iconst 1, 1) := by decide +kernel
theorem dX11_lot_11 : decode cX11_lot 11 = .ok (.bipush 60, 2) := by decide +kernel
theorem dX11_lot_13 : decode cX11_lot 13 = .ok (.invokestatic 67, 3) := by decide +kernel
theorem dX11_lot_16 : decode cX11_lot 16 = .ok (.ifCond .eq 39, 3) := by decide +kernel
theorem dX11_lot_19 : decode cX11_lot 19 = .ok (.iload_n 3, 1) := by decide +kernel
theorem dX11_lot_20 : decode cX11_lot 20 = .ok (.bipush 20, 2) := by decide +kernel
theorem dX11_lot_22 : decode cX11_lot 22 = .ok (.bipush 60, 2) := by decide +kernel
theorem dX11_lot_24 : decode cX11_lot 24 = .ok (.invokestatic 67, 3) := by decide +kernel
theorem dX11_lot_27 : decode cX11_lot 27 = .ok (.ifCond .eq 28, 3) := by decide +kernel
theorem dX11_lot_30 : decode cX11_lot 30 = .ok (.iload 4, 2) := by decide +kernel
theorem dX11_lot_32 : decode cX11_lot 32 = .ok (.bipush 40, 2) := by decide +kernel
theorem dX11_lot_34 : decode cX11_lot 34 = .ok (.sipush 200, 3) := by decide +kernel
theorem dX11_lot_37 : decode cX11_lot 37 = .ok (.invokestatic 67, 3) := by decide +kernel
theorem dX11_lot_40 : decode cX11_lot 40 = .ok (.ifCond .eq 15, 3) := by decide +kernel
theorem dX11_lot_43 : decode cX11_lot 43 = .ok (.iload 5, 2) := by decide +kernel
theorem dX11_lot_45 : decode cX11_lot 45 = .ok (.iconst 0, 1) := by decide +kernel
theorem dX11_lot_46 : decode cX11_lot 46 = .ok (.sipush 200, 3) := by decide +kernel
theorem dX11_lot_49 : decode cX11_lot 49 = .ok (.invokestatic 67, 3) := by decide +kernel
theorem dX11_lot_52 : decode cX11_lot 52 = .ok (.ifCond .ne 5, 3) := by decide +kernel
theorem dX11_lot_55 : decode cX11_lot 55 = .ok (.iconst (-1), 1) := by decide +kernel
theorem dX11_lot_56 : decode cX11_lot 56 = .ok (.ireturn, 1) := by decide +kernel
theorem dX11_lot_57 : decode cX11_lot 57 = .ok (.iconst 0, 1) := by decide +kernel
theorem dX11_lot_58 : decode cX11_lot 58 = .ok (.istore 6, 2) := by decide +kernel
theorem dX11_lot_60 : decode cX11_lot 60 = .ok (.iload 6, 2) := by decide +kernel
theorem dX11_lot_62 : decode cX11_lot 62 = .ok (.iload_n 1, 1) := by decide +kernel
theorem dX11_lot_63 : decode cX11_lot 63 = .ok (.if_icmp .ge 43, 3) := by decide +kernel
theorem dX11_lot_66 : decode cX11_lot 66 = .ok (.aload_n 0, 1) := by decide +kernel
theorem dX11_lot_67 : decode cX11_lot 67 = .ok (.getfield 11, 3) := by decide +kernel
theorem dX11_lot_70 : decode cX11_lot 70 = .ok (.aload_n 0, 1) := by decide +kernel
theorem dX11_lot_71 : decode cX11_lot 71 = .ok (.getfield 63, 3) := by decide +kernel
theorem dX11_lot_74 : decode cX11_lot 74 = .ok (.bipush 60, 2) := by decide +kernel
theorem dX11_lot_76 : decode cX11_lot 76 = .ok (.imul, 1) := by decide +kernel
theorem dX11_lot_77 : decode cX11_lot 77 = .ok (.iload 6, 2) := by decide +kernel
theorem dX11_lot_79 : decode cX11_lot 79 = .ok (.iadd, 1) := by decide +kernel
theorem dX11_lot_80 : decode cX11_lot 80 = .ok (.new 9, 3) := by decide +kernel
theorem dX11_lot_83 : decode cX11_lot 83 = .ok (.dup, 1) := by decide +kernel
theorem dX11_lot_84 : decode cX11_lot 84 = .ok (.aload_n 0, 1) := by decide +kernel
theorem dX11_lot_85 : decode cX11_lot 85 = .ok (.getfield 63, 3) := by decide +kernel
theorem dX11_lot_88 : decode cX11_lot 88 = .ok (.iload 6, 2) := by decide +kernel
theorem dX11_lot_90 : decode cX11_lot 90 = .ok (.iload_n 2, 1) := by decide +kernel
theorem dX11_lot_91 : decode cX11_lot 91 = .ok (.iload_n 3, 1) := by decide +kernel
theorem dX11_lot_92 : decode cX11_lot 92 = .ok (.iload 4, 2) := by decide +kernel
theorem dX11_lot_94 : decode cX11_lot 94 = .ok (.iload 5, 2) := by decide +kernel
theorem dX11_lot_96 : decode cX11_lot 96 = .ok (.invokespecial 71, 3) := by decide +kernel
theorem dX11_lot_99 : decode cX11_lot 99 = .ok (.aastore, 1) := by decide +kernel
theorem dX11_lot_100 : decode cX11_lot 100 = .ok (.iinc 6 1, 3) := by decide +kernel
theorem dX11_lot_103 : decode cX11_lot 103 = .ok (.goto (-43), 3) := by decide +kernel
theorem dX11_lot_106 : decode cX11_lot 106 = .ok (.aload_n 0, 1) := by decide +kernel
theorem dX11_lot_107 : decode cX11_lot 107 = .ok (.getfield 15, 3) := by decide +kernel
theorem dX11_lot_110 : decode cX11_lot 110 = .ok (.aload_n 0, 1) := by decide +kernel
theorem dX11_lot_111 : decode cX11_lot 111 = .ok (.getfield 63, 3) := by decide +kernel
theorem dX11_lot_114 : decode cX11_lot 114 = .ok (.iload_n 1, 1) := by decide +kernel
theorem dX11_lot_115 : decode cX11_lot 115 = .ok (.iastore, 1) := by decide +kernel
theorem dX11_lot_116 : decode cX11_lot 116 = .ok (.aload_n 0, 1) := by decide +kernel
theorem dX11_lot_117 : decode cX11_lot 117 = .ok (.dup, 1) := by decide +kernel
theorem dX11_lot_118 : decode cX11_lot 118 = .ok (.getfield 63, 3) := by decide +kernel
theorem dX11_lot_121 : decode cX11_lot 121 = .ok (.iconst 1, 1) := by decide +kernel
theorem dX11_lot_122 : decode cX11_lot 122 = .ok (.iadd, 1) := by decide +kernel
theorem dX11_lot_123 : decode cX11_lot 123 = .ok (.putfield 63, 3) := by decide +kernel
theorem dX11_lot_126 : decode cX11_lot 126 = .ok (.aload_n 0, 1) := by decide +kernel
theorem dX11_lot_127 : decode cX11_lot 127 = .ok (.getfield 63, 3) := by decide +kernel
theorem dX11_lot_130 : decode cX11_lot 130 = .ok (.iconst 1, 1) := by decide +kernel
theorem dX11_lot_131 : decode cX11_lot 131 = .ok (.isub, 1) := by decide +kernel
theorem dX11_lot_132 : decode cX11_lot 132 = .ok (.ireturn, 1) := by decide +kernel
set_option maxRecDepth 20000 in
theorem ggX11_pot_X11_isTarget : GoodIn wsX11_pot wsX11_isTarget := goodIn_h _ [8, 0, 0, 0, 0] [1, 2, 3, 0, 4] (by decide +kernel) (by decide +kernel)
set_option maxRecDepth 20000 in
theorem gX11_pot_X11_isTarget : GoodIn wsX11_pot (va_wsS RX11 127 yX11_isTarget wsX11_isTarget) := goodIn_app (goodIn_of _ (by decide +kernel)) ggX11_pot_X11_isTarget
set_option maxRecDepth 20000 in
theorem ggX11_pot_X11_isWithin : GoodIn wsX11_pot wsX11_isWithin := goodIn_h _ [12] [0] (by decide +kernel) (by decide +kernel)
set_option maxRecDepth 20000 in
theorem gX11_pot_X11_isWithin : GoodIn wsX11_pot (va_wsS RX11 67 yX11_isWithin wsX11_isWithin) := goodIn_app (goodIn_of _ (by decide +kernel)) ggX11_pot_X11_isWithin
set_option maxRecDepth 20000 in
theorem ggX11_pot_X4_init : GoodIn wsX11_pot wsX4_init := goodIn_h _ [15, 0, 0, 0, 0, 0, 0, 0, 0, 0, 0, 0, 0, 0, 0, 0, 0, 0, 0, 0, 0, 0, 0, 0, 0, 0, 0, 0, 0, 0, 0, 0, 0, 0, 0, 0, 0, 0, 0, 0, 0, 0, 0, 0, 0, 0, 0, 0, 0, 0, 0, 12, 0, 0, 0, 0, 0, 0, 0, 0, 0, 0, 0, 0, 0, 0, 0, 0, 0, 0, 0, 0, 0, 0, 0, 0, 0, 0, 0, 0, 0, 0] [0, 1, 2, 3, 4, 5, 6, 7, 8, 9, 10, 11, 12, 13, 14, 15, 16, 17, 18, 19, 20, 21, 22, 23, 24, 25, 26, 27, 28, 29, 30, 31, 32, 33, 34, 35, 36, 37, 38, 39, 40, 41, 42, 43, 44, 45, 46, 47, 48, 49, 50, 63, 64, 65, 51, 52, 53, 54, 55, 56, 57, 58, 59, 60, 61, 62, 66, 67, 68, 69, 70, 71, 72, 73, 74, 75, 76, 77, 78, 79, 80, 81] (by decide +kernel) (by decide +kernel)
set_option maxRecDepth 20000 in
theorem gX11_pot_X4_init : GoodIn wsX11_pot (wsX4_init) := ggX11_pot_X4_init
theorem dX11_pot_0 : decode cX11_pot 0 = .ok (.aload_n 0, 1) := by decide +kernel
theorem dX11_pot_1 : decode cX11_pot 1 = .ok (.getfield 124, 3) := by decide +kernel
theorem dX11_pot_4 : decode cX11_pot 4 = .ok (.iconst 4, 1) := by decide +kernel
theorem dX11_pot_5 : decode cX11_pot 5 = .ok (.if_icmp .ge 20, 3) := by decide +kernel
theorem dX11_pot_8 : decode cX11_pot 8 = .ok (.iload_n 1, 1) := by decide +kernel
theorem dX11_pot_9 : decode cX11_pot 9 = .ok (.invokestatic 127, 3) := by decide +kernel
theorem dX11_pot_12 : decode cX11_pot 12 = .ok (.ifCond .eq 13, 3) := by decide +kernel
theorem dX11_pot_15 : decode cX11_pot 15 = .ok (.iload_n 2, 1) := by decide +kernel
theorem dX11_pot_16 : decode cX11_pot 16 = .ok (.iconst 1, 1) := by decide +kernel
theorem dX11_pot_17 : decode cX11_pot 17 = .ok (.bipush 50, 2) := by decide +kernel
theorem dX11_pot_19 : decode cX11_pot 19 = .ok (.invokestatic 67, 3) := by decide +kernel
theorem dX11_pot_22 : decode cX11_pot 22 = .ok (.ifCond .ne 5, 3) := by decide +kernel
theorem dX11_pot_25 : decode cX11_pot 25 = .ok (.iconst (-1), 1) := by decide +kernel
theorem dX11_pot_26 : decode cX11_pot 26 = .ok (.ireturn, 1) := by decide +kernel
theorem dX11_pot_27 : decode cX11_pot 27 = .ok (.aload_n 0, 1) := by decide +kernel
theorem dX11_pot_28 : decode cX11_pot 28 = .ok (.getfield 21, 3) := by decide +kernel
theorem dX11_pot_31 : decode cX11_pot 31 = .ok (.aload_n 0, 1) := by decide +kernel
theorem dX11_pot_32 : decode cX11_pot 32 = .ok (.getfield 124, 3) := by decide +kernel
theorem dX11_pot_35 : decode cX11_pot 35 = .ok (.new 19, 3) := by decide +kernel
theorem dX11_pot_38 : decode cX11_pot 38 = .ok (.dup, 1) := by decide +kernel
theorem dX11_pot_39 : decode cX11_pot 39 = .ok (.aload_n 0, 1) := by decide +kernel
theorem dX11_pot_40 : decode cX11_pot 40 = .ok (.getfield 124, 3) := by decide +kernel
theorem dX11_pot_43 : decode cX11_pot 43 = .ok (.iload_n 1, 1) := by decide +kernel
theorem dX11_pot_44 : decode cX11_pot 44 = .ok (.iload_n 2, 1) := by decide +kernel
theorem dX11_pot_45 : decode cX11_pot 45 = .ok (.invokespecial 131, 3) := by decide +kernel
theorem dX11_pot_48 : decode cX11_pot 48 = .ok (.aastore, 1) := by decide +kernel
theorem dX11_pot_49 : decode cX11_pot 49 = .ok (.aload_n 0, 1) := by decide +kernel
theorem dX11_pot_50 : decode cX11_pot 50 = .ok (.dup, 1) := by decide +kernel
theorem dX11_pot_51 : decode cX11_pot 51 = .ok (.getfield 124, 3) := by decide +kernel
theorem dX11_pot_54 : decode cX11_pot 54 = .ok (.iconst 1, 1) := by decide +kernel
theorem dX11_pot_55 : decode cX11_pot 55 = .ok (.iadd, 1) := by decide +kernel
theorem dX11_pot_56 : decode cX11_pot 56 = .ok (.putfield 124, 3) := by decide +kernel
theorem dX11_pot_59 : decode cX11_pot 59 = .ok (.aload_n 0, 1) := by decide +kernel
theorem dX11_pot_60 : decode cX11_pot 60 = .ok (.getfield 124, 3) := by decide +kernel
theorem dX11_pot_63 : decode cX11_pot 63 = .ok (.iconst 1, 1) := by decide +kernel
theorem dX11_pot_64 : decode cX11_pot 64 = .ok (.isub, 1) := by decide +kernel
theorem dX11_pot_65 : decode cX11_pot 65 = .ok (.ireturn, 1) := by decide +kernel
set_option maxRecDepth 20000 in
theorem ggX11_run_X11_potAt : GoodIn wsX11_run wsX11_potAt := goodIn_h _ [6, 0, 0, 258, 0, 0, 0, 0, 0, 0, 0, 0, 0, 0, 0] [0, 1, 2, 3, 4, 5, 6, 7, 8, 9, 10, 11, 12, 13, 14] (by decide +kernel) (by decide +kernel)
set_option maxRecDepth 20000 in
theorem gX11_run_X11_potAt : GoodIn wsX11_run (wsV RX11 134 RX11 yX11_potAt wsX11_potAt) := goodIn_app (goodIn_of _ (by decide +kernel)) ggX11_run_X11_potAt
set_option maxRecDepth 20000 in
theorem ggX11_run_X11_isWithin : GoodIn wsX11_run wsX11_isWithin := goodIn_h _ [11] [0] (by decide +kernel) (by decide +kernel)
set_option maxRecDepth 20000 in
theorem gX11_run_X11_isWithin : GoodIn wsX11_run (va_wsS RX11 67 yX11_isWithin wsX11_isWithin) := goodIn_app (goodIn_of _ (by decide +kernel)) ggX11_run_X11_isWithin
set_option maxRecDepth 20000 in
theorem ggX11_run_X4_tick : GoodIn wsX11_run wsX4_tick := goodIn_h _ [5, 9, 0, 0, 0, 0, 0, 0, 0, 0, 0, 0, 0, 0, 0, 0, 0, 0, 0, 0, 0, 0, 0, 0, 0, 0, 0, 0, 0, 0, 0, 0, 0, 0, 0, 0, 0, 0, 0, 0, 0, 0, 0, 0, 0, 0, 0, 0, 0, 0, 0, 0, 0, 0, 0, 0, 0, 0, 0, 0, 0, 0, 0, 0, 0, 0, 0, 0, 0, 0, 0, 0, 0, 0, 0, 0, 0, 0, 0, 0, 0, 0, 0, 0, 0, 0, 0, 0, 0, 0, 0, 0, 0, 0, 0, 0, 0, 0, 0, 0, 0, 0, 0, 0, 0, 0, 0, 0, 0, 0, 0, 0, 0, 0, 0, 0, 0, 0, 0, 0, 0, 0, 0, 0, 0, 0, 0, 0, 0, 0, 0, 0, 0, 0, 0, 0, 0, 0, 0, 0, 0, 0, 0, 0, 0, 0, 0, 0, 0, 0, 0, 0, 0, 0, 0, 0, 0, 0, 0, 0, 0, 0, 0, 0, 0, 0, 0, 0, 0, 0, 0, 0, 0, 0, 0, 0, 0, 0, 0, 0, 0, 0, 0, 0, 0, 0, 0, 0, 0, 0, 0, 0, 0, 0, 0, 0, 0, 0, 0, 0, 0, 0, 0, 0, 0, 0, 0, 0, 0, 0, 0, 0, 0, 0, 0, 0, 0, 0, 0, 0, 0, 0, 0, 0, 0, 0, 0, 0, 0, 0, 0, 0, 0, 0, 0, 0, 0, 0, 0, 0, 0, 0, 0, 0, 0, 0, 0, 0, 0, 0, 0, 0, 0, 12, 0, 0, 0, 0, 0, 0, 0, 0, 0, 0, 0, 0, 0, 0, 0, 0, 0, 0, 0, 0, 0, 0, 0, 0, 0, 0, 0, 0, 0, 0, 0, 0, 0, 0, 0, 0, 0, 0, 0, 0, 0, 0, 0, 0, 0, 0, 0, 0, 0, 0, 0, 0, 0, 0, 0, 0, 0, 0, 0, 0, 0, 0, 0] [2, 3, 4, 5, 6, 7, 8, 9, 1, 10, 11, 12, 13, 14, 15, 16, 17, 18, 19, 20, 21, 22, 23, 24, 25, 26, 27, 28, 29, 30, 31, 32, 33, 34, 35, 36, 37, 38, 39, 40, 41, 42, 43, 44, 45, 46, 47, 48, 49, 50, 51, 52, 53, 54, 55, 56, 57, 58, 59, 60, 61, 62, 63, 64, 65, 66, 67, 68, 69, 70, 71, 72, 73, 74, 75, 76, 77, 78, 79, 80, 81, 82, 83, 84, 85, 86, 87, 88, 89, 90, 91, 92, 93, 94, 95, 96, 97, 98, 99, 100, 101, 102, 103, 104, 105, 106, 107, 108, 109, 110, 111, 112, 113, 114, 115, 116, 117, 118, 119, 120, 121, 122, 123, 124, 125, 126, 127, 128, 129, 130, 131, 132, 133, 134, 135, 136, 137, 138, 139, 140, 141, 142, 143, 144, 145, 146, 147, 148, 149, 150, 151, 152, 153, 154, 155, 156, 157, 158, 159, 160, 161, 162, 163, 164, 165, 166, 167, 168, 169, 170, 171, 172, 173, 174, 175, 176, 177, 178, 179, 180, 181, 182, 183, 184, 185, 186, 187, 188, 189, 190, 191, 192, 193, 194, 195, 196, 197, 198, 199, 200, 201, 202, 203, 204, 205, 206, 207, 208, 209, 210, 211, 212, 213, 214, 215, 216, 217, 218, 219, 220, 221, 222, 223, 224, 225, 226, 227, 228, 229, 230, 231, 232, 233, 234, 235, 236, 237, 238, 239, 240, 241, 242, 243, 244, 245, 246, 247, 248, 249, 250, 0, 251, 252, 253, 254, 255, 256, 257, 258, 259, 260, 261, 262, 263, 264, 265, 266, 267, 268, 269, 270, 271, 272, 273, 274, 275, 276, 277, 278, 279, 280, 281, 282, 283, 284, 285, 286, 287, 288, 289, 290, 291, 292, 293, 294, 295, 296, 297, 298, 299, 300, 301, 302, 303, 304, 305, 306, 307, 308, 309, 310, 311, 312, 313, 314, 315, 316] (by decide +kernel) (by decide +kernel)
set_option maxRecDepth 20000 in
theorem gX11_run_X4_tick : GoodIn wsX11_run (wsV RX11 169 RX4 yX4_tick wsX4_tick) := goodIn_app (goodIn_of _ (by decide +kernel)) ggX11_run_X4_tick
theorem dX11_run_0 : decode cX11_run 0 = .ok (.aload_n 0, 1) := by decide +kernel
theorem dX11_run_1 : decode cX11_run 1 = .ok (.iload_n 1, 1) := by decide +kernel
theorem dX11_run_2 : decode cX11_run 2 = .ok (.invokevirtual 134, 3) := by decide +kernel
theorem dX11_run_5 : decode cX11_run 5 = .ok (.astore_n 3, 1) := by decide +kernel
theorem dX11_run_6 : decode cX11_run 6 = .ok (.aload_n 3, 1) := by decide +kernel
theorem dX11_run_7 : decode cX11_run 7 = .ok (.ifnull 14, 3) := by decide +kernel
theorem dX11_run_10 : decode cX11_run 10 = .ok (.iload_n 2, 1) := by decide +kernel
theorem dX11_run_11 : decode cX11_run 11 = .ok (.iconst 0, 1) := by decide +kernel
theorem dX11_run_12 : decode cX11_run 12 = .ok (.sipush 300, 3) := by decide +kernel
theorem dX11_run_15 : decode cX11_run 15 = .ok (.invokestatic 67, 3) := by decide +kernel
theorem dX11_run_18 : decode cX11_run 18 = .ok (.ifCond .ne 5, 3) := by decide +kernel
theorem dX11_run_21 : decode cX11_run 21 = .ok (.iconst (-1), 1) := by decide +kernel
theorem dX11_run_22 : decode cX11_run 22 = .ok (.ireturn, 1) := by decide +kernel
theorem dX11_run_23 : decode cX11_run 23 = .ok (.iconst 0, 1) := by decide +kernel
theorem dX11_run_24 : decode cX11_run 24 = .ok (.istore 4, 2) := by decide +kernel
theorem dX11_run_26 : decode cX11_run 26 = .ok (.iconst 0, 1) := by decide +kernel
theorem dX11_run_27 : decode cX11_run 27 = .ok (.istore 5, 2) := by decide +kernel
theorem dX11_run_29 : decode cX11_run 29 = .ok (.iload 5, 2) := by decide +kernel
theorem dX11_run_31 : decode cX11_run 31 = .ok (.iload_n 2, 1) := by decide +kernel
theorem dX11_run_32 : decode cX11_run 32 = .ok (.if_icmp .ge 23, 3) := by decide +kernel
theorem dX11_run_35 : decode cX11_run 35 = .ok (.aload_n 3, 1) := by decide +kernel
theorem dX11_run_36 : decode cX11_run 36 = .ok (.aload_n 0, 1) := by decide +kernel
theorem dX11_run_37 : decode cX11_run 37 = .ok (.getfield 42, 3) := by decide +kernel
theorem dX11_run_40 : decode cX11_run 40 = .ok (.invokevirtual 169, 3) := by decide +kernel
theorem dX11_run_43 : decode cX11_run 43 = .ok (.ifCond .eq 6, 3) := by decide +kernel
theorem dX11_run_46 : decode cX11_run 46 = .ok (.iinc 4 1, 3) := by decide +kernel
theorem dX11_run_49 : decode cX11_run 49 = .ok (.iinc 5 1, 3) := by decide +kernel
theorem dX11_run_52 : decode cX11_run 52 = .ok (.goto (-23), 3) := by decide +kernel
theorem dX11_run_55 : decode cX11_run 55 = .ok (.iload 4, 2) := by decide +kernel
theorem dX11_run_57 : decode cX11_run 57 = .ok (.ireturn, 1) := by decide +kernel
set_option maxRecDepth 20000 in
theorem ggX11_cut_X11_potAt : GoodIn wsX11_cut wsX11_potAt := goodIn_h _ [6, 0, 0, 86, 0, 0, 0, 0, 0, 0, 0, 0, 0, 0, 0] [0, 1, 2, 3, 4, 5, 6, 7, 8, 9, 10, 11, 12, 13, 14] (by decide +kernel) (by decide +kernel)
set_option maxRecDepth 20000 in
theorem gX11_cut_X11_potAt : GoodIn wsX11_cut (wsV RX11 134 RX11 yX11_potAt wsX11_potAt) := goodIn_app (goodIn_of _ (by decide +kernel)) ggX11_cut_X11_potAt
set_option maxRecDepth 20000 in
theorem ggX11_cut_X4_cutStrand : GoodIn wsX11_cut wsX4_cutStrand := goodIn_h _ [13, 0, 0, 0, 0, 0, 0, 0, 0, 0, 0, 0, 0, 0, 0, 0, 0, 0, 0, 0, 0, 0, 0, 0, 0, 0, 0, 0, 0, 0, 0, 0, 0, 0, 0, 0, 0, 0, 0, 0, 0, 0, 0, 0, 0, 0, 0, 0, 0, 0, 0, 0, 0, 0, 0, 0, 0, 0, 0, 0, 0, 0, 0, 0, 0, 0, 0, 0, 0, 0, 0, 0, 0, 0, 0, 0, 0, 0, 0, 0, 0, 0, 12, 0, 0, 0, 0, 0, 0, 0, 0, 0, 0, 0, 0, 0, 0, 0, 0, 0, 0, 0, 0, 0, 0, 0, 0, 0, 0, 0, 0, 0, 0, 0, 0, 0, 0, 0, 0, 0, 0, 0, 0, 0, 0, 0] [0, 1, 2, 3, 4, 5, 6, 7, 8, 9, 10, 11, 12, 13, 14, 15, 16, 17, 18, 19, 20, 21, 22, 23, 24, 25, 26, 27, 28, 29, 30, 31, 32, 33, 34, 35, 36, 37, 38, 39, 40, 41, 42, 43, 44, 45, 46, 47, 48, 49, 50, 51, 52, 53, 54, 55, 56, 57, 58, 59, 60, 61, 62, 63, 64, 65, 66, 67, 68, 69, 70, 71, 72, 73, 74, 75, 76, 77, 78, 79, 80, 81, 82, 83, 84, 85, 86, 87, 88, 89, 90, 91, 92, 93, 94, 95, 96, 97, 98, 99, 100, 101, 102, 103, 104, 105, 106, 107, 108, 109, 110, 111, 112, 113, 114, 115, 116, 117, 118, 119, 120, 121, 122, 123, 124, 125] (by decide +kernel) (by decide +kernel)
set_option maxRecDepth 20000 in
theorem gX11_cut_X4_cutStrand : GoodIn wsX11_cut (wsV RX11 227 RX4 yX4_cutStrand wsX4_cutStrand) := goodIn_app (goodIn_of _ (by decide +kernel)) ggX11_cut_X4_cutStrand
theorem dX11_cut_0 : decode cX11_cut 0 = .ok (.aload_n 0, 1) := by decide +kernel
theorem dX11_cut_1 : decode cX11_cut 1 = .ok (.iload_n 1, 1) := by decide +kernel
theorem dX11_cut_2 : decode cX11_cut 2 = .ok (.invokevirtual 134, 3) := by decide +kernel
theorem dX11_cut_5 : decode cX11_cut 5 = .ok (.astore_n 2, 1) := by decide +kernel
theorem dX11_cut_6 : decode cX11_cut 6 = .ok (.aload_n 2, 1) := by decide +kernel
theorem dX11_cut_7 : decode cX11_cut 7 = .ok (.ifnonnull 7, 3) := by decide +kernel
theorem dX11_cut_10 : decode cX11_cut 10 = .ok (.iconst (-1), 1) := by decide +kernel
theorem dX11_cut_11 : decode cX11_cut 11 = .ok (.goto 11, 3) := by decide +kernel
theorem dX11_cut_14 : decode cX11_cut 14 = .ok (.aload_n 2, 1) := by decide +kernel
theorem dX11_cut_15 : decode cX11_cut 15 = .ok (.aload_n 0, 1) := by decide +kernel
theorem dX11_cut_16 : decode cX11_cut 16 = .ok (.getfield 42, 3) := by decide +kernel
theorem dX11_cut_19 : decode cX11_cut 19 = .ok (.invokevirtual 227, 3) := by decide +kernel
theorem dX11_cut_22 : decode cX11_cut 22 = .ok (.ireturn, 1) := by decide +kernel
theorem inn_X11_cut_11 : ∀ w ∈ u_ws RX11 TX11 12, w ∈ wsX11_cut := fun w h => List.mem_cons_of_mem _ (List.mem_append_left _ (List.mem_append_left _ (List.mem_append_left _ (List.mem_append_left _ (List.mem_append_right _ h)))))
theorem inn_X11_lot_0 : ∀ w ∈ u_ws RX0 TX0 10, w ∈ wsX11_lot := fun w h => List.mem_cons_of_mem _ (List.mem_append_right _ h)
theorem inn_X11_lot_11 : ∀ w ∈ u_ws RX11 TX11 12, w ∈ wsX11_lot := fun w h => List.mem_cons_of_mem _ (List.mem_append_left _ (List.mem_append_right _ h))
theorem inn_X11_pot_11 : ∀ w ∈ u_ws RX11 TX11 12, w ∈ wsX11_pot := fun w h => List.mem_cons_of_mem _ (List.mem_append_left _ (List.mem_append_left _ (List.mem_append_left _ (List.mem_append_left _ (List.mem_append_right _ h)))))
theorem inn_X11_pot_4 : ∀ w ∈ u_ws RX4 TX4 12, w ∈ wsX11_pot := fun w h => List.mem_cons_of_mem _ (List.mem_append_left _ (List.mem_append_left _ (List.mem_append_left _ (List.mem_append_right _ h))))
theorem inn_X11_run_11 : ∀ w ∈ u_ws RX11 TX11 12, w ∈ wsX11_run := fun w h => List.mem_cons_of_mem _ (List.mem_append_left _ (List.mem_append_left _ (List.mem_append_left _ (List.mem_append_left _ (List.mem_append_left _ (List.mem_append_left _ (List.mem_append_left _ (List.mem_append_right _ h))))))))
theorem inn_X4_act_4 : ∀ w ∈ u_ws RX4 TX4 12, w ∈ wsX4_act := fun w h => List.mem_cons_of_mem _ (List.mem_append_left _ (List.mem_append_left _ (List.mem_append_left _ (List.mem_append_left _ (List.mem_append_left _ (List.mem_append_right _ h))))))
theorem inn_X4_applyRules_4 : ∀ w ∈ u_ws RX4 TX4 12, w ∈ wsX4_applyRules := fun w h => List.mem_cons_of_mem _ (List.mem_append_left _ (List.mem_append_left _ (List.mem_append_left _ (List.mem_append_left _ (List.mem_append_left _ (List.mem_append_left _ (List.mem_append_right _ h)))))))
theorem inn_X4_applyRules_6 : ∀ w ∈ u_ws RX6 TX6 7, w ∈ wsX4_applyRules := fun w h => List.mem_cons_of_mem _ (List.mem_append_left _ (List.mem_append_left _ (List.mem_append_left _ (List.mem_append_left _ (List.mem_append_left _ (List.mem_append_right _ h))))))
theorem inn_X4_applyRules_8 : ∀ w ∈ u_ws RX8 TX8 13, w ∈ wsX4_applyRules := fun w h => List.mem_cons_of_mem _ (List.mem_append_left _ (List.mem_append_left _ (List.mem_append_left _ (List.mem_append_left _ (List.mem_append_right _ h)))))
theorem inn_X4_cutStrand_4 : ∀ w ∈ u_ws RX4 TX4 12, w ∈ wsX4_cutStrand := fun w h => List.mem_cons_of_mem _ (List.mem_append_left _ (List.mem_append_left _ (List.mem_append_left _ (List.mem_append_right _ h))))
theorem inn_X4_cutStrand_9 : ∀ w ∈ u_ws RX9 TX9 9, w ∈ wsX4_cutStrand := fun w h => List.mem_cons_of_mem _ (List.mem_append_left _ (List.mem_append_left _ (List.mem_append_right _ h)))
theorem inn_X4_drawEnd_0 : ∀ w ∈ u_ws RX0 TX0 10, w ∈ wsX4_drawEnd := fun w h => List.mem_cons_of_mem _ (List.mem_append_left _ (List.mem_append_left _ (List.mem_append_right _ h)))
theorem inn_X4_drawEnd_4 : ∀ w ∈ u_ws RX4 TX4 12, w ∈ wsX4_drawEnd := fun w h => List.mem_cons_of_mem _ (List.mem_append_left _ (List.mem_append_left _ (List.mem_append_left _ (List.mem_append_right _ h))))
theorem inn_X4_drawMetre_4 : ∀ w ∈ u_ws RX4 TX4 12, w ∈ wsX4_drawMetre := fun w h => List.mem_cons_of_mem _ (List.mem_append_left _ (List.mem_append_left _ (List.mem_append_left _ (List.mem_append_left _ (List.mem_append_left _ (List.mem_append_right _ h))))))
theorem inn_X4_drawMetre_5 : ∀ w ∈ u_ws RX5 TX5 3, w ∈ wsX4_drawMetre := fun w h => List.mem_cons_of_mem _ (List.mem_append_left _ (List.mem_append_left _ (List.mem_append_left _ (List.mem_append_left _ (List.mem_append_right _ h)))))
theorem inn_X4_drawMetre_8 : ∀ w ∈ u_ws RX8 TX8 13, w ∈ wsX4_drawMetre := fun w h => List.mem_cons_of_mem _ (List.mem_append_left _ (List.mem_append_left _ (List.mem_append_right _ h)))
theorem inn_X4_drawMetre_9 : ∀ w ∈ u_ws RX9 TX9 9, w ∈ wsX4_drawMetre := fun w h => List.mem_cons_of_mem _ (List.mem_append_left _ (List.mem_append_left _ (List.mem_append_left _ (List.mem_append_right _ h))))
theorem inn_X4_tick_4 : ∀ w ∈ u_ws RX4 TX4 12, w ∈ wsX4_tick := fun w h => List.mem_cons_of_mem _ (List.mem_append_left _ (List.mem_append_left _ (List.mem_append_left _ (List.mem_append_left _ (List.mem_append_left _ (List.mem_append_left _ (List.mem_append_right _ h)))))))
theorem inn_X4_tick_5 : ∀ w ∈ u_ws RX5 TX5 3, w ∈ wsX4_tick := fun w h => List.mem_cons_of_mem _ (List.mem_append_left _ (List.mem_append_left _ (List.mem_append_left _ (List.mem_append_left _ (List.mem_append_left _ (List.mem_append_right _ h))))))
theorem inn_X8_keep_7 : ∀ w ∈ u_ws RX7 TX7 10, w ∈ wsX8_keep := fun w h => List.mem_cons_of_mem _ (List.mem_append_right _ h)
theorem inn_X8_keep_8 : ∀ w ∈ u_ws RX8 TX8 13, w ∈ wsX8_keep := fun w h => List.mem_cons_of_mem _ (List.mem_append_left _ (List.mem_append_left _ (List.mem_append_right _ h)))
theorem inn_X8_keep_9 : ∀ w ∈ u_ws RX9 TX9 9, w ∈ wsX8_keep := fun w h => List.mem_cons_of_mem _ (List.mem_append_left _ (List.mem_append_right _ h))
theorem inn_X9_addMetreOf_0 : ∀ w ∈ u_ws RX0 TX0 10, w ∈ wsX9_addMetreOf := fun w h => List.mem_cons_of_mem _ (List.mem_append_left _ (List.mem_append_right _ h))
theorem inn_X9_addMetreOf_9 : ∀ w ∈ u_ws RX9 TX9 9, w ∈ wsX9_addMetreOf := fun w h => List.mem_cons_of_mem _ (List.mem_append_right _ h)
theorem inn_X9_makeRoomForPiece_9 : ∀ w ∈ u_ws RX9 TX9 9, w ∈ wsX9_makeRoomForPiece := fun w h => List.mem_cons_of_mem _ (List.mem_append_right _ h)
set_option maxHeartbeats 4000000 in
set_option maxRecDepth 100000 in
theorem k_X9_makeRoomForPiece (l : Launch) (G : va_G) (cy : Nat → ClassId) (κ : Nat → Nat) (S : PS) (sz hz : Nat) (x : Nat) (hG : GX S) (ha_x : At S x 29) (hp_0 : (pI S 904 x).toInt < 3600) : Gv l yX9_makeRoomForPiece wsX9_makeRoomForPiece ({ frames := 3, cells := Phc S + 4, slots := Phs S + 14400, locals := 144 }) G cy κ S sz hz 0 0 [.ref x] (fun (S9 : PS) => Og eMR S S9 ∧ (∀ q, pR S9 905 x = some q → (pI S9 904 x).toInt < (pN S9 q : Int))) := by
  refine ent_g (cc := cX9_makeRoomForPiece) (maxL := 2) (ret := none) (by decide) rfl (Nat.le_of_ble_eq_true rfl) ?_
  intro p e s m below meth c ls X hr hlocks hin hw hl hsz hhz
  subst hsz hhz
  have X : Cx p c cX9_makeRoomForPiece 2 s [.ref x].toArray wsX9_makeRoomForPiece RX9 m G cy κ (AS S s.heap.size) := X
  have hl : lv_has ls 2 [(0, .ref x)] := hl
  have hK : Kq S S x := Kq.rf S _
  have hC : CI S := hG.ci
  have hNW : ∀ b ∈ pL S, b ∈ pL S ∨ pK S b = 14 := fun b h => Or.inl h
  obtain ⟨q_1, q_2, q_3, q_4, n_5, h_6, h_7, h_8, h_9, h_10, h_11, h_12, h_13, h_14, h_15, h_16, h_17, h_18⟩ := gGrwQ hG ha_x
  obtain ⟨v_19, ev_19⟩ : ∃ v, pI S 904 x = v := ⟨_, rfl⟩
  have rg_20 := gGrw_904 hG ha_x h_6 h_14; rw [ev_19] at rg_20
  have pz_21 : (pI S 904 x).toInt = v_19.toInt := by rw [ev_19]
  obtain ⟨v_22, ev_22⟩ : ∃ v, pI S 902 x = v := ⟨_, rfl⟩
  have rg_23 := gI_29_902 hG ha_x; rw [ev_22] at rg_23
  have pz_24 : (pI S 902 x).toInt = v_22.toInt := by rw [ev_22]
  obtain ⟨q_25, h_26, h_27, h_28⟩ := gQ_29_900 hG ha_x
  obtain ⟨q_29, h_30, h_31, h_32⟩ := gQ_29_901 hG ha_x
  refine lv_aload_n X.1 X.2.1 dX9_makeRoomForPiece_0 rfl (lv_at hl 0 rfl) ?_
  refine r_getI (g := 904) (x := v_19) X hw ha_x rfl 4 ev_19 (by decide) rfl inn_X9_makeRoomForPiece_9 (by decide) (X.2.2.2.1 (.fieldLink RX9 43 "SilkMill$Strand" "pieces" "I") (by decide +kernel)) rfl (gv_904 _ _) dX9_makeRoomForPiece_1 ?_
  refine lv_aload_n X.1 X.2.1 dX9_makeRoomForPiece_4 rfl (lv_at hl 0 rfl) ?_
  refine r_getR (g := 905) X hw ha_x rfl 5 h_6 (by decide) rfl inn_X9_makeRoomForPiece_9 (by decide) (X.2.2.2.1 (.fieldLink RX9 18 "SilkMill$Strand" "codes" "[I") (by decide +kernel)) rfl (gv_905 _ _) dX9_makeRoomForPiece_5 ?_
  refine r_alen X hw h_10 rfl (by decide) rfl dX9_makeRoomForPiece_8 ?_
  rw [h_14]
  refine lv_topi (fun v_33 ev_33 => ?_)
  have z_34 : v_33.toInt = (n_5 : Int) := z_len ev_33 (by omega)
  refine lv_icmp_ge (tgt := 13) X.1 X.2.1 dX9_makeRoomForPiece_9 (by decide) (fun c_35 => ?_) (fun c_35 => ?_)
  · have z_b_36 := trivial
    have k_37 : v_19.toInt ≥ v_33.toInt := z_le rfl rfl c_35
    refine lv_sipush (v := 3600) X.1 X.2.1 dX9_makeRoomForPiece_13 (by decide) ?_
    refine lv_iconst (v := 2) X.1 X.2.1 dX9_makeRoomForPiece_16 (by decide) ?_
    refine lv_aload_n X.1 X.2.1 dX9_makeRoomForPiece_17 rfl (lv_at hl 0 rfl) ?_
    refine r_getI (g := 904) (x := v_19) X hw ha_x rfl 4 ev_19 (by decide) rfl inn_X9_makeRoomForPiece_9 (by decide) (X.2.2.2.1 (.fieldLink RX9 43 "SilkMill$Strand" "pieces" "I") (by decide +kernel)) rfl (gv_904 _ _) dX9_makeRoomForPiece_18 ?_
    refine lv_imul X.1 X.2.1 dX9_makeRoomForPiece_21 ?_
    refine lv_topi (fun v_38 ev_38 => ?_)
    have z_39 : v_38.toInt = 2 * v_19.toInt := z_mul ev_38 ti_2 rfl (by omega) (by omega)
    refine lv_iconst (v := 1) X.1 X.2.1 dX9_makeRoomForPiece_22 (by decide) ?_
    refine lv_iadd X.1 X.2.1 dX9_makeRoomForPiece_23 ?_
    refine lv_topi (fun v_40 ev_40 => ?_)
    have z_41 : v_40.toInt = v_38.toInt + 1 := z_add ev_40 rfl ti_1 (by omega) (by omega)
    refine va_mmin X.1 X.2.1 (X.2.2.1.trans hl.1.symm) X.2.2.2.2.1 (X.2.2.2.1 (.methodLink RX9 67 Lib.Math.min.name) (by decide +kernel)) (X.2.2.2.1 (.static Lib.Math.min.name) (by decide +kernel)) (X.2.2.2.1 (.initialized "java/lang/Math") (by decide +kernel)) (X.2.2.2.1 (.code Lib.Math.min.name Lib.Math.min.code 2 (some .int)) (by decide +kernel)) (Nat.le_of_ble_eq_true rfl) (Nat.le_of_ble_eq_true rfl) (by show 0 ≤ Phc S + 4; omega) (by show 0 ≤ Phs S + 14400; omega) dX9_makeRoomForPiece_24 ?_
    refine lv_topi (fun v_42 ev_42 => ?_)
    have z_43 := z_min ev_42 ti_3600 rfl
    refine lv_istore_n (lv' := [(1, .int (v_42)), (0, .ref x)]) X.1 X.2.1 dX9_makeRoomForPiece_27 rfl hl (by decide) rfl (fun ls hl => ?_)
    refine lv_aload_n X.1 X.2.1 dX9_makeRoomForPiece_28 rfl (lv_at hl 1 rfl) ?_
    refine lv_aload_n X.1 X.2.1 dX9_makeRoomForPiece_29 rfl (lv_at hl 1 rfl) ?_
    refine r_getR (g := 905) X hw ha_x rfl 5 h_6 (by decide) rfl inn_X9_makeRoomForPiece_9 (by decide) (X.2.2.2.1 (.fieldLink RX9 18 "SilkMill$Strand" "codes" "[I") (by decide +kernel)) rfl (gv_905 _ _) dX9_makeRoomForPiece_30 ?_
    refine lv_iload_n X.1 X.2.1 dX9_makeRoomForPiece_33 rfl (lv_at hl 0 rfl) ?_
    refine k_q (rm := { frames := 2, cells := 1, slots := (v_42.toInt.toNat), locals := 96 }) (av := [.ref q_1, .int (v_42)]) X hw (va_runS (As := [.ref q_1, .int (v_42)]) (rest := [.ref x]) (cfix X) (k_J7_copyOf_59c91 l G cy κ S _ q_1 (v_42) (v_42.toInt) n_5 (v_42.toInt.toNat) (v_42.toInt.toNat) hC h_10 rfl h_14 (by omega) (by omega) (by omega) (by omega)) (va_cwS 2 X.2.2.2.1 gX9_makeRoomForPiece_J7_copyOf_59c91 rfl rfl rfl (by decide +kernel) ⟨Nat.le_of_ble_eq_true rfl, Nat.le_of_ble_eq_true rfl⟩) (pre_S X hw _) rfl rfl hl.1 rfl (lv_room (Nat.le_of_ble_eq_true rfl)) dX9_makeRoomForPiece_34 ⟨(by show 0 + 1 ≤ Phc S + 4; omega), (by show 0 + (v_42.toInt.toNat) ≤ Phs S + 14400; omega)⟩) 1 (0 + (v_42.toInt.toNat)) (by show 0 + 1 ≤ 1; omega) (by show 0 + (v_42.toInt.toNat) ≤ (0 + (v_42.toInt.toNat)); omega) (fun rr_44 S_45 H locs hp hw hfr hnw => ?_)
    obtain ⟨q_46, er_48, hcp_47⟩ := hp
    subst er_48
    refine W.eq (g2 := F0 m 37 ls (.ref q_46 :: .ref x :: [])) rfl ?_
    have hcp_47_a := hcp_47.2.2.1
    have hcp_47_n := hcp_47.2.2.2.1
    have ph_49 : Phc S_45 = Phc S := hcp_47.2.2.2.2.2.1
    have ph_50 : Phs S_45 = Phs S := hcp_47.2.2.2.2.2.2.1
    have hn0_q_46 := hK.new hcp_47.1
    have hK_51 : Kq S S_45 x := hK.sub hn0_q_46 hcp_47.2.1
    have nw_52 : ∀ b ∈ pL S_45, b ∈ pL S ∨ pK S_45 b = 14 := NewA.step hNW hcp_47
    have t_53 : At S_45 x 29 := ⟨(hcp_47.2.1 x ha_x.1).1, ((hcp_47.2.1 x ha_x.1).2 (ne_of_new hcp_47.1 ha_x.1)).1.trans ha_x.2⟩
    have t_54 : pR S_45 905 x = some q_1 := (((hcp_47.2.1 x ha_x.1).2 (ne_of_new hcp_47.1 ha_x.1)).2.2.1 905).trans h_6
    have t_55 : pN S_45 q_1 = n_5 := ((hcp_47.2.1 q_1 h_10.1).2 (ne_of_new hcp_47.1 h_10.1)).2.2.2.1.trans h_14
    clear h_14
    have nd0 := nodup_of hw
    refine r_putR X hw t_53 rfl 5 905 (some q_46) rfl tyX9 (by decide) rfl inn_X9_makeRoomForPiece_9 tyX9_ok nmX9 (by decide) (X.2.2.2.1 (.fieldLink RX9 18 "SilkMill$Strand" "codes" "[I") (by decide +kernel)) rfl (Or.inl rfl) (fun _ => rfl) rfl (fun _ => rfl) rfl (Nat.le_of_ble_eq_true rfl) (st_905 _ _) dX9_makeRoomForPiece_37 (fun H locs hw => ?_)
    obtain ⟨S_56, eS_56⟩ : ∃ T, T = sR S_45 905 x (some q_46) := ⟨_, rfl⟩
    rw [← eS_56] at hw
    have hK_57 : Kq S S_56 x := hK_51.sR eS_56
    have nw_58 : ∀ b ∈ pL S_56, b ∈ pL S ∨ pK S_56 b = 14 := fun b hb => by rw [eS_56] at hb ⊢; exact nw_52 b hb
    have hC_59 : CI S_56 := CI_sR hcp_47.2.2.2.2.1 hcp_47_a.1 eS_56
    have ph_60 : Phc S_56 + fC (n_5) = Phc S_45 + fC ((v_42.toInt.toNat)) := Ph_905 nd0 t_53 t_54 t_55 hcp_47_n eS_56
    have ph_61 : Phs S_56 + fS (n_5) = Phs S_45 + fS ((v_42.toInt.toNat)) := Ph_905 nd0 t_53 t_54 t_55 hcp_47_n eS_56
    have h_62 : pR S_56 905 x = some q_46 := tR_sRs eS_56
    refine lv_aload_n X.1 X.2.1 dX9_makeRoomForPiece_40 rfl (lv_at hl 1 rfl) ?_
    refine lv_aload_n X.1 X.2.1 dX9_makeRoomForPiece_41 rfl (lv_at hl 1 rfl) ?_
    have t_63 : At S_56 x 29 := tAt_sR eS_56 t_53
    have t_64 : pR S_45 906 x = some q_2 := (((hcp_47.2.1 x ha_x.1).2 (ne_of_new hcp_47.1 ha_x.1)).2.2.1 906).trans h_7
    have t_65 : pR S_56 906 x = some q_2 := tR_sR eS_56 rfl t_64
    refine r_getR (g := 906) X hw t_63 rfl 6 t_65 (by decide) rfl inn_X9_makeRoomForPiece_9 (by decide) (X.2.2.2.1 (.fieldLink RX9 21 "SilkMill$Strand" "firsts" "[I") (by decide +kernel)) rfl (gv_906 _ _) dX9_makeRoomForPiece_42 ?_
    refine lv_iload_n X.1 X.2.1 dX9_makeRoomForPiece_45 rfl (lv_at hl 0 rfl) ?_
    have t_66 : At S_45 q_2 14 := ⟨(hcp_47.2.1 q_2 h_11.1).1, ((hcp_47.2.1 q_2 h_11.1).2 (ne_of_new hcp_47.1 h_11.1)).1.trans h_11.2⟩
    have t_67 : At S_56 q_2 14 := tAt_sR eS_56 t_66
    have t_68 : pN S_45 q_2 = n_5 := ((hcp_47.2.1 q_2 h_11.1).2 (ne_of_new hcp_47.1 h_11.1)).2.2.2.1.trans h_15
    clear h_15
    have t_69 : pN S_56 q_2 = n_5 := tN_sR eS_56 t_68
    clear t_68
    refine k_q (rm := { frames := 2, cells := 1, slots := (v_42.toInt.toNat), locals := 96 }) (av := [.ref q_2, .int (v_42)]) X hw (va_runS (As := [.ref q_2, .int (v_42)]) (rest := [.ref x]) (cfix X) (k_J7_copyOf_59c91 l G cy κ S_56 _ q_2 (v_42) (v_42.toInt) n_5 (v_42.toInt.toNat) (v_42.toInt.toNat) hC_59 t_67 rfl t_69 (by omega) (by omega) (by omega) (by omega)) (va_cwS 2 X.2.2.2.1 gX9_makeRoomForPiece_J7_copyOf_59c91 rfl rfl rfl (by decide +kernel) ⟨Nat.le_of_ble_eq_true rfl, Nat.le_of_ble_eq_true rfl⟩) (pre_S X hw _) rfl rfl hl.1 rfl (lv_room (Nat.le_of_ble_eq_true rfl)) dX9_makeRoomForPiece_46 ⟨(by show 1 + 1 ≤ Phc S + 4; omega), (by show (0 + (v_42.toInt.toNat)) + (v_42.toInt.toNat) ≤ Phs S + 14400; omega)⟩) 2 ((0 + (v_42.toInt.toNat)) + (v_42.toInt.toNat)) (by show 1 + 1 ≤ 2; omega) (by show (0 + (v_42.toInt.toNat)) + (v_42.toInt.toNat) ≤ ((0 + (v_42.toInt.toNat)) + (v_42.toInt.toNat)); omega) (fun rr_70 S_71 H locs hp hw hfr hnw => ?_)
    obtain ⟨q_72, er_74, hcp_73⟩ := hp
    subst er_74
    refine W.eq (g2 := F0 m 49 ls (.ref q_72 :: .ref x :: [])) rfl ?_
    have hcp_73_a := hcp_73.2.2.1
    have hcp_73_n := hcp_73.2.2.2.1
    have ph_75 : Phc S_71 = Phc S_56 := hcp_73.2.2.2.2.2.1
    have ph_76 : Phs S_71 = Phs S_56 := hcp_73.2.2.2.2.2.2.1
    have hn0_q_72 := hK_57.new hcp_73.1
    have hK_77 : Kq S S_71 x := hK_57.sub hn0_q_72 hcp_73.2.1
    have nw_78 : ∀ b ∈ pL S_71, b ∈ pL S ∨ pK S_71 b = 14 := NewA.step nw_58 hcp_73
    have t_79 : At S_71 x 29 := ⟨(hcp_73.2.1 x t_63.1).1, ((hcp_73.2.1 x t_63.1).2 (ne_of_new hcp_73.1 t_63.1)).1.trans t_63.2⟩
    refine r_putR X hw t_79 rfl 6 906 (some q_72) rfl tyX9 (by decide) rfl inn_X9_makeRoomForPiece_9 tyX9_ok nmX9 (by decide) (X.2.2.2.1 (.fieldLink RX9 21 "SilkMill$Strand" "firsts" "[I") (by decide +kernel)) rfl (Or.inl rfl) (fun _ => rfl) rfl (fun _ => rfl) rfl (Nat.le_of_ble_eq_true rfl) (st_906 _ _) dX9_makeRoomForPiece_49 (fun H locs hw => ?_)
    obtain ⟨S_80, eS_80⟩ : ∃ T, T = sR S_71 906 x (some q_72) := ⟨_, rfl⟩
    rw [← eS_80] at hw
    have ph_81 : Phc S_80 = Phc S_71 := Ph_sR eS_80 rfl
    have ph_82 : Phs S_80 = Phs S_71 := Ph_sR eS_80 rfl
    have hK_83 : Kq S S_80 x := hK_77.sR eS_80
    have nw_84 : ∀ b ∈ pL S_80, b ∈ pL S ∨ pK S_80 b = 14 := fun b hb => by rw [eS_80] at hb ⊢; exact nw_78 b hb
    have hC_85 : CI S_80 := CI_sR hcp_73.2.2.2.2.1 hcp_73_a.1 eS_80
    have h_86 : pR S_80 906 x = some q_72 := tR_sRs eS_80
    refine lv_aload_n X.1 X.2.1 dX9_makeRoomForPiece_52 rfl (lv_at hl 1 rfl) ?_
    refine lv_aload_n X.1 X.2.1 dX9_makeRoomForPiece_53 rfl (lv_at hl 1 rfl) ?_
    have t_87 : At S_80 x 29 := tAt_sR eS_80 t_79
    have t_88 : pR S_45 907 x = some q_3 := (((hcp_47.2.1 x ha_x.1).2 (ne_of_new hcp_47.1 ha_x.1)).2.2.1 907).trans h_8
    have t_89 : pR S_56 907 x = some q_3 := tR_sR eS_56 rfl t_88
    have t_90 : pR S_71 907 x = some q_3 := (((hcp_73.2.1 x t_63.1).2 (ne_of_new hcp_73.1 t_63.1)).2.2.1 907).trans t_89
    have t_91 : pR S_80 907 x = some q_3 := tR_sR eS_80 rfl t_90
    refine r_getR (g := 907) X hw t_87 rfl 7 t_91 (by decide) rfl inn_X9_makeRoomForPiece_9 (by decide) (X.2.2.2.1 (.fieldLink RX9 24 "SilkMill$Strand" "lengths" "[I") (by decide +kernel)) rfl (gv_907 _ _) dX9_makeRoomForPiece_54 ?_
    refine lv_iload_n X.1 X.2.1 dX9_makeRoomForPiece_57 rfl (lv_at hl 0 rfl) ?_
    have t_92 : At S_45 q_3 14 := ⟨(hcp_47.2.1 q_3 h_12.1).1, ((hcp_47.2.1 q_3 h_12.1).2 (ne_of_new hcp_47.1 h_12.1)).1.trans h_12.2⟩
    have t_93 : At S_56 q_3 14 := tAt_sR eS_56 t_92
    have t_94 : At S_71 q_3 14 := ⟨(hcp_73.2.1 q_3 t_93.1).1, ((hcp_73.2.1 q_3 t_93.1).2 (ne_of_new hcp_73.1 t_93.1)).1.trans t_93.2⟩
    have t_95 : At S_80 q_3 14 := tAt_sR eS_80 t_94
    have t_96 : pN S_45 q_3 = n_5 := ((hcp_47.2.1 q_3 h_12.1).2 (ne_of_new hcp_47.1 h_12.1)).2.2.2.1.trans h_16
    clear h_16
    have t_97 : pN S_56 q_3 = n_5 := tN_sR eS_56 t_96
    clear t_96
    have t_99 : At S_45 q_3 14 := ⟨(hcp_47.2.1 q_3 h_12.1).1, ((hcp_47.2.1 q_3 h_12.1).2 (ne_of_new hcp_47.1 h_12.1)).1.trans h_12.2⟩
    have t_100 : At S_56 q_3 14 := tAt_sR eS_56 t_99
    have t_98 : pN S_71 q_3 = n_5 := ((hcp_73.2.1 q_3 t_100.1).2 (ne_of_new hcp_73.1 t_100.1)).2.2.2.1.trans t_97
    clear t_97
    have t_101 : pN S_80 q_3 = n_5 := tN_sR eS_80 t_98
    clear t_98
    refine k_q (rm := { frames := 2, cells := 1, slots := (v_42.toInt.toNat), locals := 96 }) (av := [.ref q_3, .int (v_42)]) X hw (va_runS (As := [.ref q_3, .int (v_42)]) (rest := [.ref x]) (cfix X) (k_J7_copyOf_59c91 l G cy κ S_80 _ q_3 (v_42) (v_42.toInt) n_5 (v_42.toInt.toNat) (v_42.toInt.toNat) hC_85 t_95 rfl t_101 (by omega) (by omega) (by omega) (by omega)) (va_cwS 2 X.2.2.2.1 gX9_makeRoomForPiece_J7_copyOf_59c91 rfl rfl rfl (by decide +kernel) ⟨Nat.le_of_ble_eq_true rfl, Nat.le_of_ble_eq_true rfl⟩) (pre_S X hw _) rfl rfl hl.1 rfl (lv_room (Nat.le_of_ble_eq_true rfl)) dX9_makeRoomForPiece_58 ⟨(by show 2 + 1 ≤ Phc S + 4; omega), (by show ((0 + (v_42.toInt.toNat)) + (v_42.toInt.toNat)) + (v_42.toInt.toNat) ≤ Phs S + 14400; omega)⟩) 3 (((0 + (v_42.toInt.toNat)) + (v_42.toInt.toNat)) + (v_42.toInt.toNat)) (by show 2 + 1 ≤ 3; omega) (by show ((0 + (v_42.toInt.toNat)) + (v_42.toInt.toNat)) + (v_42.toInt.toNat) ≤ (((0 + (v_42.toInt.toNat)) + (v_42.toInt.toNat)) + (v_42.toInt.toNat)); omega) (fun rr_102 S_103 H locs hp hw hfr hnw => ?_)
    obtain ⟨q_104, er_106, hcp_105⟩ := hp
    subst er_106
    refine W.eq (g2 := F0 m 61 ls (.ref q_104 :: .ref x :: [])) rfl ?_
    have hcp_105_a := hcp_105.2.2.1
    have hcp_105_n := hcp_105.2.2.2.1
    have ph_107 : Phc S_103 = Phc S_80 := hcp_105.2.2.2.2.2.1
    have ph_108 : Phs S_103 = Phs S_80 := hcp_105.2.2.2.2.2.2.1
    have hn0_q_104 := hK_83.new hcp_105.1
    have hK_109 : Kq S S_103 x := hK_83.sub hn0_q_104 hcp_105.2.1
    have nw_110 : ∀ b ∈ pL S_103, b ∈ pL S ∨ pK S_103 b = 14 := NewA.step nw_84 hcp_105
    have t_111 : At S_103 x 29 := ⟨(hcp_105.2.1 x t_87.1).1, ((hcp_105.2.1 x t_87.1).2 (ne_of_new hcp_105.1 t_87.1)).1.trans t_87.2⟩
    refine r_putR X hw t_111 rfl 7 907 (some q_104) rfl tyX9 (by decide) rfl inn_X9_makeRoomForPiece_9 tyX9_ok nmX9 (by decide) (X.2.2.2.1 (.fieldLink RX9 24 "SilkMill$Strand" "lengths" "[I") (by decide +kernel)) rfl (Or.inl rfl) (fun _ => rfl) rfl (fun _ => rfl) rfl (Nat.le_of_ble_eq_true rfl) (st_907 _ _) dX9_makeRoomForPiece_61 (fun H locs hw => ?_)
    obtain ⟨S_112, eS_112⟩ : ∃ T, T = sR S_103 907 x (some q_104) := ⟨_, rfl⟩
    rw [← eS_112] at hw
    have ph_113 : Phc S_112 = Phc S_103 := Ph_sR eS_112 rfl
    have ph_114 : Phs S_112 = Phs S_103 := Ph_sR eS_112 rfl
    have hK_115 : Kq S S_112 x := hK_109.sR eS_112
    have nw_116 : ∀ b ∈ pL S_112, b ∈ pL S ∨ pK S_112 b = 14 := fun b hb => by rw [eS_112] at hb ⊢; exact nw_110 b hb
    have hC_117 : CI S_112 := CI_sR hcp_105.2.2.2.2.1 hcp_105_a.1 eS_112
    have h_118 : pR S_112 907 x = some q_104 := tR_sRs eS_112
    refine lv_aload_n X.1 X.2.1 dX9_makeRoomForPiece_64 rfl (lv_at hl 1 rfl) ?_
    refine lv_aload_n X.1 X.2.1 dX9_makeRoomForPiece_65 rfl (lv_at hl 1 rfl) ?_
    have t_119 : At S_112 x 29 := tAt_sR eS_112 t_111
    have t_120 : pR S_45 908 x = some q_4 := (((hcp_47.2.1 x ha_x.1).2 (ne_of_new hcp_47.1 ha_x.1)).2.2.1 908).trans h_9
    have t_121 : pR S_56 908 x = some q_4 := tR_sR eS_56 rfl t_120
    have t_122 : pR S_71 908 x = some q_4 := (((hcp_73.2.1 x t_63.1).2 (ne_of_new hcp_73.1 t_63.1)).2.2.1 908).trans t_121
    have t_123 : pR S_80 908 x = some q_4 := tR_sR eS_80 rfl t_122
    have t_124 : pR S_103 908 x = some q_4 := (((hcp_105.2.1 x t_87.1).2 (ne_of_new hcp_105.1 t_87.1)).2.2.1 908).trans t_123
    have t_125 : pR S_112 908 x = some q_4 := tR_sR eS_112 rfl t_124
    refine r_getR (g := 908) X hw t_119 rfl 8 t_125 (by decide) rfl inn_X9_makeRoomForPiece_9 (by decide) (X.2.2.2.1 (.fieldLink RX9 27 "SilkMill$Strand" "places" "[I") (by decide +kernel)) rfl (gv_908 _ _) dX9_makeRoomForPiece_66 ?_
    refine lv_iload_n X.1 X.2.1 dX9_makeRoomForPiece_69 rfl (lv_at hl 0 rfl) ?_
    have t_126 : At S_45 q_4 14 := ⟨(hcp_47.2.1 q_4 h_13.1).1, ((hcp_47.2.1 q_4 h_13.1).2 (ne_of_new hcp_47.1 h_13.1)).1.trans h_13.2⟩
    have t_127 : At S_56 q_4 14 := tAt_sR eS_56 t_126
    have t_128 : At S_71 q_4 14 := ⟨(hcp_73.2.1 q_4 t_127.1).1, ((hcp_73.2.1 q_4 t_127.1).2 (ne_of_new hcp_73.1 t_127.1)).1.trans t_127.2⟩
    have t_129 : At S_80 q_4 14 := tAt_sR eS_80 t_128
    have t_130 : At S_103 q_4 14 := ⟨(hcp_105.2.1 q_4 t_129.1).1, ((hcp_105.2.1 q_4 t_129.1).2 (ne_of_new hcp_105.1 t_129.1)).1.trans t_129.2⟩
    have t_131 : At S_112 q_4 14 := tAt_sR eS_112 t_130
    have t_132 : pN S_45 q_4 = n_5 := ((hcp_47.2.1 q_4 h_13.1).2 (ne_of_new hcp_47.1 h_13.1)).2.2.2.1.trans h_17
    clear h_17
    have t_133 : pN S_56 q_4 = n_5 := tN_sR eS_56 t_132
    clear t_132
    have t_135 : At S_45 q_4 14 := ⟨(hcp_47.2.1 q_4 h_13.1).1, ((hcp_47.2.1 q_4 h_13.1).2 (ne_of_new hcp_47.1 h_13.1)).1.trans h_13.2⟩
    have t_136 : At S_56 q_4 14 := tAt_sR eS_56 t_135
    have t_134 : pN S_71 q_4 = n_5 := ((hcp_73.2.1 q_4 t_136.1).2 (ne_of_new hcp_73.1 t_136.1)).2.2.2.1.trans t_133
    clear t_133
    have t_137 : pN S_80 q_4 = n_5 := tN_sR eS_80 t_134
    clear t_134
    have t_139 : At S_71 q_4 14 := ⟨(hcp_73.2.1 q_4 t_136.1).1, ((hcp_73.2.1 q_4 t_136.1).2 (ne_of_new hcp_73.1 t_136.1)).1.trans t_136.2⟩
    have t_140 : At S_80 q_4 14 := tAt_sR eS_80 t_139
    have t_138 : pN S_103 q_4 = n_5 := ((hcp_105.2.1 q_4 t_140.1).2 (ne_of_new hcp_105.1 t_140.1)).2.2.2.1.trans t_137
    clear t_137
    have t_141 : pN S_112 q_4 = n_5 := tN_sR eS_112 t_138
    clear t_138
    refine k_q (rm := { frames := 2, cells := 1, slots := (v_42.toInt.toNat), locals := 96 }) (av := [.ref q_4, .int (v_42)]) X hw (va_runS (As := [.ref q_4, .int (v_42)]) (rest := [.ref x]) (cfix X) (k_J7_copyOf_59c91 l G cy κ S_112 _ q_4 (v_42) (v_42.toInt) n_5 (v_42.toInt.toNat) (v_42.toInt.toNat) hC_117 t_131 rfl t_141 (by omega) (by omega) (by omega) (by omega)) (va_cwS 2 X.2.2.2.1 gX9_makeRoomForPiece_J7_copyOf_59c91 rfl rfl rfl (by decide +kernel) ⟨Nat.le_of_ble_eq_true rfl, Nat.le_of_ble_eq_true rfl⟩) (pre_S X hw _) rfl rfl hl.1 rfl (lv_room (Nat.le_of_ble_eq_true rfl)) dX9_makeRoomForPiece_70 ⟨(by show 3 + 1 ≤ Phc S + 4; omega), (by show (((0 + (v_42.toInt.toNat)) + (v_42.toInt.toNat)) + (v_42.toInt.toNat)) + (v_42.toInt.toNat) ≤ Phs S + 14400; omega)⟩) 4 ((((0 + (v_42.toInt.toNat)) + (v_42.toInt.toNat)) + (v_42.toInt.toNat)) + (v_42.toInt.toNat)) (by show 3 + 1 ≤ 4; omega) (by show (((0 + (v_42.toInt.toNat)) + (v_42.toInt.toNat)) + (v_42.toInt.toNat)) + (v_42.toInt.toNat) ≤ ((((0 + (v_42.toInt.toNat)) + (v_42.toInt.toNat)) + (v_42.toInt.toNat)) + (v_42.toInt.toNat)); omega) (fun rr_142 S_143 H locs hp hw hfr hnw => ?_)
    obtain ⟨q_144, er_146, hcp_145⟩ := hp
    subst er_146
    refine W.eq (g2 := F0 m 73 ls (.ref q_144 :: .ref x :: [])) rfl ?_
    have hcp_145_a := hcp_145.2.2.1
    have hcp_145_n := hcp_145.2.2.2.1
    have ph_147 : Phc S_143 = Phc S_112 := hcp_145.2.2.2.2.2.1
    have ph_148 : Phs S_143 = Phs S_112 := hcp_145.2.2.2.2.2.2.1
    have hn0_q_144 := hK_115.new hcp_145.1
    have hK_149 : Kq S S_143 x := hK_115.sub hn0_q_144 hcp_145.2.1
    have nw_150 : ∀ b ∈ pL S_143, b ∈ pL S ∨ pK S_143 b = 14 := NewA.step nw_116 hcp_145
    have t_151 : At S_143 x 29 := ⟨(hcp_145.2.1 x t_119.1).1, ((hcp_145.2.1 x t_119.1).2 (ne_of_new hcp_145.1 t_119.1)).1.trans t_119.2⟩
    refine r_putR X hw t_151 rfl 8 908 (some q_144) rfl tyX9 (by decide) rfl inn_X9_makeRoomForPiece_9 tyX9_ok nmX9 (by decide) (X.2.2.2.1 (.fieldLink RX9 27 "SilkMill$Strand" "places" "[I") (by decide +kernel)) rfl (Or.inl rfl) (fun _ => rfl) rfl (fun _ => rfl) rfl (Nat.le_of_ble_eq_true rfl) (st_908 _ _) dX9_makeRoomForPiece_73 (fun H locs hw => ?_)
    obtain ⟨S_152, eS_152⟩ : ∃ T, T = sR S_143 908 x (some q_144) := ⟨_, rfl⟩
    rw [← eS_152] at hw
    have ph_153 : Phc S_152 = Phc S_143 := Ph_sR eS_152 rfl
    have ph_154 : Phs S_152 = Phs S_143 := Ph_sR eS_152 rfl
    have hK_155 : Kq S S_152 x := hK_149.sR eS_152
    have nw_156 : ∀ b ∈ pL S_152, b ∈ pL S ∨ pK S_152 b = 14 := fun b hb => by rw [eS_152] at hb ⊢; exact nw_150 b hb
    have hC_157 : CI S_152 := CI_sR hcp_145.2.2.2.2.1 hcp_145_a.1 eS_152
    have h_158 : pR S_152 908 x = some q_144 := tR_sRs eS_152
    have hgr := grow_ok (n := n_5) (N := (v_42.toInt.toNat)) (by omega) (by omega) (by omega)
    have t_159 : pR S_71 905 x = some q_46 := (((hcp_73.2.1 x t_63.1).2 (ne_of_new hcp_73.1 t_63.1)).2.2.1 905).trans h_62
    have t_160 : pR S_80 905 x = some q_46 := tR_sR eS_80 rfl t_159
    have t_161 : pR S_103 905 x = some q_46 := (((hcp_105.2.1 x t_87.1).2 (ne_of_new hcp_105.1 t_87.1)).2.2.1 905).trans t_160
    have t_162 : pR S_112 905 x = some q_46 := tR_sR eS_112 rfl t_161
    have t_163 : pR S_143 905 x = some q_46 := (((hcp_145.2.1 x t_119.1).2 (ne_of_new hcp_145.1 t_119.1)).2.2.1 905).trans t_162
    have t_164 : pR S_152 905 x = some q_46 := tR_sR eS_152 rfl t_163
    have t_165 : pN S_56 q_46 = (v_42.toInt.toNat) := tN_sR eS_56 hcp_47_n
    have t_167 : At S_56 q_46 14 := tAt_sR eS_56 hcp_47_a
    have t_166 : pN S_71 q_46 = (v_42.toInt.toNat) := ((hcp_73.2.1 q_46 t_167.1).2 (ne_of_new hcp_73.1 t_167.1)).2.2.2.1.trans t_165
    clear t_165
    have t_168 : pN S_80 q_46 = (v_42.toInt.toNat) := tN_sR eS_80 t_166
    clear t_166
    have t_170 : At S_71 q_46 14 := ⟨(hcp_73.2.1 q_46 t_167.1).1, ((hcp_73.2.1 q_46 t_167.1).2 (ne_of_new hcp_73.1 t_167.1)).1.trans t_167.2⟩
    have t_171 : At S_80 q_46 14 := tAt_sR eS_80 t_170
    have t_169 : pN S_103 q_46 = (v_42.toInt.toNat) := ((hcp_105.2.1 q_46 t_171.1).2 (ne_of_new hcp_105.1 t_171.1)).2.2.2.1.trans t_168
    clear t_168
    have t_172 : pN S_112 q_46 = (v_42.toInt.toNat) := tN_sR eS_112 t_169
    clear t_169
    have t_174 : At S_103 q_46 14 := ⟨(hcp_105.2.1 q_46 t_171.1).1, ((hcp_105.2.1 q_46 t_171.1).2 (ne_of_new hcp_105.1 t_171.1)).1.trans t_171.2⟩
    have t_175 : At S_112 q_46 14 := tAt_sR eS_112 t_174
    have t_173 : pN S_143 q_46 = (v_42.toInt.toNat) := ((hcp_145.2.1 q_46 t_175.1).2 (ne_of_new hcp_145.1 t_175.1)).2.2.2.1.trans t_172
    clear t_172
    have t_176 : pN S_152 q_46 = (v_42.toInt.toNat) := tN_sR eS_152 t_173
    clear t_173
    have t_177 : pI S_45 904 x = v_19 := (((hcp_47.2.1 x ha_x.1).2 (ne_of_new hcp_47.1 ha_x.1)).2.1 904).trans ev_19
    have t_178 : pI S_56 904 x = v_19 := tI_sR eS_56 t_177
    have t_179 : pI S_71 904 x = v_19 := (((hcp_73.2.1 x t_63.1).2 (ne_of_new hcp_73.1 t_63.1)).2.1 904).trans t_178
    have t_180 : pI S_80 904 x = v_19 := tI_sR eS_80 t_179
    have t_181 : pI S_103 904 x = v_19 := (((hcp_105.2.1 x t_87.1).2 (ne_of_new hcp_105.1 t_87.1)).2.1 904).trans t_180
    have t_182 : pI S_112 904 x = v_19 := tI_sR eS_112 t_181
    have t_183 : pI S_143 904 x = v_19 := (((hcp_145.2.1 x t_119.1).2 (ne_of_new hcp_145.1 t_119.1)).2.1 904).trans t_182
    have t_184 : pI S_152 904 x = v_19 := tI_sR eS_152 t_183
    have t_185 : At S_152 x 29 := tAt_sR eS_152 t_151
    have t_187 : At S_143 q_46 14 := ⟨(hcp_145.2.1 q_46 t_175.1).1, ((hcp_145.2.1 q_46 t_175.1).2 (ne_of_new hcp_145.1 t_175.1)).1.trans t_175.2⟩
    have t_188 : At S_152 q_46 14 := tAt_sR eS_152 t_187
    have t_189 : pR S_103 906 x = some q_72 := (((hcp_105.2.1 x t_87.1).2 (ne_of_new hcp_105.1 t_87.1)).2.2.1 906).trans h_86
    have t_190 : pR S_112 906 x = some q_72 := tR_sR eS_112 rfl t_189
    have t_191 : pR S_143 906 x = some q_72 := (((hcp_145.2.1 x t_119.1).2 (ne_of_new hcp_145.1 t_119.1)).2.2.1 906).trans t_190
    have t_192 : pR S_152 906 x = some q_72 := tR_sR eS_152 rfl t_191
    have t_193 : At S_80 q_72 14 := tAt_sR eS_80 hcp_73_a
    have t_194 : At S_103 q_72 14 := ⟨(hcp_105.2.1 q_72 t_193.1).1, ((hcp_105.2.1 q_72 t_193.1).2 (ne_of_new hcp_105.1 t_193.1)).1.trans t_193.2⟩
    have t_195 : At S_112 q_72 14 := tAt_sR eS_112 t_194
    have t_196 : At S_143 q_72 14 := ⟨(hcp_145.2.1 q_72 t_195.1).1, ((hcp_145.2.1 q_72 t_195.1).2 (ne_of_new hcp_145.1 t_195.1)).1.trans t_195.2⟩
    have t_197 : At S_152 q_72 14 := tAt_sR eS_152 t_196
    have t_198 : pN S_80 q_72 = (v_42.toInt.toNat) := tN_sR eS_80 hcp_73_n
    have t_200 : At S_80 q_72 14 := tAt_sR eS_80 hcp_73_a
    have t_199 : pN S_103 q_72 = (v_42.toInt.toNat) := ((hcp_105.2.1 q_72 t_200.1).2 (ne_of_new hcp_105.1 t_200.1)).2.2.2.1.trans t_198
    clear t_198
    have t_201 : pN S_112 q_72 = (v_42.toInt.toNat) := tN_sR eS_112 t_199
    clear t_199
    have t_203 : At S_103 q_72 14 := ⟨(hcp_105.2.1 q_72 t_200.1).1, ((hcp_105.2.1 q_72 t_200.1).2 (ne_of_new hcp_105.1 t_200.1)).1.trans t_200.2⟩
    have t_204 : At S_112 q_72 14 := tAt_sR eS_112 t_203
    have t_202 : pN S_143 q_72 = (v_42.toInt.toNat) := ((hcp_145.2.1 q_72 t_204.1).2 (ne_of_new hcp_145.1 t_204.1)).2.2.2.1.trans t_201
    clear t_201
    have t_205 : pN S_152 q_72 = (v_42.toInt.toNat) := tN_sR eS_152 t_202
    clear t_202
    have t_206 : pR S_143 907 x = some q_104 := (((hcp_145.2.1 x t_119.1).2 (ne_of_new hcp_145.1 t_119.1)).2.2.1 907).trans h_118
    have t_207 : pR S_152 907 x = some q_104 := tR_sR eS_152 rfl t_206
    have t_208 : At S_112 q_104 14 := tAt_sR eS_112 hcp_105_a
    have t_209 : At S_143 q_104 14 := ⟨(hcp_145.2.1 q_104 t_208.1).1, ((hcp_145.2.1 q_104 t_208.1).2 (ne_of_new hcp_145.1 t_208.1)).1.trans t_208.2⟩
    have t_210 : At S_152 q_104 14 := tAt_sR eS_152 t_209
    have t_211 : pN S_112 q_104 = (v_42.toInt.toNat) := tN_sR eS_112 hcp_105_n
    have t_213 : At S_112 q_104 14 := tAt_sR eS_112 hcp_105_a
    have t_212 : pN S_143 q_104 = (v_42.toInt.toNat) := ((hcp_145.2.1 q_104 t_213.1).2 (ne_of_new hcp_145.1 t_213.1)).2.2.2.1.trans t_211
    clear t_211
    have t_214 : pN S_152 q_104 = (v_42.toInt.toNat) := tN_sR eS_152 t_212
    clear t_212
    have t_215 : At S_152 q_144 14 := tAt_sR eS_152 hcp_145_a
    have t_216 : pN S_152 q_144 = (v_42.toInt.toNat) := tN_sR eS_152 hcp_145_n
    have t_217 : pI S_45 902 x = v_22 := (((hcp_47.2.1 x ha_x.1).2 (ne_of_new hcp_47.1 ha_x.1)).2.1 902).trans ev_22
    have t_218 : pI S_56 902 x = v_22 := tI_sR eS_56 t_217
    have t_219 : pI S_71 902 x = v_22 := (((hcp_73.2.1 x t_63.1).2 (ne_of_new hcp_73.1 t_63.1)).2.1 902).trans t_218
    have t_220 : pI S_80 902 x = v_22 := tI_sR eS_80 t_219
    have t_221 : pI S_103 902 x = v_22 := (((hcp_105.2.1 x t_87.1).2 (ne_of_new hcp_105.1 t_87.1)).2.1 902).trans t_220
    have t_222 : pI S_112 902 x = v_22 := tI_sR eS_112 t_221
    have t_223 : pI S_143 902 x = v_22 := (((hcp_145.2.1 x t_119.1).2 (ne_of_new hcp_145.1 t_119.1)).2.1 902).trans t_222
    have t_224 : pI S_152 902 x = v_22 := tI_sR eS_152 t_223
    have t_225 : pR S_45 900 x = some q_25 := (((hcp_47.2.1 x ha_x.1).2 (ne_of_new hcp_47.1 ha_x.1)).2.2.1 900).trans h_26
    have t_226 : pR S_56 900 x = some q_25 := tR_sR eS_56 rfl t_225
    have t_227 : pR S_71 900 x = some q_25 := (((hcp_73.2.1 x t_63.1).2 (ne_of_new hcp_73.1 t_63.1)).2.2.1 900).trans t_226
    have t_228 : pR S_80 900 x = some q_25 := tR_sR eS_80 rfl t_227
    have t_229 : pR S_103 900 x = some q_25 := (((hcp_105.2.1 x t_87.1).2 (ne_of_new hcp_105.1 t_87.1)).2.2.1 900).trans t_228
    have t_230 : pR S_112 900 x = some q_25 := tR_sR eS_112 rfl t_229
    have t_231 : pR S_143 900 x = some q_25 := (((hcp_145.2.1 x t_119.1).2 (ne_of_new hcp_145.1 t_119.1)).2.2.1 900).trans t_230
    have t_232 : pR S_152 900 x = some q_25 := tR_sR eS_152 rfl t_231
    have t_233 : pR S_45 901 x = some q_29 := (((hcp_47.2.1 x ha_x.1).2 (ne_of_new hcp_47.1 ha_x.1)).2.2.1 901).trans h_30
    have t_234 : pR S_56 901 x = some q_29 := tR_sR eS_56 rfl t_233
    have t_235 : pR S_71 901 x = some q_29 := (((hcp_73.2.1 x t_63.1).2 (ne_of_new hcp_73.1 t_63.1)).2.2.1 901).trans t_234
    have t_236 : pR S_80 901 x = some q_29 := tR_sR eS_80 rfl t_235
    have t_237 : pR S_103 901 x = some q_29 := (((hcp_105.2.1 x t_87.1).2 (ne_of_new hcp_105.1 t_87.1)).2.2.1 901).trans t_236
    have t_238 : pR S_112 901 x = some q_29 := tR_sR eS_112 rfl t_237
    have t_239 : pR S_143 901 x = some q_29 := (((hcp_145.2.1 x t_119.1).2 (ne_of_new hcp_145.1 t_119.1)).2.2.1 901).trans t_238
    have t_240 : pR S_152 901 x = some q_29 := tR_sR eS_152 rfl t_239
    have t_241 : At S_45 q_25 1614 := ⟨(hcp_47.2.1 q_25 h_27.1).1, ((hcp_47.2.1 q_25 h_27.1).2 (ne_of_new hcp_47.1 h_27.1)).1.trans h_27.2⟩
    have t_242 : At S_56 q_25 1614 := tAt_sR eS_56 t_241
    have t_243 : At S_71 q_25 1614 := ⟨(hcp_73.2.1 q_25 t_242.1).1, ((hcp_73.2.1 q_25 t_242.1).2 (ne_of_new hcp_73.1 t_242.1)).1.trans t_242.2⟩
    have t_244 : At S_80 q_25 1614 := tAt_sR eS_80 t_243
    have t_245 : At S_103 q_25 1614 := ⟨(hcp_105.2.1 q_25 t_244.1).1, ((hcp_105.2.1 q_25 t_244.1).2 (ne_of_new hcp_105.1 t_244.1)).1.trans t_244.2⟩
    have t_246 : At S_112 q_25 1614 := tAt_sR eS_112 t_245
    have t_247 : At S_143 q_25 1614 := ⟨(hcp_145.2.1 q_25 t_246.1).1, ((hcp_145.2.1 q_25 t_246.1).2 (ne_of_new hcp_145.1 t_246.1)).1.trans t_246.2⟩
    have t_248 : At S_152 q_25 1614 := tAt_sR eS_152 t_247
    have t_249 : pN S_45 q_25 = 300 := ((hcp_47.2.1 q_25 h_27.1).2 (ne_of_new hcp_47.1 h_27.1)).2.2.2.1.trans h_28
    clear h_28
    have t_250 : pN S_56 q_25 = 300 := tN_sR eS_56 t_249
    clear t_249
    have t_252 : At S_45 q_25 1614 := ⟨(hcp_47.2.1 q_25 h_27.1).1, ((hcp_47.2.1 q_25 h_27.1).2 (ne_of_new hcp_47.1 h_27.1)).1.trans h_27.2⟩
    have t_253 : At S_56 q_25 1614 := tAt_sR eS_56 t_252
    have t_251 : pN S_71 q_25 = 300 := ((hcp_73.2.1 q_25 t_253.1).2 (ne_of_new hcp_73.1 t_253.1)).2.2.2.1.trans t_250
    clear t_250
    have t_254 : pN S_80 q_25 = 300 := tN_sR eS_80 t_251
    clear t_251
    have t_256 : At S_71 q_25 1614 := ⟨(hcp_73.2.1 q_25 t_253.1).1, ((hcp_73.2.1 q_25 t_253.1).2 (ne_of_new hcp_73.1 t_253.1)).1.trans t_253.2⟩
    have t_257 : At S_80 q_25 1614 := tAt_sR eS_80 t_256
    have t_255 : pN S_103 q_25 = 300 := ((hcp_105.2.1 q_25 t_257.1).2 (ne_of_new hcp_105.1 t_257.1)).2.2.2.1.trans t_254
    clear t_254
    have t_258 : pN S_112 q_25 = 300 := tN_sR eS_112 t_255
    clear t_255
    have t_260 : At S_103 q_25 1614 := ⟨(hcp_105.2.1 q_25 t_257.1).1, ((hcp_105.2.1 q_25 t_257.1).2 (ne_of_new hcp_105.1 t_257.1)).1.trans t_257.2⟩
    have t_261 : At S_112 q_25 1614 := tAt_sR eS_112 t_260
    have t_259 : pN S_143 q_25 = 300 := ((hcp_145.2.1 q_25 t_261.1).2 (ne_of_new hcp_145.1 t_261.1)).2.2.2.1.trans t_258
    clear t_258
    have t_262 : pN S_152 q_25 = 300 := tN_sR eS_152 t_259
    clear t_259
    have t_263 : At S_45 q_29 1634 := ⟨(hcp_47.2.1 q_29 h_31.1).1, ((hcp_47.2.1 q_29 h_31.1).2 (ne_of_new hcp_47.1 h_31.1)).1.trans h_31.2⟩
    have t_264 : At S_56 q_29 1634 := tAt_sR eS_56 t_263
    have t_265 : At S_71 q_29 1634 := ⟨(hcp_73.2.1 q_29 t_264.1).1, ((hcp_73.2.1 q_29 t_264.1).2 (ne_of_new hcp_73.1 t_264.1)).1.trans t_264.2⟩
    have t_266 : At S_80 q_29 1634 := tAt_sR eS_80 t_265
    have t_267 : At S_103 q_29 1634 := ⟨(hcp_105.2.1 q_29 t_266.1).1, ((hcp_105.2.1 q_29 t_266.1).2 (ne_of_new hcp_105.1 t_266.1)).1.trans t_266.2⟩
    have t_268 : At S_112 q_29 1634 := tAt_sR eS_112 t_267
    have t_269 : At S_143 q_29 1634 := ⟨(hcp_145.2.1 q_29 t_268.1).1, ((hcp_145.2.1 q_29 t_268.1).2 (ne_of_new hcp_145.1 t_268.1)).1.trans t_268.2⟩
    have t_270 : At S_152 q_29 1634 := tAt_sR eS_152 t_269
    have t_271 : pN S_45 q_29 = 300 := ((hcp_47.2.1 q_29 h_31.1).2 (ne_of_new hcp_47.1 h_31.1)).2.2.2.1.trans h_32
    clear h_32
    have t_272 : pN S_56 q_29 = 300 := tN_sR eS_56 t_271
    clear t_271
    have t_274 : At S_45 q_29 1634 := ⟨(hcp_47.2.1 q_29 h_31.1).1, ((hcp_47.2.1 q_29 h_31.1).2 (ne_of_new hcp_47.1 h_31.1)).1.trans h_31.2⟩
    have t_275 : At S_56 q_29 1634 := tAt_sR eS_56 t_274
    have t_273 : pN S_71 q_29 = 300 := ((hcp_73.2.1 q_29 t_275.1).2 (ne_of_new hcp_73.1 t_275.1)).2.2.2.1.trans t_272
    clear t_272
    have t_276 : pN S_80 q_29 = 300 := tN_sR eS_80 t_273
    clear t_273
    have t_278 : At S_71 q_29 1634 := ⟨(hcp_73.2.1 q_29 t_275.1).1, ((hcp_73.2.1 q_29 t_275.1).2 (ne_of_new hcp_73.1 t_275.1)).1.trans t_275.2⟩
    have t_279 : At S_80 q_29 1634 := tAt_sR eS_80 t_278
    have t_277 : pN S_103 q_29 = 300 := ((hcp_105.2.1 q_29 t_279.1).2 (ne_of_new hcp_105.1 t_279.1)).2.2.2.1.trans t_276
    clear t_276
    have t_280 : pN S_112 q_29 = 300 := tN_sR eS_112 t_277
    clear t_277
    have t_282 : At S_103 q_29 1634 := ⟨(hcp_105.2.1 q_29 t_279.1).1, ((hcp_105.2.1 q_29 t_279.1).2 (ne_of_new hcp_105.1 t_279.1)).1.trans t_279.2⟩
    have t_283 : At S_112 q_29 1634 := tAt_sR eS_112 t_282
    have t_281 : pN S_143 q_29 = 300 := ((hcp_145.2.1 q_29 t_283.1).2 (ne_of_new hcp_145.1 t_283.1)).2.2.2.1.trans t_280
    clear t_280
    have t_284 : pN S_152 q_29 = 300 := tN_sR eS_152 t_281
    clear t_281
    have t_285 : pN S_45 x = (pN S x) := ((hcp_47.2.1 x ha_x.1).2 (ne_of_new hcp_47.1 ha_x.1)).2.2.2.1.trans (rfl : pN S x = pN S x)
    have t_286 : pN S_56 x = (pN S x) := tN_sR eS_56 t_285
    clear t_285
    have t_287 : pN S_71 x = (pN S x) := ((hcp_73.2.1 x t_63.1).2 (ne_of_new hcp_73.1 t_63.1)).2.2.2.1.trans t_286
    clear t_286
    have t_288 : pN S_80 x = (pN S x) := tN_sR eS_80 t_287
    clear t_287
    have t_289 : pN S_103 x = (pN S x) := ((hcp_105.2.1 x t_87.1).2 (ne_of_new hcp_105.1 t_87.1)).2.2.2.1.trans t_288
    clear t_288
    have t_290 : pN S_112 x = (pN S x) := tN_sR eS_112 t_289
    clear t_289
    have t_291 : pN S_143 x = (pN S x) := ((hcp_145.2.1 x t_119.1).2 (ne_of_new hcp_145.1 t_119.1)).2.2.2.1.trans t_290
    clear t_290
    have t_292 : pN S_152 x = (pN S x) := tN_sR eS_152 t_291
    clear t_291
    have hg9 : GX S_152 := GX_ofKq hG ha_x t_185 t_292 hK_155 (mk_29 (by rw [t_224]; omega) ⟨q_25, t_232, t_248, t_262⟩ ⟨q_29, t_240, t_270, t_284⟩ ⟨q_46, q_72, q_104, q_144, (v_42.toInt.toNat), t_164, t_192, t_207, h_158, t_188, t_197, t_210, t_215, t_176, t_205, t_214, t_216, by rw [t_184]; omega, by rw [t_184]; omega, by omega⟩) (fun q hq h0 => (nw_156 q hq).resolve_left h0)
    have t_293 : pN S_45 x = (pN S x) := ((hcp_47.2.1 x ha_x.1).2 (ne_of_new hcp_47.1 ha_x.1)).2.2.2.1.trans (rfl : pN S x = pN S x)
    have t_294 : pN S_56 x = (pN S x) := tN_sR eS_56 t_293
    clear t_293
    have t_295 : pN S_71 x = (pN S x) := ((hcp_73.2.1 x t_63.1).2 (ne_of_new hcp_73.1 t_63.1)).2.2.2.1.trans t_294
    clear t_294
    have t_296 : pN S_80 x = (pN S x) := tN_sR eS_80 t_295
    clear t_295
    have t_297 : pN S_103 x = (pN S x) := ((hcp_105.2.1 x t_87.1).2 (ne_of_new hcp_105.1 t_87.1)).2.2.2.1.trans t_296
    clear t_296
    have t_298 : pN S_112 x = (pN S x) := tN_sR eS_112 t_297
    clear t_297
    have t_299 : pN S_143 x = (pN S x) := ((hcp_145.2.1 x t_119.1).2 (ne_of_new hcp_145.1 t_119.1)).2.2.2.1.trans t_298
    clear t_298
    have t_300 : pN S_152 x = (pN S x) := tN_sR eS_152 t_299
    clear t_299
    have fx_301 : Fx S S x := Fx.rf S x
    have fx_302 : Fx S S_45 x := fx_301.kq hcp_47.2.1 ha_x.1 hcp_47.1
    have fx_303 : Fx S S_56 x := fx_302.sR eS_56 (by decide)
    have fx_304 : Fx S S_71 x := fx_303.kq hcp_73.2.1 t_63.1 hcp_73.1
    have fx_305 : Fx S S_80 x := fx_304.sR eS_80 (by decide)
    have fx_306 : Fx S S_103 x := fx_305.kq hcp_105.2.1 t_87.1 hcp_105.1
    have fx_307 : Fx S S_112 x := fx_306.sR eS_112 (by decide)
    have fx_308 : Fx S S_143 x := fx_307.kq hcp_145.2.1 t_119.1 hcp_145.1
    have fx_309 : Fx S S_152 x := fx_308.sR eS_152 (by decide)
    have hO9 : Og eMR S S_152 := ⟨hg9, Fr_ofKq ha_x t_185 t_300 hK_155 fx_309 (by decide +kernel)⟩
    exact ret_gv X hw hr hlocks (by show 4 ≤ Phc S + 4; omega) (by show ((((0 + (v_42.toInt.toNat)) + (v_42.toInt.toNat)) + (v_42.toInt.toNat)) + (v_42.toInt.toNat)) ≤ Phs S + 14400; omega) (by omega) (by omega) ⟨hO9, (fun q hq => by rw [t_164] at hq; cases hq; rw [t_184, t_176]; omega)⟩ dX9_makeRoomForPiece_76
  · have z_b_310 := trivial
    have k_311 : v_19.toInt < v_33.toInt := z_nle rfl rfl c_35
    have hO9 : Og eMR S S := Og.rf hG
    exact ret_gv X hw hr hlocks (by show 0 ≤ Phc S + 4; omega) (by show 0 ≤ Phs S + 14400; omega) (by omega) (by omega) ⟨hO9, (fun q hq => by rw [h_6] at hq; cases hq; rw [ev_19, h_14]; omega)⟩ dX9_makeRoomForPiece_12
set_option maxHeartbeats 4000000 in
set_option maxRecDepth 100000 in
theorem k_X9_addMetreOf (l : Launch) (G : va_G) (cy : Nat → ClassId) (κ : Nat → Nat) (S : PS) (sz hz : Nat) (x : Nat) (c1 : Nat) (a1 : Int32) (a1_z : Int) (hG : GX S) (ha_x : At S x 29) (ha_c1 : At S c1 0) (hz_a1 : a1.toInt = a1_z) : Gv l yX9_addMetreOf wsX9_addMetreOf ({ frames := 4, cells := Phc S + 4, slots := Phs S + 14400, locals := 192 }) G cy κ S sz hz 0 0 [.ref x, .ref c1, .int (a1)] (fun (S9 : PS) => Og eMO S S9 ∧ (True)) := by
  refine ent_g (cc := cX9_addMetreOf) (maxL := 4) (ret := none) (by decide) rfl (Nat.le_of_ble_eq_true rfl) ?_
  intro p e s m below meth c ls X hr hlocks hin hw hl hsz hhz
  subst hsz hhz
  have X : Cx p c cX9_addMetreOf 4 s [.ref x, .ref c1, .int (a1)].toArray wsX9_addMetreOf RX9 m G cy κ (AS S s.heap.size) := X
  have hl : lv_has ls 4 [(0, .ref x), (1, .ref c1), (2, .int (a1))] := hl
  have rg_a1 : (-2147483648) ≤ a1_z ∧ a1_z ≤ 2147483647 := by rw [← hz_a1]; exact ⟨z_lo _, z_hi _⟩
  have hpc0 : 0 + Phc S ≤ Phc S + 0 := by omega
  have hps0 : 0 + Phs S ≤ Phs S + 0 := by omega
  have hO : Og eMO S S := Og.rf hG
  generalize hQQ : MQ below _ _ _ _ _ _ = QQ
  replace hQQ := hQQ.symm
  refine lv_aload_n X.1 X.2.1 dX9_addMetreOf_0 rfl (lv_at hl 1 rfl) ?_
  obtain ⟨v_1, ev_1⟩ : ∃ v, pI S 6 c1 = v := ⟨_, rfl⟩
  have rg_3 := And.intro (z_lo v_1) (z_hi v_1)
  have pz_4 : (pI S 6 c1).toInt = v_1.toInt := by rw [ev_1]
  refine r_getI (g := 6) (x := v_1) X hw ha_c1 rfl 6 ev_1 (by decide) rfl inn_X9_addMetreOf_0 (by decide) (X.2.2.2.1 (.fieldLink RX9 52 "SilkMill$Cocoon" "latestPiece" "I") (by decide +kernel)) rfl (gv_6 _ _) dX9_addMetreOf_1 ?_
  refine lv_istore_n (lv' := [(3, .int (v_1)), (0, .ref x), (1, .ref c1), (2, .int (a1))]) X.1 X.2.1 dX9_addMetreOf_4 rfl hl (by decide) rfl (fun ls hl => ?_)
  have L_5 : ∀ (H : Heap) (locs : List Loc) (ls : Array Slot)  (cc_6 nn_7 : Nat), (Wd G cy (AS S s.heap.size) s.heap S H locs) → (cc_6 + Phc S ≤ Phc S + 0) → (nn_7 + Phs S ≤ Phs S + 0) → (lv_has ls 4 [(3, .int (v_1)), (0, .ref x), (1, .ref c1), (2, .int (a1))]) → W p l e ({ frames := 4, cells := Phc S + 4, slots := Phs S + 14400, locals := 192 }) s m [.ref x, .ref c1, .int (a1)].toArray below meth c H locs cc_6 nn_7 QQ (F0 m 58 ls []) := by
    intro H locs ls  cc_6 nn_7 hw hcc_8 hnn_9 hl
    refine lv_aload_n X.1 X.2.1 dX9_addMetreOf_58 rfl (lv_at hl 1 rfl) ?_
    obtain ⟨v_10, ev_10⟩ : ∃ v, pI S 904 x = v := ⟨_, rfl⟩
    obtain ⟨q_12, q_13, q_14, q_15, n_16, h_17, h_18, h_19, h_20, h_21, h_22, h_23, h_24, h_25, h_26, h_27, h_28, h_29⟩ := gGrwQ hO.1 ha_x
    have rg_11 := gGrw_904 hO.1 ha_x h_17 h_25; rw [ev_10] at rg_11
    have pz_30 : (pI S 904 x).toInt = v_10.toInt := by rw [ev_10]
    refine r_getI (g := 904) (x := v_10) X hw ha_x rfl 4 ev_10 (by decide) rfl inn_X9_addMetreOf_9 (by decide) (X.2.2.2.1 (.fieldLink RX9 43 "SilkMill$Strand" "pieces" "I") (by decide +kernel)) rfl (gv_904 _ _) dX9_addMetreOf_59 ?_
    refine lv_sipush (v := 3600) X.1 X.2.1 dX9_addMetreOf_62 (by decide) ?_
    refine lv_icmp_lt (tgt := 69) X.1 X.2.1 dX9_addMetreOf_65 (by decide) (fun c_31 => ?_) (fun c_31 => ?_)
    · have z_b_32 := trivial
      have k_33 : v_10.toInt < 3600 := z_lt rfl ti_3600 c_31
      refine lv_aload_n X.1 X.2.1 dX9_addMetreOf_69 rfl (lv_at hl 1 rfl) ?_
      refine k_gv (kc := 0) (ks := 0) (rm := { frames := 3, cells := Phc S + 4, slots := Phs S + 14400, locals := 144 }) (av := [.ref x]) X hw (va_runV (As := []) (rest := []) (cfix X) (k_X9_makeRoomForPiece l G cy κ S _ _ x hO.1 ha_x (by omega)) (cwV 0 X.2.2.2.1 gX9_addMetreOf_X9_makeRoomForPiece rfl rfl rfl (by decide +kernel) ⟨Nat.le_of_ble_eq_true rfl, Nat.le_of_ble_eq_true rfl⟩) (pre_gV X hw _ ha_x rfl (by decide) rfl) rfl rfl hl.1 rfl (lv_room (Nat.le_of_ble_eq_true rfl)) dX9_addMetreOf_70 ⟨(by show cc_6 + (Phc S + 4) ≤ Phc S + 4; omega), (by show nn_7 + (Phs S + 14400) ≤ Phs S + 14400; omega)⟩) (fun S_35 H locs c_36 n_37 hc_36 hn_37 hp hw => ?_)
      obtain ⟨hk_38, hp⟩ := hp
      have ph_39 : c_36 + Phc S_35 ≤ Phc S + 0 := by omega
      have ph_40 : n_37 + Phs S_35 ≤ Phs S + 0 := by omega
      clear hcc_8
      clear hnn_9
      clear hc_36
      clear hn_37
      have hO_41 : Og eMO S S_35 := hO.call hk_38 (by decide +kernel)
      have t_61 : At S_35 x 29 := hk_38.fr.at ha_x
      obtain ⟨q_43, q_44, q_45, q_46, n_47, h_48, h_49, h_50, h_51, h_52, h_53, h_54, h_55, h_56, h_57, h_58, h_59, h_60⟩ := gGrwQ hO_41.1 t_61
      have t_62 : pI S_35 904 x = v_10 := hk_38.fr.I' (by decide +kernel) ha_x ev_10
      have f_63 := hp _ h_48; rw [t_62, h_56] at f_63
      refine lv_aload_n X.1 X.2.1 dX9_addMetreOf_73 rfl (lv_at hl 1 rfl) ?_
      refine r_getR (g := 905) X hw t_61 rfl 5 h_48 (by decide) rfl inn_X9_addMetreOf_9 (by decide) (X.2.2.2.1 (.fieldLink RX9 18 "SilkMill$Strand" "codes" "[I") (by decide +kernel)) rfl (gv_905 _ _) dX9_addMetreOf_74 ?_
      refine lv_aload_n X.1 X.2.1 dX9_addMetreOf_77 rfl (lv_at hl 1 rfl) ?_
      refine r_getI (g := 904) (x := v_10) X hw t_61 rfl 4 t_62 (by decide) rfl inn_X9_addMetreOf_9 (by decide) (X.2.2.2.1 (.fieldLink RX9 43 "SilkMill$Strand" "pieces" "I") (by decide +kernel)) rfl (gv_904 _ _) dX9_addMetreOf_78 ?_
      refine lv_aload_n X.1 X.2.1 dX9_addMetreOf_81 rfl (lv_at hl 2 rfl) ?_
      have t_64 : At S_35 c1 0 := hk_38.fr.at ha_c1
      refine k_i (rm := { frames := 1, cells := 0, slots := 0, locals := 48 }) (av := [.ref c1]) X hw (va_runV (As := []) (rest := [.int (v_10), .ref q_43]) (cfix X) (k_X0_code l G cy κ S_35 _ c1 hO_41.1 t_64) (cwV 0 X.2.2.2.1 gX9_addMetreOf_X0_code rfl rfl rfl (by decide +kernel) ⟨Nat.le_of_ble_eq_true rfl, Nat.le_of_ble_eq_true rfl⟩) (pre_V X hw _ t_64 rfl (by decide) rfl) rfl rfl hl.1 rfl (lv_room (Nat.le_of_ble_eq_true rfl)) dX9_addMetreOf_82 ⟨(by show c_36 + 0 ≤ Phc S + 4; omega), (by show n_37 + 0 ≤ Phs S + 14400; omega)⟩) c_36 n_37 (by show c_36 + 0 ≤ c_36; omega) (by show n_37 + 0 ≤ n_37; omega) (fun rr_65 S_66 H locs hp hw hfr hnw => ?_)
      obtain ⟨e2, hp⟩ := hp
      subst e2
      have rg_67 := And.intro (z_lo rr_65) (z_hi rr_65)
      refine r_iast X hw h_52 rfl (by rw [h_56]; exact z_ix rfl (by omega) (by omega)) dX9_addMetreOf_85 (fun H locs hw => ?_)
      obtain ⟨S_68, eS_68⟩ : ∃ T, T = sA S_35 q_43 (upd (pA S_35 q_43) (Int32.toNatClampNeg (v_10)) (rr_65)) := ⟨_, rfl⟩
      rw [← eS_68] at hw
      have ph_69 : c_36 + Phc S_68 ≤ Phc S + 0 := by rw [show Phc S_68 = Phc S_35 from Ph_sA eS_68]; exact ph_39
      have ph_70 : n_37 + Phs S_68 ≤ Phs S + 0 := by rw [show Phs S_68 = Phs S_35 from Ph_sA eS_68]; exact ph_40
      clear ph_39
      clear ph_40
      have hO_71 : Og eMO S S_68 := hO_41.sA eS_68 h_52 (by decide +kernel) (uA_14 hO_41.1 h_52)
      have h_72 : pA S_68 q_43 (Int32.toNatClampNeg (v_10)) = rr_65 := tA_sAs eS_68
      refine lv_aload_n X.1 X.2.1 dX9_addMetreOf_86 rfl (lv_at hl 1 rfl) ?_
      have t_73 : At S_68 x 29 := tAt_sA eS_68 t_61
      have t_74 : pR S_68 906 x = some q_44 := tR_sA eS_68 h_49
      refine r_getR (g := 906) X hw t_73 rfl 6 t_74 (by decide) rfl inn_X9_addMetreOf_9 (by decide) (X.2.2.2.1 (.fieldLink RX9 21 "SilkMill$Strand" "firsts" "[I") (by decide +kernel)) rfl (gv_906 _ _) dX9_addMetreOf_87 ?_
      refine lv_aload_n X.1 X.2.1 dX9_addMetreOf_90 rfl (lv_at hl 1 rfl) ?_
      have t_75 : pI S_68 904 x = v_10 := tI_sA eS_68 t_62
      refine r_getI (g := 904) (x := v_10) X hw t_73 rfl 4 t_75 (by decide) rfl inn_X9_addMetreOf_9 (by decide) (X.2.2.2.1 (.fieldLink RX9 43 "SilkMill$Strand" "pieces" "I") (by decide +kernel)) rfl (gv_904 _ _) dX9_addMetreOf_91 ?_
      refine lv_iload_n X.1 X.2.1 dX9_addMetreOf_94 rfl (lv_at hl 3 rfl) ?_
      have t_76 : At S_68 q_44 14 := tAt_sA eS_68 h_53
      have t_77 : pN S_68 q_44 = n_47 := tN_sA eS_68 h_57
      clear h_57
      refine r_iast X hw t_76 rfl (by rw [t_77]; exact z_ix rfl (by omega) (by omega)) dX9_addMetreOf_95 (fun H locs hw => ?_)
      obtain ⟨S_78, eS_78⟩ : ∃ T, T = sA S_68 q_44 (upd (pA S_68 q_44) (Int32.toNatClampNeg (v_10)) (a1)) := ⟨_, rfl⟩
      rw [← eS_78] at hw
      have ph_79 : c_36 + Phc S_78 ≤ Phc S + 0 := by rw [show Phc S_78 = Phc S_68 from Ph_sA eS_78]; exact ph_69
      have ph_80 : n_37 + Phs S_78 ≤ Phs S + 0 := by rw [show Phs S_78 = Phs S_68 from Ph_sA eS_78]; exact ph_70
      clear ph_69
      clear ph_70
      have hO_81 : Og eMO S S_78 := hO_71.sA eS_78 t_76 (by decide +kernel) (uA_14 hO_71.1 t_76)
      have h_82 : pA S_78 q_44 (Int32.toNatClampNeg (v_10)) = a1 := tA_sAs eS_78
      refine lv_aload_n X.1 X.2.1 dX9_addMetreOf_96 rfl (lv_at hl 1 rfl) ?_
      have t_83 : At S_78 x 29 := tAt_sA eS_78 t_73
      have t_84 : pR S_68 907 x = some q_45 := tR_sA eS_68 h_50
      have t_85 : pR S_78 907 x = some q_45 := tR_sA eS_78 t_84
      refine r_getR (g := 907) X hw t_83 rfl 7 t_85 (by decide) rfl inn_X9_addMetreOf_9 (by decide) (X.2.2.2.1 (.fieldLink RX9 24 "SilkMill$Strand" "lengths" "[I") (by decide +kernel)) rfl (gv_907 _ _) dX9_addMetreOf_97 ?_
      refine lv_aload_n X.1 X.2.1 dX9_addMetreOf_100 rfl (lv_at hl 1 rfl) ?_
      have t_86 : pI S_78 904 x = v_10 := tI_sA eS_78 t_75
      refine r_getI (g := 904) (x := v_10) X hw t_83 rfl 4 t_86 (by decide) rfl inn_X9_addMetreOf_9 (by decide) (X.2.2.2.1 (.fieldLink RX9 43 "SilkMill$Strand" "pieces" "I") (by decide +kernel)) rfl (gv_904 _ _) dX9_addMetreOf_101 ?_
      refine lv_iconst (v := 1) X.1 X.2.1 dX9_addMetreOf_104 (by decide) ?_
      have t_87 : At S_68 q_45 14 := tAt_sA eS_68 h_54
      have t_88 : At S_78 q_45 14 := tAt_sA eS_78 t_87
      have t_89 : pN S_68 q_45 = n_47 := tN_sA eS_68 h_58
      clear h_58
      have t_90 : pN S_78 q_45 = n_47 := tN_sA eS_78 t_89
      clear t_89
      refine r_iast X hw t_88 rfl (by rw [t_90]; exact z_ix rfl (by omega) (by omega)) dX9_addMetreOf_105 (fun H locs hw => ?_)
      obtain ⟨S_91, eS_91⟩ : ∃ T, T = sA S_78 q_45 (upd (pA S_78 q_45) (Int32.toNatClampNeg (v_10)) (1)) := ⟨_, rfl⟩
      rw [← eS_91] at hw
      have ph_92 : c_36 + Phc S_91 ≤ Phc S + 0 := by rw [show Phc S_91 = Phc S_78 from Ph_sA eS_91]; exact ph_79
      have ph_93 : n_37 + Phs S_91 ≤ Phs S + 0 := by rw [show Phs S_91 = Phs S_78 from Ph_sA eS_91]; exact ph_80
      clear ph_79
      clear ph_80
      have hO_94 : Og eMO S S_91 := hO_81.sA eS_91 t_88 (by decide +kernel) (uA_14 hO_81.1 t_88)
      have h_95 : pA S_91 q_45 (Int32.toNatClampNeg (v_10)) = 1 := tA_sAs eS_91
      refine lv_aload_n X.1 X.2.1 dX9_addMetreOf_106 rfl (lv_at hl 1 rfl) ?_
      have t_96 : At S_91 x 29 := tAt_sA eS_91 t_83
      have t_97 : pR S_68 908 x = some q_46 := tR_sA eS_68 h_51
      have t_98 : pR S_78 908 x = some q_46 := tR_sA eS_78 t_97
      have t_99 : pR S_91 908 x = some q_46 := tR_sA eS_91 t_98
      refine r_getR (g := 908) X hw t_96 rfl 8 t_99 (by decide) rfl inn_X9_addMetreOf_9 (by decide) (X.2.2.2.1 (.fieldLink RX9 27 "SilkMill$Strand" "places" "[I") (by decide +kernel)) rfl (gv_908 _ _) dX9_addMetreOf_107 ?_
      refine lv_aload_n X.1 X.2.1 dX9_addMetreOf_110 rfl (lv_at hl 1 rfl) ?_
      have t_100 : pI S_91 904 x = v_10 := tI_sA eS_91 t_86
      refine r_getI (g := 904) (x := v_10) X hw t_96 rfl 4 t_100 (by decide) rfl inn_X9_addMetreOf_9 (by decide) (X.2.2.2.1 (.fieldLink RX9 43 "SilkMill$Strand" "pieces" "I") (by decide +kernel)) rfl (gv_904 _ _) dX9_addMetreOf_111 ?_
      refine lv_aload_n X.1 X.2.1 dX9_addMetreOf_114 rfl (lv_at hl 2 rfl) ?_
      have t_101 : At S_68 c1 0 := tAt_sA eS_68 t_64
      have t_102 : At S_78 c1 0 := tAt_sA eS_78 t_101
      have t_103 : At S_91 c1 0 := tAt_sA eS_91 t_102
      obtain ⟨v_104, ev_104⟩ : ∃ v, pI S_91 4 c1 = v := ⟨_, rfl⟩
      have rg_106 := And.intro (z_lo v_104) (z_hi v_104)
      have pz_107 : (pI S_91 4 c1).toInt = v_104.toInt := by rw [ev_104]
      refine r_getI (g := 4) (x := v_104) X hw t_103 rfl 4 ev_104 (by decide) rfl inn_X9_addMetreOf_0 (by decide) (X.2.2.2.1 (.fieldLink RX9 64 "SilkMill$Cocoon" "drawnTo" "I") (by decide +kernel)) rfl (gv_4 _ _) dX9_addMetreOf_115 ?_
      have t_108 : At S_68 q_46 14 := tAt_sA eS_68 h_55
      have t_109 : At S_78 q_46 14 := tAt_sA eS_78 t_108
      have t_110 : At S_91 q_46 14 := tAt_sA eS_91 t_109
      have t_111 : pN S_68 q_46 = n_47 := tN_sA eS_68 h_59
      clear h_59
      have t_112 : pN S_78 q_46 = n_47 := tN_sA eS_78 t_111
      clear t_111
      have t_113 : pN S_91 q_46 = n_47 := tN_sA eS_91 t_112
      clear t_112
      refine r_iast X hw t_110 rfl (by rw [t_113]; exact z_ix rfl (by omega) (by omega)) dX9_addMetreOf_118 (fun H locs hw => ?_)
      obtain ⟨S_114, eS_114⟩ : ∃ T, T = sA S_91 q_46 (upd (pA S_91 q_46) (Int32.toNatClampNeg (v_10)) (v_104)) := ⟨_, rfl⟩
      rw [← eS_114] at hw
      have ph_115 : c_36 + Phc S_114 ≤ Phc S + 0 := by rw [show Phc S_114 = Phc S_91 from Ph_sA eS_114]; exact ph_92
      have ph_116 : n_37 + Phs S_114 ≤ Phs S + 0 := by rw [show Phs S_114 = Phs S_91 from Ph_sA eS_114]; exact ph_93
      clear ph_92
      clear ph_93
      have hO_117 : Og eMO S S_114 := hO_94.sA eS_114 t_110 (by decide +kernel) (uA_14 hO_94.1 t_110)
      have h_118 : pA S_114 q_46 (Int32.toNatClampNeg (v_10)) = v_104 := tA_sAs eS_114
      refine lv_aload_n X.1 X.2.1 dX9_addMetreOf_119 rfl (lv_at hl 2 rfl) ?_
      refine lv_aload_n X.1 X.2.1 dX9_addMetreOf_120 rfl (lv_at hl 1 rfl) ?_
      have t_119 : At S_114 x 29 := tAt_sA eS_114 t_96
      have t_120 : pI S_114 904 x = v_10 := tI_sA eS_114 t_100
      refine r_getI (g := 904) (x := v_10) X hw t_119 rfl 4 t_120 (by decide) rfl inn_X9_addMetreOf_9 (by decide) (X.2.2.2.1 (.fieldLink RX9 43 "SilkMill$Strand" "pieces" "I") (by decide +kernel)) rfl (gv_904 _ _) dX9_addMetreOf_121 ?_
      have t_121 : At S_114 c1 0 := tAt_sA eS_114 t_103
      refine r_putI (v := v_10) X hw t_121 rfl 6 6 tyX0 (by decide) rfl inn_X9_addMetreOf_0 tyX0_ok nmX0 (by decide) (X.2.2.2.1 (.fieldLink RX9 52 "SilkMill$Cocoon" "latestPiece" "I") (by decide +kernel)) rfl (Or.inl rfl) rfl rfl (Nat.le_of_ble_eq_true rfl) (st_6 _ _) dX9_addMetreOf_124 (fun H locs hw => ?_)
      obtain ⟨S_122, eS_122⟩ : ∃ T, T = sI S_114 6 c1 (v_10) := ⟨_, rfl⟩
      rw [← eS_122] at hw
      have ph_123 : c_36 + Phc S_122 ≤ Phc S + 0 := by rw [show Phc S_122 = Phc S_114 from Ph_sI eS_122 rfl rfl]; exact ph_115
      have ph_124 : n_37 + Phs S_122 ≤ Phs S + 0 := by rw [show Phs S_122 = Phs S_114 from Ph_sI eS_122 rfl rfl]; exact ph_116
      clear ph_115
      clear ph_116
      have hO_125 : Og eMO S S_122 := hO_117.sI eS_122 (by decide +kernel) (uI_0_6 hO_117.1 t_121)
      have h_126 : pI S_122 6 c1 = v_10 := tI_sIs eS_122
      refine lv_aload_n X.1 X.2.1 dX9_addMetreOf_127 rfl (lv_at hl 1 rfl) ?_
      refine lv_dup X.1 X.2.1 dX9_addMetreOf_128 rfl ?_
      have t_127 : At S_122 x 29 := tAt_sI eS_122 t_119
      have t_128 : pI S_122 904 x = v_10 := tI_sI eS_122 rfl t_120
      refine r_getI (g := 904) (x := v_10) X hw t_127 rfl 4 t_128 (by decide) rfl inn_X9_addMetreOf_9 (by decide) (X.2.2.2.1 (.fieldLink RX9 43 "SilkMill$Strand" "pieces" "I") (by decide +kernel)) rfl (gv_904 _ _) dX9_addMetreOf_129 ?_
      refine lv_iconst (v := 1) X.1 X.2.1 dX9_addMetreOf_132 (by decide) ?_
      refine lv_iadd X.1 X.2.1 dX9_addMetreOf_133 ?_
      refine lv_topi (fun v_129 ev_129 => ?_)
      have z_130 : v_129.toInt = v_10.toInt + 1 := z_add ev_129 rfl ti_1 (by omega) (by omega)
      have t_131 : pR S_68 905 x = some q_43 := tR_sA eS_68 h_48
      have t_132 : pR S_78 905 x = some q_43 := tR_sA eS_78 t_131
      have t_133 : pR S_91 905 x = some q_43 := tR_sA eS_91 t_132
      have t_134 : pR S_114 905 x = some q_43 := tR_sA eS_114 t_133
      have t_135 : pR S_122 905 x = some q_43 := tR_sI eS_122 t_134
      have t_136 : pN S_68 q_43 = n_47 := tN_sA eS_68 h_56
      clear h_56
      have t_137 : pN S_78 q_43 = n_47 := tN_sA eS_78 t_136
      clear t_136
      have t_138 : pN S_91 q_43 = n_47 := tN_sA eS_91 t_137
      clear t_137
      have t_139 : pN S_114 q_43 = n_47 := tN_sA eS_114 t_138
      clear t_138
      have t_140 : pN S_122 q_43 = n_47 := tN_sI eS_122 t_139
      clear t_139
      refine r_putI (v := v_129) X hw t_127 rfl 4 904 tyX9 (by decide) rfl inn_X9_addMetreOf_9 tyX9_ok nmX9 (by decide) (X.2.2.2.1 (.fieldLink RX9 43 "SilkMill$Strand" "pieces" "I") (by decide +kernel)) rfl (Or.inl rfl) rfl rfl (Nat.le_of_ble_eq_true rfl) (st_904 _ _) dX9_addMetreOf_134 (fun H locs hw => ?_)
      obtain ⟨S_141, eS_141⟩ : ∃ T, T = sI S_122 904 x (v_129) := ⟨_, rfl⟩
      rw [← eS_141] at hw
      have ph_142 : c_36 + Phc S_141 ≤ Phc S + 0 := by rw [show Phc S_141 = Phc S_122 from Ph_sI eS_141 rfl rfl]; exact ph_123
      have ph_143 : n_37 + Phs S_141 ≤ Phs S + 0 := by rw [show Phs S_141 = Phs S_122 from Ph_sI eS_141 rfl rfl]; exact ph_124
      clear ph_123
      clear ph_124
      have hO_144 : Og eMO S S_141 := hO_125.sI eS_141 (by decide +kernel) (uI_29_904 hO_125.1 t_127 t_135 t_140 (by omega) (by omega))
      have h_145 : pI S_141 904 x = v_129 := tI_sIs eS_141
      rw [hQQ]
      exact ret_gv X hw hr hlocks (by show c_36 ≤ Phc S + 4; omega) (by show n_37 ≤ Phs S + 14400; omega) (by omega) (by omega) ⟨hO_144, trivial⟩ dX9_addMetreOf_137
    · have z_b_146 := trivial
      have k_147 : v_10.toInt ≥ 3600 := z_nlt rfl ti_3600 c_31
      rw [hQQ]
      exact ret_gv X hw hr hlocks (by show cc_6 ≤ Phc S + 4; omega) (by show nn_7 ≤ Phs S + 14400; omega) (by omega) (by omega) ⟨hO, trivial⟩ dX9_addMetreOf_68
  refine lv_iload_n X.1 X.2.1 dX9_addMetreOf_5 rfl (lv_at hl 0 rfl) ?_
  refine lv_if_lt (tgt := 58) X.1 X.2.1 dX9_addMetreOf_6 (by decide) (fun c_148 => ?_) (fun c_148 => ?_)
  · have z_b_149 := trivial
    have k_150 : v_1.toInt < 0 := z_lt rfl ti_0 c_148
    exact L_5 _ _ _ (0) (0) hw (by omega) (by omega) (lv_sub hl [0, 1, 2, 3] rfl)
  · have z_b_151 := trivial
    have k_152 : v_1.toInt ≥ 0 := z_nlt rfl ti_0 c_148
    refine lv_iload_n X.1 X.2.1 dX9_addMetreOf_9 rfl (lv_at hl 0 rfl) ?_
    refine lv_aload_n X.1 X.2.1 dX9_addMetreOf_10 rfl (lv_at hl 1 rfl) ?_
    obtain ⟨v_153, ev_153⟩ : ∃ v, pI S 904 x = v := ⟨_, rfl⟩
    obtain ⟨q_155, q_156, q_157, q_158, n_159, h_160, h_161, h_162, h_163, h_164, h_165, h_166, h_167, h_168, h_169, h_170, h_171, h_172⟩ := gGrwQ hO.1 ha_x
    have rg_154 := gGrw_904 hO.1 ha_x h_160 h_168; rw [ev_153] at rg_154
    have pz_173 : (pI S 904 x).toInt = v_153.toInt := by rw [ev_153]
    refine r_getI (g := 904) (x := v_153) X hw ha_x rfl 4 ev_153 (by decide) rfl inn_X9_addMetreOf_9 (by decide) (X.2.2.2.1 (.fieldLink RX9 43 "SilkMill$Strand" "pieces" "I") (by decide +kernel)) rfl (gv_904 _ _) dX9_addMetreOf_11 ?_
    refine lv_icmp_ge (tgt := 58) X.1 X.2.1 dX9_addMetreOf_14 (by decide) (fun c_174 => ?_) (fun c_174 => ?_)
    · have z_b_175 := trivial
      have k_176 : v_1.toInt ≥ v_153.toInt := z_le rfl rfl c_174
      exact L_5 _ _ _ (0) (0) hw (by omega) (by omega) (lv_sub hl [0, 1, 2, 3] rfl)
    · have z_b_177 := trivial
      have k_178 : v_1.toInt < v_153.toInt := z_nle rfl rfl c_174
      refine lv_aload_n X.1 X.2.1 dX9_addMetreOf_17 rfl (lv_at hl 1 rfl) ?_
      refine r_getR (g := 905) X hw ha_x rfl 5 h_160 (by decide) rfl inn_X9_addMetreOf_9 (by decide) (X.2.2.2.1 (.fieldLink RX9 18 "SilkMill$Strand" "codes" "[I") (by decide +kernel)) rfl (gv_905 _ _) dX9_addMetreOf_18 ?_
      refine lv_iload_n X.1 X.2.1 dX9_addMetreOf_21 rfl (lv_at hl 0 rfl) ?_
      refine r_iald X hw h_164 rfl (by rw [h_168]; exact z_ix rfl (by omega) (by omega)) dX9_addMetreOf_22 ?_
      refine lv_topi (fun v_179 ev_179 => ?_)
      have rg_180 := And.intro (z_lo v_179) (z_hi v_179)
      have ev_179 := ev_179.symm
      refine lv_aload_n X.1 X.2.1 dX9_addMetreOf_23 rfl (lv_at hl 2 rfl) ?_
      refine k_i (rm := { frames := 1, cells := 0, slots := 0, locals := 48 }) (av := [.ref c1]) X hw (va_runV (As := []) (rest := [.int (v_179)]) (cfix X) (k_X0_code l G cy κ S _ c1 hO.1 ha_c1) (cwV 0 X.2.2.2.1 gX9_addMetreOf_X0_code rfl rfl rfl (by decide +kernel) ⟨Nat.le_of_ble_eq_true rfl, Nat.le_of_ble_eq_true rfl⟩) (pre_V X hw _ ha_c1 rfl (by decide) rfl) rfl rfl hl.1 rfl (lv_room (Nat.le_of_ble_eq_true rfl)) dX9_addMetreOf_24 ⟨(by show 0 + 0 ≤ Phc S + 4; omega), (by show 0 + 0 ≤ Phs S + 14400; omega)⟩) 0 0 (by show 0 + 0 ≤ 0; omega) (by show 0 + 0 ≤ 0; omega) (fun rr_181 S_182 H locs hp hw hfr hnw => ?_)
      obtain ⟨e2, hp⟩ := hp
      subst e2
      have rg_183 := And.intro (z_lo rr_181) (z_hi rr_181)
      refine lv_icmp_ne (tgt := 58) X.1 X.2.1 dX9_addMetreOf_27 (by decide) (fun c_184 => ?_) (fun c_184 => ?_)
      · have z_b_185 := trivial
        have k_186 : v_179.toInt ≠ rr_181.toInt := z_ne rfl rfl c_184
        exact L_5 _ _ _ (0) (0) hw (by omega) (by omega) (lv_sub hl [0, 1, 2, 3] rfl)
      · have z_b_187 := trivial
        have k_188 : v_179.toInt = rr_181.toInt := z_eq rfl rfl c_184
        refine lv_aload_n X.1 X.2.1 dX9_addMetreOf_30 rfl (lv_at hl 1 rfl) ?_
        refine r_getR (g := 906) X hw ha_x rfl 6 h_161 (by decide) rfl inn_X9_addMetreOf_9 (by decide) (X.2.2.2.1 (.fieldLink RX9 21 "SilkMill$Strand" "firsts" "[I") (by decide +kernel)) rfl (gv_906 _ _) dX9_addMetreOf_31 ?_
        refine lv_iload_n X.1 X.2.1 dX9_addMetreOf_34 rfl (lv_at hl 0 rfl) ?_
        refine r_iald X hw h_165 rfl (by rw [h_169]; exact z_ix rfl (by omega) (by omega)) dX9_addMetreOf_35 ?_
        refine lv_topi (fun v_189 ev_189 => ?_)
        have rg_190 := And.intro (z_lo v_189) (z_hi v_189)
        have ev_189 := ev_189.symm
        refine lv_aload_n X.1 X.2.1 dX9_addMetreOf_36 rfl (lv_at hl 1 rfl) ?_
        refine r_getR (g := 907) X hw ha_x rfl 7 h_162 (by decide) rfl inn_X9_addMetreOf_9 (by decide) (X.2.2.2.1 (.fieldLink RX9 24 "SilkMill$Strand" "lengths" "[I") (by decide +kernel)) rfl (gv_907 _ _) dX9_addMetreOf_37 ?_
        refine lv_iload_n X.1 X.2.1 dX9_addMetreOf_40 rfl (lv_at hl 0 rfl) ?_
        refine r_iald X hw h_166 rfl (by rw [h_170]; exact z_ix rfl (by omega) (by omega)) dX9_addMetreOf_41 ?_
        refine lv_topi (fun v_191 ev_191 => ?_)
        have rg_192 := And.intro (z_lo v_191) (z_hi v_191)
        have ev_191 := ev_191.symm
        refine lv_iadd X.1 X.2.1 dX9_addMetreOf_42 ?_
        refine lv_topi (fun v_193 ev_193 => ?_)
        have rg_194 := And.intro (z_lo v_193) (z_hi v_193)
        refine lv_iload_n X.1 X.2.1 dX9_addMetreOf_43 rfl (lv_at hl 3 rfl) ?_
        refine lv_icmp_ne (tgt := 58) X.1 X.2.1 dX9_addMetreOf_44 (by decide) (fun c_195 => ?_) (fun c_195 => ?_)
        · have z_b_196 := trivial
          have k_197 : v_193.toInt ≠ a1_z := z_ne rfl hz_a1 c_195
          exact L_5 _ _ _ (0) (0) hw (by omega) (by omega) (lv_sub hl [0, 1, 2, 3] rfl)
        · have z_b_198 := trivial
          have k_199 : v_193.toInt = a1_z := z_eq rfl hz_a1 c_195
          refine lv_aload_n X.1 X.2.1 dX9_addMetreOf_47 rfl (lv_at hl 1 rfl) ?_
          refine r_getR (g := 907) X hw ha_x rfl 7 h_162 (by decide) rfl inn_X9_addMetreOf_9 (by decide) (X.2.2.2.1 (.fieldLink RX9 24 "SilkMill$Strand" "lengths" "[I") (by decide +kernel)) rfl (gv_907 _ _) dX9_addMetreOf_48 ?_
          refine lv_iload_n X.1 X.2.1 dX9_addMetreOf_51 rfl (lv_at hl 0 rfl) ?_
          refine lv_dup2_11 X.1 X.2.1 dX9_addMetreOf_52 rfl rfl ?_
          refine r_iald X hw h_166 rfl (by rw [h_170]; exact z_ix rfl (by omega) (by omega)) dX9_addMetreOf_53 ?_
          rw [ev_191]
          refine lv_iconst (v := 1) X.1 X.2.1 dX9_addMetreOf_54 (by decide) ?_
          refine lv_iadd X.1 X.2.1 dX9_addMetreOf_55 ?_
          refine lv_topi (fun v_200 ev_200 => ?_)
          have rg_201 := And.intro (z_lo v_200) (z_hi v_200)
          refine r_iast X hw h_166 rfl (by rw [h_170]; exact z_ix rfl (by omega) (by omega)) dX9_addMetreOf_56 (fun H locs hw => ?_)
          obtain ⟨S_202, eS_202⟩ : ∃ T, T = sA S q_157 (upd (pA S q_157) (Int32.toNatClampNeg (v_1)) (v_200)) := ⟨_, rfl⟩
          rw [← eS_202] at hw
          have ph_203 : 0 + Phc S_202 ≤ Phc S + 0 := by rw [show Phc S_202 = Phc S from Ph_sA eS_202]; exact hpc0
          have ph_204 : 0 + Phs S_202 ≤ Phs S + 0 := by rw [show Phs S_202 = Phs S from Ph_sA eS_202]; exact hps0
          clear hpc0
          clear hps0
          have hO_205 : Og eMO S S_202 := hO.sA eS_202 h_166 (by decide +kernel) (uA_14 hO.1 h_166)
          have h_206 : pA S_202 q_157 (Int32.toNatClampNeg (v_1)) = v_200 := tA_sAs eS_202
          rw [hQQ]
          exact ret_gv X hw hr hlocks (by show 0 ≤ Phc S + 4; omega) (by show 0 ≤ Phs S + 14400; omega) (by omega) (by omega) ⟨hO_205, trivial⟩ dX9_addMetreOf_57
