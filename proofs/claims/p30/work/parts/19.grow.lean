set_option maxRecDepth 20000 in
theorem ggX4_tick_X4_searchLost : GoodIn wsX4_tick wsX4_searchLost := goodIn_r _ [9, 10, 4, 11, 12, 13, 14, 15, 8, 16, 17, 18, 19, 20, 21, 22, 23, 24, 25, 26, 27, 28, 29, 30, 31, 32, 33, 34, 253, 254, 255, 256, 257, 258, 259, 260, 261, 262, 263, 264, 265, 266, 267, 268, 269, 270, 271, 272, 273, 274, 275, 276, 277] (by decide +kernel) (by decide +kernel)
set_option maxRecDepth 20000 in
theorem gX4_tick_X4_searchLost : GoodIn wsX4_tick (wsV RX4 63 RX4 yX4_searchLost wsX4_searchLost) := goodIn_app (goodIn_of _ (by decide +kernel)) ggX4_tick_X4_searchLost
set_option maxRecDepth 20000 in
theorem ggX4_tick_X4_applyRules : GoodIn wsX4_tick wsX4_applyRules := goodIn_r _ [38, 39, 40, 41, 42, 43, 44, 45, 46, 8, 47, 48, 49, 50, 51, 52, 53, 54, 55, 3, 4, 18, 10, 56, 57, 58, 59, 60, 22, 61, 24, 62, 63, 64, 65, 66, 25, 27, 28, 29, 30, 26, 67, 68, 69, 70, 71, 72, 73, 74, 75, 76, 77, 78, 79, 80, 81, 82, 83, 84, 85, 86, 87, 88, 89, 90, 91, 2, 92, 93, 94, 95, 17, 19, 20, 21, 23, 31, 32, 33, 34, 96, 97, 98, 99, 100, 101, 102, 103, 104, 105, 106, 107, 108, 109, 110, 111, 13, 14, 15, 16, 11, 112, 113, 114, 115, 116, 117, 118, 119, 120, 121, 122, 123, 124, 125, 126, 127, 128, 129, 130, 131, 132, 133, 134, 135, 136, 137, 138, 139, 140, 141, 142, 143, 144, 145, 146, 147, 148, 149, 150, 151, 152, 153, 154, 155, 156, 157, 158, 159, 160, 161, 162, 163, 164, 165, 166, 167, 168, 169, 170, 171, 172, 173, 174, 175, 176, 177, 178, 179, 180, 181, 182, 183, 184, 185, 186, 187, 188, 189, 190, 191, 192, 193, 194, 195, 196, 197, 198, 199, 200, 201, 202, 203, 204, 205, 253, 254, 255, 256, 257, 258, 259, 260, 261, 262, 263, 264, 278, 279, 280, 281, 282, 283, 284, 285, 286, 287, 288, 289, 290, 291, 292, 293, 294, 295, 296, 297, 265, 266, 267, 298, 299, 300, 301, 302, 303, 304, 305, 306, 268, 269, 270, 271, 272, 273, 274, 275, 276, 277, 307, 308, 309, 310, 311, 312, 313, 314, 315, 316] (by decide +kernel) (by decide +kernel)
set_option maxRecDepth 20000 in
theorem gX4_tick_X4_applyRules : GoodIn wsX4_tick (wsV RX4 69 RX4 yX4_applyRules wsX4_applyRules) := goodIn_app (goodIn_of _ (by decide +kernel)) ggX4_tick_X4_applyRules
set_option maxRecDepth 20000 in
theorem ggX4_tick_X4_drawMetre : GoodIn wsX4_tick wsX4_drawMetre := goodIn_r _ [209, 3, 4, 56, 57, 210, 211, 58, 59, 60, 22, 61, 24, 62, 63, 64, 65, 66, 25, 27, 28, 29, 30, 26, 67, 68, 69, 70, 71, 72, 73, 212, 213, 214, 143, 215, 152, 159, 160, 157, 19, 20, 21, 23, 216, 217, 218, 8, 219, 17, 10, 220, 221, 222, 223, 224, 158, 161, 162, 163, 164, 225, 226, 227, 228, 229, 230, 231, 232, 233, 234, 235, 236, 177, 155, 178, 165, 166, 167, 168, 169, 170, 171, 172, 173, 174, 175, 176, 179, 180, 181, 182, 237, 238, 239, 240, 241, 242, 243, 244, 245, 246, 247, 248, 249, 250, 251, 252, 31, 32, 33, 34, 123, 124, 125, 126, 127, 128, 129, 130, 131, 132, 133, 134, 135, 136, 137, 138, 139, 140, 141, 142, 144, 145, 146, 147, 148, 149, 150, 151, 153, 154, 156, 183, 184, 185, 186, 187, 188, 189, 190, 191, 192, 193, 194, 195, 196, 197, 198, 199, 200, 201, 202, 203, 204, 205, 253, 254, 255, 256, 257, 258, 259, 260, 261, 262, 263, 264, 265, 266, 267, 298, 299, 300, 301, 302, 303, 304, 305, 306, 285, 286, 287, 288, 289, 290, 291, 292, 293, 294, 295, 296, 297, 268, 269, 270, 271, 272, 273, 274, 275, 276, 277, 307, 308, 309, 310, 311, 312, 313, 314, 315, 316] (by decide +kernel) (by decide +kernel)
set_option maxRecDepth 20000 in
theorem gX4_tick_X4_drawMetre : GoodIn wsX4_tick (wsV RX4 76 RX4 yX4_drawMetre wsX4_drawMetre) := goodIn_app (goodIn_of _ (by decide +kernel)) ggX4_tick_X4_drawMetre
theorem dX4_tick_0 : decode cX4_tick 0 = .ok (.aload_n 0, 1) := by decide +kernel
theorem dX4_tick_1 : decode cX4_tick 1 = .ok (.dup, 1) := by decide +kernel
theorem dX4_tick_2 : decode cX4_tick 2 = .ok (.getfield 60, 3) := by decide +kernel
theorem dX4_tick_5 : decode cX4_tick 5 = .ok (.iconst 1, 1) := by decide +kernel
theorem dX4_tick_6 : decode cX4_tick 6 = .ok (.iadd, 1) := by decide +kernel
theorem dX4_tick_7 : decode cX4_tick 7 = .ok (.putfield 60, 3) := by decide +kernel
theorem dX4_tick_10 : decode cX4_tick 10 = .ok (.aload_n 0, 1) := by decide +kernel
theorem dX4_tick_11 : decode cX4_tick 11 = .ok (.invokevirtual 63, 3) := by decide +kernel
theorem dX4_tick_14 : decode cX4_tick 14 = .ok (.aload_n 0, 1) := by decide +kernel
theorem dX4_tick_15 : decode cX4_tick 15 = .ok (.getfield 66, 3) := by decide +kernel
theorem dX4_tick_18 : decode cX4_tick 18 = .ok (.ifCond .ne 8, 3) := by decide +kernel
theorem dX4_tick_21 : decode cX4_tick 21 = .ok (.aload_n 0, 1) := by decide +kernel
theorem dX4_tick_22 : decode cX4_tick 22 = .ok (.aload_n 1, 1) := by decide +kernel
theorem dX4_tick_23 : decode cX4_tick 23 = .ok (.invokevirtual 69, 3) := by decide +kernel
theorem dX4_tick_26 : decode cX4_tick 26 = .ok (.aload_n 0, 1) := by decide +kernel
theorem dX4_tick_27 : decode cX4_tick 27 = .ok (.getfield 66, 3) := by decide +kernel
theorem dX4_tick_30 : decode cX4_tick 30 = .ok (.ifCond .le 15, 3) := by decide +kernel
theorem dX4_tick_33 : decode cX4_tick 33 = .ok (.aload_n 0, 1) := by decide +kernel
theorem dX4_tick_34 : decode cX4_tick 34 = .ok (.dup, 1) := by decide +kernel
theorem dX4_tick_35 : decode cX4_tick 35 = .ok (.getfield 66, 3) := by decide +kernel
theorem dX4_tick_38 : decode cX4_tick 38 = .ok (.iconst 1, 1) := by decide +kernel
theorem dX4_tick_39 : decode cX4_tick 39 = .ok (.isub, 1) := by decide +kernel
theorem dX4_tick_40 : decode cX4_tick 40 = .ok (.putfield 66, 3) := by decide +kernel
theorem dX4_tick_43 : decode cX4_tick 43 = .ok (.iconst 0, 1) := by decide +kernel
theorem dX4_tick_44 : decode cX4_tick 44 = .ok (.ireturn, 1) := by decide +kernel
theorem dX4_tick_45 : decode cX4_tick 45 = .ok (.aload_n 0, 1) := by decide +kernel
theorem dX4_tick_46 : decode cX4_tick 46 = .ok (.getfield 20, 3) := by decide +kernel
theorem dX4_tick_49 : decode cX4_tick 49 = .ok (.getfield 73, 3) := by decide +kernel
theorem dX4_tick_52 : decode cX4_tick 52 = .ok (.ifCond .ne 5, 3) := by decide +kernel
theorem dX4_tick_55 : decode cX4_tick 55 = .ok (.iconst 0, 1) := by decide +kernel
theorem dX4_tick_56 : decode cX4_tick 56 = .ok (.ireturn, 1) := by decide +kernel
theorem dX4_tick_57 : decode cX4_tick 57 = .ok (.aload_n 0, 1) := by decide +kernel
theorem dX4_tick_58 : decode cX4_tick 58 = .ok (.aload_n 1, 1) := by decide +kernel
theorem dX4_tick_59 : decode cX4_tick 59 = .ok (.invokevirtual 76, 3) := by decide +kernel
theorem dX4_tick_62 : decode cX4_tick 62 = .ok (.iconst 1, 1) := by decide +kernel
theorem dX4_tick_63 : decode cX4_tick 63 = .ok (.ireturn, 1) := by decide +kernel
set_option maxRecDepth 20000 in
theorem ggX4_cutStrand_X8_keep : GoodIn wsX4_cutStrand wsX8_keep := goodIn_r _ [9, 10, 11, 12, 13, 14, 15, 16, 17, 18, 19, 20, 21, 22, 23, 24, 25, 26, 27, 28, 29, 30, 31, 32, 33, 34, 35, 36, 37, 38, 39, 40, 41, 42, 43, 44, 45, 46, 47, 48, 49, 50, 51, 52, 53, 54, 55, 56, 57, 58, 59, 60, 61, 62, 63, 64, 65, 66, 67, 68, 69, 70, 71, 72, 73, 74, 75, 76, 77, 103, 104, 105, 106, 107, 108, 109, 110, 111, 112, 113, 114, 115, 94, 95, 96, 97, 98, 99, 100, 101, 102, 116, 117, 118, 119, 120, 121, 122, 123, 124, 125] (by decide +kernel) (by decide +kernel)
set_option maxRecDepth 20000 in
theorem gX4_cutStrand_X8_keep : GoodIn wsX4_cutStrand (wsV RX4 82 RX8 yX8_keep wsX8_keep) := goodIn_app (goodIn_of _ (by decide +kernel)) ggX4_cutStrand_X8_keep
set_option maxRecDepth 20000 in
theorem ggX4_cutStrand_X9_beginAnew : GoodIn wsX4_cutStrand wsX9_beginAnew := goodIn_r _ [81, 28, 33, 34, 94, 95, 96, 97, 98, 99, 100, 101, 102] (by decide +kernel) (by decide +kernel)
set_option maxRecDepth 20000 in
theorem gX4_cutStrand_X9_beginAnew : GoodIn wsX4_cutStrand (wsV RX4 88 RX9 yX9_beginAnew wsX9_beginAnew) := goodIn_app (goodIn_of _ (by decide +kernel)) ggX4_cutStrand_X9_beginAnew
theorem dX4_cutStrand_0 : decode cX4_cutStrand 0 = .ok (.aload_n 0, 1) := by decide +kernel
theorem dX4_cutStrand_1 : decode cX4_cutStrand 1 = .ok (.getfield 29, 3) := by decide +kernel
theorem dX4_cutStrand_4 : decode cX4_cutStrand 4 = .ok (.getfield 79, 3) := by decide +kernel
theorem dX4_cutStrand_7 : decode cX4_cutStrand 7 = .ok (.ifCond .ne 5, 3) := by decide +kernel
theorem dX4_cutStrand_10 : decode cX4_cutStrand 10 = .ok (.iconst (-1), 1) := by decide +kernel
theorem dX4_cutStrand_11 : decode cX4_cutStrand 11 = .ok (.ireturn, 1) := by decide +kernel
theorem dX4_cutStrand_12 : decode cX4_cutStrand 12 = .ok (.aload_n 1, 1) := by decide +kernel
theorem dX4_cutStrand_13 : decode cX4_cutStrand 13 = .ok (.aload_n 0, 1) := by decide +kernel
theorem dX4_cutStrand_14 : decode cX4_cutStrand 14 = .ok (.getfield 29, 3) := by decide +kernel
theorem dX4_cutStrand_17 : decode cX4_cutStrand 17 = .ok (.aload_n 0, 1) := by decide +kernel
theorem dX4_cutStrand_18 : decode cX4_cutStrand 18 = .ok (.getfield 40, 3) := by decide +kernel
theorem dX4_cutStrand_21 : decode cX4_cutStrand 21 = .ok (.aload_n 0, 1) := by decide +kernel
theorem dX4_cutStrand_22 : decode cX4_cutStrand 22 = .ok (.getfield 44, 3) := by decide +kernel
theorem dX4_cutStrand_25 : decode cX4_cutStrand 25 = .ok (.invokevirtual 82, 3) := by decide +kernel
theorem dX4_cutStrand_28 : decode cX4_cutStrand 28 = .ok (.istore_n 2, 1) := by decide +kernel
theorem dX4_cutStrand_29 : decode cX4_cutStrand 29 = .ok (.aload_n 0, 1) := by decide +kernel
theorem dX4_cutStrand_30 : decode cX4_cutStrand 30 = .ok (.getfield 29, 3) := by decide +kernel
theorem dX4_cutStrand_33 : decode cX4_cutStrand 33 = .ok (.invokevirtual 88, 3) := by decide +kernel
theorem dX4_cutStrand_36 : decode cX4_cutStrand 36 = .ok (.iload_n 2, 1) := by decide +kernel
theorem dX4_cutStrand_37 : decode cX4_cutStrand 37 = .ok (.ireturn, 1) := by decide +kernel
set_option maxRecDepth 20000 in
theorem ggX4_applyRules_X4_allHold : GoodIn wsX4_applyRules wsX4_allHold := goodIn_r _ [10, 1, 11, 12, 13, 14, 15, 16, 17, 9, 18, 19, 20, 21, 22, 23, 24, 25, 26, 27, 28, 29, 30, 31, 32, 33, 34, 35, 36, 37, 38, 39, 40, 41, 42, 43, 44, 45, 46, 47, 48, 49, 50, 51, 52, 53, 54, 55, 56, 57, 58, 59, 60, 61, 62, 196, 197, 198, 199, 200, 201, 202, 203, 204, 205, 206, 207, 208, 209, 210, 211, 212, 213, 214, 228, 229, 230, 231, 232, 233, 234, 235, 236, 237, 238, 239, 240, 241, 242, 243, 244, 245, 246, 247, 248, 249] (by decide +kernel) (by decide +kernel)
set_option maxRecDepth 20000 in
theorem gX4_applyRules_X4_allHold : GoodIn wsX4_applyRules (wsV RX4 105 RX4 yX4_allHold wsX4_allHold) := goodIn_app (goodIn_of _ (by decide +kernel)) ggX4_applyRules_X4_allHold
set_option maxRecDepth 20000 in
theorem ggX4_applyRules_X4_act : GoodIn wsX4_applyRules wsX4_act := goodIn_r _ [66, 67, 68, 69, 70, 9, 71, 21, 20, 19, 72, 73, 74, 75, 28, 76, 30, 36, 41, 37, 38, 39, 40, 77, 78, 79, 80, 81, 82, 83, 84, 49, 50, 51, 52, 53, 31, 32, 33, 34, 35, 42, 43, 44, 45, 46, 47, 48, 85, 86, 87, 88, 89, 90, 91, 92, 93, 94, 95, 96, 22, 97, 98, 99, 100, 101, 102, 103, 104, 105, 106, 58, 107, 108, 109, 110, 111, 112, 113, 114, 115, 116, 23, 24, 117, 118, 119, 120, 121, 122, 123, 124, 125, 126, 127, 128, 129, 130, 131, 132, 133, 134, 135, 136, 137, 138, 139, 140, 141, 142, 143, 144, 145, 146, 147, 148, 149, 150, 151, 152, 153, 154, 155, 156, 157, 158, 159, 160, 161, 162, 163, 164, 165, 166, 167, 168, 169, 170, 171, 172, 173, 174, 175, 176, 177, 178, 179, 180, 181, 182, 183, 184, 185, 186, 187, 188, 189, 190, 191, 192, 193, 194, 195, 196, 197, 198, 199, 200, 201, 202, 203, 204, 205, 206, 207, 228, 229, 230, 240, 241, 242, 243, 244, 245, 246, 247, 248, 249, 215, 216, 217, 218, 219, 220, 221, 222, 223, 224, 225, 226, 227, 231, 232, 233, 234, 235, 236, 237, 238, 239, 250, 251, 252, 253, 254, 255, 256, 257, 258, 259] (by decide +kernel) (by decide +kernel)
set_option maxRecDepth 20000 in
theorem gX4_applyRules_X4_act : GoodIn wsX4_applyRules (wsV RX4 116 RX4 yX4_act wsX4_act) := goodIn_app (goodIn_of _ (by decide +kernel)) ggX4_applyRules_X4_act
theorem dX4_applyRules_0 : decode cX4_applyRules 0 = .ok (.iconst 0, 1) := by decide +kernel
theorem dX4_applyRules_1 : decode cX4_applyRules 1 = .ok (.istore_n 2, 1) := by decide +kernel
theorem dX4_applyRules_2 : decode cX4_applyRules 2 = .ok (.iload_n 2, 1) := by decide +kernel
theorem dX4_applyRules_3 : decode cX4_applyRules 3 = .ok (.aload_n 0, 1) := by decide +kernel
theorem dX4_applyRules_4 : decode cX4_applyRules 4 = .ok (.getfield 36, 3) := by decide +kernel
theorem dX4_applyRules_7 : decode cX4_applyRules 7 = .ok (.getfield 101, 3) := by decide +kernel
theorem dX4_applyRules_10 : decode cX4_applyRules 10 = .ok (.if_icmp .ge 44, 3) := by decide +kernel
theorem dX4_applyRules_13 : decode cX4_applyRules 13 = .ok (.aload_n 0, 1) := by decide +kernel
theorem dX4_applyRules_14 : decode cX4_applyRules 14 = .ok (.iload_n 2, 1) := by decide +kernel
theorem dX4_applyRules_15 : decode cX4_applyRules 15 = .ok (.aload_n 1, 1) := by decide +kernel
theorem dX4_applyRules_16 : decode cX4_applyRules 16 = .ok (.getfield 102, 3) := by decide +kernel
theorem dX4_applyRules_19 : decode cX4_applyRules 19 = .ok (.invokevirtual 105, 3) := by decide +kernel
theorem dX4_applyRules_22 : decode cX4_applyRules 22 = .ok (.ifCond .eq 26, 3) := by decide +kernel
theorem dX4_applyRules_25 : decode cX4_applyRules 25 = .ok (.aload_n 0, 1) := by decide +kernel
theorem dX4_applyRules_26 : decode cX4_applyRules 26 = .ok (.aload_n 0, 1) := by decide +kernel
theorem dX4_applyRules_27 : decode cX4_applyRules 27 = .ok (.getfield 36, 3) := by decide +kernel
theorem dX4_applyRules_30 : decode cX4_applyRules 30 = .ok (.getfield 109, 3) := by decide +kernel
theorem dX4_applyRules_33 : decode cX4_applyRules 33 = .ok (.iload_n 2, 1) := by decide +kernel
theorem dX4_applyRules_34 : decode cX4_applyRules 34 = .ok (.iaload, 1) := by decide +kernel
theorem dX4_applyRules_35 : decode cX4_applyRules 35 = .ok (.aload_n 0, 1) := by decide +kernel
theorem dX4_applyRules_36 : decode cX4_applyRules 36 = .ok (.getfield 36, 3) := by decide +kernel
theorem dX4_applyRules_39 : decode cX4_applyRules 39 = .ok (.getfield 113, 3) := by decide +kernel
theorem dX4_applyRules_42 : decode cX4_applyRules 42 = .ok (.iload_n 2, 1) := by decide +kernel
theorem dX4_applyRules_43 : decode cX4_applyRules 43 = .ok (.iaload, 1) := by decide +kernel
theorem dX4_applyRules_44 : decode cX4_applyRules 44 = .ok (.aload_n 1, 1) := by decide +kernel
theorem dX4_applyRules_45 : decode cX4_applyRules 45 = .ok (.invokevirtual 116, 3) := by decide +kernel
theorem dX4_applyRules_48 : decode cX4_applyRules 48 = .ok (.iinc 2 1, 3) := by decide +kernel
theorem dX4_applyRules_51 : decode cX4_applyRules 51 = .ok (.goto (-49), 3) := by decide +kernel
theorem dX4_applyRules_54 : decode cX4_applyRules 54 = .ok (.return_, 1) := by decide +kernel
set_option maxRecDepth 20000 in
theorem ggX4_act_X4_castFirst : GoodIn wsX4_act wsX4_castFirst := goodIn_r _ [6, 7, 8, 9, 10, 11, 12, 13, 14, 15, 16, 17, 18, 19, 20, 21, 22, 23, 24, 25, 26, 163, 164, 165, 166, 167, 168, 169, 170, 171, 172, 173, 174, 175, 176, 177, 178, 179, 180, 181, 182, 183, 184, 185, 186, 187] (by decide +kernel) (by decide +kernel)
set_option maxRecDepth 20000 in
theorem gX4_act_X4_castFirst : GoodIn wsX4_act (wsV RX4 155 RX4 yX4_castFirst wsX4_castFirst) := goodIn_app (goodIn_of _ (by decide +kernel)) ggX4_act_X4_castFirst
set_option maxRecDepth 20000 in
theorem ggX4_act_X4_dropThinnest : GoodIn wsX4_act wsX4_dropThinnest := goodIn_r _ [30, 9, 10, 7, 31, 32, 33, 14, 34, 35, 16, 36, 37, 38, 39, 40, 17, 19, 20, 21, 22, 18, 41, 42, 43, 44, 45, 46, 47, 48, 49, 50, 51, 52, 53, 54, 55, 163, 164, 165, 166, 167, 168, 169, 170, 171, 172, 173, 174, 178, 179, 180, 181, 182, 183, 184, 185, 186, 187, 175, 176, 177] (by decide +kernel) (by decide +kernel)
set_option maxRecDepth 20000 in
theorem gX4_act_X4_dropThinnest : GoodIn wsX4_act (wsV RX4 158 RX4 yX4_dropThinnest wsX4_dropThinnest) := goodIn_app (goodIn_of _ (by decide +kernel)) ggX4_act_X4_dropThinnest
set_option maxRecDepth 20000 in
theorem ggX4_act_X4_findFirst : GoodIn wsX4_act wsX4_findFirst := goodIn_r _ [59, 60, 8, 1, 61, 62, 63, 5, 64, 10, 7, 65, 11, 12, 13, 14, 15, 16, 17, 18, 19, 20, 21, 22, 23, 24, 25, 26, 163, 164, 165, 166, 167, 168, 169, 170, 171, 172, 173, 174, 175, 176, 177, 178, 179, 180, 181, 182, 183, 184, 185, 186, 187] (by decide +kernel) (by decide +kernel)
set_option maxRecDepth 20000 in
theorem gX4_act_X4_findFirst : GoodIn wsX4_act (wsV RX4 161 RX4 yX4_findFirst wsX4_findFirst) := goodIn_app (goodIn_of _ (by decide +kernel)) ggX4_act_X4_findFirst
set_option maxRecDepth 20000 in
theorem ggX4_act_X4_throwLast : GoodIn wsX4_act wsX4_throwLast := goodIn_r _ [69, 7, 8, 10, 70, 71, 72, 48, 49, 50, 14, 51, 16, 17, 37, 38, 39, 40, 19, 20, 21, 22, 18, 73, 74, 75, 44, 76, 77, 42, 43, 45, 46, 47, 163, 164, 165, 166, 167, 168, 169, 170, 171, 172, 173, 174, 175, 176, 177, 178, 179, 180, 181, 182, 183, 184, 185, 186, 187, 188, 189, 190, 191, 192, 193, 194, 195, 196, 197, 198, 199, 200] (by decide +kernel) (by decide +kernel)
set_option maxRecDepth 20000 in
theorem gX4_act_X4_throwLast : GoodIn wsX4_act (wsV RX4 164 RX4 yX4_throwLast wsX4_throwLast) := goodIn_app (goodIn_of _ (by decide +kernel)) ggX4_act_X4_throwLast
set_option maxRecDepth 20000 in
theorem ggX4_act_X4_cutStrand : GoodIn wsX4_act wsX4_cutStrand := goodIn_r _ [81, 82, 83, 84, 85, 86, 87, 88, 89, 90, 91, 92, 93, 94, 95, 96, 97, 98, 99, 100, 101, 102, 103, 104, 105, 106, 107, 108, 109, 110, 111, 112, 113, 114, 115, 116, 117, 118, 119, 120, 121, 122, 123, 124, 125, 126, 127, 128, 129, 130, 131, 132, 133, 134, 135, 136, 137, 138, 139, 140, 141, 142, 143, 144, 145, 146, 147, 148, 149, 150, 151, 152, 153, 154, 155, 156, 157, 158, 159, 160, 161, 162, 163, 164, 165, 166, 167, 168, 169, 170, 171, 172, 173, 174, 201, 202, 203, 204, 205, 206, 207, 208, 209, 188, 189, 190, 191, 192, 193, 194, 195, 196, 197, 198, 199, 200, 210, 211, 212, 213, 214, 215, 216, 217, 218, 219] (by decide +kernel) (by decide +kernel)
set_option maxRecDepth 20000 in
theorem gX4_act_X4_cutStrand : GoodIn wsX4_act (wsV RX4 167 RX4 yX4_cutStrand wsX4_cutStrand) := goodIn_app (goodIn_of _ (by decide +kernel)) ggX4_act_X4_cutStrand
theorem dX4_act_0 : decode cX4_act 0 = .ok (.iload_n 1, 1) := by decide +kernel
theorem dX4_act_1 : decode cX4_act 1 = .ok (.tableswitch 73 0 4 #[35, 42, 49, 56, 64], 35) := by decide +kernel
theorem dX4_act_36 : decode cX4_act 36 = .ok (.aload_n 0, 1) := by decide +kernel
theorem dX4_act_37 : decode cX4_act 37 = .ok (.invokevirtual 155, 3) := by decide +kernel
theorem dX4_act_40 : decode cX4_act 40 = .ok (.goto 44, 3) := by decide +kernel
theorem dX4_act_43 : decode cX4_act 43 = .ok (.aload_n 0, 1) := by decide +kernel
theorem dX4_act_44 : decode cX4_act 44 = .ok (.invokevirtual 158, 3) := by decide +kernel
theorem dX4_act_47 : decode cX4_act 47 = .ok (.goto 37, 3) := by decide +kernel
theorem dX4_act_50 : decode cX4_act 50 = .ok (.aload_n 0, 1) := by decide +kernel
theorem dX4_act_51 : decode cX4_act 51 = .ok (.invokevirtual 161, 3) := by decide +kernel
theorem dX4_act_54 : decode cX4_act 54 = .ok (.goto 30, 3) := by decide +kernel
theorem dX4_act_57 : decode cX4_act 57 = .ok (.aload_n 0, 1) := by decide +kernel
theorem dX4_act_58 : decode cX4_act 58 = .ok (.aload_n 3, 1) := by decide +kernel
theorem dX4_act_59 : decode cX4_act 59 = .ok (.invokevirtual 164, 3) := by decide +kernel
theorem dX4_act_62 : decode cX4_act 62 = .ok (.goto 22, 3) := by decide +kernel
theorem dX4_act_65 : decode cX4_act 65 = .ok (.aload_n 0, 1) := by decide +kernel
theorem dX4_act_66 : decode cX4_act 66 = .ok (.aload_n 3, 1) := by decide +kernel
theorem dX4_act_67 : decode cX4_act 67 = .ok (.invokevirtual 167, 3) := by decide +kernel
theorem dX4_act_70 : decode cX4_act 70 = .ok (.pop, 1) := by decide +kernel
theorem dX4_act_71 : decode cX4_act 71 = .ok (.goto 13, 3) := by decide +kernel
theorem dX4_act_74 : decode cX4_act 74 = .ok (.aload_n 0, 1) := by decide +kernel
theorem dX4_act_75 : decode cX4_act 75 = .ok (.dup, 1) := by decide +kernel
theorem dX4_act_76 : decode cX4_act 76 = .ok (.getfield 66, 3) := by decide +kernel
theorem dX4_act_79 : decode cX4_act 79 = .ok (.iload_n 2, 1) := by decide +kernel
theorem dX4_act_80 : decode cX4_act 80 = .ok (.iadd, 1) := by decide +kernel
theorem dX4_act_81 : decode cX4_act 81 = .ok (.putfield 66, 3) := by decide +kernel
theorem dX4_act_84 : decode cX4_act 84 = .ok (.return_, 1) := by decide +kernel
set_option maxRecDepth 20000 in
theorem ggX4_drawMetre_X5_sumOfFineness : GoodIn wsX4_drawMetre wsX5_sumOfFineness := goodIn_r _ [11, 12, 13, 14, 15, 16, 10, 17, 18, 19, 20, 21, 22, 23, 24, 25, 26, 27, 28, 29, 30, 178, 179, 180, 203, 204, 205, 206, 207, 208, 209, 210, 211, 212] (by decide +kernel) (by decide +kernel)
set_option maxRecDepth 20000 in
theorem gX4_drawMetre_X5_sumOfFineness : GoodIn wsX4_drawMetre (wsV RX4 140 RX5 yX5_sumOfFineness wsX5_sumOfFineness) := goodIn_app (goodIn_of _ (by decide +kernel)) ggX4_drawMetre_X5_sumOfFineness
set_option maxRecDepth 20000 in
theorem ggX4_drawMetre_X9_addMetre : GoodIn wsX4_drawMetre wsX9_addMetre := goodIn_r _ [35, 36, 37, 38, 39, 181, 182, 183, 184, 185, 186, 187, 188, 189] (by decide +kernel) (by decide +kernel)
set_option maxRecDepth 20000 in
theorem gX4_drawMetre_X9_addMetre : GoodIn wsX4_drawMetre (wsV RX4 193 RX9 yX9_addMetre wsX9_addMetre) := goodIn_app (goodIn_of _ (by decide +kernel)) ggX4_drawMetre_X9_addMetre
set_option maxRecDepth 20000 in
theorem ggX4_drawMetre_X5_removeFirst : GoodIn wsX4_drawMetre wsX5_removeFirst := goodIn_r _ [43, 12, 18, 23, 19, 20, 21, 10, 22, 178, 179, 180] (by decide +kernel) (by decide +kernel)
set_option maxRecDepth 20000 in
theorem gX4_drawMetre_X5_removeFirst : GoodIn wsX4_drawMetre (wsV RX4 97 RX5 yX5_removeFirst wsX5_removeFirst) := goodIn_app (goodIn_of _ (by decide +kernel)) ggX4_drawMetre_X5_removeFirst
set_option maxRecDepth 20000 in
theorem ggX4_drawMetre_X4_drawEnd : GoodIn wsX4_drawMetre wsX4_drawEnd := goodIn_r _ [48, 3, 49, 1, 50, 51, 52, 53, 34, 54, 55, 56, 57, 58, 59, 60, 61, 62, 63, 64, 27, 65, 66, 67, 68, 69, 70, 71, 72, 73, 74, 75, 76, 77, 78, 79, 80, 81, 82, 83, 84, 85, 86, 87, 88, 89, 90, 91, 92, 93, 94, 95, 96, 29, 97, 98, 99, 100, 101, 102, 103, 104, 105, 106, 107, 108, 109, 110, 10, 111, 12, 18, 19, 20, 21, 22, 23, 166, 167, 168, 169, 170, 171, 172, 173, 174, 175, 176, 177, 203, 204, 205, 206, 207, 208, 209, 210, 211, 212, 181, 182, 183, 184, 185, 186, 187, 188, 189, 178, 179, 180] (by decide +kernel) (by decide +kernel)
set_option maxRecDepth 20000 in
theorem gX4_drawMetre_X4_drawEnd : GoodIn wsX4_drawMetre (wsV RX4 203 RX4 yX4_drawEnd wsX4_drawEnd) := goodIn_app (goodIn_of _ (by decide +kernel)) ggX4_drawMetre_X4_drawEnd
set_option maxRecDepth 20000 in
theorem ggX4_drawMetre_X4_cutStrand : GoodIn wsX4_drawMetre wsX4_cutStrand := goodIn_r _ [115, 3, 4, 116, 117, 118, 119, 120, 121, 122, 123, 124, 125, 126, 127, 128, 129, 130, 131, 34, 132, 133, 134, 135, 136, 137, 138, 139, 36, 140, 141, 74, 142, 39, 56, 37, 38, 57, 58, 59, 60, 76, 77, 78, 79, 80, 81, 82, 83, 84, 85, 86, 87, 73, 75, 88, 89, 90, 91, 143, 144, 145, 146, 147, 148, 149, 150, 151, 152, 153, 154, 155, 156, 157, 158, 159, 160, 161, 162, 163, 164, 165, 166, 167, 168, 169, 170, 171, 172, 173, 174, 175, 176, 177, 181, 182, 183, 184, 185, 186, 187, 188, 189, 190, 191, 192, 193, 194, 195, 196, 197, 198, 199, 200, 201, 202, 213, 214, 215, 216, 217, 218, 219, 220, 221, 222] (by decide +kernel) (by decide +kernel)
set_option maxRecDepth 20000 in
theorem gX4_drawMetre_X4_cutStrand : GoodIn wsX4_drawMetre (wsV RX4 167 RX4 yX4_cutStrand wsX4_cutStrand) := goodIn_app (goodIn_of _ (by decide +kernel)) ggX4_drawMetre_X4_cutStrand
theorem dX4_drawMetre_0 : decode cX4_drawMetre 0 = .ok (.aload_n 0, 1) := by decide +kernel
theorem dX4_drawMetre_1 : decode cX4_drawMetre 1 = .ok (.getfield 20, 3) := by decide +kernel
theorem dX4_drawMetre_4 : decode cX4_drawMetre 4 = .ok (.invokevirtual 140, 3) := by decide +kernel
theorem dX4_drawMetre_7 : decode cX4_drawMetre 7 = .ok (.istore_n 2, 1) := by decide +kernel
theorem dX4_drawMetre_8 : decode cX4_drawMetre 8 = .ok (.aload_n 0, 1) := by decide +kernel
theorem dX4_drawMetre_9 : decode cX4_drawMetre 9 = .ok (.getfield 20, 3) := by decide +kernel
theorem dX4_drawMetre_12 : decode cX4_drawMetre 12 = .ok (.getfield 73, 3) := by decide +kernel
theorem dX4_drawMetre_15 : decode cX4_drawMetre 15 = .ok (.istore_n 3, 1) := by decide +kernel
theorem dX4_drawMetre_16 : decode cX4_drawMetre 16 = .ok (.aload_n 0, 1) := by decide +kernel
theorem dX4_drawMetre_17 : decode cX4_drawMetre 17 = .ok (.getfield 29, 3) := by decide +kernel
theorem dX4_drawMetre_20 : decode cX4_drawMetre 20 = .ok (.getfield 79, 3) := by decide +kernel
theorem dX4_drawMetre_23 : decode cX4_drawMetre 23 = .ok (.istore 4, 2) := by decide +kernel
theorem dX4_drawMetre_25 : decode cX4_drawMetre 25 = .ok (.aload_n 0, 1) := by decide +kernel
theorem dX4_drawMetre_26 : decode cX4_drawMetre 26 = .ok (.getfield 29, 3) := by decide +kernel
theorem dX4_drawMetre_29 : decode cX4_drawMetre 29 = .ok (.iload_n 2, 1) := by decide +kernel
theorem dX4_drawMetre_30 : decode cX4_drawMetre 30 = .ok (.iload_n 3, 1) := by decide +kernel
theorem dX4_drawMetre_31 : decode cX4_drawMetre 31 = .ok (.invokevirtual 193, 3) := by decide +kernel
theorem dX4_drawMetre_34 : decode cX4_drawMetre 34 = .ok (.aload_n 1, 1) := by decide +kernel
theorem dX4_drawMetre_35 : decode cX4_drawMetre 35 = .ok (.dup, 1) := by decide +kernel
theorem dX4_drawMetre_36 : decode cX4_drawMetre 36 = .ok (.getfield 197, 3) := by decide +kernel
theorem dX4_drawMetre_39 : decode cX4_drawMetre 39 = .ok (.iload_n 2, 1) := by decide +kernel
theorem dX4_drawMetre_40 : decode cX4_drawMetre 40 = .ok (.iadd, 1) := by decide +kernel
theorem dX4_drawMetre_41 : decode cX4_drawMetre 41 = .ok (.putfield 197, 3) := by decide +kernel
theorem dX4_drawMetre_44 : decode cX4_drawMetre 44 = .ok (.aload_n 0, 1) := by decide +kernel
theorem dX4_drawMetre_45 : decode cX4_drawMetre 45 = .ok (.dup, 1) := by decide +kernel
theorem dX4_drawMetre_46 : decode cX4_drawMetre 46 = .ok (.getfield 200, 3) := by decide +kernel
theorem dX4_drawMetre_49 : decode cX4_drawMetre 49 = .ok (.iconst 1, 1) := by decide +kernel
theorem dX4_drawMetre_50 : decode cX4_drawMetre 50 = .ok (.iadd, 1) := by decide +kernel
theorem dX4_drawMetre_51 : decode cX4_drawMetre 51 = .ok (.putfield 200, 3) := by decide +kernel
theorem dX4_drawMetre_54 : decode cX4_drawMetre 54 = .ok (.iconst 0, 1) := by decide +kernel
theorem dX4_drawMetre_55 : decode cX4_drawMetre 55 = .ok (.istore 5, 2) := by decide +kernel
theorem dX4_drawMetre_57 : decode cX4_drawMetre 57 = .ok (.iload 5, 2) := by decide +kernel
theorem dX4_drawMetre_59 : decode cX4_drawMetre 59 = .ok (.iload_n 3, 1) := by decide +kernel
theorem dX4_drawMetre_60 : decode cX4_drawMetre 60 = .ok (.if_icmp .ge 22, 3) := by decide +kernel
theorem dX4_drawMetre_63 : decode cX4_drawMetre 63 = .ok (.aload_n 0, 1) := by decide +kernel
theorem dX4_drawMetre_64 : decode cX4_drawMetre 64 = .ok (.aload_n 0, 1) := by decide +kernel
theorem dX4_drawMetre_65 : decode cX4_drawMetre 65 = .ok (.getfield 20, 3) := by decide +kernel
theorem dX4_drawMetre_68 : decode cX4_drawMetre 68 = .ok (.invokevirtual 97, 3) := by decide +kernel
theorem dX4_drawMetre_71 : decode cX4_drawMetre 71 = .ok (.iload 4, 2) := by decide +kernel
theorem dX4_drawMetre_73 : decode cX4_drawMetre 73 = .ok (.invokevirtual 203, 3) := by decide +kernel
theorem dX4_drawMetre_76 : decode cX4_drawMetre 76 = .ok (.iinc 5 1, 3) := by decide +kernel
theorem dX4_drawMetre_79 : decode cX4_drawMetre 79 = .ok (.goto (-22), 3) := by decide +kernel
theorem dX4_drawMetre_82 : decode cX4_drawMetre 82 = .ok (.aload_n 0, 1) := by decide +kernel
theorem dX4_drawMetre_83 : decode cX4_drawMetre 83 = .ok (.getfield 29, 3) := by decide +kernel
theorem dX4_drawMetre_86 : decode cX4_drawMetre 86 = .ok (.getfield 79, 3) := by decide +kernel
theorem dX4_drawMetre_89 : decode cX4_drawMetre 89 = .ok (.sipush 300, 3) := by decide +kernel
theorem dX4_drawMetre_92 : decode cX4_drawMetre 92 = .ok (.if_icmp .lt 9, 3) := by decide +kernel
theorem dX4_drawMetre_95 : decode cX4_drawMetre 95 = .ok (.aload_n 0, 1) := by decide +kernel
theorem dX4_drawMetre_96 : decode cX4_drawMetre 96 = .ok (.aload_n 1, 1) := by decide +kernel
theorem dX4_drawMetre_97 : decode cX4_drawMetre 97 = .ok (.invokevirtual 167, 3) := by decide +kernel
theorem dX4_drawMetre_100 : decode cX4_drawMetre 100 = .ok (.pop, 1) := by decide +kernel
theorem dX4_drawMetre_101 : decode cX4_drawMetre 101 = .ok (.return_, 1) := by decide +kernel
set_option maxRecDepth 20000 in
theorem ggX4_drawEnd_X9_addMetreOf : GoodIn wsX4_drawEnd wsX9_addMetreOf := goodIn_r _ [9, 10, 11, 12, 13, 14, 15, 16, 17, 18, 19, 20, 21, 22, 23, 24, 25, 26, 8, 27, 28, 29, 30, 31, 32, 33, 34, 35, 36, 37, 38, 39, 40, 41, 42, 43, 44, 45, 46, 47, 89, 90, 91, 92, 93, 94, 95, 96, 97, 98, 99, 100, 101, 102, 103, 104, 105, 106, 107] (by decide +kernel) (by decide +kernel)
set_option maxRecDepth 20000 in
theorem gX4_drawEnd_X9_addMetreOf : GoodIn wsX4_drawEnd (wsV RX4 207 RX9 yX9_addMetreOf wsX9_addMetreOf) := goodIn_app (goodIn_of _ (by decide +kernel)) ggX4_drawEnd_X9_addMetreOf
set_option maxRecDepth 20000 in
theorem ggX4_drawEnd_X0_drawOneMetre : GoodIn wsX4_drawEnd wsX0_drawOneMetre := goodIn_r _ [51, 52, 53, 54, 55, 56, 57, 20, 58, 59, 23, 60, 61, 62, 63, 64, 89, 90, 91, 92, 93, 94, 95, 96, 97, 98] (by decide +kernel) (by decide +kernel)
set_option maxRecDepth 20000 in
theorem gX4_drawEnd_X0_drawOneMetre : GoodIn wsX4_drawEnd (wsV RX4 210 RX0 yX0_drawOneMetre wsX0_drawOneMetre) := goodIn_app (goodIn_of _ (by decide +kernel)) ggX4_drawEnd_X0_drawOneMetre
set_option maxRecDepth 20000 in
theorem ggX4_drawEnd_X5_addLast : GoodIn wsX4_drawEnd wsX5_addLast := goodIn_r _ [69, 70, 71, 72, 73, 74, 68, 75, 76, 108, 109, 110] (by decide +kernel) (by decide +kernel)
set_option maxRecDepth 20000 in
theorem gX4_drawEnd_X5_addLast : GoodIn wsX4_drawEnd (wsV RX4 56 RX5 yX5_addLast wsX5_addLast) := goodIn_app (goodIn_of _ (by decide +kernel)) ggX4_drawEnd_X5_addLast
theorem dX4_drawEnd_0 : decode cX4_drawEnd 0 = .ok (.aload_n 1, 1) := by decide +kernel
theorem dX4_drawEnd_1 : decode cX4_drawEnd 1 = .ok (.ifnonnull 4, 3) := by decide +kernel
theorem dX4_drawEnd_4 : decode cX4_drawEnd 4 = .ok (.return_, 1) := by decide +kernel
theorem dX4_drawEnd_5 : decode cX4_drawEnd 5 = .ok (.aload_n 0, 1) := by decide +kernel
theorem dX4_drawEnd_6 : decode cX4_drawEnd 6 = .ok (.getfield 29, 3) := by decide +kernel
theorem dX4_drawEnd_9 : decode cX4_drawEnd 9 = .ok (.aload_n 1, 1) := by decide +kernel
theorem dX4_drawEnd_10 : decode cX4_drawEnd 10 = .ok (.iload_n 2, 1) := by decide +kernel
theorem dX4_drawEnd_11 : decode cX4_drawEnd 11 = .ok (.invokevirtual 207, 3) := by decide +kernel
theorem dX4_drawEnd_14 : decode cX4_drawEnd 14 = .ok (.aload_n 1, 1) := by decide +kernel
theorem dX4_drawEnd_15 : decode cX4_drawEnd 15 = .ok (.invokevirtual 210, 3) := by decide +kernel
theorem dX4_drawEnd_18 : decode cX4_drawEnd 18 = .ok (.aload_n 1, 1) := by decide +kernel
theorem dX4_drawEnd_19 : decode cX4_drawEnd 19 = .ok (.getfield 53, 3) := by decide +kernel
theorem dX4_drawEnd_22 : decode cX4_drawEnd 22 = .ok (.iconst 2, 1) := by decide +kernel
theorem dX4_drawEnd_23 : decode cX4_drawEnd 23 = .ok (.if_icmp .ne 14, 3) := by decide +kernel
theorem dX4_drawEnd_26 : decode cX4_drawEnd 26 = .ok (.aload_n 0, 1) := by decide +kernel
theorem dX4_drawEnd_27 : decode cX4_drawEnd 27 = .ok (.getfield 20, 3) := by decide +kernel
theorem dX4_drawEnd_30 : decode cX4_drawEnd 30 = .ok (.aload_n 1, 1) := by decide +kernel
theorem dX4_drawEnd_31 : decode cX4_drawEnd 31 = .ok (.invokevirtual 56, 3) := by decide +kernel
theorem dX4_drawEnd_34 : decode cX4_drawEnd 34 = .ok (.goto 19, 3) := by decide +kernel
theorem dX4_drawEnd_37 : decode cX4_drawEnd 37 = .ok (.aload_n 1, 1) := by decide +kernel
theorem dX4_drawEnd_38 : decode cX4_drawEnd 38 = .ok (.getfield 53, 3) := by decide +kernel
theorem dX4_drawEnd_41 : decode cX4_drawEnd 41 = .ok (.iconst 3, 1) := by decide +kernel
theorem dX4_drawEnd_42 : decode cX4_drawEnd 42 = .ok (.if_icmp .ne 11, 3) := by decide +kernel
theorem dX4_drawEnd_45 : decode cX4_drawEnd 45 = .ok (.aload_n 0, 1) := by decide +kernel
theorem dX4_drawEnd_46 : decode cX4_drawEnd 46 = .ok (.getfield 23, 3) := by decide +kernel
theorem dX4_drawEnd_49 : decode cX4_drawEnd 49 = .ok (.aload_n 1, 1) := by decide +kernel
theorem dX4_drawEnd_50 : decode cX4_drawEnd 50 = .ok (.invokevirtual 56, 3) := by decide +kernel
theorem dX4_drawEnd_53 : decode cX4_drawEnd 53 = .ok (.return_, 1) := by decide +kernel
set_option maxRecDepth 20000 in
theorem ggX8_keep_X9_init_ : GoodIn wsX8_keep wsX9_init_ := goodIn_r _ [15, 16, 17, 18, 19, 20, 21, 22, 23, 24, 25, 26, 27, 28, 29, 30, 31, 32, 33, 34, 35, 36, 37, 38, 39, 40, 41, 42, 43, 44, 45, 46, 47, 48, 49, 82, 83, 84, 85, 86, 87, 88, 89, 90] (by decide +kernel) (by decide +kernel)
set_option maxRecDepth 20000 in
theorem gX8_keep_X9_init_ : GoodIn wsX8_keep (wsX9_init_) := ggX8_keep_X9_init_
set_option maxRecDepth 20000 in
theorem ggX8_keep_X7_init : GoodIn wsX8_keep wsX7_init := goodIn_r _ [52, 53, 17, 18, 54, 55, 56, 57, 58, 59, 60, 61, 44, 22, 45, 62, 21, 23, 63, 64, 65, 66, 67, 68, 91, 92, 93, 94, 95, 96, 97, 98, 99, 100, 82, 83, 84, 85, 86, 87, 88, 89, 90] (by decide +kernel) (by decide +kernel)
set_option maxRecDepth 20000 in
theorem gX8_keep_X7_init : GoodIn wsX8_keep (wsX7_init) := ggX8_keep_X7_init
theorem dX8_keep_0 : decode cX8_keep 0 = .ok (.aload_n 0, 1) := by decide +kernel
theorem dX8_keep_1 : decode cX8_keep 1 = .ok (.getfield 37, 3) := by decide +kernel
theorem dX8_keep_4 : decode cX8_keep 4 = .ok (.bipush 40, 2) := by decide +kernel
theorem dX8_keep_6 : decode cX8_keep 6 = .ok (.if_icmp .lt 19, 3) := by decide +kernel
theorem dX8_keep_9 : decode cX8_keep 9 = .ok (.aload_n 0, 1) := by decide +kernel
theorem dX8_keep_10 : decode cX8_keep 10 = .ok (.dup, 1) := by decide +kernel
theorem dX8_keep_11 : decode cX8_keep 11 = .ok (.getfield 41, 3) := by decide +kernel
theorem dX8_keep_14 : decode cX8_keep 14 = .ok (.aload_n 1, 1) := by decide +kernel
theorem dX8_keep_15 : decode cX8_keep 15 = .ok (.getfield 44, 3) := by decide +kernel
theorem dX8_keep_18 : decode cX8_keep 18 = .ok (.iadd, 1) := by decide +kernel
theorem dX8_keep_19 : decode cX8_keep 19 = .ok (.putfield 41, 3) := by decide +kernel
theorem dX8_keep_22 : decode cX8_keep 22 = .ok (.bipush (-2), 2) := by decide +kernel
theorem dX8_keep_24 : decode cX8_keep 24 = .ok (.ireturn, 1) := by decide +kernel
theorem dX8_keep_25 : decode cX8_keep 25 = .ok (.aload_n 0, 1) := by decide +kernel
theorem dX8_keep_26 : decode cX8_keep 26 = .ok (.getfield 17, 3) := by decide +kernel
theorem dX8_keep_29 : decode cX8_keep 29 = .ok (.aload_n 0, 1) := by decide +kernel
theorem dX8_keep_30 : decode cX8_keep 30 = .ok (.getfield 37, 3) := by decide +kernel
theorem dX8_keep_33 : decode cX8_keep 33 = .ok (.new 15, 3) := by decide +kernel
theorem dX8_keep_36 : decode cX8_keep 36 = .ok (.dup, 1) := by decide +kernel
theorem dX8_keep_37 : decode cX8_keep 37 = .ok (.new 45, 3) := by decide +kernel
theorem dX8_keep_40 : decode cX8_keep 40 = .ok (.dup, 1) := by decide +kernel
theorem dX8_keep_41 : decode cX8_keep 41 = .ok (.aload_n 1, 1) := by decide +kernel
theorem dX8_keep_42 : decode cX8_keep 42 = .ok (.invokespecial 49, 3) := by decide +kernel
theorem dX8_keep_45 : decode cX8_keep 45 = .ok (.iload_n 2, 1) := by decide +kernel
theorem dX8_keep_46 : decode cX8_keep 46 = .ok (.iload_n 3, 1) := by decide +kernel
theorem dX8_keep_47 : decode cX8_keep 47 = .ok (.aload_n 0, 1) := by decide +kernel
theorem dX8_keep_48 : decode cX8_keep 48 = .ok (.getfield 52, 3) := by decide +kernel
theorem dX8_keep_51 : decode cX8_keep 51 = .ok (.invokespecial 55, 3) := by decide +kernel
theorem dX8_keep_54 : decode cX8_keep 54 = .ok (.aastore, 1) := by decide +kernel
theorem dX8_keep_55 : decode cX8_keep 55 = .ok (.aload_n 0, 1) := by decide +kernel
theorem dX8_keep_56 : decode cX8_keep 56 = .ok (.dup, 1) := by decide +kernel
theorem dX8_keep_57 : decode cX8_keep 57 = .ok (.getfield 58, 3) := by decide +kernel
theorem dX8_keep_60 : decode cX8_keep 60 = .ok (.aload_n 1, 1) := by decide +kernel
theorem dX8_keep_61 : decode cX8_keep 61 = .ok (.getfield 44, 3) := by decide +kernel
theorem dX8_keep_64 : decode cX8_keep 64 = .ok (.iadd, 1) := by decide +kernel
theorem dX8_keep_65 : decode cX8_keep 65 = .ok (.putfield 58, 3) := by decide +kernel
theorem dX8_keep_68 : decode cX8_keep 68 = .ok (.aload_n 0, 1) := by decide +kernel
theorem dX8_keep_69 : decode cX8_keep 69 = .ok (.dup, 1) := by decide +kernel
theorem dX8_keep_70 : decode cX8_keep 70 = .ok (.getfield 37, 3) := by decide +kernel
theorem dX8_keep_73 : decode cX8_keep 73 = .ok (.iconst 1, 1) := by decide +kernel
theorem dX8_keep_74 : decode cX8_keep 74 = .ok (.iadd, 1) := by decide +kernel
theorem dX8_keep_75 : decode cX8_keep 75 = .ok (.putfield 37, 3) := by decide +kernel
theorem dX8_keep_78 : decode cX8_keep 78 = .ok (.aload_n 0, 1) := by decide +kernel
theorem dX8_keep_79 : decode cX8_keep 79 = .ok (.getfield 37, 3) := by decide +kernel
theorem dX8_keep_82 : decode cX8_keep 82 = .ok (.iconst 1, 1) := by decide +kernel
theorem dX8_keep_83 : decode cX8_keep 83 = .ok (.isub, 1) := by decide +kernel
theorem dX8_keep_84 : decode cX8_keep 84 = .ok (.ireturn, 1) := by decide +kernel
set_option maxRecDepth 20000 in
theorem ggX9_addMetreOf_X0_code : GoodIn wsX9_addMetreOf wsX0_code := goodIn_r _ [12, 13, 14, 40, 41, 42, 43, 44, 45, 46, 47, 48, 49] (by decide +kernel) (by decide +kernel)
set_option maxRecDepth 20000 in
theorem gX9_addMetreOf_X0_code : GoodIn wsX9_addMetreOf (wsV RX9 57 RX0 yX0_code wsX0_code) := goodIn_app (goodIn_of _ (by decide +kernel)) ggX9_addMetreOf_X0_code
set_option maxRecDepth 20000 in
theorem ggX9_addMetreOf_X9_makeRoomForPiece : GoodIn wsX9_addMetreOf wsX9_makeRoomForPiece := goodIn_r _ [19, 2, 3, 20, 21, 22, 23, 4, 5, 6, 24, 25, 26, 27, 28, 29, 30, 31, 32, 33, 34, 35, 36, 37, 38, 39, 50, 51, 52, 53, 54, 55, 56, 57, 58] (by decide +kernel) (by decide +kernel)
set_option maxRecDepth 20000 in
theorem gX9_addMetreOf_X9_makeRoomForPiece : GoodIn wsX9_addMetreOf (wsV RX9 61 RX9 yX9_makeRoomForPiece wsX9_makeRoomForPiece) := goodIn_app (goodIn_of _ (by decide +kernel)) ggX9_addMetreOf_X9_makeRoomForPiece
theorem dX9_addMetreOf_0 : decode cX9_addMetreOf 0 = .ok (.aload_n 1, 1) := by decide +kernel
theorem dX9_addMetreOf_1 : decode cX9_addMetreOf 1 = .ok (.getfield 52, 3) := by decide +kernel
theorem dX9_addMetreOf_4 : decode cX9_addMetreOf 4 = .ok (.istore_n 3, 1) := by decide +kernel
theorem dX9_addMetreOf_5 : decode cX9_addMetreOf 5 = .ok (.iload_n 3, 1) := by decide +kernel
theorem dX9_addMetreOf_6 : decode cX9_addMetreOf 6 = .ok (.ifCond .lt 52, 3) := by decide +kernel
theorem dX9_addMetreOf_9 : decode cX9_addMetreOf 9 = .ok (.iload_n 3, 1) := by decide +kernel
theorem dX9_addMetreOf_10 : decode cX9_addMetreOf 10 = .ok (.aload_n 0, 1) := by decide +kernel
theorem dX9_addMetreOf_11 : decode cX9_addMetreOf 11 = .ok (.getfield 43, 3) := by decide +kernel
theorem dX9_addMetreOf_14 : decode cX9_addMetreOf 14 = .ok (.if_icmp .ge 44, 3) := by decide +kernel
theorem dX9_addMetreOf_17 : decode cX9_addMetreOf 17 = .ok (.aload_n 0, 1) := by decide +kernel
theorem dX9_addMetreOf_18 : decode cX9_addMetreOf 18 = .ok (.getfield 18, 3) := by decide +kernel
theorem dX9_addMetreOf_21 : decode cX9_addMetreOf 21 = .ok (.iload_n 3, 1) := by decide +kernel
theorem dX9_addMetreOf_22 : decode cX9_addMetreOf 22 = .ok (.iaload, 1) := by decide +kernel
theorem dX9_addMetreOf_23 : decode cX9_addMetreOf 23 = .ok (.aload_n 1, 1) := by decide +kernel
theorem dX9_addMetreOf_24 : decode cX9_addMetreOf 24 = .ok (.invokevirtual 57, 3) := by decide +kernel
theorem dX9_addMetreOf_27 : decode cX9_addMetreOf 27 = .ok (.if_icmp .ne 31, 3) := by decide +kernel
theorem dX9_addMetreOf_30 : decode cX9_addMetreOf 30 = .ok (.aload_n 0, 1) := by decide +kernel
theorem dX9_addMetreOf_31 : decode cX9_addMetreOf 31 = .ok (.getfield 21, 3) := by decide +kernel
theorem dX9_addMetreOf_34 : decode cX9_addMetreOf 34 = .ok (.iload_n 3, 1) := by decide +kernel
theorem dX9_addMetreOf_35 : decode cX9_addMetreOf 35 = .ok (.iaload, 1) := by decide +kernel
theorem dX9_addMetreOf_36 : decode cX9_addMetreOf 36 = .ok (.aload_n 0, 1) := by decide +kernel
theorem dX9_addMetreOf_37 : decode cX9_addMetreOf 37 = .ok (.getfield 24, 3) := by decide +kernel
theorem dX9_addMetreOf_40 : decode cX9_addMetreOf 40 = .ok (.iload_n 3, 1) := by decide +kernel
theorem dX9_addMetreOf_41 : decode cX9_addMetreOf 41 = .ok (.iaload, 1) := by decide +kernel
theorem dX9_addMetreOf_42 : decode cX9_addMetreOf 42 = .ok (.iadd, 1) := by decide +kernel
theorem dX9_addMetreOf_43 : decode cX9_addMetreOf 43 = .ok (.iload_n 2, 1) := by decide +kernel
theorem dX9_addMetreOf_44 : decode cX9_addMetreOf 44 = .ok (.if_icmp .ne 14, 3) := by decide +kernel
theorem dX9_addMetreOf_47 : decode cX9_addMetreOf 47 = .ok (.aload_n 0, 1) := by decide +kernel
theorem dX9_addMetreOf_48 : decode cX9_addMetreOf 48 = .ok (.getfield 24, 3) := by decide +kernel
theorem dX9_addMetreOf_51 : decode cX9_addMetreOf 51 = .ok (.iload_n 3, 1) := by decide +kernel
theorem dX9_addMetreOf_52 : decode cX9_addMetreOf 52 = .ok (.dup2, 1) := by decide +kernel
theorem dX9_addMetreOf_53 : decode cX9_addMetreOf 53 = .ok (.iaload, 1) := by decide +kernel
theorem dX9_addMetreOf_54 : decode cX9_addMetreOf 54 = .ok (.iconst 1, 1) := by decide +kernel
theorem dX9_addMetreOf_55 : decode cX9_addMetreOf 55 = .ok (.iadd, 1) := by decide +kernel
theorem dX9_addMetreOf_56 : decode cX9_addMetreOf 56 = .ok (.iastore, 1) := by decide +kernel
theorem dX9_addMetreOf_57 : decode cX9_addMetreOf 57 = .ok (.return_, 1) := by decide +kernel
theorem dX9_addMetreOf_58 : decode cX9_addMetreOf 58 = .ok (.aload_n 0, 1) := by decide +kernel
theorem dX9_addMetreOf_59 : decode cX9_addMetreOf 59 = .ok (.getfield 43, 3) := by decide +kernel
theorem dX9_addMetreOf_62 : decode cX9_addMetreOf 62 = .ok (.sipush 3600, 3) := by decide +kernel
theorem dX9_addMetreOf_65 : decode cX9_addMetreOf 65 = .ok (.if_icmp .lt 4, 3) := by decide +kernel
theorem dX9_addMetreOf_68 : decode cX9_addMetreOf 68 = .ok (.return_, 1) := by decide +kernel
theorem dX9_addMetreOf_69 : decode cX9_addMetreOf 69 = .ok (.aload_n 0, 1) := by decide +kernel
theorem dX9_addMetreOf_70 : decode cX9_addMetreOf 70 = .ok (.invokevirtual 61, 3) := by decide +kernel
theorem dX9_addMetreOf_73 : decode cX9_addMetreOf 73 = .ok (.aload_n 0, 1) := by decide +kernel
theorem dX9_addMetreOf_74 : decode cX9_addMetreOf 74 = .ok (.getfield 18, 3) := by decide +kernel
theorem dX9_addMetreOf_77 : decode cX9_addMetreOf 77 = .ok (.aload_n 0, 1) := by decide +kernel
theorem dX9_addMetreOf_78 : decode cX9_addMetreOf 78 = .ok (.getfield 43, 3) := by decide +kernel
theorem dX9_addMetreOf_81 : decode cX9_addMetreOf 81 = .ok (.aload_n 1, 1) := by decide +kernel
theorem dX9_addMetreOf_82 : decode cX9_addMetreOf 82 = .ok (.invokevirtual 57, 3) := by decide +kernel
theorem dX9_addMetreOf_85 : decode cX9_addMetreOf 85 = .ok (.iastore, 1) := by decide +kernel
theorem dX9_addMetreOf_86 : decode cX9_addMetreOf 86 = .ok (.aload_n 0, 1) := by decide +kernel
theorem dX9_addMetreOf_87 : decode cX9_addMetreOf 87 = .ok (.getfield 21, 3) := by decide +kernel
theorem dX9_addMetreOf_90 : decode cX9_addMetreOf 90 = .ok (.aload_n 0, 1) := by decide +kernel
theorem dX9_addMetreOf_91 : decode cX9_addMetreOf 91 = .ok (.getfield 43, 3) := by decide +kernel
theorem dX9_addMetreOf_94 : decode cX9_addMetreOf 94 = .ok (.iload_n 2, 1) := by decide +kernel
theorem dX9_addMetreOf_95 : decode cX9_addMetreOf 95 = .ok (.iastore, 1) := by decide +kernel
theorem dX9_addMetreOf_96 : decode cX9_addMetreOf 96 = .ok (.aload_n 0, 1) := by decide +kernel
theorem dX9_addMetreOf_97 : decode cX9_addMetreOf 97 = .ok (.getfield 24, 3) := by decide +kernel
theorem dX9_addMetreOf_100 : decode cX9_addMetreOf 100 = .ok (.aload_n 0, 1) := by decide +kernel
theorem dX9_addMetreOf_101 : decode cX9_addMetreOf 101 = .ok (.getfield 43, 3) := by decide +kernel
theorem dX9_addMetreOf_104 : decode cX9_addMetreOf 104 = .ok (.iconst 1, 1) := by decide +kernel
theorem dX9_addMetreOf_105 : decode cX9_addMetreOf 105 = .ok (.iastore, 1) := by decide +kernel
theorem dX9_addMetreOf_106 : decode cX9_addMetreOf 106 = .ok (.aload_n 0, 1) := by decide +kernel
theorem dX9_addMetreOf_107 : decode cX9_addMetreOf 107 = .ok (.getfield 27, 3) := by decide +kernel
theorem dX9_addMetreOf_110 : decode cX9_addMetreOf 110 = .ok (.aload_n 0, 1) := by decide +kernel
theorem dX9_addMetreOf_111 : decode cX9_addMetreOf 111 = .ok (.getfield 43, 3) := by decide +kernel
theorem dX9_addMetreOf_114 : decode cX9_addMetreOf 114 = .ok (.aload_n 1, 1) := by decide +kernel
theorem dX9_addMetreOf_115 : decode cX9_addMetreOf 115 = .ok (.getfield 64, 3) := by decide +kernel
theorem dX9_addMetreOf_118 : decode cX9_addMetreOf 118 = .ok (.iastore, 1) := by decide +kernel
theorem dX9_addMetreOf_119 : decode cX9_addMetreOf 119 = .ok (.aload_n 1, 1) := by decide +kernel
theorem dX9_addMetreOf_120 : decode cX9_addMetreOf 120 = .ok (.aload_n 0, 1) := by decide +kernel
theorem dX9_addMetreOf_121 : decode cX9_addMetreOf 121 = .ok (.getfield 43, 3) := by decide +kernel
theorem dX9_addMetreOf_124 : decode cX9_addMetreOf 124 = .ok (.putfield 52, 3) := by decide +kernel
theorem dX9_addMetreOf_127 : decode cX9_addMetreOf 127 = .ok (.aload_n 0, 1) := by decide +kernel
theorem dX9_addMetreOf_128 : decode cX9_addMetreOf 128 = .ok (.dup, 1) := by decide +kernel
theorem dX9_addMetreOf_129 : decode cX9_addMetreOf 129 = .ok (.getfield 43, 3) := by decide +kernel
theorem dX9_addMetreOf_132 : decode cX9_addMetreOf 132 = .ok (.iconst 1, 1) := by decide +kernel
theorem dX9_addMetreOf_133 : decode cX9_addMetreOf 133 = .ok (.iadd, 1) := by decide +kernel
theorem dX9_addMetreOf_134 : decode cX9_addMetreOf 134 = .ok (.putfield 43, 3) := by decide +kernel
theorem dX9_addMetreOf_137 : decode cX9_addMetreOf 137 = .ok (.return_, 1) := by decide +kernel
set_option maxRecDepth 20000 in
theorem ggX9_makeRoomForPiece_J7_copyOf_59c91 : GoodIn wsX9_makeRoomForPiece wsJ7_copyOf_59c91 := goodIn_r _ [13, 14, 15, 16, 17, 18, 19, 20, 21, 4, 5, 6, 22, 23, 24, 25] (by decide +kernel) (by decide +kernel)
set_option maxRecDepth 20000 in
theorem gX9_makeRoomForPiece_J7_copyOf_59c91 : GoodIn wsX9_makeRoomForPiece (va_wsS RX9 46 yJ7_copyOf_59c91 wsJ7_copyOf_59c91) := goodIn_app (goodIn_of _ (by decide +kernel)) ggX9_makeRoomForPiece_J7_copyOf_59c91
theorem dX9_makeRoomForPiece_0 : decode cX9_makeRoomForPiece 0 = .ok (.aload_n 0, 1) := by decide +kernel
theorem dX9_makeRoomForPiece_1 : decode cX9_makeRoomForPiece 1 = .ok (.getfield 43, 3) := by decide +kernel
theorem dX9_makeRoomForPiece_4 : decode cX9_makeRoomForPiece 4 = .ok (.aload_n 0, 1) := by decide +kernel
theorem dX9_makeRoomForPiece_5 : decode cX9_makeRoomForPiece 5 = .ok (.getfield 18, 3) := by decide +kernel
theorem dX9_makeRoomForPiece_8 : decode cX9_makeRoomForPiece 8 = .ok (.arraylength, 1) := by decide +kernel
theorem dX9_makeRoomForPiece_9 : decode cX9_makeRoomForPiece 9 = .ok (.if_icmp .ge 4, 3) := by decide +kernel
theorem dX9_makeRoomForPiece_12 : decode cX9_makeRoomForPiece 12 = .ok (.return_, 1) := by decide +kernel
theorem dX9_makeRoomForPiece_13 : decode cX9_makeRoomForPiece 13 = .ok (.sipush 3600, 3) := by decide +kernel
theorem dX9_makeRoomForPiece_16 : decode cX9_makeRoomForPiece 16 = .ok (.iconst 2, 1) := by decide +kernel
theorem dX9_makeRoomForPiece_17 : decode cX9_makeRoomForPiece 17 = .ok (.aload_n 0, 1) := by decide +kernel
theorem dX9_makeRoomForPiece_18 : decode cX9_makeRoomForPiece 18 = .ok (.getfield 43, 3) := by decide +kernel
theorem dX9_makeRoomForPiece_21 : decode cX9_makeRoomForPiece 21 = .ok (.imul, 1) := by decide +kernel
theorem dX9_makeRoomForPiece_22 : decode cX9_makeRoomForPiece 22 = .ok (.iconst 1, 1) := by decide +kernel
theorem dX9_makeRoomForPiece_23 : decode cX9_makeRoomForPiece 23 = .ok (.iadd, 1) := by decide +kernel
theorem dX9_makeRoomForPiece_24 : decode cX9_makeRoomForPiece 24 = .ok (.invokestatic 67, 3) := by decide +kernel
theorem dX9_makeRoomForPiece_27 : decode cX9_makeRoomForPiece 27 = .ok (.istore_n 1, 1) := by decide +kernel
theorem dX9_makeRoomForPiece_28 : decode cX9_makeRoomForPiece 28 = .ok (.aload_n 0, 1) := by decide +kernel
theorem dX9_makeRoomForPiece_29 : decode cX9_makeRoomForPiece 29 = .ok (.aload_n 0, 1) := by decide +kernel
theorem dX9_makeRoomForPiece_30 : decode cX9_makeRoomForPiece 30 = .ok (.getfield 18, 3) := by decide +kernel
theorem dX9_makeRoomForPiece_33 : decode cX9_makeRoomForPiece 33 = .ok (.iload_n 1, 1) := by decide +kernel
theorem dX9_makeRoomForPiece_34 : decode cX9_makeRoomForPiece 34 = .ok (.invokestatic 46, 3) := by decide +kernel
theorem dX9_makeRoomForPiece_37 : decode cX9_makeRoomForPiece 37 = .ok (.putfield 18, 3) := by decide +kernel
theorem dX9_makeRoomForPiece_40 : decode cX9_makeRoomForPiece 40 = .ok (.aload_n 0, 1) := by decide +kernel
theorem dX9_makeRoomForPiece_41 : decode cX9_makeRoomForPiece 41 = .ok (.aload_n 0, 1) := by decide +kernel
theorem dX9_makeRoomForPiece_42 : decode cX9_makeRoomForPiece 42 = .ok (.getfield 21, 3) := by decide +kernel
theorem dX9_makeRoomForPiece_45 : decode cX9_makeRoomForPiece 45 = .ok (.iload_n 1, 1) := by decide +kernel
theorem dX9_makeRoomForPiece_46 : decode cX9_makeRoomForPiece 46 = .ok (.invokestatic 46, 3) := by decide +kernel
theorem dX9_makeRoomForPiece_49 : decode cX9_makeRoomForPiece 49 = .ok (.putfield 21, 3) := by decide +kernel
theorem dX9_makeRoomForPiece_52 : decode cX9_makeRoomForPiece 52 = .ok (.aload_n 0, 1) := by decide +kernel
theorem dX9_makeRoomForPiece_53 : decode cX9_makeRoomForPiece 53 = .ok (.aload_n 0, 1) := by decide +kernel
theorem dX9_makeRoomForPiece_54 : decode cX9_makeRoomForPiece 54 = .ok (.getfield 24, 3) := by decide +kernel
theorem dX9_makeRoomForPiece_57 : decode cX9_makeRoomForPiece 57 = .ok (.iload_n 1, 1) := by decide +kernel
theorem dX9_makeRoomForPiece_58 : decode cX9_makeRoomForPiece 58 = .ok (.invokestatic 46, 3) := by decide +kernel
theorem dX9_makeRoomForPiece_61 : decode cX9_makeRoomForPiece 61 = .ok (.putfield 24, 3) := by decide +kernel
theorem dX9_makeRoomForPiece_64 : decode cX9_makeRoomForPiece 64 = .ok (.aload_n 0, 1) := by decide +kernel
theorem dX9_makeRoomForPiece_65 : decode cX9_makeRoomForPiece 65 = .ok (.aload_n 0, 1) := by decide +kernel
theorem dX9_makeRoomForPiece_66 : decode cX9_makeRoomForPiece 66 = .ok (.getfield 27, 3) := by decide +kernel
theorem dX9_makeRoomForPiece_69 : decode cX9_makeRoomForPiece 69 = .ok (.iload_n 1, 1) := by decide +kernel
theorem dX9_makeRoomForPiece_70 : decode cX9_makeRoomForPiece 70 = .ok (.invokestatic 46, 3) := by decide +kernel
theorem dX9_makeRoomForPiece_73 : decode cX9_makeRoomForPiece 73 = .ok (.putfield 27, 3) := by decide +kernel
theorem dX9_makeRoomForPiece_76 : decode cX9_makeRoomForPiece 76 = .ok (.return_, 1) := by decide +kernel
set_option maxRecDepth 20000 in
theorem ggX11_lot_X11_isWithin : GoodIn wsX11_lot wsX11_isWithin := goodIn_r _ [10] (by decide +kernel) (by decide +kernel)
set_option maxRecDepth 20000 in
theorem gX11_lot_X11_isWithin : GoodIn wsX11_lot (va_wsS RX11 67 yX11_isWithin wsX11_isWithin) := goodIn_app (goodIn_of _ (by decide +kernel)) ggX11_lot_X11_isWithin
set_option maxRecDepth 20000 in
theorem ggX11_lot_X0_init : GoodIn wsX11_lot wsX0_init := goodIn_r _ [13, 14, 15, 16, 17, 18, 19, 20, 21, 22, 23, 24, 25, 26, 27, 28, 29, 9, 30, 31, 44, 45, 46, 47, 48, 49, 50, 51, 52, 53] (by decide +kernel) (by decide +kernel)
set_option maxRecDepth 20000 in
theorem gX11_lot_X0_init : GoodIn wsX11_lot (wsX0_init) := ggX11_lot_X0_init
theorem dX11_lot_0 : decode cX11_lot 0 = .ok (.aload_n 0, 1) := by decide +kernel
theorem dX11_lot_1 : decode cX11_lot 1 = .ok (.getfield 63, 3) := by decide +kernel
theorem dX11_lot_4 : decode cX11_lot 4 = .ok (.bipush 10, 2) := by decide +kernel
theorem dX11_lot_6 : decode cX11_lot 6 = .ok (.if_icmp .ge 49, 3) := by decide +kernel
theorem dX11_lot_9 : decode cX11_lot 9 = .ok (.iload_n 1, 1) := by decide +kernel
theorem dX11_lot_10 : decode cX11_lot 10 = .ok (.iconst 1, 1) := by decide +kernel
theorem dX11_lot_11 : decode cX11_lot 11 = .ok (.bipush 60, 2) := by decide +kernel
theorem dX11_lot_13 : decode cX11_lot 13 = .ok (.invokestatic 67, 3) := by decide +kernel
theorem dX11_lot_16 : decode cX11_lot 16 = .ok (.ifCond .eq 39, 3) := by decide +kernel
theorem dX11_lot_19 : decode cX11_lot 19 = .ok (.iload_n 3, 1) := by decide +kernel
theorem dX11_lot_20 : decode cX11_lot 20 = .ok (.bipush 20, 2) := by decide +kernel
theorem dX11_lot_22 : decode cX11_lot 22 = .ok (.bipush 60, 2) := by decide +kernel
theorem dX11_lot_24 : decode cX11_lot 24 = .ok (.invokestatic 67, 3) := by decide +kernel
theorem dX11_lot_27 : decode cX11_lot 27 = .ok (.ifCond .eq 28, 3) := by decide +kernel
theorem dX11_lot_30 : decode cX11_lot 30 = .ok (.iload 4, 2) := by decide +kernel
theorem dX11_lot_32 : decode cX11_lot 32 = .ok (.bipush 40, 2) := by decide +kernel
theorem dX11_lot_34 : decode cX11_lot 34 = .ok (.sipush 200, 3) := by decide +kernel
theorem dX11_lot_37 : decode cX11_lot 37 = .ok (.invokestatic 67, 3) := by decide +kernel
theorem dX11_lot_40 : decode cX11_lot 40 = .ok (.ifCond .eq 15, 3) := by decide +kernel
theorem dX11_lot_43 : decode cX11_lot 43 = .ok (.iload 5, 2) := by decide +kernel
theorem dX11_lot_45 : decode cX11_lot 45 = .ok (.iconst 0, 1) := by decide +kernel
theorem dX11_lot_46 : decode cX11_lot 46 = .ok (.sipush 200, 3) := by decide +kernel
theorem dX11_lot_49 : decode cX11_lot 49 = .ok (.invokestatic 67, 3) := by decide +kernel
theorem dX11_lot_52 : decode cX11_lot 52 = .ok (.ifCond .ne 5, 3) := by decide +kernel
theorem dX11_lot_55 : decode cX11_lot 55 = .ok (.iconst (-1), 1) := by decide +kernel
theorem dX11_lot_56 : decode cX11_lot 56 = .ok (.ireturn, 1) := by decide +kernel
theorem dX11_lot_57 : decode cX11_lot 57 = .ok (.iconst 0, 1) := by decide +kernel
theorem dX11_lot_58 : decode cX11_lot 58 = .ok (.istore 6, 2) := by decide +kernel
theorem dX11_lot_60 : decode cX11_lot 60 = .ok (.iload 6, 2) := by decide +kernel
theorem dX11_lot_62 : decode cX11_lot 62 = .ok (.iload_n 1, 1) := by decide +kernel
theorem dX11_lot_63 : decode cX11_lot 63 = .ok (.if_icmp .ge 43, 3) := by decide +kernel
theorem dX11_lot_66 : decode cX11_lot 66 = .ok (.aload_n 0, 1) := by decide +kernel
theorem dX11_lot_67 : decode cX11_lot 67 = .ok (.getfield 11, 3) := by decide +kernel
theorem dX11_lot_70 : decode cX11_lot 70 = .ok (.aload_n 0, 1) := by decide +kernel
theorem dX11_lot_71 : decode cX11_lot 71 = .ok (.getfield 63, 3) := by decide +kernel
theorem dX11_lot_74 : decode cX11_lot 74 = .ok (.bipush 60, 2) := by decide +kernel
theorem dX11_lot_76 : decode cX11_lot 76 = .ok (.imul, 1) := by decide +kernel
theorem dX11_lot_77 : decode cX11_lot 77 = .ok (.iload 6, 2) := by decide +kernel
theorem dX11_lot_79 : decode cX11_lot 79 = .ok (.iadd, 1) := by decide +kernel
theorem dX11_lot_80 : decode cX11_lot 80 = .ok (.new 9, 3) := by decide +kernel
theorem dX11_lot_83 : decode cX11_lot 83 = .ok (.dup, 1) := by decide +kernel
theorem dX11_lot_84 : decode cX11_lot 84 = .ok (.aload_n 0, 1) := by decide +kernel
theorem dX11_lot_85 : decode cX11_lot 85 = .ok (.getfield 63, 3) := by decide +kernel
theorem dX11_lot_88 : decode cX11_lot 88 = .ok (.iload 6, 2) := by decide +kernel
theorem dX11_lot_90 : decode cX11_lot 90 = .ok (.iload_n 2, 1) := by decide +kernel
theorem dX11_lot_91 : decode cX11_lot 91 = .ok (.iload_n 3, 1) := by decide +kernel
theorem dX11_lot_92 : decode cX11_lot 92 = .ok (.iload 4, 2) := by decide +kernel
theorem dX11_lot_94 : decode cX11_lot 94 = .ok (.iload 5, 2) := by decide +kernel
theorem dX11_lot_96 : decode cX11_lot 96 = .ok (.invokespecial 71, 3) := by decide +kernel
theorem dX11_lot_99 : decode cX11_lot 99 = .ok (.aastore, 1) := by decide +kernel
theorem dX11_lot_100 : decode cX11_lot 100 = .ok (.iinc 6 1, 3) := by decide +kernel
theorem dX11_lot_103 : decode cX11_lot 103 = .ok (.goto (-43), 3) := by decide +kernel
theorem dX11_lot_106 : decode cX11_lot 106 = .ok (.aload_n 0, 1) := by decide +kernel
theorem dX11_lot_107 : decode cX11_lot 107 = .ok (.getfield 15, 3) := by decide +kernel
theorem dX11_lot_110 : decode cX11_lot 110 = .ok (.aload_n 0, 1) := by decide +kernel
theorem dX11_lot_111 : decode cX11_lot 111 = .ok (.getfield 63, 3) := by decide +kernel
theorem dX11_lot_114 : decode cX11_lot 114 = .ok (.iload_n 1, 1) := by decide +kernel
theorem dX11_lot_115 : decode cX11_lot 115 = .ok (.iastore, 1) := by decide +kernel
theorem dX11_lot_116 : decode cX11_lot 116 = .ok (.aload_n 0, 1) := by decide +kernel
theorem dX11_lot_117 : decode cX11_lot 117 = .ok (.dup, 1) := by decide +kernel
theorem dX11_lot_118 : decode cX11_lot 118 = .ok (.getfield 63, 3) := by decide +kernel
theorem dX11_lot_121 : decode cX11_lot 121 = .ok (.iconst 1, 1) := by decide +kernel
theorem dX11_lot_122 : decode cX11_lot 122 = .ok (.iadd, 1) := by decide +kernel
theorem dX11_lot_123 : decode cX11_lot 123 = .ok (.putfield 63, 3) := by decide +kernel
theorem dX11_lot_126 : decode cX11_lot 126 = .ok (.aload_n 0, 1) := by decide +kernel
theorem dX11_lot_127 : decode cX11_lot 127 = .ok (.getfield 63, 3) := by decide +kernel
theorem dX11_lot_130 : decode cX11_lot 130 = .ok (.iconst 1, 1) := by decide +kernel
theorem dX11_lot_131 : decode cX11_lot 131 = .ok (.isub, 1) := by decide +kernel
theorem dX11_lot_132 : decode cX11_lot 132 = .ok (.ireturn, 1) := by decide +kernel
set_option maxRecDepth 20000 in
theorem ggX11_pot_X11_isTarget : GoodIn wsX11_pot wsX11_isTarget := goodIn_r _ [9, 10, 11, 8, 12] (by decide +kernel) (by decide +kernel)
set_option maxRecDepth 20000 in
theorem gX11_pot_X11_isTarget : GoodIn wsX11_pot (va_wsS RX11 127 yX11_isTarget wsX11_isTarget) := goodIn_app (goodIn_of _ (by decide +kernel)) ggX11_pot_X11_isTarget
set_option maxRecDepth 20000 in
theorem ggX11_pot_X11_isWithin : GoodIn wsX11_pot wsX11_isWithin := goodIn_r _ [12] (by decide +kernel) (by decide +kernel)
set_option maxRecDepth 20000 in
theorem gX11_pot_X11_isWithin : GoodIn wsX11_pot (va_wsS RX11 67 yX11_isWithin wsX11_isWithin) := goodIn_app (goodIn_of _ (by decide +kernel)) ggX11_pot_X11_isWithin
set_option maxRecDepth 20000 in
theorem ggX11_pot_X4_init : GoodIn wsX11_pot wsX4_init := goodIn_r _ [15, 16, 17, 18, 19, 20, 21, 22, 23, 24, 25, 26, 27, 28, 29, 30, 31, 32, 33, 34, 35, 36, 37, 38, 39, 40, 41, 42, 43, 44, 45, 46, 47, 48, 49, 50, 51, 52, 53, 54, 55, 56, 57, 58, 59, 60, 61, 62, 63, 64, 65, 90, 91, 92, 78, 79, 80, 81, 82, 83, 84, 85, 86, 87, 88, 89, 93, 94, 95, 96, 97, 98, 99, 100, 101, 102, 103, 104, 105, 106, 107, 108] (by decide +kernel) (by decide +kernel)
set_option maxRecDepth 20000 in
theorem gX11_pot_X4_init : GoodIn wsX11_pot (wsX4_init) := ggX11_pot_X4_init
theorem dX11_pot_0 : decode cX11_pot 0 = .ok (.aload_n 0, 1) := by decide +kernel
theorem dX11_pot_1 : decode cX11_pot 1 = .ok (.getfield 124, 3) := by decide +kernel
theorem dX11_pot_4 : decode cX11_pot 4 = .ok (.iconst 4, 1) := by decide +kernel
theorem dX11_pot_5 : decode cX11_pot 5 = .ok (.if_icmp .ge 20, 3) := by decide +kernel
theorem dX11_pot_8 : decode cX11_pot 8 = .ok (.iload_n 1, 1) := by decide +kernel
theorem dX11_pot_9 : decode cX11_pot 9 = .ok (.invokestatic 127, 3) := by decide +kernel
theorem dX11_pot_12 : decode cX11_pot 12 = .ok (.ifCond .eq 13, 3) := by decide +kernel
theorem dX11_pot_15 : decode cX11_pot 15 = .ok (.iload_n 2, 1) := by decide +kernel
theorem dX11_pot_16 : decode cX11_pot 16 = .ok (.iconst 1, 1) := by decide +kernel
theorem dX11_pot_17 : decode cX11_pot 17 = .ok (.bipush 50, 2) := by decide +kernel
theorem dX11_pot_19 : decode cX11_pot 19 = .ok (.invokestatic 67, 3) := by decide +kernel
theorem dX11_pot_22 : decode cX11_pot 22 = .ok (.ifCond .ne 5, 3) := by decide +kernel
theorem dX11_pot_25 : decode cX11_pot 25 = .ok (.iconst (-1), 1) := by decide +kernel
theorem dX11_pot_26 : decode cX11_pot 26 = .ok (.ireturn, 1) := by decide +kernel
theorem dX11_pot_27 : decode cX11_pot 27 = .ok (.aload_n 0, 1) := by decide +kernel
theorem dX11_pot_28 : decode cX11_pot 28 = .ok (.getfield 21, 3) := by decide +kernel
theorem dX11_pot_31 : decode cX11_pot 31 = .ok (.aload_n 0, 1) := by decide +kernel
theorem dX11_pot_32 : decode cX11_pot 32 = .ok (.getfield 124, 3) := by decide +kernel
theorem dX11_pot_35 : decode cX11_pot 35 = .ok (.new 19, 3) := by decide +kernel
theorem dX11_pot_38 : decode cX11_pot 38 = .ok (.dup, 1) := by decide +kernel
theorem dX11_pot_39 : decode cX11_pot 39 = .ok (.aload_n 0, 1) := by decide +kernel
theorem dX11_pot_40 : decode cX11_pot 40 = .ok (.getfield 124, 3) := by decide +kernel
theorem dX11_pot_43 : decode cX11_pot 43 = .ok (.iload_n 1, 1) := by decide +kernel
theorem dX11_pot_44 : decode cX11_pot 44 = .ok (.iload_n 2, 1) := by decide +kernel
theorem dX11_pot_45 : decode cX11_pot 45 = .ok (.invokespecial 131, 3) := by decide +kernel
theorem dX11_pot_48 : decode cX11_pot 48 = .ok (.aastore, 1) := by decide +kernel
theorem dX11_pot_49 : decode cX11_pot 49 = .ok (.aload_n 0, 1) := by decide +kernel
theorem dX11_pot_50 : decode cX11_pot 50 = .ok (.dup, 1) := by decide +kernel
theorem dX11_pot_51 : decode cX11_pot 51 = .ok (.getfield 124, 3) := by decide +kernel
theorem dX11_pot_54 : decode cX11_pot 54 = .ok (.iconst 1, 1) := by decide +kernel
theorem dX11_pot_55 : decode cX11_pot 55 = .ok (.iadd, 1) := by decide +kernel
theorem dX11_pot_56 : decode cX11_pot 56 = .ok (.putfield 124, 3) := by decide +kernel
theorem dX11_pot_59 : decode cX11_pot 59 = .ok (.aload_n 0, 1) := by decide +kernel
theorem dX11_pot_60 : decode cX11_pot 60 = .ok (.getfield 124, 3) := by decide +kernel
theorem dX11_pot_63 : decode cX11_pot 63 = .ok (.iconst 1, 1) := by decide +kernel
theorem dX11_pot_64 : decode cX11_pot 64 = .ok (.isub, 1) := by decide +kernel
theorem dX11_pot_65 : decode cX11_pot 65 = .ok (.ireturn, 1) := by decide +kernel
set_option maxRecDepth 20000 in
theorem ggX11_run_X11_potAt : GoodIn wsX11_run wsX11_potAt := goodIn_r _ [6, 7, 8, 267, 268, 269, 270, 271, 272, 273, 274, 275, 276, 277, 278] (by decide +kernel) (by decide +kernel)
set_option maxRecDepth 20000 in
theorem gX11_run_X11_potAt : GoodIn wsX11_run (wsV RX11 134 RX11 yX11_potAt wsX11_potAt) := goodIn_app (goodIn_of _ (by decide +kernel)) ggX11_run_X11_potAt
set_option maxRecDepth 20000 in
theorem ggX11_run_X11_isWithin : GoodIn wsX11_run wsX11_isWithin := goodIn_r _ [11] (by decide +kernel) (by decide +kernel)
set_option maxRecDepth 20000 in
theorem gX11_run_X11_isWithin : GoodIn wsX11_run (va_wsS RX11 67 yX11_isWithin wsX11_isWithin) := goodIn_app (goodIn_of _ (by decide +kernel)) ggX11_run_X11_isWithin
set_option maxRecDepth 20000 in
theorem ggX11_run_X4_tick : GoodIn wsX11_run wsX4_tick := goodIn_r _ [16, 17, 18, 19, 20, 21, 22, 23, 15, 24, 25, 26, 27, 28, 29, 30, 31, 32, 33, 34, 35, 36, 37, 38, 39, 40, 41, 42, 43, 44, 45, 46, 47, 48, 49, 50, 51, 52, 53, 54, 55, 56, 57, 58, 59, 60, 61, 62, 63, 64, 65, 66, 67, 68, 69, 70, 71, 72, 73, 74, 75, 76, 77, 78, 79, 80, 81, 82, 83, 84, 85, 86, 87, 88, 89, 90, 91, 92, 93, 94, 95, 96, 97, 98, 99, 100, 101, 102, 103, 104, 105, 106, 107, 108, 109, 110, 111, 112, 113, 114, 115, 116, 117, 118, 119, 120, 121, 122, 123, 124, 125, 126, 127, 128, 129, 130, 131, 132, 133, 134, 135, 136, 137, 138, 139, 140, 141, 142, 143, 144, 145, 146, 147, 148, 149, 150, 151, 152, 153, 154, 155, 156, 157, 158, 159, 160, 161, 162, 163, 164, 165, 166, 167, 168, 169, 170, 171, 172, 173, 174, 175, 176, 177, 178, 179, 180, 181, 182, 183, 184, 185, 186, 187, 188, 189, 190, 191, 192, 193, 194, 195, 196, 197, 198, 199, 200, 201, 202, 203, 204, 205, 206, 207, 208, 209, 210, 211, 212, 213, 214, 215, 216, 217, 218, 219, 220, 221, 222, 223, 224, 225, 226, 227, 228, 229, 230, 231, 232, 233, 234, 235, 236, 237, 238, 239, 240, 241, 242, 243, 244, 245, 246, 247, 248, 249, 250, 251, 252, 253, 254, 255, 256, 257, 258, 259, 260, 261, 262, 263, 264, 5, 265, 266, 279, 280, 281, 282, 283, 284, 285, 286, 287, 288, 289, 290, 291, 292, 293, 294, 295, 296, 297, 298, 299, 300, 301, 302, 303, 304, 305, 306, 307, 308, 309, 310, 311, 312, 313, 314, 315, 316, 317, 318, 319, 320, 321, 322, 323, 324, 325, 326, 327, 328, 329, 330, 331, 332, 333, 334, 335, 336, 337, 338, 339, 340, 341, 342] (by decide +kernel) (by decide +kernel)
set_option maxRecDepth 20000 in
theorem gX11_run_X4_tick : GoodIn wsX11_run (wsV RX11 169 RX4 yX4_tick wsX4_tick) := goodIn_app (goodIn_of _ (by decide +kernel)) ggX11_run_X4_tick
theorem dX11_run_0 : decode cX11_run 0 = .ok (.aload_n 0, 1) := by decide +kernel
theorem dX11_run_1 : decode cX11_run 1 = .ok (.iload_n 1, 1) := by decide +kernel
theorem dX11_run_2 : decode cX11_run 2 = .ok (.invokevirtual 134, 3) := by decide +kernel
theorem dX11_run_5 : decode cX11_run 5 = .ok (.astore_n 3, 1) := by decide +kernel
theorem dX11_run_6 : decode cX11_run 6 = .ok (.aload_n 3, 1) := by decide +kernel
theorem dX11_run_7 : decode cX11_run 7 = .ok (.ifnull 14, 3) := by decide +kernel
theorem dX11_run_10 : decode cX11_run 10 = .ok (.iload_n 2, 1) := by decide +kernel
theorem dX11_run_11 : decode cX11_run 11 = .ok (.iconst 0, 1) := by decide +kernel
theorem dX11_run_12 : decode cX11_run 12 = .ok (.sipush 300, 3) := by decide +kernel
theorem dX11_run_15 : decode cX11_run 15 = .ok (.invokestatic 67, 3) := by decide +kernel
theorem dX11_run_18 : decode cX11_run 18 = .ok (.ifCond .ne 5, 3) := by decide +kernel
theorem dX11_run_21 : decode cX11_run 21 = .ok (.iconst (-1), 1) := by decide +kernel
theorem dX11_run_22 : decode cX11_run 22 = .ok (.ireturn, 1) := by decide +kernel
theorem dX11_run_23 : decode cX11_run 23 = .ok (.iconst 0, 1) := by decide +kernel
theorem dX11_run_24 : decode cX11_run 24 = .ok (.istore 4, 2) := by decide +kernel
theorem dX11_run_26 : decode cX11_run 26 = .ok (.iconst 0, 1) := by decide +kernel
theorem dX11_run_27 : decode cX11_run 27 = .ok (.istore 5, 2) := by decide +kernel
theorem dX11_run_29 : decode cX11_run 29 = .ok (.iload 5, 2) := by decide +kernel
theorem dX11_run_31 : decode cX11_run 31 = .ok (.iload_n 2, 1) := by decide +kernel
theorem dX11_run_32 : decode cX11_run 32 = .ok (.if_icmp .ge 23, 3) := by decide +kernel
theorem dX11_run_35 : decode cX11_run 35 = .ok (.aload_n 3, 1) := by decide +kernel
theorem dX11_run_36 : decode cX11_run 36 = .ok (.aload_n 0, 1) := by decide +kernel
theorem dX11_run_37 : decode cX11_run 37 = .ok (.getfield 42, 3) := by decide +kernel
theorem dX11_run_40 : decode cX11_run 40 = .ok (.invokevirtual 169, 3) := by decide +kernel
theorem dX11_run_43 : decode cX11_run 43 = .ok (.ifCond .eq 6, 3) := by decide +kernel
theorem dX11_run_46 : decode cX11_run 46 = .ok (.iinc 4 1, 3) := by decide +kernel
theorem dX11_run_49 : decode cX11_run 49 = .ok (.iinc 5 1, 3) := by decide +kernel
theorem dX11_run_52 : decode cX11_run 52 = .ok (.goto (-23), 3) := by decide +kernel
theorem dX11_run_55 : decode cX11_run 55 = .ok (.iload 4, 2) := by decide +kernel
theorem dX11_run_57 : decode cX11_run 57 = .ok (.ireturn, 1) := by decide +kernel
set_option maxRecDepth 20000 in
theorem ggX11_cut_X11_potAt : GoodIn wsX11_cut wsX11_potAt := goodIn_r _ [6, 7, 8, 95, 96, 97, 98, 99, 100, 101, 102, 103, 104, 105, 106] (by decide +kernel) (by decide +kernel)
set_option maxRecDepth 20000 in
theorem gX11_cut_X11_potAt : GoodIn wsX11_cut (wsV RX11 134 RX11 yX11_potAt wsX11_potAt) := goodIn_app (goodIn_of _ (by decide +kernel)) ggX11_cut_X11_potAt
set_option maxRecDepth 20000 in
theorem ggX11_cut_X4_cutStrand : GoodIn wsX11_cut wsX4_cutStrand := goodIn_r _ [13, 14, 15, 16, 17, 18, 19, 20, 21, 22, 23, 24, 25, 26, 27, 28, 29, 30, 31, 32, 33, 34, 35, 36, 37, 38, 39, 40, 41, 42, 43, 44, 45, 46, 47, 48, 49, 50, 51, 52, 53, 54, 55, 56, 57, 58, 59, 60, 61, 62, 63, 64, 65, 66, 67, 68, 69, 70, 71, 72, 73, 74, 75, 76, 77, 78, 79, 80, 81, 82, 83, 84, 85, 86, 87, 88, 89, 90, 91, 92, 93, 94, 107, 108, 109, 110, 111, 112, 113, 114, 115, 116, 117, 118, 119, 120, 121, 122, 123, 124, 125, 126, 127, 128, 129, 130, 131, 132, 133, 134, 135, 136, 137, 138, 139, 140, 141, 142, 143, 144, 145, 146, 147, 148, 149, 150] (by decide +kernel) (by decide +kernel)
set_option maxRecDepth 20000 in
theorem gX11_cut_X4_cutStrand : GoodIn wsX11_cut (wsV RX11 227 RX4 yX4_cutStrand wsX4_cutStrand) := goodIn_app (goodIn_of _ (by decide +kernel)) ggX11_cut_X4_cutStrand
theorem dX11_cut_0 : decode cX11_cut 0 = .ok (.aload_n 0, 1) := by decide +kernel
theorem dX11_cut_1 : decode cX11_cut 1 = .ok (.iload_n 1, 1) := by decide +kernel
theorem dX11_cut_2 : decode cX11_cut 2 = .ok (.invokevirtual 134, 3) := by decide +kernel
theorem dX11_cut_5 : decode cX11_cut 5 = .ok (.astore_n 2, 1) := by decide +kernel
theorem dX11_cut_6 : decode cX11_cut 6 = .ok (.aload_n 2, 1) := by decide +kernel
theorem dX11_cut_7 : decode cX11_cut 7 = .ok (.ifnonnull 7, 3) := by decide +kernel
theorem dX11_cut_10 : decode cX11_cut 10 = .ok (.iconst (-1), 1) := by decide +kernel
theorem dX11_cut_11 : decode cX11_cut 11 = .ok (.goto 11, 3) := by decide +kernel
theorem dX11_cut_14 : decode cX11_cut 14 = .ok (.aload_n 2, 1) := by decide +kernel
theorem dX11_cut_15 : decode cX11_cut 15 = .ok (.aload_n 0, 1) := by decide +kernel
theorem dX11_cut_16 : decode cX11_cut 16 = .ok (.getfield 42, 3) := by decide +kernel
theorem dX11_cut_19 : decode cX11_cut 19 = .ok (.invokevirtual 227, 3) := by decide +kernel
theorem dX11_cut_22 : decode cX11_cut 22 = .ok (.ireturn, 1) := by decide +kernel
theorem inn_X11_cut_11 : ∀ w ∈ u_ws RX11 TX11 12, w ∈ wsX11_cut := fun w h => List.mem_cons_of_mem _ (List.mem_append_left _ (List.mem_append_left _ (List.mem_append_left _ (List.mem_append_left _ (List.mem_append_right _ h)))))
theorem inn_X11_lot_0 : ∀ w ∈ u_ws RX0 TX0 10, w ∈ wsX11_lot := fun w h => List.mem_cons_of_mem _ (List.mem_append_right _ h)
theorem inn_X11_lot_11 : ∀ w ∈ u_ws RX11 TX11 12, w ∈ wsX11_lot := fun w h => List.mem_cons_of_mem _ (List.mem_append_left _ (List.mem_append_right _ h))
theorem inn_X11_pot_11 : ∀ w ∈ u_ws RX11 TX11 12, w ∈ wsX11_pot := fun w h => List.mem_cons_of_mem _ (List.mem_append_left _ (List.mem_append_left _ (List.mem_append_left _ (List.mem_append_left _ (List.mem_append_right _ h)))))
theorem inn_X11_pot_4 : ∀ w ∈ u_ws RX4 TX4 12, w ∈ wsX11_pot := fun w h => List.mem_cons_of_mem _ (List.mem_append_left _ (List.mem_append_left _ (List.mem_append_left _ (List.mem_append_right _ h))))
theorem inn_X11_run_11 : ∀ w ∈ u_ws RX11 TX11 12, w ∈ wsX11_run := fun w h => List.mem_cons_of_mem _ (List.mem_append_left _ (List.mem_append_left _ (List.mem_append_left _ (List.mem_append_left _ (List.mem_append_left _ (List.mem_append_left _ (List.mem_append_left _ (List.mem_append_right _ h))))))))
theorem inn_X4_act_4 : ∀ w ∈ u_ws RX4 TX4 12, w ∈ wsX4_act := fun w h => List.mem_cons_of_mem _ (List.mem_append_left _ (List.mem_append_left _ (List.mem_append_left _ (List.mem_append_left _ (List.mem_append_left _ (List.mem_append_right _ h))))))
theorem inn_X4_applyRules_4 : ∀ w ∈ u_ws RX4 TX4 12, w ∈ wsX4_applyRules := fun w h => List.mem_cons_of_mem _ (List.mem_append_left _ (List.mem_append_left _ (List.mem_append_left _ (List.mem_append_left _ (List.mem_append_left _ (List.mem_append_left _ (List.mem_append_right _ h)))))))
theorem inn_X4_applyRules_6 : ∀ w ∈ u_ws RX6 TX6 7, w ∈ wsX4_applyRules := fun w h => List.mem_cons_of_mem _ (List.mem_append_left _ (List.mem_append_left _ (List.mem_append_left _ (List.mem_append_left _ (List.mem_append_left _ (List.mem_append_right _ h))))))
theorem inn_X4_applyRules_8 : ∀ w ∈ u_ws RX8 TX8 13, w ∈ wsX4_applyRules := fun w h => List.mem_cons_of_mem _ (List.mem_append_left _ (List.mem_append_left _ (List.mem_append_left _ (List.mem_append_left _ (List.mem_append_right _ h)))))
theorem inn_X4_cutStrand_4 : ∀ w ∈ u_ws RX4 TX4 12, w ∈ wsX4_cutStrand := fun w h => List.mem_cons_of_mem _ (List.mem_append_left _ (List.mem_append_left _ (List.mem_append_left _ (List.mem_append_right _ h))))
theorem inn_X4_cutStrand_9 : ∀ w ∈ u_ws RX9 TX9 9, w ∈ wsX4_cutStrand := fun w h => List.mem_cons_of_mem _ (List.mem_append_left _ (List.mem_append_left _ (List.mem_append_right _ h)))
theorem inn_X4_drawEnd_0 : ∀ w ∈ u_ws RX0 TX0 10, w ∈ wsX4_drawEnd := fun w h => List.mem_cons_of_mem _ (List.mem_append_left _ (List.mem_append_left _ (List.mem_append_right _ h)))
theorem inn_X4_drawEnd_4 : ∀ w ∈ u_ws RX4 TX4 12, w ∈ wsX4_drawEnd := fun w h => List.mem_cons_of_mem _ (List.mem_append_left _ (List.mem_append_left _ (List.mem_append_left _ (List.mem_append_right _ h))))
theorem inn_X4_drawMetre_4 : ∀ w ∈ u_ws RX4 TX4 12, w ∈ wsX4_drawMetre := fun w h => List.mem_cons_of_mem _ (List.mem_append_left _ (List.mem_append_left _ (List.mem_append_left _ (List.mem_append_left _ (List.mem_append_left _ (List.mem_append_right _ h))))))
theorem inn_X4_drawMetre_5 : ∀ w ∈ u_ws RX5 TX5 3, w ∈ wsX4_drawMetre := fun w h => List.mem_cons_of_mem _ (List.mem_append_left _ (List.mem_append_left _ (List.mem_append_left _ (List.mem_append_left _ (List.mem_append_right _ h)))))
theorem inn_X4_drawMetre_8 : ∀ w ∈ u_ws RX8 TX8 13, w ∈ wsX4_drawMetre := fun w h => List.mem_cons_of_mem _ (List.mem_append_left _ (List.mem_append_left _ (List.mem_append_right _ h)))
theorem inn_X4_drawMetre_9 : ∀ w ∈ u_ws RX9 TX9 9, w ∈ wsX4_drawMetre := fun w h => List.mem_cons_of_mem _ (List.mem_append_left _ (List.mem_append_left _ (List.mem_append_left _ (List.mem_append_right _ h))))
theorem inn_X4_tick_4 : ∀ w ∈ u_ws RX4 TX4 12, w ∈ wsX4_tick := fun w h => List.mem_cons_of_mem _ (List.mem_append_left _ (List.mem_append_left _ (List.mem_append_left _ (List.mem_append_left _ (List.mem_append_left _ (List.mem_append_left _ (List.mem_append_right _ h)))))))
theorem inn_X4_tick_5 : ∀ w ∈ u_ws RX5 TX5 3, w ∈ wsX4_tick := fun w h => List.mem_cons_of_mem _ (List.mem_append_left _ (List.mem_append_left _ (List.mem_append_left _ (List.mem_append_left _ (List.mem_append_left _ (List.mem_append_right _ h))))))
theorem inn_X8_keep_7 : ∀ w ∈ u_ws RX7 TX7 10, w ∈ wsX8_keep := fun w h => List.mem_cons_of_mem _ (List.mem_append_right _ h)
theorem inn_X8_keep_8 : ∀ w ∈ u_ws RX8 TX8 13, w ∈ wsX8_keep := fun w h => List.mem_cons_of_mem _ (List.mem_append_left _ (List.mem_append_left _ (List.mem_append_right _ h)))
theorem inn_X8_keep_9 : ∀ w ∈ u_ws RX9 TX9 9, w ∈ wsX8_keep := fun w h => List.mem_cons_of_mem _ (List.mem_append_left _ (List.mem_append_right _ h))
theorem inn_X9_addMetreOf_0 : ∀ w ∈ u_ws RX0 TX0 10, w ∈ wsX9_addMetreOf := fun w h => List.mem_cons_of_mem _ (List.mem_append_left _ (List.mem_append_right _ h))
theorem inn_X9_addMetreOf_9 : ∀ w ∈ u_ws RX9 TX9 9, w ∈ wsX9_addMetreOf := fun w h => List.mem_cons_of_mem _ (List.mem_append_right _ h)
theorem inn_X9_makeRoomForPiece_9 : ∀ w ∈ u_ws RX9 TX9 9, w ∈ wsX9_makeRoomForPiece := fun w h => List.mem_cons_of_mem _ (List.mem_append_right _ h)
set_option maxHeartbeats 4000000 in
set_option maxRecDepth 100000 in
theorem k_X9_makeRoomForPiece (l : Launch) (G : va_G) (cy : Nat → ClassId) (κ : Nat → Nat) (S : PS) (sz hz : Nat) (x : Nat) (hG : GX S) (ha_x : At S x 29) (hp_0 : (pI S 904 x).toInt < 3600) : Gv l yX9_makeRoomForPiece wsX9_makeRoomForPiece ({ frames := 3, cells := Phc S + 4, slots := Phs S + 14400, locals := 144 }) G cy κ S sz hz 0 0 [.ref x] (fun (S9 : PS) => Og eMR S S9 ∧ (∀ q, pR S9 905 x = some q → (pI S9 904 x).toInt < (pN S9 q : Int))) := by
  refine ent_g (cc := cX9_makeRoomForPiece) (maxL := 2) (ret := none) (by decide) rfl (Nat.le_of_ble_eq_true rfl) ?_
  intro p e s m below meth c ls X hr hlocks hin hw hl hsz hhz
  subst hsz hhz
  have X : Cx p c cX9_makeRoomForPiece 2 s [.ref x].toArray wsX9_makeRoomForPiece RX9 m G cy κ (AS S s.heap.size) := X
  have hl : lv_has ls 2 [(0, .ref x)] := hl
  have hK : Kq S S x := Kq.rf S _
  have hC : CI S := hG.ci
  have hNW : ∀ b ∈ pL S, b ∈ pL S ∨ pK S b = 14 := fun b h => Or.inl h
  obtain ⟨q_1, q_2, q_3, q_4, n_5, h_6, h_7, h_8, h_9, h_10, h_11, h_12, h_13, h_14, h_15, h_16, h_17, h_18⟩ := gGrwQ hG ha_x
  obtain ⟨v_19, ev_19⟩ : ∃ v, pI S 904 x = v := ⟨_, rfl⟩
  have rg_20 := gGrw_904 hG ha_x h_6 h_14; rw [ev_19] at rg_20
  have pz_21 : (pI S 904 x).toInt = v_19.toInt := by rw [ev_19]
  obtain ⟨v_22, ev_22⟩ : ∃ v, pI S 902 x = v := ⟨_, rfl⟩
  have rg_23 := gI_29_902 hG ha_x; rw [ev_22] at rg_23
  have pz_24 : (pI S 902 x).toInt = v_22.toInt := by rw [ev_22]
  obtain ⟨q_25, h_26, h_27, h_28⟩ := gQ_29_900 hG ha_x
  obtain ⟨q_29, h_30, h_31, h_32⟩ := gQ_29_901 hG ha_x
  refine lv_aload_n X.1 X.2.1 dX9_makeRoomForPiece_0 rfl (lv_at hl 0 rfl) ?_
  refine r_getI (g := 904) (x := v_19) X hw ha_x rfl 4 ev_19 (by decide) rfl inn_X9_makeRoomForPiece_9 (by decide) (X.2.2.2.1 (.fieldLink RX9 43 "SilkMill$Strand" "pieces" "I") (by decide +kernel)) rfl (gv_904 _ _) dX9_makeRoomForPiece_1 ?_
  refine lv_aload_n X.1 X.2.1 dX9_makeRoomForPiece_4 rfl (lv_at hl 0 rfl) ?_
  refine r_getR (g := 905) X hw ha_x rfl 5 h_6 (by decide) rfl inn_X9_makeRoomForPiece_9 (by decide) (X.2.2.2.1 (.fieldLink RX9 18 "SilkMill$Strand" "codes" "[I") (by decide +kernel)) rfl (gv_905 _ _) dX9_makeRoomForPiece_5 ?_
  refine r_alen X hw h_10 rfl (by decide) rfl dX9_makeRoomForPiece_8 ?_
  rw [h_14]
  refine lv_topi (fun v_33 ev_33 => ?_)
  have z_34 : v_33.toInt = (n_5 : Int) := z_len ev_33 (by omega)
  refine lv_icmp_ge (tgt := 13) X.1 X.2.1 dX9_makeRoomForPiece_9 (by decide) (fun c_35 => ?_) (fun c_35 => ?_)
  · have z_b_36 := trivial
    have k_37 : v_19.toInt ≥ v_33.toInt := z_le rfl rfl c_35
    refine lv_sipush (v := 3600) X.1 X.2.1 dX9_makeRoomForPiece_13 (by decide) ?_
    refine lv_iconst (v := 2) X.1 X.2.1 dX9_makeRoomForPiece_16 (by decide) ?_
    refine lv_aload_n X.1 X.2.1 dX9_makeRoomForPiece_17 rfl (lv_at hl 0 rfl) ?_
    refine r_getI (g := 904) (x := v_19) X hw ha_x rfl 4 ev_19 (by decide) rfl inn_X9_makeRoomForPiece_9 (by decide) (X.2.2.2.1 (.fieldLink RX9 43 "SilkMill$Strand" "pieces" "I") (by decide +kernel)) rfl (gv_904 _ _) dX9_makeRoomForPiece_18 ?_
    refine lv_imul X.1 X.2.1 dX9_makeRoomForPiece_21 ?_
    refine lv_topi (fun v_38 ev_38 => ?_)
    have z_39 : v_38.toInt = 2 * v_19.toInt := z_mul ev_38 ti_2 rfl (by omega) (by omega)
    refine lv_iconst (v := 1) X.1 X.2.1 dX9_makeRoomForPiece_22 (by decide) ?_
    refine lv_iadd X.1 X.2.1 dX9_makeRoomForPiece_23 ?_
    refine lv_topi (fun v_40 ev_40 => ?_)
    have z_41 : v_40.toInt = v_38.toInt + 1 := z_add ev_40 rfl ti_1 (by omega) (by omega)
    refine va_mmin X.1 X.2.1 (X.2.2.1.trans hl.1.symm) X.2.2.2.2.1 (X.2.2.2.1 (.methodLink RX9 67 Lib.Math.min.name) (by decide +kernel)) (X.2.2.2.1 (.static Lib.Math.min.name) (by decide +kernel)) (X.2.2.2.1 (.initialized "java/lang/Math") (by decide +kernel)) (X.2.2.2.1 (.code Lib.Math.min.name Lib.Math.min.code 2 (some .int)) (by decide +kernel)) (Nat.le_of_ble_eq_true rfl) (Nat.le_of_ble_eq_true rfl) (by show 0 ≤ Phc S + 4; omega) (by show 0 ≤ Phs S + 14400; omega) dX9_makeRoomForPiece_24 ?_
    refine lv_topi (fun v_42 ev_42 => ?_)
    have z_43 := z_min ev_42 ti_3600 rfl
    refine lv_istore_n (lv' := [(1, .int (v_42)), (0, .ref x)]) X.1 X.2.1 dX9_makeRoomForPiece_27 rfl hl (by decide) rfl (fun ls hl => ?_)
    refine lv_aload_n X.1 X.2.1 dX9_makeRoomForPiece_28 rfl (lv_at hl 1 rfl) ?_
    refine lv_aload_n X.1 X.2.1 dX9_makeRoomForPiece_29 rfl (lv_at hl 1 rfl) ?_
    refine r_getR (g := 905) X hw ha_x rfl 5 h_6 (by decide) rfl inn_X9_makeRoomForPiece_9 (by decide) (X.2.2.2.1 (.fieldLink RX9 18 "SilkMill$Strand" "codes" "[I") (by decide +kernel)) rfl (gv_905 _ _) dX9_makeRoomForPiece_30 ?_
    refine lv_iload_n X.1 X.2.1 dX9_makeRoomForPiece_33 rfl (lv_at hl 0 rfl) ?_
    refine k_q (rm := { frames := 2, cells := 1, slots := (v_42.toInt.toNat), locals := 96 }) (av := [.ref q_1, .int (v_42)]) X hw (va_runS (As := [.ref q_1, .int (v_42)]) (rest := [.ref x]) (cfix X) (k_J7_copyOf_59c91 l G cy κ S _ q_1 (v_42) (v_42.toInt) n_5 (v_42.toInt.toNat) (v_42.toInt.toNat) hC h_10 rfl h_14 (by omega) (by omega) (by omega) (by omega)) (va_cwS 2 X.2.2.2.1 gX9_makeRoomForPiece_J7_copyOf_59c91 rfl rfl rfl (by decide +kernel) ⟨Nat.le_of_ble_eq_true rfl, Nat.le_of_ble_eq_true rfl⟩) (pre_S X hw _) rfl rfl hl.1 rfl (lv_room (Nat.le_of_ble_eq_true rfl)) dX9_makeRoomForPiece_34 ⟨(by show 0 + 1 ≤ Phc S + 4; omega), (by show 0 + (v_42.toInt.toNat) ≤ Phs S + 14400; omega)⟩) 1 (0 + (v_42.toInt.toNat)) (by show 0 + 1 ≤ 1; omega) (by show 0 + (v_42.toInt.toNat) ≤ (0 + (v_42.toInt.toNat)); omega) (fun rr_44 S_45 H locs hp hw hfr hnw => ?_)
    obtain ⟨q_46, er_48, hcp_47⟩ := hp
    subst er_48
    refine W.eq (g2 := F0 m 37 ls (.ref q_46 :: .ref x :: [])) rfl ?_
    have hcp_47_a := hcp_47.2.2.1
    have hcp_47_n := hcp_47.2.2.2.1
    have ph_49 : Phc S_45 = Phc S := hcp_47.2.2.2.2.2.1
    have ph_50 : Phs S_45 = Phs S := hcp_47.2.2.2.2.2.2.1
    have hn0_q_46 := hK.new hcp_47.1
    have hK_51 : Kq S S_45 x := hK.sub hn0_q_46 hcp_47.2.1
    have nw_52 : ∀ b ∈ pL S_45, b ∈ pL S ∨ pK S_45 b = 14 := NewA.step hNW hcp_47
    have t_53 : At S_45 x 29 := ⟨(hcp_47.2.1 x ha_x.1).1, ((hcp_47.2.1 x ha_x.1).2 (ne_of_new hcp_47.1 ha_x.1)).1.trans ha_x.2⟩
    have t_54 : pR S_45 905 x = some q_1 := (((hcp_47.2.1 x ha_x.1).2 (ne_of_new hcp_47.1 ha_x.1)).2.2.1 905).trans h_6
    have t_55 : pN S_45 q_1 = n_5 := ((hcp_47.2.1 q_1 h_10.1).2 (ne_of_new hcp_47.1 h_10.1)).2.2.2.1.trans h_14
    clear h_14
    have nd0 := nodup_of hw
    refine r_putR X hw t_53 rfl 5 905 (some q_46) rfl tyX9 (by decide) rfl inn_X9_makeRoomForPiece_9 tyX9_ok nmX9 (by decide) (X.2.2.2.1 (.fieldLink RX9 18 "SilkMill$Strand" "codes" "[I") (by decide +kernel)) rfl (Or.inl rfl) (fun _ => rfl) rfl (fun _ => rfl) rfl (Nat.le_of_ble_eq_true rfl) (st_905 _ _) dX9_makeRoomForPiece_37 (fun H locs hw => ?_)
    obtain ⟨S_56, eS_56⟩ : ∃ T, T = sR S_45 905 x (some q_46) := ⟨_, rfl⟩
    rw [← eS_56] at hw
    have hK_57 : Kq S S_56 x := hK_51.sR eS_56
    have nw_58 : ∀ b ∈ pL S_56, b ∈ pL S ∨ pK S_56 b = 14 := fun b hb => by rw [eS_56] at hb ⊢; exact nw_52 b hb
    have hC_59 : CI S_56 := CI_sR hcp_47.2.2.2.2.1 hcp_47_a.1 eS_56
    have ph_60 : Phc S_56 + fC (n_5) = Phc S_45 + fC ((v_42.toInt.toNat)) := Ph_905 nd0 t_53 t_54 t_55 hcp_47_n eS_56
    have ph_61 : Phs S_56 + fS (n_5) = Phs S_45 + fS ((v_42.toInt.toNat)) := Ph_905 nd0 t_53 t_54 t_55 hcp_47_n eS_56
    have h_62 : pR S_56 905 x = some q_46 := tR_sRs eS_56
    refine lv_aload_n X.1 X.2.1 dX9_makeRoomForPiece_40 rfl (lv_at hl 1 rfl) ?_
    refine lv_aload_n X.1 X.2.1 dX9_makeRoomForPiece_41 rfl (lv_at hl 1 rfl) ?_
    have t_63 : At S_56 x 29 := tAt_sR eS_56 t_53
    have t_64 : pR S_45 906 x = some q_2 := (((hcp_47.2.1 x ha_x.1).2 (ne_of_new hcp_47.1 ha_x.1)).2.2.1 906).trans h_7
    have t_65 : pR S_56 906 x = some q_2 := tR_sR eS_56 rfl t_64
    refine r_getR (g := 906) X hw t_63 rfl 6 t_65 (by decide) rfl inn_X9_makeRoomForPiece_9 (by decide) (X.2.2.2.1 (.fieldLink RX9 21 "SilkMill$Strand" "firsts" "[I") (by decide +kernel)) rfl (gv_906 _ _) dX9_makeRoomForPiece_42 ?_
    refine lv_iload_n X.1 X.2.1 dX9_makeRoomForPiece_45 rfl (lv_at hl 0 rfl) ?_
    have t_66 : At S_45 q_2 14 := ⟨(hcp_47.2.1 q_2 h_11.1).1, ((hcp_47.2.1 q_2 h_11.1).2 (ne_of_new hcp_47.1 h_11.1)).1.trans h_11.2⟩
    have t_67 : At S_56 q_2 14 := tAt_sR eS_56 t_66
    have t_68 : pN S_45 q_2 = n_5 := ((hcp_47.2.1 q_2 h_11.1).2 (ne_of_new hcp_47.1 h_11.1)).2.2.2.1.trans h_15
    clear h_15
    have t_69 : pN S_56 q_2 = n_5 := tN_sR eS_56 t_68
    clear t_68
    refine k_q (rm := { frames := 2, cells := 1, slots := (v_42.toInt.toNat), locals := 96 }) (av := [.ref q_2, .int (v_42)]) X hw (va_runS (As := [.ref q_2, .int (v_42)]) (rest := [.ref x]) (cfix X) (k_J7_copyOf_59c91 l G cy κ S_56 _ q_2 (v_42) (v_42.toInt) n_5 (v_42.toInt.toNat) (v_42.toInt.toNat) hC_59 t_67 rfl t_69 (by omega) (by omega) (by omega) (by omega)) (va_cwS 2 X.2.2.2.1 gX9_makeRoomForPiece_J7_copyOf_59c91 rfl rfl rfl (by decide +kernel) ⟨Nat.le_of_ble_eq_true rfl, Nat.le_of_ble_eq_true rfl⟩) (pre_S X hw _) rfl rfl hl.1 rfl (lv_room (Nat.le_of_ble_eq_true rfl)) dX9_makeRoomForPiece_46 ⟨(by show 1 + 1 ≤ Phc S + 4; omega), (by show (0 + (v_42.toInt.toNat)) + (v_42.toInt.toNat) ≤ Phs S + 14400; omega)⟩) 2 ((0 + (v_42.toInt.toNat)) + (v_42.toInt.toNat)) (by show 1 + 1 ≤ 2; omega) (by show (0 + (v_42.toInt.toNat)) + (v_42.toInt.toNat) ≤ ((0 + (v_42.toInt.toNat)) + (v_42.toInt.toNat)); omega) (fun rr_70 S_71 H locs hp hw hfr hnw => ?_)
    obtain ⟨q_72, er_74, hcp_73⟩ := hp
    subst er_74
    refine W.eq (g2 := F0 m 49 ls (.ref q_72 :: .ref x :: [])) rfl ?_
    have hcp_73_a := hcp_73.2.2.1
    have hcp_73_n := hcp_73.2.2.2.1
    have ph_75 : Phc S_71 = Phc S_56 := hcp_73.2.2.2.2.2.1
    have ph_76 : Phs S_71 = Phs S_56 := hcp_73.2.2.2.2.2.2.1
    have hn0_q_72 := hK_57.new hcp_73.1
    have hK_77 : Kq S S_71 x := hK_57.sub hn0_q_72 hcp_73.2.1
    have nw_78 : ∀ b ∈ pL S_71, b ∈ pL S ∨ pK S_71 b = 14 := NewA.step nw_58 hcp_73
    have t_79 : At S_71 x 29 := ⟨(hcp_73.2.1 x t_63.1).1, ((hcp_73.2.1 x t_63.1).2 (ne_of_new hcp_73.1 t_63.1)).1.trans t_63.2⟩
    refine r_putR X hw t_79 rfl 6 906 (some q_72) rfl tyX9 (by decide) rfl inn_X9_makeRoomForPiece_9 tyX9_ok nmX9 (by decide) (X.2.2.2.1 (.fieldLink RX9 21 "SilkMill$Strand" "firsts" "[I") (by decide +kernel)) rfl (Or.inl rfl) (fun _ => rfl) rfl (fun _ => rfl) rfl (Nat.le_of_ble_eq_true rfl) (st_906 _ _) dX9_makeRoomForPiece_49 (fun H locs hw => ?_)
    obtain ⟨S_80, eS_80⟩ : ∃ T, T = sR S_71 906 x (some q_72) := ⟨_, rfl⟩
    rw [← eS_80] at hw
    have ph_81 : Phc S_80 = Phc S_71 := Ph_sR eS_80 rfl
    have ph_82 : Phs S_80 = Phs S_71 := Ph_sR eS_80 rfl
    have hK_83 : Kq S S_80 x := hK_77.sR eS_80
    have nw_84 : ∀ b ∈ pL S_80, b ∈ pL S ∨ pK S_80 b = 14 := fun b hb => by rw [eS_80] at hb ⊢; exact nw_78 b hb
    have hC_85 : CI S_80 := CI_sR hcp_73.2.2.2.2.1 hcp_73_a.1 eS_80
    have h_86 : pR S_80 906 x = some q_72 := tR_sRs eS_80
    refine lv_aload_n X.1 X.2.1 dX9_makeRoomForPiece_52 rfl (lv_at hl 1 rfl) ?_
    refine lv_aload_n X.1 X.2.1 dX9_makeRoomForPiece_53 rfl (lv_at hl 1 rfl) ?_
    have t_87 : At S_80 x 29 := tAt_sR eS_80 t_79
    have t_88 : pR S_45 907 x = some q_3 := (((hcp_47.2.1 x ha_x.1).2 (ne_of_new hcp_47.1 ha_x.1)).2.2.1 907).trans h_8
    have t_89 : pR S_56 907 x = some q_3 := tR_sR eS_56 rfl t_88
    have t_90 : pR S_71 907 x = some q_3 := (((hcp_73.2.1 x t_63.1).2 (ne_of_new hcp_73.1 t_63.1)).2.2.1 907).trans t_89
    have t_91 : pR S_80 907 x = some q_3 := tR_sR eS_80 rfl t_90
    refine r_getR (g := 907) X hw t_87 rfl 7 t_91 (by decide) rfl inn_X9_makeRoomForPiece_9 (by decide) (X.2.2.2.1 (.fieldLink RX9 24 "SilkMill$Strand" "lengths" "[I") (by decide +kernel)) rfl (gv_907 _ _) dX9_makeRoomForPiece_54 ?_
    refine lv_iload_n X.1 X.2.1 dX9_makeRoomForPiece_57 rfl (lv_at hl 0 rfl) ?_
    have t_92 : At S_45 q_3 14 := ⟨(hcp_47.2.1 q_3 h_12.1).1, ((hcp_47.2.1 q_3 h_12.1).2 (ne_of_new hcp_47.1 h_12.1)).1.trans h_12.2⟩
    have t_93 : At S_56 q_3 14 := tAt_sR eS_56 t_92
    have t_94 : At S_71 q_3 14 := ⟨(hcp_73.2.1 q_3 t_93.1).1, ((hcp_73.2.1 q_3 t_93.1).2 (ne_of_new hcp_73.1 t_93.1)).1.trans t_93.2⟩
    have t_95 : At S_80 q_3 14 := tAt_sR eS_80 t_94
    have t_96 : pN S_45 q_3 = n_5 := ((hcp_47.2.1 q_3 h_12.1).2 (ne_of_new hcp_47.1 h_12.1)).2.2.2.1.trans h_16
    clear h_16
    have t_97 : pN S_56 q_3 = n_5 := tN_sR eS_56 t_96
    clear t_96
    have t_99 : At S_45 q_3 14 := ⟨(hcp_47.2.1 q_3 h_12.1).1, ((hcp_47.2.1 q_3 h_12.1).2 (ne_of_new hcp_47.1 h_12.1)).1.trans h_12.2⟩
    have t_100 : At S_56 q_3 14 := tAt_sR eS_56 t_99
    have t_98 : pN S_71 q_3 = n_5 := ((hcp_73.2.1 q_3 t_100.1).2 (ne_of_new hcp_73.1 t_100.1)).2.2.2.1.trans t_97
    clear t_97
    have t_101 : pN S_80 q_3 = n_5 := tN_sR eS_80 t_98
    clear t_98
    refine k_q (rm := { frames := 2, cells := 1, slots := (v_42.toInt.toNat), locals := 96 }) (av := [.ref q_3, .int (v_42)]) X hw (va_runS (As := [.ref q_3, .int (v_42)]) (rest := [.ref x]) (cfix X) (k_J7_copyOf_59c91 l G cy κ S_80 _ q_3 (v_42) (v_42.toInt) n_5 (v_42.toInt.toNat) (v_42.toInt.toNat) hC_85 t_95 rfl t_101 (by omega) (by omega) (by omega) (by omega)) (va_cwS 2 X.2.2.2.1 gX9_makeRoomForPiece_J7_copyOf_59c91 rfl rfl rfl (by decide +kernel) ⟨Nat.le_of_ble_eq_true rfl, Nat.le_of_ble_eq_true rfl⟩) (pre_S X hw _) rfl rfl hl.1 rfl (lv_room (Nat.le_of_ble_eq_true rfl)) dX9_makeRoomForPiece_58 ⟨(by show 2 + 1 ≤ Phc S + 4; omega), (by show ((0 + (v_42.toInt.toNat)) + (v_42.toInt.toNat)) + (v_42.toInt.toNat) ≤ Phs S + 14400; omega)⟩) 3 (((0 + (v_42.toInt.toNat)) + (v_42.toInt.toNat)) + (v_42.toInt.toNat)) (by show 2 + 1 ≤ 3; omega) (by show ((0 + (v_42.toInt.toNat)) + (v_42.toInt.toNat)) + (v_42.toInt.toNat) ≤ (((0 + (v_42.toInt.toNat)) + (v_42.toInt.toNat)) + (v_42.toInt.toNat)); omega) (fun rr_102 S_103 H locs hp hw hfr hnw => ?_)
    obtain ⟨q_104, er_106, hcp_105⟩ := hp
    subst er_106
    refine W.eq (g2 := F0 m 61 ls (.ref q_104 :: .ref x :: [])) rfl ?_
    have hcp_105_a := hcp_105.2.2.1
    have hcp_105_n := hcp_105.2.2.2.1
    have ph_107 : Phc S_103 = Phc S_80 := hcp_105.2.2.2.2.2.1
    have ph_108 : Phs S_103 = Phs S_80 := hcp_105.2.2.2.2.2.2.1
    have hn0_q_104 := hK_83.new hcp_105.1
    have hK_109 : Kq S S_103 x := hK_83.sub hn0_q_104 hcp_105.2.1
    have nw_110 : ∀ b ∈ pL S_103, b ∈ pL S ∨ pK S_103 b = 14 := NewA.step nw_84 hcp_105
    have t_111 : At S_103 x 29 := ⟨(hcp_105.2.1 x t_87.1).1, ((hcp_105.2.1 x t_87.1).2 (ne_of_new hcp_105.1 t_87.1)).1.trans t_87.2⟩
    refine r_putR X hw t_111 rfl 7 907 (some q_104) rfl tyX9 (by decide) rfl inn_X9_makeRoomForPiece_9 tyX9_ok nmX9 (by decide) (X.2.2.2.1 (.fieldLink RX9 24 "SilkMill$Strand" "lengths" "[I") (by decide +kernel)) rfl (Or.inl rfl) (fun _ => rfl) rfl (fun _ => rfl) rfl (Nat.le_of_ble_eq_true rfl) (st_907 _ _) dX9_makeRoomForPiece_61 (fun H locs hw => ?_)
    obtain ⟨S_112, eS_112⟩ : ∃ T, T = sR S_103 907 x (some q_104) := ⟨_, rfl⟩
    rw [← eS_112] at hw
    have ph_113 : Phc S_112 = Phc S_103 := Ph_sR eS_112 rfl
    have ph_114 : Phs S_112 = Phs S_103 := Ph_sR eS_112 rfl
    have hK_115 : Kq S S_112 x := hK_109.sR eS_112
    have nw_116 : ∀ b ∈ pL S_112, b ∈ pL S ∨ pK S_112 b = 14 := fun b hb => by rw [eS_112] at hb ⊢; exact nw_110 b hb
    have hC_117 : CI S_112 := CI_sR hcp_105.2.2.2.2.1 hcp_105_a.1 eS_112
    have h_118 : pR S_112 907 x = some q_104 := tR_sRs eS_112
    refine lv_aload_n X.1 X.2.1 dX9_makeRoomForPiece_64 rfl (lv_at hl 1 rfl) ?_
    refine lv_aload_n X.1 X.2.1 dX9_makeRoomForPiece_65 rfl (lv_at hl 1 rfl) ?_
    have t_119 : At S_112 x 29 := tAt_sR eS_112 t_111
    have t_120 : pR S_45 908 x = some q_4 := (((hcp_47.2.1 x ha_x.1).2 (ne_of_new hcp_47.1 ha_x.1)).2.2.1 908).trans h_9
    have t_121 : pR S_56 908 x = some q_4 := tR_sR eS_56 rfl t_120
    have t_122 : pR S_71 908 x = some q_4 := (((hcp_73.2.1 x t_63.1).2 (ne_of_new hcp_73.1 t_63.1)).2.2.1 908).trans t_121
    have t_123 : pR S_80 908 x = some q_4 := tR_sR eS_80 rfl t_122
    have t_124 : pR S_103 908 x = some q_4 := (((hcp_105.2.1 x t_87.1).2 (ne_of_new hcp_105.1 t_87.1)).2.2.1 908).trans t_123
    have t_125 : pR S_112 908 x = some q_4 := tR_sR eS_112 rfl t_124
    refine r_getR (g := 908) X hw t_119 rfl 8 t_125 (by decide) rfl inn_X9_makeRoomForPiece_9 (by decide) (X.2.2.2.1 (.fieldLink RX9 27 "SilkMill$Strand" "places" "[I") (by decide +kernel)) rfl (gv_908 _ _) dX9_makeRoomForPiece_66 ?_
    refine lv_iload_n X.1 X.2.1 dX9_makeRoomForPiece_69 rfl (lv_at hl 0 rfl) ?_
    have t_126 : At S_45 q_4 14 := ⟨(hcp_47.2.1 q_4 h_13.1).1, ((hcp_47.2.1 q_4 h_13.1).2 (ne_of_new hcp_47.1 h_13.1)).1.trans h_13.2⟩
    have t_127 : At S_56 q_4 14 := tAt_sR eS_56 t_126
    have t_128 : At S_71 q_4 14 := ⟨(hcp_73.2.1 q_4 t_127.1).1, ((hcp_73.2.1 q_4 t_127.1).2 (ne_of_new hcp_73.1 t_127.1)).1.trans t_127.2⟩
    have t_129 : At S_80 q_4 14 := tAt_sR eS_80 t_128
    have t_130 : At S_103 q_4 14 := ⟨(hcp_105.2.1 q_4 t_129.1).1, ((hcp_105.2.1 q_4 t_129.1).2 (ne_of_new hcp_105.1 t_129.1)).1.trans t_129.2⟩
    have t_131 : At S_112 q_4 14 := tAt_sR eS_112 t_130
    have t_132 : pN S_45 q_4 = n_5 := ((hcp_47.2.1 q_4 h_13.1).2 (ne_of_new hcp_47.1 h_13.1)).2.2.2.1.trans h_17
    clear h_17
    have t_133 : pN S_56 q_4 = n_5 := tN_sR eS_56 t_132
    clear t_132
    have t_135 : At S_45 q_4 14 := ⟨(hcp_47.2.1 q_4 h_13.1).1, ((hcp_47.2.1 q_4 h_13.1).2 (ne_of_new hcp_47.1 h_13.1)).1.trans h_13.2⟩
    have t_136 : At S_56 q_4 14 := tAt_sR eS_56 t_135
    have t_134 : pN S_71 q_4 = n_5 := ((hcp_73.2.1 q_4 t_136.1).2 (ne_of_new hcp_73.1 t_136.1)).2.2.2.1.trans t_133
    clear t_133
    have t_137 : pN S_80 q_4 = n_5 := tN_sR eS_80 t_134
    clear t_134
    have t_139 : At S_71 q_4 14 := ⟨(hcp_73.2.1 q_4 t_136.1).1, ((hcp_73.2.1 q_4 t_136.1).2 (ne_of_new hcp_73.1 t_136.1)).1.trans t_136.2⟩
    have t_140 : At S_80 q_4 14 := tAt_sR eS_80 t_139
    have t_138 : pN S_103 q_4 = n_5 := ((hcp_105.2.1 q_4 t_140.1).2 (ne_of_new hcp_105.1 t_140.1)).2.2.2.1.trans t_137
    clear t_137
    have t_141 : pN S_112 q_4 = n_5 := tN_sR eS_112 t_138
    clear t_138
    refine k_q (rm := { frames := 2, cells := 1, slots := (v_42.toInt.toNat), locals := 96 }) (av := [.ref q_4, .int (v_42)]) X hw (va_runS (As := [.ref q_4, .int (v_42)]) (rest := [.ref x]) (cfix X) (k_J7_copyOf_59c91 l G cy κ S_112 _ q_4 (v_42) (v_42.toInt) n_5 (v_42.toInt.toNat) (v_42.toInt.toNat) hC_117 t_131 rfl t_141 (by omega) (by omega) (by omega) (by omega)) (va_cwS 2 X.2.2.2.1 gX9_makeRoomForPiece_J7_copyOf_59c91 rfl rfl rfl (by decide +kernel) ⟨Nat.le_of_ble_eq_true rfl, Nat.le_of_ble_eq_true rfl⟩) (pre_S X hw _) rfl rfl hl.1 rfl (lv_room (Nat.le_of_ble_eq_true rfl)) dX9_makeRoomForPiece_70 ⟨(by show 3 + 1 ≤ Phc S + 4; omega), (by show (((0 + (v_42.toInt.toNat)) + (v_42.toInt.toNat)) + (v_42.toInt.toNat)) + (v_42.toInt.toNat) ≤ Phs S + 14400; omega)⟩) 4 ((((0 + (v_42.toInt.toNat)) + (v_42.toInt.toNat)) + (v_42.toInt.toNat)) + (v_42.toInt.toNat)) (by show 3 + 1 ≤ 4; omega) (by show (((0 + (v_42.toInt.toNat)) + (v_42.toInt.toNat)) + (v_42.toInt.toNat)) + (v_42.toInt.toNat) ≤ ((((0 + (v_42.toInt.toNat)) + (v_42.toInt.toNat)) + (v_42.toInt.toNat)) + (v_42.toInt.toNat)); omega) (fun rr_142 S_143 H locs hp hw hfr hnw => ?_)
    obtain ⟨q_144, er_146, hcp_145⟩ := hp
    subst er_146
    refine W.eq (g2 := F0 m 73 ls (.ref q_144 :: .ref x :: [])) rfl ?_
    have hcp_145_a := hcp_145.2.2.1
    have hcp_145_n := hcp_145.2.2.2.1
    have ph_147 : Phc S_143 = Phc S_112 := hcp_145.2.2.2.2.2.1
    have ph_148 : Phs S_143 = Phs S_112 := hcp_145.2.2.2.2.2.2.1
    have hn0_q_144 := hK_115.new hcp_145.1
    have hK_149 : Kq S S_143 x := hK_115.sub hn0_q_144 hcp_145.2.1
    have nw_150 : ∀ b ∈ pL S_143, b ∈ pL S ∨ pK S_143 b = 14 := NewA.step nw_116 hcp_145
    have t_151 : At S_143 x 29 := ⟨(hcp_145.2.1 x t_119.1).1, ((hcp_145.2.1 x t_119.1).2 (ne_of_new hcp_145.1 t_119.1)).1.trans t_119.2⟩
    refine r_putR X hw t_151 rfl 8 908 (some q_144) rfl tyX9 (by decide) rfl inn_X9_makeRoomForPiece_9 tyX9_ok nmX9 (by decide) (X.2.2.2.1 (.fieldLink RX9 27 "SilkMill$Strand" "places" "[I") (by decide +kernel)) rfl (Or.inl rfl) (fun _ => rfl) rfl (fun _ => rfl) rfl (Nat.le_of_ble_eq_true rfl) (st_908 _ _) dX9_makeRoomForPiece_73 (fun H locs hw => ?_)
    obtain ⟨S_152, eS_152⟩ : ∃ T, T = sR S_143 908 x (some q_144) := ⟨_, rfl⟩
    rw [← eS_152] at hw
    have ph_153 : Phc S_152 = Phc S_143 := Ph_sR eS_152 rfl
    have ph_154 : Phs S_152 = Phs S_143 := Ph_sR eS_152 rfl
    have hK_155 : Kq S S_152 x := hK_149.sR eS_152
    have nw_156 : ∀ b ∈ pL S_152, b ∈ pL S ∨ pK S_152 b = 14 := fun b hb => by rw [eS_152] at hb ⊢; exact nw_150 b hb
    have hC_157 : CI S_152 := CI_sR hcp_145.2.2.2.2.1 hcp_145_a.1 eS_152
    have h_158 : pR S_152 908 x = some q_144 := tR_sRs eS_152
    have hgr := grow_ok (n := n_5) (N := (v_42.toInt.toNat)) (by omega) (by omega) (by omega)
    have t_159 : pR S_71 905 x = some q_46 := (((hcp_73.2.1 x t_63.1).2 (ne_of_new hcp_73.1 t_63.1)).2.2.1 905).trans h_62
    have t_160 : pR S_80 905 x = some q_46 := tR_sR eS_80 rfl t_159
    have t_161 : pR S_103 905 x = some q_46 := (((hcp_105.2.1 x t_87.1).2 (ne_of_new hcp_105.1 t_87.1)).2.2.1 905).trans t_160
    have t_162 : pR S_112 905 x = some q_46 := tR_sR eS_112 rfl t_161
    have t_163 : pR S_143 905 x = some q_46 := (((hcp_145.2.1 x t_119.1).2 (ne_of_new hcp_145.1 t_119.1)).2.2.1 905).trans t_162
    have t_164 : pR S_152 905 x = some q_46 := tR_sR eS_152 rfl t_163
    have t_165 : pN S_56 q_46 = (v_42.toInt.toNat) := tN_sR eS_56 hcp_47_n
    have t_167 : At S_56 q_46 14 := tAt_sR eS_56 hcp_47_a
    have t_166 : pN S_71 q_46 = (v_42.toInt.toNat) := ((hcp_73.2.1 q_46 t_167.1).2 (ne_of_new hcp_73.1 t_167.1)).2.2.2.1.trans t_165
    clear t_165
    have t_168 : pN S_80 q_46 = (v_42.toInt.toNat) := tN_sR eS_80 t_166
    clear t_166
    have t_170 : At S_71 q_46 14 := ⟨(hcp_73.2.1 q_46 t_167.1).1, ((hcp_73.2.1 q_46 t_167.1).2 (ne_of_new hcp_73.1 t_167.1)).1.trans t_167.2⟩
    have t_171 : At S_80 q_46 14 := tAt_sR eS_80 t_170
    have t_169 : pN S_103 q_46 = (v_42.toInt.toNat) := ((hcp_105.2.1 q_46 t_171.1).2 (ne_of_new hcp_105.1 t_171.1)).2.2.2.1.trans t_168
    clear t_168
    have t_172 : pN S_112 q_46 = (v_42.toInt.toNat) := tN_sR eS_112 t_169
    clear t_169
    have t_174 : At S_103 q_46 14 := ⟨(hcp_105.2.1 q_46 t_171.1).1, ((hcp_105.2.1 q_46 t_171.1).2 (ne_of_new hcp_105.1 t_171.1)).1.trans t_171.2⟩
    have t_175 : At S_112 q_46 14 := tAt_sR eS_112 t_174
    have t_173 : pN S_143 q_46 = (v_42.toInt.toNat) := ((hcp_145.2.1 q_46 t_175.1).2 (ne_of_new hcp_145.1 t_175.1)).2.2.2.1.trans t_172
    clear t_172
    have t_176 : pN S_152 q_46 = (v_42.toInt.toNat) := tN_sR eS_152 t_173
    clear t_173
    have t_177 : pI S_45 904 x = v_19 := (((hcp_47.2.1 x ha_x.1).2 (ne_of_new hcp_47.1 ha_x.1)).2.1 904).trans ev_19
    have t_178 : pI S_56 904 x = v_19 := tI_sR eS_56 t_177
    have t_179 : pI S_71 904 x = v_19 := (((hcp_73.2.1 x t_63.1).2 (ne_of_new hcp_73.1 t_63.1)).2.1 904).trans t_178
    have t_180 : pI S_80 904 x = v_19 := tI_sR eS_80 t_179
    have t_181 : pI S_103 904 x = v_19 := (((hcp_105.2.1 x t_87.1).2 (ne_of_new hcp_105.1 t_87.1)).2.1 904).trans t_180
    have t_182 : pI S_112 904 x = v_19 := tI_sR eS_112 t_181
    have t_183 : pI S_143 904 x = v_19 := (((hcp_145.2.1 x t_119.1).2 (ne_of_new hcp_145.1 t_119.1)).2.1 904).trans t_182
    have t_184 : pI S_152 904 x = v_19 := tI_sR eS_152 t_183
    have t_185 : At S_152 x 29 := tAt_sR eS_152 t_151
    have t_187 : At S_143 q_46 14 := ⟨(hcp_145.2.1 q_46 t_175.1).1, ((hcp_145.2.1 q_46 t_175.1).2 (ne_of_new hcp_145.1 t_175.1)).1.trans t_175.2⟩
    have t_188 : At S_152 q_46 14 := tAt_sR eS_152 t_187
    have t_189 : pR S_103 906 x = some q_72 := (((hcp_105.2.1 x t_87.1).2 (ne_of_new hcp_105.1 t_87.1)).2.2.1 906).trans h_86
    have t_190 : pR S_112 906 x = some q_72 := tR_sR eS_112 rfl t_189
    have t_191 : pR S_143 906 x = some q_72 := (((hcp_145.2.1 x t_119.1).2 (ne_of_new hcp_145.1 t_119.1)).2.2.1 906).trans t_190
    have t_192 : pR S_152 906 x = some q_72 := tR_sR eS_152 rfl t_191
    have t_193 : At S_80 q_72 14 := tAt_sR eS_80 hcp_73_a
    have t_194 : At S_103 q_72 14 := ⟨(hcp_105.2.1 q_72 t_193.1).1, ((hcp_105.2.1 q_72 t_193.1).2 (ne_of_new hcp_105.1 t_193.1)).1.trans t_193.2⟩
    have t_195 : At S_112 q_72 14 := tAt_sR eS_112 t_194
    have t_196 : At S_143 q_72 14 := ⟨(hcp_145.2.1 q_72 t_195.1).1, ((hcp_145.2.1 q_72 t_195.1).2 (ne_of_new hcp_145.1 t_195.1)).1.trans t_195.2⟩
    have t_197 : At S_152 q_72 14 := tAt_sR eS_152 t_196
    have t_198 : pN S_80 q_72 = (v_42.toInt.toNat) := tN_sR eS_80 hcp_73_n
    have t_200 : At S_80 q_72 14 := tAt_sR eS_80 hcp_73_a
    have t_199 : pN S_103 q_72 = (v_42.toInt.toNat) := ((hcp_105.2.1 q_72 t_200.1).2 (ne_of_new hcp_105.1 t_200.1)).2.2.2.1.trans t_198
    clear t_198
    have t_201 : pN S_112 q_72 = (v_42.toInt.toNat) := tN_sR eS_112 t_199
    clear t_199
    have t_203 : At S_103 q_72 14 := ⟨(hcp_105.2.1 q_72 t_200.1).1, ((hcp_105.2.1 q_72 t_200.1).2 (ne_of_new hcp_105.1 t_200.1)).1.trans t_200.2⟩
    have t_204 : At S_112 q_72 14 := tAt_sR eS_112 t_203
    have t_202 : pN S_143 q_72 = (v_42.toInt.toNat) := ((hcp_145.2.1 q_72 t_204.1).2 (ne_of_new hcp_145.1 t_204.1)).2.2.2.1.trans t_201
    clear t_201
    have t_205 : pN S_152 q_72 = (v_42.toInt.toNat) := tN_sR eS_152 t_202
    clear t_202
    have t_206 : pR S_143 907 x = some q_104 := (((hcp_145.2.1 x t_119.1).2 (ne_of_new hcp_145.1 t_119.1)).2.2.1 907).trans h_118
    have t_207 : pR S_152 907 x = some q_104 := tR_sR eS_152 rfl t_206
    have t_208 : At S_112 q_104 14 := tAt_sR eS_112 hcp_105_a
    have t_209 : At S_143 q_104 14 := ⟨(hcp_145.2.1 q_104 t_208.1).1, ((hcp_145.2.1 q_104 t_208.1).2 (ne_of_new hcp_145.1 t_208.1)).1.trans t_208.2⟩
    have t_210 : At S_152 q_104 14 := tAt_sR eS_152 t_209
    have t_211 : pN S_112 q_104 = (v_42.toInt.toNat) := tN_sR eS_112 hcp_105_n
    have t_213 : At S_112 q_104 14 := tAt_sR eS_112 hcp_105_a
    have t_212 : pN S_143 q_104 = (v_42.toInt.toNat) := ((hcp_145.2.1 q_104 t_213.1).2 (ne_of_new hcp_145.1 t_213.1)).2.2.2.1.trans t_211
    clear t_211
    have t_214 : pN S_152 q_104 = (v_42.toInt.toNat) := tN_sR eS_152 t_212
    clear t_212
    have t_215 : At S_152 q_144 14 := tAt_sR eS_152 hcp_145_a
    have t_216 : pN S_152 q_144 = (v_42.toInt.toNat) := tN_sR eS_152 hcp_145_n
    have t_217 : pI S_45 902 x = v_22 := (((hcp_47.2.1 x ha_x.1).2 (ne_of_new hcp_47.1 ha_x.1)).2.1 902).trans ev_22
    have t_218 : pI S_56 902 x = v_22 := tI_sR eS_56 t_217
    have t_219 : pI S_71 902 x = v_22 := (((hcp_73.2.1 x t_63.1).2 (ne_of_new hcp_73.1 t_63.1)).2.1 902).trans t_218
    have t_220 : pI S_80 902 x = v_22 := tI_sR eS_80 t_219
    have t_221 : pI S_103 902 x = v_22 := (((hcp_105.2.1 x t_87.1).2 (ne_of_new hcp_105.1 t_87.1)).2.1 902).trans t_220
    have t_222 : pI S_112 902 x = v_22 := tI_sR eS_112 t_221
    have t_223 : pI S_143 902 x = v_22 := (((hcp_145.2.1 x t_119.1).2 (ne_of_new hcp_145.1 t_119.1)).2.1 902).trans t_222
    have t_224 : pI S_152 902 x = v_22 := tI_sR eS_152 t_223
    have t_225 : pR S_45 900 x = some q_25 := (((hcp_47.2.1 x ha_x.1).2 (ne_of_new hcp_47.1 ha_x.1)).2.2.1 900).trans h_26
    have t_226 : pR S_56 900 x = some q_25 := tR_sR eS_56 rfl t_225
    have t_227 : pR S_71 900 x = some q_25 := (((hcp_73.2.1 x t_63.1).2 (ne_of_new hcp_73.1 t_63.1)).2.2.1 900).trans t_226
    have t_228 : pR S_80 900 x = some q_25 := tR_sR eS_80 rfl t_227
    have t_229 : pR S_103 900 x = some q_25 := (((hcp_105.2.1 x t_87.1).2 (ne_of_new hcp_105.1 t_87.1)).2.2.1 900).trans t_228
    have t_230 : pR S_112 900 x = some q_25 := tR_sR eS_112 rfl t_229
    have t_231 : pR S_143 900 x = some q_25 := (((hcp_145.2.1 x t_119.1).2 (ne_of_new hcp_145.1 t_119.1)).2.2.1 900).trans t_230
    have t_232 : pR S_152 900 x = some q_25 := tR_sR eS_152 rfl t_231
    have t_233 : pR S_45 901 x = some q_29 := (((hcp_47.2.1 x ha_x.1).2 (ne_of_new hcp_47.1 ha_x.1)).2.2.1 901).trans h_30
    have t_234 : pR S_56 901 x = some q_29 := tR_sR eS_56 rfl t_233
    have t_235 : pR S_71 901 x = some q_29 := (((hcp_73.2.1 x t_63.1).2 (ne_of_new hcp_73.1 t_63.1)).2.2.1 901).trans t_234
    have t_236 : pR S_80 901 x = some q_29 := tR_sR eS_80 rfl t_235
    have t_237 : pR S_103 901 x = some q_29 := (((hcp_105.2.1 x t_87.1).2 (ne_of_new hcp_105.1 t_87.1)).2.2.1 901).trans t_236
    have t_238 : pR S_112 901 x = some q_29 := tR_sR eS_112 rfl t_237
    have t_239 : pR S_143 901 x = some q_29 := (((hcp_145.2.1 x t_119.1).2 (ne_of_new hcp_145.1 t_119.1)).2.2.1 901).trans t_238
    have t_240 : pR S_152 901 x = some q_29 := tR_sR eS_152 rfl t_239
    have t_241 : At S_45 q_25 1614 := ⟨(hcp_47.2.1 q_25 h_27.1).1, ((hcp_47.2.1 q_25 h_27.1).2 (ne_of_new hcp_47.1 h_27.1)).1.trans h_27.2⟩
    have t_242 : At S_56 q_25 1614 := tAt_sR eS_56 t_241
    have t_243 : At S_71 q_25 1614 := ⟨(hcp_73.2.1 q_25 t_242.1).1, ((hcp_73.2.1 q_25 t_242.1).2 (ne_of_new hcp_73.1 t_242.1)).1.trans t_242.2⟩
    have t_244 : At S_80 q_25 1614 := tAt_sR eS_80 t_243
    have t_245 : At S_103 q_25 1614 := ⟨(hcp_105.2.1 q_25 t_244.1).1, ((hcp_105.2.1 q_25 t_244.1).2 (ne_of_new hcp_105.1 t_244.1)).1.trans t_244.2⟩
    have t_246 : At S_112 q_25 1614 := tAt_sR eS_112 t_245
    have t_247 : At S_143 q_25 1614 := ⟨(hcp_145.2.1 q_25 t_246.1).1, ((hcp_145.2.1 q_25 t_246.1).2 (ne_of_new hcp_145.1 t_246.1)).1.trans t_246.2⟩
    have t_248 : At S_152 q_25 1614 := tAt_sR eS_152 t_247
    have t_249 : pN S_45 q_25 = 300 := ((hcp_47.2.1 q_25 h_27.1).2 (ne_of_new hcp_47.1 h_27.1)).2.2.2.1.trans h_28
    clear h_28
    have t_250 : pN S_56 q_25 = 300 := tN_sR eS_56 t_249
    clear t_249
    have t_252 : At S_45 q_25 1614 := ⟨(hcp_47.2.1 q_25 h_27.1).1, ((hcp_47.2.1 q_25 h_27.1).2 (ne_of_new hcp_47.1 h_27.1)).1.trans h_27.2⟩
    have t_253 : At S_56 q_25 1614 := tAt_sR eS_56 t_252
    have t_251 : pN S_71 q_25 = 300 := ((hcp_73.2.1 q_25 t_253.1).2 (ne_of_new hcp_73.1 t_253.1)).2.2.2.1.trans t_250
    clear t_250
    have t_254 : pN S_80 q_25 = 300 := tN_sR eS_80 t_251
    clear t_251
    have t_256 : At S_71 q_25 1614 := ⟨(hcp_73.2.1 q_25 t_253.1).1, ((hcp_73.2.1 q_25 t_253.1).2 (ne_of_new hcp_73.1 t_253.1)).1.trans t_253.2⟩
    have t_257 : At S_80 q_25 1614 := tAt_sR eS_80 t_256
    have t_255 : pN S_103 q_25 = 300 := ((hcp_105.2.1 q_25 t_257.1).2 (ne_of_new hcp_105.1 t_257.1)).2.2.2.1.trans t_254
    clear t_254
    have t_258 : pN S_112 q_25 = 300 := tN_sR eS_112 t_255
    clear t_255
    have t_260 : At S_103 q_25 1614 := ⟨(hcp_105.2.1 q_25 t_257.1).1, ((hcp_105.2.1 q_25 t_257.1).2 (ne_of_new hcp_105.1 t_257.1)).1.trans t_257.2⟩
    have t_261 : At S_112 q_25 1614 := tAt_sR eS_112 t_260
    have t_259 : pN S_143 q_25 = 300 := ((hcp_145.2.1 q_25 t_261.1).2 (ne_of_new hcp_145.1 t_261.1)).2.2.2.1.trans t_258
    clear t_258
    have t_262 : pN S_152 q_25 = 300 := tN_sR eS_152 t_259
    clear t_259
    have t_263 : At S_45 q_29 1634 := ⟨(hcp_47.2.1 q_29 h_31.1).1, ((hcp_47.2.1 q_29 h_31.1).2 (ne_of_new hcp_47.1 h_31.1)).1.trans h_31.2⟩
    have t_264 : At S_56 q_29 1634 := tAt_sR eS_56 t_263
    have t_265 : At S_71 q_29 1634 := ⟨(hcp_73.2.1 q_29 t_264.1).1, ((hcp_73.2.1 q_29 t_264.1).2 (ne_of_new hcp_73.1 t_264.1)).1.trans t_264.2⟩
    have t_266 : At S_80 q_29 1634 := tAt_sR eS_80 t_265
    have t_267 : At S_103 q_29 1634 := ⟨(hcp_105.2.1 q_29 t_266.1).1, ((hcp_105.2.1 q_29 t_266.1).2 (ne_of_new hcp_105.1 t_266.1)).1.trans t_266.2⟩
    have t_268 : At S_112 q_29 1634 := tAt_sR eS_112 t_267
    have t_269 : At S_143 q_29 1634 := ⟨(hcp_145.2.1 q_29 t_268.1).1, ((hcp_145.2.1 q_29 t_268.1).2 (ne_of_new hcp_145.1 t_268.1)).1.trans t_268.2⟩
    have t_270 : At S_152 q_29 1634 := tAt_sR eS_152 t_269
    have t_271 : pN S_45 q_29 = 300 := ((hcp_47.2.1 q_29 h_31.1).2 (ne_of_new hcp_47.1 h_31.1)).2.2.2.1.trans h_32
    clear h_32
    have t_272 : pN S_56 q_29 = 300 := tN_sR eS_56 t_271
    clear t_271
    have t_274 : At S_45 q_29 1634 := ⟨(hcp_47.2.1 q_29 h_31.1).1, ((hcp_47.2.1 q_29 h_31.1).2 (ne_of_new hcp_47.1 h_31.1)).1.trans h_31.2⟩
    have t_275 : At S_56 q_29 1634 := tAt_sR eS_56 t_274
    have t_273 : pN S_71 q_29 = 300 := ((hcp_73.2.1 q_29 t_275.1).2 (ne_of_new hcp_73.1 t_275.1)).2.2.2.1.trans t_272
    clear t_272
    have t_276 : pN S_80 q_29 = 300 := tN_sR eS_80 t_273
    clear t_273
    have t_278 : At S_71 q_29 1634 := ⟨(hcp_73.2.1 q_29 t_275.1).1, ((hcp_73.2.1 q_29 t_275.1).2 (ne_of_new hcp_73.1 t_275.1)).1.trans t_275.2⟩
    have t_279 : At S_80 q_29 1634 := tAt_sR eS_80 t_278
    have t_277 : pN S_103 q_29 = 300 := ((hcp_105.2.1 q_29 t_279.1).2 (ne_of_new hcp_105.1 t_279.1)).2.2.2.1.trans t_276
    clear t_276
    have t_280 : pN S_112 q_29 = 300 := tN_sR eS_112 t_277
    clear t_277
    have t_282 : At S_103 q_29 1634 := ⟨(hcp_105.2.1 q_29 t_279.1).1, ((hcp_105.2.1 q_29 t_279.1).2 (ne_of_new hcp_105.1 t_279.1)).1.trans t_279.2⟩
    have t_283 : At S_112 q_29 1634 := tAt_sR eS_112 t_282
    have t_281 : pN S_143 q_29 = 300 := ((hcp_145.2.1 q_29 t_283.1).2 (ne_of_new hcp_145.1 t_283.1)).2.2.2.1.trans t_280
    clear t_280
    have t_284 : pN S_152 q_29 = 300 := tN_sR eS_152 t_281
    clear t_281
    have t_285 : pN S_45 x = (pN S x) := ((hcp_47.2.1 x ha_x.1).2 (ne_of_new hcp_47.1 ha_x.1)).2.2.2.1.trans (rfl : pN S x = pN S x)
    have t_286 : pN S_56 x = (pN S x) := tN_sR eS_56 t_285
    clear t_285
    have t_287 : pN S_71 x = (pN S x) := ((hcp_73.2.1 x t_63.1).2 (ne_of_new hcp_73.1 t_63.1)).2.2.2.1.trans t_286
    clear t_286
    have t_288 : pN S_80 x = (pN S x) := tN_sR eS_80 t_287
    clear t_287
    have t_289 : pN S_103 x = (pN S x) := ((hcp_105.2.1 x t_87.1).2 (ne_of_new hcp_105.1 t_87.1)).2.2.2.1.trans t_288
    clear t_288
    have t_290 : pN S_112 x = (pN S x) := tN_sR eS_112 t_289
    clear t_289
    have t_291 : pN S_143 x = (pN S x) := ((hcp_145.2.1 x t_119.1).2 (ne_of_new hcp_145.1 t_119.1)).2.2.2.1.trans t_290
    clear t_290
    have t_292 : pN S_152 x = (pN S x) := tN_sR eS_152 t_291
    clear t_291
    have hg9 : GX S_152 := GX_ofKq hG ha_x t_185 t_292 hK_155 (mk_29 (by rw [t_224]; omega) ⟨q_25, t_232, t_248, t_262⟩ ⟨q_29, t_240, t_270, t_284⟩ ⟨q_46, q_72, q_104, q_144, (v_42.toInt.toNat), t_164, t_192, t_207, h_158, t_188, t_197, t_210, t_215, t_176, t_205, t_214, t_216, by rw [t_184]; omega, by rw [t_184]; omega, by omega⟩) (fun q hq h0 => (nw_156 q hq).resolve_left h0)
    have t_293 : pN S_45 x = (pN S x) := ((hcp_47.2.1 x ha_x.1).2 (ne_of_new hcp_47.1 ha_x.1)).2.2.2.1.trans (rfl : pN S x = pN S x)
    have t_294 : pN S_56 x = (pN S x) := tN_sR eS_56 t_293
    clear t_293
    have t_295 : pN S_71 x = (pN S x) := ((hcp_73.2.1 x t_63.1).2 (ne_of_new hcp_73.1 t_63.1)).2.2.2.1.trans t_294
    clear t_294
    have t_296 : pN S_80 x = (pN S x) := tN_sR eS_80 t_295
    clear t_295
    have t_297 : pN S_103 x = (pN S x) := ((hcp_105.2.1 x t_87.1).2 (ne_of_new hcp_105.1 t_87.1)).2.2.2.1.trans t_296
    clear t_296
    have t_298 : pN S_112 x = (pN S x) := tN_sR eS_112 t_297
    clear t_297
    have t_299 : pN S_143 x = (pN S x) := ((hcp_145.2.1 x t_119.1).2 (ne_of_new hcp_145.1 t_119.1)).2.2.2.1.trans t_298
    clear t_298
    have t_300 : pN S_152 x = (pN S x) := tN_sR eS_152 t_299
    clear t_299
    have fx_301 : Fx S S x := Fx.rf S x
    have fx_302 : Fx S S_45 x := fx_301.kq hcp_47.2.1 ha_x.1 hcp_47.1
    have fx_303 : Fx S S_56 x := fx_302.sR eS_56 (by decide)
    have fx_304 : Fx S S_71 x := fx_303.kq hcp_73.2.1 t_63.1 hcp_73.1
    have fx_305 : Fx S S_80 x := fx_304.sR eS_80 (by decide)
    have fx_306 : Fx S S_103 x := fx_305.kq hcp_105.2.1 t_87.1 hcp_105.1
    have fx_307 : Fx S S_112 x := fx_306.sR eS_112 (by decide)
    have fx_308 : Fx S S_143 x := fx_307.kq hcp_145.2.1 t_119.1 hcp_145.1
    have fx_309 : Fx S S_152 x := fx_308.sR eS_152 (by decide)
    have hO9 : Og eMR S S_152 := ⟨hg9, Fr_ofKq ha_x t_185 t_300 hK_155 fx_309 (by decide +kernel)⟩
    exact ret_gv X hw hr hlocks (by show 4 ≤ Phc S + 4; omega) (by show ((((0 + (v_42.toInt.toNat)) + (v_42.toInt.toNat)) + (v_42.toInt.toNat)) + (v_42.toInt.toNat)) ≤ Phs S + 14400; omega) (by omega) (by omega) ⟨hO9, (fun q hq => by rw [t_164] at hq; cases hq; rw [t_184, t_176]; omega)⟩ dX9_makeRoomForPiece_76
  · have z_b_310 := trivial
    have k_311 : v_19.toInt < v_33.toInt := z_nle rfl rfl c_35
    have hO9 : Og eMR S S := Og.rf hG
    exact ret_gv X hw hr hlocks (by show 0 ≤ Phc S + 4; omega) (by show 0 ≤ Phs S + 14400; omega) (by omega) (by omega) ⟨hO9, (fun q hq => by rw [h_6] at hq; cases hq; rw [ev_19, h_14]; omega)⟩ dX9_makeRoomForPiece_12
set_option maxHeartbeats 4000000 in
set_option maxRecDepth 100000 in
theorem k_X9_addMetreOf (l : Launch) (G : va_G) (cy : Nat → ClassId) (κ : Nat → Nat) (S : PS) (sz hz : Nat) (x : Nat) (c1 : Nat) (a1 : Int32) (a1_z : Int) (hG : GX S) (ha_x : At S x 29) (ha_c1 : At S c1 0) (hz_a1 : a1.toInt = a1_z) : Gv l yX9_addMetreOf wsX9_addMetreOf ({ frames := 4, cells := Phc S + 4, slots := Phs S + 14400, locals := 192 }) G cy κ S sz hz 0 0 [.ref x, .ref c1, .int (a1)] (fun (S9 : PS) => Og eMO S S9 ∧ (True)) := by
  refine ent_g (cc := cX9_addMetreOf) (maxL := 4) (ret := none) (by decide) rfl (Nat.le_of_ble_eq_true rfl) ?_
  intro p e s m below meth c ls X hr hlocks hin hw hl hsz hhz
  subst hsz hhz
  have X : Cx p c cX9_addMetreOf 4 s [.ref x, .ref c1, .int (a1)].toArray wsX9_addMetreOf RX9 m G cy κ (AS S s.heap.size) := X
  have hl : lv_has ls 4 [(0, .ref x), (1, .ref c1), (2, .int (a1))] := hl
  have rg_a1 : (-2147483648) ≤ a1_z ∧ a1_z ≤ 2147483647 := by rw [← hz_a1]; exact ⟨z_lo _, z_hi _⟩
  have hpc0 : 0 + Phc S ≤ Phc S + 0 := by omega
  have hps0 : 0 + Phs S ≤ Phs S + 0 := by omega
  have hO : Og eMO S S := Og.rf hG
  refine lv_aload_n X.1 X.2.1 dX9_addMetreOf_0 rfl (lv_at hl 1 rfl) ?_
  obtain ⟨v_1, ev_1⟩ : ∃ v, pI S 6 c1 = v := ⟨_, rfl⟩
  have rg_3 := And.intro (z_lo v_1) (z_hi v_1)
  have pz_4 : (pI S 6 c1).toInt = v_1.toInt := by rw [ev_1]
  refine r_getI (g := 6) (x := v_1) X hw ha_c1 rfl 6 ev_1 (by decide) rfl inn_X9_addMetreOf_0 (by decide) (X.2.2.2.1 (.fieldLink RX9 52 "SilkMill$Cocoon" "latestPiece" "I") (by decide +kernel)) rfl (gv_6 _ _) dX9_addMetreOf_1 ?_
  refine lv_istore_n (lv' := [(3, .int (v_1)), (0, .ref x), (1, .ref c1), (2, .int (a1))]) X.1 X.2.1 dX9_addMetreOf_4 rfl hl (by decide) rfl (fun ls hl => ?_)
  refine lv_iload_n X.1 X.2.1 dX9_addMetreOf_5 rfl (lv_at hl 0 rfl) ?_
  refine lv_if_lt (tgt := 58) X.1 X.2.1 dX9_addMetreOf_6 (by decide) (fun c_5 => ?_) (fun c_5 => ?_)
  · have z_b_6 := trivial
    have k_7 : v_1.toInt < 0 := z_lt rfl ti_0 c_5
    refine lv_aload_n X.1 X.2.1 dX9_addMetreOf_58 rfl (lv_at hl 1 rfl) ?_
    obtain ⟨v_8, ev_8⟩ : ∃ v, pI S 904 x = v := ⟨_, rfl⟩
    obtain ⟨q_10, q_11, q_12, q_13, n_14, h_15, h_16, h_17, h_18, h_19, h_20, h_21, h_22, h_23, h_24, h_25, h_26, h_27⟩ := gGrwQ hO.1 ha_x
    have rg_9 := gGrw_904 hO.1 ha_x h_15 h_23; rw [ev_8] at rg_9
    have pz_28 : (pI S 904 x).toInt = v_8.toInt := by rw [ev_8]
    refine r_getI (g := 904) (x := v_8) X hw ha_x rfl 4 ev_8 (by decide) rfl inn_X9_addMetreOf_9 (by decide) (X.2.2.2.1 (.fieldLink RX9 43 "SilkMill$Strand" "pieces" "I") (by decide +kernel)) rfl (gv_904 _ _) dX9_addMetreOf_59 ?_
    refine lv_sipush (v := 3600) X.1 X.2.1 dX9_addMetreOf_62 (by decide) ?_
    refine lv_icmp_lt (tgt := 69) X.1 X.2.1 dX9_addMetreOf_65 (by decide) (fun c_29 => ?_) (fun c_29 => ?_)
    · have z_b_30 := trivial
      have k_31 : v_8.toInt < 3600 := z_lt rfl ti_3600 c_29
      refine lv_aload_n X.1 X.2.1 dX9_addMetreOf_69 rfl (lv_at hl 1 rfl) ?_
      refine k_gv (kc := 0) (ks := 0) (rm := { frames := 3, cells := Phc S + 4, slots := Phs S + 14400, locals := 144 }) (av := [.ref x]) X hw (va_runV (As := []) (rest := []) (cfix X) (k_X9_makeRoomForPiece l G cy κ S _ _ x hO.1 ha_x (by omega)) (cwV 0 X.2.2.2.1 gX9_addMetreOf_X9_makeRoomForPiece rfl rfl rfl (by decide +kernel) ⟨Nat.le_of_ble_eq_true rfl, Nat.le_of_ble_eq_true rfl⟩) (pre_gV X hw _ ha_x rfl (by decide) rfl) rfl rfl hl.1 rfl (lv_room (Nat.le_of_ble_eq_true rfl)) dX9_addMetreOf_70 ⟨(by show 0 + (Phc S + 4) ≤ Phc S + 4; omega), (by show 0 + (Phs S + 14400) ≤ Phs S + 14400; omega)⟩) (fun S_33 H locs c_34 n_35 hc_34 hn_35 hp hw => ?_)
      obtain ⟨hk_36, hp⟩ := hp
      have ph_37 : c_34 + Phc S_33 ≤ Phc S + 0 := by omega
      have ph_38 : n_35 + Phs S_33 ≤ Phs S + 0 := by omega
      clear hpc0
      clear hps0
      clear hc_34
      clear hn_35
      have hO_39 : Og eMO S S_33 := hO.call hk_36 (by decide +kernel)
      have t_59 : At S_33 x 29 := hk_36.fr.at ha_x
      obtain ⟨q_41, q_42, q_43, q_44, n_45, h_46, h_47, h_48, h_49, h_50, h_51, h_52, h_53, h_54, h_55, h_56, h_57, h_58⟩ := gGrwQ hO_39.1 t_59
      have t_60 : pI S_33 904 x = v_8 := hk_36.fr.I' (by decide +kernel) ha_x ev_8
      have f_61 := hp _ h_46; rw [t_60, h_54] at f_61
      refine lv_aload_n X.1 X.2.1 dX9_addMetreOf_73 rfl (lv_at hl 1 rfl) ?_
      refine r_getR (g := 905) X hw t_59 rfl 5 h_46 (by decide) rfl inn_X9_addMetreOf_9 (by decide) (X.2.2.2.1 (.fieldLink RX9 18 "SilkMill$Strand" "codes" "[I") (by decide +kernel)) rfl (gv_905 _ _) dX9_addMetreOf_74 ?_
      refine lv_aload_n X.1 X.2.1 dX9_addMetreOf_77 rfl (lv_at hl 1 rfl) ?_
      refine r_getI (g := 904) (x := v_8) X hw t_59 rfl 4 t_60 (by decide) rfl inn_X9_addMetreOf_9 (by decide) (X.2.2.2.1 (.fieldLink RX9 43 "SilkMill$Strand" "pieces" "I") (by decide +kernel)) rfl (gv_904 _ _) dX9_addMetreOf_78 ?_
      refine lv_aload_n X.1 X.2.1 dX9_addMetreOf_81 rfl (lv_at hl 2 rfl) ?_
      have t_62 : At S_33 c1 0 := hk_36.fr.at ha_c1
      refine k_i (rm := { frames := 1, cells := 0, slots := 0, locals := 48 }) (av := [.ref c1]) X hw (va_runV (As := []) (rest := [.int (v_8), .ref q_41]) (cfix X) (k_X0_code l G cy κ S_33 _ c1 hO_39.1 t_62) (cwV 0 X.2.2.2.1 gX9_addMetreOf_X0_code rfl rfl rfl (by decide +kernel) ⟨Nat.le_of_ble_eq_true rfl, Nat.le_of_ble_eq_true rfl⟩) (pre_V X hw _ t_62 rfl (by decide) rfl) rfl rfl hl.1 rfl (lv_room (Nat.le_of_ble_eq_true rfl)) dX9_addMetreOf_82 ⟨(by show c_34 + 0 ≤ Phc S + 4; omega), (by show n_35 + 0 ≤ Phs S + 14400; omega)⟩) c_34 n_35 (by show c_34 + 0 ≤ c_34; omega) (by show n_35 + 0 ≤ n_35; omega) (fun rr_63 S_64 H locs hp hw hfr hnw => ?_)
      obtain ⟨e2, hp⟩ := hp
      subst e2
      have rg_65 := And.intro (z_lo rr_63) (z_hi rr_63)
      refine r_iast X hw h_50 rfl (by rw [h_54]; exact z_ix rfl (by omega) (by omega)) dX9_addMetreOf_85 (fun H locs hw => ?_)
      obtain ⟨S_66, eS_66⟩ : ∃ T, T = sA S_33 q_41 (upd (pA S_33 q_41) (Int32.toNatClampNeg (v_8)) (rr_63)) := ⟨_, rfl⟩
      rw [← eS_66] at hw
      have ph_67 : c_34 + Phc S_66 ≤ Phc S + 0 := by rw [show Phc S_66 = Phc S_33 from Ph_sA eS_66]; exact ph_37
      have ph_68 : n_35 + Phs S_66 ≤ Phs S + 0 := by rw [show Phs S_66 = Phs S_33 from Ph_sA eS_66]; exact ph_38
      clear ph_37
      clear ph_38
      have hO_69 : Og eMO S S_66 := hO_39.sA eS_66 h_50 (by decide +kernel) (uA_14 hO_39.1 h_50)
      have h_70 : pA S_66 q_41 (Int32.toNatClampNeg (v_8)) = rr_63 := tA_sAs eS_66
      refine lv_aload_n X.1 X.2.1 dX9_addMetreOf_86 rfl (lv_at hl 1 rfl) ?_
      have t_71 : At S_66 x 29 := tAt_sA eS_66 t_59
      have t_72 : pR S_66 906 x = some q_42 := tR_sA eS_66 h_47
      refine r_getR (g := 906) X hw t_71 rfl 6 t_72 (by decide) rfl inn_X9_addMetreOf_9 (by decide) (X.2.2.2.1 (.fieldLink RX9 21 "SilkMill$Strand" "firsts" "[I") (by decide +kernel)) rfl (gv_906 _ _) dX9_addMetreOf_87 ?_
      refine lv_aload_n X.1 X.2.1 dX9_addMetreOf_90 rfl (lv_at hl 1 rfl) ?_
      have t_73 : pI S_66 904 x = v_8 := tI_sA eS_66 t_60
      refine r_getI (g := 904) (x := v_8) X hw t_71 rfl 4 t_73 (by decide) rfl inn_X9_addMetreOf_9 (by decide) (X.2.2.2.1 (.fieldLink RX9 43 "SilkMill$Strand" "pieces" "I") (by decide +kernel)) rfl (gv_904 _ _) dX9_addMetreOf_91 ?_
      refine lv_iload_n X.1 X.2.1 dX9_addMetreOf_94 rfl (lv_at hl 3 rfl) ?_
      have t_74 : At S_66 q_42 14 := tAt_sA eS_66 h_51
      have t_75 : pN S_66 q_42 = n_45 := tN_sA eS_66 h_55
      clear h_55
      refine r_iast X hw t_74 rfl (by rw [t_75]; exact z_ix rfl (by omega) (by omega)) dX9_addMetreOf_95 (fun H locs hw => ?_)
      obtain ⟨S_76, eS_76⟩ : ∃ T, T = sA S_66 q_42 (upd (pA S_66 q_42) (Int32.toNatClampNeg (v_8)) (a1)) := ⟨_, rfl⟩
      rw [← eS_76] at hw
      have ph_77 : c_34 + Phc S_76 ≤ Phc S + 0 := by rw [show Phc S_76 = Phc S_66 from Ph_sA eS_76]; exact ph_67
      have ph_78 : n_35 + Phs S_76 ≤ Phs S + 0 := by rw [show Phs S_76 = Phs S_66 from Ph_sA eS_76]; exact ph_68
      clear ph_67
      clear ph_68
      have hO_79 : Og eMO S S_76 := hO_69.sA eS_76 t_74 (by decide +kernel) (uA_14 hO_69.1 t_74)
      have h_80 : pA S_76 q_42 (Int32.toNatClampNeg (v_8)) = a1 := tA_sAs eS_76
      refine lv_aload_n X.1 X.2.1 dX9_addMetreOf_96 rfl (lv_at hl 1 rfl) ?_
      have t_81 : At S_76 x 29 := tAt_sA eS_76 t_71
      have t_82 : pR S_66 907 x = some q_43 := tR_sA eS_66 h_48
      have t_83 : pR S_76 907 x = some q_43 := tR_sA eS_76 t_82
      refine r_getR (g := 907) X hw t_81 rfl 7 t_83 (by decide) rfl inn_X9_addMetreOf_9 (by decide) (X.2.2.2.1 (.fieldLink RX9 24 "SilkMill$Strand" "lengths" "[I") (by decide +kernel)) rfl (gv_907 _ _) dX9_addMetreOf_97 ?_
      refine lv_aload_n X.1 X.2.1 dX9_addMetreOf_100 rfl (lv_at hl 1 rfl) ?_
      have t_84 : pI S_76 904 x = v_8 := tI_sA eS_76 t_73
      refine r_getI (g := 904) (x := v_8) X hw t_81 rfl 4 t_84 (by decide) rfl inn_X9_addMetreOf_9 (by decide) (X.2.2.2.1 (.fieldLink RX9 43 "SilkMill$Strand" "pieces" "I") (by decide +kernel)) rfl (gv_904 _ _) dX9_addMetreOf_101 ?_
      refine lv_iconst (v := 1) X.1 X.2.1 dX9_addMetreOf_104 (by decide) ?_
      have t_85 : At S_66 q_43 14 := tAt_sA eS_66 h_52
      have t_86 : At S_76 q_43 14 := tAt_sA eS_76 t_85
      have t_87 : pN S_66 q_43 = n_45 := tN_sA eS_66 h_56
      clear h_56
      have t_88 : pN S_76 q_43 = n_45 := tN_sA eS_76 t_87
      clear t_87
      refine r_iast X hw t_86 rfl (by rw [t_88]; exact z_ix rfl (by omega) (by omega)) dX9_addMetreOf_105 (fun H locs hw => ?_)
      obtain ⟨S_89, eS_89⟩ : ∃ T, T = sA S_76 q_43 (upd (pA S_76 q_43) (Int32.toNatClampNeg (v_8)) (1)) := ⟨_, rfl⟩
      rw [← eS_89] at hw
      have ph_90 : c_34 + Phc S_89 ≤ Phc S + 0 := by rw [show Phc S_89 = Phc S_76 from Ph_sA eS_89]; exact ph_77
      have ph_91 : n_35 + Phs S_89 ≤ Phs S + 0 := by rw [show Phs S_89 = Phs S_76 from Ph_sA eS_89]; exact ph_78
      clear ph_77
      clear ph_78
      have hO_92 : Og eMO S S_89 := hO_79.sA eS_89 t_86 (by decide +kernel) (uA_14 hO_79.1 t_86)
      have h_93 : pA S_89 q_43 (Int32.toNatClampNeg (v_8)) = 1 := tA_sAs eS_89
      refine lv_aload_n X.1 X.2.1 dX9_addMetreOf_106 rfl (lv_at hl 1 rfl) ?_
      have t_94 : At S_89 x 29 := tAt_sA eS_89 t_81
      have t_95 : pR S_66 908 x = some q_44 := tR_sA eS_66 h_49
      have t_96 : pR S_76 908 x = some q_44 := tR_sA eS_76 t_95
      have t_97 : pR S_89 908 x = some q_44 := tR_sA eS_89 t_96
      refine r_getR (g := 908) X hw t_94 rfl 8 t_97 (by decide) rfl inn_X9_addMetreOf_9 (by decide) (X.2.2.2.1 (.fieldLink RX9 27 "SilkMill$Strand" "places" "[I") (by decide +kernel)) rfl (gv_908 _ _) dX9_addMetreOf_107 ?_
      refine lv_aload_n X.1 X.2.1 dX9_addMetreOf_110 rfl (lv_at hl 1 rfl) ?_
      have t_98 : pI S_89 904 x = v_8 := tI_sA eS_89 t_84
      refine r_getI (g := 904) (x := v_8) X hw t_94 rfl 4 t_98 (by decide) rfl inn_X9_addMetreOf_9 (by decide) (X.2.2.2.1 (.fieldLink RX9 43 "SilkMill$Strand" "pieces" "I") (by decide +kernel)) rfl (gv_904 _ _) dX9_addMetreOf_111 ?_
      refine lv_aload_n X.1 X.2.1 dX9_addMetreOf_114 rfl (lv_at hl 2 rfl) ?_
      have t_99 : At S_66 c1 0 := tAt_sA eS_66 t_62
      have t_100 : At S_76 c1 0 := tAt_sA eS_76 t_99
      have t_101 : At S_89 c1 0 := tAt_sA eS_89 t_100
      obtain ⟨v_102, ev_102⟩ : ∃ v, pI S_89 4 c1 = v := ⟨_, rfl⟩
      have rg_104 := And.intro (z_lo v_102) (z_hi v_102)
      have pz_105 : (pI S_89 4 c1).toInt = v_102.toInt := by rw [ev_102]
      refine r_getI (g := 4) (x := v_102) X hw t_101 rfl 4 ev_102 (by decide) rfl inn_X9_addMetreOf_0 (by decide) (X.2.2.2.1 (.fieldLink RX9 64 "SilkMill$Cocoon" "drawnTo" "I") (by decide +kernel)) rfl (gv_4 _ _) dX9_addMetreOf_115 ?_
      have t_106 : At S_66 q_44 14 := tAt_sA eS_66 h_53
      have t_107 : At S_76 q_44 14 := tAt_sA eS_76 t_106
      have t_108 : At S_89 q_44 14 := tAt_sA eS_89 t_107
      have t_109 : pN S_66 q_44 = n_45 := tN_sA eS_66 h_57
      clear h_57
      have t_110 : pN S_76 q_44 = n_45 := tN_sA eS_76 t_109
      clear t_109
      have t_111 : pN S_89 q_44 = n_45 := tN_sA eS_89 t_110
      clear t_110
      refine r_iast X hw t_108 rfl (by rw [t_111]; exact z_ix rfl (by omega) (by omega)) dX9_addMetreOf_118 (fun H locs hw => ?_)
      obtain ⟨S_112, eS_112⟩ : ∃ T, T = sA S_89 q_44 (upd (pA S_89 q_44) (Int32.toNatClampNeg (v_8)) (v_102)) := ⟨_, rfl⟩
      rw [← eS_112] at hw
      have ph_113 : c_34 + Phc S_112 ≤ Phc S + 0 := by rw [show Phc S_112 = Phc S_89 from Ph_sA eS_112]; exact ph_90
      have ph_114 : n_35 + Phs S_112 ≤ Phs S + 0 := by rw [show Phs S_112 = Phs S_89 from Ph_sA eS_112]; exact ph_91
      clear ph_90
      clear ph_91
      have hO_115 : Og eMO S S_112 := hO_92.sA eS_112 t_108 (by decide +kernel) (uA_14 hO_92.1 t_108)
      have h_116 : pA S_112 q_44 (Int32.toNatClampNeg (v_8)) = v_102 := tA_sAs eS_112
      refine lv_aload_n X.1 X.2.1 dX9_addMetreOf_119 rfl (lv_at hl 2 rfl) ?_
      refine lv_aload_n X.1 X.2.1 dX9_addMetreOf_120 rfl (lv_at hl 1 rfl) ?_
      have t_117 : At S_112 x 29 := tAt_sA eS_112 t_94
      have t_118 : pI S_112 904 x = v_8 := tI_sA eS_112 t_98
      refine r_getI (g := 904) (x := v_8) X hw t_117 rfl 4 t_118 (by decide) rfl inn_X9_addMetreOf_9 (by decide) (X.2.2.2.1 (.fieldLink RX9 43 "SilkMill$Strand" "pieces" "I") (by decide +kernel)) rfl (gv_904 _ _) dX9_addMetreOf_121 ?_
      have t_119 : At S_112 c1 0 := tAt_sA eS_112 t_101
      refine r_putI (v := v_8) X hw t_119 rfl 6 6 tyX0 (by decide) rfl inn_X9_addMetreOf_0 tyX0_ok nmX0 (by decide) (X.2.2.2.1 (.fieldLink RX9 52 "SilkMill$Cocoon" "latestPiece" "I") (by decide +kernel)) rfl (Or.inl rfl) rfl rfl (Nat.le_of_ble_eq_true rfl) (st_6 _ _) dX9_addMetreOf_124 (fun H locs hw => ?_)
      obtain ⟨S_120, eS_120⟩ : ∃ T, T = sI S_112 6 c1 (v_8) := ⟨_, rfl⟩
      rw [← eS_120] at hw
      have ph_121 : c_34 + Phc S_120 ≤ Phc S + 0 := by rw [show Phc S_120 = Phc S_112 from Ph_sI eS_120 rfl rfl]; exact ph_113
      have ph_122 : n_35 + Phs S_120 ≤ Phs S + 0 := by rw [show Phs S_120 = Phs S_112 from Ph_sI eS_120 rfl rfl]; exact ph_114
      clear ph_113
      clear ph_114
      have hO_123 : Og eMO S S_120 := hO_115.sI eS_120 (by decide +kernel) (uI_0_6 hO_115.1 t_119)
      have h_124 : pI S_120 6 c1 = v_8 := tI_sIs eS_120
      refine lv_aload_n X.1 X.2.1 dX9_addMetreOf_127 rfl (lv_at hl 1 rfl) ?_
      refine lv_dup X.1 X.2.1 dX9_addMetreOf_128 rfl ?_
      have t_125 : At S_120 x 29 := tAt_sI eS_120 t_117
      have t_126 : pI S_120 904 x = v_8 := tI_sI eS_120 rfl t_118
      refine r_getI (g := 904) (x := v_8) X hw t_125 rfl 4 t_126 (by decide) rfl inn_X9_addMetreOf_9 (by decide) (X.2.2.2.1 (.fieldLink RX9 43 "SilkMill$Strand" "pieces" "I") (by decide +kernel)) rfl (gv_904 _ _) dX9_addMetreOf_129 ?_
      refine lv_iconst (v := 1) X.1 X.2.1 dX9_addMetreOf_132 (by decide) ?_
      refine lv_iadd X.1 X.2.1 dX9_addMetreOf_133 ?_
      refine lv_topi (fun v_127 ev_127 => ?_)
      have z_128 : v_127.toInt = v_8.toInt + 1 := z_add ev_127 rfl ti_1 (by omega) (by omega)
      have t_129 : pR S_66 905 x = some q_41 := tR_sA eS_66 h_46
      have t_130 : pR S_76 905 x = some q_41 := tR_sA eS_76 t_129
      have t_131 : pR S_89 905 x = some q_41 := tR_sA eS_89 t_130
      have t_132 : pR S_112 905 x = some q_41 := tR_sA eS_112 t_131
      have t_133 : pR S_120 905 x = some q_41 := tR_sI eS_120 t_132
      have t_134 : pN S_66 q_41 = n_45 := tN_sA eS_66 h_54
      clear h_54
      have t_135 : pN S_76 q_41 = n_45 := tN_sA eS_76 t_134
      clear t_134
      have t_136 : pN S_89 q_41 = n_45 := tN_sA eS_89 t_135
      clear t_135
      have t_137 : pN S_112 q_41 = n_45 := tN_sA eS_112 t_136
      clear t_136
      have t_138 : pN S_120 q_41 = n_45 := tN_sI eS_120 t_137
      clear t_137
      refine r_putI (v := v_127) X hw t_125 rfl 4 904 tyX9 (by decide) rfl inn_X9_addMetreOf_9 tyX9_ok nmX9 (by decide) (X.2.2.2.1 (.fieldLink RX9 43 "SilkMill$Strand" "pieces" "I") (by decide +kernel)) rfl (Or.inl rfl) rfl rfl (Nat.le_of_ble_eq_true rfl) (st_904 _ _) dX9_addMetreOf_134 (fun H locs hw => ?_)
      obtain ⟨S_139, eS_139⟩ : ∃ T, T = sI S_120 904 x (v_127) := ⟨_, rfl⟩
      rw [← eS_139] at hw
      have ph_140 : c_34 + Phc S_139 ≤ Phc S + 0 := by rw [show Phc S_139 = Phc S_120 from Ph_sI eS_139 rfl rfl]; exact ph_121
      have ph_141 : n_35 + Phs S_139 ≤ Phs S + 0 := by rw [show Phs S_139 = Phs S_120 from Ph_sI eS_139 rfl rfl]; exact ph_122
      clear ph_121
      clear ph_122
      have hO_142 : Og eMO S S_139 := hO_123.sI eS_139 (by decide +kernel) (uI_29_904 hO_123.1 t_125 t_133 t_138 (by omega) (by omega))
      have h_143 : pI S_139 904 x = v_127 := tI_sIs eS_139
      exact ret_gv X hw hr hlocks (by show c_34 ≤ Phc S + 4; omega) (by show n_35 ≤ Phs S + 14400; omega) (by omega) (by omega) ⟨hO_142, trivial⟩ dX9_addMetreOf_137
    · have z_b_144 := trivial
      have k_145 : v_8.toInt ≥ 3600 := z_nlt rfl ti_3600 c_29
      exact ret_gv X hw hr hlocks (by show 0 ≤ Phc S + 4; omega) (by show 0 ≤ Phs S + 14400; omega) (by omega) (by omega) ⟨hO, trivial⟩ dX9_addMetreOf_68
  · have z_b_146 := trivial
    have k_147 : v_1.toInt ≥ 0 := z_nlt rfl ti_0 c_5
    refine lv_iload_n X.1 X.2.1 dX9_addMetreOf_9 rfl (lv_at hl 0 rfl) ?_
    refine lv_aload_n X.1 X.2.1 dX9_addMetreOf_10 rfl (lv_at hl 1 rfl) ?_
    obtain ⟨v_148, ev_148⟩ : ∃ v, pI S 904 x = v := ⟨_, rfl⟩
    obtain ⟨q_150, q_151, q_152, q_153, n_154, h_155, h_156, h_157, h_158, h_159, h_160, h_161, h_162, h_163, h_164, h_165, h_166, h_167⟩ := gGrwQ hO.1 ha_x
    have rg_149 := gGrw_904 hO.1 ha_x h_155 h_163; rw [ev_148] at rg_149
    have pz_168 : (pI S 904 x).toInt = v_148.toInt := by rw [ev_148]
    refine r_getI (g := 904) (x := v_148) X hw ha_x rfl 4 ev_148 (by decide) rfl inn_X9_addMetreOf_9 (by decide) (X.2.2.2.1 (.fieldLink RX9 43 "SilkMill$Strand" "pieces" "I") (by decide +kernel)) rfl (gv_904 _ _) dX9_addMetreOf_11 ?_
    refine lv_icmp_ge (tgt := 58) X.1 X.2.1 dX9_addMetreOf_14 (by decide) (fun c_169 => ?_) (fun c_169 => ?_)
    · have z_b_170 := trivial
      have k_171 : v_1.toInt ≥ v_148.toInt := z_le rfl rfl c_169
      refine lv_aload_n X.1 X.2.1 dX9_addMetreOf_58 rfl (lv_at hl 1 rfl) ?_
      refine r_getI (g := 904) (x := v_148) X hw ha_x rfl 4 ev_148 (by decide) rfl inn_X9_addMetreOf_9 (by decide) (X.2.2.2.1 (.fieldLink RX9 43 "SilkMill$Strand" "pieces" "I") (by decide +kernel)) rfl (gv_904 _ _) dX9_addMetreOf_59 ?_
      refine lv_sipush (v := 3600) X.1 X.2.1 dX9_addMetreOf_62 (by decide) ?_
      refine lv_icmp_lt (tgt := 69) X.1 X.2.1 dX9_addMetreOf_65 (by decide) (fun c_172 => ?_) (fun c_172 => ?_)
      · have z_b_173 := trivial
        have k_174 : v_148.toInt < 3600 := z_lt rfl ti_3600 c_172
        refine lv_aload_n X.1 X.2.1 dX9_addMetreOf_69 rfl (lv_at hl 1 rfl) ?_
        refine k_gv (kc := 0) (ks := 0) (rm := { frames := 3, cells := Phc S + 4, slots := Phs S + 14400, locals := 144 }) (av := [.ref x]) X hw (va_runV (As := []) (rest := []) (cfix X) (k_X9_makeRoomForPiece l G cy κ S _ _ x hO.1 ha_x (by omega)) (cwV 0 X.2.2.2.1 gX9_addMetreOf_X9_makeRoomForPiece rfl rfl rfl (by decide +kernel) ⟨Nat.le_of_ble_eq_true rfl, Nat.le_of_ble_eq_true rfl⟩) (pre_gV X hw _ ha_x rfl (by decide) rfl) rfl rfl hl.1 rfl (lv_room (Nat.le_of_ble_eq_true rfl)) dX9_addMetreOf_70 ⟨(by show 0 + (Phc S + 4) ≤ Phc S + 4; omega), (by show 0 + (Phs S + 14400) ≤ Phs S + 14400; omega)⟩) (fun S_176 H locs c_177 n_178 hc_177 hn_178 hp hw => ?_)
        obtain ⟨hk_179, hp⟩ := hp
        have ph_180 : c_177 + Phc S_176 ≤ Phc S + 0 := by omega
        have ph_181 : n_178 + Phs S_176 ≤ Phs S + 0 := by omega
        clear hpc0
        clear hps0
        clear hc_177
        clear hn_178
        have hO_182 : Og eMO S S_176 := hO.call hk_179 (by decide +kernel)
        have t_202 : At S_176 x 29 := hk_179.fr.at ha_x
        obtain ⟨q_184, q_185, q_186, q_187, n_188, h_189, h_190, h_191, h_192, h_193, h_194, h_195, h_196, h_197, h_198, h_199, h_200, h_201⟩ := gGrwQ hO_182.1 t_202
        have t_203 : pI S_176 904 x = v_148 := hk_179.fr.I' (by decide +kernel) ha_x ev_148
        have f_204 := hp _ h_189; rw [t_203, h_197] at f_204
        refine lv_aload_n X.1 X.2.1 dX9_addMetreOf_73 rfl (lv_at hl 1 rfl) ?_
        refine r_getR (g := 905) X hw t_202 rfl 5 h_189 (by decide) rfl inn_X9_addMetreOf_9 (by decide) (X.2.2.2.1 (.fieldLink RX9 18 "SilkMill$Strand" "codes" "[I") (by decide +kernel)) rfl (gv_905 _ _) dX9_addMetreOf_74 ?_
        refine lv_aload_n X.1 X.2.1 dX9_addMetreOf_77 rfl (lv_at hl 1 rfl) ?_
        refine r_getI (g := 904) (x := v_148) X hw t_202 rfl 4 t_203 (by decide) rfl inn_X9_addMetreOf_9 (by decide) (X.2.2.2.1 (.fieldLink RX9 43 "SilkMill$Strand" "pieces" "I") (by decide +kernel)) rfl (gv_904 _ _) dX9_addMetreOf_78 ?_
        refine lv_aload_n X.1 X.2.1 dX9_addMetreOf_81 rfl (lv_at hl 2 rfl) ?_
        have t_205 : At S_176 c1 0 := hk_179.fr.at ha_c1
        refine k_i (rm := { frames := 1, cells := 0, slots := 0, locals := 48 }) (av := [.ref c1]) X hw (va_runV (As := []) (rest := [.int (v_148), .ref q_184]) (cfix X) (k_X0_code l G cy κ S_176 _ c1 hO_182.1 t_205) (cwV 0 X.2.2.2.1 gX9_addMetreOf_X0_code rfl rfl rfl (by decide +kernel) ⟨Nat.le_of_ble_eq_true rfl, Nat.le_of_ble_eq_true rfl⟩) (pre_V X hw _ t_205 rfl (by decide) rfl) rfl rfl hl.1 rfl (lv_room (Nat.le_of_ble_eq_true rfl)) dX9_addMetreOf_82 ⟨(by show c_177 + 0 ≤ Phc S + 4; omega), (by show n_178 + 0 ≤ Phs S + 14400; omega)⟩) c_177 n_178 (by show c_177 + 0 ≤ c_177; omega) (by show n_178 + 0 ≤ n_178; omega) (fun rr_206 S_207 H locs hp hw hfr hnw => ?_)
        obtain ⟨e2, hp⟩ := hp
        subst e2
        have rg_208 := And.intro (z_lo rr_206) (z_hi rr_206)
        refine r_iast X hw h_193 rfl (by rw [h_197]; exact z_ix rfl (by omega) (by omega)) dX9_addMetreOf_85 (fun H locs hw => ?_)
        obtain ⟨S_209, eS_209⟩ : ∃ T, T = sA S_176 q_184 (upd (pA S_176 q_184) (Int32.toNatClampNeg (v_148)) (rr_206)) := ⟨_, rfl⟩
        rw [← eS_209] at hw
        have ph_210 : c_177 + Phc S_209 ≤ Phc S + 0 := by rw [show Phc S_209 = Phc S_176 from Ph_sA eS_209]; exact ph_180
        have ph_211 : n_178 + Phs S_209 ≤ Phs S + 0 := by rw [show Phs S_209 = Phs S_176 from Ph_sA eS_209]; exact ph_181
        clear ph_180
        clear ph_181
        have hO_212 : Og eMO S S_209 := hO_182.sA eS_209 h_193 (by decide +kernel) (uA_14 hO_182.1 h_193)
        have h_213 : pA S_209 q_184 (Int32.toNatClampNeg (v_148)) = rr_206 := tA_sAs eS_209
        refine lv_aload_n X.1 X.2.1 dX9_addMetreOf_86 rfl (lv_at hl 1 rfl) ?_
        have t_214 : At S_209 x 29 := tAt_sA eS_209 t_202
        have t_215 : pR S_209 906 x = some q_185 := tR_sA eS_209 h_190
        refine r_getR (g := 906) X hw t_214 rfl 6 t_215 (by decide) rfl inn_X9_addMetreOf_9 (by decide) (X.2.2.2.1 (.fieldLink RX9 21 "SilkMill$Strand" "firsts" "[I") (by decide +kernel)) rfl (gv_906 _ _) dX9_addMetreOf_87 ?_
        refine lv_aload_n X.1 X.2.1 dX9_addMetreOf_90 rfl (lv_at hl 1 rfl) ?_
        have t_216 : pI S_209 904 x = v_148 := tI_sA eS_209 t_203
        refine r_getI (g := 904) (x := v_148) X hw t_214 rfl 4 t_216 (by decide) rfl inn_X9_addMetreOf_9 (by decide) (X.2.2.2.1 (.fieldLink RX9 43 "SilkMill$Strand" "pieces" "I") (by decide +kernel)) rfl (gv_904 _ _) dX9_addMetreOf_91 ?_
        refine lv_iload_n X.1 X.2.1 dX9_addMetreOf_94 rfl (lv_at hl 3 rfl) ?_
        have t_217 : At S_209 q_185 14 := tAt_sA eS_209 h_194
        have t_218 : pN S_209 q_185 = n_188 := tN_sA eS_209 h_198
        clear h_198
        refine r_iast X hw t_217 rfl (by rw [t_218]; exact z_ix rfl (by omega) (by omega)) dX9_addMetreOf_95 (fun H locs hw => ?_)
        obtain ⟨S_219, eS_219⟩ : ∃ T, T = sA S_209 q_185 (upd (pA S_209 q_185) (Int32.toNatClampNeg (v_148)) (a1)) := ⟨_, rfl⟩
        rw [← eS_219] at hw
        have ph_220 : c_177 + Phc S_219 ≤ Phc S + 0 := by rw [show Phc S_219 = Phc S_209 from Ph_sA eS_219]; exact ph_210
        have ph_221 : n_178 + Phs S_219 ≤ Phs S + 0 := by rw [show Phs S_219 = Phs S_209 from Ph_sA eS_219]; exact ph_211
        clear ph_210
        clear ph_211
        have hO_222 : Og eMO S S_219 := hO_212.sA eS_219 t_217 (by decide +kernel) (uA_14 hO_212.1 t_217)
        have h_223 : pA S_219 q_185 (Int32.toNatClampNeg (v_148)) = a1 := tA_sAs eS_219
        refine lv_aload_n X.1 X.2.1 dX9_addMetreOf_96 rfl (lv_at hl 1 rfl) ?_
        have t_224 : At S_219 x 29 := tAt_sA eS_219 t_214
        have t_225 : pR S_209 907 x = some q_186 := tR_sA eS_209 h_191
        have t_226 : pR S_219 907 x = some q_186 := tR_sA eS_219 t_225
        refine r_getR (g := 907) X hw t_224 rfl 7 t_226 (by decide) rfl inn_X9_addMetreOf_9 (by decide) (X.2.2.2.1 (.fieldLink RX9 24 "SilkMill$Strand" "lengths" "[I") (by decide +kernel)) rfl (gv_907 _ _) dX9_addMetreOf_97 ?_
        refine lv_aload_n X.1 X.2.1 dX9_addMetreOf_100 rfl (lv_at hl 1 rfl) ?_
        have t_227 : pI S_219 904 x = v_148 := tI_sA eS_219 t_216
        refine r_getI (g := 904) (x := v_148) X hw t_224 rfl 4 t_227 (by decide) rfl inn_X9_addMetreOf_9 (by decide) (X.2.2.2.1 (.fieldLink RX9 43 "SilkMill$Strand" "pieces" "I") (by decide +kernel)) rfl (gv_904 _ _) dX9_addMetreOf_101 ?_
        refine lv_iconst (v := 1) X.1 X.2.1 dX9_addMetreOf_104 (by decide) ?_
        have t_228 : At S_209 q_186 14 := tAt_sA eS_209 h_195
        have t_229 : At S_219 q_186 14 := tAt_sA eS_219 t_228
        have t_230 : pN S_209 q_186 = n_188 := tN_sA eS_209 h_199
        clear h_199
        have t_231 : pN S_219 q_186 = n_188 := tN_sA eS_219 t_230
        clear t_230
        refine r_iast X hw t_229 rfl (by rw [t_231]; exact z_ix rfl (by omega) (by omega)) dX9_addMetreOf_105 (fun H locs hw => ?_)
        obtain ⟨S_232, eS_232⟩ : ∃ T, T = sA S_219 q_186 (upd (pA S_219 q_186) (Int32.toNatClampNeg (v_148)) (1)) := ⟨_, rfl⟩
        rw [← eS_232] at hw
        have ph_233 : c_177 + Phc S_232 ≤ Phc S + 0 := by rw [show Phc S_232 = Phc S_219 from Ph_sA eS_232]; exact ph_220
        have ph_234 : n_178 + Phs S_232 ≤ Phs S + 0 := by rw [show Phs S_232 = Phs S_219 from Ph_sA eS_232]; exact ph_221
        clear ph_220
        clear ph_221
        have hO_235 : Og eMO S S_232 := hO_222.sA eS_232 t_229 (by decide +kernel) (uA_14 hO_222.1 t_229)
        have h_236 : pA S_232 q_186 (Int32.toNatClampNeg (v_148)) = 1 := tA_sAs eS_232
        refine lv_aload_n X.1 X.2.1 dX9_addMetreOf_106 rfl (lv_at hl 1 rfl) ?_
        have t_237 : At S_232 x 29 := tAt_sA eS_232 t_224
        have t_238 : pR S_209 908 x = some q_187 := tR_sA eS_209 h_192
        have t_239 : pR S_219 908 x = some q_187 := tR_sA eS_219 t_238
        have t_240 : pR S_232 908 x = some q_187 := tR_sA eS_232 t_239
        refine r_getR (g := 908) X hw t_237 rfl 8 t_240 (by decide) rfl inn_X9_addMetreOf_9 (by decide) (X.2.2.2.1 (.fieldLink RX9 27 "SilkMill$Strand" "places" "[I") (by decide +kernel)) rfl (gv_908 _ _) dX9_addMetreOf_107 ?_
        refine lv_aload_n X.1 X.2.1 dX9_addMetreOf_110 rfl (lv_at hl 1 rfl) ?_
        have t_241 : pI S_232 904 x = v_148 := tI_sA eS_232 t_227
        refine r_getI (g := 904) (x := v_148) X hw t_237 rfl 4 t_241 (by decide) rfl inn_X9_addMetreOf_9 (by decide) (X.2.2.2.1 (.fieldLink RX9 43 "SilkMill$Strand" "pieces" "I") (by decide +kernel)) rfl (gv_904 _ _) dX9_addMetreOf_111 ?_
        refine lv_aload_n X.1 X.2.1 dX9_addMetreOf_114 rfl (lv_at hl 2 rfl) ?_
        have t_242 : At S_209 c1 0 := tAt_sA eS_209 t_205
        have t_243 : At S_219 c1 0 := tAt_sA eS_219 t_242
        have t_244 : At S_232 c1 0 := tAt_sA eS_232 t_243
        obtain ⟨v_245, ev_245⟩ : ∃ v, pI S_232 4 c1 = v := ⟨_, rfl⟩
        have rg_247 := And.intro (z_lo v_245) (z_hi v_245)
        have pz_248 : (pI S_232 4 c1).toInt = v_245.toInt := by rw [ev_245]
        refine r_getI (g := 4) (x := v_245) X hw t_244 rfl 4 ev_245 (by decide) rfl inn_X9_addMetreOf_0 (by decide) (X.2.2.2.1 (.fieldLink RX9 64 "SilkMill$Cocoon" "drawnTo" "I") (by decide +kernel)) rfl (gv_4 _ _) dX9_addMetreOf_115 ?_
        have t_249 : At S_209 q_187 14 := tAt_sA eS_209 h_196
        have t_250 : At S_219 q_187 14 := tAt_sA eS_219 t_249
        have t_251 : At S_232 q_187 14 := tAt_sA eS_232 t_250
        have t_252 : pN S_209 q_187 = n_188 := tN_sA eS_209 h_200
        clear h_200
        have t_253 : pN S_219 q_187 = n_188 := tN_sA eS_219 t_252
        clear t_252
        have t_254 : pN S_232 q_187 = n_188 := tN_sA eS_232 t_253
        clear t_253
        refine r_iast X hw t_251 rfl (by rw [t_254]; exact z_ix rfl (by omega) (by omega)) dX9_addMetreOf_118 (fun H locs hw => ?_)
        obtain ⟨S_255, eS_255⟩ : ∃ T, T = sA S_232 q_187 (upd (pA S_232 q_187) (Int32.toNatClampNeg (v_148)) (v_245)) := ⟨_, rfl⟩
        rw [← eS_255] at hw
        have ph_256 : c_177 + Phc S_255 ≤ Phc S + 0 := by rw [show Phc S_255 = Phc S_232 from Ph_sA eS_255]; exact ph_233
        have ph_257 : n_178 + Phs S_255 ≤ Phs S + 0 := by rw [show Phs S_255 = Phs S_232 from Ph_sA eS_255]; exact ph_234
        clear ph_233
        clear ph_234
        have hO_258 : Og eMO S S_255 := hO_235.sA eS_255 t_251 (by decide +kernel) (uA_14 hO_235.1 t_251)
        have h_259 : pA S_255 q_187 (Int32.toNatClampNeg (v_148)) = v_245 := tA_sAs eS_255
        refine lv_aload_n X.1 X.2.1 dX9_addMetreOf_119 rfl (lv_at hl 2 rfl) ?_
        refine lv_aload_n X.1 X.2.1 dX9_addMetreOf_120 rfl (lv_at hl 1 rfl) ?_
        have t_260 : At S_255 x 29 := tAt_sA eS_255 t_237
        have t_261 : pI S_255 904 x = v_148 := tI_sA eS_255 t_241
        refine r_getI (g := 904) (x := v_148) X hw t_260 rfl 4 t_261 (by decide) rfl inn_X9_addMetreOf_9 (by decide) (X.2.2.2.1 (.fieldLink RX9 43 "SilkMill$Strand" "pieces" "I") (by decide +kernel)) rfl (gv_904 _ _) dX9_addMetreOf_121 ?_
        have t_262 : At S_255 c1 0 := tAt_sA eS_255 t_244
        refine r_putI (v := v_148) X hw t_262 rfl 6 6 tyX0 (by decide) rfl inn_X9_addMetreOf_0 tyX0_ok nmX0 (by decide) (X.2.2.2.1 (.fieldLink RX9 52 "SilkMill$Cocoon" "latestPiece" "I") (by decide +kernel)) rfl (Or.inl rfl) rfl rfl (Nat.le_of_ble_eq_true rfl) (st_6 _ _) dX9_addMetreOf_124 (fun H locs hw => ?_)
        obtain ⟨S_263, eS_263⟩ : ∃ T, T = sI S_255 6 c1 (v_148) := ⟨_, rfl⟩
        rw [← eS_263] at hw
        have ph_264 : c_177 + Phc S_263 ≤ Phc S + 0 := by rw [show Phc S_263 = Phc S_255 from Ph_sI eS_263 rfl rfl]; exact ph_256
        have ph_265 : n_178 + Phs S_263 ≤ Phs S + 0 := by rw [show Phs S_263 = Phs S_255 from Ph_sI eS_263 rfl rfl]; exact ph_257
        clear ph_256
        clear ph_257
        have hO_266 : Og eMO S S_263 := hO_258.sI eS_263 (by decide +kernel) (uI_0_6 hO_258.1 t_262)
        have h_267 : pI S_263 6 c1 = v_148 := tI_sIs eS_263
        refine lv_aload_n X.1 X.2.1 dX9_addMetreOf_127 rfl (lv_at hl 1 rfl) ?_
        refine lv_dup X.1 X.2.1 dX9_addMetreOf_128 rfl ?_
        have t_268 : At S_263 x 29 := tAt_sI eS_263 t_260
        have t_269 : pI S_263 904 x = v_148 := tI_sI eS_263 rfl t_261
        refine r_getI (g := 904) (x := v_148) X hw t_268 rfl 4 t_269 (by decide) rfl inn_X9_addMetreOf_9 (by decide) (X.2.2.2.1 (.fieldLink RX9 43 "SilkMill$Strand" "pieces" "I") (by decide +kernel)) rfl (gv_904 _ _) dX9_addMetreOf_129 ?_
        refine lv_iconst (v := 1) X.1 X.2.1 dX9_addMetreOf_132 (by decide) ?_
        refine lv_iadd X.1 X.2.1 dX9_addMetreOf_133 ?_
        refine lv_topi (fun v_270 ev_270 => ?_)
        have z_271 : v_270.toInt = v_148.toInt + 1 := z_add ev_270 rfl ti_1 (by omega) (by omega)
        have t_272 : pR S_209 905 x = some q_184 := tR_sA eS_209 h_189
        have t_273 : pR S_219 905 x = some q_184 := tR_sA eS_219 t_272
        have t_274 : pR S_232 905 x = some q_184 := tR_sA eS_232 t_273
        have t_275 : pR S_255 905 x = some q_184 := tR_sA eS_255 t_274
        have t_276 : pR S_263 905 x = some q_184 := tR_sI eS_263 t_275
        have t_277 : pN S_209 q_184 = n_188 := tN_sA eS_209 h_197
        clear h_197
        have t_278 : pN S_219 q_184 = n_188 := tN_sA eS_219 t_277
        clear t_277
        have t_279 : pN S_232 q_184 = n_188 := tN_sA eS_232 t_278
        clear t_278
        have t_280 : pN S_255 q_184 = n_188 := tN_sA eS_255 t_279
        clear t_279
        have t_281 : pN S_263 q_184 = n_188 := tN_sI eS_263 t_280
        clear t_280
        refine r_putI (v := v_270) X hw t_268 rfl 4 904 tyX9 (by decide) rfl inn_X9_addMetreOf_9 tyX9_ok nmX9 (by decide) (X.2.2.2.1 (.fieldLink RX9 43 "SilkMill$Strand" "pieces" "I") (by decide +kernel)) rfl (Or.inl rfl) rfl rfl (Nat.le_of_ble_eq_true rfl) (st_904 _ _) dX9_addMetreOf_134 (fun H locs hw => ?_)
        obtain ⟨S_282, eS_282⟩ : ∃ T, T = sI S_263 904 x (v_270) := ⟨_, rfl⟩
        rw [← eS_282] at hw
        have ph_283 : c_177 + Phc S_282 ≤ Phc S + 0 := by rw [show Phc S_282 = Phc S_263 from Ph_sI eS_282 rfl rfl]; exact ph_264
        have ph_284 : n_178 + Phs S_282 ≤ Phs S + 0 := by rw [show Phs S_282 = Phs S_263 from Ph_sI eS_282 rfl rfl]; exact ph_265
        clear ph_264
        clear ph_265
        have hO_285 : Og eMO S S_282 := hO_266.sI eS_282 (by decide +kernel) (uI_29_904 hO_266.1 t_268 t_276 t_281 (by omega) (by omega))
        have h_286 : pI S_282 904 x = v_270 := tI_sIs eS_282
        exact ret_gv X hw hr hlocks (by show c_177 ≤ Phc S + 4; omega) (by show n_178 ≤ Phs S + 14400; omega) (by omega) (by omega) ⟨hO_285, trivial⟩ dX9_addMetreOf_137
      · have z_b_287 := trivial
        have k_288 : v_148.toInt ≥ 3600 := z_nlt rfl ti_3600 c_172
        exact ret_gv X hw hr hlocks (by show 0 ≤ Phc S + 4; omega) (by show 0 ≤ Phs S + 14400; omega) (by omega) (by omega) ⟨hO, trivial⟩ dX9_addMetreOf_68
    · have z_b_289 := trivial
      have k_290 : v_1.toInt < v_148.toInt := z_nle rfl rfl c_169
      refine lv_aload_n X.1 X.2.1 dX9_addMetreOf_17 rfl (lv_at hl 1 rfl) ?_
      refine r_getR (g := 905) X hw ha_x rfl 5 h_155 (by decide) rfl inn_X9_addMetreOf_9 (by decide) (X.2.2.2.1 (.fieldLink RX9 18 "SilkMill$Strand" "codes" "[I") (by decide +kernel)) rfl (gv_905 _ _) dX9_addMetreOf_18 ?_
      refine lv_iload_n X.1 X.2.1 dX9_addMetreOf_21 rfl (lv_at hl 0 rfl) ?_
      refine r_iald X hw h_159 rfl (by rw [h_163]; exact z_ix rfl (by omega) (by omega)) dX9_addMetreOf_22 ?_
      refine lv_topi (fun v_291 ev_291 => ?_)
      have rg_292 := And.intro (z_lo v_291) (z_hi v_291)
      have ev_291 := ev_291.symm
      refine lv_aload_n X.1 X.2.1 dX9_addMetreOf_23 rfl (lv_at hl 2 rfl) ?_
      refine k_i (rm := { frames := 1, cells := 0, slots := 0, locals := 48 }) (av := [.ref c1]) X hw (va_runV (As := []) (rest := [.int (v_291)]) (cfix X) (k_X0_code l G cy κ S _ c1 hO.1 ha_c1) (cwV 0 X.2.2.2.1 gX9_addMetreOf_X0_code rfl rfl rfl (by decide +kernel) ⟨Nat.le_of_ble_eq_true rfl, Nat.le_of_ble_eq_true rfl⟩) (pre_V X hw _ ha_c1 rfl (by decide) rfl) rfl rfl hl.1 rfl (lv_room (Nat.le_of_ble_eq_true rfl)) dX9_addMetreOf_24 ⟨(by show 0 + 0 ≤ Phc S + 4; omega), (by show 0 + 0 ≤ Phs S + 14400; omega)⟩) 0 0 (by show 0 + 0 ≤ 0; omega) (by show 0 + 0 ≤ 0; omega) (fun rr_293 S_294 H locs hp hw hfr hnw => ?_)
      obtain ⟨e2, hp⟩ := hp
      subst e2
      have rg_295 := And.intro (z_lo rr_293) (z_hi rr_293)
      refine lv_icmp_ne (tgt := 58) X.1 X.2.1 dX9_addMetreOf_27 (by decide) (fun c_296 => ?_) (fun c_296 => ?_)
      · have z_b_297 := trivial
        have k_298 : v_291.toInt ≠ rr_293.toInt := z_ne rfl rfl c_296
        refine lv_aload_n X.1 X.2.1 dX9_addMetreOf_58 rfl (lv_at hl 1 rfl) ?_
        refine r_getI (g := 904) (x := v_148) X hw ha_x rfl 4 ev_148 (by decide) rfl inn_X9_addMetreOf_9 (by decide) (X.2.2.2.1 (.fieldLink RX9 43 "SilkMill$Strand" "pieces" "I") (by decide +kernel)) rfl (gv_904 _ _) dX9_addMetreOf_59 ?_
        refine lv_sipush (v := 3600) X.1 X.2.1 dX9_addMetreOf_62 (by decide) ?_
        refine lv_icmp_lt (tgt := 69) X.1 X.2.1 dX9_addMetreOf_65 (by decide) (fun c_299 => ?_) (fun c_299 => ?_)
        · have z_b_300 := trivial
          have k_301 : v_148.toInt < 3600 := z_lt rfl ti_3600 c_299
          refine lv_aload_n X.1 X.2.1 dX9_addMetreOf_69 rfl (lv_at hl 1 rfl) ?_
          refine k_gv (kc := 0) (ks := 0) (rm := { frames := 3, cells := Phc S + 4, slots := Phs S + 14400, locals := 144 }) (av := [.ref x]) X hw (va_runV (As := []) (rest := []) (cfix X) (k_X9_makeRoomForPiece l G cy κ S _ _ x hO.1 ha_x (by omega)) (cwV 0 X.2.2.2.1 gX9_addMetreOf_X9_makeRoomForPiece rfl rfl rfl (by decide +kernel) ⟨Nat.le_of_ble_eq_true rfl, Nat.le_of_ble_eq_true rfl⟩) (pre_gV X hw _ ha_x rfl (by decide) rfl) rfl rfl hl.1 rfl (lv_room (Nat.le_of_ble_eq_true rfl)) dX9_addMetreOf_70 ⟨(by show 0 + (Phc S + 4) ≤ Phc S + 4; omega), (by show 0 + (Phs S + 14400) ≤ Phs S + 14400; omega)⟩) (fun S_303 H locs c_304 n_305 hc_304 hn_305 hp hw => ?_)
          obtain ⟨hk_306, hp⟩ := hp
          have ph_307 : c_304 + Phc S_303 ≤ Phc S + 0 := by omega
          have ph_308 : n_305 + Phs S_303 ≤ Phs S + 0 := by omega
          clear hpc0
          clear hps0
          clear hc_304
          clear hn_305
          have hO_309 : Og eMO S S_303 := hO.call hk_306 (by decide +kernel)
          have t_329 : At S_303 x 29 := hk_306.fr.at ha_x
          obtain ⟨q_311, q_312, q_313, q_314, n_315, h_316, h_317, h_318, h_319, h_320, h_321, h_322, h_323, h_324, h_325, h_326, h_327, h_328⟩ := gGrwQ hO_309.1 t_329
          have t_330 : pI S_303 904 x = v_148 := hk_306.fr.I' (by decide +kernel) ha_x ev_148
          have f_331 := hp _ h_316; rw [t_330, h_324] at f_331
          refine lv_aload_n X.1 X.2.1 dX9_addMetreOf_73 rfl (lv_at hl 1 rfl) ?_
          refine r_getR (g := 905) X hw t_329 rfl 5 h_316 (by decide) rfl inn_X9_addMetreOf_9 (by decide) (X.2.2.2.1 (.fieldLink RX9 18 "SilkMill$Strand" "codes" "[I") (by decide +kernel)) rfl (gv_905 _ _) dX9_addMetreOf_74 ?_
          refine lv_aload_n X.1 X.2.1 dX9_addMetreOf_77 rfl (lv_at hl 1 rfl) ?_
          refine r_getI (g := 904) (x := v_148) X hw t_329 rfl 4 t_330 (by decide) rfl inn_X9_addMetreOf_9 (by decide) (X.2.2.2.1 (.fieldLink RX9 43 "SilkMill$Strand" "pieces" "I") (by decide +kernel)) rfl (gv_904 _ _) dX9_addMetreOf_78 ?_
          refine lv_aload_n X.1 X.2.1 dX9_addMetreOf_81 rfl (lv_at hl 2 rfl) ?_
          have t_332 : At S_303 c1 0 := hk_306.fr.at ha_c1
          refine k_i (rm := { frames := 1, cells := 0, slots := 0, locals := 48 }) (av := [.ref c1]) X hw (va_runV (As := []) (rest := [.int (v_148), .ref q_311]) (cfix X) (k_X0_code l G cy κ S_303 _ c1 hO_309.1 t_332) (cwV 0 X.2.2.2.1 gX9_addMetreOf_X0_code rfl rfl rfl (by decide +kernel) ⟨Nat.le_of_ble_eq_true rfl, Nat.le_of_ble_eq_true rfl⟩) (pre_V X hw _ t_332 rfl (by decide) rfl) rfl rfl hl.1 rfl (lv_room (Nat.le_of_ble_eq_true rfl)) dX9_addMetreOf_82 ⟨(by show c_304 + 0 ≤ Phc S + 4; omega), (by show n_305 + 0 ≤ Phs S + 14400; omega)⟩) c_304 n_305 (by show c_304 + 0 ≤ c_304; omega) (by show n_305 + 0 ≤ n_305; omega) (fun rr_333 S_334 H locs hp hw hfr hnw => ?_)
          obtain ⟨e2, hp⟩ := hp
          subst e2
          have rg_335 := And.intro (z_lo rr_333) (z_hi rr_333)
          refine r_iast X hw h_320 rfl (by rw [h_324]; exact z_ix rfl (by omega) (by omega)) dX9_addMetreOf_85 (fun H locs hw => ?_)
          obtain ⟨S_336, eS_336⟩ : ∃ T, T = sA S_303 q_311 (upd (pA S_303 q_311) (Int32.toNatClampNeg (v_148)) (rr_333)) := ⟨_, rfl⟩
          rw [← eS_336] at hw
          have ph_337 : c_304 + Phc S_336 ≤ Phc S + 0 := by rw [show Phc S_336 = Phc S_303 from Ph_sA eS_336]; exact ph_307
          have ph_338 : n_305 + Phs S_336 ≤ Phs S + 0 := by rw [show Phs S_336 = Phs S_303 from Ph_sA eS_336]; exact ph_308
          clear ph_307
          clear ph_308
          have hO_339 : Og eMO S S_336 := hO_309.sA eS_336 h_320 (by decide +kernel) (uA_14 hO_309.1 h_320)
          have h_340 : pA S_336 q_311 (Int32.toNatClampNeg (v_148)) = rr_333 := tA_sAs eS_336
          refine lv_aload_n X.1 X.2.1 dX9_addMetreOf_86 rfl (lv_at hl 1 rfl) ?_
          have t_341 : At S_336 x 29 := tAt_sA eS_336 t_329
          have t_342 : pR S_336 906 x = some q_312 := tR_sA eS_336 h_317
          refine r_getR (g := 906) X hw t_341 rfl 6 t_342 (by decide) rfl inn_X9_addMetreOf_9 (by decide) (X.2.2.2.1 (.fieldLink RX9 21 "SilkMill$Strand" "firsts" "[I") (by decide +kernel)) rfl (gv_906 _ _) dX9_addMetreOf_87 ?_
          refine lv_aload_n X.1 X.2.1 dX9_addMetreOf_90 rfl (lv_at hl 1 rfl) ?_
          have t_343 : pI S_336 904 x = v_148 := tI_sA eS_336 t_330
          refine r_getI (g := 904) (x := v_148) X hw t_341 rfl 4 t_343 (by decide) rfl inn_X9_addMetreOf_9 (by decide) (X.2.2.2.1 (.fieldLink RX9 43 "SilkMill$Strand" "pieces" "I") (by decide +kernel)) rfl (gv_904 _ _) dX9_addMetreOf_91 ?_
          refine lv_iload_n X.1 X.2.1 dX9_addMetreOf_94 rfl (lv_at hl 3 rfl) ?_
          have t_344 : At S_336 q_312 14 := tAt_sA eS_336 h_321
          have t_345 : pN S_336 q_312 = n_315 := tN_sA eS_336 h_325
          clear h_325
          refine r_iast X hw t_344 rfl (by rw [t_345]; exact z_ix rfl (by omega) (by omega)) dX9_addMetreOf_95 (fun H locs hw => ?_)
          obtain ⟨S_346, eS_346⟩ : ∃ T, T = sA S_336 q_312 (upd (pA S_336 q_312) (Int32.toNatClampNeg (v_148)) (a1)) := ⟨_, rfl⟩
          rw [← eS_346] at hw
          have ph_347 : c_304 + Phc S_346 ≤ Phc S + 0 := by rw [show Phc S_346 = Phc S_336 from Ph_sA eS_346]; exact ph_337
          have ph_348 : n_305 + Phs S_346 ≤ Phs S + 0 := by rw [show Phs S_346 = Phs S_336 from Ph_sA eS_346]; exact ph_338
          clear ph_337
          clear ph_338
          have hO_349 : Og eMO S S_346 := hO_339.sA eS_346 t_344 (by decide +kernel) (uA_14 hO_339.1 t_344)
          have h_350 : pA S_346 q_312 (Int32.toNatClampNeg (v_148)) = a1 := tA_sAs eS_346
          refine lv_aload_n X.1 X.2.1 dX9_addMetreOf_96 rfl (lv_at hl 1 rfl) ?_
          have t_351 : At S_346 x 29 := tAt_sA eS_346 t_341
          have t_352 : pR S_336 907 x = some q_313 := tR_sA eS_336 h_318
          have t_353 : pR S_346 907 x = some q_313 := tR_sA eS_346 t_352
          refine r_getR (g := 907) X hw t_351 rfl 7 t_353 (by decide) rfl inn_X9_addMetreOf_9 (by decide) (X.2.2.2.1 (.fieldLink RX9 24 "SilkMill$Strand" "lengths" "[I") (by decide +kernel)) rfl (gv_907 _ _) dX9_addMetreOf_97 ?_
          refine lv_aload_n X.1 X.2.1 dX9_addMetreOf_100 rfl (lv_at hl 1 rfl) ?_
          have t_354 : pI S_346 904 x = v_148 := tI_sA eS_346 t_343
          refine r_getI (g := 904) (x := v_148) X hw t_351 rfl 4 t_354 (by decide) rfl inn_X9_addMetreOf_9 (by decide) (X.2.2.2.1 (.fieldLink RX9 43 "SilkMill$Strand" "pieces" "I") (by decide +kernel)) rfl (gv_904 _ _) dX9_addMetreOf_101 ?_
          refine lv_iconst (v := 1) X.1 X.2.1 dX9_addMetreOf_104 (by decide) ?_
          have t_355 : At S_336 q_313 14 := tAt_sA eS_336 h_322
          have t_356 : At S_346 q_313 14 := tAt_sA eS_346 t_355
          have t_357 : pN S_336 q_313 = n_315 := tN_sA eS_336 h_326
          clear h_326
          have t_358 : pN S_346 q_313 = n_315 := tN_sA eS_346 t_357
          clear t_357
          refine r_iast X hw t_356 rfl (by rw [t_358]; exact z_ix rfl (by omega) (by omega)) dX9_addMetreOf_105 (fun H locs hw => ?_)
          obtain ⟨S_359, eS_359⟩ : ∃ T, T = sA S_346 q_313 (upd (pA S_346 q_313) (Int32.toNatClampNeg (v_148)) (1)) := ⟨_, rfl⟩
          rw [← eS_359] at hw
          have ph_360 : c_304 + Phc S_359 ≤ Phc S + 0 := by rw [show Phc S_359 = Phc S_346 from Ph_sA eS_359]; exact ph_347
          have ph_361 : n_305 + Phs S_359 ≤ Phs S + 0 := by rw [show Phs S_359 = Phs S_346 from Ph_sA eS_359]; exact ph_348
          clear ph_347
          clear ph_348
          have hO_362 : Og eMO S S_359 := hO_349.sA eS_359 t_356 (by decide +kernel) (uA_14 hO_349.1 t_356)
          have h_363 : pA S_359 q_313 (Int32.toNatClampNeg (v_148)) = 1 := tA_sAs eS_359
          refine lv_aload_n X.1 X.2.1 dX9_addMetreOf_106 rfl (lv_at hl 1 rfl) ?_
          have t_364 : At S_359 x 29 := tAt_sA eS_359 t_351
          have t_365 : pR S_336 908 x = some q_314 := tR_sA eS_336 h_319
          have t_366 : pR S_346 908 x = some q_314 := tR_sA eS_346 t_365
          have t_367 : pR S_359 908 x = some q_314 := tR_sA eS_359 t_366
          refine r_getR (g := 908) X hw t_364 rfl 8 t_367 (by decide) rfl inn_X9_addMetreOf_9 (by decide) (X.2.2.2.1 (.fieldLink RX9 27 "SilkMill$Strand" "places" "[I") (by decide +kernel)) rfl (gv_908 _ _) dX9_addMetreOf_107 ?_
          refine lv_aload_n X.1 X.2.1 dX9_addMetreOf_110 rfl (lv_at hl 1 rfl) ?_
          have t_368 : pI S_359 904 x = v_148 := tI_sA eS_359 t_354
          refine r_getI (g := 904) (x := v_148) X hw t_364 rfl 4 t_368 (by decide) rfl inn_X9_addMetreOf_9 (by decide) (X.2.2.2.1 (.fieldLink RX9 43 "SilkMill$Strand" "pieces" "I") (by decide +kernel)) rfl (gv_904 _ _) dX9_addMetreOf_111 ?_
          refine lv_aload_n X.1 X.2.1 dX9_addMetreOf_114 rfl (lv_at hl 2 rfl) ?_
          have t_369 : At S_336 c1 0 := tAt_sA eS_336 t_332
          have t_370 : At S_346 c1 0 := tAt_sA eS_346 t_369
          have t_371 : At S_359 c1 0 := tAt_sA eS_359 t_370
          obtain ⟨v_372, ev_372⟩ : ∃ v, pI S_359 4 c1 = v := ⟨_, rfl⟩
          have rg_374 := And.intro (z_lo v_372) (z_hi v_372)
          have pz_375 : (pI S_359 4 c1).toInt = v_372.toInt := by rw [ev_372]
          refine r_getI (g := 4) (x := v_372) X hw t_371 rfl 4 ev_372 (by decide) rfl inn_X9_addMetreOf_0 (by decide) (X.2.2.2.1 (.fieldLink RX9 64 "SilkMill$Cocoon" "drawnTo" "I") (by decide +kernel)) rfl (gv_4 _ _) dX9_addMetreOf_115 ?_
          have t_376 : At S_336 q_314 14 := tAt_sA eS_336 h_323
          have t_377 : At S_346 q_314 14 := tAt_sA eS_346 t_376
          have t_378 : At S_359 q_314 14 := tAt_sA eS_359 t_377
          have t_379 : pN S_336 q_314 = n_315 := tN_sA eS_336 h_327
          clear h_327
          have t_380 : pN S_346 q_314 = n_315 := tN_sA eS_346 t_379
          clear t_379
          have t_381 : pN S_359 q_314 = n_315 := tN_sA eS_359 t_380
          clear t_380
          refine r_iast X hw t_378 rfl (by rw [t_381]; exact z_ix rfl (by omega) (by omega)) dX9_addMetreOf_118 (fun H locs hw => ?_)
          obtain ⟨S_382, eS_382⟩ : ∃ T, T = sA S_359 q_314 (upd (pA S_359 q_314) (Int32.toNatClampNeg (v_148)) (v_372)) := ⟨_, rfl⟩
          rw [← eS_382] at hw
          have ph_383 : c_304 + Phc S_382 ≤ Phc S + 0 := by rw [show Phc S_382 = Phc S_359 from Ph_sA eS_382]; exact ph_360
          have ph_384 : n_305 + Phs S_382 ≤ Phs S + 0 := by rw [show Phs S_382 = Phs S_359 from Ph_sA eS_382]; exact ph_361
          clear ph_360
          clear ph_361
          have hO_385 : Og eMO S S_382 := hO_362.sA eS_382 t_378 (by decide +kernel) (uA_14 hO_362.1 t_378)
          have h_386 : pA S_382 q_314 (Int32.toNatClampNeg (v_148)) = v_372 := tA_sAs eS_382
          refine lv_aload_n X.1 X.2.1 dX9_addMetreOf_119 rfl (lv_at hl 2 rfl) ?_
          refine lv_aload_n X.1 X.2.1 dX9_addMetreOf_120 rfl (lv_at hl 1 rfl) ?_
          have t_387 : At S_382 x 29 := tAt_sA eS_382 t_364
          have t_388 : pI S_382 904 x = v_148 := tI_sA eS_382 t_368
          refine r_getI (g := 904) (x := v_148) X hw t_387 rfl 4 t_388 (by decide) rfl inn_X9_addMetreOf_9 (by decide) (X.2.2.2.1 (.fieldLink RX9 43 "SilkMill$Strand" "pieces" "I") (by decide +kernel)) rfl (gv_904 _ _) dX9_addMetreOf_121 ?_
          have t_389 : At S_382 c1 0 := tAt_sA eS_382 t_371
          refine r_putI (v := v_148) X hw t_389 rfl 6 6 tyX0 (by decide) rfl inn_X9_addMetreOf_0 tyX0_ok nmX0 (by decide) (X.2.2.2.1 (.fieldLink RX9 52 "SilkMill$Cocoon" "latestPiece" "I") (by decide +kernel)) rfl (Or.inl rfl) rfl rfl (Nat.le_of_ble_eq_true rfl) (st_6 _ _) dX9_addMetreOf_124 (fun H locs hw => ?_)
          obtain ⟨S_390, eS_390⟩ : ∃ T, T = sI S_382 6 c1 (v_148) := ⟨_, rfl⟩
          rw [← eS_390] at hw
          have ph_391 : c_304 + Phc S_390 ≤ Phc S + 0 := by rw [show Phc S_390 = Phc S_382 from Ph_sI eS_390 rfl rfl]; exact ph_383
          have ph_392 : n_305 + Phs S_390 ≤ Phs S + 0 := by rw [show Phs S_390 = Phs S_382 from Ph_sI eS_390 rfl rfl]; exact ph_384
          clear ph_383
          clear ph_384
          have hO_393 : Og eMO S S_390 := hO_385.sI eS_390 (by decide +kernel) (uI_0_6 hO_385.1 t_389)
          have h_394 : pI S_390 6 c1 = v_148 := tI_sIs eS_390
          refine lv_aload_n X.1 X.2.1 dX9_addMetreOf_127 rfl (lv_at hl 1 rfl) ?_
          refine lv_dup X.1 X.2.1 dX9_addMetreOf_128 rfl ?_
          have t_395 : At S_390 x 29 := tAt_sI eS_390 t_387
          have t_396 : pI S_390 904 x = v_148 := tI_sI eS_390 rfl t_388
          refine r_getI (g := 904) (x := v_148) X hw t_395 rfl 4 t_396 (by decide) rfl inn_X9_addMetreOf_9 (by decide) (X.2.2.2.1 (.fieldLink RX9 43 "SilkMill$Strand" "pieces" "I") (by decide +kernel)) rfl (gv_904 _ _) dX9_addMetreOf_129 ?_
          refine lv_iconst (v := 1) X.1 X.2.1 dX9_addMetreOf_132 (by decide) ?_
          refine lv_iadd X.1 X.2.1 dX9_addMetreOf_133 ?_
          refine lv_topi (fun v_397 ev_397 => ?_)
          have z_398 : v_397.toInt = v_148.toInt + 1 := z_add ev_397 rfl ti_1 (by omega) (by omega)
          have t_399 : pR S_336 905 x = some q_311 := tR_sA eS_336 h_316
          have t_400 : pR S_346 905 x = some q_311 := tR_sA eS_346 t_399
          have t_401 : pR S_359 905 x = some q_311 := tR_sA eS_359 t_400
          have t_402 : pR S_382 905 x = some q_311 := tR_sA eS_382 t_401
          have t_403 : pR S_390 905 x = some q_311 := tR_sI eS_390 t_402
          have t_404 : pN S_336 q_311 = n_315 := tN_sA eS_336 h_324
          clear h_324
          have t_405 : pN S_346 q_311 = n_315 := tN_sA eS_346 t_404
          clear t_404
          have t_406 : pN S_359 q_311 = n_315 := tN_sA eS_359 t_405
          clear t_405
          have t_407 : pN S_382 q_311 = n_315 := tN_sA eS_382 t_406
          clear t_406
          have t_408 : pN S_390 q_311 = n_315 := tN_sI eS_390 t_407
          clear t_407
          refine r_putI (v := v_397) X hw t_395 rfl 4 904 tyX9 (by decide) rfl inn_X9_addMetreOf_9 tyX9_ok nmX9 (by decide) (X.2.2.2.1 (.fieldLink RX9 43 "SilkMill$Strand" "pieces" "I") (by decide +kernel)) rfl (Or.inl rfl) rfl rfl (Nat.le_of_ble_eq_true rfl) (st_904 _ _) dX9_addMetreOf_134 (fun H locs hw => ?_)
          obtain ⟨S_409, eS_409⟩ : ∃ T, T = sI S_390 904 x (v_397) := ⟨_, rfl⟩
          rw [← eS_409] at hw
          have ph_410 : c_304 + Phc S_409 ≤ Phc S + 0 := by rw [show Phc S_409 = Phc S_390 from Ph_sI eS_409 rfl rfl]; exact ph_391
          have ph_411 : n_305 + Phs S_409 ≤ Phs S + 0 := by rw [show Phs S_409 = Phs S_390 from Ph_sI eS_409 rfl rfl]; exact ph_392
          clear ph_391
          clear ph_392
          have hO_412 : Og eMO S S_409 := hO_393.sI eS_409 (by decide +kernel) (uI_29_904 hO_393.1 t_395 t_403 t_408 (by omega) (by omega))
          have h_413 : pI S_409 904 x = v_397 := tI_sIs eS_409
          exact ret_gv X hw hr hlocks (by show c_304 ≤ Phc S + 4; omega) (by show n_305 ≤ Phs S + 14400; omega) (by omega) (by omega) ⟨hO_412, trivial⟩ dX9_addMetreOf_137
        · have z_b_414 := trivial
          have k_415 : v_148.toInt ≥ 3600 := z_nlt rfl ti_3600 c_299
          exact ret_gv X hw hr hlocks (by show 0 ≤ Phc S + 4; omega) (by show 0 ≤ Phs S + 14400; omega) (by omega) (by omega) ⟨hO, trivial⟩ dX9_addMetreOf_68
      · have z_b_416 := trivial
        have k_417 : v_291.toInt = rr_293.toInt := z_eq rfl rfl c_296
        refine lv_aload_n X.1 X.2.1 dX9_addMetreOf_30 rfl (lv_at hl 1 rfl) ?_
        refine r_getR (g := 906) X hw ha_x rfl 6 h_156 (by decide) rfl inn_X9_addMetreOf_9 (by decide) (X.2.2.2.1 (.fieldLink RX9 21 "SilkMill$Strand" "firsts" "[I") (by decide +kernel)) rfl (gv_906 _ _) dX9_addMetreOf_31 ?_
        refine lv_iload_n X.1 X.2.1 dX9_addMetreOf_34 rfl (lv_at hl 0 rfl) ?_
        refine r_iald X hw h_160 rfl (by rw [h_164]; exact z_ix rfl (by omega) (by omega)) dX9_addMetreOf_35 ?_
        refine lv_topi (fun v_418 ev_418 => ?_)
        have rg_419 := And.intro (z_lo v_418) (z_hi v_418)
        have ev_418 := ev_418.symm
        refine lv_aload_n X.1 X.2.1 dX9_addMetreOf_36 rfl (lv_at hl 1 rfl) ?_
        refine r_getR (g := 907) X hw ha_x rfl 7 h_157 (by decide) rfl inn_X9_addMetreOf_9 (by decide) (X.2.2.2.1 (.fieldLink RX9 24 "SilkMill$Strand" "lengths" "[I") (by decide +kernel)) rfl (gv_907 _ _) dX9_addMetreOf_37 ?_
        refine lv_iload_n X.1 X.2.1 dX9_addMetreOf_40 rfl (lv_at hl 0 rfl) ?_
        refine r_iald X hw h_161 rfl (by rw [h_165]; exact z_ix rfl (by omega) (by omega)) dX9_addMetreOf_41 ?_
        refine lv_topi (fun v_420 ev_420 => ?_)
        have rg_421 := And.intro (z_lo v_420) (z_hi v_420)
        have ev_420 := ev_420.symm
        refine lv_iadd X.1 X.2.1 dX9_addMetreOf_42 ?_
        refine lv_topi (fun v_422 ev_422 => ?_)
        have rg_423 := And.intro (z_lo v_422) (z_hi v_422)
        refine lv_iload_n X.1 X.2.1 dX9_addMetreOf_43 rfl (lv_at hl 3 rfl) ?_
        refine lv_icmp_ne (tgt := 58) X.1 X.2.1 dX9_addMetreOf_44 (by decide) (fun c_424 => ?_) (fun c_424 => ?_)
        · have z_b_425 := trivial
          have k_426 : v_422.toInt ≠ a1_z := z_ne rfl hz_a1 c_424
          refine lv_aload_n X.1 X.2.1 dX9_addMetreOf_58 rfl (lv_at hl 1 rfl) ?_
          refine r_getI (g := 904) (x := v_148) X hw ha_x rfl 4 ev_148 (by decide) rfl inn_X9_addMetreOf_9 (by decide) (X.2.2.2.1 (.fieldLink RX9 43 "SilkMill$Strand" "pieces" "I") (by decide +kernel)) rfl (gv_904 _ _) dX9_addMetreOf_59 ?_
          refine lv_sipush (v := 3600) X.1 X.2.1 dX9_addMetreOf_62 (by decide) ?_
          refine lv_icmp_lt (tgt := 69) X.1 X.2.1 dX9_addMetreOf_65 (by decide) (fun c_427 => ?_) (fun c_427 => ?_)
          · have z_b_428 := trivial
            have k_429 : v_148.toInt < 3600 := z_lt rfl ti_3600 c_427
            refine lv_aload_n X.1 X.2.1 dX9_addMetreOf_69 rfl (lv_at hl 1 rfl) ?_
            refine k_gv (kc := 0) (ks := 0) (rm := { frames := 3, cells := Phc S + 4, slots := Phs S + 14400, locals := 144 }) (av := [.ref x]) X hw (va_runV (As := []) (rest := []) (cfix X) (k_X9_makeRoomForPiece l G cy κ S _ _ x hO.1 ha_x (by omega)) (cwV 0 X.2.2.2.1 gX9_addMetreOf_X9_makeRoomForPiece rfl rfl rfl (by decide +kernel) ⟨Nat.le_of_ble_eq_true rfl, Nat.le_of_ble_eq_true rfl⟩) (pre_gV X hw _ ha_x rfl (by decide) rfl) rfl rfl hl.1 rfl (lv_room (Nat.le_of_ble_eq_true rfl)) dX9_addMetreOf_70 ⟨(by show 0 + (Phc S + 4) ≤ Phc S + 4; omega), (by show 0 + (Phs S + 14400) ≤ Phs S + 14400; omega)⟩) (fun S_431 H locs c_432 n_433 hc_432 hn_433 hp hw => ?_)
            obtain ⟨hk_434, hp⟩ := hp
            have ph_435 : c_432 + Phc S_431 ≤ Phc S + 0 := by omega
            have ph_436 : n_433 + Phs S_431 ≤ Phs S + 0 := by omega
            clear hpc0
            clear hps0
            clear hc_432
            clear hn_433
            have hO_437 : Og eMO S S_431 := hO.call hk_434 (by decide +kernel)
            have t_457 : At S_431 x 29 := hk_434.fr.at ha_x
            obtain ⟨q_439, q_440, q_441, q_442, n_443, h_444, h_445, h_446, h_447, h_448, h_449, h_450, h_451, h_452, h_453, h_454, h_455, h_456⟩ := gGrwQ hO_437.1 t_457
            have t_458 : pI S_431 904 x = v_148 := hk_434.fr.I' (by decide +kernel) ha_x ev_148
            have f_459 := hp _ h_444; rw [t_458, h_452] at f_459
            refine lv_aload_n X.1 X.2.1 dX9_addMetreOf_73 rfl (lv_at hl 1 rfl) ?_
            refine r_getR (g := 905) X hw t_457 rfl 5 h_444 (by decide) rfl inn_X9_addMetreOf_9 (by decide) (X.2.2.2.1 (.fieldLink RX9 18 "SilkMill$Strand" "codes" "[I") (by decide +kernel)) rfl (gv_905 _ _) dX9_addMetreOf_74 ?_
            refine lv_aload_n X.1 X.2.1 dX9_addMetreOf_77 rfl (lv_at hl 1 rfl) ?_
            refine r_getI (g := 904) (x := v_148) X hw t_457 rfl 4 t_458 (by decide) rfl inn_X9_addMetreOf_9 (by decide) (X.2.2.2.1 (.fieldLink RX9 43 "SilkMill$Strand" "pieces" "I") (by decide +kernel)) rfl (gv_904 _ _) dX9_addMetreOf_78 ?_
            refine lv_aload_n X.1 X.2.1 dX9_addMetreOf_81 rfl (lv_at hl 2 rfl) ?_
            have t_460 : At S_431 c1 0 := hk_434.fr.at ha_c1
            refine k_i (rm := { frames := 1, cells := 0, slots := 0, locals := 48 }) (av := [.ref c1]) X hw (va_runV (As := []) (rest := [.int (v_148), .ref q_439]) (cfix X) (k_X0_code l G cy κ S_431 _ c1 hO_437.1 t_460) (cwV 0 X.2.2.2.1 gX9_addMetreOf_X0_code rfl rfl rfl (by decide +kernel) ⟨Nat.le_of_ble_eq_true rfl, Nat.le_of_ble_eq_true rfl⟩) (pre_V X hw _ t_460 rfl (by decide) rfl) rfl rfl hl.1 rfl (lv_room (Nat.le_of_ble_eq_true rfl)) dX9_addMetreOf_82 ⟨(by show c_432 + 0 ≤ Phc S + 4; omega), (by show n_433 + 0 ≤ Phs S + 14400; omega)⟩) c_432 n_433 (by show c_432 + 0 ≤ c_432; omega) (by show n_433 + 0 ≤ n_433; omega) (fun rr_461 S_462 H locs hp hw hfr hnw => ?_)
            obtain ⟨e2, hp⟩ := hp
            subst e2
            have rg_463 := And.intro (z_lo rr_461) (z_hi rr_461)
            refine r_iast X hw h_448 rfl (by rw [h_452]; exact z_ix rfl (by omega) (by omega)) dX9_addMetreOf_85 (fun H locs hw => ?_)
            obtain ⟨S_464, eS_464⟩ : ∃ T, T = sA S_431 q_439 (upd (pA S_431 q_439) (Int32.toNatClampNeg (v_148)) (rr_461)) := ⟨_, rfl⟩
            rw [← eS_464] at hw
            have ph_465 : c_432 + Phc S_464 ≤ Phc S + 0 := by rw [show Phc S_464 = Phc S_431 from Ph_sA eS_464]; exact ph_435
            have ph_466 : n_433 + Phs S_464 ≤ Phs S + 0 := by rw [show Phs S_464 = Phs S_431 from Ph_sA eS_464]; exact ph_436
            clear ph_435
            clear ph_436
            have hO_467 : Og eMO S S_464 := hO_437.sA eS_464 h_448 (by decide +kernel) (uA_14 hO_437.1 h_448)
            have h_468 : pA S_464 q_439 (Int32.toNatClampNeg (v_148)) = rr_461 := tA_sAs eS_464
            refine lv_aload_n X.1 X.2.1 dX9_addMetreOf_86 rfl (lv_at hl 1 rfl) ?_
            have t_469 : At S_464 x 29 := tAt_sA eS_464 t_457
            have t_470 : pR S_464 906 x = some q_440 := tR_sA eS_464 h_445
            refine r_getR (g := 906) X hw t_469 rfl 6 t_470 (by decide) rfl inn_X9_addMetreOf_9 (by decide) (X.2.2.2.1 (.fieldLink RX9 21 "SilkMill$Strand" "firsts" "[I") (by decide +kernel)) rfl (gv_906 _ _) dX9_addMetreOf_87 ?_
            refine lv_aload_n X.1 X.2.1 dX9_addMetreOf_90 rfl (lv_at hl 1 rfl) ?_
            have t_471 : pI S_464 904 x = v_148 := tI_sA eS_464 t_458
            refine r_getI (g := 904) (x := v_148) X hw t_469 rfl 4 t_471 (by decide) rfl inn_X9_addMetreOf_9 (by decide) (X.2.2.2.1 (.fieldLink RX9 43 "SilkMill$Strand" "pieces" "I") (by decide +kernel)) rfl (gv_904 _ _) dX9_addMetreOf_91 ?_
            refine lv_iload_n X.1 X.2.1 dX9_addMetreOf_94 rfl (lv_at hl 3 rfl) ?_
            have t_472 : At S_464 q_440 14 := tAt_sA eS_464 h_449
            have t_473 : pN S_464 q_440 = n_443 := tN_sA eS_464 h_453
            clear h_453
            refine r_iast X hw t_472 rfl (by rw [t_473]; exact z_ix rfl (by omega) (by omega)) dX9_addMetreOf_95 (fun H locs hw => ?_)
            obtain ⟨S_474, eS_474⟩ : ∃ T, T = sA S_464 q_440 (upd (pA S_464 q_440) (Int32.toNatClampNeg (v_148)) (a1)) := ⟨_, rfl⟩
            rw [← eS_474] at hw
            have ph_475 : c_432 + Phc S_474 ≤ Phc S + 0 := by rw [show Phc S_474 = Phc S_464 from Ph_sA eS_474]; exact ph_465
            have ph_476 : n_433 + Phs S_474 ≤ Phs S + 0 := by rw [show Phs S_474 = Phs S_464 from Ph_sA eS_474]; exact ph_466
            clear ph_465
            clear ph_466
            have hO_477 : Og eMO S S_474 := hO_467.sA eS_474 t_472 (by decide +kernel) (uA_14 hO_467.1 t_472)
            have h_478 : pA S_474 q_440 (Int32.toNatClampNeg (v_148)) = a1 := tA_sAs eS_474
            refine lv_aload_n X.1 X.2.1 dX9_addMetreOf_96 rfl (lv_at hl 1 rfl) ?_
            have t_479 : At S_474 x 29 := tAt_sA eS_474 t_469
            have t_480 : pR S_464 907 x = some q_441 := tR_sA eS_464 h_446
            have t_481 : pR S_474 907 x = some q_441 := tR_sA eS_474 t_480
            refine r_getR (g := 907) X hw t_479 rfl 7 t_481 (by decide) rfl inn_X9_addMetreOf_9 (by decide) (X.2.2.2.1 (.fieldLink RX9 24 "SilkMill$Strand" "lengths" "[I") (by decide +kernel)) rfl (gv_907 _ _) dX9_addMetreOf_97 ?_
            refine lv_aload_n X.1 X.2.1 dX9_addMetreOf_100 rfl (lv_at hl 1 rfl) ?_
            have t_482 : pI S_474 904 x = v_148 := tI_sA eS_474 t_471
            refine r_getI (g := 904) (x := v_148) X hw t_479 rfl 4 t_482 (by decide) rfl inn_X9_addMetreOf_9 (by decide) (X.2.2.2.1 (.fieldLink RX9 43 "SilkMill$Strand" "pieces" "I") (by decide +kernel)) rfl (gv_904 _ _) dX9_addMetreOf_101 ?_
            refine lv_iconst (v := 1) X.1 X.2.1 dX9_addMetreOf_104 (by decide) ?_
            have t_483 : At S_464 q_441 14 := tAt_sA eS_464 h_450
            have t_484 : At S_474 q_441 14 := tAt_sA eS_474 t_483
            have t_485 : pN S_464 q_441 = n_443 := tN_sA eS_464 h_454
            clear h_454
            have t_486 : pN S_474 q_441 = n_443 := tN_sA eS_474 t_485
            clear t_485
            refine r_iast X hw t_484 rfl (by rw [t_486]; exact z_ix rfl (by omega) (by omega)) dX9_addMetreOf_105 (fun H locs hw => ?_)
            obtain ⟨S_487, eS_487⟩ : ∃ T, T = sA S_474 q_441 (upd (pA S_474 q_441) (Int32.toNatClampNeg (v_148)) (1)) := ⟨_, rfl⟩
            rw [← eS_487] at hw
            have ph_488 : c_432 + Phc S_487 ≤ Phc S + 0 := by rw [show Phc S_487 = Phc S_474 from Ph_sA eS_487]; exact ph_475
            have ph_489 : n_433 + Phs S_487 ≤ Phs S + 0 := by rw [show Phs S_487 = Phs S_474 from Ph_sA eS_487]; exact ph_476
            clear ph_475
            clear ph_476
            have hO_490 : Og eMO S S_487 := hO_477.sA eS_487 t_484 (by decide +kernel) (uA_14 hO_477.1 t_484)
            have h_491 : pA S_487 q_441 (Int32.toNatClampNeg (v_148)) = 1 := tA_sAs eS_487
            refine lv_aload_n X.1 X.2.1 dX9_addMetreOf_106 rfl (lv_at hl 1 rfl) ?_
            have t_492 : At S_487 x 29 := tAt_sA eS_487 t_479
            have t_493 : pR S_464 908 x = some q_442 := tR_sA eS_464 h_447
            have t_494 : pR S_474 908 x = some q_442 := tR_sA eS_474 t_493
            have t_495 : pR S_487 908 x = some q_442 := tR_sA eS_487 t_494
            refine r_getR (g := 908) X hw t_492 rfl 8 t_495 (by decide) rfl inn_X9_addMetreOf_9 (by decide) (X.2.2.2.1 (.fieldLink RX9 27 "SilkMill$Strand" "places" "[I") (by decide +kernel)) rfl (gv_908 _ _) dX9_addMetreOf_107 ?_
            refine lv_aload_n X.1 X.2.1 dX9_addMetreOf_110 rfl (lv_at hl 1 rfl) ?_
            have t_496 : pI S_487 904 x = v_148 := tI_sA eS_487 t_482
            refine r_getI (g := 904) (x := v_148) X hw t_492 rfl 4 t_496 (by decide) rfl inn_X9_addMetreOf_9 (by decide) (X.2.2.2.1 (.fieldLink RX9 43 "SilkMill$Strand" "pieces" "I") (by decide +kernel)) rfl (gv_904 _ _) dX9_addMetreOf_111 ?_
            refine lv_aload_n X.1 X.2.1 dX9_addMetreOf_114 rfl (lv_at hl 2 rfl) ?_
            have t_497 : At S_464 c1 0 := tAt_sA eS_464 t_460
            have t_498 : At S_474 c1 0 := tAt_sA eS_474 t_497
            have t_499 : At S_487 c1 0 := tAt_sA eS_487 t_498
            obtain ⟨v_500, ev_500⟩ : ∃ v, pI S_487 4 c1 = v := ⟨_, rfl⟩
            have rg_502 := And.intro (z_lo v_500) (z_hi v_500)
            have pz_503 : (pI S_487 4 c1).toInt = v_500.toInt := by rw [ev_500]
            refine r_getI (g := 4) (x := v_500) X hw t_499 rfl 4 ev_500 (by decide) rfl inn_X9_addMetreOf_0 (by decide) (X.2.2.2.1 (.fieldLink RX9 64 "SilkMill$Cocoon" "drawnTo" "I") (by decide +kernel)) rfl (gv_4 _ _) dX9_addMetreOf_115 ?_
            have t_504 : At S_464 q_442 14 := tAt_sA eS_464 h_451
            have t_505 : At S_474 q_442 14 := tAt_sA eS_474 t_504
            have t_506 : At S_487 q_442 14 := tAt_sA eS_487 t_505
            have t_507 : pN S_464 q_442 = n_443 := tN_sA eS_464 h_455
            clear h_455
            have t_508 : pN S_474 q_442 = n_443 := tN_sA eS_474 t_507
            clear t_507
            have t_509 : pN S_487 q_442 = n_443 := tN_sA eS_487 t_508
            clear t_508
            refine r_iast X hw t_506 rfl (by rw [t_509]; exact z_ix rfl (by omega) (by omega)) dX9_addMetreOf_118 (fun H locs hw => ?_)
            obtain ⟨S_510, eS_510⟩ : ∃ T, T = sA S_487 q_442 (upd (pA S_487 q_442) (Int32.toNatClampNeg (v_148)) (v_500)) := ⟨_, rfl⟩
            rw [← eS_510] at hw
            have ph_511 : c_432 + Phc S_510 ≤ Phc S + 0 := by rw [show Phc S_510 = Phc S_487 from Ph_sA eS_510]; exact ph_488
            have ph_512 : n_433 + Phs S_510 ≤ Phs S + 0 := by rw [show Phs S_510 = Phs S_487 from Ph_sA eS_510]; exact ph_489
            clear ph_488
            clear ph_489
            have hO_513 : Og eMO S S_510 := hO_490.sA eS_510 t_506 (by decide +kernel) (uA_14 hO_490.1 t_506)
            have h_514 : pA S_510 q_442 (Int32.toNatClampNeg (v_148)) = v_500 := tA_sAs eS_510
            refine lv_aload_n X.1 X.2.1 dX9_addMetreOf_119 rfl (lv_at hl 2 rfl) ?_
            refine lv_aload_n X.1 X.2.1 dX9_addMetreOf_120 rfl (lv_at hl 1 rfl) ?_
            have t_515 : At S_510 x 29 := tAt_sA eS_510 t_492
            have t_516 : pI S_510 904 x = v_148 := tI_sA eS_510 t_496
            refine r_getI (g := 904) (x := v_148) X hw t_515 rfl 4 t_516 (by decide) rfl inn_X9_addMetreOf_9 (by decide) (X.2.2.2.1 (.fieldLink RX9 43 "SilkMill$Strand" "pieces" "I") (by decide +kernel)) rfl (gv_904 _ _) dX9_addMetreOf_121 ?_
            have t_517 : At S_510 c1 0 := tAt_sA eS_510 t_499
            refine r_putI (v := v_148) X hw t_517 rfl 6 6 tyX0 (by decide) rfl inn_X9_addMetreOf_0 tyX0_ok nmX0 (by decide) (X.2.2.2.1 (.fieldLink RX9 52 "SilkMill$Cocoon" "latestPiece" "I") (by decide +kernel)) rfl (Or.inl rfl) rfl rfl (Nat.le_of_ble_eq_true rfl) (st_6 _ _) dX9_addMetreOf_124 (fun H locs hw => ?_)
            obtain ⟨S_518, eS_518⟩ : ∃ T, T = sI S_510 6 c1 (v_148) := ⟨_, rfl⟩
            rw [← eS_518] at hw
            have ph_519 : c_432 + Phc S_518 ≤ Phc S + 0 := by rw [show Phc S_518 = Phc S_510 from Ph_sI eS_518 rfl rfl]; exact ph_511
            have ph_520 : n_433 + Phs S_518 ≤ Phs S + 0 := by rw [show Phs S_518 = Phs S_510 from Ph_sI eS_518 rfl rfl]; exact ph_512
            clear ph_511
            clear ph_512
            have hO_521 : Og eMO S S_518 := hO_513.sI eS_518 (by decide +kernel) (uI_0_6 hO_513.1 t_517)
            have h_522 : pI S_518 6 c1 = v_148 := tI_sIs eS_518
            refine lv_aload_n X.1 X.2.1 dX9_addMetreOf_127 rfl (lv_at hl 1 rfl) ?_
            refine lv_dup X.1 X.2.1 dX9_addMetreOf_128 rfl ?_
            have t_523 : At S_518 x 29 := tAt_sI eS_518 t_515
            have t_524 : pI S_518 904 x = v_148 := tI_sI eS_518 rfl t_516
            refine r_getI (g := 904) (x := v_148) X hw t_523 rfl 4 t_524 (by decide) rfl inn_X9_addMetreOf_9 (by decide) (X.2.2.2.1 (.fieldLink RX9 43 "SilkMill$Strand" "pieces" "I") (by decide +kernel)) rfl (gv_904 _ _) dX9_addMetreOf_129 ?_
            refine lv_iconst (v := 1) X.1 X.2.1 dX9_addMetreOf_132 (by decide) ?_
            refine lv_iadd X.1 X.2.1 dX9_addMetreOf_133 ?_
            refine lv_topi (fun v_525 ev_525 => ?_)
            have z_526 : v_525.toInt = v_148.toInt + 1 := z_add ev_525 rfl ti_1 (by omega) (by omega)
            have t_527 : pR S_464 905 x = some q_439 := tR_sA eS_464 h_444
            have t_528 : pR S_474 905 x = some q_439 := tR_sA eS_474 t_527
            have t_529 : pR S_487 905 x = some q_439 := tR_sA eS_487 t_528
            have t_530 : pR S_510 905 x = some q_439 := tR_sA eS_510 t_529
            have t_531 : pR S_518 905 x = some q_439 := tR_sI eS_518 t_530
            have t_532 : pN S_464 q_439 = n_443 := tN_sA eS_464 h_452
            clear h_452
            have t_533 : pN S_474 q_439 = n_443 := tN_sA eS_474 t_532
            clear t_532
            have t_534 : pN S_487 q_439 = n_443 := tN_sA eS_487 t_533
            clear t_533
            have t_535 : pN S_510 q_439 = n_443 := tN_sA eS_510 t_534
            clear t_534
            have t_536 : pN S_518 q_439 = n_443 := tN_sI eS_518 t_535
            clear t_535
            refine r_putI (v := v_525) X hw t_523 rfl 4 904 tyX9 (by decide) rfl inn_X9_addMetreOf_9 tyX9_ok nmX9 (by decide) (X.2.2.2.1 (.fieldLink RX9 43 "SilkMill$Strand" "pieces" "I") (by decide +kernel)) rfl (Or.inl rfl) rfl rfl (Nat.le_of_ble_eq_true rfl) (st_904 _ _) dX9_addMetreOf_134 (fun H locs hw => ?_)
            obtain ⟨S_537, eS_537⟩ : ∃ T, T = sI S_518 904 x (v_525) := ⟨_, rfl⟩
            rw [← eS_537] at hw
            have ph_538 : c_432 + Phc S_537 ≤ Phc S + 0 := by rw [show Phc S_537 = Phc S_518 from Ph_sI eS_537 rfl rfl]; exact ph_519
            have ph_539 : n_433 + Phs S_537 ≤ Phs S + 0 := by rw [show Phs S_537 = Phs S_518 from Ph_sI eS_537 rfl rfl]; exact ph_520
            clear ph_519
            clear ph_520
            have hO_540 : Og eMO S S_537 := hO_521.sI eS_537 (by decide +kernel) (uI_29_904 hO_521.1 t_523 t_531 t_536 (by omega) (by omega))
            have h_541 : pI S_537 904 x = v_525 := tI_sIs eS_537
            exact ret_gv X hw hr hlocks (by show c_432 ≤ Phc S + 4; omega) (by show n_433 ≤ Phs S + 14400; omega) (by omega) (by omega) ⟨hO_540, trivial⟩ dX9_addMetreOf_137
          · have z_b_542 := trivial
            have k_543 : v_148.toInt ≥ 3600 := z_nlt rfl ti_3600 c_427
            exact ret_gv X hw hr hlocks (by show 0 ≤ Phc S + 4; omega) (by show 0 ≤ Phs S + 14400; omega) (by omega) (by omega) ⟨hO, trivial⟩ dX9_addMetreOf_68
        · have z_b_544 := trivial
          have k_545 : v_422.toInt = a1_z := z_eq rfl hz_a1 c_424
          refine lv_aload_n X.1 X.2.1 dX9_addMetreOf_47 rfl (lv_at hl 1 rfl) ?_
          refine r_getR (g := 907) X hw ha_x rfl 7 h_157 (by decide) rfl inn_X9_addMetreOf_9 (by decide) (X.2.2.2.1 (.fieldLink RX9 24 "SilkMill$Strand" "lengths" "[I") (by decide +kernel)) rfl (gv_907 _ _) dX9_addMetreOf_48 ?_
          refine lv_iload_n X.1 X.2.1 dX9_addMetreOf_51 rfl (lv_at hl 0 rfl) ?_
          refine lv_dup2_11 X.1 X.2.1 dX9_addMetreOf_52 rfl rfl ?_
          refine r_iald X hw h_161 rfl (by rw [h_165]; exact z_ix rfl (by omega) (by omega)) dX9_addMetreOf_53 ?_
          rw [ev_420]
          refine lv_iconst (v := 1) X.1 X.2.1 dX9_addMetreOf_54 (by decide) ?_
          refine lv_iadd X.1 X.2.1 dX9_addMetreOf_55 ?_
          refine lv_topi (fun v_546 ev_546 => ?_)
          have rg_547 := And.intro (z_lo v_546) (z_hi v_546)
          refine r_iast X hw h_161 rfl (by rw [h_165]; exact z_ix rfl (by omega) (by omega)) dX9_addMetreOf_56 (fun H locs hw => ?_)
          obtain ⟨S_548, eS_548⟩ : ∃ T, T = sA S q_152 (upd (pA S q_152) (Int32.toNatClampNeg (v_1)) (v_546)) := ⟨_, rfl⟩
          rw [← eS_548] at hw
          have ph_549 : 0 + Phc S_548 ≤ Phc S + 0 := by rw [show Phc S_548 = Phc S from Ph_sA eS_548]; exact hpc0
          have ph_550 : 0 + Phs S_548 ≤ Phs S + 0 := by rw [show Phs S_548 = Phs S from Ph_sA eS_548]; exact hps0
          clear hpc0
          clear hps0
          have hO_551 : Og eMO S S_548 := hO.sA eS_548 h_161 (by decide +kernel) (uA_14 hO.1 h_161)
          have h_552 : pA S_548 q_152 (Int32.toNatClampNeg (v_1)) = v_546 := tA_sAs eS_548
          exact ret_gv X hw hr hlocks (by show 0 ≤ Phc S + 4; omega) (by show 0 ≤ Phs S + 14400; omega) (by omega) (by omega) ⟨hO_551, trivial⟩ dX9_addMetreOf_57
