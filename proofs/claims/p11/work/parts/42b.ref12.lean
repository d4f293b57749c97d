set_option maxRecDepth 20000 in
theorem ggX12_tick_X12_many : GoodIn wsX12_tick wsX12_many := goodIn_h _ [17, 0, 90, 0, 0, 0, 0, 0, 0, 0, 0, 0, 0, 0, 0, 0, 0, 0, 0, 0, 0, 0, 0, 0, 0, 0, 0, 0, 0, 0, 0, 0, 0, 0, 0, 0, 0, 0, 0, 0, 0, 0, 0, 0, 0, 0, 0, 0, 0, 0, 0, 0, 0, 0, 0, 0, 0, 0, 0, 0, 0, 0, 0, 0, 0, 0, 0, 0] [0, 1, 2, 3, 4, 5, 6, 7, 8, 9, 10, 11, 12, 13, 14, 15, 16, 17, 18, 19, 20, 21, 22, 23, 24, 25, 26, 27, 28, 29, 30, 31, 32, 33, 34, 35, 36, 37, 38, 39, 40, 41, 42, 43, 44, 45, 46, 47, 48, 49, 50, 51, 52, 53, 54, 55, 56, 57, 58, 59, 60, 61, 62, 63, 64, 65, 66, 67] (by decide +kernel) (by decide +kernel)
set_option maxRecDepth 20000 in
theorem gX12_tick_X12_many : GoodIn wsX12_tick (wsV RX12 204 RX12 yX12_many wsX12_many) := goodIn_app (goodIn_of _ (by decide +kernel)) ggX12_tick_X12_many
set_option maxRecDepth 20000 in
theorem ggX12_tick_X12_goes : GoodIn wsX12_tick wsX12_goes := goodIn_h _ [18, 3, 0, 85, 0, 0, 0, 0, 0, 0, 0, 0, 0, 0, 0, 0, 0, 0, 0, 0, 0, 0, 0, 0, 0, 0, 0, 0, 0, 0, 0, 0, 0, 0, 0, 0, 0, 0, 0, 0, 0, 0, 0, 0, 0, 0, 0, 0, 0, 0, 0, 0, 0, 0, 0, 0, 0, 0, 0, 0, 0, 0, 0, 0, 0, 0, 0, 0, 0] [1, 2, 0, 3, 4, 5, 6, 7, 8, 9, 10, 11, 12, 13, 14, 15, 16, 17, 18, 19, 20, 21, 22, 23, 24, 25, 26, 27, 28, 29, 30, 31, 32, 33, 34, 35, 36, 37, 38, 39, 40, 41, 42, 43, 44, 45, 46, 47, 48, 49, 50, 51, 52, 53, 54, 55, 56, 57, 58, 59, 60, 61, 62, 63, 64, 65, 66, 67, 68] (by decide +kernel) (by decide +kernel)
set_option maxRecDepth 20000 in
theorem gX12_tick_X12_goes : GoodIn wsX12_tick (wsV RX12 320 RX12 yX12_goes wsX12_goes) := goodIn_app (goodIn_of _ (by decide +kernel)) ggX12_tick_X12_goes
set_option maxRecDepth 20000 in
theorem ggX12_tick_X12_comes : GoodIn wsX12_tick wsX12_comes := goodIn_h _ [11, 6, 4, 3, 0, 80, 0, 0, 0, 0, 0, 0, 0, 0, 0, 0, 0, 0, 0, 0, 0, 0, 0, 0, 0, 0, 0, 0, 0, 0, 0, 0, 0, 0, 0, 0, 0, 0, 0, 0, 0, 0, 0, 0, 0, 0, 0, 0, 0, 0, 0, 0, 0, 0, 0, 0, 0, 0, 0, 0, 0, 0, 0, 0, 0, 0, 0, 0, 0, 0, 0] [3, 1, 2, 0, 4, 5, 6, 7, 8, 9, 10, 11, 12, 13, 14, 15, 16, 17, 18, 19, 20, 21, 22, 23, 24, 25, 26, 27, 28, 29, 30, 31, 32, 33, 34, 35, 36, 37, 38, 39, 40, 41, 42, 43, 44, 45, 46, 47, 48, 49, 50, 51, 52, 53, 54, 55, 56, 57, 58, 59, 60, 61, 62, 63, 64, 65, 66, 67, 68, 69, 70] (by decide +kernel) (by decide +kernel)
set_option maxRecDepth 20000 in
theorem gX12_tick_X12_comes : GoodIn wsX12_tick (wsV RX12 207 RX12 yX12_comes wsX12_comes) := goodIn_app (goodIn_of _ (by decide +kernel)) ggX12_tick_X12_comes
set_option maxRecDepth 20000 in
theorem ggX12_tick_X12_holds : GoodIn wsX12_tick wsX12_holds := goodIn_h _ [6, 2, 3, 0, 0, 0, 0, 0, 4, 8, 0, 0, 0, 0, 0, 0, 0, 0, 0, 0, 0, 0, 0, 0, 0, 0, 0, 0, 0, 0, 0, 0, 0, 0, 0, 0, 0, 0, 0, 0, 0, 0, 0, 0, 0, 0, 0, 0, 0, 0, 36, 0, 0, 0, 0, 0, 0, 0, 0, 0, 0, 0, 0, 0, 0, 0, 0, 0, 0, 0, 0, 0, 0, 0, 0, 0, 0, 0, 0, 0, 0, 0, 0, 0, 0, 0, 0, 0, 0, 0, 0, 0, 0, 0, 0, 0, 0, 0, 0, 0, 0, 0, 0, 0, 0, 0, 0, 0, 0, 0, 0, 0, 0, 0, 0, 0] [9, 10, 11, 12, 13, 14, 15, 16, 5, 17, 0, 1, 18, 19, 20, 21, 22, 2, 3, 4, 6, 7, 23, 24, 25, 26, 8, 27, 28, 29, 30, 31, 32, 33, 34, 35, 36, 37, 38, 39, 40, 41, 42, 43, 44, 45, 46, 47, 48, 49, 50, 51, 52, 53, 54, 55, 56, 57, 58, 59, 60, 61, 62, 63, 64, 65, 66, 67, 68, 69, 70, 71, 72, 73, 74, 75, 76, 77, 78, 79, 80, 81, 82, 83, 84, 85, 86, 87, 88, 89, 90, 91, 92, 93, 94, 95, 96, 97, 98, 99, 100, 101, 102, 103, 104, 105, 106, 107, 108, 109, 110, 111, 112, 113, 114, 115] (by decide +kernel) (by decide +kernel)
set_option maxRecDepth 20000 in
theorem gX12_tick_X12_holds : GoodIn wsX12_tick (wsV RX12 323 RX12 yX12_holds wsX12_holds) := goodIn_app (goodIn_of _ (by decide +kernel)) ggX12_tick_X12_holds
set_option maxRecDepth 20000 in
theorem ggX12_tick_X12_acts : GoodIn wsX12_tick wsX12_acts := goodIn_h _ [2, 1, 1, 0, 0, 0, 1, 1, 0, 0, 0, 0, 0, 0, 0, 0, 0, 0, 0, 0, 0, 0, 0, 12, 4, 0, 0, 0, 0, 0, 0, 0, 0, 0, 0, 0, 0, 0, 0, 0, 0, 0, 0, 0, 0, 0, 0, 0, 0, 0, 0, 3, 0, 0, 0, 0, 0, 0, 0, 0, 0, 0, 0, 0, 0, 0, 0, 0, 0, 0, 0, 0, 0, 0, 0, 0, 0, 0, 0, 5, 0, 0, 0, 0, 0, 0, 0, 0, 0, 0, 0, 0, 0, 0, 0, 0, 0, 0, 0, 0, 0, 0, 0, 0, 0, 0, 0, 0, 0, 0, 0, 0, 0, 0, 0, 0, 0, 0, 0, 0, 0, 0, 0, 0, 0, 0, 0, 0, 0, 0, 0, 0, 0, 0, 0, 0, 0, 0, 0, 0, 0, 0, 0, 0, 0] [51, 52, 0, 1, 6, 53, 7, 8, 9, 10, 11, 12, 13, 14, 15, 16, 17, 18, 19, 20, 21, 22, 47, 48, 49, 50, 5, 24, 25, 26, 27, 28, 29, 30, 31, 32, 33, 34, 35, 36, 37, 38, 39, 40, 41, 42, 43, 44, 45, 46, 54, 55, 56, 57, 2, 58, 59, 60, 3, 4, 61, 62, 23, 63, 64, 65, 66, 67, 68, 69, 70, 71, 72, 73, 74, 75, 76, 77, 78, 79, 80, 81, 82, 83, 84, 85, 86, 87, 88, 89, 90, 91, 92, 93, 94, 95, 96, 97, 98, 99, 100, 101, 102, 103, 104, 105, 106, 107, 108, 109, 110, 111, 112, 113, 114, 115, 116, 117, 118, 119, 120, 121, 122, 123, 124, 125, 126, 127, 128, 129, 130, 131, 132, 133, 134, 135, 136, 137, 138, 139, 140, 141, 142, 143, 144] (by decide +kernel) (by decide +kernel)
set_option maxRecDepth 20000 in
theorem gX12_tick_X12_acts : GoodIn wsX12_tick (wsV RX12 326 RX12 yX12_acts wsX12_acts) := goodIn_app (goodIn_of _ (by decide +kernel)) ggX12_tick_X12_acts
set_option maxRecDepth 20000 in
theorem ggX12_tick_X12_growing : GoodIn wsX12_tick wsX12_growing := goodIn_h _ [95] [0] (by decide +kernel) (by decide +kernel)
set_option maxRecDepth 20000 in
theorem gX12_tick_X12_growing : GoodIn wsX12_tick (wsV RX12 296 RX12 yX12_growing wsX12_growing) := goodIn_app (goodIn_of _ (by decide +kernel)) ggX12_tick_X12_growing
set_option maxRecDepth 20000 in
theorem ggX12_tick_X12_at : GoodIn wsX12_tick wsX12_at := goodIn_h _ [23, 25, 59, 0, 0, 0, 0, 0, 0, 0, 0, 0, 0, 0, 0, 0, 0, 0, 0, 0, 0, 0, 0, 0, 0, 0, 0, 0, 0, 0, 0, 0, 0, 0, 0, 0, 0, 0, 0, 0, 0, 0, 0, 0, 0, 0, 0, 0, 0, 0, 0, 0, 0, 0, 0, 0, 0, 0, 0, 0, 0, 0, 0, 0, 0, 0, 0, 0] [1, 0, 2, 3, 4, 5, 6, 7, 8, 9, 10, 11, 12, 13, 14, 15, 16, 17, 18, 19, 20, 21, 22, 23, 24, 25, 26, 27, 28, 29, 30, 31, 32, 33, 34, 35, 36, 37, 38, 39, 40, 41, 42, 43, 44, 45, 46, 47, 48, 49, 50, 51, 52, 53, 54, 55, 56, 57, 58, 59, 60, 61, 62, 63, 64, 65, 66, 67] (by decide +kernel) (by decide +kernel)
set_option maxRecDepth 20000 in
theorem gX12_tick_X12_at : GoodIn wsX12_tick (wsV RX12 308 RX12 yX12_at wsX12_at) := goodIn_app (goodIn_of _ (by decide +kernel)) ggX12_tick_X12_at
set_option maxRecDepth 20000 in
theorem ggX12_tick_X12_lengthOf : GoodIn wsX12_tick wsX12_lengthOf := goodIn_h _ [16, 37, 2, 0, 0, 0, 0, 0, 0, 3, 0, 40, 0, 0, 0, 0, 0, 0, 0, 0, 0, 0, 0, 0, 0, 0, 0, 0, 0, 0, 0, 0, 0, 0, 0, 0, 0, 0, 0, 0, 0, 0, 0, 0, 0, 0, 0, 0, 0, 0, 0, 0, 0, 0, 0, 0, 0, 0, 0, 0, 0, 0, 0, 0, 0, 0, 0, 0, 0, 0, 0, 0, 0, 0, 0, 0, 0] [9, 10, 1, 2, 3, 0, 4, 5, 6, 7, 8, 11, 12, 13, 14, 15, 16, 17, 18, 19, 20, 21, 22, 23, 24, 25, 26, 27, 28, 29, 30, 31, 32, 33, 34, 35, 36, 37, 38, 39, 40, 41, 42, 43, 44, 45, 46, 47, 48, 49, 50, 51, 52, 53, 54, 55, 56, 57, 58, 59, 60, 61, 62, 63, 64, 65, 66, 67, 68, 69, 70, 71, 72, 73, 74, 75, 76] (by decide +kernel) (by decide +kernel)
set_option maxRecDepth 20000 in
theorem gX12_tick_X12_lengthOf : GoodIn wsX12_tick (wsV RX12 180 RX12 yX12_lengthOf wsX12_lengthOf) := goodIn_app (goodIn_of _ (by decide +kernel)) ggX12_tick_X12_lengthOf
set_option maxRecDepth 20000 in
theorem ggX12_tick_X12_breaks : GoodIn wsX12_tick wsX12_breaks := goodIn_h _ [16, 37, 2, 0, 0, 0, 0, 0, 0, 43, 0, 0, 0, 0, 0, 0, 0, 0, 0, 0, 0, 0, 0, 0, 0, 0, 0, 0, 0, 0, 0, 0, 0, 0, 0, 0, 0, 0, 0, 0, 0, 0, 0, 0, 0, 0, 0, 0, 0, 0, 0, 0, 0, 0, 0, 0, 0, 0, 0, 0, 0, 0, 0, 0, 0, 0, 0, 0, 0, 0, 0, 0, 0, 0, 0, 0, 0] [9, 1, 10, 2, 3, 0, 4, 5, 6, 7, 8, 11, 12, 13, 14, 15, 16, 17, 18, 19, 20, 21, 22, 23, 24, 25, 26, 27, 28, 29, 30, 31, 32, 33, 34, 35, 36, 37, 38, 39, 40, 41, 42, 43, 44, 45, 46, 47, 48, 49, 50, 51, 52, 53, 54, 55, 56, 57, 58, 59, 60, 61, 62, 63, 64, 65, 66, 67, 68, 69, 70, 71, 72, 73, 74, 75, 76] (by decide +kernel) (by decide +kernel)
set_option maxRecDepth 20000 in
theorem gX12_tick_X12_breaks : GoodIn wsX12_tick (wsV RX12 194 RX12 yX12_breaks wsX12_breaks) := goodIn_app (goodIn_of _ (by decide +kernel)) ggX12_tick_X12_breaks
set_option maxRecDepth 20000 in
theorem ggX12_tick_X12_cuts : GoodIn wsX12_tick wsX12_cuts := goodIn_h _ [6, 0, 0, 7, 24, 8, 0, 0, 0, 0, 0, 0, 0, 0, 0, 0, 0, 0, 0, 0, 0, 0, 0, 0, 13, 0, 0, 0, 0, 0, 0, 0, 0, 0, 0, 0, 0, 0, 0, 0, 0, 0, 0, 0, 0, 0, 5, 0, 0, 0, 0, 0, 0, 0, 0, 0, 0, 0, 0, 0, 0, 0, 0, 0, 0, 0, 0, 0, 0, 0, 0, 0, 0, 0, 0, 0, 0, 0, 0, 0, 0, 0, 0, 0, 0, 0, 0, 0, 0, 0, 0, 0, 0, 0, 0, 0, 0, 0, 0, 0, 0, 0, 0, 0, 0, 0, 0, 0, 0, 0, 0, 0] [24, 0, 25, 26, 27, 1, 2, 28, 29, 4, 30, 31, 32, 33, 34, 35, 36, 3, 37, 38, 39, 40, 41, 42, 43, 44, 45, 5, 6, 7, 8, 9, 10, 11, 12, 13, 14, 15, 16, 17, 18, 19, 20, 21, 22, 23, 46, 47, 48, 49, 50, 51, 52, 53, 54, 55, 56, 57, 58, 59, 60, 61, 62, 63, 64, 65, 66, 67, 68, 69, 70, 71, 72, 73, 74, 75, 76, 77, 78, 79, 80, 81, 82, 83, 84, 85, 86, 87, 88, 89, 90, 91, 92, 93, 94, 95, 96, 97, 98, 99, 100, 101, 102, 103, 104, 105, 106, 107, 108, 109, 110, 111] (by decide +kernel) (by decide +kernel)
set_option maxRecDepth 20000 in
theorem gX12_tick_X12_cuts : GoodIn wsX12_tick (wsV RX12 305 RX12 yX12_cuts wsX12_cuts) := goodIn_app (goodIn_of _ (by decide +kernel)) ggX12_tick_X12_cuts
theorem dX12_tick_0 : decode cX12_tick 0 = .ok (.aload_n 0, 1) := by decide +kernel
theorem dX12_tick_1 : decode cX12_tick 1 = .ok (.getfield 52, 3) := by decide +kernel
theorem dX12_tick_4 : decode cX12_tick 4 = .ok (.iload_n 1, 1) := by decide +kernel
theorem dX12_tick_5 : decode cX12_tick 5 = .ok (.dup2, 1) := by decide +kernel
theorem dX12_tick_6 : decode cX12_tick 6 = .ok (.iaload, 1) := by decide +kernel
theorem dX12_tick_7 : decode cX12_tick 7 = .ok (.iconst 1, 1) := by decide +kernel
theorem dX12_tick_8 : decode cX12_tick 8 = .ok (.iadd, 1) := by decide +kernel
theorem dX12_tick_9 : decode cX12_tick 9 = .ok (.iastore, 1) := by decide +kernel
theorem dX12_tick_10 : decode cX12_tick 10 = .ok (.aload_n 0, 1) := by decide +kernel
theorem dX12_tick_11 : decode cX12_tick 11 = .ok (.getfield 43, 3) := by decide +kernel
theorem dX12_tick_14 : decode cX12_tick 14 = .ok (.iload_n 1, 1) := by decide +kernel
theorem dX12_tick_15 : decode cX12_tick 15 = .ok (.aload_n 0, 1) := by decide +kernel
theorem dX12_tick_16 : decode cX12_tick 16 = .ok (.iload_n 1, 1) := by decide +kernel
theorem dX12_tick_17 : decode cX12_tick 17 = .ok (.iconst 2, 1) := by decide +kernel
theorem dX12_tick_18 : decode cX12_tick 18 = .ok (.invokevirtual 204, 3) := by decide +kernel
theorem dX12_tick_21 : decode cX12_tick 21 = .ok (.ifCond .ne 7, 3) := by decide +kernel
theorem dX12_tick_24 : decode cX12_tick 24 = .ok (.iconst 0, 1) := by decide +kernel
theorem dX12_tick_25 : decode cX12_tick 25 = .ok (.goto 11, 3) := by decide +kernel
theorem dX12_tick_28 : decode cX12_tick 28 = .ok (.aload_n 0, 1) := by decide +kernel
theorem dX12_tick_29 : decode cX12_tick 29 = .ok (.getfield 43, 3) := by decide +kernel
theorem dX12_tick_32 : decode cX12_tick 32 = .ok (.iload_n 1, 1) := by decide +kernel
theorem dX12_tick_33 : decode cX12_tick 33 = .ok (.iaload, 1) := by decide +kernel
theorem dX12_tick_34 : decode cX12_tick 34 = .ok (.iconst 1, 1) := by decide +kernel
theorem dX12_tick_35 : decode cX12_tick 35 = .ok (.iadd, 1) := by decide +kernel
theorem dX12_tick_36 : decode cX12_tick 36 = .ok (.iastore, 1) := by decide +kernel
theorem dX12_tick_37 : decode cX12_tick 37 = .ok (.aload_n 0, 1) := by decide +kernel
theorem dX12_tick_38 : decode cX12_tick 38 = .ok (.iload_n 1, 1) := by decide +kernel
theorem dX12_tick_39 : decode cX12_tick 39 = .ok (.iconst 2, 1) := by decide +kernel
theorem dX12_tick_40 : decode cX12_tick 40 = .ok (.invokevirtual 204, 3) := by decide +kernel
theorem dX12_tick_43 : decode cX12_tick 43 = .ok (.ifCond .le 44, 3) := by decide +kernel
theorem dX12_tick_46 : decode cX12_tick 46 = .ok (.aload_n 0, 1) := by decide +kernel
theorem dX12_tick_47 : decode cX12_tick 47 = .ok (.getfield 43, 3) := by decide +kernel
theorem dX12_tick_50 : decode cX12_tick 50 = .ok (.iload_n 1, 1) := by decide +kernel
theorem dX12_tick_51 : decode cX12_tick 51 = .ok (.iaload, 1) := by decide +kernel
theorem dX12_tick_52 : decode cX12_tick 52 = .ok (.aload_n 0, 1) := by decide +kernel
theorem dX12_tick_53 : decode cX12_tick 53 = .ok (.getfield 40, 3) := by decide +kernel
theorem dX12_tick_56 : decode cX12_tick 56 = .ok (.iload_n 1, 1) := by decide +kernel
theorem dX12_tick_57 : decode cX12_tick 57 = .ok (.iaload, 1) := by decide +kernel
theorem dX12_tick_58 : decode cX12_tick 58 = .ok (.if_icmp .ne 29, 3) := by decide +kernel
theorem dX12_tick_61 : decode cX12_tick 61 = .ok (.aload_n 0, 1) := by decide +kernel
theorem dX12_tick_62 : decode cX12_tick 62 = .ok (.getfield 43, 3) := by decide +kernel
theorem dX12_tick_65 : decode cX12_tick 65 = .ok (.iload_n 1, 1) := by decide +kernel
theorem dX12_tick_66 : decode cX12_tick 66 = .ok (.iconst 0, 1) := by decide +kernel
theorem dX12_tick_67 : decode cX12_tick 67 = .ok (.iastore, 1) := by decide +kernel
theorem dX12_tick_68 : decode cX12_tick 68 = .ok (.aload_n 0, 1) := by decide +kernel
theorem dX12_tick_69 : decode cX12_tick 69 = .ok (.iload_n 1, 1) := by decide +kernel
theorem dX12_tick_70 : decode cX12_tick 70 = .ok (.iconst 0, 1) := by decide +kernel
theorem dX12_tick_71 : decode cX12_tick 71 = .ok (.aload_n 0, 1) := by decide +kernel
theorem dX12_tick_72 : decode cX12_tick 72 = .ok (.iload_n 1, 1) := by decide +kernel
theorem dX12_tick_73 : decode cX12_tick 73 = .ok (.iconst 2, 1) := by decide +kernel
theorem dX12_tick_74 : decode cX12_tick 74 = .ok (.iconst 0, 1) := by decide +kernel
theorem dX12_tick_75 : decode cX12_tick 75 = .ok (.invokevirtual 320, 3) := by decide +kernel
theorem dX12_tick_78 : decode cX12_tick 78 = .ok (.aload_n 0, 1) := by decide +kernel
theorem dX12_tick_79 : decode cX12_tick 79 = .ok (.iload_n 1, 1) := by decide +kernel
theorem dX12_tick_80 : decode cX12_tick 80 = .ok (.iconst 0, 1) := by decide +kernel
theorem dX12_tick_81 : decode cX12_tick 81 = .ok (.invokevirtual 204, 3) := by decide +kernel
theorem dX12_tick_84 : decode cX12_tick 84 = .ok (.invokevirtual 207, 3) := by decide +kernel
theorem dX12_tick_87 : decode cX12_tick 87 = .ok (.aload_n 0, 1) := by decide +kernel
theorem dX12_tick_88 : decode cX12_tick 88 = .ok (.getfield 46, 3) := by decide +kernel
theorem dX12_tick_91 : decode cX12_tick 91 = .ok (.iload_n 1, 1) := by decide +kernel
theorem dX12_tick_92 : decode cX12_tick 92 = .ok (.iaload, 1) := by decide +kernel
theorem dX12_tick_93 : decode cX12_tick 93 = .ok (.ifCond .ne 44, 3) := by decide +kernel
theorem dX12_tick_96 : decode cX12_tick 96 = .ok (.bipush 12, 2) := by decide +kernel
theorem dX12_tick_98 : decode cX12_tick 98 = .ok (.iload_n 1, 1) := by decide +kernel
theorem dX12_tick_99 : decode cX12_tick 99 = .ok (.imul, 1) := by decide +kernel
theorem dX12_tick_100 : decode cX12_tick 100 = .ok (.istore_n 2, 1) := by decide +kernel
theorem dX12_tick_101 : decode cX12_tick 101 = .ok (.iload_n 2, 1) := by decide +kernel
theorem dX12_tick_102 : decode cX12_tick 102 = .ok (.bipush 12, 2) := by decide +kernel
theorem dX12_tick_104 : decode cX12_tick 104 = .ok (.iload_n 1, 1) := by decide +kernel
theorem dX12_tick_105 : decode cX12_tick 105 = .ok (.imul, 1) := by decide +kernel
theorem dX12_tick_106 : decode cX12_tick 106 = .ok (.aload_n 0, 1) := by decide +kernel
theorem dX12_tick_107 : decode cX12_tick 107 = .ok (.getfield 61, 3) := by decide +kernel
theorem dX12_tick_110 : decode cX12_tick 110 = .ok (.iload_n 1, 1) := by decide +kernel
theorem dX12_tick_111 : decode cX12_tick 111 = .ok (.iaload, 1) := by decide +kernel
theorem dX12_tick_112 : decode cX12_tick 112 = .ok (.iadd, 1) := by decide +kernel
theorem dX12_tick_113 : decode cX12_tick 113 = .ok (.if_icmp .ge 24, 3) := by decide +kernel
theorem dX12_tick_116 : decode cX12_tick 116 = .ok (.aload_n 0, 1) := by decide +kernel
theorem dX12_tick_117 : decode cX12_tick 117 = .ok (.iload_n 1, 1) := by decide +kernel
theorem dX12_tick_118 : decode cX12_tick 118 = .ok (.iload_n 2, 1) := by decide +kernel
theorem dX12_tick_119 : decode cX12_tick 119 = .ok (.invokevirtual 323, 3) := by decide +kernel
theorem dX12_tick_122 : decode cX12_tick 122 = .ok (.ifCond .eq 9, 3) := by decide +kernel
theorem dX12_tick_125 : decode cX12_tick 125 = .ok (.aload_n 0, 1) := by decide +kernel
theorem dX12_tick_126 : decode cX12_tick 126 = .ok (.iload_n 1, 1) := by decide +kernel
theorem dX12_tick_127 : decode cX12_tick 127 = .ok (.iload_n 2, 1) := by decide +kernel
theorem dX12_tick_128 : decode cX12_tick 128 = .ok (.invokevirtual 326, 3) := by decide +kernel
theorem dX12_tick_131 : decode cX12_tick 131 = .ok (.iinc 2 1, 3) := by decide +kernel
theorem dX12_tick_134 : decode cX12_tick 134 = .ok (.goto (-33), 3) := by decide +kernel
theorem dX12_tick_137 : decode cX12_tick 137 = .ok (.aload_n 0, 1) := by decide +kernel
theorem dX12_tick_138 : decode cX12_tick 138 = .ok (.getfield 46, 3) := by decide +kernel
theorem dX12_tick_141 : decode cX12_tick 141 = .ok (.iload_n 1, 1) := by decide +kernel
theorem dX12_tick_142 : decode cX12_tick 142 = .ok (.iaload, 1) := by decide +kernel
theorem dX12_tick_143 : decode cX12_tick 143 = .ok (.ifCond .le 15, 3) := by decide +kernel
theorem dX12_tick_146 : decode cX12_tick 146 = .ok (.aload_n 0, 1) := by decide +kernel
theorem dX12_tick_147 : decode cX12_tick 147 = .ok (.getfield 46, 3) := by decide +kernel
theorem dX12_tick_150 : decode cX12_tick 150 = .ok (.iload_n 1, 1) := by decide +kernel
theorem dX12_tick_151 : decode cX12_tick 151 = .ok (.dup2, 1) := by decide +kernel
theorem dX12_tick_152 : decode cX12_tick 152 = .ok (.iaload, 1) := by decide +kernel
theorem dX12_tick_153 : decode cX12_tick 153 = .ok (.iconst 1, 1) := by decide +kernel
theorem dX12_tick_154 : decode cX12_tick 154 = .ok (.isub, 1) := by decide +kernel
theorem dX12_tick_155 : decode cX12_tick 155 = .ok (.iastore, 1) := by decide +kernel
theorem dX12_tick_156 : decode cX12_tick 156 = .ok (.iconst 0, 1) := by decide +kernel
theorem dX12_tick_157 : decode cX12_tick 157 = .ok (.ireturn, 1) := by decide +kernel
theorem dX12_tick_158 : decode cX12_tick 158 = .ok (.aload_n 0, 1) := by decide +kernel
theorem dX12_tick_159 : decode cX12_tick 159 = .ok (.iload_n 1, 1) := by decide +kernel
theorem dX12_tick_160 : decode cX12_tick 160 = .ok (.iconst 1, 1) := by decide +kernel
theorem dX12_tick_161 : decode cX12_tick 161 = .ok (.invokevirtual 204, 3) := by decide +kernel
theorem dX12_tick_164 : decode cX12_tick 164 = .ok (.istore_n 2, 1) := by decide +kernel
theorem dX12_tick_165 : decode cX12_tick 165 = .ok (.iload_n 2, 1) := by decide +kernel
theorem dX12_tick_166 : decode cX12_tick 166 = .ok (.ifCond .ne 5, 3) := by decide +kernel
theorem dX12_tick_169 : decode cX12_tick 169 = .ok (.iconst 0, 1) := by decide +kernel
theorem dX12_tick_170 : decode cX12_tick 170 = .ok (.ireturn, 1) := by decide +kernel
theorem dX12_tick_171 : decode cX12_tick 171 = .ok (.aload_n 0, 1) := by decide +kernel
theorem dX12_tick_172 : decode cX12_tick 172 = .ok (.iload_n 1, 1) := by decide +kernel
theorem dX12_tick_173 : decode cX12_tick 173 = .ok (.invokevirtual 296, 3) := by decide +kernel
theorem dX12_tick_176 : decode cX12_tick 176 = .ok (.aload_n 0, 1) := by decide +kernel
theorem dX12_tick_177 : decode cX12_tick 177 = .ok (.getfield 97, 3) := by decide +kernel
theorem dX12_tick_180 : decode cX12_tick 180 = .ok (.iload_n 1, 1) := by decide +kernel
theorem dX12_tick_181 : decode cX12_tick 181 = .ok (.iaload, 1) := by decide +kernel
theorem dX12_tick_182 : decode cX12_tick 182 = .ok (.iadd, 1) := by decide +kernel
theorem dX12_tick_183 : decode cX12_tick 183 = .ok (.istore_n 3, 1) := by decide +kernel
theorem dX12_tick_184 : decode cX12_tick 184 = .ok (.aload_n 0, 1) := by decide +kernel
theorem dX12_tick_185 : decode cX12_tick 185 = .ok (.getfield 90, 3) := by decide +kernel
theorem dX12_tick_188 : decode cX12_tick 188 = .ok (.iload_n 3, 1) := by decide +kernel
theorem dX12_tick_189 : decode cX12_tick 189 = .ok (.iload_n 2, 1) := by decide +kernel
theorem dX12_tick_190 : decode cX12_tick 190 = .ok (.iastore, 1) := by decide +kernel
theorem dX12_tick_191 : decode cX12_tick 191 = .ok (.iconst 0, 1) := by decide +kernel
theorem dX12_tick_192 : decode cX12_tick 192 = .ok (.istore 4, 2) := by decide +kernel
theorem dX12_tick_194 : decode cX12_tick 194 = .ok (.iload 4, 2) := by decide +kernel
theorem dX12_tick_196 : decode cX12_tick 196 = .ok (.iload_n 2, 1) := by decide +kernel
theorem dX12_tick_197 : decode cX12_tick 197 = .ok (.if_icmp .ge 47, 3) := by decide +kernel
theorem dX12_tick_200 : decode cX12_tick 200 = .ok (.aload_n 0, 1) := by decide +kernel
theorem dX12_tick_201 : decode cX12_tick 201 = .ok (.getfield 94, 3) := by decide +kernel
theorem dX12_tick_204 : decode cX12_tick 204 = .ok (.bipush 12, 2) := by decide +kernel
theorem dX12_tick_206 : decode cX12_tick 206 = .ok (.iload_n 3, 1) := by decide +kernel
theorem dX12_tick_207 : decode cX12_tick 207 = .ok (.imul, 1) := by decide +kernel
theorem dX12_tick_208 : decode cX12_tick 208 = .ok (.iload 4, 2) := by decide +kernel
theorem dX12_tick_210 : decode cX12_tick 210 = .ok (.iadd, 1) := by decide +kernel
theorem dX12_tick_211 : decode cX12_tick 211 = .ok (.sipush 1000, 3) := by decide +kernel
theorem dX12_tick_214 : decode cX12_tick 214 = .ok (.aload_n 0, 1) := by decide +kernel
theorem dX12_tick_215 : decode cX12_tick 215 = .ok (.iload_n 1, 1) := by decide +kernel
theorem dX12_tick_216 : decode cX12_tick 216 = .ok (.iconst 1, 1) := by decide +kernel
theorem dX12_tick_217 : decode cX12_tick 217 = .ok (.iload 4, 2) := by decide +kernel
theorem dX12_tick_219 : decode cX12_tick 219 = .ok (.invokevirtual 308, 3) := by decide +kernel
theorem dX12_tick_222 : decode cX12_tick 222 = .ok (.imul, 1) := by decide +kernel
theorem dX12_tick_223 : decode cX12_tick 223 = .ok (.aload_n 0, 1) := by decide +kernel
theorem dX12_tick_224 : decode cX12_tick 224 = .ok (.getfield 28, 3) := by decide +kernel
theorem dX12_tick_227 : decode cX12_tick 227 = .ok (.aload_n 0, 1) := by decide +kernel
theorem dX12_tick_228 : decode cX12_tick 228 = .ok (.iload_n 1, 1) := by decide +kernel
theorem dX12_tick_229 : decode cX12_tick 229 = .ok (.iconst 1, 1) := by decide +kernel
theorem dX12_tick_230 : decode cX12_tick 230 = .ok (.iload 4, 2) := by decide +kernel
theorem dX12_tick_232 : decode cX12_tick 232 = .ok (.invokevirtual 308, 3) := by decide +kernel
theorem dX12_tick_235 : decode cX12_tick 235 = .ok (.iaload, 1) := by decide +kernel
theorem dX12_tick_236 : decode cX12_tick 236 = .ok (.iadd, 1) := by decide +kernel
theorem dX12_tick_237 : decode cX12_tick 237 = .ok (.iastore, 1) := by decide +kernel
theorem dX12_tick_238 : decode cX12_tick 238 = .ok (.iinc 4 1, 3) := by decide +kernel
theorem dX12_tick_241 : decode cX12_tick 241 = .ok (.goto (-47), 3) := by decide +kernel
theorem dX12_tick_244 : decode cX12_tick 244 = .ok (.aload_n 0, 1) := by decide +kernel
theorem dX12_tick_245 : decode cX12_tick 245 = .ok (.getfield 97, 3) := by decide +kernel
theorem dX12_tick_248 : decode cX12_tick 248 = .ok (.iload_n 1, 1) := by decide +kernel
theorem dX12_tick_249 : decode cX12_tick 249 = .ok (.dup2, 1) := by decide +kernel
theorem dX12_tick_250 : decode cX12_tick 250 = .ok (.iaload, 1) := by decide +kernel
theorem dX12_tick_251 : decode cX12_tick 251 = .ok (.iconst 1, 1) := by decide +kernel
theorem dX12_tick_252 : decode cX12_tick 252 = .ok (.iadd, 1) := by decide +kernel
theorem dX12_tick_253 : decode cX12_tick 253 = .ok (.iastore, 1) := by decide +kernel
theorem dX12_tick_254 : decode cX12_tick 254 = .ok (.aload_n 0, 1) := by decide +kernel
theorem dX12_tick_255 : decode cX12_tick 255 = .ok (.getfield 49, 3) := by decide +kernel
theorem dX12_tick_258 : decode cX12_tick 258 = .ok (.iload_n 1, 1) := by decide +kernel
theorem dX12_tick_259 : decode cX12_tick 259 = .ok (.dup2, 1) := by decide +kernel
theorem dX12_tick_260 : decode cX12_tick 260 = .ok (.iaload, 1) := by decide +kernel
theorem dX12_tick_261 : decode cX12_tick 261 = .ok (.iconst 1, 1) := by decide +kernel
theorem dX12_tick_262 : decode cX12_tick 262 = .ok (.iadd, 1) := by decide +kernel
theorem dX12_tick_263 : decode cX12_tick 263 = .ok (.iastore, 1) := by decide +kernel
theorem dX12_tick_264 : decode cX12_tick 264 = .ok (.iconst 0, 1) := by decide +kernel
theorem dX12_tick_265 : decode cX12_tick 265 = .ok (.istore 4, 2) := by decide +kernel
theorem dX12_tick_267 : decode cX12_tick 267 = .ok (.iload 4, 2) := by decide +kernel
theorem dX12_tick_269 : decode cX12_tick 269 = .ok (.aload_n 0, 1) := by decide +kernel
theorem dX12_tick_270 : decode cX12_tick 270 = .ok (.iload_n 1, 1) := by decide +kernel
theorem dX12_tick_271 : decode cX12_tick 271 = .ok (.iconst 1, 1) := by decide +kernel
theorem dX12_tick_272 : decode cX12_tick 272 = .ok (.invokevirtual 204, 3) := by decide +kernel
theorem dX12_tick_275 : decode cX12_tick 275 = .ok (.if_icmp .ge 104, 3) := by decide +kernel
theorem dX12_tick_278 : decode cX12_tick 278 = .ok (.aload_n 0, 1) := by decide +kernel
theorem dX12_tick_279 : decode cX12_tick 279 = .ok (.iload_n 1, 1) := by decide +kernel
theorem dX12_tick_280 : decode cX12_tick 280 = .ok (.iconst 1, 1) := by decide +kernel
theorem dX12_tick_281 : decode cX12_tick 281 = .ok (.iload 4, 2) := by decide +kernel
theorem dX12_tick_283 : decode cX12_tick 283 = .ok (.invokevirtual 308, 3) := by decide +kernel
theorem dX12_tick_286 : decode cX12_tick 286 = .ok (.istore 5, 2) := by decide +kernel
theorem dX12_tick_288 : decode cX12_tick 288 = .ok (.aload_n 0, 1) := by decide +kernel
theorem dX12_tick_289 : decode cX12_tick 289 = .ok (.getfield 28, 3) := by decide +kernel
theorem dX12_tick_292 : decode cX12_tick 292 = .ok (.iload 5, 2) := by decide +kernel
theorem dX12_tick_294 : decode cX12_tick 294 = .ok (.dup2, 1) := by decide +kernel
theorem dX12_tick_295 : decode cX12_tick 295 = .ok (.iaload, 1) := by decide +kernel
theorem dX12_tick_296 : decode cX12_tick 296 = .ok (.iconst 1, 1) := by decide +kernel
theorem dX12_tick_297 : decode cX12_tick 297 = .ok (.iadd, 1) := by decide +kernel
theorem dX12_tick_298 : decode cX12_tick 298 = .ok (.iastore, 1) := by decide +kernel
theorem dX12_tick_299 : decode cX12_tick 299 = .ok (.aload_n 0, 1) := by decide +kernel
theorem dX12_tick_300 : decode cX12_tick 300 = .ok (.getfield 28, 3) := by decide +kernel
theorem dX12_tick_303 : decode cX12_tick 303 = .ok (.iload 5, 2) := by decide +kernel
theorem dX12_tick_305 : decode cX12_tick 305 = .ok (.iaload, 1) := by decide +kernel
theorem dX12_tick_306 : decode cX12_tick 306 = .ok (.aload_n 0, 1) := by decide +kernel
theorem dX12_tick_307 : decode cX12_tick 307 = .ok (.iload 5, 2) := by decide +kernel
theorem dX12_tick_309 : decode cX12_tick 309 = .ok (.invokevirtual 180, 3) := by decide +kernel
theorem dX12_tick_312 : decode cX12_tick 312 = .ok (.if_icmp .ne 20, 3) := by decide +kernel
theorem dX12_tick_315 : decode cX12_tick 315 = .ok (.aload_n 0, 1) := by decide +kernel
theorem dX12_tick_316 : decode cX12_tick 316 = .ok (.getfield 25, 3) := by decide +kernel
theorem dX12_tick_319 : decode cX12_tick 319 = .ok (.aload_n 0, 1) := by decide +kernel
theorem dX12_tick_320 : decode cX12_tick 320 = .ok (.iload_n 1, 1) := by decide +kernel
theorem dX12_tick_321 : decode cX12_tick 321 = .ok (.iconst 1, 1) := by decide +kernel
theorem dX12_tick_322 : decode cX12_tick 322 = .ok (.iload 4, 2) := by decide +kernel
theorem dX12_tick_324 : decode cX12_tick 324 = .ok (.invokevirtual 320, 3) := by decide +kernel
theorem dX12_tick_327 : decode cX12_tick 327 = .ok (.iconst 4, 1) := by decide +kernel
theorem dX12_tick_328 : decode cX12_tick 328 = .ok (.iastore, 1) := by decide +kernel
theorem dX12_tick_329 : decode cX12_tick 329 = .ok (.goto 47, 3) := by decide +kernel
theorem dX12_tick_332 : decode cX12_tick 332 = .ok (.aload_n 0, 1) := by decide +kernel
theorem dX12_tick_333 : decode cX12_tick 333 = .ok (.iload 5, 2) := by decide +kernel
theorem dX12_tick_335 : decode cX12_tick 335 = .ok (.aload_n 0, 1) := by decide +kernel
theorem dX12_tick_336 : decode cX12_tick 336 = .ok (.getfield 28, 3) := by decide +kernel
theorem dX12_tick_339 : decode cX12_tick 339 = .ok (.iload 5, 2) := by decide +kernel
theorem dX12_tick_341 : decode cX12_tick 341 = .ok (.iaload, 1) := by decide +kernel
theorem dX12_tick_342 : decode cX12_tick 342 = .ok (.iconst 1, 1) := by decide +kernel
theorem dX12_tick_343 : decode cX12_tick 343 = .ok (.isub, 1) := by decide +kernel
theorem dX12_tick_344 : decode cX12_tick 344 = .ok (.invokevirtual 194, 3) := by decide +kernel
theorem dX12_tick_347 : decode cX12_tick 347 = .ok (.ifCond .eq 26, 3) := by decide +kernel
theorem dX12_tick_350 : decode cX12_tick 350 = .ok (.aload_n 0, 1) := by decide +kernel
theorem dX12_tick_351 : decode cX12_tick 351 = .ok (.iload_n 1, 1) := by decide +kernel
theorem dX12_tick_352 : decode cX12_tick 352 = .ok (.iconst 2, 1) := by decide +kernel
theorem dX12_tick_353 : decode cX12_tick 353 = .ok (.aload_n 0, 1) := by decide +kernel
theorem dX12_tick_354 : decode cX12_tick 354 = .ok (.iload_n 1, 1) := by decide +kernel
theorem dX12_tick_355 : decode cX12_tick 355 = .ok (.iconst 1, 1) := by decide +kernel
theorem dX12_tick_356 : decode cX12_tick 356 = .ok (.iload 4, 2) := by decide +kernel
theorem dX12_tick_358 : decode cX12_tick 358 = .ok (.invokevirtual 320, 3) := by decide +kernel
theorem dX12_tick_361 : decode cX12_tick 361 = .ok (.aload_n 0, 1) := by decide +kernel
theorem dX12_tick_362 : decode cX12_tick 362 = .ok (.iload_n 1, 1) := by decide +kernel
theorem dX12_tick_363 : decode cX12_tick 363 = .ok (.iconst 2, 1) := by decide +kernel
theorem dX12_tick_364 : decode cX12_tick 364 = .ok (.invokevirtual 204, 3) := by decide +kernel
theorem dX12_tick_367 : decode cX12_tick 367 = .ok (.invokevirtual 207, 3) := by decide +kernel
theorem dX12_tick_370 : decode cX12_tick 370 = .ok (.goto 6, 3) := by decide +kernel
theorem dX12_tick_373 : decode cX12_tick 373 = .ok (.iinc 4 1, 3) := by decide +kernel
theorem dX12_tick_376 : decode cX12_tick 376 = .ok (.goto (-109), 3) := by decide +kernel
theorem dX12_tick_379 : decode cX12_tick 379 = .ok (.aload_n 0, 1) := by decide +kernel
theorem dX12_tick_380 : decode cX12_tick 380 = .ok (.getfield 97, 3) := by decide +kernel
theorem dX12_tick_383 : decode cX12_tick 383 = .ok (.iload_n 1, 1) := by decide +kernel
theorem dX12_tick_384 : decode cX12_tick 384 = .ok (.iaload, 1) := by decide +kernel
theorem dX12_tick_385 : decode cX12_tick 385 = .ok (.sipush 300, 3) := by decide +kernel
theorem dX12_tick_388 : decode cX12_tick 388 = .ok (.if_icmp .ne 12, 3) := by decide +kernel
theorem dX12_tick_391 : decode cX12_tick 391 = .ok (.aload_n 0, 1) := by decide +kernel
theorem dX12_tick_392 : decode cX12_tick 392 = .ok (.aload_n 0, 1) := by decide +kernel
theorem dX12_tick_393 : decode cX12_tick 393 = .ok (.iload_n 1, 1) := by decide +kernel
theorem dX12_tick_394 : decode cX12_tick 394 = .ok (.invokevirtual 305, 3) := by decide +kernel
theorem dX12_tick_397 : decode cX12_tick 397 = .ok (.putfield 330, 3) := by decide +kernel
theorem dX12_tick_400 : decode cX12_tick 400 = .ok (.iconst 1, 1) := by decide +kernel
theorem dX12_tick_401 : decode cX12_tick 401 = .ok (.ireturn, 1) := by decide +kernel
theorem inn_X12_tick_12 : ∀ w ∈ u_ws RX12 TX12 66, w ∈ wsX12_tick := fun w h => List.mem_cons_of_mem _ (List.mem_append_right _ h)
set_option maxHeartbeats 4000000 in
set_option maxRecDepth 100000 in
theorem k_X12_tick (l : Launch) (G : va_G) (cy : Nat → ClassId) (κ : Nat → Nat) (S : PS) (sz : Nat) (x : Nat) (a1 : Int32) (a1_z : Int) (hG : GX S) (ha_x : At S x 12) (hz_a1 : a1.toInt = a1_z) (hp_0 : 0 ≤ a1_z) (hp_1 : a1_z ≤ 3) (hp_2 : MI S x) (hp_3 : GR S x) : Ci l yX12_tick wsX12_tick ({ frames := 8, cells := 0, slots := 0, locals := 384 }) G cy κ S sz [.ref x, .int (a1)] (fun (r : Int32) (S9 : PS) => Ok MTK S S9 ∧ (((MI S9 x ∧ GR S9 x) ∧ r = 1) ∨ ((MI S9 x ∧ GR S9 x) ∧ r = 0))) := by
  refine ent_m (cc := cX12_tick) (maxL := 6) (ret := (some .boolean)) (by decide) rfl (Nat.le_of_ble_eq_true rfl) ?_
  intro p e s m below meth c ls X hr hlocks hin hw hl hsz
  subst hsz
  have X : Cx p c cX12_tick 6 s [.ref x, .int (a1)].toArray wsX12_tick RX12 m G cy κ (AS S s.heap.size) := X
  have hl : lv_has ls 6 [(0, .ref x), (1, .int (a1))] := hl
  have rg_a1 : (-2147483648) ≤ a1_z ∧ a1_z ≤ 2147483647 := by rw [← hz_a1]; exact ⟨z_lo _, z_hi _⟩
  have hO : Ok MTK S S := Ok.rf hG
  generalize hQQ : MQ below _ _ _ _ _ _ = QQ
  replace hQQ := hQQ.symm
  obtain ⟨v_1, ev_1⟩ : ∃ v, pI S 1201 x = v := ⟨_, rfl⟩
  have rg_2 := gI_12_1201 hO.1 ha_x; rw [ev_1] at rg_2
  have pz_3 : (pI S 1201 x).toInt = v_1.toInt := by rw [ev_1]
  have pz_4 : (pI S 1201 x).toInt = v_1.toInt := (congrArg Int32.toInt ev_1).trans rfl
  refine lv_aload_n X.1 X.2.1 dX12_tick_0 rfl (lv_at hl 0 rfl) ?_
  obtain ⟨q_5, h_6, h_7, h_8⟩ := gQ_12_1217 hO.1 ha_x
  refine r_getR (g := 1217) X hw ha_x rfl 17 h_6 (by decide) rfl inn_X12_tick_12 (by decide) (X.2.2.2.1 (.fieldLink RX12 52 "SilkMillModel" "ticksEver" "[I") (by decide +kernel)) rfl (gv_1217 _ _) dX12_tick_1 ?_
  refine lv_iload_n X.1 X.2.1 dX12_tick_4 rfl (lv_at hl 1 rfl) ?_
  refine lv_dup2_11 X.1 X.2.1 dX12_tick_5 rfl rfl ?_
  refine r_iald X hw h_7 rfl (by rw [h_8]; exact z_ix hz_a1 (by omega) (by omega)) dX12_tick_6 ?_
  refine lv_topi (fun v_9 ev_9 => ?_)
  have rg_10 := And.intro (z_lo v_9) (z_hi v_9)
  have ev_9 := ev_9.symm
  refine lv_iconst (v := 1) X.1 X.2.1 dX12_tick_7 (by decide) ?_
  refine lv_iadd X.1 X.2.1 dX12_tick_8 ?_
  refine lv_topi (fun v_11 ev_11 => ?_)
  have rg_12 := And.intro (z_lo v_11) (z_hi v_11)
  refine r_iast X hw h_7 rfl (by rw [h_8]; exact z_ix hz_a1 (by omega) (by omega)) dX12_tick_9 (fun H locs hw => ?_)
  obtain ⟨S_13, eS_13⟩ : ∃ T, T = sA S q_5 (upd (pA S q_5) (Int32.toNatClampNeg (a1)) (v_11)) := ⟨_, rfl⟩
  rw [← eS_13] at hw
  have hO_14 : Ok MTK S S_13 := hO.sA eS_13 h_7 (by decide +kernel) (uA_554 hO.1 h_7)
  have h_15 : pA S_13 q_5 (Int32.toNatClampNeg (a1)) = v_11 := tA_sAs eS_13
  have t_21 : pI S_13 1201 x = v_1 := tI_sA eS_13 ev_1
  have L_16 : ∀ (T_17 : PS) (H : Heap) (locs : List Loc) (ls : Array Slot) , (Wd G cy (AS S s.heap.size) s.heap T_17 H locs) → (At T_17 x 12) → (Ok MTK S T_17) → (MIe T_17 x (-1)) → (GR T_17 x) → (pI T_17 1201 x = v_1) → (lv_has ls 6 [(0, .ref x), (1, .int (a1))]) → W p l e ({ frames := 8, cells := 0, slots := 0, locals := 384 }) s m [.ref x, .int (a1)].toArray below meth c H locs 0 0 QQ (F0 m 37 ls []) := by
    intro T_17 H locs ls  hw ha_x_L_18 hO_T_17 mk_19 iv_20 ik_22 hl
    have pz_23 : (pI T_17 1201 x).toInt = v_1.toInt := (congrArg Int32.toInt ik_22).trans rfl
    refine lv_aload_n X.1 X.2.1 dX12_tick_37 rfl (lv_at hl 0 rfl) ?_
    have L_24 : ∀ (T_25 : PS) (H : Heap) (locs : List Loc) (ls : Array Slot) , (Wd G cy (AS S s.heap.size) s.heap T_25 H locs) → (At T_25 x 12) → (Ok MTK S T_25) → (MIe T_25 x (-1)) → (GR T_25 x) → (pI T_25 1201 x = v_1) → (lv_has ls 6 [(0, .ref x), (1, .int (a1))]) → W p l e ({ frames := 8, cells := 0, slots := 0, locals := 384 }) s m [.ref x, .int (a1)].toArray below meth c H locs 0 0 QQ (F0 m 87 ls []) := by
      intro T_25 H locs ls  hw ha_x_L_26 hO_T_25 mk_27 iv_28 ik_29 hl
      have pz_30 : (pI T_25 1201 x).toInt = v_1.toInt := (congrArg Int32.toInt ik_29).trans rfl
      refine lv_aload_n X.1 X.2.1 dX12_tick_87 rfl (lv_at hl 0 rfl) ?_
      have L_31 : ∀ (T_32 : PS) (H : Heap) (locs : List Loc) (ls : Array Slot) , (Wd G cy (AS S s.heap.size) s.heap T_32 H locs) → (At T_32 x 12) → (Ok MTK S T_32) → (MIe T_32 x (-1)) → (GR T_32 x) → (pI T_32 1201 x = v_1) → (lv_has ls 6 [(0, .ref x), (1, .int (a1))]) → W p l e ({ frames := 8, cells := 0, slots := 0, locals := 384 }) s m [.ref x, .int (a1)].toArray below meth c H locs 0 0 QQ (F0 m 137 ls []) := by
        intro T_32 H locs ls  hw ha_x_L_33 hO_T_32 mk_34 iv_35 ik_36 hl
        have pz_37 : (pI T_32 1201 x).toInt = v_1.toInt := (congrArg Int32.toInt ik_36).trans rfl
        refine lv_aload_n X.1 X.2.1 dX12_tick_137 rfl (lv_at hl 0 rfl) ?_
        obtain ⟨q_38, h_39, h_40, h_41⟩ := gQ_12_1215 hO_T_32.1 ha_x_L_33
        refine r_getR (g := 1215) X hw ha_x_L_33 rfl 15 h_39 (by decide) rfl inn_X12_tick_12 (by decide) (X.2.2.2.1 (.fieldLink RX12 46 "SilkMillModel" "stop" "[I") (by decide +kernel)) rfl (gv_1215 _ _) dX12_tick_138 ?_
        refine lv_iload_n X.1 X.2.1 dX12_tick_141 rfl (lv_at hl 1 rfl) ?_
        refine r_iald X hw h_40 rfl (by rw [h_41]; exact z_ix hz_a1 (by omega) (by omega)) dX12_tick_142 ?_
        refine lv_topi (fun v_42 ev_42 => ?_)
        have rg_43 := And.intro (z_lo v_42) (z_hi v_42)
        have ev_42 := ev_42.symm
        refine lv_if_le (tgt := 158) X.1 X.2.1 dX12_tick_143 (by decide) (fun c_44 => ?_) (fun c_44 => ?_)
        · have z_b_45 := trivial
          have k_46 : v_42.toInt ≤ 0 := z_le rfl ti_0 c_44
          refine lv_aload_n X.1 X.2.1 dX12_tick_158 rfl (lv_at hl 0 rfl) ?_
          refine lv_iload_n X.1 X.2.1 dX12_tick_159 rfl (lv_at hl 1 rfl) ?_
          refine lv_iconst (v := 1) X.1 X.2.1 dX12_tick_160 (by decide) ?_
          refine k_i (rm := { frames := 1, cells := 0, slots := 0, locals := 48 }) (av := [.ref x, .int (a1), .int 1]) X hw (va_runV (As := [.int (a1), .int 1]) (rest := []) (cfix X) (k_X12_many2 l G cy κ T_32 _ x (a1) (a1_z) (1) (1) hO_T_32.1 ha_x_L_33 hz_a1 ti_1 (by first | assumption | omega) (by first | assumption | omega) (by first | assumption | omega) (by first | assumption | omega)) (cwV 2 X.2.2.2.1 gX12_tick_X12_many rfl rfl rfl (by decide +kernel) ⟨Nat.le_of_ble_eq_true rfl, Nat.le_of_ble_eq_true rfl⟩) (pre_V X hw _ ha_x_L_33 rfl (by decide) rfl) rfl rfl hl.1 rfl (lv_room (Nat.le_of_ble_eq_true rfl)) dX12_tick_161 ⟨Nat.le_of_ble_eq_true rfl, Nat.le_of_ble_eq_true rfl⟩) 0 0 (Nat.le_of_ble_eq_true rfl) (Nat.le_of_ble_eq_true rfl) (fun rr_47 S_48 H locs hp hw hfr hnw => ?_)
          obtain ⟨e2, hp⟩ := hp
          subst e2
          obtain ⟨f_49, f_50, f_51⟩ := hp
          refine lv_istore_n (lv' := [(2, .int (rr_47)), (0, .ref x), (1, .int (a1))]) X.1 X.2.1 dX12_tick_164 rfl hl (by decide) rfl (fun ls hl => ?_)
          refine lv_iload_n X.1 X.2.1 dX12_tick_165 rfl (lv_at hl 0 rfl) ?_
          refine lv_if_ne (tgt := 171) X.1 X.2.1 dX12_tick_166 (by decide) (fun c_52 => ?_) (fun c_52 => ?_)
          · have z_b_53 := trivial
            have k_54 : rr_47.toInt ≠ 0 := z_ne rfl ti_0 c_52
            have m4_55 := mk_34.2.2.2.1.1 a1_z.toNat (by omega); rw [show 3 * a1_z.toNat + 1 = (3 * a1_z + 1).toNat by omega] at m4_55
            refine lv_aload_n X.1 X.2.1 dX12_tick_171 rfl (lv_at hl 1 rfl) ?_
            refine lv_iload_n X.1 X.2.1 dX12_tick_172 rfl (lv_at hl 2 rfl) ?_
            refine k_i (rm := { frames := 1, cells := 0, slots := 0, locals := 48 }) (av := [.ref x, .int (a1)]) X hw (va_runV (As := [.int (a1)]) (rest := []) (cfix X) (k_X12_growing l G cy κ T_32 _ x (a1) (a1_z) hO_T_32.1 ha_x_L_33 hz_a1 (by first | assumption | omega) (by first | assumption | omega)) (cwV 1 X.2.2.2.1 gX12_tick_X12_growing rfl rfl rfl (by decide +kernel) ⟨Nat.le_of_ble_eq_true rfl, Nat.le_of_ble_eq_true rfl⟩) (pre_V X hw _ ha_x_L_33 rfl (by decide) rfl) rfl rfl hl.1 rfl (lv_room (Nat.le_of_ble_eq_true rfl)) dX12_tick_173 ⟨Nat.le_of_ble_eq_true rfl, Nat.le_of_ble_eq_true rfl⟩) 0 0 (Nat.le_of_ble_eq_true rfl) (Nat.le_of_ble_eq_true rfl) (fun rr_56 S_57 H locs hp hw hfr hnw => ?_)
            obtain ⟨e2, hp⟩ := hp
            subst e2
            have f_58 := hp
            refine lv_aload_n X.1 X.2.1 dX12_tick_176 rfl (lv_at hl 1 rfl) ?_
            obtain ⟨q_59, h_60, h_61, h_62⟩ := gQ_12_1237 hO_T_32.1 ha_x_L_33
            refine r_getR (g := 1237) X hw ha_x_L_33 rfl 37 h_60 (by decide) rfl inn_X12_tick_12 (by decide) (X.2.2.2.1 (.fieldLink RX12 97 "SilkMillModel" "grown" "[I") (by decide +kernel)) rfl (gv_1237 _ _) dX12_tick_177 ?_
            refine lv_iload_n X.1 X.2.1 dX12_tick_180 rfl (lv_at hl 2 rfl) ?_
            refine r_iald X hw h_61 rfl (by rw [h_62]; exact z_ix hz_a1 (by omega) (by omega)) dX12_tick_181 ?_
            refine lv_topi (fun v_63 ev_63 => ?_)
            have z_64 := gE_954 hO_T_32.1 h_61 (Int32.toNatClampNeg (a1)); rw [← ev_63] at z_64
            have ev_63 := ev_63.symm
            have zf_65 : zA T_32 x 1237 (a1_z).toNat = v_63.toInt := (zA_of h_60 hz_a1 (by omega) ev_63)
            have gl_66 := iv_35 (a1_z).toNat (by omega); rw [zf_65] at gl_66
            refine lv_iadd X.1 X.2.1 dX12_tick_182 ?_
            refine lv_topi (fun v_67 ev_67 => ?_)
            have z_68 : v_67.toInt = rr_56.toInt + v_63.toInt := z_add ev_67 rfl rfl (by omega) (by omega)
            refine lv_istore_n (lv' := [(3, .int (v_67)), (2, .int (rr_47)), (0, .ref x), (1, .int (a1))]) X.1 X.2.1 dX12_tick_183 rfl hl (by decide) rfl (fun ls hl => ?_)
            refine lv_aload_n X.1 X.2.1 dX12_tick_184 rfl (lv_at hl 2 rfl) ?_
            obtain ⟨q_69, h_70, h_71, h_72⟩ := gQ_12_1235 hO_T_32.1 ha_x_L_33
            refine r_getR (g := 1235) X hw ha_x_L_33 rfl 35 h_70 (by decide) rfl inn_X12_tick_12 (by decide) (X.2.2.2.1 (.fieldLink RX12 90 "SilkMillModel" "metreEnds" "[I") (by decide +kernel)) rfl (gv_1235 _ _) dX12_tick_185 ?_
            refine lv_iload_n X.1 X.2.1 dX12_tick_188 rfl (lv_at hl 0 rfl) ?_
            refine lv_iload_n X.1 X.2.1 dX12_tick_189 rfl (lv_at hl 1 rfl) ?_
            refine r_iast X hw h_71 rfl (by rw [h_72]; exact z_ix z_68 (by omega) (by omega)) dX12_tick_190 (fun H locs hw => ?_)
            obtain ⟨S_73, eS_73⟩ : ∃ T, T = sA T_32 q_69 (upd (pA T_32 q_69) (Int32.toNatClampNeg (v_67)) (rr_47)) := ⟨_, rfl⟩
            rw [← eS_73] at hw
            have hO_74 : Ok MTK S S_73 := hO_T_32.sA eS_73 h_71 (by decide +kernel) (uA_914 hO_T_32.1 h_71 (by omega) (by omega))
            have h_75 : pA S_73 q_69 (Int32.toNatClampNeg (v_67)) = rr_47 := tA_sAs eS_73
            refine lv_iconst (v := 0) X.1 X.2.1 dX12_tick_191 (by decide) ?_
            refine lv_istore (lv' := [(4, .int 0), (3, .int (v_67)), (2, .int (rr_47)), (0, .ref x), (1, .int (a1))]) X.1 X.2.1 dX12_tick_192 hl (by decide) rfl (fun ls hl => ?_)
            have zc_80 : zA S_73 x 1219 = zA T_32 x 1219 := zA_sAn eS_73 (ex3 (gQ_12_1219 hO_T_32.1 ha_x_L_33)) h_71 rfl
            have zc_82 : zA S_73 x 1237 = zA T_32 x 1237 := zA_sAn eS_73 (ex3 (gQ_12_1237 hO_T_32.1 ha_x_L_33)) h_71 rfl
            have t_85 : pI S_73 1201 x = v_1 := tI_sA eS_73 ik_36
            have L_76 : ∀ (n : Nat) (T_78 : PS) (H : Heap) (locs : List Loc) (ls : Array Slot) (i4_77 : Int32) (i4_77_z : Int), ((12 - i4_77_z).toNat = n) → (Wd G cy (AS S s.heap.size) s.heap T_78 H locs) → (i4_77.toInt = i4_77_z) → (0 ≤ i4_77_z ∧ i4_77_z ≤ 12) → (At T_78 x 12) → (Ok MTK S T_78) → (zA T_78 x 1219 = zA T_32 x 1219) → (zA T_78 x 1237 = zA T_32 x 1237) → (MIe T_78 x (-1)) → (pI T_78 1201 x = v_1) → (lv_has ls 6 [(4, .int (i4_77)), (3, .int (v_67)), (2, .int (rr_47)), (0, .ref x), (1, .int (a1))]) → W p l e ({ frames := 8, cells := 0, slots := 0, locals := 384 }) s m [.ref x, .int (a1)].toArray below meth c H locs 0 0 QQ (F0 m 194 ls []) := by
              intro n
              induction n using Nat.strongRecOn with
              | ind n ih_L_76 =>
              intro T_78 H locs ls i4_77 i4_77_z hn hw hz_i4_77 hr_i4_77 ha_x_L_79 hO_T_78 zk_81 zk_83 mk_84 ik_86 hl
              have rg_87 : (-2147483648) ≤ i4_77_z ∧ i4_77_z ≤ 2147483647 := by rw [← hz_i4_77]; exact ⟨z_lo _, z_hi _⟩
              have pz_88 : (pI T_78 1201 x).toInt = v_1.toInt := (congrArg Int32.toInt ik_86).trans rfl
              refine lv_iload X.1 X.2.1 dX12_tick_194 (lv_at hl 0 rfl) ?_
              refine lv_iload_n X.1 X.2.1 dX12_tick_196 rfl (lv_at hl 2 rfl) ?_
              refine lv_icmp_ge (tgt := 244) X.1 X.2.1 dX12_tick_197 (by decide) (fun c_89 => ?_) (fun c_89 => ?_)
              · have z_b_90 := trivial
                have k_91 : i4_77_z ≥ rr_47.toInt := z_le rfl hz_i4_77 c_89
                refine lv_aload_n X.1 X.2.1 dX12_tick_244 rfl (lv_at hl 3 rfl) ?_
                obtain ⟨q_92, h_93, h_94, h_95⟩ := gQ_12_1237 hO_T_78.1 ha_x_L_79
                refine r_getR (g := 1237) X hw ha_x_L_79 rfl 37 h_93 (by decide) rfl inn_X12_tick_12 (by decide) (X.2.2.2.1 (.fieldLink RX12 97 "SilkMillModel" "grown" "[I") (by decide +kernel)) rfl (gv_1237 _ _) dX12_tick_245 ?_
                refine lv_iload_n X.1 X.2.1 dX12_tick_248 rfl (lv_at hl 4 rfl) ?_
                refine lv_dup2_11 X.1 X.2.1 dX12_tick_249 rfl rfl ?_
                refine r_iald X hw h_94 rfl (by rw [h_95]; exact z_ix hz_a1 (by omega) (by omega)) dX12_tick_250 ?_
                refine lv_topi (fun v_96 ev_96 => ?_)
                have z_97 := gE_954 hO_T_78.1 h_94 (Int32.toNatClampNeg (a1)); rw [← ev_96] at z_97
                have ev_96 := ev_96.symm
                have zf_98 : zA T_78 x 1237 (a1_z).toNat = v_96.toInt := (zA_of h_93 hz_a1 (by omega) ev_96)
                have gl_99 := (GR_eq zk_83 iv_35) (a1_z).toNat (by omega); rw [zf_98] at gl_99
                refine lv_iconst (v := 1) X.1 X.2.1 dX12_tick_251 (by decide) ?_
                refine lv_iadd X.1 X.2.1 dX12_tick_252 ?_
                refine lv_topi (fun v_100 ev_100 => ?_)
                have z_101 : v_100.toInt = v_96.toInt + 1 := z_add ev_100 rfl ti_1 (by omega) (by omega)
                refine r_iast X hw h_94 rfl (by rw [h_95]; exact z_ix hz_a1 (by omega) (by omega)) dX12_tick_253 (fun H locs hw => ?_)
                obtain ⟨S_102, eS_102⟩ : ∃ T, T = sA T_78 q_92 (upd (pA T_78 q_92) (Int32.toNatClampNeg (a1)) (v_100)) := ⟨_, rfl⟩
                rw [← eS_102] at hw
                have hO_103 : Ok MTK S S_102 := hO_T_78.sA eS_102 h_94 (by decide +kernel) (uA_954 hO_T_78.1 h_94 (by omega) (by omega))
                have h_104 : pA S_102 q_92 (Int32.toNatClampNeg (a1)) = v_100 := tA_sAs eS_102
                have t_105 : pR S_102 1237 x = some q_92 := tR_sA eS_102 h_93
                have t_107 : pR T_78 1237 x = some q_92 := by have h := t_105; rw [eS_102, pR_sA] at h; exact h
                have zs_106 : ∀ j, zA S_102 x 1237 j = if j = (a1_z).toNat then (v_96.toInt + 1) else zA T_78 x 1237 j := by have h := zA_sAs eS_102 t_107 z_101; rw [z_nc hz_a1 (by omega)] at h; exact h
                have zs_108 : ∀ j, zA S_102 x 1237 j = if j = (a1_z).toNat then (v_96.toInt + 1) else zA T_32 x 1237 j := fun j => by rw [zs_106 j, zk_83]
                have gb_109 : GR T_78 x := (GR_eq zk_83 iv_35)
                have t_111 : pR T_78 1237 x = some q_92 := by have h := t_105; rw [eS_102, pR_sA] at h; exact h
                have zs_110 : ∀ j, zA S_102 x 1237 j = if j = (a1_z).toNat then (v_96.toInt + 1) else zA T_78 x 1237 j := by have h := zA_sAs eS_102 t_111 z_101; rw [z_nc hz_a1 (by omega)] at h; exact h
                refine lv_aload_n X.1 X.2.1 dX12_tick_254 rfl (lv_at hl 3 rfl) ?_
                have t_112 : At S_102 x 12 := tAt_sA eS_102 ha_x_L_79
                obtain ⟨q_113, h_114, h_115, h_116⟩ := gQ_12_1216 hO_103.1 t_112
                refine r_getR (g := 1216) X hw t_112 rfl 16 h_114 (by decide) rfl inn_X12_tick_12 (by decide) (X.2.2.2.1 (.fieldLink RX12 49 "SilkMillModel" "drawnEver" "[I") (by decide +kernel)) rfl (gv_1216 _ _) dX12_tick_255 ?_
                refine lv_iload_n X.1 X.2.1 dX12_tick_258 rfl (lv_at hl 4 rfl) ?_
                refine lv_dup2_11 X.1 X.2.1 dX12_tick_259 rfl rfl ?_
                refine r_iald X hw h_115 rfl (by rw [h_116]; exact z_ix hz_a1 (by omega) (by omega)) dX12_tick_260 ?_
                refine lv_topi (fun v_117 ev_117 => ?_)
                have rg_118 := And.intro (z_lo v_117) (z_hi v_117)
                have ev_117 := ev_117.symm
                refine lv_iconst (v := 1) X.1 X.2.1 dX12_tick_261 (by decide) ?_
                refine lv_iadd X.1 X.2.1 dX12_tick_262 ?_
                refine lv_topi (fun v_119 ev_119 => ?_)
                have rg_120 := And.intro (z_lo v_119) (z_hi v_119)
                refine r_iast X hw h_115 rfl (by rw [h_116]; exact z_ix hz_a1 (by omega) (by omega)) dX12_tick_263 (fun H locs hw => ?_)
                obtain ⟨S_121, eS_121⟩ : ∃ T, T = sA S_102 q_113 (upd (pA S_102 q_113) (Int32.toNatClampNeg (a1)) (v_119)) := ⟨_, rfl⟩
                rw [← eS_121] at hw
                have hO_122 : Ok MTK S S_121 := hO_103.sA eS_121 h_115 (by decide +kernel) (uA_534 hO_103.1 h_115)
                have h_123 : pA S_121 q_113 (Int32.toNatClampNeg (a1)) = v_119 := tA_sAs eS_121
                refine lv_iconst (v := 0) X.1 X.2.1 dX12_tick_264 (by decide) ?_
                refine lv_istore (lv' := [(4, .int 0), (3, .int (v_67)), (2, .int (rr_47)), (0, .ref x), (1, .int (a1))]) X.1 X.2.1 dX12_tick_265 hl (by decide) rfl (fun ls hl => ?_)
                have zc_128 : zA S_121 x 1237 = zA S_102 x 1237 := zA_sAn eS_121 (ex3 (gQ_12_1237 hO_103.1 t_112)) h_115 rfl
                have t_131 : pI S_102 1201 x = v_1 := tI_sA eS_102 ik_86
                have t_132 : pI S_121 1201 x = v_1 := tI_sA eS_121 t_131
                have L_124 : ∀ (n : Nat) (T_126 : PS) (H : Heap) (locs : List Loc) (ls : Array Slot) (i4_125 : Int32) (i4_125_z : Int), ((zA T_126 x 1219 (3 * a1_z + 1).toNat - i4_125_z).toNat = n) → (Wd G cy (AS S s.heap.size) s.heap T_126 H locs) → (i4_125.toInt = i4_125_z) → (0 ≤ i4_125_z ∧ i4_125_z ≤ 600) → (At T_126 x 12) → (Ok MTK S T_126) → (zA T_126 x 1237 = zA S_102 x 1237) → (MIe T_126 x (-1)) → (pI T_126 1201 x = v_1) → (lv_has ls 6 [(4, .int (i4_125)), (3, .int (v_67)), (2, .int (rr_47)), (0, .ref x), (1, .int (a1))]) → W p l e ({ frames := 8, cells := 0, slots := 0, locals := 384 }) s m [.ref x, .int (a1)].toArray below meth c H locs 0 0 QQ (F0 m 267 ls []) := by
                  intro n
                  induction n using Nat.strongRecOn with
                  | ind n ih_L_124 =>
                  intro T_126 H locs ls i4_125 i4_125_z hn hw hz_i4_125 hr_i4_125 ha_x_L_127 hO_T_126 zk_129 mk_130 ik_133 hl
                  have rg_134 : (-2147483648) ≤ i4_125_z ∧ i4_125_z ≤ 2147483647 := by rw [← hz_i4_125]; exact ⟨z_lo _, z_hi _⟩
                  have pz_135 : (pI T_126 1201 x).toInt = v_1.toInt := (congrArg Int32.toInt ik_133).trans rfl
                  refine lv_iload X.1 X.2.1 dX12_tick_267 (lv_at hl 0 rfl) ?_
                  refine lv_aload_n X.1 X.2.1 dX12_tick_269 rfl (lv_at hl 3 rfl) ?_
                  refine lv_iload_n X.1 X.2.1 dX12_tick_270 rfl (lv_at hl 4 rfl) ?_
                  refine lv_iconst (v := 1) X.1 X.2.1 dX12_tick_271 (by decide) ?_
                  refine k_i (rm := { frames := 1, cells := 0, slots := 0, locals := 48 }) (av := [.ref x, .int (a1), .int 1]) X hw (va_runV (As := [.int (a1), .int 1]) (rest := [.int (i4_125)]) (cfix X) (k_X12_many2 l G cy κ T_126 _ x (a1) (a1_z) (1) (1) hO_T_126.1 ha_x_L_127 hz_a1 ti_1 (by first | assumption | omega) (by first | assumption | omega) (by first | assumption | omega) (by first | assumption | omega)) (cwV 2 X.2.2.2.1 gX12_tick_X12_many rfl rfl rfl (by decide +kernel) ⟨Nat.le_of_ble_eq_true rfl, Nat.le_of_ble_eq_true rfl⟩) (pre_V X hw _ ha_x_L_127 rfl (by decide) rfl) rfl rfl hl.1 rfl (lv_room (Nat.le_of_ble_eq_true rfl)) dX12_tick_272 ⟨Nat.le_of_ble_eq_true rfl, Nat.le_of_ble_eq_true rfl⟩) 0 0 (Nat.le_of_ble_eq_true rfl) (Nat.le_of_ble_eq_true rfl) (fun rr_136 S_137 H locs hp hw hfr hnw => ?_)
                  obtain ⟨e2, hp⟩ := hp
                  subst e2
                  obtain ⟨f_138, f_139, f_140⟩ := hp
                  refine lv_icmp_ge (tgt := 379) X.1 X.2.1 dX12_tick_275 (by decide) (fun c_141 => ?_) (fun c_141 => ?_)
                  · have z_b_142 := trivial
                    have k_143 : i4_125_z ≥ rr_136.toInt := z_le rfl hz_i4_125 c_141
                    refine lv_aload_n X.1 X.2.1 dX12_tick_379 rfl (lv_at hl 3 rfl) ?_
                    obtain ⟨q_144, h_145, h_146, h_147⟩ := gQ_12_1237 hO_T_126.1 ha_x_L_127
                    refine r_getR (g := 1237) X hw ha_x_L_127 rfl 37 h_145 (by decide) rfl inn_X12_tick_12 (by decide) (X.2.2.2.1 (.fieldLink RX12 97 "SilkMillModel" "grown" "[I") (by decide +kernel)) rfl (gv_1237 _ _) dX12_tick_380 ?_
                    refine lv_iload_n X.1 X.2.1 dX12_tick_383 rfl (lv_at hl 4 rfl) ?_
                    refine r_iald X hw h_146 rfl (by rw [h_147]; exact z_ix hz_a1 (by omega) (by omega)) dX12_tick_384 ?_
                    refine lv_topi (fun v_148 ev_148 => ?_)
                    have z_149 := gE_954 hO_T_126.1 h_146 (Int32.toNatClampNeg (a1)); rw [← ev_148] at z_149
                    have ev_148 := ev_148.symm
                    have zf_150 : zA T_126 x 1237 (a1_z).toNat = v_148.toInt := (zA_of h_145 hz_a1 (by omega) ev_148)
                    have zz_151 := congrFun zk_129 (a1_z).toNat
                    have zz_152 := zs_110 (a1_z).toNat; rw [if_pos rfl] at zz_152
                    refine lv_sipush (v := 300) X.1 X.2.1 dX12_tick_385 (by decide) ?_
                    refine lv_icmp_ne (tgt := 400) X.1 X.2.1 dX12_tick_388 (by decide) (fun c_153 => ?_) (fun c_153 => ?_)
                    · have z_b_154 := trivial
                      have k_155 : v_148.toInt ≠ 300 := z_ne rfl ti_300 c_153
                      refine lv_iconst (v := 1) X.1 X.2.1 dX12_tick_400 (by decide) ?_
                      rw [hQQ]
                      exact ret_z X hw hr hlocks (Nat.le_of_ble_eq_true rfl) (Nat.le_of_ble_eq_true rfl) (by decide) ⟨hO_T_126, Or.inl ⟨⟨mk_130, (GR_eq zk_129 (GR_set zs_110 (by omega) gb_109))⟩, rfl⟩⟩ dX12_tick_401
                    · have z_b_156 := trivial
                      have k_157 : v_148.toInt = 300 := z_eq rfl ti_300 c_153
                      refine lv_aload_n X.1 X.2.1 dX12_tick_391 rfl (lv_at hl 3 rfl) ?_
                      refine lv_aload_n X.1 X.2.1 dX12_tick_392 rfl (lv_at hl 3 rfl) ?_
                      refine lv_iload_n X.1 X.2.1 dX12_tick_393 rfl (lv_at hl 4 rfl) ?_
                      refine k_i (rm := { frames := 6, cells := 0, slots := 0, locals := 288 }) (av := [.ref x, .int (a1)]) X hw (va_runV (As := [.int (a1)]) (rest := [.ref x]) (cfix X) (k_X12_cuts l G cy κ T_126 _ x (a1) (a1_z) hO_T_126.1 ha_x_L_127 hz_a1 (by first | assumption | omega) (by first | assumption | omega) mk_130) (cwV 1 X.2.2.2.1 gX12_tick_X12_cuts rfl rfl rfl (by decide +kernel) ⟨Nat.le_of_ble_eq_true rfl, Nat.le_of_ble_eq_true rfl⟩) (pre_V X hw _ ha_x_L_127 rfl (by decide) rfl) rfl rfl hl.1 rfl (lv_room (Nat.le_of_ble_eq_true rfl)) dX12_tick_394 ⟨Nat.le_of_ble_eq_true rfl, Nat.le_of_ble_eq_true rfl⟩) 0 0 (Nat.le_of_ble_eq_true rfl) (Nat.le_of_ble_eq_true rfl) (fun rr_158 S_159 H locs hp hw hfr hnw => ?_)
                      obtain ⟨hk_160, hp⟩ := hp
                      have hO_161 : Ok MTK S S_159 := hO_T_126.call hk_160 (by decide +kernel)
                      obtain ⟨mi_162, cu_163⟩ := hp
                      have rg_164 := And.intro (z_lo rr_158) (z_hi rr_158)
                      have f_166 : ∀ j, zA S_159 x 1237 j = if j = (a1_z).toNat then 0 else zA T_78 x 1237 j := fun j => by rw [cu_163 j, zk_129, zs_110 j]; split <;> rfl
                      have gr_165 : GR S_159 x := GR_set f_166 (by omega) gb_109
                      have t_167 : At S_159 x 12 := hk_160.fr.at ha_x_L_127
                      refine r_putI (v := rr_158) X hw t_167 rfl 47 1247 tyX12 (by decide) rfl inn_X12_tick_12 tyX12_ok nmX12 (by decide) (X.2.2.2.1 (.fieldLink RX12 330 "SilkMillModel" "cutAtOnce" "I") (by decide +kernel)) rfl (Or.inl rfl) rfl rfl (Nat.le_of_ble_eq_true rfl) (st_1247 _ _) dX12_tick_397 (fun H locs hw => ?_)
                      obtain ⟨S_168, eS_168⟩ : ∃ T, T = sI S_159 1247 x (rr_158) := ⟨_, rfl⟩
                      rw [← eS_168] at hw
                      have hO_169 : Ok MTK S S_168 := hO_161.sI eS_168 (by decide +kernel) (uI_12_1247 hO_161.1 t_167)
                      have h_170 : pI S_168 1247 x = rr_158 := tI_sIs eS_168
                      refine lv_iconst (v := 1) X.1 X.2.1 dX12_tick_400 (by decide) ?_
                      have mi_171 : MIe S_168 x (-1) := MIe_sI mi_162 hO_161.1 t_167 eS_168 (by decide +kernel)
                      have zc_172 : zA S_168 x 1237 = zA S_159 x 1237 := zA_sI eS_168
                      rw [hQQ]
                      exact ret_z X hw hr hlocks (Nat.le_of_ble_eq_true rfl) (Nat.le_of_ble_eq_true rfl) (by decide) ⟨hO_169, Or.inl ⟨⟨mi_171, (GR_eq zc_172 gr_165)⟩, rfl⟩⟩ dX12_tick_401
                  · have z_b_173 := trivial
                    have k_174 : i4_125_z < rr_136.toInt := z_nle rfl hz_i4_125 c_141
                    refine lv_aload_n X.1 X.2.1 dX12_tick_278 rfl (lv_at hl 3 rfl) ?_
                    refine lv_iload_n X.1 X.2.1 dX12_tick_279 rfl (lv_at hl 4 rfl) ?_
                    refine lv_iconst (v := 1) X.1 X.2.1 dX12_tick_280 (by decide) ?_
                    refine lv_iload X.1 X.2.1 dX12_tick_281 (lv_at hl 0 rfl) ?_
                    refine k_i (rm := { frames := 1, cells := 0, slots := 0, locals := 48 }) (av := [.ref x, .int (a1), .int 1, .int (i4_125)]) X hw (va_runV (As := [.int (a1), .int 1, .int (i4_125)]) (rest := []) (cfix X) (k_X12_at2 l G cy κ T_126 _ x (a1) (a1_z) (1) (1) (i4_125) (i4_125_z) hO_T_126.1 ha_x_L_127 hz_a1 ti_1 hz_i4_125 (by first | assumption | omega) (by first | assumption | omega) (by first | assumption | omega) (by first | assumption | omega) (by first | assumption | omega) (by first | assumption | omega)) (cwV 3 X.2.2.2.1 gX12_tick_X12_at rfl rfl rfl (by decide +kernel) ⟨Nat.le_of_ble_eq_true rfl, Nat.le_of_ble_eq_true rfl⟩) (pre_V X hw _ ha_x_L_127 rfl (by decide) rfl) rfl rfl hl.1 rfl (lv_room (Nat.le_of_ble_eq_true rfl)) dX12_tick_283 ⟨Nat.le_of_ble_eq_true rfl, Nat.le_of_ble_eq_true rfl⟩) 0 0 (Nat.le_of_ble_eq_true rfl) (Nat.le_of_ble_eq_true rfl) (fun rr_175 S_176 H locs hp hw hfr hnw => ?_)
                    obtain ⟨e2, hp⟩ := hp
                    subst e2
                    obtain ⟨f_177, f_178, f_179⟩ := hp
                    refine lv_istore (lv' := [(5, .int (rr_175)), (4, .int (i4_125)), (3, .int (v_67)), (2, .int (rr_47)), (0, .ref x), (1, .int (a1))]) X.1 X.2.1 dX12_tick_286 hl (by decide) rfl (fun ls hl => ?_)
                    have m8_180 := MI_alive mk_130 (c := rr_175.toInt) (r := 3 * a1_z + 1) (k := i4_125_z) (gI_12_1201 hO_T_126.1 ha_x_L_127).2 (by omega) (by omega) (by omega) (by omega) (by omega)
                    have lg_181 := lenZ_le hO_T_126.1 ha_x_L_127 (rr_175.toInt)
                    refine lv_aload_n X.1 X.2.1 dX12_tick_288 rfl (lv_at hl 4 rfl) ?_
                    obtain ⟨q_182, h_183, h_184, h_185⟩ := gQ_12_1208 hO_T_126.1 ha_x_L_127
                    refine r_getR (g := 1208) X hw ha_x_L_127 rfl 8 h_183 (by decide) rfl inn_X12_tick_12 (by decide) (X.2.2.2.1 (.fieldLink RX12 28 "SilkMillModel" "place" "[I") (by decide +kernel)) rfl (gv_1208 _ _) dX12_tick_289 ?_
                    refine lv_iload X.1 X.2.1 dX12_tick_292 (lv_at hl 0 rfl) ?_
                    refine lv_dup2_11 X.1 X.2.1 dX12_tick_294 rfl rfl ?_
                    refine r_iald X hw h_184 rfl (by rw [h_185]; exact z_ix rfl (by omega) (by omega)) dX12_tick_295 ?_
                    refine lv_topi (fun v_186 ev_186 => ?_)
                    have z_187 := gE_374 hO_T_126.1 h_184 (Int32.toNatClampNeg (rr_175)); rw [← ev_186] at z_187
                    have ev_186 := ev_186.symm
                    have zf_188 : zA T_126 x 1208 (rr_175.toInt).toNat = v_186.toInt := (zA_of h_183 rfl (by omega) ev_186)
                    rw [zf_188] at m8_180
                    have pz_189 : (pI T_126 1201 x).toInt = v_1.toInt := (congrArg Int32.toInt ik_133).trans rfl
                    refine lv_iconst (v := 1) X.1 X.2.1 dX12_tick_296 (by decide) ?_
                    refine lv_iadd X.1 X.2.1 dX12_tick_297 ?_
                    refine lv_topi (fun v_190 ev_190 => ?_)
                    have z_191 : v_190.toInt = v_186.toInt + 1 := z_add ev_190 rfl ti_1 (by omega) (by omega)
                    refine r_iast X hw h_184 rfl (by rw [h_185]; exact z_ix rfl (by omega) (by omega)) dX12_tick_298 (fun H locs hw => ?_)
                    obtain ⟨S_192, eS_192⟩ : ∃ T, T = sA T_126 q_182 (upd (pA T_126 q_182) (Int32.toNatClampNeg (rr_175)) (v_190)) := ⟨_, rfl⟩
                    rw [← eS_192] at hw
                    have hO_193 : Ok MTK S S_192 := hO_T_126.sA eS_192 h_184 (by decide +kernel) (uA_374 hO_T_126.1 h_184 (by omega) (by omega))
                    have h_194 : pA S_192 q_182 (Int32.toNatClampNeg (rr_175)) = v_190 := tA_sAs eS_192
                    have t_195 : pR S_192 1208 x = some q_182 := tR_sA eS_192 h_183
                    have t_197 : pR T_126 1208 x = some q_182 := by have h := t_195; rw [eS_192, pR_sA] at h; exact h
                    have zs_196 : ∀ j, zA S_192 x 1208 j = if j = (rr_175.toInt).toNat then (v_186.toInt + 1) else zA T_126 x 1208 j := by have h := zA_sAs eS_192 t_197 z_191; rw [z_nc rfl (by omega)] at h; exact h
                    have mi_198 : MIe S_192 x rr_175.toInt := place_MI (c := rr_175.toInt) hO_T_126.1 ha_x_L_127 (show Fr [10374] T_126 S_192 by rw [eS_192]; exact Fr_sA h_184 List.mem_cons_self) mk_130 (by omega) (by omega) (by omega) (by omega) (by omega) zs_196
                    have zp_199 : zA S_192 x 1208 (rr_175.toInt).toNat = (v_186.toInt + 1) := by have h := zs_196 (rr_175.toInt).toNat; rw [if_pos rfl] at h; exact h
                    have le_200 : lenZ S_192 x = lenZ T_126 x := lenZ_fr (show Fr [10374] T_126 S_192 by rw [eS_192]; exact Fr_sA h_184 List.mem_cons_self) ha_x_L_127 (ex3 (gQ_12_1203 hO_T_126.1 ha_x_L_127)) (ex3 (gQ_12_1205 hO_T_126.1 ha_x_L_127)) (by decide +kernel) (by decide +kernel) (by decide +kernel) (by decide +kernel)
                    have lf_201 := congrFun le_200 (rr_175.toInt)
                    have zc_202 : zA S_192 x 1219 = zA T_126 x 1219 := zA_sAn eS_192 (ex3 (gQ_12_1219 hO_T_126.1 ha_x_L_127)) h_184 rfl
                    have zz_203 := congrFun zc_202 ((3 * a1_z + 1).toNat)
                    have zc_204 : zA S_192 x 1218 = zA T_126 x 1218 := zA_sAn eS_192 (ex3 (gQ_12_1218 hO_T_126.1 ha_x_L_127)) h_184 rfl
                    have zz_205 := congrFun zc_204 ((600 * (3 * a1_z + 1) + i4_125_z).toNat)
                    have t_206 : pI S_192 1201 x = v_1 := tI_sA eS_192 ik_133
                    have pz_207 : (pI S_192 1201 x).toInt = v_1.toInt := (congrArg Int32.toInt t_206).trans rfl
                    refine lv_aload_n X.1 X.2.1 dX12_tick_299 rfl (lv_at hl 4 rfl) ?_
                    have t_208 : At S_192 x 12 := tAt_sA eS_192 ha_x_L_127
                    refine r_getR (g := 1208) X hw t_208 rfl 8 t_195 (by decide) rfl inn_X12_tick_12 (by decide) (X.2.2.2.1 (.fieldLink RX12 28 "SilkMillModel" "place" "[I") (by decide +kernel)) rfl (gv_1208 _ _) dX12_tick_300 ?_
                    refine lv_iload X.1 X.2.1 dX12_tick_303 (lv_at hl 0 rfl) ?_
                    have t_209 : At S_192 q_182 374 := tAt_sA eS_192 h_184
                    have t_210 : pN S_192 q_182 = 600 := tN_sA eS_192 h_185
                    clear h_185
                    refine r_iald X hw t_209 rfl (by rw [t_210]; exact z_ix rfl (by omega) (by omega)) dX12_tick_305 ?_
                    rw [h_194]
                    refine lv_aload_n X.1 X.2.1 dX12_tick_306 rfl (lv_at hl 4 rfl) ?_
                    refine lv_iload X.1 X.2.1 dX12_tick_307 (lv_at hl 0 rfl) ?_
                    refine k_i (rm := { frames := 2, cells := 0, slots := 0, locals := 96 }) (av := [.ref x, .int (rr_175)]) X hw (va_runV (As := [.int (rr_175)]) (rest := [.int (v_190)]) (cfix X) (k_X12_lengthOf l G cy κ S_192 _ x (rr_175) (rr_175.toInt) hO_193.1 t_208 rfl (by first | assumption | omega) (by first | assumption | omega)) (cwV 1 X.2.2.2.1 gX12_tick_X12_lengthOf rfl rfl rfl (by decide +kernel) ⟨Nat.le_of_ble_eq_true rfl, Nat.le_of_ble_eq_true rfl⟩) (pre_V X hw _ t_208 rfl (by decide) rfl) rfl rfl hl.1 rfl (lv_room (Nat.le_of_ble_eq_true rfl)) dX12_tick_309 ⟨Nat.le_of_ble_eq_true rfl, Nat.le_of_ble_eq_true rfl⟩) 0 0 (Nat.le_of_ble_eq_true rfl) (Nat.le_of_ble_eq_true rfl) (fun rr_211 S_212 H locs hp hw hfr hnw => ?_)
                    obtain ⟨e2, hp⟩ := hp
                    subst e2
                    obtain ⟨f_213, f_214, f_215⟩ := hp
                    refine lv_icmp_ne (tgt := 332) X.1 X.2.1 dX12_tick_312 (by decide) (fun c_216 => ?_) (fun c_216 => ?_)
                    · have z_b_217 := trivial
                      have k_218 : (v_186.toInt + 1) ≠ rr_211.toInt := z_ne z_191 rfl c_216
                      have mi_219 : MI S_192 x := back_MI mi_198 (by omega) (Or.inr (by omega))
                      refine lv_aload_n X.1 X.2.1 dX12_tick_332 rfl (lv_at hl 4 rfl) ?_
                      refine lv_iload X.1 X.2.1 dX12_tick_333 (lv_at hl 0 rfl) ?_
                      refine lv_aload_n X.1 X.2.1 dX12_tick_335 rfl (lv_at hl 4 rfl) ?_
                      refine r_getR (g := 1208) X hw t_208 rfl 8 t_195 (by decide) rfl inn_X12_tick_12 (by decide) (X.2.2.2.1 (.fieldLink RX12 28 "SilkMillModel" "place" "[I") (by decide +kernel)) rfl (gv_1208 _ _) dX12_tick_336 ?_
                      refine lv_iload X.1 X.2.1 dX12_tick_339 (lv_at hl 0 rfl) ?_
                      refine r_iald X hw t_209 rfl (by rw [t_210]; exact z_ix rfl (by omega) (by omega)) dX12_tick_341 ?_
                      rw [h_194]
                      refine lv_iconst (v := 1) X.1 X.2.1 dX12_tick_342 (by decide) ?_
                      refine lv_isub X.1 X.2.1 dX12_tick_343 ?_
                      refine lv_topi (fun v_220 ev_220 => ?_)
                      have z_221 : v_220.toInt = (v_186.toInt + 1) - 1 := z_sub ev_220 z_191 ti_1 (by omega) (by omega)
                      refine k_i (rm := { frames := 2, cells := 0, slots := 0, locals := 96 }) (av := [.ref x, .int (rr_175), .int (v_220)]) X hw (va_runV (As := [.int (rr_175), .int (v_220)]) (rest := []) (cfix X) (k_X12_breaks l G cy κ S_192 _ x (rr_175) (rr_175.toInt) (v_220) (((v_186.toInt + 1) - 1)) hO_193.1 t_208 rfl z_221 (by first | assumption | omega) (by first | assumption | omega)) (cwV 2 X.2.2.2.1 gX12_tick_X12_breaks rfl rfl rfl (by decide +kernel) ⟨Nat.le_of_ble_eq_true rfl, Nat.le_of_ble_eq_true rfl⟩) (pre_V X hw _ t_208 rfl (by decide) rfl) rfl rfl hl.1 rfl (lv_room (Nat.le_of_ble_eq_true rfl)) dX12_tick_344 ⟨Nat.le_of_ble_eq_true rfl, Nat.le_of_ble_eq_true rfl⟩) 0 0 (Nat.le_of_ble_eq_true rfl) (Nat.le_of_ble_eq_true rfl) (fun rr_222 S_223 H locs hp hw hfr hnw => ?_)
                      obtain ⟨e2, hp⟩ := hp
                      subst e2
                      rcases hp with ⟨f_224, er_225⟩ | ⟨f_224, er_225⟩ <;> subst er_225
                      · have z_b_226 := trivial
                        refine lv_if_eq (tgt := 373) X.1 X.2.1 dX12_tick_347 (by decide) (fun c_227 => absurd c_227 (by decide)) (fun c_227 => ?_)
                        refine lv_aload_n X.1 X.2.1 dX12_tick_350 rfl (lv_at hl 4 rfl) ?_
                        refine lv_iload_n X.1 X.2.1 dX12_tick_351 rfl (lv_at hl 5 rfl) ?_
                        refine lv_iconst (v := 2) X.1 X.2.1 dX12_tick_352 (by decide) ?_
                        refine lv_aload_n X.1 X.2.1 dX12_tick_353 rfl (lv_at hl 4 rfl) ?_
                        refine lv_iload_n X.1 X.2.1 dX12_tick_354 rfl (lv_at hl 5 rfl) ?_
                        refine lv_iconst (v := 1) X.1 X.2.1 dX12_tick_355 (by decide) ?_
                        refine lv_iload X.1 X.2.1 dX12_tick_356 (lv_at hl 1 rfl) ?_
                        have pz_228 : (pI S_192 1201 x).toInt = v_1.toInt := (congrArg Int32.toInt t_206).trans rfl
                        refine k_i (rm := { frames := 1, cells := 0, slots := 0, locals := 48 }) (av := [.ref x, .int (a1), .int 1, .int (i4_125)]) X hw (va_runV (As := [.int (a1), .int 1, .int (i4_125)]) (rest := [.int 2, .int (a1), .ref x]) (cfix X) (k_X12_goes l G cy κ S_192 _ x (a1) (a1_z) (1) (1) (i4_125) (i4_125_z) (-1) hO_193.1 t_208 hz_a1 ti_1 hz_i4_125 (by first | assumption | omega) (by first | assumption | omega) (by first | assumption | omega) (by first | assumption | omega) (by first | assumption | omega) (by first | assumption | omega) mi_219) (cwV 3 X.2.2.2.1 gX12_tick_X12_goes rfl rfl rfl (by decide +kernel) ⟨Nat.le_of_ble_eq_true rfl, Nat.le_of_ble_eq_true rfl⟩) (pre_V X hw _ t_208 rfl (by decide) rfl) rfl rfl hl.1 rfl (lv_room (Nat.le_of_ble_eq_true rfl)) dX12_tick_358 ⟨Nat.le_of_ble_eq_true rfl, Nat.le_of_ble_eq_true rfl⟩) 0 0 (Nat.le_of_ble_eq_true rfl) (Nat.le_of_ble_eq_true rfl) (fun rr_229 S_230 H locs hp hw hfr hnw => ?_)
                        obtain ⟨hk_231, hp⟩ := hp
                        have hO_232 : Ok MTK S S_230 := hO_193.call hk_231 (by decide +kernel)
                        obtain ⟨g_233, g_234, g_235, g_236, g_237, g_238, g_239, g_240⟩ := hp
                        have t_241 : pI S_230 1201 x = v_1 := hk_231.fr.I' (by decide +kernel) t_208 t_206
                        have pz_242 : (pI S_230 1201 x).toInt = v_1.toInt := (congrArg Int32.toInt t_241).trans rfl
                        have zl_243 : zA S_230 x 1207 = zA S_192 x 1207 := zA_fr hk_231.fr t_208 (ex3 (gQ_12_1207 hO_193.1 t_208)) (by decide +kernel) (by decide +kernel)
                        have zz_244 := congrFun zl_243 (rr_229.toInt).toNat
                        have al_245 := ((MI_1 g_238 (c := rr_229.toInt) (by omega) (by omega)).2 (by omega)).2 (by omega) (by omega)
                        have gi_246 := g_240 (3 * a1_z + 1).toNat; rw [if_pos (by omega)] at gi_246
                        have m4_247 := g_238.2.2.2.1.2 (3 * a1_z + 1).toNat (by omega)
                        have gi_248 := g_240 (3 * a1_z + 2).toNat; rw [if_neg (by omega)] at gi_248
                        have m4_249 := g_238.2.2.2.1.2 (3 * a1_z + 2).toNat (by omega)
                        refine lv_aload_n X.1 X.2.1 dX12_tick_361 rfl (lv_at hl 4 rfl) ?_
                        refine lv_iload_n X.1 X.2.1 dX12_tick_362 rfl (lv_at hl 5 rfl) ?_
                        refine lv_iconst (v := 2) X.1 X.2.1 dX12_tick_363 (by decide) ?_
                        have t_250 : At S_230 x 12 := hk_231.fr.at t_208
                        refine k_i (rm := { frames := 1, cells := 0, slots := 0, locals := 48 }) (av := [.ref x, .int (a1), .int 2]) X hw (va_runV (As := [.int (a1), .int 2]) (rest := [.int (rr_229), .int 2, .int (a1), .ref x]) (cfix X) (k_X12_many2 l G cy κ S_230 _ x (a1) (a1_z) (2) (2) hO_232.1 t_250 hz_a1 ti_2 (by first | assumption | omega) (by first | assumption | omega) (by first | assumption | omega) (by first | assumption | omega)) (cwV 2 X.2.2.2.1 gX12_tick_X12_many rfl rfl rfl (by decide +kernel) ⟨Nat.le_of_ble_eq_true rfl, Nat.le_of_ble_eq_true rfl⟩) (pre_V X hw _ t_250 rfl (by decide) rfl) rfl rfl hl.1 rfl (lv_room (Nat.le_of_ble_eq_true rfl)) dX12_tick_364 ⟨Nat.le_of_ble_eq_true rfl, Nat.le_of_ble_eq_true rfl⟩) 0 0 (Nat.le_of_ble_eq_true rfl) (Nat.le_of_ble_eq_true rfl) (fun rr_251 S_252 H locs hp hw hfr hnw => ?_)
                        obtain ⟨e2, hp⟩ := hp
                        subst e2
                        obtain ⟨f_253, f_254, f_255⟩ := hp
                        refine k_v (rm := { frames := 1, cells := 0, slots := 0, locals := 48 }) (av := [.ref x, .int (a1), .int 2, .int (rr_229), .int (rr_251)]) X hw (va_runV (As := [.int (a1), .int 2, .int (rr_229), .int (rr_251)]) (rest := []) (cfix X) (k_X12_comes l G cy κ S_230 _ x (a1) (a1_z) (2) (2) (rr_229) (rr_229.toInt) (rr_251) (rr_251.toInt) hO_232.1 t_250 hz_a1 ti_2 rfl rfl (by first | assumption | omega) (by first | assumption | omega) (by first | assumption | omega) (by first | assumption | omega) (by first | assumption | omega) (by first | assumption | omega) (by first | assumption | omega) (by first | assumption | omega) (by first | assumption | omega) (by first | assumption | omega) g_238 (by first | assumption | omega) (by first | assumption | omega)) (cwV 4 X.2.2.2.1 gX12_tick_X12_comes rfl rfl rfl (by decide +kernel) ⟨Nat.le_of_ble_eq_true rfl, Nat.le_of_ble_eq_true rfl⟩) (pre_V X hw _ t_250 rfl (by decide) rfl) rfl rfl hl.1 rfl (lv_room (Nat.le_of_ble_eq_true rfl)) dX12_tick_367 ⟨Nat.le_of_ble_eq_true rfl, Nat.le_of_ble_eq_true rfl⟩) 0 0 (Nat.le_of_ble_eq_true rfl) (Nat.le_of_ble_eq_true rfl) (fun S_257 H locs hp hw hfr hnw => ?_)
                        obtain ⟨hk_258, hp⟩ := hp
                        have hO_259 : Ok MTK S S_257 := hO_232.call hk_258 (by decide +kernel)
                        obtain ⟨mi_260, cm_261, cs_262⟩ := hp
                        have gi_263 := cm_261 (3 * a1_z + 1).toNat; rw [if_neg (by omega)] at gi_263
                        refine lv_goto (tgt := 376) X.1 X.2.1 dX12_tick_370 (by decide) ?_
                        refine lv_goto (tgt := 267) X.1 X.2.1 dX12_tick_376 (by decide) ?_
                        have t_264 : At S_257 x 12 := hk_258.fr.at t_250
                        have zc_265 : zA S_192 x 1237 = zA S_102 x 1237 := (zA_sAn eS_192 (ex3 (gQ_12_1237 hO_T_126.1 ha_x_L_127)) h_184 rfl).trans zk_129
                        have zc_266 : zA S_230 x 1237 = zA S_102 x 1237 := (zA_fr hk_231.fr t_208 (ex3 (gQ_12_1237 hO_193.1 t_208)) (by decide +kernel) (by decide +kernel)).trans zc_265
                        have zc_267 : zA S_257 x 1237 = zA S_102 x 1237 := (zA_fr hk_258.fr t_250 (ex3 (gQ_12_1237 hO_232.1 t_250)) (by decide +kernel) (by decide +kernel)).trans zc_266
                        have t_268 : pI S_257 1201 x = v_1 := hk_258.fr.I' (by decide +kernel) t_250 t_241
                        exact ih_L_124 _ (by omega) _ _ _ _ (i4_125) (i4_125_z) rfl hw hz_i4_125 (by omega) t_264 hO_259 zc_267 mi_260 t_268 (lv_sub hl [1, 2, 3, 4, 5] rfl)
                      · have z_b_269 := trivial
                        refine lv_if_eq (tgt := 373) X.1 X.2.1 dX12_tick_347 (by decide) (fun c_270 => ?_) (fun c_270 => absurd c_270 (by decide))
                        obtain ⟨x_271, ex_271⟩ : ∃ y : Int32, y = i4_125 + 1 := ⟨_, rfl⟩
                        have z_272 : x_271.toInt = i4_125_z + 1 := z_add ex_271 hz_i4_125 ti_1 (by omega) (by omega)
                        refine lv_iinc (v := x_271) (lv' := [(4, .int (x_271)), (5, .int (rr_175)), (3, .int (v_67)), (2, .int (rr_47)), (0, .ref x), (1, .int (a1))]) X.1 X.2.1 dX12_tick_373 hl (k := 1) rfl (by rw [ex_271]; rfl) (by decide) rfl (fun ls hl => ?_)
                        refine lv_goto (tgt := 267) X.1 X.2.1 dX12_tick_376 (by decide) ?_
                        have zc_273 : zA S_192 x 1237 = zA S_102 x 1237 := (zA_sAn eS_192 (ex3 (gQ_12_1237 hO_T_126.1 ha_x_L_127)) h_184 rfl).trans zk_129
                        exact ih_L_124 _ (by omega) _ _ _ _ (x_271) (x_271.toInt) rfl hw rfl (by omega) t_208 hO_193 zc_273 mi_219 t_206 (lv_sub hl [0, 2, 3, 4, 5] rfl)
                    · have z_b_274 := trivial
                      have k_275 : (v_186.toInt + 1) = rr_211.toInt := z_eq z_191 rfl c_216
                      refine lv_aload_n X.1 X.2.1 dX12_tick_315 rfl (lv_at hl 4 rfl) ?_
                      obtain ⟨q_276, h_277, h_278, h_279⟩ := gQ_12_1207 hO_193.1 t_208
                      refine r_getR (g := 1207) X hw t_208 rfl 7 h_277 (by decide) rfl inn_X12_tick_12 (by decide) (X.2.2.2.1 (.fieldLink RX12 25 "SilkMillModel" "stand" "[I") (by decide +kernel)) rfl (gv_1207 _ _) dX12_tick_316 ?_
                      refine lv_aload_n X.1 X.2.1 dX12_tick_319 rfl (lv_at hl 4 rfl) ?_
                      refine lv_iload_n X.1 X.2.1 dX12_tick_320 rfl (lv_at hl 5 rfl) ?_
                      refine lv_iconst (v := 1) X.1 X.2.1 dX12_tick_321 (by decide) ?_
                      refine lv_iload X.1 X.2.1 dX12_tick_322 (lv_at hl 1 rfl) ?_
                      have pz_280 : (pI S_192 1201 x).toInt = v_1.toInt := (congrArg Int32.toInt t_206).trans rfl
                      refine k_i (rm := { frames := 1, cells := 0, slots := 0, locals := 48 }) (av := [.ref x, .int (a1), .int 1, .int (i4_125)]) X hw (va_runV (As := [.int (a1), .int 1, .int (i4_125)]) (rest := [.ref q_276]) (cfix X) (k_X12_goes l G cy κ S_192 _ x (a1) (a1_z) (1) (1) (i4_125) (i4_125_z) rr_175.toInt hO_193.1 t_208 hz_a1 ti_1 hz_i4_125 (by first | assumption | omega) (by first | assumption | omega) (by first | assumption | omega) (by first | assumption | omega) (by first | assumption | omega) (by first | assumption | omega) mi_198) (cwV 3 X.2.2.2.1 gX12_tick_X12_goes rfl rfl rfl (by decide +kernel) ⟨Nat.le_of_ble_eq_true rfl, Nat.le_of_ble_eq_true rfl⟩) (pre_V X hw _ t_208 rfl (by decide) rfl) rfl rfl hl.1 rfl (lv_room (Nat.le_of_ble_eq_true rfl)) dX12_tick_324 ⟨Nat.le_of_ble_eq_true rfl, Nat.le_of_ble_eq_true rfl⟩) 0 0 (Nat.le_of_ble_eq_true rfl) (Nat.le_of_ble_eq_true rfl) (fun rr_281 S_282 H locs hp hw hfr hnw => ?_)
                      obtain ⟨hk_283, hp⟩ := hp
                      have hO_284 : Ok MTK S S_282 := hO_193.call hk_283 (by decide +kernel)
                      obtain ⟨g_285, g_286, g_287, g_288, g_289, g_290, g_291, g_292⟩ := hp
                      have hrc : rr_281.toInt = rr_175.toInt := by omega
                      have t_293 : pI S_282 1201 x = v_1 := hk_283.fr.I' (by decide +kernel) t_208 t_206
                      have pz_294 : (pI S_282 1201 x).toInt = v_1.toInt := (congrArg Int32.toInt t_293).trans rfl
                      have gi_295 := g_292 (3 * a1_z + 1).toNat; rw [if_pos (by omega)] at gi_295
                      refine lv_iconst (v := 4) X.1 X.2.1 dX12_tick_327 (by decide) ?_
                      have t_296 : At S_282 q_276 354 := hk_283.fr.at h_278
                      have t_297 : pN S_282 q_276 = 600 := hk_283.fr.N h_278 h_279
                      clear h_279
                      refine r_iast X hw t_296 rfl (by rw [t_297]; exact z_ix rfl (by omega) (by omega)) dX12_tick_328 (fun H locs hw => ?_)
                      obtain ⟨S_298, eS_298⟩ : ∃ T, T = sA S_282 q_276 (upd (pA S_282 q_276) (Int32.toNatClampNeg (rr_281)) (4)) := ⟨_, rfl⟩
                      rw [← eS_298] at hw
                      have hO_299 : Ok MTK S S_298 := hO_284.sA eS_298 t_296 (by decide +kernel) (uA_354 hO_284.1 t_296)
                      have h_300 : pA S_298 q_276 (Int32.toNatClampNeg (rr_281)) = 4 := tA_sAs eS_298
                      have t_301 : pR S_282 1207 x = some q_276 := hk_283.fr.R' (by decide +kernel) t_208 h_277
                      have t_302 : pR S_298 1207 x = some q_276 := tR_sA eS_298 t_301
                      have t_304 : pR S_282 1207 x = some q_276 := by have h := t_302; rw [eS_298, pR_sA] at h; exact h
                      have zs_303 : ∀ j, zA S_298 x 1207 j = if j = (rr_281.toInt).toNat then 4 else zA S_282 x 1207 j := by have h := zA_sAs eS_298 t_304 ti_4; rw [z_nc rfl (by omega)] at h; exact h
                      have t_306 : At S_282 x 12 := hk_283.fr.at t_208
                      have mi_305 : MIe S_298 x rr_175.toInt := stand_MI (c := rr_281.toInt) hO_284.1 t_306 (show Fr [10354] S_282 S_298 by rw [eS_298]; exact Fr_sA t_296 List.mem_cons_self) g_290 (by omega) (by omega) g_291 zs_303 (Or.inl rfl)
                      have mi_307 : MI S_298 x := back_MI mi_305 (by omega) (Or.inl (by rw [← hrc, zs_303, if_pos rfl]))
                      have zc_308 : zA S_298 x 1219 = zA S_282 x 1219 := zA_sAn eS_298 (ex3 (gQ_12_1219 hO_284.1 t_306)) t_296 rfl
                      have zz_309 := congrFun zc_308 (3 * a1_z + 1).toNat
                      refine lv_goto (tgt := 376) X.1 X.2.1 dX12_tick_329 (by decide) ?_
                      refine lv_goto (tgt := 267) X.1 X.2.1 dX12_tick_376 (by decide) ?_
                      have t_310 : At S_298 x 12 := tAt_sA eS_298 t_306
                      have zc_311 : zA S_192 x 1237 = zA S_102 x 1237 := (zA_sAn eS_192 (ex3 (gQ_12_1237 hO_T_126.1 ha_x_L_127)) h_184 rfl).trans zk_129
                      have zc_312 : zA S_282 x 1237 = zA S_102 x 1237 := (zA_fr hk_283.fr t_208 (ex3 (gQ_12_1237 hO_193.1 t_208)) (by decide +kernel) (by decide +kernel)).trans zc_311
                      have zc_313 : zA S_298 x 1237 = zA S_102 x 1237 := (zA_sAn eS_298 (ex3 (gQ_12_1237 hO_284.1 t_306)) t_296 rfl).trans zc_312
                      have t_314 : pI S_298 1201 x = v_1 := tI_sA eS_298 t_293
                      exact ih_L_124 _ (by omega) _ _ _ _ (i4_125) (i4_125_z) rfl hw hz_i4_125 (by omega) t_310 hO_299 zc_313 mi_307 t_314 (lv_sub hl [1, 2, 3, 4, 5] rfl)
                have t_315 : At S_121 x 12 := tAt_sA eS_121 t_112
                have mi_316 : MIe S_102 x (-1) := MIe_37 mk_84 hO_T_78.1 ha_x_L_79 h_94 eS_102
                have mi_317 : MIe S_121 x (-1) := MIe_sA mi_316 hO_103.1 t_112 h_115 eS_121 (by decide +kernel)
                exact L_124 _ _ _ _ _ (0) (0) rfl hw ti_0 (by omega) t_315 hO_122 zc_128 mi_317 t_132 (lv_sub hl [0, 1, 2, 3, 4] rfl)
              · have z_b_318 := trivial
                have k_319 : i4_77_z < rr_47.toInt := z_nle rfl hz_i4_77 c_89
                have zz_320 := congrFun zk_81 (3 * a1_z + 1).toNat
                refine lv_aload_n X.1 X.2.1 dX12_tick_200 rfl (lv_at hl 3 rfl) ?_
                obtain ⟨q_321, h_322, h_323, h_324⟩ := gQ_12_1236 hO_T_78.1 ha_x_L_79
                refine r_getR (g := 1236) X hw ha_x_L_79 rfl 36 h_322 (by decide) rfl inn_X12_tick_12 (by decide) (X.2.2.2.1 (.fieldLink RX12 94 "SilkMillModel" "drawn" "[I") (by decide +kernel)) rfl (gv_1236 _ _) dX12_tick_201 ?_
                refine lv_bipush (v := 12) X.1 X.2.1 dX12_tick_204 (by decide) ?_
                refine lv_iload_n X.1 X.2.1 dX12_tick_206 rfl (lv_at hl 1 rfl) ?_
                refine lv_imul X.1 X.2.1 dX12_tick_207 ?_
                refine lv_topi (fun v_325 ev_325 => ?_)
                have z_326 : v_325.toInt = 12 * (rr_56.toInt + v_63.toInt) := z_mul ev_325 ti_12 z_68 (by omega) (by omega)
                refine lv_iload X.1 X.2.1 dX12_tick_208 (lv_at hl 0 rfl) ?_
                refine lv_iadd X.1 X.2.1 dX12_tick_210 ?_
                refine lv_topi (fun v_327 ev_327 => ?_)
                have z_328 : v_327.toInt = (12 * (rr_56.toInt + v_63.toInt)) + i4_77_z := z_add ev_327 z_326 hz_i4_77 (by omega) (by omega)
                refine lv_sipush (v := 1000) X.1 X.2.1 dX12_tick_211 (by decide) ?_
                refine lv_aload_n X.1 X.2.1 dX12_tick_214 rfl (lv_at hl 3 rfl) ?_
                refine lv_iload_n X.1 X.2.1 dX12_tick_215 rfl (lv_at hl 4 rfl) ?_
                refine lv_iconst (v := 1) X.1 X.2.1 dX12_tick_216 (by decide) ?_
                refine lv_iload X.1 X.2.1 dX12_tick_217 (lv_at hl 0 rfl) ?_
                refine k_i (rm := { frames := 1, cells := 0, slots := 0, locals := 48 }) (av := [.ref x, .int (a1), .int 1, .int (i4_77)]) X hw (va_runV (As := [.int (a1), .int 1, .int (i4_77)]) (rest := [.int 1000, .int (v_327), .ref q_321]) (cfix X) (k_X12_at2 l G cy κ T_78 _ x (a1) (a1_z) (1) (1) (i4_77) (i4_77_z) hO_T_78.1 ha_x_L_79 hz_a1 ti_1 hz_i4_77 (by first | assumption | omega) (by first | assumption | omega) (by first | assumption | omega) (by first | assumption | omega) (by first | assumption | omega) (by first | assumption | omega)) (cwV 3 X.2.2.2.1 gX12_tick_X12_at rfl rfl rfl (by decide +kernel) ⟨Nat.le_of_ble_eq_true rfl, Nat.le_of_ble_eq_true rfl⟩) (pre_V X hw _ ha_x_L_79 rfl (by decide) rfl) rfl rfl hl.1 rfl (lv_room (Nat.le_of_ble_eq_true rfl)) dX12_tick_219 ⟨Nat.le_of_ble_eq_true rfl, Nat.le_of_ble_eq_true rfl⟩) 0 0 (Nat.le_of_ble_eq_true rfl) (Nat.le_of_ble_eq_true rfl) (fun rr_329 S_330 H locs hp hw hfr hnw => ?_)
                obtain ⟨e2, hp⟩ := hp
                subst e2
                obtain ⟨f_331, f_332, f_333⟩ := hp
                refine lv_imul X.1 X.2.1 dX12_tick_222 ?_
                refine lv_topi (fun v_334 ev_334 => ?_)
                have z_335 : v_334.toInt = 1000 * rr_329.toInt := z_mul ev_334 ti_1000 rfl (by omega) (by omega)
                refine lv_aload_n X.1 X.2.1 dX12_tick_223 rfl (lv_at hl 3 rfl) ?_
                obtain ⟨q_336, h_337, h_338, h_339⟩ := gQ_12_1208 hO_T_78.1 ha_x_L_79
                refine r_getR (g := 1208) X hw ha_x_L_79 rfl 8 h_337 (by decide) rfl inn_X12_tick_12 (by decide) (X.2.2.2.1 (.fieldLink RX12 28 "SilkMillModel" "place" "[I") (by decide +kernel)) rfl (gv_1208 _ _) dX12_tick_224 ?_
                refine lv_aload_n X.1 X.2.1 dX12_tick_227 rfl (lv_at hl 3 rfl) ?_
                refine lv_iload_n X.1 X.2.1 dX12_tick_228 rfl (lv_at hl 4 rfl) ?_
                refine lv_iconst (v := 1) X.1 X.2.1 dX12_tick_229 (by decide) ?_
                refine lv_iload X.1 X.2.1 dX12_tick_230 (lv_at hl 0 rfl) ?_
                refine k_i (rm := { frames := 1, cells := 0, slots := 0, locals := 48 }) (av := [.ref x, .int (a1), .int 1, .int (i4_77)]) X hw (va_runV (As := [.int (a1), .int 1, .int (i4_77)]) (rest := [.ref q_336, .int (v_334), .int (v_327), .ref q_321]) (cfix X) (k_X12_at2 l G cy κ T_78 _ x (a1) (a1_z) (1) (1) (i4_77) (i4_77_z) hO_T_78.1 ha_x_L_79 hz_a1 ti_1 hz_i4_77 (by first | assumption | omega) (by first | assumption | omega) (by first | assumption | omega) (by first | assumption | omega) (by first | assumption | omega) (by first | assumption | omega)) (cwV 3 X.2.2.2.1 gX12_tick_X12_at rfl rfl rfl (by decide +kernel) ⟨Nat.le_of_ble_eq_true rfl, Nat.le_of_ble_eq_true rfl⟩) (pre_V X hw _ ha_x_L_79 rfl (by decide) rfl) rfl rfl hl.1 rfl (lv_room (Nat.le_of_ble_eq_true rfl)) dX12_tick_232 ⟨Nat.le_of_ble_eq_true rfl, Nat.le_of_ble_eq_true rfl⟩) 0 0 (Nat.le_of_ble_eq_true rfl) (Nat.le_of_ble_eq_true rfl) (fun rr_340 S_341 H locs hp hw hfr hnw => ?_)
                obtain ⟨e2, hp⟩ := hp
                subst e2
                obtain ⟨f_342, f_343, f_344⟩ := hp
                refine r_iald X hw h_338 rfl (by rw [h_339]; exact z_ix rfl (by omega) (by omega)) dX12_tick_235 ?_
                refine lv_topi (fun v_345 ev_345 => ?_)
                have z_346 := gE_374 hO_T_78.1 h_338 (Int32.toNatClampNeg (rr_340)); rw [← ev_345] at z_346
                have ev_345 := ev_345.symm
                have zf_347 : zA T_78 x 1208 (rr_340.toInt).toNat = v_345.toInt := (zA_of h_337 rfl (by omega) ev_345)
                have m8_348 := MI_alive mk_84 (c := rr_340.toInt) (r := 3 * a1_z + 1) (k := i4_77_z) (gI_12_1201 hO_T_78.1 ha_x_L_79).2 (by omega) (by omega) (by omega) (by omega) (by omega)
                have hh_349 : rr_340.toInt = rr_329.toInt := by omega
                rw [hh_349] at m8_348 zf_347
                rw [zf_347] at m8_348
                have lg_350 := lenZ_le hO_T_78.1 ha_x_L_79 (rr_329.toInt)
                have dk_351 : dOK T_78 x (1000 * rr_329.toInt + v_345.toInt) := dOK_new (by omega) (by omega) (by omega) (by omega) lg_350
                refine lv_iadd X.1 X.2.1 dX12_tick_236 ?_
                refine lv_topi (fun v_352 ev_352 => ?_)
                have z_353 : v_352.toInt = (1000 * rr_329.toInt) + v_345.toInt := z_add ev_352 z_335 rfl (by omega) (by omega)
                refine r_iast X hw h_323 rfl (by rw [h_324]; exact z_ix z_328 (by omega) (by omega)) dX12_tick_237 (fun H locs hw => ?_)
                obtain ⟨S_354, eS_354⟩ : ∃ T, T = sA T_78 q_321 (upd (pA T_78 q_321) (Int32.toNatClampNeg (v_327)) (v_352)) := ⟨_, rfl⟩
                rw [← eS_354] at hw
                have hO_355 : Ok MTK S S_354 := hO_T_78.sA eS_354 h_323 (by decide +kernel) (uA_934 hO_T_78.1 h_323 (by omega) (by omega))
                have h_356 : pA S_354 q_321 (Int32.toNatClampNeg (v_327)) = v_352 := tA_sAs eS_354
                have t_357 : pR S_354 1236 x = some q_321 := tR_sA eS_354 h_322
                have t_359 : pR T_78 1236 x = some q_321 := by have h := t_357; rw [eS_354, pR_sA] at h; exact h
                have zs_358 : ∀ j, zA S_354 x 1236 j = if j = (((12 * (rr_56.toInt + v_63.toInt)) + i4_77_z)).toNat then ((1000 * rr_329.toInt) + v_345.toInt) else zA T_78 x 1236 j := by have h := zA_sAs eS_354 t_359 z_353; rw [z_nc z_328 (by omega)] at h; exact h
                have mi_360 : MIe S_354 x (-1) := drawn_MI hO_T_78.1 ha_x_L_79 (show Fr [10934] T_78 S_354 by rw [eS_354]; exact Fr_sA h_323 List.mem_cons_self) mk_84 zs_358 dk_351
                clear zs_358
                obtain ⟨x_361, ex_361⟩ : ∃ y : Int32, y = i4_77 + 1 := ⟨_, rfl⟩
                have z_362 : x_361.toInt = i4_77_z + 1 := z_add ex_361 hz_i4_77 ti_1 (by omega) (by omega)
                refine lv_iinc (v := x_361) (lv' := [(4, .int (x_361)), (3, .int (v_67)), (2, .int (rr_47)), (0, .ref x), (1, .int (a1))]) X.1 X.2.1 dX12_tick_238 hl (k := 0) rfl (by rw [ex_361]; rfl) (by decide) rfl (fun ls hl => ?_)
                refine lv_goto (tgt := 194) X.1 X.2.1 dX12_tick_241 (by decide) ?_
                have t_363 : At S_354 x 12 := tAt_sA eS_354 ha_x_L_79
                have zc_364 : zA S_354 x 1219 = zA T_32 x 1219 := (zA_sAn eS_354 (ex3 (gQ_12_1219 hO_T_78.1 ha_x_L_79)) h_323 rfl).trans zk_81
                have zc_365 : zA S_354 x 1237 = zA T_32 x 1237 := (zA_sAn eS_354 (ex3 (gQ_12_1237 hO_T_78.1 ha_x_L_79)) h_323 rfl).trans zk_83
                have t_366 : pI S_354 1201 x = v_1 := tI_sA eS_354 ik_86
                exact ih_L_76 _ (by omega) _ _ _ _ (x_361) (x_361.toInt) rfl hw rfl (by omega) t_363 hO_355 zc_364 zc_365 mi_360 t_366 (lv_sub hl [0, 1, 2, 3, 4] rfl)
            have t_367 : At S_73 x 12 := tAt_sA eS_73 ha_x_L_33
            have mi_368 : MIe S_73 x (-1) := MIe_sA mk_34 hO_T_32.1 ha_x_L_33 h_71 eS_73 (by decide +kernel)
            exact L_76 _ _ _ _ _ (0) (0) rfl hw ti_0 (by omega) t_367 hO_74 zc_80 zc_82 mi_368 t_85 (lv_sub hl [0, 1, 2, 3, 4] rfl)
          · have z_b_369 := trivial
            have k_370 : rr_47.toInt = 0 := z_eq rfl ti_0 c_52
            refine lv_iconst (v := 0) X.1 X.2.1 dX12_tick_169 (by decide) ?_
            rw [hQQ]
            exact ret_z X hw hr hlocks (Nat.le_of_ble_eq_true rfl) (Nat.le_of_ble_eq_true rfl) (by decide) ⟨hO_T_32, Or.inr ⟨⟨mk_34, iv_35⟩, rfl⟩⟩ dX12_tick_170
        · have z_b_371 := trivial
          have k_372 : v_42.toInt > 0 := z_nle rfl ti_0 c_44
          refine lv_aload_n X.1 X.2.1 dX12_tick_146 rfl (lv_at hl 0 rfl) ?_
          refine r_getR (g := 1215) X hw ha_x_L_33 rfl 15 h_39 (by decide) rfl inn_X12_tick_12 (by decide) (X.2.2.2.1 (.fieldLink RX12 46 "SilkMillModel" "stop" "[I") (by decide +kernel)) rfl (gv_1215 _ _) dX12_tick_147 ?_
          refine lv_iload_n X.1 X.2.1 dX12_tick_150 rfl (lv_at hl 1 rfl) ?_
          refine lv_dup2_11 X.1 X.2.1 dX12_tick_151 rfl rfl ?_
          refine r_iald X hw h_40 rfl (by rw [h_41]; exact z_ix hz_a1 (by omega) (by omega)) dX12_tick_152 ?_
          rw [ev_42]
          refine lv_iconst (v := 1) X.1 X.2.1 dX12_tick_153 (by decide) ?_
          refine lv_isub X.1 X.2.1 dX12_tick_154 ?_
          refine lv_topi (fun v_373 ev_373 => ?_)
          have z_374 : v_373.toInt = v_42.toInt - 1 := z_sub ev_373 rfl ti_1 (by omega) (by omega)
          refine r_iast X hw h_40 rfl (by rw [h_41]; exact z_ix hz_a1 (by omega) (by omega)) dX12_tick_155 (fun H locs hw => ?_)
          obtain ⟨S_375, eS_375⟩ : ∃ T, T = sA T_32 q_38 (upd (pA T_32 q_38) (Int32.toNatClampNeg (a1)) (v_373)) := ⟨_, rfl⟩
          rw [← eS_375] at hw
          have hO_376 : Ok MTK S S_375 := hO_T_32.sA eS_375 h_40 (by decide +kernel) (uA_514 hO_T_32.1 h_40)
          have h_377 : pA S_375 q_38 (Int32.toNatClampNeg (a1)) = v_373 := tA_sAs eS_375
          refine lv_iconst (v := 0) X.1 X.2.1 dX12_tick_156 (by decide) ?_
          have mi_378 : MIe S_375 x (-1) := MIe_sA mk_34 hO_T_32.1 ha_x_L_33 h_40 eS_375 (by decide +kernel)
          have zc_379 : zA S_375 x 1237 = zA T_32 x 1237 := zA_sAn eS_375 (ex3 (gQ_12_1237 hO_T_32.1 ha_x_L_33)) h_40 rfl
          rw [hQQ]
          exact ret_z X hw hr hlocks (Nat.le_of_ble_eq_true rfl) (Nat.le_of_ble_eq_true rfl) (by decide) ⟨hO_376, Or.inr ⟨⟨mi_378, (GR_eq zc_379 iv_35)⟩, rfl⟩⟩ dX12_tick_157
      obtain ⟨q_380, h_381, h_382, h_383⟩ := gQ_12_1215 hO_T_25.1 ha_x_L_26
      refine r_getR (g := 1215) X hw ha_x_L_26 rfl 15 h_381 (by decide) rfl inn_X12_tick_12 (by decide) (X.2.2.2.1 (.fieldLink RX12 46 "SilkMillModel" "stop" "[I") (by decide +kernel)) rfl (gv_1215 _ _) dX12_tick_88 ?_
      refine lv_iload_n X.1 X.2.1 dX12_tick_91 rfl (lv_at hl 1 rfl) ?_
      refine r_iald X hw h_382 rfl (by rw [h_383]; exact z_ix hz_a1 (by omega) (by omega)) dX12_tick_92 ?_
      refine lv_topi (fun v_384 ev_384 => ?_)
      have rg_385 := And.intro (z_lo v_384) (z_hi v_384)
      have ev_384 := ev_384.symm
      refine lv_if_ne (tgt := 137) X.1 X.2.1 dX12_tick_93 (by decide) (fun c_386 => ?_) (fun c_386 => ?_)
      · have z_b_387 := trivial
        have k_388 : v_384.toInt ≠ 0 := z_ne rfl ti_0 c_386
        exact L_31 _ _ _ _  hw ha_x_L_26 hO_T_25 mk_27 iv_28 ik_29 (lv_sub hl [0, 1] rfl)
      · have z_b_389 := trivial
        have k_390 : v_384.toInt = 0 := z_eq rfl ti_0 c_386
        refine lv_bipush (v := 12) X.1 X.2.1 dX12_tick_96 (by decide) ?_
        refine lv_iload_n X.1 X.2.1 dX12_tick_98 rfl (lv_at hl 1 rfl) ?_
        refine lv_imul X.1 X.2.1 dX12_tick_99 ?_
        refine lv_topi (fun v_391 ev_391 => ?_)
        have z_392 : v_391.toInt = 12 * a1_z := z_mul ev_391 ti_12 hz_a1 (by omega) (by omega)
        refine lv_istore_n (lv' := [(2, .int (v_391)), (0, .ref x), (1, .int (a1))]) X.1 X.2.1 dX12_tick_100 rfl hl (by decide) rfl (fun ls hl => ?_)
        have L_393 : ∀ (n : Nat) (T_395 : PS) (H : Heap) (locs : List Loc) (ls : Array Slot) (i2_394 : Int32) (i2_394_z : Int), ((48 - i2_394_z).toNat = n) → (Wd G cy (AS S s.heap.size) s.heap T_395 H locs) → (i2_394.toInt = i2_394_z) → (0 ≤ i2_394_z ∧ i2_394_z ≤ 48) → (At T_395 x 12) → (Ok MTK S T_395) → (MIe T_395 x (-1)) → (12 * a1_z ≤ i2_394_z) → (i2_394_z ≤ 12 * a1_z + 12) → (GR T_395 x) → (pI T_395 1201 x = v_1) → (lv_has ls 6 [(2, .int (i2_394)), (0, .ref x), (1, .int (a1))]) → W p l e ({ frames := 8, cells := 0, slots := 0, locals := 384 }) s m [.ref x, .int (a1)].toArray below meth c H locs 0 0 QQ (F0 m 101 ls []) := by
          intro n
          induction n using Nat.strongRecOn with
          | ind n ih_L_393 =>
          intro T_395 H locs ls i2_394 i2_394_z hn hw hz_i2_394 hr_i2_394 ha_x_L_396 hO_T_395 mk_397 iv_398 iv_399 iv_400 ik_401 hl
          have rg_402 : (-2147483648) ≤ i2_394_z ∧ i2_394_z ≤ 2147483647 := by rw [← hz_i2_394]; exact ⟨z_lo _, z_hi _⟩
          have pz_403 : (pI T_395 1201 x).toInt = v_1.toInt := (congrArg Int32.toInt ik_401).trans rfl
          refine lv_iload_n X.1 X.2.1 dX12_tick_101 rfl (lv_at hl 0 rfl) ?_
          refine lv_bipush (v := 12) X.1 X.2.1 dX12_tick_102 (by decide) ?_
          refine lv_iload_n X.1 X.2.1 dX12_tick_104 rfl (lv_at hl 2 rfl) ?_
          refine lv_imul X.1 X.2.1 dX12_tick_105 ?_
          refine lv_topi (fun v_404 ev_404 => ?_)
          have z_405 : v_404.toInt = 12 * a1_z := z_mul ev_404 ti_12 hz_a1 (by omega) (by omega)
          refine lv_aload_n X.1 X.2.1 dX12_tick_106 rfl (lv_at hl 1 rfl) ?_
          obtain ⟨q_406, h_407, h_408, h_409⟩ := gQ_12_1220 hO_T_395.1 ha_x_L_396
          refine r_getR (g := 1220) X hw ha_x_L_396 rfl 20 h_407 (by decide) rfl inn_X12_tick_12 (by decide) (X.2.2.2.1 (.fieldLink RX12 61 "SilkMillModel" "rules" "[I") (by decide +kernel)) rfl (gv_1220 _ _) dX12_tick_107 ?_
          refine lv_iload_n X.1 X.2.1 dX12_tick_110 rfl (lv_at hl 2 rfl) ?_
          refine r_iald X hw h_408 rfl (by rw [h_409]; exact z_ix hz_a1 (by omega) (by omega)) dX12_tick_111 ?_
          refine lv_topi (fun v_410 ev_410 => ?_)
          have z_411 := gE_614 hO_T_395.1 h_408 (Int32.toNatClampNeg (a1)); rw [← ev_410] at z_411
          have ev_410 := ev_410.symm
          refine lv_iadd X.1 X.2.1 dX12_tick_112 ?_
          refine lv_topi (fun v_412 ev_412 => ?_)
          have z_413 : v_412.toInt = (12 * a1_z) + v_410.toInt := z_add ev_412 z_405 rfl (by omega) (by omega)
          refine lv_icmp_ge (tgt := 137) X.1 X.2.1 dX12_tick_113 (by decide) (fun c_414 => ?_) (fun c_414 => ?_)
          · have z_b_415 := trivial
            have k_416 : i2_394_z ≥ ((12 * a1_z) + v_410.toInt) := z_le z_413 hz_i2_394 c_414
            exact L_31 _ _ _ _  hw ha_x_L_396 hO_T_395 mk_397 iv_400 ik_401 (lv_sub hl [1, 2] rfl)
          · have z_b_417 := trivial
            have k_418 : i2_394_z < ((12 * a1_z) + v_410.toInt) := z_nle z_413 hz_i2_394 c_414
            refine lv_aload_n X.1 X.2.1 dX12_tick_116 rfl (lv_at hl 1 rfl) ?_
            refine lv_iload_n X.1 X.2.1 dX12_tick_117 rfl (lv_at hl 2 rfl) ?_
            refine lv_iload_n X.1 X.2.1 dX12_tick_118 rfl (lv_at hl 0 rfl) ?_
            refine k_i (rm := { frames := 6, cells := 0, slots := 0, locals := 288 }) (av := [.ref x, .int (a1), .int (i2_394)]) X hw (va_runV (As := [.int (a1), .int (i2_394)]) (rest := []) (cfix X) (k_X12_holds l G cy κ T_395 _ x (a1) (a1_z) (i2_394) (i2_394_z) hO_T_395.1 ha_x_L_396 hz_a1 hz_i2_394 (by first | assumption | omega) (by first | assumption | omega) (by first | assumption | omega) (by first | assumption | omega) mk_397) (cwV 2 X.2.2.2.1 gX12_tick_X12_holds rfl rfl rfl (by decide +kernel) ⟨Nat.le_of_ble_eq_true rfl, Nat.le_of_ble_eq_true rfl⟩) (pre_V X hw _ ha_x_L_396 rfl (by decide) rfl) rfl rfl hl.1 rfl (lv_room (Nat.le_of_ble_eq_true rfl)) dX12_tick_119 ⟨Nat.le_of_ble_eq_true rfl, Nat.le_of_ble_eq_true rfl⟩) 0 0 (Nat.le_of_ble_eq_true rfl) (Nat.le_of_ble_eq_true rfl) (fun rr_419 S_420 H locs hp hw hfr hnw => ?_)
            obtain ⟨e2, hp⟩ := hp
            subst e2
            rcases hp with ⟨f_421, er_422⟩ | ⟨f_421, er_422⟩ <;> subst er_422
            · have z_b_423 := trivial
              refine lv_if_eq (tgt := 131) X.1 X.2.1 dX12_tick_122 (by decide) (fun c_424 => absurd c_424 (by decide)) (fun c_424 => ?_)
              refine lv_aload_n X.1 X.2.1 dX12_tick_125 rfl (lv_at hl 1 rfl) ?_
              refine lv_iload_n X.1 X.2.1 dX12_tick_126 rfl (lv_at hl 2 rfl) ?_
              refine lv_iload_n X.1 X.2.1 dX12_tick_127 rfl (lv_at hl 0 rfl) ?_
              refine k_v (rm := { frames := 7, cells := 0, slots := 0, locals := 336 }) (av := [.ref x, .int (a1), .int (i2_394)]) X hw (va_runV (As := [.int (a1), .int (i2_394)]) (rest := []) (cfix X) (k_X12_acts l G cy κ T_395 _ x (a1) (a1_z) (i2_394) (i2_394_z) hO_T_395.1 ha_x_L_396 hz_a1 hz_i2_394 (by first | assumption | omega) (by first | assumption | omega) (by first | assumption | omega) (by first | assumption | omega) mk_397) (cwV 2 X.2.2.2.1 gX12_tick_X12_acts rfl rfl rfl (by decide +kernel) ⟨Nat.le_of_ble_eq_true rfl, Nat.le_of_ble_eq_true rfl⟩) (pre_V X hw _ ha_x_L_396 rfl (by decide) rfl) rfl rfl hl.1 rfl (lv_room (Nat.le_of_ble_eq_true rfl)) dX12_tick_128 ⟨Nat.le_of_ble_eq_true rfl, Nat.le_of_ble_eq_true rfl⟩) 0 0 (Nat.le_of_ble_eq_true rfl) (Nat.le_of_ble_eq_true rfl) (fun S_426 H locs hp hw hfr hnw => ?_)
              obtain ⟨hk_427, hp⟩ := hp
              have hO_428 : Ok MTK S S_426 := hO_T_395.call hk_427 (by decide +kernel)
              obtain ⟨mi_429, gr_430⟩ := hp
              have gr_431 : GR S_426 x := gr_430 iv_400
              obtain ⟨x_432, ex_432⟩ : ∃ y : Int32, y = i2_394 + 1 := ⟨_, rfl⟩
              have z_433 : x_432.toInt = i2_394_z + 1 := z_add ex_432 hz_i2_394 ti_1 (by omega) (by omega)
              refine lv_iinc (v := x_432) (lv' := [(2, .int (x_432)), (0, .ref x), (1, .int (a1))]) X.1 X.2.1 dX12_tick_131 hl (k := 0) rfl (by rw [ex_432]; rfl) (by decide) rfl (fun ls hl => ?_)
              refine lv_goto (tgt := 101) X.1 X.2.1 dX12_tick_134 (by decide) ?_
              have t_434 : At S_426 x 12 := hk_427.fr.at ha_x_L_396
              have t_435 : pI S_426 1201 x = v_1 := hk_427.fr.I' (by decide +kernel) ha_x_L_396 ik_401
              exact ih_L_393 _ (by omega) _ _ _ _ (x_432) (x_432.toInt) rfl hw rfl (by omega) t_434 hO_428 mi_429 (by omega) (by omega) gr_431 t_435 (lv_sub hl [0, 1, 2] rfl)
            · have z_b_436 := trivial
              refine lv_if_eq (tgt := 131) X.1 X.2.1 dX12_tick_122 (by decide) (fun c_437 => ?_) (fun c_437 => absurd c_437 (by decide))
              obtain ⟨x_438, ex_438⟩ : ∃ y : Int32, y = i2_394 + 1 := ⟨_, rfl⟩
              have z_439 : x_438.toInt = i2_394_z + 1 := z_add ex_438 hz_i2_394 ti_1 (by omega) (by omega)
              refine lv_iinc (v := x_438) (lv' := [(2, .int (x_438)), (0, .ref x), (1, .int (a1))]) X.1 X.2.1 dX12_tick_131 hl (k := 0) rfl (by rw [ex_438]; rfl) (by decide) rfl (fun ls hl => ?_)
              refine lv_goto (tgt := 101) X.1 X.2.1 dX12_tick_134 (by decide) ?_
              exact ih_L_393 _ (by omega) _ _ _ _ (x_438) (x_438.toInt) rfl hw rfl (by omega) ha_x_L_396 hO_T_395 mk_397 (by omega) (by omega) iv_400 ik_401 (lv_sub hl [0, 1, 2] rfl)
        exact L_393 _ _ _ _ _ (v_391) ((12 * a1_z)) rfl hw z_392 (by omega) ha_x_L_26 hO_T_25 mk_27 (by omega) (by omega) iv_28 ik_29 (lv_sub hl [0, 1, 2] rfl)
    refine lv_iload_n X.1 X.2.1 dX12_tick_38 rfl (lv_at hl 1 rfl) ?_
    refine lv_iconst (v := 2) X.1 X.2.1 dX12_tick_39 (by decide) ?_
    refine k_i (rm := { frames := 1, cells := 0, slots := 0, locals := 48 }) (av := [.ref x, .int (a1), .int 2]) X hw (va_runV (As := [.int (a1), .int 2]) (rest := []) (cfix X) (k_X12_many2 l G cy κ T_17 _ x (a1) (a1_z) (2) (2) hO_T_17.1 ha_x_L_18 hz_a1 ti_2 (by first | assumption | omega) (by first | assumption | omega) (by first | assumption | omega) (by first | assumption | omega)) (cwV 2 X.2.2.2.1 gX12_tick_X12_many rfl rfl rfl (by decide +kernel) ⟨Nat.le_of_ble_eq_true rfl, Nat.le_of_ble_eq_true rfl⟩) (pre_V X hw _ ha_x_L_18 rfl (by decide) rfl) rfl rfl hl.1 rfl (lv_room (Nat.le_of_ble_eq_true rfl)) dX12_tick_40 ⟨Nat.le_of_ble_eq_true rfl, Nat.le_of_ble_eq_true rfl⟩) 0 0 (Nat.le_of_ble_eq_true rfl) (Nat.le_of_ble_eq_true rfl) (fun rr_440 S_441 H locs hp hw hfr hnw => ?_)
    obtain ⟨e2, hp⟩ := hp
    subst e2
    obtain ⟨f_442, f_443, f_444⟩ := hp
    refine lv_if_le (tgt := 87) X.1 X.2.1 dX12_tick_43 (by decide) (fun c_445 => ?_) (fun c_445 => ?_)
    · have z_b_446 := trivial
      have k_447 : rr_440.toInt ≤ 0 := z_le rfl ti_0 c_445
      exact L_24 _ _ _ _  hw ha_x_L_18 hO_T_17 mk_19 iv_20 ik_22 (lv_sub hl [0, 1] rfl)
    · have z_b_448 := trivial
      have k_449 : rr_440.toInt > 0 := z_nle rfl ti_0 c_445
      refine lv_aload_n X.1 X.2.1 dX12_tick_46 rfl (lv_at hl 0 rfl) ?_
      obtain ⟨q_450, h_451, h_452, h_453⟩ := gQ_12_1214 hO_T_17.1 ha_x_L_18
      refine r_getR (g := 1214) X hw ha_x_L_18 rfl 14 h_451 (by decide) rfl inn_X12_tick_12 (by decide) (X.2.2.2.1 (.fieldLink RX12 43 "SilkMillModel" "search" "[I") (by decide +kernel)) rfl (gv_1214 _ _) dX12_tick_47 ?_
      refine lv_iload_n X.1 X.2.1 dX12_tick_50 rfl (lv_at hl 1 rfl) ?_
      refine r_iald X hw h_452 rfl (by rw [h_453]; exact z_ix hz_a1 (by omega) (by omega)) dX12_tick_51 ?_
      refine lv_topi (fun v_454 ev_454 => ?_)
      have rg_455 := And.intro (z_lo v_454) (z_hi v_454)
      have ev_454 := ev_454.symm
      refine lv_aload_n X.1 X.2.1 dX12_tick_52 rfl (lv_at hl 0 rfl) ?_
      obtain ⟨q_456, h_457, h_458, h_459⟩ := gQ_12_1213 hO_T_17.1 ha_x_L_18
      refine r_getR (g := 1213) X hw ha_x_L_18 rfl 13 h_457 (by decide) rfl inn_X12_tick_12 (by decide) (X.2.2.2.1 (.fieldLink RX12 40 "SilkMillModel" "find" "[I") (by decide +kernel)) rfl (gv_1213 _ _) dX12_tick_53 ?_
      refine lv_iload_n X.1 X.2.1 dX12_tick_56 rfl (lv_at hl 1 rfl) ?_
      refine r_iald X hw h_458 rfl (by rw [h_459]; exact z_ix hz_a1 (by omega) (by omega)) dX12_tick_57 ?_
      refine lv_topi (fun v_460 ev_460 => ?_)
      have rg_461 := And.intro (z_lo v_460) (z_hi v_460)
      have ev_460 := ev_460.symm
      refine lv_icmp_ne (tgt := 87) X.1 X.2.1 dX12_tick_58 (by decide) (fun c_462 => ?_) (fun c_462 => ?_)
      · have z_b_463 := trivial
        have k_464 : v_454.toInt ≠ v_460.toInt := z_ne rfl rfl c_462
        exact L_24 _ _ _ _  hw ha_x_L_18 hO_T_17 mk_19 iv_20 ik_22 (lv_sub hl [0, 1] rfl)
      · have z_b_465 := trivial
        have k_466 : v_454.toInt = v_460.toInt := z_eq rfl rfl c_462
        refine lv_aload_n X.1 X.2.1 dX12_tick_61 rfl (lv_at hl 0 rfl) ?_
        refine r_getR (g := 1214) X hw ha_x_L_18 rfl 14 h_451 (by decide) rfl inn_X12_tick_12 (by decide) (X.2.2.2.1 (.fieldLink RX12 43 "SilkMillModel" "search" "[I") (by decide +kernel)) rfl (gv_1214 _ _) dX12_tick_62 ?_
        refine lv_iload_n X.1 X.2.1 dX12_tick_65 rfl (lv_at hl 1 rfl) ?_
        refine lv_iconst (v := 0) X.1 X.2.1 dX12_tick_66 (by decide) ?_
        refine r_iast X hw h_452 rfl (by rw [h_453]; exact z_ix hz_a1 (by omega) (by omega)) dX12_tick_67 (fun H locs hw => ?_)
        obtain ⟨S_467, eS_467⟩ : ∃ T, T = sA T_17 q_450 (upd (pA T_17 q_450) (Int32.toNatClampNeg (a1)) (0)) := ⟨_, rfl⟩
        rw [← eS_467] at hw
        have hO_468 : Ok MTK S S_467 := hO_T_17.sA eS_467 h_452 (by decide +kernel) (uA_494 hO_T_17.1 h_452)
        have h_469 : pA S_467 q_450 (Int32.toNatClampNeg (a1)) = 0 := tA_sAs eS_467
        refine lv_aload_n X.1 X.2.1 dX12_tick_68 rfl (lv_at hl 0 rfl) ?_
        refine lv_iload_n X.1 X.2.1 dX12_tick_69 rfl (lv_at hl 1 rfl) ?_
        refine lv_iconst (v := 0) X.1 X.2.1 dX12_tick_70 (by decide) ?_
        refine lv_aload_n X.1 X.2.1 dX12_tick_71 rfl (lv_at hl 0 rfl) ?_
        refine lv_iload_n X.1 X.2.1 dX12_tick_72 rfl (lv_at hl 1 rfl) ?_
        refine lv_iconst (v := 2) X.1 X.2.1 dX12_tick_73 (by decide) ?_
        refine lv_iconst (v := 0) X.1 X.2.1 dX12_tick_74 (by decide) ?_
        have t_470 : pI S_467 1201 x = v_1 := tI_sA eS_467 ik_22
        have pz_471 : (pI S_467 1201 x).toInt = v_1.toInt := (congrArg Int32.toInt t_470).trans rfl
        have zc_472 : zA S_467 x 1219 = zA T_17 x 1219 := zA_sAn eS_467 (ex3 (gQ_12_1219 hO_T_17.1 ha_x_L_18)) h_452 rfl
        have zz_473 := congrFun zc_472 ((3 * a1_z + 2).toNat)
        have t_474 : At S_467 x 12 := tAt_sA eS_467 ha_x_L_18
        have mi_475 : MIe S_467 x (-1) := MIe_sA mk_19 hO_T_17.1 ha_x_L_18 h_452 eS_467 (by decide +kernel)
        refine k_i (rm := { frames := 1, cells := 0, slots := 0, locals := 48 }) (av := [.ref x, .int (a1), .int 2, .int 0]) X hw (va_runV (As := [.int (a1), .int 2, .int 0]) (rest := [.int 0, .int (a1), .ref x]) (cfix X) (k_X12_goes l G cy κ S_467 _ x (a1) (a1_z) (2) (2) (0) (0) (-1) hO_468.1 t_474 hz_a1 ti_2 ti_0 (by first | assumption | omega) (by first | assumption | omega) (by first | assumption | omega) (by first | assumption | omega) (by first | assumption | omega) (by first | assumption | omega) mi_475) (cwV 3 X.2.2.2.1 gX12_tick_X12_goes rfl rfl rfl (by decide +kernel) ⟨Nat.le_of_ble_eq_true rfl, Nat.le_of_ble_eq_true rfl⟩) (pre_V X hw _ t_474 rfl (by decide) rfl) rfl rfl hl.1 rfl (lv_room (Nat.le_of_ble_eq_true rfl)) dX12_tick_75 ⟨Nat.le_of_ble_eq_true rfl, Nat.le_of_ble_eq_true rfl⟩) 0 0 (Nat.le_of_ble_eq_true rfl) (Nat.le_of_ble_eq_true rfl) (fun rr_476 S_477 H locs hp hw hfr hnw => ?_)
        obtain ⟨hk_478, hp⟩ := hp
        have hO_479 : Ok MTK S S_477 := hO_468.call hk_478 (by decide +kernel)
        obtain ⟨g_480, g_481, g_482, g_483, g_484, g_485, g_486, g_487⟩ := hp
        have t_488 : pI S_477 1201 x = v_1 := hk_478.fr.I' (by decide +kernel) t_474 t_470
        have pz_489 : (pI S_477 1201 x).toInt = v_1.toInt := (congrArg Int32.toInt t_488).trans rfl
        have zl_490 : zA S_477 x 1207 = zA S_467 x 1207 := zA_fr hk_478.fr t_474 (ex3 (gQ_12_1207 hO_468.1 t_474)) (by decide +kernel) (by decide +kernel)
        have zz_491 := congrFun zl_490 (rr_476.toInt).toNat
        have al_492 := ((MI_1 g_485 (c := rr_476.toInt) (by omega) (by omega)).2 (by omega)).2 (by omega) (by omega)
        have gi_493 := g_487 (3 * a1_z + 0).toNat; rw [if_neg (by omega)] at gi_493
        have m4_494 := g_485.2.2.2.1.2 (3 * a1_z + 0).toNat (by omega)
        refine lv_aload_n X.1 X.2.1 dX12_tick_78 rfl (lv_at hl 0 rfl) ?_
        refine lv_iload_n X.1 X.2.1 dX12_tick_79 rfl (lv_at hl 1 rfl) ?_
        refine lv_iconst (v := 0) X.1 X.2.1 dX12_tick_80 (by decide) ?_
        have t_495 : At S_477 x 12 := hk_478.fr.at t_474
        refine k_i (rm := { frames := 1, cells := 0, slots := 0, locals := 48 }) (av := [.ref x, .int (a1), .int 0]) X hw (va_runV (As := [.int (a1), .int 0]) (rest := [.int (rr_476), .int 0, .int (a1), .ref x]) (cfix X) (k_X12_many2 l G cy κ S_477 _ x (a1) (a1_z) (0) (0) hO_479.1 t_495 hz_a1 ti_0 (by first | assumption | omega) (by first | assumption | omega) (by first | assumption | omega) (by first | assumption | omega)) (cwV 2 X.2.2.2.1 gX12_tick_X12_many rfl rfl rfl (by decide +kernel) ⟨Nat.le_of_ble_eq_true rfl, Nat.le_of_ble_eq_true rfl⟩) (pre_V X hw _ t_495 rfl (by decide) rfl) rfl rfl hl.1 rfl (lv_room (Nat.le_of_ble_eq_true rfl)) dX12_tick_81 ⟨Nat.le_of_ble_eq_true rfl, Nat.le_of_ble_eq_true rfl⟩) 0 0 (Nat.le_of_ble_eq_true rfl) (Nat.le_of_ble_eq_true rfl) (fun rr_496 S_497 H locs hp hw hfr hnw => ?_)
        obtain ⟨e2, hp⟩ := hp
        subst e2
        obtain ⟨f_498, f_499, f_500⟩ := hp
        refine k_v (rm := { frames := 1, cells := 0, slots := 0, locals := 48 }) (av := [.ref x, .int (a1), .int 0, .int (rr_476), .int (rr_496)]) X hw (va_runV (As := [.int (a1), .int 0, .int (rr_476), .int (rr_496)]) (rest := []) (cfix X) (k_X12_comes l G cy κ S_477 _ x (a1) (a1_z) (0) (0) (rr_476) (rr_476.toInt) (rr_496) (rr_496.toInt) hO_479.1 t_495 hz_a1 ti_0 rfl rfl (by first | assumption | omega) (by first | assumption | omega) (by first | assumption | omega) (by first | assumption | omega) (by first | assumption | omega) (by first | assumption | omega) (by first | assumption | omega) (by first | assumption | omega) (by first | assumption | omega) (by first | assumption | omega) g_485 (by first | assumption | omega) (by first | assumption | omega)) (cwV 4 X.2.2.2.1 gX12_tick_X12_comes rfl rfl rfl (by decide +kernel) ⟨Nat.le_of_ble_eq_true rfl, Nat.le_of_ble_eq_true rfl⟩) (pre_V X hw _ t_495 rfl (by decide) rfl) rfl rfl hl.1 rfl (lv_room (Nat.le_of_ble_eq_true rfl)) dX12_tick_84 ⟨Nat.le_of_ble_eq_true rfl, Nat.le_of_ble_eq_true rfl⟩) 0 0 (Nat.le_of_ble_eq_true rfl) (Nat.le_of_ble_eq_true rfl) (fun S_502 H locs hp hw hfr hnw => ?_)
        obtain ⟨hk_503, hp⟩ := hp
        have hO_504 : Ok MTK S S_502 := hO_479.call hk_503 (by decide +kernel)
        obtain ⟨mi_505, cm_506, cs_507⟩ := hp
        have t_508 : At S_502 x 12 := hk_503.fr.at t_495
        have zc_509 : zA S_467 x 1237 = zA T_17 x 1237 := zA_sAn eS_467 (ex3 (gQ_12_1237 hO_T_17.1 ha_x_L_18)) h_452 rfl
        have zc_510 : zA S_477 x 1237 = zA T_17 x 1237 := (zA_fr hk_478.fr t_474 (ex3 (gQ_12_1237 hO_468.1 t_474)) (by decide +kernel) (by decide +kernel)).trans zc_509
        have zc_511 : zA S_502 x 1237 = zA T_17 x 1237 := (zA_fr hk_503.fr t_495 (ex3 (gQ_12_1237 hO_479.1 t_495)) (by decide +kernel) (by decide +kernel)).trans zc_510
        have t_512 : pI S_502 1201 x = v_1 := hk_503.fr.I' (by decide +kernel) t_495 t_488
        exact L_24 _ _ _ _  hw t_508 hO_504 mi_505 (GR_eq zc_511 iv_20) t_512 (lv_sub hl [0, 1] rfl)
  refine lv_aload_n X.1 X.2.1 dX12_tick_10 rfl (lv_at hl 0 rfl) ?_
  have t_513 : At S_13 x 12 := tAt_sA eS_13 ha_x
  obtain ⟨q_514, h_515, h_516, h_517⟩ := gQ_12_1214 hO_14.1 t_513
  refine r_getR (g := 1214) X hw t_513 rfl 14 h_515 (by decide) rfl inn_X12_tick_12 (by decide) (X.2.2.2.1 (.fieldLink RX12 43 "SilkMillModel" "search" "[I") (by decide +kernel)) rfl (gv_1214 _ _) dX12_tick_11 ?_
  refine lv_iload_n X.1 X.2.1 dX12_tick_14 rfl (lv_at hl 1 rfl) ?_
  refine lv_aload_n X.1 X.2.1 dX12_tick_15 rfl (lv_at hl 0 rfl) ?_
  refine lv_iload_n X.1 X.2.1 dX12_tick_16 rfl (lv_at hl 1 rfl) ?_
  refine lv_iconst (v := 2) X.1 X.2.1 dX12_tick_17 (by decide) ?_
  refine k_i (rm := { frames := 1, cells := 0, slots := 0, locals := 48 }) (av := [.ref x, .int (a1), .int 2]) X hw (va_runV (As := [.int (a1), .int 2]) (rest := [.int (a1), .ref q_514]) (cfix X) (k_X12_many2 l G cy κ S_13 _ x (a1) (a1_z) (2) (2) hO_14.1 t_513 hz_a1 ti_2 (by first | assumption | omega) (by first | assumption | omega) (by first | assumption | omega) (by first | assumption | omega)) (cwV 2 X.2.2.2.1 gX12_tick_X12_many rfl rfl rfl (by decide +kernel) ⟨Nat.le_of_ble_eq_true rfl, Nat.le_of_ble_eq_true rfl⟩) (pre_V X hw _ t_513 rfl (by decide) rfl) rfl rfl hl.1 rfl (lv_room (Nat.le_of_ble_eq_true rfl)) dX12_tick_18 ⟨Nat.le_of_ble_eq_true rfl, Nat.le_of_ble_eq_true rfl⟩) 0 0 (Nat.le_of_ble_eq_true rfl) (Nat.le_of_ble_eq_true rfl) (fun rr_518 S_519 H locs hp hw hfr hnw => ?_)
  obtain ⟨e2, hp⟩ := hp
  subst e2
  obtain ⟨f_520, f_521, f_522⟩ := hp
  refine lv_if_ne (tgt := 28) X.1 X.2.1 dX12_tick_21 (by decide) (fun c_523 => ?_) (fun c_523 => ?_)
  · have z_b_524 := trivial
    have k_525 : rr_518.toInt ≠ 0 := z_ne rfl ti_0 c_523
    refine lv_aload_n X.1 X.2.1 dX12_tick_28 rfl (lv_at hl 0 rfl) ?_
    refine r_getR (g := 1214) X hw t_513 rfl 14 h_515 (by decide) rfl inn_X12_tick_12 (by decide) (X.2.2.2.1 (.fieldLink RX12 43 "SilkMillModel" "search" "[I") (by decide +kernel)) rfl (gv_1214 _ _) dX12_tick_29 ?_
    refine lv_iload_n X.1 X.2.1 dX12_tick_32 rfl (lv_at hl 1 rfl) ?_
    refine r_iald X hw h_516 rfl (by rw [h_517]; exact z_ix hz_a1 (by omega) (by omega)) dX12_tick_33 ?_
    refine lv_topi (fun v_526 ev_526 => ?_)
    have rg_527 := And.intro (z_lo v_526) (z_hi v_526)
    have ev_526 := ev_526.symm
    refine lv_iconst (v := 1) X.1 X.2.1 dX12_tick_34 (by decide) ?_
    refine lv_iadd X.1 X.2.1 dX12_tick_35 ?_
    refine lv_topi (fun v_528 ev_528 => ?_)
    have rg_529 := And.intro (z_lo v_528) (z_hi v_528)
    refine r_iast X hw h_516 rfl (by rw [h_517]; exact z_ix hz_a1 (by omega) (by omega)) dX12_tick_36 (fun H locs hw => ?_)
    obtain ⟨S_530, eS_530⟩ : ∃ T, T = sA S_13 q_514 (upd (pA S_13 q_514) (Int32.toNatClampNeg (a1)) (v_528)) := ⟨_, rfl⟩
    rw [← eS_530] at hw
    have hO_531 : Ok MTK S S_530 := hO_14.sA eS_530 h_516 (by decide +kernel) (uA_494 hO_14.1 h_516)
    have h_532 : pA S_530 q_514 (Int32.toNatClampNeg (a1)) = v_528 := tA_sAs eS_530
    have t_533 : At S_530 x 12 := tAt_sA eS_530 t_513
    have mi_534 : MIe S_13 x (-1) := MIe_sA hp_2 hO.1 ha_x h_7 eS_13 (by decide +kernel)
    have mi_535 : MIe S_530 x (-1) := MIe_sA mi_534 hO_14.1 t_513 h_516 eS_530 (by decide +kernel)
    have zc_536 : zA S_13 x 1237 = zA S x 1237 := zA_sAn eS_13 (ex3 (gQ_12_1237 hO.1 ha_x)) h_7 rfl
    have zc_537 : zA S_530 x 1237 = zA S x 1237 := (zA_sAn eS_530 (ex3 (gQ_12_1237 hO_14.1 t_513)) h_516 rfl).trans zc_536
    have t_538 : pI S_530 1201 x = v_1 := tI_sA eS_530 t_21
    exact L_16 _ _ _ _  hw t_533 hO_531 mi_535 (GR_eq zc_537 hp_3) t_538 (lv_sub hl [0, 1] rfl)
  · have z_b_539 := trivial
    have k_540 : rr_518.toInt = 0 := z_eq rfl ti_0 c_523
    refine lv_iconst (v := 0) X.1 X.2.1 dX12_tick_24 (by decide) ?_
    refine lv_goto (tgt := 36) X.1 X.2.1 dX12_tick_25 (by decide) ?_
    refine r_iast X hw h_516 rfl (by rw [h_517]; exact z_ix hz_a1 (by omega) (by omega)) dX12_tick_36 (fun H locs hw => ?_)
    obtain ⟨S_541, eS_541⟩ : ∃ T, T = sA S_13 q_514 (upd (pA S_13 q_514) (Int32.toNatClampNeg (a1)) (0)) := ⟨_, rfl⟩
    rw [← eS_541] at hw
    have hO_542 : Ok MTK S S_541 := hO_14.sA eS_541 h_516 (by decide +kernel) (uA_494 hO_14.1 h_516)
    have h_543 : pA S_541 q_514 (Int32.toNatClampNeg (a1)) = 0 := tA_sAs eS_541
    have t_544 : At S_541 x 12 := tAt_sA eS_541 t_513
    have mi_545 : MIe S_13 x (-1) := MIe_sA hp_2 hO.1 ha_x h_7 eS_13 (by decide +kernel)
    have mi_546 : MIe S_541 x (-1) := MIe_sA mi_545 hO_14.1 t_513 h_516 eS_541 (by decide +kernel)
    have zc_547 : zA S_13 x 1237 = zA S x 1237 := zA_sAn eS_13 (ex3 (gQ_12_1237 hO.1 ha_x)) h_7 rfl
    have zc_548 : zA S_541 x 1237 = zA S x 1237 := (zA_sAn eS_541 (ex3 (gQ_12_1237 hO_14.1 t_513)) h_516 rfl).trans zc_547
    have t_549 : pI S_541 1201 x = v_1 := tI_sA eS_541 t_21
    exact L_16 _ _ _ _  hw t_544 hO_542 mi_546 (GR_eq zc_548 hp_3) t_549 (lv_sub hl [0, 1] rfl)
