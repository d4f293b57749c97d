set_option maxRecDepth 20000 in
theorem ggX12_tick_X12_many : GoodIn wsX12_tick wsX12_many := goodIn_h _ [17, 0, 90, 0, 0, 0, 0, 0, 0, 0, 0, 0, 0, 0, 0, 0, 0, 0, 0, 0, 0, 0, 0, 0, 0, 0, 0, 0, 0, 0, 0, 0, 0, 0, 0, 0, 0, 0, 0, 0, 0, 0, 0, 0, 0, 0, 0, 0, 0, 0, 0, 0, 0, 0, 0, 0, 0, 0, 0, 0, 0, 0, 0, 0, 0, 0, 0, 0] [0, 1, 2, 3, 4, 5, 6, 7, 8, 9, 10, 11, 12, 13, 14, 15, 16, 17, 18, 19, 20, 21, 22, 23, 24, 25, 26, 27, 28, 29, 30, 31, 32, 33, 34, 35, 36, 37, 38, 39, 40, 41, 42, 43, 44, 45, 46, 47, 48, 49, 50, 51, 52, 53, 54, 55, 56, 57, 58, 59, 60, 61, 62, 63, 64, 65, 66, 67] (by decide +kernel) (by decide +kernel)
set_option maxRecDepth 20000 in
theorem gX12_tick_X12_many : GoodIn wsX12_tick (wsV RX12 204 RX12 yX12_many wsX12_many) := goodIn_app (goodIn_of _ (by decide +kernel)) ggX12_tick_X12_many
set_option maxRecDepth 20000 in
theorem ggX12_tick_X12_goes : GoodIn wsX12_tick wsX12_goes := goodIn_h _ [18, 3, 0, 85, 0, 0, 0, 0, 0, 0, 0, 0, 0, 0, 0, 0, 0, 0, 0, 0, 0, 0, 0, 0, 0, 0, 0, 0, 0, 0, 0, 0, 0, 0, 0, 0, 0, 0, 0, 0, 0, 0, 0, 0, 0, 0, 0, 0, 0, 0, 0, 0, 0, 0, 0, 0, 0, 0, 0, 0, 0, 0, 0, 0, 0, 0, 0, 0, 0] [1, 2, 0, 3, 4, 5, 6, 7, 8, 9, 10, 11, 12, 13, 14, 15, 16, 17, 18, 19, 20, 21, 22, 23, 24, 25, 26, 27, 28, 29, 30, 31, 32, 33, 34, 35, 36, 37, 38, 39, 40, 41, 42, 43, 44, 45, 46, 47, 48, 49, 50, 51, 52, 53, 54, 55, 56, 57, 58, 59, 60, 61, 62, 63, 64, 65, 66, 67, 68] (by decide +kernel) (by decide +kernel)
set_option maxRecDepth 20000 in
theorem gX12_tick_X12_goes : GoodIn wsX12_tick (wsV RX12 320 RX12 yX12_goes wsX12_goes) := goodIn_app (goodIn_of _ (by decide +kernel)) ggX12_tick_X12_goes
set_option maxRecDepth 20000 in
theorem ggX12_tick_X12_comes : GoodIn wsX12_tick wsX12_comes := goodIn_h _ [11, 6, 4, 3, 0, 80, 0, 0, 0, 0, 0, 0, 0, 0, 0, 0, 0, 0, 0, 0, 0, 0, 0, 0, 0, 0, 0, 0, 0, 0, 0, 0, 0, 0, 0, 0, 0, 0, 0, 0, 0, 0, 0, 0, 0, 0, 0, 0, 0, 0, 0, 0, 0, 0, 0, 0, 0, 0, 0, 0, 0, 0, 0, 0, 0, 0, 0, 0, 0, 0, 0] [3, 1, 2, 0, 4, 5, 6, 7, 8, 9, 10, 11, 12, 13, 14, 15, 16, 17, 18, 19, 20, 21, 22, 23, 24, 25, 26, 27, 28, 29, 30, 31, 32, 33, 34, 35, 36, 37, 38, 39, 40, 41, 42, 43, 44, 45, 46, 47, 48, 49, 50, 51, 52, 53, 54, 55, 56, 57, 58, 59, 60, 61, 62, 63, 64, 65, 66, 67, 68, 69, 70] (by decide +kernel) (by decide +kernel)
set_option maxRecDepth 20000 in
theorem gX12_tick_X12_comes : GoodIn wsX12_tick (wsV RX12 207 RX12 yX12_comes wsX12_comes) := goodIn_app (goodIn_of _ (by decide +kernel)) ggX12_tick_X12_comes
set_option maxRecDepth 20000 in
theorem ggX12_tick_X12_holds : GoodIn wsX12_tick wsX12_holds := goodIn_h _ [6, 2, 3, 0, 0, 0, 0, 0, 4, 8, 0, 0, 0, 0, 0, 0, 0, 0, 0, 0, 0, 0, 0, 0, 0, 0, 0, 0, 0, 0, 0, 0, 0, 0, 0, 0, 0, 0, 0, 0, 0, 0, 0, 0, 0, 0, 0, 0, 0, 0, 36, 0, 0, 0, 0, 0, 0, 0, 0, 0, 0, 0, 0, 0, 0, 0, 0, 0, 0, 0, 0, 0, 0, 0, 0, 0, 0, 0, 0, 0, 0, 0, 0, 0, 0, 0, 0, 0, 0, 0, 0, 0, 0, 0, 0, 0, 0, 0, 0, 0, 0, 0, 0, 0, 0, 0, 0, 0, 0, 0, 0, 0, 0, 0, 0, 0] [9, 10, 11, 12, 13, 14, 15, 16, 5, 17, 0, 1, 18, 19, 20, 21, 22, 2, 3, 4, 6, 7, 23, 24, 25, 26, 8, 27, 28, 29, 30, 31, 32, 33, 34, 35, 36, 37, 38, 39, 40, 41, 42, 43, 44, 45, 46, 47, 48, 49, 50, 51, 52, 53, 54, 55, 56, 57, 58, 59, 60, 61, 62, 63, 64, 65, 66, 67, 68, 69, 70, 71, 72, 73, 74, 75, 76, 77, 78, 79, 80, 81, 82, 83, 84, 85, 86, 87, 88, 89, 90, 91, 92, 93, 94, 95, 96, 97, 98, 99, 100, 101, 102, 103, 104, 105, 106, 107, 108, 109, 110, 111, 112, 113, 114, 115] (by decide +kernel) (by decide +kernel)
set_option maxRecDepth 20000 in
theorem gX12_tick_X12_holds : GoodIn wsX12_tick (wsV RX12 323 RX12 yX12_holds wsX12_holds) := goodIn_app (goodIn_of _ (by decide +kernel)) ggX12_tick_X12_holds
set_option maxRecDepth 20000 in
theorem ggX12_tick_X12_acts : GoodIn wsX12_tick wsX12_acts := goodIn_h _ [2, 1, 1, 0, 0, 0, 1, 1, 0, 0, 0, 0, 0, 0, 0, 0, 0, 0, 0, 0, 0, 0, 0, 12, 4, 0, 0, 0, 0, 0, 0, 0, 0, 0, 0, 0, 0, 0, 0, 0, 0, 0, 0, 0, 0, 0, 0, 0, 0, 0, 0, 3, 0, 0, 0, 0, 0, 0, 0, 0, 0, 0, 0, 0, 0, 0, 0, 0, 0, 0, 0, 0, 0, 0, 0, 0, 0, 0, 0, 5, 0, 0, 0, 0, 0, 0, 0, 0, 0, 0, 0, 0, 0, 0, 0, 0, 0, 0, 0, 0, 0, 0, 0, 0, 0, 0, 0, 0, 0, 0, 0, 0, 0, 0, 0, 0, 0, 0, 0, 0, 0, 0, 0, 0, 0, 0, 0, 0, 0, 0, 0, 0, 0, 0, 0, 0, 0, 0, 0, 0, 0, 0, 0, 0, 0] [51, 52, 0, 1, 6, 53, 7, 8, 9, 10, 11, 12, 13, 14, 15, 16, 17, 18, 19, 20, 21, 22, 47, 48, 49, 50, 5, 24, 25, 26, 27, 28, 29, 30, 31, 32, 33, 34, 35, 36, 37, 38, 39, 40, 41, 42, 43, 44, 45, 46, 54, 55, 56, 57, 2, 58, 59, 60, 3, 4, 61, 62, 23, 63, 64, 65, 66, 67, 68, 69, 70, 71, 72, 73, 74, 75, 76, 77, 78, 79, 80, 81, 82, 83, 84, 85, 86, 87, 88, 89, 90, 91, 92, 93, 94, 95, 96, 97, 98, 99, 100, 101, 102, 103, 104, 105, 106, 107, 108, 109, 110, 111, 112, 113, 114, 115, 116, 117, 118, 119, 120, 121, 122, 123, 124, 125, 126, 127, 128, 129, 130, 131, 132, 133, 134, 135, 136, 137, 138, 139, 140, 141, 142, 143, 144] (by decide +kernel) (by decide +kernel)
set_option maxRecDepth 20000 in
theorem gX12_tick_X12_acts : GoodIn wsX12_tick (wsV RX12 326 RX12 yX12_acts wsX12_acts) := goodIn_app (goodIn_of _ (by decide +kernel)) ggX12_tick_X12_acts
set_option maxRecDepth 20000 in
theorem ggX12_tick_X12_growing : GoodIn wsX12_tick wsX12_growing := goodIn_h _ [95] [0] (by decide +kernel) (by decide +kernel)
set_option maxRecDepth 20000 in
theorem gX12_tick_X12_growing : GoodIn wsX12_tick (wsV RX12 296 RX12 yX12_growing wsX12_growing) := goodIn_app (goodIn_of _ (by decide +kernel)) ggX12_tick_X12_growing
set_option maxRecDepth 20000 in
theorem ggX12_tick_X12_at : GoodIn wsX12_tick wsX12_at := goodIn_h _ [23, 25, 59, 0, 0, 0, 0, 0, 0, 0, 0, 0, 0, 0, 0, 0, 0, 0, 0, 0, 0, 0, 0, 0, 0, 0, 0, 0, 0, 0, 0, 0, 0, 0, 0, 0, 0, 0, 0, 0, 0, 0, 0, 0, 0, 0, 0, 0, 0, 0, 0, 0, 0, 0, 0, 0, 0, 0, 0, 0, 0, 0, 0, 0, 0, 0, 0, 0] [1, 0, 2, 3, 4, 5, 6, 7, 8, 9, 10, 11, 12, 13, 14, 15, 16, 17, 18, 19, 20, 21, 22, 23, 24, 25, 26, 27, 28, 29, 30, 31, 32, 33, 34, 35, 36, 37, 38, 39, 40, 41, 42, 43, 44, 45, 46, 47, 48, 49, 50, 51, 52, 53, 54, 55, 56, 57, 58, 59, 60, 61, 62, 63, 64, 65, 66, 67] (by decide +kernel) (by decide +kernel)
set_option maxRecDepth 20000 in
theorem gX12_tick_X12_at : GoodIn wsX12_tick (wsV RX12 308 RX12 yX12_at wsX12_at) := goodIn_app (goodIn_of _ (by decide +kernel)) ggX12_tick_X12_at
set_option maxRecDepth 20000 in
theorem ggX12_tick_X12_lengthOf : GoodIn wsX12_tick wsX12_lengthOf := goodIn_h _ [16, 37, 2, 0, 0, 0, 0, 0, 0, 3, 0, 40, 0, 0, 0, 0, 0, 0, 0, 0, 0, 0, 0, 0, 0, 0, 0, 0, 0, 0, 0, 0, 0, 0, 0, 0, 0, 0, 0, 0, 0, 0, 0, 0, 0, 0, 0, 0, 0, 0, 0, 0, 0, 0, 0, 0, 0, 0, 0, 0, 0, 0, 0, 0, 0, 0, 0, 0, 0, 0, 0, 0, 0, 0, 0, 0, 0] [9, 10, 1, 2, 3, 0, 4, 5, 6, 7, 8, 11, 12, 13, 14, 15, 16, 17, 18, 19, 20, 21, 22, 23, 24, 25, 26, 27, 28, 29, 30, 31, 32, 33, 34, 35, 36, 37, 38, 39, 40, 41, 42, 43, 44, 45, 46, 47, 48, 49, 50, 51, 52, 53, 54, 55, 56, 57, 58, 59, 60, 61, 62, 63, 64, 65, 66, 67, 68, 69, 70, 71, 72, 73, 74, 75, 76] (by decide +kernel) (by decide +kernel)
set_option maxRecDepth 20000 in
theorem gX12_tick_X12_lengthOf : GoodIn wsX12_tick (wsV RX12 180 RX12 yX12_lengthOf wsX12_lengthOf) := goodIn_app (goodIn_of _ (by decide +kernel)) ggX12_tick_X12_lengthOf
set_option maxRecDepth 20000 in
theorem ggX12_tick_X12_breaks : GoodIn wsX12_tick wsX12_breaks := goodIn_h _ [16, 37, 2, 0, 0, 0, 0, 0, 0, 43, 0, 0, 0, 0, 0, 0, 0, 0, 0, 0, 0, 0, 0, 0, 0, 0, 0, 0, 0, 0, 0, 0, 0, 0, 0, 0, 0, 0, 0, 0, 0, 0, 0, 0, 0, 0, 0, 0, 0, 0, 0, 0, 0, 0, 0, 0, 0, 0, 0, 0, 0, 0, 0, 0, 0, 0, 0, 0, 0, 0, 0, 0, 0, 0, 0, 0, 0] [9, 1, 10, 2, 3, 0, 4, 5, 6, 7, 8, 11, 12, 13, 14, 15, 16, 17, 18, 19, 20, 21, 22, 23, 24, 25, 26, 27, 28, 29, 30, 31, 32, 33, 34, 35, 36, 37, 38, 39, 40, 41, 42, 43, 44, 45, 46, 47, 48, 49, 50, 51, 52, 53, 54, 55, 56, 57, 58, 59, 60, 61, 62, 63, 64, 65, 66, 67, 68, 69, 70, 71, 72, 73, 74, 75, 76] (by decide +kernel) (by decide +kernel)
set_option maxRecDepth 20000 in
theorem gX12_tick_X12_breaks : GoodIn wsX12_tick (wsV RX12 194 RX12 yX12_breaks wsX12_breaks) := goodIn_app (goodIn_of _ (by decide +kernel)) ggX12_tick_X12_breaks
set_option maxRecDepth 20000 in
theorem ggX12_tick_X12_cuts : GoodIn wsX12_tick wsX12_cuts := goodIn_h _ [6, 0, 0, 7, 24, 8, 0, 0, 0, 0, 0, 0, 0, 0, 0, 0, 0, 0, 0, 0, 0, 0, 0, 0, 13, 0, 0, 0, 0, 0, 0, 0, 0, 0, 0, 0, 0, 0, 0, 0, 0, 0, 0, 0, 0, 0, 5, 0, 0, 0, 0, 0, 0, 0, 0, 0, 0, 0, 0, 0, 0, 0, 0, 0, 0, 0, 0, 0, 0, 0, 0, 0, 0, 0, 0, 0, 0, 0, 0, 0, 0, 0, 0, 0, 0, 0, 0, 0, 0, 0, 0, 0, 0, 0, 0, 0, 0, 0, 0, 0, 0, 0, 0, 0, 0, 0, 0, 0, 0, 0, 0, 0] [24, 0, 25, 26, 27, 1, 2, 28, 29, 4, 30, 31, 32, 33, 34, 35, 36, 3, 37, 38, 39, 40, 41, 42, 43, 44, 45, 5, 6, 7, 8, 9, 10, 11, 12, 13, 14, 15, 16, 17, 18, 19, 20, 21, 22, 23, 46, 47, 48, 49, 50, 51, 52, 53, 54, 55, 56, 57, 58, 59, 60, 61, 62, 63, 64, 65, 66, 67, 68, 69, 70, 71, 72, 73, 74, 75, 76, 77, 78, 79, 80, 81, 82, 83, 84, 85, 86, 87, 88, 89, 90, 91, 92, 93, 94, 95, 96, 97, 98, 99, 100, 101, 102, 103, 104, 105, 106, 107, 108, 109, 110, 111] (by decide +kernel) (by decide +kernel)
set_option maxRecDepth 20000 in
theorem gX12_tick_X12_cuts : GoodIn wsX12_tick (wsV RX12 305 RX12 yX12_cuts wsX12_cuts) := goodIn_app (goodIn_of _ (by decide +kernel)) ggX12_tick_X12_cuts
theorem dX12_tick_0 : decode cX12_tick 0 = .ok (.aload_n 0, 1) := by decide +kernel
theorem dX12_tick_1 : decode cX12_tick 1 = .ok (.getfield 52, 3) := by decide +kernel
theorem dX12_tick_4 : decode cX12_tick 4 = .ok (.iload_n 1, 1) := by decide +kernel
theorem dX12_tick_5 : decode cX12_tick 5 = .ok (.dup2, 1) := by decide +kernel
theorem dX12_tick_6 : decode cX12_tick 6 = .ok (.iaload, 1) := by decide +kernel
theorem dX12_tick_7 : decode cX12_tick 7 = .ok (.iconst 1, 1) := by decide +kernel
theorem dX12_tick_8 : decode cX12_tick 8 = .ok (.iadd, 1) := by decide +kernel
theorem dX12_tick_9 : decode cX12_tick 9 = .ok (.iastore, 1) := by decide +kernel
theorem dX12_tick_10 : decode cX12_tick 10 = .ok (.aload_n 0, 1) := by decide +kernel
theorem dX12_tick_11 : decode cX12_tick 11 = .ok (.getfield 43, 3) := by decide +kernel
theorem dX12_tick_14 : decode cX12_tick 14 = .ok (.iload_n 1, 1) := by decide +kernel
theorem dX12_tick_15 : decode cX12_tick 15 = .ok (.aload_n 0, 1) := by decide +kernel
theorem dX12_tick_16 : decode cX12_tick 16 = .ok (.iload_n 1, 1) := by decide +kernel
theorem dX12_tick_17 : decode cX12_tick 17 = .ok (.iconst 2, 1) := by decide +kernel
theorem dX12_tick_18 : decode cX12_tick 18 = .ok (.invokevirtual 204, 3) := by decide +kernel
theorem dX12_tick_21 : decode cX12_tick 21 = .ok (.ifCond .ne 7, 3) := by decide +kernel
theorem dX12_tick_24 : decode cX12_tick 24 = .ok (.iconst 0, 1) := by decide +kernel
theorem dX12_tick_25 : decode cX12_tick 25 = .ok (.goto 11, 3) := by decide +kernel
theorem dX12_tick_28 : decode cX12_tick 28 = .ok (.aload_n 0, 1) := by decide +kernel
theorem dX12_tick_29 : decode cX12_tick 29 = .ok (.getfield 43, 3) := by decide +kernel
theorem dX12_tick_32 : decode cX12_tick 32 = .ok (.iload_n 1, 1) := by decide +kernel
theorem dX12_tick_33 : decode cX12_tick 33 = .ok (.iaload, 1) := by decide +kernel
theorem dX12_tick_34 : decode cX12_tick 34 = .ok (.iconst 1, 1) := by decide +kernel
theorem dX12_tick_35 : decode cX12_tick 35 = .ok (.iadd, 1) := by decide +kernel
theorem dX12_tick_36 : decode cX12_tick 36 = .ok (.iastore, 1) := by decide +kernel
theorem dX12_tick_37 : decode cX12_tick 37 = .ok (.aload_n 0, 1) := by decide +kernel
theorem dX12_tick_38 : decode cX12_tick 38 = .ok (.iload_n 1, 1) := by decide +kernel
theorem dX12_tick_39 : decode cX12_tick 39 = .ok (.iconst 2, 1) := by decide +kernel
theorem dX12_tick_40 : decode cX12_tick 40 = .ok (.invokevirtual 204, 3) := by decide +kernel
theorem dX12_tick_43 : decode cX12_tick 43 = .ok (.ifCond .le 44, 3) := by decide +kernel
theorem dX12_tick_46 : decode cX12_tick 46 = .ok (.aload_n 0, 1) := by decide +kernel
theorem dX12_tick_47 : decode cX12_tick 47 = .ok (.getfield 43, 3) := by decide +kernel
theorem dX12_tick_50 : decode cX12_tick 50 = .ok (.iload_n 1, 1) := by decide +kernel
theorem dX12_tick_51 : decode cX12_tick 51 = .ok (.iaload, 1) := by decide +kernel
theorem dX12_tick_52 : decode cX12_tick 52 = .ok (.aload_n 0, 1) := by decide +kernel
theorem dX12_tick_53 : decode cX12_tick 53 = .ok (.getfield 40, 3) := by decide +kernel
theorem dX12_tick_56 : decode cX12_tick 56 = .ok (.iload_n 1, 1) := by decide +kernel
theorem dX12_tick_57 : decode cX12_tick 57 = .ok (.iaload, 1) := by decide +kernel
theorem dX12_tick_58 : decode cX12_tick 58 = .ok (.if_icmp .ne 29, 3) := by decide +kernel
theorem dX12_tick_61 : decode cX12_tick 61 = .ok (.aload_n 0, 1) := by decide +kernel
theorem dX12_tick_62 : decode cX12_tick 62 = .ok (.getfield 43, 3) := by decide +kernel
theorem dX12_tick_65 : decode cX12_tick 65 = .ok (.iload_n 1, 1) := by decide +kernel
theorem dX12_tick_66 : decode cX12_tick 66 = .ok (.iconst 0, 1) := by decide +kernel
theorem dX12_tick_67 : decode cX12_tick 67 = .ok (.iastore, 1) := by decide +kernel
theorem dX12_tick_68 : decode cX12_tick 68 = .ok (.aload_n 0, 1) := by decide +kernel
theorem dX12_tick_69 : decode cX12_tick 69 = .ok (.iload_n 1, 1) := by decide +kernel
theorem dX12_tick_70 : decode cX12_tick 70 = .ok (.iconst 0, 1) := by decide +kernel
theorem dX12_tick_71 : decode cX12_tick 71 = .ok (.aload_n 0, 1) := by decide +kernel
theorem dX12_tick_72 : decode cX12_tick 72 = .ok (.iload_n 1, 1) := by decide +kernel
theorem dX12_tick_73 : decode cX12_tick 73 = .ok (.iconst 2, 1) := by decide +kernel
theorem dX12_tick_74 : decode cX12_tick 74 = .ok (.iconst 0, 1) := by decide +kernel
theorem dX12_tick_75 : decode cX12_tick 75 = .ok (.invokevirtual 320, 3) := by decide +kernel
theorem dX12_tick_78 : decode cX12_tick 78 = .ok (.aload_n 0, 1) := by decide +kernel
theorem dX12_tick_79 : decode cX12_tick 79 = .ok (.iload_n 1, 1) := by decide +kernel
theorem dX12_tick_80 : decode cX12_tick 80 = .ok (.iconst 0, 1) := by decide +kernel
theorem dX12_tick_81 : decode cX12_tick 81 = .ok (.invokevirtual 204, 3) := by decide +kernel
theorem dX12_tick_84 : decode cX12_tick 84 = .ok (.invokevirtual 207, 3) := by decide +kernel
theorem dX12_tick_87 : decode cX12_tick 87 = .ok (.aload_n 0, 1) := by decide +kernel
theorem dX12_tick_88 : decode cX12_tick 88 = .ok (.getfield 46, 3) := by decide +kernel
theorem dX12_tick_91 : decode cX12_tick 91 = .ok (.iload_n 1, 1) := by decide +kernel
theorem dX12_tick_92 : decode cX12_tick 92 = .ok (.iaload, 1) := by decide +kernel
theorem dX12_tick_93 : decode cX12_tick 93 = .ok (.ifCond .ne 44, 3) := by decide +kernel
theorem dX12_tick_96 : decode cX12_tick 96 = .ok (.bipush 12, 2) := by decide +kernel
theorem dX12_tick_98 : decode cX12_tick 98 = .ok (.iload_n 1, 1) := by decide +kernel
theorem dX12_tick_99 : decode cX12_tick 99 = .ok (.imul, 1) := by decide +kernel
theorem dX12_tick_100 : decode cX12_tick 100 = .ok (.istore_n 2, 1) := by decide +kernel
theorem dX12_tick_101 : decode cX12_tick 101 = .ok (.iload_n 2, 1) := by decide +kernel
theorem dX12_tick_102 : decode cX12_tick 102 = .ok (.bipush 12, 2) := by decide +kernel
theorem dX12_tick_104 : decode cX12_tick 104 = .ok (.iload_n 1, 1) := by decide +kernel
theorem dX12_tick_105 : decode cX12_tick 105 = .ok (.imul, 1) := by decide +kernel
theorem dX12_tick_106 : decode cX12_tick 106 = .ok (.aload_n 0, 1) := by decide +kernel
theorem dX12_tick_107 : decode cX12_tick 107 = .ok (.getfield 61, 3) := by decide +kernel
theorem dX12_tick_110 : decode cX12_tick 110 = .ok (.iload_n 1, 1) := by decide +kernel
theorem dX12_tick_111 : decode cX12_tick 111 = .ok (.iaload, 1) := by decide +kernel
theorem dX12_tick_112 : decode cX12_tick 112 = .ok (.iadd, 1) := by decide +kernel
theorem dX12_tick_113 : decode cX12_tick 113 = .ok (.if_icmp .ge 24, 3) := by decide +kernel
theorem dX12_tick_116 : decode cX12_tick 116 = .ok (.aload_n 0, 1) := by decide +kernel
theorem dX12_tick_117 : decode cX12_tick 117 = .ok (.iload_n 1, 1) := by decide +kernel
theorem dX12_tick_118 : decode cX12_tick 118 = .ok (.iload_n 2, 1) := by decide +kernel
theorem dX12_tick_119 : decode cX12_tick 119 = .ok (.invokevirtual 323, 3) := by decide +kernel
theorem dX12_tick_122 : decode cX12_tick 122 = .ok (.ifCond .eq 9, 3) := by decide +kernel
theorem dX12_tick_125 : decode cX12_tick 125 = .ok (.aload_n 0, 1) := by decide +kernel
theorem dX12_tick_126 : decode cX12_tick 126 = .ok (.iload_n 1, 1) := by decide +kernel
theorem dX12_tick_127 : decode cX12_tick 127 = .ok (.iload_n 2, 1) := by decide +kernel
theorem dX12_tick_128 : decode cX12_tick 128 = .ok (.invokevirtual 326, 3) := by decide +kernel
theorem dX12_tick_131 : decode cX12_tick 131 = .ok (.iinc 2 1, 3) := by decide +kernel
theorem dX12_tick_134 : decode cX12_tick 134 = .ok (.goto (-33), 3) := by decide +kernel
theorem dX12_tick_137 : decode cX12_tick 137 = .ok (.aload_n 0, 1) := by decide +kernel
theorem dX12_tick_138 : decode cX12_tick 138 = .ok (.getfield 46, 3) := by decide +kernel
theorem dX12_tick_141 : decode cX12_tick 141 = .ok (.iload_n 1, 1) := by decide +kernel
theorem dX12_tick_142 : decode cX12_tick 142 = .ok (.iaload, 1) := by decide +kernel
theorem dX12_tick_143 : decode cX12_tick 143 = .ok (.ifCond .le 15, 3) := by decide +kernel
theorem dX12_tick_146 : decode cX12_tick 146 = .ok (.aload_n 0, 1) := by decide +kernel
theorem dX12_tick_147 : decode cX12_tick 147 = .ok (.getfield 46, 3) := by decide +kernel
theorem dX12_tick_150 : decode cX12_tick 150 = .ok (.iload_n 1, 1) := by decide +kernel
theorem dX12_tick_151 : decode cX12_tick 151 = .ok (.dup2, 1) := by decide +kernel
theorem dX12_tick_152 : decode cX12_tick 152 = .ok (.iaload, 1) := by decide +kernel
theorem dX12_tick_153 : decode cX12_tick 153 = .ok (.iconst 1, 1) := by decide +kernel
theorem dX12_tick_154 : decode cX12_tick 154 = .ok (.isub, 1) := by decide +kernel
theorem dX12_tick_155 : decode cX12_tick 155 = .ok (.iastore, 1) := by decide +kernel
theorem dX12_tick_156 : decode cX12_tick 156 = .ok (.iconst 0, 1) := by decide +kernel
theorem dX12_tick_157 : decode cX12_tick 157 = .ok (.ireturn, 1) := by decide +kernel
theorem dX12_tick_158 : decode cX12_tick 158 = .ok (.aload_n 0, 1) := by decide +kernel
theorem dX12_tick_159 : decode cX12_tick 159 = .ok (.iload_n 1, 1) := by decide +kernel
theorem dX12_tick_160 : decode cX12_tick 160 = .ok (.iconst 1, 1) := by decide +kernel
theorem dX12_tick_161 : decode cX12_tick 161 = .ok (.invokevirtual 204, 3) := by decide +kernel
theorem dX12_tick_164 : decode cX12_tick 164 = .ok (.istore_n 2, 1) := by decide +kernel
theorem dX12_tick_165 : decode cX12_tick 165 = .ok (.iload_n 2, 1) := by decide +kernel
theorem dX12_tick_166 : decode cX12_tick 166 = .ok (.ifCond .ne 5, 3) := by decide +kernel
theorem dX12_tick_169 : decode cX12_tick 169 = .ok (.iconst 0, 1) := by decide +kernel
theorem dX12_tick_170 : decode cX12_tick 170 = .ok (.ireturn, 1) := by decide +kernel
theorem dX12_tick_171 : decode cX12_tick 171 = .ok (.aload_n 0, 1) := by decide +kernel
theorem dX12_tick_172 : decode cX12_tick 172 = .ok (.iload_n 1, 1) := by decide +kernel
theorem dX12_tick_173 : decode cX12_tick 173 = .ok (.invokevirtual 296, 3) := by decide +kernel
theorem dX12_tick_176 : decode cX12_tick 176 = .ok (.aload_n 0, 1) := by decide +kernel
theorem dX12_tick_177 : decode cX12_tick 177 = .ok (.getfield 97, 3) := by decide +kernel
theorem dX12_tick_180 : decode cX12_tick 180 = .ok (.iload_n 1, 1) := by decide +kernel
theorem dX12_tick_181 : decode cX12_tick 181 = .ok (.iaload, 1) := by decide +kernel
theorem dX12_tick_182 : decode cX12_tick 182 = .ok (.iadd, 1) := by decide +kernel
theorem dX12_tick_183 : decode cX12_tick 183 = .ok (.istore_n 3, 1) := by decide +kernel
theorem dX12_tick_184 : decode cX12_tick 184 = .ok (.aload_n 0, 1) := by decide +kernel
theorem dX12_tick_185 : decode cX12_tick 185 = .ok (.getfield 90, 3) := by decide +kernel
theorem dX12_tick_188 : decode cX12_tick 188 = .ok (.iload_n 3, 1) := by decide +kernel
theorem dX12_tick_189 : decode cX12_tick 189 = .ok (.iload_n 2, 1) := by decide +kernel
theorem dX12_tick_190 : decode cX12_tick 190 = .ok (.iastore, 1) := by decide +kernel
theorem dX12_tick_191 : decode cX12_tick 191 = .ok (.iconst 0, 1) := by decide +kernel
theorem dX12_tick_192 : decode cX12_tick 192 = .ok (.istore 4, 2) := by decide +kernel
theorem dX12_tick_194 : decode cX12_tick 194 = .ok (.iload 4, 2) := by decide +kernel
theorem dX12_tick_196 : decode cX12_tick 196 = .ok (.iload_n 2, 1) := by decide +kernel
theorem dX12_tick_197 : decode cX12_tick 197 = .ok (.if_icmp .ge 47, 3) := by decide +kernel
theorem dX12_tick_200 : decode cX12_tick 200 = .ok (.aload_n 0, 1) := by decide +kernel
theorem dX12_tick_201 : decode cX12_tick 201 = .ok (.getfield 94, 3) := by decide +kernel
theorem dX12_tick_204 : decode cX12_tick 204 = .ok (.bipush 12, 2) := by decide +kernel
theorem dX12_tick_206 : decode cX12_tick 206 = .ok (.iload_n 3, 1) := by decide +kernel
theorem dX12_tick_207 : decode cX12_tick 207 = .ok (.imul, 1) := by decide +kernel
theorem dX12_tick_208 : decode cX12_tick 208 = .ok (.iload 4, 2) := by decide +kernel
theorem dX12_tick_210 : decode cX12_tick 210 = .ok (.iadd, 1) := by decide +kernel
theorem dX12_tick_211 : decode cX12_tick 211 = .ok (.sipush 1000, 3) := by decide +kernel
theorem dX12_tick_214 : decode cX12_tick 214 = .ok (.aload_n 0, 1) := by decide +kernel
theorem dX12_tick_215 : decode cX12_tick 215 = .ok (.iload_n 1, 1) := by decide +kernel
theorem dX12_tick_216 : decode cX12_tick 216 = .ok (.iconst 1, 1) := by decide +kernel
theorem dX12_tick_217 : decode cX12_tick 217 = .ok (.iload 4, 2) := by decide +kernel
theorem dX12_tick_219 : decode cX12_tick 219 = .ok (.invokevirtual 308, 3) := by decide +kernel
theorem dX12_tick_222 : decode cX12_tick 222 = .ok (.imul, 1) := by decide +kernel
theorem dX12_tick_223 : decode cX12_tick 223 = .ok (.aload_n 0, 1) := by decide +kernel
theorem dX12_tick_224 : decode cX12_tick 224 = .ok (.getfield 28, 3) := by decide +kernel
theorem dX12_tick_227 : decode cX12_tick 227 = .ok (.aload_n 0, 1) := by decide +kernel
theorem dX12_tick_228 : decode cX12_tick 228 = .ok (.iload_n 1, 1) := by decide +kernel
theorem dX12_tick_229 : decode cX12_tick 229 = .ok (.iconst 1, 1) := by decide +kernel
theorem dX12_tick_230 : decode cX12_tick 230 = .ok (.iload 4, 2) := by decide +kernel
theorem dX12_tick_232 : decode cX12_tick 232 = .ok (.invokevirtual 308, 3) := by decide +kernel
theorem dX12_tick_235 : decode cX12_tick 235 = .ok (.iaload, 1) := by decide +kernel
theorem dX12_tick_236 : decode cX12_tick 236 = .ok (.iadd, 1) := by decide +kernel
theorem dX12_tick_237 : decode cX12_tick 237 = .ok (.iastore, 1) := by decide +kernel
theorem dX12_tick_238 : decode cX12_tick 238 = .ok (.iinc 4 1, 3) := by decide +kernel
theorem dX12_tick_241 : decode cX12_tick 241 = .ok (.goto (-47), 3) := by decide +kernel
theorem dX12_tick_244 : decode cX12_tick 244 = .ok (.aload_n 0, 1) := by decide +kernel
theorem dX12_tick_245 : decode cX12_tick 245 = .ok (.getfield 97, 3) := by decide +kernel
theorem dX12_tick_248 : decode cX12_tick 248 = .ok (.iload_n 1, 1) := by decide +kernel
theorem dX12_tick_249 : decode cX12_tick 249 = .ok (.dup2, 1) := by decide +kernel
theorem dX12_tick_250 : decode cX12_tick 250 = .ok (.iaload, 1) := by decide +kernel
theorem dX12_tick_251 : decode cX12_tick 251 = .ok (.iconst 1, 1) := by decide +kernel
theorem dX12_tick_252 : decode cX12_tick 252 = .ok (.iadd, 1) := by decide +kernel
theorem dX12_tick_253 : decode cX12_tick 253 = .ok (.iastore, 1) := by decide +kernel
theorem dX12_tick_254 : decode cX12_tick 254 = .ok (.aload_n 0, 1) := by decide +kernel
theorem dX12_tick_255 : decode cX12_tick 255 = .ok (.getfield 49, 3) := by decide +kernel
theorem dX12_tick_258 : decode cX12_tick 258 = .ok (.iload_n 1, 1) := by decide +kernel
theorem dX12_tick_259 : decode cX12_tick 259 = .ok (.dup2, 1) := by decide +kernel
theorem dX12_tick_260 : decode cX12_tick 260 = .ok (.iaload, 1) := by decide +kernel
theorem dX12_tick_261 : decode cX12_tick 261 = .ok (.iconst 1, 1) := by decide +kernel
theorem dX12_tick_262 : decode cX12_tick 262 = .ok (.iadd, 1) := by decide +kernel
theorem dX12_tick_263 : decode cX12_tick 263 = .ok (.iastore, 1) := by decide +kernel
theorem dX12_tick_264 : decode cX12_tick 264 = .ok (.iconst 0, 1) := by decide +kernel
theorem dX12_tick_265 : decode cX12_tick 265 = .ok (.istore 4, 2) := by decide +kernel
theorem dX12_tick_267 : decode cX12_tick 267 = .ok (.iload 4, 2) := by decide +kernel
theorem dX12_tick_269 : decode cX12_tick 269 = .ok (.aload_n 0, 1) := by decide +kernel
theorem dX12_tick_270 : decode cX12_tick 270 = .ok (.iload_n 1, 1) := by decide +kernel
theorem dX12_tick_271 : decode cX12_tick 271 = .ok (.iconst 1, 1) := by decide +kernel
theorem dX12_tick_272 : decode cX12_tick 272 = .ok (.invokevirtual 204, 3) := by decide +kernel
theorem dX12_tick_275 : decode cX12_tick 275 = .ok (.if_icmp .ge 104, 3) := by decide +kernel
theorem dX12_tick_278 : decode cX12_tick 278 = .ok (.aload_n 0, 1) := by decide +kernel
theorem dX12_tick_279 : decode cX12_tick 279 = .ok (.iload_n 1, 1) := by decide +kernel
theorem dX12_tick_280 : decode cX12_tick 280 = .ok (.iconst 1, 1) := by decide +kernel
theorem dX12_tick_281 : decode cX12_tick 281 = .ok (.iload 4, 2) := by decide +kernel
theorem dX12_tick_283 : decode cX12_tick 283 = .ok (.invokevirtual 308, 3) := by decide +kernel
theorem dX12_tick_286 : decode cX12_tick 286 = .ok (.istore 5, 2) := by decide +kernel
theorem dX12_tick_288 : decode cX12_tick 288 = .ok (.aload_n 0, 1) := by decide +kernel
theorem dX12_tick_289 : decode cX12_tick 289 = .ok (.getfield 28, 3) := by decide +kernel
theorem dX12_tick_292 : decode cX12_tick 292 = .ok (.iload 5, 2) := by decide +kernel
theorem dX12_tick_294 : decode cX12_tick 294 = .ok (.dup2, 1) := by decide +kernel
theorem dX12_tick_295 : decode cX12_tick 295 = .ok (.iaload, 1) := by decide +kernel
theorem dX12_tick_296 : decode cX12_tick 296 = .ok (.iconst 1, 1) := by decide +kernel
theorem dX12_tick_297 : decode cX12_tick 297 = .ok (.iadd, 1) := by decide +kernel
theorem dX12_tick_298 : decode cX12_tick 298 = .ok (.iastore, 1) := by decide +kernel
theorem dX12_tick_299 : decode cX12_tick 299 = .ok (.aload_n 0, 1) := by decide +kernel
theorem dX12_tick_300 : decode cX12_tick 300 = .ok (.getfield 28, 3) := by decide +kernel
theorem dX12_tick_303 : decode cX12_tick 303 = .ok (.iload 5, 2) := by decide +kernel
theorem dX12_tick_305 : decode cX12_tick 305 = .ok (.iaload, 1) := by decide +kernel
theorem dX12_tick_306 : decode cX12_tick 306 = .ok (.aload_n 0, 1) := by decide +kernel
theorem dX12_tick_307 : decode cX12_tick 307 = .ok (.iload 5, 2) := by decide +kernel
theorem dX12_tick_309 : decode cX12_tick 309 = .ok (.invokevirtual 180, 3) := by decide +kernel
theorem dX12_tick_312 : decode cX12_tick 312 = .ok (.if_icmp .ne 20, 3) := by decide +kernel
theorem dX12_tick_315 : decode cX12_tick 315 = .ok (.aload_n 0, 1) := by decide +kernel
theorem dX12_tick_316 : decode cX12_tick 316 = .ok (.getfield 25, 3) := by decide +kernel
theorem dX12_tick_319 : decode cX12_tick 319 = .ok (.aload_n 0, 1) := by decide +kernel
theorem dX12_tick_320 : decode cX12_tick 320 = .ok (.iload_n 1, 1) := by decide +kernel
theorem dX12_tick_321 : decode cX12_tick 321 = .ok (.iconst 1, 1) := by decide +kernel
theorem dX12_tick_322 : decode cX12_tick 322 = .ok (.iload 4, 2) := by decide +kernel
theorem dX12_tick_324 : decode cX12_tick 324 = .ok (.invokevirtual 320, 3) := by decide +kernel
theorem dX12_tick_327 : decode cX12_tick 327 = .ok (.iconst 4, 1) := by decide +kernel
theorem dX12_tick_328 : decode cX12_tick 328 = .ok (.iastore, 1) := by decide +kernel
theorem dX12_tick_329 : decode cX12_tick 329 = .ok (.goto 47, 3) := by decide +kernel
theorem dX12_tick_332 : decode cX12_tick 332 = .ok (.aload_n 0, 1) := by decide +kernel
theorem dX12_tick_333 : decode cX12_tick 333 = .ok (.iload 5, 2) := by decide +kernel
theorem dX12_tick_335 : decode cX12_tick 335 = .ok (.aload_n 0, 1) := by decide +kernel
theorem dX12_tick_336 : decode cX12_tick 336 = .ok (.getfield 28, 3) := by decide +kernel
theorem dX12_tick_339 : decode cX12_tick 339 = .ok (.iload 5, 2) := by decide +kernel
theorem dX12_tick_341 : decode cX12_tick 341 = .ok (.iaload, 1) := by decide +kernel
theorem dX12_tick_342 : decode cX12_tick 342 = .ok (.iconst 1, 1) := by decide +kernel
theorem dX12_tick_343 : decode cX12_tick 343 = .ok (.isub, 1) := by decide +kernel
theorem dX12_tick_344 : decode cX12_tick 344 = .ok (.invokevirtual 194, 3) := by decide +kernel
theorem dX12_tick_347 : decode cX12_tick 347 = .ok (.ifCond .eq 26, 3) := by decide +kernel
theorem dX12_tick_350 : decode cX12_tick 350 = .ok (.aload_n 0, 1) := by decide +kernel
theorem dX12_tick_351 : decode cX12_tick 351 = .ok (.iload_n 1, 1) := by decide +kernel
theorem dX12_tick_352 : decode cX12_tick 352 = .ok (.iconst 2, 1) := by decide +kernel
theorem dX12_tick_353 : decode cX12_tick 353 = .ok (.aload_n 0, 1) := by decide +kernel
theorem dX12_tick_354 : decode cX12_tick 354 = .ok (.iload_n 1, 1) := by decide +kernel
theorem dX12_tick_355 : decode cX12_tick 355 = .ok (.iconst 1, 1) := by decide +kernel
theorem dX12_tick_356 : decode cX12_tick 356 = .ok (.iload 4, 2) := by decide +kernel
theorem dX12_tick_358 : decode cX12_tick 358 = .ok (.invokevirtual 320, 3) := by decide +kernel
theorem dX12_tick_361 : decode cX12_tick 361 = .ok (.aload_n 0, 1) := by decide +kernel
theorem dX12_tick_362 : decode cX12_tick 362 = .ok (.iload_n 1, 1) := by decide +kernel
theorem dX12_tick_363 : decode cX12_tick 363 = .ok (.iconst 2, 1) := by decide +kernel
theorem dX12_tick_364 : decode cX12_tick 364 = .ok (.invokevirtual 204, 3) := by decide +kernel
theorem dX12_tick_367 : decode cX12_tick 367 = .ok (.invokevirtual 207, 3) := by decide +kernel
theorem dX12_tick_370 : decode cX12_tick 370 = .ok (.goto 6, 3) := by decide +kernel
theorem dX12_tick_373 : decode cX12_tick 373 = .ok (.iinc 4 1, 3) := by decide +kernel
theorem dX12_tick_376 : decode cX12_tick 376 = .ok (.goto (-109), 3) := by decide +kernel
theorem dX12_tick_379 : decode cX12_tick 379 = .ok (.aload_n 0, 1) := by decide +kernel
theorem dX12_tick_380 : decode cX12_tick 380 = .ok (.getfield 97, 3) := by decide +kernel
theorem dX12_tick_383 : decode cX12_tick 383 = .ok (.iload_n 1, 1) := by decide +kernel
theorem dX12_tick_384 : decode cX12_tick 384 = .ok (.iaload, 1) := by decide +kernel
theorem dX12_tick_385 : decode cX12_tick 385 = .ok (.sipush 300, 3) := by decide +kernel
theorem dX12_tick_388 : decode cX12_tick 388 = .ok (.if_icmp .ne 12, 3) := by decide +kernel
theorem dX12_tick_391 : decode cX12_tick 391 = .ok (.aload_n 0, 1) := by decide +kernel
theorem dX12_tick_392 : decode cX12_tick 392 = .ok (.aload_n 0, 1) := by decide +kernel
theorem dX12_tick_393 : decode cX12_tick 393 = .ok (.iload_n 1, 1) := by decide +kernel
theorem dX12_tick_394 : decode cX12_tick 394 = .ok (.invokevirtual 305, 3) := by decide +kernel
theorem dX12_tick_397 : decode cX12_tick 397 = .ok (.putfield 330, 3) := by decide +kernel
theorem dX12_tick_400 : decode cX12_tick 400 = .ok (.iconst 1, 1) := by decide +kernel
theorem dX12_tick_401 : decode cX12_tick 401 = .ok (.ireturn, 1) := by decide +kernel
theorem inn_X12_tick_12 : ∀ w ∈ u_ws RX12 TX12 66, w ∈ wsX12_tick := fun w h => List.mem_cons_of_mem _ (List.mem_append_right _ h)
