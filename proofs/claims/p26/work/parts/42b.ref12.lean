set_option maxRecDepth 20000 in
theorem ggX12_tick_X12_many : GoodIn wsX12_tick wsX12_many := goodIn_r _ [17, 18, 109, 110, 111, 112, 113, 114, 115, 116, 117, 118, 119, 120, 121, 122, 123, 124, 125, 126, 127, 128, 129, 130, 131, 132, 133, 134, 135, 136, 137, 138, 139, 140, 141, 142, 143, 144, 145, 146, 147, 148, 149, 150, 151, 152, 153, 154, 155, 156, 157, 158, 159, 160, 161, 162, 163, 164, 165, 166, 167, 168, 169, 170, 171, 172, 173, 174] (by decide +kernel) (by decide +kernel)
set_option maxRecDepth 20000 in
theorem gX12_tick_X12_many : GoodIn wsX12_tick (wsV RX12 204 RX12 yX12_many wsX12_many) := goodIn_app (goodIn_of _ (by decide +kernel)) ggX12_tick_X12_many
set_option maxRecDepth 20000 in
theorem ggX12_tick_X12_goes : GoodIn wsX12_tick wsX12_goes := goodIn_r _ [22, 23, 18, 109, 110, 111, 112, 113, 114, 115, 116, 117, 118, 119, 120, 121, 122, 123, 124, 125, 126, 127, 128, 129, 130, 131, 132, 133, 134, 135, 136, 137, 138, 139, 140, 141, 142, 143, 144, 145, 146, 147, 148, 149, 150, 151, 152, 153, 154, 155, 156, 157, 158, 159, 160, 161, 162, 163, 164, 165, 166, 167, 168, 169, 170, 171, 172, 173, 174] (by decide +kernel) (by decide +kernel)
set_option maxRecDepth 20000 in
theorem gX12_tick_X12_goes : GoodIn wsX12_tick (wsV RX12 320 RX12 yX12_goes wsX12_goes) := goodIn_app (goodIn_of _ (by decide +kernel)) ggX12_tick_X12_goes
set_option maxRecDepth 20000 in
theorem ggX12_tick_X12_comes : GoodIn wsX12_tick wsX12_comes := goodIn_r _ [27, 18, 23, 11, 28, 109, 110, 111, 112, 113, 114, 115, 116, 117, 118, 119, 120, 121, 122, 123, 124, 125, 126, 127, 128, 129, 130, 131, 132, 133, 134, 135, 136, 137, 138, 139, 140, 141, 142, 143, 144, 145, 146, 147, 148, 149, 150, 151, 152, 153, 154, 155, 156, 157, 158, 159, 160, 161, 162, 163, 164, 165, 166, 167, 168, 169, 170, 171, 172, 173, 174] (by decide +kernel) (by decide +kernel)
set_option maxRecDepth 20000 in
theorem gX12_tick_X12_comes : GoodIn wsX12_tick (wsV RX12 207 RX12 yX12_comes wsX12_comes) := goodIn_app (goodIn_of _ (by decide +kernel)) ggX12_tick_X12_comes
set_option maxRecDepth 20000 in
theorem ggX12_tick_X12_holds : GoodIn wsX12_tick wsX12_holds := goodIn_r _ [32, 33, 34, 35, 36, 37, 38, 39, 16, 40, 6, 9, 41, 42, 43, 44, 45, 13, 14, 15, 17, 18, 46, 47, 48, 49, 23, 50, 51, 52, 53, 54, 55, 56, 57, 58, 59, 60, 61, 62, 63, 64, 65, 66, 67, 68, 69, 70, 71, 72, 109, 110, 111, 112, 113, 114, 115, 116, 117, 118, 119, 120, 121, 122, 123, 124, 125, 126, 127, 128, 129, 130, 131, 132, 133, 134, 135, 136, 137, 138, 139, 140, 141, 142, 143, 144, 145, 146, 147, 148, 149, 150, 151, 152, 153, 154, 155, 156, 157, 158, 159, 160, 161, 162, 163, 164, 165, 166, 167, 168, 169, 170, 171, 172, 173, 174] (by decide +kernel) (by decide +kernel)
set_option maxRecDepth 20000 in
theorem gX12_tick_X12_holds : GoodIn wsX12_tick (wsV RX12 323 RX12 yX12_holds wsX12_holds) := goodIn_app (goodIn_of _ (by decide +kernel)) ggX12_tick_X12_holds
set_option maxRecDepth 20000 in
theorem ggX12_tick_X12_acts : GoodIn wsX12_tick wsX12_acts := goodIn_r _ [76, 77, 2, 4, 11, 78, 13, 14, 15, 16, 17, 18, 19, 20, 21, 22, 23, 24, 25, 26, 27, 28, 69, 70, 71, 72, 9, 46, 47, 48, 49, 50, 51, 52, 53, 54, 55, 56, 57, 58, 59, 60, 61, 62, 63, 64, 65, 66, 67, 68, 79, 80, 81, 82, 6, 83, 84, 85, 7, 8, 86, 87, 41, 88, 89, 90, 91, 92, 93, 94, 95, 96, 97, 98, 99, 100, 101, 102, 103, 109, 110, 111, 112, 113, 114, 115, 116, 117, 118, 119, 120, 121, 122, 123, 124, 125, 126, 127, 128, 129, 130, 131, 132, 133, 134, 135, 136, 137, 138, 139, 140, 141, 142, 143, 144, 145, 146, 147, 148, 149, 150, 151, 152, 153, 154, 155, 156, 157, 158, 159, 160, 161, 162, 163, 164, 165, 166, 167, 168, 169, 170, 171, 172, 173, 174] (by decide +kernel) (by decide +kernel)
set_option maxRecDepth 20000 in
theorem gX12_tick_X12_acts : GoodIn wsX12_tick (wsV RX12 326 RX12 yX12_acts wsX12_acts) := goodIn_app (goodIn_of _ (by decide +kernel)) ggX12_tick_X12_acts
set_option maxRecDepth 20000 in
theorem ggX12_tick_X12_growing : GoodIn wsX12_tick wsX12_growing := goodIn_r _ [95] (by decide +kernel) (by decide +kernel)
set_option maxRecDepth 20000 in
theorem gX12_tick_X12_growing : GoodIn wsX12_tick (wsV RX12 296 RX12 yX12_growing wsX12_growing) := goodIn_app (goodIn_of _ (by decide +kernel)) ggX12_tick_X12_growing
set_option maxRecDepth 20000 in
theorem ggX12_tick_X12_at : GoodIn wsX12_tick wsX12_at := goodIn_r _ [49, 23, 109, 110, 111, 112, 113, 114, 115, 116, 117, 118, 119, 120, 121, 122, 123, 124, 125, 126, 127, 128, 129, 130, 131, 132, 133, 134, 135, 136, 137, 138, 139, 140, 141, 142, 143, 144, 145, 146, 147, 148, 149, 150, 151, 152, 153, 154, 155, 156, 157, 158, 159, 160, 161, 162, 163, 164, 165, 166, 167, 168, 169, 170, 171, 172, 173, 174] (by decide +kernel) (by decide +kernel)
set_option maxRecDepth 20000 in
theorem gX12_tick_X12_at : GoodIn wsX12_tick (wsV RX12 308 RX12 yX12_at wsX12_at) := goodIn_app (goodIn_of _ (by decide +kernel)) ggX12_tick_X12_at
set_option maxRecDepth 20000 in
theorem ggX12_tick_X12_lengthOf : GoodIn wsX12_tick wsX12_lengthOf := goodIn_r _ [67, 68, 54, 57, 58, 16, 59, 60, 61, 62, 63, 109, 110, 111, 112, 113, 114, 115, 116, 117, 118, 119, 120, 121, 122, 123, 124, 125, 126, 127, 128, 129, 130, 131, 132, 133, 134, 135, 136, 137, 138, 139, 140, 141, 142, 143, 144, 145, 146, 147, 148, 149, 150, 151, 152, 153, 154, 155, 156, 157, 158, 159, 160, 161, 162, 163, 164, 165, 166, 167, 168, 169, 170, 171, 172, 173, 174] (by decide +kernel) (by decide +kernel)
set_option maxRecDepth 20000 in
theorem gX12_tick_X12_lengthOf : GoodIn wsX12_tick (wsV RX12 180 RX12 yX12_lengthOf wsX12_lengthOf) := goodIn_app (goodIn_of _ (by decide +kernel)) ggX12_tick_X12_lengthOf
set_option maxRecDepth 20000 in
theorem ggX12_tick_X12_breaks : GoodIn wsX12_tick wsX12_breaks := goodIn_r _ [107, 54, 108, 57, 58, 16, 59, 60, 61, 62, 63, 109, 110, 111, 112, 113, 114, 115, 116, 117, 118, 119, 120, 121, 122, 123, 124, 125, 126, 127, 128, 129, 130, 131, 132, 133, 134, 135, 136, 137, 138, 139, 140, 141, 142, 143, 144, 145, 146, 147, 148, 149, 150, 151, 152, 153, 154, 155, 156, 157, 158, 159, 160, 161, 162, 163, 164, 165, 166, 167, 168, 169, 170, 171, 172, 173, 174] (by decide +kernel) (by decide +kernel)
set_option maxRecDepth 20000 in
theorem gX12_tick_X12_breaks : GoodIn wsX12_tick (wsV RX12 194 RX12 yX12_breaks wsX12_breaks) := goodIn_app (goodIn_of _ (by decide +kernel)) ggX12_tick_X12_breaks
set_option maxRecDepth 20000 in
theorem ggX12_tick_X12_cuts : GoodIn wsX12_tick wsX12_cuts := goodIn_r _ [82, 6, 83, 84, 85, 7, 8, 86, 87, 41, 88, 89, 90, 91, 92, 93, 94, 16, 95, 96, 97, 98, 99, 100, 101, 102, 103, 50, 51, 52, 53, 54, 55, 56, 57, 58, 59, 60, 61, 62, 63, 64, 65, 66, 67, 68, 109, 110, 111, 112, 113, 114, 115, 116, 117, 118, 119, 120, 121, 122, 123, 124, 125, 126, 127, 128, 129, 130, 131, 132, 133, 134, 135, 136, 137, 138, 139, 140, 141, 142, 143, 144, 145, 146, 147, 148, 149, 150, 151, 152, 153, 154, 155, 156, 157, 158, 159, 160, 161, 162, 163, 164, 165, 166, 167, 168, 169, 170, 171, 172, 173, 174] (by decide +kernel) (by decide +kernel)
set_option maxRecDepth 20000 in
theorem gX12_tick_X12_cuts : GoodIn wsX12_tick (wsV RX12 305 RX12 yX12_cuts wsX12_cuts) := goodIn_app (goodIn_of _ (by decide +kernel)) ggX12_tick_X12_cuts
theorem dX12_tick_0 : decode cX12_tick 0 = .ok (.aload_n 0, 1) := by decide +kernel
theorem dX12_tick_1 : decode cX12_tick 1 = .ok (.getfield 52, 3) := by decide +kernel
theorem dX12_tick_4 : decode cX12_tick 4 = .ok (.iload_n 1, 1) := by decide +kernel
theorem dX12_tick_5 : decode cX12_tick 5 = .ok (.dup2, 1) := by decide +kernel
theorem dX12_tick_6 : decode cX12_tick 6 = .ok (.iaload, 1) := by decide +kernel
theorem dX12_tick_7 : decode cX12_tick 7 = .ok (.iconst 1, 1) := by decide +kernel
theorem dX12_tick_8 : decode cX12_tick 8 = .ok (.iadd, 1) := by decide +kernel
theorem dX12_tick_9 : decode cX12_tick 9 = .ok (.iastore, 1) := by decide +kernel
theorem dX12_tick_10 : decode cX12_tick 10 = .ok (.aload_n 0, 1) := by decide +kernel
theorem dX12_tick_11 : decode cX12_tick 11 = .ok (.getfield 43, 3) := by decide +kernel
theorem dX12_tick_14 : decode cX12_tick 14 = .ok (.iload_n 1, 1) := by decide +kernel
theorem dX12_tick_15 : decode cX12_tick 15 = .ok (.aload_n 0, 1) := by decide +kernel
theorem dX12_tick_16 : decode cX12_tick 16 = .ok (.iload_n 1, 1) := by decide +kernel
theorem dX12_tick_17 : decode cX12_tick 17 = .ok (.iconst 2, 1) := by decide +kernel
theorem dX12_tick_18 : decode cX12_tick 18 = .ok (.invokevirtual 204, 3) := by decide +kernel
theorem dX12_tick_21 : decode cX12_tick 21 = .ok (.ifCond .ne 7, 3) := by decide +kernel
theorem dX12_tick_24 : decode cX12_tick 24 = .ok (.iconst 0, 1) := by decide +kernel
theorem dX12_tick_25 : decode cX12_tick 25 = .ok (.goto 11, 3) := by decide +kernel
theorem dX12_tick_28 : decode cX12_tick 28 = .ok (.aload_n 0, 1) := by decide +kernel
theorem dX12_tick_29 : decode cX12_tick 29 = .ok (.getfield 43, 3) := by decide +kernel
theorem dX12_tick_32 : decode cX12_tick 32 = .ok (.iload_n 1, 1) := by decide +kernel
theorem dX12_tick_33 : decode cX12_tick 33 = .ok (.iaload, 1) := by decide +kernel
theorem dX12_tick_34 : decode cX12_tick 34 = .ok (.iconst 1, 1) := by decide +kernel
theorem dX12_tick_35 : decode cX12_tick 35 = .ok (.iadd, 1) := by decide +kernel
theorem dX12_tick_36 : decode cX12_tick 36 = .ok (.iastore, 1) := by decide +kernel
theorem dX12_tick_37 : decode cX12_tick 37 = .ok (.aload_n 0, 1) := by decide +kernel
theorem dX12_tick_38 : decode cX12_tick 38 = .ok (.iload_n 1, 1) := by decide +kernel
theorem dX12_tick_39 : decode cX12_tick 39 = .ok (.iconst 2, 1) := by decide +kernel
theorem dX12_tick_40 : decode cX12_tick 40 = .ok (.invokevirtual 204, 3) := by decide +kernel
theorem dX12_tick_43 : decode cX12_tick 43 = .ok (.ifCond .le 44, 3) := by decide +kernel
theorem dX12_tick_46 : decode cX12_tick 46 = .ok (.aload_n 0, 1) := by decide +kernel
theorem dX12_tick_47 : decode cX12_tick 47 = .ok (.getfield 43, 3) := by decide +kernel
theorem dX12_tick_50 : decode cX12_tick 50 = .ok (.iload_n 1, 1) := by decide +kernel
theorem dX12_tick_51 : decode cX12_tick 51 = .ok (.iaload, 1) := by decide +kernel
theorem dX12_tick_52 : decode cX12_tick 52 = .ok (.aload_n 0, 1) := by decide +kernel
theorem dX12_tick_53 : decode cX12_tick 53 = .ok (.getfield 40, 3) := by decide +kernel
theorem dX12_tick_56 : decode cX12_tick 56 = .ok (.iload_n 1, 1) := by decide +kernel
theorem dX12_tick_57 : decode cX12_tick 57 = .ok (.iaload, 1) := by decide +kernel
theorem dX12_tick_58 : decode cX12_tick 58 = .ok (.if_icmp .ne 29, 3) := by decide +kernel
theorem dX12_tick_61 : decode cX12_tick 61 = .ok (.aload_n 0, 1) := by decide +kernel
theorem dX12_tick_62 : decode cX12_tick 62 = .ok (.getfield 43, 3) := by decide +kernel
theorem dX12_tick_65 : decode cX12_tick 65 = .ok (.iload_n 1, 1) := by decide +kernel
theorem dX12_tick_66 : decode cX12_tick 66 = .ok (.iconst 0, 1) := by decide +kernel
theorem dX12_tick_67 : decode cX12_tick 67 = .ok (.iastore, 1) := by decide +kernel
theorem dX12_tick_68 : decode cX12_tick 68 = .ok (.aload_n 0, 1) := by decide +kernel
theorem dX12_tick_69 : decode cX12_tick 69 = .ok (.iload_n 1, 1) := by decide +kernel
theorem dX12_tick_70 : decode cX12_tick 70 = .ok (.iconst 0, 1) := by decide +kernel
theorem dX12_tick_71 : decode cX12_tick 71 = .ok (.aload_n 0, 1) := by decide +kernel
theorem dX12_tick_72 : decode cX12_tick 72 = .ok (.iload_n 1, 1) := by decide +kernel
theorem dX12_tick_73 : decode cX12_tick 73 = .ok (.iconst 2, 1) := by decide +kernel
theorem dX12_tick_74 : decode cX12_tick 74 = .ok (.iconst 0, 1) := by decide +kernel
theorem dX12_tick_75 : decode cX12_tick 75 = .ok (.invokevirtual 320, 3) := by decide +kernel
theorem dX12_tick_78 : decode cX12_tick 78 = .ok (.aload_n 0, 1) := by decide +kernel
theorem dX12_tick_79 : decode cX12_tick 79 = .ok (.iload_n 1, 1) := by decide +kernel
theorem dX12_tick_80 : decode cX12_tick 80 = .ok (.iconst 0, 1) := by decide +kernel
theorem dX12_tick_81 : decode cX12_tick 81 = .ok (.invokevirtual 204, 3) := by decide +kernel
theorem dX12_tick_84 : decode cX12_tick 84 = .ok (.invokevirtual 207, 3) := by decide +kernel
theorem dX12_tick_87 : decode cX12_tick 87 = .ok (.aload_n 0, 1) := by decide +kernel
theorem dX12_tick_88 : decode cX12_tick 88 = .ok (.getfield 46, 3) := by decide +kernel
theorem dX12_tick_91 : decode cX12_tick 91 = .ok (.iload_n 1, 1) := by decide +kernel
theorem dX12_tick_92 : decode cX12_tick 92 = .ok (.iaload, 1) := by decide +kernel
theorem dX12_tick_93 : decode cX12_tick 93 = .ok (.ifCond .ne 44, 3) := by decide +kernel
theorem dX12_tick_96 : decode cX12_tick 96 = .ok (.bipush 12, 2) := by decide +kernel
theorem dX12_tick_98 : decode cX12_tick 98 = .ok (.iload_n 1, 1) := by decide +kernel
theorem dX12_tick_99 : decode cX12_tick 99 = .ok (.imul, 1) := by decide +kernel
theorem dX12_tick_100 : decode cX12_tick 100 = .ok (.istore_n 2, 1) := by decide +kernel
theorem dX12_tick_101 : decode cX12_tick 101 = .ok (.iload_n 2, 1) := by decide +kernel
theorem dX12_tick_102 : decode cX12_tick 102 = .ok (.bipush 12, 2) := by decide +kernel
theorem dX12_tick_104 : decode cX12_tick 104 = .ok (.iload_n 1, 1) := by decide +kernel
theorem dX12_tick_105 : decode cX12_tick 105 = .ok (.imul, 1) := by decide +kernel
theorem dX12_tick_106 : decode cX12_tick 106 = .ok (.aload_n 0, 1) := by decide +kernel
theorem dX12_tick_107 : decode cX12_tick 107 = .ok (.getfield 61, 3) := by decide +kernel
theorem dX12_tick_110 : decode cX12_tick 110 = .ok (.iload_n 1, 1) := by decide +kernel
theorem dX12_tick_111 : decode cX12_tick 111 = .ok (.iaload, 1) := by decide +kernel
theorem dX12_tick_112 : decode cX12_tick 112 = .ok (.iadd, 1) := by decide +kernel
theorem dX12_tick_113 : decode cX12_tick 113 = .ok (.if_icmp .ge 24, 3) := by decide +kernel
theorem dX12_tick_116 : decode cX12_tick 116 = .ok (.aload_n 0, 1) := by decide +kernel
theorem dX12_tick_117 : decode cX12_tick 117 = .ok (.iload_n 1, 1) := by decide +kernel
theorem dX12_tick_118 : decode cX12_tick 118 = .ok (.iload_n 2, 1) := by decide +kernel
theorem dX12_tick_119 : decode cX12_tick 119 = .ok (.invokevirtual 323, 3) := by decide +kernel
theorem dX12_tick_122 : decode cX12_tick 122 = .ok (.ifCond .eq 9, 3) := by decide +kernel
theorem dX12_tick_125 : decode cX12_tick 125 = .ok (.aload_n 0, 1) := by decide +kernel
theorem dX12_tick_126 : decode cX12_tick 126 = .ok (.iload_n 1, 1) := by decide +kernel
theorem dX12_tick_127 : decode cX12_tick 127 = .ok (.iload_n 2, 1) := by decide +kernel
theorem dX12_tick_128 : decode cX12_tick 128 = .ok (.invokevirtual 326, 3) := by decide +kernel
theorem dX12_tick_131 : decode cX12_tick 131 = .ok (.iinc 2 1, 3) := by decide +kernel
theorem dX12_tick_134 : decode cX12_tick 134 = .ok (.goto (-33), 3) := by decide +kernel
theorem dX12_tick_137 : decode cX12_tick 137 = .ok (.aload_n 0, 1) := by decide +kernel
theorem dX12_tick_138 : decode cX12_tick 138 = .ok (.getfield 46, 3) := by decide +kernel
theorem dX12_tick_141 : decode cX12_tick 141 = .ok (.iload_n 1, 1) := by decide +kernel
theorem dX12_tick_142 : decode cX12_tick 142 = .ok (.iaload, 1) := by decide +kernel
theorem dX12_tick_143 : decode cX12_tick 143 = .ok (.ifCond .le 15, 3) := by decide +kernel
theorem dX12_tick_146 : decode cX12_tick 146 = .ok (.aload_n 0, 1) := by decide +kernel
theorem dX12_tick_147 : decode cX12_tick 147 = .ok (.getfield 46, 3) := by decide +kernel
theorem dX12_tick_150 : decode cX12_tick 150 = .ok (.iload_n 1, 1) := by decide +kernel
theorem dX12_tick_151 : decode cX12_tick 151 = .ok (.dup2, 1) := by decide +kernel
theorem dX12_tick_152 : decode cX12_tick 152 = .ok (.iaload, 1) := by decide +kernel
theorem dX12_tick_153 : decode cX12_tick 153 = .ok (.iconst 1, 1) := by decide +kernel
theorem dX12_tick_154 : decode cX12_tick 154 = .ok (.isub, 1) := by decide +kernel
theorem dX12_tick_155 : decode cX12_tick 155 = .ok (.iastore, 1) := by decide +kernel
theorem dX12_tick_156 : decode cX12_tick 156 = .ok (.iconst 0, 1) := by decide +kernel
theorem dX12_tick_157 : decode cX12_tick 157 = .ok (.ireturn, 1) := by decide +kernel
theorem dX12_tick_158 : decode cX12_tick 158 = .ok (.aload_n 0, 1) := by decide +kernel
theorem dX12_tick_159 : decode cX12_tick 159 = .ok (.iload_n 1, 1) := by decide +kernel
theorem dX12_tick_160 : decode cX12_tick 160 = .ok (.iconst 1, 1) := by decide +kernel
theorem dX12_tick_161 : decode cX12_tick 161 = .ok (.invokevirtual 204, 3) := by decide +kernel
theorem dX12_tick_164 : decode cX12_tick 164 = .ok (.istore_n 2, 1) := by decide +kernel
theorem dX12_tick_165 : decode cX12_tick 165 = .ok (.iload_n 2, 1) := by decide +kernel
theorem dX12_tick_166 : decode cX12_tick 166 = .ok (.ifCond .ne 5, 3) := by decide +kernel
theorem dX12_tick_169 : decode cX12_tick 169 = .ok (.iconst 0, 1) := by decide +kernel
theorem dX12_tick_170 : decode cX12_tick 170 = .ok (.ireturn, 1) := by decide +kernel
theorem dX12_tick_171 : decode cX12_tick 171 = .ok (.aload_n 0, 1) := by decide +kernel
theorem dX12_tick_172 : decode cX12_tick 172 = .ok (.iload_n 1, 1) := by decide +kernel
theorem dX12_tick_173 : decode cX12_tick 173 = .ok (.invokevirtual 296, 3) := by decide +kernel
theorem dX12_tick_176 : decode cX12_tick 176 = .ok (.aload_n 0, 1) := by decide +kernel
theorem dX12_tick_177 : decode cX12_tick 177 = .ok (.getfield 97, 3) := by decide +kernel
theorem dX12_tick_180 : decode cX12_tick 180 = .ok (.iload_n 1, 1) := by decide +kernel
theorem dX12_tick_181 : decode cX12_tick 181 = .ok (.iaload, 1) := by decide +kernel
theorem dX12_tick_182 : decode cX12_tick 182 = .ok (.iadd, 1) := by decide +kernel
theorem dX12_tick_183 : decode cX12_tick 183 = .ok (.istore_n 3, 1) := by decide +kernel
theorem dX12_tick_184 : decode cX12_tick 184 = .ok (.aload_n 0, 1) := by decide +kernel
theorem dX12_tick_185 : decode cX12_tick 185 = .ok (.getfield 90, 3) := by decide +kernel
theorem dX12_tick_188 : decode cX12_tick 188 = .ok (.iload_n 3, 1) := by decide +kernel
theorem dX12_tick_189 : decode cX12_tick 189 = .ok (.iload_n 2, 1) := by decide +kernel
theorem dX12_tick_190 : decode cX12_tick 190 = .ok (.iastore, 1) := by decide +kernel
theorem dX12_tick_191 : decode cX12_tick 191 = .ok (.iconst 0, 1) := by decide +kernel
theorem dX12_tick_192 : decode cX12_tick 192 = .ok (.istore 4, 2) := by decide +kernel
theorem dX12_tick_194 : decode cX12_tick 194 = .ok (.iload 4, 2) := by decide +kernel
theorem dX12_tick_196 : decode cX12_tick 196 = .ok (.iload_n 2, 1) := by decide +kernel
theorem dX12_tick_197 : decode cX12_tick 197 = .ok (.if_icmp .ge 47, 3) := by decide +kernel
theorem dX12_tick_200 : decode cX12_tick 200 = .ok (.aload_n 0, 1) := by decide +kernel
theorem dX12_tick_201 : decode cX12_tick 201 = .ok (.getfield 94, 3) := by decide +kernel
theorem dX12_tick_204 : decode cX12_tick 204 = .ok (.bipush 12, 2) := by decide +kernel
theorem dX12_tick_206 : decode cX12_tick 206 = .ok (.iload_n 3, 1) := by decide +kernel
theorem dX12_tick_207 : decode cX12_tick 207 = .ok (.imul, 1) := by decide +kernel
theorem dX12_tick_208 : decode cX12_tick 208 = .ok (.iload 4, 2) := by decide +kernel
theorem dX12_tick_210 : decode cX12_tick 210 = .ok (.iadd, 1) := by decide +kernel
theorem dX12_tick_211 : decode cX12_tick 211 = .ok (.sipush 1000, 3) := by decide +kernel
theorem dX12_tick_214 : decode cX12_tick 214 = .ok (.aload_n 0, 1) := by decide +kernel
theorem dX12_tick_215 : decode cX12_tick 215 = .ok (.iload_n 1, 1) := by decide +kernel
theorem dX12_tick_216 : decode cX12_tick 216 = .ok (.iconst 1, 1) := by decide +kernel
theorem dX12_tick_217 : decode cX12_tick 217 = .ok (.iload 4, 2) := by decide +kernel
theorem dX12_tick_219 : decode cX12_tick 219 = .ok (.invokevirtual 308, 3) := by decide +kernel
theorem dX12_tick_222 : decode cX12_tick 222 = .ok (.imul, 1) := by decide +kernel
theorem dX12_tick_223 : decode cX12_tick 223 = .ok (.aload_n 0, 1) := by decide +kernel
theorem dX12_tick_224 : decode cX12_tick 224 = .ok (.getfield 28, 3) := by decide +kernel
theorem dX12_tick_227 : decode cX12_tick 227 = .ok (.aload_n 0, 1) := by decide +kernel
theorem dX12_tick_228 : decode cX12_tick 228 = .ok (.iload_n 1, 1) := by decide +kernel
theorem dX12_tick_229 : decode cX12_tick 229 = .ok (.iconst 1, 1) := by decide +kernel
theorem dX12_tick_230 : decode cX12_tick 230 = .ok (.iload 4, 2) := by decide +kernel
theorem dX12_tick_232 : decode cX12_tick 232 = .ok (.invokevirtual 308, 3) := by decide +kernel
theorem dX12_tick_235 : decode cX12_tick 235 = .ok (.iaload, 1) := by decide +kernel
theorem dX12_tick_236 : decode cX12_tick 236 = .ok (.iadd, 1) := by decide +kernel
theorem dX12_tick_237 : decode cX12_tick 237 = .ok (.iastore, 1) := by decide +kernel
theorem dX12_tick_238 : decode cX12_tick 238 = .ok (.iinc 4 1, 3) := by decide +kernel
theorem dX12_tick_241 : decode cX12_tick 241 = .ok (.goto (-47), 3) := by decide +kernel
theorem dX12_tick_244 : decode cX12_tick 244 = .ok (.aload_n 0, 1) := by decide +kernel
theorem dX12_tick_245 : decode cX12_tick 245 = .ok (.getfield 97, 3) := by decide +kernel
theorem dX12_tick_248 : decode cX12_tick 248 = .ok (.iload_n 1, 1) := by decide +kernel
theorem dX12_tick_249 : decode cX12_tick 249 = .ok (.dup2, 1) := by decide +kernel
theorem dX12_tick_250 : decode cX12_tick 250 = .ok (.iaload, 1) := by decide +kernel
theorem dX12_tick_251 : decode cX12_tick 251 = .ok (.iconst 1, 1) := by decide +kernel
theorem dX12_tick_252 : decode cX12_tick 252 = .ok (.iadd, 1) := by decide +kernel
theorem dX12_tick_253 : decode cX12_tick 253 = .ok (.iastore, 1) := by decide +kernel
theorem dX12_tick_254 : decode cX12_tick 254 = .ok (.aload_n 0, 1) := by decide +kernel
theorem dX12_tick_255 : decode cX12_tick 255 = .ok (.getfield 49, 3) := by decide +kernel
theorem dX12_tick_258 : decode cX12_tick 258 = .ok (.iload_n 1, 1) := by decide +kernel
theorem dX12_tick_259 : decode cX12_tick 259 = .ok (.dup2, 1) := by decide +kernel
theorem dX12_tick_260 : decode cX12_tick 260 = .ok (.iaload, 1) := by decide +kernel
theorem dX12_tick_261 : decode cX12_tick 261 = .ok (.iconst 1, 1) := by decide +kernel
theorem dX12_tick_262 : decode cX12_tick 262 = .ok (.iadd, 1) := by decide +kernel
theorem dX12_tick_263 : decode cX12_tick 263 = .ok (.iastore, 1) := by decide +kernel
theorem dX12_tick_264 : decode cX12_tick 264 = .ok (.iconst 0, 1) := by decide +kernel
theorem dX12_tick_265 : decode cX12_tick 265 = .ok (.istore 4, 2) := by decide +kernel
theorem dX12_tick_267 : decode cX12_tick 267 = .ok (.iload 4, 2) := by decide +kernel
theorem dX12_tick_269 : decode cX12_tick 269 = .ok (.aload_n 0, 1) := by decide +kernel
theorem dX12_tick_270 : decode cX12_tick 270 = .ok (.iload_n 1, 1) := by decide +kernel
theorem dX12_tick_271 : decode cX12_tick 271 = .ok (.iconst 1, 1) := by decide +kernel
theorem dX12_tick_272 : decode cX12_tick 272 = .ok (.invokevirtual 204, 3) := by decide +kernel
theorem dX12_tick_275 : decode cX12_tick 275 = .ok (.if_icmp .ge 104, 3) := by decide +kernel
theorem dX12_tick_278 : decode cX12_tick 278 = .ok (.aload_n 0, 1) := by decide +kernel
theorem dX12_tick_279 : decode cX12_tick 279 = .ok (.iload_n 1, 1) := by decide +kernel
theorem dX12_tick_280 : decode cX12_tick 280 = .ok (.iconst 1, 1) := by decide +kernel
theorem dX12_tick_281 : decode cX12_tick 281 = .ok (.iload 4, 2) := by decide +kernel
theorem dX12_tick_283 : decode cX12_tick 283 = .ok (.invokevirtual 308, 3) := by decide +kernel
theorem dX12_tick_286 : decode cX12_tick 286 = .ok (.istore 5, 2) := by decide +kernel
theorem dX12_tick_288 : decode cX12_tick 288 = .ok (.aload_n 0, 1) := by decide +kernel
theorem dX12_tick_289 : decode cX12_tick 289 = .ok (.getfield 28, 3) := by decide +kernel
theorem dX12_tick_292 : decode cX12_tick 292 = .ok (.iload 5, 2) := by decide +kernel
theorem dX12_tick_294 : decode cX12_tick 294 = .ok (.dup2, 1) := by decide +kernel
theorem dX12_tick_295 : decode cX12_tick 295 = .ok (.iaload, 1) := by decide +kernel
theorem dX12_tick_296 : decode cX12_tick 296 = .ok (.iconst 1, 1) := by decide +kernel
theorem dX12_tick_297 : decode cX12_tick 297 = .ok (.iadd, 1) := by decide +kernel
theorem dX12_tick_298 : decode cX12_tick 298 = .ok (.iastore, 1) := by decide +kernel
theorem dX12_tick_299 : decode cX12_tick 299 = .ok (.aload_n 0, 1) := by decide +kernel
theorem dX12_tick_300 : decode cX12_tick 300 = .ok (.getfield 28, 3) := by decide +kernel
theorem dX12_tick_303 : decode cX12_tick 303 = .ok (.iload 5, 2) := by decide +kernel
theorem dX12_tick_305 : decode cX12_tick 305 = .ok (.iaload, 1) := by decide +kernel
theorem dX12_tick_306 : decode cX12_tick 306 = .ok (.aload_n 0, 1) := by decide +kernel
theorem dX12_tick_307 : decode cX12_tick 307 = .ok (.iload 5, 2) := by decide +kernel
theorem dX12_tick_309 : decode cX12_tick 309 = .ok (.invokevirtual 180, 3) := by decide +kernel
theorem dX12_tick_312 : decode cX12_tick 312 = .ok (.if_icmp .ne 20, 3) := by decide +kernel
theorem dX12_tick_315 : decode cX12_tick 315 = .ok (.aload_n 0, 1) := by decide +kernel
theorem dX12_tick_316 : decode cX12_tick 316 = .ok (.getfield 25, 3) := by decide +kernel
theorem dX12_tick_319 : decode cX12_tick 319 = .ok (.aload_n 0, 1) := by decide +kernel
theorem dX12_tick_320 : decode cX12_tick 320 = .ok (.iload_n 1, 1) := by decide +kernel
theorem dX12_tick_321 : decode cX12_tick 321 = .ok (.iconst 1, 1) := by decide +kernel
theorem dX12_tick_322 : decode cX12_tick 322 = .ok (.iload 4, 2) := by decide +kernel
theorem dX12_tick_324 : decode cX12_tick 324 = .ok (.invokevirtual 320, 3) := by decide +kernel
theorem dX12_tick_327 : decode cX12_tick 327 = .ok (.iconst 4, 1) := by decide +kernel
theorem dX12_tick_328 : decode cX12_tick 328 = .ok (.iastore, 1) := by decide +kernel
theorem dX12_tick_329 : decode cX12_tick 329 = .ok (.goto 47, 3) := by decide +kernel
theorem dX12_tick_332 : decode cX12_tick 332 = .ok (.aload_n 0, 1) := by decide +kernel
theorem dX12_tick_333 : decode cX12_tick 333 = .ok (.iload 5, 2) := by decide +kernel
theorem dX12_tick_335 : decode cX12_tick 335 = .ok (.aload_n 0, 1) := by decide +kernel
theorem dX12_tick_336 : decode cX12_tick 336 = .ok (.getfield 28, 3) := by decide +kernel
theorem dX12_tick_339 : decode cX12_tick 339 = .ok (.iload 5, 2) := by decide +kernel
theorem dX12_tick_341 : decode cX12_tick 341 = .ok (.iaload, 1) := by decide +kernel
theorem dX12_tick_342 : decode cX12_tick 342 = .ok (.iconst 1, 1) := by decide +kernel
theorem dX12_tick_343 : decode cX12_tick 343 = .ok (.isub, 1) := by decide +kernel
theorem dX12_tick_344 : decode cX12_tick 344 = .ok (.invokevirtual 194, 3) := by decide +kernel
theorem dX12_tick_347 : decode cX12_tick 347 = .ok (.ifCond .eq 26, 3) := by decide +kernel
theorem dX12_tick_350 : decode cX12_tick 350 = .ok (.aload_n 0, 1) := by decide +kernel
theorem dX12_tick_351 : decode cX12_tick 351 = .ok (.iload_n 1, 1) := by decide +kernel
theorem dX12_tick_352 : decode cX12_tick 352 = .ok (.iconst 2, 1) := by decide +kernel
theorem dX12_tick_353 : decode cX12_tick 353 = .ok (.aload_n 0, 1) := by decide +kernel
theorem dX12_tick_354 : decode cX12_tick 354 = .ok (.iload_n 1, 1) := by decide +kernel
theorem dX12_tick_355 : decode cX12_tick 355 = .ok (.iconst 1, 1) := by decide +kernel
theorem dX12_tick_356 : decode cX12_tick 356 = .ok (.iload 4, 2) := by decide +kernel
theorem dX12_tick_358 : decode cX12_tick 358 = .ok (.invokevirtual 320, 3) := by decide +kernel
theorem dX12_tick_361 : decode cX12_tick 361 = .ok (.aload_n 0, 1) := by decide +kernel
theorem dX12_tick_362 : decode cX12_tick 362 = .ok (.iload_n 1, 1) := by decide +kernel
theorem dX12_tick_363 : decode cX12_tick 363 = .ok (.iconst 2, 1) := by decide +kernel
theorem dX12_tick_364 : decode cX12_tick 364 = .ok (.invokevirtual 204, 3) := by decide +kernel
theorem dX12_tick_367 : decode cX12_tick 367 = .ok (.invokevirtual 207, 3) := by decide +kernel
theorem dX12_tick_370 : decode cX12_tick 370 = .ok (.goto 6, 3) := by decide +kernel
theorem dX12_tick_373 : decode cX12_tick 373 = .ok (.iinc 4 1, 3) := by decide +kernel
theorem dX12_tick_376 : decode cX12_tick 376 = .ok (.goto (-109), 3) := by decide +kernel
theorem dX12_tick_379 : decode cX12_tick 379 = .ok (.aload_n 0, 1) := by decide +kernel
theorem dX12_tick_380 : decode cX12_tick 380 = .ok (.getfield 97, 3) := by decide +kernel
theorem dX12_tick_383 : decode cX12_tick 383 = .ok (.iload_n 1, 1) := by decide +kernel
theorem dX12_tick_384 : decode cX12_tick 384 = .ok (.iaload, 1) := by decide +kernel
theorem dX12_tick_385 : decode cX12_tick 385 = .ok (.sipush 300, 3) := by decide +kernel
theorem dX12_tick_388 : decode cX12_tick 388 = .ok (.if_icmp .ne 12, 3) := by decide +kernel
theorem dX12_tick_391 : decode cX12_tick 391 = .ok (.aload_n 0, 1) := by decide +kernel
theorem dX12_tick_392 : decode cX12_tick 392 = .ok (.aload_n 0, 1) := by decide +kernel
theorem dX12_tick_393 : decode cX12_tick 393 = .ok (.iload_n 1, 1) := by decide +kernel
theorem dX12_tick_394 : decode cX12_tick 394 = .ok (.invokevirtual 305, 3) := by decide +kernel
theorem dX12_tick_397 : decode cX12_tick 397 = .ok (.putfield 330, 3) := by decide +kernel
theorem dX12_tick_400 : decode cX12_tick 400 = .ok (.iconst 1, 1) := by decide +kernel
theorem dX12_tick_401 : decode cX12_tick 401 = .ok (.ireturn, 1) := by decide +kernel
set_option maxRecDepth 20000 in
theorem ggX12_run_X12_isPot : GoodIn wsX12_run wsX12_isPot := goodIn_r _ [6, 7, 8, 9, 5, 10, 122, 123, 124, 125, 126, 127, 128, 129, 130, 131, 132, 133, 134, 135, 136, 137, 138, 139, 140, 141, 142, 143, 144, 145, 146, 147, 148, 149, 150, 151, 152, 153, 154, 155, 156, 157, 158, 159, 160, 161, 162, 163, 164, 165, 166, 167, 168, 169, 170, 171, 172, 173, 174, 175, 176, 177, 178, 179, 180, 181, 182, 183, 184, 185, 186, 187] (by decide +kernel) (by decide +kernel)
set_option maxRecDepth 20000 in
theorem gX12_run_X12_isPot : GoodIn wsX12_run (wsV RX12 200 RX12 yX12_isPot wsX12_isPot) := goodIn_app (goodIn_of _ (by decide +kernel)) ggX12_run_X12_isPot
set_option maxRecDepth 20000 in
theorem ggX12_run_X12_within : GoodIn wsX12_run wsX12_within := goodIn_r _ [10] (by decide +kernel) (by decide +kernel)
set_option maxRecDepth 20000 in
theorem gX12_run_X12_within : GoodIn wsX12_run (va_wsS RX12 168 yX12_within wsX12_within) := goodIn_app (goodIn_of _ (by decide +kernel)) ggX12_run_X12_within
set_option maxRecDepth 20000 in
theorem ggX12_run_X12_tick : GoodIn wsX12_run wsX12_tick := goodIn_r _ [14, 15, 16, 17, 18, 19, 20, 21, 22, 23, 24, 25, 26, 27, 28, 29, 5, 30, 31, 32, 33, 34, 35, 36, 37, 38, 39, 40, 41, 42, 43, 44, 45, 46, 47, 48, 49, 50, 51, 52, 53, 54, 55, 56, 57, 58, 59, 60, 61, 62, 63, 64, 65, 66, 67, 68, 69, 70, 71, 72, 73, 74, 75, 76, 77, 78, 79, 80, 81, 82, 83, 84, 85, 86, 87, 88, 89, 90, 91, 92, 93, 94, 95, 96, 97, 98, 99, 100, 101, 102, 103, 104, 105, 106, 107, 108, 109, 110, 111, 112, 113, 114, 115, 116, 117, 118, 119, 120, 121, 122, 123, 124, 125, 126, 127, 128, 129, 130, 131, 132, 133, 134, 135, 136, 137, 138, 139, 140, 141, 142, 143, 144, 145, 146, 147, 148, 149, 150, 151, 152, 153, 154, 155, 156, 157, 158, 159, 160, 161, 162, 163, 164, 165, 166, 167, 168, 169, 170, 171, 172, 173, 174, 175, 176, 177, 178, 179, 180, 181, 182, 183, 184, 185, 186, 187] (by decide +kernel) (by decide +kernel)
set_option maxRecDepth 20000 in
theorem gX12_run_X12_tick : GoodIn wsX12_run (wsV RX12 333 RX12 yX12_tick wsX12_tick) := goodIn_app (goodIn_of _ (by decide +kernel)) ggX12_run_X12_tick
theorem dX12_run_0 : decode cX12_run 0 = .ok (.aload_n 0, 1) := by decide +kernel
theorem dX12_run_1 : decode cX12_run 1 = .ok (.iconst 0, 1) := by decide +kernel
theorem dX12_run_2 : decode cX12_run 2 = .ok (.putfield 161, 3) := by decide +kernel
theorem dX12_run_5 : decode cX12_run 5 = .ok (.aload_n 0, 1) := by decide +kernel
theorem dX12_run_6 : decode cX12_run 6 = .ok (.iload_n 1, 1) := by decide +kernel
theorem dX12_run_7 : decode cX12_run 7 = .ok (.invokevirtual 200, 3) := by decide +kernel
theorem dX12_run_10 : decode cX12_run 10 = .ok (.ifCond .eq 14, 3) := by decide +kernel
theorem dX12_run_13 : decode cX12_run 13 = .ok (.iload_n 2, 1) := by decide +kernel
theorem dX12_run_14 : decode cX12_run 14 = .ok (.iconst 0, 1) := by decide +kernel
theorem dX12_run_15 : decode cX12_run 15 = .ok (.sipush 300, 3) := by decide +kernel
theorem dX12_run_18 : decode cX12_run 18 = .ok (.invokestatic 168, 3) := by decide +kernel
theorem dX12_run_21 : decode cX12_run 21 = .ok (.ifCond .ne 5, 3) := by decide +kernel
theorem dX12_run_24 : decode cX12_run 24 = .ok (.iconst (-1), 1) := by decide +kernel
theorem dX12_run_25 : decode cX12_run 25 = .ok (.ireturn, 1) := by decide +kernel
theorem dX12_run_26 : decode cX12_run 26 = .ok (.iconst 0, 1) := by decide +kernel
theorem dX12_run_27 : decode cX12_run 27 = .ok (.istore_n 3, 1) := by decide +kernel
theorem dX12_run_28 : decode cX12_run 28 = .ok (.iconst 0, 1) := by decide +kernel
theorem dX12_run_29 : decode cX12_run 29 = .ok (.istore 4, 2) := by decide +kernel
theorem dX12_run_31 : decode cX12_run 31 = .ok (.iload 4, 2) := by decide +kernel
theorem dX12_run_33 : decode cX12_run 33 = .ok (.iload_n 2, 1) := by decide +kernel
theorem dX12_run_34 : decode cX12_run 34 = .ok (.if_icmp .ge 25, 3) := by decide +kernel
theorem dX12_run_37 : decode cX12_run 37 = .ok (.iload_n 3, 1) := by decide +kernel
theorem dX12_run_38 : decode cX12_run 38 = .ok (.aload_n 0, 1) := by decide +kernel
theorem dX12_run_39 : decode cX12_run 39 = .ok (.iload_n 1, 1) := by decide +kernel
theorem dX12_run_40 : decode cX12_run 40 = .ok (.invokevirtual 333, 3) := by decide +kernel
theorem dX12_run_43 : decode cX12_run 43 = .ok (.ifCond .eq 7, 3) := by decide +kernel
theorem dX12_run_46 : decode cX12_run 46 = .ok (.iconst 1, 1) := by decide +kernel
theorem dX12_run_47 : decode cX12_run 47 = .ok (.goto 4, 3) := by decide +kernel
theorem dX12_run_50 : decode cX12_run 50 = .ok (.iconst 0, 1) := by decide +kernel
theorem dX12_run_51 : decode cX12_run 51 = .ok (.iadd, 1) := by decide +kernel
theorem dX12_run_52 : decode cX12_run 52 = .ok (.istore_n 3, 1) := by decide +kernel
theorem dX12_run_53 : decode cX12_run 53 = .ok (.iinc 4 1, 3) := by decide +kernel
theorem dX12_run_56 : decode cX12_run 56 = .ok (.goto (-25), 3) := by decide +kernel
theorem dX12_run_59 : decode cX12_run 59 = .ok (.iload_n 3, 1) := by decide +kernel
theorem dX12_run_60 : decode cX12_run 60 = .ok (.ireturn, 1) := by decide +kernel
theorem inn_X12_run_12 : ∀ w ∈ u_ws RX12 TX12 66, w ∈ wsX12_run := fun w h => List.mem_cons_of_mem _ (List.mem_append_right _ h)
theorem inn_X12_tick_12 : ∀ w ∈ u_ws RX12 TX12 66, w ∈ wsX12_tick := fun w h => List.mem_cons_of_mem _ (List.mem_append_right _ h)
set_option maxHeartbeats 4000000 in
set_option maxRecDepth 100000 in
theorem k_X12_tick (l : Launch) (G : va_G) (cy : Nat → ClassId) (κ : Nat → Nat) (S : PS) (sz : Nat) (x : Nat) (a1 : Int32) (a1_z : Int) (hG : GX S) (ha_x : At S x 12) (hz_a1 : a1.toInt = a1_z) (hp_0 : 0 ≤ a1_z) (hp_1 : a1_z ≤ 3) (hp_2 : MI S x) (hp_3 : GR S x) : Ci l yX12_tick wsX12_tick ({ frames := 8, cells := 0, slots := 0, locals := 384 }) G cy κ S sz [.ref x, .int (a1)] (fun (r : Int32) (S9 : PS) => Ok MTK S S9 ∧ (((MI S9 x ∧ GR S9 x) ∧ r = 1) ∨ ((MI S9 x ∧ GR S9 x) ∧ r = 0))) := by
  refine ent_m (cc := cX12_tick) (maxL := 6) (ret := (some .boolean)) (by decide) rfl (Nat.le_of_ble_eq_true rfl) ?_
  intro p e s m below meth c ls X hr hlocks hin hw hl hsz
  subst hsz
  have X : Cx p c cX12_tick 6 s [.ref x, .int (a1)].toArray wsX12_tick RX12 m G cy κ (AS S s.heap.size) := X
  have hl : lv_has ls 6 [(0, .ref x), (1, .int (a1))] := hl
  have rg_a1 : (-2147483648) ≤ a1_z ∧ a1_z ≤ 2147483647 := by rw [← hz_a1]; exact ⟨z_lo _, z_hi _⟩
  have hO : Ok MTK S S := Ok.rf hG
  generalize hQQ : MQ below _ _ _ _ _ _ = QQ
  replace hQQ := hQQ.symm
  obtain ⟨v_1, ev_1⟩ : ∃ v, pI S 1201 x = v := ⟨_, rfl⟩
  have rg_2 := gI_12_1201 hO.1 ha_x; rw [ev_1] at rg_2
  have pz_3 : (pI S 1201 x).toInt = v_1.toInt := by rw [ev_1]
  have pz_4 : (pI S 1201 x).toInt = v_1.toInt := (congrArg Int32.toInt ev_1).trans rfl
  refine lv_aload_n X.1 X.2.1 dX12_tick_0 rfl (lv_at hl 0 rfl) ?_
  obtain ⟨q_5, h_6, h_7, h_8⟩ := gQ_12_1217 hO.1 ha_x
  refine r_getR (g := 1217) X hw ha_x rfl 17 h_6 (by decide) rfl inn_X12_tick_12 (by decide) (X.2.2.2.1 (.fieldLink RX12 52 "SilkMillModel" "ticksEver" "[I") (by decide +kernel)) rfl (gv_1217 _ _) dX12_tick_1 ?_
  refine lv_iload_n X.1 X.2.1 dX12_tick_4 rfl (lv_at hl 1 rfl) ?_
  refine lv_dup2_11 X.1 X.2.1 dX12_tick_5 rfl rfl ?_
  refine r_iald X hw h_7 rfl (by rw [h_8]; exact z_ix hz_a1 (by omega) (by omega)) dX12_tick_6 ?_
  refine lv_topi (fun v_9 ev_9 => ?_)
  have rg_10 := And.intro (z_lo v_9) (z_hi v_9)
  have ev_9 := ev_9.symm
  refine lv_iconst (v := 1) X.1 X.2.1 dX12_tick_7 (by decide) ?_
  refine lv_iadd X.1 X.2.1 dX12_tick_8 ?_
  refine lv_topi (fun v_11 ev_11 => ?_)
  have rg_12 := And.intro (z_lo v_11) (z_hi v_11)
  refine r_iast X hw h_7 rfl (by rw [h_8]; exact z_ix hz_a1 (by omega) (by omega)) dX12_tick_9 (fun H locs hw => ?_)
  obtain ⟨S_13, eS_13⟩ : ∃ T, T = sA S q_5 (upd (pA S q_5) (Int32.toNatClampNeg (a1)) (v_11)) := ⟨_, rfl⟩
  rw [← eS_13] at hw
  have hO_14 : Ok MTK S S_13 := hO.sA eS_13 h_7 (by decide +kernel) (uA_554 hO.1 h_7)
  have h_15 : pA S_13 q_5 (Int32.toNatClampNeg (a1)) = v_11 := tA_sAs eS_13
  have t_21 : pI S_13 1201 x = v_1 := tI_sA eS_13 ev_1
  have L_16 : ∀ (T_17 : PS) (H : Heap) (locs : List Loc) (ls : Array Slot) , (Wd G cy (AS S s.heap.size) s.heap T_17 H locs) → (At T_17 x 12) → (Ok MTK S T_17) → (MIe T_17 x (-1)) → (GR T_17 x) → (pI T_17 1201 x = v_1) → (lv_has ls 6 [(0, .ref x), (1, .int (a1))]) → W p l e ({ frames := 8, cells := 0, slots := 0, locals := 384 }) s m [.ref x, .int (a1)].toArray below meth c H locs 0 0 QQ (F0 m 37 ls []) := by
    intro T_17 H locs ls  hw ha_x_L_18 hO_T_17 mk_19 iv_20 ik_22 hl
    have pz_23 : (pI T_17 1201 x).toInt = v_1.toInt := (congrArg Int32.toInt ik_22).trans rfl
    refine lv_aload_n X.1 X.2.1 dX12_tick_37 rfl (lv_at hl 0 rfl) ?_
    have L_24 : ∀ (T_25 : PS) (H : Heap) (locs : List Loc) (ls : Array Slot) , (Wd G cy (AS S s.heap.size) s.heap T_25 H locs) → (At T_25 x 12) → (Ok MTK S T_25) → (MIe T_25 x (-1)) → (GR T_25 x) → (pI T_25 1201 x = v_1) → (lv_has ls 6 [(0, .ref x), (1, .int (a1))]) → W p l e ({ frames := 8, cells := 0, slots := 0, locals := 384 }) s m [.ref x, .int (a1)].toArray below meth c H locs 0 0 QQ (F0 m 87 ls []) := by
      intro T_25 H locs ls  hw ha_x_L_26 hO_T_25 mk_27 iv_28 ik_29 hl
      have pz_30 : (pI T_25 1201 x).toInt = v_1.toInt := (congrArg Int32.toInt ik_29).trans rfl
      refine lv_aload_n X.1 X.2.1 dX12_tick_87 rfl (lv_at hl 0 rfl) ?_
      have L_31 : ∀ (T_32 : PS) (H : Heap) (locs : List Loc) (ls : Array Slot) , (Wd G cy (AS S s.heap.size) s.heap T_32 H locs) → (At T_32 x 12) → (Ok MTK S T_32) → (MIe T_32 x (-1)) → (GR T_32 x) → (pI T_32 1201 x = v_1) → (lv_has ls 6 [(0, .ref x), (1, .int (a1))]) → W p l e ({ frames := 8, cells := 0, slots := 0, locals := 384 }) s m [.ref x, .int (a1)].toArray below meth c H locs 0 0 QQ (F0 m 137 ls []) := by
        intro T_32 H locs ls  hw ha_x_L_33 hO_T_32 mk_34 iv_35 ik_36 hl
        have pz_37 : (pI T_32 1201 x).toInt = v_1.toInt := (congrArg Int32.toInt ik_36).trans rfl
        refine lv_aload_n X.1 X.2.1 dX12_tick_137 rfl (lv_at hl 0 rfl) ?_
        obtain ⟨q_38, h_39, h_40, h_41⟩ := gQ_12_1215 hO_T_32.1 ha_x_L_33
        refine r_getR (g := 1215) X hw ha_x_L_33 rfl 15 h_39 (by decide) rfl inn_X12_tick_12 (by decide) (X.2.2.2.1 (.fieldLink RX12 46 "SilkMillModel" "stop" "[I") (by decide +kernel)) rfl (gv_1215 _ _) dX12_tick_138 ?_
        refine lv_iload_n X.1 X.2.1 dX12_tick_141 rfl (lv_at hl 1 rfl) ?_
        refine r_iald X hw h_40 rfl (by rw [h_41]; exact z_ix hz_a1 (by omega) (by omega)) dX12_tick_142 ?_
        refine lv_topi (fun v_42 ev_42 => ?_)
        have rg_43 := And.intro (z_lo v_42) (z_hi v_42)
        have ev_42 := ev_42.symm
        refine lv_if_le (tgt := 158) X.1 X.2.1 dX12_tick_143 (by decide) (fun c_44 => ?_) (fun c_44 => ?_)
        · have z_b_45 := trivial
          have k_46 : v_42.toInt ≤ 0 := z_le rfl ti_0 c_44
          refine lv_aload_n X.1 X.2.1 dX12_tick_158 rfl (lv_at hl 0 rfl) ?_
          refine lv_iload_n X.1 X.2.1 dX12_tick_159 rfl (lv_at hl 1 rfl) ?_
          refine lv_iconst (v := 1) X.1 X.2.1 dX12_tick_160 (by decide) ?_
          refine k_i (rm := { frames := 1, cells := 0, slots := 0, locals := 48 }) (av := [.ref x, .int (a1), .int 1]) X hw (va_runV (As := [.int (a1), .int 1]) (rest := []) (cfix X) (k_X12_many2 l G cy κ T_32 _ x (a1) (a1_z) (1) (1) hO_T_32.1 ha_x_L_33 hz_a1 ti_1 (by first | assumption | omega) (by first | assumption | omega) (by first | assumption | omega) (by first | assumption | omega)) (cwV 2 X.2.2.2.1 gX12_tick_X12_many rfl rfl rfl (by decide +kernel) ⟨Nat.le_of_ble_eq_true rfl, Nat.le_of_ble_eq_true rfl⟩) (pre_V X hw _ ha_x_L_33 rfl (by decide) rfl) rfl rfl hl.1 rfl (lv_room (Nat.le_of_ble_eq_true rfl)) dX12_tick_161 ⟨Nat.le_of_ble_eq_true rfl, Nat.le_of_ble_eq_true rfl⟩) 0 0 (Nat.le_of_ble_eq_true rfl) (Nat.le_of_ble_eq_true rfl) (fun rr_47 S_48 H locs hp hw hfr hnw => ?_)
          obtain ⟨e2, hp⟩ := hp
          subst e2
          obtain ⟨f_49, f_50, f_51⟩ := hp
          refine lv_istore_n (lv' := [(2, .int (rr_47)), (0, .ref x), (1, .int (a1))]) X.1 X.2.1 dX12_tick_164 rfl hl (by decide) rfl (fun ls hl => ?_)
          refine lv_iload_n X.1 X.2.1 dX12_tick_165 rfl (lv_at hl 0 rfl) ?_
          refine lv_if_ne (tgt := 171) X.1 X.2.1 dX12_tick_166 (by decide) (fun c_52 => ?_) (fun c_52 => ?_)
          · have z_b_53 := trivial
            have k_54 : rr_47.toInt ≠ 0 := z_ne rfl ti_0 c_52
            have m4_55 := mk_34.2.2.2.1.1 a1_z.toNat (by omega); rw [show 3 * a1_z.toNat + 1 = (3 * a1_z + 1).toNat by omega] at m4_55
            refine lv_aload_n X.1 X.2.1 dX12_tick_171 rfl (lv_at hl 1 rfl) ?_
            refine lv_iload_n X.1 X.2.1 dX12_tick_172 rfl (lv_at hl 2 rfl) ?_
            refine k_i (rm := { frames := 1, cells := 0, slots := 0, locals := 48 }) (av := [.ref x, .int (a1)]) X hw (va_runV (As := [.int (a1)]) (rest := []) (cfix X) (k_X12_growing l G cy κ T_32 _ x (a1) (a1_z) hO_T_32.1 ha_x_L_33 hz_a1 (by first | assumption | omega) (by first | assumption | omega)) (cwV 1 X.2.2.2.1 gX12_tick_X12_growing rfl rfl rfl (by decide +kernel) ⟨Nat.le_of_ble_eq_true rfl, Nat.le_of_ble_eq_true rfl⟩) (pre_V X hw _ ha_x_L_33 rfl (by decide) rfl) rfl rfl hl.1 rfl (lv_room (Nat.le_of_ble_eq_true rfl)) dX12_tick_173 ⟨Nat.le_of_ble_eq_true rfl, Nat.le_of_ble_eq_true rfl⟩) 0 0 (Nat.le_of_ble_eq_true rfl) (Nat.le_of_ble_eq_true rfl) (fun rr_56 S_57 H locs hp hw hfr hnw => ?_)
            obtain ⟨e2, hp⟩ := hp
            subst e2
            have f_58 := hp
            refine lv_aload_n X.1 X.2.1 dX12_tick_176 rfl (lv_at hl 1 rfl) ?_
            obtain ⟨q_59, h_60, h_61, h_62⟩ := gQ_12_1237 hO_T_32.1 ha_x_L_33
            refine r_getR (g := 1237) X hw ha_x_L_33 rfl 37 h_60 (by decide) rfl inn_X12_tick_12 (by decide) (X.2.2.2.1 (.fieldLink RX12 97 "SilkMillModel" "grown" "[I") (by decide +kernel)) rfl (gv_1237 _ _) dX12_tick_177 ?_
            refine lv_iload_n X.1 X.2.1 dX12_tick_180 rfl (lv_at hl 2 rfl) ?_
            refine r_iald X hw h_61 rfl (by rw [h_62]; exact z_ix hz_a1 (by omega) (by omega)) dX12_tick_181 ?_
            refine lv_topi (fun v_63 ev_63 => ?_)
            have z_64 := gE_954 hO_T_32.1 h_61 (Int32.toNatClampNeg (a1)); rw [← ev_63] at z_64
            have ev_63 := ev_63.symm
            have zf_65 : zA T_32 x 1237 (a1_z).toNat = v_63.toInt := (zA_of h_60 hz_a1 (by omega) ev_63)
            have gl_66 := iv_35 (a1_z).toNat (by omega); rw [zf_65] at gl_66
            refine lv_iadd X.1 X.2.1 dX12_tick_182 ?_
            refine lv_topi (fun v_67 ev_67 => ?_)
            have z_68 : v_67.toInt = rr_56.toInt + v_63.toInt := z_add ev_67 rfl rfl (by omega) (by omega)
            refine lv_istore_n (lv' := [(3, .int (v_67)), (2, .int (rr_47)), (0, .ref x), (1, .int (a1))]) X.1 X.2.1 dX12_tick_183 rfl hl (by decide) rfl (fun ls hl => ?_)
            refine lv_aload_n X.1 X.2.1 dX12_tick_184 rfl (lv_at hl 2 rfl) ?_
            obtain ⟨q_69, h_70, h_71, h_72⟩ := gQ_12_1235 hO_T_32.1 ha_x_L_33
            refine r_getR (g := 1235) X hw ha_x_L_33 rfl 35 h_70 (by decide) rfl inn_X12_tick_12 (by decide) (X.2.2.2.1 (.fieldLink RX12 90 "SilkMillModel" "metreEnds" "[I") (by decide +kernel)) rfl (gv_1235 _ _) dX12_tick_185 ?_
            refine lv_iload_n X.1 X.2.1 dX12_tick_188 rfl (lv_at hl 0 rfl) ?_
            refine lv_iload_n X.1 X.2.1 dX12_tick_189 rfl (lv_at hl 1 rfl) ?_
            refine r_iast X hw h_71 rfl (by rw [h_72]; exact z_ix z_68 (by omega) (by omega)) dX12_tick_190 (fun H locs hw => ?_)
            obtain ⟨S_73, eS_73⟩ : ∃ T, T = sA T_32 q_69 (upd (pA T_32 q_69) (Int32.toNatClampNeg (v_67)) (rr_47)) := ⟨_, rfl⟩
            rw [← eS_73] at hw
            have hO_74 : Ok MTK S S_73 := hO_T_32.sA eS_73 h_71 (by decide +kernel) (uA_914 hO_T_32.1 h_71 (by omega) (by omega))
            have h_75 : pA S_73 q_69 (Int32.toNatClampNeg (v_67)) = rr_47 := tA_sAs eS_73
            refine lv_iconst (v := 0) X.1 X.2.1 dX12_tick_191 (by decide) ?_
            refine lv_istore (lv' := [(4, .int 0), (3, .int (v_67)), (2, .int (rr_47)), (0, .ref x), (1, .int (a1))]) X.1 X.2.1 dX12_tick_192 hl (by decide) rfl (fun ls hl => ?_)
            have zc_80 : zA S_73 x 1219 = zA T_32 x 1219 := zA_sAn eS_73 (ex3 (gQ_12_1219 hO_T_32.1 ha_x_L_33)) h_71 rfl
            have zc_82 : zA S_73 x 1237 = zA T_32 x 1237 := zA_sAn eS_73 (ex3 (gQ_12_1237 hO_T_32.1 ha_x_L_33)) h_71 rfl
            have t_85 : pI S_73 1201 x = v_1 := tI_sA eS_73 ik_36
            have L_76 : ∀ (n : Nat) (T_78 : PS) (H : Heap) (locs : List Loc) (ls : Array Slot) (i4_77 : Int32) (i4_77_z : Int), ((12 - i4_77_z).toNat = n) → (Wd G cy (AS S s.heap.size) s.heap T_78 H locs) → (i4_77.toInt = i4_77_z) → (0 ≤ i4_77_z ∧ i4_77_z ≤ 12) → (At T_78 x 12) → (Ok MTK S T_78) → (zA T_78 x 1219 = zA T_32 x 1219) → (zA T_78 x 1237 = zA T_32 x 1237) → (MIe T_78 x (-1)) → (pI T_78 1201 x = v_1) → (lv_has ls 6 [(4, .int (i4_77)), (3, .int (v_67)), (2, .int (rr_47)), (0, .ref x), (1, .int (a1))]) → W p l e ({ frames := 8, cells := 0, slots := 0, locals := 384 }) s m [.ref x, .int (a1)].toArray below meth c H locs 0 0 QQ (F0 m 194 ls []) := by
              intro n
              induction n using Nat.strongRecOn with
              | ind n ih_L_76 =>
              intro T_78 H locs ls i4_77 i4_77_z hn hw hz_i4_77 hr_i4_77 ha_x_L_79 hO_T_78 zk_81 zk_83 mk_84 ik_86 hl
              have rg_87 : (-2147483648) ≤ i4_77_z ∧ i4_77_z ≤ 2147483647 := by rw [← hz_i4_77]; exact ⟨z_lo _, z_hi _⟩
              have pz_88 : (pI T_78 1201 x).toInt = v_1.toInt := (congrArg Int32.toInt ik_86).trans rfl
              refine lv_iload X.1 X.2.1 dX12_tick_194 (lv_at hl 0 rfl) ?_
              refine lv_iload_n X.1 X.2.1 dX12_tick_196 rfl (lv_at hl 2 rfl) ?_
              refine lv_icmp_ge (tgt := 244) X.1 X.2.1 dX12_tick_197 (by decide) (fun c_89 => ?_) (fun c_89 => ?_)
              · have z_b_90 := trivial
                have k_91 : i4_77_z ≥ rr_47.toInt := z_le rfl hz_i4_77 c_89
                refine lv_aload_n X.1 X.2.1 dX12_tick_244 rfl (lv_at hl 3 rfl) ?_
                obtain ⟨q_92, h_93, h_94, h_95⟩ := gQ_12_1237 hO_T_78.1 ha_x_L_79
                refine r_getR (g := 1237) X hw ha_x_L_79 rfl 37 h_93 (by decide) rfl inn_X12_tick_12 (by decide) (X.2.2.2.1 (.fieldLink RX12 97 "SilkMillModel" "grown" "[I") (by decide +kernel)) rfl (gv_1237 _ _) dX12_tick_245 ?_
                refine lv_iload_n X.1 X.2.1 dX12_tick_248 rfl (lv_at hl 4 rfl) ?_
                refine lv_dup2_11 X.1 X.2.1 dX12_tick_249 rfl rfl ?_
                refine r_iald X hw h_94 rfl (by rw [h_95]; exact z_ix hz_a1 (by omega) (by omega)) dX12_tick_250 ?_
                refine lv_topi (fun v_96 ev_96 => ?_)
                have z_97 := gE_954 hO_T_78.1 h_94 (Int32.toNatClampNeg (a1)); rw [← ev_96] at z_97
                have ev_96 := ev_96.symm
                refine lv_iconst (v := 1) X.1 X.2.1 dX12_tick_251 (by decide) ?_
                refine lv_iadd X.1 X.2.1 dX12_tick_252 ?_
                refine lv_topi (fun v_98 ev_98 => ?_)
                have z_99 : v_98.toInt = v_96.toInt + 1 := z_add ev_98 rfl ti_1 (by omega) (by omega)
                refine r_iast X hw h_94 rfl (by rw [h_95]; exact z_ix hz_a1 (by omega) (by omega)) dX12_tick_253 (fun H locs hw => ?_)
                obtain ⟨S_100, eS_100⟩ : ∃ T, T = sA T_78 q_92 (upd (pA T_78 q_92) (Int32.toNatClampNeg (a1)) (v_98)) := ⟨_, rfl⟩
                rw [← eS_100] at hw
                have hO_101 : Ok MTK S S_100 := hO_T_78.sA eS_100 h_94 (by decide +kernel) (uA_954 hO_T_78.1 h_94 (by omega) (by omega))
                have h_102 : pA S_100 q_92 (Int32.toNatClampNeg (a1)) = v_98 := tA_sAs eS_100
                have t_103 : pR S_100 1237 x = some q_92 := tR_sA eS_100 h_93
                have t_105 : pR T_78 1237 x = some q_92 := by have h := t_103; rw [eS_100, pR_sA] at h; exact h
                have zs_104 : ∀ j, zA S_100 x 1237 j = if j = (a1_z).toNat then (v_96.toInt + 1) else zA T_78 x 1237 j := by have h := zA_sAs eS_100 t_105 z_99; rw [z_nc hz_a1 (by omega)] at h; exact h
                have zs_106 : ∀ j, zA S_100 x 1237 j = if j = (a1_z).toNat then (v_96.toInt + 1) else zA T_32 x 1237 j := fun j => by rw [zs_104 j, zk_83]
                have gb_107 : GR T_78 x := (GR_eq zk_83 iv_35)
                have t_109 : pR T_78 1237 x = some q_92 := by have h := t_103; rw [eS_100, pR_sA] at h; exact h
                have zs_108 : ∀ j, zA S_100 x 1237 j = if j = (a1_z).toNat then (v_96.toInt + 1) else zA T_78 x 1237 j := by have h := zA_sAs eS_100 t_109 z_99; rw [z_nc hz_a1 (by omega)] at h; exact h
                refine lv_aload_n X.1 X.2.1 dX12_tick_254 rfl (lv_at hl 3 rfl) ?_
                have t_110 : At S_100 x 12 := tAt_sA eS_100 ha_x_L_79
                obtain ⟨q_111, h_112, h_113, h_114⟩ := gQ_12_1216 hO_101.1 t_110
                refine r_getR (g := 1216) X hw t_110 rfl 16 h_112 (by decide) rfl inn_X12_tick_12 (by decide) (X.2.2.2.1 (.fieldLink RX12 49 "SilkMillModel" "drawnEver" "[I") (by decide +kernel)) rfl (gv_1216 _ _) dX12_tick_255 ?_
                refine lv_iload_n X.1 X.2.1 dX12_tick_258 rfl (lv_at hl 4 rfl) ?_
                refine lv_dup2_11 X.1 X.2.1 dX12_tick_259 rfl rfl ?_
                refine r_iald X hw h_113 rfl (by rw [h_114]; exact z_ix hz_a1 (by omega) (by omega)) dX12_tick_260 ?_
                refine lv_topi (fun v_115 ev_115 => ?_)
                have rg_116 := And.intro (z_lo v_115) (z_hi v_115)
                have ev_115 := ev_115.symm
                refine lv_iconst (v := 1) X.1 X.2.1 dX12_tick_261 (by decide) ?_
                refine lv_iadd X.1 X.2.1 dX12_tick_262 ?_
                refine lv_topi (fun v_117 ev_117 => ?_)
                have rg_118 := And.intro (z_lo v_117) (z_hi v_117)
                refine r_iast X hw h_113 rfl (by rw [h_114]; exact z_ix hz_a1 (by omega) (by omega)) dX12_tick_263 (fun H locs hw => ?_)
                obtain ⟨S_119, eS_119⟩ : ∃ T, T = sA S_100 q_111 (upd (pA S_100 q_111) (Int32.toNatClampNeg (a1)) (v_117)) := ⟨_, rfl⟩
                rw [← eS_119] at hw
                have hO_120 : Ok MTK S S_119 := hO_101.sA eS_119 h_113 (by decide +kernel) (uA_534 hO_101.1 h_113)
                have h_121 : pA S_119 q_111 (Int32.toNatClampNeg (a1)) = v_117 := tA_sAs eS_119
                refine lv_iconst (v := 0) X.1 X.2.1 dX12_tick_264 (by decide) ?_
                refine lv_istore (lv' := [(4, .int 0), (3, .int (v_67)), (2, .int (rr_47)), (0, .ref x), (1, .int (a1))]) X.1 X.2.1 dX12_tick_265 hl (by decide) rfl (fun ls hl => ?_)
                have zc_126 : zA S_119 x 1237 = zA S_100 x 1237 := zA_sAn eS_119 (ex3 (gQ_12_1237 hO_101.1 t_110)) h_113 rfl
                have t_129 : pI S_100 1201 x = v_1 := tI_sA eS_100 ik_86
                have t_130 : pI S_119 1201 x = v_1 := tI_sA eS_119 t_129
                have L_122 : ∀ (n : Nat) (T_124 : PS) (H : Heap) (locs : List Loc) (ls : Array Slot) (i4_123 : Int32) (i4_123_z : Int), ((zA T_124 x 1219 (3 * a1_z + 1).toNat - i4_123_z).toNat = n) → (Wd G cy (AS S s.heap.size) s.heap T_124 H locs) → (i4_123.toInt = i4_123_z) → (0 ≤ i4_123_z ∧ i4_123_z ≤ 600) → (At T_124 x 12) → (Ok MTK S T_124) → (zA T_124 x 1237 = zA S_100 x 1237) → (MIe T_124 x (-1)) → (pI T_124 1201 x = v_1) → (lv_has ls 6 [(4, .int (i4_123)), (3, .int (v_67)), (2, .int (rr_47)), (0, .ref x), (1, .int (a1))]) → W p l e ({ frames := 8, cells := 0, slots := 0, locals := 384 }) s m [.ref x, .int (a1)].toArray below meth c H locs 0 0 QQ (F0 m 267 ls []) := by
                  intro n
                  induction n using Nat.strongRecOn with
                  | ind n ih_L_122 =>
                  intro T_124 H locs ls i4_123 i4_123_z hn hw hz_i4_123 hr_i4_123 ha_x_L_125 hO_T_124 zk_127 mk_128 ik_131 hl
                  have rg_132 : (-2147483648) ≤ i4_123_z ∧ i4_123_z ≤ 2147483647 := by rw [← hz_i4_123]; exact ⟨z_lo _, z_hi _⟩
                  have pz_133 : (pI T_124 1201 x).toInt = v_1.toInt := (congrArg Int32.toInt ik_131).trans rfl
                  refine lv_iload X.1 X.2.1 dX12_tick_267 (lv_at hl 0 rfl) ?_
                  refine lv_aload_n X.1 X.2.1 dX12_tick_269 rfl (lv_at hl 3 rfl) ?_
                  refine lv_iload_n X.1 X.2.1 dX12_tick_270 rfl (lv_at hl 4 rfl) ?_
                  refine lv_iconst (v := 1) X.1 X.2.1 dX12_tick_271 (by decide) ?_
                  refine k_i (rm := { frames := 1, cells := 0, slots := 0, locals := 48 }) (av := [.ref x, .int (a1), .int 1]) X hw (va_runV (As := [.int (a1), .int 1]) (rest := [.int (i4_123)]) (cfix X) (k_X12_many2 l G cy κ T_124 _ x (a1) (a1_z) (1) (1) hO_T_124.1 ha_x_L_125 hz_a1 ti_1 (by first | assumption | omega) (by first | assumption | omega) (by first | assumption | omega) (by first | assumption | omega)) (cwV 2 X.2.2.2.1 gX12_tick_X12_many rfl rfl rfl (by decide +kernel) ⟨Nat.le_of_ble_eq_true rfl, Nat.le_of_ble_eq_true rfl⟩) (pre_V X hw _ ha_x_L_125 rfl (by decide) rfl) rfl rfl hl.1 rfl (lv_room (Nat.le_of_ble_eq_true rfl)) dX12_tick_272 ⟨Nat.le_of_ble_eq_true rfl, Nat.le_of_ble_eq_true rfl⟩) 0 0 (Nat.le_of_ble_eq_true rfl) (Nat.le_of_ble_eq_true rfl) (fun rr_134 S_135 H locs hp hw hfr hnw => ?_)
                  obtain ⟨e2, hp⟩ := hp
                  subst e2
                  obtain ⟨f_136, f_137, f_138⟩ := hp
                  refine lv_icmp_ge (tgt := 379) X.1 X.2.1 dX12_tick_275 (by decide) (fun c_139 => ?_) (fun c_139 => ?_)
                  · have z_b_140 := trivial
                    have k_141 : i4_123_z ≥ rr_134.toInt := z_le rfl hz_i4_123 c_139
                    refine lv_aload_n X.1 X.2.1 dX12_tick_379 rfl (lv_at hl 3 rfl) ?_
                    obtain ⟨q_142, h_143, h_144, h_145⟩ := gQ_12_1237 hO_T_124.1 ha_x_L_125
                    refine r_getR (g := 1237) X hw ha_x_L_125 rfl 37 h_143 (by decide) rfl inn_X12_tick_12 (by decide) (X.2.2.2.1 (.fieldLink RX12 97 "SilkMillModel" "grown" "[I") (by decide +kernel)) rfl (gv_1237 _ _) dX12_tick_380 ?_
                    refine lv_iload_n X.1 X.2.1 dX12_tick_383 rfl (lv_at hl 4 rfl) ?_
                    refine r_iald X hw h_144 rfl (by rw [h_145]; exact z_ix hz_a1 (by omega) (by omega)) dX12_tick_384 ?_
                    refine lv_topi (fun v_146 ev_146 => ?_)
                    have z_147 := gE_954 hO_T_124.1 h_144 (Int32.toNatClampNeg (a1)); rw [← ev_146] at z_147
                    have ev_146 := ev_146.symm
                    have zf_148 : zA T_124 x 1237 (a1_z).toNat = v_146.toInt := (zA_of h_143 hz_a1 (by omega) ev_146)
                    have zz_149 := congrFun zk_127 (a1_z).toNat
                    have zz_150 := zs_108 (a1_z).toNat; rw [if_pos rfl] at zz_150
                    refine lv_sipush (v := 300) X.1 X.2.1 dX12_tick_385 (by decide) ?_
                    refine lv_icmp_ne (tgt := 400) X.1 X.2.1 dX12_tick_388 (by decide) (fun c_151 => ?_) (fun c_151 => ?_)
                    · have z_b_152 := trivial
                      have k_153 : v_146.toInt ≠ 300 := z_ne rfl ti_300 c_151
                      refine lv_iconst (v := 1) X.1 X.2.1 dX12_tick_400 (by decide) ?_
                      rw [hQQ]
                      exact ret_z X hw hr hlocks (Nat.le_of_ble_eq_true rfl) (Nat.le_of_ble_eq_true rfl) (by decide) ⟨hO_T_124, Or.inl ⟨⟨mk_128, (GR_eq zk_127 (GR_set zs_108 (by omega) gb_107))⟩, rfl⟩⟩ dX12_tick_401
                    · have z_b_154 := trivial
                      have k_155 : v_146.toInt = 300 := z_eq rfl ti_300 c_151
                      refine lv_aload_n X.1 X.2.1 dX12_tick_391 rfl (lv_at hl 3 rfl) ?_
                      refine lv_aload_n X.1 X.2.1 dX12_tick_392 rfl (lv_at hl 3 rfl) ?_
                      refine lv_iload_n X.1 X.2.1 dX12_tick_393 rfl (lv_at hl 4 rfl) ?_
                      refine k_i (rm := { frames := 6, cells := 0, slots := 0, locals := 288 }) (av := [.ref x, .int (a1)]) X hw (va_runV (As := [.int (a1)]) (rest := [.ref x]) (cfix X) (k_X12_cuts l G cy κ T_124 _ x (a1) (a1_z) hO_T_124.1 ha_x_L_125 hz_a1 (by first | assumption | omega) (by first | assumption | omega) mk_128) (cwV 1 X.2.2.2.1 gX12_tick_X12_cuts rfl rfl rfl (by decide +kernel) ⟨Nat.le_of_ble_eq_true rfl, Nat.le_of_ble_eq_true rfl⟩) (pre_V X hw _ ha_x_L_125 rfl (by decide) rfl) rfl rfl hl.1 rfl (lv_room (Nat.le_of_ble_eq_true rfl)) dX12_tick_394 ⟨Nat.le_of_ble_eq_true rfl, Nat.le_of_ble_eq_true rfl⟩) 0 0 (Nat.le_of_ble_eq_true rfl) (Nat.le_of_ble_eq_true rfl) (fun rr_156 S_157 H locs hp hw hfr hnw => ?_)
                      obtain ⟨hk_158, hp⟩ := hp
                      have hO_159 : Ok MTK S S_157 := hO_T_124.call hk_158 (by decide +kernel)
                      obtain ⟨mi_160, cu_161⟩ := hp
                      have rg_162 := And.intro (z_lo rr_156) (z_hi rr_156)
                      have f_164 : ∀ j, zA S_157 x 1237 j = if j = (a1_z).toNat then 0 else zA T_78 x 1237 j := fun j => by rw [cu_161 j, zk_127, zs_108 j]; split <;> rfl
                      have gr_163 : GR S_157 x := GR_set f_164 (by omega) gb_107
                      have t_165 : At S_157 x 12 := hk_158.fr.at ha_x_L_125
                      refine r_putI (v := rr_156) X hw t_165 rfl 47 1247 tyX12 (by decide) rfl inn_X12_tick_12 tyX12_ok nmX12 (by decide) (X.2.2.2.1 (.fieldLink RX12 330 "SilkMillModel" "cutAtOnce" "I") (by decide +kernel)) rfl (Or.inl rfl) rfl rfl (Nat.le_of_ble_eq_true rfl) (st_1247 _ _) dX12_tick_397 (fun H locs hw => ?_)
                      obtain ⟨S_166, eS_166⟩ : ∃ T, T = sI S_157 1247 x (rr_156) := ⟨_, rfl⟩
                      rw [← eS_166] at hw
                      have hO_167 : Ok MTK S S_166 := hO_159.sI eS_166 (by decide +kernel) (uI_12_1247 hO_159.1 t_165)
                      have h_168 : pI S_166 1247 x = rr_156 := tI_sIs eS_166
                      refine lv_iconst (v := 1) X.1 X.2.1 dX12_tick_400 (by decide) ?_
                      have mi_169 : MIe S_166 x (-1) := MIe_sI mi_160 hO_159.1 t_165 eS_166 (by decide +kernel)
                      have zc_170 : zA S_166 x 1237 = zA S_157 x 1237 := zA_sI eS_166
                      rw [hQQ]
                      exact ret_z X hw hr hlocks (Nat.le_of_ble_eq_true rfl) (Nat.le_of_ble_eq_true rfl) (by decide) ⟨hO_167, Or.inl ⟨⟨mi_169, (GR_eq zc_170 gr_163)⟩, rfl⟩⟩ dX12_tick_401
                  · have z_b_171 := trivial
                    have k_172 : i4_123_z < rr_134.toInt := z_nle rfl hz_i4_123 c_139
                    refine lv_aload_n X.1 X.2.1 dX12_tick_278 rfl (lv_at hl 3 rfl) ?_
                    refine lv_iload_n X.1 X.2.1 dX12_tick_279 rfl (lv_at hl 4 rfl) ?_
                    refine lv_iconst (v := 1) X.1 X.2.1 dX12_tick_280 (by decide) ?_
                    refine lv_iload X.1 X.2.1 dX12_tick_281 (lv_at hl 0 rfl) ?_
                    refine k_i (rm := { frames := 1, cells := 0, slots := 0, locals := 48 }) (av := [.ref x, .int (a1), .int 1, .int (i4_123)]) X hw (va_runV (As := [.int (a1), .int 1, .int (i4_123)]) (rest := []) (cfix X) (k_X12_at2 l G cy κ T_124 _ x (a1) (a1_z) (1) (1) (i4_123) (i4_123_z) hO_T_124.1 ha_x_L_125 hz_a1 ti_1 hz_i4_123 (by first | assumption | omega) (by first | assumption | omega) (by first | assumption | omega) (by first | assumption | omega) (by first | assumption | omega) (by first | assumption | omega)) (cwV 3 X.2.2.2.1 gX12_tick_X12_at rfl rfl rfl (by decide +kernel) ⟨Nat.le_of_ble_eq_true rfl, Nat.le_of_ble_eq_true rfl⟩) (pre_V X hw _ ha_x_L_125 rfl (by decide) rfl) rfl rfl hl.1 rfl (lv_room (Nat.le_of_ble_eq_true rfl)) dX12_tick_283 ⟨Nat.le_of_ble_eq_true rfl, Nat.le_of_ble_eq_true rfl⟩) 0 0 (Nat.le_of_ble_eq_true rfl) (Nat.le_of_ble_eq_true rfl) (fun rr_173 S_174 H locs hp hw hfr hnw => ?_)
                    obtain ⟨e2, hp⟩ := hp
                    subst e2
                    obtain ⟨f_175, f_176, f_177⟩ := hp
                    refine lv_istore (lv' := [(5, .int (rr_173)), (4, .int (i4_123)), (3, .int (v_67)), (2, .int (rr_47)), (0, .ref x), (1, .int (a1))]) X.1 X.2.1 dX12_tick_286 hl (by decide) rfl (fun ls hl => ?_)
                    have m8_178 := MI_alive mk_128 (c := rr_173.toInt) (r := 3 * a1_z + 1) (k := i4_123_z) (gI_12_1201 hO_T_124.1 ha_x_L_125).2 (by omega) (by omega) (by omega) (by omega) (by omega)
                    have lg_179 := lenZ_le hO_T_124.1 ha_x_L_125 (rr_173.toInt)
                    refine lv_aload_n X.1 X.2.1 dX12_tick_288 rfl (lv_at hl 4 rfl) ?_
                    obtain ⟨q_180, h_181, h_182, h_183⟩ := gQ_12_1208 hO_T_124.1 ha_x_L_125
                    refine r_getR (g := 1208) X hw ha_x_L_125 rfl 8 h_181 (by decide) rfl inn_X12_tick_12 (by decide) (X.2.2.2.1 (.fieldLink RX12 28 "SilkMillModel" "place" "[I") (by decide +kernel)) rfl (gv_1208 _ _) dX12_tick_289 ?_
                    refine lv_iload X.1 X.2.1 dX12_tick_292 (lv_at hl 0 rfl) ?_
                    refine lv_dup2_11 X.1 X.2.1 dX12_tick_294 rfl rfl ?_
                    refine r_iald X hw h_182 rfl (by rw [h_183]; exact z_ix rfl (by omega) (by omega)) dX12_tick_295 ?_
                    refine lv_topi (fun v_184 ev_184 => ?_)
                    have z_185 := gE_374 hO_T_124.1 h_182 (Int32.toNatClampNeg (rr_173)); rw [← ev_184] at z_185
                    have ev_184 := ev_184.symm
                    have zf_186 : zA T_124 x 1208 (rr_173.toInt).toNat = v_184.toInt := (zA_of h_181 rfl (by omega) ev_184)
                    rw [zf_186] at m8_178
                    have pz_187 : (pI T_124 1201 x).toInt = v_1.toInt := (congrArg Int32.toInt ik_131).trans rfl
                    refine lv_iconst (v := 1) X.1 X.2.1 dX12_tick_296 (by decide) ?_
                    refine lv_iadd X.1 X.2.1 dX12_tick_297 ?_
                    refine lv_topi (fun v_188 ev_188 => ?_)
                    have z_189 : v_188.toInt = v_184.toInt + 1 := z_add ev_188 rfl ti_1 (by omega) (by omega)
                    refine r_iast X hw h_182 rfl (by rw [h_183]; exact z_ix rfl (by omega) (by omega)) dX12_tick_298 (fun H locs hw => ?_)
                    obtain ⟨S_190, eS_190⟩ : ∃ T, T = sA T_124 q_180 (upd (pA T_124 q_180) (Int32.toNatClampNeg (rr_173)) (v_188)) := ⟨_, rfl⟩
                    rw [← eS_190] at hw
                    have hO_191 : Ok MTK S S_190 := hO_T_124.sA eS_190 h_182 (by decide +kernel) (uA_374 hO_T_124.1 h_182 (by omega) (by omega))
                    have h_192 : pA S_190 q_180 (Int32.toNatClampNeg (rr_173)) = v_188 := tA_sAs eS_190
                    have t_193 : pR S_190 1208 x = some q_180 := tR_sA eS_190 h_181
                    have t_195 : pR T_124 1208 x = some q_180 := by have h := t_193; rw [eS_190, pR_sA] at h; exact h
                    have zs_194 : ∀ j, zA S_190 x 1208 j = if j = (rr_173.toInt).toNat then (v_184.toInt + 1) else zA T_124 x 1208 j := by have h := zA_sAs eS_190 t_195 z_189; rw [z_nc rfl (by omega)] at h; exact h
                    have mi_196 : MIe S_190 x rr_173.toInt := place_MI (c := rr_173.toInt) hO_T_124.1 ha_x_L_125 (show Fr [10374] T_124 S_190 by rw [eS_190]; exact Fr_sA h_182 List.mem_cons_self) mk_128 (by omega) (by omega) (by omega) (by omega) (by omega) zs_194
                    have zp_197 : zA S_190 x 1208 (rr_173.toInt).toNat = (v_184.toInt + 1) := by have h := zs_194 (rr_173.toInt).toNat; rw [if_pos rfl] at h; exact h
                    have le_198 : lenZ S_190 x = lenZ T_124 x := lenZ_fr (show Fr [10374] T_124 S_190 by rw [eS_190]; exact Fr_sA h_182 List.mem_cons_self) ha_x_L_125 (ex3 (gQ_12_1203 hO_T_124.1 ha_x_L_125)) (ex3 (gQ_12_1205 hO_T_124.1 ha_x_L_125)) (by decide +kernel) (by decide +kernel) (by decide +kernel) (by decide +kernel)
                    have lf_199 := congrFun le_198 (rr_173.toInt)
                    have zc_200 : zA S_190 x 1219 = zA T_124 x 1219 := zA_sAn eS_190 (ex3 (gQ_12_1219 hO_T_124.1 ha_x_L_125)) h_182 rfl
                    have zz_201 := congrFun zc_200 ((3 * a1_z + 1).toNat)
                    have zc_202 : zA S_190 x 1218 = zA T_124 x 1218 := zA_sAn eS_190 (ex3 (gQ_12_1218 hO_T_124.1 ha_x_L_125)) h_182 rfl
                    have zz_203 := congrFun zc_202 ((600 * (3 * a1_z + 1) + i4_123_z).toNat)
                    have t_204 : pI S_190 1201 x = v_1 := tI_sA eS_190 ik_131
                    have pz_205 : (pI S_190 1201 x).toInt = v_1.toInt := (congrArg Int32.toInt t_204).trans rfl
                    refine lv_aload_n X.1 X.2.1 dX12_tick_299 rfl (lv_at hl 4 rfl) ?_
                    have t_206 : At S_190 x 12 := tAt_sA eS_190 ha_x_L_125
                    refine r_getR (g := 1208) X hw t_206 rfl 8 t_193 (by decide) rfl inn_X12_tick_12 (by decide) (X.2.2.2.1 (.fieldLink RX12 28 "SilkMillModel" "place" "[I") (by decide +kernel)) rfl (gv_1208 _ _) dX12_tick_300 ?_
                    refine lv_iload X.1 X.2.1 dX12_tick_303 (lv_at hl 0 rfl) ?_
                    have t_207 : At S_190 q_180 374 := tAt_sA eS_190 h_182
                    have t_208 : pN S_190 q_180 = 600 := tN_sA eS_190 h_183
                    clear h_183
                    refine r_iald X hw t_207 rfl (by rw [t_208]; exact z_ix rfl (by omega) (by omega)) dX12_tick_305 ?_
                    rw [h_192]
                    refine lv_aload_n X.1 X.2.1 dX12_tick_306 rfl (lv_at hl 4 rfl) ?_
                    refine lv_iload X.1 X.2.1 dX12_tick_307 (lv_at hl 0 rfl) ?_
                    refine k_i (rm := { frames := 2, cells := 0, slots := 0, locals := 96 }) (av := [.ref x, .int (rr_173)]) X hw (va_runV (As := [.int (rr_173)]) (rest := [.int (v_188)]) (cfix X) (k_X12_lengthOf l G cy κ S_190 _ x (rr_173) (rr_173.toInt) hO_191.1 t_206 rfl (by first | assumption | omega) (by first | assumption | omega)) (cwV 1 X.2.2.2.1 gX12_tick_X12_lengthOf rfl rfl rfl (by decide +kernel) ⟨Nat.le_of_ble_eq_true rfl, Nat.le_of_ble_eq_true rfl⟩) (pre_V X hw _ t_206 rfl (by decide) rfl) rfl rfl hl.1 rfl (lv_room (Nat.le_of_ble_eq_true rfl)) dX12_tick_309 ⟨Nat.le_of_ble_eq_true rfl, Nat.le_of_ble_eq_true rfl⟩) 0 0 (Nat.le_of_ble_eq_true rfl) (Nat.le_of_ble_eq_true rfl) (fun rr_209 S_210 H locs hp hw hfr hnw => ?_)
                    obtain ⟨e2, hp⟩ := hp
                    subst e2
                    obtain ⟨f_211, f_212, f_213⟩ := hp
                    refine lv_icmp_ne (tgt := 332) X.1 X.2.1 dX12_tick_312 (by decide) (fun c_214 => ?_) (fun c_214 => ?_)
                    · have z_b_215 := trivial
                      have k_216 : (v_184.toInt + 1) ≠ rr_209.toInt := z_ne z_189 rfl c_214
                      have mi_217 : MI S_190 x := back_MI mi_196 (by omega) (Or.inr (by omega))
                      refine lv_aload_n X.1 X.2.1 dX12_tick_332 rfl (lv_at hl 4 rfl) ?_
                      refine lv_iload X.1 X.2.1 dX12_tick_333 (lv_at hl 0 rfl) ?_
                      refine lv_aload_n X.1 X.2.1 dX12_tick_335 rfl (lv_at hl 4 rfl) ?_
                      refine r_getR (g := 1208) X hw t_206 rfl 8 t_193 (by decide) rfl inn_X12_tick_12 (by decide) (X.2.2.2.1 (.fieldLink RX12 28 "SilkMillModel" "place" "[I") (by decide +kernel)) rfl (gv_1208 _ _) dX12_tick_336 ?_
                      refine lv_iload X.1 X.2.1 dX12_tick_339 (lv_at hl 0 rfl) ?_
                      refine r_iald X hw t_207 rfl (by rw [t_208]; exact z_ix rfl (by omega) (by omega)) dX12_tick_341 ?_
                      rw [h_192]
                      refine lv_iconst (v := 1) X.1 X.2.1 dX12_tick_342 (by decide) ?_
                      refine lv_isub X.1 X.2.1 dX12_tick_343 ?_
                      refine lv_topi (fun v_218 ev_218 => ?_)
                      have z_219 : v_218.toInt = (v_184.toInt + 1) - 1 := z_sub ev_218 z_189 ti_1 (by omega) (by omega)
                      refine k_i (rm := { frames := 2, cells := 0, slots := 0, locals := 96 }) (av := [.ref x, .int (rr_173), .int (v_218)]) X hw (va_runV (As := [.int (rr_173), .int (v_218)]) (rest := []) (cfix X) (k_X12_breaks l G cy κ S_190 _ x (rr_173) (rr_173.toInt) (v_218) (((v_184.toInt + 1) - 1)) hO_191.1 t_206 rfl z_219 (by first | assumption | omega) (by first | assumption | omega)) (cwV 2 X.2.2.2.1 gX12_tick_X12_breaks rfl rfl rfl (by decide +kernel) ⟨Nat.le_of_ble_eq_true rfl, Nat.le_of_ble_eq_true rfl⟩) (pre_V X hw _ t_206 rfl (by decide) rfl) rfl rfl hl.1 rfl (lv_room (Nat.le_of_ble_eq_true rfl)) dX12_tick_344 ⟨Nat.le_of_ble_eq_true rfl, Nat.le_of_ble_eq_true rfl⟩) 0 0 (Nat.le_of_ble_eq_true rfl) (Nat.le_of_ble_eq_true rfl) (fun rr_220 S_221 H locs hp hw hfr hnw => ?_)
                      obtain ⟨e2, hp⟩ := hp
                      subst e2
                      rcases hp with ⟨f_222, er_223⟩ | ⟨f_222, er_223⟩ <;> subst er_223
                      · have z_b_224 := trivial
                        refine lv_if_eq (tgt := 373) X.1 X.2.1 dX12_tick_347 (by decide) (fun c_225 => absurd c_225 (by decide)) (fun c_225 => ?_)
                        refine lv_aload_n X.1 X.2.1 dX12_tick_350 rfl (lv_at hl 4 rfl) ?_
                        refine lv_iload_n X.1 X.2.1 dX12_tick_351 rfl (lv_at hl 5 rfl) ?_
                        refine lv_iconst (v := 2) X.1 X.2.1 dX12_tick_352 (by decide) ?_
                        refine lv_aload_n X.1 X.2.1 dX12_tick_353 rfl (lv_at hl 4 rfl) ?_
                        refine lv_iload_n X.1 X.2.1 dX12_tick_354 rfl (lv_at hl 5 rfl) ?_
                        refine lv_iconst (v := 1) X.1 X.2.1 dX12_tick_355 (by decide) ?_
                        refine lv_iload X.1 X.2.1 dX12_tick_356 (lv_at hl 1 rfl) ?_
                        refine k_i (rm := { frames := 1, cells := 0, slots := 0, locals := 48 }) (av := [.ref x, .int (a1), .int 1, .int (i4_123)]) X hw (va_runV (As := [.int (a1), .int 1, .int (i4_123)]) (rest := [.int 2, .int (a1), .ref x]) (cfix X) (k_X12_goes l G cy κ S_190 _ x (a1) (a1_z) (1) (1) (i4_123) (i4_123_z) (-1) hO_191.1 t_206 hz_a1 ti_1 hz_i4_123 (by first | assumption | omega) (by first | assumption | omega) (by first | assumption | omega) (by first | assumption | omega) (by first | assumption | omega) (by first | assumption | omega) mi_217) (cwV 3 X.2.2.2.1 gX12_tick_X12_goes rfl rfl rfl (by decide +kernel) ⟨Nat.le_of_ble_eq_true rfl, Nat.le_of_ble_eq_true rfl⟩) (pre_V X hw _ t_206 rfl (by decide) rfl) rfl rfl hl.1 rfl (lv_room (Nat.le_of_ble_eq_true rfl)) dX12_tick_358 ⟨Nat.le_of_ble_eq_true rfl, Nat.le_of_ble_eq_true rfl⟩) 0 0 (Nat.le_of_ble_eq_true rfl) (Nat.le_of_ble_eq_true rfl) (fun rr_226 S_227 H locs hp hw hfr hnw => ?_)
                        obtain ⟨hk_228, hp⟩ := hp
                        have hO_229 : Ok MTK S S_227 := hO_191.call hk_228 (by decide +kernel)
                        obtain ⟨g_230, g_231, g_232, g_233, g_234, g_235, g_236, g_237⟩ := hp
                        have t_238 : pI S_227 1201 x = v_1 := hk_228.fr.I' (by decide +kernel) t_206 t_204
                        have pz_239 : (pI S_227 1201 x).toInt = v_1.toInt := (congrArg Int32.toInt t_238).trans rfl
                        have zl_240 : zA S_227 x 1207 = zA S_190 x 1207 := zA_fr hk_228.fr t_206 (ex3 (gQ_12_1207 hO_191.1 t_206)) (by decide +kernel) (by decide +kernel)
                        have zz_241 := congrFun zl_240 (rr_226.toInt).toNat
                        have al_242 := ((MI_1 g_235 (c := rr_226.toInt) (by omega) (by omega)).2 (by omega)).2 (by omega) (by omega)
                        have gi_243 := g_237 (3 * a1_z + 1).toNat; rw [if_pos (by omega)] at gi_243
                        have gi_244 := g_237 (3 * a1_z + 2).toNat; rw [if_neg (by omega)] at gi_244
                        refine lv_aload_n X.1 X.2.1 dX12_tick_361 rfl (lv_at hl 4 rfl) ?_
                        refine lv_iload_n X.1 X.2.1 dX12_tick_362 rfl (lv_at hl 5 rfl) ?_
                        refine lv_iconst (v := 2) X.1 X.2.1 dX12_tick_363 (by decide) ?_
                        have t_245 : At S_227 x 12 := hk_228.fr.at t_206
                        refine k_i (rm := { frames := 1, cells := 0, slots := 0, locals := 48 }) (av := [.ref x, .int (a1), .int 2]) X hw (va_runV (As := [.int (a1), .int 2]) (rest := [.int (rr_226), .int 2, .int (a1), .ref x]) (cfix X) (k_X12_many2 l G cy κ S_227 _ x (a1) (a1_z) (2) (2) hO_229.1 t_245 hz_a1 ti_2 (by first | assumption | omega) (by first | assumption | omega) (by first | assumption | omega) (by first | assumption | omega)) (cwV 2 X.2.2.2.1 gX12_tick_X12_many rfl rfl rfl (by decide +kernel) ⟨Nat.le_of_ble_eq_true rfl, Nat.le_of_ble_eq_true rfl⟩) (pre_V X hw _ t_245 rfl (by decide) rfl) rfl rfl hl.1 rfl (lv_room (Nat.le_of_ble_eq_true rfl)) dX12_tick_364 ⟨Nat.le_of_ble_eq_true rfl, Nat.le_of_ble_eq_true rfl⟩) 0 0 (Nat.le_of_ble_eq_true rfl) (Nat.le_of_ble_eq_true rfl) (fun rr_246 S_247 H locs hp hw hfr hnw => ?_)
                        obtain ⟨e2, hp⟩ := hp
                        subst e2
                        obtain ⟨f_248, f_249, f_250⟩ := hp
                        refine k_v (rm := { frames := 1, cells := 0, slots := 0, locals := 48 }) (av := [.ref x, .int (a1), .int 2, .int (rr_226), .int (rr_246)]) X hw (va_runV (As := [.int (a1), .int 2, .int (rr_226), .int (rr_246)]) (rest := []) (cfix X) (k_X12_comes l G cy κ S_227 _ x (a1) (a1_z) (2) (2) (rr_226) (rr_226.toInt) (rr_246) (rr_246.toInt) hO_229.1 t_245 hz_a1 ti_2 rfl rfl (by first | assumption | omega) (by first | assumption | omega) (by first | assumption | omega) (by first | assumption | omega) (by first | assumption | omega) (by first | assumption | omega) (by first | assumption | omega) (by first | assumption | omega) (by first | assumption | omega) (by first | assumption | omega) g_235 (by first | assumption | omega) (by first | assumption | omega)) (cwV 4 X.2.2.2.1 gX12_tick_X12_comes rfl rfl rfl (by decide +kernel) ⟨Nat.le_of_ble_eq_true rfl, Nat.le_of_ble_eq_true rfl⟩) (pre_V X hw _ t_245 rfl (by decide) rfl) rfl rfl hl.1 rfl (lv_room (Nat.le_of_ble_eq_true rfl)) dX12_tick_367 ⟨Nat.le_of_ble_eq_true rfl, Nat.le_of_ble_eq_true rfl⟩) 0 0 (Nat.le_of_ble_eq_true rfl) (Nat.le_of_ble_eq_true rfl) (fun S_252 H locs hp hw hfr hnw => ?_)
                        obtain ⟨hk_253, hp⟩ := hp
                        have hO_254 : Ok MTK S S_252 := hO_229.call hk_253 (by decide +kernel)
                        obtain ⟨mi_255, cm_256, cs_257⟩ := hp
                        have gi_258 := cm_256 (3 * a1_z + 1).toNat; rw [if_neg (by omega)] at gi_258
                        refine lv_goto (tgt := 376) X.1 X.2.1 dX12_tick_370 (by decide) ?_
                        refine lv_goto (tgt := 267) X.1 X.2.1 dX12_tick_376 (by decide) ?_
                        have t_259 : At S_252 x 12 := hk_253.fr.at t_245
                        have zc_260 : zA S_190 x 1237 = zA S_100 x 1237 := (zA_sAn eS_190 (ex3 (gQ_12_1237 hO_T_124.1 ha_x_L_125)) h_182 rfl).trans zk_127
                        have zc_261 : zA S_227 x 1237 = zA S_100 x 1237 := (zA_fr hk_228.fr t_206 (ex3 (gQ_12_1237 hO_191.1 t_206)) (by decide +kernel) (by decide +kernel)).trans zc_260
                        have zc_262 : zA S_252 x 1237 = zA S_100 x 1237 := (zA_fr hk_253.fr t_245 (ex3 (gQ_12_1237 hO_229.1 t_245)) (by decide +kernel) (by decide +kernel)).trans zc_261
                        have t_263 : pI S_252 1201 x = v_1 := hk_253.fr.I' (by decide +kernel) t_245 t_238
                        exact ih_L_122 _ (by omega) _ _ _ _ (i4_123) (i4_123_z) rfl hw hz_i4_123 (by omega) t_259 hO_254 zc_262 mi_255 t_263 (lv_sub hl [1, 2, 3, 4, 5] rfl)
                      · have z_b_264 := trivial
                        refine lv_if_eq (tgt := 373) X.1 X.2.1 dX12_tick_347 (by decide) (fun c_265 => ?_) (fun c_265 => absurd c_265 (by decide))
                        obtain ⟨x_266, ex_266⟩ : ∃ y : Int32, y = i4_123 + 1 := ⟨_, rfl⟩
                        have z_267 : x_266.toInt = i4_123_z + 1 := z_add ex_266 hz_i4_123 ti_1 (by omega) (by omega)
                        refine lv_iinc (v := x_266) (lv' := [(4, .int (x_266)), (5, .int (rr_173)), (3, .int (v_67)), (2, .int (rr_47)), (0, .ref x), (1, .int (a1))]) X.1 X.2.1 dX12_tick_373 hl (k := 1) rfl (by rw [ex_266]; rfl) (by decide) rfl (fun ls hl => ?_)
                        refine lv_goto (tgt := 267) X.1 X.2.1 dX12_tick_376 (by decide) ?_
                        have zc_268 : zA S_190 x 1237 = zA S_100 x 1237 := (zA_sAn eS_190 (ex3 (gQ_12_1237 hO_T_124.1 ha_x_L_125)) h_182 rfl).trans zk_127
                        exact ih_L_122 _ (by omega) _ _ _ _ (x_266) (x_266.toInt) rfl hw rfl (by omega) t_206 hO_191 zc_268 mi_217 t_204 (lv_sub hl [0, 2, 3, 4, 5] rfl)
                    · have z_b_269 := trivial
                      have k_270 : (v_184.toInt + 1) = rr_209.toInt := z_eq z_189 rfl c_214
                      refine lv_aload_n X.1 X.2.1 dX12_tick_315 rfl (lv_at hl 4 rfl) ?_
                      obtain ⟨q_271, h_272, h_273, h_274⟩ := gQ_12_1207 hO_191.1 t_206
                      refine r_getR (g := 1207) X hw t_206 rfl 7 h_272 (by decide) rfl inn_X12_tick_12 (by decide) (X.2.2.2.1 (.fieldLink RX12 25 "SilkMillModel" "stand" "[I") (by decide +kernel)) rfl (gv_1207 _ _) dX12_tick_316 ?_
                      refine lv_aload_n X.1 X.2.1 dX12_tick_319 rfl (lv_at hl 4 rfl) ?_
                      refine lv_iload_n X.1 X.2.1 dX12_tick_320 rfl (lv_at hl 5 rfl) ?_
                      refine lv_iconst (v := 1) X.1 X.2.1 dX12_tick_321 (by decide) ?_
                      refine lv_iload X.1 X.2.1 dX12_tick_322 (lv_at hl 1 rfl) ?_
                      refine k_i (rm := { frames := 1, cells := 0, slots := 0, locals := 48 }) (av := [.ref x, .int (a1), .int 1, .int (i4_123)]) X hw (va_runV (As := [.int (a1), .int 1, .int (i4_123)]) (rest := [.ref q_271]) (cfix X) (k_X12_goes l G cy κ S_190 _ x (a1) (a1_z) (1) (1) (i4_123) (i4_123_z) rr_173.toInt hO_191.1 t_206 hz_a1 ti_1 hz_i4_123 (by first | assumption | omega) (by first | assumption | omega) (by first | assumption | omega) (by first | assumption | omega) (by first | assumption | omega) (by first | assumption | omega) mi_196) (cwV 3 X.2.2.2.1 gX12_tick_X12_goes rfl rfl rfl (by decide +kernel) ⟨Nat.le_of_ble_eq_true rfl, Nat.le_of_ble_eq_true rfl⟩) (pre_V X hw _ t_206 rfl (by decide) rfl) rfl rfl hl.1 rfl (lv_room (Nat.le_of_ble_eq_true rfl)) dX12_tick_324 ⟨Nat.le_of_ble_eq_true rfl, Nat.le_of_ble_eq_true rfl⟩) 0 0 (Nat.le_of_ble_eq_true rfl) (Nat.le_of_ble_eq_true rfl) (fun rr_275 S_276 H locs hp hw hfr hnw => ?_)
                      obtain ⟨hk_277, hp⟩ := hp
                      have hO_278 : Ok MTK S S_276 := hO_191.call hk_277 (by decide +kernel)
                      obtain ⟨g_279, g_280, g_281, g_282, g_283, g_284, g_285, g_286⟩ := hp
                      have hrc : rr_275.toInt = rr_173.toInt := by omega
                      have t_287 : pI S_276 1201 x = v_1 := hk_277.fr.I' (by decide +kernel) t_206 t_204
                      have pz_288 : (pI S_276 1201 x).toInt = v_1.toInt := (congrArg Int32.toInt t_287).trans rfl
                      have gi_289 := g_286 (3 * a1_z + 1).toNat; rw [if_pos (by omega)] at gi_289
                      refine lv_iconst (v := 4) X.1 X.2.1 dX12_tick_327 (by decide) ?_
                      have t_290 : At S_276 q_271 354 := hk_277.fr.at h_273
                      have t_291 : pN S_276 q_271 = 600 := hk_277.fr.N h_273 h_274
                      clear h_274
                      refine r_iast X hw t_290 rfl (by rw [t_291]; exact z_ix rfl (by omega) (by omega)) dX12_tick_328 (fun H locs hw => ?_)
                      obtain ⟨S_292, eS_292⟩ : ∃ T, T = sA S_276 q_271 (upd (pA S_276 q_271) (Int32.toNatClampNeg (rr_275)) (4)) := ⟨_, rfl⟩
                      rw [← eS_292] at hw
                      have hO_293 : Ok MTK S S_292 := hO_278.sA eS_292 t_290 (by decide +kernel) (uA_354 hO_278.1 t_290)
                      have h_294 : pA S_292 q_271 (Int32.toNatClampNeg (rr_275)) = 4 := tA_sAs eS_292
                      have t_295 : pR S_276 1207 x = some q_271 := hk_277.fr.R' (by decide +kernel) t_206 h_272
                      have t_296 : pR S_292 1207 x = some q_271 := tR_sA eS_292 t_295
                      have t_298 : pR S_276 1207 x = some q_271 := by have h := t_296; rw [eS_292, pR_sA] at h; exact h
                      have zs_297 : ∀ j, zA S_292 x 1207 j = if j = (rr_275.toInt).toNat then 4 else zA S_276 x 1207 j := by have h := zA_sAs eS_292 t_298 ti_4; rw [z_nc rfl (by omega)] at h; exact h
                      have t_300 : At S_276 x 12 := hk_277.fr.at t_206
                      have mi_299 : MIe S_292 x rr_173.toInt := stand_MI (c := rr_275.toInt) hO_278.1 t_300 (show Fr [10354] S_276 S_292 by rw [eS_292]; exact Fr_sA t_290 List.mem_cons_self) g_284 (by omega) (by omega) g_285 zs_297 (Or.inl rfl)
                      have mi_301 : MI S_292 x := back_MI mi_299 (by omega) (Or.inl (by rw [← hrc, zs_297, if_pos rfl]))
                      have zc_302 : zA S_292 x 1219 = zA S_276 x 1219 := zA_sAn eS_292 (ex3 (gQ_12_1219 hO_278.1 t_300)) t_290 rfl
                      have zz_303 := congrFun zc_302 (3 * a1_z + 1).toNat
                      refine lv_goto (tgt := 376) X.1 X.2.1 dX12_tick_329 (by decide) ?_
                      refine lv_goto (tgt := 267) X.1 X.2.1 dX12_tick_376 (by decide) ?_
                      have t_304 : At S_292 x 12 := tAt_sA eS_292 t_300
                      have zc_305 : zA S_190 x 1237 = zA S_100 x 1237 := (zA_sAn eS_190 (ex3 (gQ_12_1237 hO_T_124.1 ha_x_L_125)) h_182 rfl).trans zk_127
                      have zc_306 : zA S_276 x 1237 = zA S_100 x 1237 := (zA_fr hk_277.fr t_206 (ex3 (gQ_12_1237 hO_191.1 t_206)) (by decide +kernel) (by decide +kernel)).trans zc_305
                      have zc_307 : zA S_292 x 1237 = zA S_100 x 1237 := (zA_sAn eS_292 (ex3 (gQ_12_1237 hO_278.1 t_300)) t_290 rfl).trans zc_306
                      have t_308 : pI S_292 1201 x = v_1 := tI_sA eS_292 t_287
                      exact ih_L_122 _ (by omega) _ _ _ _ (i4_123) (i4_123_z) rfl hw hz_i4_123 (by omega) t_304 hO_293 zc_307 mi_301 t_308 (lv_sub hl [1, 2, 3, 4, 5] rfl)
                have t_309 : At S_119 x 12 := tAt_sA eS_119 t_110
                have mi_310 : MIe S_100 x (-1) := MIe_37 mk_84 hO_T_78.1 ha_x_L_79 h_94 eS_100
                have mi_311 : MIe S_119 x (-1) := MIe_sA mi_310 hO_101.1 t_110 h_113 eS_119 (by decide +kernel)
                exact L_122 _ _ _ _ _ (0) (0) rfl hw ti_0 (by omega) t_309 hO_120 zc_126 mi_311 t_130 (lv_sub hl [0, 1, 2, 3, 4] rfl)
              · have z_b_312 := trivial
                have k_313 : i4_77_z < rr_47.toInt := z_nle rfl hz_i4_77 c_89
                have zz_314 := congrFun zk_81 (3 * a1_z + 1).toNat
                refine lv_aload_n X.1 X.2.1 dX12_tick_200 rfl (lv_at hl 3 rfl) ?_
                obtain ⟨q_315, h_316, h_317, h_318⟩ := gQ_12_1236 hO_T_78.1 ha_x_L_79
                refine r_getR (g := 1236) X hw ha_x_L_79 rfl 36 h_316 (by decide) rfl inn_X12_tick_12 (by decide) (X.2.2.2.1 (.fieldLink RX12 94 "SilkMillModel" "drawn" "[I") (by decide +kernel)) rfl (gv_1236 _ _) dX12_tick_201 ?_
                refine lv_bipush (v := 12) X.1 X.2.1 dX12_tick_204 (by decide) ?_
                refine lv_iload_n X.1 X.2.1 dX12_tick_206 rfl (lv_at hl 1 rfl) ?_
                refine lv_imul X.1 X.2.1 dX12_tick_207 ?_
                refine lv_topi (fun v_319 ev_319 => ?_)
                have z_320 : v_319.toInt = 12 * (rr_56.toInt + v_63.toInt) := z_mul ev_319 ti_12 z_68 (by omega) (by omega)
                refine lv_iload X.1 X.2.1 dX12_tick_208 (lv_at hl 0 rfl) ?_
                refine lv_iadd X.1 X.2.1 dX12_tick_210 ?_
                refine lv_topi (fun v_321 ev_321 => ?_)
                have z_322 : v_321.toInt = (12 * (rr_56.toInt + v_63.toInt)) + i4_77_z := z_add ev_321 z_320 hz_i4_77 (by omega) (by omega)
                refine lv_sipush (v := 1000) X.1 X.2.1 dX12_tick_211 (by decide) ?_
                refine lv_aload_n X.1 X.2.1 dX12_tick_214 rfl (lv_at hl 3 rfl) ?_
                refine lv_iload_n X.1 X.2.1 dX12_tick_215 rfl (lv_at hl 4 rfl) ?_
                refine lv_iconst (v := 1) X.1 X.2.1 dX12_tick_216 (by decide) ?_
                refine lv_iload X.1 X.2.1 dX12_tick_217 (lv_at hl 0 rfl) ?_
                refine k_i (rm := { frames := 1, cells := 0, slots := 0, locals := 48 }) (av := [.ref x, .int (a1), .int 1, .int (i4_77)]) X hw (va_runV (As := [.int (a1), .int 1, .int (i4_77)]) (rest := [.int 1000, .int (v_321), .ref q_315]) (cfix X) (k_X12_at2 l G cy κ T_78 _ x (a1) (a1_z) (1) (1) (i4_77) (i4_77_z) hO_T_78.1 ha_x_L_79 hz_a1 ti_1 hz_i4_77 (by first | assumption | omega) (by first | assumption | omega) (by first | assumption | omega) (by first | assumption | omega) (by first | assumption | omega) (by first | assumption | omega)) (cwV 3 X.2.2.2.1 gX12_tick_X12_at rfl rfl rfl (by decide +kernel) ⟨Nat.le_of_ble_eq_true rfl, Nat.le_of_ble_eq_true rfl⟩) (pre_V X hw _ ha_x_L_79 rfl (by decide) rfl) rfl rfl hl.1 rfl (lv_room (Nat.le_of_ble_eq_true rfl)) dX12_tick_219 ⟨Nat.le_of_ble_eq_true rfl, Nat.le_of_ble_eq_true rfl⟩) 0 0 (Nat.le_of_ble_eq_true rfl) (Nat.le_of_ble_eq_true rfl) (fun rr_323 S_324 H locs hp hw hfr hnw => ?_)
                obtain ⟨e2, hp⟩ := hp
                subst e2
                obtain ⟨f_325, f_326, f_327⟩ := hp
                refine lv_imul X.1 X.2.1 dX12_tick_222 ?_
                refine lv_topi (fun v_328 ev_328 => ?_)
                have z_329 : v_328.toInt = 1000 * rr_323.toInt := z_mul ev_328 ti_1000 rfl (by omega) (by omega)
                refine lv_aload_n X.1 X.2.1 dX12_tick_223 rfl (lv_at hl 3 rfl) ?_
                obtain ⟨q_330, h_331, h_332, h_333⟩ := gQ_12_1208 hO_T_78.1 ha_x_L_79
                refine r_getR (g := 1208) X hw ha_x_L_79 rfl 8 h_331 (by decide) rfl inn_X12_tick_12 (by decide) (X.2.2.2.1 (.fieldLink RX12 28 "SilkMillModel" "place" "[I") (by decide +kernel)) rfl (gv_1208 _ _) dX12_tick_224 ?_
                refine lv_aload_n X.1 X.2.1 dX12_tick_227 rfl (lv_at hl 3 rfl) ?_
                refine lv_iload_n X.1 X.2.1 dX12_tick_228 rfl (lv_at hl 4 rfl) ?_
                refine lv_iconst (v := 1) X.1 X.2.1 dX12_tick_229 (by decide) ?_
                refine lv_iload X.1 X.2.1 dX12_tick_230 (lv_at hl 0 rfl) ?_
                refine k_i (rm := { frames := 1, cells := 0, slots := 0, locals := 48 }) (av := [.ref x, .int (a1), .int 1, .int (i4_77)]) X hw (va_runV (As := [.int (a1), .int 1, .int (i4_77)]) (rest := [.ref q_330, .int (v_328), .int (v_321), .ref q_315]) (cfix X) (k_X12_at2 l G cy κ T_78 _ x (a1) (a1_z) (1) (1) (i4_77) (i4_77_z) hO_T_78.1 ha_x_L_79 hz_a1 ti_1 hz_i4_77 (by first | assumption | omega) (by first | assumption | omega) (by first | assumption | omega) (by first | assumption | omega) (by first | assumption | omega) (by first | assumption | omega)) (cwV 3 X.2.2.2.1 gX12_tick_X12_at rfl rfl rfl (by decide +kernel) ⟨Nat.le_of_ble_eq_true rfl, Nat.le_of_ble_eq_true rfl⟩) (pre_V X hw _ ha_x_L_79 rfl (by decide) rfl) rfl rfl hl.1 rfl (lv_room (Nat.le_of_ble_eq_true rfl)) dX12_tick_232 ⟨Nat.le_of_ble_eq_true rfl, Nat.le_of_ble_eq_true rfl⟩) 0 0 (Nat.le_of_ble_eq_true rfl) (Nat.le_of_ble_eq_true rfl) (fun rr_334 S_335 H locs hp hw hfr hnw => ?_)
                obtain ⟨e2, hp⟩ := hp
                subst e2
                obtain ⟨f_336, f_337, f_338⟩ := hp
                refine r_iald X hw h_332 rfl (by rw [h_333]; exact z_ix rfl (by omega) (by omega)) dX12_tick_235 ?_
                refine lv_topi (fun v_339 ev_339 => ?_)
                have z_340 := gE_374 hO_T_78.1 h_332 (Int32.toNatClampNeg (rr_334)); rw [← ev_339] at z_340
                have ev_339 := ev_339.symm
                have zf_341 : zA T_78 x 1208 (rr_334.toInt).toNat = v_339.toInt := (zA_of h_331 rfl (by omega) ev_339)
                have m8_342 := MI_alive mk_84 (c := rr_334.toInt) (r := 3 * a1_z + 1) (k := i4_77_z) (gI_12_1201 hO_T_78.1 ha_x_L_79).2 (by omega) (by omega) (by omega) (by omega) (by omega)
                have hh_343 : rr_334.toInt = rr_323.toInt := by omega
                rw [hh_343] at m8_342 zf_341
                rw [zf_341] at m8_342
                have lg_344 := lenZ_le hO_T_78.1 ha_x_L_79 (rr_323.toInt)
                have dk_345 : dOK T_78 x (1000 * rr_323.toInt + v_339.toInt) := dOK_new (by omega) (by omega) (by omega) (by omega) lg_344
                refine lv_iadd X.1 X.2.1 dX12_tick_236 ?_
                refine lv_topi (fun v_346 ev_346 => ?_)
                have z_347 : v_346.toInt = (1000 * rr_323.toInt) + v_339.toInt := z_add ev_346 z_329 rfl (by omega) (by omega)
                refine r_iast X hw h_317 rfl (by rw [h_318]; exact z_ix z_322 (by omega) (by omega)) dX12_tick_237 (fun H locs hw => ?_)
                obtain ⟨S_348, eS_348⟩ : ∃ T, T = sA T_78 q_315 (upd (pA T_78 q_315) (Int32.toNatClampNeg (v_321)) (v_346)) := ⟨_, rfl⟩
                rw [← eS_348] at hw
                have hO_349 : Ok MTK S S_348 := hO_T_78.sA eS_348 h_317 (by decide +kernel) (uA_934 hO_T_78.1 h_317 (by omega) (by omega))
                have h_350 : pA S_348 q_315 (Int32.toNatClampNeg (v_321)) = v_346 := tA_sAs eS_348
                have t_351 : pR S_348 1236 x = some q_315 := tR_sA eS_348 h_316
                have t_353 : pR T_78 1236 x = some q_315 := by have h := t_351; rw [eS_348, pR_sA] at h; exact h
                have zs_352 : ∀ j, zA S_348 x 1236 j = if j = (((12 * (rr_56.toInt + v_63.toInt)) + i4_77_z)).toNat then ((1000 * rr_323.toInt) + v_339.toInt) else zA T_78 x 1236 j := by have h := zA_sAs eS_348 t_353 z_347; rw [z_nc z_322 (by omega)] at h; exact h
                have mi_354 : MIe S_348 x (-1) := drawn_MI hO_T_78.1 ha_x_L_79 (show Fr [10934] T_78 S_348 by rw [eS_348]; exact Fr_sA h_317 List.mem_cons_self) mk_84 zs_352 dk_345
                clear zs_352
                obtain ⟨x_355, ex_355⟩ : ∃ y : Int32, y = i4_77 + 1 := ⟨_, rfl⟩
                have z_356 : x_355.toInt = i4_77_z + 1 := z_add ex_355 hz_i4_77 ti_1 (by omega) (by omega)
                refine lv_iinc (v := x_355) (lv' := [(4, .int (x_355)), (3, .int (v_67)), (2, .int (rr_47)), (0, .ref x), (1, .int (a1))]) X.1 X.2.1 dX12_tick_238 hl (k := 0) rfl (by rw [ex_355]; rfl) (by decide) rfl (fun ls hl => ?_)
                refine lv_goto (tgt := 194) X.1 X.2.1 dX12_tick_241 (by decide) ?_
                have t_357 : At S_348 x 12 := tAt_sA eS_348 ha_x_L_79
                have zc_358 : zA S_348 x 1219 = zA T_32 x 1219 := (zA_sAn eS_348 (ex3 (gQ_12_1219 hO_T_78.1 ha_x_L_79)) h_317 rfl).trans zk_81
                have zc_359 : zA S_348 x 1237 = zA T_32 x 1237 := (zA_sAn eS_348 (ex3 (gQ_12_1237 hO_T_78.1 ha_x_L_79)) h_317 rfl).trans zk_83
                have t_360 : pI S_348 1201 x = v_1 := tI_sA eS_348 ik_86
                exact ih_L_76 _ (by omega) _ _ _ _ (x_355) (x_355.toInt) rfl hw rfl (by omega) t_357 hO_349 zc_358 zc_359 mi_354 t_360 (lv_sub hl [0, 1, 2, 3, 4] rfl)
            have t_361 : At S_73 x 12 := tAt_sA eS_73 ha_x_L_33
            have mi_362 : MIe S_73 x (-1) := MIe_sA mk_34 hO_T_32.1 ha_x_L_33 h_71 eS_73 (by decide +kernel)
            exact L_76 _ _ _ _ _ (0) (0) rfl hw ti_0 (by omega) t_361 hO_74 zc_80 zc_82 mi_362 t_85 (lv_sub hl [0, 1, 2, 3, 4] rfl)
          · have z_b_363 := trivial
            have k_364 : rr_47.toInt = 0 := z_eq rfl ti_0 c_52
            refine lv_iconst (v := 0) X.1 X.2.1 dX12_tick_169 (by decide) ?_
            rw [hQQ]
            exact ret_z X hw hr hlocks (Nat.le_of_ble_eq_true rfl) (Nat.le_of_ble_eq_true rfl) (by decide) ⟨hO_T_32, Or.inr ⟨⟨mk_34, iv_35⟩, rfl⟩⟩ dX12_tick_170
        · have z_b_365 := trivial
          have k_366 : v_42.toInt > 0 := z_nle rfl ti_0 c_44
          refine lv_aload_n X.1 X.2.1 dX12_tick_146 rfl (lv_at hl 0 rfl) ?_
          refine r_getR (g := 1215) X hw ha_x_L_33 rfl 15 h_39 (by decide) rfl inn_X12_tick_12 (by decide) (X.2.2.2.1 (.fieldLink RX12 46 "SilkMillModel" "stop" "[I") (by decide +kernel)) rfl (gv_1215 _ _) dX12_tick_147 ?_
          refine lv_iload_n X.1 X.2.1 dX12_tick_150 rfl (lv_at hl 1 rfl) ?_
          refine lv_dup2_11 X.1 X.2.1 dX12_tick_151 rfl rfl ?_
          refine r_iald X hw h_40 rfl (by rw [h_41]; exact z_ix hz_a1 (by omega) (by omega)) dX12_tick_152 ?_
          rw [ev_42]
          refine lv_iconst (v := 1) X.1 X.2.1 dX12_tick_153 (by decide) ?_
          refine lv_isub X.1 X.2.1 dX12_tick_154 ?_
          refine lv_topi (fun v_367 ev_367 => ?_)
          have z_368 : v_367.toInt = v_42.toInt - 1 := z_sub ev_367 rfl ti_1 (by omega) (by omega)
          refine r_iast X hw h_40 rfl (by rw [h_41]; exact z_ix hz_a1 (by omega) (by omega)) dX12_tick_155 (fun H locs hw => ?_)
          obtain ⟨S_369, eS_369⟩ : ∃ T, T = sA T_32 q_38 (upd (pA T_32 q_38) (Int32.toNatClampNeg (a1)) (v_367)) := ⟨_, rfl⟩
          rw [← eS_369] at hw
          have hO_370 : Ok MTK S S_369 := hO_T_32.sA eS_369 h_40 (by decide +kernel) (uA_514 hO_T_32.1 h_40)
          have h_371 : pA S_369 q_38 (Int32.toNatClampNeg (a1)) = v_367 := tA_sAs eS_369
          refine lv_iconst (v := 0) X.1 X.2.1 dX12_tick_156 (by decide) ?_
          have mi_372 : MIe S_369 x (-1) := MIe_sA mk_34 hO_T_32.1 ha_x_L_33 h_40 eS_369 (by decide +kernel)
          have zc_373 : zA S_369 x 1237 = zA T_32 x 1237 := zA_sAn eS_369 (ex3 (gQ_12_1237 hO_T_32.1 ha_x_L_33)) h_40 rfl
          rw [hQQ]
          exact ret_z X hw hr hlocks (Nat.le_of_ble_eq_true rfl) (Nat.le_of_ble_eq_true rfl) (by decide) ⟨hO_370, Or.inr ⟨⟨mi_372, (GR_eq zc_373 iv_35)⟩, rfl⟩⟩ dX12_tick_157
      obtain ⟨q_374, h_375, h_376, h_377⟩ := gQ_12_1215 hO_T_25.1 ha_x_L_26
      refine r_getR (g := 1215) X hw ha_x_L_26 rfl 15 h_375 (by decide) rfl inn_X12_tick_12 (by decide) (X.2.2.2.1 (.fieldLink RX12 46 "SilkMillModel" "stop" "[I") (by decide +kernel)) rfl (gv_1215 _ _) dX12_tick_88 ?_
      refine lv_iload_n X.1 X.2.1 dX12_tick_91 rfl (lv_at hl 1 rfl) ?_
      refine r_iald X hw h_376 rfl (by rw [h_377]; exact z_ix hz_a1 (by omega) (by omega)) dX12_tick_92 ?_
      refine lv_topi (fun v_378 ev_378 => ?_)
      have rg_379 := And.intro (z_lo v_378) (z_hi v_378)
      have ev_378 := ev_378.symm
      refine lv_if_ne (tgt := 137) X.1 X.2.1 dX12_tick_93 (by decide) (fun c_380 => ?_) (fun c_380 => ?_)
      · have z_b_381 := trivial
        have k_382 : v_378.toInt ≠ 0 := z_ne rfl ti_0 c_380
        exact L_31 _ _ _ _  hw ha_x_L_26 hO_T_25 mk_27 iv_28 ik_29 (lv_sub hl [0, 1] rfl)
      · have z_b_383 := trivial
        have k_384 : v_378.toInt = 0 := z_eq rfl ti_0 c_380
        refine lv_bipush (v := 12) X.1 X.2.1 dX12_tick_96 (by decide) ?_
        refine lv_iload_n X.1 X.2.1 dX12_tick_98 rfl (lv_at hl 1 rfl) ?_
        refine lv_imul X.1 X.2.1 dX12_tick_99 ?_
        refine lv_topi (fun v_385 ev_385 => ?_)
        have z_386 : v_385.toInt = 12 * a1_z := z_mul ev_385 ti_12 hz_a1 (by omega) (by omega)
        refine lv_istore_n (lv' := [(2, .int (v_385)), (0, .ref x), (1, .int (a1))]) X.1 X.2.1 dX12_tick_100 rfl hl (by decide) rfl (fun ls hl => ?_)
        have L_387 : ∀ (n : Nat) (T_389 : PS) (H : Heap) (locs : List Loc) (ls : Array Slot) (i2_388 : Int32) (i2_388_z : Int), ((48 - i2_388_z).toNat = n) → (Wd G cy (AS S s.heap.size) s.heap T_389 H locs) → (i2_388.toInt = i2_388_z) → (0 ≤ i2_388_z ∧ i2_388_z ≤ 48) → (At T_389 x 12) → (Ok MTK S T_389) → (MIe T_389 x (-1)) → (12 * a1_z ≤ i2_388_z) → (i2_388_z ≤ 12 * a1_z + 12) → (GR T_389 x) → (pI T_389 1201 x = v_1) → (lv_has ls 6 [(2, .int (i2_388)), (0, .ref x), (1, .int (a1))]) → W p l e ({ frames := 8, cells := 0, slots := 0, locals := 384 }) s m [.ref x, .int (a1)].toArray below meth c H locs 0 0 QQ (F0 m 101 ls []) := by
          intro n
          induction n using Nat.strongRecOn with
          | ind n ih_L_387 =>
          intro T_389 H locs ls i2_388 i2_388_z hn hw hz_i2_388 hr_i2_388 ha_x_L_390 hO_T_389 mk_391 iv_392 iv_393 iv_394 ik_395 hl
          have rg_396 : (-2147483648) ≤ i2_388_z ∧ i2_388_z ≤ 2147483647 := by rw [← hz_i2_388]; exact ⟨z_lo _, z_hi _⟩
          have pz_397 : (pI T_389 1201 x).toInt = v_1.toInt := (congrArg Int32.toInt ik_395).trans rfl
          refine lv_iload_n X.1 X.2.1 dX12_tick_101 rfl (lv_at hl 0 rfl) ?_
          refine lv_bipush (v := 12) X.1 X.2.1 dX12_tick_102 (by decide) ?_
          refine lv_iload_n X.1 X.2.1 dX12_tick_104 rfl (lv_at hl 2 rfl) ?_
          refine lv_imul X.1 X.2.1 dX12_tick_105 ?_
          refine lv_topi (fun v_398 ev_398 => ?_)
          have z_399 : v_398.toInt = 12 * a1_z := z_mul ev_398 ti_12 hz_a1 (by omega) (by omega)
          refine lv_aload_n X.1 X.2.1 dX12_tick_106 rfl (lv_at hl 1 rfl) ?_
          obtain ⟨q_400, h_401, h_402, h_403⟩ := gQ_12_1220 hO_T_389.1 ha_x_L_390
          refine r_getR (g := 1220) X hw ha_x_L_390 rfl 20 h_401 (by decide) rfl inn_X12_tick_12 (by decide) (X.2.2.2.1 (.fieldLink RX12 61 "SilkMillModel" "rules" "[I") (by decide +kernel)) rfl (gv_1220 _ _) dX12_tick_107 ?_
          refine lv_iload_n X.1 X.2.1 dX12_tick_110 rfl (lv_at hl 2 rfl) ?_
          refine r_iald X hw h_402 rfl (by rw [h_403]; exact z_ix hz_a1 (by omega) (by omega)) dX12_tick_111 ?_
          refine lv_topi (fun v_404 ev_404 => ?_)
          have z_405 := gE_614 hO_T_389.1 h_402 (Int32.toNatClampNeg (a1)); rw [← ev_404] at z_405
          have ev_404 := ev_404.symm
          refine lv_iadd X.1 X.2.1 dX12_tick_112 ?_
          refine lv_topi (fun v_406 ev_406 => ?_)
          have z_407 : v_406.toInt = (12 * a1_z) + v_404.toInt := z_add ev_406 z_399 rfl (by omega) (by omega)
          refine lv_icmp_ge (tgt := 137) X.1 X.2.1 dX12_tick_113 (by decide) (fun c_408 => ?_) (fun c_408 => ?_)
          · have z_b_409 := trivial
            have k_410 : i2_388_z ≥ ((12 * a1_z) + v_404.toInt) := z_le z_407 hz_i2_388 c_408
            exact L_31 _ _ _ _  hw ha_x_L_390 hO_T_389 mk_391 iv_394 ik_395 (lv_sub hl [1, 2] rfl)
          · have z_b_411 := trivial
            have k_412 : i2_388_z < ((12 * a1_z) + v_404.toInt) := z_nle z_407 hz_i2_388 c_408
            refine lv_aload_n X.1 X.2.1 dX12_tick_116 rfl (lv_at hl 1 rfl) ?_
            refine lv_iload_n X.1 X.2.1 dX12_tick_117 rfl (lv_at hl 2 rfl) ?_
            refine lv_iload_n X.1 X.2.1 dX12_tick_118 rfl (lv_at hl 0 rfl) ?_
            refine k_i (rm := { frames := 6, cells := 0, slots := 0, locals := 288 }) (av := [.ref x, .int (a1), .int (i2_388)]) X hw (va_runV (As := [.int (a1), .int (i2_388)]) (rest := []) (cfix X) (k_X12_holds l G cy κ T_389 _ x (a1) (a1_z) (i2_388) (i2_388_z) hO_T_389.1 ha_x_L_390 hz_a1 hz_i2_388 (by first | assumption | omega) (by first | assumption | omega) (by first | assumption | omega) (by first | assumption | omega) mk_391) (cwV 2 X.2.2.2.1 gX12_tick_X12_holds rfl rfl rfl (by decide +kernel) ⟨Nat.le_of_ble_eq_true rfl, Nat.le_of_ble_eq_true rfl⟩) (pre_V X hw _ ha_x_L_390 rfl (by decide) rfl) rfl rfl hl.1 rfl (lv_room (Nat.le_of_ble_eq_true rfl)) dX12_tick_119 ⟨Nat.le_of_ble_eq_true rfl, Nat.le_of_ble_eq_true rfl⟩) 0 0 (Nat.le_of_ble_eq_true rfl) (Nat.le_of_ble_eq_true rfl) (fun rr_413 S_414 H locs hp hw hfr hnw => ?_)
            obtain ⟨e2, hp⟩ := hp
            subst e2
            rcases hp with ⟨f_415, er_416⟩ | ⟨f_415, er_416⟩ <;> subst er_416
            · have z_b_417 := trivial
              refine lv_if_eq (tgt := 131) X.1 X.2.1 dX12_tick_122 (by decide) (fun c_418 => absurd c_418 (by decide)) (fun c_418 => ?_)
              refine lv_aload_n X.1 X.2.1 dX12_tick_125 rfl (lv_at hl 1 rfl) ?_
              refine lv_iload_n X.1 X.2.1 dX12_tick_126 rfl (lv_at hl 2 rfl) ?_
              refine lv_iload_n X.1 X.2.1 dX12_tick_127 rfl (lv_at hl 0 rfl) ?_
              refine k_v (rm := { frames := 7, cells := 0, slots := 0, locals := 336 }) (av := [.ref x, .int (a1), .int (i2_388)]) X hw (va_runV (As := [.int (a1), .int (i2_388)]) (rest := []) (cfix X) (k_X12_acts l G cy κ T_389 _ x (a1) (a1_z) (i2_388) (i2_388_z) hO_T_389.1 ha_x_L_390 hz_a1 hz_i2_388 (by first | assumption | omega) (by first | assumption | omega) (by first | assumption | omega) (by first | assumption | omega) mk_391) (cwV 2 X.2.2.2.1 gX12_tick_X12_acts rfl rfl rfl (by decide +kernel) ⟨Nat.le_of_ble_eq_true rfl, Nat.le_of_ble_eq_true rfl⟩) (pre_V X hw _ ha_x_L_390 rfl (by decide) rfl) rfl rfl hl.1 rfl (lv_room (Nat.le_of_ble_eq_true rfl)) dX12_tick_128 ⟨Nat.le_of_ble_eq_true rfl, Nat.le_of_ble_eq_true rfl⟩) 0 0 (Nat.le_of_ble_eq_true rfl) (Nat.le_of_ble_eq_true rfl) (fun S_420 H locs hp hw hfr hnw => ?_)
              obtain ⟨hk_421, hp⟩ := hp
              have hO_422 : Ok MTK S S_420 := hO_T_389.call hk_421 (by decide +kernel)
              obtain ⟨mi_423, gr_424⟩ := hp
              have gr_425 : GR S_420 x := gr_424 iv_394
              obtain ⟨x_426, ex_426⟩ : ∃ y : Int32, y = i2_388 + 1 := ⟨_, rfl⟩
              have z_427 : x_426.toInt = i2_388_z + 1 := z_add ex_426 hz_i2_388 ti_1 (by omega) (by omega)
              refine lv_iinc (v := x_426) (lv' := [(2, .int (x_426)), (0, .ref x), (1, .int (a1))]) X.1 X.2.1 dX12_tick_131 hl (k := 0) rfl (by rw [ex_426]; rfl) (by decide) rfl (fun ls hl => ?_)
              refine lv_goto (tgt := 101) X.1 X.2.1 dX12_tick_134 (by decide) ?_
              have t_428 : At S_420 x 12 := hk_421.fr.at ha_x_L_390
              have t_429 : pI S_420 1201 x = v_1 := hk_421.fr.I' (by decide +kernel) ha_x_L_390 ik_395
              exact ih_L_387 _ (by omega) _ _ _ _ (x_426) (x_426.toInt) rfl hw rfl (by omega) t_428 hO_422 mi_423 (by omega) (by omega) gr_425 t_429 (lv_sub hl [0, 1, 2] rfl)
            · have z_b_430 := trivial
              refine lv_if_eq (tgt := 131) X.1 X.2.1 dX12_tick_122 (by decide) (fun c_431 => ?_) (fun c_431 => absurd c_431 (by decide))
              obtain ⟨x_432, ex_432⟩ : ∃ y : Int32, y = i2_388 + 1 := ⟨_, rfl⟩
              have z_433 : x_432.toInt = i2_388_z + 1 := z_add ex_432 hz_i2_388 ti_1 (by omega) (by omega)
              refine lv_iinc (v := x_432) (lv' := [(2, .int (x_432)), (0, .ref x), (1, .int (a1))]) X.1 X.2.1 dX12_tick_131 hl (k := 0) rfl (by rw [ex_432]; rfl) (by decide) rfl (fun ls hl => ?_)
              refine lv_goto (tgt := 101) X.1 X.2.1 dX12_tick_134 (by decide) ?_
              exact ih_L_387 _ (by omega) _ _ _ _ (x_432) (x_432.toInt) rfl hw rfl (by omega) ha_x_L_390 hO_T_389 mk_391 (by omega) (by omega) iv_394 ik_395 (lv_sub hl [0, 1, 2] rfl)
        exact L_387 _ _ _ _ _ (v_385) ((12 * a1_z)) rfl hw z_386 (by omega) ha_x_L_26 hO_T_25 mk_27 (by omega) (by omega) iv_28 ik_29 (lv_sub hl [0, 1, 2] rfl)
    refine lv_iload_n X.1 X.2.1 dX12_tick_38 rfl (lv_at hl 1 rfl) ?_
    refine lv_iconst (v := 2) X.1 X.2.1 dX12_tick_39 (by decide) ?_
    refine k_i (rm := { frames := 1, cells := 0, slots := 0, locals := 48 }) (av := [.ref x, .int (a1), .int 2]) X hw (va_runV (As := [.int (a1), .int 2]) (rest := []) (cfix X) (k_X12_many2 l G cy κ T_17 _ x (a1) (a1_z) (2) (2) hO_T_17.1 ha_x_L_18 hz_a1 ti_2 (by first | assumption | omega) (by first | assumption | omega) (by first | assumption | omega) (by first | assumption | omega)) (cwV 2 X.2.2.2.1 gX12_tick_X12_many rfl rfl rfl (by decide +kernel) ⟨Nat.le_of_ble_eq_true rfl, Nat.le_of_ble_eq_true rfl⟩) (pre_V X hw _ ha_x_L_18 rfl (by decide) rfl) rfl rfl hl.1 rfl (lv_room (Nat.le_of_ble_eq_true rfl)) dX12_tick_40 ⟨Nat.le_of_ble_eq_true rfl, Nat.le_of_ble_eq_true rfl⟩) 0 0 (Nat.le_of_ble_eq_true rfl) (Nat.le_of_ble_eq_true rfl) (fun rr_434 S_435 H locs hp hw hfr hnw => ?_)
    obtain ⟨e2, hp⟩ := hp
    subst e2
    obtain ⟨f_436, f_437, f_438⟩ := hp
    refine lv_if_le (tgt := 87) X.1 X.2.1 dX12_tick_43 (by decide) (fun c_439 => ?_) (fun c_439 => ?_)
    · have z_b_440 := trivial
      have k_441 : rr_434.toInt ≤ 0 := z_le rfl ti_0 c_439
      exact L_24 _ _ _ _  hw ha_x_L_18 hO_T_17 mk_19 iv_20 ik_22 (lv_sub hl [0, 1] rfl)
    · have z_b_442 := trivial
      have k_443 : rr_434.toInt > 0 := z_nle rfl ti_0 c_439
      refine lv_aload_n X.1 X.2.1 dX12_tick_46 rfl (lv_at hl 0 rfl) ?_
      obtain ⟨q_444, h_445, h_446, h_447⟩ := gQ_12_1214 hO_T_17.1 ha_x_L_18
      refine r_getR (g := 1214) X hw ha_x_L_18 rfl 14 h_445 (by decide) rfl inn_X12_tick_12 (by decide) (X.2.2.2.1 (.fieldLink RX12 43 "SilkMillModel" "search" "[I") (by decide +kernel)) rfl (gv_1214 _ _) dX12_tick_47 ?_
      refine lv_iload_n X.1 X.2.1 dX12_tick_50 rfl (lv_at hl 1 rfl) ?_
      refine r_iald X hw h_446 rfl (by rw [h_447]; exact z_ix hz_a1 (by omega) (by omega)) dX12_tick_51 ?_
      refine lv_topi (fun v_448 ev_448 => ?_)
      have rg_449 := And.intro (z_lo v_448) (z_hi v_448)
      have ev_448 := ev_448.symm
      refine lv_aload_n X.1 X.2.1 dX12_tick_52 rfl (lv_at hl 0 rfl) ?_
      obtain ⟨q_450, h_451, h_452, h_453⟩ := gQ_12_1213 hO_T_17.1 ha_x_L_18
      refine r_getR (g := 1213) X hw ha_x_L_18 rfl 13 h_451 (by decide) rfl inn_X12_tick_12 (by decide) (X.2.2.2.1 (.fieldLink RX12 40 "SilkMillModel" "find" "[I") (by decide +kernel)) rfl (gv_1213 _ _) dX12_tick_53 ?_
      refine lv_iload_n X.1 X.2.1 dX12_tick_56 rfl (lv_at hl 1 rfl) ?_
      refine r_iald X hw h_452 rfl (by rw [h_453]; exact z_ix hz_a1 (by omega) (by omega)) dX12_tick_57 ?_
      refine lv_topi (fun v_454 ev_454 => ?_)
      have rg_455 := And.intro (z_lo v_454) (z_hi v_454)
      have ev_454 := ev_454.symm
      refine lv_icmp_ne (tgt := 87) X.1 X.2.1 dX12_tick_58 (by decide) (fun c_456 => ?_) (fun c_456 => ?_)
      · have z_b_457 := trivial
        have k_458 : v_448.toInt ≠ v_454.toInt := z_ne rfl rfl c_456
        exact L_24 _ _ _ _  hw ha_x_L_18 hO_T_17 mk_19 iv_20 ik_22 (lv_sub hl [0, 1] rfl)
      · have z_b_459 := trivial
        have k_460 : v_448.toInt = v_454.toInt := z_eq rfl rfl c_456
        refine lv_aload_n X.1 X.2.1 dX12_tick_61 rfl (lv_at hl 0 rfl) ?_
        refine r_getR (g := 1214) X hw ha_x_L_18 rfl 14 h_445 (by decide) rfl inn_X12_tick_12 (by decide) (X.2.2.2.1 (.fieldLink RX12 43 "SilkMillModel" "search" "[I") (by decide +kernel)) rfl (gv_1214 _ _) dX12_tick_62 ?_
        refine lv_iload_n X.1 X.2.1 dX12_tick_65 rfl (lv_at hl 1 rfl) ?_
        refine lv_iconst (v := 0) X.1 X.2.1 dX12_tick_66 (by decide) ?_
        refine r_iast X hw h_446 rfl (by rw [h_447]; exact z_ix hz_a1 (by omega) (by omega)) dX12_tick_67 (fun H locs hw => ?_)
        obtain ⟨S_461, eS_461⟩ : ∃ T, T = sA T_17 q_444 (upd (pA T_17 q_444) (Int32.toNatClampNeg (a1)) (0)) := ⟨_, rfl⟩
        rw [← eS_461] at hw
        have hO_462 : Ok MTK S S_461 := hO_T_17.sA eS_461 h_446 (by decide +kernel) (uA_494 hO_T_17.1 h_446)
        have h_463 : pA S_461 q_444 (Int32.toNatClampNeg (a1)) = 0 := tA_sAs eS_461
        refine lv_aload_n X.1 X.2.1 dX12_tick_68 rfl (lv_at hl 0 rfl) ?_
        refine lv_iload_n X.1 X.2.1 dX12_tick_69 rfl (lv_at hl 1 rfl) ?_
        refine lv_iconst (v := 0) X.1 X.2.1 dX12_tick_70 (by decide) ?_
        refine lv_aload_n X.1 X.2.1 dX12_tick_71 rfl (lv_at hl 0 rfl) ?_
        refine lv_iload_n X.1 X.2.1 dX12_tick_72 rfl (lv_at hl 1 rfl) ?_
        refine lv_iconst (v := 2) X.1 X.2.1 dX12_tick_73 (by decide) ?_
        refine lv_iconst (v := 0) X.1 X.2.1 dX12_tick_74 (by decide) ?_
        have t_464 : At S_461 x 12 := tAt_sA eS_461 ha_x_L_18
        have mi_465 : MIe S_461 x (-1) := MIe_sA mk_19 hO_T_17.1 ha_x_L_18 h_446 eS_461 (by decide +kernel)
        refine k_i (rm := { frames := 1, cells := 0, slots := 0, locals := 48 }) (av := [.ref x, .int (a1), .int 2, .int 0]) X hw (va_runV (As := [.int (a1), .int 2, .int 0]) (rest := [.int 0, .int (a1), .ref x]) (cfix X) (k_X12_goes l G cy κ S_461 _ x (a1) (a1_z) (2) (2) (0) (0) (-1) hO_462.1 t_464 hz_a1 ti_2 ti_0 (by first | assumption | omega) (by first | assumption | omega) (by first | assumption | omega) (by first | assumption | omega) (by first | assumption | omega) (by first | assumption | omega) mi_465) (cwV 3 X.2.2.2.1 gX12_tick_X12_goes rfl rfl rfl (by decide +kernel) ⟨Nat.le_of_ble_eq_true rfl, Nat.le_of_ble_eq_true rfl⟩) (pre_V X hw _ t_464 rfl (by decide) rfl) rfl rfl hl.1 rfl (lv_room (Nat.le_of_ble_eq_true rfl)) dX12_tick_75 ⟨Nat.le_of_ble_eq_true rfl, Nat.le_of_ble_eq_true rfl⟩) 0 0 (Nat.le_of_ble_eq_true rfl) (Nat.le_of_ble_eq_true rfl) (fun rr_466 S_467 H locs hp hw hfr hnw => ?_)
        obtain ⟨hk_468, hp⟩ := hp
        have hO_469 : Ok MTK S S_467 := hO_462.call hk_468 (by decide +kernel)
        obtain ⟨g_470, g_471, g_472, g_473, g_474, g_475, g_476, g_477⟩ := hp
        have t_478 : pI S_461 1201 x = v_1 := tI_sA eS_461 ik_22
        have t_479 : pI S_467 1201 x = v_1 := hk_468.fr.I' (by decide +kernel) t_464 t_478
        have pz_480 : (pI S_467 1201 x).toInt = v_1.toInt := (congrArg Int32.toInt t_479).trans rfl
        have zl_481 : zA S_467 x 1207 = zA S_461 x 1207 := zA_fr hk_468.fr t_464 (ex3 (gQ_12_1207 hO_462.1 t_464)) (by decide +kernel) (by decide +kernel)
        have zz_482 := congrFun zl_481 (rr_466.toInt).toNat
        have al_483 := ((MI_1 g_475 (c := rr_466.toInt) (by omega) (by omega)).2 (by omega)).2 (by omega) (by omega)
        have gi_484 := g_477 (3 * a1_z + 0).toNat; rw [if_neg (by omega)] at gi_484
        refine lv_aload_n X.1 X.2.1 dX12_tick_78 rfl (lv_at hl 0 rfl) ?_
        refine lv_iload_n X.1 X.2.1 dX12_tick_79 rfl (lv_at hl 1 rfl) ?_
        refine lv_iconst (v := 0) X.1 X.2.1 dX12_tick_80 (by decide) ?_
        have t_485 : At S_467 x 12 := hk_468.fr.at t_464
        refine k_i (rm := { frames := 1, cells := 0, slots := 0, locals := 48 }) (av := [.ref x, .int (a1), .int 0]) X hw (va_runV (As := [.int (a1), .int 0]) (rest := [.int (rr_466), .int 0, .int (a1), .ref x]) (cfix X) (k_X12_many2 l G cy κ S_467 _ x (a1) (a1_z) (0) (0) hO_469.1 t_485 hz_a1 ti_0 (by first | assumption | omega) (by first | assumption | omega) (by first | assumption | omega) (by first | assumption | omega)) (cwV 2 X.2.2.2.1 gX12_tick_X12_many rfl rfl rfl (by decide +kernel) ⟨Nat.le_of_ble_eq_true rfl, Nat.le_of_ble_eq_true rfl⟩) (pre_V X hw _ t_485 rfl (by decide) rfl) rfl rfl hl.1 rfl (lv_room (Nat.le_of_ble_eq_true rfl)) dX12_tick_81 ⟨Nat.le_of_ble_eq_true rfl, Nat.le_of_ble_eq_true rfl⟩) 0 0 (Nat.le_of_ble_eq_true rfl) (Nat.le_of_ble_eq_true rfl) (fun rr_486 S_487 H locs hp hw hfr hnw => ?_)
        obtain ⟨e2, hp⟩ := hp
        subst e2
        obtain ⟨f_488, f_489, f_490⟩ := hp
        refine k_v (rm := { frames := 1, cells := 0, slots := 0, locals := 48 }) (av := [.ref x, .int (a1), .int 0, .int (rr_466), .int (rr_486)]) X hw (va_runV (As := [.int (a1), .int 0, .int (rr_466), .int (rr_486)]) (rest := []) (cfix X) (k_X12_comes l G cy κ S_467 _ x (a1) (a1_z) (0) (0) (rr_466) (rr_466.toInt) (rr_486) (rr_486.toInt) hO_469.1 t_485 hz_a1 ti_0 rfl rfl (by first | assumption | omega) (by first | assumption | omega) (by first | assumption | omega) (by first | assumption | omega) (by first | assumption | omega) (by first | assumption | omega) (by first | assumption | omega) (by first | assumption | omega) (by first | assumption | omega) (by first | assumption | omega) g_475 (by first | assumption | omega) (by first | assumption | omega)) (cwV 4 X.2.2.2.1 gX12_tick_X12_comes rfl rfl rfl (by decide +kernel) ⟨Nat.le_of_ble_eq_true rfl, Nat.le_of_ble_eq_true rfl⟩) (pre_V X hw _ t_485 rfl (by decide) rfl) rfl rfl hl.1 rfl (lv_room (Nat.le_of_ble_eq_true rfl)) dX12_tick_84 ⟨Nat.le_of_ble_eq_true rfl, Nat.le_of_ble_eq_true rfl⟩) 0 0 (Nat.le_of_ble_eq_true rfl) (Nat.le_of_ble_eq_true rfl) (fun S_492 H locs hp hw hfr hnw => ?_)
        obtain ⟨hk_493, hp⟩ := hp
        have hO_494 : Ok MTK S S_492 := hO_469.call hk_493 (by decide +kernel)
        obtain ⟨mi_495, cm_496, cs_497⟩ := hp
        have t_498 : At S_492 x 12 := hk_493.fr.at t_485
        have zc_499 : zA S_461 x 1237 = zA T_17 x 1237 := zA_sAn eS_461 (ex3 (gQ_12_1237 hO_T_17.1 ha_x_L_18)) h_446 rfl
        have zc_500 : zA S_467 x 1237 = zA T_17 x 1237 := (zA_fr hk_468.fr t_464 (ex3 (gQ_12_1237 hO_462.1 t_464)) (by decide +kernel) (by decide +kernel)).trans zc_499
        have zc_501 : zA S_492 x 1237 = zA T_17 x 1237 := (zA_fr hk_493.fr t_485 (ex3 (gQ_12_1237 hO_469.1 t_485)) (by decide +kernel) (by decide +kernel)).trans zc_500
        have t_502 : pI S_492 1201 x = v_1 := hk_493.fr.I' (by decide +kernel) t_485 t_479
        exact L_24 _ _ _ _  hw t_498 hO_494 mi_495 (GR_eq zc_501 iv_20) t_502 (lv_sub hl [0, 1] rfl)
  refine lv_aload_n X.1 X.2.1 dX12_tick_10 rfl (lv_at hl 0 rfl) ?_
  have t_503 : At S_13 x 12 := tAt_sA eS_13 ha_x
  obtain ⟨q_504, h_505, h_506, h_507⟩ := gQ_12_1214 hO_14.1 t_503
  refine r_getR (g := 1214) X hw t_503 rfl 14 h_505 (by decide) rfl inn_X12_tick_12 (by decide) (X.2.2.2.1 (.fieldLink RX12 43 "SilkMillModel" "search" "[I") (by decide +kernel)) rfl (gv_1214 _ _) dX12_tick_11 ?_
  refine lv_iload_n X.1 X.2.1 dX12_tick_14 rfl (lv_at hl 1 rfl) ?_
  refine lv_aload_n X.1 X.2.1 dX12_tick_15 rfl (lv_at hl 0 rfl) ?_
  refine lv_iload_n X.1 X.2.1 dX12_tick_16 rfl (lv_at hl 1 rfl) ?_
  refine lv_iconst (v := 2) X.1 X.2.1 dX12_tick_17 (by decide) ?_
  refine k_i (rm := { frames := 1, cells := 0, slots := 0, locals := 48 }) (av := [.ref x, .int (a1), .int 2]) X hw (va_runV (As := [.int (a1), .int 2]) (rest := [.int (a1), .ref q_504]) (cfix X) (k_X12_many2 l G cy κ S_13 _ x (a1) (a1_z) (2) (2) hO_14.1 t_503 hz_a1 ti_2 (by first | assumption | omega) (by first | assumption | omega) (by first | assumption | omega) (by first | assumption | omega)) (cwV 2 X.2.2.2.1 gX12_tick_X12_many rfl rfl rfl (by decide +kernel) ⟨Nat.le_of_ble_eq_true rfl, Nat.le_of_ble_eq_true rfl⟩) (pre_V X hw _ t_503 rfl (by decide) rfl) rfl rfl hl.1 rfl (lv_room (Nat.le_of_ble_eq_true rfl)) dX12_tick_18 ⟨Nat.le_of_ble_eq_true rfl, Nat.le_of_ble_eq_true rfl⟩) 0 0 (Nat.le_of_ble_eq_true rfl) (Nat.le_of_ble_eq_true rfl) (fun rr_508 S_509 H locs hp hw hfr hnw => ?_)
  obtain ⟨e2, hp⟩ := hp
  subst e2
  obtain ⟨f_510, f_511, f_512⟩ := hp
  refine lv_if_ne (tgt := 28) X.1 X.2.1 dX12_tick_21 (by decide) (fun c_513 => ?_) (fun c_513 => ?_)
  · have z_b_514 := trivial
    have k_515 : rr_508.toInt ≠ 0 := z_ne rfl ti_0 c_513
    refine lv_aload_n X.1 X.2.1 dX12_tick_28 rfl (lv_at hl 0 rfl) ?_
    refine r_getR (g := 1214) X hw t_503 rfl 14 h_505 (by decide) rfl inn_X12_tick_12 (by decide) (X.2.2.2.1 (.fieldLink RX12 43 "SilkMillModel" "search" "[I") (by decide +kernel)) rfl (gv_1214 _ _) dX12_tick_29 ?_
    refine lv_iload_n X.1 X.2.1 dX12_tick_32 rfl (lv_at hl 1 rfl) ?_
    refine r_iald X hw h_506 rfl (by rw [h_507]; exact z_ix hz_a1 (by omega) (by omega)) dX12_tick_33 ?_
    refine lv_topi (fun v_516 ev_516 => ?_)
    have rg_517 := And.intro (z_lo v_516) (z_hi v_516)
    have ev_516 := ev_516.symm
    refine lv_iconst (v := 1) X.1 X.2.1 dX12_tick_34 (by decide) ?_
    refine lv_iadd X.1 X.2.1 dX12_tick_35 ?_
    refine lv_topi (fun v_518 ev_518 => ?_)
    have rg_519 := And.intro (z_lo v_518) (z_hi v_518)
    refine r_iast X hw h_506 rfl (by rw [h_507]; exact z_ix hz_a1 (by omega) (by omega)) dX12_tick_36 (fun H locs hw => ?_)
    obtain ⟨S_520, eS_520⟩ : ∃ T, T = sA S_13 q_504 (upd (pA S_13 q_504) (Int32.toNatClampNeg (a1)) (v_518)) := ⟨_, rfl⟩
    rw [← eS_520] at hw
    have hO_521 : Ok MTK S S_520 := hO_14.sA eS_520 h_506 (by decide +kernel) (uA_494 hO_14.1 h_506)
    have h_522 : pA S_520 q_504 (Int32.toNatClampNeg (a1)) = v_518 := tA_sAs eS_520
    have t_523 : At S_520 x 12 := tAt_sA eS_520 t_503
    have mi_524 : MIe S_13 x (-1) := MIe_sA hp_2 hO.1 ha_x h_7 eS_13 (by decide +kernel)
    have mi_525 : MIe S_520 x (-1) := MIe_sA mi_524 hO_14.1 t_503 h_506 eS_520 (by decide +kernel)
    have zc_526 : zA S_13 x 1237 = zA S x 1237 := zA_sAn eS_13 (ex3 (gQ_12_1237 hO.1 ha_x)) h_7 rfl
    have zc_527 : zA S_520 x 1237 = zA S x 1237 := (zA_sAn eS_520 (ex3 (gQ_12_1237 hO_14.1 t_503)) h_506 rfl).trans zc_526
    have t_528 : pI S_520 1201 x = v_1 := tI_sA eS_520 t_21
    exact L_16 _ _ _ _  hw t_523 hO_521 mi_525 (GR_eq zc_527 hp_3) t_528 (lv_sub hl [0, 1] rfl)
  · have z_b_529 := trivial
    have k_530 : rr_508.toInt = 0 := z_eq rfl ti_0 c_513
    refine lv_iconst (v := 0) X.1 X.2.1 dX12_tick_24 (by decide) ?_
    refine lv_goto (tgt := 36) X.1 X.2.1 dX12_tick_25 (by decide) ?_
    refine r_iast X hw h_506 rfl (by rw [h_507]; exact z_ix hz_a1 (by omega) (by omega)) dX12_tick_36 (fun H locs hw => ?_)
    obtain ⟨S_531, eS_531⟩ : ∃ T, T = sA S_13 q_504 (upd (pA S_13 q_504) (Int32.toNatClampNeg (a1)) (0)) := ⟨_, rfl⟩
    rw [← eS_531] at hw
    have hO_532 : Ok MTK S S_531 := hO_14.sA eS_531 h_506 (by decide +kernel) (uA_494 hO_14.1 h_506)
    have h_533 : pA S_531 q_504 (Int32.toNatClampNeg (a1)) = 0 := tA_sAs eS_531
    have t_534 : At S_531 x 12 := tAt_sA eS_531 t_503
    have mi_535 : MIe S_13 x (-1) := MIe_sA hp_2 hO.1 ha_x h_7 eS_13 (by decide +kernel)
    have mi_536 : MIe S_531 x (-1) := MIe_sA mi_535 hO_14.1 t_503 h_506 eS_531 (by decide +kernel)
    have zc_537 : zA S_13 x 1237 = zA S x 1237 := zA_sAn eS_13 (ex3 (gQ_12_1237 hO.1 ha_x)) h_7 rfl
    have zc_538 : zA S_531 x 1237 = zA S x 1237 := (zA_sAn eS_531 (ex3 (gQ_12_1237 hO_14.1 t_503)) h_506 rfl).trans zc_537
    have t_539 : pI S_531 1201 x = v_1 := tI_sA eS_531 t_21
    exact L_16 _ _ _ _  hw t_534 hO_532 mi_536 (GR_eq zc_538 hp_3) t_539 (lv_sub hl [0, 1] rfl)
set_option maxHeartbeats 4000000 in
set_option maxRecDepth 100000 in
theorem k_X12_run (l : Launch) (G : va_G) (cy : Nat → ClassId) (κ : Nat → Nat) (S : PS) (sz : Nat) (x : Nat) (a1 : Int32) (a1_z : Int) (a2 : Int32) (a2_z : Int) (hG : GX S) (ha_x : At S x 12) (hz_a1 : a1.toInt = a1_z) (hz_a2 : a2.toInt = a2_z) (hp_0 : MI S x) (hp_1 : GR S x) : Ci l yX12_run wsX12_run ({ frames := 9, cells := 0, slots := 0, locals := 432 }) G cy κ S sz [.ref x, .int (a1), .int (a2)] (fun (r : Int32) (S9 : PS) => Ok MTK S S9 ∧ (MI S9 x ∧ GR S9 x)) := by
  refine ent_m (cc := cX12_run) (maxL := 5) (ret := (some .int)) (by decide) rfl (Nat.le_of_ble_eq_true rfl) ?_
  intro p e s m below meth c ls X hr hlocks hin hw hl hsz
  subst hsz
  have X : Cx p c cX12_run 5 s [.ref x, .int (a1), .int (a2)].toArray wsX12_run RX12 m G cy κ (AS S s.heap.size) := X
  have hl : lv_has ls 5 [(0, .ref x), (1, .int (a1)), (2, .int (a2))] := hl
  have rg_a1 : (-2147483648) ≤ a1_z ∧ a1_z ≤ 2147483647 := by rw [← hz_a1]; exact ⟨z_lo _, z_hi _⟩
  have rg_a2 : (-2147483648) ≤ a2_z ∧ a2_z ≤ 2147483647 := by rw [← hz_a2]; exact ⟨z_lo _, z_hi _⟩
  have hO : Ok MTK S S := Ok.rf hG
  generalize hQQ : MQ below _ _ _ _ _ _ = QQ
  replace hQQ := hQQ.symm
  refine lv_aload_n X.1 X.2.1 dX12_run_0 rfl (lv_at hl 0 rfl) ?_
  refine lv_iconst (v := 0) X.1 X.2.1 dX12_run_1 (by decide) ?_
  refine r_putI (v := 0) X hw ha_x rfl 0 1200 tyX12 (by decide) rfl inn_X12_run_12 tyX12_ok nmX12 (by decide) (X.2.2.2.1 (.fieldLink RX12 161 "SilkMillModel" "thrown" "I") (by decide +kernel)) rfl (Or.inl rfl) rfl rfl (Nat.le_of_ble_eq_true rfl) (st_1200 _ _) dX12_run_2 (fun H locs hw => ?_)
  obtain ⟨S_1, eS_1⟩ : ∃ T, T = sI S 1200 x (0) := ⟨_, rfl⟩
  rw [← eS_1] at hw
  have hO_2 : Ok MTK S S_1 := hO.sI eS_1 (by decide +kernel) (uI_12_1200 hO.1 ha_x)
  have h_3 : pI S_1 1200 x = 0 := tI_sIs eS_1
  refine lv_aload_n X.1 X.2.1 dX12_run_5 rfl (lv_at hl 0 rfl) ?_
  refine lv_iload_n X.1 X.2.1 dX12_run_6 rfl (lv_at hl 1 rfl) ?_
  have t_4 : At S_1 x 12 := tAt_sI eS_1 ha_x
  refine k_i (rm := { frames := 2, cells := 0, slots := 0, locals := 96 }) (av := [.ref x, .int (a1)]) X hw (va_runV (As := [.int (a1)]) (rest := []) (cfix X) (k_X12_isPot l G cy κ S_1 _ x (a1) (a1_z) hO_2.1 t_4 hz_a1) (cwV 1 X.2.2.2.1 gX12_run_X12_isPot rfl rfl rfl (by decide +kernel) ⟨Nat.le_of_ble_eq_true rfl, Nat.le_of_ble_eq_true rfl⟩) (pre_V X hw _ t_4 rfl (by decide) rfl) rfl rfl hl.1 rfl (lv_room (Nat.le_of_ble_eq_true rfl)) dX12_run_7 ⟨Nat.le_of_ble_eq_true rfl, Nat.le_of_ble_eq_true rfl⟩) 0 0 (Nat.le_of_ble_eq_true rfl) (Nat.le_of_ble_eq_true rfl) (fun rr_5 S_6 H locs hp hw hfr hnw => ?_)
  obtain ⟨e2, hp⟩ := hp
  subst e2
  rcases hp with ⟨f_7, er_8⟩ | ⟨f_7, er_8⟩ <;> subst er_8
  · have z_b_9 := trivial
    refine lv_if_eq (tgt := 24) X.1 X.2.1 dX12_run_10 (by decide) (fun c_10 => absurd c_10 (by decide)) (fun c_10 => ?_)
    refine lv_iload_n X.1 X.2.1 dX12_run_13 rfl (lv_at hl 2 rfl) ?_
    refine lv_iconst (v := 0) X.1 X.2.1 dX12_run_14 (by decide) ?_
    refine lv_sipush (v := 300) X.1 X.2.1 dX12_run_15 (by decide) ?_
    refine k_i (rm := { frames := 1, cells := 0, slots := 0, locals := 48 }) (av := [.int (a2), .int 0, .int 300]) X hw (va_runS (As := [.int (a2), .int 0, .int 300]) (rest := []) (cfix X) (k_X12_within l G cy κ S_1 _ (a2) (a2_z) (0) (0) (300) (300) hO_2.1 hz_a2 ti_0 ti_300) (cwS 3 X.2.2.2.1 gX12_run_X12_within rfl rfl rfl (by decide +kernel) ⟨Nat.le_of_ble_eq_true rfl, Nat.le_of_ble_eq_true rfl⟩) (pre_S X hw _) rfl rfl hl.1 rfl (lv_room (Nat.le_of_ble_eq_true rfl)) dX12_run_18 ⟨Nat.le_of_ble_eq_true rfl, Nat.le_of_ble_eq_true rfl⟩) 0 0 (Nat.le_of_ble_eq_true rfl) (Nat.le_of_ble_eq_true rfl) (fun rr_11 S_12 H locs hp hw hfr hnw => ?_)
    obtain ⟨e2, hp⟩ := hp
    subst e2
    rcases hp with ⟨f_13, er_14⟩ | ⟨f_13, er_14⟩ <;> subst er_14
    · have z_b_15 := trivial
      refine lv_if_ne (tgt := 26) X.1 X.2.1 dX12_run_21 (by decide) (fun c_16 => ?_) (fun c_16 => absurd c_16 (by decide))
      refine lv_iconst (v := 0) X.1 X.2.1 dX12_run_26 (by decide) ?_
      refine lv_istore_n (lv' := [(3, .int 0), (0, .ref x), (1, .int (a1)), (2, .int (a2))]) X.1 X.2.1 dX12_run_27 rfl hl (by decide) rfl (fun ls hl => ?_)
      refine lv_iconst (v := 0) X.1 X.2.1 dX12_run_28 (by decide) ?_
      refine lv_istore (lv' := [(4, .int 0), (3, .int 0), (0, .ref x), (1, .int (a1)), (2, .int (a2))]) X.1 X.2.1 dX12_run_29 hl (by decide) rfl (fun ls hl => ?_)
      have L_17 : ∀ (n : Nat) (T_20 : PS) (H : Heap) (locs : List Loc) (ls : Array Slot) (i3_18 : Int32) (i3_18_z : Int) (i4_19 : Int32) (i4_19_z : Int), ((300 - i4_19_z).toNat = n) → (Wd G cy (AS S s.heap.size) s.heap T_20 H locs) → (i3_18.toInt = i3_18_z) → (i4_19.toInt = i4_19_z) → (0 ≤ i4_19_z ∧ i4_19_z ≤ 300) → (At T_20 x 12) → (Ok MTK S T_20) → (MIe T_20 x (-1)) → (GR T_20 x) → (lv_has ls 5 [(3, .int (i3_18)), (4, .int (i4_19)), (0, .ref x), (1, .int (a1)), (2, .int (a2))]) → W p l e ({ frames := 9, cells := 0, slots := 0, locals := 432 }) s m [.ref x, .int (a1), .int (a2)].toArray below meth c H locs 0 0 QQ (F0 m 31 ls []) := by
        intro n
        induction n using Nat.strongRecOn with
        | ind n ih_L_17 =>
        intro T_20 H locs ls i3_18 i3_18_z i4_19 i4_19_z hn hw hz_i3_18 hz_i4_19 hr_i4_19 ha_x_L_21 hO_T_20 mk_22 iv_23 hl
        have rg_24 : (-2147483648) ≤ i3_18_z ∧ i3_18_z ≤ 2147483647 := by rw [← hz_i3_18]; exact ⟨z_lo _, z_hi _⟩
        have rg_25 : (-2147483648) ≤ i4_19_z ∧ i4_19_z ≤ 2147483647 := by rw [← hz_i4_19]; exact ⟨z_lo _, z_hi _⟩
        refine lv_iload X.1 X.2.1 dX12_run_31 (lv_at hl 1 rfl) ?_
        refine lv_iload_n X.1 X.2.1 dX12_run_33 rfl (lv_at hl 4 rfl) ?_
        refine lv_icmp_ge (tgt := 59) X.1 X.2.1 dX12_run_34 (by decide) (fun c_26 => ?_) (fun c_26 => ?_)
        · have z_b_27 := trivial
          have k_28 : i4_19_z ≥ a2_z := z_le hz_a2 hz_i4_19 c_26
          refine lv_iload_n X.1 X.2.1 dX12_run_59 rfl (lv_at hl 0 rfl) ?_
          rw [hQQ]
          exact ret_i X hw hr hlocks (Nat.le_of_ble_eq_true rfl) (Nat.le_of_ble_eq_true rfl) ⟨hO_T_20, ⟨mk_22, iv_23⟩⟩ dX12_run_60
        · have z_b_29 := trivial
          have k_30 : i4_19_z < a2_z := z_nle hz_a2 hz_i4_19 c_26
          refine lv_iload_n X.1 X.2.1 dX12_run_37 rfl (lv_at hl 0 rfl) ?_
          refine lv_aload_n X.1 X.2.1 dX12_run_38 rfl (lv_at hl 2 rfl) ?_
          refine lv_iload_n X.1 X.2.1 dX12_run_39 rfl (lv_at hl 3 rfl) ?_
          refine k_i (rm := { frames := 8, cells := 0, slots := 0, locals := 384 }) (av := [.ref x, .int (a1)]) X hw (va_runV (As := [.int (a1)]) (rest := [.int (i3_18)]) (cfix X) (k_X12_tick l G cy κ T_20 _ x (a1) (a1_z) hO_T_20.1 ha_x_L_21 hz_a1 (by first | assumption | omega) (by first | assumption | omega) mk_22 iv_23) (cwV 1 X.2.2.2.1 gX12_run_X12_tick rfl rfl rfl (by decide +kernel) ⟨Nat.le_of_ble_eq_true rfl, Nat.le_of_ble_eq_true rfl⟩) (pre_V X hw _ ha_x_L_21 rfl (by decide) rfl) rfl rfl hl.1 rfl (lv_room (Nat.le_of_ble_eq_true rfl)) dX12_run_40 ⟨Nat.le_of_ble_eq_true rfl, Nat.le_of_ble_eq_true rfl⟩) 0 0 (Nat.le_of_ble_eq_true rfl) (Nat.le_of_ble_eq_true rfl) (fun rr_31 S_32 H locs hp hw hfr hnw => ?_)
          obtain ⟨hk_33, hp⟩ := hp
          have hO_34 : Ok MTK S S_32 := hO_T_20.call hk_33 (by decide +kernel)
          rcases hp with ⟨f_35, er_36⟩ | ⟨f_35, er_36⟩ <;> subst er_36
          · have z_b_37 := trivial
            obtain ⟨mi_38, gr_39⟩ := f_35
            refine lv_if_eq (tgt := 50) X.1 X.2.1 dX12_run_43 (by decide) (fun c_40 => absurd c_40 (by decide)) (fun c_40 => ?_)
            refine lv_iconst (v := 1) X.1 X.2.1 dX12_run_46 (by decide) ?_
            refine lv_goto (tgt := 51) X.1 X.2.1 dX12_run_47 (by decide) ?_
            refine lv_iadd X.1 X.2.1 dX12_run_51 ?_
            refine lv_topi (fun v_41 ev_41 => ?_)
            have rg_42 := And.intro (z_lo v_41) (z_hi v_41)
            refine lv_istore_n (lv' := [(3, .int (v_41)), (4, .int (i4_19)), (0, .ref x), (1, .int (a1)), (2, .int (a2))]) X.1 X.2.1 dX12_run_52 rfl hl (by decide) rfl (fun ls hl => ?_)
            obtain ⟨x_43, ex_43⟩ : ∃ y : Int32, y = i4_19 + 1 := ⟨_, rfl⟩
            have z_44 : x_43.toInt = i4_19_z + 1 := z_add ex_43 hz_i4_19 ti_1 (by omega) (by omega)
            refine lv_iinc (v := x_43) (lv' := [(4, .int (x_43)), (3, .int (v_41)), (0, .ref x), (1, .int (a1)), (2, .int (a2))]) X.1 X.2.1 dX12_run_53 hl (k := 1) rfl (by rw [ex_43]; rfl) (by decide) rfl (fun ls hl => ?_)
            refine lv_goto (tgt := 31) X.1 X.2.1 dX12_run_56 (by decide) ?_
            have t_45 : At S_32 x 12 := hk_33.fr.at ha_x_L_21
            exact ih_L_17 _ (by omega) _ _ _ _ (v_41) (v_41.toInt) (x_43) (x_43.toInt) rfl hw rfl rfl (by omega) t_45 hO_34 mi_38 gr_39 (lv_sub hl [1, 0, 2, 3, 4] rfl)
          · have z_b_46 := trivial
            obtain ⟨mi_47, gr_48⟩ := f_35
            refine lv_if_eq (tgt := 50) X.1 X.2.1 dX12_run_43 (by decide) (fun c_49 => ?_) (fun c_49 => absurd c_49 (by decide))
            refine lv_iconst (v := 0) X.1 X.2.1 dX12_run_50 (by decide) ?_
            refine lv_iadd X.1 X.2.1 dX12_run_51 ?_
            refine lv_topi (fun v_50 ev_50 => ?_)
            have z_51 : v_50.toInt = i3_18_z + 0 := z_add ev_50 hz_i3_18 ti_0 (by omega) (by omega)
            refine lv_istore_n (lv' := [(3, .int (v_50)), (4, .int (i4_19)), (0, .ref x), (1, .int (a1)), (2, .int (a2))]) X.1 X.2.1 dX12_run_52 rfl hl (by decide) rfl (fun ls hl => ?_)
            obtain ⟨x_52, ex_52⟩ : ∃ y : Int32, y = i4_19 + 1 := ⟨_, rfl⟩
            have z_53 : x_52.toInt = i4_19_z + 1 := z_add ex_52 hz_i4_19 ti_1 (by omega) (by omega)
            refine lv_iinc (v := x_52) (lv' := [(4, .int (x_52)), (3, .int (v_50)), (0, .ref x), (1, .int (a1)), (2, .int (a2))]) X.1 X.2.1 dX12_run_53 hl (k := 1) rfl (by rw [ex_52]; rfl) (by decide) rfl (fun ls hl => ?_)
            refine lv_goto (tgt := 31) X.1 X.2.1 dX12_run_56 (by decide) ?_
            have t_54 : At S_32 x 12 := hk_33.fr.at ha_x_L_21
            exact ih_L_17 _ (by omega) _ _ _ _ (v_50) ((i3_18_z + 0)) (x_52) (x_52.toInt) rfl hw z_51 rfl (by omega) t_54 hO_34 mi_47 gr_48 (lv_sub hl [1, 0, 2, 3, 4] rfl)
      have mi_55 : MIe S_1 x (-1) := MIe_sI hp_0 hO.1 ha_x eS_1 (by decide +kernel)
      have zc_56 : zA S_1 x 1237 = zA S x 1237 := zA_sI eS_1
      exact L_17 _ _ _ _ _ (0) (0) (0) (0) rfl hw ti_0 ti_0 (by omega) t_4 hO_2 mi_55 (GR_eq zc_56 hp_1) (lv_sub hl [1, 0, 2, 3, 4] rfl)
    · have z_b_57 := trivial
      refine lv_if_ne (tgt := 26) X.1 X.2.1 dX12_run_21 (by decide) (fun c_58 => absurd c_58 (by decide)) (fun c_58 => ?_)
      refine lv_iconst (v := (-1)) X.1 X.2.1 dX12_run_24 (by decide) ?_
      have mi_59 : MIe S_1 x (-1) := MIe_sI hp_0 hO.1 ha_x eS_1 (by decide +kernel)
      have zc_60 : zA S_1 x 1237 = zA S x 1237 := zA_sI eS_1
      rw [hQQ]
      exact ret_i X hw hr hlocks (Nat.le_of_ble_eq_true rfl) (Nat.le_of_ble_eq_true rfl) ⟨hO_2, ⟨mi_59, (GR_eq zc_60 hp_1)⟩⟩ dX12_run_25
  · have z_b_61 := trivial
    refine lv_if_eq (tgt := 24) X.1 X.2.1 dX12_run_10 (by decide) (fun c_62 => ?_) (fun c_62 => absurd c_62 (by decide))
    refine lv_iconst (v := (-1)) X.1 X.2.1 dX12_run_24 (by decide) ?_
    have mi_63 : MIe S_1 x (-1) := MIe_sI hp_0 hO.1 ha_x eS_1 (by decide +kernel)
    have zc_64 : zA S_1 x 1237 = zA S x 1237 := zA_sI eS_1
    rw [hQQ]
    exact ret_i X hw hr hlocks (Nat.le_of_ble_eq_true rfl) (Nat.le_of_ble_eq_true rfl) ⟨hO_2, ⟨mi_63, (GR_eq zc_64 hp_1)⟩⟩ dX12_run_25
