def MAC : List Nat := [1200, 1238, 1246, 10914, 10934, 10954, 10994, 11014, 11034, 11054, 11074, 11095, 10354, 10394, 10574, 10594, 10494, 10514]
def MTK : List Nat := [1200, 1238, 1246, 10914, 10934, 10954, 10994, 11014, 11034, 11054, 11074, 11095, 10354, 10394, 10574, 10594, 10494, 10514, 1247, 10374, 10534, 10554]
set_option maxRecDepth 20000 in
theorem ggX12_acts_X12_many : GoodIn wsX12_acts wsX12_many := goodIn_h _ [10, 0, 67, 0, 0, 0, 0, 0, 0, 0, 0, 0, 0, 0, 0, 0, 0, 0, 0, 0, 0, 0, 0, 0, 0, 0, 0, 0, 0, 0, 0, 0, 0, 0, 0, 0, 0, 0, 0, 0, 0, 0, 0, 0, 0, 0, 0, 0, 0, 0, 0, 0, 0, 0, 0, 0, 0, 0, 0, 0, 0, 0, 0, 0, 0, 0, 0, 0] [0, 1, 2, 3, 4, 5, 6, 7, 8, 9, 10, 11, 12, 13, 14, 15, 16, 17, 18, 19, 20, 21, 22, 23, 24, 25, 26, 27, 28, 29, 30, 31, 32, 33, 34, 35, 36, 37, 38, 39, 40, 41, 42, 43, 44, 45, 46, 47, 48, 49, 50, 51, 52, 53, 54, 55, 56, 57, 58, 59, 60, 61, 62, 63, 64, 65, 66, 67] (by decide +kernel) (by decide +kernel)
set_option maxRecDepth 20000 in
theorem gX12_acts_X12_many : GoodIn wsX12_acts (wsV RX12 204 RX12 yX12_many wsX12_many) := goodIn_app (goodIn_of _ (by decide +kernel)) ggX12_acts_X12_many
set_option maxRecDepth 20000 in
theorem ggX12_acts_X12_goes : GoodIn wsX12_acts wsX12_goes := goodIn_h _ [11, 3, 0, 62, 0, 0, 0, 0, 0, 0, 0, 0, 0, 0, 0, 0, 0, 0, 0, 0, 0, 0, 0, 0, 0, 0, 0, 0, 0, 0, 0, 0, 0, 0, 0, 0, 0, 0, 0, 0, 0, 0, 0, 0, 0, 0, 0, 0, 0, 0, 0, 0, 0, 0, 0, 0, 0, 0, 0, 0, 0, 0, 0, 0, 0, 0, 0, 0, 0] [1, 2, 0, 3, 4, 5, 6, 7, 8, 9, 10, 11, 12, 13, 14, 15, 16, 17, 18, 19, 20, 21, 22, 23, 24, 25, 26, 27, 28, 29, 30, 31, 32, 33, 34, 35, 36, 37, 38, 39, 40, 41, 42, 43, 44, 45, 46, 47, 48, 49, 50, 51, 52, 53, 54, 55, 56, 57, 58, 59, 60, 61, 62, 63, 64, 65, 66, 67, 68] (by decide +kernel) (by decide +kernel)
set_option maxRecDepth 20000 in
theorem gX12_acts_X12_goes : GoodIn wsX12_acts (wsV RX12 320 RX12 yX12_goes wsX12_goes) := goodIn_app (goodIn_of _ (by decide +kernel)) ggX12_acts_X12_goes
set_option maxRecDepth 20000 in
theorem ggX12_acts_X12_comes : GoodIn wsX12_acts wsX12_comes := goodIn_h _ [4, 6, 4, 3, 0, 57, 0, 0, 0, 0, 0, 0, 0, 0, 0, 0, 0, 0, 0, 0, 0, 0, 0, 0, 0, 0, 0, 0, 0, 0, 0, 0, 0, 0, 0, 0, 0, 0, 0, 0, 0, 0, 0, 0, 0, 0, 0, 0, 0, 0, 0, 0, 0, 0, 0, 0, 0, 0, 0, 0, 0, 0, 0, 0, 0, 0, 0, 0, 0, 0, 0] [3, 1, 2, 0, 4, 5, 6, 7, 8, 9, 10, 11, 12, 13, 14, 15, 16, 17, 18, 19, 20, 21, 22, 23, 24, 25, 26, 27, 28, 29, 30, 31, 32, 33, 34, 35, 36, 37, 38, 39, 40, 41, 42, 43, 44, 45, 46, 47, 48, 49, 50, 51, 52, 53, 54, 55, 56, 57, 58, 59, 60, 61, 62, 63, 64, 65, 66, 67, 68, 69, 70] (by decide +kernel) (by decide +kernel)
set_option maxRecDepth 20000 in
theorem gX12_acts_X12_comes : GoodIn wsX12_acts (wsV RX12 207 RX12 yX12_comes wsX12_comes) := goodIn_app (goodIn_of _ (by decide +kernel)) ggX12_acts_X12_comes
set_option maxRecDepth 20000 in
theorem ggX12_acts_X12_thinnest : GoodIn wsX12_acts wsX12_thinnest := goodIn_h _ [6, 0, 0, 0, 0, 0, 4, 8, 0, 0, 0, 0, 0, 0, 0, 0, 0, 0, 0, 0, 0, 0, 0, 0, 0, 0, 0, 0, 0, 0, 0, 0, 29, 0, 0, 0, 0, 0, 0, 0, 0, 0, 0, 0, 0, 0, 0, 0, 0, 0, 0, 0, 0, 0, 0, 0, 0, 0, 0, 0, 0, 0, 0, 0, 0, 0, 0, 0, 0, 0, 0, 0, 0, 0, 0, 0, 0, 0, 0, 0, 0, 0, 0, 0, 0, 0, 0, 0, 0, 0, 0, 0, 0, 0, 0, 0, 0, 0] [7, 8, 0, 1, 2, 3, 4, 5, 9, 10, 11, 12, 6, 13, 14, 15, 16, 17, 18, 19, 20, 21, 22, 23, 24, 25, 26, 27, 28, 29, 30, 31, 32, 33, 34, 35, 36, 37, 38, 39, 40, 41, 42, 43, 44, 45, 46, 47, 48, 49, 50, 51, 52, 53, 54, 55, 56, 57, 58, 59, 60, 61, 62, 63, 64, 65, 66, 67, 68, 69, 70, 71, 72, 73, 74, 75, 76, 77, 78, 79, 80, 81, 82, 83, 84, 85, 86, 87, 88, 89, 90, 91, 92, 93, 94, 95, 96, 97] (by decide +kernel) (by decide +kernel)
set_option maxRecDepth 20000 in
theorem gX12_acts_X12_thinnest : GoodIn wsX12_acts (wsV RX12 314 RX12 yX12_thinnest wsX12_thinnest) := goodIn_app (goodIn_of _ (by decide +kernel)) ggX12_acts_X12_thinnest
set_option maxRecDepth 20000 in
theorem ggX12_acts_X12_cuts : GoodIn wsX12_acts wsX12_cuts := goodIn_h _ [9, 21, 0, 0, 0, 0, 0, 0, 0, 0, 0, 0, 0, 0, 0, 0, 0, 0, 0, 0, 3, 0, 0, 0, 0, 0, 0, 0, 0, 0, 0, 0, 0, 0, 0, 0, 0, 0, 0, 0, 0, 0, 0, 0, 0, 0, 0, 0, 0, 0, 0, 0, 0, 0, 0, 0, 0, 0, 0, 0, 0, 0, 0, 0, 0, 0, 0, 0, 0, 0, 0, 0, 0, 0, 0, 0, 0, 0, 0, 0, 0, 0, 0, 0, 0, 0, 0, 0, 0, 0, 0, 0, 0, 0, 0, 0, 0, 0, 0, 0, 0, 0, 0, 0, 0, 0, 0, 0, 0, 0, 0, 0] [20, 21, 22, 23, 24, 25, 26, 27, 28, 29, 30, 31, 32, 33, 34, 35, 36, 0, 37, 38, 39, 40, 41, 42, 43, 44, 45, 1, 2, 3, 4, 5, 6, 7, 8, 9, 10, 11, 12, 13, 14, 15, 16, 17, 18, 19, 46, 47, 48, 49, 50, 51, 52, 53, 54, 55, 56, 57, 58, 59, 60, 61, 62, 63, 64, 65, 66, 67, 68, 69, 70, 71, 72, 73, 74, 75, 76, 77, 78, 79, 80, 81, 82, 83, 84, 85, 86, 87, 88, 89, 90, 91, 92, 93, 94, 95, 96, 97, 98, 99, 100, 101, 102, 103, 104, 105, 106, 107, 108, 109, 110, 111] (by decide +kernel) (by decide +kernel)
set_option maxRecDepth 20000 in
theorem gX12_acts_X12_cuts : GoodIn wsX12_acts (wsV RX12 305 RX12 yX12_cuts wsX12_cuts) := goodIn_app (goodIn_of _ (by decide +kernel)) ggX12_acts_X12_cuts
theorem dX12_acts_0 : decode cX12_acts 0 = .ok (.aload_n 0, 1) := by decide +kernel
theorem dX12_acts_1 : decode cX12_acts 1 = .ok (.getfield 64, 3) := by decide +kernel
theorem dX12_acts_4 : decode cX12_acts 4 = .ok (.iload_n 2, 1) := by decide +kernel
theorem dX12_acts_5 : decode cX12_acts 5 = .ok (.iaload, 1) := by decide +kernel
theorem dX12_acts_6 : decode cX12_acts 6 = .ok (.tableswitch 196 0 4 #[34, 74, 102, 158, 189], 34) := by decide +kernel
theorem dX12_acts_40 : decode cX12_acts 40 = .ok (.aload_n 0, 1) := by decide +kernel
theorem dX12_acts_41 : decode cX12_acts 41 = .ok (.iload_n 1, 1) := by decide +kernel
theorem dX12_acts_42 : decode cX12_acts 42 = .ok (.iconst 0, 1) := by decide +kernel
theorem dX12_acts_43 : decode cX12_acts 43 = .ok (.invokevirtual 204, 3) := by decide +kernel
theorem dX12_acts_46 : decode cX12_acts 46 = .ok (.ifCond .le 33, 3) := by decide +kernel
theorem dX12_acts_49 : decode cX12_acts 49 = .ok (.aload_n 0, 1) := by decide +kernel
theorem dX12_acts_50 : decode cX12_acts 50 = .ok (.iload_n 1, 1) := by decide +kernel
theorem dX12_acts_51 : decode cX12_acts 51 = .ok (.iconst 1, 1) := by decide +kernel
theorem dX12_acts_52 : decode cX12_acts 52 = .ok (.invokevirtual 204, 3) := by decide +kernel
theorem dX12_acts_55 : decode cX12_acts 55 = .ok (.bipush 12, 2) := by decide +kernel
theorem dX12_acts_57 : decode cX12_acts 57 = .ok (.if_icmp .ge 22, 3) := by decide +kernel
theorem dX12_acts_60 : decode cX12_acts 60 = .ok (.aload_n 0, 1) := by decide +kernel
theorem dX12_acts_61 : decode cX12_acts 61 = .ok (.iload_n 1, 1) := by decide +kernel
theorem dX12_acts_62 : decode cX12_acts 62 = .ok (.iconst 1, 1) := by decide +kernel
theorem dX12_acts_63 : decode cX12_acts 63 = .ok (.aload_n 0, 1) := by decide +kernel
theorem dX12_acts_64 : decode cX12_acts 64 = .ok (.iload_n 1, 1) := by decide +kernel
theorem dX12_acts_65 : decode cX12_acts 65 = .ok (.iconst 0, 1) := by decide +kernel
theorem dX12_acts_66 : decode cX12_acts 66 = .ok (.iconst 0, 1) := by decide +kernel
theorem dX12_acts_67 : decode cX12_acts 67 = .ok (.invokevirtual 320, 3) := by decide +kernel
theorem dX12_acts_70 : decode cX12_acts 70 = .ok (.aload_n 0, 1) := by decide +kernel
theorem dX12_acts_71 : decode cX12_acts 71 = .ok (.iload_n 1, 1) := by decide +kernel
theorem dX12_acts_72 : decode cX12_acts 72 = .ok (.iconst 1, 1) := by decide +kernel
theorem dX12_acts_73 : decode cX12_acts 73 = .ok (.invokevirtual 204, 3) := by decide +kernel
theorem dX12_acts_76 : decode cX12_acts 76 = .ok (.invokevirtual 207, 3) := by decide +kernel
theorem dX12_acts_79 : decode cX12_acts 79 = .ok (.return_, 1) := by decide +kernel
theorem dX12_acts_80 : decode cX12_acts 80 = .ok (.aload_n 0, 1) := by decide +kernel
theorem dX12_acts_81 : decode cX12_acts 81 = .ok (.iload_n 1, 1) := by decide +kernel
theorem dX12_acts_82 : decode cX12_acts 82 = .ok (.iconst 1, 1) := by decide +kernel
theorem dX12_acts_83 : decode cX12_acts 83 = .ok (.invokevirtual 204, 3) := by decide +kernel
theorem dX12_acts_86 : decode cX12_acts 86 = .ok (.ifCond .le 21, 3) := by decide +kernel
theorem dX12_acts_89 : decode cX12_acts 89 = .ok (.aload_n 0, 1) := by decide +kernel
theorem dX12_acts_90 : decode cX12_acts 90 = .ok (.iload_n 1, 1) := by decide +kernel
theorem dX12_acts_91 : decode cX12_acts 91 = .ok (.iconst 0, 1) := by decide +kernel
theorem dX12_acts_92 : decode cX12_acts 92 = .ok (.aload_n 0, 1) := by decide +kernel
theorem dX12_acts_93 : decode cX12_acts 93 = .ok (.iload_n 1, 1) := by decide +kernel
theorem dX12_acts_94 : decode cX12_acts 94 = .ok (.iconst 1, 1) := by decide +kernel
theorem dX12_acts_95 : decode cX12_acts 95 = .ok (.aload_n 0, 1) := by decide +kernel
theorem dX12_acts_96 : decode cX12_acts 96 = .ok (.iload_n 1, 1) := by decide +kernel
theorem dX12_acts_97 : decode cX12_acts 97 = .ok (.invokevirtual 314, 3) := by decide +kernel
theorem dX12_acts_100 : decode cX12_acts 100 = .ok (.invokevirtual 320, 3) := by decide +kernel
theorem dX12_acts_103 : decode cX12_acts 103 = .ok (.iconst 0, 1) := by decide +kernel
theorem dX12_acts_104 : decode cX12_acts 104 = .ok (.invokevirtual 207, 3) := by decide +kernel
theorem dX12_acts_107 : decode cX12_acts 107 = .ok (.return_, 1) := by decide +kernel
theorem dX12_acts_108 : decode cX12_acts 108 = .ok (.aload_n 0, 1) := by decide +kernel
theorem dX12_acts_109 : decode cX12_acts 109 = .ok (.iload_n 1, 1) := by decide +kernel
theorem dX12_acts_110 : decode cX12_acts 110 = .ok (.iconst 2, 1) := by decide +kernel
theorem dX12_acts_111 : decode cX12_acts 111 = .ok (.invokevirtual 204, 3) := by decide +kernel
theorem dX12_acts_114 : decode cX12_acts 114 = .ok (.ifCond .ne 4, 3) := by decide +kernel
theorem dX12_acts_117 : decode cX12_acts 117 = .ok (.return_, 1) := by decide +kernel
theorem dX12_acts_118 : decode cX12_acts 118 = .ok (.aload_n 0, 1) := by decide +kernel
theorem dX12_acts_119 : decode cX12_acts 119 = .ok (.iload_n 1, 1) := by decide +kernel
theorem dX12_acts_120 : decode cX12_acts 120 = .ok (.iconst 0, 1) := by decide +kernel
theorem dX12_acts_121 : decode cX12_acts 121 = .ok (.aload_n 0, 1) := by decide +kernel
theorem dX12_acts_122 : decode cX12_acts 122 = .ok (.iload_n 1, 1) := by decide +kernel
theorem dX12_acts_123 : decode cX12_acts 123 = .ok (.iconst 2, 1) := by decide +kernel
theorem dX12_acts_124 : decode cX12_acts 124 = .ok (.iconst 0, 1) := by decide +kernel
theorem dX12_acts_125 : decode cX12_acts 125 = .ok (.invokevirtual 320, 3) := by decide +kernel
theorem dX12_acts_128 : decode cX12_acts 128 = .ok (.aload_n 0, 1) := by decide +kernel
theorem dX12_acts_129 : decode cX12_acts 129 = .ok (.iload_n 1, 1) := by decide +kernel
theorem dX12_acts_130 : decode cX12_acts 130 = .ok (.iconst 0, 1) := by decide +kernel
theorem dX12_acts_131 : decode cX12_acts 131 = .ok (.invokevirtual 204, 3) := by decide +kernel
theorem dX12_acts_134 : decode cX12_acts 134 = .ok (.invokevirtual 207, 3) := by decide +kernel
theorem dX12_acts_137 : decode cX12_acts 137 = .ok (.aload_n 0, 1) := by decide +kernel
theorem dX12_acts_138 : decode cX12_acts 138 = .ok (.iload_n 1, 1) := by decide +kernel
theorem dX12_acts_139 : decode cX12_acts 139 = .ok (.iconst 2, 1) := by decide +kernel
theorem dX12_acts_140 : decode cX12_acts 140 = .ok (.invokevirtual 204, 3) := by decide +kernel
theorem dX12_acts_143 : decode cX12_acts 143 = .ok (.ifCond .ne 10, 3) := by decide +kernel
theorem dX12_acts_146 : decode cX12_acts 146 = .ok (.aload_n 0, 1) := by decide +kernel
theorem dX12_acts_147 : decode cX12_acts 147 = .ok (.getfield 43, 3) := by decide +kernel
theorem dX12_acts_150 : decode cX12_acts 150 = .ok (.iload_n 1, 1) := by decide +kernel
theorem dX12_acts_151 : decode cX12_acts 151 = .ok (.iconst 0, 1) := by decide +kernel
theorem dX12_acts_152 : decode cX12_acts 152 = .ok (.iastore, 1) := by decide +kernel
theorem dX12_acts_153 : decode cX12_acts 153 = .ok (.aload_n 0, 1) := by decide +kernel
theorem dX12_acts_154 : decode cX12_acts 154 = .ok (.getfield 46, 3) := by decide +kernel
theorem dX12_acts_157 : decode cX12_acts 157 = .ok (.iload_n 1, 1) := by decide +kernel
theorem dX12_acts_158 : decode cX12_acts 158 = .ok (.dup2, 1) := by decide +kernel
theorem dX12_acts_159 : decode cX12_acts 159 = .ok (.iaload, 1) := by decide +kernel
theorem dX12_acts_160 : decode cX12_acts 160 = .ok (.iconst 2, 1) := by decide +kernel
theorem dX12_acts_161 : decode cX12_acts 161 = .ok (.iadd, 1) := by decide +kernel
theorem dX12_acts_162 : decode cX12_acts 162 = .ok (.iastore, 1) := by decide +kernel
theorem dX12_acts_163 : decode cX12_acts 163 = .ok (.return_, 1) := by decide +kernel
theorem dX12_acts_164 : decode cX12_acts 164 = .ok (.aload_n 0, 1) := by decide +kernel
theorem dX12_acts_165 : decode cX12_acts 165 = .ok (.iload_n 1, 1) := by decide +kernel
theorem dX12_acts_166 : decode cX12_acts 166 = .ok (.iconst 0, 1) := by decide +kernel
theorem dX12_acts_167 : decode cX12_acts 167 = .ok (.invokevirtual 204, 3) := by decide +kernel
theorem dX12_acts_170 : decode cX12_acts 170 = .ok (.ifCond .le 24, 3) := by decide +kernel
theorem dX12_acts_173 : decode cX12_acts 173 = .ok (.aload_n 0, 1) := by decide +kernel
theorem dX12_acts_174 : decode cX12_acts 174 = .ok (.getfield 25, 3) := by decide +kernel
theorem dX12_acts_177 : decode cX12_acts 177 = .ok (.aload_n 0, 1) := by decide +kernel
theorem dX12_acts_178 : decode cX12_acts 178 = .ok (.iload_n 1, 1) := by decide +kernel
theorem dX12_acts_179 : decode cX12_acts 179 = .ok (.iconst 0, 1) := by decide +kernel
theorem dX12_acts_180 : decode cX12_acts 180 = .ok (.aload_n 0, 1) := by decide +kernel
theorem dX12_acts_181 : decode cX12_acts 181 = .ok (.iload_n 1, 1) := by decide +kernel
theorem dX12_acts_182 : decode cX12_acts 182 = .ok (.iconst 0, 1) := by decide +kernel
theorem dX12_acts_183 : decode cX12_acts 183 = .ok (.invokevirtual 204, 3) := by decide +kernel
theorem dX12_acts_186 : decode cX12_acts 186 = .ok (.iconst 1, 1) := by decide +kernel
theorem dX12_acts_187 : decode cX12_acts 187 = .ok (.isub, 1) := by decide +kernel
theorem dX12_acts_188 : decode cX12_acts 188 = .ok (.invokevirtual 320, 3) := by decide +kernel
theorem dX12_acts_191 : decode cX12_acts 191 = .ok (.bipush 6, 2) := by decide +kernel
theorem dX12_acts_193 : decode cX12_acts 193 = .ok (.iastore, 1) := by decide +kernel
theorem dX12_acts_194 : decode cX12_acts 194 = .ok (.return_, 1) := by decide +kernel
theorem dX12_acts_195 : decode cX12_acts 195 = .ok (.aload_n 0, 1) := by decide +kernel
theorem dX12_acts_196 : decode cX12_acts 196 = .ok (.iload_n 1, 1) := by decide +kernel
theorem dX12_acts_197 : decode cX12_acts 197 = .ok (.invokevirtual 305, 3) := by decide +kernel
theorem dX12_acts_200 : decode cX12_acts 200 = .ok (.istore_n 3, 1) := by decide +kernel
theorem dX12_acts_201 : decode cX12_acts 201 = .ok (.return_, 1) := by decide +kernel
theorem dX12_acts_202 : decode cX12_acts 202 = .ok (.aload_n 0, 1) := by decide +kernel
theorem dX12_acts_203 : decode cX12_acts 203 = .ok (.getfield 46, 3) := by decide +kernel
theorem dX12_acts_206 : decode cX12_acts 206 = .ok (.iload_n 1, 1) := by decide +kernel
theorem dX12_acts_207 : decode cX12_acts 207 = .ok (.dup2, 1) := by decide +kernel
theorem dX12_acts_208 : decode cX12_acts 208 = .ok (.iaload, 1) := by decide +kernel
theorem dX12_acts_209 : decode cX12_acts 209 = .ok (.aload_n 0, 1) := by decide +kernel
theorem dX12_acts_210 : decode cX12_acts 210 = .ok (.getfield 67, 3) := by decide +kernel
theorem dX12_acts_213 : decode cX12_acts 213 = .ok (.iload_n 2, 1) := by decide +kernel
theorem dX12_acts_214 : decode cX12_acts 214 = .ok (.iaload, 1) := by decide +kernel
theorem dX12_acts_215 : decode cX12_acts 215 = .ok (.iadd, 1) := by decide +kernel
theorem dX12_acts_216 : decode cX12_acts 216 = .ok (.iastore, 1) := by decide +kernel
theorem dX12_acts_217 : decode cX12_acts 217 = .ok (.return_, 1) := by decide +kernel
theorem inn_X12_acts_12 : ∀ w ∈ u_ws RX12 TX12 66, w ∈ wsX12_acts := fun w h => List.mem_cons_of_mem _ (List.mem_append_right _ h)
set_option maxHeartbeats 4000000 in
set_option maxRecDepth 100000 in
theorem k_X12_acts (l : Launch) (G : va_G) (cy : Nat → ClassId) (κ : Nat → Nat) (S : PS) (sz : Nat) (x : Nat) (a1 : Int32) (a1_z : Int) (a2 : Int32) (a2_z : Int) (hG : GX S) (ha_x : At S x 12) (hz_a1 : a1.toInt = a1_z) (hz_a2 : a2.toInt = a2_z) (hp_0 : 0 ≤ a1_z) (hp_1 : a1_z ≤ 3) (hp_2 : 0 ≤ a2_z) (hp_3 : a2_z ≤ 59) (hp_4 : MI S x) : Cv l yX12_acts wsX12_acts ({ frames := 7, cells := 0, slots := 0, locals := 336 }) G cy κ S sz [.ref x, .int (a1), .int (a2)] (fun (S9 : PS) => Ok MAC S S9 ∧ (MI S9 x ∧ (GR S x → GR S9 x))) := by
  refine ent_m (cc := cX12_acts) (maxL := 4) (ret := none) (by decide) rfl (Nat.le_of_ble_eq_true rfl) ?_
  intro p e s m below meth c ls X hr hlocks hin hw hl hsz
  subst hsz
  have X : Cx p c cX12_acts 4 s [.ref x, .int (a1), .int (a2)].toArray wsX12_acts RX12 m G cy κ (AS S s.heap.size) := X
  have hl : lv_has ls 4 [(0, .ref x), (1, .int (a1)), (2, .int (a2))] := hl
  have rg_a1 : (-2147483648) ≤ a1_z ∧ a1_z ≤ 2147483647 := by rw [← hz_a1]; exact ⟨z_lo _, z_hi _⟩
  have rg_a2 : (-2147483648) ≤ a2_z ∧ a2_z ≤ 2147483647 := by rw [← hz_a2]; exact ⟨z_lo _, z_hi _⟩
  have hO : Ok MAC S S := Ok.rf hG
  obtain ⟨v_1, ev_1⟩ : ∃ v, pI S 1201 x = v := ⟨_, rfl⟩
  have rg_2 := gI_12_1201 hO.1 ha_x; rw [ev_1] at rg_2
  have pz_3 : (pI S 1201 x).toInt = v_1.toInt := by rw [ev_1]
  have pz_4 : (pI S 1201 x).toInt = v_1.toInt := (congrArg Int32.toInt ev_1).trans rfl
  refine lv_aload_n X.1 X.2.1 dX12_acts_0 rfl (lv_at hl 0 rfl) ?_
  obtain ⟨q_5, h_6, h_7, h_8⟩ := gQ_12_1221 hO.1 ha_x
  refine r_getR (g := 1221) X hw ha_x rfl 21 h_6 (by decide) rfl inn_X12_acts_12 (by decide) (X.2.2.2.1 (.fieldLink RX12 64 "SilkMillModel" "act" "[I") (by decide +kernel)) rfl (gv_1221 _ _) dX12_acts_1 ?_
  refine lv_iload_n X.1 X.2.1 dX12_acts_4 rfl (lv_at hl 2 rfl) ?_
  refine r_iald X hw h_7 rfl (by rw [h_8]; exact z_ix hz_a2 (by omega) (by omega)) dX12_acts_5 ?_
  refine lv_topi (fun v_9 ev_9 => ?_)
  have rg_10 := And.intro (z_lo v_9) (z_hi v_9)
  have ev_9 := ev_9.symm
  by_cases w_11 : (v_9).toInt < 0 ∨ 4 < (v_9).toInt
  · refine lv_tableOut (tgt := 202) X.1 X.2.1 dX12_acts_6 w_11 (by decide) ?_
    refine lv_aload_n X.1 X.2.1 dX12_acts_202 rfl (lv_at hl 0 rfl) ?_
    obtain ⟨q_12, h_13, h_14, h_15⟩ := gQ_12_1215 hO.1 ha_x
    refine r_getR (g := 1215) X hw ha_x rfl 15 h_13 (by decide) rfl inn_X12_acts_12 (by decide) (X.2.2.2.1 (.fieldLink RX12 46 "SilkMillModel" "stop" "[I") (by decide +kernel)) rfl (gv_1215 _ _) dX12_acts_203 ?_
    refine lv_iload_n X.1 X.2.1 dX12_acts_206 rfl (lv_at hl 1 rfl) ?_
    refine lv_dup2_11 X.1 X.2.1 dX12_acts_207 rfl rfl ?_
    refine r_iald X hw h_14 rfl (by rw [h_15]; exact z_ix hz_a1 (by omega) (by omega)) dX12_acts_208 ?_
    refine lv_topi (fun v_16 ev_16 => ?_)
    have rg_17 := And.intro (z_lo v_16) (z_hi v_16)
    have ev_16 := ev_16.symm
    refine lv_aload_n X.1 X.2.1 dX12_acts_209 rfl (lv_at hl 0 rfl) ?_
    obtain ⟨q_18, h_19, h_20, h_21⟩ := gQ_12_1222 hO.1 ha_x
    refine r_getR (g := 1222) X hw ha_x rfl 22 h_19 (by decide) rfl inn_X12_acts_12 (by decide) (X.2.2.2.1 (.fieldLink RX12 67 "SilkMillModel" "actNumber" "[I") (by decide +kernel)) rfl (gv_1222 _ _) dX12_acts_210 ?_
    refine lv_iload_n X.1 X.2.1 dX12_acts_213 rfl (lv_at hl 2 rfl) ?_
    refine r_iald X hw h_20 rfl (by rw [h_21]; exact z_ix hz_a2 (by omega) (by omega)) dX12_acts_214 ?_
    refine lv_topi (fun v_22 ev_22 => ?_)
    have rg_23 := And.intro (z_lo v_22) (z_hi v_22)
    have ev_22 := ev_22.symm
    refine lv_iadd X.1 X.2.1 dX12_acts_215 ?_
    refine lv_topi (fun v_24 ev_24 => ?_)
    have rg_25 := And.intro (z_lo v_24) (z_hi v_24)
    refine r_iast X hw h_14 rfl (by rw [h_15]; exact z_ix hz_a1 (by omega) (by omega)) dX12_acts_216 (fun H locs hw => ?_)
    obtain ⟨S_26, eS_26⟩ : ∃ T, T = sA S q_12 (upd (pA S q_12) (Int32.toNatClampNeg (a1)) (v_24)) := ⟨_, rfl⟩
    rw [← eS_26] at hw
    have hO_27 : Ok MAC S S_26 := hO.sA eS_26 h_14 (by decide +kernel) (uA_514 hO.1 h_14)
    have h_28 : pA S_26 q_12 (Int32.toNatClampNeg (a1)) = v_24 := tA_sAs eS_26
    have mi_29 : MIe S_26 x (-1) := MIe_sA hp_4 hO.1 ha_x h_14 eS_26 (by decide +kernel)
    have zc_30 : zA S_26 x 1237 = zA S x 1237 := zA_sAn eS_26 (ex3 (gQ_12_1237 hO.1 ha_x)) h_14 rfl
    exact ret_v X hw hr hlocks (Nat.le_of_ble_eq_true rfl) (Nat.le_of_ble_eq_true rfl) ⟨hO_27, ⟨mi_29, fun hgr => (GR_eq zc_30 hgr)⟩⟩ dX12_acts_217
  have w_11b : (v_9).toInt = 0 ∨ (v_9).toInt = 1 ∨ (v_9).toInt = 2 ∨ (v_9).toInt = 3 ∨ (v_9).toInt = 4 := by omega
  rcases w_11b with w_11c | w_11c | w_11c | w_11c | w_11c
  · refine lv_tableIn (tgt := 40) X.1 X.2.1 dX12_acts_6 (by omega) (by omega) (by rw [w_11c]; rfl) (by decide) ?_
    refine lv_aload_n X.1 X.2.1 dX12_acts_40 rfl (lv_at hl 0 rfl) ?_
    refine lv_iload_n X.1 X.2.1 dX12_acts_41 rfl (lv_at hl 1 rfl) ?_
    refine lv_iconst (v := 0) X.1 X.2.1 dX12_acts_42 (by decide) ?_
    refine k_i (rm := { frames := 1, cells := 0, slots := 0, locals := 48 }) (av := [.ref x, .int (a1), .int 0]) X hw (va_runV (As := [.int (a1), .int 0]) (rest := []) (cfix X) (k_X12_many2 l G cy κ S _ x (a1) (a1_z) (0) (0) hO.1 ha_x hz_a1 ti_0 (by first | assumption | omega) (by first | assumption | omega) (by first | assumption | omega) (by first | assumption | omega)) (cwV 2 X.2.2.2.1 gX12_acts_X12_many rfl rfl rfl (by decide +kernel) ⟨Nat.le_of_ble_eq_true rfl, Nat.le_of_ble_eq_true rfl⟩) (pre_V X hw _ ha_x rfl (by decide) rfl) rfl rfl hl.1 rfl (lv_room (Nat.le_of_ble_eq_true rfl)) dX12_acts_43 ⟨Nat.le_of_ble_eq_true rfl, Nat.le_of_ble_eq_true rfl⟩) 0 0 (Nat.le_of_ble_eq_true rfl) (Nat.le_of_ble_eq_true rfl) (fun rr_31 S_32 H locs hp hw hfr hnw => ?_)
    obtain ⟨e2, hp⟩ := hp
    subst e2
    obtain ⟨f_33, f_34, f_35⟩ := hp
    refine lv_if_le (tgt := 79) X.1 X.2.1 dX12_acts_46 (by decide) (fun c_36 => ?_) (fun c_36 => ?_)
    · have z_b_37 := trivial
      have k_38 : rr_31.toInt ≤ 0 := z_le rfl ti_0 c_36
      exact ret_v X hw hr hlocks (Nat.le_of_ble_eq_true rfl) (Nat.le_of_ble_eq_true rfl) ⟨hO, ⟨hp_4, fun hgr => hgr⟩⟩ dX12_acts_79
    · have z_b_39 := trivial
      have k_40 : rr_31.toInt > 0 := z_nle rfl ti_0 c_36
      refine lv_aload_n X.1 X.2.1 dX12_acts_49 rfl (lv_at hl 0 rfl) ?_
      refine lv_iload_n X.1 X.2.1 dX12_acts_50 rfl (lv_at hl 1 rfl) ?_
      refine lv_iconst (v := 1) X.1 X.2.1 dX12_acts_51 (by decide) ?_
      refine k_i (rm := { frames := 1, cells := 0, slots := 0, locals := 48 }) (av := [.ref x, .int (a1), .int 1]) X hw (va_runV (As := [.int (a1), .int 1]) (rest := []) (cfix X) (k_X12_many2 l G cy κ S _ x (a1) (a1_z) (1) (1) hO.1 ha_x hz_a1 ti_1 (by first | assumption | omega) (by first | assumption | omega) (by first | assumption | omega) (by first | assumption | omega)) (cwV 2 X.2.2.2.1 gX12_acts_X12_many rfl rfl rfl (by decide +kernel) ⟨Nat.le_of_ble_eq_true rfl, Nat.le_of_ble_eq_true rfl⟩) (pre_V X hw _ ha_x rfl (by decide) rfl) rfl rfl hl.1 rfl (lv_room (Nat.le_of_ble_eq_true rfl)) dX12_acts_52 ⟨Nat.le_of_ble_eq_true rfl, Nat.le_of_ble_eq_true rfl⟩) 0 0 (Nat.le_of_ble_eq_true rfl) (Nat.le_of_ble_eq_true rfl) (fun rr_41 S_42 H locs hp hw hfr hnw => ?_)
      obtain ⟨e2, hp⟩ := hp
      subst e2
      obtain ⟨f_43, f_44, f_45⟩ := hp
      refine lv_bipush (v := 12) X.1 X.2.1 dX12_acts_55 (by decide) ?_
      refine lv_icmp_ge (tgt := 79) X.1 X.2.1 dX12_acts_57 (by decide) (fun c_46 => ?_) (fun c_46 => ?_)
      · have z_b_47 := trivial
        have k_48 : rr_41.toInt ≥ 12 := z_le ti_12 rfl c_46
        exact ret_v X hw hr hlocks (Nat.le_of_ble_eq_true rfl) (Nat.le_of_ble_eq_true rfl) ⟨hO, ⟨hp_4, fun hgr => hgr⟩⟩ dX12_acts_79
      · have z_b_49 := trivial
        have k_50 : rr_41.toInt < 12 := z_nle ti_12 rfl c_46
        refine lv_aload_n X.1 X.2.1 dX12_acts_60 rfl (lv_at hl 0 rfl) ?_
        refine lv_iload_n X.1 X.2.1 dX12_acts_61 rfl (lv_at hl 1 rfl) ?_
        refine lv_iconst (v := 1) X.1 X.2.1 dX12_acts_62 (by decide) ?_
        refine lv_aload_n X.1 X.2.1 dX12_acts_63 rfl (lv_at hl 0 rfl) ?_
        refine lv_iload_n X.1 X.2.1 dX12_acts_64 rfl (lv_at hl 1 rfl) ?_
        refine lv_iconst (v := 0) X.1 X.2.1 dX12_acts_65 (by decide) ?_
        refine lv_iconst (v := 0) X.1 X.2.1 dX12_acts_66 (by decide) ?_
        refine k_i (rm := { frames := 1, cells := 0, slots := 0, locals := 48 }) (av := [.ref x, .int (a1), .int 0, .int 0]) X hw (va_runV (As := [.int (a1), .int 0, .int 0]) (rest := [.int 1, .int (a1), .ref x]) (cfix X) (k_X12_goes l G cy κ S _ x (a1) (a1_z) (0) (0) (0) (0) (-1) hO.1 ha_x hz_a1 ti_0 ti_0 (by first | assumption | omega) (by first | assumption | omega) (by first | assumption | omega) (by first | assumption | omega) (by first | assumption | omega) (by first | assumption | omega) hp_4) (cwV 3 X.2.2.2.1 gX12_acts_X12_goes rfl rfl rfl (by decide +kernel) ⟨Nat.le_of_ble_eq_true rfl, Nat.le_of_ble_eq_true rfl⟩) (pre_V X hw _ ha_x rfl (by decide) rfl) rfl rfl hl.1 rfl (lv_room (Nat.le_of_ble_eq_true rfl)) dX12_acts_67 ⟨Nat.le_of_ble_eq_true rfl, Nat.le_of_ble_eq_true rfl⟩) 0 0 (Nat.le_of_ble_eq_true rfl) (Nat.le_of_ble_eq_true rfl) (fun rr_51 S_52 H locs hp hw hfr hnw => ?_)
        obtain ⟨hk_53, hp⟩ := hp
        have hO_54 : Ok MAC S S_52 := hO.call hk_53 (by decide +kernel)
        obtain ⟨g_55, g_56, g_57, g_58, g_59, g_60, g_61, g_62⟩ := hp
        have t_63 : pI S_52 1201 x = v_1 := hk_53.fr.I' (by decide +kernel) ha_x ev_1
        have pz_64 : (pI S_52 1201 x).toInt = v_1.toInt := (congrArg Int32.toInt t_63).trans rfl
        have zl_65 : zA S_52 x 1207 = zA S x 1207 := zA_fr hk_53.fr ha_x (ex3 (gQ_12_1207 hO.1 ha_x)) (by decide +kernel) (by decide +kernel)
        have zz_66 := congrFun zl_65 (rr_51.toInt).toNat
        have al_67 := ((MI_1 g_60 (c := rr_51.toInt) (by omega) (by omega)).2 (by omega)).2 (by omega) (by omega)
        have gi_68 := g_62 (3 * a1_z + 1).toNat; rw [if_neg (by omega)] at gi_68
        have m4_69 := g_60.2.2.2.1.2 (3 * a1_z + 1).toNat (by omega)
        refine lv_aload_n X.1 X.2.1 dX12_acts_70 rfl (lv_at hl 0 rfl) ?_
        refine lv_iload_n X.1 X.2.1 dX12_acts_71 rfl (lv_at hl 1 rfl) ?_
        refine lv_iconst (v := 1) X.1 X.2.1 dX12_acts_72 (by decide) ?_
        have t_70 : At S_52 x 12 := hk_53.fr.at ha_x
        refine k_i (rm := { frames := 1, cells := 0, slots := 0, locals := 48 }) (av := [.ref x, .int (a1), .int 1]) X hw (va_runV (As := [.int (a1), .int 1]) (rest := [.int (rr_51), .int 1, .int (a1), .ref x]) (cfix X) (k_X12_many2 l G cy κ S_52 _ x (a1) (a1_z) (1) (1) hO_54.1 t_70 hz_a1 ti_1 (by first | assumption | omega) (by first | assumption | omega) (by first | assumption | omega) (by first | assumption | omega)) (cwV 2 X.2.2.2.1 gX12_acts_X12_many rfl rfl rfl (by decide +kernel) ⟨Nat.le_of_ble_eq_true rfl, Nat.le_of_ble_eq_true rfl⟩) (pre_V X hw _ t_70 rfl (by decide) rfl) rfl rfl hl.1 rfl (lv_room (Nat.le_of_ble_eq_true rfl)) dX12_acts_73 ⟨Nat.le_of_ble_eq_true rfl, Nat.le_of_ble_eq_true rfl⟩) 0 0 (Nat.le_of_ble_eq_true rfl) (Nat.le_of_ble_eq_true rfl) (fun rr_71 S_72 H locs hp hw hfr hnw => ?_)
        obtain ⟨e2, hp⟩ := hp
        subst e2
        obtain ⟨f_73, f_74, f_75⟩ := hp
        refine k_v (rm := { frames := 1, cells := 0, slots := 0, locals := 48 }) (av := [.ref x, .int (a1), .int 1, .int (rr_51), .int (rr_71)]) X hw (va_runV (As := [.int (a1), .int 1, .int (rr_51), .int (rr_71)]) (rest := []) (cfix X) (k_X12_comes l G cy κ S_52 _ x (a1) (a1_z) (1) (1) (rr_51) (rr_51.toInt) (rr_71) (rr_71.toInt) hO_54.1 t_70 hz_a1 ti_1 rfl rfl (by first | assumption | omega) (by first | assumption | omega) (by first | assumption | omega) (by first | assumption | omega) (by first | assumption | omega) (by first | assumption | omega) (by first | assumption | omega) (by first | assumption | omega) (by first | assumption | omega) (by first | assumption | omega) g_60 (by first | assumption | omega) (by first | assumption | omega)) (cwV 4 X.2.2.2.1 gX12_acts_X12_comes rfl rfl rfl (by decide +kernel) ⟨Nat.le_of_ble_eq_true rfl, Nat.le_of_ble_eq_true rfl⟩) (pre_V X hw _ t_70 rfl (by decide) rfl) rfl rfl hl.1 rfl (lv_room (Nat.le_of_ble_eq_true rfl)) dX12_acts_76 ⟨Nat.le_of_ble_eq_true rfl, Nat.le_of_ble_eq_true rfl⟩) 0 0 (Nat.le_of_ble_eq_true rfl) (Nat.le_of_ble_eq_true rfl) (fun S_77 H locs hp hw hfr hnw => ?_)
        obtain ⟨hk_78, hp⟩ := hp
        have hO_79 : Ok MAC S S_77 := hO_54.call hk_78 (by decide +kernel)
        obtain ⟨mi_80, cm_81, cs_82⟩ := hp
        have zc_83 : zA S_52 x 1237 = zA S x 1237 := zA_fr hk_53.fr ha_x (ex3 (gQ_12_1237 hO.1 ha_x)) (by decide +kernel) (by decide +kernel)
        have zc_84 : zA S_77 x 1237 = zA S x 1237 := (zA_fr hk_78.fr t_70 (ex3 (gQ_12_1237 hO_54.1 t_70)) (by decide +kernel) (by decide +kernel)).trans zc_83
        exact ret_v X hw hr hlocks (Nat.le_of_ble_eq_true rfl) (Nat.le_of_ble_eq_true rfl) ⟨hO_79, ⟨mi_80, fun hgr => (GR_eq zc_84 hgr)⟩⟩ dX12_acts_79
  · refine lv_tableIn (tgt := 80) X.1 X.2.1 dX12_acts_6 (by omega) (by omega) (by rw [w_11c]; rfl) (by decide) ?_
    refine lv_aload_n X.1 X.2.1 dX12_acts_80 rfl (lv_at hl 0 rfl) ?_
    refine lv_iload_n X.1 X.2.1 dX12_acts_81 rfl (lv_at hl 1 rfl) ?_
    refine lv_iconst (v := 1) X.1 X.2.1 dX12_acts_82 (by decide) ?_
    refine k_i (rm := { frames := 1, cells := 0, slots := 0, locals := 48 }) (av := [.ref x, .int (a1), .int 1]) X hw (va_runV (As := [.int (a1), .int 1]) (rest := []) (cfix X) (k_X12_many2 l G cy κ S _ x (a1) (a1_z) (1) (1) hO.1 ha_x hz_a1 ti_1 (by first | assumption | omega) (by first | assumption | omega) (by first | assumption | omega) (by first | assumption | omega)) (cwV 2 X.2.2.2.1 gX12_acts_X12_many rfl rfl rfl (by decide +kernel) ⟨Nat.le_of_ble_eq_true rfl, Nat.le_of_ble_eq_true rfl⟩) (pre_V X hw _ ha_x rfl (by decide) rfl) rfl rfl hl.1 rfl (lv_room (Nat.le_of_ble_eq_true rfl)) dX12_acts_83 ⟨Nat.le_of_ble_eq_true rfl, Nat.le_of_ble_eq_true rfl⟩) 0 0 (Nat.le_of_ble_eq_true rfl) (Nat.le_of_ble_eq_true rfl) (fun rr_85 S_86 H locs hp hw hfr hnw => ?_)
    obtain ⟨e2, hp⟩ := hp
    subst e2
    obtain ⟨f_87, f_88, f_89⟩ := hp
    refine lv_if_le (tgt := 107) X.1 X.2.1 dX12_acts_86 (by decide) (fun c_90 => ?_) (fun c_90 => ?_)
    · have z_b_91 := trivial
      have k_92 : rr_85.toInt ≤ 0 := z_le rfl ti_0 c_90
      exact ret_v X hw hr hlocks (Nat.le_of_ble_eq_true rfl) (Nat.le_of_ble_eq_true rfl) ⟨hO, ⟨hp_4, fun hgr => hgr⟩⟩ dX12_acts_107
    · have z_b_93 := trivial
      have k_94 : rr_85.toInt > 0 := z_nle rfl ti_0 c_90
      refine lv_aload_n X.1 X.2.1 dX12_acts_89 rfl (lv_at hl 0 rfl) ?_
      refine lv_iload_n X.1 X.2.1 dX12_acts_90 rfl (lv_at hl 1 rfl) ?_
      refine lv_iconst (v := 0) X.1 X.2.1 dX12_acts_91 (by decide) ?_
      refine lv_aload_n X.1 X.2.1 dX12_acts_92 rfl (lv_at hl 0 rfl) ?_
      refine lv_iload_n X.1 X.2.1 dX12_acts_93 rfl (lv_at hl 1 rfl) ?_
      refine lv_iconst (v := 1) X.1 X.2.1 dX12_acts_94 (by decide) ?_
      refine lv_aload_n X.1 X.2.1 dX12_acts_95 rfl (lv_at hl 0 rfl) ?_
      refine lv_iload_n X.1 X.2.1 dX12_acts_96 rfl (lv_at hl 1 rfl) ?_
      refine k_i (rm := { frames := 4, cells := 0, slots := 0, locals := 192 }) (av := [.ref x, .int (a1)]) X hw (va_runV (As := [.int (a1)]) (rest := [.int 1, .int (a1), .ref x, .int 0, .int (a1), .ref x]) (cfix X) (k_X12_thinnest l G cy κ S _ x (a1) (a1_z) hO.1 ha_x hz_a1 (by first | assumption | omega) (by first | assumption | omega) hp_4) (cwV 1 X.2.2.2.1 gX12_acts_X12_thinnest rfl rfl rfl (by decide +kernel) ⟨Nat.le_of_ble_eq_true rfl, Nat.le_of_ble_eq_true rfl⟩) (pre_V X hw _ ha_x rfl (by decide) rfl) rfl rfl hl.1 rfl (lv_room (Nat.le_of_ble_eq_true rfl)) dX12_acts_97 ⟨Nat.le_of_ble_eq_true rfl, Nat.le_of_ble_eq_true rfl⟩) 0 0 (Nat.le_of_ble_eq_true rfl) (Nat.le_of_ble_eq_true rfl) (fun rr_95 S_96 H locs hp hw hfr hnw => ?_)
      obtain ⟨e2, hp⟩ := hp
      subst e2
      obtain ⟨f_97, f_98, f_99, f_100, f_101⟩ := hp
      refine k_i (rm := { frames := 1, cells := 0, slots := 0, locals := 48 }) (av := [.ref x, .int (a1), .int 1, .int (rr_95)]) X hw (va_runV (As := [.int (a1), .int 1, .int (rr_95)]) (rest := [.int 0, .int (a1), .ref x]) (cfix X) (k_X12_goes l G cy κ S _ x (a1) (a1_z) (1) (1) (rr_95) (rr_95.toInt) (-1) hO.1 ha_x hz_a1 ti_1 rfl (by first | assumption | omega) (by first | assumption | omega) (by first | assumption | omega) (by first | assumption | omega) (by first | assumption | omega) (by first | assumption | omega) hp_4) (cwV 3 X.2.2.2.1 gX12_acts_X12_goes rfl rfl rfl (by decide +kernel) ⟨Nat.le_of_ble_eq_true rfl, Nat.le_of_ble_eq_true rfl⟩) (pre_V X hw _ ha_x rfl (by decide) rfl) rfl rfl hl.1 rfl (lv_room (Nat.le_of_ble_eq_true rfl)) dX12_acts_100 ⟨Nat.le_of_ble_eq_true rfl, Nat.le_of_ble_eq_true rfl⟩) 0 0 (Nat.le_of_ble_eq_true rfl) (Nat.le_of_ble_eq_true rfl) (fun rr_102 S_103 H locs hp hw hfr hnw => ?_)
      obtain ⟨hk_104, hp⟩ := hp
      have hO_105 : Ok MAC S S_103 := hO.call hk_104 (by decide +kernel)
      obtain ⟨g_106, g_107, g_108, g_109, g_110, g_111, g_112, g_113⟩ := hp
      have t_114 : pI S_103 1201 x = v_1 := hk_104.fr.I' (by decide +kernel) ha_x ev_1
      have pz_115 : (pI S_103 1201 x).toInt = v_1.toInt := (congrArg Int32.toInt t_114).trans rfl
      have zl_116 : zA S_103 x 1207 = zA S x 1207 := zA_fr hk_104.fr ha_x (ex3 (gQ_12_1207 hO.1 ha_x)) (by decide +kernel) (by decide +kernel)
      have zz_117 := congrFun zl_116 (rr_102.toInt).toNat
      have al_118 := ((MI_1 g_111 (c := rr_102.toInt) (by omega) (by omega)).2 (by omega)).2 (by omega) (by omega)
      have gi_119 := g_113 (3 * a1_z + 0).toNat; rw [if_neg (by omega)] at gi_119
      have m4_120 := g_111.2.2.2.1.2 (3 * a1_z + 0).toNat (by omega)
      refine lv_iconst (v := 0) X.1 X.2.1 dX12_acts_103 (by decide) ?_
      have t_121 : At S_103 x 12 := hk_104.fr.at ha_x
      refine k_v (rm := { frames := 1, cells := 0, slots := 0, locals := 48 }) (av := [.ref x, .int (a1), .int 0, .int (rr_102), .int 0]) X hw (va_runV (As := [.int (a1), .int 0, .int (rr_102), .int 0]) (rest := []) (cfix X) (k_X12_comes l G cy κ S_103 _ x (a1) (a1_z) (0) (0) (rr_102) (rr_102.toInt) (0) (0) hO_105.1 t_121 hz_a1 ti_0 rfl ti_0 (by first | assumption | omega) (by first | assumption | omega) (by first | assumption | omega) (by first | assumption | omega) (by first | assumption | omega) (by first | assumption | omega) (by first | assumption | omega) (by first | assumption | omega) (by first | assumption | omega) (by first | assumption | omega) g_111 (by first | assumption | omega) (by first | assumption | omega)) (cwV 4 X.2.2.2.1 gX12_acts_X12_comes rfl rfl rfl (by decide +kernel) ⟨Nat.le_of_ble_eq_true rfl, Nat.le_of_ble_eq_true rfl⟩) (pre_V X hw _ t_121 rfl (by decide) rfl) rfl rfl hl.1 rfl (lv_room (Nat.le_of_ble_eq_true rfl)) dX12_acts_104 ⟨Nat.le_of_ble_eq_true rfl, Nat.le_of_ble_eq_true rfl⟩) 0 0 (Nat.le_of_ble_eq_true rfl) (Nat.le_of_ble_eq_true rfl) (fun S_123 H locs hp hw hfr hnw => ?_)
      obtain ⟨hk_124, hp⟩ := hp
      have hO_125 : Ok MAC S S_123 := hO_105.call hk_124 (by decide +kernel)
      obtain ⟨mi_126, cm_127, cs_128⟩ := hp
      have zc_129 : zA S_103 x 1237 = zA S x 1237 := zA_fr hk_104.fr ha_x (ex3 (gQ_12_1237 hO.1 ha_x)) (by decide +kernel) (by decide +kernel)
      have zc_130 : zA S_123 x 1237 = zA S x 1237 := (zA_fr hk_124.fr t_121 (ex3 (gQ_12_1237 hO_105.1 t_121)) (by decide +kernel) (by decide +kernel)).trans zc_129
      exact ret_v X hw hr hlocks (Nat.le_of_ble_eq_true rfl) (Nat.le_of_ble_eq_true rfl) ⟨hO_125, ⟨mi_126, fun hgr => (GR_eq zc_130 hgr)⟩⟩ dX12_acts_107
  · refine lv_tableIn (tgt := 108) X.1 X.2.1 dX12_acts_6 (by omega) (by omega) (by rw [w_11c]; rfl) (by decide) ?_
    refine lv_aload_n X.1 X.2.1 dX12_acts_108 rfl (lv_at hl 0 rfl) ?_
    refine lv_iload_n X.1 X.2.1 dX12_acts_109 rfl (lv_at hl 1 rfl) ?_
    refine lv_iconst (v := 2) X.1 X.2.1 dX12_acts_110 (by decide) ?_
    refine k_i (rm := { frames := 1, cells := 0, slots := 0, locals := 48 }) (av := [.ref x, .int (a1), .int 2]) X hw (va_runV (As := [.int (a1), .int 2]) (rest := []) (cfix X) (k_X12_many2 l G cy κ S _ x (a1) (a1_z) (2) (2) hO.1 ha_x hz_a1 ti_2 (by first | assumption | omega) (by first | assumption | omega) (by first | assumption | omega) (by first | assumption | omega)) (cwV 2 X.2.2.2.1 gX12_acts_X12_many rfl rfl rfl (by decide +kernel) ⟨Nat.le_of_ble_eq_true rfl, Nat.le_of_ble_eq_true rfl⟩) (pre_V X hw _ ha_x rfl (by decide) rfl) rfl rfl hl.1 rfl (lv_room (Nat.le_of_ble_eq_true rfl)) dX12_acts_111 ⟨Nat.le_of_ble_eq_true rfl, Nat.le_of_ble_eq_true rfl⟩) 0 0 (Nat.le_of_ble_eq_true rfl) (Nat.le_of_ble_eq_true rfl) (fun rr_131 S_132 H locs hp hw hfr hnw => ?_)
    obtain ⟨e2, hp⟩ := hp
    subst e2
    obtain ⟨f_133, f_134, f_135⟩ := hp
    refine lv_if_ne (tgt := 118) X.1 X.2.1 dX12_acts_114 (by decide) (fun c_136 => ?_) (fun c_136 => ?_)
    · have z_b_137 := trivial
      have k_138 : rr_131.toInt ≠ 0 := z_ne rfl ti_0 c_136
      refine lv_aload_n X.1 X.2.1 dX12_acts_118 rfl (lv_at hl 0 rfl) ?_
      refine lv_iload_n X.1 X.2.1 dX12_acts_119 rfl (lv_at hl 1 rfl) ?_
      refine lv_iconst (v := 0) X.1 X.2.1 dX12_acts_120 (by decide) ?_
      refine lv_aload_n X.1 X.2.1 dX12_acts_121 rfl (lv_at hl 0 rfl) ?_
      refine lv_iload_n X.1 X.2.1 dX12_acts_122 rfl (lv_at hl 1 rfl) ?_
      refine lv_iconst (v := 2) X.1 X.2.1 dX12_acts_123 (by decide) ?_
      refine lv_iconst (v := 0) X.1 X.2.1 dX12_acts_124 (by decide) ?_
      refine k_i (rm := { frames := 1, cells := 0, slots := 0, locals := 48 }) (av := [.ref x, .int (a1), .int 2, .int 0]) X hw (va_runV (As := [.int (a1), .int 2, .int 0]) (rest := [.int 0, .int (a1), .ref x]) (cfix X) (k_X12_goes l G cy κ S _ x (a1) (a1_z) (2) (2) (0) (0) (-1) hO.1 ha_x hz_a1 ti_2 ti_0 (by first | assumption | omega) (by first | assumption | omega) (by first | assumption | omega) (by first | assumption | omega) (by first | assumption | omega) (by first | assumption | omega) hp_4) (cwV 3 X.2.2.2.1 gX12_acts_X12_goes rfl rfl rfl (by decide +kernel) ⟨Nat.le_of_ble_eq_true rfl, Nat.le_of_ble_eq_true rfl⟩) (pre_V X hw _ ha_x rfl (by decide) rfl) rfl rfl hl.1 rfl (lv_room (Nat.le_of_ble_eq_true rfl)) dX12_acts_125 ⟨Nat.le_of_ble_eq_true rfl, Nat.le_of_ble_eq_true rfl⟩) 0 0 (Nat.le_of_ble_eq_true rfl) (Nat.le_of_ble_eq_true rfl) (fun rr_139 S_140 H locs hp hw hfr hnw => ?_)
      obtain ⟨hk_141, hp⟩ := hp
      have hO_142 : Ok MAC S S_140 := hO.call hk_141 (by decide +kernel)
      obtain ⟨g_143, g_144, g_145, g_146, g_147, g_148, g_149, g_150⟩ := hp
      have t_151 : pI S_140 1201 x = v_1 := hk_141.fr.I' (by decide +kernel) ha_x ev_1
      have pz_152 : (pI S_140 1201 x).toInt = v_1.toInt := (congrArg Int32.toInt t_151).trans rfl
      have zl_153 : zA S_140 x 1207 = zA S x 1207 := zA_fr hk_141.fr ha_x (ex3 (gQ_12_1207 hO.1 ha_x)) (by decide +kernel) (by decide +kernel)
      have zz_154 := congrFun zl_153 (rr_139.toInt).toNat
      have al_155 := ((MI_1 g_148 (c := rr_139.toInt) (by omega) (by omega)).2 (by omega)).2 (by omega) (by omega)
      have gi_156 := g_150 (3 * a1_z + 0).toNat; rw [if_neg (by omega)] at gi_156
      have m4_157 := g_148.2.2.2.1.2 (3 * a1_z + 0).toNat (by omega)
      refine lv_aload_n X.1 X.2.1 dX12_acts_128 rfl (lv_at hl 0 rfl) ?_
      refine lv_iload_n X.1 X.2.1 dX12_acts_129 rfl (lv_at hl 1 rfl) ?_
      refine lv_iconst (v := 0) X.1 X.2.1 dX12_acts_130 (by decide) ?_
      have t_158 : At S_140 x 12 := hk_141.fr.at ha_x
      refine k_i (rm := { frames := 1, cells := 0, slots := 0, locals := 48 }) (av := [.ref x, .int (a1), .int 0]) X hw (va_runV (As := [.int (a1), .int 0]) (rest := [.int (rr_139), .int 0, .int (a1), .ref x]) (cfix X) (k_X12_many2 l G cy κ S_140 _ x (a1) (a1_z) (0) (0) hO_142.1 t_158 hz_a1 ti_0 (by first | assumption | omega) (by first | assumption | omega) (by first | assumption | omega) (by first | assumption | omega)) (cwV 2 X.2.2.2.1 gX12_acts_X12_many rfl rfl rfl (by decide +kernel) ⟨Nat.le_of_ble_eq_true rfl, Nat.le_of_ble_eq_true rfl⟩) (pre_V X hw _ t_158 rfl (by decide) rfl) rfl rfl hl.1 rfl (lv_room (Nat.le_of_ble_eq_true rfl)) dX12_acts_131 ⟨Nat.le_of_ble_eq_true rfl, Nat.le_of_ble_eq_true rfl⟩) 0 0 (Nat.le_of_ble_eq_true rfl) (Nat.le_of_ble_eq_true rfl) (fun rr_159 S_160 H locs hp hw hfr hnw => ?_)
      obtain ⟨e2, hp⟩ := hp
      subst e2
      obtain ⟨f_161, f_162, f_163⟩ := hp
      refine k_v (rm := { frames := 1, cells := 0, slots := 0, locals := 48 }) (av := [.ref x, .int (a1), .int 0, .int (rr_139), .int (rr_159)]) X hw (va_runV (As := [.int (a1), .int 0, .int (rr_139), .int (rr_159)]) (rest := []) (cfix X) (k_X12_comes l G cy κ S_140 _ x (a1) (a1_z) (0) (0) (rr_139) (rr_139.toInt) (rr_159) (rr_159.toInt) hO_142.1 t_158 hz_a1 ti_0 rfl rfl (by first | assumption | omega) (by first | assumption | omega) (by first | assumption | omega) (by first | assumption | omega) (by first | assumption | omega) (by first | assumption | omega) (by first | assumption | omega) (by first | assumption | omega) (by first | assumption | omega) (by first | assumption | omega) g_148 (by first | assumption | omega) (by first | assumption | omega)) (cwV 4 X.2.2.2.1 gX12_acts_X12_comes rfl rfl rfl (by decide +kernel) ⟨Nat.le_of_ble_eq_true rfl, Nat.le_of_ble_eq_true rfl⟩) (pre_V X hw _ t_158 rfl (by decide) rfl) rfl rfl hl.1 rfl (lv_room (Nat.le_of_ble_eq_true rfl)) dX12_acts_134 ⟨Nat.le_of_ble_eq_true rfl, Nat.le_of_ble_eq_true rfl⟩) 0 0 (Nat.le_of_ble_eq_true rfl) (Nat.le_of_ble_eq_true rfl) (fun S_165 H locs hp hw hfr hnw => ?_)
      obtain ⟨hk_166, hp⟩ := hp
      have hO_167 : Ok MAC S S_165 := hO_142.call hk_166 (by decide +kernel)
      obtain ⟨mi_168, cm_169, cs_170⟩ := hp
      refine lv_aload_n X.1 X.2.1 dX12_acts_137 rfl (lv_at hl 0 rfl) ?_
      refine lv_iload_n X.1 X.2.1 dX12_acts_138 rfl (lv_at hl 1 rfl) ?_
      refine lv_iconst (v := 2) X.1 X.2.1 dX12_acts_139 (by decide) ?_
      have t_171 : At S_165 x 12 := hk_166.fr.at t_158
      refine k_i (rm := { frames := 1, cells := 0, slots := 0, locals := 48 }) (av := [.ref x, .int (a1), .int 2]) X hw (va_runV (As := [.int (a1), .int 2]) (rest := []) (cfix X) (k_X12_many2 l G cy κ S_165 _ x (a1) (a1_z) (2) (2) hO_167.1 t_171 hz_a1 ti_2 (by first | assumption | omega) (by first | assumption | omega) (by first | assumption | omega) (by first | assumption | omega)) (cwV 2 X.2.2.2.1 gX12_acts_X12_many rfl rfl rfl (by decide +kernel) ⟨Nat.le_of_ble_eq_true rfl, Nat.le_of_ble_eq_true rfl⟩) (pre_V X hw _ t_171 rfl (by decide) rfl) rfl rfl hl.1 rfl (lv_room (Nat.le_of_ble_eq_true rfl)) dX12_acts_140 ⟨Nat.le_of_ble_eq_true rfl, Nat.le_of_ble_eq_true rfl⟩) 0 0 (Nat.le_of_ble_eq_true rfl) (Nat.le_of_ble_eq_true rfl) (fun rr_172 S_173 H locs hp hw hfr hnw => ?_)
      obtain ⟨e2, hp⟩ := hp
      subst e2
      obtain ⟨f_174, f_175, f_176⟩ := hp
      refine lv_if_ne (tgt := 153) X.1 X.2.1 dX12_acts_143 (by decide) (fun c_177 => ?_) (fun c_177 => ?_)
      · have z_b_178 := trivial
        have k_179 : rr_172.toInt ≠ 0 := z_ne rfl ti_0 c_177
        refine lv_aload_n X.1 X.2.1 dX12_acts_153 rfl (lv_at hl 0 rfl) ?_
        obtain ⟨q_180, h_181, h_182, h_183⟩ := gQ_12_1215 hO_167.1 t_171
        refine r_getR (g := 1215) X hw t_171 rfl 15 h_181 (by decide) rfl inn_X12_acts_12 (by decide) (X.2.2.2.1 (.fieldLink RX12 46 "SilkMillModel" "stop" "[I") (by decide +kernel)) rfl (gv_1215 _ _) dX12_acts_154 ?_
        refine lv_iload_n X.1 X.2.1 dX12_acts_157 rfl (lv_at hl 1 rfl) ?_
        refine lv_dup2_11 X.1 X.2.1 dX12_acts_158 rfl rfl ?_
        refine r_iald X hw h_182 rfl (by rw [h_183]; exact z_ix hz_a1 (by omega) (by omega)) dX12_acts_159 ?_
        refine lv_topi (fun v_184 ev_184 => ?_)
        have rg_185 := And.intro (z_lo v_184) (z_hi v_184)
        have ev_184 := ev_184.symm
        refine lv_iconst (v := 2) X.1 X.2.1 dX12_acts_160 (by decide) ?_
        refine lv_iadd X.1 X.2.1 dX12_acts_161 ?_
        refine lv_topi (fun v_186 ev_186 => ?_)
        have rg_187 := And.intro (z_lo v_186) (z_hi v_186)
        refine r_iast X hw h_182 rfl (by rw [h_183]; exact z_ix hz_a1 (by omega) (by omega)) dX12_acts_162 (fun H locs hw => ?_)
        obtain ⟨S_188, eS_188⟩ : ∃ T, T = sA S_165 q_180 (upd (pA S_165 q_180) (Int32.toNatClampNeg (a1)) (v_186)) := ⟨_, rfl⟩
        rw [← eS_188] at hw
        have hO_189 : Ok MAC S S_188 := hO_167.sA eS_188 h_182 (by decide +kernel) (uA_514 hO_167.1 h_182)
        have h_190 : pA S_188 q_180 (Int32.toNatClampNeg (a1)) = v_186 := tA_sAs eS_188
        have mi_191 : MIe S_188 x (-1) := MIe_sA mi_168 hO_167.1 t_171 h_182 eS_188 (by decide +kernel)
        have zc_192 : zA S_140 x 1237 = zA S x 1237 := zA_fr hk_141.fr ha_x (ex3 (gQ_12_1237 hO.1 ha_x)) (by decide +kernel) (by decide +kernel)
        have zc_193 : zA S_165 x 1237 = zA S x 1237 := (zA_fr hk_166.fr t_158 (ex3 (gQ_12_1237 hO_142.1 t_158)) (by decide +kernel) (by decide +kernel)).trans zc_192
        have zc_194 : zA S_188 x 1237 = zA S x 1237 := (zA_sAn eS_188 (ex3 (gQ_12_1237 hO_167.1 t_171)) h_182 rfl).trans zc_193
        exact ret_v X hw hr hlocks (Nat.le_of_ble_eq_true rfl) (Nat.le_of_ble_eq_true rfl) ⟨hO_189, ⟨mi_191, fun hgr => (GR_eq zc_194 hgr)⟩⟩ dX12_acts_163
      · have z_b_195 := trivial
        have k_196 : rr_172.toInt = 0 := z_eq rfl ti_0 c_177
        refine lv_aload_n X.1 X.2.1 dX12_acts_146 rfl (lv_at hl 0 rfl) ?_
        obtain ⟨q_197, h_198, h_199, h_200⟩ := gQ_12_1214 hO_167.1 t_171
        refine r_getR (g := 1214) X hw t_171 rfl 14 h_198 (by decide) rfl inn_X12_acts_12 (by decide) (X.2.2.2.1 (.fieldLink RX12 43 "SilkMillModel" "search" "[I") (by decide +kernel)) rfl (gv_1214 _ _) dX12_acts_147 ?_
        refine lv_iload_n X.1 X.2.1 dX12_acts_150 rfl (lv_at hl 1 rfl) ?_
        refine lv_iconst (v := 0) X.1 X.2.1 dX12_acts_151 (by decide) ?_
        refine r_iast X hw h_199 rfl (by rw [h_200]; exact z_ix hz_a1 (by omega) (by omega)) dX12_acts_152 (fun H locs hw => ?_)
        obtain ⟨S_201, eS_201⟩ : ∃ T, T = sA S_165 q_197 (upd (pA S_165 q_197) (Int32.toNatClampNeg (a1)) (0)) := ⟨_, rfl⟩
        rw [← eS_201] at hw
        have hO_202 : Ok MAC S S_201 := hO_167.sA eS_201 h_199 (by decide +kernel) (uA_494 hO_167.1 h_199)
        have h_203 : pA S_201 q_197 (Int32.toNatClampNeg (a1)) = 0 := tA_sAs eS_201
        refine lv_aload_n X.1 X.2.1 dX12_acts_153 rfl (lv_at hl 0 rfl) ?_
        have t_204 : At S_201 x 12 := tAt_sA eS_201 t_171
        obtain ⟨q_205, h_206, h_207, h_208⟩ := gQ_12_1215 hO_202.1 t_204
        refine r_getR (g := 1215) X hw t_204 rfl 15 h_206 (by decide) rfl inn_X12_acts_12 (by decide) (X.2.2.2.1 (.fieldLink RX12 46 "SilkMillModel" "stop" "[I") (by decide +kernel)) rfl (gv_1215 _ _) dX12_acts_154 ?_
        refine lv_iload_n X.1 X.2.1 dX12_acts_157 rfl (lv_at hl 1 rfl) ?_
        refine lv_dup2_11 X.1 X.2.1 dX12_acts_158 rfl rfl ?_
        refine r_iald X hw h_207 rfl (by rw [h_208]; exact z_ix hz_a1 (by omega) (by omega)) dX12_acts_159 ?_
        refine lv_topi (fun v_209 ev_209 => ?_)
        have rg_210 := And.intro (z_lo v_209) (z_hi v_209)
        have ev_209 := ev_209.symm
        refine lv_iconst (v := 2) X.1 X.2.1 dX12_acts_160 (by decide) ?_
        refine lv_iadd X.1 X.2.1 dX12_acts_161 ?_
        refine lv_topi (fun v_211 ev_211 => ?_)
        have rg_212 := And.intro (z_lo v_211) (z_hi v_211)
        refine r_iast X hw h_207 rfl (by rw [h_208]; exact z_ix hz_a1 (by omega) (by omega)) dX12_acts_162 (fun H locs hw => ?_)
        obtain ⟨S_213, eS_213⟩ : ∃ T, T = sA S_201 q_205 (upd (pA S_201 q_205) (Int32.toNatClampNeg (a1)) (v_211)) := ⟨_, rfl⟩
        rw [← eS_213] at hw
        have hO_214 : Ok MAC S S_213 := hO_202.sA eS_213 h_207 (by decide +kernel) (uA_514 hO_202.1 h_207)
        have h_215 : pA S_213 q_205 (Int32.toNatClampNeg (a1)) = v_211 := tA_sAs eS_213
        have mi_216 : MIe S_201 x (-1) := MIe_sA mi_168 hO_167.1 t_171 h_199 eS_201 (by decide +kernel)
        have mi_217 : MIe S_213 x (-1) := MIe_sA mi_216 hO_202.1 t_204 h_207 eS_213 (by decide +kernel)
        have zc_218 : zA S_140 x 1237 = zA S x 1237 := zA_fr hk_141.fr ha_x (ex3 (gQ_12_1237 hO.1 ha_x)) (by decide +kernel) (by decide +kernel)
        have zc_219 : zA S_165 x 1237 = zA S x 1237 := (zA_fr hk_166.fr t_158 (ex3 (gQ_12_1237 hO_142.1 t_158)) (by decide +kernel) (by decide +kernel)).trans zc_218
        have zc_220 : zA S_201 x 1237 = zA S x 1237 := (zA_sAn eS_201 (ex3 (gQ_12_1237 hO_167.1 t_171)) h_199 rfl).trans zc_219
        have zc_221 : zA S_213 x 1237 = zA S x 1237 := (zA_sAn eS_213 (ex3 (gQ_12_1237 hO_202.1 t_204)) h_207 rfl).trans zc_220
        exact ret_v X hw hr hlocks (Nat.le_of_ble_eq_true rfl) (Nat.le_of_ble_eq_true rfl) ⟨hO_214, ⟨mi_217, fun hgr => (GR_eq zc_221 hgr)⟩⟩ dX12_acts_163
    · have z_b_222 := trivial
      have k_223 : rr_131.toInt = 0 := z_eq rfl ti_0 c_136
      exact ret_v X hw hr hlocks (Nat.le_of_ble_eq_true rfl) (Nat.le_of_ble_eq_true rfl) ⟨hO, ⟨hp_4, fun hgr => hgr⟩⟩ dX12_acts_117
  · refine lv_tableIn (tgt := 164) X.1 X.2.1 dX12_acts_6 (by omega) (by omega) (by rw [w_11c]; rfl) (by decide) ?_
    refine lv_aload_n X.1 X.2.1 dX12_acts_164 rfl (lv_at hl 0 rfl) ?_
    refine lv_iload_n X.1 X.2.1 dX12_acts_165 rfl (lv_at hl 1 rfl) ?_
    refine lv_iconst (v := 0) X.1 X.2.1 dX12_acts_166 (by decide) ?_
    refine k_i (rm := { frames := 1, cells := 0, slots := 0, locals := 48 }) (av := [.ref x, .int (a1), .int 0]) X hw (va_runV (As := [.int (a1), .int 0]) (rest := []) (cfix X) (k_X12_many2 l G cy κ S _ x (a1) (a1_z) (0) (0) hO.1 ha_x hz_a1 ti_0 (by first | assumption | omega) (by first | assumption | omega) (by first | assumption | omega) (by first | assumption | omega)) (cwV 2 X.2.2.2.1 gX12_acts_X12_many rfl rfl rfl (by decide +kernel) ⟨Nat.le_of_ble_eq_true rfl, Nat.le_of_ble_eq_true rfl⟩) (pre_V X hw _ ha_x rfl (by decide) rfl) rfl rfl hl.1 rfl (lv_room (Nat.le_of_ble_eq_true rfl)) dX12_acts_167 ⟨Nat.le_of_ble_eq_true rfl, Nat.le_of_ble_eq_true rfl⟩) 0 0 (Nat.le_of_ble_eq_true rfl) (Nat.le_of_ble_eq_true rfl) (fun rr_224 S_225 H locs hp hw hfr hnw => ?_)
    obtain ⟨e2, hp⟩ := hp
    subst e2
    obtain ⟨f_226, f_227, f_228⟩ := hp
    refine lv_if_le (tgt := 194) X.1 X.2.1 dX12_acts_170 (by decide) (fun c_229 => ?_) (fun c_229 => ?_)
    · have z_b_230 := trivial
      have k_231 : rr_224.toInt ≤ 0 := z_le rfl ti_0 c_229
      exact ret_v X hw hr hlocks (Nat.le_of_ble_eq_true rfl) (Nat.le_of_ble_eq_true rfl) ⟨hO, ⟨hp_4, fun hgr => hgr⟩⟩ dX12_acts_194
    · have z_b_232 := trivial
      have k_233 : rr_224.toInt > 0 := z_nle rfl ti_0 c_229
      refine lv_aload_n X.1 X.2.1 dX12_acts_173 rfl (lv_at hl 0 rfl) ?_
      obtain ⟨q_234, h_235, h_236, h_237⟩ := gQ_12_1207 hO.1 ha_x
      refine r_getR (g := 1207) X hw ha_x rfl 7 h_235 (by decide) rfl inn_X12_acts_12 (by decide) (X.2.2.2.1 (.fieldLink RX12 25 "SilkMillModel" "stand" "[I") (by decide +kernel)) rfl (gv_1207 _ _) dX12_acts_174 ?_
      refine lv_aload_n X.1 X.2.1 dX12_acts_177 rfl (lv_at hl 0 rfl) ?_
      refine lv_iload_n X.1 X.2.1 dX12_acts_178 rfl (lv_at hl 1 rfl) ?_
      refine lv_iconst (v := 0) X.1 X.2.1 dX12_acts_179 (by decide) ?_
      refine lv_aload_n X.1 X.2.1 dX12_acts_180 rfl (lv_at hl 0 rfl) ?_
      refine lv_iload_n X.1 X.2.1 dX12_acts_181 rfl (lv_at hl 1 rfl) ?_
      refine lv_iconst (v := 0) X.1 X.2.1 dX12_acts_182 (by decide) ?_
      refine k_i (rm := { frames := 1, cells := 0, slots := 0, locals := 48 }) (av := [.ref x, .int (a1), .int 0]) X hw (va_runV (As := [.int (a1), .int 0]) (rest := [.int 0, .int (a1), .ref x, .ref q_234]) (cfix X) (k_X12_many2 l G cy κ S _ x (a1) (a1_z) (0) (0) hO.1 ha_x hz_a1 ti_0 (by first | assumption | omega) (by first | assumption | omega) (by first | assumption | omega) (by first | assumption | omega)) (cwV 2 X.2.2.2.1 gX12_acts_X12_many rfl rfl rfl (by decide +kernel) ⟨Nat.le_of_ble_eq_true rfl, Nat.le_of_ble_eq_true rfl⟩) (pre_V X hw _ ha_x rfl (by decide) rfl) rfl rfl hl.1 rfl (lv_room (Nat.le_of_ble_eq_true rfl)) dX12_acts_183 ⟨Nat.le_of_ble_eq_true rfl, Nat.le_of_ble_eq_true rfl⟩) 0 0 (Nat.le_of_ble_eq_true rfl) (Nat.le_of_ble_eq_true rfl) (fun rr_238 S_239 H locs hp hw hfr hnw => ?_)
      obtain ⟨e2, hp⟩ := hp
      subst e2
      obtain ⟨f_240, f_241, f_242⟩ := hp
      refine lv_iconst (v := 1) X.1 X.2.1 dX12_acts_186 (by decide) ?_
      refine lv_isub X.1 X.2.1 dX12_acts_187 ?_
      refine lv_topi (fun v_243 ev_243 => ?_)
      have z_244 : v_243.toInt = rr_238.toInt - 1 := z_sub ev_243 rfl ti_1 (by omega) (by omega)
      refine k_i (rm := { frames := 1, cells := 0, slots := 0, locals := 48 }) (av := [.ref x, .int (a1), .int 0, .int (v_243)]) X hw (va_runV (As := [.int (a1), .int 0, .int (v_243)]) (rest := [.ref q_234]) (cfix X) (k_X12_goes l G cy κ S _ x (a1) (a1_z) (0) (0) (v_243) ((rr_238.toInt - 1)) (-1) hO.1 ha_x hz_a1 ti_0 z_244 (by first | assumption | omega) (by first | assumption | omega) (by first | assumption | omega) (by first | assumption | omega) (by first | assumption | omega) (by first | assumption | omega) hp_4) (cwV 3 X.2.2.2.1 gX12_acts_X12_goes rfl rfl rfl (by decide +kernel) ⟨Nat.le_of_ble_eq_true rfl, Nat.le_of_ble_eq_true rfl⟩) (pre_V X hw _ ha_x rfl (by decide) rfl) rfl rfl hl.1 rfl (lv_room (Nat.le_of_ble_eq_true rfl)) dX12_acts_188 ⟨Nat.le_of_ble_eq_true rfl, Nat.le_of_ble_eq_true rfl⟩) 0 0 (Nat.le_of_ble_eq_true rfl) (Nat.le_of_ble_eq_true rfl) (fun rr_245 S_246 H locs hp hw hfr hnw => ?_)
      obtain ⟨hk_247, hp⟩ := hp
      have hO_248 : Ok MAC S S_246 := hO.call hk_247 (by decide +kernel)
      obtain ⟨g_249, g_250, g_251, g_252, g_253, g_254, g_255, g_256⟩ := hp
      have t_257 : pI S_246 1201 x = v_1 := hk_247.fr.I' (by decide +kernel) ha_x ev_1
      have pz_258 : (pI S_246 1201 x).toInt = v_1.toInt := (congrArg Int32.toInt t_257).trans rfl
      have zl_259 : zA S_246 x 1207 = zA S x 1207 := zA_fr hk_247.fr ha_x (ex3 (gQ_12_1207 hO.1 ha_x)) (by decide +kernel) (by decide +kernel)
      have zz_260 := congrFun zl_259 (rr_245.toInt).toNat
      have al_261 := ((MI_1 g_254 (c := rr_245.toInt) (by omega) (by omega)).2 (by omega)).2 (by omega) (by omega)
      refine lv_bipush (v := 6) X.1 X.2.1 dX12_acts_191 (by decide) ?_
      have t_262 : At S_246 q_234 354 := hk_247.fr.at h_236
      have t_263 : pN S_246 q_234 = 600 := hk_247.fr.N h_236 h_237
      clear h_237
      refine r_iast X hw t_262 rfl (by rw [t_263]; exact z_ix rfl (by omega) (by omega)) dX12_acts_193 (fun H locs hw => ?_)
      obtain ⟨S_264, eS_264⟩ : ∃ T, T = sA S_246 q_234 (upd (pA S_246 q_234) (Int32.toNatClampNeg (rr_245)) (6)) := ⟨_, rfl⟩
      rw [← eS_264] at hw
      have hO_265 : Ok MAC S S_264 := hO_248.sA eS_264 t_262 (by decide +kernel) (uA_354 hO_248.1 t_262)
      have h_266 : pA S_264 q_234 (Int32.toNatClampNeg (rr_245)) = 6 := tA_sAs eS_264
      have t_267 : pR S_246 1207 x = some q_234 := hk_247.fr.R' (by decide +kernel) ha_x h_235
      have t_268 : pR S_264 1207 x = some q_234 := tR_sA eS_264 t_267
      have t_270 : pR S_246 1207 x = some q_234 := by have h := t_268; rw [eS_264, pR_sA] at h; exact h
      have zs_269 : ∀ j, zA S_264 x 1207 j = if j = (rr_245.toInt).toNat then 6 else zA S_246 x 1207 j := by have h := zA_sAs eS_264 t_270 ti_6; rw [z_nc rfl (by omega)] at h; exact h
      have t_272 : At S_246 x 12 := hk_247.fr.at ha_x
      have mi_271 : MIe S_264 x (-1) := stand_MI (c := rr_245.toInt) hO_248.1 t_272 (show Fr [10354] S_246 S_264 by rw [eS_264]; exact Fr_sA t_262 List.mem_cons_self) g_254 (by omega) (by omega) g_255 zs_269 (Or.inr (Or.inr (by assumption)))
      have zc_273 : zA S_246 x 1237 = zA S x 1237 := zA_fr hk_247.fr ha_x (ex3 (gQ_12_1237 hO.1 ha_x)) (by decide +kernel) (by decide +kernel)
      have zc_274 : zA S_264 x 1237 = zA S x 1237 := (zA_sAn eS_264 (ex3 (gQ_12_1237 hO_248.1 t_272)) t_262 rfl).trans zc_273
      exact ret_v X hw hr hlocks (Nat.le_of_ble_eq_true rfl) (Nat.le_of_ble_eq_true rfl) ⟨hO_265, ⟨mi_271, fun hgr => (GR_eq zc_274 hgr)⟩⟩ dX12_acts_194
  · refine lv_tableIn (tgt := 195) X.1 X.2.1 dX12_acts_6 (by omega) (by omega) (by rw [w_11c]; rfl) (by decide) ?_
    refine lv_aload_n X.1 X.2.1 dX12_acts_195 rfl (lv_at hl 0 rfl) ?_
    refine lv_iload_n X.1 X.2.1 dX12_acts_196 rfl (lv_at hl 1 rfl) ?_
    refine k_i (rm := { frames := 6, cells := 0, slots := 0, locals := 288 }) (av := [.ref x, .int (a1)]) X hw (va_runV (As := [.int (a1)]) (rest := []) (cfix X) (k_X12_cuts l G cy κ S _ x (a1) (a1_z) hO.1 ha_x hz_a1 (by first | assumption | omega) (by first | assumption | omega) hp_4) (cwV 1 X.2.2.2.1 gX12_acts_X12_cuts rfl rfl rfl (by decide +kernel) ⟨Nat.le_of_ble_eq_true rfl, Nat.le_of_ble_eq_true rfl⟩) (pre_V X hw _ ha_x rfl (by decide) rfl) rfl rfl hl.1 rfl (lv_room (Nat.le_of_ble_eq_true rfl)) dX12_acts_197 ⟨Nat.le_of_ble_eq_true rfl, Nat.le_of_ble_eq_true rfl⟩) 0 0 (Nat.le_of_ble_eq_true rfl) (Nat.le_of_ble_eq_true rfl) (fun rr_275 S_276 H locs hp hw hfr hnw => ?_)
    obtain ⟨hk_277, hp⟩ := hp
    have hO_278 : Ok MAC S S_276 := hO.call hk_277 (by decide +kernel)
    obtain ⟨mi_279, cu_280⟩ := hp
    have rg_281 := And.intro (z_lo rr_275) (z_hi rr_275)
    refine lv_istore_n (lv' := [(3, .int (rr_275)), (0, .ref x), (1, .int (a1)), (2, .int (a2))]) X.1 X.2.1 dX12_acts_200 rfl hl (by decide) rfl (fun ls hl => ?_)
    exact ret_v X hw hr hlocks (Nat.le_of_ble_eq_true rfl) (Nat.le_of_ble_eq_true rfl) ⟨hO_278, ⟨mi_279, fun hgr => (GR_set cu_280 (by omega) hgr)⟩⟩ dX12_acts_201
