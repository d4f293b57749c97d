def MAC : List Nat := [1200, 1238, 1246, 10914, 10934, 10954, 10994, 11014, 11034, 11054, 11074, 11095, 10354, 10394, 10574, 10594, 10494, 10514]
def MTK : List Nat := [1200, 1238, 1246, 10914, 10934, 10954, 10994, 11014, 11034, 11054, 11074, 11095, 10354, 10394, 10574, 10594, 10494, 10514, 1247, 10374, 10534, 10554]
set_option maxRecDepth 20000 in
theorem ggX12_acts_X12_many : GoodIn wsX12_acts wsX12_many := goodIn_h _ [10, 0, 67, 0, 0, 0, 0, 0, 0, 0, 0, 0, 0, 0, 0, 0, 0, 0, 0, 0, 0, 0, 0, 0, 0, 0, 0, 0, 0, 0, 0, 0, 0, 0, 0, 0, 0, 0, 0, 0, 0, 0, 0, 0, 0, 0, 0, 0, 0, 0, 0, 0, 0, 0, 0, 0, 0, 0, 0, 0, 0, 0, 0, 0, 0, 0, 0, 0] [0, 1, 2, 3, 4, 5, 6, 7, 8, 9, 10, 11, 12, 13, 14, 15, 16, 17, 18, 19, 20, 21, 22, 23, 24, 25, 26, 27, 28, 29, 30, 31, 32, 33, 34, 35, 36, 37, 38, 39, 40, 41, 42, 43, 44, 45, 46, 47, 48, 49, 50, 51, 52, 53, 54, 55, 56, 57, 58, 59, 60, 61, 62, 63, 64, 65, 66, 67] (by decide +kernel) (by decide +kernel)
set_option maxRecDepth 20000 in
theorem gX12_acts_X12_many : GoodIn wsX12_acts (wsV RX12 204 RX12 yX12_many wsX12_many) := goodIn_app (goodIn_of _ (by decide +kernel)) ggX12_acts_X12_many
set_option maxRecDepth 20000 in
theorem ggX12_acts_X12_goes : GoodIn wsX12_acts wsX12_goes := goodIn_h _ [11, 3, 0, 62, 0, 0, 0, 0, 0, 0, 0, 0, 0, 0, 0, 0, 0, 0, 0, 0, 0, 0, 0, 0, 0, 0, 0, 0, 0, 0, 0, 0, 0, 0, 0, 0, 0, 0, 0, 0, 0, 0, 0, 0, 0, 0, 0, 0, 0, 0, 0, 0, 0, 0, 0, 0, 0, 0, 0, 0, 0, 0, 0, 0, 0, 0, 0, 0, 0] [1, 2, 0, 3, 4, 5, 6, 7, 8, 9, 10, 11, 12, 13, 14, 15, 16, 17, 18, 19, 20, 21, 22, 23, 24, 25, 26, 27, 28, 29, 30, 31, 32, 33, 34, 35, 36, 37, 38, 39, 40, 41, 42, 43, 44, 45, 46, 47, 48, 49, 50, 51, 52, 53, 54, 55, 56, 57, 58, 59, 60, 61, 62, 63, 64, 65, 66, 67, 68] (by decide +kernel) (by decide +kernel)
set_option maxRecDepth 20000 in
theorem gX12_acts_X12_goes : GoodIn wsX12_acts (wsV RX12 320 RX12 yX12_goes wsX12_goes) := goodIn_app (goodIn_of _ (by decide +kernel)) ggX12_acts_X12_goes
set_option maxRecDepth 20000 in
theorem ggX12_acts_X12_comes : GoodIn wsX12_acts wsX12_comes := goodIn_h _ [4, 6, 4, 3, 0, 57, 0, 0, 0, 0, 0, 0, 0, 0, 0, 0, 0, 0, 0, 0, 0, 0, 0, 0, 0, 0, 0, 0, 0, 0, 0, 0, 0, 0, 0, 0, 0, 0, 0, 0, 0, 0, 0, 0, 0, 0, 0, 0, 0, 0, 0, 0, 0, 0, 0, 0, 0, 0, 0, 0, 0, 0, 0, 0, 0, 0, 0, 0, 0, 0, 0] [3, 1, 2, 0, 4, 5, 6, 7, 8, 9, 10, 11, 12, 13, 14, 15, 16, 17, 18, 19, 20, 21, 22, 23, 24, 25, 26, 27, 28, 29, 30, 31, 32, 33, 34, 35, 36, 37, 38, 39, 40, 41, 42, 43, 44, 45, 46, 47, 48, 49, 50, 51, 52, 53, 54, 55, 56, 57, 58, 59, 60, 61, 62, 63, 64, 65, 66, 67, 68, 69, 70] (by decide +kernel) (by decide +kernel)
set_option maxRecDepth 20000 in
theorem gX12_acts_X12_comes : GoodIn wsX12_acts (wsV RX12 207 RX12 yX12_comes wsX12_comes) := goodIn_app (goodIn_of _ (by decide +kernel)) ggX12_acts_X12_comes
set_option maxRecDepth 20000 in
theorem ggX12_acts_X12_thinnest : GoodIn wsX12_acts wsX12_thinnest := goodIn_h _ [6, 0, 0, 0, 0, 0, 4, 8, 0, 0, 0, 0, 0, 0, 0, 0, 0, 0, 0, 0, 0, 0, 0, 0, 0, 0, 0, 0, 0, 0, 0, 0, 29, 0, 0, 0, 0, 0, 0, 0, 0, 0, 0, 0, 0, 0, 0, 0, 0, 0, 0, 0, 0, 0, 0, 0, 0, 0, 0, 0, 0, 0, 0, 0, 0, 0, 0, 0, 0, 0, 0, 0, 0, 0, 0, 0, 0, 0, 0, 0, 0, 0, 0, 0, 0, 0, 0, 0, 0, 0, 0, 0, 0, 0, 0, 0, 0, 0] [7, 8, 0, 1, 2, 3, 4, 5, 9, 10, 11, 12, 6, 13, 14, 15, 16, 17, 18, 19, 20, 21, 22, 23, 24, 25, 26, 27, 28, 29, 30, 31, 32, 33, 34, 35, 36, 37, 38, 39, 40, 41, 42, 43, 44, 45, 46, 47, 48, 49, 50, 51, 52, 53, 54, 55, 56, 57, 58, 59, 60, 61, 62, 63, 64, 65, 66, 67, 68, 69, 70, 71, 72, 73, 74, 75, 76, 77, 78, 79, 80, 81, 82, 83, 84, 85, 86, 87, 88, 89, 90, 91, 92, 93, 94, 95, 96, 97] (by decide +kernel) (by decide +kernel)
set_option maxRecDepth 20000 in
theorem gX12_acts_X12_thinnest : GoodIn wsX12_acts (wsV RX12 314 RX12 yX12_thinnest wsX12_thinnest) := goodIn_app (goodIn_of _ (by decide +kernel)) ggX12_acts_X12_thinnest
set_option maxRecDepth 20000 in
theorem ggX12_acts_X12_cuts : GoodIn wsX12_acts wsX12_cuts := goodIn_h _ [9, 21, 0, 0, 0, 0, 0, 0, 0, 0, 0, 0, 0, 0, 0, 0, 0, 0, 0, 0, 3, 0, 0, 0, 0, 0, 0, 0, 0, 0, 0, 0, 0, 0, 0, 0, 0, 0, 0, 0, 0, 0, 0, 0, 0, 0, 0, 0, 0, 0, 0, 0, 0, 0, 0, 0, 0, 0, 0, 0, 0, 0, 0, 0, 0, 0, 0, 0, 0, 0, 0, 0, 0, 0, 0, 0, 0, 0, 0, 0, 0, 0, 0, 0, 0, 0, 0, 0, 0, 0, 0, 0, 0, 0, 0, 0, 0, 0, 0, 0, 0, 0, 0, 0, 0, 0, 0, 0, 0, 0, 0, 0] [20, 21, 22, 23, 24, 25, 26, 27, 28, 29, 30, 31, 32, 33, 34, 35, 36, 0, 37, 38, 39, 40, 41, 42, 43, 44, 45, 1, 2, 3, 4, 5, 6, 7, 8, 9, 10, 11, 12, 13, 14, 15, 16, 17, 18, 19, 46, 47, 48, 49, 50, 51, 52, 53, 54, 55, 56, 57, 58, 59, 60, 61, 62, 63, 64, 65, 66, 67, 68, 69, 70, 71, 72, 73, 74, 75, 76, 77, 78, 79, 80, 81, 82, 83, 84, 85, 86, 87, 88, 89, 90, 91, 92, 93, 94, 95, 96, 97, 98, 99, 100, 101, 102, 103, 104, 105, 106, 107, 108, 109, 110, 111] (by decide +kernel) (by decide +kernel)
set_option maxRecDepth 20000 in
theorem gX12_acts_X12_cuts : GoodIn wsX12_acts (wsV RX12 305 RX12 yX12_cuts wsX12_cuts) := goodIn_app (goodIn_of _ (by decide +kernel)) ggX12_acts_X12_cuts
theorem dX12_acts_0 : decode cX12_acts 0 = .ok (.aload_n 0, 1) := by decide +kernel
theorem dX12_acts_1 : decode cX12_acts 1 = .ok (.getfield 64, 3) := by decide +kernel
theorem dX12_acts_4 : decode cX12_acts 4 = .ok (.iload_n 2, 1) := by decide +kernel
theorem dX12_acts_5 : decode cX12_acts 5 = .ok (.iaload, 1) := by decide +kernel
theorem dX12_acts_6 : decode cX12_acts 6 = .ok (.tableswitch 196 0 4 #[34, 74, 102, 158, 189], 34) := by decide +kernel
theorem dX12_acts_40 : decode cX12_acts 40 = .ok (.aload_n 0, 1) := by decide +kernel
theorem dX12_acts_41 : decode cX12_acts 41 = .ok (.iload_n 1, 1) := by decide +kernel
theorem dX12_acts_42 : decode cX12_acts 42 = .ok (.iconst 0, 1) := by decide +kernel
theorem dX12_acts_43 : decode cX12_acts 43 = .ok (.invokevirtual 204, 3) := by decide +kernel
theorem dX12_acts_46 : decode cX12_acts 46 = .ok (.ifCond .le 33, 3) := by decide +kernel
theorem dX12_acts_49 : decode cX12_acts 49 = .ok (.aload_n 0, 1) := by decide +kernel
theorem dX12_acts_50 : decode cX12_acts 50 = .ok (.iload_n 1, 1) := by decide +kernel
theorem dX12_acts_51 : decode cX12_acts 51 = .ok (.iconst 1, 1) := by decide +kernel
theorem dX12_acts_52 : decode cX12_acts 52 = .ok (.invokevirtual 204, 3) := by decide +kernel
theorem dX12_acts_55 : decode cX12_acts 55 = .ok (.bipush 12, 2) := by decide +kernel
theorem dX12_acts_57 : decode cX12_acts 57 = .ok (.if_icmp .ge 22, 3) := by decide +kernel
theorem dX12_acts_60 : decode cX12_acts 60 = .ok (.aload_n 0, 1) := by decide +kernel
theorem dX12_acts_61 : decode cX12_acts 61 = .ok (.iload_n 1, 1) := by decide +kernel
theorem dX12_acts_62 : decode cX12_acts 62 = .ok (.iconst 1, 1) := by decide +kernel
theorem dX12_acts_63 : decode cX12_acts 63 = .ok (.aload_n 0, 1) := by decide +kernel
theorem dX12_acts_64 : decode cX12_acts 64 = .ok (.iload_n 1, 1) := by decide +kernel
theorem dX12_acts_65 : decode cX12_acts 65 = .ok (.iconst 0, 1) := by decide +kernel
theorem dX12_acts_66 : decode cX12_acts 66 = .ok (.iconst 0, 1) := by decide +kernel
theorem dX12_acts_67 : decode cX12_acts 67 = .ok (.invokevirtual 320, 3) := by decide +kernel
theorem dX12_acts_70 : decode cX12_acts 70 = .ok (.aload_n 0, 1) := by decide +kernel
theorem dX12_acts_71 : decode cX12_acts 71 = .ok (.iload_n 1, 1) := by decide +kernel
theorem dX12_acts_72 : decode cX12_acts 72 = .ok (.iconst 1, 1) := by decide +kernel
theorem dX12_acts_73 : decode cX12_acts 73 = .ok (.invokevirtual 204, 3) := by decide +kernel
theorem dX12_acts_76 : decode cX12_acts 76 = .ok (.invokevirtual 207, 3) := by decide +kernel
theorem dX12_acts_79 : decode cX12_acts 79 = .ok (.return_, 1) := by decide +kernel
theorem dX12_acts_80 : decode cX12_acts 80 = .ok (.aload_n 0, 1) := by decide +kernel
theorem dX12_acts_81 : decode cX12_acts 81 = .ok (.iload_n 1, 1) := by decide +kernel
theorem dX12_acts_82 : decode cX12_acts 82 = .ok (.iconst 1, 1) := by decide +kernel
theorem dX12_acts_83 : decode cX12_acts 83 = .ok (.invokevirtual 204, 3) := by decide +kernel
theorem dX12_acts_86 : decode cX12_acts 86 = .ok (.ifCond .le 21, 3) := by decide +kernel
theorem dX12_acts_89 : decode cX12_acts 89 = .ok (.aload_n 0, 1) := by decide +kernel
theorem dX12_acts_90 : decode cX12_acts 90 = .ok (.iload_n 1, 1) := by decide +kernel
theorem dX12_acts_91 : decode cX12_acts 91 = .ok (.iconst 0, 1) := by decide +kernel
theorem dX12_acts_92 : decode cX12_acts 92 = .ok (.aload_n 0, 1) := by decide +kernel
theorem dX12_acts_93 : decode cX12_acts 93 = .ok (.iload_n 1, 1) := by decide +kernel
theorem dX12_acts_94 : decode cX12_acts 94 = .ok (.iconst 1, 1) := by decide +kernel
theorem dX12_acts_95 : decode cX12_acts 95 = .ok (.aload_n 0, 1) := by decide +kernel
theorem dX12_acts_96 : decode cX12_acts 96 = .ok (.iload_n 1, 1) := by decide +kernel
theorem dX12_acts_97 : decode cX12_acts 97 = .ok (.invokevirtual 314, 3) := by decide +kernel
theorem dX12_acts_100 : decode cX12_acts 100 = .ok (.invokevirtual 320, 3) := by decide +kernel
theorem dX12_acts_103 : decode cX12_acts 103 = .ok (.iconst 0, 1) := by decide +kernel
theorem dX12_acts_104 : decode cX12_acts 104 = .ok (.invokevirtual 207, 3) := by decide +kernel
theorem dX12_acts_107 : decode cX12_acts 107 = .ok (.return_, 1) := by decide +kernel
theorem dX12_acts_108 : decode cX12_acts 108 = .ok (.aload_n 0, 1) := by decide +kernel
theorem dX12_acts_109 : decode cX12_acts 109 = .ok (.iload_n 1, 1) := by decide +kernel
theorem dX12_acts_110 : decode cX12_acts 110 = .ok (.iconst 2, 1) := by decide +kernel
theorem dX12_acts_111 : decode cX12_acts 111 = .ok (.invokevirtual 204, 3) := by decide +kernel
theorem dX12_acts_114 : decode cX12_acts 114 = .ok (.ifCond .ne 4, 3) := by decide +kernel
theorem dX12_acts_117 : decode cX12_acts 117 = .ok (.return_, 1) := by decide +kernel
theorem dX12_acts_118 : decode cX12_acts 118 = .ok (.aload_n 0, 1) := by decide +kernel
theorem dX12_acts_119 : decode cX12_acts 119 = .ok (.iload_n 1, 1) := by decide +kernel
theorem dX12_acts_120 : decode cX12_acts 120 = .ok (.iconst 0, 1) := by decide +kernel
theorem dX12_acts_121 : decode cX12_acts 121 = .ok (.aload_n 0, 1) := by decide +kernel
theorem dX12_acts_122 : decode cX12_acts 122 = .ok (.iload_n 1, 1) := by decide +kernel
theorem dX12_acts_123 : decode cX12_acts 123 = .ok (.iconst 2, 1) := by decide +kernel
theorem dX12_acts_124 : decode cX12_acts 124 = .ok (.iconst 0, 1) := by decide +kernel
theorem dX12_acts_125 : decode cX12_acts 125 = .ok (.invokevirtual 320, 3) := by decide +kernel
theorem dX12_acts_128 : decode cX12_acts 128 = .ok (.aload_n 0, 1) := by decide +kernel
theorem dX12_acts_129 : decode cX12_acts 129 = .ok (.iload_n 1, 1) := by decide +kernel
theorem dX12_acts_130 : decode cX12_acts 130 = .ok (.iconst 0, 1) := by decide +kernel
theorem dX12_acts_131 : decode cX12_acts 131 = .ok (.invokevirtual 204, 3) := by decide +kernel
theorem dX12_acts_134 : decode cX12_acts 134 = .ok (.invokevirtual 207, 3) := by decide +kernel
theorem dX12_acts_137 : decode cX12_acts 137 = .ok (.aload_n 0, 1) := by decide +kernel
theorem dX12_acts_138 : decode cX12_acts 138 = .ok (.iload_n 1, 1) := by decide +kernel
theorem dX12_acts_139 : decode cX12_acts 139 = .ok (.iconst 2, 1) := by decide +kernel
theorem dX12_acts_140 : decode cX12_acts 140 = .ok (.invokevirtual 204, 3) := by decide +kernel
theorem dX12_acts_143 : decode cX12_acts 143 = .ok (.ifCond .ne 10, 3) := by decide +kernel
theorem dX12_acts_146 : decode cX12_acts 146 = .ok (.aload_n 0, 1) := by decide +kernel
theorem dX12_acts_147 : decode cX12_acts 147 = .ok (.getfield 43, 3) := by decide +kernel
theorem dX12_acts_150 : decode cX12_acts 150 = .ok (.iload_n 1, 1) := by decide +kernel
theorem dX12_acts_151 : decode cX12_acts 151 = .ok (.iconst 0, 1) := by decide +kernel
theorem dX12_acts_152 : decode cX12_acts 152 = .ok (.iastore, 1) := by decide +kernel
theorem dX12_acts_153 : decode cX12_acts 153 = .ok (.aload_n 0, 1) := by decide +kernel
theorem dX12_acts_154 : decode cX12_acts 154 = .ok (.getfield 46, 3) := by decide +kernel
theorem dX12_acts_157 : decode cX12_acts 157 = .ok (.iload_n 1, 1) := by decide +kernel
theorem dX12_acts_158 : decode cX12_acts 158 = .ok (.dup2, 1) := by decide +kernel
theorem dX12_acts_159 : decode cX12_acts 159 = .ok (.iaload, 1) := by decide +kernel
theorem dX12_acts_160 : decode cX12_acts 160 = .ok (.iconst 2, 1) := by decide +kernel
theorem dX12_acts_161 : decode cX12_acts 161 = .ok (.iadd, 1) := by decide +kernel
theorem dX12_acts_162 : decode cX12_acts 162 = .ok (.iastore, 1) := by decide +kernel
theorem dX12_acts_163 : decode cX12_acts 163 = .ok (.return_, 1) := by decide +kernel
theorem dX12_acts_164 : decode cX12_acts 164 = .ok (.aload_n 0, 1) := by decide +kernel
theorem dX12_acts_165 : decode cX12_acts 165 = .ok (.iload_n 1, 1) := by decide +kernel
theorem dX12_acts_166 : decode cX12_acts 166 = .ok (.iconst 0, 1) := by decide +kernel
theorem dX12_acts_167 : decode cX12_acts 167 = .ok (.invokevirtual 204, 3) := by decide +kernel
theorem dX12_acts_170 : decode cX12_acts 170 = .ok (.ifCond .le 24, 3) := by decide +kernel
theorem dX12_acts_173 : decode cX12_acts 173 = .ok (.aload_n 0, 1) := by decide +kernel
theorem dX12_acts_174 : decode cX12_acts 174 = .ok (.getfield 25, 3) := by decide +kernel
theorem dX12_acts_177 : decode cX12_acts 177 = .ok (.aload_n 0, 1) := by decide +kernel
theorem dX12_acts_178 : decode cX12_acts 178 = .ok (.iload_n 1, 1) := by decide +kernel
theorem dX12_acts_179 : decode cX12_acts 179 = .ok (.iconst 0, 1) := by decide +kernel
theorem dX12_acts_180 : decode cX12_acts 180 = .ok (.aload_n 0, 1) := by decide +kernel
theorem dX12_acts_181 : decode cX12_acts 181 = .ok (.iload_n 1, 1) := by decide +kernel
theorem dX12_acts_182 : decode cX12_acts 182 = .ok (.iconst 0, 1) := by decide +kernel
theorem dX12_acts_183 : decode cX12_acts 183 = .ok (.invokevirtual 204, 3) := by decide +kernel
theorem dX12_acts_186 : decode cX12_acts 186 = .ok (.iconst 1, 1) := by decide +kernel
theorem dX12_acts_187 : decode cX12_acts 187 = .ok (.isub, 1) := by decide +kernel
theorem dX12_acts_188 : decode cX12_acts 188 = .ok (.invokevirtual 320, 3) := by decide +kernel
theorem dX12_acts_191 : decode cX12_acts 191 = .ok (.bipush 6, 2) := by decide +kernel
theorem dX12_acts_193 : decode cX12_acts 193 = .ok (.iastore, 1) := by decide +kernel
theorem dX12_acts_194 : decode cX12_acts 194 = .ok (.return_, 1) := by decide +kernel
theorem dX12_acts_195 : decode cX12_acts 195 = .ok (.aload_n 0, 1) := by decide +kernel
theorem dX12_acts_196 : decode cX12_acts 196 = .ok (.iload_n 1, 1) := by decide +kernel
theorem dX12_acts_197 : decode cX12_acts 197 = .ok (.invokevirtual 305, 3) := by decide +kernel
theorem dX12_acts_200 : decode cX12_acts 200 = .ok (.istore_n 3, 1) := by decide +kernel
theorem dX12_acts_201 : decode cX12_acts 201 = .ok (.return_, 1) := by decide +kernel
theorem dX12_acts_202 : decode cX12_acts 202 = .ok (.aload_n 0, 1) := by decide +kernel
theorem dX12_acts_203 : decode cX12_acts 203 = .ok (.getfield 46, 3) := by decide +kernel
theorem dX12_acts_206 : decode cX12_acts 206 = .ok (.iload_n 1, 1) := by decide +kernel
theorem dX12_acts_207 : decode cX12_acts 207 = .ok (.dup2, 1) := by decide +kernel
theorem dX12_acts_208 : decode cX12_acts 208 = .ok (.iaload, 1) := by decide +kernel
theorem dX12_acts_209 : decode cX12_acts 209 = .ok (.aload_n 0, 1) := by decide +kernel
theorem dX12_acts_210 : decode cX12_acts 210 = .ok (.getfield 67, 3) := by decide +kernel
theorem dX12_acts_213 : decode cX12_acts 213 = .ok (.iload_n 2, 1) := by decide +kernel
theorem dX12_acts_214 : decode cX12_acts 214 = .ok (.iaload, 1) := by decide +kernel
theorem dX12_acts_215 : decode cX12_acts 215 = .ok (.iadd, 1) := by decide +kernel
theorem dX12_acts_216 : decode cX12_acts 216 = .ok (.iastore, 1) := by decide +kernel
theorem dX12_acts_217 : decode cX12_acts 217 = .ok (.return_, 1) := by decide +kernel
theorem inn_X12_acts_12 : ∀ w ∈ u_ws RX12 TX12 66, w ∈ wsX12_acts := fun w h => List.mem_cons_of_mem _ (List.mem_append_right _ h)
