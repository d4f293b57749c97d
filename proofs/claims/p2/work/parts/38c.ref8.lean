set_option maxRecDepth 20000 in
theorem ggX12_program_X12_isPot : GoodIn wsX12_program wsX12_isPot := goodIn_r _ [18, 19, 20, 21, 17, 22, 111, 112, 113, 114, 115, 116, 117, 118, 119, 120, 121, 122, 123, 124, 125, 126, 127, 128, 129, 130, 131, 132, 133, 134, 135, 136, 137, 138, 139, 140, 141, 142, 143, 144, 145, 146, 147, 148, 149, 150, 151, 152, 153, 154, 155, 156, 157, 158, 159, 160, 161, 162, 163, 164, 165, 166, 167, 168, 169, 170, 171, 172, 173, 174, 175, 176] (by decide +kernel) (by decide +kernel)
set_option maxRecDepth 20000 in
theorem gX12_program_X12_isPot : GoodIn wsX12_program (wsV RX12 200 RX12 yX12_isPot wsX12_isPot) := goodIn_app (goodIn_of _ (by decide +kernel)) ggX12_program_X12_isPot
set_option maxRecDepth 20000 in
theorem ggX12_program_X12_token : GoodIn wsX12_program wsX12_token := goodIn_r _ [26, 5, 27, 7, 6, 28, 29, 30, 31, 17, 32, 33, 20, 21, 22, 111, 112, 113, 114, 115, 116, 117, 118, 119, 120, 121, 122, 123, 124, 125, 126, 127, 128, 129, 130, 131, 132, 133, 134, 135, 136, 137, 138, 139, 140, 141, 142, 143, 144, 145, 146, 147, 148, 149, 150, 151, 152, 153, 154, 155, 156, 157, 158, 159, 160, 161, 162, 163, 164, 165, 166, 167, 168, 169, 170, 171, 172, 173, 174, 175, 176] (by decide +kernel) (by decide +kernel)
set_option maxRecDepth 20000 in
theorem gX12_program_X12_token : GoodIn wsX12_program (wsV RX12 249 RX12 yX12_token wsX12_token) := goodIn_app (goodIn_of _ (by decide +kernel)) ggX12_program_X12_token
set_option maxRecDepth 20000 in
theorem ggX12_program_X12_rule : GoodIn wsX12_program wsX12_rule := goodIn_r _ [37, 4, 10, 8, 9, 38, 39, 40, 17, 41, 2, 5, 27, 42, 43, 44, 45, 46, 47, 48, 49, 50, 51, 52, 53, 29, 30, 31, 32, 7, 33, 54, 55, 56, 57, 58, 59, 60, 61, 62, 63, 64, 65, 66, 67, 68, 69, 70, 71, 72, 73, 74, 75, 76, 77, 78, 79, 80, 81, 82, 83, 84, 85, 86, 87, 88, 89, 90, 91, 92, 93, 94, 6, 95, 96, 97, 98, 3, 23, 24, 25, 26, 28, 20, 21, 22, 99, 100, 101, 102, 11, 12, 13, 103, 104, 105, 106, 107, 108, 109, 110, 111, 112, 113, 114, 115, 116, 117, 118, 119, 120, 121, 122, 123, 124, 125, 126, 127, 128, 129, 130, 131, 132, 133, 134, 135, 136, 137, 138, 139, 140, 141, 142, 143, 144, 145, 146, 147, 148, 149, 150, 151, 152, 153, 154, 155, 156, 157, 158, 159, 160, 161, 162, 163, 164, 165, 166, 167, 168, 169, 170, 171, 172, 173, 174, 175, 176] (by decide +kernel) (by decide +kernel)
set_option maxRecDepth 20000 in
theorem gX12_program_X12_rule : GoodIn wsX12_program (wsV RX12 283 RX12 yX12_rule wsX12_rule) := goodIn_app (goodIn_of _ (by decide +kernel)) ggX12_program_X12_rule
theorem dX12_program_0 : decode cX12_program 0 = .ok (.aload_n 0, 1) := by decide +kernel
theorem dX12_program_1 : decode cX12_program 1 = .ok (.iconst 0, 1) := by decide +kernel
theorem dX12_program_2 : decode cX12_program 2 = .ok (.putfield 161, 3) := by decide +kernel
theorem dX12_program_5 : decode cX12_program 5 = .ok (.aload_n 0, 1) := by decide +kernel
theorem dX12_program_6 : decode cX12_program 6 = .ok (.iload_n 1, 1) := by decide +kernel
theorem dX12_program_7 : decode cX12_program 7 = .ok (.invokevirtual 200, 3) := by decide +kernel
theorem dX12_program_10 : decode cX12_program 10 = .ok (.ifCond .ne 5, 3) := by decide +kernel
theorem dX12_program_13 : decode cX12_program 13 = .ok (.iconst (-1), 1) := by decide +kernel
theorem dX12_program_14 : decode cX12_program 14 = .ok (.ireturn, 1) := by decide +kernel
theorem dX12_program_15 : decode cX12_program 15 = .ok (.aload_n 0, 1) := by decide +kernel
theorem dX12_program_16 : decode cX12_program 16 = .ok (.iconst 0, 1) := by decide +kernel
theorem dX12_program_17 : decode cX12_program 17 = .ok (.putfield 229, 3) := by decide +kernel
theorem dX12_program_20 : decode cX12_program 20 = .ok (.aload_n 0, 1) := by decide +kernel
theorem dX12_program_21 : decode cX12_program 21 = .ok (.iconst (-1), 1) := by decide +kernel
theorem dX12_program_22 : decode cX12_program 22 = .ok (.putfield 86, 3) := by decide +kernel
theorem dX12_program_25 : decode cX12_program 25 = .ok (.aload_n 0, 1) := by decide +kernel
theorem dX12_program_26 : decode cX12_program 26 = .ok (.getfield 61, 3) := by decide +kernel
theorem dX12_program_29 : decode cX12_program 29 = .ok (.iconst 4, 1) := by decide +kernel
theorem dX12_program_30 : decode cX12_program 30 = .ok (.iconst 0, 1) := by decide +kernel
theorem dX12_program_31 : decode cX12_program 31 = .ok (.iastore, 1) := by decide +kernel
theorem dX12_program_32 : decode cX12_program 32 = .ok (.aload_n 0, 1) := by decide +kernel
theorem dX12_program_33 : decode cX12_program 33 = .ok (.iconst 0, 1) := by decide +kernel
theorem dX12_program_34 : decode cX12_program 34 = .ok (.putfield 214, 3) := by decide +kernel
theorem dX12_program_37 : decode cX12_program 37 = .ok (.aload_n 0, 1) := by decide +kernel
theorem dX12_program_38 : decode cX12_program 38 = .ok (.invokevirtual 249, 3) := by decide +kernel
theorem dX12_program_41 : decode cX12_program 41 = .ok (.iconst 1, 1) := by decide +kernel
theorem dX12_program_42 : decode cX12_program 42 = .ok (.istore_n 2, 1) := by decide +kernel
theorem dX12_program_43 : decode cX12_program 43 = .ok (.iload_n 2, 1) := by decide +kernel
theorem dX12_program_44 : decode cX12_program 44 = .ok (.ifCond .eq 18, 3) := by decide +kernel
theorem dX12_program_47 : decode cX12_program 47 = .ok (.aload_n 0, 1) := by decide +kernel
theorem dX12_program_48 : decode cX12_program 48 = .ok (.getfield 223, 3) := by decide +kernel
theorem dX12_program_51 : decode cX12_program 51 = .ok (.ifCond .eq 11, 3) := by decide +kernel
theorem dX12_program_54 : decode cX12_program 54 = .ok (.aload_n 0, 1) := by decide +kernel
theorem dX12_program_55 : decode cX12_program 55 = .ok (.invokevirtual 283, 3) := by decide +kernel
theorem dX12_program_58 : decode cX12_program 58 = .ok (.istore_n 2, 1) := by decide +kernel
theorem dX12_program_59 : decode cX12_program 59 = .ok (.goto (-16), 3) := by decide +kernel
theorem dX12_program_62 : decode cX12_program 62 = .ok (.aload_n 0, 1) := by decide +kernel
theorem dX12_program_63 : decode cX12_program 63 = .ok (.iconst 0, 1) := by decide +kernel
theorem dX12_program_64 : decode cX12_program 64 = .ok (.putfield 211, 3) := by decide +kernel
theorem dX12_program_67 : decode cX12_program 67 = .ok (.aload_n 0, 1) := by decide +kernel
theorem dX12_program_68 : decode cX12_program 68 = .ok (.getfield 229, 3) := by decide +kernel
theorem dX12_program_71 : decode cX12_program 71 = .ok (.ifCond .le 11, 3) := by decide +kernel
theorem dX12_program_74 : decode cX12_program 74 = .ok (.aload_n 0, 1) := by decide +kernel
theorem dX12_program_75 : decode cX12_program 75 = .ok (.getfield 229, 3) := by decide +kernel
theorem dX12_program_78 : decode cX12_program 78 = .ok (.bipush 10, 2) := by decide +kernel
theorem dX12_program_80 : decode cX12_program 80 = .ok (.isub, 1) := by decide +kernel
theorem dX12_program_81 : decode cX12_program 81 = .ok (.ireturn, 1) := by decide +kernel
theorem dX12_program_82 : decode cX12_program 82 = .ok (.aload_n 0, 1) := by decide +kernel
theorem dX12_program_83 : decode cX12_program 83 = .ok (.getfield 61, 3) := by decide +kernel
theorem dX12_program_86 : decode cX12_program 86 = .ok (.iload_n 1, 1) := by decide +kernel
theorem dX12_program_87 : decode cX12_program 87 = .ok (.aload_n 0, 1) := by decide +kernel
theorem dX12_program_88 : decode cX12_program 88 = .ok (.getfield 61, 3) := by decide +kernel
theorem dX12_program_91 : decode cX12_program 91 = .ok (.iconst 4, 1) := by decide +kernel
theorem dX12_program_92 : decode cX12_program 92 = .ok (.iaload, 1) := by decide +kernel
theorem dX12_program_93 : decode cX12_program 93 = .ok (.iastore, 1) := by decide +kernel
theorem dX12_program_94 : decode cX12_program 94 = .ok (.iconst 0, 1) := by decide +kernel
theorem dX12_program_95 : decode cX12_program 95 = .ok (.istore_n 3, 1) := by decide +kernel
theorem dX12_program_96 : decode cX12_program 96 = .ok (.iload_n 3, 1) := by decide +kernel
theorem dX12_program_97 : decode cX12_program 97 = .ok (.bipush 12, 2) := by decide +kernel
theorem dX12_program_99 : decode cX12_program 99 = .ok (.if_icmp .ge 174, 3) := by decide +kernel
theorem dX12_program_102 : decode cX12_program 102 = .ok (.aload_n 0, 1) := by decide +kernel
theorem dX12_program_103 : decode cX12_program 103 = .ok (.getfield 64, 3) := by decide +kernel
theorem dX12_program_106 : decode cX12_program 106 = .ok (.bipush 12, 2) := by decide +kernel
theorem dX12_program_108 : decode cX12_program 108 = .ok (.iload_n 1, 1) := by decide +kernel
theorem dX12_program_109 : decode cX12_program 109 = .ok (.imul, 1) := by decide +kernel
theorem dX12_program_110 : decode cX12_program 110 = .ok (.iload_n 3, 1) := by decide +kernel
theorem dX12_program_111 : decode cX12_program 111 = .ok (.iadd, 1) := by decide +kernel
theorem dX12_program_112 : decode cX12_program 112 = .ok (.aload_n 0, 1) := by decide +kernel
theorem dX12_program_113 : decode cX12_program 113 = .ok (.getfield 64, 3) := by decide +kernel
theorem dX12_program_116 : decode cX12_program 116 = .ok (.bipush 48, 2) := by decide +kernel
theorem dX12_program_118 : decode cX12_program 118 = .ok (.iload_n 3, 1) := by decide +kernel
theorem dX12_program_119 : decode cX12_program 119 = .ok (.iadd, 1) := by decide +kernel
theorem dX12_program_120 : decode cX12_program 120 = .ok (.iaload, 1) := by decide +kernel
theorem dX12_program_121 : decode cX12_program 121 = .ok (.iastore, 1) := by decide +kernel
theorem dX12_program_122 : decode cX12_program 122 = .ok (.aload_n 0, 1) := by decide +kernel
theorem dX12_program_123 : decode cX12_program 123 = .ok (.getfield 67, 3) := by decide +kernel
theorem dX12_program_126 : decode cX12_program 126 = .ok (.bipush 12, 2) := by decide +kernel
theorem dX12_program_128 : decode cX12_program 128 = .ok (.iload_n 1, 1) := by decide +kernel
theorem dX12_program_129 : decode cX12_program 129 = .ok (.imul, 1) := by decide +kernel
theorem dX12_program_130 : decode cX12_program 130 = .ok (.iload_n 3, 1) := by decide +kernel
theorem dX12_program_131 : decode cX12_program 131 = .ok (.iadd, 1) := by decide +kernel
theorem dX12_program_132 : decode cX12_program 132 = .ok (.aload_n 0, 1) := by decide +kernel
theorem dX12_program_133 : decode cX12_program 133 = .ok (.getfield 67, 3) := by decide +kernel
theorem dX12_program_136 : decode cX12_program 136 = .ok (.bipush 48, 2) := by decide +kernel
theorem dX12_program_138 : decode cX12_program 138 = .ok (.iload_n 3, 1) := by decide +kernel
theorem dX12_program_139 : decode cX12_program 139 = .ok (.iadd, 1) := by decide +kernel
theorem dX12_program_140 : decode cX12_program 140 = .ok (.iaload, 1) := by decide +kernel
theorem dX12_program_141 : decode cX12_program 141 = .ok (.iastore, 1) := by decide +kernel
theorem dX12_program_142 : decode cX12_program 142 = .ok (.aload_n 0, 1) := by decide +kernel
theorem dX12_program_143 : decode cX12_program 143 = .ok (.getfield 70, 3) := by decide +kernel
theorem dX12_program_146 : decode cX12_program 146 = .ok (.bipush 12, 2) := by decide +kernel
theorem dX12_program_148 : decode cX12_program 148 = .ok (.iload_n 1, 1) := by decide +kernel
theorem dX12_program_149 : decode cX12_program 149 = .ok (.imul, 1) := by decide +kernel
theorem dX12_program_150 : decode cX12_program 150 = .ok (.iload_n 3, 1) := by decide +kernel
theorem dX12_program_151 : decode cX12_program 151 = .ok (.iadd, 1) := by decide +kernel
theorem dX12_program_152 : decode cX12_program 152 = .ok (.aload_n 0, 1) := by decide +kernel
theorem dX12_program_153 : decode cX12_program 153 = .ok (.getfield 70, 3) := by decide +kernel
theorem dX12_program_156 : decode cX12_program 156 = .ok (.bipush 48, 2) := by decide +kernel
theorem dX12_program_158 : decode cX12_program 158 = .ok (.iload_n 3, 1) := by decide +kernel
theorem dX12_program_159 : decode cX12_program 159 = .ok (.iadd, 1) := by decide +kernel
theorem dX12_program_160 : decode cX12_program 160 = .ok (.iaload, 1) := by decide +kernel
theorem dX12_program_161 : decode cX12_program 161 = .ok (.iastore, 1) := by decide +kernel
theorem dX12_program_162 : decode cX12_program 162 = .ok (.iconst 0, 1) := by decide +kernel
theorem dX12_program_163 : decode cX12_program 163 = .ok (.istore 4, 2) := by decide +kernel
theorem dX12_program_165 : decode cX12_program 165 = .ok (.iload 4, 2) := by decide +kernel
theorem dX12_program_167 : decode cX12_program 167 = .ok (.iconst 4, 1) := by decide +kernel
theorem dX12_program_168 : decode cX12_program 168 = .ok (.if_icmp .ge 99, 3) := by decide +kernel
theorem dX12_program_171 : decode cX12_program 171 = .ok (.aload_n 0, 1) := by decide +kernel
theorem dX12_program_172 : decode cX12_program 172 = .ok (.getfield 73, 3) := by decide +kernel
theorem dX12_program_175 : decode cX12_program 175 = .ok (.iconst 4, 1) := by decide +kernel
theorem dX12_program_176 : decode cX12_program 176 = .ok (.bipush 12, 2) := by decide +kernel
theorem dX12_program_178 : decode cX12_program 178 = .ok (.iload_n 1, 1) := by decide +kernel
theorem dX12_program_179 : decode cX12_program 179 = .ok (.imul, 1) := by decide +kernel
theorem dX12_program_180 : decode cX12_program 180 = .ok (.iload_n 3, 1) := by decide +kernel
theorem dX12_program_181 : decode cX12_program 181 = .ok (.iadd, 1) := by decide +kernel
theorem dX12_program_182 : decode cX12_program 182 = .ok (.imul, 1) := by decide +kernel
theorem dX12_program_183 : decode cX12_program 183 = .ok (.iload 4, 2) := by decide +kernel
theorem dX12_program_185 : decode cX12_program 185 = .ok (.iadd, 1) := by decide +kernel
theorem dX12_program_186 : decode cX12_program 186 = .ok (.aload_n 0, 1) := by decide +kernel
theorem dX12_program_187 : decode cX12_program 187 = .ok (.getfield 73, 3) := by decide +kernel
theorem dX12_program_190 : decode cX12_program 190 = .ok (.iconst 4, 1) := by decide +kernel
theorem dX12_program_191 : decode cX12_program 191 = .ok (.bipush 48, 2) := by decide +kernel
theorem dX12_program_193 : decode cX12_program 193 = .ok (.iload_n 3, 1) := by decide +kernel
theorem dX12_program_194 : decode cX12_program 194 = .ok (.iadd, 1) := by decide +kernel
theorem dX12_program_195 : decode cX12_program 195 = .ok (.imul, 1) := by decide +kernel
theorem dX12_program_196 : decode cX12_program 196 = .ok (.iload 4, 2) := by decide +kernel
theorem dX12_program_198 : decode cX12_program 198 = .ok (.iadd, 1) := by decide +kernel
theorem dX12_program_199 : decode cX12_program 199 = .ok (.iaload, 1) := by decide +kernel
theorem dX12_program_200 : decode cX12_program 200 = .ok (.iastore, 1) := by decide +kernel
theorem dX12_program_201 : decode cX12_program 201 = .ok (.aload_n 0, 1) := by decide +kernel
theorem dX12_program_202 : decode cX12_program 202 = .ok (.getfield 76, 3) := by decide +kernel
theorem dX12_program_205 : decode cX12_program 205 = .ok (.iconst 4, 1) := by decide +kernel
theorem dX12_program_206 : decode cX12_program 206 = .ok (.bipush 12, 2) := by decide +kernel
theorem dX12_program_208 : decode cX12_program 208 = .ok (.iload_n 1, 1) := by decide +kernel
theorem dX12_program_209 : decode cX12_program 209 = .ok (.imul, 1) := by decide +kernel
theorem dX12_program_210 : decode cX12_program 210 = .ok (.iload_n 3, 1) := by decide +kernel
theorem dX12_program_211 : decode cX12_program 211 = .ok (.iadd, 1) := by decide +kernel
theorem dX12_program_212 : decode cX12_program 212 = .ok (.imul, 1) := by decide +kernel
theorem dX12_program_213 : decode cX12_program 213 = .ok (.iload 4, 2) := by decide +kernel
theorem dX12_program_215 : decode cX12_program 215 = .ok (.iadd, 1) := by decide +kernel
theorem dX12_program_216 : decode cX12_program 216 = .ok (.aload_n 0, 1) := by decide +kernel
theorem dX12_program_217 : decode cX12_program 217 = .ok (.getfield 76, 3) := by decide +kernel
theorem dX12_program_220 : decode cX12_program 220 = .ok (.iconst 4, 1) := by decide +kernel
theorem dX12_program_221 : decode cX12_program 221 = .ok (.bipush 48, 2) := by decide +kernel
theorem dX12_program_223 : decode cX12_program 223 = .ok (.iload_n 3, 1) := by decide +kernel
theorem dX12_program_224 : decode cX12_program 224 = .ok (.iadd, 1) := by decide +kernel
theorem dX12_program_225 : decode cX12_program 225 = .ok (.imul, 1) := by decide +kernel
theorem dX12_program_226 : decode cX12_program 226 = .ok (.iload 4, 2) := by decide +kernel
theorem dX12_program_228 : decode cX12_program 228 = .ok (.iadd, 1) := by decide +kernel
theorem dX12_program_229 : decode cX12_program 229 = .ok (.iaload, 1) := by decide +kernel
theorem dX12_program_230 : decode cX12_program 230 = .ok (.iastore, 1) := by decide +kernel
theorem dX12_program_231 : decode cX12_program 231 = .ok (.aload_n 0, 1) := by decide +kernel
theorem dX12_program_232 : decode cX12_program 232 = .ok (.getfield 79, 3) := by decide +kernel
theorem dX12_program_235 : decode cX12_program 235 = .ok (.iconst 4, 1) := by decide +kernel
theorem dX12_program_236 : decode cX12_program 236 = .ok (.bipush 12, 2) := by decide +kernel
theorem dX12_program_238 : decode cX12_program 238 = .ok (.iload_n 1, 1) := by decide +kernel
theorem dX12_program_239 : decode cX12_program 239 = .ok (.imul, 1) := by decide +kernel
theorem dX12_program_240 : decode cX12_program 240 = .ok (.iload_n 3, 1) := by decide +kernel
theorem dX12_program_241 : decode cX12_program 241 = .ok (.iadd, 1) := by decide +kernel
theorem dX12_program_242 : decode cX12_program 242 = .ok (.imul, 1) := by decide +kernel
theorem dX12_program_243 : decode cX12_program 243 = .ok (.iload 4, 2) := by decide +kernel
theorem dX12_program_245 : decode cX12_program 245 = .ok (.iadd, 1) := by decide +kernel
theorem dX12_program_246 : decode cX12_program 246 = .ok (.aload_n 0, 1) := by decide +kernel
theorem dX12_program_247 : decode cX12_program 247 = .ok (.getfield 79, 3) := by decide +kernel
theorem dX12_program_250 : decode cX12_program 250 = .ok (.iconst 4, 1) := by decide +kernel
theorem dX12_program_251 : decode cX12_program 251 = .ok (.bipush 48, 2) := by decide +kernel
theorem dX12_program_253 : decode cX12_program 253 = .ok (.iload_n 3, 1) := by decide +kernel
theorem dX12_program_254 : decode cX12_program 254 = .ok (.iadd, 1) := by decide +kernel
theorem dX12_program_255 : decode cX12_program 255 = .ok (.imul, 1) := by decide +kernel
theorem dX12_program_256 : decode cX12_program 256 = .ok (.iload 4, 2) := by decide +kernel
theorem dX12_program_258 : decode cX12_program 258 = .ok (.iadd, 1) := by decide +kernel
theorem dX12_program_259 : decode cX12_program 259 = .ok (.iaload, 1) := by decide +kernel
theorem dX12_program_260 : decode cX12_program 260 = .ok (.iastore, 1) := by decide +kernel
theorem dX12_program_261 : decode cX12_program 261 = .ok (.iinc 4 1, 3) := by decide +kernel
theorem dX12_program_264 : decode cX12_program 264 = .ok (.goto (-99), 3) := by decide +kernel
theorem dX12_program_267 : decode cX12_program 267 = .ok (.iinc 3 1, 3) := by decide +kernel
theorem dX12_program_270 : decode cX12_program 270 = .ok (.goto (-174), 3) := by decide +kernel
theorem dX12_program_273 : decode cX12_program 273 = .ok (.aload_n 0, 1) := by decide +kernel
theorem dX12_program_274 : decode cX12_program 274 = .ok (.getfield 61, 3) := by decide +kernel
theorem dX12_program_277 : decode cX12_program 277 = .ok (.iload_n 1, 1) := by decide +kernel
theorem dX12_program_278 : decode cX12_program 278 = .ok (.iaload, 1) := by decide +kernel
theorem dX12_program_279 : decode cX12_program 279 = .ok (.ireturn, 1) := by decide +kernel
theorem inn_X12_program_12 : ∀ w ∈ u_ws RX12 TX12 66, w ∈ wsX12_program := fun w h => List.mem_cons_of_mem _ (List.mem_append_right _ h)
set_option maxHeartbeats 4000000 in
set_option maxRecDepth 100000 in
theorem k_X12_program (l : Launch) (G : va_G) (cy : Nat → ClassId) (κ : Nat → Nat) (S : PS) (sz : Nat) (x : Nat) (a1 : Int32) (a1_z : Int) (hG : GX S) (ha_x : At S x 12) (hz_a1 : a1.toInt = a1_z) : Ci l yX12_program wsX12_program ({ frames := 8, cells := 0, slots := 0, locals := 384 }) G cy κ S sz [.ref x, .int (a1)] (fun (r : Int32) (S9 : PS) => Ok MT S S9 ∧ (True)) := by
  refine ent_m (cc := cX12_program) (maxL := 5) (ret := (some .int)) (by decide) rfl (Nat.le_of_ble_eq_true rfl) ?_
  intro p e s m below meth c ls X hr hlocks hin hw hl hsz
  subst hsz
  have X : Cx p c cX12_program 5 s [.ref x, .int (a1)].toArray wsX12_program RX12 m G cy κ (AS S s.heap.size) := X
  have hl : lv_has ls 5 [(0, .ref x), (1, .int (a1))] := hl
  have rg_a1 : (-2147483648) ≤ a1_z ∧ a1_z ≤ 2147483647 := by rw [← hz_a1]; exact ⟨z_lo _, z_hi _⟩
  have hO : Ok MT S S := Ok.rf hG
  generalize hQQ : MQ below _ _ _ _ _ _ = QQ
  replace hQQ := hQQ.symm
  refine lv_aload_n X.1 X.2.1 dX12_program_0 rfl (lv_at hl 0 rfl) ?_
  refine lv_iconst (v := 0) X.1 X.2.1 dX12_program_1 (by decide) ?_
  refine r_putI (v := 0) X hw ha_x rfl 0 1200 tyX12 (by decide) rfl inn_X12_program_12 tyX12_ok nmX12 (by decide) (X.2.2.2.1 (.fieldLink RX12 161 "SilkMillModel" "thrown" "I") (by decide +kernel)) rfl (Or.inl rfl) rfl rfl (Nat.le_of_ble_eq_true rfl) (st_1200 _ _) dX12_program_2 (fun H locs hw => ?_)
  obtain ⟨S_1, eS_1⟩ : ∃ T, T = sI S 1200 x (0) := ⟨_, rfl⟩
  rw [← eS_1] at hw
  have hO_2 : Ok MT S S_1 := hO.sI eS_1 (by decide +kernel) (uI_12_1200 hO.1 ha_x)
  have h_3 : pI S_1 1200 x = 0 := tI_sIs eS_1
  refine lv_aload_n X.1 X.2.1 dX12_program_5 rfl (lv_at hl 0 rfl) ?_
  refine lv_iload_n X.1 X.2.1 dX12_program_6 rfl (lv_at hl 1 rfl) ?_
  have t_4 : At S_1 x 12 := tAt_sI eS_1 ha_x
  refine k_i (rm := { frames := 2, cells := 0, slots := 0, locals := 96 }) (av := [.ref x, .int (a1)]) X hw (va_runV (As := [.int (a1)]) (rest := []) (cfix X) (k_X12_isPot l G cy κ S_1 _ x (a1) (a1_z) hO_2.1 t_4 hz_a1) (cwV 1 X.2.2.2.1 gX12_program_X12_isPot rfl rfl rfl (by decide +kernel) ⟨Nat.le_of_ble_eq_true rfl, Nat.le_of_ble_eq_true rfl⟩) (pre_V X hw _ t_4 rfl (by decide) rfl) rfl rfl hl.1 rfl (lv_room (Nat.le_of_ble_eq_true rfl)) dX12_program_7 ⟨Nat.le_of_ble_eq_true rfl, Nat.le_of_ble_eq_true rfl⟩) 0 0 (Nat.le_of_ble_eq_true rfl) (Nat.le_of_ble_eq_true rfl) (fun rr_5 S_6 H locs hp hw hfr hnw => ?_)
  obtain ⟨e2, hp⟩ := hp
  subst e2
  rcases hp with ⟨f_7, er_8⟩ | ⟨f_7, er_8⟩ <;> subst er_8
  · have z_b_9 := trivial
    refine lv_if_ne (tgt := 15) X.1 X.2.1 dX12_program_10 (by decide) (fun c_10 => ?_) (fun c_10 => absurd c_10 (by decide))
    have L_11 : ∀ (n : Nat) (T_13 : PS) (H : Heap) (locs : List Loc) (ls : Array Slot) (i3_12 : Int32) (i3_12_z : Int), ((12 - i3_12_z).toNat = n) → (Wd G cy (AS S s.heap.size) s.heap T_13 H locs) → (i3_12.toInt = i3_12_z) → (0 ≤ i3_12_z ∧ i3_12_z ≤ 12) → (At T_13 x 12) → (Ok MT S T_13) → (lv_has ls 5 [(3, .int (i3_12)), (0, .ref x), (1, .int (a1))]) → W p l e ({ frames := 8, cells := 0, slots := 0, locals := 384 }) s m [.ref x, .int (a1)].toArray below meth c H locs 0 0 QQ (F0 m 96 ls []) := by
      intro n
      induction n using Nat.strongRecOn with
      | ind n ih_L_11 =>
      intro T_13 H locs ls i3_12 i3_12_z hn hw hz_i3_12 hr_i3_12 ha_x_L_14 hO_T_13 hl
      have rg_15 : (-2147483648) ≤ i3_12_z ∧ i3_12_z ≤ 2147483647 := by rw [← hz_i3_12]; exact ⟨z_lo _, z_hi _⟩
      refine lv_iload_n X.1 X.2.1 dX12_program_96 rfl (lv_at hl 0 rfl) ?_
      refine lv_bipush (v := 12) X.1 X.2.1 dX12_program_97 (by decide) ?_
      refine lv_icmp_ge (tgt := 273) X.1 X.2.1 dX12_program_99 (by decide) (fun c_16 => ?_) (fun c_16 => ?_)
      · have z_b_17 := trivial
        have k_18 : i3_12_z ≥ 12 := z_le ti_12 hz_i3_12 c_16
        refine lv_aload_n X.1 X.2.1 dX12_program_273 rfl (lv_at hl 1 rfl) ?_
        obtain ⟨q_19, h_20, h_21, h_22⟩ := gQ_12_1220 hO_T_13.1 ha_x_L_14
        refine r_getR (g := 1220) X hw ha_x_L_14 rfl 20 h_20 (by decide) rfl inn_X12_program_12 (by decide) (X.2.2.2.1 (.fieldLink RX12 61 "SilkMillModel" "rules" "[I") (by decide +kernel)) rfl (gv_1220 _ _) dX12_program_274 ?_
        refine lv_iload_n X.1 X.2.1 dX12_program_277 rfl (lv_at hl 2 rfl) ?_
        refine r_iald X hw h_21 rfl (by rw [h_22]; exact z_ix hz_a1 (by omega) (by omega)) dX12_program_278 ?_
        refine lv_topi (fun v_23 ev_23 => ?_)
        have z_24 := gE_614 hO_T_13.1 h_21 (Int32.toNatClampNeg (a1)); rw [← ev_23] at z_24
        have ev_23 := ev_23.symm
        rw [hQQ]
        exact ret_i X hw hr hlocks (Nat.le_of_ble_eq_true rfl) (Nat.le_of_ble_eq_true rfl) ⟨hO_T_13, trivial⟩ dX12_program_279
      · have z_b_25 := trivial
        have k_26 : i3_12_z < 12 := z_nle ti_12 hz_i3_12 c_16
        refine lv_aload_n X.1 X.2.1 dX12_program_102 rfl (lv_at hl 1 rfl) ?_
        obtain ⟨q_27, h_28, h_29, h_30⟩ := gQ_12_1221 hO_T_13.1 ha_x_L_14
        refine r_getR (g := 1221) X hw ha_x_L_14 rfl 21 h_28 (by decide) rfl inn_X12_program_12 (by decide) (X.2.2.2.1 (.fieldLink RX12 64 "SilkMillModel" "act" "[I") (by decide +kernel)) rfl (gv_1221 _ _) dX12_program_103 ?_
        refine lv_bipush (v := 12) X.1 X.2.1 dX12_program_106 (by decide) ?_
        refine lv_iload_n X.1 X.2.1 dX12_program_108 rfl (lv_at hl 2 rfl) ?_
        refine lv_imul X.1 X.2.1 dX12_program_109 ?_
        refine lv_topi (fun v_31 ev_31 => ?_)
        have z_32 : v_31.toInt = 12 * a1_z := z_mul ev_31 ti_12 hz_a1 (by omega) (by omega)
        refine lv_iload_n X.1 X.2.1 dX12_program_110 rfl (lv_at hl 0 rfl) ?_
        refine lv_iadd X.1 X.2.1 dX12_program_111 ?_
        refine lv_topi (fun v_33 ev_33 => ?_)
        have z_34 : v_33.toInt = (12 * a1_z) + i3_12_z := z_add ev_33 z_32 hz_i3_12 (by omega) (by omega)
        refine lv_aload_n X.1 X.2.1 dX12_program_112 rfl (lv_at hl 1 rfl) ?_
        refine r_getR (g := 1221) X hw ha_x_L_14 rfl 21 h_28 (by decide) rfl inn_X12_program_12 (by decide) (X.2.2.2.1 (.fieldLink RX12 64 "SilkMillModel" "act" "[I") (by decide +kernel)) rfl (gv_1221 _ _) dX12_program_113 ?_
        refine lv_bipush (v := 48) X.1 X.2.1 dX12_program_116 (by decide) ?_
        refine lv_iload_n X.1 X.2.1 dX12_program_118 rfl (lv_at hl 0 rfl) ?_
        refine lv_iadd X.1 X.2.1 dX12_program_119 ?_
        refine lv_topi (fun v_35 ev_35 => ?_)
        have z_36 : v_35.toInt = 48 + i3_12_z := z_add ev_35 ti_48 hz_i3_12 (by omega) (by omega)
        refine r_iald X hw h_29 rfl (by rw [h_30]; exact z_ix z_36 (by omega) (by omega)) dX12_program_120 ?_
        refine lv_topi (fun v_37 ev_37 => ?_)
        have rg_38 := And.intro (z_lo v_37) (z_hi v_37)
        have ev_37 := ev_37.symm
        refine r_iast X hw h_29 rfl (by rw [h_30]; exact z_ix z_34 (by omega) (by omega)) dX12_program_121 (fun H locs hw => ?_)
        obtain ⟨S_39, eS_39⟩ : ∃ T, T = sA T_13 q_27 (upd (pA T_13 q_27) (Int32.toNatClampNeg (v_33)) (v_37)) := ⟨_, rfl⟩
        rw [← eS_39] at hw
        have hO_40 : Ok MT S S_39 := hO_T_13.sA eS_39 h_29 (by decide +kernel) (uA_634 hO_T_13.1 h_29)
        have h_41 : pA S_39 q_27 (Int32.toNatClampNeg (v_33)) = v_37 := tA_sAs eS_39
        clear z_32
        clear z_34
        clear z_36
        refine lv_aload_n X.1 X.2.1 dX12_program_122 rfl (lv_at hl 1 rfl) ?_
        have t_42 : At S_39 x 12 := tAt_sA eS_39 ha_x_L_14
        obtain ⟨q_43, h_44, h_45, h_46⟩ := gQ_12_1222 hO_40.1 t_42
        refine r_getR (g := 1222) X hw t_42 rfl 22 h_44 (by decide) rfl inn_X12_program_12 (by decide) (X.2.2.2.1 (.fieldLink RX12 67 "SilkMillModel" "actNumber" "[I") (by decide +kernel)) rfl (gv_1222 _ _) dX12_program_123 ?_
        refine lv_bipush (v := 12) X.1 X.2.1 dX12_program_126 (by decide) ?_
        refine lv_iload_n X.1 X.2.1 dX12_program_128 rfl (lv_at hl 2 rfl) ?_
        refine lv_imul X.1 X.2.1 dX12_program_129 ?_
        refine lv_topi (fun v_47 ev_47 => ?_)
        have z_48 : v_47.toInt = 12 * a1_z := z_mul ev_47 ti_12 hz_a1 (by omega) (by omega)
        refine lv_iload_n X.1 X.2.1 dX12_program_130 rfl (lv_at hl 0 rfl) ?_
        refine lv_iadd X.1 X.2.1 dX12_program_131 ?_
        refine lv_topi (fun v_49 ev_49 => ?_)
        have z_50 : v_49.toInt = (12 * a1_z) + i3_12_z := z_add ev_49 z_48 hz_i3_12 (by omega) (by omega)
        refine lv_aload_n X.1 X.2.1 dX12_program_132 rfl (lv_at hl 1 rfl) ?_
        refine r_getR (g := 1222) X hw t_42 rfl 22 h_44 (by decide) rfl inn_X12_program_12 (by decide) (X.2.2.2.1 (.fieldLink RX12 67 "SilkMillModel" "actNumber" "[I") (by decide +kernel)) rfl (gv_1222 _ _) dX12_program_133 ?_
        refine lv_bipush (v := 48) X.1 X.2.1 dX12_program_136 (by decide) ?_
        refine lv_iload_n X.1 X.2.1 dX12_program_138 rfl (lv_at hl 0 rfl) ?_
        refine lv_iadd X.1 X.2.1 dX12_program_139 ?_
        refine lv_topi (fun v_51 ev_51 => ?_)
        have z_52 : v_51.toInt = 48 + i3_12_z := z_add ev_51 ti_48 hz_i3_12 (by omega) (by omega)
        refine r_iald X hw h_45 rfl (by rw [h_46]; exact z_ix z_52 (by omega) (by omega)) dX12_program_140 ?_
        refine lv_topi (fun v_53 ev_53 => ?_)
        have rg_54 := And.intro (z_lo v_53) (z_hi v_53)
        have ev_53 := ev_53.symm
        refine r_iast X hw h_45 rfl (by rw [h_46]; exact z_ix z_50 (by omega) (by omega)) dX12_program_141 (fun H locs hw => ?_)
        obtain ⟨S_55, eS_55⟩ : ∃ T, T = sA S_39 q_43 (upd (pA S_39 q_43) (Int32.toNatClampNeg (v_49)) (v_53)) := ⟨_, rfl⟩
        rw [← eS_55] at hw
        have hO_56 : Ok MT S S_55 := hO_40.sA eS_55 h_45 (by decide +kernel) (uA_654 hO_40.1 h_45)
        have h_57 : pA S_55 q_43 (Int32.toNatClampNeg (v_49)) = v_53 := tA_sAs eS_55
        clear z_48
        clear z_50
        clear z_52
        refine lv_aload_n X.1 X.2.1 dX12_program_142 rfl (lv_at hl 1 rfl) ?_
        have t_58 : At S_55 x 12 := tAt_sA eS_55 t_42
        obtain ⟨q_59, h_60, h_61, h_62⟩ := gQ_12_1223 hO_56.1 t_58
        refine r_getR (g := 1223) X hw t_58 rfl 23 h_60 (by decide) rfl inn_X12_program_12 (by decide) (X.2.2.2.1 (.fieldLink RX12 70 "SilkMillModel" "conditions" "[I") (by decide +kernel)) rfl (gv_1223 _ _) dX12_program_143 ?_
        refine lv_bipush (v := 12) X.1 X.2.1 dX12_program_146 (by decide) ?_
        refine lv_iload_n X.1 X.2.1 dX12_program_148 rfl (lv_at hl 2 rfl) ?_
        refine lv_imul X.1 X.2.1 dX12_program_149 ?_
        refine lv_topi (fun v_63 ev_63 => ?_)
        have z_64 : v_63.toInt = 12 * a1_z := z_mul ev_63 ti_12 hz_a1 (by omega) (by omega)
        refine lv_iload_n X.1 X.2.1 dX12_program_150 rfl (lv_at hl 0 rfl) ?_
        refine lv_iadd X.1 X.2.1 dX12_program_151 ?_
        refine lv_topi (fun v_65 ev_65 => ?_)
        have z_66 : v_65.toInt = (12 * a1_z) + i3_12_z := z_add ev_65 z_64 hz_i3_12 (by omega) (by omega)
        refine lv_aload_n X.1 X.2.1 dX12_program_152 rfl (lv_at hl 1 rfl) ?_
        refine r_getR (g := 1223) X hw t_58 rfl 23 h_60 (by decide) rfl inn_X12_program_12 (by decide) (X.2.2.2.1 (.fieldLink RX12 70 "SilkMillModel" "conditions" "[I") (by decide +kernel)) rfl (gv_1223 _ _) dX12_program_153 ?_
        refine lv_bipush (v := 48) X.1 X.2.1 dX12_program_156 (by decide) ?_
        refine lv_iload_n X.1 X.2.1 dX12_program_158 rfl (lv_at hl 0 rfl) ?_
        refine lv_iadd X.1 X.2.1 dX12_program_159 ?_
        refine lv_topi (fun v_67 ev_67 => ?_)
        have z_68 : v_67.toInt = 48 + i3_12_z := z_add ev_67 ti_48 hz_i3_12 (by omega) (by omega)
        refine r_iald X hw h_61 rfl (by rw [h_62]; exact z_ix z_68 (by omega) (by omega)) dX12_program_160 ?_
        refine lv_topi (fun v_69 ev_69 => ?_)
        have z_70 := gE_674 hO_56.1 h_61 (Int32.toNatClampNeg (v_67)); rw [← ev_69] at z_70
        have ev_69 := ev_69.symm
        refine r_iast X hw h_61 rfl (by rw [h_62]; exact z_ix z_66 (by omega) (by omega)) dX12_program_161 (fun H locs hw => ?_)
        obtain ⟨S_71, eS_71⟩ : ∃ T, T = sA S_55 q_59 (upd (pA S_55 q_59) (Int32.toNatClampNeg (v_65)) (v_69)) := ⟨_, rfl⟩
        rw [← eS_71] at hw
        have hO_72 : Ok MT S S_71 := hO_56.sA eS_71 h_61 (by decide +kernel) (uA_674 hO_56.1 h_61 (by omega) (by omega))
        have h_73 : pA S_71 q_59 (Int32.toNatClampNeg (v_65)) = v_69 := tA_sAs eS_71
        clear z_64
        clear z_66
        clear z_68
        refine lv_iconst (v := 0) X.1 X.2.1 dX12_program_162 (by decide) ?_
        refine lv_istore (lv' := [(4, .int 0), (3, .int (i3_12)), (0, .ref x), (1, .int (a1))]) X.1 X.2.1 dX12_program_163 hl (by decide) rfl (fun ls hl => ?_)
        have L_74 : ∀ (n : Nat) (T_76 : PS) (H : Heap) (locs : List Loc) (ls : Array Slot) (i4_75 : Int32) (i4_75_z : Int), ((4 - i4_75_z).toNat = n) → (Wd G cy (AS S s.heap.size) s.heap T_76 H locs) → (i4_75.toInt = i4_75_z) → (0 ≤ i4_75_z ∧ i4_75_z ≤ 4) → (At T_76 x 12) → (Ok MT S T_76) → (lv_has ls 5 [(4, .int (i4_75)), (3, .int (i3_12)), (0, .ref x), (1, .int (a1))]) → W p l e ({ frames := 8, cells := 0, slots := 0, locals := 384 }) s m [.ref x, .int (a1)].toArray below meth c H locs 0 0 QQ (F0 m 165 ls []) := by
          intro n
          induction n using Nat.strongRecOn with
          | ind n ih_L_74 =>
          intro T_76 H locs ls i4_75 i4_75_z hn hw hz_i4_75 hr_i4_75 ha_x_L_77 hO_T_76 hl
          have rg_78 : (-2147483648) ≤ i4_75_z ∧ i4_75_z ≤ 2147483647 := by rw [← hz_i4_75]; exact ⟨z_lo _, z_hi _⟩
          refine lv_iload X.1 X.2.1 dX12_program_165 (lv_at hl 0 rfl) ?_
          refine lv_iconst (v := 4) X.1 X.2.1 dX12_program_167 (by decide) ?_
          refine lv_icmp_ge (tgt := 267) X.1 X.2.1 dX12_program_168 (by decide) (fun c_79 => ?_) (fun c_79 => ?_)
          · have z_b_80 := trivial
            have k_81 : i4_75_z ≥ 4 := z_le ti_4 hz_i4_75 c_79
            obtain ⟨x_82, ex_82⟩ : ∃ y : Int32, y = i3_12 + 1 := ⟨_, rfl⟩
            have z_83 : x_82.toInt = i3_12_z + 1 := z_add ex_82 hz_i3_12 ti_1 (by omega) (by omega)
            refine lv_iinc (v := x_82) (lv' := [(3, .int (x_82)), (4, .int (i4_75)), (0, .ref x), (1, .int (a1))]) X.1 X.2.1 dX12_program_267 hl (k := 1) rfl (by rw [ex_82]; rfl) (by decide) rfl (fun ls hl => ?_)
            refine lv_goto (tgt := 96) X.1 X.2.1 dX12_program_270 (by decide) ?_
            exact ih_L_11 _ (by omega) _ _ _ _ (x_82) (x_82.toInt) rfl hw rfl (by omega) ha_x_L_77 hO_T_76 (lv_sub hl [0, 2, 3] rfl)
          · have z_b_84 := trivial
            have k_85 : i4_75_z < 4 := z_nle ti_4 hz_i4_75 c_79
            refine lv_aload_n X.1 X.2.1 dX12_program_171 rfl (lv_at hl 2 rfl) ?_
            obtain ⟨q_86, h_87, h_88, h_89⟩ := gQ_12_1224 hO_T_76.1 ha_x_L_77
            refine r_getR (g := 1224) X hw ha_x_L_77 rfl 24 h_87 (by decide) rfl inn_X12_program_12 (by decide) (X.2.2.2.1 (.fieldLink RX12 73 "SilkMillModel" "field" "[I") (by decide +kernel)) rfl (gv_1224 _ _) dX12_program_172 ?_
            refine lv_iconst (v := 4) X.1 X.2.1 dX12_program_175 (by decide) ?_
            refine lv_bipush (v := 12) X.1 X.2.1 dX12_program_176 (by decide) ?_
            refine lv_iload_n X.1 X.2.1 dX12_program_178 rfl (lv_at hl 3 rfl) ?_
            refine lv_imul X.1 X.2.1 dX12_program_179 ?_
            refine lv_topi (fun v_90 ev_90 => ?_)
            have z_91 : v_90.toInt = 12 * a1_z := z_mul ev_90 ti_12 hz_a1 (by omega) (by omega)
            refine lv_iload_n X.1 X.2.1 dX12_program_180 rfl (lv_at hl 1 rfl) ?_
            refine lv_iadd X.1 X.2.1 dX12_program_181 ?_
            refine lv_topi (fun v_92 ev_92 => ?_)
            have z_93 : v_92.toInt = (12 * a1_z) + i3_12_z := z_add ev_92 z_91 hz_i3_12 (by omega) (by omega)
            refine lv_imul X.1 X.2.1 dX12_program_182 ?_
            refine lv_topi (fun v_94 ev_94 => ?_)
            have z_95 : v_94.toInt = 4 * ((12 * a1_z) + i3_12_z) := z_mul ev_94 ti_4 z_93 (by omega) (by omega)
            refine lv_iload X.1 X.2.1 dX12_program_183 (lv_at hl 0 rfl) ?_
            refine lv_iadd X.1 X.2.1 dX12_program_185 ?_
            refine lv_topi (fun v_96 ev_96 => ?_)
            have z_97 : v_96.toInt = (4 * ((12 * a1_z) + i3_12_z)) + i4_75_z := z_add ev_96 z_95 hz_i4_75 (by omega) (by omega)
            refine lv_aload_n X.1 X.2.1 dX12_program_186 rfl (lv_at hl 2 rfl) ?_
            refine r_getR (g := 1224) X hw ha_x_L_77 rfl 24 h_87 (by decide) rfl inn_X12_program_12 (by decide) (X.2.2.2.1 (.fieldLink RX12 73 "SilkMillModel" "field" "[I") (by decide +kernel)) rfl (gv_1224 _ _) dX12_program_187 ?_
            refine lv_iconst (v := 4) X.1 X.2.1 dX12_program_190 (by decide) ?_
            refine lv_bipush (v := 48) X.1 X.2.1 dX12_program_191 (by decide) ?_
            refine lv_iload_n X.1 X.2.1 dX12_program_193 rfl (lv_at hl 1 rfl) ?_
            refine lv_iadd X.1 X.2.1 dX12_program_194 ?_
            refine lv_topi (fun v_98 ev_98 => ?_)
            have z_99 : v_98.toInt = 48 + i3_12_z := z_add ev_98 ti_48 hz_i3_12 (by omega) (by omega)
            refine lv_imul X.1 X.2.1 dX12_program_195 ?_
            refine lv_topi (fun v_100 ev_100 => ?_)
            have z_101 : v_100.toInt = 4 * (48 + i3_12_z) := z_mul ev_100 ti_4 z_99 (by omega) (by omega)
            refine lv_iload X.1 X.2.1 dX12_program_196 (lv_at hl 0 rfl) ?_
            refine lv_iadd X.1 X.2.1 dX12_program_198 ?_
            refine lv_topi (fun v_102 ev_102 => ?_)
            have z_103 : v_102.toInt = (4 * (48 + i3_12_z)) + i4_75_z := z_add ev_102 z_101 hz_i4_75 (by omega) (by omega)
            refine r_iald X hw h_88 rfl (by rw [h_89]; exact z_ix z_103 (by omega) (by omega)) dX12_program_199 ?_
            refine lv_topi (fun v_104 ev_104 => ?_)
            have rg_105 := And.intro (z_lo v_104) (z_hi v_104)
            have ev_104 := ev_104.symm
            refine r_iast X hw h_88 rfl (by rw [h_89]; exact z_ix z_97 (by omega) (by omega)) dX12_program_200 (fun H locs hw => ?_)
            obtain ⟨S_106, eS_106⟩ : ∃ T, T = sA T_76 q_86 (upd (pA T_76 q_86) (Int32.toNatClampNeg (v_96)) (v_104)) := ⟨_, rfl⟩
            rw [← eS_106] at hw
            have hO_107 : Ok MT S S_106 := hO_T_76.sA eS_106 h_88 (by decide +kernel) (uA_694 hO_T_76.1 h_88)
            have h_108 : pA S_106 q_86 (Int32.toNatClampNeg (v_96)) = v_104 := tA_sAs eS_106
            clear z_91
            clear z_93
            clear z_95
            clear z_97
            clear z_99
            clear z_101
            clear z_103
            refine lv_aload_n X.1 X.2.1 dX12_program_201 rfl (lv_at hl 2 rfl) ?_
            have t_109 : At S_106 x 12 := tAt_sA eS_106 ha_x_L_77
            obtain ⟨q_110, h_111, h_112, h_113⟩ := gQ_12_1225 hO_107.1 t_109
            refine r_getR (g := 1225) X hw t_109 rfl 25 h_111 (by decide) rfl inn_X12_program_12 (by decide) (X.2.2.2.1 (.fieldLink RX12 76 "SilkMillModel" "rel" "[I") (by decide +kernel)) rfl (gv_1225 _ _) dX12_program_202 ?_
            refine lv_iconst (v := 4) X.1 X.2.1 dX12_program_205 (by decide) ?_
            refine lv_bipush (v := 12) X.1 X.2.1 dX12_program_206 (by decide) ?_
            refine lv_iload_n X.1 X.2.1 dX12_program_208 rfl (lv_at hl 3 rfl) ?_
            refine lv_imul X.1 X.2.1 dX12_program_209 ?_
            refine lv_topi (fun v_114 ev_114 => ?_)
            have z_115 : v_114.toInt = 12 * a1_z := z_mul ev_114 ti_12 hz_a1 (by omega) (by omega)
            refine lv_iload_n X.1 X.2.1 dX12_program_210 rfl (lv_at hl 1 rfl) ?_
            refine lv_iadd X.1 X.2.1 dX12_program_211 ?_
            refine lv_topi (fun v_116 ev_116 => ?_)
            have z_117 : v_116.toInt = (12 * a1_z) + i3_12_z := z_add ev_116 z_115 hz_i3_12 (by omega) (by omega)
            refine lv_imul X.1 X.2.1 dX12_program_212 ?_
            refine lv_topi (fun v_118 ev_118 => ?_)
            have z_119 : v_118.toInt = 4 * ((12 * a1_z) + i3_12_z) := z_mul ev_118 ti_4 z_117 (by omega) (by omega)
            refine lv_iload X.1 X.2.1 dX12_program_213 (lv_at hl 0 rfl) ?_
            refine lv_iadd X.1 X.2.1 dX12_program_215 ?_
            refine lv_topi (fun v_120 ev_120 => ?_)
            have z_121 : v_120.toInt = (4 * ((12 * a1_z) + i3_12_z)) + i4_75_z := z_add ev_120 z_119 hz_i4_75 (by omega) (by omega)
            refine lv_aload_n X.1 X.2.1 dX12_program_216 rfl (lv_at hl 2 rfl) ?_
            refine r_getR (g := 1225) X hw t_109 rfl 25 h_111 (by decide) rfl inn_X12_program_12 (by decide) (X.2.2.2.1 (.fieldLink RX12 76 "SilkMillModel" "rel" "[I") (by decide +kernel)) rfl (gv_1225 _ _) dX12_program_217 ?_
            refine lv_iconst (v := 4) X.1 X.2.1 dX12_program_220 (by decide) ?_
            refine lv_bipush (v := 48) X.1 X.2.1 dX12_program_221 (by decide) ?_
            refine lv_iload_n X.1 X.2.1 dX12_program_223 rfl (lv_at hl 1 rfl) ?_
            refine lv_iadd X.1 X.2.1 dX12_program_224 ?_
            refine lv_topi (fun v_122 ev_122 => ?_)
            have z_123 : v_122.toInt = 48 + i3_12_z := z_add ev_122 ti_48 hz_i3_12 (by omega) (by omega)
            refine lv_imul X.1 X.2.1 dX12_program_225 ?_
            refine lv_topi (fun v_124 ev_124 => ?_)
            have z_125 : v_124.toInt = 4 * (48 + i3_12_z) := z_mul ev_124 ti_4 z_123 (by omega) (by omega)
            refine lv_iload X.1 X.2.1 dX12_program_226 (lv_at hl 0 rfl) ?_
            refine lv_iadd X.1 X.2.1 dX12_program_228 ?_
            refine lv_topi (fun v_126 ev_126 => ?_)
            have z_127 : v_126.toInt = (4 * (48 + i3_12_z)) + i4_75_z := z_add ev_126 z_125 hz_i4_75 (by omega) (by omega)
            refine r_iald X hw h_112 rfl (by rw [h_113]; exact z_ix z_127 (by omega) (by omega)) dX12_program_229 ?_
            refine lv_topi (fun v_128 ev_128 => ?_)
            have rg_129 := And.intro (z_lo v_128) (z_hi v_128)
            have ev_128 := ev_128.symm
            refine r_iast X hw h_112 rfl (by rw [h_113]; exact z_ix z_121 (by omega) (by omega)) dX12_program_230 (fun H locs hw => ?_)
            obtain ⟨S_130, eS_130⟩ : ∃ T, T = sA S_106 q_110 (upd (pA S_106 q_110) (Int32.toNatClampNeg (v_120)) (v_128)) := ⟨_, rfl⟩
            rw [← eS_130] at hw
            have hO_131 : Ok MT S S_130 := hO_107.sA eS_130 h_112 (by decide +kernel) (uA_714 hO_107.1 h_112)
            have h_132 : pA S_130 q_110 (Int32.toNatClampNeg (v_120)) = v_128 := tA_sAs eS_130
            clear z_115
            clear z_117
            clear z_119
            clear z_121
            clear z_123
            clear z_125
            clear z_127
            refine lv_aload_n X.1 X.2.1 dX12_program_231 rfl (lv_at hl 2 rfl) ?_
            have t_133 : At S_130 x 12 := tAt_sA eS_130 t_109
            obtain ⟨q_134, h_135, h_136, h_137⟩ := gQ_12_1226 hO_131.1 t_133
            refine r_getR (g := 1226) X hw t_133 rfl 26 h_135 (by decide) rfl inn_X12_program_12 (by decide) (X.2.2.2.1 (.fieldLink RX12 79 "SilkMillModel" "than" "[I") (by decide +kernel)) rfl (gv_1226 _ _) dX12_program_232 ?_
            refine lv_iconst (v := 4) X.1 X.2.1 dX12_program_235 (by decide) ?_
            refine lv_bipush (v := 12) X.1 X.2.1 dX12_program_236 (by decide) ?_
            refine lv_iload_n X.1 X.2.1 dX12_program_238 rfl (lv_at hl 3 rfl) ?_
            refine lv_imul X.1 X.2.1 dX12_program_239 ?_
            refine lv_topi (fun v_138 ev_138 => ?_)
            have z_139 : v_138.toInt = 12 * a1_z := z_mul ev_138 ti_12 hz_a1 (by omega) (by omega)
            refine lv_iload_n X.1 X.2.1 dX12_program_240 rfl (lv_at hl 1 rfl) ?_
            refine lv_iadd X.1 X.2.1 dX12_program_241 ?_
            refine lv_topi (fun v_140 ev_140 => ?_)
            have z_141 : v_140.toInt = (12 * a1_z) + i3_12_z := z_add ev_140 z_139 hz_i3_12 (by omega) (by omega)
            refine lv_imul X.1 X.2.1 dX12_program_242 ?_
            refine lv_topi (fun v_142 ev_142 => ?_)
            have z_143 : v_142.toInt = 4 * ((12 * a1_z) + i3_12_z) := z_mul ev_142 ti_4 z_141 (by omega) (by omega)
            refine lv_iload X.1 X.2.1 dX12_program_243 (lv_at hl 0 rfl) ?_
            refine lv_iadd X.1 X.2.1 dX12_program_245 ?_
            refine lv_topi (fun v_144 ev_144 => ?_)
            have z_145 : v_144.toInt = (4 * ((12 * a1_z) + i3_12_z)) + i4_75_z := z_add ev_144 z_143 hz_i4_75 (by omega) (by omega)
            refine lv_aload_n X.1 X.2.1 dX12_program_246 rfl (lv_at hl 2 rfl) ?_
            refine r_getR (g := 1226) X hw t_133 rfl 26 h_135 (by decide) rfl inn_X12_program_12 (by decide) (X.2.2.2.1 (.fieldLink RX12 79 "SilkMillModel" "than" "[I") (by decide +kernel)) rfl (gv_1226 _ _) dX12_program_247 ?_
            refine lv_iconst (v := 4) X.1 X.2.1 dX12_program_250 (by decide) ?_
            refine lv_bipush (v := 48) X.1 X.2.1 dX12_program_251 (by decide) ?_
            refine lv_iload_n X.1 X.2.1 dX12_program_253 rfl (lv_at hl 1 rfl) ?_
            refine lv_iadd X.1 X.2.1 dX12_program_254 ?_
            refine lv_topi (fun v_146 ev_146 => ?_)
            have z_147 : v_146.toInt = 48 + i3_12_z := z_add ev_146 ti_48 hz_i3_12 (by omega) (by omega)
            refine lv_imul X.1 X.2.1 dX12_program_255 ?_
            refine lv_topi (fun v_148 ev_148 => ?_)
            have z_149 : v_148.toInt = 4 * (48 + i3_12_z) := z_mul ev_148 ti_4 z_147 (by omega) (by omega)
            refine lv_iload X.1 X.2.1 dX12_program_256 (lv_at hl 0 rfl) ?_
            refine lv_iadd X.1 X.2.1 dX12_program_258 ?_
            refine lv_topi (fun v_150 ev_150 => ?_)
            have z_151 : v_150.toInt = (4 * (48 + i3_12_z)) + i4_75_z := z_add ev_150 z_149 hz_i4_75 (by omega) (by omega)
            refine r_iald X hw h_136 rfl (by rw [h_137]; exact z_ix z_151 (by omega) (by omega)) dX12_program_259 ?_
            refine lv_topi (fun v_152 ev_152 => ?_)
            have rg_153 := And.intro (z_lo v_152) (z_hi v_152)
            have ev_152 := ev_152.symm
            refine r_iast X hw h_136 rfl (by rw [h_137]; exact z_ix z_145 (by omega) (by omega)) dX12_program_260 (fun H locs hw => ?_)
            obtain ⟨S_154, eS_154⟩ : ∃ T, T = sA S_130 q_134 (upd (pA S_130 q_134) (Int32.toNatClampNeg (v_144)) (v_152)) := ⟨_, rfl⟩
            rw [← eS_154] at hw
            have hO_155 : Ok MT S S_154 := hO_131.sA eS_154 h_136 (by decide +kernel) (uA_734 hO_131.1 h_136)
            have h_156 : pA S_154 q_134 (Int32.toNatClampNeg (v_144)) = v_152 := tA_sAs eS_154
            clear z_139
            clear z_141
            clear z_143
            clear z_145
            clear z_147
            clear z_149
            clear z_151
            obtain ⟨x_157, ex_157⟩ : ∃ y : Int32, y = i4_75 + 1 := ⟨_, rfl⟩
            have z_158 : x_157.toInt = i4_75_z + 1 := z_add ex_157 hz_i4_75 ti_1 (by omega) (by omega)
            refine lv_iinc (v := x_157) (lv' := [(4, .int (x_157)), (3, .int (i3_12)), (0, .ref x), (1, .int (a1))]) X.1 X.2.1 dX12_program_261 hl (k := 0) rfl (by rw [ex_157]; rfl) (by decide) rfl (fun ls hl => ?_)
            refine lv_goto (tgt := 165) X.1 X.2.1 dX12_program_264 (by decide) ?_
            have t_159 : At S_154 x 12 := tAt_sA eS_154 t_133
            exact ih_L_74 _ (by omega) _ _ _ _ (x_157) (x_157.toInt) rfl hw rfl (by omega) t_159 hO_155 (lv_sub hl [0, 1, 2, 3] rfl)
        have t_160 : At S_71 x 12 := tAt_sA eS_71 t_58
        exact L_74 _ _ _ _ _ (0) (0) rfl hw ti_0 (by omega) t_160 hO_72 (lv_sub hl [0, 1, 2, 3] rfl)
    refine lv_aload_n X.1 X.2.1 dX12_program_15 rfl (lv_at hl 0 rfl) ?_
    refine lv_iconst (v := 0) X.1 X.2.1 dX12_program_16 (by decide) ?_
    refine r_putI (v := 0) X hw t_4 rfl 30 1230 tyX12 (by decide) rfl inn_X12_program_12 tyX12_ok nmX12 (by decide) (X.2.2.2.1 (.fieldLink RX12 229 "SilkMillModel" "faultKind" "I") (by decide +kernel)) rfl (Or.inl rfl) rfl rfl (Nat.le_of_ble_eq_true rfl) (st_1230 _ _) dX12_program_17 (fun H locs hw => ?_)
    obtain ⟨S_161, eS_161⟩ : ∃ T, T = sI S_1 1230 x (0) := ⟨_, rfl⟩
    rw [← eS_161] at hw
    have hO_162 : Ok MT S S_161 := hO_2.sI eS_161 (by decide +kernel) (uI_12_1230 hO_2.1 t_4)
    have h_163 : pI S_161 1230 x = 0 := tI_sIs eS_161
    refine lv_aload_n X.1 X.2.1 dX12_program_20 rfl (lv_at hl 0 rfl) ?_
    refine lv_iconst (v := (-1)) X.1 X.2.1 dX12_program_21 (by decide) ?_
    have t_164 : At S_161 x 12 := tAt_sI eS_161 t_4
    refine r_putI (v := (-1)) X hw t_164 rfl 29 1229 tyX12 (by decide) rfl inn_X12_program_12 tyX12_ok nmX12 (by decide) (X.2.2.2.1 (.fieldLink RX12 86 "SilkMillModel" "faultPlace" "I") (by decide +kernel)) rfl (Or.inl rfl) rfl rfl (Nat.le_of_ble_eq_true rfl) (st_1229 _ _) dX12_program_22 (fun H locs hw => ?_)
    obtain ⟨S_165, eS_165⟩ : ∃ T, T = sI S_161 1229 x ((-1)) := ⟨_, rfl⟩
    rw [← eS_165] at hw
    have hO_166 : Ok MT S S_165 := hO_162.sI eS_165 (by decide +kernel) (uI_12_1229 hO_162.1 t_164)
    have h_167 : pI S_165 1229 x = (-1) := tI_sIs eS_165
    refine lv_aload_n X.1 X.2.1 dX12_program_25 rfl (lv_at hl 0 rfl) ?_
    have t_168 : At S_165 x 12 := tAt_sI eS_165 t_164
    obtain ⟨q_169, h_170, h_171, h_172⟩ := gQ_12_1220 hO_166.1 t_168
    refine r_getR (g := 1220) X hw t_168 rfl 20 h_170 (by decide) rfl inn_X12_program_12 (by decide) (X.2.2.2.1 (.fieldLink RX12 61 "SilkMillModel" "rules" "[I") (by decide +kernel)) rfl (gv_1220 _ _) dX12_program_26 ?_
    refine lv_iconst (v := 4) X.1 X.2.1 dX12_program_29 (by decide) ?_
    refine lv_iconst (v := 0) X.1 X.2.1 dX12_program_30 (by decide) ?_
    refine r_iast X hw h_171 rfl (by rw [h_172]; exact z_ix ti_4 (by omega) (by omega)) dX12_program_31 (fun H locs hw => ?_)
    obtain ⟨S_173, eS_173⟩ : ∃ T, T = sA S_165 q_169 (upd (pA S_165 q_169) (Int32.toNatClampNeg (4)) (0)) := ⟨_, rfl⟩
    rw [← eS_173] at hw
    have hO_174 : Ok MT S S_173 := hO_166.sA eS_173 h_171 (by decide +kernel) (uA_614 hO_166.1 h_171 (by rw [ti_0]; omega) (by rw [ti_0]; omega))
    have h_175 : pA S_173 q_169 (Int32.toNatClampNeg (4)) = 0 := tA_sAs eS_173
    have t_176 : pR S_173 1220 x = some q_169 := tR_sA eS_173 h_170
    have t_178 : pR S_165 1220 x = some q_169 := by have h := t_176; rw [eS_173, pR_sA] at h; exact h
    have zs_177 : ∀ j, zA S_173 x 1220 j = if j = (4 : Int).toNat then 0 else zA S_165 x 1220 j := by have h := zA_sAs eS_173 t_178 ti_0; rw [z_nc ti_4 (by omega)] at h; exact h
    have zs_179 : zA S_173 x 1220 4 = 0 := by have h := zs_177 4; rw [if_pos (by decide)] at h; exact h
    refine lv_aload_n X.1 X.2.1 dX12_program_32 rfl (lv_at hl 0 rfl) ?_
    refine lv_iconst (v := 0) X.1 X.2.1 dX12_program_33 (by decide) ?_
    have t_180 : At S_173 x 12 := tAt_sA eS_173 t_168
    refine r_putI (v := 0) X hw t_180 rfl 33 1233 tyX12 (by decide) rfl inn_X12_program_12 tyX12_ok nmX12 (by decide) (X.2.2.2.1 (.fieldLink RX12 214 "SilkMillModel" "to" "I") (by decide +kernel)) rfl (Or.inl rfl) rfl rfl (Nat.le_of_ble_eq_true rfl) (st_1233 _ _) dX12_program_34 (fun H locs hw => ?_)
    obtain ⟨S_181, eS_181⟩ : ∃ T, T = sI S_173 1233 x (0) := ⟨_, rfl⟩
    rw [← eS_181] at hw
    have hO_182 : Ok MT S S_181 := hO_174.sI eS_181 (by decide +kernel) (uI_12_1233 hO_174.1 t_180 (by rw [ti_0]; omega) (by rw [ti_0]; omega))
    have h_183 : pI S_181 1233 x = 0 := tI_sIs eS_181
    refine lv_aload_n X.1 X.2.1 dX12_program_37 rfl (lv_at hl 0 rfl) ?_
    have t_184 : At S_181 x 12 := tAt_sI eS_181 t_180
    refine k_v (rm := { frames := 2, cells := 0, slots := 0, locals := 96 }) (av := [.ref x]) X hw (va_runV (As := []) (rest := []) (cfix X) (k_X12_token l G cy κ S_181 _ x hO_182.1 t_184) (cwV 0 X.2.2.2.1 gX12_program_X12_token rfl rfl rfl (by decide +kernel) ⟨Nat.le_of_ble_eq_true rfl, Nat.le_of_ble_eq_true rfl⟩) (pre_V X hw _ t_184 rfl (by decide) rfl) rfl rfl hl.1 rfl (lv_room (Nat.le_of_ble_eq_true rfl)) dX12_program_38 ⟨Nat.le_of_ble_eq_true rfl, Nat.le_of_ble_eq_true rfl⟩) 0 0 (Nat.le_of_ble_eq_true rfl) (Nat.le_of_ble_eq_true rfl) (fun S_186 H locs hp hw hfr hnw => ?_)
    obtain ⟨hk_187, hp⟩ := hp
    have hO_188 : Ok MT S S_186 := hO_182.call hk_187 (by decide +kernel)
    have zc_189 : zA S_1 x 1220 = zA S x 1220 := zA_sI eS_1
    have zc_190 : zA S_161 x 1220 = zA S x 1220 := (zA_sI eS_161).trans zc_189
    have zc_191 : zA S_165 x 1220 = zA S x 1220 := (zA_sI eS_165).trans zc_190
    have zc_192 : zA S_181 x 1220 = zA S_173 x 1220 := zA_sI eS_181
    have zc_193 : zA S_186 x 1220 = zA S_173 x 1220 := (zA_fr hk_187.fr t_184 (ex3 (gQ_12_1220 hO_182.1 t_184)) (by decide +kernel) (by decide +kernel)).trans zc_192
    have zz_194 := congrFun zc_193 (4)
    refine lv_iconst (v := 1) X.1 X.2.1 dX12_program_41 (by decide) ?_
    refine lv_istore_n (lv' := [(2, .int 1), (0, .ref x), (1, .int (a1))]) X.1 X.2.1 dX12_program_42 rfl hl (by decide) rfl (fun ls hl => ?_)
    have L_195 : ∀ (n : Nat) (T_197 : PS) (H : Heap) (locs : List Loc) (ls : Array Slot) (i2_196 : Int32) (i2_196_z : Int), ((2 * (13 - zA T_197 x 1220 4) + i2_196_z).toNat = n) → (Wd G cy (AS S s.heap.size) s.heap T_197 H locs) → (i2_196.toInt = i2_196_z) → (0 ≤ i2_196_z ∧ i2_196_z ≤ 1) → (At T_197 x 12) → (Ok MT S T_197) → (zA T_197 x 1220 4 ≤ 12) → (lv_has ls 5 [(2, .int (i2_196)), (0, .ref x), (1, .int (a1))]) → W p l e ({ frames := 8, cells := 0, slots := 0, locals := 384 }) s m [.ref x, .int (a1)].toArray below meth c H locs 0 0 QQ (F0 m 43 ls []) := by
      intro n
      induction n using Nat.strongRecOn with
      | ind n ih_L_195 =>
      intro T_197 H locs ls i2_196 i2_196_z hn hw hz_i2_196 hr_i2_196 ha_x_L_198 hO_T_197 iv_199 hl
      have rg_200 : (-2147483648) ≤ i2_196_z ∧ i2_196_z ≤ 2147483647 := by rw [← hz_i2_196]; exact ⟨z_lo _, z_hi _⟩
      refine lv_iload_n X.1 X.2.1 dX12_program_43 rfl (lv_at hl 0 rfl) ?_
      refine lv_if_eq (tgt := 62) X.1 X.2.1 dX12_program_44 (by decide) (fun c_201 => ?_) (fun c_201 => ?_)
      · have z_b_202 := trivial
        have k_203 : i2_196_z = 0 := z_eq hz_i2_196 ti_0 c_201
        refine lv_aload_n X.1 X.2.1 dX12_program_62 rfl (lv_at hl 1 rfl) ?_
        refine lv_iconst (v := 0) X.1 X.2.1 dX12_program_63 (by decide) ?_
        refine r_putI (v := 0) X hw ha_x_L_198 rfl 28 1228 tyX12 (by decide) rfl inn_X12_program_12 tyX12_ok nmX12 (by decide) (X.2.2.2.1 (.fieldLink RX12 211 "SilkMillModel" "taped" "I") (by decide +kernel)) rfl (Or.inl rfl) rfl rfl (Nat.le_of_ble_eq_true rfl) (st_1228 _ _) dX12_program_64 (fun H locs hw => ?_)
        obtain ⟨S_204, eS_204⟩ : ∃ T, T = sI T_197 1228 x (0) := ⟨_, rfl⟩
        rw [← eS_204] at hw
        have hO_205 : Ok MT S S_204 := hO_T_197.sI eS_204 (by decide +kernel) (uI_12_1228 hO_T_197.1 ha_x_L_198 (by rw [ti_0]; omega) (by rw [ti_0]; omega))
        have h_206 : pI S_204 1228 x = 0 := tI_sIs eS_204
        refine lv_aload_n X.1 X.2.1 dX12_program_67 rfl (lv_at hl 1 rfl) ?_
        have t_207 : At S_204 x 12 := tAt_sI eS_204 ha_x_L_198
        obtain ⟨v_208, ev_208⟩ : ∃ v, pI S_204 1230 x = v := ⟨_, rfl⟩
        have rg_210 := And.intro (z_lo v_208) (z_hi v_208)
        have pz_211 : (pI S_204 1230 x).toInt = v_208.toInt := by rw [ev_208]
        refine r_getI (g := 1230) (x := v_208) X hw t_207 rfl 30 ev_208 (by decide) rfl inn_X12_program_12 (by decide) (X.2.2.2.1 (.fieldLink RX12 229 "SilkMillModel" "faultKind" "I") (by decide +kernel)) rfl (gv_1230 _ _) dX12_program_68 ?_
        refine lv_if_le (tgt := 82) X.1 X.2.1 dX12_program_71 (by decide) (fun c_212 => ?_) (fun c_212 => ?_)
        · have z_b_213 := trivial
          have k_214 : v_208.toInt ≤ 0 := z_le rfl ti_0 c_212
          refine lv_aload_n X.1 X.2.1 dX12_program_82 rfl (lv_at hl 1 rfl) ?_
          obtain ⟨q_215, h_216, h_217, h_218⟩ := gQ_12_1220 hO_205.1 t_207
          refine r_getR (g := 1220) X hw t_207 rfl 20 h_216 (by decide) rfl inn_X12_program_12 (by decide) (X.2.2.2.1 (.fieldLink RX12 61 "SilkMillModel" "rules" "[I") (by decide +kernel)) rfl (gv_1220 _ _) dX12_program_83 ?_
          refine lv_iload_n X.1 X.2.1 dX12_program_86 rfl (lv_at hl 2 rfl) ?_
          refine lv_aload_n X.1 X.2.1 dX12_program_87 rfl (lv_at hl 1 rfl) ?_
          refine r_getR (g := 1220) X hw t_207 rfl 20 h_216 (by decide) rfl inn_X12_program_12 (by decide) (X.2.2.2.1 (.fieldLink RX12 61 "SilkMillModel" "rules" "[I") (by decide +kernel)) rfl (gv_1220 _ _) dX12_program_88 ?_
          refine lv_iconst (v := 4) X.1 X.2.1 dX12_program_91 (by decide) ?_
          refine r_iald X hw h_217 rfl (by rw [h_218]; exact z_ix ti_4 (by omega) (by omega)) dX12_program_92 ?_
          refine lv_topi (fun v_219 ev_219 => ?_)
          have z_220 := gE_614 hO_205.1 h_217 (Int32.toNatClampNeg (4)); rw [← ev_219] at z_220
          have ev_219 := ev_219.symm
          refine r_iast X hw h_217 rfl (by rw [h_218]; exact z_ix hz_a1 (by omega) (by omega)) dX12_program_93 (fun H locs hw => ?_)
          obtain ⟨S_221, eS_221⟩ : ∃ T, T = sA S_204 q_215 (upd (pA S_204 q_215) (Int32.toNatClampNeg (a1)) (v_219)) := ⟨_, rfl⟩
          rw [← eS_221] at hw
          have hO_222 : Ok MT S S_221 := hO_205.sA eS_221 h_217 (by decide +kernel) (uA_614 hO_205.1 h_217 (by omega) (by omega))
          have h_223 : pA S_221 q_215 (Int32.toNatClampNeg (a1)) = v_219 := tA_sAs eS_221
          refine lv_iconst (v := 0) X.1 X.2.1 dX12_program_94 (by decide) ?_
          refine lv_istore_n (lv' := [(3, .int 0), (2, .int (i2_196)), (0, .ref x), (1, .int (a1))]) X.1 X.2.1 dX12_program_95 rfl hl (by decide) rfl (fun ls hl => ?_)
          have t_224 : At S_221 x 12 := tAt_sA eS_221 t_207
          exact L_11 _ _ _ _ _ (0) (0) rfl hw ti_0 (by omega) t_224 hO_222 (lv_sub hl [0, 2, 3] rfl)
        · have z_b_225 := trivial
          have k_226 : v_208.toInt > 0 := z_nle rfl ti_0 c_212
          refine lv_aload_n X.1 X.2.1 dX12_program_74 rfl (lv_at hl 1 rfl) ?_
          refine r_getI (g := 1230) (x := v_208) X hw t_207 rfl 30 ev_208 (by decide) rfl inn_X12_program_12 (by decide) (X.2.2.2.1 (.fieldLink RX12 229 "SilkMillModel" "faultKind" "I") (by decide +kernel)) rfl (gv_1230 _ _) dX12_program_75 ?_
          refine lv_bipush (v := 10) X.1 X.2.1 dX12_program_78 (by decide) ?_
          refine lv_isub X.1 X.2.1 dX12_program_80 ?_
          refine lv_topi (fun v_227 ev_227 => ?_)
          have z_228 : v_227.toInt = v_208.toInt - 10 := z_sub ev_227 rfl ti_10 (by omega) (by omega)
          rw [hQQ]
          exact ret_i X hw hr hlocks (Nat.le_of_ble_eq_true rfl) (Nat.le_of_ble_eq_true rfl) ⟨hO_205, trivial⟩ dX12_program_81
      · have z_b_229 := trivial
        have k_230 : i2_196_z ≠ 0 := z_ne hz_i2_196 ti_0 c_201
        refine lv_aload_n X.1 X.2.1 dX12_program_47 rfl (lv_at hl 1 rfl) ?_
        obtain ⟨v_231, ev_231⟩ : ∃ v, pI T_197 1231 x = v := ⟨_, rfl⟩
        have rg_233 := And.intro (z_lo v_231) (z_hi v_231)
        have pz_234 : (pI T_197 1231 x).toInt = v_231.toInt := by rw [ev_231]
        refine r_getI (g := 1231) (x := v_231) X hw ha_x_L_198 rfl 31 ev_231 (by decide) rfl inn_X12_program_12 (by decide) (X.2.2.2.1 (.fieldLink RX12 223 "SilkMillModel" "kind" "I") (by decide +kernel)) rfl (gv_1231 _ _) dX12_program_48 ?_
        refine lv_if_eq (tgt := 62) X.1 X.2.1 dX12_program_51 (by decide) (fun c_235 => ?_) (fun c_235 => ?_)
        · have z_b_236 := trivial
          have k_237 : v_231.toInt = 0 := z_eq rfl ti_0 c_235
          refine lv_aload_n X.1 X.2.1 dX12_program_62 rfl (lv_at hl 1 rfl) ?_
          refine lv_iconst (v := 0) X.1 X.2.1 dX12_program_63 (by decide) ?_
          refine r_putI (v := 0) X hw ha_x_L_198 rfl 28 1228 tyX12 (by decide) rfl inn_X12_program_12 tyX12_ok nmX12 (by decide) (X.2.2.2.1 (.fieldLink RX12 211 "SilkMillModel" "taped" "I") (by decide +kernel)) rfl (Or.inl rfl) rfl rfl (Nat.le_of_ble_eq_true rfl) (st_1228 _ _) dX12_program_64 (fun H locs hw => ?_)
          obtain ⟨S_238, eS_238⟩ : ∃ T, T = sI T_197 1228 x (0) := ⟨_, rfl⟩
          rw [← eS_238] at hw
          have hO_239 : Ok MT S S_238 := hO_T_197.sI eS_238 (by decide +kernel) (uI_12_1228 hO_T_197.1 ha_x_L_198 (by rw [ti_0]; omega) (by rw [ti_0]; omega))
          have h_240 : pI S_238 1228 x = 0 := tI_sIs eS_238
          refine lv_aload_n X.1 X.2.1 dX12_program_67 rfl (lv_at hl 1 rfl) ?_
          have t_241 : At S_238 x 12 := tAt_sI eS_238 ha_x_L_198
          obtain ⟨v_242, ev_242⟩ : ∃ v, pI S_238 1230 x = v := ⟨_, rfl⟩
          have rg_244 := And.intro (z_lo v_242) (z_hi v_242)
          have pz_245 : (pI S_238 1230 x).toInt = v_242.toInt := by rw [ev_242]
          refine r_getI (g := 1230) (x := v_242) X hw t_241 rfl 30 ev_242 (by decide) rfl inn_X12_program_12 (by decide) (X.2.2.2.1 (.fieldLink RX12 229 "SilkMillModel" "faultKind" "I") (by decide +kernel)) rfl (gv_1230 _ _) dX12_program_68 ?_
          refine lv_if_le (tgt := 82) X.1 X.2.1 dX12_program_71 (by decide) (fun c_246 => ?_) (fun c_246 => ?_)
          · have z_b_247 := trivial
            have k_248 : v_242.toInt ≤ 0 := z_le rfl ti_0 c_246
            refine lv_aload_n X.1 X.2.1 dX12_program_82 rfl (lv_at hl 1 rfl) ?_
            obtain ⟨q_249, h_250, h_251, h_252⟩ := gQ_12_1220 hO_239.1 t_241
            refine r_getR (g := 1220) X hw t_241 rfl 20 h_250 (by decide) rfl inn_X12_program_12 (by decide) (X.2.2.2.1 (.fieldLink RX12 61 "SilkMillModel" "rules" "[I") (by decide +kernel)) rfl (gv_1220 _ _) dX12_program_83 ?_
            refine lv_iload_n X.1 X.2.1 dX12_program_86 rfl (lv_at hl 2 rfl) ?_
            refine lv_aload_n X.1 X.2.1 dX12_program_87 rfl (lv_at hl 1 rfl) ?_
            refine r_getR (g := 1220) X hw t_241 rfl 20 h_250 (by decide) rfl inn_X12_program_12 (by decide) (X.2.2.2.1 (.fieldLink RX12 61 "SilkMillModel" "rules" "[I") (by decide +kernel)) rfl (gv_1220 _ _) dX12_program_88 ?_
            refine lv_iconst (v := 4) X.1 X.2.1 dX12_program_91 (by decide) ?_
            refine r_iald X hw h_251 rfl (by rw [h_252]; exact z_ix ti_4 (by omega) (by omega)) dX12_program_92 ?_
            refine lv_topi (fun v_253 ev_253 => ?_)
            have z_254 := gE_614 hO_239.1 h_251 (Int32.toNatClampNeg (4)); rw [← ev_253] at z_254
            have ev_253 := ev_253.symm
            refine r_iast X hw h_251 rfl (by rw [h_252]; exact z_ix hz_a1 (by omega) (by omega)) dX12_program_93 (fun H locs hw => ?_)
            obtain ⟨S_255, eS_255⟩ : ∃ T, T = sA S_238 q_249 (upd (pA S_238 q_249) (Int32.toNatClampNeg (a1)) (v_253)) := ⟨_, rfl⟩
            rw [← eS_255] at hw
            have hO_256 : Ok MT S S_255 := hO_239.sA eS_255 h_251 (by decide +kernel) (uA_614 hO_239.1 h_251 (by omega) (by omega))
            have h_257 : pA S_255 q_249 (Int32.toNatClampNeg (a1)) = v_253 := tA_sAs eS_255
            refine lv_iconst (v := 0) X.1 X.2.1 dX12_program_94 (by decide) ?_
            refine lv_istore_n (lv' := [(3, .int 0), (2, .int (i2_196)), (0, .ref x), (1, .int (a1))]) X.1 X.2.1 dX12_program_95 rfl hl (by decide) rfl (fun ls hl => ?_)
            have t_258 : At S_255 x 12 := tAt_sA eS_255 t_241
            exact L_11 _ _ _ _ _ (0) (0) rfl hw ti_0 (by omega) t_258 hO_256 (lv_sub hl [0, 2, 3] rfl)
          · have z_b_259 := trivial
            have k_260 : v_242.toInt > 0 := z_nle rfl ti_0 c_246
            refine lv_aload_n X.1 X.2.1 dX12_program_74 rfl (lv_at hl 1 rfl) ?_
            refine r_getI (g := 1230) (x := v_242) X hw t_241 rfl 30 ev_242 (by decide) rfl inn_X12_program_12 (by decide) (X.2.2.2.1 (.fieldLink RX12 229 "SilkMillModel" "faultKind" "I") (by decide +kernel)) rfl (gv_1230 _ _) dX12_program_75 ?_
            refine lv_bipush (v := 10) X.1 X.2.1 dX12_program_78 (by decide) ?_
            refine lv_isub X.1 X.2.1 dX12_program_80 ?_
            refine lv_topi (fun v_261 ev_261 => ?_)
            have z_262 : v_261.toInt = v_242.toInt - 10 := z_sub ev_261 rfl ti_10 (by omega) (by omega)
            rw [hQQ]
            exact ret_i X hw hr hlocks (Nat.le_of_ble_eq_true rfl) (Nat.le_of_ble_eq_true rfl) ⟨hO_239, trivial⟩ dX12_program_81
        · have z_b_263 := trivial
          have k_264 : v_231.toInt ≠ 0 := z_ne rfl ti_0 c_235
          refine lv_aload_n X.1 X.2.1 dX12_program_54 rfl (lv_at hl 1 rfl) ?_
          refine k_i (rm := { frames := 7, cells := 0, slots := 0, locals := 336 }) (av := [.ref x]) X hw (va_runV (As := []) (rest := []) (cfix X) (k_X12_rule l G cy κ T_197 _ x hO_T_197.1 ha_x_L_198) (cwV 0 X.2.2.2.1 gX12_program_X12_rule rfl rfl rfl (by decide +kernel) ⟨Nat.le_of_ble_eq_true rfl, Nat.le_of_ble_eq_true rfl⟩) (pre_V X hw _ ha_x_L_198 rfl (by decide) rfl) rfl rfl hl.1 rfl (lv_room (Nat.le_of_ble_eq_true rfl)) dX12_program_55 ⟨Nat.le_of_ble_eq_true rfl, Nat.le_of_ble_eq_true rfl⟩) 0 0 (Nat.le_of_ble_eq_true rfl) (Nat.le_of_ble_eq_true rfl) (fun rr_265 S_266 H locs hp hw hfr hnw => ?_)
          obtain ⟨hk_267, hp⟩ := hp
          have hO_268 : Ok MT S S_266 := hO_T_197.call hk_267 (by decide +kernel)
          rcases hp with ⟨f_269, er_270⟩ | ⟨f_269, er_270⟩ <;> subst er_270
          · have z_b_271 := trivial
            refine lv_istore_n (lv' := [(2, .int 1), (0, .ref x), (1, .int (a1))]) X.1 X.2.1 dX12_program_58 rfl hl (by decide) rfl (fun ls hl => ?_)
            refine lv_goto (tgt := 43) X.1 X.2.1 dX12_program_59 (by decide) ?_
            have t_272 : At S_266 x 12 := hk_267.fr.at ha_x_L_198
            exact ih_L_195 _ (by omega) _ _ _ _ (1) (1) rfl hw ti_1 (by omega) t_272 hO_268 (by omega) (lv_sub hl [0, 1, 2] rfl)
          · have z_b_273 := trivial
            refine lv_istore_n (lv' := [(2, .int 0), (0, .ref x), (1, .int (a1))]) X.1 X.2.1 dX12_program_58 rfl hl (by decide) rfl (fun ls hl => ?_)
            refine lv_goto (tgt := 43) X.1 X.2.1 dX12_program_59 (by decide) ?_
            have t_274 : At S_266 x 12 := hk_267.fr.at ha_x_L_198
            exact ih_L_195 _ (by omega) _ _ _ _ (0) (0) rfl hw ti_0 (by omega) t_274 hO_268 (by omega) (lv_sub hl [0, 1, 2] rfl)
    have t_275 : At S_186 x 12 := hk_187.fr.at t_184
    exact L_195 _ _ _ _ _ (1) (1) rfl hw ti_1 (by omega) t_275 hO_188 (by omega) (lv_sub hl [0, 1, 2] rfl)
  · have z_b_276 := trivial
    refine lv_if_ne (tgt := 15) X.1 X.2.1 dX12_program_10 (by decide) (fun c_277 => absurd c_277 (by decide)) (fun c_277 => ?_)
    refine lv_iconst (v := (-1)) X.1 X.2.1 dX12_program_13 (by decide) ?_
    rw [hQQ]
    exact ret_i X hw hr hlocks (Nat.le_of_ble_eq_true rfl) (Nat.le_of_ble_eq_true rfl) ⟨hO_2, trivial⟩ dX12_program_14
