set_option maxRecDepth 20000 in
theorem ggX12_program_X12_isPot : GoodIn wsX12_program wsX12_isPot := goodIn_r _ [18, 19, 20, 21, 17, 22, 111, 112, 113, 114, 115, 116, 117, 118, 119, 120, 121, 122, 123, 124, 125, 126, 127, 128, 129, 130, 131, 132, 133, 134, 135, 136, 137, 138, 139, 140, 141, 142, 143, 144, 145, 146, 147, 148, 149, 150, 151, 152, 153, 154, 155, 156, 157, 158, 159, 160, 161, 162, 163, 164, 165, 166, 167, 168, 169, 170, 171, 172, 173, 174, 175, 176] (by decide +kernel) (by decide +kernel)
set_option maxRecDepth 20000 in
theorem gX12_program_X12_isPot : GoodIn wsX12_program (wsV RX12 200 RX12 yX12_isPot wsX12_isPot) := goodIn_app (goodIn_of _ (by decide +kernel)) ggX12_program_X12_isPot
set_option maxRecDepth 20000 in
theorem ggX12_program_X12_token : GoodIn wsX12_program wsX12_token := goodIn_r _ [26, 5, 27, 7, 6, 28, 29, 30, 31, 17, 32, 33, 20, 21, 22, 111, 112, 113, 114, 115, 116, 117, 118, 119, 120, 121, 122, 123, 124, 125, 126, 127, 128, 129, 130, 131, 132, 133, 134, 135, 136, 137, 138, 139, 140, 141, 142, 143, 144, 145, 146, 147, 148, 149, 150, 151, 152, 153, 154, 155, 156, 157, 158, 159, 160, 161, 162, 163, 164, 165, 166, 167, 168, 169, 170, 171, 172, 173, 174, 175, 176] (by decide +kernel) (by decide +kernel)
set_option maxRecDepth 20000 in
theorem gX12_program_X12_token : GoodIn wsX12_program (wsV RX12 249 RX12 yX12_token wsX12_token) := goodIn_app (goodIn_of _ (by decide +kernel)) ggX12_program_X12_token
set_option maxRecDepth 20000 in
theorem ggX12_program_X12_rule : GoodIn wsX12_program wsX12_rule := goodIn_r _ [37, 4, 10, 8, 9, 38, 39, 40, 17, 41, 2, 5, 27, 42, 43, 44, 45, 46, 47, 48, 49, 50, 51, 52, 53, 29, 30, 31, 32, 7, 33, 54, 55, 56, 57, 58, 59, 60, 61, 62, 63, 64, 65, 66, 67, 68, 69, 70, 71, 72, 73, 74, 75, 76, 77, 78, 79, 80, 81, 82, 83, 84, 85, 86, 87, 88, 89, 90, 91, 92, 93, 94, 6, 95, 96, 97, 98, 3, 23, 24, 25, 26, 28, 20, 21, 22, 99, 100, 101, 102, 11, 12, 13, 103, 104, 105, 106, 107, 108, 109, 110, 111, 112, 113, 114, 115, 116, 117, 118, 119, 120, 121, 122, 123, 124, 125, 126, 127, 128, 129, 130, 131, 132, 133, 134, 135, 136, 137, 138, 139, 140, 141, 142, 143, 144, 145, 146, 147, 148, 149, 150, 151, 152, 153, 154, 155, 156, 157, 158, 159, 160, 161, 162, 163, 164, 165, 166, 167, 168, 169, 170, 171, 172, 173, 174, 175, 176] (by decide +kernel) (by decide +kernel)
set_option maxRecDepth 20000 in
theorem gX12_program_X12_rule : GoodIn wsX12_program (wsV RX12 283 RX12 yX12_rule wsX12_rule) := goodIn_app (goodIn_of _ (by decide +kernel)) ggX12_program_X12_rule
theorem dX12_program_0 : decode cX12_program 0 = .ok (.aload_n 0, 1) := by decide +kernel
theorem dX12_program_1 : decode cX12_program 1 = .ok (.iconst 0, 1) := by decide +kernel
theorem dX12_program_2 : decode cX12_program 2 = .ok (.putfield 161, 3) := by decide +kernel
theorem dX12_program_5 : decode cX12_program 5 = .ok (.aload_n 0, 1) := by decide +kernel
theorem dX12_program_6 : decode cX12_program 6 = .ok (.iload_n 1, 1) := by decide +kernel
theorem dX12_program_7 : decode cX12_program 7 = .ok (.invokevirtual 200, 3) := by decide +kernel
theorem dX12_program_10 : decode cX12_program 10 = .ok (.ifCond .ne 5, 3) := by decide +kernel
theorem dX12_program_13 : decode cX12_program 13 = .ok (.iconst (-1), 1) := by decide +kernel
theorem dX12_program_14 : decode cX12_program 14 = .ok (.ireturn, 1) := by decide +kernel
theorem dX12_program_15 : decode cX12_program 15 = .ok (.aload_n 0, 1) := by decide +kernel
theorem dX12_program_16 : decode cX12_program 16 = .ok (.iconst 0, 1) := by decide +kernel
theorem dX12_program_17 : decode cX12_program 17 = .ok (.putfield 229, 3) := by decide +kernel
theorem dX12_program_20 : decode cX12_program 20 = .ok (.aload_n 0, 1) := by decide +kernel
theorem dX12_program_21 : decode cX12_program 21 = .ok (.iconst (-1), 1) := by decide +kernel
theorem dX12_program_22 : decode cX12_program 22 = .ok (.putfield 86, 3) := by decide +kernel
theorem dX12_program_25 : decode cX12_program 25 = .ok (.aload_n 0, 1) := by decide +kernel
theorem dX12_program_26 : decode cX12_program 26 = .ok (.getfield 61, 3) := by decide +kernel
theorem dX12_program_29 : decode cX12_program 29 = .ok (.iconst 4, 1) := by decide +kernel
theorem dX12_program_30 : decode cX12_program 30 = .ok (.iconst 0, 1) := by decide +kernel
theorem dX12_program_31 : decode cX12_program 31 = .ok (.iastore, 1) := by decide +kernel
theorem dX12_program_32 : decode cX12_program 32 = .ok (.aload_n 0, 1) := by decide +kernel
theorem dX12_program_33 : decode cX12_program 33 = .ok (.iconst 0, 1) := by decide +kernel
theorem dX12_program_34 : decode cX12_program 34 = .ok (.putfield 214, 3) := by decide +kernel
theorem dX12_program_37 : decode cX12_program 37 = .ok (.aload_n 0, 1) := by decide +kernel
theorem dX12_program_38 : decode cX12_program 38 = .ok (.invokevirtual 249, 3) := by decide +kernel
theorem dX12_program_41 : decode cX12_program 41 = .ok (.iconst 1, 1) := by decide +kernel
theorem dX12_program_42 : decode cX12_program 42 = .ok (.istore_n 2, 1) := by decide +kernel
theorem dX12_program_43 : decode cX12_program 43 = .ok (.iload_n 2, 1) := by decide +kernel
theorem dX12_program_44 : decode cX12_program 44 = .ok (.ifCond .eq 18, 3) := by decide +kernel
theorem dX12_program_47 : decode cX12_program 47 = .ok (.aload_n 0, 1) := by decide +kernel
theorem dX12_program_48 : decode cX12_program 48 = .ok (.getfield 223, 3) := by decide +kernel
theorem dX12_program_51 : decode cX12_program 51 = .ok (.ifCond .eq 11, 3) := by decide +kernel
theorem dX12_program_54 : decode cX12_program 54 = .ok (.aload_n 0, 1) := by decide +kernel
theorem dX12_program_55 : decode cX12_program 55 = .ok (.invokevirtual 283, 3) := by decide +kernel
theorem dX12_program_58 : decode cX12_program 58 = .ok (.istore_n 2, 1) := by decide +kernel
theorem dX12_program_59 : decode cX12_program 59 = .ok (.goto (-16), 3) := by decide +kernel
theorem dX12_program_62 : decode cX12_program 62 = .ok (.aload_n 0, 1) := by decide +kernel
theorem dX12_program_63 : decode cX12_program 63 = .ok (.iconst 0, 1) := by decide +kernel
theorem dX12_program_64 : decode cX12_program 64 = .ok (.putfield 211, 3) := by decide +kernel
theorem dX12_program_67 : decode cX12_program 67 = .ok (.aload_n 0, 1) := by decide +kernel
theorem dX12_program_68 : decode cX12_program 68 = .ok (.getfield 229, 3) := by decide +kernel
theorem dX12_program_71 : decode cX12_program 71 = .ok (.ifCond .le 11, 3) := by decide +kernel
theorem dX12_program_74 : decode cX12_program 74 = .ok (.aload_n 0, 1) := by decide +kernel
theorem dX12_program_75 : decode cX12_program 75 = .ok (.getfield 229, 3) := by decide +kernel
theorem dX12_program_78 : decode cX12_program 78 = .ok (.bipush 10, 2) := by decide +kernel
theorem dX12_program_80 : decode cX12_program 80 = .ok (.isub, 1) := by decide +kernel
theorem dX12_program_81 : decode cX12_program 81 = .ok (.ireturn, 1) := by decide +kernel
theorem dX12_program_82 : decode cX12_program 82 = .ok (.aload_n 0, 1) := by decide +kernel
theorem dX12_program_83 : decode cX12_program 83 = .ok (.getfield 61, 3) := by decide +kernel
theorem dX12_program_86 : decode cX12_program 86 = .ok (.iload_n 1, 1) := by decide +kernel
theorem dX12_program_87 : decode cX12_program 87 = .ok (.aload_n 0, 1) := by decide +kernel
theorem dX12_program_88 : decode cX12_program 88 = .ok (.getfield 61, 3) := by decide +kernel
theorem dX12_program_91 : decode cX12_program 91 = .ok (.iconst 4, 1) := by decide +kernel
theorem dX12_program_92 : decode cX12_program 92 = .ok (.iaload, 1) := by decide +kernel
theorem dX12_program_93 : decode cX12_program 93 = .ok (.iastore, 1) := by decide +kernel
theorem dX12_program_94 : decode cX12_program 94 = .ok (.iconst 0, 1) := by decide +kernel
theorem dX12_program_95 : decode cX12_program 95 = .ok (.istore_n 3, 1) := by decide +kernel
theorem dX12_program_96 : decode cX12_program 96 = .ok (.iload_n 3, 1) := by decide +kernel
theorem dX12_program_97 : decode cX12_program 97 = .ok (.bipush 12, 2) := by decide +kernel
theorem dX12_program_99 : decode cX12_program 99 = .ok (.if_icmp .ge 174, 3) := by decide +kernel
theorem dX12_program_102 : decode cX12_program 102 = .ok (.aload_n 0, 1) := by decide +kernel
theorem dX12_program_103 : decode cX12_program 103 = .ok (.getfield 64, 3) := by decide +kernel
theorem dX12_program_106 : decode cX12_program 106 = .ok (.bipush 12, 2) := by decide +kernel
theorem dX12_program_108 : decode cX12_program 108 = .ok (.iload_n 1, 1) := by decide +kernel
theorem dX12_program_109 : decode cX12_program 109 = .ok (.imul, 1) := by decide +kernel
theorem dX12_program_110 : decode cX12_program 110 = .ok (.iload_n 3, 1) := by decide +kernel
theorem dX12_program_111 : decode cX12_program 111 = .ok (.iadd, 1) := by decide +kernel
theorem dX12_program_112 : decode cX12_program 112 = .ok (.aload_n 0, 1) := by decide +kernel
theorem dX12_program_113 : decode cX12_program 113 = .ok (.getfield 64, 3) := by decide +kernel
theorem dX12_program_116 : decode cX12_program 116 = .ok (.bipush 48, 2) := by decide +kernel
theorem dX12_program_118 : decode cX12_program 118 = .ok (.iload_n 3, 1) := by decide +kernel
theorem dX12_program_119 : decode cX12_program 119 = .ok (.iadd, 1) := by decide +kernel
theorem dX12_program_120 : decode cX12_program 120 = .ok (.iaload, 1) := by decide +kernel
theorem dX12_program_121 : decode cX12_program 121 = .ok (.iastore, 1) := by decide +kernel
theorem dX12_program_122 : decode cX12_program 122 = .ok (.aload_n 0, 1) := by decide +kernel
theorem dX12_program_123 : decode cX12_program 123 = .ok (.getfield 67, 3) := by decide +kernel
theorem dX12_program_126 : decode cX12_program 126 = .ok (.bipush 12, 2) := by decide +kernel
theorem dX12_program_128 : decode cX12_program 128 = .ok (.iload_n 1, 1) := by decide +kernel
theorem dX12_program_129 : decode cX12_program 129 = .ok (.imul, 1) := by decide +kernel
theorem dX12_program_130 : decode cX12_program 130 = .ok (.iload_n 3, 1) := by decide +kernel
theorem dX12_program_131 : decode cX12_program 131 = .ok (.iadd, 1) := by decide +kernel
theorem dX12_program_132 : decode cX12_program 132 = .ok (.aload_n 0, 1) := by decide +kernel
theorem dX12_program_133 : decode cX12_program 133 = .ok (.getfield 67, 3) := by decide +kernel
theorem dX12_program_136 : decode cX12_program 136 = .ok (.bipush 48, 2) := by decide +kernel
theorem dX12_program_138 : decode cX12_program 138 = .ok (.iload_n 3, 1) := by decide +kernel
theorem dX12_program_139 : decode cX12_program 139 = .ok (.iadd, 1) := by decide +kernel
theorem dX12_program_140 : decode cX12_program 140 = .ok (.iaload, 1) := by decide +kernel
theorem dX12_program_141 : decode cX12_program 141 = .ok (.iastore, 1) := by decide +kernel
theorem dX12_program_142 : decode cX12_program 142 = .ok (.aload_n 0, 1) := by decide +kernel
theorem dX12_program_143 : decode cX12_program 143 = .ok (.getfield 70, 3) := by decide +kernel
theorem dX12_program_146 : decode cX12_program 146 = .ok (.bipush 12, 2) := by decide +kernel
theorem dX12_program_148 : decode cX12_program 148 = .ok (.iload_n 1, 1) := by decide +kernel
theorem dX12_program_149 : decode cX12_program 149 = .ok (.imul, 1) := by decide +kernel
theorem dX12_program_150 : decode cX12_program 150 = .ok (.iload_n 3, 1) := by decide +kernel
theorem dX12_program_151 : decode cX12_program 151 = .ok (.iadd, 1) := by decide +kernel
theorem dX12_program_152 : decode cX12_program 152 = .ok (.aload_n 0, 1) := by decide +kernel
theorem dX12_program_153 : decode cX12_program 153 = .ok (.getfield 70, 3) := by decide +kernel
theorem dX12_program_156 : decode cX12_program 156 = .ok (.bipush 48, 2) := by decide +kernel
theorem dX12_program_158 : decode cX12_program 158 = .ok (.iload_n 3, 1) := by decide +kernel
theorem dX12_program_159 : decode cX12_program 159 = .ok (.iadd, 1) := by decide +kernel
theorem dX12_program_160 : decode cX12_program 160 = .ok (.iaload, 1) := by decide +kernel
theorem dX12_program_161 : decode cX12_program 161 = .ok (.iastore, 1) := by decide +kernel
theorem dX12_program_162 : decode cX12_program 162 = .ok (.iconst 0, 1) := by decide +kernel
theorem dX12_program_163 : decode cX12_program 163 = .ok (.istore 4, 2) := by decide +kernel
theorem dX12_program_165 : decode cX12_program 165 = .ok (.iload 4, 2) := by decide +kernel
theorem dX12_program_167 : decode cX12_program 167 = .ok (.iconst 4, 1) := by decide +kernel
theorem dX12_program_168 : decode cX12_program 168 = .ok (.if_icmp .ge 99, 3) := by decide +kernel
theorem dX12_program_171 : decode cX12_program 171 = .ok (.aload_n 0, 1) := by decide +kernel
theorem dX12_program_172 : decode cX12_program 172 = .ok (.getfield 73, 3) := by decide +kernel
theorem dX12_program_175 : decode cX12_program 175 = .ok (.iconst 4, 1) := by decide +kernel
theorem dX12_program_176 : decode cX12_program 176 = .ok (.bipush 12, 2) := by decide +kernel
theorem dX12_program_178 : decode cX12_program 178 = .ok (.iload_n 1, 1) := by decide +kernel
theorem dX12_program_179 : decode cX12_program 179 = .ok (.imul, 1) := by decide +kernel
theorem dX12_program_180 : decode cX12_program 180 = .ok (.iload_n 3, 1) := by decide +kernel
theorem dX12_program_181 : decode cX12_program 181 = .ok (.iadd, 1) := by decide +kernel
theorem dX12_program_182 : decode cX12_program 182 = .ok (.imul, 1) := by decide +kernel
theorem dX12_program_183 : decode cX12_program 183 = .ok (.iload 4, 2) := by decide +kernel
theorem dX12_program_185 : decode cX12_program 185 = .ok (.iadd, 1) := by decide +kernel
theorem dX12_program_186 : decode cX12_program 186 = .ok (.aload_n 0, 1) := by decide +kernel
theorem dX12_program_187 : decode cX12_program 187 = .ok (.getfield 73, 3) := by decide +kernel
theorem dX12_program_190 : decode cX12_program 190 = .ok (.iconst 4, 1) := by decide +kernel
theorem dX12_program_191 : decode cX12_program 191 = .ok (.bipush 48, 2) := by decide +kernel
theorem dX12_program_193 : decode cX12_program 193 = .ok (.iload_n 3, 1) := by decide +kernel
theorem dX12_program_194 : decode cX12_program 194 = .ok (.iadd, 1) := by decide +kernel
theorem dX12_program_195 : decode cX12_program 195 = .ok (.imul, 1) := by decide +kernel
theorem dX12_program_196 : decode cX12_program 196 = .ok (.iload 4, 2) := by decide +kernel
theorem dX12_program_198 : decode cX12_program 198 = .ok (.iadd, 1) := by decide +kernel
theorem dX12_program_199 : decode cX12_program 199 = .ok (.iaload, 1) := by decide +kernel
theorem dX12_program_200 : decode cX12_program 200 = .ok (.iastore, 1) := by decide +kernel
theorem dX12_program_201 : decode cX12_program 201 = .ok (.aload_n 0, 1) := by decide +kernel
theorem dX12_program_202 : decode cX12_program 202 = .ok (.getfield 76, 3) := by decide +kernel
theorem dX12_program_205 : decode cX12_program 205 = .ok (.iconst 4, 1) := by decide +kernel
theorem dX12_program_206 : decode cX12_program 206 = .ok (.bipush 12, 2) := by decide +kernel
theorem dX12_program_208 : decode cX12_program 208 = .ok (.iload_n 1, 1) := by decide +kernel
theorem dX12_program_209 : decode cX12_program 209 = .ok (.imul, 1) := by decide +kernel
theorem dX12_program_210 : decode cX12_program 210 = .ok (.iload_n 3, 1) := by decide +kernel
theorem dX12_program_211 : decode cX12_program 211 = .ok (.iadd, 1) := by decide +kernel
theorem dX12_program_212 : decode cX12_program 212 = .ok (.imul, 1) := by decide +kernel
theorem dX12_program_213 : decode cX12_program 213 = .ok (.iload 4, 2) := by decide +kernel
theorem dX12_program_215 : decode cX12_program 215 = .ok (.iadd, 1) := by decide +kernel
theorem dX12_program_216 : decode cX12_program 216 = .ok (.aload_n 0, 1) := by decide +kernel
theorem dX12_program_217 : decode cX12_program 217 = .ok (.getfield 76, 3) := by decide +kernel
theorem dX12_program_220 : decode cX12_program 220 = .ok (.iconst 4, 1) := by decide +kernel
theorem dX12_program_221 : decode cX12_program 221 = .ok (.bipush 48, 2) := by decide +kernel
theorem dX12_program_223 : decode cX12_program 223 = .ok (.iload_n 3, 1) := by decide +kernel
theorem dX12_program_224 : decode cX12_program 224 = .ok (.iadd, 1) := by decide +kernel
theorem dX12_program_225 : decode cX12_program 225 = .ok (.imul, 1) := by decide +kernel
theorem dX12_program_226 : decode cX12_program 226 = .ok (.iload 4, 2) := by decide +kernel
theorem dX12_program_228 : decode cX12_program 228 = .ok (.iadd, 1) := by decide +kernel
theorem dX12_program_229 : decode cX12_program 229 = .ok (.iaload, 1) := by decide +kernel
theorem dX12_program_230 : decode cX12_program 230 = .ok (.iastore, 1) := by decide +kernel
theorem dX12_program_231 : decode cX12_program 231 = .ok (.aload_n 0, 1) := by decide +kernel
theorem dX12_program_232 : decode cX12_program 232 = .ok (.getfield 79, 3) := by decide +kernel
theorem dX12_program_235 : decode cX12_program 235 = .ok (.iconst 4, 1) := by decide +kernel
theorem dX12_program_236 : decode cX12_program 236 = .ok (.bipush 12, 2) := by decide +kernel
theorem dX12_program_238 : decode cX12_program 238 = .ok (.iload_n 1, 1) := by decide +kernel
theorem dX12_program_239 : decode cX12_program 239 = .ok (.imul, 1) := by decide +kernel
theorem dX12_program_240 : decode cX12_program 240 = .ok (.iload_n 3, 1) := by decide +kernel
theorem dX12_program_241 : decode cX12_program 241 = .ok (.iadd, 1) := by decide +kernel
theorem dX12_program_242 : decode cX12_program 242 = .ok (.imul, 1) := by decide +kernel
theorem dX12_program_243 : decode cX12_program 243 = .ok (.iload 4, 2) := by decide +kernel
theorem dX12_program_245 : decode cX12_program 245 = .ok (.iadd, 1) := by decide +kernel
theorem dX12_program_246 : decode cX12_program 246 = .ok (.aload_n 0, 1) := by decide +kernel
theorem dX12_program_247 : decode cX12_program 247 = .ok (.getfield 79, 3) := by decide +kernel
theorem dX12_program_250 : decode cX12_program 250 = .ok (.iconst 4, 1) := by decide +kernel
theorem dX12_program_251 : decode cX12_program 251 = .ok (.bipush 48, 2) := by decide +kernel
theorem dX12_program_253 : decode cX12_program 253 = .ok (.iload_n 3, 1) := by decide +kernel
theorem dX12_program_254 : decode cX12_program 254 = .ok (.iadd, 1) := by decide +kernel
theorem dX12_program_255 : decode cX12_program 255 = .ok (.imul, 1) := by decide +kernel
theorem dX12_program_256 : decode cX12_program 256 = .ok (.iload 4, 2) := by decide +kernel
theorem dX12_program_258 : decode cX12_program 258 = .ok (.iadd, 1) := by decide +kernel
theorem dX12_program_259 : decode cX12_program 259 = .ok (.iaload, 1) := by decide +kernel
theorem dX12_program_260 : decode cX12_program 260 = .ok (.iastore, 1) := by decide +kernel
theorem dX12_program_261 : decode cX12_program 261 = .ok (.iinc 4 1, 3) := by decide +kernel
theorem dX12_program_264 : decode cX12_program 264 = .ok (.goto (-99), 3) := by decide +kernel
theorem dX12_program_267 : decode cX12_program 267 = .ok (.iinc 3 1, 3) := by decide +kernel
theorem dX12_program_270 : decode cX12_program 270 = .ok (.goto (-174), 3) := by decide +kernel
theorem dX12_program_273 : decode cX12_program 273 = .ok (.aload_n 0, 1) := by decide +kernel
theorem dX12_program_274 : decode cX12_program 274 = .ok (.getfield 61, 3) := by decide +kernel
theorem dX12_program_277 : decode cX12_program 277 = .ok (.iload_n 1, 1) := by decide +kernel
theorem dX12_program_278 : decode cX12_program 278 = .ok (.iaload, 1) := by decide +kernel
theorem dX12_program_279 : decode cX12_program 279 = .ok (.ireturn, 1) := by decide +kernel
theorem inn_X12_program_12 : ∀ w ∈ u_ws RX12 TX12 66, w ∈ wsX12_program := fun w h => List.mem_cons_of_mem _ (List.mem_append_right _ h)
set_option maxHeartbeats 4000000 in
set_option maxRecDepth 100000 in
theorem k_X12_program (l : Launch) (G : va_G) (cy : Nat → ClassId) (κ : Nat → Nat) (S : PS) (sz : Nat) (x : Nat) (a1 : Int32) (a1_z : Int) (hG : GX S) (ha_x : At S x 12) (hz_a1 : a1.toInt = a1_z) : Ci l yX12_program wsX12_program ({ frames := 8, cells := 0, slots := 0, locals := 384 }) G cy κ S sz [.ref x, .int (a1)] (fun (r : Int32) (S9 : PS) => Ok MT S S9 ∧ (True)) := by
  refine ent_m (cc := cX12_program) (maxL := 5) (ret := (some .int)) (by decide) rfl (Nat.le_of_ble_eq_true rfl) ?_
  intro p e s m below meth c ls X hr hlocks hin hw hl hsz
  subst hsz
  have X : Cx p c cX12_program 5 s [.ref x, .int (a1)].toArray wsX12_program RX12 m G cy κ (AS S s.heap.size) := X
  have hl : lv_has ls 5 [(0, .ref x), (1, .int (a1))] := hl
  have rg_a1 : (-2147483648) ≤ a1_z ∧ a1_z ≤ 2147483647 := by rw [← hz_a1]; exact ⟨z_lo _, z_hi _⟩
  have hO : Ok MT S S := Ok.rf hG
  generalize hQQ : MQ below _ _ _ _ _ _ = QQ
  replace hQQ := hQQ.symm
  refine lv_aload_n X.1 X.2.1 dX12_program_0 rfl (lv_at hl 0 rfl) ?_
  refine lv_iconst (v := 0) X.1 X.2.1 dX12_program_1 (by decide) ?_
  refine r_putI (v := 0) X hw ha_x rfl 0 1200 tyX12 (by decide) rfl inn_X12_program_12 tyX12_ok nmX12 (by decide) (X.2.2.2.1 (.fieldLink RX12 161 "SilkMillModel" "thrown" "I") (by decide +kernel)) rfl (Or.inl rfl) rfl rfl (Nat.le_of_ble_eq_true rfl) (st_1200 _ _) dX12_program_2 (fun H locs hw => ?_)
  obtain ⟨S_1, eS_1⟩ : ∃ T, T = sI S 1200 x (0) := ⟨_, rfl⟩
  rw [← eS_1] at hw
  have hO_2 : Ok MT S S_1 := hO.sI eS_1 (by decide +kernel) (uI_12_1200 hO.1 ha_x)
  have h_3 : pI S_1 1200 x = 0 := tI_sIs eS_1
  refine lv_aload_n X.1 X.2.1 dX12_program_5 rfl (lv_at hl 0 rfl) ?_
  refine lv_iload_n X.1 X.2.1 dX12_program_6 rfl (lv_at hl 1 rfl) ?_
  have t_4 : At S_1 x 12 := tAt_sI eS_1 ha_x
  refine k_i (rm := { frames := 2, cells := 0, slots := 0, locals := 96 }) (av := [.ref x, .int (a1)]) X hw (va_runV (As := [.int (a1)]) (rest := []) (cfix X) (k_X12_isPot l G cy κ S_1 _ x (a1) (a1_z) hO_2.1 t_4 hz_a1) (cwV 1 X.2.2.2.1 gX12_program_X12_isPot rfl rfl rfl (by decide +kernel) ⟨Nat.le_of_ble_eq_true rfl, Nat.le_of_ble_eq_true rfl⟩) (pre_V X hw _ t_4 rfl (by decide) rfl) rfl rfl hl.1 rfl (lv_room (Nat.le_of_ble_eq_true rfl)) dX12_program_7 ⟨Nat.le_of_ble_eq_true rfl, Nat.le_of_ble_eq_true rfl⟩) 0 0 (Nat.le_of_ble_eq_true rfl) (Nat.le_of_ble_eq_true rfl) (fun rr_5 S_6 H locs hp hw hfr hnw => ?_)
  obtain ⟨e2, hp⟩ := hp
  subst e2
  rcases hp with ⟨f_7, er_8⟩ | ⟨f_7, er_8⟩ <;> subst er_8
  · have z_b_9 := trivial
    refine lv_if_ne (tgt := 15) X.1 X.2.1 dX12_program_10 (by decide) (fun c_10 => ?_) (fun c_10 => absurd c_10 (by decide))
    refine lv_aload_n X.1 X.2.1 dX12_program_15 rfl (lv_at hl 0 rfl) ?_
    refine lv_iconst (v := 0) X.1 X.2.1 dX12_program_16 (by decide) ?_
    refine r_putI (v := 0) X hw t_4 rfl 30 1230 tyX12 (by decide) rfl inn_X12_program_12 tyX12_ok nmX12 (by decide) (X.2.2.2.1 (.fieldLink RX12 229 "SilkMillModel" "faultKind" "I") (by decide +kernel)) rfl (Or.inl rfl) rfl rfl (Nat.le_of_ble_eq_true rfl) (st_1230 _ _) dX12_program_17 (fun H locs hw => ?_)
    obtain ⟨S_11, eS_11⟩ : ∃ T, T = sI S_1 1230 x (0) := ⟨_, rfl⟩
    rw [← eS_11] at hw
    have hO_12 : Ok MT S S_11 := hO_2.sI eS_11 (by decide +kernel) (uI_12_1230 hO_2.1 t_4)
    have h_13 : pI S_11 1230 x = 0 := tI_sIs eS_11
    refine lv_aload_n X.1 X.2.1 dX12_program_20 rfl (lv_at hl 0 rfl) ?_
    refine lv_iconst (v := (-1)) X.1 X.2.1 dX12_program_21 (by decide) ?_
    have t_14 : At S_11 x 12 := tAt_sI eS_11 t_4
    refine r_putI (v := (-1)) X hw t_14 rfl 29 1229 tyX12 (by decide) rfl inn_X12_program_12 tyX12_ok nmX12 (by decide) (X.2.2.2.1 (.fieldLink RX12 86 "SilkMillModel" "faultPlace" "I") (by decide +kernel)) rfl (Or.inl rfl) rfl rfl (Nat.le_of_ble_eq_true rfl) (st_1229 _ _) dX12_program_22 (fun H locs hw => ?_)
    obtain ⟨S_15, eS_15⟩ : ∃ T, T = sI S_11 1229 x ((-1)) := ⟨_, rfl⟩
    rw [← eS_15] at hw
    have hO_16 : Ok MT S S_15 := hO_12.sI eS_15 (by decide +kernel) (uI_12_1229 hO_12.1 t_14)
    have h_17 : pI S_15 1229 x = (-1) := tI_sIs eS_15
    refine lv_aload_n X.1 X.2.1 dX12_program_25 rfl (lv_at hl 0 rfl) ?_
    have t_18 : At S_15 x 12 := tAt_sI eS_15 t_14
    obtain ⟨q_19, h_20, h_21, h_22⟩ := gQ_12_1220 hO_16.1 t_18
    refine r_getR (g := 1220) X hw t_18 rfl 20 h_20 (by decide) rfl inn_X12_program_12 (by decide) (X.2.2.2.1 (.fieldLink RX12 61 "SilkMillModel" "rules" "[I") (by decide +kernel)) rfl (gv_1220 _ _) dX12_program_26 ?_
    refine lv_iconst (v := 4) X.1 X.2.1 dX12_program_29 (by decide) ?_
    refine lv_iconst (v := 0) X.1 X.2.1 dX12_program_30 (by decide) ?_
    refine r_iast X hw h_21 rfl (by rw [h_22]; exact z_ix ti_4 (by omega) (by omega)) dX12_program_31 (fun H locs hw => ?_)
    obtain ⟨S_23, eS_23⟩ : ∃ T, T = sA S_15 q_19 (upd (pA S_15 q_19) (Int32.toNatClampNeg (4)) (0)) := ⟨_, rfl⟩
    rw [← eS_23] at hw
    have hO_24 : Ok MT S S_23 := hO_16.sA eS_23 h_21 (by decide +kernel) (uA_614 hO_16.1 h_21 (by rw [ti_0]; omega) (by rw [ti_0]; omega))
    have h_25 : pA S_23 q_19 (Int32.toNatClampNeg (4)) = 0 := tA_sAs eS_23
    have t_26 : pR S_23 1220 x = some q_19 := tR_sA eS_23 h_20
    have t_28 : pR S_15 1220 x = some q_19 := by have h := t_26; rw [eS_23, pR_sA] at h; exact h
    have zs_27 : ∀ j, zA S_23 x 1220 j = if j = (4 : Int).toNat then 0 else zA S_15 x 1220 j := by have h := zA_sAs eS_23 t_28 ti_0; rw [z_nc ti_4 (by omega)] at h; exact h
    have zs_29 : zA S_23 x 1220 4 = 0 := by have h := zs_27 4; rw [if_pos (by decide)] at h; exact h
    refine lv_aload_n X.1 X.2.1 dX12_program_32 rfl (lv_at hl 0 rfl) ?_
    refine lv_iconst (v := 0) X.1 X.2.1 dX12_program_33 (by decide) ?_
    have t_30 : At S_23 x 12 := tAt_sA eS_23 t_18
    refine r_putI (v := 0) X hw t_30 rfl 33 1233 tyX12 (by decide) rfl inn_X12_program_12 tyX12_ok nmX12 (by decide) (X.2.2.2.1 (.fieldLink RX12 214 "SilkMillModel" "to" "I") (by decide +kernel)) rfl (Or.inl rfl) rfl rfl (Nat.le_of_ble_eq_true rfl) (st_1233 _ _) dX12_program_34 (fun H locs hw => ?_)
    obtain ⟨S_31, eS_31⟩ : ∃ T, T = sI S_23 1233 x (0) := ⟨_, rfl⟩
    rw [← eS_31] at hw
    have hO_32 : Ok MT S S_31 := hO_24.sI eS_31 (by decide +kernel) (uI_12_1233 hO_24.1 t_30 (by rw [ti_0]; omega) (by rw [ti_0]; omega))
    have h_33 : pI S_31 1233 x = 0 := tI_sIs eS_31
    refine lv_aload_n X.1 X.2.1 dX12_program_37 rfl (lv_at hl 0 rfl) ?_
    have t_34 : At S_31 x 12 := tAt_sI eS_31 t_30
    refine k_v (rm := { frames := 2, cells := 0, slots := 0, locals := 96 }) (av := [.ref x]) X hw (va_runV (As := []) (rest := []) (cfix X) (k_X12_token l G cy κ S_31 _ x hO_32.1 t_34) (cwV 0 X.2.2.2.1 gX12_program_X12_token rfl rfl rfl (by decide +kernel) ⟨Nat.le_of_ble_eq_true rfl, Nat.le_of_ble_eq_true rfl⟩) (pre_V X hw _ t_34 rfl (by decide) rfl) rfl rfl hl.1 rfl (lv_room (Nat.le_of_ble_eq_true rfl)) dX12_program_38 ⟨Nat.le_of_ble_eq_true rfl, Nat.le_of_ble_eq_true rfl⟩) 0 0 (Nat.le_of_ble_eq_true rfl) (Nat.le_of_ble_eq_true rfl) (fun S_36 H locs hp hw hfr hnw => ?_)
    obtain ⟨hk_37, hp⟩ := hp
    have hO_38 : Ok MT S S_36 := hO_32.call hk_37 (by decide +kernel)
    have zc_39 : zA S_1 x 1220 = zA S x 1220 := zA_sI eS_1
    have zc_40 : zA S_11 x 1220 = zA S x 1220 := (zA_sI eS_11).trans zc_39
    have zc_41 : zA S_15 x 1220 = zA S x 1220 := (zA_sI eS_15).trans zc_40
    have zc_42 : zA S_31 x 1220 = zA S_23 x 1220 := zA_sI eS_31
    have zc_43 : zA S_36 x 1220 = zA S_23 x 1220 := (zA_fr hk_37.fr t_34 (ex3 (gQ_12_1220 hO_32.1 t_34)) (by decide +kernel) (by decide +kernel)).trans zc_42
    have zz_44 := congrFun zc_43 (4)
    refine lv_iconst (v := 1) X.1 X.2.1 dX12_program_41 (by decide) ?_
    refine lv_istore_n (lv' := [(2, .int 1), (0, .ref x), (1, .int (a1))]) X.1 X.2.1 dX12_program_42 rfl hl (by decide) rfl (fun ls hl => ?_)
    have L_45 : ∀ (n : Nat) (T_47 : PS) (H : Heap) (locs : List Loc) (ls : Array Slot) (i2_46 : Int32) (i2_46_z : Int), ((2 * (13 - zA T_47 x 1220 4) + i2_46_z).toNat = n) → (Wd G cy (AS S s.heap.size) s.heap T_47 H locs) → (i2_46.toInt = i2_46_z) → (0 ≤ i2_46_z ∧ i2_46_z ≤ 1) → (At T_47 x 12) → (Ok MT S T_47) → (zA T_47 x 1220 4 ≤ 12) → (lv_has ls 5 [(2, .int (i2_46)), (0, .ref x), (1, .int (a1))]) → W p l e ({ frames := 8, cells := 0, slots := 0, locals := 384 }) s m [.ref x, .int (a1)].toArray below meth c H locs 0 0 QQ (F0 m 43 ls []) := by
      intro n
      induction n using Nat.strongRecOn with
      | ind n ih_L_45 =>
      intro T_47 H locs ls i2_46 i2_46_z hn hw hz_i2_46 hr_i2_46 ha_x_L_48 hO_T_47 iv_49 hl
      have rg_50 : (-2147483648) ≤ i2_46_z ∧ i2_46_z ≤ 2147483647 := by rw [← hz_i2_46]; exact ⟨z_lo _, z_hi _⟩
      refine lv_iload_n X.1 X.2.1 dX12_program_43 rfl (lv_at hl 0 rfl) ?_
      refine lv_if_eq (tgt := 62) X.1 X.2.1 dX12_program_44 (by decide) (fun c_51 => ?_) (fun c_51 => ?_)
      · have z_b_52 := trivial
        have k_53 : i2_46_z = 0 := z_eq hz_i2_46 ti_0 c_51
        refine lv_aload_n X.1 X.2.1 dX12_program_62 rfl (lv_at hl 1 rfl) ?_
        refine lv_iconst (v := 0) X.1 X.2.1 dX12_program_63 (by decide) ?_
        refine r_putI (v := 0) X hw ha_x_L_48 rfl 28 1228 tyX12 (by decide) rfl inn_X12_program_12 tyX12_ok nmX12 (by decide) (X.2.2.2.1 (.fieldLink RX12 211 "SilkMillModel" "taped" "I") (by decide +kernel)) rfl (Or.inl rfl) rfl rfl (Nat.le_of_ble_eq_true rfl) (st_1228 _ _) dX12_program_64 (fun H locs hw => ?_)
        obtain ⟨S_54, eS_54⟩ : ∃ T, T = sI T_47 1228 x (0) := ⟨_, rfl⟩
        rw [← eS_54] at hw
        have hO_55 : Ok MT S S_54 := hO_T_47.sI eS_54 (by decide +kernel) (uI_12_1228 hO_T_47.1 ha_x_L_48 (by rw [ti_0]; omega) (by rw [ti_0]; omega))
        have h_56 : pI S_54 1228 x = 0 := tI_sIs eS_54
        refine lv_aload_n X.1 X.2.1 dX12_program_67 rfl (lv_at hl 1 rfl) ?_
        have t_57 : At S_54 x 12 := tAt_sI eS_54 ha_x_L_48
        obtain ⟨v_58, ev_58⟩ : ∃ v, pI S_54 1230 x = v := ⟨_, rfl⟩
        have rg_60 := And.intro (z_lo v_58) (z_hi v_58)
        have pz_61 : (pI S_54 1230 x).toInt = v_58.toInt := by rw [ev_58]
        refine r_getI (g := 1230) (x := v_58) X hw t_57 rfl 30 ev_58 (by decide) rfl inn_X12_program_12 (by decide) (X.2.2.2.1 (.fieldLink RX12 229 "SilkMillModel" "faultKind" "I") (by decide +kernel)) rfl (gv_1230 _ _) dX12_program_68 ?_
        refine lv_if_le (tgt := 82) X.1 X.2.1 dX12_program_71 (by decide) (fun c_62 => ?_) (fun c_62 => ?_)
        · have z_b_63 := trivial
          have k_64 : v_58.toInt ≤ 0 := z_le rfl ti_0 c_62
          refine lv_aload_n X.1 X.2.1 dX12_program_82 rfl (lv_at hl 1 rfl) ?_
          obtain ⟨q_65, h_66, h_67, h_68⟩ := gQ_12_1220 hO_55.1 t_57
          refine r_getR (g := 1220) X hw t_57 rfl 20 h_66 (by decide) rfl inn_X12_program_12 (by decide) (X.2.2.2.1 (.fieldLink RX12 61 "SilkMillModel" "rules" "[I") (by decide +kernel)) rfl (gv_1220 _ _) dX12_program_83 ?_
          refine lv_iload_n X.1 X.2.1 dX12_program_86 rfl (lv_at hl 2 rfl) ?_
          refine lv_aload_n X.1 X.2.1 dX12_program_87 rfl (lv_at hl 1 rfl) ?_
          refine r_getR (g := 1220) X hw t_57 rfl 20 h_66 (by decide) rfl inn_X12_program_12 (by decide) (X.2.2.2.1 (.fieldLink RX12 61 "SilkMillModel" "rules" "[I") (by decide +kernel)) rfl (gv_1220 _ _) dX12_program_88 ?_
          refine lv_iconst (v := 4) X.1 X.2.1 dX12_program_91 (by decide) ?_
          refine r_iald X hw h_67 rfl (by rw [h_68]; exact z_ix ti_4 (by omega) (by omega)) dX12_program_92 ?_
          refine lv_topi (fun v_69 ev_69 => ?_)
          have z_70 := gE_614 hO_55.1 h_67 (Int32.toNatClampNeg (4)); rw [← ev_69] at z_70
          have ev_69 := ev_69.symm
          refine r_iast X hw h_67 rfl (by rw [h_68]; exact z_ix hz_a1 (by omega) (by omega)) dX12_program_93 (fun H locs hw => ?_)
          obtain ⟨S_71, eS_71⟩ : ∃ T, T = sA S_54 q_65 (upd (pA S_54 q_65) (Int32.toNatClampNeg (a1)) (v_69)) := ⟨_, rfl⟩
          rw [← eS_71] at hw
          have hO_72 : Ok MT S S_71 := hO_55.sA eS_71 h_67 (by decide +kernel) (uA_614 hO_55.1 h_67 (by omega) (by omega))
          have h_73 : pA S_71 q_65 (Int32.toNatClampNeg (a1)) = v_69 := tA_sAs eS_71
          refine lv_iconst (v := 0) X.1 X.2.1 dX12_program_94 (by decide) ?_
          refine lv_istore_n (lv' := [(3, .int 0), (2, .int (i2_46)), (0, .ref x), (1, .int (a1))]) X.1 X.2.1 dX12_program_95 rfl hl (by decide) rfl (fun ls hl => ?_)
          have L_74 : ∀ (n : Nat) (T_76 : PS) (H : Heap) (locs : List Loc) (ls : Array Slot) (i3_75 : Int32) (i3_75_z : Int), ((12 - i3_75_z).toNat = n) → (Wd G cy (AS S s.heap.size) s.heap T_76 H locs) → (i3_75.toInt = i3_75_z) → (0 ≤ i3_75_z ∧ i3_75_z ≤ 12) → (At T_76 x 12) → (Ok MT S T_76) → (lv_has ls 5 [(3, .int (i3_75)), (2, .int (i2_46)), (0, .ref x), (1, .int (a1))]) → W p l e ({ frames := 8, cells := 0, slots := 0, locals := 384 }) s m [.ref x, .int (a1)].toArray below meth c H locs 0 0 QQ (F0 m 96 ls []) := by
            intro n
            induction n using Nat.strongRecOn with
            | ind n ih_L_74 =>
            intro T_76 H locs ls i3_75 i3_75_z hn hw hz_i3_75 hr_i3_75 ha_x_L_77 hO_T_76 hl
            have rg_78 : (-2147483648) ≤ i3_75_z ∧ i3_75_z ≤ 2147483647 := by rw [← hz_i3_75]; exact ⟨z_lo _, z_hi _⟩
            refine lv_iload_n X.1 X.2.1 dX12_program_96 rfl (lv_at hl 0 rfl) ?_
            refine lv_bipush (v := 12) X.1 X.2.1 dX12_program_97 (by decide) ?_
            refine lv_icmp_ge (tgt := 273) X.1 X.2.1 dX12_program_99 (by decide) (fun c_79 => ?_) (fun c_79 => ?_)
            · have z_b_80 := trivial
              have k_81 : i3_75_z ≥ 12 := z_le ti_12 hz_i3_75 c_79
              refine lv_aload_n X.1 X.2.1 dX12_program_273 rfl (lv_at hl 2 rfl) ?_
              obtain ⟨q_82, h_83, h_84, h_85⟩ := gQ_12_1220 hO_T_76.1 ha_x_L_77
              refine r_getR (g := 1220) X hw ha_x_L_77 rfl 20 h_83 (by decide) rfl inn_X12_program_12 (by decide) (X.2.2.2.1 (.fieldLink RX12 61 "SilkMillModel" "rules" "[I") (by decide +kernel)) rfl (gv_1220 _ _) dX12_program_274 ?_
              refine lv_iload_n X.1 X.2.1 dX12_program_277 rfl (lv_at hl 3 rfl) ?_
              refine r_iald X hw h_84 rfl (by rw [h_85]; exact z_ix hz_a1 (by omega) (by omega)) dX12_program_278 ?_
              refine lv_topi (fun v_86 ev_86 => ?_)
              have z_87 := gE_614 hO_T_76.1 h_84 (Int32.toNatClampNeg (a1)); rw [← ev_86] at z_87
              have ev_86 := ev_86.symm
              rw [hQQ]
              exact ret_i X hw hr hlocks (Nat.le_of_ble_eq_true rfl) (Nat.le_of_ble_eq_true rfl) ⟨hO_T_76, trivial⟩ dX12_program_279
            · have z_b_88 := trivial
              have k_89 : i3_75_z < 12 := z_nle ti_12 hz_i3_75 c_79
              refine lv_aload_n X.1 X.2.1 dX12_program_102 rfl (lv_at hl 2 rfl) ?_
              obtain ⟨q_90, h_91, h_92, h_93⟩ := gQ_12_1221 hO_T_76.1 ha_x_L_77
              refine r_getR (g := 1221) X hw ha_x_L_77 rfl 21 h_91 (by decide) rfl inn_X12_program_12 (by decide) (X.2.2.2.1 (.fieldLink RX12 64 "SilkMillModel" "act" "[I") (by decide +kernel)) rfl (gv_1221 _ _) dX12_program_103 ?_
              refine lv_bipush (v := 12) X.1 X.2.1 dX12_program_106 (by decide) ?_
              refine lv_iload_n X.1 X.2.1 dX12_program_108 rfl (lv_at hl 3 rfl) ?_
              refine lv_imul X.1 X.2.1 dX12_program_109 ?_
              refine lv_topi (fun v_94 ev_94 => ?_)
              have z_95 : v_94.toInt = 12 * a1_z := z_mul ev_94 ti_12 hz_a1 (by omega) (by omega)
              refine lv_iload_n X.1 X.2.1 dX12_program_110 rfl (lv_at hl 0 rfl) ?_
              refine lv_iadd X.1 X.2.1 dX12_program_111 ?_
              refine lv_topi (fun v_96 ev_96 => ?_)
              have z_97 : v_96.toInt = (12 * a1_z) + i3_75_z := z_add ev_96 z_95 hz_i3_75 (by omega) (by omega)
              refine lv_aload_n X.1 X.2.1 dX12_program_112 rfl (lv_at hl 2 rfl) ?_
              refine r_getR (g := 1221) X hw ha_x_L_77 rfl 21 h_91 (by decide) rfl inn_X12_program_12 (by decide) (X.2.2.2.1 (.fieldLink RX12 64 "SilkMillModel" "act" "[I") (by decide +kernel)) rfl (gv_1221 _ _) dX12_program_113 ?_
              refine lv_bipush (v := 48) X.1 X.2.1 dX12_program_116 (by decide) ?_
              refine lv_iload_n X.1 X.2.1 dX12_program_118 rfl (lv_at hl 0 rfl) ?_
              refine lv_iadd X.1 X.2.1 dX12_program_119 ?_
              refine lv_topi (fun v_98 ev_98 => ?_)
              have z_99 : v_98.toInt = 48 + i3_75_z := z_add ev_98 ti_48 hz_i3_75 (by omega) (by omega)
              refine r_iald X hw h_92 rfl (by rw [h_93]; exact z_ix z_99 (by omega) (by omega)) dX12_program_120 ?_
              refine lv_topi (fun v_100 ev_100 => ?_)
              have rg_101 := And.intro (z_lo v_100) (z_hi v_100)
              have ev_100 := ev_100.symm
              refine r_iast X hw h_92 rfl (by rw [h_93]; exact z_ix z_97 (by omega) (by omega)) dX12_program_121 (fun H locs hw => ?_)
              obtain ⟨S_102, eS_102⟩ : ∃ T, T = sA T_76 q_90 (upd (pA T_76 q_90) (Int32.toNatClampNeg (v_96)) (v_100)) := ⟨_, rfl⟩
              rw [← eS_102] at hw
              have hO_103 : Ok MT S S_102 := hO_T_76.sA eS_102 h_92 (by decide +kernel) (uA_634 hO_T_76.1 h_92)
              have h_104 : pA S_102 q_90 (Int32.toNatClampNeg (v_96)) = v_100 := tA_sAs eS_102
              refine lv_aload_n X.1 X.2.1 dX12_program_122 rfl (lv_at hl 2 rfl) ?_
              have t_105 : At S_102 x 12 := tAt_sA eS_102 ha_x_L_77
              obtain ⟨q_106, h_107, h_108, h_109⟩ := gQ_12_1222 hO_103.1 t_105
              refine r_getR (g := 1222) X hw t_105 rfl 22 h_107 (by decide) rfl inn_X12_program_12 (by decide) (X.2.2.2.1 (.fieldLink RX12 67 "SilkMillModel" "actNumber" "[I") (by decide +kernel)) rfl (gv_1222 _ _) dX12_program_123 ?_
              refine lv_bipush (v := 12) X.1 X.2.1 dX12_program_126 (by decide) ?_
              refine lv_iload_n X.1 X.2.1 dX12_program_128 rfl (lv_at hl 3 rfl) ?_
              refine lv_imul X.1 X.2.1 dX12_program_129 ?_
              refine lv_topi (fun v_110 ev_110 => ?_)
              have z_111 : v_110.toInt = 12 * a1_z := z_mul ev_110 ti_12 hz_a1 (by omega) (by omega)
              refine lv_iload_n X.1 X.2.1 dX12_program_130 rfl (lv_at hl 0 rfl) ?_
              refine lv_iadd X.1 X.2.1 dX12_program_131 ?_
              refine lv_topi (fun v_112 ev_112 => ?_)
              have z_113 : v_112.toInt = (12 * a1_z) + i3_75_z := z_add ev_112 z_111 hz_i3_75 (by omega) (by omega)
              refine lv_aload_n X.1 X.2.1 dX12_program_132 rfl (lv_at hl 2 rfl) ?_
              refine r_getR (g := 1222) X hw t_105 rfl 22 h_107 (by decide) rfl inn_X12_program_12 (by decide) (X.2.2.2.1 (.fieldLink RX12 67 "SilkMillModel" "actNumber" "[I") (by decide +kernel)) rfl (gv_1222 _ _) dX12_program_133 ?_
              refine lv_bipush (v := 48) X.1 X.2.1 dX12_program_136 (by decide) ?_
              refine lv_iload_n X.1 X.2.1 dX12_program_138 rfl (lv_at hl 0 rfl) ?_
              refine lv_iadd X.1 X.2.1 dX12_program_139 ?_
              refine lv_topi (fun v_114 ev_114 => ?_)
              have z_115 : v_114.toInt = 48 + i3_75_z := z_add ev_114 ti_48 hz_i3_75 (by omega) (by omega)
              refine r_iald X hw h_108 rfl (by rw [h_109]; exact z_ix z_115 (by omega) (by omega)) dX12_program_140 ?_
              refine lv_topi (fun v_116 ev_116 => ?_)
              have rg_117 := And.intro (z_lo v_116) (z_hi v_116)
              have ev_116 := ev_116.symm
              refine r_iast X hw h_108 rfl (by rw [h_109]; exact z_ix z_113 (by omega) (by omega)) dX12_program_141 (fun H locs hw => ?_)
              obtain ⟨S_118, eS_118⟩ : ∃ T, T = sA S_102 q_106 (upd (pA S_102 q_106) (Int32.toNatClampNeg (v_112)) (v_116)) := ⟨_, rfl⟩
              rw [← eS_118] at hw
              have hO_119 : Ok MT S S_118 := hO_103.sA eS_118 h_108 (by decide +kernel) (uA_654 hO_103.1 h_108)
              have h_120 : pA S_118 q_106 (Int32.toNatClampNeg (v_112)) = v_116 := tA_sAs eS_118
              refine lv_aload_n X.1 X.2.1 dX12_program_142 rfl (lv_at hl 2 rfl) ?_
              have t_121 : At S_118 x 12 := tAt_sA eS_118 t_105
              obtain ⟨q_122, h_123, h_124, h_125⟩ := gQ_12_1223 hO_119.1 t_121
              refine r_getR (g := 1223) X hw t_121 rfl 23 h_123 (by decide) rfl inn_X12_program_12 (by decide) (X.2.2.2.1 (.fieldLink RX12 70 "SilkMillModel" "conditions" "[I") (by decide +kernel)) rfl (gv_1223 _ _) dX12_program_143 ?_
              refine lv_bipush (v := 12) X.1 X.2.1 dX12_program_146 (by decide) ?_
              refine lv_iload_n X.1 X.2.1 dX12_program_148 rfl (lv_at hl 3 rfl) ?_
              refine lv_imul X.1 X.2.1 dX12_program_149 ?_
              refine lv_topi (fun v_126 ev_126 => ?_)
              have z_127 : v_126.toInt = 12 * a1_z := z_mul ev_126 ti_12 hz_a1 (by omega) (by omega)
              refine lv_iload_n X.1 X.2.1 dX12_program_150 rfl (lv_at hl 0 rfl) ?_
              refine lv_iadd X.1 X.2.1 dX12_program_151 ?_
              refine lv_topi (fun v_128 ev_128 => ?_)
              have z_129 : v_128.toInt = (12 * a1_z) + i3_75_z := z_add ev_128 z_127 hz_i3_75 (by omega) (by omega)
              refine lv_aload_n X.1 X.2.1 dX12_program_152 rfl (lv_at hl 2 rfl) ?_
              refine r_getR (g := 1223) X hw t_121 rfl 23 h_123 (by decide) rfl inn_X12_program_12 (by decide) (X.2.2.2.1 (.fieldLink RX12 70 "SilkMillModel" "conditions" "[I") (by decide +kernel)) rfl (gv_1223 _ _) dX12_program_153 ?_
              refine lv_bipush (v := 48) X.1 X.2.1 dX12_program_156 (by decide) ?_
              refine lv_iload_n X.1 X.2.1 dX12_program_158 rfl (lv_at hl 0 rfl) ?_
              refine lv_iadd X.1 X.2.1 dX12_program_159 ?_
              refine lv_topi (fun v_130 ev_130 => ?_)
              have z_131 : v_130.toInt = 48 + i3_75_z := z_add ev_130 ti_48 hz_i3_75 (by omega) (by omega)
              refine r_iald X hw h_124 rfl (by rw [h_125]; exact z_ix z_131 (by omega) (by omega)) dX12_program_160 ?_
              refine lv_topi (fun v_132 ev_132 => ?_)
              have z_133 := gE_674 hO_119.1 h_124 (Int32.toNatClampNeg (v_130)); rw [← ev_132] at z_133
              have ev_132 := ev_132.symm
              refine r_iast X hw h_124 rfl (by rw [h_125]; exact z_ix z_129 (by omega) (by omega)) dX12_program_161 (fun H locs hw => ?_)
              obtain ⟨S_134, eS_134⟩ : ∃ T, T = sA S_118 q_122 (upd (pA S_118 q_122) (Int32.toNatClampNeg (v_128)) (v_132)) := ⟨_, rfl⟩
              rw [← eS_134] at hw
              have hO_135 : Ok MT S S_134 := hO_119.sA eS_134 h_124 (by decide +kernel) (uA_674 hO_119.1 h_124 (by omega) (by omega))
              have h_136 : pA S_134 q_122 (Int32.toNatClampNeg (v_128)) = v_132 := tA_sAs eS_134
              refine lv_iconst (v := 0) X.1 X.2.1 dX12_program_162 (by decide) ?_
              refine lv_istore (lv' := [(4, .int 0), (3, .int (i3_75)), (2, .int (i2_46)), (0, .ref x), (1, .int (a1))]) X.1 X.2.1 dX12_program_163 hl (by decide) rfl (fun ls hl => ?_)
              have L_137 : ∀ (n : Nat) (T_139 : PS) (H : Heap) (locs : List Loc) (ls : Array Slot) (i4_138 : Int32) (i4_138_z : Int), ((4 - i4_138_z).toNat = n) → (Wd G cy (AS S s.heap.size) s.heap T_139 H locs) → (i4_138.toInt = i4_138_z) → (0 ≤ i4_138_z ∧ i4_138_z ≤ 4) → (At T_139 x 12) → (Ok MT S T_139) → (lv_has ls 5 [(4, .int (i4_138)), (3, .int (i3_75)), (2, .int (i2_46)), (0, .ref x), (1, .int (a1))]) → W p l e ({ frames := 8, cells := 0, slots := 0, locals := 384 }) s m [.ref x, .int (a1)].toArray below meth c H locs 0 0 QQ (F0 m 165 ls []) := by
                intro n
                induction n using Nat.strongRecOn with
                | ind n ih_L_137 =>
                intro T_139 H locs ls i4_138 i4_138_z hn hw hz_i4_138 hr_i4_138 ha_x_L_140 hO_T_139 hl
                have rg_141 : (-2147483648) ≤ i4_138_z ∧ i4_138_z ≤ 2147483647 := by rw [← hz_i4_138]; exact ⟨z_lo _, z_hi _⟩
                refine lv_iload X.1 X.2.1 dX12_program_165 (lv_at hl 0 rfl) ?_
                refine lv_iconst (v := 4) X.1 X.2.1 dX12_program_167 (by decide) ?_
                refine lv_icmp_ge (tgt := 267) X.1 X.2.1 dX12_program_168 (by decide) (fun c_142 => ?_) (fun c_142 => ?_)
                · have z_b_143 := trivial
                  have k_144 : i4_138_z ≥ 4 := z_le ti_4 hz_i4_138 c_142
                  obtain ⟨x_145, ex_145⟩ : ∃ y : Int32, y = i3_75 + 1 := ⟨_, rfl⟩
                  have z_146 : x_145.toInt = i3_75_z + 1 := z_add ex_145 hz_i3_75 ti_1 (by omega) (by omega)
                  refine lv_iinc (v := x_145) (lv' := [(3, .int (x_145)), (4, .int (i4_138)), (2, .int (i2_46)), (0, .ref x), (1, .int (a1))]) X.1 X.2.1 dX12_program_267 hl (k := 1) rfl (by rw [ex_145]; rfl) (by decide) rfl (fun ls hl => ?_)
                  refine lv_goto (tgt := 96) X.1 X.2.1 dX12_program_270 (by decide) ?_
                  exact ih_L_74 _ (by omega) _ _ _ _ (x_145) (x_145.toInt) rfl hw rfl (by omega) ha_x_L_140 hO_T_139 (lv_sub hl [0, 2, 3, 4] rfl)
                · have z_b_147 := trivial
                  have k_148 : i4_138_z < 4 := z_nle ti_4 hz_i4_138 c_142
                  refine lv_aload_n X.1 X.2.1 dX12_program_171 rfl (lv_at hl 3 rfl) ?_
                  obtain ⟨q_149, h_150, h_151, h_152⟩ := gQ_12_1224 hO_T_139.1 ha_x_L_140
                  refine r_getR (g := 1224) X hw ha_x_L_140 rfl 24 h_150 (by decide) rfl inn_X12_program_12 (by decide) (X.2.2.2.1 (.fieldLink RX12 73 "SilkMillModel" "field" "[I") (by decide +kernel)) rfl (gv_1224 _ _) dX12_program_172 ?_
                  refine lv_iconst (v := 4) X.1 X.2.1 dX12_program_175 (by decide) ?_
                  refine lv_bipush (v := 12) X.1 X.2.1 dX12_program_176 (by decide) ?_
                  refine lv_iload_n X.1 X.2.1 dX12_program_178 rfl (lv_at hl 4 rfl) ?_
                  refine lv_imul X.1 X.2.1 dX12_program_179 ?_
                  refine lv_topi (fun v_153 ev_153 => ?_)
                  have z_154 : v_153.toInt = 12 * a1_z := z_mul ev_153 ti_12 hz_a1 (by omega) (by omega)
                  refine lv_iload_n X.1 X.2.1 dX12_program_180 rfl (lv_at hl 1 rfl) ?_
                  refine lv_iadd X.1 X.2.1 dX12_program_181 ?_
                  refine lv_topi (fun v_155 ev_155 => ?_)
                  have z_156 : v_155.toInt = (12 * a1_z) + i3_75_z := z_add ev_155 z_154 hz_i3_75 (by omega) (by omega)
                  refine lv_imul X.1 X.2.1 dX12_program_182 ?_
                  refine lv_topi (fun v_157 ev_157 => ?_)
                  have z_158 : v_157.toInt = 4 * ((12 * a1_z) + i3_75_z) := z_mul ev_157 ti_4 z_156 (by omega) (by omega)
                  refine lv_iload X.1 X.2.1 dX12_program_183 (lv_at hl 0 rfl) ?_
                  refine lv_iadd X.1 X.2.1 dX12_program_185 ?_
                  refine lv_topi (fun v_159 ev_159 => ?_)
                  have z_160 : v_159.toInt = (4 * ((12 * a1_z) + i3_75_z)) + i4_138_z := z_add ev_159 z_158 hz_i4_138 (by omega) (by omega)
                  refine lv_aload_n X.1 X.2.1 dX12_program_186 rfl (lv_at hl 3 rfl) ?_
                  refine r_getR (g := 1224) X hw ha_x_L_140 rfl 24 h_150 (by decide) rfl inn_X12_program_12 (by decide) (X.2.2.2.1 (.fieldLink RX12 73 "SilkMillModel" "field" "[I") (by decide +kernel)) rfl (gv_1224 _ _) dX12_program_187 ?_
                  refine lv_iconst (v := 4) X.1 X.2.1 dX12_program_190 (by decide) ?_
                  refine lv_bipush (v := 48) X.1 X.2.1 dX12_program_191 (by decide) ?_
                  refine lv_iload_n X.1 X.2.1 dX12_program_193 rfl (lv_at hl 1 rfl) ?_
                  refine lv_iadd X.1 X.2.1 dX12_program_194 ?_
                  refine lv_topi (fun v_161 ev_161 => ?_)
                  have z_162 : v_161.toInt = 48 + i3_75_z := z_add ev_161 ti_48 hz_i3_75 (by omega) (by omega)
                  refine lv_imul X.1 X.2.1 dX12_program_195 ?_
                  refine lv_topi (fun v_163 ev_163 => ?_)
                  have z_164 : v_163.toInt = 4 * (48 + i3_75_z) := z_mul ev_163 ti_4 z_162 (by omega) (by omega)
                  refine lv_iload X.1 X.2.1 dX12_program_196 (lv_at hl 0 rfl) ?_
                  refine lv_iadd X.1 X.2.1 dX12_program_198 ?_
                  refine lv_topi (fun v_165 ev_165 => ?_)
                  have z_166 : v_165.toInt = (4 * (48 + i3_75_z)) + i4_138_z := z_add ev_165 z_164 hz_i4_138 (by omega) (by omega)
                  refine r_iald X hw h_151 rfl (by rw [h_152]; exact z_ix z_166 (by omega) (by omega)) dX12_program_199 ?_
                  refine lv_topi (fun v_167 ev_167 => ?_)
                  have rg_168 := And.intro (z_lo v_167) (z_hi v_167)
                  have ev_167 := ev_167.symm
                  refine r_iast X hw h_151 rfl (by rw [h_152]; exact z_ix z_160 (by omega) (by omega)) dX12_program_200 (fun H locs hw => ?_)
                  obtain ⟨S_169, eS_169⟩ : ∃ T, T = sA T_139 q_149 (upd (pA T_139 q_149) (Int32.toNatClampNeg (v_159)) (v_167)) := ⟨_, rfl⟩
                  rw [← eS_169] at hw
                  have hO_170 : Ok MT S S_169 := hO_T_139.sA eS_169 h_151 (by decide +kernel) (uA_694 hO_T_139.1 h_151)
                  have h_171 : pA S_169 q_149 (Int32.toNatClampNeg (v_159)) = v_167 := tA_sAs eS_169
                  refine lv_aload_n X.1 X.2.1 dX12_program_201 rfl (lv_at hl 3 rfl) ?_
                  have t_172 : At S_169 x 12 := tAt_sA eS_169 ha_x_L_140
                  obtain ⟨q_173, h_174, h_175, h_176⟩ := gQ_12_1225 hO_170.1 t_172
                  refine r_getR (g := 1225) X hw t_172 rfl 25 h_174 (by decide) rfl inn_X12_program_12 (by decide) (X.2.2.2.1 (.fieldLink RX12 76 "SilkMillModel" "rel" "[I") (by decide +kernel)) rfl (gv_1225 _ _) dX12_program_202 ?_
                  refine lv_iconst (v := 4) X.1 X.2.1 dX12_program_205 (by decide) ?_
                  refine lv_bipush (v := 12) X.1 X.2.1 dX12_program_206 (by decide) ?_
                  refine lv_iload_n X.1 X.2.1 dX12_program_208 rfl (lv_at hl 4 rfl) ?_
                  refine lv_imul X.1 X.2.1 dX12_program_209 ?_
                  refine lv_topi (fun v_177 ev_177 => ?_)
                  have z_178 : v_177.toInt = 12 * a1_z := z_mul ev_177 ti_12 hz_a1 (by omega) (by omega)
                  refine lv_iload_n X.1 X.2.1 dX12_program_210 rfl (lv_at hl 1 rfl) ?_
                  refine lv_iadd X.1 X.2.1 dX12_program_211 ?_
                  refine lv_topi (fun v_179 ev_179 => ?_)
                  have z_180 : v_179.toInt = (12 * a1_z) + i3_75_z := z_add ev_179 z_178 hz_i3_75 (by omega) (by omega)
                  refine lv_imul X.1 X.2.1 dX12_program_212 ?_
                  refine lv_topi (fun v_181 ev_181 => ?_)
                  have z_182 : v_181.toInt = 4 * ((12 * a1_z) + i3_75_z) := z_mul ev_181 ti_4 z_180 (by omega) (by omega)
                  refine lv_iload X.1 X.2.1 dX12_program_213 (lv_at hl 0 rfl) ?_
                  refine lv_iadd X.1 X.2.1 dX12_program_215 ?_
                  refine lv_topi (fun v_183 ev_183 => ?_)
                  have z_184 : v_183.toInt = (4 * ((12 * a1_z) + i3_75_z)) + i4_138_z := z_add ev_183 z_182 hz_i4_138 (by omega) (by omega)
                  refine lv_aload_n X.1 X.2.1 dX12_program_216 rfl (lv_at hl 3 rfl) ?_
                  refine r_getR (g := 1225) X hw t_172 rfl 25 h_174 (by decide) rfl inn_X12_program_12 (by decide) (X.2.2.2.1 (.fieldLink RX12 76 "SilkMillModel" "rel" "[I") (by decide +kernel)) rfl (gv_1225 _ _) dX12_program_217 ?_
                  refine lv_iconst (v := 4) X.1 X.2.1 dX12_program_220 (by decide) ?_
                  refine lv_bipush (v := 48) X.1 X.2.1 dX12_program_221 (by decide) ?_
                  refine lv_iload_n X.1 X.2.1 dX12_program_223 rfl (lv_at hl 1 rfl) ?_
                  refine lv_iadd X.1 X.2.1 dX12_program_224 ?_
                  refine lv_topi (fun v_185 ev_185 => ?_)
                  have z_186 : v_185.toInt = 48 + i3_75_z := z_add ev_185 ti_48 hz_i3_75 (by omega) (by omega)
                  refine lv_imul X.1 X.2.1 dX12_program_225 ?_
                  refine lv_topi (fun v_187 ev_187 => ?_)
                  have z_188 : v_187.toInt = 4 * (48 + i3_75_z) := z_mul ev_187 ti_4 z_186 (by omega) (by omega)
                  refine lv_iload X.1 X.2.1 dX12_program_226 (lv_at hl 0 rfl) ?_
                  refine lv_iadd X.1 X.2.1 dX12_program_228 ?_
                  refine lv_topi (fun v_189 ev_189 => ?_)
                  have z_190 : v_189.toInt = (4 * (48 + i3_75_z)) + i4_138_z := z_add ev_189 z_188 hz_i4_138 (by omega) (by omega)
                  refine r_iald X hw h_175 rfl (by rw [h_176]; exact z_ix z_190 (by omega) (by omega)) dX12_program_229 ?_
                  refine lv_topi (fun v_191 ev_191 => ?_)
                  have rg_192 := And.intro (z_lo v_191) (z_hi v_191)
                  have ev_191 := ev_191.symm
                  refine r_iast X hw h_175 rfl (by rw [h_176]; exact z_ix z_184 (by omega) (by omega)) dX12_program_230 (fun H locs hw => ?_)
                  obtain ⟨S_193, eS_193⟩ : ∃ T, T = sA S_169 q_173 (upd (pA S_169 q_173) (Int32.toNatClampNeg (v_183)) (v_191)) := ⟨_, rfl⟩
                  rw [← eS_193] at hw
                  have hO_194 : Ok MT S S_193 := hO_170.sA eS_193 h_175 (by decide +kernel) (uA_714 hO_170.1 h_175)
                  have h_195 : pA S_193 q_173 (Int32.toNatClampNeg (v_183)) = v_191 := tA_sAs eS_193
                  refine lv_aload_n X.1 X.2.1 dX12_program_231 rfl (lv_at hl 3 rfl) ?_
                  have t_196 : At S_193 x 12 := tAt_sA eS_193 t_172
                  obtain ⟨q_197, h_198, h_199, h_200⟩ := gQ_12_1226 hO_194.1 t_196
                  refine r_getR (g := 1226) X hw t_196 rfl 26 h_198 (by decide) rfl inn_X12_program_12 (by decide) (X.2.2.2.1 (.fieldLink RX12 79 "SilkMillModel" "than" "[I") (by decide +kernel)) rfl (gv_1226 _ _) dX12_program_232 ?_
                  refine lv_iconst (v := 4) X.1 X.2.1 dX12_program_235 (by decide) ?_
                  refine lv_bipush (v := 12) X.1 X.2.1 dX12_program_236 (by decide) ?_
                  refine lv_iload_n X.1 X.2.1 dX12_program_238 rfl (lv_at hl 4 rfl) ?_
                  refine lv_imul X.1 X.2.1 dX12_program_239 ?_
                  refine lv_topi (fun v_201 ev_201 => ?_)
                  have z_202 : v_201.toInt = 12 * a1_z := z_mul ev_201 ti_12 hz_a1 (by omega) (by omega)
                  refine lv_iload_n X.1 X.2.1 dX12_program_240 rfl (lv_at hl 1 rfl) ?_
                  refine lv_iadd X.1 X.2.1 dX12_program_241 ?_
                  refine lv_topi (fun v_203 ev_203 => ?_)
                  have z_204 : v_203.toInt = (12 * a1_z) + i3_75_z := z_add ev_203 z_202 hz_i3_75 (by omega) (by omega)
                  refine lv_imul X.1 X.2.1 dX12_program_242 ?_
                  refine lv_topi (fun v_205 ev_205 => ?_)
                  have z_206 : v_205.toInt = 4 * ((12 * a1_z) + i3_75_z) := z_mul ev_205 ti_4 z_204 (by omega) (by omega)
                  refine lv_iload X.1 X.2.1 dX12_program_243 (lv_at hl 0 rfl) ?_
                  refine lv_iadd X.1 X.2.1 dX12_program_245 ?_
                  refine lv_topi (fun v_207 ev_207 => ?_)
                  have z_208 : v_207.toInt = (4 * ((12 * a1_z) + i3_75_z)) + i4_138_z := z_add ev_207 z_206 hz_i4_138 (by omega) (by omega)
                  refine lv_aload_n X.1 X.2.1 dX12_program_246 rfl (lv_at hl 3 rfl) ?_
                  refine r_getR (g := 1226) X hw t_196 rfl 26 h_198 (by decide) rfl inn_X12_program_12 (by decide) (X.2.2.2.1 (.fieldLink RX12 79 "SilkMillModel" "than" "[I") (by decide +kernel)) rfl (gv_1226 _ _) dX12_program_247 ?_
                  refine lv_iconst (v := 4) X.1 X.2.1 dX12_program_250 (by decide) ?_
                  refine lv_bipush (v := 48) X.1 X.2.1 dX12_program_251 (by decide) ?_
                  refine lv_iload_n X.1 X.2.1 dX12_program_253 rfl (lv_at hl 1 rfl) ?_
                  refine lv_iadd X.1 X.2.1 dX12_program_254 ?_
                  refine lv_topi (fun v_209 ev_209 => ?_)
                  have z_210 : v_209.toInt = 48 + i3_75_z := z_add ev_209 ti_48 hz_i3_75 (by omega) (by omega)
                  refine lv_imul X.1 X.2.1 dX12_program_255 ?_
                  refine lv_topi (fun v_211 ev_211 => ?_)
                  have z_212 : v_211.toInt = 4 * (48 + i3_75_z) := z_mul ev_211 ti_4 z_210 (by omega) (by omega)
                  refine lv_iload X.1 X.2.1 dX12_program_256 (lv_at hl 0 rfl) ?_
                  refine lv_iadd X.1 X.2.1 dX12_program_258 ?_
                  refine lv_topi (fun v_213 ev_213 => ?_)
                  have z_214 : v_213.toInt = (4 * (48 + i3_75_z)) + i4_138_z := z_add ev_213 z_212 hz_i4_138 (by omega) (by omega)
                  refine r_iald X hw h_199 rfl (by rw [h_200]; exact z_ix z_214 (by omega) (by omega)) dX12_program_259 ?_
                  refine lv_topi (fun v_215 ev_215 => ?_)
                  have rg_216 := And.intro (z_lo v_215) (z_hi v_215)
                  have ev_215 := ev_215.symm
                  refine r_iast X hw h_199 rfl (by rw [h_200]; exact z_ix z_208 (by omega) (by omega)) dX12_program_260 (fun H locs hw => ?_)
                  obtain ⟨S_217, eS_217⟩ : ∃ T, T = sA S_193 q_197 (upd (pA S_193 q_197) (Int32.toNatClampNeg (v_207)) (v_215)) := ⟨_, rfl⟩
                  rw [← eS_217] at hw
                  have hO_218 : Ok MT S S_217 := hO_194.sA eS_217 h_199 (by decide +kernel) (uA_734 hO_194.1 h_199)
                  have h_219 : pA S_217 q_197 (Int32.toNatClampNeg (v_207)) = v_215 := tA_sAs eS_217
                  obtain ⟨x_220, ex_220⟩ : ∃ y : Int32, y = i4_138 + 1 := ⟨_, rfl⟩
                  have z_221 : x_220.toInt = i4_138_z + 1 := z_add ex_220 hz_i4_138 ti_1 (by omega) (by omega)
                  refine lv_iinc (v := x_220) (lv' := [(4, .int (x_220)), (3, .int (i3_75)), (2, .int (i2_46)), (0, .ref x), (1, .int (a1))]) X.1 X.2.1 dX12_program_261 hl (k := 0) rfl (by rw [ex_220]; rfl) (by decide) rfl (fun ls hl => ?_)
                  refine lv_goto (tgt := 165) X.1 X.2.1 dX12_program_264 (by decide) ?_
                  have t_222 : At S_217 x 12 := tAt_sA eS_217 t_196
                  exact ih_L_137 _ (by omega) _ _ _ _ (x_220) (x_220.toInt) rfl hw rfl (by omega) t_222 hO_218 (lv_sub hl [0, 1, 2, 3, 4] rfl)
              have t_223 : At S_134 x 12 := tAt_sA eS_134 t_121
              exact L_137 _ _ _ _ _ (0) (0) rfl hw ti_0 (by omega) t_223 hO_135 (lv_sub hl [0, 1, 2, 3, 4] rfl)
          have t_224 : At S_71 x 12 := tAt_sA eS_71 t_57
          exact L_74 _ _ _ _ _ (0) (0) rfl hw ti_0 (by omega) t_224 hO_72 (lv_sub hl [0, 1, 2, 3] rfl)
        · have z_b_225 := trivial
          have k_226 : v_58.toInt > 0 := z_nle rfl ti_0 c_62
          refine lv_aload_n X.1 X.2.1 dX12_program_74 rfl (lv_at hl 1 rfl) ?_
          refine r_getI (g := 1230) (x := v_58) X hw t_57 rfl 30 ev_58 (by decide) rfl inn_X12_program_12 (by decide) (X.2.2.2.1 (.fieldLink RX12 229 "SilkMillModel" "faultKind" "I") (by decide +kernel)) rfl (gv_1230 _ _) dX12_program_75 ?_
          refine lv_bipush (v := 10) X.1 X.2.1 dX12_program_78 (by decide) ?_
          refine lv_isub X.1 X.2.1 dX12_program_80 ?_
          refine lv_topi (fun v_227 ev_227 => ?_)
          have z_228 : v_227.toInt = v_58.toInt - 10 := z_sub ev_227 rfl ti_10 (by omega) (by omega)
          rw [hQQ]
          exact ret_i X hw hr hlocks (Nat.le_of_ble_eq_true rfl) (Nat.le_of_ble_eq_true rfl) ⟨hO_55, trivial⟩ dX12_program_81
      · have z_b_229 := trivial
        have k_230 : i2_46_z ≠ 0 := z_ne hz_i2_46 ti_0 c_51
        refine lv_aload_n X.1 X.2.1 dX12_program_47 rfl (lv_at hl 1 rfl) ?_
        obtain ⟨v_231, ev_231⟩ : ∃ v, pI T_47 1231 x = v := ⟨_, rfl⟩
        have rg_233 := And.intro (z_lo v_231) (z_hi v_231)
        have pz_234 : (pI T_47 1231 x).toInt = v_231.toInt := by rw [ev_231]
        refine r_getI (g := 1231) (x := v_231) X hw ha_x_L_48 rfl 31 ev_231 (by decide) rfl inn_X12_program_12 (by decide) (X.2.2.2.1 (.fieldLink RX12 223 "SilkMillModel" "kind" "I") (by decide +kernel)) rfl (gv_1231 _ _) dX12_program_48 ?_
        refine lv_if_eq (tgt := 62) X.1 X.2.1 dX12_program_51 (by decide) (fun c_235 => ?_) (fun c_235 => ?_)
        · have z_b_236 := trivial
          have k_237 : v_231.toInt = 0 := z_eq rfl ti_0 c_235
          refine lv_aload_n X.1 X.2.1 dX12_program_62 rfl (lv_at hl 1 rfl) ?_
          refine lv_iconst (v := 0) X.1 X.2.1 dX12_program_63 (by decide) ?_
          refine r_putI (v := 0) X hw ha_x_L_48 rfl 28 1228 tyX12 (by decide) rfl inn_X12_program_12 tyX12_ok nmX12 (by decide) (X.2.2.2.1 (.fieldLink RX12 211 "SilkMillModel" "taped" "I") (by decide +kernel)) rfl (Or.inl rfl) rfl rfl (Nat.le_of_ble_eq_true rfl) (st_1228 _ _) dX12_program_64 (fun H locs hw => ?_)
          obtain ⟨S_238, eS_238⟩ : ∃ T, T = sI T_47 1228 x (0) := ⟨_, rfl⟩
          rw [← eS_238] at hw
          have hO_239 : Ok MT S S_238 := hO_T_47.sI eS_238 (by decide +kernel) (uI_12_1228 hO_T_47.1 ha_x_L_48 (by rw [ti_0]; omega) (by rw [ti_0]; omega))
          have h_240 : pI S_238 1228 x = 0 := tI_sIs eS_238
          refine lv_aload_n X.1 X.2.1 dX12_program_67 rfl (lv_at hl 1 rfl) ?_
          have t_241 : At S_238 x 12 := tAt_sI eS_238 ha_x_L_48
          obtain ⟨v_242, ev_242⟩ : ∃ v, pI S_238 1230 x = v := ⟨_, rfl⟩
          have rg_244 := And.intro (z_lo v_242) (z_hi v_242)
          have pz_245 : (pI S_238 1230 x).toInt = v_242.toInt := by rw [ev_242]
          refine r_getI (g := 1230) (x := v_242) X hw t_241 rfl 30 ev_242 (by decide) rfl inn_X12_program_12 (by decide) (X.2.2.2.1 (.fieldLink RX12 229 "SilkMillModel" "faultKind" "I") (by decide +kernel)) rfl (gv_1230 _ _) dX12_program_68 ?_
          refine lv_if_le (tgt := 82) X.1 X.2.1 dX12_program_71 (by decide) (fun c_246 => ?_) (fun c_246 => ?_)
          · have z_b_247 := trivial
            have k_248 : v_242.toInt ≤ 0 := z_le rfl ti_0 c_246
            refine lv_aload_n X.1 X.2.1 dX12_program_82 rfl (lv_at hl 1 rfl) ?_
            obtain ⟨q_249, h_250, h_251, h_252⟩ := gQ_12_1220 hO_239.1 t_241
            refine r_getR (g := 1220) X hw t_241 rfl 20 h_250 (by decide) rfl inn_X12_program_12 (by decide) (X.2.2.2.1 (.fieldLink RX12 61 "SilkMillModel" "rules" "[I") (by decide +kernel)) rfl (gv_1220 _ _) dX12_program_83 ?_
            refine lv_iload_n X.1 X.2.1 dX12_program_86 rfl (lv_at hl 2 rfl) ?_
            refine lv_aload_n X.1 X.2.1 dX12_program_87 rfl (lv_at hl 1 rfl) ?_
            refine r_getR (g := 1220) X hw t_241 rfl 20 h_250 (by decide) rfl inn_X12_program_12 (by decide) (X.2.2.2.1 (.fieldLink RX12 61 "SilkMillModel" "rules" "[I") (by decide +kernel)) rfl (gv_1220 _ _) dX12_program_88 ?_
            refine lv_iconst (v := 4) X.1 X.2.1 dX12_program_91 (by decide) ?_
            refine r_iald X hw h_251 rfl (by rw [h_252]; exact z_ix ti_4 (by omega) (by omega)) dX12_program_92 ?_
            refine lv_topi (fun v_253 ev_253 => ?_)
            have z_254 := gE_614 hO_239.1 h_251 (Int32.toNatClampNeg (4)); rw [← ev_253] at z_254
            have ev_253 := ev_253.symm
            refine r_iast X hw h_251 rfl (by rw [h_252]; exact z_ix hz_a1 (by omega) (by omega)) dX12_program_93 (fun H locs hw => ?_)
            obtain ⟨S_255, eS_255⟩ : ∃ T, T = sA S_238 q_249 (upd (pA S_238 q_249) (Int32.toNatClampNeg (a1)) (v_253)) := ⟨_, rfl⟩
            rw [← eS_255] at hw
            have hO_256 : Ok MT S S_255 := hO_239.sA eS_255 h_251 (by decide +kernel) (uA_614 hO_239.1 h_251 (by omega) (by omega))
            have h_257 : pA S_255 q_249 (Int32.toNatClampNeg (a1)) = v_253 := tA_sAs eS_255
            refine lv_iconst (v := 0) X.1 X.2.1 dX12_program_94 (by decide) ?_
            refine lv_istore_n (lv' := [(3, .int 0), (2, .int (i2_46)), (0, .ref x), (1, .int (a1))]) X.1 X.2.1 dX12_program_95 rfl hl (by decide) rfl (fun ls hl => ?_)
            have L_258 : ∀ (n : Nat) (T_260 : PS) (H : Heap) (locs : List Loc) (ls : Array Slot) (i3_259 : Int32) (i3_259_z : Int), ((12 - i3_259_z).toNat = n) → (Wd G cy (AS S s.heap.size) s.heap T_260 H locs) → (i3_259.toInt = i3_259_z) → (0 ≤ i3_259_z ∧ i3_259_z ≤ 12) → (At T_260 x 12) → (Ok MT S T_260) → (lv_has ls 5 [(3, .int (i3_259)), (2, .int (i2_46)), (0, .ref x), (1, .int (a1))]) → W p l e ({ frames := 8, cells := 0, slots := 0, locals := 384 }) s m [.ref x, .int (a1)].toArray below meth c H locs 0 0 QQ (F0 m 96 ls []) := by
              intro n
              induction n using Nat.strongRecOn with
              | ind n ih_L_258 =>
              intro T_260 H locs ls i3_259 i3_259_z hn hw hz_i3_259 hr_i3_259 ha_x_L_261 hO_T_260 hl
              have rg_262 : (-2147483648) ≤ i3_259_z ∧ i3_259_z ≤ 2147483647 := by rw [← hz_i3_259]; exact ⟨z_lo _, z_hi _⟩
              refine lv_iload_n X.1 X.2.1 dX12_program_96 rfl (lv_at hl 0 rfl) ?_
              refine lv_bipush (v := 12) X.1 X.2.1 dX12_program_97 (by decide) ?_
              refine lv_icmp_ge (tgt := 273) X.1 X.2.1 dX12_program_99 (by decide) (fun c_263 => ?_) (fun c_263 => ?_)
              · have z_b_264 := trivial
                have k_265 : i3_259_z ≥ 12 := z_le ti_12 hz_i3_259 c_263
                refine lv_aload_n X.1 X.2.1 dX12_program_273 rfl (lv_at hl 2 rfl) ?_
                obtain ⟨q_266, h_267, h_268, h_269⟩ := gQ_12_1220 hO_T_260.1 ha_x_L_261
                refine r_getR (g := 1220) X hw ha_x_L_261 rfl 20 h_267 (by decide) rfl inn_X12_program_12 (by decide) (X.2.2.2.1 (.fieldLink RX12 61 "SilkMillModel" "rules" "[I") (by decide +kernel)) rfl (gv_1220 _ _) dX12_program_274 ?_
                refine lv_iload_n X.1 X.2.1 dX12_program_277 rfl (lv_at hl 3 rfl) ?_
                refine r_iald X hw h_268 rfl (by rw [h_269]; exact z_ix hz_a1 (by omega) (by omega)) dX12_program_278 ?_
                refine lv_topi (fun v_270 ev_270 => ?_)
                have z_271 := gE_614 hO_T_260.1 h_268 (Int32.toNatClampNeg (a1)); rw [← ev_270] at z_271
                have ev_270 := ev_270.symm
                rw [hQQ]
                exact ret_i X hw hr hlocks (Nat.le_of_ble_eq_true rfl) (Nat.le_of_ble_eq_true rfl) ⟨hO_T_260, trivial⟩ dX12_program_279
              · have z_b_272 := trivial
                have k_273 : i3_259_z < 12 := z_nle ti_12 hz_i3_259 c_263
                refine lv_aload_n X.1 X.2.1 dX12_program_102 rfl (lv_at hl 2 rfl) ?_
                obtain ⟨q_274, h_275, h_276, h_277⟩ := gQ_12_1221 hO_T_260.1 ha_x_L_261
                refine r_getR (g := 1221) X hw ha_x_L_261 rfl 21 h_275 (by decide) rfl inn_X12_program_12 (by decide) (X.2.2.2.1 (.fieldLink RX12 64 "SilkMillModel" "act" "[I") (by decide +kernel)) rfl (gv_1221 _ _) dX12_program_103 ?_
                refine lv_bipush (v := 12) X.1 X.2.1 dX12_program_106 (by decide) ?_
                refine lv_iload_n X.1 X.2.1 dX12_program_108 rfl (lv_at hl 3 rfl) ?_
                refine lv_imul X.1 X.2.1 dX12_program_109 ?_
                refine lv_topi (fun v_278 ev_278 => ?_)
                have z_279 : v_278.toInt = 12 * a1_z := z_mul ev_278 ti_12 hz_a1 (by omega) (by omega)
                refine lv_iload_n X.1 X.2.1 dX12_program_110 rfl (lv_at hl 0 rfl) ?_
                refine lv_iadd X.1 X.2.1 dX12_program_111 ?_
                refine lv_topi (fun v_280 ev_280 => ?_)
                have z_281 : v_280.toInt = (12 * a1_z) + i3_259_z := z_add ev_280 z_279 hz_i3_259 (by omega) (by omega)
                refine lv_aload_n X.1 X.2.1 dX12_program_112 rfl (lv_at hl 2 rfl) ?_
                refine r_getR (g := 1221) X hw ha_x_L_261 rfl 21 h_275 (by decide) rfl inn_X12_program_12 (by decide) (X.2.2.2.1 (.fieldLink RX12 64 "SilkMillModel" "act" "[I") (by decide +kernel)) rfl (gv_1221 _ _) dX12_program_113 ?_
                refine lv_bipush (v := 48) X.1 X.2.1 dX12_program_116 (by decide) ?_
                refine lv_iload_n X.1 X.2.1 dX12_program_118 rfl (lv_at hl 0 rfl) ?_
                refine lv_iadd X.1 X.2.1 dX12_program_119 ?_
                refine lv_topi (fun v_282 ev_282 => ?_)
                have z_283 : v_282.toInt = 48 + i3_259_z := z_add ev_282 ti_48 hz_i3_259 (by omega) (by omega)
                refine r_iald X hw h_276 rfl (by rw [h_277]; exact z_ix z_283 (by omega) (by omega)) dX12_program_120 ?_
                refine lv_topi (fun v_284 ev_284 => ?_)
                have rg_285 := And.intro (z_lo v_284) (z_hi v_284)
                have ev_284 := ev_284.symm
                refine r_iast X hw h_276 rfl (by rw [h_277]; exact z_ix z_281 (by omega) (by omega)) dX12_program_121 (fun H locs hw => ?_)
                obtain ⟨S_286, eS_286⟩ : ∃ T, T = sA T_260 q_274 (upd (pA T_260 q_274) (Int32.toNatClampNeg (v_280)) (v_284)) := ⟨_, rfl⟩
                rw [← eS_286] at hw
                have hO_287 : Ok MT S S_286 := hO_T_260.sA eS_286 h_276 (by decide +kernel) (uA_634 hO_T_260.1 h_276)
                have h_288 : pA S_286 q_274 (Int32.toNatClampNeg (v_280)) = v_284 := tA_sAs eS_286
                refine lv_aload_n X.1 X.2.1 dX12_program_122 rfl (lv_at hl 2 rfl) ?_
                have t_289 : At S_286 x 12 := tAt_sA eS_286 ha_x_L_261
                obtain ⟨q_290, h_291, h_292, h_293⟩ := gQ_12_1222 hO_287.1 t_289
                refine r_getR (g := 1222) X hw t_289 rfl 22 h_291 (by decide) rfl inn_X12_program_12 (by decide) (X.2.2.2.1 (.fieldLink RX12 67 "SilkMillModel" "actNumber" "[I") (by decide +kernel)) rfl (gv_1222 _ _) dX12_program_123 ?_
                refine lv_bipush (v := 12) X.1 X.2.1 dX12_program_126 (by decide) ?_
                refine lv_iload_n X.1 X.2.1 dX12_program_128 rfl (lv_at hl 3 rfl) ?_
                refine lv_imul X.1 X.2.1 dX12_program_129 ?_
                refine lv_topi (fun v_294 ev_294 => ?_)
                have z_295 : v_294.toInt = 12 * a1_z := z_mul ev_294 ti_12 hz_a1 (by omega) (by omega)
                refine lv_iload_n X.1 X.2.1 dX12_program_130 rfl (lv_at hl 0 rfl) ?_
                refine lv_iadd X.1 X.2.1 dX12_program_131 ?_
                refine lv_topi (fun v_296 ev_296 => ?_)
                have z_297 : v_296.toInt = (12 * a1_z) + i3_259_z := z_add ev_296 z_295 hz_i3_259 (by omega) (by omega)
                refine lv_aload_n X.1 X.2.1 dX12_program_132 rfl (lv_at hl 2 rfl) ?_
                refine r_getR (g := 1222) X hw t_289 rfl 22 h_291 (by decide) rfl inn_X12_program_12 (by decide) (X.2.2.2.1 (.fieldLink RX12 67 "SilkMillModel" "actNumber" "[I") (by decide +kernel)) rfl (gv_1222 _ _) dX12_program_133 ?_
                refine lv_bipush (v := 48) X.1 X.2.1 dX12_program_136 (by decide) ?_
                refine lv_iload_n X.1 X.2.1 dX12_program_138 rfl (lv_at hl 0 rfl) ?_
                refine lv_iadd X.1 X.2.1 dX12_program_139 ?_
                refine lv_topi (fun v_298 ev_298 => ?_)
                have z_299 : v_298.toInt = 48 + i3_259_z := z_add ev_298 ti_48 hz_i3_259 (by omega) (by omega)
                refine r_iald X hw h_292 rfl (by rw [h_293]; exact z_ix z_299 (by omega) (by omega)) dX12_program_140 ?_
                refine lv_topi (fun v_300 ev_300 => ?_)
                have rg_301 := And.intro (z_lo v_300) (z_hi v_300)
                have ev_300 := ev_300.symm
                refine r_iast X hw h_292 rfl (by rw [h_293]; exact z_ix z_297 (by omega) (by omega)) dX12_program_141 (fun H locs hw => ?_)
                obtain ⟨S_302, eS_302⟩ : ∃ T, T = sA S_286 q_290 (upd (pA S_286 q_290) (Int32.toNatClampNeg (v_296)) (v_300)) := ⟨_, rfl⟩
                rw [← eS_302] at hw
                have hO_303 : Ok MT S S_302 := hO_287.sA eS_302 h_292 (by decide +kernel) (uA_654 hO_287.1 h_292)
                have h_304 : pA S_302 q_290 (Int32.toNatClampNeg (v_296)) = v_300 := tA_sAs eS_302
                refine lv_aload_n X.1 X.2.1 dX12_program_142 rfl (lv_at hl 2 rfl) ?_
                have t_305 : At S_302 x 12 := tAt_sA eS_302 t_289
                obtain ⟨q_306, h_307, h_308, h_309⟩ := gQ_12_1223 hO_303.1 t_305
                refine r_getR (g := 1223) X hw t_305 rfl 23 h_307 (by decide) rfl inn_X12_program_12 (by decide) (X.2.2.2.1 (.fieldLink RX12 70 "SilkMillModel" "conditions" "[I") (by decide +kernel)) rfl (gv_1223 _ _) dX12_program_143 ?_
                refine lv_bipush (v := 12) X.1 X.2.1 dX12_program_146 (by decide) ?_
                refine lv_iload_n X.1 X.2.1 dX12_program_148 rfl (lv_at hl 3 rfl) ?_
                refine lv_imul X.1 X.2.1 dX12_program_149 ?_
                refine lv_topi (fun v_310 ev_310 => ?_)
                have z_311 : v_310.toInt = 12 * a1_z := z_mul ev_310 ti_12 hz_a1 (by omega) (by omega)
                refine lv_iload_n X.1 X.2.1 dX12_program_150 rfl (lv_at hl 0 rfl) ?_
                refine lv_iadd X.1 X.2.1 dX12_program_151 ?_
                refine lv_topi (fun v_312 ev_312 => ?_)
                have z_313 : v_312.toInt = (12 * a1_z) + i3_259_z := z_add ev_312 z_311 hz_i3_259 (by omega) (by omega)
                refine lv_aload_n X.1 X.2.1 dX12_program_152 rfl (lv_at hl 2 rfl) ?_
                refine r_getR (g := 1223) X hw t_305 rfl 23 h_307 (by decide) rfl inn_X12_program_12 (by decide) (X.2.2.2.1 (.fieldLink RX12 70 "SilkMillModel" "conditions" "[I") (by decide +kernel)) rfl (gv_1223 _ _) dX12_program_153 ?_
                refine lv_bipush (v := 48) X.1 X.2.1 dX12_program_156 (by decide) ?_
                refine lv_iload_n X.1 X.2.1 dX12_program_158 rfl (lv_at hl 0 rfl) ?_
                refine lv_iadd X.1 X.2.1 dX12_program_159 ?_
                refine lv_topi (fun v_314 ev_314 => ?_)
                have z_315 : v_314.toInt = 48 + i3_259_z := z_add ev_314 ti_48 hz_i3_259 (by omega) (by omega)
                refine r_iald X hw h_308 rfl (by rw [h_309]; exact z_ix z_315 (by omega) (by omega)) dX12_program_160 ?_
                refine lv_topi (fun v_316 ev_316 => ?_)
                have z_317 := gE_674 hO_303.1 h_308 (Int32.toNatClampNeg (v_314)); rw [← ev_316] at z_317
                have ev_316 := ev_316.symm
                refine r_iast X hw h_308 rfl (by rw [h_309]; exact z_ix z_313 (by omega) (by omega)) dX12_program_161 (fun H locs hw => ?_)
                obtain ⟨S_318, eS_318⟩ : ∃ T, T = sA S_302 q_306 (upd (pA S_302 q_306) (Int32.toNatClampNeg (v_312)) (v_316)) := ⟨_, rfl⟩
                rw [← eS_318] at hw
                have hO_319 : Ok MT S S_318 := hO_303.sA eS_318 h_308 (by decide +kernel) (uA_674 hO_303.1 h_308 (by omega) (by omega))
                have h_320 : pA S_318 q_306 (Int32.toNatClampNeg (v_312)) = v_316 := tA_sAs eS_318
                refine lv_iconst (v := 0) X.1 X.2.1 dX12_program_162 (by decide) ?_
                refine lv_istore (lv' := [(4, .int 0), (3, .int (i3_259)), (2, .int (i2_46)), (0, .ref x), (1, .int (a1))]) X.1 X.2.1 dX12_program_163 hl (by decide) rfl (fun ls hl => ?_)
                have L_321 : ∀ (n : Nat) (T_323 : PS) (H : Heap) (locs : List Loc) (ls : Array Slot) (i4_322 : Int32) (i4_322_z : Int), ((4 - i4_322_z).toNat = n) → (Wd G cy (AS S s.heap.size) s.heap T_323 H locs) → (i4_322.toInt = i4_322_z) → (0 ≤ i4_322_z ∧ i4_322_z ≤ 4) → (At T_323 x 12) → (Ok MT S T_323) → (lv_has ls 5 [(4, .int (i4_322)), (3, .int (i3_259)), (2, .int (i2_46)), (0, .ref x), (1, .int (a1))]) → W p l e ({ frames := 8, cells := 0, slots := 0, locals := 384 }) s m [.ref x, .int (a1)].toArray below meth c H locs 0 0 QQ (F0 m 165 ls []) := by
                  intro n
                  induction n using Nat.strongRecOn with
                  | ind n ih_L_321 =>
                  intro T_323 H locs ls i4_322 i4_322_z hn hw hz_i4_322 hr_i4_322 ha_x_L_324 hO_T_323 hl
                  have rg_325 : (-2147483648) ≤ i4_322_z ∧ i4_322_z ≤ 2147483647 := by rw [← hz_i4_322]; exact ⟨z_lo _, z_hi _⟩
                  refine lv_iload X.1 X.2.1 dX12_program_165 (lv_at hl 0 rfl) ?_
                  refine lv_iconst (v := 4) X.1 X.2.1 dX12_program_167 (by decide) ?_
                  refine lv_icmp_ge (tgt := 267) X.1 X.2.1 dX12_program_168 (by decide) (fun c_326 => ?_) (fun c_326 => ?_)
                  · have z_b_327 := trivial
                    have k_328 : i4_322_z ≥ 4 := z_le ti_4 hz_i4_322 c_326
                    obtain ⟨x_329, ex_329⟩ : ∃ y : Int32, y = i3_259 + 1 := ⟨_, rfl⟩
                    have z_330 : x_329.toInt = i3_259_z + 1 := z_add ex_329 hz_i3_259 ti_1 (by omega) (by omega)
                    refine lv_iinc (v := x_329) (lv' := [(3, .int (x_329)), (4, .int (i4_322)), (2, .int (i2_46)), (0, .ref x), (1, .int (a1))]) X.1 X.2.1 dX12_program_267 hl (k := 1) rfl (by rw [ex_329]; rfl) (by decide) rfl (fun ls hl => ?_)
                    refine lv_goto (tgt := 96) X.1 X.2.1 dX12_program_270 (by decide) ?_
                    exact ih_L_258 _ (by omega) _ _ _ _ (x_329) (x_329.toInt) rfl hw rfl (by omega) ha_x_L_324 hO_T_323 (lv_sub hl [0, 2, 3, 4] rfl)
                  · have z_b_331 := trivial
                    have k_332 : i4_322_z < 4 := z_nle ti_4 hz_i4_322 c_326
                    refine lv_aload_n X.1 X.2.1 dX12_program_171 rfl (lv_at hl 3 rfl) ?_
                    obtain ⟨q_333, h_334, h_335, h_336⟩ := gQ_12_1224 hO_T_323.1 ha_x_L_324
                    refine r_getR (g := 1224) X hw ha_x_L_324 rfl 24 h_334 (by decide) rfl inn_X12_program_12 (by decide) (X.2.2.2.1 (.fieldLink RX12 73 "SilkMillModel" "field" "[I") (by decide +kernel)) rfl (gv_1224 _ _) dX12_program_172 ?_
                    refine lv_iconst (v := 4) X.1 X.2.1 dX12_program_175 (by decide) ?_
                    refine lv_bipush (v := 12) X.1 X.2.1 dX12_program_176 (by decide) ?_
                    refine lv_iload_n X.1 X.2.1 dX12_program_178 rfl (lv_at hl 4 rfl) ?_
                    refine lv_imul X.1 X.2.1 dX12_program_179 ?_
                    refine lv_topi (fun v_337 ev_337 => ?_)
                    have z_338 : v_337.toInt = 12 * a1_z := z_mul ev_337 ti_12 hz_a1 (by omega) (by omega)
                    refine lv_iload_n X.1 X.2.1 dX12_program_180 rfl (lv_at hl 1 rfl) ?_
                    refine lv_iadd X.1 X.2.1 dX12_program_181 ?_
                    refine lv_topi (fun v_339 ev_339 => ?_)
                    have z_340 : v_339.toInt = (12 * a1_z) + i3_259_z := z_add ev_339 z_338 hz_i3_259 (by omega) (by omega)
                    refine lv_imul X.1 X.2.1 dX12_program_182 ?_
                    refine lv_topi (fun v_341 ev_341 => ?_)
                    have z_342 : v_341.toInt = 4 * ((12 * a1_z) + i3_259_z) := z_mul ev_341 ti_4 z_340 (by omega) (by omega)
                    refine lv_iload X.1 X.2.1 dX12_program_183 (lv_at hl 0 rfl) ?_
                    refine lv_iadd X.1 X.2.1 dX12_program_185 ?_
                    refine lv_topi (fun v_343 ev_343 => ?_)
                    have z_344 : v_343.toInt = (4 * ((12 * a1_z) + i3_259_z)) + i4_322_z := z_add ev_343 z_342 hz_i4_322 (by omega) (by omega)
                    refine lv_aload_n X.1 X.2.1 dX12_program_186 rfl (lv_at hl 3 rfl) ?_
                    refine r_getR (g := 1224) X hw ha_x_L_324 rfl 24 h_334 (by decide) rfl inn_X12_program_12 (by decide) (X.2.2.2.1 (.fieldLink RX12 73 "SilkMillModel" "field" "[I") (by decide +kernel)) rfl (gv_1224 _ _) dX12_program_187 ?_
                    refine lv_iconst (v := 4) X.1 X.2.1 dX12_program_190 (by decide) ?_
                    refine lv_bipush (v := 48) X.1 X.2.1 dX12_program_191 (by decide) ?_
                    refine lv_iload_n X.1 X.2.1 dX12_program_193 rfl (lv_at hl 1 rfl) ?_
                    refine lv_iadd X.1 X.2.1 dX12_program_194 ?_
                    refine lv_topi (fun v_345 ev_345 => ?_)
                    have z_346 : v_345.toInt = 48 + i3_259_z := z_add ev_345 ti_48 hz_i3_259 (by omega) (by omega)
                    refine lv_imul X.1 X.2.1 dX12_program_195 ?_
                    refine lv_topi (fun v_347 ev_347 => ?_)
                    have z_348 : v_347.toInt = 4 * (48 + i3_259_z) := z_mul ev_347 ti_4 z_346 (by omega) (by omega)
                    refine lv_iload X.1 X.2.1 dX12_program_196 (lv_at hl 0 rfl) ?_
                    refine lv_iadd X.1 X.2.1 dX12_program_198 ?_
                    refine lv_topi (fun v_349 ev_349 => ?_)
                    have z_350 : v_349.toInt = (4 * (48 + i3_259_z)) + i4_322_z := z_add ev_349 z_348 hz_i4_322 (by omega) (by omega)
                    refine r_iald X hw h_335 rfl (by rw [h_336]; exact z_ix z_350 (by omega) (by omega)) dX12_program_199 ?_
                    refine lv_topi (fun v_351 ev_351 => ?_)
                    have rg_352 := And.intro (z_lo v_351) (z_hi v_351)
                    have ev_351 := ev_351.symm
                    refine r_iast X hw h_335 rfl (by rw [h_336]; exact z_ix z_344 (by omega) (by omega)) dX12_program_200 (fun H locs hw => ?_)
                    obtain ⟨S_353, eS_353⟩ : ∃ T, T = sA T_323 q_333 (upd (pA T_323 q_333) (Int32.toNatClampNeg (v_343)) (v_351)) := ⟨_, rfl⟩
                    rw [← eS_353] at hw
                    have hO_354 : Ok MT S S_353 := hO_T_323.sA eS_353 h_335 (by decide +kernel) (uA_694 hO_T_323.1 h_335)
                    have h_355 : pA S_353 q_333 (Int32.toNatClampNeg (v_343)) = v_351 := tA_sAs eS_353
                    refine lv_aload_n X.1 X.2.1 dX12_program_201 rfl (lv_at hl 3 rfl) ?_
                    have t_356 : At S_353 x 12 := tAt_sA eS_353 ha_x_L_324
                    obtain ⟨q_357, h_358, h_359, h_360⟩ := gQ_12_1225 hO_354.1 t_356
                    refine r_getR (g := 1225) X hw t_356 rfl 25 h_358 (by decide) rfl inn_X12_program_12 (by decide) (X.2.2.2.1 (.fieldLink RX12 76 "SilkMillModel" "rel" "[I") (by decide +kernel)) rfl (gv_1225 _ _) dX12_program_202 ?_
                    refine lv_iconst (v := 4) X.1 X.2.1 dX12_program_205 (by decide) ?_
                    refine lv_bipush (v := 12) X.1 X.2.1 dX12_program_206 (by decide) ?_
                    refine lv_iload_n X.1 X.2.1 dX12_program_208 rfl (lv_at hl 4 rfl) ?_
                    refine lv_imul X.1 X.2.1 dX12_program_209 ?_
                    refine lv_topi (fun v_361 ev_361 => ?_)
                    have z_362 : v_361.toInt = 12 * a1_z := z_mul ev_361 ti_12 hz_a1 (by omega) (by omega)
                    refine lv_iload_n X.1 X.2.1 dX12_program_210 rfl (lv_at hl 1 rfl) ?_
                    refine lv_iadd X.1 X.2.1 dX12_program_211 ?_
                    refine lv_topi (fun v_363 ev_363 => ?_)
                    have z_364 : v_363.toInt = (12 * a1_z) + i3_259_z := z_add ev_363 z_362 hz_i3_259 (by omega) (by omega)
                    refine lv_imul X.1 X.2.1 dX12_program_212 ?_
                    refine lv_topi (fun v_365 ev_365 => ?_)
                    have z_366 : v_365.toInt = 4 * ((12 * a1_z) + i3_259_z) := z_mul ev_365 ti_4 z_364 (by omega) (by omega)
                    refine lv_iload X.1 X.2.1 dX12_program_213 (lv_at hl 0 rfl) ?_
                    refine lv_iadd X.1 X.2.1 dX12_program_215 ?_
                    refine lv_topi (fun v_367 ev_367 => ?_)
                    have z_368 : v_367.toInt = (4 * ((12 * a1_z) + i3_259_z)) + i4_322_z := z_add ev_367 z_366 hz_i4_322 (by omega) (by omega)
                    refine lv_aload_n X.1 X.2.1 dX12_program_216 rfl (lv_at hl 3 rfl) ?_
                    refine r_getR (g := 1225) X hw t_356 rfl 25 h_358 (by decide) rfl inn_X12_program_12 (by decide) (X.2.2.2.1 (.fieldLink RX12 76 "SilkMillModel" "rel" "[I") (by decide +kernel)) rfl (gv_1225 _ _) dX12_program_217 ?_
                    refine lv_iconst (v := 4) X.1 X.2.1 dX12_program_220 (by decide) ?_
                    refine lv_bipush (v := 48) X.1 X.2.1 dX12_program_221 (by decide) ?_
                    refine lv_iload_n X.1 X.2.1 dX12_program_223 rfl (lv_at hl 1 rfl) ?_
                    refine lv_iadd X.1 X.2.1 dX12_program_224 ?_
                    refine lv_topi (fun v_369 ev_369 => ?_)
                    have z_370 : v_369.toInt = 48 + i3_259_z := z_add ev_369 ti_48 hz_i3_259 (by omega) (by omega)
                    refine lv_imul X.1 X.2.1 dX12_program_225 ?_
                    refine lv_topi (fun v_371 ev_371 => ?_)
                    have z_372 : v_371.toInt = 4 * (48 + i3_259_z) := z_mul ev_371 ti_4 z_370 (by omega) (by omega)
                    refine lv_iload X.1 X.2.1 dX12_program_226 (lv_at hl 0 rfl) ?_
                    refine lv_iadd X.1 X.2.1 dX12_program_228 ?_
                    refine lv_topi (fun v_373 ev_373 => ?_)
                    have z_374 : v_373.toInt = (4 * (48 + i3_259_z)) + i4_322_z := z_add ev_373 z_372 hz_i4_322 (by omega) (by omega)
                    refine r_iald X hw h_359 rfl (by rw [h_360]; exact z_ix z_374 (by omega) (by omega)) dX12_program_229 ?_
                    refine lv_topi (fun v_375 ev_375 => ?_)
                    have rg_376 := And.intro (z_lo v_375) (z_hi v_375)
                    have ev_375 := ev_375.symm
                    refine r_iast X hw h_359 rfl (by rw [h_360]; exact z_ix z_368 (by omega) (by omega)) dX12_program_230 (fun H locs hw => ?_)
                    obtain ⟨S_377, eS_377⟩ : ∃ T, T = sA S_353 q_357 (upd (pA S_353 q_357) (Int32.toNatClampNeg (v_367)) (v_375)) := ⟨_, rfl⟩
                    rw [← eS_377] at hw
                    have hO_378 : Ok MT S S_377 := hO_354.sA eS_377 h_359 (by decide +kernel) (uA_714 hO_354.1 h_359)
                    have h_379 : pA S_377 q_357 (Int32.toNatClampNeg (v_367)) = v_375 := tA_sAs eS_377
                    refine lv_aload_n X.1 X.2.1 dX12_program_231 rfl (lv_at hl 3 rfl) ?_
                    have t_380 : At S_377 x 12 := tAt_sA eS_377 t_356
                    obtain ⟨q_381, h_382, h_383, h_384⟩ := gQ_12_1226 hO_378.1 t_380
                    refine r_getR (g := 1226) X hw t_380 rfl 26 h_382 (by decide) rfl inn_X12_program_12 (by decide) (X.2.2.2.1 (.fieldLink RX12 79 "SilkMillModel" "than" "[I") (by decide +kernel)) rfl (gv_1226 _ _) dX12_program_232 ?_
                    refine lv_iconst (v := 4) X.1 X.2.1 dX12_program_235 (by decide) ?_
                    refine lv_bipush (v := 12) X.1 X.2.1 dX12_program_236 (by decide) ?_
                    refine lv_iload_n X.1 X.2.1 dX12_program_238 rfl (lv_at hl 4 rfl) ?_
                    refine lv_imul X.1 X.2.1 dX12_program_239 ?_
                    refine lv_topi (fun v_385 ev_385 => ?_)
                    have z_386 : v_385.toInt = 12 * a1_z := z_mul ev_385 ti_12 hz_a1 (by omega) (by omega)
                    refine lv_iload_n X.1 X.2.1 dX12_program_240 rfl (lv_at hl 1 rfl) ?_
                    refine lv_iadd X.1 X.2.1 dX12_program_241 ?_
                    refine lv_topi (fun v_387 ev_387 => ?_)
                    have z_388 : v_387.toInt = (12 * a1_z) + i3_259_z := z_add ev_387 z_386 hz_i3_259 (by omega) (by omega)
                    refine lv_imul X.1 X.2.1 dX12_program_242 ?_
                    refine lv_topi (fun v_389 ev_389 => ?_)
                    have z_390 : v_389.toInt = 4 * ((12 * a1_z) + i3_259_z) := z_mul ev_389 ti_4 z_388 (by omega) (by omega)
                    refine lv_iload X.1 X.2.1 dX12_program_243 (lv_at hl 0 rfl) ?_
                    refine lv_iadd X.1 X.2.1 dX12_program_245 ?_
                    refine lv_topi (fun v_391 ev_391 => ?_)
                    have z_392 : v_391.toInt = (4 * ((12 * a1_z) + i3_259_z)) + i4_322_z := z_add ev_391 z_390 hz_i4_322 (by omega) (by omega)
                    refine lv_aload_n X.1 X.2.1 dX12_program_246 rfl (lv_at hl 3 rfl) ?_
                    refine r_getR (g := 1226) X hw t_380 rfl 26 h_382 (by decide) rfl inn_X12_program_12 (by decide) (X.2.2.2.1 (.fieldLink RX12 79 "SilkMillModel" "than" "[I") (by decide +kernel)) rfl (gv_1226 _ _) dX12_program_247 ?_
                    refine lv_iconst (v := 4) X.1 X.2.1 dX12_program_250 (by decide) ?_
                    refine lv_bipush (v := 48) X.1 X.2.1 dX12_program_251 (by decide) ?_
                    refine lv_iload_n X.1 X.2.1 dX12_program_253 rfl (lv_at hl 1 rfl) ?_
                    refine lv_iadd X.1 X.2.1 dX12_program_254 ?_
                    refine lv_topi (fun v_393 ev_393 => ?_)
                    have z_394 : v_393.toInt = 48 + i3_259_z := z_add ev_393 ti_48 hz_i3_259 (by omega) (by omega)
                    refine lv_imul X.1 X.2.1 dX12_program_255 ?_
                    refine lv_topi (fun v_395 ev_395 => ?_)
                    have z_396 : v_395.toInt = 4 * (48 + i3_259_z) := z_mul ev_395 ti_4 z_394 (by omega) (by omega)
                    refine lv_iload X.1 X.2.1 dX12_program_256 (lv_at hl 0 rfl) ?_
                    refine lv_iadd X.1 X.2.1 dX12_program_258 ?_
                    refine lv_topi (fun v_397 ev_397 => ?_)
                    have z_398 : v_397.toInt = (4 * (48 + i3_259_z)) + i4_322_z := z_add ev_397 z_396 hz_i4_322 (by omega) (by omega)
                    refine r_iald X hw h_383 rfl (by rw [h_384]; exact z_ix z_398 (by omega) (by omega)) dX12_program_259 ?_
                    refine lv_topi (fun v_399 ev_399 => ?_)
                    have rg_400 := And.intro (z_lo v_399) (z_hi v_399)
                    have ev_399 := ev_399.symm
                    refine r_iast X hw h_383 rfl (by rw [h_384]; exact z_ix z_392 (by omega) (by omega)) dX12_program_260 (fun H locs hw => ?_)
                    obtain ⟨S_401, eS_401⟩ : ∃ T, T = sA S_377 q_381 (upd (pA S_377 q_381) (Int32.toNatClampNeg (v_391)) (v_399)) := ⟨_, rfl⟩
                    rw [← eS_401] at hw
                    have hO_402 : Ok MT S S_401 := hO_378.sA eS_401 h_383 (by decide +kernel) (uA_734 hO_378.1 h_383)
                    have h_403 : pA S_401 q_381 (Int32.toNatClampNeg (v_391)) = v_399 := tA_sAs eS_401
                    obtain ⟨x_404, ex_404⟩ : ∃ y : Int32, y = i4_322 + 1 := ⟨_, rfl⟩
                    have z_405 : x_404.toInt = i4_322_z + 1 := z_add ex_404 hz_i4_322 ti_1 (by omega) (by omega)
                    refine lv_iinc (v := x_404) (lv' := [(4, .int (x_404)), (3, .int (i3_259)), (2, .int (i2_46)), (0, .ref x), (1, .int (a1))]) X.1 X.2.1 dX12_program_261 hl (k := 0) rfl (by rw [ex_404]; rfl) (by decide) rfl (fun ls hl => ?_)
                    refine lv_goto (tgt := 165) X.1 X.2.1 dX12_program_264 (by decide) ?_
                    have t_406 : At S_401 x 12 := tAt_sA eS_401 t_380
                    exact ih_L_321 _ (by omega) _ _ _ _ (x_404) (x_404.toInt) rfl hw rfl (by omega) t_406 hO_402 (lv_sub hl [0, 1, 2, 3, 4] rfl)
                have t_407 : At S_318 x 12 := tAt_sA eS_318 t_305
                exact L_321 _ _ _ _ _ (0) (0) rfl hw ti_0 (by omega) t_407 hO_319 (lv_sub hl [0, 1, 2, 3, 4] rfl)
            have t_408 : At S_255 x 12 := tAt_sA eS_255 t_241
            exact L_258 _ _ _ _ _ (0) (0) rfl hw ti_0 (by omega) t_408 hO_256 (lv_sub hl [0, 1, 2, 3] rfl)
          · have z_b_409 := trivial
            have k_410 : v_242.toInt > 0 := z_nle rfl ti_0 c_246
            refine lv_aload_n X.1 X.2.1 dX12_program_74 rfl (lv_at hl 1 rfl) ?_
            refine r_getI (g := 1230) (x := v_242) X hw t_241 rfl 30 ev_242 (by decide) rfl inn_X12_program_12 (by decide) (X.2.2.2.1 (.fieldLink RX12 229 "SilkMillModel" "faultKind" "I") (by decide +kernel)) rfl (gv_1230 _ _) dX12_program_75 ?_
            refine lv_bipush (v := 10) X.1 X.2.1 dX12_program_78 (by decide) ?_
            refine lv_isub X.1 X.2.1 dX12_program_80 ?_
            refine lv_topi (fun v_411 ev_411 => ?_)
            have z_412 : v_411.toInt = v_242.toInt - 10 := z_sub ev_411 rfl ti_10 (by omega) (by omega)
            rw [hQQ]
            exact ret_i X hw hr hlocks (Nat.le_of_ble_eq_true rfl) (Nat.le_of_ble_eq_true rfl) ⟨hO_239, trivial⟩ dX12_program_81
        · have z_b_413 := trivial
          have k_414 : v_231.toInt ≠ 0 := z_ne rfl ti_0 c_235
          refine lv_aload_n X.1 X.2.1 dX12_program_54 rfl (lv_at hl 1 rfl) ?_
          refine k_i (rm := { frames := 7, cells := 0, slots := 0, locals := 336 }) (av := [.ref x]) X hw (va_runV (As := []) (rest := []) (cfix X) (k_X12_rule l G cy κ T_47 _ x hO_T_47.1 ha_x_L_48) (cwV 0 X.2.2.2.1 gX12_program_X12_rule rfl rfl rfl (by decide +kernel) ⟨Nat.le_of_ble_eq_true rfl, Nat.le_of_ble_eq_true rfl⟩) (pre_V X hw _ ha_x_L_48 rfl (by decide) rfl) rfl rfl hl.1 rfl (lv_room (Nat.le_of_ble_eq_true rfl)) dX12_program_55 ⟨Nat.le_of_ble_eq_true rfl, Nat.le_of_ble_eq_true rfl⟩) 0 0 (Nat.le_of_ble_eq_true rfl) (Nat.le_of_ble_eq_true rfl) (fun rr_415 S_416 H locs hp hw hfr hnw => ?_)
          obtain ⟨hk_417, hp⟩ := hp
          have hO_418 : Ok MT S S_416 := hO_T_47.call hk_417 (by decide +kernel)
          rcases hp with ⟨f_419, er_420⟩ | ⟨f_419, er_420⟩ <;> subst er_420
          · have z_b_421 := trivial
            refine lv_istore_n (lv' := [(2, .int 1), (0, .ref x), (1, .int (a1))]) X.1 X.2.1 dX12_program_58 rfl hl (by decide) rfl (fun ls hl => ?_)
            refine lv_goto (tgt := 43) X.1 X.2.1 dX12_program_59 (by decide) ?_
            have t_422 : At S_416 x 12 := hk_417.fr.at ha_x_L_48
            exact ih_L_45 _ (by omega) _ _ _ _ (1) (1) rfl hw ti_1 (by omega) t_422 hO_418 (by omega) (lv_sub hl [0, 1, 2] rfl)
          · have z_b_423 := trivial
            refine lv_istore_n (lv' := [(2, .int 0), (0, .ref x), (1, .int (a1))]) X.1 X.2.1 dX12_program_58 rfl hl (by decide) rfl (fun ls hl => ?_)
            refine lv_goto (tgt := 43) X.1 X.2.1 dX12_program_59 (by decide) ?_
            have t_424 : At S_416 x 12 := hk_417.fr.at ha_x_L_48
            exact ih_L_45 _ (by omega) _ _ _ _ (0) (0) rfl hw ti_0 (by omega) t_424 hO_418 (by omega) (lv_sub hl [0, 1, 2] rfl)
    have t_425 : At S_36 x 12 := hk_37.fr.at t_34
    exact L_45 _ _ _ _ _ (1) (1) rfl hw ti_1 (by omega) t_425 hO_38 (by omega) (lv_sub hl [0, 1, 2] rfl)
  · have z_b_426 := trivial
    refine lv_if_ne (tgt := 15) X.1 X.2.1 dX12_program_10 (by decide) (fun c_427 => absurd c_427 (by decide)) (fun c_427 => ?_)
    refine lv_iconst (v := (-1)) X.1 X.2.1 dX12_program_13 (by decide) ?_
    rw [hQQ]
    exact ret_i X hw hr hlocks (Nat.le_of_ble_eq_true rfl) (Nat.le_of_ble_eq_true rfl) ⟨hO_2, trivial⟩ dX12_program_14
