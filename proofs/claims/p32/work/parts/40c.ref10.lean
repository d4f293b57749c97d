set_option maxRecDepth 20000 in
theorem ggX12_count_X12_silk : GoodIn wsX12_count wsX12_silk := goodIn_h _ [18, 0, 0, 0, 0, 0, 0, 0, 0, 0, 0, 0, 0, 0, 0, 0, 0, 0, 0, 0, 0, 14, 0, 0, 0, 0, 0, 0, 0, 0, 0, 0, 0, 0, 0, 0, 0, 0, 0, 0, 0, 0, 0, 0, 0, 0, 0, 0, 0, 0, 0, 0, 0, 0, 0, 0, 0, 0, 0, 0, 0, 0, 0, 0, 0, 0, 0, 0, 0, 0, 0, 0, 0, 0, 0, 0, 0, 0, 0, 0, 0, 0, 0, 0, 0, 0, 0] [1, 2, 3, 4, 0, 5, 6, 7, 8, 9, 10, 11, 12, 13, 14, 15, 16, 17, 18, 19, 20, 21, 22, 23, 24, 25, 26, 27, 28, 29, 30, 31, 32, 33, 34, 35, 36, 37, 38, 39, 40, 41, 42, 43, 44, 45, 46, 47, 48, 49, 50, 51, 52, 53, 54, 55, 56, 57, 58, 59, 60, 61, 62, 63, 64, 65, 66, 67, 68, 69, 70, 71, 72, 73, 74, 75, 76, 77, 78, 79, 80, 81, 82, 83, 84, 85, 86] (by decide +kernel) (by decide +kernel)
set_option maxRecDepth 20000 in
theorem gX12_count_X12_silk : GoodIn wsX12_count (wsV RX12 190 RX12 yX12_silk wsX12_silk) := goodIn_app (goodIn_of _ (by decide +kernel)) ggX12_count_X12_silk
set_option maxRecDepth 20000 in
theorem ggX12_count_X12_weight : GoodIn wsX12_count wsX12_weight := goodIn_h _ [18, 1, 0, 0, 0, 0, 0, 0, 0, 0, 0, 0, 0, 0, 0, 0, 0, 0, 0, 0, 3, 0, 0, 0, 0, 0, 0, 4, 0, 0, 0, 0, 0, 0, 0, 0, 0, 0, 0, 0, 0, 0, 0, 0, 0, 0, 0, 0, 0, 0, 0, 0, 0, 0, 0, 0, 0, 0, 0, 0, 0, 0, 0, 0, 0, 0, 0, 0, 0, 0, 0, 0, 0, 0, 0, 0, 0, 0, 0, 0, 0, 0, 0, 0, 0, 0, 0, 0, 0, 0, 0, 0, 0] [20, 21, 22, 23, 0, 24, 25, 26, 1, 2, 3, 4, 5, 6, 7, 8, 9, 10, 11, 12, 13, 14, 15, 16, 17, 18, 19, 27, 28, 29, 30, 31, 32, 33, 34, 35, 36, 37, 38, 39, 40, 41, 42, 43, 44, 45, 46, 47, 48, 49, 50, 51, 52, 53, 54, 55, 56, 57, 58, 59, 60, 61, 62, 63, 64, 65, 66, 67, 68, 69, 70, 71, 72, 73, 74, 75, 76, 77, 78, 79, 80, 81, 82, 83, 84, 85, 86, 87, 88, 89, 90, 91, 92] (by decide +kernel) (by decide +kernel)
set_option maxRecDepth 20000 in
theorem gX12_count_X12_weight : GoodIn wsX12_count (wsV RX12 299 RX12 yX12_weight wsX12_weight) := goodIn_app (goodIn_of _ (by decide +kernel)) ggX12_count_X12_weight
set_option maxRecDepth 20000 in
theorem ggX12_count_X12_growing : GoodIn wsX12_count wsX12_growing := goodIn_h _ [52] [0] (by decide +kernel) (by decide +kernel)
set_option maxRecDepth 20000 in
theorem gX12_count_X12_growing : GoodIn wsX12_count (wsV RX12 296 RX12 yX12_growing wsX12_growing) := goodIn_app (goodIn_of _ (by decide +kernel)) ggX12_count_X12_growing
set_option maxRecDepth 20000 in
theorem ggX12_count_X12_lengthOf : GoodIn wsX12_count wsX12_lengthOf := goodIn_h _ [18, 5, 2, 0, 0, 0, 0, 0, 0, 3, 0, 14, 0, 0, 0, 0, 0, 0, 0, 0, 0, 0, 0, 0, 0, 0, 0, 0, 0, 0, 0, 0, 0, 0, 0, 0, 0, 0, 0, 0, 0, 0, 0, 0, 0, 0, 0, 0, 0, 0, 0, 0, 0, 0, 0, 0, 0, 0, 0, 0, 0, 0, 0, 0, 0, 0, 0, 0, 0, 0, 0, 0, 0, 0, 0, 0, 0] [9, 10, 1, 2, 3, 0, 4, 5, 6, 7, 8, 11, 12, 13, 14, 15, 16, 17, 18, 19, 20, 21, 22, 23, 24, 25, 26, 27, 28, 29, 30, 31, 32, 33, 34, 35, 36, 37, 38, 39, 40, 41, 42, 43, 44, 45, 46, 47, 48, 49, 50, 51, 52, 53, 54, 55, 56, 57, 58, 59, 60, 61, 62, 63, 64, 65, 66, 67, 68, 69, 70, 71, 72, 73, 74, 75, 76] (by decide +kernel) (by decide +kernel)
set_option maxRecDepth 20000 in
theorem gX12_count_X12_lengthOf : GoodIn wsX12_count (wsV RX12 180 RX12 yX12_lengthOf wsX12_lengthOf) := goodIn_app (goodIn_of _ (by decide +kernel)) ggX12_count_X12_lengthOf
theorem dX12_count_0 : decode cX12_count 0 = .ok (.aload_n 0, 1) := by decide +kernel
theorem dX12_count_1 : decode cX12_count 1 = .ok (.iconst 0, 1) := by decide +kernel
theorem dX12_count_2 : decode cX12_count 2 = .ok (.putfield 161, 3) := by decide +kernel
theorem dX12_count_5 : decode cX12_count 5 = .ok (.iconst 0, 1) := by decide +kernel
theorem dX12_count_6 : decode cX12_count 6 = .ok (.istore_n 2, 1) := by decide +kernel
theorem dX12_count_7 : decode cX12_count 7 = .ok (.iload_n 1, 1) := by decide +kernel
theorem dX12_count_8 : decode cX12_count 8 = .ok (.tableswitch 302 0 11 #[64, 69, 74, 79, 84, 89, 94, 146, 161, 197, 202, 269], 64) := by decide +kernel
theorem dX12_count_72 : decode cX12_count 72 = .ok (.aload_n 0, 1) := by decide +kernel
theorem dX12_count_73 : decode cX12_count 73 = .ok (.getfield 165, 3) := by decide +kernel
theorem dX12_count_76 : decode cX12_count 76 = .ok (.ireturn, 1) := by decide +kernel
theorem dX12_count_77 : decode cX12_count 77 = .ok (.aload_n 0, 1) := by decide +kernel
theorem dX12_count_78 : decode cX12_count 78 = .ok (.getfield 197, 3) := by decide +kernel
theorem dX12_count_81 : decode cX12_count 81 = .ok (.ireturn, 1) := by decide +kernel
theorem dX12_count_82 : decode cX12_count 82 = .ok (.aload_n 0, 1) := by decide +kernel
theorem dX12_count_83 : decode cX12_count 83 = .ok (.getfield 290, 3) := by decide +kernel
theorem dX12_count_86 : decode cX12_count 86 = .ok (.ireturn, 1) := by decide +kernel
theorem dX12_count_87 : decode cX12_count 87 = .ok (.aload_n 0, 1) := by decide +kernel
theorem dX12_count_88 : decode cX12_count 88 = .ok (.getfield 302, 3) := by decide +kernel
theorem dX12_count_91 : decode cX12_count 91 = .ok (.ireturn, 1) := by decide +kernel
theorem dX12_count_92 : decode cX12_count 92 = .ok (.aload_n 0, 1) := by decide +kernel
theorem dX12_count_93 : decode cX12_count 93 = .ok (.getfield 211, 3) := by decide +kernel
theorem dX12_count_96 : decode cX12_count 96 = .ok (.ireturn, 1) := by decide +kernel
theorem dX12_count_97 : decode cX12_count 97 = .ok (.aload_n 0, 1) := by decide +kernel
theorem dX12_count_98 : decode cX12_count 98 = .ok (.getfield 403, 3) := by decide +kernel
theorem dX12_count_101 : decode cX12_count 101 = .ok (.ireturn, 1) := by decide +kernel
theorem dX12_count_102 : decode cX12_count 102 = .ok (.iconst 0, 1) := by decide +kernel
theorem dX12_count_103 : decode cX12_count 103 = .ok (.istore_n 3, 1) := by decide +kernel
theorem dX12_count_104 : decode cX12_count 104 = .ok (.iload_n 3, 1) := by decide +kernel
theorem dX12_count_105 : decode cX12_count 105 = .ok (.bipush 60, 2) := by decide +kernel
theorem dX12_count_107 : decode cX12_count 107 = .ok (.aload_n 0, 1) := by decide +kernel
theorem dX12_count_108 : decode cX12_count 108 = .ok (.getfield 165, 3) := by decide +kernel
theorem dX12_count_111 : decode cX12_count 111 = .ok (.imul, 1) := by decide +kernel
theorem dX12_count_112 : decode cX12_count 112 = .ok (.if_icmp .ge 40, 3) := by decide +kernel
theorem dX12_count_115 : decode cX12_count 115 = .ok (.iload_n 3, 1) := by decide +kernel
theorem dX12_count_116 : decode cX12_count 116 = .ok (.bipush 60, 2) := by decide +kernel
theorem dX12_count_118 : decode cX12_count 118 = .ok (.irem, 1) := by decide +kernel
theorem dX12_count_119 : decode cX12_count 119 = .ok (.aload_n 0, 1) := by decide +kernel
theorem dX12_count_120 : decode cX12_count 120 = .ok (.getfield 7, 3) := by decide +kernel
theorem dX12_count_123 : decode cX12_count 123 = .ok (.iload_n 3, 1) := by decide +kernel
theorem dX12_count_124 : decode cX12_count 124 = .ok (.bipush 60, 2) := by decide +kernel
theorem dX12_count_126 : decode cX12_count 126 = .ok (.idiv, 1) := by decide +kernel
theorem dX12_count_127 : decode cX12_count 127 = .ok (.iaload, 1) := by decide +kernel
theorem dX12_count_128 : decode cX12_count 128 = .ok (.if_icmp .ge 18, 3) := by decide +kernel
theorem dX12_count_131 : decode cX12_count 131 = .ok (.iload_n 2, 1) := by decide +kernel
theorem dX12_count_132 : decode cX12_count 132 = .ok (.aload_n 0, 1) := by decide +kernel
theorem dX12_count_133 : decode cX12_count 133 = .ok (.iload_n 3, 1) := by decide +kernel
theorem dX12_count_134 : decode cX12_count 134 = .ok (.iconst 0, 1) := by decide +kernel
theorem dX12_count_135 : decode cX12_count 135 = .ok (.aload_n 0, 1) := by decide +kernel
theorem dX12_count_136 : decode cX12_count 136 = .ok (.getfield 28, 3) := by decide +kernel
theorem dX12_count_139 : decode cX12_count 139 = .ok (.iload_n 3, 1) := by decide +kernel
theorem dX12_count_140 : decode cX12_count 140 = .ok (.iaload, 1) := by decide +kernel
theorem dX12_count_141 : decode cX12_count 141 = .ok (.invokevirtual 190, 3) := by decide +kernel
theorem dX12_count_144 : decode cX12_count 144 = .ok (.iadd, 1) := by decide +kernel
theorem dX12_count_145 : decode cX12_count 145 = .ok (.istore_n 2, 1) := by decide +kernel
theorem dX12_count_146 : decode cX12_count 146 = .ok (.iinc 3 1, 3) := by decide +kernel
theorem dX12_count_149 : decode cX12_count 149 = .ok (.goto (-45), 3) := by decide +kernel
theorem dX12_count_152 : decode cX12_count 152 = .ok (.iload_n 2, 1) := by decide +kernel
theorem dX12_count_153 : decode cX12_count 153 = .ok (.ireturn, 1) := by decide +kernel
theorem dX12_count_154 : decode cX12_count 154 = .ok (.aload_n 0, 1) := by decide +kernel
theorem dX12_count_155 : decode cX12_count 155 = .ok (.iconst 0, 1) := by decide +kernel
theorem dX12_count_156 : decode cX12_count 156 = .ok (.aload_n 0, 1) := by decide +kernel
theorem dX12_count_157 : decode cX12_count 157 = .ok (.getfield 100, 3) := by decide +kernel
theorem dX12_count_160 : decode cX12_count 160 = .ok (.aload_n 0, 1) := by decide +kernel
theorem dX12_count_161 : decode cX12_count 161 = .ok (.getfield 290, 3) := by decide +kernel
theorem dX12_count_164 : decode cX12_count 164 = .ok (.iaload, 1) := by decide +kernel
theorem dX12_count_165 : decode cX12_count 165 = .ok (.invokevirtual 299, 3) := by decide +kernel
theorem dX12_count_168 : decode cX12_count 168 = .ok (.ireturn, 1) := by decide +kernel
theorem dX12_count_169 : decode cX12_count 169 = .ok (.iconst 0, 1) := by decide +kernel
theorem dX12_count_170 : decode cX12_count 170 = .ok (.istore_n 3, 1) := by decide +kernel
theorem dX12_count_171 : decode cX12_count 171 = .ok (.iload_n 3, 1) := by decide +kernel
theorem dX12_count_172 : decode cX12_count 172 = .ok (.aload_n 0, 1) := by decide +kernel
theorem dX12_count_173 : decode cX12_count 173 = .ok (.getfield 197, 3) := by decide +kernel
theorem dX12_count_176 : decode cX12_count 176 = .ok (.if_icmp .ge 27, 3) := by decide +kernel
theorem dX12_count_179 : decode cX12_count 179 = .ok (.iload_n 2, 1) := by decide +kernel
theorem dX12_count_180 : decode cX12_count 180 = .ok (.aload_n 0, 1) := by decide +kernel
theorem dX12_count_181 : decode cX12_count 181 = .ok (.aload_n 0, 1) := by decide +kernel
theorem dX12_count_182 : decode cX12_count 182 = .ok (.iload_n 3, 1) := by decide +kernel
theorem dX12_count_183 : decode cX12_count 183 = .ok (.invokevirtual 296, 3) := by decide +kernel
theorem dX12_count_186 : decode cX12_count 186 = .ok (.aload_n 0, 1) := by decide +kernel
theorem dX12_count_187 : decode cX12_count 187 = .ok (.getfield 97, 3) := by decide +kernel
theorem dX12_count_190 : decode cX12_count 190 = .ok (.iload_n 3, 1) := by decide +kernel
theorem dX12_count_191 : decode cX12_count 191 = .ok (.iaload, 1) := by decide +kernel
theorem dX12_count_192 : decode cX12_count 192 = .ok (.invokevirtual 299, 3) := by decide +kernel
theorem dX12_count_195 : decode cX12_count 195 = .ok (.iadd, 1) := by decide +kernel
theorem dX12_count_196 : decode cX12_count 196 = .ok (.istore_n 2, 1) := by decide +kernel
theorem dX12_count_197 : decode cX12_count 197 = .ok (.iinc 3 1, 3) := by decide +kernel
theorem dX12_count_200 : decode cX12_count 200 = .ok (.goto (-29), 3) := by decide +kernel
theorem dX12_count_203 : decode cX12_count 203 = .ok (.iload_n 2, 1) := by decide +kernel
theorem dX12_count_204 : decode cX12_count 204 = .ok (.ireturn, 1) := by decide +kernel
theorem dX12_count_205 : decode cX12_count 205 = .ok (.aload_n 0, 1) := by decide +kernel
theorem dX12_count_206 : decode cX12_count 206 = .ok (.getfield 293, 3) := by decide +kernel
theorem dX12_count_209 : decode cX12_count 209 = .ok (.ireturn, 1) := by decide +kernel
theorem dX12_count_210 : decode cX12_count 210 = .ok (.iconst 0, 1) := by decide +kernel
theorem dX12_count_211 : decode cX12_count 211 = .ok (.istore_n 3, 1) := by decide +kernel
theorem dX12_count_212 : decode cX12_count 212 = .ok (.iload_n 3, 1) := by decide +kernel
theorem dX12_count_213 : decode cX12_count 213 = .ok (.bipush 60, 2) := by decide +kernel
theorem dX12_count_215 : decode cX12_count 215 = .ok (.aload_n 0, 1) := by decide +kernel
theorem dX12_count_216 : decode cX12_count 216 = .ok (.getfield 165, 3) := by decide +kernel
theorem dX12_count_219 : decode cX12_count 219 = .ok (.imul, 1) := by decide +kernel
theorem dX12_count_220 : decode cX12_count 220 = .ok (.if_icmp .ge 55, 3) := by decide +kernel
theorem dX12_count_223 : decode cX12_count 223 = .ok (.iload_n 3, 1) := by decide +kernel
theorem dX12_count_224 : decode cX12_count 224 = .ok (.bipush 60, 2) := by decide +kernel
theorem dX12_count_226 : decode cX12_count 226 = .ok (.irem, 1) := by decide +kernel
theorem dX12_count_227 : decode cX12_count 227 = .ok (.aload_n 0, 1) := by decide +kernel
theorem dX12_count_228 : decode cX12_count 228 = .ok (.getfield 7, 3) := by decide +kernel
theorem dX12_count_231 : decode cX12_count 231 = .ok (.iload_n 3, 1) := by decide +kernel
theorem dX12_count_232 : decode cX12_count 232 = .ok (.bipush 60, 2) := by decide +kernel
theorem dX12_count_234 : decode cX12_count 234 = .ok (.idiv, 1) := by decide +kernel
theorem dX12_count_235 : decode cX12_count 235 = .ok (.iaload, 1) := by decide +kernel
theorem dX12_count_236 : decode cX12_count 236 = .ok (.if_icmp .ge 33, 3) := by decide +kernel
theorem dX12_count_239 : decode cX12_count 239 = .ok (.aload_n 0, 1) := by decide +kernel
theorem dX12_count_240 : decode cX12_count 240 = .ok (.getfield 25, 3) := by decide +kernel
theorem dX12_count_243 : decode cX12_count 243 = .ok (.iload_n 3, 1) := by decide +kernel
theorem dX12_count_244 : decode cX12_count 244 = .ok (.iaload, 1) := by decide +kernel
theorem dX12_count_245 : decode cX12_count 245 = .ok (.bipush 6, 2) := by decide +kernel
theorem dX12_count_247 : decode cX12_count 247 = .ok (.if_icmp .ne 22, 3) := by decide +kernel
theorem dX12_count_250 : decode cX12_count 250 = .ok (.iload_n 2, 1) := by decide +kernel
theorem dX12_count_251 : decode cX12_count 251 = .ok (.aload_n 0, 1) := by decide +kernel
theorem dX12_count_252 : decode cX12_count 252 = .ok (.iload_n 3, 1) := by decide +kernel
theorem dX12_count_253 : decode cX12_count 253 = .ok (.aload_n 0, 1) := by decide +kernel
theorem dX12_count_254 : decode cX12_count 254 = .ok (.getfield 28, 3) := by decide +kernel
theorem dX12_count_257 : decode cX12_count 257 = .ok (.iload_n 3, 1) := by decide +kernel
theorem dX12_count_258 : decode cX12_count 258 = .ok (.iaload, 1) := by decide +kernel
theorem dX12_count_259 : decode cX12_count 259 = .ok (.aload_n 0, 1) := by decide +kernel
theorem dX12_count_260 : decode cX12_count 260 = .ok (.iload_n 3, 1) := by decide +kernel
theorem dX12_count_261 : decode cX12_count 261 = .ok (.invokevirtual 180, 3) := by decide +kernel
theorem dX12_count_264 : decode cX12_count 264 = .ok (.invokevirtual 190, 3) := by decide +kernel
theorem dX12_count_267 : decode cX12_count 267 = .ok (.iadd, 1) := by decide +kernel
theorem dX12_count_268 : decode cX12_count 268 = .ok (.istore_n 2, 1) := by decide +kernel
theorem dX12_count_269 : decode cX12_count 269 = .ok (.iinc 3 1, 3) := by decide +kernel
theorem dX12_count_272 : decode cX12_count 272 = .ok (.goto (-60), 3) := by decide +kernel
theorem dX12_count_275 : decode cX12_count 275 = .ok (.iload_n 2, 1) := by decide +kernel
theorem dX12_count_276 : decode cX12_count 276 = .ok (.ireturn, 1) := by decide +kernel
theorem dX12_count_277 : decode cX12_count 277 = .ok (.iconst 0, 1) := by decide +kernel
theorem dX12_count_278 : decode cX12_count 278 = .ok (.istore_n 3, 1) := by decide +kernel
theorem dX12_count_279 : decode cX12_count 279 = .ok (.iload_n 3, 1) := by decide +kernel
theorem dX12_count_280 : decode cX12_count 280 = .ok (.bipush 16, 2) := by decide +kernel
theorem dX12_count_282 : decode cX12_count 282 = .ok (.if_icmp .ge 26, 3) := by decide +kernel
theorem dX12_count_285 : decode cX12_count 285 = .ok (.iload_n 2, 1) := by decide +kernel
theorem dX12_count_286 : decode cX12_count 286 = .ok (.aload_n 0, 1) := by decide +kernel
theorem dX12_count_287 : decode cX12_count 287 = .ok (.getfield 125, 3) := by decide +kernel
theorem dX12_count_290 : decode cX12_count 290 = .ok (.iload_n 3, 1) := by decide +kernel
theorem dX12_count_291 : decode cX12_count 291 = .ok (.baload, 1) := by decide +kernel
theorem dX12_count_292 : decode cX12_count 292 = .ok (.ifCond .eq 7, 3) := by decide +kernel
theorem dX12_count_295 : decode cX12_count 295 = .ok (.iconst 1, 1) := by decide +kernel
theorem dX12_count_296 : decode cX12_count 296 = .ok (.goto 4, 3) := by decide +kernel
theorem dX12_count_299 : decode cX12_count 299 = .ok (.iconst 0, 1) := by decide +kernel
theorem dX12_count_300 : decode cX12_count 300 = .ok (.iadd, 1) := by decide +kernel
theorem dX12_count_301 : decode cX12_count 301 = .ok (.istore_n 2, 1) := by decide +kernel
theorem dX12_count_302 : decode cX12_count 302 = .ok (.iinc 3 1, 3) := by decide +kernel
theorem dX12_count_305 : decode cX12_count 305 = .ok (.goto (-26), 3) := by decide +kernel
theorem dX12_count_308 : decode cX12_count 308 = .ok (.iload_n 2, 1) := by decide +kernel
theorem dX12_count_309 : decode cX12_count 309 = .ok (.ireturn, 1) := by decide +kernel
theorem dX12_count_310 : decode cX12_count 310 = .ok (.iconst (-1), 1) := by decide +kernel
theorem dX12_count_311 : decode cX12_count 311 = .ok (.ireturn, 1) := by decide +kernel
theorem inn_X12_count_12 : ∀ w ∈ u_ws RX12 TX12 66, w ∈ wsX12_count := fun w h => List.mem_cons_of_mem _ (List.mem_append_right _ h)
