set_option maxRecDepth 20000 in
theorem ggX12_count_X12_silk : GoodIn wsX12_count wsX12_silk := goodIn_h _ [18, 0, 0, 0, 0, 0, 0, 0, 0, 0, 0, 0, 0, 0, 0, 0, 0, 0, 0, 0, 0, 14, 0, 0, 0, 0, 0, 0, 0, 0, 0, 0, 0, 0, 0, 0, 0, 0, 0, 0, 0, 0, 0, 0, 0, 0, 0, 0, 0, 0, 0, 0, 0, 0, 0, 0, 0, 0, 0, 0, 0, 0, 0, 0, 0, 0, 0, 0, 0, 0, 0, 0, 0, 0, 0, 0, 0, 0, 0, 0, 0, 0, 0, 0, 0, 0, 0] [1, 2, 3, 4, 0, 5, 6, 7, 8, 9, 10, 11, 12, 13, 14, 15, 16, 17, 18, 19, 20, 21, 22, 23, 24, 25, 26, 27, 28, 29, 30, 31, 32, 33, 34, 35, 36, 37, 38, 39, 40, 41, 42, 43, 44, 45, 46, 47, 48, 49, 50, 51, 52, 53, 54, 55, 56, 57, 58, 59, 60, 61, 62, 63, 64, 65, 66, 67, 68, 69, 70, 71, 72, 73, 74, 75, 76, 77, 78, 79, 80, 81, 82, 83, 84, 85, 86] (by decide +kernel) (by decide +kernel)
set_option maxRecDepth 20000 in
theorem gX12_count_X12_silk : GoodIn wsX12_count (wsV RX12 190 RX12 yX12_silk wsX12_silk) := goodIn_app (goodIn_of _ (by decide +kernel)) ggX12_count_X12_silk
set_option maxRecDepth 20000 in
theorem ggX12_count_X12_weight : GoodIn wsX12_count wsX12_weight := goodIn_h _ [18, 1, 0, 0, 0, 0, 0, 0, 0, 0, 0, 0, 0, 0, 0, 0, 0, 0, 0, 0, 3, 0, 0, 0, 0, 0, 0, 4, 0, 0, 0, 0, 0, 0, 0, 0, 0, 0, 0, 0, 0, 0, 0, 0, 0, 0, 0, 0, 0, 0, 0, 0, 0, 0, 0, 0, 0, 0, 0, 0, 0, 0, 0, 0, 0, 0, 0, 0, 0, 0, 0, 0, 0, 0, 0, 0, 0, 0, 0, 0, 0, 0, 0, 0, 0, 0, 0, 0, 0, 0, 0, 0, 0] [20, 21, 22, 23, 0, 24, 25, 26, 1, 2, 3, 4, 5, 6, 7, 8, 9, 10, 11, 12, 13, 14, 15, 16, 17, 18, 19, 27, 28, 29, 30, 31, 32, 33, 34, 35, 36, 37, 38, 39, 40, 41, 42, 43, 44, 45, 46, 47, 48, 49, 50, 51, 52, 53, 54, 55, 56, 57, 58, 59, 60, 61, 62, 63, 64, 65, 66, 67, 68, 69, 70, 71, 72, 73, 74, 75, 76, 77, 78, 79, 80, 81, 82, 83, 84, 85, 86, 87, 88, 89, 90, 91, 92] (by decide +kernel) (by decide +kernel)
set_option maxRecDepth 20000 in
theorem gX12_count_X12_weight : GoodIn wsX12_count (wsV RX12 299 RX12 yX12_weight wsX12_weight) := goodIn_app (goodIn_of _ (by decide +kernel)) ggX12_count_X12_weight
set_option maxRecDepth 20000 in
theorem ggX12_count_X12_growing : GoodIn wsX12_count wsX12_growing := goodIn_h _ [52] [0] (by decide +kernel) (by decide +kernel)
set_option maxRecDepth 20000 in
theorem gX12_count_X12_growing : GoodIn wsX12_count (wsV RX12 296 RX12 yX12_growing wsX12_growing) := goodIn_app (goodIn_of _ (by decide +kernel)) ggX12_count_X12_growing
set_option maxRecDepth 20000 in
theorem ggX12_count_X12_lengthOf : GoodIn wsX12_count wsX12_lengthOf := goodIn_h _ [18, 5, 2, 0, 0, 0, 0, 0, 0, 3, 0, 14, 0, 0, 0, 0, 0, 0, 0, 0, 0, 0, 0, 0, 0, 0, 0, 0, 0, 0, 0, 0, 0, 0, 0, 0, 0, 0, 0, 0, 0, 0, 0, 0, 0, 0, 0, 0, 0, 0, 0, 0, 0, 0, 0, 0, 0, 0, 0, 0, 0, 0, 0, 0, 0, 0, 0, 0, 0, 0, 0, 0, 0, 0, 0, 0, 0] [9, 10, 1, 2, 3, 0, 4, 5, 6, 7, 8, 11, 12, 13, 14, 15, 16, 17, 18, 19, 20, 21, 22, 23, 24, 25, 26, 27, 28, 29, 30, 31, 32, 33, 34, 35, 36, 37, 38, 39, 40, 41, 42, 43, 44, 45, 46, 47, 48, 49, 50, 51, 52, 53, 54, 55, 56, 57, 58, 59, 60, 61, 62, 63, 64, 65, 66, 67, 68, 69, 70, 71, 72, 73, 74, 75, 76] (by decide +kernel) (by decide +kernel)
set_option maxRecDepth 20000 in
theorem gX12_count_X12_lengthOf : GoodIn wsX12_count (wsV RX12 180 RX12 yX12_lengthOf wsX12_lengthOf) := goodIn_app (goodIn_of _ (by decide +kernel)) ggX12_count_X12_lengthOf
theorem dX12_count_0 : decode cX12_count 0 = .ok (.aload_n 0, 1) := by decide +kernel
theorem dX12_count_1 : decode cX12_count 1 = .ok (.iconst 0, 1) := by decide +kernel
theorem dX12_count_2 : decode cX12_count 2 = .ok (.putfield 161, 3) := by decide +kernel
theorem dX12_count_5 : decode cX12_count 5 = .ok (.iconst 0, 1) := by decide +kernel
theorem dX12_count_6 : decode cX12_count 6 = .ok (.istore_n 2, 1) := by decide +kernel
theorem dX12_count_7 : decode cX12_count 7 = .ok (.iload_n 1, 1) := by decide +kernel
theorem dX12_count_8 : decode cX12_count 8 = .ok (.tableswitch 302 0 11 #[64, 69, 74, 79, 84, 89, 94, 146, 161, 197, 202, 269], 64) := by decide +kernel
theorem dX12_count_72 : decode cX12_count 72 = .ok (.aload_n 0, 1) := by decide +kernel
theorem dX12_count_73 : decode cX12_count 73 = .ok (.getfield 165, 3) := by decide +kernel
theorem dX12_count_76 : decode cX12_count 76 = .ok (.ireturn, 1) := by decide +kernel
theorem dX12_count_77 : decode cX12_count 77 = .ok (.aload_n 0, 1) := by decide +kernel
theorem dX12_count_78 : decode cX12_count 78 = .ok (.getfield 197, 3) := by decide +kernel
theorem dX12_count_81 : decode cX12_count 81 = .ok (.ireturn, 1) := by decide +kernel
theorem dX12_count_82 : decode cX12_count 82 = .ok (.aload_n 0, 1) := by decide +kernel
theorem dX12_count_83 : decode cX12_count 83 = .ok (.getfield 290, 3) := by decide +kernel
theorem dX12_count_86 : decode cX12_count 86 = .ok (.ireturn, 1) := by decide +kernel
theorem dX12_count_87 : decode cX12_count 87 = .ok (.aload_n 0, 1) := by decide +kernel
theorem dX12_count_88 : decode cX12_count 88 = .ok (.getfield 302, 3) := by decide +kernel
theorem dX12_count_91 : decode cX12_count 91 = .ok (.ireturn, 1) := by decide +kernel
theorem dX12_count_92 : decode cX12_count 92 = .ok (.aload_n 0, 1) := by decide +kernel
theorem dX12_count_93 : decode cX12_count 93 = .ok (.getfield 211, 3) := by decide +kernel
theorem dX12_count_96 : decode cX12_count 96 = .ok (.ireturn, 1) := by decide +kernel
theorem dX12_count_97 : decode cX12_count 97 = .ok (.aload_n 0, 1) := by decide +kernel
theorem dX12_count_98 : decode cX12_count 98 = .ok (.getfield 403, 3) := by decide +kernel
theorem dX12_count_101 : decode cX12_count 101 = .ok (.ireturn, 1) := by decide +kernel
theorem dX12_count_102 : decode cX12_count 102 = .ok (.iconst 0, 1) := by decide +kernel
theorem dX12_count_103 : decode cX12_count 103 = .ok (.istore_n 3, 1) := by decide +kernel
theorem dX12_count_104 : decode cX12_count 104 = .ok (.iload_n 3, 1) := by decide +kernel
theorem dX12_count_105 : decode cX12_count 105 = .ok (.bipush 60, 2) := by decide +kernel
theorem dX12_count_107 : decode cX12_count 107 = .ok (.aload_n 0, 1) := by decide +kernel
theorem dX12_count_108 : decode cX12_count 108 = .ok (.getfield 165, 3) := by decide +kernel
theorem dX12_count_111 : decode cX12_count 111 = .ok (.imul, 1) := by decide +kernel
theorem dX12_count_112 : decode cX12_count 112 = .ok (.if_icmp .ge 40, 3) := by decide +kernel
theorem dX12_count_115 : decode cX12_count 115 = .ok (.iload_n 3, 1) := by decide +kernel
theorem dX12_count_116 : decode cX12_count 116 = .ok (.bipush 60, 2) := by decide +kernel
theorem dX12_count_118 : decode cX12_count 118 = .ok (.irem, 1) := by decide +kernel
theorem dX12_count_119 : decode cX12_count 119 = .ok (.aload_n 0, 1) := by decide +kernel
theorem dX12_count_120 : decode cX12_count 120 = .ok (.getfield 7, 3) := by decide +kernel
theorem dX12_count_123 : decode cX12_count 123 = .ok (.iload_n 3, 1) := by decide +kernel
theorem dX12_count_124 : decode cX12_count 124 = .ok (.bipush 60, 2) := by decide +kernel
theorem dX12_count_126 : decode cX12_count 126 = .ok (.idiv, 1) := by decide +kernel
theorem dX12_count_127 : decode cX12_count 127 = .ok (.iaload, 1) := by decide +kernel
theorem dX12_count_128 : decode cX12_count 128 = .ok (.if_icmp .ge 18, 3) := by decide +kernel
theorem dX12_count_131 : decode cX12_count 131 = .ok (.iload_n 2, 1) := by decide +kernel
theorem dX12_count_132 : decode cX12_count 132 = .ok (.aload_n 0, 1) := by decide +kernel
theorem dX12_count_133 : decode cX12_count 133 = .ok (.iload_n 3, 1) := by decide +kernel
theorem dX12_count_134 : decode cX12_count 134 = .ok (.iconst 0, 1) := by decide +kernel
theorem dX12_count_135 : decode cX12_count 135 = .ok (.aload_n 0, 1) := by decide +kernel
theorem dX12_count_136 : decode cX12_count 136 = .ok (.getfield 28, 3) := by decide +kernel
theorem dX12_count_139 : decode cX12_count 139 = .ok (.iload_n 3, 1) := by decide +kernel
theorem dX12_count_140 : decode cX12_count 140 = .ok (.iaload, 1) := by decide +kernel
theorem dX12_count_141 : decode cX12_count 141 = .ok (.invokevirtual 190, 3) := by decide +kernel
theorem dX12_count_144 : decode cX12_count 144 = .ok (.iadd, 1) := by decide +kernel
theorem dX12_count_145 : decode cX12_count 145 = .ok (.istore_n 2, 1) := by decide +kernel
theorem dX12_count_146 : decode cX12_count 146 = .ok (.iinc 3 1, 3) := by decide +kernel
theorem dX12_count_149 : decode cX12_count 149 = .ok (.goto (-45), 3) := by decide +kernel
theorem dX12_count_152 : decode cX12_count 152 = .ok (.iload_n 2, 1) := by decide +kernel
theorem dX12_count_153 : decode cX12_count 153 = .ok (.ireturn, 1) := by decide +kernel
theorem dX12_count_154 : decode cX12_count 154 = .ok (.aload_n 0, 1) := by decide +kernel
theorem dX12_count_155 : decode cX12_count 155 = .ok (.iconst 0, 1) := by decide +kernel
theorem dX12_count_156 : decode cX12_count 156 = .ok (.aload_n 0, 1) := by decide +kernel
theorem dX12_count_157 : decode cX12_count 157 = .ok (.getfield 100, 3) := by decide +kernel
theorem dX12_count_160 : decode cX12_count 160 = .ok (.aload_n 0, 1) := by decide +kernel
theorem dX12_count_161 : decode cX12_count 161 = .ok (.getfield 290, 3) := by decide +kernel
theorem dX12_count_164 : decode cX12_count 164 = .ok (.iaload, 1) := by decide +kernel
theorem dX12_count_165 : decode cX12_count 165 = .ok (.invokevirtual 299, 3) := by decide +kernel
theorem dX12_count_168 : decode cX12_count 168 = .ok (.ireturn, 1) := by decide +kernel
theorem dX12_count_169 : decode cX12_count 169 = .ok (.iconst 0, 1) := by decide +kernel
theorem dX12_count_170 : decode cX12_count 170 = .ok (.istore_n 3, 1) := by decide +kernel
theorem dX12_count_171 : decode cX12_count 171 = .ok (.iload_n 3, 1) := by decide +kernel
theorem dX12_count_172 : decode cX12_count 172 = .ok (.aload_n 0, 1) := by decide +kernel
theorem dX12_count_173 : decode cX12_count 173 = .ok (.getfield 197, 3) := by decide +kernel
theorem dX12_count_176 : decode cX12_count 176 = .ok (.if_icmp .ge 27, 3) := by decide +kernel
theorem dX12_count_179 : decode cX12_count 179 = .ok (.iload_n 2, 1) := by decide +kernel
theorem dX12_count_180 : decode cX12_count 180 = .ok (.aload_n 0, 1) := by decide +kernel
theorem dX12_count_181 : decode cX12_count 181 = .ok (.aload_n 0, 1) := by decide +kernel
theorem dX12_count_182 : decode cX12_count 182 = .ok (.iload_n 3, 1) := by decide +kernel
theorem dX12_count_183 : decode cX12_count 183 = .ok (.invokevirtual 296, 3) := by decide +kernel
theorem dX12_count_186 : decode cX12_count 186 = .ok (.aload_n 0, 1) := by decide +kernel
theorem dX12_count_187 : decode cX12_count 187 = .ok (.getfield 97, 3) := by decide +kernel
theorem dX12_count_190 : decode cX12_count 190 = .ok (.iload_n 3, 1) := by decide +kernel
theorem dX12_count_191 : decode cX12_count 191 = .ok (.iaload, 1) := by decide +kernel
theorem dX12_count_192 : decode cX12_count 192 = .ok (.invokevirtual 299, 3) := by decide +kernel
theorem dX12_count_195 : decode cX12_count 195 = .ok (.iadd, 1) := by decide +kernel
theorem dX12_count_196 : decode cX12_count 196 = .ok (.istore_n 2, 1) := by decide +kernel
theorem dX12_count_197 : decode cX12_count 197 = .ok (.iinc 3 1, 3) := by decide +kernel
theorem dX12_count_200 : decode cX12_count 200 = .ok (.goto (-29), 3) := by decide +kernel
theorem dX12_count_203 : decode cX12_count 203 = .ok (.iload_n 2, 1) := by decide +kernel
theorem dX12_count_204 : decode cX12_count 204 = .ok (.ireturn, 1) := by decide +kernel
theorem dX12_count_205 : decode cX12_count 205 = .ok (.aload_n 0, 1) := by decide +kernel
theorem dX12_count_206 : decode cX12_count 206 = .ok (.getfield 293, 3) := by decide +kernel
theorem dX12_count_209 : decode cX12_count 209 = .ok (.ireturn, 1) := by decide +kernel
theorem dX12_count_210 : decode cX12_count 210 = .ok (.iconst 0, 1) := by decide +kernel
theorem dX12_count_211 : decode cX12_count 211 = .ok (.istore_n 3, 1) := by decide +kernel
theorem dX12_count_212 : decode cX12_count 212 = .ok (.iload_n 3, 1) := by decide +kernel
theorem dX12_count_213 : decode cX12_count 213 = .ok (.bipush 60, 2) := by decide +kernel
theorem dX12_count_215 : decode cX12_count 215 = .ok (.aload_n 0, 1) := by decide +kernel
theorem dX12_count_216 : decode cX12_count 216 = .ok (.getfield 165, 3) := by decide +kernel
theorem dX12_count_219 : decode cX12_count 219 = .ok (.imul, 1) := by decide +kernel
theorem dX12_count_220 : decode cX12_count 220 = .ok (.if_icmp .ge 55, 3) := by decide +kernel
theorem dX12_count_223 : decode cX12_count 223 = .ok (.iload_n 3, 1) := by decide +kernel
theorem dX12_count_224 : decode cX12_count 224 = .ok (.bipush 60, 2) := by decide +kernel
theorem dX12_count_226 : decode cX12_count 226 = .ok (.irem, 1) := by decide +kernel
theorem dX12_count_227 : decode cX12_count 227 = .ok (.aload_n 0, 1) := by decide +kernel
theorem dX12_count_228 : decode cX12_count 228 = .ok (.getfield 7, 3) := by decide +kernel
theorem dX12_count_231 : decode cX12_count 231 = .ok (.iload_n 3, 1) := by decide +kernel
theorem dX12_count_232 : decode cX12_count 232 = .ok (.bipush 60, 2) := by decide +kernel
theorem dX12_count_234 : decode cX12_count 234 = .ok (.idiv, 1) := by decide +kernel
theorem dX12_count_235 : decode cX12_count 235 = .ok (.iaload, 1) := by decide +kernel
theorem dX12_count_236 : decode cX12_count 236 = .ok (.if_icmp .ge 33, 3) := by decide +kernel
theorem dX12_count_239 : decode cX12_count 239 = .ok (.aload_n 0, 1) := by decide +kernel
theorem dX12_count_240 : decode cX12_count 240 = .ok (.getfield 25, 3) := by decide +kernel
theorem dX12_count_243 : decode cX12_count 243 = .ok (.iload_n 3, 1) := by decide +kernel
theorem dX12_count_244 : decode cX12_count 244 = .ok (.iaload, 1) := by decide +kernel
theorem dX12_count_245 : decode cX12_count 245 = .ok (.bipush 6, 2) := by decide +kernel
theorem dX12_count_247 : decode cX12_count 247 = .ok (.if_icmp .ne 22, 3) := by decide +kernel
theorem dX12_count_250 : decode cX12_count 250 = .ok (.iload_n 2, 1) := by decide +kernel
theorem dX12_count_251 : decode cX12_count 251 = .ok (.aload_n 0, 1) := by decide +kernel
theorem dX12_count_252 : decode cX12_count 252 = .ok (.iload_n 3, 1) := by decide +kernel
theorem dX12_count_253 : decode cX12_count 253 = .ok (.aload_n 0, 1) := by decide +kernel
theorem dX12_count_254 : decode cX12_count 254 = .ok (.getfield 28, 3) := by decide +kernel
theorem dX12_count_257 : decode cX12_count 257 = .ok (.iload_n 3, 1) := by decide +kernel
theorem dX12_count_258 : decode cX12_count 258 = .ok (.iaload, 1) := by decide +kernel
theorem dX12_count_259 : decode cX12_count 259 = .ok (.aload_n 0, 1) := by decide +kernel
theorem dX12_count_260 : decode cX12_count 260 = .ok (.iload_n 3, 1) := by decide +kernel
theorem dX12_count_261 : decode cX12_count 261 = .ok (.invokevirtual 180, 3) := by decide +kernel
theorem dX12_count_264 : decode cX12_count 264 = .ok (.invokevirtual 190, 3) := by decide +kernel
theorem dX12_count_267 : decode cX12_count 267 = .ok (.iadd, 1) := by decide +kernel
theorem dX12_count_268 : decode cX12_count 268 = .ok (.istore_n 2, 1) := by decide +kernel
theorem dX12_count_269 : decode cX12_count 269 = .ok (.iinc 3 1, 3) := by decide +kernel
theorem dX12_count_272 : decode cX12_count 272 = .ok (.goto (-60), 3) := by decide +kernel
theorem dX12_count_275 : decode cX12_count 275 = .ok (.iload_n 2, 1) := by decide +kernel
theorem dX12_count_276 : decode cX12_count 276 = .ok (.ireturn, 1) := by decide +kernel
theorem dX12_count_277 : decode cX12_count 277 = .ok (.iconst 0, 1) := by decide +kernel
theorem dX12_count_278 : decode cX12_count 278 = .ok (.istore_n 3, 1) := by decide +kernel
theorem dX12_count_279 : decode cX12_count 279 = .ok (.iload_n 3, 1) := by decide +kernel
theorem dX12_count_280 : decode cX12_count 280 = .ok (.bipush 16, 2) := by decide +kernel
theorem dX12_count_282 : decode cX12_count 282 = .ok (.if_icmp .ge 26, 3) := by decide +kernel
theorem dX12_count_285 : decode cX12_count 285 = .ok (.iload_n 2, 1) := by decide +kernel
theorem dX12_count_286 : decode cX12_count 286 = .ok (.aload_n 0, 1) := by decide +kernel
theorem dX12_count_287 : decode cX12_count 287 = .ok (.getfield 125, 3) := by decide +kernel
theorem dX12_count_290 : decode cX12_count 290 = .ok (.iload_n 3, 1) := by decide +kernel
theorem dX12_count_291 : decode cX12_count 291 = .ok (.baload, 1) := by decide +kernel
theorem dX12_count_292 : decode cX12_count 292 = .ok (.ifCond .eq 7, 3) := by decide +kernel
theorem dX12_count_295 : decode cX12_count 295 = .ok (.iconst 1, 1) := by decide +kernel
theorem dX12_count_296 : decode cX12_count 296 = .ok (.goto 4, 3) := by decide +kernel
theorem dX12_count_299 : decode cX12_count 299 = .ok (.iconst 0, 1) := by decide +kernel
theorem dX12_count_300 : decode cX12_count 300 = .ok (.iadd, 1) := by decide +kernel
theorem dX12_count_301 : decode cX12_count 301 = .ok (.istore_n 2, 1) := by decide +kernel
theorem dX12_count_302 : decode cX12_count 302 = .ok (.iinc 3 1, 3) := by decide +kernel
theorem dX12_count_305 : decode cX12_count 305 = .ok (.goto (-26), 3) := by decide +kernel
theorem dX12_count_308 : decode cX12_count 308 = .ok (.iload_n 2, 1) := by decide +kernel
theorem dX12_count_309 : decode cX12_count 309 = .ok (.ireturn, 1) := by decide +kernel
theorem dX12_count_310 : decode cX12_count 310 = .ok (.iconst (-1), 1) := by decide +kernel
theorem dX12_count_311 : decode cX12_count 311 = .ok (.ireturn, 1) := by decide +kernel
theorem inn_X12_count_12 : ∀ w ∈ u_ws RX12 TX12 66, w ∈ wsX12_count := fun w h => List.mem_cons_of_mem _ (List.mem_append_right _ h)
set_option maxHeartbeats 4000000 in
set_option maxRecDepth 100000 in
theorem k_X12_count (l : Launch) (G : va_G) (cy : Nat → ClassId) (κ : Nat → Nat) (S : PS) (sz : Nat) (x : Nat) (a1 : Int32) (a1_z : Int) (hG : GX S) (ha_x : At S x 12) (hz_a1 : a1.toInt = a1_z) (hp_0 : MI S x) : Ci l yX12_count wsX12_count ({ frames := 6, cells := 0, slots := 0, locals := 288 }) G cy κ S sz [.ref x, .int (a1)] (fun (r : Int32) (S9 : PS) => Ok MN S S9 ∧ (True)) := by
  refine ent_m (cc := cX12_count) (maxL := 4) (ret := (some .int)) (by decide) rfl (Nat.le_of_ble_eq_true rfl) ?_
  intro p e s m below meth c ls X hr hlocks hin hw hl hsz
  subst hsz
  have X : Cx p c cX12_count 4 s [.ref x, .int (a1)].toArray wsX12_count RX12 m G cy κ (AS S s.heap.size) := X
  have hl : lv_has ls 4 [(0, .ref x), (1, .int (a1))] := hl
  have rg_a1 : (-2147483648) ≤ a1_z ∧ a1_z ≤ 2147483647 := by rw [← hz_a1]; exact ⟨z_lo _, z_hi _⟩
  have hO : Ok MN S S := Ok.rf hG
  generalize hQQ : MQ below _ _ _ _ _ _ = QQ
  replace hQQ := hQQ.symm
  refine lv_aload_n X.1 X.2.1 dX12_count_0 rfl (lv_at hl 0 rfl) ?_
  refine lv_iconst (v := 0) X.1 X.2.1 dX12_count_1 (by decide) ?_
  refine r_putI (v := 0) X hw ha_x rfl 0 1200 tyX12 (by decide) rfl inn_X12_count_12 tyX12_ok nmX12 (by decide) (X.2.2.2.1 (.fieldLink RX12 161 "SilkMillModel" "thrown" "I") (by decide +kernel)) rfl (Or.inl rfl) rfl rfl (Nat.le_of_ble_eq_true rfl) (st_1200 _ _) dX12_count_2 (fun H locs hw => ?_)
  obtain ⟨S_1, eS_1⟩ : ∃ T, T = sI S 1200 x (0) := ⟨_, rfl⟩
  rw [← eS_1] at hw
  have hO_2 : Ok MN S S_1 := hO.sI eS_1 (by decide +kernel) (uI_12_1200 hO.1 ha_x)
  have h_3 : pI S_1 1200 x = 0 := tI_sIs eS_1
  refine lv_iconst (v := 0) X.1 X.2.1 dX12_count_5 (by decide) ?_
  refine lv_istore_n (lv' := [(2, .int 0), (0, .ref x), (1, .int (a1))]) X.1 X.2.1 dX12_count_6 rfl hl (by decide) rfl (fun ls hl => ?_)
  refine lv_iload_n X.1 X.2.1 dX12_count_7 rfl (lv_at hl 2 rfl) ?_
  by_cases w_4 : (a1).toInt < 0 ∨ 11 < (a1).toInt
  · refine lv_tableOut (tgt := 310) X.1 X.2.1 dX12_count_8 w_4 (by decide) ?_
    refine lv_iconst (v := (-1)) X.1 X.2.1 dX12_count_310 (by decide) ?_
    rw [hQQ]
    exact ret_i X hw hr hlocks (Nat.le_of_ble_eq_true rfl) (Nat.le_of_ble_eq_true rfl) ⟨hO_2, trivial⟩ dX12_count_311
  have w_4b : (a1).toInt = 0 ∨ (a1).toInt = 1 ∨ (a1).toInt = 2 ∨ (a1).toInt = 3 ∨ (a1).toInt = 4 ∨ (a1).toInt = 5 ∨ (a1).toInt = 6 ∨ (a1).toInt = 7 ∨ (a1).toInt = 8 ∨ (a1).toInt = 9 ∨ (a1).toInt = 10 ∨ (a1).toInt = 11 := by omega
  rcases w_4b with w_4c | w_4c | w_4c | w_4c | w_4c | w_4c | w_4c | w_4c | w_4c | w_4c | w_4c | w_4c
  · refine lv_tableIn (tgt := 72) X.1 X.2.1 dX12_count_8 (by omega) (by omega) (by rw [w_4c]; rfl) (by decide) ?_
    refine lv_aload_n X.1 X.2.1 dX12_count_72 rfl (lv_at hl 1 rfl) ?_
    have t_5 : At S_1 x 12 := tAt_sI eS_1 ha_x
    obtain ⟨v_6, ev_6⟩ : ∃ v, pI S_1 1201 x = v := ⟨_, rfl⟩
    have rg_7 := gI_12_1201 hO_2.1 t_5; rw [ev_6] at rg_7
    have pz_8 : (pI S_1 1201 x).toInt = v_6.toInt := by rw [ev_6]
    refine r_getI (g := 1201) (x := v_6) X hw t_5 rfl 1 ev_6 (by decide) rfl inn_X12_count_12 (by decide) (X.2.2.2.1 (.fieldLink RX12 165 "SilkMillModel" "lots" "I") (by decide +kernel)) rfl (gv_1201 _ _) dX12_count_73 ?_
    rw [hQQ]
    exact ret_i X hw hr hlocks (Nat.le_of_ble_eq_true rfl) (Nat.le_of_ble_eq_true rfl) ⟨hO_2, trivial⟩ dX12_count_76
  · refine lv_tableIn (tgt := 77) X.1 X.2.1 dX12_count_8 (by omega) (by omega) (by rw [w_4c]; rfl) (by decide) ?_
    refine lv_aload_n X.1 X.2.1 dX12_count_77 rfl (lv_at hl 1 rfl) ?_
    have t_9 : At S_1 x 12 := tAt_sI eS_1 ha_x
    obtain ⟨v_10, ev_10⟩ : ∃ v, pI S_1 1211 x = v := ⟨_, rfl⟩
    have rg_11 := gI_12_1211 hO_2.1 t_9; rw [ev_10] at rg_11
    have pz_12 : (pI S_1 1211 x).toInt = v_10.toInt := by rw [ev_10]
    refine r_getI (g := 1211) (x := v_10) X hw t_9 rfl 11 ev_10 (by decide) rfl inn_X12_count_12 (by decide) (X.2.2.2.1 (.fieldLink RX12 197 "SilkMillModel" "pots" "I") (by decide +kernel)) rfl (gv_1211 _ _) dX12_count_78 ?_
    rw [hQQ]
    exact ret_i X hw hr hlocks (Nat.le_of_ble_eq_true rfl) (Nat.le_of_ble_eq_true rfl) ⟨hO_2, trivial⟩ dX12_count_81
  · refine lv_tableIn (tgt := 82) X.1 X.2.1 dX12_count_8 (by omega) (by omega) (by rw [w_4c]; rfl) (by decide) ?_
    refine lv_aload_n X.1 X.2.1 dX12_count_82 rfl (lv_at hl 1 rfl) ?_
    have t_13 : At S_1 x 12 := tAt_sI eS_1 ha_x
    obtain ⟨v_14, ev_14⟩ : ∃ v, pI S_1 1238 x = v := ⟨_, rfl⟩
    have rg_15 := gI_12_1238 hO_2.1 t_13; rw [ev_14] at rg_15
    have pz_16 : (pI S_1 1238 x).toInt = v_14.toInt := by rw [ev_14]
    refine r_getI (g := 1238) (x := v_14) X hw t_13 rfl 38 ev_14 (by decide) rfl inn_X12_count_12 (by decide) (X.2.2.2.1 (.fieldLink RX12 290 "SilkMillModel" "skeins" "I") (by decide +kernel)) rfl (gv_1238 _ _) dX12_count_83 ?_
    rw [hQQ]
    exact ret_i X hw hr hlocks (Nat.le_of_ble_eq_true rfl) (Nat.le_of_ble_eq_true rfl) ⟨hO_2, trivial⟩ dX12_count_86
  · refine lv_tableIn (tgt := 87) X.1 X.2.1 dX12_count_8 (by omega) (by omega) (by rw [w_4c]; rfl) (by decide) ?_
    refine lv_aload_n X.1 X.2.1 dX12_count_87 rfl (lv_at hl 1 rfl) ?_
    have t_17 : At S_1 x 12 := tAt_sI eS_1 ha_x
    obtain ⟨v_18, ev_18⟩ : ∃ v, pI S_1 1245 x = v := ⟨_, rfl⟩
    have rg_20 := And.intro (z_lo v_18) (z_hi v_18)
    have pz_21 : (pI S_1 1245 x).toInt = v_18.toInt := by rw [ev_18]
    refine r_getI (g := 1245) (x := v_18) X hw t_17 rfl 45 ev_18 (by decide) rfl inn_X12_count_12 (by decide) (X.2.2.2.1 (.fieldLink RX12 302 "SilkMillModel" "today" "I") (by decide +kernel)) rfl (gv_1245 _ _) dX12_count_88 ?_
    rw [hQQ]
    exact ret_i X hw hr hlocks (Nat.le_of_ble_eq_true rfl) (Nat.le_of_ble_eq_true rfl) ⟨hO_2, trivial⟩ dX12_count_91
  · refine lv_tableIn (tgt := 92) X.1 X.2.1 dX12_count_8 (by omega) (by omega) (by rw [w_4c]; rfl) (by decide) ?_
    refine lv_aload_n X.1 X.2.1 dX12_count_92 rfl (lv_at hl 1 rfl) ?_
    have t_22 : At S_1 x 12 := tAt_sI eS_1 ha_x
    obtain ⟨v_23, ev_23⟩ : ∃ v, pI S_1 1228 x = v := ⟨_, rfl⟩
    have rg_24 := gI_12_1228 hO_2.1 t_22; rw [ev_23] at rg_24
    have pz_25 : (pI S_1 1228 x).toInt = v_23.toInt := by rw [ev_23]
    refine r_getI (g := 1228) (x := v_23) X hw t_22 rfl 28 ev_23 (by decide) rfl inn_X12_count_12 (by decide) (X.2.2.2.1 (.fieldLink RX12 211 "SilkMillModel" "taped" "I") (by decide +kernel)) rfl (gv_1228 _ _) dX12_count_93 ?_
    rw [hQQ]
    exact ret_i X hw hr hlocks (Nat.le_of_ble_eq_true rfl) (Nat.le_of_ble_eq_true rfl) ⟨hO_2, trivial⟩ dX12_count_96
  · refine lv_tableIn (tgt := 97) X.1 X.2.1 dX12_count_8 (by omega) (by omega) (by rw [w_4c]; rfl) (by decide) ?_
    refine lv_aload_n X.1 X.2.1 dX12_count_97 rfl (lv_at hl 1 rfl) ?_
    have t_26 : At S_1 x 12 := tAt_sI eS_1 ha_x
    obtain ⟨v_27, ev_27⟩ : ∃ v, pI S_1 1262 x = v := ⟨_, rfl⟩
    have rg_28 := gI_12_1262 hO_2.1 t_26; rw [ev_27] at rg_28
    have pz_29 : (pI S_1 1262 x).toInt = v_27.toInt := by rw [ev_27]
    refine r_getI (g := 1262) (x := v_27) X hw t_26 rfl 62 ev_27 (by decide) rfl inn_X12_count_12 (by decide) (X.2.2.2.1 (.fieldLink RX12 403 "SilkMillModel" "faults" "I") (by decide +kernel)) rfl (gv_1262 _ _) dX12_count_98 ?_
    rw [hQQ]
    exact ret_i X hw hr hlocks (Nat.le_of_ble_eq_true rfl) (Nat.le_of_ble_eq_true rfl) ⟨hO_2, trivial⟩ dX12_count_101
  · refine lv_tableIn (tgt := 102) X.1 X.2.1 dX12_count_8 (by omega) (by omega) (by rw [w_4c]; rfl) (by decide) ?_
    refine lv_iconst (v := 0) X.1 X.2.1 dX12_count_102 (by decide) ?_
    refine lv_istore_n (lv' := [(3, .int 0), (2, .int 0), (0, .ref x), (1, .int (a1))]) X.1 X.2.1 dX12_count_103 rfl hl (by decide) rfl (fun ls hl => ?_)
    have L_30 : ∀ (n : Nat) (H : Heap) (locs : List Loc) (ls : Array Slot) (i2_31 : Int32) (i2_31_z : Int) (i3_32 : Int32) (i3_32_z : Int), ((600 - i3_32_z).toNat = n) → (Wd G cy (AS S s.heap.size) s.heap S_1 H locs) → (i2_31.toInt = i2_31_z) → (i3_32.toInt = i3_32_z) → (0 ≤ i3_32_z ∧ i3_32_z ≤ 600) → (lv_has ls 4 [(2, .int (i2_31)), (3, .int (i3_32)), (0, .ref x), (1, .int (a1))]) → W p l e ({ frames := 6, cells := 0, slots := 0, locals := 288 }) s m [.ref x, .int (a1)].toArray below meth c H locs 0 0 QQ (F0 m 104 ls []) := by
      intro n
      induction n using Nat.strongRecOn with
      | ind n ih_L_30 =>
      intro H locs ls i2_31 i2_31_z i3_32 i3_32_z hn hw hz_i2_31 hz_i3_32 hr_i3_32 hl
      have rg_33 : (-2147483648) ≤ i2_31_z ∧ i2_31_z ≤ 2147483647 := by rw [← hz_i2_31]; exact ⟨z_lo _, z_hi _⟩
      have rg_34 : (-2147483648) ≤ i3_32_z ∧ i3_32_z ≤ 2147483647 := by rw [← hz_i3_32]; exact ⟨z_lo _, z_hi _⟩
      refine lv_iload_n X.1 X.2.1 dX12_count_104 rfl (lv_at hl 1 rfl) ?_
      refine lv_bipush (v := 60) X.1 X.2.1 dX12_count_105 (by decide) ?_
      refine lv_aload_n X.1 X.2.1 dX12_count_107 rfl (lv_at hl 2 rfl) ?_
      have t_35 : At S_1 x 12 := tAt_sI eS_1 ha_x
      obtain ⟨v_36, ev_36⟩ : ∃ v, pI S_1 1201 x = v := ⟨_, rfl⟩
      have rg_37 := gI_12_1201 hO_2.1 t_35; rw [ev_36] at rg_37
      have pz_38 : (pI S_1 1201 x).toInt = v_36.toInt := by rw [ev_36]
      refine r_getI (g := 1201) (x := v_36) X hw t_35 rfl 1 ev_36 (by decide) rfl inn_X12_count_12 (by decide) (X.2.2.2.1 (.fieldLink RX12 165 "SilkMillModel" "lots" "I") (by decide +kernel)) rfl (gv_1201 _ _) dX12_count_108 ?_
      refine lv_imul X.1 X.2.1 dX12_count_111 ?_
      refine lv_topi (fun v_39 ev_39 => ?_)
      have z_40 : v_39.toInt = 60 * v_36.toInt := z_mul ev_39 ti_60 rfl (by omega) (by omega)
      refine lv_icmp_ge (tgt := 152) X.1 X.2.1 dX12_count_112 (by decide) (fun c_41 => ?_) (fun c_41 => ?_)
      · have z_b_42 := trivial
        have k_43 : i3_32_z ≥ (60 * v_36.toInt) := z_le z_40 hz_i3_32 c_41
        refine lv_iload_n X.1 X.2.1 dX12_count_152 rfl (lv_at hl 0 rfl) ?_
        rw [hQQ]
        exact ret_i X hw hr hlocks (Nat.le_of_ble_eq_true rfl) (Nat.le_of_ble_eq_true rfl) ⟨hO_2, trivial⟩ dX12_count_153
      · have z_b_44 := trivial
        have k_45 : i3_32_z < (60 * v_36.toInt) := z_nle z_40 hz_i3_32 c_41
        refine lv_iload_n X.1 X.2.1 dX12_count_115 rfl (lv_at hl 1 rfl) ?_
        refine lv_bipush (v := 60) X.1 X.2.1 dX12_count_116 (by decide) ?_
        refine lv_irem X.1 X.2.1 dX12_count_118 (by decide) ?_
        refine lv_topi (fun v_46 ev_46 => ?_)
        have z_47 : v_46.toInt = i3_32_z % 60 := z_rem ev_46 hz_i3_32 ti_60 (by omega) (by omega)
        have z_48 : 0 ≤ v_46.toInt ∧ v_46.toInt < 60 := by rw [z_47]; exact ⟨Int.emod_nonneg _ (by omega), Int.emod_lt_of_pos _ (by omega)⟩
        refine lv_aload_n X.1 X.2.1 dX12_count_119 rfl (lv_at hl 2 rfl) ?_
        obtain ⟨q_49, h_50, h_51, h_52⟩ := gQ_12_1202 hO_2.1 t_35
        refine r_getR (g := 1202) X hw t_35 rfl 2 h_50 (by decide) rfl inn_X12_count_12 (by decide) (X.2.2.2.1 (.fieldLink RX12 7 "SilkMillModel" "lotMany" "[I") (by decide +kernel)) rfl (gv_1202 _ _) dX12_count_120 ?_
        refine lv_iload_n X.1 X.2.1 dX12_count_123 rfl (lv_at hl 1 rfl) ?_
        refine lv_bipush (v := 60) X.1 X.2.1 dX12_count_124 (by decide) ?_
        refine lv_idiv X.1 X.2.1 dX12_count_126 (by decide) ?_
        refine lv_topi (fun v_53 ev_53 => ?_)
        have z_54 : v_53.toInt = i3_32_z / 60 := z_div ev_53 hz_i3_32 ti_60 (by omega) (by omega)
        refine r_iald X hw h_51 rfl (by rw [h_52]; exact z_ix z_54 (by omega) (by omega)) dX12_count_127 ?_
        refine lv_topi (fun v_55 ev_55 => ?_)
        have z_56 := gE_254 hO_2.1 h_51 (Int32.toNatClampNeg (v_53)); rw [← ev_55] at z_56
        have ev_55 := ev_55.symm
        refine lv_icmp_ge (tgt := 146) X.1 X.2.1 dX12_count_128 (by decide) (fun c_57 => ?_) (fun c_57 => ?_)
        · have z_b_58 := trivial
          have k_59 : (i3_32_z % 60) ≥ v_55.toInt := z_le rfl z_47 c_57
          obtain ⟨x_60, ex_60⟩ : ∃ y : Int32, y = i3_32 + 1 := ⟨_, rfl⟩
          have z_61 : x_60.toInt = i3_32_z + 1 := z_add ex_60 hz_i3_32 ti_1 (by omega) (by omega)
          refine lv_iinc (v := x_60) (lv' := [(3, .int (x_60)), (2, .int (i2_31)), (0, .ref x), (1, .int (a1))]) X.1 X.2.1 dX12_count_146 hl (k := 1) rfl (by rw [ex_60]; rfl) (by decide) rfl (fun ls hl => ?_)
          refine lv_goto (tgt := 104) X.1 X.2.1 dX12_count_149 (by decide) ?_
          exact ih_L_30 _ (by omega) _ _ _ (i2_31) (i2_31_z) (x_60) (x_60.toInt) rfl hw hz_i2_31 rfl (by omega) (lv_sub hl [1, 0, 2, 3] rfl)
        · have z_b_62 := trivial
          have k_63 : (i3_32_z % 60) < v_55.toInt := z_nle rfl z_47 c_57
          refine lv_iload_n X.1 X.2.1 dX12_count_131 rfl (lv_at hl 0 rfl) ?_
          refine lv_aload_n X.1 X.2.1 dX12_count_132 rfl (lv_at hl 2 rfl) ?_
          refine lv_iload_n X.1 X.2.1 dX12_count_133 rfl (lv_at hl 1 rfl) ?_
          refine lv_iconst (v := 0) X.1 X.2.1 dX12_count_134 (by decide) ?_
          refine lv_aload_n X.1 X.2.1 dX12_count_135 rfl (lv_at hl 2 rfl) ?_
          obtain ⟨q_64, h_65, h_66, h_67⟩ := gQ_12_1208 hO_2.1 t_35
          refine r_getR (g := 1208) X hw t_35 rfl 8 h_65 (by decide) rfl inn_X12_count_12 (by decide) (X.2.2.2.1 (.fieldLink RX12 28 "SilkMillModel" "place" "[I") (by decide +kernel)) rfl (gv_1208 _ _) dX12_count_136 ?_
          refine lv_iload_n X.1 X.2.1 dX12_count_139 rfl (lv_at hl 1 rfl) ?_
          refine r_iald X hw h_66 rfl (by rw [h_67]; exact z_ix hz_i3_32 (by omega) (by omega)) dX12_count_140 ?_
          refine lv_topi (fun v_68 ev_68 => ?_)
          have z_69 := gE_374 hO_2.1 h_66 (Int32.toNatClampNeg (i3_32)); rw [← ev_68] at z_69
          have ev_68 := ev_68.symm
          have zf_70 : zA S_1 x 1208 (i3_32_z).toNat = v_68.toInt := (zA_of h_65 hz_i3_32 (by omega) ev_68)
          have m1_71 := (MI_1 (MIe_free hG ha_x hO_2.fr (by decide +kernel) hp_0) (c := i3_32_z) (by omega) (by omega)).2 (by omega); rw [zf_70] at m1_71
          have m1_72 := m1_71.1
          clear m1_71
          refine k_i (rm := { frames := 4, cells := 0, slots := 0, locals := 192 }) (av := [.ref x, .int (i3_32), .int 0, .int (v_68)]) X hw (va_runV (As := [.int (i3_32), .int 0, .int (v_68)]) (rest := [.int (i2_31)]) (cfix X) (k_X12_silk l G cy κ S_1 _ x (i3_32) (i3_32_z) (0) (0) (v_68) (v_68.toInt) hO_2.1 t_35 hz_i3_32 ti_0 rfl (by first | assumption | omega) (by first | assumption | omega) (by first | assumption | omega) (by first | assumption | omega) (by first | assumption | omega)) (cwV 3 X.2.2.2.1 gX12_count_X12_silk rfl rfl rfl (by decide +kernel) ⟨Nat.le_of_ble_eq_true rfl, Nat.le_of_ble_eq_true rfl⟩) (pre_V X hw _ t_35 rfl (by decide) rfl) rfl rfl hl.1 rfl (lv_room (Nat.le_of_ble_eq_true rfl)) dX12_count_141 ⟨Nat.le_of_ble_eq_true rfl, Nat.le_of_ble_eq_true rfl⟩) 0 0 (Nat.le_of_ble_eq_true rfl) (Nat.le_of_ble_eq_true rfl) (fun rr_73 S_74 H locs hp hw hfr hnw => ?_)
          obtain ⟨e2, hp⟩ := hp
          subst e2
          have rg_75 := And.intro (z_lo rr_73) (z_hi rr_73)
          refine lv_iadd X.1 X.2.1 dX12_count_144 ?_
          refine lv_topi (fun v_76 ev_76 => ?_)
          have rg_77 := And.intro (z_lo v_76) (z_hi v_76)
          refine lv_istore_n (lv' := [(2, .int (v_76)), (3, .int (i3_32)), (0, .ref x), (1, .int (a1))]) X.1 X.2.1 dX12_count_145 rfl hl (by decide) rfl (fun ls hl => ?_)
          obtain ⟨x_78, ex_78⟩ : ∃ y : Int32, y = i3_32 + 1 := ⟨_, rfl⟩
          have z_79 : x_78.toInt = i3_32_z + 1 := z_add ex_78 hz_i3_32 ti_1 (by omega) (by omega)
          refine lv_iinc (v := x_78) (lv' := [(3, .int (x_78)), (2, .int (v_76)), (0, .ref x), (1, .int (a1))]) X.1 X.2.1 dX12_count_146 hl (k := 1) rfl (by rw [ex_78]; rfl) (by decide) rfl (fun ls hl => ?_)
          refine lv_goto (tgt := 104) X.1 X.2.1 dX12_count_149 (by decide) ?_
          exact ih_L_30 _ (by omega) _ _ _ (v_76) (v_76.toInt) (x_78) (x_78.toInt) rfl hw rfl rfl (by omega) (lv_sub hl [1, 0, 2, 3] rfl)
    exact L_30 _ _ _ _ (0) (0) (0) (0) rfl hw ti_0 ti_0 (by omega) (lv_sub hl [1, 0, 2, 3] rfl)
  · refine lv_tableIn (tgt := 154) X.1 X.2.1 dX12_count_8 (by omega) (by omega) (by rw [w_4c]; rfl) (by decide) ?_
    refine lv_aload_n X.1 X.2.1 dX12_count_154 rfl (lv_at hl 1 rfl) ?_
    refine lv_iconst (v := 0) X.1 X.2.1 dX12_count_155 (by decide) ?_
    refine lv_aload_n X.1 X.2.1 dX12_count_156 rfl (lv_at hl 1 rfl) ?_
    have t_80 : At S_1 x 12 := tAt_sI eS_1 ha_x
    obtain ⟨q_81, h_82, h_83, h_84⟩ := gQ_12_1239 hO_2.1 t_80
    refine r_getR (g := 1239) X hw t_80 rfl 39 h_82 (by decide) rfl inn_X12_count_12 (by decide) (X.2.2.2.1 (.fieldLink RX12 100 "SilkMillModel" "firstMetre" "[I") (by decide +kernel)) rfl (gv_1239 _ _) dX12_count_157 ?_
    refine lv_aload_n X.1 X.2.1 dX12_count_160 rfl (lv_at hl 1 rfl) ?_
    obtain ⟨v_85, ev_85⟩ : ∃ v, pI S_1 1238 x = v := ⟨_, rfl⟩
    have rg_86 := gI_12_1238 hO_2.1 t_80; rw [ev_85] at rg_86
    have pz_87 : (pI S_1 1238 x).toInt = v_85.toInt := by rw [ev_85]
    refine r_getI (g := 1238) (x := v_85) X hw t_80 rfl 38 ev_85 (by decide) rfl inn_X12_count_12 (by decide) (X.2.2.2.1 (.fieldLink RX12 290 "SilkMillModel" "skeins" "I") (by decide +kernel)) rfl (gv_1238 _ _) dX12_count_161 ?_
    refine r_iald X hw h_83 rfl (by rw [h_84]; exact z_ix rfl (by omega) (by omega)) dX12_count_164 ?_
    refine lv_topi (fun v_88 ev_88 => ?_)
    have z_89 := gE_994 hO_2.1 h_83 (Int32.toNatClampNeg (v_85)); rw [← ev_88] at z_89
    have ev_88 := ev_88.symm
    have zf_90 : zA S_1 x 1239 (v_85.toInt).toNat = v_88.toInt := (zA_of h_82 rfl (by omega) ev_88)
    have m7_91 := MI_7' (MIe_free hG ha_x hO_2.fr (by decide +kernel) hp_0) (k := v_85.toInt) (by omega) (by omega); rw [zf_90] at m7_91
    refine k_i (rm := { frames := 5, cells := 0, slots := 0, locals := 240 }) (av := [.ref x, .int 0, .int (v_88)]) X hw (va_runV (As := [.int 0, .int (v_88)]) (rest := []) (cfix X) (k_X12_weight l G cy κ S_1 _ x (0) (0) (v_88) (v_88.toInt) hO_2.1 t_80 ti_0 rfl (by first | assumption | omega) (by first | assumption | omega) (by first | assumption | omega) (MIe_free hG ha_x hO_2.fr (by decide +kernel) hp_0)) (cwV 2 X.2.2.2.1 gX12_count_X12_weight rfl rfl rfl (by decide +kernel) ⟨Nat.le_of_ble_eq_true rfl, Nat.le_of_ble_eq_true rfl⟩) (pre_V X hw _ t_80 rfl (by decide) rfl) rfl rfl hl.1 rfl (lv_room (Nat.le_of_ble_eq_true rfl)) dX12_count_165 ⟨Nat.le_of_ble_eq_true rfl, Nat.le_of_ble_eq_true rfl⟩) 0 0 (Nat.le_of_ble_eq_true rfl) (Nat.le_of_ble_eq_true rfl) (fun rr_92 S_93 H locs hp hw hfr hnw => ?_)
    obtain ⟨e2, hp⟩ := hp
    subst e2
    have rg_94 := And.intro (z_lo rr_92) (z_hi rr_92)
    rw [hQQ]
    exact ret_i X hw hr hlocks (Nat.le_of_ble_eq_true rfl) (Nat.le_of_ble_eq_true rfl) ⟨hO_2, trivial⟩ dX12_count_168
  · refine lv_tableIn (tgt := 169) X.1 X.2.1 dX12_count_8 (by omega) (by omega) (by rw [w_4c]; rfl) (by decide) ?_
    refine lv_iconst (v := 0) X.1 X.2.1 dX12_count_169 (by decide) ?_
    refine lv_istore_n (lv' := [(3, .int 0), (2, .int 0), (0, .ref x), (1, .int (a1))]) X.1 X.2.1 dX12_count_170 rfl hl (by decide) rfl (fun ls hl => ?_)
    have L_95 : ∀ (n : Nat) (H : Heap) (locs : List Loc) (ls : Array Slot) (i2_96 : Int32) (i2_96_z : Int) (i3_97 : Int32) (i3_97_z : Int), ((4 - i3_97_z).toNat = n) → (Wd G cy (AS S s.heap.size) s.heap S_1 H locs) → (i2_96.toInt = i2_96_z) → (i3_97.toInt = i3_97_z) → (0 ≤ i3_97_z ∧ i3_97_z ≤ 4) → (lv_has ls 4 [(2, .int (i2_96)), (3, .int (i3_97)), (0, .ref x), (1, .int (a1))]) → W p l e ({ frames := 6, cells := 0, slots := 0, locals := 288 }) s m [.ref x, .int (a1)].toArray below meth c H locs 0 0 QQ (F0 m 171 ls []) := by
      intro n
      induction n using Nat.strongRecOn with
      | ind n ih_L_95 =>
      intro H locs ls i2_96 i2_96_z i3_97 i3_97_z hn hw hz_i2_96 hz_i3_97 hr_i3_97 hl
      have rg_98 : (-2147483648) ≤ i2_96_z ∧ i2_96_z ≤ 2147483647 := by rw [← hz_i2_96]; exact ⟨z_lo _, z_hi _⟩
      have rg_99 : (-2147483648) ≤ i3_97_z ∧ i3_97_z ≤ 2147483647 := by rw [← hz_i3_97]; exact ⟨z_lo _, z_hi _⟩
      refine lv_iload_n X.1 X.2.1 dX12_count_171 rfl (lv_at hl 1 rfl) ?_
      refine lv_aload_n X.1 X.2.1 dX12_count_172 rfl (lv_at hl 2 rfl) ?_
      have t_100 : At S_1 x 12 := tAt_sI eS_1 ha_x
      obtain ⟨v_101, ev_101⟩ : ∃ v, pI S_1 1211 x = v := ⟨_, rfl⟩
      have rg_102 := gI_12_1211 hO_2.1 t_100; rw [ev_101] at rg_102
      have pz_103 : (pI S_1 1211 x).toInt = v_101.toInt := by rw [ev_101]
      refine r_getI (g := 1211) (x := v_101) X hw t_100 rfl 11 ev_101 (by decide) rfl inn_X12_count_12 (by decide) (X.2.2.2.1 (.fieldLink RX12 197 "SilkMillModel" "pots" "I") (by decide +kernel)) rfl (gv_1211 _ _) dX12_count_173 ?_
      refine lv_icmp_ge (tgt := 203) X.1 X.2.1 dX12_count_176 (by decide) (fun c_104 => ?_) (fun c_104 => ?_)
      · have z_b_105 := trivial
        have k_106 : i3_97_z ≥ v_101.toInt := z_le rfl hz_i3_97 c_104
        refine lv_iload_n X.1 X.2.1 dX12_count_203 rfl (lv_at hl 0 rfl) ?_
        rw [hQQ]
        exact ret_i X hw hr hlocks (Nat.le_of_ble_eq_true rfl) (Nat.le_of_ble_eq_true rfl) ⟨hO_2, trivial⟩ dX12_count_204
      · have z_b_107 := trivial
        have k_108 : i3_97_z < v_101.toInt := z_nle rfl hz_i3_97 c_104
        refine lv_iload_n X.1 X.2.1 dX12_count_179 rfl (lv_at hl 0 rfl) ?_
        refine lv_aload_n X.1 X.2.1 dX12_count_180 rfl (lv_at hl 2 rfl) ?_
        refine lv_aload_n X.1 X.2.1 dX12_count_181 rfl (lv_at hl 2 rfl) ?_
        refine lv_iload_n X.1 X.2.1 dX12_count_182 rfl (lv_at hl 1 rfl) ?_
        refine k_i (rm := { frames := 1, cells := 0, slots := 0, locals := 48 }) (av := [.ref x, .int (i3_97)]) X hw (va_runV (As := [.int (i3_97)]) (rest := [.ref x, .int (i2_96)]) (cfix X) (k_X12_growing l G cy κ S_1 _ x (i3_97) (i3_97_z) hO_2.1 t_100 hz_i3_97 (by first | assumption | omega) (by first | assumption | omega)) (cwV 1 X.2.2.2.1 gX12_count_X12_growing rfl rfl rfl (by decide +kernel) ⟨Nat.le_of_ble_eq_true rfl, Nat.le_of_ble_eq_true rfl⟩) (pre_V X hw _ t_100 rfl (by decide) rfl) rfl rfl hl.1 rfl (lv_room (Nat.le_of_ble_eq_true rfl)) dX12_count_183 ⟨Nat.le_of_ble_eq_true rfl, Nat.le_of_ble_eq_true rfl⟩) 0 0 (Nat.le_of_ble_eq_true rfl) (Nat.le_of_ble_eq_true rfl) (fun rr_109 S_110 H locs hp hw hfr hnw => ?_)
        obtain ⟨e2, hp⟩ := hp
        subst e2
        have f_111 := hp
        refine lv_aload_n X.1 X.2.1 dX12_count_186 rfl (lv_at hl 2 rfl) ?_
        obtain ⟨q_112, h_113, h_114, h_115⟩ := gQ_12_1237 hO_2.1 t_100
        refine r_getR (g := 1237) X hw t_100 rfl 37 h_113 (by decide) rfl inn_X12_count_12 (by decide) (X.2.2.2.1 (.fieldLink RX12 97 "SilkMillModel" "grown" "[I") (by decide +kernel)) rfl (gv_1237 _ _) dX12_count_187 ?_
        refine lv_iload_n X.1 X.2.1 dX12_count_190 rfl (lv_at hl 1 rfl) ?_
        refine r_iald X hw h_114 rfl (by rw [h_115]; exact z_ix hz_i3_97 (by omega) (by omega)) dX12_count_191 ?_
        refine lv_topi (fun v_116 ev_116 => ?_)
        have z_117 := gE_954 hO_2.1 h_114 (Int32.toNatClampNeg (i3_97)); rw [← ev_116] at z_117
        have ev_116 := ev_116.symm
        refine k_i (rm := { frames := 5, cells := 0, slots := 0, locals := 240 }) (av := [.ref x, .int (rr_109), .int (v_116)]) X hw (va_runV (As := [.int (rr_109), .int (v_116)]) (rest := [.int (i2_96)]) (cfix X) (k_X12_weight l G cy κ S_1 _ x (rr_109) (rr_109.toInt) (v_116) (v_116.toInt) hO_2.1 t_100 rfl rfl (by first | assumption | omega) (by first | assumption | omega) (by first | assumption | omega) (MIe_free hG ha_x hO_2.fr (by decide +kernel) hp_0)) (cwV 2 X.2.2.2.1 gX12_count_X12_weight rfl rfl rfl (by decide +kernel) ⟨Nat.le_of_ble_eq_true rfl, Nat.le_of_ble_eq_true rfl⟩) (pre_V X hw _ t_100 rfl (by decide) rfl) rfl rfl hl.1 rfl (lv_room (Nat.le_of_ble_eq_true rfl)) dX12_count_192 ⟨Nat.le_of_ble_eq_true rfl, Nat.le_of_ble_eq_true rfl⟩) 0 0 (Nat.le_of_ble_eq_true rfl) (Nat.le_of_ble_eq_true rfl) (fun rr_118 S_119 H locs hp hw hfr hnw => ?_)
        obtain ⟨e2, hp⟩ := hp
        subst e2
        have rg_120 := And.intro (z_lo rr_118) (z_hi rr_118)
        refine lv_iadd X.1 X.2.1 dX12_count_195 ?_
        refine lv_topi (fun v_121 ev_121 => ?_)
        have rg_122 := And.intro (z_lo v_121) (z_hi v_121)
        refine lv_istore_n (lv' := [(2, .int (v_121)), (3, .int (i3_97)), (0, .ref x), (1, .int (a1))]) X.1 X.2.1 dX12_count_196 rfl hl (by decide) rfl (fun ls hl => ?_)
        obtain ⟨x_123, ex_123⟩ : ∃ y : Int32, y = i3_97 + 1 := ⟨_, rfl⟩
        have z_124 : x_123.toInt = i3_97_z + 1 := z_add ex_123 hz_i3_97 ti_1 (by omega) (by omega)
        refine lv_iinc (v := x_123) (lv' := [(3, .int (x_123)), (2, .int (v_121)), (0, .ref x), (1, .int (a1))]) X.1 X.2.1 dX12_count_197 hl (k := 1) rfl (by rw [ex_123]; rfl) (by decide) rfl (fun ls hl => ?_)
        refine lv_goto (tgt := 171) X.1 X.2.1 dX12_count_200 (by decide) ?_
        exact ih_L_95 _ (by omega) _ _ _ (v_121) (v_121.toInt) (x_123) (x_123.toInt) rfl hw rfl rfl (by omega) (lv_sub hl [1, 0, 2, 3] rfl)
    exact L_95 _ _ _ _ (0) (0) (0) (0) rfl hw ti_0 ti_0 (by omega) (lv_sub hl [1, 0, 2, 3] rfl)
  · refine lv_tableIn (tgt := 205) X.1 X.2.1 dX12_count_8 (by omega) (by omega) (by rw [w_4c]; rfl) (by decide) ?_
    refine lv_aload_n X.1 X.2.1 dX12_count_205 rfl (lv_at hl 1 rfl) ?_
    have t_125 : At S_1 x 12 := tAt_sI eS_1 ha_x
    obtain ⟨v_126, ev_126⟩ : ∃ v, pI S_1 1246 x = v := ⟨_, rfl⟩
    have rg_128 := And.intro (z_lo v_126) (z_hi v_126)
    have pz_129 : (pI S_1 1246 x).toInt = v_126.toInt := by rw [ev_126]
    refine r_getI (g := 1246) (x := v_126) X hw t_125 rfl 46 ev_126 (by decide) rfl inn_X12_count_12 (by decide) (X.2.2.2.1 (.fieldLink RX12 293 "SilkMillModel" "waste" "I") (by decide +kernel)) rfl (gv_1246 _ _) dX12_count_206 ?_
    rw [hQQ]
    exact ret_i X hw hr hlocks (Nat.le_of_ble_eq_true rfl) (Nat.le_of_ble_eq_true rfl) ⟨hO_2, trivial⟩ dX12_count_209
  · refine lv_tableIn (tgt := 210) X.1 X.2.1 dX12_count_8 (by omega) (by omega) (by rw [w_4c]; rfl) (by decide) ?_
    refine lv_iconst (v := 0) X.1 X.2.1 dX12_count_210 (by decide) ?_
    refine lv_istore_n (lv' := [(3, .int 0), (2, .int 0), (0, .ref x), (1, .int (a1))]) X.1 X.2.1 dX12_count_211 rfl hl (by decide) rfl (fun ls hl => ?_)
    have L_130 : ∀ (n : Nat) (H : Heap) (locs : List Loc) (ls : Array Slot) (i2_131 : Int32) (i2_131_z : Int) (i3_132 : Int32) (i3_132_z : Int), ((600 - i3_132_z).toNat = n) → (Wd G cy (AS S s.heap.size) s.heap S_1 H locs) → (i2_131.toInt = i2_131_z) → (i3_132.toInt = i3_132_z) → (0 ≤ i3_132_z ∧ i3_132_z ≤ 600) → (lv_has ls 4 [(2, .int (i2_131)), (3, .int (i3_132)), (0, .ref x), (1, .int (a1))]) → W p l e ({ frames := 6, cells := 0, slots := 0, locals := 288 }) s m [.ref x, .int (a1)].toArray below meth c H locs 0 0 QQ (F0 m 212 ls []) := by
      intro n
      induction n using Nat.strongRecOn with
      | ind n ih_L_130 =>
      intro H locs ls i2_131 i2_131_z i3_132 i3_132_z hn hw hz_i2_131 hz_i3_132 hr_i3_132 hl
      have rg_133 : (-2147483648) ≤ i2_131_z ∧ i2_131_z ≤ 2147483647 := by rw [← hz_i2_131]; exact ⟨z_lo _, z_hi _⟩
      have rg_134 : (-2147483648) ≤ i3_132_z ∧ i3_132_z ≤ 2147483647 := by rw [← hz_i3_132]; exact ⟨z_lo _, z_hi _⟩
      refine lv_iload_n X.1 X.2.1 dX12_count_212 rfl (lv_at hl 1 rfl) ?_
      refine lv_bipush (v := 60) X.1 X.2.1 dX12_count_213 (by decide) ?_
      refine lv_aload_n X.1 X.2.1 dX12_count_215 rfl (lv_at hl 2 rfl) ?_
      have t_135 : At S_1 x 12 := tAt_sI eS_1 ha_x
      obtain ⟨v_136, ev_136⟩ : ∃ v, pI S_1 1201 x = v := ⟨_, rfl⟩
      have rg_137 := gI_12_1201 hO_2.1 t_135; rw [ev_136] at rg_137
      have pz_138 : (pI S_1 1201 x).toInt = v_136.toInt := by rw [ev_136]
      refine r_getI (g := 1201) (x := v_136) X hw t_135 rfl 1 ev_136 (by decide) rfl inn_X12_count_12 (by decide) (X.2.2.2.1 (.fieldLink RX12 165 "SilkMillModel" "lots" "I") (by decide +kernel)) rfl (gv_1201 _ _) dX12_count_216 ?_
      refine lv_imul X.1 X.2.1 dX12_count_219 ?_
      refine lv_topi (fun v_139 ev_139 => ?_)
      have z_140 : v_139.toInt = 60 * v_136.toInt := z_mul ev_139 ti_60 rfl (by omega) (by omega)
      refine lv_icmp_ge (tgt := 275) X.1 X.2.1 dX12_count_220 (by decide) (fun c_141 => ?_) (fun c_141 => ?_)
      · have z_b_142 := trivial
        have k_143 : i3_132_z ≥ (60 * v_136.toInt) := z_le z_140 hz_i3_132 c_141
        refine lv_iload_n X.1 X.2.1 dX12_count_275 rfl (lv_at hl 0 rfl) ?_
        rw [hQQ]
        exact ret_i X hw hr hlocks (Nat.le_of_ble_eq_true rfl) (Nat.le_of_ble_eq_true rfl) ⟨hO_2, trivial⟩ dX12_count_276
      · have z_b_144 := trivial
        have k_145 : i3_132_z < (60 * v_136.toInt) := z_nle z_140 hz_i3_132 c_141
        refine lv_iload_n X.1 X.2.1 dX12_count_223 rfl (lv_at hl 1 rfl) ?_
        refine lv_bipush (v := 60) X.1 X.2.1 dX12_count_224 (by decide) ?_
        refine lv_irem X.1 X.2.1 dX12_count_226 (by decide) ?_
        refine lv_topi (fun v_146 ev_146 => ?_)
        have z_147 : v_146.toInt = i3_132_z % 60 := z_rem ev_146 hz_i3_132 ti_60 (by omega) (by omega)
        have z_148 : 0 ≤ v_146.toInt ∧ v_146.toInt < 60 := by rw [z_147]; exact ⟨Int.emod_nonneg _ (by omega), Int.emod_lt_of_pos _ (by omega)⟩
        refine lv_aload_n X.1 X.2.1 dX12_count_227 rfl (lv_at hl 2 rfl) ?_
        obtain ⟨q_149, h_150, h_151, h_152⟩ := gQ_12_1202 hO_2.1 t_135
        refine r_getR (g := 1202) X hw t_135 rfl 2 h_150 (by decide) rfl inn_X12_count_12 (by decide) (X.2.2.2.1 (.fieldLink RX12 7 "SilkMillModel" "lotMany" "[I") (by decide +kernel)) rfl (gv_1202 _ _) dX12_count_228 ?_
        refine lv_iload_n X.1 X.2.1 dX12_count_231 rfl (lv_at hl 1 rfl) ?_
        refine lv_bipush (v := 60) X.1 X.2.1 dX12_count_232 (by decide) ?_
        refine lv_idiv X.1 X.2.1 dX12_count_234 (by decide) ?_
        refine lv_topi (fun v_153 ev_153 => ?_)
        have z_154 : v_153.toInt = i3_132_z / 60 := z_div ev_153 hz_i3_132 ti_60 (by omega) (by omega)
        refine r_iald X hw h_151 rfl (by rw [h_152]; exact z_ix z_154 (by omega) (by omega)) dX12_count_235 ?_
        refine lv_topi (fun v_155 ev_155 => ?_)
        have z_156 := gE_254 hO_2.1 h_151 (Int32.toNatClampNeg (v_153)); rw [← ev_155] at z_156
        have ev_155 := ev_155.symm
        refine lv_icmp_ge (tgt := 269) X.1 X.2.1 dX12_count_236 (by decide) (fun c_157 => ?_) (fun c_157 => ?_)
        · have z_b_158 := trivial
          have k_159 : (i3_132_z % 60) ≥ v_155.toInt := z_le rfl z_147 c_157
          obtain ⟨x_160, ex_160⟩ : ∃ y : Int32, y = i3_132 + 1 := ⟨_, rfl⟩
          have z_161 : x_160.toInt = i3_132_z + 1 := z_add ex_160 hz_i3_132 ti_1 (by omega) (by omega)
          refine lv_iinc (v := x_160) (lv' := [(3, .int (x_160)), (2, .int (i2_131)), (0, .ref x), (1, .int (a1))]) X.1 X.2.1 dX12_count_269 hl (k := 1) rfl (by rw [ex_160]; rfl) (by decide) rfl (fun ls hl => ?_)
          refine lv_goto (tgt := 212) X.1 X.2.1 dX12_count_272 (by decide) ?_
          exact ih_L_130 _ (by omega) _ _ _ (i2_131) (i2_131_z) (x_160) (x_160.toInt) rfl hw hz_i2_131 rfl (by omega) (lv_sub hl [1, 0, 2, 3] rfl)
        · have z_b_162 := trivial
          have k_163 : (i3_132_z % 60) < v_155.toInt := z_nle rfl z_147 c_157
          refine lv_aload_n X.1 X.2.1 dX12_count_239 rfl (lv_at hl 2 rfl) ?_
          obtain ⟨q_164, h_165, h_166, h_167⟩ := gQ_12_1207 hO_2.1 t_135
          refine r_getR (g := 1207) X hw t_135 rfl 7 h_165 (by decide) rfl inn_X12_count_12 (by decide) (X.2.2.2.1 (.fieldLink RX12 25 "SilkMillModel" "stand" "[I") (by decide +kernel)) rfl (gv_1207 _ _) dX12_count_240 ?_
          refine lv_iload_n X.1 X.2.1 dX12_count_243 rfl (lv_at hl 1 rfl) ?_
          refine r_iald X hw h_166 rfl (by rw [h_167]; exact z_ix hz_i3_132 (by omega) (by omega)) dX12_count_244 ?_
          refine lv_topi (fun v_168 ev_168 => ?_)
          have rg_169 := And.intro (z_lo v_168) (z_hi v_168)
          have ev_168 := ev_168.symm
          refine lv_bipush (v := 6) X.1 X.2.1 dX12_count_245 (by decide) ?_
          refine lv_icmp_ne (tgt := 269) X.1 X.2.1 dX12_count_247 (by decide) (fun c_170 => ?_) (fun c_170 => ?_)
          · have z_b_171 := trivial
            have k_172 : v_168.toInt ≠ 6 := z_ne rfl ti_6 c_170
            obtain ⟨x_173, ex_173⟩ : ∃ y : Int32, y = i3_132 + 1 := ⟨_, rfl⟩
            have z_174 : x_173.toInt = i3_132_z + 1 := z_add ex_173 hz_i3_132 ti_1 (by omega) (by omega)
            refine lv_iinc (v := x_173) (lv' := [(3, .int (x_173)), (2, .int (i2_131)), (0, .ref x), (1, .int (a1))]) X.1 X.2.1 dX12_count_269 hl (k := 1) rfl (by rw [ex_173]; rfl) (by decide) rfl (fun ls hl => ?_)
            refine lv_goto (tgt := 212) X.1 X.2.1 dX12_count_272 (by decide) ?_
            exact ih_L_130 _ (by omega) _ _ _ (i2_131) (i2_131_z) (x_173) (x_173.toInt) rfl hw hz_i2_131 rfl (by omega) (lv_sub hl [1, 0, 2, 3] rfl)
          · have z_b_175 := trivial
            have k_176 : v_168.toInt = 6 := z_eq rfl ti_6 c_170
            refine lv_iload_n X.1 X.2.1 dX12_count_250 rfl (lv_at hl 0 rfl) ?_
            refine lv_aload_n X.1 X.2.1 dX12_count_251 rfl (lv_at hl 2 rfl) ?_
            refine lv_iload_n X.1 X.2.1 dX12_count_252 rfl (lv_at hl 1 rfl) ?_
            refine lv_aload_n X.1 X.2.1 dX12_count_253 rfl (lv_at hl 2 rfl) ?_
            obtain ⟨q_177, h_178, h_179, h_180⟩ := gQ_12_1208 hO_2.1 t_135
            refine r_getR (g := 1208) X hw t_135 rfl 8 h_178 (by decide) rfl inn_X12_count_12 (by decide) (X.2.2.2.1 (.fieldLink RX12 28 "SilkMillModel" "place" "[I") (by decide +kernel)) rfl (gv_1208 _ _) dX12_count_254 ?_
            refine lv_iload_n X.1 X.2.1 dX12_count_257 rfl (lv_at hl 1 rfl) ?_
            refine r_iald X hw h_179 rfl (by rw [h_180]; exact z_ix hz_i3_132 (by omega) (by omega)) dX12_count_258 ?_
            refine lv_topi (fun v_181 ev_181 => ?_)
            have z_182 := gE_374 hO_2.1 h_179 (Int32.toNatClampNeg (i3_132)); rw [← ev_181] at z_182
            have ev_181 := ev_181.symm
            refine lv_aload_n X.1 X.2.1 dX12_count_259 rfl (lv_at hl 2 rfl) ?_
            refine lv_iload_n X.1 X.2.1 dX12_count_260 rfl (lv_at hl 1 rfl) ?_
            refine k_i (rm := { frames := 2, cells := 0, slots := 0, locals := 96 }) (av := [.ref x, .int (i3_132)]) X hw (va_runV (As := [.int (i3_132)]) (rest := [.int (v_181), .int (i3_132), .ref x, .int (i2_131)]) (cfix X) (k_X12_lengthOf l G cy κ S_1 _ x (i3_132) (i3_132_z) hO_2.1 t_135 hz_i3_132 (by first | assumption | omega) (by first | assumption | omega)) (cwV 1 X.2.2.2.1 gX12_count_X12_lengthOf rfl rfl rfl (by decide +kernel) ⟨Nat.le_of_ble_eq_true rfl, Nat.le_of_ble_eq_true rfl⟩) (pre_V X hw _ t_135 rfl (by decide) rfl) rfl rfl hl.1 rfl (lv_room (Nat.le_of_ble_eq_true rfl)) dX12_count_261 ⟨Nat.le_of_ble_eq_true rfl, Nat.le_of_ble_eq_true rfl⟩) 0 0 (Nat.le_of_ble_eq_true rfl) (Nat.le_of_ble_eq_true rfl) (fun rr_183 S_184 H locs hp hw hfr hnw => ?_)
            obtain ⟨e2, hp⟩ := hp
            subst e2
            obtain ⟨f_185, f_186, f_187⟩ := hp
            refine k_i (rm := { frames := 4, cells := 0, slots := 0, locals := 192 }) (av := [.ref x, .int (i3_132), .int (v_181), .int (rr_183)]) X hw (va_runV (As := [.int (i3_132), .int (v_181), .int (rr_183)]) (rest := [.int (i2_131)]) (cfix X) (k_X12_silk l G cy κ S_1 _ x (i3_132) (i3_132_z) (v_181) (v_181.toInt) (rr_183) (rr_183.toInt) hO_2.1 t_135 hz_i3_132 rfl rfl (by first | assumption | omega) (by first | assumption | omega) (by first | assumption | omega) (by first | assumption | omega) (by first | assumption | omega)) (cwV 3 X.2.2.2.1 gX12_count_X12_silk rfl rfl rfl (by decide +kernel) ⟨Nat.le_of_ble_eq_true rfl, Nat.le_of_ble_eq_true rfl⟩) (pre_V X hw _ t_135 rfl (by decide) rfl) rfl rfl hl.1 rfl (lv_room (Nat.le_of_ble_eq_true rfl)) dX12_count_264 ⟨Nat.le_of_ble_eq_true rfl, Nat.le_of_ble_eq_true rfl⟩) 0 0 (Nat.le_of_ble_eq_true rfl) (Nat.le_of_ble_eq_true rfl) (fun rr_188 S_189 H locs hp hw hfr hnw => ?_)
            obtain ⟨e2, hp⟩ := hp
            subst e2
            have rg_190 := And.intro (z_lo rr_188) (z_hi rr_188)
            refine lv_iadd X.1 X.2.1 dX12_count_267 ?_
            refine lv_topi (fun v_191 ev_191 => ?_)
            have rg_192 := And.intro (z_lo v_191) (z_hi v_191)
            refine lv_istore_n (lv' := [(2, .int (v_191)), (3, .int (i3_132)), (0, .ref x), (1, .int (a1))]) X.1 X.2.1 dX12_count_268 rfl hl (by decide) rfl (fun ls hl => ?_)
            obtain ⟨x_193, ex_193⟩ : ∃ y : Int32, y = i3_132 + 1 := ⟨_, rfl⟩
            have z_194 : x_193.toInt = i3_132_z + 1 := z_add ex_193 hz_i3_132 ti_1 (by omega) (by omega)
            refine lv_iinc (v := x_193) (lv' := [(3, .int (x_193)), (2, .int (v_191)), (0, .ref x), (1, .int (a1))]) X.1 X.2.1 dX12_count_269 hl (k := 1) rfl (by rw [ex_193]; rfl) (by decide) rfl (fun ls hl => ?_)
            refine lv_goto (tgt := 212) X.1 X.2.1 dX12_count_272 (by decide) ?_
            exact ih_L_130 _ (by omega) _ _ _ (v_191) (v_191.toInt) (x_193) (x_193.toInt) rfl hw rfl rfl (by omega) (lv_sub hl [1, 0, 2, 3] rfl)
    exact L_130 _ _ _ _ (0) (0) (0) (0) rfl hw ti_0 ti_0 (by omega) (lv_sub hl [1, 0, 2, 3] rfl)
  · refine lv_tableIn (tgt := 277) X.1 X.2.1 dX12_count_8 (by omega) (by omega) (by rw [w_4c]; rfl) (by decide) ?_
    refine lv_iconst (v := 0) X.1 X.2.1 dX12_count_277 (by decide) ?_
    refine lv_istore_n (lv' := [(3, .int 0), (2, .int 0), (0, .ref x), (1, .int (a1))]) X.1 X.2.1 dX12_count_278 rfl hl (by decide) rfl (fun ls hl => ?_)
    have L_195 : ∀ (n : Nat) (H : Heap) (locs : List Loc) (ls : Array Slot) (i2_196 : Int32) (i2_196_z : Int) (i3_197 : Int32) (i3_197_z : Int), ((16 - i3_197_z).toNat = n) → (Wd G cy (AS S s.heap.size) s.heap S_1 H locs) → (i2_196.toInt = i2_196_z) → (i3_197.toInt = i3_197_z) → (0 ≤ i3_197_z ∧ i3_197_z ≤ 16) → (lv_has ls 4 [(2, .int (i2_196)), (3, .int (i3_197)), (0, .ref x), (1, .int (a1))]) → W p l e ({ frames := 6, cells := 0, slots := 0, locals := 288 }) s m [.ref x, .int (a1)].toArray below meth c H locs 0 0 QQ (F0 m 279 ls []) := by
      intro n
      induction n using Nat.strongRecOn with
      | ind n ih_L_195 =>
      intro H locs ls i2_196 i2_196_z i3_197 i3_197_z hn hw hz_i2_196 hz_i3_197 hr_i3_197 hl
      have rg_198 : (-2147483648) ≤ i2_196_z ∧ i2_196_z ≤ 2147483647 := by rw [← hz_i2_196]; exact ⟨z_lo _, z_hi _⟩
      have rg_199 : (-2147483648) ≤ i3_197_z ∧ i3_197_z ≤ 2147483647 := by rw [← hz_i3_197]; exact ⟨z_lo _, z_hi _⟩
      refine lv_iload_n X.1 X.2.1 dX12_count_279 rfl (lv_at hl 1 rfl) ?_
      refine lv_bipush (v := 16) X.1 X.2.1 dX12_count_280 (by decide) ?_
      refine lv_icmp_ge (tgt := 308) X.1 X.2.1 dX12_count_282 (by decide) (fun c_200 => ?_) (fun c_200 => ?_)
      · have z_b_201 := trivial
        have k_202 : i3_197_z ≥ 16 := z_le ti_16 hz_i3_197 c_200
        refine lv_iload_n X.1 X.2.1 dX12_count_308 rfl (lv_at hl 0 rfl) ?_
        rw [hQQ]
        exact ret_i X hw hr hlocks (Nat.le_of_ble_eq_true rfl) (Nat.le_of_ble_eq_true rfl) ⟨hO_2, trivial⟩ dX12_count_309
      · have z_b_203 := trivial
        have k_204 : i3_197_z < 16 := z_nle ti_16 hz_i3_197 c_200
        refine lv_iload_n X.1 X.2.1 dX12_count_285 rfl (lv_at hl 0 rfl) ?_
        refine lv_aload_n X.1 X.2.1 dX12_count_286 rfl (lv_at hl 2 rfl) ?_
        have t_205 : At S_1 x 12 := tAt_sI eS_1 ha_x
        obtain ⟨q_206, h_207, h_208, h_209⟩ := gQ_12_1253 hO_2.1 t_205
        refine r_getR (g := 1253) X hw t_205 rfl 53 h_207 (by decide) rfl inn_X12_count_12 (by decide) (X.2.2.2.1 (.fieldLink RX12 125 "SilkMillModel" "isLaid" "[Z") (by decide +kernel)) rfl (gv_1253 _ _) dX12_count_287 ?_
        refine lv_iload_n X.1 X.2.1 dX12_count_290 rfl (lv_at hl 1 rfl) ?_
        refine r_zald X hw h_208 rfl (by rw [h_209]; exact z_ix hz_i3_197 (by omega) (by omega)) dX12_count_291 ?_
        refine lv_topi (fun v_210 ev_210 => ?_)
        have rg_211 := And.intro (z_lo v_210) (z_hi v_210)
        have ev_210 := ev_210.symm
        refine lv_if_eq (tgt := 299) X.1 X.2.1 dX12_count_292 (by decide) (fun c_212 => ?_) (fun c_212 => ?_)
        · have z_b_213 := trivial
          have k_214 : v_210.toInt = 0 := z_eq rfl ti_0 c_212
          refine lv_iconst (v := 0) X.1 X.2.1 dX12_count_299 (by decide) ?_
          refine lv_iadd X.1 X.2.1 dX12_count_300 ?_
          refine lv_topi (fun v_215 ev_215 => ?_)
          have z_216 : v_215.toInt = i2_196_z + 0 := z_add ev_215 hz_i2_196 ti_0 (by omega) (by omega)
          refine lv_istore_n (lv' := [(2, .int (v_215)), (3, .int (i3_197)), (0, .ref x), (1, .int (a1))]) X.1 X.2.1 dX12_count_301 rfl hl (by decide) rfl (fun ls hl => ?_)
          obtain ⟨x_217, ex_217⟩ : ∃ y : Int32, y = i3_197 + 1 := ⟨_, rfl⟩
          have z_218 : x_217.toInt = i3_197_z + 1 := z_add ex_217 hz_i3_197 ti_1 (by omega) (by omega)
          refine lv_iinc (v := x_217) (lv' := [(3, .int (x_217)), (2, .int (v_215)), (0, .ref x), (1, .int (a1))]) X.1 X.2.1 dX12_count_302 hl (k := 1) rfl (by rw [ex_217]; rfl) (by decide) rfl (fun ls hl => ?_)
          refine lv_goto (tgt := 279) X.1 X.2.1 dX12_count_305 (by decide) ?_
          exact ih_L_195 _ (by omega) _ _ _ (v_215) ((i2_196_z + 0)) (x_217) (x_217.toInt) rfl hw z_216 rfl (by omega) (lv_sub hl [1, 0, 2, 3] rfl)
        · have z_b_219 := trivial
          have k_220 : v_210.toInt ≠ 0 := z_ne rfl ti_0 c_212
          refine lv_iconst (v := 1) X.1 X.2.1 dX12_count_295 (by decide) ?_
          refine lv_goto (tgt := 300) X.1 X.2.1 dX12_count_296 (by decide) ?_
          refine lv_iadd X.1 X.2.1 dX12_count_300 ?_
          refine lv_topi (fun v_221 ev_221 => ?_)
          have rg_222 := And.intro (z_lo v_221) (z_hi v_221)
          refine lv_istore_n (lv' := [(2, .int (v_221)), (3, .int (i3_197)), (0, .ref x), (1, .int (a1))]) X.1 X.2.1 dX12_count_301 rfl hl (by decide) rfl (fun ls hl => ?_)
          obtain ⟨x_223, ex_223⟩ : ∃ y : Int32, y = i3_197 + 1 := ⟨_, rfl⟩
          have z_224 : x_223.toInt = i3_197_z + 1 := z_add ex_223 hz_i3_197 ti_1 (by omega) (by omega)
          refine lv_iinc (v := x_223) (lv' := [(3, .int (x_223)), (2, .int (v_221)), (0, .ref x), (1, .int (a1))]) X.1 X.2.1 dX12_count_302 hl (k := 1) rfl (by rw [ex_223]; rfl) (by decide) rfl (fun ls hl => ?_)
          refine lv_goto (tgt := 279) X.1 X.2.1 dX12_count_305 (by decide) ?_
          exact ih_L_195 _ (by omega) _ _ _ (v_221) (v_221.toInt) (x_223) (x_223.toInt) rfl hw rfl rfl (by omega) (lv_sub hl [1, 0, 2, 3] rfl)
    exact L_195 _ _ _ _ (0) (0) (0) (0) rfl hw ti_0 ti_0 (by omega) (lv_sub hl [1, 0, 2, 3] rfl)
