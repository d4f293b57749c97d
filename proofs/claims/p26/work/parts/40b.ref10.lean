set_option maxRecDepth 20000 in
theorem ggX12_mix_X12_least : GoodIn wsX12_mix wsX12_least := goodIn_r _ [12, 13, 14, 15, 16, 17, 18, 19, 20, 21, 22, 23, 11, 24, 25, 26, 27, 28, 29, 30, 31, 32, 33, 34, 35, 36, 37, 38, 39, 40, 41, 42, 43, 44, 45, 68, 69, 70, 71, 72, 73, 74, 75, 76, 77, 78, 79, 80, 81, 82, 83, 84, 85, 86, 87, 88, 89, 90, 91, 92, 93, 94, 95, 96, 97, 98, 99, 100, 101, 102, 103, 104, 105, 106, 107, 108, 109, 110, 111, 112, 113, 114, 115, 116, 117, 118, 119, 120, 121, 122, 123, 124, 125, 126, 127, 128, 129, 130, 131, 132, 133] (by decide +kernel) (by decide +kernel)
set_option maxRecDepth 20000 in
theorem gX12_mix_X12_least : GoodIn wsX12_mix (wsV RX12 365 RX12 yX12_least wsX12_least) := goodIn_app (goodIn_of _ (by decide +kernel)) ggX12_mix_X12_least
set_option maxRecDepth 20000 in
theorem ggX12_mix_X12_weightOf : GoodIn wsX12_mix wsX12_weightOf := goodIn_r _ [49, 13, 50, 51, 52, 11, 53, 54, 55, 56, 57, 21, 22, 23, 24, 25, 26, 27, 28, 29, 30, 31, 32, 33, 34, 35, 36, 37, 38, 39, 40, 41, 42, 43, 44, 45, 68, 69, 70, 71, 72, 73, 74, 75, 76, 77, 78, 79, 80, 81, 82, 83, 84, 85, 86, 87, 88, 89, 90, 91, 92, 93, 94, 95, 96, 97, 98, 99, 100, 101, 102, 103, 104, 105, 106, 107, 108, 109, 110, 111, 112, 113, 114, 115, 116, 117, 118, 119, 120, 121, 122, 123, 124, 125, 126, 127, 128, 129, 130, 131, 132, 133] (by decide +kernel) (by decide +kernel)
set_option maxRecDepth 20000 in
theorem gX12_mix_X12_weightOf : GoodIn wsX12_mix (wsV RX12 356 RX12 yX12_weightOf wsX12_weightOf) := goodIn_app (goodIn_of _ (by decide +kernel)) ggX12_mix_X12_weightOf
set_option maxRecDepth 20000 in
theorem ggX12_mix_X12_priceOf : GoodIn wsX12_mix wsX12_priceOf := goodIn_r _ [61, 62, 46, 47, 48, 11, 49, 13, 50, 51, 52, 53, 54, 55, 56, 57, 21, 22, 23, 24, 25, 26, 27, 28, 29, 30, 31, 32, 33, 34, 35, 36, 37, 38, 39, 40, 41, 42, 43, 44, 45, 63, 64, 65, 66, 67, 68, 69, 70, 71, 72, 73, 74, 75, 76, 77, 78, 79, 80, 81, 82, 83, 84, 85, 86, 87, 88, 89, 90, 91, 92, 93, 94, 95, 96, 97, 98, 99, 100, 101, 102, 103, 104, 105, 106, 107, 108, 109, 110, 111, 112, 113, 114, 115, 116, 117, 118, 119, 120, 121, 122, 123, 124, 125, 126, 127, 128, 129, 130, 131, 132, 133] (by decide +kernel) (by decide +kernel)
set_option maxRecDepth 20000 in
theorem gX12_mix_X12_priceOf : GoodIn wsX12_mix (wsV RX12 375 RX12 yX12_priceOf wsX12_priceOf) := goodIn_app (goodIn_of _ (by decide +kernel)) ggX12_mix_X12_priceOf
theorem dX12_mix_0 : decode cX12_mix 0 = .ok (.aload_n 0, 1) := by decide +kernel
theorem dX12_mix_1 : decode cX12_mix 1 = .ok (.iconst 0, 1) := by decide +kernel
theorem dX12_mix_2 : decode cX12_mix 2 = .ok (.putfield 161, 3) := by decide +kernel
theorem dX12_mix_5 : decode cX12_mix 5 = .ok (.iconst 0, 1) := by decide +kernel
theorem dX12_mix_6 : decode cX12_mix 6 = .ok (.istore 5, 2) := by decide +kernel
theorem dX12_mix_8 : decode cX12_mix 8 = .ok (.iconst 0, 1) := by decide +kernel
theorem dX12_mix_9 : decode cX12_mix 9 = .ok (.istore 6, 2) := by decide +kernel
theorem dX12_mix_11 : decode cX12_mix 11 = .ok (.iload 6, 2) := by decide +kernel
theorem dX12_mix_13 : decode cX12_mix 13 = .ok (.aload_n 0, 1) := by decide +kernel
theorem dX12_mix_14 : decode cX12_mix 14 = .ok (.getfield 290, 3) := by decide +kernel
theorem dX12_mix_17 : decode cX12_mix 17 = .ok (.if_icmp .ge 93, 3) := by decide +kernel
theorem dX12_mix_20 : decode cX12_mix 20 = .ok (.iload 5, 2) := by decide +kernel
theorem dX12_mix_22 : decode cX12_mix 22 = .ok (.bipush 14, 2) := by decide +kernel
theorem dX12_mix_24 : decode cX12_mix 24 = .ok (.if_icmp .ge 86, 3) := by decide +kernel
theorem dX12_mix_27 : decode cX12_mix 27 = .ok (.iload_n 1, 1) := by decide +kernel
theorem dX12_mix_28 : decode cX12_mix 28 = .ok (.ifCond .le 82, 3) := by decide +kernel
theorem dX12_mix_31 : decode cX12_mix 31 = .ok (.aload_n 0, 1) := by decide +kernel
theorem dX12_mix_32 : decode cX12_mix 32 = .ok (.getfield 115, 3) := by decide +kernel
theorem dX12_mix_35 : decode cX12_mix 35 = .ok (.iload 6, 2) := by decide +kernel
theorem dX12_mix_37 : decode cX12_mix 37 = .ok (.baload, 1) := by decide +kernel
theorem dX12_mix_38 : decode cX12_mix 38 = .ok (.ifCond .ne 66, 3) := by decide +kernel
theorem dX12_mix_41 : decode cX12_mix 41 = .ok (.aload_n 0, 1) := by decide +kernel
theorem dX12_mix_42 : decode cX12_mix 42 = .ok (.iload 6, 2) := by decide +kernel
theorem dX12_mix_44 : decode cX12_mix 44 = .ok (.iconst 0, 1) := by decide +kernel
theorem dX12_mix_45 : decode cX12_mix 45 = .ok (.invokevirtual 365, 3) := by decide +kernel
theorem dX12_mix_48 : decode cX12_mix 48 = .ok (.iload_n 2, 1) := by decide +kernel
theorem dX12_mix_49 : decode cX12_mix 49 = .ok (.if_icmp .lt 55, 3) := by decide +kernel
theorem dX12_mix_52 : decode cX12_mix 52 = .ok (.aload_n 0, 1) := by decide +kernel
theorem dX12_mix_53 : decode cX12_mix 53 = .ok (.iload 6, 2) := by decide +kernel
theorem dX12_mix_55 : decode cX12_mix 55 = .ok (.iconst 1, 1) := by decide +kernel
theorem dX12_mix_56 : decode cX12_mix 56 = .ok (.invokevirtual 365, 3) := by decide +kernel
theorem dX12_mix_59 : decode cX12_mix 59 = .ok (.iload_n 3, 1) := by decide +kernel
theorem dX12_mix_60 : decode cX12_mix 60 = .ok (.if_icmp .le 6, 3) := by decide +kernel
theorem dX12_mix_63 : decode cX12_mix 63 = .ok (.goto 41, 3) := by decide +kernel
theorem dX12_mix_66 : decode cX12_mix 66 = .ok (.aload_n 0, 1) := by decide +kernel
theorem dX12_mix_67 : decode cX12_mix 67 = .ok (.getfield 140, 3) := by decide +kernel
theorem dX12_mix_70 : decode cX12_mix 70 = .ok (.iload 5, 2) := by decide +kernel
theorem dX12_mix_72 : decode cX12_mix 72 = .ok (.iload 6, 2) := by decide +kernel
theorem dX12_mix_74 : decode cX12_mix 74 = .ok (.iastore, 1) := by decide +kernel
theorem dX12_mix_75 : decode cX12_mix 75 = .ok (.aload_n 0, 1) := by decide +kernel
theorem dX12_mix_76 : decode cX12_mix 76 = .ok (.getfield 143, 3) := by decide +kernel
theorem dX12_mix_79 : decode cX12_mix 79 = .ok (.iload 5, 2) := by decide +kernel
theorem dX12_mix_81 : decode cX12_mix 81 = .ok (.aload_n 0, 1) := by decide +kernel
theorem dX12_mix_82 : decode cX12_mix 82 = .ok (.iload 6, 2) := by decide +kernel
theorem dX12_mix_84 : decode cX12_mix 84 = .ok (.invokevirtual 356, 3) := by decide +kernel
theorem dX12_mix_87 : decode cX12_mix 87 = .ok (.iastore, 1) := by decide +kernel
theorem dX12_mix_88 : decode cX12_mix 88 = .ok (.aload_n 0, 1) := by decide +kernel
theorem dX12_mix_89 : decode cX12_mix 89 = .ok (.getfield 146, 3) := by decide +kernel
theorem dX12_mix_92 : decode cX12_mix 92 = .ok (.iload 5, 2) := by decide +kernel
theorem dX12_mix_94 : decode cX12_mix 94 = .ok (.aload_n 0, 1) := by decide +kernel
theorem dX12_mix_95 : decode cX12_mix 95 = .ok (.iload 6, 2) := by decide +kernel
theorem dX12_mix_97 : decode cX12_mix 97 = .ok (.invokevirtual 375, 3) := by decide +kernel
theorem dX12_mix_100 : decode cX12_mix 100 = .ok (.iastore, 1) := by decide +kernel
theorem dX12_mix_101 : decode cX12_mix 101 = .ok (.iinc 5 1, 3) := by decide +kernel
theorem dX12_mix_104 : decode cX12_mix 104 = .ok (.iinc 6 1, 3) := by decide +kernel
theorem dX12_mix_107 : decode cX12_mix 107 = .ok (.goto (-96), 3) := by decide +kernel
theorem dX12_mix_110 : decode cX12_mix 110 = .ok (.iconst 0, 1) := by decide +kernel
theorem dX12_mix_111 : decode cX12_mix 111 = .ok (.istore 6, 2) := by decide +kernel
theorem dX12_mix_113 : decode cX12_mix 113 = .ok (.iconst (-1), 1) := by decide +kernel
theorem dX12_mix_114 : decode cX12_mix 114 = .ok (.istore 7, 2) := by decide +kernel
theorem dX12_mix_116 : decode cX12_mix 116 = .ok (.iconst 1, 1) := by decide +kernel
theorem dX12_mix_117 : decode cX12_mix 117 = .ok (.istore 8, 2) := by decide +kernel
theorem dX12_mix_119 : decode cX12_mix 119 = .ok (.iload 8, 2) := by decide +kernel
theorem dX12_mix_121 : decode cX12_mix 121 = .ok (.iconst 1, 1) := by decide +kernel
theorem dX12_mix_122 : decode cX12_mix 122 = .ok (.iload 5, 2) := by decide +kernel
theorem dX12_mix_124 : decode cX12_mix 124 = .ok (.ishl, 1) := by decide +kernel
theorem dX12_mix_125 : decode cX12_mix 125 = .ok (.if_icmp .ge 139, 3) := by decide +kernel
theorem dX12_mix_128 : decode cX12_mix 128 = .ok (.iconst 0, 1) := by decide +kernel
theorem dX12_mix_129 : decode cX12_mix 129 = .ok (.istore 9, 2) := by decide +kernel
theorem dX12_mix_131 : decode cX12_mix 131 = .ok (.iconst 0, 1) := by decide +kernel
theorem dX12_mix_132 : decode cX12_mix 132 = .ok (.istore 10, 2) := by decide +kernel
theorem dX12_mix_134 : decode cX12_mix 134 = .ok (.iconst 0, 1) := by decide +kernel
theorem dX12_mix_135 : decode cX12_mix 135 = .ok (.istore 11, 2) := by decide +kernel
theorem dX12_mix_137 : decode cX12_mix 137 = .ok (.iload 11, 2) := by decide +kernel
theorem dX12_mix_139 : decode cX12_mix 139 = .ok (.iload 5, 2) := by decide +kernel
theorem dX12_mix_141 : decode cX12_mix 141 = .ok (.if_icmp .ge 46, 3) := by decide +kernel
theorem dX12_mix_144 : decode cX12_mix 144 = .ok (.iload 8, 2) := by decide +kernel
theorem dX12_mix_146 : decode cX12_mix 146 = .ok (.iload 11, 2) := by decide +kernel
theorem dX12_mix_148 : decode cX12_mix 148 = .ok (.ishr, 1) := by decide +kernel
theorem dX12_mix_149 : decode cX12_mix 149 = .ok (.iconst 1, 1) := by decide +kernel
theorem dX12_mix_150 : decode cX12_mix 150 = .ok (.iand, 1) := by decide +kernel
theorem dX12_mix_151 : decode cX12_mix 151 = .ok (.ifCond .ne 6, 3) := by decide +kernel
theorem dX12_mix_154 : decode cX12_mix 154 = .ok (.goto 27, 3) := by decide +kernel
theorem dX12_mix_157 : decode cX12_mix 157 = .ok (.iload 9, 2) := by decide +kernel
theorem dX12_mix_159 : decode cX12_mix 159 = .ok (.aload_n 0, 1) := by decide +kernel
theorem dX12_mix_160 : decode cX12_mix 160 = .ok (.getfield 143, 3) := by decide +kernel
theorem dX12_mix_163 : decode cX12_mix 163 = .ok (.iload 11, 2) := by decide +kernel
theorem dX12_mix_165 : decode cX12_mix 165 = .ok (.iaload, 1) := by decide +kernel
theorem dX12_mix_166 : decode cX12_mix 166 = .ok (.iadd, 1) := by decide +kernel
theorem dX12_mix_167 : decode cX12_mix 167 = .ok (.istore 9, 2) := by decide +kernel
theorem dX12_mix_169 : decode cX12_mix 169 = .ok (.iload 10, 2) := by decide +kernel
theorem dX12_mix_171 : decode cX12_mix 171 = .ok (.aload_n 0, 1) := by decide +kernel
theorem dX12_mix_172 : decode cX12_mix 172 = .ok (.getfield 146, 3) := by decide +kernel
theorem dX12_mix_175 : decode cX12_mix 175 = .ok (.iload 11, 2) := by decide +kernel
theorem dX12_mix_177 : decode cX12_mix 177 = .ok (.iaload, 1) := by decide +kernel
theorem dX12_mix_178 : decode cX12_mix 178 = .ok (.iadd, 1) := by decide +kernel
theorem dX12_mix_179 : decode cX12_mix 179 = .ok (.istore 10, 2) := by decide +kernel
theorem dX12_mix_181 : decode cX12_mix 181 = .ok (.iinc 11 1, 3) := by decide +kernel
theorem dX12_mix_184 : decode cX12_mix 184 = .ok (.goto (-47), 3) := by decide +kernel
theorem dX12_mix_187 : decode cX12_mix 187 = .ok (.iload 9, 2) := by decide +kernel
theorem dX12_mix_189 : decode cX12_mix 189 = .ok (.iload_n 1, 1) := by decide +kernel
theorem dX12_mix_190 : decode cX12_mix 190 = .ok (.if_icmp .ge 6, 3) := by decide +kernel
theorem dX12_mix_193 : decode cX12_mix 193 = .ok (.goto 65, 3) := by decide +kernel
theorem dX12_mix_196 : decode cX12_mix 196 = .ok (.iload 8, 2) := by decide +kernel
theorem dX12_mix_198 : decode cX12_mix 198 = .ok (.iload 6, 2) := by decide +kernel
theorem dX12_mix_200 : decode cX12_mix 200 = .ok (.ixor, 1) := by decide +kernel
theorem dX12_mix_201 : decode cX12_mix 201 = .ok (.istore 11, 2) := by decide +kernel
theorem dX12_mix_203 : decode cX12_mix 203 = .ok (.iload 8, 2) := by decide +kernel
theorem dX12_mix_205 : decode cX12_mix 205 = .ok (.iload 11, 2) := by decide +kernel
theorem dX12_mix_207 : decode cX12_mix 207 = .ok (.iand, 1) := by decide +kernel
theorem dX12_mix_208 : decode cX12_mix 208 = .ok (.iload 11, 2) := by decide +kernel
theorem dX12_mix_210 : decode cX12_mix 210 = .ok (.ineg, 1) := by decide +kernel
theorem dX12_mix_211 : decode cX12_mix 211 = .ok (.iand, 1) := by decide +kernel
theorem dX12_mix_212 : decode cX12_mix 212 = .ok (.ifCond .eq 7, 3) := by decide +kernel
theorem dX12_mix_215 : decode cX12_mix 215 = .ok (.iconst 1, 1) := by decide +kernel
theorem dX12_mix_216 : decode cX12_mix 216 = .ok (.goto 4, 3) := by decide +kernel
theorem dX12_mix_219 : decode cX12_mix 219 = .ok (.iconst 0, 1) := by decide +kernel
theorem dX12_mix_220 : decode cX12_mix 220 = .ok (.istore 12, 2) := by decide +kernel
theorem dX12_mix_222 : decode cX12_mix 222 = .ok (.iload 7, 2) := by decide +kernel
theorem dX12_mix_224 : decode cX12_mix 224 = .ok (.iconst (-1), 1) := by decide +kernel
theorem dX12_mix_225 : decode cX12_mix 225 = .ok (.if_icmp .eq 25, 3) := by decide +kernel
theorem dX12_mix_228 : decode cX12_mix 228 = .ok (.iload 10, 2) := by decide +kernel
theorem dX12_mix_230 : decode cX12_mix 230 = .ok (.iload 7, 2) := by decide +kernel
theorem dX12_mix_232 : decode cX12_mix 232 = .ok (.if_icmp .gt 26, 3) := by decide +kernel
theorem dX12_mix_235 : decode cX12_mix 235 = .ok (.iload 10, 2) := by decide +kernel
theorem dX12_mix_237 : decode cX12_mix 237 = .ok (.iload 7, 2) := by decide +kernel
theorem dX12_mix_239 : decode cX12_mix 239 = .ok (.if_icmp .ne 11, 3) := by decide +kernel
theorem dX12_mix_242 : decode cX12_mix 242 = .ok (.iload 12, 2) := by decide +kernel
theorem dX12_mix_244 : decode cX12_mix 244 = .ok (.ifCond .ne 6, 3) := by decide +kernel
theorem dX12_mix_247 : decode cX12_mix 247 = .ok (.goto 11, 3) := by decide +kernel
theorem dX12_mix_250 : decode cX12_mix 250 = .ok (.iload 8, 2) := by decide +kernel
theorem dX12_mix_252 : decode cX12_mix 252 = .ok (.istore 6, 2) := by decide +kernel
theorem dX12_mix_254 : decode cX12_mix 254 = .ok (.iload 10, 2) := by decide +kernel
theorem dX12_mix_256 : decode cX12_mix 256 = .ok (.istore 7, 2) := by decide +kernel
theorem dX12_mix_258 : decode cX12_mix 258 = .ok (.iinc 8 1, 3) := by decide +kernel
theorem dX12_mix_261 : decode cX12_mix 261 = .ok (.goto (-142), 3) := by decide +kernel
theorem dX12_mix_264 : decode cX12_mix 264 = .ok (.iload 7, 2) := by decide +kernel
theorem dX12_mix_266 : decode cX12_mix 266 = .ok (.iconst (-1), 1) := by decide +kernel
theorem dX12_mix_267 : decode cX12_mix 267 = .ok (.if_icmp .ne 5, 3) := by decide +kernel
theorem dX12_mix_270 : decode cX12_mix 270 = .ok (.iconst (-1), 1) := by decide +kernel
theorem dX12_mix_271 : decode cX12_mix 271 = .ok (.ireturn, 1) := by decide +kernel
theorem dX12_mix_272 : decode cX12_mix 272 = .ok (.iconst 0, 1) := by decide +kernel
theorem dX12_mix_273 : decode cX12_mix 273 = .ok (.istore 8, 2) := by decide +kernel
theorem dX12_mix_275 : decode cX12_mix 275 = .ok (.iload 8, 2) := by decide +kernel
theorem dX12_mix_277 : decode cX12_mix 277 = .ok (.bipush 40, 2) := by decide +kernel
theorem dX12_mix_279 : decode cX12_mix 279 = .ok (.if_icmp .ge 17, 3) := by decide +kernel
theorem dX12_mix_282 : decode cX12_mix 282 = .ok (.aload_n 0, 1) := by decide +kernel
theorem dX12_mix_283 : decode cX12_mix 283 = .ok (.getfield 149, 3) := by decide +kernel
theorem dX12_mix_286 : decode cX12_mix 286 = .ok (.iload 8, 2) := by decide +kernel
theorem dX12_mix_288 : decode cX12_mix 288 = .ok (.iconst 0, 1) := by decide +kernel
theorem dX12_mix_289 : decode cX12_mix 289 = .ok (.bastore, 1) := by decide +kernel
theorem dX12_mix_290 : decode cX12_mix 290 = .ok (.iinc 8 1, 3) := by decide +kernel
theorem dX12_mix_293 : decode cX12_mix 293 = .ok (.goto (-18), 3) := by decide +kernel
theorem dX12_mix_296 : decode cX12_mix 296 = .ok (.iconst 0, 1) := by decide +kernel
theorem dX12_mix_297 : decode cX12_mix 297 = .ok (.istore 8, 2) := by decide +kernel
theorem dX12_mix_299 : decode cX12_mix 299 = .ok (.iload 8, 2) := by decide +kernel
theorem dX12_mix_301 : decode cX12_mix 301 = .ok (.iload 5, 2) := by decide +kernel
theorem dX12_mix_303 : decode cX12_mix 303 = .ok (.if_icmp .ge 53, 3) := by decide +kernel
theorem dX12_mix_306 : decode cX12_mix 306 = .ok (.iload 6, 2) := by decide +kernel
theorem dX12_mix_308 : decode cX12_mix 308 = .ok (.iload 8, 2) := by decide +kernel
theorem dX12_mix_310 : decode cX12_mix 310 = .ok (.ishr, 1) := by decide +kernel
theorem dX12_mix_311 : decode cX12_mix 311 = .ok (.iconst 1, 1) := by decide +kernel
theorem dX12_mix_312 : decode cX12_mix 312 = .ok (.iand, 1) := by decide +kernel
theorem dX12_mix_313 : decode cX12_mix 313 = .ok (.ifCond .ne 6, 3) := by decide +kernel
theorem dX12_mix_316 : decode cX12_mix 316 = .ok (.goto 34, 3) := by decide +kernel
theorem dX12_mix_319 : decode cX12_mix 319 = .ok (.aload_n 0, 1) := by decide +kernel
theorem dX12_mix_320 : decode cX12_mix 320 = .ok (.getfield 149, 3) := by decide +kernel
theorem dX12_mix_323 : decode cX12_mix 323 = .ok (.aload_n 0, 1) := by decide +kernel
theorem dX12_mix_324 : decode cX12_mix 324 = .ok (.getfield 140, 3) := by decide +kernel
theorem dX12_mix_327 : decode cX12_mix 327 = .ok (.iload 8, 2) := by decide +kernel
theorem dX12_mix_329 : decode cX12_mix 329 = .ok (.iaload, 1) := by decide +kernel
theorem dX12_mix_330 : decode cX12_mix 330 = .ok (.iconst 1, 1) := by decide +kernel
theorem dX12_mix_331 : decode cX12_mix 331 = .ok (.bastore, 1) := by decide +kernel
theorem dX12_mix_332 : decode cX12_mix 332 = .ok (.iload 4, 2) := by decide +kernel
theorem dX12_mix_334 : decode cX12_mix 334 = .ok (.ifCond .eq 16, 3) := by decide +kernel
theorem dX12_mix_337 : decode cX12_mix 337 = .ok (.aload_n 0, 1) := by decide +kernel
theorem dX12_mix_338 : decode cX12_mix 338 = .ok (.getfield 115, 3) := by decide +kernel
theorem dX12_mix_341 : decode cX12_mix 341 = .ok (.aload_n 0, 1) := by decide +kernel
theorem dX12_mix_342 : decode cX12_mix 342 = .ok (.getfield 140, 3) := by decide +kernel
theorem dX12_mix_345 : decode cX12_mix 345 = .ok (.iload 8, 2) := by decide +kernel
theorem dX12_mix_347 : decode cX12_mix 347 = .ok (.iaload, 1) := by decide +kernel
theorem dX12_mix_348 : decode cX12_mix 348 = .ok (.iconst 1, 1) := by decide +kernel
theorem dX12_mix_349 : decode cX12_mix 349 = .ok (.bastore, 1) := by decide +kernel
theorem dX12_mix_350 : decode cX12_mix 350 = .ok (.iinc 8 1, 3) := by decide +kernel
theorem dX12_mix_353 : decode cX12_mix 353 = .ok (.goto (-54), 3) := by decide +kernel
theorem dX12_mix_356 : decode cX12_mix 356 = .ok (.iload 7, 2) := by decide +kernel
theorem dX12_mix_358 : decode cX12_mix 358 = .ok (.ireturn, 1) := by decide +kernel
theorem inn_X12_mix_12 : ∀ w ∈ u_ws RX12 TX12 66, w ∈ wsX12_mix := fun w h => List.mem_cons_of_mem _ (List.mem_append_right _ h)
set_option maxHeartbeats 4000000 in
set_option maxRecDepth 100000 in
theorem k_X12_mix (l : Launch) (G : va_G) (cy : Nat → ClassId) (κ : Nat → Nat) (S : PS) (sz : Nat) (x : Nat) (a1 : Int32) (a1_z : Int) (a2 : Int32) (a2_z : Int) (a3 : Int32) (a3_z : Int) (a4 : Int32) (a4_z : Int) (hG : GX S) (ha_x : At S x 12) (hz_a1 : a1.toInt = a1_z) (hz_a2 : a2.toInt = a2_z) (hz_a3 : a3.toInt = a3_z) (hz_a4 : a4.toInt = a4_z) (hp_0 : MI S x) : Ci l yX12_mix wsX12_mix ({ frames := 8, cells := 0, slots := 0, locals := 384 }) G cy κ S sz [.ref x, .int (a1), .int (a2), .int (a3), .int (a4)] (fun (r : Int32) (S9 : PS) => Ok MN S S9 ∧ (True)) := by
  refine ent_m (cc := cX12_mix) (maxL := 13) (ret := (some .int)) (by decide) rfl (Nat.le_of_ble_eq_true rfl) ?_
  intro p e s m below meth c ls X hr hlocks hin hw hl hsz
  subst hsz
  have X : Cx p c cX12_mix 13 s [.ref x, .int (a1), .int (a2), .int (a3), .int (a4)].toArray wsX12_mix RX12 m G cy κ (AS S s.heap.size) := X
  have hl : lv_has ls 13 [(0, .ref x), (1, .int (a1)), (2, .int (a2)), (3, .int (a3)), (4, .int (a4))] := hl
  have rg_a1 : (-2147483648) ≤ a1_z ∧ a1_z ≤ 2147483647 := by rw [← hz_a1]; exact ⟨z_lo _, z_hi _⟩
  have rg_a2 : (-2147483648) ≤ a2_z ∧ a2_z ≤ 2147483647 := by rw [← hz_a2]; exact ⟨z_lo _, z_hi _⟩
  have rg_a3 : (-2147483648) ≤ a3_z ∧ a3_z ≤ 2147483647 := by rw [← hz_a3]; exact ⟨z_lo _, z_hi _⟩
  have rg_a4 : (-2147483648) ≤ a4_z ∧ a4_z ≤ 2147483647 := by rw [← hz_a4]; exact ⟨z_lo _, z_hi _⟩
  have hO : Ok MN S S := Ok.rf hG
  generalize hQQ : MQ below _ _ _ _ _ _ = QQ
  replace hQQ := hQQ.symm
  refine lv_aload_n X.1 X.2.1 dX12_mix_0 rfl (lv_at hl 0 rfl) ?_
  refine lv_iconst (v := 0) X.1 X.2.1 dX12_mix_1 (by decide) ?_
  refine r_putI (v := 0) X hw ha_x rfl 0 1200 tyX12 (by decide) rfl inn_X12_mix_12 tyX12_ok nmX12 (by decide) (X.2.2.2.1 (.fieldLink RX12 161 "SilkMillModel" "thrown" "I") (by decide +kernel)) rfl (Or.inl rfl) rfl rfl (Nat.le_of_ble_eq_true rfl) (st_1200 _ _) dX12_mix_2 (fun H locs hw => ?_)
  obtain ⟨S_1, eS_1⟩ : ∃ T, T = sI S 1200 x (0) := ⟨_, rfl⟩
  rw [← eS_1] at hw
  have hO_2 : Ok MN S S_1 := hO.sI eS_1 (by decide +kernel) (uI_12_1200 hO.1 ha_x)
  have h_3 : pI S_1 1200 x = 0 := tI_sIs eS_1
  refine lv_iconst (v := 0) X.1 X.2.1 dX12_mix_5 (by decide) ?_
  refine lv_istore (lv' := [(5, .int 0), (0, .ref x), (1, .int (a1)), (2, .int (a2)), (3, .int (a3)), (4, .int (a4))]) X.1 X.2.1 dX12_mix_6 hl (by decide) rfl (fun ls hl => ?_)
  refine lv_iconst (v := 0) X.1 X.2.1 dX12_mix_8 (by decide) ?_
  refine lv_istore (lv' := [(6, .int 0), (5, .int 0), (0, .ref x), (1, .int (a1)), (2, .int (a2)), (3, .int (a3)), (4, .int (a4))]) X.1 X.2.1 dX12_mix_9 hl (by decide) rfl (fun ls hl => ?_)
  have L_4 : ∀ (n : Nat) (T_7 : PS) (H : Heap) (locs : List Loc) (ls : Array Slot) (i5_5 : Int32) (i5_5_z : Int) (i6_6 : Int32) (i6_6_z : Int), ((40 - i6_6_z).toNat = n) → (Wd G cy (AS S s.heap.size) s.heap T_7 H locs) → (i5_5.toInt = i5_5_z) → (0 ≤ i5_5_z ∧ i5_5_z ≤ 14) → (i6_6.toInt = i6_6_z) → (0 ≤ i6_6_z ∧ i6_6_z ≤ 40) → (At T_7 x 12) → (Ok MN S T_7) → (lv_has ls 13 [(5, .int (i5_5)), (6, .int (i6_6)), (0, .ref x), (1, .int (a1)), (2, .int (a2)), (3, .int (a3)), (4, .int (a4))]) → W p l e ({ frames := 8, cells := 0, slots := 0, locals := 384 }) s m [.ref x, .int (a1), .int (a2), .int (a3), .int (a4)].toArray below meth c H locs 0 0 QQ (F0 m 11 ls []) := by
    intro n
    induction n using Nat.strongRecOn with
    | ind n ih_L_4 =>
    intro T_7 H locs ls i5_5 i5_5_z i6_6 i6_6_z hn hw hz_i5_5 hr_i5_5 hz_i6_6 hr_i6_6 ha_x_L_8 hO_T_7 hl
    have rg_9 : (-2147483648) ≤ i5_5_z ∧ i5_5_z ≤ 2147483647 := by rw [← hz_i5_5]; exact ⟨z_lo _, z_hi _⟩
    have rg_10 : (-2147483648) ≤ i6_6_z ∧ i6_6_z ≤ 2147483647 := by rw [← hz_i6_6]; exact ⟨z_lo _, z_hi _⟩
    refine lv_iload X.1 X.2.1 dX12_mix_11 (lv_at hl 1 rfl) ?_
    refine lv_aload_n X.1 X.2.1 dX12_mix_13 rfl (lv_at hl 2 rfl) ?_
    obtain ⟨v_11, ev_11⟩ : ∃ v, pI T_7 1238 x = v := ⟨_, rfl⟩
    have rg_12 := gI_12_1238 hO_T_7.1 ha_x_L_8; rw [ev_11] at rg_12
    have pz_13 : (pI T_7 1238 x).toInt = v_11.toInt := by rw [ev_11]
    refine r_getI (g := 1238) (x := v_11) X hw ha_x_L_8 rfl 38 ev_11 (by decide) rfl inn_X12_mix_12 (by decide) (X.2.2.2.1 (.fieldLink RX12 290 "SilkMillModel" "skeins" "I") (by decide +kernel)) rfl (gv_1238 _ _) dX12_mix_14 ?_
    refine lv_icmp_ge (tgt := 110) X.1 X.2.1 dX12_mix_17 (by decide) (fun c_14 => ?_) (fun c_14 => ?_)
    · have z_b_15 := trivial
      have k_16 : i6_6_z ≥ v_11.toInt := z_le rfl hz_i6_6 c_14
      refine lv_iconst (v := 0) X.1 X.2.1 dX12_mix_110 (by decide) ?_
      refine lv_istore (lv' := [(6, .int 0), (5, .int (i5_5)), (0, .ref x), (1, .int (a1)), (2, .int (a2)), (3, .int (a3)), (4, .int (a4))]) X.1 X.2.1 dX12_mix_111 hl (by decide) rfl (fun ls hl => ?_)
      refine lv_iconst (v := (-1)) X.1 X.2.1 dX12_mix_113 (by decide) ?_
      refine lv_istore (lv' := [(7, .int (-1)), (6, .int 0), (5, .int (i5_5)), (0, .ref x), (1, .int (a1)), (2, .int (a2)), (3, .int (a3)), (4, .int (a4))]) X.1 X.2.1 dX12_mix_114 hl (by decide) rfl (fun ls hl => ?_)
      refine lv_iconst (v := 1) X.1 X.2.1 dX12_mix_116 (by decide) ?_
      refine lv_istore (lv' := [(8, .int 1), (7, .int (-1)), (6, .int 0), (5, .int (i5_5)), (0, .ref x), (1, .int (a1)), (2, .int (a2)), (3, .int (a3)), (4, .int (a4))]) X.1 X.2.1 dX12_mix_117 hl (by decide) rfl (fun ls hl => ?_)
      have L_17 : ∀ (n : Nat) (H : Heap) (locs : List Loc) (ls : Array Slot) (i6_18 : Int32) (i6_18_z : Int) (i7_19 : Int32) (i7_19_z : Int) (i8_20 : Int32) (i8_20_z : Int), ((2147483647 - i8_20_z).toNat = n) → (Wd G cy (AS S s.heap.size) s.heap T_7 H locs) → (i6_18.toInt = i6_18_z) → (i7_19.toInt = i7_19_z) → (i8_20.toInt = i8_20_z) → (1 ≤ i8_20_z ∧ i8_20_z ≤ 2147483647) → (lv_has ls 13 [(6, .int (i6_18)), (7, .int (i7_19)), (8, .int (i8_20)), (5, .int (i5_5)), (0, .ref x), (1, .int (a1)), (2, .int (a2)), (3, .int (a3)), (4, .int (a4))]) → W p l e ({ frames := 8, cells := 0, slots := 0, locals := 384 }) s m [.ref x, .int (a1), .int (a2), .int (a3), .int (a4)].toArray below meth c H locs 0 0 QQ (F0 m 119 ls []) := by
        intro n
        induction n using Nat.strongRecOn with
        | ind n ih_L_17 =>
        intro H locs ls i6_18 i6_18_z i7_19 i7_19_z i8_20 i8_20_z hn hw hz_i6_18 hz_i7_19 hz_i8_20 hr_i8_20 hl
        have rg_21 : (-2147483648) ≤ i6_18_z ∧ i6_18_z ≤ 2147483647 := by rw [← hz_i6_18]; exact ⟨z_lo _, z_hi _⟩
        have rg_22 : (-2147483648) ≤ i7_19_z ∧ i7_19_z ≤ 2147483647 := by rw [← hz_i7_19]; exact ⟨z_lo _, z_hi _⟩
        have rg_23 : (-2147483648) ≤ i8_20_z ∧ i8_20_z ≤ 2147483647 := by rw [← hz_i8_20]; exact ⟨z_lo _, z_hi _⟩
        refine lv_iload X.1 X.2.1 dX12_mix_119 (lv_at hl 2 rfl) ?_
        refine lv_iconst (v := 1) X.1 X.2.1 dX12_mix_121 (by decide) ?_
        refine lv_iload X.1 X.2.1 dX12_mix_122 (lv_at hl 3 rfl) ?_
        refine lv_ishl X.1 X.2.1 dX12_mix_124 ?_
        refine lv_topi (fun v_24 ev_24 => ?_)
        have rg_25 := And.intro (z_lo v_24) (z_hi v_24)
        refine lv_icmp_ge (tgt := 264) X.1 X.2.1 dX12_mix_125 (by decide) (fun c_26 => ?_) (fun c_26 => ?_)
        · have z_b_27 := trivial
          have k_28 : i8_20_z ≥ v_24.toInt := z_le rfl hz_i8_20 c_26
          refine lv_iload X.1 X.2.1 dX12_mix_264 (lv_at hl 1 rfl) ?_
          refine lv_iconst (v := (-1)) X.1 X.2.1 dX12_mix_266 (by decide) ?_
          refine lv_icmp_ne (tgt := 272) X.1 X.2.1 dX12_mix_267 (by decide) (fun c_29 => ?_) (fun c_29 => ?_)
          · have z_b_30 := trivial
            have k_31 : i7_19_z ≠ (-1) := z_ne hz_i7_19 ti_m1 c_29
            refine lv_iconst (v := 0) X.1 X.2.1 dX12_mix_272 (by decide) ?_
            refine lv_istore (lv' := [(8, .int 0), (6, .int (i6_18)), (7, .int (i7_19)), (5, .int (i5_5)), (0, .ref x), (1, .int (a1)), (2, .int (a2)), (3, .int (a3)), (4, .int (a4))]) X.1 X.2.1 dX12_mix_273 hl (by decide) rfl (fun ls hl => ?_)
            have L_32 : ∀ (n : Nat) (T_34 : PS) (H : Heap) (locs : List Loc) (ls : Array Slot) (i8_33 : Int32) (i8_33_z : Int), ((40 - i8_33_z).toNat = n) → (Wd G cy (AS S s.heap.size) s.heap T_34 H locs) → (i8_33.toInt = i8_33_z) → (0 ≤ i8_33_z ∧ i8_33_z ≤ 40) → (At T_34 x 12) → (Ok MN S T_34) → (lv_has ls 13 [(8, .int (i8_33)), (6, .int (i6_18)), (7, .int (i7_19)), (5, .int (i5_5)), (0, .ref x), (1, .int (a1)), (2, .int (a2)), (3, .int (a3)), (4, .int (a4))]) → W p l e ({ frames := 8, cells := 0, slots := 0, locals := 384 }) s m [.ref x, .int (a1), .int (a2), .int (a3), .int (a4)].toArray below meth c H locs 0 0 QQ (F0 m 275 ls []) := by
              intro n
              induction n using Nat.strongRecOn with
              | ind n ih_L_32 =>
              intro T_34 H locs ls i8_33 i8_33_z hn hw hz_i8_33 hr_i8_33 ha_x_L_35 hO_T_34 hl
              have rg_36 : (-2147483648) ≤ i8_33_z ∧ i8_33_z ≤ 2147483647 := by rw [← hz_i8_33]; exact ⟨z_lo _, z_hi _⟩
              refine lv_iload X.1 X.2.1 dX12_mix_275 (lv_at hl 0 rfl) ?_
              refine lv_bipush (v := 40) X.1 X.2.1 dX12_mix_277 (by decide) ?_
              refine lv_icmp_ge (tgt := 296) X.1 X.2.1 dX12_mix_279 (by decide) (fun c_37 => ?_) (fun c_37 => ?_)
              · have z_b_38 := trivial
                have k_39 : i8_33_z ≥ 40 := z_le ti_40 hz_i8_33 c_37
                refine lv_iconst (v := 0) X.1 X.2.1 dX12_mix_296 (by decide) ?_
                refine lv_istore (lv' := [(8, .int 0), (6, .int (i6_18)), (7, .int (i7_19)), (5, .int (i5_5)), (0, .ref x), (1, .int (a1)), (2, .int (a2)), (3, .int (a3)), (4, .int (a4))]) X.1 X.2.1 dX12_mix_297 hl (by decide) rfl (fun ls hl => ?_)
                have L_40 : ∀ (n : Nat) (T_42 : PS) (H : Heap) (locs : List Loc) (ls : Array Slot) (i8_41 : Int32) (i8_41_z : Int), ((14 - i8_41_z).toNat = n) → (Wd G cy (AS S s.heap.size) s.heap T_42 H locs) → (i8_41.toInt = i8_41_z) → (0 ≤ i8_41_z ∧ i8_41_z ≤ 14) → (At T_42 x 12) → (Ok MN S T_42) → (lv_has ls 13 [(8, .int (i8_41)), (6, .int (i6_18)), (7, .int (i7_19)), (5, .int (i5_5)), (0, .ref x), (1, .int (a1)), (2, .int (a2)), (3, .int (a3)), (4, .int (a4))]) → W p l e ({ frames := 8, cells := 0, slots := 0, locals := 384 }) s m [.ref x, .int (a1), .int (a2), .int (a3), .int (a4)].toArray below meth c H locs 0 0 QQ (F0 m 299 ls []) := by
                  intro n
                  induction n using Nat.strongRecOn with
                  | ind n ih_L_40 =>
                  intro T_42 H locs ls i8_41 i8_41_z hn hw hz_i8_41 hr_i8_41 ha_x_L_43 hO_T_42 hl
                  have rg_44 : (-2147483648) ≤ i8_41_z ∧ i8_41_z ≤ 2147483647 := by rw [← hz_i8_41]; exact ⟨z_lo _, z_hi _⟩
                  refine lv_iload X.1 X.2.1 dX12_mix_299 (lv_at hl 0 rfl) ?_
                  refine lv_iload X.1 X.2.1 dX12_mix_301 (lv_at hl 3 rfl) ?_
                  refine lv_icmp_ge (tgt := 356) X.1 X.2.1 dX12_mix_303 (by decide) (fun c_45 => ?_) (fun c_45 => ?_)
                  · have z_b_46 := trivial
                    have k_47 : i8_41_z ≥ i5_5_z := z_le hz_i5_5 hz_i8_41 c_45
                    refine lv_iload X.1 X.2.1 dX12_mix_356 (lv_at hl 2 rfl) ?_
                    rw [hQQ]
                    exact ret_i X hw hr hlocks (Nat.le_of_ble_eq_true rfl) (Nat.le_of_ble_eq_true rfl) ⟨hO_T_42, trivial⟩ dX12_mix_358
                  · have z_b_48 := trivial
                    have k_49 : i8_41_z < i5_5_z := z_nle hz_i5_5 hz_i8_41 c_45
                    refine lv_iload X.1 X.2.1 dX12_mix_306 (lv_at hl 1 rfl) ?_
                    refine lv_iload X.1 X.2.1 dX12_mix_308 (lv_at hl 0 rfl) ?_
                    refine lv_ishr X.1 X.2.1 dX12_mix_310 ?_
                    refine lv_topi (fun v_50 ev_50 => ?_)
                    have rg_51 := And.intro (z_lo v_50) (z_hi v_50)
                    refine lv_iconst (v := 1) X.1 X.2.1 dX12_mix_311 (by decide) ?_
                    refine lv_iand X.1 X.2.1 dX12_mix_312 ?_
                    refine lv_topi (fun v_52 ev_52 => ?_)
                    have z_53 : 0 ≤ v_52.toInt ∧ v_52.toInt ≤ 1 := z_and1 ev_52
                    refine lv_if_ne (tgt := 319) X.1 X.2.1 dX12_mix_313 (by decide) (fun c_54 => ?_) (fun c_54 => ?_)
                    · have z_b_55 := trivial
                      have k_56 : v_52.toInt ≠ 0 := z_ne rfl ti_0 c_54
                      refine lv_aload_n X.1 X.2.1 dX12_mix_319 rfl (lv_at hl 4 rfl) ?_
                      obtain ⟨q_57, h_58, h_59, h_60⟩ := gQ_12_1261 hO_T_42.1 ha_x_L_43
                      refine r_getR (g := 1261) X hw ha_x_L_43 rfl 61 h_58 (by decide) rfl inn_X12_mix_12 (by decide) (X.2.2.2.1 (.fieldLink RX12 149 "SilkMillModel" "isMixed" "[Z") (by decide +kernel)) rfl (gv_1261 _ _) dX12_mix_320 ?_
                      refine lv_aload_n X.1 X.2.1 dX12_mix_323 rfl (lv_at hl 4 rfl) ?_
                      obtain ⟨q_61, h_62, h_63, h_64⟩ := gQ_12_1258 hO_T_42.1 ha_x_L_43
                      refine r_getR (g := 1258) X hw ha_x_L_43 rfl 58 h_62 (by decide) rfl inn_X12_mix_12 (by decide) (X.2.2.2.1 (.fieldLink RX12 140 "SilkMillModel" "asked" "[I") (by decide +kernel)) rfl (gv_1258 _ _) dX12_mix_324 ?_
                      refine lv_iload X.1 X.2.1 dX12_mix_327 (lv_at hl 0 rfl) ?_
                      refine r_iald X hw h_63 rfl (by rw [h_64]; exact z_ix hz_i8_41 (by omega) (by omega)) dX12_mix_329 ?_
                      refine lv_topi (fun v_65 ev_65 => ?_)
                      have z_66 := gE_1374 hO_T_42.1 h_63 (Int32.toNatClampNeg (i8_41)); rw [← ev_65] at z_66
                      have ev_65 := ev_65.symm
                      refine lv_iconst (v := 1) X.1 X.2.1 dX12_mix_330 (by decide) ?_
                      refine r_zast X hw h_59 rfl (by rw [h_60]; exact z_ix rfl (by omega) (by omega)) dX12_mix_331 (fun H locs hw => ?_)
                      obtain ⟨S_67, eS_67⟩ : ∃ T, T = sA T_42 q_57 (upd (pA T_42 q_57) (Int32.toNatClampNeg (v_65)) (vp_nar .boolean (1))) := ⟨_, rfl⟩
                      rw [← eS_67] at hw
                      have hO_68 : Ok MN S S_67 := hO_T_42.sA eS_67 h_59 (by decide +kernel) (uA_1435 hO_T_42.1 h_59)
                      refine lv_iload X.1 X.2.1 dX12_mix_332 (lv_at hl 8 rfl) ?_
                      refine lv_if_eq (tgt := 350) X.1 X.2.1 dX12_mix_334 (by decide) (fun c_69 => ?_) (fun c_69 => ?_)
                      · have z_b_70 := trivial
                        have k_71 : a4_z = 0 := z_eq hz_a4 ti_0 c_69
                        obtain ⟨x_72, ex_72⟩ : ∃ y : Int32, y = i8_41 + 1 := ⟨_, rfl⟩
                        have z_73 : x_72.toInt = i8_41_z + 1 := z_add ex_72 hz_i8_41 ti_1 (by omega) (by omega)
                        refine lv_iinc (v := x_72) (lv' := [(8, .int (x_72)), (6, .int (i6_18)), (7, .int (i7_19)), (5, .int (i5_5)), (0, .ref x), (1, .int (a1)), (2, .int (a2)), (3, .int (a3)), (4, .int (a4))]) X.1 X.2.1 dX12_mix_350 hl (k := 0) rfl (by rw [ex_72]; rfl) (by decide) rfl (fun ls hl => ?_)
                        refine lv_goto (tgt := 299) X.1 X.2.1 dX12_mix_353 (by decide) ?_
                        have t_74 : At S_67 x 12 := tAt_sA eS_67 ha_x_L_43
                        exact ih_L_40 _ (by omega) _ _ _ _ (x_72) (x_72.toInt) rfl hw rfl (by omega) t_74 hO_68 (lv_sub hl [0, 1, 2, 3, 4, 5, 6, 7, 8] rfl)
                      · have z_b_75 := trivial
                        have k_76 : a4_z ≠ 0 := z_ne hz_a4 ti_0 c_69
                        refine lv_aload_n X.1 X.2.1 dX12_mix_337 rfl (lv_at hl 4 rfl) ?_
                        have t_77 : At S_67 x 12 := tAt_sA eS_67 ha_x_L_43
                        obtain ⟨q_78, h_79, h_80, h_81⟩ := gQ_12_1244 hO_68.1 t_77
                        refine r_getR (g := 1244) X hw t_77 rfl 44 h_79 (by decide) rfl inn_X12_mix_12 (by decide) (X.2.2.2.1 (.fieldLink RX12 115 "SilkMillModel" "isSold" "[Z") (by decide +kernel)) rfl (gv_1244 _ _) dX12_mix_338 ?_
                        refine lv_aload_n X.1 X.2.1 dX12_mix_341 rfl (lv_at hl 4 rfl) ?_
                        have t_82 : pR S_67 1258 x = some q_61 := tR_sA eS_67 h_62
                        refine r_getR (g := 1258) X hw t_77 rfl 58 t_82 (by decide) rfl inn_X12_mix_12 (by decide) (X.2.2.2.1 (.fieldLink RX12 140 "SilkMillModel" "asked" "[I") (by decide +kernel)) rfl (gv_1258 _ _) dX12_mix_342 ?_
                        refine lv_iload X.1 X.2.1 dX12_mix_345 (lv_at hl 0 rfl) ?_
                        have t_83 : At S_67 q_61 1374 := tAt_sA eS_67 h_63
                        have t_84 : pN S_67 q_61 = 14 := tN_sA eS_67 h_64
                        clear h_64
                        refine r_iald X hw t_83 rfl (by rw [t_84]; exact z_ix hz_i8_41 (by omega) (by omega)) dX12_mix_347 ?_
                        have t_85 : pA S_67 q_61 (Int32.toNatClampNeg (i8_41)) = v_65 := tA_sA eS_67 (At_ne h_63 h_59 (by decide)) ev_65
                        rw [t_85]
                        refine lv_iconst (v := 1) X.1 X.2.1 dX12_mix_348 (by decide) ?_
                        refine r_zast X hw h_80 rfl (by rw [h_81]; exact z_ix rfl (by omega) (by omega)) dX12_mix_349 (fun H locs hw => ?_)
                        obtain ⟨S_86, eS_86⟩ : ∃ T, T = sA S_67 q_78 (upd (pA S_67 q_78) (Int32.toNatClampNeg (v_65)) (vp_nar .boolean (1))) := ⟨_, rfl⟩
                        rw [← eS_86] at hw
                        have hO_87 : Ok MN S S_86 := hO_68.sA eS_86 h_80 (by decide +kernel) (uA_1095 hO_68.1 h_80)
                        obtain ⟨x_88, ex_88⟩ : ∃ y : Int32, y = i8_41 + 1 := ⟨_, rfl⟩
                        have z_89 : x_88.toInt = i8_41_z + 1 := z_add ex_88 hz_i8_41 ti_1 (by omega) (by omega)
                        refine lv_iinc (v := x_88) (lv' := [(8, .int (x_88)), (6, .int (i6_18)), (7, .int (i7_19)), (5, .int (i5_5)), (0, .ref x), (1, .int (a1)), (2, .int (a2)), (3, .int (a3)), (4, .int (a4))]) X.1 X.2.1 dX12_mix_350 hl (k := 0) rfl (by rw [ex_88]; rfl) (by decide) rfl (fun ls hl => ?_)
                        refine lv_goto (tgt := 299) X.1 X.2.1 dX12_mix_353 (by decide) ?_
                        have t_90 : At S_86 x 12 := tAt_sA eS_86 t_77
                        exact ih_L_40 _ (by omega) _ _ _ _ (x_88) (x_88.toInt) rfl hw rfl (by omega) t_90 hO_87 (lv_sub hl [0, 1, 2, 3, 4, 5, 6, 7, 8] rfl)
                    · have z_b_91 := trivial
                      have k_92 : v_52.toInt = 0 := z_eq rfl ti_0 c_54
                      refine lv_goto (tgt := 350) X.1 X.2.1 dX12_mix_316 (by decide) ?_
                      obtain ⟨x_93, ex_93⟩ : ∃ y : Int32, y = i8_41 + 1 := ⟨_, rfl⟩
                      have z_94 : x_93.toInt = i8_41_z + 1 := z_add ex_93 hz_i8_41 ti_1 (by omega) (by omega)
                      refine lv_iinc (v := x_93) (lv' := [(8, .int (x_93)), (6, .int (i6_18)), (7, .int (i7_19)), (5, .int (i5_5)), (0, .ref x), (1, .int (a1)), (2, .int (a2)), (3, .int (a3)), (4, .int (a4))]) X.1 X.2.1 dX12_mix_350 hl (k := 0) rfl (by rw [ex_93]; rfl) (by decide) rfl (fun ls hl => ?_)
                      refine lv_goto (tgt := 299) X.1 X.2.1 dX12_mix_353 (by decide) ?_
                      exact ih_L_40 _ (by omega) _ _ _ _ (x_93) (x_93.toInt) rfl hw rfl (by omega) ha_x_L_43 hO_T_42 (lv_sub hl [0, 1, 2, 3, 4, 5, 6, 7, 8] rfl)
                exact L_40 _ _ _ _ _ (0) (0) rfl hw ti_0 (by omega) ha_x_L_35 hO_T_34 (lv_sub hl [0, 1, 2, 3, 4, 5, 6, 7, 8] rfl)
              · have z_b_95 := trivial
                have k_96 : i8_33_z < 40 := z_nle ti_40 hz_i8_33 c_37
                refine lv_aload_n X.1 X.2.1 dX12_mix_282 rfl (lv_at hl 4 rfl) ?_
                obtain ⟨q_97, h_98, h_99, h_100⟩ := gQ_12_1261 hO_T_34.1 ha_x_L_35
                refine r_getR (g := 1261) X hw ha_x_L_35 rfl 61 h_98 (by decide) rfl inn_X12_mix_12 (by decide) (X.2.2.2.1 (.fieldLink RX12 149 "SilkMillModel" "isMixed" "[Z") (by decide +kernel)) rfl (gv_1261 _ _) dX12_mix_283 ?_
                refine lv_iload X.1 X.2.1 dX12_mix_286 (lv_at hl 0 rfl) ?_
                refine lv_iconst (v := 0) X.1 X.2.1 dX12_mix_288 (by decide) ?_
                refine r_zast X hw h_99 rfl (by rw [h_100]; exact z_ix hz_i8_33 (by omega) (by omega)) dX12_mix_289 (fun H locs hw => ?_)
                obtain ⟨S_101, eS_101⟩ : ∃ T, T = sA T_34 q_97 (upd (pA T_34 q_97) (Int32.toNatClampNeg (i8_33)) (vp_nar .boolean (0))) := ⟨_, rfl⟩
                rw [← eS_101] at hw
                have hO_102 : Ok MN S S_101 := hO_T_34.sA eS_101 h_99 (by decide +kernel) (uA_1435 hO_T_34.1 h_99)
                obtain ⟨x_103, ex_103⟩ : ∃ y : Int32, y = i8_33 + 1 := ⟨_, rfl⟩
                have z_104 : x_103.toInt = i8_33_z + 1 := z_add ex_103 hz_i8_33 ti_1 (by omega) (by omega)
                refine lv_iinc (v := x_103) (lv' := [(8, .int (x_103)), (6, .int (i6_18)), (7, .int (i7_19)), (5, .int (i5_5)), (0, .ref x), (1, .int (a1)), (2, .int (a2)), (3, .int (a3)), (4, .int (a4))]) X.1 X.2.1 dX12_mix_290 hl (k := 0) rfl (by rw [ex_103]; rfl) (by decide) rfl (fun ls hl => ?_)
                refine lv_goto (tgt := 275) X.1 X.2.1 dX12_mix_293 (by decide) ?_
                have t_105 : At S_101 x 12 := tAt_sA eS_101 ha_x_L_35
                exact ih_L_32 _ (by omega) _ _ _ _ (x_103) (x_103.toInt) rfl hw rfl (by omega) t_105 hO_102 (lv_sub hl [0, 1, 2, 3, 4, 5, 6, 7, 8] rfl)
            exact L_32 _ _ _ _ _ (0) (0) rfl hw ti_0 (by omega) ha_x_L_8 hO_T_7 (lv_sub hl [0, 1, 2, 3, 4, 5, 6, 7, 8] rfl)
          · have z_b_106 := trivial
            have k_107 : i7_19_z = (-1) := z_eq hz_i7_19 ti_m1 c_29
            refine lv_iconst (v := (-1)) X.1 X.2.1 dX12_mix_270 (by decide) ?_
            rw [hQQ]
            exact ret_i X hw hr hlocks (Nat.le_of_ble_eq_true rfl) (Nat.le_of_ble_eq_true rfl) ⟨hO_T_7, trivial⟩ dX12_mix_271
        · have z_b_108 := trivial
          have k_109 : i8_20_z < v_24.toInt := z_nle rfl hz_i8_20 c_26
          refine lv_iconst (v := 0) X.1 X.2.1 dX12_mix_128 (by decide) ?_
          refine lv_istore (lv' := [(9, .int 0), (6, .int (i6_18)), (7, .int (i7_19)), (8, .int (i8_20)), (5, .int (i5_5)), (0, .ref x), (1, .int (a1)), (2, .int (a2)), (3, .int (a3)), (4, .int (a4))]) X.1 X.2.1 dX12_mix_129 hl (by decide) rfl (fun ls hl => ?_)
          refine lv_iconst (v := 0) X.1 X.2.1 dX12_mix_131 (by decide) ?_
          refine lv_istore (lv' := [(10, .int 0), (9, .int 0), (6, .int (i6_18)), (7, .int (i7_19)), (8, .int (i8_20)), (5, .int (i5_5)), (0, .ref x), (1, .int (a1)), (2, .int (a2)), (3, .int (a3)), (4, .int (a4))]) X.1 X.2.1 dX12_mix_132 hl (by decide) rfl (fun ls hl => ?_)
          refine lv_iconst (v := 0) X.1 X.2.1 dX12_mix_134 (by decide) ?_
          refine lv_istore (lv' := [(11, .int 0), (10, .int 0), (9, .int 0), (6, .int (i6_18)), (7, .int (i7_19)), (8, .int (i8_20)), (5, .int (i5_5)), (0, .ref x), (1, .int (a1)), (2, .int (a2)), (3, .int (a3)), (4, .int (a4))]) X.1 X.2.1 dX12_mix_135 hl (by decide) rfl (fun ls hl => ?_)
          have L_110 : ∀ (n : Nat) (H : Heap) (locs : List Loc) (ls : Array Slot) (i9_111 : Int32) (i9_111_z : Int) (i10_112 : Int32) (i10_112_z : Int) (i11_113 : Int32) (i11_113_z : Int), ((14 - i11_113_z).toNat = n) → (Wd G cy (AS S s.heap.size) s.heap T_7 H locs) → (i9_111.toInt = i9_111_z) → (i10_112.toInt = i10_112_z) → (i11_113.toInt = i11_113_z) → (0 ≤ i11_113_z ∧ i11_113_z ≤ 14) → (lv_has ls 13 [(9, .int (i9_111)), (10, .int (i10_112)), (11, .int (i11_113)), (6, .int (i6_18)), (7, .int (i7_19)), (8, .int (i8_20)), (5, .int (i5_5)), (0, .ref x), (1, .int (a1)), (2, .int (a2)), (3, .int (a3)), (4, .int (a4))]) → W p l e ({ frames := 8, cells := 0, slots := 0, locals := 384 }) s m [.ref x, .int (a1), .int (a2), .int (a3), .int (a4)].toArray below meth c H locs 0 0 QQ (F0 m 137 ls []) := by
            intro n
            induction n using Nat.strongRecOn with
            | ind n ih_L_110 =>
            intro H locs ls i9_111 i9_111_z i10_112 i10_112_z i11_113 i11_113_z hn hw hz_i9_111 hz_i10_112 hz_i11_113 hr_i11_113 hl
            have rg_114 : (-2147483648) ≤ i9_111_z ∧ i9_111_z ≤ 2147483647 := by rw [← hz_i9_111]; exact ⟨z_lo _, z_hi _⟩
            have rg_115 : (-2147483648) ≤ i10_112_z ∧ i10_112_z ≤ 2147483647 := by rw [← hz_i10_112]; exact ⟨z_lo _, z_hi _⟩
            have rg_116 : (-2147483648) ≤ i11_113_z ∧ i11_113_z ≤ 2147483647 := by rw [← hz_i11_113]; exact ⟨z_lo _, z_hi _⟩
            refine lv_iload X.1 X.2.1 dX12_mix_137 (lv_at hl 2 rfl) ?_
            refine lv_iload X.1 X.2.1 dX12_mix_139 (lv_at hl 6 rfl) ?_
            refine lv_icmp_ge (tgt := 187) X.1 X.2.1 dX12_mix_141 (by decide) (fun c_117 => ?_) (fun c_117 => ?_)
            · have z_b_118 := trivial
              have k_119 : i11_113_z ≥ i5_5_z := z_le hz_i5_5 hz_i11_113 c_117
              refine lv_iload X.1 X.2.1 dX12_mix_187 (lv_at hl 0 rfl) ?_
              refine lv_iload_n X.1 X.2.1 dX12_mix_189 rfl (lv_at hl 8 rfl) ?_
              refine lv_icmp_ge (tgt := 196) X.1 X.2.1 dX12_mix_190 (by decide) (fun c_120 => ?_) (fun c_120 => ?_)
              · have z_b_121 := trivial
                have k_122 : i9_111_z ≥ a1_z := z_le hz_a1 hz_i9_111 c_120
                refine lv_iload X.1 X.2.1 dX12_mix_196 (lv_at hl 5 rfl) ?_
                refine lv_iload X.1 X.2.1 dX12_mix_198 (lv_at hl 3 rfl) ?_
                refine lv_ixor X.1 X.2.1 dX12_mix_200 ?_
                refine lv_topi (fun v_123 ev_123 => ?_)
                have rg_124 := And.intro (z_lo v_123) (z_hi v_123)
                refine lv_istore (lv' := [(11, .int (v_123)), (9, .int (i9_111)), (10, .int (i10_112)), (6, .int (i6_18)), (7, .int (i7_19)), (8, .int (i8_20)), (5, .int (i5_5)), (0, .ref x), (1, .int (a1)), (2, .int (a2)), (3, .int (a3)), (4, .int (a4))]) X.1 X.2.1 dX12_mix_201 hl (by decide) rfl (fun ls hl => ?_)
                refine lv_iload X.1 X.2.1 dX12_mix_203 (lv_at hl 5 rfl) ?_
                refine lv_iload X.1 X.2.1 dX12_mix_205 (lv_at hl 0 rfl) ?_
                refine lv_iand X.1 X.2.1 dX12_mix_207 ?_
                refine lv_topi (fun v_125 ev_125 => ?_)
                have rg_126 := And.intro (z_lo v_125) (z_hi v_125)
                refine lv_iload X.1 X.2.1 dX12_mix_208 (lv_at hl 0 rfl) ?_
                refine lv_ineg X.1 X.2.1 dX12_mix_210 ?_
                refine lv_topi (fun v_127 ev_127 => ?_)
                have rg_128 := And.intro (z_lo v_127) (z_hi v_127)
                refine lv_iand X.1 X.2.1 dX12_mix_211 ?_
                refine lv_topi (fun v_129 ev_129 => ?_)
                have rg_130 := And.intro (z_lo v_129) (z_hi v_129)
                refine lv_if_eq (tgt := 219) X.1 X.2.1 dX12_mix_212 (by decide) (fun c_131 => ?_) (fun c_131 => ?_)
                · have z_b_132 := trivial
                  have k_133 : v_129.toInt = 0 := z_eq rfl ti_0 c_131
                  refine lv_iconst (v := 0) X.1 X.2.1 dX12_mix_219 (by decide) ?_
                  refine lv_istore (lv' := [(12, .int 0), (11, .int (v_123)), (9, .int (i9_111)), (10, .int (i10_112)), (6, .int (i6_18)), (7, .int (i7_19)), (8, .int (i8_20)), (5, .int (i5_5)), (0, .ref x), (1, .int (a1)), (2, .int (a2)), (3, .int (a3)), (4, .int (a4))]) X.1 X.2.1 dX12_mix_220 hl (by decide) rfl (fun ls hl => ?_)
                  refine lv_iload X.1 X.2.1 dX12_mix_222 (lv_at hl 5 rfl) ?_
                  refine lv_iconst (v := (-1)) X.1 X.2.1 dX12_mix_224 (by decide) ?_
                  refine lv_icmp_eq (tgt := 250) X.1 X.2.1 dX12_mix_225 (by decide) (fun c_134 => ?_) (fun c_134 => ?_)
                  · have z_b_135 := trivial
                    have k_136 : i7_19_z = (-1) := z_eq hz_i7_19 ti_m1 c_134
                    refine lv_iload X.1 X.2.1 dX12_mix_250 (lv_at hl 6 rfl) ?_
                    refine lv_istore (lv' := [(6, .int (i8_20)), (12, .int 0), (11, .int (v_123)), (9, .int (i9_111)), (10, .int (i10_112)), (7, .int (i7_19)), (8, .int (i8_20)), (5, .int (i5_5)), (0, .ref x), (1, .int (a1)), (2, .int (a2)), (3, .int (a3)), (4, .int (a4))]) X.1 X.2.1 dX12_mix_252 hl (by decide) rfl (fun ls hl => ?_)
                    refine lv_iload X.1 X.2.1 dX12_mix_254 (lv_at hl 4 rfl) ?_
                    refine lv_istore (lv' := [(7, .int (i10_112)), (6, .int (i8_20)), (12, .int 0), (11, .int (v_123)), (9, .int (i9_111)), (10, .int (i10_112)), (8, .int (i8_20)), (5, .int (i5_5)), (0, .ref x), (1, .int (a1)), (2, .int (a2)), (3, .int (a3)), (4, .int (a4))]) X.1 X.2.1 dX12_mix_256 hl (by decide) rfl (fun ls hl => ?_)
                    obtain ⟨x_137, ex_137⟩ : ∃ y : Int32, y = i8_20 + 1 := ⟨_, rfl⟩
                    have z_138 : x_137.toInt = i8_20_z + 1 := z_add ex_137 hz_i8_20 ti_1 (by omega) (by omega)
                    refine lv_iinc (v := x_137) (lv' := [(8, .int (x_137)), (7, .int (i10_112)), (6, .int (i8_20)), (12, .int 0), (11, .int (v_123)), (9, .int (i9_111)), (10, .int (i10_112)), (5, .int (i5_5)), (0, .ref x), (1, .int (a1)), (2, .int (a2)), (3, .int (a3)), (4, .int (a4))]) X.1 X.2.1 dX12_mix_258 hl (k := 6) rfl (by rw [ex_137]; rfl) (by decide) rfl (fun ls hl => ?_)
                    refine lv_goto (tgt := 119) X.1 X.2.1 dX12_mix_261 (by decide) ?_
                    exact ih_L_17 _ (by omega) _ _ _ (i8_20) (i8_20_z) (i10_112) (i10_112_z) (x_137) (x_137.toInt) rfl hw hz_i8_20 hz_i10_112 rfl (by omega) (lv_sub hl [2, 1, 0, 7, 8, 9, 10, 11, 12] rfl)
                  · have z_b_139 := trivial
                    have k_140 : i7_19_z ≠ (-1) := z_ne hz_i7_19 ti_m1 c_134
                    refine lv_iload X.1 X.2.1 dX12_mix_228 (lv_at hl 3 rfl) ?_
                    refine lv_iload X.1 X.2.1 dX12_mix_230 (lv_at hl 5 rfl) ?_
                    refine lv_icmp_gt (tgt := 258) X.1 X.2.1 dX12_mix_232 (by decide) (fun c_141 => ?_) (fun c_141 => ?_)
                    · have z_b_142 := trivial
                      have k_143 : i10_112_z > i7_19_z := z_lt hz_i7_19 hz_i10_112 c_141
                      obtain ⟨x_144, ex_144⟩ : ∃ y : Int32, y = i8_20 + 1 := ⟨_, rfl⟩
                      have z_145 : x_144.toInt = i8_20_z + 1 := z_add ex_144 hz_i8_20 ti_1 (by omega) (by omega)
                      refine lv_iinc (v := x_144) (lv' := [(8, .int (x_144)), (12, .int 0), (11, .int (v_123)), (9, .int (i9_111)), (10, .int (i10_112)), (6, .int (i6_18)), (7, .int (i7_19)), (5, .int (i5_5)), (0, .ref x), (1, .int (a1)), (2, .int (a2)), (3, .int (a3)), (4, .int (a4))]) X.1 X.2.1 dX12_mix_258 hl (k := 6) rfl (by rw [ex_144]; rfl) (by decide) rfl (fun ls hl => ?_)
                      refine lv_goto (tgt := 119) X.1 X.2.1 dX12_mix_261 (by decide) ?_
                      exact ih_L_17 _ (by omega) _ _ _ (i6_18) (i6_18_z) (i7_19) (i7_19_z) (x_144) (x_144.toInt) rfl hw hz_i6_18 hz_i7_19 rfl (by omega) (lv_sub hl [5, 6, 0, 7, 8, 9, 10, 11, 12] rfl)
                    · have z_b_146 := trivial
                      have k_147 : i10_112_z ≤ i7_19_z := z_nlt hz_i7_19 hz_i10_112 c_141
                      refine lv_iload X.1 X.2.1 dX12_mix_235 (lv_at hl 3 rfl) ?_
                      refine lv_iload X.1 X.2.1 dX12_mix_237 (lv_at hl 5 rfl) ?_
                      refine lv_icmp_ne (tgt := 250) X.1 X.2.1 dX12_mix_239 (by decide) (fun c_148 => ?_) (fun c_148 => ?_)
                      · have z_b_149 := trivial
                        have k_150 : i10_112_z ≠ i7_19_z := z_ne hz_i10_112 hz_i7_19 c_148
                        refine lv_iload X.1 X.2.1 dX12_mix_250 (lv_at hl 6 rfl) ?_
                        refine lv_istore (lv' := [(6, .int (i8_20)), (12, .int 0), (11, .int (v_123)), (9, .int (i9_111)), (10, .int (i10_112)), (7, .int (i7_19)), (8, .int (i8_20)), (5, .int (i5_5)), (0, .ref x), (1, .int (a1)), (2, .int (a2)), (3, .int (a3)), (4, .int (a4))]) X.1 X.2.1 dX12_mix_252 hl (by decide) rfl (fun ls hl => ?_)
                        refine lv_iload X.1 X.2.1 dX12_mix_254 (lv_at hl 4 rfl) ?_
                        refine lv_istore (lv' := [(7, .int (i10_112)), (6, .int (i8_20)), (12, .int 0), (11, .int (v_123)), (9, .int (i9_111)), (10, .int (i10_112)), (8, .int (i8_20)), (5, .int (i5_5)), (0, .ref x), (1, .int (a1)), (2, .int (a2)), (3, .int (a3)), (4, .int (a4))]) X.1 X.2.1 dX12_mix_256 hl (by decide) rfl (fun ls hl => ?_)
                        obtain ⟨x_151, ex_151⟩ : ∃ y : Int32, y = i8_20 + 1 := ⟨_, rfl⟩
                        have z_152 : x_151.toInt = i8_20_z + 1 := z_add ex_151 hz_i8_20 ti_1 (by omega) (by omega)
                        refine lv_iinc (v := x_151) (lv' := [(8, .int (x_151)), (7, .int (i10_112)), (6, .int (i8_20)), (12, .int 0), (11, .int (v_123)), (9, .int (i9_111)), (10, .int (i10_112)), (5, .int (i5_5)), (0, .ref x), (1, .int (a1)), (2, .int (a2)), (3, .int (a3)), (4, .int (a4))]) X.1 X.2.1 dX12_mix_258 hl (k := 6) rfl (by rw [ex_151]; rfl) (by decide) rfl (fun ls hl => ?_)
                        refine lv_goto (tgt := 119) X.1 X.2.1 dX12_mix_261 (by decide) ?_
                        exact ih_L_17 _ (by omega) _ _ _ (i8_20) (i8_20_z) (i10_112) (i10_112_z) (x_151) (x_151.toInt) rfl hw hz_i8_20 hz_i10_112 rfl (by omega) (lv_sub hl [2, 1, 0, 7, 8, 9, 10, 11, 12] rfl)
                      · have z_b_153 := trivial
                        have k_154 : i10_112_z = i7_19_z := z_eq hz_i10_112 hz_i7_19 c_148
                        refine lv_iload X.1 X.2.1 dX12_mix_242 (lv_at hl 0 rfl) ?_
                        refine lv_if_ne (tgt := 250) X.1 X.2.1 dX12_mix_244 (by decide) (fun c_155 => absurd c_155 (by decide)) (fun c_155 => ?_)
                        refine lv_goto (tgt := 258) X.1 X.2.1 dX12_mix_247 (by decide) ?_
                        obtain ⟨x_156, ex_156⟩ : ∃ y : Int32, y = i8_20 + 1 := ⟨_, rfl⟩
                        have z_157 : x_156.toInt = i8_20_z + 1 := z_add ex_156 hz_i8_20 ti_1 (by omega) (by omega)
                        refine lv_iinc (v := x_156) (lv' := [(8, .int (x_156)), (12, .int 0), (11, .int (v_123)), (9, .int (i9_111)), (10, .int (i10_112)), (6, .int (i6_18)), (7, .int (i7_19)), (5, .int (i5_5)), (0, .ref x), (1, .int (a1)), (2, .int (a2)), (3, .int (a3)), (4, .int (a4))]) X.1 X.2.1 dX12_mix_258 hl (k := 6) rfl (by rw [ex_156]; rfl) (by decide) rfl (fun ls hl => ?_)
                        refine lv_goto (tgt := 119) X.1 X.2.1 dX12_mix_261 (by decide) ?_
                        exact ih_L_17 _ (by omega) _ _ _ (i6_18) (i6_18_z) (i7_19) (i7_19_z) (x_156) (x_156.toInt) rfl hw hz_i6_18 hz_i7_19 rfl (by omega) (lv_sub hl [5, 6, 0, 7, 8, 9, 10, 11, 12] rfl)
                · have z_b_158 := trivial
                  have k_159 : v_129.toInt ≠ 0 := z_ne rfl ti_0 c_131
                  refine lv_iconst (v := 1) X.1 X.2.1 dX12_mix_215 (by decide) ?_
                  refine lv_goto (tgt := 220) X.1 X.2.1 dX12_mix_216 (by decide) ?_
                  refine lv_istore (lv' := [(12, .int 1), (11, .int (v_123)), (9, .int (i9_111)), (10, .int (i10_112)), (6, .int (i6_18)), (7, .int (i7_19)), (8, .int (i8_20)), (5, .int (i5_5)), (0, .ref x), (1, .int (a1)), (2, .int (a2)), (3, .int (a3)), (4, .int (a4))]) X.1 X.2.1 dX12_mix_220 hl (by decide) rfl (fun ls hl => ?_)
                  refine lv_iload X.1 X.2.1 dX12_mix_222 (lv_at hl 5 rfl) ?_
                  refine lv_iconst (v := (-1)) X.1 X.2.1 dX12_mix_224 (by decide) ?_
                  refine lv_icmp_eq (tgt := 250) X.1 X.2.1 dX12_mix_225 (by decide) (fun c_160 => ?_) (fun c_160 => ?_)
                  · have z_b_161 := trivial
                    have k_162 : i7_19_z = (-1) := z_eq hz_i7_19 ti_m1 c_160
                    refine lv_iload X.1 X.2.1 dX12_mix_250 (lv_at hl 6 rfl) ?_
                    refine lv_istore (lv' := [(6, .int (i8_20)), (12, .int 1), (11, .int (v_123)), (9, .int (i9_111)), (10, .int (i10_112)), (7, .int (i7_19)), (8, .int (i8_20)), (5, .int (i5_5)), (0, .ref x), (1, .int (a1)), (2, .int (a2)), (3, .int (a3)), (4, .int (a4))]) X.1 X.2.1 dX12_mix_252 hl (by decide) rfl (fun ls hl => ?_)
                    refine lv_iload X.1 X.2.1 dX12_mix_254 (lv_at hl 4 rfl) ?_
                    refine lv_istore (lv' := [(7, .int (i10_112)), (6, .int (i8_20)), (12, .int 1), (11, .int (v_123)), (9, .int (i9_111)), (10, .int (i10_112)), (8, .int (i8_20)), (5, .int (i5_5)), (0, .ref x), (1, .int (a1)), (2, .int (a2)), (3, .int (a3)), (4, .int (a4))]) X.1 X.2.1 dX12_mix_256 hl (by decide) rfl (fun ls hl => ?_)
                    obtain ⟨x_163, ex_163⟩ : ∃ y : Int32, y = i8_20 + 1 := ⟨_, rfl⟩
                    have z_164 : x_163.toInt = i8_20_z + 1 := z_add ex_163 hz_i8_20 ti_1 (by omega) (by omega)
                    refine lv_iinc (v := x_163) (lv' := [(8, .int (x_163)), (7, .int (i10_112)), (6, .int (i8_20)), (12, .int 1), (11, .int (v_123)), (9, .int (i9_111)), (10, .int (i10_112)), (5, .int (i5_5)), (0, .ref x), (1, .int (a1)), (2, .int (a2)), (3, .int (a3)), (4, .int (a4))]) X.1 X.2.1 dX12_mix_258 hl (k := 6) rfl (by rw [ex_163]; rfl) (by decide) rfl (fun ls hl => ?_)
                    refine lv_goto (tgt := 119) X.1 X.2.1 dX12_mix_261 (by decide) ?_
                    exact ih_L_17 _ (by omega) _ _ _ (i8_20) (i8_20_z) (i10_112) (i10_112_z) (x_163) (x_163.toInt) rfl hw hz_i8_20 hz_i10_112 rfl (by omega) (lv_sub hl [2, 1, 0, 7, 8, 9, 10, 11, 12] rfl)
                  · have z_b_165 := trivial
                    have k_166 : i7_19_z ≠ (-1) := z_ne hz_i7_19 ti_m1 c_160
                    refine lv_iload X.1 X.2.1 dX12_mix_228 (lv_at hl 3 rfl) ?_
                    refine lv_iload X.1 X.2.1 dX12_mix_230 (lv_at hl 5 rfl) ?_
                    refine lv_icmp_gt (tgt := 258) X.1 X.2.1 dX12_mix_232 (by decide) (fun c_167 => ?_) (fun c_167 => ?_)
                    · have z_b_168 := trivial
                      have k_169 : i10_112_z > i7_19_z := z_lt hz_i7_19 hz_i10_112 c_167
                      obtain ⟨x_170, ex_170⟩ : ∃ y : Int32, y = i8_20 + 1 := ⟨_, rfl⟩
                      have z_171 : x_170.toInt = i8_20_z + 1 := z_add ex_170 hz_i8_20 ti_1 (by omega) (by omega)
                      refine lv_iinc (v := x_170) (lv' := [(8, .int (x_170)), (12, .int 1), (11, .int (v_123)), (9, .int (i9_111)), (10, .int (i10_112)), (6, .int (i6_18)), (7, .int (i7_19)), (5, .int (i5_5)), (0, .ref x), (1, .int (a1)), (2, .int (a2)), (3, .int (a3)), (4, .int (a4))]) X.1 X.2.1 dX12_mix_258 hl (k := 6) rfl (by rw [ex_170]; rfl) (by decide) rfl (fun ls hl => ?_)
                      refine lv_goto (tgt := 119) X.1 X.2.1 dX12_mix_261 (by decide) ?_
                      exact ih_L_17 _ (by omega) _ _ _ (i6_18) (i6_18_z) (i7_19) (i7_19_z) (x_170) (x_170.toInt) rfl hw hz_i6_18 hz_i7_19 rfl (by omega) (lv_sub hl [5, 6, 0, 7, 8, 9, 10, 11, 12] rfl)
                    · have z_b_172 := trivial
                      have k_173 : i10_112_z ≤ i7_19_z := z_nlt hz_i7_19 hz_i10_112 c_167
                      refine lv_iload X.1 X.2.1 dX12_mix_235 (lv_at hl 3 rfl) ?_
                      refine lv_iload X.1 X.2.1 dX12_mix_237 (lv_at hl 5 rfl) ?_
                      refine lv_icmp_ne (tgt := 250) X.1 X.2.1 dX12_mix_239 (by decide) (fun c_174 => ?_) (fun c_174 => ?_)
                      · have z_b_175 := trivial
                        have k_176 : i10_112_z ≠ i7_19_z := z_ne hz_i10_112 hz_i7_19 c_174
                        refine lv_iload X.1 X.2.1 dX12_mix_250 (lv_at hl 6 rfl) ?_
                        refine lv_istore (lv' := [(6, .int (i8_20)), (12, .int 1), (11, .int (v_123)), (9, .int (i9_111)), (10, .int (i10_112)), (7, .int (i7_19)), (8, .int (i8_20)), (5, .int (i5_5)), (0, .ref x), (1, .int (a1)), (2, .int (a2)), (3, .int (a3)), (4, .int (a4))]) X.1 X.2.1 dX12_mix_252 hl (by decide) rfl (fun ls hl => ?_)
                        refine lv_iload X.1 X.2.1 dX12_mix_254 (lv_at hl 4 rfl) ?_
                        refine lv_istore (lv' := [(7, .int (i10_112)), (6, .int (i8_20)), (12, .int 1), (11, .int (v_123)), (9, .int (i9_111)), (10, .int (i10_112)), (8, .int (i8_20)), (5, .int (i5_5)), (0, .ref x), (1, .int (a1)), (2, .int (a2)), (3, .int (a3)), (4, .int (a4))]) X.1 X.2.1 dX12_mix_256 hl (by decide) rfl (fun ls hl => ?_)
                        obtain ⟨x_177, ex_177⟩ : ∃ y : Int32, y = i8_20 + 1 := ⟨_, rfl⟩
                        have z_178 : x_177.toInt = i8_20_z + 1 := z_add ex_177 hz_i8_20 ti_1 (by omega) (by omega)
                        refine lv_iinc (v := x_177) (lv' := [(8, .int (x_177)), (7, .int (i10_112)), (6, .int (i8_20)), (12, .int 1), (11, .int (v_123)), (9, .int (i9_111)), (10, .int (i10_112)), (5, .int (i5_5)), (0, .ref x), (1, .int (a1)), (2, .int (a2)), (3, .int (a3)), (4, .int (a4))]) X.1 X.2.1 dX12_mix_258 hl (k := 6) rfl (by rw [ex_177]; rfl) (by decide) rfl (fun ls hl => ?_)
                        refine lv_goto (tgt := 119) X.1 X.2.1 dX12_mix_261 (by decide) ?_
                        exact ih_L_17 _ (by omega) _ _ _ (i8_20) (i8_20_z) (i10_112) (i10_112_z) (x_177) (x_177.toInt) rfl hw hz_i8_20 hz_i10_112 rfl (by omega) (lv_sub hl [2, 1, 0, 7, 8, 9, 10, 11, 12] rfl)
                      · have z_b_179 := trivial
                        have k_180 : i10_112_z = i7_19_z := z_eq hz_i10_112 hz_i7_19 c_174
                        refine lv_iload X.1 X.2.1 dX12_mix_242 (lv_at hl 0 rfl) ?_
                        refine lv_if_ne (tgt := 250) X.1 X.2.1 dX12_mix_244 (by decide) (fun c_181 => ?_) (fun c_181 => absurd c_181 (by decide))
                        refine lv_iload X.1 X.2.1 dX12_mix_250 (lv_at hl 6 rfl) ?_
                        refine lv_istore (lv' := [(6, .int (i8_20)), (12, .int 1), (11, .int (v_123)), (9, .int (i9_111)), (10, .int (i10_112)), (7, .int (i7_19)), (8, .int (i8_20)), (5, .int (i5_5)), (0, .ref x), (1, .int (a1)), (2, .int (a2)), (3, .int (a3)), (4, .int (a4))]) X.1 X.2.1 dX12_mix_252 hl (by decide) rfl (fun ls hl => ?_)
                        refine lv_iload X.1 X.2.1 dX12_mix_254 (lv_at hl 4 rfl) ?_
                        refine lv_istore (lv' := [(7, .int (i10_112)), (6, .int (i8_20)), (12, .int 1), (11, .int (v_123)), (9, .int (i9_111)), (10, .int (i10_112)), (8, .int (i8_20)), (5, .int (i5_5)), (0, .ref x), (1, .int (a1)), (2, .int (a2)), (3, .int (a3)), (4, .int (a4))]) X.1 X.2.1 dX12_mix_256 hl (by decide) rfl (fun ls hl => ?_)
                        obtain ⟨x_182, ex_182⟩ : ∃ y : Int32, y = i8_20 + 1 := ⟨_, rfl⟩
                        have z_183 : x_182.toInt = i8_20_z + 1 := z_add ex_182 hz_i8_20 ti_1 (by omega) (by omega)
                        refine lv_iinc (v := x_182) (lv' := [(8, .int (x_182)), (7, .int (i10_112)), (6, .int (i8_20)), (12, .int 1), (11, .int (v_123)), (9, .int (i9_111)), (10, .int (i10_112)), (5, .int (i5_5)), (0, .ref x), (1, .int (a1)), (2, .int (a2)), (3, .int (a3)), (4, .int (a4))]) X.1 X.2.1 dX12_mix_258 hl (k := 6) rfl (by rw [ex_182]; rfl) (by decide) rfl (fun ls hl => ?_)
                        refine lv_goto (tgt := 119) X.1 X.2.1 dX12_mix_261 (by decide) ?_
                        exact ih_L_17 _ (by omega) _ _ _ (i8_20) (i8_20_z) (i10_112) (i10_112_z) (x_182) (x_182.toInt) rfl hw hz_i8_20 hz_i10_112 rfl (by omega) (lv_sub hl [2, 1, 0, 7, 8, 9, 10, 11, 12] rfl)
              · have z_b_184 := trivial
                have k_185 : i9_111_z < a1_z := z_nle hz_a1 hz_i9_111 c_120
                refine lv_goto (tgt := 258) X.1 X.2.1 dX12_mix_193 (by decide) ?_
                obtain ⟨x_186, ex_186⟩ : ∃ y : Int32, y = i8_20 + 1 := ⟨_, rfl⟩
                have z_187 : x_186.toInt = i8_20_z + 1 := z_add ex_186 hz_i8_20 ti_1 (by omega) (by omega)
                refine lv_iinc (v := x_186) (lv' := [(8, .int (x_186)), (9, .int (i9_111)), (10, .int (i10_112)), (11, .int (i11_113)), (6, .int (i6_18)), (7, .int (i7_19)), (5, .int (i5_5)), (0, .ref x), (1, .int (a1)), (2, .int (a2)), (3, .int (a3)), (4, .int (a4))]) X.1 X.2.1 dX12_mix_258 hl (k := 5) rfl (by rw [ex_186]; rfl) (by decide) rfl (fun ls hl => ?_)
                refine lv_goto (tgt := 119) X.1 X.2.1 dX12_mix_261 (by decide) ?_
                exact ih_L_17 _ (by omega) _ _ _ (i6_18) (i6_18_z) (i7_19) (i7_19_z) (x_186) (x_186.toInt) rfl hw hz_i6_18 hz_i7_19 rfl (by omega) (lv_sub hl [4, 5, 0, 6, 7, 8, 9, 10, 11] rfl)
            · have z_b_188 := trivial
              have k_189 : i11_113_z < i5_5_z := z_nle hz_i5_5 hz_i11_113 c_117
              refine lv_iload X.1 X.2.1 dX12_mix_144 (lv_at hl 5 rfl) ?_
              refine lv_iload X.1 X.2.1 dX12_mix_146 (lv_at hl 2 rfl) ?_
              refine lv_ishr X.1 X.2.1 dX12_mix_148 ?_
              refine lv_topi (fun v_190 ev_190 => ?_)
              have rg_191 := And.intro (z_lo v_190) (z_hi v_190)
              refine lv_iconst (v := 1) X.1 X.2.1 dX12_mix_149 (by decide) ?_
              refine lv_iand X.1 X.2.1 dX12_mix_150 ?_
              refine lv_topi (fun v_192 ev_192 => ?_)
              have z_193 : 0 ≤ v_192.toInt ∧ v_192.toInt ≤ 1 := z_and1 ev_192
              refine lv_if_ne (tgt := 157) X.1 X.2.1 dX12_mix_151 (by decide) (fun c_194 => ?_) (fun c_194 => ?_)
              · have z_b_195 := trivial
                have k_196 : v_192.toInt ≠ 0 := z_ne rfl ti_0 c_194
                refine lv_iload X.1 X.2.1 dX12_mix_157 (lv_at hl 0 rfl) ?_
                refine lv_aload_n X.1 X.2.1 dX12_mix_159 rfl (lv_at hl 7 rfl) ?_
                obtain ⟨q_197, h_198, h_199, h_200⟩ := gQ_12_1259 hO_T_7.1 ha_x_L_8
                refine r_getR (g := 1259) X hw ha_x_L_8 rfl 59 h_198 (by decide) rfl inn_X12_mix_12 (by decide) (X.2.2.2.1 (.fieldLink RX12 143 "SilkMillModel" "askedWeight" "[I") (by decide +kernel)) rfl (gv_1259 _ _) dX12_mix_160 ?_
                refine lv_iload X.1 X.2.1 dX12_mix_163 (lv_at hl 2 rfl) ?_
                refine r_iald X hw h_199 rfl (by rw [h_200]; exact z_ix hz_i11_113 (by omega) (by omega)) dX12_mix_165 ?_
                refine lv_topi (fun v_201 ev_201 => ?_)
                have rg_202 := And.intro (z_lo v_201) (z_hi v_201)
                have ev_201 := ev_201.symm
                refine lv_iadd X.1 X.2.1 dX12_mix_166 ?_
                refine lv_topi (fun v_203 ev_203 => ?_)
                have rg_204 := And.intro (z_lo v_203) (z_hi v_203)
                refine lv_istore (lv' := [(9, .int (v_203)), (10, .int (i10_112)), (11, .int (i11_113)), (6, .int (i6_18)), (7, .int (i7_19)), (8, .int (i8_20)), (5, .int (i5_5)), (0, .ref x), (1, .int (a1)), (2, .int (a2)), (3, .int (a3)), (4, .int (a4))]) X.1 X.2.1 dX12_mix_167 hl (by decide) rfl (fun ls hl => ?_)
                refine lv_iload X.1 X.2.1 dX12_mix_169 (lv_at hl 1 rfl) ?_
                refine lv_aload_n X.1 X.2.1 dX12_mix_171 rfl (lv_at hl 7 rfl) ?_
                obtain ⟨q_205, h_206, h_207, h_208⟩ := gQ_12_1260 hO_T_7.1 ha_x_L_8
                refine r_getR (g := 1260) X hw ha_x_L_8 rfl 60 h_206 (by decide) rfl inn_X12_mix_12 (by decide) (X.2.2.2.1 (.fieldLink RX12 146 "SilkMillModel" "askedPrice" "[I") (by decide +kernel)) rfl (gv_1260 _ _) dX12_mix_172 ?_
                refine lv_iload X.1 X.2.1 dX12_mix_175 (lv_at hl 2 rfl) ?_
                refine r_iald X hw h_207 rfl (by rw [h_208]; exact z_ix hz_i11_113 (by omega) (by omega)) dX12_mix_177 ?_
                refine lv_topi (fun v_209 ev_209 => ?_)
                have rg_210 := And.intro (z_lo v_209) (z_hi v_209)
                have ev_209 := ev_209.symm
                refine lv_iadd X.1 X.2.1 dX12_mix_178 ?_
                refine lv_topi (fun v_211 ev_211 => ?_)
                have rg_212 := And.intro (z_lo v_211) (z_hi v_211)
                refine lv_istore (lv' := [(10, .int (v_211)), (9, .int (v_203)), (11, .int (i11_113)), (6, .int (i6_18)), (7, .int (i7_19)), (8, .int (i8_20)), (5, .int (i5_5)), (0, .ref x), (1, .int (a1)), (2, .int (a2)), (3, .int (a3)), (4, .int (a4))]) X.1 X.2.1 dX12_mix_179 hl (by decide) rfl (fun ls hl => ?_)
                obtain ⟨x_213, ex_213⟩ : ∃ y : Int32, y = i11_113 + 1 := ⟨_, rfl⟩
                have z_214 : x_213.toInt = i11_113_z + 1 := z_add ex_213 hz_i11_113 ti_1 (by omega) (by omega)
                refine lv_iinc (v := x_213) (lv' := [(11, .int (x_213)), (10, .int (v_211)), (9, .int (v_203)), (6, .int (i6_18)), (7, .int (i7_19)), (8, .int (i8_20)), (5, .int (i5_5)), (0, .ref x), (1, .int (a1)), (2, .int (a2)), (3, .int (a3)), (4, .int (a4))]) X.1 X.2.1 dX12_mix_181 hl (k := 2) rfl (by rw [ex_213]; rfl) (by decide) rfl (fun ls hl => ?_)
                refine lv_goto (tgt := 137) X.1 X.2.1 dX12_mix_184 (by decide) ?_
                exact ih_L_110 _ (by omega) _ _ _ (v_203) (v_203.toInt) (v_211) (v_211.toInt) (x_213) (x_213.toInt) rfl hw rfl rfl rfl (by omega) (lv_sub hl [2, 1, 0, 3, 4, 5, 6, 7, 8, 9, 10, 11] rfl)
              · have z_b_215 := trivial
                have k_216 : v_192.toInt = 0 := z_eq rfl ti_0 c_194
                refine lv_goto (tgt := 181) X.1 X.2.1 dX12_mix_154 (by decide) ?_
                obtain ⟨x_217, ex_217⟩ : ∃ y : Int32, y = i11_113 + 1 := ⟨_, rfl⟩
                have z_218 : x_217.toInt = i11_113_z + 1 := z_add ex_217 hz_i11_113 ti_1 (by omega) (by omega)
                refine lv_iinc (v := x_217) (lv' := [(11, .int (x_217)), (9, .int (i9_111)), (10, .int (i10_112)), (6, .int (i6_18)), (7, .int (i7_19)), (8, .int (i8_20)), (5, .int (i5_5)), (0, .ref x), (1, .int (a1)), (2, .int (a2)), (3, .int (a3)), (4, .int (a4))]) X.1 X.2.1 dX12_mix_181 hl (k := 2) rfl (by rw [ex_217]; rfl) (by decide) rfl (fun ls hl => ?_)
                refine lv_goto (tgt := 137) X.1 X.2.1 dX12_mix_184 (by decide) ?_
                exact ih_L_110 _ (by omega) _ _ _ (i9_111) (i9_111_z) (i10_112) (i10_112_z) (x_217) (x_217.toInt) rfl hw hz_i9_111 hz_i10_112 rfl (by omega) (lv_sub hl [1, 2, 0, 3, 4, 5, 6, 7, 8, 9, 10, 11] rfl)
          exact L_110 _ _ _ _ (0) (0) (0) (0) (0) (0) rfl hw ti_0 ti_0 ti_0 (by omega) (lv_sub hl [2, 1, 0, 3, 4, 5, 6, 7, 8, 9, 10, 11] rfl)
      exact L_17 _ _ _ _ (0) (0) ((-1)) ((-1)) (1) (1) rfl hw ti_0 ti_m1 ti_1 (by omega) (lv_sub hl [2, 1, 0, 3, 4, 5, 6, 7, 8] rfl)
    · have z_b_219 := trivial
      have k_220 : i6_6_z < v_11.toInt := z_nle rfl hz_i6_6 c_14
      refine lv_iload X.1 X.2.1 dX12_mix_20 (lv_at hl 0 rfl) ?_
      refine lv_bipush (v := 14) X.1 X.2.1 dX12_mix_22 (by decide) ?_
      refine lv_icmp_ge (tgt := 110) X.1 X.2.1 dX12_mix_24 (by decide) (fun c_221 => ?_) (fun c_221 => ?_)
      · have z_b_222 := trivial
        have k_223 : i5_5_z ≥ 14 := z_le ti_14 hz_i5_5 c_221
        refine lv_iconst (v := 0) X.1 X.2.1 dX12_mix_110 (by decide) ?_
        refine lv_istore (lv' := [(6, .int 0), (5, .int (i5_5)), (0, .ref x), (1, .int (a1)), (2, .int (a2)), (3, .int (a3)), (4, .int (a4))]) X.1 X.2.1 dX12_mix_111 hl (by decide) rfl (fun ls hl => ?_)
        refine lv_iconst (v := (-1)) X.1 X.2.1 dX12_mix_113 (by decide) ?_
        refine lv_istore (lv' := [(7, .int (-1)), (6, .int 0), (5, .int (i5_5)), (0, .ref x), (1, .int (a1)), (2, .int (a2)), (3, .int (a3)), (4, .int (a4))]) X.1 X.2.1 dX12_mix_114 hl (by decide) rfl (fun ls hl => ?_)
        refine lv_iconst (v := 1) X.1 X.2.1 dX12_mix_116 (by decide) ?_
        refine lv_istore (lv' := [(8, .int 1), (7, .int (-1)), (6, .int 0), (5, .int (i5_5)), (0, .ref x), (1, .int (a1)), (2, .int (a2)), (3, .int (a3)), (4, .int (a4))]) X.1 X.2.1 dX12_mix_117 hl (by decide) rfl (fun ls hl => ?_)
        have L_224 : ∀ (n : Nat) (H : Heap) (locs : List Loc) (ls : Array Slot) (i6_225 : Int32) (i6_225_z : Int) (i7_226 : Int32) (i7_226_z : Int) (i8_227 : Int32) (i8_227_z : Int), ((2147483647 - i8_227_z).toNat = n) → (Wd G cy (AS S s.heap.size) s.heap T_7 H locs) → (i6_225.toInt = i6_225_z) → (i7_226.toInt = i7_226_z) → (i8_227.toInt = i8_227_z) → (1 ≤ i8_227_z ∧ i8_227_z ≤ 2147483647) → (lv_has ls 13 [(6, .int (i6_225)), (7, .int (i7_226)), (8, .int (i8_227)), (5, .int (i5_5)), (0, .ref x), (1, .int (a1)), (2, .int (a2)), (3, .int (a3)), (4, .int (a4))]) → W p l e ({ frames := 8, cells := 0, slots := 0, locals := 384 }) s m [.ref x, .int (a1), .int (a2), .int (a3), .int (a4)].toArray below meth c H locs 0 0 QQ (F0 m 119 ls []) := by
          intro n
          induction n using Nat.strongRecOn with
          | ind n ih_L_224 =>
          intro H locs ls i6_225 i6_225_z i7_226 i7_226_z i8_227 i8_227_z hn hw hz_i6_225 hz_i7_226 hz_i8_227 hr_i8_227 hl
          have rg_228 : (-2147483648) ≤ i6_225_z ∧ i6_225_z ≤ 2147483647 := by rw [← hz_i6_225]; exact ⟨z_lo _, z_hi _⟩
          have rg_229 : (-2147483648) ≤ i7_226_z ∧ i7_226_z ≤ 2147483647 := by rw [← hz_i7_226]; exact ⟨z_lo _, z_hi _⟩
          have rg_230 : (-2147483648) ≤ i8_227_z ∧ i8_227_z ≤ 2147483647 := by rw [← hz_i8_227]; exact ⟨z_lo _, z_hi _⟩
          refine lv_iload X.1 X.2.1 dX12_mix_119 (lv_at hl 2 rfl) ?_
          refine lv_iconst (v := 1) X.1 X.2.1 dX12_mix_121 (by decide) ?_
          refine lv_iload X.1 X.2.1 dX12_mix_122 (lv_at hl 3 rfl) ?_
          refine lv_ishl X.1 X.2.1 dX12_mix_124 ?_
          refine lv_topi (fun v_231 ev_231 => ?_)
          have rg_232 := And.intro (z_lo v_231) (z_hi v_231)
          refine lv_icmp_ge (tgt := 264) X.1 X.2.1 dX12_mix_125 (by decide) (fun c_233 => ?_) (fun c_233 => ?_)
          · have z_b_234 := trivial
            have k_235 : i8_227_z ≥ v_231.toInt := z_le rfl hz_i8_227 c_233
            refine lv_iload X.1 X.2.1 dX12_mix_264 (lv_at hl 1 rfl) ?_
            refine lv_iconst (v := (-1)) X.1 X.2.1 dX12_mix_266 (by decide) ?_
            refine lv_icmp_ne (tgt := 272) X.1 X.2.1 dX12_mix_267 (by decide) (fun c_236 => ?_) (fun c_236 => ?_)
            · have z_b_237 := trivial
              have k_238 : i7_226_z ≠ (-1) := z_ne hz_i7_226 ti_m1 c_236
              refine lv_iconst (v := 0) X.1 X.2.1 dX12_mix_272 (by decide) ?_
              refine lv_istore (lv' := [(8, .int 0), (6, .int (i6_225)), (7, .int (i7_226)), (5, .int (i5_5)), (0, .ref x), (1, .int (a1)), (2, .int (a2)), (3, .int (a3)), (4, .int (a4))]) X.1 X.2.1 dX12_mix_273 hl (by decide) rfl (fun ls hl => ?_)
              have L_239 : ∀ (n : Nat) (T_241 : PS) (H : Heap) (locs : List Loc) (ls : Array Slot) (i8_240 : Int32) (i8_240_z : Int), ((40 - i8_240_z).toNat = n) → (Wd G cy (AS S s.heap.size) s.heap T_241 H locs) → (i8_240.toInt = i8_240_z) → (0 ≤ i8_240_z ∧ i8_240_z ≤ 40) → (At T_241 x 12) → (Ok MN S T_241) → (lv_has ls 13 [(8, .int (i8_240)), (6, .int (i6_225)), (7, .int (i7_226)), (5, .int (i5_5)), (0, .ref x), (1, .int (a1)), (2, .int (a2)), (3, .int (a3)), (4, .int (a4))]) → W p l e ({ frames := 8, cells := 0, slots := 0, locals := 384 }) s m [.ref x, .int (a1), .int (a2), .int (a3), .int (a4)].toArray below meth c H locs 0 0 QQ (F0 m 275 ls []) := by
                intro n
                induction n using Nat.strongRecOn with
                | ind n ih_L_239 =>
                intro T_241 H locs ls i8_240 i8_240_z hn hw hz_i8_240 hr_i8_240 ha_x_L_242 hO_T_241 hl
                have rg_243 : (-2147483648) ≤ i8_240_z ∧ i8_240_z ≤ 2147483647 := by rw [← hz_i8_240]; exact ⟨z_lo _, z_hi _⟩
                refine lv_iload X.1 X.2.1 dX12_mix_275 (lv_at hl 0 rfl) ?_
                refine lv_bipush (v := 40) X.1 X.2.1 dX12_mix_277 (by decide) ?_
                refine lv_icmp_ge (tgt := 296) X.1 X.2.1 dX12_mix_279 (by decide) (fun c_244 => ?_) (fun c_244 => ?_)
                · have z_b_245 := trivial
                  have k_246 : i8_240_z ≥ 40 := z_le ti_40 hz_i8_240 c_244
                  refine lv_iconst (v := 0) X.1 X.2.1 dX12_mix_296 (by decide) ?_
                  refine lv_istore (lv' := [(8, .int 0), (6, .int (i6_225)), (7, .int (i7_226)), (5, .int (i5_5)), (0, .ref x), (1, .int (a1)), (2, .int (a2)), (3, .int (a3)), (4, .int (a4))]) X.1 X.2.1 dX12_mix_297 hl (by decide) rfl (fun ls hl => ?_)
                  have L_247 : ∀ (n : Nat) (T_249 : PS) (H : Heap) (locs : List Loc) (ls : Array Slot) (i8_248 : Int32) (i8_248_z : Int), ((14 - i8_248_z).toNat = n) → (Wd G cy (AS S s.heap.size) s.heap T_249 H locs) → (i8_248.toInt = i8_248_z) → (0 ≤ i8_248_z ∧ i8_248_z ≤ 14) → (At T_249 x 12) → (Ok MN S T_249) → (lv_has ls 13 [(8, .int (i8_248)), (6, .int (i6_225)), (7, .int (i7_226)), (5, .int (i5_5)), (0, .ref x), (1, .int (a1)), (2, .int (a2)), (3, .int (a3)), (4, .int (a4))]) → W p l e ({ frames := 8, cells := 0, slots := 0, locals := 384 }) s m [.ref x, .int (a1), .int (a2), .int (a3), .int (a4)].toArray below meth c H locs 0 0 QQ (F0 m 299 ls []) := by
                    intro n
                    induction n using Nat.strongRecOn with
                    | ind n ih_L_247 =>
                    intro T_249 H locs ls i8_248 i8_248_z hn hw hz_i8_248 hr_i8_248 ha_x_L_250 hO_T_249 hl
                    have rg_251 : (-2147483648) ≤ i8_248_z ∧ i8_248_z ≤ 2147483647 := by rw [← hz_i8_248]; exact ⟨z_lo _, z_hi _⟩
                    refine lv_iload X.1 X.2.1 dX12_mix_299 (lv_at hl 0 rfl) ?_
                    refine lv_iload X.1 X.2.1 dX12_mix_301 (lv_at hl 3 rfl) ?_
                    refine lv_icmp_ge (tgt := 356) X.1 X.2.1 dX12_mix_303 (by decide) (fun c_252 => ?_) (fun c_252 => ?_)
                    · have z_b_253 := trivial
                      have k_254 : i8_248_z ≥ i5_5_z := z_le hz_i5_5 hz_i8_248 c_252
                      refine lv_iload X.1 X.2.1 dX12_mix_356 (lv_at hl 2 rfl) ?_
                      rw [hQQ]
                      exact ret_i X hw hr hlocks (Nat.le_of_ble_eq_true rfl) (Nat.le_of_ble_eq_true rfl) ⟨hO_T_249, trivial⟩ dX12_mix_358
                    · have z_b_255 := trivial
                      have k_256 : i8_248_z < i5_5_z := z_nle hz_i5_5 hz_i8_248 c_252
                      refine lv_iload X.1 X.2.1 dX12_mix_306 (lv_at hl 1 rfl) ?_
                      refine lv_iload X.1 X.2.1 dX12_mix_308 (lv_at hl 0 rfl) ?_
                      refine lv_ishr X.1 X.2.1 dX12_mix_310 ?_
                      refine lv_topi (fun v_257 ev_257 => ?_)
                      have rg_258 := And.intro (z_lo v_257) (z_hi v_257)
                      refine lv_iconst (v := 1) X.1 X.2.1 dX12_mix_311 (by decide) ?_
                      refine lv_iand X.1 X.2.1 dX12_mix_312 ?_
                      refine lv_topi (fun v_259 ev_259 => ?_)
                      have z_260 : 0 ≤ v_259.toInt ∧ v_259.toInt ≤ 1 := z_and1 ev_259
                      refine lv_if_ne (tgt := 319) X.1 X.2.1 dX12_mix_313 (by decide) (fun c_261 => ?_) (fun c_261 => ?_)
                      · have z_b_262 := trivial
                        have k_263 : v_259.toInt ≠ 0 := z_ne rfl ti_0 c_261
                        refine lv_aload_n X.1 X.2.1 dX12_mix_319 rfl (lv_at hl 4 rfl) ?_
                        obtain ⟨q_264, h_265, h_266, h_267⟩ := gQ_12_1261 hO_T_249.1 ha_x_L_250
                        refine r_getR (g := 1261) X hw ha_x_L_250 rfl 61 h_265 (by decide) rfl inn_X12_mix_12 (by decide) (X.2.2.2.1 (.fieldLink RX12 149 "SilkMillModel" "isMixed" "[Z") (by decide +kernel)) rfl (gv_1261 _ _) dX12_mix_320 ?_
                        refine lv_aload_n X.1 X.2.1 dX12_mix_323 rfl (lv_at hl 4 rfl) ?_
                        obtain ⟨q_268, h_269, h_270, h_271⟩ := gQ_12_1258 hO_T_249.1 ha_x_L_250
                        refine r_getR (g := 1258) X hw ha_x_L_250 rfl 58 h_269 (by decide) rfl inn_X12_mix_12 (by decide) (X.2.2.2.1 (.fieldLink RX12 140 "SilkMillModel" "asked" "[I") (by decide +kernel)) rfl (gv_1258 _ _) dX12_mix_324 ?_
                        refine lv_iload X.1 X.2.1 dX12_mix_327 (lv_at hl 0 rfl) ?_
                        refine r_iald X hw h_270 rfl (by rw [h_271]; exact z_ix hz_i8_248 (by omega) (by omega)) dX12_mix_329 ?_
                        refine lv_topi (fun v_272 ev_272 => ?_)
                        have z_273 := gE_1374 hO_T_249.1 h_270 (Int32.toNatClampNeg (i8_248)); rw [← ev_272] at z_273
                        have ev_272 := ev_272.symm
                        refine lv_iconst (v := 1) X.1 X.2.1 dX12_mix_330 (by decide) ?_
                        refine r_zast X hw h_266 rfl (by rw [h_267]; exact z_ix rfl (by omega) (by omega)) dX12_mix_331 (fun H locs hw => ?_)
                        obtain ⟨S_274, eS_274⟩ : ∃ T, T = sA T_249 q_264 (upd (pA T_249 q_264) (Int32.toNatClampNeg (v_272)) (vp_nar .boolean (1))) := ⟨_, rfl⟩
                        rw [← eS_274] at hw
                        have hO_275 : Ok MN S S_274 := hO_T_249.sA eS_274 h_266 (by decide +kernel) (uA_1435 hO_T_249.1 h_266)
                        refine lv_iload X.1 X.2.1 dX12_mix_332 (lv_at hl 8 rfl) ?_
                        refine lv_if_eq (tgt := 350) X.1 X.2.1 dX12_mix_334 (by decide) (fun c_276 => ?_) (fun c_276 => ?_)
                        · have z_b_277 := trivial
                          have k_278 : a4_z = 0 := z_eq hz_a4 ti_0 c_276
                          obtain ⟨x_279, ex_279⟩ : ∃ y : Int32, y = i8_248 + 1 := ⟨_, rfl⟩
                          have z_280 : x_279.toInt = i8_248_z + 1 := z_add ex_279 hz_i8_248 ti_1 (by omega) (by omega)
                          refine lv_iinc (v := x_279) (lv' := [(8, .int (x_279)), (6, .int (i6_225)), (7, .int (i7_226)), (5, .int (i5_5)), (0, .ref x), (1, .int (a1)), (2, .int (a2)), (3, .int (a3)), (4, .int (a4))]) X.1 X.2.1 dX12_mix_350 hl (k := 0) rfl (by rw [ex_279]; rfl) (by decide) rfl (fun ls hl => ?_)
                          refine lv_goto (tgt := 299) X.1 X.2.1 dX12_mix_353 (by decide) ?_
                          have t_281 : At S_274 x 12 := tAt_sA eS_274 ha_x_L_250
                          exact ih_L_247 _ (by omega) _ _ _ _ (x_279) (x_279.toInt) rfl hw rfl (by omega) t_281 hO_275 (lv_sub hl [0, 1, 2, 3, 4, 5, 6, 7, 8] rfl)
                        · have z_b_282 := trivial
                          have k_283 : a4_z ≠ 0 := z_ne hz_a4 ti_0 c_276
                          refine lv_aload_n X.1 X.2.1 dX12_mix_337 rfl (lv_at hl 4 rfl) ?_
                          have t_284 : At S_274 x 12 := tAt_sA eS_274 ha_x_L_250
                          obtain ⟨q_285, h_286, h_287, h_288⟩ := gQ_12_1244 hO_275.1 t_284
                          refine r_getR (g := 1244) X hw t_284 rfl 44 h_286 (by decide) rfl inn_X12_mix_12 (by decide) (X.2.2.2.1 (.fieldLink RX12 115 "SilkMillModel" "isSold" "[Z") (by decide +kernel)) rfl (gv_1244 _ _) dX12_mix_338 ?_
                          refine lv_aload_n X.1 X.2.1 dX12_mix_341 rfl (lv_at hl 4 rfl) ?_
                          have t_289 : pR S_274 1258 x = some q_268 := tR_sA eS_274 h_269
                          refine r_getR (g := 1258) X hw t_284 rfl 58 t_289 (by decide) rfl inn_X12_mix_12 (by decide) (X.2.2.2.1 (.fieldLink RX12 140 "SilkMillModel" "asked" "[I") (by decide +kernel)) rfl (gv_1258 _ _) dX12_mix_342 ?_
                          refine lv_iload X.1 X.2.1 dX12_mix_345 (lv_at hl 0 rfl) ?_
                          have t_290 : At S_274 q_268 1374 := tAt_sA eS_274 h_270
                          have t_291 : pN S_274 q_268 = 14 := tN_sA eS_274 h_271
                          clear h_271
                          refine r_iald X hw t_290 rfl (by rw [t_291]; exact z_ix hz_i8_248 (by omega) (by omega)) dX12_mix_347 ?_
                          have t_292 : pA S_274 q_268 (Int32.toNatClampNeg (i8_248)) = v_272 := tA_sA eS_274 (At_ne h_270 h_266 (by decide)) ev_272
                          rw [t_292]
                          refine lv_iconst (v := 1) X.1 X.2.1 dX12_mix_348 (by decide) ?_
                          refine r_zast X hw h_287 rfl (by rw [h_288]; exact z_ix rfl (by omega) (by omega)) dX12_mix_349 (fun H locs hw => ?_)
                          obtain ⟨S_293, eS_293⟩ : ∃ T, T = sA S_274 q_285 (upd (pA S_274 q_285) (Int32.toNatClampNeg (v_272)) (vp_nar .boolean (1))) := ⟨_, rfl⟩
                          rw [← eS_293] at hw
                          have hO_294 : Ok MN S S_293 := hO_275.sA eS_293 h_287 (by decide +kernel) (uA_1095 hO_275.1 h_287)
                          obtain ⟨x_295, ex_295⟩ : ∃ y : Int32, y = i8_248 + 1 := ⟨_, rfl⟩
                          have z_296 : x_295.toInt = i8_248_z + 1 := z_add ex_295 hz_i8_248 ti_1 (by omega) (by omega)
                          refine lv_iinc (v := x_295) (lv' := [(8, .int (x_295)), (6, .int (i6_225)), (7, .int (i7_226)), (5, .int (i5_5)), (0, .ref x), (1, .int (a1)), (2, .int (a2)), (3, .int (a3)), (4, .int (a4))]) X.1 X.2.1 dX12_mix_350 hl (k := 0) rfl (by rw [ex_295]; rfl) (by decide) rfl (fun ls hl => ?_)
                          refine lv_goto (tgt := 299) X.1 X.2.1 dX12_mix_353 (by decide) ?_
                          have t_297 : At S_293 x 12 := tAt_sA eS_293 t_284
                          exact ih_L_247 _ (by omega) _ _ _ _ (x_295) (x_295.toInt) rfl hw rfl (by omega) t_297 hO_294 (lv_sub hl [0, 1, 2, 3, 4, 5, 6, 7, 8] rfl)
                      · have z_b_298 := trivial
                        have k_299 : v_259.toInt = 0 := z_eq rfl ti_0 c_261
                        refine lv_goto (tgt := 350) X.1 X.2.1 dX12_mix_316 (by decide) ?_
                        obtain ⟨x_300, ex_300⟩ : ∃ y : Int32, y = i8_248 + 1 := ⟨_, rfl⟩
                        have z_301 : x_300.toInt = i8_248_z + 1 := z_add ex_300 hz_i8_248 ti_1 (by omega) (by omega)
                        refine lv_iinc (v := x_300) (lv' := [(8, .int (x_300)), (6, .int (i6_225)), (7, .int (i7_226)), (5, .int (i5_5)), (0, .ref x), (1, .int (a1)), (2, .int (a2)), (3, .int (a3)), (4, .int (a4))]) X.1 X.2.1 dX12_mix_350 hl (k := 0) rfl (by rw [ex_300]; rfl) (by decide) rfl (fun ls hl => ?_)
                        refine lv_goto (tgt := 299) X.1 X.2.1 dX12_mix_353 (by decide) ?_
                        exact ih_L_247 _ (by omega) _ _ _ _ (x_300) (x_300.toInt) rfl hw rfl (by omega) ha_x_L_250 hO_T_249 (lv_sub hl [0, 1, 2, 3, 4, 5, 6, 7, 8] rfl)
                  exact L_247 _ _ _ _ _ (0) (0) rfl hw ti_0 (by omega) ha_x_L_242 hO_T_241 (lv_sub hl [0, 1, 2, 3, 4, 5, 6, 7, 8] rfl)
                · have z_b_302 := trivial
                  have k_303 : i8_240_z < 40 := z_nle ti_40 hz_i8_240 c_244
                  refine lv_aload_n X.1 X.2.1 dX12_mix_282 rfl (lv_at hl 4 rfl) ?_
                  obtain ⟨q_304, h_305, h_306, h_307⟩ := gQ_12_1261 hO_T_241.1 ha_x_L_242
                  refine r_getR (g := 1261) X hw ha_x_L_242 rfl 61 h_305 (by decide) rfl inn_X12_mix_12 (by decide) (X.2.2.2.1 (.fieldLink RX12 149 "SilkMillModel" "isMixed" "[Z") (by decide +kernel)) rfl (gv_1261 _ _) dX12_mix_283 ?_
                  refine lv_iload X.1 X.2.1 dX12_mix_286 (lv_at hl 0 rfl) ?_
                  refine lv_iconst (v := 0) X.1 X.2.1 dX12_mix_288 (by decide) ?_
                  refine r_zast X hw h_306 rfl (by rw [h_307]; exact z_ix hz_i8_240 (by omega) (by omega)) dX12_mix_289 (fun H locs hw => ?_)
                  obtain ⟨S_308, eS_308⟩ : ∃ T, T = sA T_241 q_304 (upd (pA T_241 q_304) (Int32.toNatClampNeg (i8_240)) (vp_nar .boolean (0))) := ⟨_, rfl⟩
                  rw [← eS_308] at hw
                  have hO_309 : Ok MN S S_308 := hO_T_241.sA eS_308 h_306 (by decide +kernel) (uA_1435 hO_T_241.1 h_306)
                  obtain ⟨x_310, ex_310⟩ : ∃ y : Int32, y = i8_240 + 1 := ⟨_, rfl⟩
                  have z_311 : x_310.toInt = i8_240_z + 1 := z_add ex_310 hz_i8_240 ti_1 (by omega) (by omega)
                  refine lv_iinc (v := x_310) (lv' := [(8, .int (x_310)), (6, .int (i6_225)), (7, .int (i7_226)), (5, .int (i5_5)), (0, .ref x), (1, .int (a1)), (2, .int (a2)), (3, .int (a3)), (4, .int (a4))]) X.1 X.2.1 dX12_mix_290 hl (k := 0) rfl (by rw [ex_310]; rfl) (by decide) rfl (fun ls hl => ?_)
                  refine lv_goto (tgt := 275) X.1 X.2.1 dX12_mix_293 (by decide) ?_
                  have t_312 : At S_308 x 12 := tAt_sA eS_308 ha_x_L_242
                  exact ih_L_239 _ (by omega) _ _ _ _ (x_310) (x_310.toInt) rfl hw rfl (by omega) t_312 hO_309 (lv_sub hl [0, 1, 2, 3, 4, 5, 6, 7, 8] rfl)
              exact L_239 _ _ _ _ _ (0) (0) rfl hw ti_0 (by omega) ha_x_L_8 hO_T_7 (lv_sub hl [0, 1, 2, 3, 4, 5, 6, 7, 8] rfl)
            · have z_b_313 := trivial
              have k_314 : i7_226_z = (-1) := z_eq hz_i7_226 ti_m1 c_236
              refine lv_iconst (v := (-1)) X.1 X.2.1 dX12_mix_270 (by decide) ?_
              rw [hQQ]
              exact ret_i X hw hr hlocks (Nat.le_of_ble_eq_true rfl) (Nat.le_of_ble_eq_true rfl) ⟨hO_T_7, trivial⟩ dX12_mix_271
          · have z_b_315 := trivial
            have k_316 : i8_227_z < v_231.toInt := z_nle rfl hz_i8_227 c_233
            refine lv_iconst (v := 0) X.1 X.2.1 dX12_mix_128 (by decide) ?_
            refine lv_istore (lv' := [(9, .int 0), (6, .int (i6_225)), (7, .int (i7_226)), (8, .int (i8_227)), (5, .int (i5_5)), (0, .ref x), (1, .int (a1)), (2, .int (a2)), (3, .int (a3)), (4, .int (a4))]) X.1 X.2.1 dX12_mix_129 hl (by decide) rfl (fun ls hl => ?_)
            refine lv_iconst (v := 0) X.1 X.2.1 dX12_mix_131 (by decide) ?_
            refine lv_istore (lv' := [(10, .int 0), (9, .int 0), (6, .int (i6_225)), (7, .int (i7_226)), (8, .int (i8_227)), (5, .int (i5_5)), (0, .ref x), (1, .int (a1)), (2, .int (a2)), (3, .int (a3)), (4, .int (a4))]) X.1 X.2.1 dX12_mix_132 hl (by decide) rfl (fun ls hl => ?_)
            refine lv_iconst (v := 0) X.1 X.2.1 dX12_mix_134 (by decide) ?_
            refine lv_istore (lv' := [(11, .int 0), (10, .int 0), (9, .int 0), (6, .int (i6_225)), (7, .int (i7_226)), (8, .int (i8_227)), (5, .int (i5_5)), (0, .ref x), (1, .int (a1)), (2, .int (a2)), (3, .int (a3)), (4, .int (a4))]) X.1 X.2.1 dX12_mix_135 hl (by decide) rfl (fun ls hl => ?_)
            have L_317 : ∀ (n : Nat) (H : Heap) (locs : List Loc) (ls : Array Slot) (i9_318 : Int32) (i9_318_z : Int) (i10_319 : Int32) (i10_319_z : Int) (i11_320 : Int32) (i11_320_z : Int), ((14 - i11_320_z).toNat = n) → (Wd G cy (AS S s.heap.size) s.heap T_7 H locs) → (i9_318.toInt = i9_318_z) → (i10_319.toInt = i10_319_z) → (i11_320.toInt = i11_320_z) → (0 ≤ i11_320_z ∧ i11_320_z ≤ 14) → (lv_has ls 13 [(9, .int (i9_318)), (10, .int (i10_319)), (11, .int (i11_320)), (6, .int (i6_225)), (7, .int (i7_226)), (8, .int (i8_227)), (5, .int (i5_5)), (0, .ref x), (1, .int (a1)), (2, .int (a2)), (3, .int (a3)), (4, .int (a4))]) → W p l e ({ frames := 8, cells := 0, slots := 0, locals := 384 }) s m [.ref x, .int (a1), .int (a2), .int (a3), .int (a4)].toArray below meth c H locs 0 0 QQ (F0 m 137 ls []) := by
              intro n
              induction n using Nat.strongRecOn with
              | ind n ih_L_317 =>
              intro H locs ls i9_318 i9_318_z i10_319 i10_319_z i11_320 i11_320_z hn hw hz_i9_318 hz_i10_319 hz_i11_320 hr_i11_320 hl
              have rg_321 : (-2147483648) ≤ i9_318_z ∧ i9_318_z ≤ 2147483647 := by rw [← hz_i9_318]; exact ⟨z_lo _, z_hi _⟩
              have rg_322 : (-2147483648) ≤ i10_319_z ∧ i10_319_z ≤ 2147483647 := by rw [← hz_i10_319]; exact ⟨z_lo _, z_hi _⟩
              have rg_323 : (-2147483648) ≤ i11_320_z ∧ i11_320_z ≤ 2147483647 := by rw [← hz_i11_320]; exact ⟨z_lo _, z_hi _⟩
              refine lv_iload X.1 X.2.1 dX12_mix_137 (lv_at hl 2 rfl) ?_
              refine lv_iload X.1 X.2.1 dX12_mix_139 (lv_at hl 6 rfl) ?_
              refine lv_icmp_ge (tgt := 187) X.1 X.2.1 dX12_mix_141 (by decide) (fun c_324 => ?_) (fun c_324 => ?_)
              · have z_b_325 := trivial
                have k_326 : i11_320_z ≥ i5_5_z := z_le hz_i5_5 hz_i11_320 c_324
                refine lv_iload X.1 X.2.1 dX12_mix_187 (lv_at hl 0 rfl) ?_
                refine lv_iload_n X.1 X.2.1 dX12_mix_189 rfl (lv_at hl 8 rfl) ?_
                refine lv_icmp_ge (tgt := 196) X.1 X.2.1 dX12_mix_190 (by decide) (fun c_327 => ?_) (fun c_327 => ?_)
                · have z_b_328 := trivial
                  have k_329 : i9_318_z ≥ a1_z := z_le hz_a1 hz_i9_318 c_327
                  refine lv_iload X.1 X.2.1 dX12_mix_196 (lv_at hl 5 rfl) ?_
                  refine lv_iload X.1 X.2.1 dX12_mix_198 (lv_at hl 3 rfl) ?_
                  refine lv_ixor X.1 X.2.1 dX12_mix_200 ?_
                  refine lv_topi (fun v_330 ev_330 => ?_)
                  have rg_331 := And.intro (z_lo v_330) (z_hi v_330)
                  refine lv_istore (lv' := [(11, .int (v_330)), (9, .int (i9_318)), (10, .int (i10_319)), (6, .int (i6_225)), (7, .int (i7_226)), (8, .int (i8_227)), (5, .int (i5_5)), (0, .ref x), (1, .int (a1)), (2, .int (a2)), (3, .int (a3)), (4, .int (a4))]) X.1 X.2.1 dX12_mix_201 hl (by decide) rfl (fun ls hl => ?_)
                  refine lv_iload X.1 X.2.1 dX12_mix_203 (lv_at hl 5 rfl) ?_
                  refine lv_iload X.1 X.2.1 dX12_mix_205 (lv_at hl 0 rfl) ?_
                  refine lv_iand X.1 X.2.1 dX12_mix_207 ?_
                  refine lv_topi (fun v_332 ev_332 => ?_)
                  have rg_333 := And.intro (z_lo v_332) (z_hi v_332)
                  refine lv_iload X.1 X.2.1 dX12_mix_208 (lv_at hl 0 rfl) ?_
                  refine lv_ineg X.1 X.2.1 dX12_mix_210 ?_
                  refine lv_topi (fun v_334 ev_334 => ?_)
                  have rg_335 := And.intro (z_lo v_334) (z_hi v_334)
                  refine lv_iand X.1 X.2.1 dX12_mix_211 ?_
                  refine lv_topi (fun v_336 ev_336 => ?_)
                  have rg_337 := And.intro (z_lo v_336) (z_hi v_336)
                  refine lv_if_eq (tgt := 219) X.1 X.2.1 dX12_mix_212 (by decide) (fun c_338 => ?_) (fun c_338 => ?_)
                  · have z_b_339 := trivial
                    have k_340 : v_336.toInt = 0 := z_eq rfl ti_0 c_338
                    refine lv_iconst (v := 0) X.1 X.2.1 dX12_mix_219 (by decide) ?_
                    refine lv_istore (lv' := [(12, .int 0), (11, .int (v_330)), (9, .int (i9_318)), (10, .int (i10_319)), (6, .int (i6_225)), (7, .int (i7_226)), (8, .int (i8_227)), (5, .int (i5_5)), (0, .ref x), (1, .int (a1)), (2, .int (a2)), (3, .int (a3)), (4, .int (a4))]) X.1 X.2.1 dX12_mix_220 hl (by decide) rfl (fun ls hl => ?_)
                    refine lv_iload X.1 X.2.1 dX12_mix_222 (lv_at hl 5 rfl) ?_
                    refine lv_iconst (v := (-1)) X.1 X.2.1 dX12_mix_224 (by decide) ?_
                    refine lv_icmp_eq (tgt := 250) X.1 X.2.1 dX12_mix_225 (by decide) (fun c_341 => ?_) (fun c_341 => ?_)
                    · have z_b_342 := trivial
                      have k_343 : i7_226_z = (-1) := z_eq hz_i7_226 ti_m1 c_341
                      refine lv_iload X.1 X.2.1 dX12_mix_250 (lv_at hl 6 rfl) ?_
                      refine lv_istore (lv' := [(6, .int (i8_227)), (12, .int 0), (11, .int (v_330)), (9, .int (i9_318)), (10, .int (i10_319)), (7, .int (i7_226)), (8, .int (i8_227)), (5, .int (i5_5)), (0, .ref x), (1, .int (a1)), (2, .int (a2)), (3, .int (a3)), (4, .int (a4))]) X.1 X.2.1 dX12_mix_252 hl (by decide) rfl (fun ls hl => ?_)
                      refine lv_iload X.1 X.2.1 dX12_mix_254 (lv_at hl 4 rfl) ?_
                      refine lv_istore (lv' := [(7, .int (i10_319)), (6, .int (i8_227)), (12, .int 0), (11, .int (v_330)), (9, .int (i9_318)), (10, .int (i10_319)), (8, .int (i8_227)), (5, .int (i5_5)), (0, .ref x), (1, .int (a1)), (2, .int (a2)), (3, .int (a3)), (4, .int (a4))]) X.1 X.2.1 dX12_mix_256 hl (by decide) rfl (fun ls hl => ?_)
                      obtain ⟨x_344, ex_344⟩ : ∃ y : Int32, y = i8_227 + 1 := ⟨_, rfl⟩
                      have z_345 : x_344.toInt = i8_227_z + 1 := z_add ex_344 hz_i8_227 ti_1 (by omega) (by omega)
                      refine lv_iinc (v := x_344) (lv' := [(8, .int (x_344)), (7, .int (i10_319)), (6, .int (i8_227)), (12, .int 0), (11, .int (v_330)), (9, .int (i9_318)), (10, .int (i10_319)), (5, .int (i5_5)), (0, .ref x), (1, .int (a1)), (2, .int (a2)), (3, .int (a3)), (4, .int (a4))]) X.1 X.2.1 dX12_mix_258 hl (k := 6) rfl (by rw [ex_344]; rfl) (by decide) rfl (fun ls hl => ?_)
                      refine lv_goto (tgt := 119) X.1 X.2.1 dX12_mix_261 (by decide) ?_
                      exact ih_L_224 _ (by omega) _ _ _ (i8_227) (i8_227_z) (i10_319) (i10_319_z) (x_344) (x_344.toInt) rfl hw hz_i8_227 hz_i10_319 rfl (by omega) (lv_sub hl [2, 1, 0, 7, 8, 9, 10, 11, 12] rfl)
                    · have z_b_346 := trivial
                      have k_347 : i7_226_z ≠ (-1) := z_ne hz_i7_226 ti_m1 c_341
                      refine lv_iload X.1 X.2.1 dX12_mix_228 (lv_at hl 3 rfl) ?_
                      refine lv_iload X.1 X.2.1 dX12_mix_230 (lv_at hl 5 rfl) ?_
                      refine lv_icmp_gt (tgt := 258) X.1 X.2.1 dX12_mix_232 (by decide) (fun c_348 => ?_) (fun c_348 => ?_)
                      · have z_b_349 := trivial
                        have k_350 : i10_319_z > i7_226_z := z_lt hz_i7_226 hz_i10_319 c_348
                        obtain ⟨x_351, ex_351⟩ : ∃ y : Int32, y = i8_227 + 1 := ⟨_, rfl⟩
                        have z_352 : x_351.toInt = i8_227_z + 1 := z_add ex_351 hz_i8_227 ti_1 (by omega) (by omega)
                        refine lv_iinc (v := x_351) (lv' := [(8, .int (x_351)), (12, .int 0), (11, .int (v_330)), (9, .int (i9_318)), (10, .int (i10_319)), (6, .int (i6_225)), (7, .int (i7_226)), (5, .int (i5_5)), (0, .ref x), (1, .int (a1)), (2, .int (a2)), (3, .int (a3)), (4, .int (a4))]) X.1 X.2.1 dX12_mix_258 hl (k := 6) rfl (by rw [ex_351]; rfl) (by decide) rfl (fun ls hl => ?_)
                        refine lv_goto (tgt := 119) X.1 X.2.1 dX12_mix_261 (by decide) ?_
                        exact ih_L_224 _ (by omega) _ _ _ (i6_225) (i6_225_z) (i7_226) (i7_226_z) (x_351) (x_351.toInt) rfl hw hz_i6_225 hz_i7_226 rfl (by omega) (lv_sub hl [5, 6, 0, 7, 8, 9, 10, 11, 12] rfl)
                      · have z_b_353 := trivial
                        have k_354 : i10_319_z ≤ i7_226_z := z_nlt hz_i7_226 hz_i10_319 c_348
                        refine lv_iload X.1 X.2.1 dX12_mix_235 (lv_at hl 3 rfl) ?_
                        refine lv_iload X.1 X.2.1 dX12_mix_237 (lv_at hl 5 rfl) ?_
                        refine lv_icmp_ne (tgt := 250) X.1 X.2.1 dX12_mix_239 (by decide) (fun c_355 => ?_) (fun c_355 => ?_)
                        · have z_b_356 := trivial
                          have k_357 : i10_319_z ≠ i7_226_z := z_ne hz_i10_319 hz_i7_226 c_355
                          refine lv_iload X.1 X.2.1 dX12_mix_250 (lv_at hl 6 rfl) ?_
                          refine lv_istore (lv' := [(6, .int (i8_227)), (12, .int 0), (11, .int (v_330)), (9, .int (i9_318)), (10, .int (i10_319)), (7, .int (i7_226)), (8, .int (i8_227)), (5, .int (i5_5)), (0, .ref x), (1, .int (a1)), (2, .int (a2)), (3, .int (a3)), (4, .int (a4))]) X.1 X.2.1 dX12_mix_252 hl (by decide) rfl (fun ls hl => ?_)
                          refine lv_iload X.1 X.2.1 dX12_mix_254 (lv_at hl 4 rfl) ?_
                          refine lv_istore (lv' := [(7, .int (i10_319)), (6, .int (i8_227)), (12, .int 0), (11, .int (v_330)), (9, .int (i9_318)), (10, .int (i10_319)), (8, .int (i8_227)), (5, .int (i5_5)), (0, .ref x), (1, .int (a1)), (2, .int (a2)), (3, .int (a3)), (4, .int (a4))]) X.1 X.2.1 dX12_mix_256 hl (by decide) rfl (fun ls hl => ?_)
                          obtain ⟨x_358, ex_358⟩ : ∃ y : Int32, y = i8_227 + 1 := ⟨_, rfl⟩
                          have z_359 : x_358.toInt = i8_227_z + 1 := z_add ex_358 hz_i8_227 ti_1 (by omega) (by omega)
                          refine lv_iinc (v := x_358) (lv' := [(8, .int (x_358)), (7, .int (i10_319)), (6, .int (i8_227)), (12, .int 0), (11, .int (v_330)), (9, .int (i9_318)), (10, .int (i10_319)), (5, .int (i5_5)), (0, .ref x), (1, .int (a1)), (2, .int (a2)), (3, .int (a3)), (4, .int (a4))]) X.1 X.2.1 dX12_mix_258 hl (k := 6) rfl (by rw [ex_358]; rfl) (by decide) rfl (fun ls hl => ?_)
                          refine lv_goto (tgt := 119) X.1 X.2.1 dX12_mix_261 (by decide) ?_
                          exact ih_L_224 _ (by omega) _ _ _ (i8_227) (i8_227_z) (i10_319) (i10_319_z) (x_358) (x_358.toInt) rfl hw hz_i8_227 hz_i10_319 rfl (by omega) (lv_sub hl [2, 1, 0, 7, 8, 9, 10, 11, 12] rfl)
                        · have z_b_360 := trivial
                          have k_361 : i10_319_z = i7_226_z := z_eq hz_i10_319 hz_i7_226 c_355
                          refine lv_iload X.1 X.2.1 dX12_mix_242 (lv_at hl 0 rfl) ?_
                          refine lv_if_ne (tgt := 250) X.1 X.2.1 dX12_mix_244 (by decide) (fun c_362 => absurd c_362 (by decide)) (fun c_362 => ?_)
                          refine lv_goto (tgt := 258) X.1 X.2.1 dX12_mix_247 (by decide) ?_
                          obtain ⟨x_363, ex_363⟩ : ∃ y : Int32, y = i8_227 + 1 := ⟨_, rfl⟩
                          have z_364 : x_363.toInt = i8_227_z + 1 := z_add ex_363 hz_i8_227 ti_1 (by omega) (by omega)
                          refine lv_iinc (v := x_363) (lv' := [(8, .int (x_363)), (12, .int 0), (11, .int (v_330)), (9, .int (i9_318)), (10, .int (i10_319)), (6, .int (i6_225)), (7, .int (i7_226)), (5, .int (i5_5)), (0, .ref x), (1, .int (a1)), (2, .int (a2)), (3, .int (a3)), (4, .int (a4))]) X.1 X.2.1 dX12_mix_258 hl (k := 6) rfl (by rw [ex_363]; rfl) (by decide) rfl (fun ls hl => ?_)
                          refine lv_goto (tgt := 119) X.1 X.2.1 dX12_mix_261 (by decide) ?_
                          exact ih_L_224 _ (by omega) _ _ _ (i6_225) (i6_225_z) (i7_226) (i7_226_z) (x_363) (x_363.toInt) rfl hw hz_i6_225 hz_i7_226 rfl (by omega) (lv_sub hl [5, 6, 0, 7, 8, 9, 10, 11, 12] rfl)
                  · have z_b_365 := trivial
                    have k_366 : v_336.toInt ≠ 0 := z_ne rfl ti_0 c_338
                    refine lv_iconst (v := 1) X.1 X.2.1 dX12_mix_215 (by decide) ?_
                    refine lv_goto (tgt := 220) X.1 X.2.1 dX12_mix_216 (by decide) ?_
                    refine lv_istore (lv' := [(12, .int 1), (11, .int (v_330)), (9, .int (i9_318)), (10, .int (i10_319)), (6, .int (i6_225)), (7, .int (i7_226)), (8, .int (i8_227)), (5, .int (i5_5)), (0, .ref x), (1, .int (a1)), (2, .int (a2)), (3, .int (a3)), (4, .int (a4))]) X.1 X.2.1 dX12_mix_220 hl (by decide) rfl (fun ls hl => ?_)
                    refine lv_iload X.1 X.2.1 dX12_mix_222 (lv_at hl 5 rfl) ?_
                    refine lv_iconst (v := (-1)) X.1 X.2.1 dX12_mix_224 (by decide) ?_
                    refine lv_icmp_eq (tgt := 250) X.1 X.2.1 dX12_mix_225 (by decide) (fun c_367 => ?_) (fun c_367 => ?_)
                    · have z_b_368 := trivial
                      have k_369 : i7_226_z = (-1) := z_eq hz_i7_226 ti_m1 c_367
                      refine lv_iload X.1 X.2.1 dX12_mix_250 (lv_at hl 6 rfl) ?_
                      refine lv_istore (lv' := [(6, .int (i8_227)), (12, .int 1), (11, .int (v_330)), (9, .int (i9_318)), (10, .int (i10_319)), (7, .int (i7_226)), (8, .int (i8_227)), (5, .int (i5_5)), (0, .ref x), (1, .int (a1)), (2, .int (a2)), (3, .int (a3)), (4, .int (a4))]) X.1 X.2.1 dX12_mix_252 hl (by decide) rfl (fun ls hl => ?_)
                      refine lv_iload X.1 X.2.1 dX12_mix_254 (lv_at hl 4 rfl) ?_
                      refine lv_istore (lv' := [(7, .int (i10_319)), (6, .int (i8_227)), (12, .int 1), (11, .int (v_330)), (9, .int (i9_318)), (10, .int (i10_319)), (8, .int (i8_227)), (5, .int (i5_5)), (0, .ref x), (1, .int (a1)), (2, .int (a2)), (3, .int (a3)), (4, .int (a4))]) X.1 X.2.1 dX12_mix_256 hl (by decide) rfl (fun ls hl => ?_)
                      obtain ⟨x_370, ex_370⟩ : ∃ y : Int32, y = i8_227 + 1 := ⟨_, rfl⟩
                      have z_371 : x_370.toInt = i8_227_z + 1 := z_add ex_370 hz_i8_227 ti_1 (by omega) (by omega)
                      refine lv_iinc (v := x_370) (lv' := [(8, .int (x_370)), (7, .int (i10_319)), (6, .int (i8_227)), (12, .int 1), (11, .int (v_330)), (9, .int (i9_318)), (10, .int (i10_319)), (5, .int (i5_5)), (0, .ref x), (1, .int (a1)), (2, .int (a2)), (3, .int (a3)), (4, .int (a4))]) X.1 X.2.1 dX12_mix_258 hl (k := 6) rfl (by rw [ex_370]; rfl) (by decide) rfl (fun ls hl => ?_)
                      refine lv_goto (tgt := 119) X.1 X.2.1 dX12_mix_261 (by decide) ?_
                      exact ih_L_224 _ (by omega) _ _ _ (i8_227) (i8_227_z) (i10_319) (i10_319_z) (x_370) (x_370.toInt) rfl hw hz_i8_227 hz_i10_319 rfl (by omega) (lv_sub hl [2, 1, 0, 7, 8, 9, 10, 11, 12] rfl)
                    · have z_b_372 := trivial
                      have k_373 : i7_226_z ≠ (-1) := z_ne hz_i7_226 ti_m1 c_367
                      refine lv_iload X.1 X.2.1 dX12_mix_228 (lv_at hl 3 rfl) ?_
                      refine lv_iload X.1 X.2.1 dX12_mix_230 (lv_at hl 5 rfl) ?_
                      refine lv_icmp_gt (tgt := 258) X.1 X.2.1 dX12_mix_232 (by decide) (fun c_374 => ?_) (fun c_374 => ?_)
                      · have z_b_375 := trivial
                        have k_376 : i10_319_z > i7_226_z := z_lt hz_i7_226 hz_i10_319 c_374
                        obtain ⟨x_377, ex_377⟩ : ∃ y : Int32, y = i8_227 + 1 := ⟨_, rfl⟩
                        have z_378 : x_377.toInt = i8_227_z + 1 := z_add ex_377 hz_i8_227 ti_1 (by omega) (by omega)
                        refine lv_iinc (v := x_377) (lv' := [(8, .int (x_377)), (12, .int 1), (11, .int (v_330)), (9, .int (i9_318)), (10, .int (i10_319)), (6, .int (i6_225)), (7, .int (i7_226)), (5, .int (i5_5)), (0, .ref x), (1, .int (a1)), (2, .int (a2)), (3, .int (a3)), (4, .int (a4))]) X.1 X.2.1 dX12_mix_258 hl (k := 6) rfl (by rw [ex_377]; rfl) (by decide) rfl (fun ls hl => ?_)
                        refine lv_goto (tgt := 119) X.1 X.2.1 dX12_mix_261 (by decide) ?_
                        exact ih_L_224 _ (by omega) _ _ _ (i6_225) (i6_225_z) (i7_226) (i7_226_z) (x_377) (x_377.toInt) rfl hw hz_i6_225 hz_i7_226 rfl (by omega) (lv_sub hl [5, 6, 0, 7, 8, 9, 10, 11, 12] rfl)
                      · have z_b_379 := trivial
                        have k_380 : i10_319_z ≤ i7_226_z := z_nlt hz_i7_226 hz_i10_319 c_374
                        refine lv_iload X.1 X.2.1 dX12_mix_235 (lv_at hl 3 rfl) ?_
                        refine lv_iload X.1 X.2.1 dX12_mix_237 (lv_at hl 5 rfl) ?_
                        refine lv_icmp_ne (tgt := 250) X.1 X.2.1 dX12_mix_239 (by decide) (fun c_381 => ?_) (fun c_381 => ?_)
                        · have z_b_382 := trivial
                          have k_383 : i10_319_z ≠ i7_226_z := z_ne hz_i10_319 hz_i7_226 c_381
                          refine lv_iload X.1 X.2.1 dX12_mix_250 (lv_at hl 6 rfl) ?_
                          refine lv_istore (lv' := [(6, .int (i8_227)), (12, .int 1), (11, .int (v_330)), (9, .int (i9_318)), (10, .int (i10_319)), (7, .int (i7_226)), (8, .int (i8_227)), (5, .int (i5_5)), (0, .ref x), (1, .int (a1)), (2, .int (a2)), (3, .int (a3)), (4, .int (a4))]) X.1 X.2.1 dX12_mix_252 hl (by decide) rfl (fun ls hl => ?_)
                          refine lv_iload X.1 X.2.1 dX12_mix_254 (lv_at hl 4 rfl) ?_
                          refine lv_istore (lv' := [(7, .int (i10_319)), (6, .int (i8_227)), (12, .int 1), (11, .int (v_330)), (9, .int (i9_318)), (10, .int (i10_319)), (8, .int (i8_227)), (5, .int (i5_5)), (0, .ref x), (1, .int (a1)), (2, .int (a2)), (3, .int (a3)), (4, .int (a4))]) X.1 X.2.1 dX12_mix_256 hl (by decide) rfl (fun ls hl => ?_)
                          obtain ⟨x_384, ex_384⟩ : ∃ y : Int32, y = i8_227 + 1 := ⟨_, rfl⟩
                          have z_385 : x_384.toInt = i8_227_z + 1 := z_add ex_384 hz_i8_227 ti_1 (by omega) (by omega)
                          refine lv_iinc (v := x_384) (lv' := [(8, .int (x_384)), (7, .int (i10_319)), (6, .int (i8_227)), (12, .int 1), (11, .int (v_330)), (9, .int (i9_318)), (10, .int (i10_319)), (5, .int (i5_5)), (0, .ref x), (1, .int (a1)), (2, .int (a2)), (3, .int (a3)), (4, .int (a4))]) X.1 X.2.1 dX12_mix_258 hl (k := 6) rfl (by rw [ex_384]; rfl) (by decide) rfl (fun ls hl => ?_)
                          refine lv_goto (tgt := 119) X.1 X.2.1 dX12_mix_261 (by decide) ?_
                          exact ih_L_224 _ (by omega) _ _ _ (i8_227) (i8_227_z) (i10_319) (i10_319_z) (x_384) (x_384.toInt) rfl hw hz_i8_227 hz_i10_319 rfl (by omega) (lv_sub hl [2, 1, 0, 7, 8, 9, 10, 11, 12] rfl)
                        · have z_b_386 := trivial
                          have k_387 : i10_319_z = i7_226_z := z_eq hz_i10_319 hz_i7_226 c_381
                          refine lv_iload X.1 X.2.1 dX12_mix_242 (lv_at hl 0 rfl) ?_
                          refine lv_if_ne (tgt := 250) X.1 X.2.1 dX12_mix_244 (by decide) (fun c_388 => ?_) (fun c_388 => absurd c_388 (by decide))
                          refine lv_iload X.1 X.2.1 dX12_mix_250 (lv_at hl 6 rfl) ?_
                          refine lv_istore (lv' := [(6, .int (i8_227)), (12, .int 1), (11, .int (v_330)), (9, .int (i9_318)), (10, .int (i10_319)), (7, .int (i7_226)), (8, .int (i8_227)), (5, .int (i5_5)), (0, .ref x), (1, .int (a1)), (2, .int (a2)), (3, .int (a3)), (4, .int (a4))]) X.1 X.2.1 dX12_mix_252 hl (by decide) rfl (fun ls hl => ?_)
                          refine lv_iload X.1 X.2.1 dX12_mix_254 (lv_at hl 4 rfl) ?_
                          refine lv_istore (lv' := [(7, .int (i10_319)), (6, .int (i8_227)), (12, .int 1), (11, .int (v_330)), (9, .int (i9_318)), (10, .int (i10_319)), (8, .int (i8_227)), (5, .int (i5_5)), (0, .ref x), (1, .int (a1)), (2, .int (a2)), (3, .int (a3)), (4, .int (a4))]) X.1 X.2.1 dX12_mix_256 hl (by decide) rfl (fun ls hl => ?_)
                          obtain ⟨x_389, ex_389⟩ : ∃ y : Int32, y = i8_227 + 1 := ⟨_, rfl⟩
                          have z_390 : x_389.toInt = i8_227_z + 1 := z_add ex_389 hz_i8_227 ti_1 (by omega) (by omega)
                          refine lv_iinc (v := x_389) (lv' := [(8, .int (x_389)), (7, .int (i10_319)), (6, .int (i8_227)), (12, .int 1), (11, .int (v_330)), (9, .int (i9_318)), (10, .int (i10_319)), (5, .int (i5_5)), (0, .ref x), (1, .int (a1)), (2, .int (a2)), (3, .int (a3)), (4, .int (a4))]) X.1 X.2.1 dX12_mix_258 hl (k := 6) rfl (by rw [ex_389]; rfl) (by decide) rfl (fun ls hl => ?_)
                          refine lv_goto (tgt := 119) X.1 X.2.1 dX12_mix_261 (by decide) ?_
                          exact ih_L_224 _ (by omega) _ _ _ (i8_227) (i8_227_z) (i10_319) (i10_319_z) (x_389) (x_389.toInt) rfl hw hz_i8_227 hz_i10_319 rfl (by omega) (lv_sub hl [2, 1, 0, 7, 8, 9, 10, 11, 12] rfl)
                · have z_b_391 := trivial
                  have k_392 : i9_318_z < a1_z := z_nle hz_a1 hz_i9_318 c_327
                  refine lv_goto (tgt := 258) X.1 X.2.1 dX12_mix_193 (by decide) ?_
                  obtain ⟨x_393, ex_393⟩ : ∃ y : Int32, y = i8_227 + 1 := ⟨_, rfl⟩
                  have z_394 : x_393.toInt = i8_227_z + 1 := z_add ex_393 hz_i8_227 ti_1 (by omega) (by omega)
                  refine lv_iinc (v := x_393) (lv' := [(8, .int (x_393)), (9, .int (i9_318)), (10, .int (i10_319)), (11, .int (i11_320)), (6, .int (i6_225)), (7, .int (i7_226)), (5, .int (i5_5)), (0, .ref x), (1, .int (a1)), (2, .int (a2)), (3, .int (a3)), (4, .int (a4))]) X.1 X.2.1 dX12_mix_258 hl (k := 5) rfl (by rw [ex_393]; rfl) (by decide) rfl (fun ls hl => ?_)
                  refine lv_goto (tgt := 119) X.1 X.2.1 dX12_mix_261 (by decide) ?_
                  exact ih_L_224 _ (by omega) _ _ _ (i6_225) (i6_225_z) (i7_226) (i7_226_z) (x_393) (x_393.toInt) rfl hw hz_i6_225 hz_i7_226 rfl (by omega) (lv_sub hl [4, 5, 0, 6, 7, 8, 9, 10, 11] rfl)
              · have z_b_395 := trivial
                have k_396 : i11_320_z < i5_5_z := z_nle hz_i5_5 hz_i11_320 c_324
                refine lv_iload X.1 X.2.1 dX12_mix_144 (lv_at hl 5 rfl) ?_
                refine lv_iload X.1 X.2.1 dX12_mix_146 (lv_at hl 2 rfl) ?_
                refine lv_ishr X.1 X.2.1 dX12_mix_148 ?_
                refine lv_topi (fun v_397 ev_397 => ?_)
                have rg_398 := And.intro (z_lo v_397) (z_hi v_397)
                refine lv_iconst (v := 1) X.1 X.2.1 dX12_mix_149 (by decide) ?_
                refine lv_iand X.1 X.2.1 dX12_mix_150 ?_
                refine lv_topi (fun v_399 ev_399 => ?_)
                have z_400 : 0 ≤ v_399.toInt ∧ v_399.toInt ≤ 1 := z_and1 ev_399
                refine lv_if_ne (tgt := 157) X.1 X.2.1 dX12_mix_151 (by decide) (fun c_401 => ?_) (fun c_401 => ?_)
                · have z_b_402 := trivial
                  have k_403 : v_399.toInt ≠ 0 := z_ne rfl ti_0 c_401
                  refine lv_iload X.1 X.2.1 dX12_mix_157 (lv_at hl 0 rfl) ?_
                  refine lv_aload_n X.1 X.2.1 dX12_mix_159 rfl (lv_at hl 7 rfl) ?_
                  obtain ⟨q_404, h_405, h_406, h_407⟩ := gQ_12_1259 hO_T_7.1 ha_x_L_8
                  refine r_getR (g := 1259) X hw ha_x_L_8 rfl 59 h_405 (by decide) rfl inn_X12_mix_12 (by decide) (X.2.2.2.1 (.fieldLink RX12 143 "SilkMillModel" "askedWeight" "[I") (by decide +kernel)) rfl (gv_1259 _ _) dX12_mix_160 ?_
                  refine lv_iload X.1 X.2.1 dX12_mix_163 (lv_at hl 2 rfl) ?_
                  refine r_iald X hw h_406 rfl (by rw [h_407]; exact z_ix hz_i11_320 (by omega) (by omega)) dX12_mix_165 ?_
                  refine lv_topi (fun v_408 ev_408 => ?_)
                  have rg_409 := And.intro (z_lo v_408) (z_hi v_408)
                  have ev_408 := ev_408.symm
                  refine lv_iadd X.1 X.2.1 dX12_mix_166 ?_
                  refine lv_topi (fun v_410 ev_410 => ?_)
                  have rg_411 := And.intro (z_lo v_410) (z_hi v_410)
                  refine lv_istore (lv' := [(9, .int (v_410)), (10, .int (i10_319)), (11, .int (i11_320)), (6, .int (i6_225)), (7, .int (i7_226)), (8, .int (i8_227)), (5, .int (i5_5)), (0, .ref x), (1, .int (a1)), (2, .int (a2)), (3, .int (a3)), (4, .int (a4))]) X.1 X.2.1 dX12_mix_167 hl (by decide) rfl (fun ls hl => ?_)
                  refine lv_iload X.1 X.2.1 dX12_mix_169 (lv_at hl 1 rfl) ?_
                  refine lv_aload_n X.1 X.2.1 dX12_mix_171 rfl (lv_at hl 7 rfl) ?_
                  obtain ⟨q_412, h_413, h_414, h_415⟩ := gQ_12_1260 hO_T_7.1 ha_x_L_8
                  refine r_getR (g := 1260) X hw ha_x_L_8 rfl 60 h_413 (by decide) rfl inn_X12_mix_12 (by decide) (X.2.2.2.1 (.fieldLink RX12 146 "SilkMillModel" "askedPrice" "[I") (by decide +kernel)) rfl (gv_1260 _ _) dX12_mix_172 ?_
                  refine lv_iload X.1 X.2.1 dX12_mix_175 (lv_at hl 2 rfl) ?_
                  refine r_iald X hw h_414 rfl (by rw [h_415]; exact z_ix hz_i11_320 (by omega) (by omega)) dX12_mix_177 ?_
                  refine lv_topi (fun v_416 ev_416 => ?_)
                  have rg_417 := And.intro (z_lo v_416) (z_hi v_416)
                  have ev_416 := ev_416.symm
                  refine lv_iadd X.1 X.2.1 dX12_mix_178 ?_
                  refine lv_topi (fun v_418 ev_418 => ?_)
                  have rg_419 := And.intro (z_lo v_418) (z_hi v_418)
                  refine lv_istore (lv' := [(10, .int (v_418)), (9, .int (v_410)), (11, .int (i11_320)), (6, .int (i6_225)), (7, .int (i7_226)), (8, .int (i8_227)), (5, .int (i5_5)), (0, .ref x), (1, .int (a1)), (2, .int (a2)), (3, .int (a3)), (4, .int (a4))]) X.1 X.2.1 dX12_mix_179 hl (by decide) rfl (fun ls hl => ?_)
                  obtain ⟨x_420, ex_420⟩ : ∃ y : Int32, y = i11_320 + 1 := ⟨_, rfl⟩
                  have z_421 : x_420.toInt = i11_320_z + 1 := z_add ex_420 hz_i11_320 ti_1 (by omega) (by omega)
                  refine lv_iinc (v := x_420) (lv' := [(11, .int (x_420)), (10, .int (v_418)), (9, .int (v_410)), (6, .int (i6_225)), (7, .int (i7_226)), (8, .int (i8_227)), (5, .int (i5_5)), (0, .ref x), (1, .int (a1)), (2, .int (a2)), (3, .int (a3)), (4, .int (a4))]) X.1 X.2.1 dX12_mix_181 hl (k := 2) rfl (by rw [ex_420]; rfl) (by decide) rfl (fun ls hl => ?_)
                  refine lv_goto (tgt := 137) X.1 X.2.1 dX12_mix_184 (by decide) ?_
                  exact ih_L_317 _ (by omega) _ _ _ (v_410) (v_410.toInt) (v_418) (v_418.toInt) (x_420) (x_420.toInt) rfl hw rfl rfl rfl (by omega) (lv_sub hl [2, 1, 0, 3, 4, 5, 6, 7, 8, 9, 10, 11] rfl)
                · have z_b_422 := trivial
                  have k_423 : v_399.toInt = 0 := z_eq rfl ti_0 c_401
                  refine lv_goto (tgt := 181) X.1 X.2.1 dX12_mix_154 (by decide) ?_
                  obtain ⟨x_424, ex_424⟩ : ∃ y : Int32, y = i11_320 + 1 := ⟨_, rfl⟩
                  have z_425 : x_424.toInt = i11_320_z + 1 := z_add ex_424 hz_i11_320 ti_1 (by omega) (by omega)
                  refine lv_iinc (v := x_424) (lv' := [(11, .int (x_424)), (9, .int (i9_318)), (10, .int (i10_319)), (6, .int (i6_225)), (7, .int (i7_226)), (8, .int (i8_227)), (5, .int (i5_5)), (0, .ref x), (1, .int (a1)), (2, .int (a2)), (3, .int (a3)), (4, .int (a4))]) X.1 X.2.1 dX12_mix_181 hl (k := 2) rfl (by rw [ex_424]; rfl) (by decide) rfl (fun ls hl => ?_)
                  refine lv_goto (tgt := 137) X.1 X.2.1 dX12_mix_184 (by decide) ?_
                  exact ih_L_317 _ (by omega) _ _ _ (i9_318) (i9_318_z) (i10_319) (i10_319_z) (x_424) (x_424.toInt) rfl hw hz_i9_318 hz_i10_319 rfl (by omega) (lv_sub hl [1, 2, 0, 3, 4, 5, 6, 7, 8, 9, 10, 11] rfl)
            exact L_317 _ _ _ _ (0) (0) (0) (0) (0) (0) rfl hw ti_0 ti_0 ti_0 (by omega) (lv_sub hl [2, 1, 0, 3, 4, 5, 6, 7, 8, 9, 10, 11] rfl)
        exact L_224 _ _ _ _ (0) (0) ((-1)) ((-1)) (1) (1) rfl hw ti_0 ti_m1 ti_1 (by omega) (lv_sub hl [2, 1, 0, 3, 4, 5, 6, 7, 8] rfl)
      · have z_b_426 := trivial
        have k_427 : i5_5_z < 14 := z_nle ti_14 hz_i5_5 c_221
        refine lv_iload_n X.1 X.2.1 dX12_mix_27 rfl (lv_at hl 3 rfl) ?_
        refine lv_if_le (tgt := 110) X.1 X.2.1 dX12_mix_28 (by decide) (fun c_428 => ?_) (fun c_428 => ?_)
        · have z_b_429 := trivial
          have k_430 : a1_z ≤ 0 := z_le hz_a1 ti_0 c_428
          refine lv_iconst (v := 0) X.1 X.2.1 dX12_mix_110 (by decide) ?_
          refine lv_istore (lv' := [(6, .int 0), (5, .int (i5_5)), (0, .ref x), (1, .int (a1)), (2, .int (a2)), (3, .int (a3)), (4, .int (a4))]) X.1 X.2.1 dX12_mix_111 hl (by decide) rfl (fun ls hl => ?_)
          refine lv_iconst (v := (-1)) X.1 X.2.1 dX12_mix_113 (by decide) ?_
          refine lv_istore (lv' := [(7, .int (-1)), (6, .int 0), (5, .int (i5_5)), (0, .ref x), (1, .int (a1)), (2, .int (a2)), (3, .int (a3)), (4, .int (a4))]) X.1 X.2.1 dX12_mix_114 hl (by decide) rfl (fun ls hl => ?_)
          refine lv_iconst (v := 1) X.1 X.2.1 dX12_mix_116 (by decide) ?_
          refine lv_istore (lv' := [(8, .int 1), (7, .int (-1)), (6, .int 0), (5, .int (i5_5)), (0, .ref x), (1, .int (a1)), (2, .int (a2)), (3, .int (a3)), (4, .int (a4))]) X.1 X.2.1 dX12_mix_117 hl (by decide) rfl (fun ls hl => ?_)
          have L_431 : ∀ (n : Nat) (H : Heap) (locs : List Loc) (ls : Array Slot) (i6_432 : Int32) (i6_432_z : Int) (i7_433 : Int32) (i7_433_z : Int) (i8_434 : Int32) (i8_434_z : Int), ((2147483647 - i8_434_z).toNat = n) → (Wd G cy (AS S s.heap.size) s.heap T_7 H locs) → (i6_432.toInt = i6_432_z) → (i7_433.toInt = i7_433_z) → (i8_434.toInt = i8_434_z) → (1 ≤ i8_434_z ∧ i8_434_z ≤ 2147483647) → (lv_has ls 13 [(6, .int (i6_432)), (7, .int (i7_433)), (8, .int (i8_434)), (5, .int (i5_5)), (0, .ref x), (1, .int (a1)), (2, .int (a2)), (3, .int (a3)), (4, .int (a4))]) → W p l e ({ frames := 8, cells := 0, slots := 0, locals := 384 }) s m [.ref x, .int (a1), .int (a2), .int (a3), .int (a4)].toArray below meth c H locs 0 0 QQ (F0 m 119 ls []) := by
            intro n
            induction n using Nat.strongRecOn with
            | ind n ih_L_431 =>
            intro H locs ls i6_432 i6_432_z i7_433 i7_433_z i8_434 i8_434_z hn hw hz_i6_432 hz_i7_433 hz_i8_434 hr_i8_434 hl
            have rg_435 : (-2147483648) ≤ i6_432_z ∧ i6_432_z ≤ 2147483647 := by rw [← hz_i6_432]; exact ⟨z_lo _, z_hi _⟩
            have rg_436 : (-2147483648) ≤ i7_433_z ∧ i7_433_z ≤ 2147483647 := by rw [← hz_i7_433]; exact ⟨z_lo _, z_hi _⟩
            have rg_437 : (-2147483648) ≤ i8_434_z ∧ i8_434_z ≤ 2147483647 := by rw [← hz_i8_434]; exact ⟨z_lo _, z_hi _⟩
            refine lv_iload X.1 X.2.1 dX12_mix_119 (lv_at hl 2 rfl) ?_
            refine lv_iconst (v := 1) X.1 X.2.1 dX12_mix_121 (by decide) ?_
            refine lv_iload X.1 X.2.1 dX12_mix_122 (lv_at hl 3 rfl) ?_
            refine lv_ishl X.1 X.2.1 dX12_mix_124 ?_
            refine lv_topi (fun v_438 ev_438 => ?_)
            have rg_439 := And.intro (z_lo v_438) (z_hi v_438)
            refine lv_icmp_ge (tgt := 264) X.1 X.2.1 dX12_mix_125 (by decide) (fun c_440 => ?_) (fun c_440 => ?_)
            · have z_b_441 := trivial
              have k_442 : i8_434_z ≥ v_438.toInt := z_le rfl hz_i8_434 c_440
              refine lv_iload X.1 X.2.1 dX12_mix_264 (lv_at hl 1 rfl) ?_
              refine lv_iconst (v := (-1)) X.1 X.2.1 dX12_mix_266 (by decide) ?_
              refine lv_icmp_ne (tgt := 272) X.1 X.2.1 dX12_mix_267 (by decide) (fun c_443 => ?_) (fun c_443 => ?_)
              · have z_b_444 := trivial
                have k_445 : i7_433_z ≠ (-1) := z_ne hz_i7_433 ti_m1 c_443
                refine lv_iconst (v := 0) X.1 X.2.1 dX12_mix_272 (by decide) ?_
                refine lv_istore (lv' := [(8, .int 0), (6, .int (i6_432)), (7, .int (i7_433)), (5, .int (i5_5)), (0, .ref x), (1, .int (a1)), (2, .int (a2)), (3, .int (a3)), (4, .int (a4))]) X.1 X.2.1 dX12_mix_273 hl (by decide) rfl (fun ls hl => ?_)
                have L_446 : ∀ (n : Nat) (T_448 : PS) (H : Heap) (locs : List Loc) (ls : Array Slot) (i8_447 : Int32) (i8_447_z : Int), ((40 - i8_447_z).toNat = n) → (Wd G cy (AS S s.heap.size) s.heap T_448 H locs) → (i8_447.toInt = i8_447_z) → (0 ≤ i8_447_z ∧ i8_447_z ≤ 40) → (At T_448 x 12) → (Ok MN S T_448) → (lv_has ls 13 [(8, .int (i8_447)), (6, .int (i6_432)), (7, .int (i7_433)), (5, .int (i5_5)), (0, .ref x), (1, .int (a1)), (2, .int (a2)), (3, .int (a3)), (4, .int (a4))]) → W p l e ({ frames := 8, cells := 0, slots := 0, locals := 384 }) s m [.ref x, .int (a1), .int (a2), .int (a3), .int (a4)].toArray below meth c H locs 0 0 QQ (F0 m 275 ls []) := by
                  intro n
                  induction n using Nat.strongRecOn with
                  | ind n ih_L_446 =>
                  intro T_448 H locs ls i8_447 i8_447_z hn hw hz_i8_447 hr_i8_447 ha_x_L_449 hO_T_448 hl
                  have rg_450 : (-2147483648) ≤ i8_447_z ∧ i8_447_z ≤ 2147483647 := by rw [← hz_i8_447]; exact ⟨z_lo _, z_hi _⟩
                  refine lv_iload X.1 X.2.1 dX12_mix_275 (lv_at hl 0 rfl) ?_
                  refine lv_bipush (v := 40) X.1 X.2.1 dX12_mix_277 (by decide) ?_
                  refine lv_icmp_ge (tgt := 296) X.1 X.2.1 dX12_mix_279 (by decide) (fun c_451 => ?_) (fun c_451 => ?_)
                  · have z_b_452 := trivial
                    have k_453 : i8_447_z ≥ 40 := z_le ti_40 hz_i8_447 c_451
                    refine lv_iconst (v := 0) X.1 X.2.1 dX12_mix_296 (by decide) ?_
                    refine lv_istore (lv' := [(8, .int 0), (6, .int (i6_432)), (7, .int (i7_433)), (5, .int (i5_5)), (0, .ref x), (1, .int (a1)), (2, .int (a2)), (3, .int (a3)), (4, .int (a4))]) X.1 X.2.1 dX12_mix_297 hl (by decide) rfl (fun ls hl => ?_)
                    have L_454 : ∀ (n : Nat) (T_456 : PS) (H : Heap) (locs : List Loc) (ls : Array Slot) (i8_455 : Int32) (i8_455_z : Int), ((14 - i8_455_z).toNat = n) → (Wd G cy (AS S s.heap.size) s.heap T_456 H locs) → (i8_455.toInt = i8_455_z) → (0 ≤ i8_455_z ∧ i8_455_z ≤ 14) → (At T_456 x 12) → (Ok MN S T_456) → (lv_has ls 13 [(8, .int (i8_455)), (6, .int (i6_432)), (7, .int (i7_433)), (5, .int (i5_5)), (0, .ref x), (1, .int (a1)), (2, .int (a2)), (3, .int (a3)), (4, .int (a4))]) → W p l e ({ frames := 8, cells := 0, slots := 0, locals := 384 }) s m [.ref x, .int (a1), .int (a2), .int (a3), .int (a4)].toArray below meth c H locs 0 0 QQ (F0 m 299 ls []) := by
                      intro n
                      induction n using Nat.strongRecOn with
                      | ind n ih_L_454 =>
                      intro T_456 H locs ls i8_455 i8_455_z hn hw hz_i8_455 hr_i8_455 ha_x_L_457 hO_T_456 hl
                      have rg_458 : (-2147483648) ≤ i8_455_z ∧ i8_455_z ≤ 2147483647 := by rw [← hz_i8_455]; exact ⟨z_lo _, z_hi _⟩
                      refine lv_iload X.1 X.2.1 dX12_mix_299 (lv_at hl 0 rfl) ?_
                      refine lv_iload X.1 X.2.1 dX12_mix_301 (lv_at hl 3 rfl) ?_
                      refine lv_icmp_ge (tgt := 356) X.1 X.2.1 dX12_mix_303 (by decide) (fun c_459 => ?_) (fun c_459 => ?_)
                      · have z_b_460 := trivial
                        have k_461 : i8_455_z ≥ i5_5_z := z_le hz_i5_5 hz_i8_455 c_459
                        refine lv_iload X.1 X.2.1 dX12_mix_356 (lv_at hl 2 rfl) ?_
                        rw [hQQ]
                        exact ret_i X hw hr hlocks (Nat.le_of_ble_eq_true rfl) (Nat.le_of_ble_eq_true rfl) ⟨hO_T_456, trivial⟩ dX12_mix_358
                      · have z_b_462 := trivial
                        have k_463 : i8_455_z < i5_5_z := z_nle hz_i5_5 hz_i8_455 c_459
                        refine lv_iload X.1 X.2.1 dX12_mix_306 (lv_at hl 1 rfl) ?_
                        refine lv_iload X.1 X.2.1 dX12_mix_308 (lv_at hl 0 rfl) ?_
                        refine lv_ishr X.1 X.2.1 dX12_mix_310 ?_
                        refine lv_topi (fun v_464 ev_464 => ?_)
                        have rg_465 := And.intro (z_lo v_464) (z_hi v_464)
                        refine lv_iconst (v := 1) X.1 X.2.1 dX12_mix_311 (by decide) ?_
                        refine lv_iand X.1 X.2.1 dX12_mix_312 ?_
                        refine lv_topi (fun v_466 ev_466 => ?_)
                        have z_467 : 0 ≤ v_466.toInt ∧ v_466.toInt ≤ 1 := z_and1 ev_466
                        refine lv_if_ne (tgt := 319) X.1 X.2.1 dX12_mix_313 (by decide) (fun c_468 => ?_) (fun c_468 => ?_)
                        · have z_b_469 := trivial
                          have k_470 : v_466.toInt ≠ 0 := z_ne rfl ti_0 c_468
                          refine lv_aload_n X.1 X.2.1 dX12_mix_319 rfl (lv_at hl 4 rfl) ?_
                          obtain ⟨q_471, h_472, h_473, h_474⟩ := gQ_12_1261 hO_T_456.1 ha_x_L_457
                          refine r_getR (g := 1261) X hw ha_x_L_457 rfl 61 h_472 (by decide) rfl inn_X12_mix_12 (by decide) (X.2.2.2.1 (.fieldLink RX12 149 "SilkMillModel" "isMixed" "[Z") (by decide +kernel)) rfl (gv_1261 _ _) dX12_mix_320 ?_
                          refine lv_aload_n X.1 X.2.1 dX12_mix_323 rfl (lv_at hl 4 rfl) ?_
                          obtain ⟨q_475, h_476, h_477, h_478⟩ := gQ_12_1258 hO_T_456.1 ha_x_L_457
                          refine r_getR (g := 1258) X hw ha_x_L_457 rfl 58 h_476 (by decide) rfl inn_X12_mix_12 (by decide) (X.2.2.2.1 (.fieldLink RX12 140 "SilkMillModel" "asked" "[I") (by decide +kernel)) rfl (gv_1258 _ _) dX12_mix_324 ?_
                          refine lv_iload X.1 X.2.1 dX12_mix_327 (lv_at hl 0 rfl) ?_
                          refine r_iald X hw h_477 rfl (by rw [h_478]; exact z_ix hz_i8_455 (by omega) (by omega)) dX12_mix_329 ?_
                          refine lv_topi (fun v_479 ev_479 => ?_)
                          have z_480 := gE_1374 hO_T_456.1 h_477 (Int32.toNatClampNeg (i8_455)); rw [← ev_479] at z_480
                          have ev_479 := ev_479.symm
                          refine lv_iconst (v := 1) X.1 X.2.1 dX12_mix_330 (by decide) ?_
                          refine r_zast X hw h_473 rfl (by rw [h_474]; exact z_ix rfl (by omega) (by omega)) dX12_mix_331 (fun H locs hw => ?_)
                          obtain ⟨S_481, eS_481⟩ : ∃ T, T = sA T_456 q_471 (upd (pA T_456 q_471) (Int32.toNatClampNeg (v_479)) (vp_nar .boolean (1))) := ⟨_, rfl⟩
                          rw [← eS_481] at hw
                          have hO_482 : Ok MN S S_481 := hO_T_456.sA eS_481 h_473 (by decide +kernel) (uA_1435 hO_T_456.1 h_473)
                          refine lv_iload X.1 X.2.1 dX12_mix_332 (lv_at hl 8 rfl) ?_
                          refine lv_if_eq (tgt := 350) X.1 X.2.1 dX12_mix_334 (by decide) (fun c_483 => ?_) (fun c_483 => ?_)
                          · have z_b_484 := trivial
                            have k_485 : a4_z = 0 := z_eq hz_a4 ti_0 c_483
                            obtain ⟨x_486, ex_486⟩ : ∃ y : Int32, y = i8_455 + 1 := ⟨_, rfl⟩
                            have z_487 : x_486.toInt = i8_455_z + 1 := z_add ex_486 hz_i8_455 ti_1 (by omega) (by omega)
                            refine lv_iinc (v := x_486) (lv' := [(8, .int (x_486)), (6, .int (i6_432)), (7, .int (i7_433)), (5, .int (i5_5)), (0, .ref x), (1, .int (a1)), (2, .int (a2)), (3, .int (a3)), (4, .int (a4))]) X.1 X.2.1 dX12_mix_350 hl (k := 0) rfl (by rw [ex_486]; rfl) (by decide) rfl (fun ls hl => ?_)
                            refine lv_goto (tgt := 299) X.1 X.2.1 dX12_mix_353 (by decide) ?_
                            have t_488 : At S_481 x 12 := tAt_sA eS_481 ha_x_L_457
                            exact ih_L_454 _ (by omega) _ _ _ _ (x_486) (x_486.toInt) rfl hw rfl (by omega) t_488 hO_482 (lv_sub hl [0, 1, 2, 3, 4, 5, 6, 7, 8] rfl)
                          · have z_b_489 := trivial
                            have k_490 : a4_z ≠ 0 := z_ne hz_a4 ti_0 c_483
                            refine lv_aload_n X.1 X.2.1 dX12_mix_337 rfl (lv_at hl 4 rfl) ?_
                            have t_491 : At S_481 x 12 := tAt_sA eS_481 ha_x_L_457
                            obtain ⟨q_492, h_493, h_494, h_495⟩ := gQ_12_1244 hO_482.1 t_491
                            refine r_getR (g := 1244) X hw t_491 rfl 44 h_493 (by decide) rfl inn_X12_mix_12 (by decide) (X.2.2.2.1 (.fieldLink RX12 115 "SilkMillModel" "isSold" "[Z") (by decide +kernel)) rfl (gv_1244 _ _) dX12_mix_338 ?_
                            refine lv_aload_n X.1 X.2.1 dX12_mix_341 rfl (lv_at hl 4 rfl) ?_
                            have t_496 : pR S_481 1258 x = some q_475 := tR_sA eS_481 h_476
                            refine r_getR (g := 1258) X hw t_491 rfl 58 t_496 (by decide) rfl inn_X12_mix_12 (by decide) (X.2.2.2.1 (.fieldLink RX12 140 "SilkMillModel" "asked" "[I") (by decide +kernel)) rfl (gv_1258 _ _) dX12_mix_342 ?_
                            refine lv_iload X.1 X.2.1 dX12_mix_345 (lv_at hl 0 rfl) ?_
                            have t_497 : At S_481 q_475 1374 := tAt_sA eS_481 h_477
                            have t_498 : pN S_481 q_475 = 14 := tN_sA eS_481 h_478
                            clear h_478
                            refine r_iald X hw t_497 rfl (by rw [t_498]; exact z_ix hz_i8_455 (by omega) (by omega)) dX12_mix_347 ?_
                            have t_499 : pA S_481 q_475 (Int32.toNatClampNeg (i8_455)) = v_479 := tA_sA eS_481 (At_ne h_477 h_473 (by decide)) ev_479
                            rw [t_499]
                            refine lv_iconst (v := 1) X.1 X.2.1 dX12_mix_348 (by decide) ?_
                            refine r_zast X hw h_494 rfl (by rw [h_495]; exact z_ix rfl (by omega) (by omega)) dX12_mix_349 (fun H locs hw => ?_)
                            obtain ⟨S_500, eS_500⟩ : ∃ T, T = sA S_481 q_492 (upd (pA S_481 q_492) (Int32.toNatClampNeg (v_479)) (vp_nar .boolean (1))) := ⟨_, rfl⟩
                            rw [← eS_500] at hw
                            have hO_501 : Ok MN S S_500 := hO_482.sA eS_500 h_494 (by decide +kernel) (uA_1095 hO_482.1 h_494)
                            obtain ⟨x_502, ex_502⟩ : ∃ y : Int32, y = i8_455 + 1 := ⟨_, rfl⟩
                            have z_503 : x_502.toInt = i8_455_z + 1 := z_add ex_502 hz_i8_455 ti_1 (by omega) (by omega)
                            refine lv_iinc (v := x_502) (lv' := [(8, .int (x_502)), (6, .int (i6_432)), (7, .int (i7_433)), (5, .int (i5_5)), (0, .ref x), (1, .int (a1)), (2, .int (a2)), (3, .int (a3)), (4, .int (a4))]) X.1 X.2.1 dX12_mix_350 hl (k := 0) rfl (by rw [ex_502]; rfl) (by decide) rfl (fun ls hl => ?_)
                            refine lv_goto (tgt := 299) X.1 X.2.1 dX12_mix_353 (by decide) ?_
                            have t_504 : At S_500 x 12 := tAt_sA eS_500 t_491
                            exact ih_L_454 _ (by omega) _ _ _ _ (x_502) (x_502.toInt) rfl hw rfl (by omega) t_504 hO_501 (lv_sub hl [0, 1, 2, 3, 4, 5, 6, 7, 8] rfl)
                        · have z_b_505 := trivial
                          have k_506 : v_466.toInt = 0 := z_eq rfl ti_0 c_468
                          refine lv_goto (tgt := 350) X.1 X.2.1 dX12_mix_316 (by decide) ?_
                          obtain ⟨x_507, ex_507⟩ : ∃ y : Int32, y = i8_455 + 1 := ⟨_, rfl⟩
                          have z_508 : x_507.toInt = i8_455_z + 1 := z_add ex_507 hz_i8_455 ti_1 (by omega) (by omega)
                          refine lv_iinc (v := x_507) (lv' := [(8, .int (x_507)), (6, .int (i6_432)), (7, .int (i7_433)), (5, .int (i5_5)), (0, .ref x), (1, .int (a1)), (2, .int (a2)), (3, .int (a3)), (4, .int (a4))]) X.1 X.2.1 dX12_mix_350 hl (k := 0) rfl (by rw [ex_507]; rfl) (by decide) rfl (fun ls hl => ?_)
                          refine lv_goto (tgt := 299) X.1 X.2.1 dX12_mix_353 (by decide) ?_
                          exact ih_L_454 _ (by omega) _ _ _ _ (x_507) (x_507.toInt) rfl hw rfl (by omega) ha_x_L_457 hO_T_456 (lv_sub hl [0, 1, 2, 3, 4, 5, 6, 7, 8] rfl)
                    exact L_454 _ _ _ _ _ (0) (0) rfl hw ti_0 (by omega) ha_x_L_449 hO_T_448 (lv_sub hl [0, 1, 2, 3, 4, 5, 6, 7, 8] rfl)
                  · have z_b_509 := trivial
                    have k_510 : i8_447_z < 40 := z_nle ti_40 hz_i8_447 c_451
                    refine lv_aload_n X.1 X.2.1 dX12_mix_282 rfl (lv_at hl 4 rfl) ?_
                    obtain ⟨q_511, h_512, h_513, h_514⟩ := gQ_12_1261 hO_T_448.1 ha_x_L_449
                    refine r_getR (g := 1261) X hw ha_x_L_449 rfl 61 h_512 (by decide) rfl inn_X12_mix_12 (by decide) (X.2.2.2.1 (.fieldLink RX12 149 "SilkMillModel" "isMixed" "[Z") (by decide +kernel)) rfl (gv_1261 _ _) dX12_mix_283 ?_
                    refine lv_iload X.1 X.2.1 dX12_mix_286 (lv_at hl 0 rfl) ?_
                    refine lv_iconst (v := 0) X.1 X.2.1 dX12_mix_288 (by decide) ?_
                    refine r_zast X hw h_513 rfl (by rw [h_514]; exact z_ix hz_i8_447 (by omega) (by omega)) dX12_mix_289 (fun H locs hw => ?_)
                    obtain ⟨S_515, eS_515⟩ : ∃ T, T = sA T_448 q_511 (upd (pA T_448 q_511) (Int32.toNatClampNeg (i8_447)) (vp_nar .boolean (0))) := ⟨_, rfl⟩
                    rw [← eS_515] at hw
                    have hO_516 : Ok MN S S_515 := hO_T_448.sA eS_515 h_513 (by decide +kernel) (uA_1435 hO_T_448.1 h_513)
                    obtain ⟨x_517, ex_517⟩ : ∃ y : Int32, y = i8_447 + 1 := ⟨_, rfl⟩
                    have z_518 : x_517.toInt = i8_447_z + 1 := z_add ex_517 hz_i8_447 ti_1 (by omega) (by omega)
                    refine lv_iinc (v := x_517) (lv' := [(8, .int (x_517)), (6, .int (i6_432)), (7, .int (i7_433)), (5, .int (i5_5)), (0, .ref x), (1, .int (a1)), (2, .int (a2)), (3, .int (a3)), (4, .int (a4))]) X.1 X.2.1 dX12_mix_290 hl (k := 0) rfl (by rw [ex_517]; rfl) (by decide) rfl (fun ls hl => ?_)
                    refine lv_goto (tgt := 275) X.1 X.2.1 dX12_mix_293 (by decide) ?_
                    have t_519 : At S_515 x 12 := tAt_sA eS_515 ha_x_L_449
                    exact ih_L_446 _ (by omega) _ _ _ _ (x_517) (x_517.toInt) rfl hw rfl (by omega) t_519 hO_516 (lv_sub hl [0, 1, 2, 3, 4, 5, 6, 7, 8] rfl)
                exact L_446 _ _ _ _ _ (0) (0) rfl hw ti_0 (by omega) ha_x_L_8 hO_T_7 (lv_sub hl [0, 1, 2, 3, 4, 5, 6, 7, 8] rfl)
              · have z_b_520 := trivial
                have k_521 : i7_433_z = (-1) := z_eq hz_i7_433 ti_m1 c_443
                refine lv_iconst (v := (-1)) X.1 X.2.1 dX12_mix_270 (by decide) ?_
                rw [hQQ]
                exact ret_i X hw hr hlocks (Nat.le_of_ble_eq_true rfl) (Nat.le_of_ble_eq_true rfl) ⟨hO_T_7, trivial⟩ dX12_mix_271
            · have z_b_522 := trivial
              have k_523 : i8_434_z < v_438.toInt := z_nle rfl hz_i8_434 c_440
              refine lv_iconst (v := 0) X.1 X.2.1 dX12_mix_128 (by decide) ?_
              refine lv_istore (lv' := [(9, .int 0), (6, .int (i6_432)), (7, .int (i7_433)), (8, .int (i8_434)), (5, .int (i5_5)), (0, .ref x), (1, .int (a1)), (2, .int (a2)), (3, .int (a3)), (4, .int (a4))]) X.1 X.2.1 dX12_mix_129 hl (by decide) rfl (fun ls hl => ?_)
              refine lv_iconst (v := 0) X.1 X.2.1 dX12_mix_131 (by decide) ?_
              refine lv_istore (lv' := [(10, .int 0), (9, .int 0), (6, .int (i6_432)), (7, .int (i7_433)), (8, .int (i8_434)), (5, .int (i5_5)), (0, .ref x), (1, .int (a1)), (2, .int (a2)), (3, .int (a3)), (4, .int (a4))]) X.1 X.2.1 dX12_mix_132 hl (by decide) rfl (fun ls hl => ?_)
              refine lv_iconst (v := 0) X.1 X.2.1 dX12_mix_134 (by decide) ?_
              refine lv_istore (lv' := [(11, .int 0), (10, .int 0), (9, .int 0), (6, .int (i6_432)), (7, .int (i7_433)), (8, .int (i8_434)), (5, .int (i5_5)), (0, .ref x), (1, .int (a1)), (2, .int (a2)), (3, .int (a3)), (4, .int (a4))]) X.1 X.2.1 dX12_mix_135 hl (by decide) rfl (fun ls hl => ?_)
              have L_524 : ∀ (n : Nat) (H : Heap) (locs : List Loc) (ls : Array Slot) (i9_525 : Int32) (i9_525_z : Int) (i10_526 : Int32) (i10_526_z : Int) (i11_527 : Int32) (i11_527_z : Int), ((14 - i11_527_z).toNat = n) → (Wd G cy (AS S s.heap.size) s.heap T_7 H locs) → (i9_525.toInt = i9_525_z) → (i10_526.toInt = i10_526_z) → (i11_527.toInt = i11_527_z) → (0 ≤ i11_527_z ∧ i11_527_z ≤ 14) → (lv_has ls 13 [(9, .int (i9_525)), (10, .int (i10_526)), (11, .int (i11_527)), (6, .int (i6_432)), (7, .int (i7_433)), (8, .int (i8_434)), (5, .int (i5_5)), (0, .ref x), (1, .int (a1)), (2, .int (a2)), (3, .int (a3)), (4, .int (a4))]) → W p l e ({ frames := 8, cells := 0, slots := 0, locals := 384 }) s m [.ref x, .int (a1), .int (a2), .int (a3), .int (a4)].toArray below meth c H locs 0 0 QQ (F0 m 137 ls []) := by
                intro n
                induction n using Nat.strongRecOn with
                | ind n ih_L_524 =>
                intro H locs ls i9_525 i9_525_z i10_526 i10_526_z i11_527 i11_527_z hn hw hz_i9_525 hz_i10_526 hz_i11_527 hr_i11_527 hl
                have rg_528 : (-2147483648) ≤ i9_525_z ∧ i9_525_z ≤ 2147483647 := by rw [← hz_i9_525]; exact ⟨z_lo _, z_hi _⟩
                have rg_529 : (-2147483648) ≤ i10_526_z ∧ i10_526_z ≤ 2147483647 := by rw [← hz_i10_526]; exact ⟨z_lo _, z_hi _⟩
                have rg_530 : (-2147483648) ≤ i11_527_z ∧ i11_527_z ≤ 2147483647 := by rw [← hz_i11_527]; exact ⟨z_lo _, z_hi _⟩
                refine lv_iload X.1 X.2.1 dX12_mix_137 (lv_at hl 2 rfl) ?_
                refine lv_iload X.1 X.2.1 dX12_mix_139 (lv_at hl 6 rfl) ?_
                refine lv_icmp_ge (tgt := 187) X.1 X.2.1 dX12_mix_141 (by decide) (fun c_531 => ?_) (fun c_531 => ?_)
                · have z_b_532 := trivial
                  have k_533 : i11_527_z ≥ i5_5_z := z_le hz_i5_5 hz_i11_527 c_531
                  refine lv_iload X.1 X.2.1 dX12_mix_187 (lv_at hl 0 rfl) ?_
                  refine lv_iload_n X.1 X.2.1 dX12_mix_189 rfl (lv_at hl 8 rfl) ?_
                  refine lv_icmp_ge (tgt := 196) X.1 X.2.1 dX12_mix_190 (by decide) (fun c_534 => ?_) (fun c_534 => ?_)
                  · have z_b_535 := trivial
                    have k_536 : i9_525_z ≥ a1_z := z_le hz_a1 hz_i9_525 c_534
                    refine lv_iload X.1 X.2.1 dX12_mix_196 (lv_at hl 5 rfl) ?_
                    refine lv_iload X.1 X.2.1 dX12_mix_198 (lv_at hl 3 rfl) ?_
                    refine lv_ixor X.1 X.2.1 dX12_mix_200 ?_
                    refine lv_topi (fun v_537 ev_537 => ?_)
                    have rg_538 := And.intro (z_lo v_537) (z_hi v_537)
                    refine lv_istore (lv' := [(11, .int (v_537)), (9, .int (i9_525)), (10, .int (i10_526)), (6, .int (i6_432)), (7, .int (i7_433)), (8, .int (i8_434)), (5, .int (i5_5)), (0, .ref x), (1, .int (a1)), (2, .int (a2)), (3, .int (a3)), (4, .int (a4))]) X.1 X.2.1 dX12_mix_201 hl (by decide) rfl (fun ls hl => ?_)
                    refine lv_iload X.1 X.2.1 dX12_mix_203 (lv_at hl 5 rfl) ?_
                    refine lv_iload X.1 X.2.1 dX12_mix_205 (lv_at hl 0 rfl) ?_
                    refine lv_iand X.1 X.2.1 dX12_mix_207 ?_
                    refine lv_topi (fun v_539 ev_539 => ?_)
                    have rg_540 := And.intro (z_lo v_539) (z_hi v_539)
                    refine lv_iload X.1 X.2.1 dX12_mix_208 (lv_at hl 0 rfl) ?_
                    refine lv_ineg X.1 X.2.1 dX12_mix_210 ?_
                    refine lv_topi (fun v_541 ev_541 => ?_)
                    have rg_542 := And.intro (z_lo v_541) (z_hi v_541)
                    refine lv_iand X.1 X.2.1 dX12_mix_211 ?_
                    refine lv_topi (fun v_543 ev_543 => ?_)
                    have rg_544 := And.intro (z_lo v_543) (z_hi v_543)
                    refine lv_if_eq (tgt := 219) X.1 X.2.1 dX12_mix_212 (by decide) (fun c_545 => ?_) (fun c_545 => ?_)
                    · have z_b_546 := trivial
                      have k_547 : v_543.toInt = 0 := z_eq rfl ti_0 c_545
                      refine lv_iconst (v := 0) X.1 X.2.1 dX12_mix_219 (by decide) ?_
                      refine lv_istore (lv' := [(12, .int 0), (11, .int (v_537)), (9, .int (i9_525)), (10, .int (i10_526)), (6, .int (i6_432)), (7, .int (i7_433)), (8, .int (i8_434)), (5, .int (i5_5)), (0, .ref x), (1, .int (a1)), (2, .int (a2)), (3, .int (a3)), (4, .int (a4))]) X.1 X.2.1 dX12_mix_220 hl (by decide) rfl (fun ls hl => ?_)
                      refine lv_iload X.1 X.2.1 dX12_mix_222 (lv_at hl 5 rfl) ?_
                      refine lv_iconst (v := (-1)) X.1 X.2.1 dX12_mix_224 (by decide) ?_
                      refine lv_icmp_eq (tgt := 250) X.1 X.2.1 dX12_mix_225 (by decide) (fun c_548 => ?_) (fun c_548 => ?_)
                      · have z_b_549 := trivial
                        have k_550 : i7_433_z = (-1) := z_eq hz_i7_433 ti_m1 c_548
                        refine lv_iload X.1 X.2.1 dX12_mix_250 (lv_at hl 6 rfl) ?_
                        refine lv_istore (lv' := [(6, .int (i8_434)), (12, .int 0), (11, .int (v_537)), (9, .int (i9_525)), (10, .int (i10_526)), (7, .int (i7_433)), (8, .int (i8_434)), (5, .int (i5_5)), (0, .ref x), (1, .int (a1)), (2, .int (a2)), (3, .int (a3)), (4, .int (a4))]) X.1 X.2.1 dX12_mix_252 hl (by decide) rfl (fun ls hl => ?_)
                        refine lv_iload X.1 X.2.1 dX12_mix_254 (lv_at hl 4 rfl) ?_
                        refine lv_istore (lv' := [(7, .int (i10_526)), (6, .int (i8_434)), (12, .int 0), (11, .int (v_537)), (9, .int (i9_525)), (10, .int (i10_526)), (8, .int (i8_434)), (5, .int (i5_5)), (0, .ref x), (1, .int (a1)), (2, .int (a2)), (3, .int (a3)), (4, .int (a4))]) X.1 X.2.1 dX12_mix_256 hl (by decide) rfl (fun ls hl => ?_)
                        obtain ⟨x_551, ex_551⟩ : ∃ y : Int32, y = i8_434 + 1 := ⟨_, rfl⟩
                        have z_552 : x_551.toInt = i8_434_z + 1 := z_add ex_551 hz_i8_434 ti_1 (by omega) (by omega)
                        refine lv_iinc (v := x_551) (lv' := [(8, .int (x_551)), (7, .int (i10_526)), (6, .int (i8_434)), (12, .int 0), (11, .int (v_537)), (9, .int (i9_525)), (10, .int (i10_526)), (5, .int (i5_5)), (0, .ref x), (1, .int (a1)), (2, .int (a2)), (3, .int (a3)), (4, .int (a4))]) X.1 X.2.1 dX12_mix_258 hl (k := 6) rfl (by rw [ex_551]; rfl) (by decide) rfl (fun ls hl => ?_)
                        refine lv_goto (tgt := 119) X.1 X.2.1 dX12_mix_261 (by decide) ?_
                        exact ih_L_431 _ (by omega) _ _ _ (i8_434) (i8_434_z) (i10_526) (i10_526_z) (x_551) (x_551.toInt) rfl hw hz_i8_434 hz_i10_526 rfl (by omega) (lv_sub hl [2, 1, 0, 7, 8, 9, 10, 11, 12] rfl)
                      · have z_b_553 := trivial
                        have k_554 : i7_433_z ≠ (-1) := z_ne hz_i7_433 ti_m1 c_548
                        refine lv_iload X.1 X.2.1 dX12_mix_228 (lv_at hl 3 rfl) ?_
                        refine lv_iload X.1 X.2.1 dX12_mix_230 (lv_at hl 5 rfl) ?_
                        refine lv_icmp_gt (tgt := 258) X.1 X.2.1 dX12_mix_232 (by decide) (fun c_555 => ?_) (fun c_555 => ?_)
                        · have z_b_556 := trivial
                          have k_557 : i10_526_z > i7_433_z := z_lt hz_i7_433 hz_i10_526 c_555
                          obtain ⟨x_558, ex_558⟩ : ∃ y : Int32, y = i8_434 + 1 := ⟨_, rfl⟩
                          have z_559 : x_558.toInt = i8_434_z + 1 := z_add ex_558 hz_i8_434 ti_1 (by omega) (by omega)
                          refine lv_iinc (v := x_558) (lv' := [(8, .int (x_558)), (12, .int 0), (11, .int (v_537)), (9, .int (i9_525)), (10, .int (i10_526)), (6, .int (i6_432)), (7, .int (i7_433)), (5, .int (i5_5)), (0, .ref x), (1, .int (a1)), (2, .int (a2)), (3, .int (a3)), (4, .int (a4))]) X.1 X.2.1 dX12_mix_258 hl (k := 6) rfl (by rw [ex_558]; rfl) (by decide) rfl (fun ls hl => ?_)
                          refine lv_goto (tgt := 119) X.1 X.2.1 dX12_mix_261 (by decide) ?_
                          exact ih_L_431 _ (by omega) _ _ _ (i6_432) (i6_432_z) (i7_433) (i7_433_z) (x_558) (x_558.toInt) rfl hw hz_i6_432 hz_i7_433 rfl (by omega) (lv_sub hl [5, 6, 0, 7, 8, 9, 10, 11, 12] rfl)
                        · have z_b_560 := trivial
                          have k_561 : i10_526_z ≤ i7_433_z := z_nlt hz_i7_433 hz_i10_526 c_555
                          refine lv_iload X.1 X.2.1 dX12_mix_235 (lv_at hl 3 rfl) ?_
                          refine lv_iload X.1 X.2.1 dX12_mix_237 (lv_at hl 5 rfl) ?_
                          refine lv_icmp_ne (tgt := 250) X.1 X.2.1 dX12_mix_239 (by decide) (fun c_562 => ?_) (fun c_562 => ?_)
                          · have z_b_563 := trivial
                            have k_564 : i10_526_z ≠ i7_433_z := z_ne hz_i10_526 hz_i7_433 c_562
                            refine lv_iload X.1 X.2.1 dX12_mix_250 (lv_at hl 6 rfl) ?_
                            refine lv_istore (lv' := [(6, .int (i8_434)), (12, .int 0), (11, .int (v_537)), (9, .int (i9_525)), (10, .int (i10_526)), (7, .int (i7_433)), (8, .int (i8_434)), (5, .int (i5_5)), (0, .ref x), (1, .int (a1)), (2, .int (a2)), (3, .int (a3)), (4, .int (a4))]) X.1 X.2.1 dX12_mix_252 hl (by decide) rfl (fun ls hl => ?_)
                            refine lv_iload X.1 X.2.1 dX12_mix_254 (lv_at hl 4 rfl) ?_
                            refine lv_istore (lv' := [(7, .int (i10_526)), (6, .int (i8_434)), (12, .int 0), (11, .int (v_537)), (9, .int (i9_525)), (10, .int (i10_526)), (8, .int (i8_434)), (5, .int (i5_5)), (0, .ref x), (1, .int (a1)), (2, .int (a2)), (3, .int (a3)), (4, .int (a4))]) X.1 X.2.1 dX12_mix_256 hl (by decide) rfl (fun ls hl => ?_)
                            obtain ⟨x_565, ex_565⟩ : ∃ y : Int32, y = i8_434 + 1 := ⟨_, rfl⟩
                            have z_566 : x_565.toInt = i8_434_z + 1 := z_add ex_565 hz_i8_434 ti_1 (by omega) (by omega)
                            refine lv_iinc (v := x_565) (lv' := [(8, .int (x_565)), (7, .int (i10_526)), (6, .int (i8_434)), (12, .int 0), (11, .int (v_537)), (9, .int (i9_525)), (10, .int (i10_526)), (5, .int (i5_5)), (0, .ref x), (1, .int (a1)), (2, .int (a2)), (3, .int (a3)), (4, .int (a4))]) X.1 X.2.1 dX12_mix_258 hl (k := 6) rfl (by rw [ex_565]; rfl) (by decide) rfl (fun ls hl => ?_)
                            refine lv_goto (tgt := 119) X.1 X.2.1 dX12_mix_261 (by decide) ?_
                            exact ih_L_431 _ (by omega) _ _ _ (i8_434) (i8_434_z) (i10_526) (i10_526_z) (x_565) (x_565.toInt) rfl hw hz_i8_434 hz_i10_526 rfl (by omega) (lv_sub hl [2, 1, 0, 7, 8, 9, 10, 11, 12] rfl)
                          · have z_b_567 := trivial
                            have k_568 : i10_526_z = i7_433_z := z_eq hz_i10_526 hz_i7_433 c_562
                            refine lv_iload X.1 X.2.1 dX12_mix_242 (lv_at hl 0 rfl) ?_
                            refine lv_if_ne (tgt := 250) X.1 X.2.1 dX12_mix_244 (by decide) (fun c_569 => absurd c_569 (by decide)) (fun c_569 => ?_)
                            refine lv_goto (tgt := 258) X.1 X.2.1 dX12_mix_247 (by decide) ?_
                            obtain ⟨x_570, ex_570⟩ : ∃ y : Int32, y = i8_434 + 1 := ⟨_, rfl⟩
                            have z_571 : x_570.toInt = i8_434_z + 1 := z_add ex_570 hz_i8_434 ti_1 (by omega) (by omega)
                            refine lv_iinc (v := x_570) (lv' := [(8, .int (x_570)), (12, .int 0), (11, .int (v_537)), (9, .int (i9_525)), (10, .int (i10_526)), (6, .int (i6_432)), (7, .int (i7_433)), (5, .int (i5_5)), (0, .ref x), (1, .int (a1)), (2, .int (a2)), (3, .int (a3)), (4, .int (a4))]) X.1 X.2.1 dX12_mix_258 hl (k := 6) rfl (by rw [ex_570]; rfl) (by decide) rfl (fun ls hl => ?_)
                            refine lv_goto (tgt := 119) X.1 X.2.1 dX12_mix_261 (by decide) ?_
                            exact ih_L_431 _ (by omega) _ _ _ (i6_432) (i6_432_z) (i7_433) (i7_433_z) (x_570) (x_570.toInt) rfl hw hz_i6_432 hz_i7_433 rfl (by omega) (lv_sub hl [5, 6, 0, 7, 8, 9, 10, 11, 12] rfl)
                    · have z_b_572 := trivial
                      have k_573 : v_543.toInt ≠ 0 := z_ne rfl ti_0 c_545
                      refine lv_iconst (v := 1) X.1 X.2.1 dX12_mix_215 (by decide) ?_
                      refine lv_goto (tgt := 220) X.1 X.2.1 dX12_mix_216 (by decide) ?_
                      refine lv_istore (lv' := [(12, .int 1), (11, .int (v_537)), (9, .int (i9_525)), (10, .int (i10_526)), (6, .int (i6_432)), (7, .int (i7_433)), (8, .int (i8_434)), (5, .int (i5_5)), (0, .ref x), (1, .int (a1)), (2, .int (a2)), (3, .int (a3)), (4, .int (a4))]) X.1 X.2.1 dX12_mix_220 hl (by decide) rfl (fun ls hl => ?_)
                      refine lv_iload X.1 X.2.1 dX12_mix_222 (lv_at hl 5 rfl) ?_
                      refine lv_iconst (v := (-1)) X.1 X.2.1 dX12_mix_224 (by decide) ?_
                      refine lv_icmp_eq (tgt := 250) X.1 X.2.1 dX12_mix_225 (by decide) (fun c_574 => ?_) (fun c_574 => ?_)
                      · have z_b_575 := trivial
                        have k_576 : i7_433_z = (-1) := z_eq hz_i7_433 ti_m1 c_574
                        refine lv_iload X.1 X.2.1 dX12_mix_250 (lv_at hl 6 rfl) ?_
                        refine lv_istore (lv' := [(6, .int (i8_434)), (12, .int 1), (11, .int (v_537)), (9, .int (i9_525)), (10, .int (i10_526)), (7, .int (i7_433)), (8, .int (i8_434)), (5, .int (i5_5)), (0, .ref x), (1, .int (a1)), (2, .int (a2)), (3, .int (a3)), (4, .int (a4))]) X.1 X.2.1 dX12_mix_252 hl (by decide) rfl (fun ls hl => ?_)
                        refine lv_iload X.1 X.2.1 dX12_mix_254 (lv_at hl 4 rfl) ?_
                        refine lv_istore (lv' := [(7, .int (i10_526)), (6, .int (i8_434)), (12, .int 1), (11, .int (v_537)), (9, .int (i9_525)), (10, .int (i10_526)), (8, .int (i8_434)), (5, .int (i5_5)), (0, .ref x), (1, .int (a1)), (2, .int (a2)), (3, .int (a3)), (4, .int (a4))]) X.1 X.2.1 dX12_mix_256 hl (by decide) rfl (fun ls hl => ?_)
                        obtain ⟨x_577, ex_577⟩ : ∃ y : Int32, y = i8_434 + 1 := ⟨_, rfl⟩
                        have z_578 : x_577.toInt = i8_434_z + 1 := z_add ex_577 hz_i8_434 ti_1 (by omega) (by omega)
                        refine lv_iinc (v := x_577) (lv' := [(8, .int (x_577)), (7, .int (i10_526)), (6, .int (i8_434)), (12, .int 1), (11, .int (v_537)), (9, .int (i9_525)), (10, .int (i10_526)), (5, .int (i5_5)), (0, .ref x), (1, .int (a1)), (2, .int (a2)), (3, .int (a3)), (4, .int (a4))]) X.1 X.2.1 dX12_mix_258 hl (k := 6) rfl (by rw [ex_577]; rfl) (by decide) rfl (fun ls hl => ?_)
                        refine lv_goto (tgt := 119) X.1 X.2.1 dX12_mix_261 (by decide) ?_
                        exact ih_L_431 _ (by omega) _ _ _ (i8_434) (i8_434_z) (i10_526) (i10_526_z) (x_577) (x_577.toInt) rfl hw hz_i8_434 hz_i10_526 rfl (by omega) (lv_sub hl [2, 1, 0, 7, 8, 9, 10, 11, 12] rfl)
                      · have z_b_579 := trivial
                        have k_580 : i7_433_z ≠ (-1) := z_ne hz_i7_433 ti_m1 c_574
                        refine lv_iload X.1 X.2.1 dX12_mix_228 (lv_at hl 3 rfl) ?_
                        refine lv_iload X.1 X.2.1 dX12_mix_230 (lv_at hl 5 rfl) ?_
                        refine lv_icmp_gt (tgt := 258) X.1 X.2.1 dX12_mix_232 (by decide) (fun c_581 => ?_) (fun c_581 => ?_)
                        · have z_b_582 := trivial
                          have k_583 : i10_526_z > i7_433_z := z_lt hz_i7_433 hz_i10_526 c_581
                          obtain ⟨x_584, ex_584⟩ : ∃ y : Int32, y = i8_434 + 1 := ⟨_, rfl⟩
                          have z_585 : x_584.toInt = i8_434_z + 1 := z_add ex_584 hz_i8_434 ti_1 (by omega) (by omega)
                          refine lv_iinc (v := x_584) (lv' := [(8, .int (x_584)), (12, .int 1), (11, .int (v_537)), (9, .int (i9_525)), (10, .int (i10_526)), (6, .int (i6_432)), (7, .int (i7_433)), (5, .int (i5_5)), (0, .ref x), (1, .int (a1)), (2, .int (a2)), (3, .int (a3)), (4, .int (a4))]) X.1 X.2.1 dX12_mix_258 hl (k := 6) rfl (by rw [ex_584]; rfl) (by decide) rfl (fun ls hl => ?_)
                          refine lv_goto (tgt := 119) X.1 X.2.1 dX12_mix_261 (by decide) ?_
                          exact ih_L_431 _ (by omega) _ _ _ (i6_432) (i6_432_z) (i7_433) (i7_433_z) (x_584) (x_584.toInt) rfl hw hz_i6_432 hz_i7_433 rfl (by omega) (lv_sub hl [5, 6, 0, 7, 8, 9, 10, 11, 12] rfl)
                        · have z_b_586 := trivial
                          have k_587 : i10_526_z ≤ i7_433_z := z_nlt hz_i7_433 hz_i10_526 c_581
                          refine lv_iload X.1 X.2.1 dX12_mix_235 (lv_at hl 3 rfl) ?_
                          refine lv_iload X.1 X.2.1 dX12_mix_237 (lv_at hl 5 rfl) ?_
                          refine lv_icmp_ne (tgt := 250) X.1 X.2.1 dX12_mix_239 (by decide) (fun c_588 => ?_) (fun c_588 => ?_)
                          · have z_b_589 := trivial
                            have k_590 : i10_526_z ≠ i7_433_z := z_ne hz_i10_526 hz_i7_433 c_588
                            refine lv_iload X.1 X.2.1 dX12_mix_250 (lv_at hl 6 rfl) ?_
                            refine lv_istore (lv' := [(6, .int (i8_434)), (12, .int 1), (11, .int (v_537)), (9, .int (i9_525)), (10, .int (i10_526)), (7, .int (i7_433)), (8, .int (i8_434)), (5, .int (i5_5)), (0, .ref x), (1, .int (a1)), (2, .int (a2)), (3, .int (a3)), (4, .int (a4))]) X.1 X.2.1 dX12_mix_252 hl (by decide) rfl (fun ls hl => ?_)
                            refine lv_iload X.1 X.2.1 dX12_mix_254 (lv_at hl 4 rfl) ?_
                            refine lv_istore (lv' := [(7, .int (i10_526)), (6, .int (i8_434)), (12, .int 1), (11, .int (v_537)), (9, .int (i9_525)), (10, .int (i10_526)), (8, .int (i8_434)), (5, .int (i5_5)), (0, .ref x), (1, .int (a1)), (2, .int (a2)), (3, .int (a3)), (4, .int (a4))]) X.1 X.2.1 dX12_mix_256 hl (by decide) rfl (fun ls hl => ?_)
                            obtain ⟨x_591, ex_591⟩ : ∃ y : Int32, y = i8_434 + 1 := ⟨_, rfl⟩
                            have z_592 : x_591.toInt = i8_434_z + 1 := z_add ex_591 hz_i8_434 ti_1 (by omega) (by omega)
                            refine lv_iinc (v := x_591) (lv' := [(8, .int (x_591)), (7, .int (i10_526)), (6, .int (i8_434)), (12, .int 1), (11, .int (v_537)), (9, .int (i9_525)), (10, .int (i10_526)), (5, .int (i5_5)), (0, .ref x), (1, .int (a1)), (2, .int (a2)), (3, .int (a3)), (4, .int (a4))]) X.1 X.2.1 dX12_mix_258 hl (k := 6) rfl (by rw [ex_591]; rfl) (by decide) rfl (fun ls hl => ?_)
                            refine lv_goto (tgt := 119) X.1 X.2.1 dX12_mix_261 (by decide) ?_
                            exact ih_L_431 _ (by omega) _ _ _ (i8_434) (i8_434_z) (i10_526) (i10_526_z) (x_591) (x_591.toInt) rfl hw hz_i8_434 hz_i10_526 rfl (by omega) (lv_sub hl [2, 1, 0, 7, 8, 9, 10, 11, 12] rfl)
                          · have z_b_593 := trivial
                            have k_594 : i10_526_z = i7_433_z := z_eq hz_i10_526 hz_i7_433 c_588
                            refine lv_iload X.1 X.2.1 dX12_mix_242 (lv_at hl 0 rfl) ?_
                            refine lv_if_ne (tgt := 250) X.1 X.2.1 dX12_mix_244 (by decide) (fun c_595 => ?_) (fun c_595 => absurd c_595 (by decide))
                            refine lv_iload X.1 X.2.1 dX12_mix_250 (lv_at hl 6 rfl) ?_
                            refine lv_istore (lv' := [(6, .int (i8_434)), (12, .int 1), (11, .int (v_537)), (9, .int (i9_525)), (10, .int (i10_526)), (7, .int (i7_433)), (8, .int (i8_434)), (5, .int (i5_5)), (0, .ref x), (1, .int (a1)), (2, .int (a2)), (3, .int (a3)), (4, .int (a4))]) X.1 X.2.1 dX12_mix_252 hl (by decide) rfl (fun ls hl => ?_)
                            refine lv_iload X.1 X.2.1 dX12_mix_254 (lv_at hl 4 rfl) ?_
                            refine lv_istore (lv' := [(7, .int (i10_526)), (6, .int (i8_434)), (12, .int 1), (11, .int (v_537)), (9, .int (i9_525)), (10, .int (i10_526)), (8, .int (i8_434)), (5, .int (i5_5)), (0, .ref x), (1, .int (a1)), (2, .int (a2)), (3, .int (a3)), (4, .int (a4))]) X.1 X.2.1 dX12_mix_256 hl (by decide) rfl (fun ls hl => ?_)
                            obtain ⟨x_596, ex_596⟩ : ∃ y : Int32, y = i8_434 + 1 := ⟨_, rfl⟩
                            have z_597 : x_596.toInt = i8_434_z + 1 := z_add ex_596 hz_i8_434 ti_1 (by omega) (by omega)
                            refine lv_iinc (v := x_596) (lv' := [(8, .int (x_596)), (7, .int (i10_526)), (6, .int (i8_434)), (12, .int 1), (11, .int (v_537)), (9, .int (i9_525)), (10, .int (i10_526)), (5, .int (i5_5)), (0, .ref x), (1, .int (a1)), (2, .int (a2)), (3, .int (a3)), (4, .int (a4))]) X.1 X.2.1 dX12_mix_258 hl (k := 6) rfl (by rw [ex_596]; rfl) (by decide) rfl (fun ls hl => ?_)
                            refine lv_goto (tgt := 119) X.1 X.2.1 dX12_mix_261 (by decide) ?_
                            exact ih_L_431 _ (by omega) _ _ _ (i8_434) (i8_434_z) (i10_526) (i10_526_z) (x_596) (x_596.toInt) rfl hw hz_i8_434 hz_i10_526 rfl (by omega) (lv_sub hl [2, 1, 0, 7, 8, 9, 10, 11, 12] rfl)
                  · have z_b_598 := trivial
                    have k_599 : i9_525_z < a1_z := z_nle hz_a1 hz_i9_525 c_534
                    refine lv_goto (tgt := 258) X.1 X.2.1 dX12_mix_193 (by decide) ?_
                    obtain ⟨x_600, ex_600⟩ : ∃ y : Int32, y = i8_434 + 1 := ⟨_, rfl⟩
                    have z_601 : x_600.toInt = i8_434_z + 1 := z_add ex_600 hz_i8_434 ti_1 (by omega) (by omega)
                    refine lv_iinc (v := x_600) (lv' := [(8, .int (x_600)), (9, .int (i9_525)), (10, .int (i10_526)), (11, .int (i11_527)), (6, .int (i6_432)), (7, .int (i7_433)), (5, .int (i5_5)), (0, .ref x), (1, .int (a1)), (2, .int (a2)), (3, .int (a3)), (4, .int (a4))]) X.1 X.2.1 dX12_mix_258 hl (k := 5) rfl (by rw [ex_600]; rfl) (by decide) rfl (fun ls hl => ?_)
                    refine lv_goto (tgt := 119) X.1 X.2.1 dX12_mix_261 (by decide) ?_
                    exact ih_L_431 _ (by omega) _ _ _ (i6_432) (i6_432_z) (i7_433) (i7_433_z) (x_600) (x_600.toInt) rfl hw hz_i6_432 hz_i7_433 rfl (by omega) (lv_sub hl [4, 5, 0, 6, 7, 8, 9, 10, 11] rfl)
                · have z_b_602 := trivial
                  have k_603 : i11_527_z < i5_5_z := z_nle hz_i5_5 hz_i11_527 c_531
                  refine lv_iload X.1 X.2.1 dX12_mix_144 (lv_at hl 5 rfl) ?_
                  refine lv_iload X.1 X.2.1 dX12_mix_146 (lv_at hl 2 rfl) ?_
                  refine lv_ishr X.1 X.2.1 dX12_mix_148 ?_
                  refine lv_topi (fun v_604 ev_604 => ?_)
                  have rg_605 := And.intro (z_lo v_604) (z_hi v_604)
                  refine lv_iconst (v := 1) X.1 X.2.1 dX12_mix_149 (by decide) ?_
                  refine lv_iand X.1 X.2.1 dX12_mix_150 ?_
                  refine lv_topi (fun v_606 ev_606 => ?_)
                  have z_607 : 0 ≤ v_606.toInt ∧ v_606.toInt ≤ 1 := z_and1 ev_606
                  refine lv_if_ne (tgt := 157) X.1 X.2.1 dX12_mix_151 (by decide) (fun c_608 => ?_) (fun c_608 => ?_)
                  · have z_b_609 := trivial
                    have k_610 : v_606.toInt ≠ 0 := z_ne rfl ti_0 c_608
                    refine lv_iload X.1 X.2.1 dX12_mix_157 (lv_at hl 0 rfl) ?_
                    refine lv_aload_n X.1 X.2.1 dX12_mix_159 rfl (lv_at hl 7 rfl) ?_
                    obtain ⟨q_611, h_612, h_613, h_614⟩ := gQ_12_1259 hO_T_7.1 ha_x_L_8
                    refine r_getR (g := 1259) X hw ha_x_L_8 rfl 59 h_612 (by decide) rfl inn_X12_mix_12 (by decide) (X.2.2.2.1 (.fieldLink RX12 143 "SilkMillModel" "askedWeight" "[I") (by decide +kernel)) rfl (gv_1259 _ _) dX12_mix_160 ?_
                    refine lv_iload X.1 X.2.1 dX12_mix_163 (lv_at hl 2 rfl) ?_
                    refine r_iald X hw h_613 rfl (by rw [h_614]; exact z_ix hz_i11_527 (by omega) (by omega)) dX12_mix_165 ?_
                    refine lv_topi (fun v_615 ev_615 => ?_)
                    have rg_616 := And.intro (z_lo v_615) (z_hi v_615)
                    have ev_615 := ev_615.symm
                    refine lv_iadd X.1 X.2.1 dX12_mix_166 ?_
                    refine lv_topi (fun v_617 ev_617 => ?_)
                    have rg_618 := And.intro (z_lo v_617) (z_hi v_617)
                    refine lv_istore (lv' := [(9, .int (v_617)), (10, .int (i10_526)), (11, .int (i11_527)), (6, .int (i6_432)), (7, .int (i7_433)), (8, .int (i8_434)), (5, .int (i5_5)), (0, .ref x), (1, .int (a1)), (2, .int (a2)), (3, .int (a3)), (4, .int (a4))]) X.1 X.2.1 dX12_mix_167 hl (by decide) rfl (fun ls hl => ?_)
                    refine lv_iload X.1 X.2.1 dX12_mix_169 (lv_at hl 1 rfl) ?_
                    refine lv_aload_n X.1 X.2.1 dX12_mix_171 rfl (lv_at hl 7 rfl) ?_
                    obtain ⟨q_619, h_620, h_621, h_622⟩ := gQ_12_1260 hO_T_7.1 ha_x_L_8
                    refine r_getR (g := 1260) X hw ha_x_L_8 rfl 60 h_620 (by decide) rfl inn_X12_mix_12 (by decide) (X.2.2.2.1 (.fieldLink RX12 146 "SilkMillModel" "askedPrice" "[I") (by decide +kernel)) rfl (gv_1260 _ _) dX12_mix_172 ?_
                    refine lv_iload X.1 X.2.1 dX12_mix_175 (lv_at hl 2 rfl) ?_
                    refine r_iald X hw h_621 rfl (by rw [h_622]; exact z_ix hz_i11_527 (by omega) (by omega)) dX12_mix_177 ?_
                    refine lv_topi (fun v_623 ev_623 => ?_)
                    have rg_624 := And.intro (z_lo v_623) (z_hi v_623)
                    have ev_623 := ev_623.symm
                    refine lv_iadd X.1 X.2.1 dX12_mix_178 ?_
                    refine lv_topi (fun v_625 ev_625 => ?_)
                    have rg_626 := And.intro (z_lo v_625) (z_hi v_625)
                    refine lv_istore (lv' := [(10, .int (v_625)), (9, .int (v_617)), (11, .int (i11_527)), (6, .int (i6_432)), (7, .int (i7_433)), (8, .int (i8_434)), (5, .int (i5_5)), (0, .ref x), (1, .int (a1)), (2, .int (a2)), (3, .int (a3)), (4, .int (a4))]) X.1 X.2.1 dX12_mix_179 hl (by decide) rfl (fun ls hl => ?_)
                    obtain ⟨x_627, ex_627⟩ : ∃ y : Int32, y = i11_527 + 1 := ⟨_, rfl⟩
                    have z_628 : x_627.toInt = i11_527_z + 1 := z_add ex_627 hz_i11_527 ti_1 (by omega) (by omega)
                    refine lv_iinc (v := x_627) (lv' := [(11, .int (x_627)), (10, .int (v_625)), (9, .int (v_617)), (6, .int (i6_432)), (7, .int (i7_433)), (8, .int (i8_434)), (5, .int (i5_5)), (0, .ref x), (1, .int (a1)), (2, .int (a2)), (3, .int (a3)), (4, .int (a4))]) X.1 X.2.1 dX12_mix_181 hl (k := 2) rfl (by rw [ex_627]; rfl) (by decide) rfl (fun ls hl => ?_)
                    refine lv_goto (tgt := 137) X.1 X.2.1 dX12_mix_184 (by decide) ?_
                    exact ih_L_524 _ (by omega) _ _ _ (v_617) (v_617.toInt) (v_625) (v_625.toInt) (x_627) (x_627.toInt) rfl hw rfl rfl rfl (by omega) (lv_sub hl [2, 1, 0, 3, 4, 5, 6, 7, 8, 9, 10, 11] rfl)
                  · have z_b_629 := trivial
                    have k_630 : v_606.toInt = 0 := z_eq rfl ti_0 c_608
                    refine lv_goto (tgt := 181) X.1 X.2.1 dX12_mix_154 (by decide) ?_
                    obtain ⟨x_631, ex_631⟩ : ∃ y : Int32, y = i11_527 + 1 := ⟨_, rfl⟩
                    have z_632 : x_631.toInt = i11_527_z + 1 := z_add ex_631 hz_i11_527 ti_1 (by omega) (by omega)
                    refine lv_iinc (v := x_631) (lv' := [(11, .int (x_631)), (9, .int (i9_525)), (10, .int (i10_526)), (6, .int (i6_432)), (7, .int (i7_433)), (8, .int (i8_434)), (5, .int (i5_5)), (0, .ref x), (1, .int (a1)), (2, .int (a2)), (3, .int (a3)), (4, .int (a4))]) X.1 X.2.1 dX12_mix_181 hl (k := 2) rfl (by rw [ex_631]; rfl) (by decide) rfl (fun ls hl => ?_)
                    refine lv_goto (tgt := 137) X.1 X.2.1 dX12_mix_184 (by decide) ?_
                    exact ih_L_524 _ (by omega) _ _ _ (i9_525) (i9_525_z) (i10_526) (i10_526_z) (x_631) (x_631.toInt) rfl hw hz_i9_525 hz_i10_526 rfl (by omega) (lv_sub hl [1, 2, 0, 3, 4, 5, 6, 7, 8, 9, 10, 11] rfl)
              exact L_524 _ _ _ _ (0) (0) (0) (0) (0) (0) rfl hw ti_0 ti_0 ti_0 (by omega) (lv_sub hl [2, 1, 0, 3, 4, 5, 6, 7, 8, 9, 10, 11] rfl)
          exact L_431 _ _ _ _ (0) (0) ((-1)) ((-1)) (1) (1) rfl hw ti_0 ti_m1 ti_1 (by omega) (lv_sub hl [2, 1, 0, 3, 4, 5, 6, 7, 8] rfl)
        · have z_b_633 := trivial
          have k_634 : a1_z > 0 := z_nle hz_a1 ti_0 c_428
          refine lv_aload_n X.1 X.2.1 dX12_mix_31 rfl (lv_at hl 2 rfl) ?_
          obtain ⟨q_635, h_636, h_637, h_638⟩ := gQ_12_1244 hO_T_7.1 ha_x_L_8
          refine r_getR (g := 1244) X hw ha_x_L_8 rfl 44 h_636 (by decide) rfl inn_X12_mix_12 (by decide) (X.2.2.2.1 (.fieldLink RX12 115 "SilkMillModel" "isSold" "[Z") (by decide +kernel)) rfl (gv_1244 _ _) dX12_mix_32 ?_
          refine lv_iload X.1 X.2.1 dX12_mix_35 (lv_at hl 1 rfl) ?_
          refine r_zald X hw h_637 rfl (by rw [h_638]; exact z_ix hz_i6_6 (by omega) (by omega)) dX12_mix_37 ?_
          refine lv_topi (fun v_639 ev_639 => ?_)
          have rg_640 := And.intro (z_lo v_639) (z_hi v_639)
          have ev_639 := ev_639.symm
          refine lv_if_ne (tgt := 104) X.1 X.2.1 dX12_mix_38 (by decide) (fun c_641 => ?_) (fun c_641 => ?_)
          · have z_b_642 := trivial
            have k_643 : v_639.toInt ≠ 0 := z_ne rfl ti_0 c_641
            obtain ⟨x_644, ex_644⟩ : ∃ y : Int32, y = i6_6 + 1 := ⟨_, rfl⟩
            have z_645 : x_644.toInt = i6_6_z + 1 := z_add ex_644 hz_i6_6 ti_1 (by omega) (by omega)
            refine lv_iinc (v := x_644) (lv' := [(6, .int (x_644)), (5, .int (i5_5)), (0, .ref x), (1, .int (a1)), (2, .int (a2)), (3, .int (a3)), (4, .int (a4))]) X.1 X.2.1 dX12_mix_104 hl (k := 1) rfl (by rw [ex_644]; rfl) (by decide) rfl (fun ls hl => ?_)
            refine lv_goto (tgt := 11) X.1 X.2.1 dX12_mix_107 (by decide) ?_
            exact ih_L_4 _ (by omega) _ _ _ _ (i5_5) (i5_5_z) (x_644) (x_644.toInt) rfl hw hz_i5_5 (by omega) rfl (by omega) ha_x_L_8 hO_T_7 (lv_sub hl [1, 0, 2, 3, 4, 5, 6] rfl)
          · have z_b_646 := trivial
            have k_647 : v_639.toInt = 0 := z_eq rfl ti_0 c_641
            refine lv_aload_n X.1 X.2.1 dX12_mix_41 rfl (lv_at hl 2 rfl) ?_
            refine lv_iload X.1 X.2.1 dX12_mix_42 (lv_at hl 1 rfl) ?_
            refine lv_iconst (v := 0) X.1 X.2.1 dX12_mix_44 (by decide) ?_
            refine k_i (rm := { frames := 5, cells := 0, slots := 0, locals := 240 }) (av := [.ref x, .int (i6_6), .int 0]) X hw (va_runV (As := [.int (i6_6), .int 0]) (rest := []) (cfix X) (k_X12_least l G cy κ T_7 _ x (i6_6) (i6_6_z) (0) (0) hO_T_7.1 ha_x_L_8 hz_i6_6 ti_0 (by first | assumption | omega) (by first | assumption | omega) (by first | assumption | omega) (MIe_free hG ha_x hO_T_7.fr (by decide +kernel) hp_0)) (cwV 2 X.2.2.2.1 gX12_mix_X12_least rfl rfl rfl (by decide +kernel) ⟨Nat.le_of_ble_eq_true rfl, Nat.le_of_ble_eq_true rfl⟩) (pre_V X hw _ ha_x_L_8 rfl (by decide) rfl) rfl rfl hl.1 rfl (lv_room (Nat.le_of_ble_eq_true rfl)) dX12_mix_45 ⟨Nat.le_of_ble_eq_true rfl, Nat.le_of_ble_eq_true rfl⟩) 0 0 (Nat.le_of_ble_eq_true rfl) (Nat.le_of_ble_eq_true rfl) (fun rr_648 S_649 H locs hp hw hfr hnw => ?_)
            obtain ⟨e2, hp⟩ := hp
            subst e2
            have rg_650 := And.intro (z_lo rr_648) (z_hi rr_648)
            refine lv_iload_n X.1 X.2.1 dX12_mix_48 rfl (lv_at hl 4 rfl) ?_
            refine lv_icmp_lt (tgt := 104) X.1 X.2.1 dX12_mix_49 (by decide) (fun c_651 => ?_) (fun c_651 => ?_)
            · have z_b_652 := trivial
              have k_653 : rr_648.toInt < a2_z := z_lt rfl hz_a2 c_651
              obtain ⟨x_654, ex_654⟩ : ∃ y : Int32, y = i6_6 + 1 := ⟨_, rfl⟩
              have z_655 : x_654.toInt = i6_6_z + 1 := z_add ex_654 hz_i6_6 ti_1 (by omega) (by omega)
              refine lv_iinc (v := x_654) (lv' := [(6, .int (x_654)), (5, .int (i5_5)), (0, .ref x), (1, .int (a1)), (2, .int (a2)), (3, .int (a3)), (4, .int (a4))]) X.1 X.2.1 dX12_mix_104 hl (k := 1) rfl (by rw [ex_654]; rfl) (by decide) rfl (fun ls hl => ?_)
              refine lv_goto (tgt := 11) X.1 X.2.1 dX12_mix_107 (by decide) ?_
              exact ih_L_4 _ (by omega) _ _ _ _ (i5_5) (i5_5_z) (x_654) (x_654.toInt) rfl hw hz_i5_5 (by omega) rfl (by omega) ha_x_L_8 hO_T_7 (lv_sub hl [1, 0, 2, 3, 4, 5, 6] rfl)
            · have z_b_656 := trivial
              have k_657 : rr_648.toInt ≥ a2_z := z_nlt rfl hz_a2 c_651
              refine lv_aload_n X.1 X.2.1 dX12_mix_52 rfl (lv_at hl 2 rfl) ?_
              refine lv_iload X.1 X.2.1 dX12_mix_53 (lv_at hl 1 rfl) ?_
              refine lv_iconst (v := 1) X.1 X.2.1 dX12_mix_55 (by decide) ?_
              refine k_i (rm := { frames := 5, cells := 0, slots := 0, locals := 240 }) (av := [.ref x, .int (i6_6), .int 1]) X hw (va_runV (As := [.int (i6_6), .int 1]) (rest := []) (cfix X) (k_X12_least l G cy κ T_7 _ x (i6_6) (i6_6_z) (1) (1) hO_T_7.1 ha_x_L_8 hz_i6_6 ti_1 (by first | assumption | omega) (by first | assumption | omega) (by first | assumption | omega) (MIe_free hG ha_x hO_T_7.fr (by decide +kernel) hp_0)) (cwV 2 X.2.2.2.1 gX12_mix_X12_least rfl rfl rfl (by decide +kernel) ⟨Nat.le_of_ble_eq_true rfl, Nat.le_of_ble_eq_true rfl⟩) (pre_V X hw _ ha_x_L_8 rfl (by decide) rfl) rfl rfl hl.1 rfl (lv_room (Nat.le_of_ble_eq_true rfl)) dX12_mix_56 ⟨Nat.le_of_ble_eq_true rfl, Nat.le_of_ble_eq_true rfl⟩) 0 0 (Nat.le_of_ble_eq_true rfl) (Nat.le_of_ble_eq_true rfl) (fun rr_658 S_659 H locs hp hw hfr hnw => ?_)
              obtain ⟨e2, hp⟩ := hp
              subst e2
              have rg_660 := And.intro (z_lo rr_658) (z_hi rr_658)
              refine lv_iload_n X.1 X.2.1 dX12_mix_59 rfl (lv_at hl 5 rfl) ?_
              refine lv_icmp_le (tgt := 66) X.1 X.2.1 dX12_mix_60 (by decide) (fun c_661 => ?_) (fun c_661 => ?_)
              · have z_b_662 := trivial
                have k_663 : rr_658.toInt ≤ a3_z := z_le rfl hz_a3 c_661
                refine lv_aload_n X.1 X.2.1 dX12_mix_66 rfl (lv_at hl 2 rfl) ?_
                obtain ⟨q_664, h_665, h_666, h_667⟩ := gQ_12_1258 hO_T_7.1 ha_x_L_8
                refine r_getR (g := 1258) X hw ha_x_L_8 rfl 58 h_665 (by decide) rfl inn_X12_mix_12 (by decide) (X.2.2.2.1 (.fieldLink RX12 140 "SilkMillModel" "asked" "[I") (by decide +kernel)) rfl (gv_1258 _ _) dX12_mix_67 ?_
                refine lv_iload X.1 X.2.1 dX12_mix_70 (lv_at hl 0 rfl) ?_
                refine lv_iload X.1 X.2.1 dX12_mix_72 (lv_at hl 1 rfl) ?_
                refine r_iast X hw h_666 rfl (by rw [h_667]; exact z_ix hz_i5_5 (by omega) (by omega)) dX12_mix_74 (fun H locs hw => ?_)
                obtain ⟨S_668, eS_668⟩ : ∃ T, T = sA T_7 q_664 (upd (pA T_7 q_664) (Int32.toNatClampNeg (i5_5)) (i6_6)) := ⟨_, rfl⟩
                rw [← eS_668] at hw
                have hO_669 : Ok MN S S_668 := hO_T_7.sA eS_668 h_666 (by decide +kernel) (uA_1374 hO_T_7.1 h_666 (by omega) (by omega))
                have h_670 : pA S_668 q_664 (Int32.toNatClampNeg (i5_5)) = i6_6 := tA_sAs eS_668
                refine lv_aload_n X.1 X.2.1 dX12_mix_75 rfl (lv_at hl 2 rfl) ?_
                have t_671 : At S_668 x 12 := tAt_sA eS_668 ha_x_L_8
                obtain ⟨q_672, h_673, h_674, h_675⟩ := gQ_12_1259 hO_669.1 t_671
                refine r_getR (g := 1259) X hw t_671 rfl 59 h_673 (by decide) rfl inn_X12_mix_12 (by decide) (X.2.2.2.1 (.fieldLink RX12 143 "SilkMillModel" "askedWeight" "[I") (by decide +kernel)) rfl (gv_1259 _ _) dX12_mix_76 ?_
                refine lv_iload X.1 X.2.1 dX12_mix_79 (lv_at hl 0 rfl) ?_
                refine lv_aload_n X.1 X.2.1 dX12_mix_81 rfl (lv_at hl 2 rfl) ?_
                refine lv_iload X.1 X.2.1 dX12_mix_82 (lv_at hl 1 rfl) ?_
                refine k_i (rm := { frames := 6, cells := 0, slots := 0, locals := 288 }) (av := [.ref x, .int (i6_6)]) X hw (va_runV (As := [.int (i6_6)]) (rest := [.int (i5_5), .ref q_672]) (cfix X) (k_X12_weightOf l G cy κ S_668 _ x (i6_6) (i6_6_z) hO_669.1 t_671 hz_i6_6 (by first | assumption | omega) (by first | assumption | omega) (by first | assumption | omega) (MIe_free hG ha_x hO_669.fr (by decide +kernel) hp_0)) (cwV 1 X.2.2.2.1 gX12_mix_X12_weightOf rfl rfl rfl (by decide +kernel) ⟨Nat.le_of_ble_eq_true rfl, Nat.le_of_ble_eq_true rfl⟩) (pre_V X hw _ t_671 rfl (by decide) rfl) rfl rfl hl.1 rfl (lv_room (Nat.le_of_ble_eq_true rfl)) dX12_mix_84 ⟨Nat.le_of_ble_eq_true rfl, Nat.le_of_ble_eq_true rfl⟩) 0 0 (Nat.le_of_ble_eq_true rfl) (Nat.le_of_ble_eq_true rfl) (fun rr_676 S_677 H locs hp hw hfr hnw => ?_)
                obtain ⟨e2, hp⟩ := hp
                subst e2
                have rg_678 := And.intro (z_lo rr_676) (z_hi rr_676)
                refine r_iast X hw h_674 rfl (by rw [h_675]; exact z_ix hz_i5_5 (by omega) (by omega)) dX12_mix_87 (fun H locs hw => ?_)
                obtain ⟨S_679, eS_679⟩ : ∃ T, T = sA S_668 q_672 (upd (pA S_668 q_672) (Int32.toNatClampNeg (i5_5)) (rr_676)) := ⟨_, rfl⟩
                rw [← eS_679] at hw
                have hO_680 : Ok MN S S_679 := hO_669.sA eS_679 h_674 (by decide +kernel) (uA_1394 hO_669.1 h_674)
                have h_681 : pA S_679 q_672 (Int32.toNatClampNeg (i5_5)) = rr_676 := tA_sAs eS_679
                refine lv_aload_n X.1 X.2.1 dX12_mix_88 rfl (lv_at hl 2 rfl) ?_
                have t_682 : At S_679 x 12 := tAt_sA eS_679 t_671
                obtain ⟨q_683, h_684, h_685, h_686⟩ := gQ_12_1260 hO_680.1 t_682
                refine r_getR (g := 1260) X hw t_682 rfl 60 h_684 (by decide) rfl inn_X12_mix_12 (by decide) (X.2.2.2.1 (.fieldLink RX12 146 "SilkMillModel" "askedPrice" "[I") (by decide +kernel)) rfl (gv_1260 _ _) dX12_mix_89 ?_
                refine lv_iload X.1 X.2.1 dX12_mix_92 (lv_at hl 0 rfl) ?_
                refine lv_aload_n X.1 X.2.1 dX12_mix_94 rfl (lv_at hl 2 rfl) ?_
                refine lv_iload X.1 X.2.1 dX12_mix_95 (lv_at hl 1 rfl) ?_
                refine k_i (rm := { frames := 7, cells := 0, slots := 0, locals := 336 }) (av := [.ref x, .int (i6_6)]) X hw (va_runV (As := [.int (i6_6)]) (rest := [.int (i5_5), .ref q_683]) (cfix X) (k_X12_priceOf l G cy κ S_679 _ x (i6_6) (i6_6_z) hO_680.1 t_682 hz_i6_6 (by first | assumption | omega) (by first | assumption | omega) (by first | assumption | omega) (MIe_free hG ha_x hO_680.fr (by decide +kernel) hp_0)) (cwV 1 X.2.2.2.1 gX12_mix_X12_priceOf rfl rfl rfl (by decide +kernel) ⟨Nat.le_of_ble_eq_true rfl, Nat.le_of_ble_eq_true rfl⟩) (pre_V X hw _ t_682 rfl (by decide) rfl) rfl rfl hl.1 rfl (lv_room (Nat.le_of_ble_eq_true rfl)) dX12_mix_97 ⟨Nat.le_of_ble_eq_true rfl, Nat.le_of_ble_eq_true rfl⟩) 0 0 (Nat.le_of_ble_eq_true rfl) (Nat.le_of_ble_eq_true rfl) (fun rr_687 S_688 H locs hp hw hfr hnw => ?_)
                obtain ⟨e2, hp⟩ := hp
                subst e2
                have rg_689 := And.intro (z_lo rr_687) (z_hi rr_687)
                refine r_iast X hw h_685 rfl (by rw [h_686]; exact z_ix hz_i5_5 (by omega) (by omega)) dX12_mix_100 (fun H locs hw => ?_)
                obtain ⟨S_690, eS_690⟩ : ∃ T, T = sA S_679 q_683 (upd (pA S_679 q_683) (Int32.toNatClampNeg (i5_5)) (rr_687)) := ⟨_, rfl⟩
                rw [← eS_690] at hw
                have hO_691 : Ok MN S S_690 := hO_680.sA eS_690 h_685 (by decide +kernel) (uA_1414 hO_680.1 h_685)
                have h_692 : pA S_690 q_683 (Int32.toNatClampNeg (i5_5)) = rr_687 := tA_sAs eS_690
                obtain ⟨x_693, ex_693⟩ : ∃ y : Int32, y = i5_5 + 1 := ⟨_, rfl⟩
                have z_694 : x_693.toInt = i5_5_z + 1 := z_add ex_693 hz_i5_5 ti_1 (by omega) (by omega)
                refine lv_iinc (v := x_693) (lv' := [(5, .int (x_693)), (6, .int (i6_6)), (0, .ref x), (1, .int (a1)), (2, .int (a2)), (3, .int (a3)), (4, .int (a4))]) X.1 X.2.1 dX12_mix_101 hl (k := 0) rfl (by rw [ex_693]; rfl) (by decide) rfl (fun ls hl => ?_)
                obtain ⟨x_695, ex_695⟩ : ∃ y : Int32, y = i6_6 + 1 := ⟨_, rfl⟩
                have z_696 : x_695.toInt = i6_6_z + 1 := z_add ex_695 hz_i6_6 ti_1 (by omega) (by omega)
                refine lv_iinc (v := x_695) (lv' := [(6, .int (x_695)), (5, .int (x_693)), (0, .ref x), (1, .int (a1)), (2, .int (a2)), (3, .int (a3)), (4, .int (a4))]) X.1 X.2.1 dX12_mix_104 hl (k := 1) rfl (by rw [ex_695]; rfl) (by decide) rfl (fun ls hl => ?_)
                refine lv_goto (tgt := 11) X.1 X.2.1 dX12_mix_107 (by decide) ?_
                have t_697 : At S_690 x 12 := tAt_sA eS_690 t_682
                exact ih_L_4 _ (by omega) _ _ _ _ (x_693) (x_693.toInt) (x_695) (x_695.toInt) rfl hw rfl (by omega) rfl (by omega) t_697 hO_691 (lv_sub hl [1, 0, 2, 3, 4, 5, 6] rfl)
              · have z_b_698 := trivial
                have k_699 : rr_658.toInt > a3_z := z_nle rfl hz_a3 c_661
                refine lv_goto (tgt := 104) X.1 X.2.1 dX12_mix_63 (by decide) ?_
                obtain ⟨x_700, ex_700⟩ : ∃ y : Int32, y = i6_6 + 1 := ⟨_, rfl⟩
                have z_701 : x_700.toInt = i6_6_z + 1 := z_add ex_700 hz_i6_6 ti_1 (by omega) (by omega)
                refine lv_iinc (v := x_700) (lv' := [(6, .int (x_700)), (5, .int (i5_5)), (0, .ref x), (1, .int (a1)), (2, .int (a2)), (3, .int (a3)), (4, .int (a4))]) X.1 X.2.1 dX12_mix_104 hl (k := 1) rfl (by rw [ex_700]; rfl) (by decide) rfl (fun ls hl => ?_)
                refine lv_goto (tgt := 11) X.1 X.2.1 dX12_mix_107 (by decide) ?_
                exact ih_L_4 _ (by omega) _ _ _ _ (i5_5) (i5_5_z) (x_700) (x_700.toInt) rfl hw hz_i5_5 (by omega) rfl (by omega) ha_x_L_8 hO_T_7 (lv_sub hl [1, 0, 2, 3, 4, 5, 6] rfl)
  have t_702 : At S_1 x 12 := tAt_sI eS_1 ha_x
  exact L_4 _ _ _ _ _ (0) (0) (0) (0) rfl hw ti_0 (by omega) ti_0 (by omega) t_702 hO_2 (lv_sub hl [1, 0, 2, 3, 4, 5, 6] rfl)
