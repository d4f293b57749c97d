set_option maxRecDepth 20000 in
theorem ggX12_mix_X12_least : GoodIn wsX12_mix wsX12_least := goodIn_h _ [11, 0, 0, 0, 0, 0, 0, 0, 0, 0, 0, 0, 0, 0, 0, 0, 0, 0, 0, 0, 0, 0, 0, 0, 0, 0, 0, 0, 0, 0, 0, 0, 0, 0, 0, 22, 0, 0, 0, 0, 0, 0, 0, 0, 0, 0, 0, 0, 0, 0, 0, 0, 0, 0, 0, 0, 0, 0, 0, 0, 0, 0, 0, 0, 0, 0, 0, 0, 0, 0, 0, 0, 0, 0, 0, 0, 0, 0, 0, 0, 0, 0, 0, 0, 0, 0, 0, 0, 0, 0, 0, 0, 0, 0, 0, 0, 0, 0, 0, 0, 0] [1, 2, 3, 4, 5, 6, 7, 8, 9, 10, 11, 12, 0, 13, 14, 15, 16, 17, 18, 19, 20, 21, 22, 23, 24, 25, 26, 27, 28, 29, 30, 31, 32, 33, 34, 35, 36, 37, 38, 39, 40, 41, 42, 43, 44, 45, 46, 47, 48, 49, 50, 51, 52, 53, 54, 55, 56, 57, 58, 59, 60, 61, 62, 63, 64, 65, 66, 67, 68, 69, 70, 71, 72, 73, 74, 75, 76, 77, 78, 79, 80, 81, 82, 83, 84, 85, 86, 87, 88, 89, 90, 91, 92, 93, 94, 95, 96, 97, 98, 99, 100] (by decide +kernel) (by decide +kernel)
set_option maxRecDepth 20000 in
theorem gX12_mix_X12_least : GoodIn wsX12_mix (wsV RX12 365 RX12 yX12_least wsX12_least) := goodIn_app (goodIn_of _ (by decide +kernel)) ggX12_mix_X12_least
set_option maxRecDepth 20000 in
theorem ggX12_mix_X12_weightOf : GoodIn wsX12_mix wsX12_weightOf := goodIn_h _ [11, 1, 7, 0, 0, 0, 0, 0, 0, 0, 0, 0, 0, 0, 0, 0, 0, 0, 0, 0, 0, 0, 0, 0, 0, 0, 0, 3, 0, 0, 0, 0, 0, 0, 0, 0, 10, 0, 0, 0, 0, 0, 0, 0, 0, 0, 0, 0, 0, 0, 0, 0, 0, 0, 0, 0, 0, 0, 0, 0, 0, 0, 0, 0, 0, 0, 0, 0, 0, 0, 0, 0, 0, 0, 0, 0, 0, 0, 0, 0, 0, 0, 0, 0, 0, 0, 0, 0, 0, 0, 0, 0, 0, 0, 0, 0, 0, 0, 0, 0, 0, 0] [27, 1, 28, 29, 30, 0, 31, 32, 33, 34, 35, 2, 3, 4, 5, 6, 7, 8, 9, 10, 11, 12, 13, 14, 15, 16, 17, 18, 19, 20, 21, 22, 23, 24, 25, 26, 36, 37, 38, 39, 40, 41, 42, 43, 44, 45, 46, 47, 48, 49, 50, 51, 52, 53, 54, 55, 56, 57, 58, 59, 60, 61, 62, 63, 64, 65, 66, 67, 68, 69, 70, 71, 72, 73, 74, 75, 76, 77, 78, 79, 80, 81, 82, 83, 84, 85, 86, 87, 88, 89, 90, 91, 92, 93, 94, 95, 96, 97, 98, 99, 100, 101] (by decide +kernel) (by decide +kernel)
set_option maxRecDepth 20000 in
theorem gX12_mix_X12_weightOf : GoodIn wsX12_mix (wsV RX12 356 RX12 yX12_weightOf wsX12_weightOf) := goodIn_app (goodIn_of _ (by decide +kernel)) ggX12_mix_X12_weightOf
set_option maxRecDepth 20000 in
theorem ggX12_mix_X12_priceOf : GoodIn wsX12_mix wsX12_priceOf := goodIn_h _ [11, 1, 7, 0, 0, 0, 0, 0, 0, 0, 0, 0, 0, 0, 0, 0, 0, 0, 0, 0, 0, 0, 0, 0, 0, 0, 0, 0, 0, 0, 0, 0, 0, 0, 0, 0, 0, 0, 0, 3, 0, 0, 0, 0, 0, 0, 0, 0, 0, 0, 0, 0, 0, 0, 0, 0, 0, 0, 0, 0, 0, 0, 0, 0, 0, 0, 0, 0, 0, 0, 0, 0, 0, 0, 0, 0, 0, 0, 0, 0, 0, 0, 0, 0, 0, 0, 0, 0, 0, 0, 0, 0, 0, 0, 0, 0, 0, 0, 0, 0, 0, 0, 0, 0, 0, 0, 0, 0, 0, 0, 0, 0] [39, 40, 27, 28, 29, 0, 30, 1, 31, 32, 33, 34, 35, 36, 37, 38, 2, 3, 4, 5, 6, 7, 8, 9, 10, 11, 12, 13, 14, 15, 16, 17, 18, 19, 20, 21, 22, 23, 24, 25, 26, 41, 42, 43, 44, 45, 46, 47, 48, 49, 50, 51, 52, 53, 54, 55, 56, 57, 58, 59, 60, 61, 62, 63, 64, 65, 66, 67, 68, 69, 70, 71, 72, 73, 74, 75, 76, 77, 78, 79, 80, 81, 82, 83, 84, 85, 86, 87, 88, 89, 90, 91, 92, 93, 94, 95, 96, 97, 98, 99, 100, 101, 102, 103, 104, 105, 106, 107, 108, 109, 110, 111] (by decide +kernel) (by decide +kernel)
set_option maxRecDepth 20000 in
theorem gX12_mix_X12_priceOf : GoodIn wsX12_mix (wsV RX12 375 RX12 yX12_priceOf wsX12_priceOf) := goodIn_app (goodIn_of _ (by decide +kernel)) ggX12_mix_X12_priceOf
theorem dX12_mix_0 : decode cX12_mix 0 = .ok (.aload_n 0, 1) := by decide +kernel
theorem dX12_mix_1 : decode cX12_mix 1 = .ok (.iconst 0, 1) := by decide +kernel
theorem dX12_mix_2 : decode cX12_mix 2 = .ok (.putfield 161, 3) := by decide +kernel
theorem dX12_mix_5 : decode cX12_mix 5 = .ok (.iconst 0, 1) := by decide +kernel
theorem dX12_mix_6 : decode cX12_mix 6 = .ok (.istore 5, 2) := by decide +kernel
theorem dX12_mix_8 : decode cX12_mix 8 = .ok (.iconst 0, 1) := by decide +kernel
theorem dX12_mix_9 : decode cX12_mix 9 = .ok (.istore 6, 2) := by decide +kernel
theorem dX12_mix_11 : decode cX12_mix 11 = .ok (.iload 6, 2) := by decide +kernel
theorem dX12_mix_13 : decode cX12_mix 13 = .ok (.aload_n 0, 1) := by decide +kernel
theorem dX12_mix_14 : decode cX12_mix 14 = .ok (.getfield 290, 3) := by decide +kernel
theorem dX12_mix_17 : decode cX12_mix 17 = .ok (.if_icmp .ge 93, 3) := by decide +kernel
theorem dX12_mix_20 : decode cX12_mix 20 = .ok (.iload 5, 2) := by decide +kernel
theorem dX12_mix_22 : decode cX12_mix 22 = .ok (.bipush 14, 2) := by decide +kernel
theorem dX12_mix_24 : decode cX12_mix 24 = .ok (.if_icmp .ge 86, 3) := by decide +kernel
theorem dX12_mix_27 : decode cX12_mix 27 = .ok (.iload_n 1, 1) := by decide +kernel
theorem dX12_mix_28 : decode cX12_mix 28 = .ok (.ifCond .le 82, 3) := by decide +kernel
theorem dX12_mix_31 : decode cX12_mix 31 = .ok (.aload_n 0, 1) := by decide +kernel
theorem dX12_mix_32 : decode cX12_mix 32 = .ok (.getfield 115, 3) := by decide +kernel
theorem dX12_mix_35 : decode cX12_mix 35 = .ok (.iload 6, 2) := by decide +kernel
theorem dX12_mix_37 : decode cX12_mix 37 = .ok (.baload, 1) := by decide +kernel
theorem dX12_mix_38 : decode cX12_mix 38 = .ok (.ifCond .ne 66, 3) := by decide +kernel
theorem dX12_mix_41 : decode cX12_mix 41 = .ok (.aload_n 0, 1) := by decide +kernel
theorem dX12_mix_42 : decode cX12_mix 42 = .ok (.iload 6, 2) := by decide +kernel
theorem dX12_mix_44 : decode cX12_mix 44 = .ok (.iconst 0, 1) := by decide +kernel
theorem dX12_mix_45 : decode cX12_mix 45 = .ok (.invokevirtual 365, 3) := by decide +kernel
theorem dX12_mix_48 : decode cX12_mix 48 = .ok (.iload_n 2, 1) := by decide +kernel
theorem dX12_mix_49 : decode cX12_mix 49 = .ok (.if_icmp .lt 55, 3) := by decide +kernel
theorem dX12_mix_52 : decode cX12_mix 52 = .ok (.aload_n 0, 1) := by decide +kernel
theorem dX12_mix_53 : decode cX12_mix 53 = .ok (.iload 6, 2) := by decide +kernel
theorem dX12_mix_55 : decode cX12_mix 55 = .ok (.iconst 1, 1) := by decide +kernel
theorem dX12_mix_56 : decode cX12_mix 56 = .ok (.invokevirtual 365, 3) := by decide +kernel
theorem dX12_mix_59 : decode cX12_mix 59 = .ok (.iload_n 3, 1) := by decide +kernel
theorem dX12_mix_60 : decode cX12_mix 60 = .ok (.if_icmp .le 6, 3) := by decide +kernel
theorem dX12_mix_63 : decode cX12_mix 63 = .ok (.goto 41, 3) := by decide +kernel
theorem dX12_mix_66 : decode cX12_mix 66 = .ok (.aload_n 0, 1) := by decide +kernel
theorem dX12_mix_67 : decode cX12_mix 67 = .ok (.getfield 140, 3) := by decide +kernel
theorem dX12_mix_70 : decode cX12_mix 70 = .ok (.iload 5, 2) := by decide +kernel
theorem dX12_mix_72 : decode cX12_mix 72 = .ok (.iload 6, 2) := by decide +kernel
theorem dX12_mix_74 : decode cX12_mix 74 = .ok (.iastore, 1) := by decide +kernel
theorem dX12_mix_75 : decode cX12_mix 75 = .ok (.aload_n 0, 1) := by decide +kernel
theorem dX12_mix_76 : decode cX12_mix 76 = .ok (.getfield 143, 3) := by decide +kernel
theorem dX12_mix_79 : decode cX12_mix 79 = .ok (.iload 5, 2) := by decide +kernel
theorem dX12_mix_81 : decode cX12_mix 81 = .ok (.aload_n 0, 1) := by decide +kernel
theorem dX12_mix_82 : decode cX12_mix 82 = .ok (.iload 6, 2) := by decide +kernel
theorem dX12_mix_84 : decode cX12_mix 84 = .ok (.invokevirtual 356, 3) := by decide +kernel
theorem dX12_mix_87 : decode cX12_mix 87 = .ok (.iastore, 1) := by decide +kernel
theorem dX12_mix_88 : decode cX12_mix 88 = .ok (.aload_n 0, 1) := by decide +kernel
theorem dX12_mix_89 : decode cX12_mix 89 = .ok (.getfield 146, 3) := by decide +kernel
theorem dX12_mix_92 : decode cX12_mix 92 = .ok (.iload 5, 2) := by decide +kernel
theorem dX12_mix_94 : decode cX12_mix 94 = .ok (.aload_n 0, 1) := by decide +kernel
theorem dX12_mix_95 : decode cX12_mix 95 = .ok (.iload 6, 2) := by decide +kernel
theorem dX12_mix_97 : decode cX12_mix 97 = .ok (.invokevirtual 375, 3) := by decide +kernel
theorem dX12_mix_100 : decode cX12_mix 100 = .ok (.iastore, 1) := by decide +kernel
theorem dX12_mix_101 : decode cX12_mix 101 = .ok (.iinc 5 1, 3) := by decide +kernel
theorem dX12_mix_104 : decode cX12_mix 104 = .ok (.iinc 6 1, 3) := by decide +kernel
theorem dX12_mix_107 : decode cX12_mix 107 = .ok (.goto (-96), 3) := by decide +kernel
theorem dX12_mix_110 : decode cX12_mix 110 = .ok (.iconst 0, 1) := by decide +kernel
theorem dX12_mix_111 : decode cX12_mix 111 = .ok (.istore 6, 2) := by decide +kernel
theorem dX12_mix_113 : decode cX12_mix 113 = .ok (.iconst (-1), 1) := by decide +kernel
theorem dX12_mix_114 : decode cX12_mix 114 = .ok (.istore 7, 2) := by decide +kernel
theorem dX12_mix_116 : decode cX12_mix 116 = .ok (.iconst 1, 1) := by decide +kernel
theorem dX12_mix_117 : decode cX12_mix 117 = .ok (.istore 8, 2) := by decide +kernel
theorem dX12_mix_119 : decode cX12_mix 119 = .ok (.iload 8, 2) := by decide +kernel
theorem dX12_mix_121 : decode cX12_mix 121 = .ok (.iconst 1, 1) := by decide +kernel
theorem dX12_mix_122 : decode cX12_mix 122 = .ok (.iload 5, 2) := by decide +kernel
theorem dX12_mix_124 : decode cX12_mix 124 = .ok (.ishl, 1) := by decide +kernel
theorem dX12_mix_125 : decode cX12_mix 125 = .ok (.if_icmp .ge 139, 3) := by decide +kernel
theorem dX12_mix_128 : decode cX12_mix 128 = .ok (.iconst 0, 1) := by decide +kernel
theorem dX12_mix_129 : decode cX12_mix 129 = .ok (.istore 9, 2) := by decide +kernel
theorem dX12_mix_131 : decode cX12_mix 131 = .ok (.iconst 0, 1) := by decide +kernel
theorem dX12_mix_132 : decode cX12_mix 132 = .ok (.istore 10, 2) := by decide +kernel
theorem dX12_mix_134 : decode cX12_mix 134 = .ok (.iconst 0, 1) := by decide +kernel
theorem dX12_mix_135 : decode cX12_mix 135 = .ok (.istore 11, 2) := by decide +kernel
theorem dX12_mix_137 : decode cX12_mix 137 = .ok (.iload 11, 2) := by decide +kernel
theorem dX12_mix_139 : decode cX12_mix 139 = .ok (.iload 5, 2) := by decide +kernel
theorem dX12_mix_141 : decode cX12_mix 141 = .ok (.if_icmp .ge 46, 3) := by decide +kernel
theorem dX12_mix_144 : decode cX12_mix 144 = .ok (.iload 8, 2) := by decide +kernel
theorem dX12_mix_146 : decode cX12_mix 146 = .ok (.iload 11, 2) := by decide +kernel
theorem dX12_mix_148 : decode cX12_mix 148 = .ok (.ishr, 1) := by decide +kernel
theorem dX12_mix_149 : decode cX12_mix 149 = .ok (.iconst 1, 1) := by decide +kernel
theorem dX12_mix_150 : decode cX12_mix 150 = .ok (.iand, 1) := by decide +kernel
theorem dX12_mix_151 : decode cX12_mix 151 = .ok (.ifCond .ne 6, 3) := by decide +kernel
theorem dX12_mix_154 : decode cX12_mix 154 = .ok (.goto 27, 3) := by decide +kernel
theorem dX12_mix_157 : decode cX12_mix 157 = .ok (.iload 9, 2) := by decide +kernel
theorem dX12_mix_159 : decode cX12_mix 159 = .ok (.aload_n 0, 1) := by decide +kernel
theorem dX12_mix_160 : decode cX12_mix 160 = .ok (.getfield 143, 3) := by decide +kernel
theorem dX12_mix_163 : decode cX12_mix 163 = .ok (.iload 11, 2) := by decide +kernel
theorem dX12_mix_165 : decode cX12_mix 165 = .ok (.iaload, 1) := by decide +kernel
theorem dX12_mix_166 : decode cX12_mix 166 = .ok (.iadd, 1) := by decide +kernel
theorem dX12_mix_167 : decode cX12_mix 167 = .ok (.istore 9, 2) := by decide +kernel
theorem dX12_mix_169 : decode cX12_mix 169 = .ok (.iload 10, 2) := by decide +kernel
theorem dX12_mix_171 : decode cX12_mix 171 = .ok (.aload_n 0, 1) := by decide +kernel
theorem dX12_mix_172 : decode cX12_mix 172 = .ok (.getfield 146, 3) := by decide +kernel
theorem dX12_mix_175 : decode cX12_mix 175 = .ok (.iload 11, 2) := by decide +kernel
theorem dX12_mix_177 : decode cX12_mix 177 = .ok (.iaload, 1) := by decide +kernel
theorem dX12_mix_178 : decode cX12_mix 178 = .ok (.iadd, 1) := by decide +kernel
theorem dX12_mix_179 : decode cX12_mix 179 = .ok (.istore 10, 2) := by decide +kernel
theorem dX12_mix_181 : decode cX12_mix 181 = .ok (.iinc 11 1, 3) := by decide +kernel
theorem dX12_mix_184 : decode cX12_mix 184 = .ok (.goto (-47), 3) := by decide +kernel
theorem dX12_mix_187 : decode cX12_mix 187 = .ok (.iload 9, 2) := by decide +kernel
theorem dX12_mix_189 : decode cX12_mix 189 = .ok (.iload_n 1, 1) := by decide +kernel
theorem dX12_mix_190 : decode cX12_mix 190 = .ok (.if_icmp .ge 6, 3) := by decide +kernel
theorem dX12_mix_193 : decode cX12_mix 193 = .ok (.goto 65, 3) := by decide +kernel
theorem dX12_mix_196 : decode cX12_mix 196 = .ok (.iload 8, 2) := by decide +kernel
theorem dX12_mix_198 : decode cX12_mix 198 = .ok (.iload 6, 2) := by decide +kernel
theorem dX12_mix_200 : decode cX12_mix 200 = .ok (.ixor, 1) := by decide +kernel
theorem dX12_mix_201 : decode cX12_mix 201 = .ok (.istore 11, 2) := by decide +kernel
theorem dX12_mix_203 : decode cX12_mix 203 = .ok (.iload 8, 2) := by decide +kernel
theorem dX12_mix_205 : decode cX12_mix 205 = .ok (.iload 11, 2) := by decide +kernel
theorem dX12_mix_207 : decode cX12_mix 207 = .ok (.iand, 1) := by decide +kernel
theorem dX12_mix_208 : decode cX12_mix 208 = .ok (.iload 11, 2) := by decide +kernel
theorem dX12_mix_210 : decode cX12_mix 210 = .ok (.ineg, 1) := by decide +kernel
theorem dX12_mix_211 : decode cX12_mix 211 = .ok (.iand, 1) := by decide +kernel
theorem dX12_mix_212 : decode cX12_mix 212 = .ok (.ifCond .eq 7, 3) := by decide +kernel
theorem dX12_mix_215 : decode cX12_mix 215 = .ok (.iconst 1, 1) := by decide +kernel
theorem dX12_mix_216 : decode cX12_mix 216 = .ok (.goto 4, 3) := by decide +kernel
theorem dX12_mix_219 : decode cX12_mix 219 = .ok (.iconst 0, 1) := by decide +kernel
theorem dX12_mix_220 : decode cX12_mix 220 = .ok (.istore 12, 2) := by decide +kernel
theorem dX12_mix_222 : decode cX12_mix 222 = .ok (.iload 7, 2) := by decide +kernel
theorem dX12_mix_224 : decode cX12_mix 224 = .ok (.iconst (-1), 1) := by decide +kernel
theorem dX12_mix_225 : decode cX12_mix 225 = .ok (.if_icmp .eq 25, 3) := by decide +kernel
theorem dX12_mix_228 : decode cX12_mix 228 = .ok (.iload 10, 2) := by decide +kernel
theorem dX12_mix_230 : decode cX12_mix 230 = .ok (.iload 7, 2) := by decide +kernel
theorem dX12_mix_232 : decode cX12_mix 232 = .ok (.if_icmp .gt 26, 3) := by decide +kernel
theorem dX12_mix_235 : decode cX12_mix 235 = .ok (.iload 10, 2) := by decide +kernel
theorem dX12_mix_237 : decode cX12_mix 237 = .ok (.iload 7, 2) := by decide +kernel
theorem dX12_mix_239 : decode cX12_mix 239 = .ok (.if_icmp .ne 11, 3) := by decide +kernel
theorem dX12_mix_242 : decode cX12_mix 242 = .ok (.iload 12, 2) := by decide +kernel
theorem dX12_mix_244 : decode cX12_mix 244 = .ok (.ifCond .ne 6, 3) := by decide +kernel
theorem dX12_mix_247 : decode cX12_mix 247 = .ok (.goto 11, 3) := by decide +kernel
theorem dX12_mix_250 : decode cX12_mix 250 = .ok (.iload 8, 2) := by decide +kernel
theorem dX12_mix_252 : decode cX12_mix 252 = .ok (.istore 6, 2) := by decide +kernel
theorem dX12_mix_254 : decode cX12_mix 254 = .ok (.iload 10, 2) := by decide +kernel
theorem dX12_mix_256 : decode cX12_mix 256 = .ok (.istore 7, 2) := by decide +kernel
theorem dX12_mix_258 : decode cX12_mix 258 = .ok (.iinc 8 1, 3) := by decide +kernel
theorem dX12_mix_261 : decode cX12_mix 261 = .ok (.goto (-142), 3) := by decide +kernel
theorem dX12_mix_264 : decode cX12_mix 264 = .ok (.iload 7, 2) := by decide +kernel
theorem dX12_mix_266 : decode cX12_mix 266 = .ok (.iconst (-1), 1) := by decide +kernel
theorem dX12_mix_267 : decode cX12_mix 267 = .ok (.if_icmp .ne 5, 3) := by decide +kernel
theorem dX12_mix_270 : decode cX12_mix 270 = .ok (.iconst (-1), 1) := by decide +kernel
theorem dX12_mix_271 : decode cX12_mix 271 = .ok (.ireturn, 1) := by decide +kernel
theorem dX12_mix_272 : decode cX12_mix 272 = .ok (.iconst 0, 1) := by decide +kernel
theorem dX12_mix_273 : decode cX12_mix 273 = .ok (.istore 8, 2) := by decide +kernel
theorem dX12_mix_275 : decode cX12_mix 275 = .ok (.iload 8, 2) := by decide +kernel
theorem dX12_mix_277 : decode cX12_mix 277 = .ok (.bipush 40, 2) := by decide +kernel
theorem dX12_mix_279 : decode cX12_mix 279 = .ok (.if_icmp .ge 17, 3) := by decide +kernel
theorem dX12_mix_282 : decode cX12_mix 282 = .ok (.aload_n 0, 1) := by decide +kernel
theorem dX12_mix_283 : decode cX12_mix 283 = .ok (.getfield 149, 3) := by decide +kernel
theorem dX12_mix_286 : decode cX12_mix 286 = .ok (.iload 8, 2) := by decide +kernel
theorem dX12_mix_288 : decode cX12_mix 288 = .ok (.iconst 0, 1) := by decide +kernel
theorem dX12_mix_289 : decode cX12_mix 289 = .ok (.bastore, 1) := by decide +kernel
theorem dX12_mix_290 : decode cX12_mix 290 = .ok (.iinc 8 1, 3) := by decide +kernel
theorem dX12_mix_293 : decode cX12_mix 293 = .ok (.goto (-18), 3) := by decide +kernel
theorem dX12_mix_296 : decode cX12_mix 296 = .ok (.iconst 0, 1) := by decide +kernel
theorem dX12_mix_297 : decode cX12_mix 297 = .ok (.istore 8, 2) := by decide +kernel
theorem dX12_mix_299 : decode cX12_mix 299 = .ok (.iload 8, 2) := by decide +kernel
theorem dX12_mix_301 : decode cX12_mix 301 = .ok (.iload 5, 2) := by decide +kernel
theorem dX12_mix_303 : decode cX12_mix 303 = .ok (.if_icmp .ge 53, 3) := by decide +kernel
theorem dX12_mix_306 : decode cX12_mix 306 = .ok (.iload 6, 2) := by decide +kernel
theorem dX12_mix_308 : decode cX12_mix 308 = .ok (.iload 8, 2) := by decide +kernel
theorem dX12_mix_310 : decode cX12_mix 310 = .ok (.ishr, 1) := by decide +kernel
theorem dX12_mix_311 : decode cX12_mix 311 = .ok (.iconst 1, 1) := by decide +kernel
theorem dX12_mix_312 : decode cX12_mix 312 = .ok (.iand, 1) := by decide +kernel
theorem dX12_mix_313 : decode cX12_mix 313 = .ok (.ifCond .ne 6, 3) := by decide +kernel
theorem dX12_mix_316 : decode cX12_mix 316 = .ok (.goto 34, 3) := by decide +kernel
theorem dX12_mix_319 : decode cX12_mix 319 = .ok (.aload_n 0, 1) := by decide +kernel
theorem dX12_mix_320 : decode cX12_mix 320 = .ok (.getfield 149, 3) := by decide +kernel
theorem dX12_mix_323 : decode cX12_mix 323 = .ok (.aload_n 0, 1) := by decide +kernel
theorem dX12_mix_324 : decode cX12_mix 324 = .ok (.getfield 140, 3) := by decide +kernel
theorem dX12_mix_327 : decode cX12_mix 327 = .ok (.iload 8, 2) := by decide +kernel
theorem dX12_mix_329 : decode cX12_mix 329 = .ok (.iaload, 1) := by decide +kernel
theorem dX12_mix_330 : decode cX12_mix 330 = .ok (.iconst 1, 1) := by decide +kernel
theorem dX12_mix_331 : decode cX12_mix 331 = .ok (.bastore, 1) := by decide +kernel
theorem dX12_mix_332 : decode cX12_mix 332 = .ok (.iload 4, 2) := by decide +kernel
theorem dX12_mix_334 : decode cX12_mix 334 = .ok (.ifCond .eq 16, 3) := by decide +kernel
theorem dX12_mix_337 : decode cX12_mix 337 = .ok (.aload_n 0, 1) := by decide +kernel
theorem dX12_mix_338 : decode cX12_mix 338 = .ok (.getfield 115, 3) := by decide +kernel
theorem dX12_mix_341 : decode cX12_mix 341 = .ok (.aload_n 0, 1) := by decide +kernel
theorem dX12_mix_342 : decode cX12_mix 342 = .ok (.getfield 140, 3) := by decide +kernel
theorem dX12_mix_345 : decode cX12_mix 345 = .ok (.iload 8, 2) := by decide +kernel
theorem dX12_mix_347 : decode cX12_mix 347 = .ok (.iaload, 1) := by decide +kernel
theorem dX12_mix_348 : decode cX12_mix 348 = .ok (.iconst 1, 1) := by decide +kernel
theorem dX12_mix_349 : decode cX12_mix 349 = .ok (.bastore, 1) := by decide +kernel
theorem dX12_mix_350 : decode cX12_mix 350 = .ok (.iinc 8 1, 3) := by decide +kernel
theorem dX12_mix_353 : decode cX12_mix 353 = .ok (.goto (-54), 3) := by decide +kernel
theorem dX12_mix_356 : decode cX12_mix 356 = .ok (.iload 7, 2) := by decide +kernel
theorem dX12_mix_358 : decode cX12_mix 358 = .ok (.ireturn, 1) := by decide +kernel
theorem inn_X12_mix_12 : ∀ w ∈ u_ws RX12 TX12 66, w ∈ wsX12_mix := fun w h => List.mem_cons_of_mem _ (List.mem_append_right _ h)
set_option maxHeartbeats 4000000 in
set_option maxRecDepth 100000 in
theorem k_X12_mix (l : Launch) (G : va_G) (cy : Nat → ClassId) (κ : Nat → Nat) (S : PS) (sz : Nat) (x : Nat) (a1 : Int32) (a1_z : Int) (a2 : Int32) (a2_z : Int) (a3 : Int32) (a3_z : Int) (a4 : Int32) (a4_z : Int) (hG : GX S) (ha_x : At S x 12) (hz_a1 : a1.toInt = a1_z) (hz_a2 : a2.toInt = a2_z) (hz_a3 : a3.toInt = a3_z) (hz_a4 : a4.toInt = a4_z) (hp_0 : MI S x) : Ci l yX12_mix wsX12_mix ({ frames := 8, cells := 0, slots := 0, locals := 384 }) G cy κ S sz [.ref x, .int (a1), .int (a2), .int (a3), .int (a4)] (fun (r : Int32) (S9 : PS) => Ok Mmi S S9 ∧ (True)) := by
  refine ent_m (cc := cX12_mix) (maxL := 13) (ret := (some .int)) (by decide) rfl (Nat.le_of_ble_eq_true rfl) ?_
  intro p e s m below meth c ls X hr hlocks hin hw hl hsz
  subst hsz
  have X : Cx p c cX12_mix 13 s [.ref x, .int (a1), .int (a2), .int (a3), .int (a4)].toArray wsX12_mix RX12 m G cy κ (AS S s.heap.size) := X
  have hl : lv_has ls 13 [(0, .ref x), (1, .int (a1)), (2, .int (a2)), (3, .int (a3)), (4, .int (a4))] := hl
  have rg_a1 : (-2147483648) ≤ a1_z ∧ a1_z ≤ 2147483647 := by rw [← hz_a1]; exact ⟨z_lo _, z_hi _⟩
  have rg_a2 : (-2147483648) ≤ a2_z ∧ a2_z ≤ 2147483647 := by rw [← hz_a2]; exact ⟨z_lo _, z_hi _⟩
  have rg_a3 : (-2147483648) ≤ a3_z ∧ a3_z ≤ 2147483647 := by rw [← hz_a3]; exact ⟨z_lo _, z_hi _⟩
  have rg_a4 : (-2147483648) ≤ a4_z ∧ a4_z ≤ 2147483647 := by rw [← hz_a4]; exact ⟨z_lo _, z_hi _⟩
  have hO : Ok Mmi S S := Ok.rf hG
  generalize hQQ : MQ below _ _ _ _ _ _ = QQ
  replace hQQ := hQQ.symm
  refine lv_aload_n X.1 X.2.1 dX12_mix_0 rfl (lv_at hl 0 rfl) ?_
  refine lv_iconst (v := 0) X.1 X.2.1 dX12_mix_1 (by decide) ?_
  refine r_putI (v := 0) X hw ha_x rfl 0 1200 tyX12 (by decide) rfl inn_X12_mix_12 tyX12_ok nmX12 (by decide) (X.2.2.2.1 (.fieldLink RX12 161 "SilkMillModel" "thrown" "I") (by decide +kernel)) rfl (Or.inl rfl) rfl rfl (Nat.le_of_ble_eq_true rfl) (st_1200 _ _) dX12_mix_2 (fun H locs hw => ?_)
  obtain ⟨S_1, eS_1⟩ : ∃ T, T = sI S 1200 x (0) := ⟨_, rfl⟩
  rw [← eS_1] at hw
  have hO_2 : Ok Mmi S S_1 := hO.sI eS_1 (by decide +kernel) (uI_12_1200 hO.1 ha_x)
  have h_3 : pI S_1 1200 x = 0 := tI_sIs eS_1
  have L_4 : ∀ (n : Nat) (T_9 : PS) (H : Heap) (locs : List Loc) (ls : Array Slot) (i5_5 : Int32) (i5_5_z : Int) (i6_6 : Int32) (i6_6_z : Int) (i7_7 : Int32) (i7_7_z : Int) (i8_8 : Int32) (i8_8_z : Int), ((14 - i8_8_z).toNat = n) → (Wd G cy (AS S s.heap.size) s.heap T_9 H locs) → (i5_5.toInt = i5_5_z) → (0 ≤ i5_5_z ∧ i5_5_z ≤ 14) → (i6_6.toInt = i6_6_z) → (i7_7.toInt = i7_7_z) → (i8_8.toInt = i8_8_z) → (0 ≤ i8_8_z ∧ i8_8_z ≤ 14) → (At T_9 x 12) → (Ok Mmi S T_9) → (lv_has ls 13 [(5, .int (i5_5)), (6, .int (i6_6)), (7, .int (i7_7)), (8, .int (i8_8)), (0, .ref x), (1, .int (a1)), (2, .int (a2)), (3, .int (a3)), (4, .int (a4))]) → W p l e ({ frames := 8, cells := 0, slots := 0, locals := 384 }) s m [.ref x, .int (a1), .int (a2), .int (a3), .int (a4)].toArray below meth c H locs 0 0 QQ (F0 m 299 ls []) := by
    intro n
    induction n using Nat.strongRecOn with
    | ind n ih_L_4 =>
    intro T_9 H locs ls i5_5 i5_5_z i6_6 i6_6_z i7_7 i7_7_z i8_8 i8_8_z hn hw hz_i5_5 hr_i5_5 hz_i6_6 hz_i7_7 hz_i8_8 hr_i8_8 ha_x_L_10 hO_T_9 hl
    have rg_11 : (-2147483648) ≤ i5_5_z ∧ i5_5_z ≤ 2147483647 := by rw [← hz_i5_5]; exact ⟨z_lo _, z_hi _⟩
    have rg_12 : (-2147483648) ≤ i6_6_z ∧ i6_6_z ≤ 2147483647 := by rw [← hz_i6_6]; exact ⟨z_lo _, z_hi _⟩
    have rg_13 : (-2147483648) ≤ i7_7_z ∧ i7_7_z ≤ 2147483647 := by rw [← hz_i7_7]; exact ⟨z_lo _, z_hi _⟩
    have rg_14 : (-2147483648) ≤ i8_8_z ∧ i8_8_z ≤ 2147483647 := by rw [← hz_i8_8]; exact ⟨z_lo _, z_hi _⟩
    refine lv_iload X.1 X.2.1 dX12_mix_299 (lv_at hl 3 rfl) ?_
    refine lv_iload X.1 X.2.1 dX12_mix_301 (lv_at hl 0 rfl) ?_
    refine lv_icmp_ge (tgt := 356) X.1 X.2.1 dX12_mix_303 (by decide) (fun c_15 => ?_) (fun c_15 => ?_)
    · have z_b_16 := trivial
      have k_17 : i8_8_z ≥ i5_5_z := z_le hz_i5_5 hz_i8_8 c_15
      refine lv_iload X.1 X.2.1 dX12_mix_356 (lv_at hl 2 rfl) ?_
      rw [hQQ]
      exact ret_i X hw hr hlocks (Nat.le_of_ble_eq_true rfl) (Nat.le_of_ble_eq_true rfl) ⟨hO_T_9, trivial⟩ dX12_mix_358
    · have z_b_18 := trivial
      have k_19 : i8_8_z < i5_5_z := z_nle hz_i5_5 hz_i8_8 c_15
      refine lv_iload X.1 X.2.1 dX12_mix_306 (lv_at hl 1 rfl) ?_
      refine lv_iload X.1 X.2.1 dX12_mix_308 (lv_at hl 3 rfl) ?_
      refine lv_ishr X.1 X.2.1 dX12_mix_310 ?_
      refine lv_topi (fun v_20 ev_20 => ?_)
      have rg_21 := And.intro (z_lo v_20) (z_hi v_20)
      refine lv_iconst (v := 1) X.1 X.2.1 dX12_mix_311 (by decide) ?_
      refine lv_iand X.1 X.2.1 dX12_mix_312 ?_
      refine lv_topi (fun v_22 ev_22 => ?_)
      have z_23 : 0 ≤ v_22.toInt ∧ v_22.toInt ≤ 1 := z_and1 ev_22
      refine lv_if_ne (tgt := 319) X.1 X.2.1 dX12_mix_313 (by decide) (fun c_24 => ?_) (fun c_24 => ?_)
      · have z_b_25 := trivial
        have k_26 : v_22.toInt ≠ 0 := z_ne rfl ti_0 c_24
        refine lv_aload_n X.1 X.2.1 dX12_mix_319 rfl (lv_at hl 4 rfl) ?_
        obtain ⟨q_27, h_28, h_29, h_30⟩ := gQ_12_1261 hO_T_9.1 ha_x_L_10
        refine r_getR (g := 1261) X hw ha_x_L_10 rfl 61 h_28 (by decide) rfl inn_X12_mix_12 (by decide) (X.2.2.2.1 (.fieldLink RX12 149 "SilkMillModel" "isMixed" "[Z") (by decide +kernel)) rfl (gv_1261 _ _) dX12_mix_320 ?_
        refine lv_aload_n X.1 X.2.1 dX12_mix_323 rfl (lv_at hl 4 rfl) ?_
        obtain ⟨q_31, h_32, h_33, h_34⟩ := gQ_12_1258 hO_T_9.1 ha_x_L_10
        refine r_getR (g := 1258) X hw ha_x_L_10 rfl 58 h_32 (by decide) rfl inn_X12_mix_12 (by decide) (X.2.2.2.1 (.fieldLink RX12 140 "SilkMillModel" "asked" "[I") (by decide +kernel)) rfl (gv_1258 _ _) dX12_mix_324 ?_
        refine lv_iload X.1 X.2.1 dX12_mix_327 (lv_at hl 3 rfl) ?_
        refine r_iald X hw h_33 rfl (by rw [h_34]; exact z_ix hz_i8_8 (by omega) (by omega)) dX12_mix_329 ?_
        refine lv_topi (fun v_35 ev_35 => ?_)
        have z_36 := gE_1374 hO_T_9.1 h_33 (Int32.toNatClampNeg (i8_8)); rw [← ev_35] at z_36
        have ev_35 := ev_35.symm
        refine lv_iconst (v := 1) X.1 X.2.1 dX12_mix_330 (by decide) ?_
        refine r_zast X hw h_29 rfl (by rw [h_30]; exact z_ix rfl (by omega) (by omega)) dX12_mix_331 (fun H locs hw => ?_)
        obtain ⟨S_37, eS_37⟩ : ∃ T, T = sA T_9 q_27 (upd (pA T_9 q_27) (Int32.toNatClampNeg (v_35)) (vp_nar .boolean (1))) := ⟨_, rfl⟩
        rw [← eS_37] at hw
        have hO_38 : Ok Mmi S S_37 := hO_T_9.sA eS_37 h_29 (by decide +kernel) (uA_1435 hO_T_9.1 h_29)
        refine lv_iload X.1 X.2.1 dX12_mix_332 (lv_at hl 8 rfl) ?_
        refine lv_if_eq (tgt := 350) X.1 X.2.1 dX12_mix_334 (by decide) (fun c_39 => ?_) (fun c_39 => ?_)
        · have z_b_40 := trivial
          have k_41 : a4_z = 0 := z_eq hz_a4 ti_0 c_39
          obtain ⟨x_42, ex_42⟩ : ∃ y : Int32, y = i8_8 + 1 := ⟨_, rfl⟩
          have z_43 : x_42.toInt = i8_8_z + 1 := z_add ex_42 hz_i8_8 ti_1 (by omega) (by omega)
          refine lv_iinc (v := x_42) (lv' := [(8, .int (x_42)), (5, .int (i5_5)), (6, .int (i6_6)), (7, .int (i7_7)), (0, .ref x), (1, .int (a1)), (2, .int (a2)), (3, .int (a3)), (4, .int (a4))]) X.1 X.2.1 dX12_mix_350 hl (k := 3) rfl (by rw [ex_42]; rfl) (by decide) rfl (fun ls hl => ?_)
          refine lv_goto (tgt := 299) X.1 X.2.1 dX12_mix_353 (by decide) ?_
          have t_44 : At S_37 x 12 := tAt_sA eS_37 ha_x_L_10
          exact ih_L_4 _ (by omega) _ _ _ _ (i5_5) (i5_5_z) (i6_6) (i6_6_z) (i7_7) (i7_7_z) (x_42) (x_42.toInt) rfl hw hz_i5_5 (by omega) hz_i6_6 hz_i7_7 rfl (by omega) t_44 hO_38 (lv_sub hl [1, 2, 3, 0, 4, 5, 6, 7, 8] rfl)
        · have z_b_45 := trivial
          have k_46 : a4_z ≠ 0 := z_ne hz_a4 ti_0 c_39
          refine lv_aload_n X.1 X.2.1 dX12_mix_337 rfl (lv_at hl 4 rfl) ?_
          have t_47 : At S_37 x 12 := tAt_sA eS_37 ha_x_L_10
          obtain ⟨q_48, h_49, h_50, h_51⟩ := gQ_12_1244 hO_38.1 t_47
          refine r_getR (g := 1244) X hw t_47 rfl 44 h_49 (by decide) rfl inn_X12_mix_12 (by decide) (X.2.2.2.1 (.fieldLink RX12 115 "SilkMillModel" "isSold" "[Z") (by decide +kernel)) rfl (gv_1244 _ _) dX12_mix_338 ?_
          refine lv_aload_n X.1 X.2.1 dX12_mix_341 rfl (lv_at hl 4 rfl) ?_
          have t_52 : pR S_37 1258 x = some q_31 := tR_sA eS_37 h_32
          refine r_getR (g := 1258) X hw t_47 rfl 58 t_52 (by decide) rfl inn_X12_mix_12 (by decide) (X.2.2.2.1 (.fieldLink RX12 140 "SilkMillModel" "asked" "[I") (by decide +kernel)) rfl (gv_1258 _ _) dX12_mix_342 ?_
          refine lv_iload X.1 X.2.1 dX12_mix_345 (lv_at hl 3 rfl) ?_
          have t_53 : At S_37 q_31 1374 := tAt_sA eS_37 h_33
          have t_54 : pN S_37 q_31 = 14 := tN_sA eS_37 h_34
          clear h_34
          refine r_iald X hw t_53 rfl (by rw [t_54]; exact z_ix hz_i8_8 (by omega) (by omega)) dX12_mix_347 ?_
          have t_55 : pA S_37 q_31 (Int32.toNatClampNeg (i8_8)) = v_35 := tA_sA eS_37 (At_ne h_33 h_29 (by decide)) ev_35
          rw [t_55]
          refine lv_iconst (v := 1) X.1 X.2.1 dX12_mix_348 (by decide) ?_
          refine r_zast X hw h_50 rfl (by rw [h_51]; exact z_ix rfl (by omega) (by omega)) dX12_mix_349 (fun H locs hw => ?_)
          obtain ⟨S_56, eS_56⟩ : ∃ T, T = sA S_37 q_48 (upd (pA S_37 q_48) (Int32.toNatClampNeg (v_35)) (vp_nar .boolean (1))) := ⟨_, rfl⟩
          rw [← eS_56] at hw
          have hO_57 : Ok Mmi S S_56 := hO_38.sA eS_56 h_50 (by decide +kernel) (uA_1095 hO_38.1 h_50)
          obtain ⟨x_58, ex_58⟩ : ∃ y : Int32, y = i8_8 + 1 := ⟨_, rfl⟩
          have z_59 : x_58.toInt = i8_8_z + 1 := z_add ex_58 hz_i8_8 ti_1 (by omega) (by omega)
          refine lv_iinc (v := x_58) (lv' := [(8, .int (x_58)), (5, .int (i5_5)), (6, .int (i6_6)), (7, .int (i7_7)), (0, .ref x), (1, .int (a1)), (2, .int (a2)), (3, .int (a3)), (4, .int (a4))]) X.1 X.2.1 dX12_mix_350 hl (k := 3) rfl (by rw [ex_58]; rfl) (by decide) rfl (fun ls hl => ?_)
          refine lv_goto (tgt := 299) X.1 X.2.1 dX12_mix_353 (by decide) ?_
          have t_60 : At S_56 x 12 := tAt_sA eS_56 t_47
          exact ih_L_4 _ (by omega) _ _ _ _ (i5_5) (i5_5_z) (i6_6) (i6_6_z) (i7_7) (i7_7_z) (x_58) (x_58.toInt) rfl hw hz_i5_5 (by omega) hz_i6_6 hz_i7_7 rfl (by omega) t_60 hO_57 (lv_sub hl [1, 2, 3, 0, 4, 5, 6, 7, 8] rfl)
      · have z_b_61 := trivial
        have k_62 : v_22.toInt = 0 := z_eq rfl ti_0 c_24
        refine lv_goto (tgt := 350) X.1 X.2.1 dX12_mix_316 (by decide) ?_
        obtain ⟨x_63, ex_63⟩ : ∃ y : Int32, y = i8_8 + 1 := ⟨_, rfl⟩
        have z_64 : x_63.toInt = i8_8_z + 1 := z_add ex_63 hz_i8_8 ti_1 (by omega) (by omega)
        refine lv_iinc (v := x_63) (lv' := [(8, .int (x_63)), (5, .int (i5_5)), (6, .int (i6_6)), (7, .int (i7_7)), (0, .ref x), (1, .int (a1)), (2, .int (a2)), (3, .int (a3)), (4, .int (a4))]) X.1 X.2.1 dX12_mix_350 hl (k := 3) rfl (by rw [ex_63]; rfl) (by decide) rfl (fun ls hl => ?_)
        refine lv_goto (tgt := 299) X.1 X.2.1 dX12_mix_353 (by decide) ?_
        exact ih_L_4 _ (by omega) _ _ _ _ (i5_5) (i5_5_z) (i6_6) (i6_6_z) (i7_7) (i7_7_z) (x_63) (x_63.toInt) rfl hw hz_i5_5 (by omega) hz_i6_6 hz_i7_7 rfl (by omega) ha_x_L_10 hO_T_9 (lv_sub hl [1, 2, 3, 0, 4, 5, 6, 7, 8] rfl)
  have L_65 : ∀ (n : Nat) (T_70 : PS) (H : Heap) (locs : List Loc) (ls : Array Slot) (i5_66 : Int32) (i5_66_z : Int) (i6_67 : Int32) (i6_67_z : Int) (i7_68 : Int32) (i7_68_z : Int) (i8_69 : Int32) (i8_69_z : Int), ((40 - i8_69_z).toNat = n) → (Wd G cy (AS S s.heap.size) s.heap T_70 H locs) → (i5_66.toInt = i5_66_z) → (0 ≤ i5_66_z ∧ i5_66_z ≤ 14) → (i6_67.toInt = i6_67_z) → (i7_68.toInt = i7_68_z) → (i8_69.toInt = i8_69_z) → (0 ≤ i8_69_z ∧ i8_69_z ≤ 40) → (At T_70 x 12) → (Ok Mmi S T_70) → (lv_has ls 13 [(5, .int (i5_66)), (6, .int (i6_67)), (7, .int (i7_68)), (8, .int (i8_69)), (0, .ref x), (1, .int (a1)), (2, .int (a2)), (3, .int (a3)), (4, .int (a4))]) → W p l e ({ frames := 8, cells := 0, slots := 0, locals := 384 }) s m [.ref x, .int (a1), .int (a2), .int (a3), .int (a4)].toArray below meth c H locs 0 0 QQ (F0 m 275 ls []) := by
    intro n
    induction n using Nat.strongRecOn with
    | ind n ih_L_65 =>
    intro T_70 H locs ls i5_66 i5_66_z i6_67 i6_67_z i7_68 i7_68_z i8_69 i8_69_z hn hw hz_i5_66 hr_i5_66 hz_i6_67 hz_i7_68 hz_i8_69 hr_i8_69 ha_x_L_71 hO_T_70 hl
    have rg_72 : (-2147483648) ≤ i5_66_z ∧ i5_66_z ≤ 2147483647 := by rw [← hz_i5_66]; exact ⟨z_lo _, z_hi _⟩
    have rg_73 : (-2147483648) ≤ i6_67_z ∧ i6_67_z ≤ 2147483647 := by rw [← hz_i6_67]; exact ⟨z_lo _, z_hi _⟩
    have rg_74 : (-2147483648) ≤ i7_68_z ∧ i7_68_z ≤ 2147483647 := by rw [← hz_i7_68]; exact ⟨z_lo _, z_hi _⟩
    have rg_75 : (-2147483648) ≤ i8_69_z ∧ i8_69_z ≤ 2147483647 := by rw [← hz_i8_69]; exact ⟨z_lo _, z_hi _⟩
    refine lv_iload X.1 X.2.1 dX12_mix_275 (lv_at hl 3 rfl) ?_
    refine lv_bipush (v := 40) X.1 X.2.1 dX12_mix_277 (by decide) ?_
    refine lv_icmp_ge (tgt := 296) X.1 X.2.1 dX12_mix_279 (by decide) (fun c_76 => ?_) (fun c_76 => ?_)
    · have z_b_77 := trivial
      have k_78 : i8_69_z ≥ 40 := z_le ti_40 hz_i8_69 c_76
      refine lv_iconst (v := 0) X.1 X.2.1 dX12_mix_296 (by decide) ?_
      refine lv_istore (lv' := [(8, .int 0), (5, .int (i5_66)), (6, .int (i6_67)), (7, .int (i7_68)), (0, .ref x), (1, .int (a1)), (2, .int (a2)), (3, .int (a3)), (4, .int (a4))]) X.1 X.2.1 dX12_mix_297 hl (by decide) rfl (fun ls hl => ?_)
      exact L_4 _ _ _ _ _ (i5_66) (i5_66_z) (i6_67) (i6_67_z) (i7_68) (i7_68_z) (0) (0) rfl hw hz_i5_66 (by omega) hz_i6_67 hz_i7_68 ti_0 (by omega) ha_x_L_71 hO_T_70 (lv_sub hl [1, 2, 3, 0, 4, 5, 6, 7, 8] rfl)
    · have z_b_79 := trivial
      have k_80 : i8_69_z < 40 := z_nle ti_40 hz_i8_69 c_76
      refine lv_aload_n X.1 X.2.1 dX12_mix_282 rfl (lv_at hl 4 rfl) ?_
      obtain ⟨q_81, h_82, h_83, h_84⟩ := gQ_12_1261 hO_T_70.1 ha_x_L_71
      refine r_getR (g := 1261) X hw ha_x_L_71 rfl 61 h_82 (by decide) rfl inn_X12_mix_12 (by decide) (X.2.2.2.1 (.fieldLink RX12 149 "SilkMillModel" "isMixed" "[Z") (by decide +kernel)) rfl (gv_1261 _ _) dX12_mix_283 ?_
      refine lv_iload X.1 X.2.1 dX12_mix_286 (lv_at hl 3 rfl) ?_
      refine lv_iconst (v := 0) X.1 X.2.1 dX12_mix_288 (by decide) ?_
      refine r_zast X hw h_83 rfl (by rw [h_84]; exact z_ix hz_i8_69 (by omega) (by omega)) dX12_mix_289 (fun H locs hw => ?_)
      obtain ⟨S_85, eS_85⟩ : ∃ T, T = sA T_70 q_81 (upd (pA T_70 q_81) (Int32.toNatClampNeg (i8_69)) (vp_nar .boolean (0))) := ⟨_, rfl⟩
      rw [← eS_85] at hw
      have hO_86 : Ok Mmi S S_85 := hO_T_70.sA eS_85 h_83 (by decide +kernel) (uA_1435 hO_T_70.1 h_83)
      obtain ⟨x_87, ex_87⟩ : ∃ y : Int32, y = i8_69 + 1 := ⟨_, rfl⟩
      have z_88 : x_87.toInt = i8_69_z + 1 := z_add ex_87 hz_i8_69 ti_1 (by omega) (by omega)
      refine lv_iinc (v := x_87) (lv' := [(8, .int (x_87)), (5, .int (i5_66)), (6, .int (i6_67)), (7, .int (i7_68)), (0, .ref x), (1, .int (a1)), (2, .int (a2)), (3, .int (a3)), (4, .int (a4))]) X.1 X.2.1 dX12_mix_290 hl (k := 3) rfl (by rw [ex_87]; rfl) (by decide) rfl (fun ls hl => ?_)
      refine lv_goto (tgt := 275) X.1 X.2.1 dX12_mix_293 (by decide) ?_
      have t_89 : At S_85 x 12 := tAt_sA eS_85 ha_x_L_71
      exact ih_L_65 _ (by omega) _ _ _ _ (i5_66) (i5_66_z) (i6_67) (i6_67_z) (i7_68) (i7_68_z) (x_87) (x_87.toInt) rfl hw hz_i5_66 (by omega) hz_i6_67 hz_i7_68 rfl (by omega) t_89 hO_86 (lv_sub hl [1, 2, 3, 0, 4, 5, 6, 7, 8] rfl)
  have L_90 : ∀ (n : Nat) (T_95 : PS) (H : Heap) (locs : List Loc) (ls : Array Slot) (i5_91 : Int32) (i5_91_z : Int) (i6_92 : Int32) (i6_92_z : Int) (i7_93 : Int32) (i7_93_z : Int) (i8_94 : Int32) (i8_94_z : Int), ((2147483647 - i8_94_z).toNat = n) → (Wd G cy (AS S s.heap.size) s.heap T_95 H locs) → (i5_91.toInt = i5_91_z) → (0 ≤ i5_91_z ∧ i5_91_z ≤ 14) → (i6_92.toInt = i6_92_z) → (i7_93.toInt = i7_93_z) → (i8_94.toInt = i8_94_z) → (1 ≤ i8_94_z ∧ i8_94_z ≤ 2147483647) → (At T_95 x 12) → (Ok Mmi S T_95) → (lv_has ls 13 [(5, .int (i5_91)), (6, .int (i6_92)), (7, .int (i7_93)), (8, .int (i8_94)), (0, .ref x), (1, .int (a1)), (2, .int (a2)), (3, .int (a3)), (4, .int (a4))]) → W p l e ({ frames := 8, cells := 0, slots := 0, locals := 384 }) s m [.ref x, .int (a1), .int (a2), .int (a3), .int (a4)].toArray below meth c H locs 0 0 QQ (F0 m 119 ls []) := by
    intro n
    induction n using Nat.strongRecOn with
    | ind n ih_L_90 =>
    intro T_95 H locs ls i5_91 i5_91_z i6_92 i6_92_z i7_93 i7_93_z i8_94 i8_94_z hn hw hz_i5_91 hr_i5_91 hz_i6_92 hz_i7_93 hz_i8_94 hr_i8_94 ha_x_L_96 hO_T_95 hl
    have rg_97 : (-2147483648) ≤ i5_91_z ∧ i5_91_z ≤ 2147483647 := by rw [← hz_i5_91]; exact ⟨z_lo _, z_hi _⟩
    have rg_98 : (-2147483648) ≤ i6_92_z ∧ i6_92_z ≤ 2147483647 := by rw [← hz_i6_92]; exact ⟨z_lo _, z_hi _⟩
    have rg_99 : (-2147483648) ≤ i7_93_z ∧ i7_93_z ≤ 2147483647 := by rw [← hz_i7_93]; exact ⟨z_lo _, z_hi _⟩
    have rg_100 : (-2147483648) ≤ i8_94_z ∧ i8_94_z ≤ 2147483647 := by rw [← hz_i8_94]; exact ⟨z_lo _, z_hi _⟩
    refine lv_iload X.1 X.2.1 dX12_mix_119 (lv_at hl 3 rfl) ?_
    refine lv_iconst (v := 1) X.1 X.2.1 dX12_mix_121 (by decide) ?_
    refine lv_iload X.1 X.2.1 dX12_mix_122 (lv_at hl 0 rfl) ?_
    refine lv_ishl X.1 X.2.1 dX12_mix_124 ?_
    refine lv_topi (fun v_101 ev_101 => ?_)
    have rg_102 := And.intro (z_lo v_101) (z_hi v_101)
    refine lv_icmp_ge (tgt := 264) X.1 X.2.1 dX12_mix_125 (by decide) (fun c_103 => ?_) (fun c_103 => ?_)
    · have z_b_104 := trivial
      have k_105 : i8_94_z ≥ v_101.toInt := z_le rfl hz_i8_94 c_103
      refine lv_iload X.1 X.2.1 dX12_mix_264 (lv_at hl 2 rfl) ?_
      refine lv_iconst (v := (-1)) X.1 X.2.1 dX12_mix_266 (by decide) ?_
      refine lv_icmp_ne (tgt := 272) X.1 X.2.1 dX12_mix_267 (by decide) (fun c_106 => ?_) (fun c_106 => ?_)
      · have z_b_107 := trivial
        have k_108 : i7_93_z ≠ (-1) := z_ne hz_i7_93 ti_m1 c_106
        refine lv_iconst (v := 0) X.1 X.2.1 dX12_mix_272 (by decide) ?_
        refine lv_istore (lv' := [(8, .int 0), (5, .int (i5_91)), (6, .int (i6_92)), (7, .int (i7_93)), (0, .ref x), (1, .int (a1)), (2, .int (a2)), (3, .int (a3)), (4, .int (a4))]) X.1 X.2.1 dX12_mix_273 hl (by decide) rfl (fun ls hl => ?_)
        exact L_65 _ _ _ _ _ (i5_91) (i5_91_z) (i6_92) (i6_92_z) (i7_93) (i7_93_z) (0) (0) rfl hw hz_i5_91 (by omega) hz_i6_92 hz_i7_93 ti_0 (by omega) ha_x_L_96 hO_T_95 (lv_sub hl [1, 2, 3, 0, 4, 5, 6, 7, 8] rfl)
      · have z_b_109 := trivial
        have k_110 : i7_93_z = (-1) := z_eq hz_i7_93 ti_m1 c_106
        refine lv_iconst (v := (-1)) X.1 X.2.1 dX12_mix_270 (by decide) ?_
        rw [hQQ]
        exact ret_i X hw hr hlocks (Nat.le_of_ble_eq_true rfl) (Nat.le_of_ble_eq_true rfl) ⟨hO_T_95, trivial⟩ dX12_mix_271
    · have z_b_111 := trivial
      have k_112 : i8_94_z < v_101.toInt := z_nle rfl hz_i8_94 c_103
      refine lv_iconst (v := 0) X.1 X.2.1 dX12_mix_128 (by decide) ?_
      refine lv_istore (lv' := [(9, .int 0), (5, .int (i5_91)), (6, .int (i6_92)), (7, .int (i7_93)), (8, .int (i8_94)), (0, .ref x), (1, .int (a1)), (2, .int (a2)), (3, .int (a3)), (4, .int (a4))]) X.1 X.2.1 dX12_mix_129 hl (by decide) rfl (fun ls hl => ?_)
      refine lv_iconst (v := 0) X.1 X.2.1 dX12_mix_131 (by decide) ?_
      refine lv_istore (lv' := [(10, .int 0), (9, .int 0), (5, .int (i5_91)), (6, .int (i6_92)), (7, .int (i7_93)), (8, .int (i8_94)), (0, .ref x), (1, .int (a1)), (2, .int (a2)), (3, .int (a3)), (4, .int (a4))]) X.1 X.2.1 dX12_mix_132 hl (by decide) rfl (fun ls hl => ?_)
      refine lv_iconst (v := 0) X.1 X.2.1 dX12_mix_134 (by decide) ?_
      refine lv_istore (lv' := [(11, .int 0), (10, .int 0), (9, .int 0), (5, .int (i5_91)), (6, .int (i6_92)), (7, .int (i7_93)), (8, .int (i8_94)), (0, .ref x), (1, .int (a1)), (2, .int (a2)), (3, .int (a3)), (4, .int (a4))]) X.1 X.2.1 dX12_mix_135 hl (by decide) rfl (fun ls hl => ?_)
      have L_113 : ∀ (n : Nat) (H : Heap) (locs : List Loc) (ls : Array Slot) (i9_114 : Int32) (i9_114_z : Int) (i10_115 : Int32) (i10_115_z : Int) (i11_116 : Int32) (i11_116_z : Int), ((14 - i11_116_z).toNat = n) → (Wd G cy (AS S s.heap.size) s.heap T_95 H locs) → (i9_114.toInt = i9_114_z) → (i10_115.toInt = i10_115_z) → (i11_116.toInt = i11_116_z) → (0 ≤ i11_116_z ∧ i11_116_z ≤ 14) → (lv_has ls 13 [(9, .int (i9_114)), (10, .int (i10_115)), (11, .int (i11_116)), (5, .int (i5_91)), (6, .int (i6_92)), (7, .int (i7_93)), (8, .int (i8_94)), (0, .ref x), (1, .int (a1)), (2, .int (a2)), (3, .int (a3)), (4, .int (a4))]) → W p l e ({ frames := 8, cells := 0, slots := 0, locals := 384 }) s m [.ref x, .int (a1), .int (a2), .int (a3), .int (a4)].toArray below meth c H locs 0 0 QQ (F0 m 137 ls []) := by
        intro n
        induction n using Nat.strongRecOn with
        | ind n ih_L_113 =>
        intro H locs ls i9_114 i9_114_z i10_115 i10_115_z i11_116 i11_116_z hn hw hz_i9_114 hz_i10_115 hz_i11_116 hr_i11_116 hl
        have rg_117 : (-2147483648) ≤ i9_114_z ∧ i9_114_z ≤ 2147483647 := by rw [← hz_i9_114]; exact ⟨z_lo _, z_hi _⟩
        have rg_118 : (-2147483648) ≤ i10_115_z ∧ i10_115_z ≤ 2147483647 := by rw [← hz_i10_115]; exact ⟨z_lo _, z_hi _⟩
        have rg_119 : (-2147483648) ≤ i11_116_z ∧ i11_116_z ≤ 2147483647 := by rw [← hz_i11_116]; exact ⟨z_lo _, z_hi _⟩
        refine lv_iload X.1 X.2.1 dX12_mix_137 (lv_at hl 2 rfl) ?_
        refine lv_iload X.1 X.2.1 dX12_mix_139 (lv_at hl 3 rfl) ?_
        refine lv_icmp_ge (tgt := 187) X.1 X.2.1 dX12_mix_141 (by decide) (fun c_120 => ?_) (fun c_120 => ?_)
        · have z_b_121 := trivial
          have k_122 : i11_116_z ≥ i5_91_z := z_le hz_i5_91 hz_i11_116 c_120
          refine lv_iload X.1 X.2.1 dX12_mix_187 (lv_at hl 0 rfl) ?_
          refine lv_iload_n X.1 X.2.1 dX12_mix_189 rfl (lv_at hl 8 rfl) ?_
          refine lv_icmp_ge (tgt := 196) X.1 X.2.1 dX12_mix_190 (by decide) (fun c_123 => ?_) (fun c_123 => ?_)
          · have z_b_124 := trivial
            have k_125 : i9_114_z ≥ a1_z := z_le hz_a1 hz_i9_114 c_123
            refine lv_iload X.1 X.2.1 dX12_mix_196 (lv_at hl 6 rfl) ?_
            refine lv_iload X.1 X.2.1 dX12_mix_198 (lv_at hl 4 rfl) ?_
            refine lv_ixor X.1 X.2.1 dX12_mix_200 ?_
            refine lv_topi (fun v_126 ev_126 => ?_)
            have rg_127 := And.intro (z_lo v_126) (z_hi v_126)
            refine lv_istore (lv' := [(11, .int (v_126)), (9, .int (i9_114)), (10, .int (i10_115)), (5, .int (i5_91)), (6, .int (i6_92)), (7, .int (i7_93)), (8, .int (i8_94)), (0, .ref x), (1, .int (a1)), (2, .int (a2)), (3, .int (a3)), (4, .int (a4))]) X.1 X.2.1 dX12_mix_201 hl (by decide) rfl (fun ls hl => ?_)
            refine lv_iload X.1 X.2.1 dX12_mix_203 (lv_at hl 6 rfl) ?_
            refine lv_iload X.1 X.2.1 dX12_mix_205 (lv_at hl 0 rfl) ?_
            refine lv_iand X.1 X.2.1 dX12_mix_207 ?_
            refine lv_topi (fun v_128 ev_128 => ?_)
            have rg_129 := And.intro (z_lo v_128) (z_hi v_128)
            refine lv_iload X.1 X.2.1 dX12_mix_208 (lv_at hl 0 rfl) ?_
            refine lv_ineg X.1 X.2.1 dX12_mix_210 ?_
            refine lv_topi (fun v_130 ev_130 => ?_)
            have rg_131 := And.intro (z_lo v_130) (z_hi v_130)
            refine lv_iand X.1 X.2.1 dX12_mix_211 ?_
            refine lv_topi (fun v_132 ev_132 => ?_)
            have rg_133 := And.intro (z_lo v_132) (z_hi v_132)
            refine lv_if_eq (tgt := 219) X.1 X.2.1 dX12_mix_212 (by decide) (fun c_134 => ?_) (fun c_134 => ?_)
            · have z_b_135 := trivial
              have k_136 : v_132.toInt = 0 := z_eq rfl ti_0 c_134
              refine lv_iconst (v := 0) X.1 X.2.1 dX12_mix_219 (by decide) ?_
              refine lv_istore (lv' := [(12, .int 0), (11, .int (v_126)), (9, .int (i9_114)), (10, .int (i10_115)), (5, .int (i5_91)), (6, .int (i6_92)), (7, .int (i7_93)), (8, .int (i8_94)), (0, .ref x), (1, .int (a1)), (2, .int (a2)), (3, .int (a3)), (4, .int (a4))]) X.1 X.2.1 dX12_mix_220 hl (by decide) rfl (fun ls hl => ?_)
              refine lv_iload X.1 X.2.1 dX12_mix_222 (lv_at hl 6 rfl) ?_
              refine lv_iconst (v := (-1)) X.1 X.2.1 dX12_mix_224 (by decide) ?_
              refine lv_icmp_eq (tgt := 250) X.1 X.2.1 dX12_mix_225 (by decide) (fun c_137 => ?_) (fun c_137 => ?_)
              · have z_b_138 := trivial
                have k_139 : i7_93_z = (-1) := z_eq hz_i7_93 ti_m1 c_137
                refine lv_iload X.1 X.2.1 dX12_mix_250 (lv_at hl 7 rfl) ?_
                refine lv_istore (lv' := [(6, .int (i8_94)), (12, .int 0), (11, .int (v_126)), (9, .int (i9_114)), (10, .int (i10_115)), (5, .int (i5_91)), (7, .int (i7_93)), (8, .int (i8_94)), (0, .ref x), (1, .int (a1)), (2, .int (a2)), (3, .int (a3)), (4, .int (a4))]) X.1 X.2.1 dX12_mix_252 hl (by decide) rfl (fun ls hl => ?_)
                refine lv_iload X.1 X.2.1 dX12_mix_254 (lv_at hl 4 rfl) ?_
                refine lv_istore (lv' := [(7, .int (i10_115)), (6, .int (i8_94)), (12, .int 0), (11, .int (v_126)), (9, .int (i9_114)), (10, .int (i10_115)), (5, .int (i5_91)), (8, .int (i8_94)), (0, .ref x), (1, .int (a1)), (2, .int (a2)), (3, .int (a3)), (4, .int (a4))]) X.1 X.2.1 dX12_mix_256 hl (by decide) rfl (fun ls hl => ?_)
                obtain ⟨x_140, ex_140⟩ : ∃ y : Int32, y = i8_94 + 1 := ⟨_, rfl⟩
                have z_141 : x_140.toInt = i8_94_z + 1 := z_add ex_140 hz_i8_94 ti_1 (by omega) (by omega)
                refine lv_iinc (v := x_140) (lv' := [(8, .int (x_140)), (7, .int (i10_115)), (6, .int (i8_94)), (12, .int 0), (11, .int (v_126)), (9, .int (i9_114)), (10, .int (i10_115)), (5, .int (i5_91)), (0, .ref x), (1, .int (a1)), (2, .int (a2)), (3, .int (a3)), (4, .int (a4))]) X.1 X.2.1 dX12_mix_258 hl (k := 7) rfl (by rw [ex_140]; rfl) (by decide) rfl (fun ls hl => ?_)
                refine lv_goto (tgt := 119) X.1 X.2.1 dX12_mix_261 (by decide) ?_
                exact ih_L_90 _ (by omega) _ _ _ _ (i5_91) (i5_91_z) (i8_94) (i8_94_z) (i10_115) (i10_115_z) (x_140) (x_140.toInt) rfl hw hz_i5_91 (by omega) hz_i8_94 hz_i10_115 rfl (by omega) ha_x_L_96 hO_T_95 (lv_sub hl [7, 2, 1, 0, 8, 9, 10, 11, 12] rfl)
              · have z_b_142 := trivial
                have k_143 : i7_93_z ≠ (-1) := z_ne hz_i7_93 ti_m1 c_137
                refine lv_iload X.1 X.2.1 dX12_mix_228 (lv_at hl 3 rfl) ?_
                refine lv_iload X.1 X.2.1 dX12_mix_230 (lv_at hl 6 rfl) ?_
                refine lv_icmp_gt (tgt := 258) X.1 X.2.1 dX12_mix_232 (by decide) (fun c_144 => ?_) (fun c_144 => ?_)
                · have z_b_145 := trivial
                  have k_146 : i10_115_z > i7_93_z := z_lt hz_i7_93 hz_i10_115 c_144
                  obtain ⟨x_147, ex_147⟩ : ∃ y : Int32, y = i8_94 + 1 := ⟨_, rfl⟩
                  have z_148 : x_147.toInt = i8_94_z + 1 := z_add ex_147 hz_i8_94 ti_1 (by omega) (by omega)
                  refine lv_iinc (v := x_147) (lv' := [(8, .int (x_147)), (12, .int 0), (11, .int (v_126)), (9, .int (i9_114)), (10, .int (i10_115)), (5, .int (i5_91)), (6, .int (i6_92)), (7, .int (i7_93)), (0, .ref x), (1, .int (a1)), (2, .int (a2)), (3, .int (a3)), (4, .int (a4))]) X.1 X.2.1 dX12_mix_258 hl (k := 7) rfl (by rw [ex_147]; rfl) (by decide) rfl (fun ls hl => ?_)
                  refine lv_goto (tgt := 119) X.1 X.2.1 dX12_mix_261 (by decide) ?_
                  exact ih_L_90 _ (by omega) _ _ _ _ (i5_91) (i5_91_z) (i6_92) (i6_92_z) (i7_93) (i7_93_z) (x_147) (x_147.toInt) rfl hw hz_i5_91 (by omega) hz_i6_92 hz_i7_93 rfl (by omega) ha_x_L_96 hO_T_95 (lv_sub hl [5, 6, 7, 0, 8, 9, 10, 11, 12] rfl)
                · have z_b_149 := trivial
                  have k_150 : i10_115_z ≤ i7_93_z := z_nlt hz_i7_93 hz_i10_115 c_144
                  refine lv_iload X.1 X.2.1 dX12_mix_235 (lv_at hl 3 rfl) ?_
                  refine lv_iload X.1 X.2.1 dX12_mix_237 (lv_at hl 6 rfl) ?_
                  refine lv_icmp_ne (tgt := 250) X.1 X.2.1 dX12_mix_239 (by decide) (fun c_151 => ?_) (fun c_151 => ?_)
                  · have z_b_152 := trivial
                    have k_153 : i10_115_z ≠ i7_93_z := z_ne hz_i10_115 hz_i7_93 c_151
                    refine lv_iload X.1 X.2.1 dX12_mix_250 (lv_at hl 7 rfl) ?_
                    refine lv_istore (lv' := [(6, .int (i8_94)), (12, .int 0), (11, .int (v_126)), (9, .int (i9_114)), (10, .int (i10_115)), (5, .int (i5_91)), (7, .int (i7_93)), (8, .int (i8_94)), (0, .ref x), (1, .int (a1)), (2, .int (a2)), (3, .int (a3)), (4, .int (a4))]) X.1 X.2.1 dX12_mix_252 hl (by decide) rfl (fun ls hl => ?_)
                    refine lv_iload X.1 X.2.1 dX12_mix_254 (lv_at hl 4 rfl) ?_
                    refine lv_istore (lv' := [(7, .int (i10_115)), (6, .int (i8_94)), (12, .int 0), (11, .int (v_126)), (9, .int (i9_114)), (10, .int (i10_115)), (5, .int (i5_91)), (8, .int (i8_94)), (0, .ref x), (1, .int (a1)), (2, .int (a2)), (3, .int (a3)), (4, .int (a4))]) X.1 X.2.1 dX12_mix_256 hl (by decide) rfl (fun ls hl => ?_)
                    obtain ⟨x_154, ex_154⟩ : ∃ y : Int32, y = i8_94 + 1 := ⟨_, rfl⟩
                    have z_155 : x_154.toInt = i8_94_z + 1 := z_add ex_154 hz_i8_94 ti_1 (by omega) (by omega)
                    refine lv_iinc (v := x_154) (lv' := [(8, .int (x_154)), (7, .int (i10_115)), (6, .int (i8_94)), (12, .int 0), (11, .int (v_126)), (9, .int (i9_114)), (10, .int (i10_115)), (5, .int (i5_91)), (0, .ref x), (1, .int (a1)), (2, .int (a2)), (3, .int (a3)), (4, .int (a4))]) X.1 X.2.1 dX12_mix_258 hl (k := 7) rfl (by rw [ex_154]; rfl) (by decide) rfl (fun ls hl => ?_)
                    refine lv_goto (tgt := 119) X.1 X.2.1 dX12_mix_261 (by decide) ?_
                    exact ih_L_90 _ (by omega) _ _ _ _ (i5_91) (i5_91_z) (i8_94) (i8_94_z) (i10_115) (i10_115_z) (x_154) (x_154.toInt) rfl hw hz_i5_91 (by omega) hz_i8_94 hz_i10_115 rfl (by omega) ha_x_L_96 hO_T_95 (lv_sub hl [7, 2, 1, 0, 8, 9, 10, 11, 12] rfl)
                  · have z_b_156 := trivial
                    have k_157 : i10_115_z = i7_93_z := z_eq hz_i10_115 hz_i7_93 c_151
                    refine lv_iload X.1 X.2.1 dX12_mix_242 (lv_at hl 0 rfl) ?_
                    refine lv_if_ne (tgt := 250) X.1 X.2.1 dX12_mix_244 (by decide) (fun c_158 => absurd c_158 (by decide)) (fun c_158 => ?_)
                    refine lv_goto (tgt := 258) X.1 X.2.1 dX12_mix_247 (by decide) ?_
                    obtain ⟨x_159, ex_159⟩ : ∃ y : Int32, y = i8_94 + 1 := ⟨_, rfl⟩
                    have z_160 : x_159.toInt = i8_94_z + 1 := z_add ex_159 hz_i8_94 ti_1 (by omega) (by omega)
                    refine lv_iinc (v := x_159) (lv' := [(8, .int (x_159)), (12, .int 0), (11, .int (v_126)), (9, .int (i9_114)), (10, .int (i10_115)), (5, .int (i5_91)), (6, .int (i6_92)), (7, .int (i7_93)), (0, .ref x), (1, .int (a1)), (2, .int (a2)), (3, .int (a3)), (4, .int (a4))]) X.1 X.2.1 dX12_mix_258 hl (k := 7) rfl (by rw [ex_159]; rfl) (by decide) rfl (fun ls hl => ?_)
                    refine lv_goto (tgt := 119) X.1 X.2.1 dX12_mix_261 (by decide) ?_
                    exact ih_L_90 _ (by omega) _ _ _ _ (i5_91) (i5_91_z) (i6_92) (i6_92_z) (i7_93) (i7_93_z) (x_159) (x_159.toInt) rfl hw hz_i5_91 (by omega) hz_i6_92 hz_i7_93 rfl (by omega) ha_x_L_96 hO_T_95 (lv_sub hl [5, 6, 7, 0, 8, 9, 10, 11, 12] rfl)
            · have z_b_161 := trivial
              have k_162 : v_132.toInt ≠ 0 := z_ne rfl ti_0 c_134
              refine lv_iconst (v := 1) X.1 X.2.1 dX12_mix_215 (by decide) ?_
              refine lv_goto (tgt := 220) X.1 X.2.1 dX12_mix_216 (by decide) ?_
              refine lv_istore (lv' := [(12, .int 1), (11, .int (v_126)), (9, .int (i9_114)), (10, .int (i10_115)), (5, .int (i5_91)), (6, .int (i6_92)), (7, .int (i7_93)), (8, .int (i8_94)), (0, .ref x), (1, .int (a1)), (2, .int (a2)), (3, .int (a3)), (4, .int (a4))]) X.1 X.2.1 dX12_mix_220 hl (by decide) rfl (fun ls hl => ?_)
              refine lv_iload X.1 X.2.1 dX12_mix_222 (lv_at hl 6 rfl) ?_
              refine lv_iconst (v := (-1)) X.1 X.2.1 dX12_mix_224 (by decide) ?_
              refine lv_icmp_eq (tgt := 250) X.1 X.2.1 dX12_mix_225 (by decide) (fun c_163 => ?_) (fun c_163 => ?_)
              · have z_b_164 := trivial
                have k_165 : i7_93_z = (-1) := z_eq hz_i7_93 ti_m1 c_163
                refine lv_iload X.1 X.2.1 dX12_mix_250 (lv_at hl 7 rfl) ?_
                refine lv_istore (lv' := [(6, .int (i8_94)), (12, .int 1), (11, .int (v_126)), (9, .int (i9_114)), (10, .int (i10_115)), (5, .int (i5_91)), (7, .int (i7_93)), (8, .int (i8_94)), (0, .ref x), (1, .int (a1)), (2, .int (a2)), (3, .int (a3)), (4, .int (a4))]) X.1 X.2.1 dX12_mix_252 hl (by decide) rfl (fun ls hl => ?_)
                refine lv_iload X.1 X.2.1 dX12_mix_254 (lv_at hl 4 rfl) ?_
                refine lv_istore (lv' := [(7, .int (i10_115)), (6, .int (i8_94)), (12, .int 1), (11, .int (v_126)), (9, .int (i9_114)), (10, .int (i10_115)), (5, .int (i5_91)), (8, .int (i8_94)), (0, .ref x), (1, .int (a1)), (2, .int (a2)), (3, .int (a3)), (4, .int (a4))]) X.1 X.2.1 dX12_mix_256 hl (by decide) rfl (fun ls hl => ?_)
                obtain ⟨x_166, ex_166⟩ : ∃ y : Int32, y = i8_94 + 1 := ⟨_, rfl⟩
                have z_167 : x_166.toInt = i8_94_z + 1 := z_add ex_166 hz_i8_94 ti_1 (by omega) (by omega)
                refine lv_iinc (v := x_166) (lv' := [(8, .int (x_166)), (7, .int (i10_115)), (6, .int (i8_94)), (12, .int 1), (11, .int (v_126)), (9, .int (i9_114)), (10, .int (i10_115)), (5, .int (i5_91)), (0, .ref x), (1, .int (a1)), (2, .int (a2)), (3, .int (a3)), (4, .int (a4))]) X.1 X.2.1 dX12_mix_258 hl (k := 7) rfl (by rw [ex_166]; rfl) (by decide) rfl (fun ls hl => ?_)
                refine lv_goto (tgt := 119) X.1 X.2.1 dX12_mix_261 (by decide) ?_
                exact ih_L_90 _ (by omega) _ _ _ _ (i5_91) (i5_91_z) (i8_94) (i8_94_z) (i10_115) (i10_115_z) (x_166) (x_166.toInt) rfl hw hz_i5_91 (by omega) hz_i8_94 hz_i10_115 rfl (by omega) ha_x_L_96 hO_T_95 (lv_sub hl [7, 2, 1, 0, 8, 9, 10, 11, 12] rfl)
              · have z_b_168 := trivial
                have k_169 : i7_93_z ≠ (-1) := z_ne hz_i7_93 ti_m1 c_163
                refine lv_iload X.1 X.2.1 dX12_mix_228 (lv_at hl 3 rfl) ?_
                refine lv_iload X.1 X.2.1 dX12_mix_230 (lv_at hl 6 rfl) ?_
                refine lv_icmp_gt (tgt := 258) X.1 X.2.1 dX12_mix_232 (by decide) (fun c_170 => ?_) (fun c_170 => ?_)
                · have z_b_171 := trivial
                  have k_172 : i10_115_z > i7_93_z := z_lt hz_i7_93 hz_i10_115 c_170
                  obtain ⟨x_173, ex_173⟩ : ∃ y : Int32, y = i8_94 + 1 := ⟨_, rfl⟩
                  have z_174 : x_173.toInt = i8_94_z + 1 := z_add ex_173 hz_i8_94 ti_1 (by omega) (by omega)
                  refine lv_iinc (v := x_173) (lv' := [(8, .int (x_173)), (12, .int 1), (11, .int (v_126)), (9, .int (i9_114)), (10, .int (i10_115)), (5, .int (i5_91)), (6, .int (i6_92)), (7, .int (i7_93)), (0, .ref x), (1, .int (a1)), (2, .int (a2)), (3, .int (a3)), (4, .int (a4))]) X.1 X.2.1 dX12_mix_258 hl (k := 7) rfl (by rw [ex_173]; rfl) (by decide) rfl (fun ls hl => ?_)
                  refine lv_goto (tgt := 119) X.1 X.2.1 dX12_mix_261 (by decide) ?_
                  exact ih_L_90 _ (by omega) _ _ _ _ (i5_91) (i5_91_z) (i6_92) (i6_92_z) (i7_93) (i7_93_z) (x_173) (x_173.toInt) rfl hw hz_i5_91 (by omega) hz_i6_92 hz_i7_93 rfl (by omega) ha_x_L_96 hO_T_95 (lv_sub hl [5, 6, 7, 0, 8, 9, 10, 11, 12] rfl)
                · have z_b_175 := trivial
                  have k_176 : i10_115_z ≤ i7_93_z := z_nlt hz_i7_93 hz_i10_115 c_170
                  refine lv_iload X.1 X.2.1 dX12_mix_235 (lv_at hl 3 rfl) ?_
                  refine lv_iload X.1 X.2.1 dX12_mix_237 (lv_at hl 6 rfl) ?_
                  refine lv_icmp_ne (tgt := 250) X.1 X.2.1 dX12_mix_239 (by decide) (fun c_177 => ?_) (fun c_177 => ?_)
                  · have z_b_178 := trivial
                    have k_179 : i10_115_z ≠ i7_93_z := z_ne hz_i10_115 hz_i7_93 c_177
                    refine lv_iload X.1 X.2.1 dX12_mix_250 (lv_at hl 7 rfl) ?_
                    refine lv_istore (lv' := [(6, .int (i8_94)), (12, .int 1), (11, .int (v_126)), (9, .int (i9_114)), (10, .int (i10_115)), (5, .int (i5_91)), (7, .int (i7_93)), (8, .int (i8_94)), (0, .ref x), (1, .int (a1)), (2, .int (a2)), (3, .int (a3)), (4, .int (a4))]) X.1 X.2.1 dX12_mix_252 hl (by decide) rfl (fun ls hl => ?_)
                    refine lv_iload X.1 X.2.1 dX12_mix_254 (lv_at hl 4 rfl) ?_
                    refine lv_istore (lv' := [(7, .int (i10_115)), (6, .int (i8_94)), (12, .int 1), (11, .int (v_126)), (9, .int (i9_114)), (10, .int (i10_115)), (5, .int (i5_91)), (8, .int (i8_94)), (0, .ref x), (1, .int (a1)), (2, .int (a2)), (3, .int (a3)), (4, .int (a4))]) X.1 X.2.1 dX12_mix_256 hl (by decide) rfl (fun ls hl => ?_)
                    obtain ⟨x_180, ex_180⟩ : ∃ y : Int32, y = i8_94 + 1 := ⟨_, rfl⟩
                    have z_181 : x_180.toInt = i8_94_z + 1 := z_add ex_180 hz_i8_94 ti_1 (by omega) (by omega)
                    refine lv_iinc (v := x_180) (lv' := [(8, .int (x_180)), (7, .int (i10_115)), (6, .int (i8_94)), (12, .int 1), (11, .int (v_126)), (9, .int (i9_114)), (10, .int (i10_115)), (5, .int (i5_91)), (0, .ref x), (1, .int (a1)), (2, .int (a2)), (3, .int (a3)), (4, .int (a4))]) X.1 X.2.1 dX12_mix_258 hl (k := 7) rfl (by rw [ex_180]; rfl) (by decide) rfl (fun ls hl => ?_)
                    refine lv_goto (tgt := 119) X.1 X.2.1 dX12_mix_261 (by decide) ?_
                    exact ih_L_90 _ (by omega) _ _ _ _ (i5_91) (i5_91_z) (i8_94) (i8_94_z) (i10_115) (i10_115_z) (x_180) (x_180.toInt) rfl hw hz_i5_91 (by omega) hz_i8_94 hz_i10_115 rfl (by omega) ha_x_L_96 hO_T_95 (lv_sub hl [7, 2, 1, 0, 8, 9, 10, 11, 12] rfl)
                  · have z_b_182 := trivial
                    have k_183 : i10_115_z = i7_93_z := z_eq hz_i10_115 hz_i7_93 c_177
                    refine lv_iload X.1 X.2.1 dX12_mix_242 (lv_at hl 0 rfl) ?_
                    refine lv_if_ne (tgt := 250) X.1 X.2.1 dX12_mix_244 (by decide) (fun c_184 => ?_) (fun c_184 => absurd c_184 (by decide))
                    refine lv_iload X.1 X.2.1 dX12_mix_250 (lv_at hl 7 rfl) ?_
                    refine lv_istore (lv' := [(6, .int (i8_94)), (12, .int 1), (11, .int (v_126)), (9, .int (i9_114)), (10, .int (i10_115)), (5, .int (i5_91)), (7, .int (i7_93)), (8, .int (i8_94)), (0, .ref x), (1, .int (a1)), (2, .int (a2)), (3, .int (a3)), (4, .int (a4))]) X.1 X.2.1 dX12_mix_252 hl (by decide) rfl (fun ls hl => ?_)
                    refine lv_iload X.1 X.2.1 dX12_mix_254 (lv_at hl 4 rfl) ?_
                    refine lv_istore (lv' := [(7, .int (i10_115)), (6, .int (i8_94)), (12, .int 1), (11, .int (v_126)), (9, .int (i9_114)), (10, .int (i10_115)), (5, .int (i5_91)), (8, .int (i8_94)), (0, .ref x), (1, .int (a1)), (2, .int (a2)), (3, .int (a3)), (4, .int (a4))]) X.1 X.2.1 dX12_mix_256 hl (by decide) rfl (fun ls hl => ?_)
                    obtain ⟨x_185, ex_185⟩ : ∃ y : Int32, y = i8_94 + 1 := ⟨_, rfl⟩
                    have z_186 : x_185.toInt = i8_94_z + 1 := z_add ex_185 hz_i8_94 ti_1 (by omega) (by omega)
                    refine lv_iinc (v := x_185) (lv' := [(8, .int (x_185)), (7, .int (i10_115)), (6, .int (i8_94)), (12, .int 1), (11, .int (v_126)), (9, .int (i9_114)), (10, .int (i10_115)), (5, .int (i5_91)), (0, .ref x), (1, .int (a1)), (2, .int (a2)), (3, .int (a3)), (4, .int (a4))]) X.1 X.2.1 dX12_mix_258 hl (k := 7) rfl (by rw [ex_185]; rfl) (by decide) rfl (fun ls hl => ?_)
                    refine lv_goto (tgt := 119) X.1 X.2.1 dX12_mix_261 (by decide) ?_
                    exact ih_L_90 _ (by omega) _ _ _ _ (i5_91) (i5_91_z) (i8_94) (i8_94_z) (i10_115) (i10_115_z) (x_185) (x_185.toInt) rfl hw hz_i5_91 (by omega) hz_i8_94 hz_i10_115 rfl (by omega) ha_x_L_96 hO_T_95 (lv_sub hl [7, 2, 1, 0, 8, 9, 10, 11, 12] rfl)
          · have z_b_187 := trivial
            have k_188 : i9_114_z < a1_z := z_nle hz_a1 hz_i9_114 c_123
            refine lv_goto (tgt := 258) X.1 X.2.1 dX12_mix_193 (by decide) ?_
            obtain ⟨x_189, ex_189⟩ : ∃ y : Int32, y = i8_94 + 1 := ⟨_, rfl⟩
            have z_190 : x_189.toInt = i8_94_z + 1 := z_add ex_189 hz_i8_94 ti_1 (by omega) (by omega)
            refine lv_iinc (v := x_189) (lv' := [(8, .int (x_189)), (9, .int (i9_114)), (10, .int (i10_115)), (11, .int (i11_116)), (5, .int (i5_91)), (6, .int (i6_92)), (7, .int (i7_93)), (0, .ref x), (1, .int (a1)), (2, .int (a2)), (3, .int (a3)), (4, .int (a4))]) X.1 X.2.1 dX12_mix_258 hl (k := 6) rfl (by rw [ex_189]; rfl) (by decide) rfl (fun ls hl => ?_)
            refine lv_goto (tgt := 119) X.1 X.2.1 dX12_mix_261 (by decide) ?_
            exact ih_L_90 _ (by omega) _ _ _ _ (i5_91) (i5_91_z) (i6_92) (i6_92_z) (i7_93) (i7_93_z) (x_189) (x_189.toInt) rfl hw hz_i5_91 (by omega) hz_i6_92 hz_i7_93 rfl (by omega) ha_x_L_96 hO_T_95 (lv_sub hl [4, 5, 6, 0, 7, 8, 9, 10, 11] rfl)
        · have z_b_191 := trivial
          have k_192 : i11_116_z < i5_91_z := z_nle hz_i5_91 hz_i11_116 c_120
          refine lv_iload X.1 X.2.1 dX12_mix_144 (lv_at hl 6 rfl) ?_
          refine lv_iload X.1 X.2.1 dX12_mix_146 (lv_at hl 2 rfl) ?_
          refine lv_ishr X.1 X.2.1 dX12_mix_148 ?_
          refine lv_topi (fun v_193 ev_193 => ?_)
          have rg_194 := And.intro (z_lo v_193) (z_hi v_193)
          refine lv_iconst (v := 1) X.1 X.2.1 dX12_mix_149 (by decide) ?_
          refine lv_iand X.1 X.2.1 dX12_mix_150 ?_
          refine lv_topi (fun v_195 ev_195 => ?_)
          have z_196 : 0 ≤ v_195.toInt ∧ v_195.toInt ≤ 1 := z_and1 ev_195
          refine lv_if_ne (tgt := 157) X.1 X.2.1 dX12_mix_151 (by decide) (fun c_197 => ?_) (fun c_197 => ?_)
          · have z_b_198 := trivial
            have k_199 : v_195.toInt ≠ 0 := z_ne rfl ti_0 c_197
            refine lv_iload X.1 X.2.1 dX12_mix_157 (lv_at hl 0 rfl) ?_
            refine lv_aload_n X.1 X.2.1 dX12_mix_159 rfl (lv_at hl 7 rfl) ?_
            obtain ⟨q_200, h_201, h_202, h_203⟩ := gQ_12_1259 hO_T_95.1 ha_x_L_96
            refine r_getR (g := 1259) X hw ha_x_L_96 rfl 59 h_201 (by decide) rfl inn_X12_mix_12 (by decide) (X.2.2.2.1 (.fieldLink RX12 143 "SilkMillModel" "askedWeight" "[I") (by decide +kernel)) rfl (gv_1259 _ _) dX12_mix_160 ?_
            refine lv_iload X.1 X.2.1 dX12_mix_163 (lv_at hl 2 rfl) ?_
            refine r_iald X hw h_202 rfl (by rw [h_203]; exact z_ix hz_i11_116 (by omega) (by omega)) dX12_mix_165 ?_
            refine lv_topi (fun v_204 ev_204 => ?_)
            have rg_205 := And.intro (z_lo v_204) (z_hi v_204)
            have ev_204 := ev_204.symm
            refine lv_iadd X.1 X.2.1 dX12_mix_166 ?_
            refine lv_topi (fun v_206 ev_206 => ?_)
            have rg_207 := And.intro (z_lo v_206) (z_hi v_206)
            refine lv_istore (lv' := [(9, .int (v_206)), (10, .int (i10_115)), (11, .int (i11_116)), (5, .int (i5_91)), (6, .int (i6_92)), (7, .int (i7_93)), (8, .int (i8_94)), (0, .ref x), (1, .int (a1)), (2, .int (a2)), (3, .int (a3)), (4, .int (a4))]) X.1 X.2.1 dX12_mix_167 hl (by decide) rfl (fun ls hl => ?_)
            refine lv_iload X.1 X.2.1 dX12_mix_169 (lv_at hl 1 rfl) ?_
            refine lv_aload_n X.1 X.2.1 dX12_mix_171 rfl (lv_at hl 7 rfl) ?_
            obtain ⟨q_208, h_209, h_210, h_211⟩ := gQ_12_1260 hO_T_95.1 ha_x_L_96
            refine r_getR (g := 1260) X hw ha_x_L_96 rfl 60 h_209 (by decide) rfl inn_X12_mix_12 (by decide) (X.2.2.2.1 (.fieldLink RX12 146 "SilkMillModel" "askedPrice" "[I") (by decide +kernel)) rfl (gv_1260 _ _) dX12_mix_172 ?_
            refine lv_iload X.1 X.2.1 dX12_mix_175 (lv_at hl 2 rfl) ?_
            refine r_iald X hw h_210 rfl (by rw [h_211]; exact z_ix hz_i11_116 (by omega) (by omega)) dX12_mix_177 ?_
            refine lv_topi (fun v_212 ev_212 => ?_)
            have rg_213 := And.intro (z_lo v_212) (z_hi v_212)
            have ev_212 := ev_212.symm
            refine lv_iadd X.1 X.2.1 dX12_mix_178 ?_
            refine lv_topi (fun v_214 ev_214 => ?_)
            have rg_215 := And.intro (z_lo v_214) (z_hi v_214)
            refine lv_istore (lv' := [(10, .int (v_214)), (9, .int (v_206)), (11, .int (i11_116)), (5, .int (i5_91)), (6, .int (i6_92)), (7, .int (i7_93)), (8, .int (i8_94)), (0, .ref x), (1, .int (a1)), (2, .int (a2)), (3, .int (a3)), (4, .int (a4))]) X.1 X.2.1 dX12_mix_179 hl (by decide) rfl (fun ls hl => ?_)
            obtain ⟨x_216, ex_216⟩ : ∃ y : Int32, y = i11_116 + 1 := ⟨_, rfl⟩
            have z_217 : x_216.toInt = i11_116_z + 1 := z_add ex_216 hz_i11_116 ti_1 (by omega) (by omega)
            refine lv_iinc (v := x_216) (lv' := [(11, .int (x_216)), (10, .int (v_214)), (9, .int (v_206)), (5, .int (i5_91)), (6, .int (i6_92)), (7, .int (i7_93)), (8, .int (i8_94)), (0, .ref x), (1, .int (a1)), (2, .int (a2)), (3, .int (a3)), (4, .int (a4))]) X.1 X.2.1 dX12_mix_181 hl (k := 2) rfl (by rw [ex_216]; rfl) (by decide) rfl (fun ls hl => ?_)
            refine lv_goto (tgt := 137) X.1 X.2.1 dX12_mix_184 (by decide) ?_
            exact ih_L_113 _ (by omega) _ _ _ (v_206) (v_206.toInt) (v_214) (v_214.toInt) (x_216) (x_216.toInt) rfl hw rfl rfl rfl (by omega) (lv_sub hl [2, 1, 0, 3, 4, 5, 6, 7, 8, 9, 10, 11] rfl)
          · have z_b_218 := trivial
            have k_219 : v_195.toInt = 0 := z_eq rfl ti_0 c_197
            refine lv_goto (tgt := 181) X.1 X.2.1 dX12_mix_154 (by decide) ?_
            obtain ⟨x_220, ex_220⟩ : ∃ y : Int32, y = i11_116 + 1 := ⟨_, rfl⟩
            have z_221 : x_220.toInt = i11_116_z + 1 := z_add ex_220 hz_i11_116 ti_1 (by omega) (by omega)
            refine lv_iinc (v := x_220) (lv' := [(11, .int (x_220)), (9, .int (i9_114)), (10, .int (i10_115)), (5, .int (i5_91)), (6, .int (i6_92)), (7, .int (i7_93)), (8, .int (i8_94)), (0, .ref x), (1, .int (a1)), (2, .int (a2)), (3, .int (a3)), (4, .int (a4))]) X.1 X.2.1 dX12_mix_181 hl (k := 2) rfl (by rw [ex_220]; rfl) (by decide) rfl (fun ls hl => ?_)
            refine lv_goto (tgt := 137) X.1 X.2.1 dX12_mix_184 (by decide) ?_
            exact ih_L_113 _ (by omega) _ _ _ (i9_114) (i9_114_z) (i10_115) (i10_115_z) (x_220) (x_220.toInt) rfl hw hz_i9_114 hz_i10_115 rfl (by omega) (lv_sub hl [1, 2, 0, 3, 4, 5, 6, 7, 8, 9, 10, 11] rfl)
      exact L_113 _ _ _ _ (0) (0) (0) (0) (0) (0) rfl hw ti_0 ti_0 ti_0 (by omega) (lv_sub hl [2, 1, 0, 3, 4, 5, 6, 7, 8, 9, 10, 11] rfl)
  refine lv_iconst (v := 0) X.1 X.2.1 dX12_mix_5 (by decide) ?_
  refine lv_istore (lv' := [(5, .int 0), (0, .ref x), (1, .int (a1)), (2, .int (a2)), (3, .int (a3)), (4, .int (a4))]) X.1 X.2.1 dX12_mix_6 hl (by decide) rfl (fun ls hl => ?_)
  refine lv_iconst (v := 0) X.1 X.2.1 dX12_mix_8 (by decide) ?_
  refine lv_istore (lv' := [(6, .int 0), (5, .int 0), (0, .ref x), (1, .int (a1)), (2, .int (a2)), (3, .int (a3)), (4, .int (a4))]) X.1 X.2.1 dX12_mix_9 hl (by decide) rfl (fun ls hl => ?_)
  have L_222 : ∀ (n : Nat) (T_225 : PS) (H : Heap) (locs : List Loc) (ls : Array Slot) (i5_223 : Int32) (i5_223_z : Int) (i6_224 : Int32) (i6_224_z : Int), ((40 - i6_224_z).toNat = n) → (Wd G cy (AS S s.heap.size) s.heap T_225 H locs) → (i5_223.toInt = i5_223_z) → (0 ≤ i5_223_z ∧ i5_223_z ≤ 14) → (i6_224.toInt = i6_224_z) → (0 ≤ i6_224_z ∧ i6_224_z ≤ 40) → (At T_225 x 12) → (Ok Mmi S T_225) → (lv_has ls 13 [(5, .int (i5_223)), (6, .int (i6_224)), (0, .ref x), (1, .int (a1)), (2, .int (a2)), (3, .int (a3)), (4, .int (a4))]) → W p l e ({ frames := 8, cells := 0, slots := 0, locals := 384 }) s m [.ref x, .int (a1), .int (a2), .int (a3), .int (a4)].toArray below meth c H locs 0 0 QQ (F0 m 11 ls []) := by
    intro n
    induction n using Nat.strongRecOn with
    | ind n ih_L_222 =>
    intro T_225 H locs ls i5_223 i5_223_z i6_224 i6_224_z hn hw hz_i5_223 hr_i5_223 hz_i6_224 hr_i6_224 ha_x_L_226 hO_T_225 hl
    have rg_227 : (-2147483648) ≤ i5_223_z ∧ i5_223_z ≤ 2147483647 := by rw [← hz_i5_223]; exact ⟨z_lo _, z_hi _⟩
    have rg_228 : (-2147483648) ≤ i6_224_z ∧ i6_224_z ≤ 2147483647 := by rw [← hz_i6_224]; exact ⟨z_lo _, z_hi _⟩
    refine lv_iload X.1 X.2.1 dX12_mix_11 (lv_at hl 1 rfl) ?_
    refine lv_aload_n X.1 X.2.1 dX12_mix_13 rfl (lv_at hl 2 rfl) ?_
    obtain ⟨v_229, ev_229⟩ : ∃ v, pI T_225 1238 x = v := ⟨_, rfl⟩
    have rg_230 := gI_12_1238 hO_T_225.1 ha_x_L_226; rw [ev_229] at rg_230
    have pz_231 : (pI T_225 1238 x).toInt = v_229.toInt := by rw [ev_229]
    refine r_getI (g := 1238) (x := v_229) X hw ha_x_L_226 rfl 38 ev_229 (by decide) rfl inn_X12_mix_12 (by decide) (X.2.2.2.1 (.fieldLink RX12 290 "SilkMillModel" "skeins" "I") (by decide +kernel)) rfl (gv_1238 _ _) dX12_mix_14 ?_
    refine lv_icmp_ge (tgt := 110) X.1 X.2.1 dX12_mix_17 (by decide) (fun c_232 => ?_) (fun c_232 => ?_)
    · have z_b_233 := trivial
      have k_234 : i6_224_z ≥ v_229.toInt := z_le rfl hz_i6_224 c_232
      refine lv_iconst (v := 0) X.1 X.2.1 dX12_mix_110 (by decide) ?_
      refine lv_istore (lv' := [(6, .int 0), (5, .int (i5_223)), (0, .ref x), (1, .int (a1)), (2, .int (a2)), (3, .int (a3)), (4, .int (a4))]) X.1 X.2.1 dX12_mix_111 hl (by decide) rfl (fun ls hl => ?_)
      refine lv_iconst (v := (-1)) X.1 X.2.1 dX12_mix_113 (by decide) ?_
      refine lv_istore (lv' := [(7, .int (-1)), (6, .int 0), (5, .int (i5_223)), (0, .ref x), (1, .int (a1)), (2, .int (a2)), (3, .int (a3)), (4, .int (a4))]) X.1 X.2.1 dX12_mix_114 hl (by decide) rfl (fun ls hl => ?_)
      refine lv_iconst (v := 1) X.1 X.2.1 dX12_mix_116 (by decide) ?_
      refine lv_istore (lv' := [(8, .int 1), (7, .int (-1)), (6, .int 0), (5, .int (i5_223)), (0, .ref x), (1, .int (a1)), (2, .int (a2)), (3, .int (a3)), (4, .int (a4))]) X.1 X.2.1 dX12_mix_117 hl (by decide) rfl (fun ls hl => ?_)
      exact L_90 _ _ _ _ _ (i5_223) (i5_223_z) (0) (0) ((-1)) ((-1)) (1) (1) rfl hw hz_i5_223 (by omega) ti_0 ti_m1 ti_1 (by omega) ha_x_L_226 hO_T_225 (lv_sub hl [3, 2, 1, 0, 4, 5, 6, 7, 8] rfl)
    · have z_b_235 := trivial
      have k_236 : i6_224_z < v_229.toInt := z_nle rfl hz_i6_224 c_232
      refine lv_iload X.1 X.2.1 dX12_mix_20 (lv_at hl 0 rfl) ?_
      refine lv_bipush (v := 14) X.1 X.2.1 dX12_mix_22 (by decide) ?_
      refine lv_icmp_ge (tgt := 110) X.1 X.2.1 dX12_mix_24 (by decide) (fun c_237 => ?_) (fun c_237 => ?_)
      · have z_b_238 := trivial
        have k_239 : i5_223_z ≥ 14 := z_le ti_14 hz_i5_223 c_237
        refine lv_iconst (v := 0) X.1 X.2.1 dX12_mix_110 (by decide) ?_
        refine lv_istore (lv' := [(6, .int 0), (5, .int (i5_223)), (0, .ref x), (1, .int (a1)), (2, .int (a2)), (3, .int (a3)), (4, .int (a4))]) X.1 X.2.1 dX12_mix_111 hl (by decide) rfl (fun ls hl => ?_)
        refine lv_iconst (v := (-1)) X.1 X.2.1 dX12_mix_113 (by decide) ?_
        refine lv_istore (lv' := [(7, .int (-1)), (6, .int 0), (5, .int (i5_223)), (0, .ref x), (1, .int (a1)), (2, .int (a2)), (3, .int (a3)), (4, .int (a4))]) X.1 X.2.1 dX12_mix_114 hl (by decide) rfl (fun ls hl => ?_)
        refine lv_iconst (v := 1) X.1 X.2.1 dX12_mix_116 (by decide) ?_
        refine lv_istore (lv' := [(8, .int 1), (7, .int (-1)), (6, .int 0), (5, .int (i5_223)), (0, .ref x), (1, .int (a1)), (2, .int (a2)), (3, .int (a3)), (4, .int (a4))]) X.1 X.2.1 dX12_mix_117 hl (by decide) rfl (fun ls hl => ?_)
        exact L_90 _ _ _ _ _ (i5_223) (i5_223_z) (0) (0) ((-1)) ((-1)) (1) (1) rfl hw hz_i5_223 (by omega) ti_0 ti_m1 ti_1 (by omega) ha_x_L_226 hO_T_225 (lv_sub hl [3, 2, 1, 0, 4, 5, 6, 7, 8] rfl)
      · have z_b_240 := trivial
        have k_241 : i5_223_z < 14 := z_nle ti_14 hz_i5_223 c_237
        refine lv_iload_n X.1 X.2.1 dX12_mix_27 rfl (lv_at hl 3 rfl) ?_
        refine lv_if_le (tgt := 110) X.1 X.2.1 dX12_mix_28 (by decide) (fun c_242 => ?_) (fun c_242 => ?_)
        · have z_b_243 := trivial
          have k_244 : a1_z ≤ 0 := z_le hz_a1 ti_0 c_242
          refine lv_iconst (v := 0) X.1 X.2.1 dX12_mix_110 (by decide) ?_
          refine lv_istore (lv' := [(6, .int 0), (5, .int (i5_223)), (0, .ref x), (1, .int (a1)), (2, .int (a2)), (3, .int (a3)), (4, .int (a4))]) X.1 X.2.1 dX12_mix_111 hl (by decide) rfl (fun ls hl => ?_)
          refine lv_iconst (v := (-1)) X.1 X.2.1 dX12_mix_113 (by decide) ?_
          refine lv_istore (lv' := [(7, .int (-1)), (6, .int 0), (5, .int (i5_223)), (0, .ref x), (1, .int (a1)), (2, .int (a2)), (3, .int (a3)), (4, .int (a4))]) X.1 X.2.1 dX12_mix_114 hl (by decide) rfl (fun ls hl => ?_)
          refine lv_iconst (v := 1) X.1 X.2.1 dX12_mix_116 (by decide) ?_
          refine lv_istore (lv' := [(8, .int 1), (7, .int (-1)), (6, .int 0), (5, .int (i5_223)), (0, .ref x), (1, .int (a1)), (2, .int (a2)), (3, .int (a3)), (4, .int (a4))]) X.1 X.2.1 dX12_mix_117 hl (by decide) rfl (fun ls hl => ?_)
          exact L_90 _ _ _ _ _ (i5_223) (i5_223_z) (0) (0) ((-1)) ((-1)) (1) (1) rfl hw hz_i5_223 (by omega) ti_0 ti_m1 ti_1 (by omega) ha_x_L_226 hO_T_225 (lv_sub hl [3, 2, 1, 0, 4, 5, 6, 7, 8] rfl)
        · have z_b_245 := trivial
          have k_246 : a1_z > 0 := z_nle hz_a1 ti_0 c_242
          refine lv_aload_n X.1 X.2.1 dX12_mix_31 rfl (lv_at hl 2 rfl) ?_
          obtain ⟨q_247, h_248, h_249, h_250⟩ := gQ_12_1244 hO_T_225.1 ha_x_L_226
          refine r_getR (g := 1244) X hw ha_x_L_226 rfl 44 h_248 (by decide) rfl inn_X12_mix_12 (by decide) (X.2.2.2.1 (.fieldLink RX12 115 "SilkMillModel" "isSold" "[Z") (by decide +kernel)) rfl (gv_1244 _ _) dX12_mix_32 ?_
          refine lv_iload X.1 X.2.1 dX12_mix_35 (lv_at hl 1 rfl) ?_
          refine r_zald X hw h_249 rfl (by rw [h_250]; exact z_ix hz_i6_224 (by omega) (by omega)) dX12_mix_37 ?_
          refine lv_topi (fun v_251 ev_251 => ?_)
          have rg_252 := And.intro (z_lo v_251) (z_hi v_251)
          have ev_251 := ev_251.symm
          refine lv_if_ne (tgt := 104) X.1 X.2.1 dX12_mix_38 (by decide) (fun c_253 => ?_) (fun c_253 => ?_)
          · have z_b_254 := trivial
            have k_255 : v_251.toInt ≠ 0 := z_ne rfl ti_0 c_253
            obtain ⟨x_256, ex_256⟩ : ∃ y : Int32, y = i6_224 + 1 := ⟨_, rfl⟩
            have z_257 : x_256.toInt = i6_224_z + 1 := z_add ex_256 hz_i6_224 ti_1 (by omega) (by omega)
            refine lv_iinc (v := x_256) (lv' := [(6, .int (x_256)), (5, .int (i5_223)), (0, .ref x), (1, .int (a1)), (2, .int (a2)), (3, .int (a3)), (4, .int (a4))]) X.1 X.2.1 dX12_mix_104 hl (k := 1) rfl (by rw [ex_256]; rfl) (by decide) rfl (fun ls hl => ?_)
            refine lv_goto (tgt := 11) X.1 X.2.1 dX12_mix_107 (by decide) ?_
            exact ih_L_222 _ (by omega) _ _ _ _ (i5_223) (i5_223_z) (x_256) (x_256.toInt) rfl hw hz_i5_223 (by omega) rfl (by omega) ha_x_L_226 hO_T_225 (lv_sub hl [1, 0, 2, 3, 4, 5, 6] rfl)
          · have z_b_258 := trivial
            have k_259 : v_251.toInt = 0 := z_eq rfl ti_0 c_253
            refine lv_aload_n X.1 X.2.1 dX12_mix_41 rfl (lv_at hl 2 rfl) ?_
            refine lv_iload X.1 X.2.1 dX12_mix_42 (lv_at hl 1 rfl) ?_
            refine lv_iconst (v := 0) X.1 X.2.1 dX12_mix_44 (by decide) ?_
            refine k_i (rm := { frames := 5, cells := 0, slots := 0, locals := 240 }) (av := [.ref x, .int (i6_224), .int 0]) X hw (va_runV (As := [.int (i6_224), .int 0]) (rest := []) (cfix X) (k_X12_least l G cy κ T_225 _ x (i6_224) (i6_224_z) (0) (0) hO_T_225.1 ha_x_L_226 hz_i6_224 ti_0 (by first | assumption | omega) (by first | assumption | omega) (by first | assumption | omega) (MIe_free hG ha_x hO_T_225.fr (by decide +kernel) hp_0)) (cwV 2 X.2.2.2.1 gX12_mix_X12_least rfl rfl rfl (by decide +kernel) ⟨Nat.le_of_ble_eq_true rfl, Nat.le_of_ble_eq_true rfl⟩) (pre_V X hw _ ha_x_L_226 rfl (by decide) rfl) rfl rfl hl.1 rfl (lv_room (Nat.le_of_ble_eq_true rfl)) dX12_mix_45 ⟨Nat.le_of_ble_eq_true rfl, Nat.le_of_ble_eq_true rfl⟩) 0 0 (Nat.le_of_ble_eq_true rfl) (Nat.le_of_ble_eq_true rfl) (fun rr_260 S_261 H locs hp hw hfr hnw => ?_)
            obtain ⟨e2, hp⟩ := hp
            subst e2
            have rg_262 := And.intro (z_lo rr_260) (z_hi rr_260)
            refine lv_iload_n X.1 X.2.1 dX12_mix_48 rfl (lv_at hl 4 rfl) ?_
            refine lv_icmp_lt (tgt := 104) X.1 X.2.1 dX12_mix_49 (by decide) (fun c_263 => ?_) (fun c_263 => ?_)
            · have z_b_264 := trivial
              have k_265 : rr_260.toInt < a2_z := z_lt rfl hz_a2 c_263
              obtain ⟨x_266, ex_266⟩ : ∃ y : Int32, y = i6_224 + 1 := ⟨_, rfl⟩
              have z_267 : x_266.toInt = i6_224_z + 1 := z_add ex_266 hz_i6_224 ti_1 (by omega) (by omega)
              refine lv_iinc (v := x_266) (lv' := [(6, .int (x_266)), (5, .int (i5_223)), (0, .ref x), (1, .int (a1)), (2, .int (a2)), (3, .int (a3)), (4, .int (a4))]) X.1 X.2.1 dX12_mix_104 hl (k := 1) rfl (by rw [ex_266]; rfl) (by decide) rfl (fun ls hl => ?_)
              refine lv_goto (tgt := 11) X.1 X.2.1 dX12_mix_107 (by decide) ?_
              exact ih_L_222 _ (by omega) _ _ _ _ (i5_223) (i5_223_z) (x_266) (x_266.toInt) rfl hw hz_i5_223 (by omega) rfl (by omega) ha_x_L_226 hO_T_225 (lv_sub hl [1, 0, 2, 3, 4, 5, 6] rfl)
            · have z_b_268 := trivial
              have k_269 : rr_260.toInt ≥ a2_z := z_nlt rfl hz_a2 c_263
              refine lv_aload_n X.1 X.2.1 dX12_mix_52 rfl (lv_at hl 2 rfl) ?_
              refine lv_iload X.1 X.2.1 dX12_mix_53 (lv_at hl 1 rfl) ?_
              refine lv_iconst (v := 1) X.1 X.2.1 dX12_mix_55 (by decide) ?_
              refine k_i (rm := { frames := 5, cells := 0, slots := 0, locals := 240 }) (av := [.ref x, .int (i6_224), .int 1]) X hw (va_runV (As := [.int (i6_224), .int 1]) (rest := []) (cfix X) (k_X12_least l G cy κ T_225 _ x (i6_224) (i6_224_z) (1) (1) hO_T_225.1 ha_x_L_226 hz_i6_224 ti_1 (by first | assumption | omega) (by first | assumption | omega) (by first | assumption | omega) (MIe_free hG ha_x hO_T_225.fr (by decide +kernel) hp_0)) (cwV 2 X.2.2.2.1 gX12_mix_X12_least rfl rfl rfl (by decide +kernel) ⟨Nat.le_of_ble_eq_true rfl, Nat.le_of_ble_eq_true rfl⟩) (pre_V X hw _ ha_x_L_226 rfl (by decide) rfl) rfl rfl hl.1 rfl (lv_room (Nat.le_of_ble_eq_true rfl)) dX12_mix_56 ⟨Nat.le_of_ble_eq_true rfl, Nat.le_of_ble_eq_true rfl⟩) 0 0 (Nat.le_of_ble_eq_true rfl) (Nat.le_of_ble_eq_true rfl) (fun rr_270 S_271 H locs hp hw hfr hnw => ?_)
              obtain ⟨e2, hp⟩ := hp
              subst e2
              have rg_272 := And.intro (z_lo rr_270) (z_hi rr_270)
              refine lv_iload_n X.1 X.2.1 dX12_mix_59 rfl (lv_at hl 5 rfl) ?_
              refine lv_icmp_le (tgt := 66) X.1 X.2.1 dX12_mix_60 (by decide) (fun c_273 => ?_) (fun c_273 => ?_)
              · have z_b_274 := trivial
                have k_275 : rr_270.toInt ≤ a3_z := z_le rfl hz_a3 c_273
                refine lv_aload_n X.1 X.2.1 dX12_mix_66 rfl (lv_at hl 2 rfl) ?_
                obtain ⟨q_276, h_277, h_278, h_279⟩ := gQ_12_1258 hO_T_225.1 ha_x_L_226
                refine r_getR (g := 1258) X hw ha_x_L_226 rfl 58 h_277 (by decide) rfl inn_X12_mix_12 (by decide) (X.2.2.2.1 (.fieldLink RX12 140 "SilkMillModel" "asked" "[I") (by decide +kernel)) rfl (gv_1258 _ _) dX12_mix_67 ?_
                refine lv_iload X.1 X.2.1 dX12_mix_70 (lv_at hl 0 rfl) ?_
                refine lv_iload X.1 X.2.1 dX12_mix_72 (lv_at hl 1 rfl) ?_
                refine r_iast X hw h_278 rfl (by rw [h_279]; exact z_ix hz_i5_223 (by omega) (by omega)) dX12_mix_74 (fun H locs hw => ?_)
                obtain ⟨S_280, eS_280⟩ : ∃ T, T = sA T_225 q_276 (upd (pA T_225 q_276) (Int32.toNatClampNeg (i5_223)) (i6_224)) := ⟨_, rfl⟩
                rw [← eS_280] at hw
                have hO_281 : Ok Mmi S S_280 := hO_T_225.sA eS_280 h_278 (by decide +kernel) (uA_1374 hO_T_225.1 h_278 (by omega) (by omega))
                have h_282 : pA S_280 q_276 (Int32.toNatClampNeg (i5_223)) = i6_224 := tA_sAs eS_280
                refine lv_aload_n X.1 X.2.1 dX12_mix_75 rfl (lv_at hl 2 rfl) ?_
                have t_283 : At S_280 x 12 := tAt_sA eS_280 ha_x_L_226
                obtain ⟨q_284, h_285, h_286, h_287⟩ := gQ_12_1259 hO_281.1 t_283
                refine r_getR (g := 1259) X hw t_283 rfl 59 h_285 (by decide) rfl inn_X12_mix_12 (by decide) (X.2.2.2.1 (.fieldLink RX12 143 "SilkMillModel" "askedWeight" "[I") (by decide +kernel)) rfl (gv_1259 _ _) dX12_mix_76 ?_
                refine lv_iload X.1 X.2.1 dX12_mix_79 (lv_at hl 0 rfl) ?_
                refine lv_aload_n X.1 X.2.1 dX12_mix_81 rfl (lv_at hl 2 rfl) ?_
                refine lv_iload X.1 X.2.1 dX12_mix_82 (lv_at hl 1 rfl) ?_
                have t_288 : pI S_280 1238 x = v_229 := tI_sA eS_280 ev_229
                have pz_289 : (pI S_280 1238 x).toInt = v_229.toInt := (congrArg Int32.toInt t_288).trans rfl
                refine k_i (rm := { frames := 6, cells := 0, slots := 0, locals := 288 }) (av := [.ref x, .int (i6_224)]) X hw (va_runV (As := [.int (i6_224)]) (rest := [.int (i5_223), .ref q_284]) (cfix X) (k_X12_weightOf l G cy κ S_280 _ x (i6_224) (i6_224_z) hO_281.1 t_283 hz_i6_224 (by first | assumption | omega) (by first | assumption | omega) (by first | assumption | omega) (MIe_free hG ha_x hO_281.fr (by decide +kernel) hp_0)) (cwV 1 X.2.2.2.1 gX12_mix_X12_weightOf rfl rfl rfl (by decide +kernel) ⟨Nat.le_of_ble_eq_true rfl, Nat.le_of_ble_eq_true rfl⟩) (pre_V X hw _ t_283 rfl (by decide) rfl) rfl rfl hl.1 rfl (lv_room (Nat.le_of_ble_eq_true rfl)) dX12_mix_84 ⟨Nat.le_of_ble_eq_true rfl, Nat.le_of_ble_eq_true rfl⟩) 0 0 (Nat.le_of_ble_eq_true rfl) (Nat.le_of_ble_eq_true rfl) (fun rr_290 S_291 H locs hp hw hfr hnw => ?_)
                obtain ⟨e2, hp⟩ := hp
                subst e2
                have rg_292 := And.intro (z_lo rr_290) (z_hi rr_290)
                refine r_iast X hw h_286 rfl (by rw [h_287]; exact z_ix hz_i5_223 (by omega) (by omega)) dX12_mix_87 (fun H locs hw => ?_)
                obtain ⟨S_293, eS_293⟩ : ∃ T, T = sA S_280 q_284 (upd (pA S_280 q_284) (Int32.toNatClampNeg (i5_223)) (rr_290)) := ⟨_, rfl⟩
                rw [← eS_293] at hw
                have hO_294 : Ok Mmi S S_293 := hO_281.sA eS_293 h_286 (by decide +kernel) (uA_1394 hO_281.1 h_286)
                have h_295 : pA S_293 q_284 (Int32.toNatClampNeg (i5_223)) = rr_290 := tA_sAs eS_293
                refine lv_aload_n X.1 X.2.1 dX12_mix_88 rfl (lv_at hl 2 rfl) ?_
                have t_296 : At S_293 x 12 := tAt_sA eS_293 t_283
                obtain ⟨q_297, h_298, h_299, h_300⟩ := gQ_12_1260 hO_294.1 t_296
                refine r_getR (g := 1260) X hw t_296 rfl 60 h_298 (by decide) rfl inn_X12_mix_12 (by decide) (X.2.2.2.1 (.fieldLink RX12 146 "SilkMillModel" "askedPrice" "[I") (by decide +kernel)) rfl (gv_1260 _ _) dX12_mix_89 ?_
                refine lv_iload X.1 X.2.1 dX12_mix_92 (lv_at hl 0 rfl) ?_
                refine lv_aload_n X.1 X.2.1 dX12_mix_94 rfl (lv_at hl 2 rfl) ?_
                refine lv_iload X.1 X.2.1 dX12_mix_95 (lv_at hl 1 rfl) ?_
                have t_301 : pI S_293 1238 x = v_229 := tI_sA eS_293 t_288
                have pz_302 : (pI S_293 1238 x).toInt = v_229.toInt := (congrArg Int32.toInt t_301).trans rfl
                refine k_i (rm := { frames := 7, cells := 0, slots := 0, locals := 336 }) (av := [.ref x, .int (i6_224)]) X hw (va_runV (As := [.int (i6_224)]) (rest := [.int (i5_223), .ref q_297]) (cfix X) (k_X12_priceOf l G cy κ S_293 _ x (i6_224) (i6_224_z) hO_294.1 t_296 hz_i6_224 (by first | assumption | omega) (by first | assumption | omega) (by first | assumption | omega) (MIe_free hG ha_x hO_294.fr (by decide +kernel) hp_0)) (cwV 1 X.2.2.2.1 gX12_mix_X12_priceOf rfl rfl rfl (by decide +kernel) ⟨Nat.le_of_ble_eq_true rfl, Nat.le_of_ble_eq_true rfl⟩) (pre_V X hw _ t_296 rfl (by decide) rfl) rfl rfl hl.1 rfl (lv_room (Nat.le_of_ble_eq_true rfl)) dX12_mix_97 ⟨Nat.le_of_ble_eq_true rfl, Nat.le_of_ble_eq_true rfl⟩) 0 0 (Nat.le_of_ble_eq_true rfl) (Nat.le_of_ble_eq_true rfl) (fun rr_303 S_304 H locs hp hw hfr hnw => ?_)
                obtain ⟨e2, hp⟩ := hp
                subst e2
                have rg_305 := And.intro (z_lo rr_303) (z_hi rr_303)
                refine r_iast X hw h_299 rfl (by rw [h_300]; exact z_ix hz_i5_223 (by omega) (by omega)) dX12_mix_100 (fun H locs hw => ?_)
                obtain ⟨S_306, eS_306⟩ : ∃ T, T = sA S_293 q_297 (upd (pA S_293 q_297) (Int32.toNatClampNeg (i5_223)) (rr_303)) := ⟨_, rfl⟩
                rw [← eS_306] at hw
                have hO_307 : Ok Mmi S S_306 := hO_294.sA eS_306 h_299 (by decide +kernel) (uA_1414 hO_294.1 h_299)
                have h_308 : pA S_306 q_297 (Int32.toNatClampNeg (i5_223)) = rr_303 := tA_sAs eS_306
                obtain ⟨x_309, ex_309⟩ : ∃ y : Int32, y = i5_223 + 1 := ⟨_, rfl⟩
                have z_310 : x_309.toInt = i5_223_z + 1 := z_add ex_309 hz_i5_223 ti_1 (by omega) (by omega)
                refine lv_iinc (v := x_309) (lv' := [(5, .int (x_309)), (6, .int (i6_224)), (0, .ref x), (1, .int (a1)), (2, .int (a2)), (3, .int (a3)), (4, .int (a4))]) X.1 X.2.1 dX12_mix_101 hl (k := 0) rfl (by rw [ex_309]; rfl) (by decide) rfl (fun ls hl => ?_)
                obtain ⟨x_311, ex_311⟩ : ∃ y : Int32, y = i6_224 + 1 := ⟨_, rfl⟩
                have z_312 : x_311.toInt = i6_224_z + 1 := z_add ex_311 hz_i6_224 ti_1 (by omega) (by omega)
                refine lv_iinc (v := x_311) (lv' := [(6, .int (x_311)), (5, .int (x_309)), (0, .ref x), (1, .int (a1)), (2, .int (a2)), (3, .int (a3)), (4, .int (a4))]) X.1 X.2.1 dX12_mix_104 hl (k := 1) rfl (by rw [ex_311]; rfl) (by decide) rfl (fun ls hl => ?_)
                refine lv_goto (tgt := 11) X.1 X.2.1 dX12_mix_107 (by decide) ?_
                have t_313 : At S_306 x 12 := tAt_sA eS_306 t_296
                exact ih_L_222 _ (by omega) _ _ _ _ (x_309) (x_309.toInt) (x_311) (x_311.toInt) rfl hw rfl (by omega) rfl (by omega) t_313 hO_307 (lv_sub hl [1, 0, 2, 3, 4, 5, 6] rfl)
              · have z_b_314 := trivial
                have k_315 : rr_270.toInt > a3_z := z_nle rfl hz_a3 c_273
                refine lv_goto (tgt := 104) X.1 X.2.1 dX12_mix_63 (by decide) ?_
                obtain ⟨x_316, ex_316⟩ : ∃ y : Int32, y = i6_224 + 1 := ⟨_, rfl⟩
                have z_317 : x_316.toInt = i6_224_z + 1 := z_add ex_316 hz_i6_224 ti_1 (by omega) (by omega)
                refine lv_iinc (v := x_316) (lv' := [(6, .int (x_316)), (5, .int (i5_223)), (0, .ref x), (1, .int (a1)), (2, .int (a2)), (3, .int (a3)), (4, .int (a4))]) X.1 X.2.1 dX12_mix_104 hl (k := 1) rfl (by rw [ex_316]; rfl) (by decide) rfl (fun ls hl => ?_)
                refine lv_goto (tgt := 11) X.1 X.2.1 dX12_mix_107 (by decide) ?_
                exact ih_L_222 _ (by omega) _ _ _ _ (i5_223) (i5_223_z) (x_316) (x_316.toInt) rfl hw hz_i5_223 (by omega) rfl (by omega) ha_x_L_226 hO_T_225 (lv_sub hl [1, 0, 2, 3, 4, 5, 6] rfl)
  have t_318 : At S_1 x 12 := tAt_sI eS_1 ha_x
  exact L_222 _ _ _ _ _ (0) (0) (0) (0) rfl hw ti_0 (by omega) ti_0 (by omega) t_318 hO_2 (lv_sub hl [1, 0, 2, 3, 4, 5, 6] rfl)
