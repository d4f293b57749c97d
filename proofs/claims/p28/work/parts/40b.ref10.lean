set_option maxRecDepth 20000 in
theorem ggX12_mix_X12_least : GoodIn wsX12_mix wsX12_least := goodIn_h _ [11, 0, 0, 0, 0, 0, 0, 0, 0, 0, 0, 0, 0, 0, 0, 0, 0, 0, 0, 0, 0, 0, 0, 0, 0, 0, 0, 0, 0, 0, 0, 0, 0, 0, 0, 22, 0, 0, 0, 0, 0, 0, 0, 0, 0, 0, 0, 0, 0, 0, 0, 0, 0, 0, 0, 0, 0, 0, 0, 0, 0, 0, 0, 0, 0, 0, 0, 0, 0, 0, 0, 0, 0, 0, 0, 0, 0, 0, 0, 0, 0, 0, 0, 0, 0, 0, 0, 0, 0, 0, 0, 0, 0, 0, 0, 0, 0, 0, 0, 0, 0] [1, 2, 3, 4, 5, 6, 7, 8, 9, 10, 11, 12, 0, 13, 14, 15, 16, 17, 18, 19, 20, 21, 22, 23, 24, 25, 26, 27, 28, 29, 30, 31, 32, 33, 34, 35, 36, 37, 38, 39, 40, 41, 42, 43, 44, 45, 46, 47, 48, 49, 50, 51, 52, 53, 54, 55, 56, 57, 58, 59, 60, 61, 62, 63, 64, 65, 66, 67, 68, 69, 70, 71, 72, 73, 74, 75, 76, 77, 78, 79, 80, 81, 82, 83, 84, 85, 86, 87, 88, 89, 90, 91, 92, 93, 94, 95, 96, 97, 98, 99, 100] (by decide +kernel) (by decide +kernel)
set_option maxRecDepth 20000 in
theorem gX12_mix_X12_least : GoodIn wsX12_mix (wsV RX12 365 RX12 yX12_least wsX12_least) := goodIn_app (goodIn_of _ (by decide +kernel)) ggX12_mix_X12_least
set_option maxRecDepth 20000 in
theorem ggX12_mix_X12_weightOf : GoodIn wsX12_mix wsX12_weightOf := goodIn_h _ [11, 1, 7, 0, 0, 0, 0, 0, 0, 0, 0, 0, 0, 0, 0, 0, 0, 0, 0, 0, 0, 0, 0, 0, 0, 0, 0, 3, 0, 0, 0, 0, 0, 0, 0, 0, 10, 0, 0, 0, 0, 0, 0, 0, 0, 0, 0, 0, 0, 0, 0, 0, 0, 0, 0, 0, 0, 0, 0, 0, 0, 0, 0, 0, 0, 0, 0, 0, 0, 0, 0, 0, 0, 0, 0, 0, 0, 0, 0, 0, 0, 0, 0, 0, 0, 0, 0, 0, 0, 0, 0, 0, 0, 0, 0, 0, 0, 0, 0, 0, 0, 0] [27, 1, 28, 29, 30, 0, 31, 32, 33, 34, 35, 2, 3, 4, 5, 6, 7, 8, 9, 10, 11, 12, 13, 14, 15, 16, 17, 18, 19, 20, 21, 22, 23, 24, 25, 26, 36, 37, 38, 39, 40, 41, 42, 43, 44, 45, 46, 47, 48, 49, 50, 51, 52, 53, 54, 55, 56, 57, 58, 59, 60, 61, 62, 63, 64, 65, 66, 67, 68, 69, 70, 71, 72, 73, 74, 75, 76, 77, 78, 79, 80, 81, 82, 83, 84, 85, 86, 87, 88, 89, 90, 91, 92, 93, 94, 95, 96, 97, 98, 99, 100, 101] (by decide +kernel) (by decide +kernel)
set_option maxRecDepth 20000 in
theorem gX12_mix_X12_weightOf : GoodIn wsX12_mix (wsV RX12 356 RX12 yX12_weightOf wsX12_weightOf) := goodIn_app (goodIn_of _ (by decide +kernel)) ggX12_mix_X12_weightOf
set_option maxRecDepth 20000 in
theorem ggX12_mix_X12_priceOf : GoodIn wsX12_mix wsX12_priceOf := goodIn_h _ [11, 1, 7, 0, 0, 0, 0, 0, 0, 0, 0, 0, 0, 0, 0, 0, 0, 0, 0, 0, 0, 0, 0, 0, 0, 0, 0, 0, 0, 0, 0, 0, 0, 0, 0, 0, 0, 0, 0, 3, 0, 0, 0, 0, 0, 0, 0, 0, 0, 0, 0, 0, 0, 0, 0, 0, 0, 0, 0, 0, 0, 0, 0, 0, 0, 0, 0, 0, 0, 0, 0, 0, 0, 0, 0, 0, 0, 0, 0, 0, 0, 0, 0, 0, 0, 0, 0, 0, 0, 0, 0, 0, 0, 0, 0, 0, 0, 0, 0, 0, 0, 0, 0, 0, 0, 0, 0, 0, 0, 0, 0, 0] [39, 40, 27, 28, 29, 0, 30, 1, 31, 32, 33, 34, 35, 36, 37, 38, 2, 3, 4, 5, 6, 7, 8, 9, 10, 11, 12, 13, 14, 15, 16, 17, 18, 19, 20, 21, 22, 23, 24, 25, 26, 41, 42, 43, 44, 45, 46, 47, 48, 49, 50, 51, 52, 53, 54, 55, 56, 57, 58, 59, 60, 61, 62, 63, 64, 65, 66, 67, 68, 69, 70, 71, 72, 73, 74, 75, 76, 77, 78, 79, 80, 81, 82, 83, 84, 85, 86, 87, 88, 89, 90, 91, 92, 93, 94, 95, 96, 97, 98, 99, 100, 101, 102, 103, 104, 105, 106, 107, 108, 109, 110, 111] (by decide +kernel) (by decide +kernel)
set_option maxRecDepth 20000 in
theorem gX12_mix_X12_priceOf : GoodIn wsX12_mix (wsV RX12 375 RX12 yX12_priceOf wsX12_priceOf) := goodIn_app (goodIn_of _ (by decide +kernel)) ggX12_mix_X12_priceOf
theorem dX12_mix_0 : decode cX12_mix 0 = .ok (.aload_n 0, 1) := by decide +kernel
theorem dX12_mix_1 : decode cX12_mix 1 = .ok (.iconst 0, 1) := by decide +kernel
theorem dX12_mix_2 : decode cX12_mix 2 = .ok (.putfield 161, 3) := by decide +kernel
theorem dX12_mix_5 : decode cX12_mix 5 = .ok (.iconst 0, 1) := by decide +kernel
theorem dX12_mix_6 : decode cX12_mix 6 = .ok (.istore 5, 2) := by decide +kernel
theorem dX12_mix_8 : decode cX12_mix 8 = .ok (.iconst 0, 1) := by decide +kernel
theorem dX12_mix_9 : decode cX12_mix 9 = .ok (.istore 6, 2) := by decide +kernel
theorem dX12_mix_11 : decode cX12_mix 11 = .ok (.iload 6, 2) := by decide +kernel
theorem dX12_mix_13 : decode cX12_mix 13 = .ok (.aload_n 0, 1) := by decide +kernel
theorem dX12_mix_14 : decode cX12_mix 14 = .ok (.getfield 290, 3) := by decide +kernel
theorem dX12_mix_17 : decode cX12_mix 17 = .ok (.if_icmp .ge 93, 3) := by decide +kernel
theorem dX12_mix_20 : decode cX12_mix 20 = .ok (.iload 5, 2) := by decide +kernel
theorem dX12_mix_22 : decode cX12_mix 22 = .ok (.bipush 14, 2) := by decide +kernel
theorem dX12_mix_24 : decode cX12_mix 24 = .ok (.if_icmp .ge 86, 3) := by decide +kernel
theorem dX12_mix_27 : decode cX12_mix 27 = .ok (.iload_n 1, 1) := by decide +kernel
theorem dX12_mix_28 : decode cX12_mix 28 = .ok (.ifCond .le 82, 3) := by decide +kernel
theorem dX12_mix_31 : decode cX12_mix 31 = .ok (.aload_n 0, 1) := by decide +kernel
theorem dX12_mix_32 : decode cX12_mix 32 = .ok (.getfield 115, 3) := by decide +kernel
theorem dX12_mix_35 : decode cX12_mix 35 = .ok (.iload 6, 2) := by decide +kernel
theorem dX12_mix_37 : decode cX12_mix 37 = .ok (.baload, 1) := by decide +kernel
theorem dX12_mix_38 : decode cX12_mix 38 = .ok (.ifCond .ne 66, 3) := by decide +kernel
theorem dX12_mix_41 : decode cX12_mix 41 = .ok (.aload_n 0, 1) := by decide +kernel
theorem dX12_mix_42 : decode cX12_mix 42 = .ok (.iload 6, 2) := by decide +kernel
theorem dX12_mix_44 : decode cX12_mix 44 = .ok (.iconst 0, 1) := by decide +kernel
theorem dX12_mix_45 : decode cX12_mix 45 = .ok (.invokevirtual 365, 3) := by decide +kernel
theorem dX12_mix_48 : decode cX12_mix 48 = .ok (.iload_n 2, 1) := by decide +kernel
theorem dX12_mix_49 : decode cX12_mix 49 = .ok (.if_icmp .lt 55, 3) := by decide +kernel
theorem dX12_mix_52 : decode cX12_mix 52 = .ok (.aload_n 0, 1) := by decide +kernel
theorem dX12_mix_53 : decode cX12_mix 53 = .ok (.iload 6, 2) := by decide +kernel
theorem dX12_mix_55 : decode cX12_mix 55 = .ok (.iconst 1, 1) := by decide +kernel
theorem dX12_mix_56 : decode cX12_mix 56 = .ok (.invokevirtual 365, 3) := by decide +kernel
theorem dX12_mix_59 : decode cX12_mix 59 = .ok (.iload_n 3, 1) := by decide +kernel
theorem dX12_mix_60 : decode cX12_mix 60 = .ok (.if_icmp .le 6, 3) := by decide +kernel
theorem dX12_mix_63 : decode cX12_mix 63 = .ok (.goto 41, 3) := by decide +kernel
theorem dX12_mix_66 : decode cX12_mix 66 = .ok (.aload_n 0, 1) := by decide +kernel
theorem dX12_mix_67 : decode cX12_mix 67 = .ok (.getfield 140, 3) := by decide +kernel
theorem dX12_mix_70 : decode cX12_mix 70 = .ok (.iload 5, 2) := by decide +kernel
theorem dX12_mix_72 : decode cX12_mix 72 = .ok (.iload 6, 2) := by decide +kernel
theorem dX12_mix_74 : decode cX12_mix 74 = .ok (.iastore, 1) := by decide +kernel
theorem dX12_mix_75 : decode cX12_mix 75 = .ok (.aload_n 0, 1) := by decide +kernel
theorem dX12_mix_76 : decode cX12_mix 76 = .ok (.getfield 143, 3) := by decide +kernel
theorem dX12_mix_79 : decode cX12_mix 79 = .ok (.iload 5, 2) := by decide +kernel
theorem dX12_mix_81 : decode cX12_mix 81 = .ok (.aload_n 0, 1) := by decide +kernel
theorem dX12_mix_82 : decode cX12_mix 82 = .ok (.iload 6, 2) := by decide +kernel
theorem dX12_mix_84 : decode cX12_mix 84 = .ok (.invokevirtual 356, 3) := by decide +kernel
theorem dX12_mix_87 : decode cX12_mix 87 = .ok (.iastore, 1) := by decide +kernel
theorem dX12_mix_88 : decode cX12_mix 88 = .ok (.aload_n 0, 1) := by decide +kernel
theorem dX12_mix_89 : decode cX12_mix 89 = .ok (.getfield 146, 3) := by decide +kernel
theorem dX12_mix_92 : decode cX12_mix 92 = .ok (.iload 5, 2) := by decide +kernel
theorem dX12_mix_94 : decode cX12_mix 94 = .ok (.aload_n 0, 1) := by decide +kernel
theorem dX12_mix_95 : decode cX12_mix 95 = .ok (.iload 6, 2) := by decide +kernel
theorem dX12_mix_97 : decode cX12_mix 97 = .ok (.invokevirtual 375, 3) := by decide +kernel
theorem dX12_mix_100 : decode cX12_mix 100 = .ok (.iastore, 1) := by decide +kernel
theorem dX12_mix_101 : decode cX12_mix 101 = .ok (.iinc 5 1, 3) := by decide +kernel
theorem dX12_mix_104 : decode cX12_mix 104 = .ok (.iinc 6 1, 3) := by decide +kernel
theorem dX12_mix_107 : decode cX12_mix 107 = .ok (.goto (-96), 3) := by decide +kernel
theorem dX12_mix_110 : decode cX12_mix 110 = .ok (.iconst 0, 1) := by decide +kernel
theorem dX12_mix_111 : decode cX12_mix 111 = .ok (.istore 6, 2) := by decide +kernel
theorem dX12_mix_113 : decode cX12_mix 113 = .ok (.iconst (-1), 1) := by decide +kernel
theorem dX12_mix_114 : decode cX12_mix 114 = .ok (.istore 7, 2) := by decide +kernel
theorem dX12_mix_116 : decode cX12_mix 116 = .ok (.iconst 1, 1) := by decide +kernel
theorem dX12_mix_117 : decode cX12_mix 117 = .ok (.istore 8, 2) := by decide +kernel
theorem dX12_mix_119 : decode cX12_mix 119 = .ok (.iload 8, 2) := by decide +kernel
theorem dX12_mix_121 : decode cX12_mix 121 = .ok (.iconst 1, 1) := by decide +kernel
theorem dX12_mix_122 : decode cX12_mix 122 = .ok (.iload 5, 2) := by decide +kernel
theorem dX12_mix_124 : decode cX12_mix 124 = .ok (.ishl, 1) := by decide +kernel
theorem dX12_mix_125 : decode cX12_mix 125 = .ok (.if_icmp .ge 139, 3) := by decide +kernel
theorem dX12_mix_128 : decode cX12_mix 128 = .ok (.iconst 0, 1) := by decide +kernel
theorem dX12_mix_129 : decode cX12_mix 129 = .ok (.istore 9, 2) := by decide +kernel
theorem dX12_mix_131 : decode cX12_mix 131 = .ok (.iconst 0, 1) := by decide +kernel
theorem dX12_mix_132 : decode cX12_mix 132 = .ok (.istore 10, 2) := by decide +kernel
theorem dX12_mix_134 : decode cX12_mix 134 = .ok (.iconst 0, 1) := by decide +kernel
theorem dX12_mix_135 : decode cX12_mix 135 = .ok (.istore 11, 2) := by decide +kernel
theorem dX12_mix_137 : decode cX12_mix 137 = .ok (.iload 11, 2) := by decide +kernel
theorem dX12_mix_139 : decode cX12_mix 139 = .ok (.iload 5, 2) := by decide +kernel
theorem dX12_mix_141 : decode cX12_mix 141 = .ok (.if_icmp .ge 46, 3) := by decide +kernel
theorem dX12_mix_144 : decode cX12_mix 144 = .ok (.iload 8, 2) := by decide +kernel
theorem dX12_mix_146 : decode cX12_mix 146 = .ok (.iload 11, 2) := by decide +kernel
theorem dX12_mix_148 : decode cX12_mix 148 = .ok (.ishr, 1) := by decide +kernel
theorem dX12_mix_149 : decode cX12_mix 149 = .ok (.iconst 1, 1) := by decide +kernel
theorem dX12_mix_150 : decode cX12_mix 150 = .ok (.iand, 1) := by decide +kernel
theorem dX12_mix_151 : decode cX12_mix 151 = .ok (.ifCond .ne 6, 3) := by decide +kernel
theorem dX12_mix_154 : decode cX12_mix 154 = .ok (.goto 27, 3) := by decide +kernel
theorem dX12_mix_157 : decode cX12_mix 157 = .ok (.iload 9, 2) := by decide +kernel
theorem dX12_mix_159 : decode cX12_mix 159 = .ok (.aload_n 0, 1) := by decide +kernel
theorem dX12_mix_160 : decode cX12_mix 160 = .ok (.getfield 143, 3) := by decide +kernel
theorem dX12_mix_163 : decode cX12_mix 163 = .ok (.iload 11, 2) := by decide +kernel
theorem dX12_mix_165 : decode cX12_mix 165 = .ok (.iaload, 1) := by decide +kernel
theorem dX12_mix_166 : decode cX12_mix 166 = .ok (.iadd, 1) := by decide +kernel
theorem dX12_mix_167 : decode cX12_mix 167 = .ok (.istore 9, 2) := by decide +kernel
theorem dX12_mix_169 : decode cX12_mix 169 = .ok (.iload 10, 2) := by decide +kernel
theorem dX12_mix_171 : decode cX12_mix 171 = .ok (.aload_n 0, 1) := by decide +kernel
theorem dX12_mix_172 : decode cX12_mix 172 = .ok (.getfield 146, 3) := by decide +kernel
theorem dX12_mix_175 : decode cX12_mix 175 = .ok (.iload 11, 2) := by decide +kernel
theorem dX12_mix_177 : decode cX12_mix 177 = .ok (.iaload, 1) := by decide +kernel
theorem dX12_mix_178 : decode cX12_mix 178 = .ok (.iadd, 1) := by decide +kernel
theorem dX12_mix_179 : decode cX12_mix 179 = .ok (.istore 10, 2) := by decide +kernel
theorem dX12_mix_181 : decode cX12_mix 181 = .ok (.iinc 11 1, 3) := by decide +kernel
theorem dX12_mix_184 : decode cX12_mix 184 = .ok (.goto (-47), 3) := by decide +kernel
theorem dX12_mix_187 : decode cX12_mix 187 = .ok (.iload 9, 2) := by decide +kernel
theorem dX12_mix_189 : decode cX12_mix 189 = .ok (.iload_n 1, 1) := by decide +kernel
theorem dX12_mix_190 : decode cX12_mix 190 = .ok (.if_icmp .ge 6, 3) := by decide +kernel
theorem dX12_mix_193 : decode cX12_mix 193 = .ok (.goto 65, 3) := by decide +kernel
theorem dX12_mix_196 : decode cX12_mix 196 = .ok (.iload 8, 2) := by decide +kernel
theorem dX12_mix_198 : decode cX12_mix 198 = .ok (.iload 6, 2) := by decide +kernel
theorem dX12_mix_200 : decode cX12_mix 200 = .ok (.ixor, 1) := by decide +kernel
theorem dX12_mix_201 : decode cX12_mix 201 = .ok (.istore 11, 2) := by decide +kernel
theorem dX12_mix_203 : decode cX12_mix 203 = .ok (.iload 8, 2) := by decide +kernel
theorem dX12_mix_205 : decode cX12_mix 205 = .ok (.iload 11, 2) := by decide +kernel
theorem dX12_mix_207 : decode cX12_mix 207 = .ok (.iand, 1) := by decide +kernel
theorem dX12_mix_208 : decode cX12_mix 208 = .ok (.iload 11, 2) := by decide +kernel
theorem dX12_mix_210 : decode cX12_mix 210 = .ok (.ineg, 1) := by decide +kernel
theorem dX12_mix_211 : decode cX12_mix 211 = .ok (.iand, 1) := by decide +kernel
theorem dX12_mix_212 : decode cX12_mix 212 = .ok (.ifCond .eq 7, 3) := by decide +kernel
theorem dX12_mix_215 : decode cX12_mix 215 = .ok (.iconst 1, 1) := by decide +kernel
theorem dX12_mix_216 : decode cX12_mix 216 = .ok (.goto 4, 3) := by decide +kernel
theorem dX12_mix_219 : decode cX12_mix 219 = .ok (.iconst 0, 1) := by decide +kernel
theorem dX12_mix_220 : decode cX12_mix 220 = .ok (.istore 12, 2) := by decide +kernel
theorem dX12_mix_222 : decode cX12_mix 222 = .ok (.iload 7, 2) := by decide +kernel
theorem dX12_mix_224 : decode cX12_mix 224 = .ok (.iconst (-1), 1) := by decide +kernel
theorem dX12_mix_225 : decode cX12_mix 225 = .ok (.if_icmp .eq 25, 3) := by decide +kernel
theorem dX12_mix_228 : decode cX12_mix 228 = .ok (.iload 10, 2) := by decide +kernel
theorem dX12_mix_230 : decode cX12_mix 230 = .ok (.iload 7, 2) := by decide +kernel
theorem dX12_mix_232 : decode cX12_mix 232 = .ok (.if_icmp .gt 26, 3) := by decide +kernel
theorem dX12_mix_235 : decode cX12_mix 235 = .ok (.iload 10, 2) := by decide +kernel
theorem dX12_mix_237 : decode cX12_mix 237 = .ok (.iload 7, 2) := by decide +kernel
theorem dX12_mix_239 : decode cX12_mix 239 = .ok (.if_icmp .ne 11, 3) := by decide +kernel
theorem dX12_mix_242 : decode cX12_mix 242 = .ok (.iload 12, 2) := by decide +kernel
theorem dX12_mix_244 : decode cX12_mix 244 = .ok (.ifCond .ne 6, 3) := by decide +kernel
theorem dX12_mix_247 : decode cX12_mix 247 = .ok (.goto 11, 3) := by decide +kernel
theorem dX12_mix_250 : decode cX12_mix 250 = .ok (.iload 8, 2) := by decide +kernel
theorem dX12_mix_252 : decode cX12_mix 252 = .ok (.istore 6, 2) := by decide +kernel
theorem dX12_mix_254 : decode cX12_mix 254 = .ok (.iload 10, 2) := by decide +kernel
theorem dX12_mix_256 : decode cX12_mix 256 = .ok (.istore 7, 2) := by decide +kernel
theorem dX12_mix_258 : decode cX12_mix 258 = .ok (.iinc 8 1, 3) := by decide +kernel
theorem dX12_mix_261 : decode cX12_mix 261 = .ok (.goto (-142), 3) := by decide +kernel
theorem dX12_mix_264 : decode cX12_mix 264 = .ok (.iload 7, 2) := by decide +kernel
theorem dX12_mix_266 : decode cX12_mix 266 = .ok (.iconst (-1), 1) := by decide +kernel
theorem dX12_mix_267 : decode cX12_mix 267 = .ok (.if_icmp .ne 5, 3) := by decide +kernel
theorem dX12_mix_270 : decode cX12_mix 270 = .ok (.iconst (-1), 1) := by decide +kernel
theorem dX12_mix_271 : decode cX12_mix 271 = .ok (.ireturn, 1) := by decide +kernel
theorem dX12_mix_272 : decode cX12_mix 272 = .ok (.iconst 0, 1) := by decide +kernel
theorem dX12_mix_273 : decode cX12_mix 273 = .ok (.istore 8, 2) := by decide +kernel
theorem dX12_mix_275 : decode cX12_mix 275 = .ok (.iload 8, 2) := by decide +kernel
theorem dX12_mix_277 : decode cX12_mix 277 = .ok (.bipush 40, 2) := by decide +kernel
theorem dX12_mix_279 : decode cX12_mix 279 = .ok (.if_icmp .ge 17, 3) := by decide +kernel
theorem dX12_mix_282 : decode cX12_mix 282 = .ok (.aload_n 0, 1) := by decide +kernel
theorem dX12_mix_283 : decode cX12_mix 283 = .ok (.getfield 149, 3) := by decide +kernel
theorem dX12_mix_286 : decode cX12_mix 286 = .ok (.iload 8, 2) := by decide +kernel
theorem dX12_mix_288 : decode cX12_mix 288 = .ok (.iconst 0, 1) := by decide +kernel
theorem dX12_mix_289 : decode cX12_mix 289 = .ok (.bastore, 1) := by decide +kernel
theorem dX12_mix_290 : decode cX12_mix 290 = .ok (.iinc 8 1, 3) := by decide +kernel
theorem dX12_mix_293 : decode cX12_mix 293 = .ok (.goto (-18), 3) := by decide +kernel
theorem dX12_mix_296 : decode cX12_mix 296 = .ok (.iconst 0, 1) := by decide +kernel
theorem dX12_mix_297 : decode cX12_mix 297 = .ok (.istore 8, 2) := by decide +kernel
theorem dX12_mix_299 : decode cX12_mix 299 = .ok (.iload 8, 2) := by decide +kernel
theorem dX12_mix_301 : decode cX12_mix 301 = .ok (.iload 5, 2) := by decide +kernel
theorem dX12_mix_303 : decode cX12_mix 303 = .ok (.if_icmp .ge 53, 3) := by decide +kernel
theorem dX12_mix_306 : decode cX12_mix 306 = .ok (.iload 6, 2) := by decide +kernel
theorem dX12_mix_308 : decode cX12_mix 308 = .ok (.iload 8, 2) := by decide +kernel
theorem dX12_mix_310 : decode cX12_mix 310 = .ok (.ishr, 1) := by decide +kernel
theorem dX12_mix_311 : decode cX12_mix 311 = .ok (.iconst 1, 1) := by decide +kernel
theorem dX12_mix_312 : decode cX12_mix 312 = .ok (.iand, 1) := by decide +kernel
theorem dX12_mix_313 : decode cX12_mix 313 = .ok (.ifCond .ne 6, 3) := by decide +kernel
theorem dX12_mix_316 : decode cX12_mix 316 = .ok (.goto 34, 3) := by decide +kernel
theorem dX12_mix_319 : decode cX12_mix 319 = .ok (.aload_n 0, 1) := by decide +kernel
theorem dX12_mix_320 : decode cX12_mix 320 = .ok (.getfield 149, 3) := by decide +kernel
theorem dX12_mix_323 : decode cX12_mix 323 = .ok (.aload_n 0, 1) := by decide +kernel
theorem dX12_mix_324 : decode cX12_mix 324 = .ok (.getfield 140, 3) := by decide +kernel
theorem dX12_mix_327 : decode cX12_mix 327 = .ok (.iload 8, 2) := by decide +kernel
theorem dX12_mix_329 : decode cX12_mix 329 = .ok (.iaload, 1) := by decide +kernel
theorem dX12_mix_330 : decode cX12_mix 330 = .ok (.iconst 1, 1) := by decide +kernel
theorem dX12_mix_331 : decode cX12_mix 331 = .ok (.bastore, 1) := by decide +kernel
theorem dX12_mix_332 : decode cX12_mix 332 = .ok (.iload 4, 2) := by decide +kernel
theorem dX12_mix_334 : decode cX12_mix 334 = .ok (.ifCond .eq 16, 3) := by decide +kernel
theorem dX12_mix_337 : decode cX12_mix 337 = .ok (.aload_n 0, 1) := by decide +kernel
theorem dX12_mix_338 : decode cX12_mix 338 = .ok (.getfield 115, 3) := by decide +kernel
theorem dX12_mix_341 : decode cX12_mix 341 = .ok (.aload_n 0, 1) := by decide +kernel
theorem dX12_mix_342 : decode cX12_mix 342 = .ok (.getfield 140, 3) := by decide +kernel
theorem dX12_mix_345 : decode cX12_mix 345 = .ok (.iload 8, 2) := by decide +kernel
theorem dX12_mix_347 : decode cX12_mix 347 = .ok (.iaload, 1) := by decide +kernel
theorem dX12_mix_348 : decode cX12_mix 348 = .ok (.iconst 1, 1) := by decide +kernel
theorem dX12_mix_349 : decode cX12_mix 349 = .ok (.bastore, 1) := by decide +kernel
theorem dX12_mix_350 : decode cX12_mix 350 = .ok (.iinc 8 1, 3) := by decide +kernel
theorem dX12_mix_353 : decode cX12_mix 353 = .ok (.goto (-54), 3) := by decide +kernel
theorem dX12_mix_356 : decode cX12_mix 356 = .ok (.iload 7, 2) := by decide +kernel
theorem dX12_mix_358 : decode cX12_mix 358 = .ok (.ireturn, 1) := by decide +kernel
theorem inn_X12_mix_12 : ∀ w ∈ u_ws RX12 TX12 66, w ∈ wsX12_mix := fun w h => List.mem_cons_of_mem _ (List.mem_append_right _ h)
