set_option maxRecDepth 20000 in
theorem ggX12_program_X12_isPot : GoodIn wsX12_program wsX12_isPot := goodIn_h _ [17, 0, 0, 0, 0, 0, 88, 0, 0, 0, 0, 0, 0, 0, 0, 0, 0, 0, 0, 0, 0, 0, 0, 0, 0, 0, 0, 0, 0, 0, 0, 0, 0, 0, 0, 0, 0, 0, 0, 0, 0, 0, 0, 0, 0, 0, 0, 0, 0, 0, 0, 0, 0, 0, 0, 0, 0, 0, 0, 0, 0, 0, 0, 0, 0, 0, 0, 0, 0, 0, 0, 0] [1, 2, 3, 4, 0, 5, 6, 7, 8, 9, 10, 11, 12, 13, 14, 15, 16, 17, 18, 19, 20, 21, 22, 23, 24, 25, 26, 27, 28, 29, 30, 31, 32, 33, 34, 35, 36, 37, 38, 39, 40, 41, 42, 43, 44, 45, 46, 47, 48, 49, 50, 51, 52, 53, 54, 55, 56, 57, 58, 59, 60, 61, 62, 63, 64, 65, 66, 67, 68, 69, 70, 71] (by decide +kernel) (by decide +kernel)
set_option maxRecDepth 20000 in
theorem gX12_program_X12_isPot : GoodIn wsX12_program (wsV RX12 200 RX12 yX12_isPot wsX12_isPot) := goodIn_app (goodIn_of _ (by decide +kernel)) ggX12_program_X12_isPot
set_option maxRecDepth 20000 in
theorem ggX12_program_X12_token : GoodIn wsX12_program wsX12_token := goodIn_h _ [5, 0, 0, 9, 2, 0, 0, 3, 0, 0, 0, 0, 0, 0, 0, 77, 0, 0, 0, 0, 0, 0, 0, 0, 0, 0, 0, 0, 0, 0, 0, 0, 0, 0, 0, 0, 0, 0, 0, 0, 0, 0, 0, 0, 0, 0, 0, 0, 0, 0, 0, 0, 0, 0, 0, 0, 0, 0, 0, 0, 0, 0, 0, 0, 0, 0, 0, 0, 0, 0, 0, 0, 0, 0, 0, 0, 0, 0, 0, 0, 0] [7, 0, 8, 2, 1, 9, 10, 11, 12, 3, 13, 14, 4, 5, 6, 15, 16, 17, 18, 19, 20, 21, 22, 23, 24, 25, 26, 27, 28, 29, 30, 31, 32, 33, 34, 35, 36, 37, 38, 39, 40, 41, 42, 43, 44, 45, 46, 47, 48, 49, 50, 51, 52, 53, 54, 55, 56, 57, 58, 59, 60, 61, 62, 63, 64, 65, 66, 67, 68, 69, 70, 71, 72, 73, 74, 75, 76, 77, 78, 79, 80] (by decide +kernel) (by decide +kernel)
set_option maxRecDepth 20000 in
theorem gX12_program_X12_token : GoodIn wsX12_program (wsV RX12 249 RX12 yX12_token wsX12_token) := goodIn_app (goodIn_of _ (by decide +kernel)) ggX12_program_X12_token
set_option maxRecDepth 20000 in
theorem ggX12_program_X12_rule : GoodIn wsX12_program wsX12_rule := goodIn_h _ [2, 0, 0, 0, 0, 0, 0, 0, 0, 0, 0, 0, 3, 2, 0, 0, 0, 0, 0, 0, 0, 0, 0, 0, 0, 0, 0, 3, 0, 0, 0, 0, 0, 0, 0, 0, 0, 0, 0, 0, 0, 0, 0, 0, 0, 0, 0, 0, 0, 0, 0, 0, 0, 0, 0, 0, 0, 0, 0, 0, 0, 0, 0, 0, 0, 0, 0, 0, 0, 0, 0, 0, 0, 0, 0, 0, 0, 0, 0, 0, 0, 0, 0, 0, 0, 0, 0, 0, 0, 0, 0, 0, 0, 0, 0, 0, 0, 0, 0, 0, 0, 0, 0, 0, 0, 0, 0, 0, 0, 0, 0, 0, 0, 0, 0, 0, 0, 0, 0, 0, 0, 0, 0, 0, 0, 0, 0, 0, 0, 0, 0, 0, 0, 0, 0, 0, 0, 0, 0, 0, 0, 0, 0, 0, 0, 0, 0, 0, 0, 0, 0, 0, 0, 0, 0, 0, 0, 0, 0, 0, 0, 0, 0, 0, 0, 0, 0] [27, 2, 8, 6, 7, 28, 29, 30, 12, 31, 0, 3, 20, 32, 33, 34, 35, 36, 37, 38, 39, 40, 41, 42, 43, 22, 23, 24, 25, 5, 26, 44, 45, 46, 47, 48, 49, 50, 51, 52, 53, 54, 55, 56, 57, 58, 59, 60, 61, 62, 63, 64, 65, 66, 67, 68, 69, 70, 71, 72, 73, 74, 75, 76, 77, 78, 79, 80, 81, 82, 83, 84, 4, 85, 86, 87, 88, 1, 16, 17, 18, 19, 21, 13, 14, 15, 89, 90, 91, 92, 9, 10, 11, 93, 94, 95, 96, 97, 98, 99, 100, 101, 102, 103, 104, 105, 106, 107, 108, 109, 110, 111, 112, 113, 114, 115, 116, 117, 118, 119, 120, 121, 122, 123, 124, 125, 126, 127, 128, 129, 130, 131, 132, 133, 134, 135, 136, 137, 138, 139, 140, 141, 142, 143, 144, 145, 146, 147, 148, 149, 150, 151, 152, 153, 154, 155, 156, 157, 158, 159, 160, 161, 162, 163, 164, 165, 166] (by decide +kernel) (by decide +kernel)
set_option maxRecDepth 20000 in
theorem gX12_program_X12_rule : GoodIn wsX12_program (wsV RX12 283 RX12 yX12_rule wsX12_rule) := goodIn_app (goodIn_of _ (by decide +kernel)) ggX12_program_X12_rule
theorem dX12_program_0 : decode cX12_program 0 = .ok (.aload_n 0, 1) := by decide +kernel
theorem dX12_program_1 : decode cX12_program 1 = .ok (.iconst 0, 1) := by decide +kernel
theorem dX12_program_2 : decode cX12_program 2 = .ok (.putfield 161, 3) := by decide +kernel
theorem dX12_program_5 : decode cX12_program 5 = .ok (.aload_n 0, 1) := by decide +kernel
theorem dX12_program_6 : decode cX12_program 6 = .ok (.iload_n 1, 1) := by decide +kernel
theorem dX12_program_7 : decode cX12_program 7 = .ok (.invokevirtual 200, 3) := by decide +kernel
theorem dX12_program_10 : decode cX12_program 10 = .ok (.ifCond .ne 5, 3) := by decide +kernel
theorem dX12_program_13 : decode cX12_program 13 = .ok (.iconst (-1), 1) := by decide +kernel
theorem dX12_program_14 : decode cX12_program 14 = .ok (.ireturn, 1) := by decide +kernel
theorem dX12_program_15 : decode cX12_program 15 = .ok (.aload_n 0, 1) := by decide +kernel
theorem dX12_program_16 : decode cX12_program 16 = .ok (.iconst 0, 1) := by decide +kernel
theorem dX12_program_17 : decode cX12_program 17 = .ok (.putfield 229, 3) := by decide +kernel
theorem dX12_program_20 : decode cX12_program 20 = .ok (.aload_n 0, 1) := by decide +kernel
theorem dX12_program_21 : decode cX12_program 21 = .ok (.iconst (-1), 1) := by decide +kernel
theorem dX12_program_22 : decode cX12_program 22 = .ok (.putfield 86, 3) := by decide +kernel
theorem dX12_program_25 : decode cX12_program 25 = .ok (.aload_n 0, 1) := by decide +kernel
theorem dX12_program_26 : decode cX12_program 26 = .ok (.getfield 61, 3) := by decide +kernel
theorem dX12_program_29 : decode cX12_program 29 = .ok (.iconst 4, 1) := by decide +kernel
theorem dX12_program_30 : decode cX12_program 30 = .ok (.iconst 0, 1) := by decide +kernel
theorem dX12_program_31 : decode cX12_program 31 = .ok (.iastore, 1) := by decide +kernel
theorem dX12_program_32 : decode cX12_program 32 = .ok (.aload_n 0, 1) := by decide +kernel
theorem dX12_program_33 : decode cX12_program 33 = .ok (.iconst 0, 1) := by decide +kernel
theorem dX12_program_34 : decode cX12_program 34 = .ok (.putfield 214, 3) := by decide +kernel
theorem dX12_program_37 : decode cX12_program 37 = .ok (.aload_n 0, 1) := by decide +kernel
theorem dX12_program_38 : decode cX12_program 38 = .ok (.invokevirtual 249, 3) := by decide +kernel
theorem dX12_program_41 : decode cX12_program 41 = .ok (.iconst 1, 1) := by decide +kernel
theorem dX12_program_42 : decode cX12_program 42 = .ok (.istore_n 2, 1) := by decide +kernel
theorem dX12_program_43 : decode cX12_program 43 = .ok (.iload_n 2, 1) := by decide +kernel
theorem dX12_program_44 : decode cX12_program 44 = .ok (.ifCond .eq 18, 3) := by decide +kernel
theorem dX12_program_47 : decode cX12_program 47 = .ok (.aload_n 0, 1) := by decide +kernel
theorem dX12_program_48 : decode cX12_program 48 = .ok (.getfield 223, 3) := by decide +kernel
theorem dX12_program_51 : decode cX12_program 51 = .ok (.ifCond .eq 11, 3) := by decide +kernel
theorem dX12_program_54 : decode cX12_program 54 = .ok (.aload_n 0, 1) := by decide +kernel
theorem dX12_program_55 : decode cX12_program 55 = .ok (.invokevirtual 283, 3) := by decide +kernel
theorem dX12_program_58 : decode cX12_program 58 = .ok (.istore_n 2, 1) := by decide +kernel
theorem dX12_program_59 : decode cX12_program 59 = .ok (.goto (-16), 3) := by decide +kernel
theorem dX12_program_62 : decode cX12_program 62 = .ok (.aload_n 0, 1) := by decide +kernel
theorem dX12_program_63 : decode cX12_program 63 = .ok (.iconst 0, 1) := by decide +kernel
theorem dX12_program_64 : decode cX12_program 64 = .ok (.putfield 211, 3) := by decide +kernel
theorem dX12_program_67 : decode cX12_program 67 = .ok (.aload_n 0, 1) := by decide +kernel
theorem dX12_program_68 : decode cX12_program 68 = .ok (.getfield 229, 3) := by decide +kernel
theorem dX12_program_71 : decode cX12_program 71 = .ok (.ifCond .le 11, 3) := by decide +kernel
theorem dX12_program_74 : decode cX12_program 74 = .ok (.aload_n 0, 1) := by decide +kernel
theorem dX12_program_75 : decode cX12_program 75 = .ok (.getfield 229, 3) := by decide +kernel
theorem dX12_program_78 : decode cX12_program 78 = .ok (.bipush 10, 2) := by decide +kernel
theorem dX12_program_80 : decode cX12_program 80 = .ok (.isub, 1) := by decide +kernel
theorem dX12_program_81 : decode cX12_program 81 = .ok (.ireturn, 1) := by decide +kernel
theorem dX12_program_82 : decode cX12_program 82 = .ok (.aload_n 0, 1) := by decide +kernel
theorem dX12_program_83 : decode cX12_program 83 = .ok (.getfield 61, 3) := by decide +kernel
theorem dX12_program_86 : decode cX12_program 86 = .ok (.iload_n 1, 1) := by decide +kernel
theorem dX12_program_87 : decode cX12_program 87 = .ok (.aload_n 0, 1) := by decide +kernel
theorem dX12_program_88 : decode cX12_program 88 = .ok (.getfield 61, 3) := by decide +kernel
theorem dX12_program_91 : decode cX12_program 91 = .ok (.iconst 4, 1) := by decide +kernel
theorem dX12_program_92 : decode cX12_program 92 = .ok (.iaload, 1) := by decide +kernel
theorem dX12_program_93 : decode cX12_program 93 = .ok (.iastore, 1) := by decide +kernel
theorem dX12_program_94 : decode cX12_program 94 = .ok (.iconst 0, 1) := by decide +kernel
theorem dX12_program_95 : decode cX12_program 95 = .ok (.istore_n 3, 1) := by decide +kernel
theorem dX12_program_96 : decode cX12_program 96 = .ok (.iload_n 3, 1) := by decide +kernel
theorem dX12_program_97 : decode cX12_program 97 = .ok (.bipush 12, 2) := by decide +kernel
theorem dX12_program_99 : decode cX12_program 99 = .ok (.if_icmp .ge 174, 3) := by decide +kernel
theorem dX12_program_102 : decode cX12_program 102 = .ok (.aload_n 0, 1) := by decide +kernel
theorem dX12_program_103 : decode cX12_program 103 = .ok (.getfield 64, 3) := by decide +kernel
theorem dX12_program_106 : decode cX12_program 106 = .ok (.bipush 12, 2) := by decide +kernel
theorem dX12_program_108 : decode cX12_program 108 = .ok (.iload_n 1, 1) := by decide +kernel
theorem dX12_program_109 : decode cX12_program 109 = .ok (.imul, 1) := by decide +kernel
theorem dX12_program_110 : decode cX12_program 110 = .ok (.iload_n 3, 1) := by decide +kernel
theorem dX12_program_111 : decode cX12_program 111 = .ok (.iadd, 1) := by decide +kernel
theorem dX12_program_112 : decode cX12_program 112 = .ok (.aload_n 0, 1) := by decide +kernel
theorem dX12_program_113 : decode cX12_program 113 = .ok (.getfield 64, 3) := by decide +kernel
theorem dX12_program_116 : decode cX12_program 116 = .ok (.bipush 48, 2) := by decide +kernel
theorem dX12_program_118 : decode cX12_program 118 = .ok (.iload_n 3, 1) := by decide +kernel
theorem dX12_program_119 : decode cX12_program 119 = .ok (.iadd, 1) := by decide +kernel
theorem dX12_program_120 : decode cX12_program 120 = .ok (.iaload, 1) := by decide +kernel
theorem dX12_program_121 : decode cX12_program 121 = .ok (.iastore, 1) := by decide +kernel
theorem dX12_program_122 : decode cX12_program 122 = .ok (.aload_n 0, 1) := by decide +kernel
theorem dX12_program_123 : decode cX12_program 123 = .ok (.getfield 67, 3) := by decide +kernel
theorem dX12_program_126 : decode cX12_program 126 = .ok (.bipush 12, 2) := by decide +kernel
theorem dX12_program_128 : decode cX12_program 128 = .ok (.iload_n 1, 1) := by decide +kernel
theorem dX12_program_129 : decode cX12_program 129 = .ok (.imul, 1) := by decide +kernel
theorem dX12_program_130 : decode cX12_program 130 = .ok (.iload_n 3, 1) := by decide +kernel
theorem dX12_program_131 : decode cX12_program 131 = .ok (.iadd, 1) := by decide +kernel
theorem dX12_program_132 : decode cX12_program 132 = .ok (.aload_n 0, 1) := by decide +kernel
theorem dX12_program_133 : decode cX12_program 133 = .ok (.getfield 67, 3) := by decide +kernel
theorem dX12_program_136 : decode cX12_program 136 = .ok (.bipush 48, 2) := by decide +kernel
theorem dX12_program_138 : decode cX12_program 138 = .ok (.iload_n 3, 1) := by decide +kernel
theorem dX12_program_139 : decode cX12_program 139 = .ok (.iadd, 1) := by decide +kernel
theorem dX12_program_140 : decode cX12_program 140 = .ok (.iaload, 1) := by decide +kernel
theorem dX12_program_141 : decode cX12_program 141 = .ok (.iastore, 1) := by decide +kernel
theorem dX12_program_142 : decode cX12_program 142 = .ok (.aload_n 0, 1) := by decide +kernel
theorem dX12_program_143 : decode cX12_program 143 = .ok (.getfield 70, 3) := by decide +kernel
theorem dX12_program_146 : decode cX12_program 146 = .ok (.bipush 12, 2) := by decide +kernel
theorem dX12_program_148 : decode cX12_program 148 = .ok (.iload_n 1, 1) := by decide +kernel
theorem dX12_program_149 : decode cX12_program 149 = .ok (.imul, 1) := by decide +kernel
theorem dX12_program_150 : decode cX12_program 150 = .ok (.iload_n 3, 1) := by decide +kernel
theorem dX12_program_151 : decode cX12_program 151 = .ok (.iadd, 1) := by decide +kernel
theorem dX12_program_152 : decode cX12_program 152 = .ok (.aload_n 0, 1) := by decide +kernel
theorem dX12_program_153 : decode cX12_program 153 = .ok (.getfield 70, 3) := by decide +kernel
theorem dX12_program_156 : decode cX12_program 156 = .ok (.bipush 48, 2) := by decide +kernel
theorem dX12_program_158 : decode cX12_program 158 = .ok (.iload_n 3, 1) := by decide +kernel
theorem dX12_program_159 : decode cX12_program 159 = .ok (.iadd, 1) := by decide +kernel
theorem dX12_program_160 : decode cX12_program 160 = .ok (.iaload, 1) := by decide +kernel
theorem dX12_program_161 : decode cX12_program 161 = .ok (.iastore, 1) := by decide +kernel
theorem dX12_program_162 : decode cX12_program 162 = .ok (.iconst 0, 1) := by decide +kernel
theorem dX12_program_163 : decode cX12_program 163 = .ok (.istore 4, 2) := by decide +kernel
theorem dX12_program_165 : decode cX12_program 165 = .ok (.iload 4, 2) := by decide +kernel
theorem dX12_program_167 : decode cX12_program 167 = .ok (.iconst 4, 1) := by decide +kernel
theorem dX12_program_168 : decode cX12_program 168 = .ok (.if_icmp .ge 99, 3) := by decide +kernel
theorem dX12_program_171 : decode cX12_program 171 = .ok (.aload_n 0, 1) := by decide +kernel
theorem dX12_program_172 : decode cX12_program 172 = .ok (.getfield 73, 3) := by decide +kernel
theorem dX12_program_175 : decode cX12_program 175 = .ok (.iconst 4, 1) := by decide +kernel
theorem dX12_program_176 : decode cX12_program 176 = .ok (.bipush 12, 2) := by decide +kernel
theorem dX12_program_178 : decode cX12_program 178 = .ok (.iload_n 1, 1) := by decide +kernel
theorem dX12_program_179 : decode cX12_program 179 = .ok (.imul, 1) := by decide +kernel
theorem dX12_program_180 : decode cX12_program 180 = .ok (.iload_n 3, 1) := by decide +kernel
theorem dX12_program_181 : decode cX12_program 181 = .ok (.iadd, 1) := by decide +kernel
theorem dX12_program_182 : decode cX12_program 182 = .ok (.imul, 1) := by decide +kernel
theorem dX12_program_183 : decode cX12_program 183 = .ok (.iload 4, 2) := by decide +kernel
theorem dX12_program_185 : decode cX12_program 185 = .ok (.iadd, 1) := by decide +kernel
theorem dX12_program_186 : decode cX12_program 186 = .ok (.aload_n 0, 1) := by decide +kernel
theorem dX12_program_187 : decode cX12_program 187 = .ok (.getfield 73, 3) := by decide +kernel
theorem dX12_program_190 : decode cX12_program 190 = .ok (.iconst 4, 1) := by decide +kernel
theorem dX12_program_191 : decode cX12_program 191 = .ok (.bipush 48, 2) := by decide +kernel
theorem dX12_program_193 : decode cX12_program 193 = .ok (.iload_n 3, 1) := by decide +kernel
theorem dX12_program_194 : decode cX12_program 194 = .ok (.iadd, 1) := by decide +kernel
theorem dX12_program_195 : decode cX12_program 195 = .ok (.imul, 1) := by decide +kernel
theorem dX12_program_196 : decode cX12_program 196 = .ok (.iload 4, 2) := by decide +kernel
theorem dX12_program_198 : decode cX12_program 198 = .ok (.iadd, 1) := by decide +kernel
theorem dX12_program_199 : decode cX12_program 199 = .ok (.iaload, 1) := by decide +kernel
theorem dX12_program_200 : decode cX12_program 200 = .ok (.iastore, 1) := by decide +kernel
theorem dX12_program_201 : decode cX12_program 201 = .ok (.aload_n 0, 1) := by decide +kernel
theorem dX12_program_202 : decode cX12_program 202 = .ok (.getfield 76, 3) := by decide +kernel
theorem dX12_program_205 : decode cX12_program 205 = .ok (.iconst 4, 1) := by decide +kernel
theorem dX12_program_206 : decode cX12_program 206 = .ok (.bipush 12, 2) := by decide +kernel
theorem dX12_program_208 : decode cX12_program 208 = .ok (.iload_n 1, 1) := by decide +kernel
theorem dX12_program_209 : decode cX12_program 209 = .ok (.imul, 1) := by decide +kernel
theorem dX12_program_210 : decode cX12_program 210 = .ok (.iload_n 3, 1) := by decide +kernel
theorem dX12_program_211 : decode cX12_program 211 = .ok (.iadd, 1) := by decide +kernel
theorem dX12_program_212 : decode cX12_program 212 = .ok (.imul, 1) := by decide +kernel
theorem dX12_program_213 : decode cX12_program 213 = .ok (.iload 4, 2) := by decide +kernel
theorem dX12_program_215 : decode cX12_program 215 = .ok (.iadd, 1) := by decide +kernel
theorem dX12_program_216 : decode cX12_program 216 = .ok (.aload_n 0, 1) := by decide +kernel
theorem dX12_program_217 : decode cX12_program 217 = .ok (.getfield 76, 3) := by decide +kernel
theorem dX12_program_220 : decode cX12_program 220 = .ok (.iconst 4, 1) := by decide +kernel
theorem dX12_program_221 : decode cX12_program 221 = .ok (.bipush 48, 2) := by decide +kernel
theorem dX12_program_223 : decode cX12_program 223 = .ok (.iload_n 3, 1) := by decide +kernel
theorem dX12_program_224 : decode cX12_program 224 = .ok (.iadd, 1) := by decide +kernel
theorem dX12_program_225 : decode cX12_program 225 = .ok (.imul, 1) := by decide +kernel
theorem dX12_program_226 : decode cX12_program 226 = .ok (.iload 4, 2) := by decide +kernel
theorem dX12_program_228 : decode cX12_program 228 = .ok (.iadd, 1) := by decide +kernel
theorem dX12_program_229 : decode cX12_program 229 = .ok (.iaload, 1) := by decide +kernel
theorem dX12_program_230 : decode cX12_program 230 = .ok (.iastore, 1) := by decide +kernel
theorem dX12_program_231 : decode cX12_program 231 = .ok (.aload_n 0, 1) := by decide +kernel
theorem dX12_program_232 : decode cX12_program 232 = .ok (.getfield 79, 3) := by decide +kernel
theorem dX12_program_235 : decode cX12_program 235 = .ok (.iconst 4, 1) := by decide +kernel
theorem dX12_program_236 : decode cX12_program 236 = .ok (.bipush 12, 2) := by decide +kernel
theorem dX12_program_238 : decode cX12_program 238 = .ok (.iload_n 1, 1) := by decide +kernel
theorem dX12_program_239 : decode cX12_program 239 = .ok (.imul, 1) := by decide +kernel
theorem dX12_program_240 : decode cX12_program 240 = .ok (.iload_n 3, 1) := by decide +kernel
theorem dX12_program_241 : decode cX12_program 241 = .ok (.iadd, 1) := by decide +kernel
theorem dX12_program_242 : decode cX12_program 242 = .ok (.imul, 1) := by decide +kernel
theorem dX12_program_243 : decode cX12_program 243 = .ok (.iload 4, 2) := by decide +kernel
theorem dX12_program_245 : decode cX12_program 245 = .ok (.iadd, 1) := by decide +kernel
theorem dX12_program_246 : decode cX12_program 246 = .ok (.aload_n 0, 1) := by decide +kernel
theorem dX12_program_247 : decode cX12_program 247 = .ok (.getfield 79, 3) := by decide +kernel
theorem dX12_program_250 : decode cX12_program 250 = .ok (.iconst 4, 1) := by decide +kernel
theorem dX12_program_251 : decode cX12_program 251 = .ok (.bipush 48, 2) := by decide +kernel
theorem dX12_program_253 : decode cX12_program 253 = .ok (.iload_n 3, 1) := by decide +kernel
theorem dX12_program_254 : decode cX12_program 254 = .ok (.iadd, 1) := by decide +kernel
theorem dX12_program_255 : decode cX12_program 255 = .ok (.imul, 1) := by decide +kernel
theorem dX12_program_256 : decode cX12_program 256 = .ok (.iload 4, 2) := by decide +kernel
theorem dX12_program_258 : decode cX12_program 258 = .ok (.iadd, 1) := by decide +kernel
theorem dX12_program_259 : decode cX12_program 259 = .ok (.iaload, 1) := by decide +kernel
theorem dX12_program_260 : decode cX12_program 260 = .ok (.iastore, 1) := by decide +kernel
theorem dX12_program_261 : decode cX12_program 261 = .ok (.iinc 4 1, 3) := by decide +kernel
theorem dX12_program_264 : decode cX12_program 264 = .ok (.goto (-99), 3) := by decide +kernel
theorem dX12_program_267 : decode cX12_program 267 = .ok (.iinc 3 1, 3) := by decide +kernel
theorem dX12_program_270 : decode cX12_program 270 = .ok (.goto (-174), 3) := by decide +kernel
theorem dX12_program_273 : decode cX12_program 273 = .ok (.aload_n 0, 1) := by decide +kernel
theorem dX12_program_274 : decode cX12_program 274 = .ok (.getfield 61, 3) := by decide +kernel
theorem dX12_program_277 : decode cX12_program 277 = .ok (.iload_n 1, 1) := by decide +kernel
theorem dX12_program_278 : decode cX12_program 278 = .ok (.iaload, 1) := by decide +kernel
theorem dX12_program_279 : decode cX12_program 279 = .ok (.ireturn, 1) := by decide +kernel
theorem inn_X12_program_12 : ∀ w ∈ u_ws RX12 TX12 66, w ∈ wsX12_program := fun w h => List.mem_cons_of_mem _ (List.mem_append_right _ h)
