set_option maxRecDepth 20000 in
theorem ggX12_program_X12_isPot : GoodIn wsX12_program wsX12_isPot := goodIn_h _ [17, 0, 0, 0, 0, 0, 88, 0, 0, 0, 0, 0, 0, 0, 0, 0, 0, 0, 0, 0, 0, 0, 0, 0, 0, 0, 0, 0, 0, 0, 0, 0, 0, 0, 0, 0, 0, 0, 0, 0, 0, 0, 0, 0, 0, 0, 0, 0, 0, 0, 0, 0, 0, 0, 0, 0, 0, 0, 0, 0, 0, 0, 0, 0, 0, 0, 0, 0, 0, 0, 0, 0] [1, 2, 3, 4, 0, 5, 6, 7, 8, 9, 10, 11, 12, 13, 14, 15, 16, 17, 18, 19, 20, 21, 22, 23, 24, 25, 26, 27, 28, 29, 30, 31, 32, 33, 34, 35, 36, 37, 38, 39, 40, 41, 42, 43, 44, 45, 46, 47, 48, 49, 50, 51, 52, 53, 54, 55, 56, 57, 58, 59, 60, 61, 62, 63, 64, 65, 66, 67, 68, 69, 70, 71] (by decide +kernel) (by decide +kernel)
set_option maxRecDepth 20000 in
theorem gX12_program_X12_isPot : GoodIn wsX12_program (wsV RX12 200 RX12 yX12_isPot wsX12_isPot) := goodIn_app (goodIn_of _ (by decide +kernel)) ggX12_program_X12_isPot
set_option maxRecDepth 20000 in
theorem ggX12_program_X12_token : GoodIn wsX12_program wsX12_token := goodIn_h _ [5, 0, 0, 9, 2, 0, 0, 3, 0, 0, 0, 0, 0, 0, 0, 77, 0, 0, 0, 0, 0, 0, 0, 0, 0, 0, 0, 0, 0, 0, 0, 0, 0, 0, 0, 0, 0, 0, 0, 0, 0, 0, 0, 0, 0, 0, 0, 0, 0, 0, 0, 0, 0, 0, 0, 0, 0, 0, 0, 0, 0, 0, 0, 0, 0, 0, 0, 0, 0, 0, 0, 0, 0, 0, 0, 0, 0, 0, 0, 0, 0] [7, 0, 8, 2, 1, 9, 10, 11, 12, 3, 13, 14, 4, 5, 6, 15, 16, 17, 18, 19, 20, 21, 22, 23, 24, 25, 26, 27, 28, 29, 30, 31, 32, 33, 34, 35, 36, 37, 38, 39, 40, 41, 42, 43, 44, 45, 46, 47, 48, 49, 50, 51, 52, 53, 54, 55, 56, 57, 58, 59, 60, 61, 62, 63, 64, 65, 66, 67, 68, 69, 70, 71, 72, 73, 74, 75, 76, 77, 78, 79, 80] (by decide +kernel) (by decide +kernel)
set_option maxRecDepth 20000 in
theorem gX12_program_X12_token : GoodIn wsX12_program (wsV RX12 249 RX12 yX12_token wsX12_token) := goodIn_app (goodIn_of _ (by decide +kernel)) ggX12_program_X12_token
set_option maxRecDepth 20000 in
theorem ggX12_program_X12_rule : GoodIn wsX12_program wsX12_rule := goodIn_h _ [2, 0, 0, 0, 0, 0, 0, 0, 0, 0, 0, 0, 3, 2, 0, 0, 0, 0, 0, 0, 0, 0, 0, 0, 0, 0, 0, 3, 0, 0, 0, 0, 0, 0, 0, 0, 0, 0, 0, 0, 0, 0, 0, 0, 0, 0, 0, 0, 0, 0, 0, 0, 0, 0, 0, 0, 0, 0, 0, 0, 0, 0, 0, 0, 0, 0, 0, 0, 0, 0, 0, 0, 0, 0, 0, 0, 0, 0, 0, 0, 0, 0, 0, 0, 0, 0, 0, 0, 0, 0, 0, 0, 0, 0, 0, 0, 0, 0, 0, 0, 0, 0, 0, 0, 0, 0, 0, 0, 0, 0, 0, 0, 0, 0, 0, 0, 0, 0, 0, 0, 0, 0, 0, 0, 0, 0, 0, 0, 0, 0, 0, 0, 0, 0, 0, 0, 0, 0, 0, 0, 0, 0, 0, 0, 0, 0, 0, 0, 0, 0, 0, 0, 0, 0, 0, 0, 0, 0, 0, 0, 0, 0, 0, 0, 0, 0, 0] [27, 2, 8, 6, 7, 28, 29, 30, 12, 31, 0, 3, 20, 32, 33, 34, 35, 36, 37, 38, 39, 40, 41, 42, 43, 22, 23, 24, 25, 5, 26, 44, 45, 46, 47, 48, 49, 50, 51, 52, 53, 54, 55, 56, 57, 58, 59, 60, 61, 62, 63, 64, 65, 66, 67, 68, 69, 70, 71, 72, 73, 74, 75, 76, 77, 78, 79, 80, 81, 82, 83, 84, 4, 85, 86, 87, 88, 1, 16, 17, 18, 19, 21, 13, 14, 15, 89, 90, 91, 92, 9, 10, 11, 93, 94, 95, 96, 97, 98, 99, 100, 101, 102, 103, 104, 105, 106, 107, 108, 109, 110, 111, 112, 113, 114, 115, 116, 117, 118, 119, 120, 121, 122, 123, 124, 125, 126, 127, 128, 129, 130, 131, 132, 133, 134, 135, 136, 137, 138, 139, 140, 141, 142, 143, 144, 145, 146, 147, 148, 149, 150, 151, 152, 153, 154, 155, 156, 157, 158, 159, 160, 161, 162, 163, 164, 165, 166] (by decide +kernel) (by decide +kernel)
set_option maxRecDepth 20000 in
theorem gX12_program_X12_rule : GoodIn wsX12_program (wsV RX12 283 RX12 yX12_rule wsX12_rule) := goodIn_app (goodIn_of _ (by decide +kernel)) ggX12_program_X12_rule
theorem dX12_program_0 : decode cX12_program 0 = .ok (.aload_n 0, 1) := by decide +kernel
theorem dX12_program_1 : decode cX12_program 1 = .ok (.iconst 0, 1) := by decide +kernel
theorem dX12_program_2 : decode cX12_program 2 = .ok (.putfield 161, 3) := by decide +kernel
theorem dX12_program_5 : decode cX12_program 5 = .ok (.aload_n 0, 1) := by decide +kernel
theorem dX12_program_6 : decode cX12_program 6 = .ok (.iload_n 1, 1) := by decide +kernel
theorem dX12_program_7 : decode cX12_program 7 = .ok (.invokevirtual 200, 3) := by decide +kernel
theorem dX12_program_10 : decode cX12_program 10 = .ok (.ifCond .ne 5, 3) := by decide +kernel
theorem dX12_program_13 : decode cX12_program 13 = .ok (.iconst (-1), 1) := by decide +kernel
theorem dX12_program_14 : decode cX12_program 14 = .ok (.ireturn, 1) := by decide +kernel
theorem dX12_program_15 : decode cX12_program 15 = .ok (.aload_n 0, 1) := by decide +kernel
theorem dX12_program_16 : decode cX12_program 16 = .ok (.iconst 0, 1) := by decide +kernel
theorem dX12_program_17 : decode cX12_program 17 = .ok (.putfield 229, 3) := by decide +kernel
theorem dX12_program_20 : decode cX12_program 20 = .ok (.aload_n 0, 1) := by decide +kernel
theorem dX12_program_21 : decode cX12_program 21 = .ok (.iconst (-1), 1) := by decide +kernel
theorem dX12_program_22 : decode cX12_program 22 = .ok (.putfield 86, 3) := by decide +kernel
theorem dX12_program_25 : decode cX12_program 25 = .ok (.aload_n 0, 1) := by decide +kernel
theorem dX12_program_26 : decode cX12_program 26 = .ok (.getfield 61, 3) := by decide +kernel
theorem dX12_program_29 : decode cX12_program 29 = .ok (.iconst 4, 1) := by decide +kernel
theorem dX12_program_30 : decode cX12_program 30 = .ok (.iconst 0, 1) := by decide +kernel
theorem dX12_program_31 : decode cX12_program 31 = .ok (.iastore, 1) := by decide +kernel
theorem dX12_program_32 : decode cX12_program 32 = .ok (.aload_n 0, 1) := by decide +kernel
theorem dX12_program_33 : decode cX12_program 33 = .ok (.iconst 0, 1) := by decide +kernel
theorem dX12_program_34 : decode cX12_program 34 = .ok (.putfield 214, 3) := by decide +kernel
theorem dX12_program_37 : decode cX12_program 37 = .ok (.aload_n 0, 1) := by decide +kernel
theorem dX12_program_38 : decode cX12_program 38 = .ok (.invokevirtual 249, 3) := by decide +kernel
theorem dX12_program_41 : decode cX12_program 41 = .ok (.iconst 1, 1) := by decide +kernel
theorem dX12_program_42 : decode cX12_program 42 = .ok (.istore_n 2, 1) := by decide +kernel
theorem dX12_program_43 : decode cX12_program 43 = .ok (.iload_n 2, 1) := by decide +kernel
theorem dX12_program_44 : decode cX12_program 44 = .ok (.ifCond .eq 18, 3) := by decide +kernel
theorem dX12_program_47 : decode cX12_program 47 = .ok (.aload_n 0, 1) := by decide +kernel
theorem dX12_program_48 : decode cX12_program 48 = .ok (.getfield 223, 3) := by decide +kernel
theorem dX12_program_51 : decode cX12_program 51 = .ok (.ifCond .eq 11, 3) := by decide +kernel
theorem dX12_program_54 : decode cX12_program 54 = .ok (.aload_n 0, 1) := by decide +kernel
theorem dX12_program_55 : decode cX12_program 55 = .ok (.invokevirtual 283, 3) := by decide +kernel
theorem dX12_program_58 : decode cX12_program 58 = .ok (.istore_n 2, 1) := by decide +kernel
theorem dX12_program_59 : decode cX12_program 59 = .ok (.goto (-16), 3) := by decide +kernel
theorem dX12_program_62 : decode cX12_program 62 = .ok (.aload_n 0, 1) := by decide +kernel
theorem dX12_program_63 : decode cX12_program 63 = .ok (.iconst 0, 1) := by decide +kernel
theorem dX12_program_64 : decode cX12_program 64 = .ok (.putfield 211, 3) := by decide +kernel
theorem dX12_program_67 : decode cX12_program 67 = .ok (.aload_n 0, 1) := by decide +kernel
theorem dX12_program_68 : decode cX12_program 68 = .ok (.getfield 229, 3) := by decide +kernel
theorem dX12_program_71 : decode cX12_program 71 = .ok (.ifCond .le 11, 3) := by decide +kernel
theorem dX12_program_74 : decode cX12_program 74 = .ok (.aload_n 0, 1) := by decide +kernel
theorem dX12_program_75 : decode cX12_program 75 = .ok (.getfield 229, 3) := by decide +kernel
theorem dX12_program_78 : decode cX12_program 78 = .ok (.bipush 10, 2) := by decide +kernel
theorem dX12_program_80 : decode cX12_program 80 = .ok (.isub, 1) := by decide +kernel
theorem dX12_program_81 : decode cX12_program 81 = .ok (.ireturn, 1) := by decide +kernel
theorem dX12_program_82 : decode cX12_program 82 = .ok (.aload_n 0, 1) := by decide +kernel
theorem dX12_program_83 : decode cX12_program 83 = .ok (.getfield 61, 3) := by decide +kernel
theorem dX12_program_86 : decode cX12_program 86 = .ok (.iload_n 1, 1) := by decide +kernel
theorem dX12_program_87 : decode cX12_program 87 = .ok (.aload_n 0, 1) := by decide +kernel
theorem dX12_program_88 : decode cX12_program 88 = .ok (.getfield 61, 3) := by decide +kernel
theorem dX12_program_91 : decode cX12_program 91 = .ok (.iconst 4, 1) := by decide +kernel
theorem dX12_program_92 : decode cX12_program 92 = .ok (.iaload, 1) := by decide +kernel
theorem dX12_program_93 : decode cX12_program 93 = .ok (.iastore, 1) := by decide +kernel
theorem dX12_program_94 : decode cX12_program 94 = .ok (.iconst 0, 1) := by decide +kernel
theorem dX12_program_95 : decode cX12_program 95 = .ok (.istore_n 3, 1) := by decide +kernel
theorem dX12_program_96 : decode cX12_program 96 = .ok (.iload_n 3, 1) := by decide +kernel
theorem dX12_program_97 : decode cX12_program 97 = .ok (.bipush 12, 2) := by decide +kernel
theorem dX12_program_99 : decode cX12_program 99 = .ok (.if_icmp .ge 174, 3) := by decide +kernel
theorem dX12_program_102 : decode cX12_program 102 = .ok (.aload_n 0, 1) := by decide +kernel
theorem dX12_program_103 : decode cX12_program 103 = .ok (.getfield 64, 3) := by decide +kernel
theorem dX12_program_106 : decode cX12_program 106 = .ok (.bipush 12, 2) := by decide +kernel
theorem dX12_program_108 : decode cX12_program 108 = .ok (.iload_n 1, 1) := by decide +kernel
theorem dX12_program_109 : decode cX12_program 109 = .ok (.imul, 1) := by decide +kernel
theorem dX12_program_110 : decode cX12_program 110 = .ok (.iload_n 3, 1) := by decide +kernel
theorem dX12_program_111 : decode cX12_program 111 = .ok (.iadd, 1) := by decide +kernel
theorem dX12_program_112 : decode cX12_program 112 = .ok (.aload_n 0, 1) := by decide +kernel
theorem dX12_program_113 : decode cX12_program 113 = .ok (.getfield 64, 3) := by decide +kernel
theorem dX12_program_116 : decode cX12_program 116 = .ok (.bipush 48, 2) := by decide +kernel
theorem dX12_program_118 : decode cX12_program 118 = .ok (.iload_n 3, 1) := by decide +kernel
theorem dX12_program_119 : decode cX12_program 119 = .ok (.iadd, 1) := by decide +kernel
theorem dX12_program_120 : decode cX12_program 120 = .ok (.iaload, 1) := by decide +kernel
theorem dX12_program_121 : decode cX12_program 121 = .ok (.iastore, 1) := by decide +kernel
theorem dX12_program_122 : decode cX12_program 122 = .ok (.aload_n 0, 1) := by decide +kernel
theorem dX12_program_123 : decode cX12_program 123 = .ok (.getfield 67, 3) := by decide +kernel
theorem dX12_program_126 : decode cX12_program 126 = .ok (.bipush 12, 2) := by decide +kernel
theorem dX12_program_128 : decode cX12_program 128 = .ok (.iload_n 1, 1) := by decide +kernel
theorem dX12_program_129 : decode cX12_program 129 = .ok (.imul, 1) := by decide +kernel
theorem dX12_program_130 : decode cX12_program 130 = .ok (.iload_n 3, 1) := by decide +kernel
theorem dX12_program_131 : decode cX12_program 131 = .ok (.iadd, 1) := by decide +kernel
theorem dX12_program_132 : decode cX12_program 132 = .ok (.aload_n 0, 1) := by decide +kernel
theorem dX12_program_133 : decode cX12_program 133 = .ok (.getfield 67, 3) := by decide +kernel
theorem dX12_program_136 : decode cX12_program 136 = .ok (.bipush 48, 2) := by decide +kernel
theorem dX12_program_138 : decode cX12_program 138 = .ok (.iload_n 3, 1) := by decide +kernel
theorem dX12_program_139 : decode cX12_program 139 = .ok (.iadd, 1) := by decide +kernel
theorem dX12_program_140 : decode cX12_program 140 = .ok (.iaload, 1) := by decide +kernel
theorem dX12_program_141 : decode cX12_program 141 = .ok (.iastore, 1) := by decide +kernel
theorem dX12_program_142 : decode cX12_program 142 = .ok (.aload_n 0, 1) := by decide +kernel
theorem dX12_program_143 : decode cX12_program 143 = .ok (.getfield 70, 3) := by decide +kernel
theorem dX12_program_146 : decode cX12_program 146 = .ok (.bipush 12, 2) := by decide +kernel
theorem dX12_program_148 : decode cX12_program 148 = .ok (.iload_n 1, 1) := by decide +kernel
theorem dX12_program_149 : decode cX12_program 149 = .ok (.imul, 1) := by decide +kernel
theorem dX12_program_150 : decode cX12_program 150 = .ok (.iload_n 3, 1) := by decide +kernel
theorem dX12_program_151 : decode cX12_program 151 = .ok (.iadd, 1) := by decide +kernel
theorem dX12_program_152 : decode cX12_program 152 = .ok (.aload_n 0, 1) := by decide +kernel
theorem dX12_program_153 : decode cX12_program 153 = .ok (.getfield 70, 3) := by decide +kernel
theorem dX12_program_156 : decode cX12_program 156 = .ok (.bipush 48, 2) := by decide +kernel
theorem dX12_program_158 : decode cX12_program 158 = .ok (.iload_n 3, 1) := by decide +kernel
theorem dX12_program_159 : decode cX12_program 159 = .ok (.iadd, 1) := by decide +kernel
theorem dX12_program_160 : decode cX12_program 160 = .ok (.iaload, 1) := by decide +kernel
theorem dX12_program_161 : decode cX12_program 161 = .ok (.iastore, 1) := by decide +kernel
theorem dX12_program_162 : decode cX12_program 162 = .ok (.iconst 0, 1) := by decide +kernel
theorem dX12_program_163 : decode cX12_program 163 = .ok (.istore 4, 2) := by decide +kernel
theorem dX12_program_165 : decode cX12_program 165 = .ok (.iload 4, 2) := by decide +kernel
theorem dX12_program_167 : decode cX12_program 167 = .ok (.iconst 4, 1) := by decide +kernel
theorem dX12_program_168 : decode cX12_program 168 = .ok (.if_icmp .ge 99, 3) := by decide +kernel
theorem dX12_program_171 : decode cX12_program 171 = .ok (.aload_n 0, 1) := by decide +kernel
theorem dX12_program_172 : decode cX12_program 172 = .ok (.getfield 73, 3) := by decide +kernel
theorem dX12_program_175 : decode cX12_program 175 = .ok (.iconst 4, 1) := by decide +kernel
theorem dX12_program_176 : decode cX12_program 176 = .ok (.bipush 12, 2) := by decide +kernel
theorem dX12_program_178 : decode cX12_program 178 = .ok (.iload_n 1, 1) := by decide +kernel
theorem dX12_program_179 : decode cX12_program 179 = .ok (.imul, 1) := by decide +kernel
theorem dX12_program_180 : decode cX12_program 180 = .ok (.iload_n 3, 1) := by decide +kernel
theorem dX12_program_181 : decode cX12_program 181 = .ok (.iadd, 1) := by decide +kernel
theorem dX12_program_182 : decode cX12_program 182 = .ok (.imul, 1) := by decide +kernel
theorem dX12_program_183 : decode cX12_program 183 = .ok (.iload 4, 2) := by decide +kernel
theorem dX12_program_185 : decode cX12_program 185 = .ok (.iadd, 1) := by decide +kernel
theorem dX12_program_186 : decode cX12_program 186 = .ok (.aload_n 0, 1) := by decide +kernel
theorem dX12_program_187 : decode cX12_program 187 = .ok (.getfield 73, 3) := by decide +kernel
theorem dX12_program_190 : decode cX12_program 190 = .ok (.iconst 4, 1) := by decide +kernel
theorem dX12_program_191 : decode cX12_program 191 = .ok (.bipush 48, 2) := by decide +kernel
theorem dX12_program_193 : decode cX12_program 193 = .ok (.iload_n 3, 1) := by decide +kernel
theorem dX12_program_194 : decode cX12_program 194 = .ok (.iadd, 1) := by decide +kernel
theorem dX12_program_195 : decode cX12_program 195 = .ok (.imul, 1) := by decide +kernel
theorem dX12_program_196 : decode cX12_program 196 = .ok (.iload 4, 2) := by decide +kernel
theorem dX12_program_198 : decode cX12_program 198 = .ok (.iadd, 1) := by decide +kernel
theorem dX12_program_199 : decode cX12_program 199 = .ok (.iaload, 1) := by decide +kernel
theorem dX12_program_200 : decode cX12_program 200 = .ok (.iastore, 1) := by decide +kernel
theorem dX12_program_201 : decode cX12_program 201 = .ok (.aload_n 0, 1) := by decide +kernel
theorem dX12_program_202 : decode cX12_program 202 = .ok (.getfield 76, 3) := by decide +kernel
theorem dX12_program_205 : decode cX12_program 205 = .ok (.iconst 4, 1) := by decide +kernel
theorem dX12_program_206 : decode cX12_program 206 = .ok (.bipush 12, 2) := by decide +kernel
theorem dX12_program_208 : decode cX12_program 208 = .ok (.iload_n 1, 1) := by decide +kernel
theorem dX12_program_209 : decode cX12_program 209 = .ok (.imul, 1) := by decide +kernel
theorem dX12_program_210 : decode cX12_program 210 = .ok (.iload_n 3, 1) := by decide +kernel
theorem dX12_program_211 : decode cX12_program 211 = .ok (.iadd, 1) := by decide +kernel
theorem dX12_program_212 : decode cX12_program 212 = .ok (.imul, 1) := by decide +kernel
theorem dX12_program_213 : decode cX12_program 213 = .ok (.iload 4, 2) := by decide +kernel
theorem dX12_program_215 : decode cX12_program 215 = .ok (.iadd, 1) := by decide +kernel
theorem dX12_program_216 : decode cX12_program 216 = .ok (.aload_n 0, 1) := by decide +kernel
theorem dX12_program_217 : decode cX12_program 217 = .ok (.getfield 76, 3) := by decide +kernel
theorem dX12_program_220 : decode cX12_program 220 = .ok (.iconst 4, 1) := by decide +kernel
theorem dX12_program_221 : decode cX12_program 221 = .ok (.bipush 48, 2) := by decide +kernel
theorem dX12_program_223 : decode cX12_program 223 = .ok (.iload_n 3, 1) := by decide +kernel
theorem dX12_program_224 : decode cX12_program 224 = .ok (.iadd, 1) := by decide +kernel
theorem dX12_program_225 : decode cX12_program 225 = .ok (.imul, 1) := by decide +kernel
theorem dX12_program_226 : decode cX12_program 226 = .ok (.iload 4, 2) := by decide +kernel
theorem dX12_program_228 : decode cX12_program 228 = .ok (.iadd, 1) := by decide +kernel
theorem dX12_program_229 : decode cX12_program 229 = .ok (.iaload, 1) := by decide +kernel
theorem dX12_program_230 : decode cX12_program 230 = .ok (.iastore, 1) := by decide +kernel
theorem dX12_program_231 : decode cX12_program 231 = .ok (.aload_n 0, 1) := by decide +kernel
theorem dX12_program_232 : decode cX12_program 232 = .ok (.getfield 79, 3) := by decide +kernel
theorem dX12_program_235 : decode cX12_program 235 = .ok (.iconst 4, 1) := by decide +kernel
theorem dX12_program_236 : decode cX12_program 236 = .ok (.bipush 12, 2) := by decide +kernel
theorem dX12_program_238 : decode cX12_program 238 = .ok (.iload_n 1, 1) := by decide +kernel
theorem dX12_program_239 : decode cX12_program 239 = .ok (.imul, 1) := by decide +kernel
theorem dX12_program_240 : decode cX12_program 240 = .ok (.iload_n 3, 1) := by decide +kernel
theorem dX12_program_241 : decode cX12_program 241 = .ok (.iadd, 1) := by decide +kernel
theorem dX12_program_242 : decode cX12_program 242 = .ok (.imul, 1) := by decide +kernel
theorem dX12_program_243 : decode cX12_program 243 = .ok (.iload 4, 2) := by decide +kernel
theorem dX12_program_245 : decode cX12_program 245 = .ok (.iadd, 1) := by decide +kernel
theorem dX12_program_246 : decode cX12_program 246 = .ok (.aload_n 0, 1) := by decide +kernel
theorem dX12_program_247 : decode cX12_program 247 = .ok (.getfield 79, 3) := by decide +kernel
theorem dX12_program_250 : decode cX12_program 250 = .ok (.iconst 4, 1) := by decide +kernel
theorem dX12_program_251 : decode cX12_program 251 = .ok (.bipush 48, 2) := by decide +kernel
theorem dX12_program_253 : decode cX12_program 253 = .ok (.iload_n 3, 1) := by decide +kernel
theorem dX12_program_254 : decode cX12_program 254 = .ok (.iadd, 1) := by decide +kernel
theorem dX12_program_255 : decode cX12_program 255 = .ok (.imul, 1) := by decide +kernel
theorem dX12_program_256 : decode cX12_program 256 = .ok (.iload 4, 2) := by decide +kernel
theorem dX12_program_258 : decode cX12_program 258 = .ok (.iadd, 1) := by decide +kernel
theorem dX12_program_259 : decode cX12_program 259 = .ok (.iaload, 1) := by decide +kernel
theorem dX12_program_260 : decode cX12_program 260 = .ok (.iastore, 1) := by decide +kernel
theorem dX12_program_261 : decode cX12_program 261 = .ok (.iinc 4 1, 3) := by decide +kernel
theorem dX12_program_264 : decode cX12_program 264 = .ok (.goto (-99), 3) := by decide +kernel
theorem dX12_program_267 : decode cX12_program 267 = .ok (.iinc 3 1, 3) := by decide +kernel
theorem dX12_program_270 : decode cX12_program 270 = .ok (.goto (-174), 3) := by decide +kernel
theorem dX12_program_273 : decode cX12_program 273 = .ok (.aload_n 0, 1) := by decide +kernel
theorem dX12_program_274 : decode cX12_program 274 = .ok (.getfield 61, 3) := by decide +kernel
theorem dX12_program_277 : decode cX12_program 277 = .ok (.iload_n 1, 1) := by decide +kernel
theorem dX12_program_278 : decode cX12_program 278 = .ok (.iaload, 1) := by decide +kernel
theorem dX12_program_279 : decode cX12_program 279 = .ok (.ireturn, 1) := by decide +kernel
theorem inn_X12_program_12 : ∀ w ∈ u_ws RX12 TX12 66, w ∈ wsX12_program := fun w h => List.mem_cons_of_mem _ (List.mem_append_right _ h)
set_option maxHeartbeats 4000000 in
set_option maxRecDepth 100000 in
theorem k_X12_program (l : Launch) (G : va_G) (cy : Nat → ClassId) (κ : Nat → Nat) (S : PS) (sz : Nat) (x : Nat) (a1 : Int32) (a1_z : Int) (hG : GX S) (ha_x : At S x 12) (hz_a1 : a1.toInt = a1_z) : Ci l yX12_program wsX12_program ({ frames := 8, cells := 0, slots := 0, locals := 384 }) G cy κ S sz [.ref x, .int (a1)] (fun (r : Int32) (S9 : PS) => Ok MPg S S9 ∧ (-2147483648 ≤ r.toInt ∧ r.toInt ≤ 2147483647 ∧ (((0 ≤ a1_z ∧ a1_z < (pI S 1211 x).toInt) ∧ (pI S9 1228 x).toInt = 0) ∨ (¬ (0 ≤ a1_z ∧ a1_z < (pI S 1211 x).toInt) ∧ (pI S9 1228 x).toInt = (pI S 1228 x).toInt)))) := by
  refine ent_m (cc := cX12_program) (maxL := 5) (ret := (some .int)) (by decide) rfl (Nat.le_of_ble_eq_true rfl) ?_
  intro p e s m below meth c ls X hr hlocks hin hw hl hsz
  subst hsz
  have X : Cx p c cX12_program 5 s [.ref x, .int (a1)].toArray wsX12_program RX12 m G cy κ (AS S s.heap.size) := X
  have hl : lv_has ls 5 [(0, .ref x), (1, .int (a1))] := hl
  have rg_a1 : (-2147483648) ≤ a1_z ∧ a1_z ≤ 2147483647 := by rw [← hz_a1]; exact ⟨z_lo _, z_hi _⟩
  have hO : Ok MPg S S := Ok.rf hG
  generalize hQQ : MQ below _ _ _ _ _ _ = QQ
  replace hQQ := hQQ.symm
  obtain ⟨v_1, ev_1⟩ : ∃ v, pI S 1228 x = v := ⟨_, rfl⟩
  have rg_2 := gI_12_1228 hO.1 ha_x; rw [ev_1] at rg_2
  have pz_3 : (pI S 1228 x).toInt = v_1.toInt := by rw [ev_1]
  have pz_4 : (pI S 1228 x).toInt = v_1.toInt := (congrArg Int32.toInt ev_1).trans rfl
  obtain ⟨v_5, ev_5⟩ : ∃ v, pI S 1211 x = v := ⟨_, rfl⟩
  have rg_6 := gI_12_1211 hO.1 ha_x; rw [ev_5] at rg_6
  have pz_7 : (pI S 1211 x).toInt = v_5.toInt := by rw [ev_5]
  have pz_8 : (pI S 1211 x).toInt = v_5.toInt := (congrArg Int32.toInt ev_5).trans rfl
  refine lv_aload_n X.1 X.2.1 dX12_program_0 rfl (lv_at hl 0 rfl) ?_
  refine lv_iconst (v := 0) X.1 X.2.1 dX12_program_1 (by decide) ?_
  refine r_putI (v := 0) X hw ha_x rfl 0 1200 tyX12 (by decide) rfl inn_X12_program_12 tyX12_ok nmX12 (by decide) (X.2.2.2.1 (.fieldLink RX12 161 "SilkMillModel" "thrown" "I") (by decide +kernel)) rfl (Or.inl rfl) rfl rfl (Nat.le_of_ble_eq_true rfl) (st_1200 _ _) dX12_program_2 (fun H locs hw => ?_)
  obtain ⟨S_9, eS_9⟩ : ∃ T, T = sI S 1200 x (0) := ⟨_, rfl⟩
  rw [← eS_9] at hw
  have hO_10 : Ok MPg S S_9 := hO.sI eS_9 (by decide +kernel) (uI_12_1200 hO.1 ha_x)
  have h_11 : pI S_9 1200 x = 0 := tI_sIs eS_9
  refine lv_aload_n X.1 X.2.1 dX12_program_5 rfl (lv_at hl 0 rfl) ?_
  refine lv_iload_n X.1 X.2.1 dX12_program_6 rfl (lv_at hl 1 rfl) ?_
  have t_12 : pI S_9 1211 x = v_5 := tI_sI eS_9 rfl ev_5
  have pz_13 : (pI S_9 1211 x).toInt = v_5.toInt := (congrArg Int32.toInt t_12).trans rfl
  have t_14 : At S_9 x 12 := tAt_sI eS_9 ha_x
  refine k_i (rm := { frames := 2, cells := 0, slots := 0, locals := 96 }) (av := [.ref x, .int (a1)]) X hw (va_runV (As := [.int (a1)]) (rest := []) (cfix X) (k_X12_isPot l G cy κ S_9 _ x (a1) (a1_z) hO_10.1 t_14 hz_a1) (cwV 1 X.2.2.2.1 gX12_program_X12_isPot rfl rfl rfl (by decide +kernel) ⟨Nat.le_of_ble_eq_true rfl, Nat.le_of_ble_eq_true rfl⟩) (pre_V X hw _ t_14 rfl (by decide) rfl) rfl rfl hl.1 rfl (lv_room (Nat.le_of_ble_eq_true rfl)) dX12_program_7 ⟨Nat.le_of_ble_eq_true rfl, Nat.le_of_ble_eq_true rfl⟩) 0 0 (Nat.le_of_ble_eq_true rfl) (Nat.le_of_ble_eq_true rfl) (fun rr_15 S_16 H locs hp hw hfr hnw => ?_)
  obtain ⟨e2, hp⟩ := hp
  subst e2
  rcases hp with ⟨f_17, er_18⟩ | ⟨f_17, er_18⟩ <;> subst er_18
  · have z_b_19 := trivial
    refine lv_if_ne (tgt := 15) X.1 X.2.1 dX12_program_10 (by decide) (fun c_20 => ?_) (fun c_20 => absurd c_20 (by decide))
    have L_21 : ∀ (n : Nat) (T_23 : PS) (H : Heap) (locs : List Loc) (ls : Array Slot) (i3_22 : Int32) (i3_22_z : Int), ((12 - i3_22_z).toNat = n) → (Wd G cy (AS S s.heap.size) s.heap T_23 H locs) → (i3_22.toInt = i3_22_z) → (0 ≤ i3_22_z ∧ i3_22_z ≤ 12) → (At T_23 x 12) → (Ok MPg S T_23) → ((pI T_23 1228 x).toInt = 0) → (lv_has ls 5 [(3, .int (i3_22)), (0, .ref x), (1, .int (a1))]) → W p l e ({ frames := 8, cells := 0, slots := 0, locals := 384 }) s m [.ref x, .int (a1)].toArray below meth c H locs 0 0 QQ (F0 m 96 ls []) := by
      intro n
      induction n using Nat.strongRecOn with
      | ind n ih_L_21 =>
      intro T_23 H locs ls i3_22 i3_22_z hn hw hz_i3_22 hr_i3_22 ha_x_L_24 hO_T_23 iv_25 hl
      have rg_26 : (-2147483648) ≤ i3_22_z ∧ i3_22_z ≤ 2147483647 := by rw [← hz_i3_22]; exact ⟨z_lo _, z_hi _⟩
      obtain ⟨v_27, ev_27⟩ : ∃ v, pI T_23 1228 x = v := ⟨_, rfl⟩
      have rg_28 := gI_12_1228 hO_T_23.1 ha_x_L_24; rw [ev_27] at rg_28
      have pz_29 : (pI T_23 1228 x).toInt = v_27.toInt := by rw [ev_27]
      have pz_30 : (pI T_23 1228 x).toInt = v_27.toInt := (congrArg Int32.toInt ev_27).trans rfl
      refine lv_iload_n X.1 X.2.1 dX12_program_96 rfl (lv_at hl 0 rfl) ?_
      refine lv_bipush (v := 12) X.1 X.2.1 dX12_program_97 (by decide) ?_
      refine lv_icmp_ge (tgt := 273) X.1 X.2.1 dX12_program_99 (by decide) (fun c_31 => ?_) (fun c_31 => ?_)
      · have z_b_32 := trivial
        have k_33 : i3_22_z ≥ 12 := z_le ti_12 hz_i3_22 c_31
        refine lv_aload_n X.1 X.2.1 dX12_program_273 rfl (lv_at hl 1 rfl) ?_
        obtain ⟨q_34, h_35, h_36, h_37⟩ := gQ_12_1220 hO_T_23.1 ha_x_L_24
        refine r_getR (g := 1220) X hw ha_x_L_24 rfl 20 h_35 (by decide) rfl inn_X12_program_12 (by decide) (X.2.2.2.1 (.fieldLink RX12 61 "SilkMillModel" "rules" "[I") (by decide +kernel)) rfl (gv_1220 _ _) dX12_program_274 ?_
        refine lv_iload_n X.1 X.2.1 dX12_program_277 rfl (lv_at hl 2 rfl) ?_
        refine r_iald X hw h_36 rfl (by rw [h_37]; exact z_ix hz_a1 (by omega) (by omega)) dX12_program_278 ?_
        refine lv_topi (fun v_38 ev_38 => ?_)
        have z_39 := gE_614 hO_T_23.1 h_36 (Int32.toNatClampNeg (a1)); rw [← ev_38] at z_39
        have ev_38 := ev_38.symm
        have pz_40 : (pI T_23 1228 x).toInt = v_27.toInt := (congrArg Int32.toInt ev_27).trans rfl
        rw [hQQ]
        exact ret_i X hw hr hlocks (Nat.le_of_ble_eq_true rfl) (Nat.le_of_ble_eq_true rfl) ⟨hO_T_23, ⟨z_lo _, z_hi _, by omega⟩⟩ dX12_program_279
      · have z_b_41 := trivial
        have k_42 : i3_22_z < 12 := z_nle ti_12 hz_i3_22 c_31
        refine lv_aload_n X.1 X.2.1 dX12_program_102 rfl (lv_at hl 1 rfl) ?_
        obtain ⟨q_43, h_44, h_45, h_46⟩ := gQ_12_1221 hO_T_23.1 ha_x_L_24
        refine r_getR (g := 1221) X hw ha_x_L_24 rfl 21 h_44 (by decide) rfl inn_X12_program_12 (by decide) (X.2.2.2.1 (.fieldLink RX12 64 "SilkMillModel" "act" "[I") (by decide +kernel)) rfl (gv_1221 _ _) dX12_program_103 ?_
        refine lv_bipush (v := 12) X.1 X.2.1 dX12_program_106 (by decide) ?_
        refine lv_iload_n X.1 X.2.1 dX12_program_108 rfl (lv_at hl 2 rfl) ?_
        refine lv_imul X.1 X.2.1 dX12_program_109 ?_
        refine lv_topi (fun v_47 ev_47 => ?_)
        have z_48 : v_47.toInt = 12 * a1_z := z_mul ev_47 ti_12 hz_a1 (by omega) (by omega)
        refine lv_iload_n X.1 X.2.1 dX12_program_110 rfl (lv_at hl 0 rfl) ?_
        refine lv_iadd X.1 X.2.1 dX12_program_111 ?_
        refine lv_topi (fun v_49 ev_49 => ?_)
        have z_50 : v_49.toInt = (12 * a1_z) + i3_22_z := z_add ev_49 z_48 hz_i3_22 (by omega) (by omega)
        refine lv_aload_n X.1 X.2.1 dX12_program_112 rfl (lv_at hl 1 rfl) ?_
        refine r_getR (g := 1221) X hw ha_x_L_24 rfl 21 h_44 (by decide) rfl inn_X12_program_12 (by decide) (X.2.2.2.1 (.fieldLink RX12 64 "SilkMillModel" "act" "[I") (by decide +kernel)) rfl (gv_1221 _ _) dX12_program_113 ?_
        refine lv_bipush (v := 48) X.1 X.2.1 dX12_program_116 (by decide) ?_
        refine lv_iload_n X.1 X.2.1 dX12_program_118 rfl (lv_at hl 0 rfl) ?_
        refine lv_iadd X.1 X.2.1 dX12_program_119 ?_
        refine lv_topi (fun v_51 ev_51 => ?_)
        have z_52 : v_51.toInt = 48 + i3_22_z := z_add ev_51 ti_48 hz_i3_22 (by omega) (by omega)
        refine r_iald X hw h_45 rfl (by rw [h_46]; exact z_ix z_52 (by omega) (by omega)) dX12_program_120 ?_
        refine lv_topi (fun v_53 ev_53 => ?_)
        have rg_54 := And.intro (z_lo v_53) (z_hi v_53)
        have ev_53 := ev_53.symm
        refine r_iast X hw h_45 rfl (by rw [h_46]; exact z_ix z_50 (by omega) (by omega)) dX12_program_121 (fun H locs hw => ?_)
        obtain ⟨S_55, eS_55⟩ : ∃ T, T = sA T_23 q_43 (upd (pA T_23 q_43) (Int32.toNatClampNeg (v_49)) (v_53)) := ⟨_, rfl⟩
        rw [← eS_55] at hw
        have hO_56 : Ok MPg S S_55 := hO_T_23.sA eS_55 h_45 (by decide +kernel) (uA_634 hO_T_23.1 h_45)
        have h_57 : pA S_55 q_43 (Int32.toNatClampNeg (v_49)) = v_53 := tA_sAs eS_55
        clear z_48
        clear z_50
        clear z_52
        refine lv_aload_n X.1 X.2.1 dX12_program_122 rfl (lv_at hl 1 rfl) ?_
        have t_58 : At S_55 x 12 := tAt_sA eS_55 ha_x_L_24
        obtain ⟨q_59, h_60, h_61, h_62⟩ := gQ_12_1222 hO_56.1 t_58
        refine r_getR (g := 1222) X hw t_58 rfl 22 h_60 (by decide) rfl inn_X12_program_12 (by decide) (X.2.2.2.1 (.fieldLink RX12 67 "SilkMillModel" "actNumber" "[I") (by decide +kernel)) rfl (gv_1222 _ _) dX12_program_123 ?_
        refine lv_bipush (v := 12) X.1 X.2.1 dX12_program_126 (by decide) ?_
        refine lv_iload_n X.1 X.2.1 dX12_program_128 rfl (lv_at hl 2 rfl) ?_
        refine lv_imul X.1 X.2.1 dX12_program_129 ?_
        refine lv_topi (fun v_63 ev_63 => ?_)
        have z_64 : v_63.toInt = 12 * a1_z := z_mul ev_63 ti_12 hz_a1 (by omega) (by omega)
        refine lv_iload_n X.1 X.2.1 dX12_program_130 rfl (lv_at hl 0 rfl) ?_
        refine lv_iadd X.1 X.2.1 dX12_program_131 ?_
        refine lv_topi (fun v_65 ev_65 => ?_)
        have z_66 : v_65.toInt = (12 * a1_z) + i3_22_z := z_add ev_65 z_64 hz_i3_22 (by omega) (by omega)
        refine lv_aload_n X.1 X.2.1 dX12_program_132 rfl (lv_at hl 1 rfl) ?_
        refine r_getR (g := 1222) X hw t_58 rfl 22 h_60 (by decide) rfl inn_X12_program_12 (by decide) (X.2.2.2.1 (.fieldLink RX12 67 "SilkMillModel" "actNumber" "[I") (by decide +kernel)) rfl (gv_1222 _ _) dX12_program_133 ?_
        refine lv_bipush (v := 48) X.1 X.2.1 dX12_program_136 (by decide) ?_
        refine lv_iload_n X.1 X.2.1 dX12_program_138 rfl (lv_at hl 0 rfl) ?_
        refine lv_iadd X.1 X.2.1 dX12_program_139 ?_
        refine lv_topi (fun v_67 ev_67 => ?_)
        have z_68 : v_67.toInt = 48 + i3_22_z := z_add ev_67 ti_48 hz_i3_22 (by omega) (by omega)
        refine r_iald X hw h_61 rfl (by rw [h_62]; exact z_ix z_68 (by omega) (by omega)) dX12_program_140 ?_
        refine lv_topi (fun v_69 ev_69 => ?_)
        have rg_70 := And.intro (z_lo v_69) (z_hi v_69)
        have ev_69 := ev_69.symm
        refine r_iast X hw h_61 rfl (by rw [h_62]; exact z_ix z_66 (by omega) (by omega)) dX12_program_141 (fun H locs hw => ?_)
        obtain ⟨S_71, eS_71⟩ : ∃ T, T = sA S_55 q_59 (upd (pA S_55 q_59) (Int32.toNatClampNeg (v_65)) (v_69)) := ⟨_, rfl⟩
        rw [← eS_71] at hw
        have hO_72 : Ok MPg S S_71 := hO_56.sA eS_71 h_61 (by decide +kernel) (uA_654 hO_56.1 h_61)
        have h_73 : pA S_71 q_59 (Int32.toNatClampNeg (v_65)) = v_69 := tA_sAs eS_71
        clear z_64
        clear z_66
        clear z_68
        refine lv_aload_n X.1 X.2.1 dX12_program_142 rfl (lv_at hl 1 rfl) ?_
        have t_74 : At S_71 x 12 := tAt_sA eS_71 t_58
        obtain ⟨q_75, h_76, h_77, h_78⟩ := gQ_12_1223 hO_72.1 t_74
        refine r_getR (g := 1223) X hw t_74 rfl 23 h_76 (by decide) rfl inn_X12_program_12 (by decide) (X.2.2.2.1 (.fieldLink RX12 70 "SilkMillModel" "conditions" "[I") (by decide +kernel)) rfl (gv_1223 _ _) dX12_program_143 ?_
        refine lv_bipush (v := 12) X.1 X.2.1 dX12_program_146 (by decide) ?_
        refine lv_iload_n X.1 X.2.1 dX12_program_148 rfl (lv_at hl 2 rfl) ?_
        refine lv_imul X.1 X.2.1 dX12_program_149 ?_
        refine lv_topi (fun v_79 ev_79 => ?_)
        have z_80 : v_79.toInt = 12 * a1_z := z_mul ev_79 ti_12 hz_a1 (by omega) (by omega)
        refine lv_iload_n X.1 X.2.1 dX12_program_150 rfl (lv_at hl 0 rfl) ?_
        refine lv_iadd X.1 X.2.1 dX12_program_151 ?_
        refine lv_topi (fun v_81 ev_81 => ?_)
        have z_82 : v_81.toInt = (12 * a1_z) + i3_22_z := z_add ev_81 z_80 hz_i3_22 (by omega) (by omega)
        refine lv_aload_n X.1 X.2.1 dX12_program_152 rfl (lv_at hl 1 rfl) ?_
        refine r_getR (g := 1223) X hw t_74 rfl 23 h_76 (by decide) rfl inn_X12_program_12 (by decide) (X.2.2.2.1 (.fieldLink RX12 70 "SilkMillModel" "conditions" "[I") (by decide +kernel)) rfl (gv_1223 _ _) dX12_program_153 ?_
        refine lv_bipush (v := 48) X.1 X.2.1 dX12_program_156 (by decide) ?_
        refine lv_iload_n X.1 X.2.1 dX12_program_158 rfl (lv_at hl 0 rfl) ?_
        refine lv_iadd X.1 X.2.1 dX12_program_159 ?_
        refine lv_topi (fun v_83 ev_83 => ?_)
        have z_84 : v_83.toInt = 48 + i3_22_z := z_add ev_83 ti_48 hz_i3_22 (by omega) (by omega)
        refine r_iald X hw h_77 rfl (by rw [h_78]; exact z_ix z_84 (by omega) (by omega)) dX12_program_160 ?_
        refine lv_topi (fun v_85 ev_85 => ?_)
        have z_86 := gE_674 hO_72.1 h_77 (Int32.toNatClampNeg (v_83)); rw [← ev_85] at z_86
        have ev_85 := ev_85.symm
        refine r_iast X hw h_77 rfl (by rw [h_78]; exact z_ix z_82 (by omega) (by omega)) dX12_program_161 (fun H locs hw => ?_)
        obtain ⟨S_87, eS_87⟩ : ∃ T, T = sA S_71 q_75 (upd (pA S_71 q_75) (Int32.toNatClampNeg (v_81)) (v_85)) := ⟨_, rfl⟩
        rw [← eS_87] at hw
        have hO_88 : Ok MPg S S_87 := hO_72.sA eS_87 h_77 (by decide +kernel) (uA_674 hO_72.1 h_77 (by omega) (by omega))
        have h_89 : pA S_87 q_75 (Int32.toNatClampNeg (v_81)) = v_85 := tA_sAs eS_87
        clear z_80
        clear z_82
        clear z_84
        refine lv_iconst (v := 0) X.1 X.2.1 dX12_program_162 (by decide) ?_
        refine lv_istore (lv' := [(4, .int 0), (3, .int (i3_22)), (0, .ref x), (1, .int (a1))]) X.1 X.2.1 dX12_program_163 hl (by decide) rfl (fun ls hl => ?_)
        have L_90 : ∀ (n : Nat) (T_92 : PS) (H : Heap) (locs : List Loc) (ls : Array Slot) (i4_91 : Int32) (i4_91_z : Int), ((4 - i4_91_z).toNat = n) → (Wd G cy (AS S s.heap.size) s.heap T_92 H locs) → (i4_91.toInt = i4_91_z) → (0 ≤ i4_91_z ∧ i4_91_z ≤ 4) → (At T_92 x 12) → (Ok MPg S T_92) → ((pI T_92 1228 x).toInt = 0) → (lv_has ls 5 [(4, .int (i4_91)), (3, .int (i3_22)), (0, .ref x), (1, .int (a1))]) → W p l e ({ frames := 8, cells := 0, slots := 0, locals := 384 }) s m [.ref x, .int (a1)].toArray below meth c H locs 0 0 QQ (F0 m 165 ls []) := by
          intro n
          induction n using Nat.strongRecOn with
          | ind n ih_L_90 =>
          intro T_92 H locs ls i4_91 i4_91_z hn hw hz_i4_91 hr_i4_91 ha_x_L_93 hO_T_92 iv_94 hl
          have rg_95 : (-2147483648) ≤ i4_91_z ∧ i4_91_z ≤ 2147483647 := by rw [← hz_i4_91]; exact ⟨z_lo _, z_hi _⟩
          obtain ⟨v_96, ev_96⟩ : ∃ v, pI T_92 1228 x = v := ⟨_, rfl⟩
          have rg_97 := gI_12_1228 hO_T_92.1 ha_x_L_93; rw [ev_96] at rg_97
          have pz_98 : (pI T_92 1228 x).toInt = v_96.toInt := by rw [ev_96]
          have pz_99 : (pI T_92 1228 x).toInt = v_96.toInt := (congrArg Int32.toInt ev_96).trans rfl
          refine lv_iload X.1 X.2.1 dX12_program_165 (lv_at hl 0 rfl) ?_
          refine lv_iconst (v := 4) X.1 X.2.1 dX12_program_167 (by decide) ?_
          refine lv_icmp_ge (tgt := 267) X.1 X.2.1 dX12_program_168 (by decide) (fun c_100 => ?_) (fun c_100 => ?_)
          · have z_b_101 := trivial
            have k_102 : i4_91_z ≥ 4 := z_le ti_4 hz_i4_91 c_100
            obtain ⟨x_103, ex_103⟩ : ∃ y : Int32, y = i3_22 + 1 := ⟨_, rfl⟩
            have z_104 : x_103.toInt = i3_22_z + 1 := z_add ex_103 hz_i3_22 ti_1 (by omega) (by omega)
            refine lv_iinc (v := x_103) (lv' := [(3, .int (x_103)), (4, .int (i4_91)), (0, .ref x), (1, .int (a1))]) X.1 X.2.1 dX12_program_267 hl (k := 1) rfl (by rw [ex_103]; rfl) (by decide) rfl (fun ls hl => ?_)
            refine lv_goto (tgt := 96) X.1 X.2.1 dX12_program_270 (by decide) ?_
            have pz_105 : (pI T_92 1228 x).toInt = v_96.toInt := (congrArg Int32.toInt ev_96).trans rfl
            exact ih_L_21 _ (by omega) _ _ _ _ (x_103) (x_103.toInt) rfl hw rfl (by omega) ha_x_L_93 hO_T_92 (by omega) (lv_sub hl [0, 2, 3] rfl)
          · have z_b_106 := trivial
            have k_107 : i4_91_z < 4 := z_nle ti_4 hz_i4_91 c_100
            refine lv_aload_n X.1 X.2.1 dX12_program_171 rfl (lv_at hl 2 rfl) ?_
            obtain ⟨q_108, h_109, h_110, h_111⟩ := gQ_12_1224 hO_T_92.1 ha_x_L_93
            refine r_getR (g := 1224) X hw ha_x_L_93 rfl 24 h_109 (by decide) rfl inn_X12_program_12 (by decide) (X.2.2.2.1 (.fieldLink RX12 73 "SilkMillModel" "field" "[I") (by decide +kernel)) rfl (gv_1224 _ _) dX12_program_172 ?_
            refine lv_iconst (v := 4) X.1 X.2.1 dX12_program_175 (by decide) ?_
            refine lv_bipush (v := 12) X.1 X.2.1 dX12_program_176 (by decide) ?_
            refine lv_iload_n X.1 X.2.1 dX12_program_178 rfl (lv_at hl 3 rfl) ?_
            refine lv_imul X.1 X.2.1 dX12_program_179 ?_
            refine lv_topi (fun v_112 ev_112 => ?_)
            have z_113 : v_112.toInt = 12 * a1_z := z_mul ev_112 ti_12 hz_a1 (by omega) (by omega)
            refine lv_iload_n X.1 X.2.1 dX12_program_180 rfl (lv_at hl 1 rfl) ?_
            refine lv_iadd X.1 X.2.1 dX12_program_181 ?_
            refine lv_topi (fun v_114 ev_114 => ?_)
            have z_115 : v_114.toInt = (12 * a1_z) + i3_22_z := z_add ev_114 z_113 hz_i3_22 (by omega) (by omega)
            refine lv_imul X.1 X.2.1 dX12_program_182 ?_
            refine lv_topi (fun v_116 ev_116 => ?_)
            have z_117 : v_116.toInt = 4 * ((12 * a1_z) + i3_22_z) := z_mul ev_116 ti_4 z_115 (by omega) (by omega)
            refine lv_iload X.1 X.2.1 dX12_program_183 (lv_at hl 0 rfl) ?_
            refine lv_iadd X.1 X.2.1 dX12_program_185 ?_
            refine lv_topi (fun v_118 ev_118 => ?_)
            have z_119 : v_118.toInt = (4 * ((12 * a1_z) + i3_22_z)) + i4_91_z := z_add ev_118 z_117 hz_i4_91 (by omega) (by omega)
            refine lv_aload_n X.1 X.2.1 dX12_program_186 rfl (lv_at hl 2 rfl) ?_
            refine r_getR (g := 1224) X hw ha_x_L_93 rfl 24 h_109 (by decide) rfl inn_X12_program_12 (by decide) (X.2.2.2.1 (.fieldLink RX12 73 "SilkMillModel" "field" "[I") (by decide +kernel)) rfl (gv_1224 _ _) dX12_program_187 ?_
            refine lv_iconst (v := 4) X.1 X.2.1 dX12_program_190 (by decide) ?_
            refine lv_bipush (v := 48) X.1 X.2.1 dX12_program_191 (by decide) ?_
            refine lv_iload_n X.1 X.2.1 dX12_program_193 rfl (lv_at hl 1 rfl) ?_
            refine lv_iadd X.1 X.2.1 dX12_program_194 ?_
            refine lv_topi (fun v_120 ev_120 => ?_)
            have z_121 : v_120.toInt = 48 + i3_22_z := z_add ev_120 ti_48 hz_i3_22 (by omega) (by omega)
            refine lv_imul X.1 X.2.1 dX12_program_195 ?_
            refine lv_topi (fun v_122 ev_122 => ?_)
            have z_123 : v_122.toInt = 4 * (48 + i3_22_z) := z_mul ev_122 ti_4 z_121 (by omega) (by omega)
            refine lv_iload X.1 X.2.1 dX12_program_196 (lv_at hl 0 rfl) ?_
            refine lv_iadd X.1 X.2.1 dX12_program_198 ?_
            refine lv_topi (fun v_124 ev_124 => ?_)
            have z_125 : v_124.toInt = (4 * (48 + i3_22_z)) + i4_91_z := z_add ev_124 z_123 hz_i4_91 (by omega) (by omega)
            refine r_iald X hw h_110 rfl (by rw [h_111]; exact z_ix z_125 (by omega) (by omega)) dX12_program_199 ?_
            refine lv_topi (fun v_126 ev_126 => ?_)
            have rg_127 := And.intro (z_lo v_126) (z_hi v_126)
            have ev_126 := ev_126.symm
            refine r_iast X hw h_110 rfl (by rw [h_111]; exact z_ix z_119 (by omega) (by omega)) dX12_program_200 (fun H locs hw => ?_)
            obtain ⟨S_128, eS_128⟩ : ∃ T, T = sA T_92 q_108 (upd (pA T_92 q_108) (Int32.toNatClampNeg (v_118)) (v_126)) := ⟨_, rfl⟩
            rw [← eS_128] at hw
            have hO_129 : Ok MPg S S_128 := hO_T_92.sA eS_128 h_110 (by decide +kernel) (uA_694 hO_T_92.1 h_110)
            have h_130 : pA S_128 q_108 (Int32.toNatClampNeg (v_118)) = v_126 := tA_sAs eS_128
            clear z_113
            clear z_115
            clear z_117
            clear z_119
            clear z_121
            clear z_123
            clear z_125
            refine lv_aload_n X.1 X.2.1 dX12_program_201 rfl (lv_at hl 2 rfl) ?_
            have t_131 : At S_128 x 12 := tAt_sA eS_128 ha_x_L_93
            obtain ⟨q_132, h_133, h_134, h_135⟩ := gQ_12_1225 hO_129.1 t_131
            refine r_getR (g := 1225) X hw t_131 rfl 25 h_133 (by decide) rfl inn_X12_program_12 (by decide) (X.2.2.2.1 (.fieldLink RX12 76 "SilkMillModel" "rel" "[I") (by decide +kernel)) rfl (gv_1225 _ _) dX12_program_202 ?_
            refine lv_iconst (v := 4) X.1 X.2.1 dX12_program_205 (by decide) ?_
            refine lv_bipush (v := 12) X.1 X.2.1 dX12_program_206 (by decide) ?_
            refine lv_iload_n X.1 X.2.1 dX12_program_208 rfl (lv_at hl 3 rfl) ?_
            refine lv_imul X.1 X.2.1 dX12_program_209 ?_
            refine lv_topi (fun v_136 ev_136 => ?_)
            have z_137 : v_136.toInt = 12 * a1_z := z_mul ev_136 ti_12 hz_a1 (by omega) (by omega)
            refine lv_iload_n X.1 X.2.1 dX12_program_210 rfl (lv_at hl 1 rfl) ?_
            refine lv_iadd X.1 X.2.1 dX12_program_211 ?_
            refine lv_topi (fun v_138 ev_138 => ?_)
            have z_139 : v_138.toInt = (12 * a1_z) + i3_22_z := z_add ev_138 z_137 hz_i3_22 (by omega) (by omega)
            refine lv_imul X.1 X.2.1 dX12_program_212 ?_
            refine lv_topi (fun v_140 ev_140 => ?_)
            have z_141 : v_140.toInt = 4 * ((12 * a1_z) + i3_22_z) := z_mul ev_140 ti_4 z_139 (by omega) (by omega)
            refine lv_iload X.1 X.2.1 dX12_program_213 (lv_at hl 0 rfl) ?_
            refine lv_iadd X.1 X.2.1 dX12_program_215 ?_
            refine lv_topi (fun v_142 ev_142 => ?_)
            have z_143 : v_142.toInt = (4 * ((12 * a1_z) + i3_22_z)) + i4_91_z := z_add ev_142 z_141 hz_i4_91 (by omega) (by omega)
            refine lv_aload_n X.1 X.2.1 dX12_program_216 rfl (lv_at hl 2 rfl) ?_
            refine r_getR (g := 1225) X hw t_131 rfl 25 h_133 (by decide) rfl inn_X12_program_12 (by decide) (X.2.2.2.1 (.fieldLink RX12 76 "SilkMillModel" "rel" "[I") (by decide +kernel)) rfl (gv_1225 _ _) dX12_program_217 ?_
            refine lv_iconst (v := 4) X.1 X.2.1 dX12_program_220 (by decide) ?_
            refine lv_bipush (v := 48) X.1 X.2.1 dX12_program_221 (by decide) ?_
            refine lv_iload_n X.1 X.2.1 dX12_program_223 rfl (lv_at hl 1 rfl) ?_
            refine lv_iadd X.1 X.2.1 dX12_program_224 ?_
            refine lv_topi (fun v_144 ev_144 => ?_)
            have z_145 : v_144.toInt = 48 + i3_22_z := z_add ev_144 ti_48 hz_i3_22 (by omega) (by omega)
            refine lv_imul X.1 X.2.1 dX12_program_225 ?_
            refine lv_topi (fun v_146 ev_146 => ?_)
            have z_147 : v_146.toInt = 4 * (48 + i3_22_z) := z_mul ev_146 ti_4 z_145 (by omega) (by omega)
            refine lv_iload X.1 X.2.1 dX12_program_226 (lv_at hl 0 rfl) ?_
            refine lv_iadd X.1 X.2.1 dX12_program_228 ?_
            refine lv_topi (fun v_148 ev_148 => ?_)
            have z_149 : v_148.toInt = (4 * (48 + i3_22_z)) + i4_91_z := z_add ev_148 z_147 hz_i4_91 (by omega) (by omega)
            refine r_iald X hw h_134 rfl (by rw [h_135]; exact z_ix z_149 (by omega) (by omega)) dX12_program_229 ?_
            refine lv_topi (fun v_150 ev_150 => ?_)
            have rg_151 := And.intro (z_lo v_150) (z_hi v_150)
            have ev_150 := ev_150.symm
            refine r_iast X hw h_134 rfl (by rw [h_135]; exact z_ix z_143 (by omega) (by omega)) dX12_program_230 (fun H locs hw => ?_)
            obtain ⟨S_152, eS_152⟩ : ∃ T, T = sA S_128 q_132 (upd (pA S_128 q_132) (Int32.toNatClampNeg (v_142)) (v_150)) := ⟨_, rfl⟩
            rw [← eS_152] at hw
            have hO_153 : Ok MPg S S_152 := hO_129.sA eS_152 h_134 (by decide +kernel) (uA_714 hO_129.1 h_134)
            have h_154 : pA S_152 q_132 (Int32.toNatClampNeg (v_142)) = v_150 := tA_sAs eS_152
            clear z_137
            clear z_139
            clear z_141
            clear z_143
            clear z_145
            clear z_147
            clear z_149
            refine lv_aload_n X.1 X.2.1 dX12_program_231 rfl (lv_at hl 2 rfl) ?_
            have t_155 : At S_152 x 12 := tAt_sA eS_152 t_131
            obtain ⟨q_156, h_157, h_158, h_159⟩ := gQ_12_1226 hO_153.1 t_155
            refine r_getR (g := 1226) X hw t_155 rfl 26 h_157 (by decide) rfl inn_X12_program_12 (by decide) (X.2.2.2.1 (.fieldLink RX12 79 "SilkMillModel" "than" "[I") (by decide +kernel)) rfl (gv_1226 _ _) dX12_program_232 ?_
            refine lv_iconst (v := 4) X.1 X.2.1 dX12_program_235 (by decide) ?_
            refine lv_bipush (v := 12) X.1 X.2.1 dX12_program_236 (by decide) ?_
            refine lv_iload_n X.1 X.2.1 dX12_program_238 rfl (lv_at hl 3 rfl) ?_
            refine lv_imul X.1 X.2.1 dX12_program_239 ?_
            refine lv_topi (fun v_160 ev_160 => ?_)
            have z_161 : v_160.toInt = 12 * a1_z := z_mul ev_160 ti_12 hz_a1 (by omega) (by omega)
            refine lv_iload_n X.1 X.2.1 dX12_program_240 rfl (lv_at hl 1 rfl) ?_
            refine lv_iadd X.1 X.2.1 dX12_program_241 ?_
            refine lv_topi (fun v_162 ev_162 => ?_)
            have z_163 : v_162.toInt = (12 * a1_z) + i3_22_z := z_add ev_162 z_161 hz_i3_22 (by omega) (by omega)
            refine lv_imul X.1 X.2.1 dX12_program_242 ?_
            refine lv_topi (fun v_164 ev_164 => ?_)
            have z_165 : v_164.toInt = 4 * ((12 * a1_z) + i3_22_z) := z_mul ev_164 ti_4 z_163 (by omega) (by omega)
            refine lv_iload X.1 X.2.1 dX12_program_243 (lv_at hl 0 rfl) ?_
            refine lv_iadd X.1 X.2.1 dX12_program_245 ?_
            refine lv_topi (fun v_166 ev_166 => ?_)
            have z_167 : v_166.toInt = (4 * ((12 * a1_z) + i3_22_z)) + i4_91_z := z_add ev_166 z_165 hz_i4_91 (by omega) (by omega)
            refine lv_aload_n X.1 X.2.1 dX12_program_246 rfl (lv_at hl 2 rfl) ?_
            refine r_getR (g := 1226) X hw t_155 rfl 26 h_157 (by decide) rfl inn_X12_program_12 (by decide) (X.2.2.2.1 (.fieldLink RX12 79 "SilkMillModel" "than" "[I") (by decide +kernel)) rfl (gv_1226 _ _) dX12_program_247 ?_
            refine lv_iconst (v := 4) X.1 X.2.1 dX12_program_250 (by decide) ?_
            refine lv_bipush (v := 48) X.1 X.2.1 dX12_program_251 (by decide) ?_
            refine lv_iload_n X.1 X.2.1 dX12_program_253 rfl (lv_at hl 1 rfl) ?_
            refine lv_iadd X.1 X.2.1 dX12_program_254 ?_
            refine lv_topi (fun v_168 ev_168 => ?_)
            have z_169 : v_168.toInt = 48 + i3_22_z := z_add ev_168 ti_48 hz_i3_22 (by omega) (by omega)
            refine lv_imul X.1 X.2.1 dX12_program_255 ?_
            refine lv_topi (fun v_170 ev_170 => ?_)
            have z_171 : v_170.toInt = 4 * (48 + i3_22_z) := z_mul ev_170 ti_4 z_169 (by omega) (by omega)
            refine lv_iload X.1 X.2.1 dX12_program_256 (lv_at hl 0 rfl) ?_
            refine lv_iadd X.1 X.2.1 dX12_program_258 ?_
            refine lv_topi (fun v_172 ev_172 => ?_)
            have z_173 : v_172.toInt = (4 * (48 + i3_22_z)) + i4_91_z := z_add ev_172 z_171 hz_i4_91 (by omega) (by omega)
            refine r_iald X hw h_158 rfl (by rw [h_159]; exact z_ix z_173 (by omega) (by omega)) dX12_program_259 ?_
            refine lv_topi (fun v_174 ev_174 => ?_)
            have rg_175 := And.intro (z_lo v_174) (z_hi v_174)
            have ev_174 := ev_174.symm
            refine r_iast X hw h_158 rfl (by rw [h_159]; exact z_ix z_167 (by omega) (by omega)) dX12_program_260 (fun H locs hw => ?_)
            obtain ⟨S_176, eS_176⟩ : ∃ T, T = sA S_152 q_156 (upd (pA S_152 q_156) (Int32.toNatClampNeg (v_166)) (v_174)) := ⟨_, rfl⟩
            rw [← eS_176] at hw
            have hO_177 : Ok MPg S S_176 := hO_153.sA eS_176 h_158 (by decide +kernel) (uA_734 hO_153.1 h_158)
            have h_178 : pA S_176 q_156 (Int32.toNatClampNeg (v_166)) = v_174 := tA_sAs eS_176
            clear z_161
            clear z_163
            clear z_165
            clear z_167
            clear z_169
            clear z_171
            clear z_173
            obtain ⟨x_179, ex_179⟩ : ∃ y : Int32, y = i4_91 + 1 := ⟨_, rfl⟩
            have z_180 : x_179.toInt = i4_91_z + 1 := z_add ex_179 hz_i4_91 ti_1 (by omega) (by omega)
            refine lv_iinc (v := x_179) (lv' := [(4, .int (x_179)), (3, .int (i3_22)), (0, .ref x), (1, .int (a1))]) X.1 X.2.1 dX12_program_261 hl (k := 0) rfl (by rw [ex_179]; rfl) (by decide) rfl (fun ls hl => ?_)
            refine lv_goto (tgt := 165) X.1 X.2.1 dX12_program_264 (by decide) ?_
            have t_181 : pI S_128 1228 x = v_96 := tI_sA eS_128 ev_96
            have t_182 : pI S_152 1228 x = v_96 := tI_sA eS_152 t_181
            have t_183 : pI S_176 1228 x = v_96 := tI_sA eS_176 t_182
            have pz_184 : (pI S_176 1228 x).toInt = v_96.toInt := (congrArg Int32.toInt t_183).trans rfl
            have t_185 : At S_176 x 12 := tAt_sA eS_176 t_155
            exact ih_L_90 _ (by omega) _ _ _ _ (x_179) (x_179.toInt) rfl hw rfl (by omega) t_185 hO_177 (by omega) (lv_sub hl [0, 1, 2, 3] rfl)
        have t_186 : pI S_55 1228 x = v_27 := tI_sA eS_55 ev_27
        have t_187 : pI S_71 1228 x = v_27 := tI_sA eS_71 t_186
        have t_188 : pI S_87 1228 x = v_27 := tI_sA eS_87 t_187
        have pz_189 : (pI S_87 1228 x).toInt = v_27.toInt := (congrArg Int32.toInt t_188).trans rfl
        have t_190 : At S_87 x 12 := tAt_sA eS_87 t_74
        exact L_90 _ _ _ _ _ (0) (0) rfl hw ti_0 (by omega) t_190 hO_88 (by omega) (lv_sub hl [0, 1, 2, 3] rfl)
    refine lv_aload_n X.1 X.2.1 dX12_program_15 rfl (lv_at hl 0 rfl) ?_
    refine lv_iconst (v := 0) X.1 X.2.1 dX12_program_16 (by decide) ?_
    refine r_putI (v := 0) X hw t_14 rfl 30 1230 tyX12 (by decide) rfl inn_X12_program_12 tyX12_ok nmX12 (by decide) (X.2.2.2.1 (.fieldLink RX12 229 "SilkMillModel" "faultKind" "I") (by decide +kernel)) rfl (Or.inl rfl) rfl rfl (Nat.le_of_ble_eq_true rfl) (st_1230 _ _) dX12_program_17 (fun H locs hw => ?_)
    obtain ⟨S_191, eS_191⟩ : ∃ T, T = sI S_9 1230 x (0) := ⟨_, rfl⟩
    rw [← eS_191] at hw
    have hO_192 : Ok MPg S S_191 := hO_10.sI eS_191 (by decide +kernel) (uI_12_1230 hO_10.1 t_14)
    have h_193 : pI S_191 1230 x = 0 := tI_sIs eS_191
    refine lv_aload_n X.1 X.2.1 dX12_program_20 rfl (lv_at hl 0 rfl) ?_
    refine lv_iconst (v := (-1)) X.1 X.2.1 dX12_program_21 (by decide) ?_
    have t_194 : At S_191 x 12 := tAt_sI eS_191 t_14
    refine r_putI (v := (-1)) X hw t_194 rfl 29 1229 tyX12 (by decide) rfl inn_X12_program_12 tyX12_ok nmX12 (by decide) (X.2.2.2.1 (.fieldLink RX12 86 "SilkMillModel" "faultPlace" "I") (by decide +kernel)) rfl (Or.inl rfl) rfl rfl (Nat.le_of_ble_eq_true rfl) (st_1229 _ _) dX12_program_22 (fun H locs hw => ?_)
    obtain ⟨S_195, eS_195⟩ : ∃ T, T = sI S_191 1229 x ((-1)) := ⟨_, rfl⟩
    rw [← eS_195] at hw
    have hO_196 : Ok MPg S S_195 := hO_192.sI eS_195 (by decide +kernel) (uI_12_1229 hO_192.1 t_194)
    have h_197 : pI S_195 1229 x = (-1) := tI_sIs eS_195
    refine lv_aload_n X.1 X.2.1 dX12_program_25 rfl (lv_at hl 0 rfl) ?_
    have t_198 : At S_195 x 12 := tAt_sI eS_195 t_194
    obtain ⟨q_199, h_200, h_201, h_202⟩ := gQ_12_1220 hO_196.1 t_198
    refine r_getR (g := 1220) X hw t_198 rfl 20 h_200 (by decide) rfl inn_X12_program_12 (by decide) (X.2.2.2.1 (.fieldLink RX12 61 "SilkMillModel" "rules" "[I") (by decide +kernel)) rfl (gv_1220 _ _) dX12_program_26 ?_
    refine lv_iconst (v := 4) X.1 X.2.1 dX12_program_29 (by decide) ?_
    refine lv_iconst (v := 0) X.1 X.2.1 dX12_program_30 (by decide) ?_
    refine r_iast X hw h_201 rfl (by rw [h_202]; exact z_ix ti_4 (by omega) (by omega)) dX12_program_31 (fun H locs hw => ?_)
    obtain ⟨S_203, eS_203⟩ : ∃ T, T = sA S_195 q_199 (upd (pA S_195 q_199) (Int32.toNatClampNeg (4)) (0)) := ⟨_, rfl⟩
    rw [← eS_203] at hw
    have hO_204 : Ok MPg S S_203 := hO_196.sA eS_203 h_201 (by decide +kernel) (uA_614 hO_196.1 h_201 (by rw [ti_0]; omega) (by rw [ti_0]; omega))
    have h_205 : pA S_203 q_199 (Int32.toNatClampNeg (4)) = 0 := tA_sAs eS_203
    have t_206 : pR S_203 1220 x = some q_199 := tR_sA eS_203 h_200
    have t_208 : pR S_195 1220 x = some q_199 := by have h := t_206; rw [eS_203, pR_sA] at h; exact h
    have zs_207 : ∀ j, zA S_203 x 1220 j = if j = (4 : Int).toNat then 0 else zA S_195 x 1220 j := by have h := zA_sAs eS_203 t_208 ti_0; rw [z_nc ti_4 (by omega)] at h; exact h
    have zs_209 : zA S_203 x 1220 4 = 0 := by have h := zs_207 4; rw [if_pos (by decide)] at h; exact h
    refine lv_aload_n X.1 X.2.1 dX12_program_32 rfl (lv_at hl 0 rfl) ?_
    refine lv_iconst (v := 0) X.1 X.2.1 dX12_program_33 (by decide) ?_
    have t_210 : At S_203 x 12 := tAt_sA eS_203 t_198
    refine r_putI (v := 0) X hw t_210 rfl 33 1233 tyX12 (by decide) rfl inn_X12_program_12 tyX12_ok nmX12 (by decide) (X.2.2.2.1 (.fieldLink RX12 214 "SilkMillModel" "to" "I") (by decide +kernel)) rfl (Or.inl rfl) rfl rfl (Nat.le_of_ble_eq_true rfl) (st_1233 _ _) dX12_program_34 (fun H locs hw => ?_)
    obtain ⟨S_211, eS_211⟩ : ∃ T, T = sI S_203 1233 x (0) := ⟨_, rfl⟩
    rw [← eS_211] at hw
    have hO_212 : Ok MPg S S_211 := hO_204.sI eS_211 (by decide +kernel) (uI_12_1233 hO_204.1 t_210 (by rw [ti_0]; omega) (by rw [ti_0]; omega))
    have h_213 : pI S_211 1233 x = 0 := tI_sIs eS_211
    refine lv_aload_n X.1 X.2.1 dX12_program_37 rfl (lv_at hl 0 rfl) ?_
    have t_214 : At S_211 x 12 := tAt_sI eS_211 t_210
    refine k_v (rm := { frames := 2, cells := 0, slots := 0, locals := 96 }) (av := [.ref x]) X hw (va_runV (As := []) (rest := []) (cfix X) (k_X12_token l G cy κ S_211 _ x hO_212.1 t_214) (cwV 0 X.2.2.2.1 gX12_program_X12_token rfl rfl rfl (by decide +kernel) ⟨Nat.le_of_ble_eq_true rfl, Nat.le_of_ble_eq_true rfl⟩) (pre_V X hw _ t_214 rfl (by decide) rfl) rfl rfl hl.1 rfl (lv_room (Nat.le_of_ble_eq_true rfl)) dX12_program_38 ⟨Nat.le_of_ble_eq_true rfl, Nat.le_of_ble_eq_true rfl⟩) 0 0 (Nat.le_of_ble_eq_true rfl) (Nat.le_of_ble_eq_true rfl) (fun S_216 H locs hp hw hfr hnw => ?_)
    obtain ⟨hk_217, hp⟩ := hp
    have hO_218 : Ok MPg S S_216 := hO_212.call hk_217 (by decide +kernel)
    have zc_219 : zA S_9 x 1220 = zA S x 1220 := zA_sI eS_9
    have zc_220 : zA S_191 x 1220 = zA S x 1220 := (zA_sI eS_191).trans zc_219
    have zc_221 : zA S_195 x 1220 = zA S x 1220 := (zA_sI eS_195).trans zc_220
    have zc_222 : zA S_211 x 1220 = zA S_203 x 1220 := zA_sI eS_211
    have zc_223 : zA S_216 x 1220 = zA S_203 x 1220 := (zA_fr hk_217.fr t_214 (ex3 (gQ_12_1220 hO_212.1 t_214)) (by decide +kernel) (by decide +kernel)).trans zc_222
    have zz_224 := congrFun zc_223 (4)
    refine lv_iconst (v := 1) X.1 X.2.1 dX12_program_41 (by decide) ?_
    refine lv_istore_n (lv' := [(2, .int 1), (0, .ref x), (1, .int (a1))]) X.1 X.2.1 dX12_program_42 rfl hl (by decide) rfl (fun ls hl => ?_)
    have L_225 : ∀ (n : Nat) (T_227 : PS) (H : Heap) (locs : List Loc) (ls : Array Slot) (i2_226 : Int32) (i2_226_z : Int), ((2 * (13 - zA T_227 x 1220 4) + i2_226_z).toNat = n) → (Wd G cy (AS S s.heap.size) s.heap T_227 H locs) → (i2_226.toInt = i2_226_z) → (0 ≤ i2_226_z ∧ i2_226_z ≤ 1) → (At T_227 x 12) → (Ok MPg S T_227) → (zA T_227 x 1220 4 ≤ 12) → (lv_has ls 5 [(2, .int (i2_226)), (0, .ref x), (1, .int (a1))]) → W p l e ({ frames := 8, cells := 0, slots := 0, locals := 384 }) s m [.ref x, .int (a1)].toArray below meth c H locs 0 0 QQ (F0 m 43 ls []) := by
      intro n
      induction n using Nat.strongRecOn with
      | ind n ih_L_225 =>
      intro T_227 H locs ls i2_226 i2_226_z hn hw hz_i2_226 hr_i2_226 ha_x_L_228 hO_T_227 iv_229 hl
      have rg_230 : (-2147483648) ≤ i2_226_z ∧ i2_226_z ≤ 2147483647 := by rw [← hz_i2_226]; exact ⟨z_lo _, z_hi _⟩
      refine lv_iload_n X.1 X.2.1 dX12_program_43 rfl (lv_at hl 0 rfl) ?_
      refine lv_if_eq (tgt := 62) X.1 X.2.1 dX12_program_44 (by decide) (fun c_231 => ?_) (fun c_231 => ?_)
      · have z_b_232 := trivial
        have k_233 : i2_226_z = 0 := z_eq hz_i2_226 ti_0 c_231
        refine lv_aload_n X.1 X.2.1 dX12_program_62 rfl (lv_at hl 1 rfl) ?_
        refine lv_iconst (v := 0) X.1 X.2.1 dX12_program_63 (by decide) ?_
        refine r_putI (v := 0) X hw ha_x_L_228 rfl 28 1228 tyX12 (by decide) rfl inn_X12_program_12 tyX12_ok nmX12 (by decide) (X.2.2.2.1 (.fieldLink RX12 211 "SilkMillModel" "taped" "I") (by decide +kernel)) rfl (Or.inl rfl) rfl rfl (Nat.le_of_ble_eq_true rfl) (st_1228 _ _) dX12_program_64 (fun H locs hw => ?_)
        obtain ⟨S_234, eS_234⟩ : ∃ T, T = sI T_227 1228 x (0) := ⟨_, rfl⟩
        rw [← eS_234] at hw
        have hO_235 : Ok MPg S S_234 := hO_T_227.sI eS_234 (by decide +kernel) (uI_12_1228 hO_T_227.1 ha_x_L_228 (by rw [ti_0]; omega) (by rw [ti_0]; omega))
        have h_236 : pI S_234 1228 x = 0 := tI_sIs eS_234
        refine lv_aload_n X.1 X.2.1 dX12_program_67 rfl (lv_at hl 1 rfl) ?_
        have t_237 : At S_234 x 12 := tAt_sI eS_234 ha_x_L_228
        obtain ⟨v_238, ev_238⟩ : ∃ v, pI S_234 1230 x = v := ⟨_, rfl⟩
        have rg_240 := And.intro (z_lo v_238) (z_hi v_238)
        have pz_241 : (pI S_234 1230 x).toInt = v_238.toInt := by rw [ev_238]
        refine r_getI (g := 1230) (x := v_238) X hw t_237 rfl 30 ev_238 (by decide) rfl inn_X12_program_12 (by decide) (X.2.2.2.1 (.fieldLink RX12 229 "SilkMillModel" "faultKind" "I") (by decide +kernel)) rfl (gv_1230 _ _) dX12_program_68 ?_
        refine lv_if_le (tgt := 82) X.1 X.2.1 dX12_program_71 (by decide) (fun c_242 => ?_) (fun c_242 => ?_)
        · have z_b_243 := trivial
          have k_244 : v_238.toInt ≤ 0 := z_le rfl ti_0 c_242
          refine lv_aload_n X.1 X.2.1 dX12_program_82 rfl (lv_at hl 1 rfl) ?_
          obtain ⟨q_245, h_246, h_247, h_248⟩ := gQ_12_1220 hO_235.1 t_237
          refine r_getR (g := 1220) X hw t_237 rfl 20 h_246 (by decide) rfl inn_X12_program_12 (by decide) (X.2.2.2.1 (.fieldLink RX12 61 "SilkMillModel" "rules" "[I") (by decide +kernel)) rfl (gv_1220 _ _) dX12_program_83 ?_
          refine lv_iload_n X.1 X.2.1 dX12_program_86 rfl (lv_at hl 2 rfl) ?_
          refine lv_aload_n X.1 X.2.1 dX12_program_87 rfl (lv_at hl 1 rfl) ?_
          refine r_getR (g := 1220) X hw t_237 rfl 20 h_246 (by decide) rfl inn_X12_program_12 (by decide) (X.2.2.2.1 (.fieldLink RX12 61 "SilkMillModel" "rules" "[I") (by decide +kernel)) rfl (gv_1220 _ _) dX12_program_88 ?_
          refine lv_iconst (v := 4) X.1 X.2.1 dX12_program_91 (by decide) ?_
          refine r_iald X hw h_247 rfl (by rw [h_248]; exact z_ix ti_4 (by omega) (by omega)) dX12_program_92 ?_
          refine lv_topi (fun v_249 ev_249 => ?_)
          have z_250 := gE_614 hO_235.1 h_247 (Int32.toNatClampNeg (4)); rw [← ev_249] at z_250
          have ev_249 := ev_249.symm
          refine r_iast X hw h_247 rfl (by rw [h_248]; exact z_ix hz_a1 (by omega) (by omega)) dX12_program_93 (fun H locs hw => ?_)
          obtain ⟨S_251, eS_251⟩ : ∃ T, T = sA S_234 q_245 (upd (pA S_234 q_245) (Int32.toNatClampNeg (a1)) (v_249)) := ⟨_, rfl⟩
          rw [← eS_251] at hw
          have hO_252 : Ok MPg S S_251 := hO_235.sA eS_251 h_247 (by decide +kernel) (uA_614 hO_235.1 h_247 (by omega) (by omega))
          have h_253 : pA S_251 q_245 (Int32.toNatClampNeg (a1)) = v_249 := tA_sAs eS_251
          refine lv_iconst (v := 0) X.1 X.2.1 dX12_program_94 (by decide) ?_
          refine lv_istore_n (lv' := [(3, .int 0), (2, .int (i2_226)), (0, .ref x), (1, .int (a1))]) X.1 X.2.1 dX12_program_95 rfl hl (by decide) rfl (fun ls hl => ?_)
          have t_254 : pI S_251 1228 x = 0 := tI_sA eS_251 h_236
          have pz_255 : (pI S_251 1228 x).toInt = 0 := (congrArg Int32.toInt t_254).trans ti_0
          have t_256 : At S_251 x 12 := tAt_sA eS_251 t_237
          exact L_21 _ _ _ _ _ (0) (0) rfl hw ti_0 (by omega) t_256 hO_252 (by omega) (lv_sub hl [0, 2, 3] rfl)
        · have z_b_257 := trivial
          have k_258 : v_238.toInt > 0 := z_nle rfl ti_0 c_242
          refine lv_aload_n X.1 X.2.1 dX12_program_74 rfl (lv_at hl 1 rfl) ?_
          refine r_getI (g := 1230) (x := v_238) X hw t_237 rfl 30 ev_238 (by decide) rfl inn_X12_program_12 (by decide) (X.2.2.2.1 (.fieldLink RX12 229 "SilkMillModel" "faultKind" "I") (by decide +kernel)) rfl (gv_1230 _ _) dX12_program_75 ?_
          refine lv_bipush (v := 10) X.1 X.2.1 dX12_program_78 (by decide) ?_
          refine lv_isub X.1 X.2.1 dX12_program_80 ?_
          refine lv_topi (fun v_259 ev_259 => ?_)
          have z_260 : v_259.toInt = v_238.toInt - 10 := z_sub ev_259 rfl ti_10 (by omega) (by omega)
          have pz_261 : (pI S_234 1228 x).toInt = 0 := (congrArg Int32.toInt h_236).trans ti_0
          rw [hQQ]
          exact ret_i X hw hr hlocks (Nat.le_of_ble_eq_true rfl) (Nat.le_of_ble_eq_true rfl) ⟨hO_235, ⟨z_lo _, z_hi _, by have hzr := z_260; omega⟩⟩ dX12_program_81
      · have z_b_262 := trivial
        have k_263 : i2_226_z ≠ 0 := z_ne hz_i2_226 ti_0 c_231
        refine lv_aload_n X.1 X.2.1 dX12_program_47 rfl (lv_at hl 1 rfl) ?_
        obtain ⟨v_264, ev_264⟩ : ∃ v, pI T_227 1231 x = v := ⟨_, rfl⟩
        have rg_266 := And.intro (z_lo v_264) (z_hi v_264)
        have pz_267 : (pI T_227 1231 x).toInt = v_264.toInt := by rw [ev_264]
        refine r_getI (g := 1231) (x := v_264) X hw ha_x_L_228 rfl 31 ev_264 (by decide) rfl inn_X12_program_12 (by decide) (X.2.2.2.1 (.fieldLink RX12 223 "SilkMillModel" "kind" "I") (by decide +kernel)) rfl (gv_1231 _ _) dX12_program_48 ?_
        refine lv_if_eq (tgt := 62) X.1 X.2.1 dX12_program_51 (by decide) (fun c_268 => ?_) (fun c_268 => ?_)
        · have z_b_269 := trivial
          have k_270 : v_264.toInt = 0 := z_eq rfl ti_0 c_268
          refine lv_aload_n X.1 X.2.1 dX12_program_62 rfl (lv_at hl 1 rfl) ?_
          refine lv_iconst (v := 0) X.1 X.2.1 dX12_program_63 (by decide) ?_
          refine r_putI (v := 0) X hw ha_x_L_228 rfl 28 1228 tyX12 (by decide) rfl inn_X12_program_12 tyX12_ok nmX12 (by decide) (X.2.2.2.1 (.fieldLink RX12 211 "SilkMillModel" "taped" "I") (by decide +kernel)) rfl (Or.inl rfl) rfl rfl (Nat.le_of_ble_eq_true rfl) (st_1228 _ _) dX12_program_64 (fun H locs hw => ?_)
          obtain ⟨S_271, eS_271⟩ : ∃ T, T = sI T_227 1228 x (0) := ⟨_, rfl⟩
          rw [← eS_271] at hw
          have hO_272 : Ok MPg S S_271 := hO_T_227.sI eS_271 (by decide +kernel) (uI_12_1228 hO_T_227.1 ha_x_L_228 (by rw [ti_0]; omega) (by rw [ti_0]; omega))
          have h_273 : pI S_271 1228 x = 0 := tI_sIs eS_271
          refine lv_aload_n X.1 X.2.1 dX12_program_67 rfl (lv_at hl 1 rfl) ?_
          have t_274 : At S_271 x 12 := tAt_sI eS_271 ha_x_L_228
          obtain ⟨v_275, ev_275⟩ : ∃ v, pI S_271 1230 x = v := ⟨_, rfl⟩
          have rg_277 := And.intro (z_lo v_275) (z_hi v_275)
          have pz_278 : (pI S_271 1230 x).toInt = v_275.toInt := by rw [ev_275]
          refine r_getI (g := 1230) (x := v_275) X hw t_274 rfl 30 ev_275 (by decide) rfl inn_X12_program_12 (by decide) (X.2.2.2.1 (.fieldLink RX12 229 "SilkMillModel" "faultKind" "I") (by decide +kernel)) rfl (gv_1230 _ _) dX12_program_68 ?_
          refine lv_if_le (tgt := 82) X.1 X.2.1 dX12_program_71 (by decide) (fun c_279 => ?_) (fun c_279 => ?_)
          · have z_b_280 := trivial
            have k_281 : v_275.toInt ≤ 0 := z_le rfl ti_0 c_279
            refine lv_aload_n X.1 X.2.1 dX12_program_82 rfl (lv_at hl 1 rfl) ?_
            obtain ⟨q_282, h_283, h_284, h_285⟩ := gQ_12_1220 hO_272.1 t_274
            refine r_getR (g := 1220) X hw t_274 rfl 20 h_283 (by decide) rfl inn_X12_program_12 (by decide) (X.2.2.2.1 (.fieldLink RX12 61 "SilkMillModel" "rules" "[I") (by decide +kernel)) rfl (gv_1220 _ _) dX12_program_83 ?_
            refine lv_iload_n X.1 X.2.1 dX12_program_86 rfl (lv_at hl 2 rfl) ?_
            refine lv_aload_n X.1 X.2.1 dX12_program_87 rfl (lv_at hl 1 rfl) ?_
            refine r_getR (g := 1220) X hw t_274 rfl 20 h_283 (by decide) rfl inn_X12_program_12 (by decide) (X.2.2.2.1 (.fieldLink RX12 61 "SilkMillModel" "rules" "[I") (by decide +kernel)) rfl (gv_1220 _ _) dX12_program_88 ?_
            refine lv_iconst (v := 4) X.1 X.2.1 dX12_program_91 (by decide) ?_
            refine r_iald X hw h_284 rfl (by rw [h_285]; exact z_ix ti_4 (by omega) (by omega)) dX12_program_92 ?_
            refine lv_topi (fun v_286 ev_286 => ?_)
            have z_287 := gE_614 hO_272.1 h_284 (Int32.toNatClampNeg (4)); rw [← ev_286] at z_287
            have ev_286 := ev_286.symm
            refine r_iast X hw h_284 rfl (by rw [h_285]; exact z_ix hz_a1 (by omega) (by omega)) dX12_program_93 (fun H locs hw => ?_)
            obtain ⟨S_288, eS_288⟩ : ∃ T, T = sA S_271 q_282 (upd (pA S_271 q_282) (Int32.toNatClampNeg (a1)) (v_286)) := ⟨_, rfl⟩
            rw [← eS_288] at hw
            have hO_289 : Ok MPg S S_288 := hO_272.sA eS_288 h_284 (by decide +kernel) (uA_614 hO_272.1 h_284 (by omega) (by omega))
            have h_290 : pA S_288 q_282 (Int32.toNatClampNeg (a1)) = v_286 := tA_sAs eS_288
            refine lv_iconst (v := 0) X.1 X.2.1 dX12_program_94 (by decide) ?_
            refine lv_istore_n (lv' := [(3, .int 0), (2, .int (i2_226)), (0, .ref x), (1, .int (a1))]) X.1 X.2.1 dX12_program_95 rfl hl (by decide) rfl (fun ls hl => ?_)
            have t_291 : pI S_288 1228 x = 0 := tI_sA eS_288 h_273
            have pz_292 : (pI S_288 1228 x).toInt = 0 := (congrArg Int32.toInt t_291).trans ti_0
            have t_293 : At S_288 x 12 := tAt_sA eS_288 t_274
            exact L_21 _ _ _ _ _ (0) (0) rfl hw ti_0 (by omega) t_293 hO_289 (by omega) (lv_sub hl [0, 2, 3] rfl)
          · have z_b_294 := trivial
            have k_295 : v_275.toInt > 0 := z_nle rfl ti_0 c_279
            refine lv_aload_n X.1 X.2.1 dX12_program_74 rfl (lv_at hl 1 rfl) ?_
            refine r_getI (g := 1230) (x := v_275) X hw t_274 rfl 30 ev_275 (by decide) rfl inn_X12_program_12 (by decide) (X.2.2.2.1 (.fieldLink RX12 229 "SilkMillModel" "faultKind" "I") (by decide +kernel)) rfl (gv_1230 _ _) dX12_program_75 ?_
            refine lv_bipush (v := 10) X.1 X.2.1 dX12_program_78 (by decide) ?_
            refine lv_isub X.1 X.2.1 dX12_program_80 ?_
            refine lv_topi (fun v_296 ev_296 => ?_)
            have z_297 : v_296.toInt = v_275.toInt - 10 := z_sub ev_296 rfl ti_10 (by omega) (by omega)
            have pz_298 : (pI S_271 1228 x).toInt = 0 := (congrArg Int32.toInt h_273).trans ti_0
            rw [hQQ]
            exact ret_i X hw hr hlocks (Nat.le_of_ble_eq_true rfl) (Nat.le_of_ble_eq_true rfl) ⟨hO_272, ⟨z_lo _, z_hi _, by have hzr := z_297; omega⟩⟩ dX12_program_81
        · have z_b_299 := trivial
          have k_300 : v_264.toInt ≠ 0 := z_ne rfl ti_0 c_268
          refine lv_aload_n X.1 X.2.1 dX12_program_54 rfl (lv_at hl 1 rfl) ?_
          refine k_i (rm := { frames := 7, cells := 0, slots := 0, locals := 336 }) (av := [.ref x]) X hw (va_runV (As := []) (rest := []) (cfix X) (k_X12_rule l G cy κ T_227 _ x hO_T_227.1 ha_x_L_228) (cwV 0 X.2.2.2.1 gX12_program_X12_rule rfl rfl rfl (by decide +kernel) ⟨Nat.le_of_ble_eq_true rfl, Nat.le_of_ble_eq_true rfl⟩) (pre_V X hw _ ha_x_L_228 rfl (by decide) rfl) rfl rfl hl.1 rfl (lv_room (Nat.le_of_ble_eq_true rfl)) dX12_program_55 ⟨Nat.le_of_ble_eq_true rfl, Nat.le_of_ble_eq_true rfl⟩) 0 0 (Nat.le_of_ble_eq_true rfl) (Nat.le_of_ble_eq_true rfl) (fun rr_301 S_302 H locs hp hw hfr hnw => ?_)
          obtain ⟨hk_303, hp⟩ := hp
          have hO_304 : Ok MPg S S_302 := hO_T_227.call hk_303 (by decide +kernel)
          rcases hp with ⟨f_305, er_306⟩ | ⟨f_305, er_306⟩ <;> subst er_306
          · have z_b_307 := trivial
            refine lv_istore_n (lv' := [(2, .int 1), (0, .ref x), (1, .int (a1))]) X.1 X.2.1 dX12_program_58 rfl hl (by decide) rfl (fun ls hl => ?_)
            refine lv_goto (tgt := 43) X.1 X.2.1 dX12_program_59 (by decide) ?_
            have t_308 : At S_302 x 12 := hk_303.fr.at ha_x_L_228
            exact ih_L_225 _ (by omega) _ _ _ _ (1) (1) rfl hw ti_1 (by omega) t_308 hO_304 (by omega) (lv_sub hl [0, 1, 2] rfl)
          · have z_b_309 := trivial
            refine lv_istore_n (lv' := [(2, .int 0), (0, .ref x), (1, .int (a1))]) X.1 X.2.1 dX12_program_58 rfl hl (by decide) rfl (fun ls hl => ?_)
            refine lv_goto (tgt := 43) X.1 X.2.1 dX12_program_59 (by decide) ?_
            have t_310 : At S_302 x 12 := hk_303.fr.at ha_x_L_228
            exact ih_L_225 _ (by omega) _ _ _ _ (0) (0) rfl hw ti_0 (by omega) t_310 hO_304 (by omega) (lv_sub hl [0, 1, 2] rfl)
    have t_311 : At S_216 x 12 := hk_217.fr.at t_214
    exact L_225 _ _ _ _ _ (1) (1) rfl hw ti_1 (by omega) t_311 hO_218 (by omega) (lv_sub hl [0, 1, 2] rfl)
  · have z_b_312 := trivial
    refine lv_if_ne (tgt := 15) X.1 X.2.1 dX12_program_10 (by decide) (fun c_313 => absurd c_313 (by decide)) (fun c_313 => ?_)
    refine lv_iconst (v := (-1)) X.1 X.2.1 dX12_program_13 (by decide) ?_
    have t_314 : pI S_9 1228 x = v_1 := tI_sI eS_9 rfl ev_1
    have pz_315 : (pI S_9 1228 x).toInt = v_1.toInt := (congrArg Int32.toInt t_314).trans rfl
    rw [hQQ]
    exact ret_i X hw hr hlocks (Nat.le_of_ble_eq_true rfl) (Nat.le_of_ble_eq_true rfl) ⟨hO_10, ⟨z_lo _, z_hi _, by have hzr := ti_m1; omega⟩⟩ dX12_program_14
