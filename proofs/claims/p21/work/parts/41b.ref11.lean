theorem cut0 {S : PS} {x n : Nat} (h : zA S x 1237 n = 0) : ∀ j, zA S x 1237 j = if j = n then 0 else zA S x 1237 j := fun j => by
  by_cases e : j = n
  · rw [if_pos e, e]; exact h
  · rw [if_neg e]
set_option maxRecDepth 20000 in
theorem ggX12_cuts_X12_growing : GoodIn wsX12_cuts wsX12_growing := goodIn_h _ [18] [0] (by decide +kernel) (by decide +kernel)
set_option maxRecDepth 20000 in
theorem gX12_cuts_X12_growing : GoodIn wsX12_cuts (wsV RX12 296 RX12 yX12_growing wsX12_growing) := goodIn_app (goodIn_of _ (by decide +kernel)) ggX12_cuts_X12_growing
set_option maxRecDepth 20000 in
theorem ggX12_cuts_X12_weight : GoodIn wsX12_cuts wsX12_weight := goodIn_h _ [5, 0, 10, 4, 0, 0, 0, 0, 0, 0, 0, 0, 0, 0, 0, 0, 0, 0, 0, 0, 0, 0, 0, 0, 0, 0, 0, 0, 0, 0, 0, 0, 0, 0, 0, 0, 0, 0, 0, 0, 0, 0, 0, 0, 0, 0, 0, 0, 0, 0, 0, 0, 0, 0, 0, 0, 0, 0, 0, 0, 0, 0, 0, 0, 0, 0, 0, 0, 0, 0, 0, 0, 0, 0, 0, 0, 0, 0, 0, 0, 0, 0, 0, 0, 0, 0, 0, 0, 0, 0, 0, 0, 0] [3, 4, 5, 6, 2, 7, 0, 1, 8, 9, 10, 11, 12, 13, 14, 15, 16, 17, 18, 19, 20, 21, 22, 23, 24, 25, 26, 27, 28, 29, 30, 31, 32, 33, 34, 35, 36, 37, 38, 39, 40, 41, 42, 43, 44, 45, 46, 47, 48, 49, 50, 51, 52, 53, 54, 55, 56, 57, 58, 59, 60, 61, 62, 63, 64, 65, 66, 67, 68, 69, 70, 71, 72, 73, 74, 75, 76, 77, 78, 79, 80, 81, 82, 83, 84, 85, 86, 87, 88, 89, 90, 91, 92] (by decide +kernel) (by decide +kernel)
set_option maxRecDepth 20000 in
theorem gX12_cuts_X12_weight : GoodIn wsX12_cuts (wsV RX12 299 RX12 yX12_weight wsX12_weight) := goodIn_app (goodIn_of _ (by decide +kernel)) ggX12_cuts_X12_weight
theorem dX12_cuts_0 : decode cX12_cuts 0 = .ok (.aload_n 0, 1) := by decide +kernel
theorem dX12_cuts_1 : decode cX12_cuts 1 = .ok (.getfield 97, 3) := by decide +kernel
theorem dX12_cuts_4 : decode cX12_cuts 4 = .ok (.iload_n 1, 1) := by decide +kernel
theorem dX12_cuts_5 : decode cX12_cuts 5 = .ok (.iaload, 1) := by decide +kernel
theorem dX12_cuts_6 : decode cX12_cuts 6 = .ok (.istore_n 2, 1) := by decide +kernel
theorem dX12_cuts_7 : decode cX12_cuts 7 = .ok (.iload_n 2, 1) := by decide +kernel
theorem dX12_cuts_8 : decode cX12_cuts 8 = .ok (.ifCond .ne 5, 3) := by decide +kernel
theorem dX12_cuts_11 : decode cX12_cuts 11 = .ok (.iconst (-1), 1) := by decide +kernel
theorem dX12_cuts_12 : decode cX12_cuts 12 = .ok (.ireturn, 1) := by decide +kernel
theorem dX12_cuts_13 : decode cX12_cuts 13 = .ok (.aload_n 0, 1) := by decide +kernel
theorem dX12_cuts_14 : decode cX12_cuts 14 = .ok (.getfield 97, 3) := by decide +kernel
theorem dX12_cuts_17 : decode cX12_cuts 17 = .ok (.iload_n 1, 1) := by decide +kernel
theorem dX12_cuts_18 : decode cX12_cuts 18 = .ok (.iconst 0, 1) := by decide +kernel
theorem dX12_cuts_19 : decode cX12_cuts 19 = .ok (.iastore, 1) := by decide +kernel
theorem dX12_cuts_20 : decode cX12_cuts 20 = .ok (.aload_n 0, 1) := by decide +kernel
theorem dX12_cuts_21 : decode cX12_cuts 21 = .ok (.getfield 290, 3) := by decide +kernel
theorem dX12_cuts_24 : decode cX12_cuts 24 = .ok (.bipush 40, 2) := by decide +kernel
theorem dX12_cuts_26 : decode cX12_cuts 26 = .ok (.if_icmp .ne 25, 3) := by decide +kernel
theorem dX12_cuts_29 : decode cX12_cuts 29 = .ok (.aload_n 0, 1) := by decide +kernel
theorem dX12_cuts_30 : decode cX12_cuts 30 = .ok (.dup, 1) := by decide +kernel
theorem dX12_cuts_31 : decode cX12_cuts 31 = .ok (.getfield 293, 3) := by decide +kernel
theorem dX12_cuts_34 : decode cX12_cuts 34 = .ok (.aload_n 0, 1) := by decide +kernel
theorem dX12_cuts_35 : decode cX12_cuts 35 = .ok (.aload_n 0, 1) := by decide +kernel
theorem dX12_cuts_36 : decode cX12_cuts 36 = .ok (.iload_n 1, 1) := by decide +kernel
theorem dX12_cuts_37 : decode cX12_cuts 37 = .ok (.invokevirtual 296, 3) := by decide +kernel
theorem dX12_cuts_40 : decode cX12_cuts 40 = .ok (.iload_n 2, 1) := by decide +kernel
theorem dX12_cuts_41 : decode cX12_cuts 41 = .ok (.invokevirtual 299, 3) := by decide +kernel
theorem dX12_cuts_44 : decode cX12_cuts 44 = .ok (.iadd, 1) := by decide +kernel
theorem dX12_cuts_45 : decode cX12_cuts 45 = .ok (.putfield 293, 3) := by decide +kernel
theorem dX12_cuts_48 : decode cX12_cuts 48 = .ok (.bipush (-2), 2) := by decide +kernel
theorem dX12_cuts_50 : decode cX12_cuts 50 = .ok (.ireturn, 1) := by decide +kernel
theorem dX12_cuts_51 : decode cX12_cuts 51 = .ok (.aload_n 0, 1) := by decide +kernel
theorem dX12_cuts_52 : decode cX12_cuts 52 = .ok (.getfield 100, 3) := by decide +kernel
theorem dX12_cuts_55 : decode cX12_cuts 55 = .ok (.aload_n 0, 1) := by decide +kernel
theorem dX12_cuts_56 : decode cX12_cuts 56 = .ok (.getfield 290, 3) := by decide +kernel
theorem dX12_cuts_59 : decode cX12_cuts 59 = .ok (.iaload, 1) := by decide +kernel
theorem dX12_cuts_60 : decode cX12_cuts 60 = .ok (.istore_n 3, 1) := by decide +kernel
theorem dX12_cuts_61 : decode cX12_cuts 61 = .ok (.iconst 0, 1) := by decide +kernel
theorem dX12_cuts_62 : decode cX12_cuts 62 = .ok (.istore 4, 2) := by decide +kernel
theorem dX12_cuts_64 : decode cX12_cuts 64 = .ok (.iload 4, 2) := by decide +kernel
theorem dX12_cuts_66 : decode cX12_cuts 66 = .ok (.iload_n 2, 1) := by decide +kernel
theorem dX12_cuts_67 : decode cX12_cuts 67 = .ok (.if_icmp .ge 81, 3) := by decide +kernel
theorem dX12_cuts_70 : decode cX12_cuts 70 = .ok (.aload_n 0, 1) := by decide +kernel
theorem dX12_cuts_71 : decode cX12_cuts 71 = .ok (.getfield 90, 3) := by decide +kernel
theorem dX12_cuts_74 : decode cX12_cuts 74 = .ok (.iload_n 3, 1) := by decide +kernel
theorem dX12_cuts_75 : decode cX12_cuts 75 = .ok (.iload 4, 2) := by decide +kernel
theorem dX12_cuts_77 : decode cX12_cuts 77 = .ok (.iadd, 1) := by decide +kernel
theorem dX12_cuts_78 : decode cX12_cuts 78 = .ok (.aload_n 0, 1) := by decide +kernel
theorem dX12_cuts_79 : decode cX12_cuts 79 = .ok (.getfield 90, 3) := by decide +kernel
theorem dX12_cuts_82 : decode cX12_cuts 82 = .ok (.aload_n 0, 1) := by decide +kernel
theorem dX12_cuts_83 : decode cX12_cuts 83 = .ok (.iload_n 1, 1) := by decide +kernel
theorem dX12_cuts_84 : decode cX12_cuts 84 = .ok (.invokevirtual 296, 3) := by decide +kernel
theorem dX12_cuts_87 : decode cX12_cuts 87 = .ok (.iload 4, 2) := by decide +kernel
theorem dX12_cuts_89 : decode cX12_cuts 89 = .ok (.iadd, 1) := by decide +kernel
theorem dX12_cuts_90 : decode cX12_cuts 90 = .ok (.iaload, 1) := by decide +kernel
theorem dX12_cuts_91 : decode cX12_cuts 91 = .ok (.iastore, 1) := by decide +kernel
theorem dX12_cuts_92 : decode cX12_cuts 92 = .ok (.iconst 0, 1) := by decide +kernel
theorem dX12_cuts_93 : decode cX12_cuts 93 = .ok (.istore 5, 2) := by decide +kernel
theorem dX12_cuts_95 : decode cX12_cuts 95 = .ok (.iload 5, 2) := by decide +kernel
theorem dX12_cuts_97 : decode cX12_cuts 97 = .ok (.bipush 12, 2) := by decide +kernel
theorem dX12_cuts_99 : decode cX12_cuts 99 = .ok (.if_icmp .ge 43, 3) := by decide +kernel
theorem dX12_cuts_102 : decode cX12_cuts 102 = .ok (.aload_n 0, 1) := by decide +kernel
theorem dX12_cuts_103 : decode cX12_cuts 103 = .ok (.getfield 94, 3) := by decide +kernel
theorem dX12_cuts_106 : decode cX12_cuts 106 = .ok (.bipush 12, 2) := by decide +kernel
theorem dX12_cuts_108 : decode cX12_cuts 108 = .ok (.iload_n 3, 1) := by decide +kernel
theorem dX12_cuts_109 : decode cX12_cuts 109 = .ok (.iload 4, 2) := by decide +kernel
theorem dX12_cuts_111 : decode cX12_cuts 111 = .ok (.iadd, 1) := by decide +kernel
theorem dX12_cuts_112 : decode cX12_cuts 112 = .ok (.imul, 1) := by decide +kernel
theorem dX12_cuts_113 : decode cX12_cuts 113 = .ok (.iload 5, 2) := by decide +kernel
theorem dX12_cuts_115 : decode cX12_cuts 115 = .ok (.iadd, 1) := by decide +kernel
theorem dX12_cuts_116 : decode cX12_cuts 116 = .ok (.aload_n 0, 1) := by decide +kernel
theorem dX12_cuts_117 : decode cX12_cuts 117 = .ok (.getfield 94, 3) := by decide +kernel
theorem dX12_cuts_120 : decode cX12_cuts 120 = .ok (.bipush 12, 2) := by decide +kernel
theorem dX12_cuts_122 : decode cX12_cuts 122 = .ok (.aload_n 0, 1) := by decide +kernel
theorem dX12_cuts_123 : decode cX12_cuts 123 = .ok (.iload_n 1, 1) := by decide +kernel
theorem dX12_cuts_124 : decode cX12_cuts 124 = .ok (.invokevirtual 296, 3) := by decide +kernel
theorem dX12_cuts_127 : decode cX12_cuts 127 = .ok (.iload 4, 2) := by decide +kernel
theorem dX12_cuts_129 : decode cX12_cuts 129 = .ok (.iadd, 1) := by decide +kernel
theorem dX12_cuts_130 : decode cX12_cuts 130 = .ok (.imul, 1) := by decide +kernel
theorem dX12_cuts_131 : decode cX12_cuts 131 = .ok (.iload 5, 2) := by decide +kernel
theorem dX12_cuts_133 : decode cX12_cuts 133 = .ok (.iadd, 1) := by decide +kernel
theorem dX12_cuts_134 : decode cX12_cuts 134 = .ok (.iaload, 1) := by decide +kernel
theorem dX12_cuts_135 : decode cX12_cuts 135 = .ok (.iastore, 1) := by decide +kernel
theorem dX12_cuts_136 : decode cX12_cuts 136 = .ok (.iinc 5 1, 3) := by decide +kernel
theorem dX12_cuts_139 : decode cX12_cuts 139 = .ok (.goto (-44), 3) := by decide +kernel
theorem dX12_cuts_142 : decode cX12_cuts 142 = .ok (.iinc 4 1, 3) := by decide +kernel
theorem dX12_cuts_145 : decode cX12_cuts 145 = .ok (.goto (-81), 3) := by decide +kernel
theorem dX12_cuts_148 : decode cX12_cuts 148 = .ok (.aload_n 0, 1) := by decide +kernel
theorem dX12_cuts_149 : decode cX12_cuts 149 = .ok (.getfield 103, 3) := by decide +kernel
theorem dX12_cuts_152 : decode cX12_cuts 152 = .ok (.aload_n 0, 1) := by decide +kernel
theorem dX12_cuts_153 : decode cX12_cuts 153 = .ok (.getfield 290, 3) := by decide +kernel
theorem dX12_cuts_156 : decode cX12_cuts 156 = .ok (.iload_n 1, 1) := by decide +kernel
theorem dX12_cuts_157 : decode cX12_cuts 157 = .ok (.iastore, 1) := by decide +kernel
theorem dX12_cuts_158 : decode cX12_cuts 158 = .ok (.aload_n 0, 1) := by decide +kernel
theorem dX12_cuts_159 : decode cX12_cuts 159 = .ok (.getfield 106, 3) := by decide +kernel
theorem dX12_cuts_162 : decode cX12_cuts 162 = .ok (.aload_n 0, 1) := by decide +kernel
theorem dX12_cuts_163 : decode cX12_cuts 163 = .ok (.getfield 290, 3) := by decide +kernel
theorem dX12_cuts_166 : decode cX12_cuts 166 = .ok (.aload_n 0, 1) := by decide +kernel
theorem dX12_cuts_167 : decode cX12_cuts 167 = .ok (.getfield 302, 3) := by decide +kernel
theorem dX12_cuts_170 : decode cX12_cuts 170 = .ok (.iastore, 1) := by decide +kernel
theorem dX12_cuts_171 : decode cX12_cuts 171 = .ok (.aload_n 0, 1) := by decide +kernel
theorem dX12_cuts_172 : decode cX12_cuts 172 = .ok (.getfield 109, 3) := by decide +kernel
theorem dX12_cuts_175 : decode cX12_cuts 175 = .ok (.aload_n 0, 1) := by decide +kernel
theorem dX12_cuts_176 : decode cX12_cuts 176 = .ok (.getfield 290, 3) := by decide +kernel
theorem dX12_cuts_179 : decode cX12_cuts 179 = .ok (.aload_n 0, 1) := by decide +kernel
theorem dX12_cuts_180 : decode cX12_cuts 180 = .ok (.getfield 37, 3) := by decide +kernel
theorem dX12_cuts_183 : decode cX12_cuts 183 = .ok (.iload_n 1, 1) := by decide +kernel
theorem dX12_cuts_184 : decode cX12_cuts 184 = .ok (.iaload, 1) := by decide +kernel
theorem dX12_cuts_185 : decode cX12_cuts 185 = .ok (.iastore, 1) := by decide +kernel
theorem dX12_cuts_186 : decode cX12_cuts 186 = .ok (.aload_n 0, 1) := by decide +kernel
theorem dX12_cuts_187 : decode cX12_cuts 187 = .ok (.getfield 112, 3) := by decide +kernel
theorem dX12_cuts_190 : decode cX12_cuts 190 = .ok (.aload_n 0, 1) := by decide +kernel
theorem dX12_cuts_191 : decode cX12_cuts 191 = .ok (.getfield 290, 3) := by decide +kernel
theorem dX12_cuts_194 : decode cX12_cuts 194 = .ok (.iconst (-1), 1) := by decide +kernel
theorem dX12_cuts_195 : decode cX12_cuts 195 = .ok (.iastore, 1) := by decide +kernel
theorem dX12_cuts_196 : decode cX12_cuts 196 = .ok (.aload_n 0, 1) := by decide +kernel
theorem dX12_cuts_197 : decode cX12_cuts 197 = .ok (.getfield 115, 3) := by decide +kernel
theorem dX12_cuts_200 : decode cX12_cuts 200 = .ok (.aload_n 0, 1) := by decide +kernel
theorem dX12_cuts_201 : decode cX12_cuts 201 = .ok (.getfield 290, 3) := by decide +kernel
theorem dX12_cuts_204 : decode cX12_cuts 204 = .ok (.iconst 0, 1) := by decide +kernel
theorem dX12_cuts_205 : decode cX12_cuts 205 = .ok (.bastore, 1) := by decide +kernel
theorem dX12_cuts_206 : decode cX12_cuts 206 = .ok (.aload_n 0, 1) := by decide +kernel
theorem dX12_cuts_207 : decode cX12_cuts 207 = .ok (.dup, 1) := by decide +kernel
theorem dX12_cuts_208 : decode cX12_cuts 208 = .ok (.getfield 290, 3) := by decide +kernel
theorem dX12_cuts_211 : decode cX12_cuts 211 = .ok (.iconst 1, 1) := by decide +kernel
theorem dX12_cuts_212 : decode cX12_cuts 212 = .ok (.iadd, 1) := by decide +kernel
theorem dX12_cuts_213 : decode cX12_cuts 213 = .ok (.putfield 290, 3) := by decide +kernel
theorem dX12_cuts_216 : decode cX12_cuts 216 = .ok (.aload_n 0, 1) := by decide +kernel
theorem dX12_cuts_217 : decode cX12_cuts 217 = .ok (.getfield 100, 3) := by decide +kernel
theorem dX12_cuts_220 : decode cX12_cuts 220 = .ok (.aload_n 0, 1) := by decide +kernel
theorem dX12_cuts_221 : decode cX12_cuts 221 = .ok (.getfield 290, 3) := by decide +kernel
theorem dX12_cuts_224 : decode cX12_cuts 224 = .ok (.iload_n 3, 1) := by decide +kernel
theorem dX12_cuts_225 : decode cX12_cuts 225 = .ok (.iload_n 2, 1) := by decide +kernel
theorem dX12_cuts_226 : decode cX12_cuts 226 = .ok (.iadd, 1) := by decide +kernel
theorem dX12_cuts_227 : decode cX12_cuts 227 = .ok (.iastore, 1) := by decide +kernel
theorem dX12_cuts_228 : decode cX12_cuts 228 = .ok (.aload_n 0, 1) := by decide +kernel
theorem dX12_cuts_229 : decode cX12_cuts 229 = .ok (.getfield 290, 3) := by decide +kernel
theorem dX12_cuts_232 : decode cX12_cuts 232 = .ok (.iconst 1, 1) := by decide +kernel
theorem dX12_cuts_233 : decode cX12_cuts 233 = .ok (.isub, 1) := by decide +kernel
theorem dX12_cuts_234 : decode cX12_cuts 234 = .ok (.ireturn, 1) := by decide +kernel
set_option maxRecDepth 20000 in
theorem ggX12_cut_X12_isPot : GoodIn wsX12_cut wsX12_isPot := goodIn_h _ [5, 0, 0, 0, 0, 0, 48, 0, 0, 0, 0, 0, 0, 0, 0, 0, 0, 0, 0, 0, 0, 0, 0, 0, 0, 0, 0, 0, 0, 0, 0, 0, 0, 0, 0, 0, 0, 0, 0, 0, 0, 0, 0, 0, 0, 0, 0, 0, 0, 0, 0, 0, 0, 0, 0, 0, 0, 0, 0, 0, 0, 0, 0, 0, 0, 0, 0, 0, 0, 0, 0, 0] [1, 2, 3, 4, 0, 5, 6, 7, 8, 9, 10, 11, 12, 13, 14, 15, 16, 17, 18, 19, 20, 21, 22, 23, 24, 25, 26, 27, 28, 29, 30, 31, 32, 33, 34, 35, 36, 37, 38, 39, 40, 41, 42, 43, 44, 45, 46, 47, 48, 49, 50, 51, 52, 53, 54, 55, 56, 57, 58, 59, 60, 61, 62, 63, 64, 65, 66, 67, 68, 69, 70, 71] (by decide +kernel) (by decide +kernel)
set_option maxRecDepth 20000 in
theorem gX12_cut_X12_isPot : GoodIn wsX12_cut (wsV RX12 200 RX12 yX12_isPot wsX12_isPot) := goodIn_app (goodIn_of _ (by decide +kernel)) ggX12_cut_X12_isPot
set_option maxRecDepth 20000 in
theorem ggX12_cut_X12_cuts : GoodIn wsX12_cut wsX12_cuts := goodIn_h _ [5, 8, 0, 0, 0, 0, 0, 0, 0, 0, 0, 0, 0, 0, 0, 0, 0, 0, 0, 0, 0, 0, 0, 0, 0, 0, 0, 0, 0, 0, 0, 0, 0, 0, 0, 0, 0, 0, 0, 0, 0, 0, 0, 0, 0, 0, 0, 0, 0, 0, 0, 0, 0, 0, 0, 0, 0, 0, 0, 0, 0, 0, 0, 0, 0, 0, 0, 0, 0, 0, 0, 0, 0, 0, 0, 0, 0, 0, 0, 0, 0, 0, 0, 0, 0, 0, 0, 0, 0, 0, 0, 0, 0, 0, 0, 0, 0, 0, 0, 0, 0, 0, 0, 0, 0, 0, 0, 0, 0, 0, 0, 0] [1, 2, 3, 4, 5, 6, 7, 8, 9, 10, 11, 12, 13, 14, 15, 16, 17, 0, 18, 19, 20, 21, 22, 23, 24, 25, 26, 27, 28, 29, 30, 31, 32, 33, 34, 35, 36, 37, 38, 39, 40, 41, 42, 43, 44, 45, 46, 47, 48, 49, 50, 51, 52, 53, 54, 55, 56, 57, 58, 59, 60, 61, 62, 63, 64, 65, 66, 67, 68, 69, 70, 71, 72, 73, 74, 75, 76, 77, 78, 79, 80, 81, 82, 83, 84, 85, 86, 87, 88, 89, 90, 91, 92, 93, 94, 95, 96, 97, 98, 99, 100, 101, 102, 103, 104, 105, 106, 107, 108, 109, 110, 111] (by decide +kernel) (by decide +kernel)
set_option maxRecDepth 20000 in
theorem gX12_cut_X12_cuts : GoodIn wsX12_cut (wsV RX12 305 RX12 yX12_cuts wsX12_cuts) := goodIn_app (goodIn_of _ (by decide +kernel)) ggX12_cut_X12_cuts
theorem dX12_cut_0 : decode cX12_cut 0 = .ok (.aload_n 0, 1) := by decide +kernel
theorem dX12_cut_1 : decode cX12_cut 1 = .ok (.iconst 0, 1) := by decide +kernel
theorem dX12_cut_2 : decode cX12_cut 2 = .ok (.putfield 161, 3) := by decide +kernel
theorem dX12_cut_5 : decode cX12_cut 5 = .ok (.aload_n 0, 1) := by decide +kernel
theorem dX12_cut_6 : decode cX12_cut 6 = .ok (.iload_n 1, 1) := by decide +kernel
theorem dX12_cut_7 : decode cX12_cut 7 = .ok (.invokevirtual 200, 3) := by decide +kernel
theorem dX12_cut_10 : decode cX12_cut 10 = .ok (.ifCond .eq 11, 3) := by decide +kernel
theorem dX12_cut_13 : decode cX12_cut 13 = .ok (.aload_n 0, 1) := by decide +kernel
theorem dX12_cut_14 : decode cX12_cut 14 = .ok (.iload_n 1, 1) := by decide +kernel
theorem dX12_cut_15 : decode cX12_cut 15 = .ok (.invokevirtual 305, 3) := by decide +kernel
theorem dX12_cut_18 : decode cX12_cut 18 = .ok (.goto 4, 3) := by decide +kernel
theorem dX12_cut_21 : decode cX12_cut 21 = .ok (.iconst (-1), 1) := by decide +kernel
theorem dX12_cut_22 : decode cX12_cut 22 = .ok (.ireturn, 1) := by decide +kernel
theorem inn_X12_cut_12 : ∀ w ∈ u_ws RX12 TX12 66, w ∈ wsX12_cut := fun w h => List.mem_cons_of_mem _ (List.mem_append_right _ h)
theorem inn_X12_cuts_12 : ∀ w ∈ u_ws RX12 TX12 66, w ∈ wsX12_cuts := fun w h => List.mem_cons_of_mem _ (List.mem_append_right _ h)
