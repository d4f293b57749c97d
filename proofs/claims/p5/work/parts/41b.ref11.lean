theorem cut0 {S : PS} {x n : Nat} (h : zA S x 1237 n = 0) : ∀ j, zA S x 1237 j = if j = n then 0 else zA S x 1237 j := fun j => by
  by_cases e : j = n
  · rw [if_pos e, e]; exact h
  · rw [if_neg e]
set_option maxRecDepth 20000 in
theorem ggX12_cuts_X12_growing : GoodIn wsX12_cuts wsX12_growing := goodIn_h _ [18] [0] (by decide +kernel) (by decide +kernel)
set_option maxRecDepth 20000 in
theorem gX12_cuts_X12_growing : GoodIn wsX12_cuts (wsV RX12 296 RX12 yX12_growing wsX12_growing) := goodIn_app (goodIn_of _ (by decide +kernel)) ggX12_cuts_X12_growing
set_option maxRecDepth 20000 in
theorem ggX12_cuts_X12_weight : GoodIn wsX12_cuts wsX12_weight := goodIn_h _ [5, 0, 10, 4, 0, 0, 0, 0, 0, 0, 0, 0, 0, 0, 0, 0, 0, 0, 0, 0, 0, 0, 0, 0, 0, 0, 0, 0, 0, 0, 0, 0, 0, 0, 0, 0, 0, 0, 0, 0, 0, 0, 0, 0, 0, 0, 0, 0, 0, 0, 0, 0, 0, 0, 0, 0, 0, 0, 0, 0, 0, 0, 0, 0, 0, 0, 0, 0, 0, 0, 0, 0, 0, 0, 0, 0, 0, 0, 0, 0, 0, 0, 0, 0, 0, 0, 0, 0, 0, 0, 0, 0, 0] [3, 4, 5, 6, 2, 7, 0, 1, 8, 9, 10, 11, 12, 13, 14, 15, 16, 17, 18, 19, 20, 21, 22, 23, 24, 25, 26, 27, 28, 29, 30, 31, 32, 33, 34, 35, 36, 37, 38, 39, 40, 41, 42, 43, 44, 45, 46, 47, 48, 49, 50, 51, 52, 53, 54, 55, 56, 57, 58, 59, 60, 61, 62, 63, 64, 65, 66, 67, 68, 69, 70, 71, 72, 73, 74, 75, 76, 77, 78, 79, 80, 81, 82, 83, 84, 85, 86, 87, 88, 89, 90, 91, 92] (by decide +kernel) (by decide +kernel)
set_option maxRecDepth 20000 in
theorem gX12_cuts_X12_weight : GoodIn wsX12_cuts (wsV RX12 299 RX12 yX12_weight wsX12_weight) := goodIn_app (goodIn_of _ (by decide +kernel)) ggX12_cuts_X12_weight
theorem dX12_cuts_0 : decode cX12_cuts 0 = .ok (.aload_n 0, 1) := by decide +kernel
theorem dX12_cuts_1 : decode cX12_cuts 1 = .ok (.getfield 97, 3) := by decide +kernel
theorem dX12_cuts_4 : decode cX12_cuts 4 = .ok (.iload_n 1, 1) := by decide +kernel
theorem dX12_cuts_5 : decode cX12_cuts 5 = .ok (.iaload, 1) := by decide +kernel
theorem dX12_cuts_6 : decode cX12_cuts 6 = .ok (.istore_n 2, 1) := by decide +kernel
theorem dX12_cuts_7 : decode cX12_cuts 7 = .ok (.iload_n 2, 1) := by decide +kernel
theorem dX12_cuts_8 : decode cX12_cuts 8 = .ok (.ifCond .ne 5, 3) := by decide +kernel
theorem dX12_cuts_11 : decode cX12_cuts 11 = .ok (.iconst (-1), 1) := by decide +kernel
theorem dX12_cuts_12 : decode cX12_cuts 12 = .ok (.ireturn, 1) := by decide +kernel
theorem dX12_cuts_13 : decode cX12_cuts 13 = .ok (.aload_n 0, 1) := by decide +kernel
theorem dX12_cuts_14 : decode cX12_cuts 14 = .ok (.getfield 97, 3) := by decide +kernel
theorem dX12_cuts_17 : decode cX12_cuts 17 = .ok (.iload_n 1, 1) := by decide +kernel
theorem dX12_cuts_18 : decode cX12_cuts 18 = .ok (.iconst 0, 1) := by decide +kernel
theorem dX12_cuts_19 : decode cX12_cuts 19 = .ok (.iastore, 1) := by decide +kernel
theorem dX12_cuts_20 : decode cX12_cuts 20 = .ok (.aload_n 0, 1) := by decide +kernel
theorem dX12_cuts_21 : decode cX12_cuts 21 = .ok (.getfield 290, 3) := by decide +kernel
theorem dX12_cuts_24 : decode cX12_cuts 24 = .ok (.bipush 40, 2) := by decide +kernel
theorem dX12_cuts_26 : decode cX12_cuts 26 = .ok (.if_icmp .ne 25, 3) := by decide +kernel
theorem dX12_cuts_29 : decode cX12_cuts 29 = .ok (.aload_n 0, 1) := by decide +kernel
theorem dX12_cuts_30 : decode cX12_cuts 30 = .ok (.dup, 1) := by decide +kernel
theorem dX12_cuts_31 : decode cX12_cuts 31 = .ok (.getfield 293, 3) := by decide +kernel
theorem dX12_cuts_34 : decode cX12_cuts 34 = .ok (.aload_n 0, 1) := by decide +kernel
theorem dX12_cuts_35 : decode cX12_cuts 35 = .ok (.aload_n 0, 1) := by decide +kernel
theorem dX12_cuts_36 : decode cX12_cuts 36 = .ok (.iload_n 1, 1) := by decide +kernel
theorem dX12_cuts_37 : decode cX12_cuts 37 = .ok (.invokevirtual 296, 3) := by decide +kernel
theorem dX12_cuts_40 : decode cX12_cuts 40 = .ok (.iload_n 2, 1) := by decide +kernel
theorem dX12_cuts_41 : decode cX12_cuts 41 = .ok (.invokevirtual 299, 3) := by decide +kernel
theorem dX12_cuts_44 : decode cX12_cuts 44 = .ok (.iadd, 1) := by decide +kernel
theorem dX12_cuts_45 : decode cX12_cuts 45 = .ok (.putfield 293, 3) := by decide +kernel
theorem dX12_cuts_48 : decode cX12_cuts 48 = .ok (.bipush (-2), 2) := by decide +kernel
theorem dX12_cuts_50 : decode cX12_cuts 50 = .ok (.ireturn, 1) := by decide +kernel
theorem dX12_cuts_51 : decode cX12_cuts 51 = .ok (.aload_n 0, 1) := by decide +kernel
theorem dX12_cuts_52 : decode cX12_cuts 52 = .ok (.getfield 100, 3) := by decide +kernel
theorem dX12_cuts_55 : decode cX12_cuts 55 = .ok (.aload_n 0, 1) := by decide +kernel
theorem dX12_cuts_56 : decode cX12_cuts 56 = .ok (.getfield 290, 3) := by decide +kernel
theorem dX12_cuts_59 : decode cX12_cuts 59 = .ok (.iaload, 1) := by decide +kernel
theorem dX12_cuts_60 : decode cX12_cuts 60 = .ok (.istore_n 3, 1) := by decide +kernel
theorem dX12_cuts_61 : decode cX12_cuts 61 = .ok (.iconst 0, 1) := by decide +kernel
theorem dX12_cuts_62 : decode cX12_cuts 62 = .ok (.istore 4, 2) := by decide +kernel
theorem dX12_cuts_64 : decode cX12_cuts 64 = .ok (.iload 4, 2) := by decide +kernel
theorem dX12_cuts_66 : decode cX12_cuts 66 = .ok (.iload_n 2, 1) := by decide +kernel
theorem dX12_cuts_67 : decode cX12_cuts 67 = .ok (.if_icmp .ge 81, 3) := by decide +kernel
theorem dX12_cuts_70 : decode cX12_cuts 70 = .ok (.aload_n 0, 1) := by decide +kernel
theorem dX12_cuts_71 : decode cX12_cuts 71 = .ok (.getfield 90, 3) := by decide +kernel
theorem dX12_cuts_74 : decode cX12_cuts 74 = .ok (.iload_n 3, 1) := by decide +kernel
theorem dX12_cuts_75 : decode cX12_cuts 75 = .ok (.iload 4, 2) := by decide +kernel
theorem dX12_cuts_77 : decode cX12_cuts 77 = .ok (.iadd, 1) := by decide +kernel
theorem dX12_cuts_78 : decode cX12_cuts 78 = .ok (.aload_n 0, 1) := by decide +kernel
theorem dX12_cuts_79 : decode cX12_cuts 79 = .ok (.getfield 90, 3) := by decide +kernel
theorem dX12_cuts_82 : decode cX12_cuts 82 = .ok (.aload_n 0, 1) := by decide +kernel
theorem dX12_cuts_83 : decode cX12_cuts 83 = .ok (.iload_n 1, 1) := by decide +kernel
theorem dX12_cuts_84 : decode cX12_cuts 84 = .ok (.invokevirtual 296, 3) := by decide +kernel
theorem dX12_cuts_87 : decode cX12_cuts 87 = .ok (.iload 4, 2) := by decide +kernel
theorem dX12_cuts_89 : decode cX12_cuts 89 = .ok (.iadd, 1) := by decide +kernel
theorem dX12_cuts_90 : decode cX12_cuts 90 = .ok (.iaload, 1) := by decide +kernel
theorem dX12_cuts_91 : decode cX12_cuts 91 = .ok (.iastore, 1) := by decide +kernel
theorem dX12_cuts_92 : decode cX12_cuts 92 = .ok (.iconst 0, 1) := by decide +kernel
theorem dX12_cuts_93 : decode cX12_cuts 93 = .ok (.istore 5, 2) := by decide +kernel
theorem dX12_cuts_95 : decode cX12_cuts 95 = .ok (.iload 5, 2) := by decide +kernel
theorem dX12_cuts_97 : decode cX12_cuts 97 = .ok (.bipush 12, 2) := by decide +kernel
theorem dX12_cuts_99 : decode cX12_cuts 99 = .ok (.if_icmp .ge 43, 3) := by decide +kernel
theorem dX12_cuts_102 : decode cX12_cuts 102 = .ok (.aload_n 0, 1) := by decide +kernel
theorem dX12_cuts_103 : decode cX12_cuts 103 = .ok (.getfield 94, 3) := by decide +kernel
theorem dX12_cuts_106 : decode cX12_cuts 106 = .ok (.bipush 12, 2) := by decide +kernel
theorem dX12_cuts_108 : decode cX12_cuts 108 = .ok (.iload_n 3, 1) := by decide +kernel
theorem dX12_cuts_109 : decode cX12_cuts 109 = .ok (.iload 4, 2) := by decide +kernel
theorem dX12_cuts_111 : decode cX12_cuts 111 = .ok (.iadd, 1) := by decide +kernel
theorem dX12_cuts_112 : decode cX12_cuts 112 = .ok (.imul, 1) := by decide +kernel
theorem dX12_cuts_113 : decode cX12_cuts 113 = .ok (.iload 5, 2) := by decide +kernel
theorem dX12_cuts_115 : decode cX12_cuts 115 = .ok (.iadd, 1) := by decide +kernel
theorem dX12_cuts_116 : decode cX12_cuts 116 = .ok (.aload_n 0, 1) := by decide +kernel
theorem dX12_cuts_117 : decode cX12_cuts 117 = .ok (.getfield 94, 3) := by decide +kernel
theorem dX12_cuts_120 : decode cX12_cuts 120 = .ok (.bipush 12, 2) := by decide +kernel
theorem dX12_cuts_122 : decode cX12_cuts 122 = .ok (.aload_n 0, 1) := by decide +kernel
theorem dX12_cuts_123 : decode cX12_cuts 123 = .ok (.iload_n 1, 1) := by decide +kernel
theorem dX12_cuts_124 : decode cX12_cuts 124 = .ok (.invokevirtual 296, 3) := by decide +kernel
theorem dX12_cuts_127 : decode cX12_cuts 127 = .ok (.iload 4, 2) := by decide +kernel
theorem dX12_cuts_129 : decode cX12_cuts 129 = .ok (.iadd, 1) := by decide +kernel
theorem dX12_cuts_130 : decode cX12_cuts 130 = .ok (.imul, 1) := by decide +kernel
theorem dX12_cuts_131 : decode cX12_cuts 131 = .ok (.iload 5, 2) := by decide +kernel
theorem dX12_cuts_133 : decode cX12_cuts 133 = .ok (.iadd, 1) := by decide +kernel
theorem dX12_cuts_134 : decode cX12_cuts 134 = .ok (.iaload, 1) := by decide +kernel
theorem dX12_cuts_135 : decode cX12_cuts 135 = .ok (.iastore, 1) := by decide +kernel
theorem dX12_cuts_136 : decode cX12_cuts 136 = .ok (.iinc 5 1, 3) := by decide +kernel
theorem dX12_cuts_139 : decode cX12_cuts 139 = .ok (.goto (-44), 3) := by decide +kernel
theorem dX12_cuts_142 : decode cX12_cuts 142 = .ok (.iinc 4 1, 3) := by decide +kernel
theorem dX12_cuts_145 : decode cX12_cuts 145 = .ok (.goto (-81), 3) := by decide +kernel
theorem dX12_cuts_148 : decode cX12_cuts 148 = .ok (.aload_n 0, 1) := by decide +kernel
theorem dX12_cuts_149 : decode cX12_cuts 149 = .ok (.getfield 103, 3) := by decide +kernel
theorem dX12_cuts_152 : decode cX12_cuts 152 = .ok (.aload_n 0, 1) := by decide +kernel
theorem dX12_cuts_153 : decode cX12_cuts 153 = .ok (.getfield 290, 3) := by decide +kernel
theorem dX12_cuts_156 : decode cX12_cuts 156 = .ok (.iload_n 1, 1) := by decide +kernel
theorem dX12_cuts_157 : decode cX12_cuts 157 = .ok (.iastore, 1) := by decide +kernel
theorem dX12_cuts_158 : decode cX12_cuts 158 = .ok (.aload_n 0, 1) := by decide +kernel
theorem dX12_cuts_159 : decode cX12_cuts 159 = .ok (.getfield 106, 3) := by decide +kernel
theorem dX12_cuts_162 : decode cX12_cuts 162 = .ok (.aload_n 0, 1) := by decide +kernel
theorem dX12_cuts_163 : decode cX12_cuts 163 = .ok (.getfield 290, 3) := by decide +kernel
theorem dX12_cuts_166 : decode cX12_cuts 166 = .ok (.aload_n 0, 1) := by decide +kernel
theorem dX12_cuts_167 : decode cX12_cuts 167 = .ok (.getfield 302, 3) := by decide +kernel
theorem dX12_cuts_170 : decode cX12_cuts 170 = .ok (.iastore, 1) := by decide +kernel
theorem dX12_cuts_171 : decode cX12_cuts 171 = .ok (.aload_n 0, 1) := by decide +kernel
theorem dX12_cuts_172 : decode cX12_cuts 172 = .ok (.getfield 109, 3) := by decide +kernel
theorem dX12_cuts_175 : decode cX12_cuts 175 = .ok (.aload_n 0, 1) := by decide +kernel
theorem dX12_cuts_176 : decode cX12_cuts 176 = .ok (.getfield 290, 3) := by decide +kernel
theorem dX12_cuts_179 : decode cX12_cuts 179 = .ok (.aload_n 0, 1) := by decide +kernel
theorem dX12_cuts_180 : decode cX12_cuts 180 = .ok (.getfield 37, 3) := by decide +kernel
theorem dX12_cuts_183 : decode cX12_cuts 183 = .ok (.iload_n 1, 1) := by decide +kernel
theorem dX12_cuts_184 : decode cX12_cuts 184 = .ok (.iaload, 1) := by decide +kernel
theorem dX12_cuts_185 : decode cX12_cuts 185 = .ok (.iastore, 1) := by decide +kernel
theorem dX12_cuts_186 : decode cX12_cuts 186 = .ok (.aload_n 0, 1) := by decide +kernel
theorem dX12_cuts_187 : decode cX12_cuts 187 = .ok (.getfield 112, 3) := by decide +kernel
theorem dX12_cuts_190 : decode cX12_cuts 190 = .ok (.aload_n 0, 1) := by decide +kernel
theorem dX12_cuts_191 : decode cX12_cuts 191 = .ok (.getfield 290, 3) := by decide +kernel
theorem dX12_cuts_194 : decode cX12_cuts 194 = .ok (.iconst (-1), 1) := by decide +kernel
theorem dX12_cuts_195 : decode cX12_cuts 195 = .ok (.iastore, 1) := by decide +kernel
theorem dX12_cuts_196 : decode cX12_cuts 196 = .ok (.aload_n 0, 1) := by decide +kernel
theorem dX12_cuts_197 : decode cX12_cuts 197 = .ok (.getfield 115, 3) := by decide +kernel
theorem dX12_cuts_200 : decode cX12_cuts 200 = .ok (.aload_n 0, 1) := by decide +kernel
theorem dX12_cuts_201 : decode cX12_cuts 201 = .ok (.getfield 290, 3) := by decide +kernel
theorem dX12_cuts_204 : decode cX12_cuts 204 = .ok (.iconst 0, 1) := by decide +kernel
theorem dX12_cuts_205 : decode cX12_cuts 205 = .ok (.bastore, 1) := by decide +kernel
theorem dX12_cuts_206 : decode cX12_cuts 206 = .ok (.aload_n 0, 1) := by decide +kernel
theorem dX12_cuts_207 : decode cX12_cuts 207 = .ok (.dup, 1) := by decide +kernel
theorem dX12_cuts_208 : decode cX12_cuts 208 = .ok (.getfield 290, 3) := by decide +kernel
theorem dX12_cuts_211 : decode cX12_cuts 211 = .ok (.iconst 1, 1) := by decide +kernel
theorem dX12_cuts_212 : decode cX12_cuts 212 = .ok (.iadd, 1) := by decide +kernel
theorem dX12_cuts_213 : decode cX12_cuts 213 = .ok (.putfield 290, 3) := by decide +kernel
theorem dX12_cuts_216 : decode cX12_cuts 216 = .ok (.aload_n 0, 1) := by decide +kernel
theorem dX12_cuts_217 : decode cX12_cuts 217 = .ok (.getfield 100, 3) := by decide +kernel
theorem dX12_cuts_220 : decode cX12_cuts 220 = .ok (.aload_n 0, 1) := by decide +kernel
theorem dX12_cuts_221 : decode cX12_cuts 221 = .ok (.getfield 290, 3) := by decide +kernel
theorem dX12_cuts_224 : decode cX12_cuts 224 = .ok (.iload_n 3, 1) := by decide +kernel
theorem dX12_cuts_225 : decode cX12_cuts 225 = .ok (.iload_n 2, 1) := by decide +kernel
theorem dX12_cuts_226 : decode cX12_cuts 226 = .ok (.iadd, 1) := by decide +kernel
theorem dX12_cuts_227 : decode cX12_cuts 227 = .ok (.iastore, 1) := by decide +kernel
theorem dX12_cuts_228 : decode cX12_cuts 228 = .ok (.aload_n 0, 1) := by decide +kernel
theorem dX12_cuts_229 : decode cX12_cuts 229 = .ok (.getfield 290, 3) := by decide +kernel
theorem dX12_cuts_232 : decode cX12_cuts 232 = .ok (.iconst 1, 1) := by decide +kernel
theorem dX12_cuts_233 : decode cX12_cuts 233 = .ok (.isub, 1) := by decide +kernel
theorem dX12_cuts_234 : decode cX12_cuts 234 = .ok (.ireturn, 1) := by decide +kernel
set_option maxRecDepth 20000 in
theorem ggX12_cut_X12_isPot : GoodIn wsX12_cut wsX12_isPot := goodIn_h _ [5, 0, 0, 0, 0, 0, 48, 0, 0, 0, 0, 0, 0, 0, 0, 0, 0, 0, 0, 0, 0, 0, 0, 0, 0, 0, 0, 0, 0, 0, 0, 0, 0, 0, 0, 0, 0, 0, 0, 0, 0, 0, 0, 0, 0, 0, 0, 0, 0, 0, 0, 0, 0, 0, 0, 0, 0, 0, 0, 0, 0, 0, 0, 0, 0, 0, 0, 0, 0, 0, 0, 0] [1, 2, 3, 4, 0, 5, 6, 7, 8, 9, 10, 11, 12, 13, 14, 15, 16, 17, 18, 19, 20, 21, 22, 23, 24, 25, 26, 27, 28, 29, 30, 31, 32, 33, 34, 35, 36, 37, 38, 39, 40, 41, 42, 43, 44, 45, 46, 47, 48, 49, 50, 51, 52, 53, 54, 55, 56, 57, 58, 59, 60, 61, 62, 63, 64, 65, 66, 67, 68, 69, 70, 71] (by decide +kernel) (by decide +kernel)
set_option maxRecDepth 20000 in
theorem gX12_cut_X12_isPot : GoodIn wsX12_cut (wsV RX12 200 RX12 yX12_isPot wsX12_isPot) := goodIn_app (goodIn_of _ (by decide +kernel)) ggX12_cut_X12_isPot
set_option maxRecDepth 20000 in
theorem ggX12_cut_X12_cuts : GoodIn wsX12_cut wsX12_cuts := goodIn_h _ [5, 8, 0, 0, 0, 0, 0, 0, 0, 0, 0, 0, 0, 0, 0, 0, 0, 0, 0, 0, 0, 0, 0, 0, 0, 0, 0, 0, 0, 0, 0, 0, 0, 0, 0, 0, 0, 0, 0, 0, 0, 0, 0, 0, 0, 0, 0, 0, 0, 0, 0, 0, 0, 0, 0, 0, 0, 0, 0, 0, 0, 0, 0, 0, 0, 0, 0, 0, 0, 0, 0, 0, 0, 0, 0, 0, 0, 0, 0, 0, 0, 0, 0, 0, 0, 0, 0, 0, 0, 0, 0, 0, 0, 0, 0, 0, 0, 0, 0, 0, 0, 0, 0, 0, 0, 0, 0, 0, 0, 0, 0, 0] [1, 2, 3, 4, 5, 6, 7, 8, 9, 10, 11, 12, 13, 14, 15, 16, 17, 0, 18, 19, 20, 21, 22, 23, 24, 25, 26, 27, 28, 29, 30, 31, 32, 33, 34, 35, 36, 37, 38, 39, 40, 41, 42, 43, 44, 45, 46, 47, 48, 49, 50, 51, 52, 53, 54, 55, 56, 57, 58, 59, 60, 61, 62, 63, 64, 65, 66, 67, 68, 69, 70, 71, 72, 73, 74, 75, 76, 77, 78, 79, 80, 81, 82, 83, 84, 85, 86, 87, 88, 89, 90, 91, 92, 93, 94, 95, 96, 97, 98, 99, 100, 101, 102, 103, 104, 105, 106, 107, 108, 109, 110, 111] (by decide +kernel) (by decide +kernel)
set_option maxRecDepth 20000 in
theorem gX12_cut_X12_cuts : GoodIn wsX12_cut (wsV RX12 305 RX12 yX12_cuts wsX12_cuts) := goodIn_app (goodIn_of _ (by decide +kernel)) ggX12_cut_X12_cuts
theorem dX12_cut_0 : decode cX12_cut 0 = .ok (.aload_n 0, 1) := by decide +kernel
theorem dX12_cut_1 : decode cX12_cut 1 = .ok (.iconst 0, 1) := by decide +kernel
theorem dX12_cut_2 : decode cX12_cut 2 = .ok (.putfield 161, 3) := by decide +kernel
theorem dX12_cut_5 : decode cX12_cut 5 = .ok (.aload_n 0, 1) := by decide +kernel
theorem dX12_cut_6 : decode cX12_cut 6 = .ok (.iload_n 1, 1) := by decide +kernel
theorem dX12_cut_7 : decode cX12_cut 7 = .ok (.invokevirtual 200, 3) := by decide +kernel
theorem dX12_cut_10 : decode cX12_cut 10 = .ok (.ifCond .eq 11, 3) := by decide +kernel
theorem dX12_cut_13 : decode cX12_cut 13 = .ok (.aload_n 0, 1) := by decide +kernel
theorem dX12_cut_14 : decode cX12_cut 14 = .ok (.iload_n 1, 1) := by decide +kernel
theorem dX12_cut_15 : decode cX12_cut 15 = .ok (.invokevirtual 305, 3) := by decide +kernel
theorem dX12_cut_18 : decode cX12_cut 18 = .ok (.goto 4, 3) := by decide +kernel
theorem dX12_cut_21 : decode cX12_cut 21 = .ok (.iconst (-1), 1) := by decide +kernel
theorem dX12_cut_22 : decode cX12_cut 22 = .ok (.ireturn, 1) := by decide +kernel
theorem inn_X12_cut_12 : ∀ w ∈ u_ws RX12 TX12 66, w ∈ wsX12_cut := fun w h => List.mem_cons_of_mem _ (List.mem_append_right _ h)
theorem inn_X12_cuts_12 : ∀ w ∈ u_ws RX12 TX12 66, w ∈ wsX12_cuts := fun w h => List.mem_cons_of_mem _ (List.mem_append_right _ h)
set_option maxHeartbeats 4000000 in
set_option maxRecDepth 100000 in
theorem k_X12_cuts (l : Launch) (G : va_G) (cy : Nat → ClassId) (κ : Nat → Nat) (S : PS) (sz : Nat) (x : Nat) (a1 : Int32) (a1_z : Int) (hG : GX S) (ha_x : At S x 12) (hz_a1 : a1.toInt = a1_z) (hp_0 : 0 ≤ a1_z) (hp_1 : a1_z ≤ 3) (hp_2 : MI S x) : Ci l yX12_cuts wsX12_cuts ({ frames := 6, cells := 0, slots := 0, locals := 288 }) G cy κ S sz [.ref x, .int (a1)] (fun (r : Int32) (S9 : PS) => Ok MCU S S9 ∧ (MI S9 x ∧ (∀ j, zA S9 x 1237 j = if j = (a1_z).toNat then 0 else zA S x 1237 j))) := by
  refine ent_m (cc := cX12_cuts) (maxL := 6) (ret := (some .int)) (by decide) rfl (Nat.le_of_ble_eq_true rfl) ?_
  intro p e s m below meth c ls X hr hlocks hin hw hl hsz
  subst hsz
  have X : Cx p c cX12_cuts 6 s [.ref x, .int (a1)].toArray wsX12_cuts RX12 m G cy κ (AS S s.heap.size) := X
  have hl : lv_has ls 6 [(0, .ref x), (1, .int (a1))] := hl
  have rg_a1 : (-2147483648) ≤ a1_z ∧ a1_z ≤ 2147483647 := by rw [← hz_a1]; exact ⟨z_lo _, z_hi _⟩
  have hO : Ok MCU S S := Ok.rf hG
  generalize hQQ : MQ below _ _ _ _ _ _ = QQ
  replace hQQ := hQQ.symm
  obtain ⟨v_1, ev_1⟩ : ∃ v, pI S 1238 x = v := ⟨_, rfl⟩
  have rg_2 := gI_12_1238 hO.1 ha_x; rw [ev_1] at rg_2
  have pz_3 : (pI S 1238 x).toInt = v_1.toInt := (congrArg Int32.toInt ev_1).trans rfl
  refine lv_aload_n X.1 X.2.1 dX12_cuts_0 rfl (lv_at hl 0 rfl) ?_
  obtain ⟨q_4, h_5, h_6, h_7⟩ := gQ_12_1237 hO.1 ha_x
  refine r_getR (g := 1237) X hw ha_x rfl 37 h_5 (by decide) rfl inn_X12_cuts_12 (by decide) (X.2.2.2.1 (.fieldLink RX12 97 "SilkMillModel" "grown" "[I") (by decide +kernel)) rfl (gv_1237 _ _) dX12_cuts_1 ?_
  refine lv_iload_n X.1 X.2.1 dX12_cuts_4 rfl (lv_at hl 1 rfl) ?_
  refine r_iald X hw h_6 rfl (by rw [h_7]; exact z_ix hz_a1 (by omega) (by omega)) dX12_cuts_5 ?_
  refine lv_topi (fun v_8 ev_8 => ?_)
  have z_9 := gE_954 hO.1 h_6 (Int32.toNatClampNeg (a1)); rw [← ev_8] at z_9
  have ev_8 := ev_8.symm
  have zf_10 : zA S x 1237 (a1_z).toNat = v_8.toInt := (zA_of h_5 hz_a1 (by omega) ev_8)
  refine lv_istore_n (lv' := [(2, .int (v_8)), (0, .ref x), (1, .int (a1))]) X.1 X.2.1 dX12_cuts_6 rfl hl (by decide) rfl (fun ls hl => ?_)
  refine lv_iload_n X.1 X.2.1 dX12_cuts_7 rfl (lv_at hl 0 rfl) ?_
  refine lv_if_ne (tgt := 13) X.1 X.2.1 dX12_cuts_8 (by decide) (fun c_11 => ?_) (fun c_11 => ?_)
  · have z_b_12 := trivial
    have k_13 : v_8.toInt ≠ 0 := z_ne rfl ti_0 c_11
    refine lv_aload_n X.1 X.2.1 dX12_cuts_13 rfl (lv_at hl 1 rfl) ?_
    refine r_getR (g := 1237) X hw ha_x rfl 37 h_5 (by decide) rfl inn_X12_cuts_12 (by decide) (X.2.2.2.1 (.fieldLink RX12 97 "SilkMillModel" "grown" "[I") (by decide +kernel)) rfl (gv_1237 _ _) dX12_cuts_14 ?_
    refine lv_iload_n X.1 X.2.1 dX12_cuts_17 rfl (lv_at hl 2 rfl) ?_
    refine lv_iconst (v := 0) X.1 X.2.1 dX12_cuts_18 (by decide) ?_
    refine r_iast X hw h_6 rfl (by rw [h_7]; exact z_ix hz_a1 (by omega) (by omega)) dX12_cuts_19 (fun H locs hw => ?_)
    obtain ⟨S_14, eS_14⟩ : ∃ T, T = sA S q_4 (upd (pA S q_4) (Int32.toNatClampNeg (a1)) (0)) := ⟨_, rfl⟩
    rw [← eS_14] at hw
    have hO_15 : Ok MCU S S_14 := hO.sA eS_14 h_6 (by decide +kernel) (uA_954 hO.1 h_6 (by rw [ti_0]; omega) (by rw [ti_0]; omega))
    have h_16 : pA S_14 q_4 (Int32.toNatClampNeg (a1)) = 0 := tA_sAs eS_14
    have t_17 : pR S_14 1237 x = some q_4 := tR_sA eS_14 h_5
    have t_19 : pR S 1237 x = some q_4 := by have h := t_17; rw [eS_14, pR_sA] at h; exact h
    have zs_18 : ∀ j, zA S_14 x 1237 j = if j = (a1_z).toNat then 0 else zA S x 1237 j := by have h := zA_sAs eS_14 t_19 ti_0; rw [z_nc hz_a1 (by omega)] at h; exact h
    refine lv_aload_n X.1 X.2.1 dX12_cuts_20 rfl (lv_at hl 1 rfl) ?_
    have t_20 : At S_14 x 12 := tAt_sA eS_14 ha_x
    have t_21 : pI S_14 1238 x = v_1 := tI_sA eS_14 ev_1
    refine r_getI (g := 1238) (x := v_1) X hw t_20 rfl 38 t_21 (by decide) rfl inn_X12_cuts_12 (by decide) (X.2.2.2.1 (.fieldLink RX12 290 "SilkMillModel" "skeins" "I") (by decide +kernel)) rfl (gv_1238 _ _) dX12_cuts_21 ?_
    refine lv_bipush (v := 40) X.1 X.2.1 dX12_cuts_24 (by decide) ?_
    refine lv_icmp_ne (tgt := 51) X.1 X.2.1 dX12_cuts_26 (by decide) (fun c_22 => ?_) (fun c_22 => ?_)
    · have z_b_23 := trivial
      have k_24 : v_1.toInt ≠ 40 := z_ne rfl ti_40 c_22
      refine lv_aload_n X.1 X.2.1 dX12_cuts_51 rfl (lv_at hl 1 rfl) ?_
      obtain ⟨q_25, h_26, h_27, h_28⟩ := gQ_12_1239 hO_15.1 t_20
      refine r_getR (g := 1239) X hw t_20 rfl 39 h_26 (by decide) rfl inn_X12_cuts_12 (by decide) (X.2.2.2.1 (.fieldLink RX12 100 "SilkMillModel" "firstMetre" "[I") (by decide +kernel)) rfl (gv_1239 _ _) dX12_cuts_52 ?_
      refine lv_aload_n X.1 X.2.1 dX12_cuts_55 rfl (lv_at hl 1 rfl) ?_
      refine r_getI (g := 1238) (x := v_1) X hw t_20 rfl 38 t_21 (by decide) rfl inn_X12_cuts_12 (by decide) (X.2.2.2.1 (.fieldLink RX12 290 "SilkMillModel" "skeins" "I") (by decide +kernel)) rfl (gv_1238 _ _) dX12_cuts_56 ?_
      refine r_iald X hw h_27 rfl (by rw [h_28]; exact z_ix rfl (by omega) (by omega)) dX12_cuts_59 ?_
      refine lv_topi (fun v_29 ev_29 => ?_)
      have z_30 := gE_994 hO_15.1 h_27 (Int32.toNatClampNeg (v_1)); rw [← ev_29] at z_30
      have ev_29 := ev_29.symm
      have zf_31 : zA S_14 x 1239 (v_1.toInt).toNat = v_29.toInt := (zA_of h_26 rfl (by omega) ev_29)
      have pz_33 : (pI S_14 1238 x).toInt = v_1.toInt := (congrArg Int32.toInt t_21).trans rfl
      have mi_34 : MIe S_14 x (-1) := MIe_37 hp_2 hO.1 ha_x h_6 eS_14
      have m7_32 := MI_7' mi_34 (k := v_1.toInt) (by omega) (by omega); rw [zf_31] at m7_32
      have zc_35 : zA S_14 x 1239 = zA S x 1239 := zA_sAn eS_14 (ex3 (gQ_12_1239 hO.1 ha_x)) h_6 rfl
      refine lv_istore_n (lv' := [(3, .int (v_29)), (2, .int (v_8)), (0, .ref x), (1, .int (a1))]) X.1 X.2.1 dX12_cuts_60 rfl hl (by decide) rfl (fun ls hl => ?_)
      refine lv_iconst (v := 0) X.1 X.2.1 dX12_cuts_61 (by decide) ?_
      refine lv_istore (lv' := [(4, .int 0), (3, .int (v_29)), (2, .int (v_8)), (0, .ref x), (1, .int (a1))]) X.1 X.2.1 dX12_cuts_62 hl (by decide) rfl (fun ls hl => ?_)
      have L_36 : ∀ (n : Nat) (T_38 : PS) (H : Heap) (locs : List Loc) (ls : Array Slot) (i4_37 : Int32) (i4_37_z : Int), ((300 - i4_37_z).toNat = n) → (Wd G cy (AS S s.heap.size) s.heap T_38 H locs) → (i4_37.toInt = i4_37_z) → (0 ≤ i4_37_z ∧ i4_37_z ≤ 300) → (At T_38 x 12) → (Ok MCU S T_38) → (zA T_38 x 1237 = zA S_14 x 1237) → (zA T_38 x 1239 = zA S x 1239) → (MIe T_38 x (-1)) → (pI T_38 1238 x = v_1) → (lv_has ls 6 [(4, .int (i4_37)), (3, .int (v_29)), (2, .int (v_8)), (0, .ref x), (1, .int (a1))]) → W p l e ({ frames := 6, cells := 0, slots := 0, locals := 288 }) s m [.ref x, .int (a1)].toArray below meth c H locs 0 0 QQ (F0 m 64 ls []) := by
        intro n
        induction n using Nat.strongRecOn with
        | ind n ih_L_36 =>
        intro T_38 H locs ls i4_37 i4_37_z hn hw hz_i4_37 hr_i4_37 ha_x_L_39 hO_T_38 zk_40 zk_41 mk_42 ik_43 hl
        have rg_44 : (-2147483648) ≤ i4_37_z ∧ i4_37_z ≤ 2147483647 := by rw [← hz_i4_37]; exact ⟨z_lo _, z_hi _⟩
        refine lv_iload X.1 X.2.1 dX12_cuts_64 (lv_at hl 0 rfl) ?_
        refine lv_iload_n X.1 X.2.1 dX12_cuts_66 rfl (lv_at hl 2 rfl) ?_
        refine lv_icmp_ge (tgt := 148) X.1 X.2.1 dX12_cuts_67 (by decide) (fun c_45 => ?_) (fun c_45 => ?_)
        · have z_b_46 := trivial
          have k_47 : i4_37_z ≥ v_8.toInt := z_le rfl hz_i4_37 c_45
          refine lv_aload_n X.1 X.2.1 dX12_cuts_148 rfl (lv_at hl 3 rfl) ?_
          obtain ⟨q_48, h_49, h_50, h_51⟩ := gQ_12_1240 hO_T_38.1 ha_x_L_39
          refine r_getR (g := 1240) X hw ha_x_L_39 rfl 40 h_49 (by decide) rfl inn_X12_cuts_12 (by decide) (X.2.2.2.1 (.fieldLink RX12 103 "SilkMillModel" "skeinPot" "[I") (by decide +kernel)) rfl (gv_1240 _ _) dX12_cuts_149 ?_
          refine lv_aload_n X.1 X.2.1 dX12_cuts_152 rfl (lv_at hl 3 rfl) ?_
          refine r_getI (g := 1238) (x := v_1) X hw ha_x_L_39 rfl 38 ik_43 (by decide) rfl inn_X12_cuts_12 (by decide) (X.2.2.2.1 (.fieldLink RX12 290 "SilkMillModel" "skeins" "I") (by decide +kernel)) rfl (gv_1238 _ _) dX12_cuts_153 ?_
          refine lv_iload_n X.1 X.2.1 dX12_cuts_156 rfl (lv_at hl 4 rfl) ?_
          refine r_iast X hw h_50 rfl (by rw [h_51]; exact z_ix rfl (by omega) (by omega)) dX12_cuts_157 (fun H locs hw => ?_)
          obtain ⟨S_52, eS_52⟩ : ∃ T, T = sA T_38 q_48 (upd (pA T_38 q_48) (Int32.toNatClampNeg (v_1)) (a1)) := ⟨_, rfl⟩
          rw [← eS_52] at hw
          have hO_53 : Ok MCU S S_52 := hO_T_38.sA eS_52 h_50 (by decide +kernel) (uA_1014 hO_T_38.1 h_50)
          have h_54 : pA S_52 q_48 (Int32.toNatClampNeg (v_1)) = a1 := tA_sAs eS_52
          refine lv_aload_n X.1 X.2.1 dX12_cuts_158 rfl (lv_at hl 3 rfl) ?_
          have t_55 : At S_52 x 12 := tAt_sA eS_52 ha_x_L_39
          obtain ⟨q_56, h_57, h_58, h_59⟩ := gQ_12_1241 hO_53.1 t_55
          refine r_getR (g := 1241) X hw t_55 rfl 41 h_57 (by decide) rfl inn_X12_cuts_12 (by decide) (X.2.2.2.1 (.fieldLink RX12 106 "SilkMillModel" "skeinDay" "[I") (by decide +kernel)) rfl (gv_1241 _ _) dX12_cuts_159 ?_
          refine lv_aload_n X.1 X.2.1 dX12_cuts_162 rfl (lv_at hl 3 rfl) ?_
          have t_60 : pI S_52 1238 x = v_1 := tI_sA eS_52 ik_43
          refine r_getI (g := 1238) (x := v_1) X hw t_55 rfl 38 t_60 (by decide) rfl inn_X12_cuts_12 (by decide) (X.2.2.2.1 (.fieldLink RX12 290 "SilkMillModel" "skeins" "I") (by decide +kernel)) rfl (gv_1238 _ _) dX12_cuts_163 ?_
          refine lv_aload_n X.1 X.2.1 dX12_cuts_166 rfl (lv_at hl 3 rfl) ?_
          obtain ⟨v_61, ev_61⟩ : ∃ v, pI S_52 1245 x = v := ⟨_, rfl⟩
          have rg_63 := And.intro (z_lo v_61) (z_hi v_61)
          refine r_getI (g := 1245) (x := v_61) X hw t_55 rfl 45 ev_61 (by decide) rfl inn_X12_cuts_12 (by decide) (X.2.2.2.1 (.fieldLink RX12 302 "SilkMillModel" "today" "I") (by decide +kernel)) rfl (gv_1245 _ _) dX12_cuts_167 ?_
          refine r_iast X hw h_58 rfl (by rw [h_59]; exact z_ix rfl (by omega) (by omega)) dX12_cuts_170 (fun H locs hw => ?_)
          obtain ⟨S_64, eS_64⟩ : ∃ T, T = sA S_52 q_56 (upd (pA S_52 q_56) (Int32.toNatClampNeg (v_1)) (v_61)) := ⟨_, rfl⟩
          rw [← eS_64] at hw
          have hO_65 : Ok MCU S S_64 := hO_53.sA eS_64 h_58 (by decide +kernel) (uA_1034 hO_53.1 h_58)
          have h_66 : pA S_64 q_56 (Int32.toNatClampNeg (v_1)) = v_61 := tA_sAs eS_64
          refine lv_aload_n X.1 X.2.1 dX12_cuts_171 rfl (lv_at hl 3 rfl) ?_
          have t_67 : At S_64 x 12 := tAt_sA eS_64 t_55
          obtain ⟨q_68, h_69, h_70, h_71⟩ := gQ_12_1242 hO_65.1 t_67
          refine r_getR (g := 1242) X hw t_67 rfl 42 h_69 (by decide) rfl inn_X12_cuts_12 (by decide) (X.2.2.2.1 (.fieldLink RX12 109 "SilkMillModel" "skeinAim" "[I") (by decide +kernel)) rfl (gv_1242 _ _) dX12_cuts_172 ?_
          refine lv_aload_n X.1 X.2.1 dX12_cuts_175 rfl (lv_at hl 3 rfl) ?_
          have t_72 : pI S_64 1238 x = v_1 := tI_sA eS_64 t_60
          refine r_getI (g := 1238) (x := v_1) X hw t_67 rfl 38 t_72 (by decide) rfl inn_X12_cuts_12 (by decide) (X.2.2.2.1 (.fieldLink RX12 290 "SilkMillModel" "skeins" "I") (by decide +kernel)) rfl (gv_1238 _ _) dX12_cuts_176 ?_
          refine lv_aload_n X.1 X.2.1 dX12_cuts_179 rfl (lv_at hl 3 rfl) ?_
          obtain ⟨q_73, h_74, h_75, h_76⟩ := gQ_12_1212 hO_65.1 t_67
          refine r_getR (g := 1212) X hw t_67 rfl 12 h_74 (by decide) rfl inn_X12_cuts_12 (by decide) (X.2.2.2.1 (.fieldLink RX12 37 "SilkMillModel" "aim" "[I") (by decide +kernel)) rfl (gv_1212 _ _) dX12_cuts_180 ?_
          refine lv_iload_n X.1 X.2.1 dX12_cuts_183 rfl (lv_at hl 4 rfl) ?_
          refine r_iald X hw h_75 rfl (by rw [h_76]; exact z_ix hz_a1 (by omega) (by omega)) dX12_cuts_184 ?_
          refine lv_topi (fun v_77 ev_77 => ?_)
          have rg_78 := And.intro (z_lo v_77) (z_hi v_77)
          have ev_77 := ev_77.symm
          refine r_iast X hw h_70 rfl (by rw [h_71]; exact z_ix rfl (by omega) (by omega)) dX12_cuts_185 (fun H locs hw => ?_)
          obtain ⟨S_79, eS_79⟩ : ∃ T, T = sA S_64 q_68 (upd (pA S_64 q_68) (Int32.toNatClampNeg (v_1)) (v_77)) := ⟨_, rfl⟩
          rw [← eS_79] at hw
          have hO_80 : Ok MCU S S_79 := hO_65.sA eS_79 h_70 (by decide +kernel) (uA_1054 hO_65.1 h_70)
          have h_81 : pA S_79 q_68 (Int32.toNatClampNeg (v_1)) = v_77 := tA_sAs eS_79
          refine lv_aload_n X.1 X.2.1 dX12_cuts_186 rfl (lv_at hl 3 rfl) ?_
          have t_82 : At S_79 x 12 := tAt_sA eS_79 t_67
          obtain ⟨q_83, h_84, h_85, h_86⟩ := gQ_12_1243 hO_80.1 t_82
          refine r_getR (g := 1243) X hw t_82 rfl 43 h_84 (by decide) rfl inn_X12_cuts_12 (by decide) (X.2.2.2.1 (.fieldLink RX12 112 "SilkMillModel" "skeinGrade" "[I") (by decide +kernel)) rfl (gv_1243 _ _) dX12_cuts_187 ?_
          refine lv_aload_n X.1 X.2.1 dX12_cuts_190 rfl (lv_at hl 3 rfl) ?_
          have t_87 : pI S_79 1238 x = v_1 := tI_sA eS_79 t_72
          refine r_getI (g := 1238) (x := v_1) X hw t_82 rfl 38 t_87 (by decide) rfl inn_X12_cuts_12 (by decide) (X.2.2.2.1 (.fieldLink RX12 290 "SilkMillModel" "skeins" "I") (by decide +kernel)) rfl (gv_1238 _ _) dX12_cuts_191 ?_
          refine lv_iconst (v := (-1)) X.1 X.2.1 dX12_cuts_194 (by decide) ?_
          refine r_iast X hw h_85 rfl (by rw [h_86]; exact z_ix rfl (by omega) (by omega)) dX12_cuts_195 (fun H locs hw => ?_)
          obtain ⟨S_88, eS_88⟩ : ∃ T, T = sA S_79 q_83 (upd (pA S_79 q_83) (Int32.toNatClampNeg (v_1)) ((-1))) := ⟨_, rfl⟩
          rw [← eS_88] at hw
          have hO_89 : Ok MCU S S_88 := hO_80.sA eS_88 h_85 (by decide +kernel) (uA_1074 hO_80.1 h_85 (by rw [ti_m1]; omega) (by rw [ti_m1]; omega))
          have h_90 : pA S_88 q_83 (Int32.toNatClampNeg (v_1)) = (-1) := tA_sAs eS_88
          refine lv_aload_n X.1 X.2.1 dX12_cuts_196 rfl (lv_at hl 3 rfl) ?_
          have t_91 : At S_88 x 12 := tAt_sA eS_88 t_82
          obtain ⟨q_92, h_93, h_94, h_95⟩ := gQ_12_1244 hO_89.1 t_91
          refine r_getR (g := 1244) X hw t_91 rfl 44 h_93 (by decide) rfl inn_X12_cuts_12 (by decide) (X.2.2.2.1 (.fieldLink RX12 115 "SilkMillModel" "isSold" "[Z") (by decide +kernel)) rfl (gv_1244 _ _) dX12_cuts_197 ?_
          refine lv_aload_n X.1 X.2.1 dX12_cuts_200 rfl (lv_at hl 3 rfl) ?_
          have t_96 : pI S_88 1238 x = v_1 := tI_sA eS_88 t_87
          refine r_getI (g := 1238) (x := v_1) X hw t_91 rfl 38 t_96 (by decide) rfl inn_X12_cuts_12 (by decide) (X.2.2.2.1 (.fieldLink RX12 290 "SilkMillModel" "skeins" "I") (by decide +kernel)) rfl (gv_1238 _ _) dX12_cuts_201 ?_
          refine lv_iconst (v := 0) X.1 X.2.1 dX12_cuts_204 (by decide) ?_
          refine r_zast X hw h_94 rfl (by rw [h_95]; exact z_ix rfl (by omega) (by omega)) dX12_cuts_205 (fun H locs hw => ?_)
          obtain ⟨S_97, eS_97⟩ : ∃ T, T = sA S_88 q_92 (upd (pA S_88 q_92) (Int32.toNatClampNeg (v_1)) (vp_nar .boolean (0))) := ⟨_, rfl⟩
          rw [← eS_97] at hw
          have hO_98 : Ok MCU S S_97 := hO_89.sA eS_97 h_94 (by decide +kernel) (uA_1095 hO_89.1 h_94)
          refine lv_aload_n X.1 X.2.1 dX12_cuts_206 rfl (lv_at hl 3 rfl) ?_
          refine lv_dup X.1 X.2.1 dX12_cuts_207 rfl ?_
          have t_99 : At S_97 x 12 := tAt_sA eS_97 t_91
          have t_100 : pI S_97 1238 x = v_1 := tI_sA eS_97 t_96
          refine r_getI (g := 1238) (x := v_1) X hw t_99 rfl 38 t_100 (by decide) rfl inn_X12_cuts_12 (by decide) (X.2.2.2.1 (.fieldLink RX12 290 "SilkMillModel" "skeins" "I") (by decide +kernel)) rfl (gv_1238 _ _) dX12_cuts_208 ?_
          refine lv_iconst (v := 1) X.1 X.2.1 dX12_cuts_211 (by decide) ?_
          refine lv_iadd X.1 X.2.1 dX12_cuts_212 ?_
          refine lv_topi (fun v_101 ev_101 => ?_)
          have z_102 : v_101.toInt = v_1.toInt + 1 := z_add ev_101 rfl ti_1 (by omega) (by omega)
          have mi_103 : MIe S_52 x (-1) := MIe_sA mk_42 hO_T_38.1 ha_x_L_39 h_50 eS_52 (by decide +kernel)
          have mi_104 : MIe S_64 x (-1) := MIe_sA mi_103 hO_53.1 t_55 h_58 eS_64 (by decide +kernel)
          have mi_105 : MIe S_79 x (-1) := MIe_sA mi_104 hO_65.1 t_67 h_70 eS_79 (by decide +kernel)
          have mi_106 : MIe S_88 x (-1) := MIe_sA mi_105 hO_80.1 t_82 h_85 eS_88 (by decide +kernel)
          have mi_107 : MIe S_97 x (-1) := MIe_sA mi_106 hO_89.1 t_91 h_94 eS_97 (by decide +kernel)
          have pz_108 : (pI S_97 1238 x).toInt = v_1.toInt := (congrArg Int32.toInt t_100).trans rfl
          have zc_109 : zA S_52 x 1239 = zA S x 1239 := (zA_sAn eS_52 (ex3 (gQ_12_1239 hO_T_38.1 ha_x_L_39)) h_50 rfl).trans zk_41
          have zc_110 : zA S_64 x 1239 = zA S x 1239 := (zA_sAn eS_64 (ex3 (gQ_12_1239 hO_53.1 t_55)) h_58 rfl).trans zc_109
          have zc_111 : zA S_79 x 1239 = zA S x 1239 := (zA_sAn eS_79 (ex3 (gQ_12_1239 hO_65.1 t_67)) h_70 rfl).trans zc_110
          have zc_112 : zA S_88 x 1239 = zA S x 1239 := (zA_sAn eS_88 (ex3 (gQ_12_1239 hO_80.1 t_82)) h_85 rfl).trans zc_111
          have zc_113 : zA S_97 x 1239 = zA S x 1239 := (zA_sAn eS_97 (ex3 (gQ_12_1239 hO_89.1 t_91)) h_94 rfl).trans zc_112
          refine r_putI (v := v_101) X hw t_99 rfl 38 1238 tyX12 (by decide) rfl inn_X12_cuts_12 tyX12_ok nmX12 (by decide) (X.2.2.2.1 (.fieldLink RX12 290 "SilkMillModel" "skeins" "I") (by decide +kernel)) rfl (Or.inl rfl) rfl rfl (Nat.le_of_ble_eq_true rfl) (st_1238 _ _) dX12_cuts_213 (fun H locs hw => ?_)
          obtain ⟨S_114, eS_114⟩ : ∃ T, T = sI S_97 1238 x (v_101) := ⟨_, rfl⟩
          rw [← eS_114] at hw
          have hO_115 : Ok MCU S S_114 := hO_98.sI eS_114 (by decide +kernel) (uI_12_1238 hO_98.1 t_99 (by omega) (by omega))
          have h_116 : pI S_114 1238 x = v_101 := tI_sIs eS_114
          refine lv_aload_n X.1 X.2.1 dX12_cuts_216 rfl (lv_at hl 3 rfl) ?_
          have t_117 : At S_114 x 12 := tAt_sI eS_114 t_99
          obtain ⟨q_118, h_119, h_120, h_121⟩ := gQ_12_1239 hO_115.1 t_117
          refine r_getR (g := 1239) X hw t_117 rfl 39 h_119 (by decide) rfl inn_X12_cuts_12 (by decide) (X.2.2.2.1 (.fieldLink RX12 100 "SilkMillModel" "firstMetre" "[I") (by decide +kernel)) rfl (gv_1239 _ _) dX12_cuts_217 ?_
          refine lv_aload_n X.1 X.2.1 dX12_cuts_220 rfl (lv_at hl 3 rfl) ?_
          refine r_getI (g := 1238) (x := v_101) X hw t_117 rfl 38 h_116 (by decide) rfl inn_X12_cuts_12 (by decide) (X.2.2.2.1 (.fieldLink RX12 290 "SilkMillModel" "skeins" "I") (by decide +kernel)) rfl (gv_1238 _ _) dX12_cuts_221 ?_
          refine lv_iload_n X.1 X.2.1 dX12_cuts_224 rfl (lv_at hl 1 rfl) ?_
          refine lv_iload_n X.1 X.2.1 dX12_cuts_225 rfl (lv_at hl 2 rfl) ?_
          refine lv_iadd X.1 X.2.1 dX12_cuts_226 ?_
          refine lv_topi (fun v_122 ev_122 => ?_)
          have z_123 : v_122.toInt = v_29.toInt + v_8.toInt := z_add ev_122 rfl rfl (by omega) (by omega)
          refine r_iast X hw h_120 rfl (by rw [h_121]; exact z_ix z_102 (by omega) (by omega)) dX12_cuts_227 (fun H locs hw => ?_)
          obtain ⟨S_124, eS_124⟩ : ∃ T, T = sA S_114 q_118 (upd (pA S_114 q_118) (Int32.toNatClampNeg (v_101)) (v_122)) := ⟨_, rfl⟩
          rw [← eS_124] at hw
          have hO_125 : Ok MCU S S_124 := hO_115.sA eS_124 h_120 (by decide +kernel) (uA_994 hO_115.1 h_120 (by omega) (by omega))
          have h_126 : pA S_124 q_118 (Int32.toNatClampNeg (v_101)) = v_122 := tA_sAs eS_124
          have t_127 : pR S_124 1239 x = some q_118 := tR_sA eS_124 h_119
          have t_129 : pR S_114 1239 x = some q_118 := by have h := t_127; rw [eS_124, pR_sA] at h; exact h
          have zs_128 : ∀ j, zA S_124 x 1239 j = if j = ((v_1.toInt + 1)).toNat then (v_29.toInt + v_8.toInt) else zA S_114 x 1239 j := by have h := zA_sAs eS_124 t_129 z_123; rw [z_nc z_102 (by omega)] at h; exact h
          have hA13 : (pI S_97 1238 x).toInt = v_1.toInt := by omega
          have hB13 : zA S_97 x 1239 (v_1.toInt).toNat = v_29.toInt := (congrFun zc_113 _).trans ((congrFun zc_35 _).symm.trans zf_31)
          have t_131 : pI S_124 1238 x = v_101 := tI_sA eS_124 h_116
          have mi_130 : MIe S_124 x (-1) := cut_MI (n := v_8.toInt) hO_98.1 t_99 ((show Fr [1238, 10994] S_97 S_114 by rw [eS_114]; exact Fr_sI (by decide)).trans (show Fr [1238, 10994] S_114 S_124 by rw [eS_124]; exact Fr_sA h_120 (by decide))) mi_107 (by omega) (by omega) (by omega) (by rw [t_131]; omega) (fun j => by rw [zs_128 j, zA_sI eS_114, hA13, hB13, show ((v_1.toInt + 1)).toNat = (v_1.toInt + 1).toNat by omega])
          refine lv_aload_n X.1 X.2.1 dX12_cuts_228 rfl (lv_at hl 3 rfl) ?_
          have t_132 : At S_124 x 12 := tAt_sA eS_124 t_117
          refine r_getI (g := 1238) (x := v_101) X hw t_132 rfl 38 t_131 (by decide) rfl inn_X12_cuts_12 (by decide) (X.2.2.2.1 (.fieldLink RX12 290 "SilkMillModel" "skeins" "I") (by decide +kernel)) rfl (gv_1238 _ _) dX12_cuts_229 ?_
          refine lv_iconst (v := 1) X.1 X.2.1 dX12_cuts_232 (by decide) ?_
          refine lv_isub X.1 X.2.1 dX12_cuts_233 ?_
          refine lv_topi (fun v_133 ev_133 => ?_)
          have z_134 : v_133.toInt = (v_1.toInt + 1) - 1 := z_sub ev_133 z_102 ti_1 (by omega) (by omega)
          have zc_135 : zA S_52 x 1237 = zA S_14 x 1237 := (zA_sAn eS_52 (ex3 (gQ_12_1237 hO_T_38.1 ha_x_L_39)) h_50 rfl).trans zk_40
          have zc_136 : zA S_64 x 1237 = zA S_14 x 1237 := (zA_sAn eS_64 (ex3 (gQ_12_1237 hO_53.1 t_55)) h_58 rfl).trans zc_135
          have zc_137 : zA S_79 x 1237 = zA S_14 x 1237 := (zA_sAn eS_79 (ex3 (gQ_12_1237 hO_65.1 t_67)) h_70 rfl).trans zc_136
          have zc_138 : zA S_88 x 1237 = zA S_14 x 1237 := (zA_sAn eS_88 (ex3 (gQ_12_1237 hO_80.1 t_82)) h_85 rfl).trans zc_137
          have zc_139 : zA S_97 x 1237 = zA S_14 x 1237 := (zA_sAn eS_97 (ex3 (gQ_12_1237 hO_89.1 t_91)) h_94 rfl).trans zc_138
          have zc_140 : zA S_114 x 1237 = zA S_14 x 1237 := (zA_sI eS_114).trans zc_139
          have zc_141 : zA S_124 x 1237 = zA S_14 x 1237 := (zA_sAn eS_124 (ex3 (gQ_12_1237 hO_115.1 t_117)) h_120 rfl).trans zc_140
          have zs_142 : ∀ j, zA S_124 x 1237 j = if j = (a1_z).toNat then 0 else zA S x 1237 j := fun j => by rw [zc_141]; exact zs_18 j
          rw [hQQ]
          exact ret_i X hw hr hlocks (Nat.le_of_ble_eq_true rfl) (Nat.le_of_ble_eq_true rfl) ⟨hO_125, ⟨mi_130, zs_142⟩⟩ dX12_cuts_234
        · have z_b_143 := trivial
          have k_144 : i4_37_z < v_8.toInt := z_nle rfl hz_i4_37 c_45
          refine lv_aload_n X.1 X.2.1 dX12_cuts_70 rfl (lv_at hl 3 rfl) ?_
          obtain ⟨q_145, h_146, h_147, h_148⟩ := gQ_12_1235 hO_T_38.1 ha_x_L_39
          refine r_getR (g := 1235) X hw ha_x_L_39 rfl 35 h_146 (by decide) rfl inn_X12_cuts_12 (by decide) (X.2.2.2.1 (.fieldLink RX12 90 "SilkMillModel" "metreEnds" "[I") (by decide +kernel)) rfl (gv_1235 _ _) dX12_cuts_71 ?_
          refine lv_iload_n X.1 X.2.1 dX12_cuts_74 rfl (lv_at hl 1 rfl) ?_
          refine lv_iload X.1 X.2.1 dX12_cuts_75 (lv_at hl 0 rfl) ?_
          refine lv_iadd X.1 X.2.1 dX12_cuts_77 ?_
          refine lv_topi (fun v_149 ev_149 => ?_)
          have z_150 : v_149.toInt = v_29.toInt + i4_37_z := z_add ev_149 rfl hz_i4_37 (by omega) (by omega)
          refine lv_aload_n X.1 X.2.1 dX12_cuts_78 rfl (lv_at hl 3 rfl) ?_
          refine r_getR (g := 1235) X hw ha_x_L_39 rfl 35 h_146 (by decide) rfl inn_X12_cuts_12 (by decide) (X.2.2.2.1 (.fieldLink RX12 90 "SilkMillModel" "metreEnds" "[I") (by decide +kernel)) rfl (gv_1235 _ _) dX12_cuts_79 ?_
          refine lv_aload_n X.1 X.2.1 dX12_cuts_82 rfl (lv_at hl 3 rfl) ?_
          refine lv_iload_n X.1 X.2.1 dX12_cuts_83 rfl (lv_at hl 4 rfl) ?_
          refine k_i (rm := { frames := 1, cells := 0, slots := 0, locals := 48 }) (av := [.ref x, .int (a1)]) X hw (va_runV (As := [.int (a1)]) (rest := [.ref q_145, .int (v_149), .ref q_145]) (cfix X) (k_X12_growing l G cy κ T_38 _ x (a1) (a1_z) hO_T_38.1 ha_x_L_39 hz_a1 (by first | assumption | omega) (by first | assumption | omega)) (cwV 1 X.2.2.2.1 gX12_cuts_X12_growing rfl rfl rfl (by decide +kernel) ⟨Nat.le_of_ble_eq_true rfl, Nat.le_of_ble_eq_true rfl⟩) (pre_V X hw _ ha_x_L_39 rfl (by decide) rfl) rfl rfl hl.1 rfl (lv_room (Nat.le_of_ble_eq_true rfl)) dX12_cuts_84 ⟨Nat.le_of_ble_eq_true rfl, Nat.le_of_ble_eq_true rfl⟩) 0 0 (Nat.le_of_ble_eq_true rfl) (Nat.le_of_ble_eq_true rfl) (fun rr_151 S_152 H locs hp hw hfr hnw => ?_)
          obtain ⟨e2, hp⟩ := hp
          subst e2
          have f_153 := hp
          refine lv_iload X.1 X.2.1 dX12_cuts_87 (lv_at hl 0 rfl) ?_
          refine lv_iadd X.1 X.2.1 dX12_cuts_89 ?_
          refine lv_topi (fun v_154 ev_154 => ?_)
          have z_155 : v_154.toInt = rr_151.toInt + i4_37_z := z_add ev_154 rfl hz_i4_37 (by omega) (by omega)
          refine r_iald X hw h_147 rfl (by rw [h_148]; exact z_ix z_155 (by omega) (by omega)) dX12_cuts_90 ?_
          refine lv_topi (fun v_156 ev_156 => ?_)
          have z_157 := gE_914 hO_T_38.1 h_147 (Int32.toNatClampNeg (v_154)); rw [← ev_156] at z_157
          have ev_156 := ev_156.symm
          refine r_iast X hw h_147 rfl (by rw [h_148]; exact z_ix z_150 (by omega) (by omega)) dX12_cuts_91 (fun H locs hw => ?_)
          obtain ⟨S_158, eS_158⟩ : ∃ T, T = sA T_38 q_145 (upd (pA T_38 q_145) (Int32.toNatClampNeg (v_149)) (v_156)) := ⟨_, rfl⟩
          rw [← eS_158] at hw
          have hO_159 : Ok MCU S S_158 := hO_T_38.sA eS_158 h_147 (by decide +kernel) (uA_914 hO_T_38.1 h_147 (by omega) (by omega))
          have h_160 : pA S_158 q_145 (Int32.toNatClampNeg (v_149)) = v_156 := tA_sAs eS_158
          refine lv_iconst (v := 0) X.1 X.2.1 dX12_cuts_92 (by decide) ?_
          refine lv_istore (lv' := [(5, .int 0), (4, .int (i4_37)), (3, .int (v_29)), (2, .int (v_8)), (0, .ref x), (1, .int (a1))]) X.1 X.2.1 dX12_cuts_93 hl (by decide) rfl (fun ls hl => ?_)
          have zc_165 : zA S_158 x 1237 = zA S_14 x 1237 := (zA_sAn eS_158 (ex3 (gQ_12_1237 hO_T_38.1 ha_x_L_39)) h_147 rfl).trans zk_40
          have zc_167 : zA S_158 x 1239 = zA S x 1239 := (zA_sAn eS_158 (ex3 (gQ_12_1239 hO_T_38.1 ha_x_L_39)) h_147 rfl).trans zk_41
          have t_170 : pI S_158 1238 x = v_1 := tI_sA eS_158 ik_43
          have L_161 : ∀ (n : Nat) (T_163 : PS) (H : Heap) (locs : List Loc) (ls : Array Slot) (i5_162 : Int32) (i5_162_z : Int), ((12 - i5_162_z).toNat = n) → (Wd G cy (AS S s.heap.size) s.heap T_163 H locs) → (i5_162.toInt = i5_162_z) → (0 ≤ i5_162_z ∧ i5_162_z ≤ 12) → (At T_163 x 12) → (Ok MCU S T_163) → (zA T_163 x 1237 = zA S_14 x 1237) → (zA T_163 x 1239 = zA S x 1239) → (MIe T_163 x (-1)) → (pI T_163 1238 x = v_1) → (lv_has ls 6 [(5, .int (i5_162)), (4, .int (i4_37)), (3, .int (v_29)), (2, .int (v_8)), (0, .ref x), (1, .int (a1))]) → W p l e ({ frames := 6, cells := 0, slots := 0, locals := 288 }) s m [.ref x, .int (a1)].toArray below meth c H locs 0 0 QQ (F0 m 95 ls []) := by
            intro n
            induction n using Nat.strongRecOn with
            | ind n ih_L_161 =>
            intro T_163 H locs ls i5_162 i5_162_z hn hw hz_i5_162 hr_i5_162 ha_x_L_164 hO_T_163 zk_166 zk_168 mk_169 ik_171 hl
            have rg_172 : (-2147483648) ≤ i5_162_z ∧ i5_162_z ≤ 2147483647 := by rw [← hz_i5_162]; exact ⟨z_lo _, z_hi _⟩
            refine lv_iload X.1 X.2.1 dX12_cuts_95 (lv_at hl 0 rfl) ?_
            refine lv_bipush (v := 12) X.1 X.2.1 dX12_cuts_97 (by decide) ?_
            refine lv_icmp_ge (tgt := 142) X.1 X.2.1 dX12_cuts_99 (by decide) (fun c_173 => ?_) (fun c_173 => ?_)
            · have z_b_174 := trivial
              have k_175 : i5_162_z ≥ 12 := z_le ti_12 hz_i5_162 c_173
              obtain ⟨x_176, ex_176⟩ : ∃ y : Int32, y = i4_37 + 1 := ⟨_, rfl⟩
              have z_177 : x_176.toInt = i4_37_z + 1 := z_add ex_176 hz_i4_37 ti_1 (by omega) (by omega)
              refine lv_iinc (v := x_176) (lv' := [(4, .int (x_176)), (5, .int (i5_162)), (3, .int (v_29)), (2, .int (v_8)), (0, .ref x), (1, .int (a1))]) X.1 X.2.1 dX12_cuts_142 hl (k := 1) rfl (by rw [ex_176]; rfl) (by decide) rfl (fun ls hl => ?_)
              refine lv_goto (tgt := 64) X.1 X.2.1 dX12_cuts_145 (by decide) ?_
              exact ih_L_36 _ (by omega) _ _ _ _ (x_176) (x_176.toInt) rfl hw rfl (by omega) ha_x_L_164 hO_T_163 zk_166 zk_168 mk_169 ik_171 (lv_sub hl [0, 2, 3, 4, 5] rfl)
            · have z_b_178 := trivial
              have k_179 : i5_162_z < 12 := z_nle ti_12 hz_i5_162 c_173
              refine lv_aload_n X.1 X.2.1 dX12_cuts_102 rfl (lv_at hl 4 rfl) ?_
              obtain ⟨q_180, h_181, h_182, h_183⟩ := gQ_12_1236 hO_T_163.1 ha_x_L_164
              refine r_getR (g := 1236) X hw ha_x_L_164 rfl 36 h_181 (by decide) rfl inn_X12_cuts_12 (by decide) (X.2.2.2.1 (.fieldLink RX12 94 "SilkMillModel" "drawn" "[I") (by decide +kernel)) rfl (gv_1236 _ _) dX12_cuts_103 ?_
              refine lv_bipush (v := 12) X.1 X.2.1 dX12_cuts_106 (by decide) ?_
              refine lv_iload_n X.1 X.2.1 dX12_cuts_108 rfl (lv_at hl 2 rfl) ?_
              refine lv_iload X.1 X.2.1 dX12_cuts_109 (lv_at hl 1 rfl) ?_
              refine lv_iadd X.1 X.2.1 dX12_cuts_111 ?_
              refine lv_topi (fun v_184 ev_184 => ?_)
              have z_185 : v_184.toInt = v_29.toInt + i4_37_z := z_add ev_184 rfl hz_i4_37 (by omega) (by omega)
              refine lv_imul X.1 X.2.1 dX12_cuts_112 ?_
              refine lv_topi (fun v_186 ev_186 => ?_)
              have z_187 : v_186.toInt = 12 * (v_29.toInt + i4_37_z) := z_mul ev_186 ti_12 z_185 (by omega) (by omega)
              refine lv_iload X.1 X.2.1 dX12_cuts_113 (lv_at hl 0 rfl) ?_
              refine lv_iadd X.1 X.2.1 dX12_cuts_115 ?_
              refine lv_topi (fun v_188 ev_188 => ?_)
              have z_189 : v_188.toInt = (12 * (v_29.toInt + i4_37_z)) + i5_162_z := z_add ev_188 z_187 hz_i5_162 (by omega) (by omega)
              refine lv_aload_n X.1 X.2.1 dX12_cuts_116 rfl (lv_at hl 4 rfl) ?_
              refine r_getR (g := 1236) X hw ha_x_L_164 rfl 36 h_181 (by decide) rfl inn_X12_cuts_12 (by decide) (X.2.2.2.1 (.fieldLink RX12 94 "SilkMillModel" "drawn" "[I") (by decide +kernel)) rfl (gv_1236 _ _) dX12_cuts_117 ?_
              refine lv_bipush (v := 12) X.1 X.2.1 dX12_cuts_120 (by decide) ?_
              refine lv_aload_n X.1 X.2.1 dX12_cuts_122 rfl (lv_at hl 4 rfl) ?_
              refine lv_iload_n X.1 X.2.1 dX12_cuts_123 rfl (lv_at hl 5 rfl) ?_
              refine k_i (rm := { frames := 1, cells := 0, slots := 0, locals := 48 }) (av := [.ref x, .int (a1)]) X hw (va_runV (As := [.int (a1)]) (rest := [.int 12, .ref q_180, .int (v_188), .ref q_180]) (cfix X) (k_X12_growing l G cy κ T_163 _ x (a1) (a1_z) hO_T_163.1 ha_x_L_164 hz_a1 (by first | assumption | omega) (by first | assumption | omega)) (cwV 1 X.2.2.2.1 gX12_cuts_X12_growing rfl rfl rfl (by decide +kernel) ⟨Nat.le_of_ble_eq_true rfl, Nat.le_of_ble_eq_true rfl⟩) (pre_V X hw _ ha_x_L_164 rfl (by decide) rfl) rfl rfl hl.1 rfl (lv_room (Nat.le_of_ble_eq_true rfl)) dX12_cuts_124 ⟨Nat.le_of_ble_eq_true rfl, Nat.le_of_ble_eq_true rfl⟩) 0 0 (Nat.le_of_ble_eq_true rfl) (Nat.le_of_ble_eq_true rfl) (fun rr_190 S_191 H locs hp hw hfr hnw => ?_)
              obtain ⟨e2, hp⟩ := hp
              subst e2
              have f_192 := hp
              refine lv_iload X.1 X.2.1 dX12_cuts_127 (lv_at hl 1 rfl) ?_
              refine lv_iadd X.1 X.2.1 dX12_cuts_129 ?_
              refine lv_topi (fun v_193 ev_193 => ?_)
              have z_194 : v_193.toInt = rr_190.toInt + i4_37_z := z_add ev_193 rfl hz_i4_37 (by omega) (by omega)
              refine lv_imul X.1 X.2.1 dX12_cuts_130 ?_
              refine lv_topi (fun v_195 ev_195 => ?_)
              have z_196 : v_195.toInt = 12 * (rr_190.toInt + i4_37_z) := z_mul ev_195 ti_12 z_194 (by omega) (by omega)
              refine lv_iload X.1 X.2.1 dX12_cuts_131 (lv_at hl 0 rfl) ?_
              refine lv_iadd X.1 X.2.1 dX12_cuts_133 ?_
              refine lv_topi (fun v_197 ev_197 => ?_)
              have z_198 : v_197.toInt = (12 * (rr_190.toInt + i4_37_z)) + i5_162_z := z_add ev_197 z_196 hz_i5_162 (by omega) (by omega)
              refine r_iald X hw h_182 rfl (by rw [h_183]; exact z_ix z_198 (by omega) (by omega)) dX12_cuts_134 ?_
              refine lv_topi (fun v_199 ev_199 => ?_)
              have z_200 := gE_934 hO_T_163.1 h_182 (Int32.toNatClampNeg (v_197)); rw [← ev_199] at z_200
              have ev_199 := ev_199.symm
              have zf_201 : zA T_163 x 1236 (((12 * (rr_190.toInt + i4_37_z)) + i5_162_z)).toNat = v_199.toInt := (zA_of h_181 z_198 (by omega) ev_199)
              have dk_202 : dOK T_163 x v_199.toInt := dOK_6 mk_169 (j := ((12 * (rr_190.toInt + i4_37_z)) + i5_162_z)) (by omega) (by omega) zf_201
              refine r_iast X hw h_182 rfl (by rw [h_183]; exact z_ix z_189 (by omega) (by omega)) dX12_cuts_135 (fun H locs hw => ?_)
              obtain ⟨S_203, eS_203⟩ : ∃ T, T = sA T_163 q_180 (upd (pA T_163 q_180) (Int32.toNatClampNeg (v_188)) (v_199)) := ⟨_, rfl⟩
              rw [← eS_203] at hw
              have hO_204 : Ok MCU S S_203 := hO_T_163.sA eS_203 h_182 (by decide +kernel) (uA_934 hO_T_163.1 h_182 (by omega) (by omega))
              have h_205 : pA S_203 q_180 (Int32.toNatClampNeg (v_188)) = v_199 := tA_sAs eS_203
              have t_206 : pR S_203 1236 x = some q_180 := tR_sA eS_203 h_181
              have t_208 : pR T_163 1236 x = some q_180 := by have h := t_206; rw [eS_203, pR_sA] at h; exact h
              have zs_207 : ∀ j, zA S_203 x 1236 j = if j = (((12 * (v_29.toInt + i4_37_z)) + i5_162_z)).toNat then v_199.toInt else zA T_163 x 1236 j := by have h := zA_sAs eS_203 t_208 rfl; rw [z_nc z_189 (by omega)] at h; exact h
              have mi_209 : MIe S_203 x (-1) := drawn_MI hO_T_163.1 ha_x_L_164 (show Fr [10934] T_163 S_203 by rw [eS_203]; exact Fr_sA h_182 List.mem_cons_self) mk_169 zs_207 dk_202
              clear zs_207
              obtain ⟨x_210, ex_210⟩ : ∃ y : Int32, y = i5_162 + 1 := ⟨_, rfl⟩
              have z_211 : x_210.toInt = i5_162_z + 1 := z_add ex_210 hz_i5_162 ti_1 (by omega) (by omega)
              refine lv_iinc (v := x_210) (lv' := [(5, .int (x_210)), (4, .int (i4_37)), (3, .int (v_29)), (2, .int (v_8)), (0, .ref x), (1, .int (a1))]) X.1 X.2.1 dX12_cuts_136 hl (k := 0) rfl (by rw [ex_210]; rfl) (by decide) rfl (fun ls hl => ?_)
              refine lv_goto (tgt := 95) X.1 X.2.1 dX12_cuts_139 (by decide) ?_
              have t_212 : At S_203 x 12 := tAt_sA eS_203 ha_x_L_164
              have zc_213 : zA S_203 x 1237 = zA S_14 x 1237 := (zA_sAn eS_203 (ex3 (gQ_12_1237 hO_T_163.1 ha_x_L_164)) h_182 rfl).trans zk_166
              have zc_214 : zA S_203 x 1239 = zA S x 1239 := (zA_sAn eS_203 (ex3 (gQ_12_1239 hO_T_163.1 ha_x_L_164)) h_182 rfl).trans zk_168
              have t_215 : pI S_203 1238 x = v_1 := tI_sA eS_203 ik_171
              exact ih_L_161 _ (by omega) _ _ _ _ (x_210) (x_210.toInt) rfl hw rfl (by omega) t_212 hO_204 zc_213 zc_214 mi_209 t_215 (lv_sub hl [0, 1, 2, 3, 4, 5] rfl)
          have t_216 : At S_158 x 12 := tAt_sA eS_158 ha_x_L_39
          have mi_217 : MIe S_158 x (-1) := MIe_sA mk_42 hO_T_38.1 ha_x_L_39 h_147 eS_158 (by decide +kernel)
          exact L_161 _ _ _ _ _ (0) (0) rfl hw ti_0 (by omega) t_216 hO_159 zc_165 zc_167 mi_217 t_170 (lv_sub hl [0, 1, 2, 3, 4, 5] rfl)
      exact L_36 _ _ _ _ _ (0) (0) rfl hw ti_0 (by omega) t_20 hO_15 (Eq.refl _) zc_35 mi_34 t_21 (lv_sub hl [0, 1, 2, 3, 4] rfl)
    · have z_b_218 := trivial
      have k_219 : v_1.toInt = 40 := z_eq rfl ti_40 c_22
      refine lv_aload_n X.1 X.2.1 dX12_cuts_29 rfl (lv_at hl 1 rfl) ?_
      refine lv_dup X.1 X.2.1 dX12_cuts_30 rfl ?_
      obtain ⟨v_220, ev_220⟩ : ∃ v, pI S_14 1246 x = v := ⟨_, rfl⟩
      have rg_222 := And.intro (z_lo v_220) (z_hi v_220)
      refine r_getI (g := 1246) (x := v_220) X hw t_20 rfl 46 ev_220 (by decide) rfl inn_X12_cuts_12 (by decide) (X.2.2.2.1 (.fieldLink RX12 293 "SilkMillModel" "waste" "I") (by decide +kernel)) rfl (gv_1246 _ _) dX12_cuts_31 ?_
      refine lv_aload_n X.1 X.2.1 dX12_cuts_34 rfl (lv_at hl 1 rfl) ?_
      refine lv_aload_n X.1 X.2.1 dX12_cuts_35 rfl (lv_at hl 1 rfl) ?_
      refine lv_iload_n X.1 X.2.1 dX12_cuts_36 rfl (lv_at hl 2 rfl) ?_
      refine k_i (rm := { frames := 1, cells := 0, slots := 0, locals := 48 }) (av := [.ref x, .int (a1)]) X hw (va_runV (As := [.int (a1)]) (rest := [.ref x, .int (v_220), .ref x]) (cfix X) (k_X12_growing l G cy κ S_14 _ x (a1) (a1_z) hO_15.1 t_20 hz_a1 (by first | assumption | omega) (by first | assumption | omega)) (cwV 1 X.2.2.2.1 gX12_cuts_X12_growing rfl rfl rfl (by decide +kernel) ⟨Nat.le_of_ble_eq_true rfl, Nat.le_of_ble_eq_true rfl⟩) (pre_V X hw _ t_20 rfl (by decide) rfl) rfl rfl hl.1 rfl (lv_room (Nat.le_of_ble_eq_true rfl)) dX12_cuts_37 ⟨Nat.le_of_ble_eq_true rfl, Nat.le_of_ble_eq_true rfl⟩) 0 0 (Nat.le_of_ble_eq_true rfl) (Nat.le_of_ble_eq_true rfl) (fun rr_223 S_224 H locs hp hw hfr hnw => ?_)
      obtain ⟨e2, hp⟩ := hp
      subst e2
      have f_225 := hp
      refine lv_iload_n X.1 X.2.1 dX12_cuts_40 rfl (lv_at hl 0 rfl) ?_
      have mi_226 : MIe S_14 x (-1) := MIe_37 hp_2 hO.1 ha_x h_6 eS_14
      refine k_i (rm := { frames := 5, cells := 0, slots := 0, locals := 240 }) (av := [.ref x, .int (rr_223), .int (v_8)]) X hw (va_runV (As := [.int (rr_223), .int (v_8)]) (rest := [.int (v_220), .ref x]) (cfix X) (k_X12_weight l G cy κ S_14 _ x (rr_223) (rr_223.toInt) (v_8) (v_8.toInt) hO_15.1 t_20 rfl rfl (by first | assumption | omega) (by first | assumption | omega) (by first | assumption | omega) mi_226) (cwV 2 X.2.2.2.1 gX12_cuts_X12_weight rfl rfl rfl (by decide +kernel) ⟨Nat.le_of_ble_eq_true rfl, Nat.le_of_ble_eq_true rfl⟩) (pre_V X hw _ t_20 rfl (by decide) rfl) rfl rfl hl.1 rfl (lv_room (Nat.le_of_ble_eq_true rfl)) dX12_cuts_41 ⟨Nat.le_of_ble_eq_true rfl, Nat.le_of_ble_eq_true rfl⟩) 0 0 (Nat.le_of_ble_eq_true rfl) (Nat.le_of_ble_eq_true rfl) (fun rr_227 S_228 H locs hp hw hfr hnw => ?_)
      obtain ⟨e2, hp⟩ := hp
      subst e2
      have rg_229 := And.intro (z_lo rr_227) (z_hi rr_227)
      refine lv_iadd X.1 X.2.1 dX12_cuts_44 ?_
      refine lv_topi (fun v_230 ev_230 => ?_)
      have rg_231 := And.intro (z_lo v_230) (z_hi v_230)
      refine r_putI (v := v_230) X hw t_20 rfl 46 1246 tyX12 (by decide) rfl inn_X12_cuts_12 tyX12_ok nmX12 (by decide) (X.2.2.2.1 (.fieldLink RX12 293 "SilkMillModel" "waste" "I") (by decide +kernel)) rfl (Or.inl rfl) rfl rfl (Nat.le_of_ble_eq_true rfl) (st_1246 _ _) dX12_cuts_45 (fun H locs hw => ?_)
      obtain ⟨S_232, eS_232⟩ : ∃ T, T = sI S_14 1246 x (v_230) := ⟨_, rfl⟩
      rw [← eS_232] at hw
      have hO_233 : Ok MCU S S_232 := hO_15.sI eS_232 (by decide +kernel) (uI_12_1246 hO_15.1 t_20)
      have h_234 : pI S_232 1246 x = v_230 := tI_sIs eS_232
      refine lv_bipush (v := (-2)) X.1 X.2.1 dX12_cuts_48 (by decide) ?_
      have mi_235 : MIe S_232 x (-1) := MIe_sI mi_226 hO_15.1 t_20 eS_232 (by decide +kernel)
      have zc_236 : zA S_232 x 1237 = zA S_14 x 1237 := zA_sI eS_232
      have zs_237 : ∀ j, zA S_232 x 1237 j = if j = (a1_z).toNat then 0 else zA S x 1237 j := fun j => by rw [zc_236]; exact zs_18 j
      rw [hQQ]
      exact ret_i X hw hr hlocks (Nat.le_of_ble_eq_true rfl) (Nat.le_of_ble_eq_true rfl) ⟨hO_233, ⟨mi_235, zs_237⟩⟩ dX12_cuts_50
  · have z_b_238 := trivial
    have k_239 : v_8.toInt = 0 := z_eq rfl ti_0 c_11
    refine lv_iconst (v := (-1)) X.1 X.2.1 dX12_cuts_11 (by decide) ?_
    rw [hQQ]
    exact ret_i X hw hr hlocks (Nat.le_of_ble_eq_true rfl) (Nat.le_of_ble_eq_true rfl) ⟨hO, ⟨hp_2, cut0 (by omega)⟩⟩ dX12_cuts_12
set_option maxHeartbeats 4000000 in
set_option maxRecDepth 100000 in
theorem k_X12_cut (l : Launch) (G : va_G) (cy : Nat → ClassId) (κ : Nat → Nat) (S : PS) (sz : Nat) (x : Nat) (a1 : Int32) (a1_z : Int) (hG : GX S) (ha_x : At S x 12) (hz_a1 : a1.toInt = a1_z) (hp_0 : MI S x) (hp_1 : GR S x) : Ci l yX12_cut wsX12_cut ({ frames := 7, cells := 0, slots := 0, locals := 336 }) G cy κ S sz [.ref x, .int (a1)] (fun (r : Int32) (S9 : PS) => Ok MCU S S9 ∧ (MI S9 x ∧ GR S9 x)) := by
  refine ent_m (cc := cX12_cut) (maxL := 2) (ret := (some .int)) (by decide) rfl (Nat.le_of_ble_eq_true rfl) ?_
  intro p e s m below meth c ls X hr hlocks hin hw hl hsz
  subst hsz
  have X : Cx p c cX12_cut 2 s [.ref x, .int (a1)].toArray wsX12_cut RX12 m G cy κ (AS S s.heap.size) := X
  have hl : lv_has ls 2 [(0, .ref x), (1, .int (a1))] := hl
  have rg_a1 : (-2147483648) ≤ a1_z ∧ a1_z ≤ 2147483647 := by rw [← hz_a1]; exact ⟨z_lo _, z_hi _⟩
  have hO : Ok MCU S S := Ok.rf hG
  refine lv_aload_n X.1 X.2.1 dX12_cut_0 rfl (lv_at hl 0 rfl) ?_
  refine lv_iconst (v := 0) X.1 X.2.1 dX12_cut_1 (by decide) ?_
  refine r_putI (v := 0) X hw ha_x rfl 0 1200 tyX12 (by decide) rfl inn_X12_cut_12 tyX12_ok nmX12 (by decide) (X.2.2.2.1 (.fieldLink RX12 161 "SilkMillModel" "thrown" "I") (by decide +kernel)) rfl (Or.inl rfl) rfl rfl (Nat.le_of_ble_eq_true rfl) (st_1200 _ _) dX12_cut_2 (fun H locs hw => ?_)
  obtain ⟨S_1, eS_1⟩ : ∃ T, T = sI S 1200 x (0) := ⟨_, rfl⟩
  rw [← eS_1] at hw
  have hO_2 : Ok MCU S S_1 := hO.sI eS_1 (by decide +kernel) (uI_12_1200 hO.1 ha_x)
  have h_3 : pI S_1 1200 x = 0 := tI_sIs eS_1
  refine lv_aload_n X.1 X.2.1 dX12_cut_5 rfl (lv_at hl 0 rfl) ?_
  refine lv_iload_n X.1 X.2.1 dX12_cut_6 rfl (lv_at hl 1 rfl) ?_
  have t_4 : At S_1 x 12 := tAt_sI eS_1 ha_x
  refine k_i (rm := { frames := 2, cells := 0, slots := 0, locals := 96 }) (av := [.ref x, .int (a1)]) X hw (va_runV (As := [.int (a1)]) (rest := []) (cfix X) (k_X12_isPot l G cy κ S_1 _ x (a1) (a1_z) hO_2.1 t_4 hz_a1) (cwV 1 X.2.2.2.1 gX12_cut_X12_isPot rfl rfl rfl (by decide +kernel) ⟨Nat.le_of_ble_eq_true rfl, Nat.le_of_ble_eq_true rfl⟩) (pre_V X hw _ t_4 rfl (by decide) rfl) rfl rfl hl.1 rfl (lv_room (Nat.le_of_ble_eq_true rfl)) dX12_cut_7 ⟨Nat.le_of_ble_eq_true rfl, Nat.le_of_ble_eq_true rfl⟩) 0 0 (Nat.le_of_ble_eq_true rfl) (Nat.le_of_ble_eq_true rfl) (fun rr_5 S_6 H locs hp hw hfr hnw => ?_)
  obtain ⟨e2, hp⟩ := hp
  subst e2
  rcases hp with ⟨f_7, er_8⟩ | ⟨f_7, er_8⟩ <;> subst er_8
  · have z_b_9 := trivial
    refine lv_if_eq (tgt := 21) X.1 X.2.1 dX12_cut_10 (by decide) (fun c_10 => absurd c_10 (by decide)) (fun c_10 => ?_)
    refine lv_aload_n X.1 X.2.1 dX12_cut_13 rfl (lv_at hl 0 rfl) ?_
    refine lv_iload_n X.1 X.2.1 dX12_cut_14 rfl (lv_at hl 1 rfl) ?_
    have mi_11 : MIe S_1 x (-1) := MIe_sI hp_0 hO.1 ha_x eS_1 (by decide +kernel)
    refine k_i (rm := { frames := 6, cells := 0, slots := 0, locals := 288 }) (av := [.ref x, .int (a1)]) X hw (va_runV (As := [.int (a1)]) (rest := []) (cfix X) (k_X12_cuts l G cy κ S_1 _ x (a1) (a1_z) hO_2.1 t_4 hz_a1 (by first | assumption | omega) (by first | assumption | omega) mi_11) (cwV 1 X.2.2.2.1 gX12_cut_X12_cuts rfl rfl rfl (by decide +kernel) ⟨Nat.le_of_ble_eq_true rfl, Nat.le_of_ble_eq_true rfl⟩) (pre_V X hw _ t_4 rfl (by decide) rfl) rfl rfl hl.1 rfl (lv_room (Nat.le_of_ble_eq_true rfl)) dX12_cut_15 ⟨Nat.le_of_ble_eq_true rfl, Nat.le_of_ble_eq_true rfl⟩) 0 0 (Nat.le_of_ble_eq_true rfl) (Nat.le_of_ble_eq_true rfl) (fun rr_12 S_13 H locs hp hw hfr hnw => ?_)
    obtain ⟨hk_14, hp⟩ := hp
    have hO_15 : Ok MCU S S_13 := hO_2.call hk_14 (by decide +kernel)
    obtain ⟨mi_16, cu_17⟩ := hp
    have rg_18 := And.intro (z_lo rr_12) (z_hi rr_12)
    have zc_19 : zA S_1 x 1237 = zA S x 1237 := zA_sI eS_1
    have gr_20 : GR S_13 x := GR_set cu_17 (by omega) (GR_eq zc_19 hp_1)
    refine lv_goto (tgt := 22) X.1 X.2.1 dX12_cut_18 (by decide) ?_
    have zc_21 : zA S_1 x 1237 = zA S x 1237 := zA_sI eS_1
    exact ret_i X hw hr hlocks (Nat.le_of_ble_eq_true rfl) (Nat.le_of_ble_eq_true rfl) ⟨hO_15, ⟨mi_16, gr_20⟩⟩ dX12_cut_22
  · have z_b_22 := trivial
    refine lv_if_eq (tgt := 21) X.1 X.2.1 dX12_cut_10 (by decide) (fun c_23 => ?_) (fun c_23 => absurd c_23 (by decide))
    refine lv_iconst (v := (-1)) X.1 X.2.1 dX12_cut_21 (by decide) ?_
    have zc_24 : zA S_1 x 1237 = zA S x 1237 := zA_sI eS_1
    have mi_25 : MIe S_1 x (-1) := MIe_sI hp_0 hO.1 ha_x eS_1 (by decide +kernel)
    exact ret_i X hw hr hlocks (Nat.le_of_ble_eq_true rfl) (Nat.le_of_ble_eq_true rfl) ⟨hO_2, ⟨mi_25, (GR_eq zc_24 hp_1)⟩⟩ dX12_cut_22
