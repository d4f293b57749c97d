def MAC : List Nat := [1200, 1229, 1230, 1231, 1232, 1233, 1234, 1246, 1247, 1249, 1250, 1251, 1262, 10254, 10294, 10334, 10414, 10454, 10474, 10494, 10514, 10534, 10554, 10614, 10634, 10654, 10674, 10694, 10714, 10734, 10753, 10914, 11014, 11034, 11054, 11074, 11095, 11174, 11254, 11334, 11354, 11374, 11394, 11414, 11435, 11474, 11494, 11514, 1238, 10354, 10394, 10574, 10594, 10934, 10954, 10994]
def MTK : List Nat := [1200, 1229, 1230, 1231, 1232, 1233, 1234, 1246, 1247, 1249, 1250, 1251, 1262, 10254, 10294, 10334, 10414, 10454, 10474, 10494, 10514, 10534, 10554, 10614, 10634, 10654, 10674, 10694, 10714, 10734, 10753, 10914, 11014, 11034, 11054, 11074, 11095, 11174, 11254, 11334, 11354, 11374, 11394, 11414, 11435, 11474, 11494, 11514, 1238, 10354, 10394, 10574, 10594, 10934, 10954, 10994, 10374]
set_option maxRecDepth 20000 in
theorem ggX12_acts_X12_many : GoodIn wsX12_acts wsX12_many := goodIn_r _ [10, 11, 79, 80, 81, 82, 83, 84, 85, 86, 87, 88, 89, 90, 91, 92, 93, 94, 95, 96, 97, 98, 99, 100, 101, 102, 103, 104, 105, 106, 107, 108, 109, 110, 111, 112, 113, 114, 115, 116, 117, 118, 119, 120, 121, 122, 123, 124, 125, 126, 127, 128, 129, 130, 131, 132, 133, 134, 135, 136, 137, 138, 139, 140, 141, 142, 143, 144] (by decide +kernel) (by decide +kernel)
set_option maxRecDepth 20000 in
theorem gX12_acts_X12_many : GoodIn wsX12_acts (wsV RX12 204 RX12 yX12_many wsX12_many) := goodIn_app (goodIn_of _ (by decide +kernel)) ggX12_acts_X12_many
set_option maxRecDepth 20000 in
theorem ggX12_acts_X12_goes : GoodIn wsX12_acts wsX12_goes := goodIn_r _ [15, 16, 11, 79, 80, 81, 82, 83, 84, 85, 86, 87, 88, 89, 90, 91, 92, 93, 94, 95, 96, 97, 98, 99, 100, 101, 102, 103, 104, 105, 106, 107, 108, 109, 110, 111, 112, 113, 114, 115, 116, 117, 118, 119, 120, 121, 122, 123, 124, 125, 126, 127, 128, 129, 130, 131, 132, 133, 134, 135, 136, 137, 138, 139, 140, 141, 142, 143, 144] (by decide +kernel) (by decide +kernel)
set_option maxRecDepth 20000 in
theorem gX12_acts_X12_goes : GoodIn wsX12_acts (wsV RX12 320 RX12 yX12_goes wsX12_goes) := goodIn_app (goodIn_of _ (by decide +kernel)) ggX12_acts_X12_goes
set_option maxRecDepth 20000 in
theorem ggX12_acts_X12_comes : GoodIn wsX12_acts wsX12_comes := goodIn_r _ [20, 11, 16, 4, 21, 79, 80, 81, 82, 83, 84, 85, 86, 87, 88, 89, 90, 91, 92, 93, 94, 95, 96, 97, 98, 99, 100, 101, 102, 103, 104, 105, 106, 107, 108, 109, 110, 111, 112, 113, 114, 115, 116, 117, 118, 119, 120, 121, 122, 123, 124, 125, 126, 127, 128, 129, 130, 131, 132, 133, 134, 135, 136, 137, 138, 139, 140, 141, 142, 143, 144] (by decide +kernel) (by decide +kernel)
set_option maxRecDepth 20000 in
theorem gX12_acts_X12_comes : GoodIn wsX12_acts (wsV RX12 207 RX12 yX12_comes wsX12_comes) := goodIn_app (goodIn_of _ (by decide +kernel)) ggX12_acts_X12_comes
set_option maxRecDepth 20000 in
theorem ggX12_acts_X12_thinnest : GoodIn wsX12_acts wsX12_thinnest := goodIn_r _ [25, 26, 6, 7, 8, 9, 10, 11, 27, 28, 29, 30, 16, 31, 32, 33, 34, 35, 36, 37, 38, 39, 40, 41, 42, 43, 44, 45, 46, 47, 48, 49, 79, 80, 81, 82, 83, 84, 85, 86, 87, 88, 89, 90, 91, 92, 93, 94, 95, 96, 97, 98, 99, 100, 101, 102, 103, 104, 105, 106, 107, 108, 109, 110, 111, 112, 113, 114, 115, 116, 117, 118, 119, 120, 121, 122, 123, 124, 125, 126, 127, 128, 129, 130, 131, 132, 133, 134, 135, 136, 137, 138, 139, 140, 141, 142, 143, 144] (by decide +kernel) (by decide +kernel)
set_option maxRecDepth 20000 in
theorem gX12_acts_X12_thinnest : GoodIn wsX12_acts (wsV RX12 314 RX12 yX12_thinnest wsX12_thinnest) := goodIn_app (goodIn_of _ (by decide +kernel)) ggX12_acts_X12_thinnest
set_option maxRecDepth 20000 in
theorem ggX12_acts_X12_cuts : GoodIn wsX12_acts wsX12_cuts := goodIn_r _ [53, 54, 55, 56, 57, 58, 59, 60, 61, 62, 63, 64, 65, 66, 67, 68, 69, 9, 70, 71, 72, 73, 74, 75, 76, 77, 78, 31, 32, 33, 34, 35, 36, 37, 38, 39, 40, 41, 42, 43, 44, 45, 46, 47, 48, 49, 79, 80, 81, 82, 83, 84, 85, 86, 87, 88, 89, 90, 91, 92, 93, 94, 95, 96, 97, 98, 99, 100, 101, 102, 103, 104, 105, 106, 107, 108, 109, 110, 111, 112, 113, 114, 115, 116, 117, 118, 119, 120, 121, 122, 123, 124, 125, 126, 127, 128, 129, 130, 131, 132, 133, 134, 135, 136, 137, 138, 139, 140, 141, 142, 143, 144] (by decide +kernel) (by decide +kernel)
set_option maxRecDepth 20000 in
theorem gX12_acts_X12_cuts : GoodIn wsX12_acts (wsV RX12 305 RX12 yX12_cuts wsX12_cuts) := goodIn_app (goodIn_of _ (by decide +kernel)) ggX12_acts_X12_cuts
theorem dX12_acts_0 : decode cX12_acts 0 = .ok (.aload_n 0, 1) := by decide +kernel
theorem dX12_acts_1 : decode cX12_acts 1 = .ok (.getfield 64, 3) := by decide +kernel
theorem dX12_acts_4 : decode cX12_acts 4 = .ok (.iload_n 2, 1) := by decide +kernel
theorem dX12_acts_5 : decode cX12_acts 5 = .ok (.iaload, 1) := by decide +kernel
theorem dX12_acts_6 : decode cX12_acts 6 = .ok (.tableswitch 196 0 4 #[34, 74, 102, 158, 189], 34) := by decide +kernel
theorem dX12_acts_40 : decode cX12_acts 40 = .ok (.aload_n 0, 1) := by decide +kernel
theorem dX12_acts_41 : decode cX12_acts 41 = .ok (.iload_n 1, 1) := by decide +kernel
theorem dX12_acts_42 : decode cX12_acts 42 = .ok (.iconst 0, 1) := by decide +kernel
theorem dX12_acts_43 : decode cX12_acts 43 = .ok (.invokevirtual 204, 3) := by decide +kernel
theorem dX12_acts_46 : decode cX12_acts 46 = .ok (.ifCond .le 33, 3) := by decide +kernel
theorem dX12_acts_49 : decode cX12_acts 49 = .ok (.aload_n 0, 1) := by decide +kernel
theorem dX12_acts_50 : decode cX12_acts 50 = .ok (.iload_n 1, 1) := by decide +kernel
theorem dX12_acts_51 : decode cX12_acts 51 = .ok (.iconst 1, 1) := by decide +kernel
theorem dX12_acts_52 : decode cX12_acts 52 = .ok (.invokevirtual 204, 3) := by decide +kernel
theorem dX12_acts_55 : decode cX12_acts 55 = .ok (.bipush 12, 2) := by decide +kernel
theorem dX12_acts_57 : decode cX12_acts 57 = .ok (.if_icmp .ge 22, 3) := by decide +kernel
theorem dX12_acts_60 : decode cX12_acts 60 = .ok (.aload_n 0, 1) := by decide +kernel
theorem dX12_acts_61 : decode cX12_acts 61 = .ok (.iload_n 1, 1) := by decide +kernel
theorem dX12_acts_62 : decode cX12_acts 62 = .ok (.iconst 1, 1) := by decide +kernel
theorem dX12_acts_63 : decode cX12_acts 63 = .ok (.aload_n 0, 1) := by decide +kernel
theorem dX12_acts_64 : decode cX12_acts 64 = .ok (.iload_n 1, 1) := by decide +kernel
theorem dX12_acts_65 : decode cX12_acts 65 = .ok (.iconst 0, 1) := by decide +kernel
theorem dX12_acts_66 : decode cX12_acts 66 = .ok (.iconst 0, 1) := by decide +kernel
theorem dX12_acts_67 : decode cX12_acts 67 = .ok (.invokevirtual 320, 3) := by decide +kernel
theorem dX12_acts_70 : decode cX12_acts 70 = .ok (.aload_n 0, 1) := by decide +kernel
theorem dX12_acts_71 : decode cX12_acts 71 = .ok (.iload_n 1, 1) := by decide +kernel
theorem dX12_acts_72 : decode cX12_acts 72 = .ok (.iconst 1, 1) := by decide +kernel
theorem dX12_acts_73 : decode cX12_acts 73 = .ok (.invokevirtual 204, 3) := by decide +kernel
theorem dX12_acts_76 : decode cX12_acts 76 = .ok (.invokevirtual 207, 3) := by decide +kernel
theorem dX12_acts_79 : decode cX12_acts 79 = .ok (.return_, 1) := by decide +kernel
theorem dX12_acts_80 : decode cX12_acts 80 = .ok (.aload_n 0, 1) := by decide +kernel
theorem dX12_acts_81 : decode cX12_acts 81 = .ok (.iload_n 1, 1) := by decide +kernel
theorem dX12_acts_82 : decode cX12_acts 82 = .ok (.iconst 1, 1) := by decide +kernel
theorem dX12_acts_83 : decode cX12_acts 83 = .ok (.invokevirtual 204, 3) := by decide +kernel
theorem dX12_acts_86 : decode cX12_acts 86 = .ok (.ifCond .le 21, 3) := by decide +kernel
theorem dX12_acts_89 : decode cX12_acts 89 = .ok (.aload_n 0, 1) := by decide +kernel
theorem dX12_acts_90 : decode cX12_acts 90 = .ok (.iload_n 1, 1) := by decide +kernel
theorem dX12_acts_91 : decode cX12_acts 91 = .ok (.iconst 0, 1) := by decide +kernel
theorem dX12_acts_92 : decode cX12_acts 92 = .ok (.aload_n 0, 1) := by decide +kernel
theorem dX12_acts_93 : decode cX12_acts 93 = .ok (.iload_n 1, 1) := by decide +kernel
theorem dX12_acts_94 : decode cX12_acts 94 = .ok (.iconst 1, 1) := by decide +kernel
theorem dX12_acts_95 : decode cX12_acts 95 = .ok (.aload_n 0, 1) := by decide +kernel
theorem dX12_acts_96 : decode cX12_acts 96 = .ok (.iload_n 1, 1) := by decide +kernel
theorem dX12_acts_97 : decode cX12_acts 97 = .ok (.invokevirtual 314, 3) := by decide +kernel
theorem dX12_acts_100 : decode cX12_acts 100 = .ok (.invokevirtual 320, 3) := by decide +kernel
theorem dX12_acts_103 : decode cX12_acts 103 = .ok (.iconst 0, 1) := by decide +kernel
theorem dX12_acts_104 : decode cX12_acts 104 = .ok (.invokevirtual 207, 3) := by decide +kernel
theorem dX12_acts_107 : decode cX12_acts 107 = .ok (.return_, 1) := by decide +kernel
theorem dX12_acts_108 : decode cX12_acts 108 = .ok (.aload_n 0, 1) := by decide +kernel
theorem dX12_acts_109 : decode cX12_acts 109 = .ok (.iload_n 1, 1) := by decide +kernel
theorem dX12_acts_110 : decode cX12_acts 110 = .ok (.iconst 2, 1) := by decide +kernel
theorem dX12_acts_111 : decode cX12_acts 111 = .ok (.invokevirtual 204, 3) := by decide +kernel
theorem dX12_acts_114 : decode cX12_acts 114 = .ok (.ifCond .ne 4, 3) := by decide +kernel
theorem dX12_acts_117 : decode cX12_acts 117 = .ok (.return_, 1) := by decide +kernel
theorem dX12_acts_118 : decode cX12_acts 118 = .ok (.aload_n 0, 1) := by decide +kernel
theorem dX12_acts_119 : decode cX12_acts 119 = .ok (.iload_n 1, 1) := by decide +kernel
theorem dX12_acts_120 : decode cX12_acts 120 = .ok (.iconst 0, 1) := by decide +kernel
theorem dX12_acts_121 : decode cX12_acts 121 = .ok (.aload_n 0, 1) := by decide +kernel
theorem dX12_acts_122 : decode cX12_acts 122 = .ok (.iload_n 1, 1) := by decide +kernel
theorem dX12_acts_123 : decode cX12_acts 123 = .ok (.iconst 2, 1) := by decide +kernel
theorem dX12_acts_124 : decode cX12_acts 124 = .ok (.iconst 0, 1) := by decide +kernel
theorem dX12_acts_125 : decode cX12_acts 125 = .ok (.invokevirtual 320, 3) := by decide +kernel
theorem dX12_acts_128 : decode cX12_acts 128 = .ok (.aload_n 0, 1) := by decide +kernel
theorem dX12_acts_129 : decode cX12_acts 129 = .ok (.iload_n 1, 1) := by decide +kernel
theorem dX12_acts_130 : decode cX12_acts 130 = .ok (.iconst 0, 1) := by decide +kernel
theorem dX12_acts_131 : decode cX12_acts 131 = .ok (.invokevirtual 204, 3) := by decide +kernel
theorem dX12_acts_134 : decode cX12_acts 134 = .ok (.invokevirtual 207, 3) := by decide +kernel
theorem dX12_acts_137 : decode cX12_acts 137 = .ok (.aload_n 0, 1) := by decide +kernel
theorem dX12_acts_138 : decode cX12_acts 138 = .ok (.iload_n 1, 1) := by decide +kernel
theorem dX12_acts_139 : decode cX12_acts 139 = .ok (.iconst 2, 1) := by decide +kernel
theorem dX12_acts_140 : decode cX12_acts 140 = .ok (.invokevirtual 204, 3) := by decide +kernel
theorem dX12_acts_143 : decode cX12_acts 143 = .ok (.ifCond .ne 10, 3) := by decide +kernel
theorem dX12_acts_146 : decode cX12_acts 146 = .ok (.aload_n 0, 1) := by decide +kernel
theorem dX12_acts_147 : decode cX12_acts 147 = .ok (.getfield 43, 3) := by decide +kernel
theorem dX12_acts_150 : decode cX12_acts 150 = .ok (.iload_n 1, 1) := by decide +kernel
theorem dX12_acts_151 : decode cX12_acts 151 = .ok (.iconst 0, 1) := by decide +kernel
theorem dX12_acts_152 : decode cX12_acts 152 = .ok (.iastore, 1) := by decide +kernel
theorem dX12_acts_153 : decode cX12_acts 153 = .ok (.aload_n 0, 1) := by decide +kernel
theorem dX12_acts_154 : decode cX12_acts 154 = .ok (.getfield 46, 3) := by decide +kernel
theorem dX12_acts_157 : decode cX12_acts 157 = .ok (.iload_n 1, 1) := by decide +kernel
theorem dX12_acts_158 : decode cX12_acts 158 = .ok (.dup2, 1) := by decide +kernel
theorem dX12_acts_159 : decode cX12_acts 159 = .ok (.iaload, 1) := by decide +kernel
theorem dX12_acts_160 : decode cX12_acts 160 = .ok (.iconst 2, 1) := by decide +kernel
theorem dX12_acts_161 : decode cX12_acts 161 = .ok (.iadd, 1) := by decide +kernel
theorem dX12_acts_162 : decode cX12_acts 162 = .ok (.iastore, 1) := by decide +kernel
theorem dX12_acts_163 : decode cX12_acts 163 = .ok (.return_, 1) := by decide +kernel
theorem dX12_acts_164 : decode cX12_acts 164 = .ok (.aload_n 0, 1) := by decide +kernel
theorem dX12_acts_165 : decode cX12_acts 165 = .ok (.iload_n 1, 1) := by decide +kernel
theorem dX12_acts_166 : decode cX12_acts 166 = .ok (.iconst 0, 1) := by decide +kernel
theorem dX12_acts_167 : decode cX12_acts 167 = .ok (.invokevirtual 204, 3) := by decide +kernel
theorem dX12_acts_170 : decode cX12_acts 170 = .ok (.ifCond .le 24, 3) := by decide +kernel
theorem dX12_acts_173 : decode cX12_acts 173 = .ok (.aload_n 0, 1) := by decide +kernel
theorem dX12_acts_174 : decode cX12_acts 174 = .ok (.getfield 25, 3) := by decide +kernel
theorem dX12_acts_177 : decode cX12_acts 177 = .ok (.aload_n 0, 1) := by decide +kernel
theorem dX12_acts_178 : decode cX12_acts 178 = .ok (.iload_n 1, 1) := by decide +kernel
theorem dX12_acts_179 : decode cX12_acts 179 = .ok (.iconst 0, 1) := by decide +kernel
theorem dX12_acts_180 : decode cX12_acts 180 = .ok (.aload_n 0, 1) := by decide +kernel
theorem dX12_acts_181 : decode cX12_acts 181 = .ok (.iload_n 1, 1) := by decide +kernel
theorem dX12_acts_182 : decode cX12_acts 182 = .ok (.iconst 0, 1) := by decide +kernel
theorem dX12_acts_183 : decode cX12_acts 183 = .ok (.invokevirtual 204, 3) := by decide +kernel
theorem dX12_acts_186 : decode cX12_acts 186 = .ok (.iconst 1, 1) := by decide +kernel
theorem dX12_acts_187 : decode cX12_acts 187 = .ok (.isub, 1) := by decide +kernel
theorem dX12_acts_188 : decode cX12_acts 188 = .ok (.invokevirtual 320, 3) := by decide +kernel
theorem dX12_acts_191 : decode cX12_acts 191 = .ok (.bipush 6, 2) := by decide +kernel
theorem dX12_acts_193 : decode cX12_acts 193 = .ok (.iastore, 1) := by decide +kernel
theorem dX12_acts_194 : decode cX12_acts 194 = .ok (.return_, 1) := by decide +kernel
theorem dX12_acts_195 : decode cX12_acts 195 = .ok (.aload_n 0, 1) := by decide +kernel
theorem dX12_acts_196 : decode cX12_acts 196 = .ok (.iload_n 1, 1) := by decide +kernel
theorem dX12_acts_197 : decode cX12_acts 197 = .ok (.invokevirtual 305, 3) := by decide +kernel
theorem dX12_acts_200 : decode cX12_acts 200 = .ok (.istore_n 3, 1) := by decide +kernel
theorem dX12_acts_201 : decode cX12_acts 201 = .ok (.return_, 1) := by decide +kernel
theorem dX12_acts_202 : decode cX12_acts 202 = .ok (.aload_n 0, 1) := by decide +kernel
theorem dX12_acts_203 : decode cX12_acts 203 = .ok (.getfield 46, 3) := by decide +kernel
theorem dX12_acts_206 : decode cX12_acts 206 = .ok (.iload_n 1, 1) := by decide +kernel
theorem dX12_acts_207 : decode cX12_acts 207 = .ok (.dup2, 1) := by decide +kernel
theorem dX12_acts_208 : decode cX12_acts 208 = .ok (.iaload, 1) := by decide +kernel
theorem dX12_acts_209 : decode cX12_acts 209 = .ok (.aload_n 0, 1) := by decide +kernel
theorem dX12_acts_210 : decode cX12_acts 210 = .ok (.getfield 67, 3) := by decide +kernel
theorem dX12_acts_213 : decode cX12_acts 213 = .ok (.iload_n 2, 1) := by decide +kernel
theorem dX12_acts_214 : decode cX12_acts 214 = .ok (.iaload, 1) := by decide +kernel
theorem dX12_acts_215 : decode cX12_acts 215 = .ok (.iadd, 1) := by decide +kernel
theorem dX12_acts_216 : decode cX12_acts 216 = .ok (.iastore, 1) := by decide +kernel
theorem dX12_acts_217 : decode cX12_acts 217 = .ok (.return_, 1) := by decide +kernel
theorem inn_X12_acts_12 : ∀ w ∈ u_ws RX12 TX12 66, w ∈ wsX12_acts := fun w h => List.mem_cons_of_mem _ (List.mem_append_right _ h)
set_option maxHeartbeats 4000000 in
set_option maxRecDepth 100000 in
theorem k_X12_acts (l : Launch) (G : va_G) (cy : Nat → ClassId) (κ : Nat → Nat) (S : PS) (sz : Nat) (x : Nat) (a1 : Int32) (a1_z : Int) (a2 : Int32) (a2_z : Int) (hG : GX S) (ha_x : At S x 12) (hz_a1 : a1.toInt = a1_z) (hz_a2 : a2.toInt = a2_z) (hp_0 : 0 ≤ a1_z) (hp_1 : a1_z ≤ 3) (hp_2 : 0 ≤ a2_z) (hp_3 : a2_z ≤ 59) (hp_4 : MI S x) : Cv l yX12_acts wsX12_acts ({ frames := 7, cells := 0, slots := 0, locals := 336 }) G cy κ S sz [.ref x, .int (a1), .int (a2)] (fun (S9 : PS) => Ok MAC S S9 ∧ (MI S9 x ∧ (GR S x → GR S9 x))) := by
  refine ent_m (cc := cX12_acts) (maxL := 4) (ret := none) (by decide) rfl (Nat.le_of_ble_eq_true rfl) ?_
  intro p e s m below meth c ls X hr hlocks hin hw hl hsz
  subst hsz
  have X : Cx p c cX12_acts 4 s [.ref x, .int (a1), .int (a2)].toArray wsX12_acts RX12 m G cy κ (AS S s.heap.size) := X
  have hl : lv_has ls 4 [(0, .ref x), (1, .int (a1)), (2, .int (a2))] := hl
  have rg_a1 : (-2147483648) ≤ a1_z ∧ a1_z ≤ 2147483647 := by rw [← hz_a1]; exact ⟨z_lo _, z_hi _⟩
  have rg_a2 : (-2147483648) ≤ a2_z ∧ a2_z ≤ 2147483647 := by rw [← hz_a2]; exact ⟨z_lo _, z_hi _⟩
  have hO : Ok MAC S S := Ok.rf hG
  obtain ⟨v_1, ev_1⟩ : ∃ v, pI S 1201 x = v := ⟨_, rfl⟩
  have rg_2 := gI_12_1201 hO.1 ha_x; rw [ev_1] at rg_2
  have pz_3 : (pI S 1201 x).toInt = v_1.toInt := by rw [ev_1]
  have pz_4 : (pI S 1201 x).toInt = v_1.toInt := (congrArg Int32.toInt ev_1).trans rfl
  refine lv_aload_n X.1 X.2.1 dX12_acts_0 rfl (lv_at hl 0 rfl) ?_
  obtain ⟨q_5, h_6, h_7, h_8⟩ := gQ_12_1221 hO.1 ha_x
  refine r_getR (g := 1221) X hw ha_x rfl 21 h_6 (by decide) rfl inn_X12_acts_12 (by decide) (X.2.2.2.1 (.fieldLink RX12 64 "SilkMillModel" "act" "[I") (by decide +kernel)) rfl (gv_1221 _ _) dX12_acts_1 ?_
  refine lv_iload_n X.1 X.2.1 dX12_acts_4 rfl (lv_at hl 2 rfl) ?_
  refine r_iald X hw h_7 rfl (by rw [h_8]; exact z_ix hz_a2 (by omega) (by omega)) dX12_acts_5 ?_
  refine lv_topi (fun v_9 ev_9 => ?_)
  have rg_10 := And.intro (z_lo v_9) (z_hi v_9)
  have ev_9 := ev_9.symm
  by_cases w_11 : (v_9).toInt < 0 ∨ 4 < (v_9).toInt
  · refine lv_tableOut (tgt := 202) X.1 X.2.1 dX12_acts_6 w_11 (by decide) ?_
    refine lv_aload_n X.1 X.2.1 dX12_acts_202 rfl (lv_at hl 0 rfl) ?_
    obtain ⟨q_12, h_13, h_14, h_15⟩ := gQ_12_1215 hO.1 ha_x
    refine r_getR (g := 1215) X hw ha_x rfl 15 h_13 (by decide) rfl inn_X12_acts_12 (by decide) (X.2.2.2.1 (.fieldLink RX12 46 "SilkMillModel" "stop" "[I") (by decide +kernel)) rfl (gv_1215 _ _) dX12_acts_203 ?_
    refine lv_iload_n X.1 X.2.1 dX12_acts_206 rfl (lv_at hl 1 rfl) ?_
    refine lv_dup2_11 X.1 X.2.1 dX12_acts_207 rfl rfl ?_
    refine r_iald X hw h_14 rfl (by rw [h_15]; exact z_ix hz_a1 (by omega) (by omega)) dX12_acts_208 ?_
    refine lv_topi (fun v_16 ev_16 => ?_)
    have rg_17 := And.intro (z_lo v_16) (z_hi v_16)
    have ev_16 := ev_16.symm
    refine lv_aload_n X.1 X.2.1 dX12_acts_209 rfl (lv_at hl 0 rfl) ?_
    obtain ⟨q_18, h_19, h_20, h_21⟩ := gQ_12_1222 hO.1 ha_x
    refine r_getR (g := 1222) X hw ha_x rfl 22 h_19 (by decide) rfl inn_X12_acts_12 (by decide) (X.2.2.2.1 (.fieldLink RX12 67 "SilkMillModel" "actNumber" "[I") (by decide +kernel)) rfl (gv_1222 _ _) dX12_acts_210 ?_
    refine lv_iload_n X.1 X.2.1 dX12_acts_213 rfl (lv_at hl 2 rfl) ?_
    refine r_iald X hw h_20 rfl (by rw [h_21]; exact z_ix hz_a2 (by omega) (by omega)) dX12_acts_214 ?_
    refine lv_topi (fun v_22 ev_22 => ?_)
    have rg_23 := And.intro (z_lo v_22) (z_hi v_22)
    have ev_22 := ev_22.symm
    refine lv_iadd X.1 X.2.1 dX12_acts_215 ?_
    refine lv_topi (fun v_24 ev_24 => ?_)
    have rg_25 := And.intro (z_lo v_24) (z_hi v_24)
    refine r_iast X hw h_14 rfl (by rw [h_15]; exact z_ix hz_a1 (by omega) (by omega)) dX12_acts_216 (fun H locs hw => ?_)
    obtain ⟨S_26, eS_26⟩ : ∃ T, T = sA S q_12 (upd (pA S q_12) (Int32.toNatClampNeg (a1)) (v_24)) := ⟨_, rfl⟩
    rw [← eS_26] at hw
    have hO_27 : Ok MAC S S_26 := hO.sA eS_26 h_14 (by decide +kernel) (uA_514 hO.1 h_14)
    have h_28 : pA S_26 q_12 (Int32.toNatClampNeg (a1)) = v_24 := tA_sAs eS_26
    have mi_29 : MIe S_26 x (-1) := MIe_sA hp_4 hO.1 ha_x h_14 eS_26 (by decide +kernel)
    have zc_30 : zA S_26 x 1237 = zA S x 1237 := zA_sAn eS_26 (ex3 (gQ_12_1237 hO.1 ha_x)) h_14 rfl
    exact ret_v X hw hr hlocks (Nat.le_of_ble_eq_true rfl) (Nat.le_of_ble_eq_true rfl) ⟨hO_27, ⟨mi_29, fun hgr => (GR_eq zc_30 hgr)⟩⟩ dX12_acts_217
  have w_11b : (v_9).toInt = 0 ∨ (v_9).toInt = 1 ∨ (v_9).toInt = 2 ∨ (v_9).toInt = 3 ∨ (v_9).toInt = 4 := by omega
  rcases w_11b with w_11c | w_11c | w_11c | w_11c | w_11c
  · refine lv_tableIn (tgt := 40) X.1 X.2.1 dX12_acts_6 (by omega) (by omega) (by rw [w_11c]; rfl) (by decide) ?_
    refine lv_aload_n X.1 X.2.1 dX12_acts_40 rfl (lv_at hl 0 rfl) ?_
    refine lv_iload_n X.1 X.2.1 dX12_acts_41 rfl (lv_at hl 1 rfl) ?_
    refine lv_iconst (v := 0) X.1 X.2.1 dX12_acts_42 (by decide) ?_
    refine k_i (rm := { frames := 1, cells := 0, slots := 0, locals := 48 }) (av := [.ref x, .int (a1), .int 0]) X hw (va_runV (As := [.int (a1), .int 0]) (rest := []) (cfix X) (k_X12_many2 l G cy κ S _ x (a1) (a1_z) (0) (0) hO.1 ha_x hz_a1 ti_0 (by first | assumption | omega) (by first | assumption | omega) (by first | assumption | omega) (by first | assumption | omega)) (cwV 2 X.2.2.2.1 gX12_acts_X12_many rfl rfl rfl (by decide +kernel) ⟨Nat.le_of_ble_eq_true rfl, Nat.le_of_ble_eq_true rfl⟩) (pre_V X hw _ ha_x rfl (by decide) rfl) rfl rfl hl.1 rfl (lv_room (Nat.le_of_ble_eq_true rfl)) dX12_acts_43 ⟨Nat.le_of_ble_eq_true rfl, Nat.le_of_ble_eq_true rfl⟩) 0 0 (Nat.le_of_ble_eq_true rfl) (Nat.le_of_ble_eq_true rfl) (fun rr_31 S_32 H locs hp hw hfr hnw => ?_)
    obtain ⟨e2, hp⟩ := hp
    subst e2
    obtain ⟨f_33, f_34, f_35⟩ := hp
    refine lv_if_le (tgt := 79) X.1 X.2.1 dX12_acts_46 (by decide) (fun c_36 => ?_) (fun c_36 => ?_)
    · have z_b_37 := trivial
      have k_38 : rr_31.toInt ≤ 0 := z_le rfl ti_0 c_36
      exact ret_v X hw hr hlocks (Nat.le_of_ble_eq_true rfl) (Nat.le_of_ble_eq_true rfl) ⟨hO, ⟨hp_4, fun hgr => hgr⟩⟩ dX12_acts_79
    · have z_b_39 := trivial
      have k_40 : rr_31.toInt > 0 := z_nle rfl ti_0 c_36
      refine lv_aload_n X.1 X.2.1 dX12_acts_49 rfl (lv_at hl 0 rfl) ?_
      refine lv_iload_n X.1 X.2.1 dX12_acts_50 rfl (lv_at hl 1 rfl) ?_
      refine lv_iconst (v := 1) X.1 X.2.1 dX12_acts_51 (by decide) ?_
      refine k_i (rm := { frames := 1, cells := 0, slots := 0, locals := 48 }) (av := [.ref x, .int (a1), .int 1]) X hw (va_runV (As := [.int (a1), .int 1]) (rest := []) (cfix X) (k_X12_many2 l G cy κ S _ x (a1) (a1_z) (1) (1) hO.1 ha_x hz_a1 ti_1 (by first | assumption | omega) (by first | assumption | omega) (by first | assumption | omega) (by first | assumption | omega)) (cwV 2 X.2.2.2.1 gX12_acts_X12_many rfl rfl rfl (by decide +kernel) ⟨Nat.le_of_ble_eq_true rfl, Nat.le_of_ble_eq_true rfl⟩) (pre_V X hw _ ha_x rfl (by decide) rfl) rfl rfl hl.1 rfl (lv_room (Nat.le_of_ble_eq_true rfl)) dX12_acts_52 ⟨Nat.le_of_ble_eq_true rfl, Nat.le_of_ble_eq_true rfl⟩) 0 0 (Nat.le_of_ble_eq_true rfl) (Nat.le_of_ble_eq_true rfl) (fun rr_41 S_42 H locs hp hw hfr hnw => ?_)
      obtain ⟨e2, hp⟩ := hp
      subst e2
      obtain ⟨f_43, f_44, f_45⟩ := hp
      refine lv_bipush (v := 12) X.1 X.2.1 dX12_acts_55 (by decide) ?_
      refine lv_icmp_ge (tgt := 79) X.1 X.2.1 dX12_acts_57 (by decide) (fun c_46 => ?_) (fun c_46 => ?_)
      · have z_b_47 := trivial
        have k_48 : rr_41.toInt ≥ 12 := z_le ti_12 rfl c_46
        exact ret_v X hw hr hlocks (Nat.le_of_ble_eq_true rfl) (Nat.le_of_ble_eq_true rfl) ⟨hO, ⟨hp_4, fun hgr => hgr⟩⟩ dX12_acts_79
      · have z_b_49 := trivial
        have k_50 : rr_41.toInt < 12 := z_nle ti_12 rfl c_46
        refine lv_aload_n X.1 X.2.1 dX12_acts_60 rfl (lv_at hl 0 rfl) ?_
        refine lv_iload_n X.1 X.2.1 dX12_acts_61 rfl (lv_at hl 1 rfl) ?_
        refine lv_iconst (v := 1) X.1 X.2.1 dX12_acts_62 (by decide) ?_
        refine lv_aload_n X.1 X.2.1 dX12_acts_63 rfl (lv_at hl 0 rfl) ?_
        refine lv_iload_n X.1 X.2.1 dX12_acts_64 rfl (lv_at hl 1 rfl) ?_
        refine lv_iconst (v := 0) X.1 X.2.1 dX12_acts_65 (by decide) ?_
        refine lv_iconst (v := 0) X.1 X.2.1 dX12_acts_66 (by decide) ?_
        refine k_i (rm := { frames := 1, cells := 0, slots := 0, locals := 48 }) (av := [.ref x, .int (a1), .int 0, .int 0]) X hw (va_runV (As := [.int (a1), .int 0, .int 0]) (rest := [.int 1, .int (a1), .ref x]) (cfix X) (k_X12_goes l G cy κ S _ x (a1) (a1_z) (0) (0) (0) (0) (-1) hO.1 ha_x hz_a1 ti_0 ti_0 (by first | assumption | omega) (by first | assumption | omega) (by first | assumption | omega) (by first | assumption | omega) (by first | assumption | omega) (by first | assumption | omega) hp_4) (cwV 3 X.2.2.2.1 gX12_acts_X12_goes rfl rfl rfl (by decide +kernel) ⟨Nat.le_of_ble_eq_true rfl, Nat.le_of_ble_eq_true rfl⟩) (pre_V X hw _ ha_x rfl (by decide) rfl) rfl rfl hl.1 rfl (lv_room (Nat.le_of_ble_eq_true rfl)) dX12_acts_67 ⟨Nat.le_of_ble_eq_true rfl, Nat.le_of_ble_eq_true rfl⟩) 0 0 (Nat.le_of_ble_eq_true rfl) (Nat.le_of_ble_eq_true rfl) (fun rr_51 S_52 H locs hp hw hfr hnw => ?_)
        obtain ⟨hk_53, hp⟩ := hp
        have hO_54 : Ok MAC S S_52 := hO.call hk_53 (by decide +kernel)
        obtain ⟨g_55, g_56, g_57, g_58, g_59, g_60, g_61, g_62⟩ := hp
        have t_63 : pI S_52 1201 x = v_1 := hk_53.fr.I' (by decide +kernel) ha_x ev_1
        have pz_64 : (pI S_52 1201 x).toInt = v_1.toInt := (congrArg Int32.toInt t_63).trans rfl
        have zl_65 : zA S_52 x 1207 = zA S x 1207 := zA_fr hk_53.fr ha_x (ex3 (gQ_12_1207 hO.1 ha_x)) (by decide +kernel) (by decide +kernel)
        have zz_66 := congrFun zl_65 (rr_51.toInt).toNat
        have al_67 := ((MI_1 g_60 (c := rr_51.toInt) (by omega) (by omega)).2 (by omega)).2 (by omega) (by omega)
        have gi_68 := g_62 (3 * a1_z + 1).toNat; rw [if_neg (by omega)] at gi_68
        refine lv_aload_n X.1 X.2.1 dX12_acts_70 rfl (lv_at hl 0 rfl) ?_
        refine lv_iload_n X.1 X.2.1 dX12_acts_71 rfl (lv_at hl 1 rfl) ?_
        refine lv_iconst (v := 1) X.1 X.2.1 dX12_acts_72 (by decide) ?_
        have t_69 : At S_52 x 12 := hk_53.fr.at ha_x
        refine k_i (rm := { frames := 1, cells := 0, slots := 0, locals := 48 }) (av := [.ref x, .int (a1), .int 1]) X hw (va_runV (As := [.int (a1), .int 1]) (rest := [.int (rr_51), .int 1, .int (a1), .ref x]) (cfix X) (k_X12_many2 l G cy κ S_52 _ x (a1) (a1_z) (1) (1) hO_54.1 t_69 hz_a1 ti_1 (by first | assumption | omega) (by first | assumption | omega) (by first | assumption | omega) (by first | assumption | omega)) (cwV 2 X.2.2.2.1 gX12_acts_X12_many rfl rfl rfl (by decide +kernel) ⟨Nat.le_of_ble_eq_true rfl, Nat.le_of_ble_eq_true rfl⟩) (pre_V X hw _ t_69 rfl (by decide) rfl) rfl rfl hl.1 rfl (lv_room (Nat.le_of_ble_eq_true rfl)) dX12_acts_73 ⟨Nat.le_of_ble_eq_true rfl, Nat.le_of_ble_eq_true rfl⟩) 0 0 (Nat.le_of_ble_eq_true rfl) (Nat.le_of_ble_eq_true rfl) (fun rr_70 S_71 H locs hp hw hfr hnw => ?_)
        obtain ⟨e2, hp⟩ := hp
        subst e2
        obtain ⟨f_72, f_73, f_74⟩ := hp
        refine k_v (rm := { frames := 1, cells := 0, slots := 0, locals := 48 }) (av := [.ref x, .int (a1), .int 1, .int (rr_51), .int (rr_70)]) X hw (va_runV (As := [.int (a1), .int 1, .int (rr_51), .int (rr_70)]) (rest := []) (cfix X) (k_X12_comes l G cy κ S_52 _ x (a1) (a1_z) (1) (1) (rr_51) (rr_51.toInt) (rr_70) (rr_70.toInt) hO_54.1 t_69 hz_a1 ti_1 rfl rfl (by first | assumption | omega) (by first | assumption | omega) (by first | assumption | omega) (by first | assumption | omega) (by first | assumption | omega) (by first | assumption | omega) (by first | assumption | omega) (by first | assumption | omega) (by first | assumption | omega) (by first | assumption | omega) g_60 (by first | assumption | omega) (by first | assumption | omega)) (cwV 4 X.2.2.2.1 gX12_acts_X12_comes rfl rfl rfl (by decide +kernel) ⟨Nat.le_of_ble_eq_true rfl, Nat.le_of_ble_eq_true rfl⟩) (pre_V X hw _ t_69 rfl (by decide) rfl) rfl rfl hl.1 rfl (lv_room (Nat.le_of_ble_eq_true rfl)) dX12_acts_76 ⟨Nat.le_of_ble_eq_true rfl, Nat.le_of_ble_eq_true rfl⟩) 0 0 (Nat.le_of_ble_eq_true rfl) (Nat.le_of_ble_eq_true rfl) (fun S_76 H locs hp hw hfr hnw => ?_)
        obtain ⟨hk_77, hp⟩ := hp
        have hO_78 : Ok MAC S S_76 := hO_54.call hk_77 (by decide +kernel)
        obtain ⟨mi_79, cm_80, cs_81⟩ := hp
        have zc_82 : zA S_52 x 1237 = zA S x 1237 := zA_fr hk_53.fr ha_x (ex3 (gQ_12_1237 hO.1 ha_x)) (by decide +kernel) (by decide +kernel)
        have zc_83 : zA S_76 x 1237 = zA S x 1237 := (zA_fr hk_77.fr t_69 (ex3 (gQ_12_1237 hO_54.1 t_69)) (by decide +kernel) (by decide +kernel)).trans zc_82
        exact ret_v X hw hr hlocks (Nat.le_of_ble_eq_true rfl) (Nat.le_of_ble_eq_true rfl) ⟨hO_78, ⟨mi_79, fun hgr => (GR_eq zc_83 hgr)⟩⟩ dX12_acts_79
  · refine lv_tableIn (tgt := 80) X.1 X.2.1 dX12_acts_6 (by omega) (by omega) (by rw [w_11c]; rfl) (by decide) ?_
    refine lv_aload_n X.1 X.2.1 dX12_acts_80 rfl (lv_at hl 0 rfl) ?_
    refine lv_iload_n X.1 X.2.1 dX12_acts_81 rfl (lv_at hl 1 rfl) ?_
    refine lv_iconst (v := 1) X.1 X.2.1 dX12_acts_82 (by decide) ?_
    refine k_i (rm := { frames := 1, cells := 0, slots := 0, locals := 48 }) (av := [.ref x, .int (a1), .int 1]) X hw (va_runV (As := [.int (a1), .int 1]) (rest := []) (cfix X) (k_X12_many2 l G cy κ S _ x (a1) (a1_z) (1) (1) hO.1 ha_x hz_a1 ti_1 (by first | assumption | omega) (by first | assumption | omega) (by first | assumption | omega) (by first | assumption | omega)) (cwV 2 X.2.2.2.1 gX12_acts_X12_many rfl rfl rfl (by decide +kernel) ⟨Nat.le_of_ble_eq_true rfl, Nat.le_of_ble_eq_true rfl⟩) (pre_V X hw _ ha_x rfl (by decide) rfl) rfl rfl hl.1 rfl (lv_room (Nat.le_of_ble_eq_true rfl)) dX12_acts_83 ⟨Nat.le_of_ble_eq_true rfl, Nat.le_of_ble_eq_true rfl⟩) 0 0 (Nat.le_of_ble_eq_true rfl) (Nat.le_of_ble_eq_true rfl) (fun rr_84 S_85 H locs hp hw hfr hnw => ?_)
    obtain ⟨e2, hp⟩ := hp
    subst e2
    obtain ⟨f_86, f_87, f_88⟩ := hp
    refine lv_if_le (tgt := 107) X.1 X.2.1 dX12_acts_86 (by decide) (fun c_89 => ?_) (fun c_89 => ?_)
    · have z_b_90 := trivial
      have k_91 : rr_84.toInt ≤ 0 := z_le rfl ti_0 c_89
      exact ret_v X hw hr hlocks (Nat.le_of_ble_eq_true rfl) (Nat.le_of_ble_eq_true rfl) ⟨hO, ⟨hp_4, fun hgr => hgr⟩⟩ dX12_acts_107
    · have z_b_92 := trivial
      have k_93 : rr_84.toInt > 0 := z_nle rfl ti_0 c_89
      refine lv_aload_n X.1 X.2.1 dX12_acts_89 rfl (lv_at hl 0 rfl) ?_
      refine lv_iload_n X.1 X.2.1 dX12_acts_90 rfl (lv_at hl 1 rfl) ?_
      refine lv_iconst (v := 0) X.1 X.2.1 dX12_acts_91 (by decide) ?_
      refine lv_aload_n X.1 X.2.1 dX12_acts_92 rfl (lv_at hl 0 rfl) ?_
      refine lv_iload_n X.1 X.2.1 dX12_acts_93 rfl (lv_at hl 1 rfl) ?_
      refine lv_iconst (v := 1) X.1 X.2.1 dX12_acts_94 (by decide) ?_
      refine lv_aload_n X.1 X.2.1 dX12_acts_95 rfl (lv_at hl 0 rfl) ?_
      refine lv_iload_n X.1 X.2.1 dX12_acts_96 rfl (lv_at hl 1 rfl) ?_
      refine k_i (rm := { frames := 4, cells := 0, slots := 0, locals := 192 }) (av := [.ref x, .int (a1)]) X hw (va_runV (As := [.int (a1)]) (rest := [.int 1, .int (a1), .ref x, .int 0, .int (a1), .ref x]) (cfix X) (k_X12_thinnest l G cy κ S _ x (a1) (a1_z) hO.1 ha_x hz_a1 (by first | assumption | omega) (by first | assumption | omega) hp_4) (cwV 1 X.2.2.2.1 gX12_acts_X12_thinnest rfl rfl rfl (by decide +kernel) ⟨Nat.le_of_ble_eq_true rfl, Nat.le_of_ble_eq_true rfl⟩) (pre_V X hw _ ha_x rfl (by decide) rfl) rfl rfl hl.1 rfl (lv_room (Nat.le_of_ble_eq_true rfl)) dX12_acts_97 ⟨Nat.le_of_ble_eq_true rfl, Nat.le_of_ble_eq_true rfl⟩) 0 0 (Nat.le_of_ble_eq_true rfl) (Nat.le_of_ble_eq_true rfl) (fun rr_94 S_95 H locs hp hw hfr hnw => ?_)
      obtain ⟨e2, hp⟩ := hp
      subst e2
      obtain ⟨f_96, f_97, f_98, f_99, f_100⟩ := hp
      refine k_i (rm := { frames := 1, cells := 0, slots := 0, locals := 48 }) (av := [.ref x, .int (a1), .int 1, .int (rr_94)]) X hw (va_runV (As := [.int (a1), .int 1, .int (rr_94)]) (rest := [.int 0, .int (a1), .ref x]) (cfix X) (k_X12_goes l G cy κ S _ x (a1) (a1_z) (1) (1) (rr_94) (rr_94.toInt) (-1) hO.1 ha_x hz_a1 ti_1 rfl (by first | assumption | omega) (by first | assumption | omega) (by first | assumption | omega) (by first | assumption | omega) (by first | assumption | omega) (by first | assumption | omega) hp_4) (cwV 3 X.2.2.2.1 gX12_acts_X12_goes rfl rfl rfl (by decide +kernel) ⟨Nat.le_of_ble_eq_true rfl, Nat.le_of_ble_eq_true rfl⟩) (pre_V X hw _ ha_x rfl (by decide) rfl) rfl rfl hl.1 rfl (lv_room (Nat.le_of_ble_eq_true rfl)) dX12_acts_100 ⟨Nat.le_of_ble_eq_true rfl, Nat.le_of_ble_eq_true rfl⟩) 0 0 (Nat.le_of_ble_eq_true rfl) (Nat.le_of_ble_eq_true rfl) (fun rr_101 S_102 H locs hp hw hfr hnw => ?_)
      obtain ⟨hk_103, hp⟩ := hp
      have hO_104 : Ok MAC S S_102 := hO.call hk_103 (by decide +kernel)
      obtain ⟨g_105, g_106, g_107, g_108, g_109, g_110, g_111, g_112⟩ := hp
      have t_113 : pI S_102 1201 x = v_1 := hk_103.fr.I' (by decide +kernel) ha_x ev_1
      have pz_114 : (pI S_102 1201 x).toInt = v_1.toInt := (congrArg Int32.toInt t_113).trans rfl
      have zl_115 : zA S_102 x 1207 = zA S x 1207 := zA_fr hk_103.fr ha_x (ex3 (gQ_12_1207 hO.1 ha_x)) (by decide +kernel) (by decide +kernel)
      have zz_116 := congrFun zl_115 (rr_101.toInt).toNat
      have al_117 := ((MI_1 g_110 (c := rr_101.toInt) (by omega) (by omega)).2 (by omega)).2 (by omega) (by omega)
      have gi_118 := g_112 (3 * a1_z + 0).toNat; rw [if_neg (by omega)] at gi_118
      refine lv_iconst (v := 0) X.1 X.2.1 dX12_acts_103 (by decide) ?_
      have t_119 : At S_102 x 12 := hk_103.fr.at ha_x
      refine k_v (rm := { frames := 1, cells := 0, slots := 0, locals := 48 }) (av := [.ref x, .int (a1), .int 0, .int (rr_101), .int 0]) X hw (va_runV (As := [.int (a1), .int 0, .int (rr_101), .int 0]) (rest := []) (cfix X) (k_X12_comes l G cy κ S_102 _ x (a1) (a1_z) (0) (0) (rr_101) (rr_101.toInt) (0) (0) hO_104.1 t_119 hz_a1 ti_0 rfl ti_0 (by first | assumption | omega) (by first | assumption | omega) (by first | assumption | omega) (by first | assumption | omega) (by first | assumption | omega) (by first | assumption | omega) (by first | assumption | omega) (by first | assumption | omega) (by first | assumption | omega) (by first | assumption | omega) g_110 (by first | assumption | omega) (by first | assumption | omega)) (cwV 4 X.2.2.2.1 gX12_acts_X12_comes rfl rfl rfl (by decide +kernel) ⟨Nat.le_of_ble_eq_true rfl, Nat.le_of_ble_eq_true rfl⟩) (pre_V X hw _ t_119 rfl (by decide) rfl) rfl rfl hl.1 rfl (lv_room (Nat.le_of_ble_eq_true rfl)) dX12_acts_104 ⟨Nat.le_of_ble_eq_true rfl, Nat.le_of_ble_eq_true rfl⟩) 0 0 (Nat.le_of_ble_eq_true rfl) (Nat.le_of_ble_eq_true rfl) (fun S_121 H locs hp hw hfr hnw => ?_)
      obtain ⟨hk_122, hp⟩ := hp
      have hO_123 : Ok MAC S S_121 := hO_104.call hk_122 (by decide +kernel)
      obtain ⟨mi_124, cm_125, cs_126⟩ := hp
      have zc_127 : zA S_102 x 1237 = zA S x 1237 := zA_fr hk_103.fr ha_x (ex3 (gQ_12_1237 hO.1 ha_x)) (by decide +kernel) (by decide +kernel)
      have zc_128 : zA S_121 x 1237 = zA S x 1237 := (zA_fr hk_122.fr t_119 (ex3 (gQ_12_1237 hO_104.1 t_119)) (by decide +kernel) (by decide +kernel)).trans zc_127
      exact ret_v X hw hr hlocks (Nat.le_of_ble_eq_true rfl) (Nat.le_of_ble_eq_true rfl) ⟨hO_123, ⟨mi_124, fun hgr => (GR_eq zc_128 hgr)⟩⟩ dX12_acts_107
  · refine lv_tableIn (tgt := 108) X.1 X.2.1 dX12_acts_6 (by omega) (by omega) (by rw [w_11c]; rfl) (by decide) ?_
    refine lv_aload_n X.1 X.2.1 dX12_acts_108 rfl (lv_at hl 0 rfl) ?_
    refine lv_iload_n X.1 X.2.1 dX12_acts_109 rfl (lv_at hl 1 rfl) ?_
    refine lv_iconst (v := 2) X.1 X.2.1 dX12_acts_110 (by decide) ?_
    refine k_i (rm := { frames := 1, cells := 0, slots := 0, locals := 48 }) (av := [.ref x, .int (a1), .int 2]) X hw (va_runV (As := [.int (a1), .int 2]) (rest := []) (cfix X) (k_X12_many2 l G cy κ S _ x (a1) (a1_z) (2) (2) hO.1 ha_x hz_a1 ti_2 (by first | assumption | omega) (by first | assumption | omega) (by first | assumption | omega) (by first | assumption | omega)) (cwV 2 X.2.2.2.1 gX12_acts_X12_many rfl rfl rfl (by decide +kernel) ⟨Nat.le_of_ble_eq_true rfl, Nat.le_of_ble_eq_true rfl⟩) (pre_V X hw _ ha_x rfl (by decide) rfl) rfl rfl hl.1 rfl (lv_room (Nat.le_of_ble_eq_true rfl)) dX12_acts_111 ⟨Nat.le_of_ble_eq_true rfl, Nat.le_of_ble_eq_true rfl⟩) 0 0 (Nat.le_of_ble_eq_true rfl) (Nat.le_of_ble_eq_true rfl) (fun rr_129 S_130 H locs hp hw hfr hnw => ?_)
    obtain ⟨e2, hp⟩ := hp
    subst e2
    obtain ⟨f_131, f_132, f_133⟩ := hp
    refine lv_if_ne (tgt := 118) X.1 X.2.1 dX12_acts_114 (by decide) (fun c_134 => ?_) (fun c_134 => ?_)
    · have z_b_135 := trivial
      have k_136 : rr_129.toInt ≠ 0 := z_ne rfl ti_0 c_134
      refine lv_aload_n X.1 X.2.1 dX12_acts_118 rfl (lv_at hl 0 rfl) ?_
      refine lv_iload_n X.1 X.2.1 dX12_acts_119 rfl (lv_at hl 1 rfl) ?_
      refine lv_iconst (v := 0) X.1 X.2.1 dX12_acts_120 (by decide) ?_
      refine lv_aload_n X.1 X.2.1 dX12_acts_121 rfl (lv_at hl 0 rfl) ?_
      refine lv_iload_n X.1 X.2.1 dX12_acts_122 rfl (lv_at hl 1 rfl) ?_
      refine lv_iconst (v := 2) X.1 X.2.1 dX12_acts_123 (by decide) ?_
      refine lv_iconst (v := 0) X.1 X.2.1 dX12_acts_124 (by decide) ?_
      refine k_i (rm := { frames := 1, cells := 0, slots := 0, locals := 48 }) (av := [.ref x, .int (a1), .int 2, .int 0]) X hw (va_runV (As := [.int (a1), .int 2, .int 0]) (rest := [.int 0, .int (a1), .ref x]) (cfix X) (k_X12_goes l G cy κ S _ x (a1) (a1_z) (2) (2) (0) (0) (-1) hO.1 ha_x hz_a1 ti_2 ti_0 (by first | assumption | omega) (by first | assumption | omega) (by first | assumption | omega) (by first | assumption | omega) (by first | assumption | omega) (by first | assumption | omega) hp_4) (cwV 3 X.2.2.2.1 gX12_acts_X12_goes rfl rfl rfl (by decide +kernel) ⟨Nat.le_of_ble_eq_true rfl, Nat.le_of_ble_eq_true rfl⟩) (pre_V X hw _ ha_x rfl (by decide) rfl) rfl rfl hl.1 rfl (lv_room (Nat.le_of_ble_eq_true rfl)) dX12_acts_125 ⟨Nat.le_of_ble_eq_true rfl, Nat.le_of_ble_eq_true rfl⟩) 0 0 (Nat.le_of_ble_eq_true rfl) (Nat.le_of_ble_eq_true rfl) (fun rr_137 S_138 H locs hp hw hfr hnw => ?_)
      obtain ⟨hk_139, hp⟩ := hp
      have hO_140 : Ok MAC S S_138 := hO.call hk_139 (by decide +kernel)
      obtain ⟨g_141, g_142, g_143, g_144, g_145, g_146, g_147, g_148⟩ := hp
      have t_149 : pI S_138 1201 x = v_1 := hk_139.fr.I' (by decide +kernel) ha_x ev_1
      have pz_150 : (pI S_138 1201 x).toInt = v_1.toInt := (congrArg Int32.toInt t_149).trans rfl
      have zl_151 : zA S_138 x 1207 = zA S x 1207 := zA_fr hk_139.fr ha_x (ex3 (gQ_12_1207 hO.1 ha_x)) (by decide +kernel) (by decide +kernel)
      have zz_152 := congrFun zl_151 (rr_137.toInt).toNat
      have al_153 := ((MI_1 g_146 (c := rr_137.toInt) (by omega) (by omega)).2 (by omega)).2 (by omega) (by omega)
      have gi_154 := g_148 (3 * a1_z + 0).toNat; rw [if_neg (by omega)] at gi_154
      refine lv_aload_n X.1 X.2.1 dX12_acts_128 rfl (lv_at hl 0 rfl) ?_
      refine lv_iload_n X.1 X.2.1 dX12_acts_129 rfl (lv_at hl 1 rfl) ?_
      refine lv_iconst (v := 0) X.1 X.2.1 dX12_acts_130 (by decide) ?_
      have t_155 : At S_138 x 12 := hk_139.fr.at ha_x
      refine k_i (rm := { frames := 1, cells := 0, slots := 0, locals := 48 }) (av := [.ref x, .int (a1), .int 0]) X hw (va_runV (As := [.int (a1), .int 0]) (rest := [.int (rr_137), .int 0, .int (a1), .ref x]) (cfix X) (k_X12_many2 l G cy κ S_138 _ x (a1) (a1_z) (0) (0) hO_140.1 t_155 hz_a1 ti_0 (by first | assumption | omega) (by first | assumption | omega) (by first | assumption | omega) (by first | assumption | omega)) (cwV 2 X.2.2.2.1 gX12_acts_X12_many rfl rfl rfl (by decide +kernel) ⟨Nat.le_of_ble_eq_true rfl, Nat.le_of_ble_eq_true rfl⟩) (pre_V X hw _ t_155 rfl (by decide) rfl) rfl rfl hl.1 rfl (lv_room (Nat.le_of_ble_eq_true rfl)) dX12_acts_131 ⟨Nat.le_of_ble_eq_true rfl, Nat.le_of_ble_eq_true rfl⟩) 0 0 (Nat.le_of_ble_eq_true rfl) (Nat.le_of_ble_eq_true rfl) (fun rr_156 S_157 H locs hp hw hfr hnw => ?_)
      obtain ⟨e2, hp⟩ := hp
      subst e2
      obtain ⟨f_158, f_159, f_160⟩ := hp
      refine k_v (rm := { frames := 1, cells := 0, slots := 0, locals := 48 }) (av := [.ref x, .int (a1), .int 0, .int (rr_137), .int (rr_156)]) X hw (va_runV (As := [.int (a1), .int 0, .int (rr_137), .int (rr_156)]) (rest := []) (cfix X) (k_X12_comes l G cy κ S_138 _ x (a1) (a1_z) (0) (0) (rr_137) (rr_137.toInt) (rr_156) (rr_156.toInt) hO_140.1 t_155 hz_a1 ti_0 rfl rfl (by first | assumption | omega) (by first | assumption | omega) (by first | assumption | omega) (by first | assumption | omega) (by first | assumption | omega) (by first | assumption | omega) (by first | assumption | omega) (by first | assumption | omega) (by first | assumption | omega) (by first | assumption | omega) g_146 (by first | assumption | omega) (by first | assumption | omega)) (cwV 4 X.2.2.2.1 gX12_acts_X12_comes rfl rfl rfl (by decide +kernel) ⟨Nat.le_of_ble_eq_true rfl, Nat.le_of_ble_eq_true rfl⟩) (pre_V X hw _ t_155 rfl (by decide) rfl) rfl rfl hl.1 rfl (lv_room (Nat.le_of_ble_eq_true rfl)) dX12_acts_134 ⟨Nat.le_of_ble_eq_true rfl, Nat.le_of_ble_eq_true rfl⟩) 0 0 (Nat.le_of_ble_eq_true rfl) (Nat.le_of_ble_eq_true rfl) (fun S_162 H locs hp hw hfr hnw => ?_)
      obtain ⟨hk_163, hp⟩ := hp
      have hO_164 : Ok MAC S S_162 := hO_140.call hk_163 (by decide +kernel)
      obtain ⟨mi_165, cm_166, cs_167⟩ := hp
      refine lv_aload_n X.1 X.2.1 dX12_acts_137 rfl (lv_at hl 0 rfl) ?_
      refine lv_iload_n X.1 X.2.1 dX12_acts_138 rfl (lv_at hl 1 rfl) ?_
      refine lv_iconst (v := 2) X.1 X.2.1 dX12_acts_139 (by decide) ?_
      have t_168 : At S_162 x 12 := hk_163.fr.at t_155
      refine k_i (rm := { frames := 1, cells := 0, slots := 0, locals := 48 }) (av := [.ref x, .int (a1), .int 2]) X hw (va_runV (As := [.int (a1), .int 2]) (rest := []) (cfix X) (k_X12_many2 l G cy κ S_162 _ x (a1) (a1_z) (2) (2) hO_164.1 t_168 hz_a1 ti_2 (by first | assumption | omega) (by first | assumption | omega) (by first | assumption | omega) (by first | assumption | omega)) (cwV 2 X.2.2.2.1 gX12_acts_X12_many rfl rfl rfl (by decide +kernel) ⟨Nat.le_of_ble_eq_true rfl, Nat.le_of_ble_eq_true rfl⟩) (pre_V X hw _ t_168 rfl (by decide) rfl) rfl rfl hl.1 rfl (lv_room (Nat.le_of_ble_eq_true rfl)) dX12_acts_140 ⟨Nat.le_of_ble_eq_true rfl, Nat.le_of_ble_eq_true rfl⟩) 0 0 (Nat.le_of_ble_eq_true rfl) (Nat.le_of_ble_eq_true rfl) (fun rr_169 S_170 H locs hp hw hfr hnw => ?_)
      obtain ⟨e2, hp⟩ := hp
      subst e2
      obtain ⟨f_171, f_172, f_173⟩ := hp
      refine lv_if_ne (tgt := 153) X.1 X.2.1 dX12_acts_143 (by decide) (fun c_174 => ?_) (fun c_174 => ?_)
      · have z_b_175 := trivial
        have k_176 : rr_169.toInt ≠ 0 := z_ne rfl ti_0 c_174
        refine lv_aload_n X.1 X.2.1 dX12_acts_153 rfl (lv_at hl 0 rfl) ?_
        obtain ⟨q_177, h_178, h_179, h_180⟩ := gQ_12_1215 hO_164.1 t_168
        refine r_getR (g := 1215) X hw t_168 rfl 15 h_178 (by decide) rfl inn_X12_acts_12 (by decide) (X.2.2.2.1 (.fieldLink RX12 46 "SilkMillModel" "stop" "[I") (by decide +kernel)) rfl (gv_1215 _ _) dX12_acts_154 ?_
        refine lv_iload_n X.1 X.2.1 dX12_acts_157 rfl (lv_at hl 1 rfl) ?_
        refine lv_dup2_11 X.1 X.2.1 dX12_acts_158 rfl rfl ?_
        refine r_iald X hw h_179 rfl (by rw [h_180]; exact z_ix hz_a1 (by omega) (by omega)) dX12_acts_159 ?_
        refine lv_topi (fun v_181 ev_181 => ?_)
        have rg_182 := And.intro (z_lo v_181) (z_hi v_181)
        have ev_181 := ev_181.symm
        refine lv_iconst (v := 2) X.1 X.2.1 dX12_acts_160 (by decide) ?_
        refine lv_iadd X.1 X.2.1 dX12_acts_161 ?_
        refine lv_topi (fun v_183 ev_183 => ?_)
        have rg_184 := And.intro (z_lo v_183) (z_hi v_183)
        refine r_iast X hw h_179 rfl (by rw [h_180]; exact z_ix hz_a1 (by omega) (by omega)) dX12_acts_162 (fun H locs hw => ?_)
        obtain ⟨S_185, eS_185⟩ : ∃ T, T = sA S_162 q_177 (upd (pA S_162 q_177) (Int32.toNatClampNeg (a1)) (v_183)) := ⟨_, rfl⟩
        rw [← eS_185] at hw
        have hO_186 : Ok MAC S S_185 := hO_164.sA eS_185 h_179 (by decide +kernel) (uA_514 hO_164.1 h_179)
        have h_187 : pA S_185 q_177 (Int32.toNatClampNeg (a1)) = v_183 := tA_sAs eS_185
        have mi_188 : MIe S_185 x (-1) := MIe_sA mi_165 hO_164.1 t_168 h_179 eS_185 (by decide +kernel)
        have zc_189 : zA S_138 x 1237 = zA S x 1237 := zA_fr hk_139.fr ha_x (ex3 (gQ_12_1237 hO.1 ha_x)) (by decide +kernel) (by decide +kernel)
        have zc_190 : zA S_162 x 1237 = zA S x 1237 := (zA_fr hk_163.fr t_155 (ex3 (gQ_12_1237 hO_140.1 t_155)) (by decide +kernel) (by decide +kernel)).trans zc_189
        have zc_191 : zA S_185 x 1237 = zA S x 1237 := (zA_sAn eS_185 (ex3 (gQ_12_1237 hO_164.1 t_168)) h_179 rfl).trans zc_190
        exact ret_v X hw hr hlocks (Nat.le_of_ble_eq_true rfl) (Nat.le_of_ble_eq_true rfl) ⟨hO_186, ⟨mi_188, fun hgr => (GR_eq zc_191 hgr)⟩⟩ dX12_acts_163
      · have z_b_192 := trivial
        have k_193 : rr_169.toInt = 0 := z_eq rfl ti_0 c_174
        refine lv_aload_n X.1 X.2.1 dX12_acts_146 rfl (lv_at hl 0 rfl) ?_
        obtain ⟨q_194, h_195, h_196, h_197⟩ := gQ_12_1214 hO_164.1 t_168
        refine r_getR (g := 1214) X hw t_168 rfl 14 h_195 (by decide) rfl inn_X12_acts_12 (by decide) (X.2.2.2.1 (.fieldLink RX12 43 "SilkMillModel" "search" "[I") (by decide +kernel)) rfl (gv_1214 _ _) dX12_acts_147 ?_
        refine lv_iload_n X.1 X.2.1 dX12_acts_150 rfl (lv_at hl 1 rfl) ?_
        refine lv_iconst (v := 0) X.1 X.2.1 dX12_acts_151 (by decide) ?_
        refine r_iast X hw h_196 rfl (by rw [h_197]; exact z_ix hz_a1 (by omega) (by omega)) dX12_acts_152 (fun H locs hw => ?_)
        obtain ⟨S_198, eS_198⟩ : ∃ T, T = sA S_162 q_194 (upd (pA S_162 q_194) (Int32.toNatClampNeg (a1)) (0)) := ⟨_, rfl⟩
        rw [← eS_198] at hw
        have hO_199 : Ok MAC S S_198 := hO_164.sA eS_198 h_196 (by decide +kernel) (uA_494 hO_164.1 h_196)
        have h_200 : pA S_198 q_194 (Int32.toNatClampNeg (a1)) = 0 := tA_sAs eS_198
        refine lv_aload_n X.1 X.2.1 dX12_acts_153 rfl (lv_at hl 0 rfl) ?_
        have t_201 : At S_198 x 12 := tAt_sA eS_198 t_168
        obtain ⟨q_202, h_203, h_204, h_205⟩ := gQ_12_1215 hO_199.1 t_201
        refine r_getR (g := 1215) X hw t_201 rfl 15 h_203 (by decide) rfl inn_X12_acts_12 (by decide) (X.2.2.2.1 (.fieldLink RX12 46 "SilkMillModel" "stop" "[I") (by decide +kernel)) rfl (gv_1215 _ _) dX12_acts_154 ?_
        refine lv_iload_n X.1 X.2.1 dX12_acts_157 rfl (lv_at hl 1 rfl) ?_
        refine lv_dup2_11 X.1 X.2.1 dX12_acts_158 rfl rfl ?_
        refine r_iald X hw h_204 rfl (by rw [h_205]; exact z_ix hz_a1 (by omega) (by omega)) dX12_acts_159 ?_
        refine lv_topi (fun v_206 ev_206 => ?_)
        have rg_207 := And.intro (z_lo v_206) (z_hi v_206)
        have ev_206 := ev_206.symm
        refine lv_iconst (v := 2) X.1 X.2.1 dX12_acts_160 (by decide) ?_
        refine lv_iadd X.1 X.2.1 dX12_acts_161 ?_
        refine lv_topi (fun v_208 ev_208 => ?_)
        have rg_209 := And.intro (z_lo v_208) (z_hi v_208)
        refine r_iast X hw h_204 rfl (by rw [h_205]; exact z_ix hz_a1 (by omega) (by omega)) dX12_acts_162 (fun H locs hw => ?_)
        obtain ⟨S_210, eS_210⟩ : ∃ T, T = sA S_198 q_202 (upd (pA S_198 q_202) (Int32.toNatClampNeg (a1)) (v_208)) := ⟨_, rfl⟩
        rw [← eS_210] at hw
        have hO_211 : Ok MAC S S_210 := hO_199.sA eS_210 h_204 (by decide +kernel) (uA_514 hO_199.1 h_204)
        have h_212 : pA S_210 q_202 (Int32.toNatClampNeg (a1)) = v_208 := tA_sAs eS_210
        have mi_213 : MIe S_198 x (-1) := MIe_sA mi_165 hO_164.1 t_168 h_196 eS_198 (by decide +kernel)
        have mi_214 : MIe S_210 x (-1) := MIe_sA mi_213 hO_199.1 t_201 h_204 eS_210 (by decide +kernel)
        have zc_215 : zA S_138 x 1237 = zA S x 1237 := zA_fr hk_139.fr ha_x (ex3 (gQ_12_1237 hO.1 ha_x)) (by decide +kernel) (by decide +kernel)
        have zc_216 : zA S_162 x 1237 = zA S x 1237 := (zA_fr hk_163.fr t_155 (ex3 (gQ_12_1237 hO_140.1 t_155)) (by decide +kernel) (by decide +kernel)).trans zc_215
        have zc_217 : zA S_198 x 1237 = zA S x 1237 := (zA_sAn eS_198 (ex3 (gQ_12_1237 hO_164.1 t_168)) h_196 rfl).trans zc_216
        have zc_218 : zA S_210 x 1237 = zA S x 1237 := (zA_sAn eS_210 (ex3 (gQ_12_1237 hO_199.1 t_201)) h_204 rfl).trans zc_217
        exact ret_v X hw hr hlocks (Nat.le_of_ble_eq_true rfl) (Nat.le_of_ble_eq_true rfl) ⟨hO_211, ⟨mi_214, fun hgr => (GR_eq zc_218 hgr)⟩⟩ dX12_acts_163
    · have z_b_219 := trivial
      have k_220 : rr_129.toInt = 0 := z_eq rfl ti_0 c_134
      exact ret_v X hw hr hlocks (Nat.le_of_ble_eq_true rfl) (Nat.le_of_ble_eq_true rfl) ⟨hO, ⟨hp_4, fun hgr => hgr⟩⟩ dX12_acts_117
  · refine lv_tableIn (tgt := 164) X.1 X.2.1 dX12_acts_6 (by omega) (by omega) (by rw [w_11c]; rfl) (by decide) ?_
    refine lv_aload_n X.1 X.2.1 dX12_acts_164 rfl (lv_at hl 0 rfl) ?_
    refine lv_iload_n X.1 X.2.1 dX12_acts_165 rfl (lv_at hl 1 rfl) ?_
    refine lv_iconst (v := 0) X.1 X.2.1 dX12_acts_166 (by decide) ?_
    refine k_i (rm := { frames := 1, cells := 0, slots := 0, locals := 48 }) (av := [.ref x, .int (a1), .int 0]) X hw (va_runV (As := [.int (a1), .int 0]) (rest := []) (cfix X) (k_X12_many2 l G cy κ S _ x (a1) (a1_z) (0) (0) hO.1 ha_x hz_a1 ti_0 (by first | assumption | omega) (by first | assumption | omega) (by first | assumption | omega) (by first | assumption | omega)) (cwV 2 X.2.2.2.1 gX12_acts_X12_many rfl rfl rfl (by decide +kernel) ⟨Nat.le_of_ble_eq_true rfl, Nat.le_of_ble_eq_true rfl⟩) (pre_V X hw _ ha_x rfl (by decide) rfl) rfl rfl hl.1 rfl (lv_room (Nat.le_of_ble_eq_true rfl)) dX12_acts_167 ⟨Nat.le_of_ble_eq_true rfl, Nat.le_of_ble_eq_true rfl⟩) 0 0 (Nat.le_of_ble_eq_true rfl) (Nat.le_of_ble_eq_true rfl) (fun rr_221 S_222 H locs hp hw hfr hnw => ?_)
    obtain ⟨e2, hp⟩ := hp
    subst e2
    obtain ⟨f_223, f_224, f_225⟩ := hp
    refine lv_if_le (tgt := 194) X.1 X.2.1 dX12_acts_170 (by decide) (fun c_226 => ?_) (fun c_226 => ?_)
    · have z_b_227 := trivial
      have k_228 : rr_221.toInt ≤ 0 := z_le rfl ti_0 c_226
      exact ret_v X hw hr hlocks (Nat.le_of_ble_eq_true rfl) (Nat.le_of_ble_eq_true rfl) ⟨hO, ⟨hp_4, fun hgr => hgr⟩⟩ dX12_acts_194
    · have z_b_229 := trivial
      have k_230 : rr_221.toInt > 0 := z_nle rfl ti_0 c_226
      refine lv_aload_n X.1 X.2.1 dX12_acts_173 rfl (lv_at hl 0 rfl) ?_
      obtain ⟨q_231, h_232, h_233, h_234⟩ := gQ_12_1207 hO.1 ha_x
      refine r_getR (g := 1207) X hw ha_x rfl 7 h_232 (by decide) rfl inn_X12_acts_12 (by decide) (X.2.2.2.1 (.fieldLink RX12 25 "SilkMillModel" "stand" "[I") (by decide +kernel)) rfl (gv_1207 _ _) dX12_acts_174 ?_
      refine lv_aload_n X.1 X.2.1 dX12_acts_177 rfl (lv_at hl 0 rfl) ?_
      refine lv_iload_n X.1 X.2.1 dX12_acts_178 rfl (lv_at hl 1 rfl) ?_
      refine lv_iconst (v := 0) X.1 X.2.1 dX12_acts_179 (by decide) ?_
      refine lv_aload_n X.1 X.2.1 dX12_acts_180 rfl (lv_at hl 0 rfl) ?_
      refine lv_iload_n X.1 X.2.1 dX12_acts_181 rfl (lv_at hl 1 rfl) ?_
      refine lv_iconst (v := 0) X.1 X.2.1 dX12_acts_182 (by decide) ?_
      refine k_i (rm := { frames := 1, cells := 0, slots := 0, locals := 48 }) (av := [.ref x, .int (a1), .int 0]) X hw (va_runV (As := [.int (a1), .int 0]) (rest := [.int 0, .int (a1), .ref x, .ref q_231]) (cfix X) (k_X12_many2 l G cy κ S _ x (a1) (a1_z) (0) (0) hO.1 ha_x hz_a1 ti_0 (by first | assumption | omega) (by first | assumption | omega) (by first | assumption | omega) (by first | assumption | omega)) (cwV 2 X.2.2.2.1 gX12_acts_X12_many rfl rfl rfl (by decide +kernel) ⟨Nat.le_of_ble_eq_true rfl, Nat.le_of_ble_eq_true rfl⟩) (pre_V X hw _ ha_x rfl (by decide) rfl) rfl rfl hl.1 rfl (lv_room (Nat.le_of_ble_eq_true rfl)) dX12_acts_183 ⟨Nat.le_of_ble_eq_true rfl, Nat.le_of_ble_eq_true rfl⟩) 0 0 (Nat.le_of_ble_eq_true rfl) (Nat.le_of_ble_eq_true rfl) (fun rr_235 S_236 H locs hp hw hfr hnw => ?_)
      obtain ⟨e2, hp⟩ := hp
      subst e2
      obtain ⟨f_237, f_238, f_239⟩ := hp
      refine lv_iconst (v := 1) X.1 X.2.1 dX12_acts_186 (by decide) ?_
      refine lv_isub X.1 X.2.1 dX12_acts_187 ?_
      refine lv_topi (fun v_240 ev_240 => ?_)
      have z_241 : v_240.toInt = rr_235.toInt - 1 := z_sub ev_240 rfl ti_1 (by omega) (by omega)
      refine k_i (rm := { frames := 1, cells := 0, slots := 0, locals := 48 }) (av := [.ref x, .int (a1), .int 0, .int (v_240)]) X hw (va_runV (As := [.int (a1), .int 0, .int (v_240)]) (rest := [.ref q_231]) (cfix X) (k_X12_goes l G cy κ S _ x (a1) (a1_z) (0) (0) (v_240) ((rr_235.toInt - 1)) (-1) hO.1 ha_x hz_a1 ti_0 z_241 (by first | assumption | omega) (by first | assumption | omega) (by first | assumption | omega) (by first | assumption | omega) (by first | assumption | omega) (by first | assumption | omega) hp_4) (cwV 3 X.2.2.2.1 gX12_acts_X12_goes rfl rfl rfl (by decide +kernel) ⟨Nat.le_of_ble_eq_true rfl, Nat.le_of_ble_eq_true rfl⟩) (pre_V X hw _ ha_x rfl (by decide) rfl) rfl rfl hl.1 rfl (lv_room (Nat.le_of_ble_eq_true rfl)) dX12_acts_188 ⟨Nat.le_of_ble_eq_true rfl, Nat.le_of_ble_eq_true rfl⟩) 0 0 (Nat.le_of_ble_eq_true rfl) (Nat.le_of_ble_eq_true rfl) (fun rr_242 S_243 H locs hp hw hfr hnw => ?_)
      obtain ⟨hk_244, hp⟩ := hp
      have hO_245 : Ok MAC S S_243 := hO.call hk_244 (by decide +kernel)
      obtain ⟨g_246, g_247, g_248, g_249, g_250, g_251, g_252, g_253⟩ := hp
      have t_254 : pI S_243 1201 x = v_1 := hk_244.fr.I' (by decide +kernel) ha_x ev_1
      have pz_255 : (pI S_243 1201 x).toInt = v_1.toInt := (congrArg Int32.toInt t_254).trans rfl
      have zl_256 : zA S_243 x 1207 = zA S x 1207 := zA_fr hk_244.fr ha_x (ex3 (gQ_12_1207 hO.1 ha_x)) (by decide +kernel) (by decide +kernel)
      have zz_257 := congrFun zl_256 (rr_242.toInt).toNat
      have al_258 := ((MI_1 g_251 (c := rr_242.toInt) (by omega) (by omega)).2 (by omega)).2 (by omega) (by omega)
      refine lv_bipush (v := 6) X.1 X.2.1 dX12_acts_191 (by decide) ?_
      have t_259 : At S_243 q_231 354 := hk_244.fr.at h_233
      have t_260 : pN S_243 q_231 = 600 := hk_244.fr.N h_233 h_234
      clear h_234
      refine r_iast X hw t_259 rfl (by rw [t_260]; exact z_ix rfl (by omega) (by omega)) dX12_acts_193 (fun H locs hw => ?_)
      obtain ⟨S_261, eS_261⟩ : ∃ T, T = sA S_243 q_231 (upd (pA S_243 q_231) (Int32.toNatClampNeg (rr_242)) (6)) := ⟨_, rfl⟩
      rw [← eS_261] at hw
      have hO_262 : Ok MAC S S_261 := hO_245.sA eS_261 t_259 (by decide +kernel) (uA_354 hO_245.1 t_259)
      have h_263 : pA S_261 q_231 (Int32.toNatClampNeg (rr_242)) = 6 := tA_sAs eS_261
      have t_264 : pR S_243 1207 x = some q_231 := hk_244.fr.R' (by decide +kernel) ha_x h_232
      have t_265 : pR S_261 1207 x = some q_231 := tR_sA eS_261 t_264
      have t_267 : pR S_243 1207 x = some q_231 := by have h := t_265; rw [eS_261, pR_sA] at h; exact h
      have zs_266 : ∀ j, zA S_261 x 1207 j = if j = (rr_242.toInt).toNat then 6 else zA S_243 x 1207 j := by have h := zA_sAs eS_261 t_267 ti_6; rw [z_nc rfl (by omega)] at h; exact h
      have t_269 : At S_243 x 12 := hk_244.fr.at ha_x
      have mi_268 : MIe S_261 x (-1) := stand_MI (c := rr_242.toInt) hO_245.1 t_269 (show Fr [10354] S_243 S_261 by rw [eS_261]; exact Fr_sA t_259 List.mem_cons_self) g_251 (by omega) (by omega) g_252 zs_266 (Or.inr (Or.inr (by assumption)))
      have zc_270 : zA S_243 x 1237 = zA S x 1237 := zA_fr hk_244.fr ha_x (ex3 (gQ_12_1237 hO.1 ha_x)) (by decide +kernel) (by decide +kernel)
      have zc_271 : zA S_261 x 1237 = zA S x 1237 := (zA_sAn eS_261 (ex3 (gQ_12_1237 hO_245.1 t_269)) t_259 rfl).trans zc_270
      exact ret_v X hw hr hlocks (Nat.le_of_ble_eq_true rfl) (Nat.le_of_ble_eq_true rfl) ⟨hO_262, ⟨mi_268, fun hgr => (GR_eq zc_271 hgr)⟩⟩ dX12_acts_194
  · refine lv_tableIn (tgt := 195) X.1 X.2.1 dX12_acts_6 (by omega) (by omega) (by rw [w_11c]; rfl) (by decide) ?_
    refine lv_aload_n X.1 X.2.1 dX12_acts_195 rfl (lv_at hl 0 rfl) ?_
    refine lv_iload_n X.1 X.2.1 dX12_acts_196 rfl (lv_at hl 1 rfl) ?_
    refine k_i (rm := { frames := 6, cells := 0, slots := 0, locals := 288 }) (av := [.ref x, .int (a1)]) X hw (va_runV (As := [.int (a1)]) (rest := []) (cfix X) (k_X12_cuts l G cy κ S _ x (a1) (a1_z) hO.1 ha_x hz_a1 (by first | assumption | omega) (by first | assumption | omega) hp_4) (cwV 1 X.2.2.2.1 gX12_acts_X12_cuts rfl rfl rfl (by decide +kernel) ⟨Nat.le_of_ble_eq_true rfl, Nat.le_of_ble_eq_true rfl⟩) (pre_V X hw _ ha_x rfl (by decide) rfl) rfl rfl hl.1 rfl (lv_room (Nat.le_of_ble_eq_true rfl)) dX12_acts_197 ⟨Nat.le_of_ble_eq_true rfl, Nat.le_of_ble_eq_true rfl⟩) 0 0 (Nat.le_of_ble_eq_true rfl) (Nat.le_of_ble_eq_true rfl) (fun rr_272 S_273 H locs hp hw hfr hnw => ?_)
    obtain ⟨hk_274, hp⟩ := hp
    have hO_275 : Ok MAC S S_273 := hO.call hk_274 (by decide +kernel)
    obtain ⟨mi_276, cu_277⟩ := hp
    have rg_278 := And.intro (z_lo rr_272) (z_hi rr_272)
    refine lv_istore_n (lv' := [(3, .int (rr_272)), (0, .ref x), (1, .int (a1)), (2, .int (a2))]) X.1 X.2.1 dX12_acts_200 rfl hl (by decide) rfl (fun ls hl => ?_)
    exact ret_v X hw hr hlocks (Nat.le_of_ble_eq_true rfl) (Nat.le_of_ble_eq_true rfl) ⟨hO_275, ⟨mi_276, fun hgr => (GR_set cu_277 (by omega) hgr)⟩⟩ dX12_acts_201
