/-! ===== the reference's rows over single steps ===== -/
theorem zA_fr {M : List Nat} {S S' : PS} {x g k : Nat} (hF : Fr M S S') (ha : At S x 12) (hq : ∃ q, pR S g x = some q ∧ At S q k) (h1 : M.contains g = false) (h2 : M.contains (10000 + k) = false) : zA S' x g = zA S x g := by
  funext i
  rw [zA_eq, zA_eq, mA_fr hF ha hq h1 h2]
theorem mA_sI {S S1 : PS} {x g h b : Nat} {v : Int32} (e : S1 = sI S h b v) : mA S1 x g = mA S x g := by
  subst e
  unfold mA
  rw [pR_sI, pA_sI]
theorem mA_sAn {S S1 : PS} {x g b k k' : Nat} {f : Nat → Int32} (e : S1 = sA S b f) (hq : ∃ q, pR S g x = some q ∧ At S q k) (hb : At S b k') (hn : Nat.beq k k' = false) : mA S1 x g = mA S x g := by
  subst e
  obtain ⟨q, h1, h2⟩ := hq
  rw [mA_eq h1, mA_eq (show pR (sA S b f) g x = some q by rw [pR_sA]; exact h1), pA_sA_ne (fun z => Nat.ne_of_beq_eq_false hn (by rw [← h2.2, ← hb.2, z]))]
theorem zA_of_mA {S S1 : PS} {x g : Nat} (h : mA S1 x g = mA S x g) : zA S1 x g = zA S x g := by
  funext i
  rw [zA_eq, zA_eq, h]
theorem zA_sI {S S1 : PS} {x g h b : Nat} {v : Int32} (e : S1 = sI S h b v) : zA S1 x g = zA S x g := zA_of_mA (mA_sI e)
theorem zA_sAn {S S1 : PS} {x g b k k' : Nat} {f : Nat → Int32} (e : S1 = sA S b f) (hq : ∃ q, pR S g x = some q ∧ At S q k) (hb : At S b k') (hn : Nat.beq k k' = false) : zA S1 x g = zA S x g := zA_of_mA (mA_sAn e hq hb hn)
theorem zA_sAs {S S1 : PS} {x g q i : Nat} {v : Int32} {z : Int} (e : S1 = sA S q (upd (pA S q) i v)) (hR : pR S g x = some q) (hv : v.toInt = z) : ∀ j, zA S1 x g j = if j = i then z else zA S x g j := fun j => by
  subst e
  rw [zA_eq, zA_eq, mA_eq hR, mA_eq (show pR (sA S q (upd (pA S q) i v)) g x = some q by rw [pR_sA]; exact hR)]
  have e2 : pA (sA S q (upd (pA S q) i v)) q = upd (pA S q) i v := if_pos rfl
  rw [e2]
  unfold upd
  by_cases h : j = i
  · subst h; simp [hv]
  · simp [h, Ne.symm h]
theorem nar1 : (vp_nar .boolean 1).toInt = 1 := by decide +kernel
theorem nar0 : (vp_nar .boolean 0).toInt = 0 := by decide +kernel
theorem ex3 {A B C : Nat → Prop} (h : ∃ q, A q ∧ B q ∧ C q) : ∃ q, A q ∧ B q := by
  obtain ⟨q, a, b, -⟩ := h
  exact ⟨q, a, b⟩
theorem MIe_sI {S S1 : PS} {x g b : Nat} {v : Int32} {e : Int} (h : MIe S x e) (hG : GX S) (ha : At S x 12) (he : S1 = sI S g b v) (hM : freeM [g] = true) : MIe S1 x e := MIe_free hG ha (show Fr [g] S S1 by rw [he]; exact Fr_sI List.mem_cons_self) hM h
theorem MIe_sA {S S1 : PS} {x b k : Nat} {f : Nat → Int32} {e : Int} (h : MIe S x e) (hG : GX S) (ha : At S x 12) (hb : At S b k) (he : S1 = sA S b f) (hM : freeM [10000 + k] = true) : MIe S1 x e := MIe_free hG ha (show Fr [10000 + k] S S1 by rw [he]; exact Fr_sA hb List.mem_cons_self) hM h
/-! ===== a metre's fineness as a function, and the thinnest of a row ===== -/
def fnI (sd bs i th : Int32) : Int32 := (bs + prt (nxt (nxt (sd + 7919 * i))) 9 - 4) * th / 100
theorem fnZ_ex (S : PS) (x : Nat) : ∃ f : Int → Int → Int, f = fun c p => (fnI (mA S x 1203 (c / 60).toNat) (mA S x 1204 (c / 60).toNat) (Int32.ofInt (c % 60)) (mA S x 1210 (8 * p / lenZ S x c).toNat)).toInt := ⟨_, rfl⟩
noncomputable def fnZ (S : PS) (x : Nat) : Int → Int → Int := Classical.choose (fnZ_ex S x)
theorem fnZ_eq (S : PS) (x : Nat) (c p : Int) : fnZ S x c p = (fnI (mA S x 1203 (c / 60).toNat) (mA S x 1204 (c / 60).toNat) (Int32.ofInt (c % 60)) (mA S x 1210 (8 * p / lenZ S x c).toNat)).toInt := congrFun (congrFun (Classical.choose_spec (fnZ_ex S x)) c) p
noncomputable def thF (S : PS) (x : Nat) (p : Int) (k : Nat) : Int := fnZ S x (zA S x 1218 (600 * (3 * p + 1) + (k : Int)).toNat) (zA S x 1208 (zA S x 1218 (600 * (3 * p + 1) + (k : Int)).toNat).toNat)
theorem thF_of {S : PS} {x : Nat} {p k r u v : Int} (hk : 0 ≤ k) (h1 : r = zA S x 1218 (600 * (3 * p + 1) + k).toNat) (h2 : zA S x 1208 r.toNat = u) (h3 : v = fnZ S x r u) : thF S x p k.toNat = v := by
  unfold thF
  rw [Int.toNat_of_nonneg hk, ← h1, h2, h3]
def thS (f : Nat → Int) : Nat → Int → Int
  | 0, b => b
  | k + 1, b => thS f k (if b = -1 ∨ f k ≤ f b.toNat then (k : Int) else b)
theorem thS_yes {f : Nat → Int} {k b T : Int} (hk : 0 ≤ k) (h : thS f (k + 1).toNat b = T) (hb : b = -1 ∨ f k.toNat ≤ f b.toNat) : thS f k.toNat k = T := by
  rw [show (k + 1).toNat = k.toNat + 1 by omega] at h
  unfold thS at h
  rw [if_pos hb, Int.toNat_of_nonneg hk] at h
  exact h
theorem thS_no {f : Nat → Int} {k b T : Int} (hk : 0 ≤ k) (h : thS f (k + 1).toNat b = T) (hb : b ≠ -1) (hf : f b.toNat < f k.toNat) : thS f k.toNat b = T := by
  rw [show (k + 1).toNat = k.toNat + 1 by omega] at h
  unfold thS at h
  rw [if_neg (by omega)] at h
  exact h
noncomputable def thZ (S : PS) (x : Nat) (p : Int) : Int := thS (thF S x p) (zA S x 1219 (3 * p + 1).toNat).toNat (-1)
set_option maxRecDepth 20000 in
theorem ggX12_cocoon_X12_isCocoon : GoodIn wsX12_cocoon wsX12_isCocoon := goodIn_h _ [8, 0, 0, 0, 0, 0, 0, 23, 0, 0, 0, 0, 0, 0, 0, 0, 0, 0, 0, 0, 0, 0, 0, 0, 0, 0, 0, 0, 0, 0, 0, 0, 0, 0, 0, 0, 0, 0, 0, 0, 0, 0, 0, 0, 0, 0, 0, 0, 0, 0, 0, 0, 0, 0, 0, 0, 0, 0, 0, 0, 0, 0, 0, 0, 0, 0, 0, 0, 0, 0, 0, 0, 0] [1, 2, 3, 4, 5, 0, 6, 7, 8, 9, 10, 11, 12, 13, 14, 15, 16, 17, 18, 19, 20, 21, 22, 23, 24, 25, 26, 27, 28, 29, 30, 31, 32, 33, 34, 35, 36, 37, 38, 39, 40, 41, 42, 43, 44, 45, 46, 47, 48, 49, 50, 51, 52, 53, 54, 55, 56, 57, 58, 59, 60, 61, 62, 63, 64, 65, 66, 67, 68, 69, 70, 71, 72] (by decide +kernel) (by decide +kernel)
set_option maxRecDepth 20000 in
theorem gX12_cocoon_X12_isCocoon : GoodIn wsX12_cocoon (wsV RX12 186 RX12 yX12_isCocoon wsX12_isCocoon) := goodIn_app (goodIn_of _ (by decide +kernel)) ggX12_cocoon_X12_isCocoon
set_option maxRecDepth 20000 in
theorem ggX12_cocoon_X12_lengthOf : GoodIn wsX12_cocoon wsX12_lengthOf := goodIn_h _ [8, 9, 0, 0, 0, 0, 0, 0, 0, 0, 0, 10, 0, 0, 0, 0, 0, 0, 0, 0, 0, 0, 0, 0, 0, 0, 0, 0, 0, 0, 0, 0, 0, 0, 0, 0, 0, 0, 0, 0, 0, 0, 0, 0, 0, 0, 0, 0, 0, 0, 0, 0, 0, 0, 0, 0, 0, 0, 0, 0, 0, 0, 0, 0, 0, 0, 0, 0, 0, 0, 0, 0, 0, 0, 0, 0, 0] [1, 2, 3, 4, 5, 0, 6, 7, 8, 9, 10, 11, 12, 13, 14, 15, 16, 17, 18, 19, 20, 21, 22, 23, 24, 25, 26, 27, 28, 29, 30, 31, 32, 33, 34, 35, 36, 37, 38, 39, 40, 41, 42, 43, 44, 45, 46, 47, 48, 49, 50, 51, 52, 53, 54, 55, 56, 57, 58, 59, 60, 61, 62, 63, 64, 65, 66, 67, 68, 69, 70, 71, 72, 73, 74, 75, 76] (by decide +kernel) (by decide +kernel)
set_option maxRecDepth 20000 in
theorem gX12_cocoon_X12_lengthOf : GoodIn wsX12_cocoon (wsV RX12 180 RX12 yX12_lengthOf wsX12_lengthOf) := goodIn_app (goodIn_of _ (by decide +kernel)) ggX12_cocoon_X12_lengthOf
set_option maxRecDepth 20000 in
theorem ggX12_cocoon_X12_fineOf : GoodIn wsX12_cocoon wsX12_fineOf := goodIn_h _ [8, 6, 0, 0, 0, 0, 0, 0, 0, 0, 0, 0, 0, 0, 3, 0, 0, 4, 0, 0, 0, 0, 0, 0, 0, 0, 0, 0, 0, 0, 0, 0, 0, 0, 0, 0, 0, 0, 0, 0, 0, 0, 0, 0, 0, 0, 0, 0, 0, 0, 0, 0, 0, 0, 0, 0, 0, 0, 0, 0, 0, 0, 0, 0, 0, 0, 0, 0, 0, 0, 0, 0, 0, 0, 0, 0, 0, 0, 0, 0, 0, 0, 0] [14, 6, 15, 16, 7, 8, 0, 9, 10, 11, 12, 13, 1, 2, 3, 4, 5, 17, 18, 19, 20, 21, 22, 23, 24, 25, 26, 27, 28, 29, 30, 31, 32, 33, 34, 35, 36, 37, 38, 39, 40, 41, 42, 43, 44, 45, 46, 47, 48, 49, 50, 51, 52, 53, 54, 55, 56, 57, 58, 59, 60, 61, 62, 63, 64, 65, 66, 67, 68, 69, 70, 71, 72, 73, 74, 75, 76, 77, 78, 79, 80, 81, 82] (by decide +kernel) (by decide +kernel)
set_option maxRecDepth 20000 in
theorem gX12_cocoon_X12_fineOf : GoodIn wsX12_cocoon (wsV RX12 183 RX12 yX12_fineOf wsX12_fineOf) := goodIn_app (goodIn_of _ (by decide +kernel)) ggX12_cocoon_X12_fineOf
set_option maxRecDepth 20000 in
theorem ggX12_cocoon_X12_silk : GoodIn wsX12_cocoon wsX12_silk := goodIn_h _ [8, 6, 0, 0, 0, 0, 0, 0, 0, 0, 0, 0, 0, 0, 0, 0, 0, 0, 0, 0, 3, 0, 0, 0, 0, 0, 0, 0, 0, 0, 0, 0, 0, 0, 0, 0, 0, 0, 0, 0, 0, 0, 0, 0, 0, 0, 0, 0, 0, 0, 0, 0, 0, 0, 0, 0, 0, 0, 0, 0, 0, 0, 0, 0, 0, 0, 0, 0, 0, 0, 0, 0, 0, 0, 0, 0, 0, 0, 0, 0, 0, 0, 0, 0, 0, 0, 0] [20, 14, 15, 16, 0, 17, 6, 18, 19, 7, 8, 9, 10, 11, 12, 13, 1, 2, 3, 4, 5, 21, 22, 23, 24, 25, 26, 27, 28, 29, 30, 31, 32, 33, 34, 35, 36, 37, 38, 39, 40, 41, 42, 43, 44, 45, 46, 47, 48, 49, 50, 51, 52, 53, 54, 55, 56, 57, 58, 59, 60, 61, 62, 63, 64, 65, 66, 67, 68, 69, 70, 71, 72, 73, 74, 75, 76, 77, 78, 79, 80, 81, 82, 83, 84, 85, 86] (by decide +kernel) (by decide +kernel)
set_option maxRecDepth 20000 in
theorem gX12_cocoon_X12_silk : GoodIn wsX12_cocoon (wsV RX12 190 RX12 yX12_silk wsX12_silk) := goodIn_app (goodIn_of _ (by decide +kernel)) ggX12_cocoon_X12_silk
set_option maxRecDepth 20000 in
theorem ggX12_cocoon_X12_within : GoodIn wsX12_cocoon wsX12_within := goodIn_h _ [14] [0] (by decide +kernel) (by decide +kernel)
set_option maxRecDepth 20000 in
theorem gX12_cocoon_X12_within : GoodIn wsX12_cocoon (va_wsS RX12 168 yX12_within wsX12_within) := goodIn_app (goodIn_of _ (by decide +kernel)) ggX12_cocoon_X12_within
theorem dX12_cocoon_0 : decode cX12_cocoon 0 = .ok (.aload_n 0, 1) := by decide +kernel
theorem dX12_cocoon_1 : decode cX12_cocoon 1 = .ok (.iconst 0, 1) := by decide +kernel
theorem dX12_cocoon_2 : decode cX12_cocoon 2 = .ok (.putfield 161, 3) := by decide +kernel
theorem dX12_cocoon_5 : decode cX12_cocoon 5 = .ok (.aload_n 0, 1) := by decide +kernel
theorem dX12_cocoon_6 : decode cX12_cocoon 6 = .ok (.iload_n 1, 1) := by decide +kernel
theorem dX12_cocoon_7 : decode cX12_cocoon 7 = .ok (.iload_n 2, 1) := by decide +kernel
theorem dX12_cocoon_8 : decode cX12_cocoon 8 = .ok (.invokevirtual 186, 3) := by decide +kernel
theorem dX12_cocoon_11 : decode cX12_cocoon 11 = .ok (.ifCond .ne 5, 3) := by decide +kernel
theorem dX12_cocoon_14 : decode cX12_cocoon 14 = .ok (.iconst (-1), 1) := by decide +kernel
theorem dX12_cocoon_15 : decode cX12_cocoon 15 = .ok (.ireturn, 1) := by decide +kernel
theorem dX12_cocoon_16 : decode cX12_cocoon 16 = .ok (.bipush 60, 2) := by decide +kernel
theorem dX12_cocoon_18 : decode cX12_cocoon 18 = .ok (.iload_n 1, 1) := by decide +kernel
theorem dX12_cocoon_19 : decode cX12_cocoon 19 = .ok (.imul, 1) := by decide +kernel
theorem dX12_cocoon_20 : decode cX12_cocoon 20 = .ok (.iload_n 2, 1) := by decide +kernel
theorem dX12_cocoon_21 : decode cX12_cocoon 21 = .ok (.iadd, 1) := by decide +kernel
theorem dX12_cocoon_22 : decode cX12_cocoon 22 = .ok (.istore 4, 2) := by decide +kernel
theorem dX12_cocoon_24 : decode cX12_cocoon 24 = .ok (.iload_n 3, 1) := by decide +kernel
theorem dX12_cocoon_25 : decode cX12_cocoon 25 = .ok (.tableswitch 151 0 6 #[43, 50, 58, 66, 95, 109, 124], 43) := by decide +kernel
theorem dX12_cocoon_68 : decode cX12_cocoon 68 = .ok (.aload_n 0, 1) := by decide +kernel
theorem dX12_cocoon_69 : decode cX12_cocoon 69 = .ok (.iload 4, 2) := by decide +kernel
theorem dX12_cocoon_71 : decode cX12_cocoon 71 = .ok (.invokevirtual 180, 3) := by decide +kernel
theorem dX12_cocoon_74 : decode cX12_cocoon 74 = .ok (.ireturn, 1) := by decide +kernel
theorem dX12_cocoon_75 : decode cX12_cocoon 75 = .ok (.aload_n 0, 1) := by decide +kernel
theorem dX12_cocoon_76 : decode cX12_cocoon 76 = .ok (.getfield 25, 3) := by decide +kernel
theorem dX12_cocoon_79 : decode cX12_cocoon 79 = .ok (.iload 4, 2) := by decide +kernel
theorem dX12_cocoon_81 : decode cX12_cocoon 81 = .ok (.iaload, 1) := by decide +kernel
theorem dX12_cocoon_82 : decode cX12_cocoon 82 = .ok (.ireturn, 1) := by decide +kernel
theorem dX12_cocoon_83 : decode cX12_cocoon 83 = .ok (.aload_n 0, 1) := by decide +kernel
theorem dX12_cocoon_84 : decode cX12_cocoon 84 = .ok (.getfield 28, 3) := by decide +kernel
theorem dX12_cocoon_87 : decode cX12_cocoon 87 = .ok (.iload 4, 2) := by decide +kernel
theorem dX12_cocoon_89 : decode cX12_cocoon 89 = .ok (.iaload, 1) := by decide +kernel
theorem dX12_cocoon_90 : decode cX12_cocoon 90 = .ok (.ireturn, 1) := by decide +kernel
theorem dX12_cocoon_91 : decode cX12_cocoon 91 = .ok (.aload_n 0, 1) := by decide +kernel
theorem dX12_cocoon_92 : decode cX12_cocoon 92 = .ok (.getfield 25, 3) := by decide +kernel
theorem dX12_cocoon_95 : decode cX12_cocoon 95 = .ok (.iload 4, 2) := by decide +kernel
theorem dX12_cocoon_97 : decode cX12_cocoon 97 = .ok (.iaload, 1) := by decide +kernel
theorem dX12_cocoon_98 : decode cX12_cocoon 98 = .ok (.iconst 4, 1) := by decide +kernel
theorem dX12_cocoon_99 : decode cX12_cocoon 99 = .ok (.if_icmp .ne 7, 3) := by decide +kernel
theorem dX12_cocoon_102 : decode cX12_cocoon 102 = .ok (.iconst 0, 1) := by decide +kernel
theorem dX12_cocoon_103 : decode cX12_cocoon 103 = .ok (.goto 16, 3) := by decide +kernel
theorem dX12_cocoon_106 : decode cX12_cocoon 106 = .ok (.aload_n 0, 1) := by decide +kernel
theorem dX12_cocoon_107 : decode cX12_cocoon 107 = .ok (.iload 4, 2) := by decide +kernel
theorem dX12_cocoon_109 : decode cX12_cocoon 109 = .ok (.aload_n 0, 1) := by decide +kernel
theorem dX12_cocoon_110 : decode cX12_cocoon 110 = .ok (.getfield 28, 3) := by decide +kernel
theorem dX12_cocoon_113 : decode cX12_cocoon 113 = .ok (.iload 4, 2) := by decide +kernel
theorem dX12_cocoon_115 : decode cX12_cocoon 115 = .ok (.iaload, 1) := by decide +kernel
theorem dX12_cocoon_116 : decode cX12_cocoon 116 = .ok (.invokevirtual 183, 3) := by decide +kernel
theorem dX12_cocoon_119 : decode cX12_cocoon 119 = .ok (.ireturn, 1) := by decide +kernel
theorem dX12_cocoon_120 : decode cX12_cocoon 120 = .ok (.aload_n 0, 1) := by decide +kernel
theorem dX12_cocoon_121 : decode cX12_cocoon 121 = .ok (.iload 4, 2) := by decide +kernel
theorem dX12_cocoon_123 : decode cX12_cocoon 123 = .ok (.iconst 0, 1) := by decide +kernel
theorem dX12_cocoon_124 : decode cX12_cocoon 124 = .ok (.aload_n 0, 1) := by decide +kernel
theorem dX12_cocoon_125 : decode cX12_cocoon 125 = .ok (.iload 4, 2) := by decide +kernel
theorem dX12_cocoon_127 : decode cX12_cocoon 127 = .ok (.invokevirtual 180, 3) := by decide +kernel
theorem dX12_cocoon_130 : decode cX12_cocoon 130 = .ok (.invokevirtual 190, 3) := by decide +kernel
theorem dX12_cocoon_133 : decode cX12_cocoon 133 = .ok (.ireturn, 1) := by decide +kernel
theorem dX12_cocoon_134 : decode cX12_cocoon 134 = .ok (.aload_n 0, 1) := by decide +kernel
theorem dX12_cocoon_135 : decode cX12_cocoon 135 = .ok (.iload 4, 2) := by decide +kernel
theorem dX12_cocoon_137 : decode cX12_cocoon 137 = .ok (.iconst 0, 1) := by decide +kernel
theorem dX12_cocoon_138 : decode cX12_cocoon 138 = .ok (.aload_n 0, 1) := by decide +kernel
theorem dX12_cocoon_139 : decode cX12_cocoon 139 = .ok (.getfield 28, 3) := by decide +kernel
theorem dX12_cocoon_142 : decode cX12_cocoon 142 = .ok (.iload 4, 2) := by decide +kernel
theorem dX12_cocoon_144 : decode cX12_cocoon 144 = .ok (.iaload, 1) := by decide +kernel
theorem dX12_cocoon_145 : decode cX12_cocoon 145 = .ok (.invokevirtual 190, 3) := by decide +kernel
theorem dX12_cocoon_148 : decode cX12_cocoon 148 = .ok (.ireturn, 1) := by decide +kernel
theorem dX12_cocoon_149 : decode cX12_cocoon 149 = .ok (.aload_n 0, 1) := by decide +kernel
theorem dX12_cocoon_150 : decode cX12_cocoon 150 = .ok (.getfield 25, 3) := by decide +kernel
theorem dX12_cocoon_153 : decode cX12_cocoon 153 = .ok (.iload 4, 2) := by decide +kernel
theorem dX12_cocoon_155 : decode cX12_cocoon 155 = .ok (.iaload, 1) := by decide +kernel
theorem dX12_cocoon_156 : decode cX12_cocoon 156 = .ok (.iconst 1, 1) := by decide +kernel
theorem dX12_cocoon_157 : decode cX12_cocoon 157 = .ok (.iconst 3, 1) := by decide +kernel
theorem dX12_cocoon_158 : decode cX12_cocoon 158 = .ok (.invokestatic 168, 3) := by decide +kernel
theorem dX12_cocoon_161 : decode cX12_cocoon 161 = .ok (.ifCond .eq 13, 3) := by decide +kernel
theorem dX12_cocoon_164 : decode cX12_cocoon 164 = .ok (.aload_n 0, 1) := by decide +kernel
theorem dX12_cocoon_165 : decode cX12_cocoon 165 = .ok (.getfield 31, 3) := by decide +kernel
theorem dX12_cocoon_168 : decode cX12_cocoon 168 = .ok (.iload 4, 2) := by decide +kernel
theorem dX12_cocoon_170 : decode cX12_cocoon 170 = .ok (.iaload, 1) := by decide +kernel
theorem dX12_cocoon_171 : decode cX12_cocoon 171 = .ok (.goto 4, 3) := by decide +kernel
theorem dX12_cocoon_174 : decode cX12_cocoon 174 = .ok (.iconst (-1), 1) := by decide +kernel
theorem dX12_cocoon_175 : decode cX12_cocoon 175 = .ok (.ireturn, 1) := by decide +kernel
theorem dX12_cocoon_176 : decode cX12_cocoon 176 = .ok (.iconst (-1), 1) := by decide +kernel
theorem dX12_cocoon_177 : decode cX12_cocoon 177 = .ok (.ireturn, 1) := by decide +kernel
set_option maxRecDepth 20000 in
theorem ggX12_fineness_X12_isCocoon : GoodIn wsX12_fineness wsX12_isCocoon := goodIn_h _ [5, 0, 0, 0, 0, 0, 0, 19, 0, 0, 0, 0, 0, 0, 0, 0, 0, 0, 0, 0, 0, 0, 0, 0, 0, 0, 0, 0, 0, 0, 0, 0, 0, 0, 0, 0, 0, 0, 0, 0, 0, 0, 0, 0, 0, 0, 0, 0, 0, 0, 0, 0, 0, 0, 0, 0, 0, 0, 0, 0, 0, 0, 0, 0, 0, 0, 0, 0, 0, 0, 0, 0, 0] [1, 2, 3, 4, 5, 0, 6, 7, 8, 9, 10, 11, 12, 13, 14, 15, 16, 17, 18, 19, 20, 21, 22, 23, 24, 25, 26, 27, 28, 29, 30, 31, 32, 33, 34, 35, 36, 37, 38, 39, 40, 41, 42, 43, 44, 45, 46, 47, 48, 49, 50, 51, 52, 53, 54, 55, 56, 57, 58, 59, 60, 61, 62, 63, 64, 65, 66, 67, 68, 69, 70, 71, 72] (by decide +kernel) (by decide +kernel)
set_option maxRecDepth 20000 in
theorem gX12_fineness_X12_isCocoon : GoodIn wsX12_fineness (wsV RX12 186 RX12 yX12_isCocoon wsX12_isCocoon) := goodIn_app (goodIn_of _ (by decide +kernel)) ggX12_fineness_X12_isCocoon
set_option maxRecDepth 20000 in
theorem ggX12_fineness_X12_lengthOf : GoodIn wsX12_fineness wsX12_lengthOf := goodIn_h _ [5, 9, 0, 0, 0, 0, 0, 0, 0, 0, 0, 6, 0, 0, 0, 0, 0, 0, 0, 0, 0, 0, 0, 0, 0, 0, 0, 0, 0, 0, 0, 0, 0, 0, 0, 0, 0, 0, 0, 0, 0, 0, 0, 0, 0, 0, 0, 0, 0, 0, 0, 0, 0, 0, 0, 0, 0, 0, 0, 0, 0, 0, 0, 0, 0, 0, 0, 0, 0, 0, 0, 0, 0, 0, 0, 0, 0] [1, 2, 3, 4, 5, 0, 6, 7, 8, 9, 10, 11, 12, 13, 14, 15, 16, 17, 18, 19, 20, 21, 22, 23, 24, 25, 26, 27, 28, 29, 30, 31, 32, 33, 34, 35, 36, 37, 38, 39, 40, 41, 42, 43, 44, 45, 46, 47, 48, 49, 50, 51, 52, 53, 54, 55, 56, 57, 58, 59, 60, 61, 62, 63, 64, 65, 66, 67, 68, 69, 70, 71, 72, 73, 74, 75, 76] (by decide +kernel) (by decide +kernel)
set_option maxRecDepth 20000 in
theorem gX12_fineness_X12_lengthOf : GoodIn wsX12_fineness (wsV RX12 180 RX12 yX12_lengthOf wsX12_lengthOf) := goodIn_app (goodIn_of _ (by decide +kernel)) ggX12_fineness_X12_lengthOf
set_option maxRecDepth 20000 in
theorem ggX12_fineness_X12_within : GoodIn wsX12_fineness wsX12_within := goodIn_h _ [11] [0] (by decide +kernel) (by decide +kernel)
set_option maxRecDepth 20000 in
theorem gX12_fineness_X12_within : GoodIn wsX12_fineness (va_wsS RX12 168 yX12_within wsX12_within) := goodIn_app (goodIn_of _ (by decide +kernel)) ggX12_fineness_X12_within
set_option maxRecDepth 20000 in
theorem ggX12_fineness_X12_fineOf : GoodIn wsX12_fineness wsX12_fineOf := goodIn_h _ [5, 6, 0, 0, 0, 0, 0, 0, 0, 0, 0, 0, 0, 0, 3, 0, 0, 0, 0, 0, 0, 0, 0, 0, 0, 0, 0, 0, 0, 0, 0, 0, 0, 0, 0, 0, 0, 0, 0, 0, 0, 0, 0, 0, 0, 0, 0, 0, 0, 0, 0, 0, 0, 0, 0, 0, 0, 0, 0, 0, 0, 0, 0, 0, 0, 0, 0, 0, 0, 0, 0, 0, 0, 0, 0, 0, 0, 0, 0, 0, 0, 0, 0] [14, 6, 15, 16, 7, 8, 0, 9, 10, 11, 12, 13, 1, 2, 3, 4, 5, 17, 18, 19, 20, 21, 22, 23, 24, 25, 26, 27, 28, 29, 30, 31, 32, 33, 34, 35, 36, 37, 38, 39, 40, 41, 42, 43, 44, 45, 46, 47, 48, 49, 50, 51, 52, 53, 54, 55, 56, 57, 58, 59, 60, 61, 62, 63, 64, 65, 66, 67, 68, 69, 70, 71, 72, 73, 74, 75, 76, 77, 78, 79, 80, 81, 82] (by decide +kernel) (by decide +kernel)
set_option maxRecDepth 20000 in
theorem gX12_fineness_X12_fineOf : GoodIn wsX12_fineness (wsV RX12 183 RX12 yX12_fineOf wsX12_fineOf) := goodIn_app (goodIn_of _ (by decide +kernel)) ggX12_fineness_X12_fineOf
theorem dX12_fineness_0 : decode cX12_fineness 0 = .ok (.aload_n 0, 1) := by decide +kernel
theorem dX12_fineness_1 : decode cX12_fineness 1 = .ok (.iload_n 1, 1) := by decide +kernel
theorem dX12_fineness_2 : decode cX12_fineness 2 = .ok (.iload_n 2, 1) := by decide +kernel
theorem dX12_fineness_3 : decode cX12_fineness 3 = .ok (.invokevirtual 186, 3) := by decide +kernel
theorem dX12_fineness_6 : decode cX12_fineness 6 = .ok (.ifCond .eq 27, 3) := by decide +kernel
theorem dX12_fineness_9 : decode cX12_fineness 9 = .ok (.iload_n 3, 1) := by decide +kernel
theorem dX12_fineness_10 : decode cX12_fineness 10 = .ok (.iconst 0, 1) := by decide +kernel
theorem dX12_fineness_11 : decode cX12_fineness 11 = .ok (.aload_n 0, 1) := by decide +kernel
theorem dX12_fineness_12 : decode cX12_fineness 12 = .ok (.bipush 60, 2) := by decide +kernel
theorem dX12_fineness_14 : decode cX12_fineness 14 = .ok (.iload_n 1, 1) := by decide +kernel
theorem dX12_fineness_15 : decode cX12_fineness 15 = .ok (.imul, 1) := by decide +kernel
theorem dX12_fineness_16 : decode cX12_fineness 16 = .ok (.iload_n 2, 1) := by decide +kernel
theorem dX12_fineness_17 : decode cX12_fineness 17 = .ok (.iadd, 1) := by decide +kernel
theorem dX12_fineness_18 : decode cX12_fineness 18 = .ok (.invokevirtual 180, 3) := by decide +kernel
theorem dX12_fineness_21 : decode cX12_fineness 21 = .ok (.iconst 1, 1) := by decide +kernel
theorem dX12_fineness_22 : decode cX12_fineness 22 = .ok (.isub, 1) := by decide +kernel
theorem dX12_fineness_23 : decode cX12_fineness 23 = .ok (.invokestatic 168, 3) := by decide +kernel
theorem dX12_fineness_26 : decode cX12_fineness 26 = .ok (.ifCond .eq 7, 3) := by decide +kernel
theorem dX12_fineness_29 : decode cX12_fineness 29 = .ok (.iconst 1, 1) := by decide +kernel
theorem dX12_fineness_30 : decode cX12_fineness 30 = .ok (.goto 4, 3) := by decide +kernel
theorem dX12_fineness_33 : decode cX12_fineness 33 = .ok (.iconst 0, 1) := by decide +kernel
theorem dX12_fineness_34 : decode cX12_fineness 34 = .ok (.istore 4, 2) := by decide +kernel
theorem dX12_fineness_36 : decode cX12_fineness 36 = .ok (.aload_n 0, 1) := by decide +kernel
theorem dX12_fineness_37 : decode cX12_fineness 37 = .ok (.iload 4, 2) := by decide +kernel
theorem dX12_fineness_39 : decode cX12_fineness 39 = .ok (.ifCond .eq 7, 3) := by decide +kernel
theorem dX12_fineness_42 : decode cX12_fineness 42 = .ok (.iconst 0, 1) := by decide +kernel
theorem dX12_fineness_43 : decode cX12_fineness 43 = .ok (.goto 4, 3) := by decide +kernel
theorem dX12_fineness_46 : decode cX12_fineness 46 = .ok (.iconst 1, 1) := by decide +kernel
theorem dX12_fineness_47 : decode cX12_fineness 47 = .ok (.putfield 161, 3) := by decide +kernel
theorem dX12_fineness_50 : decode cX12_fineness 50 = .ok (.iload 4, 2) := by decide +kernel
theorem dX12_fineness_52 : decode cX12_fineness 52 = .ok (.ifCond .eq 17, 3) := by decide +kernel
theorem dX12_fineness_55 : decode cX12_fineness 55 = .ok (.aload_n 0, 1) := by decide +kernel
theorem dX12_fineness_56 : decode cX12_fineness 56 = .ok (.bipush 60, 2) := by decide +kernel
theorem dX12_fineness_58 : decode cX12_fineness 58 = .ok (.iload_n 1, 1) := by decide +kernel
theorem dX12_fineness_59 : decode cX12_fineness 59 = .ok (.imul, 1) := by decide +kernel
theorem dX12_fineness_60 : decode cX12_fineness 60 = .ok (.iload_n 2, 1) := by decide +kernel
theorem dX12_fineness_61 : decode cX12_fineness 61 = .ok (.iadd, 1) := by decide +kernel
theorem dX12_fineness_62 : decode cX12_fineness 62 = .ok (.iload_n 3, 1) := by decide +kernel
theorem dX12_fineness_63 : decode cX12_fineness 63 = .ok (.invokevirtual 183, 3) := by decide +kernel
theorem dX12_fineness_66 : decode cX12_fineness 66 = .ok (.goto 4, 3) := by decide +kernel
theorem dX12_fineness_69 : decode cX12_fineness 69 = .ok (.iconst 0, 1) := by decide +kernel
theorem dX12_fineness_70 : decode cX12_fineness 70 = .ok (.ireturn, 1) := by decide +kernel
theorem inn_X12_cocoon_12 : ∀ w ∈ u_ws RX12 TX12 66, w ∈ wsX12_cocoon := fun w h => List.mem_cons_of_mem _ (List.mem_append_right _ h)
theorem inn_X12_fineness_12 : ∀ w ∈ u_ws RX12 TX12 66, w ∈ wsX12_fineness := fun w h => List.mem_cons_of_mem _ (List.mem_append_right _ h)
set_option maxHeartbeats 4000000 in
set_option maxRecDepth 100000 in
theorem k_X12_cocoon (l : Launch) (G : va_G) (cy : Nat → ClassId) (κ : Nat → Nat) (S : PS) (sz : Nat) (x : Nat) (a1 : Int32) (a1_z : Int) (a2 : Int32) (a2_z : Int) (a3 : Int32) (a3_z : Int) (hG : GX S) (ha_x : At S x 12) (hz_a1 : a1.toInt = a1_z) (hz_a2 : a2.toInt = a2_z) (hz_a3 : a3.toInt = a3_z) (hp_0 : MI S x) : Ci l yX12_cocoon wsX12_cocoon ({ frames := 5, cells := 0, slots := 0, locals := 240 }) G cy κ S sz [.ref x, .int (a1), .int (a2), .int (a3)] (fun (r : Int32) (S9 : PS) => Ok MN S S9 ∧ (True)) := by
  refine ent_m (cc := cX12_cocoon) (maxL := 5) (ret := (some .int)) (by decide) rfl (Nat.le_of_ble_eq_true rfl) ?_
  intro p e s m below meth c ls X hr hlocks hin hw hl hsz
  subst hsz
  have X : Cx p c cX12_cocoon 5 s [.ref x, .int (a1), .int (a2), .int (a3)].toArray wsX12_cocoon RX12 m G cy κ (AS S s.heap.size) := X
  have hl : lv_has ls 5 [(0, .ref x), (1, .int (a1)), (2, .int (a2)), (3, .int (a3))] := hl
  have rg_a1 : (-2147483648) ≤ a1_z ∧ a1_z ≤ 2147483647 := by rw [← hz_a1]; exact ⟨z_lo _, z_hi _⟩
  have rg_a2 : (-2147483648) ≤ a2_z ∧ a2_z ≤ 2147483647 := by rw [← hz_a2]; exact ⟨z_lo _, z_hi _⟩
  have rg_a3 : (-2147483648) ≤ a3_z ∧ a3_z ≤ 2147483647 := by rw [← hz_a3]; exact ⟨z_lo _, z_hi _⟩
  have hO : Ok MN S S := Ok.rf hG
  refine lv_aload_n X.1 X.2.1 dX12_cocoon_0 rfl (lv_at hl 0 rfl) ?_
  refine lv_iconst (v := 0) X.1 X.2.1 dX12_cocoon_1 (by decide) ?_
  refine r_putI (v := 0) X hw ha_x rfl 0 1200 tyX12 (by decide) rfl inn_X12_cocoon_12 tyX12_ok nmX12 (by decide) (X.2.2.2.1 (.fieldLink RX12 161 "SilkMillModel" "thrown" "I") (by decide +kernel)) rfl (Or.inl rfl) rfl rfl (Nat.le_of_ble_eq_true rfl) (st_1200 _ _) dX12_cocoon_2 (fun H locs hw => ?_)
  obtain ⟨S_1, eS_1⟩ : ∃ T, T = sI S 1200 x (0) := ⟨_, rfl⟩
  rw [← eS_1] at hw
  have hO_2 : Ok MN S S_1 := hO.sI eS_1 (by decide +kernel) (uI_12_1200 hO.1 ha_x)
  have h_3 : pI S_1 1200 x = 0 := tI_sIs eS_1
  refine lv_aload_n X.1 X.2.1 dX12_cocoon_5 rfl (lv_at hl 0 rfl) ?_
  refine lv_iload_n X.1 X.2.1 dX12_cocoon_6 rfl (lv_at hl 1 rfl) ?_
  refine lv_iload_n X.1 X.2.1 dX12_cocoon_7 rfl (lv_at hl 2 rfl) ?_
  have t_4 : At S_1 x 12 := tAt_sI eS_1 ha_x
  refine k_i (rm := { frames := 2, cells := 0, slots := 0, locals := 96 }) (av := [.ref x, .int (a1), .int (a2)]) X hw (va_runV (As := [.int (a1), .int (a2)]) (rest := []) (cfix X) (k_X12_isCocoon l G cy κ S_1 _ x (a1) (a1_z) (a2) (a2_z) hO_2.1 t_4 hz_a1 hz_a2) (cwV 2 X.2.2.2.1 gX12_cocoon_X12_isCocoon rfl rfl rfl (by decide +kernel) ⟨Nat.le_of_ble_eq_true rfl, Nat.le_of_ble_eq_true rfl⟩) (pre_V X hw _ t_4 rfl (by decide) rfl) rfl rfl hl.1 rfl (lv_room (Nat.le_of_ble_eq_true rfl)) dX12_cocoon_8 ⟨Nat.le_of_ble_eq_true rfl, Nat.le_of_ble_eq_true rfl⟩) 0 0 (Nat.le_of_ble_eq_true rfl) (Nat.le_of_ble_eq_true rfl) (fun rr_5 S_6 H locs hp hw hfr hnw => ?_)
  obtain ⟨e2, hp⟩ := hp
  subst e2
  rcases hp with ⟨f_7, er_8⟩ | ⟨f_7, er_8⟩ <;> subst er_8
  · have z_b_9 := trivial
    refine lv_if_ne (tgt := 16) X.1 X.2.1 dX12_cocoon_11 (by decide) (fun c_10 => ?_) (fun c_10 => absurd c_10 (by decide))
    refine lv_bipush (v := 60) X.1 X.2.1 dX12_cocoon_16 (by decide) ?_
    refine lv_iload_n X.1 X.2.1 dX12_cocoon_18 rfl (lv_at hl 1 rfl) ?_
    refine lv_imul X.1 X.2.1 dX12_cocoon_19 ?_
    refine lv_topi (fun v_11 ev_11 => ?_)
    have z_12 : v_11.toInt = 60 * a1_z := z_mul ev_11 ti_60 hz_a1 (by omega) (by omega)
    refine lv_iload_n X.1 X.2.1 dX12_cocoon_20 rfl (lv_at hl 2 rfl) ?_
    refine lv_iadd X.1 X.2.1 dX12_cocoon_21 ?_
    refine lv_topi (fun v_13 ev_13 => ?_)
    have z_14 : v_13.toInt = (60 * a1_z) + a2_z := z_add ev_13 z_12 hz_a2 (by omega) (by omega)
    refine lv_istore (lv' := [(4, .int (v_13)), (0, .ref x), (1, .int (a1)), (2, .int (a2)), (3, .int (a3))]) X.1 X.2.1 dX12_cocoon_22 hl (by decide) rfl (fun ls hl => ?_)
    refine lv_iload_n X.1 X.2.1 dX12_cocoon_24 rfl (lv_at hl 4 rfl) ?_
    by_cases w_15 : (a3).toInt < 0 ∨ 6 < (a3).toInt
    · refine lv_tableOut (tgt := 176) X.1 X.2.1 dX12_cocoon_25 w_15 (by decide) ?_
      refine lv_iconst (v := (-1)) X.1 X.2.1 dX12_cocoon_176 (by decide) ?_
      exact ret_i X hw hr hlocks (Nat.le_of_ble_eq_true rfl) (Nat.le_of_ble_eq_true rfl) ⟨hO_2, trivial⟩ dX12_cocoon_177
    have w_15b : (a3).toInt = 0 ∨ (a3).toInt = 1 ∨ (a3).toInt = 2 ∨ (a3).toInt = 3 ∨ (a3).toInt = 4 ∨ (a3).toInt = 5 ∨ (a3).toInt = 6 := by omega
    rcases w_15b with w_15c | w_15c | w_15c | w_15c | w_15c | w_15c | w_15c
    · refine lv_tableIn (tgt := 68) X.1 X.2.1 dX12_cocoon_25 (by omega) (by omega) (by rw [w_15c]; rfl) (by decide) ?_
      refine lv_aload_n X.1 X.2.1 dX12_cocoon_68 rfl (lv_at hl 1 rfl) ?_
      refine lv_iload X.1 X.2.1 dX12_cocoon_69 (lv_at hl 0 rfl) ?_
      refine k_i (rm := { frames := 2, cells := 0, slots := 0, locals := 96 }) (av := [.ref x, .int (v_13)]) X hw (va_runV (As := [.int (v_13)]) (rest := []) (cfix X) (k_X12_lengthOf l G cy κ S_1 _ x (v_13) (((60 * a1_z) + a2_z)) hO_2.1 t_4 z_14 (by first | assumption | omega) (by first | assumption | omega)) (cwV 1 X.2.2.2.1 gX12_cocoon_X12_lengthOf rfl rfl rfl (by decide +kernel) ⟨Nat.le_of_ble_eq_true rfl, Nat.le_of_ble_eq_true rfl⟩) (pre_V X hw _ t_4 rfl (by decide) rfl) rfl rfl hl.1 rfl (lv_room (Nat.le_of_ble_eq_true rfl)) dX12_cocoon_71 ⟨Nat.le_of_ble_eq_true rfl, Nat.le_of_ble_eq_true rfl⟩) 0 0 (Nat.le_of_ble_eq_true rfl) (Nat.le_of_ble_eq_true rfl) (fun rr_16 S_17 H locs hp hw hfr hnw => ?_)
      obtain ⟨e2, hp⟩ := hp
      subst e2
      obtain ⟨f_18, f_19, f_20⟩ := hp
      exact ret_i X hw hr hlocks (Nat.le_of_ble_eq_true rfl) (Nat.le_of_ble_eq_true rfl) ⟨hO_2, trivial⟩ dX12_cocoon_74
    · refine lv_tableIn (tgt := 75) X.1 X.2.1 dX12_cocoon_25 (by omega) (by omega) (by rw [w_15c]; rfl) (by decide) ?_
      refine lv_aload_n X.1 X.2.1 dX12_cocoon_75 rfl (lv_at hl 1 rfl) ?_
      obtain ⟨q_21, h_22, h_23, h_24⟩ := gQ_12_1207 hO_2.1 t_4
      refine r_getR (g := 1207) X hw t_4 rfl 7 h_22 (by decide) rfl inn_X12_cocoon_12 (by decide) (X.2.2.2.1 (.fieldLink RX12 25 "SilkMillModel" "stand" "[I") (by decide +kernel)) rfl (gv_1207 _ _) dX12_cocoon_76 ?_
      refine lv_iload X.1 X.2.1 dX12_cocoon_79 (lv_at hl 0 rfl) ?_
      refine r_iald X hw h_23 rfl (by rw [h_24]; exact z_ix z_14 (by omega) (by omega)) dX12_cocoon_81 ?_
      refine lv_topi (fun v_25 ev_25 => ?_)
      have rg_26 := And.intro (z_lo v_25) (z_hi v_25)
      have ev_25 := ev_25.symm
      have zf_27 : zA S_1 x 1207 (((60 * a1_z) + a2_z)).toNat = v_25.toInt := (zA_of h_22 z_14 (by omega) ev_25)
      exact ret_i X hw hr hlocks (Nat.le_of_ble_eq_true rfl) (Nat.le_of_ble_eq_true rfl) ⟨hO_2, trivial⟩ dX12_cocoon_82
    · refine lv_tableIn (tgt := 83) X.1 X.2.1 dX12_cocoon_25 (by omega) (by omega) (by rw [w_15c]; rfl) (by decide) ?_
      refine lv_aload_n X.1 X.2.1 dX12_cocoon_83 rfl (lv_at hl 1 rfl) ?_
      obtain ⟨q_28, h_29, h_30, h_31⟩ := gQ_12_1208 hO_2.1 t_4
      refine r_getR (g := 1208) X hw t_4 rfl 8 h_29 (by decide) rfl inn_X12_cocoon_12 (by decide) (X.2.2.2.1 (.fieldLink RX12 28 "SilkMillModel" "place" "[I") (by decide +kernel)) rfl (gv_1208 _ _) dX12_cocoon_84 ?_
      refine lv_iload X.1 X.2.1 dX12_cocoon_87 (lv_at hl 0 rfl) ?_
      refine r_iald X hw h_30 rfl (by rw [h_31]; exact z_ix z_14 (by omega) (by omega)) dX12_cocoon_89 ?_
      refine lv_topi (fun v_32 ev_32 => ?_)
      have z_33 := gE_374 hO_2.1 h_30 (Int32.toNatClampNeg (v_13)); rw [← ev_32] at z_33
      have ev_32 := ev_32.symm
      have zf_34 : zA S_1 x 1208 (((60 * a1_z) + a2_z)).toNat = v_32.toInt := (zA_of h_29 z_14 (by omega) ev_32)
      have m1_35 := (MI_1 (MIe_free hG ha_x hO_2.fr (by decide +kernel) hp_0) (c := ((60 * a1_z) + a2_z)) (by omega) (by omega)).2 (by omega); rw [zf_34] at m1_35
      have m1_36 := m1_35.1
      clear m1_35
      exact ret_i X hw hr hlocks (Nat.le_of_ble_eq_true rfl) (Nat.le_of_ble_eq_true rfl) ⟨hO_2, trivial⟩ dX12_cocoon_90
    · refine lv_tableIn (tgt := 91) X.1 X.2.1 dX12_cocoon_25 (by omega) (by omega) (by rw [w_15c]; rfl) (by decide) ?_
      refine lv_aload_n X.1 X.2.1 dX12_cocoon_91 rfl (lv_at hl 1 rfl) ?_
      obtain ⟨q_37, h_38, h_39, h_40⟩ := gQ_12_1207 hO_2.1 t_4
      refine r_getR (g := 1207) X hw t_4 rfl 7 h_38 (by decide) rfl inn_X12_cocoon_12 (by decide) (X.2.2.2.1 (.fieldLink RX12 25 "SilkMillModel" "stand" "[I") (by decide +kernel)) rfl (gv_1207 _ _) dX12_cocoon_92 ?_
      refine lv_iload X.1 X.2.1 dX12_cocoon_95 (lv_at hl 0 rfl) ?_
      refine r_iald X hw h_39 rfl (by rw [h_40]; exact z_ix z_14 (by omega) (by omega)) dX12_cocoon_97 ?_
      refine lv_topi (fun v_41 ev_41 => ?_)
      have rg_42 := And.intro (z_lo v_41) (z_hi v_41)
      have ev_41 := ev_41.symm
      have zf_43 : zA S_1 x 1207 (((60 * a1_z) + a2_z)).toNat = v_41.toInt := (zA_of h_38 z_14 (by omega) ev_41)
      refine lv_iconst (v := 4) X.1 X.2.1 dX12_cocoon_98 (by decide) ?_
      refine lv_icmp_ne (tgt := 106) X.1 X.2.1 dX12_cocoon_99 (by decide) (fun c_44 => ?_) (fun c_44 => ?_)
      · have z_b_45 := trivial
        have k_46 : v_41.toInt ≠ 4 := z_ne rfl ti_4 c_44
        refine lv_aload_n X.1 X.2.1 dX12_cocoon_106 rfl (lv_at hl 1 rfl) ?_
        refine lv_iload X.1 X.2.1 dX12_cocoon_107 (lv_at hl 0 rfl) ?_
        refine lv_aload_n X.1 X.2.1 dX12_cocoon_109 rfl (lv_at hl 1 rfl) ?_
        obtain ⟨q_47, h_48, h_49, h_50⟩ := gQ_12_1208 hO_2.1 t_4
        refine r_getR (g := 1208) X hw t_4 rfl 8 h_48 (by decide) rfl inn_X12_cocoon_12 (by decide) (X.2.2.2.1 (.fieldLink RX12 28 "SilkMillModel" "place" "[I") (by decide +kernel)) rfl (gv_1208 _ _) dX12_cocoon_110 ?_
        refine lv_iload X.1 X.2.1 dX12_cocoon_113 (lv_at hl 0 rfl) ?_
        refine r_iald X hw h_49 rfl (by rw [h_50]; exact z_ix z_14 (by omega) (by omega)) dX12_cocoon_115 ?_
        refine lv_topi (fun v_51 ev_51 => ?_)
        have z_52 := gE_374 hO_2.1 h_49 (Int32.toNatClampNeg (v_13)); rw [← ev_51] at z_52
        have ev_51 := ev_51.symm
        have zf_53 : zA S_1 x 1208 (((60 * a1_z) + a2_z)).toNat = v_51.toInt := (zA_of h_48 z_14 (by omega) ev_51)
        have m1_54 := (MI_1 (MIe_free hG ha_x hO_2.fr (by decide +kernel) hp_0) (c := ((60 * a1_z) + a2_z)) (by omega) (by omega)).2 (by omega); rw [zf_53] at m1_54
        have m1_55 := m1_54.1
        have m1_56 := m1_54.2 (by omega) (by omega)
        have lg_57 := lenZ_le hO_2.1 t_4 (((60 * a1_z) + a2_z))
        clear m1_54
        refine k_i (rm := { frames := 3, cells := 0, slots := 0, locals := 144 }) (av := [.ref x, .int (v_13), .int (v_51)]) X hw (va_runV (As := [.int (v_13), .int (v_51)]) (rest := []) (cfix X) (k_X12_fineOf l G cy κ S_1 _ x (v_13) (((60 * a1_z) + a2_z)) (v_51) (v_51.toInt) hO_2.1 t_4 z_14 rfl (by first | assumption | omega) (by first | assumption | omega) (by first | assumption | omega) (by first | assumption | omega) (by first | assumption | omega)) (cwV 2 X.2.2.2.1 gX12_cocoon_X12_fineOf rfl rfl rfl (by decide +kernel) ⟨Nat.le_of_ble_eq_true rfl, Nat.le_of_ble_eq_true rfl⟩) (pre_V X hw _ t_4 rfl (by decide) rfl) rfl rfl hl.1 rfl (lv_room (Nat.le_of_ble_eq_true rfl)) dX12_cocoon_116 ⟨Nat.le_of_ble_eq_true rfl, Nat.le_of_ble_eq_true rfl⟩) 0 0 (Nat.le_of_ble_eq_true rfl) (Nat.le_of_ble_eq_true rfl) (fun rr_58 S_59 H locs hp hw hfr hnw => ?_)
        obtain ⟨e2, hp⟩ := hp
        subst e2
        have rg_60 := And.intro (z_lo rr_58) (z_hi rr_58)
        exact ret_i X hw hr hlocks (Nat.le_of_ble_eq_true rfl) (Nat.le_of_ble_eq_true rfl) ⟨hO_2, trivial⟩ dX12_cocoon_119
      · have z_b_61 := trivial
        have k_62 : v_41.toInt = 4 := z_eq rfl ti_4 c_44
        refine lv_iconst (v := 0) X.1 X.2.1 dX12_cocoon_102 (by decide) ?_
        refine lv_goto (tgt := 119) X.1 X.2.1 dX12_cocoon_103 (by decide) ?_
        exact ret_i X hw hr hlocks (Nat.le_of_ble_eq_true rfl) (Nat.le_of_ble_eq_true rfl) ⟨hO_2, trivial⟩ dX12_cocoon_119
    · refine lv_tableIn (tgt := 120) X.1 X.2.1 dX12_cocoon_25 (by omega) (by omega) (by rw [w_15c]; rfl) (by decide) ?_
      refine lv_aload_n X.1 X.2.1 dX12_cocoon_120 rfl (lv_at hl 1 rfl) ?_
      refine lv_iload X.1 X.2.1 dX12_cocoon_121 (lv_at hl 0 rfl) ?_
      refine lv_iconst (v := 0) X.1 X.2.1 dX12_cocoon_123 (by decide) ?_
      refine lv_aload_n X.1 X.2.1 dX12_cocoon_124 rfl (lv_at hl 1 rfl) ?_
      refine lv_iload X.1 X.2.1 dX12_cocoon_125 (lv_at hl 0 rfl) ?_
      refine k_i (rm := { frames := 2, cells := 0, slots := 0, locals := 96 }) (av := [.ref x, .int (v_13)]) X hw (va_runV (As := [.int (v_13)]) (rest := [.int 0, .int (v_13), .ref x]) (cfix X) (k_X12_lengthOf l G cy κ S_1 _ x (v_13) (((60 * a1_z) + a2_z)) hO_2.1 t_4 z_14 (by first | assumption | omega) (by first | assumption | omega)) (cwV 1 X.2.2.2.1 gX12_cocoon_X12_lengthOf rfl rfl rfl (by decide +kernel) ⟨Nat.le_of_ble_eq_true rfl, Nat.le_of_ble_eq_true rfl⟩) (pre_V X hw _ t_4 rfl (by decide) rfl) rfl rfl hl.1 rfl (lv_room (Nat.le_of_ble_eq_true rfl)) dX12_cocoon_127 ⟨Nat.le_of_ble_eq_true rfl, Nat.le_of_ble_eq_true rfl⟩) 0 0 (Nat.le_of_ble_eq_true rfl) (Nat.le_of_ble_eq_true rfl) (fun rr_63 S_64 H locs hp hw hfr hnw => ?_)
      obtain ⟨e2, hp⟩ := hp
      subst e2
      obtain ⟨f_65, f_66, f_67⟩ := hp
      refine k_i (rm := { frames := 4, cells := 0, slots := 0, locals := 192 }) (av := [.ref x, .int (v_13), .int 0, .int (rr_63)]) X hw (va_runV (As := [.int (v_13), .int 0, .int (rr_63)]) (rest := []) (cfix X) (k_X12_silk l G cy κ S_1 _ x (v_13) (((60 * a1_z) + a2_z)) (0) (0) (rr_63) (rr_63.toInt) hO_2.1 t_4 z_14 ti_0 rfl (by first | assumption | omega) (by first | assumption | omega) (by first | assumption | omega) (by first | assumption | omega) (by first | assumption | omega)) (cwV 3 X.2.2.2.1 gX12_cocoon_X12_silk rfl rfl rfl (by decide +kernel) ⟨Nat.le_of_ble_eq_true rfl, Nat.le_of_ble_eq_true rfl⟩) (pre_V X hw _ t_4 rfl (by decide) rfl) rfl rfl hl.1 rfl (lv_room (Nat.le_of_ble_eq_true rfl)) dX12_cocoon_130 ⟨Nat.le_of_ble_eq_true rfl, Nat.le_of_ble_eq_true rfl⟩) 0 0 (Nat.le_of_ble_eq_true rfl) (Nat.le_of_ble_eq_true rfl) (fun rr_68 S_69 H locs hp hw hfr hnw => ?_)
      obtain ⟨e2, hp⟩ := hp
      subst e2
      have rg_70 := And.intro (z_lo rr_68) (z_hi rr_68)
      exact ret_i X hw hr hlocks (Nat.le_of_ble_eq_true rfl) (Nat.le_of_ble_eq_true rfl) ⟨hO_2, trivial⟩ dX12_cocoon_133
    · refine lv_tableIn (tgt := 134) X.1 X.2.1 dX12_cocoon_25 (by omega) (by omega) (by rw [w_15c]; rfl) (by decide) ?_
      refine lv_aload_n X.1 X.2.1 dX12_cocoon_134 rfl (lv_at hl 1 rfl) ?_
      refine lv_iload X.1 X.2.1 dX12_cocoon_135 (lv_at hl 0 rfl) ?_
      refine lv_iconst (v := 0) X.1 X.2.1 dX12_cocoon_137 (by decide) ?_
      refine lv_aload_n X.1 X.2.1 dX12_cocoon_138 rfl (lv_at hl 1 rfl) ?_
      obtain ⟨q_71, h_72, h_73, h_74⟩ := gQ_12_1208 hO_2.1 t_4
      refine r_getR (g := 1208) X hw t_4 rfl 8 h_72 (by decide) rfl inn_X12_cocoon_12 (by decide) (X.2.2.2.1 (.fieldLink RX12 28 "SilkMillModel" "place" "[I") (by decide +kernel)) rfl (gv_1208 _ _) dX12_cocoon_139 ?_
      refine lv_iload X.1 X.2.1 dX12_cocoon_142 (lv_at hl 0 rfl) ?_
      refine r_iald X hw h_73 rfl (by rw [h_74]; exact z_ix z_14 (by omega) (by omega)) dX12_cocoon_144 ?_
      refine lv_topi (fun v_75 ev_75 => ?_)
      have z_76 := gE_374 hO_2.1 h_73 (Int32.toNatClampNeg (v_13)); rw [← ev_75] at z_76
      have ev_75 := ev_75.symm
      have zf_77 : zA S_1 x 1208 (((60 * a1_z) + a2_z)).toNat = v_75.toInt := (zA_of h_72 z_14 (by omega) ev_75)
      have m1_78 := (MI_1 (MIe_free hG ha_x hO_2.fr (by decide +kernel) hp_0) (c := ((60 * a1_z) + a2_z)) (by omega) (by omega)).2 (by omega); rw [zf_77] at m1_78
      have m1_79 := m1_78.1
      clear m1_78
      refine k_i (rm := { frames := 4, cells := 0, slots := 0, locals := 192 }) (av := [.ref x, .int (v_13), .int 0, .int (v_75)]) X hw (va_runV (As := [.int (v_13), .int 0, .int (v_75)]) (rest := []) (cfix X) (k_X12_silk l G cy κ S_1 _ x (v_13) (((60 * a1_z) + a2_z)) (0) (0) (v_75) (v_75.toInt) hO_2.1 t_4 z_14 ti_0 rfl (by first | assumption | omega) (by first | assumption | omega) (by first | assumption | omega) (by first | assumption | omega) (by first | assumption | omega)) (cwV 3 X.2.2.2.1 gX12_cocoon_X12_silk rfl rfl rfl (by decide +kernel) ⟨Nat.le_of_ble_eq_true rfl, Nat.le_of_ble_eq_true rfl⟩) (pre_V X hw _ t_4 rfl (by decide) rfl) rfl rfl hl.1 rfl (lv_room (Nat.le_of_ble_eq_true rfl)) dX12_cocoon_145 ⟨Nat.le_of_ble_eq_true rfl, Nat.le_of_ble_eq_true rfl⟩) 0 0 (Nat.le_of_ble_eq_true rfl) (Nat.le_of_ble_eq_true rfl) (fun rr_80 S_81 H locs hp hw hfr hnw => ?_)
      obtain ⟨e2, hp⟩ := hp
      subst e2
      have rg_82 := And.intro (z_lo rr_80) (z_hi rr_80)
      exact ret_i X hw hr hlocks (Nat.le_of_ble_eq_true rfl) (Nat.le_of_ble_eq_true rfl) ⟨hO_2, trivial⟩ dX12_cocoon_148
    · refine lv_tableIn (tgt := 149) X.1 X.2.1 dX12_cocoon_25 (by omega) (by omega) (by rw [w_15c]; rfl) (by decide) ?_
      refine lv_aload_n X.1 X.2.1 dX12_cocoon_149 rfl (lv_at hl 1 rfl) ?_
      obtain ⟨q_83, h_84, h_85, h_86⟩ := gQ_12_1207 hO_2.1 t_4
      refine r_getR (g := 1207) X hw t_4 rfl 7 h_84 (by decide) rfl inn_X12_cocoon_12 (by decide) (X.2.2.2.1 (.fieldLink RX12 25 "SilkMillModel" "stand" "[I") (by decide +kernel)) rfl (gv_1207 _ _) dX12_cocoon_150 ?_
      refine lv_iload X.1 X.2.1 dX12_cocoon_153 (lv_at hl 0 rfl) ?_
      refine r_iald X hw h_85 rfl (by rw [h_86]; exact z_ix z_14 (by omega) (by omega)) dX12_cocoon_155 ?_
      refine lv_topi (fun v_87 ev_87 => ?_)
      have rg_88 := And.intro (z_lo v_87) (z_hi v_87)
      have ev_87 := ev_87.symm
      refine lv_iconst (v := 1) X.1 X.2.1 dX12_cocoon_156 (by decide) ?_
      refine lv_iconst (v := 3) X.1 X.2.1 dX12_cocoon_157 (by decide) ?_
      refine k_i (rm := { frames := 1, cells := 0, slots := 0, locals := 48 }) (av := [.int (v_87), .int 1, .int 3]) X hw (va_runS (As := [.int (v_87), .int 1, .int 3]) (rest := []) (cfix X) (k_X12_within l G cy κ S_1 _ (v_87) (v_87.toInt) (1) (1) (3) (3) hO_2.1 rfl ti_1 ti_3) (cwS 3 X.2.2.2.1 gX12_cocoon_X12_within rfl rfl rfl (by decide +kernel) ⟨Nat.le_of_ble_eq_true rfl, Nat.le_of_ble_eq_true rfl⟩) (pre_S X hw _) rfl rfl hl.1 rfl (lv_room (Nat.le_of_ble_eq_true rfl)) dX12_cocoon_158 ⟨Nat.le_of_ble_eq_true rfl, Nat.le_of_ble_eq_true rfl⟩) 0 0 (Nat.le_of_ble_eq_true rfl) (Nat.le_of_ble_eq_true rfl) (fun rr_89 S_90 H locs hp hw hfr hnw => ?_)
      obtain ⟨e2, hp⟩ := hp
      subst e2
      rcases hp with ⟨f_91, er_92⟩ | ⟨f_91, er_92⟩ <;> subst er_92
      · have z_b_93 := trivial
        refine lv_if_eq (tgt := 174) X.1 X.2.1 dX12_cocoon_161 (by decide) (fun c_94 => absurd c_94 (by decide)) (fun c_94 => ?_)
        refine lv_aload_n X.1 X.2.1 dX12_cocoon_164 rfl (lv_at hl 1 rfl) ?_
        obtain ⟨q_95, h_96, h_97, h_98⟩ := gQ_12_1209 hO_2.1 t_4
        refine r_getR (g := 1209) X hw t_4 rfl 9 h_96 (by decide) rfl inn_X12_cocoon_12 (by decide) (X.2.2.2.1 (.fieldLink RX12 31 "SilkMillModel" "potOf" "[I") (by decide +kernel)) rfl (gv_1209 _ _) dX12_cocoon_165 ?_
        refine lv_iload X.1 X.2.1 dX12_cocoon_168 (lv_at hl 0 rfl) ?_
        refine r_iald X hw h_97 rfl (by rw [h_98]; exact z_ix z_14 (by omega) (by omega)) dX12_cocoon_170 ?_
        refine lv_topi (fun v_99 ev_99 => ?_)
        have rg_100 := And.intro (z_lo v_99) (z_hi v_99)
        have ev_99 := ev_99.symm
        refine lv_goto (tgt := 175) X.1 X.2.1 dX12_cocoon_171 (by decide) ?_
        exact ret_i X hw hr hlocks (Nat.le_of_ble_eq_true rfl) (Nat.le_of_ble_eq_true rfl) ⟨hO_2, trivial⟩ dX12_cocoon_175
      · have z_b_101 := trivial
        refine lv_if_eq (tgt := 174) X.1 X.2.1 dX12_cocoon_161 (by decide) (fun c_102 => ?_) (fun c_102 => absurd c_102 (by decide))
        refine lv_iconst (v := (-1)) X.1 X.2.1 dX12_cocoon_174 (by decide) ?_
        exact ret_i X hw hr hlocks (Nat.le_of_ble_eq_true rfl) (Nat.le_of_ble_eq_true rfl) ⟨hO_2, trivial⟩ dX12_cocoon_175
  · have z_b_103 := trivial
    refine lv_if_ne (tgt := 16) X.1 X.2.1 dX12_cocoon_11 (by decide) (fun c_104 => absurd c_104 (by decide)) (fun c_104 => ?_)
    refine lv_iconst (v := (-1)) X.1 X.2.1 dX12_cocoon_14 (by decide) ?_
    exact ret_i X hw hr hlocks (Nat.le_of_ble_eq_true rfl) (Nat.le_of_ble_eq_true rfl) ⟨hO_2, trivial⟩ dX12_cocoon_15
