def MCO : List Nat := [10354, 10394, 10574, 10594]
def MGO : List Nat := [10574, 10594]
def MSH : List Nat := [1200, 10354, 11275, 11294, 11314, 11334, 11354]
def MLY : List Nat := [1200, 11275, 11294, 11314]
def MFI : List Nat := [1200, 10354, 10394, 10574, 10594]
def MCU : List Nat := [1200, 1238, 1246, 10914, 10934, 10954, 10994, 11014, 11034, 11054, 11074, 11095]
/-! ===== what keeps MI ===== -/
theorem lenZ_fr {M : List Nat} {S S' : PS} {x k3 k5 : Nat} (hF : Fr M S S') (ha : At S x 12) (h3 : ∃ q, pR S 1203 x = some q ∧ At S q k3) (h5 : ∃ q, pR S 1205 x = some q ∧ At S q k5) (c1 : M.contains 1203 = false) (c2 : M.contains (10000 + k3) = false) (c3 : M.contains 1205 = false) (c4 : M.contains (10000 + k5) = false) : lenZ S' x = lenZ S x := by
  funext c
  rw [lenZ_eq, lenZ_eq, mA_fr hF ha h3 c1 c2, mA_fr hF ha h5 c3 c4]
theorem goes_MI {S S' : PS} {x r i : Nat} {e : Int} (hG : GX S) (ha : At S x 12) (hF : Fr MGO S S') (h : MIe S x e) (hr : r < 12) (hi : (i : Int) < zA S x 1219 r) (hm : ∀ j, zA S' x 1219 j = if j = r then zA S x 1219 r - 1 else zA S x 1219 j) (ho : ∀ j : Nat, zA S' x 1218 j = if 600 * r + i ≤ j ∧ (j : Int) < 600 * r + (zA S x 1219 r - 1) then zA S x 1218 (j + 1) else zA S x 1218 j) : MIe S' x e ∧ Fre S' x (zA S x 1218 (600 * r + i)) := by
  obtain ⟨a1, a2, a3, a4, a5, a6, a7⟩ := h
  have b := a2 r i hr hi
  unfold MIe Fre
  rw [hF.I' (g := 1201) (by decide +kernel) ha rfl, hF.I' (g := 1238) (by decide +kernel) ha rfl, lenZ_fr hF ha (ex3 (gQ_12_1203 hG ha)) (ex3 (gQ_12_1205 hG ha)) (by decide +kernel) (by decide +kernel) (by decide +kernel) (by decide +kernel), zA_fr (g := 1207) hF ha (ex3 (gQ_12_1207 hG ha)) (by decide +kernel) (by decide +kernel), zA_fr (g := 1208) hF ha (ex3 (gQ_12_1208 hG ha)) (by decide +kernel) (by decide +kernel), zA_fr (g := 1209) hF ha (ex3 (gQ_12_1209 hG ha)) (by decide +kernel) (by decide +kernel), zA_fr (g := 1236) hF ha (ex3 (gQ_12_1236 hG ha)) (by decide +kernel) (by decide +kernel), zA_fr (g := 1239) hF ha (ex3 (gQ_12_1239 hG ha)) (by decide +kernel) (by decide +kernel), zA_fr (g := 1253) hF ha (ex3 (gQ_12_1253 hG ha)) (by decide +kernel) (by decide +kernel), zA_fr (g := 1254) hF ha (ex3 (gQ_12_1254 hG ha)) (by decide +kernel) (by decide +kernel), zA_fr (g := 1255) hF ha (ex3 (gQ_12_1255 hG ha)) (by decide +kernel) (by decide +kernel)]
  refine ⟨⟨a1, M2_goes hr a2 a4 hm hi ho, M3_goes hr a3 a4 hm hi ho, M4_goes a4 hr hm (by omega), a5, a6, a7⟩, free_goes hr a2 a3 a4 hm hi ho, fun k hk z1 z2 z3 => ?_⟩
  have d := (a5.1 k hk z1 z2).2.2
  rw [z3, b.2.2.1] at d
  omega
theorem comes_MI {S S' : PS} {x r w : Nat} {c : Int} (hG : GX S) (ha : At S x 12) (hF : Fr MCO S S') (h : MI S x) (hr : r < 12) (hc0 : 0 ≤ c) (hc : c < 60 * (pI S 1201 x).toInt) (hl : (pI S 1201 x).toInt ≤ 10) (hfr : Fre S x c) (hp : zA S x 1208 c.toNat < lenZ S x c) (hw : (w : Int) ≤ zA S x 1219 r) (he : r % 3 = 1 → zA S x 1219 r ≤ 11) (hm : ∀ j, zA S' x 1219 j = if j = r then zA S x 1219 r + 1 else zA S x 1219 j) (ho : ∀ j : Nat, zA S' x 1218 j = if j = 600 * r + w then c else if 600 * r + w < j ∧ (j : Int) ≤ 600 * r + zA S x 1219 r then zA S x 1218 (j - 1) else zA S x 1218 j) (hs : ∀ j, zA S' x 1207 j = if j = c.toNat then ((r % 3 + 1 : Nat) : Int) else zA S x 1207 j) (hq : ∀ j, zA S' x 1209 j = if j = c.toNat then ((r / 3 : Nat) : Int) else zA S x 1209 j) : MI S' x := by
  obtain ⟨a1, a2, a3, a4, a5, a6, a7⟩ := h
  have hb := row_room hl a2 a3 a4 hr hc0 hc (fun k hk => hfr.1 r k hr hk)
  unfold MI MIe
  rw [hF.I' (g := 1201) (by decide +kernel) ha rfl, hF.I' (g := 1238) (by decide +kernel) ha rfl, lenZ_fr hF ha (ex3 (gQ_12_1203 hG ha)) (ex3 (gQ_12_1205 hG ha)) (by decide +kernel) (by decide +kernel) (by decide +kernel) (by decide +kernel), zA_fr (g := 1208) hF ha (ex3 (gQ_12_1208 hG ha)) (by decide +kernel) (by decide +kernel), zA_fr (g := 1236) hF ha (ex3 (gQ_12_1236 hG ha)) (by decide +kernel) (by decide +kernel), zA_fr (g := 1239) hF ha (ex3 (gQ_12_1239 hG ha)) (by decide +kernel) (by decide +kernel), zA_fr (g := 1253) hF ha (ex3 (gQ_12_1253 hG ha)) (by decide +kernel) (by decide +kernel), zA_fr (g := 1254) hF ha (ex3 (gQ_12_1254 hG ha)) (by decide +kernel) (by decide +kernel), zA_fr (g := 1255) hF ha (ex3 (gQ_12_1255 hG ha)) (by decide +kernel) (by decide +kernel)]
  exact ⟨M1_st a1 hs (by omega) (Or.inr (Or.inr (by rw [Int.toNat_of_nonneg hc0]; exact hp))), M2_comes hr a2 a4 hc0 hc hfr.1 hb hw hm ho hs hq, M3_comes hr a3 a4 hfr.1 hb hw hm ho, M4_comes a4 hr hm hb he, M5_st a5 hc0 hs hfr.2, a6, a7⟩
theorem room_MI {S : PS} {x r : Nat} {c e : Int} (h : MIe S x e) (hr : r < 12) (hc0 : 0 ≤ c) (hc : c < 60 * (pI S 1201 x).toInt) (hl : (pI S 1201 x).toInt ≤ 10) (hfr : Fre S x c) : zA S x 1219 r ≤ 599 := row_room hl h.2.1 h.2.2.1 h.2.2.2.1 hr hc0 hc (fun k hk => hfr.1 r k hr hk)
theorem Fre_of {S : PS} {x : Nat} {e c v : Int} (h : MIe S x e) (hv : zA S x 1207 c.toNat = v) (h0 : v < 1 ∨ v = 4 ∨ 5 < v) : Fre S x c := ⟨fun r k hr hk z => by
  have b := h.2.1 r k hr hk
  rw [z, hv] at b
  omega, fun k hk z1 z2 z3 => by
  have d := (h.2.2.2.2.1.1 k hk z1 z2).2.2
  rw [z3, hv] at d
  omega⟩
theorem stand_MI {S S' : PS} {x : Nat} {c v e : Int} (hG : GX S) (ha : At S x 12) (hF : Fr [10354] S S') (h : MIe S x e) (hc0 : 0 ≤ c) (hc : c < 60 * (pI S 1201 x).toInt) (hfr : Fre S x c) (hs : ∀ j, zA S' x 1207 j = if j = c.toNat then v else zA S x 1207 j) (hv : v = 4 ∨ c = e ∨ zA S x 1208 c.toNat < lenZ S x c) : MIe S' x e := by
  obtain ⟨a1, a2, a3, a4, a5, a6, a7⟩ := h
  unfold MIe
  rw [hF.I' (g := 1201) (by decide +kernel) ha rfl, hF.I' (g := 1238) (by decide +kernel) ha rfl, lenZ_fr hF ha (ex3 (gQ_12_1203 hG ha)) (ex3 (gQ_12_1205 hG ha)) (by decide +kernel) (by decide +kernel) (by decide +kernel) (by decide +kernel), zA_fr (g := 1208) hF ha (ex3 (gQ_12_1208 hG ha)) (by decide +kernel) (by decide +kernel), zA_fr (g := 1209) hF ha (ex3 (gQ_12_1209 hG ha)) (by decide +kernel) (by decide +kernel), zA_fr (g := 1218) hF ha (ex3 (gQ_12_1218 hG ha)) (by decide +kernel) (by decide +kernel), zA_fr (g := 1219) hF ha (ex3 (gQ_12_1219 hG ha)) (by decide +kernel) (by decide +kernel), zA_fr (g := 1236) hF ha (ex3 (gQ_12_1236 hG ha)) (by decide +kernel) (by decide +kernel), zA_fr (g := 1239) hF ha (ex3 (gQ_12_1239 hG ha)) (by decide +kernel) (by decide +kernel), zA_fr (g := 1253) hF ha (ex3 (gQ_12_1253 hG ha)) (by decide +kernel) (by decide +kernel), zA_fr (g := 1254) hF ha (ex3 (gQ_12_1254 hG ha)) (by decide +kernel) (by decide +kernel), zA_fr (g := 1255) hF ha (ex3 (gQ_12_1255 hG ha)) (by decide +kernel) (by decide +kernel)]
  exact ⟨M1_st a1 hs (by omega) (by rw [Int.toNat_of_nonneg hc0]; exact hv), M2_st a2 hc0 hs hfr.1, a3, a4, M5_st a5 hc0 hs hfr.2, a6, a7⟩
theorem back_MI {S : PS} {x : Nat} {c : Int} (h : MIe S x c) (hc0 : 0 ≤ c) (hc : zA S x 1207 c.toNat = 4 ∨ zA S x 1208 c.toNat < lenZ S x c) : MI S x := by
  obtain ⟨a1, a2⟩ := h
  rw [← Int.toNat_of_nonneg hc0] at a1
  exact ⟨M1_back a1 (by rw [Int.toNat_of_nonneg hc0]; exact hc), a2⟩
theorem place_MI {S S' : PS} {x : Nat} {c v : Int} (hG : GX S) (ha : At S x 12) (hF : Fr [10374] S S') (h : MI S x) (hc0 : 0 ≤ c) (hc6 : c ≤ 599) (hc : c < 60 * (pI S 1201 x).toInt) (h1 : zA S x 1208 c.toNat + 1 ≤ lenZ S x c) (hv : v = zA S x 1208 c.toNat + 1) (hs : ∀ j, zA S' x 1208 j = if j = c.toNat then v else zA S x 1208 j) : MIe S' x c := by
  obtain ⟨a1, a2, a3, a4, a5, a6, a7⟩ := h
  subst hv
  unfold MIe
  rw [hF.I' (g := 1201) (by decide +kernel) ha rfl, hF.I' (g := 1238) (by decide +kernel) ha rfl, lenZ_fr hF ha (ex3 (gQ_12_1203 hG ha)) (ex3 (gQ_12_1205 hG ha)) (by decide +kernel) (by decide +kernel) (by decide +kernel) (by decide +kernel), zA_fr (g := 1207) hF ha (ex3 (gQ_12_1207 hG ha)) (by decide +kernel) (by decide +kernel), zA_fr (g := 1209) hF ha (ex3 (gQ_12_1209 hG ha)) (by decide +kernel) (by decide +kernel), zA_fr (g := 1218) hF ha (ex3 (gQ_12_1218 hG ha)) (by decide +kernel) (by decide +kernel), zA_fr (g := 1219) hF ha (ex3 (gQ_12_1219 hG ha)) (by decide +kernel) (by decide +kernel), zA_fr (g := 1236) hF ha (ex3 (gQ_12_1236 hG ha)) (by decide +kernel) (by decide +kernel), zA_fr (g := 1239) hF ha (ex3 (gQ_12_1239 hG ha)) (by decide +kernel) (by decide +kernel), zA_fr (g := 1253) hF ha (ex3 (gQ_12_1253 hG ha)) (by decide +kernel) (by decide +kernel), zA_fr (g := 1254) hF ha (ex3 (gQ_12_1254 hG ha)) (by decide +kernel) (by decide +kernel), zA_fr (g := 1255) hF ha (ex3 (gQ_12_1255 hG ha)) (by decide +kernel) (by decide +kernel)]
  have b := M1_place (c := c.toNat) a1 (by omega) (by omega) (by rw [Int.toNat_of_nonneg hc0]; exact h1) rfl hs
  rw [Int.toNat_of_nonneg hc0] at b
  exact ⟨b, a2, a3, a4, a5, a6, a7⟩
theorem drawn_MI {S S' : PS} {x i : Nat} {v e : Int} (hG : GX S) (ha : At S x 12) (hF : Fr [10934] S S') (h : MIe S x e) (hs : ∀ j, zA S' x 1236 j = if j = i then v else zA S x 1236 j) (hv : v % 1000 = 0 ∨ (v / 1000 < 60 * (pI S 1201 x).toInt ∧ v % 1000 < lenZ S x (v / 1000))) : MIe S' x e := by
  obtain ⟨a1, a2, a3, a4, a5, a6, a7⟩ := h
  unfold MIe
  rw [hF.I' (g := 1201) (by decide +kernel) ha rfl, hF.I' (g := 1238) (by decide +kernel) ha rfl, lenZ_fr hF ha (ex3 (gQ_12_1203 hG ha)) (ex3 (gQ_12_1205 hG ha)) (by decide +kernel) (by decide +kernel) (by decide +kernel) (by decide +kernel), zA_fr (g := 1207) hF ha (ex3 (gQ_12_1207 hG ha)) (by decide +kernel) (by decide +kernel), zA_fr (g := 1208) hF ha (ex3 (gQ_12_1208 hG ha)) (by decide +kernel) (by decide +kernel), zA_fr (g := 1209) hF ha (ex3 (gQ_12_1209 hG ha)) (by decide +kernel) (by decide +kernel), zA_fr (g := 1218) hF ha (ex3 (gQ_12_1218 hG ha)) (by decide +kernel) (by decide +kernel), zA_fr (g := 1219) hF ha (ex3 (gQ_12_1219 hG ha)) (by decide +kernel) (by decide +kernel), zA_fr (g := 1239) hF ha (ex3 (gQ_12_1239 hG ha)) (by decide +kernel) (by decide +kernel), zA_fr (g := 1253) hF ha (ex3 (gQ_12_1253 hG ha)) (by decide +kernel) (by decide +kernel), zA_fr (g := 1254) hF ha (ex3 (gQ_12_1254 hG ha)) (by decide +kernel) (by decide +kernel), zA_fr (g := 1255) hF ha (ex3 (gQ_12_1255 hG ha)) (by decide +kernel) (by decide +kernel)]
  exact ⟨a1, a2, a3, a4, a5, M6_set a6 hs hv, a7⟩
theorem cut_MI {S S' : PS} {x : Nat} {n e : Int} (hG : GX S) (ha : At S x 12) (hF : Fr [1238, 10994] S S') (h : MIe S x e) (h0 : 0 ≤ (pI S 1238 x).toInt) (hn : 1 ≤ n) (hn2 : n ≤ 300) (hk : (pI S' 1238 x).toInt = (pI S 1238 x).toInt + 1) (hs : ∀ j, zA S' x 1239 j = if j = ((pI S 1238 x).toInt + 1).toNat then zA S x 1239 (pI S 1238 x).toInt.toNat + n else zA S x 1239 j) : MIe S' x e := by
  obtain ⟨a1, a2, a3, a4, a5, a6, a7⟩ := h
  unfold MIe
  rw [hk, hF.I' (g := 1201) (by decide +kernel) ha rfl, lenZ_fr hF ha (ex3 (gQ_12_1203 hG ha)) (ex3 (gQ_12_1205 hG ha)) (by decide +kernel) (by decide +kernel) (by decide +kernel) (by decide +kernel), zA_fr (g := 1207) hF ha (ex3 (gQ_12_1207 hG ha)) (by decide +kernel) (by decide +kernel), zA_fr (g := 1208) hF ha (ex3 (gQ_12_1208 hG ha)) (by decide +kernel) (by decide +kernel), zA_fr (g := 1209) hF ha (ex3 (gQ_12_1209 hG ha)) (by decide +kernel) (by decide +kernel), zA_fr (g := 1218) hF ha (ex3 (gQ_12_1218 hG ha)) (by decide +kernel) (by decide +kernel), zA_fr (g := 1219) hF ha (ex3 (gQ_12_1219 hG ha)) (by decide +kernel) (by decide +kernel), zA_fr (g := 1236) hF ha (ex3 (gQ_12_1236 hG ha)) (by decide +kernel) (by decide +kernel), zA_fr (g := 1253) hF ha (ex3 (gQ_12_1253 hG ha)) (by decide +kernel) (by decide +kernel), zA_fr (g := 1254) hF ha (ex3 (gQ_12_1254 hG ha)) (by decide +kernel) (by decide +kernel), zA_fr (g := 1255) hF ha (ex3 (gQ_12_1255 hG ha)) (by decide +kernel) (by decide +kernel)]
  exact ⟨a1, a2, a3, a4, a5, a6, M7_cut a7 h0 hn hn2 hs⟩
theorem lenZ_set {S S' : PS} {x : Nat} {l : Int} {v3 v5 : Int32} (h3 : ∀ j, mA S' x 1203 j = if j = l.toNat then v3 else mA S x 1203 j) (h5 : ∀ j, mA S' x 1205 j = if j = l.toNat then v5 else mA S x 1205 j) (h0 : 0 ≤ l) : ∀ c : Int, 0 ≤ c → c / 60 ≠ l → lenZ S' x c = lenZ S x c := fun c hc0 hc => by
  have z : ¬ (c / 60).toNat = l.toNat := by omega
  rw [lenZ_eq, lenZ_eq, h3, h5, if_neg z, if_neg z]
theorem mA_sAs {S S1 : PS} {x g q i : Nat} {v : Int32} (e : S1 = sA S q (upd (pA S q) i v)) (hR : pR S g x = some q) : ∀ j, mA S1 x g j = if j = i then v else mA S x g j := fun j => by
  subst e
  rw [mA_eq hR, mA_eq (show pR (sA S q (upd (pA S q) i v)) g x = some q by rw [pR_sA]; exact hR)]
  have e2 : pA (sA S q (upd (pA S q) i v)) q = upd (pA S q) i v := if_pos rfl
  rw [e2]
  unfold upd
  by_cases h : j = i
  · subst h; simp
  · simp [h, Ne.symm h]
theorem lot_MI {S S' : PS} {x : Nat} {v3 v5 : Int32} (hG : GX S) (hG' : GX S') (ha : At S x 12) (ha' : At S' x 12) (hF : Fr ML0 S S') (h : MI S x) (hl : (pI S' 1201 x).toInt = (pI S 1201 x).toInt + 1) (h3 : ∀ j, mA S' x 1203 j = if j = (pI S 1201 x).toInt.toNat then v3 else mA S x 1203 j) (h5 : ∀ j, mA S' x 1205 j = if j = (pI S 1201 x).toInt.toNat then v5 else mA S x 1205 j) : MI S' x := by
  obtain ⟨a1, a2, a3, a4, a5, a6, a7⟩ := h
  have h0 := (gI_12_1201 hG ha).1
  have hz := lenZ_set h3 h5 h0
  unfold MI MIe
  rw [hl, hF.I' (g := 1238) (by decide +kernel) ha rfl, zA_fr (g := 1207) hF ha (ex3 (gQ_12_1207 hG ha)) (by decide +kernel) (by decide +kernel), zA_fr (g := 1208) hF ha (ex3 (gQ_12_1208 hG ha)) (by decide +kernel) (by decide +kernel), zA_fr (g := 1209) hF ha (ex3 (gQ_12_1209 hG ha)) (by decide +kernel) (by decide +kernel), zA_fr (g := 1218) hF ha (ex3 (gQ_12_1218 hG ha)) (by decide +kernel) (by decide +kernel), zA_fr (g := 1219) hF ha (ex3 (gQ_12_1219 hG ha)) (by decide +kernel) (by decide +kernel), zA_fr (g := 1236) hF ha (ex3 (gQ_12_1236 hG ha)) (by decide +kernel) (by decide +kernel), zA_fr (g := 1239) hF ha (ex3 (gQ_12_1239 hG ha)) (by decide +kernel) (by decide +kernel), zA_fr (g := 1253) hF ha (ex3 (gQ_12_1253 hG ha)) (by decide +kernel) (by decide +kernel), zA_fr (g := 1254) hF ha (ex3 (gQ_12_1254 hG ha)) (by decide +kernel) (by decide +kernel), zA_fr (g := 1255) hF ha (ex3 (gQ_12_1255 hG ha)) (by decide +kernel) (by decide +kernel)]
  refine ⟨M1_lot a1 h0 hz (fun c => lenZ_ge _ _ _), M2_lot a2, a3, a4, M5_lot a5, M6_lot a6 (fun j => ?_) hz, a7⟩
  obtain ⟨q, q1, q2, -⟩ := gQ_12_1236 hG ha
  rw [zA_eq, mA_eq q1]
  exact (gE_934 hG q2 j).1
theorem shelve_MI {S S' : PS} {x p : Nat} {c : Int} (hG : GX S) (ha : At S x 12) (hF : Fr MSH S S') (h : MI S x) (hc0 : 0 ≤ c) (hc6 : c ≤ 599) (hc : c < 60 * (pI S 1201 x).toInt) (hst : zA S x 1207 c.toNat = 0) (hs : ∀ j, zA S' x 1207 j = if j = c.toNat then 5 else zA S x 1207 j) (hi : ∀ j, zA S' x 1253 j = if j = p then 1 else zA S x 1253 j) (hla : ∀ j, zA S' x 1254 j = if j = p then 0 else zA S x 1254 j) (hlv : ∀ j, zA S' x 1255 j = if j = p then c else zA S x 1255 j) : MI S' x := by
  have hfr := Fre_of h hst (Or.inl (by omega))
  obtain ⟨a1, a2, a3, a4, a5, a6, a7⟩ := h
  unfold MI MIe
  rw [hF.I' (g := 1201) (by decide +kernel) ha rfl, hF.I' (g := 1238) (by decide +kernel) ha rfl, lenZ_fr hF ha (ex3 (gQ_12_1203 hG ha)) (ex3 (gQ_12_1205 hG ha)) (by decide +kernel) (by decide +kernel) (by decide +kernel) (by decide +kernel), zA_fr (g := 1208) hF ha (ex3 (gQ_12_1208 hG ha)) (by decide +kernel) (by decide +kernel), zA_fr (g := 1209) hF ha (ex3 (gQ_12_1209 hG ha)) (by decide +kernel) (by decide +kernel), zA_fr (g := 1218) hF ha (ex3 (gQ_12_1218 hG ha)) (by decide +kernel) (by decide +kernel), zA_fr (g := 1219) hF ha (ex3 (gQ_12_1219 hG ha)) (by decide +kernel) (by decide +kernel), zA_fr (g := 1236) hF ha (ex3 (gQ_12_1236 hG ha)) (by decide +kernel) (by decide +kernel), zA_fr (g := 1239) hF ha (ex3 (gQ_12_1239 hG ha)) (by decide +kernel) (by decide +kernel)]
  exact ⟨M1_any a1 (by omega) hs (by omega) (by rw [hst]; omega), M2_st a2 hc0 hs hfr.1, a3, a4, M5_shelve a5 (by omega) hc0 hc hst hs hi hla hlv, a6, a7⟩
theorem lay_MI {S S' : PS} {x p : Nat} (hG : GX S) (ha : At S x 12) (hF : Fr MSH S S') (h : MI S x) (h07 : zA S' x 1207 = zA S x 1207) (hi : ∀ j, j ≠ p → zA S' x 1253 j = zA S x 1253 j) (hla : ∀ j, j ≠ p → zA S' x 1254 j = zA S x 1254 j) (hlv : ∀ j, j ≠ p → zA S' x 1255 j = zA S x 1255 j) (hp : zA S' x 1253 p = 0 ∨ zA S' x 1254 p ≠ 0) : MI S' x := by
  obtain ⟨a1, a2, a3, a4, a5, a6, a7⟩ := h
  unfold MI MIe
  rw [h07, hF.I' (g := 1201) (by decide +kernel) ha rfl, hF.I' (g := 1238) (by decide +kernel) ha rfl, lenZ_fr hF ha (ex3 (gQ_12_1203 hG ha)) (ex3 (gQ_12_1205 hG ha)) (by decide +kernel) (by decide +kernel) (by decide +kernel) (by decide +kernel), zA_fr (g := 1208) hF ha (ex3 (gQ_12_1208 hG ha)) (by decide +kernel) (by decide +kernel), zA_fr (g := 1209) hF ha (ex3 (gQ_12_1209 hG ha)) (by decide +kernel) (by decide +kernel), zA_fr (g := 1218) hF ha (ex3 (gQ_12_1218 hG ha)) (by decide +kernel) (by decide +kernel), zA_fr (g := 1219) hF ha (ex3 (gQ_12_1219 hG ha)) (by decide +kernel) (by decide +kernel), zA_fr (g := 1236) hF ha (ex3 (gQ_12_1236 hG ha)) (by decide +kernel) (by decide +kernel), zA_fr (g := 1239) hF ha (ex3 (gQ_12_1239 hG ha)) (by decide +kernel) (by decide +kernel)]
  exact ⟨a1, a2, a3, a4, M5_lay a5 hi hla hlv hp, a6, a7⟩
/-- taken off a shelf: it is on no other one, and in no row -/
theorem take_free {S : PS} {x p : Nat} {c : Int} (h : MI S x) (hp : p < 16) (h1 : zA S x 1253 p ≠ 0) (h2 : zA S x 1254 p = 0) (hc : zA S x 1255 p = c) : 0 ≤ c ∧ c < 60 * (pI S 1201 x).toInt ∧ zA S x 1207 c.toNat = 5 ∧ (∀ r k : Nat, r < 12 → (k : Int) < zA S x 1219 r → zA S x 1218 (600 * r + k) ≠ c) ∧ ∀ k : Nat, k < 16 → k ≠ p → zA S x 1253 k ≠ 0 → zA S x 1254 k = 0 → zA S x 1255 k ≠ c := by
  obtain ⟨a1, a2, a3, a4, a5, a6, a7⟩ := h
  obtain ⟨b1, b2, b3⟩ := a5.1 p hp h1 h2
  rw [hc] at b1 b2 b3
  refine ⟨b1, b2, b3, fun r k hr hk z => ?_, fun k hk hkp z1 z2 z3 => ?_⟩
  · have b := a2 r k hr hk
    rw [z, b3] at b
    omega
  · exact a5.2 k p hk hp hkp z1 z2 h1 h2 (z3.trans hc.symm)
theorem MIe_37 {S S1 : PS} {x b : Nat} {f : Nat → Int32} {e : Int} (h : MIe S x e) (hG : GX S) (ha : At S x 12) (hb : At S b 954) (he : S1 = sA S b f) : MIe S1 x e := by
  have hF : Fr [10954] S S1 := by rw [he]; exact Fr_sA hb List.mem_cons_self
  unfold MIe at h ⊢
  rw [hF.I' (g := 1201) (by decide +kernel) ha rfl, hF.I' (g := 1238) (by decide +kernel) ha rfl, lenZ_fr hF ha (ex3 (gQ_12_1203 hG ha)) (ex3 (gQ_12_1205 hG ha)) (by decide +kernel) (by decide +kernel) (by decide +kernel) (by decide +kernel), zA_fr (g := 1207) hF ha (ex3 (gQ_12_1207 hG ha)) (by decide +kernel) (by decide +kernel), zA_fr (g := 1208) hF ha (ex3 (gQ_12_1208 hG ha)) (by decide +kernel) (by decide +kernel), zA_fr (g := 1209) hF ha (ex3 (gQ_12_1209 hG ha)) (by decide +kernel) (by decide +kernel), zA_fr (g := 1218) hF ha (ex3 (gQ_12_1218 hG ha)) (by decide +kernel) (by decide +kernel), zA_fr (g := 1219) hF ha (ex3 (gQ_12_1219 hG ha)) (by decide +kernel) (by decide +kernel), zA_fr (g := 1236) hF ha (ex3 (gQ_12_1236 hG ha)) (by decide +kernel) (by decide +kernel), zA_fr (g := 1239) hF ha (ex3 (gQ_12_1239 hG ha)) (by decide +kernel) (by decide +kernel), zA_fr (g := 1253) hF ha (ex3 (gQ_12_1253 hG ha)) (by decide +kernel) (by decide +kernel), zA_fr (g := 1254) hF ha (ex3 (gQ_12_1254 hG ha)) (by decide +kernel) (by decide +kernel), zA_fr (g := 1255) hF ha (ex3 (gQ_12_1255 hG ha)) (by decide +kernel) (by decide +kernel)]
  exact h
theorem shift_up {f g h : ZF} {R k m u : Int} (hR : 0 ≤ R) (hk : 1 ≤ k) (hkm : k ≤ m) (hg : ∀ j : Nat, g j = if 600 * R + k < (j : Int) ∧ (j : Int) ≤ 600 * R + m then f (j - 1) else f j) (hu : g (600 * R + k - 1).toNat = u) (hs : ∀ j, h j = if j = (600 * R + k).toNat then u else g j) : ∀ j : Nat, h j = if 600 * R + (k - 1) < (j : Int) ∧ (j : Int) ≤ 600 * R + m then f (j - 1) else f j := fun j => by
  rw [hs j]
  by_cases e : j = (600 * R + k).toNat
  · rw [if_pos e, if_pos (by omega), ← hu, hg, if_neg (by omega)]
    exact congrArg f (by omega)
  · rw [if_neg e, hg j]
    by_cases c : 600 * R + k < (j : Int) ∧ (j : Int) ≤ 600 * R + m
    · rw [if_pos c, if_pos (by omega)]
    · rw [if_neg c, if_neg (by omega)]
theorem comes_row {f g h : ZF} {R m w c : Int} (hR : 0 ≤ R) (hw : 0 ≤ w) (hg : ∀ j : Nat, g j = if 600 * R + w < (j : Int) ∧ (j : Int) ≤ 600 * R + m then f (j - 1) else f j) (hs : ∀ j, h j = if j = (600 * R + w).toNat then c else g j) : ∀ j : Nat, h j = if j = 600 * R.toNat + w.toNat then c else if 600 * R.toNat + w.toNat < j ∧ (j : Int) ≤ 600 * (R.toNat : Int) + m then f (j - 1) else f j := fun j => by
  rw [hs j, hg j, show (600 * R + w).toNat = 600 * R.toNat + w.toNat by omega]
  by_cases e : j = 600 * R.toNat + w.toNat
  · rw [if_pos e, if_pos e]
  · rw [if_neg e, if_neg e]
    by_cases c : 600 * R + w < (j : Int) ∧ (j : Int) ≤ 600 * R + m
    · rw [if_pos c, if_pos (by omega)]
    · rw [if_neg c, if_neg (by omega)]
theorem shift_dn {f g h : ZF} {R i k u : Int} (hR : 0 ≤ R) (hi : 0 ≤ i) (hk : i ≤ k) (hg : ∀ j : Nat, g j = if 600 * R + i ≤ (j : Int) ∧ (j : Int) < 600 * R + k then f (j + 1) else f j) (hu : g (600 * R + k + 1).toNat = u) (hs : ∀ j, h j = if j = (600 * R + k).toNat then u else g j) : ∀ j : Nat, h j = if 600 * R + i ≤ (j : Int) ∧ (j : Int) < 600 * R + (k + 1) then f (j + 1) else f j := fun j => by
  rw [hs j]
  by_cases e : j = (600 * R + k).toNat
  · rw [if_pos e, if_pos (by omega), ← hu, hg, if_neg (by omega)]
    exact congrArg f (by omega)
  · rw [if_neg e, hg j]
    by_cases c : 600 * R + i ≤ (j : Int) ∧ (j : Int) < 600 * R + k
    · rw [if_pos c, if_pos (by omega)]
    · rw [if_neg c, if_neg (by omega)]
theorem goes_row {f g : ZF} {R i k m : Int} (hR : 0 ≤ R) (hi : 0 ≤ i) (hk : k = m - 1) (hg : ∀ j : Nat, g j = if 600 * R + i ≤ (j : Int) ∧ (j : Int) < 600 * R + k then f (j + 1) else f j) : ∀ j : Nat, g j = if 600 * R.toNat + i.toNat ≤ j ∧ (j : Int) < 600 * (R.toNat : Int) + (m - 1) then f (j + 1) else f j := fun j => by
  rw [hg j]
  by_cases c : 600 * R + i ≤ (j : Int) ∧ (j : Int) < 600 * R + k
  · rw [if_pos c, if_pos (by omega)]
  · rw [if_neg c, if_neg (by omega)]
def dOK (S : PS) (x : Nat) (v : Int) : Prop := v % 1000 = 0 ∨ (v / 1000 < 60 * (pI S 1201 x).toInt ∧ v % 1000 < lenZ S x (v / 1000))
theorem dOK_6 {S : PS} {x : Nat} {e j v : Int} (h : MIe S x e) (h0 : 0 ≤ j) (h1 : j < 158400) (hv : zA S x 1236 j.toNat = v) : dOK S x v := by
  have a := MI_6 h h0 h1
  rw [hv] at a
  exact a
theorem dOK_new {S : PS} {x : Nat} {c q : Int} (hc0 : 0 ≤ c) (hc : c < 60 * (pI S 1201 x).toInt) (hq0 : 0 ≤ q) (hq : q < lenZ S x c) (hl : lenZ S x c ≤ 220) : dOK S x (1000 * c + q) := by
  have e1 : (1000 * c + q) / 1000 = c := by omega
  have e2 : (1000 * c + q) % 1000 = q := by omega
  unfold dOK
  rw [e1, e2]
  exact Or.inr ⟨hc, hq⟩
theorem take_fre {S S2 : PS} {x p : Nat} {c : Int} (h53 : ∀ j, zA S2 x 1253 j = if j = p then 0 else zA S x 1253 j) (h54 : zA S2 x 1254 = zA S x 1254) (h55 : zA S2 x 1255 = zA S x 1255) (h18 : zA S2 x 1218 = zA S x 1218) (h19 : zA S2 x 1219 = zA S x 1219) (t1 : ∀ r k : Nat, r < 12 → (k : Int) < zA S x 1219 r → zA S x 1218 (600 * r + k) ≠ c) (t2 : ∀ k : Nat, k < 16 → k ≠ p → zA S x 1253 k ≠ 0 → zA S x 1254 k = 0 → zA S x 1255 k ≠ c) : Fre S2 x c := by
  unfold Fre
  rw [h54, h55, h18, h19]
  refine ⟨t1, fun k hk z1 z2 => ?_⟩
  by_cases e : k = p
  · rw [h53 k, if_pos e] at z1; exact absurd rfl z1
  · rw [h53 k, if_neg e] at z1; exact t2 k hk e z1 z2
theorem GR_eq {S S' : PS} {x : Nat} (e : zA S' x 1237 = zA S x 1237) (h : GR S x) : GR S' x := by
  unfold GR at h ⊢
  rw [e]
  exact h
theorem GR_set {S S' : PS} {x n : Nat} {v : Int} (hs : ∀ j, zA S' x 1237 j = if j = n then v else zA S x 1237 j) (hv : v ≤ 299) (h : GR S x) : GR S' x := fun p hp => by
  rw [hs p]
  split
  · exact hv
  · exact h p hp
theorem dX12_comes_0 : decode cX12_comes 0 = .ok (.iconst 3, 1) := by decide +kernel
theorem dX12_comes_1 : decode cX12_comes 1 = .ok (.iload_n 1, 1) := by decide +kernel
theorem dX12_comes_2 : decode cX12_comes 2 = .ok (.imul, 1) := by decide +kernel
theorem dX12_comes_3 : decode cX12_comes 3 = .ok (.iload_n 2, 1) := by decide +kernel
theorem dX12_comes_4 : decode cX12_comes 4 = .ok (.iadd, 1) := by decide +kernel
theorem dX12_comes_5 : decode cX12_comes 5 = .ok (.istore 5, 2) := by decide +kernel
theorem dX12_comes_7 : decode cX12_comes 7 = .ok (.aload_n 0, 1) := by decide +kernel
theorem dX12_comes_8 : decode cX12_comes 8 = .ok (.getfield 58, 3) := by decide +kernel
theorem dX12_comes_11 : decode cX12_comes 11 = .ok (.iload 5, 2) := by decide +kernel
theorem dX12_comes_13 : decode cX12_comes 13 = .ok (.iaload, 1) := by decide +kernel
theorem dX12_comes_14 : decode cX12_comes 14 = .ok (.istore 6, 2) := by decide +kernel
theorem dX12_comes_16 : decode cX12_comes 16 = .ok (.iload 6, 2) := by decide +kernel
theorem dX12_comes_18 : decode cX12_comes 18 = .ok (.iload 4, 2) := by decide +kernel
theorem dX12_comes_20 : decode cX12_comes 20 = .ok (.if_icmp .le 39, 3) := by decide +kernel
theorem dX12_comes_23 : decode cX12_comes 23 = .ok (.aload_n 0, 1) := by decide +kernel
theorem dX12_comes_24 : decode cX12_comes 24 = .ok (.getfield 55, 3) := by decide +kernel
theorem dX12_comes_27 : decode cX12_comes 27 = .ok (.sipush 600, 3) := by decide +kernel
theorem dX12_comes_30 : decode cX12_comes 30 = .ok (.iload 5, 2) := by decide +kernel
theorem dX12_comes_32 : decode cX12_comes 32 = .ok (.imul, 1) := by decide +kernel
theorem dX12_comes_33 : decode cX12_comes 33 = .ok (.iload 6, 2) := by decide +kernel
theorem dX12_comes_35 : decode cX12_comes 35 = .ok (.iadd, 1) := by decide +kernel
theorem dX12_comes_36 : decode cX12_comes 36 = .ok (.aload_n 0, 1) := by decide +kernel
theorem dX12_comes_37 : decode cX12_comes 37 = .ok (.getfield 55, 3) := by decide +kernel
theorem dX12_comes_40 : decode cX12_comes 40 = .ok (.sipush 600, 3) := by decide +kernel
theorem dX12_comes_43 : decode cX12_comes 43 = .ok (.iload 5, 2) := by decide +kernel
theorem dX12_comes_45 : decode cX12_comes 45 = .ok (.imul, 1) := by decide +kernel
theorem dX12_comes_46 : decode cX12_comes 46 = .ok (.iload 6, 2) := by decide +kernel
theorem dX12_comes_48 : decode cX12_comes 48 = .ok (.iadd, 1) := by decide +kernel
theorem dX12_comes_49 : decode cX12_comes 49 = .ok (.iconst 1, 1) := by decide +kernel
theorem dX12_comes_50 : decode cX12_comes 50 = .ok (.isub, 1) := by decide +kernel
theorem dX12_comes_51 : decode cX12_comes 51 = .ok (.iaload, 1) := by decide +kernel
theorem dX12_comes_52 : decode cX12_comes 52 = .ok (.iastore, 1) := by decide +kernel
theorem dX12_comes_53 : decode cX12_comes 53 = .ok (.iinc 6 (-1), 3) := by decide +kernel
theorem dX12_comes_56 : decode cX12_comes 56 = .ok (.goto (-40), 3) := by decide +kernel
theorem dX12_comes_59 : decode cX12_comes 59 = .ok (.aload_n 0, 1) := by decide +kernel
theorem dX12_comes_60 : decode cX12_comes 60 = .ok (.getfield 55, 3) := by decide +kernel
theorem dX12_comes_63 : decode cX12_comes 63 = .ok (.sipush 600, 3) := by decide +kernel
theorem dX12_comes_66 : decode cX12_comes 66 = .ok (.iload 5, 2) := by decide +kernel
theorem dX12_comes_68 : decode cX12_comes 68 = .ok (.imul, 1) := by decide +kernel
theorem dX12_comes_69 : decode cX12_comes 69 = .ok (.iload 4, 2) := by decide +kernel
theorem dX12_comes_71 : decode cX12_comes 71 = .ok (.iadd, 1) := by decide +kernel
theorem dX12_comes_72 : decode cX12_comes 72 = .ok (.iload_n 3, 1) := by decide +kernel
theorem dX12_comes_73 : decode cX12_comes 73 = .ok (.iastore, 1) := by decide +kernel
theorem dX12_comes_74 : decode cX12_comes 74 = .ok (.aload_n 0, 1) := by decide +kernel
theorem dX12_comes_75 : decode cX12_comes 75 = .ok (.getfield 58, 3) := by decide +kernel
theorem dX12_comes_78 : decode cX12_comes 78 = .ok (.iload 5, 2) := by decide +kernel
theorem dX12_comes_80 : decode cX12_comes 80 = .ok (.dup2, 1) := by decide +kernel
theorem dX12_comes_81 : decode cX12_comes 81 = .ok (.iaload, 1) := by decide +kernel
theorem dX12_comes_82 : decode cX12_comes 82 = .ok (.iconst 1, 1) := by decide +kernel
theorem dX12_comes_83 : decode cX12_comes 83 = .ok (.iadd, 1) := by decide +kernel
theorem dX12_comes_84 : decode cX12_comes 84 = .ok (.iastore, 1) := by decide +kernel
theorem dX12_comes_85 : decode cX12_comes 85 = .ok (.aload_n 0, 1) := by decide +kernel
theorem dX12_comes_86 : decode cX12_comes 86 = .ok (.getfield 25, 3) := by decide +kernel
theorem dX12_comes_89 : decode cX12_comes 89 = .ok (.iload_n 3, 1) := by decide +kernel
theorem dX12_comes_90 : decode cX12_comes 90 = .ok (.iload_n 2, 1) := by decide +kernel
theorem dX12_comes_91 : decode cX12_comes 91 = .ok (.iconst 1, 1) := by decide +kernel
theorem dX12_comes_92 : decode cX12_comes 92 = .ok (.iadd, 1) := by decide +kernel
theorem dX12_comes_93 : decode cX12_comes 93 = .ok (.iastore, 1) := by decide +kernel
theorem dX12_comes_94 : decode cX12_comes 94 = .ok (.aload_n 0, 1) := by decide +kernel
theorem dX12_comes_95 : decode cX12_comes 95 = .ok (.getfield 31, 3) := by decide +kernel
theorem dX12_comes_98 : decode cX12_comes 98 = .ok (.iload_n 3, 1) := by decide +kernel
theorem dX12_comes_99 : decode cX12_comes 99 = .ok (.iload_n 1, 1) := by decide +kernel
theorem dX12_comes_100 : decode cX12_comes 100 = .ok (.iastore, 1) := by decide +kernel
theorem dX12_comes_101 : decode cX12_comes 101 = .ok (.return_, 1) := by decide +kernel
theorem dX12_goes_0 : decode cX12_goes 0 = .ok (.iconst 3, 1) := by decide +kernel
theorem dX12_goes_1 : decode cX12_goes 1 = .ok (.iload_n 1, 1) := by decide +kernel
theorem dX12_goes_2 : decode cX12_goes 2 = .ok (.imul, 1) := by decide +kernel
theorem dX12_goes_3 : decode cX12_goes 3 = .ok (.iload_n 2, 1) := by decide +kernel
theorem dX12_goes_4 : decode cX12_goes 4 = .ok (.iadd, 1) := by decide +kernel
theorem dX12_goes_5 : decode cX12_goes 5 = .ok (.istore 4, 2) := by decide +kernel
theorem dX12_goes_7 : decode cX12_goes 7 = .ok (.aload_n 0, 1) := by decide +kernel
theorem dX12_goes_8 : decode cX12_goes 8 = .ok (.getfield 55, 3) := by decide +kernel
theorem dX12_goes_11 : decode cX12_goes 11 = .ok (.sipush 600, 3) := by decide +kernel
theorem dX12_goes_14 : decode cX12_goes 14 = .ok (.iload 4, 2) := by decide +kernel
theorem dX12_goes_16 : decode cX12_goes 16 = .ok (.imul, 1) := by decide +kernel
theorem dX12_goes_17 : decode cX12_goes 17 = .ok (.iload_n 3, 1) := by decide +kernel
theorem dX12_goes_18 : decode cX12_goes 18 = .ok (.iadd, 1) := by decide +kernel
theorem dX12_goes_19 : decode cX12_goes 19 = .ok (.iaload, 1) := by decide +kernel
theorem dX12_goes_20 : decode cX12_goes 20 = .ok (.istore 5, 2) := by decide +kernel
theorem dX12_goes_22 : decode cX12_goes 22 = .ok (.aload_n 0, 1) := by decide +kernel
theorem dX12_goes_23 : decode cX12_goes 23 = .ok (.getfield 58, 3) := by decide +kernel
theorem dX12_goes_26 : decode cX12_goes 26 = .ok (.iload 4, 2) := by decide +kernel
theorem dX12_goes_28 : decode cX12_goes 28 = .ok (.dup2, 1) := by decide +kernel
theorem dX12_goes_29 : decode cX12_goes 29 = .ok (.iaload, 1) := by decide +kernel
theorem dX12_goes_30 : decode cX12_goes 30 = .ok (.iconst 1, 1) := by decide +kernel
theorem dX12_goes_31 : decode cX12_goes 31 = .ok (.isub, 1) := by decide +kernel
theorem dX12_goes_32 : decode cX12_goes 32 = .ok (.iastore, 1) := by decide +kernel
theorem dX12_goes_33 : decode cX12_goes 33 = .ok (.iload_n 3, 1) := by decide +kernel
theorem dX12_goes_34 : decode cX12_goes 34 = .ok (.istore 6, 2) := by decide +kernel
theorem dX12_goes_36 : decode cX12_goes 36 = .ok (.iload 6, 2) := by decide +kernel
theorem dX12_goes_38 : decode cX12_goes 38 = .ok (.aload_n 0, 1) := by decide +kernel
theorem dX12_goes_39 : decode cX12_goes 39 = .ok (.getfield 58, 3) := by decide +kernel
theorem dX12_goes_42 : decode cX12_goes 42 = .ok (.iload 4, 2) := by decide +kernel
theorem dX12_goes_44 : decode cX12_goes 44 = .ok (.iaload, 1) := by decide +kernel
theorem dX12_goes_45 : decode cX12_goes 45 = .ok (.if_icmp .ge 39, 3) := by decide +kernel
theorem dX12_goes_48 : decode cX12_goes 48 = .ok (.aload_n 0, 1) := by decide +kernel
theorem dX12_goes_49 : decode cX12_goes 49 = .ok (.getfield 55, 3) := by decide +kernel
theorem dX12_goes_52 : decode cX12_goes 52 = .ok (.sipush 600, 3) := by decide +kernel
theorem dX12_goes_55 : decode cX12_goes 55 = .ok (.iload 4, 2) := by decide +kernel
theorem dX12_goes_57 : decode cX12_goes 57 = .ok (.imul, 1) := by decide +kernel
theorem dX12_goes_58 : decode cX12_goes 58 = .ok (.iload 6, 2) := by decide +kernel
theorem dX12_goes_60 : decode cX12_goes 60 = .ok (.iadd, 1) := by decide +kernel
theorem dX12_goes_61 : decode cX12_goes 61 = .ok (.aload_n 0, 1) := by decide +kernel
theorem dX12_goes_62 : decode cX12_goes 62 = .ok (.getfield 55, 3) := by decide +kernel
theorem dX12_goes_65 : decode cX12_goes 65 = .ok (.sipush 600, 3) := by decide +kernel
theorem dX12_goes_68 : decode cX12_goes 68 = .ok (.iload 4, 2) := by decide +kernel
theorem dX12_goes_70 : decode cX12_goes 70 = .ok (.imul, 1) := by decide +kernel
theorem dX12_goes_71 : decode cX12_goes 71 = .ok (.iload 6, 2) := by decide +kernel
theorem dX12_goes_73 : decode cX12_goes 73 = .ok (.iadd, 1) := by decide +kernel
theorem dX12_goes_74 : decode cX12_goes 74 = .ok (.iconst 1, 1) := by decide +kernel
theorem dX12_goes_75 : decode cX12_goes 75 = .ok (.iadd, 1) := by decide +kernel
theorem dX12_goes_76 : decode cX12_goes 76 = .ok (.iaload, 1) := by decide +kernel
theorem dX12_goes_77 : decode cX12_goes 77 = .ok (.iastore, 1) := by decide +kernel
theorem dX12_goes_78 : decode cX12_goes 78 = .ok (.iinc 6 1, 3) := by decide +kernel
theorem dX12_goes_81 : decode cX12_goes 81 = .ok (.goto (-45), 3) := by decide +kernel
theorem dX12_goes_84 : decode cX12_goes 84 = .ok (.iload 5, 2) := by decide +kernel
theorem dX12_goes_86 : decode cX12_goes 86 = .ok (.ireturn, 1) := by decide +kernel
theorem inn_X12_comes_12 : ∀ w ∈ u_ws RX12 TX12 66, w ∈ wsX12_comes := fun w h => List.mem_cons_of_mem _ (List.mem_append_right _ h)
theorem inn_X12_goes_12 : ∀ w ∈ u_ws RX12 TX12 66, w ∈ wsX12_goes := fun w h => List.mem_cons_of_mem _ (List.mem_append_right _ h)
