def MCO : List Nat := [10354, 10394, 10574, 10594]
def MGO : List Nat := [10574, 10594]
def MSH : List Nat := [1200, 10354, 11275, 11294, 11314, 11334, 11354]
def MLY : List Nat := [1200, 11275, 11294, 11314]
def MFI : List Nat := [1200, 10354, 10394, 10574, 10594]
def MCU : List Nat := [1200, 1238, 1246, 10914, 10934, 10954, 10994, 11014, 11034, 11054, 11074, 11095]
/-! ===== what keeps MI ===== -/
theorem lenZ_fr {M : List Nat} {S S' : PS} {x k3 k5 : Nat} (hF : Fr M S S') (ha : At S x 12) (h3 : ∃ q, pR S 1203 x = some q ∧ At S q k3) (h5 : ∃ q, pR S 1205 x = some q ∧ At S q k5) (c1 : M.contains 1203 = false) (c2 : M.contains (10000 + k3) = false) (c3 : M.contains 1205 = false) (c4 : M.contains (10000 + k5) = false) : lenZ S' x = lenZ S x := by
  funext c
  rw [lenZ_eq, lenZ_eq, mA_fr hF ha h3 c1 c2, mA_fr hF ha h5 c3 c4]
theorem goes_MI {S S' : PS} {x r i : Nat} {e : Int} (hG : GX S) (ha : At S x 12) (hF : Fr MGO S S') (h : MIe S x e) (hr : r < 12) (hi : (i : Int) < zA S x 1219 r) (hm : ∀ j, zA S' x 1219 j = if j = r then zA S x 1219 r - 1 else zA S x 1219 j) (ho : ∀ j : Nat, zA S' x 1218 j = if 600 * r + i ≤ j ∧ (j : Int) < 600 * r + (zA S x 1219 r - 1) then zA S x 1218 (j + 1) else zA S x 1218 j) : MIe S' x e ∧ Fre S' x (zA S x 1218 (600 * r + i)) := by
  obtain ⟨a1, a2, a3, a4, a5, a6, a7⟩ := h
  have b := a2 r i hr hi
  unfold MIe Fre
  rw [hF.I' (g := 1201) (by decide +kernel) ha rfl, hF.I' (g := 1238) (by decide +kernel) ha rfl, lenZ_fr hF ha (ex3 (gQ_12_1203 hG ha)) (ex3 (gQ_12_1205 hG ha)) (by decide +kernel) (by decide +kernel) (by decide +kernel) (by decide +kernel), zA_fr (g := 1207) hF ha (ex3 (gQ_12_1207 hG ha)) (by decide +kernel) (by decide +kernel), zA_fr (g := 1208) hF ha (ex3 (gQ_12_1208 hG ha)) (by decide +kernel) (by decide +kernel), zA_fr (g := 1209) hF ha (ex3 (gQ_12_1209 hG ha)) (by decide +kernel) (by decide +kernel), zA_fr (g := 1236) hF ha (ex3 (gQ_12_1236 hG ha)) (by decide +kernel) (by decide +kernel), zA_fr (g := 1239) hF ha (ex3 (gQ_12_1239 hG ha)) (by decide +kernel) (by decide +kernel), zA_fr (g := 1253) hF ha (ex3 (gQ_12_1253 hG ha)) (by decide +kernel) (by decide +kernel), zA_fr (g := 1254) hF ha (ex3 (gQ_12_1254 hG ha)) (by decide +kernel) (by decide +kernel), zA_fr (g := 1255) hF ha (ex3 (gQ_12_1255 hG ha)) (by decide +kernel) (by decide +kernel)]
  refine ⟨⟨a1, M2_goes hr a2 a4 hm hi ho, M3_goes hr a3 a4 hm hi ho, M4_goes a4 hr hm (by omega), a5, a6, a7⟩, free_goes hr a2 a3 a4 hm hi ho, fun k hk z1 z2 z3 => ?_⟩
  have d := (a5.1 k hk z1 z2).2.2
  rw [z3, b.2.2.1] at d
  omega
theorem comes_MI {S S' : PS} {x r w : Nat} {c : Int} (hG : GX S) (ha : At S x 12) (hF : Fr MCO S S') (h : MI S x) (hr : r < 12) (hc0 : 0 ≤ c) (hc : c < 60 * (pI S 1201 x).toInt) (hl : (pI S 1201 x).toInt ≤ 10) (hfr : Fre S x c) (hp : zA S x 1208 c.toNat < lenZ S x c) (hw : (w : Int) ≤ zA S x 1219 r) (he : r % 3 = 1 → zA S x 1219 r ≤ 11) (hm : ∀ j, zA S' x 1219 j = if j = r then zA S x 1219 r + 1 else zA S x 1219 j) (ho : ∀ j : Nat, zA S' x 1218 j = if j = 600 * r + w then c else if 600 * r + w < j ∧ (j : Int) ≤ 600 * r + zA S x 1219 r then zA S x 1218 (j - 1) else zA S x 1218 j) (hs : ∀ j, zA S' x 1207 j = if j = c.toNat then ((r % 3 + 1 : Nat) : Int) else zA S x 1207 j) (hq : ∀ j, zA S' x 1209 j = if j = c.toNat then ((r / 3 : Nat) : Int) else zA S x 1209 j) : MI S' x := by
  obtain ⟨a1, a2, a3, a4, a5, a6, a7⟩ := h
  have hb := row_room hl a2 a3 a4 hr hc0 hc (fun k hk => hfr.1 r k hr hk)
  unfold MI MIe
  rw [hF.I' (g := 1201) (by decide +kernel) ha rfl, hF.I' (g := 1238) (by decide +kernel) ha rfl, lenZ_fr hF ha (ex3 (gQ_12_1203 hG ha)) (ex3 (gQ_12_1205 hG ha)) (by decide +kernel) (by decide +kernel) (by decide +kernel) (by decide +kernel), zA_fr (g := 1208) hF ha (ex3 (gQ_12_1208 hG ha)) (by decide +kernel) (by decide +kernel), zA_fr (g := 1236) hF ha (ex3 (gQ_12_1236 hG ha)) (by decide +kernel) (by decide +kernel), zA_fr (g := 1239) hF ha (ex3 (gQ_12_1239 hG ha)) (by decide +kernel) (by decide +kernel), zA_fr (g := 1253) hF ha (ex3 (gQ_12_1253 hG ha)) (by decide +kernel) (by decide +kernel), zA_fr (g := 1254) hF ha (ex3 (gQ_12_1254 hG ha)) (by decide +kernel) (by decide +kernel), zA_fr (g := 1255) hF ha (ex3 (gQ_12_1255 hG ha)) (by decide +kernel) (by decide +kernel)]
  exact ⟨M1_st a1 hs (by omega) (Or.inr (Or.inr (by rw [Int.toNat_of_nonneg hc0]; exact hp))), M2_comes hr a2 a4 hc0 hc hfr.1 hb hw hm ho hs hq, M3_comes hr a3 a4 hfr.1 hb hw hm ho, M4_comes a4 hr hm hb he, M5_st a5 hc0 hs hfr.2, a6, a7⟩
theorem room_MI {S : PS} {x r : Nat} {c e : Int} (h : MIe S x e) (hr : r < 12) (hc0 : 0 ≤ c) (hc : c < 60 * (pI S 1201 x).toInt) (hl : (pI S 1201 x).toInt ≤ 10) (hfr : Fre S x c) : zA S x 1219 r ≤ 599 := row_room hl h.2.1 h.2.2.1 h.2.2.2.1 hr hc0 hc (fun k hk => hfr.1 r k hr hk)
theorem Fre_of {S : PS} {x : Nat} {e c v : Int} (h : MIe S x e) (hv : zA S x 1207 c.toNat = v) (h0 : v < 1 ∨ v = 4 ∨ 5 < v) : Fre S x c := ⟨fun r k hr hk z => by
  have b := h.2.1 r k hr hk
  rw [z, hv] at b
  omega, fun k hk z1 z2 z3 => by
  have d := (h.2.2.2.2.1.1 k hk z1 z2).2.2
  rw [z3, hv] at d
  omega⟩
theorem stand_MI {S S' : PS} {x : Nat} {c v e : Int} (hG : GX S) (ha : At S x 12) (hF : Fr [10354] S S') (h : MIe S x e) (hc0 : 0 ≤ c) (hc : c < 60 * (pI S 1201 x).toInt) (hfr : Fre S x c) (hs : ∀ j, zA S' x 1207 j = if j = c.toNat then v else zA S x 1207 j) (hv : v = 4 ∨ c = e ∨ zA S x 1208 c.toNat < lenZ S x c) : MIe S' x e := by
  obtain ⟨a1, a2, a3, a4, a5, a6, a7⟩ := h
  unfold MIe
  rw [hF.I' (g := 1201) (by decide +kernel) ha rfl, hF.I' (g := 1238) (by decide +kernel) ha rfl, lenZ_fr hF ha (ex3 (gQ_12_1203 hG ha)) (ex3 (gQ_12_1205 hG ha)) (by decide +kernel) (by decide +kernel) (by decide +kernel) (by decide +kernel), zA_fr (g := 1208) hF ha (ex3 (gQ_12_1208 hG ha)) (by decide +kernel) (by decide +kernel), zA_fr (g := 1209) hF ha (ex3 (gQ_12_1209 hG ha)) (by decide +kernel) (by decide +kernel), zA_fr (g := 1218) hF ha (ex3 (gQ_12_1218 hG ha)) (by decide +kernel) (by decide +kernel), zA_fr (g := 1219) hF ha (ex3 (gQ_12_1219 hG ha)) (by decide +kernel) (by decide +kernel), zA_fr (g := 1236) hF ha (ex3 (gQ_12_1236 hG ha)) (by decide +kernel) (by decide +kernel), zA_fr (g := 1239) hF ha (ex3 (gQ_12_1239 hG ha)) (by decide +kernel) (by decide +kernel), zA_fr (g := 1253) hF ha (ex3 (gQ_12_1253 hG ha)) (by decide +kernel) (by decide +kernel), zA_fr (g := 1254) hF ha (ex3 (gQ_12_1254 hG ha)) (by decide +kernel) (by decide +kernel), zA_fr (g := 1255) hF ha (ex3 (gQ_12_1255 hG ha)) (by decide +kernel) (by decide +kernel)]
  exact ⟨M1_st a1 hs (by omega) (by rw [Int.toNat_of_nonneg hc0]; exact hv), M2_st a2 hc0 hs hfr.1, a3, a4, M5_st a5 hc0 hs hfr.2, a6, a7⟩
theorem back_MI {S : PS} {x : Nat} {c : Int} (h : MIe S x c) (hc0 : 0 ≤ c) (hc : zA S x 1207 c.toNat = 4 ∨ zA S x 1208 c.toNat < lenZ S x c) : MI S x := by
  obtain ⟨a1, a2⟩ := h
  rw [← Int.toNat_of_nonneg hc0] at a1
  exact ⟨M1_back a1 (by rw [Int.toNat_of_nonneg hc0]; exact hc), a2⟩
theorem place_MI {S S' : PS} {x : Nat} {c v : Int} (hG : GX S) (ha : At S x 12) (hF : Fr [10374] S S') (h : MI S x) (hc0 : 0 ≤ c) (hc6 : c ≤ 599) (hc : c < 60 * (pI S 1201 x).toInt) (h1 : zA S x 1208 c.toNat + 1 ≤ lenZ S x c) (hv : v = zA S x 1208 c.toNat + 1) (hs : ∀ j, zA S' x 1208 j = if j = c.toNat then v else zA S x 1208 j) : MIe S' x c := by
  obtain ⟨a1, a2, a3, a4, a5, a6, a7⟩ := h
  subst hv
  unfold MIe
  rw [hF.I' (g := 1201) (by decide +kernel) ha rfl, hF.I' (g := 1238) (by decide +kernel) ha rfl, lenZ_fr hF ha (ex3 (gQ_12_1203 hG ha)) (ex3 (gQ_12_1205 hG ha)) (by decide +kernel) (by decide +kernel) (by decide +kernel) (by decide +kernel), zA_fr (g := 1207) hF ha (ex3 (gQ_12_1207 hG ha)) (by decide +kernel) (by decide +kernel), zA_fr (g := 1209) hF ha (ex3 (gQ_12_1209 hG ha)) (by decide +kernel) (by decide +kernel), zA_fr (g := 1218) hF ha (ex3 (gQ_12_1218 hG ha)) (by decide +kernel) (by decide +kernel), zA_fr (g := 1219) hF ha (ex3 (gQ_12_1219 hG ha)) (by decide +kernel) (by decide +kernel), zA_fr (g := 1236) hF ha (ex3 (gQ_12_1236 hG ha)) (by decide +kernel) (by decide +kernel), zA_fr (g := 1239) hF ha (ex3 (gQ_12_1239 hG ha)) (by decide +kernel) (by decide +kernel), zA_fr (g := 1253) hF ha (ex3 (gQ_12_1253 hG ha)) (by decide +kernel) (by decide +kernel), zA_fr (g := 1254) hF ha (ex3 (gQ_12_1254 hG ha)) (by decide +kernel) (by decide +kernel), zA_fr (g := 1255) hF ha (ex3 (gQ_12_1255 hG ha)) (by decide +kernel) (by decide +kernel)]
  have b := M1_place (c := c.toNat) a1 (by omega) (by omega) (by rw [Int.toNat_of_nonneg hc0]; exact h1) rfl hs
  rw [Int.toNat_of_nonneg hc0] at b
  exact ⟨b, a2, a3, a4, a5, a6, a7⟩
theorem drawn_MI {S S' : PS} {x i : Nat} {v e : Int} (hG : GX S) (ha : At S x 12) (hF : Fr [10934] S S') (h : MIe S x e) (hs : ∀ j, zA S' x 1236 j = if j = i then v else zA S x 1236 j) (hv : v % 1000 = 0 ∨ (v / 1000 < 60 * (pI S 1201 x).toInt ∧ v % 1000 < lenZ S x (v / 1000))) : MIe S' x e := by
  obtain ⟨a1, a2, a3, a4, a5, a6, a7⟩ := h
  unfold MIe
  rw [hF.I' (g := 1201) (by decide +kernel) ha rfl, hF.I' (g := 1238) (by decide +kernel) ha rfl, lenZ_fr hF ha (ex3 (gQ_12_1203 hG ha)) (ex3 (gQ_12_1205 hG ha)) (by decide +kernel) (by decide +kernel) (by decide +kernel) (by decide +kernel), zA_fr (g := 1207) hF ha (ex3 (gQ_12_1207 hG ha)) (by decide +kernel) (by decide +kernel), zA_fr (g := 1208) hF ha (ex3 (gQ_12_1208 hG ha)) (by decide +kernel) (by decide +kernel), zA_fr (g := 1209) hF ha (ex3 (gQ_12_1209 hG ha)) (by decide +kernel) (by decide +kernel), zA_fr (g := 1218) hF ha (ex3 (gQ_12_1218 hG ha)) (by decide +kernel) (by decide +kernel), zA_fr (g := 1219) hF ha (ex3 (gQ_12_1219 hG ha)) (by decide +kernel) (by decide +kernel), zA_fr (g := 1239) hF ha (ex3 (gQ_12_1239 hG ha)) (by decide +kernel) (by decide +kernel), zA_fr (g := 1253) hF ha (ex3 (gQ_12_1253 hG ha)) (by decide +kernel) (by decide +kernel), zA_fr (g := 1254) hF ha (ex3 (gQ_12_1254 hG ha)) (by decide +kernel) (by decide +kernel), zA_fr (g := 1255) hF ha (ex3 (gQ_12_1255 hG ha)) (by decide +kernel) (by decide +kernel)]
  exact ⟨a1, a2, a3, a4, a5, M6_set a6 hs hv, a7⟩
theorem cut_MI {S S' : PS} {x : Nat} {n e : Int} (hG : GX S) (ha : At S x 12) (hF : Fr [1238, 10994] S S') (h : MIe S x e) (h0 : 0 ≤ (pI S 1238 x).toInt) (hn : 1 ≤ n) (hn2 : n ≤ 300) (hk : (pI S' 1238 x).toInt = (pI S 1238 x).toInt + 1) (hs : ∀ j, zA S' x 1239 j = if j = ((pI S 1238 x).toInt + 1).toNat then zA S x 1239 (pI S 1238 x).toInt.toNat + n else zA S x 1239 j) : MIe S' x e := by
  obtain ⟨a1, a2, a3, a4, a5, a6, a7⟩ := h
  unfold MIe
  rw [hk, hF.I' (g := 1201) (by decide +kernel) ha rfl, lenZ_fr hF ha (ex3 (gQ_12_1203 hG ha)) (ex3 (gQ_12_1205 hG ha)) (by decide +kernel) (by decide +kernel) (by decide +kernel) (by decide +kernel), zA_fr (g := 1207) hF ha (ex3 (gQ_12_1207 hG ha)) (by decide +kernel) (by decide +kernel), zA_fr (g := 1208) hF ha (ex3 (gQ_12_1208 hG ha)) (by decide +kernel) (by decide +kernel), zA_fr (g := 1209) hF ha (ex3 (gQ_12_1209 hG ha)) (by decide +kernel) (by decide +kernel), zA_fr (g := 1218) hF ha (ex3 (gQ_12_1218 hG ha)) (by decide +kernel) (by decide +kernel), zA_fr (g := 1219) hF ha (ex3 (gQ_12_1219 hG ha)) (by decide +kernel) (by decide +kernel), zA_fr (g := 1236) hF ha (ex3 (gQ_12_1236 hG ha)) (by decide +kernel) (by decide +kernel), zA_fr (g := 1253) hF ha (ex3 (gQ_12_1253 hG ha)) (by decide +kernel) (by decide +kernel), zA_fr (g := 1254) hF ha (ex3 (gQ_12_1254 hG ha)) (by decide +kernel) (by decide +kernel), zA_fr (g := 1255) hF ha (ex3 (gQ_12_1255 hG ha)) (by decide +kernel) (by decide +kernel)]
  exact ⟨a1, a2, a3, a4, a5, a6, M7_cut a7 h0 hn hn2 hs⟩
theorem lenZ_set {S S' : PS} {x : Nat} {l : Int} {v3 v5 : Int32} (h3 : ∀ j, mA S' x 1203 j = if j = l.toNat then v3 else mA S x 1203 j) (h5 : ∀ j, mA S' x 1205 j = if j = l.toNat then v5 else mA S x 1205 j) (h0 : 0 ≤ l) : ∀ c : Int, 0 ≤ c → c / 60 ≠ l → lenZ S' x c = lenZ S x c := fun c hc0 hc => by
  have z : ¬ (c / 60).toNat = l.toNat := by omega
  rw [lenZ_eq, lenZ_eq, h3, h5, if_neg z, if_neg z]
theorem mA_sAs {S S1 : PS} {x g q i : Nat} {v : Int32} (e : S1 = sA S q (upd (pA S q) i v)) (hR : pR S g x = some q) : ∀ j, mA S1 x g j = if j = i then v else mA S x g j := fun j => by
  subst e
  rw [mA_eq hR, mA_eq (show pR (sA S q (upd (pA S q) i v)) g x = some q by rw [pR_sA]; exact hR)]
  have e2 : pA (sA S q (upd (pA S q) i v)) q = upd (pA S q) i v := if_pos rfl
  rw [e2]
  unfold upd
  by_cases h : j = i
  · subst h; simp
  · simp [h, Ne.symm h]
theorem lot_MI {S S' : PS} {x : Nat} {v3 v5 : Int32} (hG : GX S) (hG' : GX S') (ha : At S x 12) (ha' : At S' x 12) (hF : Fr ML0 S S') (h : MI S x) (hl : (pI S' 1201 x).toInt = (pI S 1201 x).toInt + 1) (h3 : ∀ j, mA S' x 1203 j = if j = (pI S 1201 x).toInt.toNat then v3 else mA S x 1203 j) (h5 : ∀ j, mA S' x 1205 j = if j = (pI S 1201 x).toInt.toNat then v5 else mA S x 1205 j) : MI S' x := by
  obtain ⟨a1, a2, a3, a4, a5, a6, a7⟩ := h
  have h0 := (gI_12_1201 hG ha).1
  have hz := lenZ_set h3 h5 h0
  unfold MI MIe
  rw [hl, hF.I' (g := 1238) (by decide +kernel) ha rfl, zA_fr (g := 1207) hF ha (ex3 (gQ_12_1207 hG ha)) (by decide +kernel) (by decide +kernel), zA_fr (g := 1208) hF ha (ex3 (gQ_12_1208 hG ha)) (by decide +kernel) (by decide +kernel), zA_fr (g := 1209) hF ha (ex3 (gQ_12_1209 hG ha)) (by decide +kernel) (by decide +kernel), zA_fr (g := 1218) hF ha (ex3 (gQ_12_1218 hG ha)) (by decide +kernel) (by decide +kernel), zA_fr (g := 1219) hF ha (ex3 (gQ_12_1219 hG ha)) (by decide +kernel) (by decide +kernel), zA_fr (g := 1236) hF ha (ex3 (gQ_12_1236 hG ha)) (by decide +kernel) (by decide +kernel), zA_fr (g := 1239) hF ha (ex3 (gQ_12_1239 hG ha)) (by decide +kernel) (by decide +kernel), zA_fr (g := 1253) hF ha (ex3 (gQ_12_1253 hG ha)) (by decide +kernel) (by decide +kernel), zA_fr (g := 1254) hF ha (ex3 (gQ_12_1254 hG ha)) (by decide +kernel) (by decide +kernel), zA_fr (g := 1255) hF ha (ex3 (gQ_12_1255 hG ha)) (by decide +kernel) (by decide +kernel)]
  refine ⟨M1_lot a1 h0 hz (fun c => lenZ_ge _ _ _), M2_lot a2, a3, a4, M5_lot a5, M6_lot a6 (fun j => ?_) hz, a7⟩
  obtain ⟨q, q1, q2, -⟩ := gQ_12_1236 hG ha
  rw [zA_eq, mA_eq q1]
  exact (gE_934 hG q2 j).1
theorem shelve_MI {S S' : PS} {x p : Nat} {c : Int} (hG : GX S) (ha : At S x 12) (hF : Fr MSH S S') (h : MI S x) (hc0 : 0 ≤ c) (hc6 : c ≤ 599) (hc : c < 60 * (pI S 1201 x).toInt) (hst : zA S x 1207 c.toNat = 0) (hs : ∀ j, zA S' x 1207 j = if j = c.toNat then 5 else zA S x 1207 j) (hi : ∀ j, zA S' x 1253 j = if j = p then 1 else zA S x 1253 j) (hla : ∀ j, zA S' x 1254 j = if j = p then 0 else zA S x 1254 j) (hlv : ∀ j, zA S' x 1255 j = if j = p then c else zA S x 1255 j) : MI S' x := by
  have hfr := Fre_of h hst (Or.inl (by omega))
  obtain ⟨a1, a2, a3, a4, a5, a6, a7⟩ := h
  unfold MI MIe
  rw [hF.I' (g := 1201) (by decide +kernel) ha rfl, hF.I' (g := 1238) (by decide +kernel) ha rfl, lenZ_fr hF ha (ex3 (gQ_12_1203 hG ha)) (ex3 (gQ_12_1205 hG ha)) (by decide +kernel) (by decide +kernel) (by decide +kernel) (by decide +kernel), zA_fr (g := 1208) hF ha (ex3 (gQ_12_1208 hG ha)) (by decide +kernel) (by decide +kernel), zA_fr (g := 1209) hF ha (ex3 (gQ_12_1209 hG ha)) (by decide +kernel) (by decide +kernel), zA_fr (g := 1218) hF ha (ex3 (gQ_12_1218 hG ha)) (by decide +kernel) (by decide +kernel), zA_fr (g := 1219) hF ha (ex3 (gQ_12_1219 hG ha)) (by decide +kernel) (by decide +kernel), zA_fr (g := 1236) hF ha (ex3 (gQ_12_1236 hG ha)) (by decide +kernel) (by decide +kernel), zA_fr (g := 1239) hF ha (ex3 (gQ_12_1239 hG ha)) (by decide +kernel) (by decide +kernel)]
  exact ⟨M1_any a1 (by omega) hs (by omega) (by rw [hst]; omega), M2_st a2 hc0 hs hfr.1, a3, a4, M5_shelve a5 (by omega) hc0 hc hst hs hi hla hlv, a6, a7⟩
theorem lay_MI {S S' : PS} {x p : Nat} (hG : GX S) (ha : At S x 12) (hF : Fr MSH S S') (h : MI S x) (h07 : zA S' x 1207 = zA S x 1207) (hi : ∀ j, j ≠ p → zA S' x 1253 j = zA S x 1253 j) (hla : ∀ j, j ≠ p → zA S' x 1254 j = zA S x 1254 j) (hlv : ∀ j, j ≠ p → zA S' x 1255 j = zA S x 1255 j) (hp : zA S' x 1253 p = 0 ∨ zA S' x 1254 p ≠ 0) : MI S' x := by
  obtain ⟨a1, a2, a3, a4, a5, a6, a7⟩ := h
  unfold MI MIe
  rw [h07, hF.I' (g := 1201) (by decide +kernel) ha rfl, hF.I' (g := 1238) (by decide +kernel) ha rfl, lenZ_fr hF ha (ex3 (gQ_12_1203 hG ha)) (ex3 (gQ_12_1205 hG ha)) (by decide +kernel) (by decide +kernel) (by decide +kernel) (by decide +kernel), zA_fr (g := 1208) hF ha (ex3 (gQ_12_1208 hG ha)) (by decide +kernel) (by decide +kernel), zA_fr (g := 1209) hF ha (ex3 (gQ_12_1209 hG ha)) (by decide +kernel) (by decide +kernel), zA_fr (g := 1218) hF ha (ex3 (gQ_12_1218 hG ha)) (by decide +kernel) (by decide +kernel), zA_fr (g := 1219) hF ha (ex3 (gQ_12_1219 hG ha)) (by decide +kernel) (by decide +kernel), zA_fr (g := 1236) hF ha (ex3 (gQ_12_1236 hG ha)) (by decide +kernel) (by decide +kernel), zA_fr (g := 1239) hF ha (ex3 (gQ_12_1239 hG ha)) (by decide +kernel) (by decide +kernel)]
  exact ⟨a1, a2, a3, a4, M5_lay a5 hi hla hlv hp, a6, a7⟩
/-- taken off a shelf: it is on no other one, and in no row -/
theorem take_free {S : PS} {x p : Nat} {c : Int} (h : MI S x) (hp : p < 16) (h1 : zA S x 1253 p ≠ 0) (h2 : zA S x 1254 p = 0) (hc : zA S x 1255 p = c) : 0 ≤ c ∧ c < 60 * (pI S 1201 x).toInt ∧ zA S x 1207 c.toNat = 5 ∧ (∀ r k : Nat, r < 12 → (k : Int) < zA S x 1219 r → zA S x 1218 (600 * r + k) ≠ c) ∧ ∀ k : Nat, k < 16 → k ≠ p → zA S x 1253 k ≠ 0 → zA S x 1254 k = 0 → zA S x 1255 k ≠ c := by
  obtain ⟨a1, a2, a3, a4, a5, a6, a7⟩ := h
  obtain ⟨b1, b2, b3⟩ := a5.1 p hp h1 h2
  rw [hc] at b1 b2 b3
  refine ⟨b1, b2, b3, fun r k hr hk z => ?_, fun k hk hkp z1 z2 z3 => ?_⟩
  · have b := a2 r k hr hk
    rw [z, b3] at b
    omega
  · exact a5.2 k p hk hp hkp z1 z2 h1 h2 (z3.trans hc.symm)
theorem MIe_37 {S S1 : PS} {x b : Nat} {f : Nat → Int32} {e : Int} (h : MIe S x e) (hG : GX S) (ha : At S x 12) (hb : At S b 954) (he : S1 = sA S b f) : MIe S1 x e := by
  have hF : Fr [10954] S S1 := by rw [he]; exact Fr_sA hb List.mem_cons_self
  unfold MIe at h ⊢
  rw [hF.I' (g := 1201) (by decide +kernel) ha rfl, hF.I' (g := 1238) (by decide +kernel) ha rfl, lenZ_fr hF ha (ex3 (gQ_12_1203 hG ha)) (ex3 (gQ_12_1205 hG ha)) (by decide +kernel) (by decide +kernel) (by decide +kernel) (by decide +kernel), zA_fr (g := 1207) hF ha (ex3 (gQ_12_1207 hG ha)) (by decide +kernel) (by decide +kernel), zA_fr (g := 1208) hF ha (ex3 (gQ_12_1208 hG ha)) (by decide +kernel) (by decide +kernel), zA_fr (g := 1209) hF ha (ex3 (gQ_12_1209 hG ha)) (by decide +kernel) (by decide +kernel), zA_fr (g := 1218) hF ha (ex3 (gQ_12_1218 hG ha)) (by decide +kernel) (by decide +kernel), zA_fr (g := 1219) hF ha (ex3 (gQ_12_1219 hG ha)) (by decide +kernel) (by decide +kernel), zA_fr (g := 1236) hF ha (ex3 (gQ_12_1236 hG ha)) (by decide +kernel) (by decide +kernel), zA_fr (g := 1239) hF ha (ex3 (gQ_12_1239 hG ha)) (by decide +kernel) (by decide +kernel), zA_fr (g := 1253) hF ha (ex3 (gQ_12_1253 hG ha)) (by decide +kernel) (by decide +kernel), zA_fr (g := 1254) hF ha (ex3 (gQ_12_1254 hG ha)) (by decide +kernel) (by decide +kernel), zA_fr (g := 1255) hF ha (ex3 (gQ_12_1255 hG ha)) (by decide +kernel) (by decide +kernel)]
  exact h
theorem shift_up {f g h : ZF} {R k m u : Int} (hR : 0 ≤ R) (hk : 1 ≤ k) (hkm : k ≤ m) (hg : ∀ j : Nat, g j = if 600 * R + k < (j : Int) ∧ (j : Int) ≤ 600 * R + m then f (j - 1) else f j) (hu : g (600 * R + k - 1).toNat = u) (hs : ∀ j, h j = if j = (600 * R + k).toNat then u else g j) : ∀ j : Nat, h j = if 600 * R + (k - 1) < (j : Int) ∧ (j : Int) ≤ 600 * R + m then f (j - 1) else f j := fun j => by
  rw [hs j]
  by_cases e : j = (600 * R + k).toNat
  · rw [if_pos e, if_pos (by omega), ← hu, hg, if_neg (by omega)]
    exact congrArg f (by omega)
  · rw [if_neg e, hg j]
    by_cases c : 600 * R + k < (j : Int) ∧ (j : Int) ≤ 600 * R + m
    · rw [if_pos c, if_pos (by omega)]
    · rw [if_neg c, if_neg (by omega)]
theorem comes_row {f g h : ZF} {R m w c : Int} (hR : 0 ≤ R) (hw : 0 ≤ w) (hg : ∀ j : Nat, g j = if 600 * R + w < (j : Int) ∧ (j : Int) ≤ 600 * R + m then f (j - 1) else f j) (hs : ∀ j, h j = if j = (600 * R + w).toNat then c else g j) : ∀ j : Nat, h j = if j = 600 * R.toNat + w.toNat then c else if 600 * R.toNat + w.toNat < j ∧ (j : Int) ≤ 600 * (R.toNat : Int) + m then f (j - 1) else f j := fun j => by
  rw [hs j, hg j, show (600 * R + w).toNat = 600 * R.toNat + w.toNat by omega]
  by_cases e : j = 600 * R.toNat + w.toNat
  · rw [if_pos e, if_pos e]
  · rw [if_neg e, if_neg e]
    by_cases c : 600 * R + w < (j : Int) ∧ (j : Int) ≤ 600 * R + m
    · rw [if_pos c, if_pos (by omega)]
    · rw [if_neg c, if_neg (by omega)]
theorem shift_dn {f g h : ZF} {R i k u : Int} (hR : 0 ≤ R) (hi : 0 ≤ i) (hk : i ≤ k) (hg : ∀ j : Nat, g j = if 600 * R + i ≤ (j : Int) ∧ (j : Int) < 600 * R + k then f (j + 1) else f j) (hu : g (600 * R + k + 1).toNat = u) (hs : ∀ j, h j = if j = (600 * R + k).toNat then u else g j) : ∀ j : Nat, h j = if 600 * R + i ≤ (j : Int) ∧ (j : Int) < 600 * R + (k + 1) then f (j + 1) else f j := fun j => by
  rw [hs j]
  by_cases e : j = (600 * R + k).toNat
  · rw [if_pos e, if_pos (by omega), ← hu, hg, if_neg (by omega)]
    exact congrArg f (by omega)
  · rw [if_neg e, hg j]
    by_cases c : 600 * R + i ≤ (j : Int) ∧ (j : Int) < 600 * R + k
    · rw [if_pos c, if_pos (by omega)]
    · rw [if_neg c, if_neg (by omega)]
theorem goes_row {f g : ZF} {R i k m : Int} (hR : 0 ≤ R) (hi : 0 ≤ i) (hk : k = m - 1) (hg : ∀ j : Nat, g j = if 600 * R + i ≤ (j : Int) ∧ (j : Int) < 600 * R + k then f (j + 1) else f j) : ∀ j : Nat, g j = if 600 * R.toNat + i.toNat ≤ j ∧ (j : Int) < 600 * (R.toNat : Int) + (m - 1) then f (j + 1) else f j := fun j => by
  rw [hg j]
  by_cases c : 600 * R + i ≤ (j : Int) ∧ (j : Int) < 600 * R + k
  · rw [if_pos c, if_pos (by omega)]
  · rw [if_neg c, if_neg (by omega)]
def dOK (S : PS) (x : Nat) (v : Int) : Prop := v % 1000 = 0 ∨ (v / 1000 < 60 * (pI S 1201 x).toInt ∧ v % 1000 < lenZ S x (v / 1000))
theorem dOK_6 {S : PS} {x : Nat} {e j v : Int} (h : MIe S x e) (h0 : 0 ≤ j) (h1 : j < 158400) (hv : zA S x 1236 j.toNat = v) : dOK S x v := by
  have a := MI_6 h h0 h1
  rw [hv] at a
  exact a
theorem dOK_new {S : PS} {x : Nat} {c q : Int} (hc0 : 0 ≤ c) (hc : c < 60 * (pI S 1201 x).toInt) (hq0 : 0 ≤ q) (hq : q < lenZ S x c) (hl : lenZ S x c ≤ 220) : dOK S x (1000 * c + q) := by
  have e1 : (1000 * c + q) / 1000 = c := by omega
  have e2 : (1000 * c + q) % 1000 = q := by omega
  unfold dOK
  rw [e1, e2]
  exact Or.inr ⟨hc, hq⟩
theorem take_fre {S S2 : PS} {x p : Nat} {c : Int} (h53 : ∀ j, zA S2 x 1253 j = if j = p then 0 else zA S x 1253 j) (h54 : zA S2 x 1254 = zA S x 1254) (h55 : zA S2 x 1255 = zA S x 1255) (h18 : zA S2 x 1218 = zA S x 1218) (h19 : zA S2 x 1219 = zA S x 1219) (t1 : ∀ r k : Nat, r < 12 → (k : Int) < zA S x 1219 r → zA S x 1218 (600 * r + k) ≠ c) (t2 : ∀ k : Nat, k < 16 → k ≠ p → zA S x 1253 k ≠ 0 → zA S x 1254 k = 0 → zA S x 1255 k ≠ c) : Fre S2 x c := by
  unfold Fre
  rw [h54, h55, h18, h19]
  refine ⟨t1, fun k hk z1 z2 => ?_⟩
  by_cases e : k = p
  · rw [h53 k, if_pos e] at z1; exact absurd rfl z1
  · rw [h53 k, if_neg e] at z1; exact t2 k hk e z1 z2
theorem GR_eq {S S' : PS} {x : Nat} (e : zA S' x 1237 = zA S x 1237) (h : GR S x) : GR S' x := by
  unfold GR at h ⊢
  rw [e]
  exact h
theorem GR_set {S S' : PS} {x n : Nat} {v : Int} (hs : ∀ j, zA S' x 1237 j = if j = n then v else zA S x 1237 j) (hv : v ≤ 299) (h : GR S x) : GR S' x := fun p hp => by
  rw [hs p]
  split
  · exact hv
  · exact h p hp
theorem dX12_comes_0 : decode cX12_comes 0 = .ok (.iconst 3, 1) := by decide +kernel
theorem dX12_comes_1 : decode cX12_comes 1 = .ok (.iload_n 1, 1) := by decide +kernel
theorem dX12_comes_2 : decode cX12_comes 2 = .ok (.imul, 1) := by decide +kernel
theorem dX12_comes_3 : decode cX12_comes 3 = .ok (.iload_n 2, 1) := by decide +kernel
theorem dX12_comes_4 : decode cX12_comes 4 = .ok (.iadd, 1) := by decide +kernel
theorem dX12_comes_5 : decode cX12_comes 5 = .ok (.istore 5, 2) := by decide +kernel
theorem dX12_comes_7 : decode cX12_comes 7 = .ok (.aload_n 0, 1) := by decide +kernel
theorem dX12_comes_8 : decode cX12_comes 8 = .ok (.getfield 58, 3) := by decide +kernel
theorem dX12_comes_11 : decode cX12_comes 11 = .ok (.iload 5, 2) := by decide +kernel
theorem dX12_comes_13 : decode cX12_comes 13 = .ok (.iaload, 1) := by decide +kernel
theorem dX12_comes_14 : decode cX12_comes 14 = .ok (.istore 6, 2) := by decide +kernel
theorem dX12_comes_16 : decode cX12_comes 16 = .ok (.iload 6, 2) := by decide +kernel
theorem dX12_comes_18 : decode cX12_comes 18 = .ok (.iload 4, 2) := by decide +kernel
theorem dX12_comes_20 : decode cX12_comes 20 = .ok (.if_icmp .le 39, 3) := by decide +kernel
theorem dX12_comes_23 : decode cX12_comes 23 = .ok (.aload_n 0, 1) := by decide +kernel
theorem dX12_comes_24 : decode cX12_comes 24 = .ok (.getfield 55, 3) := by decide +kernel
theorem dX12_comes_27 : decode cX12_comes 27 = .ok (.sipush 600, 3) := by decide +kernel
theorem dX12_comes_30 : decode cX12_comes 30 = .ok (.iload 5, 2) := by decide +kernel
theorem dX12_comes_32 : decode cX12_comes 32 = .ok (.imul, 1) := by decide +kernel
theorem dX12_comes_33 : decode cX12_comes 33 = .ok (.iload 6, 2) := by decide +kernel
theorem dX12_comes_35 : decode cX12_comes 35 = .ok (.iadd, 1) := by decide +kernel
theorem dX12_comes_36 : decode cX12_comes 36 = .ok (.aload_n 0, 1) := by decide +kernel
theorem dX12_comes_37 : decode cX12_comes 37 = .ok (.getfield 55, 3) := by decide +kernel
theorem dX12_comes_40 : decode cX12_comes 40 = .ok (.sipush 600, 3) := by decide +kernel
theorem dX12_comes_43 : decode cX12_comes 43 = .ok (.iload 5, 2) := by decide +kernel
theorem dX12_comes_45 : decode cX12_comes 45 = .ok (.imul, 1) := by decide +kernel
theorem dX12_comes_46 : decode cX12_comes 46 = .ok (.iload 6, 2) := by decide +kernel
theorem dX12_comes_48 : decode cX12_comes 48 = .ok (.iadd, 1) := by decide +kernel
theorem dX12_comes_49 : decode cX12_comes 49 = .ok (.iconst 1, 1) := by decide +kernel
theorem dX12_comes_50 : decode cX12_comes 50 = .ok (.isub, 1) := by decide +kernel
theorem dX12_comes_51 : decode cX12_comes 51 = .ok (.iaload, 1) := by decide +kernel
theorem dX12_comes_52 : decode cX12_comes 52 = .ok (.iastore, 1) := by decide +kernel
theorem dX12_comes_53 : decode cX12_comes 53 = .ok (.iinc 6 (-1), 3) := by decide +kernel
theorem dX12_comes_56 : decode cX12_comes 56 = .ok (.goto (-40), 3) := by decide +kernel
theorem dX12_comes_59 : decode cX12_comes 59 = .ok (.aload_n 0, 1) := by decide +kernel
theorem dX12_comes_60 : decode cX12_comes 60 = .ok (.getfield 55, 3) := by decide +kernel
theorem dX12_comes_63 : decode cX12_comes 63 = .ok (.sipush 600, 3) := by decide +kernel
theorem dX12_comes_66 : decode cX12_comes 66 = .ok (.iload 5, 2) := by decide +kernel
theorem dX12_comes_68 : decode cX12_comes 68 = .ok (.imul, 1) := by decide +kernel
theorem dX12_comes_69 : decode cX12_comes 69 = .ok (.iload 4, 2) := by decide +kernel
theorem dX12_comes_71 : decode cX12_comes 71 = .ok (.iadd, 1) := by decide +kernel
theorem dX12_comes_72 : decode cX12_comes 72 = .ok (.iload_n 3, 1) := by decide +kernel
theorem dX12_comes_73 : decode cX12_comes 73 = .ok (.iastore, 1) := by decide +kernel
theorem dX12_comes_74 : decode cX12_comes 74 = .ok (.aload_n 0, 1) := by decide +kernel
theorem dX12_comes_75 : decode cX12_comes 75 = .ok (.getfield 58, 3) := by decide +kernel
theorem dX12_comes_78 : decode cX12_comes 78 = .ok (.iload 5, 2) := by decide +kernel
theorem dX12_comes_80 : decode cX12_comes 80 = .ok (.dup2, 1) := by decide +kernel
theorem dX12_comes_81 : decode cX12_comes 81 = .ok (.iaload, 1) := by decide +kernel
theorem dX12_comes_82 : decode cX12_comes 82 = .ok (.iconst 1, 1) := by decide +kernel
theorem dX12_comes_83 : decode cX12_comes 83 = .ok (.iadd, 1) := by decide +kernel
theorem dX12_comes_84 : decode cX12_comes 84 = .ok (.iastore, 1) := by decide +kernel
theorem dX12_comes_85 : decode cX12_comes 85 = .ok (.aload_n 0, 1) := by decide +kernel
theorem dX12_comes_86 : decode cX12_comes 86 = .ok (.getfield 25, 3) := by decide +kernel
theorem dX12_comes_89 : decode cX12_comes 89 = .ok (.iload_n 3, 1) := by decide +kernel
theorem dX12_comes_90 : decode cX12_comes 90 = .ok (.iload_n 2, 1) := by decide +kernel
theorem dX12_comes_91 : decode cX12_comes 91 = .ok (.iconst 1, 1) := by decide +kernel
theorem dX12_comes_92 : decode cX12_comes 92 = .ok (.iadd, 1) := by decide +kernel
theorem dX12_comes_93 : decode cX12_comes 93 = .ok (.iastore, 1) := by decide +kernel
theorem dX12_comes_94 : decode cX12_comes 94 = .ok (.aload_n 0, 1) := by decide +kernel
theorem dX12_comes_95 : decode cX12_comes 95 = .ok (.getfield 31, 3) := by decide +kernel
theorem dX12_comes_98 : decode cX12_comes 98 = .ok (.iload_n 3, 1) := by decide +kernel
theorem dX12_comes_99 : decode cX12_comes 99 = .ok (.iload_n 1, 1) := by decide +kernel
theorem dX12_comes_100 : decode cX12_comes 100 = .ok (.iastore, 1) := by decide +kernel
theorem dX12_comes_101 : decode cX12_comes 101 = .ok (.return_, 1) := by decide +kernel
theorem dX12_goes_0 : decode cX12_goes 0 = .ok (.iconst 3, 1) := by decide +kernel
theorem dX12_goes_1 : decode cX12_goes 1 = .ok (.iload_n 1, 1) := by decide +kernel
theorem dX12_goes_2 : decode cX12_goes 2 = .ok (.imul, 1) := by decide +kernel
theorem dX12_goes_3 : decode cX12_goes 3 = .ok (.iload_n 2, 1) := by decide +kernel
theorem dX12_goes_4 : decode cX12_goes 4 = .ok (.iadd, 1) := by decide +kernel
theorem dX12_goes_5 : decode cX12_goes 5 = .ok (.istore 4, 2) := by decide +kernel
theorem dX12_goes_7 : decode cX12_goes 7 = .ok (.aload_n 0, 1) := by decide +kernel
theorem dX12_goes_8 : decode cX12_goes 8 = .ok (.getfield 55, 3) := by decide +kernel
theorem dX12_goes_11 : decode cX12_goes 11 = .ok (.sipush 600, 3) := by decide +kernel
theorem dX12_goes_14 : decode cX12_goes 14 = .ok (.iload 4, 2) := by decide +kernel
theorem dX12_goes_16 : decode cX12_goes 16 = .ok (.imul, 1) := by decide +kernel
theorem dX12_goes_17 : decode cX12_goes 17 = .ok (.iload_n 3, 1) := by decide +kernel
theorem dX12_goes_18 : decode cX12_goes 18 = .ok (.iadd, 1) := by decide +kernel
theorem dX12_goes_19 : decode cX12_goes 19 = .ok (.iaload, 1) := by decide +kernel
theorem dX12_goes_20 : decode cX12_goes 20 = .ok (.istore 5, 2) := by decide +kernel
theorem dX12_goes_22 : decode cX12_goes 22 = .ok (.aload_n 0, 1) := by decide +kernel
theorem dX12_goes_23 : decode cX12_goes 23 = .ok (.getfield 58, 3) := by decide +kernel
theorem dX12_goes_26 : decode cX12_goes 26 = .ok (.iload 4, 2) := by decide +kernel
theorem dX12_goes_28 : decode cX12_goes 28 = .ok (.dup2, 1) := by decide +kernel
theorem dX12_goes_29 : decode cX12_goes 29 = .ok (.iaload, 1) := by decide +kernel
theorem dX12_goes_30 : decode cX12_goes 30 = .ok (.iconst 1, 1) := by decide +kernel
theorem dX12_goes_31 : decode cX12_goes 31 = .ok (.isub, 1) := by decide +kernel
theorem dX12_goes_32 : decode cX12_goes 32 = .ok (.iastore, 1) := by decide +kernel
theorem dX12_goes_33 : decode cX12_goes 33 = .ok (.iload_n 3, 1) := by decide +kernel
theorem dX12_goes_34 : decode cX12_goes 34 = .ok (.istore 6, 2) := by decide +kernel
theorem dX12_goes_36 : decode cX12_goes 36 = .ok (.iload 6, 2) := by decide +kernel
theorem dX12_goes_38 : decode cX12_goes 38 = .ok (.aload_n 0, 1) := by decide +kernel
theorem dX12_goes_39 : decode cX12_goes 39 = .ok (.getfield 58, 3) := by decide +kernel
theorem dX12_goes_42 : decode cX12_goes 42 = .ok (.iload 4, 2) := by decide +kernel
theorem dX12_goes_44 : decode cX12_goes 44 = .ok (.iaload, 1) := by decide +kernel
theorem dX12_goes_45 : decode cX12_goes 45 = .ok (.if_icmp .ge 39, 3) := by decide +kernel
theorem dX12_goes_48 : decode cX12_goes 48 = .ok (.aload_n 0, 1) := by decide +kernel
theorem dX12_goes_49 : decode cX12_goes 49 = .ok (.getfield 55, 3) := by decide +kernel
theorem dX12_goes_52 : decode cX12_goes 52 = .ok (.sipush 600, 3) := by decide +kernel
theorem dX12_goes_55 : decode cX12_goes 55 = .ok (.iload 4, 2) := by decide +kernel
theorem dX12_goes_57 : decode cX12_goes 57 = .ok (.imul, 1) := by decide +kernel
theorem dX12_goes_58 : decode cX12_goes 58 = .ok (.iload 6, 2) := by decide +kernel
theorem dX12_goes_60 : decode cX12_goes 60 = .ok (.iadd, 1) := by decide +kernel
theorem dX12_goes_61 : decode cX12_goes 61 = .ok (.aload_n 0, 1) := by decide +kernel
theorem dX12_goes_62 : decode cX12_goes 62 = .ok (.getfield 55, 3) := by decide +kernel
theorem dX12_goes_65 : decode cX12_goes 65 = .ok (.sipush 600, 3) := by decide +kernel
theorem dX12_goes_68 : decode cX12_goes 68 = .ok (.iload 4, 2) := by decide +kernel
theorem dX12_goes_70 : decode cX12_goes 70 = .ok (.imul, 1) := by decide +kernel
theorem dX12_goes_71 : decode cX12_goes 71 = .ok (.iload 6, 2) := by decide +kernel
theorem dX12_goes_73 : decode cX12_goes 73 = .ok (.iadd, 1) := by decide +kernel
theorem dX12_goes_74 : decode cX12_goes 74 = .ok (.iconst 1, 1) := by decide +kernel
theorem dX12_goes_75 : decode cX12_goes 75 = .ok (.iadd, 1) := by decide +kernel
theorem dX12_goes_76 : decode cX12_goes 76 = .ok (.iaload, 1) := by decide +kernel
theorem dX12_goes_77 : decode cX12_goes 77 = .ok (.iastore, 1) := by decide +kernel
theorem dX12_goes_78 : decode cX12_goes 78 = .ok (.iinc 6 1, 3) := by decide +kernel
theorem dX12_goes_81 : decode cX12_goes 81 = .ok (.goto (-45), 3) := by decide +kernel
theorem dX12_goes_84 : decode cX12_goes 84 = .ok (.iload 5, 2) := by decide +kernel
theorem dX12_goes_86 : decode cX12_goes 86 = .ok (.ireturn, 1) := by decide +kernel
theorem inn_X12_comes_12 : ∀ w ∈ u_ws RX12 TX12 66, w ∈ wsX12_comes := fun w h => List.mem_cons_of_mem _ (List.mem_append_right _ h)
theorem inn_X12_goes_12 : ∀ w ∈ u_ws RX12 TX12 66, w ∈ wsX12_goes := fun w h => List.mem_cons_of_mem _ (List.mem_append_right _ h)
set_option maxHeartbeats 4000000 in
set_option maxRecDepth 100000 in
theorem k_X12_comes (l : Launch) (G : va_G) (cy : Nat → ClassId) (κ : Nat → Nat) (S : PS) (sz : Nat) (x : Nat) (a1 : Int32) (a1_z : Int) (a2 : Int32) (a2_z : Int) (a3 : Int32) (a3_z : Int) (a4 : Int32) (a4_z : Int) (hG : GX S) (ha_x : At S x 12) (hz_a1 : a1.toInt = a1_z) (hz_a2 : a2.toInt = a2_z) (hz_a3 : a3.toInt = a3_z) (hz_a4 : a4.toInt = a4_z) (hp_0 : 0 ≤ a1_z) (hp_1 : a1_z ≤ 3) (hp_2 : 0 ≤ a2_z) (hp_3 : a2_z ≤ 2) (hp_4 : 0 ≤ a3_z) (hp_5 : a3_z ≤ 599) (hp_6 : a3_z < 60 * (pI S 1201 x).toInt) (hp_7 : 0 ≤ a4_z) (hp_8 : a4_z ≤ zA S x 1219 (3 * a1_z + a2_z).toNat) (hp_9 : (a2_z = 1 → zA S x 1219 (3 * a1_z + a2_z).toNat ≤ 11)) (hp_10 : MI S x) (hp_11 : Fre S x a3_z) (hp_12 : zA S x 1208 a3_z.toNat < lenZ S x a3_z) : Cv l yX12_comes wsX12_comes ({ frames := 1, cells := 0, slots := 0, locals := 48 }) G cy κ S sz [.ref x, .int (a1), .int (a2), .int (a3), .int (a4)] (fun (S9 : PS) => Ok MCO S S9 ∧ (MI S9 x ∧ (∀ j, zA S9 x 1219 j = if j = (3 * a1_z + a2_z).toNat then zA S x 1219 (3 * a1_z + a2_z).toNat + 1 else zA S x 1219 j) ∧ (∀ j, zA S9 x 1207 j = if j = (a3_z).toNat then (a2_z + 1) else zA S x 1207 j))) := by
  refine ent_m (cc := cX12_comes) (maxL := 7) (ret := none) (by decide) rfl (Nat.le_of_ble_eq_true rfl) ?_
  intro p e s m below meth c ls X hr hlocks hin hw hl hsz
  subst hsz
  have X : Cx p c cX12_comes 7 s [.ref x, .int (a1), .int (a2), .int (a3), .int (a4)].toArray wsX12_comes RX12 m G cy κ (AS S s.heap.size) := X
  have hl : lv_has ls 7 [(0, .ref x), (1, .int (a1)), (2, .int (a2)), (3, .int (a3)), (4, .int (a4))] := hl
  have rg_a1 : (-2147483648) ≤ a1_z ∧ a1_z ≤ 2147483647 := by rw [← hz_a1]; exact ⟨z_lo _, z_hi _⟩
  have rg_a2 : (-2147483648) ≤ a2_z ∧ a2_z ≤ 2147483647 := by rw [← hz_a2]; exact ⟨z_lo _, z_hi _⟩
  have rg_a3 : (-2147483648) ≤ a3_z ∧ a3_z ≤ 2147483647 := by rw [← hz_a3]; exact ⟨z_lo _, z_hi _⟩
  have rg_a4 : (-2147483648) ≤ a4_z ∧ a4_z ≤ 2147483647 := by rw [← hz_a4]; exact ⟨z_lo _, z_hi _⟩
  have hO : Ok MCO S S := Ok.rf hG
  generalize hQQ : MQ below _ _ _ _ _ _ = QQ
  replace hQQ := hQQ.symm
  have hlots := gI_12_1201 hG ha_x
  have hrm := room_MI (r := (3 * a1_z + a2_z).toNat) hp_10 (by omega) (by omega) (by omega) (by omega) hp_11
  refine lv_iconst (v := 3) X.1 X.2.1 dX12_comes_0 (by decide) ?_
  refine lv_iload_n X.1 X.2.1 dX12_comes_1 rfl (lv_at hl 1 rfl) ?_
  refine lv_imul X.1 X.2.1 dX12_comes_2 ?_
  refine lv_topi (fun v_1 ev_1 => ?_)
  have z_2 : v_1.toInt = 3 * a1_z := z_mul ev_1 ti_3 hz_a1 (by omega) (by omega)
  refine lv_iload_n X.1 X.2.1 dX12_comes_3 rfl (lv_at hl 2 rfl) ?_
  refine lv_iadd X.1 X.2.1 dX12_comes_4 ?_
  refine lv_topi (fun v_3 ev_3 => ?_)
  have z_4 : v_3.toInt = (3 * a1_z) + a2_z := z_add ev_3 z_2 hz_a2 (by omega) (by omega)
  refine lv_istore (lv' := [(5, .int (v_3)), (0, .ref x), (1, .int (a1)), (2, .int (a2)), (3, .int (a3)), (4, .int (a4))]) X.1 X.2.1 dX12_comes_5 hl (by decide) rfl (fun ls hl => ?_)
  refine lv_aload_n X.1 X.2.1 dX12_comes_7 rfl (lv_at hl 1 rfl) ?_
  obtain ⟨q_5, h_6, h_7, h_8⟩ := gQ_12_1219 hO.1 ha_x
  refine r_getR (g := 1219) X hw ha_x rfl 19 h_6 (by decide) rfl inn_X12_comes_12 (by decide) (X.2.2.2.1 (.fieldLink RX12 58 "SilkMillModel" "rowMany" "[I") (by decide +kernel)) rfl (gv_1219 _ _) dX12_comes_8 ?_
  refine lv_iload X.1 X.2.1 dX12_comes_11 (lv_at hl 0 rfl) ?_
  refine r_iald X hw h_7 rfl (by rw [h_8]; exact z_ix z_4 (by omega) (by omega)) dX12_comes_13 ?_
  refine lv_topi (fun v_9 ev_9 => ?_)
  have z_10 := gE_594 hO.1 h_7 (Int32.toNatClampNeg (v_3)); rw [← ev_9] at z_10
  have ev_9 := ev_9.symm
  have zf_11 : zA S x 1219 (((3 * a1_z) + a2_z)).toNat = v_9.toInt := (zA_of h_6 z_4 (by omega) ev_9)
  refine lv_istore (lv' := [(6, .int (v_9)), (5, .int (v_3)), (0, .ref x), (1, .int (a1)), (2, .int (a2)), (3, .int (a3)), (4, .int (a4))]) X.1 X.2.1 dX12_comes_14 hl (by decide) rfl (fun ls hl => ?_)
  have L_12 : ∀ (n : Nat) (T_14 : PS) (H : Heap) (locs : List Loc) (ls : Array Slot) (i6_13 : Int32) (i6_13_z : Int), ((i6_13_z).toNat = n) → (Wd G cy (AS S s.heap.size) s.heap T_14 H locs) → (i6_13.toInt = i6_13_z) → (0 ≤ i6_13_z ∧ i6_13_z ≤ 600) → (At T_14 x 12) → (Ok MCO S T_14) → (zA T_14 x 1207 = zA S x 1207) → (zA T_14 x 1209 = zA S x 1209) → (zA T_14 x 1219 = zA S x 1219) → (a4_z ≤ i6_13_z) → (i6_13_z ≤ zA S x 1219 (3 * a1_z + a2_z).toNat) → (∀ j : Nat, zA T_14 x 1218 j = if 600 * (3 * a1_z + a2_z) + i6_13_z < (j : Int) ∧ (j : Int) ≤ 600 * (3 * a1_z + a2_z) + zA S x 1219 (3 * a1_z + a2_z).toNat then zA S x 1218 (j - 1) else zA S x 1218 j) → (lv_has ls 7 [(6, .int (i6_13)), (5, .int (v_3)), (0, .ref x), (1, .int (a1)), (2, .int (a2)), (3, .int (a3)), (4, .int (a4))]) → W p l e ({ frames := 1, cells := 0, slots := 0, locals := 48 }) s m [.ref x, .int (a1), .int (a2), .int (a3), .int (a4)].toArray below meth c H locs 0 0 QQ (F0 m 16 ls []) := by
    intro n
    induction n using Nat.strongRecOn with
    | ind n ih_L_12 =>
    intro T_14 H locs ls i6_13 i6_13_z hn hw hz_i6_13 hr_i6_13 ha_x_L_15 hO_T_14 zk_16 zk_17 zk_18 iv_19 iv_20 iv_21 hl
    have rg_22 : (-2147483648) ≤ i6_13_z ∧ i6_13_z ≤ 2147483647 := by rw [← hz_i6_13]; exact ⟨z_lo _, z_hi _⟩
    refine lv_iload X.1 X.2.1 dX12_comes_16 (lv_at hl 0 rfl) ?_
    refine lv_iload X.1 X.2.1 dX12_comes_18 (lv_at hl 6 rfl) ?_
    refine lv_icmp_le (tgt := 59) X.1 X.2.1 dX12_comes_20 (by decide) (fun c_23 => ?_) (fun c_23 => ?_)
    · have z_b_24 := trivial
      have k_25 : i6_13_z ≤ a4_z := z_le hz_i6_13 hz_a4 c_23
      refine lv_aload_n X.1 X.2.1 dX12_comes_59 rfl (lv_at hl 2 rfl) ?_
      obtain ⟨q_26, h_27, h_28, h_29⟩ := gQ_12_1218 hO_T_14.1 ha_x_L_15
      refine r_getR (g := 1218) X hw ha_x_L_15 rfl 18 h_27 (by decide) rfl inn_X12_comes_12 (by decide) (X.2.2.2.1 (.fieldLink RX12 55 "SilkMillModel" "rowOf" "[I") (by decide +kernel)) rfl (gv_1218 _ _) dX12_comes_60 ?_
      refine lv_sipush (v := 600) X.1 X.2.1 dX12_comes_63 (by decide) ?_
      refine lv_iload X.1 X.2.1 dX12_comes_66 (lv_at hl 1 rfl) ?_
      refine lv_imul X.1 X.2.1 dX12_comes_68 ?_
      refine lv_topi (fun v_30 ev_30 => ?_)
      have z_31 : v_30.toInt = 600 * ((3 * a1_z) + a2_z) := z_mul ev_30 ti_600 z_4 (by omega) (by omega)
      refine lv_iload X.1 X.2.1 dX12_comes_69 (lv_at hl 6 rfl) ?_
      refine lv_iadd X.1 X.2.1 dX12_comes_71 ?_
      refine lv_topi (fun v_32 ev_32 => ?_)
      have z_33 : v_32.toInt = (600 * ((3 * a1_z) + a2_z)) + a4_z := z_add ev_32 z_31 hz_a4 (by omega) (by omega)
      refine lv_iload_n X.1 X.2.1 dX12_comes_72 rfl (lv_at hl 5 rfl) ?_
      refine r_iast X hw h_28 rfl (by rw [h_29]; exact z_ix z_33 (by omega) (by omega)) dX12_comes_73 (fun H locs hw => ?_)
      obtain ⟨S_34, eS_34⟩ : ∃ T, T = sA T_14 q_26 (upd (pA T_14 q_26) (Int32.toNatClampNeg (v_32)) (a3)) := ⟨_, rfl⟩
      rw [← eS_34] at hw
      have hO_35 : Ok MCO S S_34 := hO_T_14.sA eS_34 h_28 (by decide +kernel) (uA_574 hO_T_14.1 h_28 (by omega) (by omega))
      have h_36 : pA S_34 q_26 (Int32.toNatClampNeg (v_32)) = a3 := tA_sAs eS_34
      have t_37 : pR S_34 1218 x = some q_26 := tR_sA eS_34 h_27
      have t_39 : pR T_14 1218 x = some q_26 := by have h := t_37; rw [eS_34, pR_sA] at h; exact h
      have zs_38 : ∀ j, zA S_34 x 1218 j = if j = (((600 * ((3 * a1_z) + a2_z)) + a4_z)).toNat then a3_z else zA T_14 x 1218 j := by have h := zA_sAs eS_34 t_39 hz_a3; rw [z_nc z_33 (by omega)] at h; exact h
      refine lv_aload_n X.1 X.2.1 dX12_comes_74 rfl (lv_at hl 2 rfl) ?_
      have t_40 : At S_34 x 12 := tAt_sA eS_34 ha_x_L_15
      obtain ⟨q_41, h_42, h_43, h_44⟩ := gQ_12_1219 hO_35.1 t_40
      refine r_getR (g := 1219) X hw t_40 rfl 19 h_42 (by decide) rfl inn_X12_comes_12 (by decide) (X.2.2.2.1 (.fieldLink RX12 58 "SilkMillModel" "rowMany" "[I") (by decide +kernel)) rfl (gv_1219 _ _) dX12_comes_75 ?_
      refine lv_iload X.1 X.2.1 dX12_comes_78 (lv_at hl 1 rfl) ?_
      refine lv_dup2_11 X.1 X.2.1 dX12_comes_80 rfl rfl ?_
      refine r_iald X hw h_43 rfl (by rw [h_44]; exact z_ix z_4 (by omega) (by omega)) dX12_comes_81 ?_
      refine lv_topi (fun v_45 ev_45 => ?_)
      have z_46 := gE_594 hO_35.1 h_43 (Int32.toNatClampNeg (v_3)); rw [← ev_45] at z_46
      have ev_45 := ev_45.symm
      have zf_47 : zA S_34 x 1219 (((3 * a1_z) + a2_z)).toNat = v_45.toInt := (zA_of h_42 z_4 (by omega) ev_45)
      have zc_48 : zA S_34 x 1219 = zA S x 1219 := (zA_sAn eS_34 (ex3 (gQ_12_1219 hO_T_14.1 ha_x_L_15)) h_28 rfl).trans zk_18
      have zz_49 := congrFun zc_48 ((3 * a1_z + a2_z).toNat)
      refine lv_iconst (v := 1) X.1 X.2.1 dX12_comes_82 (by decide) ?_
      refine lv_iadd X.1 X.2.1 dX12_comes_83 ?_
      refine lv_topi (fun v_50 ev_50 => ?_)
      have z_51 : v_50.toInt = v_45.toInt + 1 := z_add ev_50 rfl ti_1 (by omega) (by omega)
      refine r_iast X hw h_43 rfl (by rw [h_44]; exact z_ix z_4 (by omega) (by omega)) dX12_comes_84 (fun H locs hw => ?_)
      obtain ⟨S_52, eS_52⟩ : ∃ T, T = sA S_34 q_41 (upd (pA S_34 q_41) (Int32.toNatClampNeg (v_3)) (v_50)) := ⟨_, rfl⟩
      rw [← eS_52] at hw
      have hO_53 : Ok MCO S S_52 := hO_35.sA eS_52 h_43 (by decide +kernel) (uA_594 hO_35.1 h_43 (by omega) (by omega))
      have h_54 : pA S_52 q_41 (Int32.toNatClampNeg (v_3)) = v_50 := tA_sAs eS_52
      have t_55 : pR S_52 1219 x = some q_41 := tR_sA eS_52 h_42
      have t_57 : pR S_34 1219 x = some q_41 := by have h := t_55; rw [eS_52, pR_sA] at h; exact h
      have zs_56 : ∀ j, zA S_52 x 1219 j = if j = (((3 * a1_z) + a2_z)).toNat then (v_45.toInt + 1) else zA S_34 x 1219 j := by have h := zA_sAs eS_52 t_57 z_51; rw [z_nc z_4 (by omega)] at h; exact h
      have zs_58 : ∀ j, zA S_52 x 1219 j = if j = (((3 * a1_z) + a2_z)).toNat then (v_45.toInt + 1) else zA S x 1219 j := fun j => by rw [zs_56 j, zc_48]
      refine lv_aload_n X.1 X.2.1 dX12_comes_85 rfl (lv_at hl 2 rfl) ?_
      have t_59 : At S_52 x 12 := tAt_sA eS_52 t_40
      obtain ⟨q_60, h_61, h_62, h_63⟩ := gQ_12_1207 hO_53.1 t_59
      refine r_getR (g := 1207) X hw t_59 rfl 7 h_61 (by decide) rfl inn_X12_comes_12 (by decide) (X.2.2.2.1 (.fieldLink RX12 25 "SilkMillModel" "stand" "[I") (by decide +kernel)) rfl (gv_1207 _ _) dX12_comes_86 ?_
      refine lv_iload_n X.1 X.2.1 dX12_comes_89 rfl (lv_at hl 5 rfl) ?_
      refine lv_iload_n X.1 X.2.1 dX12_comes_90 rfl (lv_at hl 4 rfl) ?_
      refine lv_iconst (v := 1) X.1 X.2.1 dX12_comes_91 (by decide) ?_
      refine lv_iadd X.1 X.2.1 dX12_comes_92 ?_
      refine lv_topi (fun v_64 ev_64 => ?_)
      have z_65 : v_64.toInt = a2_z + 1 := z_add ev_64 hz_a2 ti_1 (by omega) (by omega)
      refine r_iast X hw h_62 rfl (by rw [h_63]; exact z_ix hz_a3 (by omega) (by omega)) dX12_comes_93 (fun H locs hw => ?_)
      obtain ⟨S_66, eS_66⟩ : ∃ T, T = sA S_52 q_60 (upd (pA S_52 q_60) (Int32.toNatClampNeg (a3)) (v_64)) := ⟨_, rfl⟩
      rw [← eS_66] at hw
      have hO_67 : Ok MCO S S_66 := hO_53.sA eS_66 h_62 (by decide +kernel) (uA_354 hO_53.1 h_62)
      have h_68 : pA S_66 q_60 (Int32.toNatClampNeg (a3)) = v_64 := tA_sAs eS_66
      have zc_69 : zA S_34 x 1207 = zA S x 1207 := (zA_sAn eS_34 (ex3 (gQ_12_1207 hO_T_14.1 ha_x_L_15)) h_28 rfl).trans zk_16
      have zc_70 : zA S_52 x 1207 = zA S x 1207 := (zA_sAn eS_52 (ex3 (gQ_12_1207 hO_35.1 t_40)) h_43 rfl).trans zc_69
      have t_71 : pR S_66 1207 x = some q_60 := tR_sA eS_66 h_61
      have t_73 : pR S_52 1207 x = some q_60 := by have h := t_71; rw [eS_66, pR_sA] at h; exact h
      have zs_72 : ∀ j, zA S_66 x 1207 j = if j = (a3_z).toNat then (a2_z + 1) else zA S_52 x 1207 j := by have h := zA_sAs eS_66 t_73 z_65; rw [z_nc hz_a3 (by omega)] at h; exact h
      have zs_74 : ∀ j, zA S_66 x 1207 j = if j = (a3_z).toNat then (a2_z + 1) else zA S x 1207 j := fun j => by rw [zs_72 j, zc_70]
      refine lv_aload_n X.1 X.2.1 dX12_comes_94 rfl (lv_at hl 2 rfl) ?_
      have t_75 : At S_66 x 12 := tAt_sA eS_66 t_59
      obtain ⟨q_76, h_77, h_78, h_79⟩ := gQ_12_1209 hO_67.1 t_75
      refine r_getR (g := 1209) X hw t_75 rfl 9 h_77 (by decide) rfl inn_X12_comes_12 (by decide) (X.2.2.2.1 (.fieldLink RX12 31 "SilkMillModel" "potOf" "[I") (by decide +kernel)) rfl (gv_1209 _ _) dX12_comes_95 ?_
      refine lv_iload_n X.1 X.2.1 dX12_comes_98 rfl (lv_at hl 5 rfl) ?_
      refine lv_iload_n X.1 X.2.1 dX12_comes_99 rfl (lv_at hl 3 rfl) ?_
      refine r_iast X hw h_78 rfl (by rw [h_79]; exact z_ix hz_a3 (by omega) (by omega)) dX12_comes_100 (fun H locs hw => ?_)
      obtain ⟨S_80, eS_80⟩ : ∃ T, T = sA S_66 q_76 (upd (pA S_66 q_76) (Int32.toNatClampNeg (a3)) (a1)) := ⟨_, rfl⟩
      rw [← eS_80] at hw
      have hO_81 : Ok MCO S S_80 := hO_67.sA eS_80 h_78 (by decide +kernel) (uA_394 hO_67.1 h_78)
      have h_82 : pA S_80 q_76 (Int32.toNatClampNeg (a3)) = a1 := tA_sAs eS_80
      have zc_83 : zA S_34 x 1209 = zA S x 1209 := (zA_sAn eS_34 (ex3 (gQ_12_1209 hO_T_14.1 ha_x_L_15)) h_28 rfl).trans zk_17
      have zc_84 : zA S_52 x 1209 = zA S x 1209 := (zA_sAn eS_52 (ex3 (gQ_12_1209 hO_35.1 t_40)) h_43 rfl).trans zc_83
      have zc_85 : zA S_66 x 1209 = zA S x 1209 := (zA_sAn eS_66 (ex3 (gQ_12_1209 hO_53.1 t_59)) h_62 rfl).trans zc_84
      have t_86 : pR S_80 1209 x = some q_76 := tR_sA eS_80 h_77
      have t_88 : pR S_66 1209 x = some q_76 := by have h := t_86; rw [eS_80, pR_sA] at h; exact h
      have zs_87 : ∀ j, zA S_80 x 1209 j = if j = (a3_z).toNat then a1_z else zA S_66 x 1209 j := by have h := zA_sAs eS_80 t_88 hz_a1; rw [z_nc hz_a3 (by omega)] at h; exact h
      have zs_89 : ∀ j, zA S_80 x 1209 j = if j = (a3_z).toNat then a1_z else zA S x 1209 j := fun j => by rw [zs_87 j, zc_85]
      have zc_90 : zA S_52 x 1218 = zA S_34 x 1218 := zA_sAn eS_52 (ex3 (gQ_12_1218 hO_35.1 t_40)) h_43 rfl
      have zc_91 : zA S_66 x 1218 = zA S_34 x 1218 := (zA_sAn eS_66 (ex3 (gQ_12_1218 hO_53.1 t_59)) h_62 rfl).trans zc_90
      have zc_92 : zA S_80 x 1218 = zA S_34 x 1218 := (zA_sAn eS_80 (ex3 (gQ_12_1218 hO_67.1 t_75)) h_78 rfl).trans zc_91
      have zs_93 : ∀ j, zA S_80 x 1218 j = if j = (((600 * ((3 * a1_z) + a2_z)) + a4_z)).toNat then a3_z else zA T_14 x 1218 j := fun j => by rw [zc_92]; exact zs_38 j
      have zc_94 : zA S_66 x 1219 = zA S_52 x 1219 := zA_sAn eS_66 (ex3 (gQ_12_1219 hO_53.1 t_59)) h_62 rfl
      have zc_95 : zA S_80 x 1219 = zA S_52 x 1219 := (zA_sAn eS_80 (ex3 (gQ_12_1219 hO_67.1 t_75)) h_78 rfl).trans zc_94
      have zs_96 : ∀ j, zA S_80 x 1219 j = if j = (((3 * a1_z) + a2_z)).toNat then (v_45.toInt + 1) else zA S x 1219 j := fun j => by rw [zc_95]; exact zs_58 j
      have zc_97 : zA S_34 x 1207 = zA S x 1207 := (zA_sAn eS_34 (ex3 (gQ_12_1207 hO_T_14.1 ha_x_L_15)) h_28 rfl).trans zk_16
      have zc_98 : zA S_52 x 1207 = zA S x 1207 := (zA_sAn eS_52 (ex3 (gQ_12_1207 hO_35.1 t_40)) h_43 rfl).trans zc_97
      have zc_99 : zA S_80 x 1207 = zA S_66 x 1207 := zA_sAn eS_80 (ex3 (gQ_12_1207 hO_67.1 t_75)) h_78 rfl
      have zs_100 : ∀ j, zA S_80 x 1207 j = if j = (a3_z).toNat then (a2_z + 1) else zA S x 1207 j := fun j => by rw [zc_99]; exact zs_74 j
      have zc_101 : zA S_34 x 1209 = zA S x 1209 := (zA_sAn eS_34 (ex3 (gQ_12_1209 hO_T_14.1 ha_x_L_15)) h_28 rfl).trans zk_17
      have zc_102 : zA S_52 x 1209 = zA S x 1209 := (zA_sAn eS_52 (ex3 (gQ_12_1209 hO_35.1 t_40)) h_43 rfl).trans zc_101
      have zc_103 : zA S_66 x 1209 = zA S x 1209 := (zA_sAn eS_66 (ex3 (gQ_12_1209 hO_53.1 t_59)) h_62 rfl).trans zc_102
      have hk16 : i6_13_z = a4_z := by omega
      have hiv := iv_21; rw [hk16] at hiv
      have ho18 := comes_row (R := (3 * a1_z + a2_z)) (w := a4_z) (by omega) (by omega) hiv zs_93
      have hm19 : ∀ j, zA S_80 x 1219 j = if j = (3 * a1_z + a2_z).toNat then zA S x 1219 (3 * a1_z + a2_z).toNat + 1 else zA S x 1219 j := fun j => by rw [zs_96 j]; split <;> omega
      have hs07 : ∀ j, zA S_80 x 1207 j = if j = a3_z.toNat then (((3 * a1_z + a2_z).toNat % 3 + 1 : Nat) : Int) else zA S x 1207 j := fun j => by rw [zs_100 j]; split <;> omega
      have hs09 : ∀ j, zA S_80 x 1209 j = if j = a3_z.toNat then (((3 * a1_z + a2_z).toNat / 3 : Nat) : Int) else zA S x 1209 j := fun j => by rw [zs_89 j]; split <;> omega
      rw [hQQ]
      exact ret_v X hw hr hlocks (Nat.le_of_ble_eq_true rfl) (Nat.le_of_ble_eq_true rfl) ⟨hO_81, ⟨comes_MI (r := (3 * a1_z + a2_z).toNat) (w := a4_z.toNat) hG ha_x hO_81.fr hp_10 (by omega) (by omega) (by omega) (by omega) hp_11 hp_12 (by omega) (by omega) hm19 ho18 hs07 hs09, hm19, zs_100⟩⟩ dX12_comes_101
    · have z_b_104 := trivial
      have k_105 : i6_13_z > a4_z := z_nle hz_i6_13 hz_a4 c_23
      refine lv_aload_n X.1 X.2.1 dX12_comes_23 rfl (lv_at hl 2 rfl) ?_
      obtain ⟨q_106, h_107, h_108, h_109⟩ := gQ_12_1218 hO_T_14.1 ha_x_L_15
      refine r_getR (g := 1218) X hw ha_x_L_15 rfl 18 h_107 (by decide) rfl inn_X12_comes_12 (by decide) (X.2.2.2.1 (.fieldLink RX12 55 "SilkMillModel" "rowOf" "[I") (by decide +kernel)) rfl (gv_1218 _ _) dX12_comes_24 ?_
      refine lv_sipush (v := 600) X.1 X.2.1 dX12_comes_27 (by decide) ?_
      refine lv_iload X.1 X.2.1 dX12_comes_30 (lv_at hl 1 rfl) ?_
      refine lv_imul X.1 X.2.1 dX12_comes_32 ?_
      refine lv_topi (fun v_110 ev_110 => ?_)
      have z_111 : v_110.toInt = 600 * ((3 * a1_z) + a2_z) := z_mul ev_110 ti_600 z_4 (by omega) (by omega)
      refine lv_iload X.1 X.2.1 dX12_comes_33 (lv_at hl 0 rfl) ?_
      refine lv_iadd X.1 X.2.1 dX12_comes_35 ?_
      refine lv_topi (fun v_112 ev_112 => ?_)
      have z_113 : v_112.toInt = (600 * ((3 * a1_z) + a2_z)) + i6_13_z := z_add ev_112 z_111 hz_i6_13 (by omega) (by omega)
      refine lv_aload_n X.1 X.2.1 dX12_comes_36 rfl (lv_at hl 2 rfl) ?_
      refine r_getR (g := 1218) X hw ha_x_L_15 rfl 18 h_107 (by decide) rfl inn_X12_comes_12 (by decide) (X.2.2.2.1 (.fieldLink RX12 55 "SilkMillModel" "rowOf" "[I") (by decide +kernel)) rfl (gv_1218 _ _) dX12_comes_37 ?_
      refine lv_sipush (v := 600) X.1 X.2.1 dX12_comes_40 (by decide) ?_
      refine lv_iload X.1 X.2.1 dX12_comes_43 (lv_at hl 1 rfl) ?_
      refine lv_imul X.1 X.2.1 dX12_comes_45 ?_
      refine lv_topi (fun v_114 ev_114 => ?_)
      have z_115 : v_114.toInt = 600 * ((3 * a1_z) + a2_z) := z_mul ev_114 ti_600 z_4 (by omega) (by omega)
      refine lv_iload X.1 X.2.1 dX12_comes_46 (lv_at hl 0 rfl) ?_
      refine lv_iadd X.1 X.2.1 dX12_comes_48 ?_
      refine lv_topi (fun v_116 ev_116 => ?_)
      have z_117 : v_116.toInt = (600 * ((3 * a1_z) + a2_z)) + i6_13_z := z_add ev_116 z_115 hz_i6_13 (by omega) (by omega)
      refine lv_iconst (v := 1) X.1 X.2.1 dX12_comes_49 (by decide) ?_
      refine lv_isub X.1 X.2.1 dX12_comes_50 ?_
      refine lv_topi (fun v_118 ev_118 => ?_)
      have z_119 : v_118.toInt = ((600 * ((3 * a1_z) + a2_z)) + i6_13_z) - 1 := z_sub ev_118 z_117 ti_1 (by omega) (by omega)
      refine r_iald X hw h_108 rfl (by rw [h_109]; exact z_ix z_119 (by omega) (by omega)) dX12_comes_51 ?_
      refine lv_topi (fun v_120 ev_120 => ?_)
      have z_121 := gE_574 hO_T_14.1 h_108 (Int32.toNatClampNeg (v_118)); rw [← ev_120] at z_121
      have ev_120 := ev_120.symm
      have zf_122 : zA T_14 x 1218 ((((600 * ((3 * a1_z) + a2_z)) + i6_13_z) - 1)).toNat = v_120.toInt := (zA_of h_107 z_119 (by omega) ev_120)
      refine r_iast X hw h_108 rfl (by rw [h_109]; exact z_ix z_113 (by omega) (by omega)) dX12_comes_52 (fun H locs hw => ?_)
      obtain ⟨S_123, eS_123⟩ : ∃ T, T = sA T_14 q_106 (upd (pA T_14 q_106) (Int32.toNatClampNeg (v_112)) (v_120)) := ⟨_, rfl⟩
      rw [← eS_123] at hw
      have hO_124 : Ok MCO S S_123 := hO_T_14.sA eS_123 h_108 (by decide +kernel) (uA_574 hO_T_14.1 h_108 (by omega) (by omega))
      have h_125 : pA S_123 q_106 (Int32.toNatClampNeg (v_112)) = v_120 := tA_sAs eS_123
      have t_126 : pR S_123 1218 x = some q_106 := tR_sA eS_123 h_107
      have t_128 : pR T_14 1218 x = some q_106 := by have h := t_126; rw [eS_123, pR_sA] at h; exact h
      have zs_127 : ∀ j, zA S_123 x 1218 j = if j = (((600 * ((3 * a1_z) + a2_z)) + i6_13_z)).toNat then v_120.toInt else zA T_14 x 1218 j := by have h := zA_sAs eS_123 t_128 rfl; rw [z_nc z_113 (by omega)] at h; exact h
      obtain ⟨x_129, ex_129⟩ : ∃ y : Int32, y = i6_13 + (-1) := ⟨_, rfl⟩
      have z_130 : x_129.toInt = i6_13_z + (-1) := z_add ex_129 hz_i6_13 ti_m1 (by omega) (by omega)
      refine lv_iinc (v := x_129) (lv' := [(6, .int (x_129)), (5, .int (v_3)), (0, .ref x), (1, .int (a1)), (2, .int (a2)), (3, .int (a3)), (4, .int (a4))]) X.1 X.2.1 dX12_comes_53 hl (k := 0) rfl (by rw [ex_129]; rfl) (by decide) rfl (fun ls hl => ?_)
      refine lv_goto (tgt := 16) X.1 X.2.1 dX12_comes_56 (by decide) ?_
      have t_131 : At S_123 x 12 := tAt_sA eS_123 ha_x_L_15
      have zc_132 : zA S_123 x 1207 = zA S x 1207 := (zA_sAn eS_123 (ex3 (gQ_12_1207 hO_T_14.1 ha_x_L_15)) h_108 rfl).trans zk_16
      have zc_133 : zA S_123 x 1209 = zA S x 1209 := (zA_sAn eS_123 (ex3 (gQ_12_1209 hO_T_14.1 ha_x_L_15)) h_108 rfl).trans zk_17
      have zc_134 : zA S_123 x 1219 = zA S x 1219 := (zA_sAn eS_123 (ex3 (gQ_12_1219 hO_T_14.1 ha_x_L_15)) h_108 rfl).trans zk_18
      exact ih_L_12 _ (by omega) _ _ _ _ (x_129) (x_129.toInt) rfl hw rfl (by omega) t_131 hO_124 zc_132 zc_133 zc_134 (by omega) (by omega) (by have h := shift_up (R := (3 * a1_z + a2_z)) (k := i6_13_z) (by omega) (by omega) (by omega) iv_21 zf_122 zs_127; rw [show i6_13_z - 1 = x_129.toInt by omega] at h; exact h) (lv_sub hl [0, 1, 2, 3, 4, 5, 6] rfl)
  exact L_12 _ _ _ _ _ (v_9) (v_9.toInt) rfl hw rfl (by omega) ha_x hO (Eq.refl _) (Eq.refl _) (Eq.refl _) (by omega) (by omega) (fun j => by rw [if_neg (by omega)]) (lv_sub hl [0, 1, 2, 3, 4, 5, 6] rfl)
set_option maxHeartbeats 4000000 in
set_option maxRecDepth 100000 in
theorem k_X12_goes (l : Launch) (G : va_G) (cy : Nat → ClassId) (κ : Nat → Nat) (S : PS) (sz : Nat) (x : Nat) (a1 : Int32) (a1_z : Int) (a2 : Int32) (a2_z : Int) (a3 : Int32) (a3_z : Int) (e0 : Int) (hG : GX S) (ha_x : At S x 12) (hz_a1 : a1.toInt = a1_z) (hz_a2 : a2.toInt = a2_z) (hz_a3 : a3.toInt = a3_z) (hp_0 : 0 ≤ a1_z) (hp_1 : a1_z ≤ 3) (hp_2 : 0 ≤ a2_z) (hp_3 : a2_z ≤ 2) (hp_4 : 0 ≤ a3_z) (hp_5 : a3_z < zA S x 1219 (3 * a1_z + a2_z).toNat) (hp_6 : MIe S x e0) : Ci l yX12_goes wsX12_goes ({ frames := 1, cells := 0, slots := 0, locals := 48 }) G cy κ S sz [.ref x, .int (a1), .int (a2), .int (a3)] (fun (r : Int32) (S9 : PS) => Ok MGO S S9 ∧ (0 ≤ r.toInt ∧ r.toInt ≤ 599 ∧ r.toInt < 60 * (pI S 1201 x).toInt ∧ r.toInt = zA S x 1218 (600 * (3 * a1_z + a2_z) + a3_z).toNat ∧ zA S x 1207 r.toInt.toNat = a2_z + 1 ∧ MIe S9 x e0 ∧ Fre S9 x r.toInt ∧ (∀ j, zA S9 x 1219 j = if j = (3 * a1_z + a2_z).toNat then zA S x 1219 (3 * a1_z + a2_z).toNat - 1 else zA S x 1219 j))) := by
  refine ent_m (cc := cX12_goes) (maxL := 7) (ret := (some .int)) (by decide) rfl (Nat.le_of_ble_eq_true rfl) ?_
  intro p e s m below meth c ls X hr hlocks hin hw hl hsz
  subst hsz
  have X : Cx p c cX12_goes 7 s [.ref x, .int (a1), .int (a2), .int (a3)].toArray wsX12_goes RX12 m G cy κ (AS S s.heap.size) := X
  have hl : lv_has ls 7 [(0, .ref x), (1, .int (a1)), (2, .int (a2)), (3, .int (a3))] := hl
  have rg_a1 : (-2147483648) ≤ a1_z ∧ a1_z ≤ 2147483647 := by rw [← hz_a1]; exact ⟨z_lo _, z_hi _⟩
  have rg_a2 : (-2147483648) ≤ a2_z ∧ a2_z ≤ 2147483647 := by rw [← hz_a2]; exact ⟨z_lo _, z_hi _⟩
  have rg_a3 : (-2147483648) ≤ a3_z ∧ a3_z ≤ 2147483647 := by rw [← hz_a3]; exact ⟨z_lo _, z_hi _⟩
  have hO : Ok MGO S S := Ok.rf hG
  generalize hQQ : MQ below _ _ _ _ _ _ = QQ
  replace hQQ := hQQ.symm
  have hlots := gI_12_1201 hG ha_x
  have hm4 := hp_6.2.2.2.1.2 (3 * a1_z + a2_z).toNat (by omega)
  have hm2 := MI_2 hp_6 (r := (3 * a1_z + a2_z)) (k := a3_z) (by omega) (by omega) (by omega) (by omega)
  refine lv_iconst (v := 3) X.1 X.2.1 dX12_goes_0 (by decide) ?_
  refine lv_iload_n X.1 X.2.1 dX12_goes_1 rfl (lv_at hl 1 rfl) ?_
  refine lv_imul X.1 X.2.1 dX12_goes_2 ?_
  refine lv_topi (fun v_1 ev_1 => ?_)
  have z_2 : v_1.toInt = 3 * a1_z := z_mul ev_1 ti_3 hz_a1 (by omega) (by omega)
  refine lv_iload_n X.1 X.2.1 dX12_goes_3 rfl (lv_at hl 2 rfl) ?_
  refine lv_iadd X.1 X.2.1 dX12_goes_4 ?_
  refine lv_topi (fun v_3 ev_3 => ?_)
  have z_4 : v_3.toInt = (3 * a1_z) + a2_z := z_add ev_3 z_2 hz_a2 (by omega) (by omega)
  refine lv_istore (lv' := [(4, .int (v_3)), (0, .ref x), (1, .int (a1)), (2, .int (a2)), (3, .int (a3))]) X.1 X.2.1 dX12_goes_5 hl (by decide) rfl (fun ls hl => ?_)
  refine lv_aload_n X.1 X.2.1 dX12_goes_7 rfl (lv_at hl 1 rfl) ?_
  obtain ⟨q_5, h_6, h_7, h_8⟩ := gQ_12_1218 hO.1 ha_x
  refine r_getR (g := 1218) X hw ha_x rfl 18 h_6 (by decide) rfl inn_X12_goes_12 (by decide) (X.2.2.2.1 (.fieldLink RX12 55 "SilkMillModel" "rowOf" "[I") (by decide +kernel)) rfl (gv_1218 _ _) dX12_goes_8 ?_
  refine lv_sipush (v := 600) X.1 X.2.1 dX12_goes_11 (by decide) ?_
  refine lv_iload X.1 X.2.1 dX12_goes_14 (lv_at hl 0 rfl) ?_
  refine lv_imul X.1 X.2.1 dX12_goes_16 ?_
  refine lv_topi (fun v_9 ev_9 => ?_)
  have z_10 : v_9.toInt = 600 * ((3 * a1_z) + a2_z) := z_mul ev_9 ti_600 z_4 (by omega) (by omega)
  refine lv_iload_n X.1 X.2.1 dX12_goes_17 rfl (lv_at hl 4 rfl) ?_
  refine lv_iadd X.1 X.2.1 dX12_goes_18 ?_
  refine lv_topi (fun v_11 ev_11 => ?_)
  have z_12 : v_11.toInt = (600 * ((3 * a1_z) + a2_z)) + a3_z := z_add ev_11 z_10 hz_a3 (by omega) (by omega)
  refine r_iald X hw h_7 rfl (by rw [h_8]; exact z_ix z_12 (by omega) (by omega)) dX12_goes_19 ?_
  refine lv_topi (fun v_13 ev_13 => ?_)
  have z_14 := gE_574 hO.1 h_7 (Int32.toNatClampNeg (v_11)); rw [← ev_13] at z_14
  have ev_13 := ev_13.symm
  have zf_15 : zA S x 1218 (((600 * ((3 * a1_z) + a2_z)) + a3_z)).toNat = v_13.toInt := (zA_of h_6 z_12 (by omega) ev_13)
  refine lv_istore (lv' := [(5, .int (v_13)), (4, .int (v_3)), (0, .ref x), (1, .int (a1)), (2, .int (a2)), (3, .int (a3))]) X.1 X.2.1 dX12_goes_20 hl (by decide) rfl (fun ls hl => ?_)
  refine lv_aload_n X.1 X.2.1 dX12_goes_22 rfl (lv_at hl 2 rfl) ?_
  obtain ⟨q_16, h_17, h_18, h_19⟩ := gQ_12_1219 hO.1 ha_x
  refine r_getR (g := 1219) X hw ha_x rfl 19 h_17 (by decide) rfl inn_X12_goes_12 (by decide) (X.2.2.2.1 (.fieldLink RX12 58 "SilkMillModel" "rowMany" "[I") (by decide +kernel)) rfl (gv_1219 _ _) dX12_goes_23 ?_
  refine lv_iload X.1 X.2.1 dX12_goes_26 (lv_at hl 1 rfl) ?_
  refine lv_dup2_11 X.1 X.2.1 dX12_goes_28 rfl rfl ?_
  refine r_iald X hw h_18 rfl (by rw [h_19]; exact z_ix z_4 (by omega) (by omega)) dX12_goes_29 ?_
  refine lv_topi (fun v_20 ev_20 => ?_)
  have z_21 := gE_594 hO.1 h_18 (Int32.toNatClampNeg (v_3)); rw [← ev_20] at z_21
  have ev_20 := ev_20.symm
  have zf_22 : zA S x 1219 (((3 * a1_z) + a2_z)).toNat = v_20.toInt := (zA_of h_17 z_4 (by omega) ev_20)
  refine lv_iconst (v := 1) X.1 X.2.1 dX12_goes_30 (by decide) ?_
  refine lv_isub X.1 X.2.1 dX12_goes_31 ?_
  refine lv_topi (fun v_23 ev_23 => ?_)
  have z_24 : v_23.toInt = v_20.toInt - 1 := z_sub ev_23 rfl ti_1 (by omega) (by omega)
  refine r_iast X hw h_18 rfl (by rw [h_19]; exact z_ix z_4 (by omega) (by omega)) dX12_goes_32 (fun H locs hw => ?_)
  obtain ⟨S_25, eS_25⟩ : ∃ T, T = sA S q_16 (upd (pA S q_16) (Int32.toNatClampNeg (v_3)) (v_23)) := ⟨_, rfl⟩
  rw [← eS_25] at hw
  have hO_26 : Ok MGO S S_25 := hO.sA eS_25 h_18 (by decide +kernel) (uA_594 hO.1 h_18 (by omega) (by omega))
  have h_27 : pA S_25 q_16 (Int32.toNatClampNeg (v_3)) = v_23 := tA_sAs eS_25
  have t_28 : pR S_25 1219 x = some q_16 := tR_sA eS_25 h_17
  have t_30 : pR S 1219 x = some q_16 := by have h := t_28; rw [eS_25, pR_sA] at h; exact h
  have zs_29 : ∀ j, zA S_25 x 1219 j = if j = (((3 * a1_z) + a2_z)).toNat then (v_20.toInt - 1) else zA S x 1219 j := by have h := zA_sAs eS_25 t_30 z_24; rw [z_nc z_4 (by omega)] at h; exact h
  have zs_31 : zA S_25 x 1219 (3 * a1_z + a2_z).toNat = (v_20.toInt - 1) := by have h := zs_29 (3 * a1_z + a2_z).toNat; rw [if_pos rfl] at h; exact h
  refine lv_iload_n X.1 X.2.1 dX12_goes_33 rfl (lv_at hl 5 rfl) ?_
  refine lv_istore (lv' := [(6, .int (a3)), (5, .int (v_13)), (4, .int (v_3)), (0, .ref x), (1, .int (a1)), (2, .int (a2)), (3, .int (a3))]) X.1 X.2.1 dX12_goes_34 hl (by decide) rfl (fun ls hl => ?_)
  have L_32 : ∀ (n : Nat) (T_34 : PS) (H : Heap) (locs : List Loc) (ls : Array Slot) (i6_33 : Int32) (i6_33_z : Int), ((600 - i6_33_z).toNat = n) → (Wd G cy (AS S s.heap.size) s.heap T_34 H locs) → (i6_33.toInt = i6_33_z) → (0 ≤ i6_33_z ∧ i6_33_z ≤ 600) → (At T_34 x 12) → (Ok MGO S T_34) → (zA T_34 x 1219 = zA S_25 x 1219) → (a3_z ≤ i6_33_z ∧ i6_33_z ≤ zA S x 1219 (3 * a1_z + a2_z).toNat - 1) → (∀ j : Nat, zA T_34 x 1218 j = if 600 * (3 * a1_z + a2_z) + a3_z ≤ (j : Int) ∧ (j : Int) < 600 * (3 * a1_z + a2_z) + i6_33_z then zA S x 1218 (j + 1) else zA S x 1218 j) → (lv_has ls 7 [(6, .int (i6_33)), (5, .int (v_13)), (4, .int (v_3)), (0, .ref x), (1, .int (a1)), (2, .int (a2)), (3, .int (a3))]) → W p l e ({ frames := 1, cells := 0, slots := 0, locals := 48 }) s m [.ref x, .int (a1), .int (a2), .int (a3)].toArray below meth c H locs 0 0 QQ (F0 m 36 ls []) := by
    intro n
    induction n using Nat.strongRecOn with
    | ind n ih_L_32 =>
    intro T_34 H locs ls i6_33 i6_33_z hn hw hz_i6_33 hr_i6_33 ha_x_L_35 hO_T_34 zk_36 iv_37 iv_38 hl
    have rg_39 : (-2147483648) ≤ i6_33_z ∧ i6_33_z ≤ 2147483647 := by rw [← hz_i6_33]; exact ⟨z_lo _, z_hi _⟩
    refine lv_iload X.1 X.2.1 dX12_goes_36 (lv_at hl 0 rfl) ?_
    refine lv_aload_n X.1 X.2.1 dX12_goes_38 rfl (lv_at hl 3 rfl) ?_
    obtain ⟨q_40, h_41, h_42, h_43⟩ := gQ_12_1219 hO_T_34.1 ha_x_L_35
    refine r_getR (g := 1219) X hw ha_x_L_35 rfl 19 h_41 (by decide) rfl inn_X12_goes_12 (by decide) (X.2.2.2.1 (.fieldLink RX12 58 "SilkMillModel" "rowMany" "[I") (by decide +kernel)) rfl (gv_1219 _ _) dX12_goes_39 ?_
    refine lv_iload X.1 X.2.1 dX12_goes_42 (lv_at hl 2 rfl) ?_
    refine r_iald X hw h_42 rfl (by rw [h_43]; exact z_ix z_4 (by omega) (by omega)) dX12_goes_44 ?_
    refine lv_topi (fun v_44 ev_44 => ?_)
    have z_45 := gE_594 hO_T_34.1 h_42 (Int32.toNatClampNeg (v_3)); rw [← ev_44] at z_45
    have ev_44 := ev_44.symm
    have zf_46 : zA T_34 x 1219 (((3 * a1_z) + a2_z)).toNat = v_44.toInt := (zA_of h_41 z_4 (by omega) ev_44)
    have zz_47 := congrFun zk_36 ((3 * a1_z + a2_z).toNat)
    refine lv_icmp_ge (tgt := 84) X.1 X.2.1 dX12_goes_45 (by decide) (fun c_48 => ?_) (fun c_48 => ?_)
    · have z_b_49 := trivial
      have k_50 : i6_33_z ≥ v_44.toInt := z_le rfl hz_i6_33 c_48
      refine lv_iload X.1 X.2.1 dX12_goes_84 (lv_at hl 1 rfl) ?_
      have zs_51 : ∀ j, zA T_34 x 1219 j = if j = (((3 * a1_z) + a2_z)).toNat then (v_20.toInt - 1) else zA S x 1219 j := fun j => by rw [zk_36]; exact zs_29 j
      have hm19 : ∀ j, zA T_34 x 1219 j = if j = (3 * a1_z + a2_z).toNat then zA S x 1219 (3 * a1_z + a2_z).toNat - 1 else zA S x 1219 j := fun j => by rw [zs_51 j]; split <;> omega
      have ho18 := goes_row (R := (3 * a1_z + a2_z)) (i := a3_z) (k := i6_33_z) (m := zA S x 1219 (3 * a1_z + a2_z).toNat) (by omega) (by omega) (by omega) iv_38
      have hgm := goes_MI (r := (3 * a1_z + a2_z).toNat) (i := a3_z.toNat) hG ha_x hO_T_34.fr hp_6 (by omega) (by omega) hm19 ho18
      have hix : 600 * (3 * a1_z + a2_z).toNat + a3_z.toNat = (600 * (3 * a1_z + a2_z) + a3_z).toNat := by omega
      rw [hix, zf_15] at hgm
      have hm2' := hm2; rw [zf_15] at hm2'
      rw [hQQ]
      exact ret_i X hw hr hlocks (Nat.le_of_ble_eq_true rfl) (Nat.le_of_ble_eq_true rfl) ⟨hO_T_34, ⟨by omega, by omega, by omega, by omega, by omega, hgm.1, hgm.2, hm19⟩⟩ dX12_goes_86
    · have z_b_52 := trivial
      have k_53 : i6_33_z < v_44.toInt := z_nle rfl hz_i6_33 c_48
      refine lv_aload_n X.1 X.2.1 dX12_goes_48 rfl (lv_at hl 3 rfl) ?_
      obtain ⟨q_54, h_55, h_56, h_57⟩ := gQ_12_1218 hO_T_34.1 ha_x_L_35
      refine r_getR (g := 1218) X hw ha_x_L_35 rfl 18 h_55 (by decide) rfl inn_X12_goes_12 (by decide) (X.2.2.2.1 (.fieldLink RX12 55 "SilkMillModel" "rowOf" "[I") (by decide +kernel)) rfl (gv_1218 _ _) dX12_goes_49 ?_
      refine lv_sipush (v := 600) X.1 X.2.1 dX12_goes_52 (by decide) ?_
      refine lv_iload X.1 X.2.1 dX12_goes_55 (lv_at hl 2 rfl) ?_
      refine lv_imul X.1 X.2.1 dX12_goes_57 ?_
      refine lv_topi (fun v_58 ev_58 => ?_)
      have z_59 : v_58.toInt = 600 * ((3 * a1_z) + a2_z) := z_mul ev_58 ti_600 z_4 (by omega) (by omega)
      refine lv_iload X.1 X.2.1 dX12_goes_58 (lv_at hl 0 rfl) ?_
      refine lv_iadd X.1 X.2.1 dX12_goes_60 ?_
      refine lv_topi (fun v_60 ev_60 => ?_)
      have z_61 : v_60.toInt = (600 * ((3 * a1_z) + a2_z)) + i6_33_z := z_add ev_60 z_59 hz_i6_33 (by omega) (by omega)
      refine lv_aload_n X.1 X.2.1 dX12_goes_61 rfl (lv_at hl 3 rfl) ?_
      refine r_getR (g := 1218) X hw ha_x_L_35 rfl 18 h_55 (by decide) rfl inn_X12_goes_12 (by decide) (X.2.2.2.1 (.fieldLink RX12 55 "SilkMillModel" "rowOf" "[I") (by decide +kernel)) rfl (gv_1218 _ _) dX12_goes_62 ?_
      refine lv_sipush (v := 600) X.1 X.2.1 dX12_goes_65 (by decide) ?_
      refine lv_iload X.1 X.2.1 dX12_goes_68 (lv_at hl 2 rfl) ?_
      refine lv_imul X.1 X.2.1 dX12_goes_70 ?_
      refine lv_topi (fun v_62 ev_62 => ?_)
      have z_63 : v_62.toInt = 600 * ((3 * a1_z) + a2_z) := z_mul ev_62 ti_600 z_4 (by omega) (by omega)
      refine lv_iload X.1 X.2.1 dX12_goes_71 (lv_at hl 0 rfl) ?_
      refine lv_iadd X.1 X.2.1 dX12_goes_73 ?_
      refine lv_topi (fun v_64 ev_64 => ?_)
      have z_65 : v_64.toInt = (600 * ((3 * a1_z) + a2_z)) + i6_33_z := z_add ev_64 z_63 hz_i6_33 (by omega) (by omega)
      refine lv_iconst (v := 1) X.1 X.2.1 dX12_goes_74 (by decide) ?_
      refine lv_iadd X.1 X.2.1 dX12_goes_75 ?_
      refine lv_topi (fun v_66 ev_66 => ?_)
      have z_67 : v_66.toInt = ((600 * ((3 * a1_z) + a2_z)) + i6_33_z) + 1 := z_add ev_66 z_65 ti_1 (by omega) (by omega)
      refine r_iald X hw h_56 rfl (by rw [h_57]; exact z_ix z_67 (by omega) (by omega)) dX12_goes_76 ?_
      refine lv_topi (fun v_68 ev_68 => ?_)
      have z_69 := gE_574 hO_T_34.1 h_56 (Int32.toNatClampNeg (v_66)); rw [← ev_68] at z_69
      have ev_68 := ev_68.symm
      have zf_70 : zA T_34 x 1218 ((((600 * ((3 * a1_z) + a2_z)) + i6_33_z) + 1)).toNat = v_68.toInt := (zA_of h_55 z_67 (by omega) ev_68)
      refine r_iast X hw h_56 rfl (by rw [h_57]; exact z_ix z_61 (by omega) (by omega)) dX12_goes_77 (fun H locs hw => ?_)
      obtain ⟨S_71, eS_71⟩ : ∃ T, T = sA T_34 q_54 (upd (pA T_34 q_54) (Int32.toNatClampNeg (v_60)) (v_68)) := ⟨_, rfl⟩
      rw [← eS_71] at hw
      have hO_72 : Ok MGO S S_71 := hO_T_34.sA eS_71 h_56 (by decide +kernel) (uA_574 hO_T_34.1 h_56 (by omega) (by omega))
      have h_73 : pA S_71 q_54 (Int32.toNatClampNeg (v_60)) = v_68 := tA_sAs eS_71
      have t_74 : pR S_71 1218 x = some q_54 := tR_sA eS_71 h_55
      have t_76 : pR T_34 1218 x = some q_54 := by have h := t_74; rw [eS_71, pR_sA] at h; exact h
      have zs_75 : ∀ j, zA S_71 x 1218 j = if j = (((600 * ((3 * a1_z) + a2_z)) + i6_33_z)).toNat then v_68.toInt else zA T_34 x 1218 j := by have h := zA_sAs eS_71 t_76 rfl; rw [z_nc z_61 (by omega)] at h; exact h
      obtain ⟨x_77, ex_77⟩ : ∃ y : Int32, y = i6_33 + 1 := ⟨_, rfl⟩
      have z_78 : x_77.toInt = i6_33_z + 1 := z_add ex_77 hz_i6_33 ti_1 (by omega) (by omega)
      refine lv_iinc (v := x_77) (lv' := [(6, .int (x_77)), (5, .int (v_13)), (4, .int (v_3)), (0, .ref x), (1, .int (a1)), (2, .int (a2)), (3, .int (a3))]) X.1 X.2.1 dX12_goes_78 hl (k := 0) rfl (by rw [ex_77]; rfl) (by decide) rfl (fun ls hl => ?_)
      refine lv_goto (tgt := 36) X.1 X.2.1 dX12_goes_81 (by decide) ?_
      have t_79 : At S_71 x 12 := tAt_sA eS_71 ha_x_L_35
      have zc_80 : zA S_71 x 1219 = zA S_25 x 1219 := (zA_sAn eS_71 (ex3 (gQ_12_1219 hO_T_34.1 ha_x_L_35)) h_56 rfl).trans zk_36
      exact ih_L_32 _ (by omega) _ _ _ _ (x_77) (x_77.toInt) rfl hw rfl (by omega) t_79 hO_72 zc_80 (by omega) (by have h := shift_dn (R := (3 * a1_z + a2_z)) (i := a3_z) (k := i6_33_z) (by omega) (by omega) (by omega) iv_38 zf_70 zs_75; rw [show i6_33_z + 1 = x_77.toInt by omega] at h; exact h) (lv_sub hl [0, 1, 2, 3, 4, 5, 6] rfl)
  have t_81 : At S_25 x 12 := tAt_sA eS_25 ha_x
  have zc_82 : zA S_25 x 1218 = zA S x 1218 := zA_sAn eS_25 (ex3 (gQ_12_1218 hO.1 ha_x)) h_18 rfl
  exact L_32 _ _ _ _ _ (a3) (a3_z) rfl hw hz_a3 (by omega) t_81 hO_26 (Eq.refl _) (by omega) (fun j => by rw [if_neg (by omega), zc_82]) (lv_sub hl [0, 1, 2, 3, 4, 5, 6] rfl)
