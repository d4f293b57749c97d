/-! ===== silk and prices alike ===== -/
theorem siZ_eq {S : PS} {x mo K k : Nat} {ν : Nat → Nat} {sk : List Sk} {s : Sk} (hG : GX S) (hx : At S x 11) (hm : At S mo 12) (ct : CT S x mo) (th : mA S mo 1210 = thinF) (hMI : MI S mo) (hw : TPw S x mo ν K sk) (hk : sk[k]? = some s) : siZ S mo (skN ν s).2.2.2 = siS S s.2.2.2 := by
  have h1' : (sk.map (skN ν))[k]? = some (skN ν s) := by rw [List.getElem?_map, hk]; rfl
  obtain ⟨q, hq, g, f, j2, -, -, hv, -⟩ := hw.2.2.1.1.2 _ _ hk
  obtain ⟨-, c2, c3⟩ := hw.2.2.1.2.1.2 _ _ h1'
  have z1 := z1239 hG hm k
  have z2 := z1239 hG hm (k + 1)
  show ((s.2.2.2.map (mtN ν)).foldl (fun a m => a + mtZ S mo m) 0) = s.2.2.2.foldl (fun a m => a + mtS S m) 0
  rw [List.foldl_map]
  refine flx (fun b t ht => ?_)
  show b + mtZ S mo (mtN ν t) = b + mtS S t
  obtain ⟨j, hj⟩ := List.mem_iff_getElem?.mp ht
  have ht' : (skN ν s).2.2.2[j]? = some (mtN ν t) := by
    show (s.2.2.2.map (mtN ν))[j]? = _
    rw [List.getElem?_map, hj]
    rfl
  have hlt := (List.getElem?_eq_some_iff.mp ht').1
  rw [mt_eq hG hx hm ct th hMI hw.1 (fun z hz => (hv.2.2.1 t ht z hz).1) (by omega) (c3 _ _ ht')]
/-! ===== count ===== -/
def flK (L : List Sk) : List Mt := (L.map (fun s => s.2.2.2)).flatten
theorem fl_ap {a : List Sk} {s : Sk} : flK (a ++ [s]) = flK a ++ s.2.2.2 := by
  unfold flK
  rw [List.map_append, List.flatten_append]
  show _ ++ (s.2.2.2 ++ []) = _
  rw [List.append_nil]
theorem siZ_ap {S : PS} {x : Nat} {a b : List Mt} : siZ S x (a ++ b) = siZ S x a + siZ S x b := by
  unfold siZ
  rw [List.foldl_append]
  exact fo_b
theorem siZ_fl {S : PS} {x : Nat} : ∀ L : List Sk, siZ S x (flK L) = L.foldl (fun a s => a + siZ S x s.2.2.2) 0
  | [] => rfl
  | s :: t => by
    have e : siZ S x (flK (s :: t)) = siZ S x s.2.2.2 + siZ S x (flK t) := siZ_ap (a := s.2.2.2) (b := flK t)
    have k : t.foldl (fun a s => a + siZ S x s.2.2.2) (0 + siZ S x s.2.2.2) = (0 + siZ S x s.2.2.2) + t.foldl (fun a s => a + siZ S x s.2.2.2) 0 := fo_b
    rw [e, siZ_fl t]
    show _ = t.foldl (fun a s => a + siZ S x s.2.2.2) (0 + siZ S x s.2.2.2)
    rw [k, Int32.zero_add]
theorem fl_R {S : PS} {x : Nat} {L : List Sk} (h0 : zA S x 1239 0 = 0) (h : ∀ (k : Nat) (s : Sk), L[k]? = some s → SkR S x k s) : ∀ n, n ≤ L.length → ((flK (L.take n)).length : Int) = zA S x 1239 n ∧ ∀ (j : Nat) (t : Mt), (flK (L.take n))[j]? = some t → MtR S x j t
  | 0, _ => by
    rw [List.take_zero, h0]
    refine ⟨rfl, fun j t hj => ?_⟩
    have k : ([] : List Mt)[j]? = some t := hj
    rw [List.getElem?_nil] at k
    cases k
  | n + 1, hn => by
    obtain ⟨a, b⟩ := fl_R h0 h n (by omega)
    have e : L[n]? = some L[n] := List.getElem?_eq_getElem (by omega)
    obtain ⟨-, c2, c3⟩ := h n _ e
    have et : L.take (n + 1) = L.take n ++ [L[n]] := by
      rw [List.take_succ, e]
      rfl
    rw [et, fl_ap]
    refine ⟨by rw [List.length_append]; omega, fun j t hj => ?_⟩
    by_cases hl : j < (flK (L.take n)).length
    · rw [List.getElem?_append_left hl] at hj
      exact b j t hj
    · rw [List.getElem?_append_right (by omega)] at hj
      have k := c3 _ _ hj
      rw [show (zA S x 1239 n).toNat + (j - (flK (L.take n)).length) = j by omega] at k
      exact k
theorem ct_7 {S : PS} {x mo K : Nat} {ν : Nat → Nat} {sk : List Sk} (hG : GX S) (hx : At S x 11) (hm : At S mo 12) (ct : CT S x mo) (th : mA S mo 1210 = thinF) (hMI : MI S mo) (hw : TPw S x mo ν K sk) (hq : CnQ S x mo) : ∃ g : List Mt, (g.length : Int) = zA S mo 1239 (pI S 1238 mo).toInt.toNat ∧ (∀ (j : Nat) (t : Mt), g[j]? = some t → MtR S mo j t) ∧ siZ S mo g = pI S 803 K := by
  have hW := hw.2.2.1.2.1
  have r38 := gI_12_1238 hG hm
  have h7 : 0 ≤ zA S mo 1239 0 ∧ zA S mo 1239 0 ≤ 300 * 0 := MI_7' hMI (k := 0) (by omega) (by omega)
  have z0 : zA S mo 1239 0 = 0 := by omega
  obtain ⟨a, b⟩ := fl_R z0 hW.2 (sk.map (skN ν)).length (Nat.le_refl _)
  rw [List.take_length] at a b
  have hl := hW.1
  refine ⟨flK (sk.map (skN ν)), ?_, b, ?_⟩
  · rw [a, show (pI S 1238 mo).toInt.toNat = (sk.map (skN ν)).length by omega]
  · have hl2 := hw.2.2.1.1.1
    rw [siZ_fl, List.foldl_map, (hq K hw.2.1).2.1]
    unfold kpC
    rw [show (pI S 800 K).toInt.toNat = sk.length by omega, su_ix (l := sk) (g := fun s => siS S s.2.2.2) (fun k s hs => ?_) _ (Nat.le_refl _), List.take_length]
    · refine flx (fun b s hs => ?_)
      obtain ⟨k, hk⟩ := List.mem_iff_getElem?.mp hs
      show b + siZ S mo (skN ν s).2.2.2 = b + siS S s.2.2.2
      rw [siZ_eq hG hx hm ct th hMI hw hk]
    · obtain ⟨o, j1, b, f, j2, j3, j4, j5, -⟩ := hw.2.2.1.1.2 k s hs
      unfold skS
      rw [j1]
      show oF (fun b => pI S 903 b) (pR S 703 o) = _
      rw [j2]
      exact j5.2.1
theorem ct_8 {S : PS} {x mo K : Nat} {ν : Nat → Nat} {sk : List Sk} (hG : GX S) (hx : At S x 11) (hm : At S mo 12) (ct : CT S x mo) (th : mA S mo 1210 = thinF) (hMI : MI S mo) (tp : (pI S 1104 x).toInt = (pI S 1211 mo).toInt) (hw : TPw S x mo ν K sk) : ∀ p : Nat, (p : Int) < (pI S 1211 mo).toInt → ∃ g, GrW S mo p g ∧ siZ S mo g = grP S x p := fun p hp => by
  obtain ⟨P, R0, R1, R2, G, A, R, h⟩ := hw.2.2.2.2.1 p (by omega)
  have hGr : GrW S mo p ((qg A).map (mtN ν)) := by
    have z := h.2.2.2.2.1.2.2.2.2.2.1
    rw [Int.toNat_natCast] at z
    exact z
  have hV : StV S (DC S x) G (qg A) := h.2.2.1.2.2.2.2.2.1
  have r11 := gI_12_1211 hG hm
  have z7 := z1237 hG hm p
  have e1 : grP S x p = pI S 903 G := by
    unfold grP
    rw [h.1]
    show oF (fun G => pI S 903 G) (pR S 403 P) = _
    rw [h.2.1.2.2.2.1]
    rfl
  refine ⟨_, hGr, ?_⟩
  rw [e1, hV.2.1]
  unfold siZ siS
  rw [List.foldl_map]
  refine flx (fun b t ht => ?_)
  show b + mtZ S mo (mtN ν t) = b + mtS S t
  obtain ⟨j, hj⟩ := List.mem_iff_getElem?.mp ht
  have hj' : ((qg A).map (mtN ν))[j]? = some (mtN ν t) := by
    rw [List.getElem?_map, hj]
    rfl
  have hl := (List.getElem?_eq_some_iff.mp hj').1
  have hg1 := hGr.1
  rw [mt_eq hG hx hm ct th hMI hw.1 (fun z hz => (hV.2.2.1 t ht z hz).1) (by omega) (hGr.2 j _ hj')]
theorem su_z {f : Nat → Int32} {n : Nat} : ∀ d, (∀ j, n ≤ j → j < n + d → f j = 0) → suL f (List.range (n + d)) = suL f (List.range n)
  | 0, _ => rfl
  | d + 1, h => by
    rw [← Nat.add_assoc, List.range_succ, su_a, h (n + d) (by omega) (by omega), su_z d (fun j h1 h2 => h j h1 (by omega)), Int32.add_zero]
theorem su_600 {f g : Nat → Int32} {n : Nat} (hn : n ≤ 600) (h0 : ∀ j, n ≤ j → j < 600 → f j = 0) (h1 : ∀ j, j < n → f j = g j) : suL f (List.range 600) = suL g (List.range n) := by
  have e := su_z (f := f) (n := n) (600 - n) (fun j a b => h0 j a (by omega))
  rw [show n + (600 - n) = 600 by omega] at e
  rw [e]
  exact su_e (fun j hj => h1 j (List.mem_range.mp hj))
theorem sl_ea {S : PS} {x mo q : Nat} {l i a : Int} (hG : GX S) (hx : At S x 11) (hm : At S mo 12) (ct : CT S x mo) (tl : (pI S 1102 x).toInt = (pI S 1201 mo).toInt) (th : mA S mo 1210 = thinF) (hc : InC S x l i) (c1 : mB S x 1100 (60 * l + i).toNat = some q) (ha : 0 ≤ a) : ∀ n : Nat, a + (n : Int) ≤ lenZ S mo (60 * l + i) → slC (pI S 8 q) (pI S 2 q) a n = slZ S mo (60 * l + i) a n
  | 0, _ => rfl
  | n + 1, hn => by
    obtain ⟨i1, i2, i3, i4⟩ := hc
    have hmn := CT_many ct i1 i2
    have lg := lenZ_le hG hm (60 * l + i)
    show slC (pI S 8 q) (pI S 2 q) a n + fcI (pI S 8 q) (pI S 2 q) (Int32.ofInt (a + (n : Int))) = slZ S mo (60 * l + i) a n + Int32.ofInt (fnZ S mo (60 * l + i) (a + (n : Int)))
    rw [sl_ea hG hx hm ct tl th ⟨i1, i2, i3, i4⟩ c1 ha n (by omega)]
    have hz : (Int32.ofInt (a + (n : Int))).toInt = a + (n : Int) := by
      rw [Int32.toInt_ofInt]
      exact bm_id (by omega) (by omega)
    have k : (fcI (pI S 8 q) (pI S 2 q) (Int32.ofInt (a + (n : Int)))).toInt = fnZ S mo (60 * l + i) (a + (n : Int)) := fc_fn hG hx ct tl th hz ⟨i1, by omega, i3, by omega, by omega, by omega⟩ ⟨q, c1, rfl⟩
    exact congrArg (fun y => slZ S mo (60 * l + i) a n + y) (oi_of k)
/-- what class and reference sum up of a cocoon -/
theorem cn_pt {S : PS} {x mo K : Nat} {ν : Nat → Nat} {sk : List Sk} (hG : GX S) (hx : At S x 11) (hm : At S mo 12) (ct : CT S x mo) (tl : (pI S 1102 x).toInt = (pI S 1201 mo).toInt) (th : mA S mo 1210 = thinF) (hMI : MI S mo) (hS : SZ S x mo) (hw : TPw S x mo ν K sk) (j : Nat) (hj : (j : Int) < 60 * (pI S 1201 mo).toInt) : oF (dwD S) (vld S x j) = v6 S mo j ∧ oF (thD S) (vld S x j) = v10 S mo j := by
  have b1 := il60 hG hx (j / 60)
  have b2 := gI_11_1102 hG hx
  have hmn := CT_many (l := ((j / 60 : Nat) : Int)) ct (by omega) (by omega)
  rw [Int.toNat_natCast] at hmn
  by_cases h : ((j % 60 : Nat) : Int) < zA S x 1101 (j / 60)
  · obtain ⟨c, c1, -, -, -, c5, -⟩ := CT_get (l := ((j / 60 : Nat) : Int)) (i := ((j % 60 : Nat) : Int)) ct (by omega) (by omega) (by omega) (by rw [Int.toNat_natCast]; exact h) (by omega)
    have ej : 60 * ((j / 60 : Nat) : Int) + ((j % 60 : Nat) : Int) = (j : Int) := by omega
    have sl := fun (a : Int) (ha : 0 ≤ a) => sl_ea (a := a) hG hx hm ct tl th (l := ((j / 60 : Nat) : Int)) (i := ((j % 60 : Nat) : Int)) ⟨by omega, by omega, by omega, by rw [Int.toNat_natCast]; exact h⟩ c1 ha
    rw [ej] at c1 c5 sl
    rw [Int.toNat_natCast] at c1
    have ej2 : 60 * (j / 60) + j % 60 = j := by omega
    have s7 : (pI S 3 c).toInt = zA S mo 1207 (60 * (j / 60) + j % 60) := hS (j / 60) (j % 60) (by omega) h c (by rw [ej2]; exact c1)
    have s8 : zA S mo 1208 (60 * (j / 60) + j % 60) = (pI S 4 c).toInt := hw.2.2.2.1 (j / 60) (j % 60) c (by omega) h (by rw [ej2]; exact c1)
    rw [ej2] at s7 s8
    have m1 := (MI_1 hMI (c := (j : Int)) (by omega) (by omega)).2 hj
    rw [Int.toNat_natCast] at m1
    have z8 : 0 ≤ zA S mo 1208 j := by
      obtain ⟨q, q1, q2, -⟩ := gQ_12_1208 hG hm
      rw [zA_eq, mA_eq q1]
      exact (gE_374 hG q2 _).1
    have ev : vld S x j = some c := by
      unfold vld
      rw [if_pos ⟨by omega, h⟩]
      exact c1
    rw [ev]
    constructor
    · show dwD S c = v6 S mo j
      unfold dwD v6
      rw [if_pos (by omega), ← s8]
      exact sl 0 (by omega) _ (by omega)
    · show thD S c = v10 S mo j
      unfold thD v10
      by_cases h6 : pI S 3 c = 6
      · rw [h6] at s7
        have e6 : zA S mo 1207 j = 6 := by
          rw [← s7]
          decide
        rw [if_pos h6, if_pos ⟨by omega, e6⟩, ← s8, c5]
        exact sl _ z8 _ (by omega)
      · rw [if_neg h6, if_neg (by intro y; exact h6 (Int32.toInt_inj.mp (s7.trans (y.2.trans (by decide)))))]
  · have ev : vld S x j = none := by
      unfold vld
      rw [if_neg (by intro y; exact h y.2)]
    rw [ev]
    unfold v6 v10
    rw [if_neg (by omega), if_neg (fun y => by have := y.1; omega)]
    exact ⟨rfl, rfl⟩
theorem vld_o {S : PS} {x j : Nat} (h : 60 * (pI S 1102 x).toInt ≤ (j : Int)) : vld S x j = none := by
  unfold vld
  rw [if_neg (fun y => by have := y.1; omega)]
theorem rq_count {S : PS} {x mo K u : Nat} {ν : Nat → Nat} {sk : List Sk} {k : Int} {r1 r2 : Int32} (hG : GX S) (hx : At S x 11) (hm : At S mo 12) (ct : CT S x mo) (tl : (pI S 1102 x).toInt = (pI S 1201 mo).toInt) (tp : (pI S 1104 x).toInt = (pI S 1211 mo).toInt) (th : mA S mo 1210 = thinF) (hMI : MI S mo) (hd : ∀ K, pR S 1107 x = some K → pI S 801 K = pI S 1245 mo) (hu : (pI S 1000 u).toInt = (pI S 1228 mo).toInt) (hw : TPw S x mo ν K sk) (hf : EXfa S x K mo) (h : TX S x mo) (a1 : r1 = cnC S x K u k) (b1 : r2 = cnZ S mo (grP S x) (pI S 803 K) k) : r1.toInt = r2.toInt := by
  have q := h.2.1.2.1 K hw.2.1
  have la : (pI S 1110 x).toInt = laN S mo 16 := h.2.1.2.2
  have lb := la_b (S := S) (mo := mo) 16
  have rl := gI_11_1102 hG hx
  have pt := cn_pt hG hx hm ct tl th hMI h.1.1 hw
  rw [a1, b1]
  rcases (show k = 0 ∨ k = 1 ∨ k = 2 ∨ k = 3 ∨ k = 4 ∨ k = 5 ∨ k = 6 ∨ k = 7 ∨ k = 8 ∨ k = 9 ∨ k = 10 ∨ k = 11 ∨ ¬ (0 ≤ k ∧ k ≤ 11) by omega) with e | e | e | e | e | e | e | e | e | e | e | e | e
  · rw [cnC_0 e, cnZ_0 e]
    exact tl
  · rw [cnC_1 e, cnZ_1 e]
    exact tp
  · rw [cnC_2 e, cnZ_2 e, hw.2.2.1.1.1, hw.2.2.1.2.1.1, List.length_map]
  · rw [cnC_3 e, cnZ_3 e, hd K hw.2.1]
  · rw [cnC_4 e, cnZ_4 e]
    exact hu
  · rw [cnC_5 e, cnZ_5 e]
    exact hf
  · rw [cnC_6 e, cnZ_6 e, q.1]
    unfold coS
    rw [su_fm, su_600 (f := fun j => oF (dwD S) (vld S x j)) (g := v6 S mo) (n := (60 * (pI S 1201 mo).toInt).toNat) (by omega) (fun j h1 _ => by
      show oF (dwD S) (vld S x j) = 0
      rw [vld_o (by omega)]
      rfl) (fun j hj => (pt j (by omega)).1)]
  · rw [cnC_7 e, cnZ_7 e]
  · rw [cnC_8 e, cnZ_8 e]
    unfold grC
    rw [tp]
  · rw [cnC_9 e, cnZ_9 e, q.2.2.2]
  · rw [cnC_10 e, cnZ_10 e, q.2.2.1]
    unfold coS
    rw [su_fm, su_600 (f := fun j => oF (thD S) (vld S x j)) (g := v10 S mo) (n := (60 * (pI S 1201 mo).toInt).toNat) (by omega) (fun j h1 _ => by
      show oF (thD S) (vld S x j) = 0
      rw [vld_o (by omega)]
      rfl) (fun j hj => (pt j (by omega)).2)]
  · rw [cnC_11 e, cnZ_11 e, la, Int32.toInt_ofInt]
    exact (bm_id (by omega) (by omega)).symm
  · rw [cnC_d e, cnZ_d e]
