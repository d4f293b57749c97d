theorem test_list {S : PS} {x mo : Nat} {l : Int} (hG : GX S) (hx : At S x 11) (hl : 0 ≤ l ∧ l < (pI S 1102 x).toInt) (ct : CT S x mo) (sz : SZ S x mo) : flZ (IdC S x l) 60 = flZ (StR S mo l) (zA S mo 1202 l.toNat) := by
  obtain ⟨h1, h2⟩ := ct l.toNat (by omega)
  have zz : zA S x 1101 l.toNat = zA S mo 1202 l.toNat := by rw [zA_eq, zA_eq, h1]
  have h60 := il60 hG hx l.toNat
  unfold flZ
  rw [show (60 : Int).toNat = 60 from rfl, fl_cut (m := (zA S mo 1202 l.toNat).toNat) (n := 60) (by omega) (fun i hi hq => by
    obtain ⟨⟨q1, q2, q3, q4⟩, -⟩ := hq
    omega)]
  refine fl_eq (fun i hi => ?_)
  obtain ⟨c, k1, k2, k3⟩ := h2 i (by rw [← zA_eq]; omega)
  have hs := sz l.toNat i (by omega) (by omega) c k1
  have ei : (60 * l + (i : Int)).toNat = 60 * l.toNat + i := by omega
  constructor
  · rintro ⟨-, c', e1, e2⟩
    rw [ei, k1] at e1
    cases e1
    show zA S mo 1207 (60 * l + (i : Int)).toNat = 0
    rw [ei]
    exact z05_0 hs.symm (by rw [e2]; rfl)
  · intro e
    have e' : zA S mo 1207 (60 * l + (i : Int)).toNat = 0 := e
    rw [ei] at e'
    exact ⟨⟨by omega, by omega, by omega, by omega⟩, c, by rw [ei]; exact k1, Int32.toInt_inj.mp ((z05_0 hs e').trans (by decide))⟩
theorem test_br {S : PS} {x mo : Nat} {l : Int} (hG : GX S) (hx : At S x 11) (hl : 0 ≤ l ∧ l < (pI S 1102 x).toInt) (ct : CT S x mo) : BZ S x l = BR S mo l := by
  obtain ⟨h1, h2⟩ := ct l.toNat (by omega)
  have zz : zA S x 1101 l.toNat = zA S mo 1202 l.toNat := by rw [zA_eq, zA_eq, h1]
  have h60 := il60 hG hx l.toNat
  funext i
  refine bZ_eq ?_
  have key : ∀ c, 0 ≤ i → i < zA S mo 1202 l.toNat → mB S x 1100 (60 * l + i).toNat = some c → (brA (pI S 7 c) (pI S 9 c) (pI S 1 c) (pI S 2 c).toInt ↔ BrP S mo (60 * l + i) (lenZ S mo (60 * l + i))) := by
    intro c i0 i1 hc
    obtain ⟨c', k1, k2, k3⟩ := h2 i.toNat (by rw [← zA_eq]; omega)
    rw [show 60 * l.toNat + i.toNat = (60 * l + i).toNat by omega, hc] at k1
    cases k1
    obtain ⟨-, f1, f2, f7, -, f9⟩ := k3
    unfold BrP
    rw [f1, f2, f7, f9, lenZ_eq, show (60 * l + i) / 60 = l by omega, show (60 * l + i) % 60 = i by omega, show ((i.toNat : Nat) : Int) = i by omega]
  constructor
  · rintro ⟨⟨q1, q2, q3, q4⟩, c, e1, e2⟩
    exact ⟨⟨q3, by omega⟩, (key c q3 (by omega) e1).mp e2⟩
  · rintro ⟨⟨q3, q4⟩, e2⟩
    obtain ⟨c, k1, -, -⟩ := h2 i.toNat (by rw [← zA_eq]; omega)
    rw [show 60 * l.toNat + i.toNat = (60 * l + i).toNat by omega] at k1
    exact ⟨⟨hl.1, hl.2, q3, by omega⟩, c, k1, (key c q3 q4 k1).mpr e2⟩
theorem rq_test {S1 S2 : PS} {x mo : Nat} {l n : Int} {sd r r' : Int32} (hG1 : GX S1) (hx1 : At S1 x 11) (hG2 : GX S2) (hx2 : At S2 x 11) (hF : Fr eID S1 S2) (tl : (pI S2 1102 x).toInt = (pI S2 1201 mo).toInt) (ct : CT S2 x mo) (sz : SZ S2 x mo) (c1 : TsC S1 x l n → r.toInt = tsF (BZ S1 x l) n.toNat (flZ (IdC S1 x l) 60) sd) (c2 : ¬ TsC S1 x l n → r.toInt = -1) (d1 : TsR S2 mo l n → r'.toInt = tsF (BR S2 mo l) n.toNat (flZ (StR S2 mo l) (zA S2 mo 1202 l.toNat)) sd) (d2 : ¬ TsR S2 mo l n → r'.toInt = -1) : r.toInt = r'.toInt := by
  have eI : IdC S1 x l = IdC S2 x l := funext (fun i => propext (IdC_fr hG1 hx1 hF (by decide +kernel) (by decide +kernel)).symm)
  have eB : BZ S1 x l = BZ S2 x l := funext (fun i => bZ_eq (BrC_fr hG1 hx1 hF (by decide +kernel) (by decide +kernel)).symm)
  have el : pI S2 1102 x = pI S1 1102 x := hF.I' (by decide +kernel) hx1 rfl
  by_cases hl : 0 ≤ l ∧ l < (pI S2 1102 x).toInt
  · have eL := test_list hG2 hx2 hl ct sz
    rw [eI, eB, eL, test_br hG2 hx2 hl ct] at c1
    have hC : TsC S1 x l n ↔ TsR S2 mo l n := by
      unfold TsC TsR
      rw [eI, eL, ← el, tl]
    by_cases h : TsR S2 mo l n
    · rw [c1 (hC.mpr h), d1 h]
    · rw [c2 (fun z => h (hC.mp z)), d2 h]
  · rw [c2 (fun z => hl ⟨z.1, by rw [el]; exact z.2.1⟩), d2 (fun z => hl ⟨z.1, by have := z.2.1; omega⟩)]
