/-! ===== about ===== -/
theorem rq_about {S : PS} {x mo K P R0 R1 R2 G : Nat} {p k : Int} {ν : Nat → Nat} {sk : List Sk} {A : Pt} {R : List Ru} {r1 r2 : Int32} (hG : GX S) (hx : At S x 11) (ct : CT S x mo) (hPN : PN S x) (tp : (pI S 1104 x).toInt = (pI S 1211 mo).toInt) (hd : ∀ K, pR S 1107 x = some K → pI S 801 K = pI S 1245 mo) (h : TX S x mo) (hw : TPw S x mo ν K sk) (hp : 0 ≤ p → p < (pI S 1104 x).toInt → PT1 S x mo ν p.toNat P R0 R1 R2 G A R)
    (a1 : PN S x → 0 ≤ p ∧ p < (pI S 1104 x).toInt → ∀ Q, mB S x 1103 p.toNat = some Q → r1.toInt = abF (EC S K P) (cA S A sk) R k) (a2 : PN S x → ¬ (0 ≤ p ∧ p < (pI S 1104 x).toInt) → r1.toInt = -1) (b1 : 0 ≤ p ∧ p < (pI S 1211 mo).toInt → r2.toInt = abF (ER S mo p.toNat) (cB S mo ν A sk) R k) (b2 : ¬ (0 ≤ p ∧ p < (pI S 1211 mo).toInt) → r2.toInt = -1) : r1.toInt = r2.toInt := by
  rw [← tp] at b1 b2
  by_cases c : 0 ≤ p ∧ p < (pI S 1104 x).toInt
  · have g := hp c.1 c.2
    have hE := reE (K := K) (P := P) (p := p.toNat) hG hx ct hw.1 (hd K hw.2.1) g.2.2.2.2.2.2.2.1 g.2.2.2.2.2.2.2.2.1 g.2.2.2.2.2.2.2.2.2
    have hR0 := ren_cc (sk := sk) hw.1 hw.2.2.2.1 h.1.1 g.2.2.1.2.2.2.2.2.2.2.2
    rw [a1 hPN c P g.1, b1 c, ren_ab hE hR0]
  · rw [a2 hPN c, b2 c]
