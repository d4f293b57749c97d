/-! ===== cocoon ===== -/
theorem sl_eq {S : PS} {x mo q : Nat} {l i : Int} (hG : GX S) (hx : At S x 11) (hm : At S mo 12) (ct : CT S x mo) (tl : (pI S 1102 x).toInt = (pI S 1201 mo).toInt) (th : mA S mo 1210 = thinF) (hc : InC S x l i) (c1 : mB S x 1100 (60 * l + i).toNat = some q) : ∀ n : Nat, (n : Int) ≤ lenZ S mo (60 * l + i) → slC (pI S 8 q) (pI S 2 q) 0 n = slZ S mo (60 * l + i) 0 n
  | 0, _ => rfl
  | n + 1, hn => by
    obtain ⟨i1, i2, i3, i4⟩ := hc
    have hmn := CT_many ct i1 i2
    have lg := lenZ_le hG hm (60 * l + i)
    show slC (pI S 8 q) (pI S 2 q) 0 n + fcI (pI S 8 q) (pI S 2 q) (Int32.ofInt (0 + (n : Int))) = slZ S mo (60 * l + i) 0 n + Int32.ofInt (fnZ S mo (60 * l + i) (0 + (n : Int)))
    rw [sl_eq hG hx hm ct tl th ⟨i1, i2, i3, i4⟩ c1 n (by omega)]
    have hz : (Int32.ofInt (0 + (n : Int))).toInt = 0 + (n : Int) := by
      rw [Int32.toInt_ofInt]
      exact bm_id (by omega) (by omega)
    have k : (fcI (pI S 8 q) (pI S 2 q) (Int32.ofInt (0 + (n : Int)))).toInt = fnZ S mo (60 * l + i) (0 + (n : Int)) := fc_fn hG hx ct tl th hz ⟨i1, by omega, i3, by omega, by omega, by omega⟩ ⟨q, c1, rfl⟩
    exact congrArg (fun y => slZ S mo (60 * l + i) 0 n + y) (oi_o k)
theorem rq_cocoon {S : PS} {x mo : Nat} {l i k : Int} {r1 r2 : Int32} (hG : GX S) (hx : At S x 11) (hm : At S mo 12) (ct : CT S x mo) (tl : (pI S 1102 x).toInt = (pI S 1201 mo).toInt) (th : mA S mo 1210 = thinF) (hMI : MI S mo) (h : TX S x mo) (a1 : ∀ q, InC S x l i → mB S x 1100 (60 * l + i).toNat = some q → r1.toInt = coF S q k) (a2 : CN S x → ¬ InC S x l i → r1.toInt = -1) (b1 : (0 ≤ l ∧ l < (pI S 1201 mo).toInt ∧ 0 ≤ i ∧ i < zA S mo 1202 l.toNat) → r2.toInt = coZ S mo (60 * l + i) k) (b2 : ¬ (0 ≤ l ∧ l < (pI S 1201 mo).toInt ∧ 0 ≤ i ∧ i < zA S mo 1202 l.toNat) → r2.toInt = -1) : r1.toInt = r2.toInt := by
  by_cases c : InC S x l i
  · obtain ⟨i1, i2, i3, i4⟩ := id c
    have bl := il60 hG hx l.toNat
    have hr := gI_11_1102 hG hx
    obtain ⟨q, c1, c2, c3, c4, c5, c6, c7, c8⟩ := CT_get ct i1 i2 i3 i4 (by omega)
    have hmn := CT_many ct i1 i2
    have hj : (60 * l + i).toNat = 60 * l.toNat + i.toNat := by omega
    have q3 : mB S x 1100 (60 * l.toNat + i.toNat) = some q := by rw [← hj]; exact c1
    have s7 : (pI S 3 q).toInt = zA S mo 1207 (60 * l.toNat + i.toNat) := h.1.1 l.toNat i.toNat (by omega) (by omega) q q3
    obtain ⟨ν, K, sk, hw⟩ := h.2.2
    have s8 : zA S mo 1208 (60 * l.toNat + i.toNat) = (pI S 4 q).toInt := hw.2.2.2.1 l.toNat i.toNat q (by omega) (by omega) q3
    obtain ⟨o1, o2⟩ := h.2.1.2 l.toNat i.toNat q (by omega) (by omega) q3
    have m1 := (MI_1 hMI (c := 60 * l + i) (by omega) (by omega)).2 (by omega)
    rw [← hj] at s7 s8 o1 o2
    obtain ⟨qa, g1, g2, -⟩ := gQ_12_1208 hG hm
    have g3 := gE_374 hG g2 (60 * l + i).toNat
    have g4 : zA S mo 1208 (60 * l + i).toNat = (pA S qa (60 * l + i).toNat).toInt := by rw [zA_eq, mA_eq g1]
    have sl := sl_eq hG hx hm ct tl th c c1
    have lg := lenZ_ge S mo (60 * l + i)
    rw [a1 q c c1, b1 ⟨i1, by omega, i3, by omega⟩]
    rcases (show k = 0 ∨ k = 1 ∨ k = 2 ∨ k = 3 ∨ k = 4 ∨ k = 5 ∨ k = 6 ∨ (k < 0 ∨ 6 < k) by omega) with e | e | e | e | e | e | e | e
    · rw [coF_0 e, coZ_0 e]; exact c5
    · rw [coF_1 e, coZ_1 e]; exact s7
    · rw [coF_2 e, coZ_2 e]; exact s8.symm
    · rw [coF_3 e, coZ_3 e]
      by_cases e4 : zA S mo 1207 (60 * l + i).toNat = 4
      · have e5 := o2 e4
        rw [if_pos e4]
        unfold fcI
        rw [if_neg (by omega)]
        rfl
      · have e5 := m1.2 e4 (by omega)
        rw [if_neg e4, s8]
        exact fc_fn hG hx ct tl th rfl ⟨i1, by omega, i3, by omega, by omega, by omega⟩ ⟨q, c1, rfl⟩
    · rw [coF_4 e, coZ_4 e, c5, sl _ (by omega)]
    · rw [coF_5 e, coZ_5 e, s8, sl _ (by omega)]
    · rw [coF_6 e, coZ_6 e, s7]
      by_cases e6 : 1 ≤ zA S mo 1207 (60 * l + i).toNat ∧ zA S mo 1207 (60 * l + i).toNat ≤ 3
      · rw [if_pos e6, if_pos e6]
        exact (o1 ⟨by omega, by omega⟩).symm
      · rw [if_neg e6, if_neg e6]
    · rw [coF_d e, coZ_d e]
  · rw [a2 (CN_of ct) c, b2 (fun z => c ⟨z.1, by omega, z.2.2.1, by have := CT_many ct z.1 (by omega); omega⟩)]
