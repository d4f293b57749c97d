def txL : List Nat := [1105, 1000, 1003, 10013, 1227, 10753]
def BT (S : PS) (u mo : Nat) : Prop := ∀ j : Nat, (j : Int) < (pI S 1000 u).toInt → zA S u 1003 j = zA S mo 1227 j
def TX (S : PS) (x mo : Nat) : Prop := ∃ u, pR S 1105 x = some u ∧ At S u 10 ∧ BT S u mo
theorem BT_sh {S S' : PS} {u mo : Nat} (h1 : zA S' u 1003 = zA S u 1003) (h2 : zA S' mo 1227 = zA S mo 1227) (h3 : (pI S' 1000 u).toInt ≤ (pI S 1000 u).toInt) (h : BT S u mo) : BT S' u mo := fun j hj => by rw [h1, h2]; exact h j (by omega)
theorem TX_fr {M : List Nat} {S S' : PS} {x mo : Nat} (hG : GX S) (hF : Fr M S S') (hx : At S x 11) (hm : At S mo 12) (hM : txL.all (fun g => !M.contains g) = true) (h : TX S x mo) : TX S' x mo := by
  obtain ⟨u, u1, u2, u3⟩ := h
  exact ⟨u, hF.R' (allc hM (by decide)) hx u1, hF.at u2, BT_sh (zA_frc hF u2 (ex3 (gQ_10_1003 hG u2)) (allc hM (by decide)) (allc hM (by decide))) (zA_fr hF hm (ex3 (gQ_12_1227 hG hm)) (allc hM (by decide)) (allc hM (by decide))) (by rw [hF.I' (allc hM (by decide)) u2 rfl]; exact Int.le_refl _) u3⟩
theorem TX_0 {S : PS} {x mo u : Nat} (h1 : pR S 1105 x = some u) (h2 : At S u 10) (h0 : pI S 1000 u = 0) : TX S x mo := ⟨u, h1, h2, fun j hj => by
  rw [h0] at hj
  have e : (0 : Int32).toInt = 0 := by decide
  omega⟩
/-- the tape gets shorter -/
theorem TX_le {M : List Nat} {S S' : PS} {x mo u : Nat} (hG : GX S) (hF : Fr M S S') (hx : At S x 11) (hm : At S mo 12) (hM : ([1105, 1003, 10013, 1227, 10753] : List Nat).all (fun g => !M.contains g) = true) (hu : pR S 1105 x = some u) (hle : (pI S' 1000 u).toInt ≤ (pI S 1000 u).toInt) (h : TX S x mo) : TX S' x mo := by
  obtain ⟨v, u1, u2, u3⟩ := h
  rw [hu] at u1
  cases u1
  exact ⟨u, hF.R' (allc hM (by decide)) hx hu, hF.at u2, BT_sh (zA_frc hF u2 (ex3 (gQ_10_1003 hG u2)) (allc hM (by decide)) (allc hM (by decide))) (zA_fr hF hm (ex3 (gQ_12_1227 hG hm)) (allc hM (by decide)) (allc hM (by decide))) hle u3⟩
theorem TX_feed {S1 S2 S3 : PS} {x mo u : Nat} {s : Nat → Int} (hG1 : GX S1) (hG2 : GX S2) (hx : At S1 x 11) (hm : At S1 mo 12) (hF1 : Fr eAP S1 S2) (hF2 : Fr MT S2 S3) (hu : pR S1 1105 x = some u) (hsz : (pI S1 1000 u).toInt = (pI S1 1228 mo).toInt)
    (h1 : (pI S1 1000 u).toInt ≤ 380 → zA S2 u 1003 = fdP s (zA S1 u 1003) (pI S1 1000 u).toInt.toNat (4 * 5)) (h1' : 380 < (pI S1 1000 u).toInt → zA S2 u 1003 = zA S1 u 1003) (h2 : (pI S2 1228 mo).toInt ≤ 380 → zA S3 mo 1227 = fdP s (zA S2 mo 1227) (pI S2 1228 mo).toInt.toNat (4 * 5)) (h2' : 380 < (pI S2 1228 mo).toInt → zA S3 mo 1227 = zA S2 mo 1227)
    (h9 : (pI S1 1000 u).toInt ≤ 380 → (pI S3 1000 u).toInt = (pI S1 1000 u).toInt + 20) (h9' : 380 < (pI S1 1000 u).toInt → (pI S3 1000 u).toInt = (pI S1 1000 u).toInt) (h : TX S1 x mo) : TX S3 x mo := by
  obtain ⟨v, u1, u2, u3⟩ := h
  rw [hu] at u1
  cases u1
  have hx2 := hF1.at hx
  have hm2 := hF1.at hm
  have hu2 := hF1.at u2
  have e1 : zA S2 mo 1227 = zA S1 mo 1227 := zA_fr hF1 hm (ex3 (gQ_12_1227 hG1 hm)) (by decide +kernel) (by decide +kernel)
  have e2 : zA S3 u 1003 = zA S2 u 1003 := zA_frc hF2 hu2 (ex3 (gQ_10_1003 hG2 hu2)) (by decide +kernel) (by decide +kernel)
  have e3 : (pI S2 1228 mo).toInt = (pI S1 1228 mo).toInt := congrArg Int32.toInt (hF1.I' (by decide +kernel) hm rfl)
  have r2 : pR S3 1105 x = some u := hF2.R' (by decide +kernel) hx2 (hF1.R' (by decide +kernel) hx hu)
  refine ⟨u, r2, hF2.at hu2, fun j hj => ?_⟩
  have hz := gI_10_1000 hG1 u2
  rw [e2]
  rcases (show (pI S1 1000 u).toInt ≤ 380 ∨ 380 < (pI S1 1000 u).toInt by omega) with c | c
  · have q := h9 c
    rw [h1 c, h2 (by omega), e1, e3, ← hsz]
    exact fdP_congr (fun i hi => u3 i (by omega)) (by omega)
  · have q := h9' c
    rw [h1' c, h2' (by omega), e1]
    exact u3 j (by omega)
theorem tB_rB {S : PS} {x mo u : Nat} (hu : pR S 1105 x = some u) (hsz : (pI S 1000 u).toInt = (pI S 1228 mo).toInt) (h : TX S x mo) : tB S u = rB S mo := by
  obtain ⟨v, u1, u2, u3⟩ := h
  rw [hu] at u1
  cases u1
  funext i
  rw [tB_eq, rB_eq, ← hsz]
  split
  · rename_i hi
    have h := u3 i hi
    rw [zA_eq, zA_eq] at h
    exact h
  · rfl
theorem rq_prog {S1 S2 : PS} {M : List Nat} {x mo u : Nat} {p : Int} {r1 r2 : Int32} (hG : GX S1) (hm : At S1 mo 12) (hF : Fr M S1 S2) (hM : ([1228, 1227, 10753, 1211] : List Nat).all (fun g => !M.contains g) = true) (hu : pR S1 1105 x = some u) (hsz : (pI S1 1000 u).toInt = (pI S1 1228 mo).toInt) (hpt : (pI S1 1104 x).toInt = (pI S1 1211 mo).toInt) (h : TX S1 x mo) (a1 : 0 ≤ p ∧ p < (pI S1 1104 x).toInt → r1.toInt = prR (tB S1 u) (pI S1 1000 u).toInt.toNat) (a2 : ¬ (0 ≤ p ∧ p < (pI S1 1104 x).toInt) → r1.toInt = -1) (b1 : 0 ≤ p ∧ p < (pI S2 1211 mo).toInt → r2.toInt = prR (rB S2 mo) (pI S2 1228 mo).toInt.toNat) (b2 : ¬ (0 ≤ p ∧ p < (pI S2 1211 mo).toInt) → r2.toInt = -1) : r1.toInt = r2.toInt := by
  have e1 : pI S2 1211 mo = pI S1 1211 mo := hF.I' (allc hM (by decide)) hm rfl
  have e2 : pI S2 1228 mo = pI S1 1228 mo := hF.I' (allc hM (by decide)) hm rfl
  have e3 : rB S2 mo = rB S1 mo := by
    funext i
    rw [rB_eq, rB_eq, e2, mA_fr hF hm (ex3 (gQ_12_1227 hG hm)) (allc hM (by decide)) (allc hM (by decide))]
  rw [e1] at b1 b2
  by_cases c : 0 ≤ p ∧ p < (pI S1 1104 x).toInt
  · rw [a1 c, b1 (by omega), e3, e2, tB_rB hu hsz h, hsz]
  · rw [a2 c, b2 (by omega)]
