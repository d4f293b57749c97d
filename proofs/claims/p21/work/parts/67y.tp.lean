def txLt : List Nat := [1105, 1000, 1003, 10013, 1227, 10753]
def BT (S : PS) (u mo : Nat) : Prop := ∀ j : Nat, (j : Int) < (pI S 1000 u).toInt → zA S u 1003 j = zA S mo 1227 j
def TXt (S : PS) (x mo : Nat) : Prop := ∃ u, pR S 1105 x = some u ∧ At S u 10 ∧ BT S u mo
theorem BT_sh {S S' : PS} {u mo : Nat} (h1 : zA S' u 1003 = zA S u 1003) (h2 : zA S' mo 1227 = zA S mo 1227) (h3 : (pI S' 1000 u).toInt ≤ (pI S 1000 u).toInt) (h : BT S u mo) : BT S' u mo := fun j hj => by rw [h1, h2]; exact h j (by omega)
theorem TXt_fr {M : List Nat} {S S' : PS} {x mo : Nat} (hG : GX S) (hF : Fr M S S') (hx : At S x 11) (hm : At S mo 12) (hM : txLt.all (fun g => !M.contains g) = true) (h : TXt S x mo) : TXt S' x mo := by
  obtain ⟨u, u1, u2, u3⟩ := h
  exact ⟨u, hF.R' (allc hM (by decide)) hx u1, hF.at u2, BT_sh (zA_frc hF u2 (ex3 (gQ_10_1003 hG u2)) (allc hM (by decide)) (allc hM (by decide))) (zA_fr hF hm (ex3 (gQ_12_1227 hG hm)) (allc hM (by decide)) (allc hM (by decide))) (by rw [hF.I' (allc hM (by decide)) u2 rfl]; exact Int.le_refl _) u3⟩
theorem TXt_0 {S : PS} {x mo u : Nat} (h1 : pR S 1105 x = some u) (h2 : At S u 10) (h0 : pI S 1000 u = 0) : TXt S x mo := ⟨u, h1, h2, fun j hj => by
  rw [h0] at hj
  have e : (0 : Int32).toInt = 0 := by decide
  omega⟩
/-- the tape gets shorter -/
theorem TXt_le {M : List Nat} {S S' : PS} {x mo u : Nat} (hG : GX S) (hF : Fr M S S') (hx : At S x 11) (hm : At S mo 12) (hM : ([1105, 1003, 10013, 1227, 10753] : List Nat).all (fun g => !M.contains g) = true) (hu : pR S 1105 x = some u) (hle : (pI S' 1000 u).toInt ≤ (pI S 1000 u).toInt) (h : TXt S x mo) : TXt S' x mo := by
  obtain ⟨v, u1, u2, u3⟩ := h
  rw [hu] at u1
  cases u1
  exact ⟨u, hF.R' (allc hM (by decide)) hx hu, hF.at u2, BT_sh (zA_frc hF u2 (ex3 (gQ_10_1003 hG u2)) (allc hM (by decide)) (allc hM (by decide))) (zA_fr hF hm (ex3 (gQ_12_1227 hG hm)) (allc hM (by decide)) (allc hM (by decide))) hle u3⟩
theorem TXt_feed {S1 S2 S3 : PS} {x mo u : Nat} {s : Nat → Int} (hG1 : GX S1) (hG2 : GX S2) (hx : At S1 x 11) (hm : At S1 mo 12) (hF1 : Fr eAP S1 S2) (hF2 : Fr MT S2 S3) (hu : pR S1 1105 x = some u) (hsz : (pI S1 1000 u).toInt = (pI S1 1228 mo).toInt)
    (h1 : (pI S1 1000 u).toInt ≤ 380 → zA S2 u 1003 = fdP s (zA S1 u 1003) (pI S1 1000 u).toInt.toNat (4 * 5)) (h1' : 380 < (pI S1 1000 u).toInt → zA S2 u 1003 = zA S1 u 1003) (h2 : (pI S2 1228 mo).toInt ≤ 380 → zA S3 mo 1227 = fdP s (zA S2 mo 1227) (pI S2 1228 mo).toInt.toNat (4 * 5)) (h2' : 380 < (pI S2 1228 mo).toInt → zA S3 mo 1227 = zA S2 mo 1227)
    (h9 : (pI S1 1000 u).toInt ≤ 380 → (pI S3 1000 u).toInt = (pI S1 1000 u).toInt + 20) (h9' : 380 < (pI S1 1000 u).toInt → (pI S3 1000 u).toInt = (pI S1 1000 u).toInt) (h : TXt S1 x mo) : TXt S3 x mo := by
  obtain ⟨v, u1, u2, u3⟩ := h
  rw [hu] at u1
  cases u1
  have hx2 := hF1.at hx
  have hm2 := hF1.at hm
  have hu2 := hF1.at u2
  have e1 : zA S2 mo 1227 = zA S1 mo 1227 := zA_fr hF1 hm (ex3 (gQ_12_1227 hG1 hm)) (by decide +kernel) (by decide +kernel)
  have e2 : zA S3 u 1003 = zA S2 u 1003 := zA_frc hF2 hu2 (ex3 (gQ_10_1003 hG2 hu2)) (by decide +kernel) (by decide +kernel)
  have e3 : (pI S2 1228 mo).toInt = (pI S1 1228 mo).toInt := congrArg Int32.toInt (hF1.I' (by decide +kernel) hm rfl)
  have r2 : pR S3 1105 x = some u := hF2.R' (by decide +kernel) hx2 (hF1.R' (by decide +kernel) hx hu)
  refine ⟨u, r2, hF2.at hu2, fun j hj => ?_⟩
  have hz := gI_10_1000 hG1 u2
  rw [e2]
  rcases (show (pI S1 1000 u).toInt ≤ 380 ∨ 380 < (pI S1 1000 u).toInt by omega) with c | c
  · have q := h9 c
    rw [h1 c, h2 (by omega), e1, e3, ← hsz]
    exact fdP_congr (fun i hi => u3 i (by omega)) (by omega)
  · have q := h9' c
    rw [h1' c, h2' (by omega), e1]
    exact u3 j (by omega)
theorem tB_rB {S : PS} {x mo u : Nat} (hu : pR S 1105 x = some u) (hsz : (pI S 1000 u).toInt = (pI S 1228 mo).toInt) (h : TXt S x mo) : tB S u = rB S mo := by
  obtain ⟨v, u1, u2, u3⟩ := h
  rw [hu] at u1
  cases u1
  funext i
  rw [tB_eq, rB_eq, ← hsz]
  split
  · rename_i hi
    have h := u3 i hi
    rw [zA_eq, zA_eq] at h
    exact h
  · rfl
theorem rq_prog {S1 S2 : PS} {M : List Nat} {x mo u : Nat} {p : Int} {r1 r2 : Int32} (hG : GX S1) (hm : At S1 mo 12) (hF : Fr M S1 S2) (hM : ([1228, 1227, 10753, 1211] : List Nat).all (fun g => !M.contains g) = true) (hu : pR S1 1105 x = some u) (hsz : (pI S1 1000 u).toInt = (pI S1 1228 mo).toInt) (hpt : (pI S1 1104 x).toInt = (pI S1 1211 mo).toInt) (h : TXt S1 x mo) (a1 : 0 ≤ p ∧ p < (pI S1 1104 x).toInt → r1.toInt = prR (tB S1 u) (pI S1 1000 u).toInt.toNat) (a2 : ¬ (0 ≤ p ∧ p < (pI S1 1104 x).toInt) → r1.toInt = -1) (b1 : 0 ≤ p ∧ p < (pI S2 1211 mo).toInt → r2.toInt = prR (rB S2 mo) (pI S2 1228 mo).toInt.toNat) (b2 : ¬ (0 ≤ p ∧ p < (pI S2 1211 mo).toInt) → r2.toInt = -1) : r1.toInt = r2.toInt := by
  have e1 : pI S2 1211 mo = pI S1 1211 mo := hF.I' (allc hM (by decide)) hm rfl
  have e2 : pI S2 1228 mo = pI S1 1228 mo := hF.I' (allc hM (by decide)) hm rfl
  have e3 : rB S2 mo = rB S1 mo := by
    funext i
    rw [rB_eq, rB_eq, e2, mA_fr hF hm (ex3 (gQ_12_1227 hG hm)) (allc hM (by decide)) (allc hM (by decide))]
  rw [e1] at b1 b2
  by_cases c : 0 ≤ p ∧ p < (pI S1 1104 x).toInt
  · rw [a1 c, b1 (by omega), e3, e2, tB_rB hu hsz h, hsz]
  · rw [a2 c, b2 (by omega)]
theorem wit_E {M : List Nat} {S T : PS} {x mo : Nat} {p : Int} (hG : GX S) (hx : At S x 11) (hm : At S mo 12) (hF : Fr M S T) (h11 : M.contains 1211 = false) (hM2 : enL.all (fun g => !M.contains g) = true) (th : mA S mo 1210 = thinF) (tp : (pI S 1104 x).toInt = (pI S 1211 mo).toInt) : 0 ≤ p → p < (pI T 1211 mo).toInt → EnR T mo p (ER S mo p.toNat) := fun h0 h1 => by
  rw [hF.I' (g := 1211) h11 hm rfl] at h1
  have b := gI_11_1104 hG hx
  have hE := ER_is (p := p.toNat) hG hm th (by omega)
  rw [Int.toNat_of_nonneg h0] at hE
  exact EnR_fr hG hm hF hM2 hE
/-! ===== all ties of a run's claim ===== -/
def TX (S : PS) (x mo : Nat) : Prop := TXs S x mo ∧ TXt S x mo ∧ TP S x mo
def txL : List Nat := txLs ++ txLt ++ tpL
theorem TX_fr {M : List Nat} {S S' : PS} {x mo : Nat} (hG : GX S) (hF : Fr M S S') (hx : At S x 11) (hm : At S mo 12) (hM : txL.all (fun g => !M.contains g) = true) (h : TX S x mo) : TX S' x mo := ⟨TXs_fr hG hF hx hm (sub_all hM (by decide +kernel)) h.1, TXt_fr hG hF hx hm (sub_all hM (by decide +kernel)) h.2.1, TP_fr hG hx hm hF (sub_all hM (by decide +kernel)) h.2.2⟩
theorem TP_0 {S : PS} {x mo K rh : Nat} (h2 : pI S 1102 x = 0) (h4 : pI S 1104 x = 0) (hK : pR S 1107 x = some K) (h8 : pI S 800 K = 0) (h38 : pI S 1238 mo = 0) (hz : ∀ g, g ∈ in0 → ∀ i, zA S mo g i = 0) (hr : pR S 1106 x = some rh) (hd : RuD S rh) (hE : ExT S x K mo) : TP S x mo := by
  have e0 : (0 : Int32).toInt = 0 := by decide
  have n2 : ∀ l : Nat, ¬ (l : Int) < (pI S 1102 x).toInt := fun l z => by rw [h2, e0] at z; omega
  have n4 : ∀ l : Nat, ¬ (l : Int) < (pI S 1104 x).toInt := fun l z => by rw [h4, e0] at z; omega
  refine ⟨fun c => c, K, [], fun l i c z => absurd z (n2 l), hK, ⟨⟨by rw [h8]; rfl, fun k s hk => by cases hk⟩, ⟨by rw [h38]; rfl, fun k s hk => by cases hk⟩, hE⟩, fun l i c z => absurd z (n2 l), fun p hp => absurd hp (n4 p), fun p _ _ => ⟨fun k _ => hz 1219 (by decide) _, fun g hg => hz g ?_ p⟩, fun p q P Q z => absurd z (n4 p), rh, hr, hd, fun p P ρ z => absurd z (n4 p)⟩
  simp only [peG, List.mem_cons, List.not_mem_nil, or_false] at hg
  rcases hg with e | e | e | e | e | e <;> subst e <;> decide
theorem TX_0 {S : PS} {x mo sh u K rh : Nat} (h2 : pI S 1102 x = 0) (h4 : pI S 1104 x = 0) (hs : pR S 1109 x = some sh) (hi : ShI S sh 16) (h5 : ∀ i, zA S mo 1253 i = 0) (hu : pR S 1105 x = some u) (hu2 : At S u 10) (hu0 : pI S 1000 u = 0) (hK : pR S 1107 x = some K) (h8 : pI S 800 K = 0) (h38 : pI S 1238 mo = 0) (hz : ∀ g, g ∈ in0 → ∀ i, zA S mo g i = 0) (hr : pR S 1106 x = some rh) (hd : RuD S rh) (hE : ExT S x K mo) : TX S x mo := ⟨TXs_0 h2 h4 hs hi h5, TXt_0 hu hu2 hu0, TP_0 h2 h4 hK h8 h38 hz hr hd hE⟩
theorem TXs_of {M1 M2 : List Nat} {S1 S2 S3 : PS} {x mo : Nat} (hG1 : GX S1) (hG2 : GX S2) (hx : At S1 x 11) (hm : At S1 mo 12) (hF1 : Fr M1 S1 S2) (hF2 : Fr M2 S2 S3) (hM1 : (stL ++ [1109, 10017]).all (fun g => !M1.contains g) = true) (hM2 : (stL ++ [1109, 10017]).all (fun g => !M2.contains g) = true) (hS : SZ S3 x mo) (h : TXs S1 x mo) : TXs S3 x mo := ⟨hS, fun _ _ => trivial, ST_fr hG2 (hF1.at hx) (hF1.at hm) hF2 (sub_all hM2 (by decide +kernel)) (ST_fr hG1 hx hm hF1 (sub_all hM1 (by decide +kernel)) h.2.2.1), SD_fr hG2 (hF1.at hx) hF2 (sub_all hM2 (by decide +kernel)) (SD_fr hG1 hx hF1 (sub_all hM1 (by decide +kernel)) h.2.2.2)⟩
theorem sp_D {S : PS} {x mo : Nat} (h : TX S x mo) : ∀ q, pR S 1106 x = some q → RuD S q := fun q hq => by
  obtain ⟨-, -, ν, K, sk, -, -, -, -, -, -, -, rh, o2, o3, -⟩ := h
  rw [hq] at o2
  cases o2
  exact o3
theorem dc_in {S : PS} {x : Nat} : ∀ l j c, InC S x l j → mB S x 1100 (60 * l + j).toNat = some c → DC S x c := fun l j c ⟨h1, h2, h3, h4⟩ hc => ⟨l.toNat, j.toNat, by omega, by omega, by rw [show 60 * l.toNat + j.toNat = (60 * l + j).toNat by omega]; exact hc⟩
theorem TX_run {S1 S2 S3 : PS} {x mo K P R0 R1 R2 G : Nat} {p n : Int} {ν : Nat → Nat} {sk : List Sk} {A : Pt} {R : List Ru} {r1 r2 : Int32} (hG1 : GX S1) (hG2 : GX S2) (hx : At S1 x 11) (hm : At S1 mo 12) (hF1 : Fr eTI S1 S2) (hF2 : Fr MTK S2 S3) (ct : CT S1 x mo) (hPN : PN S1 x) (tp : (pI S1 1104 x).toInt = (pI S1 1211 mo).toInt) (hd : ∀ K, pR S1 1107 x = some K → pI S1 801 K = pI S1 1245 mo) (hw : TPw S1 x mo ν K sk) (hp : 0 ≤ p → p < (pI S1 1104 x).toInt → PT1 S1 x mo ν p.toNat P R0 R1 R2 G A R)
    (ha1 : PN S1 x → RunC S1 x p n → ∀ Q, mB S1 x 1103 p.toNat = some Q → PotV S2 (DC S1 x) Q R0 R1 R2 G K (runF (EC S1 K P) R n.toNat (cA S1 A sk)).1 ∧ PotX S1 S2 Q R0 R1 R2 G ∧ r1.toInt = (runF (EC S1 K P) R n.toNat (cA S1 A sk)).2) (ha2 : ¬ RunC S1 x p n → S2 = S1 ∧ r1.toInt = -1)
    (hb1 : 0 ≤ p ∧ p < (pI S2 1211 mo).toInt ∧ 0 ≤ n ∧ n ≤ 300 → r2.toInt = (runF (ER S1 mo p.toNat) R n.toNat (cB S1 mo ν A sk)).2 ∧ PotW S3 mo p (runF (ER S1 mo p.toNat) R n.toNat (cB S1 mo ν A sk)).1 ∧ PwX S2 S3 mo p) (hb2 : ¬ (0 ≤ p ∧ p < (pI S2 1211 mo).toInt ∧ 0 ≤ n ∧ n ≤ 300) → r2.toInt = -1 ∧ S3 = sI S2 1200 mo 0) (h : TX S1 x mo) : TX S3 x mo ∧ r1.toInt = r2.toInt := by
  obtain ⟨⟨t1, t2⟩, t3⟩ := TP_run hG1 hG2 hx hm hF1 hF2 ct hPN tp hd h.1.1 hw hp ha1 ha2 hb1 hb2
  exact ⟨⟨TXs_of hG1 hG2 hx hm hF1 hF2 (by decide +kernel) (by decide +kernel) t2 h.1, TXt_fr hG2 hF2 (hF1.at hx) (hF1.at hm) (by decide +kernel) (TXt_fr hG1 hF1 hx hm (by decide +kernel) h.2.1), t1⟩, t3⟩
theorem TX_cut {S1 S2 S3 : PS} {x mo K P R0 R1 R2 G : Nat} {p : Int} {ν : Nat → Nat} {sk : List Sk} {A : Pt} {R : List Ru} {r1 r2 : Int32} (hG1 : GX S1) (hG2 : GX S2) (hx : At S1 x 11) (hm : At S1 mo 12) (hF1 : Fr eCU S1 S2) (hF2 : Fr MCU S2 S3) (ct : CT S1 x mo) (hPN : PN S1 x) (tp : (pI S1 1104 x).toInt = (pI S1 1211 mo).toInt) (hd : ∀ K, pR S1 1107 x = some K → pI S1 801 K = pI S1 1245 mo) (hw : TPw S1 x mo ν K sk) (hp : 0 ≤ p → p < (pI S1 1104 x).toInt → PT1 S1 x mo ν p.toNat P R0 R1 R2 G A R)
    (ha1 : PN S1 x → 0 ≤ p ∧ p < (pI S1 1104 x).toInt → ∀ Q, mB S1 x 1103 p.toNat = some Q → PotV S2 (DC S1 x) Q R0 R1 R2 G K (cutF (EC S1 K P) (cA S1 A sk)) ∧ PotX S1 S2 Q R0 R1 R2 G ∧ r1.toInt = cutR (cA S1 A sk)) (ha2 : PN S1 x → ¬ (0 ≤ p ∧ p < (pI S1 1104 x).toInt) → S2 = S1 ∧ r1.toInt = -1)
    (hb1 : 0 ≤ p ∧ p < (pI S2 1211 mo).toInt → PotW S3 mo p (cutF (ER S1 mo p.toNat) (cB S1 mo ν A sk)) ∧ r2.toInt = cutR (cB S1 mo ν A sk) ∧ PwX S2 S3 mo p) (hb2 : ¬ (0 ≤ p ∧ p < (pI S2 1211 mo).toInt) → r2.toInt = -1 ∧ S3 = sI S2 1200 mo 0) (h : TX S1 x mo) : TX S3 x mo ∧ r1.toInt = r2.toInt := by
  obtain ⟨⟨t1, t2⟩, t3⟩ := TP_cut hG1 hG2 hx hm hF1 hF2 ct hPN tp hd h.1.1 hw hp ha1 ha2 hb1 hb2
  exact ⟨⟨TXs_of hG1 hG2 hx hm hF1 hF2 (by decide +kernel) (by decide +kernel) t2 h.1, TXt_fr hG2 hF2 (hF1.at hx) (hF1.at hm) (by decide +kernel) (TXt_fr hG1 hF1 hx hm (by decide +kernel) h.2.1), t1⟩, t3⟩
theorem TX_fill {S1 S2 S3 : PS} {x mo K P R0 R1 R2 G : Nat} {p l f n : Int} {ν : Nat → Nat} {sk : List Sk} {A : Pt} {R : List Ru} {r1 r2 : Int32} {X3 : Nat → Prop} {Y1 Y2 : Prop} (hG1 : GX S1) (hG2 : GX S2) (hx : At S1 x 11) (hm : At S1 mo 12) (hF1 : Fr eRC S1 S2) (hF2 : Fr MFI S2 S3) (ct : CT S1 x mo) (hPN : PN S1 x) (tl : (pI S1 1102 x).toInt = (pI S1 1201 mo).toInt) (tp : (pI S1 1104 x).toInt = (pI S1 1211 mo).toInt) (hw : TPw S1 x mo ν K sk) (hp : 0 ≤ p → p < (pI S1 1104 x).toInt → PT1 S1 x mo ν p.toNat P R0 R1 R2 G A R)
    (ha : ((FilC S1 x p l f n ∧ ∀ Q, mB S1 x 1103 p.toNat = some Q → PotV S2 (DC S1 x) Q R0 R1 R2 G K (filF (cA S1 A sk) (cocL S1 x l f n.toNat)) ∧ PotX S1 S2 Q R0 R1 R2 G ∧ X3 Q) ∧ r1 = 1) ∨ (((PN S1 x → ¬ FilC S1 x p l f n) ∧ S2 = S1) ∧ r1 = 0))
    (hb : ((MI S3 mo ∧ FilR S2 mo p l f n ∧ Y1 ∧ PotW S3 mo p (filF (cB S1 mo ν A sk) (nuL l f n.toNat)) ∧ PwX S2 S3 mo p) ∧ r2 = 1) ∨ ((MI S3 mo ∧ ¬ FilR S2 mo p l f n ∧ Y2 ∧ S3 = sI S2 1200 mo 0) ∧ r2 = 0)) (h : TX S1 x mo) : TX S3 x mo ∧ r1 = r2 := by
  obtain ⟨⟨t1, t2⟩, t3⟩ := TP_fill (r1 := r1) (r2 := r2) hG1 hG2 hx hm hF1 hF2 ct hPN tl tp h.1.1 hw hp (by
    rcases ha with ⟨⟨a1, a2⟩, a3⟩ | a
    · exact Or.inl ⟨⟨a1, fun Q hQ => ⟨(a2 Q hQ).1, (a2 Q hQ).2.1⟩⟩, a3⟩
    · exact Or.inr a) (by
    rcases hb with ⟨⟨-, b1, -, b2⟩, b3⟩ | ⟨⟨-, b1, -, b2⟩, b3⟩
    · exact Or.inl ⟨⟨b1, b2⟩, b3⟩
    · exact Or.inr ⟨⟨b1, b2⟩, b3⟩)
  exact ⟨⟨TXs_of hG1 hG2 hx hm hF1 hF2 (by decide +kernel) (by decide +kernel) t2 h.1, TXt_fr hG2 hF2 (hF1.at hx) (hF1.at hm) (by decide +kernel) (TXt_fr hG1 hF1 hx hm (by decide +kernel) h.2.1), t1⟩, t3⟩
theorem TX_lot {S1 S2 S3 : PS} {x mo : Nat} {a1 a2 a3 a4 a5 : Int32} {a1_z : Int} (hG1 : GX S1) (hG2 : GX S2) (hx : At S1 x 11) (hm : At S1 mo 12) (hF1 : Fr MLt S1 S2) (hF2 : Fr M12t S2 S3) (hMI : MI S1 mo) (hl : (pI S1 1102 x).toInt = (pI S1 1201 mo).toInt) (h9 : (pI S2 1102 x).toInt = (pI S1 1102 x).toInt + 1) (hz : a1.toInt = a1_z) (hn : a1_z ≤ 60) (hlt : (pI S1 1102 x).toInt < 10)
    (hN : ∀ ca lz, pR S1 1100 x = some ca → pR S1 1101 x = some lz → NewC S1 S2 ca (60 * (pI S1 1102 x).toInt) a1_z (pI S1 1102 x) a2 a3 a4 a5 ∧ pA S2 lz = upd (pA S1 lz) (Int32.toNatClampNeg (pI S1 1102 x)) a1) (h : TX S1 x mo) : TX S3 x mo := ⟨TXs_lot hG1 hG2 hx hm hF1 hF2 hMI hl h9 hz hn hlt hN h.1, TXt_fr hG2 hF2 (hF1.at hx) (hF1.at hm) (by decide +kernel) (TXt_fr hG1 hF1 hx hm (by decide +kernel) h.2.1), TP_lot hG1 hG2 hx hm hF1 hF2 hMI hl h9 hz hn hlt hN h.2.2⟩
theorem TX_pot {S1 S2 S3 : PS} {x mo P P' : Nat} {a1 a2 : Int32} (hG1 : GX S1) (hG2 : GX S2) (hx : At S1 x 11) (hm : At S1 mo 12) (hF1 : Fr ePT S1 S2) (hF2 : Fr MP S2 S3) (tp : (pI S1 1104 x).toInt = (pI S1 1211 mo).toInt) (h4' : (pI S1 1104 x).toInt < 4) (hf : 1 ≤ a2.toInt) (h9 : (pI S2 1104 x).toInt = (pI S1 1104 x).toInt + 1) (hP : P ∉ pL S1) (hB : ∀ j, mB S2 x 1103 j = if j = (pI S1 1104 x).toInt.toNat then some P else mB S1 x 1103 j) (hN : PotN S1 S2 P (pI S1 1104 x) a1 a2) (hB' : ∀ j, mB S2 x 1103 j = if j = (pI S1 1104 x).toInt.toNat then some P' else mB S1 x 1103 j) (hP' : At S2 P' 4) (r0 : RowE S2 P' 400) (r1 : RowE S2 P' 401) (r2 : RowE S2 P' 402) (e12 : ∀ j, zA S3 mo 1212 j = if j = (pI S2 1211 mo).toInt.toNat then a1.toInt else zA S2 mo 1212 j) (e13 : ∀ j, zA S3 mo 1213 j = if j = (pI S2 1211 mo).toInt.toNat then a2.toInt else zA S2 mo 1213 j) (h : TX S1 x mo) : TX S3 x mo := ⟨TXs_fr hG2 hF2 (hF1.at hx) (hF1.at hm) (by decide +kernel) (TXs_pot hG1 hG2 hx hm hF1 h9 hB' hP' r0 r1 r2 h.1), TXt_fr hG2 hF2 (hF1.at hx) (hF1.at hm) (by decide +kernel) (TXt_fr hG1 hF1 hx hm (by decide +kernel) h.2.1), TP_pot hG1 hG2 hx hm hF1 hF2 tp h4' hf h9 hP hB hN e12 e13 h.2.2⟩
theorem TX_target {S1 S2 S3 : PS} {x mo : Nat} {p v : Int} {a : Int32} {r1 r2 : Int32} (hG1 : GX S1) (hG2 : GX S2) (hx : At S1 x 11) (hm : At S1 mo 12) (hF1 : Fr eTG S1 S2) (hF2 : Fr Mtg S2 S3) (hPN : PN S1 x) (tp : (pI S1 1104 x).toInt = (pI S1 1211 mo).toInt) (hv : a.toInt = v)
    (ha : (((0 ≤ p ∧ p < (pI S1 1104 x).toInt ∧ 10 ≤ v ∧ v ≤ 2000) ∧ ∀ P, mB S1 x 1103 p.toNat = some P → S2 = sI S1 404 P a) ∧ r1 = 1) ∨ (((PN S1 x → ¬ (0 ≤ p ∧ p < (pI S1 1104 x).toInt ∧ 10 ≤ v ∧ v ≤ 2000)) ∧ S2 = S1) ∧ r1 = 0)) (hb : (((0 ≤ p ∧ p < (pI S2 1211 mo).toInt ∧ 10 ≤ v ∧ v ≤ 2000) ∧ ∀ j, zA S3 mo 1212 j = if j = p.toNat then v else zA S2 mo 1212 j) ∧ r2 = 1) ∨ ((¬ (0 ≤ p ∧ p < (pI S2 1211 mo).toInt ∧ 10 ≤ v ∧ v ≤ 2000) ∧ S3 = sI S2 1200 mo 0) ∧ r2 = 0)) (h : TX S1 x mo) : TX S3 x mo := by
  have e11 : pI S2 1211 mo = pI S1 1211 mo := hF1.I' (by decide +kernel) hm rfl
  rw [e11, ← tp] at hb
  rcases ha with ⟨⟨a1, a2⟩, -⟩ | ⟨⟨a1, a2⟩, -⟩ <;> rcases hb with ⟨⟨b1, b2⟩, -⟩ | ⟨⟨b1, b2⟩, -⟩
  · obtain ⟨-, -, ν, K, sk, hw⟩ := id h
    obtain ⟨P, R0, R1, R2, G, A, R, hp⟩ := hw.2.2.2.2.1 p.toNat (by omega)
    refine ⟨TXs_fr hG2 hF2 (hF1.at hx) (hF1.at hm) (by decide +kernel) (TXs_fr hG1 hF1 hx hm (by decide +kernel) h.1), TXt_fr hG2 hF2 (hF1.at hx) (hF1.at hm) (by decide +kernel) (TXt_fr hG1 hF1 hx hm (by decide +kernel) h.2.1), TP_target hG1 hG2 hx hm hF2 a1.1 a1.2.1 hp.1 (a2 P hp.1) (fun j => by rw [b2 j, hv]) h.2.2⟩
  · exact absurd a1 b1
  · exact absurd b1 (a1 hPN)
  · subst a2
    exact TX_fr (M := [1200]) hG1 (by rw [b2]; exact Fr_sI (by decide)) hx hm (by decide +kernel) h
theorem TX_shelve {S1 S2 S3 : PS} {x mo : Nat} {p k : Int} {a b : Int32} {az bz : Int} {r1 r2 : Int32} (hG1 : GX S1) (hG2 : GX S2) (hx : At S1 x 11) (hm : At S1 mo 12) (hF1 : Fr eSH S1 S2) (hF2 : Fr MSH S2 S3) (hc : CT S1 x mo) (hl : (pI S1 1102 x).toInt = (pI S1 1201 mo).toInt) (hz : a.toInt = az)
    (ha : ((∃ P, (0 ≤ p ∧ p ≤ 15) ∧ mB S1 x 1109 p.toNat = some P ∧ (pI S1 300 P).toInt = -1 ∧ ShE S1 S2 x P k a az b bz) ∧ r1 = 1) ∨ ((S2 = S1 ∧ ∀ P, 0 ≤ p → p ≤ 15 → mB S1 x 1109 p.toNat = some P → ¬ ((pI S1 300 P).toInt = -1 ∧ ShC S1 x k az bz)) ∧ r1 = 0)) (hb : ((MI S3 mo ∧ ShR S2 mo p k az bz ∧ SE S2 S3 mo p k az bz) ∧ r2 = 1) ∨ ((MI S3 mo ∧ ¬ ShR S2 mo p k az bz ∧ zA S3 mo 1207 = zA S2 mo 1207 ∧ zA S3 mo 1253 = zA S2 mo 1253 ∧ zA S3 mo 1254 = zA S2 mo 1254 ∧ zA S3 mo 1255 = zA S2 mo 1255 ∧ zA S3 mo 1256 = zA S2 mo 1256) ∧ r2 = 0)) (h : TX S1 x mo) : TX S3 x mo ∧ r1 = r2 := by
  obtain ⟨t1, t2⟩ := TXs_shelve (r1 := r1) (r2 := r2) hG1 hG2 hx hm hF1 hF2 hc hl hz ha hb h.1
  exact ⟨⟨t1, TXt_fr hG2 hF2 (hF1.at hx) (hF1.at hm) (by decide +kernel) (TXt_fr hG1 hF1 hx hm (by decide +kernel) h.2.1), TP_fr hG2 (hF1.at hx) (hF1.at hm) hF2 (by decide +kernel) (TP_fr hG1 hx hm hF1 (by decide +kernel) h.2.2)⟩, t2⟩
theorem TX_take {S1 S2 S3 : PS} {x mo : Nat} {p k r1 r2 : Int} (hG1 : GX S1) (hG2 : GX S2) (hx : At S1 x 11) (hm : At S1 mo 12) (hF1 : Fr eTA S1 S2) (hF2 : Fr MTA S2 S3) (hc : CT S1 x mo) (hl : (pI S1 1102 x).toInt = (pI S1 1201 mo).toInt) (hMI : MI S1 mo)
    (ha1 : ¬ (0 ≤ p ∧ p ≤ 15 ∧ 0 ≤ k ∧ k ≤ 2) → r1 = -1 ∧ S2 = S1) (ha2 : 0 ≤ p ∧ p ≤ 15 ∧ 0 ≤ k ∧ k ≤ 2 → ∀ P, mB S1 x 1109 p.toNat = some P → TkO S1 S2 x P k r1)
    (hb1 : ¬ (0 ≤ p ∧ p ≤ 15 ∧ 0 ≤ k ∧ k ≤ 2) → r2 = -1 ∧ zA S3 mo 1207 = zA S2 mo 1207 ∧ zA S3 mo 1253 = zA S2 mo 1253) (hb2 : 0 ≤ p ∧ p ≤ 15 ∧ 0 ≤ k ∧ k ≤ 2 → TkR S2 S3 mo p k r2) (h : TX S1 x mo) : TX S3 x mo := ⟨TXs_take hG1 hG2 hx hm hF1 hF2 hc hl hMI ha1 ha2 hb1 hb2 h.1, TXt_fr hG2 hF2 (hF1.at hx) (hF1.at hm) (by decide +kernel) (TXt_fr hG1 hF1 hx hm (by decide +kernel) h.2.1), TP_fr hG2 (hF1.at hx) (hF1.at hm) hF2 (by decide +kernel) (TP_fr hG1 hx hm hF1 (by decide +kernel) h.2.2)⟩
theorem TX_feed {S1 S2 S3 : PS} {x mo u : Nat} {s : Nat → Int} (hG1 : GX S1) (hG2 : GX S2) (hx : At S1 x 11) (hm : At S1 mo 12) (hF1 : Fr eAP S1 S2) (hF2 : Fr MT S2 S3) (hu : pR S1 1105 x = some u) (hsz : (pI S1 1000 u).toInt = (pI S1 1228 mo).toInt)
    (h1 : (pI S1 1000 u).toInt ≤ 380 → zA S2 u 1003 = fdP s (zA S1 u 1003) (pI S1 1000 u).toInt.toNat (4 * 5)) (h1' : 380 < (pI S1 1000 u).toInt → zA S2 u 1003 = zA S1 u 1003) (h2 : (pI S2 1228 mo).toInt ≤ 380 → zA S3 mo 1227 = fdP s (zA S2 mo 1227) (pI S2 1228 mo).toInt.toNat (4 * 5)) (h2' : 380 < (pI S2 1228 mo).toInt → zA S3 mo 1227 = zA S2 mo 1227)
    (h9 : (pI S1 1000 u).toInt ≤ 380 → (pI S3 1000 u).toInt = (pI S1 1000 u).toInt + 20) (h9' : 380 < (pI S1 1000 u).toInt → (pI S3 1000 u).toInt = (pI S1 1000 u).toInt) (h : TX S1 x mo) : TX S3 x mo := ⟨TXs_fr hG2 hF2 (hF1.at hx) (hF1.at hm) (by decide +kernel) (TXs_fr hG1 hF1 hx hm (by decide +kernel) h.1), TXt_feed hG1 hG2 hx hm hF1 hF2 hu hsz h1 h1' h2 h2' h9 h9' h.2.1, TP_fr hG2 (hF1.at hx) (hF1.at hm) hF2 (by decide +kernel) (TP_fr hG1 hx hm hF1 (by decide +kernel) h.2.2)⟩
theorem TX_le {M : List Nat} {S S' : PS} {x mo u : Nat} (hG : GX S) (hF : Fr M S S') (hx : At S x 11) (hm : At S mo 12) (hM : ([1105, 1003, 10013, 1227, 10753] ++ txLs ++ tpL).all (fun g => !M.contains g) = true) (hu : pR S 1105 x = some u) (hle : (pI S' 1000 u).toInt ≤ (pI S 1000 u).toInt) (h : TX S x mo) : TX S' x mo := ⟨TXs_fr hG hF hx hm (sub_all hM (by decide +kernel)) h.1, TXt_le hG hF hx hm (sub_all hM (by decide +kernel)) hu hle h.2.1, TP_fr hG hx hm hF (sub_all hM (by decide +kernel)) h.2.2⟩
/-- a program: the class's call, then the reference's -/
theorem TX_prog {S1 S2 S3 : PS} {x mo u : Nat} {p : Int} (hG1 : GX S1) (hG2 : GX S2) (hx : At S1 x 11) (hm : At S1 mo 12) (hF1 : Fr MPt S1 S2) (hF2 : Fr MPr S2 S3) (hPN : PN S1 x) (tp : (pI S1 1104 x).toInt = (pI S1 1211 mo).toInt) (hu : pR S1 1105 x = some u) (hsz : (pI S1 1000 u).toInt = (pI S1 1228 mo).toInt) (hle : (pI S2 1000 u).toInt ≤ (pI S1 1000 u).toInt) (hle3 : (pI S3 1000 u).toInt = (pI S2 1000 u).toInt)
    (ha : ∀ P rh u, PN S1 x → 0 ≤ p → p < (pI S1 1104 x).toInt → mB S1 x 1103 p.toNat = some P → pR S1 1106 x = some rh → pR S1 1105 x = some u → PgO S1 S2 x P rh u) (ha2 : PN S1 x → ¬ (0 ≤ p ∧ p < (pI S1 1104 x).toInt) → Fr MLf S1 S2)
    (hb1 : 0 ≤ p ∧ p < (pI S2 1211 mo).toInt → (prF (rB S2 mo) (pI S2 1228 mo).toInt.toNat 13 0 (tokF (rB S2 mo) (pI S2 1228 mo).toInt.toNat 0)).1 = 0 → RpS S2 S3 mo p.toNat (prL (rB S2 mo) (pI S2 1228 mo).toInt.toNat 13 0 (tokF (rB S2 mo) (pI S2 1228 mo).toInt.toNat 0))) (hb2 : ¬ (0 ≤ p ∧ p < (pI S2 1211 mo).toInt) ∨ (prF (rB S2 mo) (pI S2 1228 mo).toInt.toNat 13 0 (tokF (rB S2 mo) (pI S2 1228 mo).toInt.toNat 0)).1 ≠ 0 → RrL S2 S3 mo) (h : TX S1 x mo) : TX S3 x mo := by
  have hx2 := hF1.at hx
  have hm2 := hF1.at hm
  have e1 : pI S2 1211 mo = pI S1 1211 mo := hF1.I' (by decide +kernel) hm rfl
  have e2 : pI S2 1228 mo = pI S1 1228 mo := hF1.I' (by decide +kernel) hm rfl
  have e3 : rB S2 mo = rB S1 mo := by
    funext i
    rw [rB_eq, rB_eq, e2, mA_fr hF1 hm (ex3 (gQ_12_1227 hG1 hm)) (by decide +kernel) (by decide +kernel)]
  have e4 := tB_rB hu hsz h.2.1
  rw [e1, ← tp, e3, e2, ← e4, ← hsz] at hb1 hb2
  refine ⟨TXs_fr hG2 hF2 hx2 hm2 (by decide +kernel) (TXs_fr hG1 hF1 hx hm (by decide +kernel) h.1), TXt_le hG2 hF2 hx2 hm2 (by decide +kernel) (hF1.R' (by decide +kernel) hx hu) (by omega) (TXt_le hG1 hF1 hx hm (by decide +kernel) hu hle h.2.1), ?_⟩
  by_cases c : 0 ≤ p ∧ p < (pI S1 1104 x).toInt
  · obtain ⟨-, -, ν, K, sk, hw⟩ := id h
    obtain ⟨P, R0, R1, R2, G, A, R, hp⟩ := hw.2.2.2.2.1 p.toNat (by omega)
    obtain ⟨rh, o2, -⟩ := hw.2.2.2.2.2.2.2
    exact TP_prog (p := p.toNat) hG1 hG2 hx hm hF1 hF2 (by omega) hp.1 o2 hu (ha P rh u hPN c.1 c.2 hp.1 o2 hu) (fun z => hb1 c z) (fun z => hb2 (Or.inr z)) h.2.2
  · exact TP_ref hG2 hx2 hm2 hF2 (by decide +kernel) (hb2 (Or.inl c)) (TP_fr hG1 hx hm (ha2 hPN c) (by decide +kernel) h.2.2)
