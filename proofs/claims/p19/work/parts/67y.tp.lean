def txLt : List Nat := [1105, 1000, 1003, 10013, 1227, 10753]
def BT (S : PS) (u mo : Nat) : Prop := ∀ j : Nat, (j : Int) < (pI S 1000 u).toInt → zA S u 1003 j = zA S mo 1227 j
def TXt (S : PS) (x mo : Nat) : Prop := ∃ u, pR S 1105 x = some u ∧ At S u 10 ∧ BT S u mo
theorem BT_sh {S S' : PS} {u mo : Nat} (h1 : zA S' u 1003 = zA S u 1003) (h2 : zA S' mo 1227 = zA S mo 1227) (h3 : (pI S' 1000 u).toInt ≤ (pI S 1000 u).toInt) (h : BT S u mo) : BT S' u mo := fun j hj => by rw [h1, h2]; exact h j (by omega)
theorem TXt_fr {M : List Nat} {S S' : PS} {x mo : Nat} (hG : GX S) (hF : Fr M S S') (hx : At S x 11) (hm : At S mo 12) (hM : txLt.all (fun g => !M.contains g) = true) (h : TXt S x mo) : TXt S' x mo := by
  obtain ⟨u, u1, u2, u3⟩ := h
  exact ⟨u, hF.R' (allc hM (by decide)) hx u1, hF.at u2, BT_sh (zA_frc hF u2 (ex3 (gQ_10_1003 hG u2)) (allc hM (by decide)) (allc hM (by decide))) (zA_fr hF hm (ex3 (gQ_12_1227 hG hm)) (allc hM (by decide)) (allc hM (by decide))) (by rw [hF.I' (allc hM (by decide)) u2 rfl]; exact Int.le_refl _) u3⟩
theorem TXt_0 {S : PS} {x mo u : Nat} (h1 : pR S 1105 x = some u) (h2 : At S u 10) (h0 : pI S 1000 u = 0) : TXt S x mo := ⟨u, h1, h2, fun j hj => by
  rw [h0] at hj
  have e : (0 : Int32).toInt = 0 := by decide
  omega⟩
/-- the tape gets shorter -/
theorem TXt_le {M : List Nat} {S S' : PS} {x mo u : Nat} (hG : GX S) (hF : Fr M S S') (hx : At S x 11) (hm : At S mo 12) (hM : ([1105, 1003, 10013, 1227, 10753] : List Nat).all (fun g => !M.contains g) = true) (hu : pR S 1105 x = some u) (hle : (pI S' 1000 u).toInt ≤ (pI S 1000 u).toInt) (h : TXt S x mo) : TXt S' x mo := by
  obtain ⟨v, u1, u2, u3⟩ := h
  rw [hu] at u1
  cases u1
  exact ⟨u, hF.R' (allc hM (by decide)) hx hu, hF.at u2, BT_sh (zA_frc hF u2 (ex3 (gQ_10_1003 hG u2)) (allc hM (by decide)) (allc hM (by decide))) (zA_fr hF hm (ex3 (gQ_12_1227 hG hm)) (allc hM (by decide)) (allc hM (by decide))) hle u3⟩
theorem TXt_feed {S1 S2 S3 : PS} {x mo u : Nat} {s : Nat → Int} (hG1 : GX S1) (hG2 : GX S2) (hx : At S1 x 11) (hm : At S1 mo 12) (hF1 : Fr eAP S1 S2) (hF2 : Fr MT S2 S3) (hu : pR S1 1105 x = some u) (hsz : (pI S1 1000 u).toInt = (pI S1 1228 mo).toInt)
    (h1 : (pI S1 1000 u).toInt ≤ 380 → zA S2 u 1003 = fdP s (zA S1 u 1003) (pI S1 1000 u).toInt.toNat (4 * 5)) (h1' : 380 < (pI S1 1000 u).toInt → zA S2 u 1003 = zA S1 u 1003) (h2 : (pI S2 1228 mo).toInt ≤ 380 → zA S3 mo 1227 = fdP s (zA S2 mo 1227) (pI S2 1228 mo).toInt.toNat (4 * 5)) (h2' : 380 < (pI S2 1228 mo).toInt → zA S3 mo 1227 = zA S2 mo 1227)
    (h9 : (pI S1 1000 u).toInt ≤ 380 → (pI S3 1000 u).toInt = (pI S1 1000 u).toInt + 20) (h9' : 380 < (pI S1 1000 u).toInt → (pI S3 1000 u).toInt = (pI S1 1000 u).toInt) (h : TXt S1 x mo) : TXt S3 x mo := by
  obtain ⟨v, u1, u2, u3⟩ := h
  rw [hu] at u1
  cases u1
  have hx2 := hF1.at hx
  have hm2 := hF1.at hm
  have hu2 := hF1.at u2
  have e1 : zA S2 mo 1227 = zA S1 mo 1227 := zA_fr hF1 hm (ex3 (gQ_12_1227 hG1 hm)) (by decide +kernel) (by decide +kernel)
  have e2 : zA S3 u 1003 = zA S2 u 1003 := zA_frc hF2 hu2 (ex3 (gQ_10_1003 hG2 hu2)) (by decide +kernel) (by decide +kernel)
  have e3 : (pI S2 1228 mo).toInt = (pI S1 1228 mo).toInt := congrArg Int32.toInt (hF1.I' (by decide +kernel) hm rfl)
  have r2 : pR S3 1105 x = some u := hF2.R' (by decide +kernel) hx2 (hF1.R' (by decide +kernel) hx hu)
  refine ⟨u, r2, hF2.at hu2, fun j hj => ?_⟩
  have hz := gI_10_1000 hG1 u2
  rw [e2]
  rcases (show (pI S1 1000 u).toInt ≤ 380 ∨ 380 < (pI S1 1000 u).toInt by omega) with c | c
  · have q := h9 c
    rw [h1 c, h2 (by omega), e1, e3, ← hsz]
    exact fdP_congr (fun i hi => u3 i (by omega)) (by omega)
  · have q := h9' c
    rw [h1' c, h2' (by omega), e1]
    exact u3 j (by omega)
theorem tB_rB {S : PS} {x mo u : Nat} (hu : pR S 1105 x = some u) (hsz : (pI S 1000 u).toInt = (pI S 1228 mo).toInt) (h : TXt S x mo) : tB S u = rB S mo := by
  obtain ⟨v, u1, u2, u3⟩ := h
  rw [hu] at u1
  cases u1
  funext i
  rw [tB_eq, rB_eq, ← hsz]
  split
  · rename_i hi
    have h := u3 i hi
    rw [zA_eq, zA_eq] at h
    exact h
  · rfl
theorem rq_prog {S1 S2 : PS} {M : List Nat} {x mo u : Nat} {p : Int} {r1 r2 : Int32} (hG : GX S1) (hm : At S1 mo 12) (hF : Fr M S1 S2) (hM : ([1228, 1227, 10753, 1211] : List Nat).all (fun g => !M.contains g) = true) (hu : pR S1 1105 x = some u) (hsz : (pI S1 1000 u).toInt = (pI S1 1228 mo).toInt) (hpt : (pI S1 1104 x).toInt = (pI S1 1211 mo).toInt) (h : TXt S1 x mo) (a1 : 0 ≤ p ∧ p < (pI S1 1104 x).toInt → r1.toInt = prR (tB S1 u) (pI S1 1000 u).toInt.toNat) (a2 : ¬ (0 ≤ p ∧ p < (pI S1 1104 x).toInt) → r1.toInt = -1) (b1 : 0 ≤ p ∧ p < (pI S2 1211 mo).toInt → r2.toInt = prR (rB S2 mo) (pI S2 1228 mo).toInt.toNat) (b2 : ¬ (0 ≤ p ∧ p < (pI S2 1211 mo).toInt) → r2.toInt = -1) : r1.toInt = r2.toInt := by
  have e1 : pI S2 1211 mo = pI S1 1211 mo := hF.I' (allc hM (by decide)) hm rfl
  have e2 : pI S2 1228 mo = pI S1 1228 mo := hF.I' (allc hM (by decide)) hm rfl
  have e3 : rB S2 mo = rB S1 mo := by
    funext i
    rw [rB_eq, rB_eq, e2, mA_fr hF hm (ex3 (gQ_12_1227 hG hm)) (allc hM (by decide)) (allc hM (by decide))]
  rw [e1] at b1 b2
  by_cases c : 0 ≤ p ∧ p < (pI S1 1104 x).toInt
  · rw [a1 c, b1 (by omega), e3, e2, tB_rB hu hsz h, hsz]
  · rw [a2 c, b2 (by omega)]
theorem wit_E {M : List Nat} {S T : PS} {x mo : Nat} {p : Int} (hG : GX S) (hx : At S x 11) (hm : At S mo 12) (hF : Fr M S T) (h11 : M.contains 1211 = false) (hM2 : enL.all (fun g => !M.contains g) = true) (th : mA S mo 1210 = thinF) (tp : (pI S 1104 x).toInt = (pI S 1211 mo).toInt) : 0 ≤ p → p < (pI T 1211 mo).toInt → EnR T mo p (ER S mo p.toNat) := fun h0 h1 => by
  rw [hF.I' (g := 1211) h11 hm rfl] at h1
  have b := gI_11_1104 hG hx
  have hE := ER_is (p := p.toNat) hG hm th (by omega)
  rw [Int.toNat_of_nonneg h0] at hE
  exact EnR_fr hG hm hF hM2 hE
/-! ===== all ties of a run's claim ===== -/
def TXb (S : PS) (x mo : Nat) : Prop := TXs S x mo ∧ TXt S x mo ∧ TP S x mo
def txLb : List Nat := txLs ++ txLt ++ tpL
theorem TXb_fr {M : List Nat} {S S' : PS} {x mo : Nat} (hG : GX S) (hF : Fr M S S') (hx : At S x 11) (hm : At S mo 12) (hM : txLb.all (fun g => !M.contains g) = true) (h : TXb S x mo) : TXb S' x mo := ⟨TXs_fr hG hF hx hm (sub_all hM (by decide +kernel)) h.1, TXt_fr hG hF hx hm (sub_all hM (by decide +kernel)) h.2.1, TP_fr hG hx hm hF (sub_all hM (by decide +kernel)) h.2.2⟩
theorem TP_0 {S : PS} {x mo K rh : Nat} (h2 : pI S 1102 x = 0) (h4 : pI S 1104 x = 0) (hK : pR S 1107 x = some K) (h8 : pI S 800 K = 0) (h38 : pI S 1238 mo = 0) (hz : ∀ g, g ∈ in0 → ∀ i, zA S mo g i = 0) (hr : pR S 1106 x = some rh) (hd : RuD S rh) (hE : ExT S x K mo) : TP S x mo := by
  have e0 : (0 : Int32).toInt = 0 := by decide
  have n2 : ∀ l : Nat, ¬ (l : Int) < (pI S 1102 x).toInt := fun l z => by rw [h2, e0] at z; omega
  have n4 : ∀ l : Nat, ¬ (l : Int) < (pI S 1104 x).toInt := fun l z => by rw [h4, e0] at z; omega
  refine ⟨fun c => c, K, [], fun l i c z => absurd z (n2 l), hK, ⟨⟨by rw [h8]; rfl, fun k s hk => by cases hk⟩, ⟨by rw [h38]; rfl, fun k s hk => by cases hk⟩, hE⟩, fun l i c z => absurd z (n2 l), fun p hp => absurd hp (n4 p), fun p _ _ => ⟨fun k _ => hz 1219 (by decide) _, fun g hg => hz g ?_ p⟩, fun p q P Q z => absurd z (n4 p), rh, hr, hd, fun p P ρ z => absurd z (n4 p)⟩
  simp only [peG, List.mem_cons, List.not_mem_nil, or_false] at hg
  rcases hg with e | e | e | e | e | e <;> subst e <;> decide
theorem TXb_0 {S : PS} {x mo sh u K rh : Nat} (h2 : pI S 1102 x = 0) (h4 : pI S 1104 x = 0) (hs : pR S 1109 x = some sh) (hi : ShI S sh 16) (h5 : ∀ i, zA S mo 1253 i = 0) (hu : pR S 1105 x = some u) (hu2 : At S u 10) (hu0 : pI S 1000 u = 0) (hK : pR S 1107 x = some K) (h8 : pI S 800 K = 0) (h38 : pI S 1238 mo = 0) (hz : ∀ g, g ∈ in0 → ∀ i, zA S mo g i = 0) (hr : pR S 1106 x = some rh) (hd : RuD S rh) (hE : ExT S x K mo) : TXb S x mo := ⟨TXs_0 h2 h4 hs hi h5, TXt_0 hu hu2 hu0, TP_0 h2 h4 hK h8 h38 hz hr hd hE⟩
theorem TXs_of {M1 M2 : List Nat} {S1 S2 S3 : PS} {x mo : Nat} (hG1 : GX S1) (hG2 : GX S2) (hx : At S1 x 11) (hm : At S1 mo 12) (hF1 : Fr M1 S1 S2) (hF2 : Fr M2 S2 S3) (hM1 : (stL ++ [1109, 10017]).all (fun g => !M1.contains g) = true) (hM2 : (stL ++ [1109, 10017]).all (fun g => !M2.contains g) = true) (hS : SZ S3 x mo) (h : TXs S1 x mo) : TXs S3 x mo := ⟨hS, fun _ _ => trivial, ST_fr hG2 (hF1.at hx) (hF1.at hm) hF2 (sub_all hM2 (by decide +kernel)) (ST_fr hG1 hx hm hF1 (sub_all hM1 (by decide +kernel)) h.2.2.1), SD_fr hG2 (hF1.at hx) hF2 (sub_all hM2 (by decide +kernel)) (SD_fr hG1 hx hF1 (sub_all hM1 (by decide +kernel)) h.2.2.2)⟩
theorem spb_D {S : PS} {x mo : Nat} (h : TXb S x mo) : ∀ q, pR S 1106 x = some q → RuD S q := fun q hq => by
  obtain ⟨-, -, ν, K, sk, -, -, -, -, -, -, -, rh, o2, o3, -⟩ := h
  rw [hq] at o2
  cases o2
  exact o3
theorem dc_in {S : PS} {x : Nat} : ∀ l j c, InC S x l j → mB S x 1100 (60 * l + j).toNat = some c → DC S x c := fun l j c ⟨h1, h2, h3, h4⟩ hc => ⟨l.toNat, j.toNat, by omega, by omega, by rw [show 60 * l.toNat + j.toNat = (60 * l + j).toNat by omega]; exact hc⟩
theorem TXb_run {S1 S2 S3 : PS} {x mo K P R0 R1 R2 G : Nat} {p n : Int} {ν : Nat → Nat} {sk : List Sk} {A : Pt} {R : List Ru} {r1 r2 : Int32} (hG1 : GX S1) (hG2 : GX S2) (hx : At S1 x 11) (hm : At S1 mo 12) (hF1 : Fr eTI S1 S2) (hF2 : Fr MTK S2 S3) (ct : CT S1 x mo) (hPN : PN S1 x) (tp : (pI S1 1104 x).toInt = (pI S1 1211 mo).toInt) (hd : ∀ K, pR S1 1107 x = some K → pI S1 801 K = pI S1 1245 mo) (hw : TPw S1 x mo ν K sk) (hp : 0 ≤ p → p < (pI S1 1104 x).toInt → PT1 S1 x mo ν p.toNat P R0 R1 R2 G A R)
    (ha1 : PN S1 x → RunC S1 x p n → ∀ Q, mB S1 x 1103 p.toNat = some Q → PotV S2 (DC S1 x) Q R0 R1 R2 G K (runF (EC S1 K P) R n.toNat (cA S1 A sk)).1 ∧ PotX S1 S2 Q R0 R1 R2 G ∧ r1.toInt = (runF (EC S1 K P) R n.toNat (cA S1 A sk)).2) (ha2 : ¬ RunC S1 x p n → S2 = S1 ∧ r1.toInt = -1)
    (hb1 : 0 ≤ p ∧ p < (pI S2 1211 mo).toInt ∧ 0 ≤ n ∧ n ≤ 300 → r2.toInt = (runF (ER S1 mo p.toNat) R n.toNat (cB S1 mo ν A sk)).2 ∧ PotW S3 mo p (runF (ER S1 mo p.toNat) R n.toNat (cB S1 mo ν A sk)).1 ∧ PwX S2 S3 mo p) (hb2 : ¬ (0 ≤ p ∧ p < (pI S2 1211 mo).toInt ∧ 0 ≤ n ∧ n ≤ 300) → r2.toInt = -1 ∧ S3 = sI S2 1200 mo 0) (h : TXb S1 x mo) : TXb S3 x mo ∧ r1.toInt = r2.toInt := by
  obtain ⟨⟨t1, t2⟩, t3⟩ := TP_run hG1 hG2 hx hm hF1 hF2 ct hPN tp hd h.1.1 hw hp ha1 ha2 hb1 hb2
  exact ⟨⟨TXs_of hG1 hG2 hx hm hF1 hF2 (by decide +kernel) (by decide +kernel) t2 h.1, TXt_fr hG2 hF2 (hF1.at hx) (hF1.at hm) (by decide +kernel) (TXt_fr hG1 hF1 hx hm (by decide +kernel) h.2.1), t1⟩, t3⟩
theorem TXb_cut {S1 S2 S3 : PS} {x mo K P R0 R1 R2 G : Nat} {p : Int} {ν : Nat → Nat} {sk : List Sk} {A : Pt} {R : List Ru} {r1 r2 : Int32} (hG1 : GX S1) (hG2 : GX S2) (hx : At S1 x 11) (hm : At S1 mo 12) (hF1 : Fr eCU S1 S2) (hF2 : Fr MCU S2 S3) (ct : CT S1 x mo) (hPN : PN S1 x) (tp : (pI S1 1104 x).toInt = (pI S1 1211 mo).toInt) (hd : ∀ K, pR S1 1107 x = some K → pI S1 801 K = pI S1 1245 mo) (hw : TPw S1 x mo ν K sk) (hp : 0 ≤ p → p < (pI S1 1104 x).toInt → PT1 S1 x mo ν p.toNat P R0 R1 R2 G A R)
    (ha1 : PN S1 x → 0 ≤ p ∧ p < (pI S1 1104 x).toInt → ∀ Q, mB S1 x 1103 p.toNat = some Q → PotV S2 (DC S1 x) Q R0 R1 R2 G K (cutF (EC S1 K P) (cA S1 A sk)) ∧ PotX S1 S2 Q R0 R1 R2 G ∧ r1.toInt = cutR (cA S1 A sk)) (ha2 : PN S1 x → ¬ (0 ≤ p ∧ p < (pI S1 1104 x).toInt) → S2 = S1 ∧ r1.toInt = -1)
    (hb1 : 0 ≤ p ∧ p < (pI S2 1211 mo).toInt → PotW S3 mo p (cutF (ER S1 mo p.toNat) (cB S1 mo ν A sk)) ∧ r2.toInt = cutR (cB S1 mo ν A sk) ∧ PwX S2 S3 mo p) (hb2 : ¬ (0 ≤ p ∧ p < (pI S2 1211 mo).toInt) → r2.toInt = -1 ∧ S3 = sI S2 1200 mo 0) (h : TXb S1 x mo) : TXb S3 x mo ∧ r1.toInt = r2.toInt := by
  obtain ⟨⟨t1, t2⟩, t3⟩ := TP_cut hG1 hG2 hx hm hF1 hF2 ct hPN tp hd h.1.1 hw hp ha1 ha2 hb1 hb2
  exact ⟨⟨TXs_of hG1 hG2 hx hm hF1 hF2 (by decide +kernel) (by decide +kernel) t2 h.1, TXt_fr hG2 hF2 (hF1.at hx) (hF1.at hm) (by decide +kernel) (TXt_fr hG1 hF1 hx hm (by decide +kernel) h.2.1), t1⟩, t3⟩
theorem TXb_fill {S1 S2 S3 : PS} {x mo K P R0 R1 R2 G : Nat} {p l f n : Int} {ν : Nat → Nat} {sk : List Sk} {A : Pt} {R : List Ru} {r1 r2 : Int32} {X3 : Nat → Prop} {Y1 Y2 : Prop} (hG1 : GX S1) (hG2 : GX S2) (hx : At S1 x 11) (hm : At S1 mo 12) (hF1 : Fr eRC S1 S2) (hF2 : Fr MFI S2 S3) (ct : CT S1 x mo) (hPN : PN S1 x) (tl : (pI S1 1102 x).toInt = (pI S1 1201 mo).toInt) (tp : (pI S1 1104 x).toInt = (pI S1 1211 mo).toInt) (hw : TPw S1 x mo ν K sk) (hp : 0 ≤ p → p < (pI S1 1104 x).toInt → PT1 S1 x mo ν p.toNat P R0 R1 R2 G A R)
    (ha : ((FilC S1 x p l f n ∧ ∀ Q, mB S1 x 1103 p.toNat = some Q → PotV S2 (DC S1 x) Q R0 R1 R2 G K (filF (cA S1 A sk) (cocL S1 x l f n.toNat)) ∧ PotX S1 S2 Q R0 R1 R2 G ∧ X3 Q) ∧ r1 = 1) ∨ (((PN S1 x → ¬ FilC S1 x p l f n) ∧ S2 = S1) ∧ r1 = 0))
    (hb : ((MI S3 mo ∧ FilR S2 mo p l f n ∧ Y1 ∧ PotW S3 mo p (filF (cB S1 mo ν A sk) (nuL l f n.toNat)) ∧ PwX S2 S3 mo p) ∧ r2 = 1) ∨ ((MI S3 mo ∧ ¬ FilR S2 mo p l f n ∧ Y2 ∧ S3 = sI S2 1200 mo 0) ∧ r2 = 0)) (h : TXb S1 x mo) : TXb S3 x mo ∧ r1 = r2 := by
  obtain ⟨⟨t1, t2⟩, t3⟩ := TP_fill (r1 := r1) (r2 := r2) hG1 hG2 hx hm hF1 hF2 ct hPN tl tp h.1.1 hw hp (by
    rcases ha with ⟨⟨a1, a2⟩, a3⟩ | a
    · exact Or.inl ⟨⟨a1, fun Q hQ => ⟨(a2 Q hQ).1, (a2 Q hQ).2.1⟩⟩, a3⟩
    · exact Or.inr a) (by
    rcases hb with ⟨⟨-, b1, -, b2⟩, b3⟩ | ⟨⟨-, b1, -, b2⟩, b3⟩
    · exact Or.inl ⟨⟨b1, b2⟩, b3⟩
    · exact Or.inr ⟨⟨b1, b2⟩, b3⟩)
  exact ⟨⟨TXs_of hG1 hG2 hx hm hF1 hF2 (by decide +kernel) (by decide +kernel) t2 h.1, TXt_fr hG2 hF2 (hF1.at hx) (hF1.at hm) (by decide +kernel) (TXt_fr hG1 hF1 hx hm (by decide +kernel) h.2.1), t1⟩, t3⟩
theorem TXb_lot {S1 S2 S3 : PS} {x mo : Nat} {a1 a2 a3 a4 a5 : Int32} {a1_z : Int} (hG1 : GX S1) (hG2 : GX S2) (hx : At S1 x 11) (hm : At S1 mo 12) (hF1 : Fr MLt S1 S2) (hF2 : Fr M12t S2 S3) (hMI : MI S1 mo) (hl : (pI S1 1102 x).toInt = (pI S1 1201 mo).toInt) (h9 : (pI S2 1102 x).toInt = (pI S1 1102 x).toInt + 1) (hz : a1.toInt = a1_z) (hn : a1_z ≤ 60) (hlt : (pI S1 1102 x).toInt < 10)
    (hN : ∀ ca lz, pR S1 1100 x = some ca → pR S1 1101 x = some lz → NewC S1 S2 ca (60 * (pI S1 1102 x).toInt) a1_z (pI S1 1102 x) a2 a3 a4 a5 ∧ pA S2 lz = upd (pA S1 lz) (Int32.toNatClampNeg (pI S1 1102 x)) a1) (h : TXb S1 x mo) : TXb S3 x mo := ⟨TXs_lot hG1 hG2 hx hm hF1 hF2 hMI hl h9 hz hn hlt hN h.1, TXt_fr hG2 hF2 (hF1.at hx) (hF1.at hm) (by decide +kernel) (TXt_fr hG1 hF1 hx hm (by decide +kernel) h.2.1), TP_lot hG1 hG2 hx hm hF1 hF2 hMI hl h9 hz hn hlt hN h.2.2⟩
theorem TXb_pot {S1 S2 S3 : PS} {x mo P P' : Nat} {a1 a2 : Int32} (hG1 : GX S1) (hG2 : GX S2) (hx : At S1 x 11) (hm : At S1 mo 12) (hF1 : Fr ePT S1 S2) (hF2 : Fr MP S2 S3) (tp : (pI S1 1104 x).toInt = (pI S1 1211 mo).toInt) (h4' : (pI S1 1104 x).toInt < 4) (hf : 1 ≤ a2.toInt) (h9 : (pI S2 1104 x).toInt = (pI S1 1104 x).toInt + 1) (hP : P ∉ pL S1) (hB : ∀ j, mB S2 x 1103 j = if j = (pI S1 1104 x).toInt.toNat then some P else mB S1 x 1103 j) (hN : PotN S1 S2 P (pI S1 1104 x) a1 a2) (hB' : ∀ j, mB S2 x 1103 j = if j = (pI S1 1104 x).toInt.toNat then some P' else mB S1 x 1103 j) (hP' : At S2 P' 4) (r0 : RowE S2 P' 400) (r1 : RowE S2 P' 401) (r2 : RowE S2 P' 402) (e12 : ∀ j, zA S3 mo 1212 j = if j = (pI S2 1211 mo).toInt.toNat then a1.toInt else zA S2 mo 1212 j) (e13 : ∀ j, zA S3 mo 1213 j = if j = (pI S2 1211 mo).toInt.toNat then a2.toInt else zA S2 mo 1213 j) (h : TXb S1 x mo) : TXb S3 x mo := ⟨TXs_fr hG2 hF2 (hF1.at hx) (hF1.at hm) (by decide +kernel) (TXs_pot hG1 hG2 hx hm hF1 h9 hB' hP' r0 r1 r2 h.1), TXt_fr hG2 hF2 (hF1.at hx) (hF1.at hm) (by decide +kernel) (TXt_fr hG1 hF1 hx hm (by decide +kernel) h.2.1), TP_pot hG1 hG2 hx hm hF1 hF2 tp h4' hf h9 hP hB hN e12 e13 h.2.2⟩
theorem TXb_target {S1 S2 S3 : PS} {x mo : Nat} {p v : Int} {a : Int32} {r1 r2 : Int32} (hG1 : GX S1) (hG2 : GX S2) (hx : At S1 x 11) (hm : At S1 mo 12) (hF1 : Fr eTG S1 S2) (hF2 : Fr Mtg S2 S3) (hPN : PN S1 x) (tp : (pI S1 1104 x).toInt = (pI S1 1211 mo).toInt) (hv : a.toInt = v)
    (ha : (((0 ≤ p ∧ p < (pI S1 1104 x).toInt ∧ 10 ≤ v ∧ v ≤ 2000) ∧ ∀ P, mB S1 x 1103 p.toNat = some P → S2 = sI S1 404 P a) ∧ r1 = 1) ∨ (((PN S1 x → ¬ (0 ≤ p ∧ p < (pI S1 1104 x).toInt ∧ 10 ≤ v ∧ v ≤ 2000)) ∧ S2 = S1) ∧ r1 = 0)) (hb : (((0 ≤ p ∧ p < (pI S2 1211 mo).toInt ∧ 10 ≤ v ∧ v ≤ 2000) ∧ ∀ j, zA S3 mo 1212 j = if j = p.toNat then v else zA S2 mo 1212 j) ∧ r2 = 1) ∨ ((¬ (0 ≤ p ∧ p < (pI S2 1211 mo).toInt ∧ 10 ≤ v ∧ v ≤ 2000) ∧ S3 = sI S2 1200 mo 0) ∧ r2 = 0)) (h : TXb S1 x mo) : TXb S3 x mo := by
  have e11 : pI S2 1211 mo = pI S1 1211 mo := hF1.I' (by decide +kernel) hm rfl
  rw [e11, ← tp] at hb
  rcases ha with ⟨⟨a1, a2⟩, -⟩ | ⟨⟨a1, a2⟩, -⟩ <;> rcases hb with ⟨⟨b1, b2⟩, -⟩ | ⟨⟨b1, b2⟩, -⟩
  · obtain ⟨-, -, ν, K, sk, hw⟩ := id h
    obtain ⟨P, R0, R1, R2, G, A, R, hp⟩ := hw.2.2.2.2.1 p.toNat (by omega)
    refine ⟨TXs_fr hG2 hF2 (hF1.at hx) (hF1.at hm) (by decide +kernel) (TXs_fr hG1 hF1 hx hm (by decide +kernel) h.1), TXt_fr hG2 hF2 (hF1.at hx) (hF1.at hm) (by decide +kernel) (TXt_fr hG1 hF1 hx hm (by decide +kernel) h.2.1), TP_target hG1 hG2 hx hm hF2 a1.1 a1.2.1 hp.1 (a2 P hp.1) (fun j => by rw [b2 j, hv]) h.2.2⟩
  · exact absurd a1 b1
  · exact absurd b1 (a1 hPN)
  · subst a2
    exact TXb_fr (M := [1200]) hG1 (by rw [b2]; exact Fr_sI (by decide)) hx hm (by decide +kernel) h
theorem TXb_shelve {S1 S2 S3 : PS} {x mo : Nat} {p k : Int} {a b : Int32} {az bz : Int} {r1 r2 : Int32} (hG1 : GX S1) (hG2 : GX S2) (hx : At S1 x 11) (hm : At S1 mo 12) (hF1 : Fr eSH S1 S2) (hF2 : Fr MSH S2 S3) (hc : CT S1 x mo) (hl : (pI S1 1102 x).toInt = (pI S1 1201 mo).toInt) (hz : a.toInt = az)
    (ha : ((∃ P, (0 ≤ p ∧ p ≤ 15) ∧ mB S1 x 1109 p.toNat = some P ∧ (pI S1 300 P).toInt = -1 ∧ ShE S1 S2 x P k a az b bz) ∧ r1 = 1) ∨ ((S2 = S1 ∧ ∀ P, 0 ≤ p → p ≤ 15 → mB S1 x 1109 p.toNat = some P → ¬ ((pI S1 300 P).toInt = -1 ∧ ShC S1 x k az bz)) ∧ r1 = 0)) (hb : ((MI S3 mo ∧ ShR S2 mo p k az bz ∧ SE S2 S3 mo p k az bz) ∧ r2 = 1) ∨ ((MI S3 mo ∧ ¬ ShR S2 mo p k az bz ∧ zA S3 mo 1207 = zA S2 mo 1207 ∧ zA S3 mo 1253 = zA S2 mo 1253 ∧ zA S3 mo 1254 = zA S2 mo 1254 ∧ zA S3 mo 1255 = zA S2 mo 1255 ∧ zA S3 mo 1256 = zA S2 mo 1256) ∧ r2 = 0)) (h : TXb S1 x mo) : TXb S3 x mo ∧ r1 = r2 := by
  obtain ⟨t1, t2⟩ := TXs_shelve (r1 := r1) (r2 := r2) hG1 hG2 hx hm hF1 hF2 hc hl hz ha hb h.1
  exact ⟨⟨t1, TXt_fr hG2 hF2 (hF1.at hx) (hF1.at hm) (by decide +kernel) (TXt_fr hG1 hF1 hx hm (by decide +kernel) h.2.1), TP_fr hG2 (hF1.at hx) (hF1.at hm) hF2 (by decide +kernel) (TP_fr hG1 hx hm hF1 (by decide +kernel) h.2.2)⟩, t2⟩
theorem TXb_take {S1 S2 S3 : PS} {x mo : Nat} {p k r1 r2 : Int} (hG1 : GX S1) (hG2 : GX S2) (hx : At S1 x 11) (hm : At S1 mo 12) (hF1 : Fr eTA S1 S2) (hF2 : Fr MTA S2 S3) (hc : CT S1 x mo) (hl : (pI S1 1102 x).toInt = (pI S1 1201 mo).toInt) (hMI : MI S1 mo)
    (ha1 : ¬ (0 ≤ p ∧ p ≤ 15 ∧ 0 ≤ k ∧ k ≤ 2) → r1 = -1 ∧ S2 = S1) (ha2 : 0 ≤ p ∧ p ≤ 15 ∧ 0 ≤ k ∧ k ≤ 2 → ∀ P, mB S1 x 1109 p.toNat = some P → TkO S1 S2 x P k r1)
    (hb1 : ¬ (0 ≤ p ∧ p ≤ 15 ∧ 0 ≤ k ∧ k ≤ 2) → r2 = -1 ∧ zA S3 mo 1207 = zA S2 mo 1207 ∧ zA S3 mo 1253 = zA S2 mo 1253) (hb2 : 0 ≤ p ∧ p ≤ 15 ∧ 0 ≤ k ∧ k ≤ 2 → TkR S2 S3 mo p k r2) (h : TXb S1 x mo) : TXb S3 x mo := ⟨TXs_take hG1 hG2 hx hm hF1 hF2 hc hl hMI ha1 ha2 hb1 hb2 h.1, TXt_fr hG2 hF2 (hF1.at hx) (hF1.at hm) (by decide +kernel) (TXt_fr hG1 hF1 hx hm (by decide +kernel) h.2.1), TP_fr hG2 (hF1.at hx) (hF1.at hm) hF2 (by decide +kernel) (TP_fr hG1 hx hm hF1 (by decide +kernel) h.2.2)⟩
theorem TXb_feed {S1 S2 S3 : PS} {x mo u : Nat} {s : Nat → Int} (hG1 : GX S1) (hG2 : GX S2) (hx : At S1 x 11) (hm : At S1 mo 12) (hF1 : Fr eAP S1 S2) (hF2 : Fr MT S2 S3) (hu : pR S1 1105 x = some u) (hsz : (pI S1 1000 u).toInt = (pI S1 1228 mo).toInt)
    (h1 : (pI S1 1000 u).toInt ≤ 380 → zA S2 u 1003 = fdP s (zA S1 u 1003) (pI S1 1000 u).toInt.toNat (4 * 5)) (h1' : 380 < (pI S1 1000 u).toInt → zA S2 u 1003 = zA S1 u 1003) (h2 : (pI S2 1228 mo).toInt ≤ 380 → zA S3 mo 1227 = fdP s (zA S2 mo 1227) (pI S2 1228 mo).toInt.toNat (4 * 5)) (h2' : 380 < (pI S2 1228 mo).toInt → zA S3 mo 1227 = zA S2 mo 1227)
    (h9 : (pI S1 1000 u).toInt ≤ 380 → (pI S3 1000 u).toInt = (pI S1 1000 u).toInt + 20) (h9' : 380 < (pI S1 1000 u).toInt → (pI S3 1000 u).toInt = (pI S1 1000 u).toInt) (h : TXb S1 x mo) : TXb S3 x mo := ⟨TXs_fr hG2 hF2 (hF1.at hx) (hF1.at hm) (by decide +kernel) (TXs_fr hG1 hF1 hx hm (by decide +kernel) h.1), TXt_feed hG1 hG2 hx hm hF1 hF2 hu hsz h1 h1' h2 h2' h9 h9' h.2.1, TP_fr hG2 (hF1.at hx) (hF1.at hm) hF2 (by decide +kernel) (TP_fr hG1 hx hm hF1 (by decide +kernel) h.2.2)⟩
theorem TXb_le {M : List Nat} {S S' : PS} {x mo u : Nat} (hG : GX S) (hF : Fr M S S') (hx : At S x 11) (hm : At S mo 12) (hM : ([1105, 1003, 10013, 1227, 10753] ++ txLs ++ tpL).all (fun g => !M.contains g) = true) (hu : pR S 1105 x = some u) (hle : (pI S' 1000 u).toInt ≤ (pI S 1000 u).toInt) (h : TXb S x mo) : TXb S' x mo := ⟨TXs_fr hG hF hx hm (sub_all hM (by decide +kernel)) h.1, TXt_le hG hF hx hm (sub_all hM (by decide +kernel)) hu hle h.2.1, TP_fr hG hx hm hF (sub_all hM (by decide +kernel)) h.2.2⟩
/-- a program: the class's call, then the reference's -/
theorem TXb_prog {S1 S2 S3 : PS} {x mo u : Nat} {p : Int} (hG1 : GX S1) (hG2 : GX S2) (hx : At S1 x 11) (hm : At S1 mo 12) (hF1 : Fr MPt S1 S2) (hF2 : Fr MPr S2 S3) (hPN : PN S1 x) (tp : (pI S1 1104 x).toInt = (pI S1 1211 mo).toInt) (hu : pR S1 1105 x = some u) (hsz : (pI S1 1000 u).toInt = (pI S1 1228 mo).toInt) (hle : (pI S2 1000 u).toInt ≤ (pI S1 1000 u).toInt) (hle3 : (pI S3 1000 u).toInt = (pI S2 1000 u).toInt)
    (ha : ∀ P rh u, PN S1 x → 0 ≤ p → p < (pI S1 1104 x).toInt → mB S1 x 1103 p.toNat = some P → pR S1 1106 x = some rh → pR S1 1105 x = some u → PgO S1 S2 x P rh u) (ha2 : PN S1 x → ¬ (0 ≤ p ∧ p < (pI S1 1104 x).toInt) → Fr MLf S1 S2)
    (hb1 : 0 ≤ p ∧ p < (pI S2 1211 mo).toInt → (prF (rB S2 mo) (pI S2 1228 mo).toInt.toNat 13 0 (tokF (rB S2 mo) (pI S2 1228 mo).toInt.toNat 0)).1 = 0 → RpS S2 S3 mo p.toNat (prL (rB S2 mo) (pI S2 1228 mo).toInt.toNat 13 0 (tokF (rB S2 mo) (pI S2 1228 mo).toInt.toNat 0))) (hb2 : ¬ (0 ≤ p ∧ p < (pI S2 1211 mo).toInt) ∨ (prF (rB S2 mo) (pI S2 1228 mo).toInt.toNat 13 0 (tokF (rB S2 mo) (pI S2 1228 mo).toInt.toNat 0)).1 ≠ 0 → RrL S2 S3 mo) (h : TXb S1 x mo) : TXb S3 x mo := by
  have hx2 := hF1.at hx
  have hm2 := hF1.at hm
  have e1 : pI S2 1211 mo = pI S1 1211 mo := hF1.I' (by decide +kernel) hm rfl
  have e2 : pI S2 1228 mo = pI S1 1228 mo := hF1.I' (by decide +kernel) hm rfl
  have e3 : rB S2 mo = rB S1 mo := by
    funext i
    rw [rB_eq, rB_eq, e2, mA_fr hF1 hm (ex3 (gQ_12_1227 hG1 hm)) (by decide +kernel) (by decide +kernel)]
  have e4 := tB_rB hu hsz h.2.1
  rw [e1, ← tp, e3, e2, ← e4, ← hsz] at hb1 hb2
  refine ⟨TXs_fr hG2 hF2 hx2 hm2 (by decide +kernel) (TXs_fr hG1 hF1 hx hm (by decide +kernel) h.1), TXt_le hG2 hF2 hx2 hm2 (by decide +kernel) (hF1.R' (by decide +kernel) hx hu) (by omega) (TXt_le hG1 hF1 hx hm (by decide +kernel) hu hle h.2.1), ?_⟩
  by_cases c : 0 ≤ p ∧ p < (pI S1 1104 x).toInt
  · obtain ⟨-, -, ν, K, sk, hw⟩ := id h
    obtain ⟨P, R0, R1, R2, G, A, R, hp⟩ := hw.2.2.2.2.1 p.toNat (by omega)
    obtain ⟨rh, o2, -⟩ := hw.2.2.2.2.2.2.2
    exact TP_prog (p := p.toNat) hG1 hG2 hx hm hF1 hF2 (by omega) hp.1 o2 hu (ha P rh u hPN c.1 c.2 hp.1 o2 hu) (fun z => hb1 c z) (fun z => hb2 (Or.inr z)) h.2.2
  · exact TP_ref hG2 hx2 hm2 hF2 (by decide +kernel) (hb2 (Or.inl c)) (TP_fr hG1 hx hm (ha2 hPN c) (by decide +kernel) h.2.2)
/-! ===== pieces among the ties: what a pot's steps keep ===== -/
def nz5 (v : Int32) : Prop := v.toInt ≠ 0 ∧ v.toInt ≠ 5
theorem nz5_1 : nz5 1 := ⟨by decide, by decide⟩
theorem nz5_2 : nz5 2 := ⟨by decide, by decide⟩
theorem nz5_3 : nz5 3 := ⟨by decide, by decide⟩
theorem nz5_4 : nz5 4 := ⟨by decide, by decide⟩
theorem nz5_6 : nz5 6 := ⟨by decide, by decide⟩
def InA (A : Pt) (c : Nat) : Prop := 0 < cnA A c ∨ ∃ m, m ∈ qg A ∧ inB c m = true
def StA (A B : Pt) : Prop := (∀ c, InA B c → InA A c) ∧ ∀ c, nz5 (qsd A c) → nz5 (qsd B c)
theorem StA_rf (A : Pt) : StA A A := ⟨fun _ h => h, fun _ h => h⟩
theorem StA_tr {A B C : Pt} (h : StA A B) (h' : StA B C) : StA A C := ⟨fun c z => h.1 c (h'.1 c z), fun c z => h'.2 c (h.2 c z)⟩
theorem StA_mv {A B : Pt} (hg : qg B = qg A) (hc : ∀ c, cnA B c ≤ cnA A c) (hn : ∀ c, nz5 (qsd A c) → nz5 (qsd B c)) : StA A B := ⟨fun c z => by
  rcases z with z | z
  · exact Or.inl (Nat.lt_of_lt_of_le z (hc c))
  · rw [hg] at z
    exact Or.inr z, hn⟩
theorem nz_fu {f : Nat → Int32} {c : Nat} {v : Int32} (hv : nz5 v) : ∀ d, nz5 (f d) → nz5 (fuI f c v d) := fun d h => by
  unfold fuI
  split
  · exact hv
  · exact h
theorem st_fet {A : Pt} : StA A (fetF A) := StA_mv gs_fet.1 (fun c => cn_fet c) (fun d h => by
  cases e : ql A with
  | nil =>
    rw [fetF_n e]
    exact h
  | cons c t =>
    rw [fetF_c e]
    show nz5 (fuI (qsd A) c 1 d)
    exact nz_fu nz5_1 d h)
theorem st_wse {A : Pt} {v : Int32} : StA A (wse A v) := StA_mv rfl (fun _ => Nat.le_refl _) (fun _ h => h)
theorem st_wst {A : Pt} {v : Int32} : StA A (wst A v) := StA_mv rfl (fun _ => Nat.le_refl _) (fun _ h => h)
theorem st_sea {E : En} {A : Pt} : StA A (seaF E A) := by
  by_cases h : ql A = []
  · rw [seaF_n h]
    exact StA_rf A
  · by_cases h2 : (qse A + 1).toInt < (efind E).toInt
    · rw [seaF_w h h2]
      exact st_wse
    · rw [seaF_f h h2]
      exact StA_tr st_wse st_fet
theorem st_cas {A : Pt} : StA A (casF A) := StA_mv gs_cas.1 (fun c => cn_cas c) (fun d h => by
  cases e : qb A with
  | nil =>
    rw [casF_n (Or.inl e)]
    exact h
  | cons c t =>
    by_cases h2 : (qe A).length < 12
    · rw [casF_c e h2]
      show nz5 (fuI (qsd A) c 2 d)
      exact nz_fu nz5_2 d h
    · rw [casF_n (Or.inr h2)]
      exact h)
theorem st_dro {E : En} {A : Pt} : StA A (droF E A) := StA_mv gs_dro.1 (fun c => cn_dro c) (fun d h => by
  by_cases h0 : 0 ≤ thiF E A ∧ thiF E A < ((qe A).length : Int)
  · obtain ⟨c, hc⟩ : ∃ c, (qe A)[(thiF E A).toNat]? = some c := ⟨_, List.getElem?_eq_getElem (by omega)⟩
    rw [droF_c h0.1 hc]
    show nz5 (fuI (qsd A) c 1 d)
    exact nz_fu nz5_1 d h
  · rw [droF_n h0]
    exact h)
theorem st_fnd {A : Pt} : StA A (fndF A) := by
  by_cases h : ql A = []
  · rw [fndF_n h]
    exact StA_rf A
  · rw [fndF_c h]
    exact StA_tr st_fet st_wst
theorem st_thr {A : Pt} : StA A (throF A) := StA_mv gs_thr.1 (fun c => cn_thr c) (fun d h => by
  cases e : (qb A)[(qb A).length - 1]? with
  | none =>
    have h' : throF A = A := by
      unfold throF
      rw [e]
    rw [h']
    exact h
  | some c =>
    rw [throF_c e]
    show nz5 (fuI (qsd A) c 6 d)
    exact nz_fu nz5_6 d h)
theorem st_cut {E : En} {A : Pt} : StA A (cutF E A) := ⟨fun c z => by
  rcases z with z | ⟨m, hm, -⟩
  · rw [cn_cut] at z
    exact Or.inl z
  · rw [qg_cut] at hm
    exact absurd hm List.not_mem_nil, fun d h => by
  by_cases h1 : qg A = []
  · rw [cutF_n h1]
    exact h
  · by_cases h2 : (qsk A).length < 40
    · rw [cutF_k h1 h2]
      exact h
    · rw [cutF_w h1 h2]
      exact h⟩
theorem st_act {E : En} {A : Pt} {a m : Int32} : StA A (actF E a m A) := by
  unfold actF
  split
  · exact st_cas
  · split
    · exact st_dro
    · split
      · exact st_fnd
      · split
        · exact st_thr
        · split
          · exact st_cut
          · exact st_wst
theorem st_ru {E : En} {A : Pt} {r : Ru} : StA A (ruF E A r) := by
  by_cases h : allP E A r.2.2
  · rw [ruF_y h]
    exact st_act
  · rw [ruF_n h]
    exact StA_rf A
theorem st_rus {E : En} : ∀ {R : List Ru} {A : Pt}, StA A (rusF E A R)
  | [], A => StA_rf A
  | r :: R, A => by
    show StA A (rusF E (ruF E A r) R)
    exact StA_tr st_ru st_rus
theorem nz_end {E : En} {A : Pt} {c : Nat} (d : Nat) (h : nz5 (qsd A d)) : nz5 (qsd (endF E A c) d) := by
  have key : nz5 (fuI (qsd A) c (sdV E A c) d) := by
    unfold fuI
    split
    · rename_i e
      unfold sdV
      split
      · exact nz5_4
      · split
        · exact nz5_3
        · rw [← e]
          exact h
    · exact h
  by_cases h2 : sdV E A c = 2
  · rw [endF_2 h2]
    exact key
  · by_cases h3 : sdV E A c = 3
    · rw [endF_3 h3]
      exact key
    · rw [endF_n h2 h3]
      exact key
theorem st_stp {E : En} {A : Pt} : StA A (stpF E A) := by
  cases e : qe A with
  | nil =>
    rw [stpF_n e]
    exact StA_rf A
  | cons c t => exact StA_mv (by rw [stpF_c e]; exact end_q.2.2.1) (fun d => cn_stp d) (fun d h => by
      rw [stpF_c e]
      exact nz_end (A := we A t) d h)
theorem st_ends {E : En} {A : Pt} : ∀ n, StA A (endsF E n A)
  | 0 => StA_rf A
  | n + 1 => StA_tr (st_ends n) st_stp
theorem st_dra {A : Pt} : StA A (DRa A) := ⟨fun c z => by
  rcases z with z | ⟨m, hm, hi⟩
  · exact Or.inl z
  · have hm' : m ∈ capG (qg A) (MTa A) := hm
    unfold capG at hm'
    split at hm'
    · rcases List.mem_append.mp hm' with y | y
      · exact Or.inr ⟨m, y, hi⟩
      · rw [List.mem_singleton.mp y] at hi
        obtain ⟨z, hz, ez⟩ := inB_i.mp hi
        obtain ⟨d, hd, ed⟩ := List.mem_map.mp hz
        refine Or.inl ?_
        have : 0 < (qe A).count c := List.count_pos_iff.mpr (by
          rw [← ez, ← ed]
          exact hd)
        unfold cnA
        omega
    · exact Or.inr ⟨m, hm', hi⟩, fun _ h => h⟩
theorem st_drw {E : En} {A : Pt} : StA A (drwF E A) := by
  have h1 : StA A (drwB E A) := StA_tr st_dra (st_ends _)
  by_cases h : 300 ≤ (qg (drwB E A)).length
  · rw [drwF_c h]
    exact StA_tr h1 st_cut
  · rw [drwF_n h]
    exact h1
theorem st_tic {E : En} {R : List Ru} {A : Pt} : StA A (ticF E R A).1 := by
  have h1 : StA A (wtk A (qtk A + 1)) := StA_mv rfl (fun _ => Nat.le_refl _) (fun _ h => h)
  have h2 : StA A (seaF E (wtk A (qtk A + 1))) := StA_tr h1 st_sea
  have h3 : StA A (ticB E R A) := by
    unfold ticB
    split
    · exact StA_tr h2 st_rus
    · exact h2
  by_cases c1 : 0 < (qst (ticB E R A)).toInt
  · rw [ticF_s c1]
    exact StA_tr h3 st_wst
  · by_cases c2 : qe (ticB E R A) = []
    · rw [ticF_0 c1 c2]
      exact h3
    · rw [ticF_d c1 c2]
      exact StA_tr h3 st_drw
theorem st_run {E : En} {R : List Ru} {A : Pt} : ∀ n, StA A (runF E R n A).1
  | 0 => StA_rf A
  | n + 1 => StA_tr (st_run n) st_tic
theorem fil_in : ∀ {L : List Nat} {A : Pt}, (∀ c, InA (filF A L) c → InA A c ∨ c ∈ L) ∧ (∀ c, nz5 (qsd A c) → nz5 (qsd (filF A L) c)) ∧ (∀ c, c ∈ L → nz5 (qsd (filF A L) c)) ∧ qg (filF A L) = qg A
  | [], A => ⟨fun c h => Or.inl h, fun _ h => h, fun c h => absurd h List.not_mem_nil, rfl⟩
  | a :: t, A => by
    obtain ⟨h1, h2, h3, h4⟩ := fil_in (L := t) (A := recF A a)
    have r2 : ∀ c, nz5 (qsd A c) → nz5 (qsd (recF A a) c) := fun c h => nz_fu nz5_1 c h
    have r3 : nz5 (qsd (recF A a) a) := by
      show nz5 (fuI (qsd A) a 1 a)
      unfold fuI
      rw [if_pos rfl]
      exact nz5_1
    refine ⟨fun c h => ?_, fun c h => h2 c (r2 c h), fun c h => ?_, h4⟩
    · rcases h1 c h with z | z
      · rcases z with z | z
        · by_cases e : c = a
          · exact Or.inr (by rw [e]; exact List.mem_cons_self)
          · refine Or.inl (Or.inl ?_)
            have k := cap_cn (n := 600) (L := qb A) (c := a) (d := c)
            have k0 : [a].count c = 0 := List.count_eq_zero.mpr (fun y => e (List.mem_singleton.mp y))
            have z' : 0 < (capL 600 (qb A) a).count c + (qe A).count c + (ql A).count c := z
            unfold cnA
            omega
        · exact Or.inl (Or.inr z)
      · exact Or.inr (List.mem_cons_of_mem _ z)
    · rcases List.mem_cons.mp h with z | z
      · rw [z]
        exact h2 a r3
      · exact h3 c z
/-! ===== what the reference's rows tell is told once ===== -/
theorem row_u {S : PS} {R n n' : Nat} {L L' : List Nat} (h : RowIs S R L n) (h' : RowIs S R L' n') : L = L' := by
  obtain ⟨q, a1, a2, a3, a4⟩ := h
  obtain ⟨q', b1, b2, b3, b4⟩ := h'
  rw [a1] at b1
  cases b1
  have hn : n = n' := a2.symm.trans b2
  subst hn
  have hl : L.length = L'.length := by omega
  refine List.ext_getElem? (fun k => ?_)
  by_cases hk : k < L.length
  · exact (a4 k hk).symm.trans (b4 k (by omega))
  · rw [List.getElem?_eq_none (by omega), List.getElem?_eq_none (by omega)]
theorem row_el {S : PS} {R n c : Nat} {L : List Nat} (hG : GX S) (hR : At S R 5) (h : RowIs S R L n) (hc : c ∈ L) : At S c 0 := by
  obtain ⟨q, a1, a2, a3, a4⟩ := h
  obtain ⟨q', n', b1, b2, -⟩ := gRow hG hR
  rw [a1] at b1
  cases b1
  obtain ⟨k, hk⟩ := List.mem_iff_getElem?.mp hc
  exact gEl_16 hG b2 _ c ((a4 k (List.getElem?_eq_some_iff.mp hk).1).trans hk)
theorem RowIs_bk {M : List Nat} {S T : PS} {R n : Nat} {L : List Nat} (hG : GX S) (hR : At S R 5) (hF : Fr M S T) (hM : ([500, 501, 502, 10016] : List Nat).all (fun g => !M.contains g) = true) (h : RowIs T R L n) : RowIs S R L n := by
  obtain ⟨q, a1, a2, a3, a4⟩ := h
  rw [frR hF (g := 501) (allc hM (by decide)) hR.1] at a1
  obtain ⟨q', n', b1, b2, -⟩ := gRow hG hR
  have hq : At S q 16 := by
    rw [a1] at b1
    cases b1
    exact b2
  rw [hF.I' (g := 500) (allc hM (by decide)) hR rfl] at a3
  rw [hF.I' (g := 502) (allc hM (by decide)) hR rfl, hF.B' (allc hM (by decide)) hq] at a4
  exact ⟨q, a1, (hF.1 q hq.1).2.2.symm.trans a2, a3, a4⟩
theorem mt_u {S : PS} {x m : Nat} {t t' : Mt} (h : MtR S x m t) (h' : MtR S x m t') : t = t' := by
  have hl : t.length = t'.length := by
    have a := h.1
    have b := h'.1
    omega
  refine List.ext_getElem? (fun k => ?_)
  by_cases hk : k < t.length
  · obtain ⟨z, hz⟩ : ∃ z, t[k]? = some z := ⟨_, List.getElem?_eq_getElem hk⟩
    obtain ⟨y, hy⟩ : ∃ y, t'[k]? = some y := ⟨_, List.getElem?_eq_getElem (by omega)⟩
    obtain ⟨a1, a2, a3⟩ := h.2 k z hz
    obtain ⟨b1, b2, b3⟩ := h'.2 k y hy
    have e1 : z.1 = y.1 := by omega
    have e2 : z.2 = y.2 := Int32.toInt_inj.mp (by omega)
    rw [hz, hy]
    exact congrArg some (Prod.ext e1 e2)
  · rw [List.getElem?_eq_none (by omega), List.getElem?_eq_none (by omega)]
theorem gr_u {S : PS} {x p : Nat} {g g' : List Mt} (h : GrW S x p g) (h' : GrW S x p g') : g = g' := by
  have hl : g.length = g'.length := by
    have a := h.1
    have b := h'.1
    omega
  refine List.ext_getElem? (fun k => ?_)
  by_cases hk : k < g.length
  · obtain ⟨z, hz⟩ : ∃ z, g[k]? = some z := ⟨_, List.getElem?_eq_getElem hk⟩
    obtain ⟨y, hy⟩ : ∃ y, g'[k]? = some y := ⟨_, List.getElem?_eq_getElem (by omega)⟩
    rw [hz, hy, mt_u (h.2 k z hz) (h'.2 k y hy)]
  · rw [List.getElem?_eq_none (by omega), List.getElem?_eq_none (by omega)]
/-- the metres of a skein, as the reference has them -/
def GsW (S : PS) (x k : Nat) (g : List Mt) : Prop := zA S x 1239 (k + 1) = zA S x 1239 k + (g.length : Int) ∧ ∀ (j : Nat) (t : Mt), g[j]? = some t → MtR S x ((zA S x 1239 k).toNat + j) t
theorem gs_u {S : PS} {x k : Nat} {g g' : List Mt} (h : GsW S x k g) (h' : GsW S x k g') : g = g' := by
  have hl : g.length = g'.length := by
    have a := h.1
    have b := h'.1
    omega
  refine List.ext_getElem? (fun j => ?_)
  by_cases hk : j < g.length
  · obtain ⟨z, hz⟩ : ∃ z, g[j]? = some z := ⟨_, List.getElem?_eq_getElem hk⟩
    obtain ⟨y, hy⟩ : ∃ y, g'[j]? = some y := ⟨_, List.getElem?_eq_getElem (by omega)⟩
    rw [hz, hy, mt_u (h.2 j z hz) (h'.2 j y hy)]
  · rw [List.getElem?_eq_none (by omega), List.getElem?_eq_none (by omega)]
theorem mtN_u {ν : Nat → Nat} {D : Nat → Prop} (hI : Inj ν D) : ∀ {t t' : Mt}, (∀ z, z ∈ t → D z.1) → (∀ z, z ∈ t' → D z.1) → mtN ν t = mtN ν t' → t = t'
  | [], [], _, _, _ => rfl
  | [], _ :: _, _, _, e => by cases e
  | _ :: _, [], _, _, e => by cases e
  | a :: t, b :: t', h, h', e => by
    have e' : (ν a.1, a.2) :: mtN ν t = (ν b.1, b.2) :: mtN ν t' := e
    injection e' with e1 e2
    injection e1 with e3 e4
    have e5 : a.1 = b.1 := hI _ _ (h a List.mem_cons_self) (h' b List.mem_cons_self) e3
    rw [mtN_u hI (fun z hz => h z (List.mem_cons_of_mem _ hz)) (fun z hz => h' z (List.mem_cons_of_mem _ hz)) e2, show a = b from Prod.ext e5 e4]
theorem gN_u {ν : Nat → Nat} {D : Nat → Prop} (hI : Inj ν D) : ∀ {g g' : List Mt}, (∀ m, m ∈ g → ∀ z, z ∈ m → D z.1) → (∀ m, m ∈ g' → ∀ z, z ∈ m → D z.1) → g.map (mtN ν) = g'.map (mtN ν) → g = g'
  | [], [], _, _, _ => rfl
  | [], _ :: _, _, _, e => by cases e
  | _ :: _, [], _, _, e => by cases e
  | a :: t, b :: t', h, h', e => by
    have e' : mtN ν a :: t.map (mtN ν) = mtN ν b :: t'.map (mtN ν) := e
    injection e' with e1 e2
    rw [gN_u hI (fun m hm => h m (List.mem_cons_of_mem _ hm)) (fun m hm => h' m (List.mem_cons_of_mem _ hm)) e2, mtN_u hI (h a List.mem_cons_self) (h' b List.mem_cons_self) e1]
theorem gN_nu {D : Nat → Prop} {g : List Mt} {ν ν' : Nat → Nat} (h : ∀ m, m ∈ g → ∀ z, z ∈ m → D z.1) (e : ∀ c, D c → ν' c = ν c) : g.map (mtN ν') = g.map (mtN ν) := List.map_congr_left (fun m hm => List.map_congr_left (fun z hz => by
  show (ν' z.1, z.2) = (ν z.1, z.2)
  rw [e z.1 (h m hm z hz)]))
theorem nd_of : ∀ {L : List Nat} {c : Nat}, (∀ i j : Nat, i < j → L[i]? = some c → L[j]? = some c → False) → L.count c ≤ 1
  | [], _, _ => Nat.zero_le _
  | a :: t, c, h => by
    rw [con_cn]
    have ih : t.count c ≤ 1 := nd_of (fun i j hij hi hj => h (i + 1) (j + 1) (by omega) (by rw [List.getElem?_cons_succ]; exact hi) (by rw [List.getElem?_cons_succ]; exact hj))
    have h1 : [a].count c ≤ 1 := List.count_le_length
    by_cases e : a = c
    · have : t.count c = 0 := List.count_eq_zero.mpr (fun z => by
        obtain ⟨k, hk⟩ := List.mem_iff_getElem?.mp z
        exact h 0 (k + 1) (by omega) (by rw [List.getElem?_cons_zero, e]) (by rw [List.getElem?_cons_succ]; exact hk))
      omega
    · have : [a].count c = 0 := List.count_eq_zero.mpr (fun z => e (List.mem_singleton.mp z).symm)
      omega
theorem row_cn {S : PS} {mo r : Nat} {L : List Nat} {ν : Nat → Nat} (hMI : MI S mo) (hr : r < 12) (h : RowR S mo r (L.map ν)) (c : Nat) : L.count c ≤ 1 ∧ (0 < L.count c → zA S mo 1207 (ν c) = ((r % 3 + 1 : Nat) : Int)) := by
  have hl : zA S mo 1219 r = (L.length : Int) := by
    have a := h.1
    rw [List.length_map] at a
    exact a
  have hc : ∀ k, L[k]? = some c → zA S mo 1218 (600 * r + k) = ((ν c : Nat) : Int) ∧ (k : Int) < zA S mo 1219 r := fun k hk => by
    refine ⟨h.2 k (ν c) (by rw [List.getElem?_map, hk]; rfl), ?_⟩
    have := (List.getElem?_eq_some_iff.mp hk).1
    omega
  refine ⟨nd_of (fun i j hij hi hj => ?_), fun z => ?_⟩
  · obtain ⟨a1, a2⟩ := hc i hi
    obtain ⟨b1, b2⟩ := hc j hj
    exact hMI.2.2.1 r i j hr hij b2 (a1.trans b1.symm)
  · obtain ⟨k, hk⟩ := List.mem_iff_getElem?.mp (List.count_pos_iff.mp z)
    obtain ⟨a1, a2⟩ := hc k hk
    have m := (hMI.2.1 r k hr a2).2.2.1
    rw [a1, Int.toNat_natCast] at m
    exact m
theorem cn_of {S : PS} {mo p : Nat} {ν : Nat → Nat} {A : Pt} (hMI : MI S mo) (hp : p < 4) (h : PW S mo (p : Int) (rnA ν A)) (c : Nat) : cnA A c ≤ 1 := by
  obtain ⟨h0, h1, h2, -⟩ := h
  have a : RowR S mo (3 * p) ((qb A).map ν) := by
    have e : (3 * (p : Int) + 0).toNat = 3 * p := by omega
    rw [e] at h0
    exact h0
  have b : RowR S mo (3 * p + 1) ((qe A).map ν) := by
    have e : (3 * (p : Int) + 1).toNat = 3 * p + 1 := by omega
    rw [e] at h1
    exact h1
  have d : RowR S mo (3 * p + 2) ((ql A).map ν) := by
    have e : (3 * (p : Int) + 2).toNat = 3 * p + 2 := by omega
    rw [e] at h2
    exact h2
  obtain ⟨a1, a2⟩ := row_cn hMI (by omega) a c
  obtain ⟨b1, b2⟩ := row_cn hMI (by omega) b c
  obtain ⟨d1, d2⟩ := row_cn hMI (by omega) d c
  unfold cnA
  rcases Nat.eq_zero_or_pos ((qb A).count c) with x | x <;> rcases Nat.eq_zero_or_pos ((qe A).count c) with y | y <;> rcases Nat.eq_zero_or_pos ((ql A).count c) with z | z
  · omega
  · omega
  · omega
  · have := b2 y
    have := d2 z
    omega
  · omega
  · have := a2 x
    have := d2 z
    omega
  · have := a2 x
    have := b2 y
    omega
  · have := a2 x
    have := b2 y
    omega
theorem cd_inj {S : PS} {x mo : Nat} (hG : GX S) (hx : At S x 11) (ct : CT S x mo) : ∀ c d, DC S x c → DC S x d → cdS S c = cdS S d → c = d := by
  have hr := gI_11_1102 hG hx
  have key : ∀ c, DC S x c → ∃ l i : Nat, (i : Int) < 60 ∧ mB S x 1100 (60 * l + i) = some c ∧ (cdS S c).toInt = (l : Int) * 100 + (i : Int) := fun c ⟨l, i, k1, k2, k3⟩ => by
    have b1 := il60 hG hx l
    obtain ⟨c', c1, -, c3, c4, -⟩ := CT_get (l := (l : Int)) (i := (i : Int)) ct (by omega) k1 (by omega) k2 (by omega)
    rw [show (60 * (l : Int) + (i : Int)).toNat = 60 * l + i by omega, k3] at c1
    cases c1
    have t0 : (pI S 0 c).toInt = (l : Int) := by
      rw [c3, Int32.toInt_ofInt]
      exact bm_id (by omega) (by omega)
    have t1 : (pI S 1 c).toInt = (i : Int) := by
      rw [c4, Int32.toInt_ofInt]
      exact bm_id (by omega) (by omega)
    have t2 : (pI S 0 c * 100).toInt = (l : Int) * 100 := z_mul rfl t0 (show (100 : Int32).toInt = 100 by decide) (by omega) (by omega)
    exact ⟨l, i, by omega, k3, z_add rfl t2 t1 (by omega) (by omega)⟩
  intro c d hc hd e
  obtain ⟨l, i, a1, a2, a3⟩ := key c hc
  obtain ⟨l', i', b1, b2, b3⟩ := key d hd
  rw [e, b3] at a3
  have e1 : l = l' := by omega
  have e2 : i = i' := by omega
  rw [e1, e2, b2] at a2
  exact (Option.some.inj a2).symm
/-! ===== pieces among the ties ===== -/
def RwO (S : PS) (P : Nat) : Prop := ∀ (g R : Nat) (L : List Nat) (n c : Nat), g ∈ rowG → pR S g P = some R → RowIs S R L n → c ∈ L → pI S 5 c = pI S 410 P ∧ nz5 (pI S 3 c)
def PgQ (S : PS) (x mo : Nat) (ν : Nat → Nat) (p P G : Nat) (g : List Mt) : Prop := GrW S mo p (g.map (mtN ν)) ∧ (∀ m, m ∈ g → ∀ z, z ∈ m → DC S x z.1 ∧ pI S 5 z.1 = pI S 410 P ∧ nz5 (pI S 3 z.1)) ∧ DsO S G ∧ PieV S G g ∧ LpZ S g
def SkQ (S : PS) (x mo : Nat) (ν : Nat → Nat) (K : Nat) : Prop := ∀ k o b : Nat, (k : Int) < (pI S 800 K).toInt → mB S K 808 k = some o → pR S 703 o = some b → ∃ g, GsW S mo k (g.map (mtN ν)) ∧ (∀ m, m ∈ g → ∀ z, z ∈ m → DC S x z.1) ∧ PieV S b g
def PcO (S : PS) (x : Nat) : Prop := ∀ p q P Q G H : Nat, (p : Int) < (pI S 1104 x).toInt → (q : Int) < (pI S 1104 x).toInt → p ≠ q → mB S x 1103 p = some P → mB S x 1103 q = some Q → pR S 403 P = some G → pR S 403 Q = some H → ∀ g g', g ∈ pcG → g' ∈ pcG → pR S g G ≠ pR S g' H
def PcT (S : PS) (x mo : Nat) : Prop := ∀ ν, NuP S x ν → (∀ K, pR S 1107 x = some K → SkQ S x mo ν K) ∧ (∀ p P G : Nat, (p : Int) < (pI S 1104 x).toInt → mB S x 1103 p = some P → pR S 403 P = some G → RwO S P ∧ ∃ g, PgQ S x mo ν p P G g) ∧ PcO S x
def pctN : List Nat := [1107, 800, 808, 10019, 703, 1104, 1103, 10018, 403, 400, 401, 402, 500, 501, 502, 10016, 410, 5, 0, 1, 6, 904, 905, 906, 907, 908, 10014, 11654, 1235, 1236, 1237, 1239, 10914, 10934, 10954, 10994]
def pctL : List Nat := szC ++ pctN
def pctM : List Nat := pctL ++ [3]
def skqL : List Nat := [800, 808, 10019, 703, 0, 1, 6, 904, 905, 906, 907, 908, 10014, 11654, 1235, 1236, 1239, 10914, 10934, 10994]
theorem NuP_bk {M : List Nat} {S T : PS} {x : Nat} {ν : Nat → Nat} (hG : GX S) (hx : At S x 11) (hF : Fr M S T) (hM : szC.all (fun g => !M.contains g) = true) (h : NuP T x ν) : NuP S x ν := fun l i c h1 h2 h3 => by
  obtain ⟨a1, a2, a3⟩ := sz_same hG hx hF hM
  exact h l i c (by rw [a1]; exact h1) (by rw [a2]; exact h2) (by rw [a3]; exact h3)
theorem rw_g {S : PS} {P g R : Nat} (hG : GX S) (hP : At S P 4) (hg : g ∈ rowG) (h : pR S g P = some R) : At S R 5 := by
  simp only [rowG, List.mem_cons, List.not_mem_nil, or_false] at hg
  rcases hg with e | e | e <;> subst e
  · exact row_at hG hP (Or.inl h)
  · exact row_at hG hP (Or.inr (Or.inl h))
  · exact row_at hG hP (Or.inr (Or.inr h))
theorem mt_fr3 {M : List Nat} {S T : PS} {mo m : Nat} {t : Mt} (hG : GX S) (hm : At S mo 12) (hF : Fr M S T) (hM : ([1235, 1236, 10914, 10934] : List Nat).all (fun g => !M.contains g) = true) (h : MtR S mo m t) : MtR T mo m t := MtR_eq (zA_fr hF hm (ex3 (gQ_12_1235 hG hm)) (allc hM (by decide)) (allc hM (by decide))) (zA_fr hF hm (ex3 (gQ_12_1236 hG hm)) (allc hM (by decide)) (allc hM (by decide))) h
theorem GsW_fr {M : List Nat} {S T : PS} {mo k : Nat} {g : List Mt} (hG : GX S) (hm : At S mo 12) (hF : Fr M S T) (hM : ([1235, 1236, 10914, 10934, 1239, 10994] : List Nat).all (fun g => !M.contains g) = true) (h : GsW S mo k g) : GsW T mo k g := by
  have e : zA T mo 1239 = zA S mo 1239 := zA_fr hF hm (ex3 (gQ_12_1239 hG hm)) (allc hM (by decide)) (allc hM (by decide))
  unfold GsW
  rw [e]
  exact ⟨h.1, fun j t hj => mt_fr3 hG hm hF (sub_all hM (by decide)) (h.2 j t hj)⟩
theorem GrW_fr {M : List Nat} {S T : PS} {mo p : Nat} {g : List Mt} (hG : GX S) (hm : At S mo 12) (hF : Fr M S T) (hM : ([1235, 1236, 10914, 10934, 1237, 10954] : List Nat).all (fun g => !M.contains g) = true) (h : GrW S mo p g) : GrW T mo p g := GrW_eq (zA_fr hF hm (ex3 (gQ_12_1235 hG hm)) (allc hM (by decide)) (allc hM (by decide))) (zA_fr hF hm (ex3 (gQ_12_1236 hG hm)) (allc hM (by decide)) (allc hM (by decide))) (congrFun (zA_fr hF hm (ex3 (gQ_12_1237 hG hm)) (allc hM (by decide)) (allc hM (by decide))) p) h
def pieL : List Nat := [0, 1, 6, 904, 905, 906, 907, 908, 10014, 11654]
theorem pie_pk {M : List Nat} (hM : pieL.all (fun g => !M.contains g) = true) {g : Nat} (hg : g ∈ pcG) : M.contains g = false := allc hM (by
  simp only [pcG, List.mem_cons, List.not_mem_nil, or_false] at hg
  simp only [pieL, List.mem_cons, List.not_mem_nil, or_false]
  omega)
theorem cd_fr {M : List Nat} {S T : PS} {c : Nat} (hF : Fr M S T) (h0 : M.contains 0 = false) (h1 : M.contains 1 = false) (hc : At S c 0) : cdS T c = cdS S c := by
  unfold cdS
  rw [hF.I' (g := 0) h0 hc rfl, hF.I' (g := 1) h1 hc rfl]
theorem PieV_fr {M : List Nat} {S T : PS} {q : Nat} {g : List Mt} (hG : GX S) (hq : At S q 9 ∨ At S q 29) (hg : MtA S g) (hF : Fr M S T) (hM : pieL.all (fun g => !M.contains g) = true) (h : PieV S q g) : PieV T q g := PieV_to (hq.elim (fun z => hF.I' (g := 904) (allc hM (by decide)) z rfl) (fun z => hF.I' (g := 904) (allc hM (by decide)) z rfl)) (fun k hk => mA_rw (frR hF (pie_pk hM hk) (hq.elim (fun z => z.1) (fun z => z.1))) (fun b hb => hq.elim (fun z => hF.A' (allc hM (by decide)) (pc_ar9 hG z hk hb)) (fun z => hF.A' (allc hM (by decide)) (pc_ar hG z hk hb)))) (fun i p hp => cd_fr hF (allc hM (by decide)) (allc hM (by decide)) (pc_at hg hp)) h
theorem LpZ_fr {M : List Nat} {S T : PS} {g : List Mt} (hg : MtA S g) (hF : Fr M S T) (h6 : M.contains 6 = false) (h : LpZ S g) : LpZ T g := fun i p hp hl => by
  rw [hF.I' (g := 6) h6 (pc_at hg hp) rfl]
  exact h i p hp hl
theorem SkQ_fr {M : List Nat} {S T : PS} {x mo K : Nat} {ν : Nat → Nat} (hG : GX S) (hx : At S x 11) (hm : At S mo 12) (hK : At S K 8) (hF : Fr M S T) (hM : skqL.all (fun g => !M.contains g) = true) (hd : ∀ c, DC S x c → DC T x c) (h : SkQ S x mo ν K) : SkQ T x mo ν K := fun k o b h1 h2 h3 => by
  rw [hF.I' (g := 800) (allc hM (by decide)) hK rfl] at h1
  rw [mB_frc hF hK (ex3 (gQ_8_808 hG hK)) (allc hM (by decide)) (allc hM (by decide))] at h2
  have ho := sk_at hG hK h2
  rw [frR hF (g := 703) (allc hM (by decide)) ho.1] at h3
  obtain ⟨g, k1, k2, k3⟩ := h k o b h1 h2 h3
  exact ⟨g, GsW_fr hG hm hF (sub_all hM (by decide)) k1, fun m hm' z hz => hd _ (k2 m hm' z hz), PieV_fr hG (Or.inl (sk_str hG ho h3)) (fun m hm' z hz => dc_at hG hx _ (k2 m hm' z hz)) hF (sub_all hM (by decide)) k3⟩
theorem RwO_fr {M : List Nat} {S T : PS} {P : Nat} (hG : GX S) (hP : At S P 4) (hF : Fr M S T) (hM : ([400, 401, 402, 500, 501, 502, 10016, 5, 410] : List Nat).all (fun g => !M.contains g) = true) (h3 : ∀ c, At S c 0 → nz5 (pI S 3 c) → nz5 (pI T 3 c)) (h : RwO S P) : RwO T P := fun g R L n c hg hR hL hc => by
  have hk : M.contains g = false := allc hM (by
    simp only [rowG, List.mem_cons, List.not_mem_nil, or_false] at hg
    simp only [List.mem_cons, List.not_mem_nil, or_false]
    omega)
  rw [frR hF hk hP.1] at hR
  have hR5 := rw_g hG hP hg hR
  have hL' := RowIs_bk hG hR5 hF (sub_all hM (by decide)) hL
  have hc0 := row_el hG hR5 hL' hc
  obtain ⟨a, b⟩ := h g R L n c hg hR hL' hc
  rw [hF.I' (g := 5) (allc hM (by decide)) hc0 rfl, hF.I' (g := 410) (allc hM (by decide)) hP rfl]
  exact ⟨a, h3 c hc0 b⟩
theorem PcT_g {M : List Nat} {S T : PS} {x mo : Nat} (hG : GX S) (hx : At S x 11) (hm : At S mo 12) (hF : Fr M S T) (hM : pctN.all (fun g => !M.contains g) = true) (hd : ∀ c, DC S x c → DC T x c) (hn : ∀ ν, NuP T x ν → NuP S x ν) (h3 : ∀ c, At S c 0 → nz5 (pI S 3 c) → nz5 (pI T 3 c)) (h : PcT S x mo) : PcT T x mo := fun ν hν => by
  obtain ⟨h1, h2, h4⟩ := h ν (hn ν hν)
  have e4 : pI T 1104 x = pI S 1104 x := hF.I' (allc hM (by decide)) hx rfl
  have eB : mB T x 1103 = mB S x 1103 := mB_frc hF hx (ex3 (gQ_11_1103 hG hx)) (allc hM (by decide)) (allc hM (by decide))
  refine ⟨fun K hK => ?_, fun p P G hp hP hq => ?_, fun p q P Q G H hp hq hne hP hQ hg hh g g' kg kg' => ?_⟩
  · rw [frR hF (g := 1107) (allc hM (by decide)) hx.1] at hK
    exact SkQ_fr hG hx hm (st_at hG hx hK) hF (sub_all hM (by decide)) hd (h1 K hK)
  · rw [e4] at hp
    rw [eB] at hP
    have hP4 := pot_at hG hx hP
    rw [frR hF (g := 403) (allc hM (by decide)) hP4.1] at hq
    obtain ⟨a, g, b1, b2, b3, b4, b5⟩ := h2 p P G hp hP hq
    have hG9 := sd_at hG hP4 hq
    have ha : MtA S g := fun m hm' z hz => dc_at hG hx _ (b2 m hm' z hz).1
    refine ⟨RwO_fr hG hP4 hF (sub_all hM (by decide)) h3 a, g, GrW_fr hG hm hF (sub_all hM (by decide)) b1, fun m hm' z hz => ?_, DsO_to (fun k hk => frR hF (pie_pk (sub_all hM (by decide)) hk) hG9.1) b3, PieV_fr hG (Or.inr hG9) ha hF (sub_all hM (by decide)) b4, LpZ_fr ha hF (allc hM (by decide)) b5⟩
    obtain ⟨c1, c2, c3⟩ := b2 m hm' z hz
    have hc0 := ha m hm' z hz
    rw [hF.I' (g := 5) (allc hM (by decide)) hc0 rfl, hF.I' (g := 410) (allc hM (by decide)) hP4 rfl]
    exact ⟨hd _ c1, c2, h3 _ hc0 c3⟩
  · rw [e4] at hp hq
    rw [eB] at hP hQ
    have hP4 := pot_at hG hx hP
    have hQ4 := pot_at hG hx hQ
    rw [frR hF (g := 403) (allc hM (by decide)) hP4.1] at hg
    rw [frR hF (g := 403) (allc hM (by decide)) hQ4.1] at hh
    rw [frR hF (pie_pk (sub_all hM (by decide)) kg) (sd_at hG hP4 hg).1, frR hF (pie_pk (sub_all hM (by decide)) kg') (sd_at hG hQ4 hh).1]
    exact h4 p q P Q G H hp hq hne hP hQ hg hh g g' kg kg'
theorem PcT_f3 {M : List Nat} {S T : PS} {x mo : Nat} (hG : GX S) (hx : At S x 11) (hm : At S mo 12) (hF : Fr M S T) (hM : pctL.all (fun g => !M.contains g) = true) (h3 : ∀ c, At S c 0 → nz5 (pI S 3 c) → nz5 (pI T 3 c)) (h : PcT S x mo) : PcT T x mo := PcT_g hG hx hm hF (sub_all hM (by decide)) (dc_to hG hx hF (sub_all hM (by decide))) (fun ν hν => NuP_bk hG hx hF (sub_all hM (by decide)) hν) h3 h
theorem PcT_fr {M : List Nat} {S T : PS} {x mo : Nat} (hG : GX S) (hx : At S x 11) (hm : At S mo 12) (hF : Fr M S T) (hM : pctM.all (fun g => !M.contains g) = true) (h : PcT S x mo) : PcT T x mo := PcT_f3 hG hx hm hF (sub_all hM (by decide)) (fun c hc z => by
  rw [hF.I' (g := 3) (allc hM (by decide)) hc rfl]
  exact z) h
theorem PcT_0 {S : PS} {x mo : Nat} (h4 : pI S 1104 x = 0) (h8 : ∀ K, pR S 1107 x = some K → pI S 800 K = 0) : PcT S x mo := fun ν _ => by
  have e0 : (0 : Int32).toInt = 0 := by decide
  have n4 : ∀ l : Nat, ¬ (l : Int) < (pI S 1104 x).toInt := fun l z => by rw [h4, e0] at z; omega
  exact ⟨fun K hK k o b z => by rw [h8 K hK, e0] at z; omega, fun p P G hp => absurd hp (n4 p), fun p q P Q G H hp => absurd hp (n4 p)⟩
/-- the skeins' pieces, as the ties have them -/
theorem skp_of {S : PS} {x mo K : Nat} {ν : Nat → Nat} {sk : List Sk} (hG : GX S) (hx : At S x 11) (hN : NuP S x ν) (hV : SkV S (DC S x) K sk) (hW : SkW S mo (sk.map (skN ν))) (hQ : SkQ S x mo ν K) : SkP S K sk := fun k s hs => by
  obtain ⟨o, j1, b, f, j2, j3, j4, j5, -⟩ := hV.2 k s hs
  have hl := (List.getElem?_eq_some_iff.mp hs).1
  have h8 := hV.1
  obtain ⟨g, k1, k2, k3⟩ := hQ k o b (by omega) j1 j2
  have hr := hW.2 k (skN ν s) (by rw [List.getElem?_map, hs]; rfl)
  have eg : g = s.2.2.2 := gN_u (nu_inj hG hx hN) k2 (fun m hm z hz => (j5.2.2.1 m hm z hz).1) (gs_u k1 ⟨hr.2.1, hr.2.2⟩)
  rw [eg] at k2 k3
  exact ⟨o, b, j1, j2, k3, fun m hm z hz => dc_at hG hx _ (k2 m hm z hz)⟩
def pc1L : List Nat := szC ++ [1107, 1104, 1103, 10018, 403, 400, 401, 402, 501, 410, 5, 0, 1, 703, 1235, 1236, 1237, 10914, 10934, 10954]
def pc2L : List Nat := szC ++ [1107, 800, 808, 10019, 703, 1104, 1103, 10018, 403, 400, 401, 402, 500, 501, 502, 10016, 410, 5, 3, 0, 1, 6, 904, 905, 906, 907, 908, 10014, 11654]
/-- a pot's step: the class's, then the reference's -/
theorem pc_step {M1 M2 : List Nat} {S1 S2 S3 : PS} {x mo K p P R0 R1 R2 G : Nat} {ν : Nat → Nat} {sk : List Sk} {A A' B' : Pt} {R : List Ru} (hG1 : GX S1) (hG2 : GX S2) (hx : At S1 x 11) (hm : At S1 mo 12) (hF1 : Fr M1 S1 S2) (hF2 : Fr M2 S2 S3) (hM1 : pc1L.all (fun g => !M1.contains g) = true) (hM2 : pc2L.all (fun g => !M2.contains g) = true) (ct : CT S1 x mo) (hMI : MI S1 mo) (hGR : GR S1 mo) (hw : TPw S1 x mo ν K sk) (hp : (p : Int) < (pI S1 1104 x).toInt) (h : PT1 S1 x mo ν p P R0 R1 R2 G A R)
    (hV : PotV S2 (DC S1 x) P R0 R1 R2 G K A') (hX : PotX S1 S2 P R0 R1 R2 G) (hPz : PzT S1 S2 (DC S1 x) G K (cA S1 A sk) A') (hSt : StA (cA S1 A sk) A') (hW : PotW S3 mo (p : Int) B') (hY : PwX S2 S3 mo (p : Int)) (hR : Ren ν (DC S1 x) A' B') (h0 : PcT S1 x mo) : PcT S3 x mo := fun ν' hν3 => by
  have hx2 := hF1.at hx
  have hm2 := hF1.at hm
  have hν1 := NuP_bk hG1 hx hF1 (sub_all hM1 (by decide)) (NuP_bk hG2 hx2 hF2 (sub_all hM2 (by decide)) hν3)
  obtain ⟨hN1, hK1, hsk, -, hpots, -, hOW⟩ := hw
  obtain ⟨s1, s2, s3⟩ := h0 ν hN1
  have eν : ∀ c, DC S1 x c → ν' c = ν c := fun c ⟨l, i, k1, k2, k3⟩ => (hν1 l i c k1 k2 k3).trans (hN1 l i c k1 k2 k3).symm
  have hI := nu_inj hG1 hx hN1
  have d12 := dc_to hG1 hx hF1 (sub_all hM1 (by decide))
  have d23 := dc_to hG2 hx2 hF2 (sub_all hM2 (by decide))
  have hp4 : p < 4 := by
    have := gI_11_1104 hG1 hx
    omega
  have hP := pot_at hG1 hx h.1
  have hr3 := h.2.1.2.2.2.1
  have hGs := sd_at hG1 hP hr3
  have hKs := st_at hG1 hx hK1
  obtain ⟨rwP, g, g1, g2, g3, g4, g5⟩ := s2 p P G hp h.1 hr3
  have hMt := h.2.2.1.2.2.2.2.2.1.2.2.1
  have hPW := h.2.2.2.2.1
  have hGr : GrW S1 mo p ((qg A).map (mtN ν)) := by
    have z := hPW.2.2.2.2.2.1
    rw [Int.toNat_natCast] at z
    exact z
  have eg : g = qg A := gN_u hI (fun m hm' z hz => (g2 m hm' z hz).1) (fun m hm' z hz => (hMt m hm' z hz).1) (gr_u g1 hGr)
  subst eg
  have hInD : InD (DC S1 x) A := h.2.2.1.2.2.2.2.2.2.2.2
  have hmemD : ∀ c, 0 < cnA A c → DC S1 x c := fun c z => by
    unfold cnA at z
    rcases Nat.eq_zero_or_pos ((qb A).count c) with y | y
    · rcases Nat.eq_zero_or_pos ((qe A).count c) with w | w
      · exact hInD c (Or.inr (Or.inr (List.count_pos_iff.mp (by omega))))
      · exact hInD c (Or.inr (Or.inl (List.count_pos_iff.mp w)))
    · exact hInD c (Or.inl (List.count_pos_iff.mp y))
  have hW1 : PzW S1 (DC S1 x) G K (cA S1 A sk) := by
    refine ⟨⟨g3, cd_inj hG1 hx ct, dc_at hG1 hx, fun m hm' => ⟨?_, fun z hz => (g2 m hm' z hz).1⟩, fun c => ⟨cn_of hMI hp4 hPW c, hmemD c⟩, skp_of hG1 hx hN1 hsk.1 hsk.2.1 (s1 K hK1)⟩, g4, g5⟩
    obtain ⟨k, hk0⟩ := List.mem_iff_getElem?.mp hm'
    have hk : (qg A)[k]? = some m := hk0
    have z := MtR_w hG1 hm (hGr.2 k (mtN ν m) (by rw [List.getElem?_map, hk]; rfl))
    have e : (mtN ν m).length = m.length := List.length_map ..
    omega
  have hlen : (qg (cA S1 A sk)).length < 300 := by
    have z1 := hGr.1
    have z2 := hGR p hp4
    rw [List.length_map] at z1
    show (qg A).length < 300
    omega
  obtain ⟨⟨z1, z5, z6⟩, -, zX, zc⟩ := hPz hW1 hlen
  obtain ⟨x1, x2, x3, x4, x5⟩ := zX
  obtain ⟨y1, -, -, y4, y5, y6⟩ := z1
  have hCo := hV.2.2.2.2.2.2.2.2.2.1
  have hGs2 := x1 G 29 hGs
  have hKs2 := x1 K 8 hKs
  have hRw : ∀ c, 0 < cnA A c → pI S1 5 c = pI S1 410 P ∧ nz5 (pI S1 3 c) := fun c z => by
    have hv := h.2.2.1
    unfold cnA at z
    rcases Nat.eq_zero_or_pos ((qb A).count c) with y | y
    · rcases Nat.eq_zero_or_pos ((qe A).count c) with w | w
      · exact rwP 402 R2 _ _ c (by decide) h.2.1.2.2.1 hv.2.2.1 (List.count_pos_iff.mp (by omega))
      · exact rwP 401 R1 _ _ c (by decide) h.2.1.2.1 hv.2.1 (List.count_pos_iff.mp w)
    · exact rwP 400 R0 _ _ c (by decide) h.2.1.1 hv.1 (List.count_pos_iff.mp y)
  have hin : ∀ c, InA A c → DC S1 x c ∧ pI S1 5 c = pI S1 410 P ∧ nz5 (pI S1 3 c) := fun c z => by
    rcases z with z | ⟨m, hm', hi⟩
    · exact ⟨hmemD c z, hRw c z⟩
    · obtain ⟨y, hy, ey⟩ := inB_i.mp hi
      rw [← ey]
      exact g2 m hm' y hy
  have f5 : ∀ c, At S1 c 0 → pI S3 5 c = pI S1 5 c := fun c hc => (hF2.I' (g := 5) (allc hM2 (by decide)) (hF1.at hc) rfl).trans (hF1.I' (g := 5) (allc hM1 (by decide)) hc rfl)
  have f410 : ∀ Q, At S1 Q 4 → pI S3 410 Q = pI S1 410 Q := fun Q hQ => (hF2.I' (g := 410) (allc hM2 (by decide)) (hF1.at hQ) rfl).trans (hF1.I' (g := 410) (allc hM1 (by decide)) hQ rfl)
  have f3 : ∀ c, DC S1 x c → nz5 (pI S1 3 c) → nz5 (pI S3 3 c) := fun c hc z => by
    rw [hF2.I' (g := 3) (allc hM2 (by decide)) (hF1.at (dc_at hG1 hx c hc)) rfl, (hCo c hc).2]
    exact hSt.2 c z
  have hnew : ∀ c, InA A' c → DC S1 x c ∧ pI S3 5 c = pI S3 410 P ∧ nz5 (pI S3 3 c) := fun c z => by
    obtain ⟨a1, a2, a3⟩ := hin c (hSt.1 c z)
    rw [f5 c (dc_at hG1 hx c a1), f410 P hP]
    exact ⟨a1, a2, f3 c a1 a3⟩
  have e4 : pI S3 1104 x = pI S1 1104 x := (hF2.I' (allc hM2 (by decide)) hx2 rfl).trans (hF1.I' (allc hM1 (by decide)) hx rfl)
  have eB : mB S3 x 1103 = mB S1 x 1103 := (mB_frc hF2 hx2 (ex3 (gQ_11_1103 hG2 hx2)) (allc hM2 (by decide)) (allc hM2 (by decide))).trans (mB_frc hF1 hx (ex3 (gQ_11_1103 hG1 hx)) (allc hM1 (by decide)) (allc hM1 (by decide)))
  have e403 : ∀ Q, At S1 Q 4 → pR S3 403 Q = pR S1 403 Q := fun Q hQ => (frR hF2 (g := 403) (allc hM2 (by decide)) (hF1.at hQ).1).trans (frR hF1 (g := 403) (allc hM1 (by decide)) hQ.1)
  have erow : ∀ g Q, g ∈ rowG → At S1 Q 4 → pR S3 g Q = pR S1 g Q := fun g Q hg hQ => by
    have k2 : M2.contains g = false := allc hM2 (by
      simp only [rowG, List.mem_cons, List.not_mem_nil, or_false] at hg
      simp only [pc2L, szC, List.mem_append, List.mem_cons, List.not_mem_nil, or_false]
      omega)
    have k1 : M1.contains g = false := allc hM1 (by
      simp only [rowG, List.mem_cons, List.not_mem_nil, or_false] at hg
      simp only [pc1L, szC, List.mem_append, List.mem_cons, List.not_mem_nil, or_false]
      omega)
    exact (frR hF2 k2 (hF1.at hQ).1).trans (frR hF1 k1 hQ.1)
  have epc : ∀ g b, g ∈ pcG → At S2 b 29 → pR S3 g b = pR S2 g b := fun g b hg hb => frR hF2 (pie_pk (sub_all hM2 (by decide)) hg) hb.1
  have cd12 : ∀ c, At S1 c 0 → cdS S2 c = cdS S1 c := fun c hc => cd_fr hF1 (allc hM1 (by decide)) (allc hM1 (by decide)) hc
  -- another pot: its cocoons are not in this one's rows
  have hoth : ∀ q Q H : Nat, (q : Int) < (pI S1 1104 x).toInt → q ≠ p → mB S1 x 1103 q = some Q → pR S1 403 Q = some H → H ≠ G ∧ pI S1 410 Q ≠ pI S1 410 P := fun q Q H hq hn hQ hH => by
    obtain ⟨Q', Q0, Q1, Q2, H', C, RQ, hq1⟩ := hpots q hq
    have e1 : Q' = Q := Option.some.inj (hq1.1.symm.trans hQ)
    subst e1
    have ow := hOW.1 p q P Q' hp hq (fun z => hn z.symm) h.1 hq1.1
    refine ⟨fun z => ow.2.2.1.1 (by rw [hr3, hH, z]), fun z => hn ?_⟩
    rw [hq1.2.2.2.2.2.2.2.1, h.2.2.2.2.2.2.2.1] at z
    have b1 := gI_11_1104 hG1 hx
    have z1 := congrArg Int32.toInt z
    have t4 : ∀ k : Nat, k < 4 → (Int32.ofInt (k : Int)).toInt = (k : Int) := fun k hk => by
      rw [Int32.toInt_ofInt]
      exact bm_id (by omega) (by omega)
    rw [t4 q (by omega), t4 p hp4] at z1
    omega
  refine ⟨fun K' hK' => ?_, fun q Q H hq hQ hH => ?_, fun q q' Q Q' H H' hq hq' hn hQ hQ' hH hH' k k' hk hk' => ?_⟩
  · rw [frR hF2 (g := 1107) (allc hM2 (by decide)) hx2.1, frR hF1 (g := 1107) (allc hM1 (by decide)) hx.1, hK1] at hK'
    cases hK'
    intro k o b k1 k2 k3
    have hSV := hV.2.2.2.2.2.2.2.2.1
    rw [hF2.I' (g := 800) (allc hM2 (by decide)) hKs2 rfl, hSV.1] at k1
    rw [mB_frc hF2 hKs2 (ex3 (gQ_8_808 hG2 hKs2)) (allc hM2 (by decide)) (allc hM2 (by decide))] at k2
    have ho2 := sk_at hG2 hKs2 k2
    rw [frR hF2 (g := 703) (allc hM2 (by decide)) ho2.1] at k3
    obtain ⟨s, hs⟩ : ∃ s, (qsk A')[k]? = some s := ⟨_, List.getElem?_eq_getElem (by omega)⟩
    obtain ⟨o', b', j1, j2, j3, j4⟩ := y6 k s hs
    rw [k2] at j1
    cases j1
    rw [k3] at j2
    cases j2
    obtain ⟨o2, i1, b2, f2, i2, i3, i4, i5, -⟩ := hSV.2 k s hs
    have hD := i5.2.2.1
    refine ⟨s.2.2.2, ?_, fun m hm' z hz => d23 _ (d12 _ (hD m hm' z hz).1), PieV_fr hG2 (Or.inl (sk_str hG2 ho2 k3)) j4 hF2 (sub_all hM2 (by decide)) j3⟩
    rw [gN_nu (fun m hm' z hz => (hD m hm' z hz).1) eν]
    have hr := hW.2.2.2.2.2.2.2.2.1.2 k (skN ν s) (by rw [hR.2.2.2.2.2.2.2.1, List.getElem?_map, hs]; rfl)
    exact ⟨hr.2.1, hr.2.2⟩
  · rw [e4] at hq
    rw [eB] at hQ
    have hQ4 := pot_at hG1 hx hQ
    rw [e403 Q hQ4] at hH
    have hH9 := sd_at hG1 hQ4 hH
    by_cases e : q = p
    · subst e
      rw [h.1] at hQ
      cases hQ
      rw [hr3] at hH
      cases hH
      have hPR2 := PotR_fr hG1 hP hF1 (sub_all hM1 (by decide)) h.2.1
      refine ⟨fun k Rr L n c hk hRr hL hc => ?_, qg A', ?_, fun m hm' z hz => ?_, DsO_to (fun k hk => epc k G hk hGs2) y1, PieV_fr hG2 (Or.inr hGs2) (fun m hm' z hz => hF1.at (dc_at hG1 hx _ ((y4 m hm').2 z hz))) hF2 (sub_all hM2 (by decide)) z5, LpZ_fr (fun m hm' z hz => hF1.at (dc_at hG1 hx _ ((y4 m hm').2 z hz))) hF2 (allc hM2 (by decide)) z6⟩
      · rw [erow k P hk hP] at hRr
        have hR5 : At S2 Rr 5 := hF1.at (rw_g hG1 hP hk hRr)
        have hL2 := RowIs_bk hG2 hR5 hF2 (sub_all hM2 (by decide)) hL
        refine (hnew c (Or.inl ?_)).2
        simp only [rowG, List.mem_cons, List.not_mem_nil, or_false] at hk
        unfold cnA
        rcases hk with z | z | z <;> subst z
        · rw [h.2.1.1] at hRr
          cases hRr
          rw [row_u hL2 hV.1] at hc
          have := List.count_pos_iff.mpr hc
          omega
        · rw [h.2.1.2.1] at hRr
          cases hRr
          rw [row_u hL2 hV.2.1] at hc
          have := List.count_pos_iff.mpr hc
          omega
        · rw [h.2.1.2.2.1] at hRr
          cases hRr
          rw [row_u hL2 hV.2.2.1] at hc
          have := List.count_pos_iff.mpr hc
          omega
      · rw [gN_nu (fun m hm' z hz => (y4 m hm').2 z hz) eν, ← hR.2.2.2.2.2.1]
        have z := hW.2.2.2.2.2.1
        rw [Int.toNat_natCast] at z
        exact z
      · obtain ⟨a1, a2⟩ := hnew z.1 (Or.inr ⟨m, hm', inB_i.mpr ⟨z, hz, rfl⟩⟩)
        exact ⟨d23 _ (d12 _ a1), a2⟩
    · obtain ⟨hHG, h410⟩ := hoth q Q H hq e hQ hH
      obtain ⟨rwQ, gq, b1, b2, b3, b4, b5⟩ := s2 q Q H hq hQ hH
      obtain ⟨Q', Q0, Q1, Q2, H', C, RQ, hq1⟩ := hpots q hq
      have e1 : Q' = Q := Option.some.inj (hq1.1.symm.trans hQ)
      subst e1
      have ha1 : MtA S1 gq := fun m hm' z hz => dc_at hG1 hx _ (b2 m hm' z hz).1
      have ow := hOW.1 p q P Q' hp hq (fun z => e z.symm) h.1 hq1.1
      have hH2 := x1 H 29 hH9
      have hpcH := (x3 H (Or.inr ⟨hH9, hHG⟩)).2
      have hPie : PieV S2 H gq := PieV_to (x3 H (Or.inr ⟨hH9, hHG⟩)).1 (fun k hk => mA_rw (hpcH k hk) (fun b hb => x4 b (pc_ar hG1 hH9 hk hb) (fun k' hk' z => s3 q p Q' P H G hq hp e hQ h.1 hH hr3 k k' hk hk' (by rw [hb, z])))) (fun i pc hpc => cd12 _ (pc_at ha1 hpc)) b4
      have hLp : LpZ S2 gq := fun i pc hpc hl => by
        obtain ⟨t, w1, w2⟩ := pcs_in hpc
        obtain ⟨z, w3, w4⟩ := inB_i.mp w2
        have hno : ¬ 0 < cnA A pc.1 := fun y => h410 (by
          rw [← (hRw pc.1 y).1, ← w4]
          exact (b2 t (List.mem_of_getElem? w1) z w3).2.1.symm)
        rw [x2 pc.1 (pc_at ha1 hpc) hno]
        exact b5 i pc hpc hl
      refine ⟨fun k Rr L n c hk hRr hL hc => ?_, gq, ?_, fun m hm' z hz => ?_, DsO_to (fun k hk => (epc k H hk hH2).trans (hpcH k hk)) b3, PieV_fr hG2 (Or.inr hH2) (fun m hm' z hz => hF1.at (ha1 m hm' z hz)) hF2 (sub_all hM2 (by decide)) hPie, LpZ_fr (fun m hm' z hz => hF1.at (ha1 m hm' z hz)) hF2 (allc hM2 (by decide)) hLp⟩
      · rw [erow k Q' hk hQ4] at hRr
        have hR5 := rw_g hG1 hQ4 hk hRr
        have hL2 := RowIs_bk hG2 (hF1.at hR5) hF2 (sub_all hM2 (by decide)) hL
        have nR : ∀ j S', j ∈ rowG → pR S1 j P = some S' → Rr ≠ S' ∧ pR S1 501 Rr ≠ pR S1 501 S' := fun j S' hj hS' => by
          obtain ⟨n1, n2⟩ := ow.2.1 j k hj hk S' Rr hS' hRr
          exact ⟨fun z => n1 z.symm, fun z => n2 z.symm⟩
        have keep : ∀ L0 n0, RowIs S1 Rr L0 n0 → RowIs S2 Rr L0 n0 := fun L0 n0 hL0 => hX.2.1 Rr hR5 (nR 400 R0 (by decide) h.2.1.1).1 (nR 401 R1 (by decide) h.2.1.2.1).1 (nR 402 R2 (by decide) h.2.1.2.2.1).1 (nR 400 R0 (by decide) h.2.1.1).2 (nR 401 R1 (by decide) h.2.1.2.1).2 (nR 402 R2 (by decide) h.2.1.2.2.1).2 L0 n0 hL0
        have hvq := hq1.2.2.1
        have fin : ∀ L0 n0, RowIs S1 Rr L0 n0 → (∀ d, d ∈ L0 → DC S1 x d) → pI S3 5 c = pI S3 410 Q' ∧ nz5 (pI S3 3 c) := fun L0 n0 hL0 hd0 => by
          have hc1 : c ∈ L0 := by
            rw [← row_u hL2 (keep L0 n0 hL0)]
            exact hc
          obtain ⟨a1, a2⟩ := rwQ k Rr L0 n0 c hk hRr hL0 hc1
          have hcD := hd0 c hc1
          rw [f5 c (dc_at hG1 hx c hcD), f410 Q' hQ4]
          exact ⟨a1, f3 c hcD a2⟩
        simp only [rowG, List.mem_cons, List.not_mem_nil, or_false] at hk
        have hInQ : InD (DC S1 x) C := hvq.2.2.2.2.2.2.2.2
        rcases hk with z | z | z <;> subst z
        · rw [hq1.2.1.1] at hRr
          cases hRr
          exact fin _ _ hvq.1 (fun d hd => hInQ d (Or.inl hd))
        · rw [hq1.2.1.2.1] at hRr
          cases hRr
          exact fin _ _ hvq.2.1 (fun d hd => hInQ d (Or.inr (Or.inl hd)))
        · rw [hq1.2.1.2.2.1] at hRr
          cases hRr
          exact fin _ _ hvq.2.2.1 (fun d hd => hInQ d (Or.inr (Or.inr hd)))
      · rw [gN_nu (fun m hm' z hz => (b2 m hm' z hz).1) eν]
        exact hY.2.2 q _ (by rw [Int.toNat_natCast]; exact e) (GrW_fr hG1 hm hF1 (sub_all hM1 (by decide)) b1)
      · obtain ⟨a1, a2, a3⟩ := b2 m hm' z hz
        rw [f5 _ (dc_at hG1 hx _ a1), f410 Q' hQ4]
        exact ⟨d23 _ (d12 _ a1), a2, f3 _ a1 a3⟩
  · rw [e4] at hq hq'
    rw [eB] at hQ hQ'
    have hQ4 := pot_at hG1 hx hQ
    have hQ4' := pot_at hG1 hx hQ'
    rw [e403 Q hQ4] at hH
    rw [e403 Q' hQ4'] at hH'
    have hH9 := sd_at hG1 hQ4 hH
    have hH9' := sd_at hG1 hQ4' hH'
    rw [epc k H hk (x1 H 29 hH9), epc k' H' hk' (x1 H' 29 hH9')]
    by_cases e : q = p
    · subst e
      rw [h.1] at hQ
      cases hQ
      rw [hr3] at hH
      cases hH
      have hne := (hoth q' Q' H' hq' (fun z => hn z.symm) hQ' hH').1
      rw [(x3 H' (Or.inr ⟨hH9', hne⟩)).2 k' hk']
      rcases x5 k hk with w | ⟨a, w1, w2⟩
      · rw [w]
        exact s3 q q' P Q' G H' hq hq' hn h.1 hQ' hr3 hH' k k' hk hk'
      · rw [w1]
        exact fun z => w2 (pc_ar hG1 hH9' hk' z.symm).1
    · have hne := (hoth q Q H hq e hQ hH).1
      rw [(x3 H (Or.inr ⟨hH9, hne⟩)).2 k hk]
      by_cases e' : q' = p
      · subst e'
        rw [h.1] at hQ'
        cases hQ'
        rw [hr3] at hH'
        cases hH'
        rcases x5 k' hk' with w | ⟨a, w1, w2⟩
        · rw [w]
          exact s3 q q' Q P H G hq hq' hn hQ h.1 hH hr3 k k' hk hk'
        · rw [w1]
          exact fun z => w2 (pc_ar hG1 hH9 hk z).1
      · have hne' := (hoth q' Q' H' hq' e' hQ' hH').1
        rw [(x3 H' (Or.inr ⟨hH9', hne'⟩)).2 k' hk']
        exact s3 q q' Q Q' H H' hq hq' hn hQ hQ' hH hH' k k' hk hk'
/-! ===== pieces: a pot is filled ===== -/
def pc3L : List Nat := szC ++ [1107, 1104, 1103, 10018, 403, 400, 401, 402, 501, 410] ++ skqL ++ [1237, 10954]
theorem pc_fill {M1 M2 : List Nat} {S1 S2 S3 : PS} {x mo K p P R0 R1 R2 G : Nat} {l f n : Int} {ν : Nat → Nat} {sk : List Sk} {A : Pt} {R : List Ru} (hG1 : GX S1) (hG2 : GX S2) (hx : At S1 x 11) (hm : At S1 mo 12) (hF1 : Fr M1 S1 S2) (hF2 : Fr M2 S2 S3) (hM1 : pc3L.all (fun g => !M1.contains g) = true) (hM2 : (pc3L ++ [500, 502, 10016, 5, 3]).all (fun g => !M2.contains g) = true) (hw : TPw S1 x mo ν K sk) (hp : (p : Int) < (pI S1 1104 x).toInt) (h : PT1 S1 x mo ν p P R0 R1 R2 G A R)
    (hch : ∀ j : Int, f ≤ j → j < f + n → InC S1 x l j ∧ ∃ c, mB S1 x 1100 (60 * l + j).toNat = some c ∧ pI S1 3 c = 0) (hV : PotV S2 (DC S1 x) P R0 R1 R2 G K (filF (cA S1 A sk) (cocL S1 x l f n.toNat))) (hX : PotX S1 S2 P R0 R1 R2 G) (ha3 : ∀ d, At S1 d 0 → (∀ j : Int, f ≤ j → j < f + n → mB S1 x 1100 (60 * l + j).toNat ≠ some d) → pI S2 5 d = pI S1 5 d) (ha4 : ∀ j : Int, f ≤ j → j < f + n → ∀ d, mB S1 x 1100 (60 * l + j).toNat = some d → pI S2 5 d = pI S1 410 P) (h0 : PcT S1 x mo) : PcT S3 x mo := fun ν' hν3 => by
  have hx2 := hF1.at hx
  have hm2 := hF1.at hm
  have hν1 := NuP_bk hG1 hx hF1 (sub_all hM1 (by decide)) (NuP_bk hG2 hx2 hF2 (sub_all hM2 (by decide)) hν3)
  obtain ⟨hN1, hK1, hsk, -, hpots, -, hOW⟩ := hw
  obtain ⟨s1, s2, s3⟩ := h0 ν' hν1
  have d12 := dc_to hG1 hx hF1 (sub_all hM1 (by decide))
  have d23 := dc_to hG2 hx2 hF2 (sub_all hM2 (by decide))
  have hP := pot_at hG1 hx h.1
  have hCo := hV.2.2.2.2.2.2.2.2.2.1
  obtain ⟨i1, i2, i3, -⟩ := fil_in (L := cocL S1 x l f n.toNat) (A := cA S1 A sk)
  have f5 : ∀ c, At S1 c 0 → nz5 (pI S1 3 c) → pI S3 5 c = pI S1 5 c := fun c hc z => by
    rw [hF2.I' (g := 5) (allc hM2 (by decide)) (hF1.at hc) rfl]
    refine ha3 c hc (fun j j1 j2 hj => ?_)
    obtain ⟨-, c', k1, k2⟩ := hch j j1 j2
    rw [hj] at k1
    cases k1
    rw [k2] at z
    exact z.1 (by decide)
  have f3 : ∀ c, DC S1 x c → nz5 (pI S1 3 c) → nz5 (pI S3 3 c) := fun c hc z => by
    rw [hF2.I' (g := 3) (allc hM2 (by decide)) (hF1.at (dc_at hG1 hx c hc)) rfl, (hCo c hc).2]
    exact i2 c z
  have f410 : ∀ Q, At S1 Q 4 → pI S3 410 Q = pI S1 410 Q := fun Q hQ => (hF2.I' (g := 410) (allc hM2 (by decide)) (hF1.at hQ) rfl).trans (hF1.I' (g := 410) (allc hM1 (by decide)) hQ rfl)
  have e4 : pI S3 1104 x = pI S1 1104 x := (hF2.I' (allc hM2 (by decide)) hx2 rfl).trans (hF1.I' (allc hM1 (by decide)) hx rfl)
  have eB : mB S3 x 1103 = mB S1 x 1103 := (mB_frc hF2 hx2 (ex3 (gQ_11_1103 hG2 hx2)) (allc hM2 (by decide)) (allc hM2 (by decide))).trans (mB_frc hF1 hx (ex3 (gQ_11_1103 hG1 hx)) (allc hM1 (by decide)) (allc hM1 (by decide)))
  have e403 : ∀ Q, At S1 Q 4 → pR S3 403 Q = pR S1 403 Q := fun Q hQ => (frR hF2 (g := 403) (allc hM2 (by decide)) (hF1.at hQ).1).trans (frR hF1 (g := 403) (allc hM1 (by decide)) hQ.1)
  have erow : ∀ g Q, g ∈ rowG → At S1 Q 4 → pR S3 g Q = pR S1 g Q := fun g Q hg hQ => by
    have k0 : g ∈ ([400, 401, 402] : List Nat) := hg
    have k2 : M2.contains g = false := allc (sub_all (L' := [400, 401, 402]) hM2 (by decide)) k0
    have k1 : M1.contains g = false := allc (sub_all (L' := [400, 401, 402]) hM1 (by decide)) k0
    exact (frR hF2 k2 (hF1.at hQ).1).trans (frR hF1 k1 hQ.1)
  have epc : ∀ g b, g ∈ pcG → At S1 b 29 → pR S3 g b = pR S1 g b := fun g b hg hb => (frR hF2 (pie_pk (sub_all hM2 (by decide)) hg) (hF1.at hb).1).trans (frR hF1 (pie_pk (sub_all hM1 (by decide)) hg) hb.1)
  refine ⟨fun K' hK' => ?_, fun q Q H hq hQ hH => ?_, fun q q' Q Q' H H' hq hq' hn hQ hQ' hH hH' k k' hk hk' => ?_⟩
  · rw [frR hF2 (g := 1107) (allc hM2 (by decide)) hx2.1, frR hF1 (g := 1107) (allc hM1 (by decide)) hx.1] at hK'
    have hK4 := st_at hG1 hx hK'
    exact SkQ_fr hG2 hx2 hm2 (hF1.at hK4) hF2 (sub_all hM2 (by decide)) d23 (SkQ_fr hG1 hx hm hK4 hF1 (sub_all hM1 (by decide)) d12 (s1 K' hK'))
  · rw [e4] at hq
    rw [eB] at hQ
    have hQ4 := pot_at hG1 hx hQ
    rw [e403 Q hQ4] at hH
    have hH9 := sd_at hG1 hQ4 hH
    obtain ⟨rwQ, gq, b1, b2, b3, b4, b5⟩ := s2 q Q H hq hQ hH
    have ha1 : MtA S1 gq := fun m hm' z hz => dc_at hG1 hx _ (b2 m hm' z hz).1
    have ha2 : MtA S2 gq := fun m hm' z hz => hF1.at (ha1 m hm' z hz)
    refine ⟨fun k Rr L n' c hk hRr hL hc => ?_, gq, GrW_fr hG2 hm2 hF2 (sub_all hM2 (by decide)) (GrW_fr hG1 hm hF1 (sub_all hM1 (by decide)) b1), fun m hm' z hz => ?_, DsO_to (fun k hk => epc k H hk hH9) b3, PieV_fr hG2 (Or.inr (hF1.at hH9)) ha2 hF2 (sub_all hM2 (by decide)) (PieV_fr hG1 (Or.inr hH9) ha1 hF1 (sub_all hM1 (by decide)) b4), LpZ_fr ha2 hF2 (allc hM2 (by decide)) (LpZ_fr ha1 hF1 (allc hM1 (by decide)) b5)⟩
    · rw [erow k Q hk hQ4] at hRr
      have hR5 := rw_g hG1 hQ4 hk hRr
      have hL2 := RowIs_bk hG2 (hF1.at hR5) hF2 (sub_all hM2 (by decide)) hL
      by_cases e : q = p
      · subst e
        rw [h.1] at hQ
        cases hQ
        have hin : InA (filF (cA S1 A sk) (cocL S1 x l f n.toNat)) c := by
          refine Or.inl ?_
          simp only [rowG, List.mem_cons, List.not_mem_nil, or_false] at hk
          unfold cnA
          rcases hk with z | z | z <;> subst z
          · rw [h.2.1.1] at hRr
            cases hRr
            rw [row_u hL2 hV.1] at hc
            have := List.count_pos_iff.mpr hc
            omega
          · rw [h.2.1.2.1] at hRr
            cases hRr
            rw [row_u hL2 hV.2.1] at hc
            have := List.count_pos_iff.mpr hc
            omega
          · rw [h.2.1.2.2.1] at hRr
            cases hRr
            rw [row_u hL2 hV.2.2.1] at hc
            have := List.count_pos_iff.mpr hc
            omega
        have hcD : DC S1 x c := by
          have hInD := hV.2.2.2.2.2.2.2.2.2.2
          simp only [rowG, List.mem_cons, List.not_mem_nil, or_false] at hk
          rcases hk with z | z | z <;> subst z
          · rw [h.2.1.1] at hRr
            cases hRr
            rw [row_u hL2 hV.1] at hc
            exact hInD c (Or.inl hc)
          · rw [h.2.1.2.1] at hRr
            cases hRr
            rw [row_u hL2 hV.2.1] at hc
            exact hInD c (Or.inr (Or.inl hc))
          · rw [h.2.1.2.2.1] at hRr
            cases hRr
            rw [row_u hL2 hV.2.2.1] at hc
            exact hInD c (Or.inr (Or.inr hc))
        have hc0 := dc_at hG1 hx c hcD
        rcases i1 c hin with w | w
        · have hold : pI S1 5 c = pI S1 410 P ∧ nz5 (pI S1 3 c) := by
            rcases w with w | ⟨m, hm', hi⟩
            · have hv := h.2.2.1
              have w' : 0 < cnA A c := w
              unfold cnA at w'
              rcases Nat.eq_zero_or_pos ((qb A).count c) with y | y
              · rcases Nat.eq_zero_or_pos ((qe A).count c) with u | u
                · exact rwQ 402 R2 _ _ c (by decide) h.2.1.2.2.1 hv.2.2.1 (List.count_pos_iff.mp (by omega))
                · exact rwQ 401 R1 _ _ c (by decide) h.2.1.2.1 hv.2.1 (List.count_pos_iff.mp u)
              · exact rwQ 400 R0 _ _ c (by decide) h.2.1.1 hv.1 (List.count_pos_iff.mp y)
            · have hI := nu_inj hG1 hx hN1
              have eν : ∀ c, DC S1 x c → ν' c = ν c := fun c ⟨l, i, k1, k2, k3⟩ => (hν1 l i c k1 k2 k3).trans (hN1 l i c k1 k2 k3).symm
              have hMt := h.2.2.1.2.2.2.2.2.1.2.2.1
              have hGr : GrW S1 mo q ((qg A).map (mtN ν)) := by
                have z := h.2.2.2.2.1.2.2.2.2.2.1
                rw [Int.toNat_natCast] at z
                exact z
              rw [gN_nu (fun m hm' z hz => (b2 m hm' z hz).1) eν] at b1
              have eg : gq = qg A := gN_u hI (fun m hm' z hz => (b2 m hm' z hz).1) (fun m hm' z hz => (hMt m hm' z hz).1) (gr_u b1 hGr)
              obtain ⟨y, hy, ey⟩ := inB_i.mp hi
              rw [← ey]
              exact (b2 m (by rw [eg]; exact hm') y hy).2
          rw [f5 c hc0 hold.2, f410 P hP]
          exact ⟨hold.1, f3 c hcD hold.2⟩
        · obtain ⟨j, hj, ej⟩ := List.mem_map.mp w
          have hj' := List.mem_range.mp hj
          obtain ⟨-, c', k1, -⟩ := hch (f + (j : Int)) (by omega) (by omega)
          have ec : c = c' := by
            rw [← ej, k1]
            rfl
          refine ⟨?_, ?_⟩
          · rw [hF2.I' (g := 5) (allc hM2 (by decide)) (hF1.at hc0) rfl, f410 P hP]
            exact ha4 (f + (j : Int)) (by omega) (by omega) c (by rw [k1, ec])
          · rw [hF2.I' (g := 3) (allc hM2 (by decide)) (hF1.at hc0) rfl, (hCo c hcD).2]
            exact i3 c w
      · obtain ⟨Q', Q0, Q1, Q2, H', C, RQ, hq1⟩ := hpots q hq
        have e1 : Q' = Q := Option.some.inj (hq1.1.symm.trans hQ)
        subst e1
        have ow := hOW.1 p q P Q' hp hq (fun z => e z.symm) h.1 hq1.1
        have nR : ∀ j S', j ∈ rowG → pR S1 j P = some S' → Rr ≠ S' ∧ pR S1 501 Rr ≠ pR S1 501 S' := fun j S' hj hS' => by
          obtain ⟨n1, n2⟩ := ow.2.1 j k hj hk S' Rr hS' hRr
          exact ⟨fun z => n1 z.symm, fun z => n2 z.symm⟩
        have keep : ∀ L0 n0, RowIs S1 Rr L0 n0 → RowIs S2 Rr L0 n0 := fun L0 n0 hL0 => hX.2.1 Rr hR5 (nR 400 R0 (by decide) h.2.1.1).1 (nR 401 R1 (by decide) h.2.1.2.1).1 (nR 402 R2 (by decide) h.2.1.2.2.1).1 (nR 400 R0 (by decide) h.2.1.1).2 (nR 401 R1 (by decide) h.2.1.2.1).2 (nR 402 R2 (by decide) h.2.1.2.2.1).2 L0 n0 hL0
        have hvq := hq1.2.2.1
        have fin : ∀ L0 n0, RowIs S1 Rr L0 n0 → (∀ d, d ∈ L0 → DC S1 x d) → pI S3 5 c = pI S3 410 Q' ∧ nz5 (pI S3 3 c) := fun L0 n0 hL0 hd0 => by
          have hc1 : c ∈ L0 := by
            rw [← row_u hL2 (keep L0 n0 hL0)]
            exact hc
          obtain ⟨a1, a2⟩ := rwQ k Rr L0 n0 c hk hRr hL0 hc1
          have hcD := hd0 c hc1
          rw [f5 c (dc_at hG1 hx c hcD) a2, f410 Q' hQ4]
          exact ⟨a1, f3 c hcD a2⟩
        have hInQ : InD (DC S1 x) C := hvq.2.2.2.2.2.2.2.2
        simp only [rowG, List.mem_cons, List.not_mem_nil, or_false] at hk
        rcases hk with z | z | z <;> subst z
        · rw [hq1.2.1.1] at hRr
          cases hRr
          exact fin _ _ hvq.1 (fun d hd => hInQ d (Or.inl hd))
        · rw [hq1.2.1.2.1] at hRr
          cases hRr
          exact fin _ _ hvq.2.1 (fun d hd => hInQ d (Or.inr (Or.inl hd)))
        · rw [hq1.2.1.2.2.1] at hRr
          cases hRr
          exact fin _ _ hvq.2.2.1 (fun d hd => hInQ d (Or.inr (Or.inr hd)))
    · obtain ⟨a1, a2, a3⟩ := b2 m hm' z hz
      rw [f5 _ (dc_at hG1 hx _ a1) a3, f410 Q hQ4]
      exact ⟨d23 _ (d12 _ a1), a2, f3 _ a1 a3⟩
  · rw [e4] at hq hq'
    rw [eB] at hQ hQ'
    have hQ4 := pot_at hG1 hx hQ
    have hQ4' := pot_at hG1 hx hQ'
    rw [e403 Q hQ4] at hH
    rw [e403 Q' hQ4'] at hH'
    rw [epc k H hk (sd_at hG1 hQ4 hH), epc k' H' hk' (sd_at hG1 hQ4' hH')]
    exact s3 q q' Q Q' H H' hq hq' hn hQ hQ' hH hH' k k' hk hk'
/-! ===== pieces: a lot, a pot, the shelves ===== -/
theorem pc_lot {S1 S2 S3 : PS} {x mo : Nat} {a1 a2 a3 a4 a5 : Int32} {a1_z : Int} (hG1 : GX S1) (hG2 : GX S2) (hx : At S1 x 11) (hm : At S1 mo 12) (hF1 : Fr MLt S1 S2) (hF2 : Fr M12t S2 S3) (h9 : (pI S2 1102 x).toInt = (pI S1 1102 x).toInt + 1) (hN : ∀ ca lz, pR S1 1100 x = some ca → pR S1 1101 x = some lz → NewC S1 S2 ca (60 * (pI S1 1102 x).toInt) a1_z (pI S1 1102 x) a2 a3 a4 a5 ∧ pA S2 lz = upd (pA S1 lz) (Int32.toNatClampNeg (pI S1 1102 x)) a1) (h : PcT S1 x mo) : PcT S3 x mo := by
  have hr := gI_11_1102 hG1 hx
  obtain ⟨ca, k1, k2, -⟩ := gQ_11_1100 hG1 hx
  obtain ⟨lz, k3, k4, -⟩ := gQ_11_1101 hG1 hx
  obtain ⟨⟨n1, n3⟩, n2⟩ := hN ca lz k1 k3
  have j1 : pR S2 1100 x = some ca := hF1.R' (by decide +kernel) hx k1
  have j3 : pR S2 1101 x = some lz := hF1.R' (by decide +kernel) hx k3
  have zn := z_nat (x := pI S1 1102 x) rfl hr.1
  have old : ∀ l i c : Nat, (l : Int) < (pI S1 1102 x).toInt → (i : Int) < zA S1 x 1101 l → mB S1 x 1100 (60 * l + i) = some c → (l : Int) < (pI S2 1102 x).toInt ∧ (i : Int) < zA S2 x 1101 l ∧ mB S2 x 1100 (60 * l + i) = some c := fun l i c q1 q2 q3 => by
    have b := il60 hG1 hx l
    refine ⟨by omega, ?_, ?_⟩
    · rw [zA_eq, mA_eq j3, n2, upd_if, if_neg (by omega), ← mA_eq k3, ← zA_eq]
      exact q2
    · rw [mB_eq j1, n3 (60 * l + i) (Or.inl (by omega)), ← mB_eq k1]
      exact q3
  exact PcT_fr hG2 (hF1.at hx) (hF1.at hm) hF2 (by decide +kernel) (PcT_g hG1 hx hm hF1 (by decide +kernel) (fun c ⟨l, i, q1, q2, q3⟩ => by
    obtain ⟨p1, p2, p3⟩ := old l i c q1 q2 q3
    exact ⟨l, i, p1, p2, p3⟩) (fun ν hν l i c q1 q2 q3 => by
    obtain ⟨p1, p2, p3⟩ := old l i c q1 q2 q3
    exact hν l i c p1 p2 p3) (fun c hc z => by
    rw [hF1.I' (g := 3) (by decide +kernel) hc rfl]
    exact z) h)
/-! ===== pieces: a pot is made; the shelves ===== -/
theorem pc_pot {S1 S2 S3 : PS} {x mo P : Nat} {n0 a1 a2 : Int32} (hG1 : GX S1) (hG2 : GX S2) (hx : At S1 x 11) (hm : At S1 mo 12) (hF1 : Fr ePT S1 S2) (hF2 : Fr MP S2 S3) (h4' : (pI S1 1104 x).toInt < 4) (h9 : (pI S2 1104 x).toInt = (pI S1 1104 x).toInt + 1) (hB : ∀ j, mB S2 x 1103 j = if j = (pI S1 1104 x).toInt.toNat then some P else mB S1 x 1103 j) (hN : PotN S1 S2 P n0 a1 a2) (hE : ∀ p : Nat, (pI S1 1104 x).toInt ≤ (p : Int) → p < 4 → PE S1 mo p) (h : PcT S1 x mo) : PcT S3 x mo := by
  refine PcT_fr hG2 (hF1.at hx) (hF1.at hm) hF2 (by decide +kernel) (fun ν hν => ?_)
  have hr := gI_11_1104 hG1 hx
  have hx2 := hF1.at hx
  have hm2 := hF1.at hm
  obtain ⟨s1, s2, s3⟩ := h ν (NuP_bk hG1 hx hF1 (by decide +kernel) hν)
  obtain ⟨R0, R1, R2, G, ρ, c0, c1, c2, ⟨a0, a1', a2', a3, -⟩, -, -, ⟨e0, e1, e2⟩, -, -, -, ⟨-, -, y3, y4, y5⟩, -⟩ := hN
  have d12 := dc_to hG1 hx hF1 (by decide +kernel)
  have hP2 : mB S2 x 1103 (pI S1 1104 x).toInt.toNat = some P := by rw [hB, if_pos rfl]
  have hPA := pot_at hG2 hx2 hP2
  have hGA := sd_at hG2 hPA a3
  have hz : ∀ R, pI S2 500 R = 0 → ∀ L n c, RowIs S2 R L n → c ∈ L → False := fun R h0 L n c hL hc => by
    obtain ⟨q, b1, b2, b3, b4⟩ := hL
    rw [h0, show (0 : Int32).toInt = 0 by decide] at b3
    have : L = [] := List.eq_nil_of_length_eq_zero (by omega)
    rw [this] at hc
    exact absurd hc List.not_mem_nil
  have hfr : ∀ k, k ∈ pcG → ∃ a, pR S2 k G = some a ∧ a ∉ pL S1 := fun k hk => by
    obtain ⟨q1, q2, q3, q4, n, r1, r2, r3, r4, -⟩ := gGrw hG2 hGA
    have k0 : k ∈ ([900, 901, 905, 906, 907, 908] : List Nat) := by
      simp only [pcG, List.mem_cons, List.not_mem_nil, or_false] at hk
      simp only [List.mem_cons, List.not_mem_nil, or_false]
      omega
    have k1 : ∃ a, pR S2 k G = some a := by
      simp only [pcG, List.mem_cons, List.not_mem_nil, or_false] at hk
      rcases hk with z | z | z | z <;> subst z
      · exact ⟨_, r1⟩
      · exact ⟨_, r2⟩
      · exact ⟨_, r3⟩
      · exact ⟨_, r4⟩
    obtain ⟨a, ha⟩ := k1
    exact ⟨a, ha, y3 k k0 a ha⟩
  have hold : ∀ q Q H : Nat, (q : Int) < (pI S2 1104 x).toInt → q ≠ (pI S1 1104 x).toInt.toNat → mB S2 x 1103 q = some Q → pR S2 403 Q = some H → (q : Int) < (pI S1 1104 x).toInt ∧ mB S1 x 1103 q = some Q ∧ At S1 Q 4 ∧ pR S1 403 Q = some H ∧ At S1 H 29 := fun q Q H hq hn hQ hH => by
    rw [hB, if_neg hn] at hQ
    have hQ4 := pot_at hG1 hx hQ
    rw [frR hF1 (g := 403) (by decide +kernel) hQ4.1] at hH
    exact ⟨by omega, hQ, hQ4, hH, sd_at hG1 hQ4 hH⟩
  have epc : ∀ k H, k ∈ pcG → At S1 H 29 → pR S2 k H = pR S1 k H := fun k H hk hH => frR hF1 (pie_pk (by decide +kernel) hk) hH.1
  refine ⟨fun K hK => ?_, fun q Q H hq hQ hH => ?_, fun q q' Q Q' H H' hq hq' hne hQ hQ' hH hH' k k' hk hk' => ?_⟩
  · rw [frR hF1 (g := 1107) (by decide +kernel) hx.1] at hK
    exact SkQ_fr hG1 hx hm (st_at hG1 hx hK) hF1 (by decide +kernel) d12 (s1 K hK)
  · by_cases e : q = (pI S1 1104 x).toInt.toNat
    · rw [e, hP2] at hQ
      cases hQ
      rw [a3] at hH
      cases hH
      refine ⟨fun g R L n c hg hR hL hc => ?_, [], ⟨?_, fun k t hk => by cases hk⟩, fun m hm' => absurd hm' List.not_mem_nil, y5, PieV_0 y4, LpZ_0 S2⟩
      · simp only [rowG, List.mem_cons, List.not_mem_nil, or_false] at hg
        rcases hg with z | z | z <;> subst z
        · rw [a0] at hR
          cases hR
          exact absurd hc (fun y => hz R0 e0 L n c hL y)
        · rw [a1'] at hR
          cases hR
          exact absurd hc (fun y => hz R1 e1 L n c hL y)
        · rw [a2'] at hR
          cases hR
          exact absurd hc (fun y => hz R2 e2 L n c hL y)
      · rw [zA_fr (g := 1237) hF1 hm (ex3 (gQ_12_1237 hG1 hm)) (by decide +kernel) (by decide +kernel), (hE q (by omega) (by omega)).2 1237 (by decide)]
        rfl
    · obtain ⟨k1, k2, k3, k4, k5⟩ := hold q Q H hq e hQ hH
      obtain ⟨a, g, b1, b2, b3, b4, b5⟩ := s2 q Q H k1 k2 k4
      have ha : MtA S1 g := fun m hm' z hz' => dc_at hG1 hx _ (b2 m hm' z hz').1
      refine ⟨RwO_fr hG1 k3 hF1 (by decide +kernel) (fun c hc z => by rw [hF1.I' (g := 3) (by decide +kernel) hc rfl]; exact z) a, g, GrW_fr hG1 hm hF1 (by decide +kernel) b1, fun m hm' z hz' => ?_, DsO_to (fun k hk => epc k H hk k5) b3, PieV_fr hG1 (Or.inr k5) ha hF1 (by decide +kernel) b4, LpZ_fr ha hF1 (by decide +kernel) b5⟩
      obtain ⟨c1', c2', c3'⟩ := b2 m hm' z hz'
      have hc0 := ha m hm' z hz'
      rw [hF1.I' (g := 5) (by decide +kernel) hc0 rfl, hF1.I' (g := 410) (by decide +kernel) k3 rfl, hF1.I' (g := 3) (by decide +kernel) hc0 rfl]
      exact ⟨d12 _ c1', c2', c3'⟩
  · by_cases e : q = (pI S1 1104 x).toInt.toNat
    · rw [e, hP2] at hQ
      cases hQ
      rw [a3] at hH
      cases hH
      obtain ⟨k1, k2, k3, k4, k5⟩ := hold q' Q' H' hq' (fun z => hne (by omega)) hQ' hH'
      obtain ⟨a, w1, w2⟩ := hfr k hk
      rw [w1, epc k' H' hk' k5]
      exact fun z => w2 (pc_ar hG1 k5 hk' z.symm).1
    · obtain ⟨k1, k2, k3, k4, k5⟩ := hold q Q H hq e hQ hH
      rw [epc k H hk k5]
      by_cases e' : q' = (pI S1 1104 x).toInt.toNat
      · rw [e', hP2] at hQ'
        cases hQ'
        rw [a3] at hH'
        cases hH'
        obtain ⟨a, w1, w2⟩ := hfr k' hk'
        rw [w1]
        exact fun z => w2 (pc_ar hG1 k5 hk z).1
      · obtain ⟨l1, l2, l3, l4, l5⟩ := hold q' Q' H' hq' e' hQ' hH'
        rw [epc k' H' hk' l5]
        exact s3 q q' Q Q' H H' k1 l1 hne k2 l2 k4 l4 k k' hk hk'
theorem pc_she {S1 S2 : PS} {x P : Nat} {k : Int} {a b : Int32} {az bz : Int} (h : ShE S1 S2 x P k a az b bz) : ∀ c, At S1 c 0 → nz5 (pI S1 3 c) → nz5 (pI S2 3 c) := fun c _ z => by
  rcases h with ⟨-, -, q, v, -, h2, e⟩ | ⟨-, v, e⟩ | ⟨-, -, -, w, f, v, -, -, e⟩
  · by_cases d : c = q
    · rw [d, h2] at z
      exact absurd (show (0 : Int32).toInt = 0 by decide) z.1
    · rw [e, pI_sI_nf (by decide), pI_sI_nf (by decide)]
      show nz5 (pI (sI S1 3 q 5) 3 c)
      rw [pI_sI_ne d]
      exact z
  · rw [e, pI_sI_nf (by decide), pI_sI_nf (by decide), pI_sI_nf (by decide)]
    exact z
  · rw [e, pI_sI_nf (by decide), pI_sI_nf (by decide), pI_sI_nf (by decide)]
    exact z
theorem pc_take {S1 S2 : PS} {x mo : Nat} {p k r1 : Int} (hMI : MI S1 mo) (ha1 : ¬ (0 ≤ p ∧ p ≤ 15 ∧ 0 ≤ k ∧ k ≤ 2) → r1 = -1 ∧ S2 = S1) (ha2 : 0 ≤ p ∧ p ≤ 15 ∧ 0 ≤ k ∧ k ≤ 2 → ∀ P, mB S1 x 1109 p.toNat = some P → TkO S1 S2 x P k r1) (h : TXs S1 x mo) : ∀ c, At S1 c 0 → nz5 (pI S1 3 c) → nz5 (pI S2 3 c) := fun c _ z => by
  by_cases c0 : 0 ≤ p ∧ p ≤ 15 ∧ 0 ≤ k ∧ k ≤ 2
  · obtain ⟨P, st⟩ := h.2.2.1 p.toNat (by omega)
    have hO := ha2 c0 P st.1
    obtain ⟨s1, s2, s3, s4, s5, s6⟩ := st
    rcases hO with ⟨-, -, e⟩ | ⟨-, -, -, e⟩ | ⟨-, -, -, -, e⟩ | ⟨-, -, -, v, e⟩ | ⟨-, -, -, v, e⟩ | ⟨k1, k2, ⟨-, v, e⟩ | ⟨q, v, hq, -, e⟩⟩
    · rw [e]; exact z
    · rw [e]; exact z
    · rw [e]; exact z
    · rw [e, pI_sI_nf (by decide), pI_sI_nf (by decide)]; exact z
    · rw [e, pI_sI_nf (by decide), pI_sI_nf (by decide)]; exact z
    · rw [e, pI_sI_nf (by decide), pI_sI_nf (by decide)]; exact z
    · by_cases d : c = q
      · exfalso
        subst d
        by_cases z53 : zA S1 mo 1253 p.toNat = 0
        · rw [if_pos z53] at s3
          omega
        · rw [if_neg z53] at s3
          have hM := hMI.2.2.2.2.1.1 p.toNat (by omega) z53 (by omega)
          obtain ⟨d1, d2, d3⟩ := hM
          obtain ⟨l, i, q', g1, g2, g3, g4, g5⟩ := s5 z53 (by omega)
          rw [hq] at g5
          cases g5
          rw [show (zA S1 mo 1255 p.toNat).toNat = 60 * l + i by omega] at d3
          exact z.2 (z05_5 (h.1 l i g2 g3 c g4) d3)
      · rw [e, pI_sI_ne d, pI_sI_nf (by decide), pI_sI_nf (by decide)]
        exact z
  · rw [(ha1 c0).2]
    exact z
def TX (S : PS) (x mo : Nat) : Prop := TXs S x mo ∧ (TXt S x mo ∧ PcT S x mo) ∧ TP S x mo
theorem tb {S : PS} {x mo : Nat} (h : TX S x mo) : TXb S x mo := ⟨h.1, h.2.1.1, h.2.2⟩
theorem tbm {S : PS} {x mo : Nat} (h : TXb S x mo) (c : PcT S x mo) : TX S x mo := ⟨h.1, ⟨h.2.1, c⟩, h.2.2⟩
def txL : List Nat := txLb ++ pctM
theorem sp_D {S : PS} {x mo : Nat} (h : TX S x mo) : ∀ q, pR S 1106 x = some q → RuD S q := spb_D (tb h)
theorem TX_fr {M : List Nat} {S S' : PS} {x mo : Nat} (hG : GX S) (hF : Fr M S S') (hx : At S x 11) (hm : At S mo 12) (hM : txL.all (fun g => !M.contains g) = true) (h : TX S x mo) : TX S' x mo := tbm (TXb_fr hG hF hx hm (sub_all hM (by decide +kernel)) (tb h)) (PcT_fr hG hx hm hF (sub_all hM (by decide +kernel)) h.2.1.2)
theorem TX_0 {S : PS} {x mo sh u K rh : Nat} (h2 : pI S 1102 x = 0) (h4 : pI S 1104 x = 0) (hs : pR S 1109 x = some sh) (hi : ShI S sh 16) (h5 : ∀ i, zA S mo 1253 i = 0) (hu : pR S 1105 x = some u) (hu2 : At S u 10) (hu0 : pI S 1000 u = 0) (hK : pR S 1107 x = some K) (h8 : pI S 800 K = 0) (h38 : pI S 1238 mo = 0) (hz : ∀ g, g ∈ in0 → ∀ i, zA S mo g i = 0) (hr : pR S 1106 x = some rh) (hd : RuD S rh) (hE : ExT S x K mo) : TX S x mo := tbm (TXb_0 h2 h4 hs hi h5 hu hu2 hu0 hK h8 h38 hz hr hd hE) (PcT_0 h4 (fun K0 hK0 => by rw [hK] at hK0; cases hK0; exact h8))
theorem TX_run {S1 S2 S3 : PS} {x mo K P R0 R1 R2 G : Nat} {p n : Int} {ν : Nat → Nat} {sk : List Sk} {A : Pt} {R : List Ru} {r1 r2 : Int32} (hG1 : GX S1) (hG2 : GX S2) (hx : At S1 x 11) (hm : At S1 mo 12) (hF1 : Fr eTI S1 S2) (hF2 : Fr MTK S2 S3) (ct : CT S1 x mo) (hPN : PN S1 x) (tp : (pI S1 1104 x).toInt = (pI S1 1211 mo).toInt) (hd : ∀ K, pR S1 1107 x = some K → pI S1 801 K = pI S1 1245 mo) (hw : TPw S1 x mo ν K sk) (hp : 0 ≤ p → p < (pI S1 1104 x).toInt → PT1 S1 x mo ν p.toNat P R0 R1 R2 G A R)
    (ha1 : PN S1 x → RunC S1 x p n → ∀ Q, mB S1 x 1103 p.toNat = some Q → PotV S2 (DC S1 x) Q R0 R1 R2 G K (runF (EC S1 K P) R n.toNat (cA S1 A sk)).1 ∧ PotX S1 S2 Q R0 R1 R2 G ∧ r1.toInt = (runF (EC S1 K P) R n.toNat (cA S1 A sk)).2 ∧ PzT S1 S2 (DC S1 x) G K (cA S1 A sk) (runF (EC S1 K P) R n.toNat (cA S1 A sk)).1) (ha2 : ¬ RunC S1 x p n → S2 = S1 ∧ r1.toInt = -1)
    (hb1 : 0 ≤ p ∧ p < (pI S2 1211 mo).toInt ∧ 0 ≤ n ∧ n ≤ 300 → r2.toInt = (runF (ER S1 mo p.toNat) R n.toNat (cB S1 mo ν A sk)).2 ∧ PotW S3 mo p (runF (ER S1 mo p.toNat) R n.toNat (cB S1 mo ν A sk)).1 ∧ PwX S2 S3 mo p) (hb2 : ¬ (0 ≤ p ∧ p < (pI S2 1211 mo).toInt ∧ 0 ≤ n ∧ n ≤ 300) → r2.toInt = -1 ∧ S3 = sI S2 1200 mo 0) (hMI : MI S1 mo) (hGR : GR S1 mo) (h : TX S1 x mo) : TX S3 x mo ∧ r1.toInt = r2.toInt := by
  obtain ⟨t, e⟩ := TXb_run hG1 hG2 hx hm hF1 hF2 ct hPN tp hd hw hp (fun a b Q c => ⟨(ha1 a b Q c).1, (ha1 a b Q c).2.1, (ha1 a b Q c).2.2.1⟩) ha2 hb1 hb2 (tb h)
  refine ⟨tbm t ?_, e⟩
  have e11 : pI S2 1211 mo = pI S1 1211 mo := hF1.I' (by decide +kernel) hm rfl
  rw [e11, ← tp] at hb1 hb2
  by_cases c : RunC S1 x p n
  · have c1 := c.1
    have c2 := c.2.1
    have h9 := hp c1 c2
    obtain ⟨f1, f2, -, f4⟩ := ha1 hPN c P h9.1
    obtain ⟨-, g2, g3⟩ := hb1 c
    have hI := nu_inj hG1 hx hw.1
    have hE := reE (K := K) (P := P) (p := p.toNat) hG1 hx ct hw.1 (hd K hw.2.1) h9.2.2.2.2.2.2.2.1 h9.2.2.2.2.2.2.2.2.1 h9.2.2.2.2.2.2.2.2.2
    have hR0 := ren_cc (sk := sk) hw.1 hw.2.2.2.1 h.1.1 h9.2.2.1.2.2.2.2.2.2.2.2
    obtain ⟨k1, -⟩ := ren_run (R := R) hI hE hR0 n.toNat
    rw [← Int.toNat_of_nonneg c1] at g2 g3
    exact pc_step hG1 hG2 hx hm hF1 hF2 (by decide +kernel) (by decide +kernel) ct hMI hGR hw (by omega) h9 f1 f2 f4 (st_run _) g2 g3 k1 h.2.1.2
  · obtain ⟨f1, -⟩ := ha2 c
    obtain ⟨-, g2⟩ := hb2 (fun z => c z)
    subst f1
    exact PcT_fr (M := [1200]) hG1 hx hm (by rw [g2]; exact Fr_sI (by decide)) (by decide +kernel) h.2.1.2
theorem TX_cut {S1 S2 S3 : PS} {x mo K P R0 R1 R2 G : Nat} {p : Int} {ν : Nat → Nat} {sk : List Sk} {A : Pt} {R : List Ru} {r1 r2 : Int32} (hG1 : GX S1) (hG2 : GX S2) (hx : At S1 x 11) (hm : At S1 mo 12) (hF1 : Fr eCU S1 S2) (hF2 : Fr MCU S2 S3) (ct : CT S1 x mo) (hPN : PN S1 x) (tp : (pI S1 1104 x).toInt = (pI S1 1211 mo).toInt) (hd : ∀ K, pR S1 1107 x = some K → pI S1 801 K = pI S1 1245 mo) (hw : TPw S1 x mo ν K sk) (hp : 0 ≤ p → p < (pI S1 1104 x).toInt → PT1 S1 x mo ν p.toNat P R0 R1 R2 G A R)
    (ha1 : PN S1 x → 0 ≤ p ∧ p < (pI S1 1104 x).toInt → ∀ Q, mB S1 x 1103 p.toNat = some Q → PotV S2 (DC S1 x) Q R0 R1 R2 G K (cutF (EC S1 K P) (cA S1 A sk)) ∧ PotX S1 S2 Q R0 R1 R2 G ∧ r1.toInt = cutR (cA S1 A sk) ∧ PzT S1 S2 (DC S1 x) G K (cA S1 A sk) (cutF (EC S1 K P) (cA S1 A sk))) (ha2 : PN S1 x → ¬ (0 ≤ p ∧ p < (pI S1 1104 x).toInt) → S2 = S1 ∧ r1.toInt = -1)
    (hb1 : 0 ≤ p ∧ p < (pI S2 1211 mo).toInt → PotW S3 mo p (cutF (ER S1 mo p.toNat) (cB S1 mo ν A sk)) ∧ r2.toInt = cutR (cB S1 mo ν A sk) ∧ PwX S2 S3 mo p) (hb2 : ¬ (0 ≤ p ∧ p < (pI S2 1211 mo).toInt) → r2.toInt = -1 ∧ S3 = sI S2 1200 mo 0) (hMI : MI S1 mo) (hGR : GR S1 mo) (h : TX S1 x mo) : TX S3 x mo ∧ r1.toInt = r2.toInt := by
  obtain ⟨t, e⟩ := TXb_cut hG1 hG2 hx hm hF1 hF2 ct hPN tp hd hw hp (fun a b Q c => ⟨(ha1 a b Q c).1, (ha1 a b Q c).2.1, (ha1 a b Q c).2.2.1⟩) ha2 hb1 hb2 (tb h)
  refine ⟨tbm t ?_, e⟩
  have e11 : pI S2 1211 mo = pI S1 1211 mo := hF1.I' (by decide +kernel) hm rfl
  rw [e11, ← tp] at hb1 hb2
  by_cases c : 0 ≤ p ∧ p < (pI S1 1104 x).toInt
  · have c1 := c.1
    have c2 := c.2
    have h9 := hp c1 c2
    obtain ⟨f1, f2, -, f4⟩ := ha1 hPN c P h9.1
    obtain ⟨g2, -, g3⟩ := hb1 c
    have hI := nu_inj hG1 hx hw.1
    have hE := reE (K := K) (P := P) (p := p.toNat) hG1 hx ct hw.1 (hd K hw.2.1) h9.2.2.2.2.2.2.2.1 h9.2.2.2.2.2.2.2.2.1 h9.2.2.2.2.2.2.2.2.2
    have hR0 := ren_cc (sk := sk) hw.1 hw.2.2.2.1 h.1.1 h9.2.2.1.2.2.2.2.2.2.2.2
    have k1 := ren_cut hE hR0
    rw [← Int.toNat_of_nonneg c1] at g2 g3
    exact pc_step hG1 hG2 hx hm hF1 hF2 (by decide +kernel) (by decide +kernel) ct hMI hGR hw (by omega) h9 f1 f2 f4 st_cut g2 g3 k1 h.2.1.2
  · obtain ⟨f1, -⟩ := ha2 hPN c
    obtain ⟨-, g2⟩ := hb2 c
    subst f1
    exact PcT_fr (M := [1200]) hG1 hx hm (by rw [g2]; exact Fr_sI (by decide)) (by decide +kernel) h.2.1.2
theorem TX_lot {S1 S2 S3 : PS} {x mo : Nat} {a1 a2 a3 a4 a5 : Int32} {a1_z : Int} (hG1 : GX S1) (hG2 : GX S2) (hx : At S1 x 11) (hm : At S1 mo 12) (hF1 : Fr MLt S1 S2) (hF2 : Fr M12t S2 S3) (hMI : MI S1 mo) (hl : (pI S1 1102 x).toInt = (pI S1 1201 mo).toInt) (h9 : (pI S2 1102 x).toInt = (pI S1 1102 x).toInt + 1) (hz : a1.toInt = a1_z) (hn : a1_z ≤ 60) (hlt : (pI S1 1102 x).toInt < 10)
    (hN : ∀ ca lz, pR S1 1100 x = some ca → pR S1 1101 x = some lz → NewC S1 S2 ca (60 * (pI S1 1102 x).toInt) a1_z (pI S1 1102 x) a2 a3 a4 a5 ∧ pA S2 lz = upd (pA S1 lz) (Int32.toNatClampNeg (pI S1 1102 x)) a1) (h : TX S1 x mo) : TX S3 x mo := tbm (TXb_lot hG1 hG2 hx hm hF1 hF2 hMI hl h9 hz hn hlt hN (tb h)) (pc_lot hG1 hG2 hx hm hF1 hF2 h9 hN h.2.1.2)
theorem TX_pot {S1 S2 S3 : PS} {x mo P P' : Nat} {a1 a2 : Int32} (hG1 : GX S1) (hG2 : GX S2) (hx : At S1 x 11) (hm : At S1 mo 12) (hF1 : Fr ePT S1 S2) (hF2 : Fr MP S2 S3) (tp : (pI S1 1104 x).toInt = (pI S1 1211 mo).toInt) (h4' : (pI S1 1104 x).toInt < 4) (hf : 1 ≤ a2.toInt) (h9 : (pI S2 1104 x).toInt = (pI S1 1104 x).toInt + 1) (hP : P ∉ pL S1) (hB : ∀ j, mB S2 x 1103 j = if j = (pI S1 1104 x).toInt.toNat then some P else mB S1 x 1103 j) (hN : PotN S1 S2 P (pI S1 1104 x) a1 a2) (hB' : ∀ j, mB S2 x 1103 j = if j = (pI S1 1104 x).toInt.toNat then some P' else mB S1 x 1103 j) (hP' : At S2 P' 4) (r0 : RowE S2 P' 400) (r1 : RowE S2 P' 401) (r2 : RowE S2 P' 402) (e12 : ∀ j, zA S3 mo 1212 j = if j = (pI S2 1211 mo).toInt.toNat then a1.toInt else zA S2 mo 1212 j) (e13 : ∀ j, zA S3 mo 1213 j = if j = (pI S2 1211 mo).toInt.toNat then a2.toInt else zA S2 mo 1213 j) (h : TX S1 x mo) : TX S3 x mo := tbm (TXb_pot hG1 hG2 hx hm hF1 hF2 tp h4' hf h9 hP hB hN hB' hP' r0 r1 r2 e12 e13 (tb h)) (by obtain ⟨-, -, ν, K, sk, hw⟩ := id h; exact pc_pot hG1 hG2 hx hm hF1 hF2 h4' h9 hB hN hw.2.2.2.2.2.1 h.2.1.2)
theorem TX_target {S1 S2 S3 : PS} {x mo : Nat} {p v : Int} {a : Int32} {r1 r2 : Int32} (hG1 : GX S1) (hG2 : GX S2) (hx : At S1 x 11) (hm : At S1 mo 12) (hF1 : Fr eTG S1 S2) (hF2 : Fr Mtg S2 S3) (hPN : PN S1 x) (tp : (pI S1 1104 x).toInt = (pI S1 1211 mo).toInt) (hv : a.toInt = v)
    (ha : (((0 ≤ p ∧ p < (pI S1 1104 x).toInt ∧ 10 ≤ v ∧ v ≤ 2000) ∧ ∀ P, mB S1 x 1103 p.toNat = some P → S2 = sI S1 404 P a) ∧ r1 = 1) ∨ (((PN S1 x → ¬ (0 ≤ p ∧ p < (pI S1 1104 x).toInt ∧ 10 ≤ v ∧ v ≤ 2000)) ∧ S2 = S1) ∧ r1 = 0)) (hb : (((0 ≤ p ∧ p < (pI S2 1211 mo).toInt ∧ 10 ≤ v ∧ v ≤ 2000) ∧ ∀ j, zA S3 mo 1212 j = if j = p.toNat then v else zA S2 mo 1212 j) ∧ r2 = 1) ∨ ((¬ (0 ≤ p ∧ p < (pI S2 1211 mo).toInt ∧ 10 ≤ v ∧ v ≤ 2000) ∧ S3 = sI S2 1200 mo 0) ∧ r2 = 0)) (h : TX S1 x mo) : TX S3 x mo := tbm (TXb_target hG1 hG2 hx hm hF1 hF2 hPN tp hv ha hb (tb h)) (PcT_fr hG2 (hF1.at hx) (hF1.at hm) hF2 (by decide +kernel) (PcT_fr hG1 hx hm hF1 (by decide +kernel) h.2.1.2))
theorem TX_feed {S1 S2 S3 : PS} {x mo u : Nat} {s : Nat → Int} (hG1 : GX S1) (hG2 : GX S2) (hx : At S1 x 11) (hm : At S1 mo 12) (hF1 : Fr eAP S1 S2) (hF2 : Fr MT S2 S3) (hu : pR S1 1105 x = some u) (hsz : (pI S1 1000 u).toInt = (pI S1 1228 mo).toInt)
    (h1 : (pI S1 1000 u).toInt ≤ 380 → zA S2 u 1003 = fdP s (zA S1 u 1003) (pI S1 1000 u).toInt.toNat (4 * 5)) (h1' : 380 < (pI S1 1000 u).toInt → zA S2 u 1003 = zA S1 u 1003) (h2 : (pI S2 1228 mo).toInt ≤ 380 → zA S3 mo 1227 = fdP s (zA S2 mo 1227) (pI S2 1228 mo).toInt.toNat (4 * 5)) (h2' : 380 < (pI S2 1228 mo).toInt → zA S3 mo 1227 = zA S2 mo 1227)
    (h9 : (pI S1 1000 u).toInt ≤ 380 → (pI S3 1000 u).toInt = (pI S1 1000 u).toInt + 20) (h9' : 380 < (pI S1 1000 u).toInt → (pI S3 1000 u).toInt = (pI S1 1000 u).toInt) (h : TX S1 x mo) : TX S3 x mo := tbm (TXb_feed hG1 hG2 hx hm hF1 hF2 hu hsz h1 h1' h2 h2' h9 h9' (tb h)) (PcT_fr hG2 (hF1.at hx) (hF1.at hm) hF2 (by decide +kernel) (PcT_fr hG1 hx hm hF1 (by decide +kernel) h.2.1.2))
theorem TX_prog {S1 S2 S3 : PS} {x mo u : Nat} {p : Int} (hG1 : GX S1) (hG2 : GX S2) (hx : At S1 x 11) (hm : At S1 mo 12) (hF1 : Fr MPt S1 S2) (hF2 : Fr MPr S2 S3) (hPN : PN S1 x) (tp : (pI S1 1104 x).toInt = (pI S1 1211 mo).toInt) (hu : pR S1 1105 x = some u) (hsz : (pI S1 1000 u).toInt = (pI S1 1228 mo).toInt) (hle : (pI S2 1000 u).toInt ≤ (pI S1 1000 u).toInt) (hle3 : (pI S3 1000 u).toInt = (pI S2 1000 u).toInt)
    (ha : ∀ P rh u, PN S1 x → 0 ≤ p → p < (pI S1 1104 x).toInt → mB S1 x 1103 p.toNat = some P → pR S1 1106 x = some rh → pR S1 1105 x = some u → PgO S1 S2 x P rh u) (ha2 : PN S1 x → ¬ (0 ≤ p ∧ p < (pI S1 1104 x).toInt) → Fr MLf S1 S2)
    (hb1 : 0 ≤ p ∧ p < (pI S2 1211 mo).toInt → (prF (rB S2 mo) (pI S2 1228 mo).toInt.toNat 13 0 (tokF (rB S2 mo) (pI S2 1228 mo).toInt.toNat 0)).1 = 0 → RpS S2 S3 mo p.toNat (prL (rB S2 mo) (pI S2 1228 mo).toInt.toNat 13 0 (tokF (rB S2 mo) (pI S2 1228 mo).toInt.toNat 0))) (hb2 : ¬ (0 ≤ p ∧ p < (pI S2 1211 mo).toInt) ∨ (prF (rB S2 mo) (pI S2 1228 mo).toInt.toNat 13 0 (tokF (rB S2 mo) (pI S2 1228 mo).toInt.toNat 0)).1 ≠ 0 → RrL S2 S3 mo) (h : TX S1 x mo) : TX S3 x mo := tbm (TXb_prog hG1 hG2 hx hm hF1 hF2 hPN tp hu hsz hle hle3 ha ha2 hb1 hb2 (tb h)) (PcT_fr hG2 (hF1.at hx) (hF1.at hm) hF2 (by decide +kernel) (PcT_fr hG1 hx hm hF1 (by decide +kernel) h.2.1.2))
theorem TX_le {M : List Nat} {S S' : PS} {x mo u : Nat} (hG : GX S) (hF : Fr M S S') (hx : At S x 11) (hm : At S mo 12) (hM : ([1105, 1003, 10013, 1227, 10753] ++ txLs ++ tpL ++ pctM).all (fun g => !M.contains g) = true) (hu : pR S 1105 x = some u) (hle : (pI S' 1000 u).toInt ≤ (pI S 1000 u).toInt) (h : TX S x mo) : TX S' x mo := tbm (TXb_le hG hF hx hm (sub_all hM (by decide +kernel)) hu hle (tb h)) (PcT_fr hG hx hm hF (sub_all hM (by decide +kernel)) h.2.1.2)
theorem TX_shelve {S1 S2 S3 : PS} {x mo : Nat} {p k : Int} {a b : Int32} {az bz : Int} {r1 r2 : Int32} (hG1 : GX S1) (hG2 : GX S2) (hx : At S1 x 11) (hm : At S1 mo 12) (hF1 : Fr eSH S1 S2) (hF2 : Fr MSH S2 S3) (hc : CT S1 x mo) (hl : (pI S1 1102 x).toInt = (pI S1 1201 mo).toInt) (hz : a.toInt = az)
    (ha : ((∃ P, (0 ≤ p ∧ p ≤ 15) ∧ mB S1 x 1109 p.toNat = some P ∧ (pI S1 300 P).toInt = -1 ∧ ShE S1 S2 x P k a az b bz) ∧ r1 = 1) ∨ ((S2 = S1 ∧ ∀ P, 0 ≤ p → p ≤ 15 → mB S1 x 1109 p.toNat = some P → ¬ ((pI S1 300 P).toInt = -1 ∧ ShC S1 x k az bz)) ∧ r1 = 0)) (hb : ((MI S3 mo ∧ ShR S2 mo p k az bz ∧ SE S2 S3 mo p k az bz) ∧ r2 = 1) ∨ ((MI S3 mo ∧ ¬ ShR S2 mo p k az bz ∧ zA S3 mo 1207 = zA S2 mo 1207 ∧ zA S3 mo 1253 = zA S2 mo 1253 ∧ zA S3 mo 1254 = zA S2 mo 1254 ∧ zA S3 mo 1255 = zA S2 mo 1255 ∧ zA S3 mo 1256 = zA S2 mo 1256) ∧ r2 = 0)) (h : TX S1 x mo) : TX S3 x mo ∧ r1 = r2 := by
  obtain ⟨t, e⟩ := TXb_shelve hG1 hG2 hx hm hF1 hF2 hc hl hz ha hb (tb h)
  refine ⟨tbm t (PcT_fr hG2 (hF1.at hx) (hF1.at hm) hF2 (by decide +kernel) ?_), e⟩
  rcases ha with ⟨⟨P, -, -, -, hE⟩, -⟩ | ⟨⟨hS, -⟩, -⟩
  · exact PcT_f3 hG1 hx hm hF1 (by decide +kernel) (pc_she hE) h.2.1.2
  · rw [hS]
    exact h.2.1.2
theorem TX_take {S1 S2 S3 : PS} {x mo : Nat} {p k r1 r2 : Int} (hG1 : GX S1) (hG2 : GX S2) (hx : At S1 x 11) (hm : At S1 mo 12) (hF1 : Fr eTA S1 S2) (hF2 : Fr MTA S2 S3) (hc : CT S1 x mo) (hl : (pI S1 1102 x).toInt = (pI S1 1201 mo).toInt) (hMI : MI S1 mo)
    (ha1 : ¬ (0 ≤ p ∧ p ≤ 15 ∧ 0 ≤ k ∧ k ≤ 2) → r1 = -1 ∧ S2 = S1) (ha2 : 0 ≤ p ∧ p ≤ 15 ∧ 0 ≤ k ∧ k ≤ 2 → ∀ P, mB S1 x 1109 p.toNat = some P → TkO S1 S2 x P k r1)
    (hb1 : ¬ (0 ≤ p ∧ p ≤ 15 ∧ 0 ≤ k ∧ k ≤ 2) → r2 = -1 ∧ zA S3 mo 1207 = zA S2 mo 1207 ∧ zA S3 mo 1253 = zA S2 mo 1253) (hb2 : 0 ≤ p ∧ p ≤ 15 ∧ 0 ≤ k ∧ k ≤ 2 → TkR S2 S3 mo p k r2) (h : TX S1 x mo) : TX S3 x mo := tbm (TXb_take hG1 hG2 hx hm hF1 hF2 hc hl hMI ha1 ha2 hb1 hb2 (tb h)) (PcT_fr hG2 (hF1.at hx) (hF1.at hm) hF2 (by decide +kernel) (PcT_f3 hG1 hx hm hF1 (by decide +kernel) (pc_take hMI ha1 ha2 h.1) h.2.1.2))
theorem TX_fill {S1 S2 S3 : PS} {x mo K P R0 R1 R2 G : Nat} {p l f n : Int} {ν : Nat → Nat} {sk : List Sk} {A : Pt} {R : List Ru} {r1 r2 : Int32} {Y1 Y2 : Prop} (hG1 : GX S1) (hG2 : GX S2) (hx : At S1 x 11) (hm : At S1 mo 12) (hF1 : Fr eRC S1 S2) (hF2 : Fr MFI S2 S3) (ct : CT S1 x mo) (hPN : PN S1 x) (tl : (pI S1 1102 x).toInt = (pI S1 1201 mo).toInt) (tp : (pI S1 1104 x).toInt = (pI S1 1211 mo).toInt) (hw : TPw S1 x mo ν K sk) (hp : 0 ≤ p → p < (pI S1 1104 x).toInt → PT1 S1 x mo ν p.toNat P R0 R1 R2 G A R)
    (ha : ((FilC S1 x p l f n ∧ ∀ Q, mB S1 x 1103 p.toNat = some Q → PotV S2 (DC S1 x) Q R0 R1 R2 G K (filF (cA S1 A sk) (cocL S1 x l f n.toNat)) ∧ PotX S1 S2 Q R0 R1 R2 G ∧ (∀ d, At S1 d 0 → (∀ j : Int, f ≤ j → j < f + n → mB S1 x 1100 (60 * l + j).toNat ≠ some d) → pI S2 5 d = pI S1 5 d) ∧ ∀ j : Int, f ≤ j → j < f + n → ∀ d, mB S1 x 1100 (60 * l + j).toNat = some d → pI S2 5 d = pI S1 410 Q) ∧ r1 = 1) ∨ (((PN S1 x → ¬ FilC S1 x p l f n) ∧ S2 = S1) ∧ r1 = 0))
    (hb : ((MI S3 mo ∧ FilR S2 mo p l f n ∧ Y1 ∧ PotW S3 mo p (filF (cB S1 mo ν A sk) (nuL l f n.toNat)) ∧ PwX S2 S3 mo p) ∧ r2 = 1) ∨ ((MI S3 mo ∧ ¬ FilR S2 mo p l f n ∧ Y2 ∧ S3 = sI S2 1200 mo 0) ∧ r2 = 0)) (h : TX S1 x mo) : TX S3 x mo ∧ r1 = r2 := by
  obtain ⟨t, e⟩ := TXb_fill (Y1 := Y1) (Y2 := Y2) hG1 hG2 hx hm hF1 hF2 ct hPN tl tp hw hp ha hb (tb h)
  refine ⟨tbm t ?_, e⟩
  rcases hb with ⟨⟨m, b1, b7, b2, b3⟩, b5⟩ | ⟨⟨m, b1, b2, b3⟩, b5⟩
  · rcases ha with ⟨⟨a1, a2⟩, a5⟩ | ⟨⟨a1, a2⟩, a5⟩
    · have q := hp a1.1 a1.2.1
      obtain ⟨v1, v2, a3, a4⟩ := a2 P q.1
      have a12 := a1.2.1
      have a11 := a1.1
      exact pc_fill hG1 hG2 hx hm hF1 hF2 (by decide +kernel) (by decide +kernel) hw (by omega) q a1.2.2.2.2.2 v1 v2 a3 a4 h.2.1.2
    · rw [a5, b5] at e
      exact absurd e (by decide)
  · rcases ha with ⟨-, a5⟩ | ⟨⟨-, a2⟩, -⟩
    · rw [a5, b5] at e
      exact absurd e (by decide)
    · subst a2
      exact PcT_fr (M := [1200]) hG1 hx hm (by rw [b3]; exact Fr_sI (by decide)) (by decide +kernel) h.2.1.2
