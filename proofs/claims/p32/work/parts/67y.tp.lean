def txLt : List Nat := [1105, 1000, 1003, 10013, 1227, 10753]
def BT (S : PS) (u mo : Nat) : Prop := ∀ j : Nat, (j : Int) < (pI S 1000 u).toInt → zA S u 1003 j = zA S mo 1227 j
def TXt (S : PS) (x mo : Nat) : Prop := ∃ u, pR S 1105 x = some u ∧ At S u 10 ∧ BT S u mo
theorem BT_sh {S S' : PS} {u mo : Nat} (h1 : zA S' u 1003 = zA S u 1003) (h2 : zA S' mo 1227 = zA S mo 1227) (h3 : (pI S' 1000 u).toInt ≤ (pI S 1000 u).toInt) (h : BT S u mo) : BT S' u mo := fun j hj => by rw [h1, h2]; exact h j (by omega)
theorem TXt_fr {M : List Nat} {S S' : PS} {x mo : Nat} (hG : GX S) (hF : Fr M S S') (hx : At S x 11) (hm : At S mo 12) (hM : txLt.all (fun g => !M.contains g) = true) (h : TXt S x mo) : TXt S' x mo := by
  obtain ⟨u, u1, u2, u3⟩ := h
  exact ⟨u, hF.R' (allc hM (by decide)) hx u1, hF.at u2, BT_sh (zA_frc hF u2 (ex3 (gQ_10_1003 hG u2)) (allc hM (by decide)) (allc hM (by decide))) (zA_fr hF hm (ex3 (gQ_12_1227 hG hm)) (allc hM (by decide)) (allc hM (by decide))) (by rw [hF.I' (allc hM (by decide)) u2 rfl]; exact Int.le_refl _) u3⟩
theorem TXt_0 {S : PS} {x mo u : Nat} (h1 : pR S 1105 x = some u) (h2 : At S u 10) (h0 : pI S 1000 u = 0) : TXt S x mo := ⟨u, h1, h2, fun j hj => by
  rw [h0] at hj
  have e : (0 : Int32).toInt = 0 := by decide
  omega⟩
/-- the tape gets shorter -/
theorem TXt_le {M : List Nat} {S S' : PS} {x mo u : Nat} (hG : GX S) (hF : Fr M S S') (hx : At S x 11) (hm : At S mo 12) (hM : ([1105, 1003, 10013, 1227, 10753] : List Nat).all (fun g => !M.contains g) = true) (hu : pR S 1105 x = some u) (hle : (pI S' 1000 u).toInt ≤ (pI S 1000 u).toInt) (h : TXt S x mo) : TXt S' x mo := by
  obtain ⟨v, u1, u2, u3⟩ := h
  rw [hu] at u1
  cases u1
  exact ⟨u, hF.R' (allc hM (by decide)) hx hu, hF.at u2, BT_sh (zA_frc hF u2 (ex3 (gQ_10_1003 hG u2)) (allc hM (by decide)) (allc hM (by decide))) (zA_fr hF hm (ex3 (gQ_12_1227 hG hm)) (allc hM (by decide)) (allc hM (by decide))) hle u3⟩
theorem TXt_feed {S1 S2 S3 : PS} {x mo u : Nat} {s : Nat → Int} (hG1 : GX S1) (hG2 : GX S2) (hx : At S1 x 11) (hm : At S1 mo 12) (hF1 : Fr eAP S1 S2) (hF2 : Fr MT S2 S3) (hu : pR S1 1105 x = some u) (hsz : (pI S1 1000 u).toInt = (pI S1 1228 mo).toInt)
    (h1 : (pI S1 1000 u).toInt ≤ 380 → zA S2 u 1003 = fdP s (zA S1 u 1003) (pI S1 1000 u).toInt.toNat (4 * 5)) (h1' : 380 < (pI S1 1000 u).toInt → zA S2 u 1003 = zA S1 u 1003) (h2 : (pI S2 1228 mo).toInt ≤ 380 → zA S3 mo 1227 = fdP s (zA S2 mo 1227) (pI S2 1228 mo).toInt.toNat (4 * 5)) (h2' : 380 < (pI S2 1228 mo).toInt → zA S3 mo 1227 = zA S2 mo 1227)
    (h9 : (pI S1 1000 u).toInt ≤ 380 → (pI S3 1000 u).toInt = (pI S1 1000 u).toInt + 20) (h9' : 380 < (pI S1 1000 u).toInt → (pI S3 1000 u).toInt = (pI S1 1000 u).toInt) (h : TXt S1 x mo) : TXt S3 x mo := by
  obtain ⟨v, u1, u2, u3⟩ := h
  rw [hu] at u1
  cases u1
  have hx2 := hF1.at hx
  have hm2 := hF1.at hm
  have hu2 := hF1.at u2
  have e1 : zA S2 mo 1227 = zA S1 mo 1227 := zA_fr hF1 hm (ex3 (gQ_12_1227 hG1 hm)) (by decide +kernel) (by decide +kernel)
  have e2 : zA S3 u 1003 = zA S2 u 1003 := zA_frc hF2 hu2 (ex3 (gQ_10_1003 hG2 hu2)) (by decide +kernel) (by decide +kernel)
  have e3 : (pI S2 1228 mo).toInt = (pI S1 1228 mo).toInt := congrArg Int32.toInt (hF1.I' (by decide +kernel) hm rfl)
  have r2 : pR S3 1105 x = some u := hF2.R' (by decide +kernel) hx2 (hF1.R' (by decide +kernel) hx hu)
  refine ⟨u, r2, hF2.at hu2, fun j hj => ?_⟩
  have hz := gI_10_1000 hG1 u2
  rw [e2]
  rcases (show (pI S1 1000 u).toInt ≤ 380 ∨ 380 < (pI S1 1000 u).toInt by omega) with c | c
  · have q := h9 c
    rw [h1 c, h2 (by omega), e1, e3, ← hsz]
    exact fdP_congr (fun i hi => u3 i (by omega)) (by omega)
  · have q := h9' c
    rw [h1' c, h2' (by omega), e1]
    exact u3 j (by omega)
theorem tB_rB {S : PS} {x mo u : Nat} (hu : pR S 1105 x = some u) (hsz : (pI S 1000 u).toInt = (pI S 1228 mo).toInt) (h : TXt S x mo) : tB S u = rB S mo := by
  obtain ⟨v, u1, u2, u3⟩ := h
  rw [hu] at u1
  cases u1
  funext i
  rw [tB_eq, rB_eq, ← hsz]
  split
  · rename_i hi
    have h := u3 i hi
    rw [zA_eq, zA_eq] at h
    exact h
  · rfl
theorem rq_prog {S1 S2 : PS} {M : List Nat} {x mo u : Nat} {p : Int} {r1 r2 : Int32} (hG : GX S1) (hm : At S1 mo 12) (hF : Fr M S1 S2) (hM : ([1228, 1227, 10753, 1211] : List Nat).all (fun g => !M.contains g) = true) (hu : pR S1 1105 x = some u) (hsz : (pI S1 1000 u).toInt = (pI S1 1228 mo).toInt) (hpt : (pI S1 1104 x).toInt = (pI S1 1211 mo).toInt) (h : TXt S1 x mo) (a1 : 0 ≤ p ∧ p < (pI S1 1104 x).toInt → r1.toInt = prR (tB S1 u) (pI S1 1000 u).toInt.toNat) (a2 : ¬ (0 ≤ p ∧ p < (pI S1 1104 x).toInt) → r1.toInt = -1) (b1 : 0 ≤ p ∧ p < (pI S2 1211 mo).toInt → r2.toInt = prR (rB S2 mo) (pI S2 1228 mo).toInt.toNat) (b2 : ¬ (0 ≤ p ∧ p < (pI S2 1211 mo).toInt) → r2.toInt = -1) : r1.toInt = r2.toInt := by
  have e1 : pI S2 1211 mo = pI S1 1211 mo := hF.I' (allc hM (by decide)) hm rfl
  have e2 : pI S2 1228 mo = pI S1 1228 mo := hF.I' (allc hM (by decide)) hm rfl
  have e3 : rB S2 mo = rB S1 mo := by
    funext i
    rw [rB_eq, rB_eq, e2, mA_fr hF hm (ex3 (gQ_12_1227 hG hm)) (allc hM (by decide)) (allc hM (by decide))]
  rw [e1] at b1 b2
  by_cases c : 0 ≤ p ∧ p < (pI S1 1104 x).toInt
  · rw [a1 c, b1 (by omega), e3, e2, tB_rB hu hsz h, hsz]
  · rw [a2 c, b2 (by omega)]
theorem wit_E {M : List Nat} {S T : PS} {x mo : Nat} {p : Int} (hG : GX S) (hx : At S x 11) (hm : At S mo 12) (hF : Fr M S T) (h11 : M.contains 1211 = false) (hM2 : enL.all (fun g => !M.contains g) = true) (th : mA S mo 1210 = thinF) (tp : (pI S 1104 x).toInt = (pI S 1211 mo).toInt) : 0 ≤ p → p < (pI T 1211 mo).toInt → EnR T mo p (ER S mo p.toNat) := fun h0 h1 => by
  rw [hF.I' (g := 1211) h11 hm rfl] at h1
  have b := gI_11_1104 hG hx
  have hE := ER_is (p := p.toNat) hG hm th (by omega)
  rw [Int.toNat_of_nonneg h0] at hE
  exact EnR_fr hG hm hF hM2 hE
/-! ===== all ties of a run's claim ===== -/
def TXb (S : PS) (x mo : Nat) : Prop := TXs S x mo ∧ TXt S x mo ∧ TP S x mo
def txLb : List Nat := txLs ++ txLt ++ tpL
theorem TXb_fr {M : List Nat} {S S' : PS} {x mo : Nat} (hG : GX S) (hF : Fr M S S') (hx : At S x 11) (hm : At S mo 12) (hM : txLb.all (fun g => !M.contains g) = true) (h : TXb S x mo) : TXb S' x mo := ⟨TXs_fr hG hF hx hm (sub_all hM (by decide +kernel)) h.1, TXt_fr hG hF hx hm (sub_all hM (by decide +kernel)) h.2.1, TP_fr hG hx hm hF (sub_all hM (by decide +kernel)) h.2.2⟩
theorem TP_0 {S : PS} {x mo K rh : Nat} (h2 : pI S 1102 x = 0) (h4 : pI S 1104 x = 0) (hK : pR S 1107 x = some K) (h8 : pI S 800 K = 0) (h38 : pI S 1238 mo = 0) (hz : ∀ g, g ∈ in0 → ∀ i, zA S mo g i = 0) (hr : pR S 1106 x = some rh) (hd : RuD S rh) (hE : ExT S x K mo) : TP S x mo := by
  have e0 : (0 : Int32).toInt = 0 := by decide
  have n2 : ∀ l : Nat, ¬ (l : Int) < (pI S 1102 x).toInt := fun l z => by rw [h2, e0] at z; omega
  have n4 : ∀ l : Nat, ¬ (l : Int) < (pI S 1104 x).toInt := fun l z => by rw [h4, e0] at z; omega
  refine ⟨fun c => c, K, [], fun l i c z => absurd z (n2 l), hK, ⟨⟨by rw [h8]; rfl, fun k s hk => by cases hk⟩, ⟨by rw [h38]; rfl, fun k s hk => by cases hk⟩, hE⟩, fun l i c z => absurd z (n2 l), fun p hp => absurd hp (n4 p), fun p _ _ => ⟨fun k _ => hz 1219 (by decide) _, fun g hg => hz g ?_ p⟩, fun p q P Q z => absurd z (n4 p), rh, hr, hd, fun p P ρ z => absurd z (n4 p)⟩
  simp only [peG, List.mem_cons, List.not_mem_nil, or_false] at hg
  rcases hg with e | e | e | e | e | e <;> subst e <;> decide
theorem TXb_0 {S : PS} {x mo sh u K rh : Nat} (h2 : pI S 1102 x = 0) (h4 : pI S 1104 x = 0) (hs : pR S 1109 x = some sh) (hi : ShI S sh 16) (h5 : ∀ i, zA S mo 1253 i = 0) (hu : pR S 1105 x = some u) (hu2 : At S u 10) (hu0 : pI S 1000 u = 0) (hK : pR S 1107 x = some K) (h8 : pI S 800 K = 0) (h38 : pI S 1238 mo = 0) (hz : ∀ g, g ∈ in0 → ∀ i, zA S mo g i = 0) (hr : pR S 1106 x = some rh) (hd : RuD S rh) (hE : ExT S x K mo) : TXb S x mo := ⟨TXs_0 h2 h4 hs hi h5, TXt_0 hu hu2 hu0, TP_0 h2 h4 hK h8 h38 hz hr hd hE⟩
theorem TXs_of {M1 M2 : List Nat} {S1 S2 S3 : PS} {x mo : Nat} (hG1 : GX S1) (hG2 : GX S2) (hx : At S1 x 11) (hm : At S1 mo 12) (hF1 : Fr M1 S1 S2) (hF2 : Fr M2 S2 S3) (hM1 : (stL ++ [1109, 10017]).all (fun g => !M1.contains g) = true) (hM2 : (stL ++ [1109, 10017]).all (fun g => !M2.contains g) = true) (hS : SZ S3 x mo) (h : TXs S1 x mo) : TXs S3 x mo := ⟨hS, fun _ _ => trivial, ST_fr hG2 (hF1.at hx) (hF1.at hm) hF2 (sub_all hM2 (by decide +kernel)) (ST_fr hG1 hx hm hF1 (sub_all hM1 (by decide +kernel)) h.2.2.1), SD_fr hG2 (hF1.at hx) hF2 (sub_all hM2 (by decide +kernel)) (SD_fr hG1 hx hF1 (sub_all hM1 (by decide +kernel)) h.2.2.2)⟩
theorem spb_D {S : PS} {x mo : Nat} (h : TXb S x mo) : ∀ q, pR S 1106 x = some q → RuD S q := fun q hq => by
  obtain ⟨-, -, ν, K, sk, -, -, -, -, -, -, -, rh, o2, o3, -⟩ := h
  rw [hq] at o2
  cases o2
  exact o3
theorem dc_in {S : PS} {x : Nat} : ∀ l j c, InC S x l j → mB S x 1100 (60 * l + j).toNat = some c → DC S x c := fun l j c ⟨h1, h2, h3, h4⟩ hc => ⟨l.toNat, j.toNat, by omega, by omega, by rw [show 60 * l.toNat + j.toNat = (60 * l + j).toNat by omega]; exact hc⟩
theorem TXb_run {S1 S2 S3 : PS} {x mo K P R0 R1 R2 G : Nat} {p n : Int} {ν : Nat → Nat} {sk : List Sk} {A : Pt} {R : List Ru} {r1 r2 : Int32} (hG1 : GX S1) (hG2 : GX S2) (hx : At S1 x 11) (hm : At S1 mo 12) (hF1 : Fr eTI S1 S2) (hF2 : Fr MTK S2 S3) (ct : CT S1 x mo) (hPN : PN S1 x) (tp : (pI S1 1104 x).toInt = (pI S1 1211 mo).toInt) (hd : ∀ K, pR S1 1107 x = some K → pI S1 801 K = pI S1 1245 mo) (hw : TPw S1 x mo ν K sk) (hp : 0 ≤ p → p < (pI S1 1104 x).toInt → PT1 S1 x mo ν p.toNat P R0 R1 R2 G A R)
    (ha1 : PN S1 x → RunC S1 x p n → ∀ Q, mB S1 x 1103 p.toNat = some Q → PotV S2 (DC S1 x) Q R0 R1 R2 G K (runF (EC S1 K P) R n.toNat (cA S1 A sk)).1 ∧ PotX S1 S2 Q R0 R1 R2 G ∧ r1.toInt = (runF (EC S1 K P) R n.toNat (cA S1 A sk)).2) (ha2 : ¬ RunC S1 x p n → S2 = S1 ∧ r1.toInt = -1)
    (hb1 : 0 ≤ p ∧ p < (pI S2 1211 mo).toInt ∧ 0 ≤ n ∧ n ≤ 300 → r2.toInt = (runF (ER S1 mo p.toNat) R n.toNat (cB S1 mo ν A sk)).2 ∧ PotW S3 mo p (runF (ER S1 mo p.toNat) R n.toNat (cB S1 mo ν A sk)).1 ∧ PwX S2 S3 mo p) (hb2 : ¬ (0 ≤ p ∧ p < (pI S2 1211 mo).toInt ∧ 0 ≤ n ∧ n ≤ 300) → r2.toInt = -1 ∧ S3 = sI S2 1200 mo 0) (h : TXb S1 x mo) : TXb S3 x mo ∧ r1.toInt = r2.toInt := by
  obtain ⟨⟨t1, t2⟩, t3⟩ := TP_run hG1 hG2 hx hm hF1 hF2 ct hPN tp hd h.1.1 hw hp ha1 ha2 hb1 hb2
  exact ⟨⟨TXs_of hG1 hG2 hx hm hF1 hF2 (by decide +kernel) (by decide +kernel) t2 h.1, TXt_fr hG2 hF2 (hF1.at hx) (hF1.at hm) (by decide +kernel) (TXt_fr hG1 hF1 hx hm (by decide +kernel) h.2.1), t1⟩, t3⟩
theorem TXb_cut {S1 S2 S3 : PS} {x mo K P R0 R1 R2 G : Nat} {p : Int} {ν : Nat → Nat} {sk : List Sk} {A : Pt} {R : List Ru} {r1 r2 : Int32} (hG1 : GX S1) (hG2 : GX S2) (hx : At S1 x 11) (hm : At S1 mo 12) (hF1 : Fr eCU S1 S2) (hF2 : Fr MCU S2 S3) (ct : CT S1 x mo) (hPN : PN S1 x) (tp : (pI S1 1104 x).toInt = (pI S1 1211 mo).toInt) (hd : ∀ K, pR S1 1107 x = some K → pI S1 801 K = pI S1 1245 mo) (hw : TPw S1 x mo ν K sk) (hp : 0 ≤ p → p < (pI S1 1104 x).toInt → PT1 S1 x mo ν p.toNat P R0 R1 R2 G A R)
    (ha1 : PN S1 x → 0 ≤ p ∧ p < (pI S1 1104 x).toInt → ∀ Q, mB S1 x 1103 p.toNat = some Q → PotV S2 (DC S1 x) Q R0 R1 R2 G K (cutF (EC S1 K P) (cA S1 A sk)) ∧ PotX S1 S2 Q R0 R1 R2 G ∧ r1.toInt = cutR (cA S1 A sk)) (ha2 : PN S1 x → ¬ (0 ≤ p ∧ p < (pI S1 1104 x).toInt) → S2 = S1 ∧ r1.toInt = -1)
    (hb1 : 0 ≤ p ∧ p < (pI S2 1211 mo).toInt → PotW S3 mo p (cutF (ER S1 mo p.toNat) (cB S1 mo ν A sk)) ∧ r2.toInt = cutR (cB S1 mo ν A sk) ∧ PwX S2 S3 mo p) (hb2 : ¬ (0 ≤ p ∧ p < (pI S2 1211 mo).toInt) → r2.toInt = -1 ∧ S3 = sI S2 1200 mo 0) (h : TXb S1 x mo) : TXb S3 x mo ∧ r1.toInt = r2.toInt := by
  obtain ⟨⟨t1, t2⟩, t3⟩ := TP_cut hG1 hG2 hx hm hF1 hF2 ct hPN tp hd h.1.1 hw hp ha1 ha2 hb1 hb2
  exact ⟨⟨TXs_of hG1 hG2 hx hm hF1 hF2 (by decide +kernel) (by decide +kernel) t2 h.1, TXt_fr hG2 hF2 (hF1.at hx) (hF1.at hm) (by decide +kernel) (TXt_fr hG1 hF1 hx hm (by decide +kernel) h.2.1), t1⟩, t3⟩
theorem TXb_fill {S1 S2 S3 : PS} {x mo K P R0 R1 R2 G : Nat} {p l f n : Int} {ν : Nat → Nat} {sk : List Sk} {A : Pt} {R : List Ru} {r1 r2 : Int32} {X3 : Nat → Prop} {Y1 Y2 : Prop} (hG1 : GX S1) (hG2 : GX S2) (hx : At S1 x 11) (hm : At S1 mo 12) (hF1 : Fr eRC S1 S2) (hF2 : Fr MFI S2 S3) (ct : CT S1 x mo) (hPN : PN S1 x) (tl : (pI S1 1102 x).toInt = (pI S1 1201 mo).toInt) (tp : (pI S1 1104 x).toInt = (pI S1 1211 mo).toInt) (hw : TPw S1 x mo ν K sk) (hp : 0 ≤ p → p < (pI S1 1104 x).toInt → PT1 S1 x mo ν p.toNat P R0 R1 R2 G A R)
    (ha : ((FilC S1 x p l f n ∧ ∀ Q, mB S1 x 1103 p.toNat = some Q → PotV S2 (DC S1 x) Q R0 R1 R2 G K (filF (cA S1 A sk) (cocL S1 x l f n.toNat)) ∧ PotX S1 S2 Q R0 R1 R2 G ∧ X3 Q) ∧ r1 = 1) ∨ (((PN S1 x → ¬ FilC S1 x p l f n) ∧ S2 = S1) ∧ r1 = 0))
    (hb : ((MI S3 mo ∧ FilR S2 mo p l f n ∧ Y1 ∧ PotW S3 mo p (filF (cB S1 mo ν A sk) (nuL l f n.toNat)) ∧ PwX S2 S3 mo p) ∧ r2 = 1) ∨ ((MI S3 mo ∧ ¬ FilR S2 mo p l f n ∧ Y2 ∧ S3 = sI S2 1200 mo 0) ∧ r2 = 0)) (h : TXb S1 x mo) : TXb S3 x mo ∧ r1 = r2 := by
  obtain ⟨⟨t1, t2⟩, t3⟩ := TP_fill (r1 := r1) (r2 := r2) hG1 hG2 hx hm hF1 hF2 ct hPN tl tp h.1.1 hw hp (by
    rcases ha with ⟨⟨a1, a2⟩, a3⟩ | a
    · exact Or.inl ⟨⟨a1, fun Q hQ => ⟨(a2 Q hQ).1, (a2 Q hQ).2.1⟩⟩, a3⟩
    · exact Or.inr a) (by
    rcases hb with ⟨⟨-, b1, -, b2⟩, b3⟩ | ⟨⟨-, b1, -, b2⟩, b3⟩
    · exact Or.inl ⟨⟨b1, b2⟩, b3⟩
    · exact Or.inr ⟨⟨b1, b2⟩, b3⟩)
  exact ⟨⟨TXs_of hG1 hG2 hx hm hF1 hF2 (by decide +kernel) (by decide +kernel) t2 h.1, TXt_fr hG2 hF2 (hF1.at hx) (hF1.at hm) (by decide +kernel) (TXt_fr hG1 hF1 hx hm (by decide +kernel) h.2.1), t1⟩, t3⟩
theorem TXb_lot {S1 S2 S3 : PS} {x mo : Nat} {a1 a2 a3 a4 a5 : Int32} {a1_z : Int} (hG1 : GX S1) (hG2 : GX S2) (hx : At S1 x 11) (hm : At S1 mo 12) (hF1 : Fr MLt S1 S2) (hF2 : Fr M12t S2 S3) (hMI : MI S1 mo) (hl : (pI S1 1102 x).toInt = (pI S1 1201 mo).toInt) (h9 : (pI S2 1102 x).toInt = (pI S1 1102 x).toInt + 1) (hz : a1.toInt = a1_z) (hn : a1_z ≤ 60) (hlt : (pI S1 1102 x).toInt < 10)
    (hN : ∀ ca lz, pR S1 1100 x = some ca → pR S1 1101 x = some lz → NewC S1 S2 ca (60 * (pI S1 1102 x).toInt) a1_z (pI S1 1102 x) a2 a3 a4 a5 ∧ pA S2 lz = upd (pA S1 lz) (Int32.toNatClampNeg (pI S1 1102 x)) a1) (h : TXb S1 x mo) : TXb S3 x mo := ⟨TXs_lot hG1 hG2 hx hm hF1 hF2 hMI hl h9 hz hn hlt hN h.1, TXt_fr hG2 hF2 (hF1.at hx) (hF1.at hm) (by decide +kernel) (TXt_fr hG1 hF1 hx hm (by decide +kernel) h.2.1), TP_lot hG1 hG2 hx hm hF1 hF2 hMI hl h9 hz hn hlt hN h.2.2⟩
theorem TXb_pot {S1 S2 S3 : PS} {x mo P P' : Nat} {a1 a2 : Int32} (hG1 : GX S1) (hG2 : GX S2) (hx : At S1 x 11) (hm : At S1 mo 12) (hF1 : Fr ePT S1 S2) (hF2 : Fr MP S2 S3) (tp : (pI S1 1104 x).toInt = (pI S1 1211 mo).toInt) (h4' : (pI S1 1104 x).toInt < 4) (hf : 1 ≤ a2.toInt) (h9 : (pI S2 1104 x).toInt = (pI S1 1104 x).toInt + 1) (hP : P ∉ pL S1) (hB : ∀ j, mB S2 x 1103 j = if j = (pI S1 1104 x).toInt.toNat then some P else mB S1 x 1103 j) (hN : PotN S1 S2 P (pI S1 1104 x) a1 a2) (hB' : ∀ j, mB S2 x 1103 j = if j = (pI S1 1104 x).toInt.toNat then some P' else mB S1 x 1103 j) (hP' : At S2 P' 4) (r0 : RowE S2 P' 400) (r1 : RowE S2 P' 401) (r2 : RowE S2 P' 402) (e12 : ∀ j, zA S3 mo 1212 j = if j = (pI S2 1211 mo).toInt.toNat then a1.toInt else zA S2 mo 1212 j) (e13 : ∀ j, zA S3 mo 1213 j = if j = (pI S2 1211 mo).toInt.toNat then a2.toInt else zA S2 mo 1213 j) (h : TXb S1 x mo) : TXb S3 x mo := ⟨TXs_fr hG2 hF2 (hF1.at hx) (hF1.at hm) (by decide +kernel) (TXs_pot hG1 hG2 hx hm hF1 h9 hB' hP' r0 r1 r2 h.1), TXt_fr hG2 hF2 (hF1.at hx) (hF1.at hm) (by decide +kernel) (TXt_fr hG1 hF1 hx hm (by decide +kernel) h.2.1), TP_pot hG1 hG2 hx hm hF1 hF2 tp h4' hf h9 hP hB hN e12 e13 h.2.2⟩
theorem TXb_target {S1 S2 S3 : PS} {x mo : Nat} {p v : Int} {a : Int32} {r1 r2 : Int32} (hG1 : GX S1) (hG2 : GX S2) (hx : At S1 x 11) (hm : At S1 mo 12) (hF1 : Fr eTG S1 S2) (hF2 : Fr Mtg S2 S3) (hPN : PN S1 x) (tp : (pI S1 1104 x).toInt = (pI S1 1211 mo).toInt) (hv : a.toInt = v)
    (ha : (((0 ≤ p ∧ p < (pI S1 1104 x).toInt ∧ 10 ≤ v ∧ v ≤ 2000) ∧ ∀ P, mB S1 x 1103 p.toNat = some P → S2 = sI S1 404 P a) ∧ r1 = 1) ∨ (((PN S1 x → ¬ (0 ≤ p ∧ p < (pI S1 1104 x).toInt ∧ 10 ≤ v ∧ v ≤ 2000)) ∧ S2 = S1) ∧ r1 = 0)) (hb : (((0 ≤ p ∧ p < (pI S2 1211 mo).toInt ∧ 10 ≤ v ∧ v ≤ 2000) ∧ ∀ j, zA S3 mo 1212 j = if j = p.toNat then v else zA S2 mo 1212 j) ∧ r2 = 1) ∨ ((¬ (0 ≤ p ∧ p < (pI S2 1211 mo).toInt ∧ 10 ≤ v ∧ v ≤ 2000) ∧ S3 = sI S2 1200 mo 0) ∧ r2 = 0)) (h : TXb S1 x mo) : TXb S3 x mo := by
  have e11 : pI S2 1211 mo = pI S1 1211 mo := hF1.I' (by decide +kernel) hm rfl
  rw [e11, ← tp] at hb
  rcases ha with ⟨⟨a1, a2⟩, -⟩ | ⟨⟨a1, a2⟩, -⟩ <;> rcases hb with ⟨⟨b1, b2⟩, -⟩ | ⟨⟨b1, b2⟩, -⟩
  · obtain ⟨-, -, ν, K, sk, hw⟩ := id h
    obtain ⟨P, R0, R1, R2, G, A, R, hp⟩ := hw.2.2.2.2.1 p.toNat (by omega)
    refine ⟨TXs_fr hG2 hF2 (hF1.at hx) (hF1.at hm) (by decide +kernel) (TXs_fr hG1 hF1 hx hm (by decide +kernel) h.1), TXt_fr hG2 hF2 (hF1.at hx) (hF1.at hm) (by decide +kernel) (TXt_fr hG1 hF1 hx hm (by decide +kernel) h.2.1), TP_target hG1 hG2 hx hm hF2 a1.1 a1.2.1 hp.1 (a2 P hp.1) (fun j => by rw [b2 j, hv]) h.2.2⟩
  · exact absurd a1 b1
  · exact absurd b1 (a1 hPN)
  · subst a2
    exact TXb_fr (M := [1200]) hG1 (by rw [b2]; exact Fr_sI (by decide)) hx hm (by decide +kernel) h
theorem TXb_shelve {S1 S2 S3 : PS} {x mo : Nat} {p k : Int} {a b : Int32} {az bz : Int} {r1 r2 : Int32} (hG1 : GX S1) (hG2 : GX S2) (hx : At S1 x 11) (hm : At S1 mo 12) (hF1 : Fr eSH S1 S2) (hF2 : Fr MSH S2 S3) (hc : CT S1 x mo) (hl : (pI S1 1102 x).toInt = (pI S1 1201 mo).toInt) (hz : a.toInt = az)
    (ha : ((∃ P, (0 ≤ p ∧ p ≤ 15) ∧ mB S1 x 1109 p.toNat = some P ∧ (pI S1 300 P).toInt = -1 ∧ ShE S1 S2 x P k a az b bz) ∧ r1 = 1) ∨ ((S2 = S1 ∧ ∀ P, 0 ≤ p → p ≤ 15 → mB S1 x 1109 p.toNat = some P → ¬ ((pI S1 300 P).toInt = -1 ∧ ShC S1 x k az bz)) ∧ r1 = 0)) (hb : ((MI S3 mo ∧ ShR S2 mo p k az bz ∧ SE S2 S3 mo p k az bz) ∧ r2 = 1) ∨ ((MI S3 mo ∧ ¬ ShR S2 mo p k az bz ∧ zA S3 mo 1207 = zA S2 mo 1207 ∧ zA S3 mo 1253 = zA S2 mo 1253 ∧ zA S3 mo 1254 = zA S2 mo 1254 ∧ zA S3 mo 1255 = zA S2 mo 1255 ∧ zA S3 mo 1256 = zA S2 mo 1256) ∧ r2 = 0)) (h : TXb S1 x mo) : TXb S3 x mo ∧ r1 = r2 := by
  obtain ⟨t1, t2⟩ := TXs_shelve (r1 := r1) (r2 := r2) hG1 hG2 hx hm hF1 hF2 hc hl hz ha hb h.1
  exact ⟨⟨t1, TXt_fr hG2 hF2 (hF1.at hx) (hF1.at hm) (by decide +kernel) (TXt_fr hG1 hF1 hx hm (by decide +kernel) h.2.1), TP_fr hG2 (hF1.at hx) (hF1.at hm) hF2 (by decide +kernel) (TP_fr hG1 hx hm hF1 (by decide +kernel) h.2.2)⟩, t2⟩
theorem TXb_take {S1 S2 S3 : PS} {x mo : Nat} {p k r1 r2 : Int} (hG1 : GX S1) (hG2 : GX S2) (hx : At S1 x 11) (hm : At S1 mo 12) (hF1 : Fr eTA S1 S2) (hF2 : Fr MTA S2 S3) (hc : CT S1 x mo) (hl : (pI S1 1102 x).toInt = (pI S1 1201 mo).toInt) (hMI : MI S1 mo)
    (ha1 : ¬ (0 ≤ p ∧ p ≤ 15 ∧ 0 ≤ k ∧ k ≤ 2) → r1 = -1 ∧ S2 = S1) (ha2 : 0 ≤ p ∧ p ≤ 15 ∧ 0 ≤ k ∧ k ≤ 2 → ∀ P, mB S1 x 1109 p.toNat = some P → TkO S1 S2 x P k r1)
    (hb1 : ¬ (0 ≤ p ∧ p ≤ 15 ∧ 0 ≤ k ∧ k ≤ 2) → r2 = -1 ∧ zA S3 mo 1207 = zA S2 mo 1207 ∧ zA S3 mo 1253 = zA S2 mo 1253) (hb2 : 0 ≤ p ∧ p ≤ 15 ∧ 0 ≤ k ∧ k ≤ 2 → TkR S2 S3 mo p k r2) (h : TXb S1 x mo) : TXb S3 x mo := ⟨TXs_take hG1 hG2 hx hm hF1 hF2 hc hl hMI ha1 ha2 hb1 hb2 h.1, TXt_fr hG2 hF2 (hF1.at hx) (hF1.at hm) (by decide +kernel) (TXt_fr hG1 hF1 hx hm (by decide +kernel) h.2.1), TP_fr hG2 (hF1.at hx) (hF1.at hm) hF2 (by decide +kernel) (TP_fr hG1 hx hm hF1 (by decide +kernel) h.2.2)⟩
theorem TXb_feed {S1 S2 S3 : PS} {x mo u : Nat} {s : Nat → Int} (hG1 : GX S1) (hG2 : GX S2) (hx : At S1 x 11) (hm : At S1 mo 12) (hF1 : Fr eAP S1 S2) (hF2 : Fr MT S2 S3) (hu : pR S1 1105 x = some u) (hsz : (pI S1 1000 u).toInt = (pI S1 1228 mo).toInt)
    (h1 : (pI S1 1000 u).toInt ≤ 380 → zA S2 u 1003 = fdP s (zA S1 u 1003) (pI S1 1000 u).toInt.toNat (4 * 5)) (h1' : 380 < (pI S1 1000 u).toInt → zA S2 u 1003 = zA S1 u 1003) (h2 : (pI S2 1228 mo).toInt ≤ 380 → zA S3 mo 1227 = fdP s (zA S2 mo 1227) (pI S2 1228 mo).toInt.toNat (4 * 5)) (h2' : 380 < (pI S2 1228 mo).toInt → zA S3 mo 1227 = zA S2 mo 1227)
    (h9 : (pI S1 1000 u).toInt ≤ 380 → (pI S3 1000 u).toInt = (pI S1 1000 u).toInt + 20) (h9' : 380 < (pI S1 1000 u).toInt → (pI S3 1000 u).toInt = (pI S1 1000 u).toInt) (h : TXb S1 x mo) : TXb S3 x mo := ⟨TXs_fr hG2 hF2 (hF1.at hx) (hF1.at hm) (by decide +kernel) (TXs_fr hG1 hF1 hx hm (by decide +kernel) h.1), TXt_feed hG1 hG2 hx hm hF1 hF2 hu hsz h1 h1' h2 h2' h9 h9' h.2.1, TP_fr hG2 (hF1.at hx) (hF1.at hm) hF2 (by decide +kernel) (TP_fr hG1 hx hm hF1 (by decide +kernel) h.2.2)⟩
theorem TXb_le {M : List Nat} {S S' : PS} {x mo u : Nat} (hG : GX S) (hF : Fr M S S') (hx : At S x 11) (hm : At S mo 12) (hM : ([1105, 1003, 10013, 1227, 10753] ++ txLs ++ tpL).all (fun g => !M.contains g) = true) (hu : pR S 1105 x = some u) (hle : (pI S' 1000 u).toInt ≤ (pI S 1000 u).toInt) (h : TXb S x mo) : TXb S' x mo := ⟨TXs_fr hG hF hx hm (sub_all hM (by decide +kernel)) h.1, TXt_le hG hF hx hm (sub_all hM (by decide +kernel)) hu hle h.2.1, TP_fr hG hx hm hF (sub_all hM (by decide +kernel)) h.2.2⟩
/-- a program: the class's call, then the reference's -/
theorem TXb_prog {S1 S2 S3 : PS} {x mo u : Nat} {p : Int} (hG1 : GX S1) (hG2 : GX S2) (hx : At S1 x 11) (hm : At S1 mo 12) (hF1 : Fr MPt S1 S2) (hF2 : Fr MPr S2 S3) (hPN : PN S1 x) (tp : (pI S1 1104 x).toInt = (pI S1 1211 mo).toInt) (hu : pR S1 1105 x = some u) (hsz : (pI S1 1000 u).toInt = (pI S1 1228 mo).toInt) (hle : (pI S2 1000 u).toInt ≤ (pI S1 1000 u).toInt) (hle3 : (pI S3 1000 u).toInt = (pI S2 1000 u).toInt)
    (ha : ∀ P rh u, PN S1 x → 0 ≤ p → p < (pI S1 1104 x).toInt → mB S1 x 1103 p.toNat = some P → pR S1 1106 x = some rh → pR S1 1105 x = some u → PgO S1 S2 x P rh u) (ha2 : PN S1 x → ¬ (0 ≤ p ∧ p < (pI S1 1104 x).toInt) → Fr MLf S1 S2)
    (hb1 : 0 ≤ p ∧ p < (pI S2 1211 mo).toInt → (prF (rB S2 mo) (pI S2 1228 mo).toInt.toNat 13 0 (tokF (rB S2 mo) (pI S2 1228 mo).toInt.toNat 0)).1 = 0 → RpS S2 S3 mo p.toNat (prL (rB S2 mo) (pI S2 1228 mo).toInt.toNat 13 0 (tokF (rB S2 mo) (pI S2 1228 mo).toInt.toNat 0))) (hb2 : ¬ (0 ≤ p ∧ p < (pI S2 1211 mo).toInt) ∨ (prF (rB S2 mo) (pI S2 1228 mo).toInt.toNat 13 0 (tokF (rB S2 mo) (pI S2 1228 mo).toInt.toNat 0)).1 ≠ 0 → RrL S2 S3 mo) (h : TXb S1 x mo) : TXb S3 x mo := by
  have hx2 := hF1.at hx
  have hm2 := hF1.at hm
  have e1 : pI S2 1211 mo = pI S1 1211 mo := hF1.I' (by decide +kernel) hm rfl
  have e2 : pI S2 1228 mo = pI S1 1228 mo := hF1.I' (by decide +kernel) hm rfl
  have e3 : rB S2 mo = rB S1 mo := by
    funext i
    rw [rB_eq, rB_eq, e2, mA_fr hF1 hm (ex3 (gQ_12_1227 hG1 hm)) (by decide +kernel) (by decide +kernel)]
  have e4 := tB_rB hu hsz h.2.1
  rw [e1, ← tp, e3, e2, ← e4, ← hsz] at hb1 hb2
  refine ⟨TXs_fr hG2 hF2 hx2 hm2 (by decide +kernel) (TXs_fr hG1 hF1 hx hm (by decide +kernel) h.1), TXt_le hG2 hF2 hx2 hm2 (by decide +kernel) (hF1.R' (by decide +kernel) hx hu) (by omega) (TXt_le hG1 hF1 hx hm (by decide +kernel) hu hle h.2.1), ?_⟩
  by_cases c : 0 ≤ p ∧ p < (pI S1 1104 x).toInt
  · obtain ⟨-, -, ν, K, sk, hw⟩ := id h
    obtain ⟨P, R0, R1, R2, G, A, R, hp⟩ := hw.2.2.2.2.1 p.toNat (by omega)
    obtain ⟨rh, o2, -⟩ := hw.2.2.2.2.2.2.2
    exact TP_prog (p := p.toNat) hG1 hG2 hx hm hF1 hF2 (by omega) hp.1 o2 hu (ha P rh u hPN c.1 c.2 hp.1 o2 hu) (fun z => hb1 c z) (fun z => hb2 (Or.inr z)) h.2.2
  · exact TP_ref hG2 hx2 hm2 hF2 (by decide +kernel) (hb2 (Or.inl c)) (TP_fr hG1 hx hm (ha2 hPN c) (by decide +kernel) h.2.2)
theorem upd_if {f : Nat → Int32} {i j : Nat} {v : Int32} : upd f i v j = if j = i then v else f j := by
  by_cases h : j = i
  · rw [if_pos h, h]
    exact upd_s
  · rw [if_neg h]
    exact upd_n h
theorem nd_of : ∀ {L : List Nat} {c : Nat}, (∀ i j : Nat, i < j → L[i]? = some c → L[j]? = some c → False) → L.count c ≤ 1
  | [], _, _ => Nat.zero_le _
  | a :: t, c, h => by
    rw [con_cn]
    have ih : t.count c ≤ 1 := nd_of (fun i j hij hi hj => h (i + 1) (j + 1) (by omega) (by rw [List.getElem?_cons_succ]; exact hi) (by rw [List.getElem?_cons_succ]; exact hj))
    have h1 : [a].count c ≤ 1 := List.count_le_length
    by_cases e : a = c
    · have : t.count c = 0 := List.count_eq_zero.mpr (fun z => by
        obtain ⟨k, hk⟩ := List.mem_iff_getElem?.mp z
        exact h 0 (k + 1) (by omega) (by rw [List.getElem?_cons_zero, e]) (by rw [List.getElem?_cons_succ]; exact hk))
      omega
    · have : [a].count c = 0 := List.count_eq_zero.mpr (fun z => e (List.mem_singleton.mp z).symm)
      omega
theorem row_cn {S : PS} {mo r : Nat} {L : List Nat} {ν : Nat → Nat} (hMI : MI S mo) (hr : r < 12) (h : RowR S mo r (L.map ν)) (c : Nat) : L.count c ≤ 1 ∧ (0 < L.count c → zA S mo 1207 (ν c) = ((r % 3 + 1 : Nat) : Int)) := by
  have hl : zA S mo 1219 r = (L.length : Int) := by
    have a := h.1
    rw [List.length_map] at a
    exact a
  have hc : ∀ k, L[k]? = some c → zA S mo 1218 (600 * r + k) = ((ν c : Nat) : Int) ∧ (k : Int) < zA S mo 1219 r := fun k hk => by
    refine ⟨h.2 k (ν c) (by rw [List.getElem?_map, hk]; rfl), ?_⟩
    have := (List.getElem?_eq_some_iff.mp hk).1
    omega
  refine ⟨nd_of (fun i j hij hi hj => ?_), fun z => ?_⟩
  · obtain ⟨a1, a2⟩ := hc i hi
    obtain ⟨b1, b2⟩ := hc j hj
    exact hMI.2.2.1 r i j hr hij b2 (a1.trans b1.symm)
  · obtain ⟨k, hk⟩ := List.mem_iff_getElem?.mp (List.count_pos_iff.mp z)
    obtain ⟨a1, a2⟩ := hc k hk
    have m := (hMI.2.1 r k hr a2).2.2.1
    rw [a1, Int.toNat_natCast] at m
    exact m
theorem cn_of {S : PS} {mo p : Nat} {ν : Nat → Nat} {A : Pt} (hMI : MI S mo) (hp : p < 4) (h : PW S mo (p : Int) (rnA ν A)) (c : Nat) : cnA A c ≤ 1 := by
  obtain ⟨h0, h1, h2, -⟩ := h
  have a : RowR S mo (3 * p) ((qb A).map ν) := by
    have e : (3 * (p : Int) + 0).toNat = 3 * p := by omega
    rw [e] at h0
    exact h0
  have b : RowR S mo (3 * p + 1) ((qe A).map ν) := by
    have e : (3 * (p : Int) + 1).toNat = 3 * p + 1 := by omega
    rw [e] at h1
    exact h1
  have d : RowR S mo (3 * p + 2) ((ql A).map ν) := by
    have e : (3 * (p : Int) + 2).toNat = 3 * p + 2 := by omega
    rw [e] at h2
    exact h2
  obtain ⟨a1, a2⟩ := row_cn hMI (by omega) a c
  obtain ⟨b1, b2⟩ := row_cn hMI (by omega) b c
  obtain ⟨d1, d2⟩ := row_cn hMI (by omega) d c
  unfold cnA
  rcases Nat.eq_zero_or_pos ((qb A).count c) with x | x <;> rcases Nat.eq_zero_or_pos ((qe A).count c) with y | y <;> rcases Nat.eq_zero_or_pos ((ql A).count c) with z | z
  · omega
  · omega
  · omega
  · have := b2 y
    have := d2 z
    omega
  · omega
  · have := a2 x
    have := d2 z
    omega
  · have := a2 x
    have := b2 y
    omega
  · have := a2 x
    have := b2 y
    omega
/-! ===== which cocoons are in what is drawn ===== -/
def CnD (L : List Nat) (A : Pt) : Prop := (∀ m, m ∈ qg A → ∀ z, z ∈ m → z.1 ∈ L) ∧ ∀ g, g ∈ qws A → ∀ m, m ∈ g → ∀ z, z ∈ m → z.1 ∈ L
def DnT (E : En) (L : List Nat) (A B : Pt) : Prop := CnV E L A → CnD L A → CnD L B
theorem DnT_tr {E : En} {L : List Nat} {A B C : Pt} (k : CnT E L A B) (h : DnT E L A B) (h' : DnT E L B C) : DnT E L A C := fun hV hD => h' (k hV).1 (h hV hD)
theorem DnT_q {E : En} {L : List Nat} {A B : Pt} (hg : qg B = qg A) (hw : qws B = qws A) : DnT E L A B := fun _ hD => by
  unfold CnD
  rw [hg, hw]
  exact hD
theorem DnT_mv {E : En} {L : List Nat} {A B : Pt} (h : Mv6 E L A B) : DnT E L A B := fun hV hD => by
  obtain ⟨a1, -, -⟩ := h hV
  exact DnT_q (E := E) a1.1 a1.2.2.1 hV hD
theorem cut_D {F : En} {L : List Nat} {A : Pt} (hD : CnD L A) : CnD L (cutF F A) := by
  obtain ⟨d1, d2⟩ := hD
  by_cases h : qg A = []
  · rw [cutF_n h]
    exact ⟨d1, d2⟩
  · by_cases h2 : (qsk A).length < 40
    · rw [cutF_k h h2]
      exact ⟨fun m hm => absurd hm List.not_mem_nil, d2⟩
    · rw [cutF_w h h2]
      refine ⟨fun m hm => absurd hm List.not_mem_nil, fun g hg => ?_⟩
      have hg' : g ∈ qws A ++ [qg A] := hg
      rcases List.mem_append.mp hg' with z | z
      · exact d2 g z
      · rw [List.mem_singleton.mp z]
        exact d1
theorem drw_D {E : En} {L : List Nat} {A : Pt} (hV : CnV E L A) (hD : CnD L A) : CnD L (drwB E A) := by
  obtain ⟨-, -, h3, -⟩ := ends_q (E := E) (A := DRa A) (qe A).length (Nat.le_refl _)
  obtain ⟨-, -, -, k4⟩ := ends_cn (E := E) (L := L) (A := DRa A) hV.2 (qe A).length (Nat.le_refl _)
  have h3' : qg (drwB E A) = qg A ++ [MTa A] := h3.trans (capG_a hV.1)
  have k4' : qws (drwB E A) = qws A := k4
  unfold CnD
  rw [h3', k4']
  refine ⟨fun m hm z hz => ?_, hD.2⟩
  rcases List.mem_append.mp hm with y | y
  · exact hD.1 m y z hz
  · rw [List.mem_singleton.mp y] at hz
    obtain ⟨c, hc, e⟩ := List.mem_map.mp (show z ∈ (qe A).map (fun c => (c, qpl A c)) from hz)
    have hm' : 0 < cnA A c := by
      have : 0 < (qe A).count c := List.count_pos_iff.mpr hc
      unfold cnA
      omega
    have h1 := (hV.2.2 c hm').2.1
    have h2 : c ∈ L := List.count_pos_iff.mp (by omega)
    rw [← e]
    exact h2
theorem DnT_drw {E : En} {L : List Nat} {A : Pt} : DnT E L A (drwF E A) := fun hV hD => by
  have h1 := drw_D hV hD
  by_cases h : 300 ≤ (qg (drwB E A)).length
  · rw [drwF_c h]
    exact cut_D h1
  · rw [drwF_n h]
    exact h1
theorem DnT_act {E F : En} {L : List Nat} {A : Pt} {a m : Int32} : DnT E L A (actF F a m A) := by
  unfold actF
  split
  · exact DnT_mv m6_cas
  · split
    · exact DnT_mv m6_dro
    · split
      · exact DnT_mv m6_fnd
      · split
        · exact DnT_q gs_thr.1 thr_ws
        · split
          · exact fun _ hD => cut_D hD
          · exact DnT_mv m6_st
theorem DnT_rus {E F : En} {L : List Nat} : ∀ {R : List Ru} {A : Pt}, DnT E L A (rusF F A R)
  | [], A => DnT_mv (m6_rf A)
  | r :: R, A => by
    show DnT E L A (rusF F (ruF F A r) R)
    by_cases h : allP F A r.2.2
    · rw [ruF_y h]
      exact DnT_tr CnT_act DnT_act DnT_rus
    · rw [ruF_n h]
      exact DnT_rus
theorem DnT_tic {E : En} {L : List Nat} {R : List Ru} {A : Pt} : DnT E L A (ticF E R A).1 := by
  have m2 : Mv6 E L A (seaF E (wtk A (qtk A + 1))) := m6_tr m6_tk m6_sea
  have h2 : DnT E L A (seaF E (wtk A (qtk A + 1))) := DnT_mv m2
  have c2 : CnT E L A (seaF E (wtk A (qtk A + 1))) := CnT_mv m2
  have h3 : DnT E L A (ticB E R A) ∧ CnT E L A (ticB E R A) := by
    unfold ticB
    split
    · exact ⟨DnT_tr c2 h2 DnT_rus, CnT_tr c2 CnT_rus⟩
    · exact ⟨h2, c2⟩
  by_cases c1 : 0 < (qst (ticB E R A)).toInt
  · rw [ticF_s c1]
    exact DnT_tr h3.2 h3.1 (DnT_mv m6_st)
  · by_cases c2 : qe (ticB E R A) = []
    · rw [ticF_0 c1 c2]
      exact h3.1
    · rw [ticF_d c1 c2]
      exact DnT_tr h3.2 h3.1 DnT_drw
theorem DnT_run {E : En} {L : List Nat} {R : List Ru} {A : Pt} : ∀ n, DnT E L A (runF E R n A).1
  | 0 => DnT_mv (m6_rf A)
  | n + 1 => DnT_tr (CnT_run n) (DnT_run n) DnT_tic
/-- waste, renamed -/
theorem ws_ren {ν : Nat → Nat} {D : Nat → Prop} {E F : En} {W : List (List Mt)} (hE : ReE ν D E F) (h : ∀ g, g ∈ W → ∀ m, m ∈ g → ∀ z, z ∈ m → D z.1) : wsE F (W.map (List.map (mtN ν))) = wsE E W := by
  unfold wsE
  rw [List.foldl_map]
  refine flx (fun b g hg => ?_)
  show b + siE F (g.map (mtN ν)) = b + siE E g
  refine congrArg (fun y => b + y) ?_
  unfold siE
  rw [List.foldl_map]
  refine flx (fun b' m hm => ?_)
  show b' + mtE F (mtN ν m) = b' + mtE E m
  refine congrArg (fun y => b' + y) ?_
  unfold mtE mtN
  rw [List.foldl_map]
  refine flx (fun b2 z hz => ?_)
  show b2 + efn F (ν z.1) z.2 = b2 + efn E z.1 z.2
  rw [(hE.1 z.1 (h g hg m hm z hz)).2.1 z.2]
/-! ===== all cocoons, one after the other ===== -/
def oF (f : Nat → Int32) : Option Nat → Int32
  | some c => f c
  | none => 0
theorem su_fm {f : Nat → Int32} {g : Nat → Option Nat} : ∀ {l : List Nat}, suL f (l.filterMap g) = suL (fun j => oF f (g j)) l
  | [] => rfl
  | a :: t => by
    rw [su_c (f := fun j => oF f (g j))]
    cases e : g a with
    | none =>
      rw [List.filterMap_cons_none e, su_fm]
      show _ = oF f none + _
      exact (Int32.zero_add _).symm
    | some c =>
      rw [List.filterMap_cons_some e, su_c, su_fm]
      rfl
noncomputable def vld (S : PS) (x j : Nat) : Option Nat := if ((j / 60 : Nat) : Int) < (pI S 1102 x).toInt ∧ ((j % 60 : Nat) : Int) < zA S x 1101 (j / 60) then mB S x 1100 j else none
noncomputable def coS (S : PS) (x : Nat) : List Nat := (List.range 600).filterMap (vld S x)
theorem vld_y {S : PS} {x l i c : Nat} (hi : i < 60) (h1 : (l : Int) < (pI S 1102 x).toInt) (h2 : (i : Int) < zA S x 1101 l) (h3 : mB S x 1100 (60 * l + i) = some c) : vld S x (60 * l + i) = some c := by
  unfold vld
  have e1 : (60 * l + i) / 60 = l := by omega
  have e2 : (60 * l + i) % 60 = i := by omega
  rw [e1, e2, if_pos ⟨h1, h2⟩]
  exact h3
theorem vld_d {S : PS} {x j c : Nat} (h : vld S x j = some c) : ((j / 60 : Nat) : Int) < (pI S 1102 x).toInt ∧ ((j % 60 : Nat) : Int) < zA S x 1101 (j / 60) ∧ mB S x 1100 (60 * (j / 60) + j % 60) = some c := by
  unfold vld at h
  split at h
  · rename_i k
    exact ⟨k.1, k.2, by rw [show 60 * (j / 60) + j % 60 = j by omega]; exact h⟩
  · cases h
theorem co_D {S : PS} {x c : Nat} (h : c ∈ coS S x) : DC S x c := by
  obtain ⟨j, -, hj⟩ := List.mem_filterMap.mp h
  obtain ⟨h1, h2, h3⟩ := vld_d hj
  exact ⟨j / 60, j % 60, h1, h2, h3⟩
theorem co_m {S : PS} {x c : Nat} (hG : GX S) (hx : At S x 11) (h : DC S x c) : c ∈ coS S x := by
  obtain ⟨l, i, h1, h2, h3⟩ := h
  have b1 := il60 hG hx l
  have b2 := gI_11_1102 hG hx
  exact List.mem_filterMap.mpr ⟨60 * l + i, List.mem_range.mpr (by omega), vld_y (by omega) h1 h2 h3⟩
theorem fm_cn {g : Nat → Option Nat} {c j0 : Nat} : ∀ {l : List Nat}, (∀ j, j ∈ l → g j = some c → j = j0) → (l.filterMap g).count c ≤ l.count j0
  | [], _ => Nat.le_refl _
  | a :: t, h => by
    have ih := fm_cn (g := g) (c := c) (j0 := j0) (l := t) (fun j hj => h j (List.mem_cons_of_mem _ hj))
    rw [con_cn (L := t)]
    cases e : g a with
    | none =>
      rw [List.filterMap_cons_none e]
      omega
    | some d =>
      rw [List.filterMap_cons_some e, con_cn]
      by_cases z : d = c
      · have k := h a List.mem_cons_self (by rw [e, z])
        have k1 : 0 < [a].count j0 := List.count_pos_iff.mpr (List.mem_singleton.mpr k.symm)
        have k2 : [d].count c ≤ 1 := List.count_le_length
        omega
      · have k2 : [d].count c = 0 := List.count_eq_zero.mpr (fun y => z (List.mem_singleton.mp y).symm)
        omega
theorem co_1 {S : PS} {x c : Nat} {ν : Nat → Nat} (hG : GX S) (hx : At S x 11) (hN : NuP S x ν) (h : DC S x c) : (coS S x).count c = 1 := by
  have h0 : 0 < (coS S x).count c := List.count_pos_iff.mpr (co_m hG hx h)
  have h1 : (coS S x).count c ≤ (List.range 600).count (ν c) := fm_cn (fun j _ hj => by
    obtain ⟨k1, k2, k3⟩ := vld_d hj
    have := hN _ _ c k1 k2 k3
    omega)
  have h2 := List.nodup_iff_count.mp (List.nodup_range (n := 600)) (ν c)
  omega
/-! ===== what the store counts, among the ties ===== -/
theorem cn_sd {S : PS} {mo p : Nat} {ν : Nat → Nat} {A : Pt} (hMI : MI S mo) (hp : p < 4) (h : PW S mo (p : Int) (rnA ν A)) (c : Nat) (hc : 0 < cnA A c) : 1 ≤ zA S mo 1207 (ν c) ∧ zA S mo 1207 (ν c) ≤ 3 := by
  obtain ⟨h0, h1, h2, -⟩ := h
  have a : RowR S mo (3 * p) ((qb A).map ν) := by
    have e : (3 * (p : Int) + 0).toNat = 3 * p := by omega
    rw [e] at h0
    exact h0
  have b : RowR S mo (3 * p + 1) ((qe A).map ν) := by
    have e : (3 * (p : Int) + 1).toNat = 3 * p + 1 := by omega
    rw [e] at h1
    exact h1
  have d : RowR S mo (3 * p + 2) ((ql A).map ν) := by
    have e : (3 * (p : Int) + 2).toNat = 3 * p + 2 := by omega
    rw [e] at h2
    exact h2
  unfold cnA at hc
  rcases Nat.eq_zero_or_pos ((qb A).count c) with x | x
  · rcases Nat.eq_zero_or_pos ((qe A).count c) with y | y
    · have := (row_cn hMI (by omega) d c).2 (by omega)
      omega
    · have := (row_cn hMI (by omega) b c).2 y
      omega
  · have := (row_cn hMI (by omega) a c).2 x
    omega
def dwD (S : PS) (c : Nat) : Int32 := slC (pI S 8 c) (pI S 2 c) 0 (pI S 4 c).toInt.toNat
def thD (S : PS) (c : Nat) : Int32 := if pI S 3 c = 6 then slC (pI S 8 c) (pI S 2 c) (pI S 4 c).toInt ((pI S 2 c).toInt - (pI S 4 c).toInt).toNat else 0
def skS (S : PS) (K k : Nat) : Int32 := oF (fun o => oF (fun b => pI S 903 b) (pR S 703 o)) (mB S K 808 k)
def kpC (S : PS) (K : Nat) : Int32 := suL (skS S K) (List.range (pI S 800 K).toInt.toNat)
noncomputable def laN (S : PS) (mo : Nat) : Nat → Int
  | 0 => 0
  | n + 1 => laN S mo n + (if zA S mo 1253 n = 0 then 0 else 1)
def CnQ (S : PS) (x mo : Nat) : Prop := ∀ K, pR S 1107 x = some K → pI S 802 K = suL (dwD S) (coS S x) ∧ pI S 803 K = kpC S K ∧ pI S 804 K = suL (thD S) (coS S x) ∧ pI S 805 K = pI S 1246 mo
def LaT (S : PS) (x mo : Nat) : Prop := (pI S 1110 x).toInt = laN S mo 16
def CnS (S : PS) (x mo : Nat) : Prop := CnQ S x mo ∧ LaT S x mo
def laL : List Nat := [1110, 1253, 11275]
def kpL : List Nat := [800, 808, 10019, 703, 903]
def cnsN : List Nat := [1107, 802, 803, 804, 805, 1246, 8, 2, 4] ++ kpL
def cnsL : List Nat := szC ++ cnsN ++ [3]
def cnsM : List Nat := cnsL ++ laL
theorem la_e {S T : PS} {mo : Nat} (h : zA T mo 1253 = zA S mo 1253) : ∀ n, laN T mo n = laN S mo n
  | 0 => rfl
  | n + 1 => by
    show laN T mo n + (if zA T mo 1253 n = 0 then 0 else 1) = laN S mo n + (if zA S mo 1253 n = 0 then 0 else 1)
    rw [la_e h n, h]
theorem la_x {S T : PS} {mo p : Nat} (h : ∀ j, j ≠ p → zA T mo 1253 j = zA S mo 1253 j) : ∀ n, n ≤ p → laN T mo n = laN S mo n
  | 0, _ => rfl
  | n + 1, hn => by
    show laN T mo n + (if zA T mo 1253 n = 0 then 0 else 1) = laN S mo n + (if zA S mo 1253 n = 0 then 0 else 1)
    rw [la_x h n (by omega), h n (by omega)]
theorem la_u {S T : PS} {mo p : Nat} (h : ∀ j, j ≠ p → zA T mo 1253 j = zA S mo 1253 j) : ∀ n, p < n → laN T mo n + (if zA S mo 1253 p = 0 then 0 else 1) = laN S mo n + (if zA T mo 1253 p = 0 then 0 else 1)
  | 0, hn => absurd hn (Nat.not_lt_zero _)
  | n + 1, hn => by
    show laN T mo n + (if zA T mo 1253 n = 0 then 0 else 1) + _ = laN S mo n + (if zA S mo 1253 n = 0 then 0 else 1) + _
    by_cases e : n = p
    · have k := la_x h n (by omega)
      rw [e] at k ⊢
      omega
    · have k := la_u h n (by omega)
      rw [h n e]
      omega
theorem LaT_fr {M : List Nat} {S T : PS} {x mo : Nat} (hG : GX S) (hx : At S x 11) (hm : At S mo 12) (hF : Fr M S T) (hM : laL.all (fun g => !M.contains g) = true) (h : LaT S x mo) : LaT T x mo := by
  unfold LaT
  rw [hF.I' (g := 1110) (allc hM (by decide)) hx rfl, la_e (zA_fr hF hm (ex3 (gQ_12_1253 hG hm)) (allc hM (by decide)) (allc hM (by decide)))]
  exact h
theorem kp_fr {M : List Nat} {S T : PS} {K : Nat} (hG : GX S) (hK : At S K 8) (hF : Fr M S T) (hM : kpL.all (fun g => !M.contains g) = true) : kpC T K = kpC S K := by
  have e0 : pI T 800 K = pI S 800 K := hF.I' (allc hM (by decide)) hK rfl
  have eB : mB T K 808 = mB S K 808 := mB_frc hF hK (ex3 (gQ_8_808 hG hK)) (allc hM (by decide)) (allc hM (by decide))
  unfold kpC
  rw [e0]
  refine su_e (fun k _ => ?_)
  unfold skS
  rw [eB]
  cases e : mB S K 808 k with
  | none => rfl
  | some o =>
    have ho := sk_at hG hK e
    show oF (fun b => pI T 903 b) (pR T 703 o) = oF (fun b => pI S 903 b) (pR S 703 o)
    rw [frR hF (g := 703) (allc hM (by decide)) ho.1]
    cases e2 : pR S 703 o with
    | none => rfl
    | some b => exact hF.I' (g := 903) (allc hM (by decide)) (sk_str hG ho e2) rfl
theorem co_e {S T : PS} {x : Nat} (h1 : (pI T 1102 x).toInt = (pI S 1102 x).toInt) (h2 : zA T x 1101 = zA S x 1101) (h3 : mB T x 1100 = mB S x 1100) : coS T x = coS S x := by
  have e : vld T x = vld S x := by
    funext j
    unfold vld
    rw [h1, h2, h3]
  unfold coS
  rw [e]
theorem co_fr {M : List Nat} {S T : PS} {x : Nat} (hG : GX S) (hx : At S x 11) (hF : Fr M S T) (hM : szC.all (fun g => !M.contains g) = true) : coS T x = coS S x := by
  obtain ⟨a1, a2, a3⟩ := sz_same hG hx hF hM
  exact co_e a1 a2 a3
theorem CnQ_g {M : List Nat} {S T : PS} {x mo : Nat} (hG : GX S) (hx : At S x 11) (hm : At S mo 12) (hF : Fr M S T) (hM : cnsN.all (fun g => !M.contains g) = true) (hD : suL (dwD T) (coS T x) = suL (dwD S) (coS S x)) (hT : suL (thD T) (coS T x) = suL (thD S) (coS S x)) (h : CnQ S x mo) : CnQ T x mo := fun K hK => by
  rw [frR hF (g := 1107) (allc hM (by decide)) hx.1] at hK
  have hKs := st_at hG hx hK
  obtain ⟨a, b, c, d⟩ := h K hK
  rw [hD, hT, hF.I' (g := 802) (allc hM (by decide)) hKs rfl, hF.I' (g := 803) (allc hM (by decide)) hKs rfl, hF.I' (g := 804) (allc hM (by decide)) hKs rfl, hF.I' (g := 805) (allc hM (by decide)) hKs rfl, hF.I' (g := 1246) (allc hM (by decide)) hm rfl, kp_fr hG hKs hF (sub_all hM (by decide))]
  exact ⟨a, b, c, d⟩
theorem dwD_fr {M : List Nat} {S T : PS} {c : Nat} (hF : Fr M S T) (hM : ([8, 2, 4] : List Nat).all (fun g => !M.contains g) = true) (hc : At S c 0) : dwD T c = dwD S c := by
  unfold dwD
  rw [hF.I' (g := 8) (allc hM (by decide)) hc rfl, hF.I' (g := 2) (allc hM (by decide)) hc rfl, hF.I' (g := 4) (allc hM (by decide)) hc rfl]
theorem thD_fr {M : List Nat} {S T : PS} {c : Nat} (hF : Fr M S T) (hM : ([8, 2, 4] : List Nat).all (fun g => !M.contains g) = true) (hc : At S c 0) (h3 : pI T 3 c = 6 ↔ pI S 3 c = 6) : thD T c = thD S c := by
  unfold thD
  rw [hF.I' (g := 8) (allc hM (by decide)) hc rfl, hF.I' (g := 2) (allc hM (by decide)) hc rfl, hF.I' (g := 4) (allc hM (by decide)) hc rfl]
  by_cases z : pI S 3 c = 6
  · rw [if_pos z, if_pos (h3.mpr z)]
  · rw [if_neg z, if_neg (fun y => z (h3.mp y))]
theorem CnQ_f3 {M : List Nat} {S T : PS} {x mo : Nat} (hG : GX S) (hx : At S x 11) (hm : At S mo 12) (hF : Fr M S T) (hM : (szC ++ cnsN).all (fun g => !M.contains g) = true) (h3 : ∀ c, DC S x c → (pI T 3 c = 6 ↔ pI S 3 c = 6)) (h : CnQ S x mo) : CnQ T x mo := by
  have hC := co_fr hG hx hF (sub_all hM (by decide))
  have hA : ∀ c, c ∈ coS S x → At S c 0 := fun c hc => dc_at hG hx c (co_D hc)
  refine CnQ_g hG hx hm hF (sub_all hM (by decide)) ?_ ?_ h
  · rw [hC]
    exact su_e (fun c hc => dwD_fr hF (sub_all hM (by decide)) (hA c hc))
  · rw [hC]
    exact su_e (fun c hc => thD_fr hF (sub_all hM (by decide)) (hA c hc) (h3 c (co_D hc)))
theorem CnQ_fr {M : List Nat} {S T : PS} {x mo : Nat} (hG : GX S) (hx : At S x 11) (hm : At S mo 12) (hF : Fr M S T) (hM : cnsL.all (fun g => !M.contains g) = true) (h : CnQ S x mo) : CnQ T x mo := CnQ_f3 hG hx hm hF (sub_all hM (by decide)) (fun c hc => by rw [hF.I' (g := 3) (allc hM (by decide)) (dc_at hG hx c hc) rfl]) h
theorem CnS_fr {M : List Nat} {S T : PS} {x mo : Nat} (hG : GX S) (hx : At S x 11) (hm : At S mo 12) (hF : Fr M S T) (hM : cnsM.all (fun g => !M.contains g) = true) (h : CnS S x mo) : CnS T x mo := ⟨CnQ_fr hG hx hm hF (sub_all hM (by decide)) h.1, LaT_fr hG hx hm hF (sub_all hM (by decide)) h.2⟩
theorem su_0 {f : Nat → Int32} : ∀ {l : List Nat}, (∀ c, c ∈ l → f c = 0) → suL f l = 0
  | [], _ => rfl
  | a :: t, h => by
    rw [su_c, h a List.mem_cons_self, su_0 (fun c hc => h c (List.mem_cons_of_mem _ hc))]
    rfl
theorem la_0 {S : PS} {mo : Nat} (h : ∀ i, zA S mo 1253 i = 0) : ∀ n, laN S mo n = 0
  | 0 => rfl
  | n + 1 => by
    show laN S mo n + (if zA S mo 1253 n = 0 then 0 else 1) = 0
    rw [la_0 h n, if_pos (h n)]
    rfl
theorem CnS_0 {S : PS} {x mo : Nat} (h2 : pI S 1102 x = 0) (h5 : ∀ i, zA S mo 1253 i = 0) (h8 : ∀ K, pR S 1107 x = some K → pI S 800 K = 0 ∧ pI S 802 K = 0 ∧ pI S 803 K = 0 ∧ pI S 804 K = 0 ∧ pI S 805 K = 0) (h6 : pI S 1246 mo = 0) (h10 : pI S 1110 x = 0) : CnS S x mo := by
  have e0 : (0 : Int32).toInt = 0 := by decide
  have hN : ∀ c, ¬ c ∈ coS S x := fun c hc => by
    obtain ⟨l, i, h1, -⟩ := co_D hc
    rw [h2, e0] at h1
    omega
  refine ⟨fun K hK => ?_, ?_⟩
  · obtain ⟨a, b, c, d, e⟩ := h8 K hK
    rw [b, c, d, e, h6, su_0 (fun c hc => absurd hc (hN c)), su_0 (fun c hc => absurd hc (hN c))]
    refine ⟨rfl, ?_, rfl, rfl⟩
    unfold kpC
    rw [a, e0]
    rfl
  · unfold LaT
    rw [h10, la_0 h5]
    exact e0
theorem sl_EC {S : PS} {K P c : Nat} {a : Int} : ∀ n, slE (EC S K P) c a n = slC (pI S 8 c) (pI S 2 c) a n
  | 0 => rfl
  | n + 1 => by
    show slE (EC S K P) c a n + fcI (pI S 8 c) (pI S 2 c) (Int32.ofInt (a + (n : Int))) = slC (pI S 8 c) (pI S 2 c) a n + fcI (pI S 8 c) (pI S 2 c) (Int32.ofInt (a + (n : Int)))
    rw [sl_EC n]
theorem si_EC {S T : PS} {K P : Nat} {D : Nat → Prop} {g : List Mt} (h8 : ∀ c, D c → pI T 8 c = pI S 8 c ∧ pI T 2 c = pI S 2 c) (h : MtD T D g) : siS T g = siE (EC S K P) g := flx (fun b m hm => by
  show b + mtS T m = b + mtE (EC S K P) m
  refine congrArg (fun y => b + y) (flx (fun b' z hz => ?_))
  show b' + fcI (pI T 8 z.1) (pI T 2 z.1) z.2 = b' + fcI (pI S 8 z.1) (pI S 2 z.1) z.2
  obtain ⟨e1, e2⟩ := h8 z.1 (h m hm z hz).1
  rw [e1, e2])
theorem su_ix {α : Type} {l : List α} {f : Nat → Int32} {g : α → Int32} (h : ∀ k s, l[k]? = some s → f k = g s) : ∀ n, n ≤ l.length → suL f (List.range n) = (l.take n).foldl (fun a s => a + g s) 0
  | 0, _ => by rw [List.take_zero]; rfl
  | n + 1, hn => by
    have e : l[n]? = some l[n] := List.getElem?_eq_getElem (by omega)
    rw [List.range_succ, su_a, su_ix h n (by omega), List.take_succ, e, h n _ e]
    exact fo_app.symm
theorem kp_V {S T : PS} {K P : Nat} {D : Nat → Prop} {sk : List Sk} (h8 : ∀ c, D c → pI T 8 c = pI S 8 c ∧ pI T 2 c = pI S 2 c) (hV : SkV T D K sk) : kpC T K = kpE (EC S K P) sk := by
  have hl := hV.1
  unfold kpC
  rw [show (pI T 800 K).toInt.toNat = sk.length by omega, su_ix (l := sk) (g := fun s => siE (EC S K P) s.2.2.2) (fun k s hs => ?_) _ (Nat.le_refl _), List.take_length]
  · rfl
  · obtain ⟨o, j1, b, f, j2, j3, j4, j5, -⟩ := hV.2 k s hs
    unfold skS
    rw [j1]
    show oF (fun b => pI T 903 b) (pR T 703 o) = _
    rw [j2]
    show pI T 903 b = _
    rw [j5.2.1]
    exact si_EC h8 j5.2.2.1
theorem i_can {a b c d : Int32} (h : a + b = c + d) (e : c = b) : a = d := by
  rw [e, Int32.add_comm b d] at h
  exact (Int32.add_left_inj b).mp h
def cn4L : List Nat := szC ++ [1107, 8, 2, 1246]
def cn5L : List Nat := szC ++ [802, 803, 804, 805, 8, 2, 4, 3] ++ kpL
/-- a pot's step -/
theorem cn_step {M1 M2 : List Nat} {S1 S2 S3 : PS} {x mo K p P R0 R1 R2 G : Nat} {ν : Nat → Nat} {sk : List Sk} {A A' B' : Pt} {R : List Ru} (hG1 : GX S1) (hG2 : GX S2) (hx : At S1 x 11) (hm : At S1 mo 12) (hF1 : Fr M1 S1 S2) (hF2 : Fr M2 S2 S3) (hM1 : (cn4L ++ laL).all (fun g => !M1.contains g) = true) (hM2 : (cn5L ++ laL ++ [1107]).all (fun g => !M2.contains g) = true) (ct : CT S1 x mo) (hMI : MI S1 mo) (hGR : GR S1 mo) (hS : SZ S1 x mo) (hw : TPw S1 x mo ν K sk) (hp : (p : Int) < (pI S1 1104 x).toInt) (h : PT1 S1 x mo ν p P R0 R1 R2 G A R)
    (hV : PotV S2 (DC S1 x) P R0 R1 R2 G K A') (hCt : CtT S1 S2 K (EC S1 K P) (cA S1 A sk) A') (hCn : ∀ L, CnT (EC S1 K P) L (cA S1 A sk) A') (hDn : ∀ L, DnT (EC S1 K P) L (cA S1 A sk) A') (hE : ReE ν (DC S1 x) (EC S1 K P) (ER S1 mo p)) (hW : WsT S2 S3 mo (ER S1 mo p) (cB S1 mo ν A sk) B') (hR : Ren ν (DC S1 x) A' B') (h0 : CnS S1 x mo) : CnS S3 x mo := by
  have hx2 := hF1.at hx
  have hm2 := hF1.at hm
  refine ⟨fun K' hK' => ?_, LaT_fr hG2 hx2 hm2 hF2 (sub_all hM2 (by decide)) (LaT_fr hG1 hx hm hF1 (sub_all hM1 (by decide)) h0.2)⟩
  obtain ⟨hN1, hK1, hsk, hPl, -, -, -⟩ := hw
  rw [frR hF2 (g := 1107) (allc hM2 (by decide)) hx2.1, frR hF1 (g := 1107) (allc hM1 (by decide)) hx.1, hK1] at hK'
  cases hK'
  have hKs := st_at hG1 hx hK1
  have hKs2 := hF1.at hKs
  have hp4 : p < 4 := by
    have := gI_11_1104 hG1 hx
    omega
  have hInD : InD (DC S1 x) A := h.2.2.1.2.2.2.2.2.2.2.2
  have hMt := h.2.2.1.2.2.2.2.2.1.2.2.1
  have hPW := h.2.2.2.2.1
  have hGr : GrW S1 mo p ((qg A).map (mtN ν)) := by
    have z := hPW.2.2.2.2.2.1
    rw [Int.toNat_natCast] at z
    exact z
  have hmemD : ∀ c, 0 < cnA A c → DC S1 x c := fun c z => by
    unfold cnA at z
    rcases Nat.eq_zero_or_pos ((qb A).count c) with y | y
    · rcases Nat.eq_zero_or_pos ((qe A).count c) with w | w
      · exact hInD c (Or.inr (Or.inr (List.count_pos_iff.mp (by omega))))
      · exact hInD c (Or.inr (Or.inl (List.count_pos_iff.mp w)))
    · exact hInD c (Or.inl (List.count_pos_iff.mp y))
  have hCV : CnV (EC S1 K P) (coS S1 x) (cA S1 A sk) := by
    refine ⟨?_, cn_of hMI hp4 hPW, fun c hc => ?_⟩
    · have z1 := hGr.1
      have z2 := hGR p hp4
      rw [List.length_map] at z1
      show (qg A).length < 300
      omega
    · have hc' : 0 < cnA A c := hc
      have hD := hmemD c hc'
      have hsd := cn_sd hMI hp4 hPW c hc'
      have h1 := co_1 hG1 hx hN1 hD
      obtain ⟨l, i, k1, k2, k3⟩ := hD
      have b1 := il60 hG1 hx l
      have b2 := gI_11_1102 hG1 hx
      obtain ⟨c', c1, -, -, -, c5, -⟩ := CT_get (l := (l : Int)) (i := (i : Int)) ct (by omega) k1 (by omega) k2 (by omega)
      rw [show (60 * (l : Int) + (i : Int)).toNat = 60 * l + i by omega, k3] at c1
      cases c1
      have eν := hN1 l i c k1 k2 k3
      have e3 : (pI S1 3 c).toInt = zA S1 mo 1207 (60 * l + i) := hS l i k1 k2 c k3
      have e4 := hPl l i c k1 k2 k3
      have m1 := MI_1 hMI (c := ((60 * l + i : Nat) : Int)) (by omega) (by omega)
      rw [Int.toNat_natCast] at m1
      rw [eν] at hsd
      have hl := lenZ_le hG1 hm (60 * (l : Int) + (i : Int))
      have z8 : 0 ≤ zA S1 mo 1208 (60 * l + i) := by
        obtain ⟨q, q1, q2, -⟩ := gQ_12_1208 hG1 hm
        rw [zA_eq, mA_eq q1]
        exact (gE_374 hG1 q2 _).1
      have m2 : zA S1 mo 1208 (60 * l + i) < lenZ S1 mo (60 * (l : Int) + (i : Int)) := by
        by_cases y : ((60 * l + i : Nat) : Int) < 60 * (pI S1 1201 mo).toInt
        · have := (m1.2 y).2 (by omega) (by omega)
          rw [show ((60 * l + i : Nat) : Int) = 60 * (l : Int) + (i : Int) by omega] at this
          exact this
        · have := (m1.1 (by omega)).2
          omega
      refine ⟨fun z => ?_, h1, ?_, ?_, ?_⟩
      · have z' : pI S1 3 c = 6 := z
        rw [z', show (6 : Int32).toInt = 6 by decide] at e3
        omega
      · show 0 ≤ (pI S1 4 c).toInt
        omega
      · show (pI S1 4 c).toInt < (pI S1 2 c).toInt
        omega
      · show (pI S1 2 c).toInt ≤ 1000
        omega
  have hCD : CnD (coS S1 x) (cA S1 A sk) := ⟨fun m hm' z hz => co_m hG1 hx (hMt m hm' z hz).1, fun g hg => absurd hg List.not_mem_nil⟩
  obtain ⟨a, b, c, d⟩ := h0.1 K hK1
  obtain ⟨-, t1, t2, t3, t4⟩ := hCt _ hCV
  obtain ⟨-, u⟩ := hCn _ hCV
  have hD' := hDn _ hCV hCD
  have hCo := hV.2.2.2.2.2.2.2.2.2.1
  have hSk := hV.2.2.2.2.2.2.2.2.1
  have f8 : ∀ c, DC S1 x c → pI S2 8 c = pI S1 8 c ∧ pI S2 2 c = pI S1 2 c := fun c hc => ⟨hF1.I' (g := 8) (allc hM1 (by decide)) (dc_at hG1 hx c hc) rfl, hF1.I' (g := 2) (allc hM1 (by decide)) (dc_at hG1 hx c hc) rfl⟩
  have eC : coS S3 x = coS S1 x := (co_fr hG2 hx2 hF2 (sub_all hM2 (by decide))).trans (co_fr hG1 hx hF1 (sub_all hM1 (by decide)))
  have fI : ∀ g c, ([8, 2, 4, 3] : List Nat).contains g = true → DC S1 x c → pI S3 g c = pI S2 g c := fun g c hg hc => hF2.I' (g := g) (allc hM2 (by
    have := List.contains_iff_mem.mp hg
    simp only [List.mem_cons, List.not_mem_nil, or_false] at this
    rcases this with z | z | z | z <;> subst z <;> decide)) (hF1.at (dc_at hG1 hx c hc)) rfl
  have eD1 : suL (dwD S1) (coS S1 x) = dwE (EC S1 K P) (coS S1 x) (cA S1 A sk) := su_e (fun c _ => (sl_EC _).symm)
  have eT1 : suL (thD S1) (coS S1 x) = thE (EC S1 K P) (coS S1 x) (cA S1 A sk) := su_e (fun c _ => by
    show thD S1 c = (if pI S1 3 c = 6 then slE (EC S1 K P) c (pI S1 4 c).toInt ((pI S1 2 c).toInt - (pI S1 4 c).toInt).toNat else 0)
    rw [sl_EC]
    rfl)
  have g4 : ∀ c, DC S1 x c → pI S3 4 c = qpl A' c ∧ pI S3 3 c = qsd A' c ∧ pI S3 8 c = pI S1 8 c ∧ pI S3 2 c = pI S1 2 c := fun c hc => ⟨(fI 4 c (by decide) hc).trans (hCo c hc).1, (fI 3 c (by decide) hc).trans (hCo c hc).2, (fI 8 c (by decide) hc).trans (f8 c hc).1, (fI 2 c (by decide) hc).trans (f8 c hc).2⟩
  have eD3 : suL (dwD S3) (coS S1 x) = dwE (EC S1 K P) (coS S1 x) A' := su_e (fun c hc => by
    obtain ⟨q1, -, q3, q4⟩ := g4 c (co_D hc)
    unfold dwD
    rw [q1, q3, q4]
    exact (sl_EC _).symm)
  have eT3 : suL (thD S3) (coS S1 x) = thE (EC S1 K P) (coS S1 x) A' := su_e (fun c hc => by
    obtain ⟨q1, q2, q3, q4⟩ := g4 c (co_D hc)
    unfold thD thV
    rw [q1, q2, q3, q4, sl_EC]
    rfl)
  have hKI : ∀ g, g ∈ ([802, 803, 804, 805] : List Nat) → pI S3 g K = pI S2 g K := fun g hg => hF2.I' (g := g) (allc hM2 (by
    simp only [List.mem_cons, List.not_mem_nil, or_false] at hg
    rcases hg with z | z | z | z <;> subst z <;> decide)) hKs2 rfl
  rw [eC, hKI 802 (by decide), hKI 803 (by decide), hKI 804 (by decide), hKI 805 (by decide), eD3, eT3, kp_fr hG2 hKs2 hF2 (sub_all hM2 (by decide)), kp_V (P := P) f8 hSk]
  have k1 : kpC S1 K = kpE (EC S1 K P) sk := kp_V (fun c _ => ⟨rfl, rfl⟩) hsk.1
  refine ⟨?_, i_can t2 (b.trans k1), i_can t3 (c.trans eT1), ?_⟩
  · rw [a, eD1] at t1
    exact (Int32.add_left_inj _).mp (t1.trans u.symm)
  · have w1 : pI S3 1246 mo + 0 = pI S2 1246 mo + wsE (ER S1 mo p) (qws B') := hW
    have w2 : pI S2 805 K + 0 = pI S1 805 K + wsE (EC S1 K P) (qws A') := t4
    rw [Int32.add_zero] at w1 w2
    rw [w1, w2, hR.2.2.2.2.2.2.2.2.1, ws_ren hE (fun g hg m hm' z hz => co_D (hD'.2 g hg m hm' z hz)), d, hF1.I' (g := 1246) (allc hM1 (by decide)) hm rfl]
/-! ===== the other steps ===== -/
theorem fil_sd {c : Nat} : ∀ {L : List Nat} {A : Pt}, qsd (filF A L) c = qsd A c ∨ (qsd (filF A L) c = 1 ∧ c ∈ L)
  | [], _ => Or.inl rfl
  | a :: t, A => by
    have e : qsd (filF A (a :: t)) = qsd (filF (recF A a) t) := rfl
    rw [e]
    rcases fil_sd (c := c) (L := t) (A := recF A a) with h | ⟨h, h'⟩
    · have e2 : qsd (recF A a) c = fuI (qsd A) a 1 c := rfl
      rw [h, e2]
      unfold fuI
      by_cases z : c = a
      · rw [if_pos z, z]
        exact Or.inr ⟨rfl, List.mem_cons_self⟩
      · rw [if_neg z]
        exact Or.inl rfl
    · exact Or.inr ⟨h, List.mem_cons_of_mem _ h'⟩
theorem cn_fill {M1 M2 : List Nat} {S1 S2 S3 : PS} {x mo K P R0 R1 R2 G : Nat} {l f n : Int} {sk : List Sk} {A : Pt} (hG1 : GX S1) (hG2 : GX S2) (hx : At S1 x 11) (hm : At S1 mo 12) (hF1 : Fr M1 S1 S2) (hF2 : Fr M2 S2 S3) (hM1 : (szC ++ cnsN ++ laL).all (fun g => !M1.contains g) = true) (hM2 : cnsM.all (fun g => !M2.contains g) = true) (hFi : ∀ j : Int, f ≤ j → j < f + n → InC S1 x l j ∧ ∃ c, mB S1 x 1100 (60 * l + j).toNat = some c ∧ pI S1 3 c = 0) (hV : PotV S2 (DC S1 x) P R0 R1 R2 G K (filF (cA S1 A sk) (cocL S1 x l f n.toNat))) (h : CnS S1 x mo) : CnS S3 x mo := by
  refine CnS_fr hG2 (hF1.at hx) (hF1.at hm) hF2 hM2 ⟨CnQ_f3 hG1 hx hm hF1 (sub_all hM1 (by decide)) (fun c hc => ?_) h.1, LaT_fr hG1 hx hm hF1 (sub_all hM1 (by decide)) h.2⟩
  rw [(hV.2.2.2.2.2.2.2.2.2.1 c hc).2]
  rcases fil_sd (c := c) (L := cocL S1 x l f n.toNat) (A := cA S1 A sk) with e | ⟨e, e'⟩
  · rw [e]
    exact Iff.rfl
  · rw [e]
    obtain ⟨j, hj, ej⟩ := List.mem_map.mp e'
    have hj' := List.mem_range.mp hj
    obtain ⟨-, c', k1, k2⟩ := hFi (f + (j : Int)) (by omega) (by omega)
    have ec : c' = c := by
      rw [← ej]
      show c' = (mB S1 x 1100 (60 * l + (f + (j : Int))).toNat).getD 0
      rw [k1]
      rfl
    rw [ec] at k2
    rw [k2]
    exact ⟨fun z => absurd z (by decide), fun z => absurd z (by decide)⟩
theorem su_lot {S1 S2 : PS} {x : Nat} {f1 f2 : Nat → Int32} (h : ∀ j, (∀ c, vld S1 x j = some c → vld S2 x j = some c ∧ f2 c = f1 c) ∧ (vld S1 x j = none → ∀ c, vld S2 x j = some c → f2 c = 0)) : suL f2 (coS S2 x) = suL f1 (coS S1 x) := by
  unfold coS
  rw [su_fm, su_fm]
  refine su_e (fun j _ => ?_)
  obtain ⟨h1, h2⟩ := h j
  show oF f2 (vld S2 x j) = oF f1 (vld S1 x j)
  cases e : vld S1 x j with
  | some c =>
    obtain ⟨k1, k2⟩ := h1 c e
    rw [k1]
    exact k2
  | none =>
    cases e2 : vld S2 x j with
    | none => rfl
    | some c => exact h2 e c e2
theorem cn_lot {S1 S2 S3 : PS} {x mo : Nat} {a1 a2 a3 a4 a5 : Int32} {a1_z : Int} (hG1 : GX S1) (hG2 : GX S2) (hx : At S1 x 11) (hm : At S1 mo 12) (hF1 : Fr MLt S1 S2) (hF2 : Fr M12t S2 S3) (h9 : (pI S2 1102 x).toInt = (pI S1 1102 x).toInt + 1) (hz : a1.toInt = a1_z) (hN : ∀ ca lz, pR S1 1100 x = some ca → pR S1 1101 x = some lz → NewC S1 S2 ca (60 * (pI S1 1102 x).toInt) a1_z (pI S1 1102 x) a2 a3 a4 a5 ∧ pA S2 lz = upd (pA S1 lz) (Int32.toNatClampNeg (pI S1 1102 x)) a1) (h : CnS S1 x mo) : CnS S3 x mo := by
  have hr := gI_11_1102 hG1 hx
  obtain ⟨ca, k1, k2, -⟩ := gQ_11_1100 hG1 hx
  obtain ⟨lz, k3, k4, -⟩ := gQ_11_1101 hG1 hx
  obtain ⟨⟨n1, n3⟩, n2⟩ := hN ca lz k1 k3
  have j1 : pR S2 1100 x = some ca := hF1.R' (by decide +kernel) hx k1
  have j3 : pR S2 1101 x = some lz := hF1.R' (by decide +kernel) hx k3
  have zn := z_nat (x := pI S1 1102 x) rfl hr.1
  have hll : ∀ l : Nat, (l : Int) < (pI S1 1102 x).toInt → zA S2 x 1101 l = zA S1 x 1101 l := fun l q => by
    rw [zA_eq, mA_eq j3, n2, upd_if, if_neg (by omega), ← mA_eq k3, ← zA_eq]
  have hbb : ∀ l i : Nat, (l : Int) < (pI S1 1102 x).toInt → i < 60 → mB S2 x 1100 (60 * l + i) = mB S1 x 1100 (60 * l + i) := fun l i q q2 => by
    rw [mB_eq j1, n3 (60 * l + i) (Or.inl (by omega)), ← mB_eq k1]
  have hA1 : ∀ j c, vld S1 x j = some c → vld S2 x j = some c ∧ At S1 c 0 := fun j c e => by
    obtain ⟨q1, q2, q3⟩ := vld_d e
    refine ⟨?_, mB_at hG1 hx q3⟩
    have y := vld_y (S := S2) (x := x) (l := j / 60) (i := j % 60) (c := c) (by omega) (by omega) (by rw [hll _ q1]; exact q2) (by rw [hbb _ _ q1 (by omega)]; exact q3)
    rw [show 60 * (j / 60) + j % 60 = j by omega] at y
    exact y
  have hA2 : ∀ j c, vld S1 x j = none → vld S2 x j = some c → Co0 S2 c := fun j c e e2 => by
    obtain ⟨q1, q2, q3⟩ := vld_d e2
    by_cases y : ((j / 60 : Nat) : Int) < (pI S1 1102 x).toInt
    · exfalso
      rw [hll _ y] at q2
      rw [hbb _ _ y (by omega)] at q3
      have w := vld_y (S := S1) (x := x) (l := j / 60) (i := j % 60) (c := c) (by omega) y q2 q3
      rw [show 60 * (j / 60) + j % 60 = j by omega, e] at w
      cases w
    · have el : ((j / 60 : Nat) : Int) = (pI S1 1102 x).toInt := by omega
      rw [zA_eq, mA_eq j3, n2, upd_if, if_pos (by omega), hz] at q2
      obtain ⟨c', w1, -, -, -, w5⟩ := n1 (j % 60) q2
      rw [mB_eq j1, show 60 * (j / 60) + j % 60 = (60 * (pI S1 1102 x).toInt + ((j % 60 : Nat) : Int)).toNat by omega, w1] at q3
      cases q3
      exact w5
  refine CnS_fr hG2 (hF1.at hx) (hF1.at hm) hF2 (by decide +kernel) ⟨CnQ_g hG1 hx hm hF1 (by decide +kernel) (su_lot (fun j => ⟨fun c e => ?_, fun e c e2 => ?_⟩)) (su_lot (fun j => ⟨fun c e => ?_, fun e c e2 => ?_⟩)) h.1, LaT_fr hG1 hx hm hF1 (by decide +kernel) h.2⟩
  · obtain ⟨y1, y2⟩ := hA1 j c e
    exact ⟨y1, dwD_fr hF1 (by decide +kernel) y2⟩
  · have y := (hA2 j c e e2).2.1
    unfold dwD
    rw [y]
    rfl
  · obtain ⟨y1, y2⟩ := hA1 j c e
    exact ⟨y1, thD_fr hF1 (by decide +kernel) y2 (by rw [hF1.I' (g := 3) (by decide +kernel) y2 rfl])⟩
  · have y := (hA2 j c e e2).1
    unfold thD
    rw [y]
    exact if_neg (by decide)
theorem la_b {S : PS} {mo : Nat} : ∀ n, 0 ≤ laN S mo n ∧ laN S mo n ≤ (n : Int)
  | 0 => ⟨Int.le_refl _, Int.le_refl _⟩
  | n + 1 => by
    have k := la_b (S := S) (mo := mo) n
    show 0 ≤ laN S mo n + (if zA S mo 1253 n = 0 then 0 else 1) ∧ laN S mo n + (if zA S mo 1253 n = 0 then 0 else 1) ≤ ((n + 1 : Nat) : Int)
    split <;> omega
theorem n6_she {S1 S2 : PS} {x P : Nat} {k : Int} {a b : Int32} {az bz : Int} (h : ShE S1 S2 x P k a az b bz) : ∀ c, (pI S2 3 c = 6 ↔ pI S1 3 c = 6) := fun c => by
  rcases h with ⟨-, -, q, v, -, h2, e⟩ | ⟨-, v, e⟩ | ⟨-, -, -, w, f, v, -, -, e⟩
  · rw [e, pI_sI_nf (by decide), pI_sI_nf (by decide)]
    show pI (sI S1 3 q 5) 3 c = 6 ↔ pI S1 3 c = 6
    by_cases d : c = q
    · rw [d, pI_sI_same, h2]
      exact ⟨fun z => absurd z (by decide), fun z => absurd z (by decide)⟩
    · rw [pI_sI_ne d]
  · rw [e, pI_sI_nf (by decide), pI_sI_nf (by decide), pI_sI_nf (by decide)]
  · rw [e, pI_sI_nf (by decide), pI_sI_nf (by decide), pI_sI_nf (by decide)]
    exact Iff.rfl
theorem cn_she {S1 S2 S3 : PS} {x mo P : Nat} {p k : Int} {a b : Int32} {az bz : Int} (hG1 : GX S1) (hG2 : GX S2) (hx : At S1 x 11) (hm : At S1 mo 12) (hF1 : Fr eSH S1 S2) (hF2 : Fr MSH S2 S3) (hp : 0 ≤ p ∧ p ≤ 15) (hE : ShE S1 S2 x P k a az b bz) (h10 : pI S2 1110 x = pI S1 1110 x + 1) (hZ : zA S1 mo 1253 p.toNat = 0) (hS : ∀ j, zA S3 mo 1253 j = if j = p.toNat then 1 else zA S2 mo 1253 j) (h : CnS S1 x mo) : CnS S3 x mo := by
  have hx2 := hF1.at hx
  have hm2 := hF1.at hm
  refine ⟨CnQ_fr hG2 hx2 hm2 hF2 (by decide +kernel) (CnQ_f3 hG1 hx hm hF1 (by decide +kernel) (fun c _ => n6_she hE c) h.1), ?_⟩
  have e53 : zA S2 mo 1253 = zA S1 mo 1253 := zA_fr hF1 hm (ex3 (gQ_12_1253 hG1 hm)) (by decide +kernel) (by decide +kernel)
  have u := la_u (S := S1) (T := S3) (mo := mo) (p := p.toNat) (fun j hj => by rw [hS, if_neg hj, e53]) 16 (by omega)
  rw [if_pos hZ, hS, if_pos rfl, if_neg (by decide)] at u
  have b1 := la_b (S := S3) (mo := mo) 16
  have t : (pI S1 1110 x).toInt = laN S1 mo 16 := h.2
  have e10 : (pI S2 1110 x).toInt = (pI S1 1110 x).toInt + 1 := z_add h10 rfl (by decide) (by omega) (by omega)
  unfold LaT
  rw [hF2.I' (g := 1110) (by decide +kernel) hx2 rfl]
  omega
theorem TkR_j {S T : PS} {x : Nat} {p k r : Int} (h : TkR S T x p k r) : ∀ j, j ≠ p.toNat → zA T x 1253 j = zA S x 1253 j := fun j hj => by
  rcases h with ⟨-, -, -, e⟩ | ⟨-, -, -, -, e⟩ | ⟨-, -, -, -, -, -, e⟩ | ⟨-, -, -, -, -, e⟩ | ⟨-, -, -, -, -, e⟩ | ⟨-, -, -, -, -, e⟩
  · rw [e]
  · rw [e]
  · rw [e]
  · rw [e, if_neg hj]
  · rw [e, if_neg hj]
  · rw [e, if_neg hj]
theorem st_f {S : PS} {x mo k P : Nat} (h : STk S x mo k P) : zA S mo 1253 k = 0 ↔ (pI S 300 P).toInt = -1 := by
  obtain ⟨-, -, s3, s4, -⟩ := h
  by_cases z : zA S mo 1253 k = 0
  · rw [if_pos z] at s3
    exact ⟨fun _ => s3, fun _ => z⟩
  · rw [if_neg z] at s3
    have := s4 z
    exact ⟨fun y => absurd y z, fun y => by omega⟩
theorem n6_take {S1 S2 : PS} {x mo : Nat} {p k r1 : Int} (hMI : MI S1 mo) (ha1 : ¬ (0 ≤ p ∧ p ≤ 15 ∧ 0 ≤ k ∧ k ≤ 2) → r1 = -1 ∧ S2 = S1) (ha2 : 0 ≤ p ∧ p ≤ 15 ∧ 0 ≤ k ∧ k ≤ 2 → ∀ P, mB S1 x 1109 p.toNat = some P → TkO S1 S2 x P k r1) (h : TXs S1 x mo) : ∀ c, (pI S2 3 c = 6 ↔ pI S1 3 c = 6) := fun c => by
  by_cases c0 : 0 ≤ p ∧ p ≤ 15 ∧ 0 ≤ k ∧ k ≤ 2
  · obtain ⟨P, st⟩ := h.2.2.1 p.toNat (by omega)
    have hO := ha2 c0 P st.1
    obtain ⟨s1, s2, s3, s4, s5, s6⟩ := st
    rcases hO with ⟨-, -, e⟩ | ⟨-, -, -, e⟩ | ⟨-, -, -, -, e⟩ | ⟨-, -, -, v, e⟩ | ⟨-, -, -, v, e⟩ | ⟨k1, k2, ⟨-, v, e⟩ | ⟨q, v, hq, -, e⟩⟩
    · rw [e]
    · rw [e]
    · rw [e]
    · rw [e, pI_sI_nf (by decide), pI_sI_nf (by decide)]
    · rw [e, pI_sI_nf (by decide), pI_sI_nf (by decide)]
    · rw [e, pI_sI_nf (by decide), pI_sI_nf (by decide)]
    · by_cases d : c = q
      · have h5 : (pI S1 3 c).toInt = 5 := by
          subst d
          by_cases z53 : zA S1 mo 1253 p.toNat = 0
          · rw [if_pos z53] at s3
            omega
          · rw [if_neg z53] at s3
            obtain ⟨d1, d2, d3⟩ := hMI.2.2.2.2.1.1 p.toNat (by omega) z53 (by omega)
            obtain ⟨l, i, q', g1, g2, g3, g4, g5⟩ := s5 z53 (by omega)
            rw [hq] at g5
            cases g5
            rw [show (zA S1 mo 1255 p.toNat).toNat = 60 * l + i by omega] at d3
            exact z05_5 (h.1 l i g2 g3 c g4) d3
        rw [e, d, pI_sI_same]
        rw [d] at h5
        refine ⟨fun z => absurd z (by decide), fun z => ?_⟩
        rw [z] at h5
        exact absurd h5 (by decide)
      · rw [e, pI_sI_ne d, pI_sI_nf (by decide), pI_sI_nf (by decide)]
  · rw [(ha1 c0).2]
theorem cn_take {S1 S2 S3 : PS} {x mo : Nat} {p k r1 r2 : Int} (hG1 : GX S1) (hG2 : GX S2) (hx : At S1 x 11) (hm : At S1 mo 12) (hF1 : Fr eTA S1 S2) (hF2 : Fr MTA S2 S3) (hMI : MI S1 mo) (ha1 : ¬ (0 ≤ p ∧ p ≤ 15 ∧ 0 ≤ k ∧ k ≤ 2) → r1 = -1 ∧ S2 = S1) (ha2 : 0 ≤ p ∧ p ≤ 15 ∧ 0 ≤ k ∧ k ≤ 2 → ∀ P, mB S1 x 1109 p.toNat = some P → TkO S1 S2 x P k r1) (ha3 : ∀ P, mB S1 x 1109 p.toNat = some P → TkN S1 S2 x P)
    (hb1 : ¬ (0 ≤ p ∧ p ≤ 15 ∧ 0 ≤ k ∧ k ≤ 2) → r2 = -1 ∧ zA S3 mo 1207 = zA S2 mo 1207 ∧ zA S3 mo 1253 = zA S2 mo 1253) (hb2 : 0 ≤ p ∧ p ≤ 15 ∧ 0 ≤ k ∧ k ≤ 2 → TkR S2 S3 mo p k r2) (hT1 : TXs S1 x mo) (hT3 : TXs S3 x mo) (h : CnS S1 x mo) : CnS S3 x mo := by
  have hx2 := hF1.at hx
  have hm2 := hF1.at hm
  refine ⟨CnQ_fr hG2 hx2 hm2 hF2 (by decide +kernel) (CnQ_f3 hG1 hx hm hF1 (by decide +kernel) (fun c _ => n6_take hMI ha1 ha2 hT1 c) h.1), ?_⟩
  have e53 : zA S2 mo 1253 = zA S1 mo 1253 := zA_fr hF1 hm (ex3 (gQ_12_1253 hG1 hm)) (by decide +kernel) (by decide +kernel)
  have t : (pI S1 1110 x).toInt = laN S1 mo 16 := h.2
  unfold LaT
  rw [hF2.I' (g := 1110) (by decide +kernel) hx2 rfl]
  by_cases c0 : 0 ≤ p ∧ p ≤ 15 ∧ 0 ≤ k ∧ k ≤ 2
  · obtain ⟨P, st⟩ := hT1.2.2.1 p.toNat (by omega)
    obtain ⟨P3, st3⟩ := hT3.2.2.1 p.toNat (by omega)
    have eB : mB S3 x 1109 = mB S1 x 1109 := (mB_frc hF2 hx2 (ex3 (gQ_11_1109 hG2 hx2)) (by decide +kernel) (by decide +kernel)).trans (mB_frc hF1 hx (ex3 (gQ_11_1109 hG1 hx)) (by decide +kernel) (by decide +kernel))
    have eP : P3 = P := by
      have z := st3.1
      rw [eB, st.1] at z
      cases z
      rfl
    rw [eP] at st3
    have k1 := st_f st
    have k3 := st_f st3
    rw [hF2.I' (g := 300) (by decide +kernel) (hF1.at st.2.1) rfl] at k3
    have u := la_u (S := S1) (T := S3) (mo := mo) (p := p.toNat) (fun j hj => by rw [TkR_j (hb2 c0) j hj, e53]) 16 (by omega)
    have b3 := la_b (S := S3) (mo := mo) 16
    rcases ha3 P st.1 with ⟨w1, w2⟩ | ⟨w0, w1, w2⟩
    · rw [w1] at k3
      rw [w2, t]
      by_cases z : zA S1 mo 1253 p.toNat = 0
      · rw [if_pos z, if_pos (k3.mpr (k1.mp z))] at u
        omega
      · rw [if_neg z, if_neg (fun y => z (k1.mpr (k3.mp y)))] at u
        omega
    · rw [w1] at k3
      rw [if_neg (fun y => w0 (k1.mp y)), if_pos (k3.mpr (by decide))] at u
      have e10 : (pI S2 1110 x).toInt = (pI S1 1110 x).toInt - 1 := z_sub w2 rfl (by decide) (by omega) (by omega)
      omega
  · rw [(ha1 c0).2, la_e ((hb1 c0).2.2.trans e53)]
    exact t
def TX (S : PS) (x mo : Nat) : Prop := TXs S x mo ∧ (TXt S x mo ∧ CnS S x mo) ∧ TP S x mo
theorem tb {S : PS} {x mo : Nat} (h : TX S x mo) : TXb S x mo := ⟨h.1, h.2.1.1, h.2.2⟩
theorem tbm {S : PS} {x mo : Nat} (h : TXb S x mo) (c : CnS S x mo) : TX S x mo := ⟨h.1, ⟨h.2.1, c⟩, h.2.2⟩
def txL : List Nat := txLb ++ cnsM
theorem sp_D {S : PS} {x mo : Nat} (h : TX S x mo) : ∀ q, pR S 1106 x = some q → RuD S q := spb_D (tb h)
theorem TX_fr {M : List Nat} {S S' : PS} {x mo : Nat} (hG : GX S) (hF : Fr M S S') (hx : At S x 11) (hm : At S mo 12) (hM : txL.all (fun g => !M.contains g) = true) (h : TX S x mo) : TX S' x mo := tbm (TXb_fr hG hF hx hm (sub_all hM (by decide +kernel)) (tb h)) (CnS_fr hG hx hm hF (sub_all hM (by decide +kernel)) h.2.1.2)
theorem TX_0 {S : PS} {x mo sh u K rh : Nat} (h2 : pI S 1102 x = 0) (h4 : pI S 1104 x = 0) (hs : pR S 1109 x = some sh) (hi : ShI S sh 16) (h5 : ∀ i, zA S mo 1253 i = 0) (hu : pR S 1105 x = some u) (hu2 : At S u 10) (hu0 : pI S 1000 u = 0) (hK : pR S 1107 x = some K) (h8 : pI S 800 K = 0) (h38 : pI S 1238 mo = 0) (hz : ∀ g, g ∈ in0 → ∀ i, zA S mo g i = 0) (hr : pR S 1106 x = some rh) (hd : RuD S rh) (hE : ExT S x K mo) (hcn : CnS S x mo) : TX S x mo := tbm (TXb_0 h2 h4 hs hi h5 hu hu2 hu0 hK h8 h38 hz hr hd hE) hcn
theorem TX_run {S1 S2 S3 : PS} {x mo K P R0 R1 R2 G : Nat} {p n : Int} {ν : Nat → Nat} {sk : List Sk} {A : Pt} {R : List Ru} {r1 r2 : Int32} (hG1 : GX S1) (hG2 : GX S2) (hx : At S1 x 11) (hm : At S1 mo 12) (hF1 : Fr eTI S1 S2) (hF2 : Fr MTK S2 S3) (ct : CT S1 x mo) (hPN : PN S1 x) (tp : (pI S1 1104 x).toInt = (pI S1 1211 mo).toInt) (hd : ∀ K, pR S1 1107 x = some K → pI S1 801 K = pI S1 1245 mo) (hw : TPw S1 x mo ν K sk) (hp : 0 ≤ p → p < (pI S1 1104 x).toInt → PT1 S1 x mo ν p.toNat P R0 R1 R2 G A R)
    (ha1 : PN S1 x → RunC S1 x p n → ∀ Q, mB S1 x 1103 p.toNat = some Q → PotV S2 (DC S1 x) Q R0 R1 R2 G K (runF (EC S1 K P) R n.toNat (cA S1 A sk)).1 ∧ PotX S1 S2 Q R0 R1 R2 G ∧ r1.toInt = (runF (EC S1 K P) R n.toNat (cA S1 A sk)).2 ∧ CtT S1 S2 K (EC S1 K P) (cA S1 A sk) (runF (EC S1 K P) R n.toNat (cA S1 A sk)).1) (ha2 : ¬ RunC S1 x p n → S2 = S1 ∧ r1.toInt = -1)
    (hb1 : 0 ≤ p ∧ p < (pI S2 1211 mo).toInt ∧ 0 ≤ n ∧ n ≤ 300 → r2.toInt = (runF (ER S1 mo p.toNat) R n.toNat (cB S1 mo ν A sk)).2 ∧ PotW S3 mo p (runF (ER S1 mo p.toNat) R n.toNat (cB S1 mo ν A sk)).1 ∧ PwX S2 S3 mo p ∧ WsT S2 S3 mo (ER S1 mo p.toNat) (cB S1 mo ν A sk) (runF (ER S1 mo p.toNat) R n.toNat (cB S1 mo ν A sk)).1) (hb2 : ¬ (0 ≤ p ∧ p < (pI S2 1211 mo).toInt ∧ 0 ≤ n ∧ n ≤ 300) → r2.toInt = -1 ∧ S3 = sI S2 1200 mo 0) (hMI : MI S1 mo) (hGR : GR S1 mo) (h : TX S1 x mo) : TX S3 x mo ∧ r1.toInt = r2.toInt := by
  obtain ⟨t, e⟩ := TXb_run hG1 hG2 hx hm hF1 hF2 ct hPN tp hd hw hp (fun a b Q c => ⟨(ha1 a b Q c).1, (ha1 a b Q c).2.1, (ha1 a b Q c).2.2.1⟩) ha2 (fun z => ⟨(hb1 z).1, (hb1 z).2.1, (hb1 z).2.2.1⟩) hb2 (tb h)
  refine ⟨tbm t ?_, e⟩
  have e11 : pI S2 1211 mo = pI S1 1211 mo := hF1.I' (by decide +kernel) hm rfl
  rw [e11, ← tp] at hb1 hb2
  by_cases c : RunC S1 x p n
  · have c1 := c.1
    have c2 := c.2.1
    have h9 := hp c1 c2
    obtain ⟨f1, f2, -, f4⟩ := ha1 hPN c P h9.1
    obtain ⟨-, -, -, g4⟩ := hb1 c
    have hI := nu_inj hG1 hx hw.1
    have hE := reE (K := K) (P := P) (p := p.toNat) hG1 hx ct hw.1 (hd K hw.2.1) h9.2.2.2.2.2.2.2.1 h9.2.2.2.2.2.2.2.2.1 h9.2.2.2.2.2.2.2.2.2
    have hR0 := ren_cc (sk := sk) hw.1 hw.2.2.2.1 h.1.1 h9.2.2.1.2.2.2.2.2.2.2.2
    obtain ⟨k1, -⟩ := ren_run (R := R) hI hE hR0 n.toNat
    exact cn_step hG1 hG2 hx hm hF1 hF2 (by decide +kernel) (by decide +kernel) ct hMI hGR h.1.1 hw (by omega) h9 f1 f4 (fun L => CnT_run _) (fun L => DnT_run _) hE g4 k1 h.2.1.2
  · obtain ⟨f1, -⟩ := ha2 c
    obtain ⟨-, g2⟩ := hb2 (fun z => c z)
    subst f1
    exact CnS_fr (M := [1200]) hG1 hx hm (by rw [g2]; exact Fr_sI (by decide)) (by decide +kernel) h.2.1.2
theorem TX_cut {S1 S2 S3 : PS} {x mo K P R0 R1 R2 G : Nat} {p : Int} {ν : Nat → Nat} {sk : List Sk} {A : Pt} {R : List Ru} {r1 r2 : Int32} (hG1 : GX S1) (hG2 : GX S2) (hx : At S1 x 11) (hm : At S1 mo 12) (hF1 : Fr eCU S1 S2) (hF2 : Fr MCU S2 S3) (ct : CT S1 x mo) (hPN : PN S1 x) (tp : (pI S1 1104 x).toInt = (pI S1 1211 mo).toInt) (hd : ∀ K, pR S1 1107 x = some K → pI S1 801 K = pI S1 1245 mo) (hw : TPw S1 x mo ν K sk) (hp : 0 ≤ p → p < (pI S1 1104 x).toInt → PT1 S1 x mo ν p.toNat P R0 R1 R2 G A R)
    (ha1 : PN S1 x → 0 ≤ p ∧ p < (pI S1 1104 x).toInt → ∀ Q, mB S1 x 1103 p.toNat = some Q → PotV S2 (DC S1 x) Q R0 R1 R2 G K (cutF (EC S1 K P) (cA S1 A sk)) ∧ PotX S1 S2 Q R0 R1 R2 G ∧ r1.toInt = cutR (cA S1 A sk) ∧ CtT S1 S2 K (EC S1 K P) (cA S1 A sk) (cutF (EC S1 K P) (cA S1 A sk))) (ha2 : PN S1 x → ¬ (0 ≤ p ∧ p < (pI S1 1104 x).toInt) → S2 = S1 ∧ r1.toInt = -1)
    (hb1 : 0 ≤ p ∧ p < (pI S2 1211 mo).toInt → PotW S3 mo p (cutF (ER S1 mo p.toNat) (cB S1 mo ν A sk)) ∧ r2.toInt = cutR (cB S1 mo ν A sk) ∧ PwX S2 S3 mo p ∧ WsT S2 S3 mo (ER S1 mo p.toNat) (cB S1 mo ν A sk) (cutF (ER S1 mo p.toNat) (cB S1 mo ν A sk))) (hb2 : ¬ (0 ≤ p ∧ p < (pI S2 1211 mo).toInt) → r2.toInt = -1 ∧ S3 = sI S2 1200 mo 0) (hMI : MI S1 mo) (hGR : GR S1 mo) (h : TX S1 x mo) : TX S3 x mo ∧ r1.toInt = r2.toInt := by
  obtain ⟨t, e⟩ := TXb_cut hG1 hG2 hx hm hF1 hF2 ct hPN tp hd hw hp (fun a b Q c => ⟨(ha1 a b Q c).1, (ha1 a b Q c).2.1, (ha1 a b Q c).2.2.1⟩) ha2 (fun z => ⟨(hb1 z).1, (hb1 z).2.1, (hb1 z).2.2.1⟩) hb2 (tb h)
  refine ⟨tbm t ?_, e⟩
  have e11 : pI S2 1211 mo = pI S1 1211 mo := hF1.I' (by decide +kernel) hm rfl
  rw [e11, ← tp] at hb1 hb2
  by_cases c : 0 ≤ p ∧ p < (pI S1 1104 x).toInt
  · have c1 := c.1
    have c2 := c.2
    have h9 := hp c1 c2
    obtain ⟨f1, f2, -, f4⟩ := ha1 hPN c P h9.1
    obtain ⟨-, -, -, g4⟩ := hb1 c
    have hI := nu_inj hG1 hx hw.1
    have hE := reE (K := K) (P := P) (p := p.toNat) hG1 hx ct hw.1 (hd K hw.2.1) h9.2.2.2.2.2.2.2.1 h9.2.2.2.2.2.2.2.2.1 h9.2.2.2.2.2.2.2.2.2
    have hR0 := ren_cc (sk := sk) hw.1 hw.2.2.2.1 h.1.1 h9.2.2.1.2.2.2.2.2.2.2.2
    have k1 := ren_cut hE hR0
    exact cn_step hG1 hG2 hx hm hF1 hF2 (by decide +kernel) (by decide +kernel) ct hMI hGR h.1.1 hw (by omega) h9 f1 f4 (fun L => CnT_cut) (fun L => fun _ hD => cut_D hD) hE g4 k1 h.2.1.2
  · obtain ⟨f1, -⟩ := ha2 hPN c
    obtain ⟨-, g2⟩ := hb2 c
    subst f1
    exact CnS_fr (M := [1200]) hG1 hx hm (by rw [g2]; exact Fr_sI (by decide)) (by decide +kernel) h.2.1.2
theorem TX_lot {S1 S2 S3 : PS} {x mo : Nat} {a1 a2 a3 a4 a5 : Int32} {a1_z : Int} (hG1 : GX S1) (hG2 : GX S2) (hx : At S1 x 11) (hm : At S1 mo 12) (hF1 : Fr MLt S1 S2) (hF2 : Fr M12t S2 S3) (hMI : MI S1 mo) (hl : (pI S1 1102 x).toInt = (pI S1 1201 mo).toInt) (h9 : (pI S2 1102 x).toInt = (pI S1 1102 x).toInt + 1) (hz : a1.toInt = a1_z) (hn : a1_z ≤ 60) (hlt : (pI S1 1102 x).toInt < 10)
    (hN : ∀ ca lz, pR S1 1100 x = some ca → pR S1 1101 x = some lz → NewC S1 S2 ca (60 * (pI S1 1102 x).toInt) a1_z (pI S1 1102 x) a2 a3 a4 a5 ∧ pA S2 lz = upd (pA S1 lz) (Int32.toNatClampNeg (pI S1 1102 x)) a1) (h : TX S1 x mo) : TX S3 x mo := tbm (TXb_lot hG1 hG2 hx hm hF1 hF2 hMI hl h9 hz hn hlt hN (tb h)) (cn_lot hG1 hG2 hx hm hF1 hF2 h9 hz hN h.2.1.2)
theorem TX_pot {S1 S2 S3 : PS} {x mo P P' : Nat} {a1 a2 : Int32} (hG1 : GX S1) (hG2 : GX S2) (hx : At S1 x 11) (hm : At S1 mo 12) (hF1 : Fr ePT S1 S2) (hF2 : Fr MP S2 S3) (tp : (pI S1 1104 x).toInt = (pI S1 1211 mo).toInt) (h4' : (pI S1 1104 x).toInt < 4) (hf : 1 ≤ a2.toInt) (h9 : (pI S2 1104 x).toInt = (pI S1 1104 x).toInt + 1) (hP : P ∉ pL S1) (hB : ∀ j, mB S2 x 1103 j = if j = (pI S1 1104 x).toInt.toNat then some P else mB S1 x 1103 j) (hN : PotN S1 S2 P (pI S1 1104 x) a1 a2) (hB' : ∀ j, mB S2 x 1103 j = if j = (pI S1 1104 x).toInt.toNat then some P' else mB S1 x 1103 j) (hP' : At S2 P' 4) (r0 : RowE S2 P' 400) (r1 : RowE S2 P' 401) (r2 : RowE S2 P' 402) (e12 : ∀ j, zA S3 mo 1212 j = if j = (pI S2 1211 mo).toInt.toNat then a1.toInt else zA S2 mo 1212 j) (e13 : ∀ j, zA S3 mo 1213 j = if j = (pI S2 1211 mo).toInt.toNat then a2.toInt else zA S2 mo 1213 j) (h : TX S1 x mo) : TX S3 x mo := tbm (TXb_pot hG1 hG2 hx hm hF1 hF2 tp h4' hf h9 hP hB hN hB' hP' r0 r1 r2 e12 e13 (tb h)) (CnS_fr hG2 (hF1.at hx) (hF1.at hm) hF2 (by decide +kernel) (CnS_fr hG1 hx hm hF1 (by decide +kernel) h.2.1.2))
theorem TX_target {S1 S2 S3 : PS} {x mo : Nat} {p v : Int} {a : Int32} {r1 r2 : Int32} (hG1 : GX S1) (hG2 : GX S2) (hx : At S1 x 11) (hm : At S1 mo 12) (hF1 : Fr eTG S1 S2) (hF2 : Fr Mtg S2 S3) (hPN : PN S1 x) (tp : (pI S1 1104 x).toInt = (pI S1 1211 mo).toInt) (hv : a.toInt = v)
    (ha : (((0 ≤ p ∧ p < (pI S1 1104 x).toInt ∧ 10 ≤ v ∧ v ≤ 2000) ∧ ∀ P, mB S1 x 1103 p.toNat = some P → S2 = sI S1 404 P a) ∧ r1 = 1) ∨ (((PN S1 x → ¬ (0 ≤ p ∧ p < (pI S1 1104 x).toInt ∧ 10 ≤ v ∧ v ≤ 2000)) ∧ S2 = S1) ∧ r1 = 0)) (hb : (((0 ≤ p ∧ p < (pI S2 1211 mo).toInt ∧ 10 ≤ v ∧ v ≤ 2000) ∧ ∀ j, zA S3 mo 1212 j = if j = p.toNat then v else zA S2 mo 1212 j) ∧ r2 = 1) ∨ ((¬ (0 ≤ p ∧ p < (pI S2 1211 mo).toInt ∧ 10 ≤ v ∧ v ≤ 2000) ∧ S3 = sI S2 1200 mo 0) ∧ r2 = 0)) (h : TX S1 x mo) : TX S3 x mo := tbm (TXb_target hG1 hG2 hx hm hF1 hF2 hPN tp hv ha hb (tb h)) (CnS_fr hG2 (hF1.at hx) (hF1.at hm) hF2 (by decide +kernel) (CnS_fr hG1 hx hm hF1 (by decide +kernel) h.2.1.2))
theorem TX_feed {S1 S2 S3 : PS} {x mo u : Nat} {s : Nat → Int} (hG1 : GX S1) (hG2 : GX S2) (hx : At S1 x 11) (hm : At S1 mo 12) (hF1 : Fr eAP S1 S2) (hF2 : Fr MT S2 S3) (hu : pR S1 1105 x = some u) (hsz : (pI S1 1000 u).toInt = (pI S1 1228 mo).toInt)
    (h1 : (pI S1 1000 u).toInt ≤ 380 → zA S2 u 1003 = fdP s (zA S1 u 1003) (pI S1 1000 u).toInt.toNat (4 * 5)) (h1' : 380 < (pI S1 1000 u).toInt → zA S2 u 1003 = zA S1 u 1003) (h2 : (pI S2 1228 mo).toInt ≤ 380 → zA S3 mo 1227 = fdP s (zA S2 mo 1227) (pI S2 1228 mo).toInt.toNat (4 * 5)) (h2' : 380 < (pI S2 1228 mo).toInt → zA S3 mo 1227 = zA S2 mo 1227)
    (h9 : (pI S1 1000 u).toInt ≤ 380 → (pI S3 1000 u).toInt = (pI S1 1000 u).toInt + 20) (h9' : 380 < (pI S1 1000 u).toInt → (pI S3 1000 u).toInt = (pI S1 1000 u).toInt) (h : TX S1 x mo) : TX S3 x mo := tbm (TXb_feed hG1 hG2 hx hm hF1 hF2 hu hsz h1 h1' h2 h2' h9 h9' (tb h)) (CnS_fr hG2 (hF1.at hx) (hF1.at hm) hF2 (by decide +kernel) (CnS_fr hG1 hx hm hF1 (by decide +kernel) h.2.1.2))
theorem TX_prog {S1 S2 S3 : PS} {x mo u : Nat} {p : Int} (hG1 : GX S1) (hG2 : GX S2) (hx : At S1 x 11) (hm : At S1 mo 12) (hF1 : Fr MPt S1 S2) (hF2 : Fr MPr S2 S3) (hPN : PN S1 x) (tp : (pI S1 1104 x).toInt = (pI S1 1211 mo).toInt) (hu : pR S1 1105 x = some u) (hsz : (pI S1 1000 u).toInt = (pI S1 1228 mo).toInt) (hle : (pI S2 1000 u).toInt ≤ (pI S1 1000 u).toInt) (hle3 : (pI S3 1000 u).toInt = (pI S2 1000 u).toInt)
    (ha : ∀ P rh u, PN S1 x → 0 ≤ p → p < (pI S1 1104 x).toInt → mB S1 x 1103 p.toNat = some P → pR S1 1106 x = some rh → pR S1 1105 x = some u → PgO S1 S2 x P rh u) (ha2 : PN S1 x → ¬ (0 ≤ p ∧ p < (pI S1 1104 x).toInt) → Fr MLf S1 S2)
    (hb1 : 0 ≤ p ∧ p < (pI S2 1211 mo).toInt → (prF (rB S2 mo) (pI S2 1228 mo).toInt.toNat 13 0 (tokF (rB S2 mo) (pI S2 1228 mo).toInt.toNat 0)).1 = 0 → RpS S2 S3 mo p.toNat (prL (rB S2 mo) (pI S2 1228 mo).toInt.toNat 13 0 (tokF (rB S2 mo) (pI S2 1228 mo).toInt.toNat 0))) (hb2 : ¬ (0 ≤ p ∧ p < (pI S2 1211 mo).toInt) ∨ (prF (rB S2 mo) (pI S2 1228 mo).toInt.toNat 13 0 (tokF (rB S2 mo) (pI S2 1228 mo).toInt.toNat 0)).1 ≠ 0 → RrL S2 S3 mo) (h : TX S1 x mo) : TX S3 x mo := tbm (TXb_prog hG1 hG2 hx hm hF1 hF2 hPN tp hu hsz hle hle3 ha ha2 hb1 hb2 (tb h)) (CnS_fr hG2 (hF1.at hx) (hF1.at hm) hF2 (by decide +kernel) (CnS_fr hG1 hx hm hF1 (by decide +kernel) h.2.1.2))
theorem TX_le {M : List Nat} {S S' : PS} {x mo u : Nat} (hG : GX S) (hF : Fr M S S') (hx : At S x 11) (hm : At S mo 12) (hM : ([1105, 1003, 10013, 1227, 10753] ++ txLs ++ tpL ++ cnsM).all (fun g => !M.contains g) = true) (hu : pR S 1105 x = some u) (hle : (pI S' 1000 u).toInt ≤ (pI S 1000 u).toInt) (h : TX S x mo) : TX S' x mo := tbm (TXb_le hG hF hx hm (sub_all hM (by decide +kernel)) hu hle (tb h)) (CnS_fr hG hx hm hF (sub_all hM (by decide +kernel)) h.2.1.2)
theorem TX_shelve {S1 S2 S3 : PS} {x mo : Nat} {p k : Int} {a b : Int32} {az bz : Int} {r1 r2 : Int32} (hG1 : GX S1) (hG2 : GX S2) (hx : At S1 x 11) (hm : At S1 mo 12) (hF1 : Fr eSH S1 S2) (hF2 : Fr MSH S2 S3) (hc : CT S1 x mo) (hl : (pI S1 1102 x).toInt = (pI S1 1201 mo).toInt) (hz : a.toInt = az)
    (ha : (((∃ P, (0 ≤ p ∧ p ≤ 15) ∧ mB S1 x 1109 p.toNat = some P ∧ (pI S1 300 P).toInt = -1 ∧ ShE S1 S2 x P k a az b bz) ∧ pI S2 1110 x = pI S1 1110 x + 1) ∧ r1 = 1) ∨ ((S2 = S1 ∧ ∀ P, 0 ≤ p → p ≤ 15 → mB S1 x 1109 p.toNat = some P → ¬ ((pI S1 300 P).toInt = -1 ∧ ShC S1 x k az bz)) ∧ r1 = 0)) (hb : ((MI S3 mo ∧ ShR S2 mo p k az bz ∧ SE S2 S3 mo p k az bz) ∧ r2 = 1) ∨ ((MI S3 mo ∧ ¬ ShR S2 mo p k az bz ∧ zA S3 mo 1207 = zA S2 mo 1207 ∧ zA S3 mo 1253 = zA S2 mo 1253 ∧ zA S3 mo 1254 = zA S2 mo 1254 ∧ zA S3 mo 1255 = zA S2 mo 1255 ∧ zA S3 mo 1256 = zA S2 mo 1256) ∧ r2 = 0)) (h : TX S1 x mo) : TX S3 x mo ∧ r1 = r2 := by
  obtain ⟨t, e⟩ := TXb_shelve hG1 hG2 hx hm hF1 hF2 hc hl hz (ha.imp (fun z => ⟨z.1.1, z.2⟩) (fun z => z)) hb (tb h)
  refine ⟨tbm t ?_, e⟩
  rcases ha with ⟨⟨⟨P, hp, hB, h3, hE⟩, h10⟩, a5⟩ | ⟨⟨hS, -⟩, a5⟩
  · rcases hb with ⟨⟨-, -, hSE⟩, -⟩ | ⟨-, b5⟩
    · obtain ⟨P', st⟩ := h.1.2.2.1 p.toNat (by omega)
      have eP : P' = P := Option.some.inj (st.1.symm.trans hB)
      rw [eP] at st
      exact cn_she hG1 hG2 hx hm hF1 hF2 hp hE h10 ((st_f st).mpr h3) hSE.1 h.2.1.2
    · rw [a5, b5] at e
      exact absurd e (by decide)
  · rcases hb with ⟨-, b5⟩ | ⟨⟨-, -, -, b3, -⟩, -⟩
    · rw [a5, b5] at e
      exact absurd e (by decide)
    · subst hS
      refine ⟨CnQ_fr hG1 hx hm hF2 (by decide +kernel) h.2.1.2.1, ?_⟩
      have t := h.2.1.2.2
      unfold LaT at t ⊢
      rw [hF2.I' (g := 1110) (by decide +kernel) hx rfl, la_e b3]
      exact t
theorem TX_take {S1 S2 S3 : PS} {x mo : Nat} {p k r1 r2 : Int} (hG1 : GX S1) (hG2 : GX S2) (hx : At S1 x 11) (hm : At S1 mo 12) (hF1 : Fr eTA S1 S2) (hF2 : Fr MTA S2 S3) (hc : CT S1 x mo) (hl : (pI S1 1102 x).toInt = (pI S1 1201 mo).toInt) (hMI : MI S1 mo)
    (ha1 : ¬ (0 ≤ p ∧ p ≤ 15 ∧ 0 ≤ k ∧ k ≤ 2) → r1 = -1 ∧ S2 = S1) (ha2 : 0 ≤ p ∧ p ≤ 15 ∧ 0 ≤ k ∧ k ≤ 2 → ∀ P, mB S1 x 1109 p.toNat = some P → TkO S1 S2 x P k r1)
    (ha3 : ∀ P, mB S1 x 1109 p.toNat = some P → TkN S1 S2 x P) (hb1 : ¬ (0 ≤ p ∧ p ≤ 15 ∧ 0 ≤ k ∧ k ≤ 2) → r2 = -1 ∧ zA S3 mo 1207 = zA S2 mo 1207 ∧ zA S3 mo 1253 = zA S2 mo 1253) (hb2 : 0 ≤ p ∧ p ≤ 15 ∧ 0 ≤ k ∧ k ≤ 2 → TkR S2 S3 mo p k r2) (h : TX S1 x mo) : TX S3 x mo := by
  have t := TXb_take hG1 hG2 hx hm hF1 hF2 hc hl hMI ha1 ha2 hb1 hb2 (tb h)
  exact tbm t (cn_take hG1 hG2 hx hm hF1 hF2 hMI ha1 ha2 ha3 hb1 hb2 h.1 t.1 h.2.1.2)
theorem TX_fill {S1 S2 S3 : PS} {x mo K P R0 R1 R2 G : Nat} {p l f n : Int} {ν : Nat → Nat} {sk : List Sk} {A : Pt} {R : List Ru} {r1 r2 : Int32} {X3 : Nat → Prop} {Y1 Y2 : Prop} (hG1 : GX S1) (hG2 : GX S2) (hx : At S1 x 11) (hm : At S1 mo 12) (hF1 : Fr eRC S1 S2) (hF2 : Fr MFI S2 S3) (ct : CT S1 x mo) (hPN : PN S1 x) (tl : (pI S1 1102 x).toInt = (pI S1 1201 mo).toInt) (tp : (pI S1 1104 x).toInt = (pI S1 1211 mo).toInt) (hw : TPw S1 x mo ν K sk) (hp : 0 ≤ p → p < (pI S1 1104 x).toInt → PT1 S1 x mo ν p.toNat P R0 R1 R2 G A R)
    (ha : ((FilC S1 x p l f n ∧ ∀ Q, mB S1 x 1103 p.toNat = some Q → PotV S2 (DC S1 x) Q R0 R1 R2 G K (filF (cA S1 A sk) (cocL S1 x l f n.toNat)) ∧ PotX S1 S2 Q R0 R1 R2 G ∧ X3 Q) ∧ r1 = 1) ∨ (((PN S1 x → ¬ FilC S1 x p l f n) ∧ S2 = S1) ∧ r1 = 0))
    (hb : ((MI S3 mo ∧ FilR S2 mo p l f n ∧ Y1 ∧ PotW S3 mo p (filF (cB S1 mo ν A sk) (nuL l f n.toNat)) ∧ PwX S2 S3 mo p) ∧ r2 = 1) ∨ ((MI S3 mo ∧ ¬ FilR S2 mo p l f n ∧ Y2 ∧ S3 = sI S2 1200 mo 0) ∧ r2 = 0)) (h : TX S1 x mo) : TX S3 x mo ∧ r1 = r2 := by
  obtain ⟨t, e⟩ := TXb_fill (X3 := X3) (Y1 := Y1) (Y2 := Y2) hG1 hG2 hx hm hF1 hF2 ct hPN tl tp hw hp ha hb (tb h)
  refine ⟨tbm t ?_, e⟩
  rcases hb with ⟨⟨m, b1, b7, b2, b3⟩, b5⟩ | ⟨⟨m, b1, b2, b3⟩, b5⟩
  · rcases ha with ⟨⟨a1, a2⟩, a5⟩ | ⟨⟨a1, a2⟩, a5⟩
    · have q := hp a1.1 a1.2.1
      obtain ⟨v1, v2, -⟩ := a2 P q.1
      exact cn_fill hG1 hG2 hx hm hF1 hF2 (by decide +kernel) (by decide +kernel) a1.2.2.2.2.2 v1 h.2.1.2
    · rw [a5, b5] at e
      exact absurd e (by decide)
  · rcases ha with ⟨-, a5⟩ | ⟨⟨-, a2⟩, -⟩
    · rw [a5, b5] at e
      exact absurd e (by decide)
    · subst a2
      exact CnS_fr (M := [1200]) hG1 hx hm (by rw [b3]; exact Fr_sI (by decide)) (by decide +kernel) h.2.1.2
