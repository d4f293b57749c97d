theorem TXy_fr {M : List Nat} {S S' : PS} {x mo : Nat} (hG : GX S) (hF : Fr M S S') (hx : At S x 11) (hm : At S mo 12) (hM : txLy.all (fun g => !M.contains g) = true) (h : TXy S x mo) : TXy S' x mo := tbmc (TX_fr hG hF hx hm (sub_all hM (by decide +kernel)) (tbc h)) (CnS_fr hG hx hm hF (sub_all hM (by decide +kernel)) h.2.1.2)
theorem TXy_0 {S : PS} {x mo sh u K rh : Nat} (h2 : pI S 1102 x = 0) (h4 : pI S 1104 x = 0) (hs : pR S 1109 x = some sh) (hi : ShI S sh 16) (h5 : ∀ i, zA S mo 1253 i = 0) (hu : pR S 1105 x = some u) (hu2 : At S u 10) (hu0 : pI S 1000 u = 0) (hK : pR S 1107 x = some K) (h8 : pI S 800 K = 0) (h38 : pI S 1238 mo = 0) (hz : ∀ g, g ∈ in0 → ∀ i, zA S mo g i = 0) (hr : pR S 1106 x = some rh) (hd : RuD S rh) (hE : ExT S x K mo) (hcn : CnS S x mo) : TXy S x mo := tbmc (TX_0 h2 h4 hs hi h5 hu hu2 hu0 hK h8 h38 hz hr hd hE) hcn
theorem TXy_run {S1 S2 S3 : PS} {x mo K P R0 R1 R2 G : Nat} {p n : Int} {ν : Nat → Nat} {sk : List Sk} {A : Pt} {R : List Ru} {r1 r2 : Int32} (hG1 : GX S1) (hG2 : GX S2) (hx : At S1 x 11) (hm : At S1 mo 12) (hF1 : Fr eTI S1 S2) (hF2 : Fr MTK S2 S3) (ct : CT S1 x mo) (hPN : PN S1 x) (tp : (pI S1 1104 x).toInt = (pI S1 1211 mo).toInt) (hd : ∀ K, pR S1 1107 x = some K → pI S1 801 K = pI S1 1245 mo) (hw : TPw S1 x mo ν K sk) (hp : 0 ≤ p → p < (pI S1 1104 x).toInt → PT1 S1 x mo ν p.toNat P R0 R1 R2 G A R)
    (ha1 : PN S1 x → RunC S1 x p n → ∀ Q, mB S1 x 1103 p.toNat = some Q → PotV S2 (DC S1 x) Q R0 R1 R2 G K (runF (EC S1 K P) R n.toNat (cA S1 A sk)).1 ∧ PotX S1 S2 Q R0 R1 R2 G ∧ r1.toInt = (runF (EC S1 K P) R n.toNat (cA S1 A sk)).2 ∧ CtT S1 S2 K (EC S1 K P) (cA S1 A sk) (runF (EC S1 K P) R n.toNat (cA S1 A sk)).1) (ha2 : ¬ RunC S1 x p n → S2 = S1 ∧ r1.toInt = -1)
    (hb1 : 0 ≤ p ∧ p < (pI S2 1211 mo).toInt ∧ 0 ≤ n ∧ n ≤ 300 → r2.toInt = (runF (ER S1 mo p.toNat) R n.toNat (cB S1 mo ν A sk)).2 ∧ PotW S3 mo p (runF (ER S1 mo p.toNat) R n.toNat (cB S1 mo ν A sk)).1 ∧ PwX S2 S3 mo p ∧ WsT S2 S3 mo (ER S1 mo p.toNat) (cB S1 mo ν A sk) (runF (ER S1 mo p.toNat) R n.toNat (cB S1 mo ν A sk)).1) (hb2 : ¬ (0 ≤ p ∧ p < (pI S2 1211 mo).toInt ∧ 0 ≤ n ∧ n ≤ 300) → r2.toInt = -1 ∧ S3 = sI S2 1200 mo 0) (hMI : MI S1 mo) (hGR : GR S1 mo) (h : TXy S1 x mo) : TXy S3 x mo ∧ r1.toInt = r2.toInt := by
  obtain ⟨t, e⟩ := TX_run hG1 hG2 hx hm hF1 hF2 ct hPN tp hd hw hp (fun a b Q c => ⟨(ha1 a b Q c).1, (ha1 a b Q c).2.1, (ha1 a b Q c).2.2.1⟩) ha2 (fun z => ⟨(hb1 z).1, (hb1 z).2.1, (hb1 z).2.2.1⟩) hb2 (tbc h)
  refine ⟨tbmc t ?_, e⟩
  have e11 : pI S2 1211 mo = pI S1 1211 mo := hF1.I' (by decide +kernel) hm rfl
  rw [e11, ← tp] at hb1 hb2
  by_cases c : RunC S1 x p n
  · have c1 := c.1
    have c2 := c.2.1
    have h9 := hp c1 c2
    obtain ⟨f1, f2, -, f4⟩ := ha1 hPN c P h9.1
    obtain ⟨-, -, -, g4⟩ := hb1 c
    have hI := nu_inj hG1 hx hw.1
    have hE := reE (K := K) (P := P) (p := p.toNat) hG1 hx ct hw.1 (hd K hw.2.1) h9.2.2.2.2.2.2.2.1 h9.2.2.2.2.2.2.2.2.1 h9.2.2.2.2.2.2.2.2.2
    have hR0 := ren_cc (sk := sk) hw.1 hw.2.2.2.1 h.1.1 h9.2.2.1.2.2.2.2.2.2.2.2
    obtain ⟨k1, -⟩ := ren_run (R := R) hI hE hR0 n.toNat
    exact cn_step hG1 hG2 hx hm hF1 hF2 (by decide +kernel) (by decide +kernel) ct hMI hGR h.1.1 hw (by omega) h9 f1 f4 (fun L => CnT_run _) (fun L => DnT_run _) hE g4 k1 h.2.1.2
  · obtain ⟨f1, -⟩ := ha2 c
    obtain ⟨-, g2⟩ := hb2 (fun z => c z)
    subst f1
    exact CnS_fr (M := [1200]) hG1 hx hm (by rw [g2]; exact Fr_sI (by decide)) (by decide +kernel) h.2.1.2
theorem TXy_cut {S1 S2 S3 : PS} {x mo K P R0 R1 R2 G : Nat} {p : Int} {ν : Nat → Nat} {sk : List Sk} {A : Pt} {R : List Ru} {r1 r2 : Int32} (hG1 : GX S1) (hG2 : GX S2) (hx : At S1 x 11) (hm : At S1 mo 12) (hF1 : Fr eCU S1 S2) (hF2 : Fr MCU S2 S3) (ct : CT S1 x mo) (hPN : PN S1 x) (tp : (pI S1 1104 x).toInt = (pI S1 1211 mo).toInt) (hd : ∀ K, pR S1 1107 x = some K → pI S1 801 K = pI S1 1245 mo) (hw : TPw S1 x mo ν K sk) (hp : 0 ≤ p → p < (pI S1 1104 x).toInt → PT1 S1 x mo ν p.toNat P R0 R1 R2 G A R)
    (ha1 : PN S1 x → 0 ≤ p ∧ p < (pI S1 1104 x).toInt → ∀ Q, mB S1 x 1103 p.toNat = some Q → PotV S2 (DC S1 x) Q R0 R1 R2 G K (cutF (EC S1 K P) (cA S1 A sk)) ∧ PotX S1 S2 Q R0 R1 R2 G ∧ r1.toInt = cutR (cA S1 A sk) ∧ CtT S1 S2 K (EC S1 K P) (cA S1 A sk) (cutF (EC S1 K P) (cA S1 A sk))) (ha2 : PN S1 x → ¬ (0 ≤ p ∧ p < (pI S1 1104 x).toInt) → S2 = S1 ∧ r1.toInt = -1)
    (hb1 : 0 ≤ p ∧ p < (pI S2 1211 mo).toInt → PotW S3 mo p (cutF (ER S1 mo p.toNat) (cB S1 mo ν A sk)) ∧ r2.toInt = cutR (cB S1 mo ν A sk) ∧ PwX S2 S3 mo p ∧ WsT S2 S3 mo (ER S1 mo p.toNat) (cB S1 mo ν A sk) (cutF (ER S1 mo p.toNat) (cB S1 mo ν A sk))) (hb2 : ¬ (0 ≤ p ∧ p < (pI S2 1211 mo).toInt) → r2.toInt = -1 ∧ S3 = sI S2 1200 mo 0) (hMI : MI S1 mo) (hGR : GR S1 mo) (h : TXy S1 x mo) : TXy S3 x mo ∧ r1.toInt = r2.toInt := by
  obtain ⟨t, e⟩ := TX_cut hG1 hG2 hx hm hF1 hF2 ct hPN tp hd hw hp (fun a b Q c => ⟨(ha1 a b Q c).1, (ha1 a b Q c).2.1, (ha1 a b Q c).2.2.1⟩) ha2 (fun z => ⟨(hb1 z).1, (hb1 z).2.1, (hb1 z).2.2.1⟩) hb2 (tbc h)
  refine ⟨tbmc t ?_, e⟩
  have e11 : pI S2 1211 mo = pI S1 1211 mo := hF1.I' (by decide +kernel) hm rfl
  rw [e11, ← tp] at hb1 hb2
  by_cases c : 0 ≤ p ∧ p < (pI S1 1104 x).toInt
  · have c1 := c.1
    have c2 := c.2
    have h9 := hp c1 c2
    obtain ⟨f1, f2, -, f4⟩ := ha1 hPN c P h9.1
    obtain ⟨-, -, -, g4⟩ := hb1 c
    have hI := nu_inj hG1 hx hw.1
    have hE := reE (K := K) (P := P) (p := p.toNat) hG1 hx ct hw.1 (hd K hw.2.1) h9.2.2.2.2.2.2.2.1 h9.2.2.2.2.2.2.2.2.1 h9.2.2.2.2.2.2.2.2.2
    have hR0 := ren_cc (sk := sk) hw.1 hw.2.2.2.1 h.1.1 h9.2.2.1.2.2.2.2.2.2.2.2
    have k1 := ren_cut hE hR0
    exact cn_step hG1 hG2 hx hm hF1 hF2 (by decide +kernel) (by decide +kernel) ct hMI hGR h.1.1 hw (by omega) h9 f1 f4 (fun L => CnT_cut) (fun L => fun _ hD => cut_D hD) hE g4 k1 h.2.1.2
  · obtain ⟨f1, -⟩ := ha2 hPN c
    obtain ⟨-, g2⟩ := hb2 c
    subst f1
    exact CnS_fr (M := [1200]) hG1 hx hm (by rw [g2]; exact Fr_sI (by decide)) (by decide +kernel) h.2.1.2
theorem TXy_lot {S1 S2 S3 : PS} {x mo : Nat} {a1 a2 a3 a4 a5 : Int32} {a1_z : Int} (hG1 : GX S1) (hG2 : GX S2) (hx : At S1 x 11) (hm : At S1 mo 12) (hF1 : Fr MLt S1 S2) (hF2 : Fr M12t S2 S3) (hMI : MI S1 mo) (hl : (pI S1 1102 x).toInt = (pI S1 1201 mo).toInt) (h9 : (pI S2 1102 x).toInt = (pI S1 1102 x).toInt + 1) (hz : a1.toInt = a1_z) (hn : a1_z ≤ 60) (hlt : (pI S1 1102 x).toInt < 10)
    (hN : ∀ ca lz, pR S1 1100 x = some ca → pR S1 1101 x = some lz → NewC S1 S2 ca (60 * (pI S1 1102 x).toInt) a1_z (pI S1 1102 x) a2 a3 a4 a5 ∧ pA S2 lz = upd (pA S1 lz) (Int32.toNatClampNeg (pI S1 1102 x)) a1) (h : TXy S1 x mo) : TXy S3 x mo := tbmc (TX_lot hG1 hG2 hx hm hF1 hF2 hMI hl h9 hz hn hlt hN (tbc h)) (cn_lot hG1 hG2 hx hm hF1 hF2 h9 hz hN h.2.1.2)
theorem TXy_pot {S1 S2 S3 : PS} {x mo P P' : Nat} {a1 a2 : Int32} (hG1 : GX S1) (hG2 : GX S2) (hx : At S1 x 11) (hm : At S1 mo 12) (hF1 : Fr ePT S1 S2) (hF2 : Fr MP S2 S3) (tp : (pI S1 1104 x).toInt = (pI S1 1211 mo).toInt) (h4' : (pI S1 1104 x).toInt < 4) (hf : 1 ≤ a2.toInt) (h9 : (pI S2 1104 x).toInt = (pI S1 1104 x).toInt + 1) (hP : P ∉ pL S1) (hB : ∀ j, mB S2 x 1103 j = if j = (pI S1 1104 x).toInt.toNat then some P else mB S1 x 1103 j) (hN : PotN S1 S2 P (pI S1 1104 x) a1 a2) (hB' : ∀ j, mB S2 x 1103 j = if j = (pI S1 1104 x).toInt.toNat then some P' else mB S1 x 1103 j) (hP' : At S2 P' 4) (r0 : RowE S2 P' 400) (r1 : RowE S2 P' 401) (r2 : RowE S2 P' 402) (e12 : ∀ j, zA S3 mo 1212 j = if j = (pI S2 1211 mo).toInt.toNat then a1.toInt else zA S2 mo 1212 j) (e13 : ∀ j, zA S3 mo 1213 j = if j = (pI S2 1211 mo).toInt.toNat then a2.toInt else zA S2 mo 1213 j) (h : TXy S1 x mo) : TXy S3 x mo := tbmc (TX_pot hG1 hG2 hx hm hF1 hF2 tp h4' hf h9 hP hB hN hB' hP' r0 r1 r2 e12 e13 (tbc h)) (CnS_fr hG2 (hF1.at hx) (hF1.at hm) hF2 (by decide +kernel) (CnS_fr hG1 hx hm hF1 (by decide +kernel) h.2.1.2))
theorem TXy_target {S1 S2 S3 : PS} {x mo : Nat} {p v : Int} {a : Int32} {r1 r2 : Int32} (hG1 : GX S1) (hG2 : GX S2) (hx : At S1 x 11) (hm : At S1 mo 12) (hF1 : Fr eTG S1 S2) (hF2 : Fr Mtg S2 S3) (hPN : PN S1 x) (tp : (pI S1 1104 x).toInt = (pI S1 1211 mo).toInt) (hv : a.toInt = v)
    (ha : (((0 ≤ p ∧ p < (pI S1 1104 x).toInt ∧ 10 ≤ v ∧ v ≤ 2000) ∧ ∀ P, mB S1 x 1103 p.toNat = some P → S2 = sI S1 404 P a) ∧ r1 = 1) ∨ (((PN S1 x → ¬ (0 ≤ p ∧ p < (pI S1 1104 x).toInt ∧ 10 ≤ v ∧ v ≤ 2000)) ∧ S2 = S1) ∧ r1 = 0)) (hb : (((0 ≤ p ∧ p < (pI S2 1211 mo).toInt ∧ 10 ≤ v ∧ v ≤ 2000) ∧ ∀ j, zA S3 mo 1212 j = if j = p.toNat then v else zA S2 mo 1212 j) ∧ r2 = 1) ∨ ((¬ (0 ≤ p ∧ p < (pI S2 1211 mo).toInt ∧ 10 ≤ v ∧ v ≤ 2000) ∧ S3 = sI S2 1200 mo 0) ∧ r2 = 0)) (h : TXy S1 x mo) : TXy S3 x mo := tbmc (TX_target hG1 hG2 hx hm hF1 hF2 hPN tp hv ha hb (tbc h)) (CnS_fr hG2 (hF1.at hx) (hF1.at hm) hF2 (by decide +kernel) (CnS_fr hG1 hx hm hF1 (by decide +kernel) h.2.1.2))
theorem TXy_feed {S1 S2 S3 : PS} {x mo u : Nat} {s : Nat → Int} (hG1 : GX S1) (hG2 : GX S2) (hx : At S1 x 11) (hm : At S1 mo 12) (hF1 : Fr eAP S1 S2) (hF2 : Fr MT S2 S3) (hu : pR S1 1105 x = some u) (hsz : (pI S1 1000 u).toInt = (pI S1 1228 mo).toInt)
    (h1 : (pI S1 1000 u).toInt ≤ 380 → zA S2 u 1003 = fdP s (zA S1 u 1003) (pI S1 1000 u).toInt.toNat (4 * 5)) (h1' : 380 < (pI S1 1000 u).toInt → zA S2 u 1003 = zA S1 u 1003) (h2 : (pI S2 1228 mo).toInt ≤ 380 → zA S3 mo 1227 = fdP s (zA S2 mo 1227) (pI S2 1228 mo).toInt.toNat (4 * 5)) (h2' : 380 < (pI S2 1228 mo).toInt → zA S3 mo 1227 = zA S2 mo 1227)
    (h9 : (pI S1 1000 u).toInt ≤ 380 → (pI S3 1000 u).toInt = (pI S1 1000 u).toInt + 20) (h9' : 380 < (pI S1 1000 u).toInt → (pI S3 1000 u).toInt = (pI S1 1000 u).toInt) (h : TXy S1 x mo) : TXy S3 x mo := tbmc (TX_feed hG1 hG2 hx hm hF1 hF2 hu hsz h1 h1' h2 h2' h9 h9' (tbc h)) (CnS_fr hG2 (hF1.at hx) (hF1.at hm) hF2 (by decide +kernel) (CnS_fr hG1 hx hm hF1 (by decide +kernel) h.2.1.2))
theorem TXy_prog {S1 S2 S3 : PS} {x mo u : Nat} {p : Int} (hG1 : GX S1) (hG2 : GX S2) (hx : At S1 x 11) (hm : At S1 mo 12) (hF1 : Fr MPt S1 S2) (hF2 : Fr MPr S2 S3) (hPN : PN S1 x) (tp : (pI S1 1104 x).toInt = (pI S1 1211 mo).toInt) (hu : pR S1 1105 x = some u) (hsz : (pI S1 1000 u).toInt = (pI S1 1228 mo).toInt) (hle : (pI S2 1000 u).toInt ≤ (pI S1 1000 u).toInt) (hle3 : (pI S3 1000 u).toInt = (pI S2 1000 u).toInt)
    (ha : ∀ P rh u, PN S1 x → 0 ≤ p → p < (pI S1 1104 x).toInt → mB S1 x 1103 p.toNat = some P → pR S1 1106 x = some rh → pR S1 1105 x = some u → PgO S1 S2 x P rh u) (ha2 : PN S1 x → ¬ (0 ≤ p ∧ p < (pI S1 1104 x).toInt) → Fr MLf S1 S2)
    (hb1 : 0 ≤ p ∧ p < (pI S2 1211 mo).toInt → (prF (rB S2 mo) (pI S2 1228 mo).toInt.toNat 13 0 (tokF (rB S2 mo) (pI S2 1228 mo).toInt.toNat 0)).1 = 0 → RpS S2 S3 mo p.toNat (prL (rB S2 mo) (pI S2 1228 mo).toInt.toNat 13 0 (tokF (rB S2 mo) (pI S2 1228 mo).toInt.toNat 0))) (hb2 : ¬ (0 ≤ p ∧ p < (pI S2 1211 mo).toInt) ∨ (prF (rB S2 mo) (pI S2 1228 mo).toInt.toNat 13 0 (tokF (rB S2 mo) (pI S2 1228 mo).toInt.toNat 0)).1 ≠ 0 → RrL S2 S3 mo) (h : TXy S1 x mo) : TXy S3 x mo := tbmc (TX_prog hG1 hG2 hx hm hF1 hF2 hPN tp hu hsz hle hle3 ha ha2 hb1 hb2 (tbc h)) (CnS_fr hG2 (hF1.at hx) (hF1.at hm) hF2 (by decide +kernel) (CnS_fr hG1 hx hm hF1 (by decide +kernel) h.2.1.2))
theorem TXy_le {M : List Nat} {S S' : PS} {x mo u : Nat} (hG : GX S) (hF : Fr M S S') (hx : At S x 11) (hm : At S mo 12) (hM : ([1105, 1003, 10013, 1227, 10753] ++ txLs ++ tpL ++ cnsM).all (fun g => !M.contains g) = true) (hu : pR S 1105 x = some u) (hle : (pI S' 1000 u).toInt ≤ (pI S 1000 u).toInt) (h : TXy S x mo) : TXy S' x mo := tbmc (TX_le hG hF hx hm (sub_all hM (by decide +kernel)) hu hle (tbc h)) (CnS_fr hG hx hm hF (sub_all hM (by decide +kernel)) h.2.1.2)
theorem TXy_shelve {S1 S2 S3 : PS} {x mo : Nat} {p k : Int} {a b : Int32} {az bz : Int} {r1 r2 : Int32} (hG1 : GX S1) (hG2 : GX S2) (hx : At S1 x 11) (hm : At S1 mo 12) (hF1 : Fr eSH S1 S2) (hF2 : Fr MSH S2 S3) (hc : CT S1 x mo) (hl : (pI S1 1102 x).toInt = (pI S1 1201 mo).toInt) (hz : a.toInt = az)
    (ha : (((∃ P, (0 ≤ p ∧ p ≤ 15) ∧ mB S1 x 1109 p.toNat = some P ∧ (pI S1 300 P).toInt = -1 ∧ ShE S1 S2 x P k a az b bz) ∧ pI S2 1110 x = pI S1 1110 x + 1) ∧ r1 = 1) ∨ ((S2 = S1 ∧ ∀ P, 0 ≤ p → p ≤ 15 → mB S1 x 1109 p.toNat = some P → ¬ ((pI S1 300 P).toInt = -1 ∧ ShC S1 x k az bz)) ∧ r1 = 0)) (hb : ((MI S3 mo ∧ ShR S2 mo p k az bz ∧ SE S2 S3 mo p k az bz) ∧ r2 = 1) ∨ ((MI S3 mo ∧ ¬ ShR S2 mo p k az bz ∧ zA S3 mo 1207 = zA S2 mo 1207 ∧ zA S3 mo 1253 = zA S2 mo 1253 ∧ zA S3 mo 1254 = zA S2 mo 1254 ∧ zA S3 mo 1255 = zA S2 mo 1255 ∧ zA S3 mo 1256 = zA S2 mo 1256) ∧ r2 = 0)) (h : TXy S1 x mo) : TXy S3 x mo ∧ r1 = r2 := by
  obtain ⟨t, e⟩ := TX_shelve hG1 hG2 hx hm hF1 hF2 hc hl hz (ha.imp (fun z => ⟨z.1.1, z.2⟩) (fun z => z)) hb (tbc h)
  refine ⟨tbmc t ?_, e⟩
  rcases ha with ⟨⟨⟨P, hp, hB, h3, hE⟩, h10⟩, a5⟩ | ⟨⟨hS, -⟩, a5⟩
  · rcases hb with ⟨⟨-, -, hSE⟩, -⟩ | ⟨-, b5⟩
    · obtain ⟨P', st⟩ := h.1.2.2.1 p.toNat (by omega)
      have eP : P' = P := Option.some.inj (st.1.symm.trans hB)
      rw [eP] at st
      exact cn_she hG1 hG2 hx hm hF1 hF2 hp hE h10 ((st_f st).mpr h3) hSE.1 h.2.1.2
    · rw [a5, b5] at e
      exact absurd e (by decide)
  · rcases hb with ⟨-, b5⟩ | ⟨⟨-, -, -, b3, -⟩, -⟩
    · rw [a5, b5] at e
      exact absurd e (by decide)
    · subst hS
      refine ⟨CnQ_fr hG1 hx hm hF2 (by decide +kernel) h.2.1.2.1, ?_⟩
      have t := h.2.1.2.2
      unfold LaT at t ⊢
      rw [hF2.I' (g := 1110) (by decide +kernel) hx rfl, la_e b3]
      exact t
theorem TXy_take {S1 S2 S3 : PS} {x mo : Nat} {p k r1 r2 : Int} (hG1 : GX S1) (hG2 : GX S2) (hx : At S1 x 11) (hm : At S1 mo 12) (hF1 : Fr eTA S1 S2) (hF2 : Fr MTA S2 S3) (hc : CT S1 x mo) (hl : (pI S1 1102 x).toInt = (pI S1 1201 mo).toInt) (hMI : MI S1 mo)
    (ha1 : ¬ (0 ≤ p ∧ p ≤ 15 ∧ 0 ≤ k ∧ k ≤ 2) → r1 = -1 ∧ S2 = S1) (ha2 : 0 ≤ p ∧ p ≤ 15 ∧ 0 ≤ k ∧ k ≤ 2 → ∀ P, mB S1 x 1109 p.toNat = some P → TkO S1 S2 x P k r1)
    (ha3 : ∀ P, mB S1 x 1109 p.toNat = some P → TkN S1 S2 x P) (hb1 : ¬ (0 ≤ p ∧ p ≤ 15 ∧ 0 ≤ k ∧ k ≤ 2) → r2 = -1 ∧ zA S3 mo 1207 = zA S2 mo 1207 ∧ zA S3 mo 1253 = zA S2 mo 1253) (hb2 : 0 ≤ p ∧ p ≤ 15 ∧ 0 ≤ k ∧ k ≤ 2 → TkR S2 S3 mo p k r2) (h : TXy S1 x mo) : TXy S3 x mo := by
  have t := TX_take hG1 hG2 hx hm hF1 hF2 hc hl hMI ha1 ha2 hb1 hb2 (tbc h)
  exact tbmc t (cn_take hG1 hG2 hx hm hF1 hF2 hMI ha1 ha2 ha3 hb1 hb2 h.1 t.1 h.2.1.2)
theorem TXy_fill {S1 S2 S3 : PS} {x mo K P R0 R1 R2 G : Nat} {p l f n : Int} {ν : Nat → Nat} {sk : List Sk} {A : Pt} {R : List Ru} {r1 r2 : Int32} {X3 : Nat → Prop} {Y1 Y2 : Prop} (hG1 : GX S1) (hG2 : GX S2) (hx : At S1 x 11) (hm : At S1 mo 12) (hF1 : Fr eRC S1 S2) (hF2 : Fr MFI S2 S3) (ct : CT S1 x mo) (hPN : PN S1 x) (tl : (pI S1 1102 x).toInt = (pI S1 1201 mo).toInt) (tp : (pI S1 1104 x).toInt = (pI S1 1211 mo).toInt) (hw : TPw S1 x mo ν K sk) (hp : 0 ≤ p → p < (pI S1 1104 x).toInt → PT1 S1 x mo ν p.toNat P R0 R1 R2 G A R)
    (ha : ((FilC S1 x p l f n ∧ ∀ Q, mB S1 x 1103 p.toNat = some Q → PotV S2 (DC S1 x) Q R0 R1 R2 G K (filF (cA S1 A sk) (cocL S1 x l f n.toNat)) ∧ PotX S1 S2 Q R0 R1 R2 G ∧ X3 Q) ∧ r1 = 1) ∨ (((PN S1 x → ¬ FilC S1 x p l f n) ∧ S2 = S1) ∧ r1 = 0))
    (hb : ((MI S3 mo ∧ FilR S2 mo p l f n ∧ Y1 ∧ PotW S3 mo p (filF (cB S1 mo ν A sk) (nuL l f n.toNat)) ∧ PwX S2 S3 mo p) ∧ r2 = 1) ∨ ((MI S3 mo ∧ ¬ FilR S2 mo p l f n ∧ Y2 ∧ S3 = sI S2 1200 mo 0) ∧ r2 = 0)) (h : TXy S1 x mo) : TXy S3 x mo ∧ r1 = r2 := by
  obtain ⟨t, e⟩ := TX_fill (X3 := X3) (Y1 := Y1) (Y2 := Y2) hG1 hG2 hx hm hF1 hF2 ct hPN tl tp hw hp ha hb (tbc h)
  refine ⟨tbmc t ?_, e⟩
  rcases hb with ⟨⟨m, b1, b7, b2, b3⟩, b5⟩ | ⟨⟨m, b1, b2, b3⟩, b5⟩
  · rcases ha with ⟨⟨a1, a2⟩, a5⟩ | ⟨⟨a1, a2⟩, a5⟩
    · have q := hp a1.1 a1.2.1
      obtain ⟨v1, v2, -⟩ := a2 P q.1
      exact cn_fill hG1 hG2 hx hm hF1 hF2 (by decide +kernel) (by decide +kernel) a1.2.2.2.2.2 v1 h.2.1.2
    · rw [a5, b5] at e
      exact absurd e (by decide)
  · rcases ha with ⟨-, a5⟩ | ⟨⟨-, a2⟩, -⟩
    · rw [a5, b5] at e
      exact absurd e (by decide)
    · subst a2
      exact CnS_fr (M := [1200]) hG1 hx hm (by rw [b3]; exact Fr_sI (by decide)) (by decide +kernel) h.2.1.2
