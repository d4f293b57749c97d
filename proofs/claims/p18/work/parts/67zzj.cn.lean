/-! ===== the other steps ===== -/
theorem fil_sd {c : Nat} : ∀ {L : List Nat} {A : Pt}, qsd (filF A L) c = qsd A c ∨ (qsd (filF A L) c = 1 ∧ c ∈ L)
  | [], _ => Or.inl rfl
  | a :: t, A => by
    have e : qsd (filF A (a :: t)) = qsd (filF (recF A a) t) := rfl
    rw [e]
    rcases fil_sd (c := c) (L := t) (A := recF A a) with h | ⟨h, h'⟩
    · have e2 : qsd (recF A a) c = fuI (qsd A) a 1 c := rfl
      rw [h, e2]
      unfold fuI
      by_cases z : c = a
      · rw [if_pos z, z]
        exact Or.inr ⟨rfl, List.mem_cons_self⟩
      · rw [if_neg z]
        exact Or.inl rfl
    · exact Or.inr ⟨h, List.mem_cons_of_mem _ h'⟩
theorem cn_fill {M1 M2 : List Nat} {S1 S2 S3 : PS} {x mo K P R0 R1 R2 G : Nat} {l f n : Int} {sk : List Sk} {A : Pt} (hG1 : GX S1) (hG2 : GX S2) (hx : At S1 x 11) (hm : At S1 mo 12) (hF1 : Fr M1 S1 S2) (hF2 : Fr M2 S2 S3) (hM1 : (szC ++ cnsN ++ laL).all (fun g => !M1.contains g) = true) (hM2 : cnsM.all (fun g => !M2.contains g) = true) (hFi : ∀ j : Int, f ≤ j → j < f + n → InC S1 x l j ∧ ∃ c, mB S1 x 1100 (60 * l + j).toNat = some c ∧ pI S1 3 c = 0) (hV : PotV S2 (DC S1 x) P R0 R1 R2 G K (filF (cA S1 A sk) (cocL S1 x l f n.toNat))) (h : CnS S1 x mo) : CnS S3 x mo := by
  refine CnS_fr hG2 (hF1.at hx) (hF1.at hm) hF2 hM2 ⟨CnQ_f3 hG1 hx hm hF1 (sub_all hM1 (by decide)) (fun c hc => ?_) h.1, LaT_fr hG1 hx hm hF1 (sub_all hM1 (by decide)) h.2⟩
  rw [(hV.2.2.2.2.2.2.2.2.2.1 c hc).2]
  rcases fil_sd (c := c) (L := cocL S1 x l f n.toNat) (A := cA S1 A sk) with e | ⟨e, e'⟩
  · rw [e]
    exact Iff.rfl
  · rw [e]
    obtain ⟨j, hj, ej⟩ := List.mem_map.mp e'
    have hj' := List.mem_range.mp hj
    obtain ⟨-, c', k1, k2⟩ := hFi (f + (j : Int)) (by omega) (by omega)
    have ec : c' = c := by
      rw [← ej]
      show c' = (mB S1 x 1100 (60 * l + (f + (j : Int))).toNat).getD 0
      rw [k1]
      rfl
    rw [ec] at k2
    rw [k2]
    exact ⟨fun z => absurd z (by decide), fun z => absurd z (by decide)⟩
theorem su_lot {S1 S2 : PS} {x : Nat} {f1 f2 : Nat → Int32} (h : ∀ j, (∀ c, vld S1 x j = some c → vld S2 x j = some c ∧ f2 c = f1 c) ∧ (vld S1 x j = none → ∀ c, vld S2 x j = some c → f2 c = 0)) : suL f2 (coS S2 x) = suL f1 (coS S1 x) := by
  unfold coS
  rw [su_fm, su_fm]
  refine su_e (fun j _ => ?_)
  obtain ⟨h1, h2⟩ := h j
  show oF f2 (vld S2 x j) = oF f1 (vld S1 x j)
  cases e : vld S1 x j with
  | some c =>
    obtain ⟨k1, k2⟩ := h1 c e
    rw [k1]
    exact k2
  | none =>
    cases e2 : vld S2 x j with
    | none => rfl
    | some c => exact h2 e c e2
theorem cn_lot {S1 S2 S3 : PS} {x mo : Nat} {a1 a2 a3 a4 a5 : Int32} {a1_z : Int} (hG1 : GX S1) (hG2 : GX S2) (hx : At S1 x 11) (hm : At S1 mo 12) (hF1 : Fr MLt S1 S2) (hF2 : Fr M12t S2 S3) (h9 : (pI S2 1102 x).toInt = (pI S1 1102 x).toInt + 1) (hz : a1.toInt = a1_z) (hN : ∀ ca lz, pR S1 1100 x = some ca → pR S1 1101 x = some lz → NewC S1 S2 ca (60 * (pI S1 1102 x).toInt) a1_z (pI S1 1102 x) a2 a3 a4 a5 ∧ pA S2 lz = upd (pA S1 lz) (Int32.toNatClampNeg (pI S1 1102 x)) a1) (h : CnS S1 x mo) : CnS S3 x mo := by
  have hr := gI_11_1102 hG1 hx
  obtain ⟨ca, k1, k2, -⟩ := gQ_11_1100 hG1 hx
  obtain ⟨lz, k3, k4, -⟩ := gQ_11_1101 hG1 hx
  obtain ⟨⟨n1, n3⟩, n2⟩ := hN ca lz k1 k3
  have j1 : pR S2 1100 x = some ca := hF1.R' (by decide +kernel) hx k1
  have j3 : pR S2 1101 x = some lz := hF1.R' (by decide +kernel) hx k3
  have zn := z_nat (x := pI S1 1102 x) rfl hr.1
  have hll : ∀ l : Nat, (l : Int) < (pI S1 1102 x).toInt → zA S2 x 1101 l = zA S1 x 1101 l := fun l q => by
    rw [zA_eq, mA_eq j3, n2, upd_if, if_neg (by omega), ← mA_eq k3, ← zA_eq]
  have hbb : ∀ l i : Nat, (l : Int) < (pI S1 1102 x).toInt → i < 60 → mB S2 x 1100 (60 * l + i) = mB S1 x 1100 (60 * l + i) := fun l i q q2 => by
    rw [mB_eq j1, n3 (60 * l + i) (Or.inl (by omega)), ← mB_eq k1]
  have hA1 : ∀ j c, vld S1 x j = some c → vld S2 x j = some c ∧ At S1 c 0 := fun j c e => by
    obtain ⟨q1, q2, q3⟩ := vld_d e
    refine ⟨?_, mB_at hG1 hx q3⟩
    have y := vld_y (S := S2) (x := x) (l := j / 60) (i := j % 60) (c := c) (by omega) (by omega) (by rw [hll _ q1]; exact q2) (by rw [hbb _ _ q1 (by omega)]; exact q3)
    rw [show 60 * (j / 60) + j % 60 = j by omega] at y
    exact y
  have hA2 : ∀ j c, vld S1 x j = none → vld S2 x j = some c → Co0 S2 c := fun j c e e2 => by
    obtain ⟨q1, q2, q3⟩ := vld_d e2
    by_cases y : ((j / 60 : Nat) : Int) < (pI S1 1102 x).toInt
    · exfalso
      rw [hll _ y] at q2
      rw [hbb _ _ y (by omega)] at q3
      have w := vld_y (S := S1) (x := x) (l := j / 60) (i := j % 60) (c := c) (by omega) y q2 q3
      rw [show 60 * (j / 60) + j % 60 = j by omega, e] at w
      cases w
    · have el : ((j / 60 : Nat) : Int) = (pI S1 1102 x).toInt := by omega
      rw [zA_eq, mA_eq j3, n2, upd_if, if_pos (by omega), hz] at q2
      obtain ⟨c', w1, -, -, -, w5⟩ := n1 (j % 60) q2
      rw [mB_eq j1, show 60 * (j / 60) + j % 60 = (60 * (pI S1 1102 x).toInt + ((j % 60 : Nat) : Int)).toNat by omega, w1] at q3
      cases q3
      exact w5
  refine CnS_fr hG2 (hF1.at hx) (hF1.at hm) hF2 (by decide +kernel) ⟨CnQ_g hG1 hx hm hF1 (by decide +kernel) (su_lot (fun j => ⟨fun c e => ?_, fun e c e2 => ?_⟩)) (su_lot (fun j => ⟨fun c e => ?_, fun e c e2 => ?_⟩)) h.1, LaT_fr hG1 hx hm hF1 (by decide +kernel) h.2⟩
  · obtain ⟨y1, y2⟩ := hA1 j c e
    exact ⟨y1, dwD_fr hF1 (by decide +kernel) y2⟩
  · have y := (hA2 j c e e2).2.1
    unfold dwD
    rw [y]
    rfl
  · obtain ⟨y1, y2⟩ := hA1 j c e
    exact ⟨y1, thD_fr hF1 (by decide +kernel) y2 (by rw [hF1.I' (g := 3) (by decide +kernel) y2 rfl])⟩
  · have y := (hA2 j c e e2).1
    unfold thD
    rw [y]
    exact if_neg (by decide)
theorem la_b {S : PS} {mo : Nat} : ∀ n, 0 ≤ laN S mo n ∧ laN S mo n ≤ (n : Int)
  | 0 => ⟨Int.le_refl _, Int.le_refl _⟩
  | n + 1 => by
    have k := la_b (S := S) (mo := mo) n
    show 0 ≤ laN S mo n + (if zA S mo 1253 n = 0 then 0 else 1) ∧ laN S mo n + (if zA S mo 1253 n = 0 then 0 else 1) ≤ ((n + 1 : Nat) : Int)
    split <;> omega
theorem n6_she {S1 S2 : PS} {x P : Nat} {k : Int} {a b : Int32} {az bz : Int} (h : ShE S1 S2 x P k a az b bz) : ∀ c, (pI S2 3 c = 6 ↔ pI S1 3 c = 6) := fun c => by
  rcases h with ⟨-, -, q, v, -, h2, e⟩ | ⟨-, v, e⟩ | ⟨-, -, -, w, f, v, -, -, e⟩
  · rw [e, pI_sI_nf (by decide), pI_sI_nf (by decide)]
    show pI (sI S1 3 q 5) 3 c = 6 ↔ pI S1 3 c = 6
    by_cases d : c = q
    · rw [d, pI_sI_same, h2]
      exact ⟨fun z => absurd z (by decide), fun z => absurd z (by decide)⟩
    · rw [pI_sI_ne d]
  · rw [e, pI_sI_nf (by decide), pI_sI_nf (by decide), pI_sI_nf (by decide)]
  · rw [e, pI_sI_nf (by decide), pI_sI_nf (by decide), pI_sI_nf (by decide)]
    exact Iff.rfl
theorem cn_she {S1 S2 S3 : PS} {x mo P : Nat} {p k : Int} {a b : Int32} {az bz : Int} (hG1 : GX S1) (hG2 : GX S2) (hx : At S1 x 11) (hm : At S1 mo 12) (hF1 : Fr eSH S1 S2) (hF2 : Fr MSH S2 S3) (hp : 0 ≤ p ∧ p ≤ 15) (hE : ShE S1 S2 x P k a az b bz) (h10 : pI S2 1110 x = pI S1 1110 x + 1) (hZ : zA S1 mo 1253 p.toNat = 0) (hS : ∀ j, zA S3 mo 1253 j = if j = p.toNat then 1 else zA S2 mo 1253 j) (h : CnS S1 x mo) : CnS S3 x mo := by
  have hx2 := hF1.at hx
  have hm2 := hF1.at hm
  refine ⟨CnQ_fr hG2 hx2 hm2 hF2 (by decide +kernel) (CnQ_f3 hG1 hx hm hF1 (by decide +kernel) (fun c _ => n6_she hE c) h.1), ?_⟩
  have e53 : zA S2 mo 1253 = zA S1 mo 1253 := zA_fr hF1 hm (ex3 (gQ_12_1253 hG1 hm)) (by decide +kernel) (by decide +kernel)
  have u := la_u (S := S1) (T := S3) (mo := mo) (p := p.toNat) (fun j hj => by rw [hS, if_neg hj, e53]) 16 (by omega)
  rw [if_pos hZ, hS, if_pos rfl, if_neg (by decide)] at u
  have b1 := la_b (S := S3) (mo := mo) 16
  have t : (pI S1 1110 x).toInt = laN S1 mo 16 := h.2
  have e10 : (pI S2 1110 x).toInt = (pI S1 1110 x).toInt + 1 := z_add h10 rfl (by decide) (by omega) (by omega)
  unfold LaT
  rw [hF2.I' (g := 1110) (by decide +kernel) hx2 rfl]
  omega
def TkN (S T : PS) (x P : Nat) : Prop := (pI T 300 P = pI S 300 P ∧ pI T 1110 x = pI S 1110 x) ∨ ((pI S 300 P).toInt ≠ -1 ∧ pI T 300 P = -1 ∧ pI T 1110 x = pI S 1110 x - 1)
theorem TkR_j {S T : PS} {x : Nat} {p k r : Int} (h : TkR S T x p k r) : ∀ j, j ≠ p.toNat → zA T x 1253 j = zA S x 1253 j := fun j hj => by
  rcases h with ⟨-, -, -, e⟩ | ⟨-, -, -, -, e⟩ | ⟨-, -, -, -, -, -, e⟩ | ⟨-, -, -, -, -, e⟩ | ⟨-, -, -, -, -, e⟩ | ⟨-, -, -, -, -, e⟩
  · rw [e]
  · rw [e]
  · rw [e]
  · rw [e, if_neg hj]
  · rw [e, if_neg hj]
  · rw [e, if_neg hj]
theorem st_f {S : PS} {x mo k P : Nat} (h : STk S x mo k P) : zA S mo 1253 k = 0 ↔ (pI S 300 P).toInt = -1 := by
  obtain ⟨-, -, s3, s4, -⟩ := h
  by_cases z : zA S mo 1253 k = 0
  · rw [if_pos z] at s3
    exact ⟨fun _ => s3, fun _ => z⟩
  · rw [if_neg z] at s3
    have := s4 z
    exact ⟨fun y => absurd y z, fun y => by omega⟩
theorem n6_take {S1 S2 : PS} {x mo : Nat} {p k r1 : Int} (hMI : MI S1 mo) (ha1 : ¬ (0 ≤ p ∧ p ≤ 15 ∧ 0 ≤ k ∧ k ≤ 2) → r1 = -1 ∧ S2 = S1) (ha2 : 0 ≤ p ∧ p ≤ 15 ∧ 0 ≤ k ∧ k ≤ 2 → ∀ P, mB S1 x 1109 p.toNat = some P → TkO S1 S2 x P k r1) (h : TXs S1 x mo) : ∀ c, (pI S2 3 c = 6 ↔ pI S1 3 c = 6) := fun c => by
  by_cases c0 : 0 ≤ p ∧ p ≤ 15 ∧ 0 ≤ k ∧ k ≤ 2
  · obtain ⟨P, st⟩ := h.2.2.1 p.toNat (by omega)
    have hO := ha2 c0 P st.1
    obtain ⟨s1, s2, s3, s4, s5, s6⟩ := st
    rcases hO with ⟨-, -, e⟩ | ⟨-, -, -, e⟩ | ⟨-, -, -, -, e⟩ | ⟨-, -, -, v, e⟩ | ⟨-, -, -, v, e⟩ | ⟨k1, k2, ⟨-, v, e⟩ | ⟨q, v, hq, -, e⟩⟩
    · rw [e]
    · rw [e]
    · rw [e]
    · rw [e, pI_sI_nf (by decide), pI_sI_nf (by decide)]
    · rw [e, pI_sI_nf (by decide), pI_sI_nf (by decide)]
    · rw [e, pI_sI_nf (by decide), pI_sI_nf (by decide)]
    · by_cases d : c = q
      · have h5 : (pI S1 3 c).toInt = 5 := by
          subst d
          by_cases z53 : zA S1 mo 1253 p.toNat = 0
          · rw [if_pos z53] at s3
            omega
          · rw [if_neg z53] at s3
            obtain ⟨d1, d2, d3⟩ := hMI.2.2.2.2.1.1 p.toNat (by omega) z53 (by omega)
            obtain ⟨l, i, q', g1, g2, g3, g4, g5⟩ := s5 z53 (by omega)
            rw [hq] at g5
            cases g5
            rw [show (zA S1 mo 1255 p.toNat).toNat = 60 * l + i by omega] at d3
            exact z05_5 (h.1 l i g2 g3 c g4) d3
        rw [e, d, pI_sI_same]
        rw [d] at h5
        refine ⟨fun z => absurd z (by decide), fun z => ?_⟩
        rw [z] at h5
        exact absurd h5 (by decide)
      · rw [e, pI_sI_ne d, pI_sI_nf (by decide), pI_sI_nf (by decide)]
  · rw [(ha1 c0).2]
theorem cn_take {S1 S2 S3 : PS} {x mo : Nat} {p k r1 r2 : Int} (hG1 : GX S1) (hG2 : GX S2) (hx : At S1 x 11) (hm : At S1 mo 12) (hF1 : Fr eTA S1 S2) (hF2 : Fr MTA S2 S3) (hMI : MI S1 mo) (ha1 : ¬ (0 ≤ p ∧ p ≤ 15 ∧ 0 ≤ k ∧ k ≤ 2) → r1 = -1 ∧ S2 = S1) (ha2 : 0 ≤ p ∧ p ≤ 15 ∧ 0 ≤ k ∧ k ≤ 2 → ∀ P, mB S1 x 1109 p.toNat = some P → TkO S1 S2 x P k r1) (ha3 : ∀ P, mB S1 x 1109 p.toNat = some P → TkN S1 S2 x P)
    (hb1 : ¬ (0 ≤ p ∧ p ≤ 15 ∧ 0 ≤ k ∧ k ≤ 2) → r2 = -1 ∧ zA S3 mo 1207 = zA S2 mo 1207 ∧ zA S3 mo 1253 = zA S2 mo 1253) (hb2 : 0 ≤ p ∧ p ≤ 15 ∧ 0 ≤ k ∧ k ≤ 2 → TkR S2 S3 mo p k r2) (hT1 : TXs S1 x mo) (hT3 : TXs S3 x mo) (h : CnS S1 x mo) : CnS S3 x mo := by
  have hx2 := hF1.at hx
  have hm2 := hF1.at hm
  refine ⟨CnQ_fr hG2 hx2 hm2 hF2 (by decide +kernel) (CnQ_f3 hG1 hx hm hF1 (by decide +kernel) (fun c _ => n6_take hMI ha1 ha2 hT1 c) h.1), ?_⟩
  have e53 : zA S2 mo 1253 = zA S1 mo 1253 := zA_fr hF1 hm (ex3 (gQ_12_1253 hG1 hm)) (by decide +kernel) (by decide +kernel)
  have t : (pI S1 1110 x).toInt = laN S1 mo 16 := h.2
  unfold LaT
  rw [hF2.I' (g := 1110) (by decide +kernel) hx2 rfl]
  by_cases c0 : 0 ≤ p ∧ p ≤ 15 ∧ 0 ≤ k ∧ k ≤ 2
  · obtain ⟨P, st⟩ := hT1.2.2.1 p.toNat (by omega)
    obtain ⟨P3, st3⟩ := hT3.2.2.1 p.toNat (by omega)
    have eB : mB S3 x 1109 = mB S1 x 1109 := (mB_frc hF2 hx2 (ex3 (gQ_11_1109 hG2 hx2)) (by decide +kernel) (by decide +kernel)).trans (mB_frc hF1 hx (ex3 (gQ_11_1109 hG1 hx)) (by decide +kernel) (by decide +kernel))
    have eP : P3 = P := by
      have z := st3.1
      rw [eB, st.1] at z
      cases z
      rfl
    rw [eP] at st3
    have k1 := st_f st
    have k3 := st_f st3
    rw [hF2.I' (g := 300) (by decide +kernel) (hF1.at st.2.1) rfl] at k3
    have u := la_u (S := S1) (T := S3) (mo := mo) (p := p.toNat) (fun j hj => by rw [TkR_j (hb2 c0) j hj, e53]) 16 (by omega)
    have b3 := la_b (S := S3) (mo := mo) 16
    rcases ha3 P st.1 with ⟨w1, w2⟩ | ⟨w0, w1, w2⟩
    · rw [w1] at k3
      rw [w2, t]
      by_cases z : zA S1 mo 1253 p.toNat = 0
      · rw [if_pos z, if_pos (k3.mpr (k1.mp z))] at u
        omega
      · rw [if_neg z, if_neg (fun y => z (k1.mpr (k3.mp y)))] at u
        omega
    · rw [w1] at k3
      rw [if_neg (fun y => w0 (k1.mp y)), if_pos (k3.mpr (by decide))] at u
      have e10 : (pI S2 1110 x).toInt = (pI S1 1110 x).toInt - 1 := z_sub w2 rfl (by decide) (by omega) (by omega)
      omega
  · rw [(ha1 c0).2, la_e ((hb1 c0).2.2.trans e53)]
    exact t
def TXy (S : PS) (x mo : Nat) : Prop := TXs S x mo ∧ (TXt S x mo ∧ CnS S x mo) ∧ TP S x mo
theorem tbc {S : PS} {x mo : Nat} (h : TXy S x mo) : TX S x mo := ⟨h.1, h.2.1.1, h.2.2⟩
theorem tbmc {S : PS} {x mo : Nat} (h : TX S x mo) (c : CnS S x mo) : TXy S x mo := ⟨h.1, ⟨h.2.1, c⟩, h.2.2⟩
def txLy : List Nat := txL ++ cnsM
theorem sp_Dy {S : PS} {x mo : Nat} (h : TXy S x mo) : ∀ q, pR S 1106 x = some q → RuD S q := sp_D (tbc h)
