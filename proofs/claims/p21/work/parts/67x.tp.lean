/-! ===== a lot ===== -/
theorem PW_nu {S S0 : PS} {mo : Nat} {p : Int} {A : Pt} {ν ν' : Nat → Nat} {D : Nat → Prop} (hD : InD D A) (hMt : MtD S0 D (qg A)) (e : ∀ c, D c → ν' c = ν c) (h : PW S mo p (rnA ν A)) : PW S mo p (rnA ν' A) := by
  obtain ⟨a0, a1, a2, a3, a4, a5, a6, a7⟩ := h
  have m0 : (qb A).map ν' = (qb A).map ν := List.map_congr_left (fun c hc => e c (hD c (Or.inl hc)))
  have m1 : (qe A).map ν' = (qe A).map ν := List.map_congr_left (fun c hc => e c (hD c (Or.inr (Or.inl hc))))
  have m2 : (ql A).map ν' = (ql A).map ν := List.map_congr_left (fun c hc => e c (hD c (Or.inr (Or.inr hc))))
  refine ⟨?_, ?_, ?_, a3, a4, ?_, a6, a7⟩
  · show RowR S mo _ ((qb A).map ν')
    rw [m0]; exact a0
  · show RowR S mo _ ((qe A).map ν')
    rw [m1]; exact a1
  · show RowR S mo _ ((ql A).map ν')
    rw [m2]; exact a2
  · show GrW S mo p.toNat ((qg A).map (mtN ν'))
    rw [mt_nu hMt e]
    exact a5
theorem PT1_nu {S S0 : PS} {x mo p P R0 R1 R2 G : Nat} {ν ν' : Nat → Nat} {A : Pt} {R : List Ru} {D : Nat → Prop} (hD : InD D A) (hMt : MtD S0 D (qg A)) (e : ∀ c, D c → ν' c = ν c) (h : PT1 S x mo ν p P R0 R1 R2 G A R) : PT1 S x mo ν' p P R0 R1 R2 G A R := by
  obtain ⟨a0, a1, a2, a3, a4, a5⟩ := h
  exact ⟨a0, a1, a2, a3, PW_nu hD hMt e a4, a5⟩
noncomputable def nuN (S T : PS) (x : Nat) (ν : Nat → Nat) : Nat → Nat := fun c => @ite Nat (DC S x c) (Classical.propDecidable _) (ν c) ((60 * (pI T 0 c).toInt + (pI T 1 c).toInt).toNat)
theorem TP_lot {S1 S2 S3 : PS} {x mo : Nat} {a1 a2 a3 a4 a5 : Int32} {a1_z : Int} (hG1 : GX S1) (hG2 : GX S2) (hx : At S1 x 11) (hm : At S1 mo 12) (hF1 : Fr MLt S1 S2) (hF2 : Fr M12t S2 S3) (hMI : MI S1 mo) (hl : (pI S1 1102 x).toInt = (pI S1 1201 mo).toInt) (h9 : (pI S2 1102 x).toInt = (pI S1 1102 x).toInt + 1) (hz : a1.toInt = a1_z) (hn : a1_z ≤ 60) (hlt : (pI S1 1102 x).toInt < 10)
    (hN : ∀ ca lz, pR S1 1100 x = some ca → pR S1 1101 x = some lz → NewC S1 S2 ca (60 * (pI S1 1102 x).toInt) a1_z (pI S1 1102 x) a2 a3 a4 a5 ∧ pA S2 lz = upd (pA S1 lz) (Int32.toNatClampNeg (pI S1 1102 x)) a1) (h : TP S1 x mo) : TP S3 x mo := by
  obtain ⟨ν, K, sk, h1, h2, ⟨h3, h4⟩, h5, h6, h7, h8⟩ := h
  have hx2 := hF1.at hx
  have hm2 := hF1.at hm
  have hr := gI_11_1102 hG1 hx
  obtain ⟨ca, k1, k2, -⟩ := gQ_11_1100 hG1 hx
  obtain ⟨lz, k3, k4, -⟩ := gQ_11_1101 hG1 hx
  obtain ⟨⟨n1, n3⟩, n2⟩ := hN ca lz k1 k3
  have j1 : pR S2 1100 x = some ca := hF1.R' (by decide +kernel) hx k1
  have j3 : pR S2 1101 x = some lz := hF1.R' (by decide +kernel) hx k3
  obtain ⟨b1, b2, b3⟩ := sz_same hG2 hx2 hF2 (by decide +kernel)
  have zn := z_nat (x := pI S1 1102 x) rfl hr.1
  have eL : ∀ l : Nat, zA S2 x 1101 l = if l = Int32.toNatClampNeg (pI S1 1102 x) then a1_z else zA S1 x 1101 l := fun l => by
    rw [zA_eq, zA_eq, mA_eq j3, mA_eq k3, n2]
    unfold upd
    split
    · exact hz
    · rfl
  have eB : mB S2 x 1100 = pB S2 ca := mB_eq j1
  have eB1 : mB S1 x 1100 = pB S1 ca := mB_eq k1
  -- every cocoon is an old one or a new one
  have two : ∀ l i c : Nat, (l : Int) < (pI S3 1102 x).toInt → (i : Int) < zA S3 x 1101 l → mB S3 x 1100 (60 * l + i) = some c → ((l : Int) < (pI S1 1102 x).toInt ∧ (i : Int) < zA S1 x 1101 l ∧ mB S1 x 1100 (60 * l + i) = some c) ∨ ((l : Int) = (pI S1 1102 x).toInt ∧ (i : Int) < a1_z ∧ c ∉ pL S1 ∧ At S2 c 0 ∧ CoF S2 c (pI S1 1102 x) (Int32.ofInt (i : Int)) a2 a3 a4 a5 ∧ Co0 S2 c) := fun l i c q1 q2 q3 => by
    rw [b1, h9] at q1
    rw [b2, eL] at q2
    rw [b3, eB] at q3
    by_cases el : l = Int32.toNatClampNeg (pI S1 1102 x)
    · rw [if_pos el] at q2
      obtain ⟨d, d1, d2, d3, d4, d5⟩ := n1 i q2
      rw [show 60 * l + i = (60 * (pI S1 1102 x).toInt + (i : Int)).toNat by omega, d1] at q3
      cases q3
      exact Or.inr ⟨by omega, q2, d2, d3, d4, d5⟩
    · rw [if_neg el] at q2
      have b := il60 hG1 hx l
      rw [n3 (60 * l + i) (Or.inl (by omega)), ← eB1] at q3
      exact Or.inl ⟨by omega, q2, q3⟩
  have old : ∀ c, DC S1 x c → DC S3 x c := fun c ⟨l, i, q1, q2, q3⟩ => by
    have b := il60 hG1 hx l
    refine ⟨l, i, by rw [b1, h9]; omega, by rw [b2, eL, if_neg (by omega)]; exact q2, ?_⟩
    rw [b3, eB, n3 (60 * l + i) (Or.inl (by omega)), ← eB1]
    exact q3
  have eν : ∀ c, DC S1 x c → nuN S1 S2 x ν c = ν c := fun c hc => if_pos hc
  have e4 : pI S3 1104 x = pI S1 1104 x := (hF2.I' (by decide +kernel) hx2 rfl).trans (hF1.I' (by decide +kernel) hx rfl)
  refine ⟨nuN S1 S2 x ν, K, sk, fun l i c q1 q2 q3 => ?_, hF2.R' (by decide +kernel) hx2 (hF1.R' (by decide +kernel) hx h2), ⟨?_, ?_⟩, fun l i c q1 q2 q3 => ?_, fun p hp => ?_, fun p hp hq => ?_, OW_fr hG2 hx2 hF2 (by decide +kernel) (OW_fr hG1 hx hF1 (by decide +kernel) h8)⟩
  · rcases two l i c q1 q2 q3 with ⟨w1, w2, w3⟩ | ⟨w1, w2, w3, w4, w5, w6⟩
    · rw [eν c ⟨l, i, w1, w2, w3⟩]
      exact h1 l i c w1 w2 w3
    · have hn2 : ¬ DC S1 x c := fun z => w3 (dc_at hG1 hx c z).1
      show @ite Nat (DC S1 x c) (Classical.propDecidable _) (ν c) _ = _
      rw [if_neg hn2, w5.1, w5.2.1, Int32.toInt_ofInt, bm_id (by omega) (by omega)]
      omega
  · exact SkV_up old (SkV_fr hG2 (hF1.at (st_at hG1 hx h2)) hF2 (by decide +kernel) (SkV_fr hG1 (st_at hG1 hx h2) hF1 (by decide +kernel) h3))
  · rw [skN_nu h3 eν]
    exact ⟨SkW_fr hG2 hm2 hF2 (by decide +kernel) (SkW_fr hG1 hm hF1 (by decide +kernel) h4.1), ExT_fr hG2 (hF1.at hx) (hF1.at (st_at hG1 hx h2)) hm2 hF2 (by decide +kernel) (ExT_fr hG1 hx (st_at hG1 hx h2) hm hF1 (by decide +kernel) h4.2)⟩
  · rw [zA_fr (g := 1208) hF2 hm2 (ex3 (gQ_12_1208 hG2 hm2)) (by decide +kernel) (by decide +kernel), zA_fr (g := 1208) hF1 hm (ex3 (gQ_12_1208 hG1 hm)) (by decide +kernel) (by decide +kernel)]
    rcases two l i c q1 q2 q3 with ⟨w1, w2, w3⟩ | ⟨w1, w2, w3, w4, w5, w6⟩
    · have hc0 := mB_at hG1 hx w3
      rw [hF2.I' (g := 4) (by decide +kernel) (hF1.at hc0) rfl, hF1.I' (g := 4) (by decide +kernel) hc0 rfl]
      exact h5 l i c w1 w2 w3
    · rw [hF2.I' (g := 4) (by decide +kernel) w4 rfl, w6.2.1, show 60 * l + i = (60 * (pI S1 1102 x).toInt + (i : Int)).toNat by omega, ((MI_1 hMI (c := 60 * (pI S1 1102 x).toInt + (i : Int)) (by omega) (by omega)).1 (by omega)).1]
      rfl
  · rw [e4] at hp
    obtain ⟨P, R0, R1, R2, G, A, R, hq⟩ := h6 p hp
    have hP := pot_at hG1 hx hq.1
    have v2 : PV S2 (DC S1 x) P R0 R1 R2 G A := PV_fr hG1 hP hq.2.1 hF1 (by decide +kernel) (fun c hc => hc) hq.2.2.1
    have r2 := PotR_fr hG1 hP hF1 (by decide +kernel) hq.2.1
    have v3 : PV S3 (DC S3 x) P R0 R1 R2 G A := PV_fr hG2 (hF1.at hP) r2 hF2 (by decide +kernel) old v2
    have w3 : PW S3 mo (p : Int) (rnA ν A) := PW_eq (pw_same hG2 hm2 hF2 (by decide +kernel)) (PW_eq (pw_same hG1 hm hF1 (by decide +kernel)) hq.2.2.2.2.1)
    refine ⟨P, R0, R1, R2, G, A, R, PT1_nu hq.2.2.1.2.2.2.2.2.2.2.2 hq.2.2.1.2.2.2.2.2.1.2.2.1 eν ?_⟩
    obtain ⟨t0, t1, -, t3, -, t5, ⟨t, t6⟩, t7, t8, t9⟩ := hq
    have f11 : pI S3 411 P = pI S1 411 P := (hF2.I' (by decide +kernel) (hF1.at hP) rfl).trans (hF1.I' (by decide +kernel) hP rfl)
    refine ⟨?_, PotR_fr hG2 (hF1.at hP) hF2 (by decide +kernel) r2, v3, RuS_fr hG2 (hF1.at hP) hF2 (by decide +kernel) (RuS_fr hG1 hP hF1 (by decide +kernel) t3), w3, RuR_fr hG2 hm2 hF2 (by decide +kernel) (RuR_fr hG1 hm hF1 (by decide +kernel) t5), by rw [f11]; exact ⟨t, t6⟩, ?_, ?_, ?_⟩
    · rw [mB_frc hF2 hx2 (ex3 (gQ_11_1103 hG2 hx2)) (by decide +kernel) (by decide +kernel), mB_frc hF1 hx (ex3 (gQ_11_1103 hG1 hx)) (by decide +kernel) (by decide +kernel)]; exact t0
    · rw [hF2.I' (g := 410) (by decide +kernel) (hF1.at hP) rfl, hF1.I' (g := 410) (by decide +kernel) hP rfl]; exact t7
    · rw [hF2.I' (g := 404) (by decide +kernel) (hF1.at hP) rfl, hF1.I' (g := 404) (by decide +kernel) hP rfl, mA_fr (g := 1212) hF2 hm2 (ex3 (gQ_12_1212 hG2 hm2)) (by decide +kernel) (by decide +kernel), mA_fr (g := 1212) hF1 hm (ex3 (gQ_12_1212 hG1 hm)) (by decide +kernel) (by decide +kernel)]; exact t8
    · rw [f11, mA_fr (g := 1213) hF2 hm2 (ex3 (gQ_12_1213 hG2 hm2)) (by decide +kernel) (by decide +kernel), mA_fr (g := 1213) hF1 hm (ex3 (gQ_12_1213 hG1 hm)) (by decide +kernel) (by decide +kernel)]; exact t9
  · rw [e4] at hp
    exact PE_eq (pw_same hG2 hm2 hF2 (by decide +kernel) 1219 (by decide)) (pe_same hG2 hm2 hF2 (by decide +kernel) (by decide +kernel) (by decide +kernel)) (PE_eq (pw_same hG1 hm hF1 (by decide +kernel) 1219 (by decide)) (pe_same hG1 hm hF1 (by decide +kernel) (by decide +kernel) (by decide +kernel)) (h7 p hp hq))
/-! ===== target ===== -/
theorem TP_target {S1 S2 S3 : PS} {x mo P : Nat} {p : Int} {a : Int32} (hG1 : GX S1) (hG2 : GX S2) (hx : At S1 x 11) (hm : At S1 mo 12) (hF2 : Fr Mtg S2 S3) (hp0 : 0 ≤ p) (hp1 : p < (pI S1 1104 x).toInt) (hP : mB S1 x 1103 p.toNat = some P) (e1 : S2 = sI S1 404 P a) (e2 : ∀ j, zA S3 mo 1212 j = if j = p.toNat then a.toInt else zA S2 mo 1212 j) (h : TP S1 x mo) : TP S3 x mo := by
  obtain ⟨ν, K, sk, h1, h2, ⟨h3, h4⟩, h5, h6, h7, h8⟩ := h
  have hF1 : Fr [404] S1 S2 := by rw [e1]; exact Fr_sI (by decide)
  have hx2 := hF1.at hx
  have hm2 := hF1.at hm
  have e4 : pI S3 1104 x = pI S1 1104 x := (hF2.I' (by decide +kernel) hx2 rfl).trans (hF1.I' (by decide +kernel) hx rfl)
  have e12 : zA S2 mo 1212 = zA S1 mo 1212 := zA_fr hF1 hm (ex3 (gQ_12_1212 hG1 hm)) (by decide +kernel) (by decide +kernel)
  refine ⟨ν, K, sk, NuP_to hG2 hx2 hF2 (by decide +kernel) (NuP_to hG1 hx hF1 (by decide +kernel) h1), hF2.R' (by decide +kernel) hx2 (hF1.R' (by decide +kernel) hx h2), ⟨?_, ?_⟩, PlT_fr hG2 hx2 hm2 hF2 (by decide +kernel) (PlT_fr hG1 hx hm hF1 (by decide +kernel) h5), fun q hq => ?_, fun q hq hq4 => ?_, OW_fr hG2 hx2 hF2 (by decide +kernel) (OW_fr hG1 hx hF1 (by decide +kernel) h8)⟩
  · exact SkV_up (fun c hc => dc_to hG2 hx2 hF2 (by decide +kernel) c (dc_to hG1 hx hF1 (by decide +kernel) c hc)) (SkV_fr hG2 (hF1.at (st_at hG1 hx h2)) hF2 (by decide +kernel) (SkV_fr hG1 (st_at hG1 hx h2) hF1 (by decide +kernel) h3))
  · exact ⟨SkW_fr hG2 hm2 hF2 (by decide +kernel) (SkW_fr hG1 hm hF1 (by decide +kernel) h4.1), ExT_fr hG2 (hF1.at hx) (hF1.at (st_at hG1 hx h2)) hm2 hF2 (by decide +kernel) (ExT_fr hG1 hx (st_at hG1 hx h2) hm hF1 (by decide +kernel) h4.2)⟩
  · rw [e4] at hq
    obtain ⟨Q, R0, R1, R2, G, A, R, hq1⟩ := h6 q hq
    have hQ := pot_at hG1 hx hq1.1
    obtain ⟨t0, t1, t2, t3, t4, t5, ⟨t, t6⟩, t7, t8, t9⟩ := hq1
    have f11 : pI S3 411 Q = pI S1 411 Q := (hF2.I' (by decide +kernel) (hF1.at hQ) rfl).trans (hF1.I' (by decide +kernel) hQ rfl)
    have r2 := PotR_fr hG1 hQ hF1 (by decide +kernel) t1
    have v2 := PV_fr hG1 hQ t1 hF1 (by decide +kernel) (dc_to hG1 hx hF1 (by decide +kernel)) t2
    refine ⟨Q, R0, R1, R2, G, A, R, ?_, PotR_fr hG2 (hF1.at hQ) hF2 (by decide +kernel) r2, PV_fr hG2 (hF1.at hQ) r2 hF2 (by decide +kernel) (dc_to hG2 hx2 hF2 (by decide +kernel)) v2, RuS_fr hG2 (hF1.at hQ) hF2 (by decide +kernel) (RuS_fr hG1 hQ hF1 (by decide +kernel) t3), PW_eq (pw_same hG2 hm2 hF2 (by decide +kernel)) (PW_eq (pw_same hG1 hm hF1 (by decide +kernel)) t4), RuR_fr hG2 hm2 hF2 (by decide +kernel) (RuR_fr hG1 hm hF1 (by decide +kernel) t5), by rw [f11]; exact ⟨t, t6⟩, ?_, ?_, ?_⟩
    · rw [mB_frc hF2 hx2 (ex3 (gQ_11_1103 hG2 hx2)) (by decide +kernel) (by decide +kernel), mB_frc hF1 hx (ex3 (gQ_11_1103 hG1 hx)) (by decide +kernel) (by decide +kernel)]; exact t0
    · rw [hF2.I' (g := 410) (by decide +kernel) (hF1.at hQ) rfl, hF1.I' (g := 410) (by decide +kernel) hQ rfl]; exact t7
    · rw [hF2.I' (g := 404) (by decide +kernel) (hF1.at hQ) rfl]
      have hz := e2 q
      refine Int32.toInt_inj.mp ?_
      rw [← zA_eq, hz, e12]
      by_cases e : q = p.toNat
      · have eP : Q = P := by rw [e, hP] at t0; exact (Option.some.inj t0).symm
        rw [if_pos e, eP, e1, pI_sI_same]
      · have ho := h8.1 q p.toNat Q P hq (by omega) e t0 hP
        rw [if_neg e, e1, pI_sI_ne ho.1, t8, zA_eq]
    · rw [f11, mA_fr (g := 1213) hF2 hm2 (ex3 (gQ_12_1213 hG2 hm2)) (by decide +kernel) (by decide +kernel), mA_fr (g := 1213) hF1 hm (ex3 (gQ_12_1213 hG1 hm)) (by decide +kernel) (by decide +kernel)]; exact t9
  · rw [e4] at hq
    exact PE_eq (pw_same hG2 hm2 hF2 (by decide +kernel) 1219 (by decide)) (pe_same hG2 hm2 hF2 (by decide +kernel) (by decide +kernel) (by decide +kernel)) (PE_eq (pw_same hG1 hm hF1 (by decide +kernel) 1219 (by decide)) (pe_same hG1 hm hF1 (by decide +kernel) (by decide +kernel) (by decide +kernel)) (h7 q hq hq4))
/-! ===== a pot is made ===== -/
theorem ru_in {S : PS} {ρ g a : Nat} (hG : GX S) (hr : At S ρ 6) (hg : g ∈ ruG) (h : pR S g ρ = some a) : a ∈ pL S := by
  simp only [ruG, List.mem_cons, List.not_mem_nil, or_false] at hg
  rcases hg with e | e | e | e | e | e <;> subst e
  · obtain ⟨q, k1, k2, -⟩ := gQ_6_601 hG hr; rw [k1] at h; cases h; exact k2.1
  · obtain ⟨q, k1, k2, -⟩ := gQ_6_602 hG hr; rw [k1] at h; cases h; exact k2.1
  · obtain ⟨q, k1, k2, -⟩ := gQ_6_603 hG hr; rw [k1] at h; cases h; exact k2.1
  · obtain ⟨q, k1, k2, -⟩ := gQ_6_604 hG hr; rw [k1] at h; cases h; exact k2.1
  · obtain ⟨q, k1, k2, -⟩ := gQ_6_605 hG hr; rw [k1] at h; cases h; exact k2.1
  · obtain ⟨q, k1, k2, -⟩ := gQ_6_606 hG hr; rw [k1] at h; cases h; exact k2.1
/-- an old pot and one that was made now -/
theorem POw_new {S T : PS} {P Q : Nat} {n a f : Int32} (hG : GX S) (hF : Fr ePT S T) (hP : At S P 4) (hQ : Q ∉ pL S) (hN : PotN S T Q n a f) : POw T P Q := by
  obtain ⟨R0, R1, R2, G, ρ, c0, c1, c2, ⟨q0, q1, q2, q3, q4⟩, ⟨b0, b1, b2⟩, -, -, ⟨f0, f1, f2, f3, f4, f5, f6, f7⟩, -, -, y0, -, j0, j1⟩ := hN
  have row : ∀ g R, g ∈ rowG → pR T g Q = some R → R ∉ pL S ∧ ∃ c, pR T 501 R = some c ∧ c ∉ pL S := fun g R hg h => by
    simp only [rowG, List.mem_cons, List.not_mem_nil, or_false] at hg
    rcases hg with e | e | e <;> subst e
    · rw [q0] at h; cases h; exact ⟨f0, c0, b0, f5⟩
    · rw [q1] at h; cases h; exact ⟨f1, c1, b1, f6⟩
    · rw [q2] at h; cases h; exact ⟨f2, c2, b2, f7⟩
  refine ⟨fun e => hQ (by rw [← e]; exact hP.1), fun g g' hg hg' R R' h h' => ?_, ?_, fun σ τ h h' => ?_⟩
  · have hgM : List.contains ePT g = false := by
      simp only [rowG, List.mem_cons, List.not_mem_nil, or_false] at hg
      rcases hg with e | e | e <;> subst e <;> decide
    rw [frR hF hgM hP.1] at h
    have hR := rowg hG hP hg h
    obtain ⟨w1, c, w2, w3⟩ := row g' R' hg' h'
    refine ⟨fun e => w1 (by rw [← e]; exact hR.1), ?_⟩
    rw [w2, frR hF (g := 501) (by decide) hR.1]
    obtain ⟨d, d0, d1, d2, -⟩ := gRow hG hR
    rw [d1]
    exact fun e => w3 (by rw [← Option.some.inj e]; exact d2.1)
  · obtain ⟨d, d1, d2⟩ := gQ_4_403 hG hP
    refine ⟨?_, fun G0 H0 h1 h2 => ?_⟩
    · rw [frR hF (g := 403) (by decide) hP.1, d1, q3]
      exact fun e => f3 (by rw [← Option.some.inj e]; exact d2.1)
    · rw [frR hF (g := 403) (by decide) hP.1, d1] at h1
      cases h1
      rw [q3] at h2
      cases h2
      obtain ⟨u, u1, u2, -⟩ := gQ_29_900 hG d2
      obtain ⟨v, v1, v2, -⟩ := gQ_29_901 hG d2
      rw [frR hF (g := 900) (by decide) d2.1, u1, frR hF (g := 901) (by decide) d2.1, v1]
      exact ⟨fun e => y0.2.2 900 (by decide) u e.symm u2.1, fun e => y0.2.2 901 (by decide) v e.symm v2.1⟩
  · rw [frR hF (g := 409) (by decide) hP.1] at h
    rw [q4] at h'
    cases h'
    have hs := ru_at hG hP h
    refine ⟨fun e => f4 (by rw [← e]; exact hs.1), fun g g' hg hg' a ha hb => ?_⟩
    rw [ru_pR hF hs (by decide) g hg] at ha
    exact j1 g' hg' a hb (ru_in hG hs hg ha)
theorem POw_sy {S : PS} {P Q : Nat} (h : POw S P Q) : POw S Q P := ⟨fun e => h.1 e.symm, fun g g' hg hg' R R' hR hR' => ⟨fun e => (h.2.1 g' g hg' hg R' R hR' hR).1 e.symm, fun e => (h.2.1 g' g hg' hg R' R hR' hR).2 e.symm⟩, StO_sy h.2.2.1, fun ρ σ hρ hσ => RuO_sy (h.2.2.2 σ ρ hσ hρ)⟩
theorem TP_pot {S1 S2 S3 : PS} {x mo P : Nat} {a1 a2 : Int32} (hG1 : GX S1) (hG2 : GX S2) (hx : At S1 x 11) (hm : At S1 mo 12) (hF1 : Fr ePT S1 S2) (hF2 : Fr MP S2 S3) (tp : (pI S1 1104 x).toInt = (pI S1 1211 mo).toInt) (h4' : (pI S1 1104 x).toInt < 4) (hf : 1 ≤ a2.toInt) (h9 : (pI S2 1104 x).toInt = (pI S1 1104 x).toInt + 1) (hP : P ∉ pL S1) (hB : ∀ j, mB S2 x 1103 j = if j = (pI S1 1104 x).toInt.toNat then some P else mB S1 x 1103 j) (hN : PotN S1 S2 P (pI S1 1104 x) a1 a2) (e12 : ∀ j, zA S3 mo 1212 j = if j = (pI S2 1211 mo).toInt.toNat then a1.toInt else zA S2 mo 1212 j) (e13 : ∀ j, zA S3 mo 1213 j = if j = (pI S2 1211 mo).toInt.toNat then a2.toInt else zA S2 mo 1213 j) (h : TP S1 x mo) : TP S3 x mo := by
  obtain ⟨ν, K, sk, h1, h2, ⟨h3, h4⟩, h5, h6, h7, h8⟩ := h
  have hx2 := hF1.at hx
  have hm2 := hF1.at hm
  have hr := gI_11_1104 hG1 hx
  have e11 : pI S2 1211 mo = pI S1 1211 mo := hF1.I' (by decide +kernel) hm rfl
  rw [e11, ← tp] at e12 e13
  have z12 : zA S2 mo 1212 = zA S1 mo 1212 := zA_fr hF1 hm (ex3 (gQ_12_1212 hG1 hm)) (by decide +kernel) (by decide +kernel)
  have z13 : zA S2 mo 1213 = zA S1 mo 1213 := zA_fr hF1 hm (ex3 (gQ_12_1213 hG1 hm)) (by decide +kernel) (by decide +kernel)
  have e4 : (pI S3 1104 x).toInt = (pI S1 1104 x).toInt + 1 := by rw [hF2.I' (g := 1104) (by decide +kernel) hx2 rfl]; exact h9
  have hB3 : mB S3 x 1103 = mB S2 x 1103 := mB_frc hF2 hx2 (ex3 (gQ_11_1103 hG2 hx2)) (by decide +kernel) (by decide +kernel)
  have pe3 : ∀ q, PE S1 mo q → PE S3 mo q := fun q hq => PE_eq (pw_same hG2 hm2 hF2 (by decide +kernel) 1219 (by decide)) (pe_same hG2 hm2 hF2 (by decide +kernel) (by decide +kernel) (by decide +kernel)) (PE_eq (pw_same hG1 hm hF1 (by decide +kernel) 1219 (by decide)) (pe_same hG1 hm hF1 (by decide +kernel) (by decide +kernel) (by decide +kernel)) hq)
  have hPA : At S2 P 4 := pot_at hG2 hx2 (p := (pI S1 1104 x).toInt.toNat) (by rw [hB, if_pos rfl])
  have ow2 : OW S2 x := by
    obtain ⟨o1, rh, o2, o3, o4⟩ := h8
    have hrh := sp_at hG1 hx o2
    have ru2 : ∀ ρ, At S1 ρ 6 → ∀ g, g ∈ ruG → pR S2 g ρ = pR S1 g ρ := fun ρ hρ => ru_pR hF1 hρ (by decide +kernel)
    refine ⟨fun p q A B a b c d e => ?_, rh, hF1.R' (by decide +kernel) hx o2, RuD_to (ru2 rh hrh) o3, fun p A ρ a b c => ?_⟩
    · rw [h9] at a b
      rw [hB] at d e
      by_cases e1 : p = (pI S1 1104 x).toInt.toNat
      · rw [if_pos e1] at d
        cases d
        rw [if_neg (by omega)] at e
        exact POw_sy (POw_new hG1 hF1 (pot_at hG1 hx e) hP hN)
      · rw [if_neg e1] at d
        by_cases e2 : q = (pI S1 1104 x).toInt.toNat
        · rw [if_pos e2] at e
          cases e
          exact POw_new hG1 hF1 (pot_at hG1 hx d) hP hN
        · rw [if_neg e2] at e
          exact POw_fr hG1 (pot_at hG1 hx d) (pot_at hG1 hx e) hF1 (by decide +kernel) (o1 p q A B (by omega) (by omega) c d e)
    · rw [h9] at a
      rw [hB] at b
      by_cases e1 : p = (pI S1 1104 x).toInt.toNat
      · rw [if_pos e1] at b
        cases b
        obtain ⟨R0, R1, R2, G, σ, c0, c1, c2, ⟨q0, q1, q2, q3, q4⟩, -, -, -, ⟨f0, f1, f2, f3, f4, f5, f6, f7⟩, -, -, -, -, j0, j1⟩ := hN
        rw [q4] at c
        cases c
        refine ⟨j0, fun e => f4 (by rw [e]; exact hrh.1), fun g g' hg hg' b hb hb' => ?_⟩
        rw [ru2 rh hrh g' hg'] at hb'
        exact j1 g hg b hb (ru_in hG1 hrh hg' hb')
      · rw [if_neg e1] at b
        have hA := pot_at hG1 hx b
        rw [frR hF1 (g := 409) (by decide +kernel) hA.1] at c
        obtain ⟨k1, k2⟩ := o4 p A ρ (by omega) b c
        have hρ := ru_at hG1 hA c
        exact ⟨RuD_to (ru2 ρ hρ) k1, RuO_to (ru2 ρ hρ) (ru2 rh hrh) k2⟩
  refine ⟨ν, K, sk, NuP_to hG2 hx2 hF2 (by decide +kernel) (NuP_to hG1 hx hF1 (by decide +kernel) h1), hF2.R' (by decide +kernel) hx2 (hF1.R' (by decide +kernel) hx h2), ⟨?_, ?_⟩, PlT_fr hG2 hx2 hm2 hF2 (by decide +kernel) (PlT_fr hG1 hx hm hF1 (by decide +kernel) h5), fun q hq => ?_, fun q hq hq4 => pe3 q (h7 q (by omega) hq4), OW_fr hG2 hx2 hF2 (by decide +kernel) ow2⟩
  · exact SkV_up (fun c hc => dc_to hG2 hx2 hF2 (by decide +kernel) c (dc_to hG1 hx hF1 (by decide +kernel) c hc)) (SkV_fr hG2 (hF1.at (st_at hG1 hx h2)) hF2 (by decide +kernel) (SkV_fr hG1 (st_at hG1 hx h2) hF1 (by decide +kernel) h3))
  · exact ⟨SkW_fr hG2 hm2 hF2 (by decide +kernel) (SkW_fr hG1 hm hF1 (by decide +kernel) h4.1), ExT_fr hG2 (hF1.at hx) (hF1.at (st_at hG1 hx h2)) hm2 hF2 (by decide +kernel) (ExT_fr hG1 hx (st_at hG1 hx h2) hm hF1 (by decide +kernel) h4.2)⟩
  · rw [e4] at hq
    by_cases e : q = (pI S1 1104 x).toInt.toNat
    · have hE := pe3 q (h7 q (by omega) (by omega))
      obtain ⟨R0, R1, R2, G, σ, c0, c1, c2, ⟨q0, q1, q2, q3, q4⟩, ⟨b0, b1, b2⟩, ⟨d0, d1, d2⟩, ⟨i0, i1, i2⟩, -, ⟨n0, n1, n2, n3, n4, n5⟩, ⟨g0, g1, g2, g3, g4, g5, g6⟩, y0, y1, -⟩ := hN
      have r2 : PotR S2 P R0 R1 R2 G := ⟨q0, q1, q2, q3, ⟨n0, n1, n2⟩, by rw [b0, b1]; exact fun z => n3 (Option.some.inj z), by rw [b0, b2]; exact fun z => n4 (Option.some.inj z), by rw [b1, b2]; exact fun z => n5 (Option.some.inj z)⟩
      have em : ∀ R c n, pR S2 501 R = some c → pN S2 c = n → pI S2 500 R = 0 → RowIs S2 R [] n := fun R c n w1 w2 w3 => ⟨c, w1, w2, by rw [w3]; rfl, fun k hk => absurd hk (Nat.not_lt_zero _)⟩
      have v2 : PV S2 (DC S2 x) P R0 R1 R2 G (pmk [] [] [] 0 0 [] (fun _ => 0) (fun _ => 0) [] [] 0 0) := ⟨em R0 c0 600 b0 d0 i0, em R1 c1 12 b1 d1 i1, em R2 c2 600 b2 d2 i2, g1, g2, StV_nil hG2 (sg_at hG2 hPA q3) y0.1 y0.2.1, g3, g4, fun c hc => by
        rcases hc with z | z | z <;> cases z⟩
      have rr : ∀ k : Nat, k < 3 → RowR S3 mo (3 * (q : Int) + (k : Int)).toNat [] := fun k hk => ⟨by rw [show (3 * (q : Int) + (k : Int)).toNat = 3 * q + k by omega]; exact hE.1 k hk, fun j c hj => by cases hj⟩
      have zz : ∀ g, g ∈ peG → zA S3 mo g (q : Int).toNat = (0 : Int32).toInt := fun g hg => by
        rw [show (q : Int).toNat = q by omega]
        exact (hE.2 g hg).trans (by decide)
      have f10 : ∀ g, List.contains MP g = false → pI S3 g P = pI S2 g P := fun g hg => hF2.I' hg hPA rfl
      refine ⟨P, R0, R1, R2, G, pmk [] [] [] 0 0 [] (fun _ => 0) (fun _ => 0) [] [] 0 0, [], ?_, PotR_fr hG2 hPA hF2 (by decide +kernel) r2, PV_fr hG2 hPA r2 hF2 (by decide +kernel) (dc_to hG2 hx2 hF2 (by decide +kernel)) v2, RuS_fr hG2 hPA hF2 (by decide +kernel) ⟨σ, q4, RuIs_0 (by rw [y1]; decide)⟩, ⟨rr 0 (by decide), rr 1 (by decide), rr 2 (by decide), zz 1215 (by decide), zz 1214 (by decide), ⟨(zz 1237 (by decide)).trans (show (0 : Int32).toInt = ((0 : Nat) : Int) by decide), fun k t hk => by cases hk⟩, zz 1216 (by decide), zz 1217 (by decide)⟩, ⟨(zz 1220 (by decide)).trans (by decide), fun k r hk => by cases hk⟩, ?_, ?_, ?_, ?_⟩
      · rw [hB3, hB, if_pos e]
      · rw [f10 411 (by decide +kernel), g6]
        exact ⟨⟨fun _ => rfl, by show 0 ≤ (0 : Int32).toInt; decide, by show (0 : Int32).toInt < _; rw [t0]; omega⟩, hf⟩
      · rw [f10 410 (by decide +kernel), g5, e, Int.toNat_of_nonneg hr.1]
        exact (Int32.ofInt_toInt _).symm
      · refine Int32.toInt_inj.mp ?_
        rw [f10 404 (by decide +kernel), g0, ← zA_eq, e12, if_pos e]
      · refine Int32.toInt_inj.mp ?_
        rw [f10 411 (by decide +kernel), g6, ← zA_eq, e13, if_pos e]
    · obtain ⟨Q, R0, R1, R2, G, A, R, hq1⟩ := h6 q (by omega)
      have hQ := pot_at hG1 hx hq1.1
      obtain ⟨t0, t1, t2, t3, t4, t5, ⟨t, t6⟩, t7, t8, t9⟩ := hq1
      have f11 : pI S3 411 Q = pI S1 411 Q := (hF2.I' (by decide +kernel) (hF1.at hQ) rfl).trans (hF1.I' (by decide +kernel) hQ rfl)
      have r2 := PotR_fr hG1 hQ hF1 (by decide +kernel) t1
      have v2 := PV_fr hG1 hQ t1 hF1 (by decide +kernel) (dc_to hG1 hx hF1 (by decide +kernel)) t2
      refine ⟨Q, R0, R1, R2, G, A, R, by rw [hB3, hB, if_neg e]; exact t0, PotR_fr hG2 (hF1.at hQ) hF2 (by decide +kernel) r2, PV_fr hG2 (hF1.at hQ) r2 hF2 (by decide +kernel) (dc_to hG2 hx2 hF2 (by decide +kernel)) v2, RuS_fr hG2 (hF1.at hQ) hF2 (by decide +kernel) (RuS_fr hG1 hQ hF1 (by decide +kernel) t3), PW_eq (pw_same hG2 hm2 hF2 (by decide +kernel)) (PW_eq (pw_same hG1 hm hF1 (by decide +kernel)) t4), RuR_fr hG2 hm2 hF2 (by decide +kernel) (RuR_fr hG1 hm hF1 (by decide +kernel) t5), by rw [f11]; exact ⟨t, t6⟩, ?_, ?_, ?_⟩
      · rw [hF2.I' (g := 410) (by decide +kernel) (hF1.at hQ) rfl, hF1.I' (g := 410) (by decide +kernel) hQ rfl]; exact t7
      · refine Int32.toInt_inj.mp ?_
        rw [hF2.I' (g := 404) (by decide +kernel) (hF1.at hQ) rfl, hF1.I' (g := 404) (by decide +kernel) hQ rfl, t8, ← zA_eq, ← zA_eq, e12, if_neg e, z12]
      · refine Int32.toInt_inj.mp ?_
        rw [f11, t9, ← zA_eq, ← zA_eq, e13, if_neg e, z13]
/-! ===== a program ===== -/
theorem RxN_X {S : PS} {x p k : Nat} {r : Ru} (h : RxN S x (12 * p + k) r) : RuX S x (12 * (p : Int) + (k : Int)) r := by
  obtain ⟨h1, h2, h3, h4⟩ := h
  have e : (12 * (p : Int) + (k : Int)).toNat = 12 * p + k := by omega
  refine ⟨Int32.toInt_inj.mp (by rw [← zA_eq, e]; exact h1), Int32.toInt_inj.mp (by rw [← zA_eq, e]; exact h2), by rw [e]; exact h3, fun j c hj => ?_⟩
  obtain ⟨k1, k2, k3⟩ := h4 j c hj
  have e2 : (4 * (12 * (p : Int) + (k : Int)) + (j : Int)).toNat = 4 * (12 * p + k) + j := by omega
  rw [e2]
  exact ⟨Int32.toInt_inj.mp (by rw [← zA_eq]; exact k1), Int32.toInt_inj.mp (by rw [← zA_eq]; exact k2), Int32.toInt_inj.mp (by rw [← zA_eq]; exact k3)⟩
theorem RuX_to {S T : PS} {x q k : Nat} {r : Ru} (hG : GX S) (hm : At S x 12) (hk : 12 * q + k < 48) (e1 : zA T x 1221 (12 * q + k) = zA S x 1221 (12 * q + k) ∧ zA T x 1222 (12 * q + k) = zA S x 1222 (12 * q + k) ∧ zA T x 1223 (12 * q + k) = zA S x 1223 (12 * q + k)) (e2 : ∀ j, j < 4 → zA T x 1224 (4 * (12 * q + k) + j) = zA S x 1224 (4 * (12 * q + k) + j) ∧ zA T x 1225 (4 * (12 * q + k) + j) = zA S x 1225 (4 * (12 * q + k) + j) ∧ zA T x 1226 (4 * (12 * q + k) + j) = zA S x 1226 (4 * (12 * q + k) + j)) (h : RuX S x (12 * (q : Int) + (k : Int)) r) : RuX T x (12 * (q : Int) + (k : Int)) r := by
  obtain ⟨h1, h2, h3, h4⟩ := h
  have e : (12 * (q : Int) + (k : Int)).toNat = 12 * q + k := by omega
  rw [e] at h1 h2 h3
  have b := (z1223 hG hm (12 * q + k)).2
  refine ⟨Int32.toInt_inj.mp (by rw [← zA_eq, e, e1.1, zA_eq, h1]), Int32.toInt_inj.mp (by rw [← zA_eq, e, e1.2.1, zA_eq, h2]), by rw [e, e1.2.2]; exact h3, fun j c hj => ?_⟩
  have hl := (List.getElem?_eq_some_iff.mp hj).1
  obtain ⟨k1, k2, k3⟩ := h4 j c hj
  have e3 : (4 * (12 * (q : Int) + (k : Int)) + (j : Int)).toNat = 4 * (12 * q + k) + j := by omega
  rw [e3] at k1 k2 k3 ⊢
  obtain ⟨w1, w2, w3⟩ := e2 j (by omega)
  exact ⟨Int32.toInt_inj.mp (by rw [← zA_eq, w1, zA_eq, k1]), Int32.toInt_inj.mp (by rw [← zA_eq, w2, zA_eq, k2]), Int32.toInt_inj.mp (by rw [← zA_eq, w3, zA_eq, k3])⟩
theorem RuR_L {S T : PS} {x q : Nat} {R : List Ru} (hG : GX S) (hm : At S x 12) (hq : q < 4) (hl : RrL S T x) (h : RuR S x (q : Int) R) : RuR T x (q : Int) R := by
  have b := (z1220 hG hm q).2
  obtain ⟨h1, h2⟩ := h
  rw [show (q : Int).toNat = q by omega] at h1
  refine ⟨by rw [show (q : Int).toNat = q by omega, hl.2.2 q hq]; exact h1, fun k r hk => ?_⟩
  have hkl := (List.getElem?_eq_some_iff.mp hk).1
  exact RuX_to hG hm (by omega) (hl.1 _ (by omega)) (fun j hj => hl.2.1 _ (by omega)) (h2 k r hk)
theorem RuR_oth {S T : PS} {x p q : Nat} {R R' : List Ru} (hG : GX S) (hm : At S x 12) (hq : q < 4) (hne : q ≠ p) (hl : RpS S T x p R') (h : RuR S x (q : Int) R) : RuR T x (q : Int) R := by
  have b := (z1220 hG hm q).2
  obtain ⟨h1, h2⟩ := h
  obtain ⟨-, -, l1, l2, l3⟩ := hl
  rw [show (q : Int).toNat = q by omega] at h1
  refine ⟨by rw [show (q : Int).toNat = q by omega, l3 q hq hne]; exact h1, fun k r hk => ?_⟩
  have hkl := (List.getElem?_eq_some_iff.mp hk).1
  exact RuX_to hG hm (by omega) (l1 _ (by omega) (by omega)) (fun j hj => l2 _ (by omega) (by omega)) (h2 k r hk)
theorem RuR_own {S T : PS} {x p : Nat} {R : List Ru} (hl : RpS S T x p R) : RuR T x (p : Int) R := ⟨by rw [show (p : Int).toNat = p by omega]; exact hl.1, fun k r hk => RxN_X (hl.2.1 k r hk)⟩
/-- the reference's rules of no pot have changed -/
theorem TP_ref {M : List Nat} {S T : PS} {x mo : Nat} (hG : GX S) (hx : At S x 11) (hm : At S mo 12) (hF : Fr M S T) (hM : (szC ++ pcL ++ pvL ++ pwL ++ [1212, 1213, 10454, 10474, 1220, 1104, 1106, 1107, 800, 1238, 4, 1208, 10374] ++ skA).all (fun g => !M.contains g) = true) (hl : RrL S T mo) (h : TP S x mo) : TP T x mo := by
  obtain ⟨ν, K, sk, h1, h2, ⟨h3, h4⟩, h5, h6, h7, h8⟩ := h
  have e4 : pI T 1104 x = pI S 1104 x := hF.I' (allc hM (by decide)) hx rfl
  refine ⟨ν, K, sk, NuP_to hG hx hF (sub_all hM (by decide)) h1, hF.R' (allc hM (by decide)) hx h2, ⟨?_, ?_⟩, PlT_fr hG hx hm hF (sub_all hM (by decide)) h5, fun p hp => ?_, fun p hp hq => ?_, OW_fr hG hx hF (sub_all hM (by decide)) h8⟩
  · exact SkV_up (dc_to hG hx hF (sub_all hM (by decide))) (SkV_fr hG (st_at hG hx h2) hF (sub_all hM (by decide)) h3)
  · exact ⟨SkW_fr hG hm hF (sub_all hM (by decide)) h4.1, ExT_fr hG hx (st_at hG hx h2) hm hF (sub_all hM (by decide)) h4.2⟩
  · rw [e4] at hp
    have b := gI_11_1104 hG hx
    obtain ⟨P, R0, R1, R2, G, A, R, t0, t1, t2, t3, t4, t5, ⟨t, t6⟩, t7, t8, t9⟩ := h6 p hp
    have hP := pot_at hG hx t0
    have f11 : pI T 411 P = pI S 411 P := hF.I' (allc hM (by decide)) hP rfl
    refine ⟨P, R0, R1, R2, G, A, R, ?_, PotR_fr hG hP hF (sub_all hM (by decide)) t1, PV_fr hG hP t1 hF (sub_all hM (by decide)) (dc_to hG hx hF (sub_all hM (by decide))) t2, RuS_fr hG hP hF (sub_all hM (by decide)) t3, PW_eq (pw_same hG hm hF (sub_all hM (by decide))) t4, RuR_L hG hm (by omega) hl t5, by rw [f11]; exact ⟨t, t6⟩, ?_, ?_, ?_⟩
    · rw [mB_frc hF hx (ex3 (gQ_11_1103 hG hx)) (allc hM (by decide)) (allc hM (by decide))]; exact t0
    · rw [hF.I' (g := 410) (allc hM (by decide)) hP rfl]; exact t7
    · rw [hF.I' (g := 404) (allc hM (by decide)) hP rfl, mA_fr (g := 1212) hF hm (ex3 (gQ_12_1212 hG hm)) (allc hM (by decide)) (allc hM (by decide))]; exact t8
    · rw [f11, mA_fr (g := 1213) hF hm (ex3 (gQ_12_1213 hG hm)) (allc hM (by decide)) (allc hM (by decide))]; exact t9
  · rw [e4] at hp
    have hE := h7 p hp hq
    refine ⟨fun k hk => by rw [pw_same hG hm hF (sub_all hM (by decide)) 1219 (by decide)]; exact hE.1 k hk, fun g hg => ?_⟩
    by_cases e : g = 1220
    · subst e
      rw [hl.2.2 p hq]; exact hE.2 1220 (by decide)
    · rw [pw_same hG hm hF (sub_all hM (by decide)) g (by
        simp only [peG, List.mem_cons, List.not_mem_nil, or_false] at hg
        rcases hg with z | z | z | z | z | z <;> subst z
        · decide
        · decide
        · decide
        · decide
        · decide
        · exact absurd rfl e)]
      exact hE.2 g hg
def pxL : List Nat := szC ++ [1103, 10018, 400, 401, 402, 403, 501, 411, 410, 404] ++ pvL ++ pwL ++ [1212, 1213, 10454, 10474]
theorem PT1_s {M : List Nat} {S T : PS} {x mo p P R0 R1 R2 G : Nat} {ν : Nat → Nat} {A : Pt} {R R' : List Ru} (hG : GX S) (hx : At S x 11) (hm : At S mo 12) (hF : Fr M S T) (hM : pxL.all (fun g => !M.contains g) = true) (h : PT1 S x mo ν p P R0 R1 R2 G A R) (hS : RuS T P R') (hR : RuR T mo (p : Int) R') : PT1 T x mo ν p P R0 R1 R2 G A R' := by
  obtain ⟨t0, t1, t2, -, t4, -, ⟨t, t6⟩, t7, t8, t9⟩ := h
  have hP := pot_at hG hx t0
  have f11 : pI T 411 P = pI S 411 P := hF.I' (allc hM (by decide)) hP rfl
  refine ⟨?_, PotR_fr hG hP hF (sub_all hM (by decide)) t1, PV_fr hG hP t1 hF (sub_all hM (by decide)) (dc_to hG hx hF (sub_all hM (by decide))) t2, hS, PW_eq (pw_same hG hm hF (sub_all hM (by decide))) t4, hR, by rw [f11]; exact ⟨t, t6⟩, ?_, ?_, ?_⟩
  · rw [mB_frc hF hx (ex3 (gQ_11_1103 hG hx)) (allc hM (by decide)) (allc hM (by decide))]; exact t0
  · rw [hF.I' (g := 410) (allc hM (by decide)) hP rfl]; exact t7
  · rw [hF.I' (g := 404) (allc hM (by decide)) hP rfl, mA_fr (g := 1212) hF hm (ex3 (gQ_12_1212 hG hm)) (allc hM (by decide)) (allc hM (by decide))]; exact t8
  · rw [f11, mA_fr (g := 1213) hF hm (ex3 (gQ_12_1213 hG hm)) (allc hM (by decide)) (allc hM (by decide))]; exact t9
def MPP : List Nat := MPt ++ MPr
theorem ru_sR {S T : PS} {g a ρ : Nat} {v : Option Nat} {R : List Ru} (e : T = sR S g a v) (hg : g = 409 ∨ g = 1106) (h : RuIs S ρ R) : RuIs T ρ R := by
  have hR : ∀ k, k ∈ ruG → pR T k ρ = pR S k ρ := fun k hk => by
    rw [e]
    exact pR_sR_nf (fun z => by subst z; rcases hg with w | w <;> subst w <;> revert hk <;> decide)
  refine RuIs_to (by rw [e]; rfl) (fun k hk => ?_) h
  unfold mA
  rw [hR k hk, e]
  rfl
theorem TP_prog {S1 S2 S3 : PS} {x mo P rh u p : Nat} (hG1 : GX S1) (hG2 : GX S2) (hx : At S1 x 11) (hm : At S1 mo 12) (hF1 : Fr MPt S1 S2) (hF2 : Fr MPr S2 S3) (hp : (p : Int) < (pI S1 1104 x).toInt) (hP : mB S1 x 1103 p = some P) (hrh : pR S1 1106 x = some rh) (hu : pR S1 1105 x = some u) (hpg : PgO S1 S2 x P rh u)
    (hb1 : (prF (tB S1 u) (pI S1 1000 u).toInt.toNat 13 0 (tokF (tB S1 u) (pI S1 1000 u).toInt.toNat 0)).1 = 0 → RpS S2 S3 mo p (prA (tB S1 u) (pI S1 1000 u).toInt.toNat)) (hb2 : (prF (tB S1 u) (pI S1 1000 u).toInt.toNat 13 0 (tokF (tB S1 u) (pI S1 1000 u).toInt.toNat 0)).1 ≠ 0 → RrL S2 S3 mo) (h : TP S1 x mo) : TP S3 x mo := by
  obtain ⟨ν, K, sk, h1, h2, ⟨h3, h4⟩, h5, h6, h7, h8⟩ := h
  have hx2 := hF1.at hx
  have hm2 := hF1.at hm
  have hb := gI_11_1104 hG1 hx
  have hF : Fr MPP S1 S3 := (hF1.mono (by decide +kernel)).trans (hF2.mono (by decide +kernel))
  have e4 : pI S3 1104 x = pI S1 1104 x := hF.I' (by decide +kernel) hx rfl
  have hPA := pot_at hG1 hx hP
  have hrA := sp_at hG1 hx hrh
  obtain ⟨o1, rh', o2, o3, o4⟩ := h8
  rw [hrh] at o2
  cases o2
  have eB : mB S3 x 1103 = mB S1 x 1103 := mB_frc hF hx (ex3 (gQ_11_1103 hG1 hx)) (by decide +kernel) (by decide +kernel)
  -- what the reading leaves of the other programs
  have oth : ∀ V, Fr MLr S1 V → RuK S1 V rh → ∀ q Q ρ R, ((q : Nat) : Int) < (pI S1 1104 x).toInt → mB S1 x 1103 q = some Q → pR S1 409 Q = some ρ → RuIs S1 ρ R → RuIs V ρ R := fun V hV hK q Q ρ R q1 q2 q3 q4 => by
    have hQ := pot_at hG1 hx q2
    have hr := ru_at hG1 hQ q3
    obtain ⟨-, k2⟩ := o4 q Q ρ q1 q2 q3
    exact RuIs_oth hG1 hr k2.1 (fun g g' hg hg' a ha hb => k2.2 g' g hg' hg a ha hb) (ru_pR hV hr (by decide +kernel)) hK q4
  -- the references of pots and programs
  have r3 : ∀ g a, a ∈ pL S1 → List.contains MPP g = false → pR S3 g a = pR S1 g a := fun g a ha hg => frR hF hg ha
  have ruG3 : ∀ ρ, At S1 ρ 6 → ∀ g, g ∈ ruG → pR S3 g ρ = pR S1 g ρ := fun ρ hρ => ru_pR hF hρ (by decide +kernel)
  have pe3 : ∀ q, (pI S1 1104 x).toInt ≤ ((q : Nat) : Int) → q < 4 → (zA S3 mo 1220 q = zA S2 mo 1220 q) → PE S3 mo q := fun q q1 q2 q3 => by
    have hE := h7 q q1 q2
    have hE2 : PE S2 mo q := PE_eq (pw_same hG1 hm hF1 (by decide +kernel) 1219 (by decide)) (pe_same hG1 hm hF1 (by decide +kernel) (by decide +kernel) (by decide +kernel)) hE
    refine ⟨fun k hk => by rw [pw_same hG2 hm2 hF2 (by decide +kernel) 1219 (by decide)]; exact hE2.1 k hk, fun g hg => ?_⟩
    by_cases e : g = 1220
    · subst e
      rw [q3]; exact hE2.2 1220 (by decide)
    · rw [pw_same hG2 hm2 hF2 (by decide +kernel) g (by
        simp only [peG, List.mem_cons, List.not_mem_nil, or_false] at hg
        rcases hg with z | z | z | z | z | z <;> subst z
        · decide
        · decide
        · decide
        · decide
        · decide
        · exact absurd rfl e)]
      exact hE2.2 g hg
  have tail : (∀ q : Nat, (q : Int) < (pI S1 1104 x).toInt → PT S3 x mo ν q) → (∀ q : Nat, q < 4 → q ≠ p → zA S3 mo 1220 q = zA S2 mo 1220 q) → OW S3 x → TP S3 x mo := fun w1 w2 w3 => by
    refine ⟨ν, K, sk, NuP_to hG1 hx hF (by decide +kernel) h1, hF.R' (by decide +kernel) hx h2, ⟨?_, ?_⟩, PlT_fr hG1 hx hm hF (by decide +kernel) h5, fun q hq => ?_, fun q hq hq4 => ?_, w3⟩
    · exact SkV_up (dc_to hG1 hx hF (by decide +kernel)) (SkV_fr hG1 (st_at hG1 hx h2) hF (by decide +kernel) h3)
    · exact ⟨SkW_fr hG1 hm hF (by decide +kernel) h4.1, ExT_fr hG1 hx (st_at hG1 hx h2) hm hF (by decide +kernel) h4.2⟩
    · rw [e4] at hq; exact w1 q hq
    · rw [e4] at hq
      exact pe3 q hq hq4 (w2 q hq4 (by omega))
  have ru2 : ∀ q R, RuR S1 mo ((q : Nat) : Int) R → RuR S2 mo (q : Int) R := fun q R hR => RuR_fr hG1 hm hF1 (by decide +kernel) hR
  rcases hpg with ⟨c0, V, U, W, o, v1, v2, v3, v4, v5, v6, v7⟩ | ⟨c0, V, v1, v2, v3⟩
  · have hl := hb1 c0
    have hoA := ru_at hG1 hPA v4
    -- the classes' references
    have p9 : pR S2 409 P = some rh := by
      rw [v7, pR_sR_nf (by decide), v6]
      exact pR_sR_same
    have p9q : ∀ Q, Q ≠ P → Q ∈ pL S1 → pR S2 409 Q = pR S1 409 Q := fun Q hne hq => by
      rw [v7, pR_sR_nf (by decide), v6, pR_sR_ne hne, v5, pR_sI]
      exact frR v1 (by decide +kernel) hq
    have p6 : pR S2 1106 x = some o := by rw [v7]; exact pR_sR_same
    have s9 : pR S3 409 P = some rh := hF2.R' (by decide +kernel) (hF1.at hPA) p9
    have s9q : ∀ Q, Q ≠ P → At S1 Q 4 → pR S3 409 Q = pR S1 409 Q := fun Q hne hq => (frR hF2 (by decide +kernel) (hF1.at hq).1).trans (p9q Q hne hq.1)
    have s6 : pR S3 1106 x = some o := hF2.R' (by decide +kernel) hx2 p6
    have ru3 : ∀ ρ R, At S1 ρ 6 → RuIs V ρ R → RuIs S3 ρ R := fun ρ R hρ hR => RuIs_fr hG2 (hF1.at hρ) hF2 (by decide +kernel) (ru_sR v7 (Or.inr rfl) (ru_sR v6 (Or.inl rfl) (RuIs_sI hR v5 (by decide))))
    refine tail (fun q hq => ?_) (fun q hq4 hne => hl.2.2.2.2 q hq4 hne) ⟨fun q q' Q Q' a b c d e => ?_, o, s6, RuD_to (ruG3 o hoA) (o4 p P o hp hP v4).1, fun q Q ρ a b c => ?_⟩
    · obtain ⟨Q, R0, R1, R2, G, A, R, hq1⟩ := h6 q hq
      by_cases e : q = p
      · subst e
        have eQ : Q = P := Option.some.inj (hq1.1.symm.trans hP)
        subst eQ
        exact ⟨Q, R0, R1, R2, G, A, _, PT1_s hG1 hx hm hF (by decide +kernel) hq1 ⟨rh, s9, ru3 rh _ hrA v3⟩ (RuR_own hl)⟩
      · have hQ := pot_at hG1 hx hq1.1
        have hne : Q ≠ P := (o1 q p Q P hq hp e hq1.1 hP).1
        obtain ⟨ρ, ρ1, ρ2⟩ := hq1.2.2.2.1
        exact ⟨Q, R0, R1, R2, G, A, R, PT1_s hG1 hx hm hF (by decide +kernel) hq1 ⟨ρ, (s9q Q hne hQ).trans ρ1, ru3 ρ R (ru_at hG1 hQ ρ1) (oth V v1 v2 q Q ρ R hq hq1.1 ρ1 ρ2)⟩ (RuR_oth hG2 hm2 (by omega) e hl (ru2 q R hq1.2.2.2.2.2.1))⟩
    · rw [e4] at a b
      rw [eB] at d e
      have hQ := pot_at hG1 hx d
      have hQ' := pot_at hG1 hx e
      obtain ⟨k1, k2, k3, k4⟩ := o1 q q' Q Q' a b c d e
      refine ⟨k1, fun g g' hg hg' R R' hR hR' => ?_, ?_, fun ρ σ hρ hσ => ?_⟩
      · have cg : ∀ g, g ∈ rowG → List.contains MPP g = false := fun g hg => by
          simp only [rowG, List.mem_cons, List.not_mem_nil, or_false] at hg
          rcases hg with z | z | z <;> subst z <;> decide +kernel
        rw [r3 g Q hQ.1 (cg g hg)] at hR
        rw [r3 g' Q' hQ'.1 (cg g' hg')] at hR'
        rw [r3 501 R (rowg hG1 hQ hg hR).1 (by decide +kernel), r3 501 R' (rowg hG1 hQ' hg' hR').1 (by decide +kernel)]
        exact k2 g g' hg hg' R R' hR hR'
      · exact StO_fr hG1 hQ hQ' hF (by decide +kernel) k3
      · by_cases e1 : Q = P
        · subst e1
          rw [s9] at hρ
          cases hρ
          have hne : Q' ≠ Q := fun z => k1 z.symm
          rw [s9q Q' hne hQ'] at hσ
          have hs := ru_at hG1 hQ' hσ
          exact RuO_to (ruG3 rh hrA) (ruG3 σ hs) (RuO_sy (o4 q' Q' σ b e hσ).2)
        · rw [s9q Q e1 hQ] at hρ
          have hr := ru_at hG1 hQ hρ
          by_cases e2 : Q' = P
          · subst e2
            rw [s9] at hσ
            cases hσ
            exact RuO_to (ruG3 ρ hr) (ruG3 rh hrA) (o4 q Q ρ a d hρ).2
          · rw [s9q Q' e2 hQ'] at hσ
            exact RuO_to (ruG3 ρ hr) (ruG3 σ (ru_at hG1 hQ' hσ)) (k4 ρ σ hρ hσ)
    · rw [e4] at a
      rw [eB] at b
      have hQ := pot_at hG1 hx b
      by_cases e1 : Q = P
      · subst e1
        rw [s9] at c
        cases c
        exact ⟨RuD_to (ruG3 rh hrA) o3, RuO_to (ruG3 rh hrA) (ruG3 o hoA) (RuO_sy (o4 p Q o hp hP v4).2)⟩
      · rw [s9q Q e1 hQ] at c
        have hr := ru_at hG1 hQ c
        have hqp : q ≠ p := fun z => e1 (by rw [z, hP] at b; exact (Option.some.inj b).symm)
        exact ⟨RuD_to (ruG3 ρ hr) (o4 q Q ρ a b c).1, RuO_to (ruG3 ρ hr) (ruG3 o hoA) ((o1 q p Q P a hp hqp b hP).2.2.2 ρ o c v4)⟩
  · have hl := hb2 c0
    have s9 : ∀ Q, At S1 Q 4 → pR S3 409 Q = pR S1 409 Q := fun Q hq => (frR hF2 (by decide +kernel) (hF1.at hq).1).trans (by rw [v3, pR_sI]; exact frR v1 (by decide +kernel) hq.1)
    have s6 : pR S3 1106 x = some rh := hF2.R' (by decide +kernel) hx2 (by rw [v3, pR_sI]; exact v1.R' (by decide +kernel) hx hrh)
    have ru3 : ∀ ρ R, At S1 ρ 6 → RuIs V ρ R → RuIs S3 ρ R := fun ρ R hρ hR => RuIs_fr hG2 (hF1.at hρ) hF2 (by decide +kernel) (RuIs_sI hR v3 (by decide))
    refine tail (fun q hq => ?_) (fun q hq4 _ => hl.2.2 q hq4) ⟨fun q q' Q Q' a b c d e => ?_, rh, s6, RuD_to (ruG3 rh hrA) o3, fun q Q ρ a b c => ?_⟩
    · obtain ⟨Q, R0, R1, R2, G, A, R, hq1⟩ := h6 q hq
      have hQ := pot_at hG1 hx hq1.1
      obtain ⟨ρ, ρ1, ρ2⟩ := hq1.2.2.2.1
      exact ⟨Q, R0, R1, R2, G, A, R, PT1_s hG1 hx hm hF (by decide +kernel) hq1 ⟨ρ, (s9 Q hQ).trans ρ1, ru3 ρ R (ru_at hG1 hQ ρ1) (oth V v1 v2 q Q ρ R hq hq1.1 ρ1 ρ2)⟩ (RuR_L hG2 hm2 (by omega) hl (ru2 q R hq1.2.2.2.2.2.1))⟩
    · rw [e4] at a b
      rw [eB] at d e
      have hQ := pot_at hG1 hx d
      have hQ' := pot_at hG1 hx e
      obtain ⟨k1, k2, k3, k4⟩ := o1 q q' Q Q' a b c d e
      refine ⟨k1, fun g g' hg hg' R R' hR hR' => ?_, ?_, fun ρ σ hρ hσ => ?_⟩
      · have cg : ∀ g, g ∈ rowG → List.contains MPP g = false := fun g hg => by
          simp only [rowG, List.mem_cons, List.not_mem_nil, or_false] at hg
          rcases hg with z | z | z <;> subst z <;> decide +kernel
        rw [r3 g Q hQ.1 (cg g hg)] at hR
        rw [r3 g' Q' hQ'.1 (cg g' hg')] at hR'
        rw [r3 501 R (rowg hG1 hQ hg hR).1 (by decide +kernel), r3 501 R' (rowg hG1 hQ' hg' hR').1 (by decide +kernel)]
        exact k2 g g' hg hg' R R' hR hR'
      · exact StO_fr hG1 hQ hQ' hF (by decide +kernel) k3
      · rw [s9 Q hQ] at hρ
        rw [s9 Q' hQ'] at hσ
        exact RuO_to (ruG3 ρ (ru_at hG1 hQ hρ)) (ruG3 σ (ru_at hG1 hQ' hσ)) (k4 ρ σ hρ hσ)
    · rw [e4] at a
      rw [eB] at b
      have hQ := pot_at hG1 hx b
      rw [s9 Q hQ] at c
      have hr := ru_at hG1 hQ c
      exact ⟨RuD_to (ruG3 ρ hr) (o4 q Q ρ a b c).1, RuO_to (ruG3 ρ hr) (ruG3 rh hrA) (o4 q Q ρ a b c).2⟩
