/-! ===== rules ===== -/
def RuS (S : PS) (x : Nat) (R : List Ru) : Prop := ∃ ρ, pR S 409 x = some ρ ∧ RuIs S ρ R
theorem ru_at {S : PS} {x ρ : Nat} (hG : GX S) (hx : At S x 4) (h : pR S 409 x = some ρ) : At S ρ 6 := by
  obtain ⟨c, k1, k2⟩ := gQ_4_409 hG hx
  rw [k1] at h
  cases h
  exact k2
theorem RuS_fr {M : List Nat} {S T : PS} {x : Nat} {R : List Ru} (hG : GX S) (hx : At S x 4) (hF : Fr M S T) (hM : ([409, 600, 601, 602, 603, 604, 605, 606, 10034, 10134] : List Nat).all (fun g => !M.contains g) = true) (h : RuS S x R) : RuS T x R := by
  obtain ⟨ρ, h1, h2⟩ := h
  exact ⟨ρ, hF.R' (allc hM (by decide)) hx h1, RuIs_fr hG (ru_at hG hx h1) hF (List.all_eq_true.mpr (fun g hg => List.all_eq_true.mp hM g (List.mem_cons_of_mem _ hg))) h2⟩
theorem RuS_sI {S T : PS} {x g a : Nat} {v : Int32} {R : List Ru} (h : RuS S x R) (e : T = sI S g a v) (hg : 600 ≠ g) : RuS T x R := by
  obtain ⟨ρ, h1, h2⟩ := h
  exact ⟨ρ, by rw [e]; exact h1, RuIs_sI h2 e hg⟩
theorem allP_of {E : En} {A : Pt} {L : List (Int32 × Int32 × Int32)} (h : ∀ (j : Nat) (c : Int32 × Int32 × Int32), L[j]? = some c → relP c.2.1 (valF E A c.1) c.2.2.toInt) : allP E A L := fun c hc => by
  obtain ⟨j, hj⟩ := List.mem_iff_getElem?.mp hc
  exact h j c hj
theorem inD_act {E : En} {D : Nat → Prop} {A : Pt} {a m : Int32} (h : InD D A) : InD D (actF E a m A) := by
  unfold actF
  split
  · exact inD_cas h
  · split
    · exact inD_dro h
    · split
      · exact inD_fnd h
      · split
        · exact inD_thr h
        · split
          · exact inD_cut h
          · exact h
def cutR (A : Pt) : Int := if qg A = [] then -1 else if (qsk A).length < 40 then ((qsk A).length : Int) else -2
theorem cutR_n {A : Pt} (h : qg A = []) : cutR A = -1 := if_pos h
theorem cutR_k {A : Pt} (h : qg A ≠ []) (h2 : (qsk A).length < 40) : cutR A = ((qsk A).length : Int) := (if_neg h).trans (if_pos h2)
theorem cutR_w {A : Pt} (h : qg A ≠ []) (h2 : ¬ (qsk A).length < 40) : cutR A = -2 := (if_neg h).trans (if_neg h2)
/-- a metre of a cocoon is drawn -/
def DrO (S T : PS) (x : Nat) : Prop := ((pI S 2 x).toInt ≤ (pI S 4 x + 1).toInt ∧ T = sI (sI S 4 x (pI S 4 x + 1)) 3 x 4) ∨ (¬ (pI S 2 x).toInt ≤ (pI S 4 x + 1).toInt ∧ brI (pI S 7 x) (pI S 9 x) (pI S 1 x) (pI S 4 x) ∧ T = sI (sI S 4 x (pI S 4 x + 1)) 3 x 3) ∨ (¬ (pI S 2 x).toInt ≤ (pI S 4 x + 1).toInt ∧ ¬ brI (pI S 7 x) (pI S 9 x) (pI S 1 x) (pI S 4 x) ∧ T = sI S 4 x (pI S 4 x + 1))
noncomputable def sdV (E : En) (A : Pt) (c : Nat) : Int32 := if (elen E c).toInt ≤ (qpl A c + 1).toInt then 4 else @ite Int32 (ebr E c (qpl A c)) (Classical.propDecidable _) 3 (qsd A c)
theorem endF_2 {E : En} {A : Pt} {c : Nat} (h : sdV E A c = 2) : endF E A c = we (wsd (wpl A (fuI (qpl A) c (qpl A c + 1))) (fuI (qsd A) c (sdV E A c))) (capL 12 (qe A) c) := if_pos h
theorem endF_3 {E : En} {A : Pt} {c : Nat} (h : sdV E A c = 3) : endF E A c = wl (wsd (wpl A (fuI (qpl A) c (qpl A c + 1))) (fuI (qsd A) c (sdV E A c))) (capL 600 (ql A) c) := (if_neg (show ¬ sdV E A c = 2 by rw [h]; decide)).trans (if_pos h)
theorem endF_n {E : En} {A : Pt} {c : Nat} (h2 : sdV E A c ≠ 2) (h3 : sdV E A c ≠ 3) : endF E A c = wsd (wpl A (fuI (qpl A) c (qpl A c + 1))) (fuI (qsd A) c (sdV E A c)) := (if_neg h2).trans (if_neg h3)
theorem inD_end {E : En} {D : Nat → Prop} {A : Pt} {c : Nat} (h : InD D A) (hc : D c) : InD D (endF E A c) := by
  by_cases h2 : sdV E A c = 2
  · rw [endF_2 h2]
    intro d hd
    rcases hd with z | z | z
    · exact h d (Or.inl z)
    · rcases capL_mem (show d ∈ capL 12 (qe A) c from z) with y | y
      · exact h d (Or.inr (Or.inl y))
      · rw [y]; exact hc
    · exact h d (Or.inr (Or.inr z))
  · by_cases h3 : sdV E A c = 3
    · rw [endF_3 h3]
      intro d hd
      rcases hd with z | z | z
      · exact h d (Or.inl z)
      · exact h d (Or.inr (Or.inl z))
      · rcases capL_mem (show d ∈ capL 600 (ql A) c from z) with y | y
        · exact h d (Or.inr (Or.inr y))
        · rw [y]; exact hc
    · rw [endF_n h2 h3]; exact h
/-- what a drawn metre does to places and stands -/
theorem DrO_co {S T : PS} {D : Nat → Prop} {P K x : Nat} {E : En} {A : Pt} (hE : EnC S D P K E) (hc : CoP S D (qpl A) (qsd A)) (hd : D x) (h : DrO S T x) : CoP T D (fuI (qpl A) x (qpl A x + 1)) (fuI (qsd A) x (sdV E A x)) ∧ pI T 3 x = sdV E A x := by
  obtain ⟨e1, -, e3⟩ := hE.1 x hd
  obtain ⟨c4, c3⟩ := hc x hd
  have key : ∀ v : Int32, (∀ g a, pI T g a = if a = x then (if g = 4 then pI S 4 x + 1 else if g = 3 then v else pI S g x) else pI S g a) → v = sdV E A x → CoP T D (fuI (qpl A) x (qpl A x + 1)) (fuI (qsd A) x (sdV E A x)) ∧ pI T 3 x = sdV E A x := by
    intro v hT hv
    refine ⟨fun c hc2 => ?_, by rw [hT 3 x, if_pos rfl, if_neg (by decide), if_pos rfl]; exact hv⟩
    unfold fuI
    rw [hT 4 c, hT 3 c]
    by_cases z : c = x
    · rw [if_pos z, if_pos z, if_pos z, if_pos z, if_pos rfl, if_neg (by decide), if_pos rfl, c4]
      exact ⟨rfl, hv⟩
    · rw [if_neg z, if_neg z, if_neg z, if_neg z]
      exact hc c hc2
  have s1 : ∀ g a, pI (sI S 4 x (pI S 4 x + 1)) g a = if a = x then (if g = 4 then pI S 4 x + 1 else pI S g x) else pI S g a := fun g a => by
    by_cases z : a = x
    · subst z
      rw [if_pos rfl]
      by_cases y : g = 4
      · subst y; rw [if_pos rfl]; exact pI_sI_same
      · rw [if_neg y]; exact pI_sI_nf y
    · rw [if_neg z]; exact pI_sI_ne z
  have s2 : ∀ v : Int32, ∀ g a, pI (sI (sI S 4 x (pI S 4 x + 1)) 3 x v) g a = if a = x then (if g = 4 then pI S 4 x + 1 else if g = 3 then v else pI S g x) else pI S g a := fun v g a => by
    by_cases z : a = x
    · subst z
      rw [if_pos rfl]
      by_cases y : g = 3
      · subst y; rw [if_neg (by decide), if_pos rfl]; exact pI_sI_same
      · rw [pI_sI_nf y, s1, if_pos rfl, if_neg y]
    · rw [if_neg z, pI_sI_ne z, s1, if_neg z]
  unfold sdV at *
  rcases h with ⟨h1, h2⟩ | ⟨h1, h2, h3⟩ | ⟨h1, h2, h3⟩
  · rw [c4] at h1
    exact key 4 (by rw [h2]; exact s2 4) (by rw [e1, if_pos h1])
  · rw [c4] at h1 h2
    exact key 3 (by rw [h3]; exact s2 3) (by rw [e1, if_neg h1, if_pos ((e3 _).mpr h2)])
  · rw [c4] at h1 h2
    refine key (qsd A x) (fun g a => ?_) (by rw [e1, if_neg h1, if_neg (fun z => h2 ((e3 _).mp z))])
    rw [h3, s1]
    by_cases z : a = x
    · subst z
      rw [if_pos rfl, if_pos rfl]
      by_cases y : g = 4
      · rw [if_pos y, if_pos y]
      · rw [if_neg y, if_neg y]
        by_cases y3 : g = 3
        · subst y3; rw [if_pos rfl]; exact c3
        · rw [if_neg y3]
    · rw [if_neg z, if_neg z]
theorem inD_tl {D : Nat → Prop} {A : Pt} {c : Nat} {t : List Nat} (h : InD D A) (e : qe A = c :: t) : InD D (we A t) := fun d hd => by
  rcases hd with z | z | z
  · exact h d (Or.inl z)
  · exact h d (Or.inr (Or.inl (by rw [e]; exact List.mem_cons_of_mem _ z)))
  · exact h d (Or.inr (Or.inr z))
theorem inD_stp {E : En} {D : Nat → Prop} {A : Pt} (h : InD D A) : InD D (stpF E A) := by
  cases e : qe A with
  | nil => rw [stpF_n e]; exact h
  | cons c t =>
    rw [stpF_c e]
    have hc : c ∈ qe A := by rw [e]; exact List.mem_cons_self
    exact inD_end (A := we A t) (fun d hd => by
      rcases hd with z | z | z
      · exact h d (Or.inl z)
      · exact h d (Or.inr (Or.inl (by rw [e]; exact List.mem_cons_of_mem _ z)))
      · exact h d (Or.inr (Or.inr z))) (h c (Or.inr (Or.inl hc)))
theorem inD_ends {E : En} {D : Nat → Prop} {A : Pt} (h : InD D A) : ∀ n, InD D (endsF E n A)
  | 0 => h
  | n + 1 => inD_stp (inD_ends h n)
theorem inD_ru {E : En} {D : Nat → Prop} {A : Pt} {r : Ru} (h : InD D A) : InD D (ruF E A r) := by
  by_cases e : allP E A r.2.2
  · rw [ruF_y e]; exact inD_act h
  · rw [ruF_n e]; exact h
theorem inD_rus {E : En} {D : Nat → Prop} : ∀ {R : List Ru} {A : Pt}, InD D A → InD D (rusF E A R)
  | [], _, h => h
  | r :: t, A, h => inD_rus (R := t) (A := ruF E A r) (inD_ru h)
/-! ===== the tick, in pieces ===== -/
noncomputable def drwB (E : En) (A : Pt) : Pt := endsF E (qe A).length (wdr (wg A (capG (qg A) ((qe A).map (fun c => (c, qpl A c))))) (qdr A + 1))
theorem drwF_c {E : En} {A : Pt} (h : 300 ≤ (qg (drwB E A)).length) : drwF E A = cutF E (drwB E A) := if_pos h
theorem drwF_n {E : En} {A : Pt} (h : ¬ 300 ≤ (qg (drwB E A)).length) : drwF E A = drwB E A := if_neg h
theorem inD_drw {E : En} {D : Nat → Prop} {A : Pt} (h : InD D A) : InD D (drwF E A) := by
  have hB : InD D (drwB E A) := inD_ends (A := wdr (wg A (capG (qg A) ((qe A).map (fun c => (c, qpl A c))))) (qdr A + 1)) h _
  by_cases e : 300 ≤ (qg (drwB E A)).length
  · rw [drwF_c e]; exact inD_cut hB
  · rw [drwF_n e]; exact hB
noncomputable def ticB (E : En) (R : List Ru) (A : Pt) : Pt := if qst (seaF E (wtk A (qtk A + 1))) = 0 then rusF E (seaF E (wtk A (qtk A + 1))) R else seaF E (wtk A (qtk A + 1))
theorem ticF_s {E : En} {R : List Ru} {A : Pt} (h : 0 < (qst (ticB E R A)).toInt) : ticF E R A = (wst (ticB E R A) (qst (ticB E R A) - 1), False) := if_pos h
theorem ticF_0 {E : En} {R : List Ru} {A : Pt} (h : ¬ 0 < (qst (ticB E R A)).toInt) (h2 : qe (ticB E R A) = []) : ticF E R A = (ticB E R A, False) := (if_neg h).trans (if_pos h2)
theorem ticF_d {E : En} {R : List Ru} {A : Pt} (h : ¬ 0 < (qst (ticB E R A)).toInt) (h2 : qe (ticB E R A) ≠ []) : ticF E R A = (drwF E (ticB E R A), True) := (if_neg h).trans (if_neg h2)
theorem inD_tic {E : En} {R : List Ru} {D : Nat → Prop} {A : Pt} (h : InD D A) : InD D (ticF E R A).1 := by
  have hB : InD D (ticB E R A) := by
    unfold ticB
    split
    · exact inD_rus (inD_sea (A := wtk A (qtk A + 1)) h)
    · exact inD_sea (A := wtk A (qtk A + 1)) h
  by_cases h1 : 0 < (qst (ticB E R A)).toInt
  · rw [ticF_s h1]; exact hB
  · by_cases h2 : qe (ticB E R A) = []
    · rw [ticF_0 h1 h2]; exact hB
    · rw [ticF_d h1 h2]; exact inD_drw hB

set_option maxHeartbeats 4000000 in
set_option maxRecDepth 100000 in
theorem k_X4_cutStrand5 (l : Launch) (G : va_G) (cy : Nat → ClassId) (κ : Nat → Nat) (S : PS) (sz hz : Nat) (x : Nat) (s1 : Nat) (D : Nat → Prop) (R0 : Nat) (R1 : Nat) (R2 : Nat) (Gs : Nat) (A : Pt) (Ev : En) (hG : GX S) (ha_x : At S x 4) (ha_s1 : At S s1 8) (hp_0 : (∀ c, D c → At S c 0)) (hp_1 : PotR S x R0 R1 R2 Gs) (hp_2 : PotV S D x R0 R1 R2 Gs s1 A) (hp_3 : EnC S D x s1 Ev) : Gi l yX4_cutStrand wsX4_cutStrand ({ frames := 5, cells := Phc S + 8, slots := Phs S + 15019, locals := 240 }) G cy κ S sz hz 0 0 [.ref x, .ref s1] (fun (r : Int32) (S9 : PS) => Og eCU S S9 ∧ (-2147483648 ≤ r.toInt ∧ r.toInt ≤ 2147483647 ∧ PotV S9 D x R0 R1 R2 Gs s1 (cutF Ev A) ∧ PotX S S9 x R0 R1 R2 Gs ∧ r.toInt = cutR A)) := by
  refine ent_g (cc := cX4_cutStrand) (maxL := 3) (ret := (some .int)) (by decide) rfl (Nat.le_of_ble_eq_true rfl) ?_
  intro p e s m below meth c ls X hr hlocks hin hw hl hsz hhz
  subst hsz hhz
  have X : Cx p c cX4_cutStrand 3 s [.ref x, .ref s1].toArray wsX4_cutStrand RX4 m G cy κ (AS S s.heap.size) := X
  have hl : lv_has ls 3 [(0, .ref x), (1, .ref s1)] := hl
  have hpc0 : 0 + Phc S ≤ Phc S + 0 := by omega
  have hps0 : 0 + Phs S ≤ Phs S + 0 := by omega
  have hO : Og eCU S S := Og.rf hG
  have hpr := hp_1
  obtain ⟨hr0, hr1, hr2, hr3, hne, hcn⟩ := hpr
  have haR0 := row_at hG ha_x (Or.inl hr0)
  have haR1 := row_at hG ha_x (Or.inr (Or.inl hr1))
  have haR2 := row_at hG ha_x (Or.inr (Or.inr hr2))
  have haGs : At S Gs 29 := by obtain ⟨c, k1, k2⟩ := gQ_4_403 hG ha_x; have h3 := hr3; rw [k1] at h3; cases h3; exact k2
  have hpv := hp_2
  obtain ⟨pv_1, pv_2, pv_3, pv_4, pv_5, pv_6, pv_7, pv_8, pv_9, pv_10, pv_11⟩ := hpv
  obtain ⟨v_12, ev_12⟩ : ∃ v, pI S 902 Gs = v := ⟨_, rfl⟩
  have rg_13 := gI_29_902 hO.1 haGs; rw [ev_12] at rg_13
  have pz_14 : (pI S 902 Gs).toInt = v_12.toInt := by rw [ev_12]
  have pz_15 : (pI S 902 Gs).toInt = v_12.toInt := (congrArg Int32.toInt ev_12).trans rfl
  obtain ⟨v_16, ev_16⟩ : ∃ v, pI S 800 s1 = v := ⟨_, rfl⟩
  have rg_17 := gI_8_800 hO.1 ha_s1; rw [ev_16] at rg_17
  have pz_18 : (pI S 800 s1).toInt = v_16.toInt := by rw [ev_16]
  have pz_19 : (pI S 800 s1).toInt = v_16.toInt := (congrArg Int32.toInt ev_16).trans rfl
  have sl_20 := pv_6.1
  have sl_21 := pv_9.1
  refine lv_aload_n X.1 X.2.1 dX4_cutStrand_0 rfl (lv_at hl 0 rfl) ?_
  refine r_getR (g := 403) X hw ha_x rfl 3 hr3 (by decide) rfl inn_X4_cutStrand_4 (by decide) (X.2.2.2.1 (.fieldLink RX4 29 "SilkMill$Pot" "strand" "LSilkMill$Strand;") (by decide +kernel)) rfl (gv_403 _ _) dX4_cutStrand_1 ?_
  refine r_getI (g := 902) (x := v_12) X hw haGs rfl 2 ev_12 (by decide) rfl inn_X4_cutStrand_9 (by decide) (X.2.2.2.1 (.fieldLink RX4 79 "SilkMill$Strand" "metres" "I") (by decide +kernel)) rfl (gv_902 _ _) dX4_cutStrand_4 ?_
  refine lv_if_ne (tgt := 12) X.1 X.2.1 dX4_cutStrand_7 (by decide) (fun c_22 => ?_) (fun c_22 => ?_)
  · have z_b_23 := trivial
    have k_24 : v_12.toInt ≠ 0 := z_ne rfl ti_0 c_22
    refine lv_aload_n X.1 X.2.1 dX4_cutStrand_12 rfl (lv_at hl 1 rfl) ?_
    refine lv_aload_n X.1 X.2.1 dX4_cutStrand_13 rfl (lv_at hl 0 rfl) ?_
    refine r_getR (g := 403) X hw ha_x rfl 3 hr3 (by decide) rfl inn_X4_cutStrand_4 (by decide) (X.2.2.2.1 (.fieldLink RX4 29 "SilkMill$Pot" "strand" "LSilkMill$Strand;") (by decide +kernel)) rfl (gv_403 _ _) dX4_cutStrand_14 ?_
    refine lv_aload_n X.1 X.2.1 dX4_cutStrand_17 rfl (lv_at hl 0 rfl) ?_
    obtain ⟨v_25, ev_25⟩ : ∃ v, pI S 410 x = v := ⟨_, rfl⟩
    have rg_27 := And.intro (z_lo v_25) (z_hi v_25)
    have pz_28 : (pI S 410 x).toInt = v_25.toInt := by rw [ev_25]
    refine r_getI (g := 410) (x := v_25) X hw ha_x rfl 10 ev_25 (by decide) rfl inn_X4_cutStrand_4 (by decide) (X.2.2.2.1 (.fieldLink RX4 40 "SilkMill$Pot" "potNumber" "I") (by decide +kernel)) rfl (gv_410 _ _) dX4_cutStrand_18 ?_
    refine lv_aload_n X.1 X.2.1 dX4_cutStrand_21 rfl (lv_at hl 0 rfl) ?_
    obtain ⟨v_29, ev_29⟩ : ∃ v, pI S 404 x = v := ⟨_, rfl⟩
    have rg_31 := And.intro (z_lo v_29) (z_hi v_29)
    have pz_32 : (pI S 404 x).toInt = v_29.toInt := by rw [ev_29]
    refine r_getI (g := 404) (x := v_29) X hw ha_x rfl 4 ev_29 (by decide) rfl inn_X4_cutStrand_4 (by decide) (X.2.2.2.1 (.fieldLink RX4 44 "SilkMill$Pot" "aim" "I") (by decide +kernel)) rfl (gv_404 _ _) dX4_cutStrand_22 ?_
    refine k_gi (kc := 0) (ks := 0) (rm := { frames := 4, cells := Phc S + 8, slots := Phs S + 15019, locals := 192 }) (av := [.ref s1, .ref Gs, .int (v_25), .int (v_29)]) X hw (va_runV (As := [.ref Gs, .int (v_25), .int (v_29)]) (rest := []) (cfix X) (k_X8_keep7 l G cy κ S _ _ s1 Gs (v_25) (v_25.toInt) (v_29) (v_29.toInt) hO.1 ha_s1 haGs rfl rfl) (cwV 3 X.2.2.2.1 gX4_cutStrand_X8_keep rfl rfl rfl (by decide +kernel) ⟨Nat.le_of_ble_eq_true rfl, Nat.le_of_ble_eq_true rfl⟩) (pre_gV X hw _ ha_s1 rfl (by decide) rfl) rfl rfl hl.1 rfl (lv_room (Nat.le_of_ble_eq_true rfl)) dX4_cutStrand_25 ⟨(by show 0 + (Phc S + 8) ≤ Phc S + 8; omega), (by show 0 + (Phs S + 15019) ≤ Phs S + 15019; omega)⟩) (fun rr_33 S_34 H locs c_35 n_36 hc_35 hn_36 hp hw => ?_)
    obtain ⟨hk_37, hp⟩ := hp
    have ph_38 : c_35 + Phc S_34 ≤ Phc S + 0 := by omega
    have ph_39 : n_36 + Phs S_34 ≤ Phs S + 0 := by omega
    clear hpc0
    clear hps0
    clear hc_35
    clear hn_36
    have hO_40 : Og eCU S S_34 := hO.call hk_37 (by decide +kernel)
    obtain ⟨kp_41, kp_42, kp_43, kp_44⟩ := hp
    by_cases kp_45 : ((qsk A)).length < 40
    · obtain ⟨kp_46, kp_47, kp_49⟩ := kp_43 (by omega)
      have en_51 : EnC S_34 D x s1 Ev := EnC_fr hk_37.fr hp_0 ha_x ha_s1 (by decide +kernel) hp_3
      have t_52 : pI S_34 410 x = v_25 := hk_37.fr.I' (by decide +kernel) ha_x ev_25
      have t_53 : pI S_34 404 x = v_29 := hk_37.fr.I' (by decide +kernel) ha_x ev_29
      have sk_50 : SkV S_34 D s1 ((qsk A) ++ [(epot Ev, eday Ev, eaim Ev, (qg A))]) := by rw [en_51.2.1, en_51.2.2.1, en_51.2.2.2.1, t_52, t_53, show pI S_34 801 s1 = pI S 801 s1 from hk_37.fr.I' (by decide +kernel) ha_s1 rfl]; exact SkV_ke hO.1 ha_s1 haGs hk_37.fr kp_47 kp_49 pv_6 pv_9
      have kp_48 : (((qsk A) ++ [(epot Ev, eday Ev, eaim Ev, (qg A))]).length : Int) = (((qsk A)).length : Int) + 1 := by rw [List.length_append]; rfl
      obtain ⟨v_55, ev_55⟩ : ∃ v, pI S_34 800 s1 = v := ⟨_, rfl⟩
      have t_57 : At S_34 s1 8 := hk_37.fr.at ha_s1
      have rg_56 := gI_8_800 hO_40.1 t_57; rw [ev_55] at rg_56
      have pz_58 : (pI S_34 800 s1).toInt = v_55.toInt := by rw [ev_55]
      have pz_59 : (pI S_34 800 s1).toInt = v_55.toInt := (congrArg Int32.toInt ev_55).trans rfl
      refine lv_istore_n (lv' := [(2, .int (rr_33)), (0, .ref x), (1, .ref s1)]) X.1 X.2.1 dX4_cutStrand_28 rfl hl (by decide) rfl (fun ls hl => ?_)
      refine lv_aload_n X.1 X.2.1 dX4_cutStrand_29 rfl (lv_at hl 1 rfl) ?_
      have t_60 : At S_34 x 4 := hk_37.fr.at ha_x
      have t_61 : pR S_34 403 x = some Gs := hk_37.fr.R' (by decide +kernel) ha_x hr3
      refine r_getR (g := 403) X hw t_60 rfl 3 t_61 (by decide) rfl inn_X4_cutStrand_4 (by decide) (X.2.2.2.1 (.fieldLink RX4 29 "SilkMill$Pot" "strand" "LSilkMill$Strand;") (by decide +kernel)) rfl (gv_403 _ _) dX4_cutStrand_30 ?_
      have t_62 : At S_34 Gs 29 := hk_37.fr.at haGs
      refine k_v (rm := { frames := 1, cells := 0, slots := 0, locals := 48 }) (av := [.ref Gs]) X hw (va_runV (As := []) (rest := []) (cfix X) (k_X9_beginAnew7 l G cy κ S_34 _ Gs hO_40.1 t_62) (cwV 0 X.2.2.2.1 gX4_cutStrand_X9_beginAnew rfl rfl rfl (by decide +kernel) ⟨Nat.le_of_ble_eq_true rfl, Nat.le_of_ble_eq_true rfl⟩) (pre_V X hw _ t_62 rfl (by decide) rfl) rfl rfl hl.1 rfl (lv_room (Nat.le_of_ble_eq_true rfl)) dX4_cutStrand_33 ⟨(by show c_35 + 0 ≤ Phc S + 8; omega), (by show n_36 + 0 ≤ Phs S + 15019; omega)⟩) c_35 n_36 (by show c_35 + 0 ≤ c_35; omega) (by show n_36 + 0 ≤ n_36; omega) (fun S_64 H locs hp hw hfr hnw => ?_)
      obtain ⟨hk_65, hp⟩ := hp
      have ph_66 : c_35 + Phc S_64 ≤ Phc S + 0 := by rw [show Phc S_64 = Phc S_34 from Ph_ok hO_40.1 hk_65 (by decide +kernel) (by decide +kernel) (by decide +kernel)]; exact ph_38
      have ph_67 : n_36 + Phs S_64 ≤ Phs S + 0 := by rw [show Phs S_64 = Phs S_34 from Ph_ok hO_40.1 hk_65 (by decide +kernel) (by decide +kernel) (by decide +kernel)]; exact ph_39
      clear ph_38
      clear ph_39
      have hO_68 : Og eCU S S_64 := hO_40.call hk_65.og (by decide +kernel)
      have ba_69 := hp
      refine lv_iload_n X.1 X.2.1 dX4_cutStrand_36 rfl (lv_at hl 0 rfl) ?_
      have rw_70 : RowIs S_34 R0 (qb A) 600 := RowIs_fr hO.1 haR0 hk_37.fr (by decide +kernel) pv_1
      have t_72 : At S_34 R0 5 := hk_37.fr.at haR0
      have rw_71 : RowIs S_64 R0 (qb A) 600 := RowIs_fr hO_40.1 t_72 hk_65.fr (by decide +kernel) rw_70
      have rw_73 : RowIs S_34 R1 (qe A) 12 := RowIs_fr hO.1 haR1 hk_37.fr (by decide +kernel) pv_2
      have t_75 : At S_34 R1 5 := hk_37.fr.at haR1
      have rw_74 : RowIs S_64 R1 (qe A) 12 := RowIs_fr hO_40.1 t_75 hk_65.fr (by decide +kernel) rw_73
      have rw_76 : RowIs S_34 R2 (ql A) 600 := RowIs_fr hO.1 haR2 hk_37.fr (by decide +kernel) pv_3
      have t_78 : At S_34 R2 5 := hk_37.fr.at haR2
      have rw_77 : RowIs S_64 R2 (ql A) 600 := RowIs_fr hO_40.1 t_78 hk_65.fr (by decide +kernel) rw_76
      have co_79 : CoP S_34 D (qpl A) (qsd A) := CoP_fr hk_37.fr hp_0 (by decide +kernel) pv_10
      have dt_81 : ∀ c, D c → At S_34 c 0 := fun c h => hk_37.fr.at (hp_0 c h)
      have co_80 : CoP S_64 D (qpl A) (qsd A) := CoP_fr hk_65.fr dt_81 (by decide +kernel) co_79
      have t_82 : pI S_34 405 x = (qst A) := hk_37.fr.I' (by decide +kernel) ha_x pv_4
      have t_83 : pI S_64 405 x = (qst A) := hk_65.fr.I' (by decide +kernel) t_60 t_82
      have t_84 : pI S_34 406 x = (qse A) := hk_37.fr.I' (by decide +kernel) ha_x pv_5
      have t_85 : pI S_64 406 x = (qse A) := hk_65.fr.I' (by decide +kernel) t_60 t_84
      have sg_86 : StV S_34 D Gs (qg A) := StV_fr hO.1 haGs hk_37.fr (by decide +kernel) pv_6
      have sg_87 : StV S_64 D Gs ([] : List Mt) := (StV_ba ba_69 sg_86)
      have t_88 : pI S_34 407 x = (qdr A) := hk_37.fr.I' (by decide +kernel) ha_x pv_7
      have t_89 : pI S_64 407 x = (qdr A) := hk_65.fr.I' (by decide +kernel) t_60 t_88
      have t_90 : pI S_34 408 x = (qtk A) := hk_37.fr.I' (by decide +kernel) ha_x pv_8
      have t_91 : pI S_64 408 x = (qtk A) := hk_65.fr.I' (by decide +kernel) t_60 t_90
      have sk_92 : SkV S_34 D s1 ((qsk A) ++ [(epot Ev, eday Ev, eaim Ev, (qg A))]) := sk_50
      have sk_93 : SkV S_64 D s1 ((qsk A) ++ [(epot Ev, eday Ev, eaim Ev, (qg A))]) := (SkV_ba hO_40.1 t_57 t_62 hk_65.fr ba_69 sk_92)
      have px_94 : PotX S S_34 x R0 R1 R2 Gs := PotX_fr (PotX_rf S x R0 R1 R2 Gs) (fun _ _ h => h) hO.1 hk_37.fr (by decide +kernel)
      have ax_96 : ∀ a k, At S a k → At S_34 a k := fun a k h => hk_37.fr.at ((fun _ _ h => h) a k h)
      have px_95 : PotX S S_64 x R0 R1 R2 Gs := PotX_st px_94 ax_96 hO_40.1 hk_65.fr (by decide +kernel) (StX_ba ba_69)
      exact ret_gi X hw hr hlocks (by show c_35 ≤ Phc S + 8; omega) (by show n_36 ≤ Phs S + 15019; omega) (by omega) (by omega) ⟨hO_68, ⟨z_lo _, z_hi _, PotV_of (cutF_k (fun z => by have e0 := congrArg List.length z; have e1 : ([] : List Mt).length = 0 := rfl; omega) kp_45) rw_71 rw_74 rw_77 t_83 t_85 sg_87 t_89 t_91 sk_93 co_80 (inD_cut pv_11), px_95, by rw [cutR_k (fun z => by have e0 := congrArg List.length z; have e1 : ([] : List Mt).length = 0 := rfl; omega) kp_45]; omega⟩⟩ dX4_cutStrand_37
    · obtain ⟨kp_46, kp_47, kp_49⟩ := kp_44 (by omega)
      obtain ⟨v_99, ev_99⟩ : ∃ v, pI S_34 800 s1 = v := ⟨_, rfl⟩
      have t_101 : At S_34 s1 8 := hk_37.fr.at ha_s1
      have rg_100 := gI_8_800 hO_40.1 t_101; rw [ev_99] at rg_100
      have pz_102 : (pI S_34 800 s1).toInt = v_99.toInt := by rw [ev_99]
      have pz_103 : (pI S_34 800 s1).toInt = v_99.toInt := (congrArg Int32.toInt ev_99).trans rfl
      refine lv_istore_n (lv' := [(2, .int (rr_33)), (0, .ref x), (1, .ref s1)]) X.1 X.2.1 dX4_cutStrand_28 rfl hl (by decide) rfl (fun ls hl => ?_)
      refine lv_aload_n X.1 X.2.1 dX4_cutStrand_29 rfl (lv_at hl 1 rfl) ?_
      have t_104 : At S_34 x 4 := hk_37.fr.at ha_x
      have t_105 : pR S_34 403 x = some Gs := hk_37.fr.R' (by decide +kernel) ha_x hr3
      refine r_getR (g := 403) X hw t_104 rfl 3 t_105 (by decide) rfl inn_X4_cutStrand_4 (by decide) (X.2.2.2.1 (.fieldLink RX4 29 "SilkMill$Pot" "strand" "LSilkMill$Strand;") (by decide +kernel)) rfl (gv_403 _ _) dX4_cutStrand_30 ?_
      have t_106 : At S_34 Gs 29 := hk_37.fr.at haGs
      refine k_v (rm := { frames := 1, cells := 0, slots := 0, locals := 48 }) (av := [.ref Gs]) X hw (va_runV (As := []) (rest := []) (cfix X) (k_X9_beginAnew7 l G cy κ S_34 _ Gs hO_40.1 t_106) (cwV 0 X.2.2.2.1 gX4_cutStrand_X9_beginAnew rfl rfl rfl (by decide +kernel) ⟨Nat.le_of_ble_eq_true rfl, Nat.le_of_ble_eq_true rfl⟩) (pre_V X hw _ t_106 rfl (by decide) rfl) rfl rfl hl.1 rfl (lv_room (Nat.le_of_ble_eq_true rfl)) dX4_cutStrand_33 ⟨(by show c_35 + 0 ≤ Phc S + 8; omega), (by show n_36 + 0 ≤ Phs S + 15019; omega)⟩) c_35 n_36 (by show c_35 + 0 ≤ c_35; omega) (by show n_36 + 0 ≤ n_36; omega) (fun S_108 H locs hp hw hfr hnw => ?_)
      obtain ⟨hk_109, hp⟩ := hp
      have ph_110 : c_35 + Phc S_108 ≤ Phc S + 0 := by rw [show Phc S_108 = Phc S_34 from Ph_ok hO_40.1 hk_109 (by decide +kernel) (by decide +kernel) (by decide +kernel)]; exact ph_38
      have ph_111 : n_36 + Phs S_108 ≤ Phs S + 0 := by rw [show Phs S_108 = Phs S_34 from Ph_ok hO_40.1 hk_109 (by decide +kernel) (by decide +kernel) (by decide +kernel)]; exact ph_39
      clear ph_38
      clear ph_39
      have hO_112 : Og eCU S S_108 := hO_40.call hk_109.og (by decide +kernel)
      have ba_113 := hp
      refine lv_iload_n X.1 X.2.1 dX4_cutStrand_36 rfl (lv_at hl 0 rfl) ?_
      have rw_114 : RowIs S_34 R0 (qb A) 600 := RowIs_fr hO.1 haR0 hk_37.fr (by decide +kernel) pv_1
      have t_116 : At S_34 R0 5 := hk_37.fr.at haR0
      have rw_115 : RowIs S_108 R0 (qb A) 600 := RowIs_fr hO_40.1 t_116 hk_109.fr (by decide +kernel) rw_114
      have rw_117 : RowIs S_34 R1 (qe A) 12 := RowIs_fr hO.1 haR1 hk_37.fr (by decide +kernel) pv_2
      have t_119 : At S_34 R1 5 := hk_37.fr.at haR1
      have rw_118 : RowIs S_108 R1 (qe A) 12 := RowIs_fr hO_40.1 t_119 hk_109.fr (by decide +kernel) rw_117
      have rw_120 : RowIs S_34 R2 (ql A) 600 := RowIs_fr hO.1 haR2 hk_37.fr (by decide +kernel) pv_3
      have t_122 : At S_34 R2 5 := hk_37.fr.at haR2
      have rw_121 : RowIs S_108 R2 (ql A) 600 := RowIs_fr hO_40.1 t_122 hk_109.fr (by decide +kernel) rw_120
      have co_123 : CoP S_34 D (qpl A) (qsd A) := CoP_fr hk_37.fr hp_0 (by decide +kernel) pv_10
      have dt_125 : ∀ c, D c → At S_34 c 0 := fun c h => hk_37.fr.at (hp_0 c h)
      have co_124 : CoP S_108 D (qpl A) (qsd A) := CoP_fr hk_109.fr dt_125 (by decide +kernel) co_123
      have t_126 : pI S_34 405 x = (qst A) := hk_37.fr.I' (by decide +kernel) ha_x pv_4
      have t_127 : pI S_108 405 x = (qst A) := hk_109.fr.I' (by decide +kernel) t_104 t_126
      have t_128 : pI S_34 406 x = (qse A) := hk_37.fr.I' (by decide +kernel) ha_x pv_5
      have t_129 : pI S_108 406 x = (qse A) := hk_109.fr.I' (by decide +kernel) t_104 t_128
      have sg_130 : StV S_34 D Gs (qg A) := StV_fr hO.1 haGs hk_37.fr (by decide +kernel) pv_6
      have sg_131 : StV S_108 D Gs ([] : List Mt) := (StV_ba ba_113 sg_130)
      have t_132 : pI S_34 407 x = (qdr A) := hk_37.fr.I' (by decide +kernel) ha_x pv_7
      have t_133 : pI S_108 407 x = (qdr A) := hk_109.fr.I' (by decide +kernel) t_104 t_132
      have t_134 : pI S_34 408 x = (qtk A) := hk_37.fr.I' (by decide +kernel) ha_x pv_8
      have t_135 : pI S_108 408 x = (qtk A) := hk_109.fr.I' (by decide +kernel) t_104 t_134
      have sk_136 : SkV S_34 D s1 (qsk A) := (SkV_kw hO.1 ha_s1 kp_49 pv_9)
      have sk_137 : SkV S_108 D s1 (qsk A) := (SkV_ba hO_40.1 t_101 t_106 hk_109.fr ba_113 sk_136)
      have px_138 : PotX S S_34 x R0 R1 R2 Gs := PotX_fr (PotX_rf S x R0 R1 R2 Gs) (fun _ _ h => h) hO.1 hk_37.fr (by decide +kernel)
      have ax_140 : ∀ a k, At S a k → At S_34 a k := fun a k h => hk_37.fr.at ((fun _ _ h => h) a k h)
      have px_139 : PotX S S_108 x R0 R1 R2 Gs := PotX_st px_138 ax_140 hO_40.1 hk_109.fr (by decide +kernel) (StX_ba ba_113)
      exact ret_gi X hw hr hlocks (by show c_35 ≤ Phc S + 8; omega) (by show n_36 ≤ Phs S + 15019; omega) (by omega) (by omega) ⟨hO_112, ⟨z_lo _, z_hi _, PotV_of (cutF_w (fun z => by have e0 := congrArg List.length z; have e1 : ([] : List Mt).length = 0 := rfl; omega) kp_45) rw_115 rw_118 rw_121 t_127 t_129 sg_131 t_133 t_135 sk_137 co_124 (inD_cut pv_11), px_139, by rw [cutR_w (fun z => by have e0 := congrArg List.length z; have e1 : ([] : List Mt).length = 0 := rfl; omega) kp_45]; omega⟩⟩ dX4_cutStrand_37
  · have z_b_141 := trivial
    have k_142 : v_12.toInt = 0 := z_eq rfl ti_0 c_22
    refine lv_iconst (v := (-1)) X.1 X.2.1 dX4_cutStrand_10 (by decide) ?_
    exact ret_gi X hw hr hlocks (by show 0 ≤ Phc S + 8; omega) (by show 0 ≤ Phs S + 15019; omega) (by omega) (by omega) ⟨hO, ⟨z_lo _, z_hi _, PotV_of (cutF_n (List.eq_nil_of_length_eq_zero (by omega))) pv_1 pv_2 pv_3 pv_4 pv_5 pv_6 pv_7 pv_8 pv_9 pv_10 (inD_cut pv_11), (PotX_rf S x R0 R1 R2 Gs), by rw [cutR_n (List.eq_nil_of_length_eq_zero (by omega))]; decide⟩⟩ dX4_cutStrand_11
