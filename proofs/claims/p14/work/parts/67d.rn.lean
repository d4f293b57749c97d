/-! ===== rules ===== -/
def RuS (S : PS) (x : Nat) (R : List Ru) : Prop := ∃ ρ, pR S 409 x = some ρ ∧ RuIs S ρ R
theorem ru_at {S : PS} {x ρ : Nat} (hG : GX S) (hx : At S x 4) (h : pR S 409 x = some ρ) : At S ρ 6 := by
  obtain ⟨c, k1, k2⟩ := gQ_4_409 hG hx
  rw [k1] at h
  cases h
  exact k2
theorem RuS_fr {M : List Nat} {S T : PS} {x : Nat} {R : List Ru} (hG : GX S) (hx : At S x 4) (hF : Fr M S T) (hM : ([409, 600, 601, 602, 603, 604, 605, 606, 10034, 10134] : List Nat).all (fun g => !M.contains g) = true) (h : RuS S x R) : RuS T x R := by
  obtain ⟨ρ, h1, h2⟩ := h
  exact ⟨ρ, hF.R' (allc hM (by decide)) hx h1, RuIs_fr hG (ru_at hG hx h1) hF (List.all_eq_true.mpr (fun g hg => List.all_eq_true.mp hM g (List.mem_cons_of_mem _ hg))) h2⟩
theorem RuS_sI {S T : PS} {x g a : Nat} {v : Int32} {R : List Ru} (h : RuS S x R) (e : T = sI S g a v) (hg : 600 ≠ g) : RuS T x R := by
  obtain ⟨ρ, h1, h2⟩ := h
  exact ⟨ρ, by rw [e]; exact h1, RuIs_sI h2 e hg⟩
theorem allP_of {E : En} {A : Pt} {L : List (Int32 × Int32 × Int32)} (h : ∀ (j : Nat) (c : Int32 × Int32 × Int32), L[j]? = some c → relP c.2.1 (valF E A c.1) c.2.2.toInt) : allP E A L := fun c hc => by
  obtain ⟨j, hj⟩ := List.mem_iff_getElem?.mp hc
  exact h j c hj
theorem inD_act {E : En} {D : Nat → Prop} {A : Pt} {a m : Int32} (h : InD D A) : InD D (actF E a m A) := by
  unfold actF
  split
  · exact inD_cas h
  · split
    · exact inD_dro h
    · split
      · exact inD_fnd h
      · split
        · exact inD_thr h
        · split
          · exact inD_cut h
          · exact h
def cutR (A : Pt) : Int := if qg A = [] then -1 else if (qsk A).length < 40 then ((qsk A).length : Int) else -2
theorem cutR_n {A : Pt} (h : qg A = []) : cutR A = -1 := if_pos h
theorem cutR_k {A : Pt} (h : qg A ≠ []) (h2 : (qsk A).length < 40) : cutR A = ((qsk A).length : Int) := (if_neg h).trans (if_pos h2)
theorem cutR_w {A : Pt} (h : qg A ≠ []) (h2 : ¬ (qsk A).length < 40) : cutR A = -2 := (if_neg h).trans (if_neg h2)
/-- a metre of a cocoon is drawn -/
def DrO (S T : PS) (x : Nat) : Prop := ((pI S 2 x).toInt ≤ (pI S 4 x + 1).toInt ∧ T = sI (sI S 4 x (pI S 4 x + 1)) 3 x 4) ∨ (¬ (pI S 2 x).toInt ≤ (pI S 4 x + 1).toInt ∧ brI (pI S 7 x) (pI S 9 x) (pI S 1 x) (pI S 4 x) ∧ T = sI (sI S 4 x (pI S 4 x + 1)) 3 x 3) ∨ (¬ (pI S 2 x).toInt ≤ (pI S 4 x + 1).toInt ∧ ¬ brI (pI S 7 x) (pI S 9 x) (pI S 1 x) (pI S 4 x) ∧ T = sI S 4 x (pI S 4 x + 1))
noncomputable def sdV (E : En) (A : Pt) (c : Nat) : Int32 := if (elen E c).toInt ≤ (qpl A c + 1).toInt then 4 else @ite Int32 (ebr E c (qpl A c)) (Classical.propDecidable _) 3 (qsd A c)
theorem endF_2 {E : En} {A : Pt} {c : Nat} (h : sdV E A c = 2) : endF E A c = we (wsd (wpl A (fuI (qpl A) c (qpl A c + 1))) (fuI (qsd A) c (sdV E A c))) (capL 12 (qe A) c) := if_pos h
theorem endF_3 {E : En} {A : Pt} {c : Nat} (h : sdV E A c = 3) : endF E A c = wl (wsd (wpl A (fuI (qpl A) c (qpl A c + 1))) (fuI (qsd A) c (sdV E A c))) (capL 600 (ql A) c) := (if_neg (show ¬ sdV E A c = 2 by rw [h]; decide)).trans (if_pos h)
theorem endF_n {E : En} {A : Pt} {c : Nat} (h2 : sdV E A c ≠ 2) (h3 : sdV E A c ≠ 3) : endF E A c = wsd (wpl A (fuI (qpl A) c (qpl A c + 1))) (fuI (qsd A) c (sdV E A c)) := (if_neg h2).trans (if_neg h3)
theorem inD_end {E : En} {D : Nat → Prop} {A : Pt} {c : Nat} (h : InD D A) (hc : D c) : InD D (endF E A c) := by
  by_cases h2 : sdV E A c = 2
  · rw [endF_2 h2]
    intro d hd
    rcases hd with z | z | z
    · exact h d (Or.inl z)
    · rcases capL_mem (show d ∈ capL 12 (qe A) c from z) with y | y
      · exact h d (Or.inr (Or.inl y))
      · rw [y]; exact hc
    · exact h d (Or.inr (Or.inr z))
  · by_cases h3 : sdV E A c = 3
    · rw [endF_3 h3]
      intro d hd
      rcases hd with z | z | z
      · exact h d (Or.inl z)
      · exact h d (Or.inr (Or.inl z))
      · rcases capL_mem (show d ∈ capL 600 (ql A) c from z) with y | y
        · exact h d (Or.inr (Or.inr y))
        · rw [y]; exact hc
    · rw [endF_n h2 h3]; exact h
/-- what a drawn metre does to places and stands -/
theorem DrO_co {S T : PS} {D : Nat → Prop} {P K x : Nat} {E : En} {A : Pt} (hE : EnC S D P K E) (hc : CoP S D (qpl A) (qsd A)) (hd : D x) (h : DrO S T x) : CoP T D (fuI (qpl A) x (qpl A x + 1)) (fuI (qsd A) x (sdV E A x)) ∧ pI T 3 x = sdV E A x := by
  obtain ⟨e1, -, e3⟩ := hE.1 x hd
  obtain ⟨c4, c3⟩ := hc x hd
  have key : ∀ v : Int32, (∀ g a, pI T g a = if a = x then (if g = 4 then pI S 4 x + 1 else if g = 3 then v else pI S g x) else pI S g a) → v = sdV E A x → CoP T D (fuI (qpl A) x (qpl A x + 1)) (fuI (qsd A) x (sdV E A x)) ∧ pI T 3 x = sdV E A x := by
    intro v hT hv
    refine ⟨fun c hc2 => ?_, by rw [hT 3 x, if_pos rfl, if_neg (by decide), if_pos rfl]; exact hv⟩
    unfold fuI
    rw [hT 4 c, hT 3 c]
    by_cases z : c = x
    · rw [if_pos z, if_pos z, if_pos z, if_pos z, if_pos rfl, if_neg (by decide), if_pos rfl, c4]
      exact ⟨rfl, hv⟩
    · rw [if_neg z, if_neg z, if_neg z, if_neg z]
      exact hc c hc2
  have s1 : ∀ g a, pI (sI S 4 x (pI S 4 x + 1)) g a = if a = x then (if g = 4 then pI S 4 x + 1 else pI S g x) else pI S g a := fun g a => by
    by_cases z : a = x
    · subst z
      rw [if_pos rfl]
      by_cases y : g = 4
      · subst y; rw [if_pos rfl]; exact pI_sI_same
      · rw [if_neg y]; exact pI_sI_nf y
    · rw [if_neg z]; exact pI_sI_ne z
  have s2 : ∀ v : Int32, ∀ g a, pI (sI (sI S 4 x (pI S 4 x + 1)) 3 x v) g a = if a = x then (if g = 4 then pI S 4 x + 1 else if g = 3 then v else pI S g x) else pI S g a := fun v g a => by
    by_cases z : a = x
    · subst z
      rw [if_pos rfl]
      by_cases y : g = 3
      · subst y; rw [if_neg (by decide), if_pos rfl]; exact pI_sI_same
      · rw [pI_sI_nf y, s1, if_pos rfl, if_neg y]
    · rw [if_neg z, pI_sI_ne z, s1, if_neg z]
  unfold sdV at *
  rcases h with ⟨h1, h2⟩ | ⟨h1, h2, h3⟩ | ⟨h1, h2, h3⟩
  · rw [c4] at h1
    exact key 4 (by rw [h2]; exact s2 4) (by rw [e1, if_pos h1])
  · rw [c4] at h1 h2
    exact key 3 (by rw [h3]; exact s2 3) (by rw [e1, if_neg h1, if_pos ((e3 _).mpr h2)])
  · rw [c4] at h1 h2
    refine key (qsd A x) (fun g a => ?_) (by rw [e1, if_neg h1, if_neg (fun z => h2 ((e3 _).mp z))])
    rw [h3, s1]
    by_cases z : a = x
    · subst z
      rw [if_pos rfl, if_pos rfl]
      by_cases y : g = 4
      · rw [if_pos y, if_pos y]
      · rw [if_neg y, if_neg y]
        by_cases y3 : g = 3
        · subst y3; rw [if_pos rfl]; exact c3
        · rw [if_neg y3]
    · rw [if_neg z, if_neg z]
theorem inD_tl {D : Nat → Prop} {A : Pt} {c : Nat} {t : List Nat} (h : InD D A) (e : qe A = c :: t) : InD D (we A t) := fun d hd => by
  rcases hd with z | z | z
  · exact h d (Or.inl z)
  · exact h d (Or.inr (Or.inl (by rw [e]; exact List.mem_cons_of_mem _ z)))
  · exact h d (Or.inr (Or.inr z))
theorem inD_stp {E : En} {D : Nat → Prop} {A : Pt} (h : InD D A) : InD D (stpF E A) := by
  cases e : qe A with
  | nil => rw [stpF_n e]; exact h
  | cons c t =>
    rw [stpF_c e]
    have hc : c ∈ qe A := by rw [e]; exact List.mem_cons_self
    exact inD_end (A := we A t) (fun d hd => by
      rcases hd with z | z | z
      · exact h d (Or.inl z)
      · exact h d (Or.inr (Or.inl (by rw [e]; exact List.mem_cons_of_mem _ z)))
      · exact h d (Or.inr (Or.inr z))) (h c (Or.inr (Or.inl hc)))
theorem inD_ends {E : En} {D : Nat → Prop} {A : Pt} (h : InD D A) : ∀ n, InD D (endsF E n A)
  | 0 => h
  | n + 1 => inD_stp (inD_ends h n)
theorem inD_ru {E : En} {D : Nat → Prop} {A : Pt} {r : Ru} (h : InD D A) : InD D (ruF E A r) := by
  by_cases e : allP E A r.2.2
  · rw [ruF_y e]; exact inD_act h
  · rw [ruF_n e]; exact h
theorem inD_rus {E : En} {D : Nat → Prop} : ∀ {R : List Ru} {A : Pt}, InD D A → InD D (rusF E A R)
  | [], _, h => h
  | r :: t, A, h => inD_rus (R := t) (A := ruF E A r) (inD_ru h)
/-! ===== the tick, in pieces ===== -/
noncomputable def drwB (E : En) (A : Pt) : Pt := endsF E (qe A).length (wdr (wg A (capG (qg A) ((qe A).map (fun c => (c, qpl A c))))) (qdr A + 1))
theorem drwF_c {E : En} {A : Pt} (h : 300 ≤ (qg (drwB E A)).length) : drwF E A = cutF E (drwB E A) := if_pos h
theorem drwF_n {E : En} {A : Pt} (h : ¬ 300 ≤ (qg (drwB E A)).length) : drwF E A = drwB E A := if_neg h
theorem inD_drw {E : En} {D : Nat → Prop} {A : Pt} (h : InD D A) : InD D (drwF E A) := by
  have hB : InD D (drwB E A) := inD_ends (A := wdr (wg A (capG (qg A) ((qe A).map (fun c => (c, qpl A c))))) (qdr A + 1)) h _
  by_cases e : 300 ≤ (qg (drwB E A)).length
  · rw [drwF_c e]; exact inD_cut hB
  · rw [drwF_n e]; exact hB
noncomputable def ticB (E : En) (R : List Ru) (A : Pt) : Pt := if qst (seaF E (wtk A (qtk A + 1))) = 0 then rusF E (seaF E (wtk A (qtk A + 1))) R else seaF E (wtk A (qtk A + 1))
theorem ticF_s {E : En} {R : List Ru} {A : Pt} (h : 0 < (qst (ticB E R A)).toInt) : ticF E R A = (wst (ticB E R A) (qst (ticB E R A) - 1), False) := if_pos h
theorem ticF_0 {E : En} {R : List Ru} {A : Pt} (h : ¬ 0 < (qst (ticB E R A)).toInt) (h2 : qe (ticB E R A) = []) : ticF E R A = (ticB E R A, False) := (if_neg h).trans (if_pos h2)
theorem ticF_d {E : En} {R : List Ru} {A : Pt} (h : ¬ 0 < (qst (ticB E R A)).toInt) (h2 : qe (ticB E R A) ≠ []) : ticF E R A = (drwF E (ticB E R A), True) := (if_neg h).trans (if_neg h2)
theorem inD_tic {E : En} {R : List Ru} {D : Nat → Prop} {A : Pt} (h : InD D A) : InD D (ticF E R A).1 := by
  have hB : InD D (ticB E R A) := by
    unfold ticB
    split
    · exact inD_rus (inD_sea (A := wtk A (qtk A + 1)) h)
    · exact inD_sea (A := wtk A (qtk A + 1)) h
  by_cases h1 : 0 < (qst (ticB E R A)).toInt
  · rw [ticF_s h1]; exact hB
  · by_cases h2 : qe (ticB E R A) = []
    · rw [ticF_0 h1 h2]; exact hB
    · rw [ticF_d h1 h2]; exact inD_drw hB

set_option maxHeartbeats 4000000 in
set_option maxRecDepth 100000 in
theorem k_X8_keep5 (l : Launch) (G : va_G) (cy : Nat → ClassId) (κ : Nat → Nat) (S : PS) (sz hz : Nat) (x : Nat) (g1 : Nat) (a1 : Int32) (a1_z : Int) (a2 : Int32) (a2_z : Int) (hG : GX S) (ha_x : At S x 8) (ha_g1 : At S g1 29) (hz_a1 : a1.toInt = a1_z) (hz_a2 : a2.toInt = a2_z) : Gi l yX8_keep wsX8_keep ({ frames := 4, cells := Phc S + 8, slots := Phs S + 15019, locals := 192 }) G cy κ S sz hz 0 0 [.ref x, .ref g1, .int (a1), .int (a2)] (fun (r : Int32) (S9 : PS) => Og eKE S S9 ∧ (-2147483648 ≤ r.toInt ∧ r.toInt ≤ 2147483647 ∧ ((pI S 800 x).toInt < 40 → r.toInt = (pI S 800 x).toInt ∧ (pI S9 800 x).toInt = (pI S 800 x).toInt + 1) ∧ (¬ (pI S 800 x).toInt < 40 → r.toInt = -2 ∧ (pI S9 800 x).toInt = (pI S 800 x).toInt))) := by
  refine ent_g (cc := cX8_keep) (maxL := 4) (ret := (some .int)) (by decide) rfl (Nat.le_of_ble_eq_true rfl) ?_
  intro p e s m below meth c ls X hr hlocks hin hw hl hsz hhz
  subst hsz hhz
  have X : Cx p c cX8_keep 4 s [.ref x, .ref g1, .int (a1), .int (a2)].toArray wsX8_keep RX8 m G cy κ (AS S s.heap.size) := X
  have hl : lv_has ls 4 [(0, .ref x), (1, .ref g1), (2, .int (a1)), (3, .int (a2))] := hl
  have rg_a1 : (-2147483648) ≤ a1_z ∧ a1_z ≤ 2147483647 := by rw [← hz_a1]; exact ⟨z_lo _, z_hi _⟩
  have rg_a2 : (-2147483648) ≤ a2_z ∧ a2_z ≤ 2147483647 := by rw [← hz_a2]; exact ⟨z_lo _, z_hi _⟩
  have hpc0 : 0 + Phc S ≤ Phc S + 0 := by omega
  have hps0 : 0 + Phs S ≤ Phs S + 0 := by omega
  have hO : Og eKE S S := Og.rf hG
  obtain ⟨v_1, ev_1⟩ : ∃ v, pI S 800 x = v := ⟨_, rfl⟩
  have rg_2 := gI_8_800 hO.1 ha_x; rw [ev_1] at rg_2
  have pz_3 : (pI S 800 x).toInt = v_1.toInt := by rw [ev_1]
  have pz_4 : (pI S 800 x).toInt = v_1.toInt := (congrArg Int32.toInt ev_1).trans rfl
  refine lv_aload_n X.1 X.2.1 dX8_keep_0 rfl (lv_at hl 0 rfl) ?_
  refine r_getI (g := 800) (x := v_1) X hw ha_x rfl 0 ev_1 (by decide) rfl inn_X8_keep_8 (by decide) (X.2.2.2.1 (.fieldLink RX8 37 "SilkMill$Store" "kept" "I") (by decide +kernel)) rfl (gv_800 _ _) dX8_keep_1 ?_
  refine lv_bipush (v := 40) X.1 X.2.1 dX8_keep_4 (by decide) ?_
  refine lv_icmp_lt (tgt := 25) X.1 X.2.1 dX8_keep_6 (by decide) (fun c_5 => ?_) (fun c_5 => ?_)
  · have z_b_6 := trivial
    have k_7 : v_1.toInt < 40 := z_lt rfl ti_40 c_5
    refine lv_aload_n X.1 X.2.1 dX8_keep_25 rfl (lv_at hl 0 rfl) ?_
    obtain ⟨q_8, h_9, h_10, h_11⟩ := gQ_8_808 hO.1 ha_x
    refine r_getR (g := 808) X hw ha_x rfl 8 h_9 (by decide) rfl inn_X8_keep_8 (by decide) (X.2.2.2.1 (.fieldLink RX8 17 "SilkMill$Store" "skeins" "[LSilkMill$Skein;") (by decide +kernel)) rfl (gv_808 _ _) dX8_keep_26 ?_
    refine lv_aload_n X.1 X.2.1 dX8_keep_29 rfl (lv_at hl 0 rfl) ?_
    refine r_getI (g := 800) (x := v_1) X hw ha_x rfl 0 ev_1 (by decide) rfl inn_X8_keep_8 (by decide) (X.2.2.2.1 (.fieldLink RX8 37 "SilkMill$Store" "kept" "I") (by decide +kernel)) rfl (gv_800 _ _) dX8_keep_30 ?_
    have ph_13 : 1 + Phc S ≤ Phc S + 1 := by omega
    have ph_14 : 10 + Phs S ≤ Phs S + 10 := by omega
    clear hpc0
    clear hps0
    refine r_new X hw 187 7 10 1 rfl tyX7 (by decide) rfl inn_X8_keep_7 tyX7_ok (X.2.2.2.1 (.classLink RX8 15 RX7) (by decide +kernel)) (X.2.2.2.1 (.instantiable RX7 10) (by decide +kernel)) (X.2.2.2.1 (.initialized RX7) (by decide +kernel)) (zo_7 _) zd_7 (by show 0 + 1 ≤ 1; omega) (by show 0 + 10 ≤ 10; omega) (by show 1 ≤ Phc S + 8; omega) (by show 10 ≤ Phs S + 15019; omega) dX8_keep_33 (fun q_12 H hq_12 hw => ?_)
    obtain ⟨S_15, eS_15⟩ : ∃ T, T = sO S q_12 187 := ⟨_, rfl⟩
    rw [← eS_15] at hw
    have ph_16 : 1 + Phc S_15 ≤ Phc S + 1 := by rw [show Phc S_15 = Phc S from Ph_sO hO.1 hq_12 eS_15 (by decide)]; exact ph_13
    have ph_17 : 10 + Phs S_15 ≤ Phs S + 10 := by rw [show Phs S_15 = Phs S from Ph_sO hO.1 hq_12 eS_15 (by decide)]; exact ph_14
    clear ph_13
    clear ph_14
    have hO_18 : Og eKE S S_15 := hO.sO hq_12 eS_15 (by decide +kernel)
    have hn0_q_12 : q_12 ∉ pL S := fun z => hq_12 (hO.fr.1 q_12 z).1
    have ha_19 : At S_15 q_12 187 := by rw [eS_15]; exact At_nO _ _ _
    have hzI_q_12 : ∀ g, pI S_15 g q_12 = 0 := fun g => by rw [eS_15]; exact pI_sO_new
    have hzR_q_12 : ∀ g, pR S_15 g q_12 = none := fun g => by rw [eS_15]; exact if_pos rfl
    refine lv_dup X.1 X.2.1 dX8_keep_36 rfl ?_
    have ph_21 : 2 + Phc S_15 ≤ Phc S + 2 := by omega
    have ph_22 : 19 + Phs S_15 ≤ Phs S + 19 := by omega
    clear ph_16
    clear ph_17
    refine r_new X hw 189 9 19 2 rfl tyX9 (by decide) rfl inn_X8_keep_9 tyX9_ok (X.2.2.2.1 (.classLink RX8 45 RX9) (by decide +kernel)) (X.2.2.2.1 (.instantiable RX9 9) (by decide +kernel)) (X.2.2.2.1 (.initialized RX9) (by decide +kernel)) (zo_9 _) zd_9 (by show 1 + 1 ≤ 2; omega) (by show 10 + 9 ≤ 19; omega) (by show 2 ≤ Phc S + 8; omega) (by show 19 ≤ Phs S + 15019; omega) dX8_keep_37 (fun q_20 H hq_20 hw => ?_)
    obtain ⟨S_23, eS_23⟩ : ∃ T, T = sO S_15 q_20 189 := ⟨_, rfl⟩
    rw [← eS_23] at hw
    have ph_24 : 2 + Phc S_23 ≤ Phc S + 2 := by rw [show Phc S_23 = Phc S_15 from Ph_sO hO_18.1 hq_20 eS_23 (by decide)]; exact ph_21
    have ph_25 : 19 + Phs S_23 ≤ Phs S + 19 := by rw [show Phs S_23 = Phs S_15 from Ph_sO hO_18.1 hq_20 eS_23 (by decide)]; exact ph_22
    clear ph_21
    clear ph_22
    have hO_26 : Og eKE S S_23 := hO_18.sO hq_20 eS_23 (by decide +kernel)
    have hn0_q_20 : q_20 ∉ pL S := fun z => hq_20 (hO_18.fr.1 q_20 z).1
    have ha_27 : At S_23 q_20 189 := by rw [eS_23]; exact At_nO _ _ _
    have hzI_q_20 : ∀ g, pI S_23 g q_20 = 0 := fun g => by rw [eS_23]; exact pI_sO_new
    have hzR_q_20 : ∀ g, pR S_23 g q_20 = none := fun g => by rw [eS_23]; exact if_pos rfl
    refine lv_dup X.1 X.2.1 dX8_keep_40 rfl ?_
    refine lv_aload_n X.1 X.2.1 dX8_keep_41 rfl (lv_at hl 1 rfl) ?_
    have t_28 : At S_15 g1 29 := by rw [eS_15]; exact At_sO ha_g1 hq_12
    have t_29 : At S_23 g1 29 := by rw [eS_23]; exact At_sO t_28 hq_20
    have ph_30 : 8 + Phc S_23 ≤ Phc S + 8 := by omega
    have ph_31 : 15019 + Phs S_23 ≤ Phs S + 15019 := by omega
    clear ph_24
    clear ph_25
    refine k_v (rm := { frames := 3, cells := 6, slots := 15000, locals := 144 }) (av := [.ref q_20, .ref g1]) X hw (va_runI (As := [.ref g1]) (rest := [.ref q_20, .ref q_12, .ref q_12, .int (v_1), .ref q_8]) (cfix X) (k_X9_init_ l G cy κ S_23 _ q_20 g1 hO_26.1 ha_27 t_29 hzI_q_20 hzR_q_20) (cwI 1 X.2.2.2.1 gX8_keep_X9_init_ rfl rfl rfl (X.2.2.2.1 (.initialized RX9) (by decide +kernel)) (X.2.2.2.1 (.methodLink RX8 49 yX9_init_) (by decide +kernel)) (X.2.2.2.1 (.instanceMethod yX9_init_) (by decide +kernel)) rfl (by decide +kernel) ⟨Nat.le_of_ble_eq_true rfl, Nat.le_of_ble_eq_true rfl⟩) (pre_S X hw _) rfl rfl hl.1 rfl (lv_room (Nat.le_of_ble_eq_true rfl)) dX8_keep_42 ⟨(by show 2 + 6 ≤ Phc S + 8; omega), (by show 19 + 15000 ≤ Phs S + 15019; omega)⟩) 8 15019 (by show 2 + 6 ≤ 8; omega) (by show 19 + 15000 ≤ 15019; omega) (fun S_33 H locs hp hw hfr hnw => ?_)
    obtain ⟨hK_34, hg_35, ha_36, ph_37, ph_38⟩ := hp
    have ph_39 : 8 + Phc S_33 ≤ Phc S + 8 := by omega
    have ph_40 : 15019 + Phs S_33 ≤ Phs S + 15019 := by omega
    clear ph_30
    clear ph_31
    clear ph_37
    clear ph_38
    have hO_41 : Og eKE S S_33 := Og_ctor2 hO_26 hn0_q_20 hK_34 hg_35
    refine lv_iload_n X.1 X.2.1 dX8_keep_45 rfl (lv_at hl 2 rfl) ?_
    refine lv_iload_n X.1 X.2.1 dX8_keep_46 rfl (lv_at hl 3 rfl) ?_
    refine lv_aload_n X.1 X.2.1 dX8_keep_47 rfl (lv_at hl 0 rfl) ?_
    have t_42 : At S_15 x 8 := by rw [eS_15]; exact At_sO ha_x hq_12
    have t_43 : At S_23 x 8 := by rw [eS_23]; exact At_sO t_42 hq_20
    have t_44 : At S_33 x 8 := hK_34.at ha_27 t_43 (by decide)
    obtain ⟨v_45, ev_45⟩ : ∃ v, pI S_33 801 x = v := ⟨_, rfl⟩
    have rg_47 := And.intro (z_lo v_45) (z_hi v_45)
    have pz_48 : (pI S_33 801 x).toInt = v_45.toInt := by rw [ev_45]
    refine r_getI (g := 801) (x := v_45) X hw t_44 rfl 1 ev_45 (by decide) rfl inn_X8_keep_8 (by decide) (X.2.2.2.1 (.fieldLink RX8 52 "SilkMill$Store" "today" "I") (by decide +kernel)) rfl (gv_801 _ _) dX8_keep_48 ?_
    have t_49 : At S_23 q_12 187 := by rw [eS_23]; exact At_sO ha_19 hq_20
    have t_50 : At S_33 q_12 187 := hK_34.at ha_27 t_49 (by decide)
    have hzI_51 : ∀ g, pI S_23 g q_12 = 0 := fun g => by rw [eS_23]; exact (pI_sO_ne (ne_of_new hq_20 ha_19.1)).trans (hzI_q_12 g)
    have hzR_52 : ∀ g, pR S_23 g q_12 = none := fun g => by rw [eS_23]; exact (pR_sO_ne (ne_of_new hq_20 ha_19.1)).trans (hzR_q_12 g)
    have t_55 : At S_23 q_12 187 := by rw [eS_23]; exact At_sO ha_19 hq_20
    have hzI_53 : ∀ g, pI S_33 g q_12 = 0 := fun g => (((hK_34 q_12 t_55.1).2 (At_ne t_55 ha_27 (by decide))).2.1 g).trans (hzI_51 g)
    have hzR_54 : ∀ g, pR S_33 g q_12 = none := fun g => (((hK_34 q_12 t_55.1).2 (At_ne t_55 ha_27 (by decide))).2.2.1 g).trans (hzR_52 g)
    refine k_v (rm := { frames := 2, cells := 0, slots := 0, locals := 96 }) (av := [.ref q_12, .ref q_20, .int (a1), .int (a2), .int (v_45)]) X hw (va_runI (As := [.ref q_20, .int (a1), .int (a2), .int (v_45)]) (rest := [.ref q_12, .int (v_1), .ref q_8]) (cfix X) (k_X7_init l G cy κ S_33 _ q_12 q_20 (a1) (a1_z) (a2) (a2_z) (v_45) (v_45.toInt) hO_41.1 t_50 ha_36 hz_a1 hz_a2 rfl hzI_53 hzR_54) (cwI 4 X.2.2.2.1 gX8_keep_X7_init rfl rfl rfl (X.2.2.2.1 (.initialized RX7) (by decide +kernel)) (X.2.2.2.1 (.methodLink RX8 55 yX7_init) (by decide +kernel)) (X.2.2.2.1 (.instanceMethod yX7_init) (by decide +kernel)) rfl (by decide +kernel) ⟨Nat.le_of_ble_eq_true rfl, Nat.le_of_ble_eq_true rfl⟩) (pre_S X hw _) rfl rfl hl.1 rfl (lv_room (Nat.le_of_ble_eq_true rfl)) dX8_keep_51 ⟨(by show 8 + 0 ≤ Phc S + 8; omega), (by show 15019 + 0 ≤ Phs S + 15019; omega)⟩) 8 15019 (by show 8 + 0 ≤ 8; omega) (by show 15019 + 0 ≤ 15019; omega) (fun S_57 H locs hp hw hfr hnw => ?_)
    obtain ⟨hK_58, hg_59, ha_60, ph_61, ph_62⟩ := hp
    have ph_63 : 8 + Phc S_57 ≤ Phc S + 8 := by omega
    have ph_64 : 15019 + Phs S_57 ≤ Phs S + 15019 := by omega
    clear ph_39
    clear ph_40
    clear ph_61
    clear ph_62
    have hO_65 : Og eKE S S_57 := Og_ctor2 hO_41 hn0_q_12 hK_58 hg_59
    have t_66 : At S_15 q_8 19 := by rw [eS_15]; exact At_sO h_10 hq_12
    have t_67 : At S_23 q_8 19 := by rw [eS_23]; exact At_sO t_66 hq_20
    have t_68 : At S_33 q_8 19 := hK_34.at ha_27 t_67 (by decide)
    have t_69 : At S_57 q_8 19 := hK_58.at t_50 t_68 (by decide)
    have t_70 : pN S_15 q_8 = 40 := by rw [eS_15, pN_sO]; exact h_11
    clear h_11
    have t_71 : pN S_23 q_8 = 40 := by rw [eS_23, pN_sO]; exact t_70
    clear t_70
    have t_73 : At S_15 q_8 19 := by rw [eS_15]; exact At_sO h_10 hq_12
    have t_74 : At S_23 q_8 19 := by rw [eS_23]; exact At_sO t_73 hq_20
    have t_72 : pN S_33 q_8 = 40 := ((hK_34 q_8 t_74.1).2 (At_ne t_74 ha_27 (by decide))).2.2.2.1.trans t_71
    clear t_71
    have t_76 : At S_33 q_8 19 := hK_34.at ha_27 t_74 (by decide)
    have t_75 : pN S_57 q_8 = 40 := ((hK_58 q_8 t_76.1).2 (At_ne t_76 t_50 (by decide))).2.2.2.1.trans t_72
    clear t_72
    refine r_aast X hw t_69 rfl ha_60 rfl (by decide) (by decide) rfl rfl (by rw [t_75]; exact z_ix rfl (by omega) (by omega)) dX8_keep_54 (fun H locs hw => ?_)
    obtain ⟨S_77, eS_77⟩ : ∃ T, T = sB S_57 q_8 (va_up (pB S_57 q_8) (Int32.toNatClampNeg (v_1)) (some q_12)) := ⟨_, rfl⟩
    rw [← eS_77] at hw
    have ph_78 : 8 + Phc S_77 ≤ Phc S + 8 := by rw [show Phc S_77 = Phc S_57 from Ph_sB eS_77]; exact ph_63
    have ph_79 : 15019 + Phs S_77 ≤ Phs S + 15019 := by rw [show Phs S_77 = Phs S_57 from Ph_sB eS_77]; exact ph_64
    clear ph_63
    clear ph_64
    have hO_80 : Og eKE S S_77 := hO_65.sB eS_77 t_69 (by decide +kernel) (uB_19 hO_65.1 t_69 (fun q hq => by cases hq; exact ha_60))
    refine lv_aload_n X.1 X.2.1 dX8_keep_55 rfl (lv_at hl 0 rfl) ?_
    refine lv_dup X.1 X.2.1 dX8_keep_56 rfl ?_
    have t_81 : At S_57 x 8 := hK_58.at t_50 t_44 (by decide)
    have t_82 : At S_77 x 8 := tAt_sB eS_77 t_81
    obtain ⟨v_83, ev_83⟩ : ∃ v, pI S_77 803 x = v := ⟨_, rfl⟩
    have rg_85 := And.intro (z_lo v_83) (z_hi v_83)
    have pz_86 : (pI S_77 803 x).toInt = v_83.toInt := by rw [ev_83]
    refine r_getI (g := 803) (x := v_83) X hw t_82 rfl 3 ev_83 (by decide) rfl inn_X8_keep_8 (by decide) (X.2.2.2.1 (.fieldLink RX8 58 "SilkMill$Store" "silkKept" "I") (by decide +kernel)) rfl (gv_803 _ _) dX8_keep_57 ?_
    refine lv_aload_n X.1 X.2.1 dX8_keep_60 rfl (lv_at hl 1 rfl) ?_
    have t_87 : At S_33 g1 29 := hK_34.at ha_27 t_29 (by decide)
    have t_88 : At S_57 g1 29 := hK_58.at t_50 t_87 (by decide)
    have t_89 : At S_77 g1 29 := tAt_sB eS_77 t_88
    obtain ⟨v_90, ev_90⟩ : ∃ v, pI S_77 903 g1 = v := ⟨_, rfl⟩
    have rg_92 := And.intro (z_lo v_90) (z_hi v_90)
    have pz_93 : (pI S_77 903 g1).toInt = v_90.toInt := by rw [ev_90]
    refine r_getI (g := 903) (x := v_90) X hw t_89 rfl 3 ev_90 (by decide) rfl inn_X8_keep_9 (by decide) (X.2.2.2.1 (.fieldLink RX8 44 "SilkMill$Strand" "silk" "I") (by decide +kernel)) rfl (gv_903 _ _) dX8_keep_61 ?_
    refine lv_iadd X.1 X.2.1 dX8_keep_64 ?_
    refine lv_topi (fun v_94 ev_94 => ?_)
    have rg_95 := And.intro (z_lo v_94) (z_hi v_94)
    refine r_putI (v := v_94) X hw t_82 rfl 3 803 tyX8 (by decide) rfl inn_X8_keep_8 tyX8_ok nmX8 (by decide) (X.2.2.2.1 (.fieldLink RX8 58 "SilkMill$Store" "silkKept" "I") (by decide +kernel)) rfl (Or.inl rfl) rfl rfl (Nat.le_of_ble_eq_true rfl) (st_803 _ _) dX8_keep_65 (fun H locs hw => ?_)
    obtain ⟨S_96, eS_96⟩ : ∃ T, T = sI S_77 803 x (v_94) := ⟨_, rfl⟩
    rw [← eS_96] at hw
    have ph_97 : 8 + Phc S_96 ≤ Phc S + 8 := by rw [show Phc S_96 = Phc S_77 from Ph_sI eS_96 rfl rfl]; exact ph_78
    have ph_98 : 15019 + Phs S_96 ≤ Phs S + 15019 := by rw [show Phs S_96 = Phs S_77 from Ph_sI eS_96 rfl rfl]; exact ph_79
    clear ph_78
    clear ph_79
    have hO_99 : Og eKE S S_96 := hO_80.sI eS_96 (by decide +kernel) (uI_8_803 hO_80.1 t_82)
    have h_100 : pI S_96 803 x = v_94 := tI_sIs eS_96
    refine lv_aload_n X.1 X.2.1 dX8_keep_68 rfl (lv_at hl 0 rfl) ?_
    refine lv_dup X.1 X.2.1 dX8_keep_69 rfl ?_
    have t_101 : At S_96 x 8 := tAt_sI eS_96 t_82
    have t_102 : pI S_15 800 x = v_1 := by rw [eS_15]; exact (pI_sO_ne (ne_of_new hq_12 ha_x.1)).trans ev_1
    have t_104 : At S_15 x 8 := by rw [eS_15]; exact At_sO ha_x hq_12
    have t_103 : pI S_23 800 x = v_1 := by rw [eS_23]; exact (pI_sO_ne (ne_of_new hq_20 t_104.1)).trans t_102
    have t_106 : At S_23 x 8 := by rw [eS_23]; exact At_sO t_104 hq_20
    have t_105 : pI S_33 800 x = v_1 := (((hK_34 x t_106.1).2 (At_ne t_106 ha_27 (by decide))).2.1 800).trans t_103
    have t_107 : pI S_57 800 x = v_1 := (((hK_58 x t_44.1).2 (At_ne t_44 t_50 (by decide))).2.1 800).trans t_105
    have t_108 : pI S_77 800 x = v_1 := tI_sB eS_77 t_107
    have t_109 : pI S_96 800 x = v_1 := tI_sI eS_96 rfl t_108
    refine r_getI (g := 800) (x := v_1) X hw t_101 rfl 0 t_109 (by decide) rfl inn_X8_keep_8 (by decide) (X.2.2.2.1 (.fieldLink RX8 37 "SilkMill$Store" "kept" "I") (by decide +kernel)) rfl (gv_800 _ _) dX8_keep_70 ?_
    refine lv_iconst (v := 1) X.1 X.2.1 dX8_keep_73 (by decide) ?_
    refine lv_iadd X.1 X.2.1 dX8_keep_74 ?_
    refine lv_topi (fun v_110 ev_110 => ?_)
    have z_111 : v_110.toInt = v_1.toInt + 1 := z_add ev_110 rfl ti_1 (by omega) (by omega)
    have pz_112 : (pI S_96 800 x).toInt = v_1.toInt := (congrArg Int32.toInt t_109).trans rfl
    have nd_113 := nodup_of hw
    refine r_putI (v := v_110) X hw t_101 rfl 0 800 tyX8 (by decide) rfl inn_X8_keep_8 tyX8_ok nmX8 (by decide) (X.2.2.2.1 (.fieldLink RX8 37 "SilkMill$Store" "kept" "I") (by decide +kernel)) rfl (Or.inl rfl) rfl rfl (Nat.le_of_ble_eq_true rfl) (st_800 _ _) dX8_keep_75 (fun H locs hw => ?_)
    obtain ⟨S_114, eS_114⟩ : ∃ T, T = sI S_96 800 x (v_110) := ⟨_, rfl⟩
    rw [← eS_114] at hw
    have ph_115 : Phc S_114 + (40 - (pI S_96 800 x).toInt.toNat) * 8 = Phc S_96 + (40 - (v_110).toInt.toNat) * 8 := Ph_800 nd_113 t_101 eS_114
    have ph_116 : Phs S_114 + (40 - (pI S_96 800 x).toInt.toNat) * 15100 = Phs S_96 + (40 - (v_110).toInt.toNat) * 15100 := Ph_800 nd_113 t_101 eS_114
    have ph_117 : 8 + Phc S_114 ≤ Phc S + 0 := by omega
    have ph_118 : 15019 + Phs S_114 ≤ Phs S + 0 := by omega
    clear ph_97
    clear ph_98
    clear ph_115
    clear ph_116
    have hO_119 : Og eKE S S_114 := hO_99.sI eS_114 (by decide +kernel) (uI_8_800 hO_99.1 t_101 (by omega) (by omega))
    have h_120 : pI S_114 800 x = v_110 := tI_sIs eS_114
    refine lv_aload_n X.1 X.2.1 dX8_keep_78 rfl (lv_at hl 0 rfl) ?_
    have t_121 : At S_114 x 8 := tAt_sI eS_114 t_101
    refine r_getI (g := 800) (x := v_110) X hw t_121 rfl 0 h_120 (by decide) rfl inn_X8_keep_8 (by decide) (X.2.2.2.1 (.fieldLink RX8 37 "SilkMill$Store" "kept" "I") (by decide +kernel)) rfl (gv_800 _ _) dX8_keep_79 ?_
    refine lv_iconst (v := 1) X.1 X.2.1 dX8_keep_82 (by decide) ?_
    refine lv_isub X.1 X.2.1 dX8_keep_83 ?_
    refine lv_topi (fun v_122 ev_122 => ?_)
    have z_123 : v_122.toInt = v_110.toInt - 1 := z_sub ev_122 rfl ti_1 (by omega) (by omega)
    have pz_124 : (pI S_114 800 x).toInt = v_110.toInt := (congrArg Int32.toInt h_120).trans rfl
    exact ret_gi X hw hr hlocks (by show 8 ≤ Phc S + 8; omega) (by show 15019 ≤ Phs S + 15019; omega) (by omega) (by omega) ⟨hO_119, ⟨z_lo _, z_hi _, fun _ => ⟨by have e1 : (v_122).toInt = v_122.toInt := rfl; omega, by omega⟩, fun h => absurd (by omega) h⟩⟩ dX8_keep_84
  · have z_b_125 := trivial
    have k_126 : v_1.toInt ≥ 40 := z_nlt rfl ti_40 c_5
    refine lv_aload_n X.1 X.2.1 dX8_keep_9 rfl (lv_at hl 0 rfl) ?_
    refine lv_dup X.1 X.2.1 dX8_keep_10 rfl ?_
    obtain ⟨v_127, ev_127⟩ : ∃ v, pI S 805 x = v := ⟨_, rfl⟩
    have rg_129 := And.intro (z_lo v_127) (z_hi v_127)
    have pz_130 : (pI S 805 x).toInt = v_127.toInt := by rw [ev_127]
    refine r_getI (g := 805) (x := v_127) X hw ha_x rfl 5 ev_127 (by decide) rfl inn_X8_keep_8 (by decide) (X.2.2.2.1 (.fieldLink RX8 41 "SilkMill$Store" "waste" "I") (by decide +kernel)) rfl (gv_805 _ _) dX8_keep_11 ?_
    refine lv_aload_n X.1 X.2.1 dX8_keep_14 rfl (lv_at hl 1 rfl) ?_
    obtain ⟨v_131, ev_131⟩ : ∃ v, pI S 903 g1 = v := ⟨_, rfl⟩
    have rg_133 := And.intro (z_lo v_131) (z_hi v_131)
    have pz_134 : (pI S 903 g1).toInt = v_131.toInt := by rw [ev_131]
    refine r_getI (g := 903) (x := v_131) X hw ha_g1 rfl 3 ev_131 (by decide) rfl inn_X8_keep_9 (by decide) (X.2.2.2.1 (.fieldLink RX8 44 "SilkMill$Strand" "silk" "I") (by decide +kernel)) rfl (gv_903 _ _) dX8_keep_15 ?_
    refine lv_iadd X.1 X.2.1 dX8_keep_18 ?_
    refine lv_topi (fun v_135 ev_135 => ?_)
    have rg_136 := And.intro (z_lo v_135) (z_hi v_135)
    refine r_putI (v := v_135) X hw ha_x rfl 5 805 tyX8 (by decide) rfl inn_X8_keep_8 tyX8_ok nmX8 (by decide) (X.2.2.2.1 (.fieldLink RX8 41 "SilkMill$Store" "waste" "I") (by decide +kernel)) rfl (Or.inl rfl) rfl rfl (Nat.le_of_ble_eq_true rfl) (st_805 _ _) dX8_keep_19 (fun H locs hw => ?_)
    obtain ⟨S_137, eS_137⟩ : ∃ T, T = sI S 805 x (v_135) := ⟨_, rfl⟩
    rw [← eS_137] at hw
    have ph_138 : 0 + Phc S_137 ≤ Phc S + 0 := by rw [show Phc S_137 = Phc S from Ph_sI eS_137 rfl rfl]; exact hpc0
    have ph_139 : 0 + Phs S_137 ≤ Phs S + 0 := by rw [show Phs S_137 = Phs S from Ph_sI eS_137 rfl rfl]; exact hps0
    clear hpc0
    clear hps0
    have hO_140 : Og eKE S S_137 := hO.sI eS_137 (by decide +kernel) (uI_8_805 hO.1 ha_x)
    have h_141 : pI S_137 805 x = v_135 := tI_sIs eS_137
    refine lv_bipush (v := (-2)) X.1 X.2.1 dX8_keep_22 (by decide) ?_
    have t_142 : pI S_137 800 x = v_1 := tI_sI eS_137 rfl ev_1
    have pz_143 : (pI S_137 800 x).toInt = v_1.toInt := (congrArg Int32.toInt t_142).trans rfl
    exact ret_gi X hw hr hlocks (by show 0 ≤ Phc S + 8; omega) (by show 0 ≤ Phs S + 15019; omega) (by omega) (by omega) ⟨hO_140, ⟨z_lo _, z_hi _, fun h => absurd h (by omega), fun _ => ⟨by decide, by omega⟩⟩⟩ dX8_keep_24
set_option maxHeartbeats 4000000 in
set_option maxRecDepth 100000 in
theorem k_X9_beginAnew5 (l : Launch) (G : va_G) (cy : Nat → ClassId) (κ : Nat → Nat) (S : PS) (sz : Nat) (x : Nat) (hG : GX S) (ha_x : At S x 29) : Cv l yX9_beginAnew wsX9_beginAnew ({ frames := 1, cells := 0, slots := 0, locals := 48 }) G cy κ S sz [.ref x] (fun (S9 : PS) => Ok eBA S S9 ∧ (pI S9 902 x = 0 ∧ ∀ q, q ≠ x → pI S9 902 q = pI S 902 q)) := by
  refine ent_m (cc := cX9_beginAnew) (maxL := 1) (ret := none) (by decide) rfl (Nat.le_of_ble_eq_true rfl) ?_
  intro p e s m below meth c ls X hr hlocks hin hw hl hsz
  subst hsz
  have X : Cx p c cX9_beginAnew 1 s [.ref x].toArray wsX9_beginAnew RX9 m G cy κ (AS S s.heap.size) := X
  have hl : lv_has ls 1 [(0, .ref x)] := hl
  have hO : Ok eBA S S := Ok.rf hG
  refine lv_aload_n X.1 X.2.1 dX9_beginAnew_0 rfl (lv_at hl 0 rfl) ?_
  refine lv_iconst (v := 0) X.1 X.2.1 dX9_beginAnew_1 (by decide) ?_
  refine r_putI (v := 0) X hw ha_x rfl 2 902 tyX9 (by decide) rfl inn_X9_beginAnew_9 tyX9_ok nmX9 (by decide) (X.2.2.2.1 (.fieldLink RX9 30 "SilkMill$Strand" "metres" "I") (by decide +kernel)) rfl (Or.inl rfl) rfl rfl (Nat.le_of_ble_eq_true rfl) (st_902 _ _) dX9_beginAnew_2 (fun H locs hw => ?_)
  obtain ⟨S_1, eS_1⟩ : ∃ T, T = sI S 902 x (0) := ⟨_, rfl⟩
  rw [← eS_1] at hw
  have hO_2 : Ok eBA S S_1 := hO.sI eS_1 (by decide +kernel) (uI_29_902 hO.1 ha_x (by rw [ti_0]; omega) (by rw [ti_0]; omega))
  have h_3 : pI S_1 902 x = 0 := tI_sIs eS_1
  refine lv_aload_n X.1 X.2.1 dX9_beginAnew_5 rfl (lv_at hl 0 rfl) ?_
  refine lv_iconst (v := 0) X.1 X.2.1 dX9_beginAnew_6 (by decide) ?_
  have t_4 : At S_1 x 29 := tAt_sI eS_1 ha_x
  refine r_putI (v := 0) X hw t_4 rfl 3 903 tyX9 (by decide) rfl inn_X9_beginAnew_9 tyX9_ok nmX9 (by decide) (X.2.2.2.1 (.fieldLink RX9 40 "SilkMill$Strand" "silk" "I") (by decide +kernel)) rfl (Or.inl rfl) rfl rfl (Nat.le_of_ble_eq_true rfl) (st_903 _ _) dX9_beginAnew_7 (fun H locs hw => ?_)
  obtain ⟨S_5, eS_5⟩ : ∃ T, T = sI S_1 903 x (0) := ⟨_, rfl⟩
  rw [← eS_5] at hw
  have hO_6 : Ok eBA S S_5 := hO_2.sI eS_5 (by decide +kernel) (uI_29_903 hO_2.1 t_4)
  have h_7 : pI S_5 903 x = 0 := tI_sIs eS_5
  refine lv_aload_n X.1 X.2.1 dX9_beginAnew_10 rfl (lv_at hl 0 rfl) ?_
  refine lv_iconst (v := 0) X.1 X.2.1 dX9_beginAnew_11 (by decide) ?_
  have t_8 : At S_5 x 29 := tAt_sI eS_5 t_4
  obtain ⟨q_9, q_10, q_11, q_12, n_13, h_14, h_15, h_16, h_17, h_18, h_19, h_20, h_21, h_22, h_23, h_24, h_25, h_26⟩ := gGrwQ hO_6.1 t_8
  refine r_putI (v := 0) X hw t_8 rfl 4 904 tyX9 (by decide) rfl inn_X9_beginAnew_9 tyX9_ok nmX9 (by decide) (X.2.2.2.1 (.fieldLink RX9 43 "SilkMill$Strand" "pieces" "I") (by decide +kernel)) rfl (Or.inl rfl) rfl rfl (Nat.le_of_ble_eq_true rfl) (st_904 _ _) dX9_beginAnew_12 (fun H locs hw => ?_)
  obtain ⟨S_27, eS_27⟩ : ∃ T, T = sI S_5 904 x (0) := ⟨_, rfl⟩
  rw [← eS_27] at hw
  have hO_28 : Ok eBA S S_27 := hO_6.sI eS_27 (by decide +kernel) (uI_29_904 hO_6.1 t_8 h_14 h_22 (by rw [ti_0]; omega) (by rw [ti_0]; omega))
  have h_29 : pI S_27 904 x = 0 := tI_sIs eS_27
  have t_30 : pI S_5 902 x = 0 := tI_sI eS_5 rfl h_3
  have t_31 : pI S_27 902 x = 0 := tI_sI eS_27 rfl t_30
  exact ret_v X hw hr hlocks (Nat.le_of_ble_eq_true rfl) (Nat.le_of_ble_eq_true rfl) ⟨hO_28, ⟨t_31, fun q hq => by rw [eS_27, pI_sI_ne hq, eS_5, pI_sI_ne hq, eS_1, pI_sI_ne hq]⟩⟩ dX9_beginAnew_15
set_option maxHeartbeats 4000000 in
set_option maxRecDepth 100000 in
theorem k_X9_addMetre5 (l : Launch) (G : va_G) (cy : Nat → ClassId) (κ : Nat → Nat) (S : PS) (sz : Nat) (x : Nat) (a1 : Int32) (a1_z : Int) (a2 : Int32) (a2_z : Int) (hG : GX S) (ha_x : At S x 29) (hz_a1 : a1.toInt = a1_z) (hz_a2 : a2.toInt = a2_z) : Cv l yX9_addMetre wsX9_addMetre ({ frames := 1, cells := 0, slots := 0, locals := 48 }) G cy κ S sz [.ref x, .int (a1), .int (a2)] (fun (S9 : PS) => Ok eAM S S9 ∧ (((pI S 902 x).toInt < 300 → (pI S9 902 x).toInt = (pI S 902 x).toInt + 1) ∧ (¬ (pI S 902 x).toInt < 300 → S9 = S) ∧ ∀ q, q ≠ x → pI S9 902 q = pI S 902 q)) := by
  refine ent_m (cc := cX9_addMetre) (maxL := 3) (ret := none) (by decide) rfl (Nat.le_of_ble_eq_true rfl) ?_
  intro p e s m below meth c ls X hr hlocks hin hw hl hsz
  subst hsz
  have X : Cx p c cX9_addMetre 3 s [.ref x, .int (a1), .int (a2)].toArray wsX9_addMetre RX9 m G cy κ (AS S s.heap.size) := X
  have hl : lv_has ls 3 [(0, .ref x), (1, .int (a1)), (2, .int (a2))] := hl
  have rg_a1 : (-2147483648) ≤ a1_z ∧ a1_z ≤ 2147483647 := by rw [← hz_a1]; exact ⟨z_lo _, z_hi _⟩
  have rg_a2 : (-2147483648) ≤ a2_z ∧ a2_z ≤ 2147483647 := by rw [← hz_a2]; exact ⟨z_lo _, z_hi _⟩
  have hO : Ok eAM S S := Ok.rf hG
  obtain ⟨v_1, ev_1⟩ : ∃ v, pI S 902 x = v := ⟨_, rfl⟩
  have rg_2 := gI_29_902 hO.1 ha_x; rw [ev_1] at rg_2
  have pz_3 : (pI S 902 x).toInt = v_1.toInt := by rw [ev_1]
  have pz_4 : (pI S 902 x).toInt = v_1.toInt := (congrArg Int32.toInt ev_1).trans rfl
  refine lv_aload_n X.1 X.2.1 dX9_addMetre_0 rfl (lv_at hl 0 rfl) ?_
  refine r_getI (g := 902) (x := v_1) X hw ha_x rfl 2 ev_1 (by decide) rfl inn_X9_addMetre_9 (by decide) (X.2.2.2.1 (.fieldLink RX9 30 "SilkMill$Strand" "metres" "I") (by decide +kernel)) rfl (gv_902 _ _) dX9_addMetre_1 ?_
  refine lv_sipush (v := 300) X.1 X.2.1 dX9_addMetre_4 (by decide) ?_
  refine lv_icmp_ge (tgt := 50) X.1 X.2.1 dX9_addMetre_7 (by decide) (fun c_5 => ?_) (fun c_5 => ?_)
  · have z_b_6 := trivial
    have k_7 : v_1.toInt ≥ 300 := z_le ti_300 rfl c_5
    exact ret_v X hw hr hlocks (Nat.le_of_ble_eq_true rfl) (Nat.le_of_ble_eq_true rfl) ⟨hO, ⟨fun h => absurd h (by omega), fun _ => rfl, fun _ _ => rfl⟩⟩ dX9_addMetre_50
  · have z_b_8 := trivial
    have k_9 : v_1.toInt < 300 := z_nle ti_300 rfl c_5
    refine lv_aload_n X.1 X.2.1 dX9_addMetre_10 rfl (lv_at hl 0 rfl) ?_
    obtain ⟨q_10, h_11, h_12, h_13⟩ := gQ_29_900 hO.1 ha_x
    refine r_getR (g := 900) X hw ha_x rfl 0 h_11 (by decide) rfl inn_X9_addMetre_9 (by decide) (X.2.2.2.1 (.fieldLink RX9 9 "SilkMill$Strand" "fineness" "[I") (by decide +kernel)) rfl (gv_900 _ _) dX9_addMetre_11 ?_
    refine lv_aload_n X.1 X.2.1 dX9_addMetre_14 rfl (lv_at hl 0 rfl) ?_
    refine r_getI (g := 902) (x := v_1) X hw ha_x rfl 2 ev_1 (by decide) rfl inn_X9_addMetre_9 (by decide) (X.2.2.2.1 (.fieldLink RX9 30 "SilkMill$Strand" "metres" "I") (by decide +kernel)) rfl (gv_902 _ _) dX9_addMetre_15 ?_
    refine lv_iload_n X.1 X.2.1 dX9_addMetre_18 rfl (lv_at hl 1 rfl) ?_
    refine r_iast X hw h_12 rfl (by rw [h_13]; exact z_ix rfl (by omega) (by omega)) dX9_addMetre_19 (fun H locs hw => ?_)
    obtain ⟨S_14, eS_14⟩ : ∃ T, T = sA S q_10 (upd (pA S q_10) (Int32.toNatClampNeg (v_1)) (a1)) := ⟨_, rfl⟩
    rw [← eS_14] at hw
    have hO_15 : Ok eAM S S_14 := hO.sA eS_14 h_12 (by decide +kernel) (uA_14 hO.1 h_12)
    have h_16 : pA S_14 q_10 (Int32.toNatClampNeg (v_1)) = a1 := tA_sAs eS_14
    refine lv_aload_n X.1 X.2.1 dX9_addMetre_20 rfl (lv_at hl 0 rfl) ?_
    have t_17 : At S_14 x 29 := tAt_sA eS_14 ha_x
    obtain ⟨q_18, h_19, h_20, h_21⟩ := gQ_29_901 hO_15.1 t_17
    refine r_getR (g := 901) X hw t_17 rfl 1 h_19 (by decide) rfl inn_X9_addMetre_9 (by decide) (X.2.2.2.1 (.fieldLink RX9 15 "SilkMill$Strand" "endCounts" "[I") (by decide +kernel)) rfl (gv_901 _ _) dX9_addMetre_21 ?_
    refine lv_aload_n X.1 X.2.1 dX9_addMetre_24 rfl (lv_at hl 0 rfl) ?_
    have t_22 : pI S_14 902 x = v_1 := tI_sA eS_14 ev_1
    refine r_getI (g := 902) (x := v_1) X hw t_17 rfl 2 t_22 (by decide) rfl inn_X9_addMetre_9 (by decide) (X.2.2.2.1 (.fieldLink RX9 30 "SilkMill$Strand" "metres" "I") (by decide +kernel)) rfl (gv_902 _ _) dX9_addMetre_25 ?_
    refine lv_iload_n X.1 X.2.1 dX9_addMetre_28 rfl (lv_at hl 2 rfl) ?_
    refine r_iast X hw h_20 rfl (by rw [h_21]; exact z_ix rfl (by omega) (by omega)) dX9_addMetre_29 (fun H locs hw => ?_)
    obtain ⟨S_23, eS_23⟩ : ∃ T, T = sA S_14 q_18 (upd (pA S_14 q_18) (Int32.toNatClampNeg (v_1)) (a2)) := ⟨_, rfl⟩
    rw [← eS_23] at hw
    have hO_24 : Ok eAM S S_23 := hO_15.sA eS_23 h_20 (by decide +kernel) (uA_14 hO_15.1 h_20)
    have h_25 : pA S_23 q_18 (Int32.toNatClampNeg (v_1)) = a2 := tA_sAs eS_23
    refine lv_aload_n X.1 X.2.1 dX9_addMetre_30 rfl (lv_at hl 0 rfl) ?_
    refine lv_dup X.1 X.2.1 dX9_addMetre_31 rfl ?_
    have t_26 : At S_23 x 29 := tAt_sA eS_23 t_17
    have t_27 : pI S_23 902 x = v_1 := tI_sA eS_23 t_22
    refine r_getI (g := 902) (x := v_1) X hw t_26 rfl 2 t_27 (by decide) rfl inn_X9_addMetre_9 (by decide) (X.2.2.2.1 (.fieldLink RX9 30 "SilkMill$Strand" "metres" "I") (by decide +kernel)) rfl (gv_902 _ _) dX9_addMetre_32 ?_
    refine lv_iconst (v := 1) X.1 X.2.1 dX9_addMetre_35 (by decide) ?_
    refine lv_iadd X.1 X.2.1 dX9_addMetre_36 ?_
    refine lv_topi (fun v_28 ev_28 => ?_)
    have z_29 : v_28.toInt = v_1.toInt + 1 := z_add ev_28 rfl ti_1 (by omega) (by omega)
    refine r_putI (v := v_28) X hw t_26 rfl 2 902 tyX9 (by decide) rfl inn_X9_addMetre_9 tyX9_ok nmX9 (by decide) (X.2.2.2.1 (.fieldLink RX9 30 "SilkMill$Strand" "metres" "I") (by decide +kernel)) rfl (Or.inl rfl) rfl rfl (Nat.le_of_ble_eq_true rfl) (st_902 _ _) dX9_addMetre_37 (fun H locs hw => ?_)
    obtain ⟨S_30, eS_30⟩ : ∃ T, T = sI S_23 902 x (v_28) := ⟨_, rfl⟩
    rw [← eS_30] at hw
    have hO_31 : Ok eAM S S_30 := hO_24.sI eS_30 (by decide +kernel) (uI_29_902 hO_24.1 t_26 (by omega) (by omega))
    have h_32 : pI S_30 902 x = v_28 := tI_sIs eS_30
    refine lv_aload_n X.1 X.2.1 dX9_addMetre_40 rfl (lv_at hl 0 rfl) ?_
    refine lv_dup X.1 X.2.1 dX9_addMetre_41 rfl ?_
    have t_33 : At S_30 x 29 := tAt_sI eS_30 t_26
    obtain ⟨v_34, ev_34⟩ : ∃ v, pI S_30 903 x = v := ⟨_, rfl⟩
    have rg_36 := And.intro (z_lo v_34) (z_hi v_34)
    have pz_37 : (pI S_30 903 x).toInt = v_34.toInt := by rw [ev_34]
    refine r_getI (g := 903) (x := v_34) X hw t_33 rfl 3 ev_34 (by decide) rfl inn_X9_addMetre_9 (by decide) (X.2.2.2.1 (.fieldLink RX9 40 "SilkMill$Strand" "silk" "I") (by decide +kernel)) rfl (gv_903 _ _) dX9_addMetre_42 ?_
    refine lv_iload_n X.1 X.2.1 dX9_addMetre_45 rfl (lv_at hl 1 rfl) ?_
    refine lv_iadd X.1 X.2.1 dX9_addMetre_46 ?_
    refine lv_topi (fun v_38 ev_38 => ?_)
    have rg_39 := And.intro (z_lo v_38) (z_hi v_38)
    refine r_putI (v := v_38) X hw t_33 rfl 3 903 tyX9 (by decide) rfl inn_X9_addMetre_9 tyX9_ok nmX9 (by decide) (X.2.2.2.1 (.fieldLink RX9 40 "SilkMill$Strand" "silk" "I") (by decide +kernel)) rfl (Or.inl rfl) rfl rfl (Nat.le_of_ble_eq_true rfl) (st_903 _ _) dX9_addMetre_47 (fun H locs hw => ?_)
    obtain ⟨S_40, eS_40⟩ : ∃ T, T = sI S_30 903 x (v_38) := ⟨_, rfl⟩
    rw [← eS_40] at hw
    have hO_41 : Ok eAM S S_40 := hO_31.sI eS_40 (by decide +kernel) (uI_29_903 hO_31.1 t_33)
    have h_42 : pI S_40 903 x = v_38 := tI_sIs eS_40
    have t_43 : pI S_40 902 x = v_28 := tI_sI eS_40 rfl h_32
    have pz_44 : (pI S_40 902 x).toInt = v_28.toInt := (congrArg Int32.toInt t_43).trans rfl
    exact ret_v X hw hr hlocks (Nat.le_of_ble_eq_true rfl) (Nat.le_of_ble_eq_true rfl) ⟨hO_41, ⟨fun _ => (by omega), fun h => absurd (by omega) h, fun q hq => (by rw [eS_40, pI_sI_ne hq, eS_30, pI_sI_ne hq, eS_23, eS_14]; rfl)⟩⟩ dX9_addMetre_50
set_option maxHeartbeats 4000000 in
set_option maxRecDepth 100000 in
theorem k_X4_cutStrand5 (l : Launch) (G : va_G) (cy : Nat → ClassId) (κ : Nat → Nat) (S : PS) (sz hz : Nat) (x : Nat) (s1 : Nat) (D : Nat → Prop) (R0 : Nat) (R1 : Nat) (R2 : Nat) (Gs : Nat) (A : Pt) (Ev : En) (hG : GX S) (ha_x : At S x 4) (ha_s1 : At S s1 8) (hp_0 : (∀ c, D c → At S c 0)) (hp_1 : PotR S x R0 R1 R2 Gs) (hp_2 : PotV S D x R0 R1 R2 Gs s1 A) (hp_3 : EnC S D x s1 Ev) : Gi l yX4_cutStrand wsX4_cutStrand ({ frames := 5, cells := Phc S + 8, slots := Phs S + 15019, locals := 240 }) G cy κ S sz hz 0 0 [.ref x, .ref s1] (fun (r : Int32) (S9 : PS) => Og eCU S S9 ∧ (-2147483648 ≤ r.toInt ∧ r.toInt ≤ 2147483647 ∧ PotV S9 D x R0 R1 R2 Gs s1 (cutF Ev A) ∧ PotX S S9 x R0 R1 R2 Gs ∧ r.toInt = cutR A)) := by
  refine ent_g (cc := cX4_cutStrand) (maxL := 3) (ret := (some .int)) (by decide) rfl (Nat.le_of_ble_eq_true rfl) ?_
  intro p e s m below meth c ls X hr hlocks hin hw hl hsz hhz
  subst hsz hhz
  have X : Cx p c cX4_cutStrand 3 s [.ref x, .ref s1].toArray wsX4_cutStrand RX4 m G cy κ (AS S s.heap.size) := X
  have hl : lv_has ls 3 [(0, .ref x), (1, .ref s1)] := hl
  have hpc0 : 0 + Phc S ≤ Phc S + 0 := by omega
  have hps0 : 0 + Phs S ≤ Phs S + 0 := by omega
  have hO : Og eCU S S := Og.rf hG
  have hpr := hp_1
  obtain ⟨hr0, hr1, hr2, hr3, hne, hcn⟩ := hpr
  have haR0 := row_at hG ha_x (Or.inl hr0)
  have haR1 := row_at hG ha_x (Or.inr (Or.inl hr1))
  have haR2 := row_at hG ha_x (Or.inr (Or.inr hr2))
  have haGs : At S Gs 29 := by obtain ⟨c, k1, k2⟩ := gQ_4_403 hG ha_x; have h3 := hr3; rw [k1] at h3; cases h3; exact k2
  have hpv := hp_2
  obtain ⟨pv_1, pv_2, pv_3, pv_4, pv_5, pv_6, pv_7, pv_8, pv_9, pv_10, pv_11⟩ := hpv
  obtain ⟨v_12, ev_12⟩ : ∃ v, pI S 902 Gs = v := ⟨_, rfl⟩
  have rg_13 := gI_29_902 hO.1 haGs; rw [ev_12] at rg_13
  have pz_14 : (pI S 902 Gs).toInt = v_12.toInt := by rw [ev_12]
  have pz_15 : (pI S 902 Gs).toInt = v_12.toInt := (congrArg Int32.toInt ev_12).trans rfl
  obtain ⟨v_16, ev_16⟩ : ∃ v, pI S 800 s1 = v := ⟨_, rfl⟩
  have rg_17 := gI_8_800 hO.1 ha_s1; rw [ev_16] at rg_17
  have pz_18 : (pI S 800 s1).toInt = v_16.toInt := by rw [ev_16]
  have pz_19 : (pI S 800 s1).toInt = v_16.toInt := (congrArg Int32.toInt ev_16).trans rfl
  refine lv_aload_n X.1 X.2.1 dX4_cutStrand_0 rfl (lv_at hl 0 rfl) ?_
  refine r_getR (g := 403) X hw ha_x rfl 3 hr3 (by decide) rfl inn_X4_cutStrand_4 (by decide) (X.2.2.2.1 (.fieldLink RX4 29 "SilkMill$Pot" "strand" "LSilkMill$Strand;") (by decide +kernel)) rfl (gv_403 _ _) dX4_cutStrand_1 ?_
  refine r_getI (g := 902) (x := v_12) X hw haGs rfl 2 ev_12 (by decide) rfl inn_X4_cutStrand_9 (by decide) (X.2.2.2.1 (.fieldLink RX4 79 "SilkMill$Strand" "metres" "I") (by decide +kernel)) rfl (gv_902 _ _) dX4_cutStrand_4 ?_
  refine lv_if_ne (tgt := 12) X.1 X.2.1 dX4_cutStrand_7 (by decide) (fun c_20 => ?_) (fun c_20 => ?_)
  · have z_b_21 := trivial
    have k_22 : v_12.toInt ≠ 0 := z_ne rfl ti_0 c_20
    refine lv_aload_n X.1 X.2.1 dX4_cutStrand_12 rfl (lv_at hl 1 rfl) ?_
    refine lv_aload_n X.1 X.2.1 dX4_cutStrand_13 rfl (lv_at hl 0 rfl) ?_
    refine r_getR (g := 403) X hw ha_x rfl 3 hr3 (by decide) rfl inn_X4_cutStrand_4 (by decide) (X.2.2.2.1 (.fieldLink RX4 29 "SilkMill$Pot" "strand" "LSilkMill$Strand;") (by decide +kernel)) rfl (gv_403 _ _) dX4_cutStrand_14 ?_
    refine lv_aload_n X.1 X.2.1 dX4_cutStrand_17 rfl (lv_at hl 0 rfl) ?_
    obtain ⟨v_23, ev_23⟩ : ∃ v, pI S 410 x = v := ⟨_, rfl⟩
    have rg_25 := And.intro (z_lo v_23) (z_hi v_23)
    have pz_26 : (pI S 410 x).toInt = v_23.toInt := by rw [ev_23]
    refine r_getI (g := 410) (x := v_23) X hw ha_x rfl 10 ev_23 (by decide) rfl inn_X4_cutStrand_4 (by decide) (X.2.2.2.1 (.fieldLink RX4 40 "SilkMill$Pot" "potNumber" "I") (by decide +kernel)) rfl (gv_410 _ _) dX4_cutStrand_18 ?_
    refine lv_aload_n X.1 X.2.1 dX4_cutStrand_21 rfl (lv_at hl 0 rfl) ?_
    obtain ⟨v_27, ev_27⟩ : ∃ v, pI S 404 x = v := ⟨_, rfl⟩
    have rg_29 := And.intro (z_lo v_27) (z_hi v_27)
    have pz_30 : (pI S 404 x).toInt = v_27.toInt := by rw [ev_27]
    refine r_getI (g := 404) (x := v_27) X hw ha_x rfl 4 ev_27 (by decide) rfl inn_X4_cutStrand_4 (by decide) (X.2.2.2.1 (.fieldLink RX4 44 "SilkMill$Pot" "aim" "I") (by decide +kernel)) rfl (gv_404 _ _) dX4_cutStrand_22 ?_
    refine k_gi (kc := 0) (ks := 0) (rm := { frames := 4, cells := Phc S + 8, slots := Phs S + 15019, locals := 192 }) (av := [.ref s1, .ref Gs, .int (v_23), .int (v_27)]) X hw (va_runV (As := [.ref Gs, .int (v_23), .int (v_27)]) (rest := []) (cfix X) (k_X8_keep5 l G cy κ S _ _ s1 Gs (v_23) (v_23.toInt) (v_27) (v_27.toInt) hO.1 ha_s1 haGs rfl rfl) (cwV 3 X.2.2.2.1 gX4_cutStrand_X8_keep rfl rfl rfl (by decide +kernel) ⟨Nat.le_of_ble_eq_true rfl, Nat.le_of_ble_eq_true rfl⟩) (pre_gV X hw _ ha_s1 rfl (by decide) rfl) rfl rfl hl.1 rfl (lv_room (Nat.le_of_ble_eq_true rfl)) dX4_cutStrand_25 ⟨(by show 0 + (Phc S + 8) ≤ Phc S + 8; omega), (by show 0 + (Phs S + 15019) ≤ Phs S + 15019; omega)⟩) (fun rr_31 S_32 H locs c_33 n_34 hc_33 hn_34 hp hw => ?_)
    obtain ⟨hk_35, hp⟩ := hp
    have ph_36 : c_33 + Phc S_32 ≤ Phc S + 0 := by omega
    have ph_37 : n_34 + Phs S_32 ≤ Phs S + 0 := by omega
    clear hpc0
    clear hps0
    clear hc_33
    clear hn_34
    have hO_38 : Og eCU S S_32 := hO.call hk_35 (by decide +kernel)
    obtain ⟨kp_39, kp_40, kp_41, kp_42⟩ := hp
    by_cases kp_43 : ((qsk A)).length < 40
    · obtain ⟨kp_44, kp_45⟩ := kp_41 (by omega)
      have kp_46 : (((qsk A) ++ [(epot Ev, eday Ev, eaim Ev, (qg A))]).length : Int) = (((qsk A)).length : Int) + 1 := by rw [List.length_append]; rfl
      obtain ⟨v_48, ev_48⟩ : ∃ v, pI S_32 800 s1 = v := ⟨_, rfl⟩
      have t_50 : At S_32 s1 8 := hk_35.fr.at ha_s1
      have rg_49 := gI_8_800 hO_38.1 t_50; rw [ev_48] at rg_49
      have pz_51 : (pI S_32 800 s1).toInt = v_48.toInt := by rw [ev_48]
      have pz_52 : (pI S_32 800 s1).toInt = v_48.toInt := (congrArg Int32.toInt ev_48).trans rfl
      refine lv_istore_n (lv' := [(2, .int (rr_31)), (0, .ref x), (1, .ref s1)]) X.1 X.2.1 dX4_cutStrand_28 rfl hl (by decide) rfl (fun ls hl => ?_)
      refine lv_aload_n X.1 X.2.1 dX4_cutStrand_29 rfl (lv_at hl 1 rfl) ?_
      have t_53 : At S_32 x 4 := hk_35.fr.at ha_x
      have t_54 : pR S_32 403 x = some Gs := hk_35.fr.R' (by decide +kernel) ha_x hr3
      refine r_getR (g := 403) X hw t_53 rfl 3 t_54 (by decide) rfl inn_X4_cutStrand_4 (by decide) (X.2.2.2.1 (.fieldLink RX4 29 "SilkMill$Pot" "strand" "LSilkMill$Strand;") (by decide +kernel)) rfl (gv_403 _ _) dX4_cutStrand_30 ?_
      have t_55 : At S_32 Gs 29 := hk_35.fr.at haGs
      refine k_v (rm := { frames := 1, cells := 0, slots := 0, locals := 48 }) (av := [.ref Gs]) X hw (va_runV (As := []) (rest := []) (cfix X) (k_X9_beginAnew5 l G cy κ S_32 _ Gs hO_38.1 t_55) (cwV 0 X.2.2.2.1 gX4_cutStrand_X9_beginAnew rfl rfl rfl (by decide +kernel) ⟨Nat.le_of_ble_eq_true rfl, Nat.le_of_ble_eq_true rfl⟩) (pre_V X hw _ t_55 rfl (by decide) rfl) rfl rfl hl.1 rfl (lv_room (Nat.le_of_ble_eq_true rfl)) dX4_cutStrand_33 ⟨(by show c_33 + 0 ≤ Phc S + 8; omega), (by show n_34 + 0 ≤ Phs S + 15019; omega)⟩) c_33 n_34 (by show c_33 + 0 ≤ c_33; omega) (by show n_34 + 0 ≤ n_34; omega) (fun S_57 H locs hp hw hfr hnw => ?_)
      obtain ⟨hk_58, hp⟩ := hp
      have ph_59 : c_33 + Phc S_57 ≤ Phc S + 0 := by rw [show Phc S_57 = Phc S_32 from Ph_ok hO_38.1 hk_58 (by decide +kernel) (by decide +kernel) (by decide +kernel)]; exact ph_36
      have ph_60 : n_34 + Phs S_57 ≤ Phs S + 0 := by rw [show Phs S_57 = Phs S_32 from Ph_ok hO_38.1 hk_58 (by decide +kernel) (by decide +kernel) (by decide +kernel)]; exact ph_37
      clear ph_36
      clear ph_37
      have hO_61 : Og eCU S S_57 := hO_38.call hk_58.og (by decide +kernel)
      obtain ⟨ba_62, ba_63⟩ := hp
      have ba_64 : (([] : List Mt).length : Int) = 0 := rfl
      refine lv_iload_n X.1 X.2.1 dX4_cutStrand_36 rfl (lv_at hl 0 rfl) ?_
      have rw_65 : RowIs S_32 R0 (qb A) 600 := RowIs_fr hO.1 haR0 hk_35.fr (by decide +kernel) pv_1
      have t_67 : At S_32 R0 5 := hk_35.fr.at haR0
      have rw_66 : RowIs S_57 R0 (qb A) 600 := RowIs_fr hO_38.1 t_67 hk_58.fr (by decide +kernel) rw_65
      have rw_68 : RowIs S_32 R1 (qe A) 12 := RowIs_fr hO.1 haR1 hk_35.fr (by decide +kernel) pv_2
      have t_70 : At S_32 R1 5 := hk_35.fr.at haR1
      have rw_69 : RowIs S_57 R1 (qe A) 12 := RowIs_fr hO_38.1 t_70 hk_58.fr (by decide +kernel) rw_68
      have rw_71 : RowIs S_32 R2 (ql A) 600 := RowIs_fr hO.1 haR2 hk_35.fr (by decide +kernel) pv_3
      have t_73 : At S_32 R2 5 := hk_35.fr.at haR2
      have rw_72 : RowIs S_57 R2 (ql A) 600 := RowIs_fr hO_38.1 t_73 hk_58.fr (by decide +kernel) rw_71
      have co_74 : CoP S_32 D (qpl A) (qsd A) := CoP_fr hk_35.fr hp_0 (by decide +kernel) pv_10
      have dt_76 : ∀ c, D c → At S_32 c 0 := fun c h => hk_35.fr.at (hp_0 c h)
      have co_75 : CoP S_57 D (qpl A) (qsd A) := CoP_fr hk_58.fr dt_76 (by decide +kernel) co_74
      have t_77 : pI S_32 405 x = (qst A) := hk_35.fr.I' (by decide +kernel) ha_x pv_4
      have t_78 : pI S_57 405 x = (qst A) := hk_58.fr.I' (by decide +kernel) t_53 t_77
      have t_79 : pI S_32 406 x = (qse A) := hk_35.fr.I' (by decide +kernel) ha_x pv_5
      have t_80 : pI S_57 406 x = (qse A) := hk_58.fr.I' (by decide +kernel) t_53 t_79
      have pz_81 : (pI S_57 902 Gs).toInt = 0 := (congrArg Int32.toInt ba_62).trans ti_0
      have t_82 : pI S_32 407 x = (qdr A) := hk_35.fr.I' (by decide +kernel) ha_x pv_7
      have t_83 : pI S_57 407 x = (qdr A) := hk_58.fr.I' (by decide +kernel) t_53 t_82
      have t_84 : pI S_32 408 x = (qtk A) := hk_35.fr.I' (by decide +kernel) ha_x pv_8
      have t_85 : pI S_57 408 x = (qtk A) := hk_58.fr.I' (by decide +kernel) t_53 t_84
      have t_86 : pI S_57 800 s1 = v_48 := hk_58.fr.I' (by decide +kernel) t_50 ev_48
      have pz_87 : (pI S_57 800 s1).toInt = v_48.toInt := (congrArg Int32.toInt t_86).trans rfl
      have px_88 : PotX S S_32 x R0 R1 R2 Gs := PotX_fr (PotX_rf S x R0 R1 R2 Gs) (fun _ _ h => h) hO.1 hk_35.fr (by decide +kernel)
      have ax_90 : ∀ a k, At S a k → At S_32 a k := fun a k h => hk_35.fr.at ((fun _ _ h => h) a k h)
      have px_89 : PotX S S_57 x R0 R1 R2 Gs := PotX_st px_88 ax_90 hO_38.1 hk_58.fr (by decide +kernel) (fun q _ hq => ba_63 q hq)
      exact ret_gi X hw hr hlocks (by show c_33 ≤ Phc S + 8; omega) (by show n_34 ≤ Phs S + 15019; omega) (by omega) (by omega) ⟨hO_61, ⟨z_lo _, z_hi _, PotV_of (cutF_k (fun z => by have e0 := congrArg List.length z; have e1 : ([] : List Mt).length = 0 := rfl; omega) kp_43) rw_66 rw_69 rw_72 t_78 t_80 (show (pI S_57 902 Gs).toInt = ((([] : List Mt)).length : Int) by omega) t_83 t_85 (show (pI S_57 800 s1).toInt = ((((qsk A) ++ [(epot Ev, eday Ev, eaim Ev, (qg A))])).length : Int) by omega) co_75 (inD_cut pv_11), px_89, by rw [cutR_k (fun z => by have e0 := congrArg List.length z; have e1 : ([] : List Mt).length = 0 := rfl; omega) kp_43]; omega⟩⟩ dX4_cutStrand_37
    · obtain ⟨kp_44, kp_45⟩ := kp_42 (by omega)
      obtain ⟨v_92, ev_92⟩ : ∃ v, pI S_32 800 s1 = v := ⟨_, rfl⟩
      have t_94 : At S_32 s1 8 := hk_35.fr.at ha_s1
      have rg_93 := gI_8_800 hO_38.1 t_94; rw [ev_92] at rg_93
      have pz_95 : (pI S_32 800 s1).toInt = v_92.toInt := by rw [ev_92]
      have pz_96 : (pI S_32 800 s1).toInt = v_92.toInt := (congrArg Int32.toInt ev_92).trans rfl
      refine lv_istore_n (lv' := [(2, .int (rr_31)), (0, .ref x), (1, .ref s1)]) X.1 X.2.1 dX4_cutStrand_28 rfl hl (by decide) rfl (fun ls hl => ?_)
      refine lv_aload_n X.1 X.2.1 dX4_cutStrand_29 rfl (lv_at hl 1 rfl) ?_
      have t_97 : At S_32 x 4 := hk_35.fr.at ha_x
      have t_98 : pR S_32 403 x = some Gs := hk_35.fr.R' (by decide +kernel) ha_x hr3
      refine r_getR (g := 403) X hw t_97 rfl 3 t_98 (by decide) rfl inn_X4_cutStrand_4 (by decide) (X.2.2.2.1 (.fieldLink RX4 29 "SilkMill$Pot" "strand" "LSilkMill$Strand;") (by decide +kernel)) rfl (gv_403 _ _) dX4_cutStrand_30 ?_
      have t_99 : At S_32 Gs 29 := hk_35.fr.at haGs
      refine k_v (rm := { frames := 1, cells := 0, slots := 0, locals := 48 }) (av := [.ref Gs]) X hw (va_runV (As := []) (rest := []) (cfix X) (k_X9_beginAnew5 l G cy κ S_32 _ Gs hO_38.1 t_99) (cwV 0 X.2.2.2.1 gX4_cutStrand_X9_beginAnew rfl rfl rfl (by decide +kernel) ⟨Nat.le_of_ble_eq_true rfl, Nat.le_of_ble_eq_true rfl⟩) (pre_V X hw _ t_99 rfl (by decide) rfl) rfl rfl hl.1 rfl (lv_room (Nat.le_of_ble_eq_true rfl)) dX4_cutStrand_33 ⟨(by show c_33 + 0 ≤ Phc S + 8; omega), (by show n_34 + 0 ≤ Phs S + 15019; omega)⟩) c_33 n_34 (by show c_33 + 0 ≤ c_33; omega) (by show n_34 + 0 ≤ n_34; omega) (fun S_101 H locs hp hw hfr hnw => ?_)
      obtain ⟨hk_102, hp⟩ := hp
      have ph_103 : c_33 + Phc S_101 ≤ Phc S + 0 := by rw [show Phc S_101 = Phc S_32 from Ph_ok hO_38.1 hk_102 (by decide +kernel) (by decide +kernel) (by decide +kernel)]; exact ph_36
      have ph_104 : n_34 + Phs S_101 ≤ Phs S + 0 := by rw [show Phs S_101 = Phs S_32 from Ph_ok hO_38.1 hk_102 (by decide +kernel) (by decide +kernel) (by decide +kernel)]; exact ph_37
      clear ph_36
      clear ph_37
      have hO_105 : Og eCU S S_101 := hO_38.call hk_102.og (by decide +kernel)
      obtain ⟨ba_106, ba_107⟩ := hp
      have ba_108 : (([] : List Mt).length : Int) = 0 := rfl
      refine lv_iload_n X.1 X.2.1 dX4_cutStrand_36 rfl (lv_at hl 0 rfl) ?_
      have rw_109 : RowIs S_32 R0 (qb A) 600 := RowIs_fr hO.1 haR0 hk_35.fr (by decide +kernel) pv_1
      have t_111 : At S_32 R0 5 := hk_35.fr.at haR0
      have rw_110 : RowIs S_101 R0 (qb A) 600 := RowIs_fr hO_38.1 t_111 hk_102.fr (by decide +kernel) rw_109
      have rw_112 : RowIs S_32 R1 (qe A) 12 := RowIs_fr hO.1 haR1 hk_35.fr (by decide +kernel) pv_2
      have t_114 : At S_32 R1 5 := hk_35.fr.at haR1
      have rw_113 : RowIs S_101 R1 (qe A) 12 := RowIs_fr hO_38.1 t_114 hk_102.fr (by decide +kernel) rw_112
      have rw_115 : RowIs S_32 R2 (ql A) 600 := RowIs_fr hO.1 haR2 hk_35.fr (by decide +kernel) pv_3
      have t_117 : At S_32 R2 5 := hk_35.fr.at haR2
      have rw_116 : RowIs S_101 R2 (ql A) 600 := RowIs_fr hO_38.1 t_117 hk_102.fr (by decide +kernel) rw_115
      have co_118 : CoP S_32 D (qpl A) (qsd A) := CoP_fr hk_35.fr hp_0 (by decide +kernel) pv_10
      have dt_120 : ∀ c, D c → At S_32 c 0 := fun c h => hk_35.fr.at (hp_0 c h)
      have co_119 : CoP S_101 D (qpl A) (qsd A) := CoP_fr hk_102.fr dt_120 (by decide +kernel) co_118
      have t_121 : pI S_32 405 x = (qst A) := hk_35.fr.I' (by decide +kernel) ha_x pv_4
      have t_122 : pI S_101 405 x = (qst A) := hk_102.fr.I' (by decide +kernel) t_97 t_121
      have t_123 : pI S_32 406 x = (qse A) := hk_35.fr.I' (by decide +kernel) ha_x pv_5
      have t_124 : pI S_101 406 x = (qse A) := hk_102.fr.I' (by decide +kernel) t_97 t_123
      have pz_125 : (pI S_101 902 Gs).toInt = 0 := (congrArg Int32.toInt ba_106).trans ti_0
      have t_126 : pI S_32 407 x = (qdr A) := hk_35.fr.I' (by decide +kernel) ha_x pv_7
      have t_127 : pI S_101 407 x = (qdr A) := hk_102.fr.I' (by decide +kernel) t_97 t_126
      have t_128 : pI S_32 408 x = (qtk A) := hk_35.fr.I' (by decide +kernel) ha_x pv_8
      have t_129 : pI S_101 408 x = (qtk A) := hk_102.fr.I' (by decide +kernel) t_97 t_128
      have t_130 : pI S_101 800 s1 = v_92 := hk_102.fr.I' (by decide +kernel) t_94 ev_92
      have pz_131 : (pI S_101 800 s1).toInt = v_92.toInt := (congrArg Int32.toInt t_130).trans rfl
      have px_132 : PotX S S_32 x R0 R1 R2 Gs := PotX_fr (PotX_rf S x R0 R1 R2 Gs) (fun _ _ h => h) hO.1 hk_35.fr (by decide +kernel)
      have ax_134 : ∀ a k, At S a k → At S_32 a k := fun a k h => hk_35.fr.at ((fun _ _ h => h) a k h)
      have px_133 : PotX S S_101 x R0 R1 R2 Gs := PotX_st px_132 ax_134 hO_38.1 hk_102.fr (by decide +kernel) (fun q _ hq => ba_107 q hq)
      exact ret_gi X hw hr hlocks (by show c_33 ≤ Phc S + 8; omega) (by show n_34 ≤ Phs S + 15019; omega) (by omega) (by omega) ⟨hO_105, ⟨z_lo _, z_hi _, PotV_of (cutF_w (fun z => by have e0 := congrArg List.length z; have e1 : ([] : List Mt).length = 0 := rfl; omega) kp_43) rw_110 rw_113 rw_116 t_122 t_124 (show (pI S_101 902 Gs).toInt = ((([] : List Mt)).length : Int) by omega) t_127 t_129 (show (pI S_101 800 s1).toInt = (((qsk A)).length : Int) by omega) co_119 (inD_cut pv_11), px_133, by rw [cutR_w (fun z => by have e0 := congrArg List.length z; have e1 : ([] : List Mt).length = 0 := rfl; omega) kp_43]; omega⟩⟩ dX4_cutStrand_37
  · have z_b_135 := trivial
    have k_136 : v_12.toInt = 0 := z_eq rfl ti_0 c_20
    refine lv_iconst (v := (-1)) X.1 X.2.1 dX4_cutStrand_10 (by decide) ?_
    have pz_137 : (pI S 902 Gs).toInt = v_12.toInt := (congrArg Int32.toInt ev_12).trans rfl
    have pz_138 : (pI S 800 s1).toInt = v_16.toInt := (congrArg Int32.toInt ev_16).trans rfl
    exact ret_gi X hw hr hlocks (by show 0 ≤ Phc S + 8; omega) (by show 0 ≤ Phs S + 15019; omega) (by omega) (by omega) ⟨hO, ⟨z_lo _, z_hi _, PotV_of (cutF_n (List.eq_nil_of_length_eq_zero (by omega))) pv_1 pv_2 pv_3 pv_4 pv_5 (show (pI S 902 Gs).toInt = (((qg A)).length : Int) by omega) pv_7 pv_8 (show (pI S 800 s1).toInt = (((qsk A)).length : Int) by omega) pv_10 (inD_cut pv_11), (PotX_rf S x R0 R1 R2 Gs), by rw [cutR_n (List.eq_nil_of_length_eq_zero (by omega))]; decide⟩⟩ dX4_cutStrand_11
