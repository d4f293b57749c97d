
set_option maxHeartbeats 4000000 in
set_option maxRecDepth 100000 in
theorem k_X0_drawOneMetre5 (l : Launch) (G : va_G) (cy : Nat → ClassId) (κ : Nat → Nat) (S : PS) (sz : Nat) (x : Nat) (hG : GX S) (ha_x : At S x 0) : Cv l yX0_drawOneMetre wsX0_drawOneMetre ({ frames := 3, cells := 0, slots := 0, locals := 144 }) G cy κ S sz [.ref x] (fun (S9 : PS) => Ok eCO S S9 ∧ (DrO S S9 x)) := by
  refine ent_m (cc := cX0_drawOneMetre) (maxL := 2) (ret := none) (by decide) rfl (Nat.le_of_ble_eq_true rfl) ?_
  intro p e s m below meth c ls X hr hlocks hin hw hl hsz
  subst hsz
  have X : Cx p c cX0_drawOneMetre 2 s [.ref x].toArray wsX0_drawOneMetre RX0 m G cy κ (AS S s.heap.size) := X
  have hl : lv_has ls 2 [(0, .ref x)] := hl
  have hO : Ok eCO S S := Ok.rf hG
  obtain ⟨v_1, ev_1⟩ : ∃ v, pI S 2 x = v := ⟨_, rfl⟩
  have rg_2 := gI_0_2 hO.1 ha_x; rw [ev_1] at rg_2
  have pz_3 : (pI S 2 x).toInt = v_1.toInt := by rw [ev_1]
  have pz_4 : (pI S 2 x).toInt = v_1.toInt := (congrArg Int32.toInt ev_1).trans rfl
  obtain ⟨v_5, ev_5⟩ : ∃ v, pI S 4 x = v := ⟨_, rfl⟩
  have rg_7 := And.intro (z_lo v_5) (z_hi v_5)
  have pz_8 : (pI S 4 x).toInt = v_5.toInt := by rw [ev_5]
  have pz_9 : (pI S 4 x).toInt = v_5.toInt := (congrArg Int32.toInt ev_5).trans rfl
  refine lv_aload_n X.1 X.2.1 dX0_drawOneMetre_0 rfl (lv_at hl 0 rfl) ?_
  refine r_getI (g := 4) (x := v_5) X hw ha_x rfl 4 ev_5 (by decide) rfl inn_X0_drawOneMetre_0 (by decide) (X.2.2.2.1 (.fieldLink RX0 57 "SilkMill$Cocoon" "drawnTo" "I") (by decide +kernel)) rfl (gv_4 _ _) dX0_drawOneMetre_1 ?_
  refine lv_istore_n (lv' := [(1, .int (v_5)), (0, .ref x)]) X.1 X.2.1 dX0_drawOneMetre_4 rfl hl (by decide) rfl (fun ls hl => ?_)
  refine lv_aload_n X.1 X.2.1 dX0_drawOneMetre_5 rfl (lv_at hl 1 rfl) ?_
  refine lv_dup X.1 X.2.1 dX0_drawOneMetre_6 rfl ?_
  refine r_getI (g := 4) (x := v_5) X hw ha_x rfl 4 ev_5 (by decide) rfl inn_X0_drawOneMetre_0 (by decide) (X.2.2.2.1 (.fieldLink RX0 57 "SilkMill$Cocoon" "drawnTo" "I") (by decide +kernel)) rfl (gv_4 _ _) dX0_drawOneMetre_7 ?_
  refine lv_iconst (v := 1) X.1 X.2.1 dX0_drawOneMetre_10 (by decide) ?_
  refine lv_iadd X.1 X.2.1 dX0_drawOneMetre_11 ?_
  refine lv_topi (fun v_10 ev_10 => ?_)
  have rg_11 := And.intro (z_lo v_10) (z_hi v_10)
  refine r_putI (v := v_10) X hw ha_x rfl 4 4 tyX0 (by decide) rfl inn_X0_drawOneMetre_0 tyX0_ok nmX0 (by decide) (X.2.2.2.1 (.fieldLink RX0 57 "SilkMill$Cocoon" "drawnTo" "I") (by decide +kernel)) rfl (Or.inl rfl) rfl rfl (Nat.le_of_ble_eq_true rfl) (st_4 _ _) dX0_drawOneMetre_12 (fun H locs hw => ?_)
  obtain ⟨S_12, eS_12⟩ : ∃ T, T = sI S 4 x (v_10) := ⟨_, rfl⟩
  rw [← eS_12] at hw
  have hO_13 : Ok eCO S S_12 := hO.sI eS_12 (by decide +kernel) (uI_0_4 hO.1 ha_x)
  have h_14 : pI S_12 4 x = v_10 := tI_sIs eS_12
  refine lv_aload_n X.1 X.2.1 dX0_drawOneMetre_15 rfl (lv_at hl 1 rfl) ?_
  have t_15 : At S_12 x 0 := tAt_sI eS_12 ha_x
  refine r_getI (g := 4) (x := v_10) X hw t_15 rfl 4 h_14 (by decide) rfl inn_X0_drawOneMetre_0 (by decide) (X.2.2.2.1 (.fieldLink RX0 57 "SilkMill$Cocoon" "drawnTo" "I") (by decide +kernel)) rfl (gv_4 _ _) dX0_drawOneMetre_16 ?_
  refine lv_aload_n X.1 X.2.1 dX0_drawOneMetre_19 rfl (lv_at hl 1 rfl) ?_
  have t_16 : pI S_12 2 x = v_1 := tI_sI eS_12 rfl ev_1
  refine r_getI (g := 2) (x := v_1) X hw t_15 rfl 2 t_16 (by decide) rfl inn_X0_drawOneMetre_0 (by decide) (X.2.2.2.1 (.fieldLink RX0 40 "SilkMill$Cocoon" "length" "I") (by decide +kernel)) rfl (gv_2 _ _) dX0_drawOneMetre_20 ?_
  refine lv_icmp_lt (tgt := 34) X.1 X.2.1 dX0_drawOneMetre_23 (by decide) (fun c_17 => ?_) (fun c_17 => ?_)
  · have z_b_18 := trivial
    have k_19 : v_10.toInt < v_1.toInt := z_lt rfl rfl c_17
    refine lv_aload_n X.1 X.2.1 dX0_drawOneMetre_34 rfl (lv_at hl 1 rfl) ?_
    refine lv_iload_n X.1 X.2.1 dX0_drawOneMetre_35 rfl (lv_at hl 0 rfl) ?_
    refine k_i (rm := { frames := 2, cells := 0, slots := 0, locals := 96 }) (av := [.ref x, .int (v_5)]) X hw (va_runV (As := [.int (v_5)]) (rest := []) (cfix X) (k_X0_breaksAt3 l G cy κ S_12 _ x (v_5) (v_5.toInt) hO_13.1 t_15 rfl) (cwV 1 X.2.2.2.1 gX0_drawOneMetre_X0_breaksAt rfl rfl rfl (by decide +kernel) ⟨Nat.le_of_ble_eq_true rfl, Nat.le_of_ble_eq_true rfl⟩) (pre_V X hw _ t_15 rfl (by decide) rfl) rfl rfl hl.1 rfl (lv_room (Nat.le_of_ble_eq_true rfl)) dX0_drawOneMetre_36 ⟨Nat.le_of_ble_eq_true rfl, Nat.le_of_ble_eq_true rfl⟩) 0 0 (Nat.le_of_ble_eq_true rfl) (Nat.le_of_ble_eq_true rfl) (fun rr_20 S_21 H locs hp hw hfr hnw => ?_)
    obtain ⟨e2, hp⟩ := hp
    subst e2
    rcases hp with ⟨f_22, er_23⟩ | ⟨f_22, er_23⟩ <;> subst er_23
    · have z_b_24 := trivial
      refine lv_if_eq (tgt := 47) X.1 X.2.1 dX0_drawOneMetre_39 (by decide) (fun c_25 => absurd c_25 (by decide)) (fun c_25 => ?_)
      refine lv_aload_n X.1 X.2.1 dX0_drawOneMetre_42 rfl (lv_at hl 1 rfl) ?_
      refine lv_iconst (v := 3) X.1 X.2.1 dX0_drawOneMetre_43 (by decide) ?_
      refine r_putI (v := 3) X hw t_15 rfl 3 3 tyX0 (by decide) rfl inn_X0_drawOneMetre_0 tyX0_ok nmX0 (by decide) (X.2.2.2.1 (.fieldLink RX0 9 "SilkMill$Cocoon" "stand" "I") (by decide +kernel)) rfl (Or.inl rfl) rfl rfl (Nat.le_of_ble_eq_true rfl) (st_3 _ _) dX0_drawOneMetre_44 (fun H locs hw => ?_)
      obtain ⟨S_26, eS_26⟩ : ∃ T, T = sI S_12 3 x (3) := ⟨_, rfl⟩
      rw [← eS_26] at hw
      have hO_27 : Ok eCO S S_26 := hO_13.sI eS_26 (by decide +kernel) (uI_0_3 hO_13.1 t_15)
      have h_28 : pI S_26 3 x = 3 := tI_sIs eS_26
      exact ret_v X hw hr hlocks (Nat.le_of_ble_eq_true rfl) (Nat.le_of_ble_eq_true rfl) ⟨hO_27, Or.inr (Or.inl ⟨(by rw [ev_5, ← ev_10]; omega), (by have h := f_22; rw [eS_12, pI_sI_nf (by decide), pI_sI_nf (by decide), pI_sI_nf (by decide)] at h; rw [ev_5]; exact h), by rw [eS_26, eS_12, ev_10, ← ev_5]⟩)⟩ dX0_drawOneMetre_47
    · have z_b_29 := trivial
      refine lv_if_eq (tgt := 47) X.1 X.2.1 dX0_drawOneMetre_39 (by decide) (fun c_30 => ?_) (fun c_30 => absurd c_30 (by decide))
      exact ret_v X hw hr hlocks (Nat.le_of_ble_eq_true rfl) (Nat.le_of_ble_eq_true rfl) ⟨hO_13, Or.inr (Or.inr ⟨(by rw [ev_5, ← ev_10]; omega), (by have h := f_22; rw [eS_12, pI_sI_nf (by decide), pI_sI_nf (by decide), pI_sI_nf (by decide)] at h; rw [ev_5]; exact h), by rw [eS_12, ev_10, ← ev_5]⟩)⟩ dX0_drawOneMetre_47
  · have z_b_31 := trivial
    have k_32 : v_10.toInt ≥ v_1.toInt := z_nlt rfl rfl c_17
    refine lv_aload_n X.1 X.2.1 dX0_drawOneMetre_26 rfl (lv_at hl 1 rfl) ?_
    refine lv_iconst (v := 4) X.1 X.2.1 dX0_drawOneMetre_27 (by decide) ?_
    refine r_putI (v := 4) X hw t_15 rfl 3 3 tyX0 (by decide) rfl inn_X0_drawOneMetre_0 tyX0_ok nmX0 (by decide) (X.2.2.2.1 (.fieldLink RX0 9 "SilkMill$Cocoon" "stand" "I") (by decide +kernel)) rfl (Or.inl rfl) rfl rfl (Nat.le_of_ble_eq_true rfl) (st_3 _ _) dX0_drawOneMetre_28 (fun H locs hw => ?_)
    obtain ⟨S_33, eS_33⟩ : ∃ T, T = sI S_12 3 x (4) := ⟨_, rfl⟩
    rw [← eS_33] at hw
    have hO_34 : Ok eCO S S_33 := hO_13.sI eS_33 (by decide +kernel) (uI_0_3 hO_13.1 t_15)
    have h_35 : pI S_33 3 x = 4 := tI_sIs eS_33
    refine lv_goto (tgt := 47) X.1 X.2.1 dX0_drawOneMetre_31 (by decide) ?_
    exact ret_v X hw hr hlocks (Nat.le_of_ble_eq_true rfl) (Nat.le_of_ble_eq_true rfl) ⟨hO_34, Or.inl ⟨(by rw [ev_5, ← ev_10]; omega), by rw [eS_33, eS_12, ev_10, ← ev_5]⟩⟩ dX0_drawOneMetre_47
set_option maxHeartbeats 4000000 in
set_option maxRecDepth 100000 in
theorem k_X4_drawEnd5 (l : Launch) (G : va_G) (cy : Nat → ClassId) (κ : Nat → Nat) (S : PS) (sz hz : Nat) (x : Nat) (c1 : Option Nat) (a1 : Int32) (a1_z : Int) (D : Nat → Prop) (R0 : Nat) (R1 : Nat) (R2 : Nat) (Gs : Nat) (Ks : Nat) (A : Pt) (Ev : En) (hG : GX S) (ha_x : At S x 4) (hq_c1 : ∀ q, c1 = some q → At S q 0) (hz_a1 : a1.toInt = a1_z) (hp_0 : (∀ c, D c → At S c 0)) (hp_1 : PotR S x R0 R1 R2 Gs) (hp_2 : PotV S D x R0 R1 R2 Gs Ks A) (hp_3 : EnC S D x Ks Ev) (hp_4 : At S Ks 8) (hp_5 : (∀ q, c1 = some q → D q)) : Gv l yX4_drawEnd wsX4_drawEnd ({ frames := 5, cells := Phc S + 8, slots := Phs S + 15019, locals := 240 }) G cy κ S sz hz 0 0 [.ref x, va_rf c1, .int (a1)] (fun (S9 : PS) => Og eDE S S9 ∧ ((c1 = none → PotV S9 D x R0 R1 R2 Gs Ks A) ∧ (∀ c, c1 = some c → PotV S9 D x R0 R1 R2 Gs Ks (endF Ev A c)) ∧ PotX S S9 x R0 R1 R2 Gs)) := by
  rcases c1 with _ | q_c1
  · have z_b_1 := trivial
    refine ent_g (cc := cX4_drawEnd) (maxL := 3) (ret := none) (by decide) rfl (Nat.le_of_ble_eq_true rfl) ?_
    intro p e s m below meth c ls X hr hlocks hin hw hl hsz hhz
    subst hsz hhz
    have X : Cx p c cX4_drawEnd 3 s [.ref x, .null, .int (a1)].toArray wsX4_drawEnd RX4 m G cy κ (AS S s.heap.size) := X
    have hl : lv_has ls 3 [(0, .ref x), (1, .null), (2, .int (a1))] := hl
    have rg_a1 : (-2147483648) ≤ a1_z ∧ a1_z ≤ 2147483647 := by rw [← hz_a1]; exact ⟨z_lo _, z_hi _⟩
    have hpc0 : 0 + Phc S ≤ Phc S + 0 := by omega
    have hps0 : 0 + Phs S ≤ Phs S + 0 := by omega
    have hO : Og eDE S S := Og.rf hG
    have hpr := hp_1
    obtain ⟨hr0, hr1, hr2, hr3, hne, hcn⟩ := hpr
    have haR0 := row_at hG ha_x (Or.inl hr0)
    have haR1 := row_at hG ha_x (Or.inr (Or.inl hr1))
    have haR2 := row_at hG ha_x (Or.inr (Or.inr hr2))
    have haGs : At S Gs 29 := by obtain ⟨c, k1, k2⟩ := gQ_4_403 hG ha_x; have h3 := hr3; rw [k1] at h3; cases h3; exact k2
    have hpv := hp_2
    obtain ⟨pv_2, pv_3, pv_4, pv_5, pv_6, pv_7, pv_8, pv_9, pv_10, pv_11, pv_12⟩ := hpv
    obtain ⟨v_13, ev_13⟩ : ∃ v, pI S 902 Gs = v := ⟨_, rfl⟩
    have rg_14 := gI_29_902 hO.1 haGs; rw [ev_13] at rg_14
    have pz_15 : (pI S 902 Gs).toInt = v_13.toInt := by rw [ev_13]
    have pz_16 : (pI S 902 Gs).toInt = v_13.toInt := (congrArg Int32.toInt ev_13).trans rfl
    obtain ⟨v_17, ev_17⟩ : ∃ v, pI S 800 Ks = v := ⟨_, rfl⟩
    have rg_18 := gI_8_800 hO.1 hp_4; rw [ev_17] at rg_18
    have pz_19 : (pI S 800 Ks).toInt = v_17.toInt := by rw [ev_17]
    have pz_20 : (pI S 800 Ks).toInt = v_17.toInt := (congrArg Int32.toInt ev_17).trans rfl
    refine lv_aload_nN X.1 X.2.1 dX4_drawEnd_0 rfl (lv_at hl 1 rfl) ?_
    refine lv_ifnonnullN X.1 X.2.1 dX4_drawEnd_1 ?_
    have pz_21 : (pI S 902 Gs).toInt = v_13.toInt := (congrArg Int32.toInt ev_13).trans rfl
    have pz_22 : (pI S 800 Ks).toInt = v_17.toInt := (congrArg Int32.toInt ev_17).trans rfl
    exact ret_gv X hw hr hlocks (by show 0 ≤ Phc S + 8; omega) (by show 0 ≤ Phs S + 15019; omega) (by omega) (by omega) ⟨hO, ⟨fun _ => PotV_of (rfl : A = A) pv_2 pv_3 pv_4 pv_5 pv_6 (show (pI S 902 Gs).toInt = (((qg A)).length : Int) by omega) pv_8 pv_9 (show (pI S 800 Ks).toInt = (((qsk A)).length : Int) by omega) pv_11 pv_12, fun c h => (by cases h), (PotX_rf S x R0 R1 R2 Gs)⟩⟩ dX4_drawEnd_4
  · have z_b_23 := trivial
    have ha_q_c1 : At S q_c1 0 := hq_c1 _ rfl
    refine ent_g (cc := cX4_drawEnd) (maxL := 3) (ret := none) (by decide) rfl (Nat.le_of_ble_eq_true rfl) ?_
    intro p e s m below meth c ls X hr hlocks hin hw hl hsz hhz
    subst hsz hhz
    have X : Cx p c cX4_drawEnd 3 s [.ref x, .ref q_c1, .int (a1)].toArray wsX4_drawEnd RX4 m G cy κ (AS S s.heap.size) := X
    have hl : lv_has ls 3 [(0, .ref x), (1, .ref q_c1), (2, .int (a1))] := hl
    have rg_a1 : (-2147483648) ≤ a1_z ∧ a1_z ≤ 2147483647 := by rw [← hz_a1]; exact ⟨z_lo _, z_hi _⟩
    have hpc0 : 0 + Phc S ≤ Phc S + 0 := by omega
    have hps0 : 0 + Phs S ≤ Phs S + 0 := by omega
    have hO : Og eDE S S := Og.rf hG
    have hpr := hp_1
    obtain ⟨hr0, hr1, hr2, hr3, hne, hcn⟩ := hpr
    have haR0 := row_at hG ha_x (Or.inl hr0)
    have haR1 := row_at hG ha_x (Or.inr (Or.inl hr1))
    have haR2 := row_at hG ha_x (Or.inr (Or.inr hr2))
    have haGs : At S Gs 29 := by obtain ⟨c, k1, k2⟩ := gQ_4_403 hG ha_x; have h3 := hr3; rw [k1] at h3; cases h3; exact k2
    have hpv := hp_2
    obtain ⟨pv_24, pv_25, pv_26, pv_27, pv_28, pv_29, pv_30, pv_31, pv_32, pv_33, pv_34⟩ := hpv
    obtain ⟨v_35, ev_35⟩ : ∃ v, pI S 902 Gs = v := ⟨_, rfl⟩
    have rg_36 := gI_29_902 hO.1 haGs; rw [ev_35] at rg_36
    have pz_37 : (pI S 902 Gs).toInt = v_35.toInt := by rw [ev_35]
    have pz_38 : (pI S 902 Gs).toInt = v_35.toInt := (congrArg Int32.toInt ev_35).trans rfl
    obtain ⟨v_39, ev_39⟩ : ∃ v, pI S 800 Ks = v := ⟨_, rfl⟩
    have rg_40 := gI_8_800 hO.1 hp_4; rw [ev_39] at rg_40
    have pz_41 : (pI S 800 Ks).toInt = v_39.toInt := by rw [ev_39]
    have pz_42 : (pI S 800 Ks).toInt = v_39.toInt := (congrArg Int32.toInt ev_39).trans rfl
    refine lv_aload_n X.1 X.2.1 dX4_drawEnd_0 rfl (lv_at hl 1 rfl) ?_
    refine lv_ifnonnull (tgt := 5) X.1 X.2.1 dX4_drawEnd_1 (by decide) ?_
    refine lv_aload_n X.1 X.2.1 dX4_drawEnd_5 rfl (lv_at hl 0 rfl) ?_
    refine r_getR (g := 403) X hw ha_x rfl 3 hr3 (by decide) rfl inn_X4_drawEnd_4 (by decide) (X.2.2.2.1 (.fieldLink RX4 29 "SilkMill$Pot" "strand" "LSilkMill$Strand;") (by decide +kernel)) rfl (gv_403 _ _) dX4_drawEnd_6 ?_
    refine lv_aload_n X.1 X.2.1 dX4_drawEnd_9 rfl (lv_at hl 1 rfl) ?_
    refine lv_iload_n X.1 X.2.1 dX4_drawEnd_10 rfl (lv_at hl 2 rfl) ?_
    refine k_gv (kc := 0) (ks := 0) (rm := { frames := 4, cells := Phc S + 4, slots := Phs S + 14400, locals := 192 }) (av := [.ref Gs, .ref q_c1, .int (a1)]) X hw (va_runV (As := [.ref q_c1, .int (a1)]) (rest := []) (cfix X) (k_X9_addMetreOf l G cy κ S _ _ Gs q_c1 (a1) (a1_z) hO.1 haGs ha_q_c1 hz_a1) (cwV 2 X.2.2.2.1 gX4_drawEnd_X9_addMetreOf rfl rfl rfl (by decide +kernel) ⟨Nat.le_of_ble_eq_true rfl, Nat.le_of_ble_eq_true rfl⟩) (pre_gV X hw _ haGs rfl (by decide) rfl) rfl rfl hl.1 rfl (lv_room (Nat.le_of_ble_eq_true rfl)) dX4_drawEnd_11 ⟨(by show 0 + (Phc S + 4) ≤ Phc S + 8; omega), (by show 0 + (Phs S + 14400) ≤ Phs S + 15019; omega)⟩) (fun S_44 H locs c_45 n_46 hc_45 hn_46 hp hw => ?_)
    obtain ⟨hk_47, hp⟩ := hp
    have ph_48 : c_45 + Phc S_44 ≤ Phc S + 0 := by omega
    have ph_49 : n_46 + Phs S_44 ≤ Phs S + 0 := by omega
    clear hpc0
    clear hps0
    clear hc_45
    clear hn_46
    have hO_50 : Og eDE S S_44 := hO.call hk_47 (by decide +kernel)
    refine lv_aload_n X.1 X.2.1 dX4_drawEnd_14 rfl (lv_at hl 1 rfl) ?_
    have en_51 : EnC S_44 D x Ks Ev := EnC_fr hk_47.fr hp_0 ha_x hp_4 (by decide +kernel) hp_3
    have co_52 : CoP S_44 D (qpl A) (qsd A) := CoP_fr hk_47.fr hp_0 (by decide +kernel) pv_33
    have t_53 : At S_44 q_c1 0 := hk_47.fr.at ha_q_c1
    refine k_v (rm := { frames := 3, cells := 0, slots := 0, locals := 144 }) (av := [.ref q_c1]) X hw (va_runV (As := []) (rest := []) (cfix X) (k_X0_drawOneMetre5 l G cy κ S_44 _ q_c1 hO_50.1 t_53) (cwV 0 X.2.2.2.1 gX4_drawEnd_X0_drawOneMetre rfl rfl rfl (by decide +kernel) ⟨Nat.le_of_ble_eq_true rfl, Nat.le_of_ble_eq_true rfl⟩) (pre_V X hw _ t_53 rfl (by decide) rfl) rfl rfl hl.1 rfl (lv_room (Nat.le_of_ble_eq_true rfl)) dX4_drawEnd_15 ⟨(by show c_45 + 0 ≤ Phc S + 8; omega), (by show n_46 + 0 ≤ Phs S + 15019; omega)⟩) c_45 n_46 (by show c_45 + 0 ≤ c_45; omega) (by show n_46 + 0 ≤ n_46; omega) (fun S_55 H locs hp hw hfr hnw => ?_)
    obtain ⟨hk_56, hp⟩ := hp
    have ph_57 : c_45 + Phc S_55 ≤ Phc S + 0 := by rw [show Phc S_55 = Phc S_44 from Ph_ok hO_50.1 hk_56 (by decide +kernel) (by decide +kernel) (by decide +kernel)]; exact ph_48
    have ph_58 : n_46 + Phs S_55 ≤ Phs S + 0 := by rw [show Phs S_55 = Phs S_44 from Ph_ok hO_50.1 hk_56 (by decide +kernel) (by decide +kernel) (by decide +kernel)]; exact ph_49
    clear ph_48
    clear ph_49
    have hO_59 : Og eDE S S_55 := hO_50.call hk_56.og (by decide +kernel)
    have dc_60 := DrO_co (A := A) en_51 co_52 (hp_5 _ rfl) hp
    refine lv_aload_n X.1 X.2.1 dX4_drawEnd_18 rfl (lv_at hl 1 rfl) ?_
    have t_61 : At S_55 q_c1 0 := hk_56.fr.at t_53
    obtain ⟨v_62, ev_62⟩ : ∃ v, pI S_55 3 q_c1 = v := ⟨_, rfl⟩
    have rg_64 := And.intro (z_lo v_62) (z_hi v_62)
    have pz_65 : (pI S_55 3 q_c1).toInt = v_62.toInt := by rw [ev_62]
    refine r_getI (g := 3) (x := v_62) X hw t_61 rfl 3 ev_62 (by decide) rfl inn_X4_drawEnd_0 (by decide) (X.2.2.2.1 (.fieldLink RX4 53 "SilkMill$Cocoon" "stand" "I") (by decide +kernel)) rfl (gv_3 _ _) dX4_drawEnd_19 ?_
    have sv_66 : (sdV Ev A q_c1).toInt = v_62.toInt := by rw [← dc_60.2, ev_62]
    refine lv_iconst (v := 2) X.1 X.2.1 dX4_drawEnd_22 (by decide) ?_
    refine lv_icmp_ne (tgt := 37) X.1 X.2.1 dX4_drawEnd_23 (by decide) (fun c_67 => ?_) (fun c_67 => ?_)
    · have z_b_68 := trivial
      have k_69 : v_62.toInt ≠ 2 := z_ne rfl ti_2 c_67
      refine lv_aload_n X.1 X.2.1 dX4_drawEnd_37 rfl (lv_at hl 1 rfl) ?_
      refine r_getI (g := 3) (x := v_62) X hw t_61 rfl 3 ev_62 (by decide) rfl inn_X4_drawEnd_0 (by decide) (X.2.2.2.1 (.fieldLink RX4 53 "SilkMill$Cocoon" "stand" "I") (by decide +kernel)) rfl (gv_3 _ _) dX4_drawEnd_38 ?_
      refine lv_iconst (v := 3) X.1 X.2.1 dX4_drawEnd_41 (by decide) ?_
      refine lv_icmp_ne (tgt := 53) X.1 X.2.1 dX4_drawEnd_42 (by decide) (fun c_70 => ?_) (fun c_70 => ?_)
      · have z_b_71 := trivial
        have k_72 : v_62.toInt ≠ 3 := z_ne rfl ti_3 c_70
        have px_73 : PotX S S_44 x R0 R1 R2 Gs := PotX_fr (PotX_rf S x R0 R1 R2 Gs) (fun _ _ h => h) hO.1 hk_47.fr (by decide +kernel)
        have ax_75 : ∀ a k, At S a k → At S_44 a k := fun a k h => hk_47.fr.at ((fun _ _ h => h) a k h)
        have px_74 : PotX S S_55 x R0 R1 R2 Gs := PotX_fr px_73 ax_75 hO_50.1 hk_56.fr (by decide +kernel)
        have rw_76 : RowIs S_44 R0 (qb A) 600 := RowIs_fr hO.1 haR0 hk_47.fr (by decide +kernel) pv_24
        have t_78 : At S_44 R0 5 := hk_47.fr.at haR0
        have rw_77 : RowIs S_55 R0 (qb A) 600 := RowIs_fr hO_50.1 t_78 hk_56.fr (by decide +kernel) rw_76
        have rw_79 : RowIs S_44 R1 (qe A) 12 := RowIs_fr hO.1 haR1 hk_47.fr (by decide +kernel) pv_25
        have t_81 : At S_44 R1 5 := hk_47.fr.at haR1
        have rw_80 : RowIs S_55 R1 (qe A) 12 := RowIs_fr hO_50.1 t_81 hk_56.fr (by decide +kernel) rw_79
        have rw_82 : RowIs S_44 R2 (ql A) 600 := RowIs_fr hO.1 haR2 hk_47.fr (by decide +kernel) pv_26
        have t_84 : At S_44 R2 5 := hk_47.fr.at haR2
        have rw_83 : RowIs S_55 R2 (ql A) 600 := RowIs_fr hO_50.1 t_84 hk_56.fr (by decide +kernel) rw_82
        have co_85 : CoP S_55 D (fuI (qpl A) q_c1 (qpl A q_c1 + 1)) (fuI (qsd A) q_c1 (sdV Ev A q_c1)) := dc_60.1
        have t_86 : pI S_44 405 x = (qst A) := hk_47.fr.I' (by decide +kernel) ha_x pv_27
        have t_88 : At S_44 x 4 := hk_47.fr.at ha_x
        have t_87 : pI S_55 405 x = (qst A) := hk_56.fr.I' (by decide +kernel) t_88 t_86
        have t_89 : pI S_44 406 x = (qse A) := hk_47.fr.I' (by decide +kernel) ha_x pv_28
        have t_90 : pI S_55 406 x = (qse A) := hk_56.fr.I' (by decide +kernel) t_88 t_89
        have t_91 : pI S_44 902 Gs = v_35 := hk_47.fr.I' (by decide +kernel) haGs ev_35
        have t_93 : At S_44 Gs 29 := hk_47.fr.at haGs
        have t_92 : pI S_55 902 Gs = v_35 := hk_56.fr.I' (by decide +kernel) t_93 t_91
        have pz_94 : (pI S_55 902 Gs).toInt = v_35.toInt := (congrArg Int32.toInt t_92).trans rfl
        have t_95 : pI S_44 407 x = (qdr A) := hk_47.fr.I' (by decide +kernel) ha_x pv_30
        have t_96 : pI S_55 407 x = (qdr A) := hk_56.fr.I' (by decide +kernel) t_88 t_95
        have t_97 : pI S_44 408 x = (qtk A) := hk_47.fr.I' (by decide +kernel) ha_x pv_31
        have t_98 : pI S_55 408 x = (qtk A) := hk_56.fr.I' (by decide +kernel) t_88 t_97
        have t_99 : pI S_44 800 Ks = v_39 := hk_47.fr.I' (by decide +kernel) hp_4 ev_39
        have t_101 : At S_44 Ks 8 := hk_47.fr.at hp_4
        have t_100 : pI S_55 800 Ks = v_39 := hk_56.fr.I' (by decide +kernel) t_101 t_99
        have pz_102 : (pI S_55 800 Ks).toInt = v_39.toInt := (congrArg Int32.toInt t_100).trans rfl
        exact ret_gv X hw hr hlocks (by show c_45 ≤ Phc S + 8; omega) (by show n_46 ≤ Phs S + 15019; omega) (by omega) (by omega) ⟨hO_59, ⟨fun h => (by cases h), fun c h => (by cases h; exact PotV_of (endF_n (i32_ne sv_66 t2 (by omega)) (i32_ne sv_66 t3 (by omega))) rw_77 rw_80 rw_83 t_87 t_90 (show (pI S_55 902 Gs).toInt = (((qg A)).length : Int) by omega) t_96 t_98 (show (pI S_55 800 Ks).toInt = (((qsk A)).length : Int) by omega) co_85 (inD_end pv_34 (hp_5 _ rfl))), px_74⟩⟩ dX4_drawEnd_53
      · have z_b_103 := trivial
        have k_104 : v_62.toInt = 3 := z_eq rfl ti_3 c_70
        refine lv_aload_n X.1 X.2.1 dX4_drawEnd_45 rfl (lv_at hl 0 rfl) ?_
        have t_105 : At S_44 x 4 := hk_47.fr.at ha_x
        have t_106 : At S_55 x 4 := hk_56.fr.at t_105
        have t_107 : pR S_44 402 x = some R2 := hk_47.fr.R' (by decide +kernel) ha_x hr2
        have t_109 : At S_44 x 4 := hk_47.fr.at ha_x
        have t_108 : pR S_55 402 x = some R2 := hk_56.fr.R' (by decide +kernel) t_109 t_107
        refine r_getR (g := 402) X hw t_106 rfl 2 t_108 (by decide) rfl inn_X4_drawEnd_4 (by decide) (X.2.2.2.1 (.fieldLink RX4 23 "SilkMill$Pot" "lost" "LSilkMill$Row;") (by decide +kernel)) rfl (gv_402 _ _) dX4_drawEnd_46 ?_
        refine lv_aload_n X.1 X.2.1 dX4_drawEnd_49 rfl (lv_at hl 1 rfl) ?_
        have t_110 : At S_44 R2 5 := hk_47.fr.at haR2
        have t_111 : At S_55 R2 5 := hk_56.fr.at t_110
        have rw_112 : RowIs S_44 R2 (ql A) 600 := RowIs_fr hO.1 haR2 hk_47.fr (by decide +kernel) pv_26
        have t_114 : At S_44 R2 5 := hk_47.fr.at haR2
        have rw_113 : RowIs S_55 R2 (ql A) 600 := RowIs_fr hO_50.1 t_114 hk_56.fr (by decide +kernel) rw_112
        refine k_v (rm := { frames := 2, cells := 0, slots := 0, locals := 96 }) (av := [.ref R2, .ref q_c1]) X hw (va_runV (As := [.ref q_c1]) (rest := []) (cfix X) (k_X5_addLast5 l G cy κ S_55 _ R2 q_c1 (ql A) 600 hO_59.1 t_111 t_61 rw_113) (cwV 1 X.2.2.2.1 gX4_drawEnd_X5_addLast rfl rfl rfl (by decide +kernel) ⟨Nat.le_of_ble_eq_true rfl, Nat.le_of_ble_eq_true rfl⟩) (pre_V X hw _ t_111 rfl (by decide) rfl) rfl rfl hl.1 rfl (lv_room (Nat.le_of_ble_eq_true rfl)) dX4_drawEnd_50 ⟨(by show c_45 + 0 ≤ Phc S + 8; omega), (by show n_46 + 0 ≤ Phs S + 15019; omega)⟩) c_45 n_46 (by show c_45 + 0 ≤ c_45; omega) (by show n_46 + 0 ≤ n_46; omega) (fun S_116 H locs hp hw hfr hnw => ?_)
        obtain ⟨hk_117, hp⟩ := hp
        have ph_118 : c_45 + Phc S_116 ≤ Phc S + 0 := by rw [show Phc S_116 = Phc S_55 from Ph_ok hO_59.1 hk_117 (by decide +kernel) (by decide +kernel) (by decide +kernel)]; exact ph_57
        have ph_119 : n_46 + Phs S_116 ≤ Phs S + 0 := by rw [show Phs S_116 = Phs S_55 from Ph_ok hO_59.1 hk_117 (by decide +kernel) (by decide +kernel) (by decide +kernel)]; exact ph_58
        clear ph_57
        clear ph_58
        have hO_120 : Og eDE S S_116 := hO_59.call hk_117.og (by decide +kernel)
        obtain ⟨hx_121, hr_122⟩ := hp
        have px_123 : PotX S S_44 x R0 R1 R2 Gs := PotX_fr (PotX_rf S x R0 R1 R2 Gs) (fun _ _ h => h) hO.1 hk_47.fr (by decide +kernel)
        have ax_125 : ∀ a k, At S a k → At S_44 a k := fun a k h => hk_47.fr.at ((fun _ _ h => h) a k h)
        have px_124 : PotX S S_55 x R0 R1 R2 Gs := PotX_fr px_123 ax_125 hO_50.1 hk_56.fr (by decide +kernel)
        have ax_127 : ∀ a k, At S a k → At S_55 a k := fun a k h => hk_56.fr.at (ax_125 a k h)
        have px_126 : PotX S S_116 x R0 R1 R2 Gs := PotX_row px_124 ax_127 haR0 haR1 haR2 (Or.inr (Or.inr rfl)) hx_121 hk_117.fr (by decide +kernel)
        have rw_128 : RowIs S_44 R0 (qb A) 600 := RowIs_fr hO.1 haR0 hk_47.fr (by decide +kernel) pv_24
        have t_130 : At S_44 R0 5 := hk_47.fr.at haR0
        have rw_129 : RowIs S_55 R0 (qb A) 600 := RowIs_fr hO_50.1 t_130 hk_56.fr (by decide +kernel) rw_128
        have pr_132 : PotR S_44 x R0 R1 R2 Gs := PotR_fr hO.1 ha_x hk_47.fr (by decide +kernel) hp_1
        have pr_133 : PotR S_55 x R0 R1 R2 Gs := PotR_fr hO_50.1 t_109 hk_56.fr (by decide +kernel) pr_132
        have rw_131 : RowIs S_116 R0 (qb A) 600 := hx_121.2 _ hne.2.1 pr_133.2.2.2.2.2.2.1 _ _ rw_129
        have rw_134 : RowIs S_44 R1 (qe A) 12 := RowIs_fr hO.1 haR1 hk_47.fr (by decide +kernel) pv_25
        have t_136 : At S_44 R1 5 := hk_47.fr.at haR1
        have rw_135 : RowIs S_55 R1 (qe A) 12 := RowIs_fr hO_50.1 t_136 hk_56.fr (by decide +kernel) rw_134
        have rw_137 : RowIs S_116 R1 (qe A) 12 := hx_121.2 _ hne.2.2 pr_133.2.2.2.2.2.2.2 _ _ rw_135
        have co_138 : CoP S_55 D (fuI (qpl A) q_c1 (qpl A q_c1 + 1)) (fuI (qsd A) q_c1 (sdV Ev A q_c1)) := dc_60.1
        have dt_140 : ∀ c, D c → At S_44 c 0 := fun c h => hk_47.fr.at (hp_0 c h)
        have dt_141 : ∀ c, D c → At S_55 c 0 := fun c h => hk_56.fr.at (dt_140 c h)
        have co_139 : CoP S_116 D (fuI (qpl A) q_c1 (qpl A q_c1 + 1)) (fuI (qsd A) q_c1 (sdV Ev A q_c1)) := CoP_fr hk_117.fr dt_141 (by decide +kernel) co_138
        have t_142 : pI S_44 405 x = (qst A) := hk_47.fr.I' (by decide +kernel) ha_x pv_27
        have t_143 : pI S_55 405 x = (qst A) := hk_56.fr.I' (by decide +kernel) t_109 t_142
        have t_144 : pI S_116 405 x = (qst A) := hk_117.fr.I' (by decide +kernel) t_106 t_143
        have t_145 : pI S_44 406 x = (qse A) := hk_47.fr.I' (by decide +kernel) ha_x pv_28
        have t_146 : pI S_55 406 x = (qse A) := hk_56.fr.I' (by decide +kernel) t_109 t_145
        have t_147 : pI S_116 406 x = (qse A) := hk_117.fr.I' (by decide +kernel) t_106 t_146
        have t_148 : pI S_44 902 Gs = v_35 := hk_47.fr.I' (by decide +kernel) haGs ev_35
        have t_150 : At S_44 Gs 29 := hk_47.fr.at haGs
        have t_149 : pI S_55 902 Gs = v_35 := hk_56.fr.I' (by decide +kernel) t_150 t_148
        have t_152 : At S_55 Gs 29 := hk_56.fr.at t_150
        have t_151 : pI S_116 902 Gs = v_35 := hk_117.fr.I' (by decide +kernel) t_152 t_149
        have pz_153 : (pI S_116 902 Gs).toInt = v_35.toInt := (congrArg Int32.toInt t_151).trans rfl
        have t_154 : pI S_44 407 x = (qdr A) := hk_47.fr.I' (by decide +kernel) ha_x pv_30
        have t_155 : pI S_55 407 x = (qdr A) := hk_56.fr.I' (by decide +kernel) t_109 t_154
        have t_156 : pI S_116 407 x = (qdr A) := hk_117.fr.I' (by decide +kernel) t_106 t_155
        have t_157 : pI S_44 408 x = (qtk A) := hk_47.fr.I' (by decide +kernel) ha_x pv_31
        have t_158 : pI S_55 408 x = (qtk A) := hk_56.fr.I' (by decide +kernel) t_109 t_157
        have t_159 : pI S_116 408 x = (qtk A) := hk_117.fr.I' (by decide +kernel) t_106 t_158
        have t_160 : pI S_44 800 Ks = v_39 := hk_47.fr.I' (by decide +kernel) hp_4 ev_39
        have t_162 : At S_44 Ks 8 := hk_47.fr.at hp_4
        have t_161 : pI S_55 800 Ks = v_39 := hk_56.fr.I' (by decide +kernel) t_162 t_160
        have t_164 : At S_55 Ks 8 := hk_56.fr.at t_162
        have t_163 : pI S_116 800 Ks = v_39 := hk_117.fr.I' (by decide +kernel) t_164 t_161
        have pz_165 : (pI S_116 800 Ks).toInt = v_39.toInt := (congrArg Int32.toInt t_163).trans rfl
        exact ret_gv X hw hr hlocks (by show c_45 ≤ Phc S + 8; omega) (by show n_46 ≤ Phs S + 15019; omega) (by omega) (by omega) ⟨hO_120, ⟨fun h => (by cases h), fun c h => (by cases h; exact PotV_of (endF_3 (i32_eq sv_66 t3 (by omega))) rw_131 rw_137 hr_122 t_144 t_147 (show (pI S_116 902 Gs).toInt = (((qg A)).length : Int) by omega) t_156 t_159 (show (pI S_116 800 Ks).toInt = (((qsk A)).length : Int) by omega) co_139 (inD_end pv_34 (hp_5 _ rfl))), px_126⟩⟩ dX4_drawEnd_53
    · have z_b_166 := trivial
      have k_167 : v_62.toInt = 2 := z_eq rfl ti_2 c_67
      refine lv_aload_n X.1 X.2.1 dX4_drawEnd_26 rfl (lv_at hl 0 rfl) ?_
      have t_168 : At S_44 x 4 := hk_47.fr.at ha_x
      have t_169 : At S_55 x 4 := hk_56.fr.at t_168
      have t_170 : pR S_44 401 x = some R1 := hk_47.fr.R' (by decide +kernel) ha_x hr1
      have t_172 : At S_44 x 4 := hk_47.fr.at ha_x
      have t_171 : pR S_55 401 x = some R1 := hk_56.fr.R' (by decide +kernel) t_172 t_170
      refine r_getR (g := 401) X hw t_169 rfl 1 t_171 (by decide) rfl inn_X4_drawEnd_4 (by decide) (X.2.2.2.1 (.fieldLink RX4 20 "SilkMill$Pot" "ends" "LSilkMill$Row;") (by decide +kernel)) rfl (gv_401 _ _) dX4_drawEnd_27 ?_
      refine lv_aload_n X.1 X.2.1 dX4_drawEnd_30 rfl (lv_at hl 1 rfl) ?_
      have t_173 : At S_44 R1 5 := hk_47.fr.at haR1
      have t_174 : At S_55 R1 5 := hk_56.fr.at t_173
      have rw_175 : RowIs S_44 R1 (qe A) 12 := RowIs_fr hO.1 haR1 hk_47.fr (by decide +kernel) pv_25
      have t_177 : At S_44 R1 5 := hk_47.fr.at haR1
      have rw_176 : RowIs S_55 R1 (qe A) 12 := RowIs_fr hO_50.1 t_177 hk_56.fr (by decide +kernel) rw_175
      refine k_v (rm := { frames := 2, cells := 0, slots := 0, locals := 96 }) (av := [.ref R1, .ref q_c1]) X hw (va_runV (As := [.ref q_c1]) (rest := []) (cfix X) (k_X5_addLast5 l G cy κ S_55 _ R1 q_c1 (qe A) 12 hO_59.1 t_174 t_61 rw_176) (cwV 1 X.2.2.2.1 gX4_drawEnd_X5_addLast rfl rfl rfl (by decide +kernel) ⟨Nat.le_of_ble_eq_true rfl, Nat.le_of_ble_eq_true rfl⟩) (pre_V X hw _ t_174 rfl (by decide) rfl) rfl rfl hl.1 rfl (lv_room (Nat.le_of_ble_eq_true rfl)) dX4_drawEnd_31 ⟨(by show c_45 + 0 ≤ Phc S + 8; omega), (by show n_46 + 0 ≤ Phs S + 15019; omega)⟩) c_45 n_46 (by show c_45 + 0 ≤ c_45; omega) (by show n_46 + 0 ≤ n_46; omega) (fun S_179 H locs hp hw hfr hnw => ?_)
      obtain ⟨hk_180, hp⟩ := hp
      have ph_181 : c_45 + Phc S_179 ≤ Phc S + 0 := by rw [show Phc S_179 = Phc S_55 from Ph_ok hO_59.1 hk_180 (by decide +kernel) (by decide +kernel) (by decide +kernel)]; exact ph_57
      have ph_182 : n_46 + Phs S_179 ≤ Phs S + 0 := by rw [show Phs S_179 = Phs S_55 from Ph_ok hO_59.1 hk_180 (by decide +kernel) (by decide +kernel) (by decide +kernel)]; exact ph_58
      clear ph_57
      clear ph_58
      have hO_183 : Og eDE S S_179 := hO_59.call hk_180.og (by decide +kernel)
      obtain ⟨hx_184, hr_185⟩ := hp
      refine lv_goto (tgt := 53) X.1 X.2.1 dX4_drawEnd_34 (by decide) ?_
      have px_186 : PotX S S_44 x R0 R1 R2 Gs := PotX_fr (PotX_rf S x R0 R1 R2 Gs) (fun _ _ h => h) hO.1 hk_47.fr (by decide +kernel)
      have ax_188 : ∀ a k, At S a k → At S_44 a k := fun a k h => hk_47.fr.at ((fun _ _ h => h) a k h)
      have px_187 : PotX S S_55 x R0 R1 R2 Gs := PotX_fr px_186 ax_188 hO_50.1 hk_56.fr (by decide +kernel)
      have ax_190 : ∀ a k, At S a k → At S_55 a k := fun a k h => hk_56.fr.at (ax_188 a k h)
      have px_189 : PotX S S_179 x R0 R1 R2 Gs := PotX_row px_187 ax_190 haR0 haR1 haR2 (Or.inr (Or.inl rfl)) hx_184 hk_180.fr (by decide +kernel)
      have rw_191 : RowIs S_44 R0 (qb A) 600 := RowIs_fr hO.1 haR0 hk_47.fr (by decide +kernel) pv_24
      have t_193 : At S_44 R0 5 := hk_47.fr.at haR0
      have rw_192 : RowIs S_55 R0 (qb A) 600 := RowIs_fr hO_50.1 t_193 hk_56.fr (by decide +kernel) rw_191
      have pr_195 : PotR S_44 x R0 R1 R2 Gs := PotR_fr hO.1 ha_x hk_47.fr (by decide +kernel) hp_1
      have pr_196 : PotR S_55 x R0 R1 R2 Gs := PotR_fr hO_50.1 t_172 hk_56.fr (by decide +kernel) pr_195
      have rw_194 : RowIs S_179 R0 (qb A) 600 := hx_184.2 _ hne.1 pr_196.2.2.2.2.2.1 _ _ rw_192
      have rw_197 : RowIs S_44 R2 (ql A) 600 := RowIs_fr hO.1 haR2 hk_47.fr (by decide +kernel) pv_26
      have t_199 : At S_44 R2 5 := hk_47.fr.at haR2
      have rw_198 : RowIs S_55 R2 (ql A) 600 := RowIs_fr hO_50.1 t_199 hk_56.fr (by decide +kernel) rw_197
      have rw_200 : RowIs S_179 R2 (ql A) 600 := hx_184.2 _ (Ne.symm hne.2.2) (Ne.symm pr_196.2.2.2.2.2.2.2) _ _ rw_198
      have co_201 : CoP S_55 D (fuI (qpl A) q_c1 (qpl A q_c1 + 1)) (fuI (qsd A) q_c1 (sdV Ev A q_c1)) := dc_60.1
      have dt_203 : ∀ c, D c → At S_44 c 0 := fun c h => hk_47.fr.at (hp_0 c h)
      have dt_204 : ∀ c, D c → At S_55 c 0 := fun c h => hk_56.fr.at (dt_203 c h)
      have co_202 : CoP S_179 D (fuI (qpl A) q_c1 (qpl A q_c1 + 1)) (fuI (qsd A) q_c1 (sdV Ev A q_c1)) := CoP_fr hk_180.fr dt_204 (by decide +kernel) co_201
      have t_205 : pI S_44 405 x = (qst A) := hk_47.fr.I' (by decide +kernel) ha_x pv_27
      have t_206 : pI S_55 405 x = (qst A) := hk_56.fr.I' (by decide +kernel) t_172 t_205
      have t_207 : pI S_179 405 x = (qst A) := hk_180.fr.I' (by decide +kernel) t_169 t_206
      have t_208 : pI S_44 406 x = (qse A) := hk_47.fr.I' (by decide +kernel) ha_x pv_28
      have t_209 : pI S_55 406 x = (qse A) := hk_56.fr.I' (by decide +kernel) t_172 t_208
      have t_210 : pI S_179 406 x = (qse A) := hk_180.fr.I' (by decide +kernel) t_169 t_209
      have t_211 : pI S_44 902 Gs = v_35 := hk_47.fr.I' (by decide +kernel) haGs ev_35
      have t_213 : At S_44 Gs 29 := hk_47.fr.at haGs
      have t_212 : pI S_55 902 Gs = v_35 := hk_56.fr.I' (by decide +kernel) t_213 t_211
      have t_215 : At S_55 Gs 29 := hk_56.fr.at t_213
      have t_214 : pI S_179 902 Gs = v_35 := hk_180.fr.I' (by decide +kernel) t_215 t_212
      have pz_216 : (pI S_179 902 Gs).toInt = v_35.toInt := (congrArg Int32.toInt t_214).trans rfl
      have t_217 : pI S_44 407 x = (qdr A) := hk_47.fr.I' (by decide +kernel) ha_x pv_30
      have t_218 : pI S_55 407 x = (qdr A) := hk_56.fr.I' (by decide +kernel) t_172 t_217
      have t_219 : pI S_179 407 x = (qdr A) := hk_180.fr.I' (by decide +kernel) t_169 t_218
      have t_220 : pI S_44 408 x = (qtk A) := hk_47.fr.I' (by decide +kernel) ha_x pv_31
      have t_221 : pI S_55 408 x = (qtk A) := hk_56.fr.I' (by decide +kernel) t_172 t_220
      have t_222 : pI S_179 408 x = (qtk A) := hk_180.fr.I' (by decide +kernel) t_169 t_221
      have t_223 : pI S_44 800 Ks = v_39 := hk_47.fr.I' (by decide +kernel) hp_4 ev_39
      have t_225 : At S_44 Ks 8 := hk_47.fr.at hp_4
      have t_224 : pI S_55 800 Ks = v_39 := hk_56.fr.I' (by decide +kernel) t_225 t_223
      have t_227 : At S_55 Ks 8 := hk_56.fr.at t_225
      have t_226 : pI S_179 800 Ks = v_39 := hk_180.fr.I' (by decide +kernel) t_227 t_224
      have pz_228 : (pI S_179 800 Ks).toInt = v_39.toInt := (congrArg Int32.toInt t_226).trans rfl
      exact ret_gv X hw hr hlocks (by show c_45 ≤ Phc S + 8; omega) (by show n_46 ≤ Phs S + 15019; omega) (by omega) (by omega) ⟨hO_183, ⟨fun h => (by cases h), fun c h => (by cases h; exact PotV_of (endF_2 (i32_eq sv_66 t2 (by omega))) rw_194 hr_185 rw_200 t_207 t_210 (show (pI S_179 902 Gs).toInt = (((qg A)).length : Int) by omega) t_219 t_222 (show (pI S_179 800 Ks).toInt = (((qsk A)).length : Int) by omega) co_202 (inD_end pv_34 (hp_5 _ rfl))), px_189⟩⟩ dX4_drawEnd_53
