
set_option maxHeartbeats 4000000 in
set_option maxRecDepth 100000 in
theorem k_X0_drawOneMetre5 (l : Launch) (G : va_G) (cy : Nat → ClassId) (κ : Nat → Nat) (S : PS) (sz : Nat) (x : Nat) (hG : GX S) (ha_x : At S x 0) : Cv l yX0_drawOneMetre wsX0_drawOneMetre ({ frames := 3, cells := 0, slots := 0, locals := 144 }) G cy κ S sz [.ref x] (fun (S9 : PS) => Ok eCO S S9 ∧ (DrO S S9 x)) := by
  refine ent_m (cc := cX0_drawOneMetre) (maxL := 2) (ret := none) (by decide) rfl (Nat.le_of_ble_eq_true rfl) ?_
  intro p e s m below meth c ls X hr hlocks hin hw hl hsz
  subst hsz
  have X : Cx p c cX0_drawOneMetre 2 s [.ref x].toArray wsX0_drawOneMetre RX0 m G cy κ (AS S s.heap.size) := X
  have hl : lv_has ls 2 [(0, .ref x)] := hl
  have hO : Ok eCO S S := Ok.rf hG
  obtain ⟨v_1, ev_1⟩ : ∃ v, pI S 2 x = v := ⟨_, rfl⟩
  have rg_2 := gI_0_2 hO.1 ha_x; rw [ev_1] at rg_2
  have pz_3 : (pI S 2 x).toInt = v_1.toInt := by rw [ev_1]
  have pz_4 : (pI S 2 x).toInt = v_1.toInt := (congrArg Int32.toInt ev_1).trans rfl
  obtain ⟨v_5, ev_5⟩ : ∃ v, pI S 4 x = v := ⟨_, rfl⟩
  have rg_7 := And.intro (z_lo v_5) (z_hi v_5)
  have pz_8 : (pI S 4 x).toInt = v_5.toInt := by rw [ev_5]
  have pz_9 : (pI S 4 x).toInt = v_5.toInt := (congrArg Int32.toInt ev_5).trans rfl
  refine lv_aload_n X.1 X.2.1 dX0_drawOneMetre_0 rfl (lv_at hl 0 rfl) ?_
  refine r_getI (g := 4) (x := v_5) X hw ha_x rfl 4 ev_5 (by decide) rfl inn_X0_drawOneMetre_0 (by decide) (X.2.2.2.1 (.fieldLink RX0 57 "SilkMill$Cocoon" "drawnTo" "I") (by decide +kernel)) rfl (gv_4 _ _) dX0_drawOneMetre_1 ?_
  refine lv_istore_n (lv' := [(1, .int (v_5)), (0, .ref x)]) X.1 X.2.1 dX0_drawOneMetre_4 rfl hl (by decide) rfl (fun ls hl => ?_)
  refine lv_aload_n X.1 X.2.1 dX0_drawOneMetre_5 rfl (lv_at hl 1 rfl) ?_
  refine lv_dup X.1 X.2.1 dX0_drawOneMetre_6 rfl ?_
  refine r_getI (g := 4) (x := v_5) X hw ha_x rfl 4 ev_5 (by decide) rfl inn_X0_drawOneMetre_0 (by decide) (X.2.2.2.1 (.fieldLink RX0 57 "SilkMill$Cocoon" "drawnTo" "I") (by decide +kernel)) rfl (gv_4 _ _) dX0_drawOneMetre_7 ?_
  refine lv_iconst (v := 1) X.1 X.2.1 dX0_drawOneMetre_10 (by decide) ?_
  refine lv_iadd X.1 X.2.1 dX0_drawOneMetre_11 ?_
  refine lv_topi (fun v_10 ev_10 => ?_)
  have rg_11 := And.intro (z_lo v_10) (z_hi v_10)
  refine r_putI (v := v_10) X hw ha_x rfl 4 4 tyX0 (by decide) rfl inn_X0_drawOneMetre_0 tyX0_ok nmX0 (by decide) (X.2.2.2.1 (.fieldLink RX0 57 "SilkMill$Cocoon" "drawnTo" "I") (by decide +kernel)) rfl (Or.inl rfl) rfl rfl (Nat.le_of_ble_eq_true rfl) (st_4 _ _) dX0_drawOneMetre_12 (fun H locs hw => ?_)
  obtain ⟨S_12, eS_12⟩ : ∃ T, T = sI S 4 x (v_10) := ⟨_, rfl⟩
  rw [← eS_12] at hw
  have hO_13 : Ok eCO S S_12 := hO.sI eS_12 (by decide +kernel) (uI_0_4 hO.1 ha_x)
  have h_14 : pI S_12 4 x = v_10 := tI_sIs eS_12
  refine lv_aload_n X.1 X.2.1 dX0_drawOneMetre_15 rfl (lv_at hl 1 rfl) ?_
  have t_15 : At S_12 x 0 := tAt_sI eS_12 ha_x
  refine r_getI (g := 4) (x := v_10) X hw t_15 rfl 4 h_14 (by decide) rfl inn_X0_drawOneMetre_0 (by decide) (X.2.2.2.1 (.fieldLink RX0 57 "SilkMill$Cocoon" "drawnTo" "I") (by decide +kernel)) rfl (gv_4 _ _) dX0_drawOneMetre_16 ?_
  refine lv_aload_n X.1 X.2.1 dX0_drawOneMetre_19 rfl (lv_at hl 1 rfl) ?_
  have t_16 : pI S_12 2 x = v_1 := tI_sI eS_12 rfl ev_1
  refine r_getI (g := 2) (x := v_1) X hw t_15 rfl 2 t_16 (by decide) rfl inn_X0_drawOneMetre_0 (by decide) (X.2.2.2.1 (.fieldLink RX0 40 "SilkMill$Cocoon" "length" "I") (by decide +kernel)) rfl (gv_2 _ _) dX0_drawOneMetre_20 ?_
  refine lv_icmp_lt (tgt := 34) X.1 X.2.1 dX0_drawOneMetre_23 (by decide) (fun c_17 => ?_) (fun c_17 => ?_)
  · have z_b_18 := trivial
    have k_19 : v_10.toInt < v_1.toInt := z_lt rfl rfl c_17
    refine lv_aload_n X.1 X.2.1 dX0_drawOneMetre_34 rfl (lv_at hl 1 rfl) ?_
    refine lv_iload_n X.1 X.2.1 dX0_drawOneMetre_35 rfl (lv_at hl 0 rfl) ?_
    refine k_i (rm := { frames := 2, cells := 0, slots := 0, locals := 96 }) (av := [.ref x, .int (v_5)]) X hw (va_runV (As := [.int (v_5)]) (rest := []) (cfix X) (k_X0_breaksAt3 l G cy κ S_12 _ x (v_5) (v_5.toInt) hO_13.1 t_15 rfl) (cwV 1 X.2.2.2.1 gX0_drawOneMetre_X0_breaksAt rfl rfl rfl (by decide +kernel) ⟨Nat.le_of_ble_eq_true rfl, Nat.le_of_ble_eq_true rfl⟩) (pre_V X hw _ t_15 rfl (by decide) rfl) rfl rfl hl.1 rfl (lv_room (Nat.le_of_ble_eq_true rfl)) dX0_drawOneMetre_36 ⟨Nat.le_of_ble_eq_true rfl, Nat.le_of_ble_eq_true rfl⟩) 0 0 (Nat.le_of_ble_eq_true rfl) (Nat.le_of_ble_eq_true rfl) (fun rr_20 S_21 H locs hp hw hfr hnw => ?_)
    obtain ⟨e2, hp⟩ := hp
    subst e2
    rcases hp with ⟨f_22, er_23⟩ | ⟨f_22, er_23⟩ <;> subst er_23
    · have z_b_24 := trivial
      refine lv_if_eq (tgt := 47) X.1 X.2.1 dX0_drawOneMetre_39 (by decide) (fun c_25 => absurd c_25 (by decide)) (fun c_25 => ?_)
      refine lv_aload_n X.1 X.2.1 dX0_drawOneMetre_42 rfl (lv_at hl 1 rfl) ?_
      refine lv_iconst (v := 3) X.1 X.2.1 dX0_drawOneMetre_43 (by decide) ?_
      refine r_putI (v := 3) X hw t_15 rfl 3 3 tyX0 (by decide) rfl inn_X0_drawOneMetre_0 tyX0_ok nmX0 (by decide) (X.2.2.2.1 (.fieldLink RX0 9 "SilkMill$Cocoon" "stand" "I") (by decide +kernel)) rfl (Or.inl rfl) rfl rfl (Nat.le_of_ble_eq_true rfl) (st_3 _ _) dX0_drawOneMetre_44 (fun H locs hw => ?_)
      obtain ⟨S_26, eS_26⟩ : ∃ T, T = sI S_12 3 x (3) := ⟨_, rfl⟩
      rw [← eS_26] at hw
      have hO_27 : Ok eCO S S_26 := hO_13.sI eS_26 (by decide +kernel) (uI_0_3 hO_13.1 t_15)
      have h_28 : pI S_26 3 x = 3 := tI_sIs eS_26
      exact ret_v X hw hr hlocks (Nat.le_of_ble_eq_true rfl) (Nat.le_of_ble_eq_true rfl) ⟨hO_27, Or.inr (Or.inl ⟨(by rw [ev_5, ← ev_10]; omega), (by have h := f_22; rw [eS_12, pI_sI_nf (by decide), pI_sI_nf (by decide), pI_sI_nf (by decide)] at h; rw [ev_5]; exact h), by rw [eS_26, eS_12, ev_10, ← ev_5]⟩)⟩ dX0_drawOneMetre_47
    · have z_b_29 := trivial
      refine lv_if_eq (tgt := 47) X.1 X.2.1 dX0_drawOneMetre_39 (by decide) (fun c_30 => ?_) (fun c_30 => absurd c_30 (by decide))
      exact ret_v X hw hr hlocks (Nat.le_of_ble_eq_true rfl) (Nat.le_of_ble_eq_true rfl) ⟨hO_13, Or.inr (Or.inr ⟨(by rw [ev_5, ← ev_10]; omega), (by have h := f_22; rw [eS_12, pI_sI_nf (by decide), pI_sI_nf (by decide), pI_sI_nf (by decide)] at h; rw [ev_5]; exact h), by rw [eS_12, ev_10, ← ev_5]⟩)⟩ dX0_drawOneMetre_47
  · have z_b_31 := trivial
    have k_32 : v_10.toInt ≥ v_1.toInt := z_nlt rfl rfl c_17
    refine lv_aload_n X.1 X.2.1 dX0_drawOneMetre_26 rfl (lv_at hl 1 rfl) ?_
    refine lv_iconst (v := 4) X.1 X.2.1 dX0_drawOneMetre_27 (by decide) ?_
    refine r_putI (v := 4) X hw t_15 rfl 3 3 tyX0 (by decide) rfl inn_X0_drawOneMetre_0 tyX0_ok nmX0 (by decide) (X.2.2.2.1 (.fieldLink RX0 9 "SilkMill$Cocoon" "stand" "I") (by decide +kernel)) rfl (Or.inl rfl) rfl rfl (Nat.le_of_ble_eq_true rfl) (st_3 _ _) dX0_drawOneMetre_28 (fun H locs hw => ?_)
    obtain ⟨S_33, eS_33⟩ : ∃ T, T = sI S_12 3 x (4) := ⟨_, rfl⟩
    rw [← eS_33] at hw
    have hO_34 : Ok eCO S S_33 := hO_13.sI eS_33 (by decide +kernel) (uI_0_3 hO_13.1 t_15)
    have h_35 : pI S_33 3 x = 4 := tI_sIs eS_33
    refine lv_goto (tgt := 47) X.1 X.2.1 dX0_drawOneMetre_31 (by decide) ?_
    exact ret_v X hw hr hlocks (Nat.le_of_ble_eq_true rfl) (Nat.le_of_ble_eq_true rfl) ⟨hO_34, Or.inl ⟨(by rw [ev_5, ← ev_10]; omega), by rw [eS_33, eS_12, ev_10, ← ev_5]⟩⟩ dX0_drawOneMetre_47
set_option maxHeartbeats 4000000 in
set_option maxRecDepth 100000 in
theorem k_X4_drawEnd5 (l : Launch) (G : va_G) (cy : Nat → ClassId) (κ : Nat → Nat) (S : PS) (sz hz : Nat) (x : Nat) (c1 : Option Nat) (a1 : Int32) (a1_z : Int) (D : Nat → Prop) (R0 : Nat) (R1 : Nat) (R2 : Nat) (Gs : Nat) (Ks : Nat) (A : Pt) (Ev : En) (hG : GX S) (ha_x : At S x 4) (hq_c1 : ∀ q, c1 = some q → At S q 0) (hz_a1 : a1.toInt = a1_z) (hp_0 : (∀ c, D c → At S c 0)) (hp_1 : PotR S x R0 R1 R2 Gs) (hp_2 : PotV S D x R0 R1 R2 Gs Ks A) (hp_3 : EnC S D x Ks Ev) (hp_4 : At S Ks 8) (hp_5 : (∀ q, c1 = some q → D q)) : Gv l yX4_drawEnd wsX4_drawEnd ({ frames := 5, cells := Phc S + 8, slots := Phs S + 15019, locals := 240 }) G cy κ S sz hz 0 0 [.ref x, va_rf c1, .int (a1)] (fun (S9 : PS) => Og eDE S S9 ∧ ((c1 = none → PotV S9 D x R0 R1 R2 Gs Ks A) ∧ (∀ c, c1 = some c → PotV S9 D x R0 R1 R2 Gs Ks (endF Ev A c)) ∧ PotX S S9 x R0 R1 R2 Gs)) := by
  rcases c1 with _ | q_c1
  · have z_b_1 := trivial
    refine ent_g (cc := cX4_drawEnd) (maxL := 3) (ret := none) (by decide) rfl (Nat.le_of_ble_eq_true rfl) ?_
    intro p e s m below meth c ls X hr hlocks hin hw hl hsz hhz
    subst hsz hhz
    have X : Cx p c cX4_drawEnd 3 s [.ref x, .null, .int (a1)].toArray wsX4_drawEnd RX4 m G cy κ (AS S s.heap.size) := X
    have hl : lv_has ls 3 [(0, .ref x), (1, .null), (2, .int (a1))] := hl
    have rg_a1 : (-2147483648) ≤ a1_z ∧ a1_z ≤ 2147483647 := by rw [← hz_a1]; exact ⟨z_lo _, z_hi _⟩
    have hpc0 : 0 + Phc S ≤ Phc S + 0 := by omega
    have hps0 : 0 + Phs S ≤ Phs S + 0 := by omega
    have hO : Og eDE S S := Og.rf hG
    have hpr := hp_1
    obtain ⟨hr0, hr1, hr2, hr3, hne, hcn⟩ := hpr
    have haR0 := row_at hG ha_x (Or.inl hr0)
    have haR1 := row_at hG ha_x (Or.inr (Or.inl hr1))
    have haR2 := row_at hG ha_x (Or.inr (Or.inr hr2))
    have haGs : At S Gs 29 := by obtain ⟨c, k1, k2⟩ := gQ_4_403 hG ha_x; have h3 := hr3; rw [k1] at h3; cases h3; exact k2
    have hpv := hp_2
    obtain ⟨pv_2, pv_3, pv_4, pv_5, pv_6, pv_7, pv_8, pv_9, pv_10, pv_11, pv_12⟩ := hpv
    obtain ⟨v_13, ev_13⟩ : ∃ v, pI S 902 Gs = v := ⟨_, rfl⟩
    have rg_14 := gI_29_902 hO.1 haGs; rw [ev_13] at rg_14
    have pz_15 : (pI S 902 Gs).toInt = v_13.toInt := by rw [ev_13]
    have pz_16 : (pI S 902 Gs).toInt = v_13.toInt := (congrArg Int32.toInt ev_13).trans rfl
    obtain ⟨v_17, ev_17⟩ : ∃ v, pI S 800 Ks = v := ⟨_, rfl⟩
    have rg_18 := gI_8_800 hO.1 hp_4; rw [ev_17] at rg_18
    have pz_19 : (pI S 800 Ks).toInt = v_17.toInt := by rw [ev_17]
    have pz_20 : (pI S 800 Ks).toInt = v_17.toInt := (congrArg Int32.toInt ev_17).trans rfl
    have sl_21 := pv_7.1
    have sl_22 := pv_10.1
    refine lv_aload_nN X.1 X.2.1 dX4_drawEnd_0 rfl (lv_at hl 1 rfl) ?_
    refine lv_ifnonnullN X.1 X.2.1 dX4_drawEnd_1 ?_
    exact ret_gv X hw hr hlocks (by show 0 ≤ Phc S + 8; omega) (by show 0 ≤ Phs S + 15019; omega) (by omega) (by omega) ⟨hO, ⟨fun _ => PotV_of (rfl : A = A) pv_2 pv_3 pv_4 pv_5 pv_6 pv_7 pv_8 pv_9 pv_10 pv_11 pv_12, fun c h => (by cases h), (PotX_rf S x R0 R1 R2 Gs)⟩⟩ dX4_drawEnd_4
  · have z_b_23 := trivial
    have ha_q_c1 : At S q_c1 0 := hq_c1 _ rfl
    refine ent_g (cc := cX4_drawEnd) (maxL := 3) (ret := none) (by decide) rfl (Nat.le_of_ble_eq_true rfl) ?_
    intro p e s m below meth c ls X hr hlocks hin hw hl hsz hhz
    subst hsz hhz
    have X : Cx p c cX4_drawEnd 3 s [.ref x, .ref q_c1, .int (a1)].toArray wsX4_drawEnd RX4 m G cy κ (AS S s.heap.size) := X
    have hl : lv_has ls 3 [(0, .ref x), (1, .ref q_c1), (2, .int (a1))] := hl
    have rg_a1 : (-2147483648) ≤ a1_z ∧ a1_z ≤ 2147483647 := by rw [← hz_a1]; exact ⟨z_lo _, z_hi _⟩
    have hpc0 : 0 + Phc S ≤ Phc S + 0 := by omega
    have hps0 : 0 + Phs S ≤ Phs S + 0 := by omega
    have hO : Og eDE S S := Og.rf hG
    have hpr := hp_1
    obtain ⟨hr0, hr1, hr2, hr3, hne, hcn⟩ := hpr
    have haR0 := row_at hG ha_x (Or.inl hr0)
    have haR1 := row_at hG ha_x (Or.inr (Or.inl hr1))
    have haR2 := row_at hG ha_x (Or.inr (Or.inr hr2))
    have haGs : At S Gs 29 := by obtain ⟨c, k1, k2⟩ := gQ_4_403 hG ha_x; have h3 := hr3; rw [k1] at h3; cases h3; exact k2
    have hpv := hp_2
    obtain ⟨pv_24, pv_25, pv_26, pv_27, pv_28, pv_29, pv_30, pv_31, pv_32, pv_33, pv_34⟩ := hpv
    obtain ⟨v_35, ev_35⟩ : ∃ v, pI S 902 Gs = v := ⟨_, rfl⟩
    have rg_36 := gI_29_902 hO.1 haGs; rw [ev_35] at rg_36
    have pz_37 : (pI S 902 Gs).toInt = v_35.toInt := by rw [ev_35]
    have pz_38 : (pI S 902 Gs).toInt = v_35.toInt := (congrArg Int32.toInt ev_35).trans rfl
    obtain ⟨v_39, ev_39⟩ : ∃ v, pI S 800 Ks = v := ⟨_, rfl⟩
    have rg_40 := gI_8_800 hO.1 hp_4; rw [ev_39] at rg_40
    have pz_41 : (pI S 800 Ks).toInt = v_39.toInt := by rw [ev_39]
    have pz_42 : (pI S 800 Ks).toInt = v_39.toInt := (congrArg Int32.toInt ev_39).trans rfl
    have sl_43 := pv_29.1
    have sl_44 := pv_32.1
    refine lv_aload_n X.1 X.2.1 dX4_drawEnd_0 rfl (lv_at hl 1 rfl) ?_
    refine lv_ifnonnull (tgt := 5) X.1 X.2.1 dX4_drawEnd_1 (by decide) ?_
    refine lv_aload_n X.1 X.2.1 dX4_drawEnd_5 rfl (lv_at hl 0 rfl) ?_
    refine r_getR (g := 403) X hw ha_x rfl 3 hr3 (by decide) rfl inn_X4_drawEnd_4 (by decide) (X.2.2.2.1 (.fieldLink RX4 29 "SilkMill$Pot" "strand" "LSilkMill$Strand;") (by decide +kernel)) rfl (gv_403 _ _) dX4_drawEnd_6 ?_
    refine lv_aload_n X.1 X.2.1 dX4_drawEnd_9 rfl (lv_at hl 1 rfl) ?_
    refine lv_iload_n X.1 X.2.1 dX4_drawEnd_10 rfl (lv_at hl 2 rfl) ?_
    refine k_gv (kc := 0) (ks := 0) (rm := { frames := 4, cells := Phc S + 4, slots := Phs S + 14400, locals := 192 }) (av := [.ref Gs, .ref q_c1, .int (a1)]) X hw (va_runV (As := [.ref q_c1, .int (a1)]) (rest := []) (cfix X) (k_X9_addMetreOf l G cy κ S _ _ Gs q_c1 (a1) (a1_z) hO.1 haGs ha_q_c1 hz_a1) (cwV 2 X.2.2.2.1 gX4_drawEnd_X9_addMetreOf rfl rfl rfl (by decide +kernel) ⟨Nat.le_of_ble_eq_true rfl, Nat.le_of_ble_eq_true rfl⟩) (pre_gV X hw _ haGs rfl (by decide) rfl) rfl rfl hl.1 rfl (lv_room (Nat.le_of_ble_eq_true rfl)) dX4_drawEnd_11 ⟨(by show 0 + (Phc S + 4) ≤ Phc S + 8; omega), (by show 0 + (Phs S + 14400) ≤ Phs S + 15019; omega)⟩) (fun S_46 H locs c_47 n_48 hc_47 hn_48 hp hw => ?_)
    obtain ⟨hk_49, hp⟩ := hp
    have ph_50 : c_47 + Phc S_46 ≤ Phc S + 0 := by omega
    have ph_51 : n_48 + Phs S_46 ≤ Phs S + 0 := by omega
    clear hpc0
    clear hps0
    clear hc_47
    clear hn_48
    have hO_52 : Og eDE S S_46 := hO.call hk_49 (by decide +kernel)
    refine lv_aload_n X.1 X.2.1 dX4_drawEnd_14 rfl (lv_at hl 1 rfl) ?_
    have en_53 : EnC S_46 D x Ks Ev := EnC_fr hk_49.fr hp_0 ha_x hp_4 (by decide +kernel) hp_3
    have co_54 : CoP S_46 D (qpl A) (qsd A) := CoP_fr hk_49.fr hp_0 (by decide +kernel) pv_33
    have t_55 : At S_46 q_c1 0 := hk_49.fr.at ha_q_c1
    refine k_v (rm := { frames := 3, cells := 0, slots := 0, locals := 144 }) (av := [.ref q_c1]) X hw (va_runV (As := []) (rest := []) (cfix X) (k_X0_drawOneMetre5 l G cy κ S_46 _ q_c1 hO_52.1 t_55) (cwV 0 X.2.2.2.1 gX4_drawEnd_X0_drawOneMetre rfl rfl rfl (by decide +kernel) ⟨Nat.le_of_ble_eq_true rfl, Nat.le_of_ble_eq_true rfl⟩) (pre_V X hw _ t_55 rfl (by decide) rfl) rfl rfl hl.1 rfl (lv_room (Nat.le_of_ble_eq_true rfl)) dX4_drawEnd_15 ⟨(by show c_47 + 0 ≤ Phc S + 8; omega), (by show n_48 + 0 ≤ Phs S + 15019; omega)⟩) c_47 n_48 (by show c_47 + 0 ≤ c_47; omega) (by show n_48 + 0 ≤ n_48; omega) (fun S_57 H locs hp hw hfr hnw => ?_)
    obtain ⟨hk_58, hp⟩ := hp
    have ph_59 : c_47 + Phc S_57 ≤ Phc S + 0 := by rw [show Phc S_57 = Phc S_46 from Ph_ok hO_52.1 hk_58 (by decide +kernel) (by decide +kernel) (by decide +kernel)]; exact ph_50
    have ph_60 : n_48 + Phs S_57 ≤ Phs S + 0 := by rw [show Phs S_57 = Phs S_46 from Ph_ok hO_52.1 hk_58 (by decide +kernel) (by decide +kernel) (by decide +kernel)]; exact ph_51
    clear ph_50
    clear ph_51
    have hO_61 : Og eDE S S_57 := hO_52.call hk_58.og (by decide +kernel)
    have dc_62 := DrO_co (A := A) en_53 co_54 (hp_5 _ rfl) hp
    refine lv_aload_n X.1 X.2.1 dX4_drawEnd_18 rfl (lv_at hl 1 rfl) ?_
    have t_63 : At S_57 q_c1 0 := hk_58.fr.at t_55
    obtain ⟨v_64, ev_64⟩ : ∃ v, pI S_57 3 q_c1 = v := ⟨_, rfl⟩
    have rg_66 := And.intro (z_lo v_64) (z_hi v_64)
    have pz_67 : (pI S_57 3 q_c1).toInt = v_64.toInt := by rw [ev_64]
    refine r_getI (g := 3) (x := v_64) X hw t_63 rfl 3 ev_64 (by decide) rfl inn_X4_drawEnd_0 (by decide) (X.2.2.2.1 (.fieldLink RX4 53 "SilkMill$Cocoon" "stand" "I") (by decide +kernel)) rfl (gv_3 _ _) dX4_drawEnd_19 ?_
    have sv_68 : (sdV Ev A q_c1).toInt = v_64.toInt := by rw [← dc_62.2, ev_64]
    refine lv_iconst (v := 2) X.1 X.2.1 dX4_drawEnd_22 (by decide) ?_
    refine lv_icmp_ne (tgt := 37) X.1 X.2.1 dX4_drawEnd_23 (by decide) (fun c_69 => ?_) (fun c_69 => ?_)
    · have z_b_70 := trivial
      have k_71 : v_64.toInt ≠ 2 := z_ne rfl ti_2 c_69
      refine lv_aload_n X.1 X.2.1 dX4_drawEnd_37 rfl (lv_at hl 1 rfl) ?_
      refine r_getI (g := 3) (x := v_64) X hw t_63 rfl 3 ev_64 (by decide) rfl inn_X4_drawEnd_0 (by decide) (X.2.2.2.1 (.fieldLink RX4 53 "SilkMill$Cocoon" "stand" "I") (by decide +kernel)) rfl (gv_3 _ _) dX4_drawEnd_38 ?_
      refine lv_iconst (v := 3) X.1 X.2.1 dX4_drawEnd_41 (by decide) ?_
      refine lv_icmp_ne (tgt := 53) X.1 X.2.1 dX4_drawEnd_42 (by decide) (fun c_72 => ?_) (fun c_72 => ?_)
      · have z_b_73 := trivial
        have k_74 : v_64.toInt ≠ 3 := z_ne rfl ti_3 c_72
        have px_75 : PotX S S_46 x R0 R1 R2 Gs := PotX_fr (PotX_rf S x R0 R1 R2 Gs) (fun _ _ h => h) hO.1 hk_49.fr (by decide +kernel)
        have ax_77 : ∀ a k, At S a k → At S_46 a k := fun a k h => hk_49.fr.at ((fun _ _ h => h) a k h)
        have px_76 : PotX S S_57 x R0 R1 R2 Gs := PotX_fr px_75 ax_77 hO_52.1 hk_58.fr (by decide +kernel)
        have rw_78 : RowIs S_46 R0 (qb A) 600 := RowIs_fr hO.1 haR0 hk_49.fr (by decide +kernel) pv_24
        have t_80 : At S_46 R0 5 := hk_49.fr.at haR0
        have rw_79 : RowIs S_57 R0 (qb A) 600 := RowIs_fr hO_52.1 t_80 hk_58.fr (by decide +kernel) rw_78
        have rw_81 : RowIs S_46 R1 (qe A) 12 := RowIs_fr hO.1 haR1 hk_49.fr (by decide +kernel) pv_25
        have t_83 : At S_46 R1 5 := hk_49.fr.at haR1
        have rw_82 : RowIs S_57 R1 (qe A) 12 := RowIs_fr hO_52.1 t_83 hk_58.fr (by decide +kernel) rw_81
        have rw_84 : RowIs S_46 R2 (ql A) 600 := RowIs_fr hO.1 haR2 hk_49.fr (by decide +kernel) pv_26
        have t_86 : At S_46 R2 5 := hk_49.fr.at haR2
        have rw_85 : RowIs S_57 R2 (ql A) 600 := RowIs_fr hO_52.1 t_86 hk_58.fr (by decide +kernel) rw_84
        have co_87 : CoP S_57 D (fuI (qpl A) q_c1 (qpl A q_c1 + 1)) (fuI (qsd A) q_c1 (sdV Ev A q_c1)) := dc_62.1
        have t_88 : pI S_46 405 x = (qst A) := hk_49.fr.I' (by decide +kernel) ha_x pv_27
        have t_90 : At S_46 x 4 := hk_49.fr.at ha_x
        have t_89 : pI S_57 405 x = (qst A) := hk_58.fr.I' (by decide +kernel) t_90 t_88
        have t_91 : pI S_46 406 x = (qse A) := hk_49.fr.I' (by decide +kernel) ha_x pv_28
        have t_92 : pI S_57 406 x = (qse A) := hk_58.fr.I' (by decide +kernel) t_90 t_91
        have sg_93 : StV S_46 D Gs (qg A) := StV_fr hO.1 haGs hk_49.fr (by decide +kernel) pv_29
        have t_95 : At S_46 Gs 29 := hk_49.fr.at haGs
        have sg_94 : StV S_57 D Gs (qg A) := StV_fr hO_52.1 t_95 hk_58.fr (by decide +kernel) sg_93
        have t_96 : pI S_46 407 x = (qdr A) := hk_49.fr.I' (by decide +kernel) ha_x pv_30
        have t_97 : pI S_57 407 x = (qdr A) := hk_58.fr.I' (by decide +kernel) t_90 t_96
        have t_98 : pI S_46 408 x = (qtk A) := hk_49.fr.I' (by decide +kernel) ha_x pv_31
        have t_99 : pI S_57 408 x = (qtk A) := hk_58.fr.I' (by decide +kernel) t_90 t_98
        have sk_100 : SkV S_46 D Ks (qsk A) := SkV_fr hO.1 hp_4 hk_49.fr (by decide +kernel) pv_32
        have t_102 : At S_46 Ks 8 := hk_49.fr.at hp_4
        have sk_101 : SkV S_57 D Ks (qsk A) := SkV_fr hO_52.1 t_102 hk_58.fr (by decide +kernel) sk_100
        exact ret_gv X hw hr hlocks (by show c_47 ≤ Phc S + 8; omega) (by show n_48 ≤ Phs S + 15019; omega) (by omega) (by omega) ⟨hO_61, ⟨fun h => (by cases h), fun c h => (by cases h; exact PotV_of (endF_n (i32_ne sv_68 t2 (by omega)) (i32_ne sv_68 t3 (by omega))) rw_79 rw_82 rw_85 t_89 t_92 sg_94 t_97 t_99 sk_101 co_87 (inD_end pv_34 (hp_5 _ rfl))), px_76⟩⟩ dX4_drawEnd_53
      · have z_b_103 := trivial
        have k_104 : v_64.toInt = 3 := z_eq rfl ti_3 c_72
        refine lv_aload_n X.1 X.2.1 dX4_drawEnd_45 rfl (lv_at hl 0 rfl) ?_
        have t_105 : At S_46 x 4 := hk_49.fr.at ha_x
        have t_106 : At S_57 x 4 := hk_58.fr.at t_105
        have t_107 : pR S_46 402 x = some R2 := hk_49.fr.R' (by decide +kernel) ha_x hr2
        have t_109 : At S_46 x 4 := hk_49.fr.at ha_x
        have t_108 : pR S_57 402 x = some R2 := hk_58.fr.R' (by decide +kernel) t_109 t_107
        refine r_getR (g := 402) X hw t_106 rfl 2 t_108 (by decide) rfl inn_X4_drawEnd_4 (by decide) (X.2.2.2.1 (.fieldLink RX4 23 "SilkMill$Pot" "lost" "LSilkMill$Row;") (by decide +kernel)) rfl (gv_402 _ _) dX4_drawEnd_46 ?_
        refine lv_aload_n X.1 X.2.1 dX4_drawEnd_49 rfl (lv_at hl 1 rfl) ?_
        have t_110 : At S_46 R2 5 := hk_49.fr.at haR2
        have t_111 : At S_57 R2 5 := hk_58.fr.at t_110
        have rw_112 : RowIs S_46 R2 (ql A) 600 := RowIs_fr hO.1 haR2 hk_49.fr (by decide +kernel) pv_26
        have t_114 : At S_46 R2 5 := hk_49.fr.at haR2
        have rw_113 : RowIs S_57 R2 (ql A) 600 := RowIs_fr hO_52.1 t_114 hk_58.fr (by decide +kernel) rw_112
        refine k_v (rm := { frames := 2, cells := 0, slots := 0, locals := 96 }) (av := [.ref R2, .ref q_c1]) X hw (va_runV (As := [.ref q_c1]) (rest := []) (cfix X) (k_X5_addLast5 l G cy κ S_57 _ R2 q_c1 (ql A) 600 hO_61.1 t_111 t_63 rw_113) (cwV 1 X.2.2.2.1 gX4_drawEnd_X5_addLast rfl rfl rfl (by decide +kernel) ⟨Nat.le_of_ble_eq_true rfl, Nat.le_of_ble_eq_true rfl⟩) (pre_V X hw _ t_111 rfl (by decide) rfl) rfl rfl hl.1 rfl (lv_room (Nat.le_of_ble_eq_true rfl)) dX4_drawEnd_50 ⟨(by show c_47 + 0 ≤ Phc S + 8; omega), (by show n_48 + 0 ≤ Phs S + 15019; omega)⟩) c_47 n_48 (by show c_47 + 0 ≤ c_47; omega) (by show n_48 + 0 ≤ n_48; omega) (fun S_116 H locs hp hw hfr hnw => ?_)
        obtain ⟨hk_117, hp⟩ := hp
        have ph_118 : c_47 + Phc S_116 ≤ Phc S + 0 := by rw [show Phc S_116 = Phc S_57 from Ph_ok hO_61.1 hk_117 (by decide +kernel) (by decide +kernel) (by decide +kernel)]; exact ph_59
        have ph_119 : n_48 + Phs S_116 ≤ Phs S + 0 := by rw [show Phs S_116 = Phs S_57 from Ph_ok hO_61.1 hk_117 (by decide +kernel) (by decide +kernel) (by decide +kernel)]; exact ph_60
        clear ph_59
        clear ph_60
        have hO_120 : Og eDE S S_116 := hO_61.call hk_117.og (by decide +kernel)
        obtain ⟨hx_121, hr_122⟩ := hp
        have px_123 : PotX S S_46 x R0 R1 R2 Gs := PotX_fr (PotX_rf S x R0 R1 R2 Gs) (fun _ _ h => h) hO.1 hk_49.fr (by decide +kernel)
        have ax_125 : ∀ a k, At S a k → At S_46 a k := fun a k h => hk_49.fr.at ((fun _ _ h => h) a k h)
        have px_124 : PotX S S_57 x R0 R1 R2 Gs := PotX_fr px_123 ax_125 hO_52.1 hk_58.fr (by decide +kernel)
        have ax_127 : ∀ a k, At S a k → At S_57 a k := fun a k h => hk_58.fr.at (ax_125 a k h)
        have px_126 : PotX S S_116 x R0 R1 R2 Gs := PotX_row px_124 ax_127 haR0 haR1 haR2 (Or.inr (Or.inr rfl)) hx_121 hk_117.fr (by decide +kernel)
        have rw_128 : RowIs S_46 R0 (qb A) 600 := RowIs_fr hO.1 haR0 hk_49.fr (by decide +kernel) pv_24
        have t_130 : At S_46 R0 5 := hk_49.fr.at haR0
        have rw_129 : RowIs S_57 R0 (qb A) 600 := RowIs_fr hO_52.1 t_130 hk_58.fr (by decide +kernel) rw_128
        have pr_132 : PotR S_46 x R0 R1 R2 Gs := PotR_fr hO.1 ha_x hk_49.fr (by decide +kernel) hp_1
        have pr_133 : PotR S_57 x R0 R1 R2 Gs := PotR_fr hO_52.1 t_109 hk_58.fr (by decide +kernel) pr_132
        have rw_131 : RowIs S_116 R0 (qb A) 600 := hx_121.2 _ hne.2.1 pr_133.2.2.2.2.2.2.1 _ _ rw_129
        have rw_134 : RowIs S_46 R1 (qe A) 12 := RowIs_fr hO.1 haR1 hk_49.fr (by decide +kernel) pv_25
        have t_136 : At S_46 R1 5 := hk_49.fr.at haR1
        have rw_135 : RowIs S_57 R1 (qe A) 12 := RowIs_fr hO_52.1 t_136 hk_58.fr (by decide +kernel) rw_134
        have rw_137 : RowIs S_116 R1 (qe A) 12 := hx_121.2 _ hne.2.2 pr_133.2.2.2.2.2.2.2 _ _ rw_135
        have co_138 : CoP S_57 D (fuI (qpl A) q_c1 (qpl A q_c1 + 1)) (fuI (qsd A) q_c1 (sdV Ev A q_c1)) := dc_62.1
        have dt_140 : ∀ c, D c → At S_46 c 0 := fun c h => hk_49.fr.at (hp_0 c h)
        have dt_141 : ∀ c, D c → At S_57 c 0 := fun c h => hk_58.fr.at (dt_140 c h)
        have co_139 : CoP S_116 D (fuI (qpl A) q_c1 (qpl A q_c1 + 1)) (fuI (qsd A) q_c1 (sdV Ev A q_c1)) := CoP_fr hk_117.fr dt_141 (by decide +kernel) co_138
        have t_142 : pI S_46 405 x = (qst A) := hk_49.fr.I' (by decide +kernel) ha_x pv_27
        have t_143 : pI S_57 405 x = (qst A) := hk_58.fr.I' (by decide +kernel) t_109 t_142
        have t_144 : pI S_116 405 x = (qst A) := hk_117.fr.I' (by decide +kernel) t_106 t_143
        have t_145 : pI S_46 406 x = (qse A) := hk_49.fr.I' (by decide +kernel) ha_x pv_28
        have t_146 : pI S_57 406 x = (qse A) := hk_58.fr.I' (by decide +kernel) t_109 t_145
        have t_147 : pI S_116 406 x = (qse A) := hk_117.fr.I' (by decide +kernel) t_106 t_146
        have sg_148 : StV S_46 D Gs (qg A) := StV_fr hO.1 haGs hk_49.fr (by decide +kernel) pv_29
        have t_150 : At S_46 Gs 29 := hk_49.fr.at haGs
        have sg_149 : StV S_57 D Gs (qg A) := StV_fr hO_52.1 t_150 hk_58.fr (by decide +kernel) sg_148
        have t_152 : At S_57 Gs 29 := hk_58.fr.at t_150
        have sg_151 : StV S_116 D Gs (qg A) := StV_fr hO_61.1 t_152 hk_117.fr (by decide +kernel) sg_149
        have t_153 : pI S_46 407 x = (qdr A) := hk_49.fr.I' (by decide +kernel) ha_x pv_30
        have t_154 : pI S_57 407 x = (qdr A) := hk_58.fr.I' (by decide +kernel) t_109 t_153
        have t_155 : pI S_116 407 x = (qdr A) := hk_117.fr.I' (by decide +kernel) t_106 t_154
        have t_156 : pI S_46 408 x = (qtk A) := hk_49.fr.I' (by decide +kernel) ha_x pv_31
        have t_157 : pI S_57 408 x = (qtk A) := hk_58.fr.I' (by decide +kernel) t_109 t_156
        have t_158 : pI S_116 408 x = (qtk A) := hk_117.fr.I' (by decide +kernel) t_106 t_157
        have sk_159 : SkV S_46 D Ks (qsk A) := SkV_fr hO.1 hp_4 hk_49.fr (by decide +kernel) pv_32
        have t_161 : At S_46 Ks 8 := hk_49.fr.at hp_4
        have sk_160 : SkV S_57 D Ks (qsk A) := SkV_fr hO_52.1 t_161 hk_58.fr (by decide +kernel) sk_159
        have t_163 : At S_57 Ks 8 := hk_58.fr.at t_161
        have sk_162 : SkV S_116 D Ks (qsk A) := SkV_fr hO_61.1 t_163 hk_117.fr (by decide +kernel) sk_160
        exact ret_gv X hw hr hlocks (by show c_47 ≤ Phc S + 8; omega) (by show n_48 ≤ Phs S + 15019; omega) (by omega) (by omega) ⟨hO_120, ⟨fun h => (by cases h), fun c h => (by cases h; exact PotV_of (endF_3 (i32_eq sv_68 t3 (by omega))) rw_131 rw_137 hr_122 t_144 t_147 sg_151 t_155 t_158 sk_162 co_139 (inD_end pv_34 (hp_5 _ rfl))), px_126⟩⟩ dX4_drawEnd_53
    · have z_b_164 := trivial
      have k_165 : v_64.toInt = 2 := z_eq rfl ti_2 c_69
      refine lv_aload_n X.1 X.2.1 dX4_drawEnd_26 rfl (lv_at hl 0 rfl) ?_
      have t_166 : At S_46 x 4 := hk_49.fr.at ha_x
      have t_167 : At S_57 x 4 := hk_58.fr.at t_166
      have t_168 : pR S_46 401 x = some R1 := hk_49.fr.R' (by decide +kernel) ha_x hr1
      have t_170 : At S_46 x 4 := hk_49.fr.at ha_x
      have t_169 : pR S_57 401 x = some R1 := hk_58.fr.R' (by decide +kernel) t_170 t_168
      refine r_getR (g := 401) X hw t_167 rfl 1 t_169 (by decide) rfl inn_X4_drawEnd_4 (by decide) (X.2.2.2.1 (.fieldLink RX4 20 "SilkMill$Pot" "ends" "LSilkMill$Row;") (by decide +kernel)) rfl (gv_401 _ _) dX4_drawEnd_27 ?_
      refine lv_aload_n X.1 X.2.1 dX4_drawEnd_30 rfl (lv_at hl 1 rfl) ?_
      have t_171 : At S_46 R1 5 := hk_49.fr.at haR1
      have t_172 : At S_57 R1 5 := hk_58.fr.at t_171
      have rw_173 : RowIs S_46 R1 (qe A) 12 := RowIs_fr hO.1 haR1 hk_49.fr (by decide +kernel) pv_25
      have t_175 : At S_46 R1 5 := hk_49.fr.at haR1
      have rw_174 : RowIs S_57 R1 (qe A) 12 := RowIs_fr hO_52.1 t_175 hk_58.fr (by decide +kernel) rw_173
      refine k_v (rm := { frames := 2, cells := 0, slots := 0, locals := 96 }) (av := [.ref R1, .ref q_c1]) X hw (va_runV (As := [.ref q_c1]) (rest := []) (cfix X) (k_X5_addLast5 l G cy κ S_57 _ R1 q_c1 (qe A) 12 hO_61.1 t_172 t_63 rw_174) (cwV 1 X.2.2.2.1 gX4_drawEnd_X5_addLast rfl rfl rfl (by decide +kernel) ⟨Nat.le_of_ble_eq_true rfl, Nat.le_of_ble_eq_true rfl⟩) (pre_V X hw _ t_172 rfl (by decide) rfl) rfl rfl hl.1 rfl (lv_room (Nat.le_of_ble_eq_true rfl)) dX4_drawEnd_31 ⟨(by show c_47 + 0 ≤ Phc S + 8; omega), (by show n_48 + 0 ≤ Phs S + 15019; omega)⟩) c_47 n_48 (by show c_47 + 0 ≤ c_47; omega) (by show n_48 + 0 ≤ n_48; omega) (fun S_177 H locs hp hw hfr hnw => ?_)
      obtain ⟨hk_178, hp⟩ := hp
      have ph_179 : c_47 + Phc S_177 ≤ Phc S + 0 := by rw [show Phc S_177 = Phc S_57 from Ph_ok hO_61.1 hk_178 (by decide +kernel) (by decide +kernel) (by decide +kernel)]; exact ph_59
      have ph_180 : n_48 + Phs S_177 ≤ Phs S + 0 := by rw [show Phs S_177 = Phs S_57 from Ph_ok hO_61.1 hk_178 (by decide +kernel) (by decide +kernel) (by decide +kernel)]; exact ph_60
      clear ph_59
      clear ph_60
      have hO_181 : Og eDE S S_177 := hO_61.call hk_178.og (by decide +kernel)
      obtain ⟨hx_182, hr_183⟩ := hp
      refine lv_goto (tgt := 53) X.1 X.2.1 dX4_drawEnd_34 (by decide) ?_
      have px_184 : PotX S S_46 x R0 R1 R2 Gs := PotX_fr (PotX_rf S x R0 R1 R2 Gs) (fun _ _ h => h) hO.1 hk_49.fr (by decide +kernel)
      have ax_186 : ∀ a k, At S a k → At S_46 a k := fun a k h => hk_49.fr.at ((fun _ _ h => h) a k h)
      have px_185 : PotX S S_57 x R0 R1 R2 Gs := PotX_fr px_184 ax_186 hO_52.1 hk_58.fr (by decide +kernel)
      have ax_188 : ∀ a k, At S a k → At S_57 a k := fun a k h => hk_58.fr.at (ax_186 a k h)
      have px_187 : PotX S S_177 x R0 R1 R2 Gs := PotX_row px_185 ax_188 haR0 haR1 haR2 (Or.inr (Or.inl rfl)) hx_182 hk_178.fr (by decide +kernel)
      have rw_189 : RowIs S_46 R0 (qb A) 600 := RowIs_fr hO.1 haR0 hk_49.fr (by decide +kernel) pv_24
      have t_191 : At S_46 R0 5 := hk_49.fr.at haR0
      have rw_190 : RowIs S_57 R0 (qb A) 600 := RowIs_fr hO_52.1 t_191 hk_58.fr (by decide +kernel) rw_189
      have pr_193 : PotR S_46 x R0 R1 R2 Gs := PotR_fr hO.1 ha_x hk_49.fr (by decide +kernel) hp_1
      have pr_194 : PotR S_57 x R0 R1 R2 Gs := PotR_fr hO_52.1 t_170 hk_58.fr (by decide +kernel) pr_193
      have rw_192 : RowIs S_177 R0 (qb A) 600 := hx_182.2 _ hne.1 pr_194.2.2.2.2.2.1 _ _ rw_190
      have rw_195 : RowIs S_46 R2 (ql A) 600 := RowIs_fr hO.1 haR2 hk_49.fr (by decide +kernel) pv_26
      have t_197 : At S_46 R2 5 := hk_49.fr.at haR2
      have rw_196 : RowIs S_57 R2 (ql A) 600 := RowIs_fr hO_52.1 t_197 hk_58.fr (by decide +kernel) rw_195
      have rw_198 : RowIs S_177 R2 (ql A) 600 := hx_182.2 _ (Ne.symm hne.2.2) (Ne.symm pr_194.2.2.2.2.2.2.2) _ _ rw_196
      have co_199 : CoP S_57 D (fuI (qpl A) q_c1 (qpl A q_c1 + 1)) (fuI (qsd A) q_c1 (sdV Ev A q_c1)) := dc_62.1
      have dt_201 : ∀ c, D c → At S_46 c 0 := fun c h => hk_49.fr.at (hp_0 c h)
      have dt_202 : ∀ c, D c → At S_57 c 0 := fun c h => hk_58.fr.at (dt_201 c h)
      have co_200 : CoP S_177 D (fuI (qpl A) q_c1 (qpl A q_c1 + 1)) (fuI (qsd A) q_c1 (sdV Ev A q_c1)) := CoP_fr hk_178.fr dt_202 (by decide +kernel) co_199
      have t_203 : pI S_46 405 x = (qst A) := hk_49.fr.I' (by decide +kernel) ha_x pv_27
      have t_204 : pI S_57 405 x = (qst A) := hk_58.fr.I' (by decide +kernel) t_170 t_203
      have t_205 : pI S_177 405 x = (qst A) := hk_178.fr.I' (by decide +kernel) t_167 t_204
      have t_206 : pI S_46 406 x = (qse A) := hk_49.fr.I' (by decide +kernel) ha_x pv_28
      have t_207 : pI S_57 406 x = (qse A) := hk_58.fr.I' (by decide +kernel) t_170 t_206
      have t_208 : pI S_177 406 x = (qse A) := hk_178.fr.I' (by decide +kernel) t_167 t_207
      have sg_209 : StV S_46 D Gs (qg A) := StV_fr hO.1 haGs hk_49.fr (by decide +kernel) pv_29
      have t_211 : At S_46 Gs 29 := hk_49.fr.at haGs
      have sg_210 : StV S_57 D Gs (qg A) := StV_fr hO_52.1 t_211 hk_58.fr (by decide +kernel) sg_209
      have t_213 : At S_57 Gs 29 := hk_58.fr.at t_211
      have sg_212 : StV S_177 D Gs (qg A) := StV_fr hO_61.1 t_213 hk_178.fr (by decide +kernel) sg_210
      have t_214 : pI S_46 407 x = (qdr A) := hk_49.fr.I' (by decide +kernel) ha_x pv_30
      have t_215 : pI S_57 407 x = (qdr A) := hk_58.fr.I' (by decide +kernel) t_170 t_214
      have t_216 : pI S_177 407 x = (qdr A) := hk_178.fr.I' (by decide +kernel) t_167 t_215
      have t_217 : pI S_46 408 x = (qtk A) := hk_49.fr.I' (by decide +kernel) ha_x pv_31
      have t_218 : pI S_57 408 x = (qtk A) := hk_58.fr.I' (by decide +kernel) t_170 t_217
      have t_219 : pI S_177 408 x = (qtk A) := hk_178.fr.I' (by decide +kernel) t_167 t_218
      have sk_220 : SkV S_46 D Ks (qsk A) := SkV_fr hO.1 hp_4 hk_49.fr (by decide +kernel) pv_32
      have t_222 : At S_46 Ks 8 := hk_49.fr.at hp_4
      have sk_221 : SkV S_57 D Ks (qsk A) := SkV_fr hO_52.1 t_222 hk_58.fr (by decide +kernel) sk_220
      have t_224 : At S_57 Ks 8 := hk_58.fr.at t_222
      have sk_223 : SkV S_177 D Ks (qsk A) := SkV_fr hO_61.1 t_224 hk_178.fr (by decide +kernel) sk_221
      exact ret_gv X hw hr hlocks (by show c_47 ≤ Phc S + 8; omega) (by show n_48 ≤ Phs S + 15019; omega) (by omega) (by omega) ⟨hO_181, ⟨fun h => (by cases h), fun c h => (by cases h; exact PotV_of (endF_2 (i32_eq sv_68 t2 (by omega))) rw_192 hr_183 rw_198 t_205 t_208 sg_212 t_216 t_219 sk_223 co_200 (inD_end pv_34 (hp_5 _ rfl))), px_187⟩⟩ dX4_drawEnd_53
