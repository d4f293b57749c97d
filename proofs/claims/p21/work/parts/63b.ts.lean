
set_option maxHeartbeats 4000000 in
set_option maxRecDepth 100000 in
theorem k_X12_breaks3 (l : Launch) (G : va_G) (cy : Nat → ClassId) (κ : Nat → Nat) (S : PS) (sz : Nat) (x : Nat) (a1 : Int32) (a1_z : Int) (a2 : Int32) (a2_z : Int) (hG : GX S) (ha_x : At S x 12) (hz_a1 : a1.toInt = a1_z) (hz_a2 : a2.toInt = a2_z) (hp_0 : 0 ≤ a1_z) (hp_1 : a1_z ≤ 599) : Ci l yX12_breaks wsX12_breaks ({ frames := 2, cells := 0, slots := 0, locals := 96 }) G cy κ S sz [.ref x, .int (a1), .int (a2)] (fun (r : Int32) (S9 : PS) => S = S9 ∧ (((brI (mA S x 1203 (a1_z / 60).toNat) (mA S x 1206 (a1_z / 60).toNat) (Int32.ofInt (a1_z % 60)) a2) ∧ r = 1) ∨ ((¬ brI (mA S x 1203 (a1_z / 60).toNat) (mA S x 1206 (a1_z / 60).toNat) (Int32.ofInt (a1_z % 60)) a2) ∧ r = 0))) := by
  refine ent_m (cc := cX12_breaks) (maxL := 4) (ret := (some .boolean)) (by decide) rfl (Nat.le_of_ble_eq_true rfl) ?_
  intro p e s m below meth c ls X hr hlocks hin hw hl hsz
  subst hsz
  have X : Cx p c cX12_breaks 4 s [.ref x, .int (a1), .int (a2)].toArray wsX12_breaks RX12 m G cy κ (AS S s.heap.size) := X
  have hl : lv_has ls 4 [(0, .ref x), (1, .int (a1)), (2, .int (a2))] := hl
  have rg_a1 : (-2147483648) ≤ a1_z ∧ a1_z ≤ 2147483647 := by rw [← hz_a1]; exact ⟨z_lo _, z_hi _⟩
  have rg_a2 : (-2147483648) ≤ a2_z ∧ a2_z ≤ 2147483647 := by rw [← hz_a2]; exact ⟨z_lo _, z_hi _⟩
  refine lv_iload_n X.1 X.2.1 dX12_breaks_0 rfl (lv_at hl 1 rfl) ?_
  refine lv_bipush (v := 60) X.1 X.2.1 dX12_breaks_1 (by decide) ?_
  refine lv_idiv X.1 X.2.1 dX12_breaks_3 (by decide) ?_
  refine lv_topi (fun v_1 ev_1 => ?_)
  have z_2 : v_1.toInt = a1_z / 60 := z_div ev_1 hz_a1 ti_60 (by omega) (by omega)
  refine lv_istore_n (lv' := [(3, .int (v_1)), (0, .ref x), (1, .int (a1)), (2, .int (a2))]) X.1 X.2.1 dX12_breaks_4 rfl hl (by decide) rfl (fun ls hl => ?_)
  refine lv_aload_n X.1 X.2.1 dX12_breaks_5 rfl (lv_at hl 1 rfl) ?_
  obtain ⟨q_3, h_4, h_5, h_6⟩ := gQ_12_1203 hG ha_x
  refine r_getR (g := 1203) X hw ha_x rfl 3 h_4 (by decide) rfl inn_X12_breaks_12 (by decide) (X.2.2.2.1 (.fieldLink RX12 13 "SilkMillModel" "lotSeed" "[I") (by decide +kernel)) rfl (gv_1203 _ _) dX12_breaks_6 ?_
  refine lv_iload_n X.1 X.2.1 dX12_breaks_9 rfl (lv_at hl 0 rfl) ?_
  refine r_iald X hw h_5 rfl (by rw [h_6]; exact z_ix z_2 (by omega) (by omega)) dX12_breaks_10 ?_
  refine lv_topi (fun v_7 ev_7 => ?_)
  have rg_8 := And.intro (z_lo v_7) (z_hi v_7)
  have ev_7 := ev_7.symm
  refine lv_sipush (v := 131) X.1 X.2.1 dX12_breaks_11 (by decide) ?_
  refine lv_iload_n X.1 X.2.1 dX12_breaks_14 rfl (lv_at hl 2 rfl) ?_
  refine lv_bipush (v := 60) X.1 X.2.1 dX12_breaks_15 (by decide) ?_
  refine lv_irem X.1 X.2.1 dX12_breaks_17 (by decide) ?_
  refine lv_topi (fun v_9 ev_9 => ?_)
  have z_10 : v_9.toInt = a1_z % 60 := z_rem ev_9 hz_a1 ti_60 (by omega) (by omega)
  have z_11 : 0 ≤ v_9.toInt ∧ v_9.toInt < 60 := by rw [z_10]; exact ⟨Int.emod_nonneg _ (by omega), Int.emod_lt_of_pos _ (by omega)⟩
  refine lv_imul X.1 X.2.1 dX12_breaks_18 ?_
  refine lv_topi (fun v_12 ev_12 => ?_)
  have z_13 : v_12.toInt = 131 * (a1_z % 60) := z_mul ev_12 ti_131 z_10 (by omega) (by omega)
  refine lv_iadd X.1 X.2.1 dX12_breaks_19 ?_
  refine lv_topi (fun v_14 ev_14 => ?_)
  have rg_15 := And.intro (z_lo v_14) (z_hi v_14)
  refine lv_bipush (v := 17) X.1 X.2.1 dX12_breaks_20 (by decide) ?_
  refine lv_iload_n X.1 X.2.1 dX12_breaks_22 rfl (lv_at hl 3 rfl) ?_
  refine lv_imul X.1 X.2.1 dX12_breaks_23 ?_
  refine lv_topi (fun v_16 ev_16 => ?_)
  have rg_17 := And.intro (z_lo v_16) (z_hi v_16)
  refine lv_iadd X.1 X.2.1 dX12_breaks_24 ?_
  refine lv_topi (fun v_18 ev_18 => ?_)
  have rg_19 := And.intro (z_lo v_18) (z_hi v_18)
  refine k_i (rm := { frames := 1, cells := 0, slots := 0, locals := 48 }) (av := [.int (v_18)]) X hw (va_runS (As := [.int (v_18)]) (rest := []) (cfix X) (k_X12_next2 l G cy κ S _ (v_18) (v_18.toInt) hG rfl) (cwS 1 X.2.2.2.1 gX12_breaks_X12_next rfl rfl rfl (by decide +kernel) ⟨Nat.le_of_ble_eq_true rfl, Nat.le_of_ble_eq_true rfl⟩) (pre_S X hw _) rfl rfl hl.1 rfl (lv_room (Nat.le_of_ble_eq_true rfl)) dX12_breaks_25 ⟨Nat.le_of_ble_eq_true rfl, Nat.le_of_ble_eq_true rfl⟩) 0 0 (Nat.le_of_ble_eq_true rfl) (Nat.le_of_ble_eq_true rfl) (fun rr_20 S_21 H locs hp hw hfr hnw => ?_)
  obtain ⟨e2, hp⟩ := hp
  subst e2
  have f_22 := hp
  refine lv_sipush (v := 1000) X.1 X.2.1 dX12_breaks_28 (by decide) ?_
  refine k_i (rm := { frames := 1, cells := 0, slots := 0, locals := 48 }) (av := [.int (rr_20), .int 1000]) X hw (va_runS (As := [.int (rr_20), .int 1000]) (rest := []) (cfix X) (k_X12_part2 l G cy κ S _ (rr_20) (rr_20.toInt) (1000) (1000) hG rfl ti_1000 (by first | assumption | omega)) (cwS 2 X.2.2.2.1 gX12_breaks_X12_part rfl rfl rfl (by decide +kernel) ⟨Nat.le_of_ble_eq_true rfl, Nat.le_of_ble_eq_true rfl⟩) (pre_S X hw _) rfl rfl hl.1 rfl (lv_room (Nat.le_of_ble_eq_true rfl)) dX12_breaks_31 ⟨Nat.le_of_ble_eq_true rfl, Nat.le_of_ble_eq_true rfl⟩) 0 0 (Nat.le_of_ble_eq_true rfl) (Nat.le_of_ble_eq_true rfl) (fun rr_23 S_24 H locs hp hw hfr hnw => ?_)
  obtain ⟨e2, hp⟩ := hp
  subst e2
  obtain ⟨f_25, f_26, f_27, f_28⟩ := hp
  refine lv_aload_n X.1 X.2.1 dX12_breaks_34 rfl (lv_at hl 1 rfl) ?_
  obtain ⟨q_29, h_30, h_31, h_32⟩ := gQ_12_1206 hG ha_x
  refine r_getR (g := 1206) X hw ha_x rfl 6 h_30 (by decide) rfl inn_X12_breaks_12 (by decide) (X.2.2.2.1 (.fieldLink RX12 22 "SilkMillModel" "lotFrail" "[I") (by decide +kernel)) rfl (gv_1206 _ _) dX12_breaks_35 ?_
  refine lv_iload_n X.1 X.2.1 dX12_breaks_38 rfl (lv_at hl 0 rfl) ?_
  refine r_iald X hw h_31 rfl (by rw [h_32]; exact z_ix z_2 (by omega) (by omega)) dX12_breaks_39 ?_
  refine lv_topi (fun v_33 ev_33 => ?_)
  have rg_34 := And.intro (z_lo v_33) (z_hi v_33)
  have ev_33 := ev_33.symm
  refine lv_icmp_ge (tgt := 47) X.1 X.2.1 dX12_breaks_40 (by decide) (fun c_35 => ?_) (fun c_35 => ?_)
  · have z_b_36 := trivial
    have k_37 : rr_23.toInt ≥ v_33.toInt := z_le rfl rfl c_35
    refine lv_iconst (v := 0) X.1 X.2.1 dX12_breaks_47 (by decide) ?_
    exact ret_z X hw hr hlocks (Nat.le_of_ble_eq_true rfl) (Nat.le_of_ble_eq_true rfl) (by decide) ⟨rfl, Or.inr ⟨(by have e0 : rr_23 = prt (nxt (mA S x 1203 (a1_z / 60).toNat + 131 * Int32.ofInt (a1_z % 60) + 17 * a2)) 1000 := (by rw [mA_eq h_4, ← lz1 hz_a1 (by omega), ← lz2 hz_a1 (by omega)]; subst_vars; rfl); have e3 : v_33 = mA S x 1206 (a1_z / 60).toNat := (by rw [mA_eq h_30, ← lz1 hz_a1 (by omega)]; subst_vars; rfl); have e1 : (rr_23).toInt = rr_23.toInt := rfl; have e2 : (v_33).toInt = v_33.toInt := rfl; unfold brI; rw [← e0, ← e3]; omega), rfl⟩⟩ dX12_breaks_48
  · have z_b_38 := trivial
    have k_39 : rr_23.toInt < v_33.toInt := z_nle rfl rfl c_35
    refine lv_iconst (v := 1) X.1 X.2.1 dX12_breaks_43 (by decide) ?_
    refine lv_goto (tgt := 48) X.1 X.2.1 dX12_breaks_44 (by decide) ?_
    exact ret_z X hw hr hlocks (Nat.le_of_ble_eq_true rfl) (Nat.le_of_ble_eq_true rfl) (by decide) ⟨rfl, Or.inl ⟨(by have e0 : rr_23 = prt (nxt (mA S x 1203 (a1_z / 60).toNat + 131 * Int32.ofInt (a1_z % 60) + 17 * a2)) 1000 := (by rw [mA_eq h_4, ← lz1 hz_a1 (by omega), ← lz2 hz_a1 (by omega)]; subst_vars; rfl); have e3 : v_33 = mA S x 1206 (a1_z / 60).toNat := (by rw [mA_eq h_30, ← lz1 hz_a1 (by omega)]; subst_vars; rfl); have e1 : (rr_23).toInt = rr_23.toInt := rfl; have e2 : (v_33).toInt = v_33.toInt := rfl; unfold brI; rw [← e0, ← e3]; omega), rfl⟩⟩ dX12_breaks_48
set_option maxHeartbeats 4000000 in
set_option maxRecDepth 100000 in
theorem k_X12_test3 (l : Launch) (G : va_G) (cy : Nat → ClassId) (κ : Nat → Nat) (S : PS) (sz hz : Nat) (x : Nat) (a1 : Int32) (a1_z : Int) (a2 : Int32) (a2_z : Int) (a3 : Int32) (a3_z : Int) (hG : GX S) (ha_x : At S x 12) (hz_a1 : a1.toInt = a1_z) (hz_a2 : a2.toInt = a2_z) (hz_a3 : a3.toInt = a3_z) : Gi l yX12_test wsX12_test ({ frames := 3, cells := Phc S + 1, slots := Phs S + 60, locals := 144 }) G cy κ S sz hz 1 60 [.ref x, .int (a1), .int (a2), .int (a3)] (fun (r : Int32) (S9 : PS) => Og MTS S S9 ∧ (-2147483648 ≤ r.toInt ∧ r.toInt ≤ 2147483647 ∧ (TsR S x a1_z a3_z → r.toInt = tsF (BR S x a1_z) a3_z.toNat (flZ (StR S x a1_z) (zA S x 1202 a1_z.toNat)) a2) ∧ (¬ TsR S x a1_z a3_z → r.toInt = -1))) := by
  refine ent_g (cc := cX12_test) (maxL := 13) (ret := (some .int)) (by decide) rfl (Nat.le_of_ble_eq_true rfl) ?_
  intro p e s m below meth c ls X hr hlocks hin hw hl hsz hhz
  subst hsz hhz
  have X : Cx p c cX12_test 13 s [.ref x, .int (a1), .int (a2), .int (a3)].toArray wsX12_test RX12 m G cy κ (AS S s.heap.size) := X
  have hl : lv_has ls 13 [(0, .ref x), (1, .int (a1)), (2, .int (a2)), (3, .int (a3))] := hl
  have rg_a1 : (-2147483648) ≤ a1_z ∧ a1_z ≤ 2147483647 := by rw [← hz_a1]; exact ⟨z_lo _, z_hi _⟩
  have rg_a2 : (-2147483648) ≤ a2_z ∧ a2_z ≤ 2147483647 := by rw [← hz_a2]; exact ⟨z_lo _, z_hi _⟩
  have rg_a3 : (-2147483648) ≤ a3_z ∧ a3_z ≤ 2147483647 := by rw [← hz_a3]; exact ⟨z_lo _, z_hi _⟩
  have hpc0 : 0 + Phc S ≤ Phc S + 0 := by omega
  have hps0 : 0 + Phs S ≤ Phs S + 0 := by omega
  have hO : Og MTS S S := Og.rf hG
  generalize hQQ : MQ below _ _ _ _ _ _ = QQ
  replace hQQ := hQQ.symm
  obtain ⟨v_1, ev_1⟩ : ∃ v, pI S 1201 x = v := ⟨_, rfl⟩
  have rg_2 := gI_12_1201 hO.1 ha_x; rw [ev_1] at rg_2
  have pz_3 : (pI S 1201 x).toInt = v_1.toInt := (congrArg Int32.toInt ev_1).trans rfl
  have hlm := z1202 hG ha_x a1_z.toNat
  refine lv_aload_n X.1 X.2.1 dX12_test_0 rfl (lv_at hl 0 rfl) ?_
  refine lv_iconst (v := 0) X.1 X.2.1 dX12_test_1 (by decide) ?_
  refine r_putI (v := 0) X hw ha_x rfl 0 1200 tyX12 (by decide) rfl inn_X12_test_12 tyX12_ok nmX12 (by decide) (X.2.2.2.1 (.fieldLink RX12 161 "SilkMillModel" "thrown" "I") (by decide +kernel)) rfl (Or.inl rfl) rfl rfl (Nat.le_of_ble_eq_true rfl) (st_1200 _ _) dX12_test_2 (fun H locs hw => ?_)
  obtain ⟨S_4, eS_4⟩ : ∃ T, T = sI S 1200 x (0) := ⟨_, rfl⟩
  rw [← eS_4] at hw
  have ph_5 : 0 + Phc S_4 ≤ Phc S + 0 := by rw [show Phc S_4 = Phc S from Ph_sI eS_4 rfl rfl]; exact hpc0
  have ph_6 : 0 + Phs S_4 ≤ Phs S + 0 := by rw [show Phs S_4 = Phs S from Ph_sI eS_4 rfl rfl]; exact hps0
  clear hpc0
  clear hps0
  have hO_7 : Og MTS S S_4 := hO.sI eS_4 (by decide +kernel) (uI_12_1200 hO.1 ha_x)
  have h_8 : pI S_4 1200 x = 0 := tI_sIs eS_4
  refine lv_iload_n X.1 X.2.1 dX12_test_5 rfl (lv_at hl 1 rfl) ?_
  refine lv_iconst (v := 0) X.1 X.2.1 dX12_test_6 (by decide) ?_
  refine lv_aload_n X.1 X.2.1 dX12_test_7 rfl (lv_at hl 0 rfl) ?_
  have t_9 : At S_4 x 12 := tAt_sI eS_4 ha_x
  have t_10 : pI S_4 1201 x = v_1 := tI_sI eS_4 rfl ev_1
  refine r_getI (g := 1201) (x := v_1) X hw t_9 rfl 1 t_10 (by decide) rfl inn_X12_test_12 (by decide) (X.2.2.2.1 (.fieldLink RX12 165 "SilkMillModel" "lots" "I") (by decide +kernel)) rfl (gv_1201 _ _) dX12_test_8 ?_
  refine lv_iconst (v := 1) X.1 X.2.1 dX12_test_11 (by decide) ?_
  refine lv_isub X.1 X.2.1 dX12_test_12 ?_
  refine lv_topi (fun v_11 ev_11 => ?_)
  have z_12 : v_11.toInt = v_1.toInt - 1 := z_sub ev_11 rfl ti_1 (by omega) (by omega)
  refine k_i (rm := { frames := 1, cells := 0, slots := 0, locals := 48 }) (av := [.int (a1), .int 0, .int (v_11)]) X hw (va_runS (As := [.int (a1), .int 0, .int (v_11)]) (rest := []) (cfix X) (k_X12_within l G cy κ S_4 _ (a1) (a1_z) (0) (0) (v_11) ((v_1.toInt - 1)) hO_7.1 hz_a1 ti_0 z_12) (cwS 3 X.2.2.2.1 gX12_test_X12_within rfl rfl rfl (by decide +kernel) ⟨Nat.le_of_ble_eq_true rfl, Nat.le_of_ble_eq_true rfl⟩) (pre_S X hw _) rfl rfl hl.1 rfl (lv_room (Nat.le_of_ble_eq_true rfl)) dX12_test_13 ⟨(by show 0 + 0 ≤ Phc S + 1; omega), (by show 0 + 0 ≤ Phs S + 60; omega)⟩) 0 0 (by show 0 + 0 ≤ 0; omega) (by show 0 + 0 ≤ 0; omega) (fun rr_13 S_14 H locs hp hw hfr hnw => ?_)
  obtain ⟨e2, hp⟩ := hp
  subst e2
  rcases hp with ⟨f_15, er_16⟩ | ⟨f_15, er_16⟩ <;> subst er_16
  · have z_b_17 := trivial
    refine lv_if_ne (tgt := 21) X.1 X.2.1 dX12_test_16 (by decide) (fun c_18 => ?_) (fun c_18 => absurd c_18 (by decide))
    refine lv_bipush (v := 60) X.1 X.2.1 dX12_test_21 (by decide) ?_
    have ph_20 : 1 + Phc S_4 ≤ Phc S + 1 := by omega
    have ph_21 : 60 + Phs S_4 ≤ Phs S + 60 := by omega
    clear ph_5
    clear ph_6
    refine r_newZ (N := 60) X hw 15 60 1 rfl (X.2.2.2.1 (.arrayClass .boolean) (by decide +kernel)) (z_nn ti_60 (by omega)) (by decide) (by decide) (by show 0 + 1 ≤ 1; omega) (by show 0 + 60 ≤ 60; omega) (by show 1 ≤ Phc S + 1; omega) (by show 60 ≤ Phs S + 60; omega) dX12_test_23 (fun q_19 H hq_19 hw => ?_)
    obtain ⟨S_22, eS_22⟩ : ∃ T, T = sN S_4 q_19 15 60 := ⟨_, rfl⟩
    rw [← eS_22] at hw
    have ph_23 : 1 + Phc S_22 ≤ Phc S + 1 := by rw [show Phc S_22 = Phc S_4 from Ph_sN' hO_7.1.ci hq_19 eS_22 (by decide)]; exact ph_20
    have ph_24 : 60 + Phs S_22 ≤ Phs S + 60 := by rw [show Phs S_22 = Phs S_4 from Ph_sN' hO_7.1.ci hq_19 eS_22 (by decide)]; exact ph_21
    clear ph_20
    clear ph_21
    have hO_25 : Og MTS S S_22 := ⟨by rw [eS_22]; exact GX_N hO_7.1 hq_19 (by decide +kernel), hO_7.fr.trans (by rw [eS_22]; exact Fr_sN hq_19)⟩
    have ha_26 : At S_22 q_19 15 := by rw [eS_22]; exact At_nN _ _ _ _
    have hn_27 : pN S_22 q_19 = 60 := by rw [eS_22]; exact pN_sN_new
    refine lv_astore (lv' := [(4, .ref q_19), (0, .ref x), (1, .int (a1)), (2, .int (a2)), (3, .int (a3))]) X.1 X.2.1 dX12_test_25 hl (by decide) rfl (fun ls hl => ?_)
    refine lv_iconst (v := 0) X.1 X.2.1 dX12_test_27 (by decide) ?_
    refine lv_istore (lv' := [(5, .int 0), (4, .ref q_19), (0, .ref x), (1, .int (a1)), (2, .int (a2)), (3, .int (a3))]) X.1 X.2.1 dX12_test_28 hl (by decide) rfl (fun ls hl => ?_)
    refine lv_iconst (v := 0) X.1 X.2.1 dX12_test_30 (by decide) ?_
    refine lv_istore (lv' := [(6, .int 0), (5, .int 0), (4, .ref q_19), (0, .ref x), (1, .int (a1)), (2, .int (a2)), (3, .int (a3))]) X.1 X.2.1 dX12_test_31 hl (by decide) rfl (fun ls hl => ?_)
    have zc_34 : zA S_4 x 1202 = zA S x 1202 := zA_sI eS_4
    have zc_35 : zA S_22 x 1202 = zA S x 1202 := (zA_sN eS_22 (ex3 (gQ_12_1202 hO_7.1 t_9)) hq_19).trans zc_34
    have zc_37 : zA S_4 x 1207 = zA S x 1207 := zA_sI eS_4
    have zc_38 : zA S_22 x 1207 = zA S x 1207 := (zA_sN eS_22 (ex3 (gQ_12_1207 hO_7.1 t_9)) hq_19).trans zc_37
    have L_28 : ∀ (n : Nat) (T_31 : PS) (H : Heap) (locs : List Loc) (ls : Array Slot) (i5_29 : Int32) (i5_29_z : Int) (i6_30 : Int32) (i6_30_z : Int) (cc_45 nn_46 : Nat), ((60 - i6_30_z).toNat = n) → (Wd G cy (AS S s.heap.size) s.heap T_31 H locs) → (i5_29.toInt = i5_29_z) → (0 ≤ i5_29_z ∧ i5_29_z ≤ 60) → (i6_30.toInt = i6_30_z) → (0 ≤ i6_30_z ∧ i6_30_z ≤ 60) → (At T_31 q_19 15) → (At T_31 x 12) → (Og MTS S T_31) → (zA T_31 x 1202 = zA S x 1202) → (zA T_31 x 1207 = zA S x 1207) → (cF (oA T_31 q_19) 0 (i6_30_z).toNat = i5_29_z) → (i6_30_z ≤ zA S x 1202 a1_z.toNat) → (i5_29_z ≤ i6_30_z) → ((∀ j : Nat, (j : Int) < i6_30_z → (oA T_31 q_19 j = 0 ↔ StR S x a1_z (j : Int)))) → (pN T_31 q_19 = 60) → (cc_45 + Phc T_31 ≤ Phc S + 1) → (nn_46 + Phs T_31 ≤ Phs S + 60) → (lv_has ls 13 [(5, .int (i5_29)), (6, .int (i6_30)), (4, .ref q_19), (0, .ref x), (1, .int (a1)), (2, .int (a2)), (3, .int (a3))]) → W p l e ({ frames := 3, cells := Phc S + 1, slots := Phs S + 60, locals := 144 }) s m [.ref x, .int (a1), .int (a2), .int (a3)].toArray below meth c H locs cc_45 nn_46 QQ (F0 m 33 ls []) := by
      intro n
      induction n using Nat.strongRecOn with
      | ind n ih_L_28 =>
      intro T_31 H locs ls i5_29 i5_29_z i6_30 i6_30_z cc_45 nn_46 hn hw hz_i5_29 hr_i5_29 hz_i6_30 hr_i6_30 ha_q_19_L_32 ha_x_L_33 hO_T_31 zk_36 zk_39 iv_40 iv_41 iv_42 iv_43 ik_44 hcc_47 hnn_48 hl
      have rg_49 : (-2147483648) ≤ i5_29_z ∧ i5_29_z ≤ 2147483647 := by rw [← hz_i5_29]; exact ⟨z_lo _, z_hi _⟩
      have rg_50 : (-2147483648) ≤ i6_30_z ∧ i6_30_z ≤ 2147483647 := by rw [← hz_i6_30]; exact ⟨z_lo _, z_hi _⟩
      refine lv_iload X.1 X.2.1 dX12_test_33 (lv_at hl 1 rfl) ?_
      refine lv_aload_n X.1 X.2.1 dX12_test_35 rfl (lv_at hl 3 rfl) ?_
      obtain ⟨q_51, h_52, h_53, h_54⟩ := gQ_12_1202 hO_T_31.1 ha_x_L_33
      refine r_getR (g := 1202) X hw ha_x_L_33 rfl 2 h_52 (by decide) rfl inn_X12_test_12 (by decide) (X.2.2.2.1 (.fieldLink RX12 7 "SilkMillModel" "lotMany" "[I") (by decide +kernel)) rfl (gv_1202 _ _) dX12_test_36 ?_
      refine lv_iload_n X.1 X.2.1 dX12_test_39 rfl (lv_at hl 4 rfl) ?_
      refine r_iald X hw h_53 rfl (by rw [h_54]; exact z_ix hz_a1 (by omega) (by omega)) dX12_test_40 ?_
      refine lv_topi (fun v_55 ev_55 => ?_)
      have z_56 := gE_254 hO_T_31.1 h_53 (Int32.toNatClampNeg (a1)); rw [← ev_55] at z_56
      have ev_55 := ev_55.symm
      have zf_57 : zA T_31 x 1202 (a1_z).toNat = v_55.toInt := (zA_of h_52 hz_a1 (by omega) ev_55)
      have zz_58 := congrFun zk_36 a1_z.toNat
      refine lv_icmp_ge (tgt := 93) X.1 X.2.1 dX12_test_41 (by decide) (fun c_59 => ?_) (fun c_59 => ?_)
      · have z_b_60 := trivial
        have k_61 : i6_30_z ≥ v_55.toInt := z_le rfl hz_i6_30 c_59
        have ou_62 : flZ (OuQ (oA T_31 q_19)) (zA S x 1202 a1_z.toNat) = flZ (StR S x a1_z) (zA S x 1202 a1_z.toNat) := ou_eq (fun j h => iv_43 j (by omega))
        have ol_63 : ((flZ (StR S x a1_z) (zA S x 1202 a1_z.toNat)).length : Int) = i5_29_z := by rw [← ou_62, Ou_fl, ← cF_fl, show (zA S x 1202 a1_z.toNat).toNat = (i6_30_z).toNat by omega]; exact iv_40
        refine lv_iload_n X.1 X.2.1 dX12_test_93 rfl (lv_at hl 6 rfl) ?_
        refine lv_iconst (v := 0) X.1 X.2.1 dX12_test_94 (by decide) ?_
        refine lv_iload X.1 X.2.1 dX12_test_95 (lv_at hl 0 rfl) ?_
        refine k_i (rm := { frames := 1, cells := 0, slots := 0, locals := 48 }) (av := [.int (a3), .int 0, .int (i5_29)]) X hw (va_runS (As := [.int (a3), .int 0, .int (i5_29)]) (rest := []) (cfix X) (k_X12_within l G cy κ T_31 _ (a3) (a3_z) (0) (0) (i5_29) (i5_29_z) hO_T_31.1 hz_a3 ti_0 hz_i5_29) (cwS 3 X.2.2.2.1 gX12_test_X12_within rfl rfl rfl (by decide +kernel) ⟨Nat.le_of_ble_eq_true rfl, Nat.le_of_ble_eq_true rfl⟩) (pre_S X hw _) rfl rfl hl.1 rfl (lv_room (Nat.le_of_ble_eq_true rfl)) dX12_test_97 ⟨(by show cc_45 + 0 ≤ Phc S + 1; omega), (by show nn_46 + 0 ≤ Phs S + 60; omega)⟩) cc_45 nn_46 (by show cc_45 + 0 ≤ cc_45; omega) (by show nn_46 + 0 ≤ nn_46; omega) (fun rr_64 S_65 H locs hp hw hfr hnw => ?_)
        obtain ⟨e2, hp⟩ := hp
        subst e2
        rcases hp with ⟨f_66, er_67⟩ | ⟨f_66, er_67⟩ <;> subst er_67
        · have z_b_68 := trivial
          refine lv_if_ne (tgt := 105) X.1 X.2.1 dX12_test_100 (by decide) (fun c_69 => ?_) (fun c_69 => absurd c_69 (by decide))
          refine lv_iload_n X.1 X.2.1 dX12_test_105 rfl (lv_at hl 5 rfl) ?_
          refine lv_istore (lv' := [(6, .int (a2)), (5, .int (i5_29)), (4, .ref q_19), (0, .ref x), (1, .int (a1)), (2, .int (a2)), (3, .int (a3))]) X.1 X.2.1 dX12_test_106 hl (by decide) rfl (fun ls hl => ?_)
          refine lv_iconst (v := 0) X.1 X.2.1 dX12_test_108 (by decide) ?_
          refine lv_istore (lv' := [(7, .int 0), (6, .int (a2)), (5, .int (i5_29)), (4, .ref q_19), (0, .ref x), (1, .int (a1)), (2, .int (a2)), (3, .int (a3))]) X.1 X.2.1 dX12_test_109 hl (by decide) rfl (fun ls hl => ?_)
          refine lv_iconst (v := 0) X.1 X.2.1 dX12_test_111 (by decide) ?_
          refine lv_istore (lv' := [(8, .int 0), (7, .int 0), (6, .int (a2)), (5, .int (i5_29)), (4, .ref q_19), (0, .ref x), (1, .int (a1)), (2, .int (a2)), (3, .int (a3))]) X.1 X.2.1 dX12_test_112 hl (by decide) rfl (fun ls hl => ?_)
          have L_70 : ∀ (n : Nat) (T_75 : PS) (H : Heap) (locs : List Loc) (ls : Array Slot) (i5_71 : Int32) (i5_71_z : Int) (i6_72 : Int32) (i6_72_z : Int) (i7_73 : Int32) (i7_73_z : Int) (i8_74 : Int32) (i8_74_z : Int) (cc_85 nn_86 : Nat), ((60 - i8_74_z).toNat = n) → (Wd G cy (AS S s.heap.size) s.heap T_75 H locs) → (i5_71.toInt = i5_71_z) → (0 ≤ i5_71_z ∧ i5_71_z ≤ 60) → (i6_72.toInt = i6_72_z) → (i7_73.toInt = i7_73_z) → (0 ≤ i7_73_z ∧ i7_73_z ≤ 60) → (i8_74.toInt = i8_74_z) → (0 ≤ i8_74_z ∧ i8_74_z ≤ 60) → (At T_75 q_19 15) → (At T_75 x 12) → (Og MTS S T_75) → (zA T_75 x 1202 = zA S x 1202) → (rsF (oA T_75 q_19) 0 (zA S x 1202 a1_z.toNat) = i5_71_z) → (a3_z - i8_74_z ≤ i5_71_z) → (i7_73_z + tsF (BR S x a1_z) (a3_z - i8_74_z).toNat (flZ (OuQ (oA T_75 q_19)) (zA S x 1202 a1_z.toNat)) (i6_72) = tsF (BR S x a1_z) a3_z.toNat (flZ (StR S x a1_z) (zA S x 1202 a1_z.toNat)) a2) → (i8_74_z ≤ a3_z) → (i7_73_z ≤ i8_74_z) → (pN T_75 q_19 = 60) → (cc_85 + Phc T_75 ≤ Phc S + 1) → (nn_86 + Phs T_75 ≤ Phs S + 60) → (lv_has ls 13 [(5, .int (i5_71)), (6, .int (i6_72)), (7, .int (i7_73)), (8, .int (i8_74)), (4, .ref q_19), (0, .ref x), (1, .int (a1)), (2, .int (a2)), (3, .int (a3))]) → W p l e ({ frames := 3, cells := Phc S + 1, slots := Phs S + 60, locals := 144 }) s m [.ref x, .int (a1), .int (a2), .int (a3)].toArray below meth c H locs cc_85 nn_86 QQ (F0 m 114 ls []) := by
            intro n
            induction n using Nat.strongRecOn with
            | ind n ih_L_70 =>
            intro T_75 H locs ls i5_71 i5_71_z i6_72 i6_72_z i7_73 i7_73_z i8_74 i8_74_z cc_85 nn_86 hn hw hz_i5_71 hr_i5_71 hz_i6_72 hz_i7_73 hr_i7_73 hz_i8_74 hr_i8_74 ha_q_19_L_76 ha_x_L_77 hO_T_75 zk_78 iv_79 iv_80 iv_81 iv_82 iv_83 ik_84 hcc_87 hnn_88 hl
            have rg_89 : (-2147483648) ≤ i5_71_z ∧ i5_71_z ≤ 2147483647 := by rw [← hz_i5_71]; exact ⟨z_lo _, z_hi _⟩
            have rg_90 : (-2147483648) ≤ i6_72_z ∧ i6_72_z ≤ 2147483647 := by rw [← hz_i6_72]; exact ⟨z_lo _, z_hi _⟩
            have rg_91 : (-2147483648) ≤ i7_73_z ∧ i7_73_z ≤ 2147483647 := by rw [← hz_i7_73]; exact ⟨z_lo _, z_hi _⟩
            have rg_92 : (-2147483648) ≤ i8_74_z ∧ i8_74_z ≤ 2147483647 := by rw [← hz_i8_74]; exact ⟨z_lo _, z_hi _⟩
            refine lv_iload X.1 X.2.1 dX12_test_114 (lv_at hl 3 rfl) ?_
            refine lv_iload_n X.1 X.2.1 dX12_test_116 rfl (lv_at hl 8 rfl) ?_
            refine lv_icmp_ge (tgt := 255) X.1 X.2.1 dX12_test_117 (by decide) (fun c_93 => ?_) (fun c_93 => ?_)
            · have z_b_94 := trivial
              have k_95 : i8_74_z ≥ a3_z := z_le hz_a3 hz_i8_74 c_93
              refine lv_iload X.1 X.2.1 dX12_test_255 (lv_at hl 2 rfl) ?_
              rw [hQQ]
              exact ret_gi X hw hr hlocks (by show cc_85 ≤ Phc S + 1; omega) (by show nn_86 ≤ Phs S + 60; omega) (by omega) (by omega) ⟨hO_T_75, ⟨z_lo _, z_hi _, fun _ => (by have h := iv_81; rw [show (a3_z - i8_74_z).toNat = 0 by omega, tsF_0] at h; rw [show (i7_73).toInt = i7_73_z from hz_i7_73]; omega), fun h => absurd ⟨by omega, by omega, by omega, by omega⟩ h⟩⟩ dX12_test_257
            · have z_b_96 := trivial
              have k_97 : i8_74_z < a3_z := z_nle hz_a3 hz_i8_74 c_93
              refine lv_iload X.1 X.2.1 dX12_test_120 (lv_at hl 1 rfl) ?_
              refine k_i (rm := { frames := 1, cells := 0, slots := 0, locals := 48 }) (av := [.int (i6_72)]) X hw (va_runS (As := [.int (i6_72)]) (rest := []) (cfix X) (k_X12_next2 l G cy κ T_75 _ (i6_72) (i6_72_z) hO_T_75.1 hz_i6_72) (cwS 1 X.2.2.2.1 gX12_test_X12_next rfl rfl rfl (by decide +kernel) ⟨Nat.le_of_ble_eq_true rfl, Nat.le_of_ble_eq_true rfl⟩) (pre_S X hw _) rfl rfl hl.1 rfl (lv_room (Nat.le_of_ble_eq_true rfl)) dX12_test_122 ⟨(by show cc_85 + 0 ≤ Phc S + 1; omega), (by show nn_86 + 0 ≤ Phs S + 60; omega)⟩) cc_85 nn_86 (by show cc_85 + 0 ≤ cc_85; omega) (by show nn_86 + 0 ≤ nn_86; omega) (fun rr_98 S_99 H locs hp hw hfr hnw => ?_)
              obtain ⟨e2, hp⟩ := hp
              subst e2
              have nx_100 : rr_98 = nxt (i6_72) := hp
              have rg_101 := And.intro (z_lo rr_98) (z_hi rr_98)
              refine lv_istore (lv' := [(6, .int (rr_98)), (5, .int (i5_71)), (7, .int (i7_73)), (8, .int (i8_74)), (4, .ref q_19), (0, .ref x), (1, .int (a1)), (2, .int (a2)), (3, .int (a3))]) X.1 X.2.1 dX12_test_125 hl (by decide) rfl (fun ls hl => ?_)
              refine lv_iload X.1 X.2.1 dX12_test_127 (lv_at hl 0 rfl) ?_
              refine lv_iload X.1 X.2.1 dX12_test_129 (lv_at hl 1 rfl) ?_
              refine k_i (rm := { frames := 1, cells := 0, slots := 0, locals := 48 }) (av := [.int (rr_98), .int (i5_71)]) X hw (va_runS (As := [.int (rr_98), .int (i5_71)]) (rest := []) (cfix X) (k_X12_part2 l G cy κ T_75 _ (rr_98) (rr_98.toInt) (i5_71) (i5_71_z) hO_T_75.1 rfl hz_i5_71 (by first | assumption | omega)) (cwS 2 X.2.2.2.1 gX12_test_X12_part rfl rfl rfl (by decide +kernel) ⟨Nat.le_of_ble_eq_true rfl, Nat.le_of_ble_eq_true rfl⟩) (pre_S X hw _) rfl rfl hl.1 rfl (lv_room (Nat.le_of_ble_eq_true rfl)) dX12_test_131 ⟨(by show cc_85 + 0 ≤ Phc S + 1; omega), (by show nn_86 + 0 ≤ Phs S + 60; omega)⟩) cc_85 nn_86 (by show cc_85 + 0 ≤ cc_85; omega) (by show nn_86 + 0 ≤ nn_86; omega) (fun rr_102 S_103 H locs hp hw hfr hnw => ?_)
              obtain ⟨e2, hp⟩ := hp
              subst e2
              obtain ⟨pt_104, pt_105, pt_106, pt_107⟩ := hp
              refine lv_istore (lv' := [(9, .int (rr_102)), (6, .int (rr_98)), (5, .int (i5_71)), (7, .int (i7_73)), (8, .int (i8_74)), (4, .ref q_19), (0, .ref x), (1, .int (a1)), (2, .int (a2)), (3, .int (a3))]) X.1 X.2.1 dX12_test_134 hl (by decide) rfl (fun ls hl => ?_)
              refine lv_iconst (v := 0) X.1 X.2.1 dX12_test_136 (by decide) ?_
              refine lv_istore (lv' := [(10, .int 0), (9, .int (rr_102)), (6, .int (rr_98)), (5, .int (i5_71)), (7, .int (i7_73)), (8, .int (i8_74)), (4, .ref q_19), (0, .ref x), (1, .int (a1)), (2, .int (a2)), (3, .int (a3))]) X.1 X.2.1 dX12_test_137 hl (by decide) rfl (fun ls hl => ?_)
              have L_108 : ∀ (n : Nat) (H : Heap) (locs : List Loc) (ls : Array Slot) (i9_109 : Int32) (i9_109_z : Int) (i10_110 : Int32) (i10_110_z : Int) (cc_113 nn_114 : Nat), ((60 - i10_110_z).toNat = n) → (Wd G cy (AS S s.heap.size) s.heap T_75 H locs) → (i9_109.toInt = i9_109_z) → (0 ≤ i9_109_z ∧ i9_109_z ≤ 60) → (i10_110.toInt = i10_110_z) → (0 ≤ i10_110_z ∧ i10_110_z ≤ 60) → (i9_109_z < rsF (oA T_75 q_19) i10_110_z (zA S x 1202 a1_z.toNat)) → (i9_109_z + cF (oA T_75 q_19) 0 (i10_110_z).toNat = rr_102.toInt) → (cc_113 + Phc T_75 ≤ Phc S + 1) → (nn_114 + Phs T_75 ≤ Phs S + 60) → (lv_has ls 13 [(9, .int (i9_109)), (10, .int (i10_110)), (6, .int (rr_98)), (5, .int (i5_71)), (7, .int (i7_73)), (8, .int (i8_74)), (4, .ref q_19), (0, .ref x), (1, .int (a1)), (2, .int (a2)), (3, .int (a3))]) → W p l e ({ frames := 3, cells := Phc S + 1, slots := Phs S + 60, locals := 144 }) s m [.ref x, .int (a1), .int (a2), .int (a3)].toArray below meth c H locs cc_113 nn_114 QQ (F0 m 139 ls []) := by
                intro n
                induction n using Nat.strongRecOn with
                | ind n ih_L_108 =>
                intro H locs ls i9_109 i9_109_z i10_110 i10_110_z cc_113 nn_114 hn hw hz_i9_109 hr_i9_109 hz_i10_110 hr_i10_110 iv_111 iv_112 hcc_115 hnn_116 hl
                have rg_117 : (-2147483648) ≤ i9_109_z ∧ i9_109_z ≤ 2147483647 := by rw [← hz_i9_109]; exact ⟨z_lo _, z_hi _⟩
                have rg_118 : (-2147483648) ≤ i10_110_z ∧ i10_110_z ≤ 2147483647 := by rw [← hz_i10_110]; exact ⟨z_lo _, z_hi _⟩
                have rl_119 := rsF_lt (show 0 < rsF (oA T_75 q_19) i10_110_z (zA S x 1202 a1_z.toNat) by omega)
                refine lv_aload X.1 X.2.1 dX12_test_139 (lv_at hl 6 rfl) ?_
                refine lv_iload X.1 X.2.1 dX12_test_141 (lv_at hl 1 rfl) ?_
                refine r_zald X hw ha_q_19_L_76 rfl (by rw [ik_84]; exact z_ix hz_i10_110 (by omega) (by omega)) dX12_test_143 ?_
                refine lv_topi (fun v_120 ev_120 => ?_)
                have rg_121 := And.intro (z_lo v_120) (z_hi v_120)
                have ev_120 := ev_120.symm
                have oa_122 : oA T_75 q_19 (i10_110_z).toNat = v_120.toInt := oA_of hz_i10_110 (by omega) ev_120
                refine lv_if_ne (tgt := 152) X.1 X.2.1 dX12_test_144 (by decide) (fun c_123 => ?_) (fun c_123 => ?_)
                · have z_b_124 := trivial
                  have k_125 : v_120.toInt ≠ 0 := z_ne rfl ti_0 c_123
                  refine lv_aload X.1 X.2.1 dX12_test_152 (lv_at hl 6 rfl) ?_
                  refine lv_iload X.1 X.2.1 dX12_test_154 (lv_at hl 1 rfl) ?_
                  refine r_zald X hw ha_q_19_L_76 rfl (by rw [ik_84]; exact z_ix hz_i10_110 (by omega) (by omega)) dX12_test_156 ?_
                  rw [ev_120]
                  refine lv_if_ne (tgt := 163) X.1 X.2.1 dX12_test_157 (by decide) (fun c_126 => ?_) (fun c_126 => ?_)
                  · have z_b_127 := trivial
                    have k_128 : v_120.toInt ≠ 0 := z_ne rfl ti_0 c_126
                    obtain ⟨x_129, ex_129⟩ : ∃ y : Int32, y = i10_110 + 1 := ⟨_, rfl⟩
                    have z_130 : x_129.toInt = i10_110_z + 1 := z_add ex_129 hz_i10_110 ti_1 (by omega) (by omega)
                    refine lv_iinc (v := x_129) (lv' := [(10, .int (x_129)), (9, .int (i9_109)), (6, .int (rr_98)), (5, .int (i5_71)), (7, .int (i7_73)), (8, .int (i8_74)), (4, .ref q_19), (0, .ref x), (1, .int (a1)), (2, .int (a2)), (3, .int (a3))]) X.1 X.2.1 dX12_test_163 hl (k := 1) rfl (by rw [ex_129]; rfl) (by decide) rfl (fun ls hl => ?_)
                    refine lv_goto (tgt := 139) X.1 X.2.1 dX12_test_166 (by decide) ?_
                    exact ih_L_108 _ (by omega) _ _ _ (i9_109) (i9_109_z) (x_129) (x_129.toInt) (cc_113) (nn_114) rfl hw hz_i9_109 (by omega) rfl (by omega) (by rw [show x_129.toInt = i10_110_z + 1 by omega]; first | (have h := rsF_1 (f := oA T_75 q_19) (i := i10_110_z) (n := zA S x 1202 a1_z.toNat) (by omega) (by omega) (by omega); omega) | (have h := rsF_0 (f := oA T_75 q_19) (i := i10_110_z) (n := zA S x 1202 a1_z.toNat) (by omega) (by omega) (by omega); omega)) (by first | (have h := (cF_z (f := oA T_75 q_19) (i := i10_110_z) (i1 := x_129.toInt) (by omega) (by omega)).1 (by omega); omega) | (have h := (cF_z (f := oA T_75 q_19) (i := i10_110_z) (i1 := x_129.toInt) (by omega) (by omega)).2 (by omega); omega)) (by omega) (by omega) (lv_sub hl [1, 0, 2, 3, 4, 5, 6, 7, 8, 9, 10] rfl)
                  · have z_b_131 := trivial
                    have k_132 : v_120.toInt = 0 := z_eq rfl ti_0 c_126
                    obtain ⟨x_133, ex_133⟩ : ∃ y : Int32, y = i9_109 + (-1) := ⟨_, rfl⟩
                    have z_134 : x_133.toInt = i9_109_z + (-1) := z_add ex_133 hz_i9_109 ti_m1 (by omega) (by omega)
                    refine lv_iinc (v := x_133) (lv' := [(9, .int (x_133)), (10, .int (i10_110)), (6, .int (rr_98)), (5, .int (i5_71)), (7, .int (i7_73)), (8, .int (i8_74)), (4, .ref q_19), (0, .ref x), (1, .int (a1)), (2, .int (a2)), (3, .int (a3))]) X.1 X.2.1 dX12_test_160 hl (k := 0) rfl (by rw [ex_133]; rfl) (by decide) rfl (fun ls hl => ?_)
                    obtain ⟨x_135, ex_135⟩ : ∃ y : Int32, y = i10_110 + 1 := ⟨_, rfl⟩
                    have z_136 : x_135.toInt = i10_110_z + 1 := z_add ex_135 hz_i10_110 ti_1 (by omega) (by omega)
                    refine lv_iinc (v := x_135) (lv' := [(10, .int (x_135)), (9, .int (x_133)), (6, .int (rr_98)), (5, .int (i5_71)), (7, .int (i7_73)), (8, .int (i8_74)), (4, .ref q_19), (0, .ref x), (1, .int (a1)), (2, .int (a2)), (3, .int (a3))]) X.1 X.2.1 dX12_test_163 hl (k := 1) rfl (by rw [ex_135]; rfl) (by decide) rfl (fun ls hl => ?_)
                    refine lv_goto (tgt := 139) X.1 X.2.1 dX12_test_166 (by decide) ?_
                    exact ih_L_108 _ (by omega) _ _ _ (x_133) (x_133.toInt) (x_135) (x_135.toInt) (cc_113) (nn_114) rfl hw rfl (by omega) rfl (by omega) (by rw [show x_135.toInt = i10_110_z + 1 by omega]; first | (have h := rsF_1 (f := oA T_75 q_19) (i := i10_110_z) (n := zA S x 1202 a1_z.toNat) (by omega) (by omega) (by omega); omega) | (have h := rsF_0 (f := oA T_75 q_19) (i := i10_110_z) (n := zA S x 1202 a1_z.toNat) (by omega) (by omega) (by omega); omega)) (by first | (have h := (cF_z (f := oA T_75 q_19) (i := i10_110_z) (i1 := x_135.toInt) (by omega) (by omega)).1 (by omega); omega) | (have h := (cF_z (f := oA T_75 q_19) (i := i10_110_z) (i1 := x_135.toInt) (by omega) (by omega)).2 (by omega); omega)) (by omega) (by omega) (lv_sub hl [1, 0, 2, 3, 4, 5, 6, 7, 8, 9, 10] rfl)
                · have z_b_137 := trivial
                  have k_138 : v_120.toInt = 0 := z_eq rfl ti_0 c_123
                  refine lv_iload X.1 X.2.1 dX12_test_147 (lv_at hl 0 rfl) ?_
                  refine lv_if_le (tgt := 169) X.1 X.2.1 dX12_test_149 (by decide) (fun c_139 => ?_) (fun c_139 => ?_)
                  · have z_b_140 := trivial
                    have k_141 : i9_109_z ≤ 0 := z_le hz_i9_109 ti_0 c_139
                    refine lv_aload X.1 X.2.1 dX12_test_169 (lv_at hl 6 rfl) ?_
                    refine lv_iload X.1 X.2.1 dX12_test_171 (lv_at hl 1 rfl) ?_
                    refine lv_iconst (v := 1) X.1 X.2.1 dX12_test_173 (by decide) ?_
                    refine r_zast X hw ha_q_19_L_76 rfl (by rw [ik_84]; exact z_ix hz_i10_110 (by omega) (by omega)) dX12_test_174 (fun H locs hw => ?_)
                    obtain ⟨S_142, eS_142⟩ : ∃ T, T = sA T_75 q_19 (upd (pA T_75 q_19) (Int32.toNatClampNeg (i10_110)) (vp_nar .boolean (1))) := ⟨_, rfl⟩
                    rw [← eS_142] at hw
                    have ph_143 : cc_113 + Phc S_142 ≤ Phc S + 1 := by rw [show Phc S_142 = Phc T_75 from Ph_sA eS_142]; exact hcc_115
                    have ph_144 : nn_114 + Phs S_142 ≤ Phs S + 60 := by rw [show Phs S_142 = Phs T_75 from Ph_sA eS_142]; exact hnn_116
                    clear hcc_115
                    clear hnn_116
                    have hO_145 : Og MTS S S_142 := hO_T_75.sA eS_142 ha_q_19_L_76 (by decide +kernel) (uA_15 hO_T_75.1 ha_q_19_L_76)
                    have os_146 : ∀ j, oA S_142 q_19 j = if j = (i10_110_z).toNat then 1 else oA T_75 q_19 j := by have h := oA_s eS_142 nar1; rw [z_nc hz_i10_110 (by omega)] at h; exact h
                    have oi_147 := os_146 (i10_110_z).toNat; rw [if_pos rfl] at oi_147
                    obtain ⟨x_148, ex_148⟩ : ∃ y : Int32, y = i5_71 + (-1) := ⟨_, rfl⟩
                    have z_149 : x_148.toInt = i5_71_z + (-1) := z_add ex_148 hz_i5_71 ti_m1 (by omega) (by omega)
                    refine lv_iinc (v := x_148) (lv' := [(5, .int (x_148)), (9, .int (i9_109)), (10, .int (i10_110)), (6, .int (rr_98)), (7, .int (i7_73)), (8, .int (i8_74)), (4, .ref q_19), (0, .ref x), (1, .int (a1)), (2, .int (a2)), (3, .int (a3))]) X.1 X.2.1 dX12_test_175 hl (k := 3) rfl (by rw [ex_148]; rfl) (by decide) rfl (fun ls hl => ?_)
                    refine lv_iconst (v := 0) X.1 X.2.1 dX12_test_178 (by decide) ?_
                    refine lv_istore (lv' := [(11, .int 0), (5, .int (x_148)), (9, .int (i9_109)), (10, .int (i10_110)), (6, .int (rr_98)), (7, .int (i7_73)), (8, .int (i8_74)), (4, .ref q_19), (0, .ref x), (1, .int (a1)), (2, .int (a2)), (3, .int (a3))]) X.1 X.2.1 dX12_test_179 hl (by decide) rfl (fun ls hl => ?_)
                    refine lv_iconst (v := 0) X.1 X.2.1 dX12_test_181 (by decide) ?_
                    refine lv_istore (lv' := [(12, .int 0), (11, .int 0), (5, .int (x_148)), (9, .int (i9_109)), (10, .int (i10_110)), (6, .int (rr_98)), (7, .int (i7_73)), (8, .int (i8_74)), (4, .ref q_19), (0, .ref x), (1, .int (a1)), (2, .int (a2)), (3, .int (a3))]) X.1 X.2.1 dX12_test_182 hl (by decide) rfl (fun ls hl => ?_)
                    have L_150 : ∀ (n : Nat) (H : Heap) (locs : List Loc) (ls : Array Slot) (i11_151 : Int32) (i11_151_z : Int) (i12_152 : Int32) (i12_152_z : Int) (cc_155 nn_156 : Nat), ((220 - i12_152_z).toNat = n) → (Wd G cy (AS S s.heap.size) s.heap S_142 H locs) → (i11_151.toInt = i11_151_z) → (0 ≤ i11_151_z ∧ i11_151_z ≤ 1) → (i12_152.toInt = i12_152_z) → (0 ≤ i12_152_z ∧ i12_152_z ≤ 220) → (i11_151_z = bZ (BrP S x (60 * a1_z + i10_110_z) i12_152_z)) → (i12_152_z ≤ lenZ S x (60 * a1_z + i10_110_z)) → (cc_155 + Phc S_142 ≤ Phc S + 1) → (nn_156 + Phs S_142 ≤ Phs S + 60) → (lv_has ls 13 [(11, .int (i11_151)), (12, .int (i12_152)), (5, .int (x_148)), (9, .int (i9_109)), (10, .int (i10_110)), (6, .int (rr_98)), (7, .int (i7_73)), (8, .int (i8_74)), (4, .ref q_19), (0, .ref x), (1, .int (a1)), (2, .int (a2)), (3, .int (a3))]) → W p l e ({ frames := 3, cells := Phc S + 1, slots := Phs S + 60, locals := 144 }) s m [.ref x, .int (a1), .int (a2), .int (a3)].toArray below meth c H locs cc_155 nn_156 QQ (F0 m 184 ls []) := by
                      intro n
                      induction n using Nat.strongRecOn with
                      | ind n ih_L_150 =>
                      intro H locs ls i11_151 i11_151_z i12_152 i12_152_z cc_155 nn_156 hn hw hz_i11_151 hr_i11_151 hz_i12_152 hr_i12_152 iv_153 iv_154 hcc_157 hnn_158 hl
                      have rg_159 : (-2147483648) ≤ i11_151_z ∧ i11_151_z ≤ 2147483647 := by rw [← hz_i11_151]; exact ⟨z_lo _, z_hi _⟩
                      have rg_160 : (-2147483648) ≤ i12_152_z ∧ i12_152_z ≤ 2147483647 := by rw [← hz_i12_152]; exact ⟨z_lo _, z_hi _⟩
                      refine lv_iload X.1 X.2.1 dX12_test_184 (lv_at hl 1 rfl) ?_
                      refine lv_aload_n X.1 X.2.1 dX12_test_186 rfl (lv_at hl 9 rfl) ?_
                      refine lv_bipush (v := 60) X.1 X.2.1 dX12_test_187 (by decide) ?_
                      refine lv_iload_n X.1 X.2.1 dX12_test_189 rfl (lv_at hl 10 rfl) ?_
                      refine lv_imul X.1 X.2.1 dX12_test_190 ?_
                      refine lv_topi (fun v_161 ev_161 => ?_)
                      have z_162 : v_161.toInt = 60 * a1_z := z_mul ev_161 ti_60 hz_a1 (by omega) (by omega)
                      refine lv_iload X.1 X.2.1 dX12_test_191 (lv_at hl 4 rfl) ?_
                      refine lv_iadd X.1 X.2.1 dX12_test_193 ?_
                      refine lv_topi (fun v_163 ev_163 => ?_)
                      have z_164 : v_163.toInt = (60 * a1_z) + i10_110_z := z_add ev_163 z_162 hz_i10_110 (by omega) (by omega)
                      have t_165 : At S_142 x 12 := tAt_sA eS_142 ha_x_L_77
                      refine k_i (rm := { frames := 2, cells := 0, slots := 0, locals := 96 }) (av := [.ref x, .int (v_163)]) X hw (va_runV (As := [.int (v_163)]) (rest := [.int (i12_152)]) (cfix X) (k_X12_lengthOf l G cy κ S_142 _ x (v_163) (((60 * a1_z) + i10_110_z)) hO_145.1 t_165 z_164 (by first | assumption | omega) (by first | assumption | omega)) (cwV 1 X.2.2.2.1 gX12_test_X12_lengthOf rfl rfl rfl (by decide +kernel) ⟨Nat.le_of_ble_eq_true rfl, Nat.le_of_ble_eq_true rfl⟩) (pre_V X hw _ t_165 rfl (by decide) rfl) rfl rfl hl.1 rfl (lv_room (Nat.le_of_ble_eq_true rfl)) dX12_test_194 ⟨(by show cc_155 + 0 ≤ Phc S + 1; omega), (by show nn_156 + 0 ≤ Phs S + 60; omega)⟩) cc_155 nn_156 (by show cc_155 + 0 ≤ cc_155; omega) (by show nn_156 + 0 ≤ nn_156; omega) (fun rr_166 S_167 H locs hp hw hfr hnw => ?_)
                      obtain ⟨e2, hp⟩ := hp
                      subst e2
                      obtain ⟨ln_168, ln_169, ln_170⟩ := hp
                      have ln_171 : rr_166.toInt = lenZ S x (60 * a1_z + i10_110_z) := by rw [show (60 * a1_z + i10_110_z) = ((60 * a1_z) + i10_110_z) by omega]; exact ln_168.trans (congrFun (lenZ_free hG ha_x hO_145.fr (by decide +kernel)) _)
                      refine lv_icmp_ge (tgt := 234) X.1 X.2.1 dX12_test_197 (by decide) (fun c_172 => ?_) (fun c_172 => ?_)
                      · have z_b_173 := trivial
                        have k_174 : i12_152_z ≥ rr_166.toInt := z_le rfl hz_i12_152 c_172
                        refine lv_iload X.1 X.2.1 dX12_test_234 (lv_at hl 6 rfl) ?_
                        refine lv_iload X.1 X.2.1 dX12_test_236 (lv_at hl 0 rfl) ?_
                        refine lv_if_eq (tgt := 245) X.1 X.2.1 dX12_test_238 (by decide) (fun c_175 => ?_) (fun c_175 => ?_)
                        · have z_b_176 := trivial
                          have k_177 : i11_151_z = 0 := z_eq hz_i11_151 ti_0 c_175
                          refine lv_iconst (v := 0) X.1 X.2.1 dX12_test_245 (by decide) ?_
                          refine lv_iadd X.1 X.2.1 dX12_test_246 ?_
                          refine lv_topi (fun v_178 ev_178 => ?_)
                          have z_179 : v_178.toInt = i7_73_z + 0 := z_add ev_178 hz_i7_73 ti_0 (by omega) (by omega)
                          refine lv_istore (lv' := [(7, .int (v_178)), (11, .int (i11_151)), (12, .int (i12_152)), (5, .int (x_148)), (9, .int (i9_109)), (10, .int (i10_110)), (6, .int (rr_98)), (8, .int (i8_74)), (4, .ref q_19), (0, .ref x), (1, .int (a1)), (2, .int (a2)), (3, .int (a3))]) X.1 X.2.1 dX12_test_247 hl (by decide) rfl (fun ls hl => ?_)
                          obtain ⟨x_180, ex_180⟩ : ∃ y : Int32, y = i8_74 + 1 := ⟨_, rfl⟩
                          have z_181 : x_180.toInt = i8_74_z + 1 := z_add ex_180 hz_i8_74 ti_1 (by omega) (by omega)
                          refine lv_iinc (v := x_180) (lv' := [(8, .int (x_180)), (7, .int (v_178)), (11, .int (i11_151)), (12, .int (i12_152)), (5, .int (x_148)), (9, .int (i9_109)), (10, .int (i10_110)), (6, .int (rr_98)), (4, .ref q_19), (0, .ref x), (1, .int (a1)), (2, .int (a2)), (3, .int (a3))]) X.1 X.2.1 dX12_test_249 hl (k := 7) rfl (by rw [ex_180]; rfl) (by decide) rfl (fun ls hl => ?_)
                          refine lv_goto (tgt := 114) X.1 X.2.1 dX12_test_252 (by decide) ?_
                          have t_182 : At S_142 q_19 15 := tAt_sA eS_142 ha_q_19_L_76
                          have zc_183 : zA S_142 x 1202 = zA S x 1202 := (zA_sAn eS_142 (ex3 (gQ_12_1202 hO_T_75.1 ha_x_L_77)) ha_q_19_L_76 rfl).trans zk_78
                          have rs_184 := rsF_set (j := i10_110_z) (n := zA S x 1202 a1_z.toNat) os_146 (by omega) (by decide) (by omega) (by omega)
                          have t_185 : pN S_142 q_19 = 60 := tN_sA eS_142 ik_84
                          exact ih_L_70 _ (by omega) _ _ _ _ (x_148) (x_148.toInt) (rr_98) (rr_98.toInt) (v_178) ((i7_73_z + 0)) (x_180) (x_180.toInt) (cc_155) (nn_156) rfl hw rfl (by omega) rfl z_179 (by omega) rfl (by omega) t_182 t_165 hO_145 zc_183 (by omega) (by omega) (ts_stepR (i := i10_110_z) (skz := rr_102.toInt) iv_81 (by omega) (by omega) iv_79 nx_100 hz_i5_71 pt_107 rfl (by omega) (by omega) (by omega) (by omega) os_146 (by rw [BR_y (d := i11_151_z) (n := i12_152_z) (by omega) (by omega) iv_153 (by omega)]; omega)) (by omega) (by omega) t_185 (by omega) (by omega) (lv_sub hl [4, 7, 1, 0, 8, 9, 10, 11, 12] rfl)
                        · have z_b_186 := trivial
                          have k_187 : i11_151_z ≠ 0 := z_ne hz_i11_151 ti_0 c_175
                          refine lv_iconst (v := 1) X.1 X.2.1 dX12_test_241 (by decide) ?_
                          refine lv_goto (tgt := 246) X.1 X.2.1 dX12_test_242 (by decide) ?_
                          refine lv_iadd X.1 X.2.1 dX12_test_246 ?_
                          refine lv_topi (fun v_188 ev_188 => ?_)
                          have z_189 : v_188.toInt = i7_73_z + 1 := z_add ev_188 hz_i7_73 ti_1 (by omega) (by omega)
                          refine lv_istore (lv' := [(7, .int (v_188)), (11, .int (i11_151)), (12, .int (i12_152)), (5, .int (x_148)), (9, .int (i9_109)), (10, .int (i10_110)), (6, .int (rr_98)), (8, .int (i8_74)), (4, .ref q_19), (0, .ref x), (1, .int (a1)), (2, .int (a2)), (3, .int (a3))]) X.1 X.2.1 dX12_test_247 hl (by decide) rfl (fun ls hl => ?_)
                          obtain ⟨x_190, ex_190⟩ : ∃ y : Int32, y = i8_74 + 1 := ⟨_, rfl⟩
                          have z_191 : x_190.toInt = i8_74_z + 1 := z_add ex_190 hz_i8_74 ti_1 (by omega) (by omega)
                          refine lv_iinc (v := x_190) (lv' := [(8, .int (x_190)), (7, .int (v_188)), (11, .int (i11_151)), (12, .int (i12_152)), (5, .int (x_148)), (9, .int (i9_109)), (10, .int (i10_110)), (6, .int (rr_98)), (4, .ref q_19), (0, .ref x), (1, .int (a1)), (2, .int (a2)), (3, .int (a3))]) X.1 X.2.1 dX12_test_249 hl (k := 7) rfl (by rw [ex_190]; rfl) (by decide) rfl (fun ls hl => ?_)
                          refine lv_goto (tgt := 114) X.1 X.2.1 dX12_test_252 (by decide) ?_
                          have t_192 : At S_142 q_19 15 := tAt_sA eS_142 ha_q_19_L_76
                          have zc_193 : zA S_142 x 1202 = zA S x 1202 := (zA_sAn eS_142 (ex3 (gQ_12_1202 hO_T_75.1 ha_x_L_77)) ha_q_19_L_76 rfl).trans zk_78
                          have rs_194 := rsF_set (j := i10_110_z) (n := zA S x 1202 a1_z.toNat) os_146 (by omega) (by decide) (by omega) (by omega)
                          have t_195 : pN S_142 q_19 = 60 := tN_sA eS_142 ik_84
                          exact ih_L_70 _ (by omega) _ _ _ _ (x_148) (x_148.toInt) (rr_98) (rr_98.toInt) (v_188) ((i7_73_z + 1)) (x_190) (x_190.toInt) (cc_155) (nn_156) rfl hw rfl (by omega) rfl z_189 (by omega) rfl (by omega) t_192 t_165 hO_145 zc_193 (by omega) (by omega) (ts_stepR (i := i10_110_z) (skz := rr_102.toInt) iv_81 (by omega) (by omega) iv_79 nx_100 hz_i5_71 pt_107 rfl (by omega) (by omega) (by omega) (by omega) os_146 (by rw [BR_y (d := i11_151_z) (n := i12_152_z) (by omega) (by omega) iv_153 (by omega)]; omega)) (by omega) (by omega) t_195 (by omega) (by omega) (lv_sub hl [4, 7, 1, 0, 8, 9, 10, 11, 12] rfl)
                      · have z_b_196 := trivial
                        have k_197 : i12_152_z < rr_166.toInt := z_nle rfl hz_i12_152 c_172
                        refine lv_iload X.1 X.2.1 dX12_test_200 (lv_at hl 0 rfl) ?_
                        refine lv_if_ne (tgt := 221) X.1 X.2.1 dX12_test_202 (by decide) (fun c_198 => ?_) (fun c_198 => ?_)
                        · have z_b_199 := trivial
                          have k_200 : i11_151_z ≠ 0 := z_ne hz_i11_151 ti_0 c_198
                          refine lv_iconst (v := 1) X.1 X.2.1 dX12_test_221 (by decide) ?_
                          refine lv_goto (tgt := 226) X.1 X.2.1 dX12_test_222 (by decide) ?_
                          refine lv_istore (lv' := [(11, .int 1), (12, .int (i12_152)), (5, .int (x_148)), (9, .int (i9_109)), (10, .int (i10_110)), (6, .int (rr_98)), (7, .int (i7_73)), (8, .int (i8_74)), (4, .ref q_19), (0, .ref x), (1, .int (a1)), (2, .int (a2)), (3, .int (a3))]) X.1 X.2.1 dX12_test_226 hl (by decide) rfl (fun ls hl => ?_)
                          obtain ⟨x_201, ex_201⟩ : ∃ y : Int32, y = i12_152 + 1 := ⟨_, rfl⟩
                          have z_202 : x_201.toInt = i12_152_z + 1 := z_add ex_201 hz_i12_152 ti_1 (by omega) (by omega)
                          refine lv_iinc (v := x_201) (lv' := [(12, .int (x_201)), (11, .int 1), (5, .int (x_148)), (9, .int (i9_109)), (10, .int (i10_110)), (6, .int (rr_98)), (7, .int (i7_73)), (8, .int (i8_74)), (4, .ref q_19), (0, .ref x), (1, .int (a1)), (2, .int (a2)), (3, .int (a3))]) X.1 X.2.1 dX12_test_228 hl (k := 1) rfl (by rw [ex_201]; rfl) (by decide) rfl (fun ls hl => ?_)
                          refine lv_goto (tgt := 184) X.1 X.2.1 dX12_test_231 (by decide) ?_
                          exact ih_L_150 _ (by omega) _ _ _ (1) (1) (x_201) (x_201.toInt) (cc_155) (nn_156) rfl hw ti_1 (by omega) rfl (by omega) (br_1 iv_153 (by omega) (by omega)) (by omega) (by omega) (by omega) (lv_sub hl [1, 0, 2, 3, 4, 5, 6, 7, 8, 9, 10, 11, 12] rfl)
                        · have z_b_203 := trivial
                          have k_204 : i11_151_z = 0 := z_eq hz_i11_151 ti_0 c_198
                          refine lv_aload_n X.1 X.2.1 dX12_test_205 rfl (lv_at hl 9 rfl) ?_
                          refine lv_bipush (v := 60) X.1 X.2.1 dX12_test_206 (by decide) ?_
                          refine lv_iload_n X.1 X.2.1 dX12_test_208 rfl (lv_at hl 10 rfl) ?_
                          refine lv_imul X.1 X.2.1 dX12_test_209 ?_
                          refine lv_topi (fun v_205 ev_205 => ?_)
                          have z_206 : v_205.toInt = 60 * a1_z := z_mul ev_205 ti_60 hz_a1 (by omega) (by omega)
                          refine lv_iload X.1 X.2.1 dX12_test_210 (lv_at hl 4 rfl) ?_
                          refine lv_iadd X.1 X.2.1 dX12_test_212 ?_
                          refine lv_topi (fun v_207 ev_207 => ?_)
                          have z_208 : v_207.toInt = (60 * a1_z) + i10_110_z := z_add ev_207 z_206 hz_i10_110 (by omega) (by omega)
                          refine lv_iload X.1 X.2.1 dX12_test_213 (lv_at hl 1 rfl) ?_
                          refine k_i (rm := { frames := 2, cells := 0, slots := 0, locals := 96 }) (av := [.ref x, .int (v_207), .int (i12_152)]) X hw (va_runV (As := [.int (v_207), .int (i12_152)]) (rest := []) (cfix X) (k_X12_breaks3 l G cy κ S_142 _ x (v_207) (((60 * a1_z) + i10_110_z)) (i12_152) (i12_152_z) hO_145.1 t_165 z_208 hz_i12_152 (by first | assumption | omega) (by first | assumption | omega)) (cwV 2 X.2.2.2.1 gX12_test_X12_breaks rfl rfl rfl (by decide +kernel) ⟨Nat.le_of_ble_eq_true rfl, Nat.le_of_ble_eq_true rfl⟩) (pre_V X hw _ t_165 rfl (by decide) rfl) rfl rfl hl.1 rfl (lv_room (Nat.le_of_ble_eq_true rfl)) dX12_test_215 ⟨(by show cc_155 + 0 ≤ Phc S + 1; omega), (by show nn_156 + 0 ≤ Phs S + 60; omega)⟩) cc_155 nn_156 (by show cc_155 + 0 ≤ cc_155; omega) (by show nn_156 + 0 ≤ nn_156; omega) (fun rr_209 S_210 H locs hp hw hfr hnw => ?_)
                          obtain ⟨e2, hp⟩ := hp
                          subst e2
                          rcases hp with ⟨f_211, er_212⟩ | ⟨f_211, er_212⟩ <;> subst er_212
                          · have z_b_213 := trivial
                            refine lv_if_eq (tgt := 225) X.1 X.2.1 dX12_test_218 (by decide) (fun c_214 => absurd c_214 (by decide)) (fun c_214 => ?_)
                            refine lv_iconst (v := 1) X.1 X.2.1 dX12_test_221 (by decide) ?_
                            refine lv_goto (tgt := 226) X.1 X.2.1 dX12_test_222 (by decide) ?_
                            refine lv_istore (lv' := [(11, .int 1), (12, .int (i12_152)), (5, .int (x_148)), (9, .int (i9_109)), (10, .int (i10_110)), (6, .int (rr_98)), (7, .int (i7_73)), (8, .int (i8_74)), (4, .ref q_19), (0, .ref x), (1, .int (a1)), (2, .int (a2)), (3, .int (a3))]) X.1 X.2.1 dX12_test_226 hl (by decide) rfl (fun ls hl => ?_)
                            obtain ⟨x_215, ex_215⟩ : ∃ y : Int32, y = i12_152 + 1 := ⟨_, rfl⟩
                            have z_216 : x_215.toInt = i12_152_z + 1 := z_add ex_215 hz_i12_152 ti_1 (by omega) (by omega)
                            refine lv_iinc (v := x_215) (lv' := [(12, .int (x_215)), (11, .int 1), (5, .int (x_148)), (9, .int (i9_109)), (10, .int (i10_110)), (6, .int (rr_98)), (7, .int (i7_73)), (8, .int (i8_74)), (4, .ref q_19), (0, .ref x), (1, .int (a1)), (2, .int (a2)), (3, .int (a3))]) X.1 X.2.1 dX12_test_228 hl (k := 1) rfl (by rw [ex_215]; rfl) (by decide) rfl (fun ls hl => ?_)
                            refine lv_goto (tgt := 184) X.1 X.2.1 dX12_test_231 (by decide) ?_
                            have bf_217 : brI (mA S x 1203 ((60 * a1_z + i10_110_z) / 60).toNat) (mA S x 1206 ((60 * a1_z + i10_110_z) / 60).toNat) (Int32.ofInt ((60 * a1_z + i10_110_z) % 60)) i12_152 := by rw [← (mA_fr hO_145.fr ha_x (ex3 (gQ_12_1203 hG ha_x)) (by decide +kernel) (by decide +kernel) : mA S_142 x 1203 = _), ← (mA_fr hO_145.fr ha_x (ex3 (gQ_12_1206 hG ha_x)) (by decide +kernel) (by decide +kernel) : mA S_142 x 1206 = _), show (60 * a1_z + i10_110_z) = ((60 * a1_z) + i10_110_z) by omega]; exact f_211
                            exact ih_L_150 _ (by omega) _ _ _ (1) (1) (x_215) (x_215.toInt) (cc_155) (nn_156) rfl hw ti_1 (by omega) rfl (by omega) (br_2 hz_i12_152 (by omega) bf_217 (by omega)) (by omega) (by omega) (by omega) (lv_sub hl [1, 0, 2, 3, 4, 5, 6, 7, 8, 9, 10, 11, 12] rfl)
                          · have z_b_218 := trivial
                            refine lv_if_eq (tgt := 225) X.1 X.2.1 dX12_test_218 (by decide) (fun c_219 => ?_) (fun c_219 => absurd c_219 (by decide))
                            refine lv_iconst (v := 0) X.1 X.2.1 dX12_test_225 (by decide) ?_
                            refine lv_istore (lv' := [(11, .int 0), (12, .int (i12_152)), (5, .int (x_148)), (9, .int (i9_109)), (10, .int (i10_110)), (6, .int (rr_98)), (7, .int (i7_73)), (8, .int (i8_74)), (4, .ref q_19), (0, .ref x), (1, .int (a1)), (2, .int (a2)), (3, .int (a3))]) X.1 X.2.1 dX12_test_226 hl (by decide) rfl (fun ls hl => ?_)
                            obtain ⟨x_220, ex_220⟩ : ∃ y : Int32, y = i12_152 + 1 := ⟨_, rfl⟩
                            have z_221 : x_220.toInt = i12_152_z + 1 := z_add ex_220 hz_i12_152 ti_1 (by omega) (by omega)
                            refine lv_iinc (v := x_220) (lv' := [(12, .int (x_220)), (11, .int 0), (5, .int (x_148)), (9, .int (i9_109)), (10, .int (i10_110)), (6, .int (rr_98)), (7, .int (i7_73)), (8, .int (i8_74)), (4, .ref q_19), (0, .ref x), (1, .int (a1)), (2, .int (a2)), (3, .int (a3))]) X.1 X.2.1 dX12_test_228 hl (k := 1) rfl (by rw [ex_220]; rfl) (by decide) rfl (fun ls hl => ?_)
                            refine lv_goto (tgt := 184) X.1 X.2.1 dX12_test_231 (by decide) ?_
                            have bf_222 : ¬ brI (mA S x 1203 ((60 * a1_z + i10_110_z) / 60).toNat) (mA S x 1206 ((60 * a1_z + i10_110_z) / 60).toNat) (Int32.ofInt ((60 * a1_z + i10_110_z) % 60)) i12_152 := by rw [← (mA_fr hO_145.fr ha_x (ex3 (gQ_12_1203 hG ha_x)) (by decide +kernel) (by decide +kernel) : mA S_142 x 1203 = _), ← (mA_fr hO_145.fr ha_x (ex3 (gQ_12_1206 hG ha_x)) (by decide +kernel) (by decide +kernel) : mA S_142 x 1206 = _), show (60 * a1_z + i10_110_z) = ((60 * a1_z) + i10_110_z) by omega]; exact f_211
                            exact ih_L_150 _ (by omega) _ _ _ (0) (0) (x_220) (x_220.toInt) (cc_155) (nn_156) rfl hw ti_0 (by omega) rfl (by omega) (br_3 iv_153 (by omega) hz_i12_152 bf_222 (by omega)) (by omega) (by omega) (by omega) (lv_sub hl [1, 0, 2, 3, 4, 5, 6, 7, 8, 9, 10, 11, 12] rfl)
                    exact L_150 _ _ _ _ (0) (0) (0) (0) (cc_113) (nn_114) rfl hw ti_0 (by omega) ti_0 (by omega) (show (0 : Int) = bZ (brA _ _ _ 0) from brA_0.symm) (by have h := lenZ_ge S x (60 * a1_z + i10_110_z); omega) (by omega) (by omega) (lv_sub hl [1, 0, 2, 3, 4, 5, 6, 7, 8, 9, 10, 11, 12] rfl)
                  · have z_b_223 := trivial
                    have k_224 : i9_109_z > 0 := z_nle hz_i9_109 ti_0 c_139
                    refine lv_aload X.1 X.2.1 dX12_test_152 (lv_at hl 6 rfl) ?_
                    refine lv_iload X.1 X.2.1 dX12_test_154 (lv_at hl 1 rfl) ?_
                    refine r_zald X hw ha_q_19_L_76 rfl (by rw [ik_84]; exact z_ix hz_i10_110 (by omega) (by omega)) dX12_test_156 ?_
                    rw [ev_120]
                    refine lv_if_ne (tgt := 163) X.1 X.2.1 dX12_test_157 (by decide) (fun c_225 => ?_) (fun c_225 => ?_)
                    · have z_b_226 := trivial
                      have k_227 : v_120.toInt ≠ 0 := z_ne rfl ti_0 c_225
                      obtain ⟨x_228, ex_228⟩ : ∃ y : Int32, y = i10_110 + 1 := ⟨_, rfl⟩
                      have z_229 : x_228.toInt = i10_110_z + 1 := z_add ex_228 hz_i10_110 ti_1 (by omega) (by omega)
                      refine lv_iinc (v := x_228) (lv' := [(10, .int (x_228)), (9, .int (i9_109)), (6, .int (rr_98)), (5, .int (i5_71)), (7, .int (i7_73)), (8, .int (i8_74)), (4, .ref q_19), (0, .ref x), (1, .int (a1)), (2, .int (a2)), (3, .int (a3))]) X.1 X.2.1 dX12_test_163 hl (k := 1) rfl (by rw [ex_228]; rfl) (by decide) rfl (fun ls hl => ?_)
                      refine lv_goto (tgt := 139) X.1 X.2.1 dX12_test_166 (by decide) ?_
                      exact ih_L_108 _ (by omega) _ _ _ (i9_109) (i9_109_z) (x_228) (x_228.toInt) (cc_113) (nn_114) rfl hw hz_i9_109 (by omega) rfl (by omega) (by rw [show x_228.toInt = i10_110_z + 1 by omega]; first | (have h := rsF_1 (f := oA T_75 q_19) (i := i10_110_z) (n := zA S x 1202 a1_z.toNat) (by omega) (by omega) (by omega); omega) | (have h := rsF_0 (f := oA T_75 q_19) (i := i10_110_z) (n := zA S x 1202 a1_z.toNat) (by omega) (by omega) (by omega); omega)) (by first | (have h := (cF_z (f := oA T_75 q_19) (i := i10_110_z) (i1 := x_228.toInt) (by omega) (by omega)).1 (by omega); omega) | (have h := (cF_z (f := oA T_75 q_19) (i := i10_110_z) (i1 := x_228.toInt) (by omega) (by omega)).2 (by omega); omega)) (by omega) (by omega) (lv_sub hl [1, 0, 2, 3, 4, 5, 6, 7, 8, 9, 10] rfl)
                    · have z_b_230 := trivial
                      have k_231 : v_120.toInt = 0 := z_eq rfl ti_0 c_225
                      obtain ⟨x_232, ex_232⟩ : ∃ y : Int32, y = i9_109 + (-1) := ⟨_, rfl⟩
                      have z_233 : x_232.toInt = i9_109_z + (-1) := z_add ex_232 hz_i9_109 ti_m1 (by omega) (by omega)
                      refine lv_iinc (v := x_232) (lv' := [(9, .int (x_232)), (10, .int (i10_110)), (6, .int (rr_98)), (5, .int (i5_71)), (7, .int (i7_73)), (8, .int (i8_74)), (4, .ref q_19), (0, .ref x), (1, .int (a1)), (2, .int (a2)), (3, .int (a3))]) X.1 X.2.1 dX12_test_160 hl (k := 0) rfl (by rw [ex_232]; rfl) (by decide) rfl (fun ls hl => ?_)
                      obtain ⟨x_234, ex_234⟩ : ∃ y : Int32, y = i10_110 + 1 := ⟨_, rfl⟩
                      have z_235 : x_234.toInt = i10_110_z + 1 := z_add ex_234 hz_i10_110 ti_1 (by omega) (by omega)
                      refine lv_iinc (v := x_234) (lv' := [(10, .int (x_234)), (9, .int (x_232)), (6, .int (rr_98)), (5, .int (i5_71)), (7, .int (i7_73)), (8, .int (i8_74)), (4, .ref q_19), (0, .ref x), (1, .int (a1)), (2, .int (a2)), (3, .int (a3))]) X.1 X.2.1 dX12_test_163 hl (k := 1) rfl (by rw [ex_234]; rfl) (by decide) rfl (fun ls hl => ?_)
                      refine lv_goto (tgt := 139) X.1 X.2.1 dX12_test_166 (by decide) ?_
                      exact ih_L_108 _ (by omega) _ _ _ (x_232) (x_232.toInt) (x_234) (x_234.toInt) (cc_113) (nn_114) rfl hw rfl (by omega) rfl (by omega) (by rw [show x_234.toInt = i10_110_z + 1 by omega]; first | (have h := rsF_1 (f := oA T_75 q_19) (i := i10_110_z) (n := zA S x 1202 a1_z.toNat) (by omega) (by omega) (by omega); omega) | (have h := rsF_0 (f := oA T_75 q_19) (i := i10_110_z) (n := zA S x 1202 a1_z.toNat) (by omega) (by omega) (by omega); omega)) (by first | (have h := (cF_z (f := oA T_75 q_19) (i := i10_110_z) (i1 := x_234.toInt) (by omega) (by omega)).1 (by omega); omega) | (have h := (cF_z (f := oA T_75 q_19) (i := i10_110_z) (i1 := x_234.toInt) (by omega) (by omega)).2 (by omega); omega)) (by omega) (by omega) (lv_sub hl [1, 0, 2, 3, 4, 5, 6, 7, 8, 9, 10] rfl)
              exact L_108 _ _ _ _ (rr_102) (rr_102.toInt) (0) (0) (cc_85) (nn_86) rfl hw rfl (by omega) ti_0 (by omega) (by omega) (by rw [show cF (oA T_75 q_19) 0 (0 : Int).toNat = 0 from rfl]; omega) (by omega) (by omega) (lv_sub hl [1, 0, 2, 3, 4, 5, 6, 7, 8, 9, 10] rfl)
          exact L_70 _ _ _ _ _ (i5_29) (i5_29_z) (a2) (a2_z) (0) (0) (0) (0) (cc_45) (nn_46) rfl hw hz_i5_29 (by omega) hz_a2 ti_0 (by omega) ti_0 (by omega) ha_q_19_L_32 ha_x_L_33 hO_T_31 zk_36 (rsFz (by rw [show zA S x 1202 a1_z.toNat = i6_30_z by omega]; exact iv_40)) (by omega) (by rw [ou_62, Int.sub_zero, Int.zero_add]) (by omega) (by omega) ik_44 (by omega) (by omega) (lv_sub hl [3, 2, 1, 0, 4, 5, 6, 7, 8] rfl)
        · have z_b_236 := trivial
          refine lv_if_ne (tgt := 105) X.1 X.2.1 dX12_test_100 (by decide) (fun c_237 => absurd c_237 (by decide)) (fun c_237 => ?_)
          refine lv_iconst (v := (-1)) X.1 X.2.1 dX12_test_103 (by decide) ?_
          rw [hQQ]
          exact ret_gi X hw hr hlocks (by show cc_45 ≤ Phc S + 1; omega) (by show nn_46 ≤ Phs S + 60; omega) (by omega) (by omega) ⟨hO_T_31, ⟨z_lo _, z_hi _, fun h => (by exfalso; obtain ⟨h1, h2, h3, h4⟩ := h; omega), fun _ => by decide⟩⟩ dX12_test_104
      · have z_b_238 := trivial
        have k_239 : i6_30_z < v_55.toInt := z_nle rfl hz_i6_30 c_59
        refine lv_aload X.1 X.2.1 dX12_test_44 (lv_at hl 2 rfl) ?_
        refine lv_iload X.1 X.2.1 dX12_test_46 (lv_at hl 1 rfl) ?_
        refine lv_aload_n X.1 X.2.1 dX12_test_48 rfl (lv_at hl 3 rfl) ?_
        obtain ⟨q_240, h_241, h_242, h_243⟩ := gQ_12_1207 hO_T_31.1 ha_x_L_33
        refine r_getR (g := 1207) X hw ha_x_L_33 rfl 7 h_241 (by decide) rfl inn_X12_test_12 (by decide) (X.2.2.2.1 (.fieldLink RX12 25 "SilkMillModel" "stand" "[I") (by decide +kernel)) rfl (gv_1207 _ _) dX12_test_49 ?_
        refine lv_bipush (v := 60) X.1 X.2.1 dX12_test_52 (by decide) ?_
        refine lv_iload_n X.1 X.2.1 dX12_test_54 rfl (lv_at hl 4 rfl) ?_
        refine lv_imul X.1 X.2.1 dX12_test_55 ?_
        refine lv_topi (fun v_244 ev_244 => ?_)
        have z_245 : v_244.toInt = 60 * a1_z := z_mul ev_244 ti_60 hz_a1 (by omega) (by omega)
        refine lv_iload X.1 X.2.1 dX12_test_56 (lv_at hl 1 rfl) ?_
        refine lv_iadd X.1 X.2.1 dX12_test_58 ?_
        refine lv_topi (fun v_246 ev_246 => ?_)
        have z_247 : v_246.toInt = (60 * a1_z) + i6_30_z := z_add ev_246 z_245 hz_i6_30 (by omega) (by omega)
        refine r_iald X hw h_242 rfl (by rw [h_243]; exact z_ix z_247 (by omega) (by omega)) dX12_test_59 ?_
        refine lv_topi (fun v_248 ev_248 => ?_)
        have rg_249 := And.intro (z_lo v_248) (z_hi v_248)
        have ev_248 := ev_248.symm
        have zf_250 : zA T_31 x 1207 (((60 * a1_z) + i6_30_z)).toNat = v_248.toInt := (zA_of h_241 z_247 (by omega) ev_248)
        have z7_251 : zA S x 1207 (60 * a1_z + i6_30_z).toNat = v_248.toInt := by rw [show (60 * a1_z + i6_30_z) = ((60 * a1_z) + i6_30_z) by omega]; exact (congrFun zk_39 _).symm.trans zf_250
        refine lv_if_eq (tgt := 67) X.1 X.2.1 dX12_test_60 (by decide) (fun c_252 => ?_) (fun c_252 => ?_)
        · have z_b_253 := trivial
          have k_254 : v_248.toInt = 0 := z_eq rfl ti_0 c_252
          refine lv_iconst (v := 0) X.1 X.2.1 dX12_test_67 (by decide) ?_
          refine r_zast X hw ha_q_19_L_32 rfl (by rw [ik_44]; exact z_ix hz_i6_30 (by omega) (by omega)) dX12_test_68 (fun H locs hw => ?_)
          obtain ⟨S_255, eS_255⟩ : ∃ T, T = sA T_31 q_19 (upd (pA T_31 q_19) (Int32.toNatClampNeg (i6_30)) (vp_nar .boolean (0))) := ⟨_, rfl⟩
          rw [← eS_255] at hw
          have ph_256 : cc_45 + Phc S_255 ≤ Phc S + 1 := by rw [show Phc S_255 = Phc T_31 from Ph_sA eS_255]; exact hcc_47
          have ph_257 : nn_46 + Phs S_255 ≤ Phs S + 60 := by rw [show Phs S_255 = Phs T_31 from Ph_sA eS_255]; exact hnn_48
          clear hcc_47
          clear hnn_48
          have hO_258 : Og MTS S S_255 := hO_T_31.sA eS_255 ha_q_19_L_32 (by decide +kernel) (uA_15 hO_T_31.1 ha_q_19_L_32)
          have os_259 : ∀ j, oA S_255 q_19 j = if j = (i6_30_z).toNat then 0 else oA T_31 q_19 j := by have h := oA_s eS_255 nar0; rw [z_nc hz_i6_30 (by omega)] at h; exact h
          have oi_260 := os_259 (i6_30_z).toNat; rw [if_pos rfl] at oi_260
          refine lv_iload X.1 X.2.1 dX12_test_69 (lv_at hl 0 rfl) ?_
          refine lv_aload X.1 X.2.1 dX12_test_71 (lv_at hl 2 rfl) ?_
          refine lv_iload X.1 X.2.1 dX12_test_73 (lv_at hl 1 rfl) ?_
          have t_261 : At S_255 q_19 15 := tAt_sA eS_255 ha_q_19_L_32
          have t_262 : pN S_255 q_19 = 60 := tN_sA eS_255 ik_44
          refine r_zald X hw t_261 rfl (by rw [t_262]; exact z_ix hz_i6_30 (by omega) (by omega)) dX12_test_75 ?_
          refine lv_topi (fun v_263 ev_263 => ?_)
          have rg_264 := And.intro (z_lo v_263) (z_hi v_263)
          have ev_263 := ev_263.symm
          have oa_265 : oA S_255 q_19 (i6_30_z).toNat = v_263.toInt := oA_of hz_i6_30 (by omega) ev_263
          refine lv_if_eq (tgt := 83) X.1 X.2.1 dX12_test_76 (by decide) (fun c_266 => ?_) (fun c_266 => ?_)
          · have z_b_267 := trivial
            have k_268 : v_263.toInt = 0 := z_eq rfl ti_0 c_266
            refine lv_iconst (v := 1) X.1 X.2.1 dX12_test_83 (by decide) ?_
            refine lv_iadd X.1 X.2.1 dX12_test_84 ?_
            refine lv_topi (fun v_269 ev_269 => ?_)
            have z_270 : v_269.toInt = i5_29_z + 1 := z_add ev_269 hz_i5_29 ti_1 (by omega) (by omega)
            refine lv_istore (lv' := [(5, .int (v_269)), (6, .int (i6_30)), (4, .ref q_19), (0, .ref x), (1, .int (a1)), (2, .int (a2)), (3, .int (a3))]) X.1 X.2.1 dX12_test_85 hl (by decide) rfl (fun ls hl => ?_)
            obtain ⟨x_271, ex_271⟩ : ∃ y : Int32, y = i6_30 + 1 := ⟨_, rfl⟩
            have z_272 : x_271.toInt = i6_30_z + 1 := z_add ex_271 hz_i6_30 ti_1 (by omega) (by omega)
            refine lv_iinc (v := x_271) (lv' := [(6, .int (x_271)), (5, .int (v_269)), (4, .ref q_19), (0, .ref x), (1, .int (a1)), (2, .int (a2)), (3, .int (a3))]) X.1 X.2.1 dX12_test_87 hl (k := 1) rfl (by rw [ex_271]; rfl) (by decide) rfl (fun ls hl => ?_)
            refine lv_goto (tgt := 33) X.1 X.2.1 dX12_test_90 (by decide) ?_
            have t_273 : At S_255 x 12 := tAt_sA eS_255 ha_x_L_33
            have zc_274 : zA S_255 x 1202 = zA S x 1202 := (zA_sAn eS_255 (ex3 (gQ_12_1202 hO_T_31.1 ha_x_L_33)) ha_q_19_L_32 rfl).trans zk_36
            have zc_275 : zA S_255 x 1207 = zA S x 1207 := (zA_sAn eS_255 (ex3 (gQ_12_1207 hO_T_31.1 ha_x_L_33)) ha_q_19_L_32 rfl).trans zk_39
            exact ih_L_28 _ (by omega) _ _ _ _ (v_269) ((i5_29_z + 1)) (x_271) (x_271.toInt) (cc_45) (nn_46) rfl hw z_270 (by omega) rfl (by omega) t_261 t_273 hO_258 zc_274 zc_275 (by have h := cnt_put0 (i := i6_30_z) os_259 (by decide) (by omega) iv_40; rw [show x_271.toInt = i6_30_z + 1 by omega]; omega) (by omega) (by omega) (fun j h => by rw [os_259 j]; by_cases e : j = (i6_30_z).toNat; rw [if_pos e]; have e2 : (j : Int) = i6_30_z := (by omega); show _ ↔ zA S x 1207 (60 * a1_z + (j : Int)).toNat = 0; rw [e2, z7_251]; constructor <;> (intro _; omega); rw [if_neg e]; exact iv_43 j (by omega)) t_262 (by omega) (by omega) (lv_sub hl [1, 0, 2, 3, 4, 5, 6] rfl)
          · have z_b_276 := trivial
            have k_277 : v_263.toInt ≠ 0 := z_ne rfl ti_0 c_266
            refine lv_iconst (v := 0) X.1 X.2.1 dX12_test_79 (by decide) ?_
            refine lv_goto (tgt := 84) X.1 X.2.1 dX12_test_80 (by decide) ?_
            refine lv_iadd X.1 X.2.1 dX12_test_84 ?_
            refine lv_topi (fun v_278 ev_278 => ?_)
            have z_279 : v_278.toInt = i5_29_z + 0 := z_add ev_278 hz_i5_29 ti_0 (by omega) (by omega)
            refine lv_istore (lv' := [(5, .int (v_278)), (6, .int (i6_30)), (4, .ref q_19), (0, .ref x), (1, .int (a1)), (2, .int (a2)), (3, .int (a3))]) X.1 X.2.1 dX12_test_85 hl (by decide) rfl (fun ls hl => ?_)
            obtain ⟨x_280, ex_280⟩ : ∃ y : Int32, y = i6_30 + 1 := ⟨_, rfl⟩
            have z_281 : x_280.toInt = i6_30_z + 1 := z_add ex_280 hz_i6_30 ti_1 (by omega) (by omega)
            refine lv_iinc (v := x_280) (lv' := [(6, .int (x_280)), (5, .int (v_278)), (4, .ref q_19), (0, .ref x), (1, .int (a1)), (2, .int (a2)), (3, .int (a3))]) X.1 X.2.1 dX12_test_87 hl (k := 1) rfl (by rw [ex_280]; rfl) (by decide) rfl (fun ls hl => ?_)
            refine lv_goto (tgt := 33) X.1 X.2.1 dX12_test_90 (by decide) ?_
            have t_282 : At S_255 x 12 := tAt_sA eS_255 ha_x_L_33
            have zc_283 : zA S_255 x 1202 = zA S x 1202 := (zA_sAn eS_255 (ex3 (gQ_12_1202 hO_T_31.1 ha_x_L_33)) ha_q_19_L_32 rfl).trans zk_36
            have zc_284 : zA S_255 x 1207 = zA S x 1207 := (zA_sAn eS_255 (ex3 (gQ_12_1207 hO_T_31.1 ha_x_L_33)) ha_q_19_L_32 rfl).trans zk_39
            exact ih_L_28 _ (by omega) _ _ _ _ (v_278) ((i5_29_z + 0)) (x_280) (x_280.toInt) (cc_45) (nn_46) rfl hw z_279 (by omega) rfl (by omega) t_261 t_282 hO_258 zc_283 zc_284 (by have h := cnt_put0 (i := i6_30_z) os_259 (by decide) (by omega) iv_40; rw [show x_280.toInt = i6_30_z + 1 by omega]; omega) (by omega) (by omega) (fun j h => by rw [os_259 j]; by_cases e : j = (i6_30_z).toNat; rw [if_pos e]; have e2 : (j : Int) = i6_30_z := (by omega); show _ ↔ zA S x 1207 (60 * a1_z + (j : Int)).toNat = 0; rw [e2, z7_251]; constructor <;> (intro _; omega); rw [if_neg e]; exact iv_43 j (by omega)) t_262 (by omega) (by omega) (lv_sub hl [1, 0, 2, 3, 4, 5, 6] rfl)
        · have z_b_285 := trivial
          have k_286 : v_248.toInt ≠ 0 := z_ne rfl ti_0 c_252
          refine lv_iconst (v := 1) X.1 X.2.1 dX12_test_63 (by decide) ?_
          refine lv_goto (tgt := 68) X.1 X.2.1 dX12_test_64 (by decide) ?_
          refine r_zast X hw ha_q_19_L_32 rfl (by rw [ik_44]; exact z_ix hz_i6_30 (by omega) (by omega)) dX12_test_68 (fun H locs hw => ?_)
          obtain ⟨S_287, eS_287⟩ : ∃ T, T = sA T_31 q_19 (upd (pA T_31 q_19) (Int32.toNatClampNeg (i6_30)) (vp_nar .boolean (1))) := ⟨_, rfl⟩
          rw [← eS_287] at hw
          have ph_288 : cc_45 + Phc S_287 ≤ Phc S + 1 := by rw [show Phc S_287 = Phc T_31 from Ph_sA eS_287]; exact hcc_47
          have ph_289 : nn_46 + Phs S_287 ≤ Phs S + 60 := by rw [show Phs S_287 = Phs T_31 from Ph_sA eS_287]; exact hnn_48
          clear hcc_47
          clear hnn_48
          have hO_290 : Og MTS S S_287 := hO_T_31.sA eS_287 ha_q_19_L_32 (by decide +kernel) (uA_15 hO_T_31.1 ha_q_19_L_32)
          have os_291 : ∀ j, oA S_287 q_19 j = if j = (i6_30_z).toNat then 1 else oA T_31 q_19 j := by have h := oA_s eS_287 nar1; rw [z_nc hz_i6_30 (by omega)] at h; exact h
          have oi_292 := os_291 (i6_30_z).toNat; rw [if_pos rfl] at oi_292
          refine lv_iload X.1 X.2.1 dX12_test_69 (lv_at hl 0 rfl) ?_
          refine lv_aload X.1 X.2.1 dX12_test_71 (lv_at hl 2 rfl) ?_
          refine lv_iload X.1 X.2.1 dX12_test_73 (lv_at hl 1 rfl) ?_
          have t_293 : At S_287 q_19 15 := tAt_sA eS_287 ha_q_19_L_32
          have t_294 : pN S_287 q_19 = 60 := tN_sA eS_287 ik_44
          refine r_zald X hw t_293 rfl (by rw [t_294]; exact z_ix hz_i6_30 (by omega) (by omega)) dX12_test_75 ?_
          refine lv_topi (fun v_295 ev_295 => ?_)
          have rg_296 := And.intro (z_lo v_295) (z_hi v_295)
          have ev_295 := ev_295.symm
          have oa_297 : oA S_287 q_19 (i6_30_z).toNat = v_295.toInt := oA_of hz_i6_30 (by omega) ev_295
          refine lv_if_eq (tgt := 83) X.1 X.2.1 dX12_test_76 (by decide) (fun c_298 => ?_) (fun c_298 => ?_)
          · have z_b_299 := trivial
            have k_300 : v_295.toInt = 0 := z_eq rfl ti_0 c_298
            refine lv_iconst (v := 1) X.1 X.2.1 dX12_test_83 (by decide) ?_
            refine lv_iadd X.1 X.2.1 dX12_test_84 ?_
            refine lv_topi (fun v_301 ev_301 => ?_)
            have z_302 : v_301.toInt = i5_29_z + 1 := z_add ev_301 hz_i5_29 ti_1 (by omega) (by omega)
            refine lv_istore (lv' := [(5, .int (v_301)), (6, .int (i6_30)), (4, .ref q_19), (0, .ref x), (1, .int (a1)), (2, .int (a2)), (3, .int (a3))]) X.1 X.2.1 dX12_test_85 hl (by decide) rfl (fun ls hl => ?_)
            obtain ⟨x_303, ex_303⟩ : ∃ y : Int32, y = i6_30 + 1 := ⟨_, rfl⟩
            have z_304 : x_303.toInt = i6_30_z + 1 := z_add ex_303 hz_i6_30 ti_1 (by omega) (by omega)
            refine lv_iinc (v := x_303) (lv' := [(6, .int (x_303)), (5, .int (v_301)), (4, .ref q_19), (0, .ref x), (1, .int (a1)), (2, .int (a2)), (3, .int (a3))]) X.1 X.2.1 dX12_test_87 hl (k := 1) rfl (by rw [ex_303]; rfl) (by decide) rfl (fun ls hl => ?_)
            refine lv_goto (tgt := 33) X.1 X.2.1 dX12_test_90 (by decide) ?_
            have t_305 : At S_287 x 12 := tAt_sA eS_287 ha_x_L_33
            have zc_306 : zA S_287 x 1202 = zA S x 1202 := (zA_sAn eS_287 (ex3 (gQ_12_1202 hO_T_31.1 ha_x_L_33)) ha_q_19_L_32 rfl).trans zk_36
            have zc_307 : zA S_287 x 1207 = zA S x 1207 := (zA_sAn eS_287 (ex3 (gQ_12_1207 hO_T_31.1 ha_x_L_33)) ha_q_19_L_32 rfl).trans zk_39
            exact ih_L_28 _ (by omega) _ _ _ _ (v_301) ((i5_29_z + 1)) (x_303) (x_303.toInt) (cc_45) (nn_46) rfl hw z_302 (by omega) rfl (by omega) t_293 t_305 hO_290 zc_306 zc_307 (by have h := cnt_put1 (i := i6_30_z) os_291 (by decide) (by omega) iv_40; rw [show x_303.toInt = i6_30_z + 1 by omega]; omega) (by omega) (by omega) (fun j h => by rw [os_291 j]; by_cases e : j = (i6_30_z).toNat; rw [if_pos e]; have e2 : (j : Int) = i6_30_z := (by omega); show _ ↔ zA S x 1207 (60 * a1_z + (j : Int)).toNat = 0; rw [e2, z7_251]; constructor <;> (intro _; omega); rw [if_neg e]; exact iv_43 j (by omega)) t_294 (by omega) (by omega) (lv_sub hl [1, 0, 2, 3, 4, 5, 6] rfl)
          · have z_b_308 := trivial
            have k_309 : v_295.toInt ≠ 0 := z_ne rfl ti_0 c_298
            refine lv_iconst (v := 0) X.1 X.2.1 dX12_test_79 (by decide) ?_
            refine lv_goto (tgt := 84) X.1 X.2.1 dX12_test_80 (by decide) ?_
            refine lv_iadd X.1 X.2.1 dX12_test_84 ?_
            refine lv_topi (fun v_310 ev_310 => ?_)
            have z_311 : v_310.toInt = i5_29_z + 0 := z_add ev_310 hz_i5_29 ti_0 (by omega) (by omega)
            refine lv_istore (lv' := [(5, .int (v_310)), (6, .int (i6_30)), (4, .ref q_19), (0, .ref x), (1, .int (a1)), (2, .int (a2)), (3, .int (a3))]) X.1 X.2.1 dX12_test_85 hl (by decide) rfl (fun ls hl => ?_)
            obtain ⟨x_312, ex_312⟩ : ∃ y : Int32, y = i6_30 + 1 := ⟨_, rfl⟩
            have z_313 : x_312.toInt = i6_30_z + 1 := z_add ex_312 hz_i6_30 ti_1 (by omega) (by omega)
            refine lv_iinc (v := x_312) (lv' := [(6, .int (x_312)), (5, .int (v_310)), (4, .ref q_19), (0, .ref x), (1, .int (a1)), (2, .int (a2)), (3, .int (a3))]) X.1 X.2.1 dX12_test_87 hl (k := 1) rfl (by rw [ex_312]; rfl) (by decide) rfl (fun ls hl => ?_)
            refine lv_goto (tgt := 33) X.1 X.2.1 dX12_test_90 (by decide) ?_
            have t_314 : At S_287 x 12 := tAt_sA eS_287 ha_x_L_33
            have zc_315 : zA S_287 x 1202 = zA S x 1202 := (zA_sAn eS_287 (ex3 (gQ_12_1202 hO_T_31.1 ha_x_L_33)) ha_q_19_L_32 rfl).trans zk_36
            have zc_316 : zA S_287 x 1207 = zA S x 1207 := (zA_sAn eS_287 (ex3 (gQ_12_1207 hO_T_31.1 ha_x_L_33)) ha_q_19_L_32 rfl).trans zk_39
            exact ih_L_28 _ (by omega) _ _ _ _ (v_310) ((i5_29_z + 0)) (x_312) (x_312.toInt) (cc_45) (nn_46) rfl hw z_311 (by omega) rfl (by omega) t_293 t_314 hO_290 zc_315 zc_316 (by have h := cnt_put1 (i := i6_30_z) os_291 (by decide) (by omega) iv_40; rw [show x_312.toInt = i6_30_z + 1 by omega]; omega) (by omega) (by omega) (fun j h => by rw [os_291 j]; by_cases e : j = (i6_30_z).toNat; rw [if_pos e]; have e2 : (j : Int) = i6_30_z := (by omega); show _ ↔ zA S x 1207 (60 * a1_z + (j : Int)).toNat = 0; rw [e2, z7_251]; constructor <;> (intro _; omega); rw [if_neg e]; exact iv_43 j (by omega)) t_294 (by omega) (by omega) (lv_sub hl [1, 0, 2, 3, 4, 5, 6] rfl)
    have t_317 : At S_22 x 12 := by rw [eS_22]; exact At_sN t_9 hq_19
    exact L_28 _ _ _ _ _ (0) (0) (0) (0) (1) (60) rfl hw ti_0 (by omega) ti_0 (by omega) ha_26 t_317 hO_25 zc_35 zc_38 (by rfl) (by omega) (by omega) (fun j h => absurd h (by omega)) hn_27 (by omega) (by omega) (lv_sub hl [1, 0, 2, 3, 4, 5, 6] rfl)
  · have z_b_318 := trivial
    refine lv_if_ne (tgt := 21) X.1 X.2.1 dX12_test_16 (by decide) (fun c_319 => absurd c_319 (by decide)) (fun c_319 => ?_)
    refine lv_iconst (v := (-1)) X.1 X.2.1 dX12_test_19 (by decide) ?_
    rw [hQQ]
    exact ret_gi X hw hr hlocks (by show 0 ≤ Phc S + 1; omega) (by show 0 ≤ Phs S + 60; omega) (by omega) (by omega) ⟨hO_7, ⟨z_lo _, z_hi _, fun h => (by exfalso; obtain ⟨h1, h2, h3, h4⟩ := h; omega), fun _ => by decide⟩⟩ dX12_test_20
