def MLf : List Nat := [1001, 1002]
def MRo : List Nat := [10034]
def MRa : List Nat := [10034, 10134]
def MRc : List Nat := [600, 10134]
def MLc : List Nat := [1001, 1002, 1004, 1005, 1006, 10034, 10134]
def MLr : List Nat := [600, 1001, 1002, 1004, 1005, 1006, 10034, 10134]

set_option maxHeartbeats 4000000 in
set_option maxRecDepth 100000 in
theorem k_X10_fail2 (l : Launch) (G : va_G) (cy : Nat → ClassId) (κ : Nat → Nat) (S : PS) (sz : Nat) (x : Nat) (a1 : Int32) (a1_z : Int) (hG : GX S) (ha_x : At S x 10) (hz_a1 : a1.toInt = a1_z) : Ci l yX10_fail wsX10_fail ({ frames := 1, cells := 0, slots := 0, locals := 48 }) G cy κ S sz [.ref x, .int (a1)] (fun (r : Int32) (S9 : PS) => Ok MLf S S9 ∧ (((False) ∧ r = 1) ∨ (((pI S9 1001 x).toInt = a1_z) ∧ r = 0))) := by
  refine ent_m (cc := cX10_fail) (maxL := 2) (ret := (some .boolean)) (by decide) rfl (Nat.le_of_ble_eq_true rfl) ?_
  intro p e s m below meth c ls X hr hlocks hin hw hl hsz
  subst hsz
  have X : Cx p c cX10_fail 2 s [.ref x, .int (a1)].toArray wsX10_fail RX10 m G cy κ (AS S s.heap.size) := X
  have hl : lv_has ls 2 [(0, .ref x), (1, .int (a1))] := hl
  have rg_a1 : (-2147483648) ≤ a1_z ∧ a1_z ≤ 2147483647 := by rw [← hz_a1]; exact ⟨z_lo _, z_hi _⟩
  have hO : Ok MLf S S := Ok.rf hG
  refine lv_aload_n X.1 X.2.1 dX10_fail_0 rfl (lv_at hl 0 rfl) ?_
  refine lv_iload_n X.1 X.2.1 dX10_fail_1 rfl (lv_at hl 1 rfl) ?_
  refine r_putI (v := a1) X hw ha_x rfl 1 1001 tyX10 (by decide) rfl inn_X10_fail_10 tyX10_ok nmX10 (by decide) (X.2.2.2.1 (.fieldLink RX10 22 "SilkMill$Tape" "faultKind" "I") (by decide +kernel)) rfl (Or.inl rfl) rfl rfl (Nat.le_of_ble_eq_true rfl) (st_1001 _ _) dX10_fail_2 (fun H locs hw => ?_)
  obtain ⟨S_1, eS_1⟩ : ∃ T, T = sI S 1001 x (a1) := ⟨_, rfl⟩
  rw [← eS_1] at hw
  have hO_2 : Ok MLf S S_1 := hO.sI eS_1 (by decide +kernel) (uI_10_1001 hO.1 ha_x)
  have h_3 : pI S_1 1001 x = a1 := tI_sIs eS_1
  refine lv_aload_n X.1 X.2.1 dX10_fail_5 rfl (lv_at hl 0 rfl) ?_
  refine lv_aload_n X.1 X.2.1 dX10_fail_6 rfl (lv_at hl 0 rfl) ?_
  have t_4 : At S_1 x 10 := tAt_sI eS_1 ha_x
  obtain ⟨v_5, ev_5⟩ : ∃ v, pI S_1 1005 x = v := ⟨_, rfl⟩
  have rg_7 := And.intro (z_lo v_5) (z_hi v_5)
  have pz_8 : (pI S_1 1005 x).toInt = v_5.toInt := by rw [ev_5]
  refine r_getI (g := 1005) (x := v_5) X hw t_4 rfl 5 ev_5 (by decide) rfl inn_X10_fail_10 (by decide) (X.2.2.2.1 (.fieldLink RX10 79 "SilkMill$Tape" "start" "I") (by decide +kernel)) rfl (gv_1005 _ _) dX10_fail_7 ?_
  refine r_putI (v := v_5) X hw t_4 rfl 2 1002 tyX10 (by decide) rfl inn_X10_fail_10 tyX10_ok nmX10 (by decide) (X.2.2.2.1 (.fieldLink RX10 9 "SilkMill$Tape" "faultPlace" "I") (by decide +kernel)) rfl (Or.inl rfl) rfl rfl (Nat.le_of_ble_eq_true rfl) (st_1002 _ _) dX10_fail_10 (fun H locs hw => ?_)
  obtain ⟨S_9, eS_9⟩ : ∃ T, T = sI S_1 1002 x (v_5) := ⟨_, rfl⟩
  rw [← eS_9] at hw
  have hO_10 : Ok MLf S S_9 := hO_2.sI eS_9 (by decide +kernel) (uI_10_1002 hO_2.1 t_4)
  have h_11 : pI S_9 1002 x = v_5 := tI_sIs eS_9
  refine lv_iconst (v := 0) X.1 X.2.1 dX10_fail_13 (by decide) ?_
  have t_12 : pI S_9 1001 x = a1 := tI_sI eS_9 rfl h_3
  have pz_13 : (pI S_9 1001 x).toInt = a1_z := (congrArg Int32.toInt t_12).trans hz_a1
  exact ret_z X hw hr hlocks (Nat.le_of_ble_eq_true rfl) (Nat.le_of_ble_eq_true rfl) (by decide) ⟨hO_10, Or.inr ⟨by omega, rfl⟩⟩ dX10_fail_14
set_option maxHeartbeats 4000000 in
set_option maxRecDepth 100000 in
theorem k_X6_openRule2 (l : Launch) (G : va_G) (cy : Nat → ClassId) (κ : Nat → Nat) (S : PS) (sz : Nat) (x : Nat) (hG : GX S) (ha_x : At S x 6) : Cv l yX6_openRule wsX6_openRule ({ frames := 1, cells := 0, slots := 0, locals := 48 }) G cy κ S sz [.ref x] (fun (S9 : PS) => Ok MRo S S9 ∧ (True)) := by
  refine ent_m (cc := cX6_openRule) (maxL := 1) (ret := none) (by decide) rfl (Nat.le_of_ble_eq_true rfl) ?_
  intro p e s m below meth c ls X hr hlocks hin hw hl hsz
  subst hsz
  have X : Cx p c cX6_openRule 1 s [.ref x].toArray wsX6_openRule RX6 m G cy κ (AS S s.heap.size) := X
  have hl : lv_has ls 1 [(0, .ref x)] := hl
  have hO : Ok MRo S S := Ok.rf hG
  refine lv_aload_n X.1 X.2.1 dX6_openRule_0 rfl (lv_at hl 0 rfl) ?_
  obtain ⟨v_1, ev_1⟩ : ∃ v, pI S 600 x = v := ⟨_, rfl⟩
  have rg_2 := gI_6_600 hO.1 ha_x; rw [ev_1] at rg_2
  refine r_getI (g := 600) (x := v_1) X hw ha_x rfl 0 ev_1 (by decide) rfl inn_X6_openRule_6 (by decide) (X.2.2.2.1 (.fieldLink RX6 30 "SilkMill$Rules" "size" "I") (by decide +kernel)) rfl (gv_600 _ _) dX6_openRule_1 ?_
  refine lv_bipush (v := 12) X.1 X.2.1 dX6_openRule_4 (by decide) ?_
  refine lv_icmp_ge (tgt := 19) X.1 X.2.1 dX6_openRule_6 (by decide) (fun c_3 => ?_) (fun c_3 => ?_)
  · have z_b_4 := trivial
    have k_5 : v_1.toInt ≥ 12 := z_le ti_12 rfl c_3
    exact ret_v X hw hr hlocks (Nat.le_of_ble_eq_true rfl) (Nat.le_of_ble_eq_true rfl) ⟨hO, trivial⟩ dX6_openRule_19
  · have z_b_6 := trivial
    have k_7 : v_1.toInt < 12 := z_nle ti_12 rfl c_3
    refine lv_aload_n X.1 X.2.1 dX6_openRule_9 rfl (lv_at hl 0 rfl) ?_
    obtain ⟨q_8, h_9, h_10, h_11⟩ := gQ_6_603 hO.1 ha_x
    refine r_getR (g := 603) X hw ha_x rfl 3 h_9 (by decide) rfl inn_X6_openRule_6 (by decide) (X.2.2.2.1 (.fieldLink RX6 18 "SilkMill$Rules" "conditions" "[I") (by decide +kernel)) rfl (gv_603 _ _) dX6_openRule_10 ?_
    refine lv_aload_n X.1 X.2.1 dX6_openRule_13 rfl (lv_at hl 0 rfl) ?_
    refine r_getI (g := 600) (x := v_1) X hw ha_x rfl 0 ev_1 (by decide) rfl inn_X6_openRule_6 (by decide) (X.2.2.2.1 (.fieldLink RX6 30 "SilkMill$Rules" "size" "I") (by decide +kernel)) rfl (gv_600 _ _) dX6_openRule_14 ?_
    refine lv_iconst (v := 0) X.1 X.2.1 dX6_openRule_17 (by decide) ?_
    refine r_iast X hw h_10 rfl (by rw [h_11]; exact z_ix rfl (by omega) (by omega)) dX6_openRule_18 (fun H locs hw => ?_)
    obtain ⟨S_12, eS_12⟩ : ∃ T, T = sA S q_8 (upd (pA S q_8) (Int32.toNatClampNeg (v_1)) (0)) := ⟨_, rfl⟩
    rw [← eS_12] at hw
    have hO_13 : Ok MRo S S_12 := hO.sA eS_12 h_10 (by decide +kernel) (uA_34 hO.1 h_10 (by rw [ti_0]; omega) (by rw [ti_0]; omega))
    have h_14 : pA S_12 q_8 (Int32.toNatClampNeg (v_1)) = 0 := tA_sAs eS_12
    exact ret_v X hw hr hlocks (Nat.le_of_ble_eq_true rfl) (Nat.le_of_ble_eq_true rfl) ⟨hO_13, trivial⟩ dX6_openRule_19
set_option maxHeartbeats 4000000 in
set_option maxRecDepth 100000 in
theorem k_X6_addCondition2 (l : Launch) (G : va_G) (cy : Nat → ClassId) (κ : Nat → Nat) (S : PS) (sz : Nat) (x : Nat) (a1 : Int32) (a1_z : Int) (a2 : Int32) (a2_z : Int) (a3 : Int32) (a3_z : Int) (hG : GX S) (ha_x : At S x 6) (hz_a1 : a1.toInt = a1_z) (hz_a2 : a2.toInt = a2_z) (hz_a3 : a3.toInt = a3_z) : Cv l yX6_addCondition wsX6_addCondition ({ frames := 1, cells := 0, slots := 0, locals := 48 }) G cy κ S sz [.ref x, .int (a1), .int (a2), .int (a3)] (fun (S9 : PS) => Ok MRa S S9 ∧ (True)) := by
  refine ent_m (cc := cX6_addCondition) (maxL := 5) (ret := none) (by decide) rfl (Nat.le_of_ble_eq_true rfl) ?_
  intro p e s m below meth c ls X hr hlocks hin hw hl hsz
  subst hsz
  have X : Cx p c cX6_addCondition 5 s [.ref x, .int (a1), .int (a2), .int (a3)].toArray wsX6_addCondition RX6 m G cy κ (AS S s.heap.size) := X
  have hl : lv_has ls 5 [(0, .ref x), (1, .int (a1)), (2, .int (a2)), (3, .int (a3))] := hl
  have rg_a1 : (-2147483648) ≤ a1_z ∧ a1_z ≤ 2147483647 := by rw [← hz_a1]; exact ⟨z_lo _, z_hi _⟩
  have rg_a2 : (-2147483648) ≤ a2_z ∧ a2_z ≤ 2147483647 := by rw [← hz_a2]; exact ⟨z_lo _, z_hi _⟩
  have rg_a3 : (-2147483648) ≤ a3_z ∧ a3_z ≤ 2147483647 := by rw [← hz_a3]; exact ⟨z_lo _, z_hi _⟩
  have hO : Ok MRa S S := Ok.rf hG
  refine lv_aload_n X.1 X.2.1 dX6_addCondition_0 rfl (lv_at hl 0 rfl) ?_
  obtain ⟨v_1, ev_1⟩ : ∃ v, pI S 600 x = v := ⟨_, rfl⟩
  have rg_2 := gI_6_600 hO.1 ha_x; rw [ev_1] at rg_2
  refine r_getI (g := 600) (x := v_1) X hw ha_x rfl 0 ev_1 (by decide) rfl inn_X6_addCondition_6 (by decide) (X.2.2.2.1 (.fieldLink RX6 30 "SilkMill$Rules" "size" "I") (by decide +kernel)) rfl (gv_600 _ _) dX6_addCondition_1 ?_
  refine lv_bipush (v := 12) X.1 X.2.1 dX6_addCondition_4 (by decide) ?_
  refine lv_icmp_ge (tgt := 77) X.1 X.2.1 dX6_addCondition_6 (by decide) (fun c_3 => ?_) (fun c_3 => ?_)
  · have z_b_4 := trivial
    have k_5 : v_1.toInt ≥ 12 := z_le ti_12 rfl c_3
    exact ret_v X hw hr hlocks (Nat.le_of_ble_eq_true rfl) (Nat.le_of_ble_eq_true rfl) ⟨hO, trivial⟩ dX6_addCondition_77
  · have z_b_6 := trivial
    have k_7 : v_1.toInt < 12 := z_nle ti_12 rfl c_3
    refine lv_aload_n X.1 X.2.1 dX6_addCondition_9 rfl (lv_at hl 0 rfl) ?_
    obtain ⟨q_8, h_9, h_10, h_11⟩ := gQ_6_603 hO.1 ha_x
    refine r_getR (g := 603) X hw ha_x rfl 3 h_9 (by decide) rfl inn_X6_addCondition_6 (by decide) (X.2.2.2.1 (.fieldLink RX6 18 "SilkMill$Rules" "conditions" "[I") (by decide +kernel)) rfl (gv_603 _ _) dX6_addCondition_10 ?_
    refine lv_aload_n X.1 X.2.1 dX6_addCondition_13 rfl (lv_at hl 0 rfl) ?_
    refine r_getI (g := 600) (x := v_1) X hw ha_x rfl 0 ev_1 (by decide) rfl inn_X6_addCondition_6 (by decide) (X.2.2.2.1 (.fieldLink RX6 30 "SilkMill$Rules" "size" "I") (by decide +kernel)) rfl (gv_600 _ _) dX6_addCondition_14 ?_
    refine r_iald X hw h_10 rfl (by rw [h_11]; exact z_ix rfl (by omega) (by omega)) dX6_addCondition_17 ?_
    refine lv_topi (fun v_12 ev_12 => ?_)
    have z_13 := gE_34 hO.1 h_10 (Int32.toNatClampNeg (v_1)); rw [← ev_12] at z_13
    have ev_12 := ev_12.symm
    refine lv_iconst (v := 4) X.1 X.2.1 dX6_addCondition_18 (by decide) ?_
    refine lv_icmp_ge (tgt := 77) X.1 X.2.1 dX6_addCondition_19 (by decide) (fun c_14 => ?_) (fun c_14 => ?_)
    · have z_b_15 := trivial
      have k_16 : v_12.toInt ≥ 4 := z_le ti_4 rfl c_14
      exact ret_v X hw hr hlocks (Nat.le_of_ble_eq_true rfl) (Nat.le_of_ble_eq_true rfl) ⟨hO, trivial⟩ dX6_addCondition_77
    · have z_b_17 := trivial
      have k_18 : v_12.toInt < 4 := z_nle ti_4 rfl c_14
      refine lv_aload_n X.1 X.2.1 dX6_addCondition_22 rfl (lv_at hl 0 rfl) ?_
      refine r_getI (g := 600) (x := v_1) X hw ha_x rfl 0 ev_1 (by decide) rfl inn_X6_addCondition_6 (by decide) (X.2.2.2.1 (.fieldLink RX6 30 "SilkMill$Rules" "size" "I") (by decide +kernel)) rfl (gv_600 _ _) dX6_addCondition_23 ?_
      refine lv_iconst (v := 4) X.1 X.2.1 dX6_addCondition_26 (by decide) ?_
      refine lv_imul X.1 X.2.1 dX6_addCondition_27 ?_
      refine lv_topi (fun v_19 ev_19 => ?_)
      have z_20 : v_19.toInt = v_1.toInt * 4 := z_mul ev_19 rfl ti_4 (by omega) (by omega)
      refine lv_aload_n X.1 X.2.1 dX6_addCondition_28 rfl (lv_at hl 0 rfl) ?_
      refine r_getR (g := 603) X hw ha_x rfl 3 h_9 (by decide) rfl inn_X6_addCondition_6 (by decide) (X.2.2.2.1 (.fieldLink RX6 18 "SilkMill$Rules" "conditions" "[I") (by decide +kernel)) rfl (gv_603 _ _) dX6_addCondition_29 ?_
      refine lv_aload_n X.1 X.2.1 dX6_addCondition_32 rfl (lv_at hl 0 rfl) ?_
      refine r_getI (g := 600) (x := v_1) X hw ha_x rfl 0 ev_1 (by decide) rfl inn_X6_addCondition_6 (by decide) (X.2.2.2.1 (.fieldLink RX6 30 "SilkMill$Rules" "size" "I") (by decide +kernel)) rfl (gv_600 _ _) dX6_addCondition_33 ?_
      refine r_iald X hw h_10 rfl (by rw [h_11]; exact z_ix rfl (by omega) (by omega)) dX6_addCondition_36 ?_
      rw [ev_12]
      refine lv_iadd X.1 X.2.1 dX6_addCondition_37 ?_
      refine lv_topi (fun v_21 ev_21 => ?_)
      have z_22 : v_21.toInt = v_19.toInt + v_12.toInt := z_add ev_21 rfl rfl (by omega) (by omega)
      refine lv_istore (lv' := [(4, .int (v_21)), (0, .ref x), (1, .int (a1)), (2, .int (a2)), (3, .int (a3))]) X.1 X.2.1 dX6_addCondition_38 hl (by decide) rfl (fun ls hl => ?_)
      refine lv_aload_n X.1 X.2.1 dX6_addCondition_40 rfl (lv_at hl 1 rfl) ?_
      obtain ⟨q_23, h_24, h_25, h_26⟩ := gQ_6_604 hO.1 ha_x
      refine r_getR (g := 604) X hw ha_x rfl 4 h_24 (by decide) rfl inn_X6_addCondition_6 (by decide) (X.2.2.2.1 (.fieldLink RX6 21 "SilkMill$Rules" "fields" "[I") (by decide +kernel)) rfl (gv_604 _ _) dX6_addCondition_41 ?_
      refine lv_iload X.1 X.2.1 dX6_addCondition_44 (lv_at hl 0 rfl) ?_
      refine lv_iload_n X.1 X.2.1 dX6_addCondition_46 rfl (lv_at hl 2 rfl) ?_
      refine r_iast X hw h_25 rfl (by rw [h_26]; exact z_ix rfl (by omega) (by omega)) dX6_addCondition_47 (fun H locs hw => ?_)
      obtain ⟨S_27, eS_27⟩ : ∃ T, T = sA S q_23 (upd (pA S q_23) (Int32.toNatClampNeg (v_21)) (a1)) := ⟨_, rfl⟩
      rw [← eS_27] at hw
      have hO_28 : Ok MRa S S_27 := hO.sA eS_27 h_25 (by decide +kernel) (uA_134 hO.1 h_25)
      have h_29 : pA S_27 q_23 (Int32.toNatClampNeg (v_21)) = a1 := tA_sAs eS_27
      refine lv_aload_n X.1 X.2.1 dX6_addCondition_48 rfl (lv_at hl 1 rfl) ?_
      have t_30 : At S_27 x 6 := tAt_sA eS_27 ha_x
      obtain ⟨q_31, h_32, h_33, h_34⟩ := gQ_6_605 hO_28.1 t_30
      refine r_getR (g := 605) X hw t_30 rfl 5 h_32 (by decide) rfl inn_X6_addCondition_6 (by decide) (X.2.2.2.1 (.fieldLink RX6 24 "SilkMill$Rules" "relations" "[I") (by decide +kernel)) rfl (gv_605 _ _) dX6_addCondition_49 ?_
      refine lv_iload X.1 X.2.1 dX6_addCondition_52 (lv_at hl 0 rfl) ?_
      refine lv_iload_n X.1 X.2.1 dX6_addCondition_54 rfl (lv_at hl 3 rfl) ?_
      refine r_iast X hw h_33 rfl (by rw [h_34]; exact z_ix rfl (by omega) (by omega)) dX6_addCondition_55 (fun H locs hw => ?_)
      obtain ⟨S_35, eS_35⟩ : ∃ T, T = sA S_27 q_31 (upd (pA S_27 q_31) (Int32.toNatClampNeg (v_21)) (a2)) := ⟨_, rfl⟩
      rw [← eS_35] at hw
      have hO_36 : Ok MRa S S_35 := hO_28.sA eS_35 h_33 (by decide +kernel) (uA_134 hO_28.1 h_33)
      have h_37 : pA S_35 q_31 (Int32.toNatClampNeg (v_21)) = a2 := tA_sAs eS_35
      refine lv_aload_n X.1 X.2.1 dX6_addCondition_56 rfl (lv_at hl 1 rfl) ?_
      have t_38 : At S_35 x 6 := tAt_sA eS_35 t_30
      obtain ⟨q_39, h_40, h_41, h_42⟩ := gQ_6_606 hO_36.1 t_38
      refine r_getR (g := 606) X hw t_38 rfl 6 h_40 (by decide) rfl inn_X6_addCondition_6 (by decide) (X.2.2.2.1 (.fieldLink RX6 27 "SilkMill$Rules" "numbers" "[I") (by decide +kernel)) rfl (gv_606 _ _) dX6_addCondition_57 ?_
      refine lv_iload X.1 X.2.1 dX6_addCondition_60 (lv_at hl 0 rfl) ?_
      refine lv_iload_n X.1 X.2.1 dX6_addCondition_62 rfl (lv_at hl 4 rfl) ?_
      refine r_iast X hw h_41 rfl (by rw [h_42]; exact z_ix rfl (by omega) (by omega)) dX6_addCondition_63 (fun H locs hw => ?_)
      obtain ⟨S_43, eS_43⟩ : ∃ T, T = sA S_35 q_39 (upd (pA S_35 q_39) (Int32.toNatClampNeg (v_21)) (a3)) := ⟨_, rfl⟩
      rw [← eS_43] at hw
      have hO_44 : Ok MRa S S_43 := hO_36.sA eS_43 h_41 (by decide +kernel) (uA_134 hO_36.1 h_41)
      have h_45 : pA S_43 q_39 (Int32.toNatClampNeg (v_21)) = a3 := tA_sAs eS_43
      refine lv_aload_n X.1 X.2.1 dX6_addCondition_64 rfl (lv_at hl 1 rfl) ?_
      have t_46 : At S_43 x 6 := tAt_sA eS_43 t_38
      have t_47 : pR S_27 603 x = some q_8 := tR_sA eS_27 h_9
      have t_48 : pR S_35 603 x = some q_8 := tR_sA eS_35 t_47
      have t_49 : pR S_43 603 x = some q_8 := tR_sA eS_43 t_48
      refine r_getR (g := 603) X hw t_46 rfl 3 t_49 (by decide) rfl inn_X6_addCondition_6 (by decide) (X.2.2.2.1 (.fieldLink RX6 18 "SilkMill$Rules" "conditions" "[I") (by decide +kernel)) rfl (gv_603 _ _) dX6_addCondition_65 ?_
      refine lv_aload_n X.1 X.2.1 dX6_addCondition_68 rfl (lv_at hl 1 rfl) ?_
      have t_50 : pI S_27 600 x = v_1 := tI_sA eS_27 ev_1
      have t_51 : pI S_35 600 x = v_1 := tI_sA eS_35 t_50
      have t_52 : pI S_43 600 x = v_1 := tI_sA eS_43 t_51
      refine r_getI (g := 600) (x := v_1) X hw t_46 rfl 0 t_52 (by decide) rfl inn_X6_addCondition_6 (by decide) (X.2.2.2.1 (.fieldLink RX6 30 "SilkMill$Rules" "size" "I") (by decide +kernel)) rfl (gv_600 _ _) dX6_addCondition_69 ?_
      refine lv_dup2_11 X.1 X.2.1 dX6_addCondition_72 rfl rfl ?_
      have t_53 : At S_27 q_8 34 := tAt_sA eS_27 h_10
      have t_54 : At S_35 q_8 34 := tAt_sA eS_35 t_53
      have t_55 : At S_43 q_8 34 := tAt_sA eS_43 t_54
      have t_56 : pN S_27 q_8 = 12 := tN_sA eS_27 h_11
      clear h_11
      have t_57 : pN S_35 q_8 = 12 := tN_sA eS_35 t_56
      clear t_56
      have t_58 : pN S_43 q_8 = 12 := tN_sA eS_43 t_57
      clear t_57
      refine r_iald X hw t_55 rfl (by rw [t_58]; exact z_ix rfl (by omega) (by omega)) dX6_addCondition_73 ?_
      have t_59 : pA S_27 q_8 (Int32.toNatClampNeg (v_1)) = v_12 := tA_sA eS_27 (At_ne h_10 h_25 (by decide)) ev_12
      have t_61 : At S_27 q_8 34 := tAt_sA eS_27 h_10
      have t_60 : pA S_35 q_8 (Int32.toNatClampNeg (v_1)) = v_12 := tA_sA eS_35 (At_ne t_61 h_33 (by decide)) t_59
      have t_63 : At S_35 q_8 34 := tAt_sA eS_35 t_61
      have t_62 : pA S_43 q_8 (Int32.toNatClampNeg (v_1)) = v_12 := tA_sA eS_43 (At_ne t_63 h_41 (by decide)) t_60
      rw [t_62]
      refine lv_iconst (v := 1) X.1 X.2.1 dX6_addCondition_74 (by decide) ?_
      refine lv_iadd X.1 X.2.1 dX6_addCondition_75 ?_
      refine lv_topi (fun v_64 ev_64 => ?_)
      have z_65 : v_64.toInt = v_12.toInt + 1 := z_add ev_64 rfl ti_1 (by omega) (by omega)
      refine r_iast X hw t_55 rfl (by rw [t_58]; exact z_ix rfl (by omega) (by omega)) dX6_addCondition_76 (fun H locs hw => ?_)
      obtain ⟨S_66, eS_66⟩ : ∃ T, T = sA S_43 q_8 (upd (pA S_43 q_8) (Int32.toNatClampNeg (v_1)) (v_64)) := ⟨_, rfl⟩
      rw [← eS_66] at hw
      have hO_67 : Ok MRa S S_66 := hO_44.sA eS_66 t_55 (by decide +kernel) (uA_34 hO_44.1 t_55 (by omega) (by omega))
      have h_68 : pA S_66 q_8 (Int32.toNatClampNeg (v_1)) = v_64 := tA_sAs eS_66
      exact ret_v X hw hr hlocks (Nat.le_of_ble_eq_true rfl) (Nat.le_of_ble_eq_true rfl) ⟨hO_67, trivial⟩ dX6_addCondition_77
set_option maxHeartbeats 4000000 in
set_option maxRecDepth 100000 in
theorem k_X6_closeRule2 (l : Launch) (G : va_G) (cy : Nat → ClassId) (κ : Nat → Nat) (S : PS) (sz : Nat) (x : Nat) (a1 : Int32) (a1_z : Int) (a2 : Int32) (a2_z : Int) (hG : GX S) (ha_x : At S x 6) (hz_a1 : a1.toInt = a1_z) (hz_a2 : a2.toInt = a2_z) (hp_0 : (pI S 600 x).toInt < 12) : Cv l yX6_closeRule wsX6_closeRule ({ frames := 1, cells := 0, slots := 0, locals := 48 }) G cy κ S sz [.ref x, .int (a1), .int (a2)] (fun (S9 : PS) => Ok MRc S S9 ∧ ((pI S9 600 x).toInt = (pI S 600 x).toInt + 1)) := by
  refine ent_m (cc := cX6_closeRule) (maxL := 3) (ret := none) (by decide) rfl (Nat.le_of_ble_eq_true rfl) ?_
  intro p e s m below meth c ls X hr hlocks hin hw hl hsz
  subst hsz
  have X : Cx p c cX6_closeRule 3 s [.ref x, .int (a1), .int (a2)].toArray wsX6_closeRule RX6 m G cy κ (AS S s.heap.size) := X
  have hl : lv_has ls 3 [(0, .ref x), (1, .int (a1)), (2, .int (a2))] := hl
  have rg_a1 : (-2147483648) ≤ a1_z ∧ a1_z ≤ 2147483647 := by rw [← hz_a1]; exact ⟨z_lo _, z_hi _⟩
  have rg_a2 : (-2147483648) ≤ a2_z ∧ a2_z ≤ 2147483647 := by rw [← hz_a2]; exact ⟨z_lo _, z_hi _⟩
  have hO : Ok MRc S S := Ok.rf hG
  obtain ⟨v_1, ev_1⟩ : ∃ v, pI S 600 x = v := ⟨_, rfl⟩
  have rg_2 := gI_6_600 hO.1 ha_x; rw [ev_1] at rg_2
  have pz_3 : (pI S 600 x).toInt = v_1.toInt := by rw [ev_1]
  have pz_4 : (pI S 600 x).toInt = v_1.toInt := (congrArg Int32.toInt ev_1).trans rfl
  refine lv_aload_n X.1 X.2.1 dX6_closeRule_0 rfl (lv_at hl 0 rfl) ?_
  refine r_getI (g := 600) (x := v_1) X hw ha_x rfl 0 ev_1 (by decide) rfl inn_X6_closeRule_6 (by decide) (X.2.2.2.1 (.fieldLink RX6 30 "SilkMill$Rules" "size" "I") (by decide +kernel)) rfl (gv_600 _ _) dX6_closeRule_1 ?_
  refine lv_bipush (v := 12) X.1 X.2.1 dX6_closeRule_4 (by decide) ?_
  refine lv_icmp_ge (tgt := 39) X.1 X.2.1 dX6_closeRule_6 (by decide) (fun c_5 => ?_) (fun c_5 => ?_)
  · have z_b_6 := trivial
    have k_7 : v_1.toInt ≥ 12 := z_le ti_12 rfl c_5
    have pz_8 : (pI S 600 x).toInt = v_1.toInt := (congrArg Int32.toInt ev_1).trans rfl
    exact ret_v X hw hr hlocks (Nat.le_of_ble_eq_true rfl) (Nat.le_of_ble_eq_true rfl) ⟨hO, by omega⟩ dX6_closeRule_39
  · have z_b_9 := trivial
    have k_10 : v_1.toInt < 12 := z_nle ti_12 rfl c_5
    refine lv_aload_n X.1 X.2.1 dX6_closeRule_9 rfl (lv_at hl 0 rfl) ?_
    obtain ⟨q_11, h_12, h_13, h_14⟩ := gQ_6_601 hO.1 ha_x
    refine r_getR (g := 601) X hw ha_x rfl 1 h_12 (by decide) rfl inn_X6_closeRule_6 (by decide) (X.2.2.2.1 (.fieldLink RX6 9 "SilkMill$Rules" "acts" "[I") (by decide +kernel)) rfl (gv_601 _ _) dX6_closeRule_10 ?_
    refine lv_aload_n X.1 X.2.1 dX6_closeRule_13 rfl (lv_at hl 0 rfl) ?_
    refine r_getI (g := 600) (x := v_1) X hw ha_x rfl 0 ev_1 (by decide) rfl inn_X6_closeRule_6 (by decide) (X.2.2.2.1 (.fieldLink RX6 30 "SilkMill$Rules" "size" "I") (by decide +kernel)) rfl (gv_600 _ _) dX6_closeRule_14 ?_
    refine lv_iload_n X.1 X.2.1 dX6_closeRule_17 rfl (lv_at hl 1 rfl) ?_
    refine r_iast X hw h_13 rfl (by rw [h_14]; exact z_ix rfl (by omega) (by omega)) dX6_closeRule_18 (fun H locs hw => ?_)
    obtain ⟨S_15, eS_15⟩ : ∃ T, T = sA S q_11 (upd (pA S q_11) (Int32.toNatClampNeg (v_1)) (a1)) := ⟨_, rfl⟩
    rw [← eS_15] at hw
    have hO_16 : Ok MRc S S_15 := hO.sA eS_15 h_13 (by decide +kernel) (uA_134 hO.1 h_13)
    have h_17 : pA S_15 q_11 (Int32.toNatClampNeg (v_1)) = a1 := tA_sAs eS_15
    refine lv_aload_n X.1 X.2.1 dX6_closeRule_19 rfl (lv_at hl 0 rfl) ?_
    have t_18 : At S_15 x 6 := tAt_sA eS_15 ha_x
    obtain ⟨q_19, h_20, h_21, h_22⟩ := gQ_6_602 hO_16.1 t_18
    refine r_getR (g := 602) X hw t_18 rfl 2 h_20 (by decide) rfl inn_X6_closeRule_6 (by decide) (X.2.2.2.1 (.fieldLink RX6 15 "SilkMill$Rules" "amounts" "[I") (by decide +kernel)) rfl (gv_602 _ _) dX6_closeRule_20 ?_
    refine lv_aload_n X.1 X.2.1 dX6_closeRule_23 rfl (lv_at hl 0 rfl) ?_
    have t_23 : pI S_15 600 x = v_1 := tI_sA eS_15 ev_1
    refine r_getI (g := 600) (x := v_1) X hw t_18 rfl 0 t_23 (by decide) rfl inn_X6_closeRule_6 (by decide) (X.2.2.2.1 (.fieldLink RX6 30 "SilkMill$Rules" "size" "I") (by decide +kernel)) rfl (gv_600 _ _) dX6_closeRule_24 ?_
    refine lv_iload_n X.1 X.2.1 dX6_closeRule_27 rfl (lv_at hl 2 rfl) ?_
    refine r_iast X hw h_21 rfl (by rw [h_22]; exact z_ix rfl (by omega) (by omega)) dX6_closeRule_28 (fun H locs hw => ?_)
    obtain ⟨S_24, eS_24⟩ : ∃ T, T = sA S_15 q_19 (upd (pA S_15 q_19) (Int32.toNatClampNeg (v_1)) (a2)) := ⟨_, rfl⟩
    rw [← eS_24] at hw
    have hO_25 : Ok MRc S S_24 := hO_16.sA eS_24 h_21 (by decide +kernel) (uA_134 hO_16.1 h_21)
    have h_26 : pA S_24 q_19 (Int32.toNatClampNeg (v_1)) = a2 := tA_sAs eS_24
    refine lv_aload_n X.1 X.2.1 dX6_closeRule_29 rfl (lv_at hl 0 rfl) ?_
    refine lv_dup X.1 X.2.1 dX6_closeRule_30 rfl ?_
    have t_27 : At S_24 x 6 := tAt_sA eS_24 t_18
    have t_28 : pI S_24 600 x = v_1 := tI_sA eS_24 t_23
    refine r_getI (g := 600) (x := v_1) X hw t_27 rfl 0 t_28 (by decide) rfl inn_X6_closeRule_6 (by decide) (X.2.2.2.1 (.fieldLink RX6 30 "SilkMill$Rules" "size" "I") (by decide +kernel)) rfl (gv_600 _ _) dX6_closeRule_31 ?_
    refine lv_iconst (v := 1) X.1 X.2.1 dX6_closeRule_34 (by decide) ?_
    refine lv_iadd X.1 X.2.1 dX6_closeRule_35 ?_
    refine lv_topi (fun v_29 ev_29 => ?_)
    have z_30 : v_29.toInt = v_1.toInt + 1 := z_add ev_29 rfl ti_1 (by omega) (by omega)
    refine r_putI (v := v_29) X hw t_27 rfl 0 600 tyX6 (by decide) rfl inn_X6_closeRule_6 tyX6_ok nmX6 (by decide) (X.2.2.2.1 (.fieldLink RX6 30 "SilkMill$Rules" "size" "I") (by decide +kernel)) rfl (Or.inl rfl) rfl rfl (Nat.le_of_ble_eq_true rfl) (st_600 _ _) dX6_closeRule_36 (fun H locs hw => ?_)
    obtain ⟨S_31, eS_31⟩ : ∃ T, T = sI S_24 600 x (v_29) := ⟨_, rfl⟩
    rw [← eS_31] at hw
    have hO_32 : Ok MRc S S_31 := hO_25.sI eS_31 (by decide +kernel) (uI_6_600 hO_25.1 t_27 (by omega) (by omega))
    have h_33 : pI S_31 600 x = v_29 := tI_sIs eS_31
    have pz_34 : (pI S_31 600 x).toInt = v_29.toInt := (congrArg Int32.toInt h_33).trans rfl
    exact ret_v X hw hr hlocks (Nat.le_of_ble_eq_true rfl) (Nat.le_of_ble_eq_true rfl) ⟨hO_32, by omega⟩ dX6_closeRule_39
set_option maxHeartbeats 4000000 in
set_option maxRecDepth 100000 in
theorem k_X10_readCondition2 (l : Launch) (G : va_G) (cy : Nat → ClassId) (κ : Nat → Nat) (S : PS) (sz : Nat) (x : Nat) (r1 : Nat) (t0 : Tk) (hG : GX S) (ha_x : At S x 10) (ha_r1 : At S r1 6) (hp_0 : GB (tB S x) (pI S 1000 x).toInt.toNat S x t0) : Ci l yX10_readCondition wsX10_readCondition ({ frames := 7, cells := 0, slots := 0, locals := 336 }) G cy κ S sz [.ref x, .ref r1] (fun (r : Int32) (S9 : PS) => Ok MLc S S9 ∧ (((cOk (tB S x) (pI S 1000 x).toInt.toNat t0 ∧ GB (tB S x) (pI S 1000 x).toInt.toNat S9 x (nx3 (tB S x) (pI S 1000 x).toInt.toNat t0)) ∧ r = 1) ∨ (((¬ cOk (tB S x) (pI S 1000 x).toInt.toNat t0) ∧ (pI S9 1001 x).toInt = 1) ∧ r = 0))) := by
  refine ent_m (cc := cX10_readCondition) (maxL := 4) (ret := (some .boolean)) (by decide) rfl (Nat.le_of_ble_eq_true rfl) ?_
  intro p e s m below meth c ls X hr hlocks hin hw hl hsz
  subst hsz
  have X : Cx p c cX10_readCondition 4 s [.ref x, .ref r1].toArray wsX10_readCondition RX10 m G cy κ (AS S s.heap.size) := X
  have hl : lv_has ls 4 [(0, .ref x), (1, .ref r1)] := hl
  have hO : Ok MLc S S := Ok.rf hG
  have hok := hdI (GB_ok hG ha_x hp_0)
  have hok1 : t0.2.1 ≤ t0.2.2 ∧ t0.2.2 ≤ 400 := ⟨(hdE hok).1, (hdE hok).2.1⟩
  obtain ⟨v_1, ev_1⟩ : ∃ v, pI S 600 r1 = v := ⟨_, rfl⟩
  have rg_2 := gI_6_600 hO.1 ha_r1; rw [ev_1] at rg_2
  have pz_3 : (pI S 600 r1).toInt = v_1.toInt := by rw [ev_1]
  have pz_4 : (pI S 600 r1).toInt = v_1.toInt := (congrArg Int32.toInt ev_1).trans rfl
  refine lv_aload_n X.1 X.2.1 dX10_readCondition_0 rfl (lv_at hl 0 rfl) ?_
  refine k_i (rm := { frames := 6, cells := 0, slots := 0, locals := 288 }) (av := [.ref x]) X hw (va_runV (As := []) (rest := []) (cfix X) (k_X10_fieldAtHand2 l G cy κ S _ x t0 hO.1 ha_x hp_0.1 (by first | assumption | omega) (by first | assumption | omega)) (cwV 0 X.2.2.2.1 gX10_readCondition_X10_fieldAtHand rfl rfl rfl (by decide +kernel) ⟨Nat.le_of_ble_eq_true rfl, Nat.le_of_ble_eq_true rfl⟩) (pre_V X hw _ ha_x rfl (by decide) rfl) rfl rfl hl.1 rfl (lv_room (Nat.le_of_ble_eq_true rfl)) dX10_readCondition_1 ⟨Nat.le_of_ble_eq_true rfl, Nat.le_of_ble_eq_true rfl⟩) 0 0 (Nat.le_of_ble_eq_true rfl) (Nat.le_of_ble_eq_true rfl) (fun rr_5 S_6 H locs hp hw hfr hnw => ?_)
  obtain ⟨e2, hp⟩ := hp
  subst e2
  obtain ⟨wh_7, wh_8, wh_9⟩ := hp
  refine lv_istore_n (lv' := [(2, .int (rr_5)), (0, .ref x), (1, .ref r1)]) X.1 X.2.1 dX10_readCondition_4 rfl hl (by decide) rfl (fun ls hl => ?_)
  refine lv_iload_n X.1 X.2.1 dX10_readCondition_5 rfl (lv_at hl 0 rfl) ?_
  refine lv_iconst (v := (-1)) X.1 X.2.1 dX10_readCondition_6 (by decide) ?_
  refine lv_icmp_ne (tgt := 16) X.1 X.2.1 dX10_readCondition_7 (by decide) (fun c_10 => ?_) (fun c_10 => ?_)
  · have z_b_11 := trivial
    have k_12 : rr_5.toInt ≠ (-1) := z_ne rfl ti_m1 c_10
    refine lv_aload_n X.1 X.2.1 dX10_readCondition_16 rfl (lv_at hl 1 rfl) ?_
    have ok_13 := hdI (GB_ok hG ha_x hp_0)
    have ok_14 : (t0).2.1 ≤ (t0).2.2 ∧ (t0).2.2 ≤ 400 := ⟨(hdE ok_13).1, (hdE ok_13).2.1⟩
    obtain ⟨v_15, ev_15⟩ : ∃ v, pI S 1006 x = v := ⟨_, rfl⟩
    have rg_17 := And.intro (z_lo v_15) (z_hi v_15)
    have pz_18 : (pI S 1006 x).toInt = v_15.toInt := by rw [ev_15]
    have pz_19 : (pI S 1006 x).toInt = v_15.toInt := (congrArg Int32.toInt ev_15).trans rfl
    have te_20 := hp_0.1.2.2
    refine k_v (rm := { frames := 2, cells := 0, slots := 0, locals := 96 }) (av := [.ref x]) X hw (va_runV (As := []) (rest := []) (cfix X) (k_X10_advance2 l G cy κ S _ x hO.1 ha_x (by omega) (by omega)) (cwV 0 X.2.2.2.1 gX10_readCondition_X10_advance rfl rfl rfl (by decide +kernel) ⟨Nat.le_of_ble_eq_true rfl, Nat.le_of_ble_eq_true rfl⟩) (pre_V X hw _ ha_x rfl (by decide) rfl) rfl rfl hl.1 rfl (lv_room (Nat.le_of_ble_eq_true rfl)) dX10_readCondition_17 ⟨Nat.le_of_ble_eq_true rfl, Nat.le_of_ble_eq_true rfl⟩) 0 0 (Nat.le_of_ble_eq_true rfl) (Nat.le_of_ble_eq_true rfl) (fun S_22 H locs hp hw hfr hnw => ?_)
    obtain ⟨hk_23, hp⟩ := hp
    have hO_24 : Ok MLc S S_22 := hO.call hk_23 (by decide +kernel)
    have gb_25 : GB (tB S x) (pI S 1000 x).toInt.toNat S_22 x (nxT (tB S x) (pI S 1000 x).toInt.toNat t0) := GB_adv hp_0 rfl rfl (by omega) hp.1
    have ok_26 := hdI (GB_ok hG ha_x gb_25)
    have ok_27 : ((nxT (tB S x) (pI S 1000 x).toInt.toNat t0)).2.1 ≤ ((nxT (tB S x) (pI S 1000 x).toInt.toNat t0)).2.2 ∧ ((nxT (tB S x) (pI S 1000 x).toInt.toNat t0)).2.2 ≤ 400 := ⟨(hdE ok_26).1, (hdE ok_26).2.1⟩
    refine lv_aload_n X.1 X.2.1 dX10_readCondition_20 rfl (lv_at hl 1 rfl) ?_
    refine lv_bipush (v := 60) X.1 X.2.1 dX10_readCondition_21 (by decide) ?_
    have t_28 : At S_22 x 10 := hk_23.fr.at ha_x
    refine k_i (rm := { frames := 2, cells := 0, slots := 0, locals := 96 }) (av := [.ref x, .int 60]) X hw (va_runV (As := [.int 60]) (rest := []) (cfix X) (k_X10_isSign2 l G cy κ S_22 _ x (60) (60) (nxT (tB S x) (pI S 1000 x).toInt.toNat t0) hO_24.1 t_28 ti_60 gb_25.1) (cwV 1 X.2.2.2.1 gX10_readCondition_X10_isSign rfl rfl rfl (by decide +kernel) ⟨Nat.le_of_ble_eq_true rfl, Nat.le_of_ble_eq_true rfl⟩) (pre_V X hw _ t_28 rfl (by decide) rfl) rfl rfl hl.1 rfl (lv_room (Nat.le_of_ble_eq_true rfl)) dX10_readCondition_23 ⟨Nat.le_of_ble_eq_true rfl, Nat.le_of_ble_eq_true rfl⟩) 0 0 (Nat.le_of_ble_eq_true rfl) (Nat.le_of_ble_eq_true rfl) (fun rr_29 S_30 H locs hp hw hfr hnw => ?_)
    obtain ⟨e2, hp⟩ := hp
    subst e2
    rcases hp with ⟨f_31, er_32⟩ | ⟨f_31, er_32⟩ <;> subst er_32
    · have z_b_33 := trivial
      rw [tB_fr hG ha_x hO_24.fr (by decide +kernel)] at f_31
      refine lv_if_ne (tgt := 53) X.1 X.2.1 dX10_readCondition_26 (by decide) (fun c_34 => ?_) (fun c_34 => absurd c_34 (by decide))
      refine lv_aload_n X.1 X.2.1 dX10_readCondition_53 rfl (lv_at hl 1 rfl) ?_
      refine lv_aload_n X.1 X.2.1 dX10_readCondition_54 rfl (lv_at hl 1 rfl) ?_
      obtain ⟨v_35, ev_35⟩ : ∃ v, pI S_22 1005 x = v := ⟨_, rfl⟩
      have rg_37 := And.intro (z_lo v_35) (z_hi v_35)
      have pz_38 : (pI S_22 1005 x).toInt = v_35.toInt := by rw [ev_35]
      refine r_getI (g := 1005) (x := v_35) X hw t_28 rfl 5 ev_35 (by decide) rfl inn_X10_readCondition_10 (by decide) (X.2.2.2.1 (.fieldLink RX10 79 "SilkMill$Tape" "start" "I") (by decide +kernel)) rfl (gv_1005 _ _) dX10_readCondition_55 ?_
      have ts_39 := gb_25.1.2.1
      have pz_40 : (pI S_22 1005 x).toInt = v_35.toInt := (congrArg Int32.toInt ev_35).trans rfl
      refine k_i (rm := { frames := 1, cells := 0, slots := 0, locals := 48 }) (av := [.ref x, .int (v_35)]) X hw (va_runV (As := [.int (v_35)]) (rest := []) (cfix X) (k_X10_byteAt2 l G cy κ S_22 _ x (v_35) (v_35.toInt) hO_24.1 t_28 rfl) (cwV 1 X.2.2.2.1 gX10_readCondition_X10_byteAt rfl rfl rfl (by decide +kernel) ⟨Nat.le_of_ble_eq_true rfl, Nat.le_of_ble_eq_true rfl⟩) (pre_V X hw _ t_28 rfl (by decide) rfl) rfl rfl hl.1 rfl (lv_room (Nat.le_of_ble_eq_true rfl)) dX10_readCondition_58 ⟨Nat.le_of_ble_eq_true rfl, Nat.le_of_ble_eq_true rfl⟩) 0 0 (Nat.le_of_ble_eq_true rfl) (Nat.le_of_ble_eq_true rfl) (fun rr_41 S_42 H locs hp hw hfr hnw => ?_)
      obtain ⟨e2, hp⟩ := hp
      subst e2
      have rg_44 := And.intro (z_lo rr_41) (z_hi rr_41)
      have by_43 := hp (by omega)
      rw [tB_fr hG ha_x hO_24.fr (by decide +kernel)] at by_43
      refine lv_istore_n (lv' := [(3, .int (rr_41)), (2, .int (rr_5)), (0, .ref x), (1, .ref r1)]) X.1 X.2.1 dX10_readCondition_61 rfl hl (by decide) rfl (fun ls hl => ?_)
      refine lv_aload_n X.1 X.2.1 dX10_readCondition_62 rfl (lv_at hl 2 rfl) ?_
      have ok_45 := hdI (GB_ok hG ha_x gb_25)
      have ok_46 : ((nxT (tB S x) (pI S 1000 x).toInt.toNat t0)).2.1 ≤ ((nxT (tB S x) (pI S 1000 x).toInt.toNat t0)).2.2 ∧ ((nxT (tB S x) (pI S 1000 x).toInt.toNat t0)).2.2 ≤ 400 := ⟨(hdE ok_45).1, (hdE ok_45).2.1⟩
      obtain ⟨v_48, ev_48⟩ : ∃ v, pI S_22 1006 x = v := ⟨_, rfl⟩
      have rg_50 := And.intro (z_lo v_48) (z_hi v_48)
      have pz_51 : (pI S_22 1006 x).toInt = v_48.toInt := by rw [ev_48]
      have pz_52 : (pI S_22 1006 x).toInt = v_48.toInt := (congrArg Int32.toInt ev_48).trans rfl
      have te_53 := gb_25.1.2.2
      refine k_v (rm := { frames := 2, cells := 0, slots := 0, locals := 96 }) (av := [.ref x]) X hw (va_runV (As := []) (rest := []) (cfix X) (k_X10_advance2 l G cy κ S_22 _ x hO_24.1 t_28 (by omega) (by omega)) (cwV 0 X.2.2.2.1 gX10_readCondition_X10_advance rfl rfl rfl (by decide +kernel) ⟨Nat.le_of_ble_eq_true rfl, Nat.le_of_ble_eq_true rfl⟩) (pre_V X hw _ t_28 rfl (by decide) rfl) rfl rfl hl.1 rfl (lv_room (Nat.le_of_ble_eq_true rfl)) dX10_readCondition_63 ⟨Nat.le_of_ble_eq_true rfl, Nat.le_of_ble_eq_true rfl⟩) 0 0 (Nat.le_of_ble_eq_true rfl) (Nat.le_of_ble_eq_true rfl) (fun S_55 H locs hp hw hfr hnw => ?_)
      obtain ⟨hk_56, hp⟩ := hp
      have hO_57 : Ok MLc S S_55 := hO_24.call hk_56 (by decide +kernel)
      have gb_58 : GB (tB S x) (pI S 1000 x).toInt.toNat S_55 x (nxT (tB S x) (pI S 1000 x).toInt.toNat (nxT (tB S x) (pI S 1000 x).toInt.toNat t0)) := GB_adv gb_25 (tB_fr hG ha_x hO_24.fr (by decide +kernel)) (by rw [hO_24.fr.I' (g := 1000) (by decide +kernel) ha_x rfl]) (by omega) hp.1
      have ok_59 := hdI (GB_ok hG ha_x gb_58)
      have ok_60 : ((nxT (tB S x) (pI S 1000 x).toInt.toNat (nxT (tB S x) (pI S 1000 x).toInt.toNat t0))).2.1 ≤ ((nxT (tB S x) (pI S 1000 x).toInt.toNat (nxT (tB S x) (pI S 1000 x).toInt.toNat t0))).2.2 ∧ ((nxT (tB S x) (pI S 1000 x).toInt.toNat (nxT (tB S x) (pI S 1000 x).toInt.toNat t0))).2.2 ≤ 400 := ⟨(hdE ok_59).1, (hdE ok_59).2.1⟩
      refine lv_aload_n X.1 X.2.1 dX10_readCondition_66 rfl (lv_at hl 2 rfl) ?_
      obtain ⟨v_61, ev_61⟩ : ∃ v, pI S_55 1004 x = v := ⟨_, rfl⟩
      have rg_63 := And.intro (z_lo v_61) (z_hi v_61)
      have pz_64 : (pI S_55 1004 x).toInt = v_61.toInt := by rw [ev_61]
      have pz_65 : (pI S_55 1004 x).toInt = v_61.toInt := (congrArg Int32.toInt ev_61).trans rfl
      have tk_66 := gb_58.1.1
      have t_67 : At S_55 x 10 := hk_56.fr.at t_28
      refine r_getI (g := 1004) (x := v_61) X hw t_67 rfl 4 ev_61 (by decide) rfl inn_X10_readCondition_10 (by decide) (X.2.2.2.1 (.fieldLink RX10 37 "SilkMill$Tape" "token" "I") (by decide +kernel)) rfl (gv_1004 _ _) dX10_readCondition_67 ?_
      refine lv_iconst (v := 2) X.1 X.2.1 dX10_readCondition_70 (by decide) ?_
      refine lv_icmp_eq (tgt := 80) X.1 X.2.1 dX10_readCondition_71 (by decide) (fun c_68 => ?_) (fun c_68 => ?_)
      · have z_b_69 := trivial
        have k_70 : v_61.toInt = 2 := z_eq rfl ti_2 c_68
        refine lv_aload_n X.1 X.2.1 dX10_readCondition_80 rfl (lv_at hl 3 rfl) ?_
        refine lv_iload_n X.1 X.2.1 dX10_readCondition_81 rfl (lv_at hl 1 rfl) ?_
        refine lv_iload_n X.1 X.2.1 dX10_readCondition_82 rfl (lv_at hl 0 rfl) ?_
        refine lv_aload_n X.1 X.2.1 dX10_readCondition_83 rfl (lv_at hl 2 rfl) ?_
        have k2_71 := (hdE ok_59).2.2.1 (by omega)
        refine k_i (rm := { frames := 2, cells := 0, slots := 0, locals := 96 }) (av := [.ref x]) X hw (va_runV (As := []) (rest := [.int (rr_41), .int (rr_5), .ref r1]) (cfix X) (k_X10_numberAtHand2 l G cy κ S_55 _ x (nxT (tB S x) (pI S 1000 x).toInt.toNat (nxT (tB S x) (pI S 1000 x).toInt.toNat t0)) hO_57.1 t_67 gb_58.1 (hdE ok_59).1 (hdE ok_59).2.1 k2_71.1 (by rw [tB_fr hG ha_x hO_57.fr (by decide +kernel)]; exact k2_71.2)) (cwV 0 X.2.2.2.1 gX10_readCondition_X10_numberAtHand rfl rfl rfl (by decide +kernel) ⟨Nat.le_of_ble_eq_true rfl, Nat.le_of_ble_eq_true rfl⟩) (pre_V X hw _ t_67 rfl (by decide) rfl) rfl rfl hl.1 rfl (lv_room (Nat.le_of_ble_eq_true rfl)) dX10_readCondition_84 ⟨Nat.le_of_ble_eq_true rfl, Nat.le_of_ble_eq_true rfl⟩) 0 0 (Nat.le_of_ble_eq_true rfl) (Nat.le_of_ble_eq_true rfl) (fun rr_72 S_73 H locs hp hw hfr hnw => ?_)
        obtain ⟨e2, hp⟩ := hp
        subst e2
        obtain ⟨f_74, f_75, f_76⟩ := hp
        have t_77 : At S_22 r1 6 := hk_23.fr.at ha_r1
        have t_78 : At S_55 r1 6 := hk_56.fr.at t_77
        refine k_v (rm := { frames := 1, cells := 0, slots := 0, locals := 48 }) (av := [.ref r1, .int (rr_5), .int (rr_41), .int (rr_72)]) X hw (va_runV (As := [.int (rr_5), .int (rr_41), .int (rr_72)]) (rest := []) (cfix X) (k_X6_addCondition2 l G cy κ S_55 _ r1 (rr_5) (rr_5.toInt) (rr_41) (rr_41.toInt) (rr_72) (rr_72.toInt) hO_57.1 t_78 rfl rfl rfl) (cwV 3 X.2.2.2.1 gX10_readCondition_X6_addCondition rfl rfl rfl (by decide +kernel) ⟨Nat.le_of_ble_eq_true rfl, Nat.le_of_ble_eq_true rfl⟩) (pre_V X hw _ t_78 rfl (by decide) rfl) rfl rfl hl.1 rfl (lv_room (Nat.le_of_ble_eq_true rfl)) dX10_readCondition_87 ⟨Nat.le_of_ble_eq_true rfl, Nat.le_of_ble_eq_true rfl⟩) 0 0 (Nat.le_of_ble_eq_true rfl) (Nat.le_of_ble_eq_true rfl) (fun S_80 H locs hp hw hfr hnw => ?_)
        obtain ⟨hk_81, hp⟩ := hp
        have hO_82 : Ok MLc S S_80 := hO_57.call hk_81 (by decide +kernel)
        refine lv_aload_n X.1 X.2.1 dX10_readCondition_90 rfl (lv_at hl 2 rfl) ?_
        have t_83 : At S_80 x 10 := hk_81.fr.at t_67
        have gb_84 := GB_fr gb_58 t_67 hk_81.fr (by decide +kernel)
        have ok_85 := hdI (GB_ok hG ha_x gb_84)
        have ok_86 : ((nxT (tB S x) (pI S 1000 x).toInt.toNat (nxT (tB S x) (pI S 1000 x).toInt.toNat t0))).2.1 ≤ ((nxT (tB S x) (pI S 1000 x).toInt.toNat (nxT (tB S x) (pI S 1000 x).toInt.toNat t0))).2.2 ∧ ((nxT (tB S x) (pI S 1000 x).toInt.toNat (nxT (tB S x) (pI S 1000 x).toInt.toNat t0))).2.2 ≤ 400 := ⟨(hdE ok_85).1, (hdE ok_85).2.1⟩
        obtain ⟨v_88, ev_88⟩ : ∃ v, pI S_80 1006 x = v := ⟨_, rfl⟩
        have rg_90 := And.intro (z_lo v_88) (z_hi v_88)
        have pz_91 : (pI S_80 1006 x).toInt = v_88.toInt := by rw [ev_88]
        have pz_92 : (pI S_80 1006 x).toInt = v_88.toInt := (congrArg Int32.toInt ev_88).trans rfl
        have te_93 := gb_84.1.2.2
        refine k_v (rm := { frames := 2, cells := 0, slots := 0, locals := 96 }) (av := [.ref x]) X hw (va_runV (As := []) (rest := []) (cfix X) (k_X10_advance2 l G cy κ S_80 _ x hO_82.1 t_83 (by omega) (by omega)) (cwV 0 X.2.2.2.1 gX10_readCondition_X10_advance rfl rfl rfl (by decide +kernel) ⟨Nat.le_of_ble_eq_true rfl, Nat.le_of_ble_eq_true rfl⟩) (pre_V X hw _ t_83 rfl (by decide) rfl) rfl rfl hl.1 rfl (lv_room (Nat.le_of_ble_eq_true rfl)) dX10_readCondition_91 ⟨Nat.le_of_ble_eq_true rfl, Nat.le_of_ble_eq_true rfl⟩) 0 0 (Nat.le_of_ble_eq_true rfl) (Nat.le_of_ble_eq_true rfl) (fun S_95 H locs hp hw hfr hnw => ?_)
        obtain ⟨hk_96, hp⟩ := hp
        have hO_97 : Ok MLc S S_95 := hO_82.call hk_96 (by decide +kernel)
        have gb_98 : GB (tB S x) (pI S 1000 x).toInt.toNat S_95 x (nxT (tB S x) (pI S 1000 x).toInt.toNat (nxT (tB S x) (pI S 1000 x).toInt.toNat (nxT (tB S x) (pI S 1000 x).toInt.toNat t0))) := GB_adv gb_84 (tB_fr hG ha_x hO_82.fr (by decide +kernel)) (by rw [hO_82.fr.I' (g := 1000) (by decide +kernel) ha_x rfl]) (by omega) hp.1
        have ok_99 := hdI (GB_ok hG ha_x gb_98)
        have ok_100 : ((nxT (tB S x) (pI S 1000 x).toInt.toNat (nxT (tB S x) (pI S 1000 x).toInt.toNat (nxT (tB S x) (pI S 1000 x).toInt.toNat t0)))).2.1 ≤ ((nxT (tB S x) (pI S 1000 x).toInt.toNat (nxT (tB S x) (pI S 1000 x).toInt.toNat (nxT (tB S x) (pI S 1000 x).toInt.toNat t0)))).2.2 ∧ ((nxT (tB S x) (pI S 1000 x).toInt.toNat (nxT (tB S x) (pI S 1000 x).toInt.toNat (nxT (tB S x) (pI S 1000 x).toInt.toNat t0)))).2.2 ≤ 400 := ⟨(hdE ok_99).1, (hdE ok_99).2.1⟩
        refine lv_iconst (v := 1) X.1 X.2.1 dX10_readCondition_94 (by decide) ?_
        exact ret_z X hw hr hlocks (Nat.le_of_ble_eq_true rfl) (Nat.le_of_ble_eq_true rfl) (by decide) ⟨hO_97, Or.inl ⟨⟨⟨by omega, Or.inl f_31, by omega⟩, gb_98⟩, rfl⟩⟩ dX10_readCondition_95
      · have z_b_101 := trivial
        have k_102 : v_61.toInt ≠ 2 := z_ne rfl ti_2 c_68
        refine lv_aload_n X.1 X.2.1 dX10_readCondition_74 rfl (lv_at hl 2 rfl) ?_
        refine lv_iconst (v := 1) X.1 X.2.1 dX10_readCondition_75 (by decide) ?_
        refine k_i (rm := { frames := 1, cells := 0, slots := 0, locals := 48 }) (av := [.ref x, .int 1]) X hw (va_runV (As := [.int 1]) (rest := []) (cfix X) (k_X10_fail2 l G cy κ S_55 _ x (1) (1) hO_57.1 t_67 ti_1) (cwV 1 X.2.2.2.1 gX10_readCondition_X10_fail rfl rfl rfl (by decide +kernel) ⟨Nat.le_of_ble_eq_true rfl, Nat.le_of_ble_eq_true rfl⟩) (pre_V X hw _ t_67 rfl (by decide) rfl) rfl rfl hl.1 rfl (lv_room (Nat.le_of_ble_eq_true rfl)) dX10_readCondition_76 ⟨Nat.le_of_ble_eq_true rfl, Nat.le_of_ble_eq_true rfl⟩) 0 0 (Nat.le_of_ble_eq_true rfl) (Nat.le_of_ble_eq_true rfl) (fun rr_103 S_104 H locs hp hw hfr hnw => ?_)
        obtain ⟨hk_105, hp⟩ := hp
        have hO_106 : Ok MLc S S_104 := hO_57.call hk_105 (by decide +kernel)
        rcases hp with ⟨f_107, er_108⟩ | ⟨f_107, er_108⟩ <;> subst er_108
        · have z_b_109 := trivial
          exact f_107.elim
        · have z_b_110 := trivial
          exact ret_z X hw hr hlocks (Nat.le_of_ble_eq_true rfl) (Nat.le_of_ble_eq_true rfl) (by decide) ⟨hO_106, Or.inr ⟨⟨fun h => by have h3 := h.2.2; omega, f_107⟩, rfl⟩⟩ dX10_readCondition_79
    · have z_b_111 := trivial
      rw [tB_fr hG ha_x hO_24.fr (by decide +kernel)] at f_31
      refine lv_if_ne (tgt := 53) X.1 X.2.1 dX10_readCondition_26 (by decide) (fun c_112 => absurd c_112 (by decide)) (fun c_112 => ?_)
      refine lv_aload_n X.1 X.2.1 dX10_readCondition_29 rfl (lv_at hl 1 rfl) ?_
      refine lv_bipush (v := 61) X.1 X.2.1 dX10_readCondition_30 (by decide) ?_
      refine k_i (rm := { frames := 2, cells := 0, slots := 0, locals := 96 }) (av := [.ref x, .int 61]) X hw (va_runV (As := [.int 61]) (rest := []) (cfix X) (k_X10_isSign2 l G cy κ S_22 _ x (61) (61) (nxT (tB S x) (pI S 1000 x).toInt.toNat t0) hO_24.1 t_28 ti_61 gb_25.1) (cwV 1 X.2.2.2.1 gX10_readCondition_X10_isSign rfl rfl rfl (by decide +kernel) ⟨Nat.le_of_ble_eq_true rfl, Nat.le_of_ble_eq_true rfl⟩) (pre_V X hw _ t_28 rfl (by decide) rfl) rfl rfl hl.1 rfl (lv_room (Nat.le_of_ble_eq_true rfl)) dX10_readCondition_32 ⟨Nat.le_of_ble_eq_true rfl, Nat.le_of_ble_eq_true rfl⟩) 0 0 (Nat.le_of_ble_eq_true rfl) (Nat.le_of_ble_eq_true rfl) (fun rr_113 S_114 H locs hp hw hfr hnw => ?_)
      obtain ⟨e2, hp⟩ := hp
      subst e2
      rcases hp with ⟨f_115, er_116⟩ | ⟨f_115, er_116⟩ <;> subst er_116
      · have z_b_117 := trivial
        rw [tB_fr hG ha_x hO_24.fr (by decide +kernel)] at f_115
        refine lv_if_ne (tgt := 53) X.1 X.2.1 dX10_readCondition_35 (by decide) (fun c_118 => ?_) (fun c_118 => absurd c_118 (by decide))
        refine lv_aload_n X.1 X.2.1 dX10_readCondition_53 rfl (lv_at hl 1 rfl) ?_
        refine lv_aload_n X.1 X.2.1 dX10_readCondition_54 rfl (lv_at hl 1 rfl) ?_
        obtain ⟨v_119, ev_119⟩ : ∃ v, pI S_22 1005 x = v := ⟨_, rfl⟩
        have rg_121 := And.intro (z_lo v_119) (z_hi v_119)
        have pz_122 : (pI S_22 1005 x).toInt = v_119.toInt := by rw [ev_119]
        refine r_getI (g := 1005) (x := v_119) X hw t_28 rfl 5 ev_119 (by decide) rfl inn_X10_readCondition_10 (by decide) (X.2.2.2.1 (.fieldLink RX10 79 "SilkMill$Tape" "start" "I") (by decide +kernel)) rfl (gv_1005 _ _) dX10_readCondition_55 ?_
        have ts_123 := gb_25.1.2.1
        have pz_124 : (pI S_22 1005 x).toInt = v_119.toInt := (congrArg Int32.toInt ev_119).trans rfl
        refine k_i (rm := { frames := 1, cells := 0, slots := 0, locals := 48 }) (av := [.ref x, .int (v_119)]) X hw (va_runV (As := [.int (v_119)]) (rest := []) (cfix X) (k_X10_byteAt2 l G cy κ S_22 _ x (v_119) (v_119.toInt) hO_24.1 t_28 rfl) (cwV 1 X.2.2.2.1 gX10_readCondition_X10_byteAt rfl rfl rfl (by decide +kernel) ⟨Nat.le_of_ble_eq_true rfl, Nat.le_of_ble_eq_true rfl⟩) (pre_V X hw _ t_28 rfl (by decide) rfl) rfl rfl hl.1 rfl (lv_room (Nat.le_of_ble_eq_true rfl)) dX10_readCondition_58 ⟨Nat.le_of_ble_eq_true rfl, Nat.le_of_ble_eq_true rfl⟩) 0 0 (Nat.le_of_ble_eq_true rfl) (Nat.le_of_ble_eq_true rfl) (fun rr_125 S_126 H locs hp hw hfr hnw => ?_)
        obtain ⟨e2, hp⟩ := hp
        subst e2
        have rg_128 := And.intro (z_lo rr_125) (z_hi rr_125)
        have by_127 := hp (by omega)
        rw [tB_fr hG ha_x hO_24.fr (by decide +kernel)] at by_127
        refine lv_istore_n (lv' := [(3, .int (rr_125)), (2, .int (rr_5)), (0, .ref x), (1, .ref r1)]) X.1 X.2.1 dX10_readCondition_61 rfl hl (by decide) rfl (fun ls hl => ?_)
        refine lv_aload_n X.1 X.2.1 dX10_readCondition_62 rfl (lv_at hl 2 rfl) ?_
        have ok_129 := hdI (GB_ok hG ha_x gb_25)
        have ok_130 : ((nxT (tB S x) (pI S 1000 x).toInt.toNat t0)).2.1 ≤ ((nxT (tB S x) (pI S 1000 x).toInt.toNat t0)).2.2 ∧ ((nxT (tB S x) (pI S 1000 x).toInt.toNat t0)).2.2 ≤ 400 := ⟨(hdE ok_129).1, (hdE ok_129).2.1⟩
        obtain ⟨v_132, ev_132⟩ : ∃ v, pI S_22 1006 x = v := ⟨_, rfl⟩
        have rg_134 := And.intro (z_lo v_132) (z_hi v_132)
        have pz_135 : (pI S_22 1006 x).toInt = v_132.toInt := by rw [ev_132]
        have pz_136 : (pI S_22 1006 x).toInt = v_132.toInt := (congrArg Int32.toInt ev_132).trans rfl
        have te_137 := gb_25.1.2.2
        refine k_v (rm := { frames := 2, cells := 0, slots := 0, locals := 96 }) (av := [.ref x]) X hw (va_runV (As := []) (rest := []) (cfix X) (k_X10_advance2 l G cy κ S_22 _ x hO_24.1 t_28 (by omega) (by omega)) (cwV 0 X.2.2.2.1 gX10_readCondition_X10_advance rfl rfl rfl (by decide +kernel) ⟨Nat.le_of_ble_eq_true rfl, Nat.le_of_ble_eq_true rfl⟩) (pre_V X hw _ t_28 rfl (by decide) rfl) rfl rfl hl.1 rfl (lv_room (Nat.le_of_ble_eq_true rfl)) dX10_readCondition_63 ⟨Nat.le_of_ble_eq_true rfl, Nat.le_of_ble_eq_true rfl⟩) 0 0 (Nat.le_of_ble_eq_true rfl) (Nat.le_of_ble_eq_true rfl) (fun S_139 H locs hp hw hfr hnw => ?_)
        obtain ⟨hk_140, hp⟩ := hp
        have hO_141 : Ok MLc S S_139 := hO_24.call hk_140 (by decide +kernel)
        have gb_142 : GB (tB S x) (pI S 1000 x).toInt.toNat S_139 x (nxT (tB S x) (pI S 1000 x).toInt.toNat (nxT (tB S x) (pI S 1000 x).toInt.toNat t0)) := GB_adv gb_25 (tB_fr hG ha_x hO_24.fr (by decide +kernel)) (by rw [hO_24.fr.I' (g := 1000) (by decide +kernel) ha_x rfl]) (by omega) hp.1
        have ok_143 := hdI (GB_ok hG ha_x gb_142)
        have ok_144 : ((nxT (tB S x) (pI S 1000 x).toInt.toNat (nxT (tB S x) (pI S 1000 x).toInt.toNat t0))).2.1 ≤ ((nxT (tB S x) (pI S 1000 x).toInt.toNat (nxT (tB S x) (pI S 1000 x).toInt.toNat t0))).2.2 ∧ ((nxT (tB S x) (pI S 1000 x).toInt.toNat (nxT (tB S x) (pI S 1000 x).toInt.toNat t0))).2.2 ≤ 400 := ⟨(hdE ok_143).1, (hdE ok_143).2.1⟩
        refine lv_aload_n X.1 X.2.1 dX10_readCondition_66 rfl (lv_at hl 2 rfl) ?_
        obtain ⟨v_145, ev_145⟩ : ∃ v, pI S_139 1004 x = v := ⟨_, rfl⟩
        have rg_147 := And.intro (z_lo v_145) (z_hi v_145)
        have pz_148 : (pI S_139 1004 x).toInt = v_145.toInt := by rw [ev_145]
        have pz_149 : (pI S_139 1004 x).toInt = v_145.toInt := (congrArg Int32.toInt ev_145).trans rfl
        have tk_150 := gb_142.1.1
        have t_151 : At S_139 x 10 := hk_140.fr.at t_28
        refine r_getI (g := 1004) (x := v_145) X hw t_151 rfl 4 ev_145 (by decide) rfl inn_X10_readCondition_10 (by decide) (X.2.2.2.1 (.fieldLink RX10 37 "SilkMill$Tape" "token" "I") (by decide +kernel)) rfl (gv_1004 _ _) dX10_readCondition_67 ?_
        refine lv_iconst (v := 2) X.1 X.2.1 dX10_readCondition_70 (by decide) ?_
        refine lv_icmp_eq (tgt := 80) X.1 X.2.1 dX10_readCondition_71 (by decide) (fun c_152 => ?_) (fun c_152 => ?_)
        · have z_b_153 := trivial
          have k_154 : v_145.toInt = 2 := z_eq rfl ti_2 c_152
          refine lv_aload_n X.1 X.2.1 dX10_readCondition_80 rfl (lv_at hl 3 rfl) ?_
          refine lv_iload_n X.1 X.2.1 dX10_readCondition_81 rfl (lv_at hl 1 rfl) ?_
          refine lv_iload_n X.1 X.2.1 dX10_readCondition_82 rfl (lv_at hl 0 rfl) ?_
          refine lv_aload_n X.1 X.2.1 dX10_readCondition_83 rfl (lv_at hl 2 rfl) ?_
          have k2_155 := (hdE ok_143).2.2.1 (by omega)
          refine k_i (rm := { frames := 2, cells := 0, slots := 0, locals := 96 }) (av := [.ref x]) X hw (va_runV (As := []) (rest := [.int (rr_125), .int (rr_5), .ref r1]) (cfix X) (k_X10_numberAtHand2 l G cy κ S_139 _ x (nxT (tB S x) (pI S 1000 x).toInt.toNat (nxT (tB S x) (pI S 1000 x).toInt.toNat t0)) hO_141.1 t_151 gb_142.1 (hdE ok_143).1 (hdE ok_143).2.1 k2_155.1 (by rw [tB_fr hG ha_x hO_141.fr (by decide +kernel)]; exact k2_155.2)) (cwV 0 X.2.2.2.1 gX10_readCondition_X10_numberAtHand rfl rfl rfl (by decide +kernel) ⟨Nat.le_of_ble_eq_true rfl, Nat.le_of_ble_eq_true rfl⟩) (pre_V X hw _ t_151 rfl (by decide) rfl) rfl rfl hl.1 rfl (lv_room (Nat.le_of_ble_eq_true rfl)) dX10_readCondition_84 ⟨Nat.le_of_ble_eq_true rfl, Nat.le_of_ble_eq_true rfl⟩) 0 0 (Nat.le_of_ble_eq_true rfl) (Nat.le_of_ble_eq_true rfl) (fun rr_156 S_157 H locs hp hw hfr hnw => ?_)
          obtain ⟨e2, hp⟩ := hp
          subst e2
          obtain ⟨f_158, f_159, f_160⟩ := hp
          have t_161 : At S_22 r1 6 := hk_23.fr.at ha_r1
          have t_162 : At S_139 r1 6 := hk_140.fr.at t_161
          refine k_v (rm := { frames := 1, cells := 0, slots := 0, locals := 48 }) (av := [.ref r1, .int (rr_5), .int (rr_125), .int (rr_156)]) X hw (va_runV (As := [.int (rr_5), .int (rr_125), .int (rr_156)]) (rest := []) (cfix X) (k_X6_addCondition2 l G cy κ S_139 _ r1 (rr_5) (rr_5.toInt) (rr_125) (rr_125.toInt) (rr_156) (rr_156.toInt) hO_141.1 t_162 rfl rfl rfl) (cwV 3 X.2.2.2.1 gX10_readCondition_X6_addCondition rfl rfl rfl (by decide +kernel) ⟨Nat.le_of_ble_eq_true rfl, Nat.le_of_ble_eq_true rfl⟩) (pre_V X hw _ t_162 rfl (by decide) rfl) rfl rfl hl.1 rfl (lv_room (Nat.le_of_ble_eq_true rfl)) dX10_readCondition_87 ⟨Nat.le_of_ble_eq_true rfl, Nat.le_of_ble_eq_true rfl⟩) 0 0 (Nat.le_of_ble_eq_true rfl) (Nat.le_of_ble_eq_true rfl) (fun S_164 H locs hp hw hfr hnw => ?_)
          obtain ⟨hk_165, hp⟩ := hp
          have hO_166 : Ok MLc S S_164 := hO_141.call hk_165 (by decide +kernel)
          refine lv_aload_n X.1 X.2.1 dX10_readCondition_90 rfl (lv_at hl 2 rfl) ?_
          have t_167 : At S_164 x 10 := hk_165.fr.at t_151
          have gb_168 := GB_fr gb_142 t_151 hk_165.fr (by decide +kernel)
          have ok_169 := hdI (GB_ok hG ha_x gb_168)
          have ok_170 : ((nxT (tB S x) (pI S 1000 x).toInt.toNat (nxT (tB S x) (pI S 1000 x).toInt.toNat t0))).2.1 ≤ ((nxT (tB S x) (pI S 1000 x).toInt.toNat (nxT (tB S x) (pI S 1000 x).toInt.toNat t0))).2.2 ∧ ((nxT (tB S x) (pI S 1000 x).toInt.toNat (nxT (tB S x) (pI S 1000 x).toInt.toNat t0))).2.2 ≤ 400 := ⟨(hdE ok_169).1, (hdE ok_169).2.1⟩
          obtain ⟨v_172, ev_172⟩ : ∃ v, pI S_164 1006 x = v := ⟨_, rfl⟩
          have rg_174 := And.intro (z_lo v_172) (z_hi v_172)
          have pz_175 : (pI S_164 1006 x).toInt = v_172.toInt := by rw [ev_172]
          have pz_176 : (pI S_164 1006 x).toInt = v_172.toInt := (congrArg Int32.toInt ev_172).trans rfl
          have te_177 := gb_168.1.2.2
          refine k_v (rm := { frames := 2, cells := 0, slots := 0, locals := 96 }) (av := [.ref x]) X hw (va_runV (As := []) (rest := []) (cfix X) (k_X10_advance2 l G cy κ S_164 _ x hO_166.1 t_167 (by omega) (by omega)) (cwV 0 X.2.2.2.1 gX10_readCondition_X10_advance rfl rfl rfl (by decide +kernel) ⟨Nat.le_of_ble_eq_true rfl, Nat.le_of_ble_eq_true rfl⟩) (pre_V X hw _ t_167 rfl (by decide) rfl) rfl rfl hl.1 rfl (lv_room (Nat.le_of_ble_eq_true rfl)) dX10_readCondition_91 ⟨Nat.le_of_ble_eq_true rfl, Nat.le_of_ble_eq_true rfl⟩) 0 0 (Nat.le_of_ble_eq_true rfl) (Nat.le_of_ble_eq_true rfl) (fun S_179 H locs hp hw hfr hnw => ?_)
          obtain ⟨hk_180, hp⟩ := hp
          have hO_181 : Ok MLc S S_179 := hO_166.call hk_180 (by decide +kernel)
          have gb_182 : GB (tB S x) (pI S 1000 x).toInt.toNat S_179 x (nxT (tB S x) (pI S 1000 x).toInt.toNat (nxT (tB S x) (pI S 1000 x).toInt.toNat (nxT (tB S x) (pI S 1000 x).toInt.toNat t0))) := GB_adv gb_168 (tB_fr hG ha_x hO_166.fr (by decide +kernel)) (by rw [hO_166.fr.I' (g := 1000) (by decide +kernel) ha_x rfl]) (by omega) hp.1
          have ok_183 := hdI (GB_ok hG ha_x gb_182)
          have ok_184 : ((nxT (tB S x) (pI S 1000 x).toInt.toNat (nxT (tB S x) (pI S 1000 x).toInt.toNat (nxT (tB S x) (pI S 1000 x).toInt.toNat t0)))).2.1 ≤ ((nxT (tB S x) (pI S 1000 x).toInt.toNat (nxT (tB S x) (pI S 1000 x).toInt.toNat (nxT (tB S x) (pI S 1000 x).toInt.toNat t0)))).2.2 ∧ ((nxT (tB S x) (pI S 1000 x).toInt.toNat (nxT (tB S x) (pI S 1000 x).toInt.toNat (nxT (tB S x) (pI S 1000 x).toInt.toNat t0)))).2.2 ≤ 400 := ⟨(hdE ok_183).1, (hdE ok_183).2.1⟩
          refine lv_iconst (v := 1) X.1 X.2.1 dX10_readCondition_94 (by decide) ?_
          exact ret_z X hw hr hlocks (Nat.le_of_ble_eq_true rfl) (Nat.le_of_ble_eq_true rfl) (by decide) ⟨hO_181, Or.inl ⟨⟨⟨by omega, Or.inr (Or.inl f_115), by omega⟩, gb_182⟩, rfl⟩⟩ dX10_readCondition_95
        · have z_b_185 := trivial
          have k_186 : v_145.toInt ≠ 2 := z_ne rfl ti_2 c_152
          refine lv_aload_n X.1 X.2.1 dX10_readCondition_74 rfl (lv_at hl 2 rfl) ?_
          refine lv_iconst (v := 1) X.1 X.2.1 dX10_readCondition_75 (by decide) ?_
          refine k_i (rm := { frames := 1, cells := 0, slots := 0, locals := 48 }) (av := [.ref x, .int 1]) X hw (va_runV (As := [.int 1]) (rest := []) (cfix X) (k_X10_fail2 l G cy κ S_139 _ x (1) (1) hO_141.1 t_151 ti_1) (cwV 1 X.2.2.2.1 gX10_readCondition_X10_fail rfl rfl rfl (by decide +kernel) ⟨Nat.le_of_ble_eq_true rfl, Nat.le_of_ble_eq_true rfl⟩) (pre_V X hw _ t_151 rfl (by decide) rfl) rfl rfl hl.1 rfl (lv_room (Nat.le_of_ble_eq_true rfl)) dX10_readCondition_76 ⟨Nat.le_of_ble_eq_true rfl, Nat.le_of_ble_eq_true rfl⟩) 0 0 (Nat.le_of_ble_eq_true rfl) (Nat.le_of_ble_eq_true rfl) (fun rr_187 S_188 H locs hp hw hfr hnw => ?_)
          obtain ⟨hk_189, hp⟩ := hp
          have hO_190 : Ok MLc S S_188 := hO_141.call hk_189 (by decide +kernel)
          rcases hp with ⟨f_191, er_192⟩ | ⟨f_191, er_192⟩ <;> subst er_192
          · have z_b_193 := trivial
            exact f_191.elim
          · have z_b_194 := trivial
            exact ret_z X hw hr hlocks (Nat.le_of_ble_eq_true rfl) (Nat.le_of_ble_eq_true rfl) (by decide) ⟨hO_190, Or.inr ⟨⟨fun h => by have h3 := h.2.2; omega, f_191⟩, rfl⟩⟩ dX10_readCondition_79
      · have z_b_195 := trivial
        rw [tB_fr hG ha_x hO_24.fr (by decide +kernel)] at f_115
        refine lv_if_ne (tgt := 53) X.1 X.2.1 dX10_readCondition_35 (by decide) (fun c_196 => absurd c_196 (by decide)) (fun c_196 => ?_)
        refine lv_aload_n X.1 X.2.1 dX10_readCondition_38 rfl (lv_at hl 1 rfl) ?_
        refine lv_bipush (v := 62) X.1 X.2.1 dX10_readCondition_39 (by decide) ?_
        refine k_i (rm := { frames := 2, cells := 0, slots := 0, locals := 96 }) (av := [.ref x, .int 62]) X hw (va_runV (As := [.int 62]) (rest := []) (cfix X) (k_X10_isSign2 l G cy κ S_22 _ x (62) (62) (nxT (tB S x) (pI S 1000 x).toInt.toNat t0) hO_24.1 t_28 ti_62 gb_25.1) (cwV 1 X.2.2.2.1 gX10_readCondition_X10_isSign rfl rfl rfl (by decide +kernel) ⟨Nat.le_of_ble_eq_true rfl, Nat.le_of_ble_eq_true rfl⟩) (pre_V X hw _ t_28 rfl (by decide) rfl) rfl rfl hl.1 rfl (lv_room (Nat.le_of_ble_eq_true rfl)) dX10_readCondition_41 ⟨Nat.le_of_ble_eq_true rfl, Nat.le_of_ble_eq_true rfl⟩) 0 0 (Nat.le_of_ble_eq_true rfl) (Nat.le_of_ble_eq_true rfl) (fun rr_197 S_198 H locs hp hw hfr hnw => ?_)
        obtain ⟨e2, hp⟩ := hp
        subst e2
        rcases hp with ⟨f_199, er_200⟩ | ⟨f_199, er_200⟩ <;> subst er_200
        · have z_b_201 := trivial
          rw [tB_fr hG ha_x hO_24.fr (by decide +kernel)] at f_199
          refine lv_if_ne (tgt := 53) X.1 X.2.1 dX10_readCondition_44 (by decide) (fun c_202 => ?_) (fun c_202 => absurd c_202 (by decide))
          refine lv_aload_n X.1 X.2.1 dX10_readCondition_53 rfl (lv_at hl 1 rfl) ?_
          refine lv_aload_n X.1 X.2.1 dX10_readCondition_54 rfl (lv_at hl 1 rfl) ?_
          obtain ⟨v_203, ev_203⟩ : ∃ v, pI S_22 1005 x = v := ⟨_, rfl⟩
          have rg_205 := And.intro (z_lo v_203) (z_hi v_203)
          have pz_206 : (pI S_22 1005 x).toInt = v_203.toInt := by rw [ev_203]
          refine r_getI (g := 1005) (x := v_203) X hw t_28 rfl 5 ev_203 (by decide) rfl inn_X10_readCondition_10 (by decide) (X.2.2.2.1 (.fieldLink RX10 79 "SilkMill$Tape" "start" "I") (by decide +kernel)) rfl (gv_1005 _ _) dX10_readCondition_55 ?_
          have ts_207 := gb_25.1.2.1
          have pz_208 : (pI S_22 1005 x).toInt = v_203.toInt := (congrArg Int32.toInt ev_203).trans rfl
          refine k_i (rm := { frames := 1, cells := 0, slots := 0, locals := 48 }) (av := [.ref x, .int (v_203)]) X hw (va_runV (As := [.int (v_203)]) (rest := []) (cfix X) (k_X10_byteAt2 l G cy κ S_22 _ x (v_203) (v_203.toInt) hO_24.1 t_28 rfl) (cwV 1 X.2.2.2.1 gX10_readCondition_X10_byteAt rfl rfl rfl (by decide +kernel) ⟨Nat.le_of_ble_eq_true rfl, Nat.le_of_ble_eq_true rfl⟩) (pre_V X hw _ t_28 rfl (by decide) rfl) rfl rfl hl.1 rfl (lv_room (Nat.le_of_ble_eq_true rfl)) dX10_readCondition_58 ⟨Nat.le_of_ble_eq_true rfl, Nat.le_of_ble_eq_true rfl⟩) 0 0 (Nat.le_of_ble_eq_true rfl) (Nat.le_of_ble_eq_true rfl) (fun rr_209 S_210 H locs hp hw hfr hnw => ?_)
          obtain ⟨e2, hp⟩ := hp
          subst e2
          have rg_212 := And.intro (z_lo rr_209) (z_hi rr_209)
          have by_211 := hp (by omega)
          rw [tB_fr hG ha_x hO_24.fr (by decide +kernel)] at by_211
          refine lv_istore_n (lv' := [(3, .int (rr_209)), (2, .int (rr_5)), (0, .ref x), (1, .ref r1)]) X.1 X.2.1 dX10_readCondition_61 rfl hl (by decide) rfl (fun ls hl => ?_)
          refine lv_aload_n X.1 X.2.1 dX10_readCondition_62 rfl (lv_at hl 2 rfl) ?_
          have ok_213 := hdI (GB_ok hG ha_x gb_25)
          have ok_214 : ((nxT (tB S x) (pI S 1000 x).toInt.toNat t0)).2.1 ≤ ((nxT (tB S x) (pI S 1000 x).toInt.toNat t0)).2.2 ∧ ((nxT (tB S x) (pI S 1000 x).toInt.toNat t0)).2.2 ≤ 400 := ⟨(hdE ok_213).1, (hdE ok_213).2.1⟩
          obtain ⟨v_216, ev_216⟩ : ∃ v, pI S_22 1006 x = v := ⟨_, rfl⟩
          have rg_218 := And.intro (z_lo v_216) (z_hi v_216)
          have pz_219 : (pI S_22 1006 x).toInt = v_216.toInt := by rw [ev_216]
          have pz_220 : (pI S_22 1006 x).toInt = v_216.toInt := (congrArg Int32.toInt ev_216).trans rfl
          have te_221 := gb_25.1.2.2
          refine k_v (rm := { frames := 2, cells := 0, slots := 0, locals := 96 }) (av := [.ref x]) X hw (va_runV (As := []) (rest := []) (cfix X) (k_X10_advance2 l G cy κ S_22 _ x hO_24.1 t_28 (by omega) (by omega)) (cwV 0 X.2.2.2.1 gX10_readCondition_X10_advance rfl rfl rfl (by decide +kernel) ⟨Nat.le_of_ble_eq_true rfl, Nat.le_of_ble_eq_true rfl⟩) (pre_V X hw _ t_28 rfl (by decide) rfl) rfl rfl hl.1 rfl (lv_room (Nat.le_of_ble_eq_true rfl)) dX10_readCondition_63 ⟨Nat.le_of_ble_eq_true rfl, Nat.le_of_ble_eq_true rfl⟩) 0 0 (Nat.le_of_ble_eq_true rfl) (Nat.le_of_ble_eq_true rfl) (fun S_223 H locs hp hw hfr hnw => ?_)
          obtain ⟨hk_224, hp⟩ := hp
          have hO_225 : Ok MLc S S_223 := hO_24.call hk_224 (by decide +kernel)
          have gb_226 : GB (tB S x) (pI S 1000 x).toInt.toNat S_223 x (nxT (tB S x) (pI S 1000 x).toInt.toNat (nxT (tB S x) (pI S 1000 x).toInt.toNat t0)) := GB_adv gb_25 (tB_fr hG ha_x hO_24.fr (by decide +kernel)) (by rw [hO_24.fr.I' (g := 1000) (by decide +kernel) ha_x rfl]) (by omega) hp.1
          have ok_227 := hdI (GB_ok hG ha_x gb_226)
          have ok_228 : ((nxT (tB S x) (pI S 1000 x).toInt.toNat (nxT (tB S x) (pI S 1000 x).toInt.toNat t0))).2.1 ≤ ((nxT (tB S x) (pI S 1000 x).toInt.toNat (nxT (tB S x) (pI S 1000 x).toInt.toNat t0))).2.2 ∧ ((nxT (tB S x) (pI S 1000 x).toInt.toNat (nxT (tB S x) (pI S 1000 x).toInt.toNat t0))).2.2 ≤ 400 := ⟨(hdE ok_227).1, (hdE ok_227).2.1⟩
          refine lv_aload_n X.1 X.2.1 dX10_readCondition_66 rfl (lv_at hl 2 rfl) ?_
          obtain ⟨v_229, ev_229⟩ : ∃ v, pI S_223 1004 x = v := ⟨_, rfl⟩
          have rg_231 := And.intro (z_lo v_229) (z_hi v_229)
          have pz_232 : (pI S_223 1004 x).toInt = v_229.toInt := by rw [ev_229]
          have pz_233 : (pI S_223 1004 x).toInt = v_229.toInt := (congrArg Int32.toInt ev_229).trans rfl
          have tk_234 := gb_226.1.1
          have t_235 : At S_223 x 10 := hk_224.fr.at t_28
          refine r_getI (g := 1004) (x := v_229) X hw t_235 rfl 4 ev_229 (by decide) rfl inn_X10_readCondition_10 (by decide) (X.2.2.2.1 (.fieldLink RX10 37 "SilkMill$Tape" "token" "I") (by decide +kernel)) rfl (gv_1004 _ _) dX10_readCondition_67 ?_
          refine lv_iconst (v := 2) X.1 X.2.1 dX10_readCondition_70 (by decide) ?_
          refine lv_icmp_eq (tgt := 80) X.1 X.2.1 dX10_readCondition_71 (by decide) (fun c_236 => ?_) (fun c_236 => ?_)
          · have z_b_237 := trivial
            have k_238 : v_229.toInt = 2 := z_eq rfl ti_2 c_236
            refine lv_aload_n X.1 X.2.1 dX10_readCondition_80 rfl (lv_at hl 3 rfl) ?_
            refine lv_iload_n X.1 X.2.1 dX10_readCondition_81 rfl (lv_at hl 1 rfl) ?_
            refine lv_iload_n X.1 X.2.1 dX10_readCondition_82 rfl (lv_at hl 0 rfl) ?_
            refine lv_aload_n X.1 X.2.1 dX10_readCondition_83 rfl (lv_at hl 2 rfl) ?_
            have k2_239 := (hdE ok_227).2.2.1 (by omega)
            refine k_i (rm := { frames := 2, cells := 0, slots := 0, locals := 96 }) (av := [.ref x]) X hw (va_runV (As := []) (rest := [.int (rr_209), .int (rr_5), .ref r1]) (cfix X) (k_X10_numberAtHand2 l G cy κ S_223 _ x (nxT (tB S x) (pI S 1000 x).toInt.toNat (nxT (tB S x) (pI S 1000 x).toInt.toNat t0)) hO_225.1 t_235 gb_226.1 (hdE ok_227).1 (hdE ok_227).2.1 k2_239.1 (by rw [tB_fr hG ha_x hO_225.fr (by decide +kernel)]; exact k2_239.2)) (cwV 0 X.2.2.2.1 gX10_readCondition_X10_numberAtHand rfl rfl rfl (by decide +kernel) ⟨Nat.le_of_ble_eq_true rfl, Nat.le_of_ble_eq_true rfl⟩) (pre_V X hw _ t_235 rfl (by decide) rfl) rfl rfl hl.1 rfl (lv_room (Nat.le_of_ble_eq_true rfl)) dX10_readCondition_84 ⟨Nat.le_of_ble_eq_true rfl, Nat.le_of_ble_eq_true rfl⟩) 0 0 (Nat.le_of_ble_eq_true rfl) (Nat.le_of_ble_eq_true rfl) (fun rr_240 S_241 H locs hp hw hfr hnw => ?_)
            obtain ⟨e2, hp⟩ := hp
            subst e2
            obtain ⟨f_242, f_243, f_244⟩ := hp
            have t_245 : At S_22 r1 6 := hk_23.fr.at ha_r1
            have t_246 : At S_223 r1 6 := hk_224.fr.at t_245
            refine k_v (rm := { frames := 1, cells := 0, slots := 0, locals := 48 }) (av := [.ref r1, .int (rr_5), .int (rr_209), .int (rr_240)]) X hw (va_runV (As := [.int (rr_5), .int (rr_209), .int (rr_240)]) (rest := []) (cfix X) (k_X6_addCondition2 l G cy κ S_223 _ r1 (rr_5) (rr_5.toInt) (rr_209) (rr_209.toInt) (rr_240) (rr_240.toInt) hO_225.1 t_246 rfl rfl rfl) (cwV 3 X.2.2.2.1 gX10_readCondition_X6_addCondition rfl rfl rfl (by decide +kernel) ⟨Nat.le_of_ble_eq_true rfl, Nat.le_of_ble_eq_true rfl⟩) (pre_V X hw _ t_246 rfl (by decide) rfl) rfl rfl hl.1 rfl (lv_room (Nat.le_of_ble_eq_true rfl)) dX10_readCondition_87 ⟨Nat.le_of_ble_eq_true rfl, Nat.le_of_ble_eq_true rfl⟩) 0 0 (Nat.le_of_ble_eq_true rfl) (Nat.le_of_ble_eq_true rfl) (fun S_248 H locs hp hw hfr hnw => ?_)
            obtain ⟨hk_249, hp⟩ := hp
            have hO_250 : Ok MLc S S_248 := hO_225.call hk_249 (by decide +kernel)
            refine lv_aload_n X.1 X.2.1 dX10_readCondition_90 rfl (lv_at hl 2 rfl) ?_
            have t_251 : At S_248 x 10 := hk_249.fr.at t_235
            have gb_252 := GB_fr gb_226 t_235 hk_249.fr (by decide +kernel)
            have ok_253 := hdI (GB_ok hG ha_x gb_252)
            have ok_254 : ((nxT (tB S x) (pI S 1000 x).toInt.toNat (nxT (tB S x) (pI S 1000 x).toInt.toNat t0))).2.1 ≤ ((nxT (tB S x) (pI S 1000 x).toInt.toNat (nxT (tB S x) (pI S 1000 x).toInt.toNat t0))).2.2 ∧ ((nxT (tB S x) (pI S 1000 x).toInt.toNat (nxT (tB S x) (pI S 1000 x).toInt.toNat t0))).2.2 ≤ 400 := ⟨(hdE ok_253).1, (hdE ok_253).2.1⟩
            obtain ⟨v_256, ev_256⟩ : ∃ v, pI S_248 1006 x = v := ⟨_, rfl⟩
            have rg_258 := And.intro (z_lo v_256) (z_hi v_256)
            have pz_259 : (pI S_248 1006 x).toInt = v_256.toInt := by rw [ev_256]
            have pz_260 : (pI S_248 1006 x).toInt = v_256.toInt := (congrArg Int32.toInt ev_256).trans rfl
            have te_261 := gb_252.1.2.2
            refine k_v (rm := { frames := 2, cells := 0, slots := 0, locals := 96 }) (av := [.ref x]) X hw (va_runV (As := []) (rest := []) (cfix X) (k_X10_advance2 l G cy κ S_248 _ x hO_250.1 t_251 (by omega) (by omega)) (cwV 0 X.2.2.2.1 gX10_readCondition_X10_advance rfl rfl rfl (by decide +kernel) ⟨Nat.le_of_ble_eq_true rfl, Nat.le_of_ble_eq_true rfl⟩) (pre_V X hw _ t_251 rfl (by decide) rfl) rfl rfl hl.1 rfl (lv_room (Nat.le_of_ble_eq_true rfl)) dX10_readCondition_91 ⟨Nat.le_of_ble_eq_true rfl, Nat.le_of_ble_eq_true rfl⟩) 0 0 (Nat.le_of_ble_eq_true rfl) (Nat.le_of_ble_eq_true rfl) (fun S_263 H locs hp hw hfr hnw => ?_)
            obtain ⟨hk_264, hp⟩ := hp
            have hO_265 : Ok MLc S S_263 := hO_250.call hk_264 (by decide +kernel)
            have gb_266 : GB (tB S x) (pI S 1000 x).toInt.toNat S_263 x (nxT (tB S x) (pI S 1000 x).toInt.toNat (nxT (tB S x) (pI S 1000 x).toInt.toNat (nxT (tB S x) (pI S 1000 x).toInt.toNat t0))) := GB_adv gb_252 (tB_fr hG ha_x hO_250.fr (by decide +kernel)) (by rw [hO_250.fr.I' (g := 1000) (by decide +kernel) ha_x rfl]) (by omega) hp.1
            have ok_267 := hdI (GB_ok hG ha_x gb_266)
            have ok_268 : ((nxT (tB S x) (pI S 1000 x).toInt.toNat (nxT (tB S x) (pI S 1000 x).toInt.toNat (nxT (tB S x) (pI S 1000 x).toInt.toNat t0)))).2.1 ≤ ((nxT (tB S x) (pI S 1000 x).toInt.toNat (nxT (tB S x) (pI S 1000 x).toInt.toNat (nxT (tB S x) (pI S 1000 x).toInt.toNat t0)))).2.2 ∧ ((nxT (tB S x) (pI S 1000 x).toInt.toNat (nxT (tB S x) (pI S 1000 x).toInt.toNat (nxT (tB S x) (pI S 1000 x).toInt.toNat t0)))).2.2 ≤ 400 := ⟨(hdE ok_267).1, (hdE ok_267).2.1⟩
            refine lv_iconst (v := 1) X.1 X.2.1 dX10_readCondition_94 (by decide) ?_
            exact ret_z X hw hr hlocks (Nat.le_of_ble_eq_true rfl) (Nat.le_of_ble_eq_true rfl) (by decide) ⟨hO_265, Or.inl ⟨⟨⟨by omega, Or.inr (Or.inr f_199), by omega⟩, gb_266⟩, rfl⟩⟩ dX10_readCondition_95
          · have z_b_269 := trivial
            have k_270 : v_229.toInt ≠ 2 := z_ne rfl ti_2 c_236
            refine lv_aload_n X.1 X.2.1 dX10_readCondition_74 rfl (lv_at hl 2 rfl) ?_
            refine lv_iconst (v := 1) X.1 X.2.1 dX10_readCondition_75 (by decide) ?_
            refine k_i (rm := { frames := 1, cells := 0, slots := 0, locals := 48 }) (av := [.ref x, .int 1]) X hw (va_runV (As := [.int 1]) (rest := []) (cfix X) (k_X10_fail2 l G cy κ S_223 _ x (1) (1) hO_225.1 t_235 ti_1) (cwV 1 X.2.2.2.1 gX10_readCondition_X10_fail rfl rfl rfl (by decide +kernel) ⟨Nat.le_of_ble_eq_true rfl, Nat.le_of_ble_eq_true rfl⟩) (pre_V X hw _ t_235 rfl (by decide) rfl) rfl rfl hl.1 rfl (lv_room (Nat.le_of_ble_eq_true rfl)) dX10_readCondition_76 ⟨Nat.le_of_ble_eq_true rfl, Nat.le_of_ble_eq_true rfl⟩) 0 0 (Nat.le_of_ble_eq_true rfl) (Nat.le_of_ble_eq_true rfl) (fun rr_271 S_272 H locs hp hw hfr hnw => ?_)
            obtain ⟨hk_273, hp⟩ := hp
            have hO_274 : Ok MLc S S_272 := hO_225.call hk_273 (by decide +kernel)
            rcases hp with ⟨f_275, er_276⟩ | ⟨f_275, er_276⟩ <;> subst er_276
            · have z_b_277 := trivial
              exact f_275.elim
            · have z_b_278 := trivial
              exact ret_z X hw hr hlocks (Nat.le_of_ble_eq_true rfl) (Nat.le_of_ble_eq_true rfl) (by decide) ⟨hO_274, Or.inr ⟨⟨fun h => by have h3 := h.2.2; omega, f_275⟩, rfl⟩⟩ dX10_readCondition_79
        · have z_b_279 := trivial
          rw [tB_fr hG ha_x hO_24.fr (by decide +kernel)] at f_199
          refine lv_if_ne (tgt := 53) X.1 X.2.1 dX10_readCondition_44 (by decide) (fun c_280 => absurd c_280 (by decide)) (fun c_280 => ?_)
          refine lv_aload_n X.1 X.2.1 dX10_readCondition_47 rfl (lv_at hl 1 rfl) ?_
          refine lv_iconst (v := 1) X.1 X.2.1 dX10_readCondition_48 (by decide) ?_
          refine k_i (rm := { frames := 1, cells := 0, slots := 0, locals := 48 }) (av := [.ref x, .int 1]) X hw (va_runV (As := [.int 1]) (rest := []) (cfix X) (k_X10_fail2 l G cy κ S_22 _ x (1) (1) hO_24.1 t_28 ti_1) (cwV 1 X.2.2.2.1 gX10_readCondition_X10_fail rfl rfl rfl (by decide +kernel) ⟨Nat.le_of_ble_eq_true rfl, Nat.le_of_ble_eq_true rfl⟩) (pre_V X hw _ t_28 rfl (by decide) rfl) rfl rfl hl.1 rfl (lv_room (Nat.le_of_ble_eq_true rfl)) dX10_readCondition_49 ⟨Nat.le_of_ble_eq_true rfl, Nat.le_of_ble_eq_true rfl⟩) 0 0 (Nat.le_of_ble_eq_true rfl) (Nat.le_of_ble_eq_true rfl) (fun rr_281 S_282 H locs hp hw hfr hnw => ?_)
          obtain ⟨hk_283, hp⟩ := hp
          have hO_284 : Ok MLc S S_282 := hO_24.call hk_283 (by decide +kernel)
          rcases hp with ⟨f_285, er_286⟩ | ⟨f_285, er_286⟩ <;> subst er_286
          · have z_b_287 := trivial
            exact f_285.elim
          · have z_b_288 := trivial
            exact ret_z X hw hr hlocks (Nat.le_of_ble_eq_true rfl) (Nat.le_of_ble_eq_true rfl) (by decide) ⟨hO_284, Or.inr ⟨⟨fun h => by rcases h.2.1 with h | h | h; exact f_31 h; exact f_115 h; exact f_199 h, f_285⟩, rfl⟩⟩ dX10_readCondition_52
  · have z_b_289 := trivial
    have k_290 : rr_5.toInt = (-1) := z_eq rfl ti_m1 c_10
    refine lv_aload_n X.1 X.2.1 dX10_readCondition_10 rfl (lv_at hl 1 rfl) ?_
    refine lv_iconst (v := 1) X.1 X.2.1 dX10_readCondition_11 (by decide) ?_
    refine k_i (rm := { frames := 1, cells := 0, slots := 0, locals := 48 }) (av := [.ref x, .int 1]) X hw (va_runV (As := [.int 1]) (rest := []) (cfix X) (k_X10_fail2 l G cy κ S _ x (1) (1) hO.1 ha_x ti_1) (cwV 1 X.2.2.2.1 gX10_readCondition_X10_fail rfl rfl rfl (by decide +kernel) ⟨Nat.le_of_ble_eq_true rfl, Nat.le_of_ble_eq_true rfl⟩) (pre_V X hw _ ha_x rfl (by decide) rfl) rfl rfl hl.1 rfl (lv_room (Nat.le_of_ble_eq_true rfl)) dX10_readCondition_12 ⟨Nat.le_of_ble_eq_true rfl, Nat.le_of_ble_eq_true rfl⟩) 0 0 (Nat.le_of_ble_eq_true rfl) (Nat.le_of_ble_eq_true rfl) (fun rr_291 S_292 H locs hp hw hfr hnw => ?_)
    obtain ⟨hk_293, hp⟩ := hp
    have hO_294 : Ok MLc S S_292 := hO.call hk_293 (by decide +kernel)
    rcases hp with ⟨f_295, er_296⟩ | ⟨f_295, er_296⟩ <;> subst er_296
    · have z_b_297 := trivial
      exact f_295.elim
    · have z_b_298 := trivial
      exact ret_z X hw hr hlocks (Nat.le_of_ble_eq_true rfl) (Nat.le_of_ble_eq_true rfl) (by decide) ⟨hO_294, Or.inr ⟨⟨fun h => h.1 (by omega), f_295⟩, rfl⟩⟩ dX10_readCondition_15
set_option maxHeartbeats 4000000 in
set_option maxRecDepth 100000 in
theorem k_X10_readAct2 (l : Launch) (G : va_G) (cy : Nat → ClassId) (κ : Nat → Nat) (S : PS) (sz : Nat) (x : Nat) (r1 : Nat) (t0 : Tk) (hG : GX S) (ha_x : At S x 10) (ha_r1 : At S r1 6) (hp_0 : GB (tB S x) (pI S 1000 x).toInt.toNat S x t0) (hp_1 : (pI S 600 r1).toInt < 12) : Ci l yX10_readAct wsX10_readAct ({ frames := 7, cells := 0, slots := 0, locals := 336 }) G cy κ S sz [.ref x, .ref r1] (fun (r : Int32) (S9 : PS) => Ok MLr S S9 ∧ ((((acF (tB S x) (pI S 1000 x).toInt.toNat t0).1 = 0 ∧ GB (tB S x) (pI S 1000 x).toInt.toNat S9 x (acF (tB S x) (pI S 1000 x).toInt.toNat t0).2 ∧ (pI S9 600 r1).toInt = (pI S 600 r1).toInt + 1) ∧ r = 1) ∨ (((acF (tB S x) (pI S 1000 x).toInt.toNat t0).1 ≠ 0 ∧ (pI S9 1001 x).toInt = (acF (tB S x) (pI S 1000 x).toInt.toNat t0).1) ∧ r = 0))) := by
  refine ent_m (cc := cX10_readAct) (maxL := 4) (ret := (some .boolean)) (by decide) rfl (Nat.le_of_ble_eq_true rfl) ?_
  intro p e s m below meth c ls X hr hlocks hin hw hl hsz
  subst hsz
  have X : Cx p c cX10_readAct 4 s [.ref x, .ref r1].toArray wsX10_readAct RX10 m G cy κ (AS S s.heap.size) := X
  have hl : lv_has ls 4 [(0, .ref x), (1, .ref r1)] := hl
  have hO : Ok MLr S S := Ok.rf hG
  have hok := hdI (GB_ok hG ha_x hp_0)
  have hok1 : t0.2.1 ≤ t0.2.2 ∧ t0.2.2 ≤ 400 := ⟨(hdE hok).1, (hdE hok).2.1⟩
  obtain ⟨v_1, ev_1⟩ : ∃ v, pI S 600 r1 = v := ⟨_, rfl⟩
  have rg_2 := gI_6_600 hO.1 ha_r1; rw [ev_1] at rg_2
  have pz_3 : (pI S 600 r1).toInt = v_1.toInt := by rw [ev_1]
  have pz_4 : (pI S 600 r1).toInt = v_1.toInt := (congrArg Int32.toInt ev_1).trans rfl
  refine lv_aload_n X.1 X.2.1 dX10_readAct_0 rfl (lv_at hl 0 rfl) ?_
  refine k_i (rm := { frames := 6, cells := 0, slots := 0, locals := 288 }) (av := [.ref x]) X hw (va_runV (As := []) (rest := []) (cfix X) (k_X10_actAtHand2 l G cy κ S _ x t0 hO.1 ha_x hp_0.1 (by first | assumption | omega) (by first | assumption | omega)) (cwV 0 X.2.2.2.1 gX10_readAct_X10_actAtHand rfl rfl rfl (by decide +kernel) ⟨Nat.le_of_ble_eq_true rfl, Nat.le_of_ble_eq_true rfl⟩) (pre_V X hw _ ha_x rfl (by decide) rfl) rfl rfl hl.1 rfl (lv_room (Nat.le_of_ble_eq_true rfl)) dX10_readAct_1 ⟨Nat.le_of_ble_eq_true rfl, Nat.le_of_ble_eq_true rfl⟩) 0 0 (Nat.le_of_ble_eq_true rfl) (Nat.le_of_ble_eq_true rfl) (fun rr_5 S_6 H locs hp hw hfr hnw => ?_)
  obtain ⟨e2, hp⟩ := hp
  subst e2
  obtain ⟨wh_7, wh_8, wh_9⟩ := hp
  refine lv_istore_n (lv' := [(2, .int (rr_5)), (0, .ref x), (1, .ref r1)]) X.1 X.2.1 dX10_readAct_4 rfl hl (by decide) rfl (fun ls hl => ?_)
  refine lv_iload_n X.1 X.2.1 dX10_readAct_5 rfl (lv_at hl 0 rfl) ?_
  refine lv_iconst (v := (-1)) X.1 X.2.1 dX10_readAct_6 (by decide) ?_
  refine lv_icmp_ne (tgt := 16) X.1 X.2.1 dX10_readAct_7 (by decide) (fun c_10 => ?_) (fun c_10 => ?_)
  · have z_b_11 := trivial
    have k_12 : rr_5.toInt ≠ (-1) := z_ne rfl ti_m1 c_10
    refine lv_aload_n X.1 X.2.1 dX10_readAct_16 rfl (lv_at hl 1 rfl) ?_
    have ok_13 := hdI (GB_ok hG ha_x hp_0)
    have ok_14 : (t0).2.1 ≤ (t0).2.2 ∧ (t0).2.2 ≤ 400 := ⟨(hdE ok_13).1, (hdE ok_13).2.1⟩
    obtain ⟨v_15, ev_15⟩ : ∃ v, pI S 1006 x = v := ⟨_, rfl⟩
    have rg_17 := And.intro (z_lo v_15) (z_hi v_15)
    have pz_18 : (pI S 1006 x).toInt = v_15.toInt := by rw [ev_15]
    have pz_19 : (pI S 1006 x).toInt = v_15.toInt := (congrArg Int32.toInt ev_15).trans rfl
    have te_20 := hp_0.1.2.2
    refine k_v (rm := { frames := 2, cells := 0, slots := 0, locals := 96 }) (av := [.ref x]) X hw (va_runV (As := []) (rest := []) (cfix X) (k_X10_advance2 l G cy κ S _ x hO.1 ha_x (by omega) (by omega)) (cwV 0 X.2.2.2.1 gX10_readAct_X10_advance rfl rfl rfl (by decide +kernel) ⟨Nat.le_of_ble_eq_true rfl, Nat.le_of_ble_eq_true rfl⟩) (pre_V X hw _ ha_x rfl (by decide) rfl) rfl rfl hl.1 rfl (lv_room (Nat.le_of_ble_eq_true rfl)) dX10_readAct_17 ⟨Nat.le_of_ble_eq_true rfl, Nat.le_of_ble_eq_true rfl⟩) 0 0 (Nat.le_of_ble_eq_true rfl) (Nat.le_of_ble_eq_true rfl) (fun S_22 H locs hp hw hfr hnw => ?_)
    obtain ⟨hk_23, hp⟩ := hp
    have hO_24 : Ok MLr S S_22 := hO.call hk_23 (by decide +kernel)
    have gb_25 : GB (tB S x) (pI S 1000 x).toInt.toNat S_22 x (nxT (tB S x) (pI S 1000 x).toInt.toNat t0) := GB_adv hp_0 rfl rfl (by omega) hp.1
    have ok_26 := hdI (GB_ok hG ha_x gb_25)
    have ok_27 : ((nxT (tB S x) (pI S 1000 x).toInt.toNat t0)).2.1 ≤ ((nxT (tB S x) (pI S 1000 x).toInt.toNat t0)).2.2 ∧ ((nxT (tB S x) (pI S 1000 x).toInt.toNat t0)).2.2 ≤ 400 := ⟨(hdE ok_26).1, (hdE ok_26).2.1⟩
    refine lv_iconst (v := 0) X.1 X.2.1 dX10_readAct_20 (by decide) ?_
    refine lv_istore_n (lv' := [(3, .int 0), (2, .int (rr_5)), (0, .ref x), (1, .ref r1)]) X.1 X.2.1 dX10_readAct_21 rfl hl (by decide) rfl (fun ls hl => ?_)
    refine lv_iload_n X.1 X.2.1 dX10_readAct_22 rfl (lv_at hl 1 rfl) ?_
    refine lv_iconst (v := 5) X.1 X.2.1 dX10_readAct_23 (by decide) ?_
    refine lv_icmp_ne (tgt := 50) X.1 X.2.1 dX10_readAct_24 (by decide) (fun c_28 => ?_) (fun c_28 => ?_)
    · have z_b_29 := trivial
      have k_30 : rr_5.toInt ≠ 5 := z_ne rfl ti_5 c_28
      refine lv_aload_n X.1 X.2.1 dX10_readAct_50 rfl (lv_at hl 2 rfl) ?_
      refine lv_bipush (v := 59) X.1 X.2.1 dX10_readAct_51 (by decide) ?_
      have t_31 : At S_22 x 10 := hk_23.fr.at ha_x
      refine k_i (rm := { frames := 2, cells := 0, slots := 0, locals := 96 }) (av := [.ref x, .int 59]) X hw (va_runV (As := [.int 59]) (rest := []) (cfix X) (k_X10_isSign2 l G cy κ S_22 _ x (59) (59) (nxT (tB S x) (pI S 1000 x).toInt.toNat t0) hO_24.1 t_31 ti_59 gb_25.1) (cwV 1 X.2.2.2.1 gX10_readAct_X10_isSign rfl rfl rfl (by decide +kernel) ⟨Nat.le_of_ble_eq_true rfl, Nat.le_of_ble_eq_true rfl⟩) (pre_V X hw _ t_31 rfl (by decide) rfl) rfl rfl hl.1 rfl (lv_room (Nat.le_of_ble_eq_true rfl)) dX10_readAct_53 ⟨Nat.le_of_ble_eq_true rfl, Nat.le_of_ble_eq_true rfl⟩) 0 0 (Nat.le_of_ble_eq_true rfl) (Nat.le_of_ble_eq_true rfl) (fun rr_32 S_33 H locs hp hw hfr hnw => ?_)
      obtain ⟨e2, hp⟩ := hp
      subst e2
      rcases hp with ⟨f_34, er_35⟩ | ⟨f_34, er_35⟩ <;> subst er_35
      · have z_b_36 := trivial
        rw [tB_fr hG ha_x hO_24.fr (by decide +kernel)] at f_34
        refine lv_if_ne (tgt := 65) X.1 X.2.1 dX10_readAct_56 (by decide) (fun c_37 => ?_) (fun c_37 => absurd c_37 (by decide))
        refine lv_aload_n X.1 X.2.1 dX10_readAct_65 rfl (lv_at hl 2 rfl) ?_
        have ok_38 := hdI (GB_ok hG ha_x gb_25)
        have ok_39 : ((nxT (tB S x) (pI S 1000 x).toInt.toNat t0)).2.1 ≤ ((nxT (tB S x) (pI S 1000 x).toInt.toNat t0)).2.2 ∧ ((nxT (tB S x) (pI S 1000 x).toInt.toNat t0)).2.2 ≤ 400 := ⟨(hdE ok_38).1, (hdE ok_38).2.1⟩
        obtain ⟨v_41, ev_41⟩ : ∃ v, pI S_22 1006 x = v := ⟨_, rfl⟩
        have rg_43 := And.intro (z_lo v_41) (z_hi v_41)
        have pz_44 : (pI S_22 1006 x).toInt = v_41.toInt := by rw [ev_41]
        have pz_45 : (pI S_22 1006 x).toInt = v_41.toInt := (congrArg Int32.toInt ev_41).trans rfl
        have te_46 := gb_25.1.2.2
        refine k_v (rm := { frames := 2, cells := 0, slots := 0, locals := 96 }) (av := [.ref x]) X hw (va_runV (As := []) (rest := []) (cfix X) (k_X10_advance2 l G cy κ S_22 _ x hO_24.1 t_31 (by omega) (by omega)) (cwV 0 X.2.2.2.1 gX10_readAct_X10_advance rfl rfl rfl (by decide +kernel) ⟨Nat.le_of_ble_eq_true rfl, Nat.le_of_ble_eq_true rfl⟩) (pre_V X hw _ t_31 rfl (by decide) rfl) rfl rfl hl.1 rfl (lv_room (Nat.le_of_ble_eq_true rfl)) dX10_readAct_66 ⟨Nat.le_of_ble_eq_true rfl, Nat.le_of_ble_eq_true rfl⟩) 0 0 (Nat.le_of_ble_eq_true rfl) (Nat.le_of_ble_eq_true rfl) (fun S_48 H locs hp hw hfr hnw => ?_)
        obtain ⟨hk_49, hp⟩ := hp
        have hO_50 : Ok MLr S S_48 := hO_24.call hk_49 (by decide +kernel)
        have gb_51 : GB (tB S x) (pI S 1000 x).toInt.toNat S_48 x (nxT (tB S x) (pI S 1000 x).toInt.toNat (nxT (tB S x) (pI S 1000 x).toInt.toNat t0)) := GB_adv gb_25 (tB_fr hG ha_x hO_24.fr (by decide +kernel)) (by rw [hO_24.fr.I' (g := 1000) (by decide +kernel) ha_x rfl]) (by omega) hp.1
        have ok_52 := hdI (GB_ok hG ha_x gb_51)
        have ok_53 : ((nxT (tB S x) (pI S 1000 x).toInt.toNat (nxT (tB S x) (pI S 1000 x).toInt.toNat t0))).2.1 ≤ ((nxT (tB S x) (pI S 1000 x).toInt.toNat (nxT (tB S x) (pI S 1000 x).toInt.toNat t0))).2.2 ∧ ((nxT (tB S x) (pI S 1000 x).toInt.toNat (nxT (tB S x) (pI S 1000 x).toInt.toNat t0))).2.2 ≤ 400 := ⟨(hdE ok_52).1, (hdE ok_52).2.1⟩
        refine lv_aload_n X.1 X.2.1 dX10_readAct_69 rfl (lv_at hl 3 rfl) ?_
        refine lv_iload_n X.1 X.2.1 dX10_readAct_70 rfl (lv_at hl 1 rfl) ?_
        refine lv_iload_n X.1 X.2.1 dX10_readAct_71 rfl (lv_at hl 0 rfl) ?_
        have t_54 : pI S_22 600 r1 = v_1 := hk_23.fr.I' (by decide +kernel) ha_r1 ev_1
        have t_56 : At S_22 r1 6 := hk_23.fr.at ha_r1
        have t_55 : pI S_48 600 r1 = v_1 := hk_49.fr.I' (by decide +kernel) t_56 t_54
        have pz_57 : (pI S_48 600 r1).toInt = v_1.toInt := (congrArg Int32.toInt t_55).trans rfl
        have t_58 : At S_48 r1 6 := hk_49.fr.at t_56
        refine k_v (rm := { frames := 1, cells := 0, slots := 0, locals := 48 }) (av := [.ref r1, .int (rr_5), .int 0]) X hw (va_runV (As := [.int (rr_5), .int 0]) (rest := []) (cfix X) (k_X6_closeRule2 l G cy κ S_48 _ r1 (rr_5) (rr_5.toInt) (0) (0) hO_50.1 t_58 rfl ti_0 (by omega)) (cwV 2 X.2.2.2.1 gX10_readAct_X6_closeRule rfl rfl rfl (by decide +kernel) ⟨Nat.le_of_ble_eq_true rfl, Nat.le_of_ble_eq_true rfl⟩) (pre_V X hw _ t_58 rfl (by decide) rfl) rfl rfl hl.1 rfl (lv_room (Nat.le_of_ble_eq_true rfl)) dX10_readAct_72 ⟨Nat.le_of_ble_eq_true rfl, Nat.le_of_ble_eq_true rfl⟩) 0 0 (Nat.le_of_ble_eq_true rfl) (Nat.le_of_ble_eq_true rfl) (fun S_60 H locs hp hw hfr hnw => ?_)
        obtain ⟨hk_61, hp⟩ := hp
        have hO_62 : Ok MLr S S_60 := hO_50.call hk_61 (by decide +kernel)
        have cl_63 := hp
        refine lv_iconst (v := 1) X.1 X.2.1 dX10_readAct_75 (by decide) ?_
        have ea_64 : acF (tB S x) (pI S 1000 x).toInt.toNat t0 = (0, nxT (tB S x) (pI S 1000 x).toInt.toNat (nxT (tB S x) (pI S 1000 x).toInt.toNat t0)) := (cit_n (by omega)).trans ((cit_n (by omega)).trans (cit_y f_34))
        obtain ⟨v_66, ev_66⟩ : ∃ v, pI S_60 600 r1 = v := ⟨_, rfl⟩
        have t_68 : At S_60 r1 6 := hk_61.fr.at t_58
        have rg_67 := gI_6_600 hO_62.1 t_68; rw [ev_66] at rg_67
        have pz_69 : (pI S_60 600 r1).toInt = v_66.toInt := by rw [ev_66]
        have pz_70 : (pI S_60 600 r1).toInt = v_66.toInt := (congrArg Int32.toInt ev_66).trans rfl
        have t_72 : At S_48 x 10 := hk_49.fr.at t_31
        have gb_71 := GB_fr gb_51 t_72 hk_61.fr (by decide +kernel)
        exact ret_z X hw hr hlocks (Nat.le_of_ble_eq_true rfl) (Nat.le_of_ble_eq_true rfl) (by decide) ⟨hO_62, Or.inl ⟨by rw [ea_64]; exact ⟨rfl, gb_71, by omega⟩, rfl⟩⟩ dX10_readAct_76
      · have z_b_73 := trivial
        rw [tB_fr hG ha_x hO_24.fr (by decide +kernel)] at f_34
        refine lv_if_ne (tgt := 65) X.1 X.2.1 dX10_readAct_56 (by decide) (fun c_74 => absurd c_74 (by decide)) (fun c_74 => ?_)
        refine lv_aload_n X.1 X.2.1 dX10_readAct_59 rfl (lv_at hl 2 rfl) ?_
        refine lv_iconst (v := 1) X.1 X.2.1 dX10_readAct_60 (by decide) ?_
        refine k_i (rm := { frames := 1, cells := 0, slots := 0, locals := 48 }) (av := [.ref x, .int 1]) X hw (va_runV (As := [.int 1]) (rest := []) (cfix X) (k_X10_fail2 l G cy κ S_22 _ x (1) (1) hO_24.1 t_31 ti_1) (cwV 1 X.2.2.2.1 gX10_readAct_X10_fail rfl rfl rfl (by decide +kernel) ⟨Nat.le_of_ble_eq_true rfl, Nat.le_of_ble_eq_true rfl⟩) (pre_V X hw _ t_31 rfl (by decide) rfl) rfl rfl hl.1 rfl (lv_room (Nat.le_of_ble_eq_true rfl)) dX10_readAct_61 ⟨Nat.le_of_ble_eq_true rfl, Nat.le_of_ble_eq_true rfl⟩) 0 0 (Nat.le_of_ble_eq_true rfl) (Nat.le_of_ble_eq_true rfl) (fun rr_75 S_76 H locs hp hw hfr hnw => ?_)
        obtain ⟨hk_77, hp⟩ := hp
        have hO_78 : Ok MLr S S_76 := hO_24.call hk_77 (by decide +kernel)
        rcases hp with ⟨f_79, er_80⟩ | ⟨f_79, er_80⟩ <;> subst er_80
        · have z_b_81 := trivial
          exact f_79.elim
        · have z_b_82 := trivial
          have ea_83 : acF (tB S x) (pI S 1000 x).toInt.toNat t0 = (1, (nxT (tB S x) (pI S 1000 x).toInt.toNat t0)) := (cit_n (by omega)).trans ((cit_n (by omega)).trans (cit_n f_34))
          exact ret_z X hw hr hlocks (Nat.le_of_ble_eq_true rfl) (Nat.le_of_ble_eq_true rfl) (by decide) ⟨hO_78, Or.inr ⟨by rw [ea_83]; exact ⟨(by decide : (1 : Int) ≠ 0), f_79⟩, rfl⟩⟩ dX10_readAct_64
    · have z_b_84 := trivial
      have k_85 : rr_5.toInt = 5 := z_eq rfl ti_5 c_28
      refine lv_aload_n X.1 X.2.1 dX10_readAct_27 rfl (lv_at hl 2 rfl) ?_
      obtain ⟨v_86, ev_86⟩ : ∃ v, pI S_22 1004 x = v := ⟨_, rfl⟩
      have rg_88 := And.intro (z_lo v_86) (z_hi v_86)
      have pz_89 : (pI S_22 1004 x).toInt = v_86.toInt := by rw [ev_86]
      have pz_90 : (pI S_22 1004 x).toInt = v_86.toInt := (congrArg Int32.toInt ev_86).trans rfl
      have tk_91 := gb_25.1.1
      have t_92 : At S_22 x 10 := hk_23.fr.at ha_x
      refine r_getI (g := 1004) (x := v_86) X hw t_92 rfl 4 ev_86 (by decide) rfl inn_X10_readAct_10 (by decide) (X.2.2.2.1 (.fieldLink RX10 37 "SilkMill$Tape" "token" "I") (by decide +kernel)) rfl (gv_1004 _ _) dX10_readAct_28 ?_
      refine lv_iconst (v := 2) X.1 X.2.1 dX10_readAct_31 (by decide) ?_
      refine lv_icmp_eq (tgt := 41) X.1 X.2.1 dX10_readAct_32 (by decide) (fun c_93 => ?_) (fun c_93 => ?_)
      · have z_b_94 := trivial
        have k_95 : v_86.toInt = 2 := z_eq rfl ti_2 c_93
        refine lv_aload_n X.1 X.2.1 dX10_readAct_41 rfl (lv_at hl 2 rfl) ?_
        have k2_96 := (hdE ok_26).2.2.1 (by omega)
        refine k_i (rm := { frames := 2, cells := 0, slots := 0, locals := 96 }) (av := [.ref x]) X hw (va_runV (As := []) (rest := []) (cfix X) (k_X10_numberAtHand2 l G cy κ S_22 _ x (nxT (tB S x) (pI S 1000 x).toInt.toNat t0) hO_24.1 t_92 gb_25.1 (hdE ok_26).1 (hdE ok_26).2.1 k2_96.1 (by rw [tB_fr hG ha_x hO_24.fr (by decide +kernel)]; exact k2_96.2)) (cwV 0 X.2.2.2.1 gX10_readAct_X10_numberAtHand rfl rfl rfl (by decide +kernel) ⟨Nat.le_of_ble_eq_true rfl, Nat.le_of_ble_eq_true rfl⟩) (pre_V X hw _ t_92 rfl (by decide) rfl) rfl rfl hl.1 rfl (lv_room (Nat.le_of_ble_eq_true rfl)) dX10_readAct_42 ⟨Nat.le_of_ble_eq_true rfl, Nat.le_of_ble_eq_true rfl⟩) 0 0 (Nat.le_of_ble_eq_true rfl) (Nat.le_of_ble_eq_true rfl) (fun rr_97 S_98 H locs hp hw hfr hnw => ?_)
        obtain ⟨e2, hp⟩ := hp
        subst e2
        obtain ⟨f_99, f_100, f_101⟩ := hp
        refine lv_istore_n (lv' := [(3, .int (rr_97)), (2, .int (rr_5)), (0, .ref x), (1, .ref r1)]) X.1 X.2.1 dX10_readAct_45 rfl hl (by decide) rfl (fun ls hl => ?_)
        refine lv_aload_n X.1 X.2.1 dX10_readAct_46 rfl (lv_at hl 2 rfl) ?_
        have ok_102 := hdI (GB_ok hG ha_x gb_25)
        have ok_103 : ((nxT (tB S x) (pI S 1000 x).toInt.toNat t0)).2.1 ≤ ((nxT (tB S x) (pI S 1000 x).toInt.toNat t0)).2.2 ∧ ((nxT (tB S x) (pI S 1000 x).toInt.toNat t0)).2.2 ≤ 400 := ⟨(hdE ok_102).1, (hdE ok_102).2.1⟩
        obtain ⟨v_105, ev_105⟩ : ∃ v, pI S_22 1006 x = v := ⟨_, rfl⟩
        have rg_107 := And.intro (z_lo v_105) (z_hi v_105)
        have pz_108 : (pI S_22 1006 x).toInt = v_105.toInt := by rw [ev_105]
        have pz_109 : (pI S_22 1006 x).toInt = v_105.toInt := (congrArg Int32.toInt ev_105).trans rfl
        have te_110 := gb_25.1.2.2
        refine k_v (rm := { frames := 2, cells := 0, slots := 0, locals := 96 }) (av := [.ref x]) X hw (va_runV (As := []) (rest := []) (cfix X) (k_X10_advance2 l G cy κ S_22 _ x hO_24.1 t_92 (by omega) (by omega)) (cwV 0 X.2.2.2.1 gX10_readAct_X10_advance rfl rfl rfl (by decide +kernel) ⟨Nat.le_of_ble_eq_true rfl, Nat.le_of_ble_eq_true rfl⟩) (pre_V X hw _ t_92 rfl (by decide) rfl) rfl rfl hl.1 rfl (lv_room (Nat.le_of_ble_eq_true rfl)) dX10_readAct_47 ⟨Nat.le_of_ble_eq_true rfl, Nat.le_of_ble_eq_true rfl⟩) 0 0 (Nat.le_of_ble_eq_true rfl) (Nat.le_of_ble_eq_true rfl) (fun S_112 H locs hp hw hfr hnw => ?_)
        obtain ⟨hk_113, hp⟩ := hp
        have hO_114 : Ok MLr S S_112 := hO_24.call hk_113 (by decide +kernel)
        have gb_115 : GB (tB S x) (pI S 1000 x).toInt.toNat S_112 x (nxT (tB S x) (pI S 1000 x).toInt.toNat (nxT (tB S x) (pI S 1000 x).toInt.toNat t0)) := GB_adv gb_25 (tB_fr hG ha_x hO_24.fr (by decide +kernel)) (by rw [hO_24.fr.I' (g := 1000) (by decide +kernel) ha_x rfl]) (by omega) hp.1
        have ok_116 := hdI (GB_ok hG ha_x gb_115)
        have ok_117 : ((nxT (tB S x) (pI S 1000 x).toInt.toNat (nxT (tB S x) (pI S 1000 x).toInt.toNat t0))).2.1 ≤ ((nxT (tB S x) (pI S 1000 x).toInt.toNat (nxT (tB S x) (pI S 1000 x).toInt.toNat t0))).2.2 ∧ ((nxT (tB S x) (pI S 1000 x).toInt.toNat (nxT (tB S x) (pI S 1000 x).toInt.toNat t0))).2.2 ≤ 400 := ⟨(hdE ok_116).1, (hdE ok_116).2.1⟩
        refine lv_aload_n X.1 X.2.1 dX10_readAct_50 rfl (lv_at hl 2 rfl) ?_
        refine lv_bipush (v := 59) X.1 X.2.1 dX10_readAct_51 (by decide) ?_
        have t_118 : At S_112 x 10 := hk_113.fr.at t_92
        refine k_i (rm := { frames := 2, cells := 0, slots := 0, locals := 96 }) (av := [.ref x, .int 59]) X hw (va_runV (As := [.int 59]) (rest := []) (cfix X) (k_X10_isSign2 l G cy κ S_112 _ x (59) (59) (nxT (tB S x) (pI S 1000 x).toInt.toNat (nxT (tB S x) (pI S 1000 x).toInt.toNat t0)) hO_114.1 t_118 ti_59 gb_115.1) (cwV 1 X.2.2.2.1 gX10_readAct_X10_isSign rfl rfl rfl (by decide +kernel) ⟨Nat.le_of_ble_eq_true rfl, Nat.le_of_ble_eq_true rfl⟩) (pre_V X hw _ t_118 rfl (by decide) rfl) rfl rfl hl.1 rfl (lv_room (Nat.le_of_ble_eq_true rfl)) dX10_readAct_53 ⟨Nat.le_of_ble_eq_true rfl, Nat.le_of_ble_eq_true rfl⟩) 0 0 (Nat.le_of_ble_eq_true rfl) (Nat.le_of_ble_eq_true rfl) (fun rr_119 S_120 H locs hp hw hfr hnw => ?_)
        obtain ⟨e2, hp⟩ := hp
        subst e2
        rcases hp with ⟨f_121, er_122⟩ | ⟨f_121, er_122⟩ <;> subst er_122
        · have z_b_123 := trivial
          rw [tB_fr hG ha_x hO_114.fr (by decide +kernel)] at f_121
          refine lv_if_ne (tgt := 65) X.1 X.2.1 dX10_readAct_56 (by decide) (fun c_124 => ?_) (fun c_124 => absurd c_124 (by decide))
          refine lv_aload_n X.1 X.2.1 dX10_readAct_65 rfl (lv_at hl 2 rfl) ?_
          have ok_125 := hdI (GB_ok hG ha_x gb_115)
          have ok_126 : ((nxT (tB S x) (pI S 1000 x).toInt.toNat (nxT (tB S x) (pI S 1000 x).toInt.toNat t0))).2.1 ≤ ((nxT (tB S x) (pI S 1000 x).toInt.toNat (nxT (tB S x) (pI S 1000 x).toInt.toNat t0))).2.2 ∧ ((nxT (tB S x) (pI S 1000 x).toInt.toNat (nxT (tB S x) (pI S 1000 x).toInt.toNat t0))).2.2 ≤ 400 := ⟨(hdE ok_125).1, (hdE ok_125).2.1⟩
          obtain ⟨v_128, ev_128⟩ : ∃ v, pI S_112 1006 x = v := ⟨_, rfl⟩
          have rg_130 := And.intro (z_lo v_128) (z_hi v_128)
          have pz_131 : (pI S_112 1006 x).toInt = v_128.toInt := by rw [ev_128]
          have pz_132 : (pI S_112 1006 x).toInt = v_128.toInt := (congrArg Int32.toInt ev_128).trans rfl
          have te_133 := gb_115.1.2.2
          refine k_v (rm := { frames := 2, cells := 0, slots := 0, locals := 96 }) (av := [.ref x]) X hw (va_runV (As := []) (rest := []) (cfix X) (k_X10_advance2 l G cy κ S_112 _ x hO_114.1 t_118 (by omega) (by omega)) (cwV 0 X.2.2.2.1 gX10_readAct_X10_advance rfl rfl rfl (by decide +kernel) ⟨Nat.le_of_ble_eq_true rfl, Nat.le_of_ble_eq_true rfl⟩) (pre_V X hw _ t_118 rfl (by decide) rfl) rfl rfl hl.1 rfl (lv_room (Nat.le_of_ble_eq_true rfl)) dX10_readAct_66 ⟨Nat.le_of_ble_eq_true rfl, Nat.le_of_ble_eq_true rfl⟩) 0 0 (Nat.le_of_ble_eq_true rfl) (Nat.le_of_ble_eq_true rfl) (fun S_135 H locs hp hw hfr hnw => ?_)
          obtain ⟨hk_136, hp⟩ := hp
          have hO_137 : Ok MLr S S_135 := hO_114.call hk_136 (by decide +kernel)
          have gb_138 : GB (tB S x) (pI S 1000 x).toInt.toNat S_135 x (nxT (tB S x) (pI S 1000 x).toInt.toNat (nxT (tB S x) (pI S 1000 x).toInt.toNat (nxT (tB S x) (pI S 1000 x).toInt.toNat t0))) := GB_adv gb_115 (tB_fr hG ha_x hO_114.fr (by decide +kernel)) (by rw [hO_114.fr.I' (g := 1000) (by decide +kernel) ha_x rfl]) (by omega) hp.1
          have ok_139 := hdI (GB_ok hG ha_x gb_138)
          have ok_140 : ((nxT (tB S x) (pI S 1000 x).toInt.toNat (nxT (tB S x) (pI S 1000 x).toInt.toNat (nxT (tB S x) (pI S 1000 x).toInt.toNat t0)))).2.1 ≤ ((nxT (tB S x) (pI S 1000 x).toInt.toNat (nxT (tB S x) (pI S 1000 x).toInt.toNat (nxT (tB S x) (pI S 1000 x).toInt.toNat t0)))).2.2 ∧ ((nxT (tB S x) (pI S 1000 x).toInt.toNat (nxT (tB S x) (pI S 1000 x).toInt.toNat (nxT (tB S x) (pI S 1000 x).toInt.toNat t0)))).2.2 ≤ 400 := ⟨(hdE ok_139).1, (hdE ok_139).2.1⟩
          refine lv_aload_n X.1 X.2.1 dX10_readAct_69 rfl (lv_at hl 3 rfl) ?_
          refine lv_iload_n X.1 X.2.1 dX10_readAct_70 rfl (lv_at hl 1 rfl) ?_
          refine lv_iload_n X.1 X.2.1 dX10_readAct_71 rfl (lv_at hl 0 rfl) ?_
          have t_141 : pI S_22 600 r1 = v_1 := hk_23.fr.I' (by decide +kernel) ha_r1 ev_1
          have t_143 : At S_22 r1 6 := hk_23.fr.at ha_r1
          have t_142 : pI S_112 600 r1 = v_1 := hk_113.fr.I' (by decide +kernel) t_143 t_141
          have t_145 : At S_112 r1 6 := hk_113.fr.at t_143
          have t_144 : pI S_135 600 r1 = v_1 := hk_136.fr.I' (by decide +kernel) t_145 t_142
          have pz_146 : (pI S_135 600 r1).toInt = v_1.toInt := (congrArg Int32.toInt t_144).trans rfl
          have t_147 : At S_135 r1 6 := hk_136.fr.at t_145
          refine k_v (rm := { frames := 1, cells := 0, slots := 0, locals := 48 }) (av := [.ref r1, .int (rr_5), .int (rr_97)]) X hw (va_runV (As := [.int (rr_5), .int (rr_97)]) (rest := []) (cfix X) (k_X6_closeRule2 l G cy κ S_135 _ r1 (rr_5) (rr_5.toInt) (rr_97) (rr_97.toInt) hO_137.1 t_147 rfl rfl (by omega)) (cwV 2 X.2.2.2.1 gX10_readAct_X6_closeRule rfl rfl rfl (by decide +kernel) ⟨Nat.le_of_ble_eq_true rfl, Nat.le_of_ble_eq_true rfl⟩) (pre_V X hw _ t_147 rfl (by decide) rfl) rfl rfl hl.1 rfl (lv_room (Nat.le_of_ble_eq_true rfl)) dX10_readAct_72 ⟨Nat.le_of_ble_eq_true rfl, Nat.le_of_ble_eq_true rfl⟩) 0 0 (Nat.le_of_ble_eq_true rfl) (Nat.le_of_ble_eq_true rfl) (fun S_149 H locs hp hw hfr hnw => ?_)
          obtain ⟨hk_150, hp⟩ := hp
          have hO_151 : Ok MLr S S_149 := hO_137.call hk_150 (by decide +kernel)
          have cl_152 := hp
          refine lv_iconst (v := 1) X.1 X.2.1 dX10_readAct_75 (by decide) ?_
          have ea_153 : acF (tB S x) (pI S 1000 x).toInt.toNat t0 = (0, nxT (tB S x) (pI S 1000 x).toInt.toNat (nxT (tB S x) (pI S 1000 x).toInt.toNat (nxT (tB S x) (pI S 1000 x).toInt.toNat t0))) := (cit_n (by omega)).trans ((cit_y (by omega)).trans ((cit_y (by omega)).trans (cit_y f_121)))
          obtain ⟨v_155, ev_155⟩ : ∃ v, pI S_149 600 r1 = v := ⟨_, rfl⟩
          have t_157 : At S_149 r1 6 := hk_150.fr.at t_147
          have rg_156 := gI_6_600 hO_151.1 t_157; rw [ev_155] at rg_156
          have pz_158 : (pI S_149 600 r1).toInt = v_155.toInt := by rw [ev_155]
          have pz_159 : (pI S_149 600 r1).toInt = v_155.toInt := (congrArg Int32.toInt ev_155).trans rfl
          have t_161 : At S_135 x 10 := hk_136.fr.at t_118
          have gb_160 := GB_fr gb_138 t_161 hk_150.fr (by decide +kernel)
          exact ret_z X hw hr hlocks (Nat.le_of_ble_eq_true rfl) (Nat.le_of_ble_eq_true rfl) (by decide) ⟨hO_151, Or.inl ⟨by rw [ea_153]; exact ⟨rfl, gb_160, by omega⟩, rfl⟩⟩ dX10_readAct_76
        · have z_b_162 := trivial
          rw [tB_fr hG ha_x hO_114.fr (by decide +kernel)] at f_121
          refine lv_if_ne (tgt := 65) X.1 X.2.1 dX10_readAct_56 (by decide) (fun c_163 => absurd c_163 (by decide)) (fun c_163 => ?_)
          refine lv_aload_n X.1 X.2.1 dX10_readAct_59 rfl (lv_at hl 2 rfl) ?_
          refine lv_iconst (v := 1) X.1 X.2.1 dX10_readAct_60 (by decide) ?_
          refine k_i (rm := { frames := 1, cells := 0, slots := 0, locals := 48 }) (av := [.ref x, .int 1]) X hw (va_runV (As := [.int 1]) (rest := []) (cfix X) (k_X10_fail2 l G cy κ S_112 _ x (1) (1) hO_114.1 t_118 ti_1) (cwV 1 X.2.2.2.1 gX10_readAct_X10_fail rfl rfl rfl (by decide +kernel) ⟨Nat.le_of_ble_eq_true rfl, Nat.le_of_ble_eq_true rfl⟩) (pre_V X hw _ t_118 rfl (by decide) rfl) rfl rfl hl.1 rfl (lv_room (Nat.le_of_ble_eq_true rfl)) dX10_readAct_61 ⟨Nat.le_of_ble_eq_true rfl, Nat.le_of_ble_eq_true rfl⟩) 0 0 (Nat.le_of_ble_eq_true rfl) (Nat.le_of_ble_eq_true rfl) (fun rr_164 S_165 H locs hp hw hfr hnw => ?_)
          obtain ⟨hk_166, hp⟩ := hp
          have hO_167 : Ok MLr S S_165 := hO_114.call hk_166 (by decide +kernel)
          rcases hp with ⟨f_168, er_169⟩ | ⟨f_168, er_169⟩ <;> subst er_169
          · have z_b_170 := trivial
            exact f_168.elim
          · have z_b_171 := trivial
            have ea_172 : acF (tB S x) (pI S 1000 x).toInt.toNat t0 = (1, (nxT (tB S x) (pI S 1000 x).toInt.toNat (nxT (tB S x) (pI S 1000 x).toInt.toNat t0))) := (cit_n (by omega)).trans ((cit_y (by omega)).trans ((cit_y (by omega)).trans (cit_n f_121)))
            exact ret_z X hw hr hlocks (Nat.le_of_ble_eq_true rfl) (Nat.le_of_ble_eq_true rfl) (by decide) ⟨hO_167, Or.inr ⟨by rw [ea_172]; exact ⟨(by decide : (1 : Int) ≠ 0), f_168⟩, rfl⟩⟩ dX10_readAct_64
      · have z_b_173 := trivial
        have k_174 : v_86.toInt ≠ 2 := z_ne rfl ti_2 c_93
        refine lv_aload_n X.1 X.2.1 dX10_readAct_35 rfl (lv_at hl 2 rfl) ?_
        refine lv_iconst (v := 1) X.1 X.2.1 dX10_readAct_36 (by decide) ?_
        refine k_i (rm := { frames := 1, cells := 0, slots := 0, locals := 48 }) (av := [.ref x, .int 1]) X hw (va_runV (As := [.int 1]) (rest := []) (cfix X) (k_X10_fail2 l G cy κ S_22 _ x (1) (1) hO_24.1 t_92 ti_1) (cwV 1 X.2.2.2.1 gX10_readAct_X10_fail rfl rfl rfl (by decide +kernel) ⟨Nat.le_of_ble_eq_true rfl, Nat.le_of_ble_eq_true rfl⟩) (pre_V X hw _ t_92 rfl (by decide) rfl) rfl rfl hl.1 rfl (lv_room (Nat.le_of_ble_eq_true rfl)) dX10_readAct_37 ⟨Nat.le_of_ble_eq_true rfl, Nat.le_of_ble_eq_true rfl⟩) 0 0 (Nat.le_of_ble_eq_true rfl) (Nat.le_of_ble_eq_true rfl) (fun rr_175 S_176 H locs hp hw hfr hnw => ?_)
        obtain ⟨hk_177, hp⟩ := hp
        have hO_178 : Ok MLr S S_176 := hO_24.call hk_177 (by decide +kernel)
        rcases hp with ⟨f_179, er_180⟩ | ⟨f_179, er_180⟩ <;> subst er_180
        · have z_b_181 := trivial
          exact f_179.elim
        · have z_b_182 := trivial
          have ea_183 : acF (tB S x) (pI S 1000 x).toInt.toNat t0 = (1, t0) := (cit_n (by omega)).trans ((cit_y (by omega)).trans (cit_n (by omega)))
          exact ret_z X hw hr hlocks (Nat.le_of_ble_eq_true rfl) (Nat.le_of_ble_eq_true rfl) (by decide) ⟨hO_178, Or.inr ⟨by rw [ea_183]; exact ⟨(by decide : (1 : Int) ≠ 0), f_179⟩, rfl⟩⟩ dX10_readAct_40
  · have z_b_184 := trivial
    have k_185 : rr_5.toInt = (-1) := z_eq rfl ti_m1 c_10
    refine lv_aload_n X.1 X.2.1 dX10_readAct_10 rfl (lv_at hl 1 rfl) ?_
    refine lv_iconst (v := 1) X.1 X.2.1 dX10_readAct_11 (by decide) ?_
    refine k_i (rm := { frames := 1, cells := 0, slots := 0, locals := 48 }) (av := [.ref x, .int 1]) X hw (va_runV (As := [.int 1]) (rest := []) (cfix X) (k_X10_fail2 l G cy κ S _ x (1) (1) hO.1 ha_x ti_1) (cwV 1 X.2.2.2.1 gX10_readAct_X10_fail rfl rfl rfl (by decide +kernel) ⟨Nat.le_of_ble_eq_true rfl, Nat.le_of_ble_eq_true rfl⟩) (pre_V X hw _ ha_x rfl (by decide) rfl) rfl rfl hl.1 rfl (lv_room (Nat.le_of_ble_eq_true rfl)) dX10_readAct_12 ⟨Nat.le_of_ble_eq_true rfl, Nat.le_of_ble_eq_true rfl⟩) 0 0 (Nat.le_of_ble_eq_true rfl) (Nat.le_of_ble_eq_true rfl) (fun rr_186 S_187 H locs hp hw hfr hnw => ?_)
    obtain ⟨hk_188, hp⟩ := hp
    have hO_189 : Ok MLr S S_187 := hO.call hk_188 (by decide +kernel)
    rcases hp with ⟨f_190, er_191⟩ | ⟨f_190, er_191⟩ <;> subst er_191
    · have z_b_192 := trivial
      exact f_190.elim
    · have z_b_193 := trivial
      have ea_194 : acF (tB S x) (pI S 1000 x).toInt.toNat t0 = (1, t0) := cit_y (by omega)
      exact ret_z X hw hr hlocks (Nat.le_of_ble_eq_true rfl) (Nat.le_of_ble_eq_true rfl) (by decide) ⟨hO_189, Or.inr ⟨by rw [ea_194]; exact ⟨(by decide : (1 : Int) ≠ 0), f_190⟩, rfl⟩⟩ dX10_readAct_15
set_option maxHeartbeats 4000000 in
set_option maxRecDepth 100000 in
theorem k_X10_readConditions2 (l : Launch) (G : va_G) (cy : Nat → ClassId) (κ : Nat → Nat) (S : PS) (sz : Nat) (x : Nat) (r1 : Nat) (t0 : Tk) (hG : GX S) (ha_x : At S x 10) (ha_r1 : At S r1 6) (hp_0 : GB (tB S x) (pI S 1000 x).toInt.toNat S x t0) : Ci l yX10_readConditions wsX10_readConditions ({ frames := 8, cells := 0, slots := 0, locals := 384 }) G cy κ S sz [.ref x, .ref r1] (fun (r : Int32) (S9 : PS) => Ok MLc S S9 ∧ ((((csF (tB S x) (pI S 1000 x).toInt.toNat 4 t0).1 = 0 ∧ GB (tB S x) (pI S 1000 x).toInt.toNat S9 x (csF (tB S x) (pI S 1000 x).toInt.toNat 4 t0).2) ∧ r = 1) ∨ (((csF (tB S x) (pI S 1000 x).toInt.toNat 4 t0).1 ≠ 0 ∧ (pI S9 1001 x).toInt = (csF (tB S x) (pI S 1000 x).toInt.toNat 4 t0).1) ∧ r = 0))) := by
  refine ent_m (cc := cX10_readConditions) (maxL := 3) (ret := (some .boolean)) (by decide) rfl (Nat.le_of_ble_eq_true rfl) ?_
  intro p e s m below meth c ls X hr hlocks hin hw hl hsz
  subst hsz
  have X : Cx p c cX10_readConditions 3 s [.ref x, .ref r1].toArray wsX10_readConditions RX10 m G cy κ (AS S s.heap.size) := X
  have hl : lv_has ls 3 [(0, .ref x), (1, .ref r1)] := hl
  have hO : Ok MLc S S := Ok.rf hG
  generalize hQQ : MQ below _ _ _ _ _ _ = QQ
  replace hQQ := hQQ.symm
  have hok := hdI (GB_ok hG ha_x hp_0)
  have hok1 : t0.2.1 ≤ t0.2.2 ∧ t0.2.2 ≤ 400 := ⟨(hdE hok).1, (hdE hok).2.1⟩
  obtain ⟨v_1, ev_1⟩ : ∃ v, pI S 600 r1 = v := ⟨_, rfl⟩
  have rg_2 := gI_6_600 hO.1 ha_r1; rw [ev_1] at rg_2
  have pz_3 : (pI S 600 r1).toInt = v_1.toInt := by rw [ev_1]
  have pz_4 : (pI S 600 r1).toInt = v_1.toInt := (congrArg Int32.toInt ev_1).trans rfl
  refine lv_iconst (v := 0) X.1 X.2.1 dX10_readConditions_0 (by decide) ?_
  refine lv_istore_n (lv' := [(2, .int 0), (0, .ref x), (1, .ref r1)]) X.1 X.2.1 dX10_readConditions_1 rfl hl (by decide) rfl (fun ls hl => ?_)
  have L_5 : ∀ (n : Nat) (T_7 : PS) (H : Heap) (locs : List Loc) (ls : Array Slot) (i2_6 : Int32) (i2_6_z : Int), ((4 - i2_6_z).toNat = n) → (Wd G cy (AS S s.heap.size) s.heap T_7 H locs) → (i2_6.toInt = i2_6_z) → (0 ≤ i2_6_z ∧ i2_6_z ≤ 4) → (At T_7 r1 6) → (At T_7 x 10) → (Ok MLc S T_7) → (∃ t, GB (tB S x) (pI S 1000 x).toInt.toNat T_7 x t ∧ csF (tB S x) (pI S 1000 x).toInt.toNat (4 - i2_6_z).toNat t = csF (tB S x) (pI S 1000 x).toInt.toNat 4 t0) → (lv_has ls 3 [(2, .int (i2_6)), (0, .ref x), (1, .ref r1)]) → W p l e ({ frames := 8, cells := 0, slots := 0, locals := 384 }) s m [.ref x, .ref r1].toArray below meth c H locs 0 0 QQ (F0 m 2 ls []) := by
    intro n
    induction n using Nat.strongRecOn with
    | ind n ih =>
    intro T_7 H locs ls i2_6 i2_6_z hn hw hz_i2_6 hr_i2_6 ha_r1_L_8 ha_x_L_9 hO_T_7 iv_10 hl
    have rg_11 : (-2147483648) ≤ i2_6_z ∧ i2_6_z ≤ 2147483647 := by rw [← hz_i2_6]; exact ⟨z_lo _, z_hi _⟩
    obtain ⟨t_12, gb_13, ec_14⟩ := iv_10
    have ok_15 := hdI (GB_ok hG ha_x gb_13)
    have ok_16 : (t_12).2.1 ≤ (t_12).2.2 ∧ (t_12).2.2 ≤ 400 := ⟨(hdE ok_15).1, (hdE ok_15).2.1⟩
    refine lv_iload_n X.1 X.2.1 dX10_readConditions_2 rfl (lv_at hl 0 rfl) ?_
    refine lv_iconst (v := 4) X.1 X.2.1 dX10_readConditions_3 (by decide) ?_
    refine lv_icmp_ge (tgt := 57) X.1 X.2.1 dX10_readConditions_4 (by decide) (fun c_17 => ?_) (fun c_17 => ?_)
    · have z_b_18 := trivial
      have k_19 : i2_6_z ≥ 4 := z_le ti_4 hz_i2_6 c_17
      refine lv_aload_n X.1 X.2.1 dX10_readConditions_57 rfl (lv_at hl 1 rfl) ?_
      refine lv_aload_n X.1 X.2.1 dX10_readConditions_58 rfl (lv_at hl 1 rfl) ?_
      refine k_i (rm := { frames := 6, cells := 0, slots := 0, locals := 288 }) (av := [.ref x]) X hw (va_runV (As := []) (rest := [.ref x]) (cfix X) (k_X10_fieldAtHand2 l G cy κ T_7 _ x t_12 hO_T_7.1 ha_x_L_9 gb_13.1 (by first | assumption | omega) (by first | assumption | omega)) (cwV 0 X.2.2.2.1 gX10_readConditions_X10_fieldAtHand rfl rfl rfl (by decide +kernel) ⟨Nat.le_of_ble_eq_true rfl, Nat.le_of_ble_eq_true rfl⟩) (pre_V X hw _ ha_x_L_9 rfl (by decide) rfl) rfl rfl hl.1 rfl (lv_room (Nat.le_of_ble_eq_true rfl)) dX10_readConditions_59 ⟨Nat.le_of_ble_eq_true rfl, Nat.le_of_ble_eq_true rfl⟩) 0 0 (Nat.le_of_ble_eq_true rfl) (Nat.le_of_ble_eq_true rfl) (fun rr_20 S_21 H locs hp hw hfr hnw => ?_)
      obtain ⟨e2, hp⟩ := hp
      subst e2
      obtain ⟨wh_22, wh_23, wh_24⟩ := hp
      rw [tB_fr hG ha_x hO_T_7.fr (by decide +kernel)] at wh_24
      refine lv_iconst (v := (-1)) X.1 X.2.1 dX10_readConditions_62 (by decide) ?_
      refine lv_icmp_ne (tgt := 70) X.1 X.2.1 dX10_readConditions_63 (by decide) (fun c_25 => ?_) (fun c_25 => ?_)
      · have z_b_26 := trivial
        have k_27 : rr_20.toInt ≠ (-1) := z_ne rfl ti_m1 c_25
        refine lv_iconst (v := 2) X.1 X.2.1 dX10_readConditions_70 (by decide) ?_
        refine k_i (rm := { frames := 1, cells := 0, slots := 0, locals := 48 }) (av := [.ref x, .int 2]) X hw (va_runV (As := [.int 2]) (rest := []) (cfix X) (k_X10_fail2 l G cy κ T_7 _ x (2) (2) hO_T_7.1 ha_x_L_9 ti_2) (cwV 1 X.2.2.2.1 gX10_readConditions_X10_fail rfl rfl rfl (by decide +kernel) ⟨Nat.le_of_ble_eq_true rfl, Nat.le_of_ble_eq_true rfl⟩) (pre_V X hw _ ha_x_L_9 rfl (by decide) rfl) rfl rfl hl.1 rfl (lv_room (Nat.le_of_ble_eq_true rfl)) dX10_readConditions_71 ⟨Nat.le_of_ble_eq_true rfl, Nat.le_of_ble_eq_true rfl⟩) 0 0 (Nat.le_of_ble_eq_true rfl) (Nat.le_of_ble_eq_true rfl) (fun rr_28 S_29 H locs hp hw hfr hnw => ?_)
        obtain ⟨hk_30, hp⟩ := hp
        have hO_31 : Ok MLc S S_29 := hO_T_7.call hk_30 (by decide +kernel)
        rcases hp with ⟨f_32, er_33⟩ | ⟨f_32, er_33⟩ <;> subst er_33
        · have z_b_34 := trivial
          exact f_32.elim
        · have z_b_35 := trivial
          have ea_36 : csF (tB S x) (pI S 1000 x).toInt.toNat 4 t0 = (cit (whF (tB S x) t_12 FLs 0 = -1) 1 2, t_12) := by rw [← ec_14, show (4 - i2_6_z).toNat = 0 by omega]; rfl
          rw [hQQ]
          exact ret_z X hw hr hlocks (Nat.le_of_ble_eq_true rfl) (Nat.le_of_ble_eq_true rfl) (by decide) ⟨hO_31, Or.inr ⟨by rw [ea_36, cit_n (by omega)]; exact ⟨(by decide : (2 : Int) ≠ 0), f_32⟩, rfl⟩⟩ dX10_readConditions_74
      · have z_b_37 := trivial
        have k_38 : rr_20.toInt = (-1) := z_eq rfl ti_m1 c_25
        refine lv_iconst (v := 1) X.1 X.2.1 dX10_readConditions_66 (by decide) ?_
        refine lv_goto (tgt := 71) X.1 X.2.1 dX10_readConditions_67 (by decide) ?_
        refine k_i (rm := { frames := 1, cells := 0, slots := 0, locals := 48 }) (av := [.ref x, .int 1]) X hw (va_runV (As := [.int 1]) (rest := []) (cfix X) (k_X10_fail2 l G cy κ T_7 _ x (1) (1) hO_T_7.1 ha_x_L_9 ti_1) (cwV 1 X.2.2.2.1 gX10_readConditions_X10_fail rfl rfl rfl (by decide +kernel) ⟨Nat.le_of_ble_eq_true rfl, Nat.le_of_ble_eq_true rfl⟩) (pre_V X hw _ ha_x_L_9 rfl (by decide) rfl) rfl rfl hl.1 rfl (lv_room (Nat.le_of_ble_eq_true rfl)) dX10_readConditions_71 ⟨Nat.le_of_ble_eq_true rfl, Nat.le_of_ble_eq_true rfl⟩) 0 0 (Nat.le_of_ble_eq_true rfl) (Nat.le_of_ble_eq_true rfl) (fun rr_39 S_40 H locs hp hw hfr hnw => ?_)
        obtain ⟨hk_41, hp⟩ := hp
        have hO_42 : Ok MLc S S_40 := hO_T_7.call hk_41 (by decide +kernel)
        rcases hp with ⟨f_43, er_44⟩ | ⟨f_43, er_44⟩ <;> subst er_44
        · have z_b_45 := trivial
          exact f_43.elim
        · have z_b_46 := trivial
          have ea_47 : csF (tB S x) (pI S 1000 x).toInt.toNat 4 t0 = (cit (whF (tB S x) t_12 FLs 0 = -1) 1 2, t_12) := by rw [← ec_14, show (4 - i2_6_z).toNat = 0 by omega]; rfl
          rw [hQQ]
          exact ret_z X hw hr hlocks (Nat.le_of_ble_eq_true rfl) (Nat.le_of_ble_eq_true rfl) (by decide) ⟨hO_42, Or.inr ⟨by rw [ea_47, cit_y (by omega)]; exact ⟨(by decide : (1 : Int) ≠ 0), f_43⟩, rfl⟩⟩ dX10_readConditions_74
    · have z_b_48 := trivial
      have k_49 : i2_6_z < 4 := z_nle ti_4 hz_i2_6 c_17
      refine lv_aload_n X.1 X.2.1 dX10_readConditions_7 rfl (lv_at hl 1 rfl) ?_
      refine lv_aload_n X.1 X.2.1 dX10_readConditions_8 rfl (lv_at hl 2 rfl) ?_
      refine k_i (rm := { frames := 7, cells := 0, slots := 0, locals := 336 }) (av := [.ref x, .ref r1]) X hw (va_runV (As := [.ref r1]) (rest := []) (cfix X) (k_X10_readCondition2 l G cy κ T_7 _ x r1 t_12 hO_T_7.1 ha_x_L_9 ha_r1_L_8 (by rw [tB_fr hG ha_x hO_T_7.fr (by decide +kernel), hO_T_7.fr.I' (g := 1000) (by decide +kernel) ha_x rfl]; exact gb_13)) (cwV 1 X.2.2.2.1 gX10_readConditions_X10_readCondition rfl rfl rfl (by decide +kernel) ⟨Nat.le_of_ble_eq_true rfl, Nat.le_of_ble_eq_true rfl⟩) (pre_V X hw _ ha_x_L_9 rfl (by decide) rfl) rfl rfl hl.1 rfl (lv_room (Nat.le_of_ble_eq_true rfl)) dX10_readConditions_9 ⟨Nat.le_of_ble_eq_true rfl, Nat.le_of_ble_eq_true rfl⟩) 0 0 (Nat.le_of_ble_eq_true rfl) (Nat.le_of_ble_eq_true rfl) (fun rr_50 S_51 H locs hp hw hfr hnw => ?_)
      obtain ⟨hk_52, hp⟩ := hp
      have hO_53 : Ok MLc S S_51 := hO_T_7.call hk_52 (by decide +kernel)
      rcases hp with ⟨f_54, er_55⟩ | ⟨f_54, er_55⟩ <;> subst er_55
      · have z_b_56 := trivial
        rw [tB_fr hG ha_x hO_T_7.fr (by decide +kernel), hO_T_7.fr.I' (g := 1000) (by decide +kernel) ha_x rfl] at f_54
        have ok_57 := hdI (GB_ok hG ha_x f_54.2)
        have ok_58 : ((nx3 (tB S x) (pI S 1000 x).toInt.toNat t_12)).2.1 ≤ ((nx3 (tB S x) (pI S 1000 x).toInt.toNat t_12)).2.2 ∧ ((nx3 (tB S x) (pI S 1000 x).toInt.toNat t_12)).2.2 ≤ 400 := ⟨(hdE ok_57).1, (hdE ok_57).2.1⟩
        refine lv_if_ne (tgt := 17) X.1 X.2.1 dX10_readConditions_12 (by decide) (fun c_59 => ?_) (fun c_59 => absurd c_59 (by decide))
        refine lv_aload_n X.1 X.2.1 dX10_readConditions_17 rfl (lv_at hl 1 rfl) ?_
        refine lv_bipush (v := 58) X.1 X.2.1 dX10_readConditions_18 (by decide) ?_
        have t_60 : At S_51 x 10 := hk_52.fr.at ha_x_L_9
        refine k_i (rm := { frames := 2, cells := 0, slots := 0, locals := 96 }) (av := [.ref x, .int 58]) X hw (va_runV (As := [.int 58]) (rest := []) (cfix X) (k_X10_isSign2 l G cy κ S_51 _ x (58) (58) (nx3 (tB S x) (pI S 1000 x).toInt.toNat t_12) hO_53.1 t_60 ti_58 f_54.2.1) (cwV 1 X.2.2.2.1 gX10_readConditions_X10_isSign rfl rfl rfl (by decide +kernel) ⟨Nat.le_of_ble_eq_true rfl, Nat.le_of_ble_eq_true rfl⟩) (pre_V X hw _ t_60 rfl (by decide) rfl) rfl rfl hl.1 rfl (lv_room (Nat.le_of_ble_eq_true rfl)) dX10_readConditions_20 ⟨Nat.le_of_ble_eq_true rfl, Nat.le_of_ble_eq_true rfl⟩) 0 0 (Nat.le_of_ble_eq_true rfl) (Nat.le_of_ble_eq_true rfl) (fun rr_61 S_62 H locs hp hw hfr hnw => ?_)
        obtain ⟨e2, hp⟩ := hp
        subst e2
        rcases hp with ⟨f_63, er_64⟩ | ⟨f_63, er_64⟩ <;> subst er_64
        · have z_b_65 := trivial
          rw [tB_fr hG ha_x hO_53.fr (by decide +kernel)] at f_63
          refine lv_if_eq (tgt := 32) X.1 X.2.1 dX10_readConditions_23 (by decide) (fun c_66 => absurd c_66 (by decide)) (fun c_66 => ?_)
          refine lv_aload_n X.1 X.2.1 dX10_readConditions_26 rfl (lv_at hl 1 rfl) ?_
          have ok_67 := hdI (GB_ok hG ha_x f_54.2)
          have ok_68 : ((nx3 (tB S x) (pI S 1000 x).toInt.toNat t_12)).2.1 ≤ ((nx3 (tB S x) (pI S 1000 x).toInt.toNat t_12)).2.2 ∧ ((nx3 (tB S x) (pI S 1000 x).toInt.toNat t_12)).2.2 ≤ 400 := ⟨(hdE ok_67).1, (hdE ok_67).2.1⟩
          obtain ⟨v_69, ev_69⟩ : ∃ v, pI S_51 1006 x = v := ⟨_, rfl⟩
          have rg_71 := And.intro (z_lo v_69) (z_hi v_69)
          have pz_72 : (pI S_51 1006 x).toInt = v_69.toInt := by rw [ev_69]
          have pz_73 : (pI S_51 1006 x).toInt = v_69.toInt := (congrArg Int32.toInt ev_69).trans rfl
          have te_74 := f_54.2.1.2.2
          refine k_v (rm := { frames := 2, cells := 0, slots := 0, locals := 96 }) (av := [.ref x]) X hw (va_runV (As := []) (rest := []) (cfix X) (k_X10_advance2 l G cy κ S_51 _ x hO_53.1 t_60 (by omega) (by omega)) (cwV 0 X.2.2.2.1 gX10_readConditions_X10_advance rfl rfl rfl (by decide +kernel) ⟨Nat.le_of_ble_eq_true rfl, Nat.le_of_ble_eq_true rfl⟩) (pre_V X hw _ t_60 rfl (by decide) rfl) rfl rfl hl.1 rfl (lv_room (Nat.le_of_ble_eq_true rfl)) dX10_readConditions_27 ⟨Nat.le_of_ble_eq_true rfl, Nat.le_of_ble_eq_true rfl⟩) 0 0 (Nat.le_of_ble_eq_true rfl) (Nat.le_of_ble_eq_true rfl) (fun S_76 H locs hp hw hfr hnw => ?_)
          obtain ⟨hk_77, hp⟩ := hp
          have hO_78 : Ok MLc S S_76 := hO_53.call hk_77 (by decide +kernel)
          have gb_79 : GB (tB S x) (pI S 1000 x).toInt.toNat S_76 x (nxT (tB S x) (pI S 1000 x).toInt.toNat (nx3 (tB S x) (pI S 1000 x).toInt.toNat t_12)) := GB_adv f_54.2 (tB_fr hG ha_x hO_53.fr (by decide +kernel)) (by rw [hO_53.fr.I' (g := 1000) (by decide +kernel) ha_x rfl]) (by omega) hp.1
          have ok_80 := hdI (GB_ok hG ha_x gb_79)
          have ok_81 : ((nxT (tB S x) (pI S 1000 x).toInt.toNat (nx3 (tB S x) (pI S 1000 x).toInt.toNat t_12))).2.1 ≤ ((nxT (tB S x) (pI S 1000 x).toInt.toNat (nx3 (tB S x) (pI S 1000 x).toInt.toNat t_12))).2.2 ∧ ((nxT (tB S x) (pI S 1000 x).toInt.toNat (nx3 (tB S x) (pI S 1000 x).toInt.toNat t_12))).2.2 ≤ 400 := ⟨(hdE ok_80).1, (hdE ok_80).2.1⟩
          refine lv_iconst (v := 1) X.1 X.2.1 dX10_readConditions_30 (by decide) ?_
          have ea_82 : csF (tB S x) (pI S 1000 x).toInt.toNat 4 t0 = (0, nxT (tB S x) (pI S 1000 x).toInt.toNat (nx3 (tB S x) (pI S 1000 x).toInt.toNat t_12)) := by rw [← ec_14, show (4 - i2_6_z).toNat = (3 - i2_6_z).toNat + 1 by omega]; exact csF_e f_54.1 f_63
          rw [hQQ]
          exact ret_z X hw hr hlocks (Nat.le_of_ble_eq_true rfl) (Nat.le_of_ble_eq_true rfl) (by decide) ⟨hO_78, Or.inl ⟨by rw [ea_82]; exact ⟨rfl, gb_79⟩, rfl⟩⟩ dX10_readConditions_31
        · have z_b_83 := trivial
          rw [tB_fr hG ha_x hO_53.fr (by decide +kernel)] at f_63
          refine lv_if_eq (tgt := 32) X.1 X.2.1 dX10_readConditions_23 (by decide) (fun c_84 => ?_) (fun c_84 => absurd c_84 (by decide))
          refine lv_aload_n X.1 X.2.1 dX10_readConditions_32 rfl (lv_at hl 1 rfl) ?_
          refine va_ldcS (q := κ (100 + 3)) X.1 X.2.1 X.2.2.2.2.1 (show vk_R RX10 74 "and" (κ (100 + 3)) s from (X.2.2.2.2.2.2.2.2.2.2.2.2.2.2 3 (by decide)).1) dX10_readConditions_33 ?_
          refine k_i (rm := { frames := 5, cells := 0, slots := 0, locals := 240 }) (av := [.ref x, .ref (κ (100 + 3))]) X hw (va_runV (As := [.ref (κ (100 + 3))]) (rest := []) (cfix X) (k_X10_isWord2 l G cy κ S_51 _ x 3 (nx3 (tB S x) (pI S 1000 x).toInt.toNat t_12) hO_53.1 t_60 (by decide) f_54.2.1 (by first | assumption | omega) (by first | assumption | omega)) (cwV 1 X.2.2.2.1 gX10_readConditions_X10_isWord rfl rfl rfl (by decide +kernel) ⟨Nat.le_of_ble_eq_true rfl, Nat.le_of_ble_eq_true rfl⟩) (pre_V X hw _ t_60 rfl (by decide) rfl) rfl rfl hl.1 rfl (lv_room (Nat.le_of_ble_eq_true rfl)) dX10_readConditions_35 ⟨Nat.le_of_ble_eq_true rfl, Nat.le_of_ble_eq_true rfl⟩) 0 0 (Nat.le_of_ble_eq_true rfl) (Nat.le_of_ble_eq_true rfl) (fun rr_85 S_86 H locs hp hw hfr hnw => ?_)
          obtain ⟨e2, hp⟩ := hp
          subst e2
          rcases hp with ⟨f_87, er_88⟩ | ⟨f_87, er_88⟩ <;> subst er_88
          · have z_b_89 := trivial
            rw [tB_fr hG ha_x hO_53.fr (by decide +kernel)] at f_87
            refine lv_if_ne (tgt := 47) X.1 X.2.1 dX10_readConditions_38 (by decide) (fun c_90 => ?_) (fun c_90 => absurd c_90 (by decide))
            refine lv_aload_n X.1 X.2.1 dX10_readConditions_47 rfl (lv_at hl 1 rfl) ?_
            have ok_91 := hdI (GB_ok hG ha_x f_54.2)
            have ok_92 : ((nx3 (tB S x) (pI S 1000 x).toInt.toNat t_12)).2.1 ≤ ((nx3 (tB S x) (pI S 1000 x).toInt.toNat t_12)).2.2 ∧ ((nx3 (tB S x) (pI S 1000 x).toInt.toNat t_12)).2.2 ≤ 400 := ⟨(hdE ok_91).1, (hdE ok_91).2.1⟩
            obtain ⟨v_93, ev_93⟩ : ∃ v, pI S_51 1006 x = v := ⟨_, rfl⟩
            have rg_95 := And.intro (z_lo v_93) (z_hi v_93)
            have pz_96 : (pI S_51 1006 x).toInt = v_93.toInt := by rw [ev_93]
            have pz_97 : (pI S_51 1006 x).toInt = v_93.toInt := (congrArg Int32.toInt ev_93).trans rfl
            have te_98 := f_54.2.1.2.2
            refine k_v (rm := { frames := 2, cells := 0, slots := 0, locals := 96 }) (av := [.ref x]) X hw (va_runV (As := []) (rest := []) (cfix X) (k_X10_advance2 l G cy κ S_51 _ x hO_53.1 t_60 (by omega) (by omega)) (cwV 0 X.2.2.2.1 gX10_readConditions_X10_advance rfl rfl rfl (by decide +kernel) ⟨Nat.le_of_ble_eq_true rfl, Nat.le_of_ble_eq_true rfl⟩) (pre_V X hw _ t_60 rfl (by decide) rfl) rfl rfl hl.1 rfl (lv_room (Nat.le_of_ble_eq_true rfl)) dX10_readConditions_48 ⟨Nat.le_of_ble_eq_true rfl, Nat.le_of_ble_eq_true rfl⟩) 0 0 (Nat.le_of_ble_eq_true rfl) (Nat.le_of_ble_eq_true rfl) (fun S_100 H locs hp hw hfr hnw => ?_)
            obtain ⟨hk_101, hp⟩ := hp
            have hO_102 : Ok MLc S S_100 := hO_53.call hk_101 (by decide +kernel)
            have gb_103 : GB (tB S x) (pI S 1000 x).toInt.toNat S_100 x (nxT (tB S x) (pI S 1000 x).toInt.toNat (nx3 (tB S x) (pI S 1000 x).toInt.toNat t_12)) := GB_adv f_54.2 (tB_fr hG ha_x hO_53.fr (by decide +kernel)) (by rw [hO_53.fr.I' (g := 1000) (by decide +kernel) ha_x rfl]) (by omega) hp.1
            have ok_104 := hdI (GB_ok hG ha_x gb_103)
            have ok_105 : ((nxT (tB S x) (pI S 1000 x).toInt.toNat (nx3 (tB S x) (pI S 1000 x).toInt.toNat t_12))).2.1 ≤ ((nxT (tB S x) (pI S 1000 x).toInt.toNat (nx3 (tB S x) (pI S 1000 x).toInt.toNat t_12))).2.2 ∧ ((nxT (tB S x) (pI S 1000 x).toInt.toNat (nx3 (tB S x) (pI S 1000 x).toInt.toNat t_12))).2.2 ≤ 400 := ⟨(hdE ok_104).1, (hdE ok_104).2.1⟩
            obtain ⟨x_106, ex_106⟩ : ∃ y : Int32, y = i2_6 + 1 := ⟨_, rfl⟩
            have z_107 : x_106.toInt = i2_6_z + 1 := z_add ex_106 hz_i2_6 ti_1 (by omega) (by omega)
            refine lv_iinc (v := x_106) (lv' := [(2, .int (x_106)), (0, .ref x), (1, .ref r1)]) X.1 X.2.1 dX10_readConditions_51 hl (k := 0) rfl (by rw [ex_106]; rfl) (by decide) rfl (fun ls hl => ?_)
            refine lv_goto (tgt := 2) X.1 X.2.1 dX10_readConditions_54 (by decide) ?_
            have t_108 : At S_51 r1 6 := hk_52.fr.at ha_r1_L_8
            have t_109 : At S_100 r1 6 := hk_101.fr.at t_108
            have t_110 : At S_100 x 10 := hk_101.fr.at t_60
            exact ih _ (by omega) _ _ _ _ (x_106) (x_106.toInt) rfl hw rfl (by omega) t_109 t_110 hO_102 ⟨_, gb_103, by rw [← csF_a f_54.1 f_63 f_87, show (4 - x_106.toInt).toNat + 1 = (4 - i2_6_z).toNat by omega]; exact ec_14⟩ (lv_sub hl [0, 1, 2] rfl)
          · have z_b_111 := trivial
            rw [tB_fr hG ha_x hO_53.fr (by decide +kernel)] at f_87
            refine lv_if_ne (tgt := 47) X.1 X.2.1 dX10_readConditions_38 (by decide) (fun c_112 => absurd c_112 (by decide)) (fun c_112 => ?_)
            refine lv_aload_n X.1 X.2.1 dX10_readConditions_41 rfl (lv_at hl 1 rfl) ?_
            refine lv_iconst (v := 1) X.1 X.2.1 dX10_readConditions_42 (by decide) ?_
            refine k_i (rm := { frames := 1, cells := 0, slots := 0, locals := 48 }) (av := [.ref x, .int 1]) X hw (va_runV (As := [.int 1]) (rest := []) (cfix X) (k_X10_fail2 l G cy κ S_51 _ x (1) (1) hO_53.1 t_60 ti_1) (cwV 1 X.2.2.2.1 gX10_readConditions_X10_fail rfl rfl rfl (by decide +kernel) ⟨Nat.le_of_ble_eq_true rfl, Nat.le_of_ble_eq_true rfl⟩) (pre_V X hw _ t_60 rfl (by decide) rfl) rfl rfl hl.1 rfl (lv_room (Nat.le_of_ble_eq_true rfl)) dX10_readConditions_43 ⟨Nat.le_of_ble_eq_true rfl, Nat.le_of_ble_eq_true rfl⟩) 0 0 (Nat.le_of_ble_eq_true rfl) (Nat.le_of_ble_eq_true rfl) (fun rr_113 S_114 H locs hp hw hfr hnw => ?_)
            obtain ⟨hk_115, hp⟩ := hp
            have hO_116 : Ok MLc S S_114 := hO_53.call hk_115 (by decide +kernel)
            rcases hp with ⟨f_117, er_118⟩ | ⟨f_117, er_118⟩ <;> subst er_118
            · have z_b_119 := trivial
              exact f_117.elim
            · have z_b_120 := trivial
              have ea_121 : csF (tB S x) (pI S 1000 x).toInt.toNat 4 t0 = (1, t_12) := by rw [← ec_14, show (4 - i2_6_z).toNat = (3 - i2_6_z).toNat + 1 by omega]; exact csF_n f_54.1 f_63 f_87
              rw [hQQ]
              exact ret_z X hw hr hlocks (Nat.le_of_ble_eq_true rfl) (Nat.le_of_ble_eq_true rfl) (by decide) ⟨hO_116, Or.inr ⟨by rw [ea_121]; exact ⟨(by decide : (1 : Int) ≠ 0), f_117⟩, rfl⟩⟩ dX10_readConditions_46
      · have z_b_122 := trivial
        rw [tB_fr hG ha_x hO_T_7.fr (by decide +kernel), hO_T_7.fr.I' (g := 1000) (by decide +kernel) ha_x rfl] at f_54
        refine lv_if_ne (tgt := 17) X.1 X.2.1 dX10_readConditions_12 (by decide) (fun c_123 => absurd c_123 (by decide)) (fun c_123 => ?_)
        refine lv_iconst (v := 0) X.1 X.2.1 dX10_readConditions_15 (by decide) ?_
        have ea_124 : csF (tB S x) (pI S 1000 x).toInt.toNat 4 t0 = (1, t_12) := by rw [← ec_14, show (4 - i2_6_z).toNat = (3 - i2_6_z).toNat + 1 by omega]; exact csF_c f_54.1
        rw [hQQ]
        exact ret_z X hw hr hlocks (Nat.le_of_ble_eq_true rfl) (Nat.le_of_ble_eq_true rfl) (by decide) ⟨hO_53, Or.inr ⟨by rw [ea_124]; exact ⟨(by decide : (1 : Int) ≠ 0), f_54.2⟩, rfl⟩⟩ dX10_readConditions_16
  exact L_5 _ _ _ _ _ (0) (0) rfl hw ti_0 (by omega) ha_r1 ha_x hO ⟨t0, hp_0, congrArg (fun k => csF (tB S x) (pI S 1000 x).toInt.toNat k t0) (show (4 - (0 : Int)).toNat = 4 from rfl)⟩ (lv_sub hl [0, 1, 2] rfl)
