def MLf : List Nat := [1001, 1002]
def MRo : List Nat := [10034]
def MRa : List Nat := [10034, 10134]
def MRc : List Nat := [600, 10134]
def MLc : List Nat := [1001, 1002, 1004, 1005, 1006, 10034, 10134]
def MLr : List Nat := [600, 1001, 1002, 1004, 1005, 1006, 10034, 10134]

set_option maxHeartbeats 4000000 in
set_option maxRecDepth 100000 in
theorem k_X10_fail2 (l : Launch) (G : va_G) (cy : Nat → ClassId) (κ : Nat → Nat) (S : PS) (sz : Nat) (x : Nat) (a1 : Int32) (a1_z : Int) (hG : GX S) (ha_x : At S x 10) (hz_a1 : a1.toInt = a1_z) : Ci l yX10_fail wsX10_fail ({ frames := 1, cells := 0, slots := 0, locals := 48 }) G cy κ S sz [.ref x, .int (a1)] (fun (r : Int32) (S9 : PS) => Ok MLf S S9 ∧ (((False) ∧ r = 1) ∨ (((pI S9 1001 x).toInt = a1_z) ∧ r = 0))) := by
  refine ent_m (cc := cX10_fail) (maxL := 2) (ret := (some .boolean)) (by decide) rfl (Nat.le_of_ble_eq_true rfl) ?_
  intro p e s m below meth c ls X hr hlocks hin hw hl hsz
  subst hsz
  have X : Cx p c cX10_fail 2 s [.ref x, .int (a1)].toArray wsX10_fail RX10 m G cy κ (AS S s.heap.size) := X
  have hl : lv_has ls 2 [(0, .ref x), (1, .int (a1))] := hl
  have rg_a1 : (-2147483648) ≤ a1_z ∧ a1_z ≤ 2147483647 := by rw [← hz_a1]; exact ⟨z_lo _, z_hi _⟩
  have hO : Ok MLf S S := Ok.rf hG
  refine lv_aload_n X.1 X.2.1 dX10_fail_0 rfl (lv_at hl 0 rfl) ?_
  refine lv_iload_n X.1 X.2.1 dX10_fail_1 rfl (lv_at hl 1 rfl) ?_
  refine r_putI (v := a1) X hw ha_x rfl 1 1001 tyX10 (by decide) rfl inn_X10_fail_10 tyX10_ok nmX10 (by decide) (X.2.2.2.1 (.fieldLink RX10 22 "SilkMill$Tape" "faultKind" "I") (by decide +kernel)) rfl (Or.inl rfl) rfl rfl (Nat.le_of_ble_eq_true rfl) (st_1001 _ _) dX10_fail_2 (fun H locs hw => ?_)
  obtain ⟨S_1, eS_1⟩ : ∃ T, T = sI S 1001 x (a1) := ⟨_, rfl⟩
  rw [← eS_1] at hw
  have hO_2 : Ok MLf S S_1 := hO.sI eS_1 (by decide +kernel) (uI_10_1001 hO.1 ha_x)
  have h_3 : pI S_1 1001 x = a1 := tI_sIs eS_1
  refine lv_aload_n X.1 X.2.1 dX10_fail_5 rfl (lv_at hl 0 rfl) ?_
  refine lv_aload_n X.1 X.2.1 dX10_fail_6 rfl (lv_at hl 0 rfl) ?_
  have t_4 : At S_1 x 10 := tAt_sI eS_1 ha_x
  obtain ⟨v_5, ev_5⟩ : ∃ v, pI S_1 1005 x = v := ⟨_, rfl⟩
  have rg_7 := And.intro (z_lo v_5) (z_hi v_5)
  have pz_8 : (pI S_1 1005 x).toInt = v_5.toInt := by rw [ev_5]
  refine r_getI (g := 1005) (x := v_5) X hw t_4 rfl 5 ev_5 (by decide) rfl inn_X10_fail_10 (by decide) (X.2.2.2.1 (.fieldLink RX10 79 "SilkMill$Tape" "start" "I") (by decide +kernel)) rfl (gv_1005 _ _) dX10_fail_7 ?_
  refine r_putI (v := v_5) X hw t_4 rfl 2 1002 tyX10 (by decide) rfl inn_X10_fail_10 tyX10_ok nmX10 (by decide) (X.2.2.2.1 (.fieldLink RX10 9 "SilkMill$Tape" "faultPlace" "I") (by decide +kernel)) rfl (Or.inl rfl) rfl rfl (Nat.le_of_ble_eq_true rfl) (st_1002 _ _) dX10_fail_10 (fun H locs hw => ?_)
  obtain ⟨S_9, eS_9⟩ : ∃ T, T = sI S_1 1002 x (v_5) := ⟨_, rfl⟩
  rw [← eS_9] at hw
  have hO_10 : Ok MLf S S_9 := hO_2.sI eS_9 (by decide +kernel) (uI_10_1002 hO_2.1 t_4)
  have h_11 : pI S_9 1002 x = v_5 := tI_sIs eS_9
  refine lv_iconst (v := 0) X.1 X.2.1 dX10_fail_13 (by decide) ?_
  have t_12 : pI S_9 1001 x = a1 := tI_sI eS_9 rfl h_3
  have pz_13 : (pI S_9 1001 x).toInt = a1_z := (congrArg Int32.toInt t_12).trans hz_a1
  exact ret_z X hw hr hlocks (Nat.le_of_ble_eq_true rfl) (Nat.le_of_ble_eq_true rfl) (by decide) ⟨hO_10, Or.inr ⟨by omega, rfl⟩⟩ dX10_fail_14
set_option maxHeartbeats 4000000 in
set_option maxRecDepth 100000 in
theorem k_X6_openRule2 (l : Launch) (G : va_G) (cy : Nat → ClassId) (κ : Nat → Nat) (S : PS) (sz : Nat) (x : Nat) (hG : GX S) (ha_x : At S x 6) (hp_0 : (pI S 600 x).toInt < 12) : Cv l yX6_openRule wsX6_openRule ({ frames := 1, cells := 0, slots := 0, locals := 48 }) G cy κ S sz [.ref x] (fun (S9 : PS) => Ok MRo S S9 ∧ (OpP S S9 x)) := by
  refine ent_m (cc := cX6_openRule) (maxL := 1) (ret := none) (by decide) rfl (Nat.le_of_ble_eq_true rfl) ?_
  intro p e s m below meth c ls X hr hlocks hin hw hl hsz
  subst hsz
  have X : Cx p c cX6_openRule 1 s [.ref x].toArray wsX6_openRule RX6 m G cy κ (AS S s.heap.size) := X
  have hl : lv_has ls 1 [(0, .ref x)] := hl
  have hO : Ok MRo S S := Ok.rf hG
  obtain ⟨v_1, ev_1⟩ : ∃ v, pI S 600 x = v := ⟨_, rfl⟩
  have rg_2 := gI_6_600 hO.1 ha_x; rw [ev_1] at rg_2
  have pz_3 : (pI S 600 x).toInt = v_1.toInt := by rw [ev_1]
  have pz_4 : (pI S 600 x).toInt = v_1.toInt := (congrArg Int32.toInt ev_1).trans rfl
  obtain ⟨q_5, h_6, h_7, h_8⟩ := gQ_6_603 hO.1 ha_x
  refine lv_aload_n X.1 X.2.1 dX6_openRule_0 rfl (lv_at hl 0 rfl) ?_
  refine r_getI (g := 600) (x := v_1) X hw ha_x rfl 0 ev_1 (by decide) rfl inn_X6_openRule_6 (by decide) (X.2.2.2.1 (.fieldLink RX6 30 "SilkMill$Rules" "size" "I") (by decide +kernel)) rfl (gv_600 _ _) dX6_openRule_1 ?_
  refine lv_bipush (v := 12) X.1 X.2.1 dX6_openRule_4 (by decide) ?_
  refine lv_icmp_ge (tgt := 19) X.1 X.2.1 dX6_openRule_6 (by decide) (fun c_9 => ?_) (fun c_9 => ?_)
  · have z_b_10 := trivial
    have k_11 : v_1.toInt ≥ 12 := z_le ti_12 rfl c_9
    exact ret_v X hw hr hlocks (Nat.le_of_ble_eq_true rfl) (Nat.le_of_ble_eq_true rfl) ⟨hO, (by exfalso; omega)⟩ dX6_openRule_19
  · have z_b_12 := trivial
    have k_13 : v_1.toInt < 12 := z_nle ti_12 rfl c_9
    refine lv_aload_n X.1 X.2.1 dX6_openRule_9 rfl (lv_at hl 0 rfl) ?_
    refine r_getR (g := 603) X hw ha_x rfl 3 h_6 (by decide) rfl inn_X6_openRule_6 (by decide) (X.2.2.2.1 (.fieldLink RX6 18 "SilkMill$Rules" "conditions" "[I") (by decide +kernel)) rfl (gv_603 _ _) dX6_openRule_10 ?_
    refine lv_aload_n X.1 X.2.1 dX6_openRule_13 rfl (lv_at hl 0 rfl) ?_
    refine r_getI (g := 600) (x := v_1) X hw ha_x rfl 0 ev_1 (by decide) rfl inn_X6_openRule_6 (by decide) (X.2.2.2.1 (.fieldLink RX6 30 "SilkMill$Rules" "size" "I") (by decide +kernel)) rfl (gv_600 _ _) dX6_openRule_14 ?_
    refine lv_iconst (v := 0) X.1 X.2.1 dX6_openRule_17 (by decide) ?_
    refine r_iast X hw h_7 rfl (by rw [h_8]; exact z_ix rfl (by omega) (by omega)) dX6_openRule_18 (fun H locs hw => ?_)
    obtain ⟨S_14, eS_14⟩ : ∃ T, T = sA S q_5 (upd (pA S q_5) (Int32.toNatClampNeg (v_1)) (0)) := ⟨_, rfl⟩
    rw [← eS_14] at hw
    have hO_15 : Ok MRo S S_14 := hO.sA eS_14 h_7 (by decide +kernel) (uA_34 hO.1 h_7 (by rw [ti_0]; omega) (by rw [ti_0]; omega))
    have h_16 : pA S_14 q_5 (Int32.toNatClampNeg (v_1)) = 0 := tA_sAs eS_14
    exact ret_v X hw hr hlocks (Nat.le_of_ble_eq_true rfl) (Nat.le_of_ble_eq_true rfl) ⟨hO_15, ⟨q_5, (Int32.toNatClampNeg (v_1)), h_6, (by rw [z_nc rfl (by omega)]; omega), eS_14⟩⟩ dX6_openRule_19
set_option maxHeartbeats 4000000 in
set_option maxRecDepth 100000 in
theorem k_X6_addCondition2 (l : Launch) (G : va_G) (cy : Nat → ClassId) (κ : Nat → Nat) (S : PS) (sz : Nat) (x : Nat) (a1 : Int32) (a1_z : Int) (a2 : Int32) (a2_z : Int) (a3 : Int32) (a3_z : Int) (hG : GX S) (ha_x : At S x 6) (hz_a1 : a1.toInt = a1_z) (hz_a2 : a2.toInt = a2_z) (hz_a3 : a3.toInt = a3_z) (hp_0 : (pI S 600 x).toInt < 12) (hp_1 : zA S x 603 (pI S 600 x).toInt.toNat < 4) : Cv l yX6_addCondition wsX6_addCondition ({ frames := 1, cells := 0, slots := 0, locals := 48 }) G cy κ S sz [.ref x, .int (a1), .int (a2), .int (a3)] (fun (S9 : PS) => Ok MRa S S9 ∧ (AdP S S9 x a1 a2 a3)) := by
  refine ent_m (cc := cX6_addCondition) (maxL := 5) (ret := none) (by decide) rfl (Nat.le_of_ble_eq_true rfl) ?_
  intro p e s m below meth c ls X hr hlocks hin hw hl hsz
  subst hsz
  have X : Cx p c cX6_addCondition 5 s [.ref x, .int (a1), .int (a2), .int (a3)].toArray wsX6_addCondition RX6 m G cy κ (AS S s.heap.size) := X
  have hl : lv_has ls 5 [(0, .ref x), (1, .int (a1)), (2, .int (a2)), (3, .int (a3))] := hl
  have rg_a1 : (-2147483648) ≤ a1_z ∧ a1_z ≤ 2147483647 := by rw [← hz_a1]; exact ⟨z_lo _, z_hi _⟩
  have rg_a2 : (-2147483648) ≤ a2_z ∧ a2_z ≤ 2147483647 := by rw [← hz_a2]; exact ⟨z_lo _, z_hi _⟩
  have rg_a3 : (-2147483648) ≤ a3_z ∧ a3_z ≤ 2147483647 := by rw [← hz_a3]; exact ⟨z_lo _, z_hi _⟩
  have hO : Ok MRa S S := Ok.rf hG
  obtain ⟨v_1, ev_1⟩ : ∃ v, pI S 600 x = v := ⟨_, rfl⟩
  have rg_2 := gI_6_600 hO.1 ha_x; rw [ev_1] at rg_2
  have pz_3 : (pI S 600 x).toInt = v_1.toInt := by rw [ev_1]
  have pz_4 : (pI S 600 x).toInt = v_1.toInt := (congrArg Int32.toInt ev_1).trans rfl
  obtain ⟨q_5, h_6, h_7, h_8⟩ := gQ_6_603 hO.1 ha_x
  obtain ⟨q_9, h_10, h_11, h_12⟩ := gQ_6_604 hO.1 ha_x
  obtain ⟨q_13, h_14, h_15, h_16⟩ := gQ_6_605 hO.1 ha_x
  obtain ⟨q_17, h_18, h_19, h_20⟩ := gQ_6_606 hO.1 ha_x
  have hp1b : zA S x 603 (v_1.toInt).toNat < 4 := by have h := hp_1; rw [show (pI S 600 x).toInt = v_1.toInt by omega] at h; exact h
  refine lv_aload_n X.1 X.2.1 dX6_addCondition_0 rfl (lv_at hl 0 rfl) ?_
  refine r_getI (g := 600) (x := v_1) X hw ha_x rfl 0 ev_1 (by decide) rfl inn_X6_addCondition_6 (by decide) (X.2.2.2.1 (.fieldLink RX6 30 "SilkMill$Rules" "size" "I") (by decide +kernel)) rfl (gv_600 _ _) dX6_addCondition_1 ?_
  refine lv_bipush (v := 12) X.1 X.2.1 dX6_addCondition_4 (by decide) ?_
  refine lv_icmp_ge (tgt := 77) X.1 X.2.1 dX6_addCondition_6 (by decide) (fun c_21 => ?_) (fun c_21 => ?_)
  · have z_b_22 := trivial
    have k_23 : v_1.toInt ≥ 12 := z_le ti_12 rfl c_21
    exact ret_v X hw hr hlocks (Nat.le_of_ble_eq_true rfl) (Nat.le_of_ble_eq_true rfl) ⟨hO, (by exfalso; omega)⟩ dX6_addCondition_77
  · have z_b_24 := trivial
    have k_25 : v_1.toInt < 12 := z_nle ti_12 rfl c_21
    refine lv_aload_n X.1 X.2.1 dX6_addCondition_9 rfl (lv_at hl 0 rfl) ?_
    refine r_getR (g := 603) X hw ha_x rfl 3 h_6 (by decide) rfl inn_X6_addCondition_6 (by decide) (X.2.2.2.1 (.fieldLink RX6 18 "SilkMill$Rules" "conditions" "[I") (by decide +kernel)) rfl (gv_603 _ _) dX6_addCondition_10 ?_
    refine lv_aload_n X.1 X.2.1 dX6_addCondition_13 rfl (lv_at hl 0 rfl) ?_
    refine r_getI (g := 600) (x := v_1) X hw ha_x rfl 0 ev_1 (by decide) rfl inn_X6_addCondition_6 (by decide) (X.2.2.2.1 (.fieldLink RX6 30 "SilkMill$Rules" "size" "I") (by decide +kernel)) rfl (gv_600 _ _) dX6_addCondition_14 ?_
    refine r_iald X hw h_7 rfl (by rw [h_8]; exact z_ix rfl (by omega) (by omega)) dX6_addCondition_17 ?_
    refine lv_topi (fun v_26 ev_26 => ?_)
    have z_27 := gE_34 hO.1 h_7 (Int32.toNatClampNeg (v_1)); rw [← ev_26] at z_27
    have ev_26 := ev_26.symm
    have zf_28 : zA S x 603 (v_1.toInt).toNat = v_26.toInt := (zA_of h_6 rfl (by omega) ev_26)
    refine lv_iconst (v := 4) X.1 X.2.1 dX6_addCondition_18 (by decide) ?_
    refine lv_icmp_ge (tgt := 77) X.1 X.2.1 dX6_addCondition_19 (by decide) (fun c_29 => ?_) (fun c_29 => ?_)
    · have z_b_30 := trivial
      have k_31 : v_26.toInt ≥ 4 := z_le ti_4 rfl c_29
      exact ret_v X hw hr hlocks (Nat.le_of_ble_eq_true rfl) (Nat.le_of_ble_eq_true rfl) ⟨hO, (by exfalso; omega)⟩ dX6_addCondition_77
    · have z_b_32 := trivial
      have k_33 : v_26.toInt < 4 := z_nle ti_4 rfl c_29
      refine lv_aload_n X.1 X.2.1 dX6_addCondition_22 rfl (lv_at hl 0 rfl) ?_
      refine r_getI (g := 600) (x := v_1) X hw ha_x rfl 0 ev_1 (by decide) rfl inn_X6_addCondition_6 (by decide) (X.2.2.2.1 (.fieldLink RX6 30 "SilkMill$Rules" "size" "I") (by decide +kernel)) rfl (gv_600 _ _) dX6_addCondition_23 ?_
      refine lv_iconst (v := 4) X.1 X.2.1 dX6_addCondition_26 (by decide) ?_
      refine lv_imul X.1 X.2.1 dX6_addCondition_27 ?_
      refine lv_topi (fun v_34 ev_34 => ?_)
      have z_35 : v_34.toInt = v_1.toInt * 4 := z_mul ev_34 rfl ti_4 (by omega) (by omega)
      refine lv_aload_n X.1 X.2.1 dX6_addCondition_28 rfl (lv_at hl 0 rfl) ?_
      refine r_getR (g := 603) X hw ha_x rfl 3 h_6 (by decide) rfl inn_X6_addCondition_6 (by decide) (X.2.2.2.1 (.fieldLink RX6 18 "SilkMill$Rules" "conditions" "[I") (by decide +kernel)) rfl (gv_603 _ _) dX6_addCondition_29 ?_
      refine lv_aload_n X.1 X.2.1 dX6_addCondition_32 rfl (lv_at hl 0 rfl) ?_
      refine r_getI (g := 600) (x := v_1) X hw ha_x rfl 0 ev_1 (by decide) rfl inn_X6_addCondition_6 (by decide) (X.2.2.2.1 (.fieldLink RX6 30 "SilkMill$Rules" "size" "I") (by decide +kernel)) rfl (gv_600 _ _) dX6_addCondition_33 ?_
      refine r_iald X hw h_7 rfl (by rw [h_8]; exact z_ix rfl (by omega) (by omega)) dX6_addCondition_36 ?_
      rw [ev_26]
      refine lv_iadd X.1 X.2.1 dX6_addCondition_37 ?_
      refine lv_topi (fun v_36 ev_36 => ?_)
      have z_37 : v_36.toInt = v_34.toInt + v_26.toInt := z_add ev_36 rfl rfl (by omega) (by omega)
      refine lv_istore (lv' := [(4, .int (v_36)), (0, .ref x), (1, .int (a1)), (2, .int (a2)), (3, .int (a3))]) X.1 X.2.1 dX6_addCondition_38 hl (by decide) rfl (fun ls hl => ?_)
      refine lv_aload_n X.1 X.2.1 dX6_addCondition_40 rfl (lv_at hl 1 rfl) ?_
      refine r_getR (g := 604) X hw ha_x rfl 4 h_10 (by decide) rfl inn_X6_addCondition_6 (by decide) (X.2.2.2.1 (.fieldLink RX6 21 "SilkMill$Rules" "fields" "[I") (by decide +kernel)) rfl (gv_604 _ _) dX6_addCondition_41 ?_
      refine lv_iload X.1 X.2.1 dX6_addCondition_44 (lv_at hl 0 rfl) ?_
      refine lv_iload_n X.1 X.2.1 dX6_addCondition_46 rfl (lv_at hl 2 rfl) ?_
      refine r_iast X hw h_11 rfl (by rw [h_12]; exact z_ix rfl (by omega) (by omega)) dX6_addCondition_47 (fun H locs hw => ?_)
      obtain ⟨S_38, eS_38⟩ : ∃ T, T = sA S q_9 (upd (pA S q_9) (Int32.toNatClampNeg (v_36)) (a1)) := ⟨_, rfl⟩
      rw [← eS_38] at hw
      have hO_39 : Ok MRa S S_38 := hO.sA eS_38 h_11 (by decide +kernel) (uA_134 hO.1 h_11)
      have h_40 : pA S_38 q_9 (Int32.toNatClampNeg (v_36)) = a1 := tA_sAs eS_38
      refine lv_aload_n X.1 X.2.1 dX6_addCondition_48 rfl (lv_at hl 1 rfl) ?_
      have t_41 : At S_38 x 6 := tAt_sA eS_38 ha_x
      have t_42 : pR S_38 605 x = some q_13 := tR_sA eS_38 h_14
      refine r_getR (g := 605) X hw t_41 rfl 5 t_42 (by decide) rfl inn_X6_addCondition_6 (by decide) (X.2.2.2.1 (.fieldLink RX6 24 "SilkMill$Rules" "relations" "[I") (by decide +kernel)) rfl (gv_605 _ _) dX6_addCondition_49 ?_
      refine lv_iload X.1 X.2.1 dX6_addCondition_52 (lv_at hl 0 rfl) ?_
      refine lv_iload_n X.1 X.2.1 dX6_addCondition_54 rfl (lv_at hl 3 rfl) ?_
      have t_43 : At S_38 q_13 134 := tAt_sA eS_38 h_15
      have t_44 : pN S_38 q_13 = 48 := tN_sA eS_38 h_16
      clear h_16
      refine r_iast X hw t_43 rfl (by rw [t_44]; exact z_ix rfl (by omega) (by omega)) dX6_addCondition_55 (fun H locs hw => ?_)
      obtain ⟨S_45, eS_45⟩ : ∃ T, T = sA S_38 q_13 (upd (pA S_38 q_13) (Int32.toNatClampNeg (v_36)) (a2)) := ⟨_, rfl⟩
      rw [← eS_45] at hw
      have hO_46 : Ok MRa S S_45 := hO_39.sA eS_45 t_43 (by decide +kernel) (uA_134 hO_39.1 t_43)
      have h_47 : pA S_45 q_13 (Int32.toNatClampNeg (v_36)) = a2 := tA_sAs eS_45
      refine lv_aload_n X.1 X.2.1 dX6_addCondition_56 rfl (lv_at hl 1 rfl) ?_
      have t_48 : At S_45 x 6 := tAt_sA eS_45 t_41
      have t_49 : pR S_38 606 x = some q_17 := tR_sA eS_38 h_18
      have t_50 : pR S_45 606 x = some q_17 := tR_sA eS_45 t_49
      refine r_getR (g := 606) X hw t_48 rfl 6 t_50 (by decide) rfl inn_X6_addCondition_6 (by decide) (X.2.2.2.1 (.fieldLink RX6 27 "SilkMill$Rules" "numbers" "[I") (by decide +kernel)) rfl (gv_606 _ _) dX6_addCondition_57 ?_
      refine lv_iload X.1 X.2.1 dX6_addCondition_60 (lv_at hl 0 rfl) ?_
      refine lv_iload_n X.1 X.2.1 dX6_addCondition_62 rfl (lv_at hl 4 rfl) ?_
      have t_51 : At S_38 q_17 134 := tAt_sA eS_38 h_19
      have t_52 : At S_45 q_17 134 := tAt_sA eS_45 t_51
      have t_53 : pN S_38 q_17 = 48 := tN_sA eS_38 h_20
      clear h_20
      have t_54 : pN S_45 q_17 = 48 := tN_sA eS_45 t_53
      clear t_53
      refine r_iast X hw t_52 rfl (by rw [t_54]; exact z_ix rfl (by omega) (by omega)) dX6_addCondition_63 (fun H locs hw => ?_)
      obtain ⟨S_55, eS_55⟩ : ∃ T, T = sA S_45 q_17 (upd (pA S_45 q_17) (Int32.toNatClampNeg (v_36)) (a3)) := ⟨_, rfl⟩
      rw [← eS_55] at hw
      have hO_56 : Ok MRa S S_55 := hO_46.sA eS_55 t_52 (by decide +kernel) (uA_134 hO_46.1 t_52)
      have h_57 : pA S_55 q_17 (Int32.toNatClampNeg (v_36)) = a3 := tA_sAs eS_55
      refine lv_aload_n X.1 X.2.1 dX6_addCondition_64 rfl (lv_at hl 1 rfl) ?_
      have t_58 : At S_55 x 6 := tAt_sA eS_55 t_48
      have t_59 : pR S_38 603 x = some q_5 := tR_sA eS_38 h_6
      have t_60 : pR S_45 603 x = some q_5 := tR_sA eS_45 t_59
      have t_61 : pR S_55 603 x = some q_5 := tR_sA eS_55 t_60
      refine r_getR (g := 603) X hw t_58 rfl 3 t_61 (by decide) rfl inn_X6_addCondition_6 (by decide) (X.2.2.2.1 (.fieldLink RX6 18 "SilkMill$Rules" "conditions" "[I") (by decide +kernel)) rfl (gv_603 _ _) dX6_addCondition_65 ?_
      refine lv_aload_n X.1 X.2.1 dX6_addCondition_68 rfl (lv_at hl 1 rfl) ?_
      have t_62 : pI S_38 600 x = v_1 := tI_sA eS_38 ev_1
      have t_63 : pI S_45 600 x = v_1 := tI_sA eS_45 t_62
      have t_64 : pI S_55 600 x = v_1 := tI_sA eS_55 t_63
      refine r_getI (g := 600) (x := v_1) X hw t_58 rfl 0 t_64 (by decide) rfl inn_X6_addCondition_6 (by decide) (X.2.2.2.1 (.fieldLink RX6 30 "SilkMill$Rules" "size" "I") (by decide +kernel)) rfl (gv_600 _ _) dX6_addCondition_69 ?_
      refine lv_dup2_11 X.1 X.2.1 dX6_addCondition_72 rfl rfl ?_
      have t_65 : At S_38 q_5 34 := tAt_sA eS_38 h_7
      have t_66 : At S_45 q_5 34 := tAt_sA eS_45 t_65
      have t_67 : At S_55 q_5 34 := tAt_sA eS_55 t_66
      have t_68 : pN S_38 q_5 = 12 := tN_sA eS_38 h_8
      clear h_8
      have t_69 : pN S_45 q_5 = 12 := tN_sA eS_45 t_68
      clear t_68
      have t_70 : pN S_55 q_5 = 12 := tN_sA eS_55 t_69
      clear t_69
      refine r_iald X hw t_67 rfl (by rw [t_70]; exact z_ix rfl (by omega) (by omega)) dX6_addCondition_73 ?_
      have t_71 : pA S_38 q_5 (Int32.toNatClampNeg (v_1)) = v_26 := tA_sA eS_38 (At_ne h_7 h_11 (by decide)) ev_26
      have t_73 : At S_38 q_5 34 := tAt_sA eS_38 h_7
      have t_72 : pA S_45 q_5 (Int32.toNatClampNeg (v_1)) = v_26 := tA_sA eS_45 (At_ne t_73 t_43 (by decide)) t_71
      have t_75 : At S_45 q_5 34 := tAt_sA eS_45 t_73
      have t_74 : pA S_55 q_5 (Int32.toNatClampNeg (v_1)) = v_26 := tA_sA eS_55 (At_ne t_75 t_52 (by decide)) t_72
      rw [t_74]
      refine lv_iconst (v := 1) X.1 X.2.1 dX6_addCondition_74 (by decide) ?_
      refine lv_iadd X.1 X.2.1 dX6_addCondition_75 ?_
      refine lv_topi (fun v_76 ev_76 => ?_)
      have z_77 : v_76.toInt = v_26.toInt + 1 := z_add ev_76 rfl ti_1 (by omega) (by omega)
      refine r_iast X hw t_67 rfl (by rw [t_70]; exact z_ix rfl (by omega) (by omega)) dX6_addCondition_76 (fun H locs hw => ?_)
      obtain ⟨S_78, eS_78⟩ : ∃ T, T = sA S_55 q_5 (upd (pA S_55 q_5) (Int32.toNatClampNeg (v_1)) (v_76)) := ⟨_, rfl⟩
      rw [← eS_78] at hw
      have hO_79 : Ok MRa S S_78 := hO_56.sA eS_78 t_67 (by decide +kernel) (uA_34 hO_56.1 t_67 (by omega) (by omega))
      have h_80 : pA S_78 q_5 (Int32.toNatClampNeg (v_1)) = v_76 := tA_sAs eS_78
      exact ret_v X hw hr hlocks (Nat.le_of_ble_eq_true rfl) (Nat.le_of_ble_eq_true rfl) ⟨hO_79, ⟨q_5, q_9, q_13, q_17, (Int32.toNatClampNeg (v_36)), (Int32.toNatClampNeg (v_1)), v_76, S_38, S_45, S_55, ⟨h_6, h_10, h_14, h_18⟩, (by rw [z_nc rfl (by omega)]; omega), (by rw [z_nc rfl (by omega), ev_26]; omega), (by rw [ev_26]; omega), eS_38, eS_45, eS_55, eS_78⟩⟩ dX6_addCondition_77
set_option maxHeartbeats 4000000 in
set_option maxRecDepth 100000 in
theorem k_X6_closeRule2 (l : Launch) (G : va_G) (cy : Nat → ClassId) (κ : Nat → Nat) (S : PS) (sz : Nat) (x : Nat) (a1 : Int32) (a1_z : Int) (a2 : Int32) (a2_z : Int) (hG : GX S) (ha_x : At S x 6) (hz_a1 : a1.toInt = a1_z) (hz_a2 : a2.toInt = a2_z) (hp_0 : (pI S 600 x).toInt < 12) : Cv l yX6_closeRule wsX6_closeRule ({ frames := 1, cells := 0, slots := 0, locals := 48 }) G cy κ S sz [.ref x, .int (a1), .int (a2)] (fun (S9 : PS) => Ok MRc S S9 ∧ ((pI S9 600 x).toInt = (pI S 600 x).toInt + 1 ∧ ClP S S9 x a1 a2)) := by
  refine ent_m (cc := cX6_closeRule) (maxL := 3) (ret := none) (by decide) rfl (Nat.le_of_ble_eq_true rfl) ?_
  intro p e s m below meth c ls X hr hlocks hin hw hl hsz
  subst hsz
  have X : Cx p c cX6_closeRule 3 s [.ref x, .int (a1), .int (a2)].toArray wsX6_closeRule RX6 m G cy κ (AS S s.heap.size) := X
  have hl : lv_has ls 3 [(0, .ref x), (1, .int (a1)), (2, .int (a2))] := hl
  have rg_a1 : (-2147483648) ≤ a1_z ∧ a1_z ≤ 2147483647 := by rw [← hz_a1]; exact ⟨z_lo _, z_hi _⟩
  have rg_a2 : (-2147483648) ≤ a2_z ∧ a2_z ≤ 2147483647 := by rw [← hz_a2]; exact ⟨z_lo _, z_hi _⟩
  have hO : Ok MRc S S := Ok.rf hG
  obtain ⟨v_1, ev_1⟩ : ∃ v, pI S 600 x = v := ⟨_, rfl⟩
  have rg_2 := gI_6_600 hO.1 ha_x; rw [ev_1] at rg_2
  have pz_3 : (pI S 600 x).toInt = v_1.toInt := by rw [ev_1]
  have pz_4 : (pI S 600 x).toInt = v_1.toInt := (congrArg Int32.toInt ev_1).trans rfl
  obtain ⟨q_5, h_6, h_7, h_8⟩ := gQ_6_601 hO.1 ha_x
  obtain ⟨q_9, h_10, h_11, h_12⟩ := gQ_6_602 hO.1 ha_x
  refine lv_aload_n X.1 X.2.1 dX6_closeRule_0 rfl (lv_at hl 0 rfl) ?_
  refine r_getI (g := 600) (x := v_1) X hw ha_x rfl 0 ev_1 (by decide) rfl inn_X6_closeRule_6 (by decide) (X.2.2.2.1 (.fieldLink RX6 30 "SilkMill$Rules" "size" "I") (by decide +kernel)) rfl (gv_600 _ _) dX6_closeRule_1 ?_
  refine lv_bipush (v := 12) X.1 X.2.1 dX6_closeRule_4 (by decide) ?_
  refine lv_icmp_ge (tgt := 39) X.1 X.2.1 dX6_closeRule_6 (by decide) (fun c_13 => ?_) (fun c_13 => ?_)
  · have z_b_14 := trivial
    have k_15 : v_1.toInt ≥ 12 := z_le ti_12 rfl c_13
    exact ret_v X hw hr hlocks (Nat.le_of_ble_eq_true rfl) (Nat.le_of_ble_eq_true rfl) ⟨hO, (by exfalso; omega)⟩ dX6_closeRule_39
  · have z_b_16 := trivial
    have k_17 : v_1.toInt < 12 := z_nle ti_12 rfl c_13
    refine lv_aload_n X.1 X.2.1 dX6_closeRule_9 rfl (lv_at hl 0 rfl) ?_
    refine r_getR (g := 601) X hw ha_x rfl 1 h_6 (by decide) rfl inn_X6_closeRule_6 (by decide) (X.2.2.2.1 (.fieldLink RX6 9 "SilkMill$Rules" "acts" "[I") (by decide +kernel)) rfl (gv_601 _ _) dX6_closeRule_10 ?_
    refine lv_aload_n X.1 X.2.1 dX6_closeRule_13 rfl (lv_at hl 0 rfl) ?_
    refine r_getI (g := 600) (x := v_1) X hw ha_x rfl 0 ev_1 (by decide) rfl inn_X6_closeRule_6 (by decide) (X.2.2.2.1 (.fieldLink RX6 30 "SilkMill$Rules" "size" "I") (by decide +kernel)) rfl (gv_600 _ _) dX6_closeRule_14 ?_
    refine lv_iload_n X.1 X.2.1 dX6_closeRule_17 rfl (lv_at hl 1 rfl) ?_
    refine r_iast X hw h_7 rfl (by rw [h_8]; exact z_ix rfl (by omega) (by omega)) dX6_closeRule_18 (fun H locs hw => ?_)
    obtain ⟨S_18, eS_18⟩ : ∃ T, T = sA S q_5 (upd (pA S q_5) (Int32.toNatClampNeg (v_1)) (a1)) := ⟨_, rfl⟩
    rw [← eS_18] at hw
    have hO_19 : Ok MRc S S_18 := hO.sA eS_18 h_7 (by decide +kernel) (uA_134 hO.1 h_7)
    have h_20 : pA S_18 q_5 (Int32.toNatClampNeg (v_1)) = a1 := tA_sAs eS_18
    refine lv_aload_n X.1 X.2.1 dX6_closeRule_19 rfl (lv_at hl 0 rfl) ?_
    have t_21 : At S_18 x 6 := tAt_sA eS_18 ha_x
    have t_22 : pR S_18 602 x = some q_9 := tR_sA eS_18 h_10
    refine r_getR (g := 602) X hw t_21 rfl 2 t_22 (by decide) rfl inn_X6_closeRule_6 (by decide) (X.2.2.2.1 (.fieldLink RX6 15 "SilkMill$Rules" "amounts" "[I") (by decide +kernel)) rfl (gv_602 _ _) dX6_closeRule_20 ?_
    refine lv_aload_n X.1 X.2.1 dX6_closeRule_23 rfl (lv_at hl 0 rfl) ?_
    have t_23 : pI S_18 600 x = v_1 := tI_sA eS_18 ev_1
    refine r_getI (g := 600) (x := v_1) X hw t_21 rfl 0 t_23 (by decide) rfl inn_X6_closeRule_6 (by decide) (X.2.2.2.1 (.fieldLink RX6 30 "SilkMill$Rules" "size" "I") (by decide +kernel)) rfl (gv_600 _ _) dX6_closeRule_24 ?_
    refine lv_iload_n X.1 X.2.1 dX6_closeRule_27 rfl (lv_at hl 2 rfl) ?_
    have t_24 : At S_18 q_9 134 := tAt_sA eS_18 h_11
    have t_25 : pN S_18 q_9 = 12 := tN_sA eS_18 h_12
    clear h_12
    refine r_iast X hw t_24 rfl (by rw [t_25]; exact z_ix rfl (by omega) (by omega)) dX6_closeRule_28 (fun H locs hw => ?_)
    obtain ⟨S_26, eS_26⟩ : ∃ T, T = sA S_18 q_9 (upd (pA S_18 q_9) (Int32.toNatClampNeg (v_1)) (a2)) := ⟨_, rfl⟩
    rw [← eS_26] at hw
    have hO_27 : Ok MRc S S_26 := hO_19.sA eS_26 t_24 (by decide +kernel) (uA_134 hO_19.1 t_24)
    have h_28 : pA S_26 q_9 (Int32.toNatClampNeg (v_1)) = a2 := tA_sAs eS_26
    refine lv_aload_n X.1 X.2.1 dX6_closeRule_29 rfl (lv_at hl 0 rfl) ?_
    refine lv_dup X.1 X.2.1 dX6_closeRule_30 rfl ?_
    have t_29 : At S_26 x 6 := tAt_sA eS_26 t_21
    have t_30 : pI S_26 600 x = v_1 := tI_sA eS_26 t_23
    refine r_getI (g := 600) (x := v_1) X hw t_29 rfl 0 t_30 (by decide) rfl inn_X6_closeRule_6 (by decide) (X.2.2.2.1 (.fieldLink RX6 30 "SilkMill$Rules" "size" "I") (by decide +kernel)) rfl (gv_600 _ _) dX6_closeRule_31 ?_
    refine lv_iconst (v := 1) X.1 X.2.1 dX6_closeRule_34 (by decide) ?_
    refine lv_iadd X.1 X.2.1 dX6_closeRule_35 ?_
    refine lv_topi (fun v_31 ev_31 => ?_)
    have z_32 : v_31.toInt = v_1.toInt + 1 := z_add ev_31 rfl ti_1 (by omega) (by omega)
    refine r_putI (v := v_31) X hw t_29 rfl 0 600 tyX6 (by decide) rfl inn_X6_closeRule_6 tyX6_ok nmX6 (by decide) (X.2.2.2.1 (.fieldLink RX6 30 "SilkMill$Rules" "size" "I") (by decide +kernel)) rfl (Or.inl rfl) rfl rfl (Nat.le_of_ble_eq_true rfl) (st_600 _ _) dX6_closeRule_36 (fun H locs hw => ?_)
    obtain ⟨S_33, eS_33⟩ : ∃ T, T = sI S_26 600 x (v_31) := ⟨_, rfl⟩
    rw [← eS_33] at hw
    have hO_34 : Ok MRc S S_33 := hO_27.sI eS_33 (by decide +kernel) (uI_6_600 hO_27.1 t_29 (by omega) (by omega))
    have h_35 : pI S_33 600 x = v_31 := tI_sIs eS_33
    have pz_36 : (pI S_33 600 x).toInt = v_31.toInt := (congrArg Int32.toInt h_35).trans rfl
    exact ret_v X hw hr hlocks (Nat.le_of_ble_eq_true rfl) (Nat.le_of_ble_eq_true rfl) ⟨hO_34, ⟨by omega, q_5, q_9, (Int32.toNatClampNeg (v_1)), v_31, S_18, S_26, ⟨h_6, h_10⟩, (by rw [z_nc rfl (by omega)]; omega), (by omega), eS_18, eS_26, eS_33⟩⟩ dX6_closeRule_39
