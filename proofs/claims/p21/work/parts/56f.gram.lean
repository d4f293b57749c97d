
set_option maxHeartbeats 4000000 in
set_option maxRecDepth 100000 in
theorem k_X10_forgetFault2 (l : Launch) (G : va_G) (cy : Nat → ClassId) (κ : Nat → Nat) (S : PS) (sz : Nat) (x : Nat) (hG : GX S) (ha_x : At S x 10) : Cv l yX10_forgetFault wsX10_forgetFault ({ frames := 1, cells := 0, slots := 0, locals := 48 }) G cy κ S sz [.ref x] (fun (S9 : PS) => Ok MLf S S9 ∧ (True)) := by
  refine ent_m (cc := cX10_forgetFault) (maxL := 1) (ret := none) (by decide) rfl (Nat.le_of_ble_eq_true rfl) ?_
  intro p e s m below meth c ls X hr hlocks hin hw hl hsz
  subst hsz
  have X : Cx p c cX10_forgetFault 1 s [.ref x].toArray wsX10_forgetFault RX10 m G cy κ (AS S s.heap.size) := X
  have hl : lv_has ls 1 [(0, .ref x)] := hl
  have hO : Ok MLf S S := Ok.rf hG
  refine lv_aload_n X.1 X.2.1 dX10_forgetFault_0 rfl (lv_at hl 0 rfl) ?_
  refine lv_iconst (v := 0) X.1 X.2.1 dX10_forgetFault_1 (by decide) ?_
  refine r_putI (v := 0) X hw ha_x rfl 1 1001 tyX10 (by decide) rfl inn_X10_forgetFault_10 tyX10_ok nmX10 (by decide) (X.2.2.2.1 (.fieldLink RX10 22 "SilkMill$Tape" "faultKind" "I") (by decide +kernel)) rfl (Or.inl rfl) rfl rfl (Nat.le_of_ble_eq_true rfl) (st_1001 _ _) dX10_forgetFault_2 (fun H locs hw => ?_)
  obtain ⟨S_1, eS_1⟩ : ∃ T, T = sI S 1001 x (0) := ⟨_, rfl⟩
  rw [← eS_1] at hw
  have hO_2 : Ok MLf S S_1 := hO.sI eS_1 (by decide +kernel) (uI_10_1001 hO.1 ha_x)
  have h_3 : pI S_1 1001 x = 0 := tI_sIs eS_1
  refine lv_aload_n X.1 X.2.1 dX10_forgetFault_5 rfl (lv_at hl 0 rfl) ?_
  refine lv_iconst (v := (-1)) X.1 X.2.1 dX10_forgetFault_6 (by decide) ?_
  have t_4 : At S_1 x 10 := tAt_sI eS_1 ha_x
  refine r_putI (v := (-1)) X hw t_4 rfl 2 1002 tyX10 (by decide) rfl inn_X10_forgetFault_10 tyX10_ok nmX10 (by decide) (X.2.2.2.1 (.fieldLink RX10 9 "SilkMill$Tape" "faultPlace" "I") (by decide +kernel)) rfl (Or.inl rfl) rfl rfl (Nat.le_of_ble_eq_true rfl) (st_1002 _ _) dX10_forgetFault_7 (fun H locs hw => ?_)
  obtain ⟨S_5, eS_5⟩ : ∃ T, T = sI S_1 1002 x ((-1)) := ⟨_, rfl⟩
  rw [← eS_5] at hw
  have hO_6 : Ok MLf S S_5 := hO_2.sI eS_5 (by decide +kernel) (uI_10_1002 hO_2.1 t_4)
  have h_7 : pI S_5 1002 x = (-1) := tI_sIs eS_5
  exact ret_v X hw hr hlocks (Nat.le_of_ble_eq_true rfl) (Nat.le_of_ble_eq_true rfl) ⟨hO_6, trivial⟩ dX10_forgetFault_10
set_option maxHeartbeats 4000000 in
set_option maxRecDepth 100000 in
theorem k_X10_readInto2 (l : Launch) (G : va_G) (cy : Nat → ClassId) (κ : Nat → Nat) (S : PS) (sz : Nat) (x : Nat) (r1 : Nat) (hG : GX S) (ha_x : At S x 10) (ha_r1 : At S r1 6) (hp_0 : RuD S r1) : Ci l yX10_readInto wsX10_readInto ({ frames := 10, cells := 0, slots := 0, locals := 480 }) G cy κ S sz [.ref x, .ref r1] (fun (r : Int32) (S9 : PS) => Ok MLr S S9 ∧ ((((prF (tB S x) (pI S 1000 x).toInt.toNat 13 0 (tokF (tB S x) (pI S 1000 x).toInt.toNat 0)).1 = 0 ∧ (pI S9 600 r1).toInt = ((prF (tB S x) (pI S 1000 x).toInt.toNat 13 0 (tokF (tB S x) (pI S 1000 x).toInt.toNat 0)).2 : Int) ∧ RuIs S9 r1 (prL (tB S x) (pI S 1000 x).toInt.toNat 13 0 (tokF (tB S x) (pI S 1000 x).toInt.toNat 0)) ∧ RuK S S9 r1) ∧ r = 1) ∨ (((prF (tB S x) (pI S 1000 x).toInt.toNat 13 0 (tokF (tB S x) (pI S 1000 x).toInt.toNat 0)).1 ≠ 0 ∧ (pI S9 1001 x).toInt = (prF (tB S x) (pI S 1000 x).toInt.toNat 13 0 (tokF (tB S x) (pI S 1000 x).toInt.toNat 0)).1 ∧ RuK S S9 r1) ∧ r = 0))) := by
  refine ent_m (cc := cX10_readInto) (maxL := 3) (ret := (some .boolean)) (by decide) rfl (Nat.le_of_ble_eq_true rfl) ?_
  intro p e s m below meth c ls X hr hlocks hin hw hl hsz
  subst hsz
  have X : Cx p c cX10_readInto 3 s [.ref x, .ref r1].toArray wsX10_readInto RX10 m G cy κ (AS S s.heap.size) := X
  have hl : lv_has ls 3 [(0, .ref x), (1, .ref r1)] := hl
  have hO : Ok MLr S S := Ok.rf hG
  generalize hQQ : MQ below _ _ _ _ _ _ = QQ
  replace hQQ := hQQ.symm
  obtain ⟨v_1, ev_1⟩ : ∃ v, pI S 600 r1 = v := ⟨_, rfl⟩
  have rg_2 := gI_6_600 hO.1 ha_r1; rw [ev_1] at rg_2
  have pz_3 : (pI S 600 r1).toInt = v_1.toInt := by rw [ev_1]
  have pz_4 : (pI S 600 r1).toInt = v_1.toInt := (congrArg Int32.toInt ev_1).trans rfl
  refine lv_aload_n X.1 X.2.1 dX10_readInto_0 rfl (lv_at hl 0 rfl) ?_
  refine k_v (rm := { frames := 1, cells := 0, slots := 0, locals := 48 }) (av := [.ref x]) X hw (va_runV (As := []) (rest := []) (cfix X) (k_X10_forgetFault2 l G cy κ S _ x hO.1 ha_x) (cwV 0 X.2.2.2.1 gX10_readInto_X10_forgetFault rfl rfl rfl (by decide +kernel) ⟨Nat.le_of_ble_eq_true rfl, Nat.le_of_ble_eq_true rfl⟩) (pre_V X hw _ ha_x rfl (by decide) rfl) rfl rfl hl.1 rfl (lv_room (Nat.le_of_ble_eq_true rfl)) dX10_readInto_1 ⟨Nat.le_of_ble_eq_true rfl, Nat.le_of_ble_eq_true rfl⟩) 0 0 (Nat.le_of_ble_eq_true rfl) (Nat.le_of_ble_eq_true rfl) (fun S_6 H locs hp hw hfr hnw => ?_)
  obtain ⟨hk_7, hp⟩ := hp
  have hO_8 : Ok MLr S S_6 := hO.call hk_7 (by decide +kernel)
  refine lv_aload_n X.1 X.2.1 dX10_readInto_4 rfl (lv_at hl 1 rfl) ?_
  refine lv_iconst (v := 0) X.1 X.2.1 dX10_readInto_5 (by decide) ?_
  have t_9 : At S_6 r1 6 := hk_7.fr.at ha_r1
  refine r_putI (v := 0) X hw t_9 rfl 0 600 tyX6 (by decide) rfl inn_X10_readInto_6 tyX6_ok nmX6 (by decide) (X.2.2.2.1 (.fieldLink RX10 28 "SilkMill$Rules" "size" "I") (by decide +kernel)) rfl (Or.inl rfl) rfl rfl (Nat.le_of_ble_eq_true rfl) (st_600 _ _) dX10_readInto_6 (fun H locs hw => ?_)
  obtain ⟨S_10, eS_10⟩ : ∃ T, T = sI S_6 600 r1 (0) := ⟨_, rfl⟩
  rw [← eS_10] at hw
  have hO_11 : Ok MLr S S_10 := hO_8.sI eS_10 (by decide +kernel) (uI_6_600 hO_8.1 t_9 (by rw [ti_0]; omega) (by rw [ti_0]; omega))
  have h_12 : pI S_10 600 r1 = 0 := tI_sIs eS_10
  have pz_13 : (pI S_10 600 r1).toInt = 0 := (congrArg Int32.toInt h_12).trans ti_0
  have rc_14 : RuIs S_10 r1 [] := RuIs_0 (by omega)
  refine lv_aload_n X.1 X.2.1 dX10_readInto_9 rfl (lv_at hl 0 rfl) ?_
  refine lv_iconst (v := 0) X.1 X.2.1 dX10_readInto_10 (by decide) ?_
  have t_15 : At S_6 x 10 := hk_7.fr.at ha_x
  have t_16 : At S_10 x 10 := tAt_sI eS_10 t_15
  refine r_putI (v := 0) X hw t_16 rfl 6 1006 tyX10 (by decide) rfl inn_X10_readInto_10 tyX10_ok nmX10 (by decide) (X.2.2.2.1 (.fieldLink RX10 31 "SilkMill$Tape" "behind" "I") (by decide +kernel)) rfl (Or.inl rfl) rfl rfl (Nat.le_of_ble_eq_true rfl) (st_1006 _ _) dX10_readInto_11 (fun H locs hw => ?_)
  obtain ⟨S_17, eS_17⟩ : ∃ T, T = sI S_10 1006 x (0) := ⟨_, rfl⟩
  rw [← eS_17] at hw
  have hO_18 : Ok MLr S S_17 := hO_11.sI eS_17 (by decide +kernel) (uI_10_1006 hO_11.1 t_16)
  have h_19 : pI S_17 1006 x = 0 := tI_sIs eS_17
  refine lv_aload_n X.1 X.2.1 dX10_readInto_14 rfl (lv_at hl 0 rfl) ?_
  have t_20 : At S_17 x 10 := tAt_sI eS_17 t_16
  have pz_21 : (pI S_17 1006 x).toInt = 0 := (congrArg Int32.toInt h_19).trans ti_0
  refine k_v (rm := { frames := 2, cells := 0, slots := 0, locals := 96 }) (av := [.ref x]) X hw (va_runV (As := []) (rest := []) (cfix X) (k_X10_advance2 l G cy κ S_17 _ x hO_18.1 t_20 (by omega) (by omega)) (cwV 0 X.2.2.2.1 gX10_readInto_X10_advance rfl rfl rfl (by decide +kernel) ⟨Nat.le_of_ble_eq_true rfl, Nat.le_of_ble_eq_true rfl⟩) (pre_V X hw _ t_20 rfl (by decide) rfl) rfl rfl hl.1 rfl (lv_room (Nat.le_of_ble_eq_true rfl)) dX10_readInto_15 ⟨Nat.le_of_ble_eq_true rfl, Nat.le_of_ble_eq_true rfl⟩) 0 0 (Nat.le_of_ble_eq_true rfl) (Nat.le_of_ble_eq_true rfl) (fun S_23 H locs hp hw hfr hnw => ?_)
  obtain ⟨hk_24, hp⟩ := hp
  have hO_25 : Ok MLr S S_23 := hO_18.call hk_24 (by decide +kernel)
  have gb_26 : GB (tB S x) (pI S 1000 x).toInt.toNat S_23 x (tokF (tB S x) (pI S 1000 x).toInt.toNat 0) := GB_0 (tB_fr hG ha_x hO_18.fr (by decide +kernel)) (by rw [hO_18.fr.I' (g := 1000) (by decide +kernel) ha_x rfl]) (by omega) hp.1
  have ok_27 := hdI (GB_ok hG ha_x gb_26)
  have ok_28 : ((tokF (tB S x) (pI S 1000 x).toInt.toNat 0)).2.1 ≤ ((tokF (tB S x) (pI S 1000 x).toInt.toNat 0)).2.2 ∧ ((tokF (tB S x) (pI S 1000 x).toInt.toNat 0)).2.2 ≤ 400 := ⟨(hdE ok_27).1, (hdE ok_27).2.1⟩
  refine lv_iconst (v := 0) X.1 X.2.1 dX10_readInto_18 (by decide) ?_
  refine lv_istore_n (lv' := [(2, .int 0), (0, .ref x), (1, .ref r1)]) X.1 X.2.1 dX10_readInto_19 rfl hl (by decide) rfl (fun ls hl => ?_)
  have L_29 : ∀ (n : Nat) (T_31 : PS) (H : Heap) (locs : List Loc) (ls : Array Slot) (i2_30 : Int32) (i2_30_z : Int), ((13 - i2_30_z).toNat = n) → (Wd G cy (AS S s.heap.size) s.heap T_31 H locs) → (i2_30.toInt = i2_30_z) → (0 ≤ i2_30_z ∧ i2_30_z ≤ 13) → (At T_31 r1 6) → (At T_31 x 10) → (Ok MLr S T_31) → (∃ t R, GB (tB S x) (pI S 1000 x).toInt.toNat T_31 x t ∧ (pI T_31 600 r1).toInt = i2_30_z ∧ prF (tB S x) (pI S 1000 x).toInt.toNat (13 - i2_30_z).toNat (i2_30_z).toNat t = prF (tB S x) (pI S 1000 x).toInt.toNat 13 0 (tokF (tB S x) (pI S 1000 x).toInt.toNat 0) ∧ RuIs T_31 r1 R ∧ R ++ prL (tB S x) (pI S 1000 x).toInt.toNat (13 - i2_30_z).toNat (i2_30_z).toNat t = prL (tB S x) (pI S 1000 x).toInt.toNat 13 0 (tokF (tB S x) (pI S 1000 x).toInt.toNat 0)) → (RuK S T_31 r1) → (lv_has ls 3 [(2, .int (i2_30)), (0, .ref x), (1, .ref r1)]) → W p l e ({ frames := 10, cells := 0, slots := 0, locals := 480 }) s m [.ref x, .ref r1].toArray below meth c H locs 0 0 QQ (F0 m 20 ls []) := by
    intro n
    induction n using Nat.strongRecOn with
    | ind n ih =>
    intro T_31 H locs ls i2_30 i2_30_z hn hw hz_i2_30 hr_i2_30 ha_r1_L_32 ha_x_L_33 hO_T_31 iv_34 iv_35 hl
    have rg_36 : (-2147483648) ≤ i2_30_z ∧ i2_30_z ≤ 2147483647 := by rw [← hz_i2_30]; exact ⟨z_lo _, z_hi _⟩
    obtain ⟨t_37, R_38, gb_39, im_40, ec_41, rc_42, pe_43⟩ := iv_34
    have axg_44 : ∀ a k, At S a k → At T_31 a k := fun a k h => hO_T_31.fr.at h
    have rpr_45 : ∀ g, g ∈ ruG → pR T_31 g r1 = pR S g r1 := ru_pR hO_T_31.fr ha_r1 (by decide +kernel)
    have ok_46 := hdI (GB_ok hG ha_x gb_39)
    have ok_47 : (t_37).2.1 ≤ (t_37).2.2 ∧ (t_37).2.2 ≤ 400 := ⟨(hdE ok_46).1, (hdE ok_46).2.1⟩
    obtain ⟨v_48, ev_48⟩ : ∃ v, pI T_31 600 r1 = v := ⟨_, rfl⟩
    have rg_49 := gI_6_600 hO_T_31.1 ha_r1_L_32; rw [ev_48] at rg_49
    have pz_50 : (pI T_31 600 r1).toInt = v_48.toInt := by rw [ev_48]
    have pz_51 : (pI T_31 600 r1).toInt = v_48.toInt := (congrArg Int32.toInt ev_48).trans rfl
    refine lv_iload_n X.1 X.2.1 dX10_readInto_20 rfl (lv_at hl 0 rfl) ?_
    refine lv_bipush (v := 12) X.1 X.2.1 dX10_readInto_21 (by decide) ?_
    refine lv_icmp_gt (tgt := 49) X.1 X.2.1 dX10_readInto_23 (by decide) (fun c_52 => ?_) (fun c_52 => ?_)
    · have z_b_53 := trivial
      have k_54 : i2_30_z > 12 := z_lt ti_12 hz_i2_30 c_52
      refine lv_iconst (v := 1) X.1 X.2.1 dX10_readInto_49 (by decide) ?_
      rw [hQQ]
      exact ret_z X hw hr hlocks (Nat.le_of_ble_eq_true rfl) (Nat.le_of_ble_eq_true rfl) (by decide) ⟨hO_T_31, Or.inl ⟨by exfalso; omega, rfl⟩⟩ dX10_readInto_50
    · have z_b_56 := trivial
      have k_57 : i2_30_z ≤ 12 := z_nlt ti_12 hz_i2_30 c_52
      refine lv_aload_n X.1 X.2.1 dX10_readInto_26 rfl (lv_at hl 1 rfl) ?_
      obtain ⟨v_58, ev_58⟩ : ∃ v, pI T_31 1004 x = v := ⟨_, rfl⟩
      have rg_60 := And.intro (z_lo v_58) (z_hi v_58)
      have pz_61 : (pI T_31 1004 x).toInt = v_58.toInt := by rw [ev_58]
      have pz_62 : (pI T_31 1004 x).toInt = v_58.toInt := (congrArg Int32.toInt ev_58).trans rfl
      have tk_63 := gb_39.1.1
      refine r_getI (g := 1004) (x := v_58) X hw ha_x_L_33 rfl 4 ev_58 (by decide) rfl inn_X10_readInto_10 (by decide) (X.2.2.2.1 (.fieldLink RX10 37 "SilkMill$Tape" "token" "I") (by decide +kernel)) rfl (gv_1004 _ _) dX10_readInto_27 ?_
      refine lv_if_eq (tgt := 49) X.1 X.2.1 dX10_readInto_30 (by decide) (fun c_64 => ?_) (fun c_64 => ?_)
      · have z_b_65 := trivial
        have k_66 : v_58.toInt = 0 := z_eq rfl ti_0 c_64
        refine lv_iconst (v := 1) X.1 X.2.1 dX10_readInto_49 (by decide) ?_
        have ea_67 : prF (tB S x) (pI S 1000 x).toInt.toNat 13 0 (tokF (tB S x) (pI S 1000 x).toInt.toNat 0) = (0, (i2_30_z).toNat) := by rw [← ec_41, show (13 - i2_30_z).toNat = (12 - i2_30_z).toNat + 1 by omega]; exact prF_e (by omega)
        have el_68 : prL (tB S x) (pI S 1000 x).toInt.toNat 13 0 (tokF (tB S x) (pI S 1000 x).toInt.toNat 0) = R_38 := by have h := pe_43; rw [show (13 - i2_30_z).toNat = (12 - i2_30_z).toNat + 1 by omega, prL_e (by omega), List.append_nil] at h; exact h.symm
        rw [hQQ]
        exact ret_z X hw hr hlocks (Nat.le_of_ble_eq_true rfl) (Nat.le_of_ble_eq_true rfl) (by decide) ⟨hO_T_31, Or.inl ⟨by rw [ea_67, el_68]; exact ⟨rfl, by show _ = (((i2_30_z).toNat : Nat) : Int); omega, rc_42, iv_35⟩, rfl⟩⟩ dX10_readInto_50
      · have z_b_69 := trivial
        have k_70 : v_58.toInt ≠ 0 := z_ne rfl ti_0 c_64
        have hk_71 : (t_37).1 ≠ 0 := by omega
        have pz_72 : (pI T_31 600 r1).toInt = v_48.toInt := (congrArg Int32.toInt ev_48).trans rfl
        refine lv_aload_n X.1 X.2.1 dX10_readInto_33 rfl (lv_at hl 1 rfl) ?_
        refine lv_aload_n X.1 X.2.1 dX10_readInto_34 rfl (lv_at hl 2 rfl) ?_
        have rl_73 := rc_42.1
        refine k_i (rm := { frames := 9, cells := 0, slots := 0, locals := 432 }) (av := [.ref x, .ref r1]) X hw (va_runV (As := [.ref r1]) (rest := []) (cfix X) (k_X10_readRule2 l G cy κ T_31 _ x r1 t_37 R_38 hO_T_31.1 ha_x_L_33 ha_r1_L_32 (by rw [tB_fr hG ha_x hO_T_31.fr (by decide +kernel), hO_T_31.fr.I' (g := 1000) (by decide +kernel) ha_x rfl]; exact gb_39) rc_42 (RuD_to rpr_45 hp_0)) (cwV 1 X.2.2.2.1 gX10_readInto_X10_readRule rfl rfl rfl (by decide +kernel) ⟨Nat.le_of_ble_eq_true rfl, Nat.le_of_ble_eq_true rfl⟩) (pre_V X hw _ ha_x_L_33 rfl (by decide) rfl) rfl rfl hl.1 rfl (lv_room (Nat.le_of_ble_eq_true rfl)) dX10_readInto_35 ⟨Nat.le_of_ble_eq_true rfl, Nat.le_of_ble_eq_true rfl⟩) 0 0 (Nat.le_of_ble_eq_true rfl) (Nat.le_of_ble_eq_true rfl) (fun rr_74 S_75 H locs hp hw hfr hnw => ?_)
        obtain ⟨hk_76, hp⟩ := hp
        have hO_77 : Ok MLr S S_75 := hO_T_31.call hk_76 (by decide +kernel)
        rcases hp with ⟨f_78, er_79⟩ | ⟨f_78, er_79⟩ <;> subst er_79
        · have z_b_80 := trivial
          rw [tB_fr hG ha_x hO_T_31.fr (by decide +kernel), hO_T_31.fr.I' (g := 1000) (by decide +kernel) ha_x rfl] at f_78
          have ok_81 := hdI (GB_ok hG ha_x f_78.2.1)
          have ok_82 : ((rueF (tB S x) (pI S 1000 x).toInt.toNat (pI T_31 600 r1).toInt.toNat t_37).2).2.1 ≤ ((rueF (tB S x) (pI S 1000 x).toInt.toNat (pI T_31 600 r1).toInt.toNat t_37).2).2.2 ∧ ((rueF (tB S x) (pI S 1000 x).toInt.toNat (pI T_31 600 r1).toInt.toNat t_37).2).2.2 ≤ 400 := ⟨(hdE ok_81).1, (hdE ok_81).2.1⟩
          refine lv_if_ne (tgt := 43) X.1 X.2.1 dX10_readInto_38 (by decide) (fun c_83 => ?_) (fun c_83 => absurd c_83 (by decide))
          obtain ⟨x_84, ex_84⟩ : ∃ y : Int32, y = i2_30 + 1 := ⟨_, rfl⟩
          have z_85 : x_84.toInt = i2_30_z + 1 := z_add ex_84 hz_i2_30 ti_1 (by omega) (by omega)
          refine lv_iinc (v := x_84) (lv' := [(2, .int (x_84)), (0, .ref x), (1, .ref r1)]) X.1 X.2.1 dX10_readInto_43 hl (k := 0) rfl (by rw [ex_84]; rfl) (by decide) rfl (fun ls hl => ?_)
          refine lv_goto (tgt := 20) X.1 X.2.1 dX10_readInto_46 (by decide) ?_
          have t_86 : At S_75 r1 6 := hk_76.fr.at ha_r1_L_32
          have t_87 : At S_75 x 10 := hk_76.fr.at ha_x_L_33
          obtain ⟨v_89, ev_89⟩ : ∃ v, pI S_75 600 r1 = v := ⟨_, rfl⟩
          have rg_90 := gI_6_600 hO_77.1 t_86; rw [ev_89] at rg_90
          have pz_91 : (pI S_75 600 r1).toInt = v_89.toInt := by rw [ev_89]
          have pz_92 : (pI S_75 600 r1).toInt = v_89.toInt := (congrArg Int32.toInt ev_89).trans rfl
          have pa_93 : prF (tB S x) (pI S 1000 x).toInt.toNat (13 - x_84.toInt).toNat (x_84.toInt).toNat (rueF (tB S x) (pI S 1000 x).toInt.toNat (pI T_31 600 r1).toInt.toNat t_37).2 = prF (tB S x) (pI S 1000 x).toInt.toNat 13 0 (tokF (tB S x) (pI S 1000 x).toInt.toNat 0) := by rw [show (x_84.toInt).toNat = (i2_30_z).toNat + 1 by omega, show (pI T_31 600 r1).toInt.toNat = (i2_30_z).toNat by omega, ← prF_r hk_71 (by have h := f_78.1; rw [show (pI T_31 600 r1).toInt.toNat = (i2_30_z).toNat by omega] at h; exact h), show (13 - x_84.toInt).toNat + 1 = (13 - i2_30_z).toNat by omega]; exact ec_41
          have pb_94 : (R_38 ++ [ruV (tB S x) (pI S 1000 x).toInt.toNat t_37]) ++ prL (tB S x) (pI S 1000 x).toInt.toNat (13 - x_84.toInt).toNat (x_84.toInt).toNat (rueF (tB S x) (pI S 1000 x).toInt.toNat (pI T_31 600 r1).toInt.toNat t_37).2 = prL (tB S x) (pI S 1000 x).toInt.toNat 13 0 (tokF (tB S x) (pI S 1000 x).toInt.toNat 0) := by have h := pe_43; rw [show (13 - i2_30_z).toNat = (13 - x_84.toInt).toNat + 1 by omega, prL_r hk_71] at h; rw [show (x_84.toInt).toNat = (i2_30_z).toNat + 1 by omega, show (pI T_31 600 r1).toInt.toNat = (i2_30_z).toNat by omega]; exact app_c h
          have ruk_95 : RuK S S_75 r1 := RuK_tr iv_35 axg_44 rpr_45 f_78.2.2.2.2
          exact ih _ (by omega) _ _ _ _ (x_84) (x_84.toInt) rfl hw rfl (by omega) t_86 t_87 hO_77 ⟨(rueF (tB S x) (pI S 1000 x).toInt.toNat (pI T_31 600 r1).toInt.toNat t_37).2, (R_38 ++ [ruV (tB S x) (pI S 1000 x).toInt.toNat t_37]), f_78.2.1, by omega, pa_93, f_78.2.2.2.1, pb_94⟩ ruk_95 (lv_sub hl [0, 1, 2] rfl)
        · have z_b_96 := trivial
          rw [tB_fr hG ha_x hO_T_31.fr (by decide +kernel), hO_T_31.fr.I' (g := 1000) (by decide +kernel) ha_x rfl] at f_78
          refine lv_if_ne (tgt := 43) X.1 X.2.1 dX10_readInto_38 (by decide) (fun c_97 => absurd c_97 (by decide)) (fun c_97 => ?_)
          refine lv_iconst (v := 0) X.1 X.2.1 dX10_readInto_41 (by decide) ?_
          have ruk_99 : RuK S S_75 r1 := RuK_tr iv_35 axg_44 rpr_45 f_78.2.2
          have ea_98 : prF (tB S x) (pI S 1000 x).toInt.toNat 13 0 (tokF (tB S x) (pI S 1000 x).toInt.toNat 0) = ((rueF (tB S x) (pI S 1000 x).toInt.toNat (pI T_31 600 r1).toInt.toNat t_37).1, (i2_30_z).toNat) := by rw [← ec_41, show (13 - i2_30_z).toNat = (12 - i2_30_z).toNat + 1 by omega, show (pI T_31 600 r1).toInt.toNat = (i2_30_z).toNat by omega]; exact prF_f (by omega) (by have h := f_78.1; rw [show (pI T_31 600 r1).toInt.toNat = (i2_30_z).toNat by omega] at h; exact h)
          rw [hQQ]
          exact ret_z X hw hr hlocks (Nat.le_of_ble_eq_true rfl) (Nat.le_of_ble_eq_true rfl) (by decide) ⟨hO_77, Or.inr ⟨by rw [ea_98]; exact ⟨f_78.1, f_78.2.1, ruk_99⟩, rfl⟩⟩ dX10_readInto_42
  have t_100 : At S_10 r1 6 := tAt_sI eS_10 t_9
  have t_101 : At S_17 r1 6 := tAt_sI eS_17 t_100
  have t_102 : At S_23 r1 6 := hk_24.fr.at t_101
  have t_103 : At S_23 x 10 := hk_24.fr.at t_20
  have t_104 : pI S_17 600 r1 = 0 := tI_sI eS_17 rfl h_12
  have t_106 : At S_10 r1 6 := tAt_sI eS_10 t_9
  have t_107 : At S_17 r1 6 := tAt_sI eS_17 t_106
  have t_105 : pI S_23 600 r1 = 0 := hk_24.fr.I' (by decide +kernel) t_107 t_104
  have pz_108 : (pI S_23 600 r1).toInt = 0 := (congrArg Int32.toInt t_105).trans ti_0
  have rc_109 : RuIs S_17 r1 ([] : List Ru) := RuIs_sI rc_14 eS_17 (by decide)
  have rc_110 : RuIs S_23 r1 ([] : List Ru) := RuIs_fr hO_18.1 t_107 hk_24.fr (by decide +kernel) rc_109
  have pa_111 : prF (tB S x) (pI S 1000 x).toInt.toNat (13 - (0 : Int)).toNat (0 : Int).toNat (tokF (tB S x) (pI S 1000 x).toInt.toNat 0) = prF (tB S x) (pI S 1000 x).toInt.toNat 13 0 (tokF (tB S x) (pI S 1000 x).toInt.toNat 0) := by rw [show (13 - (0 : Int)).toNat = 13 from rfl, show (0 : Int).toNat = 0 from rfl]
  have pb_112 : [] ++ prL (tB S x) (pI S 1000 x).toInt.toNat (13 - (0 : Int)).toNat (0 : Int).toNat (tokF (tB S x) (pI S 1000 x).toInt.toNat 0) = prL (tB S x) (pI S 1000 x).toInt.toNat 13 0 (tokF (tB S x) (pI S 1000 x).toInt.toNat 0) := by rw [show (13 - (0 : Int)).toNat = 13 from rfl, show (0 : Int).toNat = 0 from rfl, List.nil_append]
  have ruk_113 : RuK S S_6 r1 := RuK_fr (RuK_rf S r1) (fun _ _ h => h) hk_7.fr (by decide +kernel)
  have ruk_114 : RuK S S_10 r1 := RuK_s6 ruk_113 eS_10
  have ruk_115 : RuK S S_17 r1 := RuK_sI ruk_114 eS_17 (by decide)
  have axg_117 : ∀ a k, At S a k → At S_6 a k := fun a k h => hk_7.fr.at ((fun _ _ h => h) a k h)
  have axg_118 : ∀ a k, At S a k → At S_10 a k := fun a k h => tAt_sI eS_10 (axg_117 a k h)
  have axg_119 : ∀ a k, At S a k → At S_17 a k := fun a k h => tAt_sI eS_17 (axg_118 a k h)
  have ruk_116 : RuK S S_23 r1 := RuK_fr ruk_115 axg_119 hk_24.fr (by decide +kernel)
  exact L_29 _ _ _ _ _ (0) (0) rfl hw ti_0 (by omega) t_102 t_103 hO_25 ⟨_, [], gb_26, by omega, pa_111, rc_110, pb_112⟩ ruk_116 (lv_sub hl [0, 1, 2] rfl)
