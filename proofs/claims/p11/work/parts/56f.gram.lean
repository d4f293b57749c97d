
set_option maxHeartbeats 4000000 in
set_option maxRecDepth 100000 in
theorem k_X10_forgetFault2 (l : Launch) (G : va_G) (cy : Nat → ClassId) (κ : Nat → Nat) (S : PS) (sz : Nat) (x : Nat) (hG : GX S) (ha_x : At S x 10) : Cv l yX10_forgetFault wsX10_forgetFault ({ frames := 1, cells := 0, slots := 0, locals := 48 }) G cy κ S sz [.ref x] (fun (S9 : PS) => Ok MLf S S9 ∧ (True)) := by
  refine ent_m (cc := cX10_forgetFault) (maxL := 1) (ret := none) (by decide) rfl (Nat.le_of_ble_eq_true rfl) ?_
  intro p e s m below meth c ls X hr hlocks hin hw hl hsz
  subst hsz
  have X : Cx p c cX10_forgetFault 1 s [.ref x].toArray wsX10_forgetFault RX10 m G cy κ (AS S s.heap.size) := X
  have hl : lv_has ls 1 [(0, .ref x)] := hl
  have hO : Ok MLf S S := Ok.rf hG
  refine lv_aload_n X.1 X.2.1 dX10_forgetFault_0 rfl (lv_at hl 0 rfl) ?_
  refine lv_iconst (v := 0) X.1 X.2.1 dX10_forgetFault_1 (by decide) ?_
  refine r_putI (v := 0) X hw ha_x rfl 1 1001 tyX10 (by decide) rfl inn_X10_forgetFault_10 tyX10_ok nmX10 (by decide) (X.2.2.2.1 (.fieldLink RX10 22 "SilkMill$Tape" "faultKind" "I") (by decide +kernel)) rfl (Or.inl rfl) rfl rfl (Nat.le_of_ble_eq_true rfl) (st_1001 _ _) dX10_forgetFault_2 (fun H locs hw => ?_)
  obtain ⟨S_1, eS_1⟩ : ∃ T, T = sI S 1001 x (0) := ⟨_, rfl⟩
  rw [← eS_1] at hw
  have hO_2 : Ok MLf S S_1 := hO.sI eS_1 (by decide +kernel) (uI_10_1001 hO.1 ha_x)
  have h_3 : pI S_1 1001 x = 0 := tI_sIs eS_1
  refine lv_aload_n X.1 X.2.1 dX10_forgetFault_5 rfl (lv_at hl 0 rfl) ?_
  refine lv_iconst (v := (-1)) X.1 X.2.1 dX10_forgetFault_6 (by decide) ?_
  have t_4 : At S_1 x 10 := tAt_sI eS_1 ha_x
  refine r_putI (v := (-1)) X hw t_4 rfl 2 1002 tyX10 (by decide) rfl inn_X10_forgetFault_10 tyX10_ok nmX10 (by decide) (X.2.2.2.1 (.fieldLink RX10 9 "SilkMill$Tape" "faultPlace" "I") (by decide +kernel)) rfl (Or.inl rfl) rfl rfl (Nat.le_of_ble_eq_true rfl) (st_1002 _ _) dX10_forgetFault_7 (fun H locs hw => ?_)
  obtain ⟨S_5, eS_5⟩ : ∃ T, T = sI S_1 1002 x ((-1)) := ⟨_, rfl⟩
  rw [← eS_5] at hw
  have hO_6 : Ok MLf S S_5 := hO_2.sI eS_5 (by decide +kernel) (uI_10_1002 hO_2.1 t_4)
  have h_7 : pI S_5 1002 x = (-1) := tI_sIs eS_5
  exact ret_v X hw hr hlocks (Nat.le_of_ble_eq_true rfl) (Nat.le_of_ble_eq_true rfl) ⟨hO_6, trivial⟩ dX10_forgetFault_10
set_option maxHeartbeats 4000000 in
set_option maxRecDepth 100000 in
theorem k_X10_readInto2 (l : Launch) (G : va_G) (cy : Nat → ClassId) (κ : Nat → Nat) (S : PS) (sz : Nat) (x : Nat) (r1 : Nat) (hG : GX S) (ha_x : At S x 10) (ha_r1 : At S r1 6) : Ci l yX10_readInto wsX10_readInto ({ frames := 10, cells := 0, slots := 0, locals := 480 }) G cy κ S sz [.ref x, .ref r1] (fun (r : Int32) (S9 : PS) => Ok MLr S S9 ∧ ((((prF (tB S x) (pI S 1000 x).toInt.toNat 13 0 (tokF (tB S x) (pI S 1000 x).toInt.toNat 0)).1 = 0 ∧ (pI S9 600 r1).toInt = ((prF (tB S x) (pI S 1000 x).toInt.toNat 13 0 (tokF (tB S x) (pI S 1000 x).toInt.toNat 0)).2 : Int)) ∧ r = 1) ∨ (((prF (tB S x) (pI S 1000 x).toInt.toNat 13 0 (tokF (tB S x) (pI S 1000 x).toInt.toNat 0)).1 ≠ 0 ∧ (pI S9 1001 x).toInt = (prF (tB S x) (pI S 1000 x).toInt.toNat 13 0 (tokF (tB S x) (pI S 1000 x).toInt.toNat 0)).1) ∧ r = 0))) := by
  refine ent_m (cc := cX10_readInto) (maxL := 3) (ret := (some .boolean)) (by decide) rfl (Nat.le_of_ble_eq_true rfl) ?_
  intro p e s m below meth c ls X hr hlocks hin hw hl hsz
  subst hsz
  have X : Cx p c cX10_readInto 3 s [.ref x, .ref r1].toArray wsX10_readInto RX10 m G cy κ (AS S s.heap.size) := X
  have hl : lv_has ls 3 [(0, .ref x), (1, .ref r1)] := hl
  have hO : Ok MLr S S := Ok.rf hG
  generalize hQQ : MQ below _ _ _ _ _ _ = QQ
  replace hQQ := hQQ.symm
  obtain ⟨v_1, ev_1⟩ : ∃ v, pI S 600 r1 = v := ⟨_, rfl⟩
  have rg_2 := gI_6_600 hO.1 ha_r1; rw [ev_1] at rg_2
  have pz_3 : (pI S 600 r1).toInt = v_1.toInt := by rw [ev_1]
  have pz_4 : (pI S 600 r1).toInt = v_1.toInt := (congrArg Int32.toInt ev_1).trans rfl
  refine lv_aload_n X.1 X.2.1 dX10_readInto_0 rfl (lv_at hl 0 rfl) ?_
  refine k_v (rm := { frames := 1, cells := 0, slots := 0, locals := 48 }) (av := [.ref x]) X hw (va_runV (As := []) (rest := []) (cfix X) (k_X10_forgetFault2 l G cy κ S _ x hO.1 ha_x) (cwV 0 X.2.2.2.1 gX10_readInto_X10_forgetFault rfl rfl rfl (by decide +kernel) ⟨Nat.le_of_ble_eq_true rfl, Nat.le_of_ble_eq_true rfl⟩) (pre_V X hw _ ha_x rfl (by decide) rfl) rfl rfl hl.1 rfl (lv_room (Nat.le_of_ble_eq_true rfl)) dX10_readInto_1 ⟨Nat.le_of_ble_eq_true rfl, Nat.le_of_ble_eq_true rfl⟩) 0 0 (Nat.le_of_ble_eq_true rfl) (Nat.le_of_ble_eq_true rfl) (fun S_6 H locs hp hw hfr hnw => ?_)
  obtain ⟨hk_7, hp⟩ := hp
  have hO_8 : Ok MLr S S_6 := hO.call hk_7 (by decide +kernel)
  refine lv_aload_n X.1 X.2.1 dX10_readInto_4 rfl (lv_at hl 1 rfl) ?_
  refine lv_iconst (v := 0) X.1 X.2.1 dX10_readInto_5 (by decide) ?_
  have t_9 : At S_6 r1 6 := hk_7.fr.at ha_r1
  refine r_putI (v := 0) X hw t_9 rfl 0 600 tyX6 (by decide) rfl inn_X10_readInto_6 tyX6_ok nmX6 (by decide) (X.2.2.2.1 (.fieldLink RX10 28 "SilkMill$Rules" "size" "I") (by decide +kernel)) rfl (Or.inl rfl) rfl rfl (Nat.le_of_ble_eq_true rfl) (st_600 _ _) dX10_readInto_6 (fun H locs hw => ?_)
  obtain ⟨S_10, eS_10⟩ : ∃ T, T = sI S_6 600 r1 (0) := ⟨_, rfl⟩
  rw [← eS_10] at hw
  have hO_11 : Ok MLr S S_10 := hO_8.sI eS_10 (by decide +kernel) (uI_6_600 hO_8.1 t_9 (by rw [ti_0]; omega) (by rw [ti_0]; omega))
  have h_12 : pI S_10 600 r1 = 0 := tI_sIs eS_10
  refine lv_aload_n X.1 X.2.1 dX10_readInto_9 rfl (lv_at hl 0 rfl) ?_
  refine lv_iconst (v := 0) X.1 X.2.1 dX10_readInto_10 (by decide) ?_
  have t_13 : At S_6 x 10 := hk_7.fr.at ha_x
  have t_14 : At S_10 x 10 := tAt_sI eS_10 t_13
  refine r_putI (v := 0) X hw t_14 rfl 6 1006 tyX10 (by decide) rfl inn_X10_readInto_10 tyX10_ok nmX10 (by decide) (X.2.2.2.1 (.fieldLink RX10 31 "SilkMill$Tape" "behind" "I") (by decide +kernel)) rfl (Or.inl rfl) rfl rfl (Nat.le_of_ble_eq_true rfl) (st_1006 _ _) dX10_readInto_11 (fun H locs hw => ?_)
  obtain ⟨S_15, eS_15⟩ : ∃ T, T = sI S_10 1006 x (0) := ⟨_, rfl⟩
  rw [← eS_15] at hw
  have hO_16 : Ok MLr S S_15 := hO_11.sI eS_15 (by decide +kernel) (uI_10_1006 hO_11.1 t_14)
  have h_17 : pI S_15 1006 x = 0 := tI_sIs eS_15
  refine lv_aload_n X.1 X.2.1 dX10_readInto_14 rfl (lv_at hl 0 rfl) ?_
  have t_18 : At S_15 x 10 := tAt_sI eS_15 t_14
  have pz_19 : (pI S_15 1006 x).toInt = 0 := (congrArg Int32.toInt h_17).trans ti_0
  refine k_v (rm := { frames := 2, cells := 0, slots := 0, locals := 96 }) (av := [.ref x]) X hw (va_runV (As := []) (rest := []) (cfix X) (k_X10_advance2 l G cy κ S_15 _ x hO_16.1 t_18 (by omega) (by omega)) (cwV 0 X.2.2.2.1 gX10_readInto_X10_advance rfl rfl rfl (by decide +kernel) ⟨Nat.le_of_ble_eq_true rfl, Nat.le_of_ble_eq_true rfl⟩) (pre_V X hw _ t_18 rfl (by decide) rfl) rfl rfl hl.1 rfl (lv_room (Nat.le_of_ble_eq_true rfl)) dX10_readInto_15 ⟨Nat.le_of_ble_eq_true rfl, Nat.le_of_ble_eq_true rfl⟩) 0 0 (Nat.le_of_ble_eq_true rfl) (Nat.le_of_ble_eq_true rfl) (fun S_21 H locs hp hw hfr hnw => ?_)
  obtain ⟨hk_22, hp⟩ := hp
  have hO_23 : Ok MLr S S_21 := hO_16.call hk_22 (by decide +kernel)
  have gb_24 : GB (tB S x) (pI S 1000 x).toInt.toNat S_21 x (tokF (tB S x) (pI S 1000 x).toInt.toNat 0) := GB_0 (tB_fr hG ha_x hO_16.fr (by decide +kernel)) (by rw [hO_16.fr.I' (g := 1000) (by decide +kernel) ha_x rfl]) (by omega) hp.1
  have ok_25 := hdI (GB_ok hG ha_x gb_24)
  have ok_26 : ((tokF (tB S x) (pI S 1000 x).toInt.toNat 0)).2.1 ≤ ((tokF (tB S x) (pI S 1000 x).toInt.toNat 0)).2.2 ∧ ((tokF (tB S x) (pI S 1000 x).toInt.toNat 0)).2.2 ≤ 400 := ⟨(hdE ok_25).1, (hdE ok_25).2.1⟩
  refine lv_iconst (v := 0) X.1 X.2.1 dX10_readInto_18 (by decide) ?_
  refine lv_istore_n (lv' := [(2, .int 0), (0, .ref x), (1, .ref r1)]) X.1 X.2.1 dX10_readInto_19 rfl hl (by decide) rfl (fun ls hl => ?_)
  have L_27 : ∀ (n : Nat) (T_29 : PS) (H : Heap) (locs : List Loc) (ls : Array Slot) (i2_28 : Int32) (i2_28_z : Int), ((13 - i2_28_z).toNat = n) → (Wd G cy (AS S s.heap.size) s.heap T_29 H locs) → (i2_28.toInt = i2_28_z) → (0 ≤ i2_28_z ∧ i2_28_z ≤ 13) → (At T_29 r1 6) → (At T_29 x 10) → (Ok MLr S T_29) → (∃ t, GB (tB S x) (pI S 1000 x).toInt.toNat T_29 x t ∧ (pI T_29 600 r1).toInt = i2_28_z ∧ prF (tB S x) (pI S 1000 x).toInt.toNat (13 - i2_28_z).toNat (i2_28_z).toNat t = prF (tB S x) (pI S 1000 x).toInt.toNat 13 0 (tokF (tB S x) (pI S 1000 x).toInt.toNat 0)) → (lv_has ls 3 [(2, .int (i2_28)), (0, .ref x), (1, .ref r1)]) → W p l e ({ frames := 10, cells := 0, slots := 0, locals := 480 }) s m [.ref x, .ref r1].toArray below meth c H locs 0 0 QQ (F0 m 20 ls []) := by
    intro n
    induction n using Nat.strongRecOn with
    | ind n ih =>
    intro T_29 H locs ls i2_28 i2_28_z hn hw hz_i2_28 hr_i2_28 ha_r1_L_30 ha_x_L_31 hO_T_29 iv_32 hl
    have rg_33 : (-2147483648) ≤ i2_28_z ∧ i2_28_z ≤ 2147483647 := by rw [← hz_i2_28]; exact ⟨z_lo _, z_hi _⟩
    obtain ⟨t_34, gb_35, im_36, ec_37⟩ := iv_32
    have ok_38 := hdI (GB_ok hG ha_x gb_35)
    have ok_39 : (t_34).2.1 ≤ (t_34).2.2 ∧ (t_34).2.2 ≤ 400 := ⟨(hdE ok_38).1, (hdE ok_38).2.1⟩
    obtain ⟨v_40, ev_40⟩ : ∃ v, pI T_29 600 r1 = v := ⟨_, rfl⟩
    have rg_41 := gI_6_600 hO_T_29.1 ha_r1_L_30; rw [ev_40] at rg_41
    have pz_42 : (pI T_29 600 r1).toInt = v_40.toInt := by rw [ev_40]
    have pz_43 : (pI T_29 600 r1).toInt = v_40.toInt := (congrArg Int32.toInt ev_40).trans rfl
    refine lv_iload_n X.1 X.2.1 dX10_readInto_20 rfl (lv_at hl 0 rfl) ?_
    refine lv_bipush (v := 12) X.1 X.2.1 dX10_readInto_21 (by decide) ?_
    refine lv_icmp_gt (tgt := 49) X.1 X.2.1 dX10_readInto_23 (by decide) (fun c_44 => ?_) (fun c_44 => ?_)
    · have z_b_45 := trivial
      have k_46 : i2_28_z > 12 := z_lt ti_12 hz_i2_28 c_44
      refine lv_iconst (v := 1) X.1 X.2.1 dX10_readInto_49 (by decide) ?_
      rw [hQQ]
      exact ret_z X hw hr hlocks (Nat.le_of_ble_eq_true rfl) (Nat.le_of_ble_eq_true rfl) (by decide) ⟨hO_T_29, Or.inl ⟨by exfalso; omega, rfl⟩⟩ dX10_readInto_50
    · have z_b_48 := trivial
      have k_49 : i2_28_z ≤ 12 := z_nlt ti_12 hz_i2_28 c_44
      refine lv_aload_n X.1 X.2.1 dX10_readInto_26 rfl (lv_at hl 1 rfl) ?_
      obtain ⟨v_50, ev_50⟩ : ∃ v, pI T_29 1004 x = v := ⟨_, rfl⟩
      have rg_52 := And.intro (z_lo v_50) (z_hi v_50)
      have pz_53 : (pI T_29 1004 x).toInt = v_50.toInt := by rw [ev_50]
      have pz_54 : (pI T_29 1004 x).toInt = v_50.toInt := (congrArg Int32.toInt ev_50).trans rfl
      have tk_55 := gb_35.1.1
      refine r_getI (g := 1004) (x := v_50) X hw ha_x_L_31 rfl 4 ev_50 (by decide) rfl inn_X10_readInto_10 (by decide) (X.2.2.2.1 (.fieldLink RX10 37 "SilkMill$Tape" "token" "I") (by decide +kernel)) rfl (gv_1004 _ _) dX10_readInto_27 ?_
      refine lv_if_eq (tgt := 49) X.1 X.2.1 dX10_readInto_30 (by decide) (fun c_56 => ?_) (fun c_56 => ?_)
      · have z_b_57 := trivial
        have k_58 : v_50.toInt = 0 := z_eq rfl ti_0 c_56
        refine lv_iconst (v := 1) X.1 X.2.1 dX10_readInto_49 (by decide) ?_
        have ea_59 : prF (tB S x) (pI S 1000 x).toInt.toNat 13 0 (tokF (tB S x) (pI S 1000 x).toInt.toNat 0) = (0, (i2_28_z).toNat) := by rw [← ec_37, show (13 - i2_28_z).toNat = (12 - i2_28_z).toNat + 1 by omega]; exact prF_e (by omega)
        rw [hQQ]
        exact ret_z X hw hr hlocks (Nat.le_of_ble_eq_true rfl) (Nat.le_of_ble_eq_true rfl) (by decide) ⟨hO_T_29, Or.inl ⟨by rw [ea_59]; exact ⟨rfl, by show _ = (((i2_28_z).toNat : Nat) : Int); omega⟩, rfl⟩⟩ dX10_readInto_50
      · have z_b_60 := trivial
        have k_61 : v_50.toInt ≠ 0 := z_ne rfl ti_0 c_56
        have hk_62 : (t_34).1 ≠ 0 := by omega
        have pz_63 : (pI T_29 600 r1).toInt = v_40.toInt := (congrArg Int32.toInt ev_40).trans rfl
        refine lv_aload_n X.1 X.2.1 dX10_readInto_33 rfl (lv_at hl 1 rfl) ?_
        refine lv_aload_n X.1 X.2.1 dX10_readInto_34 rfl (lv_at hl 2 rfl) ?_
        refine k_i (rm := { frames := 9, cells := 0, slots := 0, locals := 432 }) (av := [.ref x, .ref r1]) X hw (va_runV (As := [.ref r1]) (rest := []) (cfix X) (k_X10_readRule2 l G cy κ T_29 _ x r1 t_34 hO_T_29.1 ha_x_L_31 ha_r1_L_30 (by rw [tB_fr hG ha_x hO_T_29.fr (by decide +kernel), hO_T_29.fr.I' (g := 1000) (by decide +kernel) ha_x rfl]; exact gb_35)) (cwV 1 X.2.2.2.1 gX10_readInto_X10_readRule rfl rfl rfl (by decide +kernel) ⟨Nat.le_of_ble_eq_true rfl, Nat.le_of_ble_eq_true rfl⟩) (pre_V X hw _ ha_x_L_31 rfl (by decide) rfl) rfl rfl hl.1 rfl (lv_room (Nat.le_of_ble_eq_true rfl)) dX10_readInto_35 ⟨Nat.le_of_ble_eq_true rfl, Nat.le_of_ble_eq_true rfl⟩) 0 0 (Nat.le_of_ble_eq_true rfl) (Nat.le_of_ble_eq_true rfl) (fun rr_64 S_65 H locs hp hw hfr hnw => ?_)
        obtain ⟨hk_66, hp⟩ := hp
        have hO_67 : Ok MLr S S_65 := hO_T_29.call hk_66 (by decide +kernel)
        rcases hp with ⟨f_68, er_69⟩ | ⟨f_68, er_69⟩ <;> subst er_69
        · have z_b_70 := trivial
          rw [tB_fr hG ha_x hO_T_29.fr (by decide +kernel), hO_T_29.fr.I' (g := 1000) (by decide +kernel) ha_x rfl] at f_68
          have ok_71 := hdI (GB_ok hG ha_x f_68.2.1)
          have ok_72 : ((rueF (tB S x) (pI S 1000 x).toInt.toNat (pI T_29 600 r1).toInt.toNat t_34).2).2.1 ≤ ((rueF (tB S x) (pI S 1000 x).toInt.toNat (pI T_29 600 r1).toInt.toNat t_34).2).2.2 ∧ ((rueF (tB S x) (pI S 1000 x).toInt.toNat (pI T_29 600 r1).toInt.toNat t_34).2).2.2 ≤ 400 := ⟨(hdE ok_71).1, (hdE ok_71).2.1⟩
          refine lv_if_ne (tgt := 43) X.1 X.2.1 dX10_readInto_38 (by decide) (fun c_73 => ?_) (fun c_73 => absurd c_73 (by decide))
          obtain ⟨x_74, ex_74⟩ : ∃ y : Int32, y = i2_28 + 1 := ⟨_, rfl⟩
          have z_75 : x_74.toInt = i2_28_z + 1 := z_add ex_74 hz_i2_28 ti_1 (by omega) (by omega)
          refine lv_iinc (v := x_74) (lv' := [(2, .int (x_74)), (0, .ref x), (1, .ref r1)]) X.1 X.2.1 dX10_readInto_43 hl (k := 0) rfl (by rw [ex_74]; rfl) (by decide) rfl (fun ls hl => ?_)
          refine lv_goto (tgt := 20) X.1 X.2.1 dX10_readInto_46 (by decide) ?_
          have t_76 : At S_65 r1 6 := hk_66.fr.at ha_r1_L_30
          have t_77 : At S_65 x 10 := hk_66.fr.at ha_x_L_31
          obtain ⟨v_79, ev_79⟩ : ∃ v, pI S_65 600 r1 = v := ⟨_, rfl⟩
          have rg_80 := gI_6_600 hO_67.1 t_76; rw [ev_79] at rg_80
          have pz_81 : (pI S_65 600 r1).toInt = v_79.toInt := by rw [ev_79]
          have pz_82 : (pI S_65 600 r1).toInt = v_79.toInt := (congrArg Int32.toInt ev_79).trans rfl
          exact ih _ (by omega) _ _ _ _ (x_74) (x_74.toInt) rfl hw rfl (by omega) t_76 t_77 hO_67 ⟨_, f_68.2.1, by omega, by rw [show (x_74.toInt).toNat = (i2_28_z).toNat + 1 by omega, show (pI T_29 600 r1).toInt.toNat = (i2_28_z).toNat by omega, ← prF_r hk_62 (by have h := f_68.1; rw [show (pI T_29 600 r1).toInt.toNat = (i2_28_z).toNat by omega] at h; exact h), show (13 - x_74.toInt).toNat + 1 = (13 - i2_28_z).toNat by omega]; exact ec_37⟩ (lv_sub hl [0, 1, 2] rfl)
        · have z_b_83 := trivial
          rw [tB_fr hG ha_x hO_T_29.fr (by decide +kernel), hO_T_29.fr.I' (g := 1000) (by decide +kernel) ha_x rfl] at f_68
          refine lv_if_ne (tgt := 43) X.1 X.2.1 dX10_readInto_38 (by decide) (fun c_84 => absurd c_84 (by decide)) (fun c_84 => ?_)
          refine lv_iconst (v := 0) X.1 X.2.1 dX10_readInto_41 (by decide) ?_
          have ea_85 : prF (tB S x) (pI S 1000 x).toInt.toNat 13 0 (tokF (tB S x) (pI S 1000 x).toInt.toNat 0) = ((rueF (tB S x) (pI S 1000 x).toInt.toNat (pI T_29 600 r1).toInt.toNat t_34).1, (i2_28_z).toNat) := by rw [← ec_37, show (13 - i2_28_z).toNat = (12 - i2_28_z).toNat + 1 by omega, show (pI T_29 600 r1).toInt.toNat = (i2_28_z).toNat by omega]; exact prF_f (by omega) (by have h := f_68.1; rw [show (pI T_29 600 r1).toInt.toNat = (i2_28_z).toNat by omega] at h; exact h)
          rw [hQQ]
          exact ret_z X hw hr hlocks (Nat.le_of_ble_eq_true rfl) (Nat.le_of_ble_eq_true rfl) (by decide) ⟨hO_67, Or.inr ⟨by rw [ea_85]; exact ⟨f_68.1, f_68.2⟩, rfl⟩⟩ dX10_readInto_42
  have t_86 : At S_10 r1 6 := tAt_sI eS_10 t_9
  have t_87 : At S_15 r1 6 := tAt_sI eS_15 t_86
  have t_88 : At S_21 r1 6 := hk_22.fr.at t_87
  have t_89 : At S_21 x 10 := hk_22.fr.at t_18
  have t_90 : pI S_15 600 r1 = 0 := tI_sI eS_15 rfl h_12
  have t_92 : At S_10 r1 6 := tAt_sI eS_10 t_9
  have t_93 : At S_15 r1 6 := tAt_sI eS_15 t_92
  have t_91 : pI S_21 600 r1 = 0 := hk_22.fr.I' (by decide +kernel) t_93 t_90
  have pz_94 : (pI S_21 600 r1).toInt = 0 := (congrArg Int32.toInt t_91).trans ti_0
  exact L_27 _ _ _ _ _ (0) (0) rfl hw ti_0 (by omega) t_88 t_89 hO_23 ⟨_, gb_24, by omega, congrArg (fun k => prF (tB S x) (pI S 1000 x).toInt.toNat k 0 (tokF (tB S x) (pI S 1000 x).toInt.toNat 0)) (show (13 - (0 : Int)).toNat = 13 from rfl)⟩ (lv_sub hl [0, 1, 2] rfl)
