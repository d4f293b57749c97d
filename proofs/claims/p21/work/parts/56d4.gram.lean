
set_option maxHeartbeats 4000000 in
set_option maxRecDepth 100000 in
theorem k_X10_readConditions2 (l : Launch) (G : va_G) (cy : Nat → ClassId) (κ : Nat → Nat) (S : PS) (sz : Nat) (x : Nat) (r1 : Nat) (t0 : Tk) (Rl : List Ru) (hG : GX S) (ha_x : At S x 10) (ha_r1 : At S r1 6) (hp_0 : GB (tB S x) (pI S 1000 x).toInt.toNat S x t0) (hp_1 : RuC S r1 Rl []) (hp_2 : RuD S r1) (hp_3 : Rl.length < 12) : Ci l yX10_readConditions wsX10_readConditions ({ frames := 8, cells := 0, slots := 0, locals := 384 }) G cy κ S sz [.ref x, .ref r1] (fun (r : Int32) (S9 : PS) => Ok MLc S S9 ∧ ((((csF (tB S x) (pI S 1000 x).toInt.toNat 4 t0).1 = 0 ∧ GB (tB S x) (pI S 1000 x).toInt.toNat S9 x (csF (tB S x) (pI S 1000 x).toInt.toNat 4 t0).2 ∧ RuC S9 r1 Rl (csL (tB S x) (pI S 1000 x).toInt.toNat 4 t0) ∧ RuK S S9 r1) ∧ r = 1) ∨ (((csF (tB S x) (pI S 1000 x).toInt.toNat 4 t0).1 ≠ 0 ∧ (pI S9 1001 x).toInt = (csF (tB S x) (pI S 1000 x).toInt.toNat 4 t0).1 ∧ RuK S S9 r1) ∧ r = 0))) := by
  refine ent_m (cc := cX10_readConditions) (maxL := 3) (ret := (some .boolean)) (by decide) rfl (Nat.le_of_ble_eq_true rfl) ?_
  intro p e s m below meth c ls X hr hlocks hin hw hl hsz
  subst hsz
  have X : Cx p c cX10_readConditions 3 s [.ref x, .ref r1].toArray wsX10_readConditions RX10 m G cy κ (AS S s.heap.size) := X
  have hl : lv_has ls 3 [(0, .ref x), (1, .ref r1)] := hl
  have hO : Ok MLc S S := Ok.rf hG
  generalize hQQ : MQ below _ _ _ _ _ _ = QQ
  replace hQQ := hQQ.symm
  have hok := hdI (GB_ok hG ha_x hp_0)
  have hok1 : t0.2.1 ≤ t0.2.2 ∧ t0.2.2 ≤ 400 := ⟨(hdE hok).1, (hdE hok).2.1⟩
  obtain ⟨v_1, ev_1⟩ : ∃ v, pI S 600 r1 = v := ⟨_, rfl⟩
  have rg_2 := gI_6_600 hO.1 ha_r1; rw [ev_1] at rg_2
  have pz_3 : (pI S 600 r1).toInt = v_1.toInt := by rw [ev_1]
  have pz_4 : (pI S 600 r1).toInt = v_1.toInt := (congrArg Int32.toInt ev_1).trans rfl
  have hrl := hp_1.1.1
  refine lv_iconst (v := 0) X.1 X.2.1 dX10_readConditions_0 (by decide) ?_
  refine lv_istore_n (lv' := [(2, .int 0), (0, .ref x), (1, .ref r1)]) X.1 X.2.1 dX10_readConditions_1 rfl hl (by decide) rfl (fun ls hl => ?_)
  have L_5 : ∀ (n : Nat) (T_7 : PS) (H : Heap) (locs : List Loc) (ls : Array Slot) (i2_6 : Int32) (i2_6_z : Int), ((4 - i2_6_z).toNat = n) → (Wd G cy (AS S s.heap.size) s.heap T_7 H locs) → (i2_6.toInt = i2_6_z) → (0 ≤ i2_6_z ∧ i2_6_z ≤ 4) → (At T_7 r1 6) → (At T_7 x 10) → (Ok MLc S T_7) → (∃ t C, GB (tB S x) (pI S 1000 x).toInt.toNat T_7 x t ∧ csF (tB S x) (pI S 1000 x).toInt.toNat (4 - i2_6_z).toNat t = csF (tB S x) (pI S 1000 x).toInt.toNat 4 t0 ∧ RuC T_7 r1 Rl C ∧ (C.length : Int) = i2_6_z ∧ C ++ csL (tB S x) (pI S 1000 x).toInt.toNat (4 - i2_6_z).toNat t = csL (tB S x) (pI S 1000 x).toInt.toNat 4 t0) → (RuK S T_7 r1) → (lv_has ls 3 [(2, .int (i2_6)), (0, .ref x), (1, .ref r1)]) → W p l e ({ frames := 8, cells := 0, slots := 0, locals := 384 }) s m [.ref x, .ref r1].toArray below meth c H locs 0 0 QQ (F0 m 2 ls []) := by
    intro n
    induction n using Nat.strongRecOn with
    | ind n ih =>
    intro T_7 H locs ls i2_6 i2_6_z hn hw hz_i2_6 hr_i2_6 ha_r1_L_8 ha_x_L_9 hO_T_7 iv_10 iv_11 hl
    have rg_12 : (-2147483648) ≤ i2_6_z ∧ i2_6_z ≤ 2147483647 := by rw [← hz_i2_6]; exact ⟨z_lo _, z_hi _⟩
    obtain ⟨t_13, C_14, gb_15, ec_16, rc_17, cl_18, ce_19⟩ := iv_10
    have axg_20 : ∀ a k, At S a k → At T_7 a k := fun a k h => hO_T_7.fr.at h
    have rpr_21 : ∀ g, g ∈ ruG → pR T_7 g r1 = pR S g r1 := ru_pR hO_T_7.fr ha_r1 (by decide +kernel)
    have ok_22 := hdI (GB_ok hG ha_x gb_15)
    have ok_23 : (t_13).2.1 ≤ (t_13).2.2 ∧ (t_13).2.2 ≤ 400 := ⟨(hdE ok_22).1, (hdE ok_22).2.1⟩
    refine lv_iload_n X.1 X.2.1 dX10_readConditions_2 rfl (lv_at hl 0 rfl) ?_
    refine lv_iconst (v := 4) X.1 X.2.1 dX10_readConditions_3 (by decide) ?_
    refine lv_icmp_ge (tgt := 57) X.1 X.2.1 dX10_readConditions_4 (by decide) (fun c_24 => ?_) (fun c_24 => ?_)
    · have z_b_25 := trivial
      have k_26 : i2_6_z ≥ 4 := z_le ti_4 hz_i2_6 c_24
      refine lv_aload_n X.1 X.2.1 dX10_readConditions_57 rfl (lv_at hl 1 rfl) ?_
      refine lv_aload_n X.1 X.2.1 dX10_readConditions_58 rfl (lv_at hl 1 rfl) ?_
      refine k_i (rm := { frames := 6, cells := 0, slots := 0, locals := 288 }) (av := [.ref x]) X hw (va_runV (As := []) (rest := [.ref x]) (cfix X) (k_X10_fieldAtHand2 l G cy κ T_7 _ x t_13 hO_T_7.1 ha_x_L_9 gb_15.1 (by first | assumption | omega) (by first | assumption | omega)) (cwV 0 X.2.2.2.1 gX10_readConditions_X10_fieldAtHand rfl rfl rfl (by decide +kernel) ⟨Nat.le_of_ble_eq_true rfl, Nat.le_of_ble_eq_true rfl⟩) (pre_V X hw _ ha_x_L_9 rfl (by decide) rfl) rfl rfl hl.1 rfl (lv_room (Nat.le_of_ble_eq_true rfl)) dX10_readConditions_59 ⟨Nat.le_of_ble_eq_true rfl, Nat.le_of_ble_eq_true rfl⟩) 0 0 (Nat.le_of_ble_eq_true rfl) (Nat.le_of_ble_eq_true rfl) (fun rr_27 S_28 H locs hp hw hfr hnw => ?_)
      obtain ⟨e2, hp⟩ := hp
      subst e2
      obtain ⟨wh_29, wh_30, wh_31⟩ := hp
      rw [tB_fr hG ha_x hO_T_7.fr (by decide +kernel)] at wh_31
      refine lv_iconst (v := (-1)) X.1 X.2.1 dX10_readConditions_62 (by decide) ?_
      refine lv_icmp_ne (tgt := 70) X.1 X.2.1 dX10_readConditions_63 (by decide) (fun c_32 => ?_) (fun c_32 => ?_)
      · have z_b_33 := trivial
        have k_34 : rr_27.toInt ≠ (-1) := z_ne rfl ti_m1 c_32
        refine lv_iconst (v := 2) X.1 X.2.1 dX10_readConditions_70 (by decide) ?_
        refine k_i (rm := { frames := 1, cells := 0, slots := 0, locals := 48 }) (av := [.ref x, .int 2]) X hw (va_runV (As := [.int 2]) (rest := []) (cfix X) (k_X10_fail2 l G cy κ T_7 _ x (2) (2) hO_T_7.1 ha_x_L_9 ti_2) (cwV 1 X.2.2.2.1 gX10_readConditions_X10_fail rfl rfl rfl (by decide +kernel) ⟨Nat.le_of_ble_eq_true rfl, Nat.le_of_ble_eq_true rfl⟩) (pre_V X hw _ ha_x_L_9 rfl (by decide) rfl) rfl rfl hl.1 rfl (lv_room (Nat.le_of_ble_eq_true rfl)) dX10_readConditions_71 ⟨Nat.le_of_ble_eq_true rfl, Nat.le_of_ble_eq_true rfl⟩) 0 0 (Nat.le_of_ble_eq_true rfl) (Nat.le_of_ble_eq_true rfl) (fun rr_35 S_36 H locs hp hw hfr hnw => ?_)
        obtain ⟨hk_37, hp⟩ := hp
        have hO_38 : Ok MLc S S_36 := hO_T_7.call hk_37 (by decide +kernel)
        rcases hp with ⟨f_39, er_40⟩ | ⟨f_39, er_40⟩ <;> subst er_40
        · have z_b_41 := trivial
          exact f_39.elim
        · have z_b_42 := trivial
          have ruk_44 : RuK S S_36 r1 := RuK_fr iv_11 axg_20 hk_37.fr (by decide +kernel)
          have ea_43 : csF (tB S x) (pI S 1000 x).toInt.toNat 4 t0 = (cit (whF (tB S x) t_13 FLs 0 = -1) 1 2, t_13) := by rw [← ec_16, show (4 - i2_6_z).toNat = 0 by omega]; rfl
          rw [hQQ]
          exact ret_z X hw hr hlocks (Nat.le_of_ble_eq_true rfl) (Nat.le_of_ble_eq_true rfl) (by decide) ⟨hO_38, Or.inr ⟨by rw [ea_43, cit_n (by omega)]; exact ⟨(by decide : (2 : Int) ≠ 0), f_39, ruk_44⟩, rfl⟩⟩ dX10_readConditions_74
      · have z_b_45 := trivial
        have k_46 : rr_27.toInt = (-1) := z_eq rfl ti_m1 c_32
        refine lv_iconst (v := 1) X.1 X.2.1 dX10_readConditions_66 (by decide) ?_
        refine lv_goto (tgt := 71) X.1 X.2.1 dX10_readConditions_67 (by decide) ?_
        refine k_i (rm := { frames := 1, cells := 0, slots := 0, locals := 48 }) (av := [.ref x, .int 1]) X hw (va_runV (As := [.int 1]) (rest := []) (cfix X) (k_X10_fail2 l G cy κ T_7 _ x (1) (1) hO_T_7.1 ha_x_L_9 ti_1) (cwV 1 X.2.2.2.1 gX10_readConditions_X10_fail rfl rfl rfl (by decide +kernel) ⟨Nat.le_of_ble_eq_true rfl, Nat.le_of_ble_eq_true rfl⟩) (pre_V X hw _ ha_x_L_9 rfl (by decide) rfl) rfl rfl hl.1 rfl (lv_room (Nat.le_of_ble_eq_true rfl)) dX10_readConditions_71 ⟨Nat.le_of_ble_eq_true rfl, Nat.le_of_ble_eq_true rfl⟩) 0 0 (Nat.le_of_ble_eq_true rfl) (Nat.le_of_ble_eq_true rfl) (fun rr_47 S_48 H locs hp hw hfr hnw => ?_)
        obtain ⟨hk_49, hp⟩ := hp
        have hO_50 : Ok MLc S S_48 := hO_T_7.call hk_49 (by decide +kernel)
        rcases hp with ⟨f_51, er_52⟩ | ⟨f_51, er_52⟩ <;> subst er_52
        · have z_b_53 := trivial
          exact f_51.elim
        · have z_b_54 := trivial
          have ruk_56 : RuK S S_48 r1 := RuK_fr iv_11 axg_20 hk_49.fr (by decide +kernel)
          have ea_55 : csF (tB S x) (pI S 1000 x).toInt.toNat 4 t0 = (cit (whF (tB S x) t_13 FLs 0 = -1) 1 2, t_13) := by rw [← ec_16, show (4 - i2_6_z).toNat = 0 by omega]; rfl
          rw [hQQ]
          exact ret_z X hw hr hlocks (Nat.le_of_ble_eq_true rfl) (Nat.le_of_ble_eq_true rfl) (by decide) ⟨hO_50, Or.inr ⟨by rw [ea_55, cit_y (by omega)]; exact ⟨(by decide : (1 : Int) ≠ 0), f_51, ruk_56⟩, rfl⟩⟩ dX10_readConditions_74
    · have z_b_57 := trivial
      have k_58 : i2_6_z < 4 := z_nle ti_4 hz_i2_6 c_24
      refine lv_aload_n X.1 X.2.1 dX10_readConditions_7 rfl (lv_at hl 1 rfl) ?_
      refine lv_aload_n X.1 X.2.1 dX10_readConditions_8 rfl (lv_at hl 2 rfl) ?_
      have rl_59 := rc_17.1.1
      have rl_60 := rc_17.2.1
      refine k_i (rm := { frames := 7, cells := 0, slots := 0, locals := 336 }) (av := [.ref x, .ref r1]) X hw (va_runV (As := [.ref r1]) (rest := []) (cfix X) (k_X10_readCondition2 l G cy κ T_7 _ x r1 t_13 Rl C_14 hO_T_7.1 ha_x_L_9 ha_r1_L_8 (by rw [tB_fr hG ha_x hO_T_7.fr (by decide +kernel), hO_T_7.fr.I' (g := 1000) (by decide +kernel) ha_x rfl]; exact gb_15) rc_17 (RuD_to rpr_21 hp_2) (by first | assumption | omega) (by first | assumption | omega)) (cwV 1 X.2.2.2.1 gX10_readConditions_X10_readCondition rfl rfl rfl (by decide +kernel) ⟨Nat.le_of_ble_eq_true rfl, Nat.le_of_ble_eq_true rfl⟩) (pre_V X hw _ ha_x_L_9 rfl (by decide) rfl) rfl rfl hl.1 rfl (lv_room (Nat.le_of_ble_eq_true rfl)) dX10_readConditions_9 ⟨Nat.le_of_ble_eq_true rfl, Nat.le_of_ble_eq_true rfl⟩) 0 0 (Nat.le_of_ble_eq_true rfl) (Nat.le_of_ble_eq_true rfl) (fun rr_61 S_62 H locs hp hw hfr hnw => ?_)
      obtain ⟨hk_63, hp⟩ := hp
      have hO_64 : Ok MLc S S_62 := hO_T_7.call hk_63 (by decide +kernel)
      rcases hp with ⟨f_65, er_66⟩ | ⟨f_65, er_66⟩ <;> subst er_66
      · have z_b_67 := trivial
        rw [tB_fr hG ha_x hO_T_7.fr (by decide +kernel), hO_T_7.fr.I' (g := 1000) (by decide +kernel) ha_x rfl] at f_65
        have ok_68 := hdI (GB_ok hG ha_x f_65.2.1)
        have ok_69 : ((nx3 (tB S x) (pI S 1000 x).toInt.toNat t_13)).2.1 ≤ ((nx3 (tB S x) (pI S 1000 x).toInt.toNat t_13)).2.2 ∧ ((nx3 (tB S x) (pI S 1000 x).toInt.toNat t_13)).2.2 ≤ 400 := ⟨(hdE ok_68).1, (hdE ok_68).2.1⟩
        refine lv_if_ne (tgt := 17) X.1 X.2.1 dX10_readConditions_12 (by decide) (fun c_70 => ?_) (fun c_70 => absurd c_70 (by decide))
        refine lv_aload_n X.1 X.2.1 dX10_readConditions_17 rfl (lv_at hl 1 rfl) ?_
        refine lv_bipush (v := 58) X.1 X.2.1 dX10_readConditions_18 (by decide) ?_
        have t_71 : At S_62 x 10 := hk_63.fr.at ha_x_L_9
        refine k_i (rm := { frames := 2, cells := 0, slots := 0, locals := 96 }) (av := [.ref x, .int 58]) X hw (va_runV (As := [.int 58]) (rest := []) (cfix X) (k_X10_isSign2 l G cy κ S_62 _ x (58) (58) (nx3 (tB S x) (pI S 1000 x).toInt.toNat t_13) hO_64.1 t_71 ti_58 f_65.2.1.1) (cwV 1 X.2.2.2.1 gX10_readConditions_X10_isSign rfl rfl rfl (by decide +kernel) ⟨Nat.le_of_ble_eq_true rfl, Nat.le_of_ble_eq_true rfl⟩) (pre_V X hw _ t_71 rfl (by decide) rfl) rfl rfl hl.1 rfl (lv_room (Nat.le_of_ble_eq_true rfl)) dX10_readConditions_20 ⟨Nat.le_of_ble_eq_true rfl, Nat.le_of_ble_eq_true rfl⟩) 0 0 (Nat.le_of_ble_eq_true rfl) (Nat.le_of_ble_eq_true rfl) (fun rr_72 S_73 H locs hp hw hfr hnw => ?_)
        obtain ⟨e2, hp⟩ := hp
        subst e2
        rcases hp with ⟨f_74, er_75⟩ | ⟨f_74, er_75⟩ <;> subst er_75
        · have z_b_76 := trivial
          rw [tB_fr hG ha_x hO_64.fr (by decide +kernel)] at f_74
          refine lv_if_eq (tgt := 32) X.1 X.2.1 dX10_readConditions_23 (by decide) (fun c_77 => absurd c_77 (by decide)) (fun c_77 => ?_)
          refine lv_aload_n X.1 X.2.1 dX10_readConditions_26 rfl (lv_at hl 1 rfl) ?_
          have ok_78 := hdI (GB_ok hG ha_x f_65.2.1)
          have ok_79 : ((nx3 (tB S x) (pI S 1000 x).toInt.toNat t_13)).2.1 ≤ ((nx3 (tB S x) (pI S 1000 x).toInt.toNat t_13)).2.2 ∧ ((nx3 (tB S x) (pI S 1000 x).toInt.toNat t_13)).2.2 ≤ 400 := ⟨(hdE ok_78).1, (hdE ok_78).2.1⟩
          obtain ⟨v_80, ev_80⟩ : ∃ v, pI S_62 1006 x = v := ⟨_, rfl⟩
          have rg_82 := And.intro (z_lo v_80) (z_hi v_80)
          have pz_83 : (pI S_62 1006 x).toInt = v_80.toInt := by rw [ev_80]
          have pz_84 : (pI S_62 1006 x).toInt = v_80.toInt := (congrArg Int32.toInt ev_80).trans rfl
          have te_85 := f_65.2.1.1.2.2
          refine k_v (rm := { frames := 2, cells := 0, slots := 0, locals := 96 }) (av := [.ref x]) X hw (va_runV (As := []) (rest := []) (cfix X) (k_X10_advance2 l G cy κ S_62 _ x hO_64.1 t_71 (by omega) (by omega)) (cwV 0 X.2.2.2.1 gX10_readConditions_X10_advance rfl rfl rfl (by decide +kernel) ⟨Nat.le_of_ble_eq_true rfl, Nat.le_of_ble_eq_true rfl⟩) (pre_V X hw _ t_71 rfl (by decide) rfl) rfl rfl hl.1 rfl (lv_room (Nat.le_of_ble_eq_true rfl)) dX10_readConditions_27 ⟨Nat.le_of_ble_eq_true rfl, Nat.le_of_ble_eq_true rfl⟩) 0 0 (Nat.le_of_ble_eq_true rfl) (Nat.le_of_ble_eq_true rfl) (fun S_87 H locs hp hw hfr hnw => ?_)
          obtain ⟨hk_88, hp⟩ := hp
          have hO_89 : Ok MLc S S_87 := hO_64.call hk_88 (by decide +kernel)
          have gb_90 : GB (tB S x) (pI S 1000 x).toInt.toNat S_87 x (nxT (tB S x) (pI S 1000 x).toInt.toNat (nx3 (tB S x) (pI S 1000 x).toInt.toNat t_13)) := GB_adv f_65.2.1 (tB_fr hG ha_x hO_64.fr (by decide +kernel)) (by rw [hO_64.fr.I' (g := 1000) (by decide +kernel) ha_x rfl]) (by omega) hp.1
          have ok_91 := hdI (GB_ok hG ha_x gb_90)
          have ok_92 : ((nxT (tB S x) (pI S 1000 x).toInt.toNat (nx3 (tB S x) (pI S 1000 x).toInt.toNat t_13))).2.1 ≤ ((nxT (tB S x) (pI S 1000 x).toInt.toNat (nx3 (tB S x) (pI S 1000 x).toInt.toNat t_13))).2.2 ∧ ((nxT (tB S x) (pI S 1000 x).toInt.toNat (nx3 (tB S x) (pI S 1000 x).toInt.toNat t_13))).2.2 ≤ 400 := ⟨(hdE ok_91).1, (hdE ok_91).2.1⟩
          refine lv_iconst (v := 1) X.1 X.2.1 dX10_readConditions_30 (by decide) ?_
          have ruk_94 : RuK S S_62 r1 := RuK_tr iv_11 axg_20 rpr_21 f_65.2.2.2
          have axg_96 : ∀ a k, At S a k → At S_62 a k := fun a k h => hk_63.fr.at (axg_20 a k h)
          have ruk_95 : RuK S S_87 r1 := RuK_fr ruk_94 axg_96 hk_88.fr (by decide +kernel)
          have ea_93 : csF (tB S x) (pI S 1000 x).toInt.toNat 4 t0 = (0, nxT (tB S x) (pI S 1000 x).toInt.toNat (nx3 (tB S x) (pI S 1000 x).toInt.toNat t_13)) := by rw [← ec_16, show (4 - i2_6_z).toNat = (3 - i2_6_z).toNat + 1 by omega]; exact csF_e f_65.1 f_74
          have t_98 : At S_62 r1 6 := hk_63.fr.at ha_r1_L_8
          have rc_97 : RuC S_87 r1 Rl (C_14 ++ [cdV (tB S x) (pI S 1000 x).toInt.toNat t_13]) := RuC_fr hO_64.1 t_98 hk_88.fr (by decide +kernel) f_65.2.2.1
          have el_99 : csL (tB S x) (pI S 1000 x).toInt.toNat 4 t0 = (C_14 ++ [cdV (tB S x) (pI S 1000 x).toInt.toNat t_13]) := by have h := ce_19; rw [show (4 - i2_6_z).toNat = (3 - i2_6_z).toNat + 1 by omega, csL_e f_74] at h; exact h.symm
          rw [hQQ]
          exact ret_z X hw hr hlocks (Nat.le_of_ble_eq_true rfl) (Nat.le_of_ble_eq_true rfl) (by decide) ⟨hO_89, Or.inl ⟨by rw [ea_93, el_99]; exact ⟨rfl, gb_90, rc_97, ruk_95⟩, rfl⟩⟩ dX10_readConditions_31
        · have z_b_100 := trivial
          rw [tB_fr hG ha_x hO_64.fr (by decide +kernel)] at f_74
          refine lv_if_eq (tgt := 32) X.1 X.2.1 dX10_readConditions_23 (by decide) (fun c_101 => ?_) (fun c_101 => absurd c_101 (by decide))
          refine lv_aload_n X.1 X.2.1 dX10_readConditions_32 rfl (lv_at hl 1 rfl) ?_
          refine va_ldcS (q := κ (100 + 3)) X.1 X.2.1 X.2.2.2.2.1 (show vk_R RX10 74 "and" (κ (100 + 3)) s from (X.2.2.2.2.2.2.2.2.2.2.2.2.2.2 3 (by decide)).1) dX10_readConditions_33 ?_
          refine k_i (rm := { frames := 5, cells := 0, slots := 0, locals := 240 }) (av := [.ref x, .ref (κ (100 + 3))]) X hw (va_runV (As := [.ref (κ (100 + 3))]) (rest := []) (cfix X) (k_X10_isWord2 l G cy κ S_62 _ x 3 (nx3 (tB S x) (pI S 1000 x).toInt.toNat t_13) hO_64.1 t_71 (by decide) f_65.2.1.1 (by first | assumption | omega) (by first | assumption | omega)) (cwV 1 X.2.2.2.1 gX10_readConditions_X10_isWord rfl rfl rfl (by decide +kernel) ⟨Nat.le_of_ble_eq_true rfl, Nat.le_of_ble_eq_true rfl⟩) (pre_V X hw _ t_71 rfl (by decide) rfl) rfl rfl hl.1 rfl (lv_room (Nat.le_of_ble_eq_true rfl)) dX10_readConditions_35 ⟨Nat.le_of_ble_eq_true rfl, Nat.le_of_ble_eq_true rfl⟩) 0 0 (Nat.le_of_ble_eq_true rfl) (Nat.le_of_ble_eq_true rfl) (fun rr_102 S_103 H locs hp hw hfr hnw => ?_)
          obtain ⟨e2, hp⟩ := hp
          subst e2
          rcases hp with ⟨f_104, er_105⟩ | ⟨f_104, er_105⟩ <;> subst er_105
          · have z_b_106 := trivial
            rw [tB_fr hG ha_x hO_64.fr (by decide +kernel)] at f_104
            refine lv_if_ne (tgt := 47) X.1 X.2.1 dX10_readConditions_38 (by decide) (fun c_107 => ?_) (fun c_107 => absurd c_107 (by decide))
            refine lv_aload_n X.1 X.2.1 dX10_readConditions_47 rfl (lv_at hl 1 rfl) ?_
            have ok_108 := hdI (GB_ok hG ha_x f_65.2.1)
            have ok_109 : ((nx3 (tB S x) (pI S 1000 x).toInt.toNat t_13)).2.1 ≤ ((nx3 (tB S x) (pI S 1000 x).toInt.toNat t_13)).2.2 ∧ ((nx3 (tB S x) (pI S 1000 x).toInt.toNat t_13)).2.2 ≤ 400 := ⟨(hdE ok_108).1, (hdE ok_108).2.1⟩
            obtain ⟨v_110, ev_110⟩ : ∃ v, pI S_62 1006 x = v := ⟨_, rfl⟩
            have rg_112 := And.intro (z_lo v_110) (z_hi v_110)
            have pz_113 : (pI S_62 1006 x).toInt = v_110.toInt := by rw [ev_110]
            have pz_114 : (pI S_62 1006 x).toInt = v_110.toInt := (congrArg Int32.toInt ev_110).trans rfl
            have te_115 := f_65.2.1.1.2.2
            refine k_v (rm := { frames := 2, cells := 0, slots := 0, locals := 96 }) (av := [.ref x]) X hw (va_runV (As := []) (rest := []) (cfix X) (k_X10_advance2 l G cy κ S_62 _ x hO_64.1 t_71 (by omega) (by omega)) (cwV 0 X.2.2.2.1 gX10_readConditions_X10_advance rfl rfl rfl (by decide +kernel) ⟨Nat.le_of_ble_eq_true rfl, Nat.le_of_ble_eq_true rfl⟩) (pre_V X hw _ t_71 rfl (by decide) rfl) rfl rfl hl.1 rfl (lv_room (Nat.le_of_ble_eq_true rfl)) dX10_readConditions_48 ⟨Nat.le_of_ble_eq_true rfl, Nat.le_of_ble_eq_true rfl⟩) 0 0 (Nat.le_of_ble_eq_true rfl) (Nat.le_of_ble_eq_true rfl) (fun S_117 H locs hp hw hfr hnw => ?_)
            obtain ⟨hk_118, hp⟩ := hp
            have hO_119 : Ok MLc S S_117 := hO_64.call hk_118 (by decide +kernel)
            have gb_120 : GB (tB S x) (pI S 1000 x).toInt.toNat S_117 x (nxT (tB S x) (pI S 1000 x).toInt.toNat (nx3 (tB S x) (pI S 1000 x).toInt.toNat t_13)) := GB_adv f_65.2.1 (tB_fr hG ha_x hO_64.fr (by decide +kernel)) (by rw [hO_64.fr.I' (g := 1000) (by decide +kernel) ha_x rfl]) (by omega) hp.1
            have ok_121 := hdI (GB_ok hG ha_x gb_120)
            have ok_122 : ((nxT (tB S x) (pI S 1000 x).toInt.toNat (nx3 (tB S x) (pI S 1000 x).toInt.toNat t_13))).2.1 ≤ ((nxT (tB S x) (pI S 1000 x).toInt.toNat (nx3 (tB S x) (pI S 1000 x).toInt.toNat t_13))).2.2 ∧ ((nxT (tB S x) (pI S 1000 x).toInt.toNat (nx3 (tB S x) (pI S 1000 x).toInt.toNat t_13))).2.2 ≤ 400 := ⟨(hdE ok_121).1, (hdE ok_121).2.1⟩
            obtain ⟨x_123, ex_123⟩ : ∃ y : Int32, y = i2_6 + 1 := ⟨_, rfl⟩
            have z_124 : x_123.toInt = i2_6_z + 1 := z_add ex_123 hz_i2_6 ti_1 (by omega) (by omega)
            refine lv_iinc (v := x_123) (lv' := [(2, .int (x_123)), (0, .ref x), (1, .ref r1)]) X.1 X.2.1 dX10_readConditions_51 hl (k := 0) rfl (by rw [ex_123]; rfl) (by decide) rfl (fun ls hl => ?_)
            refine lv_goto (tgt := 2) X.1 X.2.1 dX10_readConditions_54 (by decide) ?_
            have t_125 : At S_62 r1 6 := hk_63.fr.at ha_r1_L_8
            have t_126 : At S_117 r1 6 := hk_118.fr.at t_125
            have t_127 : At S_117 x 10 := hk_118.fr.at t_71
            have t_129 : At S_62 r1 6 := hk_63.fr.at ha_r1_L_8
            have rc_128 : RuC S_117 r1 Rl (C_14 ++ [cdV (tB S x) (pI S 1000 x).toInt.toNat t_13]) := RuC_fr hO_64.1 t_129 hk_118.fr (by decide +kernel) f_65.2.2.1
            have ca_130 : csF (tB S x) (pI S 1000 x).toInt.toNat (4 - x_123.toInt).toNat (nxT (tB S x) (pI S 1000 x).toInt.toNat (nx3 (tB S x) (pI S 1000 x).toInt.toNat t_13)) = csF (tB S x) (pI S 1000 x).toInt.toNat 4 t0 := by rw [← csF_a f_65.1 f_74 f_104, show (4 - x_123.toInt).toNat + 1 = (4 - i2_6_z).toNat by omega]; exact ec_16
            have ca_131 : (((C_14 ++ [cdV (tB S x) (pI S 1000 x).toInt.toNat t_13])).length : Int) = x_123.toInt := by rw [List.length_append]; show (((C_14).length + 1 : Nat) : Int) = _; omega
            have ca_132 : (C_14 ++ [cdV (tB S x) (pI S 1000 x).toInt.toNat t_13]) ++ csL (tB S x) (pI S 1000 x).toInt.toNat (4 - x_123.toInt).toNat (nxT (tB S x) (pI S 1000 x).toInt.toNat (nx3 (tB S x) (pI S 1000 x).toInt.toNat t_13)) = csL (tB S x) (pI S 1000 x).toInt.toNat 4 t0 := by have h := ce_19; rw [show (4 - i2_6_z).toNat = (4 - x_123.toInt).toNat + 1 by omega, csL_a f_74] at h; exact app_c h
            have ruk_133 : RuK S S_62 r1 := RuK_tr iv_11 axg_20 rpr_21 f_65.2.2.2
            have axg_135 : ∀ a k, At S a k → At S_62 a k := fun a k h => hk_63.fr.at (axg_20 a k h)
            have ruk_134 : RuK S S_117 r1 := RuK_fr ruk_133 axg_135 hk_118.fr (by decide +kernel)
            exact ih _ (by omega) _ _ _ _ (x_123) (x_123.toInt) rfl hw rfl (by omega) t_126 t_127 hO_119 ⟨(nxT (tB S x) (pI S 1000 x).toInt.toNat (nx3 (tB S x) (pI S 1000 x).toInt.toNat t_13)), (C_14 ++ [cdV (tB S x) (pI S 1000 x).toInt.toNat t_13]), gb_120, ca_130, rc_128, ca_131, ca_132⟩ ruk_134 (lv_sub hl [0, 1, 2] rfl)
          · have z_b_136 := trivial
            rw [tB_fr hG ha_x hO_64.fr (by decide +kernel)] at f_104
            refine lv_if_ne (tgt := 47) X.1 X.2.1 dX10_readConditions_38 (by decide) (fun c_137 => absurd c_137 (by decide)) (fun c_137 => ?_)
            refine lv_aload_n X.1 X.2.1 dX10_readConditions_41 rfl (lv_at hl 1 rfl) ?_
            refine lv_iconst (v := 1) X.1 X.2.1 dX10_readConditions_42 (by decide) ?_
            refine k_i (rm := { frames := 1, cells := 0, slots := 0, locals := 48 }) (av := [.ref x, .int 1]) X hw (va_runV (As := [.int 1]) (rest := []) (cfix X) (k_X10_fail2 l G cy κ S_62 _ x (1) (1) hO_64.1 t_71 ti_1) (cwV 1 X.2.2.2.1 gX10_readConditions_X10_fail rfl rfl rfl (by decide +kernel) ⟨Nat.le_of_ble_eq_true rfl, Nat.le_of_ble_eq_true rfl⟩) (pre_V X hw _ t_71 rfl (by decide) rfl) rfl rfl hl.1 rfl (lv_room (Nat.le_of_ble_eq_true rfl)) dX10_readConditions_43 ⟨Nat.le_of_ble_eq_true rfl, Nat.le_of_ble_eq_true rfl⟩) 0 0 (Nat.le_of_ble_eq_true rfl) (Nat.le_of_ble_eq_true rfl) (fun rr_138 S_139 H locs hp hw hfr hnw => ?_)
            obtain ⟨hk_140, hp⟩ := hp
            have hO_141 : Ok MLc S S_139 := hO_64.call hk_140 (by decide +kernel)
            rcases hp with ⟨f_142, er_143⟩ | ⟨f_142, er_143⟩ <;> subst er_143
            · have z_b_144 := trivial
              exact f_142.elim
            · have z_b_145 := trivial
              have ruk_147 : RuK S S_62 r1 := RuK_tr iv_11 axg_20 rpr_21 f_65.2.2.2
              have axg_149 : ∀ a k, At S a k → At S_62 a k := fun a k h => hk_63.fr.at (axg_20 a k h)
              have ruk_148 : RuK S S_139 r1 := RuK_fr ruk_147 axg_149 hk_140.fr (by decide +kernel)
              have ea_146 : csF (tB S x) (pI S 1000 x).toInt.toNat 4 t0 = (1, t_13) := by rw [← ec_16, show (4 - i2_6_z).toNat = (3 - i2_6_z).toNat + 1 by omega]; exact csF_n f_65.1 f_74 f_104
              rw [hQQ]
              exact ret_z X hw hr hlocks (Nat.le_of_ble_eq_true rfl) (Nat.le_of_ble_eq_true rfl) (by decide) ⟨hO_141, Or.inr ⟨by rw [ea_146]; exact ⟨(by decide : (1 : Int) ≠ 0), f_142, ruk_148⟩, rfl⟩⟩ dX10_readConditions_46
      · have z_b_150 := trivial
        rw [tB_fr hG ha_x hO_T_7.fr (by decide +kernel), hO_T_7.fr.I' (g := 1000) (by decide +kernel) ha_x rfl] at f_65
        refine lv_if_ne (tgt := 17) X.1 X.2.1 dX10_readConditions_12 (by decide) (fun c_151 => absurd c_151 (by decide)) (fun c_151 => ?_)
        refine lv_iconst (v := 0) X.1 X.2.1 dX10_readConditions_15 (by decide) ?_
        have ruk_153 : RuK S S_62 r1 := RuK_tr iv_11 axg_20 rpr_21 f_65.2.2
        have ea_152 : csF (tB S x) (pI S 1000 x).toInt.toNat 4 t0 = (1, t_13) := by rw [← ec_16, show (4 - i2_6_z).toNat = (3 - i2_6_z).toNat + 1 by omega]; exact csF_c f_65.1
        rw [hQQ]
        exact ret_z X hw hr hlocks (Nat.le_of_ble_eq_true rfl) (Nat.le_of_ble_eq_true rfl) (by decide) ⟨hO_64, Or.inr ⟨by rw [ea_152]; exact ⟨(by decide : (1 : Int) ≠ 0), f_65.2.1, ruk_153⟩, rfl⟩⟩ dX10_readConditions_16
  have ca_154 : csF (tB S x) (pI S 1000 x).toInt.toNat (4 - (0 : Int)).toNat t0 = csF (tB S x) (pI S 1000 x).toInt.toNat 4 t0 := by rw [show (4 - (0 : Int)).toNat = 4 from rfl]
  have cb_155 : [] ++ csL (tB S x) (pI S 1000 x).toInt.toNat (4 - (0 : Int)).toNat t0 = csL (tB S x) (pI S 1000 x).toInt.toNat 4 t0 := by rw [show (4 - (0 : Int)).toNat = 4 from rfl, List.nil_append]
  exact L_5 _ _ _ _ _ (0) (0) rfl hw ti_0 (by omega) ha_r1 ha_x hO ⟨t0, [], hp_0, ca_154, hp_1, rfl, cb_155⟩ (RuK_rf S r1) (lv_sub hl [0, 1, 2] rfl)
