
set_option maxHeartbeats 4000000 in
set_option maxRecDepth 100000 in
theorem k_X10_readCondition2 (l : Launch) (G : va_G) (cy : Nat → ClassId) (κ : Nat → Nat) (S : PS) (sz : Nat) (x : Nat) (r1 : Nat) (t0 : Tk) (Rl : List Ru) (Cl : List Cn) (hG : GX S) (ha_x : At S x 10) (ha_r1 : At S r1 6) (hp_0 : GB (tB S x) (pI S 1000 x).toInt.toNat S x t0) (hp_1 : RuC S r1 Rl Cl) (hp_2 : RuD S r1) (hp_3 : Rl.length < 12) (hp_4 : Cl.length < 4) : Ci l yX10_readCondition wsX10_readCondition ({ frames := 7, cells := 0, slots := 0, locals := 336 }) G cy κ S sz [.ref x, .ref r1] (fun (r : Int32) (S9 : PS) => Ok MLc S S9 ∧ (((cOk (tB S x) (pI S 1000 x).toInt.toNat t0 ∧ GB (tB S x) (pI S 1000 x).toInt.toNat S9 x (nx3 (tB S x) (pI S 1000 x).toInt.toNat t0) ∧ RuC S9 r1 Rl (Cl ++ [cdV (tB S x) (pI S 1000 x).toInt.toNat t0]) ∧ RuK S S9 r1) ∧ r = 1) ∨ (((¬ cOk (tB S x) (pI S 1000 x).toInt.toNat t0) ∧ (pI S9 1001 x).toInt = 1 ∧ RuK S S9 r1) ∧ r = 0))) := by
  refine ent_m (cc := cX10_readCondition) (maxL := 4) (ret := (some .boolean)) (by decide) rfl (Nat.le_of_ble_eq_true rfl) ?_
  intro p e s m below meth c ls X hr hlocks hin hw hl hsz
  subst hsz
  have X : Cx p c cX10_readCondition 4 s [.ref x, .ref r1].toArray wsX10_readCondition RX10 m G cy κ (AS S s.heap.size) := X
  have hl : lv_has ls 4 [(0, .ref x), (1, .ref r1)] := hl
  have hO : Ok MLc S S := Ok.rf hG
  have hok := hdI (GB_ok hG ha_x hp_0)
  have hok1 : t0.2.1 ≤ t0.2.2 ∧ t0.2.2 ≤ 400 := ⟨(hdE hok).1, (hdE hok).2.1⟩
  obtain ⟨v_1, ev_1⟩ : ∃ v, pI S 600 r1 = v := ⟨_, rfl⟩
  have rg_2 := gI_6_600 hO.1 ha_r1; rw [ev_1] at rg_2
  have pz_3 : (pI S 600 r1).toInt = v_1.toInt := by rw [ev_1]
  have pz_4 : (pI S 600 r1).toInt = v_1.toInt := (congrArg Int32.toInt ev_1).trans rfl
  have hrl := hp_1.1.1
  refine lv_aload_n X.1 X.2.1 dX10_readCondition_0 rfl (lv_at hl 0 rfl) ?_
  refine k_i (rm := { frames := 6, cells := 0, slots := 0, locals := 288 }) (av := [.ref x]) X hw (va_runV (As := []) (rest := []) (cfix X) (k_X10_fieldAtHand2 l G cy κ S _ x t0 hO.1 ha_x hp_0.1 (by first | assumption | omega) (by first | assumption | omega)) (cwV 0 X.2.2.2.1 gX10_readCondition_X10_fieldAtHand rfl rfl rfl (by decide +kernel) ⟨Nat.le_of_ble_eq_true rfl, Nat.le_of_ble_eq_true rfl⟩) (pre_V X hw _ ha_x rfl (by decide) rfl) rfl rfl hl.1 rfl (lv_room (Nat.le_of_ble_eq_true rfl)) dX10_readCondition_1 ⟨Nat.le_of_ble_eq_true rfl, Nat.le_of_ble_eq_true rfl⟩) 0 0 (Nat.le_of_ble_eq_true rfl) (Nat.le_of_ble_eq_true rfl) (fun rr_5 S_6 H locs hp hw hfr hnw => ?_)
  obtain ⟨e2, hp⟩ := hp
  subst e2
  obtain ⟨wh_7, wh_8, wh_9⟩ := hp
  refine lv_istore_n (lv' := [(2, .int (rr_5)), (0, .ref x), (1, .ref r1)]) X.1 X.2.1 dX10_readCondition_4 rfl hl (by decide) rfl (fun ls hl => ?_)
  refine lv_iload_n X.1 X.2.1 dX10_readCondition_5 rfl (lv_at hl 0 rfl) ?_
  refine lv_iconst (v := (-1)) X.1 X.2.1 dX10_readCondition_6 (by decide) ?_
  refine lv_icmp_ne (tgt := 16) X.1 X.2.1 dX10_readCondition_7 (by decide) (fun c_10 => ?_) (fun c_10 => ?_)
  · have z_b_11 := trivial
    have k_12 : rr_5.toInt ≠ (-1) := z_ne rfl ti_m1 c_10
    refine lv_aload_n X.1 X.2.1 dX10_readCondition_16 rfl (lv_at hl 1 rfl) ?_
    have ok_13 := hdI (GB_ok hG ha_x hp_0)
    have ok_14 : (t0).2.1 ≤ (t0).2.2 ∧ (t0).2.2 ≤ 400 := ⟨(hdE ok_13).1, (hdE ok_13).2.1⟩
    obtain ⟨v_15, ev_15⟩ : ∃ v, pI S 1006 x = v := ⟨_, rfl⟩
    have rg_17 := And.intro (z_lo v_15) (z_hi v_15)
    have pz_18 : (pI S 1006 x).toInt = v_15.toInt := by rw [ev_15]
    have pz_19 : (pI S 1006 x).toInt = v_15.toInt := (congrArg Int32.toInt ev_15).trans rfl
    have te_20 := hp_0.1.2.2
    refine k_v (rm := { frames := 2, cells := 0, slots := 0, locals := 96 }) (av := [.ref x]) X hw (va_runV (As := []) (rest := []) (cfix X) (k_X10_advance2 l G cy κ S _ x hO.1 ha_x (by omega) (by omega)) (cwV 0 X.2.2.2.1 gX10_readCondition_X10_advance rfl rfl rfl (by decide +kernel) ⟨Nat.le_of_ble_eq_true rfl, Nat.le_of_ble_eq_true rfl⟩) (pre_V X hw _ ha_x rfl (by decide) rfl) rfl rfl hl.1 rfl (lv_room (Nat.le_of_ble_eq_true rfl)) dX10_readCondition_17 ⟨Nat.le_of_ble_eq_true rfl, Nat.le_of_ble_eq_true rfl⟩) 0 0 (Nat.le_of_ble_eq_true rfl) (Nat.le_of_ble_eq_true rfl) (fun S_22 H locs hp hw hfr hnw => ?_)
    obtain ⟨hk_23, hp⟩ := hp
    have hO_24 : Ok MLc S S_22 := hO.call hk_23 (by decide +kernel)
    have gb_25 : GB (tB S x) (pI S 1000 x).toInt.toNat S_22 x (nxT (tB S x) (pI S 1000 x).toInt.toNat t0) := GB_adv hp_0 rfl rfl (by omega) hp.1
    have ok_26 := hdI (GB_ok hG ha_x gb_25)
    have ok_27 : ((nxT (tB S x) (pI S 1000 x).toInt.toNat t0)).2.1 ≤ ((nxT (tB S x) (pI S 1000 x).toInt.toNat t0)).2.2 ∧ ((nxT (tB S x) (pI S 1000 x).toInt.toNat t0)).2.2 ≤ 400 := ⟨(hdE ok_26).1, (hdE ok_26).2.1⟩
    refine lv_aload_n X.1 X.2.1 dX10_readCondition_20 rfl (lv_at hl 1 rfl) ?_
    refine lv_bipush (v := 60) X.1 X.2.1 dX10_readCondition_21 (by decide) ?_
    have t_28 : At S_22 x 10 := hk_23.fr.at ha_x
    refine k_i (rm := { frames := 2, cells := 0, slots := 0, locals := 96 }) (av := [.ref x, .int 60]) X hw (va_runV (As := [.int 60]) (rest := []) (cfix X) (k_X10_isSign2 l G cy κ S_22 _ x (60) (60) (nxT (tB S x) (pI S 1000 x).toInt.toNat t0) hO_24.1 t_28 ti_60 gb_25.1) (cwV 1 X.2.2.2.1 gX10_readCondition_X10_isSign rfl rfl rfl (by decide +kernel) ⟨Nat.le_of_ble_eq_true rfl, Nat.le_of_ble_eq_true rfl⟩) (pre_V X hw _ t_28 rfl (by decide) rfl) rfl rfl hl.1 rfl (lv_room (Nat.le_of_ble_eq_true rfl)) dX10_readCondition_23 ⟨Nat.le_of_ble_eq_true rfl, Nat.le_of_ble_eq_true rfl⟩) 0 0 (Nat.le_of_ble_eq_true rfl) (Nat.le_of_ble_eq_true rfl) (fun rr_29 S_30 H locs hp hw hfr hnw => ?_)
    obtain ⟨e2, hp⟩ := hp
    subst e2
    rcases hp with ⟨f_31, er_32⟩ | ⟨f_31, er_32⟩ <;> subst er_32
    · have z_b_33 := trivial
      rw [tB_fr hG ha_x hO_24.fr (by decide +kernel)] at f_31
      refine lv_if_ne (tgt := 53) X.1 X.2.1 dX10_readCondition_26 (by decide) (fun c_34 => ?_) (fun c_34 => absurd c_34 (by decide))
      refine lv_aload_n X.1 X.2.1 dX10_readCondition_53 rfl (lv_at hl 1 rfl) ?_
      refine lv_aload_n X.1 X.2.1 dX10_readCondition_54 rfl (lv_at hl 1 rfl) ?_
      obtain ⟨v_35, ev_35⟩ : ∃ v, pI S_22 1005 x = v := ⟨_, rfl⟩
      have rg_37 := And.intro (z_lo v_35) (z_hi v_35)
      have pz_38 : (pI S_22 1005 x).toInt = v_35.toInt := by rw [ev_35]
      refine r_getI (g := 1005) (x := v_35) X hw t_28 rfl 5 ev_35 (by decide) rfl inn_X10_readCondition_10 (by decide) (X.2.2.2.1 (.fieldLink RX10 79 "SilkMill$Tape" "start" "I") (by decide +kernel)) rfl (gv_1005 _ _) dX10_readCondition_55 ?_
      have ts_39 := gb_25.1.2.1
      have pz_40 : (pI S_22 1005 x).toInt = v_35.toInt := (congrArg Int32.toInt ev_35).trans rfl
      refine k_i (rm := { frames := 1, cells := 0, slots := 0, locals := 48 }) (av := [.ref x, .int (v_35)]) X hw (va_runV (As := [.int (v_35)]) (rest := []) (cfix X) (k_X10_byteAt2 l G cy κ S_22 _ x (v_35) (v_35.toInt) hO_24.1 t_28 rfl) (cwV 1 X.2.2.2.1 gX10_readCondition_X10_byteAt rfl rfl rfl (by decide +kernel) ⟨Nat.le_of_ble_eq_true rfl, Nat.le_of_ble_eq_true rfl⟩) (pre_V X hw _ t_28 rfl (by decide) rfl) rfl rfl hl.1 rfl (lv_room (Nat.le_of_ble_eq_true rfl)) dX10_readCondition_58 ⟨Nat.le_of_ble_eq_true rfl, Nat.le_of_ble_eq_true rfl⟩) 0 0 (Nat.le_of_ble_eq_true rfl) (Nat.le_of_ble_eq_true rfl) (fun rr_41 S_42 H locs hp hw hfr hnw => ?_)
      obtain ⟨e2, hp⟩ := hp
      subst e2
      have rg_44 := And.intro (z_lo rr_41) (z_hi rr_41)
      have by_43 := hp (by omega)
      rw [tB_fr hG ha_x hO_24.fr (by decide +kernel)] at by_43
      refine lv_istore_n (lv' := [(3, .int (rr_41)), (2, .int (rr_5)), (0, .ref x), (1, .ref r1)]) X.1 X.2.1 dX10_readCondition_61 rfl hl (by decide) rfl (fun ls hl => ?_)
      refine lv_aload_n X.1 X.2.1 dX10_readCondition_62 rfl (lv_at hl 2 rfl) ?_
      have ok_45 := hdI (GB_ok hG ha_x gb_25)
      have ok_46 : ((nxT (tB S x) (pI S 1000 x).toInt.toNat t0)).2.1 ≤ ((nxT (tB S x) (pI S 1000 x).toInt.toNat t0)).2.2 ∧ ((nxT (tB S x) (pI S 1000 x).toInt.toNat t0)).2.2 ≤ 400 := ⟨(hdE ok_45).1, (hdE ok_45).2.1⟩
      obtain ⟨v_48, ev_48⟩ : ∃ v, pI S_22 1006 x = v := ⟨_, rfl⟩
      have rg_50 := And.intro (z_lo v_48) (z_hi v_48)
      have pz_51 : (pI S_22 1006 x).toInt = v_48.toInt := by rw [ev_48]
      have pz_52 : (pI S_22 1006 x).toInt = v_48.toInt := (congrArg Int32.toInt ev_48).trans rfl
      have te_53 := gb_25.1.2.2
      refine k_v (rm := { frames := 2, cells := 0, slots := 0, locals := 96 }) (av := [.ref x]) X hw (va_runV (As := []) (rest := []) (cfix X) (k_X10_advance2 l G cy κ S_22 _ x hO_24.1 t_28 (by omega) (by omega)) (cwV 0 X.2.2.2.1 gX10_readCondition_X10_advance rfl rfl rfl (by decide +kernel) ⟨Nat.le_of_ble_eq_true rfl, Nat.le_of_ble_eq_true rfl⟩) (pre_V X hw _ t_28 rfl (by decide) rfl) rfl rfl hl.1 rfl (lv_room (Nat.le_of_ble_eq_true rfl)) dX10_readCondition_63 ⟨Nat.le_of_ble_eq_true rfl, Nat.le_of_ble_eq_true rfl⟩) 0 0 (Nat.le_of_ble_eq_true rfl) (Nat.le_of_ble_eq_true rfl) (fun S_55 H locs hp hw hfr hnw => ?_)
      obtain ⟨hk_56, hp⟩ := hp
      have hO_57 : Ok MLc S S_55 := hO_24.call hk_56 (by decide +kernel)
      have gb_58 : GB (tB S x) (pI S 1000 x).toInt.toNat S_55 x (nxT (tB S x) (pI S 1000 x).toInt.toNat (nxT (tB S x) (pI S 1000 x).toInt.toNat t0)) := GB_adv gb_25 (tB_fr hG ha_x hO_24.fr (by decide +kernel)) (by rw [hO_24.fr.I' (g := 1000) (by decide +kernel) ha_x rfl]) (by omega) hp.1
      have ok_59 := hdI (GB_ok hG ha_x gb_58)
      have ok_60 : ((nxT (tB S x) (pI S 1000 x).toInt.toNat (nxT (tB S x) (pI S 1000 x).toInt.toNat t0))).2.1 ≤ ((nxT (tB S x) (pI S 1000 x).toInt.toNat (nxT (tB S x) (pI S 1000 x).toInt.toNat t0))).2.2 ∧ ((nxT (tB S x) (pI S 1000 x).toInt.toNat (nxT (tB S x) (pI S 1000 x).toInt.toNat t0))).2.2 ≤ 400 := ⟨(hdE ok_59).1, (hdE ok_59).2.1⟩
      refine lv_aload_n X.1 X.2.1 dX10_readCondition_66 rfl (lv_at hl 2 rfl) ?_
      obtain ⟨v_61, ev_61⟩ : ∃ v, pI S_55 1004 x = v := ⟨_, rfl⟩
      have rg_63 := And.intro (z_lo v_61) (z_hi v_61)
      have pz_64 : (pI S_55 1004 x).toInt = v_61.toInt := by rw [ev_61]
      have pz_65 : (pI S_55 1004 x).toInt = v_61.toInt := (congrArg Int32.toInt ev_61).trans rfl
      have tk_66 := gb_58.1.1
      have t_67 : At S_55 x 10 := hk_56.fr.at t_28
      refine r_getI (g := 1004) (x := v_61) X hw t_67 rfl 4 ev_61 (by decide) rfl inn_X10_readCondition_10 (by decide) (X.2.2.2.1 (.fieldLink RX10 37 "SilkMill$Tape" "token" "I") (by decide +kernel)) rfl (gv_1004 _ _) dX10_readCondition_67 ?_
      refine lv_iconst (v := 2) X.1 X.2.1 dX10_readCondition_70 (by decide) ?_
      refine lv_icmp_eq (tgt := 80) X.1 X.2.1 dX10_readCondition_71 (by decide) (fun c_68 => ?_) (fun c_68 => ?_)
      · have z_b_69 := trivial
        have k_70 : v_61.toInt = 2 := z_eq rfl ti_2 c_68
        refine lv_aload_n X.1 X.2.1 dX10_readCondition_80 rfl (lv_at hl 3 rfl) ?_
        refine lv_iload_n X.1 X.2.1 dX10_readCondition_81 rfl (lv_at hl 1 rfl) ?_
        refine lv_iload_n X.1 X.2.1 dX10_readCondition_82 rfl (lv_at hl 0 rfl) ?_
        refine lv_aload_n X.1 X.2.1 dX10_readCondition_83 rfl (lv_at hl 2 rfl) ?_
        have k2_71 := (hdE ok_59).2.2.1 (by omega)
        refine k_i (rm := { frames := 2, cells := 0, slots := 0, locals := 96 }) (av := [.ref x]) X hw (va_runV (As := []) (rest := [.int (rr_41), .int (rr_5), .ref r1]) (cfix X) (k_X10_numberAtHand2 l G cy κ S_55 _ x (nxT (tB S x) (pI S 1000 x).toInt.toNat (nxT (tB S x) (pI S 1000 x).toInt.toNat t0)) hO_57.1 t_67 gb_58.1 (hdE ok_59).1 (hdE ok_59).2.1 k2_71.1 (by rw [tB_fr hG ha_x hO_57.fr (by decide +kernel)]; exact k2_71.2)) (cwV 0 X.2.2.2.1 gX10_readCondition_X10_numberAtHand rfl rfl rfl (by decide +kernel) ⟨Nat.le_of_ble_eq_true rfl, Nat.le_of_ble_eq_true rfl⟩) (pre_V X hw _ t_67 rfl (by decide) rfl) rfl rfl hl.1 rfl (lv_room (Nat.le_of_ble_eq_true rfl)) dX10_readCondition_84 ⟨Nat.le_of_ble_eq_true rfl, Nat.le_of_ble_eq_true rfl⟩) 0 0 (Nat.le_of_ble_eq_true rfl) (Nat.le_of_ble_eq_true rfl) (fun rr_72 S_73 H locs hp hw hfr hnw => ?_)
        obtain ⟨e2, hp⟩ := hp
        subst e2
        obtain ⟨nu_74, nu_75, nu_76⟩ := hp
        rw [tB_fr hG ha_x hO_57.fr (by decide +kernel)] at nu_76
        have t_77 : At S_22 r1 6 := hk_23.fr.at ha_r1
        have t_78 : At S_55 r1 6 := hk_56.fr.at t_77
        have rc_79 : RuC S_22 r1 Rl Cl := RuC_fr hO.1 ha_r1 hk_23.fr (by decide +kernel) hp_1
        have t_81 : At S_22 r1 6 := hk_23.fr.at ha_r1
        have rc_80 : RuC S_55 r1 Rl Cl := RuC_fr hO_24.1 t_81 hk_56.fr (by decide +kernel) rc_79
        have rpr_82 : ∀ g, g ∈ ruG → pR S_22 g r1 = pR S g r1 := fun g hg => (ru_pR hk_23.fr ha_r1 (by decide +kernel) g hg).trans ((fun _ _ => rfl) g hg)
        have rpr_83 : ∀ g, g ∈ ruG → pR S_55 g r1 = pR S g r1 := fun g hg => (ru_pR hk_56.fr t_81 (by decide +kernel) g hg).trans (rpr_82 g hg)
        have rl_84 := rc_80.1.1
        have rl_85 : zA S_55 r1 603 (pI S_55 600 r1).toInt.toNat < 4 := by rw [show (pI S_55 600 r1).toInt.toNat = (Rl).length by omega, zA_eq, rc_80.2.1]; omega
        refine k_v (rm := { frames := 1, cells := 0, slots := 0, locals := 48 }) (av := [.ref r1, .int (rr_5), .int (rr_41), .int (rr_72)]) X hw (va_runV (As := [.int (rr_5), .int (rr_41), .int (rr_72)]) (rest := []) (cfix X) (k_X6_addCondition2 l G cy κ S_55 _ r1 (rr_5) (rr_5.toInt) (rr_41) (rr_41.toInt) (rr_72) (rr_72.toInt) hO_57.1 t_78 rfl rfl rfl (by omega) rl_85) (cwV 3 X.2.2.2.1 gX10_readCondition_X6_addCondition rfl rfl rfl (by decide +kernel) ⟨Nat.le_of_ble_eq_true rfl, Nat.le_of_ble_eq_true rfl⟩) (pre_V X hw _ t_78 rfl (by decide) rfl) rfl rfl hl.1 rfl (lv_room (Nat.le_of_ble_eq_true rfl)) dX10_readCondition_87 ⟨Nat.le_of_ble_eq_true rfl, Nat.le_of_ble_eq_true rfl⟩) 0 0 (Nat.le_of_ble_eq_true rfl) (Nat.le_of_ble_eq_true rfl) (fun S_87 H locs hp hw hfr hnw => ?_)
        obtain ⟨hk_88, hp⟩ := hp
        have hO_89 : Ok MLc S S_87 := hO_57.call hk_88 (by decide +kernel)
        have ra_90 := RuC_add hO_57.1 t_78 (RuD_to rpr_83 hp_2) rc_80 hp
        refine lv_aload_n X.1 X.2.1 dX10_readCondition_90 rfl (lv_at hl 2 rfl) ?_
        have t_91 : At S_87 x 10 := hk_88.fr.at t_67
        have gb_92 := GB_fr gb_58 t_67 hk_88.fr (by decide +kernel)
        have ok_93 := hdI (GB_ok hG ha_x gb_92)
        have ok_94 : ((nxT (tB S x) (pI S 1000 x).toInt.toNat (nxT (tB S x) (pI S 1000 x).toInt.toNat t0))).2.1 ≤ ((nxT (tB S x) (pI S 1000 x).toInt.toNat (nxT (tB S x) (pI S 1000 x).toInt.toNat t0))).2.2 ∧ ((nxT (tB S x) (pI S 1000 x).toInt.toNat (nxT (tB S x) (pI S 1000 x).toInt.toNat t0))).2.2 ≤ 400 := ⟨(hdE ok_93).1, (hdE ok_93).2.1⟩
        obtain ⟨v_96, ev_96⟩ : ∃ v, pI S_87 1006 x = v := ⟨_, rfl⟩
        have rg_98 := And.intro (z_lo v_96) (z_hi v_96)
        have pz_99 : (pI S_87 1006 x).toInt = v_96.toInt := by rw [ev_96]
        have pz_100 : (pI S_87 1006 x).toInt = v_96.toInt := (congrArg Int32.toInt ev_96).trans rfl
        have te_101 := gb_92.1.2.2
        refine k_v (rm := { frames := 2, cells := 0, slots := 0, locals := 96 }) (av := [.ref x]) X hw (va_runV (As := []) (rest := []) (cfix X) (k_X10_advance2 l G cy κ S_87 _ x hO_89.1 t_91 (by omega) (by omega)) (cwV 0 X.2.2.2.1 gX10_readCondition_X10_advance rfl rfl rfl (by decide +kernel) ⟨Nat.le_of_ble_eq_true rfl, Nat.le_of_ble_eq_true rfl⟩) (pre_V X hw _ t_91 rfl (by decide) rfl) rfl rfl hl.1 rfl (lv_room (Nat.le_of_ble_eq_true rfl)) dX10_readCondition_91 ⟨Nat.le_of_ble_eq_true rfl, Nat.le_of_ble_eq_true rfl⟩) 0 0 (Nat.le_of_ble_eq_true rfl) (Nat.le_of_ble_eq_true rfl) (fun S_103 H locs hp hw hfr hnw => ?_)
        obtain ⟨hk_104, hp⟩ := hp
        have hO_105 : Ok MLc S S_103 := hO_89.call hk_104 (by decide +kernel)
        have gb_106 : GB (tB S x) (pI S 1000 x).toInt.toNat S_103 x (nxT (tB S x) (pI S 1000 x).toInt.toNat (nxT (tB S x) (pI S 1000 x).toInt.toNat (nxT (tB S x) (pI S 1000 x).toInt.toNat t0))) := GB_adv gb_92 (tB_fr hG ha_x hO_89.fr (by decide +kernel)) (by rw [hO_89.fr.I' (g := 1000) (by decide +kernel) ha_x rfl]) (by omega) hp.1
        have ok_107 := hdI (GB_ok hG ha_x gb_106)
        have ok_108 : ((nxT (tB S x) (pI S 1000 x).toInt.toNat (nxT (tB S x) (pI S 1000 x).toInt.toNat (nxT (tB S x) (pI S 1000 x).toInt.toNat t0)))).2.1 ≤ ((nxT (tB S x) (pI S 1000 x).toInt.toNat (nxT (tB S x) (pI S 1000 x).toInt.toNat (nxT (tB S x) (pI S 1000 x).toInt.toNat t0)))).2.2 ∧ ((nxT (tB S x) (pI S 1000 x).toInt.toNat (nxT (tB S x) (pI S 1000 x).toInt.toNat (nxT (tB S x) (pI S 1000 x).toInt.toNat t0)))).2.2 ≤ 400 := ⟨(hdE ok_107).1, (hdE ok_107).2.1⟩
        refine lv_iconst (v := 1) X.1 X.2.1 dX10_readCondition_94 (by decide) ?_
        have ruk_109 : RuK S S_22 r1 := RuK_fr (RuK_rf S r1) (fun _ _ h => h) hk_23.fr (by decide +kernel)
        have axg_111 : ∀ a k, At S a k → At S_22 a k := fun a k h => hk_23.fr.at ((fun _ _ h => h) a k h)
        have ruk_110 : RuK S S_55 r1 := RuK_fr ruk_109 axg_111 hk_56.fr (by decide +kernel)
        have axg_113 : ∀ a k, At S a k → At S_55 a k := fun a k h => hk_56.fr.at (axg_111 a k h)
        have ruk_112 : RuK S S_87 r1 := RuK_tr ruk_110 axg_113 rpr_83 ra_90.2
        have axg_115 : ∀ a k, At S a k → At S_87 a k := fun a k h => hk_88.fr.at (axg_113 a k h)
        have ruk_114 : RuK S S_103 r1 := RuK_fr ruk_112 axg_115 hk_104.fr (by decide +kernel)
        have t_117 : At S_87 r1 6 := hk_88.fr.at t_78
        have rc_116 : RuC S_103 r1 Rl (Cl ++ [(rr_5, rr_41, rr_72)]) := RuC_fr hO_89.1 t_117 hk_104.fr (by decide +kernel) ra_90.1
        have cd_118 : cdV (tB S x) (pI S 1000 x).toInt.toNat t0 = (rr_5, rr_41, rr_72) := cdV_eq wh_9 (by rw [← show (v_35.toInt : Int).toNat = (nxT (tB S x) (pI S 1000 x).toInt.toNat t0).2.1 by omega]; exact by_43) nu_76
        exact ret_z X hw hr hlocks (Nat.le_of_ble_eq_true rfl) (Nat.le_of_ble_eq_true rfl) (by decide) ⟨hO_105, Or.inl ⟨⟨⟨by omega, Or.inl f_31, by omega⟩, gb_106, (by rw [cd_118]; exact rc_116), ruk_114⟩, rfl⟩⟩ dX10_readCondition_95
      · have z_b_119 := trivial
        have k_120 : v_61.toInt ≠ 2 := z_ne rfl ti_2 c_68
        refine lv_aload_n X.1 X.2.1 dX10_readCondition_74 rfl (lv_at hl 2 rfl) ?_
        refine lv_iconst (v := 1) X.1 X.2.1 dX10_readCondition_75 (by decide) ?_
        refine k_i (rm := { frames := 1, cells := 0, slots := 0, locals := 48 }) (av := [.ref x, .int 1]) X hw (va_runV (As := [.int 1]) (rest := []) (cfix X) (k_X10_fail2 l G cy κ S_55 _ x (1) (1) hO_57.1 t_67 ti_1) (cwV 1 X.2.2.2.1 gX10_readCondition_X10_fail rfl rfl rfl (by decide +kernel) ⟨Nat.le_of_ble_eq_true rfl, Nat.le_of_ble_eq_true rfl⟩) (pre_V X hw _ t_67 rfl (by decide) rfl) rfl rfl hl.1 rfl (lv_room (Nat.le_of_ble_eq_true rfl)) dX10_readCondition_76 ⟨Nat.le_of_ble_eq_true rfl, Nat.le_of_ble_eq_true rfl⟩) 0 0 (Nat.le_of_ble_eq_true rfl) (Nat.le_of_ble_eq_true rfl) (fun rr_121 S_122 H locs hp hw hfr hnw => ?_)
        obtain ⟨hk_123, hp⟩ := hp
        have hO_124 : Ok MLc S S_122 := hO_57.call hk_123 (by decide +kernel)
        rcases hp with ⟨f_125, er_126⟩ | ⟨f_125, er_126⟩ <;> subst er_126
        · have z_b_127 := trivial
          exact f_125.elim
        · have z_b_128 := trivial
          have ruk_129 : RuK S S_22 r1 := RuK_fr (RuK_rf S r1) (fun _ _ h => h) hk_23.fr (by decide +kernel)
          have axg_131 : ∀ a k, At S a k → At S_22 a k := fun a k h => hk_23.fr.at ((fun _ _ h => h) a k h)
          have ruk_130 : RuK S S_55 r1 := RuK_fr ruk_129 axg_131 hk_56.fr (by decide +kernel)
          have axg_133 : ∀ a k, At S a k → At S_55 a k := fun a k h => hk_56.fr.at (axg_131 a k h)
          have ruk_132 : RuK S S_122 r1 := RuK_fr ruk_130 axg_133 hk_123.fr (by decide +kernel)
          exact ret_z X hw hr hlocks (Nat.le_of_ble_eq_true rfl) (Nat.le_of_ble_eq_true rfl) (by decide) ⟨hO_124, Or.inr ⟨⟨fun h => by have h3 := h.2.2; omega, f_125, ruk_132⟩, rfl⟩⟩ dX10_readCondition_79
    · have z_b_134 := trivial
      rw [tB_fr hG ha_x hO_24.fr (by decide +kernel)] at f_31
      refine lv_if_ne (tgt := 53) X.1 X.2.1 dX10_readCondition_26 (by decide) (fun c_135 => absurd c_135 (by decide)) (fun c_135 => ?_)
      refine lv_aload_n X.1 X.2.1 dX10_readCondition_29 rfl (lv_at hl 1 rfl) ?_
      refine lv_bipush (v := 61) X.1 X.2.1 dX10_readCondition_30 (by decide) ?_
      refine k_i (rm := { frames := 2, cells := 0, slots := 0, locals := 96 }) (av := [.ref x, .int 61]) X hw (va_runV (As := [.int 61]) (rest := []) (cfix X) (k_X10_isSign2 l G cy κ S_22 _ x (61) (61) (nxT (tB S x) (pI S 1000 x).toInt.toNat t0) hO_24.1 t_28 ti_61 gb_25.1) (cwV 1 X.2.2.2.1 gX10_readCondition_X10_isSign rfl rfl rfl (by decide +kernel) ⟨Nat.le_of_ble_eq_true rfl, Nat.le_of_ble_eq_true rfl⟩) (pre_V X hw _ t_28 rfl (by decide) rfl) rfl rfl hl.1 rfl (lv_room (Nat.le_of_ble_eq_true rfl)) dX10_readCondition_32 ⟨Nat.le_of_ble_eq_true rfl, Nat.le_of_ble_eq_true rfl⟩) 0 0 (Nat.le_of_ble_eq_true rfl) (Nat.le_of_ble_eq_true rfl) (fun rr_136 S_137 H locs hp hw hfr hnw => ?_)
      obtain ⟨e2, hp⟩ := hp
      subst e2
      rcases hp with ⟨f_138, er_139⟩ | ⟨f_138, er_139⟩ <;> subst er_139
      · have z_b_140 := trivial
        rw [tB_fr hG ha_x hO_24.fr (by decide +kernel)] at f_138
        refine lv_if_ne (tgt := 53) X.1 X.2.1 dX10_readCondition_35 (by decide) (fun c_141 => ?_) (fun c_141 => absurd c_141 (by decide))
        refine lv_aload_n X.1 X.2.1 dX10_readCondition_53 rfl (lv_at hl 1 rfl) ?_
        refine lv_aload_n X.1 X.2.1 dX10_readCondition_54 rfl (lv_at hl 1 rfl) ?_
        obtain ⟨v_142, ev_142⟩ : ∃ v, pI S_22 1005 x = v := ⟨_, rfl⟩
        have rg_144 := And.intro (z_lo v_142) (z_hi v_142)
        have pz_145 : (pI S_22 1005 x).toInt = v_142.toInt := by rw [ev_142]
        refine r_getI (g := 1005) (x := v_142) X hw t_28 rfl 5 ev_142 (by decide) rfl inn_X10_readCondition_10 (by decide) (X.2.2.2.1 (.fieldLink RX10 79 "SilkMill$Tape" "start" "I") (by decide +kernel)) rfl (gv_1005 _ _) dX10_readCondition_55 ?_
        have ts_146 := gb_25.1.2.1
        have pz_147 : (pI S_22 1005 x).toInt = v_142.toInt := (congrArg Int32.toInt ev_142).trans rfl
        refine k_i (rm := { frames := 1, cells := 0, slots := 0, locals := 48 }) (av := [.ref x, .int (v_142)]) X hw (va_runV (As := [.int (v_142)]) (rest := []) (cfix X) (k_X10_byteAt2 l G cy κ S_22 _ x (v_142) (v_142.toInt) hO_24.1 t_28 rfl) (cwV 1 X.2.2.2.1 gX10_readCondition_X10_byteAt rfl rfl rfl (by decide +kernel) ⟨Nat.le_of_ble_eq_true rfl, Nat.le_of_ble_eq_true rfl⟩) (pre_V X hw _ t_28 rfl (by decide) rfl) rfl rfl hl.1 rfl (lv_room (Nat.le_of_ble_eq_true rfl)) dX10_readCondition_58 ⟨Nat.le_of_ble_eq_true rfl, Nat.le_of_ble_eq_true rfl⟩) 0 0 (Nat.le_of_ble_eq_true rfl) (Nat.le_of_ble_eq_true rfl) (fun rr_148 S_149 H locs hp hw hfr hnw => ?_)
        obtain ⟨e2, hp⟩ := hp
        subst e2
        have rg_151 := And.intro (z_lo rr_148) (z_hi rr_148)
        have by_150 := hp (by omega)
        rw [tB_fr hG ha_x hO_24.fr (by decide +kernel)] at by_150
        refine lv_istore_n (lv' := [(3, .int (rr_148)), (2, .int (rr_5)), (0, .ref x), (1, .ref r1)]) X.1 X.2.1 dX10_readCondition_61 rfl hl (by decide) rfl (fun ls hl => ?_)
        refine lv_aload_n X.1 X.2.1 dX10_readCondition_62 rfl (lv_at hl 2 rfl) ?_
        have ok_152 := hdI (GB_ok hG ha_x gb_25)
        have ok_153 : ((nxT (tB S x) (pI S 1000 x).toInt.toNat t0)).2.1 ≤ ((nxT (tB S x) (pI S 1000 x).toInt.toNat t0)).2.2 ∧ ((nxT (tB S x) (pI S 1000 x).toInt.toNat t0)).2.2 ≤ 400 := ⟨(hdE ok_152).1, (hdE ok_152).2.1⟩
        obtain ⟨v_155, ev_155⟩ : ∃ v, pI S_22 1006 x = v := ⟨_, rfl⟩
        have rg_157 := And.intro (z_lo v_155) (z_hi v_155)
        have pz_158 : (pI S_22 1006 x).toInt = v_155.toInt := by rw [ev_155]
        have pz_159 : (pI S_22 1006 x).toInt = v_155.toInt := (congrArg Int32.toInt ev_155).trans rfl
        have te_160 := gb_25.1.2.2
        refine k_v (rm := { frames := 2, cells := 0, slots := 0, locals := 96 }) (av := [.ref x]) X hw (va_runV (As := []) (rest := []) (cfix X) (k_X10_advance2 l G cy κ S_22 _ x hO_24.1 t_28 (by omega) (by omega)) (cwV 0 X.2.2.2.1 gX10_readCondition_X10_advance rfl rfl rfl (by decide +kernel) ⟨Nat.le_of_ble_eq_true rfl, Nat.le_of_ble_eq_true rfl⟩) (pre_V X hw _ t_28 rfl (by decide) rfl) rfl rfl hl.1 rfl (lv_room (Nat.le_of_ble_eq_true rfl)) dX10_readCondition_63 ⟨Nat.le_of_ble_eq_true rfl, Nat.le_of_ble_eq_true rfl⟩) 0 0 (Nat.le_of_ble_eq_true rfl) (Nat.le_of_ble_eq_true rfl) (fun S_162 H locs hp hw hfr hnw => ?_)
        obtain ⟨hk_163, hp⟩ := hp
        have hO_164 : Ok MLc S S_162 := hO_24.call hk_163 (by decide +kernel)
        have gb_165 : GB (tB S x) (pI S 1000 x).toInt.toNat S_162 x (nxT (tB S x) (pI S 1000 x).toInt.toNat (nxT (tB S x) (pI S 1000 x).toInt.toNat t0)) := GB_adv gb_25 (tB_fr hG ha_x hO_24.fr (by decide +kernel)) (by rw [hO_24.fr.I' (g := 1000) (by decide +kernel) ha_x rfl]) (by omega) hp.1
        have ok_166 := hdI (GB_ok hG ha_x gb_165)
        have ok_167 : ((nxT (tB S x) (pI S 1000 x).toInt.toNat (nxT (tB S x) (pI S 1000 x).toInt.toNat t0))).2.1 ≤ ((nxT (tB S x) (pI S 1000 x).toInt.toNat (nxT (tB S x) (pI S 1000 x).toInt.toNat t0))).2.2 ∧ ((nxT (tB S x) (pI S 1000 x).toInt.toNat (nxT (tB S x) (pI S 1000 x).toInt.toNat t0))).2.2 ≤ 400 := ⟨(hdE ok_166).1, (hdE ok_166).2.1⟩
        refine lv_aload_n X.1 X.2.1 dX10_readCondition_66 rfl (lv_at hl 2 rfl) ?_
        obtain ⟨v_168, ev_168⟩ : ∃ v, pI S_162 1004 x = v := ⟨_, rfl⟩
        have rg_170 := And.intro (z_lo v_168) (z_hi v_168)
        have pz_171 : (pI S_162 1004 x).toInt = v_168.toInt := by rw [ev_168]
        have pz_172 : (pI S_162 1004 x).toInt = v_168.toInt := (congrArg Int32.toInt ev_168).trans rfl
        have tk_173 := gb_165.1.1
        have t_174 : At S_162 x 10 := hk_163.fr.at t_28
        refine r_getI (g := 1004) (x := v_168) X hw t_174 rfl 4 ev_168 (by decide) rfl inn_X10_readCondition_10 (by decide) (X.2.2.2.1 (.fieldLink RX10 37 "SilkMill$Tape" "token" "I") (by decide +kernel)) rfl (gv_1004 _ _) dX10_readCondition_67 ?_
        refine lv_iconst (v := 2) X.1 X.2.1 dX10_readCondition_70 (by decide) ?_
        refine lv_icmp_eq (tgt := 80) X.1 X.2.1 dX10_readCondition_71 (by decide) (fun c_175 => ?_) (fun c_175 => ?_)
        · have z_b_176 := trivial
          have k_177 : v_168.toInt = 2 := z_eq rfl ti_2 c_175
          refine lv_aload_n X.1 X.2.1 dX10_readCondition_80 rfl (lv_at hl 3 rfl) ?_
          refine lv_iload_n X.1 X.2.1 dX10_readCondition_81 rfl (lv_at hl 1 rfl) ?_
          refine lv_iload_n X.1 X.2.1 dX10_readCondition_82 rfl (lv_at hl 0 rfl) ?_
          refine lv_aload_n X.1 X.2.1 dX10_readCondition_83 rfl (lv_at hl 2 rfl) ?_
          have k2_178 := (hdE ok_166).2.2.1 (by omega)
          refine k_i (rm := { frames := 2, cells := 0, slots := 0, locals := 96 }) (av := [.ref x]) X hw (va_runV (As := []) (rest := [.int (rr_148), .int (rr_5), .ref r1]) (cfix X) (k_X10_numberAtHand2 l G cy κ S_162 _ x (nxT (tB S x) (pI S 1000 x).toInt.toNat (nxT (tB S x) (pI S 1000 x).toInt.toNat t0)) hO_164.1 t_174 gb_165.1 (hdE ok_166).1 (hdE ok_166).2.1 k2_178.1 (by rw [tB_fr hG ha_x hO_164.fr (by decide +kernel)]; exact k2_178.2)) (cwV 0 X.2.2.2.1 gX10_readCondition_X10_numberAtHand rfl rfl rfl (by decide +kernel) ⟨Nat.le_of_ble_eq_true rfl, Nat.le_of_ble_eq_true rfl⟩) (pre_V X hw _ t_174 rfl (by decide) rfl) rfl rfl hl.1 rfl (lv_room (Nat.le_of_ble_eq_true rfl)) dX10_readCondition_84 ⟨Nat.le_of_ble_eq_true rfl, Nat.le_of_ble_eq_true rfl⟩) 0 0 (Nat.le_of_ble_eq_true rfl) (Nat.le_of_ble_eq_true rfl) (fun rr_179 S_180 H locs hp hw hfr hnw => ?_)
          obtain ⟨e2, hp⟩ := hp
          subst e2
          obtain ⟨nu_181, nu_182, nu_183⟩ := hp
          rw [tB_fr hG ha_x hO_164.fr (by decide +kernel)] at nu_183
          have t_184 : At S_22 r1 6 := hk_23.fr.at ha_r1
          have t_185 : At S_162 r1 6 := hk_163.fr.at t_184
          have rc_186 : RuC S_22 r1 Rl Cl := RuC_fr hO.1 ha_r1 hk_23.fr (by decide +kernel) hp_1
          have t_188 : At S_22 r1 6 := hk_23.fr.at ha_r1
          have rc_187 : RuC S_162 r1 Rl Cl := RuC_fr hO_24.1 t_188 hk_163.fr (by decide +kernel) rc_186
          have rpr_189 : ∀ g, g ∈ ruG → pR S_22 g r1 = pR S g r1 := fun g hg => (ru_pR hk_23.fr ha_r1 (by decide +kernel) g hg).trans ((fun _ _ => rfl) g hg)
          have rpr_190 : ∀ g, g ∈ ruG → pR S_162 g r1 = pR S g r1 := fun g hg => (ru_pR hk_163.fr t_188 (by decide +kernel) g hg).trans (rpr_189 g hg)
          have rl_191 := rc_187.1.1
          have rl_192 : zA S_162 r1 603 (pI S_162 600 r1).toInt.toNat < 4 := by rw [show (pI S_162 600 r1).toInt.toNat = (Rl).length by omega, zA_eq, rc_187.2.1]; omega
          refine k_v (rm := { frames := 1, cells := 0, slots := 0, locals := 48 }) (av := [.ref r1, .int (rr_5), .int (rr_148), .int (rr_179)]) X hw (va_runV (As := [.int (rr_5), .int (rr_148), .int (rr_179)]) (rest := []) (cfix X) (k_X6_addCondition2 l G cy κ S_162 _ r1 (rr_5) (rr_5.toInt) (rr_148) (rr_148.toInt) (rr_179) (rr_179.toInt) hO_164.1 t_185 rfl rfl rfl (by omega) rl_192) (cwV 3 X.2.2.2.1 gX10_readCondition_X6_addCondition rfl rfl rfl (by decide +kernel) ⟨Nat.le_of_ble_eq_true rfl, Nat.le_of_ble_eq_true rfl⟩) (pre_V X hw _ t_185 rfl (by decide) rfl) rfl rfl hl.1 rfl (lv_room (Nat.le_of_ble_eq_true rfl)) dX10_readCondition_87 ⟨Nat.le_of_ble_eq_true rfl, Nat.le_of_ble_eq_true rfl⟩) 0 0 (Nat.le_of_ble_eq_true rfl) (Nat.le_of_ble_eq_true rfl) (fun S_194 H locs hp hw hfr hnw => ?_)
          obtain ⟨hk_195, hp⟩ := hp
          have hO_196 : Ok MLc S S_194 := hO_164.call hk_195 (by decide +kernel)
          have ra_197 := RuC_add hO_164.1 t_185 (RuD_to rpr_190 hp_2) rc_187 hp
          refine lv_aload_n X.1 X.2.1 dX10_readCondition_90 rfl (lv_at hl 2 rfl) ?_
          have t_198 : At S_194 x 10 := hk_195.fr.at t_174
          have gb_199 := GB_fr gb_165 t_174 hk_195.fr (by decide +kernel)
          have ok_200 := hdI (GB_ok hG ha_x gb_199)
          have ok_201 : ((nxT (tB S x) (pI S 1000 x).toInt.toNat (nxT (tB S x) (pI S 1000 x).toInt.toNat t0))).2.1 ≤ ((nxT (tB S x) (pI S 1000 x).toInt.toNat (nxT (tB S x) (pI S 1000 x).toInt.toNat t0))).2.2 ∧ ((nxT (tB S x) (pI S 1000 x).toInt.toNat (nxT (tB S x) (pI S 1000 x).toInt.toNat t0))).2.2 ≤ 400 := ⟨(hdE ok_200).1, (hdE ok_200).2.1⟩
          obtain ⟨v_203, ev_203⟩ : ∃ v, pI S_194 1006 x = v := ⟨_, rfl⟩
          have rg_205 := And.intro (z_lo v_203) (z_hi v_203)
          have pz_206 : (pI S_194 1006 x).toInt = v_203.toInt := by rw [ev_203]
          have pz_207 : (pI S_194 1006 x).toInt = v_203.toInt := (congrArg Int32.toInt ev_203).trans rfl
          have te_208 := gb_199.1.2.2
          refine k_v (rm := { frames := 2, cells := 0, slots := 0, locals := 96 }) (av := [.ref x]) X hw (va_runV (As := []) (rest := []) (cfix X) (k_X10_advance2 l G cy κ S_194 _ x hO_196.1 t_198 (by omega) (by omega)) (cwV 0 X.2.2.2.1 gX10_readCondition_X10_advance rfl rfl rfl (by decide +kernel) ⟨Nat.le_of_ble_eq_true rfl, Nat.le_of_ble_eq_true rfl⟩) (pre_V X hw _ t_198 rfl (by decide) rfl) rfl rfl hl.1 rfl (lv_room (Nat.le_of_ble_eq_true rfl)) dX10_readCondition_91 ⟨Nat.le_of_ble_eq_true rfl, Nat.le_of_ble_eq_true rfl⟩) 0 0 (Nat.le_of_ble_eq_true rfl) (Nat.le_of_ble_eq_true rfl) (fun S_210 H locs hp hw hfr hnw => ?_)
          obtain ⟨hk_211, hp⟩ := hp
          have hO_212 : Ok MLc S S_210 := hO_196.call hk_211 (by decide +kernel)
          have gb_213 : GB (tB S x) (pI S 1000 x).toInt.toNat S_210 x (nxT (tB S x) (pI S 1000 x).toInt.toNat (nxT (tB S x) (pI S 1000 x).toInt.toNat (nxT (tB S x) (pI S 1000 x).toInt.toNat t0))) := GB_adv gb_199 (tB_fr hG ha_x hO_196.fr (by decide +kernel)) (by rw [hO_196.fr.I' (g := 1000) (by decide +kernel) ha_x rfl]) (by omega) hp.1
          have ok_214 := hdI (GB_ok hG ha_x gb_213)
          have ok_215 : ((nxT (tB S x) (pI S 1000 x).toInt.toNat (nxT (tB S x) (pI S 1000 x).toInt.toNat (nxT (tB S x) (pI S 1000 x).toInt.toNat t0)))).2.1 ≤ ((nxT (tB S x) (pI S 1000 x).toInt.toNat (nxT (tB S x) (pI S 1000 x).toInt.toNat (nxT (tB S x) (pI S 1000 x).toInt.toNat t0)))).2.2 ∧ ((nxT (tB S x) (pI S 1000 x).toInt.toNat (nxT (tB S x) (pI S 1000 x).toInt.toNat (nxT (tB S x) (pI S 1000 x).toInt.toNat t0)))).2.2 ≤ 400 := ⟨(hdE ok_214).1, (hdE ok_214).2.1⟩
          refine lv_iconst (v := 1) X.1 X.2.1 dX10_readCondition_94 (by decide) ?_
          have ruk_216 : RuK S S_22 r1 := RuK_fr (RuK_rf S r1) (fun _ _ h => h) hk_23.fr (by decide +kernel)
          have axg_218 : ∀ a k, At S a k → At S_22 a k := fun a k h => hk_23.fr.at ((fun _ _ h => h) a k h)
          have ruk_217 : RuK S S_162 r1 := RuK_fr ruk_216 axg_218 hk_163.fr (by decide +kernel)
          have axg_220 : ∀ a k, At S a k → At S_162 a k := fun a k h => hk_163.fr.at (axg_218 a k h)
          have ruk_219 : RuK S S_194 r1 := RuK_tr ruk_217 axg_220 rpr_190 ra_197.2
          have axg_222 : ∀ a k, At S a k → At S_194 a k := fun a k h => hk_195.fr.at (axg_220 a k h)
          have ruk_221 : RuK S S_210 r1 := RuK_fr ruk_219 axg_222 hk_211.fr (by decide +kernel)
          have t_224 : At S_194 r1 6 := hk_195.fr.at t_185
          have rc_223 : RuC S_210 r1 Rl (Cl ++ [(rr_5, rr_148, rr_179)]) := RuC_fr hO_196.1 t_224 hk_211.fr (by decide +kernel) ra_197.1
          have cd_225 : cdV (tB S x) (pI S 1000 x).toInt.toNat t0 = (rr_5, rr_148, rr_179) := cdV_eq wh_9 (by rw [← show (v_142.toInt : Int).toNat = (nxT (tB S x) (pI S 1000 x).toInt.toNat t0).2.1 by omega]; exact by_150) nu_183
          exact ret_z X hw hr hlocks (Nat.le_of_ble_eq_true rfl) (Nat.le_of_ble_eq_true rfl) (by decide) ⟨hO_212, Or.inl ⟨⟨⟨by omega, Or.inr (Or.inl f_138), by omega⟩, gb_213, (by rw [cd_225]; exact rc_223), ruk_221⟩, rfl⟩⟩ dX10_readCondition_95
        · have z_b_226 := trivial
          have k_227 : v_168.toInt ≠ 2 := z_ne rfl ti_2 c_175
          refine lv_aload_n X.1 X.2.1 dX10_readCondition_74 rfl (lv_at hl 2 rfl) ?_
          refine lv_iconst (v := 1) X.1 X.2.1 dX10_readCondition_75 (by decide) ?_
          refine k_i (rm := { frames := 1, cells := 0, slots := 0, locals := 48 }) (av := [.ref x, .int 1]) X hw (va_runV (As := [.int 1]) (rest := []) (cfix X) (k_X10_fail2 l G cy κ S_162 _ x (1) (1) hO_164.1 t_174 ti_1) (cwV 1 X.2.2.2.1 gX10_readCondition_X10_fail rfl rfl rfl (by decide +kernel) ⟨Nat.le_of_ble_eq_true rfl, Nat.le_of_ble_eq_true rfl⟩) (pre_V X hw _ t_174 rfl (by decide) rfl) rfl rfl hl.1 rfl (lv_room (Nat.le_of_ble_eq_true rfl)) dX10_readCondition_76 ⟨Nat.le_of_ble_eq_true rfl, Nat.le_of_ble_eq_true rfl⟩) 0 0 (Nat.le_of_ble_eq_true rfl) (Nat.le_of_ble_eq_true rfl) (fun rr_228 S_229 H locs hp hw hfr hnw => ?_)
          obtain ⟨hk_230, hp⟩ := hp
          have hO_231 : Ok MLc S S_229 := hO_164.call hk_230 (by decide +kernel)
          rcases hp with ⟨f_232, er_233⟩ | ⟨f_232, er_233⟩ <;> subst er_233
          · have z_b_234 := trivial
            exact f_232.elim
          · have z_b_235 := trivial
            have ruk_236 : RuK S S_22 r1 := RuK_fr (RuK_rf S r1) (fun _ _ h => h) hk_23.fr (by decide +kernel)
            have axg_238 : ∀ a k, At S a k → At S_22 a k := fun a k h => hk_23.fr.at ((fun _ _ h => h) a k h)
            have ruk_237 : RuK S S_162 r1 := RuK_fr ruk_236 axg_238 hk_163.fr (by decide +kernel)
            have axg_240 : ∀ a k, At S a k → At S_162 a k := fun a k h => hk_163.fr.at (axg_238 a k h)
            have ruk_239 : RuK S S_229 r1 := RuK_fr ruk_237 axg_240 hk_230.fr (by decide +kernel)
            exact ret_z X hw hr hlocks (Nat.le_of_ble_eq_true rfl) (Nat.le_of_ble_eq_true rfl) (by decide) ⟨hO_231, Or.inr ⟨⟨fun h => by have h3 := h.2.2; omega, f_232, ruk_239⟩, rfl⟩⟩ dX10_readCondition_79
      · have z_b_241 := trivial
        rw [tB_fr hG ha_x hO_24.fr (by decide +kernel)] at f_138
        refine lv_if_ne (tgt := 53) X.1 X.2.1 dX10_readCondition_35 (by decide) (fun c_242 => absurd c_242 (by decide)) (fun c_242 => ?_)
        refine lv_aload_n X.1 X.2.1 dX10_readCondition_38 rfl (lv_at hl 1 rfl) ?_
        refine lv_bipush (v := 62) X.1 X.2.1 dX10_readCondition_39 (by decide) ?_
        refine k_i (rm := { frames := 2, cells := 0, slots := 0, locals := 96 }) (av := [.ref x, .int 62]) X hw (va_runV (As := [.int 62]) (rest := []) (cfix X) (k_X10_isSign2 l G cy κ S_22 _ x (62) (62) (nxT (tB S x) (pI S 1000 x).toInt.toNat t0) hO_24.1 t_28 ti_62 gb_25.1) (cwV 1 X.2.2.2.1 gX10_readCondition_X10_isSign rfl rfl rfl (by decide +kernel) ⟨Nat.le_of_ble_eq_true rfl, Nat.le_of_ble_eq_true rfl⟩) (pre_V X hw _ t_28 rfl (by decide) rfl) rfl rfl hl.1 rfl (lv_room (Nat.le_of_ble_eq_true rfl)) dX10_readCondition_41 ⟨Nat.le_of_ble_eq_true rfl, Nat.le_of_ble_eq_true rfl⟩) 0 0 (Nat.le_of_ble_eq_true rfl) (Nat.le_of_ble_eq_true rfl) (fun rr_243 S_244 H locs hp hw hfr hnw => ?_)
        obtain ⟨e2, hp⟩ := hp
        subst e2
        rcases hp with ⟨f_245, er_246⟩ | ⟨f_245, er_246⟩ <;> subst er_246
        · have z_b_247 := trivial
          rw [tB_fr hG ha_x hO_24.fr (by decide +kernel)] at f_245
          refine lv_if_ne (tgt := 53) X.1 X.2.1 dX10_readCondition_44 (by decide) (fun c_248 => ?_) (fun c_248 => absurd c_248 (by decide))
          refine lv_aload_n X.1 X.2.1 dX10_readCondition_53 rfl (lv_at hl 1 rfl) ?_
          refine lv_aload_n X.1 X.2.1 dX10_readCondition_54 rfl (lv_at hl 1 rfl) ?_
          obtain ⟨v_249, ev_249⟩ : ∃ v, pI S_22 1005 x = v := ⟨_, rfl⟩
          have rg_251 := And.intro (z_lo v_249) (z_hi v_249)
          have pz_252 : (pI S_22 1005 x).toInt = v_249.toInt := by rw [ev_249]
          refine r_getI (g := 1005) (x := v_249) X hw t_28 rfl 5 ev_249 (by decide) rfl inn_X10_readCondition_10 (by decide) (X.2.2.2.1 (.fieldLink RX10 79 "SilkMill$Tape" "start" "I") (by decide +kernel)) rfl (gv_1005 _ _) dX10_readCondition_55 ?_
          have ts_253 := gb_25.1.2.1
          have pz_254 : (pI S_22 1005 x).toInt = v_249.toInt := (congrArg Int32.toInt ev_249).trans rfl
          refine k_i (rm := { frames := 1, cells := 0, slots := 0, locals := 48 }) (av := [.ref x, .int (v_249)]) X hw (va_runV (As := [.int (v_249)]) (rest := []) (cfix X) (k_X10_byteAt2 l G cy κ S_22 _ x (v_249) (v_249.toInt) hO_24.1 t_28 rfl) (cwV 1 X.2.2.2.1 gX10_readCondition_X10_byteAt rfl rfl rfl (by decide +kernel) ⟨Nat.le_of_ble_eq_true rfl, Nat.le_of_ble_eq_true rfl⟩) (pre_V X hw _ t_28 rfl (by decide) rfl) rfl rfl hl.1 rfl (lv_room (Nat.le_of_ble_eq_true rfl)) dX10_readCondition_58 ⟨Nat.le_of_ble_eq_true rfl, Nat.le_of_ble_eq_true rfl⟩) 0 0 (Nat.le_of_ble_eq_true rfl) (Nat.le_of_ble_eq_true rfl) (fun rr_255 S_256 H locs hp hw hfr hnw => ?_)
          obtain ⟨e2, hp⟩ := hp
          subst e2
          have rg_258 := And.intro (z_lo rr_255) (z_hi rr_255)
          have by_257 := hp (by omega)
          rw [tB_fr hG ha_x hO_24.fr (by decide +kernel)] at by_257
          refine lv_istore_n (lv' := [(3, .int (rr_255)), (2, .int (rr_5)), (0, .ref x), (1, .ref r1)]) X.1 X.2.1 dX10_readCondition_61 rfl hl (by decide) rfl (fun ls hl => ?_)
          refine lv_aload_n X.1 X.2.1 dX10_readCondition_62 rfl (lv_at hl 2 rfl) ?_
          have ok_259 := hdI (GB_ok hG ha_x gb_25)
          have ok_260 : ((nxT (tB S x) (pI S 1000 x).toInt.toNat t0)).2.1 ≤ ((nxT (tB S x) (pI S 1000 x).toInt.toNat t0)).2.2 ∧ ((nxT (tB S x) (pI S 1000 x).toInt.toNat t0)).2.2 ≤ 400 := ⟨(hdE ok_259).1, (hdE ok_259).2.1⟩
          obtain ⟨v_262, ev_262⟩ : ∃ v, pI S_22 1006 x = v := ⟨_, rfl⟩
          have rg_264 := And.intro (z_lo v_262) (z_hi v_262)
          have pz_265 : (pI S_22 1006 x).toInt = v_262.toInt := by rw [ev_262]
          have pz_266 : (pI S_22 1006 x).toInt = v_262.toInt := (congrArg Int32.toInt ev_262).trans rfl
          have te_267 := gb_25.1.2.2
          refine k_v (rm := { frames := 2, cells := 0, slots := 0, locals := 96 }) (av := [.ref x]) X hw (va_runV (As := []) (rest := []) (cfix X) (k_X10_advance2 l G cy κ S_22 _ x hO_24.1 t_28 (by omega) (by omega)) (cwV 0 X.2.2.2.1 gX10_readCondition_X10_advance rfl rfl rfl (by decide +kernel) ⟨Nat.le_of_ble_eq_true rfl, Nat.le_of_ble_eq_true rfl⟩) (pre_V X hw _ t_28 rfl (by decide) rfl) rfl rfl hl.1 rfl (lv_room (Nat.le_of_ble_eq_true rfl)) dX10_readCondition_63 ⟨Nat.le_of_ble_eq_true rfl, Nat.le_of_ble_eq_true rfl⟩) 0 0 (Nat.le_of_ble_eq_true rfl) (Nat.le_of_ble_eq_true rfl) (fun S_269 H locs hp hw hfr hnw => ?_)
          obtain ⟨hk_270, hp⟩ := hp
          have hO_271 : Ok MLc S S_269 := hO_24.call hk_270 (by decide +kernel)
          have gb_272 : GB (tB S x) (pI S 1000 x).toInt.toNat S_269 x (nxT (tB S x) (pI S 1000 x).toInt.toNat (nxT (tB S x) (pI S 1000 x).toInt.toNat t0)) := GB_adv gb_25 (tB_fr hG ha_x hO_24.fr (by decide +kernel)) (by rw [hO_24.fr.I' (g := 1000) (by decide +kernel) ha_x rfl]) (by omega) hp.1
          have ok_273 := hdI (GB_ok hG ha_x gb_272)
          have ok_274 : ((nxT (tB S x) (pI S 1000 x).toInt.toNat (nxT (tB S x) (pI S 1000 x).toInt.toNat t0))).2.1 ≤ ((nxT (tB S x) (pI S 1000 x).toInt.toNat (nxT (tB S x) (pI S 1000 x).toInt.toNat t0))).2.2 ∧ ((nxT (tB S x) (pI S 1000 x).toInt.toNat (nxT (tB S x) (pI S 1000 x).toInt.toNat t0))).2.2 ≤ 400 := ⟨(hdE ok_273).1, (hdE ok_273).2.1⟩
          refine lv_aload_n X.1 X.2.1 dX10_readCondition_66 rfl (lv_at hl 2 rfl) ?_
          obtain ⟨v_275, ev_275⟩ : ∃ v, pI S_269 1004 x = v := ⟨_, rfl⟩
          have rg_277 := And.intro (z_lo v_275) (z_hi v_275)
          have pz_278 : (pI S_269 1004 x).toInt = v_275.toInt := by rw [ev_275]
          have pz_279 : (pI S_269 1004 x).toInt = v_275.toInt := (congrArg Int32.toInt ev_275).trans rfl
          have tk_280 := gb_272.1.1
          have t_281 : At S_269 x 10 := hk_270.fr.at t_28
          refine r_getI (g := 1004) (x := v_275) X hw t_281 rfl 4 ev_275 (by decide) rfl inn_X10_readCondition_10 (by decide) (X.2.2.2.1 (.fieldLink RX10 37 "SilkMill$Tape" "token" "I") (by decide +kernel)) rfl (gv_1004 _ _) dX10_readCondition_67 ?_
          refine lv_iconst (v := 2) X.1 X.2.1 dX10_readCondition_70 (by decide) ?_
          refine lv_icmp_eq (tgt := 80) X.1 X.2.1 dX10_readCondition_71 (by decide) (fun c_282 => ?_) (fun c_282 => ?_)
          · have z_b_283 := trivial
            have k_284 : v_275.toInt = 2 := z_eq rfl ti_2 c_282
            refine lv_aload_n X.1 X.2.1 dX10_readCondition_80 rfl (lv_at hl 3 rfl) ?_
            refine lv_iload_n X.1 X.2.1 dX10_readCondition_81 rfl (lv_at hl 1 rfl) ?_
            refine lv_iload_n X.1 X.2.1 dX10_readCondition_82 rfl (lv_at hl 0 rfl) ?_
            refine lv_aload_n X.1 X.2.1 dX10_readCondition_83 rfl (lv_at hl 2 rfl) ?_
            have k2_285 := (hdE ok_273).2.2.1 (by omega)
            refine k_i (rm := { frames := 2, cells := 0, slots := 0, locals := 96 }) (av := [.ref x]) X hw (va_runV (As := []) (rest := [.int (rr_255), .int (rr_5), .ref r1]) (cfix X) (k_X10_numberAtHand2 l G cy κ S_269 _ x (nxT (tB S x) (pI S 1000 x).toInt.toNat (nxT (tB S x) (pI S 1000 x).toInt.toNat t0)) hO_271.1 t_281 gb_272.1 (hdE ok_273).1 (hdE ok_273).2.1 k2_285.1 (by rw [tB_fr hG ha_x hO_271.fr (by decide +kernel)]; exact k2_285.2)) (cwV 0 X.2.2.2.1 gX10_readCondition_X10_numberAtHand rfl rfl rfl (by decide +kernel) ⟨Nat.le_of_ble_eq_true rfl, Nat.le_of_ble_eq_true rfl⟩) (pre_V X hw _ t_281 rfl (by decide) rfl) rfl rfl hl.1 rfl (lv_room (Nat.le_of_ble_eq_true rfl)) dX10_readCondition_84 ⟨Nat.le_of_ble_eq_true rfl, Nat.le_of_ble_eq_true rfl⟩) 0 0 (Nat.le_of_ble_eq_true rfl) (Nat.le_of_ble_eq_true rfl) (fun rr_286 S_287 H locs hp hw hfr hnw => ?_)
            obtain ⟨e2, hp⟩ := hp
            subst e2
            obtain ⟨nu_288, nu_289, nu_290⟩ := hp
            rw [tB_fr hG ha_x hO_271.fr (by decide +kernel)] at nu_290
            have t_291 : At S_22 r1 6 := hk_23.fr.at ha_r1
            have t_292 : At S_269 r1 6 := hk_270.fr.at t_291
            have rc_293 : RuC S_22 r1 Rl Cl := RuC_fr hO.1 ha_r1 hk_23.fr (by decide +kernel) hp_1
            have t_295 : At S_22 r1 6 := hk_23.fr.at ha_r1
            have rc_294 : RuC S_269 r1 Rl Cl := RuC_fr hO_24.1 t_295 hk_270.fr (by decide +kernel) rc_293
            have rpr_296 : ∀ g, g ∈ ruG → pR S_22 g r1 = pR S g r1 := fun g hg => (ru_pR hk_23.fr ha_r1 (by decide +kernel) g hg).trans ((fun _ _ => rfl) g hg)
            have rpr_297 : ∀ g, g ∈ ruG → pR S_269 g r1 = pR S g r1 := fun g hg => (ru_pR hk_270.fr t_295 (by decide +kernel) g hg).trans (rpr_296 g hg)
            have rl_298 := rc_294.1.1
            have rl_299 : zA S_269 r1 603 (pI S_269 600 r1).toInt.toNat < 4 := by rw [show (pI S_269 600 r1).toInt.toNat = (Rl).length by omega, zA_eq, rc_294.2.1]; omega
            refine k_v (rm := { frames := 1, cells := 0, slots := 0, locals := 48 }) (av := [.ref r1, .int (rr_5), .int (rr_255), .int (rr_286)]) X hw (va_runV (As := [.int (rr_5), .int (rr_255), .int (rr_286)]) (rest := []) (cfix X) (k_X6_addCondition2 l G cy κ S_269 _ r1 (rr_5) (rr_5.toInt) (rr_255) (rr_255.toInt) (rr_286) (rr_286.toInt) hO_271.1 t_292 rfl rfl rfl (by omega) rl_299) (cwV 3 X.2.2.2.1 gX10_readCondition_X6_addCondition rfl rfl rfl (by decide +kernel) ⟨Nat.le_of_ble_eq_true rfl, Nat.le_of_ble_eq_true rfl⟩) (pre_V X hw _ t_292 rfl (by decide) rfl) rfl rfl hl.1 rfl (lv_room (Nat.le_of_ble_eq_true rfl)) dX10_readCondition_87 ⟨Nat.le_of_ble_eq_true rfl, Nat.le_of_ble_eq_true rfl⟩) 0 0 (Nat.le_of_ble_eq_true rfl) (Nat.le_of_ble_eq_true rfl) (fun S_301 H locs hp hw hfr hnw => ?_)
            obtain ⟨hk_302, hp⟩ := hp
            have hO_303 : Ok MLc S S_301 := hO_271.call hk_302 (by decide +kernel)
            have ra_304 := RuC_add hO_271.1 t_292 (RuD_to rpr_297 hp_2) rc_294 hp
            refine lv_aload_n X.1 X.2.1 dX10_readCondition_90 rfl (lv_at hl 2 rfl) ?_
            have t_305 : At S_301 x 10 := hk_302.fr.at t_281
            have gb_306 := GB_fr gb_272 t_281 hk_302.fr (by decide +kernel)
            have ok_307 := hdI (GB_ok hG ha_x gb_306)
            have ok_308 : ((nxT (tB S x) (pI S 1000 x).toInt.toNat (nxT (tB S x) (pI S 1000 x).toInt.toNat t0))).2.1 ≤ ((nxT (tB S x) (pI S 1000 x).toInt.toNat (nxT (tB S x) (pI S 1000 x).toInt.toNat t0))).2.2 ∧ ((nxT (tB S x) (pI S 1000 x).toInt.toNat (nxT (tB S x) (pI S 1000 x).toInt.toNat t0))).2.2 ≤ 400 := ⟨(hdE ok_307).1, (hdE ok_307).2.1⟩
            obtain ⟨v_310, ev_310⟩ : ∃ v, pI S_301 1006 x = v := ⟨_, rfl⟩
            have rg_312 := And.intro (z_lo v_310) (z_hi v_310)
            have pz_313 : (pI S_301 1006 x).toInt = v_310.toInt := by rw [ev_310]
            have pz_314 : (pI S_301 1006 x).toInt = v_310.toInt := (congrArg Int32.toInt ev_310).trans rfl
            have te_315 := gb_306.1.2.2
            refine k_v (rm := { frames := 2, cells := 0, slots := 0, locals := 96 }) (av := [.ref x]) X hw (va_runV (As := []) (rest := []) (cfix X) (k_X10_advance2 l G cy κ S_301 _ x hO_303.1 t_305 (by omega) (by omega)) (cwV 0 X.2.2.2.1 gX10_readCondition_X10_advance rfl rfl rfl (by decide +kernel) ⟨Nat.le_of_ble_eq_true rfl, Nat.le_of_ble_eq_true rfl⟩) (pre_V X hw _ t_305 rfl (by decide) rfl) rfl rfl hl.1 rfl (lv_room (Nat.le_of_ble_eq_true rfl)) dX10_readCondition_91 ⟨Nat.le_of_ble_eq_true rfl, Nat.le_of_ble_eq_true rfl⟩) 0 0 (Nat.le_of_ble_eq_true rfl) (Nat.le_of_ble_eq_true rfl) (fun S_317 H locs hp hw hfr hnw => ?_)
            obtain ⟨hk_318, hp⟩ := hp
            have hO_319 : Ok MLc S S_317 := hO_303.call hk_318 (by decide +kernel)
            have gb_320 : GB (tB S x) (pI S 1000 x).toInt.toNat S_317 x (nxT (tB S x) (pI S 1000 x).toInt.toNat (nxT (tB S x) (pI S 1000 x).toInt.toNat (nxT (tB S x) (pI S 1000 x).toInt.toNat t0))) := GB_adv gb_306 (tB_fr hG ha_x hO_303.fr (by decide +kernel)) (by rw [hO_303.fr.I' (g := 1000) (by decide +kernel) ha_x rfl]) (by omega) hp.1
            have ok_321 := hdI (GB_ok hG ha_x gb_320)
            have ok_322 : ((nxT (tB S x) (pI S 1000 x).toInt.toNat (nxT (tB S x) (pI S 1000 x).toInt.toNat (nxT (tB S x) (pI S 1000 x).toInt.toNat t0)))).2.1 ≤ ((nxT (tB S x) (pI S 1000 x).toInt.toNat (nxT (tB S x) (pI S 1000 x).toInt.toNat (nxT (tB S x) (pI S 1000 x).toInt.toNat t0)))).2.2 ∧ ((nxT (tB S x) (pI S 1000 x).toInt.toNat (nxT (tB S x) (pI S 1000 x).toInt.toNat (nxT (tB S x) (pI S 1000 x).toInt.toNat t0)))).2.2 ≤ 400 := ⟨(hdE ok_321).1, (hdE ok_321).2.1⟩
            refine lv_iconst (v := 1) X.1 X.2.1 dX10_readCondition_94 (by decide) ?_
            have ruk_323 : RuK S S_22 r1 := RuK_fr (RuK_rf S r1) (fun _ _ h => h) hk_23.fr (by decide +kernel)
            have axg_325 : ∀ a k, At S a k → At S_22 a k := fun a k h => hk_23.fr.at ((fun _ _ h => h) a k h)
            have ruk_324 : RuK S S_269 r1 := RuK_fr ruk_323 axg_325 hk_270.fr (by decide +kernel)
            have axg_327 : ∀ a k, At S a k → At S_269 a k := fun a k h => hk_270.fr.at (axg_325 a k h)
            have ruk_326 : RuK S S_301 r1 := RuK_tr ruk_324 axg_327 rpr_297 ra_304.2
            have axg_329 : ∀ a k, At S a k → At S_301 a k := fun a k h => hk_302.fr.at (axg_327 a k h)
            have ruk_328 : RuK S S_317 r1 := RuK_fr ruk_326 axg_329 hk_318.fr (by decide +kernel)
            have t_331 : At S_301 r1 6 := hk_302.fr.at t_292
            have rc_330 : RuC S_317 r1 Rl (Cl ++ [(rr_5, rr_255, rr_286)]) := RuC_fr hO_303.1 t_331 hk_318.fr (by decide +kernel) ra_304.1
            have cd_332 : cdV (tB S x) (pI S 1000 x).toInt.toNat t0 = (rr_5, rr_255, rr_286) := cdV_eq wh_9 (by rw [← show (v_249.toInt : Int).toNat = (nxT (tB S x) (pI S 1000 x).toInt.toNat t0).2.1 by omega]; exact by_257) nu_290
            exact ret_z X hw hr hlocks (Nat.le_of_ble_eq_true rfl) (Nat.le_of_ble_eq_true rfl) (by decide) ⟨hO_319, Or.inl ⟨⟨⟨by omega, Or.inr (Or.inr f_245), by omega⟩, gb_320, (by rw [cd_332]; exact rc_330), ruk_328⟩, rfl⟩⟩ dX10_readCondition_95
          · have z_b_333 := trivial
            have k_334 : v_275.toInt ≠ 2 := z_ne rfl ti_2 c_282
            refine lv_aload_n X.1 X.2.1 dX10_readCondition_74 rfl (lv_at hl 2 rfl) ?_
            refine lv_iconst (v := 1) X.1 X.2.1 dX10_readCondition_75 (by decide) ?_
            refine k_i (rm := { frames := 1, cells := 0, slots := 0, locals := 48 }) (av := [.ref x, .int 1]) X hw (va_runV (As := [.int 1]) (rest := []) (cfix X) (k_X10_fail2 l G cy κ S_269 _ x (1) (1) hO_271.1 t_281 ti_1) (cwV 1 X.2.2.2.1 gX10_readCondition_X10_fail rfl rfl rfl (by decide +kernel) ⟨Nat.le_of_ble_eq_true rfl, Nat.le_of_ble_eq_true rfl⟩) (pre_V X hw _ t_281 rfl (by decide) rfl) rfl rfl hl.1 rfl (lv_room (Nat.le_of_ble_eq_true rfl)) dX10_readCondition_76 ⟨Nat.le_of_ble_eq_true rfl, Nat.le_of_ble_eq_true rfl⟩) 0 0 (Nat.le_of_ble_eq_true rfl) (Nat.le_of_ble_eq_true rfl) (fun rr_335 S_336 H locs hp hw hfr hnw => ?_)
            obtain ⟨hk_337, hp⟩ := hp
            have hO_338 : Ok MLc S S_336 := hO_271.call hk_337 (by decide +kernel)
            rcases hp with ⟨f_339, er_340⟩ | ⟨f_339, er_340⟩ <;> subst er_340
            · have z_b_341 := trivial
              exact f_339.elim
            · have z_b_342 := trivial
              have ruk_343 : RuK S S_22 r1 := RuK_fr (RuK_rf S r1) (fun _ _ h => h) hk_23.fr (by decide +kernel)
              have axg_345 : ∀ a k, At S a k → At S_22 a k := fun a k h => hk_23.fr.at ((fun _ _ h => h) a k h)
              have ruk_344 : RuK S S_269 r1 := RuK_fr ruk_343 axg_345 hk_270.fr (by decide +kernel)
              have axg_347 : ∀ a k, At S a k → At S_269 a k := fun a k h => hk_270.fr.at (axg_345 a k h)
              have ruk_346 : RuK S S_336 r1 := RuK_fr ruk_344 axg_347 hk_337.fr (by decide +kernel)
              exact ret_z X hw hr hlocks (Nat.le_of_ble_eq_true rfl) (Nat.le_of_ble_eq_true rfl) (by decide) ⟨hO_338, Or.inr ⟨⟨fun h => by have h3 := h.2.2; omega, f_339, ruk_346⟩, rfl⟩⟩ dX10_readCondition_79
        · have z_b_348 := trivial
          rw [tB_fr hG ha_x hO_24.fr (by decide +kernel)] at f_245
          refine lv_if_ne (tgt := 53) X.1 X.2.1 dX10_readCondition_44 (by decide) (fun c_349 => absurd c_349 (by decide)) (fun c_349 => ?_)
          refine lv_aload_n X.1 X.2.1 dX10_readCondition_47 rfl (lv_at hl 1 rfl) ?_
          refine lv_iconst (v := 1) X.1 X.2.1 dX10_readCondition_48 (by decide) ?_
          refine k_i (rm := { frames := 1, cells := 0, slots := 0, locals := 48 }) (av := [.ref x, .int 1]) X hw (va_runV (As := [.int 1]) (rest := []) (cfix X) (k_X10_fail2 l G cy κ S_22 _ x (1) (1) hO_24.1 t_28 ti_1) (cwV 1 X.2.2.2.1 gX10_readCondition_X10_fail rfl rfl rfl (by decide +kernel) ⟨Nat.le_of_ble_eq_true rfl, Nat.le_of_ble_eq_true rfl⟩) (pre_V X hw _ t_28 rfl (by decide) rfl) rfl rfl hl.1 rfl (lv_room (Nat.le_of_ble_eq_true rfl)) dX10_readCondition_49 ⟨Nat.le_of_ble_eq_true rfl, Nat.le_of_ble_eq_true rfl⟩) 0 0 (Nat.le_of_ble_eq_true rfl) (Nat.le_of_ble_eq_true rfl) (fun rr_350 S_351 H locs hp hw hfr hnw => ?_)
          obtain ⟨hk_352, hp⟩ := hp
          have hO_353 : Ok MLc S S_351 := hO_24.call hk_352 (by decide +kernel)
          rcases hp with ⟨f_354, er_355⟩ | ⟨f_354, er_355⟩ <;> subst er_355
          · have z_b_356 := trivial
            exact f_354.elim
          · have z_b_357 := trivial
            have ruk_358 : RuK S S_22 r1 := RuK_fr (RuK_rf S r1) (fun _ _ h => h) hk_23.fr (by decide +kernel)
            have axg_360 : ∀ a k, At S a k → At S_22 a k := fun a k h => hk_23.fr.at ((fun _ _ h => h) a k h)
            have ruk_359 : RuK S S_351 r1 := RuK_fr ruk_358 axg_360 hk_352.fr (by decide +kernel)
            exact ret_z X hw hr hlocks (Nat.le_of_ble_eq_true rfl) (Nat.le_of_ble_eq_true rfl) (by decide) ⟨hO_353, Or.inr ⟨⟨fun h => by rcases h.2.1 with h | h | h; exact f_31 h; exact f_138 h; exact f_245 h, f_354, ruk_359⟩, rfl⟩⟩ dX10_readCondition_52
  · have z_b_361 := trivial
    have k_362 : rr_5.toInt = (-1) := z_eq rfl ti_m1 c_10
    refine lv_aload_n X.1 X.2.1 dX10_readCondition_10 rfl (lv_at hl 1 rfl) ?_
    refine lv_iconst (v := 1) X.1 X.2.1 dX10_readCondition_11 (by decide) ?_
    refine k_i (rm := { frames := 1, cells := 0, slots := 0, locals := 48 }) (av := [.ref x, .int 1]) X hw (va_runV (As := [.int 1]) (rest := []) (cfix X) (k_X10_fail2 l G cy κ S _ x (1) (1) hO.1 ha_x ti_1) (cwV 1 X.2.2.2.1 gX10_readCondition_X10_fail rfl rfl rfl (by decide +kernel) ⟨Nat.le_of_ble_eq_true rfl, Nat.le_of_ble_eq_true rfl⟩) (pre_V X hw _ ha_x rfl (by decide) rfl) rfl rfl hl.1 rfl (lv_room (Nat.le_of_ble_eq_true rfl)) dX10_readCondition_12 ⟨Nat.le_of_ble_eq_true rfl, Nat.le_of_ble_eq_true rfl⟩) 0 0 (Nat.le_of_ble_eq_true rfl) (Nat.le_of_ble_eq_true rfl) (fun rr_363 S_364 H locs hp hw hfr hnw => ?_)
    obtain ⟨hk_365, hp⟩ := hp
    have hO_366 : Ok MLc S S_364 := hO.call hk_365 (by decide +kernel)
    rcases hp with ⟨f_367, er_368⟩ | ⟨f_367, er_368⟩ <;> subst er_368
    · have z_b_369 := trivial
      exact f_367.elim
    · have z_b_370 := trivial
      have ruk_371 : RuK S S_364 r1 := RuK_fr (RuK_rf S r1) (fun _ _ h => h) hk_365.fr (by decide +kernel)
      exact ret_z X hw hr hlocks (Nat.le_of_ble_eq_true rfl) (Nat.le_of_ble_eq_true rfl) (by decide) ⟨hO_366, Or.inr ⟨⟨fun h => h.1 (by omega), f_367, ruk_371⟩, rfl⟩⟩ dX10_readCondition_15
