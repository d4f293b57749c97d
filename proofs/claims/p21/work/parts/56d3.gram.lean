
set_option maxHeartbeats 4000000 in
set_option maxRecDepth 100000 in
theorem k_X10_readAct2 (l : Launch) (G : va_G) (cy : Nat → ClassId) (κ : Nat → Nat) (S : PS) (sz : Nat) (x : Nat) (r1 : Nat) (t0 : Tk) (Rl : List Ru) (Cl : List Cn) (hG : GX S) (ha_x : At S x 10) (ha_r1 : At S r1 6) (hp_0 : GB (tB S x) (pI S 1000 x).toInt.toNat S x t0) (hp_1 : RuC S r1 Rl Cl) (hp_2 : RuD S r1) (hp_3 : Rl.length < 12) (hp_4 : (pI S 600 r1).toInt < 12) : Ci l yX10_readAct wsX10_readAct ({ frames := 7, cells := 0, slots := 0, locals := 336 }) G cy κ S sz [.ref x, .ref r1] (fun (r : Int32) (S9 : PS) => Ok MLr S S9 ∧ ((((acF (tB S x) (pI S 1000 x).toInt.toNat t0).1 = 0 ∧ GB (tB S x) (pI S 1000 x).toInt.toNat S9 x (acF (tB S x) (pI S 1000 x).toInt.toNat t0).2 ∧ (pI S9 600 r1).toInt = (pI S 600 r1).toInt + 1 ∧ RuIs S9 r1 (Rl ++ [((acV (tB S x) (pI S 1000 x).toInt.toNat t0).1, (acV (tB S x) (pI S 1000 x).toInt.toNat t0).2, Cl)]) ∧ RuK S S9 r1) ∧ r = 1) ∨ (((acF (tB S x) (pI S 1000 x).toInt.toNat t0).1 ≠ 0 ∧ (pI S9 1001 x).toInt = (acF (tB S x) (pI S 1000 x).toInt.toNat t0).1 ∧ RuK S S9 r1) ∧ r = 0))) := by
  refine ent_m (cc := cX10_readAct) (maxL := 4) (ret := (some .boolean)) (by decide) rfl (Nat.le_of_ble_eq_true rfl) ?_
  intro p e s m below meth c ls X hr hlocks hin hw hl hsz
  subst hsz
  have X : Cx p c cX10_readAct 4 s [.ref x, .ref r1].toArray wsX10_readAct RX10 m G cy κ (AS S s.heap.size) := X
  have hl : lv_has ls 4 [(0, .ref x), (1, .ref r1)] := hl
  have hO : Ok MLr S S := Ok.rf hG
  have hok := hdI (GB_ok hG ha_x hp_0)
  have hok1 : t0.2.1 ≤ t0.2.2 ∧ t0.2.2 ≤ 400 := ⟨(hdE hok).1, (hdE hok).2.1⟩
  obtain ⟨v_1, ev_1⟩ : ∃ v, pI S 600 r1 = v := ⟨_, rfl⟩
  have rg_2 := gI_6_600 hO.1 ha_r1; rw [ev_1] at rg_2
  have pz_3 : (pI S 600 r1).toInt = v_1.toInt := by rw [ev_1]
  have pz_4 : (pI S 600 r1).toInt = v_1.toInt := (congrArg Int32.toInt ev_1).trans rfl
  have hrl := hp_1.1.1
  refine lv_aload_n X.1 X.2.1 dX10_readAct_0 rfl (lv_at hl 0 rfl) ?_
  refine k_i (rm := { frames := 6, cells := 0, slots := 0, locals := 288 }) (av := [.ref x]) X hw (va_runV (As := []) (rest := []) (cfix X) (k_X10_actAtHand2 l G cy κ S _ x t0 hO.1 ha_x hp_0.1 (by first | assumption | omega) (by first | assumption | omega)) (cwV 0 X.2.2.2.1 gX10_readAct_X10_actAtHand rfl rfl rfl (by decide +kernel) ⟨Nat.le_of_ble_eq_true rfl, Nat.le_of_ble_eq_true rfl⟩) (pre_V X hw _ ha_x rfl (by decide) rfl) rfl rfl hl.1 rfl (lv_room (Nat.le_of_ble_eq_true rfl)) dX10_readAct_1 ⟨Nat.le_of_ble_eq_true rfl, Nat.le_of_ble_eq_true rfl⟩) 0 0 (Nat.le_of_ble_eq_true rfl) (Nat.le_of_ble_eq_true rfl) (fun rr_5 S_6 H locs hp hw hfr hnw => ?_)
  obtain ⟨e2, hp⟩ := hp
  subst e2
  obtain ⟨wh_7, wh_8, wh_9⟩ := hp
  refine lv_istore_n (lv' := [(2, .int (rr_5)), (0, .ref x), (1, .ref r1)]) X.1 X.2.1 dX10_readAct_4 rfl hl (by decide) rfl (fun ls hl => ?_)
  refine lv_iload_n X.1 X.2.1 dX10_readAct_5 rfl (lv_at hl 0 rfl) ?_
  refine lv_iconst (v := (-1)) X.1 X.2.1 dX10_readAct_6 (by decide) ?_
  refine lv_icmp_ne (tgt := 16) X.1 X.2.1 dX10_readAct_7 (by decide) (fun c_10 => ?_) (fun c_10 => ?_)
  · have z_b_11 := trivial
    have k_12 : rr_5.toInt ≠ (-1) := z_ne rfl ti_m1 c_10
    refine lv_aload_n X.1 X.2.1 dX10_readAct_16 rfl (lv_at hl 1 rfl) ?_
    have ok_13 := hdI (GB_ok hG ha_x hp_0)
    have ok_14 : (t0).2.1 ≤ (t0).2.2 ∧ (t0).2.2 ≤ 400 := ⟨(hdE ok_13).1, (hdE ok_13).2.1⟩
    obtain ⟨v_15, ev_15⟩ : ∃ v, pI S 1006 x = v := ⟨_, rfl⟩
    have rg_17 := And.intro (z_lo v_15) (z_hi v_15)
    have pz_18 : (pI S 1006 x).toInt = v_15.toInt := by rw [ev_15]
    have pz_19 : (pI S 1006 x).toInt = v_15.toInt := (congrArg Int32.toInt ev_15).trans rfl
    have te_20 := hp_0.1.2.2
    refine k_v (rm := { frames := 2, cells := 0, slots := 0, locals := 96 }) (av := [.ref x]) X hw (va_runV (As := []) (rest := []) (cfix X) (k_X10_advance2 l G cy κ S _ x hO.1 ha_x (by omega) (by omega)) (cwV 0 X.2.2.2.1 gX10_readAct_X10_advance rfl rfl rfl (by decide +kernel) ⟨Nat.le_of_ble_eq_true rfl, Nat.le_of_ble_eq_true rfl⟩) (pre_V X hw _ ha_x rfl (by decide) rfl) rfl rfl hl.1 rfl (lv_room (Nat.le_of_ble_eq_true rfl)) dX10_readAct_17 ⟨Nat.le_of_ble_eq_true rfl, Nat.le_of_ble_eq_true rfl⟩) 0 0 (Nat.le_of_ble_eq_true rfl) (Nat.le_of_ble_eq_true rfl) (fun S_22 H locs hp hw hfr hnw => ?_)
    obtain ⟨hk_23, hp⟩ := hp
    have hO_24 : Ok MLr S S_22 := hO.call hk_23 (by decide +kernel)
    have gb_25 : GB (tB S x) (pI S 1000 x).toInt.toNat S_22 x (nxT (tB S x) (pI S 1000 x).toInt.toNat t0) := GB_adv hp_0 rfl rfl (by omega) hp.1
    have ok_26 := hdI (GB_ok hG ha_x gb_25)
    have ok_27 : ((nxT (tB S x) (pI S 1000 x).toInt.toNat t0)).2.1 ≤ ((nxT (tB S x) (pI S 1000 x).toInt.toNat t0)).2.2 ∧ ((nxT (tB S x) (pI S 1000 x).toInt.toNat t0)).2.2 ≤ 400 := ⟨(hdE ok_26).1, (hdE ok_26).2.1⟩
    refine lv_iconst (v := 0) X.1 X.2.1 dX10_readAct_20 (by decide) ?_
    refine lv_istore_n (lv' := [(3, .int 0), (2, .int (rr_5)), (0, .ref x), (1, .ref r1)]) X.1 X.2.1 dX10_readAct_21 rfl hl (by decide) rfl (fun ls hl => ?_)
    refine lv_iload_n X.1 X.2.1 dX10_readAct_22 rfl (lv_at hl 1 rfl) ?_
    refine lv_iconst (v := 5) X.1 X.2.1 dX10_readAct_23 (by decide) ?_
    refine lv_icmp_ne (tgt := 50) X.1 X.2.1 dX10_readAct_24 (by decide) (fun c_28 => ?_) (fun c_28 => ?_)
    · have z_b_29 := trivial
      have k_30 : rr_5.toInt ≠ 5 := z_ne rfl ti_5 c_28
      refine lv_aload_n X.1 X.2.1 dX10_readAct_50 rfl (lv_at hl 2 rfl) ?_
      refine lv_bipush (v := 59) X.1 X.2.1 dX10_readAct_51 (by decide) ?_
      have t_31 : At S_22 x 10 := hk_23.fr.at ha_x
      refine k_i (rm := { frames := 2, cells := 0, slots := 0, locals := 96 }) (av := [.ref x, .int 59]) X hw (va_runV (As := [.int 59]) (rest := []) (cfix X) (k_X10_isSign2 l G cy κ S_22 _ x (59) (59) (nxT (tB S x) (pI S 1000 x).toInt.toNat t0) hO_24.1 t_31 ti_59 gb_25.1) (cwV 1 X.2.2.2.1 gX10_readAct_X10_isSign rfl rfl rfl (by decide +kernel) ⟨Nat.le_of_ble_eq_true rfl, Nat.le_of_ble_eq_true rfl⟩) (pre_V X hw _ t_31 rfl (by decide) rfl) rfl rfl hl.1 rfl (lv_room (Nat.le_of_ble_eq_true rfl)) dX10_readAct_53 ⟨Nat.le_of_ble_eq_true rfl, Nat.le_of_ble_eq_true rfl⟩) 0 0 (Nat.le_of_ble_eq_true rfl) (Nat.le_of_ble_eq_true rfl) (fun rr_32 S_33 H locs hp hw hfr hnw => ?_)
      obtain ⟨e2, hp⟩ := hp
      subst e2
      rcases hp with ⟨f_34, er_35⟩ | ⟨f_34, er_35⟩ <;> subst er_35
      · have z_b_36 := trivial
        rw [tB_fr hG ha_x hO_24.fr (by decide +kernel)] at f_34
        refine lv_if_ne (tgt := 65) X.1 X.2.1 dX10_readAct_56 (by decide) (fun c_37 => ?_) (fun c_37 => absurd c_37 (by decide))
        refine lv_aload_n X.1 X.2.1 dX10_readAct_65 rfl (lv_at hl 2 rfl) ?_
        have ok_38 := hdI (GB_ok hG ha_x gb_25)
        have ok_39 : ((nxT (tB S x) (pI S 1000 x).toInt.toNat t0)).2.1 ≤ ((nxT (tB S x) (pI S 1000 x).toInt.toNat t0)).2.2 ∧ ((nxT (tB S x) (pI S 1000 x).toInt.toNat t0)).2.2 ≤ 400 := ⟨(hdE ok_38).1, (hdE ok_38).2.1⟩
        obtain ⟨v_41, ev_41⟩ : ∃ v, pI S_22 1006 x = v := ⟨_, rfl⟩
        have rg_43 := And.intro (z_lo v_41) (z_hi v_41)
        have pz_44 : (pI S_22 1006 x).toInt = v_41.toInt := by rw [ev_41]
        have pz_45 : (pI S_22 1006 x).toInt = v_41.toInt := (congrArg Int32.toInt ev_41).trans rfl
        have te_46 := gb_25.1.2.2
        refine k_v (rm := { frames := 2, cells := 0, slots := 0, locals := 96 }) (av := [.ref x]) X hw (va_runV (As := []) (rest := []) (cfix X) (k_X10_advance2 l G cy κ S_22 _ x hO_24.1 t_31 (by omega) (by omega)) (cwV 0 X.2.2.2.1 gX10_readAct_X10_advance rfl rfl rfl (by decide +kernel) ⟨Nat.le_of_ble_eq_true rfl, Nat.le_of_ble_eq_true rfl⟩) (pre_V X hw _ t_31 rfl (by decide) rfl) rfl rfl hl.1 rfl (lv_room (Nat.le_of_ble_eq_true rfl)) dX10_readAct_66 ⟨Nat.le_of_ble_eq_true rfl, Nat.le_of_ble_eq_true rfl⟩) 0 0 (Nat.le_of_ble_eq_true rfl) (Nat.le_of_ble_eq_true rfl) (fun S_48 H locs hp hw hfr hnw => ?_)
        obtain ⟨hk_49, hp⟩ := hp
        have hO_50 : Ok MLr S S_48 := hO_24.call hk_49 (by decide +kernel)
        have gb_51 : GB (tB S x) (pI S 1000 x).toInt.toNat S_48 x (nxT (tB S x) (pI S 1000 x).toInt.toNat (nxT (tB S x) (pI S 1000 x).toInt.toNat t0)) := GB_adv gb_25 (tB_fr hG ha_x hO_24.fr (by decide +kernel)) (by rw [hO_24.fr.I' (g := 1000) (by decide +kernel) ha_x rfl]) (by omega) hp.1
        have ok_52 := hdI (GB_ok hG ha_x gb_51)
        have ok_53 : ((nxT (tB S x) (pI S 1000 x).toInt.toNat (nxT (tB S x) (pI S 1000 x).toInt.toNat t0))).2.1 ≤ ((nxT (tB S x) (pI S 1000 x).toInt.toNat (nxT (tB S x) (pI S 1000 x).toInt.toNat t0))).2.2 ∧ ((nxT (tB S x) (pI S 1000 x).toInt.toNat (nxT (tB S x) (pI S 1000 x).toInt.toNat t0))).2.2 ≤ 400 := ⟨(hdE ok_52).1, (hdE ok_52).2.1⟩
        refine lv_aload_n X.1 X.2.1 dX10_readAct_69 rfl (lv_at hl 3 rfl) ?_
        refine lv_iload_n X.1 X.2.1 dX10_readAct_70 rfl (lv_at hl 1 rfl) ?_
        refine lv_iload_n X.1 X.2.1 dX10_readAct_71 rfl (lv_at hl 0 rfl) ?_
        have t_54 : pI S_22 600 r1 = v_1 := hk_23.fr.I' (by decide +kernel) ha_r1 ev_1
        have t_56 : At S_22 r1 6 := hk_23.fr.at ha_r1
        have t_55 : pI S_48 600 r1 = v_1 := hk_49.fr.I' (by decide +kernel) t_56 t_54
        have pz_57 : (pI S_48 600 r1).toInt = v_1.toInt := (congrArg Int32.toInt t_55).trans rfl
        have t_58 : At S_48 r1 6 := hk_49.fr.at t_56
        have rc_59 : RuC S_22 r1 Rl Cl := RuC_fr hO.1 ha_r1 hk_23.fr (by decide +kernel) hp_1
        have rc_60 : RuC S_48 r1 Rl Cl := RuC_fr hO_24.1 t_56 hk_49.fr (by decide +kernel) rc_59
        have rpr_61 : ∀ g, g ∈ ruG → pR S_22 g r1 = pR S g r1 := fun g hg => (ru_pR hk_23.fr ha_r1 (by decide +kernel) g hg).trans ((fun _ _ => rfl) g hg)
        have rpr_62 : ∀ g, g ∈ ruG → pR S_48 g r1 = pR S g r1 := fun g hg => (ru_pR hk_49.fr t_56 (by decide +kernel) g hg).trans (rpr_61 g hg)
        have rl_63 := rc_60.1.1
        refine k_v (rm := { frames := 1, cells := 0, slots := 0, locals := 48 }) (av := [.ref r1, .int (rr_5), .int 0]) X hw (va_runV (As := [.int (rr_5), .int 0]) (rest := []) (cfix X) (k_X6_closeRule2 l G cy κ S_48 _ r1 (rr_5) (rr_5.toInt) (0) (0) hO_50.1 t_58 rfl ti_0 (by omega)) (cwV 2 X.2.2.2.1 gX10_readAct_X6_closeRule rfl rfl rfl (by decide +kernel) ⟨Nat.le_of_ble_eq_true rfl, Nat.le_of_ble_eq_true rfl⟩) (pre_V X hw _ t_58 rfl (by decide) rfl) rfl rfl hl.1 rfl (lv_room (Nat.le_of_ble_eq_true rfl)) dX10_readAct_72 ⟨Nat.le_of_ble_eq_true rfl, Nat.le_of_ble_eq_true rfl⟩) 0 0 (Nat.le_of_ble_eq_true rfl) (Nat.le_of_ble_eq_true rfl) (fun S_65 H locs hp hw hfr hnw => ?_)
        obtain ⟨hk_66, hp⟩ := hp
        have hO_67 : Ok MLr S S_65 := hO_50.call hk_66 (by decide +kernel)
        have cl_69 := hp.1
        have rz_68 := RuC_close hO_50.1 t_58 (RuD_to rpr_62 hp_2) rc_60 hp.2
        refine lv_iconst (v := 1) X.1 X.2.1 dX10_readAct_75 (by decide) ?_
        have ruk_71 : RuK S S_22 r1 := RuK_fr (RuK_rf S r1) (fun _ _ h => h) hk_23.fr (by decide +kernel)
        have axg_73 : ∀ a k, At S a k → At S_22 a k := fun a k h => hk_23.fr.at ((fun _ _ h => h) a k h)
        have ruk_72 : RuK S S_48 r1 := RuK_fr ruk_71 axg_73 hk_49.fr (by decide +kernel)
        have axg_75 : ∀ a k, At S a k → At S_48 a k := fun a k h => hk_49.fr.at (axg_73 a k h)
        have ruk_74 : RuK S S_65 r1 := RuK_tr ruk_72 axg_75 rpr_62 rz_68.2
        have ea_70 : acF (tB S x) (pI S 1000 x).toInt.toNat t0 = (0, nxT (tB S x) (pI S 1000 x).toInt.toNat (nxT (tB S x) (pI S 1000 x).toInt.toNat t0)) := (cit_n (by omega)).trans ((cit_n (by omega)).trans (cit_y f_34))
        obtain ⟨v_77, ev_77⟩ : ∃ v, pI S_65 600 r1 = v := ⟨_, rfl⟩
        have t_79 : At S_65 r1 6 := hk_66.fr.at t_58
        have rg_78 := gI_6_600 hO_67.1 t_79; rw [ev_77] at rg_78
        have pz_80 : (pI S_65 600 r1).toInt = v_77.toInt := by rw [ev_77]
        have pz_81 : (pI S_65 600 r1).toInt = v_77.toInt := (congrArg Int32.toInt ev_77).trans rfl
        have av_82 : acV (tB S x) (pI S 1000 x).toInt.toNat t0 = (rr_5, 0) := acV_n wh_9 (by omega)
        have t_84 : At S_48 x 10 := hk_49.fr.at t_31
        have gb_83 := GB_fr gb_51 t_84 hk_66.fr (by decide +kernel)
        exact ret_z X hw hr hlocks (Nat.le_of_ble_eq_true rfl) (Nat.le_of_ble_eq_true rfl) (by decide) ⟨hO_67, Or.inl ⟨by rw [ea_70, av_82]; exact ⟨rfl, gb_83, by omega, rz_68.1, ruk_74⟩, rfl⟩⟩ dX10_readAct_76
      · have z_b_85 := trivial
        rw [tB_fr hG ha_x hO_24.fr (by decide +kernel)] at f_34
        refine lv_if_ne (tgt := 65) X.1 X.2.1 dX10_readAct_56 (by decide) (fun c_86 => absurd c_86 (by decide)) (fun c_86 => ?_)
        refine lv_aload_n X.1 X.2.1 dX10_readAct_59 rfl (lv_at hl 2 rfl) ?_
        refine lv_iconst (v := 1) X.1 X.2.1 dX10_readAct_60 (by decide) ?_
        refine k_i (rm := { frames := 1, cells := 0, slots := 0, locals := 48 }) (av := [.ref x, .int 1]) X hw (va_runV (As := [.int 1]) (rest := []) (cfix X) (k_X10_fail2 l G cy κ S_22 _ x (1) (1) hO_24.1 t_31 ti_1) (cwV 1 X.2.2.2.1 gX10_readAct_X10_fail rfl rfl rfl (by decide +kernel) ⟨Nat.le_of_ble_eq_true rfl, Nat.le_of_ble_eq_true rfl⟩) (pre_V X hw _ t_31 rfl (by decide) rfl) rfl rfl hl.1 rfl (lv_room (Nat.le_of_ble_eq_true rfl)) dX10_readAct_61 ⟨Nat.le_of_ble_eq_true rfl, Nat.le_of_ble_eq_true rfl⟩) 0 0 (Nat.le_of_ble_eq_true rfl) (Nat.le_of_ble_eq_true rfl) (fun rr_87 S_88 H locs hp hw hfr hnw => ?_)
        obtain ⟨hk_89, hp⟩ := hp
        have hO_90 : Ok MLr S S_88 := hO_24.call hk_89 (by decide +kernel)
        rcases hp with ⟨f_91, er_92⟩ | ⟨f_91, er_92⟩ <;> subst er_92
        · have z_b_93 := trivial
          exact f_91.elim
        · have z_b_94 := trivial
          have ruk_96 : RuK S S_22 r1 := RuK_fr (RuK_rf S r1) (fun _ _ h => h) hk_23.fr (by decide +kernel)
          have axg_98 : ∀ a k, At S a k → At S_22 a k := fun a k h => hk_23.fr.at ((fun _ _ h => h) a k h)
          have ruk_97 : RuK S S_88 r1 := RuK_fr ruk_96 axg_98 hk_89.fr (by decide +kernel)
          have ea_95 : acF (tB S x) (pI S 1000 x).toInt.toNat t0 = (1, (nxT (tB S x) (pI S 1000 x).toInt.toNat t0)) := (cit_n (by omega)).trans ((cit_n (by omega)).trans (cit_n f_34))
          exact ret_z X hw hr hlocks (Nat.le_of_ble_eq_true rfl) (Nat.le_of_ble_eq_true rfl) (by decide) ⟨hO_90, Or.inr ⟨by rw [ea_95]; exact ⟨(by decide : (1 : Int) ≠ 0), f_91, ruk_97⟩, rfl⟩⟩ dX10_readAct_64
    · have z_b_99 := trivial
      have k_100 : rr_5.toInt = 5 := z_eq rfl ti_5 c_28
      refine lv_aload_n X.1 X.2.1 dX10_readAct_27 rfl (lv_at hl 2 rfl) ?_
      obtain ⟨v_101, ev_101⟩ : ∃ v, pI S_22 1004 x = v := ⟨_, rfl⟩
      have rg_103 := And.intro (z_lo v_101) (z_hi v_101)
      have pz_104 : (pI S_22 1004 x).toInt = v_101.toInt := by rw [ev_101]
      have pz_105 : (pI S_22 1004 x).toInt = v_101.toInt := (congrArg Int32.toInt ev_101).trans rfl
      have tk_106 := gb_25.1.1
      have t_107 : At S_22 x 10 := hk_23.fr.at ha_x
      refine r_getI (g := 1004) (x := v_101) X hw t_107 rfl 4 ev_101 (by decide) rfl inn_X10_readAct_10 (by decide) (X.2.2.2.1 (.fieldLink RX10 37 "SilkMill$Tape" "token" "I") (by decide +kernel)) rfl (gv_1004 _ _) dX10_readAct_28 ?_
      refine lv_iconst (v := 2) X.1 X.2.1 dX10_readAct_31 (by decide) ?_
      refine lv_icmp_eq (tgt := 41) X.1 X.2.1 dX10_readAct_32 (by decide) (fun c_108 => ?_) (fun c_108 => ?_)
      · have z_b_109 := trivial
        have k_110 : v_101.toInt = 2 := z_eq rfl ti_2 c_108
        refine lv_aload_n X.1 X.2.1 dX10_readAct_41 rfl (lv_at hl 2 rfl) ?_
        have k2_111 := (hdE ok_26).2.2.1 (by omega)
        refine k_i (rm := { frames := 2, cells := 0, slots := 0, locals := 96 }) (av := [.ref x]) X hw (va_runV (As := []) (rest := []) (cfix X) (k_X10_numberAtHand2 l G cy κ S_22 _ x (nxT (tB S x) (pI S 1000 x).toInt.toNat t0) hO_24.1 t_107 gb_25.1 (hdE ok_26).1 (hdE ok_26).2.1 k2_111.1 (by rw [tB_fr hG ha_x hO_24.fr (by decide +kernel)]; exact k2_111.2)) (cwV 0 X.2.2.2.1 gX10_readAct_X10_numberAtHand rfl rfl rfl (by decide +kernel) ⟨Nat.le_of_ble_eq_true rfl, Nat.le_of_ble_eq_true rfl⟩) (pre_V X hw _ t_107 rfl (by decide) rfl) rfl rfl hl.1 rfl (lv_room (Nat.le_of_ble_eq_true rfl)) dX10_readAct_42 ⟨Nat.le_of_ble_eq_true rfl, Nat.le_of_ble_eq_true rfl⟩) 0 0 (Nat.le_of_ble_eq_true rfl) (Nat.le_of_ble_eq_true rfl) (fun rr_112 S_113 H locs hp hw hfr hnw => ?_)
        obtain ⟨e2, hp⟩ := hp
        subst e2
        obtain ⟨nu_114, nu_115, nu_116⟩ := hp
        rw [tB_fr hG ha_x hO_24.fr (by decide +kernel)] at nu_116
        refine lv_istore_n (lv' := [(3, .int (rr_112)), (2, .int (rr_5)), (0, .ref x), (1, .ref r1)]) X.1 X.2.1 dX10_readAct_45 rfl hl (by decide) rfl (fun ls hl => ?_)
        refine lv_aload_n X.1 X.2.1 dX10_readAct_46 rfl (lv_at hl 2 rfl) ?_
        have ok_117 := hdI (GB_ok hG ha_x gb_25)
        have ok_118 : ((nxT (tB S x) (pI S 1000 x).toInt.toNat t0)).2.1 ≤ ((nxT (tB S x) (pI S 1000 x).toInt.toNat t0)).2.2 ∧ ((nxT (tB S x) (pI S 1000 x).toInt.toNat t0)).2.2 ≤ 400 := ⟨(hdE ok_117).1, (hdE ok_117).2.1⟩
        obtain ⟨v_120, ev_120⟩ : ∃ v, pI S_22 1006 x = v := ⟨_, rfl⟩
        have rg_122 := And.intro (z_lo v_120) (z_hi v_120)
        have pz_123 : (pI S_22 1006 x).toInt = v_120.toInt := by rw [ev_120]
        have pz_124 : (pI S_22 1006 x).toInt = v_120.toInt := (congrArg Int32.toInt ev_120).trans rfl
        have te_125 := gb_25.1.2.2
        refine k_v (rm := { frames := 2, cells := 0, slots := 0, locals := 96 }) (av := [.ref x]) X hw (va_runV (As := []) (rest := []) (cfix X) (k_X10_advance2 l G cy κ S_22 _ x hO_24.1 t_107 (by omega) (by omega)) (cwV 0 X.2.2.2.1 gX10_readAct_X10_advance rfl rfl rfl (by decide +kernel) ⟨Nat.le_of_ble_eq_true rfl, Nat.le_of_ble_eq_true rfl⟩) (pre_V X hw _ t_107 rfl (by decide) rfl) rfl rfl hl.1 rfl (lv_room (Nat.le_of_ble_eq_true rfl)) dX10_readAct_47 ⟨Nat.le_of_ble_eq_true rfl, Nat.le_of_ble_eq_true rfl⟩) 0 0 (Nat.le_of_ble_eq_true rfl) (Nat.le_of_ble_eq_true rfl) (fun S_127 H locs hp hw hfr hnw => ?_)
        obtain ⟨hk_128, hp⟩ := hp
        have hO_129 : Ok MLr S S_127 := hO_24.call hk_128 (by decide +kernel)
        have gb_130 : GB (tB S x) (pI S 1000 x).toInt.toNat S_127 x (nxT (tB S x) (pI S 1000 x).toInt.toNat (nxT (tB S x) (pI S 1000 x).toInt.toNat t0)) := GB_adv gb_25 (tB_fr hG ha_x hO_24.fr (by decide +kernel)) (by rw [hO_24.fr.I' (g := 1000) (by decide +kernel) ha_x rfl]) (by omega) hp.1
        have ok_131 := hdI (GB_ok hG ha_x gb_130)
        have ok_132 : ((nxT (tB S x) (pI S 1000 x).toInt.toNat (nxT (tB S x) (pI S 1000 x).toInt.toNat t0))).2.1 ≤ ((nxT (tB S x) (pI S 1000 x).toInt.toNat (nxT (tB S x) (pI S 1000 x).toInt.toNat t0))).2.2 ∧ ((nxT (tB S x) (pI S 1000 x).toInt.toNat (nxT (tB S x) (pI S 1000 x).toInt.toNat t0))).2.2 ≤ 400 := ⟨(hdE ok_131).1, (hdE ok_131).2.1⟩
        refine lv_aload_n X.1 X.2.1 dX10_readAct_50 rfl (lv_at hl 2 rfl) ?_
        refine lv_bipush (v := 59) X.1 X.2.1 dX10_readAct_51 (by decide) ?_
        have t_133 : At S_127 x 10 := hk_128.fr.at t_107
        refine k_i (rm := { frames := 2, cells := 0, slots := 0, locals := 96 }) (av := [.ref x, .int 59]) X hw (va_runV (As := [.int 59]) (rest := []) (cfix X) (k_X10_isSign2 l G cy κ S_127 _ x (59) (59) (nxT (tB S x) (pI S 1000 x).toInt.toNat (nxT (tB S x) (pI S 1000 x).toInt.toNat t0)) hO_129.1 t_133 ti_59 gb_130.1) (cwV 1 X.2.2.2.1 gX10_readAct_X10_isSign rfl rfl rfl (by decide +kernel) ⟨Nat.le_of_ble_eq_true rfl, Nat.le_of_ble_eq_true rfl⟩) (pre_V X hw _ t_133 rfl (by decide) rfl) rfl rfl hl.1 rfl (lv_room (Nat.le_of_ble_eq_true rfl)) dX10_readAct_53 ⟨Nat.le_of_ble_eq_true rfl, Nat.le_of_ble_eq_true rfl⟩) 0 0 (Nat.le_of_ble_eq_true rfl) (Nat.le_of_ble_eq_true rfl) (fun rr_134 S_135 H locs hp hw hfr hnw => ?_)
        obtain ⟨e2, hp⟩ := hp
        subst e2
        rcases hp with ⟨f_136, er_137⟩ | ⟨f_136, er_137⟩ <;> subst er_137
        · have z_b_138 := trivial
          rw [tB_fr hG ha_x hO_129.fr (by decide +kernel)] at f_136
          refine lv_if_ne (tgt := 65) X.1 X.2.1 dX10_readAct_56 (by decide) (fun c_139 => ?_) (fun c_139 => absurd c_139 (by decide))
          refine lv_aload_n X.1 X.2.1 dX10_readAct_65 rfl (lv_at hl 2 rfl) ?_
          have ok_140 := hdI (GB_ok hG ha_x gb_130)
          have ok_141 : ((nxT (tB S x) (pI S 1000 x).toInt.toNat (nxT (tB S x) (pI S 1000 x).toInt.toNat t0))).2.1 ≤ ((nxT (tB S x) (pI S 1000 x).toInt.toNat (nxT (tB S x) (pI S 1000 x).toInt.toNat t0))).2.2 ∧ ((nxT (tB S x) (pI S 1000 x).toInt.toNat (nxT (tB S x) (pI S 1000 x).toInt.toNat t0))).2.2 ≤ 400 := ⟨(hdE ok_140).1, (hdE ok_140).2.1⟩
          obtain ⟨v_143, ev_143⟩ : ∃ v, pI S_127 1006 x = v := ⟨_, rfl⟩
          have rg_145 := And.intro (z_lo v_143) (z_hi v_143)
          have pz_146 : (pI S_127 1006 x).toInt = v_143.toInt := by rw [ev_143]
          have pz_147 : (pI S_127 1006 x).toInt = v_143.toInt := (congrArg Int32.toInt ev_143).trans rfl
          have te_148 := gb_130.1.2.2
          refine k_v (rm := { frames := 2, cells := 0, slots := 0, locals := 96 }) (av := [.ref x]) X hw (va_runV (As := []) (rest := []) (cfix X) (k_X10_advance2 l G cy κ S_127 _ x hO_129.1 t_133 (by omega) (by omega)) (cwV 0 X.2.2.2.1 gX10_readAct_X10_advance rfl rfl rfl (by decide +kernel) ⟨Nat.le_of_ble_eq_true rfl, Nat.le_of_ble_eq_true rfl⟩) (pre_V X hw _ t_133 rfl (by decide) rfl) rfl rfl hl.1 rfl (lv_room (Nat.le_of_ble_eq_true rfl)) dX10_readAct_66 ⟨Nat.le_of_ble_eq_true rfl, Nat.le_of_ble_eq_true rfl⟩) 0 0 (Nat.le_of_ble_eq_true rfl) (Nat.le_of_ble_eq_true rfl) (fun S_150 H locs hp hw hfr hnw => ?_)
          obtain ⟨hk_151, hp⟩ := hp
          have hO_152 : Ok MLr S S_150 := hO_129.call hk_151 (by decide +kernel)
          have gb_153 : GB (tB S x) (pI S 1000 x).toInt.toNat S_150 x (nxT (tB S x) (pI S 1000 x).toInt.toNat (nxT (tB S x) (pI S 1000 x).toInt.toNat (nxT (tB S x) (pI S 1000 x).toInt.toNat t0))) := GB_adv gb_130 (tB_fr hG ha_x hO_129.fr (by decide +kernel)) (by rw [hO_129.fr.I' (g := 1000) (by decide +kernel) ha_x rfl]) (by omega) hp.1
          have ok_154 := hdI (GB_ok hG ha_x gb_153)
          have ok_155 : ((nxT (tB S x) (pI S 1000 x).toInt.toNat (nxT (tB S x) (pI S 1000 x).toInt.toNat (nxT (tB S x) (pI S 1000 x).toInt.toNat t0)))).2.1 ≤ ((nxT (tB S x) (pI S 1000 x).toInt.toNat (nxT (tB S x) (pI S 1000 x).toInt.toNat (nxT (tB S x) (pI S 1000 x).toInt.toNat t0)))).2.2 ∧ ((nxT (tB S x) (pI S 1000 x).toInt.toNat (nxT (tB S x) (pI S 1000 x).toInt.toNat (nxT (tB S x) (pI S 1000 x).toInt.toNat t0)))).2.2 ≤ 400 := ⟨(hdE ok_154).1, (hdE ok_154).2.1⟩
          refine lv_aload_n X.1 X.2.1 dX10_readAct_69 rfl (lv_at hl 3 rfl) ?_
          refine lv_iload_n X.1 X.2.1 dX10_readAct_70 rfl (lv_at hl 1 rfl) ?_
          refine lv_iload_n X.1 X.2.1 dX10_readAct_71 rfl (lv_at hl 0 rfl) ?_
          have t_156 : pI S_22 600 r1 = v_1 := hk_23.fr.I' (by decide +kernel) ha_r1 ev_1
          have t_158 : At S_22 r1 6 := hk_23.fr.at ha_r1
          have t_157 : pI S_127 600 r1 = v_1 := hk_128.fr.I' (by decide +kernel) t_158 t_156
          have t_160 : At S_127 r1 6 := hk_128.fr.at t_158
          have t_159 : pI S_150 600 r1 = v_1 := hk_151.fr.I' (by decide +kernel) t_160 t_157
          have pz_161 : (pI S_150 600 r1).toInt = v_1.toInt := (congrArg Int32.toInt t_159).trans rfl
          have t_162 : At S_150 r1 6 := hk_151.fr.at t_160
          have rc_163 : RuC S_22 r1 Rl Cl := RuC_fr hO.1 ha_r1 hk_23.fr (by decide +kernel) hp_1
          have rc_164 : RuC S_127 r1 Rl Cl := RuC_fr hO_24.1 t_158 hk_128.fr (by decide +kernel) rc_163
          have rc_165 : RuC S_150 r1 Rl Cl := RuC_fr hO_129.1 t_160 hk_151.fr (by decide +kernel) rc_164
          have rpr_166 : ∀ g, g ∈ ruG → pR S_22 g r1 = pR S g r1 := fun g hg => (ru_pR hk_23.fr ha_r1 (by decide +kernel) g hg).trans ((fun _ _ => rfl) g hg)
          have rpr_167 : ∀ g, g ∈ ruG → pR S_127 g r1 = pR S g r1 := fun g hg => (ru_pR hk_128.fr t_158 (by decide +kernel) g hg).trans (rpr_166 g hg)
          have rpr_168 : ∀ g, g ∈ ruG → pR S_150 g r1 = pR S g r1 := fun g hg => (ru_pR hk_151.fr t_160 (by decide +kernel) g hg).trans (rpr_167 g hg)
          have rl_169 := rc_165.1.1
          refine k_v (rm := { frames := 1, cells := 0, slots := 0, locals := 48 }) (av := [.ref r1, .int (rr_5), .int (rr_112)]) X hw (va_runV (As := [.int (rr_5), .int (rr_112)]) (rest := []) (cfix X) (k_X6_closeRule2 l G cy κ S_150 _ r1 (rr_5) (rr_5.toInt) (rr_112) (rr_112.toInt) hO_152.1 t_162 rfl rfl (by omega)) (cwV 2 X.2.2.2.1 gX10_readAct_X6_closeRule rfl rfl rfl (by decide +kernel) ⟨Nat.le_of_ble_eq_true rfl, Nat.le_of_ble_eq_true rfl⟩) (pre_V X hw _ t_162 rfl (by decide) rfl) rfl rfl hl.1 rfl (lv_room (Nat.le_of_ble_eq_true rfl)) dX10_readAct_72 ⟨Nat.le_of_ble_eq_true rfl, Nat.le_of_ble_eq_true rfl⟩) 0 0 (Nat.le_of_ble_eq_true rfl) (Nat.le_of_ble_eq_true rfl) (fun S_171 H locs hp hw hfr hnw => ?_)
          obtain ⟨hk_172, hp⟩ := hp
          have hO_173 : Ok MLr S S_171 := hO_152.call hk_172 (by decide +kernel)
          have cl_175 := hp.1
          have rz_174 := RuC_close hO_152.1 t_162 (RuD_to rpr_168 hp_2) rc_165 hp.2
          refine lv_iconst (v := 1) X.1 X.2.1 dX10_readAct_75 (by decide) ?_
          have ruk_177 : RuK S S_22 r1 := RuK_fr (RuK_rf S r1) (fun _ _ h => h) hk_23.fr (by decide +kernel)
          have axg_179 : ∀ a k, At S a k → At S_22 a k := fun a k h => hk_23.fr.at ((fun _ _ h => h) a k h)
          have ruk_178 : RuK S S_127 r1 := RuK_fr ruk_177 axg_179 hk_128.fr (by decide +kernel)
          have axg_181 : ∀ a k, At S a k → At S_127 a k := fun a k h => hk_128.fr.at (axg_179 a k h)
          have ruk_180 : RuK S S_150 r1 := RuK_fr ruk_178 axg_181 hk_151.fr (by decide +kernel)
          have axg_183 : ∀ a k, At S a k → At S_150 a k := fun a k h => hk_151.fr.at (axg_181 a k h)
          have ruk_182 : RuK S S_171 r1 := RuK_tr ruk_180 axg_183 rpr_168 rz_174.2
          have ea_176 : acF (tB S x) (pI S 1000 x).toInt.toNat t0 = (0, nxT (tB S x) (pI S 1000 x).toInt.toNat (nxT (tB S x) (pI S 1000 x).toInt.toNat (nxT (tB S x) (pI S 1000 x).toInt.toNat t0))) := (cit_n (by omega)).trans ((cit_y (by omega)).trans ((cit_y (by omega)).trans (cit_y f_136)))
          obtain ⟨v_185, ev_185⟩ : ∃ v, pI S_171 600 r1 = v := ⟨_, rfl⟩
          have t_187 : At S_171 r1 6 := hk_172.fr.at t_162
          have rg_186 := gI_6_600 hO_173.1 t_187; rw [ev_185] at rg_186
          have pz_188 : (pI S_171 600 r1).toInt = v_185.toInt := by rw [ev_185]
          have pz_189 : (pI S_171 600 r1).toInt = v_185.toInt := (congrArg Int32.toInt ev_185).trans rfl
          have av_190 : acV (tB S x) (pI S 1000 x).toInt.toNat t0 = (rr_5, rr_112) := acV_s wh_9 (by omega) nu_116
          have t_192 : At S_150 x 10 := hk_151.fr.at t_133
          have gb_191 := GB_fr gb_153 t_192 hk_172.fr (by decide +kernel)
          exact ret_z X hw hr hlocks (Nat.le_of_ble_eq_true rfl) (Nat.le_of_ble_eq_true rfl) (by decide) ⟨hO_173, Or.inl ⟨by rw [ea_176, av_190]; exact ⟨rfl, gb_191, by omega, rz_174.1, ruk_182⟩, rfl⟩⟩ dX10_readAct_76
        · have z_b_193 := trivial
          rw [tB_fr hG ha_x hO_129.fr (by decide +kernel)] at f_136
          refine lv_if_ne (tgt := 65) X.1 X.2.1 dX10_readAct_56 (by decide) (fun c_194 => absurd c_194 (by decide)) (fun c_194 => ?_)
          refine lv_aload_n X.1 X.2.1 dX10_readAct_59 rfl (lv_at hl 2 rfl) ?_
          refine lv_iconst (v := 1) X.1 X.2.1 dX10_readAct_60 (by decide) ?_
          refine k_i (rm := { frames := 1, cells := 0, slots := 0, locals := 48 }) (av := [.ref x, .int 1]) X hw (va_runV (As := [.int 1]) (rest := []) (cfix X) (k_X10_fail2 l G cy κ S_127 _ x (1) (1) hO_129.1 t_133 ti_1) (cwV 1 X.2.2.2.1 gX10_readAct_X10_fail rfl rfl rfl (by decide +kernel) ⟨Nat.le_of_ble_eq_true rfl, Nat.le_of_ble_eq_true rfl⟩) (pre_V X hw _ t_133 rfl (by decide) rfl) rfl rfl hl.1 rfl (lv_room (Nat.le_of_ble_eq_true rfl)) dX10_readAct_61 ⟨Nat.le_of_ble_eq_true rfl, Nat.le_of_ble_eq_true rfl⟩) 0 0 (Nat.le_of_ble_eq_true rfl) (Nat.le_of_ble_eq_true rfl) (fun rr_195 S_196 H locs hp hw hfr hnw => ?_)
          obtain ⟨hk_197, hp⟩ := hp
          have hO_198 : Ok MLr S S_196 := hO_129.call hk_197 (by decide +kernel)
          rcases hp with ⟨f_199, er_200⟩ | ⟨f_199, er_200⟩ <;> subst er_200
          · have z_b_201 := trivial
            exact f_199.elim
          · have z_b_202 := trivial
            have ruk_204 : RuK S S_22 r1 := RuK_fr (RuK_rf S r1) (fun _ _ h => h) hk_23.fr (by decide +kernel)
            have axg_206 : ∀ a k, At S a k → At S_22 a k := fun a k h => hk_23.fr.at ((fun _ _ h => h) a k h)
            have ruk_205 : RuK S S_127 r1 := RuK_fr ruk_204 axg_206 hk_128.fr (by decide +kernel)
            have axg_208 : ∀ a k, At S a k → At S_127 a k := fun a k h => hk_128.fr.at (axg_206 a k h)
            have ruk_207 : RuK S S_196 r1 := RuK_fr ruk_205 axg_208 hk_197.fr (by decide +kernel)
            have ea_203 : acF (tB S x) (pI S 1000 x).toInt.toNat t0 = (1, (nxT (tB S x) (pI S 1000 x).toInt.toNat (nxT (tB S x) (pI S 1000 x).toInt.toNat t0))) := (cit_n (by omega)).trans ((cit_y (by omega)).trans ((cit_y (by omega)).trans (cit_n f_136)))
            exact ret_z X hw hr hlocks (Nat.le_of_ble_eq_true rfl) (Nat.le_of_ble_eq_true rfl) (by decide) ⟨hO_198, Or.inr ⟨by rw [ea_203]; exact ⟨(by decide : (1 : Int) ≠ 0), f_199, ruk_207⟩, rfl⟩⟩ dX10_readAct_64
      · have z_b_209 := trivial
        have k_210 : v_101.toInt ≠ 2 := z_ne rfl ti_2 c_108
        refine lv_aload_n X.1 X.2.1 dX10_readAct_35 rfl (lv_at hl 2 rfl) ?_
        refine lv_iconst (v := 1) X.1 X.2.1 dX10_readAct_36 (by decide) ?_
        refine k_i (rm := { frames := 1, cells := 0, slots := 0, locals := 48 }) (av := [.ref x, .int 1]) X hw (va_runV (As := [.int 1]) (rest := []) (cfix X) (k_X10_fail2 l G cy κ S_22 _ x (1) (1) hO_24.1 t_107 ti_1) (cwV 1 X.2.2.2.1 gX10_readAct_X10_fail rfl rfl rfl (by decide +kernel) ⟨Nat.le_of_ble_eq_true rfl, Nat.le_of_ble_eq_true rfl⟩) (pre_V X hw _ t_107 rfl (by decide) rfl) rfl rfl hl.1 rfl (lv_room (Nat.le_of_ble_eq_true rfl)) dX10_readAct_37 ⟨Nat.le_of_ble_eq_true rfl, Nat.le_of_ble_eq_true rfl⟩) 0 0 (Nat.le_of_ble_eq_true rfl) (Nat.le_of_ble_eq_true rfl) (fun rr_211 S_212 H locs hp hw hfr hnw => ?_)
        obtain ⟨hk_213, hp⟩ := hp
        have hO_214 : Ok MLr S S_212 := hO_24.call hk_213 (by decide +kernel)
        rcases hp with ⟨f_215, er_216⟩ | ⟨f_215, er_216⟩ <;> subst er_216
        · have z_b_217 := trivial
          exact f_215.elim
        · have z_b_218 := trivial
          have ruk_220 : RuK S S_22 r1 := RuK_fr (RuK_rf S r1) (fun _ _ h => h) hk_23.fr (by decide +kernel)
          have axg_222 : ∀ a k, At S a k → At S_22 a k := fun a k h => hk_23.fr.at ((fun _ _ h => h) a k h)
          have ruk_221 : RuK S S_212 r1 := RuK_fr ruk_220 axg_222 hk_213.fr (by decide +kernel)
          have ea_219 : acF (tB S x) (pI S 1000 x).toInt.toNat t0 = (1, t0) := (cit_n (by omega)).trans ((cit_y (by omega)).trans (cit_n (by omega)))
          exact ret_z X hw hr hlocks (Nat.le_of_ble_eq_true rfl) (Nat.le_of_ble_eq_true rfl) (by decide) ⟨hO_214, Or.inr ⟨by rw [ea_219]; exact ⟨(by decide : (1 : Int) ≠ 0), f_215, ruk_221⟩, rfl⟩⟩ dX10_readAct_40
  · have z_b_223 := trivial
    have k_224 : rr_5.toInt = (-1) := z_eq rfl ti_m1 c_10
    refine lv_aload_n X.1 X.2.1 dX10_readAct_10 rfl (lv_at hl 1 rfl) ?_
    refine lv_iconst (v := 1) X.1 X.2.1 dX10_readAct_11 (by decide) ?_
    refine k_i (rm := { frames := 1, cells := 0, slots := 0, locals := 48 }) (av := [.ref x, .int 1]) X hw (va_runV (As := [.int 1]) (rest := []) (cfix X) (k_X10_fail2 l G cy κ S _ x (1) (1) hO.1 ha_x ti_1) (cwV 1 X.2.2.2.1 gX10_readAct_X10_fail rfl rfl rfl (by decide +kernel) ⟨Nat.le_of_ble_eq_true rfl, Nat.le_of_ble_eq_true rfl⟩) (pre_V X hw _ ha_x rfl (by decide) rfl) rfl rfl hl.1 rfl (lv_room (Nat.le_of_ble_eq_true rfl)) dX10_readAct_12 ⟨Nat.le_of_ble_eq_true rfl, Nat.le_of_ble_eq_true rfl⟩) 0 0 (Nat.le_of_ble_eq_true rfl) (Nat.le_of_ble_eq_true rfl) (fun rr_225 S_226 H locs hp hw hfr hnw => ?_)
    obtain ⟨hk_227, hp⟩ := hp
    have hO_228 : Ok MLr S S_226 := hO.call hk_227 (by decide +kernel)
    rcases hp with ⟨f_229, er_230⟩ | ⟨f_229, er_230⟩ <;> subst er_230
    · have z_b_231 := trivial
      exact f_229.elim
    · have z_b_232 := trivial
      have ruk_234 : RuK S S_226 r1 := RuK_fr (RuK_rf S r1) (fun _ _ h => h) hk_227.fr (by decide +kernel)
      have ea_233 : acF (tB S x) (pI S 1000 x).toInt.toNat t0 = (1, t0) := cit_y (by omega)
      exact ret_z X hw hr hlocks (Nat.le_of_ble_eq_true rfl) (Nat.le_of_ble_eq_true rfl) (by decide) ⟨hO_228, Or.inr ⟨by rw [ea_233]; exact ⟨(by decide : (1 : Int) ≠ 0), f_229, ruk_234⟩, rfl⟩⟩ dX10_readAct_15
