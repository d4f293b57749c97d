
set_option maxHeartbeats 4000000 in
set_option maxRecDepth 100000 in
theorem k_X10_readRule2 (l : Launch) (G : va_G) (cy : Nat → ClassId) (κ : Nat → Nat) (S : PS) (sz : Nat) (x : Nat) (r1 : Nat) (t0 : Tk) (Rl : List Ru) (hG : GX S) (ha_x : At S x 10) (ha_r1 : At S r1 6) (hp_0 : GB (tB S x) (pI S 1000 x).toInt.toNat S x t0) (hp_1 : RuIs S r1 Rl) (hp_2 : RuD S r1) : Ci l yX10_readRule wsX10_readRule ({ frames := 9, cells := 0, slots := 0, locals := 432 }) G cy κ S sz [.ref x, .ref r1] (fun (r : Int32) (S9 : PS) => Ok MLr S S9 ∧ ((((rueF (tB S x) (pI S 1000 x).toInt.toNat (pI S 600 r1).toInt.toNat t0).1 = 0 ∧ GB (tB S x) (pI S 1000 x).toInt.toNat S9 x (rueF (tB S x) (pI S 1000 x).toInt.toNat (pI S 600 r1).toInt.toNat t0).2 ∧ (pI S9 600 r1).toInt = (pI S 600 r1).toInt + 1 ∧ RuIs S9 r1 (Rl ++ [ruV (tB S x) (pI S 1000 x).toInt.toNat t0]) ∧ RuK S S9 r1) ∧ r = 1) ∨ (((rueF (tB S x) (pI S 1000 x).toInt.toNat (pI S 600 r1).toInt.toNat t0).1 ≠ 0 ∧ (pI S9 1001 x).toInt = (rueF (tB S x) (pI S 1000 x).toInt.toNat (pI S 600 r1).toInt.toNat t0).1 ∧ RuK S S9 r1) ∧ r = 0))) := by
  refine ent_m (cc := cX10_readRule) (maxL := 3) (ret := (some .boolean)) (by decide) rfl (Nat.le_of_ble_eq_true rfl) ?_
  intro p e s m below meth c ls X hr hlocks hin hw hl hsz
  subst hsz
  have X : Cx p c cX10_readRule 3 s [.ref x, .ref r1].toArray wsX10_readRule RX10 m G cy κ (AS S s.heap.size) := X
  have hl : lv_has ls 3 [(0, .ref x), (1, .ref r1)] := hl
  have hO : Ok MLr S S := Ok.rf hG
  have hok := hdI (GB_ok hG ha_x hp_0)
  have hok1 : t0.2.1 ≤ t0.2.2 ∧ t0.2.2 ≤ 400 := ⟨(hdE hok).1, (hdE hok).2.1⟩
  obtain ⟨v_1, ev_1⟩ : ∃ v, pI S 600 r1 = v := ⟨_, rfl⟩
  have rg_2 := gI_6_600 hO.1 ha_r1; rw [ev_1] at rg_2
  have pz_3 : (pI S 600 r1).toInt = v_1.toInt := by rw [ev_1]
  have pz_4 : (pI S 600 r1).toInt = v_1.toInt := (congrArg Int32.toInt ev_1).trans rfl
  have hrl := hp_1.1
  refine lv_aload_n X.1 X.2.1 dX10_readRule_0 rfl (lv_at hl 0 rfl) ?_
  refine va_ldcS (q := κ (100 + 2)) X.1 X.2.1 X.2.2.2.2.1 (show vk_R RX10 44 "if" (κ (100 + 2)) s from (X.2.2.2.2.2.2.2.2.2.2.2.2.2.2 2 (by decide)).1) dX10_readRule_1 ?_
  refine k_i (rm := { frames := 5, cells := 0, slots := 0, locals := 240 }) (av := [.ref x, .ref (κ (100 + 2))]) X hw (va_runV (As := [.ref (κ (100 + 2))]) (rest := []) (cfix X) (k_X10_isWord2 l G cy κ S _ x 2 t0 hO.1 ha_x (by decide) hp_0.1 (by first | assumption | omega) (by first | assumption | omega)) (cwV 1 X.2.2.2.1 gX10_readRule_X10_isWord rfl rfl rfl (by decide +kernel) ⟨Nat.le_of_ble_eq_true rfl, Nat.le_of_ble_eq_true rfl⟩) (pre_V X hw _ ha_x rfl (by decide) rfl) rfl rfl hl.1 rfl (lv_room (Nat.le_of_ble_eq_true rfl)) dX10_readRule_3 ⟨Nat.le_of_ble_eq_true rfl, Nat.le_of_ble_eq_true rfl⟩) 0 0 (Nat.le_of_ble_eq_true rfl) (Nat.le_of_ble_eq_true rfl) (fun rr_5 S_6 H locs hp hw hfr hnw => ?_)
  obtain ⟨e2, hp⟩ := hp
  subst e2
  rcases hp with ⟨f_7, er_8⟩ | ⟨f_7, er_8⟩ <;> subst er_8
  · have z_b_9 := trivial
    refine lv_istore_n (lv' := [(2, .int 1), (0, .ref x), (1, .ref r1)]) X.1 X.2.1 dX10_readRule_6 rfl hl (by decide) rfl (fun ls hl => ?_)
    refine lv_iload_n X.1 X.2.1 dX10_readRule_7 rfl (lv_at hl 0 rfl) ?_
    refine lv_if_ne (tgt := 25) X.1 X.2.1 dX10_readRule_8 (by decide) (fun c_10 => ?_) (fun c_10 => absurd c_10 (by decide))
    refine lv_aload_n X.1 X.2.1 dX10_readRule_25 rfl (lv_at hl 2 rfl) ?_
    refine r_getI (g := 600) (x := v_1) X hw ha_r1 rfl 0 ev_1 (by decide) rfl inn_X10_readRule_6 (by decide) (X.2.2.2.1 (.fieldLink RX10 28 "SilkMill$Rules" "size" "I") (by decide +kernel)) rfl (gv_600 _ _) dX10_readRule_26 ?_
    refine lv_bipush (v := 12) X.1 X.2.1 dX10_readRule_29 (by decide) ?_
    refine lv_icmp_lt (tgt := 40) X.1 X.2.1 dX10_readRule_31 (by decide) (fun c_11 => ?_) (fun c_11 => ?_)
    · have z_b_12 := trivial
      have k_13 : v_1.toInt < 12 := z_lt rfl ti_12 c_11
      refine lv_aload_n X.1 X.2.1 dX10_readRule_40 rfl (lv_at hl 2 rfl) ?_
      have pz_14 : (pI S 600 r1).toInt = v_1.toInt := (congrArg Int32.toInt ev_1).trans rfl
      have rl_15 := hp_1.1
      refine k_v (rm := { frames := 1, cells := 0, slots := 0, locals := 48 }) (av := [.ref r1]) X hw (va_runV (As := []) (rest := []) (cfix X) (k_X6_openRule2 l G cy κ S _ r1 hO.1 ha_r1 (by omega)) (cwV 0 X.2.2.2.1 gX10_readRule_X6_openRule rfl rfl rfl (by decide +kernel) ⟨Nat.le_of_ble_eq_true rfl, Nat.le_of_ble_eq_true rfl⟩) (pre_V X hw _ ha_r1 rfl (by decide) rfl) rfl rfl hl.1 rfl (lv_room (Nat.le_of_ble_eq_true rfl)) dX10_readRule_41 ⟨Nat.le_of_ble_eq_true rfl, Nat.le_of_ble_eq_true rfl⟩) 0 0 (Nat.le_of_ble_eq_true rfl) (Nat.le_of_ble_eq_true rfl) (fun S_17 H locs hp hw hfr hnw => ?_)
      obtain ⟨hk_18, hp⟩ := hp
      have hO_19 : Ok MLr S S_17 := hO.call hk_18 (by decide +kernel)
      have ro_20 := RuC_open hO.1 ha_r1 hp_1 hp
      refine lv_iload_n X.1 X.2.1 dX10_readRule_44 rfl (lv_at hl 0 rfl) ?_
      refine lv_if_eq (tgt := 62) X.1 X.2.1 dX10_readRule_45 (by decide) (fun c_21 => absurd c_21 (by decide)) (fun c_21 => ?_)
      refine lv_aload_n X.1 X.2.1 dX10_readRule_48 rfl (lv_at hl 1 rfl) ?_
      have t_22 : At S_17 x 10 := hk_18.fr.at ha_x
      have gb_23 := GB_fr hp_0 ha_x hk_18.fr (by decide +kernel)
      have ok_24 := hdI (GB_ok hG ha_x gb_23)
      have ok_25 : (t0).2.1 ≤ (t0).2.2 ∧ (t0).2.2 ≤ 400 := ⟨(hdE ok_24).1, (hdE ok_24).2.1⟩
      obtain ⟨v_26, ev_26⟩ : ∃ v, pI S_17 1006 x = v := ⟨_, rfl⟩
      have rg_28 := And.intro (z_lo v_26) (z_hi v_26)
      have pz_29 : (pI S_17 1006 x).toInt = v_26.toInt := by rw [ev_26]
      have pz_30 : (pI S_17 1006 x).toInt = v_26.toInt := (congrArg Int32.toInt ev_26).trans rfl
      have te_31 := gb_23.1.2.2
      refine k_v (rm := { frames := 2, cells := 0, slots := 0, locals := 96 }) (av := [.ref x]) X hw (va_runV (As := []) (rest := []) (cfix X) (k_X10_advance2 l G cy κ S_17 _ x hO_19.1 t_22 (by omega) (by omega)) (cwV 0 X.2.2.2.1 gX10_readRule_X10_advance rfl rfl rfl (by decide +kernel) ⟨Nat.le_of_ble_eq_true rfl, Nat.le_of_ble_eq_true rfl⟩) (pre_V X hw _ t_22 rfl (by decide) rfl) rfl rfl hl.1 rfl (lv_room (Nat.le_of_ble_eq_true rfl)) dX10_readRule_49 ⟨Nat.le_of_ble_eq_true rfl, Nat.le_of_ble_eq_true rfl⟩) 0 0 (Nat.le_of_ble_eq_true rfl) (Nat.le_of_ble_eq_true rfl) (fun S_33 H locs hp hw hfr hnw => ?_)
      obtain ⟨hk_34, hp⟩ := hp
      have hO_35 : Ok MLr S S_33 := hO_19.call hk_34 (by decide +kernel)
      have gb_36 : GB (tB S x) (pI S 1000 x).toInt.toNat S_33 x (nxT (tB S x) (pI S 1000 x).toInt.toNat t0) := GB_adv gb_23 (tB_fr hG ha_x hO_19.fr (by decide +kernel)) (by rw [hO_19.fr.I' (g := 1000) (by decide +kernel) ha_x rfl]) (by omega) hp.1
      have ok_37 := hdI (GB_ok hG ha_x gb_36)
      have ok_38 : ((nxT (tB S x) (pI S 1000 x).toInt.toNat t0)).2.1 ≤ ((nxT (tB S x) (pI S 1000 x).toInt.toNat t0)).2.2 ∧ ((nxT (tB S x) (pI S 1000 x).toInt.toNat t0)).2.2 ≤ 400 := ⟨(hdE ok_37).1, (hdE ok_37).2.1⟩
      refine lv_aload_n X.1 X.2.1 dX10_readRule_52 rfl (lv_at hl 1 rfl) ?_
      refine lv_aload_n X.1 X.2.1 dX10_readRule_53 rfl (lv_at hl 2 rfl) ?_
      have t_39 : At S_33 x 10 := hk_34.fr.at t_22
      have t_40 : At S_17 r1 6 := hk_18.fr.at ha_r1
      have t_41 : At S_33 r1 6 := hk_34.fr.at t_40
      have t_43 : At S_17 r1 6 := hk_18.fr.at ha_r1
      have rc_42 : RuC S_33 r1 Rl [] := RuC_fr hO_19.1 t_43 hk_34.fr (by decide +kernel) ro_20.1
      have rpr_44 : ∀ g, g ∈ ruG → pR S_17 g r1 = pR S g r1 := fun g hg => (ru_pR hk_18.fr ha_r1 (by decide +kernel) g hg).trans ((fun _ _ => rfl) g hg)
      have rpr_45 : ∀ g, g ∈ ruG → pR S_33 g r1 = pR S g r1 := fun g hg => (ru_pR hk_34.fr t_43 (by decide +kernel) g hg).trans (rpr_44 g hg)
      have rl_46 := rc_42.1.1
      have rl_47 := rc_42.2.1
      refine k_i (rm := { frames := 8, cells := 0, slots := 0, locals := 384 }) (av := [.ref x, .ref r1]) X hw (va_runV (As := [.ref r1]) (rest := []) (cfix X) (k_X10_readConditions2 l G cy κ S_33 _ x r1 (nxT (tB S x) (pI S 1000 x).toInt.toNat t0) Rl hO_35.1 t_39 t_41 (by rw [tB_fr hG ha_x hO_35.fr (by decide +kernel), hO_35.fr.I' (g := 1000) (by decide +kernel) ha_x rfl]; exact gb_36) rc_42 (RuD_to rpr_45 hp_2) (by first | assumption | omega)) (cwV 1 X.2.2.2.1 gX10_readRule_X10_readConditions rfl rfl rfl (by decide +kernel) ⟨Nat.le_of_ble_eq_true rfl, Nat.le_of_ble_eq_true rfl⟩) (pre_V X hw _ t_39 rfl (by decide) rfl) rfl rfl hl.1 rfl (lv_room (Nat.le_of_ble_eq_true rfl)) dX10_readRule_54 ⟨Nat.le_of_ble_eq_true rfl, Nat.le_of_ble_eq_true rfl⟩) 0 0 (Nat.le_of_ble_eq_true rfl) (Nat.le_of_ble_eq_true rfl) (fun rr_48 S_49 H locs hp hw hfr hnw => ?_)
      obtain ⟨hk_50, hp⟩ := hp
      have hO_51 : Ok MLr S S_49 := hO_35.call hk_50 (by decide +kernel)
      rcases hp with ⟨f_52, er_53⟩ | ⟨f_52, er_53⟩ <;> subst er_53
      · have z_b_54 := trivial
        rw [tB_fr hG ha_x hO_35.fr (by decide +kernel), hO_35.fr.I' (g := 1000) (by decide +kernel) ha_x rfl] at f_52
        have ok_55 := hdI (GB_ok hG ha_x f_52.2.1)
        have ok_56 : ((csF (tB S x) (pI S 1000 x).toInt.toNat 4 (nxT (tB S x) (pI S 1000 x).toInt.toNat t0)).2).2.1 ≤ ((csF (tB S x) (pI S 1000 x).toInt.toNat 4 (nxT (tB S x) (pI S 1000 x).toInt.toNat t0)).2).2.2 ∧ ((csF (tB S x) (pI S 1000 x).toInt.toNat 4 (nxT (tB S x) (pI S 1000 x).toInt.toNat t0)).2).2.2 ≤ 400 := ⟨(hdE ok_55).1, (hdE ok_55).2.1⟩
        refine lv_if_ne (tgt := 62) X.1 X.2.1 dX10_readRule_57 (by decide) (fun c_57 => ?_) (fun c_57 => absurd c_57 (by decide))
        refine lv_aload_n X.1 X.2.1 dX10_readRule_62 rfl (lv_at hl 1 rfl) ?_
        refine lv_aload_n X.1 X.2.1 dX10_readRule_63 rfl (lv_at hl 2 rfl) ?_
        have t_58 : pI S_17 600 r1 = v_1 := hk_18.fr.I' (by decide +kernel) ha_r1 ev_1
        have t_59 : pI S_33 600 r1 = v_1 := hk_34.fr.I' (by decide +kernel) t_43 t_58
        have t_60 : pI S_49 600 r1 = v_1 := hk_50.fr.I' (by decide +kernel) t_41 t_59
        have pz_61 : (pI S_49 600 r1).toInt = v_1.toInt := (congrArg Int32.toInt t_60).trans rfl
        have t_62 : At S_49 x 10 := hk_50.fr.at t_39
        have t_63 : At S_49 r1 6 := hk_50.fr.at t_41
        have rpr_64 : ∀ g, g ∈ ruG → pR S_49 g r1 = pR S g r1 := fun g hg => (ru_pR hk_50.fr t_41 (by decide +kernel) g hg).trans (rpr_45 g hg)
        have rl_65 := f_52.2.2.1.1.1
        have rl_66 := f_52.2.2.1.2.1
        refine k_i (rm := { frames := 7, cells := 0, slots := 0, locals := 336 }) (av := [.ref x, .ref r1]) X hw (va_runV (As := [.ref r1]) (rest := []) (cfix X) (k_X10_readAct2 l G cy κ S_49 _ x r1 (csF (tB S x) (pI S 1000 x).toInt.toNat 4 (nxT (tB S x) (pI S 1000 x).toInt.toNat t0)).2 Rl (csL (tB S x) (pI S 1000 x).toInt.toNat 4 (nxT (tB S x) (pI S 1000 x).toInt.toNat t0)) hO_51.1 t_62 t_63 (by rw [tB_fr hG ha_x hO_51.fr (by decide +kernel), hO_51.fr.I' (g := 1000) (by decide +kernel) ha_x rfl]; exact f_52.2.1) f_52.2.2.1 (RuD_to rpr_64 hp_2) (by first | assumption | omega) (by first | assumption | omega)) (cwV 1 X.2.2.2.1 gX10_readRule_X10_readAct rfl rfl rfl (by decide +kernel) ⟨Nat.le_of_ble_eq_true rfl, Nat.le_of_ble_eq_true rfl⟩) (pre_V X hw _ t_62 rfl (by decide) rfl) rfl rfl hl.1 rfl (lv_room (Nat.le_of_ble_eq_true rfl)) dX10_readRule_64 ⟨Nat.le_of_ble_eq_true rfl, Nat.le_of_ble_eq_true rfl⟩) 0 0 (Nat.le_of_ble_eq_true rfl) (Nat.le_of_ble_eq_true rfl) (fun rr_67 S_68 H locs hp hw hfr hnw => ?_)
        obtain ⟨hk_69, hp⟩ := hp
        have hO_70 : Ok MLr S S_68 := hO_51.call hk_69 (by decide +kernel)
        rcases hp with ⟨f_71, er_72⟩ | ⟨f_71, er_72⟩ <;> subst er_72
        · have z_b_73 := trivial
          rw [tB_fr hG ha_x hO_51.fr (by decide +kernel), hO_51.fr.I' (g := 1000) (by decide +kernel) ha_x rfl] at f_71
          have ok_74 := hdI (GB_ok hG ha_x f_71.2.1)
          have ok_75 : ((acF (tB S x) (pI S 1000 x).toInt.toNat (csF (tB S x) (pI S 1000 x).toInt.toNat 4 (nxT (tB S x) (pI S 1000 x).toInt.toNat t0)).2).2).2.1 ≤ ((acF (tB S x) (pI S 1000 x).toInt.toNat (csF (tB S x) (pI S 1000 x).toInt.toNat 4 (nxT (tB S x) (pI S 1000 x).toInt.toNat t0)).2).2).2.2 ∧ ((acF (tB S x) (pI S 1000 x).toInt.toNat (csF (tB S x) (pI S 1000 x).toInt.toNat 4 (nxT (tB S x) (pI S 1000 x).toInt.toNat t0)).2).2).2.2 ≤ 400 := ⟨(hdE ok_74).1, (hdE ok_74).2.1⟩
          have ruk_77 : RuK S S_17 r1 := RuK_tr (RuK_rf S r1) (fun _ _ h => h) (fun _ _ => rfl) ro_20.2
          have axg_79 : ∀ a k, At S a k → At S_17 a k := fun a k h => hk_18.fr.at ((fun _ _ h => h) a k h)
          have ruk_78 : RuK S S_33 r1 := RuK_fr ruk_77 axg_79 hk_34.fr (by decide +kernel)
          have axg_81 : ∀ a k, At S a k → At S_33 a k := fun a k h => hk_34.fr.at (axg_79 a k h)
          have ruk_80 : RuK S S_49 r1 := RuK_tr ruk_78 axg_81 rpr_45 f_52.2.2.2
          have axg_83 : ∀ a k, At S a k → At S_49 a k := fun a k h => hk_50.fr.at (axg_81 a k h)
          have ruk_82 : RuK S S_68 r1 := RuK_tr ruk_80 axg_83 rpr_64 f_71.2.2.2.2
          have ea_76 : rueF (tB S x) (pI S 1000 x).toInt.toNat (pI S 600 r1).toInt.toNat t0 = acF (tB S x) (pI S 1000 x).toInt.toNat (csF (tB S x) (pI S 1000 x).toInt.toNat 4 (nxT (tB S x) (pI S 1000 x).toInt.toNat t0)).2 := (cit_n (fun h => h.1 f_7)).trans ((cit_n (by omega)).trans ((cit_y f_7).trans (cit_y f_52.1)))
          obtain ⟨v_85, ev_85⟩ : ∃ v, pI S_68 600 r1 = v := ⟨_, rfl⟩
          have t_87 : At S_68 r1 6 := hk_69.fr.at t_63
          have rg_86 := gI_6_600 hO_70.1 t_87; rw [ev_85] at rg_86
          have pz_88 : (pI S_68 600 r1).toInt = v_85.toInt := by rw [ev_85]
          have pz_89 : (pI S_68 600 r1).toInt = v_85.toInt := (congrArg Int32.toInt ev_85).trans rfl
          exact ret_z X hw hr hlocks (Nat.le_of_ble_eq_true rfl) (Nat.le_of_ble_eq_true rfl) (by decide) ⟨hO_70, Or.inl ⟨by rw [ea_76, ruV_i f_7]; exact ⟨f_71.1, f_71.2.1, by omega, f_71.2.2.2.1, ruk_82⟩, rfl⟩⟩ dX10_readRule_67
        · have z_b_90 := trivial
          rw [tB_fr hG ha_x hO_51.fr (by decide +kernel), hO_51.fr.I' (g := 1000) (by decide +kernel) ha_x rfl] at f_71
          have ruk_92 : RuK S S_17 r1 := RuK_tr (RuK_rf S r1) (fun _ _ h => h) (fun _ _ => rfl) ro_20.2
          have axg_94 : ∀ a k, At S a k → At S_17 a k := fun a k h => hk_18.fr.at ((fun _ _ h => h) a k h)
          have ruk_93 : RuK S S_33 r1 := RuK_fr ruk_92 axg_94 hk_34.fr (by decide +kernel)
          have axg_96 : ∀ a k, At S a k → At S_33 a k := fun a k h => hk_34.fr.at (axg_94 a k h)
          have ruk_95 : RuK S S_49 r1 := RuK_tr ruk_93 axg_96 rpr_45 f_52.2.2.2
          have axg_98 : ∀ a k, At S a k → At S_49 a k := fun a k h => hk_50.fr.at (axg_96 a k h)
          have ruk_97 : RuK S S_68 r1 := RuK_tr ruk_95 axg_98 rpr_64 f_71.2.2
          have ea_91 : rueF (tB S x) (pI S 1000 x).toInt.toNat (pI S 600 r1).toInt.toNat t0 = acF (tB S x) (pI S 1000 x).toInt.toNat (csF (tB S x) (pI S 1000 x).toInt.toNat 4 (nxT (tB S x) (pI S 1000 x).toInt.toNat t0)).2 := (cit_n (fun h => h.1 f_7)).trans ((cit_n (by omega)).trans ((cit_y f_7).trans (cit_y f_52.1)))
          exact ret_z X hw hr hlocks (Nat.le_of_ble_eq_true rfl) (Nat.le_of_ble_eq_true rfl) (by decide) ⟨hO_70, Or.inr ⟨by rw [ea_91]; exact ⟨f_71.1, f_71.2.1, ruk_97⟩, rfl⟩⟩ dX10_readRule_67
      · have z_b_99 := trivial
        rw [tB_fr hG ha_x hO_35.fr (by decide +kernel), hO_35.fr.I' (g := 1000) (by decide +kernel) ha_x rfl] at f_52
        refine lv_if_ne (tgt := 62) X.1 X.2.1 dX10_readRule_57 (by decide) (fun c_100 => absurd c_100 (by decide)) (fun c_100 => ?_)
        refine lv_iconst (v := 0) X.1 X.2.1 dX10_readRule_60 (by decide) ?_
        have ruk_102 : RuK S S_17 r1 := RuK_tr (RuK_rf S r1) (fun _ _ h => h) (fun _ _ => rfl) ro_20.2
        have axg_104 : ∀ a k, At S a k → At S_17 a k := fun a k h => hk_18.fr.at ((fun _ _ h => h) a k h)
        have ruk_103 : RuK S S_33 r1 := RuK_fr ruk_102 axg_104 hk_34.fr (by decide +kernel)
        have axg_106 : ∀ a k, At S a k → At S_33 a k := fun a k h => hk_34.fr.at (axg_104 a k h)
        have ruk_105 : RuK S S_49 r1 := RuK_tr ruk_103 axg_106 rpr_45 f_52.2.2
        have ea_101 : rueF (tB S x) (pI S 1000 x).toInt.toNat (pI S 600 r1).toInt.toNat t0 = ((csF (tB S x) (pI S 1000 x).toInt.toNat 4 (nxT (tB S x) (pI S 1000 x).toInt.toNat t0)).1, t0) := (cit_n (fun h => h.1 f_7)).trans ((cit_n (by omega)).trans ((cit_y f_7).trans (cit_n f_52.1)))
        exact ret_z X hw hr hlocks (Nat.le_of_ble_eq_true rfl) (Nat.le_of_ble_eq_true rfl) (by decide) ⟨hO_51, Or.inr ⟨by rw [ea_101]; exact ⟨f_52.1, f_52.2.1, ruk_105⟩, rfl⟩⟩ dX10_readRule_61
    · have z_b_107 := trivial
      have k_108 : v_1.toInt ≥ 12 := z_nlt rfl ti_12 c_11
      refine lv_aload_n X.1 X.2.1 dX10_readRule_34 rfl (lv_at hl 1 rfl) ?_
      refine lv_iconst (v := 2) X.1 X.2.1 dX10_readRule_35 (by decide) ?_
      refine k_i (rm := { frames := 1, cells := 0, slots := 0, locals := 48 }) (av := [.ref x, .int 2]) X hw (va_runV (As := [.int 2]) (rest := []) (cfix X) (k_X10_fail2 l G cy κ S _ x (2) (2) hO.1 ha_x ti_2) (cwV 1 X.2.2.2.1 gX10_readRule_X10_fail rfl rfl rfl (by decide +kernel) ⟨Nat.le_of_ble_eq_true rfl, Nat.le_of_ble_eq_true rfl⟩) (pre_V X hw _ ha_x rfl (by decide) rfl) rfl rfl hl.1 rfl (lv_room (Nat.le_of_ble_eq_true rfl)) dX10_readRule_36 ⟨Nat.le_of_ble_eq_true rfl, Nat.le_of_ble_eq_true rfl⟩) 0 0 (Nat.le_of_ble_eq_true rfl) (Nat.le_of_ble_eq_true rfl) (fun rr_109 S_110 H locs hp hw hfr hnw => ?_)
      obtain ⟨hk_111, hp⟩ := hp
      have hO_112 : Ok MLr S S_110 := hO.call hk_111 (by decide +kernel)
      rcases hp with ⟨f_113, er_114⟩ | ⟨f_113, er_114⟩ <;> subst er_114
      · have z_b_115 := trivial
        exact f_113.elim
      · have z_b_116 := trivial
        have ruk_118 : RuK S S_110 r1 := RuK_fr (RuK_rf S r1) (fun _ _ h => h) hk_111.fr (by decide +kernel)
        have ea_117 : rueF (tB S x) (pI S 1000 x).toInt.toNat (pI S 600 r1).toInt.toNat t0 = (2, t0) := (cit_n (fun h => h.1 f_7)).trans (cit_y (by omega))
        exact ret_z X hw hr hlocks (Nat.le_of_ble_eq_true rfl) (Nat.le_of_ble_eq_true rfl) (by decide) ⟨hO_112, Or.inr ⟨by rw [ea_117]; exact ⟨(by decide : (2 : Int) ≠ 0), f_113, ruk_118⟩, rfl⟩⟩ dX10_readRule_39
  · have z_b_119 := trivial
    refine lv_istore_n (lv' := [(2, .int 0), (0, .ref x), (1, .ref r1)]) X.1 X.2.1 dX10_readRule_6 rfl hl (by decide) rfl (fun ls hl => ?_)
    refine lv_iload_n X.1 X.2.1 dX10_readRule_7 rfl (lv_at hl 0 rfl) ?_
    refine lv_if_ne (tgt := 25) X.1 X.2.1 dX10_readRule_8 (by decide) (fun c_120 => absurd c_120 (by decide)) (fun c_120 => ?_)
    refine lv_aload_n X.1 X.2.1 dX10_readRule_11 rfl (lv_at hl 1 rfl) ?_
    refine k_i (rm := { frames := 6, cells := 0, slots := 0, locals := 288 }) (av := [.ref x]) X hw (va_runV (As := []) (rest := []) (cfix X) (k_X10_actAtHand2 l G cy κ S _ x t0 hO.1 ha_x hp_0.1 (by first | assumption | omega) (by first | assumption | omega)) (cwV 0 X.2.2.2.1 gX10_readRule_X10_actAtHand rfl rfl rfl (by decide +kernel) ⟨Nat.le_of_ble_eq_true rfl, Nat.le_of_ble_eq_true rfl⟩) (pre_V X hw _ ha_x rfl (by decide) rfl) rfl rfl hl.1 rfl (lv_room (Nat.le_of_ble_eq_true rfl)) dX10_readRule_12 ⟨Nat.le_of_ble_eq_true rfl, Nat.le_of_ble_eq_true rfl⟩) 0 0 (Nat.le_of_ble_eq_true rfl) (Nat.le_of_ble_eq_true rfl) (fun rr_121 S_122 H locs hp hw hfr hnw => ?_)
    obtain ⟨e2, hp⟩ := hp
    subst e2
    obtain ⟨wh_123, wh_124, wh_125⟩ := hp
    refine lv_iconst (v := (-1)) X.1 X.2.1 dX10_readRule_15 (by decide) ?_
    refine lv_icmp_ne (tgt := 25) X.1 X.2.1 dX10_readRule_16 (by decide) (fun c_126 => ?_) (fun c_126 => ?_)
    · have z_b_127 := trivial
      have k_128 : rr_121.toInt ≠ (-1) := z_ne rfl ti_m1 c_126
      refine lv_aload_n X.1 X.2.1 dX10_readRule_25 rfl (lv_at hl 2 rfl) ?_
      refine r_getI (g := 600) (x := v_1) X hw ha_r1 rfl 0 ev_1 (by decide) rfl inn_X10_readRule_6 (by decide) (X.2.2.2.1 (.fieldLink RX10 28 "SilkMill$Rules" "size" "I") (by decide +kernel)) rfl (gv_600 _ _) dX10_readRule_26 ?_
      refine lv_bipush (v := 12) X.1 X.2.1 dX10_readRule_29 (by decide) ?_
      refine lv_icmp_lt (tgt := 40) X.1 X.2.1 dX10_readRule_31 (by decide) (fun c_129 => ?_) (fun c_129 => ?_)
      · have z_b_130 := trivial
        have k_131 : v_1.toInt < 12 := z_lt rfl ti_12 c_129
        refine lv_aload_n X.1 X.2.1 dX10_readRule_40 rfl (lv_at hl 2 rfl) ?_
        have pz_132 : (pI S 600 r1).toInt = v_1.toInt := (congrArg Int32.toInt ev_1).trans rfl
        have rl_133 := hp_1.1
        refine k_v (rm := { frames := 1, cells := 0, slots := 0, locals := 48 }) (av := [.ref r1]) X hw (va_runV (As := []) (rest := []) (cfix X) (k_X6_openRule2 l G cy κ S _ r1 hO.1 ha_r1 (by omega)) (cwV 0 X.2.2.2.1 gX10_readRule_X6_openRule rfl rfl rfl (by decide +kernel) ⟨Nat.le_of_ble_eq_true rfl, Nat.le_of_ble_eq_true rfl⟩) (pre_V X hw _ ha_r1 rfl (by decide) rfl) rfl rfl hl.1 rfl (lv_room (Nat.le_of_ble_eq_true rfl)) dX10_readRule_41 ⟨Nat.le_of_ble_eq_true rfl, Nat.le_of_ble_eq_true rfl⟩) 0 0 (Nat.le_of_ble_eq_true rfl) (Nat.le_of_ble_eq_true rfl) (fun S_135 H locs hp hw hfr hnw => ?_)
        obtain ⟨hk_136, hp⟩ := hp
        have hO_137 : Ok MLr S S_135 := hO.call hk_136 (by decide +kernel)
        have ro_138 := RuC_open hO.1 ha_r1 hp_1 hp
        refine lv_iload_n X.1 X.2.1 dX10_readRule_44 rfl (lv_at hl 0 rfl) ?_
        refine lv_if_eq (tgt := 62) X.1 X.2.1 dX10_readRule_45 (by decide) (fun c_139 => ?_) (fun c_139 => absurd c_139 (by decide))
        refine lv_aload_n X.1 X.2.1 dX10_readRule_62 rfl (lv_at hl 1 rfl) ?_
        refine lv_aload_n X.1 X.2.1 dX10_readRule_63 rfl (lv_at hl 2 rfl) ?_
        have t_140 : pI S_135 600 r1 = v_1 := hk_136.fr.I' (by decide +kernel) ha_r1 ev_1
        have pz_141 : (pI S_135 600 r1).toInt = v_1.toInt := (congrArg Int32.toInt t_140).trans rfl
        have t_142 : At S_135 x 10 := hk_136.fr.at ha_x
        have t_143 : At S_135 r1 6 := hk_136.fr.at ha_r1
        have gb_144 := GB_fr hp_0 ha_x hk_136.fr (by decide +kernel)
        have rpr_145 : ∀ g, g ∈ ruG → pR S_135 g r1 = pR S g r1 := fun g hg => (ru_pR hk_136.fr ha_r1 (by decide +kernel) g hg).trans ((fun _ _ => rfl) g hg)
        have rl_146 := ro_138.1.1.1
        have rl_147 := ro_138.1.2.1
        refine k_i (rm := { frames := 7, cells := 0, slots := 0, locals := 336 }) (av := [.ref x, .ref r1]) X hw (va_runV (As := [.ref r1]) (rest := []) (cfix X) (k_X10_readAct2 l G cy κ S_135 _ x r1 t0 Rl [] hO_137.1 t_142 t_143 (by rw [tB_fr hG ha_x hO_137.fr (by decide +kernel), hO_137.fr.I' (g := 1000) (by decide +kernel) ha_x rfl]; exact gb_144) ro_138.1 (RuD_to rpr_145 hp_2) (by first | assumption | omega) (by first | assumption | omega)) (cwV 1 X.2.2.2.1 gX10_readRule_X10_readAct rfl rfl rfl (by decide +kernel) ⟨Nat.le_of_ble_eq_true rfl, Nat.le_of_ble_eq_true rfl⟩) (pre_V X hw _ t_142 rfl (by decide) rfl) rfl rfl hl.1 rfl (lv_room (Nat.le_of_ble_eq_true rfl)) dX10_readRule_64 ⟨Nat.le_of_ble_eq_true rfl, Nat.le_of_ble_eq_true rfl⟩) 0 0 (Nat.le_of_ble_eq_true rfl) (Nat.le_of_ble_eq_true rfl) (fun rr_148 S_149 H locs hp hw hfr hnw => ?_)
        obtain ⟨hk_150, hp⟩ := hp
        have hO_151 : Ok MLr S S_149 := hO_137.call hk_150 (by decide +kernel)
        rcases hp with ⟨f_152, er_153⟩ | ⟨f_152, er_153⟩ <;> subst er_153
        · have z_b_154 := trivial
          rw [tB_fr hG ha_x hO_137.fr (by decide +kernel), hO_137.fr.I' (g := 1000) (by decide +kernel) ha_x rfl] at f_152
          have ok_155 := hdI (GB_ok hG ha_x f_152.2.1)
          have ok_156 : ((acF (tB S x) (pI S 1000 x).toInt.toNat t0).2).2.1 ≤ ((acF (tB S x) (pI S 1000 x).toInt.toNat t0).2).2.2 ∧ ((acF (tB S x) (pI S 1000 x).toInt.toNat t0).2).2.2 ≤ 400 := ⟨(hdE ok_155).1, (hdE ok_155).2.1⟩
          have ruk_158 : RuK S S_135 r1 := RuK_tr (RuK_rf S r1) (fun _ _ h => h) (fun _ _ => rfl) ro_138.2
          have axg_160 : ∀ a k, At S a k → At S_135 a k := fun a k h => hk_136.fr.at ((fun _ _ h => h) a k h)
          have ruk_159 : RuK S S_149 r1 := RuK_tr ruk_158 axg_160 rpr_145 f_152.2.2.2.2
          have ea_157 : rueF (tB S x) (pI S 1000 x).toInt.toNat (pI S 600 r1).toInt.toNat t0 = acF (tB S x) (pI S 1000 x).toInt.toNat t0 := (cit_n (fun h => by omega)).trans ((cit_n (by omega)).trans (cit_n f_7))
          obtain ⟨v_162, ev_162⟩ : ∃ v, pI S_149 600 r1 = v := ⟨_, rfl⟩
          have t_164 : At S_149 r1 6 := hk_150.fr.at t_143
          have rg_163 := gI_6_600 hO_151.1 t_164; rw [ev_162] at rg_163
          have pz_165 : (pI S_149 600 r1).toInt = v_162.toInt := by rw [ev_162]
          have pz_166 : (pI S_149 600 r1).toInt = v_162.toInt := (congrArg Int32.toInt ev_162).trans rfl
          exact ret_z X hw hr hlocks (Nat.le_of_ble_eq_true rfl) (Nat.le_of_ble_eq_true rfl) (by decide) ⟨hO_151, Or.inl ⟨by rw [ea_157, ruV_n f_7]; exact ⟨f_152.1, f_152.2.1, by omega, f_152.2.2.2.1, ruk_159⟩, rfl⟩⟩ dX10_readRule_67
        · have z_b_167 := trivial
          rw [tB_fr hG ha_x hO_137.fr (by decide +kernel), hO_137.fr.I' (g := 1000) (by decide +kernel) ha_x rfl] at f_152
          have ruk_169 : RuK S S_135 r1 := RuK_tr (RuK_rf S r1) (fun _ _ h => h) (fun _ _ => rfl) ro_138.2
          have axg_171 : ∀ a k, At S a k → At S_135 a k := fun a k h => hk_136.fr.at ((fun _ _ h => h) a k h)
          have ruk_170 : RuK S S_149 r1 := RuK_tr ruk_169 axg_171 rpr_145 f_152.2.2
          have ea_168 : rueF (tB S x) (pI S 1000 x).toInt.toNat (pI S 600 r1).toInt.toNat t0 = acF (tB S x) (pI S 1000 x).toInt.toNat t0 := (cit_n (fun h => by omega)).trans ((cit_n (by omega)).trans (cit_n f_7))
          exact ret_z X hw hr hlocks (Nat.le_of_ble_eq_true rfl) (Nat.le_of_ble_eq_true rfl) (by decide) ⟨hO_151, Or.inr ⟨by rw [ea_168]; exact ⟨f_152.1, f_152.2.1, ruk_170⟩, rfl⟩⟩ dX10_readRule_67
      · have z_b_172 := trivial
        have k_173 : v_1.toInt ≥ 12 := z_nlt rfl ti_12 c_129
        refine lv_aload_n X.1 X.2.1 dX10_readRule_34 rfl (lv_at hl 1 rfl) ?_
        refine lv_iconst (v := 2) X.1 X.2.1 dX10_readRule_35 (by decide) ?_
        refine k_i (rm := { frames := 1, cells := 0, slots := 0, locals := 48 }) (av := [.ref x, .int 2]) X hw (va_runV (As := [.int 2]) (rest := []) (cfix X) (k_X10_fail2 l G cy κ S _ x (2) (2) hO.1 ha_x ti_2) (cwV 1 X.2.2.2.1 gX10_readRule_X10_fail rfl rfl rfl (by decide +kernel) ⟨Nat.le_of_ble_eq_true rfl, Nat.le_of_ble_eq_true rfl⟩) (pre_V X hw _ ha_x rfl (by decide) rfl) rfl rfl hl.1 rfl (lv_room (Nat.le_of_ble_eq_true rfl)) dX10_readRule_36 ⟨Nat.le_of_ble_eq_true rfl, Nat.le_of_ble_eq_true rfl⟩) 0 0 (Nat.le_of_ble_eq_true rfl) (Nat.le_of_ble_eq_true rfl) (fun rr_174 S_175 H locs hp hw hfr hnw => ?_)
        obtain ⟨hk_176, hp⟩ := hp
        have hO_177 : Ok MLr S S_175 := hO.call hk_176 (by decide +kernel)
        rcases hp with ⟨f_178, er_179⟩ | ⟨f_178, er_179⟩ <;> subst er_179
        · have z_b_180 := trivial
          exact f_178.elim
        · have z_b_181 := trivial
          have ruk_183 : RuK S S_175 r1 := RuK_fr (RuK_rf S r1) (fun _ _ h => h) hk_176.fr (by decide +kernel)
          have ea_182 : rueF (tB S x) (pI S 1000 x).toInt.toNat (pI S 600 r1).toInt.toNat t0 = (2, t0) := (cit_n (fun h => by omega)).trans (cit_y (by omega))
          exact ret_z X hw hr hlocks (Nat.le_of_ble_eq_true rfl) (Nat.le_of_ble_eq_true rfl) (by decide) ⟨hO_177, Or.inr ⟨by rw [ea_182]; exact ⟨(by decide : (2 : Int) ≠ 0), f_178, ruk_183⟩, rfl⟩⟩ dX10_readRule_39
    · have z_b_184 := trivial
      have k_185 : rr_121.toInt = (-1) := z_eq rfl ti_m1 c_126
      refine lv_aload_n X.1 X.2.1 dX10_readRule_19 rfl (lv_at hl 1 rfl) ?_
      refine lv_iconst (v := 1) X.1 X.2.1 dX10_readRule_20 (by decide) ?_
      refine k_i (rm := { frames := 1, cells := 0, slots := 0, locals := 48 }) (av := [.ref x, .int 1]) X hw (va_runV (As := [.int 1]) (rest := []) (cfix X) (k_X10_fail2 l G cy κ S _ x (1) (1) hO.1 ha_x ti_1) (cwV 1 X.2.2.2.1 gX10_readRule_X10_fail rfl rfl rfl (by decide +kernel) ⟨Nat.le_of_ble_eq_true rfl, Nat.le_of_ble_eq_true rfl⟩) (pre_V X hw _ ha_x rfl (by decide) rfl) rfl rfl hl.1 rfl (lv_room (Nat.le_of_ble_eq_true rfl)) dX10_readRule_21 ⟨Nat.le_of_ble_eq_true rfl, Nat.le_of_ble_eq_true rfl⟩) 0 0 (Nat.le_of_ble_eq_true rfl) (Nat.le_of_ble_eq_true rfl) (fun rr_186 S_187 H locs hp hw hfr hnw => ?_)
      obtain ⟨hk_188, hp⟩ := hp
      have hO_189 : Ok MLr S S_187 := hO.call hk_188 (by decide +kernel)
      rcases hp with ⟨f_190, er_191⟩ | ⟨f_190, er_191⟩ <;> subst er_191
      · have z_b_192 := trivial
        exact f_190.elim
      · have z_b_193 := trivial
        have ruk_195 : RuK S S_187 r1 := RuK_fr (RuK_rf S r1) (fun _ _ h => h) hk_188.fr (by decide +kernel)
        have ea_194 : rueF (tB S x) (pI S 1000 x).toInt.toNat (pI S 600 r1).toInt.toNat t0 = (1, t0) := cit_y ⟨f_7, by omega⟩
        exact ret_z X hw hr hlocks (Nat.le_of_ble_eq_true rfl) (Nat.le_of_ble_eq_true rfl) (by decide) ⟨hO_189, Or.inr ⟨by rw [ea_194]; exact ⟨(by decide : (1 : Int) ≠ 0), f_190, ruk_195⟩, rfl⟩⟩ dX10_readRule_24
