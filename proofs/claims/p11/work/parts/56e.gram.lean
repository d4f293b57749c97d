
set_option maxHeartbeats 4000000 in
set_option maxRecDepth 100000 in
theorem k_X10_readRule2 (l : Launch) (G : va_G) (cy : Nat → ClassId) (κ : Nat → Nat) (S : PS) (sz : Nat) (x : Nat) (r1 : Nat) (t0 : Tk) (hG : GX S) (ha_x : At S x 10) (ha_r1 : At S r1 6) (hp_0 : GB (tB S x) (pI S 1000 x).toInt.toNat S x t0) : Ci l yX10_readRule wsX10_readRule ({ frames := 9, cells := 0, slots := 0, locals := 432 }) G cy κ S sz [.ref x, .ref r1] (fun (r : Int32) (S9 : PS) => Ok MLr S S9 ∧ ((((rueF (tB S x) (pI S 1000 x).toInt.toNat (pI S 600 r1).toInt.toNat t0).1 = 0 ∧ GB (tB S x) (pI S 1000 x).toInt.toNat S9 x (rueF (tB S x) (pI S 1000 x).toInt.toNat (pI S 600 r1).toInt.toNat t0).2 ∧ (pI S9 600 r1).toInt = (pI S 600 r1).toInt + 1) ∧ r = 1) ∨ (((rueF (tB S x) (pI S 1000 x).toInt.toNat (pI S 600 r1).toInt.toNat t0).1 ≠ 0 ∧ (pI S9 1001 x).toInt = (rueF (tB S x) (pI S 1000 x).toInt.toNat (pI S 600 r1).toInt.toNat t0).1) ∧ r = 0))) := by
  refine ent_m (cc := cX10_readRule) (maxL := 3) (ret := (some .boolean)) (by decide) rfl (Nat.le_of_ble_eq_true rfl) ?_
  intro p e s m below meth c ls X hr hlocks hin hw hl hsz
  subst hsz
  have X : Cx p c cX10_readRule 3 s [.ref x, .ref r1].toArray wsX10_readRule RX10 m G cy κ (AS S s.heap.size) := X
  have hl : lv_has ls 3 [(0, .ref x), (1, .ref r1)] := hl
  have hO : Ok MLr S S := Ok.rf hG
  have hok := hdI (GB_ok hG ha_x hp_0)
  have hok1 : t0.2.1 ≤ t0.2.2 ∧ t0.2.2 ≤ 400 := ⟨(hdE hok).1, (hdE hok).2.1⟩
  obtain ⟨v_1, ev_1⟩ : ∃ v, pI S 600 r1 = v := ⟨_, rfl⟩
  have rg_2 := gI_6_600 hO.1 ha_r1; rw [ev_1] at rg_2
  have pz_3 : (pI S 600 r1).toInt = v_1.toInt := by rw [ev_1]
  have pz_4 : (pI S 600 r1).toInt = v_1.toInt := (congrArg Int32.toInt ev_1).trans rfl
  refine lv_aload_n X.1 X.2.1 dX10_readRule_0 rfl (lv_at hl 0 rfl) ?_
  refine va_ldcS (q := κ (100 + 2)) X.1 X.2.1 X.2.2.2.2.1 (show vk_R RX10 44 "if" (κ (100 + 2)) s from (X.2.2.2.2.2.2.2.2.2.2.2.2.2.2 2 (by decide)).1) dX10_readRule_1 ?_
  refine k_i (rm := { frames := 5, cells := 0, slots := 0, locals := 240 }) (av := [.ref x, .ref (κ (100 + 2))]) X hw (va_runV (As := [.ref (κ (100 + 2))]) (rest := []) (cfix X) (k_X10_isWord2 l G cy κ S _ x 2 t0 hO.1 ha_x (by decide) hp_0.1 (by first | assumption | omega) (by first | assumption | omega)) (cwV 1 X.2.2.2.1 gX10_readRule_X10_isWord rfl rfl rfl (by decide +kernel) ⟨Nat.le_of_ble_eq_true rfl, Nat.le_of_ble_eq_true rfl⟩) (pre_V X hw _ ha_x rfl (by decide) rfl) rfl rfl hl.1 rfl (lv_room (Nat.le_of_ble_eq_true rfl)) dX10_readRule_3 ⟨Nat.le_of_ble_eq_true rfl, Nat.le_of_ble_eq_true rfl⟩) 0 0 (Nat.le_of_ble_eq_true rfl) (Nat.le_of_ble_eq_true rfl) (fun rr_5 S_6 H locs hp hw hfr hnw => ?_)
  obtain ⟨e2, hp⟩ := hp
  subst e2
  rcases hp with ⟨f_7, er_8⟩ | ⟨f_7, er_8⟩ <;> subst er_8
  · have z_b_9 := trivial
    refine lv_istore_n (lv' := [(2, .int 1), (0, .ref x), (1, .ref r1)]) X.1 X.2.1 dX10_readRule_6 rfl hl (by decide) rfl (fun ls hl => ?_)
    refine lv_iload_n X.1 X.2.1 dX10_readRule_7 rfl (lv_at hl 0 rfl) ?_
    refine lv_if_ne (tgt := 25) X.1 X.2.1 dX10_readRule_8 (by decide) (fun c_10 => ?_) (fun c_10 => absurd c_10 (by decide))
    refine lv_aload_n X.1 X.2.1 dX10_readRule_25 rfl (lv_at hl 2 rfl) ?_
    refine r_getI (g := 600) (x := v_1) X hw ha_r1 rfl 0 ev_1 (by decide) rfl inn_X10_readRule_6 (by decide) (X.2.2.2.1 (.fieldLink RX10 28 "SilkMill$Rules" "size" "I") (by decide +kernel)) rfl (gv_600 _ _) dX10_readRule_26 ?_
    refine lv_bipush (v := 12) X.1 X.2.1 dX10_readRule_29 (by decide) ?_
    refine lv_icmp_lt (tgt := 40) X.1 X.2.1 dX10_readRule_31 (by decide) (fun c_11 => ?_) (fun c_11 => ?_)
    · have z_b_12 := trivial
      have k_13 : v_1.toInt < 12 := z_lt rfl ti_12 c_11
      refine lv_aload_n X.1 X.2.1 dX10_readRule_40 rfl (lv_at hl 2 rfl) ?_
      refine k_v (rm := { frames := 1, cells := 0, slots := 0, locals := 48 }) (av := [.ref r1]) X hw (va_runV (As := []) (rest := []) (cfix X) (k_X6_openRule2 l G cy κ S _ r1 hO.1 ha_r1) (cwV 0 X.2.2.2.1 gX10_readRule_X6_openRule rfl rfl rfl (by decide +kernel) ⟨Nat.le_of_ble_eq_true rfl, Nat.le_of_ble_eq_true rfl⟩) (pre_V X hw _ ha_r1 rfl (by decide) rfl) rfl rfl hl.1 rfl (lv_room (Nat.le_of_ble_eq_true rfl)) dX10_readRule_41 ⟨Nat.le_of_ble_eq_true rfl, Nat.le_of_ble_eq_true rfl⟩) 0 0 (Nat.le_of_ble_eq_true rfl) (Nat.le_of_ble_eq_true rfl) (fun S_15 H locs hp hw hfr hnw => ?_)
      obtain ⟨hk_16, hp⟩ := hp
      have hO_17 : Ok MLr S S_15 := hO.call hk_16 (by decide +kernel)
      refine lv_iload_n X.1 X.2.1 dX10_readRule_44 rfl (lv_at hl 0 rfl) ?_
      refine lv_if_eq (tgt := 62) X.1 X.2.1 dX10_readRule_45 (by decide) (fun c_18 => absurd c_18 (by decide)) (fun c_18 => ?_)
      refine lv_aload_n X.1 X.2.1 dX10_readRule_48 rfl (lv_at hl 1 rfl) ?_
      have t_19 : At S_15 x 10 := hk_16.fr.at ha_x
      have gb_20 := GB_fr hp_0 ha_x hk_16.fr (by decide +kernel)
      have ok_21 := hdI (GB_ok hG ha_x gb_20)
      have ok_22 : (t0).2.1 ≤ (t0).2.2 ∧ (t0).2.2 ≤ 400 := ⟨(hdE ok_21).1, (hdE ok_21).2.1⟩
      obtain ⟨v_23, ev_23⟩ : ∃ v, pI S_15 1006 x = v := ⟨_, rfl⟩
      have rg_25 := And.intro (z_lo v_23) (z_hi v_23)
      have pz_26 : (pI S_15 1006 x).toInt = v_23.toInt := by rw [ev_23]
      have pz_27 : (pI S_15 1006 x).toInt = v_23.toInt := (congrArg Int32.toInt ev_23).trans rfl
      have te_28 := gb_20.1.2.2
      refine k_v (rm := { frames := 2, cells := 0, slots := 0, locals := 96 }) (av := [.ref x]) X hw (va_runV (As := []) (rest := []) (cfix X) (k_X10_advance2 l G cy κ S_15 _ x hO_17.1 t_19 (by omega) (by omega)) (cwV 0 X.2.2.2.1 gX10_readRule_X10_advance rfl rfl rfl (by decide +kernel) ⟨Nat.le_of_ble_eq_true rfl, Nat.le_of_ble_eq_true rfl⟩) (pre_V X hw _ t_19 rfl (by decide) rfl) rfl rfl hl.1 rfl (lv_room (Nat.le_of_ble_eq_true rfl)) dX10_readRule_49 ⟨Nat.le_of_ble_eq_true rfl, Nat.le_of_ble_eq_true rfl⟩) 0 0 (Nat.le_of_ble_eq_true rfl) (Nat.le_of_ble_eq_true rfl) (fun S_30 H locs hp hw hfr hnw => ?_)
      obtain ⟨hk_31, hp⟩ := hp
      have hO_32 : Ok MLr S S_30 := hO_17.call hk_31 (by decide +kernel)
      have gb_33 : GB (tB S x) (pI S 1000 x).toInt.toNat S_30 x (nxT (tB S x) (pI S 1000 x).toInt.toNat t0) := GB_adv gb_20 (tB_fr hG ha_x hO_17.fr (by decide +kernel)) (by rw [hO_17.fr.I' (g := 1000) (by decide +kernel) ha_x rfl]) (by omega) hp.1
      have ok_34 := hdI (GB_ok hG ha_x gb_33)
      have ok_35 : ((nxT (tB S x) (pI S 1000 x).toInt.toNat t0)).2.1 ≤ ((nxT (tB S x) (pI S 1000 x).toInt.toNat t0)).2.2 ∧ ((nxT (tB S x) (pI S 1000 x).toInt.toNat t0)).2.2 ≤ 400 := ⟨(hdE ok_34).1, (hdE ok_34).2.1⟩
      refine lv_aload_n X.1 X.2.1 dX10_readRule_52 rfl (lv_at hl 1 rfl) ?_
      refine lv_aload_n X.1 X.2.1 dX10_readRule_53 rfl (lv_at hl 2 rfl) ?_
      have t_36 : At S_30 x 10 := hk_31.fr.at t_19
      have t_37 : At S_15 r1 6 := hk_16.fr.at ha_r1
      have t_38 : At S_30 r1 6 := hk_31.fr.at t_37
      refine k_i (rm := { frames := 8, cells := 0, slots := 0, locals := 384 }) (av := [.ref x, .ref r1]) X hw (va_runV (As := [.ref r1]) (rest := []) (cfix X) (k_X10_readConditions2 l G cy κ S_30 _ x r1 (nxT (tB S x) (pI S 1000 x).toInt.toNat t0) hO_32.1 t_36 t_38 (by rw [tB_fr hG ha_x hO_32.fr (by decide +kernel), hO_32.fr.I' (g := 1000) (by decide +kernel) ha_x rfl]; exact gb_33)) (cwV 1 X.2.2.2.1 gX10_readRule_X10_readConditions rfl rfl rfl (by decide +kernel) ⟨Nat.le_of_ble_eq_true rfl, Nat.le_of_ble_eq_true rfl⟩) (pre_V X hw _ t_36 rfl (by decide) rfl) rfl rfl hl.1 rfl (lv_room (Nat.le_of_ble_eq_true rfl)) dX10_readRule_54 ⟨Nat.le_of_ble_eq_true rfl, Nat.le_of_ble_eq_true rfl⟩) 0 0 (Nat.le_of_ble_eq_true rfl) (Nat.le_of_ble_eq_true rfl) (fun rr_39 S_40 H locs hp hw hfr hnw => ?_)
      obtain ⟨hk_41, hp⟩ := hp
      have hO_42 : Ok MLr S S_40 := hO_32.call hk_41 (by decide +kernel)
      rcases hp with ⟨f_43, er_44⟩ | ⟨f_43, er_44⟩ <;> subst er_44
      · have z_b_45 := trivial
        rw [tB_fr hG ha_x hO_32.fr (by decide +kernel), hO_32.fr.I' (g := 1000) (by decide +kernel) ha_x rfl] at f_43
        have ok_46 := hdI (GB_ok hG ha_x f_43.2)
        have ok_47 : ((csF (tB S x) (pI S 1000 x).toInt.toNat 4 (nxT (tB S x) (pI S 1000 x).toInt.toNat t0)).2).2.1 ≤ ((csF (tB S x) (pI S 1000 x).toInt.toNat 4 (nxT (tB S x) (pI S 1000 x).toInt.toNat t0)).2).2.2 ∧ ((csF (tB S x) (pI S 1000 x).toInt.toNat 4 (nxT (tB S x) (pI S 1000 x).toInt.toNat t0)).2).2.2 ≤ 400 := ⟨(hdE ok_46).1, (hdE ok_46).2.1⟩
        refine lv_if_ne (tgt := 62) X.1 X.2.1 dX10_readRule_57 (by decide) (fun c_48 => ?_) (fun c_48 => absurd c_48 (by decide))
        refine lv_aload_n X.1 X.2.1 dX10_readRule_62 rfl (lv_at hl 1 rfl) ?_
        refine lv_aload_n X.1 X.2.1 dX10_readRule_63 rfl (lv_at hl 2 rfl) ?_
        have t_49 : pI S_15 600 r1 = v_1 := hk_16.fr.I' (by decide +kernel) ha_r1 ev_1
        have t_51 : At S_15 r1 6 := hk_16.fr.at ha_r1
        have t_50 : pI S_30 600 r1 = v_1 := hk_31.fr.I' (by decide +kernel) t_51 t_49
        have t_52 : pI S_40 600 r1 = v_1 := hk_41.fr.I' (by decide +kernel) t_38 t_50
        have pz_53 : (pI S_40 600 r1).toInt = v_1.toInt := (congrArg Int32.toInt t_52).trans rfl
        have t_54 : At S_40 x 10 := hk_41.fr.at t_36
        have t_55 : At S_40 r1 6 := hk_41.fr.at t_38
        refine k_i (rm := { frames := 7, cells := 0, slots := 0, locals := 336 }) (av := [.ref x, .ref r1]) X hw (va_runV (As := [.ref r1]) (rest := []) (cfix X) (k_X10_readAct2 l G cy κ S_40 _ x r1 (csF (tB S x) (pI S 1000 x).toInt.toNat 4 (nxT (tB S x) (pI S 1000 x).toInt.toNat t0)).2 hO_42.1 t_54 t_55 (by rw [tB_fr hG ha_x hO_42.fr (by decide +kernel), hO_42.fr.I' (g := 1000) (by decide +kernel) ha_x rfl]; exact f_43.2) (by omega)) (cwV 1 X.2.2.2.1 gX10_readRule_X10_readAct rfl rfl rfl (by decide +kernel) ⟨Nat.le_of_ble_eq_true rfl, Nat.le_of_ble_eq_true rfl⟩) (pre_V X hw _ t_54 rfl (by decide) rfl) rfl rfl hl.1 rfl (lv_room (Nat.le_of_ble_eq_true rfl)) dX10_readRule_64 ⟨Nat.le_of_ble_eq_true rfl, Nat.le_of_ble_eq_true rfl⟩) 0 0 (Nat.le_of_ble_eq_true rfl) (Nat.le_of_ble_eq_true rfl) (fun rr_56 S_57 H locs hp hw hfr hnw => ?_)
        obtain ⟨hk_58, hp⟩ := hp
        have hO_59 : Ok MLr S S_57 := hO_42.call hk_58 (by decide +kernel)
        rcases hp with ⟨f_60, er_61⟩ | ⟨f_60, er_61⟩ <;> subst er_61
        · have z_b_62 := trivial
          rw [tB_fr hG ha_x hO_42.fr (by decide +kernel), hO_42.fr.I' (g := 1000) (by decide +kernel) ha_x rfl] at f_60
          have ok_63 := hdI (GB_ok hG ha_x f_60.2.1)
          have ok_64 : ((acF (tB S x) (pI S 1000 x).toInt.toNat (csF (tB S x) (pI S 1000 x).toInt.toNat 4 (nxT (tB S x) (pI S 1000 x).toInt.toNat t0)).2).2).2.1 ≤ ((acF (tB S x) (pI S 1000 x).toInt.toNat (csF (tB S x) (pI S 1000 x).toInt.toNat 4 (nxT (tB S x) (pI S 1000 x).toInt.toNat t0)).2).2).2.2 ∧ ((acF (tB S x) (pI S 1000 x).toInt.toNat (csF (tB S x) (pI S 1000 x).toInt.toNat 4 (nxT (tB S x) (pI S 1000 x).toInt.toNat t0)).2).2).2.2 ≤ 400 := ⟨(hdE ok_63).1, (hdE ok_63).2.1⟩
          have ea_65 : rueF (tB S x) (pI S 1000 x).toInt.toNat (pI S 600 r1).toInt.toNat t0 = acF (tB S x) (pI S 1000 x).toInt.toNat (csF (tB S x) (pI S 1000 x).toInt.toNat 4 (nxT (tB S x) (pI S 1000 x).toInt.toNat t0)).2 := (cit_n (fun h => h.1 f_7)).trans ((cit_n (by omega)).trans ((cit_y f_7).trans (cit_y f_43.1)))
          obtain ⟨v_67, ev_67⟩ : ∃ v, pI S_57 600 r1 = v := ⟨_, rfl⟩
          have t_69 : At S_57 r1 6 := hk_58.fr.at t_55
          have rg_68 := gI_6_600 hO_59.1 t_69; rw [ev_67] at rg_68
          have pz_70 : (pI S_57 600 r1).toInt = v_67.toInt := by rw [ev_67]
          have pz_71 : (pI S_57 600 r1).toInt = v_67.toInt := (congrArg Int32.toInt ev_67).trans rfl
          exact ret_z X hw hr hlocks (Nat.le_of_ble_eq_true rfl) (Nat.le_of_ble_eq_true rfl) (by decide) ⟨hO_59, Or.inl ⟨by rw [ea_65]; exact ⟨f_60.1, f_60.2.1, by omega⟩, rfl⟩⟩ dX10_readRule_67
        · have z_b_72 := trivial
          rw [tB_fr hG ha_x hO_42.fr (by decide +kernel), hO_42.fr.I' (g := 1000) (by decide +kernel) ha_x rfl] at f_60
          have ea_73 : rueF (tB S x) (pI S 1000 x).toInt.toNat (pI S 600 r1).toInt.toNat t0 = acF (tB S x) (pI S 1000 x).toInt.toNat (csF (tB S x) (pI S 1000 x).toInt.toNat 4 (nxT (tB S x) (pI S 1000 x).toInt.toNat t0)).2 := (cit_n (fun h => h.1 f_7)).trans ((cit_n (by omega)).trans ((cit_y f_7).trans (cit_y f_43.1)))
          exact ret_z X hw hr hlocks (Nat.le_of_ble_eq_true rfl) (Nat.le_of_ble_eq_true rfl) (by decide) ⟨hO_59, Or.inr ⟨by rw [ea_73]; exact ⟨f_60.1, f_60.2⟩, rfl⟩⟩ dX10_readRule_67
      · have z_b_74 := trivial
        rw [tB_fr hG ha_x hO_32.fr (by decide +kernel), hO_32.fr.I' (g := 1000) (by decide +kernel) ha_x rfl] at f_43
        refine lv_if_ne (tgt := 62) X.1 X.2.1 dX10_readRule_57 (by decide) (fun c_75 => absurd c_75 (by decide)) (fun c_75 => ?_)
        refine lv_iconst (v := 0) X.1 X.2.1 dX10_readRule_60 (by decide) ?_
        have ea_76 : rueF (tB S x) (pI S 1000 x).toInt.toNat (pI S 600 r1).toInt.toNat t0 = ((csF (tB S x) (pI S 1000 x).toInt.toNat 4 (nxT (tB S x) (pI S 1000 x).toInt.toNat t0)).1, t0) := (cit_n (fun h => h.1 f_7)).trans ((cit_n (by omega)).trans ((cit_y f_7).trans (cit_n f_43.1)))
        exact ret_z X hw hr hlocks (Nat.le_of_ble_eq_true rfl) (Nat.le_of_ble_eq_true rfl) (by decide) ⟨hO_42, Or.inr ⟨by rw [ea_76]; exact ⟨f_43.1, f_43.2⟩, rfl⟩⟩ dX10_readRule_61
    · have z_b_77 := trivial
      have k_78 : v_1.toInt ≥ 12 := z_nlt rfl ti_12 c_11
      refine lv_aload_n X.1 X.2.1 dX10_readRule_34 rfl (lv_at hl 1 rfl) ?_
      refine lv_iconst (v := 2) X.1 X.2.1 dX10_readRule_35 (by decide) ?_
      refine k_i (rm := { frames := 1, cells := 0, slots := 0, locals := 48 }) (av := [.ref x, .int 2]) X hw (va_runV (As := [.int 2]) (rest := []) (cfix X) (k_X10_fail2 l G cy κ S _ x (2) (2) hO.1 ha_x ti_2) (cwV 1 X.2.2.2.1 gX10_readRule_X10_fail rfl rfl rfl (by decide +kernel) ⟨Nat.le_of_ble_eq_true rfl, Nat.le_of_ble_eq_true rfl⟩) (pre_V X hw _ ha_x rfl (by decide) rfl) rfl rfl hl.1 rfl (lv_room (Nat.le_of_ble_eq_true rfl)) dX10_readRule_36 ⟨Nat.le_of_ble_eq_true rfl, Nat.le_of_ble_eq_true rfl⟩) 0 0 (Nat.le_of_ble_eq_true rfl) (Nat.le_of_ble_eq_true rfl) (fun rr_79 S_80 H locs hp hw hfr hnw => ?_)
      obtain ⟨hk_81, hp⟩ := hp
      have hO_82 : Ok MLr S S_80 := hO.call hk_81 (by decide +kernel)
      rcases hp with ⟨f_83, er_84⟩ | ⟨f_83, er_84⟩ <;> subst er_84
      · have z_b_85 := trivial
        exact f_83.elim
      · have z_b_86 := trivial
        have ea_87 : rueF (tB S x) (pI S 1000 x).toInt.toNat (pI S 600 r1).toInt.toNat t0 = (2, t0) := (cit_n (fun h => h.1 f_7)).trans (cit_y (by omega))
        exact ret_z X hw hr hlocks (Nat.le_of_ble_eq_true rfl) (Nat.le_of_ble_eq_true rfl) (by decide) ⟨hO_82, Or.inr ⟨by rw [ea_87]; exact ⟨(by decide : (2 : Int) ≠ 0), f_83⟩, rfl⟩⟩ dX10_readRule_39
  · have z_b_88 := trivial
    refine lv_istore_n (lv' := [(2, .int 0), (0, .ref x), (1, .ref r1)]) X.1 X.2.1 dX10_readRule_6 rfl hl (by decide) rfl (fun ls hl => ?_)
    refine lv_iload_n X.1 X.2.1 dX10_readRule_7 rfl (lv_at hl 0 rfl) ?_
    refine lv_if_ne (tgt := 25) X.1 X.2.1 dX10_readRule_8 (by decide) (fun c_89 => absurd c_89 (by decide)) (fun c_89 => ?_)
    refine lv_aload_n X.1 X.2.1 dX10_readRule_11 rfl (lv_at hl 1 rfl) ?_
    refine k_i (rm := { frames := 6, cells := 0, slots := 0, locals := 288 }) (av := [.ref x]) X hw (va_runV (As := []) (rest := []) (cfix X) (k_X10_actAtHand2 l G cy κ S _ x t0 hO.1 ha_x hp_0.1 (by first | assumption | omega) (by first | assumption | omega)) (cwV 0 X.2.2.2.1 gX10_readRule_X10_actAtHand rfl rfl rfl (by decide +kernel) ⟨Nat.le_of_ble_eq_true rfl, Nat.le_of_ble_eq_true rfl⟩) (pre_V X hw _ ha_x rfl (by decide) rfl) rfl rfl hl.1 rfl (lv_room (Nat.le_of_ble_eq_true rfl)) dX10_readRule_12 ⟨Nat.le_of_ble_eq_true rfl, Nat.le_of_ble_eq_true rfl⟩) 0 0 (Nat.le_of_ble_eq_true rfl) (Nat.le_of_ble_eq_true rfl) (fun rr_90 S_91 H locs hp hw hfr hnw => ?_)
    obtain ⟨e2, hp⟩ := hp
    subst e2
    obtain ⟨wh_92, wh_93, wh_94⟩ := hp
    refine lv_iconst (v := (-1)) X.1 X.2.1 dX10_readRule_15 (by decide) ?_
    refine lv_icmp_ne (tgt := 25) X.1 X.2.1 dX10_readRule_16 (by decide) (fun c_95 => ?_) (fun c_95 => ?_)
    · have z_b_96 := trivial
      have k_97 : rr_90.toInt ≠ (-1) := z_ne rfl ti_m1 c_95
      refine lv_aload_n X.1 X.2.1 dX10_readRule_25 rfl (lv_at hl 2 rfl) ?_
      refine r_getI (g := 600) (x := v_1) X hw ha_r1 rfl 0 ev_1 (by decide) rfl inn_X10_readRule_6 (by decide) (X.2.2.2.1 (.fieldLink RX10 28 "SilkMill$Rules" "size" "I") (by decide +kernel)) rfl (gv_600 _ _) dX10_readRule_26 ?_
      refine lv_bipush (v := 12) X.1 X.2.1 dX10_readRule_29 (by decide) ?_
      refine lv_icmp_lt (tgt := 40) X.1 X.2.1 dX10_readRule_31 (by decide) (fun c_98 => ?_) (fun c_98 => ?_)
      · have z_b_99 := trivial
        have k_100 : v_1.toInt < 12 := z_lt rfl ti_12 c_98
        refine lv_aload_n X.1 X.2.1 dX10_readRule_40 rfl (lv_at hl 2 rfl) ?_
        refine k_v (rm := { frames := 1, cells := 0, slots := 0, locals := 48 }) (av := [.ref r1]) X hw (va_runV (As := []) (rest := []) (cfix X) (k_X6_openRule2 l G cy κ S _ r1 hO.1 ha_r1) (cwV 0 X.2.2.2.1 gX10_readRule_X6_openRule rfl rfl rfl (by decide +kernel) ⟨Nat.le_of_ble_eq_true rfl, Nat.le_of_ble_eq_true rfl⟩) (pre_V X hw _ ha_r1 rfl (by decide) rfl) rfl rfl hl.1 rfl (lv_room (Nat.le_of_ble_eq_true rfl)) dX10_readRule_41 ⟨Nat.le_of_ble_eq_true rfl, Nat.le_of_ble_eq_true rfl⟩) 0 0 (Nat.le_of_ble_eq_true rfl) (Nat.le_of_ble_eq_true rfl) (fun S_102 H locs hp hw hfr hnw => ?_)
        obtain ⟨hk_103, hp⟩ := hp
        have hO_104 : Ok MLr S S_102 := hO.call hk_103 (by decide +kernel)
        refine lv_iload_n X.1 X.2.1 dX10_readRule_44 rfl (lv_at hl 0 rfl) ?_
        refine lv_if_eq (tgt := 62) X.1 X.2.1 dX10_readRule_45 (by decide) (fun c_105 => ?_) (fun c_105 => absurd c_105 (by decide))
        refine lv_aload_n X.1 X.2.1 dX10_readRule_62 rfl (lv_at hl 1 rfl) ?_
        refine lv_aload_n X.1 X.2.1 dX10_readRule_63 rfl (lv_at hl 2 rfl) ?_
        have t_106 : pI S_102 600 r1 = v_1 := hk_103.fr.I' (by decide +kernel) ha_r1 ev_1
        have pz_107 : (pI S_102 600 r1).toInt = v_1.toInt := (congrArg Int32.toInt t_106).trans rfl
        have t_108 : At S_102 x 10 := hk_103.fr.at ha_x
        have t_109 : At S_102 r1 6 := hk_103.fr.at ha_r1
        have gb_110 := GB_fr hp_0 ha_x hk_103.fr (by decide +kernel)
        refine k_i (rm := { frames := 7, cells := 0, slots := 0, locals := 336 }) (av := [.ref x, .ref r1]) X hw (va_runV (As := [.ref r1]) (rest := []) (cfix X) (k_X10_readAct2 l G cy κ S_102 _ x r1 t0 hO_104.1 t_108 t_109 (by rw [tB_fr hG ha_x hO_104.fr (by decide +kernel), hO_104.fr.I' (g := 1000) (by decide +kernel) ha_x rfl]; exact gb_110) (by omega)) (cwV 1 X.2.2.2.1 gX10_readRule_X10_readAct rfl rfl rfl (by decide +kernel) ⟨Nat.le_of_ble_eq_true rfl, Nat.le_of_ble_eq_true rfl⟩) (pre_V X hw _ t_108 rfl (by decide) rfl) rfl rfl hl.1 rfl (lv_room (Nat.le_of_ble_eq_true rfl)) dX10_readRule_64 ⟨Nat.le_of_ble_eq_true rfl, Nat.le_of_ble_eq_true rfl⟩) 0 0 (Nat.le_of_ble_eq_true rfl) (Nat.le_of_ble_eq_true rfl) (fun rr_111 S_112 H locs hp hw hfr hnw => ?_)
        obtain ⟨hk_113, hp⟩ := hp
        have hO_114 : Ok MLr S S_112 := hO_104.call hk_113 (by decide +kernel)
        rcases hp with ⟨f_115, er_116⟩ | ⟨f_115, er_116⟩ <;> subst er_116
        · have z_b_117 := trivial
          rw [tB_fr hG ha_x hO_104.fr (by decide +kernel), hO_104.fr.I' (g := 1000) (by decide +kernel) ha_x rfl] at f_115
          have ok_118 := hdI (GB_ok hG ha_x f_115.2.1)
          have ok_119 : ((acF (tB S x) (pI S 1000 x).toInt.toNat t0).2).2.1 ≤ ((acF (tB S x) (pI S 1000 x).toInt.toNat t0).2).2.2 ∧ ((acF (tB S x) (pI S 1000 x).toInt.toNat t0).2).2.2 ≤ 400 := ⟨(hdE ok_118).1, (hdE ok_118).2.1⟩
          have ea_120 : rueF (tB S x) (pI S 1000 x).toInt.toNat (pI S 600 r1).toInt.toNat t0 = acF (tB S x) (pI S 1000 x).toInt.toNat t0 := (cit_n (fun h => by omega)).trans ((cit_n (by omega)).trans (cit_n f_7))
          obtain ⟨v_122, ev_122⟩ : ∃ v, pI S_112 600 r1 = v := ⟨_, rfl⟩
          have t_124 : At S_112 r1 6 := hk_113.fr.at t_109
          have rg_123 := gI_6_600 hO_114.1 t_124; rw [ev_122] at rg_123
          have pz_125 : (pI S_112 600 r1).toInt = v_122.toInt := by rw [ev_122]
          have pz_126 : (pI S_112 600 r1).toInt = v_122.toInt := (congrArg Int32.toInt ev_122).trans rfl
          exact ret_z X hw hr hlocks (Nat.le_of_ble_eq_true rfl) (Nat.le_of_ble_eq_true rfl) (by decide) ⟨hO_114, Or.inl ⟨by rw [ea_120]; exact ⟨f_115.1, f_115.2.1, by omega⟩, rfl⟩⟩ dX10_readRule_67
        · have z_b_127 := trivial
          rw [tB_fr hG ha_x hO_104.fr (by decide +kernel), hO_104.fr.I' (g := 1000) (by decide +kernel) ha_x rfl] at f_115
          have ea_128 : rueF (tB S x) (pI S 1000 x).toInt.toNat (pI S 600 r1).toInt.toNat t0 = acF (tB S x) (pI S 1000 x).toInt.toNat t0 := (cit_n (fun h => by omega)).trans ((cit_n (by omega)).trans (cit_n f_7))
          exact ret_z X hw hr hlocks (Nat.le_of_ble_eq_true rfl) (Nat.le_of_ble_eq_true rfl) (by decide) ⟨hO_114, Or.inr ⟨by rw [ea_128]; exact ⟨f_115.1, f_115.2⟩, rfl⟩⟩ dX10_readRule_67
      · have z_b_129 := trivial
        have k_130 : v_1.toInt ≥ 12 := z_nlt rfl ti_12 c_98
        refine lv_aload_n X.1 X.2.1 dX10_readRule_34 rfl (lv_at hl 1 rfl) ?_
        refine lv_iconst (v := 2) X.1 X.2.1 dX10_readRule_35 (by decide) ?_
        refine k_i (rm := { frames := 1, cells := 0, slots := 0, locals := 48 }) (av := [.ref x, .int 2]) X hw (va_runV (As := [.int 2]) (rest := []) (cfix X) (k_X10_fail2 l G cy κ S _ x (2) (2) hO.1 ha_x ti_2) (cwV 1 X.2.2.2.1 gX10_readRule_X10_fail rfl rfl rfl (by decide +kernel) ⟨Nat.le_of_ble_eq_true rfl, Nat.le_of_ble_eq_true rfl⟩) (pre_V X hw _ ha_x rfl (by decide) rfl) rfl rfl hl.1 rfl (lv_room (Nat.le_of_ble_eq_true rfl)) dX10_readRule_36 ⟨Nat.le_of_ble_eq_true rfl, Nat.le_of_ble_eq_true rfl⟩) 0 0 (Nat.le_of_ble_eq_true rfl) (Nat.le_of_ble_eq_true rfl) (fun rr_131 S_132 H locs hp hw hfr hnw => ?_)
        obtain ⟨hk_133, hp⟩ := hp
        have hO_134 : Ok MLr S S_132 := hO.call hk_133 (by decide +kernel)
        rcases hp with ⟨f_135, er_136⟩ | ⟨f_135, er_136⟩ <;> subst er_136
        · have z_b_137 := trivial
          exact f_135.elim
        · have z_b_138 := trivial
          have ea_139 : rueF (tB S x) (pI S 1000 x).toInt.toNat (pI S 600 r1).toInt.toNat t0 = (2, t0) := (cit_n (fun h => by omega)).trans (cit_y (by omega))
          exact ret_z X hw hr hlocks (Nat.le_of_ble_eq_true rfl) (Nat.le_of_ble_eq_true rfl) (by decide) ⟨hO_134, Or.inr ⟨by rw [ea_139]; exact ⟨(by decide : (2 : Int) ≠ 0), f_135⟩, rfl⟩⟩ dX10_readRule_39
    · have z_b_140 := trivial
      have k_141 : rr_90.toInt = (-1) := z_eq rfl ti_m1 c_95
      refine lv_aload_n X.1 X.2.1 dX10_readRule_19 rfl (lv_at hl 1 rfl) ?_
      refine lv_iconst (v := 1) X.1 X.2.1 dX10_readRule_20 (by decide) ?_
      refine k_i (rm := { frames := 1, cells := 0, slots := 0, locals := 48 }) (av := [.ref x, .int 1]) X hw (va_runV (As := [.int 1]) (rest := []) (cfix X) (k_X10_fail2 l G cy κ S _ x (1) (1) hO.1 ha_x ti_1) (cwV 1 X.2.2.2.1 gX10_readRule_X10_fail rfl rfl rfl (by decide +kernel) ⟨Nat.le_of_ble_eq_true rfl, Nat.le_of_ble_eq_true rfl⟩) (pre_V X hw _ ha_x rfl (by decide) rfl) rfl rfl hl.1 rfl (lv_room (Nat.le_of_ble_eq_true rfl)) dX10_readRule_21 ⟨Nat.le_of_ble_eq_true rfl, Nat.le_of_ble_eq_true rfl⟩) 0 0 (Nat.le_of_ble_eq_true rfl) (Nat.le_of_ble_eq_true rfl) (fun rr_142 S_143 H locs hp hw hfr hnw => ?_)
      obtain ⟨hk_144, hp⟩ := hp
      have hO_145 : Ok MLr S S_143 := hO.call hk_144 (by decide +kernel)
      rcases hp with ⟨f_146, er_147⟩ | ⟨f_146, er_147⟩ <;> subst er_147
      · have z_b_148 := trivial
        exact f_146.elim
      · have z_b_149 := trivial
        have ea_150 : rueF (tB S x) (pI S 1000 x).toInt.toNat (pI S 600 r1).toInt.toNat t0 = (1, t0) := cit_y ⟨f_7, by omega⟩
        exact ret_z X hw hr hlocks (Nat.le_of_ble_eq_true rfl) (Nat.le_of_ble_eq_true rfl) (by decide) ⟨hO_145, Or.inr ⟨by rw [ea_150]; exact ⟨(by decide : (1 : Int) ≠ 0), f_146⟩, rfl⟩⟩ dX10_readRule_24
