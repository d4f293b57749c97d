def MRt : List Nat := [1229, 1230, 1231, 1232, 1233, 1234, 10674, 10694, 10714, 10734, 10614, 10634, 10654]

set_option maxHeartbeats 4000000 in
set_option maxRecDepth 100000 in
theorem k_X12_rule6 (l : Launch) (G : va_G) (cy : Nat → ClassId) (κ : Nat → Nat) (S : PS) (sz : Nat) (x : Nat) (t0 : Tk) (Rl : List Ru) (hG : GX S) (ha_x : At S x 12) (hp_0 : RGB (rB S x) (pI S 1228 x).toInt.toNat S x t0) (hp_1 : (pI S 1230 x).toInt = 0) (hp_2 : RrIs S x Rl) (hp_3 : zA S x 1220 4 = (Rl.length : Int)) : Ci l yX12_rule wsX12_rule ({ frames := 7, cells := 0, slots := 0, locals := 336 }) G cy κ S sz [.ref x] (fun (r : Int32) (S9 : PS) => Ok MRt S S9 ∧ ((((rueF (rB S x) (pI S 1228 x).toInt.toNat (zA S x 1220 4).toNat t0).1 = 0 ∧ RGB (rB S x) (pI S 1228 x).toInt.toNat S9 x (rueF (rB S x) (pI S 1228 x).toInt.toNat (zA S x 1220 4).toNat t0).2 ∧ (pI S9 1230 x).toInt = 0 ∧ zA S9 x 1220 4 = zA S x 1220 4 + 1 ∧ zA S9 x 1220 4 ≤ 12 ∧ RrIs S9 x (Rl ++ [ruV (rB S x) (pI S 1228 x).toInt.toNat t0]) ∧ RrL S S9 x) ∧ r = 1) ∨ ((((rueF (rB S x) (pI S 1228 x).toInt.toNat (zA S x 1220 4).toNat t0).1 ≠ 0 ∧ (pI S9 1230 x).toInt = (rueF (rB S x) (pI S 1228 x).toInt.toNat (zA S x 1220 4).toNat t0).1) ∧ RrL S S9 x) ∧ r = 0))) := by
  refine ent_m (cc := cX12_rule) (maxL := 4) (ret := (some .boolean)) (by decide) rfl (Nat.le_of_ble_eq_true rfl) ?_
  intro p e s m below meth c ls X hr hlocks hin hw hl hsz
  subst hsz
  have X : Cx p c cX12_rule 4 s [.ref x].toArray wsX12_rule RX12 m G cy κ (AS S s.heap.size) := X
  have hl : lv_has ls 4 [(0, .ref x)] := hl
  have hO : Ok MRt S S := Ok.rf hG
  generalize hQQ : MQ below _ _ _ _ _ _ = QQ
  replace hQQ := hQQ.symm
  have hok := hdI (RGB_ok hG ha_x hp_0)
  have hok1 : t0.2.1 ≤ t0.2.2 ∧ t0.2.2 ≤ 400 := ⟨(hdE hok).1, (hdE hok).2.1⟩
  obtain ⟨v_1, ev_1⟩ : ∃ v, pI S 1230 x = v := ⟨_, rfl⟩
  have rg_3 := And.intro (z_lo v_1) (z_hi v_1)
  have pz_4 : (pI S 1230 x).toInt = v_1.toInt := by rw [ev_1]
  have pz_5 : (pI S 1230 x).toInt = v_1.toInt := (congrArg Int32.toInt ev_1).trans rfl
  obtain ⟨v_6, ev_6⟩ : ∃ v, pI S 1231 x = v := ⟨_, rfl⟩
  have rg_8 := And.intro (z_lo v_6) (z_hi v_6)
  have pz_9 : (pI S 1231 x).toInt = v_6.toInt := by rw [ev_6]
  have pz_10 : (pI S 1231 x).toInt = v_6.toInt := (congrArg Int32.toInt ev_6).trans rfl
  have htk1 := hp_0.1.1
  have hz20 := z1220 hG ha_x 4
  refine lv_aload_n X.1 X.2.1 dX12_rule_0 rfl (lv_at hl 0 rfl) ?_
  refine lv_ldcwS (q := κ (100 + 21)) X.1 X.2.1 X.2.2.2.2.1 (show vk_R RX12 267 "if" (κ (100 + 21)) s from (X.2.2.2.2.2.2.2.2.2.2.2.2.2.2 21 (by decide)).1) dX12_rule_1 ?_
  have pz_11 : (pI S 1230 x).toInt = v_1.toInt := (congrArg Int32.toInt ev_1).trans rfl
  refine k_i (rm := { frames := 5, cells := 0, slots := 0, locals := 240 }) (av := [.ref x, .ref (κ (100 + 21))]) X hw (va_runV (As := [.ref (κ (100 + 21))]) (rest := []) (cfix X) (k_X12_is2 l G cy κ S _ x 21 t0 hO.1 ha_x (by decide) hp_0.1 (by first | assumption | omega) (by first | assumption | omega)) (cwV 1 X.2.2.2.1 gX12_rule_X12_is rfl rfl rfl (by decide +kernel) ⟨Nat.le_of_ble_eq_true rfl, Nat.le_of_ble_eq_true rfl⟩) (pre_V X hw _ ha_x rfl (by decide) rfl) rfl rfl hl.1 rfl (lv_room (Nat.le_of_ble_eq_true rfl)) dX12_rule_4 ⟨Nat.le_of_ble_eq_true rfl, Nat.le_of_ble_eq_true rfl⟩) 0 0 (Nat.le_of_ble_eq_true rfl) (Nat.le_of_ble_eq_true rfl) (fun rr_12 S_13 H locs hp hw hfr hnw => ?_)
  obtain ⟨e2, hp⟩ := hp
  subst e2
  rcases hp with ⟨f_14, er_15⟩ | ⟨f_14, er_15⟩ <;> subst er_15
  · have z_b_16 := trivial
    refine lv_istore_n (lv' := [(1, .int 1), (0, .ref x)]) X.1 X.2.1 dX12_rule_7 rfl hl (by decide) rfl (fun ls hl => ?_)
    refine lv_aload_n X.1 X.2.1 dX12_rule_8 rfl (lv_at hl 1 rfl) ?_
    refine lv_ldcwS (q := κ (100 + 22)) X.1 X.2.1 X.2.2.2.2.1 (show vk_R RX12 269 "cast drop find throw cut stop " (κ (100 + 22)) s from (X.2.2.2.2.2.2.2.2.2.2.2.2.2.2 22 (by decide)).1) dX12_rule_9 ?_
    have pz_17 : (pI S 1230 x).toInt = v_1.toInt := (congrArg Int32.toInt ev_1).trans rfl
    refine k_i (rm := { frames := 5, cells := 0, slots := 0, locals := 240 }) (av := [.ref x, .ref (κ (100 + 22))]) X hw (va_runV (As := [.ref (κ (100 + 22))]) (rest := []) (cfix X) (k_X12_which2 l G cy κ S _ x 22 t0 hO.1 ha_x (by decide) hp_0.1 (by first | assumption | omega) (by first | assumption | omega) (by first | assumption | omega) (by decide)) (cwV 1 X.2.2.2.1 gX12_rule_X12_which rfl rfl rfl (by decide +kernel) ⟨Nat.le_of_ble_eq_true rfl, Nat.le_of_ble_eq_true rfl⟩) (pre_V X hw _ ha_x rfl (by decide) rfl) rfl rfl hl.1 rfl (lv_room (Nat.le_of_ble_eq_true rfl)) dX12_rule_12 ⟨Nat.le_of_ble_eq_true rfl, Nat.le_of_ble_eq_true rfl⟩) 0 0 (Nat.le_of_ble_eq_true rfl) (Nat.le_of_ble_eq_true rfl) (fun rr_18 S_19 H locs hp hw hfr hnw => ?_)
    obtain ⟨e2, hp⟩ := hp
    subst e2
    obtain ⟨wh_20, wh_21, wh_22⟩ := hp
    rw [show wI 22 = ALs from rfl] at wh_22
    refine lv_istore_n (lv' := [(2, .int (rr_18)), (1, .int 1), (0, .ref x)]) X.1 X.2.1 dX12_rule_15 rfl hl (by decide) rfl (fun ls hl => ?_)
    refine lv_iload_n X.1 X.2.1 dX12_rule_16 rfl (lv_at hl 1 rfl) ?_
    refine lv_if_ne (tgt := 31) X.1 X.2.1 dX12_rule_17 (by decide) (fun c_23 => ?_) (fun c_23 => absurd c_23 (by decide))
    refine lv_aload_n X.1 X.2.1 dX12_rule_31 rfl (lv_at hl 2 rfl) ?_
    obtain ⟨q_24, h_25, h_26, h_27⟩ := gQ_12_1220 hO.1 ha_x
    refine r_getR (g := 1220) X hw ha_x rfl 20 h_25 (by decide) rfl inn_X12_rule_12 (by decide) (X.2.2.2.1 (.fieldLink RX12 61 "SilkMillModel" "rules" "[I") (by decide +kernel)) rfl (gv_1220 _ _) dX12_rule_32 ?_
    refine lv_iconst (v := 4) X.1 X.2.1 dX12_rule_35 (by decide) ?_
    refine r_iald X hw h_26 rfl (by rw [h_27]; exact z_ix ti_4 (by omega) (by omega)) dX12_rule_36 ?_
    refine lv_topi (fun v_28 ev_28 => ?_)
    have z_29 := gE_614 hO.1 h_26 (Int32.toNatClampNeg (4)); rw [← ev_28] at z_29
    have ev_28 := ev_28.symm
    have zf_30 : zA S x 1220 4 = v_28.toInt := (zA_of (z := 4) h_25 ti_4 (by omega) ev_28)
    refine lv_bipush (v := 12) X.1 X.2.1 dX12_rule_37 (by decide) ?_
    refine lv_icmp_ne (tgt := 48) X.1 X.2.1 dX12_rule_39 (by decide) (fun c_31 => ?_) (fun c_31 => ?_)
    · have z_b_32 := trivial
      have k_33 : v_28.toInt ≠ 12 := z_ne rfl ti_12 c_31
      refine lv_bipush (v := 48) X.1 X.2.1 dX12_rule_48 (by decide) ?_
      refine lv_aload_n X.1 X.2.1 dX12_rule_50 rfl (lv_at hl 2 rfl) ?_
      refine r_getR (g := 1220) X hw ha_x rfl 20 h_25 (by decide) rfl inn_X12_rule_12 (by decide) (X.2.2.2.1 (.fieldLink RX12 61 "SilkMillModel" "rules" "[I") (by decide +kernel)) rfl (gv_1220 _ _) dX12_rule_51 ?_
      refine lv_iconst (v := 4) X.1 X.2.1 dX12_rule_54 (by decide) ?_
      refine r_iald X hw h_26 rfl (by rw [h_27]; exact z_ix ti_4 (by omega) (by omega)) dX12_rule_55 ?_
      rw [ev_28]
      refine lv_iadd X.1 X.2.1 dX12_rule_56 ?_
      refine lv_topi (fun v_34 ev_34 => ?_)
      have z_35 : v_34.toInt = 48 + v_28.toInt := z_add ev_34 ti_48 rfl (by omega) (by omega)
      refine lv_istore_n (lv' := [(3, .int (v_34)), (2, .int (rr_18)), (1, .int 1), (0, .ref x)]) X.1 X.2.1 dX12_rule_57 rfl hl (by decide) rfl (fun ls hl => ?_)
      refine lv_aload_n X.1 X.2.1 dX12_rule_58 rfl (lv_at hl 3 rfl) ?_
      obtain ⟨q_36, h_37, h_38, h_39⟩ := gQ_12_1223 hO.1 ha_x
      refine r_getR (g := 1223) X hw ha_x rfl 23 h_37 (by decide) rfl inn_X12_rule_12 (by decide) (X.2.2.2.1 (.fieldLink RX12 70 "SilkMillModel" "conditions" "[I") (by decide +kernel)) rfl (gv_1223 _ _) dX12_rule_59 ?_
      refine lv_iload_n X.1 X.2.1 dX12_rule_62 rfl (lv_at hl 0 rfl) ?_
      refine lv_iconst (v := 0) X.1 X.2.1 dX12_rule_63 (by decide) ?_
      refine r_iast X hw h_38 rfl (by rw [h_39]; exact z_ix z_35 (by omega) (by omega)) dX12_rule_64 (fun H locs hw => ?_)
      obtain ⟨S_40, eS_40⟩ : ∃ T, T = sA S q_36 (upd (pA S q_36) (Int32.toNatClampNeg (v_34)) (0)) := ⟨_, rfl⟩
      rw [← eS_40] at hw
      have hO_41 : Ok MRt S S_40 := hO.sA eS_40 h_38 (by decide +kernel) (uA_674 hO.1 h_38 (by rw [ti_0]; omega) (by rw [ti_0]; omega))
      have h_42 : pA S_40 q_36 (Int32.toNatClampNeg (v_34)) = 0 := tA_sAs eS_40
      have t_43 : pR S_40 1223 x = some q_36 := tR_sA eS_40 h_37
      have t_45 : pR S 1223 x = some q_36 := by have h := t_43; rw [eS_40, pR_sA] at h; exact h
      have zs_44 : ∀ j, zA S_40 x 1223 j = if j = ((48 + v_28.toInt)).toNat then 0 else zA S x 1223 j := by have h := zA_sAs eS_40 t_45 ti_0; rw [z_nc z_35 (by omega)] at h; exact h
      have zs_46 := zs_44 ((48 + v_28.toInt)).toNat; rw [if_pos rfl] at zs_46
      have t_48 : pR S 1223 x = some q_36 := by have h := t_43; rw [eS_40, pR_sA] at h; exact h
      have zs_47 : ∀ j, zA S_40 x 1223 j = if j = ((48 + v_28.toInt)).toNat then 0 else zA S x 1223 j := by have h := zA_sAs eS_40 t_48 ti_0; rw [z_nc z_35 (by omega)] at h; exact h
      have ce_49 : CeX S S_40 x 1223 ((48 + v_28.toInt)).toNat (0) := CeX_mk hO.1 ha_x eS_40 h_38 (by decide) zs_47
      refine lv_iload_n X.1 X.2.1 dX12_rule_65 rfl (lv_at hl 2 rfl) ?_
      refine lv_if_eq (tgt := 138) X.1 X.2.1 dX12_rule_66 (by decide) (fun c_50 => absurd c_50 (by decide)) (fun c_50 => ?_)
      refine lv_aload_n X.1 X.2.1 dX12_rule_69 rfl (lv_at hl 3 rfl) ?_
      have t_51 : At S_40 x 12 := tAt_sA eS_40 ha_x
      have rg_52 := RGB_sA hp_0 eS_40
      have ok_53 := hdI (RGB_ok hG ha_x rg_52)
      have ok_54 : (t0).2.1 ≤ (t0).2.2 ∧ (t0).2.2 ≤ 400 := ⟨(hdE ok_53).1, (hdE ok_53).2.1⟩
      obtain ⟨v_55, ev_55⟩ : ∃ v, pI S_40 1233 x = v := ⟨_, rfl⟩
      have rg_56 := gI_12_1233 hO_41.1 t_51; rw [ev_55] at rg_56
      have pz_57 : (pI S_40 1233 x).toInt = v_55.toInt := by rw [ev_55]
      have pz_58 : (pI S_40 1233 x).toInt = v_55.toInt := (congrArg Int32.toInt ev_55).trans rfl
      refine k_v (rm := { frames := 2, cells := 0, slots := 0, locals := 96 }) (av := [.ref x]) X hw (va_runV (As := []) (rest := []) (cfix X) (k_X12_token2 l G cy κ S_40 _ x hO_41.1 t_51) (cwV 0 X.2.2.2.1 gX12_rule_X12_token rfl rfl rfl (by decide +kernel) ⟨Nat.le_of_ble_eq_true rfl, Nat.le_of_ble_eq_true rfl⟩) (pre_V X hw _ t_51 rfl (by decide) rfl) rfl rfl hl.1 rfl (lv_room (Nat.le_of_ble_eq_true rfl)) dX12_rule_70 ⟨Nat.le_of_ble_eq_true rfl, Nat.le_of_ble_eq_true rfl⟩) 0 0 (Nat.le_of_ble_eq_true rfl) (Nat.le_of_ble_eq_true rfl) (fun S_60 H locs hp hw hfr hnw => ?_)
      obtain ⟨hk_61, hp⟩ := hp
      have hO_62 : Ok MRt S S_60 := hO_41.call hk_61 (by decide +kernel)
      have rg_63 : RGB (rB S x) (pI S 1228 x).toInt.toNat S_60 x (nxT (rB S x) (pI S 1228 x).toInt.toNat t0) := RGB_adv rg_52 (rB_fr hG ha_x hO_41.fr (by decide +kernel)) (by rw [hO_41.fr.I' (g := 1228) (by decide +kernel) ha_x rfl]) (by omega) hp
      have ok_64 := hdI (RGB_ok hG ha_x rg_63)
      have ok_65 : ((nxT (rB S x) (pI S 1228 x).toInt.toNat t0)).2.1 ≤ ((nxT (rB S x) (pI S 1228 x).toInt.toNat t0)).2.2 ∧ ((nxT (rB S x) (pI S 1228 x).toInt.toNat t0)).2.2 ≤ 400 := ⟨(hdE ok_64).1, (hdE ok_64).2.1⟩
      refine lv_aload_n X.1 X.2.1 dX12_rule_73 rfl (lv_at hl 3 rfl) ?_
      refine lv_iload_n X.1 X.2.1 dX12_rule_74 rfl (lv_at hl 0 rfl) ?_
      have t_66 : pI S_40 1230 x = v_1 := tI_sA eS_40 ev_1
      have t_67 : pI S_60 1230 x = v_1 := hk_61.fr.I' (by decide +kernel) t_51 t_66
      have pz_68 : (pI S_60 1230 x).toInt = v_1.toInt := (congrArg Int32.toInt t_67).trans rfl
      have zc_69 : zA S_60 x 1223 = zA S_40 x 1223 := zA_fr hk_61.fr t_51 (ex3 (gQ_12_1223 hO_41.1 t_51)) (by decide +kernel) (by decide +kernel)
      have zz_70 := congrFun zc_69 ((48 + v_28.toInt)).toNat
      have t_72 : At S_60 x 12 := hk_61.fr.at t_51
      have zc_71 := z1223 hO_62.1 t_72 ((48 + v_28.toInt)).toNat
      have pz_73 : (pI S_60 1230 x).toInt = v_1.toInt := (congrArg Int32.toInt t_67).trans rfl
      have rr_74 : RrC S_40 x Rl [] := RrC_open hO.1 ha_x ce_49 (by omega) hp_2
      have rr_75 : RrC S_60 x Rl [] := RrC_to (rg_zA hO_41.1 t_51 hk_61.fr (by decide +kernel)) rr_74
      refine k_i (rm := { frames := 6, cells := 0, slots := 0, locals := 288 }) (av := [.ref x, .int (v_34)]) X hw (va_runV (As := [.int (v_34)]) (rest := []) (cfix X) (k_X12_condition6 l G cy κ S_60 _ x (v_34) ((48 + v_28.toInt)) (nxT (rB S x) (pI S 1228 x).toInt.toNat t0) Rl [] hO_62.1 t_72 z_35 (by rw [rB_fr hG ha_x hO_62.fr (by decide +kernel), hO_62.fr.I' (g := 1228) (by decide +kernel) ha_x rfl]; exact rg_63) (by first | assumption | decide | omega) (by first | assumption | decide | omega) (by first | assumption | decide | omega) rr_75 (by omega)) (cwV 1 X.2.2.2.1 gX12_rule_X12_condition rfl rfl rfl (by decide +kernel) ⟨Nat.le_of_ble_eq_true rfl, Nat.le_of_ble_eq_true rfl⟩) (pre_V X hw _ t_72 rfl (by decide) rfl) rfl rfl hl.1 rfl (lv_room (Nat.le_of_ble_eq_true rfl)) dX12_rule_75 ⟨Nat.le_of_ble_eq_true rfl, Nat.le_of_ble_eq_true rfl⟩) 0 0 (Nat.le_of_ble_eq_true rfl) (Nat.le_of_ble_eq_true rfl) (fun rr_76 S_77 H locs hp hw hfr hnw => ?_)
      obtain ⟨hk_78, hp⟩ := hp
      have hO_79 : Ok MRt S S_77 := hO_62.call hk_78 (by decide +kernel)
      rcases hp with ⟨f_80, er_81⟩ | ⟨f_80, er_81⟩ <;> subst er_81
      · have z_b_82 := trivial
        rw [rB_fr hG ha_x hO_62.fr (by decide +kernel), hO_62.fr.I' (g := 1228) (by decide +kernel) ha_x rfl] at f_80
        have ok_83 := hdI (RGB_ok hG ha_x f_80.2.1)
        have ok_84 : ((nx3 (rB S x) (pI S 1228 x).toInt.toNat (nxT (rB S x) (pI S 1228 x).toInt.toNat t0))).2.1 ≤ ((nx3 (rB S x) (pI S 1228 x).toInt.toNat (nxT (rB S x) (pI S 1228 x).toInt.toNat t0))).2.2 ∧ ((nx3 (rB S x) (pI S 1228 x).toInt.toNat (nxT (rB S x) (pI S 1228 x).toInt.toNat t0))).2.2 ≤ 400 := ⟨(hdE ok_83).1, (hdE ok_83).2.1⟩
        refine lv_if_ne (tgt := 83) X.1 X.2.1 dX12_rule_78 (by decide) (fun c_85 => ?_) (fun c_85 => absurd c_85 (by decide))
        have zc_89 : zA S_40 x 1220 = zA S x 1220 := zA_sAn eS_40 (ex3 (gQ_12_1220 hO.1 ha_x)) h_38 rfl
        have zc_90 : zA S_60 x 1220 = zA S x 1220 := (zA_fr hk_61.fr t_51 (ex3 (gQ_12_1220 hO_41.1 t_51)) (by decide +kernel) (by decide +kernel)).trans zc_89
        have zc_91 : zA S_77 x 1220 = zA S x 1220 := (zA_fr hk_78.fr t_72 (ex3 (gQ_12_1220 hO_62.1 t_72)) (by decide +kernel) (by decide +kernel)).trans zc_90
        have L_86 : ∀ (n : Nat) (T_87 : PS) (H : Heap) (locs : List Loc) (ls : Array Slot) , ((4 - zA T_87 x 1223 ((48 + v_28.toInt)).toNat).toNat = n) → (Wd G cy (AS S s.heap.size) s.heap T_87 H locs) → (At T_87 x 12) → (Ok MRt S T_87) → (zA T_87 x 1220 = zA S x 1220) → (∃ t u C, RGB (rB S x) (pI S 1228 x).toInt.toNat T_87 x t ∧ csF (rB S x) (pI S 1228 x).toInt.toNat 4 (nxT (rB S x) (pI S 1228 x).toInt.toNat t0) = ceF (rB S x) (pI S 1228 x).toInt.toNat (4 - zA T_87 x 1223 ((48 + v_28.toInt)).toNat).toNat t u ∧ RrC T_87 x Rl C ∧ csL (rB S x) (pI S 1228 x).toInt.toNat 4 (nxT (rB S x) (pI S 1228 x).toInt.toNat t0) = C ++ ceL (rB S x) (pI S 1228 x).toInt.toNat (4 - C.length) t) → ((pI T_87 1230 x).toInt = 0) → (RrL S T_87 x) → (lv_has ls 4 [(3, .int (v_34)), (2, .int (rr_18)), (1, .int 1), (0, .ref x)]) → W p l e ({ frames := 7, cells := 0, slots := 0, locals := 336 }) s m [.ref x].toArray below meth c H locs 0 0 QQ (F0 m 83 ls []) := by
          intro n
          induction n using Nat.strongRecOn with
          | ind n ih_L_86 =>
          intro T_87 H locs ls  hn hw ha_x_L_88 hO_T_87 zk_92 iv_93 iv_94 iv_95 hl
          obtain ⟨v_96, ev_96⟩ : ∃ v, pI T_87 1230 x = v := ⟨_, rfl⟩
          have rg_98 := And.intro (z_lo v_96) (z_hi v_96)
          have pz_99 : (pI T_87 1230 x).toInt = v_96.toInt := by rw [ev_96]
          have pz_100 : (pI T_87 1230 x).toInt = v_96.toInt := (congrArg Int32.toInt ev_96).trans rfl
          obtain ⟨t_101, u_102, C_103, rg_104, er_105, rc_106, ce_107⟩ := iv_93
          have ok_108 := hdI (RGB_ok hG ha_x rg_104)
          have ok_109 : (t_101).2.1 ≤ (t_101).2.2 ∧ (t_101).2.2 ≤ 400 := ⟨(hdE ok_108).1, (hdE ok_108).2.1⟩
          have pz_110 : (pI T_87 1230 x).toInt = v_96.toInt := (congrArg Int32.toInt ev_96).trans rfl
          have zc_111 := z1223 hO_T_87.1 ha_x_L_88 ((48 + v_28.toInt)).toNat
          refine lv_aload_n X.1 X.2.1 dX12_rule_83 rfl (lv_at hl 3 rfl) ?_
          refine lv_ldcwS (q := κ (100 + 23)) X.1 X.2.1 X.2.2.2.2.1 (show vk_R RX12 274 "and" (κ (100 + 23)) s from (X.2.2.2.2.2.2.2.2.2.2.2.2.2.2 23 (by decide)).1) dX12_rule_84 ?_
          have pz_112 : (pI T_87 1230 x).toInt = v_96.toInt := (congrArg Int32.toInt ev_96).trans rfl
          refine k_i (rm := { frames := 5, cells := 0, slots := 0, locals := 240 }) (av := [.ref x, .ref (κ (100 + 23))]) X hw (va_runV (As := [.ref (κ (100 + 23))]) (rest := []) (cfix X) (k_X12_is2 l G cy κ T_87 _ x 23 t_101 hO_T_87.1 ha_x_L_88 (by decide) rg_104.1 (by first | assumption | omega) (by first | assumption | omega)) (cwV 1 X.2.2.2.1 gX12_rule_X12_is rfl rfl rfl (by decide +kernel) ⟨Nat.le_of_ble_eq_true rfl, Nat.le_of_ble_eq_true rfl⟩) (pre_V X hw _ ha_x_L_88 rfl (by decide) rfl) rfl rfl hl.1 rfl (lv_room (Nat.le_of_ble_eq_true rfl)) dX12_rule_87 ⟨Nat.le_of_ble_eq_true rfl, Nat.le_of_ble_eq_true rfl⟩) 0 0 (Nat.le_of_ble_eq_true rfl) (Nat.le_of_ble_eq_true rfl) (fun rr_113 S_114 H locs hp hw hfr hnw => ?_)
          obtain ⟨e2, hp⟩ := hp
          subst e2
          rcases hp with ⟨f_115, er_116⟩ | ⟨f_115, er_116⟩ <;> subst er_116
          · have z_b_117 := trivial
            rw [rB_fr hG ha_x hO_T_87.fr (by decide +kernel)] at f_115
            refine lv_if_eq (tgt := 107) X.1 X.2.1 dX12_rule_90 (by decide) (fun c_118 => absurd c_118 (by decide)) (fun c_118 => ?_)
            refine lv_aload_n X.1 X.2.1 dX12_rule_93 rfl (lv_at hl 3 rfl) ?_
            have ok_119 := hdI (RGB_ok hG ha_x rg_104)
            have ok_120 : (t_101).2.1 ≤ (t_101).2.2 ∧ (t_101).2.2 ≤ 400 := ⟨(hdE ok_119).1, (hdE ok_119).2.1⟩
            obtain ⟨v_121, ev_121⟩ : ∃ v, pI T_87 1233 x = v := ⟨_, rfl⟩
            have rg_122 := gI_12_1233 hO_T_87.1 ha_x_L_88; rw [ev_121] at rg_122
            have pz_123 : (pI T_87 1233 x).toInt = v_121.toInt := by rw [ev_121]
            have pz_124 : (pI T_87 1233 x).toInt = v_121.toInt := (congrArg Int32.toInt ev_121).trans rfl
            refine k_v (rm := { frames := 2, cells := 0, slots := 0, locals := 96 }) (av := [.ref x]) X hw (va_runV (As := []) (rest := []) (cfix X) (k_X12_token2 l G cy κ T_87 _ x hO_T_87.1 ha_x_L_88) (cwV 0 X.2.2.2.1 gX12_rule_X12_token rfl rfl rfl (by decide +kernel) ⟨Nat.le_of_ble_eq_true rfl, Nat.le_of_ble_eq_true rfl⟩) (pre_V X hw _ ha_x_L_88 rfl (by decide) rfl) rfl rfl hl.1 rfl (lv_room (Nat.le_of_ble_eq_true rfl)) dX12_rule_94 ⟨Nat.le_of_ble_eq_true rfl, Nat.le_of_ble_eq_true rfl⟩) 0 0 (Nat.le_of_ble_eq_true rfl) (Nat.le_of_ble_eq_true rfl) (fun S_126 H locs hp hw hfr hnw => ?_)
            obtain ⟨hk_127, hp⟩ := hp
            have hO_128 : Ok MRt S S_126 := hO_T_87.call hk_127 (by decide +kernel)
            have rg_129 : RGB (rB S x) (pI S 1228 x).toInt.toNat S_126 x (nxT (rB S x) (pI S 1228 x).toInt.toNat t_101) := RGB_adv rg_104 (rB_fr hG ha_x hO_T_87.fr (by decide +kernel)) (by rw [hO_T_87.fr.I' (g := 1228) (by decide +kernel) ha_x rfl]) (by omega) hp
            have ok_130 := hdI (RGB_ok hG ha_x rg_129)
            have ok_131 : ((nxT (rB S x) (pI S 1228 x).toInt.toNat t_101)).2.1 ≤ ((nxT (rB S x) (pI S 1228 x).toInt.toNat t_101)).2.2 ∧ ((nxT (rB S x) (pI S 1228 x).toInt.toNat t_101)).2.2 ≤ 400 := ⟨(hdE ok_130).1, (hdE ok_130).2.1⟩
            refine lv_aload_n X.1 X.2.1 dX12_rule_97 rfl (lv_at hl 3 rfl) ?_
            refine lv_iload_n X.1 X.2.1 dX12_rule_98 rfl (lv_at hl 0 rfl) ?_
            have t_132 : pI S_126 1230 x = v_96 := hk_127.fr.I' (by decide +kernel) ha_x_L_88 ev_96
            have pz_133 : (pI S_126 1230 x).toInt = v_96.toInt := (congrArg Int32.toInt t_132).trans rfl
            have zc_134 : zA S_126 x 1223 = zA T_87 x 1223 := zA_fr hk_127.fr ha_x_L_88 (ex3 (gQ_12_1223 hO_T_87.1 ha_x_L_88)) (by decide +kernel) (by decide +kernel)
            have zz_135 := congrFun zc_134 ((48 + v_28.toInt)).toNat
            have t_137 : At S_126 x 12 := hk_127.fr.at ha_x_L_88
            have zc_136 := z1223 hO_128.1 t_137 ((48 + v_28.toInt)).toNat
            have pz_138 : (pI S_126 1230 x).toInt = v_96.toInt := (congrArg Int32.toInt t_132).trans rfl
            have rr_139 : RrC S_126 x Rl C_103 := RrC_to (rg_zA hO_T_87.1 ha_x_L_88 hk_127.fr (by decide +kernel)) rc_106
            refine k_i (rm := { frames := 6, cells := 0, slots := 0, locals := 288 }) (av := [.ref x, .int (v_34)]) X hw (va_runV (As := [.int (v_34)]) (rest := []) (cfix X) (k_X12_condition6 l G cy κ S_126 _ x (v_34) ((48 + v_28.toInt)) (nxT (rB S x) (pI S 1228 x).toInt.toNat t_101) Rl C_103 hO_128.1 t_137 z_35 (by rw [rB_fr hG ha_x hO_128.fr (by decide +kernel), hO_128.fr.I' (g := 1228) (by decide +kernel) ha_x rfl]; exact rg_129) (by first | assumption | decide | omega) (by first | assumption | decide | omega) (by first | assumption | decide | omega) rr_139 (by omega)) (cwV 1 X.2.2.2.1 gX12_rule_X12_condition rfl rfl rfl (by decide +kernel) ⟨Nat.le_of_ble_eq_true rfl, Nat.le_of_ble_eq_true rfl⟩) (pre_V X hw _ t_137 rfl (by decide) rfl) rfl rfl hl.1 rfl (lv_room (Nat.le_of_ble_eq_true rfl)) dX12_rule_99 ⟨Nat.le_of_ble_eq_true rfl, Nat.le_of_ble_eq_true rfl⟩) 0 0 (Nat.le_of_ble_eq_true rfl) (Nat.le_of_ble_eq_true rfl) (fun rr_140 S_141 H locs hp hw hfr hnw => ?_)
            obtain ⟨hk_142, hp⟩ := hp
            have hO_143 : Ok MRt S S_141 := hO_128.call hk_142 (by decide +kernel)
            rcases hp with ⟨f_144, er_145⟩ | ⟨f_144, er_145⟩ <;> subst er_145
            · have z_b_146 := trivial
              rw [rB_fr hG ha_x hO_128.fr (by decide +kernel), hO_128.fr.I' (g := 1228) (by decide +kernel) ha_x rfl] at f_144
              have ok_147 := hdI (RGB_ok hG ha_x f_144.2.1)
              have ok_148 : ((nx3 (rB S x) (pI S 1228 x).toInt.toNat (nxT (rB S x) (pI S 1228 x).toInt.toNat t_101))).2.1 ≤ ((nx3 (rB S x) (pI S 1228 x).toInt.toNat (nxT (rB S x) (pI S 1228 x).toInt.toNat t_101))).2.2 ∧ ((nx3 (rB S x) (pI S 1228 x).toInt.toNat (nxT (rB S x) (pI S 1228 x).toInt.toNat t_101))).2.2 ≤ 400 := ⟨(hdE ok_147).1, (hdE ok_147).2.1⟩
              refine lv_if_ne (tgt := 83) X.1 X.2.1 dX12_rule_102 (by decide) (fun c_149 => ?_) (fun c_149 => absurd c_149 (by decide))
              obtain ⟨v_151, ev_151⟩ : ∃ v, pI S_141 1230 x = v := ⟨_, rfl⟩
              have rg_153 := And.intro (z_lo v_151) (z_hi v_151)
              have pz_154 : (pI S_141 1230 x).toInt = v_151.toInt := by rw [ev_151]
              have pz_155 : (pI S_141 1230 x).toInt = v_151.toInt := (congrArg Int32.toInt ev_151).trans rfl
              have t_156 : At S_141 x 12 := hk_142.fr.at t_137
              have zc_157 : zA S_126 x 1220 = zA S x 1220 := (zA_fr hk_127.fr ha_x_L_88 (ex3 (gQ_12_1220 hO_T_87.1 ha_x_L_88)) (by decide +kernel) (by decide +kernel)).trans zk_92
              have zc_158 : zA S_141 x 1220 = zA S x 1220 := (zA_fr hk_142.fr t_137 (ex3 (gQ_12_1220 hO_128.1 t_137)) (by decide +kernel) (by decide +kernel)).trans zc_157
              have rrl_159 : RrL S S_126 x := RrL_to iv_95 (rg_zA hO_T_87.1 ha_x_L_88 hk_127.fr (by decide +kernel)) (zA_fr hk_127.fr ha_x_L_88 (ex3 (gQ_12_1220 hO_T_87.1 ha_x_L_88)) (by decide +kernel) (by decide +kernel))
              have rrl_160 : RrL S S_141 x := RrL_tr rrl_159 f_144.2.2.2.2.2.2
              exact ih_L_86 _ (by omega) _ _ _ _  rfl hw t_156 hO_143 zc_158 ⟨_, _, _, f_144.2.1, er_105.trans ((cit_n (t1_sg ((isR_and rg_104).mp f_115.2))).trans ((cit_y ((isR_and rg_104).mp f_115.2)).trans (by rw [show (4 - zA T_87 x 1223 ((48 + v_28.toInt)).toNat).toNat = (3 - zA T_87 x 1223 ((48 + v_28.toInt)).toNat).toNat + 1 by omega, csF_ce f_144.1, show (4 - zA S_141 x 1223 ((48 + v_28.toInt)).toNat).toNat = (3 - zA T_87 x 1223 ((48 + v_28.toInt)).toNat).toNat by omega]))), f_144.2.2.2.2.2.1, cs_s ce_107 (t1_sg ((isR_and rg_104).mp f_115.2)) (by have h := rc_106.2.1; rw [show 48 + Rl.length = ((48 + v_28.toInt)).toNat by omega] at h; omega)⟩ (by omega) rrl_160 (lv_sub hl [0, 1, 2, 3] rfl)
            · have z_b_161 := trivial
              rw [rB_fr hG ha_x hO_128.fr (by decide +kernel), hO_128.fr.I' (g := 1228) (by decide +kernel) ha_x rfl] at f_144
              refine lv_if_ne (tgt := 83) X.1 X.2.1 dX12_rule_102 (by decide) (fun c_162 => absurd c_162 (by decide)) (fun c_162 => ?_)
              refine lv_iconst (v := 0) X.1 X.2.1 dX12_rule_105 (by decide) ?_
              obtain ⟨v_165, ev_165⟩ : ∃ v, pI S_141 1230 x = v := ⟨_, rfl⟩
              have rg_167 := And.intro (z_lo v_165) (z_hi v_165)
              have pz_168 : (pI S_141 1230 x).toInt = v_165.toInt := by rw [ev_165]
              have pz_169 : (pI S_141 1230 x).toInt = v_165.toInt := (congrArg Int32.toInt ev_165).trans rfl
              have cb_170 := csF_bad (c := zA S_126 x 1223 ((48 + v_28.toInt)).toNat) (by omega) (by omega) f_144.1
              rw [← show csF (rB S x) (pI S 1228 x).toInt.toNat 4 (nxT (rB S x) (pI S 1228 x).toInt.toNat t0) = csF (rB S x) (pI S 1228 x).toInt.toNat (4 - zA S_126 x 1223 ((48 + v_28.toInt)).toNat).toNat _ from (er_105.trans ((cit_n (t1_sg ((isR_and rg_104).mp f_115.2))).trans (cit_y ((isR_and rg_104).mp f_115.2)))).trans (by rw [show (4 - zA T_87 x 1223 ((48 + v_28.toInt)).toNat).toNat = (4 - zA S_126 x 1223 ((48 + v_28.toInt)).toNat).toNat by omega])] at cb_170
              have ea_163 : rueF (rB S x) (pI S 1228 x).toInt.toNat (zA S x 1220 4).toNat t0 = ((csF (rB S x) (pI S 1228 x).toInt.toNat 4 (nxT (rB S x) (pI S 1228 x).toInt.toNat t0)).1, t0) := (cit_n (fun h => h.1 ((isR_if hp_0).mp f_14.2))).trans ((cit_n (by omega)).trans ((cit_y ((isR_if hp_0).mp f_14.2)).trans (cit_n cb_170.1)))
              have rrl_171 : RrL S S_126 x := RrL_to iv_95 (rg_zA hO_T_87.1 ha_x_L_88 hk_127.fr (by decide +kernel)) (zA_fr hk_127.fr ha_x_L_88 (ex3 (gQ_12_1220 hO_T_87.1 ha_x_L_88)) (by decide +kernel) (by decide +kernel))
              have rrl_172 : RrL S S_141 x := RrL_tr rrl_171 f_144.2
              rw [hQQ]
              exact ret_z X hw hr hlocks (Nat.le_of_ble_eq_true rfl) (Nat.le_of_ble_eq_true rfl) (by decide) ⟨hO_143, Or.inr ⟨⟨by rw [ea_163]; exact cb_170, rrl_172⟩, rfl⟩⟩ dX12_rule_106
          · have z_b_173 := trivial
            rw [rB_fr hG ha_x hO_T_87.fr (by decide +kernel)] at f_115
            refine lv_if_eq (tgt := 107) X.1 X.2.1 dX12_rule_90 (by decide) (fun c_174 => ?_) (fun c_174 => absurd c_174 (by decide))
            refine lv_aload_n X.1 X.2.1 dX12_rule_107 rfl (lv_at hl 3 rfl) ?_
            refine lv_ldcwS (q := κ (100 + 24)) X.1 X.2.1 X.2.2.2.2.1 (show vk_R RX12 276 ":" (κ (100 + 24)) s from (X.2.2.2.2.2.2.2.2.2.2.2.2.2.2 24 (by decide)).1) dX12_rule_108 ?_
            have pz_175 : (pI T_87 1230 x).toInt = v_96.toInt := (congrArg Int32.toInt ev_96).trans rfl
            have pz_176 : (pI T_87 1230 x).toInt = v_96.toInt := (congrArg Int32.toInt ev_96).trans rfl
            refine k_i (rm := { frames := 6, cells := 0, slots := 0, locals := 288 }) (av := [.ref x, .ref (κ (100 + 24))]) X hw (va_runV (As := [.ref (κ (100 + 24))]) (rest := []) (cfix X) (k_X12_must2 l G cy κ T_87 _ x 24 t_101 hO_T_87.1 ha_x_L_88 (by decide) (by rw [rB_fr hG ha_x hO_T_87.fr (by decide +kernel), hO_T_87.fr.I' (g := 1228) (by decide +kernel) ha_x rfl]; exact rg_104)) (cwV 1 X.2.2.2.1 gX12_rule_X12_must rfl rfl rfl (by decide +kernel) ⟨Nat.le_of_ble_eq_true rfl, Nat.le_of_ble_eq_true rfl⟩) (pre_V X hw _ ha_x_L_88 rfl (by decide) rfl) rfl rfl hl.1 rfl (lv_room (Nat.le_of_ble_eq_true rfl)) dX12_rule_111 ⟨Nat.le_of_ble_eq_true rfl, Nat.le_of_ble_eq_true rfl⟩) 0 0 (Nat.le_of_ble_eq_true rfl) (Nat.le_of_ble_eq_true rfl) (fun rr_177 S_178 H locs hp hw hfr hnw => ?_)
            obtain ⟨hk_179, hp⟩ := hp
            have hO_180 : Ok MRt S S_178 := hO_T_87.call hk_179 (by decide +kernel)
            rcases hp with ⟨f_181, er_182⟩ | ⟨f_181, er_182⟩ <;> subst er_182
            · have z_b_183 := trivial
              rw [rB_fr hG ha_x hO_T_87.fr (by decide +kernel), hO_T_87.fr.I' (g := 1228) (by decide +kernel) ha_x rfl] at f_181
              obtain ⟨v_185, ev_185⟩ : ∃ v, pI S_178 1230 x = v := ⟨_, rfl⟩
              have rg_187 := And.intro (z_lo v_185) (z_hi v_185)
              have pz_188 : (pI S_178 1230 x).toInt = v_185.toInt := by rw [ev_185]
              have pz_189 : (pI S_178 1230 x).toInt = v_185.toInt := (congrArg Int32.toInt ev_185).trans rfl
              have ok_190 := hdI (RGB_ok hG ha_x f_181.2.1)
              have ok_191 : ((nxT (rB S x) (pI S 1228 x).toInt.toNat t_101)).2.1 ≤ ((nxT (rB S x) (pI S 1228 x).toInt.toNat t_101)).2.2 ∧ ((nxT (rB S x) (pI S 1228 x).toInt.toNat t_101)).2.2 ≤ 400 := ⟨(hdE ok_190).1, (hdE ok_190).2.1⟩
              refine lv_if_ne (tgt := 119) X.1 X.2.1 dX12_rule_114 (by decide) (fun c_192 => ?_) (fun c_192 => absurd c_192 (by decide))
              refine lv_aload_n X.1 X.2.1 dX12_rule_119 rfl (lv_at hl 3 rfl) ?_
              refine lv_ldcwS (q := κ (100 + 22)) X.1 X.2.1 X.2.2.2.2.1 (show vk_R RX12 269 "cast drop find throw cut stop " (κ (100 + 22)) s from (X.2.2.2.2.2.2.2.2.2.2.2.2.2.2 22 (by decide)).1) dX12_rule_120 ?_
              have t_193 : At S_178 x 12 := hk_179.fr.at ha_x_L_88
              have pz_194 : (pI S_178 1230 x).toInt = v_185.toInt := (congrArg Int32.toInt ev_185).trans rfl
              refine k_i (rm := { frames := 5, cells := 0, slots := 0, locals := 240 }) (av := [.ref x, .ref (κ (100 + 22))]) X hw (va_runV (As := [.ref (κ (100 + 22))]) (rest := []) (cfix X) (k_X12_which2 l G cy κ S_178 _ x 22 (nxT (rB S x) (pI S 1228 x).toInt.toNat t_101) hO_180.1 t_193 (by decide) f_181.2.1.1 (by first | assumption | omega) (by first | assumption | omega) (by first | assumption | omega) (by decide)) (cwV 1 X.2.2.2.1 gX12_rule_X12_which rfl rfl rfl (by decide +kernel) ⟨Nat.le_of_ble_eq_true rfl, Nat.le_of_ble_eq_true rfl⟩) (pre_V X hw _ t_193 rfl (by decide) rfl) rfl rfl hl.1 rfl (lv_room (Nat.le_of_ble_eq_true rfl)) dX12_rule_123 ⟨Nat.le_of_ble_eq_true rfl, Nat.le_of_ble_eq_true rfl⟩) 0 0 (Nat.le_of_ble_eq_true rfl) (Nat.le_of_ble_eq_true rfl) (fun rr_195 S_196 H locs hp hw hfr hnw => ?_)
              obtain ⟨e2, hp⟩ := hp
              subst e2
              obtain ⟨wh_197, wh_198, wh_199⟩ := hp
              rw [rB_fr hG ha_x hO_180.fr (by decide +kernel)] at wh_199
              rw [show wI 22 = ALs from rfl] at wh_199
              refine lv_istore_n (lv' := [(2, .int (rr_195)), (3, .int (v_34)), (1, .int 1), (0, .ref x)]) X.1 X.2.1 dX12_rule_126 rfl hl (by decide) rfl (fun ls hl => ?_)
              refine lv_iload_n X.1 X.2.1 dX12_rule_127 rfl (lv_at hl 0 rfl) ?_
              refine lv_iconst (v := (-1)) X.1 X.2.1 dX12_rule_128 (by decide) ?_
              refine lv_icmp_ne (tgt := 138) X.1 X.2.1 dX12_rule_129 (by decide) (fun c_200 => ?_) (fun c_200 => ?_)
              · have z_b_201 := trivial
                have k_202 : rr_195.toInt ≠ (-1) := z_ne rfl ti_m1 c_200
                refine lv_aload_n X.1 X.2.1 dX12_rule_138 rfl (lv_at hl 3 rfl) ?_
                obtain ⟨q_203, h_204, h_205, h_206⟩ := gQ_12_1221 hO_180.1 t_193
                refine r_getR (g := 1221) X hw t_193 rfl 21 h_204 (by decide) rfl inn_X12_rule_12 (by decide) (X.2.2.2.1 (.fieldLink RX12 64 "SilkMillModel" "act" "[I") (by decide +kernel)) rfl (gv_1221 _ _) dX12_rule_139 ?_
                refine lv_iload_n X.1 X.2.1 dX12_rule_142 rfl (lv_at hl 1 rfl) ?_
                refine lv_iload_n X.1 X.2.1 dX12_rule_143 rfl (lv_at hl 0 rfl) ?_
                refine r_iast X hw h_205 rfl (by rw [h_206]; exact z_ix z_35 (by omega) (by omega)) dX12_rule_144 (fun H locs hw => ?_)
                obtain ⟨S_207, eS_207⟩ : ∃ T, T = sA S_178 q_203 (upd (pA S_178 q_203) (Int32.toNatClampNeg (v_34)) (rr_195)) := ⟨_, rfl⟩
                rw [← eS_207] at hw
                have hO_208 : Ok MRt S S_207 := hO_180.sA eS_207 h_205 (by decide +kernel) (uA_634 hO_180.1 h_205)
                have h_209 : pA S_207 q_203 (Int32.toNatClampNeg (v_34)) = rr_195 := tA_sAs eS_207
                have t_210 : pR S_207 1221 x = some q_203 := tR_sA eS_207 h_204
                have t_212 : pR S_178 1221 x = some q_203 := by have h := t_210; rw [eS_207, pR_sA] at h; exact h
                have zs_211 : ∀ j, zA S_207 x 1221 j = if j = ((48 + v_28.toInt)).toNat then rr_195.toInt else zA S_178 x 1221 j := by have h := zA_sAs eS_207 t_212 rfl; rw [z_nc z_35 (by omega)] at h; exact h
                have ce_213 : CeX S_178 S_207 x 1221 ((48 + v_28.toInt)).toNat (rr_195.toInt) := CeX_mk hO_180.1 t_193 eS_207 h_205 (by decide) zs_211
                refine lv_aload_n X.1 X.2.1 dX12_rule_145 rfl (lv_at hl 3 rfl) ?_
                have t_214 : At S_207 x 12 := tAt_sA eS_207 t_193
                have rg_215 := RGB_sA f_181.2.1 eS_207
                have ok_216 := hdI (RGB_ok hG ha_x rg_215)
                have ok_217 : ((nxT (rB S x) (pI S 1228 x).toInt.toNat t_101)).2.1 ≤ ((nxT (rB S x) (pI S 1228 x).toInt.toNat t_101)).2.2 ∧ ((nxT (rB S x) (pI S 1228 x).toInt.toNat t_101)).2.2 ≤ 400 := ⟨(hdE ok_216).1, (hdE ok_216).2.1⟩
                obtain ⟨v_218, ev_218⟩ : ∃ v, pI S_207 1233 x = v := ⟨_, rfl⟩
                have rg_219 := gI_12_1233 hO_208.1 t_214; rw [ev_218] at rg_219
                have pz_220 : (pI S_207 1233 x).toInt = v_218.toInt := by rw [ev_218]
                have pz_221 : (pI S_207 1233 x).toInt = v_218.toInt := (congrArg Int32.toInt ev_218).trans rfl
                refine k_v (rm := { frames := 2, cells := 0, slots := 0, locals := 96 }) (av := [.ref x]) X hw (va_runV (As := []) (rest := []) (cfix X) (k_X12_token2 l G cy κ S_207 _ x hO_208.1 t_214) (cwV 0 X.2.2.2.1 gX12_rule_X12_token rfl rfl rfl (by decide +kernel) ⟨Nat.le_of_ble_eq_true rfl, Nat.le_of_ble_eq_true rfl⟩) (pre_V X hw _ t_214 rfl (by decide) rfl) rfl rfl hl.1 rfl (lv_room (Nat.le_of_ble_eq_true rfl)) dX12_rule_146 ⟨Nat.le_of_ble_eq_true rfl, Nat.le_of_ble_eq_true rfl⟩) 0 0 (Nat.le_of_ble_eq_true rfl) (Nat.le_of_ble_eq_true rfl) (fun S_223 H locs hp hw hfr hnw => ?_)
                obtain ⟨hk_224, hp⟩ := hp
                have hO_225 : Ok MRt S S_223 := hO_208.call hk_224 (by decide +kernel)
                have rg_226 : RGB (rB S x) (pI S 1228 x).toInt.toNat S_223 x (nxT (rB S x) (pI S 1228 x).toInt.toNat (nxT (rB S x) (pI S 1228 x).toInt.toNat t_101)) := RGB_adv rg_215 (rB_fr hG ha_x hO_208.fr (by decide +kernel)) (by rw [hO_208.fr.I' (g := 1228) (by decide +kernel) ha_x rfl]) (by omega) hp
                have ok_227 := hdI (RGB_ok hG ha_x rg_226)
                have ok_228 : ((nxT (rB S x) (pI S 1228 x).toInt.toNat (nxT (rB S x) (pI S 1228 x).toInt.toNat t_101))).2.1 ≤ ((nxT (rB S x) (pI S 1228 x).toInt.toNat (nxT (rB S x) (pI S 1228 x).toInt.toNat t_101))).2.2 ∧ ((nxT (rB S x) (pI S 1228 x).toInt.toNat (nxT (rB S x) (pI S 1228 x).toInt.toNat t_101))).2.2 ≤ 400 := ⟨(hdE ok_227).1, (hdE ok_227).2.1⟩
                refine lv_aload_n X.1 X.2.1 dX12_rule_149 rfl (lv_at hl 3 rfl) ?_
                have t_229 : At S_223 x 12 := hk_224.fr.at t_214
                obtain ⟨q_230, h_231, h_232, h_233⟩ := gQ_12_1222 hO_225.1 t_229
                refine r_getR (g := 1222) X hw t_229 rfl 22 h_231 (by decide) rfl inn_X12_rule_12 (by decide) (X.2.2.2.1 (.fieldLink RX12 67 "SilkMillModel" "actNumber" "[I") (by decide +kernel)) rfl (gv_1222 _ _) dX12_rule_150 ?_
                refine lv_iload_n X.1 X.2.1 dX12_rule_153 rfl (lv_at hl 1 rfl) ?_
                refine lv_iload_n X.1 X.2.1 dX12_rule_154 rfl (lv_at hl 0 rfl) ?_
                refine lv_iconst (v := 5) X.1 X.2.1 dX12_rule_155 (by decide) ?_
                refine lv_icmp_ne (tgt := 166) X.1 X.2.1 dX12_rule_156 (by decide) (fun c_234 => ?_) (fun c_234 => ?_)
                · have z_b_235 := trivial
                  have k_236 : rr_195.toInt ≠ 5 := z_ne rfl ti_5 c_234
                  refine lv_iconst (v := 0) X.1 X.2.1 dX12_rule_166 (by decide) ?_
                  refine r_iast X hw h_232 rfl (by rw [h_233]; exact z_ix z_35 (by omega) (by omega)) dX12_rule_167 (fun H locs hw => ?_)
                  obtain ⟨S_237, eS_237⟩ : ∃ T, T = sA S_223 q_230 (upd (pA S_223 q_230) (Int32.toNatClampNeg (v_34)) (0)) := ⟨_, rfl⟩
                  rw [← eS_237] at hw
                  have hO_238 : Ok MRt S S_237 := hO_225.sA eS_237 h_232 (by decide +kernel) (uA_654 hO_225.1 h_232)
                  have h_239 : pA S_237 q_230 (Int32.toNatClampNeg (v_34)) = 0 := tA_sAs eS_237
                  have t_240 : pR S_237 1222 x = some q_230 := tR_sA eS_237 h_231
                  have t_242 : pR S_223 1222 x = some q_230 := by have h := t_240; rw [eS_237, pR_sA] at h; exact h
                  have zs_241 : ∀ j, zA S_237 x 1222 j = if j = ((48 + v_28.toInt)).toNat then 0 else zA S_223 x 1222 j := by have h := zA_sAs eS_237 t_242 ti_0; rw [z_nc z_35 (by omega)] at h; exact h
                  have ce_243 : CeX S_223 S_237 x 1222 ((48 + v_28.toInt)).toNat (0) := CeX_mk hO_225.1 t_229 eS_237 h_232 (by decide) zs_241
                  refine lv_aload_n X.1 X.2.1 dX12_rule_168 rfl (lv_at hl 3 rfl) ?_
                  refine lv_ldcwS (q := κ (100 + 25)) X.1 X.2.1 X.2.2.2.2.1 (show vk_R RX12 281 ";" (κ (100 + 25)) s from (X.2.2.2.2.2.2.2.2.2.2.2.2.2.2 25 (by decide)).1) dX12_rule_169 ?_
                  have rg_244 := RGB_sA rg_226 eS_237
                  have t_245 : pI S_207 1230 x = v_185 := tI_sA eS_207 ev_185
                  have t_246 : pI S_223 1230 x = v_185 := hk_224.fr.I' (by decide +kernel) t_214 t_245
                  have t_247 : pI S_237 1230 x = v_185 := tI_sA eS_237 t_246
                  have pz_248 : (pI S_237 1230 x).toInt = v_185.toInt := (congrArg Int32.toInt t_247).trans rfl
                  have t_249 : At S_237 x 12 := tAt_sA eS_237 t_229
                  have pz_250 : (pI S_237 1230 x).toInt = v_185.toInt := (congrArg Int32.toInt t_247).trans rfl
                  refine k_i (rm := { frames := 6, cells := 0, slots := 0, locals := 288 }) (av := [.ref x, .ref (κ (100 + 25))]) X hw (va_runV (As := [.ref (κ (100 + 25))]) (rest := []) (cfix X) (k_X12_must2 l G cy κ S_237 _ x 25 (nxT (rB S x) (pI S 1228 x).toInt.toNat (nxT (rB S x) (pI S 1228 x).toInt.toNat t_101)) hO_238.1 t_249 (by decide) (by rw [rB_fr hG ha_x hO_238.fr (by decide +kernel), hO_238.fr.I' (g := 1228) (by decide +kernel) ha_x rfl]; exact rg_244)) (cwV 1 X.2.2.2.1 gX12_rule_X12_must rfl rfl rfl (by decide +kernel) ⟨Nat.le_of_ble_eq_true rfl, Nat.le_of_ble_eq_true rfl⟩) (pre_V X hw _ t_249 rfl (by decide) rfl) rfl rfl hl.1 rfl (lv_room (Nat.le_of_ble_eq_true rfl)) dX12_rule_172 ⟨Nat.le_of_ble_eq_true rfl, Nat.le_of_ble_eq_true rfl⟩) 0 0 (Nat.le_of_ble_eq_true rfl) (Nat.le_of_ble_eq_true rfl) (fun rr_251 S_252 H locs hp hw hfr hnw => ?_)
                  obtain ⟨hk_253, hp⟩ := hp
                  have hO_254 : Ok MRt S S_252 := hO_238.call hk_253 (by decide +kernel)
                  rcases hp with ⟨f_255, er_256⟩ | ⟨f_255, er_256⟩ <;> subst er_256
                  · have z_b_257 := trivial
                    rw [rB_fr hG ha_x hO_238.fr (by decide +kernel), hO_238.fr.I' (g := 1228) (by decide +kernel) ha_x rfl] at f_255
                    obtain ⟨v_259, ev_259⟩ : ∃ v, pI S_252 1230 x = v := ⟨_, rfl⟩
                    have rg_261 := And.intro (z_lo v_259) (z_hi v_259)
                    have pz_262 : (pI S_252 1230 x).toInt = v_259.toInt := by rw [ev_259]
                    have pz_263 : (pI S_252 1230 x).toInt = v_259.toInt := (congrArg Int32.toInt ev_259).trans rfl
                    have ok_264 := hdI (RGB_ok hG ha_x f_255.2.1)
                    have ok_265 : ((nxT (rB S x) (pI S 1228 x).toInt.toNat (nxT (rB S x) (pI S 1228 x).toInt.toNat (nxT (rB S x) (pI S 1228 x).toInt.toNat t_101)))).2.1 ≤ ((nxT (rB S x) (pI S 1228 x).toInt.toNat (nxT (rB S x) (pI S 1228 x).toInt.toNat (nxT (rB S x) (pI S 1228 x).toInt.toNat t_101)))).2.2 ∧ ((nxT (rB S x) (pI S 1228 x).toInt.toNat (nxT (rB S x) (pI S 1228 x).toInt.toNat (nxT (rB S x) (pI S 1228 x).toInt.toNat t_101)))).2.2 ≤ 400 := ⟨(hdE ok_264).1, (hdE ok_264).2.1⟩
                    refine lv_if_ne (tgt := 180) X.1 X.2.1 dX12_rule_175 (by decide) (fun c_266 => ?_) (fun c_266 => absurd c_266 (by decide))
                    refine lv_aload_n X.1 X.2.1 dX12_rule_180 rfl (lv_at hl 3 rfl) ?_
                    have t_267 : At S_252 x 12 := hk_253.fr.at t_249
                    obtain ⟨q_268, h_269, h_270, h_271⟩ := gQ_12_1220 hO_254.1 t_267
                    refine r_getR (g := 1220) X hw t_267 rfl 20 h_269 (by decide) rfl inn_X12_rule_12 (by decide) (X.2.2.2.1 (.fieldLink RX12 61 "SilkMillModel" "rules" "[I") (by decide +kernel)) rfl (gv_1220 _ _) dX12_rule_181 ?_
                    refine lv_iconst (v := 4) X.1 X.2.1 dX12_rule_184 (by decide) ?_
                    refine lv_dup2_11 X.1 X.2.1 dX12_rule_185 rfl rfl ?_
                    refine r_iald X hw h_270 rfl (by rw [h_271]; exact z_ix ti_4 (by omega) (by omega)) dX12_rule_186 ?_
                    refine lv_topi (fun v_272 ev_272 => ?_)
                    have z_273 := gE_614 hO_254.1 h_270 (Int32.toNatClampNeg (4)); rw [← ev_272] at z_273
                    have ev_272 := ev_272.symm
                    have zf_274 : zA S_252 x 1220 4 = v_272.toInt := (zA_of (z := 4) h_269 ti_4 (by omega) ev_272)
                    have zc_275 : zA S_178 x 1220 = zA S x 1220 := (zA_fr hk_179.fr ha_x_L_88 (ex3 (gQ_12_1220 hO_T_87.1 ha_x_L_88)) (by decide +kernel) (by decide +kernel)).trans zk_92
                    have zc_276 : zA S_207 x 1220 = zA S x 1220 := (zA_sAn eS_207 (ex3 (gQ_12_1220 hO_180.1 t_193)) h_205 rfl).trans zc_275
                    have zc_277 : zA S_223 x 1220 = zA S x 1220 := (zA_fr hk_224.fr t_214 (ex3 (gQ_12_1220 hO_208.1 t_214)) (by decide +kernel) (by decide +kernel)).trans zc_276
                    have zc_278 : zA S_237 x 1220 = zA S x 1220 := (zA_sAn eS_237 (ex3 (gQ_12_1220 hO_225.1 t_229)) h_232 rfl).trans zc_277
                    have zc_279 : zA S_252 x 1220 = zA S x 1220 := (zA_fr hk_253.fr t_249 (ex3 (gQ_12_1220 hO_238.1 t_249)) (by decide +kernel) (by decide +kernel)).trans zc_278
                    have zz_280 := congrFun zc_279 4
                    refine lv_iconst (v := 1) X.1 X.2.1 dX12_rule_187 (by decide) ?_
                    refine lv_iadd X.1 X.2.1 dX12_rule_188 ?_
                    refine lv_topi (fun v_281 ev_281 => ?_)
                    have z_282 : v_281.toInt = v_272.toInt + 1 := z_add ev_281 rfl ti_1 (by omega) (by omega)
                    refine r_iast X hw h_270 rfl (by rw [h_271]; exact z_ix ti_4 (by omega) (by omega)) dX12_rule_189 (fun H locs hw => ?_)
                    obtain ⟨S_283, eS_283⟩ : ∃ T, T = sA S_252 q_268 (upd (pA S_252 q_268) (Int32.toNatClampNeg (4)) (v_281)) := ⟨_, rfl⟩
                    rw [← eS_283] at hw
                    have hO_284 : Ok MRt S S_283 := hO_254.sA eS_283 h_270 (by decide +kernel) (uA_614 hO_254.1 h_270 (by omega) (by omega))
                    have h_285 : pA S_283 q_268 (Int32.toNatClampNeg (4)) = v_281 := tA_sAs eS_283
                    have t_286 : pR S_283 1220 x = some q_268 := tR_sA eS_283 h_269
                    have t_288 : pR S_252 1220 x = some q_268 := by have h := t_286; rw [eS_283, pR_sA] at h; exact h
                    have zs_287 : ∀ j, zA S_283 x 1220 j = if j = (4 : Int).toNat then (v_272.toInt + 1) else zA S_252 x 1220 j := by have h := zA_sAs eS_283 t_288 z_282; rw [z_nc ti_4 (by omega)] at h; exact h
                    have zs_289 : zA S_283 x 1220 4 = (v_272.toInt + 1) := by have h := zs_287 4; rw [if_pos (by decide)] at h; exact h
                    have t_291 : pR S_252 1220 x = some q_268 := by have h := t_286; rw [eS_283, pR_sA] at h; exact h
                    have zs_290 : ∀ j, zA S_283 x 1220 j = if j = (4 : Int).toNat then (v_272.toInt + 1) else zA S_252 x 1220 j := by have h := zA_sAs eS_283 t_291 z_282; rw [z_nc ti_4 (by omega)] at h; exact h
                    refine lv_iconst (v := 1) X.1 X.2.1 dX12_rule_190 (by decide) ?_
                    have t_293 : pI S_283 1230 x = v_259 := tI_sA eS_283 ev_259
                    have pz_294 : (pI S_283 1230 x).toInt = v_259.toInt := (congrArg Int32.toInt t_293).trans rfl
                    have cs_295 : csF (rB S x) (pI S 1228 x).toInt.toNat 4 (nxT (rB S x) (pI S 1228 x).toInt.toNat t0) = (0, nxT (rB S x) (pI S 1228 x).toInt.toNat t_101) := er_105.trans (cit_y ((isR_co rg_104).mp f_181.1.2))
                    have ea_292 : rueF (rB S x) (pI S 1228 x).toInt.toNat (zA S x 1220 4).toNat t0 = acF (rB S x) (pI S 1228 x).toInt.toNat (csF (rB S x) (pI S 1228 x).toInt.toNat 4 (nxT (rB S x) (pI S 1228 x).toInt.toNat t0)).2 := (cit_n (fun h => h.1 ((isR_if hp_0).mp f_14.2))).trans ((cit_n (by omega)).trans ((cit_y ((isR_if hp_0).mp f_14.2)).trans (cit_y (by rw [cs_295]))))
                    rw [cs_295] at ea_292
                    have ea_292b : rueF (rB S x) (pI S 1228 x).toInt.toNat (zA S x 1220 4).toNat t0 = acF (rB S x) (pI S 1228 x).toInt.toNat (nxT (rB S x) (pI S 1228 x).toInt.toNat t_101) := ea_292
                    have ec_296 : acF (rB S x) (pI S 1228 x).toInt.toNat (nxT (rB S x) (pI S 1228 x).toInt.toNat t_101) = (0, nxT (rB S x) (pI S 1228 x).toInt.toNat (nxT (rB S x) (pI S 1228 x).toInt.toNat (nxT (rB S x) (pI S 1228 x).toInt.toNat t_101))) := (cit_n (by omega)).trans ((cit_n (by omega)).trans (cit_y ((isR_se rg_244).mp f_255.1.2)))
                    have rg_297 := RGB_sA f_255.2.1 eS_283
                    have rrl_298 : RrL S S_178 x := RrL_to iv_95 (rg_zA hO_T_87.1 ha_x_L_88 hk_179.fr (by decide +kernel)) (zA_fr hk_179.fr ha_x_L_88 (ex3 (gQ_12_1220 hO_T_87.1 ha_x_L_88)) (by decide +kernel) (by decide +kernel))
                    have rrl_299 : RrL S S_207 x := RrL_ce rrl_298 ce_213 (zA_sAn eS_207 (ex3 (gQ_12_1220 hO_180.1 t_193)) h_205 rfl) (by omega)
                    have rrl_300 : RrL S S_223 x := RrL_to rrl_299 (rg_zA hO_208.1 t_214 hk_224.fr (by decide +kernel)) (zA_fr hk_224.fr t_214 (ex3 (gQ_12_1220 hO_208.1 t_214)) (by decide +kernel) (by decide +kernel))
                    have rrl_301 : RrL S S_237 x := RrL_ce rrl_300 ce_243 (zA_sAn eS_237 (ex3 (gQ_12_1220 hO_225.1 t_229)) h_232 rfl) (by omega)
                    have rrl_302 : RrL S S_252 x := RrL_to rrl_301 (rg_zA hO_238.1 t_249 hk_253.fr (by decide +kernel)) (zA_fr hk_253.fr t_249 (ex3 (gQ_12_1220 hO_238.1 t_249)) (by decide +kernel) (by decide +kernel))
                    have rrl_303 : RrL S S_283 x := RrL_tr rrl_302 ⟨fun _ _ => (by rw [(rg_sAo hO_254.1 t_267 eS_283 h_270 (by decide)) 1221 (by decide), (rg_sAo hO_254.1 t_267 eS_283 h_270 (by decide)) 1222 (by decide), (rg_sAo hO_254.1 t_267 eS_283 h_270 (by decide)) 1223 (by decide)]; exact ⟨rfl, rfl, rfl⟩), fun _ _ => (by rw [(rg_sAo hO_254.1 t_267 eS_283 h_270 (by decide)) 1224 (by decide), (rg_sAo hO_254.1 t_267 eS_283 h_270 (by decide)) 1225 (by decide), (rg_sAo hO_254.1 t_267 eS_283 h_270 (by decide)) 1226 (by decide)]; exact ⟨rfl, rfl, rfl⟩), fun j hj => (by rw [zs_290 j, if_neg (by omega)])⟩
                    have rr_304 : RrC S_178 x Rl C_103 := RrC_to (rg_zA hO_T_87.1 ha_x_L_88 hk_179.fr (by decide +kernel)) rc_106
                    have rr_305 := RrC_ce2 hO_180.1 t_193 (by decide) ce_213 (by omega) rr_304
                    have rr_306 : RrC S_223 x Rl C_103 := RrC_to (rg_zA hO_208.1 t_214 hk_224.fr (by decide +kernel)) rr_305.1
                    have cl_307 : zA S_223 x 1221 (48 + (Rl).length) = rr_195.toInt := by rw [(rg_zA hO_208.1 t_214 hk_224.fr (by decide +kernel)) 1221 (by decide)]; exact rr_305.2
                    have rr_308 := RrC_ce2 hO_225.1 t_229 (by decide) ce_243 (by omega) rr_306
                    have cl_309 : zA S_237 x 1221 (48 + (Rl).length) = rr_195.toInt := by rw [ce_243.2 1221 (by decide) (by decide)]; exact cl_307
                    have rr_310 : RrC S_252 x Rl C_103 := RrC_to (rg_zA hO_238.1 t_249 hk_253.fr (by decide +kernel)) rr_308.1
                    have cl_311 : zA S_252 x 1221 (48 + (Rl).length) = rr_195.toInt := by rw [(rg_zA hO_238.1 t_249 hk_253.fr (by decide +kernel)) 1221 (by decide)]; exact cl_309
                    have cl_312 : zA S_252 x 1222 (48 + (Rl).length) = 0 := by rw [(rg_zA hO_238.1 t_249 hk_253.fr (by decide +kernel)) 1222 (by decide)]; exact rr_308.2
                    have rr_313 : RrC S_283 x Rl C_103 := RrC_to (rg_sAo hO_254.1 t_267 eS_283 h_270 (by decide)) rr_310
                    have cl_314 : zA S_283 x 1221 (48 + (Rl).length) = rr_195.toInt := by rw [(rg_sAo hO_254.1 t_267 eS_283 h_270 (by decide)) 1221 (by decide)]; exact cl_311
                    have cl_315 : zA S_283 x 1222 (48 + (Rl).length) = 0 := by rw [(rg_sAo hO_254.1 t_267 eS_283 h_270 (by decide)) 1222 (by decide)]; exact cl_312
                    have el_316 : csL (rB S x) (pI S 1228 x).toInt.toNat 4 (nxT (rB S x) (pI S 1228 x).toInt.toNat t0) = C_103 := cs_e ce_107 ((isR_co rg_104).mp f_181.1.2)
                    have cs_317 : (csF (rB S x) (pI S 1228 x).toInt.toNat 4 (nxT (rB S x) (pI S 1228 x).toInt.toNat t0)).2 = (nxT (rB S x) (pI S 1228 x).toInt.toNat t_101) := by rw [show csF (rB S x) (pI S 1228 x).toInt.toNat 4 (nxT (rB S x) (pI S 1228 x).toInt.toNat t0) = (0, (nxT (rB S x) (pI S 1228 x).toInt.toNat t_101)) from er_105.trans (cit_y ((isR_co rg_104).mp f_181.1.2))]
                    have av_318 : acV (rB S x) (pI S 1228 x).toInt.toNat (nxT (rB S x) (pI S 1228 x).toInt.toNat t_101) = (rr_195, 0) := acV_n wh_199 (by omega)
                    have rv_319 : ruV (rB S x) (pI S 1228 x).toInt.toNat t0 = (rr_195, 0, C_103) := by rw [ruV_i ((isR_if hp_0).mp f_14.2), cs_317, el_316, av_318]
                    rw [hQQ]
                    exact ret_z X hw hr hlocks (Nat.le_of_ble_eq_true rfl) (Nat.le_of_ble_eq_true rfl) (by decide) ⟨hO_284, Or.inl ⟨by rw [ea_292b, ec_296]; exact ⟨rfl, rg_297, by omega, by omega, by omega, (by rw [rv_319]; exact RrC_end rr_313 (cl_314) (cl_315.trans ti_0.symm)), rrl_303⟩, rfl⟩⟩ dX12_rule_191
                  · have z_b_320 := trivial
                    rw [rB_fr hG ha_x hO_238.fr (by decide +kernel)] at f_255
                    obtain ⟨v_322, ev_322⟩ : ∃ v, pI S_252 1230 x = v := ⟨_, rfl⟩
                    have rg_324 := And.intro (z_lo v_322) (z_hi v_322)
                    have pz_325 : (pI S_252 1230 x).toInt = v_322.toInt := by rw [ev_322]
                    have pz_326 : (pI S_252 1230 x).toInt = v_322.toInt := (congrArg Int32.toInt ev_322).trans rfl
                    refine lv_if_ne (tgt := 180) X.1 X.2.1 dX12_rule_175 (by decide) (fun c_327 => absurd c_327 (by decide)) (fun c_327 => ?_)
                    refine lv_iconst (v := 0) X.1 X.2.1 dX12_rule_178 (by decide) ?_
                    have pz_329 : (pI S_252 1230 x).toInt = v_322.toInt := (congrArg Int32.toInt ev_322).trans rfl
                    have cs_330 : csF (rB S x) (pI S 1228 x).toInt.toNat 4 (nxT (rB S x) (pI S 1228 x).toInt.toNat t0) = (0, nxT (rB S x) (pI S 1228 x).toInt.toNat t_101) := er_105.trans (cit_y ((isR_co rg_104).mp f_181.1.2))
                    have ea_328 : rueF (rB S x) (pI S 1228 x).toInt.toNat (zA S x 1220 4).toNat t0 = acF (rB S x) (pI S 1228 x).toInt.toNat (csF (rB S x) (pI S 1228 x).toInt.toNat 4 (nxT (rB S x) (pI S 1228 x).toInt.toNat t0)).2 := (cit_n (fun h => h.1 ((isR_if hp_0).mp f_14.2))).trans ((cit_n (by omega)).trans ((cit_y ((isR_if hp_0).mp f_14.2)).trans (cit_y (by rw [cs_330]))))
                    rw [cs_330] at ea_328
                    have ea_328b : rueF (rB S x) (pI S 1228 x).toInt.toNat (zA S x 1220 4).toNat t0 = acF (rB S x) (pI S 1228 x).toInt.toNat (nxT (rB S x) (pI S 1228 x).toInt.toNat t_101) := ea_328
                    have ec_331 : acF (rB S x) (pI S 1228 x).toInt.toNat (nxT (rB S x) (pI S 1228 x).toInt.toNat t_101) = (1, (nxT (rB S x) (pI S 1228 x).toInt.toNat (nxT (rB S x) (pI S 1228 x).toInt.toNat t_101))) := (cit_n (by omega)).trans ((cit_n (by omega)).trans (cit_n (fun h => f_255.1 ⟨by omega, (isR_se rg_244).mpr h⟩)))
                    have rrl_332 : RrL S S_178 x := RrL_to iv_95 (rg_zA hO_T_87.1 ha_x_L_88 hk_179.fr (by decide +kernel)) (zA_fr hk_179.fr ha_x_L_88 (ex3 (gQ_12_1220 hO_T_87.1 ha_x_L_88)) (by decide +kernel) (by decide +kernel))
                    have rrl_333 : RrL S S_207 x := RrL_ce rrl_332 ce_213 (zA_sAn eS_207 (ex3 (gQ_12_1220 hO_180.1 t_193)) h_205 rfl) (by omega)
                    have rrl_334 : RrL S S_223 x := RrL_to rrl_333 (rg_zA hO_208.1 t_214 hk_224.fr (by decide +kernel)) (zA_fr hk_224.fr t_214 (ex3 (gQ_12_1220 hO_208.1 t_214)) (by decide +kernel) (by decide +kernel))
                    have rrl_335 : RrL S S_237 x := RrL_ce rrl_334 ce_243 (zA_sAn eS_237 (ex3 (gQ_12_1220 hO_225.1 t_229)) h_232 rfl) (by omega)
                    have rrl_336 : RrL S S_252 x := RrL_to rrl_335 (rg_zA hO_238.1 t_249 hk_253.fr (by decide +kernel)) (zA_fr hk_253.fr t_249 (ex3 (gQ_12_1220 hO_238.1 t_249)) (by decide +kernel) (by decide +kernel))
                    rw [hQQ]
                    exact ret_z X hw hr hlocks (Nat.le_of_ble_eq_true rfl) (Nat.le_of_ble_eq_true rfl) (by decide) ⟨hO_254, Or.inr ⟨⟨by rw [ea_328b, ec_331]; exact ⟨(by decide : (1 : Int) ≠ 0), by have h := f_255.2; show _ = (1 : Int); omega⟩, rrl_336⟩, rfl⟩⟩ dX12_rule_179
                · have z_b_337 := trivial
                  have k_338 : rr_195.toInt = 5 := z_eq rfl ti_5 c_234
                  refine lv_aload_n X.1 X.2.1 dX12_rule_159 rfl (lv_at hl 3 rfl) ?_
                  have t_339 : pI S_207 1230 x = v_185 := tI_sA eS_207 ev_185
                  have t_340 : pI S_223 1230 x = v_185 := hk_224.fr.I' (by decide +kernel) t_214 t_339
                  have pz_341 : (pI S_223 1230 x).toInt = v_185.toInt := (congrArg Int32.toInt t_340).trans rfl
                  refine k_i (rm := { frames := 3, cells := 0, slots := 0, locals := 144 }) (av := [.ref x]) X hw (va_runV (As := []) (rest := [.int (v_34), .ref q_230]) (cfix X) (k_X12_number2 l G cy κ S_223 _ x (nxT (rB S x) (pI S 1228 x).toInt.toNat (nxT (rB S x) (pI S 1228 x).toInt.toNat t_101)) hO_225.1 t_229 (by rw [rB_fr hG ha_x hO_225.fr (by decide +kernel), hO_225.fr.I' (g := 1228) (by decide +kernel) ha_x rfl]; exact rg_226)) (cwV 0 X.2.2.2.1 gX12_rule_X12_number rfl rfl rfl (by decide +kernel) ⟨Nat.le_of_ble_eq_true rfl, Nat.le_of_ble_eq_true rfl⟩) (pre_V X hw _ t_229 rfl (by decide) rfl) rfl rfl hl.1 rfl (lv_room (Nat.le_of_ble_eq_true rfl)) dX12_rule_160 ⟨Nat.le_of_ble_eq_true rfl, Nat.le_of_ble_eq_true rfl⟩) 0 0 (Nat.le_of_ble_eq_true rfl) (Nat.le_of_ble_eq_true rfl) (fun rr_342 S_343 H locs hp hw hfr hnw => ?_)
                  obtain ⟨hk_344, hp⟩ := hp
                  have hO_345 : Ok MRt S S_343 := hO_225.call hk_344 (by decide +kernel)
                  obtain ⟨nm_346, nm_347, nm_348, nm_349⟩ := hp
                  rw [rB_fr hG ha_x hO_225.fr (by decide +kernel), hO_225.fr.I' (g := 1228) (by decide +kernel) ha_x rfl] at nm_348
                  rw [rB_fr hG ha_x hO_225.fr (by decide +kernel), hO_225.fr.I' (g := 1228) (by decide +kernel) ha_x rfl] at nm_349
                  by_cases hd_350 : (nxT (rB S x) (pI S 1228 x).toInt.toNat (nxT (rB S x) (pI S 1228 x).toInt.toNat t_101)).1 = 2
                  · have nq_351 := nm_348 hd_350
                    have nfk_352 := nq_351.2.2
                    obtain ⟨v_354, ev_354⟩ : ∃ v, pI S_343 1230 x = v := ⟨_, rfl⟩
                    have rg_356 := And.intro (z_lo v_354) (z_hi v_354)
                    have pz_357 : (pI S_343 1230 x).toInt = v_354.toInt := by rw [ev_354]
                    have pz_358 : (pI S_343 1230 x).toInt = v_354.toInt := (congrArg Int32.toInt ev_354).trans rfl
                    have ok_359 := hdI (RGB_ok hG ha_x nq_351.2.1)
                    have ok_360 : ((nxT (rB S x) (pI S 1228 x).toInt.toNat (nxT (rB S x) (pI S 1228 x).toInt.toNat (nxT (rB S x) (pI S 1228 x).toInt.toNat t_101)))).2.1 ≤ ((nxT (rB S x) (pI S 1228 x).toInt.toNat (nxT (rB S x) (pI S 1228 x).toInt.toNat (nxT (rB S x) (pI S 1228 x).toInt.toNat t_101)))).2.2 ∧ ((nxT (rB S x) (pI S 1228 x).toInt.toNat (nxT (rB S x) (pI S 1228 x).toInt.toNat (nxT (rB S x) (pI S 1228 x).toInt.toNat t_101)))).2.2 ≤ 400 := ⟨(hdE ok_359).1, (hdE ok_359).2.1⟩
                    refine lv_goto (tgt := 167) X.1 X.2.1 dX12_rule_163 (by decide) ?_
                    have t_361 : At S_343 q_230 654 := hk_344.fr.at h_232
                    have t_362 : pN S_343 q_230 = 60 := hk_344.fr.N h_232 h_233
                    clear h_233
                    refine r_iast X hw t_361 rfl (by rw [t_362]; exact z_ix z_35 (by omega) (by omega)) dX12_rule_167 (fun H locs hw => ?_)
                    obtain ⟨S_363, eS_363⟩ : ∃ T, T = sA S_343 q_230 (upd (pA S_343 q_230) (Int32.toNatClampNeg (v_34)) (rr_342)) := ⟨_, rfl⟩
                    rw [← eS_363] at hw
                    have hO_364 : Ok MRt S S_363 := hO_345.sA eS_363 t_361 (by decide +kernel) (uA_654 hO_345.1 t_361)
                    have h_365 : pA S_363 q_230 (Int32.toNatClampNeg (v_34)) = rr_342 := tA_sAs eS_363
                    have t_366 : pR S_343 1222 x = some q_230 := hk_344.fr.R' (by decide +kernel) t_229 h_231
                    have t_367 : pR S_363 1222 x = some q_230 := tR_sA eS_363 t_366
                    have t_369 : pR S_343 1222 x = some q_230 := by have h := t_367; rw [eS_363, pR_sA] at h; exact h
                    have zs_368 : ∀ j, zA S_363 x 1222 j = if j = ((48 + v_28.toInt)).toNat then rr_342.toInt else zA S_343 x 1222 j := by have h := zA_sAs eS_363 t_369 rfl; rw [z_nc z_35 (by omega)] at h; exact h
                    have t_371 : At S_343 x 12 := hk_344.fr.at t_229
                    have ce_370 : CeX S_343 S_363 x 1222 ((48 + v_28.toInt)).toNat (rr_342.toInt) := CeX_mk hO_345.1 t_371 eS_363 t_361 (by decide) zs_368
                    refine lv_aload_n X.1 X.2.1 dX12_rule_168 rfl (lv_at hl 3 rfl) ?_
                    refine lv_ldcwS (q := κ (100 + 25)) X.1 X.2.1 X.2.2.2.2.1 (show vk_R RX12 281 ";" (κ (100 + 25)) s from (X.2.2.2.2.2.2.2.2.2.2.2.2.2.2 25 (by decide)).1) dX12_rule_169 ?_
                    have rg_372 := RGB_sA nq_351.2.1 eS_363
                    have t_373 : pI S_363 1230 x = v_354 := tI_sA eS_363 ev_354
                    have pz_374 : (pI S_363 1230 x).toInt = v_354.toInt := (congrArg Int32.toInt t_373).trans rfl
                    have t_375 : At S_363 x 12 := tAt_sA eS_363 t_371
                    have pz_376 : (pI S_363 1230 x).toInt = v_354.toInt := (congrArg Int32.toInt t_373).trans rfl
                    refine k_i (rm := { frames := 6, cells := 0, slots := 0, locals := 288 }) (av := [.ref x, .ref (κ (100 + 25))]) X hw (va_runV (As := [.ref (κ (100 + 25))]) (rest := []) (cfix X) (k_X12_must2 l G cy κ S_363 _ x 25 (nxT (rB S x) (pI S 1228 x).toInt.toNat (nxT (rB S x) (pI S 1228 x).toInt.toNat (nxT (rB S x) (pI S 1228 x).toInt.toNat t_101))) hO_364.1 t_375 (by decide) (by rw [rB_fr hG ha_x hO_364.fr (by decide +kernel), hO_364.fr.I' (g := 1228) (by decide +kernel) ha_x rfl]; exact rg_372)) (cwV 1 X.2.2.2.1 gX12_rule_X12_must rfl rfl rfl (by decide +kernel) ⟨Nat.le_of_ble_eq_true rfl, Nat.le_of_ble_eq_true rfl⟩) (pre_V X hw _ t_375 rfl (by decide) rfl) rfl rfl hl.1 rfl (lv_room (Nat.le_of_ble_eq_true rfl)) dX12_rule_172 ⟨Nat.le_of_ble_eq_true rfl, Nat.le_of_ble_eq_true rfl⟩) 0 0 (Nat.le_of_ble_eq_true rfl) (Nat.le_of_ble_eq_true rfl) (fun rr_377 S_378 H locs hp hw hfr hnw => ?_)
                    obtain ⟨hk_379, hp⟩ := hp
                    have hO_380 : Ok MRt S S_378 := hO_364.call hk_379 (by decide +kernel)
                    rcases hp with ⟨f_381, er_382⟩ | ⟨f_381, er_382⟩ <;> subst er_382
                    · have z_b_383 := trivial
                      rw [rB_fr hG ha_x hO_364.fr (by decide +kernel), hO_364.fr.I' (g := 1228) (by decide +kernel) ha_x rfl] at f_381
                      obtain ⟨v_385, ev_385⟩ : ∃ v, pI S_378 1230 x = v := ⟨_, rfl⟩
                      have rg_387 := And.intro (z_lo v_385) (z_hi v_385)
                      have pz_388 : (pI S_378 1230 x).toInt = v_385.toInt := by rw [ev_385]
                      have pz_389 : (pI S_378 1230 x).toInt = v_385.toInt := (congrArg Int32.toInt ev_385).trans rfl
                      have ok_390 := hdI (RGB_ok hG ha_x f_381.2.1)
                      have ok_391 : ((nxT (rB S x) (pI S 1228 x).toInt.toNat (nxT (rB S x) (pI S 1228 x).toInt.toNat (nxT (rB S x) (pI S 1228 x).toInt.toNat (nxT (rB S x) (pI S 1228 x).toInt.toNat t_101))))).2.1 ≤ ((nxT (rB S x) (pI S 1228 x).toInt.toNat (nxT (rB S x) (pI S 1228 x).toInt.toNat (nxT (rB S x) (pI S 1228 x).toInt.toNat (nxT (rB S x) (pI S 1228 x).toInt.toNat t_101))))).2.2 ∧ ((nxT (rB S x) (pI S 1228 x).toInt.toNat (nxT (rB S x) (pI S 1228 x).toInt.toNat (nxT (rB S x) (pI S 1228 x).toInt.toNat (nxT (rB S x) (pI S 1228 x).toInt.toNat t_101))))).2.2 ≤ 400 := ⟨(hdE ok_390).1, (hdE ok_390).2.1⟩
                      refine lv_if_ne (tgt := 180) X.1 X.2.1 dX12_rule_175 (by decide) (fun c_392 => ?_) (fun c_392 => absurd c_392 (by decide))
                      refine lv_aload_n X.1 X.2.1 dX12_rule_180 rfl (lv_at hl 3 rfl) ?_
                      have t_393 : At S_378 x 12 := hk_379.fr.at t_375
                      obtain ⟨q_394, h_395, h_396, h_397⟩ := gQ_12_1220 hO_380.1 t_393
                      refine r_getR (g := 1220) X hw t_393 rfl 20 h_395 (by decide) rfl inn_X12_rule_12 (by decide) (X.2.2.2.1 (.fieldLink RX12 61 "SilkMillModel" "rules" "[I") (by decide +kernel)) rfl (gv_1220 _ _) dX12_rule_181 ?_
                      refine lv_iconst (v := 4) X.1 X.2.1 dX12_rule_184 (by decide) ?_
                      refine lv_dup2_11 X.1 X.2.1 dX12_rule_185 rfl rfl ?_
                      refine r_iald X hw h_396 rfl (by rw [h_397]; exact z_ix ti_4 (by omega) (by omega)) dX12_rule_186 ?_
                      refine lv_topi (fun v_398 ev_398 => ?_)
                      have z_399 := gE_614 hO_380.1 h_396 (Int32.toNatClampNeg (4)); rw [← ev_398] at z_399
                      have ev_398 := ev_398.symm
                      have zf_400 : zA S_378 x 1220 4 = v_398.toInt := (zA_of (z := 4) h_395 ti_4 (by omega) ev_398)
                      have zc_401 : zA S_178 x 1220 = zA S x 1220 := (zA_fr hk_179.fr ha_x_L_88 (ex3 (gQ_12_1220 hO_T_87.1 ha_x_L_88)) (by decide +kernel) (by decide +kernel)).trans zk_92
                      have zc_402 : zA S_207 x 1220 = zA S x 1220 := (zA_sAn eS_207 (ex3 (gQ_12_1220 hO_180.1 t_193)) h_205 rfl).trans zc_401
                      have zc_403 : zA S_223 x 1220 = zA S x 1220 := (zA_fr hk_224.fr t_214 (ex3 (gQ_12_1220 hO_208.1 t_214)) (by decide +kernel) (by decide +kernel)).trans zc_402
                      have zc_404 : zA S_343 x 1220 = zA S x 1220 := (zA_fr hk_344.fr t_229 (ex3 (gQ_12_1220 hO_225.1 t_229)) (by decide +kernel) (by decide +kernel)).trans zc_403
                      have zc_405 : zA S_363 x 1220 = zA S x 1220 := (zA_sAn eS_363 (ex3 (gQ_12_1220 hO_345.1 t_371)) t_361 rfl).trans zc_404
                      have zc_406 : zA S_378 x 1220 = zA S x 1220 := (zA_fr hk_379.fr t_375 (ex3 (gQ_12_1220 hO_364.1 t_375)) (by decide +kernel) (by decide +kernel)).trans zc_405
                      have zz_407 := congrFun zc_406 4
                      refine lv_iconst (v := 1) X.1 X.2.1 dX12_rule_187 (by decide) ?_
                      refine lv_iadd X.1 X.2.1 dX12_rule_188 ?_
                      refine lv_topi (fun v_408 ev_408 => ?_)
                      have z_409 : v_408.toInt = v_398.toInt + 1 := z_add ev_408 rfl ti_1 (by omega) (by omega)
                      refine r_iast X hw h_396 rfl (by rw [h_397]; exact z_ix ti_4 (by omega) (by omega)) dX12_rule_189 (fun H locs hw => ?_)
                      obtain ⟨S_410, eS_410⟩ : ∃ T, T = sA S_378 q_394 (upd (pA S_378 q_394) (Int32.toNatClampNeg (4)) (v_408)) := ⟨_, rfl⟩
                      rw [← eS_410] at hw
                      have hO_411 : Ok MRt S S_410 := hO_380.sA eS_410 h_396 (by decide +kernel) (uA_614 hO_380.1 h_396 (by omega) (by omega))
                      have h_412 : pA S_410 q_394 (Int32.toNatClampNeg (4)) = v_408 := tA_sAs eS_410
                      have t_413 : pR S_410 1220 x = some q_394 := tR_sA eS_410 h_395
                      have t_415 : pR S_378 1220 x = some q_394 := by have h := t_413; rw [eS_410, pR_sA] at h; exact h
                      have zs_414 : ∀ j, zA S_410 x 1220 j = if j = (4 : Int).toNat then (v_398.toInt + 1) else zA S_378 x 1220 j := by have h := zA_sAs eS_410 t_415 z_409; rw [z_nc ti_4 (by omega)] at h; exact h
                      have zs_416 : zA S_410 x 1220 4 = (v_398.toInt + 1) := by have h := zs_414 4; rw [if_pos (by decide)] at h; exact h
                      have t_418 : pR S_378 1220 x = some q_394 := by have h := t_413; rw [eS_410, pR_sA] at h; exact h
                      have zs_417 : ∀ j, zA S_410 x 1220 j = if j = (4 : Int).toNat then (v_398.toInt + 1) else zA S_378 x 1220 j := by have h := zA_sAs eS_410 t_418 z_409; rw [z_nc ti_4 (by omega)] at h; exact h
                      refine lv_iconst (v := 1) X.1 X.2.1 dX12_rule_190 (by decide) ?_
                      have t_420 : pI S_410 1230 x = v_385 := tI_sA eS_410 ev_385
                      have pz_421 : (pI S_410 1230 x).toInt = v_385.toInt := (congrArg Int32.toInt t_420).trans rfl
                      have cs_422 : csF (rB S x) (pI S 1228 x).toInt.toNat 4 (nxT (rB S x) (pI S 1228 x).toInt.toNat t0) = (0, nxT (rB S x) (pI S 1228 x).toInt.toNat t_101) := er_105.trans (cit_y ((isR_co rg_104).mp f_181.1.2))
                      have ea_419 : rueF (rB S x) (pI S 1228 x).toInt.toNat (zA S x 1220 4).toNat t0 = acF (rB S x) (pI S 1228 x).toInt.toNat (csF (rB S x) (pI S 1228 x).toInt.toNat 4 (nxT (rB S x) (pI S 1228 x).toInt.toNat t0)).2 := (cit_n (fun h => h.1 ((isR_if hp_0).mp f_14.2))).trans ((cit_n (by omega)).trans ((cit_y ((isR_if hp_0).mp f_14.2)).trans (cit_y (by rw [cs_422]))))
                      rw [cs_422] at ea_419
                      have ea_419b : rueF (rB S x) (pI S 1228 x).toInt.toNat (zA S x 1220 4).toNat t0 = acF (rB S x) (pI S 1228 x).toInt.toNat (nxT (rB S x) (pI S 1228 x).toInt.toNat t_101) := ea_419
                      have ec_423 : acF (rB S x) (pI S 1228 x).toInt.toNat (nxT (rB S x) (pI S 1228 x).toInt.toNat t_101) = (0, nxT (rB S x) (pI S 1228 x).toInt.toNat (nxT (rB S x) (pI S 1228 x).toInt.toNat (nxT (rB S x) (pI S 1228 x).toInt.toNat (nxT (rB S x) (pI S 1228 x).toInt.toNat t_101)))) := (cit_n (by omega)).trans ((cit_y (by omega)).trans ((cit_y hd_350).trans (cit_y ((isR_se rg_372).mp f_381.1.2))))
                      have rg_424 := RGB_sA f_381.2.1 eS_410
                      have rrl_425 : RrL S S_178 x := RrL_to iv_95 (rg_zA hO_T_87.1 ha_x_L_88 hk_179.fr (by decide +kernel)) (zA_fr hk_179.fr ha_x_L_88 (ex3 (gQ_12_1220 hO_T_87.1 ha_x_L_88)) (by decide +kernel) (by decide +kernel))
                      have rrl_426 : RrL S S_207 x := RrL_ce rrl_425 ce_213 (zA_sAn eS_207 (ex3 (gQ_12_1220 hO_180.1 t_193)) h_205 rfl) (by omega)
                      have rrl_427 : RrL S S_223 x := RrL_to rrl_426 (rg_zA hO_208.1 t_214 hk_224.fr (by decide +kernel)) (zA_fr hk_224.fr t_214 (ex3 (gQ_12_1220 hO_208.1 t_214)) (by decide +kernel) (by decide +kernel))
                      have rrl_428 : RrL S S_343 x := RrL_to rrl_427 (rg_zA hO_225.1 t_229 hk_344.fr (by decide +kernel)) (zA_fr hk_344.fr t_229 (ex3 (gQ_12_1220 hO_225.1 t_229)) (by decide +kernel) (by decide +kernel))
                      have rrl_429 : RrL S S_363 x := RrL_ce rrl_428 ce_370 (zA_sAn eS_363 (ex3 (gQ_12_1220 hO_345.1 t_371)) t_361 rfl) (by omega)
                      have rrl_430 : RrL S S_378 x := RrL_to rrl_429 (rg_zA hO_364.1 t_375 hk_379.fr (by decide +kernel)) (zA_fr hk_379.fr t_375 (ex3 (gQ_12_1220 hO_364.1 t_375)) (by decide +kernel) (by decide +kernel))
                      have rrl_431 : RrL S S_410 x := RrL_tr rrl_430 ⟨fun _ _ => (by rw [(rg_sAo hO_380.1 t_393 eS_410 h_396 (by decide)) 1221 (by decide), (rg_sAo hO_380.1 t_393 eS_410 h_396 (by decide)) 1222 (by decide), (rg_sAo hO_380.1 t_393 eS_410 h_396 (by decide)) 1223 (by decide)]; exact ⟨rfl, rfl, rfl⟩), fun _ _ => (by rw [(rg_sAo hO_380.1 t_393 eS_410 h_396 (by decide)) 1224 (by decide), (rg_sAo hO_380.1 t_393 eS_410 h_396 (by decide)) 1225 (by decide), (rg_sAo hO_380.1 t_393 eS_410 h_396 (by decide)) 1226 (by decide)]; exact ⟨rfl, rfl, rfl⟩), fun j hj => (by rw [zs_417 j, if_neg (by omega)])⟩
                      have rr_432 : RrC S_178 x Rl C_103 := RrC_to (rg_zA hO_T_87.1 ha_x_L_88 hk_179.fr (by decide +kernel)) rc_106
                      have rr_433 := RrC_ce2 hO_180.1 t_193 (by decide) ce_213 (by omega) rr_432
                      have rr_434 : RrC S_223 x Rl C_103 := RrC_to (rg_zA hO_208.1 t_214 hk_224.fr (by decide +kernel)) rr_433.1
                      have cl_435 : zA S_223 x 1221 (48 + (Rl).length) = rr_195.toInt := by rw [(rg_zA hO_208.1 t_214 hk_224.fr (by decide +kernel)) 1221 (by decide)]; exact rr_433.2
                      have rr_436 : RrC S_343 x Rl C_103 := RrC_to (rg_zA hO_225.1 t_229 hk_344.fr (by decide +kernel)) rr_434
                      have cl_437 : zA S_343 x 1221 (48 + (Rl).length) = rr_195.toInt := by rw [(rg_zA hO_225.1 t_229 hk_344.fr (by decide +kernel)) 1221 (by decide)]; exact cl_435
                      have rr_438 := RrC_ce2 hO_345.1 t_371 (by decide) ce_370 (by omega) rr_436
                      have cl_439 : zA S_363 x 1221 (48 + (Rl).length) = rr_195.toInt := by rw [ce_370.2 1221 (by decide) (by decide)]; exact cl_437
                      have rr_440 : RrC S_378 x Rl C_103 := RrC_to (rg_zA hO_364.1 t_375 hk_379.fr (by decide +kernel)) rr_438.1
                      have cl_441 : zA S_378 x 1221 (48 + (Rl).length) = rr_195.toInt := by rw [(rg_zA hO_364.1 t_375 hk_379.fr (by decide +kernel)) 1221 (by decide)]; exact cl_439
                      have cl_442 : zA S_378 x 1222 (48 + (Rl).length) = rr_342.toInt := by rw [(rg_zA hO_364.1 t_375 hk_379.fr (by decide +kernel)) 1222 (by decide)]; exact rr_438.2
                      have rr_443 : RrC S_410 x Rl C_103 := RrC_to (rg_sAo hO_380.1 t_393 eS_410 h_396 (by decide)) rr_440
                      have cl_444 : zA S_410 x 1221 (48 + (Rl).length) = rr_195.toInt := by rw [(rg_sAo hO_380.1 t_393 eS_410 h_396 (by decide)) 1221 (by decide)]; exact cl_441
                      have cl_445 : zA S_410 x 1222 (48 + (Rl).length) = rr_342.toInt := by rw [(rg_sAo hO_380.1 t_393 eS_410 h_396 (by decide)) 1222 (by decide)]; exact cl_442
                      have el_446 : csL (rB S x) (pI S 1228 x).toInt.toNat 4 (nxT (rB S x) (pI S 1228 x).toInt.toNat t0) = C_103 := cs_e ce_107 ((isR_co rg_104).mp f_181.1.2)
                      have cs_447 : (csF (rB S x) (pI S 1228 x).toInt.toNat 4 (nxT (rB S x) (pI S 1228 x).toInt.toNat t0)).2 = (nxT (rB S x) (pI S 1228 x).toInt.toNat t_101) := by rw [show csF (rB S x) (pI S 1228 x).toInt.toNat 4 (nxT (rB S x) (pI S 1228 x).toInt.toNat t0) = (0, (nxT (rB S x) (pI S 1228 x).toInt.toNat t_101)) from er_105.trans (cit_y ((isR_co rg_104).mp f_181.1.2))]
                      have av_448 : acV (rB S x) (pI S 1228 x).toInt.toNat (nxT (rB S x) (pI S 1228 x).toInt.toNat t_101) = (rr_195, rr_342) := acV_s wh_199 (by omega) nq_351.1
                      have rv_449 : ruV (rB S x) (pI S 1228 x).toInt.toNat t0 = (rr_195, rr_342, C_103) := by rw [ruV_i ((isR_if hp_0).mp f_14.2), cs_447, el_446, av_448]
                      rw [hQQ]
                      exact ret_z X hw hr hlocks (Nat.le_of_ble_eq_true rfl) (Nat.le_of_ble_eq_true rfl) (by decide) ⟨hO_411, Or.inl ⟨by rw [ea_419b, ec_423]; exact ⟨rfl, rg_424, by omega, by omega, by omega, (by rw [rv_449]; exact RrC_end rr_443 (cl_444) (cl_445)), rrl_431⟩, rfl⟩⟩ dX12_rule_191
                    · have z_b_450 := trivial
                      rw [rB_fr hG ha_x hO_364.fr (by decide +kernel)] at f_381
                      obtain ⟨v_452, ev_452⟩ : ∃ v, pI S_378 1230 x = v := ⟨_, rfl⟩
                      have rg_454 := And.intro (z_lo v_452) (z_hi v_452)
                      have pz_455 : (pI S_378 1230 x).toInt = v_452.toInt := by rw [ev_452]
                      have pz_456 : (pI S_378 1230 x).toInt = v_452.toInt := (congrArg Int32.toInt ev_452).trans rfl
                      refine lv_if_ne (tgt := 180) X.1 X.2.1 dX12_rule_175 (by decide) (fun c_457 => absurd c_457 (by decide)) (fun c_457 => ?_)
                      refine lv_iconst (v := 0) X.1 X.2.1 dX12_rule_178 (by decide) ?_
                      have pz_459 : (pI S_378 1230 x).toInt = v_452.toInt := (congrArg Int32.toInt ev_452).trans rfl
                      have cs_460 : csF (rB S x) (pI S 1228 x).toInt.toNat 4 (nxT (rB S x) (pI S 1228 x).toInt.toNat t0) = (0, nxT (rB S x) (pI S 1228 x).toInt.toNat t_101) := er_105.trans (cit_y ((isR_co rg_104).mp f_181.1.2))
                      have ea_458 : rueF (rB S x) (pI S 1228 x).toInt.toNat (zA S x 1220 4).toNat t0 = acF (rB S x) (pI S 1228 x).toInt.toNat (csF (rB S x) (pI S 1228 x).toInt.toNat 4 (nxT (rB S x) (pI S 1228 x).toInt.toNat t0)).2 := (cit_n (fun h => h.1 ((isR_if hp_0).mp f_14.2))).trans ((cit_n (by omega)).trans ((cit_y ((isR_if hp_0).mp f_14.2)).trans (cit_y (by rw [cs_460]))))
                      rw [cs_460] at ea_458
                      have ea_458b : rueF (rB S x) (pI S 1228 x).toInt.toNat (zA S x 1220 4).toNat t0 = acF (rB S x) (pI S 1228 x).toInt.toNat (nxT (rB S x) (pI S 1228 x).toInt.toNat t_101) := ea_458
                      have ec_461 : acF (rB S x) (pI S 1228 x).toInt.toNat (nxT (rB S x) (pI S 1228 x).toInt.toNat t_101) = (1, (nxT (rB S x) (pI S 1228 x).toInt.toNat (nxT (rB S x) (pI S 1228 x).toInt.toNat (nxT (rB S x) (pI S 1228 x).toInt.toNat t_101)))) := (cit_n (by omega)).trans ((cit_y (by omega)).trans ((cit_y hd_350).trans (cit_n (fun h => f_381.1 ⟨by omega, (isR_se rg_372).mpr h⟩))))
                      have rrl_462 : RrL S S_178 x := RrL_to iv_95 (rg_zA hO_T_87.1 ha_x_L_88 hk_179.fr (by decide +kernel)) (zA_fr hk_179.fr ha_x_L_88 (ex3 (gQ_12_1220 hO_T_87.1 ha_x_L_88)) (by decide +kernel) (by decide +kernel))
                      have rrl_463 : RrL S S_207 x := RrL_ce rrl_462 ce_213 (zA_sAn eS_207 (ex3 (gQ_12_1220 hO_180.1 t_193)) h_205 rfl) (by omega)
                      have rrl_464 : RrL S S_223 x := RrL_to rrl_463 (rg_zA hO_208.1 t_214 hk_224.fr (by decide +kernel)) (zA_fr hk_224.fr t_214 (ex3 (gQ_12_1220 hO_208.1 t_214)) (by decide +kernel) (by decide +kernel))
                      have rrl_465 : RrL S S_343 x := RrL_to rrl_464 (rg_zA hO_225.1 t_229 hk_344.fr (by decide +kernel)) (zA_fr hk_344.fr t_229 (ex3 (gQ_12_1220 hO_225.1 t_229)) (by decide +kernel) (by decide +kernel))
                      have rrl_466 : RrL S S_363 x := RrL_ce rrl_465 ce_370 (zA_sAn eS_363 (ex3 (gQ_12_1220 hO_345.1 t_371)) t_361 rfl) (by omega)
                      have rrl_467 : RrL S S_378 x := RrL_to rrl_466 (rg_zA hO_364.1 t_375 hk_379.fr (by decide +kernel)) (zA_fr hk_379.fr t_375 (ex3 (gQ_12_1220 hO_364.1 t_375)) (by decide +kernel) (by decide +kernel))
                      rw [hQQ]
                      exact ret_z X hw hr hlocks (Nat.le_of_ble_eq_true rfl) (Nat.le_of_ble_eq_true rfl) (by decide) ⟨hO_380, Or.inr ⟨⟨by rw [ea_458b, ec_461]; exact ⟨(by decide : (1 : Int) ≠ 0), by have h := f_381.2; show _ = (1 : Int); omega⟩, rrl_467⟩, rfl⟩⟩ dX12_rule_179
                  · have nq_468 := nm_349 hd_350
                    have nfk_469 := nq_468.2
                    obtain ⟨v_471, ev_471⟩ : ∃ v, pI S_343 1230 x = v := ⟨_, rfl⟩
                    have rg_473 := And.intro (z_lo v_471) (z_hi v_471)
                    have pz_474 : (pI S_343 1230 x).toInt = v_471.toInt := by rw [ev_471]
                    have pz_475 : (pI S_343 1230 x).toInt = v_471.toInt := (congrArg Int32.toInt ev_471).trans rfl
                    have ok_476 := hdI (RGB_ok hG ha_x nq_468.1)
                    have ok_477 : ((nxT (rB S x) (pI S 1228 x).toInt.toNat (nxT (rB S x) (pI S 1228 x).toInt.toNat t_101))).2.1 ≤ ((nxT (rB S x) (pI S 1228 x).toInt.toNat (nxT (rB S x) (pI S 1228 x).toInt.toNat t_101))).2.2 ∧ ((nxT (rB S x) (pI S 1228 x).toInt.toNat (nxT (rB S x) (pI S 1228 x).toInt.toNat t_101))).2.2 ≤ 400 := ⟨(hdE ok_476).1, (hdE ok_476).2.1⟩
                    refine lv_goto (tgt := 167) X.1 X.2.1 dX12_rule_163 (by decide) ?_
                    have t_478 : At S_343 q_230 654 := hk_344.fr.at h_232
                    have t_479 : pN S_343 q_230 = 60 := hk_344.fr.N h_232 h_233
                    clear h_233
                    refine r_iast X hw t_478 rfl (by rw [t_479]; exact z_ix z_35 (by omega) (by omega)) dX12_rule_167 (fun H locs hw => ?_)
                    obtain ⟨S_480, eS_480⟩ : ∃ T, T = sA S_343 q_230 (upd (pA S_343 q_230) (Int32.toNatClampNeg (v_34)) (rr_342)) := ⟨_, rfl⟩
                    rw [← eS_480] at hw
                    have hO_481 : Ok MRt S S_480 := hO_345.sA eS_480 t_478 (by decide +kernel) (uA_654 hO_345.1 t_478)
                    have h_482 : pA S_480 q_230 (Int32.toNatClampNeg (v_34)) = rr_342 := tA_sAs eS_480
                    have t_483 : pR S_343 1222 x = some q_230 := hk_344.fr.R' (by decide +kernel) t_229 h_231
                    have t_484 : pR S_480 1222 x = some q_230 := tR_sA eS_480 t_483
                    have t_486 : pR S_343 1222 x = some q_230 := by have h := t_484; rw [eS_480, pR_sA] at h; exact h
                    have zs_485 : ∀ j, zA S_480 x 1222 j = if j = ((48 + v_28.toInt)).toNat then rr_342.toInt else zA S_343 x 1222 j := by have h := zA_sAs eS_480 t_486 rfl; rw [z_nc z_35 (by omega)] at h; exact h
                    have t_488 : At S_343 x 12 := hk_344.fr.at t_229
                    have ce_487 : CeX S_343 S_480 x 1222 ((48 + v_28.toInt)).toNat (rr_342.toInt) := CeX_mk hO_345.1 t_488 eS_480 t_478 (by decide) zs_485
                    refine lv_aload_n X.1 X.2.1 dX12_rule_168 rfl (lv_at hl 3 rfl) ?_
                    refine lv_ldcwS (q := κ (100 + 25)) X.1 X.2.1 X.2.2.2.2.1 (show vk_R RX12 281 ";" (κ (100 + 25)) s from (X.2.2.2.2.2.2.2.2.2.2.2.2.2.2 25 (by decide)).1) dX12_rule_169 ?_
                    have rg_489 := RGB_sA nq_468.1 eS_480
                    have t_490 : pI S_480 1230 x = v_471 := tI_sA eS_480 ev_471
                    have pz_491 : (pI S_480 1230 x).toInt = v_471.toInt := (congrArg Int32.toInt t_490).trans rfl
                    have t_492 : At S_480 x 12 := tAt_sA eS_480 t_488
                    have pz_493 : (pI S_480 1230 x).toInt = v_471.toInt := (congrArg Int32.toInt t_490).trans rfl
                    refine k_i (rm := { frames := 6, cells := 0, slots := 0, locals := 288 }) (av := [.ref x, .ref (κ (100 + 25))]) X hw (va_runV (As := [.ref (κ (100 + 25))]) (rest := []) (cfix X) (k_X12_must2 l G cy κ S_480 _ x 25 (nxT (rB S x) (pI S 1228 x).toInt.toNat (nxT (rB S x) (pI S 1228 x).toInt.toNat t_101)) hO_481.1 t_492 (by decide) (by rw [rB_fr hG ha_x hO_481.fr (by decide +kernel), hO_481.fr.I' (g := 1228) (by decide +kernel) ha_x rfl]; exact rg_489)) (cwV 1 X.2.2.2.1 gX12_rule_X12_must rfl rfl rfl (by decide +kernel) ⟨Nat.le_of_ble_eq_true rfl, Nat.le_of_ble_eq_true rfl⟩) (pre_V X hw _ t_492 rfl (by decide) rfl) rfl rfl hl.1 rfl (lv_room (Nat.le_of_ble_eq_true rfl)) dX12_rule_172 ⟨Nat.le_of_ble_eq_true rfl, Nat.le_of_ble_eq_true rfl⟩) 0 0 (Nat.le_of_ble_eq_true rfl) (Nat.le_of_ble_eq_true rfl) (fun rr_494 S_495 H locs hp hw hfr hnw => ?_)
                    obtain ⟨hk_496, hp⟩ := hp
                    have hO_497 : Ok MRt S S_495 := hO_481.call hk_496 (by decide +kernel)
                    rcases hp with ⟨f_498, er_499⟩ | ⟨f_498, er_499⟩ <;> subst er_499
                    · have z_b_500 := trivial
                      rw [rB_fr hG ha_x hO_481.fr (by decide +kernel), hO_481.fr.I' (g := 1228) (by decide +kernel) ha_x rfl] at f_498
                      obtain ⟨v_502, ev_502⟩ : ∃ v, pI S_495 1230 x = v := ⟨_, rfl⟩
                      have rg_504 := And.intro (z_lo v_502) (z_hi v_502)
                      have pz_505 : (pI S_495 1230 x).toInt = v_502.toInt := by rw [ev_502]
                      have pz_506 : (pI S_495 1230 x).toInt = v_502.toInt := (congrArg Int32.toInt ev_502).trans rfl
                      have ok_507 := hdI (RGB_ok hG ha_x f_498.2.1)
                      have ok_508 : ((nxT (rB S x) (pI S 1228 x).toInt.toNat (nxT (rB S x) (pI S 1228 x).toInt.toNat (nxT (rB S x) (pI S 1228 x).toInt.toNat t_101)))).2.1 ≤ ((nxT (rB S x) (pI S 1228 x).toInt.toNat (nxT (rB S x) (pI S 1228 x).toInt.toNat (nxT (rB S x) (pI S 1228 x).toInt.toNat t_101)))).2.2 ∧ ((nxT (rB S x) (pI S 1228 x).toInt.toNat (nxT (rB S x) (pI S 1228 x).toInt.toNat (nxT (rB S x) (pI S 1228 x).toInt.toNat t_101)))).2.2 ≤ 400 := ⟨(hdE ok_507).1, (hdE ok_507).2.1⟩
                      refine lv_if_ne (tgt := 180) X.1 X.2.1 dX12_rule_175 (by decide) (fun c_509 => ?_) (fun c_509 => absurd c_509 (by decide))
                      refine lv_aload_n X.1 X.2.1 dX12_rule_180 rfl (lv_at hl 3 rfl) ?_
                      have t_510 : At S_495 x 12 := hk_496.fr.at t_492
                      obtain ⟨q_511, h_512, h_513, h_514⟩ := gQ_12_1220 hO_497.1 t_510
                      refine r_getR (g := 1220) X hw t_510 rfl 20 h_512 (by decide) rfl inn_X12_rule_12 (by decide) (X.2.2.2.1 (.fieldLink RX12 61 "SilkMillModel" "rules" "[I") (by decide +kernel)) rfl (gv_1220 _ _) dX12_rule_181 ?_
                      refine lv_iconst (v := 4) X.1 X.2.1 dX12_rule_184 (by decide) ?_
                      refine lv_dup2_11 X.1 X.2.1 dX12_rule_185 rfl rfl ?_
                      refine r_iald X hw h_513 rfl (by rw [h_514]; exact z_ix ti_4 (by omega) (by omega)) dX12_rule_186 ?_
                      refine lv_topi (fun v_515 ev_515 => ?_)
                      have z_516 := gE_614 hO_497.1 h_513 (Int32.toNatClampNeg (4)); rw [← ev_515] at z_516
                      have ev_515 := ev_515.symm
                      have zf_517 : zA S_495 x 1220 4 = v_515.toInt := (zA_of (z := 4) h_512 ti_4 (by omega) ev_515)
                      have zc_518 : zA S_178 x 1220 = zA S x 1220 := (zA_fr hk_179.fr ha_x_L_88 (ex3 (gQ_12_1220 hO_T_87.1 ha_x_L_88)) (by decide +kernel) (by decide +kernel)).trans zk_92
                      have zc_519 : zA S_207 x 1220 = zA S x 1220 := (zA_sAn eS_207 (ex3 (gQ_12_1220 hO_180.1 t_193)) h_205 rfl).trans zc_518
                      have zc_520 : zA S_223 x 1220 = zA S x 1220 := (zA_fr hk_224.fr t_214 (ex3 (gQ_12_1220 hO_208.1 t_214)) (by decide +kernel) (by decide +kernel)).trans zc_519
                      have zc_521 : zA S_343 x 1220 = zA S x 1220 := (zA_fr hk_344.fr t_229 (ex3 (gQ_12_1220 hO_225.1 t_229)) (by decide +kernel) (by decide +kernel)).trans zc_520
                      have zc_522 : zA S_480 x 1220 = zA S x 1220 := (zA_sAn eS_480 (ex3 (gQ_12_1220 hO_345.1 t_488)) t_478 rfl).trans zc_521
                      have zc_523 : zA S_495 x 1220 = zA S x 1220 := (zA_fr hk_496.fr t_492 (ex3 (gQ_12_1220 hO_481.1 t_492)) (by decide +kernel) (by decide +kernel)).trans zc_522
                      have zz_524 := congrFun zc_523 4
                      refine lv_iconst (v := 1) X.1 X.2.1 dX12_rule_187 (by decide) ?_
                      refine lv_iadd X.1 X.2.1 dX12_rule_188 ?_
                      refine lv_topi (fun v_525 ev_525 => ?_)
                      have z_526 : v_525.toInt = v_515.toInt + 1 := z_add ev_525 rfl ti_1 (by omega) (by omega)
                      refine r_iast X hw h_513 rfl (by rw [h_514]; exact z_ix ti_4 (by omega) (by omega)) dX12_rule_189 (fun H locs hw => ?_)
                      obtain ⟨S_527, eS_527⟩ : ∃ T, T = sA S_495 q_511 (upd (pA S_495 q_511) (Int32.toNatClampNeg (4)) (v_525)) := ⟨_, rfl⟩
                      rw [← eS_527] at hw
                      have hO_528 : Ok MRt S S_527 := hO_497.sA eS_527 h_513 (by decide +kernel) (uA_614 hO_497.1 h_513 (by omega) (by omega))
                      have h_529 : pA S_527 q_511 (Int32.toNatClampNeg (4)) = v_525 := tA_sAs eS_527
                      have t_530 : pR S_527 1220 x = some q_511 := tR_sA eS_527 h_512
                      have t_532 : pR S_495 1220 x = some q_511 := by have h := t_530; rw [eS_527, pR_sA] at h; exact h
                      have zs_531 : ∀ j, zA S_527 x 1220 j = if j = (4 : Int).toNat then (v_515.toInt + 1) else zA S_495 x 1220 j := by have h := zA_sAs eS_527 t_532 z_526; rw [z_nc ti_4 (by omega)] at h; exact h
                      have zs_533 : zA S_527 x 1220 4 = (v_515.toInt + 1) := by have h := zs_531 4; rw [if_pos (by decide)] at h; exact h
                      have t_535 : pR S_495 1220 x = some q_511 := by have h := t_530; rw [eS_527, pR_sA] at h; exact h
                      have zs_534 : ∀ j, zA S_527 x 1220 j = if j = (4 : Int).toNat then (v_515.toInt + 1) else zA S_495 x 1220 j := by have h := zA_sAs eS_527 t_535 z_526; rw [z_nc ti_4 (by omega)] at h; exact h
                      refine lv_iconst (v := 1) X.1 X.2.1 dX12_rule_190 (by decide) ?_
                      have t_537 : pI S_527 1230 x = v_502 := tI_sA eS_527 ev_502
                      have pz_538 : (pI S_527 1230 x).toInt = v_502.toInt := (congrArg Int32.toInt t_537).trans rfl
                      have cs_539 : csF (rB S x) (pI S 1228 x).toInt.toNat 4 (nxT (rB S x) (pI S 1228 x).toInt.toNat t0) = (0, nxT (rB S x) (pI S 1228 x).toInt.toNat t_101) := er_105.trans (cit_y ((isR_co rg_104).mp f_181.1.2))
                      have ea_536 : rueF (rB S x) (pI S 1228 x).toInt.toNat (zA S x 1220 4).toNat t0 = acF (rB S x) (pI S 1228 x).toInt.toNat (csF (rB S x) (pI S 1228 x).toInt.toNat 4 (nxT (rB S x) (pI S 1228 x).toInt.toNat t0)).2 := (cit_n (fun h => h.1 ((isR_if hp_0).mp f_14.2))).trans ((cit_n (by omega)).trans ((cit_y ((isR_if hp_0).mp f_14.2)).trans (cit_y (by rw [cs_539]))))
                      rw [cs_539] at ea_536
                      have ea_536b : rueF (rB S x) (pI S 1228 x).toInt.toNat (zA S x 1220 4).toNat t0 = acF (rB S x) (pI S 1228 x).toInt.toNat (nxT (rB S x) (pI S 1228 x).toInt.toNat t_101) := ea_536
                      have ec_540 : acF (rB S x) (pI S 1228 x).toInt.toNat (nxT (rB S x) (pI S 1228 x).toInt.toNat t_101) = (1, (nxT (rB S x) (pI S 1228 x).toInt.toNat t_101)) := (cit_n (by omega)).trans ((cit_y (by omega)).trans (cit_n hd_350))
                      rw [hQQ]
                      exact ret_z X hw hr hlocks (Nat.le_of_ble_eq_true rfl) (Nat.le_of_ble_eq_true rfl) (by decide) ⟨hO_528, (by exfalso; have h := f_498.1.1; omega)⟩ dX12_rule_191
                    · have z_b_541 := trivial
                      rw [rB_fr hG ha_x hO_481.fr (by decide +kernel)] at f_498
                      obtain ⟨v_543, ev_543⟩ : ∃ v, pI S_495 1230 x = v := ⟨_, rfl⟩
                      have rg_545 := And.intro (z_lo v_543) (z_hi v_543)
                      have pz_546 : (pI S_495 1230 x).toInt = v_543.toInt := by rw [ev_543]
                      have pz_547 : (pI S_495 1230 x).toInt = v_543.toInt := (congrArg Int32.toInt ev_543).trans rfl
                      refine lv_if_ne (tgt := 180) X.1 X.2.1 dX12_rule_175 (by decide) (fun c_548 => absurd c_548 (by decide)) (fun c_548 => ?_)
                      refine lv_iconst (v := 0) X.1 X.2.1 dX12_rule_178 (by decide) ?_
                      have pz_550 : (pI S_495 1230 x).toInt = v_543.toInt := (congrArg Int32.toInt ev_543).trans rfl
                      have cs_551 : csF (rB S x) (pI S 1228 x).toInt.toNat 4 (nxT (rB S x) (pI S 1228 x).toInt.toNat t0) = (0, nxT (rB S x) (pI S 1228 x).toInt.toNat t_101) := er_105.trans (cit_y ((isR_co rg_104).mp f_181.1.2))
                      have ea_549 : rueF (rB S x) (pI S 1228 x).toInt.toNat (zA S x 1220 4).toNat t0 = acF (rB S x) (pI S 1228 x).toInt.toNat (csF (rB S x) (pI S 1228 x).toInt.toNat 4 (nxT (rB S x) (pI S 1228 x).toInt.toNat t0)).2 := (cit_n (fun h => h.1 ((isR_if hp_0).mp f_14.2))).trans ((cit_n (by omega)).trans ((cit_y ((isR_if hp_0).mp f_14.2)).trans (cit_y (by rw [cs_551]))))
                      rw [cs_551] at ea_549
                      have ea_549b : rueF (rB S x) (pI S 1228 x).toInt.toNat (zA S x 1220 4).toNat t0 = acF (rB S x) (pI S 1228 x).toInt.toNat (nxT (rB S x) (pI S 1228 x).toInt.toNat t_101) := ea_549
                      have ec_552 : acF (rB S x) (pI S 1228 x).toInt.toNat (nxT (rB S x) (pI S 1228 x).toInt.toNat t_101) = (1, (nxT (rB S x) (pI S 1228 x).toInt.toNat t_101)) := (cit_n (by omega)).trans ((cit_y (by omega)).trans (cit_n hd_350))
                      have rrl_553 : RrL S S_178 x := RrL_to iv_95 (rg_zA hO_T_87.1 ha_x_L_88 hk_179.fr (by decide +kernel)) (zA_fr hk_179.fr ha_x_L_88 (ex3 (gQ_12_1220 hO_T_87.1 ha_x_L_88)) (by decide +kernel) (by decide +kernel))
                      have rrl_554 : RrL S S_207 x := RrL_ce rrl_553 ce_213 (zA_sAn eS_207 (ex3 (gQ_12_1220 hO_180.1 t_193)) h_205 rfl) (by omega)
                      have rrl_555 : RrL S S_223 x := RrL_to rrl_554 (rg_zA hO_208.1 t_214 hk_224.fr (by decide +kernel)) (zA_fr hk_224.fr t_214 (ex3 (gQ_12_1220 hO_208.1 t_214)) (by decide +kernel) (by decide +kernel))
                      have rrl_556 : RrL S S_343 x := RrL_to rrl_555 (rg_zA hO_225.1 t_229 hk_344.fr (by decide +kernel)) (zA_fr hk_344.fr t_229 (ex3 (gQ_12_1220 hO_225.1 t_229)) (by decide +kernel) (by decide +kernel))
                      have rrl_557 : RrL S S_480 x := RrL_ce rrl_556 ce_487 (zA_sAn eS_480 (ex3 (gQ_12_1220 hO_345.1 t_488)) t_478 rfl) (by omega)
                      have rrl_558 : RrL S S_495 x := RrL_to rrl_557 (rg_zA hO_481.1 t_492 hk_496.fr (by decide +kernel)) (zA_fr hk_496.fr t_492 (ex3 (gQ_12_1220 hO_481.1 t_492)) (by decide +kernel) (by decide +kernel))
                      rw [hQQ]
                      exact ret_z X hw hr hlocks (Nat.le_of_ble_eq_true rfl) (Nat.le_of_ble_eq_true rfl) (by decide) ⟨hO_497, Or.inr ⟨⟨by rw [ea_549b, ec_552]; exact ⟨(by decide : (1 : Int) ≠ 0), by have h := f_498.2; show _ = (1 : Int); omega⟩, rrl_558⟩, rfl⟩⟩ dX12_rule_179
              · have z_b_559 := trivial
                have k_560 : rr_195.toInt = (-1) := z_eq rfl ti_m1 c_200
                refine lv_aload_n X.1 X.2.1 dX12_rule_132 rfl (lv_at hl 3 rfl) ?_
                refine lv_iconst (v := 1) X.1 X.2.1 dX12_rule_133 (by decide) ?_
                have pz_561 : (pI S_178 1230 x).toInt = v_185.toInt := (congrArg Int32.toInt ev_185).trans rfl
                refine k_i (rm := { frames := 1, cells := 0, slots := 0, locals := 48 }) (av := [.ref x, .int 1]) X hw (va_runV (As := [.int 1]) (rest := []) (cfix X) (k_X12_wrong2 l G cy κ S_178 _ x (1) (1) hO_180.1 t_193 ti_1) (cwV 1 X.2.2.2.1 gX12_rule_X12_wrong rfl rfl rfl (by decide +kernel) ⟨Nat.le_of_ble_eq_true rfl, Nat.le_of_ble_eq_true rfl⟩) (pre_V X hw _ t_193 rfl (by decide) rfl) rfl rfl hl.1 rfl (lv_room (Nat.le_of_ble_eq_true rfl)) dX12_rule_134 ⟨Nat.le_of_ble_eq_true rfl, Nat.le_of_ble_eq_true rfl⟩) 0 0 (Nat.le_of_ble_eq_true rfl) (Nat.le_of_ble_eq_true rfl) (fun rr_562 S_563 H locs hp hw hfr hnw => ?_)
                obtain ⟨hk_564, hp⟩ := hp
                have hO_565 : Ok MRt S S_563 := hO_180.call hk_564 (by decide +kernel)
                rcases hp with ⟨f_566, er_567⟩ | ⟨f_566, er_567⟩ <;> subst er_567
                · have z_b_568 := trivial
                  exact f_566.elim
                · have z_b_569 := trivial
                  obtain ⟨v_572, ev_572⟩ : ∃ v, pI S_563 1230 x = v := ⟨_, rfl⟩
                  have rg_574 := And.intro (z_lo v_572) (z_hi v_572)
                  have pz_575 : (pI S_563 1230 x).toInt = v_572.toInt := by rw [ev_572]
                  have pz_576 : (pI S_563 1230 x).toInt = v_572.toInt := (congrArg Int32.toInt ev_572).trans rfl
                  have cs_577 : csF (rB S x) (pI S 1228 x).toInt.toNat 4 (nxT (rB S x) (pI S 1228 x).toInt.toNat t0) = (0, nxT (rB S x) (pI S 1228 x).toInt.toNat t_101) := er_105.trans (cit_y ((isR_co rg_104).mp f_181.1.2))
                  have ea_570 : rueF (rB S x) (pI S 1228 x).toInt.toNat (zA S x 1220 4).toNat t0 = acF (rB S x) (pI S 1228 x).toInt.toNat (csF (rB S x) (pI S 1228 x).toInt.toNat 4 (nxT (rB S x) (pI S 1228 x).toInt.toNat t0)).2 := (cit_n (fun h => h.1 ((isR_if hp_0).mp f_14.2))).trans ((cit_n (by omega)).trans ((cit_y ((isR_if hp_0).mp f_14.2)).trans (cit_y (by rw [cs_577]))))
                  rw [cs_577] at ea_570
                  have ea_570b : rueF (rB S x) (pI S 1228 x).toInt.toNat (zA S x 1220 4).toNat t0 = acF (rB S x) (pI S 1228 x).toInt.toNat (nxT (rB S x) (pI S 1228 x).toInt.toNat t_101) := ea_570
                  have ec_578 : acF (rB S x) (pI S 1228 x).toInt.toNat (nxT (rB S x) (pI S 1228 x).toInt.toNat t_101) = (1, (nxT (rB S x) (pI S 1228 x).toInt.toNat t_101)) := cit_y (by omega)
                  have rrl_579 : RrL S S_178 x := RrL_to iv_95 (rg_zA hO_T_87.1 ha_x_L_88 hk_179.fr (by decide +kernel)) (zA_fr hk_179.fr ha_x_L_88 (ex3 (gQ_12_1220 hO_T_87.1 ha_x_L_88)) (by decide +kernel) (by decide +kernel))
                  have rrl_580 : RrL S S_563 x := RrL_to rrl_579 (rg_zA hO_180.1 t_193 hk_564.fr (by decide +kernel)) (zA_fr hk_564.fr t_193 (ex3 (gQ_12_1220 hO_180.1 t_193)) (by decide +kernel) (by decide +kernel))
                  rw [hQQ]
                  exact ret_z X hw hr hlocks (Nat.le_of_ble_eq_true rfl) (Nat.le_of_ble_eq_true rfl) (by decide) ⟨hO_565, Or.inr ⟨⟨by rw [ea_570b, ec_578]; exact ⟨(by decide : (1 : Int) ≠ 0), by show _ = (1 : Int); omega⟩, rrl_580⟩, rfl⟩⟩ dX12_rule_137
            · have z_b_581 := trivial
              rw [rB_fr hG ha_x hO_T_87.fr (by decide +kernel)] at f_181
              obtain ⟨v_583, ev_583⟩ : ∃ v, pI S_178 1230 x = v := ⟨_, rfl⟩
              have rg_585 := And.intro (z_lo v_583) (z_hi v_583)
              have pz_586 : (pI S_178 1230 x).toInt = v_583.toInt := by rw [ev_583]
              have pz_587 : (pI S_178 1230 x).toInt = v_583.toInt := (congrArg Int32.toInt ev_583).trans rfl
              refine lv_if_ne (tgt := 119) X.1 X.2.1 dX12_rule_114 (by decide) (fun c_588 => absurd c_588 (by decide)) (fun c_588 => ?_)
              refine lv_iconst (v := 0) X.1 X.2.1 dX12_rule_117 (by decide) ?_
              have pz_590 : (pI S_178 1230 x).toInt = v_583.toInt := (congrArg Int32.toInt ev_583).trans rfl
              have cs_591 : csF (rB S x) (pI S 1228 x).toInt.toNat 4 (nxT (rB S x) (pI S 1228 x).toInt.toNat t0) = (1, u_102) := er_105.trans ((cit_n (fun h => f_181.1 ⟨by omega, (isR_co rg_104).mpr h⟩)).trans (cit_n (fun h => f_115 ⟨by omega, (isR_and rg_104).mpr h⟩)))
              have ea_589 : rueF (rB S x) (pI S 1228 x).toInt.toNat (zA S x 1220 4).toNat t0 = ((csF (rB S x) (pI S 1228 x).toInt.toNat 4 (nxT (rB S x) (pI S 1228 x).toInt.toNat t0)).1, t0) := (cit_n (fun h => h.1 ((isR_if hp_0).mp f_14.2))).trans ((cit_n (by omega)).trans ((cit_y ((isR_if hp_0).mp f_14.2)).trans (cit_n (by rw [cs_591]; exact (by decide : (1 : Int) ≠ 0)))))
              rw [cs_591] at ea_589
              have rrl_592 : RrL S S_178 x := RrL_to iv_95 (rg_zA hO_T_87.1 ha_x_L_88 hk_179.fr (by decide +kernel)) (zA_fr hk_179.fr ha_x_L_88 (ex3 (gQ_12_1220 hO_T_87.1 ha_x_L_88)) (by decide +kernel) (by decide +kernel))
              rw [hQQ]
              exact ret_z X hw hr hlocks (Nat.le_of_ble_eq_true rfl) (Nat.le_of_ble_eq_true rfl) (by decide) ⟨hO_180, Or.inr ⟨⟨by rw [ea_589]; exact ⟨(by decide : (1 : Int) ≠ 0), by have h := f_181.2; show _ = (1 : Int); omega⟩, rrl_592⟩, rfl⟩⟩ dX12_rule_118
        obtain ⟨v_594, ev_594⟩ : ∃ v, pI S_77 1230 x = v := ⟨_, rfl⟩
        have rg_596 := And.intro (z_lo v_594) (z_hi v_594)
        have pz_597 : (pI S_77 1230 x).toInt = v_594.toInt := by rw [ev_594]
        have pz_598 : (pI S_77 1230 x).toInt = v_594.toInt := (congrArg Int32.toInt ev_594).trans rfl
        have t_599 : At S_77 x 12 := hk_78.fr.at t_72
        have rrl_600 : RrL S S_40 x := RrL_ce (RrL_rf S x) ce_49 (zA_sAn eS_40 (ex3 (gQ_12_1220 hO.1 ha_x)) h_38 rfl) (by omega)
        have rrl_601 : RrL S S_60 x := RrL_to rrl_600 (rg_zA hO_41.1 t_51 hk_61.fr (by decide +kernel)) (zA_fr hk_61.fr t_51 (ex3 (gQ_12_1220 hO_41.1 t_51)) (by decide +kernel) (by decide +kernel))
        have rrl_602 : RrL S S_77 x := RrL_tr rrl_601 f_80.2.2.2.2.2.2
        exact L_86 _ _ _ _ _  rfl hw t_599 hO_79 zc_91 ⟨_, _, _, f_80.2.1, (csF_ce (j := 3) f_80.1).trans (by rw [show (4 - zA S_77 x 1223 ((48 + v_28.toInt)).toNat).toNat = 3 by omega]), f_80.2.2.2.2.2.1, cs_0⟩ (by omega) rrl_602 (lv_sub hl [0, 1, 2, 3] rfl)
      · have z_b_603 := trivial
        rw [rB_fr hG ha_x hO_62.fr (by decide +kernel), hO_62.fr.I' (g := 1228) (by decide +kernel) ha_x rfl] at f_80
        refine lv_if_ne (tgt := 83) X.1 X.2.1 dX12_rule_78 (by decide) (fun c_604 => absurd c_604 (by decide)) (fun c_604 => ?_)
        refine lv_iconst (v := 0) X.1 X.2.1 dX12_rule_81 (by decide) ?_
        obtain ⟨v_607, ev_607⟩ : ∃ v, pI S_77 1230 x = v := ⟨_, rfl⟩
        have rg_609 := And.intro (z_lo v_607) (z_hi v_607)
        have pz_610 : (pI S_77 1230 x).toInt = v_607.toInt := by rw [ev_607]
        have pz_611 : (pI S_77 1230 x).toInt = v_607.toInt := (congrArg Int32.toInt ev_607).trans rfl
        have cb_612 := csF_bad (c := zA S_60 x 1223 ((48 + v_28.toInt)).toNat) (by omega) (by omega) f_80.1
        rw [show (4 - zA S_60 x 1223 ((48 + v_28.toInt)).toNat).toNat = 4 by omega] at cb_612
        have ea_605 : rueF (rB S x) (pI S 1228 x).toInt.toNat (zA S x 1220 4).toNat t0 = ((csF (rB S x) (pI S 1228 x).toInt.toNat 4 (nxT (rB S x) (pI S 1228 x).toInt.toNat t0)).1, t0) := (cit_n (fun h => h.1 ((isR_if hp_0).mp f_14.2))).trans ((cit_n (by omega)).trans ((cit_y ((isR_if hp_0).mp f_14.2)).trans (cit_n cb_612.1)))
        have rrl_613 : RrL S S_40 x := RrL_ce (RrL_rf S x) ce_49 (zA_sAn eS_40 (ex3 (gQ_12_1220 hO.1 ha_x)) h_38 rfl) (by omega)
        have rrl_614 : RrL S S_60 x := RrL_to rrl_613 (rg_zA hO_41.1 t_51 hk_61.fr (by decide +kernel)) (zA_fr hk_61.fr t_51 (ex3 (gQ_12_1220 hO_41.1 t_51)) (by decide +kernel) (by decide +kernel))
        have rrl_615 : RrL S S_77 x := RrL_tr rrl_614 f_80.2
        rw [hQQ]
        exact ret_z X hw hr hlocks (Nat.le_of_ble_eq_true rfl) (Nat.le_of_ble_eq_true rfl) (by decide) ⟨hO_79, Or.inr ⟨⟨by rw [ea_605]; exact cb_612, rrl_615⟩, rfl⟩⟩ dX12_rule_82
    · have z_b_616 := trivial
      have k_617 : v_28.toInt = 12 := z_eq rfl ti_12 c_31
      refine lv_aload_n X.1 X.2.1 dX12_rule_42 rfl (lv_at hl 2 rfl) ?_
      refine lv_iconst (v := 2) X.1 X.2.1 dX12_rule_43 (by decide) ?_
      have pz_618 : (pI S 1230 x).toInt = v_1.toInt := (congrArg Int32.toInt ev_1).trans rfl
      refine k_i (rm := { frames := 1, cells := 0, slots := 0, locals := 48 }) (av := [.ref x, .int 2]) X hw (va_runV (As := [.int 2]) (rest := []) (cfix X) (k_X12_wrong2 l G cy κ S _ x (2) (2) hO.1 ha_x ti_2) (cwV 1 X.2.2.2.1 gX12_rule_X12_wrong rfl rfl rfl (by decide +kernel) ⟨Nat.le_of_ble_eq_true rfl, Nat.le_of_ble_eq_true rfl⟩) (pre_V X hw _ ha_x rfl (by decide) rfl) rfl rfl hl.1 rfl (lv_room (Nat.le_of_ble_eq_true rfl)) dX12_rule_44 ⟨Nat.le_of_ble_eq_true rfl, Nat.le_of_ble_eq_true rfl⟩) 0 0 (Nat.le_of_ble_eq_true rfl) (Nat.le_of_ble_eq_true rfl) (fun rr_619 S_620 H locs hp hw hfr hnw => ?_)
      obtain ⟨hk_621, hp⟩ := hp
      have hO_622 : Ok MRt S S_620 := hO.call hk_621 (by decide +kernel)
      rcases hp with ⟨f_623, er_624⟩ | ⟨f_623, er_624⟩ <;> subst er_624
      · have z_b_625 := trivial
        exact f_623.elim
      · have z_b_626 := trivial
        obtain ⟨v_629, ev_629⟩ : ∃ v, pI S_620 1230 x = v := ⟨_, rfl⟩
        have rg_631 := And.intro (z_lo v_629) (z_hi v_629)
        have pz_632 : (pI S_620 1230 x).toInt = v_629.toInt := by rw [ev_629]
        have pz_633 : (pI S_620 1230 x).toInt = v_629.toInt := (congrArg Int32.toInt ev_629).trans rfl
        have ea_627 : rueF (rB S x) (pI S 1228 x).toInt.toNat (zA S x 1220 4).toNat t0 = (2, t0) := (cit_n (fun h => h.1 ((isR_if hp_0).mp f_14.2))).trans (cit_y (by omega))
        have rrl_634 : RrL S S_620 x := RrL_to (RrL_rf S x) (rg_zA hO.1 ha_x hk_621.fr (by decide +kernel)) (zA_fr hk_621.fr ha_x (ex3 (gQ_12_1220 hO.1 ha_x)) (by decide +kernel) (by decide +kernel))
        rw [hQQ]
        exact ret_z X hw hr hlocks (Nat.le_of_ble_eq_true rfl) (Nat.le_of_ble_eq_true rfl) (by decide) ⟨hO_622, Or.inr ⟨⟨by rw [ea_627]; exact ⟨(by decide : (2 : Int) ≠ 0), by show _ = (2 : Int); omega⟩, rrl_634⟩, rfl⟩⟩ dX12_rule_47
  · have z_b_635 := trivial
    refine lv_istore_n (lv' := [(1, .int 0), (0, .ref x)]) X.1 X.2.1 dX12_rule_7 rfl hl (by decide) rfl (fun ls hl => ?_)
    refine lv_aload_n X.1 X.2.1 dX12_rule_8 rfl (lv_at hl 1 rfl) ?_
    refine lv_ldcwS (q := κ (100 + 22)) X.1 X.2.1 X.2.2.2.2.1 (show vk_R RX12 269 "cast drop find throw cut stop " (κ (100 + 22)) s from (X.2.2.2.2.2.2.2.2.2.2.2.2.2.2 22 (by decide)).1) dX12_rule_9 ?_
    have pz_636 : (pI S 1230 x).toInt = v_1.toInt := (congrArg Int32.toInt ev_1).trans rfl
    refine k_i (rm := { frames := 5, cells := 0, slots := 0, locals := 240 }) (av := [.ref x, .ref (κ (100 + 22))]) X hw (va_runV (As := [.ref (κ (100 + 22))]) (rest := []) (cfix X) (k_X12_which2 l G cy κ S _ x 22 t0 hO.1 ha_x (by decide) hp_0.1 (by first | assumption | omega) (by first | assumption | omega) (by first | assumption | omega) (by decide)) (cwV 1 X.2.2.2.1 gX12_rule_X12_which rfl rfl rfl (by decide +kernel) ⟨Nat.le_of_ble_eq_true rfl, Nat.le_of_ble_eq_true rfl⟩) (pre_V X hw _ ha_x rfl (by decide) rfl) rfl rfl hl.1 rfl (lv_room (Nat.le_of_ble_eq_true rfl)) dX12_rule_12 ⟨Nat.le_of_ble_eq_true rfl, Nat.le_of_ble_eq_true rfl⟩) 0 0 (Nat.le_of_ble_eq_true rfl) (Nat.le_of_ble_eq_true rfl) (fun rr_637 S_638 H locs hp hw hfr hnw => ?_)
    obtain ⟨e2, hp⟩ := hp
    subst e2
    obtain ⟨wh_639, wh_640, wh_641⟩ := hp
    rw [show wI 22 = ALs from rfl] at wh_641
    refine lv_istore_n (lv' := [(2, .int (rr_637)), (1, .int 0), (0, .ref x)]) X.1 X.2.1 dX12_rule_15 rfl hl (by decide) rfl (fun ls hl => ?_)
    refine lv_iload_n X.1 X.2.1 dX12_rule_16 rfl (lv_at hl 1 rfl) ?_
    refine lv_if_ne (tgt := 31) X.1 X.2.1 dX12_rule_17 (by decide) (fun c_642 => absurd c_642 (by decide)) (fun c_642 => ?_)
    refine lv_iload_n X.1 X.2.1 dX12_rule_20 rfl (lv_at hl 0 rfl) ?_
    refine lv_iconst (v := (-1)) X.1 X.2.1 dX12_rule_21 (by decide) ?_
    refine lv_icmp_ne (tgt := 31) X.1 X.2.1 dX12_rule_22 (by decide) (fun c_643 => ?_) (fun c_643 => ?_)
    · have z_b_644 := trivial
      have k_645 : rr_637.toInt ≠ (-1) := z_ne rfl ti_m1 c_643
      refine lv_aload_n X.1 X.2.1 dX12_rule_31 rfl (lv_at hl 2 rfl) ?_
      obtain ⟨q_646, h_647, h_648, h_649⟩ := gQ_12_1220 hO.1 ha_x
      refine r_getR (g := 1220) X hw ha_x rfl 20 h_647 (by decide) rfl inn_X12_rule_12 (by decide) (X.2.2.2.1 (.fieldLink RX12 61 "SilkMillModel" "rules" "[I") (by decide +kernel)) rfl (gv_1220 _ _) dX12_rule_32 ?_
      refine lv_iconst (v := 4) X.1 X.2.1 dX12_rule_35 (by decide) ?_
      refine r_iald X hw h_648 rfl (by rw [h_649]; exact z_ix ti_4 (by omega) (by omega)) dX12_rule_36 ?_
      refine lv_topi (fun v_650 ev_650 => ?_)
      have z_651 := gE_614 hO.1 h_648 (Int32.toNatClampNeg (4)); rw [← ev_650] at z_651
      have ev_650 := ev_650.symm
      have zf_652 : zA S x 1220 4 = v_650.toInt := (zA_of (z := 4) h_647 ti_4 (by omega) ev_650)
      refine lv_bipush (v := 12) X.1 X.2.1 dX12_rule_37 (by decide) ?_
      refine lv_icmp_ne (tgt := 48) X.1 X.2.1 dX12_rule_39 (by decide) (fun c_653 => ?_) (fun c_653 => ?_)
      · have z_b_654 := trivial
        have k_655 : v_650.toInt ≠ 12 := z_ne rfl ti_12 c_653
        refine lv_bipush (v := 48) X.1 X.2.1 dX12_rule_48 (by decide) ?_
        refine lv_aload_n X.1 X.2.1 dX12_rule_50 rfl (lv_at hl 2 rfl) ?_
        refine r_getR (g := 1220) X hw ha_x rfl 20 h_647 (by decide) rfl inn_X12_rule_12 (by decide) (X.2.2.2.1 (.fieldLink RX12 61 "SilkMillModel" "rules" "[I") (by decide +kernel)) rfl (gv_1220 _ _) dX12_rule_51 ?_
        refine lv_iconst (v := 4) X.1 X.2.1 dX12_rule_54 (by decide) ?_
        refine r_iald X hw h_648 rfl (by rw [h_649]; exact z_ix ti_4 (by omega) (by omega)) dX12_rule_55 ?_
        rw [ev_650]
        refine lv_iadd X.1 X.2.1 dX12_rule_56 ?_
        refine lv_topi (fun v_656 ev_656 => ?_)
        have z_657 : v_656.toInt = 48 + v_650.toInt := z_add ev_656 ti_48 rfl (by omega) (by omega)
        refine lv_istore_n (lv' := [(3, .int (v_656)), (2, .int (rr_637)), (1, .int 0), (0, .ref x)]) X.1 X.2.1 dX12_rule_57 rfl hl (by decide) rfl (fun ls hl => ?_)
        refine lv_aload_n X.1 X.2.1 dX12_rule_58 rfl (lv_at hl 3 rfl) ?_
        obtain ⟨q_658, h_659, h_660, h_661⟩ := gQ_12_1223 hO.1 ha_x
        refine r_getR (g := 1223) X hw ha_x rfl 23 h_659 (by decide) rfl inn_X12_rule_12 (by decide) (X.2.2.2.1 (.fieldLink RX12 70 "SilkMillModel" "conditions" "[I") (by decide +kernel)) rfl (gv_1223 _ _) dX12_rule_59 ?_
        refine lv_iload_n X.1 X.2.1 dX12_rule_62 rfl (lv_at hl 0 rfl) ?_
        refine lv_iconst (v := 0) X.1 X.2.1 dX12_rule_63 (by decide) ?_
        refine r_iast X hw h_660 rfl (by rw [h_661]; exact z_ix z_657 (by omega) (by omega)) dX12_rule_64 (fun H locs hw => ?_)
        obtain ⟨S_662, eS_662⟩ : ∃ T, T = sA S q_658 (upd (pA S q_658) (Int32.toNatClampNeg (v_656)) (0)) := ⟨_, rfl⟩
        rw [← eS_662] at hw
        have hO_663 : Ok MRt S S_662 := hO.sA eS_662 h_660 (by decide +kernel) (uA_674 hO.1 h_660 (by rw [ti_0]; omega) (by rw [ti_0]; omega))
        have h_664 : pA S_662 q_658 (Int32.toNatClampNeg (v_656)) = 0 := tA_sAs eS_662
        have t_665 : pR S_662 1223 x = some q_658 := tR_sA eS_662 h_659
        have t_667 : pR S 1223 x = some q_658 := by have h := t_665; rw [eS_662, pR_sA] at h; exact h
        have zs_666 : ∀ j, zA S_662 x 1223 j = if j = ((48 + v_650.toInt)).toNat then 0 else zA S x 1223 j := by have h := zA_sAs eS_662 t_667 ti_0; rw [z_nc z_657 (by omega)] at h; exact h
        have zs_668 := zs_666 ((48 + v_650.toInt)).toNat; rw [if_pos rfl] at zs_668
        have t_670 : pR S 1223 x = some q_658 := by have h := t_665; rw [eS_662, pR_sA] at h; exact h
        have zs_669 : ∀ j, zA S_662 x 1223 j = if j = ((48 + v_650.toInt)).toNat then 0 else zA S x 1223 j := by have h := zA_sAs eS_662 t_670 ti_0; rw [z_nc z_657 (by omega)] at h; exact h
        have ce_671 : CeX S S_662 x 1223 ((48 + v_650.toInt)).toNat (0) := CeX_mk hO.1 ha_x eS_662 h_660 (by decide) zs_669
        refine lv_iload_n X.1 X.2.1 dX12_rule_65 rfl (lv_at hl 2 rfl) ?_
        refine lv_if_eq (tgt := 138) X.1 X.2.1 dX12_rule_66 (by decide) (fun c_672 => ?_) (fun c_672 => absurd c_672 (by decide))
        refine lv_aload_n X.1 X.2.1 dX12_rule_138 rfl (lv_at hl 3 rfl) ?_
        have t_673 : At S_662 x 12 := tAt_sA eS_662 ha_x
        obtain ⟨q_674, h_675, h_676, h_677⟩ := gQ_12_1221 hO_663.1 t_673
        refine r_getR (g := 1221) X hw t_673 rfl 21 h_675 (by decide) rfl inn_X12_rule_12 (by decide) (X.2.2.2.1 (.fieldLink RX12 64 "SilkMillModel" "act" "[I") (by decide +kernel)) rfl (gv_1221 _ _) dX12_rule_139 ?_
        refine lv_iload_n X.1 X.2.1 dX12_rule_142 rfl (lv_at hl 0 rfl) ?_
        refine lv_iload_n X.1 X.2.1 dX12_rule_143 rfl (lv_at hl 1 rfl) ?_
        refine r_iast X hw h_676 rfl (by rw [h_677]; exact z_ix z_657 (by omega) (by omega)) dX12_rule_144 (fun H locs hw => ?_)
        obtain ⟨S_678, eS_678⟩ : ∃ T, T = sA S_662 q_674 (upd (pA S_662 q_674) (Int32.toNatClampNeg (v_656)) (rr_637)) := ⟨_, rfl⟩
        rw [← eS_678] at hw
        have hO_679 : Ok MRt S S_678 := hO_663.sA eS_678 h_676 (by decide +kernel) (uA_634 hO_663.1 h_676)
        have h_680 : pA S_678 q_674 (Int32.toNatClampNeg (v_656)) = rr_637 := tA_sAs eS_678
        have t_681 : pR S_678 1221 x = some q_674 := tR_sA eS_678 h_675
        have t_683 : pR S_662 1221 x = some q_674 := by have h := t_681; rw [eS_678, pR_sA] at h; exact h
        have zs_682 : ∀ j, zA S_678 x 1221 j = if j = ((48 + v_650.toInt)).toNat then rr_637.toInt else zA S_662 x 1221 j := by have h := zA_sAs eS_678 t_683 rfl; rw [z_nc z_657 (by omega)] at h; exact h
        have ce_684 : CeX S_662 S_678 x 1221 ((48 + v_650.toInt)).toNat (rr_637.toInt) := CeX_mk hO_663.1 t_673 eS_678 h_676 (by decide) zs_682
        refine lv_aload_n X.1 X.2.1 dX12_rule_145 rfl (lv_at hl 3 rfl) ?_
        have t_685 : At S_678 x 12 := tAt_sA eS_678 t_673
        have rg_686 := RGB_sA hp_0 eS_662
        have rg_687 := RGB_sA rg_686 eS_678
        have ok_688 := hdI (RGB_ok hG ha_x rg_687)
        have ok_689 : (t0).2.1 ≤ (t0).2.2 ∧ (t0).2.2 ≤ 400 := ⟨(hdE ok_688).1, (hdE ok_688).2.1⟩
        obtain ⟨v_690, ev_690⟩ : ∃ v, pI S_678 1233 x = v := ⟨_, rfl⟩
        have rg_691 := gI_12_1233 hO_679.1 t_685; rw [ev_690] at rg_691
        have pz_692 : (pI S_678 1233 x).toInt = v_690.toInt := by rw [ev_690]
        have pz_693 : (pI S_678 1233 x).toInt = v_690.toInt := (congrArg Int32.toInt ev_690).trans rfl
        refine k_v (rm := { frames := 2, cells := 0, slots := 0, locals := 96 }) (av := [.ref x]) X hw (va_runV (As := []) (rest := []) (cfix X) (k_X12_token2 l G cy κ S_678 _ x hO_679.1 t_685) (cwV 0 X.2.2.2.1 gX12_rule_X12_token rfl rfl rfl (by decide +kernel) ⟨Nat.le_of_ble_eq_true rfl, Nat.le_of_ble_eq_true rfl⟩) (pre_V X hw _ t_685 rfl (by decide) rfl) rfl rfl hl.1 rfl (lv_room (Nat.le_of_ble_eq_true rfl)) dX12_rule_146 ⟨Nat.le_of_ble_eq_true rfl, Nat.le_of_ble_eq_true rfl⟩) 0 0 (Nat.le_of_ble_eq_true rfl) (Nat.le_of_ble_eq_true rfl) (fun S_695 H locs hp hw hfr hnw => ?_)
        obtain ⟨hk_696, hp⟩ := hp
        have hO_697 : Ok MRt S S_695 := hO_679.call hk_696 (by decide +kernel)
        have rg_698 : RGB (rB S x) (pI S 1228 x).toInt.toNat S_695 x (nxT (rB S x) (pI S 1228 x).toInt.toNat t0) := RGB_adv rg_687 (rB_fr hG ha_x hO_679.fr (by decide +kernel)) (by rw [hO_679.fr.I' (g := 1228) (by decide +kernel) ha_x rfl]) (by omega) hp
        have ok_699 := hdI (RGB_ok hG ha_x rg_698)
        have ok_700 : ((nxT (rB S x) (pI S 1228 x).toInt.toNat t0)).2.1 ≤ ((nxT (rB S x) (pI S 1228 x).toInt.toNat t0)).2.2 ∧ ((nxT (rB S x) (pI S 1228 x).toInt.toNat t0)).2.2 ≤ 400 := ⟨(hdE ok_699).1, (hdE ok_699).2.1⟩
        refine lv_aload_n X.1 X.2.1 dX12_rule_149 rfl (lv_at hl 3 rfl) ?_
        have t_701 : At S_695 x 12 := hk_696.fr.at t_685
        obtain ⟨q_702, h_703, h_704, h_705⟩ := gQ_12_1222 hO_697.1 t_701
        refine r_getR (g := 1222) X hw t_701 rfl 22 h_703 (by decide) rfl inn_X12_rule_12 (by decide) (X.2.2.2.1 (.fieldLink RX12 67 "SilkMillModel" "actNumber" "[I") (by decide +kernel)) rfl (gv_1222 _ _) dX12_rule_150 ?_
        refine lv_iload_n X.1 X.2.1 dX12_rule_153 rfl (lv_at hl 0 rfl) ?_
        refine lv_iload_n X.1 X.2.1 dX12_rule_154 rfl (lv_at hl 1 rfl) ?_
        refine lv_iconst (v := 5) X.1 X.2.1 dX12_rule_155 (by decide) ?_
        refine lv_icmp_ne (tgt := 166) X.1 X.2.1 dX12_rule_156 (by decide) (fun c_706 => ?_) (fun c_706 => ?_)
        · have z_b_707 := trivial
          have k_708 : rr_637.toInt ≠ 5 := z_ne rfl ti_5 c_706
          refine lv_iconst (v := 0) X.1 X.2.1 dX12_rule_166 (by decide) ?_
          refine r_iast X hw h_704 rfl (by rw [h_705]; exact z_ix z_657 (by omega) (by omega)) dX12_rule_167 (fun H locs hw => ?_)
          obtain ⟨S_709, eS_709⟩ : ∃ T, T = sA S_695 q_702 (upd (pA S_695 q_702) (Int32.toNatClampNeg (v_656)) (0)) := ⟨_, rfl⟩
          rw [← eS_709] at hw
          have hO_710 : Ok MRt S S_709 := hO_697.sA eS_709 h_704 (by decide +kernel) (uA_654 hO_697.1 h_704)
          have h_711 : pA S_709 q_702 (Int32.toNatClampNeg (v_656)) = 0 := tA_sAs eS_709
          have t_712 : pR S_709 1222 x = some q_702 := tR_sA eS_709 h_703
          have t_714 : pR S_695 1222 x = some q_702 := by have h := t_712; rw [eS_709, pR_sA] at h; exact h
          have zs_713 : ∀ j, zA S_709 x 1222 j = if j = ((48 + v_650.toInt)).toNat then 0 else zA S_695 x 1222 j := by have h := zA_sAs eS_709 t_714 ti_0; rw [z_nc z_657 (by omega)] at h; exact h
          have ce_715 : CeX S_695 S_709 x 1222 ((48 + v_650.toInt)).toNat (0) := CeX_mk hO_697.1 t_701 eS_709 h_704 (by decide) zs_713
          refine lv_aload_n X.1 X.2.1 dX12_rule_168 rfl (lv_at hl 3 rfl) ?_
          refine lv_ldcwS (q := κ (100 + 25)) X.1 X.2.1 X.2.2.2.2.1 (show vk_R RX12 281 ";" (κ (100 + 25)) s from (X.2.2.2.2.2.2.2.2.2.2.2.2.2.2 25 (by decide)).1) dX12_rule_169 ?_
          have rg_716 := RGB_sA rg_698 eS_709
          have t_717 : pI S_662 1230 x = v_1 := tI_sA eS_662 ev_1
          have t_718 : pI S_678 1230 x = v_1 := tI_sA eS_678 t_717
          have t_719 : pI S_695 1230 x = v_1 := hk_696.fr.I' (by decide +kernel) t_685 t_718
          have t_720 : pI S_709 1230 x = v_1 := tI_sA eS_709 t_719
          have pz_721 : (pI S_709 1230 x).toInt = v_1.toInt := (congrArg Int32.toInt t_720).trans rfl
          have t_722 : At S_709 x 12 := tAt_sA eS_709 t_701
          have pz_723 : (pI S_709 1230 x).toInt = v_1.toInt := (congrArg Int32.toInt t_720).trans rfl
          refine k_i (rm := { frames := 6, cells := 0, slots := 0, locals := 288 }) (av := [.ref x, .ref (κ (100 + 25))]) X hw (va_runV (As := [.ref (κ (100 + 25))]) (rest := []) (cfix X) (k_X12_must2 l G cy κ S_709 _ x 25 (nxT (rB S x) (pI S 1228 x).toInt.toNat t0) hO_710.1 t_722 (by decide) (by rw [rB_fr hG ha_x hO_710.fr (by decide +kernel), hO_710.fr.I' (g := 1228) (by decide +kernel) ha_x rfl]; exact rg_716)) (cwV 1 X.2.2.2.1 gX12_rule_X12_must rfl rfl rfl (by decide +kernel) ⟨Nat.le_of_ble_eq_true rfl, Nat.le_of_ble_eq_true rfl⟩) (pre_V X hw _ t_722 rfl (by decide) rfl) rfl rfl hl.1 rfl (lv_room (Nat.le_of_ble_eq_true rfl)) dX12_rule_172 ⟨Nat.le_of_ble_eq_true rfl, Nat.le_of_ble_eq_true rfl⟩) 0 0 (Nat.le_of_ble_eq_true rfl) (Nat.le_of_ble_eq_true rfl) (fun rr_724 S_725 H locs hp hw hfr hnw => ?_)
          obtain ⟨hk_726, hp⟩ := hp
          have hO_727 : Ok MRt S S_725 := hO_710.call hk_726 (by decide +kernel)
          rcases hp with ⟨f_728, er_729⟩ | ⟨f_728, er_729⟩ <;> subst er_729
          · have z_b_730 := trivial
            rw [rB_fr hG ha_x hO_710.fr (by decide +kernel), hO_710.fr.I' (g := 1228) (by decide +kernel) ha_x rfl] at f_728
            obtain ⟨v_732, ev_732⟩ : ∃ v, pI S_725 1230 x = v := ⟨_, rfl⟩
            have rg_734 := And.intro (z_lo v_732) (z_hi v_732)
            have pz_735 : (pI S_725 1230 x).toInt = v_732.toInt := by rw [ev_732]
            have pz_736 : (pI S_725 1230 x).toInt = v_732.toInt := (congrArg Int32.toInt ev_732).trans rfl
            have ok_737 := hdI (RGB_ok hG ha_x f_728.2.1)
            have ok_738 : ((nxT (rB S x) (pI S 1228 x).toInt.toNat (nxT (rB S x) (pI S 1228 x).toInt.toNat t0))).2.1 ≤ ((nxT (rB S x) (pI S 1228 x).toInt.toNat (nxT (rB S x) (pI S 1228 x).toInt.toNat t0))).2.2 ∧ ((nxT (rB S x) (pI S 1228 x).toInt.toNat (nxT (rB S x) (pI S 1228 x).toInt.toNat t0))).2.2 ≤ 400 := ⟨(hdE ok_737).1, (hdE ok_737).2.1⟩
            refine lv_if_ne (tgt := 180) X.1 X.2.1 dX12_rule_175 (by decide) (fun c_739 => ?_) (fun c_739 => absurd c_739 (by decide))
            refine lv_aload_n X.1 X.2.1 dX12_rule_180 rfl (lv_at hl 3 rfl) ?_
            have t_740 : At S_725 x 12 := hk_726.fr.at t_722
            have t_741 : pR S_662 1220 x = some q_646 := tR_sA eS_662 h_647
            have t_742 : pR S_678 1220 x = some q_646 := tR_sA eS_678 t_741
            have t_743 : pR S_695 1220 x = some q_646 := hk_696.fr.R' (by decide +kernel) t_685 t_742
            have t_744 : pR S_709 1220 x = some q_646 := tR_sA eS_709 t_743
            have t_745 : pR S_725 1220 x = some q_646 := hk_726.fr.R' (by decide +kernel) t_722 t_744
            refine r_getR (g := 1220) X hw t_740 rfl 20 t_745 (by decide) rfl inn_X12_rule_12 (by decide) (X.2.2.2.1 (.fieldLink RX12 61 "SilkMillModel" "rules" "[I") (by decide +kernel)) rfl (gv_1220 _ _) dX12_rule_181 ?_
            refine lv_iconst (v := 4) X.1 X.2.1 dX12_rule_184 (by decide) ?_
            refine lv_dup2_11 X.1 X.2.1 dX12_rule_185 rfl rfl ?_
            have t_746 : At S_662 q_646 614 := tAt_sA eS_662 h_648
            have t_747 : At S_678 q_646 614 := tAt_sA eS_678 t_746
            have t_748 : At S_695 q_646 614 := hk_696.fr.at t_747
            have t_749 : At S_709 q_646 614 := tAt_sA eS_709 t_748
            have t_750 : At S_725 q_646 614 := hk_726.fr.at t_749
            have t_751 : pN S_662 q_646 = 5 := tN_sA eS_662 h_649
            clear h_649
            have t_752 : pN S_678 q_646 = 5 := tN_sA eS_678 t_751
            clear t_751
            have t_754 : At S_662 q_646 614 := tAt_sA eS_662 h_648
            have t_755 : At S_678 q_646 614 := tAt_sA eS_678 t_754
            have t_753 : pN S_695 q_646 = 5 := hk_696.fr.N t_755 t_752
            clear t_752
            have t_756 : pN S_709 q_646 = 5 := tN_sA eS_709 t_753
            clear t_753
            have t_758 : At S_695 q_646 614 := hk_696.fr.at t_755
            have t_759 : At S_709 q_646 614 := tAt_sA eS_709 t_758
            have t_757 : pN S_725 q_646 = 5 := hk_726.fr.N t_759 t_756
            clear t_756
            refine r_iald X hw t_750 rfl (by rw [t_757]; exact z_ix ti_4 (by omega) (by omega)) dX12_rule_186 ?_
            have t_760 : pA S_662 q_646 (Int32.toNatClampNeg (4)) = v_650 := tA_sA eS_662 (At_ne h_648 h_660 (by decide)) ev_650
            have t_762 : At S_662 q_646 614 := tAt_sA eS_662 h_648
            have t_761 : pA S_678 q_646 (Int32.toNatClampNeg (4)) = v_650 := tA_sA eS_678 (At_ne t_762 h_676 (by decide)) t_760
            have t_763 : pA S_695 q_646 (Int32.toNatClampNeg (4)) = v_650 := (congrFun (hk_696.fr.A' (by decide +kernel) t_755) _).trans t_761
            have t_765 : At S_695 q_646 614 := hk_696.fr.at t_755
            have t_764 : pA S_709 q_646 (Int32.toNatClampNeg (4)) = v_650 := tA_sA eS_709 (At_ne t_765 h_704 (by decide)) t_763
            have t_766 : pA S_725 q_646 (Int32.toNatClampNeg (4)) = v_650 := (congrFun (hk_726.fr.A' (by decide +kernel) t_759) _).trans t_764
            rw [t_766]
            refine lv_iconst (v := 1) X.1 X.2.1 dX12_rule_187 (by decide) ?_
            refine lv_iadd X.1 X.2.1 dX12_rule_188 ?_
            refine lv_topi (fun v_767 ev_767 => ?_)
            have z_768 : v_767.toInt = v_650.toInt + 1 := z_add ev_767 rfl ti_1 (by omega) (by omega)
            refine r_iast X hw t_750 rfl (by rw [t_757]; exact z_ix ti_4 (by omega) (by omega)) dX12_rule_189 (fun H locs hw => ?_)
            obtain ⟨S_769, eS_769⟩ : ∃ T, T = sA S_725 q_646 (upd (pA S_725 q_646) (Int32.toNatClampNeg (4)) (v_767)) := ⟨_, rfl⟩
            rw [← eS_769] at hw
            have hO_770 : Ok MRt S S_769 := hO_727.sA eS_769 t_750 (by decide +kernel) (uA_614 hO_727.1 t_750 (by omega) (by omega))
            have h_771 : pA S_769 q_646 (Int32.toNatClampNeg (4)) = v_767 := tA_sAs eS_769
            have t_772 : pR S_769 1220 x = some q_646 := tR_sA eS_769 t_745
            have t_774 : pR S_725 1220 x = some q_646 := by have h := t_772; rw [eS_769, pR_sA] at h; exact h
            have zs_773 : ∀ j, zA S_769 x 1220 j = if j = (4 : Int).toNat then (v_650.toInt + 1) else zA S_725 x 1220 j := by have h := zA_sAs eS_769 t_774 z_768; rw [z_nc ti_4 (by omega)] at h; exact h
            have zs_775 : zA S_769 x 1220 4 = (v_650.toInt + 1) := by have h := zs_773 4; rw [if_pos (by decide)] at h; exact h
            have t_777 : pR S_725 1220 x = some q_646 := by have h := t_772; rw [eS_769, pR_sA] at h; exact h
            have zs_776 : ∀ j, zA S_769 x 1220 j = if j = (4 : Int).toNat then (v_650.toInt + 1) else zA S_725 x 1220 j := by have h := zA_sAs eS_769 t_777 z_768; rw [z_nc ti_4 (by omega)] at h; exact h
            refine lv_iconst (v := 1) X.1 X.2.1 dX12_rule_190 (by decide) ?_
            have t_779 : pI S_769 1230 x = v_732 := tI_sA eS_769 ev_732
            have pz_780 : (pI S_769 1230 x).toInt = v_732.toInt := (congrArg Int32.toInt t_779).trans rfl
            have ea_778 : rueF (rB S x) (pI S 1228 x).toInt.toNat (zA S x 1220 4).toNat t0 = acF (rB S x) (pI S 1228 x).toInt.toNat t0 := (cit_n (fun h => by have h2 := h.2; omega)).trans ((cit_n (by omega)).trans ((cit_n (fun h => f_14 ⟨by omega, (isR_if hp_0).mpr h⟩))))
            have ec_781 : acF (rB S x) (pI S 1228 x).toInt.toNat t0 = (0, nxT (rB S x) (pI S 1228 x).toInt.toNat (nxT (rB S x) (pI S 1228 x).toInt.toNat t0)) := (cit_n (by omega)).trans ((cit_n (by omega)).trans (cit_y ((isR_se rg_716).mp f_728.1.2)))
            have rg_782 := RGB_sA f_728.2.1 eS_769
            have rrl_783 : RrL S S_662 x := RrL_ce (RrL_rf S x) ce_671 (zA_sAn eS_662 (ex3 (gQ_12_1220 hO.1 ha_x)) h_660 rfl) (by omega)
            have rrl_784 : RrL S S_678 x := RrL_ce rrl_783 ce_684 (zA_sAn eS_678 (ex3 (gQ_12_1220 hO_663.1 t_673)) h_676 rfl) (by omega)
            have rrl_785 : RrL S S_695 x := RrL_to rrl_784 (rg_zA hO_679.1 t_685 hk_696.fr (by decide +kernel)) (zA_fr hk_696.fr t_685 (ex3 (gQ_12_1220 hO_679.1 t_685)) (by decide +kernel) (by decide +kernel))
            have rrl_786 : RrL S S_709 x := RrL_ce rrl_785 ce_715 (zA_sAn eS_709 (ex3 (gQ_12_1220 hO_697.1 t_701)) h_704 rfl) (by omega)
            have rrl_787 : RrL S S_725 x := RrL_to rrl_786 (rg_zA hO_710.1 t_722 hk_726.fr (by decide +kernel)) (zA_fr hk_726.fr t_722 (ex3 (gQ_12_1220 hO_710.1 t_722)) (by decide +kernel) (by decide +kernel))
            have rrl_788 : RrL S S_769 x := RrL_tr rrl_787 ⟨fun _ _ => (by rw [(rg_sAo hO_727.1 t_740 eS_769 t_750 (by decide)) 1221 (by decide), (rg_sAo hO_727.1 t_740 eS_769 t_750 (by decide)) 1222 (by decide), (rg_sAo hO_727.1 t_740 eS_769 t_750 (by decide)) 1223 (by decide)]; exact ⟨rfl, rfl, rfl⟩), fun _ _ => (by rw [(rg_sAo hO_727.1 t_740 eS_769 t_750 (by decide)) 1224 (by decide), (rg_sAo hO_727.1 t_740 eS_769 t_750 (by decide)) 1225 (by decide), (rg_sAo hO_727.1 t_740 eS_769 t_750 (by decide)) 1226 (by decide)]; exact ⟨rfl, rfl, rfl⟩), fun j hj => (by rw [zs_776 j, if_neg (by omega)])⟩
            have rr_789 : RrC S_662 x Rl [] := RrC_open hO.1 ha_x ce_671 (by omega) hp_2
            have rr_790 := RrC_ce2 hO_663.1 t_673 (by decide) ce_684 (by omega) rr_789
            have rr_791 : RrC S_695 x Rl [] := RrC_to (rg_zA hO_679.1 t_685 hk_696.fr (by decide +kernel)) rr_790.1
            have cl_792 : zA S_695 x 1221 (48 + (Rl).length) = rr_637.toInt := by rw [(rg_zA hO_679.1 t_685 hk_696.fr (by decide +kernel)) 1221 (by decide)]; exact rr_790.2
            have rr_793 := RrC_ce2 hO_697.1 t_701 (by decide) ce_715 (by omega) rr_791
            have cl_794 : zA S_709 x 1221 (48 + (Rl).length) = rr_637.toInt := by rw [ce_715.2 1221 (by decide) (by decide)]; exact cl_792
            have rr_795 : RrC S_725 x Rl [] := RrC_to (rg_zA hO_710.1 t_722 hk_726.fr (by decide +kernel)) rr_793.1
            have cl_796 : zA S_725 x 1221 (48 + (Rl).length) = rr_637.toInt := by rw [(rg_zA hO_710.1 t_722 hk_726.fr (by decide +kernel)) 1221 (by decide)]; exact cl_794
            have cl_797 : zA S_725 x 1222 (48 + (Rl).length) = 0 := by rw [(rg_zA hO_710.1 t_722 hk_726.fr (by decide +kernel)) 1222 (by decide)]; exact rr_793.2
            have rr_798 : RrC S_769 x Rl [] := RrC_to (rg_sAo hO_727.1 t_740 eS_769 t_750 (by decide)) rr_795
            have cl_799 : zA S_769 x 1221 (48 + (Rl).length) = rr_637.toInt := by rw [(rg_sAo hO_727.1 t_740 eS_769 t_750 (by decide)) 1221 (by decide)]; exact cl_796
            have cl_800 : zA S_769 x 1222 (48 + (Rl).length) = 0 := by rw [(rg_sAo hO_727.1 t_740 eS_769 t_750 (by decide)) 1222 (by decide)]; exact cl_797
            have av_801 : acV (rB S x) (pI S 1228 x).toInt.toNat t0 = (rr_637, 0) := acV_n wh_641 (by omega)
            have rv_802 : ruV (rB S x) (pI S 1228 x).toInt.toNat t0 = (rr_637, 0, []) := by rw [ruV_n (fun h => f_14 ⟨by omega, (isR_if hp_0).mpr h⟩), av_801]
            rw [hQQ]
            exact ret_z X hw hr hlocks (Nat.le_of_ble_eq_true rfl) (Nat.le_of_ble_eq_true rfl) (by decide) ⟨hO_770, Or.inl ⟨by rw [ea_778, ec_781]; exact ⟨rfl, rg_782, by omega, by omega, by omega, (by rw [rv_802]; exact RrC_end rr_798 (cl_799) (cl_800.trans ti_0.symm)), rrl_788⟩, rfl⟩⟩ dX12_rule_191
          · have z_b_803 := trivial
            rw [rB_fr hG ha_x hO_710.fr (by decide +kernel)] at f_728
            obtain ⟨v_805, ev_805⟩ : ∃ v, pI S_725 1230 x = v := ⟨_, rfl⟩
            have rg_807 := And.intro (z_lo v_805) (z_hi v_805)
            have pz_808 : (pI S_725 1230 x).toInt = v_805.toInt := by rw [ev_805]
            have pz_809 : (pI S_725 1230 x).toInt = v_805.toInt := (congrArg Int32.toInt ev_805).trans rfl
            refine lv_if_ne (tgt := 180) X.1 X.2.1 dX12_rule_175 (by decide) (fun c_810 => absurd c_810 (by decide)) (fun c_810 => ?_)
            refine lv_iconst (v := 0) X.1 X.2.1 dX12_rule_178 (by decide) ?_
            have pz_812 : (pI S_725 1230 x).toInt = v_805.toInt := (congrArg Int32.toInt ev_805).trans rfl
            have ea_811 : rueF (rB S x) (pI S 1228 x).toInt.toNat (zA S x 1220 4).toNat t0 = acF (rB S x) (pI S 1228 x).toInt.toNat t0 := (cit_n (fun h => by have h2 := h.2; omega)).trans ((cit_n (by omega)).trans ((cit_n (fun h => f_14 ⟨by omega, (isR_if hp_0).mpr h⟩))))
            have ec_813 : acF (rB S x) (pI S 1228 x).toInt.toNat t0 = (1, (nxT (rB S x) (pI S 1228 x).toInt.toNat t0)) := (cit_n (by omega)).trans ((cit_n (by omega)).trans (cit_n (fun h => f_728.1 ⟨by omega, (isR_se rg_716).mpr h⟩)))
            have rrl_814 : RrL S S_662 x := RrL_ce (RrL_rf S x) ce_671 (zA_sAn eS_662 (ex3 (gQ_12_1220 hO.1 ha_x)) h_660 rfl) (by omega)
            have rrl_815 : RrL S S_678 x := RrL_ce rrl_814 ce_684 (zA_sAn eS_678 (ex3 (gQ_12_1220 hO_663.1 t_673)) h_676 rfl) (by omega)
            have rrl_816 : RrL S S_695 x := RrL_to rrl_815 (rg_zA hO_679.1 t_685 hk_696.fr (by decide +kernel)) (zA_fr hk_696.fr t_685 (ex3 (gQ_12_1220 hO_679.1 t_685)) (by decide +kernel) (by decide +kernel))
            have rrl_817 : RrL S S_709 x := RrL_ce rrl_816 ce_715 (zA_sAn eS_709 (ex3 (gQ_12_1220 hO_697.1 t_701)) h_704 rfl) (by omega)
            have rrl_818 : RrL S S_725 x := RrL_to rrl_817 (rg_zA hO_710.1 t_722 hk_726.fr (by decide +kernel)) (zA_fr hk_726.fr t_722 (ex3 (gQ_12_1220 hO_710.1 t_722)) (by decide +kernel) (by decide +kernel))
            rw [hQQ]
            exact ret_z X hw hr hlocks (Nat.le_of_ble_eq_true rfl) (Nat.le_of_ble_eq_true rfl) (by decide) ⟨hO_727, Or.inr ⟨⟨by rw [ea_811, ec_813]; exact ⟨(by decide : (1 : Int) ≠ 0), by have h := f_728.2; show _ = (1 : Int); omega⟩, rrl_818⟩, rfl⟩⟩ dX12_rule_179
        · have z_b_819 := trivial
          have k_820 : rr_637.toInt = 5 := z_eq rfl ti_5 c_706
          refine lv_aload_n X.1 X.2.1 dX12_rule_159 rfl (lv_at hl 3 rfl) ?_
          have t_821 : pI S_662 1230 x = v_1 := tI_sA eS_662 ev_1
          have t_822 : pI S_678 1230 x = v_1 := tI_sA eS_678 t_821
          have t_823 : pI S_695 1230 x = v_1 := hk_696.fr.I' (by decide +kernel) t_685 t_822
          have pz_824 : (pI S_695 1230 x).toInt = v_1.toInt := (congrArg Int32.toInt t_823).trans rfl
          refine k_i (rm := { frames := 3, cells := 0, slots := 0, locals := 144 }) (av := [.ref x]) X hw (va_runV (As := []) (rest := [.int (v_656), .ref q_702]) (cfix X) (k_X12_number2 l G cy κ S_695 _ x (nxT (rB S x) (pI S 1228 x).toInt.toNat t0) hO_697.1 t_701 (by rw [rB_fr hG ha_x hO_697.fr (by decide +kernel), hO_697.fr.I' (g := 1228) (by decide +kernel) ha_x rfl]; exact rg_698)) (cwV 0 X.2.2.2.1 gX12_rule_X12_number rfl rfl rfl (by decide +kernel) ⟨Nat.le_of_ble_eq_true rfl, Nat.le_of_ble_eq_true rfl⟩) (pre_V X hw _ t_701 rfl (by decide) rfl) rfl rfl hl.1 rfl (lv_room (Nat.le_of_ble_eq_true rfl)) dX12_rule_160 ⟨Nat.le_of_ble_eq_true rfl, Nat.le_of_ble_eq_true rfl⟩) 0 0 (Nat.le_of_ble_eq_true rfl) (Nat.le_of_ble_eq_true rfl) (fun rr_825 S_826 H locs hp hw hfr hnw => ?_)
          obtain ⟨hk_827, hp⟩ := hp
          have hO_828 : Ok MRt S S_826 := hO_697.call hk_827 (by decide +kernel)
          obtain ⟨nm_829, nm_830, nm_831, nm_832⟩ := hp
          rw [rB_fr hG ha_x hO_697.fr (by decide +kernel), hO_697.fr.I' (g := 1228) (by decide +kernel) ha_x rfl] at nm_831
          rw [rB_fr hG ha_x hO_697.fr (by decide +kernel), hO_697.fr.I' (g := 1228) (by decide +kernel) ha_x rfl] at nm_832
          by_cases hd_833 : (nxT (rB S x) (pI S 1228 x).toInt.toNat t0).1 = 2
          · have nq_834 := nm_831 hd_833
            have nfk_835 := nq_834.2.2
            obtain ⟨v_837, ev_837⟩ : ∃ v, pI S_826 1230 x = v := ⟨_, rfl⟩
            have rg_839 := And.intro (z_lo v_837) (z_hi v_837)
            have pz_840 : (pI S_826 1230 x).toInt = v_837.toInt := by rw [ev_837]
            have pz_841 : (pI S_826 1230 x).toInt = v_837.toInt := (congrArg Int32.toInt ev_837).trans rfl
            have ok_842 := hdI (RGB_ok hG ha_x nq_834.2.1)
            have ok_843 : ((nxT (rB S x) (pI S 1228 x).toInt.toNat (nxT (rB S x) (pI S 1228 x).toInt.toNat t0))).2.1 ≤ ((nxT (rB S x) (pI S 1228 x).toInt.toNat (nxT (rB S x) (pI S 1228 x).toInt.toNat t0))).2.2 ∧ ((nxT (rB S x) (pI S 1228 x).toInt.toNat (nxT (rB S x) (pI S 1228 x).toInt.toNat t0))).2.2 ≤ 400 := ⟨(hdE ok_842).1, (hdE ok_842).2.1⟩
            refine lv_goto (tgt := 167) X.1 X.2.1 dX12_rule_163 (by decide) ?_
            have t_844 : At S_826 q_702 654 := hk_827.fr.at h_704
            have t_845 : pN S_826 q_702 = 60 := hk_827.fr.N h_704 h_705
            clear h_705
            refine r_iast X hw t_844 rfl (by rw [t_845]; exact z_ix z_657 (by omega) (by omega)) dX12_rule_167 (fun H locs hw => ?_)
            obtain ⟨S_846, eS_846⟩ : ∃ T, T = sA S_826 q_702 (upd (pA S_826 q_702) (Int32.toNatClampNeg (v_656)) (rr_825)) := ⟨_, rfl⟩
            rw [← eS_846] at hw
            have hO_847 : Ok MRt S S_846 := hO_828.sA eS_846 t_844 (by decide +kernel) (uA_654 hO_828.1 t_844)
            have h_848 : pA S_846 q_702 (Int32.toNatClampNeg (v_656)) = rr_825 := tA_sAs eS_846
            have t_849 : pR S_826 1222 x = some q_702 := hk_827.fr.R' (by decide +kernel) t_701 h_703
            have t_850 : pR S_846 1222 x = some q_702 := tR_sA eS_846 t_849
            have t_852 : pR S_826 1222 x = some q_702 := by have h := t_850; rw [eS_846, pR_sA] at h; exact h
            have zs_851 : ∀ j, zA S_846 x 1222 j = if j = ((48 + v_650.toInt)).toNat then rr_825.toInt else zA S_826 x 1222 j := by have h := zA_sAs eS_846 t_852 rfl; rw [z_nc z_657 (by omega)] at h; exact h
            have t_854 : At S_826 x 12 := hk_827.fr.at t_701
            have ce_853 : CeX S_826 S_846 x 1222 ((48 + v_650.toInt)).toNat (rr_825.toInt) := CeX_mk hO_828.1 t_854 eS_846 t_844 (by decide) zs_851
            refine lv_aload_n X.1 X.2.1 dX12_rule_168 rfl (lv_at hl 3 rfl) ?_
            refine lv_ldcwS (q := κ (100 + 25)) X.1 X.2.1 X.2.2.2.2.1 (show vk_R RX12 281 ";" (κ (100 + 25)) s from (X.2.2.2.2.2.2.2.2.2.2.2.2.2.2 25 (by decide)).1) dX12_rule_169 ?_
            have rg_855 := RGB_sA nq_834.2.1 eS_846
            have t_856 : pI S_846 1230 x = v_837 := tI_sA eS_846 ev_837
            have pz_857 : (pI S_846 1230 x).toInt = v_837.toInt := (congrArg Int32.toInt t_856).trans rfl
            have t_858 : At S_846 x 12 := tAt_sA eS_846 t_854
            have pz_859 : (pI S_846 1230 x).toInt = v_837.toInt := (congrArg Int32.toInt t_856).trans rfl
            refine k_i (rm := { frames := 6, cells := 0, slots := 0, locals := 288 }) (av := [.ref x, .ref (κ (100 + 25))]) X hw (va_runV (As := [.ref (κ (100 + 25))]) (rest := []) (cfix X) (k_X12_must2 l G cy κ S_846 _ x 25 (nxT (rB S x) (pI S 1228 x).toInt.toNat (nxT (rB S x) (pI S 1228 x).toInt.toNat t0)) hO_847.1 t_858 (by decide) (by rw [rB_fr hG ha_x hO_847.fr (by decide +kernel), hO_847.fr.I' (g := 1228) (by decide +kernel) ha_x rfl]; exact rg_855)) (cwV 1 X.2.2.2.1 gX12_rule_X12_must rfl rfl rfl (by decide +kernel) ⟨Nat.le_of_ble_eq_true rfl, Nat.le_of_ble_eq_true rfl⟩) (pre_V X hw _ t_858 rfl (by decide) rfl) rfl rfl hl.1 rfl (lv_room (Nat.le_of_ble_eq_true rfl)) dX12_rule_172 ⟨Nat.le_of_ble_eq_true rfl, Nat.le_of_ble_eq_true rfl⟩) 0 0 (Nat.le_of_ble_eq_true rfl) (Nat.le_of_ble_eq_true rfl) (fun rr_860 S_861 H locs hp hw hfr hnw => ?_)
            obtain ⟨hk_862, hp⟩ := hp
            have hO_863 : Ok MRt S S_861 := hO_847.call hk_862 (by decide +kernel)
            rcases hp with ⟨f_864, er_865⟩ | ⟨f_864, er_865⟩ <;> subst er_865
            · have z_b_866 := trivial
              rw [rB_fr hG ha_x hO_847.fr (by decide +kernel), hO_847.fr.I' (g := 1228) (by decide +kernel) ha_x rfl] at f_864
              obtain ⟨v_868, ev_868⟩ : ∃ v, pI S_861 1230 x = v := ⟨_, rfl⟩
              have rg_870 := And.intro (z_lo v_868) (z_hi v_868)
              have pz_871 : (pI S_861 1230 x).toInt = v_868.toInt := by rw [ev_868]
              have pz_872 : (pI S_861 1230 x).toInt = v_868.toInt := (congrArg Int32.toInt ev_868).trans rfl
              have ok_873 := hdI (RGB_ok hG ha_x f_864.2.1)
              have ok_874 : ((nxT (rB S x) (pI S 1228 x).toInt.toNat (nxT (rB S x) (pI S 1228 x).toInt.toNat (nxT (rB S x) (pI S 1228 x).toInt.toNat t0)))).2.1 ≤ ((nxT (rB S x) (pI S 1228 x).toInt.toNat (nxT (rB S x) (pI S 1228 x).toInt.toNat (nxT (rB S x) (pI S 1228 x).toInt.toNat t0)))).2.2 ∧ ((nxT (rB S x) (pI S 1228 x).toInt.toNat (nxT (rB S x) (pI S 1228 x).toInt.toNat (nxT (rB S x) (pI S 1228 x).toInt.toNat t0)))).2.2 ≤ 400 := ⟨(hdE ok_873).1, (hdE ok_873).2.1⟩
              refine lv_if_ne (tgt := 180) X.1 X.2.1 dX12_rule_175 (by decide) (fun c_875 => ?_) (fun c_875 => absurd c_875 (by decide))
              refine lv_aload_n X.1 X.2.1 dX12_rule_180 rfl (lv_at hl 3 rfl) ?_
              have t_876 : At S_861 x 12 := hk_862.fr.at t_858
              have t_877 : pR S_662 1220 x = some q_646 := tR_sA eS_662 h_647
              have t_878 : pR S_678 1220 x = some q_646 := tR_sA eS_678 t_877
              have t_879 : pR S_695 1220 x = some q_646 := hk_696.fr.R' (by decide +kernel) t_685 t_878
              have t_880 : pR S_826 1220 x = some q_646 := hk_827.fr.R' (by decide +kernel) t_701 t_879
              have t_881 : pR S_846 1220 x = some q_646 := tR_sA eS_846 t_880
              have t_882 : pR S_861 1220 x = some q_646 := hk_862.fr.R' (by decide +kernel) t_858 t_881
              refine r_getR (g := 1220) X hw t_876 rfl 20 t_882 (by decide) rfl inn_X12_rule_12 (by decide) (X.2.2.2.1 (.fieldLink RX12 61 "SilkMillModel" "rules" "[I") (by decide +kernel)) rfl (gv_1220 _ _) dX12_rule_181 ?_
              refine lv_iconst (v := 4) X.1 X.2.1 dX12_rule_184 (by decide) ?_
              refine lv_dup2_11 X.1 X.2.1 dX12_rule_185 rfl rfl ?_
              have t_883 : At S_662 q_646 614 := tAt_sA eS_662 h_648
              have t_884 : At S_678 q_646 614 := tAt_sA eS_678 t_883
              have t_885 : At S_695 q_646 614 := hk_696.fr.at t_884
              have t_886 : At S_826 q_646 614 := hk_827.fr.at t_885
              have t_887 : At S_846 q_646 614 := tAt_sA eS_846 t_886
              have t_888 : At S_861 q_646 614 := hk_862.fr.at t_887
              have t_889 : pN S_662 q_646 = 5 := tN_sA eS_662 h_649
              clear h_649
              have t_890 : pN S_678 q_646 = 5 := tN_sA eS_678 t_889
              clear t_889
              have t_892 : At S_662 q_646 614 := tAt_sA eS_662 h_648
              have t_893 : At S_678 q_646 614 := tAt_sA eS_678 t_892
              have t_891 : pN S_695 q_646 = 5 := hk_696.fr.N t_893 t_890
              clear t_890
              have t_895 : At S_695 q_646 614 := hk_696.fr.at t_893
              have t_894 : pN S_826 q_646 = 5 := hk_827.fr.N t_895 t_891
              clear t_891
              have t_896 : pN S_846 q_646 = 5 := tN_sA eS_846 t_894
              clear t_894
              have t_898 : At S_826 q_646 614 := hk_827.fr.at t_895
              have t_899 : At S_846 q_646 614 := tAt_sA eS_846 t_898
              have t_897 : pN S_861 q_646 = 5 := hk_862.fr.N t_899 t_896
              clear t_896
              refine r_iald X hw t_888 rfl (by rw [t_897]; exact z_ix ti_4 (by omega) (by omega)) dX12_rule_186 ?_
              have t_900 : pA S_662 q_646 (Int32.toNatClampNeg (4)) = v_650 := tA_sA eS_662 (At_ne h_648 h_660 (by decide)) ev_650
              have t_902 : At S_662 q_646 614 := tAt_sA eS_662 h_648
              have t_901 : pA S_678 q_646 (Int32.toNatClampNeg (4)) = v_650 := tA_sA eS_678 (At_ne t_902 h_676 (by decide)) t_900
              have t_903 : pA S_695 q_646 (Int32.toNatClampNeg (4)) = v_650 := (congrFun (hk_696.fr.A' (by decide +kernel) t_893) _).trans t_901
              have t_904 : pA S_826 q_646 (Int32.toNatClampNeg (4)) = v_650 := (congrFun (hk_827.fr.A' (by decide +kernel) t_895) _).trans t_903
              have t_906 : At S_826 q_646 614 := hk_827.fr.at t_895
              have t_905 : pA S_846 q_646 (Int32.toNatClampNeg (4)) = v_650 := tA_sA eS_846 (At_ne t_906 t_844 (by decide)) t_904
              have t_907 : pA S_861 q_646 (Int32.toNatClampNeg (4)) = v_650 := (congrFun (hk_862.fr.A' (by decide +kernel) t_899) _).trans t_905
              rw [t_907]
              refine lv_iconst (v := 1) X.1 X.2.1 dX12_rule_187 (by decide) ?_
              refine lv_iadd X.1 X.2.1 dX12_rule_188 ?_
              refine lv_topi (fun v_908 ev_908 => ?_)
              have z_909 : v_908.toInt = v_650.toInt + 1 := z_add ev_908 rfl ti_1 (by omega) (by omega)
              refine r_iast X hw t_888 rfl (by rw [t_897]; exact z_ix ti_4 (by omega) (by omega)) dX12_rule_189 (fun H locs hw => ?_)
              obtain ⟨S_910, eS_910⟩ : ∃ T, T = sA S_861 q_646 (upd (pA S_861 q_646) (Int32.toNatClampNeg (4)) (v_908)) := ⟨_, rfl⟩
              rw [← eS_910] at hw
              have hO_911 : Ok MRt S S_910 := hO_863.sA eS_910 t_888 (by decide +kernel) (uA_614 hO_863.1 t_888 (by omega) (by omega))
              have h_912 : pA S_910 q_646 (Int32.toNatClampNeg (4)) = v_908 := tA_sAs eS_910
              have t_913 : pR S_910 1220 x = some q_646 := tR_sA eS_910 t_882
              have t_915 : pR S_861 1220 x = some q_646 := by have h := t_913; rw [eS_910, pR_sA] at h; exact h
              have zs_914 : ∀ j, zA S_910 x 1220 j = if j = (4 : Int).toNat then (v_650.toInt + 1) else zA S_861 x 1220 j := by have h := zA_sAs eS_910 t_915 z_909; rw [z_nc ti_4 (by omega)] at h; exact h
              have zs_916 : zA S_910 x 1220 4 = (v_650.toInt + 1) := by have h := zs_914 4; rw [if_pos (by decide)] at h; exact h
              have t_918 : pR S_861 1220 x = some q_646 := by have h := t_913; rw [eS_910, pR_sA] at h; exact h
              have zs_917 : ∀ j, zA S_910 x 1220 j = if j = (4 : Int).toNat then (v_650.toInt + 1) else zA S_861 x 1220 j := by have h := zA_sAs eS_910 t_918 z_909; rw [z_nc ti_4 (by omega)] at h; exact h
              refine lv_iconst (v := 1) X.1 X.2.1 dX12_rule_190 (by decide) ?_
              have t_920 : pI S_910 1230 x = v_868 := tI_sA eS_910 ev_868
              have pz_921 : (pI S_910 1230 x).toInt = v_868.toInt := (congrArg Int32.toInt t_920).trans rfl
              have ea_919 : rueF (rB S x) (pI S 1228 x).toInt.toNat (zA S x 1220 4).toNat t0 = acF (rB S x) (pI S 1228 x).toInt.toNat t0 := (cit_n (fun h => by have h2 := h.2; omega)).trans ((cit_n (by omega)).trans ((cit_n (fun h => f_14 ⟨by omega, (isR_if hp_0).mpr h⟩))))
              have ec_922 : acF (rB S x) (pI S 1228 x).toInt.toNat t0 = (0, nxT (rB S x) (pI S 1228 x).toInt.toNat (nxT (rB S x) (pI S 1228 x).toInt.toNat (nxT (rB S x) (pI S 1228 x).toInt.toNat t0))) := (cit_n (by omega)).trans ((cit_y (by omega)).trans ((cit_y hd_833).trans (cit_y ((isR_se rg_855).mp f_864.1.2))))
              have rg_923 := RGB_sA f_864.2.1 eS_910
              have rrl_924 : RrL S S_662 x := RrL_ce (RrL_rf S x) ce_671 (zA_sAn eS_662 (ex3 (gQ_12_1220 hO.1 ha_x)) h_660 rfl) (by omega)
              have rrl_925 : RrL S S_678 x := RrL_ce rrl_924 ce_684 (zA_sAn eS_678 (ex3 (gQ_12_1220 hO_663.1 t_673)) h_676 rfl) (by omega)
              have rrl_926 : RrL S S_695 x := RrL_to rrl_925 (rg_zA hO_679.1 t_685 hk_696.fr (by decide +kernel)) (zA_fr hk_696.fr t_685 (ex3 (gQ_12_1220 hO_679.1 t_685)) (by decide +kernel) (by decide +kernel))
              have rrl_927 : RrL S S_826 x := RrL_to rrl_926 (rg_zA hO_697.1 t_701 hk_827.fr (by decide +kernel)) (zA_fr hk_827.fr t_701 (ex3 (gQ_12_1220 hO_697.1 t_701)) (by decide +kernel) (by decide +kernel))
              have rrl_928 : RrL S S_846 x := RrL_ce rrl_927 ce_853 (zA_sAn eS_846 (ex3 (gQ_12_1220 hO_828.1 t_854)) t_844 rfl) (by omega)
              have rrl_929 : RrL S S_861 x := RrL_to rrl_928 (rg_zA hO_847.1 t_858 hk_862.fr (by decide +kernel)) (zA_fr hk_862.fr t_858 (ex3 (gQ_12_1220 hO_847.1 t_858)) (by decide +kernel) (by decide +kernel))
              have rrl_930 : RrL S S_910 x := RrL_tr rrl_929 ⟨fun _ _ => (by rw [(rg_sAo hO_863.1 t_876 eS_910 t_888 (by decide)) 1221 (by decide), (rg_sAo hO_863.1 t_876 eS_910 t_888 (by decide)) 1222 (by decide), (rg_sAo hO_863.1 t_876 eS_910 t_888 (by decide)) 1223 (by decide)]; exact ⟨rfl, rfl, rfl⟩), fun _ _ => (by rw [(rg_sAo hO_863.1 t_876 eS_910 t_888 (by decide)) 1224 (by decide), (rg_sAo hO_863.1 t_876 eS_910 t_888 (by decide)) 1225 (by decide), (rg_sAo hO_863.1 t_876 eS_910 t_888 (by decide)) 1226 (by decide)]; exact ⟨rfl, rfl, rfl⟩), fun j hj => (by rw [zs_917 j, if_neg (by omega)])⟩
              have rr_931 : RrC S_662 x Rl [] := RrC_open hO.1 ha_x ce_671 (by omega) hp_2
              have rr_932 := RrC_ce2 hO_663.1 t_673 (by decide) ce_684 (by omega) rr_931
              have rr_933 : RrC S_695 x Rl [] := RrC_to (rg_zA hO_679.1 t_685 hk_696.fr (by decide +kernel)) rr_932.1
              have cl_934 : zA S_695 x 1221 (48 + (Rl).length) = rr_637.toInt := by rw [(rg_zA hO_679.1 t_685 hk_696.fr (by decide +kernel)) 1221 (by decide)]; exact rr_932.2
              have rr_935 : RrC S_826 x Rl [] := RrC_to (rg_zA hO_697.1 t_701 hk_827.fr (by decide +kernel)) rr_933
              have cl_936 : zA S_826 x 1221 (48 + (Rl).length) = rr_637.toInt := by rw [(rg_zA hO_697.1 t_701 hk_827.fr (by decide +kernel)) 1221 (by decide)]; exact cl_934
              have rr_937 := RrC_ce2 hO_828.1 t_854 (by decide) ce_853 (by omega) rr_935
              have cl_938 : zA S_846 x 1221 (48 + (Rl).length) = rr_637.toInt := by rw [ce_853.2 1221 (by decide) (by decide)]; exact cl_936
              have rr_939 : RrC S_861 x Rl [] := RrC_to (rg_zA hO_847.1 t_858 hk_862.fr (by decide +kernel)) rr_937.1
              have cl_940 : zA S_861 x 1221 (48 + (Rl).length) = rr_637.toInt := by rw [(rg_zA hO_847.1 t_858 hk_862.fr (by decide +kernel)) 1221 (by decide)]; exact cl_938
              have cl_941 : zA S_861 x 1222 (48 + (Rl).length) = rr_825.toInt := by rw [(rg_zA hO_847.1 t_858 hk_862.fr (by decide +kernel)) 1222 (by decide)]; exact rr_937.2
              have rr_942 : RrC S_910 x Rl [] := RrC_to (rg_sAo hO_863.1 t_876 eS_910 t_888 (by decide)) rr_939
              have cl_943 : zA S_910 x 1221 (48 + (Rl).length) = rr_637.toInt := by rw [(rg_sAo hO_863.1 t_876 eS_910 t_888 (by decide)) 1221 (by decide)]; exact cl_940
              have cl_944 : zA S_910 x 1222 (48 + (Rl).length) = rr_825.toInt := by rw [(rg_sAo hO_863.1 t_876 eS_910 t_888 (by decide)) 1222 (by decide)]; exact cl_941
              have av_945 : acV (rB S x) (pI S 1228 x).toInt.toNat t0 = (rr_637, rr_825) := acV_s wh_641 (by omega) nq_834.1
              have rv_946 : ruV (rB S x) (pI S 1228 x).toInt.toNat t0 = (rr_637, rr_825, []) := by rw [ruV_n (fun h => f_14 ⟨by omega, (isR_if hp_0).mpr h⟩), av_945]
              rw [hQQ]
              exact ret_z X hw hr hlocks (Nat.le_of_ble_eq_true rfl) (Nat.le_of_ble_eq_true rfl) (by decide) ⟨hO_911, Or.inl ⟨by rw [ea_919, ec_922]; exact ⟨rfl, rg_923, by omega, by omega, by omega, (by rw [rv_946]; exact RrC_end rr_942 (cl_943) (cl_944)), rrl_930⟩, rfl⟩⟩ dX12_rule_191
            · have z_b_947 := trivial
              rw [rB_fr hG ha_x hO_847.fr (by decide +kernel)] at f_864
              obtain ⟨v_949, ev_949⟩ : ∃ v, pI S_861 1230 x = v := ⟨_, rfl⟩
              have rg_951 := And.intro (z_lo v_949) (z_hi v_949)
              have pz_952 : (pI S_861 1230 x).toInt = v_949.toInt := by rw [ev_949]
              have pz_953 : (pI S_861 1230 x).toInt = v_949.toInt := (congrArg Int32.toInt ev_949).trans rfl
              refine lv_if_ne (tgt := 180) X.1 X.2.1 dX12_rule_175 (by decide) (fun c_954 => absurd c_954 (by decide)) (fun c_954 => ?_)
              refine lv_iconst (v := 0) X.1 X.2.1 dX12_rule_178 (by decide) ?_
              have pz_956 : (pI S_861 1230 x).toInt = v_949.toInt := (congrArg Int32.toInt ev_949).trans rfl
              have ea_955 : rueF (rB S x) (pI S 1228 x).toInt.toNat (zA S x 1220 4).toNat t0 = acF (rB S x) (pI S 1228 x).toInt.toNat t0 := (cit_n (fun h => by have h2 := h.2; omega)).trans ((cit_n (by omega)).trans ((cit_n (fun h => f_14 ⟨by omega, (isR_if hp_0).mpr h⟩))))
              have ec_957 : acF (rB S x) (pI S 1228 x).toInt.toNat t0 = (1, (nxT (rB S x) (pI S 1228 x).toInt.toNat (nxT (rB S x) (pI S 1228 x).toInt.toNat t0))) := (cit_n (by omega)).trans ((cit_y (by omega)).trans ((cit_y hd_833).trans (cit_n (fun h => f_864.1 ⟨by omega, (isR_se rg_855).mpr h⟩))))
              have rrl_958 : RrL S S_662 x := RrL_ce (RrL_rf S x) ce_671 (zA_sAn eS_662 (ex3 (gQ_12_1220 hO.1 ha_x)) h_660 rfl) (by omega)
              have rrl_959 : RrL S S_678 x := RrL_ce rrl_958 ce_684 (zA_sAn eS_678 (ex3 (gQ_12_1220 hO_663.1 t_673)) h_676 rfl) (by omega)
              have rrl_960 : RrL S S_695 x := RrL_to rrl_959 (rg_zA hO_679.1 t_685 hk_696.fr (by decide +kernel)) (zA_fr hk_696.fr t_685 (ex3 (gQ_12_1220 hO_679.1 t_685)) (by decide +kernel) (by decide +kernel))
              have rrl_961 : RrL S S_826 x := RrL_to rrl_960 (rg_zA hO_697.1 t_701 hk_827.fr (by decide +kernel)) (zA_fr hk_827.fr t_701 (ex3 (gQ_12_1220 hO_697.1 t_701)) (by decide +kernel) (by decide +kernel))
              have rrl_962 : RrL S S_846 x := RrL_ce rrl_961 ce_853 (zA_sAn eS_846 (ex3 (gQ_12_1220 hO_828.1 t_854)) t_844 rfl) (by omega)
              have rrl_963 : RrL S S_861 x := RrL_to rrl_962 (rg_zA hO_847.1 t_858 hk_862.fr (by decide +kernel)) (zA_fr hk_862.fr t_858 (ex3 (gQ_12_1220 hO_847.1 t_858)) (by decide +kernel) (by decide +kernel))
              rw [hQQ]
              exact ret_z X hw hr hlocks (Nat.le_of_ble_eq_true rfl) (Nat.le_of_ble_eq_true rfl) (by decide) ⟨hO_863, Or.inr ⟨⟨by rw [ea_955, ec_957]; exact ⟨(by decide : (1 : Int) ≠ 0), by have h := f_864.2; show _ = (1 : Int); omega⟩, rrl_963⟩, rfl⟩⟩ dX12_rule_179
          · have nq_964 := nm_832 hd_833
            have nfk_965 := nq_964.2
            obtain ⟨v_967, ev_967⟩ : ∃ v, pI S_826 1230 x = v := ⟨_, rfl⟩
            have rg_969 := And.intro (z_lo v_967) (z_hi v_967)
            have pz_970 : (pI S_826 1230 x).toInt = v_967.toInt := by rw [ev_967]
            have pz_971 : (pI S_826 1230 x).toInt = v_967.toInt := (congrArg Int32.toInt ev_967).trans rfl
            have ok_972 := hdI (RGB_ok hG ha_x nq_964.1)
            have ok_973 : ((nxT (rB S x) (pI S 1228 x).toInt.toNat t0)).2.1 ≤ ((nxT (rB S x) (pI S 1228 x).toInt.toNat t0)).2.2 ∧ ((nxT (rB S x) (pI S 1228 x).toInt.toNat t0)).2.2 ≤ 400 := ⟨(hdE ok_972).1, (hdE ok_972).2.1⟩
            refine lv_goto (tgt := 167) X.1 X.2.1 dX12_rule_163 (by decide) ?_
            have t_974 : At S_826 q_702 654 := hk_827.fr.at h_704
            have t_975 : pN S_826 q_702 = 60 := hk_827.fr.N h_704 h_705
            clear h_705
            refine r_iast X hw t_974 rfl (by rw [t_975]; exact z_ix z_657 (by omega) (by omega)) dX12_rule_167 (fun H locs hw => ?_)
            obtain ⟨S_976, eS_976⟩ : ∃ T, T = sA S_826 q_702 (upd (pA S_826 q_702) (Int32.toNatClampNeg (v_656)) (rr_825)) := ⟨_, rfl⟩
            rw [← eS_976] at hw
            have hO_977 : Ok MRt S S_976 := hO_828.sA eS_976 t_974 (by decide +kernel) (uA_654 hO_828.1 t_974)
            have h_978 : pA S_976 q_702 (Int32.toNatClampNeg (v_656)) = rr_825 := tA_sAs eS_976
            have t_979 : pR S_826 1222 x = some q_702 := hk_827.fr.R' (by decide +kernel) t_701 h_703
            have t_980 : pR S_976 1222 x = some q_702 := tR_sA eS_976 t_979
            have t_982 : pR S_826 1222 x = some q_702 := by have h := t_980; rw [eS_976, pR_sA] at h; exact h
            have zs_981 : ∀ j, zA S_976 x 1222 j = if j = ((48 + v_650.toInt)).toNat then rr_825.toInt else zA S_826 x 1222 j := by have h := zA_sAs eS_976 t_982 rfl; rw [z_nc z_657 (by omega)] at h; exact h
            have t_984 : At S_826 x 12 := hk_827.fr.at t_701
            have ce_983 : CeX S_826 S_976 x 1222 ((48 + v_650.toInt)).toNat (rr_825.toInt) := CeX_mk hO_828.1 t_984 eS_976 t_974 (by decide) zs_981
            refine lv_aload_n X.1 X.2.1 dX12_rule_168 rfl (lv_at hl 3 rfl) ?_
            refine lv_ldcwS (q := κ (100 + 25)) X.1 X.2.1 X.2.2.2.2.1 (show vk_R RX12 281 ";" (κ (100 + 25)) s from (X.2.2.2.2.2.2.2.2.2.2.2.2.2.2 25 (by decide)).1) dX12_rule_169 ?_
            have rg_985 := RGB_sA nq_964.1 eS_976
            have t_986 : pI S_976 1230 x = v_967 := tI_sA eS_976 ev_967
            have pz_987 : (pI S_976 1230 x).toInt = v_967.toInt := (congrArg Int32.toInt t_986).trans rfl
            have t_988 : At S_976 x 12 := tAt_sA eS_976 t_984
            have pz_989 : (pI S_976 1230 x).toInt = v_967.toInt := (congrArg Int32.toInt t_986).trans rfl
            refine k_i (rm := { frames := 6, cells := 0, slots := 0, locals := 288 }) (av := [.ref x, .ref (κ (100 + 25))]) X hw (va_runV (As := [.ref (κ (100 + 25))]) (rest := []) (cfix X) (k_X12_must2 l G cy κ S_976 _ x 25 (nxT (rB S x) (pI S 1228 x).toInt.toNat t0) hO_977.1 t_988 (by decide) (by rw [rB_fr hG ha_x hO_977.fr (by decide +kernel), hO_977.fr.I' (g := 1228) (by decide +kernel) ha_x rfl]; exact rg_985)) (cwV 1 X.2.2.2.1 gX12_rule_X12_must rfl rfl rfl (by decide +kernel) ⟨Nat.le_of_ble_eq_true rfl, Nat.le_of_ble_eq_true rfl⟩) (pre_V X hw _ t_988 rfl (by decide) rfl) rfl rfl hl.1 rfl (lv_room (Nat.le_of_ble_eq_true rfl)) dX12_rule_172 ⟨Nat.le_of_ble_eq_true rfl, Nat.le_of_ble_eq_true rfl⟩) 0 0 (Nat.le_of_ble_eq_true rfl) (Nat.le_of_ble_eq_true rfl) (fun rr_990 S_991 H locs hp hw hfr hnw => ?_)
            obtain ⟨hk_992, hp⟩ := hp
            have hO_993 : Ok MRt S S_991 := hO_977.call hk_992 (by decide +kernel)
            rcases hp with ⟨f_994, er_995⟩ | ⟨f_994, er_995⟩ <;> subst er_995
            · have z_b_996 := trivial
              rw [rB_fr hG ha_x hO_977.fr (by decide +kernel), hO_977.fr.I' (g := 1228) (by decide +kernel) ha_x rfl] at f_994
              obtain ⟨v_998, ev_998⟩ : ∃ v, pI S_991 1230 x = v := ⟨_, rfl⟩
              have rg_1000 := And.intro (z_lo v_998) (z_hi v_998)
              have pz_1001 : (pI S_991 1230 x).toInt = v_998.toInt := by rw [ev_998]
              have pz_1002 : (pI S_991 1230 x).toInt = v_998.toInt := (congrArg Int32.toInt ev_998).trans rfl
              have ok_1003 := hdI (RGB_ok hG ha_x f_994.2.1)
              have ok_1004 : ((nxT (rB S x) (pI S 1228 x).toInt.toNat (nxT (rB S x) (pI S 1228 x).toInt.toNat t0))).2.1 ≤ ((nxT (rB S x) (pI S 1228 x).toInt.toNat (nxT (rB S x) (pI S 1228 x).toInt.toNat t0))).2.2 ∧ ((nxT (rB S x) (pI S 1228 x).toInt.toNat (nxT (rB S x) (pI S 1228 x).toInt.toNat t0))).2.2 ≤ 400 := ⟨(hdE ok_1003).1, (hdE ok_1003).2.1⟩
              refine lv_if_ne (tgt := 180) X.1 X.2.1 dX12_rule_175 (by decide) (fun c_1005 => ?_) (fun c_1005 => absurd c_1005 (by decide))
              refine lv_aload_n X.1 X.2.1 dX12_rule_180 rfl (lv_at hl 3 rfl) ?_
              have t_1006 : At S_991 x 12 := hk_992.fr.at t_988
              have t_1007 : pR S_662 1220 x = some q_646 := tR_sA eS_662 h_647
              have t_1008 : pR S_678 1220 x = some q_646 := tR_sA eS_678 t_1007
              have t_1009 : pR S_695 1220 x = some q_646 := hk_696.fr.R' (by decide +kernel) t_685 t_1008
              have t_1010 : pR S_826 1220 x = some q_646 := hk_827.fr.R' (by decide +kernel) t_701 t_1009
              have t_1011 : pR S_976 1220 x = some q_646 := tR_sA eS_976 t_1010
              have t_1012 : pR S_991 1220 x = some q_646 := hk_992.fr.R' (by decide +kernel) t_988 t_1011
              refine r_getR (g := 1220) X hw t_1006 rfl 20 t_1012 (by decide) rfl inn_X12_rule_12 (by decide) (X.2.2.2.1 (.fieldLink RX12 61 "SilkMillModel" "rules" "[I") (by decide +kernel)) rfl (gv_1220 _ _) dX12_rule_181 ?_
              refine lv_iconst (v := 4) X.1 X.2.1 dX12_rule_184 (by decide) ?_
              refine lv_dup2_11 X.1 X.2.1 dX12_rule_185 rfl rfl ?_
              have t_1013 : At S_662 q_646 614 := tAt_sA eS_662 h_648
              have t_1014 : At S_678 q_646 614 := tAt_sA eS_678 t_1013
              have t_1015 : At S_695 q_646 614 := hk_696.fr.at t_1014
              have t_1016 : At S_826 q_646 614 := hk_827.fr.at t_1015
              have t_1017 : At S_976 q_646 614 := tAt_sA eS_976 t_1016
              have t_1018 : At S_991 q_646 614 := hk_992.fr.at t_1017
              have t_1019 : pN S_662 q_646 = 5 := tN_sA eS_662 h_649
              clear h_649
              have t_1020 : pN S_678 q_646 = 5 := tN_sA eS_678 t_1019
              clear t_1019
              have t_1022 : At S_662 q_646 614 := tAt_sA eS_662 h_648
              have t_1023 : At S_678 q_646 614 := tAt_sA eS_678 t_1022
              have t_1021 : pN S_695 q_646 = 5 := hk_696.fr.N t_1023 t_1020
              clear t_1020
              have t_1025 : At S_695 q_646 614 := hk_696.fr.at t_1023
              have t_1024 : pN S_826 q_646 = 5 := hk_827.fr.N t_1025 t_1021
              clear t_1021
              have t_1026 : pN S_976 q_646 = 5 := tN_sA eS_976 t_1024
              clear t_1024
              have t_1028 : At S_826 q_646 614 := hk_827.fr.at t_1025
              have t_1029 : At S_976 q_646 614 := tAt_sA eS_976 t_1028
              have t_1027 : pN S_991 q_646 = 5 := hk_992.fr.N t_1029 t_1026
              clear t_1026
              refine r_iald X hw t_1018 rfl (by rw [t_1027]; exact z_ix ti_4 (by omega) (by omega)) dX12_rule_186 ?_
              have t_1030 : pA S_662 q_646 (Int32.toNatClampNeg (4)) = v_650 := tA_sA eS_662 (At_ne h_648 h_660 (by decide)) ev_650
              have t_1032 : At S_662 q_646 614 := tAt_sA eS_662 h_648
              have t_1031 : pA S_678 q_646 (Int32.toNatClampNeg (4)) = v_650 := tA_sA eS_678 (At_ne t_1032 h_676 (by decide)) t_1030
              have t_1033 : pA S_695 q_646 (Int32.toNatClampNeg (4)) = v_650 := (congrFun (hk_696.fr.A' (by decide +kernel) t_1023) _).trans t_1031
              have t_1034 : pA S_826 q_646 (Int32.toNatClampNeg (4)) = v_650 := (congrFun (hk_827.fr.A' (by decide +kernel) t_1025) _).trans t_1033
              have t_1036 : At S_826 q_646 614 := hk_827.fr.at t_1025
              have t_1035 : pA S_976 q_646 (Int32.toNatClampNeg (4)) = v_650 := tA_sA eS_976 (At_ne t_1036 t_974 (by decide)) t_1034
              have t_1037 : pA S_991 q_646 (Int32.toNatClampNeg (4)) = v_650 := (congrFun (hk_992.fr.A' (by decide +kernel) t_1029) _).trans t_1035
              rw [t_1037]
              refine lv_iconst (v := 1) X.1 X.2.1 dX12_rule_187 (by decide) ?_
              refine lv_iadd X.1 X.2.1 dX12_rule_188 ?_
              refine lv_topi (fun v_1038 ev_1038 => ?_)
              have z_1039 : v_1038.toInt = v_650.toInt + 1 := z_add ev_1038 rfl ti_1 (by omega) (by omega)
              refine r_iast X hw t_1018 rfl (by rw [t_1027]; exact z_ix ti_4 (by omega) (by omega)) dX12_rule_189 (fun H locs hw => ?_)
              obtain ⟨S_1040, eS_1040⟩ : ∃ T, T = sA S_991 q_646 (upd (pA S_991 q_646) (Int32.toNatClampNeg (4)) (v_1038)) := ⟨_, rfl⟩
              rw [← eS_1040] at hw
              have hO_1041 : Ok MRt S S_1040 := hO_993.sA eS_1040 t_1018 (by decide +kernel) (uA_614 hO_993.1 t_1018 (by omega) (by omega))
              have h_1042 : pA S_1040 q_646 (Int32.toNatClampNeg (4)) = v_1038 := tA_sAs eS_1040
              have t_1043 : pR S_1040 1220 x = some q_646 := tR_sA eS_1040 t_1012
              have t_1045 : pR S_991 1220 x = some q_646 := by have h := t_1043; rw [eS_1040, pR_sA] at h; exact h
              have zs_1044 : ∀ j, zA S_1040 x 1220 j = if j = (4 : Int).toNat then (v_650.toInt + 1) else zA S_991 x 1220 j := by have h := zA_sAs eS_1040 t_1045 z_1039; rw [z_nc ti_4 (by omega)] at h; exact h
              have zs_1046 : zA S_1040 x 1220 4 = (v_650.toInt + 1) := by have h := zs_1044 4; rw [if_pos (by decide)] at h; exact h
              have t_1048 : pR S_991 1220 x = some q_646 := by have h := t_1043; rw [eS_1040, pR_sA] at h; exact h
              have zs_1047 : ∀ j, zA S_1040 x 1220 j = if j = (4 : Int).toNat then (v_650.toInt + 1) else zA S_991 x 1220 j := by have h := zA_sAs eS_1040 t_1048 z_1039; rw [z_nc ti_4 (by omega)] at h; exact h
              refine lv_iconst (v := 1) X.1 X.2.1 dX12_rule_190 (by decide) ?_
              have t_1050 : pI S_1040 1230 x = v_998 := tI_sA eS_1040 ev_998
              have pz_1051 : (pI S_1040 1230 x).toInt = v_998.toInt := (congrArg Int32.toInt t_1050).trans rfl
              have ea_1049 : rueF (rB S x) (pI S 1228 x).toInt.toNat (zA S x 1220 4).toNat t0 = acF (rB S x) (pI S 1228 x).toInt.toNat t0 := (cit_n (fun h => by have h2 := h.2; omega)).trans ((cit_n (by omega)).trans ((cit_n (fun h => f_14 ⟨by omega, (isR_if hp_0).mpr h⟩))))
              have ec_1052 : acF (rB S x) (pI S 1228 x).toInt.toNat t0 = (1, t0) := (cit_n (by omega)).trans ((cit_y (by omega)).trans (cit_n hd_833))
              rw [hQQ]
              exact ret_z X hw hr hlocks (Nat.le_of_ble_eq_true rfl) (Nat.le_of_ble_eq_true rfl) (by decide) ⟨hO_1041, (by exfalso; have h := f_994.1.1; omega)⟩ dX12_rule_191
            · have z_b_1053 := trivial
              rw [rB_fr hG ha_x hO_977.fr (by decide +kernel)] at f_994
              obtain ⟨v_1055, ev_1055⟩ : ∃ v, pI S_991 1230 x = v := ⟨_, rfl⟩
              have rg_1057 := And.intro (z_lo v_1055) (z_hi v_1055)
              have pz_1058 : (pI S_991 1230 x).toInt = v_1055.toInt := by rw [ev_1055]
              have pz_1059 : (pI S_991 1230 x).toInt = v_1055.toInt := (congrArg Int32.toInt ev_1055).trans rfl
              refine lv_if_ne (tgt := 180) X.1 X.2.1 dX12_rule_175 (by decide) (fun c_1060 => absurd c_1060 (by decide)) (fun c_1060 => ?_)
              refine lv_iconst (v := 0) X.1 X.2.1 dX12_rule_178 (by decide) ?_
              have pz_1062 : (pI S_991 1230 x).toInt = v_1055.toInt := (congrArg Int32.toInt ev_1055).trans rfl
              have ea_1061 : rueF (rB S x) (pI S 1228 x).toInt.toNat (zA S x 1220 4).toNat t0 = acF (rB S x) (pI S 1228 x).toInt.toNat t0 := (cit_n (fun h => by have h2 := h.2; omega)).trans ((cit_n (by omega)).trans ((cit_n (fun h => f_14 ⟨by omega, (isR_if hp_0).mpr h⟩))))
              have ec_1063 : acF (rB S x) (pI S 1228 x).toInt.toNat t0 = (1, t0) := (cit_n (by omega)).trans ((cit_y (by omega)).trans (cit_n hd_833))
              have rrl_1064 : RrL S S_662 x := RrL_ce (RrL_rf S x) ce_671 (zA_sAn eS_662 (ex3 (gQ_12_1220 hO.1 ha_x)) h_660 rfl) (by omega)
              have rrl_1065 : RrL S S_678 x := RrL_ce rrl_1064 ce_684 (zA_sAn eS_678 (ex3 (gQ_12_1220 hO_663.1 t_673)) h_676 rfl) (by omega)
              have rrl_1066 : RrL S S_695 x := RrL_to rrl_1065 (rg_zA hO_679.1 t_685 hk_696.fr (by decide +kernel)) (zA_fr hk_696.fr t_685 (ex3 (gQ_12_1220 hO_679.1 t_685)) (by decide +kernel) (by decide +kernel))
              have rrl_1067 : RrL S S_826 x := RrL_to rrl_1066 (rg_zA hO_697.1 t_701 hk_827.fr (by decide +kernel)) (zA_fr hk_827.fr t_701 (ex3 (gQ_12_1220 hO_697.1 t_701)) (by decide +kernel) (by decide +kernel))
              have rrl_1068 : RrL S S_976 x := RrL_ce rrl_1067 ce_983 (zA_sAn eS_976 (ex3 (gQ_12_1220 hO_828.1 t_984)) t_974 rfl) (by omega)
              have rrl_1069 : RrL S S_991 x := RrL_to rrl_1068 (rg_zA hO_977.1 t_988 hk_992.fr (by decide +kernel)) (zA_fr hk_992.fr t_988 (ex3 (gQ_12_1220 hO_977.1 t_988)) (by decide +kernel) (by decide +kernel))
              rw [hQQ]
              exact ret_z X hw hr hlocks (Nat.le_of_ble_eq_true rfl) (Nat.le_of_ble_eq_true rfl) (by decide) ⟨hO_993, Or.inr ⟨⟨by rw [ea_1061, ec_1063]; exact ⟨(by decide : (1 : Int) ≠ 0), by have h := f_994.2; show _ = (1 : Int); omega⟩, rrl_1069⟩, rfl⟩⟩ dX12_rule_179
      · have z_b_1070 := trivial
        have k_1071 : v_650.toInt = 12 := z_eq rfl ti_12 c_653
        refine lv_aload_n X.1 X.2.1 dX12_rule_42 rfl (lv_at hl 2 rfl) ?_
        refine lv_iconst (v := 2) X.1 X.2.1 dX12_rule_43 (by decide) ?_
        have pz_1072 : (pI S 1230 x).toInt = v_1.toInt := (congrArg Int32.toInt ev_1).trans rfl
        refine k_i (rm := { frames := 1, cells := 0, slots := 0, locals := 48 }) (av := [.ref x, .int 2]) X hw (va_runV (As := [.int 2]) (rest := []) (cfix X) (k_X12_wrong2 l G cy κ S _ x (2) (2) hO.1 ha_x ti_2) (cwV 1 X.2.2.2.1 gX12_rule_X12_wrong rfl rfl rfl (by decide +kernel) ⟨Nat.le_of_ble_eq_true rfl, Nat.le_of_ble_eq_true rfl⟩) (pre_V X hw _ ha_x rfl (by decide) rfl) rfl rfl hl.1 rfl (lv_room (Nat.le_of_ble_eq_true rfl)) dX12_rule_44 ⟨Nat.le_of_ble_eq_true rfl, Nat.le_of_ble_eq_true rfl⟩) 0 0 (Nat.le_of_ble_eq_true rfl) (Nat.le_of_ble_eq_true rfl) (fun rr_1073 S_1074 H locs hp hw hfr hnw => ?_)
        obtain ⟨hk_1075, hp⟩ := hp
        have hO_1076 : Ok MRt S S_1074 := hO.call hk_1075 (by decide +kernel)
        rcases hp with ⟨f_1077, er_1078⟩ | ⟨f_1077, er_1078⟩ <;> subst er_1078
        · have z_b_1079 := trivial
          exact f_1077.elim
        · have z_b_1080 := trivial
          obtain ⟨v_1083, ev_1083⟩ : ∃ v, pI S_1074 1230 x = v := ⟨_, rfl⟩
          have rg_1085 := And.intro (z_lo v_1083) (z_hi v_1083)
          have pz_1086 : (pI S_1074 1230 x).toInt = v_1083.toInt := by rw [ev_1083]
          have pz_1087 : (pI S_1074 1230 x).toInt = v_1083.toInt := (congrArg Int32.toInt ev_1083).trans rfl
          have ea_1081 : rueF (rB S x) (pI S 1228 x).toInt.toNat (zA S x 1220 4).toNat t0 = (2, t0) := (cit_n (fun h => by have h2 := h.2; omega)).trans (cit_y (by omega))
          have rrl_1088 : RrL S S_1074 x := RrL_to (RrL_rf S x) (rg_zA hO.1 ha_x hk_1075.fr (by decide +kernel)) (zA_fr hk_1075.fr ha_x (ex3 (gQ_12_1220 hO.1 ha_x)) (by decide +kernel) (by decide +kernel))
          rw [hQQ]
          exact ret_z X hw hr hlocks (Nat.le_of_ble_eq_true rfl) (Nat.le_of_ble_eq_true rfl) (by decide) ⟨hO_1076, Or.inr ⟨⟨by rw [ea_1081]; exact ⟨(by decide : (2 : Int) ≠ 0), by show _ = (2 : Int); omega⟩, rrl_1088⟩, rfl⟩⟩ dX12_rule_47
    · have z_b_1089 := trivial
      have k_1090 : rr_637.toInt = (-1) := z_eq rfl ti_m1 c_643
      refine lv_aload_n X.1 X.2.1 dX12_rule_25 rfl (lv_at hl 2 rfl) ?_
      refine lv_iconst (v := 1) X.1 X.2.1 dX12_rule_26 (by decide) ?_
      have pz_1091 : (pI S 1230 x).toInt = v_1.toInt := (congrArg Int32.toInt ev_1).trans rfl
      refine k_i (rm := { frames := 1, cells := 0, slots := 0, locals := 48 }) (av := [.ref x, .int 1]) X hw (va_runV (As := [.int 1]) (rest := []) (cfix X) (k_X12_wrong2 l G cy κ S _ x (1) (1) hO.1 ha_x ti_1) (cwV 1 X.2.2.2.1 gX12_rule_X12_wrong rfl rfl rfl (by decide +kernel) ⟨Nat.le_of_ble_eq_true rfl, Nat.le_of_ble_eq_true rfl⟩) (pre_V X hw _ ha_x rfl (by decide) rfl) rfl rfl hl.1 rfl (lv_room (Nat.le_of_ble_eq_true rfl)) dX12_rule_27 ⟨Nat.le_of_ble_eq_true rfl, Nat.le_of_ble_eq_true rfl⟩) 0 0 (Nat.le_of_ble_eq_true rfl) (Nat.le_of_ble_eq_true rfl) (fun rr_1092 S_1093 H locs hp hw hfr hnw => ?_)
      obtain ⟨hk_1094, hp⟩ := hp
      have hO_1095 : Ok MRt S S_1093 := hO.call hk_1094 (by decide +kernel)
      rcases hp with ⟨f_1096, er_1097⟩ | ⟨f_1096, er_1097⟩ <;> subst er_1097
      · have z_b_1098 := trivial
        exact f_1096.elim
      · have z_b_1099 := trivial
        obtain ⟨v_1102, ev_1102⟩ : ∃ v, pI S_1093 1230 x = v := ⟨_, rfl⟩
        have rg_1104 := And.intro (z_lo v_1102) (z_hi v_1102)
        have pz_1105 : (pI S_1093 1230 x).toInt = v_1102.toInt := by rw [ev_1102]
        have pz_1106 : (pI S_1093 1230 x).toInt = v_1102.toInt := (congrArg Int32.toInt ev_1102).trans rfl
        have ea_1100 : rueF (rB S x) (pI S 1228 x).toInt.toNat (zA S x 1220 4).toNat t0 = (1, t0) := cit_y ⟨(fun h => f_14 ⟨by omega, (isR_if hp_0).mpr h⟩), by omega⟩
        have rrl_1107 : RrL S S_1093 x := RrL_to (RrL_rf S x) (rg_zA hO.1 ha_x hk_1094.fr (by decide +kernel)) (zA_fr hk_1094.fr ha_x (ex3 (gQ_12_1220 hO.1 ha_x)) (by decide +kernel) (by decide +kernel))
        rw [hQQ]
        exact ret_z X hw hr hlocks (Nat.le_of_ble_eq_true rfl) (Nat.le_of_ble_eq_true rfl) (by decide) ⟨hO_1095, Or.inr ⟨⟨by rw [ea_1100]; exact ⟨(by decide : (1 : Int) ≠ 0), by show _ = (1 : Int); omega⟩, rrl_1107⟩, rfl⟩⟩ dX12_rule_30
