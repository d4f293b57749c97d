def MRt : List Nat := [1229, 1230, 1231, 1232, 1233, 1234, 10674, 10694, 10714, 10734, 10614, 10634, 10654]

set_option maxHeartbeats 4000000 in
set_option maxRecDepth 100000 in
theorem k_X12_rule2 (l : Launch) (G : va_G) (cy : Nat → ClassId) (κ : Nat → Nat) (S : PS) (sz : Nat) (x : Nat) (t0 : Tk) (hG : GX S) (ha_x : At S x 12) (hp_0 : RGB (rB S x) (pI S 1228 x).toInt.toNat S x t0) (hp_1 : (pI S 1230 x).toInt = 0) : Ci l yX12_rule wsX12_rule ({ frames := 7, cells := 0, slots := 0, locals := 336 }) G cy κ S sz [.ref x] (fun (r : Int32) (S9 : PS) => Ok MRt S S9 ∧ ((((rueF (rB S x) (pI S 1228 x).toInt.toNat (zA S x 1220 4).toNat t0).1 = 0 ∧ RGB (rB S x) (pI S 1228 x).toInt.toNat S9 x (rueF (rB S x) (pI S 1228 x).toInt.toNat (zA S x 1220 4).toNat t0).2 ∧ (pI S9 1230 x).toInt = 0 ∧ zA S9 x 1220 4 = zA S x 1220 4 + 1 ∧ zA S9 x 1220 4 ≤ 12) ∧ r = 1) ∨ (((rueF (rB S x) (pI S 1228 x).toInt.toNat (zA S x 1220 4).toNat t0).1 ≠ 0 ∧ (pI S9 1230 x).toInt = (rueF (rB S x) (pI S 1228 x).toInt.toNat (zA S x 1220 4).toNat t0).1) ∧ r = 0))) := by
  refine ent_m (cc := cX12_rule) (maxL := 4) (ret := (some .boolean)) (by decide) rfl (Nat.le_of_ble_eq_true rfl) ?_
  intro p e s m below meth c ls X hr hlocks hin hw hl hsz
  subst hsz
  have X : Cx p c cX12_rule 4 s [.ref x].toArray wsX12_rule RX12 m G cy κ (AS S s.heap.size) := X
  have hl : lv_has ls 4 [(0, .ref x)] := hl
  have hO : Ok MRt S S := Ok.rf hG
  generalize hQQ : MQ below _ _ _ _ _ _ = QQ
  replace hQQ := hQQ.symm
  have hok := hdI (RGB_ok hG ha_x hp_0)
  have hok1 : t0.2.1 ≤ t0.2.2 ∧ t0.2.2 ≤ 400 := ⟨(hdE hok).1, (hdE hok).2.1⟩
  obtain ⟨v_1, ev_1⟩ : ∃ v, pI S 1230 x = v := ⟨_, rfl⟩
  have rg_3 := And.intro (z_lo v_1) (z_hi v_1)
  have pz_4 : (pI S 1230 x).toInt = v_1.toInt := by rw [ev_1]
  have pz_5 : (pI S 1230 x).toInt = v_1.toInt := (congrArg Int32.toInt ev_1).trans rfl
  obtain ⟨v_6, ev_6⟩ : ∃ v, pI S 1231 x = v := ⟨_, rfl⟩
  have rg_8 := And.intro (z_lo v_6) (z_hi v_6)
  have pz_9 : (pI S 1231 x).toInt = v_6.toInt := by rw [ev_6]
  have pz_10 : (pI S 1231 x).toInt = v_6.toInt := (congrArg Int32.toInt ev_6).trans rfl
  have htk1 := hp_0.1.1
  have hz20 := z1220 hG ha_x 4
  refine lv_aload_n X.1 X.2.1 dX12_rule_0 rfl (lv_at hl 0 rfl) ?_
  refine lv_ldcwS (q := κ (100 + 21)) X.1 X.2.1 X.2.2.2.2.1 (show vk_R RX12 267 "if" (κ (100 + 21)) s from (X.2.2.2.2.2.2.2.2.2.2.2.2.2.2 21 (by decide)).1) dX12_rule_1 ?_
  have pz_11 : (pI S 1230 x).toInt = v_1.toInt := (congrArg Int32.toInt ev_1).trans rfl
  refine k_i (rm := { frames := 5, cells := 0, slots := 0, locals := 240 }) (av := [.ref x, .ref (κ (100 + 21))]) X hw (va_runV (As := [.ref (κ (100 + 21))]) (rest := []) (cfix X) (k_X12_is2 l G cy κ S _ x 21 t0 hO.1 ha_x (by decide) hp_0.1 (by first | assumption | omega) (by first | assumption | omega)) (cwV 1 X.2.2.2.1 gX12_rule_X12_is rfl rfl rfl (by decide +kernel) ⟨Nat.le_of_ble_eq_true rfl, Nat.le_of_ble_eq_true rfl⟩) (pre_V X hw _ ha_x rfl (by decide) rfl) rfl rfl hl.1 rfl (lv_room (Nat.le_of_ble_eq_true rfl)) dX12_rule_4 ⟨Nat.le_of_ble_eq_true rfl, Nat.le_of_ble_eq_true rfl⟩) 0 0 (Nat.le_of_ble_eq_true rfl) (Nat.le_of_ble_eq_true rfl) (fun rr_12 S_13 H locs hp hw hfr hnw => ?_)
  obtain ⟨e2, hp⟩ := hp
  subst e2
  rcases hp with ⟨f_14, er_15⟩ | ⟨f_14, er_15⟩ <;> subst er_15
  · have z_b_16 := trivial
    refine lv_istore_n (lv' := [(1, .int 1), (0, .ref x)]) X.1 X.2.1 dX12_rule_7 rfl hl (by decide) rfl (fun ls hl => ?_)
    refine lv_aload_n X.1 X.2.1 dX12_rule_8 rfl (lv_at hl 1 rfl) ?_
    refine lv_ldcwS (q := κ (100 + 22)) X.1 X.2.1 X.2.2.2.2.1 (show vk_R RX12 269 "cast drop find throw cut stop " (κ (100 + 22)) s from (X.2.2.2.2.2.2.2.2.2.2.2.2.2.2 22 (by decide)).1) dX12_rule_9 ?_
    have pz_17 : (pI S 1230 x).toInt = v_1.toInt := (congrArg Int32.toInt ev_1).trans rfl
    refine k_i (rm := { frames := 5, cells := 0, slots := 0, locals := 240 }) (av := [.ref x, .ref (κ (100 + 22))]) X hw (va_runV (As := [.ref (κ (100 + 22))]) (rest := []) (cfix X) (k_X12_which2 l G cy κ S _ x 22 t0 hO.1 ha_x (by decide) hp_0.1 (by first | assumption | omega) (by first | assumption | omega) (by first | assumption | omega) (by decide)) (cwV 1 X.2.2.2.1 gX12_rule_X12_which rfl rfl rfl (by decide +kernel) ⟨Nat.le_of_ble_eq_true rfl, Nat.le_of_ble_eq_true rfl⟩) (pre_V X hw _ ha_x rfl (by decide) rfl) rfl rfl hl.1 rfl (lv_room (Nat.le_of_ble_eq_true rfl)) dX12_rule_12 ⟨Nat.le_of_ble_eq_true rfl, Nat.le_of_ble_eq_true rfl⟩) 0 0 (Nat.le_of_ble_eq_true rfl) (Nat.le_of_ble_eq_true rfl) (fun rr_18 S_19 H locs hp hw hfr hnw => ?_)
    obtain ⟨e2, hp⟩ := hp
    subst e2
    obtain ⟨wh_20, wh_21, wh_22⟩ := hp
    rw [show wI 22 = ALs from rfl] at wh_22
    refine lv_istore_n (lv' := [(2, .int (rr_18)), (1, .int 1), (0, .ref x)]) X.1 X.2.1 dX12_rule_15 rfl hl (by decide) rfl (fun ls hl => ?_)
    refine lv_iload_n X.1 X.2.1 dX12_rule_16 rfl (lv_at hl 1 rfl) ?_
    refine lv_if_ne (tgt := 31) X.1 X.2.1 dX12_rule_17 (by decide) (fun c_23 => ?_) (fun c_23 => absurd c_23 (by decide))
    refine lv_aload_n X.1 X.2.1 dX12_rule_31 rfl (lv_at hl 2 rfl) ?_
    obtain ⟨q_24, h_25, h_26, h_27⟩ := gQ_12_1220 hO.1 ha_x
    refine r_getR (g := 1220) X hw ha_x rfl 20 h_25 (by decide) rfl inn_X12_rule_12 (by decide) (X.2.2.2.1 (.fieldLink RX12 61 "SilkMillModel" "rules" "[I") (by decide +kernel)) rfl (gv_1220 _ _) dX12_rule_32 ?_
    refine lv_iconst (v := 4) X.1 X.2.1 dX12_rule_35 (by decide) ?_
    refine r_iald X hw h_26 rfl (by rw [h_27]; exact z_ix ti_4 (by omega) (by omega)) dX12_rule_36 ?_
    refine lv_topi (fun v_28 ev_28 => ?_)
    have z_29 := gE_614 hO.1 h_26 (Int32.toNatClampNeg (4)); rw [← ev_28] at z_29
    have ev_28 := ev_28.symm
    have zf_30 : zA S x 1220 4 = v_28.toInt := (zA_of (z := 4) h_25 ti_4 (by omega) ev_28)
    refine lv_bipush (v := 12) X.1 X.2.1 dX12_rule_37 (by decide) ?_
    refine lv_icmp_ne (tgt := 48) X.1 X.2.1 dX12_rule_39 (by decide) (fun c_31 => ?_) (fun c_31 => ?_)
    · have z_b_32 := trivial
      have k_33 : v_28.toInt ≠ 12 := z_ne rfl ti_12 c_31
      refine lv_bipush (v := 48) X.1 X.2.1 dX12_rule_48 (by decide) ?_
      refine lv_aload_n X.1 X.2.1 dX12_rule_50 rfl (lv_at hl 2 rfl) ?_
      refine r_getR (g := 1220) X hw ha_x rfl 20 h_25 (by decide) rfl inn_X12_rule_12 (by decide) (X.2.2.2.1 (.fieldLink RX12 61 "SilkMillModel" "rules" "[I") (by decide +kernel)) rfl (gv_1220 _ _) dX12_rule_51 ?_
      refine lv_iconst (v := 4) X.1 X.2.1 dX12_rule_54 (by decide) ?_
      refine r_iald X hw h_26 rfl (by rw [h_27]; exact z_ix ti_4 (by omega) (by omega)) dX12_rule_55 ?_
      rw [ev_28]
      refine lv_iadd X.1 X.2.1 dX12_rule_56 ?_
      refine lv_topi (fun v_34 ev_34 => ?_)
      have z_35 : v_34.toInt = 48 + v_28.toInt := z_add ev_34 ti_48 rfl (by omega) (by omega)
      refine lv_istore_n (lv' := [(3, .int (v_34)), (2, .int (rr_18)), (1, .int 1), (0, .ref x)]) X.1 X.2.1 dX12_rule_57 rfl hl (by decide) rfl (fun ls hl => ?_)
      refine lv_aload_n X.1 X.2.1 dX12_rule_58 rfl (lv_at hl 3 rfl) ?_
      obtain ⟨q_36, h_37, h_38, h_39⟩ := gQ_12_1223 hO.1 ha_x
      refine r_getR (g := 1223) X hw ha_x rfl 23 h_37 (by decide) rfl inn_X12_rule_12 (by decide) (X.2.2.2.1 (.fieldLink RX12 70 "SilkMillModel" "conditions" "[I") (by decide +kernel)) rfl (gv_1223 _ _) dX12_rule_59 ?_
      refine lv_iload_n X.1 X.2.1 dX12_rule_62 rfl (lv_at hl 0 rfl) ?_
      refine lv_iconst (v := 0) X.1 X.2.1 dX12_rule_63 (by decide) ?_
      refine r_iast X hw h_38 rfl (by rw [h_39]; exact z_ix z_35 (by omega) (by omega)) dX12_rule_64 (fun H locs hw => ?_)
      obtain ⟨S_40, eS_40⟩ : ∃ T, T = sA S q_36 (upd (pA S q_36) (Int32.toNatClampNeg (v_34)) (0)) := ⟨_, rfl⟩
      rw [← eS_40] at hw
      have hO_41 : Ok MRt S S_40 := hO.sA eS_40 h_38 (by decide +kernel) (uA_674 hO.1 h_38 (by rw [ti_0]; omega) (by rw [ti_0]; omega))
      have h_42 : pA S_40 q_36 (Int32.toNatClampNeg (v_34)) = 0 := tA_sAs eS_40
      have t_43 : pR S_40 1223 x = some q_36 := tR_sA eS_40 h_37
      have t_45 : pR S 1223 x = some q_36 := by have h := t_43; rw [eS_40, pR_sA] at h; exact h
      have zs_44 : ∀ j, zA S_40 x 1223 j = if j = ((48 + v_28.toInt)).toNat then 0 else zA S x 1223 j := by have h := zA_sAs eS_40 t_45 ti_0; rw [z_nc z_35 (by omega)] at h; exact h
      have zs_46 := zs_44 ((48 + v_28.toInt)).toNat; rw [if_pos rfl] at zs_46
      refine lv_iload_n X.1 X.2.1 dX12_rule_65 rfl (lv_at hl 2 rfl) ?_
      refine lv_if_eq (tgt := 138) X.1 X.2.1 dX12_rule_66 (by decide) (fun c_47 => absurd c_47 (by decide)) (fun c_47 => ?_)
      refine lv_aload_n X.1 X.2.1 dX12_rule_69 rfl (lv_at hl 3 rfl) ?_
      have t_48 : At S_40 x 12 := tAt_sA eS_40 ha_x
      have rg_49 := RGB_sA hp_0 eS_40
      have ok_50 := hdI (RGB_ok hG ha_x rg_49)
      have ok_51 : (t0).2.1 ≤ (t0).2.2 ∧ (t0).2.2 ≤ 400 := ⟨(hdE ok_50).1, (hdE ok_50).2.1⟩
      obtain ⟨v_52, ev_52⟩ : ∃ v, pI S_40 1233 x = v := ⟨_, rfl⟩
      have rg_53 := gI_12_1233 hO_41.1 t_48; rw [ev_52] at rg_53
      have pz_54 : (pI S_40 1233 x).toInt = v_52.toInt := by rw [ev_52]
      have pz_55 : (pI S_40 1233 x).toInt = v_52.toInt := (congrArg Int32.toInt ev_52).trans rfl
      refine k_v (rm := { frames := 2, cells := 0, slots := 0, locals := 96 }) (av := [.ref x]) X hw (va_runV (As := []) (rest := []) (cfix X) (k_X12_token2 l G cy κ S_40 _ x hO_41.1 t_48) (cwV 0 X.2.2.2.1 gX12_rule_X12_token rfl rfl rfl (by decide +kernel) ⟨Nat.le_of_ble_eq_true rfl, Nat.le_of_ble_eq_true rfl⟩) (pre_V X hw _ t_48 rfl (by decide) rfl) rfl rfl hl.1 rfl (lv_room (Nat.le_of_ble_eq_true rfl)) dX12_rule_70 ⟨Nat.le_of_ble_eq_true rfl, Nat.le_of_ble_eq_true rfl⟩) 0 0 (Nat.le_of_ble_eq_true rfl) (Nat.le_of_ble_eq_true rfl) (fun S_57 H locs hp hw hfr hnw => ?_)
      obtain ⟨hk_58, hp⟩ := hp
      have hO_59 : Ok MRt S S_57 := hO_41.call hk_58 (by decide +kernel)
      have rg_60 : RGB (rB S x) (pI S 1228 x).toInt.toNat S_57 x (nxT (rB S x) (pI S 1228 x).toInt.toNat t0) := RGB_adv rg_49 (rB_fr hG ha_x hO_41.fr (by decide +kernel)) (by rw [hO_41.fr.I' (g := 1228) (by decide +kernel) ha_x rfl]) (by omega) hp
      have ok_61 := hdI (RGB_ok hG ha_x rg_60)
      have ok_62 : ((nxT (rB S x) (pI S 1228 x).toInt.toNat t0)).2.1 ≤ ((nxT (rB S x) (pI S 1228 x).toInt.toNat t0)).2.2 ∧ ((nxT (rB S x) (pI S 1228 x).toInt.toNat t0)).2.2 ≤ 400 := ⟨(hdE ok_61).1, (hdE ok_61).2.1⟩
      refine lv_aload_n X.1 X.2.1 dX12_rule_73 rfl (lv_at hl 3 rfl) ?_
      refine lv_iload_n X.1 X.2.1 dX12_rule_74 rfl (lv_at hl 0 rfl) ?_
      have t_63 : pI S_40 1230 x = v_1 := tI_sA eS_40 ev_1
      have t_64 : pI S_57 1230 x = v_1 := hk_58.fr.I' (by decide +kernel) t_48 t_63
      have pz_65 : (pI S_57 1230 x).toInt = v_1.toInt := (congrArg Int32.toInt t_64).trans rfl
      have zc_66 : zA S_57 x 1223 = zA S_40 x 1223 := zA_fr hk_58.fr t_48 (ex3 (gQ_12_1223 hO_41.1 t_48)) (by decide +kernel) (by decide +kernel)
      have zz_67 := congrFun zc_66 ((48 + v_28.toInt)).toNat
      have t_69 : At S_57 x 12 := hk_58.fr.at t_48
      have zc_68 := z1223 hO_59.1 t_69 ((48 + v_28.toInt)).toNat
      have pz_70 : (pI S_57 1230 x).toInt = v_1.toInt := (congrArg Int32.toInt t_64).trans rfl
      refine k_i (rm := { frames := 6, cells := 0, slots := 0, locals := 288 }) (av := [.ref x, .int (v_34)]) X hw (va_runV (As := [.int (v_34)]) (rest := []) (cfix X) (k_X12_condition2 l G cy κ S_57 _ x (v_34) ((48 + v_28.toInt)) (nxT (rB S x) (pI S 1228 x).toInt.toNat t0) hO_59.1 t_69 z_35 (by rw [rB_fr hG ha_x hO_59.fr (by decide +kernel), hO_59.fr.I' (g := 1228) (by decide +kernel) ha_x rfl]; exact rg_60) (by first | assumption | decide | omega) (by first | assumption | decide | omega) (by first | assumption | decide | omega)) (cwV 1 X.2.2.2.1 gX12_rule_X12_condition rfl rfl rfl (by decide +kernel) ⟨Nat.le_of_ble_eq_true rfl, Nat.le_of_ble_eq_true rfl⟩) (pre_V X hw _ t_69 rfl (by decide) rfl) rfl rfl hl.1 rfl (lv_room (Nat.le_of_ble_eq_true rfl)) dX12_rule_75 ⟨Nat.le_of_ble_eq_true rfl, Nat.le_of_ble_eq_true rfl⟩) 0 0 (Nat.le_of_ble_eq_true rfl) (Nat.le_of_ble_eq_true rfl) (fun rr_71 S_72 H locs hp hw hfr hnw => ?_)
      obtain ⟨hk_73, hp⟩ := hp
      have hO_74 : Ok MRt S S_72 := hO_59.call hk_73 (by decide +kernel)
      rcases hp with ⟨f_75, er_76⟩ | ⟨f_75, er_76⟩ <;> subst er_76
      · have z_b_77 := trivial
        rw [rB_fr hG ha_x hO_59.fr (by decide +kernel), hO_59.fr.I' (g := 1228) (by decide +kernel) ha_x rfl] at f_75
        have ok_78 := hdI (RGB_ok hG ha_x f_75.2.1)
        have ok_79 : ((nx3 (rB S x) (pI S 1228 x).toInt.toNat (nxT (rB S x) (pI S 1228 x).toInt.toNat t0))).2.1 ≤ ((nx3 (rB S x) (pI S 1228 x).toInt.toNat (nxT (rB S x) (pI S 1228 x).toInt.toNat t0))).2.2 ∧ ((nx3 (rB S x) (pI S 1228 x).toInt.toNat (nxT (rB S x) (pI S 1228 x).toInt.toNat t0))).2.2 ≤ 400 := ⟨(hdE ok_78).1, (hdE ok_78).2.1⟩
        refine lv_if_ne (tgt := 83) X.1 X.2.1 dX12_rule_78 (by decide) (fun c_80 => ?_) (fun c_80 => absurd c_80 (by decide))
        have zc_84 : zA S_40 x 1220 = zA S x 1220 := zA_sAn eS_40 (ex3 (gQ_12_1220 hO.1 ha_x)) h_38 rfl
        have zc_85 : zA S_57 x 1220 = zA S x 1220 := (zA_fr hk_58.fr t_48 (ex3 (gQ_12_1220 hO_41.1 t_48)) (by decide +kernel) (by decide +kernel)).trans zc_84
        have zc_86 : zA S_72 x 1220 = zA S x 1220 := (zA_fr hk_73.fr t_69 (ex3 (gQ_12_1220 hO_59.1 t_69)) (by decide +kernel) (by decide +kernel)).trans zc_85
        have L_81 : ∀ (n : Nat) (T_82 : PS) (H : Heap) (locs : List Loc) (ls : Array Slot) , ((4 - zA T_82 x 1223 ((48 + v_28.toInt)).toNat).toNat = n) → (Wd G cy (AS S s.heap.size) s.heap T_82 H locs) → (At T_82 x 12) → (Ok MRt S T_82) → (zA T_82 x 1220 = zA S x 1220) → (∃ t u, RGB (rB S x) (pI S 1228 x).toInt.toNat T_82 x t ∧ csF (rB S x) (pI S 1228 x).toInt.toNat 4 (nxT (rB S x) (pI S 1228 x).toInt.toNat t0) = ceF (rB S x) (pI S 1228 x).toInt.toNat (4 - zA T_82 x 1223 ((48 + v_28.toInt)).toNat).toNat t u) → ((pI T_82 1230 x).toInt = 0) → (lv_has ls 4 [(3, .int (v_34)), (2, .int (rr_18)), (1, .int 1), (0, .ref x)]) → W p l e ({ frames := 7, cells := 0, slots := 0, locals := 336 }) s m [.ref x].toArray below meth c H locs 0 0 QQ (F0 m 83 ls []) := by
          intro n
          induction n using Nat.strongRecOn with
          | ind n ih_L_81 =>
          intro T_82 H locs ls  hn hw ha_x_L_83 hO_T_82 zk_87 iv_88 iv_89 hl
          obtain ⟨v_90, ev_90⟩ : ∃ v, pI T_82 1230 x = v := ⟨_, rfl⟩
          have rg_92 := And.intro (z_lo v_90) (z_hi v_90)
          have pz_93 : (pI T_82 1230 x).toInt = v_90.toInt := by rw [ev_90]
          have pz_94 : (pI T_82 1230 x).toInt = v_90.toInt := (congrArg Int32.toInt ev_90).trans rfl
          obtain ⟨t_95, u_96, rg_97, er_98⟩ := iv_88
          have ok_99 := hdI (RGB_ok hG ha_x rg_97)
          have ok_100 : (t_95).2.1 ≤ (t_95).2.2 ∧ (t_95).2.2 ≤ 400 := ⟨(hdE ok_99).1, (hdE ok_99).2.1⟩
          have pz_101 : (pI T_82 1230 x).toInt = v_90.toInt := (congrArg Int32.toInt ev_90).trans rfl
          have zc_102 := z1223 hO_T_82.1 ha_x_L_83 ((48 + v_28.toInt)).toNat
          refine lv_aload_n X.1 X.2.1 dX12_rule_83 rfl (lv_at hl 3 rfl) ?_
          refine lv_ldcwS (q := κ (100 + 23)) X.1 X.2.1 X.2.2.2.2.1 (show vk_R RX12 274 "and" (κ (100 + 23)) s from (X.2.2.2.2.2.2.2.2.2.2.2.2.2.2 23 (by decide)).1) dX12_rule_84 ?_
          have pz_103 : (pI T_82 1230 x).toInt = v_90.toInt := (congrArg Int32.toInt ev_90).trans rfl
          refine k_i (rm := { frames := 5, cells := 0, slots := 0, locals := 240 }) (av := [.ref x, .ref (κ (100 + 23))]) X hw (va_runV (As := [.ref (κ (100 + 23))]) (rest := []) (cfix X) (k_X12_is2 l G cy κ T_82 _ x 23 t_95 hO_T_82.1 ha_x_L_83 (by decide) rg_97.1 (by first | assumption | omega) (by first | assumption | omega)) (cwV 1 X.2.2.2.1 gX12_rule_X12_is rfl rfl rfl (by decide +kernel) ⟨Nat.le_of_ble_eq_true rfl, Nat.le_of_ble_eq_true rfl⟩) (pre_V X hw _ ha_x_L_83 rfl (by decide) rfl) rfl rfl hl.1 rfl (lv_room (Nat.le_of_ble_eq_true rfl)) dX12_rule_87 ⟨Nat.le_of_ble_eq_true rfl, Nat.le_of_ble_eq_true rfl⟩) 0 0 (Nat.le_of_ble_eq_true rfl) (Nat.le_of_ble_eq_true rfl) (fun rr_104 S_105 H locs hp hw hfr hnw => ?_)
          obtain ⟨e2, hp⟩ := hp
          subst e2
          rcases hp with ⟨f_106, er_107⟩ | ⟨f_106, er_107⟩ <;> subst er_107
          · have z_b_108 := trivial
            rw [rB_fr hG ha_x hO_T_82.fr (by decide +kernel)] at f_106
            refine lv_if_eq (tgt := 107) X.1 X.2.1 dX12_rule_90 (by decide) (fun c_109 => absurd c_109 (by decide)) (fun c_109 => ?_)
            refine lv_aload_n X.1 X.2.1 dX12_rule_93 rfl (lv_at hl 3 rfl) ?_
            have ok_110 := hdI (RGB_ok hG ha_x rg_97)
            have ok_111 : (t_95).2.1 ≤ (t_95).2.2 ∧ (t_95).2.2 ≤ 400 := ⟨(hdE ok_110).1, (hdE ok_110).2.1⟩
            obtain ⟨v_112, ev_112⟩ : ∃ v, pI T_82 1233 x = v := ⟨_, rfl⟩
            have rg_113 := gI_12_1233 hO_T_82.1 ha_x_L_83; rw [ev_112] at rg_113
            have pz_114 : (pI T_82 1233 x).toInt = v_112.toInt := by rw [ev_112]
            have pz_115 : (pI T_82 1233 x).toInt = v_112.toInt := (congrArg Int32.toInt ev_112).trans rfl
            refine k_v (rm := { frames := 2, cells := 0, slots := 0, locals := 96 }) (av := [.ref x]) X hw (va_runV (As := []) (rest := []) (cfix X) (k_X12_token2 l G cy κ T_82 _ x hO_T_82.1 ha_x_L_83) (cwV 0 X.2.2.2.1 gX12_rule_X12_token rfl rfl rfl (by decide +kernel) ⟨Nat.le_of_ble_eq_true rfl, Nat.le_of_ble_eq_true rfl⟩) (pre_V X hw _ ha_x_L_83 rfl (by decide) rfl) rfl rfl hl.1 rfl (lv_room (Nat.le_of_ble_eq_true rfl)) dX12_rule_94 ⟨Nat.le_of_ble_eq_true rfl, Nat.le_of_ble_eq_true rfl⟩) 0 0 (Nat.le_of_ble_eq_true rfl) (Nat.le_of_ble_eq_true rfl) (fun S_117 H locs hp hw hfr hnw => ?_)
            obtain ⟨hk_118, hp⟩ := hp
            have hO_119 : Ok MRt S S_117 := hO_T_82.call hk_118 (by decide +kernel)
            have rg_120 : RGB (rB S x) (pI S 1228 x).toInt.toNat S_117 x (nxT (rB S x) (pI S 1228 x).toInt.toNat t_95) := RGB_adv rg_97 (rB_fr hG ha_x hO_T_82.fr (by decide +kernel)) (by rw [hO_T_82.fr.I' (g := 1228) (by decide +kernel) ha_x rfl]) (by omega) hp
            have ok_121 := hdI (RGB_ok hG ha_x rg_120)
            have ok_122 : ((nxT (rB S x) (pI S 1228 x).toInt.toNat t_95)).2.1 ≤ ((nxT (rB S x) (pI S 1228 x).toInt.toNat t_95)).2.2 ∧ ((nxT (rB S x) (pI S 1228 x).toInt.toNat t_95)).2.2 ≤ 400 := ⟨(hdE ok_121).1, (hdE ok_121).2.1⟩
            refine lv_aload_n X.1 X.2.1 dX12_rule_97 rfl (lv_at hl 3 rfl) ?_
            refine lv_iload_n X.1 X.2.1 dX12_rule_98 rfl (lv_at hl 0 rfl) ?_
            have t_123 : pI S_117 1230 x = v_90 := hk_118.fr.I' (by decide +kernel) ha_x_L_83 ev_90
            have pz_124 : (pI S_117 1230 x).toInt = v_90.toInt := (congrArg Int32.toInt t_123).trans rfl
            have zc_125 : zA S_117 x 1223 = zA T_82 x 1223 := zA_fr hk_118.fr ha_x_L_83 (ex3 (gQ_12_1223 hO_T_82.1 ha_x_L_83)) (by decide +kernel) (by decide +kernel)
            have zz_126 := congrFun zc_125 ((48 + v_28.toInt)).toNat
            have t_128 : At S_117 x 12 := hk_118.fr.at ha_x_L_83
            have zc_127 := z1223 hO_119.1 t_128 ((48 + v_28.toInt)).toNat
            have pz_129 : (pI S_117 1230 x).toInt = v_90.toInt := (congrArg Int32.toInt t_123).trans rfl
            refine k_i (rm := { frames := 6, cells := 0, slots := 0, locals := 288 }) (av := [.ref x, .int (v_34)]) X hw (va_runV (As := [.int (v_34)]) (rest := []) (cfix X) (k_X12_condition2 l G cy κ S_117 _ x (v_34) ((48 + v_28.toInt)) (nxT (rB S x) (pI S 1228 x).toInt.toNat t_95) hO_119.1 t_128 z_35 (by rw [rB_fr hG ha_x hO_119.fr (by decide +kernel), hO_119.fr.I' (g := 1228) (by decide +kernel) ha_x rfl]; exact rg_120) (by first | assumption | decide | omega) (by first | assumption | decide | omega) (by first | assumption | decide | omega)) (cwV 1 X.2.2.2.1 gX12_rule_X12_condition rfl rfl rfl (by decide +kernel) ⟨Nat.le_of_ble_eq_true rfl, Nat.le_of_ble_eq_true rfl⟩) (pre_V X hw _ t_128 rfl (by decide) rfl) rfl rfl hl.1 rfl (lv_room (Nat.le_of_ble_eq_true rfl)) dX12_rule_99 ⟨Nat.le_of_ble_eq_true rfl, Nat.le_of_ble_eq_true rfl⟩) 0 0 (Nat.le_of_ble_eq_true rfl) (Nat.le_of_ble_eq_true rfl) (fun rr_130 S_131 H locs hp hw hfr hnw => ?_)
            obtain ⟨hk_132, hp⟩ := hp
            have hO_133 : Ok MRt S S_131 := hO_119.call hk_132 (by decide +kernel)
            rcases hp with ⟨f_134, er_135⟩ | ⟨f_134, er_135⟩ <;> subst er_135
            · have z_b_136 := trivial
              rw [rB_fr hG ha_x hO_119.fr (by decide +kernel), hO_119.fr.I' (g := 1228) (by decide +kernel) ha_x rfl] at f_134
              have ok_137 := hdI (RGB_ok hG ha_x f_134.2.1)
              have ok_138 : ((nx3 (rB S x) (pI S 1228 x).toInt.toNat (nxT (rB S x) (pI S 1228 x).toInt.toNat t_95))).2.1 ≤ ((nx3 (rB S x) (pI S 1228 x).toInt.toNat (nxT (rB S x) (pI S 1228 x).toInt.toNat t_95))).2.2 ∧ ((nx3 (rB S x) (pI S 1228 x).toInt.toNat (nxT (rB S x) (pI S 1228 x).toInt.toNat t_95))).2.2 ≤ 400 := ⟨(hdE ok_137).1, (hdE ok_137).2.1⟩
              refine lv_if_ne (tgt := 83) X.1 X.2.1 dX12_rule_102 (by decide) (fun c_139 => ?_) (fun c_139 => absurd c_139 (by decide))
              obtain ⟨v_141, ev_141⟩ : ∃ v, pI S_131 1230 x = v := ⟨_, rfl⟩
              have rg_143 := And.intro (z_lo v_141) (z_hi v_141)
              have pz_144 : (pI S_131 1230 x).toInt = v_141.toInt := by rw [ev_141]
              have pz_145 : (pI S_131 1230 x).toInt = v_141.toInt := (congrArg Int32.toInt ev_141).trans rfl
              have t_146 : At S_131 x 12 := hk_132.fr.at t_128
              have zc_147 : zA S_117 x 1220 = zA S x 1220 := (zA_fr hk_118.fr ha_x_L_83 (ex3 (gQ_12_1220 hO_T_82.1 ha_x_L_83)) (by decide +kernel) (by decide +kernel)).trans zk_87
              have zc_148 : zA S_131 x 1220 = zA S x 1220 := (zA_fr hk_132.fr t_128 (ex3 (gQ_12_1220 hO_119.1 t_128)) (by decide +kernel) (by decide +kernel)).trans zc_147
              exact ih_L_81 _ (by omega) _ _ _ _  rfl hw t_146 hO_133 zc_148 ⟨_, _, f_134.2.1, er_98.trans ((cit_n (t1_sg ((isR_and rg_97).mp f_106.2))).trans ((cit_y ((isR_and rg_97).mp f_106.2)).trans (by rw [show (4 - zA T_82 x 1223 ((48 + v_28.toInt)).toNat).toNat = (3 - zA T_82 x 1223 ((48 + v_28.toInt)).toNat).toNat + 1 by omega, csF_ce f_134.1, show (4 - zA S_131 x 1223 ((48 + v_28.toInt)).toNat).toNat = (3 - zA T_82 x 1223 ((48 + v_28.toInt)).toNat).toNat by omega])))⟩ (by omega) (lv_sub hl [0, 1, 2, 3] rfl)
            · have z_b_149 := trivial
              rw [rB_fr hG ha_x hO_119.fr (by decide +kernel), hO_119.fr.I' (g := 1228) (by decide +kernel) ha_x rfl] at f_134
              refine lv_if_ne (tgt := 83) X.1 X.2.1 dX12_rule_102 (by decide) (fun c_150 => absurd c_150 (by decide)) (fun c_150 => ?_)
              refine lv_iconst (v := 0) X.1 X.2.1 dX12_rule_105 (by decide) ?_
              obtain ⟨v_153, ev_153⟩ : ∃ v, pI S_131 1230 x = v := ⟨_, rfl⟩
              have rg_155 := And.intro (z_lo v_153) (z_hi v_153)
              have pz_156 : (pI S_131 1230 x).toInt = v_153.toInt := by rw [ev_153]
              have pz_157 : (pI S_131 1230 x).toInt = v_153.toInt := (congrArg Int32.toInt ev_153).trans rfl
              have cb_158 := csF_bad (c := zA S_117 x 1223 ((48 + v_28.toInt)).toNat) (by omega) (by omega) f_134
              rw [← show csF (rB S x) (pI S 1228 x).toInt.toNat 4 (nxT (rB S x) (pI S 1228 x).toInt.toNat t0) = csF (rB S x) (pI S 1228 x).toInt.toNat (4 - zA S_117 x 1223 ((48 + v_28.toInt)).toNat).toNat _ from (er_98.trans ((cit_n (t1_sg ((isR_and rg_97).mp f_106.2))).trans (cit_y ((isR_and rg_97).mp f_106.2)))).trans (by rw [show (4 - zA T_82 x 1223 ((48 + v_28.toInt)).toNat).toNat = (4 - zA S_117 x 1223 ((48 + v_28.toInt)).toNat).toNat by omega])] at cb_158
              have ea_151 : rueF (rB S x) (pI S 1228 x).toInt.toNat (zA S x 1220 4).toNat t0 = ((csF (rB S x) (pI S 1228 x).toInt.toNat 4 (nxT (rB S x) (pI S 1228 x).toInt.toNat t0)).1, t0) := (cit_n (fun h => h.1 ((isR_if hp_0).mp f_14.2))).trans ((cit_n (by omega)).trans ((cit_y ((isR_if hp_0).mp f_14.2)).trans (cit_n cb_158.1)))
              rw [hQQ]
              exact ret_z X hw hr hlocks (Nat.le_of_ble_eq_true rfl) (Nat.le_of_ble_eq_true rfl) (by decide) ⟨hO_133, Or.inr ⟨by rw [ea_151]; exact cb_158, rfl⟩⟩ dX12_rule_106
          · have z_b_159 := trivial
            rw [rB_fr hG ha_x hO_T_82.fr (by decide +kernel)] at f_106
            refine lv_if_eq (tgt := 107) X.1 X.2.1 dX12_rule_90 (by decide) (fun c_160 => ?_) (fun c_160 => absurd c_160 (by decide))
            refine lv_aload_n X.1 X.2.1 dX12_rule_107 rfl (lv_at hl 3 rfl) ?_
            refine lv_ldcwS (q := κ (100 + 24)) X.1 X.2.1 X.2.2.2.2.1 (show vk_R RX12 276 ":" (κ (100 + 24)) s from (X.2.2.2.2.2.2.2.2.2.2.2.2.2.2 24 (by decide)).1) dX12_rule_108 ?_
            have pz_161 : (pI T_82 1230 x).toInt = v_90.toInt := (congrArg Int32.toInt ev_90).trans rfl
            have pz_162 : (pI T_82 1230 x).toInt = v_90.toInt := (congrArg Int32.toInt ev_90).trans rfl
            refine k_i (rm := { frames := 6, cells := 0, slots := 0, locals := 288 }) (av := [.ref x, .ref (κ (100 + 24))]) X hw (va_runV (As := [.ref (κ (100 + 24))]) (rest := []) (cfix X) (k_X12_must2 l G cy κ T_82 _ x 24 t_95 hO_T_82.1 ha_x_L_83 (by decide) (by rw [rB_fr hG ha_x hO_T_82.fr (by decide +kernel), hO_T_82.fr.I' (g := 1228) (by decide +kernel) ha_x rfl]; exact rg_97)) (cwV 1 X.2.2.2.1 gX12_rule_X12_must rfl rfl rfl (by decide +kernel) ⟨Nat.le_of_ble_eq_true rfl, Nat.le_of_ble_eq_true rfl⟩) (pre_V X hw _ ha_x_L_83 rfl (by decide) rfl) rfl rfl hl.1 rfl (lv_room (Nat.le_of_ble_eq_true rfl)) dX12_rule_111 ⟨Nat.le_of_ble_eq_true rfl, Nat.le_of_ble_eq_true rfl⟩) 0 0 (Nat.le_of_ble_eq_true rfl) (Nat.le_of_ble_eq_true rfl) (fun rr_163 S_164 H locs hp hw hfr hnw => ?_)
            obtain ⟨hk_165, hp⟩ := hp
            have hO_166 : Ok MRt S S_164 := hO_T_82.call hk_165 (by decide +kernel)
            rcases hp with ⟨f_167, er_168⟩ | ⟨f_167, er_168⟩ <;> subst er_168
            · have z_b_169 := trivial
              rw [rB_fr hG ha_x hO_T_82.fr (by decide +kernel), hO_T_82.fr.I' (g := 1228) (by decide +kernel) ha_x rfl] at f_167
              obtain ⟨v_171, ev_171⟩ : ∃ v, pI S_164 1230 x = v := ⟨_, rfl⟩
              have rg_173 := And.intro (z_lo v_171) (z_hi v_171)
              have pz_174 : (pI S_164 1230 x).toInt = v_171.toInt := by rw [ev_171]
              have pz_175 : (pI S_164 1230 x).toInt = v_171.toInt := (congrArg Int32.toInt ev_171).trans rfl
              have ok_176 := hdI (RGB_ok hG ha_x f_167.2.1)
              have ok_177 : ((nxT (rB S x) (pI S 1228 x).toInt.toNat t_95)).2.1 ≤ ((nxT (rB S x) (pI S 1228 x).toInt.toNat t_95)).2.2 ∧ ((nxT (rB S x) (pI S 1228 x).toInt.toNat t_95)).2.2 ≤ 400 := ⟨(hdE ok_176).1, (hdE ok_176).2.1⟩
              refine lv_if_ne (tgt := 119) X.1 X.2.1 dX12_rule_114 (by decide) (fun c_178 => ?_) (fun c_178 => absurd c_178 (by decide))
              refine lv_aload_n X.1 X.2.1 dX12_rule_119 rfl (lv_at hl 3 rfl) ?_
              refine lv_ldcwS (q := κ (100 + 22)) X.1 X.2.1 X.2.2.2.2.1 (show vk_R RX12 269 "cast drop find throw cut stop " (κ (100 + 22)) s from (X.2.2.2.2.2.2.2.2.2.2.2.2.2.2 22 (by decide)).1) dX12_rule_120 ?_
              have t_179 : At S_164 x 12 := hk_165.fr.at ha_x_L_83
              have pz_180 : (pI S_164 1230 x).toInt = v_171.toInt := (congrArg Int32.toInt ev_171).trans rfl
              refine k_i (rm := { frames := 5, cells := 0, slots := 0, locals := 240 }) (av := [.ref x, .ref (κ (100 + 22))]) X hw (va_runV (As := [.ref (κ (100 + 22))]) (rest := []) (cfix X) (k_X12_which2 l G cy κ S_164 _ x 22 (nxT (rB S x) (pI S 1228 x).toInt.toNat t_95) hO_166.1 t_179 (by decide) f_167.2.1.1 (by first | assumption | omega) (by first | assumption | omega) (by first | assumption | omega) (by decide)) (cwV 1 X.2.2.2.1 gX12_rule_X12_which rfl rfl rfl (by decide +kernel) ⟨Nat.le_of_ble_eq_true rfl, Nat.le_of_ble_eq_true rfl⟩) (pre_V X hw _ t_179 rfl (by decide) rfl) rfl rfl hl.1 rfl (lv_room (Nat.le_of_ble_eq_true rfl)) dX12_rule_123 ⟨Nat.le_of_ble_eq_true rfl, Nat.le_of_ble_eq_true rfl⟩) 0 0 (Nat.le_of_ble_eq_true rfl) (Nat.le_of_ble_eq_true rfl) (fun rr_181 S_182 H locs hp hw hfr hnw => ?_)
              obtain ⟨e2, hp⟩ := hp
              subst e2
              obtain ⟨wh_183, wh_184, wh_185⟩ := hp
              rw [rB_fr hG ha_x hO_166.fr (by decide +kernel)] at wh_185
              rw [show wI 22 = ALs from rfl] at wh_185
              refine lv_istore_n (lv' := [(2, .int (rr_181)), (3, .int (v_34)), (1, .int 1), (0, .ref x)]) X.1 X.2.1 dX12_rule_126 rfl hl (by decide) rfl (fun ls hl => ?_)
              refine lv_iload_n X.1 X.2.1 dX12_rule_127 rfl (lv_at hl 0 rfl) ?_
              refine lv_iconst (v := (-1)) X.1 X.2.1 dX12_rule_128 (by decide) ?_
              refine lv_icmp_ne (tgt := 138) X.1 X.2.1 dX12_rule_129 (by decide) (fun c_186 => ?_) (fun c_186 => ?_)
              · have z_b_187 := trivial
                have k_188 : rr_181.toInt ≠ (-1) := z_ne rfl ti_m1 c_186
                refine lv_aload_n X.1 X.2.1 dX12_rule_138 rfl (lv_at hl 3 rfl) ?_
                obtain ⟨q_189, h_190, h_191, h_192⟩ := gQ_12_1221 hO_166.1 t_179
                refine r_getR (g := 1221) X hw t_179 rfl 21 h_190 (by decide) rfl inn_X12_rule_12 (by decide) (X.2.2.2.1 (.fieldLink RX12 64 "SilkMillModel" "act" "[I") (by decide +kernel)) rfl (gv_1221 _ _) dX12_rule_139 ?_
                refine lv_iload_n X.1 X.2.1 dX12_rule_142 rfl (lv_at hl 1 rfl) ?_
                refine lv_iload_n X.1 X.2.1 dX12_rule_143 rfl (lv_at hl 0 rfl) ?_
                refine r_iast X hw h_191 rfl (by rw [h_192]; exact z_ix z_35 (by omega) (by omega)) dX12_rule_144 (fun H locs hw => ?_)
                obtain ⟨S_193, eS_193⟩ : ∃ T, T = sA S_164 q_189 (upd (pA S_164 q_189) (Int32.toNatClampNeg (v_34)) (rr_181)) := ⟨_, rfl⟩
                rw [← eS_193] at hw
                have hO_194 : Ok MRt S S_193 := hO_166.sA eS_193 h_191 (by decide +kernel) (uA_634 hO_166.1 h_191)
                have h_195 : pA S_193 q_189 (Int32.toNatClampNeg (v_34)) = rr_181 := tA_sAs eS_193
                refine lv_aload_n X.1 X.2.1 dX12_rule_145 rfl (lv_at hl 3 rfl) ?_
                have t_196 : At S_193 x 12 := tAt_sA eS_193 t_179
                have rg_197 := RGB_sA f_167.2.1 eS_193
                have ok_198 := hdI (RGB_ok hG ha_x rg_197)
                have ok_199 : ((nxT (rB S x) (pI S 1228 x).toInt.toNat t_95)).2.1 ≤ ((nxT (rB S x) (pI S 1228 x).toInt.toNat t_95)).2.2 ∧ ((nxT (rB S x) (pI S 1228 x).toInt.toNat t_95)).2.2 ≤ 400 := ⟨(hdE ok_198).1, (hdE ok_198).2.1⟩
                obtain ⟨v_200, ev_200⟩ : ∃ v, pI S_193 1233 x = v := ⟨_, rfl⟩
                have rg_201 := gI_12_1233 hO_194.1 t_196; rw [ev_200] at rg_201
                have pz_202 : (pI S_193 1233 x).toInt = v_200.toInt := by rw [ev_200]
                have pz_203 : (pI S_193 1233 x).toInt = v_200.toInt := (congrArg Int32.toInt ev_200).trans rfl
                refine k_v (rm := { frames := 2, cells := 0, slots := 0, locals := 96 }) (av := [.ref x]) X hw (va_runV (As := []) (rest := []) (cfix X) (k_X12_token2 l G cy κ S_193 _ x hO_194.1 t_196) (cwV 0 X.2.2.2.1 gX12_rule_X12_token rfl rfl rfl (by decide +kernel) ⟨Nat.le_of_ble_eq_true rfl, Nat.le_of_ble_eq_true rfl⟩) (pre_V X hw _ t_196 rfl (by decide) rfl) rfl rfl hl.1 rfl (lv_room (Nat.le_of_ble_eq_true rfl)) dX12_rule_146 ⟨Nat.le_of_ble_eq_true rfl, Nat.le_of_ble_eq_true rfl⟩) 0 0 (Nat.le_of_ble_eq_true rfl) (Nat.le_of_ble_eq_true rfl) (fun S_205 H locs hp hw hfr hnw => ?_)
                obtain ⟨hk_206, hp⟩ := hp
                have hO_207 : Ok MRt S S_205 := hO_194.call hk_206 (by decide +kernel)
                have rg_208 : RGB (rB S x) (pI S 1228 x).toInt.toNat S_205 x (nxT (rB S x) (pI S 1228 x).toInt.toNat (nxT (rB S x) (pI S 1228 x).toInt.toNat t_95)) := RGB_adv rg_197 (rB_fr hG ha_x hO_194.fr (by decide +kernel)) (by rw [hO_194.fr.I' (g := 1228) (by decide +kernel) ha_x rfl]) (by omega) hp
                have ok_209 := hdI (RGB_ok hG ha_x rg_208)
                have ok_210 : ((nxT (rB S x) (pI S 1228 x).toInt.toNat (nxT (rB S x) (pI S 1228 x).toInt.toNat t_95))).2.1 ≤ ((nxT (rB S x) (pI S 1228 x).toInt.toNat (nxT (rB S x) (pI S 1228 x).toInt.toNat t_95))).2.2 ∧ ((nxT (rB S x) (pI S 1228 x).toInt.toNat (nxT (rB S x) (pI S 1228 x).toInt.toNat t_95))).2.2 ≤ 400 := ⟨(hdE ok_209).1, (hdE ok_209).2.1⟩
                refine lv_aload_n X.1 X.2.1 dX12_rule_149 rfl (lv_at hl 3 rfl) ?_
                have t_211 : At S_205 x 12 := hk_206.fr.at t_196
                obtain ⟨q_212, h_213, h_214, h_215⟩ := gQ_12_1222 hO_207.1 t_211
                refine r_getR (g := 1222) X hw t_211 rfl 22 h_213 (by decide) rfl inn_X12_rule_12 (by decide) (X.2.2.2.1 (.fieldLink RX12 67 "SilkMillModel" "actNumber" "[I") (by decide +kernel)) rfl (gv_1222 _ _) dX12_rule_150 ?_
                refine lv_iload_n X.1 X.2.1 dX12_rule_153 rfl (lv_at hl 1 rfl) ?_
                refine lv_iload_n X.1 X.2.1 dX12_rule_154 rfl (lv_at hl 0 rfl) ?_
                refine lv_iconst (v := 5) X.1 X.2.1 dX12_rule_155 (by decide) ?_
                refine lv_icmp_ne (tgt := 166) X.1 X.2.1 dX12_rule_156 (by decide) (fun c_216 => ?_) (fun c_216 => ?_)
                · have z_b_217 := trivial
                  have k_218 : rr_181.toInt ≠ 5 := z_ne rfl ti_5 c_216
                  refine lv_iconst (v := 0) X.1 X.2.1 dX12_rule_166 (by decide) ?_
                  refine r_iast X hw h_214 rfl (by rw [h_215]; exact z_ix z_35 (by omega) (by omega)) dX12_rule_167 (fun H locs hw => ?_)
                  obtain ⟨S_219, eS_219⟩ : ∃ T, T = sA S_205 q_212 (upd (pA S_205 q_212) (Int32.toNatClampNeg (v_34)) (0)) := ⟨_, rfl⟩
                  rw [← eS_219] at hw
                  have hO_220 : Ok MRt S S_219 := hO_207.sA eS_219 h_214 (by decide +kernel) (uA_654 hO_207.1 h_214)
                  have h_221 : pA S_219 q_212 (Int32.toNatClampNeg (v_34)) = 0 := tA_sAs eS_219
                  refine lv_aload_n X.1 X.2.1 dX12_rule_168 rfl (lv_at hl 3 rfl) ?_
                  refine lv_ldcwS (q := κ (100 + 25)) X.1 X.2.1 X.2.2.2.2.1 (show vk_R RX12 281 ";" (κ (100 + 25)) s from (X.2.2.2.2.2.2.2.2.2.2.2.2.2.2 25 (by decide)).1) dX12_rule_169 ?_
                  have rg_222 := RGB_sA rg_208 eS_219
                  have t_223 : pI S_193 1230 x = v_171 := tI_sA eS_193 ev_171
                  have t_224 : pI S_205 1230 x = v_171 := hk_206.fr.I' (by decide +kernel) t_196 t_223
                  have t_225 : pI S_219 1230 x = v_171 := tI_sA eS_219 t_224
                  have pz_226 : (pI S_219 1230 x).toInt = v_171.toInt := (congrArg Int32.toInt t_225).trans rfl
                  have t_227 : At S_219 x 12 := tAt_sA eS_219 t_211
                  have pz_228 : (pI S_219 1230 x).toInt = v_171.toInt := (congrArg Int32.toInt t_225).trans rfl
                  refine k_i (rm := { frames := 6, cells := 0, slots := 0, locals := 288 }) (av := [.ref x, .ref (κ (100 + 25))]) X hw (va_runV (As := [.ref (κ (100 + 25))]) (rest := []) (cfix X) (k_X12_must2 l G cy κ S_219 _ x 25 (nxT (rB S x) (pI S 1228 x).toInt.toNat (nxT (rB S x) (pI S 1228 x).toInt.toNat t_95)) hO_220.1 t_227 (by decide) (by rw [rB_fr hG ha_x hO_220.fr (by decide +kernel), hO_220.fr.I' (g := 1228) (by decide +kernel) ha_x rfl]; exact rg_222)) (cwV 1 X.2.2.2.1 gX12_rule_X12_must rfl rfl rfl (by decide +kernel) ⟨Nat.le_of_ble_eq_true rfl, Nat.le_of_ble_eq_true rfl⟩) (pre_V X hw _ t_227 rfl (by decide) rfl) rfl rfl hl.1 rfl (lv_room (Nat.le_of_ble_eq_true rfl)) dX12_rule_172 ⟨Nat.le_of_ble_eq_true rfl, Nat.le_of_ble_eq_true rfl⟩) 0 0 (Nat.le_of_ble_eq_true rfl) (Nat.le_of_ble_eq_true rfl) (fun rr_229 S_230 H locs hp hw hfr hnw => ?_)
                  obtain ⟨hk_231, hp⟩ := hp
                  have hO_232 : Ok MRt S S_230 := hO_220.call hk_231 (by decide +kernel)
                  rcases hp with ⟨f_233, er_234⟩ | ⟨f_233, er_234⟩ <;> subst er_234
                  · have z_b_235 := trivial
                    rw [rB_fr hG ha_x hO_220.fr (by decide +kernel), hO_220.fr.I' (g := 1228) (by decide +kernel) ha_x rfl] at f_233
                    obtain ⟨v_237, ev_237⟩ : ∃ v, pI S_230 1230 x = v := ⟨_, rfl⟩
                    have rg_239 := And.intro (z_lo v_237) (z_hi v_237)
                    have pz_240 : (pI S_230 1230 x).toInt = v_237.toInt := by rw [ev_237]
                    have pz_241 : (pI S_230 1230 x).toInt = v_237.toInt := (congrArg Int32.toInt ev_237).trans rfl
                    have ok_242 := hdI (RGB_ok hG ha_x f_233.2.1)
                    have ok_243 : ((nxT (rB S x) (pI S 1228 x).toInt.toNat (nxT (rB S x) (pI S 1228 x).toInt.toNat (nxT (rB S x) (pI S 1228 x).toInt.toNat t_95)))).2.1 ≤ ((nxT (rB S x) (pI S 1228 x).toInt.toNat (nxT (rB S x) (pI S 1228 x).toInt.toNat (nxT (rB S x) (pI S 1228 x).toInt.toNat t_95)))).2.2 ∧ ((nxT (rB S x) (pI S 1228 x).toInt.toNat (nxT (rB S x) (pI S 1228 x).toInt.toNat (nxT (rB S x) (pI S 1228 x).toInt.toNat t_95)))).2.2 ≤ 400 := ⟨(hdE ok_242).1, (hdE ok_242).2.1⟩
                    refine lv_if_ne (tgt := 180) X.1 X.2.1 dX12_rule_175 (by decide) (fun c_244 => ?_) (fun c_244 => absurd c_244 (by decide))
                    refine lv_aload_n X.1 X.2.1 dX12_rule_180 rfl (lv_at hl 3 rfl) ?_
                    have t_245 : At S_230 x 12 := hk_231.fr.at t_227
                    obtain ⟨q_246, h_247, h_248, h_249⟩ := gQ_12_1220 hO_232.1 t_245
                    refine r_getR (g := 1220) X hw t_245 rfl 20 h_247 (by decide) rfl inn_X12_rule_12 (by decide) (X.2.2.2.1 (.fieldLink RX12 61 "SilkMillModel" "rules" "[I") (by decide +kernel)) rfl (gv_1220 _ _) dX12_rule_181 ?_
                    refine lv_iconst (v := 4) X.1 X.2.1 dX12_rule_184 (by decide) ?_
                    refine lv_dup2_11 X.1 X.2.1 dX12_rule_185 rfl rfl ?_
                    refine r_iald X hw h_248 rfl (by rw [h_249]; exact z_ix ti_4 (by omega) (by omega)) dX12_rule_186 ?_
                    refine lv_topi (fun v_250 ev_250 => ?_)
                    have z_251 := gE_614 hO_232.1 h_248 (Int32.toNatClampNeg (4)); rw [← ev_250] at z_251
                    have ev_250 := ev_250.symm
                    have zf_252 : zA S_230 x 1220 4 = v_250.toInt := (zA_of (z := 4) h_247 ti_4 (by omega) ev_250)
                    have zc_253 : zA S_164 x 1220 = zA S x 1220 := (zA_fr hk_165.fr ha_x_L_83 (ex3 (gQ_12_1220 hO_T_82.1 ha_x_L_83)) (by decide +kernel) (by decide +kernel)).trans zk_87
                    have zc_254 : zA S_193 x 1220 = zA S x 1220 := (zA_sAn eS_193 (ex3 (gQ_12_1220 hO_166.1 t_179)) h_191 rfl).trans zc_253
                    have zc_255 : zA S_205 x 1220 = zA S x 1220 := (zA_fr hk_206.fr t_196 (ex3 (gQ_12_1220 hO_194.1 t_196)) (by decide +kernel) (by decide +kernel)).trans zc_254
                    have zc_256 : zA S_219 x 1220 = zA S x 1220 := (zA_sAn eS_219 (ex3 (gQ_12_1220 hO_207.1 t_211)) h_214 rfl).trans zc_255
                    have zc_257 : zA S_230 x 1220 = zA S x 1220 := (zA_fr hk_231.fr t_227 (ex3 (gQ_12_1220 hO_220.1 t_227)) (by decide +kernel) (by decide +kernel)).trans zc_256
                    have zz_258 := congrFun zc_257 4
                    refine lv_iconst (v := 1) X.1 X.2.1 dX12_rule_187 (by decide) ?_
                    refine lv_iadd X.1 X.2.1 dX12_rule_188 ?_
                    refine lv_topi (fun v_259 ev_259 => ?_)
                    have z_260 : v_259.toInt = v_250.toInt + 1 := z_add ev_259 rfl ti_1 (by omega) (by omega)
                    refine r_iast X hw h_248 rfl (by rw [h_249]; exact z_ix ti_4 (by omega) (by omega)) dX12_rule_189 (fun H locs hw => ?_)
                    obtain ⟨S_261, eS_261⟩ : ∃ T, T = sA S_230 q_246 (upd (pA S_230 q_246) (Int32.toNatClampNeg (4)) (v_259)) := ⟨_, rfl⟩
                    rw [← eS_261] at hw
                    have hO_262 : Ok MRt S S_261 := hO_232.sA eS_261 h_248 (by decide +kernel) (uA_614 hO_232.1 h_248 (by omega) (by omega))
                    have h_263 : pA S_261 q_246 (Int32.toNatClampNeg (4)) = v_259 := tA_sAs eS_261
                    have t_264 : pR S_261 1220 x = some q_246 := tR_sA eS_261 h_247
                    have t_266 : pR S_230 1220 x = some q_246 := by have h := t_264; rw [eS_261, pR_sA] at h; exact h
                    have zs_265 : ∀ j, zA S_261 x 1220 j = if j = (4 : Int).toNat then (v_250.toInt + 1) else zA S_230 x 1220 j := by have h := zA_sAs eS_261 t_266 z_260; rw [z_nc ti_4 (by omega)] at h; exact h
                    have zs_267 : zA S_261 x 1220 4 = (v_250.toInt + 1) := by have h := zs_265 4; rw [if_pos (by decide)] at h; exact h
                    refine lv_iconst (v := 1) X.1 X.2.1 dX12_rule_190 (by decide) ?_
                    have t_269 : pI S_261 1230 x = v_237 := tI_sA eS_261 ev_237
                    have pz_270 : (pI S_261 1230 x).toInt = v_237.toInt := (congrArg Int32.toInt t_269).trans rfl
                    have cs_271 : csF (rB S x) (pI S 1228 x).toInt.toNat 4 (nxT (rB S x) (pI S 1228 x).toInt.toNat t0) = (0, nxT (rB S x) (pI S 1228 x).toInt.toNat t_95) := er_98.trans (cit_y ((isR_co rg_97).mp f_167.1.2))
                    have ea_268 : rueF (rB S x) (pI S 1228 x).toInt.toNat (zA S x 1220 4).toNat t0 = acF (rB S x) (pI S 1228 x).toInt.toNat (csF (rB S x) (pI S 1228 x).toInt.toNat 4 (nxT (rB S x) (pI S 1228 x).toInt.toNat t0)).2 := (cit_n (fun h => h.1 ((isR_if hp_0).mp f_14.2))).trans ((cit_n (by omega)).trans ((cit_y ((isR_if hp_0).mp f_14.2)).trans (cit_y (by rw [cs_271]))))
                    rw [cs_271] at ea_268
                    have ea_268b : rueF (rB S x) (pI S 1228 x).toInt.toNat (zA S x 1220 4).toNat t0 = acF (rB S x) (pI S 1228 x).toInt.toNat (nxT (rB S x) (pI S 1228 x).toInt.toNat t_95) := ea_268
                    have ec_272 : acF (rB S x) (pI S 1228 x).toInt.toNat (nxT (rB S x) (pI S 1228 x).toInt.toNat t_95) = (0, nxT (rB S x) (pI S 1228 x).toInt.toNat (nxT (rB S x) (pI S 1228 x).toInt.toNat (nxT (rB S x) (pI S 1228 x).toInt.toNat t_95))) := (cit_n (by omega)).trans ((cit_n (by omega)).trans (cit_y ((isR_se rg_222).mp f_233.1.2)))
                    have rg_273 := RGB_sA f_233.2.1 eS_261
                    rw [hQQ]
                    exact ret_z X hw hr hlocks (Nat.le_of_ble_eq_true rfl) (Nat.le_of_ble_eq_true rfl) (by decide) ⟨hO_262, Or.inl ⟨by rw [ea_268b, ec_272]; exact ⟨rfl, rg_273, by omega, by omega, by omega⟩, rfl⟩⟩ dX12_rule_191
                  · have z_b_274 := trivial
                    rw [rB_fr hG ha_x hO_220.fr (by decide +kernel)] at f_233
                    obtain ⟨v_276, ev_276⟩ : ∃ v, pI S_230 1230 x = v := ⟨_, rfl⟩
                    have rg_278 := And.intro (z_lo v_276) (z_hi v_276)
                    have pz_279 : (pI S_230 1230 x).toInt = v_276.toInt := by rw [ev_276]
                    have pz_280 : (pI S_230 1230 x).toInt = v_276.toInt := (congrArg Int32.toInt ev_276).trans rfl
                    refine lv_if_ne (tgt := 180) X.1 X.2.1 dX12_rule_175 (by decide) (fun c_281 => absurd c_281 (by decide)) (fun c_281 => ?_)
                    refine lv_iconst (v := 0) X.1 X.2.1 dX12_rule_178 (by decide) ?_
                    have pz_283 : (pI S_230 1230 x).toInt = v_276.toInt := (congrArg Int32.toInt ev_276).trans rfl
                    have cs_284 : csF (rB S x) (pI S 1228 x).toInt.toNat 4 (nxT (rB S x) (pI S 1228 x).toInt.toNat t0) = (0, nxT (rB S x) (pI S 1228 x).toInt.toNat t_95) := er_98.trans (cit_y ((isR_co rg_97).mp f_167.1.2))
                    have ea_282 : rueF (rB S x) (pI S 1228 x).toInt.toNat (zA S x 1220 4).toNat t0 = acF (rB S x) (pI S 1228 x).toInt.toNat (csF (rB S x) (pI S 1228 x).toInt.toNat 4 (nxT (rB S x) (pI S 1228 x).toInt.toNat t0)).2 := (cit_n (fun h => h.1 ((isR_if hp_0).mp f_14.2))).trans ((cit_n (by omega)).trans ((cit_y ((isR_if hp_0).mp f_14.2)).trans (cit_y (by rw [cs_284]))))
                    rw [cs_284] at ea_282
                    have ea_282b : rueF (rB S x) (pI S 1228 x).toInt.toNat (zA S x 1220 4).toNat t0 = acF (rB S x) (pI S 1228 x).toInt.toNat (nxT (rB S x) (pI S 1228 x).toInt.toNat t_95) := ea_282
                    have ec_285 : acF (rB S x) (pI S 1228 x).toInt.toNat (nxT (rB S x) (pI S 1228 x).toInt.toNat t_95) = (1, (nxT (rB S x) (pI S 1228 x).toInt.toNat (nxT (rB S x) (pI S 1228 x).toInt.toNat t_95))) := (cit_n (by omega)).trans ((cit_n (by omega)).trans (cit_n (fun h => f_233.1 ⟨by omega, (isR_se rg_222).mpr h⟩)))
                    rw [hQQ]
                    exact ret_z X hw hr hlocks (Nat.le_of_ble_eq_true rfl) (Nat.le_of_ble_eq_true rfl) (by decide) ⟨hO_232, Or.inr ⟨by rw [ea_282b, ec_285]; exact ⟨(by decide : (1 : Int) ≠ 0), by have h := f_233.2; show _ = (1 : Int); omega⟩, rfl⟩⟩ dX12_rule_179
                · have z_b_286 := trivial
                  have k_287 : rr_181.toInt = 5 := z_eq rfl ti_5 c_216
                  refine lv_aload_n X.1 X.2.1 dX12_rule_159 rfl (lv_at hl 3 rfl) ?_
                  have t_288 : pI S_193 1230 x = v_171 := tI_sA eS_193 ev_171
                  have t_289 : pI S_205 1230 x = v_171 := hk_206.fr.I' (by decide +kernel) t_196 t_288
                  have pz_290 : (pI S_205 1230 x).toInt = v_171.toInt := (congrArg Int32.toInt t_289).trans rfl
                  refine k_i (rm := { frames := 3, cells := 0, slots := 0, locals := 144 }) (av := [.ref x]) X hw (va_runV (As := []) (rest := [.int (v_34), .ref q_212]) (cfix X) (k_X12_number2 l G cy κ S_205 _ x (nxT (rB S x) (pI S 1228 x).toInt.toNat (nxT (rB S x) (pI S 1228 x).toInt.toNat t_95)) hO_207.1 t_211 (by rw [rB_fr hG ha_x hO_207.fr (by decide +kernel), hO_207.fr.I' (g := 1228) (by decide +kernel) ha_x rfl]; exact rg_208)) (cwV 0 X.2.2.2.1 gX12_rule_X12_number rfl rfl rfl (by decide +kernel) ⟨Nat.le_of_ble_eq_true rfl, Nat.le_of_ble_eq_true rfl⟩) (pre_V X hw _ t_211 rfl (by decide) rfl) rfl rfl hl.1 rfl (lv_room (Nat.le_of_ble_eq_true rfl)) dX12_rule_160 ⟨Nat.le_of_ble_eq_true rfl, Nat.le_of_ble_eq_true rfl⟩) 0 0 (Nat.le_of_ble_eq_true rfl) (Nat.le_of_ble_eq_true rfl) (fun rr_291 S_292 H locs hp hw hfr hnw => ?_)
                  obtain ⟨hk_293, hp⟩ := hp
                  have hO_294 : Ok MRt S S_292 := hO_207.call hk_293 (by decide +kernel)
                  obtain ⟨nm_295, nm_296, nm_297, nm_298⟩ := hp
                  rw [rB_fr hG ha_x hO_207.fr (by decide +kernel), hO_207.fr.I' (g := 1228) (by decide +kernel) ha_x rfl] at nm_297
                  rw [rB_fr hG ha_x hO_207.fr (by decide +kernel), hO_207.fr.I' (g := 1228) (by decide +kernel) ha_x rfl] at nm_298
                  by_cases hd_299 : (nxT (rB S x) (pI S 1228 x).toInt.toNat (nxT (rB S x) (pI S 1228 x).toInt.toNat t_95)).1 = 2
                  · have nq_300 := nm_297 hd_299
                    have nfk_301 := nq_300.2.2
                    obtain ⟨v_303, ev_303⟩ : ∃ v, pI S_292 1230 x = v := ⟨_, rfl⟩
                    have rg_305 := And.intro (z_lo v_303) (z_hi v_303)
                    have pz_306 : (pI S_292 1230 x).toInt = v_303.toInt := by rw [ev_303]
                    have pz_307 : (pI S_292 1230 x).toInt = v_303.toInt := (congrArg Int32.toInt ev_303).trans rfl
                    have ok_308 := hdI (RGB_ok hG ha_x nq_300.2.1)
                    have ok_309 : ((nxT (rB S x) (pI S 1228 x).toInt.toNat (nxT (rB S x) (pI S 1228 x).toInt.toNat (nxT (rB S x) (pI S 1228 x).toInt.toNat t_95)))).2.1 ≤ ((nxT (rB S x) (pI S 1228 x).toInt.toNat (nxT (rB S x) (pI S 1228 x).toInt.toNat (nxT (rB S x) (pI S 1228 x).toInt.toNat t_95)))).2.2 ∧ ((nxT (rB S x) (pI S 1228 x).toInt.toNat (nxT (rB S x) (pI S 1228 x).toInt.toNat (nxT (rB S x) (pI S 1228 x).toInt.toNat t_95)))).2.2 ≤ 400 := ⟨(hdE ok_308).1, (hdE ok_308).2.1⟩
                    refine lv_goto (tgt := 167) X.1 X.2.1 dX12_rule_163 (by decide) ?_
                    have t_310 : At S_292 q_212 654 := hk_293.fr.at h_214
                    have t_311 : pN S_292 q_212 = 60 := hk_293.fr.N h_214 h_215
                    clear h_215
                    refine r_iast X hw t_310 rfl (by rw [t_311]; exact z_ix z_35 (by omega) (by omega)) dX12_rule_167 (fun H locs hw => ?_)
                    obtain ⟨S_312, eS_312⟩ : ∃ T, T = sA S_292 q_212 (upd (pA S_292 q_212) (Int32.toNatClampNeg (v_34)) (rr_291)) := ⟨_, rfl⟩
                    rw [← eS_312] at hw
                    have hO_313 : Ok MRt S S_312 := hO_294.sA eS_312 t_310 (by decide +kernel) (uA_654 hO_294.1 t_310)
                    have h_314 : pA S_312 q_212 (Int32.toNatClampNeg (v_34)) = rr_291 := tA_sAs eS_312
                    refine lv_aload_n X.1 X.2.1 dX12_rule_168 rfl (lv_at hl 3 rfl) ?_
                    refine lv_ldcwS (q := κ (100 + 25)) X.1 X.2.1 X.2.2.2.2.1 (show vk_R RX12 281 ";" (κ (100 + 25)) s from (X.2.2.2.2.2.2.2.2.2.2.2.2.2.2 25 (by decide)).1) dX12_rule_169 ?_
                    have rg_315 := RGB_sA nq_300.2.1 eS_312
                    have t_316 : pI S_312 1230 x = v_303 := tI_sA eS_312 ev_303
                    have pz_317 : (pI S_312 1230 x).toInt = v_303.toInt := (congrArg Int32.toInt t_316).trans rfl
                    have t_318 : At S_292 x 12 := hk_293.fr.at t_211
                    have t_319 : At S_312 x 12 := tAt_sA eS_312 t_318
                    have pz_320 : (pI S_312 1230 x).toInt = v_303.toInt := (congrArg Int32.toInt t_316).trans rfl
                    refine k_i (rm := { frames := 6, cells := 0, slots := 0, locals := 288 }) (av := [.ref x, .ref (κ (100 + 25))]) X hw (va_runV (As := [.ref (κ (100 + 25))]) (rest := []) (cfix X) (k_X12_must2 l G cy κ S_312 _ x 25 (nxT (rB S x) (pI S 1228 x).toInt.toNat (nxT (rB S x) (pI S 1228 x).toInt.toNat (nxT (rB S x) (pI S 1228 x).toInt.toNat t_95))) hO_313.1 t_319 (by decide) (by rw [rB_fr hG ha_x hO_313.fr (by decide +kernel), hO_313.fr.I' (g := 1228) (by decide +kernel) ha_x rfl]; exact rg_315)) (cwV 1 X.2.2.2.1 gX12_rule_X12_must rfl rfl rfl (by decide +kernel) ⟨Nat.le_of_ble_eq_true rfl, Nat.le_of_ble_eq_true rfl⟩) (pre_V X hw _ t_319 rfl (by decide) rfl) rfl rfl hl.1 rfl (lv_room (Nat.le_of_ble_eq_true rfl)) dX12_rule_172 ⟨Nat.le_of_ble_eq_true rfl, Nat.le_of_ble_eq_true rfl⟩) 0 0 (Nat.le_of_ble_eq_true rfl) (Nat.le_of_ble_eq_true rfl) (fun rr_321 S_322 H locs hp hw hfr hnw => ?_)
                    obtain ⟨hk_323, hp⟩ := hp
                    have hO_324 : Ok MRt S S_322 := hO_313.call hk_323 (by decide +kernel)
                    rcases hp with ⟨f_325, er_326⟩ | ⟨f_325, er_326⟩ <;> subst er_326
                    · have z_b_327 := trivial
                      rw [rB_fr hG ha_x hO_313.fr (by decide +kernel), hO_313.fr.I' (g := 1228) (by decide +kernel) ha_x rfl] at f_325
                      obtain ⟨v_329, ev_329⟩ : ∃ v, pI S_322 1230 x = v := ⟨_, rfl⟩
                      have rg_331 := And.intro (z_lo v_329) (z_hi v_329)
                      have pz_332 : (pI S_322 1230 x).toInt = v_329.toInt := by rw [ev_329]
                      have pz_333 : (pI S_322 1230 x).toInt = v_329.toInt := (congrArg Int32.toInt ev_329).trans rfl
                      have ok_334 := hdI (RGB_ok hG ha_x f_325.2.1)
                      have ok_335 : ((nxT (rB S x) (pI S 1228 x).toInt.toNat (nxT (rB S x) (pI S 1228 x).toInt.toNat (nxT (rB S x) (pI S 1228 x).toInt.toNat (nxT (rB S x) (pI S 1228 x).toInt.toNat t_95))))).2.1 ≤ ((nxT (rB S x) (pI S 1228 x).toInt.toNat (nxT (rB S x) (pI S 1228 x).toInt.toNat (nxT (rB S x) (pI S 1228 x).toInt.toNat (nxT (rB S x) (pI S 1228 x).toInt.toNat t_95))))).2.2 ∧ ((nxT (rB S x) (pI S 1228 x).toInt.toNat (nxT (rB S x) (pI S 1228 x).toInt.toNat (nxT (rB S x) (pI S 1228 x).toInt.toNat (nxT (rB S x) (pI S 1228 x).toInt.toNat t_95))))).2.2 ≤ 400 := ⟨(hdE ok_334).1, (hdE ok_334).2.1⟩
                      refine lv_if_ne (tgt := 180) X.1 X.2.1 dX12_rule_175 (by decide) (fun c_336 => ?_) (fun c_336 => absurd c_336 (by decide))
                      refine lv_aload_n X.1 X.2.1 dX12_rule_180 rfl (lv_at hl 3 rfl) ?_
                      have t_337 : At S_322 x 12 := hk_323.fr.at t_319
                      obtain ⟨q_338, h_339, h_340, h_341⟩ := gQ_12_1220 hO_324.1 t_337
                      refine r_getR (g := 1220) X hw t_337 rfl 20 h_339 (by decide) rfl inn_X12_rule_12 (by decide) (X.2.2.2.1 (.fieldLink RX12 61 "SilkMillModel" "rules" "[I") (by decide +kernel)) rfl (gv_1220 _ _) dX12_rule_181 ?_
                      refine lv_iconst (v := 4) X.1 X.2.1 dX12_rule_184 (by decide) ?_
                      refine lv_dup2_11 X.1 X.2.1 dX12_rule_185 rfl rfl ?_
                      refine r_iald X hw h_340 rfl (by rw [h_341]; exact z_ix ti_4 (by omega) (by omega)) dX12_rule_186 ?_
                      refine lv_topi (fun v_342 ev_342 => ?_)
                      have z_343 := gE_614 hO_324.1 h_340 (Int32.toNatClampNeg (4)); rw [← ev_342] at z_343
                      have ev_342 := ev_342.symm
                      have zf_344 : zA S_322 x 1220 4 = v_342.toInt := (zA_of (z := 4) h_339 ti_4 (by omega) ev_342)
                      have zc_345 : zA S_164 x 1220 = zA S x 1220 := (zA_fr hk_165.fr ha_x_L_83 (ex3 (gQ_12_1220 hO_T_82.1 ha_x_L_83)) (by decide +kernel) (by decide +kernel)).trans zk_87
                      have zc_346 : zA S_193 x 1220 = zA S x 1220 := (zA_sAn eS_193 (ex3 (gQ_12_1220 hO_166.1 t_179)) h_191 rfl).trans zc_345
                      have zc_347 : zA S_205 x 1220 = zA S x 1220 := (zA_fr hk_206.fr t_196 (ex3 (gQ_12_1220 hO_194.1 t_196)) (by decide +kernel) (by decide +kernel)).trans zc_346
                      have zc_348 : zA S_292 x 1220 = zA S x 1220 := (zA_fr hk_293.fr t_211 (ex3 (gQ_12_1220 hO_207.1 t_211)) (by decide +kernel) (by decide +kernel)).trans zc_347
                      have t_349 : At S_292 x 12 := hk_293.fr.at t_211
                      have zc_350 : zA S_312 x 1220 = zA S x 1220 := (zA_sAn eS_312 (ex3 (gQ_12_1220 hO_294.1 t_349)) t_310 rfl).trans zc_348
                      have zc_351 : zA S_322 x 1220 = zA S x 1220 := (zA_fr hk_323.fr t_319 (ex3 (gQ_12_1220 hO_313.1 t_319)) (by decide +kernel) (by decide +kernel)).trans zc_350
                      have zz_352 := congrFun zc_351 4
                      refine lv_iconst (v := 1) X.1 X.2.1 dX12_rule_187 (by decide) ?_
                      refine lv_iadd X.1 X.2.1 dX12_rule_188 ?_
                      refine lv_topi (fun v_353 ev_353 => ?_)
                      have z_354 : v_353.toInt = v_342.toInt + 1 := z_add ev_353 rfl ti_1 (by omega) (by omega)
                      refine r_iast X hw h_340 rfl (by rw [h_341]; exact z_ix ti_4 (by omega) (by omega)) dX12_rule_189 (fun H locs hw => ?_)
                      obtain ⟨S_355, eS_355⟩ : ∃ T, T = sA S_322 q_338 (upd (pA S_322 q_338) (Int32.toNatClampNeg (4)) (v_353)) := ⟨_, rfl⟩
                      rw [← eS_355] at hw
                      have hO_356 : Ok MRt S S_355 := hO_324.sA eS_355 h_340 (by decide +kernel) (uA_614 hO_324.1 h_340 (by omega) (by omega))
                      have h_357 : pA S_355 q_338 (Int32.toNatClampNeg (4)) = v_353 := tA_sAs eS_355
                      have t_358 : pR S_355 1220 x = some q_338 := tR_sA eS_355 h_339
                      have t_360 : pR S_322 1220 x = some q_338 := by have h := t_358; rw [eS_355, pR_sA] at h; exact h
                      have zs_359 : ∀ j, zA S_355 x 1220 j = if j = (4 : Int).toNat then (v_342.toInt + 1) else zA S_322 x 1220 j := by have h := zA_sAs eS_355 t_360 z_354; rw [z_nc ti_4 (by omega)] at h; exact h
                      have zs_361 : zA S_355 x 1220 4 = (v_342.toInt + 1) := by have h := zs_359 4; rw [if_pos (by decide)] at h; exact h
                      refine lv_iconst (v := 1) X.1 X.2.1 dX12_rule_190 (by decide) ?_
                      have t_363 : pI S_355 1230 x = v_329 := tI_sA eS_355 ev_329
                      have pz_364 : (pI S_355 1230 x).toInt = v_329.toInt := (congrArg Int32.toInt t_363).trans rfl
                      have cs_365 : csF (rB S x) (pI S 1228 x).toInt.toNat 4 (nxT (rB S x) (pI S 1228 x).toInt.toNat t0) = (0, nxT (rB S x) (pI S 1228 x).toInt.toNat t_95) := er_98.trans (cit_y ((isR_co rg_97).mp f_167.1.2))
                      have ea_362 : rueF (rB S x) (pI S 1228 x).toInt.toNat (zA S x 1220 4).toNat t0 = acF (rB S x) (pI S 1228 x).toInt.toNat (csF (rB S x) (pI S 1228 x).toInt.toNat 4 (nxT (rB S x) (pI S 1228 x).toInt.toNat t0)).2 := (cit_n (fun h => h.1 ((isR_if hp_0).mp f_14.2))).trans ((cit_n (by omega)).trans ((cit_y ((isR_if hp_0).mp f_14.2)).trans (cit_y (by rw [cs_365]))))
                      rw [cs_365] at ea_362
                      have ea_362b : rueF (rB S x) (pI S 1228 x).toInt.toNat (zA S x 1220 4).toNat t0 = acF (rB S x) (pI S 1228 x).toInt.toNat (nxT (rB S x) (pI S 1228 x).toInt.toNat t_95) := ea_362
                      have ec_366 : acF (rB S x) (pI S 1228 x).toInt.toNat (nxT (rB S x) (pI S 1228 x).toInt.toNat t_95) = (0, nxT (rB S x) (pI S 1228 x).toInt.toNat (nxT (rB S x) (pI S 1228 x).toInt.toNat (nxT (rB S x) (pI S 1228 x).toInt.toNat (nxT (rB S x) (pI S 1228 x).toInt.toNat t_95)))) := (cit_n (by omega)).trans ((cit_y (by omega)).trans ((cit_y hd_299).trans (cit_y ((isR_se rg_315).mp f_325.1.2))))
                      have rg_367 := RGB_sA f_325.2.1 eS_355
                      rw [hQQ]
                      exact ret_z X hw hr hlocks (Nat.le_of_ble_eq_true rfl) (Nat.le_of_ble_eq_true rfl) (by decide) ⟨hO_356, Or.inl ⟨by rw [ea_362b, ec_366]; exact ⟨rfl, rg_367, by omega, by omega, by omega⟩, rfl⟩⟩ dX12_rule_191
                    · have z_b_368 := trivial
                      rw [rB_fr hG ha_x hO_313.fr (by decide +kernel)] at f_325
                      obtain ⟨v_370, ev_370⟩ : ∃ v, pI S_322 1230 x = v := ⟨_, rfl⟩
                      have rg_372 := And.intro (z_lo v_370) (z_hi v_370)
                      have pz_373 : (pI S_322 1230 x).toInt = v_370.toInt := by rw [ev_370]
                      have pz_374 : (pI S_322 1230 x).toInt = v_370.toInt := (congrArg Int32.toInt ev_370).trans rfl
                      refine lv_if_ne (tgt := 180) X.1 X.2.1 dX12_rule_175 (by decide) (fun c_375 => absurd c_375 (by decide)) (fun c_375 => ?_)
                      refine lv_iconst (v := 0) X.1 X.2.1 dX12_rule_178 (by decide) ?_
                      have pz_377 : (pI S_322 1230 x).toInt = v_370.toInt := (congrArg Int32.toInt ev_370).trans rfl
                      have cs_378 : csF (rB S x) (pI S 1228 x).toInt.toNat 4 (nxT (rB S x) (pI S 1228 x).toInt.toNat t0) = (0, nxT (rB S x) (pI S 1228 x).toInt.toNat t_95) := er_98.trans (cit_y ((isR_co rg_97).mp f_167.1.2))
                      have ea_376 : rueF (rB S x) (pI S 1228 x).toInt.toNat (zA S x 1220 4).toNat t0 = acF (rB S x) (pI S 1228 x).toInt.toNat (csF (rB S x) (pI S 1228 x).toInt.toNat 4 (nxT (rB S x) (pI S 1228 x).toInt.toNat t0)).2 := (cit_n (fun h => h.1 ((isR_if hp_0).mp f_14.2))).trans ((cit_n (by omega)).trans ((cit_y ((isR_if hp_0).mp f_14.2)).trans (cit_y (by rw [cs_378]))))
                      rw [cs_378] at ea_376
                      have ea_376b : rueF (rB S x) (pI S 1228 x).toInt.toNat (zA S x 1220 4).toNat t0 = acF (rB S x) (pI S 1228 x).toInt.toNat (nxT (rB S x) (pI S 1228 x).toInt.toNat t_95) := ea_376
                      have ec_379 : acF (rB S x) (pI S 1228 x).toInt.toNat (nxT (rB S x) (pI S 1228 x).toInt.toNat t_95) = (1, (nxT (rB S x) (pI S 1228 x).toInt.toNat (nxT (rB S x) (pI S 1228 x).toInt.toNat (nxT (rB S x) (pI S 1228 x).toInt.toNat t_95)))) := (cit_n (by omega)).trans ((cit_y (by omega)).trans ((cit_y hd_299).trans (cit_n (fun h => f_325.1 ⟨by omega, (isR_se rg_315).mpr h⟩))))
                      rw [hQQ]
                      exact ret_z X hw hr hlocks (Nat.le_of_ble_eq_true rfl) (Nat.le_of_ble_eq_true rfl) (by decide) ⟨hO_324, Or.inr ⟨by rw [ea_376b, ec_379]; exact ⟨(by decide : (1 : Int) ≠ 0), by have h := f_325.2; show _ = (1 : Int); omega⟩, rfl⟩⟩ dX12_rule_179
                  · have nq_380 := nm_298 hd_299
                    have nfk_381 := nq_380.2
                    obtain ⟨v_383, ev_383⟩ : ∃ v, pI S_292 1230 x = v := ⟨_, rfl⟩
                    have rg_385 := And.intro (z_lo v_383) (z_hi v_383)
                    have pz_386 : (pI S_292 1230 x).toInt = v_383.toInt := by rw [ev_383]
                    have pz_387 : (pI S_292 1230 x).toInt = v_383.toInt := (congrArg Int32.toInt ev_383).trans rfl
                    have ok_388 := hdI (RGB_ok hG ha_x nq_380.1)
                    have ok_389 : ((nxT (rB S x) (pI S 1228 x).toInt.toNat (nxT (rB S x) (pI S 1228 x).toInt.toNat t_95))).2.1 ≤ ((nxT (rB S x) (pI S 1228 x).toInt.toNat (nxT (rB S x) (pI S 1228 x).toInt.toNat t_95))).2.2 ∧ ((nxT (rB S x) (pI S 1228 x).toInt.toNat (nxT (rB S x) (pI S 1228 x).toInt.toNat t_95))).2.2 ≤ 400 := ⟨(hdE ok_388).1, (hdE ok_388).2.1⟩
                    refine lv_goto (tgt := 167) X.1 X.2.1 dX12_rule_163 (by decide) ?_
                    have t_390 : At S_292 q_212 654 := hk_293.fr.at h_214
                    have t_391 : pN S_292 q_212 = 60 := hk_293.fr.N h_214 h_215
                    clear h_215
                    refine r_iast X hw t_390 rfl (by rw [t_391]; exact z_ix z_35 (by omega) (by omega)) dX12_rule_167 (fun H locs hw => ?_)
                    obtain ⟨S_392, eS_392⟩ : ∃ T, T = sA S_292 q_212 (upd (pA S_292 q_212) (Int32.toNatClampNeg (v_34)) (rr_291)) := ⟨_, rfl⟩
                    rw [← eS_392] at hw
                    have hO_393 : Ok MRt S S_392 := hO_294.sA eS_392 t_390 (by decide +kernel) (uA_654 hO_294.1 t_390)
                    have h_394 : pA S_392 q_212 (Int32.toNatClampNeg (v_34)) = rr_291 := tA_sAs eS_392
                    refine lv_aload_n X.1 X.2.1 dX12_rule_168 rfl (lv_at hl 3 rfl) ?_
                    refine lv_ldcwS (q := κ (100 + 25)) X.1 X.2.1 X.2.2.2.2.1 (show vk_R RX12 281 ";" (κ (100 + 25)) s from (X.2.2.2.2.2.2.2.2.2.2.2.2.2.2 25 (by decide)).1) dX12_rule_169 ?_
                    have rg_395 := RGB_sA nq_380.1 eS_392
                    have t_396 : pI S_392 1230 x = v_383 := tI_sA eS_392 ev_383
                    have pz_397 : (pI S_392 1230 x).toInt = v_383.toInt := (congrArg Int32.toInt t_396).trans rfl
                    have t_398 : At S_292 x 12 := hk_293.fr.at t_211
                    have t_399 : At S_392 x 12 := tAt_sA eS_392 t_398
                    have pz_400 : (pI S_392 1230 x).toInt = v_383.toInt := (congrArg Int32.toInt t_396).trans rfl
                    refine k_i (rm := { frames := 6, cells := 0, slots := 0, locals := 288 }) (av := [.ref x, .ref (κ (100 + 25))]) X hw (va_runV (As := [.ref (κ (100 + 25))]) (rest := []) (cfix X) (k_X12_must2 l G cy κ S_392 _ x 25 (nxT (rB S x) (pI S 1228 x).toInt.toNat (nxT (rB S x) (pI S 1228 x).toInt.toNat t_95)) hO_393.1 t_399 (by decide) (by rw [rB_fr hG ha_x hO_393.fr (by decide +kernel), hO_393.fr.I' (g := 1228) (by decide +kernel) ha_x rfl]; exact rg_395)) (cwV 1 X.2.2.2.1 gX12_rule_X12_must rfl rfl rfl (by decide +kernel) ⟨Nat.le_of_ble_eq_true rfl, Nat.le_of_ble_eq_true rfl⟩) (pre_V X hw _ t_399 rfl (by decide) rfl) rfl rfl hl.1 rfl (lv_room (Nat.le_of_ble_eq_true rfl)) dX12_rule_172 ⟨Nat.le_of_ble_eq_true rfl, Nat.le_of_ble_eq_true rfl⟩) 0 0 (Nat.le_of_ble_eq_true rfl) (Nat.le_of_ble_eq_true rfl) (fun rr_401 S_402 H locs hp hw hfr hnw => ?_)
                    obtain ⟨hk_403, hp⟩ := hp
                    have hO_404 : Ok MRt S S_402 := hO_393.call hk_403 (by decide +kernel)
                    rcases hp with ⟨f_405, er_406⟩ | ⟨f_405, er_406⟩ <;> subst er_406
                    · have z_b_407 := trivial
                      rw [rB_fr hG ha_x hO_393.fr (by decide +kernel), hO_393.fr.I' (g := 1228) (by decide +kernel) ha_x rfl] at f_405
                      obtain ⟨v_409, ev_409⟩ : ∃ v, pI S_402 1230 x = v := ⟨_, rfl⟩
                      have rg_411 := And.intro (z_lo v_409) (z_hi v_409)
                      have pz_412 : (pI S_402 1230 x).toInt = v_409.toInt := by rw [ev_409]
                      have pz_413 : (pI S_402 1230 x).toInt = v_409.toInt := (congrArg Int32.toInt ev_409).trans rfl
                      have ok_414 := hdI (RGB_ok hG ha_x f_405.2.1)
                      have ok_415 : ((nxT (rB S x) (pI S 1228 x).toInt.toNat (nxT (rB S x) (pI S 1228 x).toInt.toNat (nxT (rB S x) (pI S 1228 x).toInt.toNat t_95)))).2.1 ≤ ((nxT (rB S x) (pI S 1228 x).toInt.toNat (nxT (rB S x) (pI S 1228 x).toInt.toNat (nxT (rB S x) (pI S 1228 x).toInt.toNat t_95)))).2.2 ∧ ((nxT (rB S x) (pI S 1228 x).toInt.toNat (nxT (rB S x) (pI S 1228 x).toInt.toNat (nxT (rB S x) (pI S 1228 x).toInt.toNat t_95)))).2.2 ≤ 400 := ⟨(hdE ok_414).1, (hdE ok_414).2.1⟩
                      refine lv_if_ne (tgt := 180) X.1 X.2.1 dX12_rule_175 (by decide) (fun c_416 => ?_) (fun c_416 => absurd c_416 (by decide))
                      refine lv_aload_n X.1 X.2.1 dX12_rule_180 rfl (lv_at hl 3 rfl) ?_
                      have t_417 : At S_402 x 12 := hk_403.fr.at t_399
                      obtain ⟨q_418, h_419, h_420, h_421⟩ := gQ_12_1220 hO_404.1 t_417
                      refine r_getR (g := 1220) X hw t_417 rfl 20 h_419 (by decide) rfl inn_X12_rule_12 (by decide) (X.2.2.2.1 (.fieldLink RX12 61 "SilkMillModel" "rules" "[I") (by decide +kernel)) rfl (gv_1220 _ _) dX12_rule_181 ?_
                      refine lv_iconst (v := 4) X.1 X.2.1 dX12_rule_184 (by decide) ?_
                      refine lv_dup2_11 X.1 X.2.1 dX12_rule_185 rfl rfl ?_
                      refine r_iald X hw h_420 rfl (by rw [h_421]; exact z_ix ti_4 (by omega) (by omega)) dX12_rule_186 ?_
                      refine lv_topi (fun v_422 ev_422 => ?_)
                      have z_423 := gE_614 hO_404.1 h_420 (Int32.toNatClampNeg (4)); rw [← ev_422] at z_423
                      have ev_422 := ev_422.symm
                      have zf_424 : zA S_402 x 1220 4 = v_422.toInt := (zA_of (z := 4) h_419 ti_4 (by omega) ev_422)
                      have zc_425 : zA S_164 x 1220 = zA S x 1220 := (zA_fr hk_165.fr ha_x_L_83 (ex3 (gQ_12_1220 hO_T_82.1 ha_x_L_83)) (by decide +kernel) (by decide +kernel)).trans zk_87
                      have zc_426 : zA S_193 x 1220 = zA S x 1220 := (zA_sAn eS_193 (ex3 (gQ_12_1220 hO_166.1 t_179)) h_191 rfl).trans zc_425
                      have zc_427 : zA S_205 x 1220 = zA S x 1220 := (zA_fr hk_206.fr t_196 (ex3 (gQ_12_1220 hO_194.1 t_196)) (by decide +kernel) (by decide +kernel)).trans zc_426
                      have zc_428 : zA S_292 x 1220 = zA S x 1220 := (zA_fr hk_293.fr t_211 (ex3 (gQ_12_1220 hO_207.1 t_211)) (by decide +kernel) (by decide +kernel)).trans zc_427
                      have t_429 : At S_292 x 12 := hk_293.fr.at t_211
                      have zc_430 : zA S_392 x 1220 = zA S x 1220 := (zA_sAn eS_392 (ex3 (gQ_12_1220 hO_294.1 t_429)) t_390 rfl).trans zc_428
                      have zc_431 : zA S_402 x 1220 = zA S x 1220 := (zA_fr hk_403.fr t_399 (ex3 (gQ_12_1220 hO_393.1 t_399)) (by decide +kernel) (by decide +kernel)).trans zc_430
                      have zz_432 := congrFun zc_431 4
                      refine lv_iconst (v := 1) X.1 X.2.1 dX12_rule_187 (by decide) ?_
                      refine lv_iadd X.1 X.2.1 dX12_rule_188 ?_
                      refine lv_topi (fun v_433 ev_433 => ?_)
                      have z_434 : v_433.toInt = v_422.toInt + 1 := z_add ev_433 rfl ti_1 (by omega) (by omega)
                      refine r_iast X hw h_420 rfl (by rw [h_421]; exact z_ix ti_4 (by omega) (by omega)) dX12_rule_189 (fun H locs hw => ?_)
                      obtain ⟨S_435, eS_435⟩ : ∃ T, T = sA S_402 q_418 (upd (pA S_402 q_418) (Int32.toNatClampNeg (4)) (v_433)) := ⟨_, rfl⟩
                      rw [← eS_435] at hw
                      have hO_436 : Ok MRt S S_435 := hO_404.sA eS_435 h_420 (by decide +kernel) (uA_614 hO_404.1 h_420 (by omega) (by omega))
                      have h_437 : pA S_435 q_418 (Int32.toNatClampNeg (4)) = v_433 := tA_sAs eS_435
                      have t_438 : pR S_435 1220 x = some q_418 := tR_sA eS_435 h_419
                      have t_440 : pR S_402 1220 x = some q_418 := by have h := t_438; rw [eS_435, pR_sA] at h; exact h
                      have zs_439 : ∀ j, zA S_435 x 1220 j = if j = (4 : Int).toNat then (v_422.toInt + 1) else zA S_402 x 1220 j := by have h := zA_sAs eS_435 t_440 z_434; rw [z_nc ti_4 (by omega)] at h; exact h
                      have zs_441 : zA S_435 x 1220 4 = (v_422.toInt + 1) := by have h := zs_439 4; rw [if_pos (by decide)] at h; exact h
                      refine lv_iconst (v := 1) X.1 X.2.1 dX12_rule_190 (by decide) ?_
                      have t_443 : pI S_435 1230 x = v_409 := tI_sA eS_435 ev_409
                      have pz_444 : (pI S_435 1230 x).toInt = v_409.toInt := (congrArg Int32.toInt t_443).trans rfl
                      have cs_445 : csF (rB S x) (pI S 1228 x).toInt.toNat 4 (nxT (rB S x) (pI S 1228 x).toInt.toNat t0) = (0, nxT (rB S x) (pI S 1228 x).toInt.toNat t_95) := er_98.trans (cit_y ((isR_co rg_97).mp f_167.1.2))
                      have ea_442 : rueF (rB S x) (pI S 1228 x).toInt.toNat (zA S x 1220 4).toNat t0 = acF (rB S x) (pI S 1228 x).toInt.toNat (csF (rB S x) (pI S 1228 x).toInt.toNat 4 (nxT (rB S x) (pI S 1228 x).toInt.toNat t0)).2 := (cit_n (fun h => h.1 ((isR_if hp_0).mp f_14.2))).trans ((cit_n (by omega)).trans ((cit_y ((isR_if hp_0).mp f_14.2)).trans (cit_y (by rw [cs_445]))))
                      rw [cs_445] at ea_442
                      have ea_442b : rueF (rB S x) (pI S 1228 x).toInt.toNat (zA S x 1220 4).toNat t0 = acF (rB S x) (pI S 1228 x).toInt.toNat (nxT (rB S x) (pI S 1228 x).toInt.toNat t_95) := ea_442
                      have ec_446 : acF (rB S x) (pI S 1228 x).toInt.toNat (nxT (rB S x) (pI S 1228 x).toInt.toNat t_95) = (1, (nxT (rB S x) (pI S 1228 x).toInt.toNat t_95)) := (cit_n (by omega)).trans ((cit_y (by omega)).trans (cit_n hd_299))
                      rw [hQQ]
                      exact ret_z X hw hr hlocks (Nat.le_of_ble_eq_true rfl) (Nat.le_of_ble_eq_true rfl) (by decide) ⟨hO_436, (by exfalso; have h := f_405.1.1; omega)⟩ dX12_rule_191
                    · have z_b_447 := trivial
                      rw [rB_fr hG ha_x hO_393.fr (by decide +kernel)] at f_405
                      obtain ⟨v_449, ev_449⟩ : ∃ v, pI S_402 1230 x = v := ⟨_, rfl⟩
                      have rg_451 := And.intro (z_lo v_449) (z_hi v_449)
                      have pz_452 : (pI S_402 1230 x).toInt = v_449.toInt := by rw [ev_449]
                      have pz_453 : (pI S_402 1230 x).toInt = v_449.toInt := (congrArg Int32.toInt ev_449).trans rfl
                      refine lv_if_ne (tgt := 180) X.1 X.2.1 dX12_rule_175 (by decide) (fun c_454 => absurd c_454 (by decide)) (fun c_454 => ?_)
                      refine lv_iconst (v := 0) X.1 X.2.1 dX12_rule_178 (by decide) ?_
                      have pz_456 : (pI S_402 1230 x).toInt = v_449.toInt := (congrArg Int32.toInt ev_449).trans rfl
                      have cs_457 : csF (rB S x) (pI S 1228 x).toInt.toNat 4 (nxT (rB S x) (pI S 1228 x).toInt.toNat t0) = (0, nxT (rB S x) (pI S 1228 x).toInt.toNat t_95) := er_98.trans (cit_y ((isR_co rg_97).mp f_167.1.2))
                      have ea_455 : rueF (rB S x) (pI S 1228 x).toInt.toNat (zA S x 1220 4).toNat t0 = acF (rB S x) (pI S 1228 x).toInt.toNat (csF (rB S x) (pI S 1228 x).toInt.toNat 4 (nxT (rB S x) (pI S 1228 x).toInt.toNat t0)).2 := (cit_n (fun h => h.1 ((isR_if hp_0).mp f_14.2))).trans ((cit_n (by omega)).trans ((cit_y ((isR_if hp_0).mp f_14.2)).trans (cit_y (by rw [cs_457]))))
                      rw [cs_457] at ea_455
                      have ea_455b : rueF (rB S x) (pI S 1228 x).toInt.toNat (zA S x 1220 4).toNat t0 = acF (rB S x) (pI S 1228 x).toInt.toNat (nxT (rB S x) (pI S 1228 x).toInt.toNat t_95) := ea_455
                      have ec_458 : acF (rB S x) (pI S 1228 x).toInt.toNat (nxT (rB S x) (pI S 1228 x).toInt.toNat t_95) = (1, (nxT (rB S x) (pI S 1228 x).toInt.toNat t_95)) := (cit_n (by omega)).trans ((cit_y (by omega)).trans (cit_n hd_299))
                      rw [hQQ]
                      exact ret_z X hw hr hlocks (Nat.le_of_ble_eq_true rfl) (Nat.le_of_ble_eq_true rfl) (by decide) ⟨hO_404, Or.inr ⟨by rw [ea_455b, ec_458]; exact ⟨(by decide : (1 : Int) ≠ 0), by have h := f_405.2; show _ = (1 : Int); omega⟩, rfl⟩⟩ dX12_rule_179
              · have z_b_459 := trivial
                have k_460 : rr_181.toInt = (-1) := z_eq rfl ti_m1 c_186
                refine lv_aload_n X.1 X.2.1 dX12_rule_132 rfl (lv_at hl 3 rfl) ?_
                refine lv_iconst (v := 1) X.1 X.2.1 dX12_rule_133 (by decide) ?_
                have pz_461 : (pI S_164 1230 x).toInt = v_171.toInt := (congrArg Int32.toInt ev_171).trans rfl
                refine k_i (rm := { frames := 1, cells := 0, slots := 0, locals := 48 }) (av := [.ref x, .int 1]) X hw (va_runV (As := [.int 1]) (rest := []) (cfix X) (k_X12_wrong2 l G cy κ S_164 _ x (1) (1) hO_166.1 t_179 ti_1) (cwV 1 X.2.2.2.1 gX12_rule_X12_wrong rfl rfl rfl (by decide +kernel) ⟨Nat.le_of_ble_eq_true rfl, Nat.le_of_ble_eq_true rfl⟩) (pre_V X hw _ t_179 rfl (by decide) rfl) rfl rfl hl.1 rfl (lv_room (Nat.le_of_ble_eq_true rfl)) dX12_rule_134 ⟨Nat.le_of_ble_eq_true rfl, Nat.le_of_ble_eq_true rfl⟩) 0 0 (Nat.le_of_ble_eq_true rfl) (Nat.le_of_ble_eq_true rfl) (fun rr_462 S_463 H locs hp hw hfr hnw => ?_)
                obtain ⟨hk_464, hp⟩ := hp
                have hO_465 : Ok MRt S S_463 := hO_166.call hk_464 (by decide +kernel)
                rcases hp with ⟨f_466, er_467⟩ | ⟨f_466, er_467⟩ <;> subst er_467
                · have z_b_468 := trivial
                  exact f_466.elim
                · have z_b_469 := trivial
                  obtain ⟨v_472, ev_472⟩ : ∃ v, pI S_463 1230 x = v := ⟨_, rfl⟩
                  have rg_474 := And.intro (z_lo v_472) (z_hi v_472)
                  have pz_475 : (pI S_463 1230 x).toInt = v_472.toInt := by rw [ev_472]
                  have pz_476 : (pI S_463 1230 x).toInt = v_472.toInt := (congrArg Int32.toInt ev_472).trans rfl
                  have cs_477 : csF (rB S x) (pI S 1228 x).toInt.toNat 4 (nxT (rB S x) (pI S 1228 x).toInt.toNat t0) = (0, nxT (rB S x) (pI S 1228 x).toInt.toNat t_95) := er_98.trans (cit_y ((isR_co rg_97).mp f_167.1.2))
                  have ea_470 : rueF (rB S x) (pI S 1228 x).toInt.toNat (zA S x 1220 4).toNat t0 = acF (rB S x) (pI S 1228 x).toInt.toNat (csF (rB S x) (pI S 1228 x).toInt.toNat 4 (nxT (rB S x) (pI S 1228 x).toInt.toNat t0)).2 := (cit_n (fun h => h.1 ((isR_if hp_0).mp f_14.2))).trans ((cit_n (by omega)).trans ((cit_y ((isR_if hp_0).mp f_14.2)).trans (cit_y (by rw [cs_477]))))
                  rw [cs_477] at ea_470
                  have ea_470b : rueF (rB S x) (pI S 1228 x).toInt.toNat (zA S x 1220 4).toNat t0 = acF (rB S x) (pI S 1228 x).toInt.toNat (nxT (rB S x) (pI S 1228 x).toInt.toNat t_95) := ea_470
                  have ec_478 : acF (rB S x) (pI S 1228 x).toInt.toNat (nxT (rB S x) (pI S 1228 x).toInt.toNat t_95) = (1, (nxT (rB S x) (pI S 1228 x).toInt.toNat t_95)) := cit_y (by omega)
                  rw [hQQ]
                  exact ret_z X hw hr hlocks (Nat.le_of_ble_eq_true rfl) (Nat.le_of_ble_eq_true rfl) (by decide) ⟨hO_465, Or.inr ⟨by rw [ea_470b, ec_478]; exact ⟨(by decide : (1 : Int) ≠ 0), by show _ = (1 : Int); omega⟩, rfl⟩⟩ dX12_rule_137
            · have z_b_479 := trivial
              rw [rB_fr hG ha_x hO_T_82.fr (by decide +kernel)] at f_167
              obtain ⟨v_481, ev_481⟩ : ∃ v, pI S_164 1230 x = v := ⟨_, rfl⟩
              have rg_483 := And.intro (z_lo v_481) (z_hi v_481)
              have pz_484 : (pI S_164 1230 x).toInt = v_481.toInt := by rw [ev_481]
              have pz_485 : (pI S_164 1230 x).toInt = v_481.toInt := (congrArg Int32.toInt ev_481).trans rfl
              refine lv_if_ne (tgt := 119) X.1 X.2.1 dX12_rule_114 (by decide) (fun c_486 => absurd c_486 (by decide)) (fun c_486 => ?_)
              refine lv_iconst (v := 0) X.1 X.2.1 dX12_rule_117 (by decide) ?_
              have pz_488 : (pI S_164 1230 x).toInt = v_481.toInt := (congrArg Int32.toInt ev_481).trans rfl
              have cs_489 : csF (rB S x) (pI S 1228 x).toInt.toNat 4 (nxT (rB S x) (pI S 1228 x).toInt.toNat t0) = (1, u_96) := er_98.trans ((cit_n (fun h => f_167.1 ⟨by omega, (isR_co rg_97).mpr h⟩)).trans (cit_n (fun h => f_106 ⟨by omega, (isR_and rg_97).mpr h⟩)))
              have ea_487 : rueF (rB S x) (pI S 1228 x).toInt.toNat (zA S x 1220 4).toNat t0 = ((csF (rB S x) (pI S 1228 x).toInt.toNat 4 (nxT (rB S x) (pI S 1228 x).toInt.toNat t0)).1, t0) := (cit_n (fun h => h.1 ((isR_if hp_0).mp f_14.2))).trans ((cit_n (by omega)).trans ((cit_y ((isR_if hp_0).mp f_14.2)).trans (cit_n (by rw [cs_489]; exact (by decide : (1 : Int) ≠ 0)))))
              rw [cs_489] at ea_487
              rw [hQQ]
              exact ret_z X hw hr hlocks (Nat.le_of_ble_eq_true rfl) (Nat.le_of_ble_eq_true rfl) (by decide) ⟨hO_166, Or.inr ⟨by rw [ea_487]; exact ⟨(by decide : (1 : Int) ≠ 0), by have h := f_167.2; show _ = (1 : Int); omega⟩, rfl⟩⟩ dX12_rule_118
        obtain ⟨v_491, ev_491⟩ : ∃ v, pI S_72 1230 x = v := ⟨_, rfl⟩
        have rg_493 := And.intro (z_lo v_491) (z_hi v_491)
        have pz_494 : (pI S_72 1230 x).toInt = v_491.toInt := by rw [ev_491]
        have pz_495 : (pI S_72 1230 x).toInt = v_491.toInt := (congrArg Int32.toInt ev_491).trans rfl
        have t_496 : At S_72 x 12 := hk_73.fr.at t_69
        exact L_81 _ _ _ _ _  rfl hw t_496 hO_74 zc_86 ⟨_, _, f_75.2.1, (csF_ce (j := 3) f_75.1).trans (by rw [show (4 - zA S_72 x 1223 ((48 + v_28.toInt)).toNat).toNat = 3 by omega])⟩ (by omega) (lv_sub hl [0, 1, 2, 3] rfl)
      · have z_b_497 := trivial
        rw [rB_fr hG ha_x hO_59.fr (by decide +kernel), hO_59.fr.I' (g := 1228) (by decide +kernel) ha_x rfl] at f_75
        refine lv_if_ne (tgt := 83) X.1 X.2.1 dX12_rule_78 (by decide) (fun c_498 => absurd c_498 (by decide)) (fun c_498 => ?_)
        refine lv_iconst (v := 0) X.1 X.2.1 dX12_rule_81 (by decide) ?_
        obtain ⟨v_501, ev_501⟩ : ∃ v, pI S_72 1230 x = v := ⟨_, rfl⟩
        have rg_503 := And.intro (z_lo v_501) (z_hi v_501)
        have pz_504 : (pI S_72 1230 x).toInt = v_501.toInt := by rw [ev_501]
        have pz_505 : (pI S_72 1230 x).toInt = v_501.toInt := (congrArg Int32.toInt ev_501).trans rfl
        have cb_506 := csF_bad (c := zA S_57 x 1223 ((48 + v_28.toInt)).toNat) (by omega) (by omega) f_75
        rw [show (4 - zA S_57 x 1223 ((48 + v_28.toInt)).toNat).toNat = 4 by omega] at cb_506
        have ea_499 : rueF (rB S x) (pI S 1228 x).toInt.toNat (zA S x 1220 4).toNat t0 = ((csF (rB S x) (pI S 1228 x).toInt.toNat 4 (nxT (rB S x) (pI S 1228 x).toInt.toNat t0)).1, t0) := (cit_n (fun h => h.1 ((isR_if hp_0).mp f_14.2))).trans ((cit_n (by omega)).trans ((cit_y ((isR_if hp_0).mp f_14.2)).trans (cit_n cb_506.1)))
        rw [hQQ]
        exact ret_z X hw hr hlocks (Nat.le_of_ble_eq_true rfl) (Nat.le_of_ble_eq_true rfl) (by decide) ⟨hO_74, Or.inr ⟨by rw [ea_499]; exact cb_506, rfl⟩⟩ dX12_rule_82
    · have z_b_507 := trivial
      have k_508 : v_28.toInt = 12 := z_eq rfl ti_12 c_31
      refine lv_aload_n X.1 X.2.1 dX12_rule_42 rfl (lv_at hl 2 rfl) ?_
      refine lv_iconst (v := 2) X.1 X.2.1 dX12_rule_43 (by decide) ?_
      have pz_509 : (pI S 1230 x).toInt = v_1.toInt := (congrArg Int32.toInt ev_1).trans rfl
      refine k_i (rm := { frames := 1, cells := 0, slots := 0, locals := 48 }) (av := [.ref x, .int 2]) X hw (va_runV (As := [.int 2]) (rest := []) (cfix X) (k_X12_wrong2 l G cy κ S _ x (2) (2) hO.1 ha_x ti_2) (cwV 1 X.2.2.2.1 gX12_rule_X12_wrong rfl rfl rfl (by decide +kernel) ⟨Nat.le_of_ble_eq_true rfl, Nat.le_of_ble_eq_true rfl⟩) (pre_V X hw _ ha_x rfl (by decide) rfl) rfl rfl hl.1 rfl (lv_room (Nat.le_of_ble_eq_true rfl)) dX12_rule_44 ⟨Nat.le_of_ble_eq_true rfl, Nat.le_of_ble_eq_true rfl⟩) 0 0 (Nat.le_of_ble_eq_true rfl) (Nat.le_of_ble_eq_true rfl) (fun rr_510 S_511 H locs hp hw hfr hnw => ?_)
      obtain ⟨hk_512, hp⟩ := hp
      have hO_513 : Ok MRt S S_511 := hO.call hk_512 (by decide +kernel)
      rcases hp with ⟨f_514, er_515⟩ | ⟨f_514, er_515⟩ <;> subst er_515
      · have z_b_516 := trivial
        exact f_514.elim
      · have z_b_517 := trivial
        obtain ⟨v_520, ev_520⟩ : ∃ v, pI S_511 1230 x = v := ⟨_, rfl⟩
        have rg_522 := And.intro (z_lo v_520) (z_hi v_520)
        have pz_523 : (pI S_511 1230 x).toInt = v_520.toInt := by rw [ev_520]
        have pz_524 : (pI S_511 1230 x).toInt = v_520.toInt := (congrArg Int32.toInt ev_520).trans rfl
        have ea_518 : rueF (rB S x) (pI S 1228 x).toInt.toNat (zA S x 1220 4).toNat t0 = (2, t0) := (cit_n (fun h => h.1 ((isR_if hp_0).mp f_14.2))).trans (cit_y (by omega))
        rw [hQQ]
        exact ret_z X hw hr hlocks (Nat.le_of_ble_eq_true rfl) (Nat.le_of_ble_eq_true rfl) (by decide) ⟨hO_513, Or.inr ⟨by rw [ea_518]; exact ⟨(by decide : (2 : Int) ≠ 0), by show _ = (2 : Int); omega⟩, rfl⟩⟩ dX12_rule_47
  · have z_b_525 := trivial
    refine lv_istore_n (lv' := [(1, .int 0), (0, .ref x)]) X.1 X.2.1 dX12_rule_7 rfl hl (by decide) rfl (fun ls hl => ?_)
    refine lv_aload_n X.1 X.2.1 dX12_rule_8 rfl (lv_at hl 1 rfl) ?_
    refine lv_ldcwS (q := κ (100 + 22)) X.1 X.2.1 X.2.2.2.2.1 (show vk_R RX12 269 "cast drop find throw cut stop " (κ (100 + 22)) s from (X.2.2.2.2.2.2.2.2.2.2.2.2.2.2 22 (by decide)).1) dX12_rule_9 ?_
    have pz_526 : (pI S 1230 x).toInt = v_1.toInt := (congrArg Int32.toInt ev_1).trans rfl
    refine k_i (rm := { frames := 5, cells := 0, slots := 0, locals := 240 }) (av := [.ref x, .ref (κ (100 + 22))]) X hw (va_runV (As := [.ref (κ (100 + 22))]) (rest := []) (cfix X) (k_X12_which2 l G cy κ S _ x 22 t0 hO.1 ha_x (by decide) hp_0.1 (by first | assumption | omega) (by first | assumption | omega) (by first | assumption | omega) (by decide)) (cwV 1 X.2.2.2.1 gX12_rule_X12_which rfl rfl rfl (by decide +kernel) ⟨Nat.le_of_ble_eq_true rfl, Nat.le_of_ble_eq_true rfl⟩) (pre_V X hw _ ha_x rfl (by decide) rfl) rfl rfl hl.1 rfl (lv_room (Nat.le_of_ble_eq_true rfl)) dX12_rule_12 ⟨Nat.le_of_ble_eq_true rfl, Nat.le_of_ble_eq_true rfl⟩) 0 0 (Nat.le_of_ble_eq_true rfl) (Nat.le_of_ble_eq_true rfl) (fun rr_527 S_528 H locs hp hw hfr hnw => ?_)
    obtain ⟨e2, hp⟩ := hp
    subst e2
    obtain ⟨wh_529, wh_530, wh_531⟩ := hp
    rw [show wI 22 = ALs from rfl] at wh_531
    refine lv_istore_n (lv' := [(2, .int (rr_527)), (1, .int 0), (0, .ref x)]) X.1 X.2.1 dX12_rule_15 rfl hl (by decide) rfl (fun ls hl => ?_)
    refine lv_iload_n X.1 X.2.1 dX12_rule_16 rfl (lv_at hl 1 rfl) ?_
    refine lv_if_ne (tgt := 31) X.1 X.2.1 dX12_rule_17 (by decide) (fun c_532 => absurd c_532 (by decide)) (fun c_532 => ?_)
    refine lv_iload_n X.1 X.2.1 dX12_rule_20 rfl (lv_at hl 0 rfl) ?_
    refine lv_iconst (v := (-1)) X.1 X.2.1 dX12_rule_21 (by decide) ?_
    refine lv_icmp_ne (tgt := 31) X.1 X.2.1 dX12_rule_22 (by decide) (fun c_533 => ?_) (fun c_533 => ?_)
    · have z_b_534 := trivial
      have k_535 : rr_527.toInt ≠ (-1) := z_ne rfl ti_m1 c_533
      refine lv_aload_n X.1 X.2.1 dX12_rule_31 rfl (lv_at hl 2 rfl) ?_
      obtain ⟨q_536, h_537, h_538, h_539⟩ := gQ_12_1220 hO.1 ha_x
      refine r_getR (g := 1220) X hw ha_x rfl 20 h_537 (by decide) rfl inn_X12_rule_12 (by decide) (X.2.2.2.1 (.fieldLink RX12 61 "SilkMillModel" "rules" "[I") (by decide +kernel)) rfl (gv_1220 _ _) dX12_rule_32 ?_
      refine lv_iconst (v := 4) X.1 X.2.1 dX12_rule_35 (by decide) ?_
      refine r_iald X hw h_538 rfl (by rw [h_539]; exact z_ix ti_4 (by omega) (by omega)) dX12_rule_36 ?_
      refine lv_topi (fun v_540 ev_540 => ?_)
      have z_541 := gE_614 hO.1 h_538 (Int32.toNatClampNeg (4)); rw [← ev_540] at z_541
      have ev_540 := ev_540.symm
      have zf_542 : zA S x 1220 4 = v_540.toInt := (zA_of (z := 4) h_537 ti_4 (by omega) ev_540)
      refine lv_bipush (v := 12) X.1 X.2.1 dX12_rule_37 (by decide) ?_
      refine lv_icmp_ne (tgt := 48) X.1 X.2.1 dX12_rule_39 (by decide) (fun c_543 => ?_) (fun c_543 => ?_)
      · have z_b_544 := trivial
        have k_545 : v_540.toInt ≠ 12 := z_ne rfl ti_12 c_543
        refine lv_bipush (v := 48) X.1 X.2.1 dX12_rule_48 (by decide) ?_
        refine lv_aload_n X.1 X.2.1 dX12_rule_50 rfl (lv_at hl 2 rfl) ?_
        refine r_getR (g := 1220) X hw ha_x rfl 20 h_537 (by decide) rfl inn_X12_rule_12 (by decide) (X.2.2.2.1 (.fieldLink RX12 61 "SilkMillModel" "rules" "[I") (by decide +kernel)) rfl (gv_1220 _ _) dX12_rule_51 ?_
        refine lv_iconst (v := 4) X.1 X.2.1 dX12_rule_54 (by decide) ?_
        refine r_iald X hw h_538 rfl (by rw [h_539]; exact z_ix ti_4 (by omega) (by omega)) dX12_rule_55 ?_
        rw [ev_540]
        refine lv_iadd X.1 X.2.1 dX12_rule_56 ?_
        refine lv_topi (fun v_546 ev_546 => ?_)
        have z_547 : v_546.toInt = 48 + v_540.toInt := z_add ev_546 ti_48 rfl (by omega) (by omega)
        refine lv_istore_n (lv' := [(3, .int (v_546)), (2, .int (rr_527)), (1, .int 0), (0, .ref x)]) X.1 X.2.1 dX12_rule_57 rfl hl (by decide) rfl (fun ls hl => ?_)
        refine lv_aload_n X.1 X.2.1 dX12_rule_58 rfl (lv_at hl 3 rfl) ?_
        obtain ⟨q_548, h_549, h_550, h_551⟩ := gQ_12_1223 hO.1 ha_x
        refine r_getR (g := 1223) X hw ha_x rfl 23 h_549 (by decide) rfl inn_X12_rule_12 (by decide) (X.2.2.2.1 (.fieldLink RX12 70 "SilkMillModel" "conditions" "[I") (by decide +kernel)) rfl (gv_1223 _ _) dX12_rule_59 ?_
        refine lv_iload_n X.1 X.2.1 dX12_rule_62 rfl (lv_at hl 0 rfl) ?_
        refine lv_iconst (v := 0) X.1 X.2.1 dX12_rule_63 (by decide) ?_
        refine r_iast X hw h_550 rfl (by rw [h_551]; exact z_ix z_547 (by omega) (by omega)) dX12_rule_64 (fun H locs hw => ?_)
        obtain ⟨S_552, eS_552⟩ : ∃ T, T = sA S q_548 (upd (pA S q_548) (Int32.toNatClampNeg (v_546)) (0)) := ⟨_, rfl⟩
        rw [← eS_552] at hw
        have hO_553 : Ok MRt S S_552 := hO.sA eS_552 h_550 (by decide +kernel) (uA_674 hO.1 h_550 (by rw [ti_0]; omega) (by rw [ti_0]; omega))
        have h_554 : pA S_552 q_548 (Int32.toNatClampNeg (v_546)) = 0 := tA_sAs eS_552
        have t_555 : pR S_552 1223 x = some q_548 := tR_sA eS_552 h_549
        have t_557 : pR S 1223 x = some q_548 := by have h := t_555; rw [eS_552, pR_sA] at h; exact h
        have zs_556 : ∀ j, zA S_552 x 1223 j = if j = ((48 + v_540.toInt)).toNat then 0 else zA S x 1223 j := by have h := zA_sAs eS_552 t_557 ti_0; rw [z_nc z_547 (by omega)] at h; exact h
        have zs_558 := zs_556 ((48 + v_540.toInt)).toNat; rw [if_pos rfl] at zs_558
        refine lv_iload_n X.1 X.2.1 dX12_rule_65 rfl (lv_at hl 2 rfl) ?_
        refine lv_if_eq (tgt := 138) X.1 X.2.1 dX12_rule_66 (by decide) (fun c_559 => ?_) (fun c_559 => absurd c_559 (by decide))
        refine lv_aload_n X.1 X.2.1 dX12_rule_138 rfl (lv_at hl 3 rfl) ?_
        have t_560 : At S_552 x 12 := tAt_sA eS_552 ha_x
        obtain ⟨q_561, h_562, h_563, h_564⟩ := gQ_12_1221 hO_553.1 t_560
        refine r_getR (g := 1221) X hw t_560 rfl 21 h_562 (by decide) rfl inn_X12_rule_12 (by decide) (X.2.2.2.1 (.fieldLink RX12 64 "SilkMillModel" "act" "[I") (by decide +kernel)) rfl (gv_1221 _ _) dX12_rule_139 ?_
        refine lv_iload_n X.1 X.2.1 dX12_rule_142 rfl (lv_at hl 0 rfl) ?_
        refine lv_iload_n X.1 X.2.1 dX12_rule_143 rfl (lv_at hl 1 rfl) ?_
        refine r_iast X hw h_563 rfl (by rw [h_564]; exact z_ix z_547 (by omega) (by omega)) dX12_rule_144 (fun H locs hw => ?_)
        obtain ⟨S_565, eS_565⟩ : ∃ T, T = sA S_552 q_561 (upd (pA S_552 q_561) (Int32.toNatClampNeg (v_546)) (rr_527)) := ⟨_, rfl⟩
        rw [← eS_565] at hw
        have hO_566 : Ok MRt S S_565 := hO_553.sA eS_565 h_563 (by decide +kernel) (uA_634 hO_553.1 h_563)
        have h_567 : pA S_565 q_561 (Int32.toNatClampNeg (v_546)) = rr_527 := tA_sAs eS_565
        refine lv_aload_n X.1 X.2.1 dX12_rule_145 rfl (lv_at hl 3 rfl) ?_
        have t_568 : At S_565 x 12 := tAt_sA eS_565 t_560
        have rg_569 := RGB_sA hp_0 eS_552
        have rg_570 := RGB_sA rg_569 eS_565
        have ok_571 := hdI (RGB_ok hG ha_x rg_570)
        have ok_572 : (t0).2.1 ≤ (t0).2.2 ∧ (t0).2.2 ≤ 400 := ⟨(hdE ok_571).1, (hdE ok_571).2.1⟩
        obtain ⟨v_573, ev_573⟩ : ∃ v, pI S_565 1233 x = v := ⟨_, rfl⟩
        have rg_574 := gI_12_1233 hO_566.1 t_568; rw [ev_573] at rg_574
        have pz_575 : (pI S_565 1233 x).toInt = v_573.toInt := by rw [ev_573]
        have pz_576 : (pI S_565 1233 x).toInt = v_573.toInt := (congrArg Int32.toInt ev_573).trans rfl
        refine k_v (rm := { frames := 2, cells := 0, slots := 0, locals := 96 }) (av := [.ref x]) X hw (va_runV (As := []) (rest := []) (cfix X) (k_X12_token2 l G cy κ S_565 _ x hO_566.1 t_568) (cwV 0 X.2.2.2.1 gX12_rule_X12_token rfl rfl rfl (by decide +kernel) ⟨Nat.le_of_ble_eq_true rfl, Nat.le_of_ble_eq_true rfl⟩) (pre_V X hw _ t_568 rfl (by decide) rfl) rfl rfl hl.1 rfl (lv_room (Nat.le_of_ble_eq_true rfl)) dX12_rule_146 ⟨Nat.le_of_ble_eq_true rfl, Nat.le_of_ble_eq_true rfl⟩) 0 0 (Nat.le_of_ble_eq_true rfl) (Nat.le_of_ble_eq_true rfl) (fun S_578 H locs hp hw hfr hnw => ?_)
        obtain ⟨hk_579, hp⟩ := hp
        have hO_580 : Ok MRt S S_578 := hO_566.call hk_579 (by decide +kernel)
        have rg_581 : RGB (rB S x) (pI S 1228 x).toInt.toNat S_578 x (nxT (rB S x) (pI S 1228 x).toInt.toNat t0) := RGB_adv rg_570 (rB_fr hG ha_x hO_566.fr (by decide +kernel)) (by rw [hO_566.fr.I' (g := 1228) (by decide +kernel) ha_x rfl]) (by omega) hp
        have ok_582 := hdI (RGB_ok hG ha_x rg_581)
        have ok_583 : ((nxT (rB S x) (pI S 1228 x).toInt.toNat t0)).2.1 ≤ ((nxT (rB S x) (pI S 1228 x).toInt.toNat t0)).2.2 ∧ ((nxT (rB S x) (pI S 1228 x).toInt.toNat t0)).2.2 ≤ 400 := ⟨(hdE ok_582).1, (hdE ok_582).2.1⟩
        refine lv_aload_n X.1 X.2.1 dX12_rule_149 rfl (lv_at hl 3 rfl) ?_
        have t_584 : At S_578 x 12 := hk_579.fr.at t_568
        obtain ⟨q_585, h_586, h_587, h_588⟩ := gQ_12_1222 hO_580.1 t_584
        refine r_getR (g := 1222) X hw t_584 rfl 22 h_586 (by decide) rfl inn_X12_rule_12 (by decide) (X.2.2.2.1 (.fieldLink RX12 67 "SilkMillModel" "actNumber" "[I") (by decide +kernel)) rfl (gv_1222 _ _) dX12_rule_150 ?_
        refine lv_iload_n X.1 X.2.1 dX12_rule_153 rfl (lv_at hl 0 rfl) ?_
        refine lv_iload_n X.1 X.2.1 dX12_rule_154 rfl (lv_at hl 1 rfl) ?_
        refine lv_iconst (v := 5) X.1 X.2.1 dX12_rule_155 (by decide) ?_
        refine lv_icmp_ne (tgt := 166) X.1 X.2.1 dX12_rule_156 (by decide) (fun c_589 => ?_) (fun c_589 => ?_)
        · have z_b_590 := trivial
          have k_591 : rr_527.toInt ≠ 5 := z_ne rfl ti_5 c_589
          refine lv_iconst (v := 0) X.1 X.2.1 dX12_rule_166 (by decide) ?_
          refine r_iast X hw h_587 rfl (by rw [h_588]; exact z_ix z_547 (by omega) (by omega)) dX12_rule_167 (fun H locs hw => ?_)
          obtain ⟨S_592, eS_592⟩ : ∃ T, T = sA S_578 q_585 (upd (pA S_578 q_585) (Int32.toNatClampNeg (v_546)) (0)) := ⟨_, rfl⟩
          rw [← eS_592] at hw
          have hO_593 : Ok MRt S S_592 := hO_580.sA eS_592 h_587 (by decide +kernel) (uA_654 hO_580.1 h_587)
          have h_594 : pA S_592 q_585 (Int32.toNatClampNeg (v_546)) = 0 := tA_sAs eS_592
          refine lv_aload_n X.1 X.2.1 dX12_rule_168 rfl (lv_at hl 3 rfl) ?_
          refine lv_ldcwS (q := κ (100 + 25)) X.1 X.2.1 X.2.2.2.2.1 (show vk_R RX12 281 ";" (κ (100 + 25)) s from (X.2.2.2.2.2.2.2.2.2.2.2.2.2.2 25 (by decide)).1) dX12_rule_169 ?_
          have rg_595 := RGB_sA rg_581 eS_592
          have t_596 : pI S_552 1230 x = v_1 := tI_sA eS_552 ev_1
          have t_597 : pI S_565 1230 x = v_1 := tI_sA eS_565 t_596
          have t_598 : pI S_578 1230 x = v_1 := hk_579.fr.I' (by decide +kernel) t_568 t_597
          have t_599 : pI S_592 1230 x = v_1 := tI_sA eS_592 t_598
          have pz_600 : (pI S_592 1230 x).toInt = v_1.toInt := (congrArg Int32.toInt t_599).trans rfl
          have t_601 : At S_592 x 12 := tAt_sA eS_592 t_584
          have pz_602 : (pI S_592 1230 x).toInt = v_1.toInt := (congrArg Int32.toInt t_599).trans rfl
          refine k_i (rm := { frames := 6, cells := 0, slots := 0, locals := 288 }) (av := [.ref x, .ref (κ (100 + 25))]) X hw (va_runV (As := [.ref (κ (100 + 25))]) (rest := []) (cfix X) (k_X12_must2 l G cy κ S_592 _ x 25 (nxT (rB S x) (pI S 1228 x).toInt.toNat t0) hO_593.1 t_601 (by decide) (by rw [rB_fr hG ha_x hO_593.fr (by decide +kernel), hO_593.fr.I' (g := 1228) (by decide +kernel) ha_x rfl]; exact rg_595)) (cwV 1 X.2.2.2.1 gX12_rule_X12_must rfl rfl rfl (by decide +kernel) ⟨Nat.le_of_ble_eq_true rfl, Nat.le_of_ble_eq_true rfl⟩) (pre_V X hw _ t_601 rfl (by decide) rfl) rfl rfl hl.1 rfl (lv_room (Nat.le_of_ble_eq_true rfl)) dX12_rule_172 ⟨Nat.le_of_ble_eq_true rfl, Nat.le_of_ble_eq_true rfl⟩) 0 0 (Nat.le_of_ble_eq_true rfl) (Nat.le_of_ble_eq_true rfl) (fun rr_603 S_604 H locs hp hw hfr hnw => ?_)
          obtain ⟨hk_605, hp⟩ := hp
          have hO_606 : Ok MRt S S_604 := hO_593.call hk_605 (by decide +kernel)
          rcases hp with ⟨f_607, er_608⟩ | ⟨f_607, er_608⟩ <;> subst er_608
          · have z_b_609 := trivial
            rw [rB_fr hG ha_x hO_593.fr (by decide +kernel), hO_593.fr.I' (g := 1228) (by decide +kernel) ha_x rfl] at f_607
            obtain ⟨v_611, ev_611⟩ : ∃ v, pI S_604 1230 x = v := ⟨_, rfl⟩
            have rg_613 := And.intro (z_lo v_611) (z_hi v_611)
            have pz_614 : (pI S_604 1230 x).toInt = v_611.toInt := by rw [ev_611]
            have pz_615 : (pI S_604 1230 x).toInt = v_611.toInt := (congrArg Int32.toInt ev_611).trans rfl
            have ok_616 := hdI (RGB_ok hG ha_x f_607.2.1)
            have ok_617 : ((nxT (rB S x) (pI S 1228 x).toInt.toNat (nxT (rB S x) (pI S 1228 x).toInt.toNat t0))).2.1 ≤ ((nxT (rB S x) (pI S 1228 x).toInt.toNat (nxT (rB S x) (pI S 1228 x).toInt.toNat t0))).2.2 ∧ ((nxT (rB S x) (pI S 1228 x).toInt.toNat (nxT (rB S x) (pI S 1228 x).toInt.toNat t0))).2.2 ≤ 400 := ⟨(hdE ok_616).1, (hdE ok_616).2.1⟩
            refine lv_if_ne (tgt := 180) X.1 X.2.1 dX12_rule_175 (by decide) (fun c_618 => ?_) (fun c_618 => absurd c_618 (by decide))
            refine lv_aload_n X.1 X.2.1 dX12_rule_180 rfl (lv_at hl 3 rfl) ?_
            have t_619 : At S_604 x 12 := hk_605.fr.at t_601
            have t_620 : pR S_552 1220 x = some q_536 := tR_sA eS_552 h_537
            have t_621 : pR S_565 1220 x = some q_536 := tR_sA eS_565 t_620
            have t_622 : pR S_578 1220 x = some q_536 := hk_579.fr.R' (by decide +kernel) t_568 t_621
            have t_623 : pR S_592 1220 x = some q_536 := tR_sA eS_592 t_622
            have t_624 : pR S_604 1220 x = some q_536 := hk_605.fr.R' (by decide +kernel) t_601 t_623
            refine r_getR (g := 1220) X hw t_619 rfl 20 t_624 (by decide) rfl inn_X12_rule_12 (by decide) (X.2.2.2.1 (.fieldLink RX12 61 "SilkMillModel" "rules" "[I") (by decide +kernel)) rfl (gv_1220 _ _) dX12_rule_181 ?_
            refine lv_iconst (v := 4) X.1 X.2.1 dX12_rule_184 (by decide) ?_
            refine lv_dup2_11 X.1 X.2.1 dX12_rule_185 rfl rfl ?_
            have t_625 : At S_552 q_536 614 := tAt_sA eS_552 h_538
            have t_626 : At S_565 q_536 614 := tAt_sA eS_565 t_625
            have t_627 : At S_578 q_536 614 := hk_579.fr.at t_626
            have t_628 : At S_592 q_536 614 := tAt_sA eS_592 t_627
            have t_629 : At S_604 q_536 614 := hk_605.fr.at t_628
            have t_630 : pN S_552 q_536 = 5 := tN_sA eS_552 h_539
            clear h_539
            have t_631 : pN S_565 q_536 = 5 := tN_sA eS_565 t_630
            clear t_630
            have t_633 : At S_552 q_536 614 := tAt_sA eS_552 h_538
            have t_634 : At S_565 q_536 614 := tAt_sA eS_565 t_633
            have t_632 : pN S_578 q_536 = 5 := hk_579.fr.N t_634 t_631
            clear t_631
            have t_635 : pN S_592 q_536 = 5 := tN_sA eS_592 t_632
            clear t_632
            have t_637 : At S_578 q_536 614 := hk_579.fr.at t_634
            have t_638 : At S_592 q_536 614 := tAt_sA eS_592 t_637
            have t_636 : pN S_604 q_536 = 5 := hk_605.fr.N t_638 t_635
            clear t_635
            refine r_iald X hw t_629 rfl (by rw [t_636]; exact z_ix ti_4 (by omega) (by omega)) dX12_rule_186 ?_
            have t_639 : pA S_552 q_536 (Int32.toNatClampNeg (4)) = v_540 := tA_sA eS_552 (At_ne h_538 h_550 (by decide)) ev_540
            have t_641 : At S_552 q_536 614 := tAt_sA eS_552 h_538
            have t_640 : pA S_565 q_536 (Int32.toNatClampNeg (4)) = v_540 := tA_sA eS_565 (At_ne t_641 h_563 (by decide)) t_639
            have t_642 : pA S_578 q_536 (Int32.toNatClampNeg (4)) = v_540 := (congrFun (hk_579.fr.A' (by decide +kernel) t_634) _).trans t_640
            have t_644 : At S_578 q_536 614 := hk_579.fr.at t_634
            have t_643 : pA S_592 q_536 (Int32.toNatClampNeg (4)) = v_540 := tA_sA eS_592 (At_ne t_644 h_587 (by decide)) t_642
            have t_645 : pA S_604 q_536 (Int32.toNatClampNeg (4)) = v_540 := (congrFun (hk_605.fr.A' (by decide +kernel) t_638) _).trans t_643
            rw [t_645]
            refine lv_iconst (v := 1) X.1 X.2.1 dX12_rule_187 (by decide) ?_
            refine lv_iadd X.1 X.2.1 dX12_rule_188 ?_
            refine lv_topi (fun v_646 ev_646 => ?_)
            have z_647 : v_646.toInt = v_540.toInt + 1 := z_add ev_646 rfl ti_1 (by omega) (by omega)
            refine r_iast X hw t_629 rfl (by rw [t_636]; exact z_ix ti_4 (by omega) (by omega)) dX12_rule_189 (fun H locs hw => ?_)
            obtain ⟨S_648, eS_648⟩ : ∃ T, T = sA S_604 q_536 (upd (pA S_604 q_536) (Int32.toNatClampNeg (4)) (v_646)) := ⟨_, rfl⟩
            rw [← eS_648] at hw
            have hO_649 : Ok MRt S S_648 := hO_606.sA eS_648 t_629 (by decide +kernel) (uA_614 hO_606.1 t_629 (by omega) (by omega))
            have h_650 : pA S_648 q_536 (Int32.toNatClampNeg (4)) = v_646 := tA_sAs eS_648
            have t_651 : pR S_648 1220 x = some q_536 := tR_sA eS_648 t_624
            have t_653 : pR S_604 1220 x = some q_536 := by have h := t_651; rw [eS_648, pR_sA] at h; exact h
            have zs_652 : ∀ j, zA S_648 x 1220 j = if j = (4 : Int).toNat then (v_540.toInt + 1) else zA S_604 x 1220 j := by have h := zA_sAs eS_648 t_653 z_647; rw [z_nc ti_4 (by omega)] at h; exact h
            have zs_654 : zA S_648 x 1220 4 = (v_540.toInt + 1) := by have h := zs_652 4; rw [if_pos (by decide)] at h; exact h
            refine lv_iconst (v := 1) X.1 X.2.1 dX12_rule_190 (by decide) ?_
            have t_656 : pI S_648 1230 x = v_611 := tI_sA eS_648 ev_611
            have pz_657 : (pI S_648 1230 x).toInt = v_611.toInt := (congrArg Int32.toInt t_656).trans rfl
            have ea_655 : rueF (rB S x) (pI S 1228 x).toInt.toNat (zA S x 1220 4).toNat t0 = acF (rB S x) (pI S 1228 x).toInt.toNat t0 := (cit_n (fun h => by have h2 := h.2; omega)).trans ((cit_n (by omega)).trans ((cit_n (fun h => f_14 ⟨by omega, (isR_if hp_0).mpr h⟩))))
            have ec_658 : acF (rB S x) (pI S 1228 x).toInt.toNat t0 = (0, nxT (rB S x) (pI S 1228 x).toInt.toNat (nxT (rB S x) (pI S 1228 x).toInt.toNat t0)) := (cit_n (by omega)).trans ((cit_n (by omega)).trans (cit_y ((isR_se rg_595).mp f_607.1.2)))
            have rg_659 := RGB_sA f_607.2.1 eS_648
            rw [hQQ]
            exact ret_z X hw hr hlocks (Nat.le_of_ble_eq_true rfl) (Nat.le_of_ble_eq_true rfl) (by decide) ⟨hO_649, Or.inl ⟨by rw [ea_655, ec_658]; exact ⟨rfl, rg_659, by omega, by omega, by omega⟩, rfl⟩⟩ dX12_rule_191
          · have z_b_660 := trivial
            rw [rB_fr hG ha_x hO_593.fr (by decide +kernel)] at f_607
            obtain ⟨v_662, ev_662⟩ : ∃ v, pI S_604 1230 x = v := ⟨_, rfl⟩
            have rg_664 := And.intro (z_lo v_662) (z_hi v_662)
            have pz_665 : (pI S_604 1230 x).toInt = v_662.toInt := by rw [ev_662]
            have pz_666 : (pI S_604 1230 x).toInt = v_662.toInt := (congrArg Int32.toInt ev_662).trans rfl
            refine lv_if_ne (tgt := 180) X.1 X.2.1 dX12_rule_175 (by decide) (fun c_667 => absurd c_667 (by decide)) (fun c_667 => ?_)
            refine lv_iconst (v := 0) X.1 X.2.1 dX12_rule_178 (by decide) ?_
            have pz_669 : (pI S_604 1230 x).toInt = v_662.toInt := (congrArg Int32.toInt ev_662).trans rfl
            have ea_668 : rueF (rB S x) (pI S 1228 x).toInt.toNat (zA S x 1220 4).toNat t0 = acF (rB S x) (pI S 1228 x).toInt.toNat t0 := (cit_n (fun h => by have h2 := h.2; omega)).trans ((cit_n (by omega)).trans ((cit_n (fun h => f_14 ⟨by omega, (isR_if hp_0).mpr h⟩))))
            have ec_670 : acF (rB S x) (pI S 1228 x).toInt.toNat t0 = (1, (nxT (rB S x) (pI S 1228 x).toInt.toNat t0)) := (cit_n (by omega)).trans ((cit_n (by omega)).trans (cit_n (fun h => f_607.1 ⟨by omega, (isR_se rg_595).mpr h⟩)))
            rw [hQQ]
            exact ret_z X hw hr hlocks (Nat.le_of_ble_eq_true rfl) (Nat.le_of_ble_eq_true rfl) (by decide) ⟨hO_606, Or.inr ⟨by rw [ea_668, ec_670]; exact ⟨(by decide : (1 : Int) ≠ 0), by have h := f_607.2; show _ = (1 : Int); omega⟩, rfl⟩⟩ dX12_rule_179
        · have z_b_671 := trivial
          have k_672 : rr_527.toInt = 5 := z_eq rfl ti_5 c_589
          refine lv_aload_n X.1 X.2.1 dX12_rule_159 rfl (lv_at hl 3 rfl) ?_
          have t_673 : pI S_552 1230 x = v_1 := tI_sA eS_552 ev_1
          have t_674 : pI S_565 1230 x = v_1 := tI_sA eS_565 t_673
          have t_675 : pI S_578 1230 x = v_1 := hk_579.fr.I' (by decide +kernel) t_568 t_674
          have pz_676 : (pI S_578 1230 x).toInt = v_1.toInt := (congrArg Int32.toInt t_675).trans rfl
          refine k_i (rm := { frames := 3, cells := 0, slots := 0, locals := 144 }) (av := [.ref x]) X hw (va_runV (As := []) (rest := [.int (v_546), .ref q_585]) (cfix X) (k_X12_number2 l G cy κ S_578 _ x (nxT (rB S x) (pI S 1228 x).toInt.toNat t0) hO_580.1 t_584 (by rw [rB_fr hG ha_x hO_580.fr (by decide +kernel), hO_580.fr.I' (g := 1228) (by decide +kernel) ha_x rfl]; exact rg_581)) (cwV 0 X.2.2.2.1 gX12_rule_X12_number rfl rfl rfl (by decide +kernel) ⟨Nat.le_of_ble_eq_true rfl, Nat.le_of_ble_eq_true rfl⟩) (pre_V X hw _ t_584 rfl (by decide) rfl) rfl rfl hl.1 rfl (lv_room (Nat.le_of_ble_eq_true rfl)) dX12_rule_160 ⟨Nat.le_of_ble_eq_true rfl, Nat.le_of_ble_eq_true rfl⟩) 0 0 (Nat.le_of_ble_eq_true rfl) (Nat.le_of_ble_eq_true rfl) (fun rr_677 S_678 H locs hp hw hfr hnw => ?_)
          obtain ⟨hk_679, hp⟩ := hp
          have hO_680 : Ok MRt S S_678 := hO_580.call hk_679 (by decide +kernel)
          obtain ⟨nm_681, nm_682, nm_683, nm_684⟩ := hp
          rw [rB_fr hG ha_x hO_580.fr (by decide +kernel), hO_580.fr.I' (g := 1228) (by decide +kernel) ha_x rfl] at nm_683
          rw [rB_fr hG ha_x hO_580.fr (by decide +kernel), hO_580.fr.I' (g := 1228) (by decide +kernel) ha_x rfl] at nm_684
          by_cases hd_685 : (nxT (rB S x) (pI S 1228 x).toInt.toNat t0).1 = 2
          · have nq_686 := nm_683 hd_685
            have nfk_687 := nq_686.2.2
            obtain ⟨v_689, ev_689⟩ : ∃ v, pI S_678 1230 x = v := ⟨_, rfl⟩
            have rg_691 := And.intro (z_lo v_689) (z_hi v_689)
            have pz_692 : (pI S_678 1230 x).toInt = v_689.toInt := by rw [ev_689]
            have pz_693 : (pI S_678 1230 x).toInt = v_689.toInt := (congrArg Int32.toInt ev_689).trans rfl
            have ok_694 := hdI (RGB_ok hG ha_x nq_686.2.1)
            have ok_695 : ((nxT (rB S x) (pI S 1228 x).toInt.toNat (nxT (rB S x) (pI S 1228 x).toInt.toNat t0))).2.1 ≤ ((nxT (rB S x) (pI S 1228 x).toInt.toNat (nxT (rB S x) (pI S 1228 x).toInt.toNat t0))).2.2 ∧ ((nxT (rB S x) (pI S 1228 x).toInt.toNat (nxT (rB S x) (pI S 1228 x).toInt.toNat t0))).2.2 ≤ 400 := ⟨(hdE ok_694).1, (hdE ok_694).2.1⟩
            refine lv_goto (tgt := 167) X.1 X.2.1 dX12_rule_163 (by decide) ?_
            have t_696 : At S_678 q_585 654 := hk_679.fr.at h_587
            have t_697 : pN S_678 q_585 = 60 := hk_679.fr.N h_587 h_588
            clear h_588
            refine r_iast X hw t_696 rfl (by rw [t_697]; exact z_ix z_547 (by omega) (by omega)) dX12_rule_167 (fun H locs hw => ?_)
            obtain ⟨S_698, eS_698⟩ : ∃ T, T = sA S_678 q_585 (upd (pA S_678 q_585) (Int32.toNatClampNeg (v_546)) (rr_677)) := ⟨_, rfl⟩
            rw [← eS_698] at hw
            have hO_699 : Ok MRt S S_698 := hO_680.sA eS_698 t_696 (by decide +kernel) (uA_654 hO_680.1 t_696)
            have h_700 : pA S_698 q_585 (Int32.toNatClampNeg (v_546)) = rr_677 := tA_sAs eS_698
            refine lv_aload_n X.1 X.2.1 dX12_rule_168 rfl (lv_at hl 3 rfl) ?_
            refine lv_ldcwS (q := κ (100 + 25)) X.1 X.2.1 X.2.2.2.2.1 (show vk_R RX12 281 ";" (κ (100 + 25)) s from (X.2.2.2.2.2.2.2.2.2.2.2.2.2.2 25 (by decide)).1) dX12_rule_169 ?_
            have rg_701 := RGB_sA nq_686.2.1 eS_698
            have t_702 : pI S_698 1230 x = v_689 := tI_sA eS_698 ev_689
            have pz_703 : (pI S_698 1230 x).toInt = v_689.toInt := (congrArg Int32.toInt t_702).trans rfl
            have t_704 : At S_678 x 12 := hk_679.fr.at t_584
            have t_705 : At S_698 x 12 := tAt_sA eS_698 t_704
            have pz_706 : (pI S_698 1230 x).toInt = v_689.toInt := (congrArg Int32.toInt t_702).trans rfl
            refine k_i (rm := { frames := 6, cells := 0, slots := 0, locals := 288 }) (av := [.ref x, .ref (κ (100 + 25))]) X hw (va_runV (As := [.ref (κ (100 + 25))]) (rest := []) (cfix X) (k_X12_must2 l G cy κ S_698 _ x 25 (nxT (rB S x) (pI S 1228 x).toInt.toNat (nxT (rB S x) (pI S 1228 x).toInt.toNat t0)) hO_699.1 t_705 (by decide) (by rw [rB_fr hG ha_x hO_699.fr (by decide +kernel), hO_699.fr.I' (g := 1228) (by decide +kernel) ha_x rfl]; exact rg_701)) (cwV 1 X.2.2.2.1 gX12_rule_X12_must rfl rfl rfl (by decide +kernel) ⟨Nat.le_of_ble_eq_true rfl, Nat.le_of_ble_eq_true rfl⟩) (pre_V X hw _ t_705 rfl (by decide) rfl) rfl rfl hl.1 rfl (lv_room (Nat.le_of_ble_eq_true rfl)) dX12_rule_172 ⟨Nat.le_of_ble_eq_true rfl, Nat.le_of_ble_eq_true rfl⟩) 0 0 (Nat.le_of_ble_eq_true rfl) (Nat.le_of_ble_eq_true rfl) (fun rr_707 S_708 H locs hp hw hfr hnw => ?_)
            obtain ⟨hk_709, hp⟩ := hp
            have hO_710 : Ok MRt S S_708 := hO_699.call hk_709 (by decide +kernel)
            rcases hp with ⟨f_711, er_712⟩ | ⟨f_711, er_712⟩ <;> subst er_712
            · have z_b_713 := trivial
              rw [rB_fr hG ha_x hO_699.fr (by decide +kernel), hO_699.fr.I' (g := 1228) (by decide +kernel) ha_x rfl] at f_711
              obtain ⟨v_715, ev_715⟩ : ∃ v, pI S_708 1230 x = v := ⟨_, rfl⟩
              have rg_717 := And.intro (z_lo v_715) (z_hi v_715)
              have pz_718 : (pI S_708 1230 x).toInt = v_715.toInt := by rw [ev_715]
              have pz_719 : (pI S_708 1230 x).toInt = v_715.toInt := (congrArg Int32.toInt ev_715).trans rfl
              have ok_720 := hdI (RGB_ok hG ha_x f_711.2.1)
              have ok_721 : ((nxT (rB S x) (pI S 1228 x).toInt.toNat (nxT (rB S x) (pI S 1228 x).toInt.toNat (nxT (rB S x) (pI S 1228 x).toInt.toNat t0)))).2.1 ≤ ((nxT (rB S x) (pI S 1228 x).toInt.toNat (nxT (rB S x) (pI S 1228 x).toInt.toNat (nxT (rB S x) (pI S 1228 x).toInt.toNat t0)))).2.2 ∧ ((nxT (rB S x) (pI S 1228 x).toInt.toNat (nxT (rB S x) (pI S 1228 x).toInt.toNat (nxT (rB S x) (pI S 1228 x).toInt.toNat t0)))).2.2 ≤ 400 := ⟨(hdE ok_720).1, (hdE ok_720).2.1⟩
              refine lv_if_ne (tgt := 180) X.1 X.2.1 dX12_rule_175 (by decide) (fun c_722 => ?_) (fun c_722 => absurd c_722 (by decide))
              refine lv_aload_n X.1 X.2.1 dX12_rule_180 rfl (lv_at hl 3 rfl) ?_
              have t_723 : At S_708 x 12 := hk_709.fr.at t_705
              have t_724 : pR S_552 1220 x = some q_536 := tR_sA eS_552 h_537
              have t_725 : pR S_565 1220 x = some q_536 := tR_sA eS_565 t_724
              have t_726 : pR S_578 1220 x = some q_536 := hk_579.fr.R' (by decide +kernel) t_568 t_725
              have t_727 : pR S_678 1220 x = some q_536 := hk_679.fr.R' (by decide +kernel) t_584 t_726
              have t_728 : pR S_698 1220 x = some q_536 := tR_sA eS_698 t_727
              have t_729 : pR S_708 1220 x = some q_536 := hk_709.fr.R' (by decide +kernel) t_705 t_728
              refine r_getR (g := 1220) X hw t_723 rfl 20 t_729 (by decide) rfl inn_X12_rule_12 (by decide) (X.2.2.2.1 (.fieldLink RX12 61 "SilkMillModel" "rules" "[I") (by decide +kernel)) rfl (gv_1220 _ _) dX12_rule_181 ?_
              refine lv_iconst (v := 4) X.1 X.2.1 dX12_rule_184 (by decide) ?_
              refine lv_dup2_11 X.1 X.2.1 dX12_rule_185 rfl rfl ?_
              have t_730 : At S_552 q_536 614 := tAt_sA eS_552 h_538
              have t_731 : At S_565 q_536 614 := tAt_sA eS_565 t_730
              have t_732 : At S_578 q_536 614 := hk_579.fr.at t_731
              have t_733 : At S_678 q_536 614 := hk_679.fr.at t_732
              have t_734 : At S_698 q_536 614 := tAt_sA eS_698 t_733
              have t_735 : At S_708 q_536 614 := hk_709.fr.at t_734
              have t_736 : pN S_552 q_536 = 5 := tN_sA eS_552 h_539
              clear h_539
              have t_737 : pN S_565 q_536 = 5 := tN_sA eS_565 t_736
              clear t_736
              have t_739 : At S_552 q_536 614 := tAt_sA eS_552 h_538
              have t_740 : At S_565 q_536 614 := tAt_sA eS_565 t_739
              have t_738 : pN S_578 q_536 = 5 := hk_579.fr.N t_740 t_737
              clear t_737
              have t_742 : At S_578 q_536 614 := hk_579.fr.at t_740
              have t_741 : pN S_678 q_536 = 5 := hk_679.fr.N t_742 t_738
              clear t_738
              have t_743 : pN S_698 q_536 = 5 := tN_sA eS_698 t_741
              clear t_741
              have t_745 : At S_678 q_536 614 := hk_679.fr.at t_742
              have t_746 : At S_698 q_536 614 := tAt_sA eS_698 t_745
              have t_744 : pN S_708 q_536 = 5 := hk_709.fr.N t_746 t_743
              clear t_743
              refine r_iald X hw t_735 rfl (by rw [t_744]; exact z_ix ti_4 (by omega) (by omega)) dX12_rule_186 ?_
              have t_747 : pA S_552 q_536 (Int32.toNatClampNeg (4)) = v_540 := tA_sA eS_552 (At_ne h_538 h_550 (by decide)) ev_540
              have t_749 : At S_552 q_536 614 := tAt_sA eS_552 h_538
              have t_748 : pA S_565 q_536 (Int32.toNatClampNeg (4)) = v_540 := tA_sA eS_565 (At_ne t_749 h_563 (by decide)) t_747
              have t_750 : pA S_578 q_536 (Int32.toNatClampNeg (4)) = v_540 := (congrFun (hk_579.fr.A' (by decide +kernel) t_740) _).trans t_748
              have t_751 : pA S_678 q_536 (Int32.toNatClampNeg (4)) = v_540 := (congrFun (hk_679.fr.A' (by decide +kernel) t_742) _).trans t_750
              have t_753 : At S_678 q_536 614 := hk_679.fr.at t_742
              have t_752 : pA S_698 q_536 (Int32.toNatClampNeg (4)) = v_540 := tA_sA eS_698 (At_ne t_753 t_696 (by decide)) t_751
              have t_754 : pA S_708 q_536 (Int32.toNatClampNeg (4)) = v_540 := (congrFun (hk_709.fr.A' (by decide +kernel) t_746) _).trans t_752
              rw [t_754]
              refine lv_iconst (v := 1) X.1 X.2.1 dX12_rule_187 (by decide) ?_
              refine lv_iadd X.1 X.2.1 dX12_rule_188 ?_
              refine lv_topi (fun v_755 ev_755 => ?_)
              have z_756 : v_755.toInt = v_540.toInt + 1 := z_add ev_755 rfl ti_1 (by omega) (by omega)
              refine r_iast X hw t_735 rfl (by rw [t_744]; exact z_ix ti_4 (by omega) (by omega)) dX12_rule_189 (fun H locs hw => ?_)
              obtain ⟨S_757, eS_757⟩ : ∃ T, T = sA S_708 q_536 (upd (pA S_708 q_536) (Int32.toNatClampNeg (4)) (v_755)) := ⟨_, rfl⟩
              rw [← eS_757] at hw
              have hO_758 : Ok MRt S S_757 := hO_710.sA eS_757 t_735 (by decide +kernel) (uA_614 hO_710.1 t_735 (by omega) (by omega))
              have h_759 : pA S_757 q_536 (Int32.toNatClampNeg (4)) = v_755 := tA_sAs eS_757
              have t_760 : pR S_757 1220 x = some q_536 := tR_sA eS_757 t_729
              have t_762 : pR S_708 1220 x = some q_536 := by have h := t_760; rw [eS_757, pR_sA] at h; exact h
              have zs_761 : ∀ j, zA S_757 x 1220 j = if j = (4 : Int).toNat then (v_540.toInt + 1) else zA S_708 x 1220 j := by have h := zA_sAs eS_757 t_762 z_756; rw [z_nc ti_4 (by omega)] at h; exact h
              have zs_763 : zA S_757 x 1220 4 = (v_540.toInt + 1) := by have h := zs_761 4; rw [if_pos (by decide)] at h; exact h
              refine lv_iconst (v := 1) X.1 X.2.1 dX12_rule_190 (by decide) ?_
              have t_765 : pI S_757 1230 x = v_715 := tI_sA eS_757 ev_715
              have pz_766 : (pI S_757 1230 x).toInt = v_715.toInt := (congrArg Int32.toInt t_765).trans rfl
              have ea_764 : rueF (rB S x) (pI S 1228 x).toInt.toNat (zA S x 1220 4).toNat t0 = acF (rB S x) (pI S 1228 x).toInt.toNat t0 := (cit_n (fun h => by have h2 := h.2; omega)).trans ((cit_n (by omega)).trans ((cit_n (fun h => f_14 ⟨by omega, (isR_if hp_0).mpr h⟩))))
              have ec_767 : acF (rB S x) (pI S 1228 x).toInt.toNat t0 = (0, nxT (rB S x) (pI S 1228 x).toInt.toNat (nxT (rB S x) (pI S 1228 x).toInt.toNat (nxT (rB S x) (pI S 1228 x).toInt.toNat t0))) := (cit_n (by omega)).trans ((cit_y (by omega)).trans ((cit_y hd_685).trans (cit_y ((isR_se rg_701).mp f_711.1.2))))
              have rg_768 := RGB_sA f_711.2.1 eS_757
              rw [hQQ]
              exact ret_z X hw hr hlocks (Nat.le_of_ble_eq_true rfl) (Nat.le_of_ble_eq_true rfl) (by decide) ⟨hO_758, Or.inl ⟨by rw [ea_764, ec_767]; exact ⟨rfl, rg_768, by omega, by omega, by omega⟩, rfl⟩⟩ dX12_rule_191
            · have z_b_769 := trivial
              rw [rB_fr hG ha_x hO_699.fr (by decide +kernel)] at f_711
              obtain ⟨v_771, ev_771⟩ : ∃ v, pI S_708 1230 x = v := ⟨_, rfl⟩
              have rg_773 := And.intro (z_lo v_771) (z_hi v_771)
              have pz_774 : (pI S_708 1230 x).toInt = v_771.toInt := by rw [ev_771]
              have pz_775 : (pI S_708 1230 x).toInt = v_771.toInt := (congrArg Int32.toInt ev_771).trans rfl
              refine lv_if_ne (tgt := 180) X.1 X.2.1 dX12_rule_175 (by decide) (fun c_776 => absurd c_776 (by decide)) (fun c_776 => ?_)
              refine lv_iconst (v := 0) X.1 X.2.1 dX12_rule_178 (by decide) ?_
              have pz_778 : (pI S_708 1230 x).toInt = v_771.toInt := (congrArg Int32.toInt ev_771).trans rfl
              have ea_777 : rueF (rB S x) (pI S 1228 x).toInt.toNat (zA S x 1220 4).toNat t0 = acF (rB S x) (pI S 1228 x).toInt.toNat t0 := (cit_n (fun h => by have h2 := h.2; omega)).trans ((cit_n (by omega)).trans ((cit_n (fun h => f_14 ⟨by omega, (isR_if hp_0).mpr h⟩))))
              have ec_779 : acF (rB S x) (pI S 1228 x).toInt.toNat t0 = (1, (nxT (rB S x) (pI S 1228 x).toInt.toNat (nxT (rB S x) (pI S 1228 x).toInt.toNat t0))) := (cit_n (by omega)).trans ((cit_y (by omega)).trans ((cit_y hd_685).trans (cit_n (fun h => f_711.1 ⟨by omega, (isR_se rg_701).mpr h⟩))))
              rw [hQQ]
              exact ret_z X hw hr hlocks (Nat.le_of_ble_eq_true rfl) (Nat.le_of_ble_eq_true rfl) (by decide) ⟨hO_710, Or.inr ⟨by rw [ea_777, ec_779]; exact ⟨(by decide : (1 : Int) ≠ 0), by have h := f_711.2; show _ = (1 : Int); omega⟩, rfl⟩⟩ dX12_rule_179
          · have nq_780 := nm_684 hd_685
            have nfk_781 := nq_780.2
            obtain ⟨v_783, ev_783⟩ : ∃ v, pI S_678 1230 x = v := ⟨_, rfl⟩
            have rg_785 := And.intro (z_lo v_783) (z_hi v_783)
            have pz_786 : (pI S_678 1230 x).toInt = v_783.toInt := by rw [ev_783]
            have pz_787 : (pI S_678 1230 x).toInt = v_783.toInt := (congrArg Int32.toInt ev_783).trans rfl
            have ok_788 := hdI (RGB_ok hG ha_x nq_780.1)
            have ok_789 : ((nxT (rB S x) (pI S 1228 x).toInt.toNat t0)).2.1 ≤ ((nxT (rB S x) (pI S 1228 x).toInt.toNat t0)).2.2 ∧ ((nxT (rB S x) (pI S 1228 x).toInt.toNat t0)).2.2 ≤ 400 := ⟨(hdE ok_788).1, (hdE ok_788).2.1⟩
            refine lv_goto (tgt := 167) X.1 X.2.1 dX12_rule_163 (by decide) ?_
            have t_790 : At S_678 q_585 654 := hk_679.fr.at h_587
            have t_791 : pN S_678 q_585 = 60 := hk_679.fr.N h_587 h_588
            clear h_588
            refine r_iast X hw t_790 rfl (by rw [t_791]; exact z_ix z_547 (by omega) (by omega)) dX12_rule_167 (fun H locs hw => ?_)
            obtain ⟨S_792, eS_792⟩ : ∃ T, T = sA S_678 q_585 (upd (pA S_678 q_585) (Int32.toNatClampNeg (v_546)) (rr_677)) := ⟨_, rfl⟩
            rw [← eS_792] at hw
            have hO_793 : Ok MRt S S_792 := hO_680.sA eS_792 t_790 (by decide +kernel) (uA_654 hO_680.1 t_790)
            have h_794 : pA S_792 q_585 (Int32.toNatClampNeg (v_546)) = rr_677 := tA_sAs eS_792
            refine lv_aload_n X.1 X.2.1 dX12_rule_168 rfl (lv_at hl 3 rfl) ?_
            refine lv_ldcwS (q := κ (100 + 25)) X.1 X.2.1 X.2.2.2.2.1 (show vk_R RX12 281 ";" (κ (100 + 25)) s from (X.2.2.2.2.2.2.2.2.2.2.2.2.2.2 25 (by decide)).1) dX12_rule_169 ?_
            have rg_795 := RGB_sA nq_780.1 eS_792
            have t_796 : pI S_792 1230 x = v_783 := tI_sA eS_792 ev_783
            have pz_797 : (pI S_792 1230 x).toInt = v_783.toInt := (congrArg Int32.toInt t_796).trans rfl
            have t_798 : At S_678 x 12 := hk_679.fr.at t_584
            have t_799 : At S_792 x 12 := tAt_sA eS_792 t_798
            have pz_800 : (pI S_792 1230 x).toInt = v_783.toInt := (congrArg Int32.toInt t_796).trans rfl
            refine k_i (rm := { frames := 6, cells := 0, slots := 0, locals := 288 }) (av := [.ref x, .ref (κ (100 + 25))]) X hw (va_runV (As := [.ref (κ (100 + 25))]) (rest := []) (cfix X) (k_X12_must2 l G cy κ S_792 _ x 25 (nxT (rB S x) (pI S 1228 x).toInt.toNat t0) hO_793.1 t_799 (by decide) (by rw [rB_fr hG ha_x hO_793.fr (by decide +kernel), hO_793.fr.I' (g := 1228) (by decide +kernel) ha_x rfl]; exact rg_795)) (cwV 1 X.2.2.2.1 gX12_rule_X12_must rfl rfl rfl (by decide +kernel) ⟨Nat.le_of_ble_eq_true rfl, Nat.le_of_ble_eq_true rfl⟩) (pre_V X hw _ t_799 rfl (by decide) rfl) rfl rfl hl.1 rfl (lv_room (Nat.le_of_ble_eq_true rfl)) dX12_rule_172 ⟨Nat.le_of_ble_eq_true rfl, Nat.le_of_ble_eq_true rfl⟩) 0 0 (Nat.le_of_ble_eq_true rfl) (Nat.le_of_ble_eq_true rfl) (fun rr_801 S_802 H locs hp hw hfr hnw => ?_)
            obtain ⟨hk_803, hp⟩ := hp
            have hO_804 : Ok MRt S S_802 := hO_793.call hk_803 (by decide +kernel)
            rcases hp with ⟨f_805, er_806⟩ | ⟨f_805, er_806⟩ <;> subst er_806
            · have z_b_807 := trivial
              rw [rB_fr hG ha_x hO_793.fr (by decide +kernel), hO_793.fr.I' (g := 1228) (by decide +kernel) ha_x rfl] at f_805
              obtain ⟨v_809, ev_809⟩ : ∃ v, pI S_802 1230 x = v := ⟨_, rfl⟩
              have rg_811 := And.intro (z_lo v_809) (z_hi v_809)
              have pz_812 : (pI S_802 1230 x).toInt = v_809.toInt := by rw [ev_809]
              have pz_813 : (pI S_802 1230 x).toInt = v_809.toInt := (congrArg Int32.toInt ev_809).trans rfl
              have ok_814 := hdI (RGB_ok hG ha_x f_805.2.1)
              have ok_815 : ((nxT (rB S x) (pI S 1228 x).toInt.toNat (nxT (rB S x) (pI S 1228 x).toInt.toNat t0))).2.1 ≤ ((nxT (rB S x) (pI S 1228 x).toInt.toNat (nxT (rB S x) (pI S 1228 x).toInt.toNat t0))).2.2 ∧ ((nxT (rB S x) (pI S 1228 x).toInt.toNat (nxT (rB S x) (pI S 1228 x).toInt.toNat t0))).2.2 ≤ 400 := ⟨(hdE ok_814).1, (hdE ok_814).2.1⟩
              refine lv_if_ne (tgt := 180) X.1 X.2.1 dX12_rule_175 (by decide) (fun c_816 => ?_) (fun c_816 => absurd c_816 (by decide))
              refine lv_aload_n X.1 X.2.1 dX12_rule_180 rfl (lv_at hl 3 rfl) ?_
              have t_817 : At S_802 x 12 := hk_803.fr.at t_799
              have t_818 : pR S_552 1220 x = some q_536 := tR_sA eS_552 h_537
              have t_819 : pR S_565 1220 x = some q_536 := tR_sA eS_565 t_818
              have t_820 : pR S_578 1220 x = some q_536 := hk_579.fr.R' (by decide +kernel) t_568 t_819
              have t_821 : pR S_678 1220 x = some q_536 := hk_679.fr.R' (by decide +kernel) t_584 t_820
              have t_822 : pR S_792 1220 x = some q_536 := tR_sA eS_792 t_821
              have t_823 : pR S_802 1220 x = some q_536 := hk_803.fr.R' (by decide +kernel) t_799 t_822
              refine r_getR (g := 1220) X hw t_817 rfl 20 t_823 (by decide) rfl inn_X12_rule_12 (by decide) (X.2.2.2.1 (.fieldLink RX12 61 "SilkMillModel" "rules" "[I") (by decide +kernel)) rfl (gv_1220 _ _) dX12_rule_181 ?_
              refine lv_iconst (v := 4) X.1 X.2.1 dX12_rule_184 (by decide) ?_
              refine lv_dup2_11 X.1 X.2.1 dX12_rule_185 rfl rfl ?_
              have t_824 : At S_552 q_536 614 := tAt_sA eS_552 h_538
              have t_825 : At S_565 q_536 614 := tAt_sA eS_565 t_824
              have t_826 : At S_578 q_536 614 := hk_579.fr.at t_825
              have t_827 : At S_678 q_536 614 := hk_679.fr.at t_826
              have t_828 : At S_792 q_536 614 := tAt_sA eS_792 t_827
              have t_829 : At S_802 q_536 614 := hk_803.fr.at t_828
              have t_830 : pN S_552 q_536 = 5 := tN_sA eS_552 h_539
              clear h_539
              have t_831 : pN S_565 q_536 = 5 := tN_sA eS_565 t_830
              clear t_830
              have t_833 : At S_552 q_536 614 := tAt_sA eS_552 h_538
              have t_834 : At S_565 q_536 614 := tAt_sA eS_565 t_833
              have t_832 : pN S_578 q_536 = 5 := hk_579.fr.N t_834 t_831
              clear t_831
              have t_836 : At S_578 q_536 614 := hk_579.fr.at t_834
              have t_835 : pN S_678 q_536 = 5 := hk_679.fr.N t_836 t_832
              clear t_832
              have t_837 : pN S_792 q_536 = 5 := tN_sA eS_792 t_835
              clear t_835
              have t_839 : At S_678 q_536 614 := hk_679.fr.at t_836
              have t_840 : At S_792 q_536 614 := tAt_sA eS_792 t_839
              have t_838 : pN S_802 q_536 = 5 := hk_803.fr.N t_840 t_837
              clear t_837
              refine r_iald X hw t_829 rfl (by rw [t_838]; exact z_ix ti_4 (by omega) (by omega)) dX12_rule_186 ?_
              have t_841 : pA S_552 q_536 (Int32.toNatClampNeg (4)) = v_540 := tA_sA eS_552 (At_ne h_538 h_550 (by decide)) ev_540
              have t_843 : At S_552 q_536 614 := tAt_sA eS_552 h_538
              have t_842 : pA S_565 q_536 (Int32.toNatClampNeg (4)) = v_540 := tA_sA eS_565 (At_ne t_843 h_563 (by decide)) t_841
              have t_844 : pA S_578 q_536 (Int32.toNatClampNeg (4)) = v_540 := (congrFun (hk_579.fr.A' (by decide +kernel) t_834) _).trans t_842
              have t_845 : pA S_678 q_536 (Int32.toNatClampNeg (4)) = v_540 := (congrFun (hk_679.fr.A' (by decide +kernel) t_836) _).trans t_844
              have t_847 : At S_678 q_536 614 := hk_679.fr.at t_836
              have t_846 : pA S_792 q_536 (Int32.toNatClampNeg (4)) = v_540 := tA_sA eS_792 (At_ne t_847 t_790 (by decide)) t_845
              have t_848 : pA S_802 q_536 (Int32.toNatClampNeg (4)) = v_540 := (congrFun (hk_803.fr.A' (by decide +kernel) t_840) _).trans t_846
              rw [t_848]
              refine lv_iconst (v := 1) X.1 X.2.1 dX12_rule_187 (by decide) ?_
              refine lv_iadd X.1 X.2.1 dX12_rule_188 ?_
              refine lv_topi (fun v_849 ev_849 => ?_)
              have z_850 : v_849.toInt = v_540.toInt + 1 := z_add ev_849 rfl ti_1 (by omega) (by omega)
              refine r_iast X hw t_829 rfl (by rw [t_838]; exact z_ix ti_4 (by omega) (by omega)) dX12_rule_189 (fun H locs hw => ?_)
              obtain ⟨S_851, eS_851⟩ : ∃ T, T = sA S_802 q_536 (upd (pA S_802 q_536) (Int32.toNatClampNeg (4)) (v_849)) := ⟨_, rfl⟩
              rw [← eS_851] at hw
              have hO_852 : Ok MRt S S_851 := hO_804.sA eS_851 t_829 (by decide +kernel) (uA_614 hO_804.1 t_829 (by omega) (by omega))
              have h_853 : pA S_851 q_536 (Int32.toNatClampNeg (4)) = v_849 := tA_sAs eS_851
              have t_854 : pR S_851 1220 x = some q_536 := tR_sA eS_851 t_823
              have t_856 : pR S_802 1220 x = some q_536 := by have h := t_854; rw [eS_851, pR_sA] at h; exact h
              have zs_855 : ∀ j, zA S_851 x 1220 j = if j = (4 : Int).toNat then (v_540.toInt + 1) else zA S_802 x 1220 j := by have h := zA_sAs eS_851 t_856 z_850; rw [z_nc ti_4 (by omega)] at h; exact h
              have zs_857 : zA S_851 x 1220 4 = (v_540.toInt + 1) := by have h := zs_855 4; rw [if_pos (by decide)] at h; exact h
              refine lv_iconst (v := 1) X.1 X.2.1 dX12_rule_190 (by decide) ?_
              have t_859 : pI S_851 1230 x = v_809 := tI_sA eS_851 ev_809
              have pz_860 : (pI S_851 1230 x).toInt = v_809.toInt := (congrArg Int32.toInt t_859).trans rfl
              have ea_858 : rueF (rB S x) (pI S 1228 x).toInt.toNat (zA S x 1220 4).toNat t0 = acF (rB S x) (pI S 1228 x).toInt.toNat t0 := (cit_n (fun h => by have h2 := h.2; omega)).trans ((cit_n (by omega)).trans ((cit_n (fun h => f_14 ⟨by omega, (isR_if hp_0).mpr h⟩))))
              have ec_861 : acF (rB S x) (pI S 1228 x).toInt.toNat t0 = (1, t0) := (cit_n (by omega)).trans ((cit_y (by omega)).trans (cit_n hd_685))
              rw [hQQ]
              exact ret_z X hw hr hlocks (Nat.le_of_ble_eq_true rfl) (Nat.le_of_ble_eq_true rfl) (by decide) ⟨hO_852, (by exfalso; have h := f_805.1.1; omega)⟩ dX12_rule_191
            · have z_b_862 := trivial
              rw [rB_fr hG ha_x hO_793.fr (by decide +kernel)] at f_805
              obtain ⟨v_864, ev_864⟩ : ∃ v, pI S_802 1230 x = v := ⟨_, rfl⟩
              have rg_866 := And.intro (z_lo v_864) (z_hi v_864)
              have pz_867 : (pI S_802 1230 x).toInt = v_864.toInt := by rw [ev_864]
              have pz_868 : (pI S_802 1230 x).toInt = v_864.toInt := (congrArg Int32.toInt ev_864).trans rfl
              refine lv_if_ne (tgt := 180) X.1 X.2.1 dX12_rule_175 (by decide) (fun c_869 => absurd c_869 (by decide)) (fun c_869 => ?_)
              refine lv_iconst (v := 0) X.1 X.2.1 dX12_rule_178 (by decide) ?_
              have pz_871 : (pI S_802 1230 x).toInt = v_864.toInt := (congrArg Int32.toInt ev_864).trans rfl
              have ea_870 : rueF (rB S x) (pI S 1228 x).toInt.toNat (zA S x 1220 4).toNat t0 = acF (rB S x) (pI S 1228 x).toInt.toNat t0 := (cit_n (fun h => by have h2 := h.2; omega)).trans ((cit_n (by omega)).trans ((cit_n (fun h => f_14 ⟨by omega, (isR_if hp_0).mpr h⟩))))
              have ec_872 : acF (rB S x) (pI S 1228 x).toInt.toNat t0 = (1, t0) := (cit_n (by omega)).trans ((cit_y (by omega)).trans (cit_n hd_685))
              rw [hQQ]
              exact ret_z X hw hr hlocks (Nat.le_of_ble_eq_true rfl) (Nat.le_of_ble_eq_true rfl) (by decide) ⟨hO_804, Or.inr ⟨by rw [ea_870, ec_872]; exact ⟨(by decide : (1 : Int) ≠ 0), by have h := f_805.2; show _ = (1 : Int); omega⟩, rfl⟩⟩ dX12_rule_179
      · have z_b_873 := trivial
        have k_874 : v_540.toInt = 12 := z_eq rfl ti_12 c_543
        refine lv_aload_n X.1 X.2.1 dX12_rule_42 rfl (lv_at hl 2 rfl) ?_
        refine lv_iconst (v := 2) X.1 X.2.1 dX12_rule_43 (by decide) ?_
        have pz_875 : (pI S 1230 x).toInt = v_1.toInt := (congrArg Int32.toInt ev_1).trans rfl
        refine k_i (rm := { frames := 1, cells := 0, slots := 0, locals := 48 }) (av := [.ref x, .int 2]) X hw (va_runV (As := [.int 2]) (rest := []) (cfix X) (k_X12_wrong2 l G cy κ S _ x (2) (2) hO.1 ha_x ti_2) (cwV 1 X.2.2.2.1 gX12_rule_X12_wrong rfl rfl rfl (by decide +kernel) ⟨Nat.le_of_ble_eq_true rfl, Nat.le_of_ble_eq_true rfl⟩) (pre_V X hw _ ha_x rfl (by decide) rfl) rfl rfl hl.1 rfl (lv_room (Nat.le_of_ble_eq_true rfl)) dX12_rule_44 ⟨Nat.le_of_ble_eq_true rfl, Nat.le_of_ble_eq_true rfl⟩) 0 0 (Nat.le_of_ble_eq_true rfl) (Nat.le_of_ble_eq_true rfl) (fun rr_876 S_877 H locs hp hw hfr hnw => ?_)
        obtain ⟨hk_878, hp⟩ := hp
        have hO_879 : Ok MRt S S_877 := hO.call hk_878 (by decide +kernel)
        rcases hp with ⟨f_880, er_881⟩ | ⟨f_880, er_881⟩ <;> subst er_881
        · have z_b_882 := trivial
          exact f_880.elim
        · have z_b_883 := trivial
          obtain ⟨v_886, ev_886⟩ : ∃ v, pI S_877 1230 x = v := ⟨_, rfl⟩
          have rg_888 := And.intro (z_lo v_886) (z_hi v_886)
          have pz_889 : (pI S_877 1230 x).toInt = v_886.toInt := by rw [ev_886]
          have pz_890 : (pI S_877 1230 x).toInt = v_886.toInt := (congrArg Int32.toInt ev_886).trans rfl
          have ea_884 : rueF (rB S x) (pI S 1228 x).toInt.toNat (zA S x 1220 4).toNat t0 = (2, t0) := (cit_n (fun h => by have h2 := h.2; omega)).trans (cit_y (by omega))
          rw [hQQ]
          exact ret_z X hw hr hlocks (Nat.le_of_ble_eq_true rfl) (Nat.le_of_ble_eq_true rfl) (by decide) ⟨hO_879, Or.inr ⟨by rw [ea_884]; exact ⟨(by decide : (2 : Int) ≠ 0), by show _ = (2 : Int); omega⟩, rfl⟩⟩ dX12_rule_47
    · have z_b_891 := trivial
      have k_892 : rr_527.toInt = (-1) := z_eq rfl ti_m1 c_533
      refine lv_aload_n X.1 X.2.1 dX12_rule_25 rfl (lv_at hl 2 rfl) ?_
      refine lv_iconst (v := 1) X.1 X.2.1 dX12_rule_26 (by decide) ?_
      have pz_893 : (pI S 1230 x).toInt = v_1.toInt := (congrArg Int32.toInt ev_1).trans rfl
      refine k_i (rm := { frames := 1, cells := 0, slots := 0, locals := 48 }) (av := [.ref x, .int 1]) X hw (va_runV (As := [.int 1]) (rest := []) (cfix X) (k_X12_wrong2 l G cy κ S _ x (1) (1) hO.1 ha_x ti_1) (cwV 1 X.2.2.2.1 gX12_rule_X12_wrong rfl rfl rfl (by decide +kernel) ⟨Nat.le_of_ble_eq_true rfl, Nat.le_of_ble_eq_true rfl⟩) (pre_V X hw _ ha_x rfl (by decide) rfl) rfl rfl hl.1 rfl (lv_room (Nat.le_of_ble_eq_true rfl)) dX12_rule_27 ⟨Nat.le_of_ble_eq_true rfl, Nat.le_of_ble_eq_true rfl⟩) 0 0 (Nat.le_of_ble_eq_true rfl) (Nat.le_of_ble_eq_true rfl) (fun rr_894 S_895 H locs hp hw hfr hnw => ?_)
      obtain ⟨hk_896, hp⟩ := hp
      have hO_897 : Ok MRt S S_895 := hO.call hk_896 (by decide +kernel)
      rcases hp with ⟨f_898, er_899⟩ | ⟨f_898, er_899⟩ <;> subst er_899
      · have z_b_900 := trivial
        exact f_898.elim
      · have z_b_901 := trivial
        obtain ⟨v_904, ev_904⟩ : ∃ v, pI S_895 1230 x = v := ⟨_, rfl⟩
        have rg_906 := And.intro (z_lo v_904) (z_hi v_904)
        have pz_907 : (pI S_895 1230 x).toInt = v_904.toInt := by rw [ev_904]
        have pz_908 : (pI S_895 1230 x).toInt = v_904.toInt := (congrArg Int32.toInt ev_904).trans rfl
        have ea_902 : rueF (rB S x) (pI S 1228 x).toInt.toNat (zA S x 1220 4).toNat t0 = (1, t0) := cit_y ⟨(fun h => f_14 ⟨by omega, (isR_if hp_0).mpr h⟩), by omega⟩
        rw [hQQ]
        exact ret_z X hw hr hlocks (Nat.le_of_ble_eq_true rfl) (Nat.le_of_ble_eq_true rfl) (by decide) ⟨hO_897, Or.inr ⟨by rw [ea_902]; exact ⟨(by decide : (1 : Int) ≠ 0), by show _ = (1 : Int); omega⟩, rfl⟩⟩ dX12_rule_30
