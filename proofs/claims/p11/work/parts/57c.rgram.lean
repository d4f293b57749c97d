def MCt : List Nat := [1229, 1230, 1231, 1232, 1233, 1234, 10674, 10694, 10714, 10734]

set_option maxHeartbeats 4000000 in
set_option maxRecDepth 100000 in
theorem k_X12_condition2 (l : Launch) (G : va_G) (cy : Nat → ClassId) (κ : Nat → Nat) (S : PS) (sz : Nat) (x : Nat) (a1 : Int32) (a1_z : Int) (t0 : Tk) (hG : GX S) (ha_x : At S x 12) (hz_a1 : a1.toInt = a1_z) (hp_0 : RGB (rB S x) (pI S 1228 x).toInt.toNat S x t0) (hp_1 : (pI S 1230 x).toInt = 0) (hp_2 : 48 ≤ a1_z) (hp_3 : a1_z ≤ 59) : Ci l yX12_condition wsX12_condition ({ frames := 6, cells := 0, slots := 0, locals := 288 }) G cy κ S sz [.ref x, .int (a1)] (fun (r : Int32) (S9 : PS) => Ok MCt S S9 ∧ (((cOk (rB S x) (pI S 1228 x).toInt.toNat t0 ∧ RGB (rB S x) (pI S 1228 x).toInt.toNat S9 x (nx3 (rB S x) (pI S 1228 x).toInt.toNat t0) ∧ (pI S9 1230 x).toInt = 0 ∧ zA S x 1223 a1_z.toNat ≤ 3 ∧ zA S9 x 1223 a1_z.toNat = zA S x 1223 a1_z.toNat + 1) ∧ r = 1) ∨ ((((whF (rB S x) t0 FLs 0 = -1 ∧ (pI S9 1230 x).toInt = 1) ∨ (whF (rB S x) t0 FLs 0 ≠ -1 ∧ zA S x 1223 a1_z.toNat = 4 ∧ (pI S9 1230 x).toInt = 2) ∨ (zA S x 1223 a1_z.toNat ≠ 4 ∧ ¬ cOk (rB S x) (pI S 1228 x).toInt.toNat t0 ∧ (pI S9 1230 x).toInt = 1))) ∧ r = 0))) := by
  refine ent_m (cc := cX12_condition) (maxL := 4) (ret := (some .boolean)) (by decide) rfl (Nat.le_of_ble_eq_true rfl) ?_
  intro p e s m below meth c ls X hr hlocks hin hw hl hsz
  subst hsz
  have X : Cx p c cX12_condition 4 s [.ref x, .int (a1)].toArray wsX12_condition RX12 m G cy κ (AS S s.heap.size) := X
  have hl : lv_has ls 4 [(0, .ref x), (1, .int (a1))] := hl
  have rg_a1 : (-2147483648) ≤ a1_z ∧ a1_z ≤ 2147483647 := by rw [← hz_a1]; exact ⟨z_lo _, z_hi _⟩
  have hO : Ok MCt S S := Ok.rf hG
  generalize hQQ : MQ below _ _ _ _ _ _ = QQ
  replace hQQ := hQQ.symm
  have hok := hdI (RGB_ok hG ha_x hp_0)
  have hok1 : t0.2.1 ≤ t0.2.2 ∧ t0.2.2 ≤ 400 := ⟨(hdE hok).1, (hdE hok).2.1⟩
  obtain ⟨v_1, ev_1⟩ : ∃ v, pI S 1230 x = v := ⟨_, rfl⟩
  have rg_3 := And.intro (z_lo v_1) (z_hi v_1)
  have pz_4 : (pI S 1230 x).toInt = v_1.toInt := by rw [ev_1]
  have pz_5 : (pI S 1230 x).toInt = v_1.toInt := (congrArg Int32.toInt ev_1).trans rfl
  obtain ⟨v_6, ev_6⟩ : ∃ v, pI S 1231 x = v := ⟨_, rfl⟩
  have rg_8 := And.intro (z_lo v_6) (z_hi v_6)
  have pz_9 : (pI S 1231 x).toInt = v_6.toInt := by rw [ev_6]
  have pz_10 : (pI S 1231 x).toInt = v_6.toInt := (congrArg Int32.toInt ev_6).trans rfl
  have htk1 := hp_0.1.1
  refine lv_aload_n X.1 X.2.1 dX12_condition_0 rfl (lv_at hl 0 rfl) ?_
  refine va_ldcS (q := κ (100 + 17)) X.1 X.2.1 X.2.2.2.2.1 (show vk_R RX12 252 "fine ends basket lost made thin day " (κ (100 + 17)) s from (X.2.2.2.2.2.2.2.2.2.2.2.2.2.2 17 (by decide)).1) dX12_condition_1 ?_
  have pz_11 : (pI S 1230 x).toInt = v_1.toInt := (congrArg Int32.toInt ev_1).trans rfl
  refine k_i (rm := { frames := 5, cells := 0, slots := 0, locals := 240 }) (av := [.ref x, .ref (κ (100 + 17))]) X hw (va_runV (As := [.ref (κ (100 + 17))]) (rest := []) (cfix X) (k_X12_which2 l G cy κ S _ x 17 t0 hO.1 ha_x (by decide) hp_0.1 (by first | assumption | omega) (by first | assumption | omega) (by first | assumption | omega) (by decide)) (cwV 1 X.2.2.2.1 gX12_condition_X12_which rfl rfl rfl (by decide +kernel) ⟨Nat.le_of_ble_eq_true rfl, Nat.le_of_ble_eq_true rfl⟩) (pre_V X hw _ ha_x rfl (by decide) rfl) rfl rfl hl.1 rfl (lv_room (Nat.le_of_ble_eq_true rfl)) dX12_condition_3 ⟨Nat.le_of_ble_eq_true rfl, Nat.le_of_ble_eq_true rfl⟩) 0 0 (Nat.le_of_ble_eq_true rfl) (Nat.le_of_ble_eq_true rfl) (fun rr_12 S_13 H locs hp hw hfr hnw => ?_)
  obtain ⟨e2, hp⟩ := hp
  subst e2
  obtain ⟨wh_14, wh_15, wh_16⟩ := hp
  rw [show wI 17 = FLs from rfl] at wh_16
  refine lv_istore_n (lv' := [(2, .int (rr_12)), (0, .ref x), (1, .int (a1))]) X.1 X.2.1 dX12_condition_6 rfl hl (by decide) rfl (fun ls hl => ?_)
  refine lv_iload_n X.1 X.2.1 dX12_condition_7 rfl (lv_at hl 0 rfl) ?_
  refine lv_iconst (v := (-1)) X.1 X.2.1 dX12_condition_8 (by decide) ?_
  refine lv_icmp_ne (tgt := 18) X.1 X.2.1 dX12_condition_9 (by decide) (fun c_17 => ?_) (fun c_17 => ?_)
  · have z_b_18 := trivial
    have k_19 : rr_12.toInt ≠ (-1) := z_ne rfl ti_m1 c_17
    refine lv_aload_n X.1 X.2.1 dX12_condition_18 rfl (lv_at hl 1 rfl) ?_
    obtain ⟨q_20, h_21, h_22, h_23⟩ := gQ_12_1223 hO.1 ha_x
    refine r_getR (g := 1223) X hw ha_x rfl 23 h_21 (by decide) rfl inn_X12_condition_12 (by decide) (X.2.2.2.1 (.fieldLink RX12 70 "SilkMillModel" "conditions" "[I") (by decide +kernel)) rfl (gv_1223 _ _) dX12_condition_19 ?_
    refine lv_iload_n X.1 X.2.1 dX12_condition_22 rfl (lv_at hl 2 rfl) ?_
    refine r_iald X hw h_22 rfl (by rw [h_23]; exact z_ix hz_a1 (by omega) (by omega)) dX12_condition_23 ?_
    refine lv_topi (fun v_24 ev_24 => ?_)
    have z_25 := gE_674 hO.1 h_22 (Int32.toNatClampNeg (a1)); rw [← ev_24] at z_25
    have ev_24 := ev_24.symm
    have zf_26 : zA S x 1223 (a1_z).toNat = v_24.toInt := (zA_of h_21 hz_a1 (by omega) ev_24)
    refine lv_iconst (v := 4) X.1 X.2.1 dX12_condition_24 (by decide) ?_
    refine lv_icmp_ne (tgt := 34) X.1 X.2.1 dX12_condition_25 (by decide) (fun c_27 => ?_) (fun c_27 => ?_)
    · have z_b_28 := trivial
      have k_29 : v_24.toInt ≠ 4 := z_ne rfl ti_4 c_27
      refine lv_iconst (v := 4) X.1 X.2.1 dX12_condition_34 (by decide) ?_
      refine lv_iload_n X.1 X.2.1 dX12_condition_35 rfl (lv_at hl 2 rfl) ?_
      refine lv_imul X.1 X.2.1 dX12_condition_36 ?_
      refine lv_topi (fun v_30 ev_30 => ?_)
      have z_31 : v_30.toInt = 4 * a1_z := z_mul ev_30 ti_4 hz_a1 (by omega) (by omega)
      refine lv_aload_n X.1 X.2.1 dX12_condition_37 rfl (lv_at hl 1 rfl) ?_
      refine r_getR (g := 1223) X hw ha_x rfl 23 h_21 (by decide) rfl inn_X12_condition_12 (by decide) (X.2.2.2.1 (.fieldLink RX12 70 "SilkMillModel" "conditions" "[I") (by decide +kernel)) rfl (gv_1223 _ _) dX12_condition_38 ?_
      refine lv_iload_n X.1 X.2.1 dX12_condition_41 rfl (lv_at hl 2 rfl) ?_
      refine r_iald X hw h_22 rfl (by rw [h_23]; exact z_ix hz_a1 (by omega) (by omega)) dX12_condition_42 ?_
      rw [ev_24]
      refine lv_iadd X.1 X.2.1 dX12_condition_43 ?_
      refine lv_topi (fun v_32 ev_32 => ?_)
      have z_33 : v_32.toInt = (4 * a1_z) + v_24.toInt := z_add ev_32 z_31 rfl (by omega) (by omega)
      refine lv_istore_n (lv' := [(3, .int (v_32)), (2, .int (rr_12)), (0, .ref x), (1, .int (a1))]) X.1 X.2.1 dX12_condition_44 rfl hl (by decide) rfl (fun ls hl => ?_)
      refine lv_aload_n X.1 X.2.1 dX12_condition_45 rfl (lv_at hl 2 rfl) ?_
      have ok_34 := hdI (RGB_ok hG ha_x hp_0)
      have ok_35 : (t0).2.1 ≤ (t0).2.2 ∧ (t0).2.2 ≤ 400 := ⟨(hdE ok_34).1, (hdE ok_34).2.1⟩
      obtain ⟨v_36, ev_36⟩ : ∃ v, pI S 1233 x = v := ⟨_, rfl⟩
      have rg_37 := gI_12_1233 hO.1 ha_x; rw [ev_36] at rg_37
      have pz_38 : (pI S 1233 x).toInt = v_36.toInt := by rw [ev_36]
      have pz_39 : (pI S 1233 x).toInt = v_36.toInt := (congrArg Int32.toInt ev_36).trans rfl
      refine k_v (rm := { frames := 2, cells := 0, slots := 0, locals := 96 }) (av := [.ref x]) X hw (va_runV (As := []) (rest := []) (cfix X) (k_X12_token2 l G cy κ S _ x hO.1 ha_x) (cwV 0 X.2.2.2.1 gX12_condition_X12_token rfl rfl rfl (by decide +kernel) ⟨Nat.le_of_ble_eq_true rfl, Nat.le_of_ble_eq_true rfl⟩) (pre_V X hw _ ha_x rfl (by decide) rfl) rfl rfl hl.1 rfl (lv_room (Nat.le_of_ble_eq_true rfl)) dX12_condition_46 ⟨Nat.le_of_ble_eq_true rfl, Nat.le_of_ble_eq_true rfl⟩) 0 0 (Nat.le_of_ble_eq_true rfl) (Nat.le_of_ble_eq_true rfl) (fun S_41 H locs hp hw hfr hnw => ?_)
      obtain ⟨hk_42, hp⟩ := hp
      have hO_43 : Ok MCt S S_41 := hO.call hk_42 (by decide +kernel)
      have rg_44 : RGB (rB S x) (pI S 1228 x).toInt.toNat S_41 x (nxT (rB S x) (pI S 1228 x).toInt.toNat t0) := RGB_adv hp_0 rfl rfl (by omega) hp
      have ok_45 := hdI (RGB_ok hG ha_x rg_44)
      have ok_46 : ((nxT (rB S x) (pI S 1228 x).toInt.toNat t0)).2.1 ≤ ((nxT (rB S x) (pI S 1228 x).toInt.toNat t0)).2.2 ∧ ((nxT (rB S x) (pI S 1228 x).toInt.toNat t0)).2.2 ≤ 400 := ⟨(hdE ok_45).1, (hdE ok_45).2.1⟩
      refine lv_aload_n X.1 X.2.1 dX12_condition_49 rfl (lv_at hl 2 rfl) ?_
      have t_47 : At S_41 x 12 := hk_42.fr.at ha_x
      obtain ⟨q_48, h_49, h_50, h_51⟩ := gQ_12_1224 hO_43.1 t_47
      refine r_getR (g := 1224) X hw t_47 rfl 24 h_49 (by decide) rfl inn_X12_condition_12 (by decide) (X.2.2.2.1 (.fieldLink RX12 73 "SilkMillModel" "field" "[I") (by decide +kernel)) rfl (gv_1224 _ _) dX12_condition_50 ?_
      refine lv_iload_n X.1 X.2.1 dX12_condition_53 rfl (lv_at hl 0 rfl) ?_
      refine lv_iload_n X.1 X.2.1 dX12_condition_54 rfl (lv_at hl 1 rfl) ?_
      refine r_iast X hw h_50 rfl (by rw [h_51]; exact z_ix z_33 (by omega) (by omega)) dX12_condition_55 (fun H locs hw => ?_)
      obtain ⟨S_52, eS_52⟩ : ∃ T, T = sA S_41 q_48 (upd (pA S_41 q_48) (Int32.toNatClampNeg (v_32)) (rr_12)) := ⟨_, rfl⟩
      rw [← eS_52] at hw
      have hO_53 : Ok MCt S S_52 := hO_43.sA eS_52 h_50 (by decide +kernel) (uA_694 hO_43.1 h_50)
      have h_54 : pA S_52 q_48 (Int32.toNatClampNeg (v_32)) = rr_12 := tA_sAs eS_52
      have zc_58 : zA S_41 x 1223 = zA S x 1223 := zA_fr hk_42.fr ha_x (ex3 (gQ_12_1223 hO.1 ha_x)) (by decide +kernel) (by decide +kernel)
      have zc_59 : zA S_52 x 1223 = zA S x 1223 := (zA_sAn eS_52 (ex3 (gQ_12_1223 hO_43.1 t_47)) h_50 rfl).trans zc_58
      have L_55 : ∀ (T_56 : PS) (H : Heap) (locs : List Loc) (ls : Array Slot) , (Wd G cy (AS S s.heap.size) s.heap T_56 H locs) → (At T_56 x 12) → (Ok MCt S T_56) → (zA T_56 x 1223 = zA S x 1223) → (RGB (rB S x) (pI S 1228 x).toInt.toNat T_56 x (nxT (rB S x) (pI S 1228 x).toInt.toNat t0)) → ((pI T_56 1230 x).toInt = 0) → (lv_has ls 4 [(3, .int (v_32)), (2, .int (rr_12)), (0, .ref x), (1, .int (a1))]) → W p l e ({ frames := 6, cells := 0, slots := 0, locals := 288 }) s m [.ref x, .int (a1)].toArray below meth c H locs 0 0 QQ (F0 m 91 ls []) := by
        intro T_56 H locs ls  hw ha_x_L_57 hO_T_56 zk_60 iv_61 iv_62 hl
        obtain ⟨v_63, ev_63⟩ : ∃ v, pI T_56 1230 x = v := ⟨_, rfl⟩
        have rg_65 := And.intro (z_lo v_63) (z_hi v_63)
        have pz_66 : (pI T_56 1230 x).toInt = v_63.toInt := by rw [ev_63]
        have pz_67 : (pI T_56 1230 x).toInt = v_63.toInt := (congrArg Int32.toInt ev_63).trans rfl
        have ok_68 := hdI (RGB_ok hG ha_x iv_61)
        have ok_69 : ((nxT (rB S x) (pI S 1228 x).toInt.toNat t0)).2.1 ≤ ((nxT (rB S x) (pI S 1228 x).toInt.toNat t0)).2.2 ∧ ((nxT (rB S x) (pI S 1228 x).toInt.toNat t0)).2.2 ≤ 400 := ⟨(hdE ok_68).1, (hdE ok_68).2.1⟩
        have pz_70 : (pI T_56 1230 x).toInt = v_63.toInt := (congrArg Int32.toInt ev_63).trans rfl
        refine lv_aload_n X.1 X.2.1 dX12_condition_91 rfl (lv_at hl 2 rfl) ?_
        refine lv_ldcwS (q := κ (100 + 18)) X.1 X.2.1 X.2.2.2.2.1 (show vk_R RX12 258 "<" (κ (100 + 18)) s from (X.2.2.2.2.2.2.2.2.2.2.2.2.2.2 18 (by decide)).1) dX12_condition_92 ?_
        have pz_71 : (pI T_56 1230 x).toInt = v_63.toInt := (congrArg Int32.toInt ev_63).trans rfl
        refine k_i (rm := { frames := 5, cells := 0, slots := 0, locals := 240 }) (av := [.ref x, .ref (κ (100 + 18))]) X hw (va_runV (As := [.ref (κ (100 + 18))]) (rest := []) (cfix X) (k_X12_is2 l G cy κ T_56 _ x 18 (nxT (rB S x) (pI S 1228 x).toInt.toNat t0) hO_T_56.1 ha_x_L_57 (by decide) iv_61.1 (by first | assumption | omega) (by first | assumption | omega)) (cwV 1 X.2.2.2.1 gX12_condition_X12_is rfl rfl rfl (by decide +kernel) ⟨Nat.le_of_ble_eq_true rfl, Nat.le_of_ble_eq_true rfl⟩) (pre_V X hw _ ha_x_L_57 rfl (by decide) rfl) rfl rfl hl.1 rfl (lv_room (Nat.le_of_ble_eq_true rfl)) dX12_condition_95 ⟨Nat.le_of_ble_eq_true rfl, Nat.le_of_ble_eq_true rfl⟩) 0 0 (Nat.le_of_ble_eq_true rfl) (Nat.le_of_ble_eq_true rfl) (fun rr_72 S_73 H locs hp hw hfr hnw => ?_)
        obtain ⟨e2, hp⟩ := hp
        subst e2
        rcases hp with ⟨f_74, er_75⟩ | ⟨f_74, er_75⟩ <;> subst er_75
        · have z_b_76 := trivial
          rw [rB_fr hG ha_x hO_T_56.fr (by decide +kernel)] at f_74
          refine lv_if_ne (tgt := 127) X.1 X.2.1 dX12_condition_98 (by decide) (fun c_77 => ?_) (fun c_77 => absurd c_77 (by decide))
          refine lv_aload_n X.1 X.2.1 dX12_condition_127 rfl (lv_at hl 2 rfl) ?_
          have ok_78 := hdI (RGB_ok hG ha_x iv_61)
          have ok_79 : ((nxT (rB S x) (pI S 1228 x).toInt.toNat t0)).2.1 ≤ ((nxT (rB S x) (pI S 1228 x).toInt.toNat t0)).2.2 ∧ ((nxT (rB S x) (pI S 1228 x).toInt.toNat t0)).2.2 ≤ 400 := ⟨(hdE ok_78).1, (hdE ok_78).2.1⟩
          obtain ⟨v_80, ev_80⟩ : ∃ v, pI T_56 1233 x = v := ⟨_, rfl⟩
          have rg_81 := gI_12_1233 hO_T_56.1 ha_x_L_57; rw [ev_80] at rg_81
          have pz_82 : (pI T_56 1233 x).toInt = v_80.toInt := by rw [ev_80]
          have pz_83 : (pI T_56 1233 x).toInt = v_80.toInt := (congrArg Int32.toInt ev_80).trans rfl
          refine k_v (rm := { frames := 2, cells := 0, slots := 0, locals := 96 }) (av := [.ref x]) X hw (va_runV (As := []) (rest := []) (cfix X) (k_X12_token2 l G cy κ T_56 _ x hO_T_56.1 ha_x_L_57) (cwV 0 X.2.2.2.1 gX12_condition_X12_token rfl rfl rfl (by decide +kernel) ⟨Nat.le_of_ble_eq_true rfl, Nat.le_of_ble_eq_true rfl⟩) (pre_V X hw _ ha_x_L_57 rfl (by decide) rfl) rfl rfl hl.1 rfl (lv_room (Nat.le_of_ble_eq_true rfl)) dX12_condition_128 ⟨Nat.le_of_ble_eq_true rfl, Nat.le_of_ble_eq_true rfl⟩) 0 0 (Nat.le_of_ble_eq_true rfl) (Nat.le_of_ble_eq_true rfl) (fun S_85 H locs hp hw hfr hnw => ?_)
          obtain ⟨hk_86, hp⟩ := hp
          have hO_87 : Ok MCt S S_85 := hO_T_56.call hk_86 (by decide +kernel)
          have rg_88 : RGB (rB S x) (pI S 1228 x).toInt.toNat S_85 x (nxT (rB S x) (pI S 1228 x).toInt.toNat (nxT (rB S x) (pI S 1228 x).toInt.toNat t0)) := RGB_adv iv_61 (rB_fr hG ha_x hO_T_56.fr (by decide +kernel)) (by rw [hO_T_56.fr.I' (g := 1228) (by decide +kernel) ha_x rfl]) (by omega) hp
          have ok_89 := hdI (RGB_ok hG ha_x rg_88)
          have ok_90 : ((nxT (rB S x) (pI S 1228 x).toInt.toNat (nxT (rB S x) (pI S 1228 x).toInt.toNat t0))).2.1 ≤ ((nxT (rB S x) (pI S 1228 x).toInt.toNat (nxT (rB S x) (pI S 1228 x).toInt.toNat t0))).2.2 ∧ ((nxT (rB S x) (pI S 1228 x).toInt.toNat (nxT (rB S x) (pI S 1228 x).toInt.toNat t0))).2.2 ≤ 400 := ⟨(hdE ok_89).1, (hdE ok_89).2.1⟩
          refine lv_aload_n X.1 X.2.1 dX12_condition_131 rfl (lv_at hl 2 rfl) ?_
          have t_91 : At S_85 x 12 := hk_86.fr.at ha_x_L_57
          obtain ⟨q_92, h_93, h_94, h_95⟩ := gQ_12_1226 hO_87.1 t_91
          refine r_getR (g := 1226) X hw t_91 rfl 26 h_93 (by decide) rfl inn_X12_condition_12 (by decide) (X.2.2.2.1 (.fieldLink RX12 79 "SilkMillModel" "than" "[I") (by decide +kernel)) rfl (gv_1226 _ _) dX12_condition_132 ?_
          refine lv_iload_n X.1 X.2.1 dX12_condition_135 rfl (lv_at hl 0 rfl) ?_
          refine lv_aload_n X.1 X.2.1 dX12_condition_136 rfl (lv_at hl 2 rfl) ?_
          have t_96 : pI S_85 1230 x = v_63 := hk_86.fr.I' (by decide +kernel) ha_x_L_57 ev_63
          have pz_97 : (pI S_85 1230 x).toInt = v_63.toInt := (congrArg Int32.toInt t_96).trans rfl
          refine k_i (rm := { frames := 3, cells := 0, slots := 0, locals := 144 }) (av := [.ref x]) X hw (va_runV (As := []) (rest := [.int (v_32), .ref q_92]) (cfix X) (k_X12_number2 l G cy κ S_85 _ x (nxT (rB S x) (pI S 1228 x).toInt.toNat (nxT (rB S x) (pI S 1228 x).toInt.toNat t0)) hO_87.1 t_91 (by rw [rB_fr hG ha_x hO_87.fr (by decide +kernel), hO_87.fr.I' (g := 1228) (by decide +kernel) ha_x rfl]; exact rg_88)) (cwV 0 X.2.2.2.1 gX12_condition_X12_number rfl rfl rfl (by decide +kernel) ⟨Nat.le_of_ble_eq_true rfl, Nat.le_of_ble_eq_true rfl⟩) (pre_V X hw _ t_91 rfl (by decide) rfl) rfl rfl hl.1 rfl (lv_room (Nat.le_of_ble_eq_true rfl)) dX12_condition_137 ⟨Nat.le_of_ble_eq_true rfl, Nat.le_of_ble_eq_true rfl⟩) 0 0 (Nat.le_of_ble_eq_true rfl) (Nat.le_of_ble_eq_true rfl) (fun rr_98 S_99 H locs hp hw hfr hnw => ?_)
          obtain ⟨hk_100, hp⟩ := hp
          have hO_101 : Ok MCt S S_99 := hO_87.call hk_100 (by decide +kernel)
          obtain ⟨nm_102, nm_103, nm_104, nm_105⟩ := hp
          rw [rB_fr hG ha_x hO_87.fr (by decide +kernel), hO_87.fr.I' (g := 1228) (by decide +kernel) ha_x rfl] at nm_104
          rw [rB_fr hG ha_x hO_87.fr (by decide +kernel), hO_87.fr.I' (g := 1228) (by decide +kernel) ha_x rfl] at nm_105
          by_cases hd_106 : (nxT (rB S x) (pI S 1228 x).toInt.toNat (nxT (rB S x) (pI S 1228 x).toInt.toNat t0)).1 = 2
          · have nq_107 := nm_104 hd_106
            have nfk_108 := nq_107.2.2
            obtain ⟨v_110, ev_110⟩ : ∃ v, pI S_99 1230 x = v := ⟨_, rfl⟩
            have rg_112 := And.intro (z_lo v_110) (z_hi v_110)
            have pz_113 : (pI S_99 1230 x).toInt = v_110.toInt := by rw [ev_110]
            have pz_114 : (pI S_99 1230 x).toInt = v_110.toInt := (congrArg Int32.toInt ev_110).trans rfl
            have ok_115 := hdI (RGB_ok hG ha_x nq_107.2.1)
            have ok_116 : ((nxT (rB S x) (pI S 1228 x).toInt.toNat (nxT (rB S x) (pI S 1228 x).toInt.toNat (nxT (rB S x) (pI S 1228 x).toInt.toNat t0)))).2.1 ≤ ((nxT (rB S x) (pI S 1228 x).toInt.toNat (nxT (rB S x) (pI S 1228 x).toInt.toNat (nxT (rB S x) (pI S 1228 x).toInt.toNat t0)))).2.2 ∧ ((nxT (rB S x) (pI S 1228 x).toInt.toNat (nxT (rB S x) (pI S 1228 x).toInt.toNat (nxT (rB S x) (pI S 1228 x).toInt.toNat t0)))).2.2 ≤ 400 := ⟨(hdE ok_115).1, (hdE ok_115).2.1⟩
            have t_117 : At S_99 q_92 734 := hk_100.fr.at h_94
            have t_118 : pN S_99 q_92 = 240 := hk_100.fr.N h_94 h_95
            clear h_95
            refine r_iast X hw t_117 rfl (by rw [t_118]; exact z_ix z_33 (by omega) (by omega)) dX12_condition_140 (fun H locs hw => ?_)
            obtain ⟨S_119, eS_119⟩ : ∃ T, T = sA S_99 q_92 (upd (pA S_99 q_92) (Int32.toNatClampNeg (v_32)) (rr_98)) := ⟨_, rfl⟩
            rw [← eS_119] at hw
            have hO_120 : Ok MCt S S_119 := hO_101.sA eS_119 t_117 (by decide +kernel) (uA_734 hO_101.1 t_117)
            have h_121 : pA S_119 q_92 (Int32.toNatClampNeg (v_32)) = rr_98 := tA_sAs eS_119
            refine lv_aload_n X.1 X.2.1 dX12_condition_141 rfl (lv_at hl 2 rfl) ?_
            have t_122 : At S_99 x 12 := hk_100.fr.at t_91
            have t_123 : At S_119 x 12 := tAt_sA eS_119 t_122
            obtain ⟨q_124, h_125, h_126, h_127⟩ := gQ_12_1223 hO_120.1 t_123
            refine r_getR (g := 1223) X hw t_123 rfl 23 h_125 (by decide) rfl inn_X12_condition_12 (by decide) (X.2.2.2.1 (.fieldLink RX12 70 "SilkMillModel" "conditions" "[I") (by decide +kernel)) rfl (gv_1223 _ _) dX12_condition_142 ?_
            have zc_128 : zA S_85 x 1223 = zA S x 1223 := (zA_fr hk_86.fr ha_x_L_57 (ex3 (gQ_12_1223 hO_T_56.1 ha_x_L_57)) (by decide +kernel) (by decide +kernel)).trans zk_60
            have zc_129 : zA S_99 x 1223 = zA S x 1223 := (zA_fr hk_100.fr t_91 (ex3 (gQ_12_1223 hO_87.1 t_91)) (by decide +kernel) (by decide +kernel)).trans zc_128
            have t_130 : At S_99 x 12 := hk_100.fr.at t_91
            have zc_131 : zA S_119 x 1223 = zA S x 1223 := (zA_sAn eS_119 (ex3 (gQ_12_1223 hO_101.1 t_130)) t_117 rfl).trans zc_129
            have zz_132 := congrFun zc_131 a1_z.toNat
            refine lv_iload_n X.1 X.2.1 dX12_condition_145 rfl (lv_at hl 3 rfl) ?_
            refine lv_dup2_11 X.1 X.2.1 dX12_condition_146 rfl rfl ?_
            refine r_iald X hw h_126 rfl (by rw [h_127]; exact z_ix hz_a1 (by omega) (by omega)) dX12_condition_147 ?_
            refine lv_topi (fun v_133 ev_133 => ?_)
            have z_134 := gE_674 hO_120.1 h_126 (Int32.toNatClampNeg (a1)); rw [← ev_133] at z_134
            have ev_133 := ev_133.symm
            have zf_135 : zA S_119 x 1223 (a1_z).toNat = v_133.toInt := (zA_of h_125 hz_a1 (by omega) ev_133)
            refine lv_iconst (v := 1) X.1 X.2.1 dX12_condition_148 (by decide) ?_
            refine lv_iadd X.1 X.2.1 dX12_condition_149 ?_
            refine lv_topi (fun v_136 ev_136 => ?_)
            have z_137 : v_136.toInt = v_133.toInt + 1 := z_add ev_136 rfl ti_1 (by omega) (by omega)
            refine r_iast X hw h_126 rfl (by rw [h_127]; exact z_ix hz_a1 (by omega) (by omega)) dX12_condition_150 (fun H locs hw => ?_)
            obtain ⟨S_138, eS_138⟩ : ∃ T, T = sA S_119 q_124 (upd (pA S_119 q_124) (Int32.toNatClampNeg (a1)) (v_136)) := ⟨_, rfl⟩
            rw [← eS_138] at hw
            have hO_139 : Ok MCt S S_138 := hO_120.sA eS_138 h_126 (by decide +kernel) (uA_674 hO_120.1 h_126 (by omega) (by omega))
            have h_140 : pA S_138 q_124 (Int32.toNatClampNeg (a1)) = v_136 := tA_sAs eS_138
            have t_141 : pR S_138 1223 x = some q_124 := tR_sA eS_138 h_125
            have t_143 : pR S_119 1223 x = some q_124 := by have h := t_141; rw [eS_138, pR_sA] at h; exact h
            have zs_142 : ∀ j, zA S_138 x 1223 j = if j = (a1_z).toNat then (v_133.toInt + 1) else zA S_119 x 1223 j := by have h := zA_sAs eS_138 t_143 z_137; rw [z_nc hz_a1 (by omega)] at h; exact h
            have zs_144 := zs_142 (a1_z).toNat; rw [if_pos rfl] at zs_144
            refine lv_aload_n X.1 X.2.1 dX12_condition_151 rfl (lv_at hl 2 rfl) ?_
            have t_145 : At S_138 x 12 := tAt_sA eS_138 t_123
            have t_146 : pI S_119 1230 x = v_110 := tI_sA eS_119 ev_110
            have t_147 : pI S_138 1230 x = v_110 := tI_sA eS_138 t_146
            refine r_getI (g := 1230) (x := v_110) X hw t_145 rfl 30 t_147 (by decide) rfl inn_X12_condition_12 (by decide) (X.2.2.2.1 (.fieldLink RX12 229 "SilkMillModel" "faultKind" "I") (by decide +kernel)) rfl (gv_1230 _ _) dX12_condition_152 ?_
            refine lv_if_ne (tgt := 162) X.1 X.2.1 dX12_condition_155 (by decide) (fun c_148 => ?_) (fun c_148 => ?_)
            · have z_b_149 := trivial
              have k_150 : v_110.toInt ≠ 0 := z_ne rfl ti_0 c_148
              refine lv_iconst (v := 0) X.1 X.2.1 dX12_condition_162 (by decide) ?_
              have pz_151 : (pI S_138 1230 x).toInt = v_110.toInt := (congrArg Int32.toInt t_147).trans rfl
              rw [hQQ]
              exact ret_z X hw hr hlocks (Nat.le_of_ble_eq_true rfl) (Nat.le_of_ble_eq_true rfl) (by decide) ⟨hO_139, (by exfalso; omega)⟩ dX12_condition_163
            · have z_b_152 := trivial
              have k_153 : v_110.toInt = 0 := z_eq rfl ti_0 c_148
              refine lv_iconst (v := 1) X.1 X.2.1 dX12_condition_158 (by decide) ?_
              refine lv_goto (tgt := 163) X.1 X.2.1 dX12_condition_159 (by decide) ?_
              have pz_154 : (pI S_138 1230 x).toInt = v_110.toInt := (congrArg Int32.toInt t_147).trans rfl
              have rg_155 := RGB_sA nq_107.2.1 eS_119
              have rg_156 := RGB_sA rg_155 eS_138
              rw [hQQ]
              exact ret_z X hw hr hlocks (Nat.le_of_ble_eq_true rfl) (Nat.le_of_ble_eq_true rfl) (by decide) ⟨hO_139, Or.inl ⟨⟨⟨by omega, Or.inl ((isR_lt iv_61).mp f_74.2), hd_106⟩, rg_156, by omega, by omega, by omega⟩, rfl⟩⟩ dX12_condition_163
          · have nq_157 := nm_105 hd_106
            have nfk_158 := nq_157.2
            obtain ⟨v_160, ev_160⟩ : ∃ v, pI S_99 1230 x = v := ⟨_, rfl⟩
            have rg_162 := And.intro (z_lo v_160) (z_hi v_160)
            have pz_163 : (pI S_99 1230 x).toInt = v_160.toInt := by rw [ev_160]
            have pz_164 : (pI S_99 1230 x).toInt = v_160.toInt := (congrArg Int32.toInt ev_160).trans rfl
            have ok_165 := hdI (RGB_ok hG ha_x nq_157.1)
            have ok_166 : ((nxT (rB S x) (pI S 1228 x).toInt.toNat (nxT (rB S x) (pI S 1228 x).toInt.toNat t0))).2.1 ≤ ((nxT (rB S x) (pI S 1228 x).toInt.toNat (nxT (rB S x) (pI S 1228 x).toInt.toNat t0))).2.2 ∧ ((nxT (rB S x) (pI S 1228 x).toInt.toNat (nxT (rB S x) (pI S 1228 x).toInt.toNat t0))).2.2 ≤ 400 := ⟨(hdE ok_165).1, (hdE ok_165).2.1⟩
            have t_167 : At S_99 q_92 734 := hk_100.fr.at h_94
            have t_168 : pN S_99 q_92 = 240 := hk_100.fr.N h_94 h_95
            clear h_95
            refine r_iast X hw t_167 rfl (by rw [t_168]; exact z_ix z_33 (by omega) (by omega)) dX12_condition_140 (fun H locs hw => ?_)
            obtain ⟨S_169, eS_169⟩ : ∃ T, T = sA S_99 q_92 (upd (pA S_99 q_92) (Int32.toNatClampNeg (v_32)) (rr_98)) := ⟨_, rfl⟩
            rw [← eS_169] at hw
            have hO_170 : Ok MCt S S_169 := hO_101.sA eS_169 t_167 (by decide +kernel) (uA_734 hO_101.1 t_167)
            have h_171 : pA S_169 q_92 (Int32.toNatClampNeg (v_32)) = rr_98 := tA_sAs eS_169
            refine lv_aload_n X.1 X.2.1 dX12_condition_141 rfl (lv_at hl 2 rfl) ?_
            have t_172 : At S_99 x 12 := hk_100.fr.at t_91
            have t_173 : At S_169 x 12 := tAt_sA eS_169 t_172
            obtain ⟨q_174, h_175, h_176, h_177⟩ := gQ_12_1223 hO_170.1 t_173
            refine r_getR (g := 1223) X hw t_173 rfl 23 h_175 (by decide) rfl inn_X12_condition_12 (by decide) (X.2.2.2.1 (.fieldLink RX12 70 "SilkMillModel" "conditions" "[I") (by decide +kernel)) rfl (gv_1223 _ _) dX12_condition_142 ?_
            have zc_178 : zA S_85 x 1223 = zA S x 1223 := (zA_fr hk_86.fr ha_x_L_57 (ex3 (gQ_12_1223 hO_T_56.1 ha_x_L_57)) (by decide +kernel) (by decide +kernel)).trans zk_60
            have zc_179 : zA S_99 x 1223 = zA S x 1223 := (zA_fr hk_100.fr t_91 (ex3 (gQ_12_1223 hO_87.1 t_91)) (by decide +kernel) (by decide +kernel)).trans zc_178
            have t_180 : At S_99 x 12 := hk_100.fr.at t_91
            have zc_181 : zA S_169 x 1223 = zA S x 1223 := (zA_sAn eS_169 (ex3 (gQ_12_1223 hO_101.1 t_180)) t_167 rfl).trans zc_179
            have zz_182 := congrFun zc_181 a1_z.toNat
            refine lv_iload_n X.1 X.2.1 dX12_condition_145 rfl (lv_at hl 3 rfl) ?_
            refine lv_dup2_11 X.1 X.2.1 dX12_condition_146 rfl rfl ?_
            refine r_iald X hw h_176 rfl (by rw [h_177]; exact z_ix hz_a1 (by omega) (by omega)) dX12_condition_147 ?_
            refine lv_topi (fun v_183 ev_183 => ?_)
            have z_184 := gE_674 hO_170.1 h_176 (Int32.toNatClampNeg (a1)); rw [← ev_183] at z_184
            have ev_183 := ev_183.symm
            have zf_185 : zA S_169 x 1223 (a1_z).toNat = v_183.toInt := (zA_of h_175 hz_a1 (by omega) ev_183)
            refine lv_iconst (v := 1) X.1 X.2.1 dX12_condition_148 (by decide) ?_
            refine lv_iadd X.1 X.2.1 dX12_condition_149 ?_
            refine lv_topi (fun v_186 ev_186 => ?_)
            have z_187 : v_186.toInt = v_183.toInt + 1 := z_add ev_186 rfl ti_1 (by omega) (by omega)
            refine r_iast X hw h_176 rfl (by rw [h_177]; exact z_ix hz_a1 (by omega) (by omega)) dX12_condition_150 (fun H locs hw => ?_)
            obtain ⟨S_188, eS_188⟩ : ∃ T, T = sA S_169 q_174 (upd (pA S_169 q_174) (Int32.toNatClampNeg (a1)) (v_186)) := ⟨_, rfl⟩
            rw [← eS_188] at hw
            have hO_189 : Ok MCt S S_188 := hO_170.sA eS_188 h_176 (by decide +kernel) (uA_674 hO_170.1 h_176 (by omega) (by omega))
            have h_190 : pA S_188 q_174 (Int32.toNatClampNeg (a1)) = v_186 := tA_sAs eS_188
            have t_191 : pR S_188 1223 x = some q_174 := tR_sA eS_188 h_175
            have t_193 : pR S_169 1223 x = some q_174 := by have h := t_191; rw [eS_188, pR_sA] at h; exact h
            have zs_192 : ∀ j, zA S_188 x 1223 j = if j = (a1_z).toNat then (v_183.toInt + 1) else zA S_169 x 1223 j := by have h := zA_sAs eS_188 t_193 z_187; rw [z_nc hz_a1 (by omega)] at h; exact h
            have zs_194 := zs_192 (a1_z).toNat; rw [if_pos rfl] at zs_194
            refine lv_aload_n X.1 X.2.1 dX12_condition_151 rfl (lv_at hl 2 rfl) ?_
            have t_195 : At S_188 x 12 := tAt_sA eS_188 t_173
            have t_196 : pI S_169 1230 x = v_160 := tI_sA eS_169 ev_160
            have t_197 : pI S_188 1230 x = v_160 := tI_sA eS_188 t_196
            refine r_getI (g := 1230) (x := v_160) X hw t_195 rfl 30 t_197 (by decide) rfl inn_X12_condition_12 (by decide) (X.2.2.2.1 (.fieldLink RX12 229 "SilkMillModel" "faultKind" "I") (by decide +kernel)) rfl (gv_1230 _ _) dX12_condition_152 ?_
            refine lv_if_ne (tgt := 162) X.1 X.2.1 dX12_condition_155 (by decide) (fun c_198 => ?_) (fun c_198 => ?_)
            · have z_b_199 := trivial
              have k_200 : v_160.toInt ≠ 0 := z_ne rfl ti_0 c_198
              refine lv_iconst (v := 0) X.1 X.2.1 dX12_condition_162 (by decide) ?_
              have pz_201 : (pI S_188 1230 x).toInt = v_160.toInt := (congrArg Int32.toInt t_197).trans rfl
              rw [hQQ]
              exact ret_z X hw hr hlocks (Nat.le_of_ble_eq_true rfl) (Nat.le_of_ble_eq_true rfl) (by decide) ⟨hO_189, Or.inr ⟨Or.inr (Or.inr ⟨by omega, fun h => hd_106 h.2.2, by omega⟩), rfl⟩⟩ dX12_condition_163
            · have z_b_202 := trivial
              have k_203 : v_160.toInt = 0 := z_eq rfl ti_0 c_198
              refine lv_iconst (v := 1) X.1 X.2.1 dX12_condition_158 (by decide) ?_
              refine lv_goto (tgt := 163) X.1 X.2.1 dX12_condition_159 (by decide) ?_
              have pz_204 : (pI S_188 1230 x).toInt = v_160.toInt := (congrArg Int32.toInt t_197).trans rfl
              rw [hQQ]
              exact ret_z X hw hr hlocks (Nat.le_of_ble_eq_true rfl) (Nat.le_of_ble_eq_true rfl) (by decide) ⟨hO_189, (by exfalso; omega)⟩ dX12_condition_163
        · have z_b_205 := trivial
          rw [rB_fr hG ha_x hO_T_56.fr (by decide +kernel)] at f_74
          refine lv_if_ne (tgt := 127) X.1 X.2.1 dX12_condition_98 (by decide) (fun c_206 => absurd c_206 (by decide)) (fun c_206 => ?_)
          refine lv_aload_n X.1 X.2.1 dX12_condition_101 rfl (lv_at hl 2 rfl) ?_
          refine lv_ldcwS (q := κ (100 + 19)) X.1 X.2.1 X.2.2.2.2.1 (show vk_R RX12 260 "=" (κ (100 + 19)) s from (X.2.2.2.2.2.2.2.2.2.2.2.2.2.2 19 (by decide)).1) dX12_condition_102 ?_
          have pz_207 : (pI T_56 1230 x).toInt = v_63.toInt := (congrArg Int32.toInt ev_63).trans rfl
          refine k_i (rm := { frames := 5, cells := 0, slots := 0, locals := 240 }) (av := [.ref x, .ref (κ (100 + 19))]) X hw (va_runV (As := [.ref (κ (100 + 19))]) (rest := []) (cfix X) (k_X12_is2 l G cy κ T_56 _ x 19 (nxT (rB S x) (pI S 1228 x).toInt.toNat t0) hO_T_56.1 ha_x_L_57 (by decide) iv_61.1 (by first | assumption | omega) (by first | assumption | omega)) (cwV 1 X.2.2.2.1 gX12_condition_X12_is rfl rfl rfl (by decide +kernel) ⟨Nat.le_of_ble_eq_true rfl, Nat.le_of_ble_eq_true rfl⟩) (pre_V X hw _ ha_x_L_57 rfl (by decide) rfl) rfl rfl hl.1 rfl (lv_room (Nat.le_of_ble_eq_true rfl)) dX12_condition_105 ⟨Nat.le_of_ble_eq_true rfl, Nat.le_of_ble_eq_true rfl⟩) 0 0 (Nat.le_of_ble_eq_true rfl) (Nat.le_of_ble_eq_true rfl) (fun rr_208 S_209 H locs hp hw hfr hnw => ?_)
          obtain ⟨e2, hp⟩ := hp
          subst e2
          rcases hp with ⟨f_210, er_211⟩ | ⟨f_210, er_211⟩ <;> subst er_211
          · have z_b_212 := trivial
            rw [rB_fr hG ha_x hO_T_56.fr (by decide +kernel)] at f_210
            refine lv_if_ne (tgt := 127) X.1 X.2.1 dX12_condition_108 (by decide) (fun c_213 => ?_) (fun c_213 => absurd c_213 (by decide))
            refine lv_aload_n X.1 X.2.1 dX12_condition_127 rfl (lv_at hl 2 rfl) ?_
            have ok_214 := hdI (RGB_ok hG ha_x iv_61)
            have ok_215 : ((nxT (rB S x) (pI S 1228 x).toInt.toNat t0)).2.1 ≤ ((nxT (rB S x) (pI S 1228 x).toInt.toNat t0)).2.2 ∧ ((nxT (rB S x) (pI S 1228 x).toInt.toNat t0)).2.2 ≤ 400 := ⟨(hdE ok_214).1, (hdE ok_214).2.1⟩
            obtain ⟨v_216, ev_216⟩ : ∃ v, pI T_56 1233 x = v := ⟨_, rfl⟩
            have rg_217 := gI_12_1233 hO_T_56.1 ha_x_L_57; rw [ev_216] at rg_217
            have pz_218 : (pI T_56 1233 x).toInt = v_216.toInt := by rw [ev_216]
            have pz_219 : (pI T_56 1233 x).toInt = v_216.toInt := (congrArg Int32.toInt ev_216).trans rfl
            refine k_v (rm := { frames := 2, cells := 0, slots := 0, locals := 96 }) (av := [.ref x]) X hw (va_runV (As := []) (rest := []) (cfix X) (k_X12_token2 l G cy κ T_56 _ x hO_T_56.1 ha_x_L_57) (cwV 0 X.2.2.2.1 gX12_condition_X12_token rfl rfl rfl (by decide +kernel) ⟨Nat.le_of_ble_eq_true rfl, Nat.le_of_ble_eq_true rfl⟩) (pre_V X hw _ ha_x_L_57 rfl (by decide) rfl) rfl rfl hl.1 rfl (lv_room (Nat.le_of_ble_eq_true rfl)) dX12_condition_128 ⟨Nat.le_of_ble_eq_true rfl, Nat.le_of_ble_eq_true rfl⟩) 0 0 (Nat.le_of_ble_eq_true rfl) (Nat.le_of_ble_eq_true rfl) (fun S_221 H locs hp hw hfr hnw => ?_)
            obtain ⟨hk_222, hp⟩ := hp
            have hO_223 : Ok MCt S S_221 := hO_T_56.call hk_222 (by decide +kernel)
            have rg_224 : RGB (rB S x) (pI S 1228 x).toInt.toNat S_221 x (nxT (rB S x) (pI S 1228 x).toInt.toNat (nxT (rB S x) (pI S 1228 x).toInt.toNat t0)) := RGB_adv iv_61 (rB_fr hG ha_x hO_T_56.fr (by decide +kernel)) (by rw [hO_T_56.fr.I' (g := 1228) (by decide +kernel) ha_x rfl]) (by omega) hp
            have ok_225 := hdI (RGB_ok hG ha_x rg_224)
            have ok_226 : ((nxT (rB S x) (pI S 1228 x).toInt.toNat (nxT (rB S x) (pI S 1228 x).toInt.toNat t0))).2.1 ≤ ((nxT (rB S x) (pI S 1228 x).toInt.toNat (nxT (rB S x) (pI S 1228 x).toInt.toNat t0))).2.2 ∧ ((nxT (rB S x) (pI S 1228 x).toInt.toNat (nxT (rB S x) (pI S 1228 x).toInt.toNat t0))).2.2 ≤ 400 := ⟨(hdE ok_225).1, (hdE ok_225).2.1⟩
            refine lv_aload_n X.1 X.2.1 dX12_condition_131 rfl (lv_at hl 2 rfl) ?_
            have t_227 : At S_221 x 12 := hk_222.fr.at ha_x_L_57
            obtain ⟨q_228, h_229, h_230, h_231⟩ := gQ_12_1226 hO_223.1 t_227
            refine r_getR (g := 1226) X hw t_227 rfl 26 h_229 (by decide) rfl inn_X12_condition_12 (by decide) (X.2.2.2.1 (.fieldLink RX12 79 "SilkMillModel" "than" "[I") (by decide +kernel)) rfl (gv_1226 _ _) dX12_condition_132 ?_
            refine lv_iload_n X.1 X.2.1 dX12_condition_135 rfl (lv_at hl 0 rfl) ?_
            refine lv_aload_n X.1 X.2.1 dX12_condition_136 rfl (lv_at hl 2 rfl) ?_
            have t_232 : pI S_221 1230 x = v_63 := hk_222.fr.I' (by decide +kernel) ha_x_L_57 ev_63
            have pz_233 : (pI S_221 1230 x).toInt = v_63.toInt := (congrArg Int32.toInt t_232).trans rfl
            refine k_i (rm := { frames := 3, cells := 0, slots := 0, locals := 144 }) (av := [.ref x]) X hw (va_runV (As := []) (rest := [.int (v_32), .ref q_228]) (cfix X) (k_X12_number2 l G cy κ S_221 _ x (nxT (rB S x) (pI S 1228 x).toInt.toNat (nxT (rB S x) (pI S 1228 x).toInt.toNat t0)) hO_223.1 t_227 (by rw [rB_fr hG ha_x hO_223.fr (by decide +kernel), hO_223.fr.I' (g := 1228) (by decide +kernel) ha_x rfl]; exact rg_224)) (cwV 0 X.2.2.2.1 gX12_condition_X12_number rfl rfl rfl (by decide +kernel) ⟨Nat.le_of_ble_eq_true rfl, Nat.le_of_ble_eq_true rfl⟩) (pre_V X hw _ t_227 rfl (by decide) rfl) rfl rfl hl.1 rfl (lv_room (Nat.le_of_ble_eq_true rfl)) dX12_condition_137 ⟨Nat.le_of_ble_eq_true rfl, Nat.le_of_ble_eq_true rfl⟩) 0 0 (Nat.le_of_ble_eq_true rfl) (Nat.le_of_ble_eq_true rfl) (fun rr_234 S_235 H locs hp hw hfr hnw => ?_)
            obtain ⟨hk_236, hp⟩ := hp
            have hO_237 : Ok MCt S S_235 := hO_223.call hk_236 (by decide +kernel)
            obtain ⟨nm_238, nm_239, nm_240, nm_241⟩ := hp
            rw [rB_fr hG ha_x hO_223.fr (by decide +kernel), hO_223.fr.I' (g := 1228) (by decide +kernel) ha_x rfl] at nm_240
            rw [rB_fr hG ha_x hO_223.fr (by decide +kernel), hO_223.fr.I' (g := 1228) (by decide +kernel) ha_x rfl] at nm_241
            by_cases hd_242 : (nxT (rB S x) (pI S 1228 x).toInt.toNat (nxT (rB S x) (pI S 1228 x).toInt.toNat t0)).1 = 2
            · have nq_243 := nm_240 hd_242
              have nfk_244 := nq_243.2.2
              obtain ⟨v_246, ev_246⟩ : ∃ v, pI S_235 1230 x = v := ⟨_, rfl⟩
              have rg_248 := And.intro (z_lo v_246) (z_hi v_246)
              have pz_249 : (pI S_235 1230 x).toInt = v_246.toInt := by rw [ev_246]
              have pz_250 : (pI S_235 1230 x).toInt = v_246.toInt := (congrArg Int32.toInt ev_246).trans rfl
              have ok_251 := hdI (RGB_ok hG ha_x nq_243.2.1)
              have ok_252 : ((nxT (rB S x) (pI S 1228 x).toInt.toNat (nxT (rB S x) (pI S 1228 x).toInt.toNat (nxT (rB S x) (pI S 1228 x).toInt.toNat t0)))).2.1 ≤ ((nxT (rB S x) (pI S 1228 x).toInt.toNat (nxT (rB S x) (pI S 1228 x).toInt.toNat (nxT (rB S x) (pI S 1228 x).toInt.toNat t0)))).2.2 ∧ ((nxT (rB S x) (pI S 1228 x).toInt.toNat (nxT (rB S x) (pI S 1228 x).toInt.toNat (nxT (rB S x) (pI S 1228 x).toInt.toNat t0)))).2.2 ≤ 400 := ⟨(hdE ok_251).1, (hdE ok_251).2.1⟩
              have t_253 : At S_235 q_228 734 := hk_236.fr.at h_230
              have t_254 : pN S_235 q_228 = 240 := hk_236.fr.N h_230 h_231
              clear h_231
              refine r_iast X hw t_253 rfl (by rw [t_254]; exact z_ix z_33 (by omega) (by omega)) dX12_condition_140 (fun H locs hw => ?_)
              obtain ⟨S_255, eS_255⟩ : ∃ T, T = sA S_235 q_228 (upd (pA S_235 q_228) (Int32.toNatClampNeg (v_32)) (rr_234)) := ⟨_, rfl⟩
              rw [← eS_255] at hw
              have hO_256 : Ok MCt S S_255 := hO_237.sA eS_255 t_253 (by decide +kernel) (uA_734 hO_237.1 t_253)
              have h_257 : pA S_255 q_228 (Int32.toNatClampNeg (v_32)) = rr_234 := tA_sAs eS_255
              refine lv_aload_n X.1 X.2.1 dX12_condition_141 rfl (lv_at hl 2 rfl) ?_
              have t_258 : At S_235 x 12 := hk_236.fr.at t_227
              have t_259 : At S_255 x 12 := tAt_sA eS_255 t_258
              obtain ⟨q_260, h_261, h_262, h_263⟩ := gQ_12_1223 hO_256.1 t_259
              refine r_getR (g := 1223) X hw t_259 rfl 23 h_261 (by decide) rfl inn_X12_condition_12 (by decide) (X.2.2.2.1 (.fieldLink RX12 70 "SilkMillModel" "conditions" "[I") (by decide +kernel)) rfl (gv_1223 _ _) dX12_condition_142 ?_
              have zc_264 : zA S_221 x 1223 = zA S x 1223 := (zA_fr hk_222.fr ha_x_L_57 (ex3 (gQ_12_1223 hO_T_56.1 ha_x_L_57)) (by decide +kernel) (by decide +kernel)).trans zk_60
              have zc_265 : zA S_235 x 1223 = zA S x 1223 := (zA_fr hk_236.fr t_227 (ex3 (gQ_12_1223 hO_223.1 t_227)) (by decide +kernel) (by decide +kernel)).trans zc_264
              have t_266 : At S_235 x 12 := hk_236.fr.at t_227
              have zc_267 : zA S_255 x 1223 = zA S x 1223 := (zA_sAn eS_255 (ex3 (gQ_12_1223 hO_237.1 t_266)) t_253 rfl).trans zc_265
              have zz_268 := congrFun zc_267 a1_z.toNat
              refine lv_iload_n X.1 X.2.1 dX12_condition_145 rfl (lv_at hl 3 rfl) ?_
              refine lv_dup2_11 X.1 X.2.1 dX12_condition_146 rfl rfl ?_
              refine r_iald X hw h_262 rfl (by rw [h_263]; exact z_ix hz_a1 (by omega) (by omega)) dX12_condition_147 ?_
              refine lv_topi (fun v_269 ev_269 => ?_)
              have z_270 := gE_674 hO_256.1 h_262 (Int32.toNatClampNeg (a1)); rw [← ev_269] at z_270
              have ev_269 := ev_269.symm
              have zf_271 : zA S_255 x 1223 (a1_z).toNat = v_269.toInt := (zA_of h_261 hz_a1 (by omega) ev_269)
              refine lv_iconst (v := 1) X.1 X.2.1 dX12_condition_148 (by decide) ?_
              refine lv_iadd X.1 X.2.1 dX12_condition_149 ?_
              refine lv_topi (fun v_272 ev_272 => ?_)
              have z_273 : v_272.toInt = v_269.toInt + 1 := z_add ev_272 rfl ti_1 (by omega) (by omega)
              refine r_iast X hw h_262 rfl (by rw [h_263]; exact z_ix hz_a1 (by omega) (by omega)) dX12_condition_150 (fun H locs hw => ?_)
              obtain ⟨S_274, eS_274⟩ : ∃ T, T = sA S_255 q_260 (upd (pA S_255 q_260) (Int32.toNatClampNeg (a1)) (v_272)) := ⟨_, rfl⟩
              rw [← eS_274] at hw
              have hO_275 : Ok MCt S S_274 := hO_256.sA eS_274 h_262 (by decide +kernel) (uA_674 hO_256.1 h_262 (by omega) (by omega))
              have h_276 : pA S_274 q_260 (Int32.toNatClampNeg (a1)) = v_272 := tA_sAs eS_274
              have t_277 : pR S_274 1223 x = some q_260 := tR_sA eS_274 h_261
              have t_279 : pR S_255 1223 x = some q_260 := by have h := t_277; rw [eS_274, pR_sA] at h; exact h
              have zs_278 : ∀ j, zA S_274 x 1223 j = if j = (a1_z).toNat then (v_269.toInt + 1) else zA S_255 x 1223 j := by have h := zA_sAs eS_274 t_279 z_273; rw [z_nc hz_a1 (by omega)] at h; exact h
              have zs_280 := zs_278 (a1_z).toNat; rw [if_pos rfl] at zs_280
              refine lv_aload_n X.1 X.2.1 dX12_condition_151 rfl (lv_at hl 2 rfl) ?_
              have t_281 : At S_274 x 12 := tAt_sA eS_274 t_259
              have t_282 : pI S_255 1230 x = v_246 := tI_sA eS_255 ev_246
              have t_283 : pI S_274 1230 x = v_246 := tI_sA eS_274 t_282
              refine r_getI (g := 1230) (x := v_246) X hw t_281 rfl 30 t_283 (by decide) rfl inn_X12_condition_12 (by decide) (X.2.2.2.1 (.fieldLink RX12 229 "SilkMillModel" "faultKind" "I") (by decide +kernel)) rfl (gv_1230 _ _) dX12_condition_152 ?_
              refine lv_if_ne (tgt := 162) X.1 X.2.1 dX12_condition_155 (by decide) (fun c_284 => ?_) (fun c_284 => ?_)
              · have z_b_285 := trivial
                have k_286 : v_246.toInt ≠ 0 := z_ne rfl ti_0 c_284
                refine lv_iconst (v := 0) X.1 X.2.1 dX12_condition_162 (by decide) ?_
                have pz_287 : (pI S_274 1230 x).toInt = v_246.toInt := (congrArg Int32.toInt t_283).trans rfl
                rw [hQQ]
                exact ret_z X hw hr hlocks (Nat.le_of_ble_eq_true rfl) (Nat.le_of_ble_eq_true rfl) (by decide) ⟨hO_275, (by exfalso; omega)⟩ dX12_condition_163
              · have z_b_288 := trivial
                have k_289 : v_246.toInt = 0 := z_eq rfl ti_0 c_284
                refine lv_iconst (v := 1) X.1 X.2.1 dX12_condition_158 (by decide) ?_
                refine lv_goto (tgt := 163) X.1 X.2.1 dX12_condition_159 (by decide) ?_
                have pz_290 : (pI S_274 1230 x).toInt = v_246.toInt := (congrArg Int32.toInt t_283).trans rfl
                have rg_291 := RGB_sA nq_243.2.1 eS_255
                have rg_292 := RGB_sA rg_291 eS_274
                rw [hQQ]
                exact ret_z X hw hr hlocks (Nat.le_of_ble_eq_true rfl) (Nat.le_of_ble_eq_true rfl) (by decide) ⟨hO_275, Or.inl ⟨⟨⟨by omega, Or.inr (Or.inl ((isR_eq iv_61).mp f_210.2)), hd_242⟩, rg_292, by omega, by omega, by omega⟩, rfl⟩⟩ dX12_condition_163
            · have nq_293 := nm_241 hd_242
              have nfk_294 := nq_293.2
              obtain ⟨v_296, ev_296⟩ : ∃ v, pI S_235 1230 x = v := ⟨_, rfl⟩
              have rg_298 := And.intro (z_lo v_296) (z_hi v_296)
              have pz_299 : (pI S_235 1230 x).toInt = v_296.toInt := by rw [ev_296]
              have pz_300 : (pI S_235 1230 x).toInt = v_296.toInt := (congrArg Int32.toInt ev_296).trans rfl
              have ok_301 := hdI (RGB_ok hG ha_x nq_293.1)
              have ok_302 : ((nxT (rB S x) (pI S 1228 x).toInt.toNat (nxT (rB S x) (pI S 1228 x).toInt.toNat t0))).2.1 ≤ ((nxT (rB S x) (pI S 1228 x).toInt.toNat (nxT (rB S x) (pI S 1228 x).toInt.toNat t0))).2.2 ∧ ((nxT (rB S x) (pI S 1228 x).toInt.toNat (nxT (rB S x) (pI S 1228 x).toInt.toNat t0))).2.2 ≤ 400 := ⟨(hdE ok_301).1, (hdE ok_301).2.1⟩
              have t_303 : At S_235 q_228 734 := hk_236.fr.at h_230
              have t_304 : pN S_235 q_228 = 240 := hk_236.fr.N h_230 h_231
              clear h_231
              refine r_iast X hw t_303 rfl (by rw [t_304]; exact z_ix z_33 (by omega) (by omega)) dX12_condition_140 (fun H locs hw => ?_)
              obtain ⟨S_305, eS_305⟩ : ∃ T, T = sA S_235 q_228 (upd (pA S_235 q_228) (Int32.toNatClampNeg (v_32)) (rr_234)) := ⟨_, rfl⟩
              rw [← eS_305] at hw
              have hO_306 : Ok MCt S S_305 := hO_237.sA eS_305 t_303 (by decide +kernel) (uA_734 hO_237.1 t_303)
              have h_307 : pA S_305 q_228 (Int32.toNatClampNeg (v_32)) = rr_234 := tA_sAs eS_305
              refine lv_aload_n X.1 X.2.1 dX12_condition_141 rfl (lv_at hl 2 rfl) ?_
              have t_308 : At S_235 x 12 := hk_236.fr.at t_227
              have t_309 : At S_305 x 12 := tAt_sA eS_305 t_308
              obtain ⟨q_310, h_311, h_312, h_313⟩ := gQ_12_1223 hO_306.1 t_309
              refine r_getR (g := 1223) X hw t_309 rfl 23 h_311 (by decide) rfl inn_X12_condition_12 (by decide) (X.2.2.2.1 (.fieldLink RX12 70 "SilkMillModel" "conditions" "[I") (by decide +kernel)) rfl (gv_1223 _ _) dX12_condition_142 ?_
              have zc_314 : zA S_221 x 1223 = zA S x 1223 := (zA_fr hk_222.fr ha_x_L_57 (ex3 (gQ_12_1223 hO_T_56.1 ha_x_L_57)) (by decide +kernel) (by decide +kernel)).trans zk_60
              have zc_315 : zA S_235 x 1223 = zA S x 1223 := (zA_fr hk_236.fr t_227 (ex3 (gQ_12_1223 hO_223.1 t_227)) (by decide +kernel) (by decide +kernel)).trans zc_314
              have t_316 : At S_235 x 12 := hk_236.fr.at t_227
              have zc_317 : zA S_305 x 1223 = zA S x 1223 := (zA_sAn eS_305 (ex3 (gQ_12_1223 hO_237.1 t_316)) t_303 rfl).trans zc_315
              have zz_318 := congrFun zc_317 a1_z.toNat
              refine lv_iload_n X.1 X.2.1 dX12_condition_145 rfl (lv_at hl 3 rfl) ?_
              refine lv_dup2_11 X.1 X.2.1 dX12_condition_146 rfl rfl ?_
              refine r_iald X hw h_312 rfl (by rw [h_313]; exact z_ix hz_a1 (by omega) (by omega)) dX12_condition_147 ?_
              refine lv_topi (fun v_319 ev_319 => ?_)
              have z_320 := gE_674 hO_306.1 h_312 (Int32.toNatClampNeg (a1)); rw [← ev_319] at z_320
              have ev_319 := ev_319.symm
              have zf_321 : zA S_305 x 1223 (a1_z).toNat = v_319.toInt := (zA_of h_311 hz_a1 (by omega) ev_319)
              refine lv_iconst (v := 1) X.1 X.2.1 dX12_condition_148 (by decide) ?_
              refine lv_iadd X.1 X.2.1 dX12_condition_149 ?_
              refine lv_topi (fun v_322 ev_322 => ?_)
              have z_323 : v_322.toInt = v_319.toInt + 1 := z_add ev_322 rfl ti_1 (by omega) (by omega)
              refine r_iast X hw h_312 rfl (by rw [h_313]; exact z_ix hz_a1 (by omega) (by omega)) dX12_condition_150 (fun H locs hw => ?_)
              obtain ⟨S_324, eS_324⟩ : ∃ T, T = sA S_305 q_310 (upd (pA S_305 q_310) (Int32.toNatClampNeg (a1)) (v_322)) := ⟨_, rfl⟩
              rw [← eS_324] at hw
              have hO_325 : Ok MCt S S_324 := hO_306.sA eS_324 h_312 (by decide +kernel) (uA_674 hO_306.1 h_312 (by omega) (by omega))
              have h_326 : pA S_324 q_310 (Int32.toNatClampNeg (a1)) = v_322 := tA_sAs eS_324
              have t_327 : pR S_324 1223 x = some q_310 := tR_sA eS_324 h_311
              have t_329 : pR S_305 1223 x = some q_310 := by have h := t_327; rw [eS_324, pR_sA] at h; exact h
              have zs_328 : ∀ j, zA S_324 x 1223 j = if j = (a1_z).toNat then (v_319.toInt + 1) else zA S_305 x 1223 j := by have h := zA_sAs eS_324 t_329 z_323; rw [z_nc hz_a1 (by omega)] at h; exact h
              have zs_330 := zs_328 (a1_z).toNat; rw [if_pos rfl] at zs_330
              refine lv_aload_n X.1 X.2.1 dX12_condition_151 rfl (lv_at hl 2 rfl) ?_
              have t_331 : At S_324 x 12 := tAt_sA eS_324 t_309
              have t_332 : pI S_305 1230 x = v_296 := tI_sA eS_305 ev_296
              have t_333 : pI S_324 1230 x = v_296 := tI_sA eS_324 t_332
              refine r_getI (g := 1230) (x := v_296) X hw t_331 rfl 30 t_333 (by decide) rfl inn_X12_condition_12 (by decide) (X.2.2.2.1 (.fieldLink RX12 229 "SilkMillModel" "faultKind" "I") (by decide +kernel)) rfl (gv_1230 _ _) dX12_condition_152 ?_
              refine lv_if_ne (tgt := 162) X.1 X.2.1 dX12_condition_155 (by decide) (fun c_334 => ?_) (fun c_334 => ?_)
              · have z_b_335 := trivial
                have k_336 : v_296.toInt ≠ 0 := z_ne rfl ti_0 c_334
                refine lv_iconst (v := 0) X.1 X.2.1 dX12_condition_162 (by decide) ?_
                have pz_337 : (pI S_324 1230 x).toInt = v_296.toInt := (congrArg Int32.toInt t_333).trans rfl
                rw [hQQ]
                exact ret_z X hw hr hlocks (Nat.le_of_ble_eq_true rfl) (Nat.le_of_ble_eq_true rfl) (by decide) ⟨hO_325, Or.inr ⟨Or.inr (Or.inr ⟨by omega, fun h => hd_242 h.2.2, by omega⟩), rfl⟩⟩ dX12_condition_163
              · have z_b_338 := trivial
                have k_339 : v_296.toInt = 0 := z_eq rfl ti_0 c_334
                refine lv_iconst (v := 1) X.1 X.2.1 dX12_condition_158 (by decide) ?_
                refine lv_goto (tgt := 163) X.1 X.2.1 dX12_condition_159 (by decide) ?_
                have pz_340 : (pI S_324 1230 x).toInt = v_296.toInt := (congrArg Int32.toInt t_333).trans rfl
                rw [hQQ]
                exact ret_z X hw hr hlocks (Nat.le_of_ble_eq_true rfl) (Nat.le_of_ble_eq_true rfl) (by decide) ⟨hO_325, (by exfalso; omega)⟩ dX12_condition_163
          · have z_b_341 := trivial
            rw [rB_fr hG ha_x hO_T_56.fr (by decide +kernel)] at f_210
            refine lv_if_ne (tgt := 127) X.1 X.2.1 dX12_condition_108 (by decide) (fun c_342 => absurd c_342 (by decide)) (fun c_342 => ?_)
            refine lv_aload_n X.1 X.2.1 dX12_condition_111 rfl (lv_at hl 2 rfl) ?_
            refine lv_ldcwS (q := κ (100 + 20)) X.1 X.2.1 X.2.2.2.2.1 (show vk_R RX12 262 ">" (κ (100 + 20)) s from (X.2.2.2.2.2.2.2.2.2.2.2.2.2.2 20 (by decide)).1) dX12_condition_112 ?_
            have pz_343 : (pI T_56 1230 x).toInt = v_63.toInt := (congrArg Int32.toInt ev_63).trans rfl
            refine k_i (rm := { frames := 5, cells := 0, slots := 0, locals := 240 }) (av := [.ref x, .ref (κ (100 + 20))]) X hw (va_runV (As := [.ref (κ (100 + 20))]) (rest := []) (cfix X) (k_X12_is2 l G cy κ T_56 _ x 20 (nxT (rB S x) (pI S 1228 x).toInt.toNat t0) hO_T_56.1 ha_x_L_57 (by decide) iv_61.1 (by first | assumption | omega) (by first | assumption | omega)) (cwV 1 X.2.2.2.1 gX12_condition_X12_is rfl rfl rfl (by decide +kernel) ⟨Nat.le_of_ble_eq_true rfl, Nat.le_of_ble_eq_true rfl⟩) (pre_V X hw _ ha_x_L_57 rfl (by decide) rfl) rfl rfl hl.1 rfl (lv_room (Nat.le_of_ble_eq_true rfl)) dX12_condition_115 ⟨Nat.le_of_ble_eq_true rfl, Nat.le_of_ble_eq_true rfl⟩) 0 0 (Nat.le_of_ble_eq_true rfl) (Nat.le_of_ble_eq_true rfl) (fun rr_344 S_345 H locs hp hw hfr hnw => ?_)
            obtain ⟨e2, hp⟩ := hp
            subst e2
            rcases hp with ⟨f_346, er_347⟩ | ⟨f_346, er_347⟩ <;> subst er_347
            · have z_b_348 := trivial
              rw [rB_fr hG ha_x hO_T_56.fr (by decide +kernel)] at f_346
              refine lv_if_ne (tgt := 127) X.1 X.2.1 dX12_condition_118 (by decide) (fun c_349 => ?_) (fun c_349 => absurd c_349 (by decide))
              refine lv_aload_n X.1 X.2.1 dX12_condition_127 rfl (lv_at hl 2 rfl) ?_
              have ok_350 := hdI (RGB_ok hG ha_x iv_61)
              have ok_351 : ((nxT (rB S x) (pI S 1228 x).toInt.toNat t0)).2.1 ≤ ((nxT (rB S x) (pI S 1228 x).toInt.toNat t0)).2.2 ∧ ((nxT (rB S x) (pI S 1228 x).toInt.toNat t0)).2.2 ≤ 400 := ⟨(hdE ok_350).1, (hdE ok_350).2.1⟩
              obtain ⟨v_352, ev_352⟩ : ∃ v, pI T_56 1233 x = v := ⟨_, rfl⟩
              have rg_353 := gI_12_1233 hO_T_56.1 ha_x_L_57; rw [ev_352] at rg_353
              have pz_354 : (pI T_56 1233 x).toInt = v_352.toInt := by rw [ev_352]
              have pz_355 : (pI T_56 1233 x).toInt = v_352.toInt := (congrArg Int32.toInt ev_352).trans rfl
              refine k_v (rm := { frames := 2, cells := 0, slots := 0, locals := 96 }) (av := [.ref x]) X hw (va_runV (As := []) (rest := []) (cfix X) (k_X12_token2 l G cy κ T_56 _ x hO_T_56.1 ha_x_L_57) (cwV 0 X.2.2.2.1 gX12_condition_X12_token rfl rfl rfl (by decide +kernel) ⟨Nat.le_of_ble_eq_true rfl, Nat.le_of_ble_eq_true rfl⟩) (pre_V X hw _ ha_x_L_57 rfl (by decide) rfl) rfl rfl hl.1 rfl (lv_room (Nat.le_of_ble_eq_true rfl)) dX12_condition_128 ⟨Nat.le_of_ble_eq_true rfl, Nat.le_of_ble_eq_true rfl⟩) 0 0 (Nat.le_of_ble_eq_true rfl) (Nat.le_of_ble_eq_true rfl) (fun S_357 H locs hp hw hfr hnw => ?_)
              obtain ⟨hk_358, hp⟩ := hp
              have hO_359 : Ok MCt S S_357 := hO_T_56.call hk_358 (by decide +kernel)
              have rg_360 : RGB (rB S x) (pI S 1228 x).toInt.toNat S_357 x (nxT (rB S x) (pI S 1228 x).toInt.toNat (nxT (rB S x) (pI S 1228 x).toInt.toNat t0)) := RGB_adv iv_61 (rB_fr hG ha_x hO_T_56.fr (by decide +kernel)) (by rw [hO_T_56.fr.I' (g := 1228) (by decide +kernel) ha_x rfl]) (by omega) hp
              have ok_361 := hdI (RGB_ok hG ha_x rg_360)
              have ok_362 : ((nxT (rB S x) (pI S 1228 x).toInt.toNat (nxT (rB S x) (pI S 1228 x).toInt.toNat t0))).2.1 ≤ ((nxT (rB S x) (pI S 1228 x).toInt.toNat (nxT (rB S x) (pI S 1228 x).toInt.toNat t0))).2.2 ∧ ((nxT (rB S x) (pI S 1228 x).toInt.toNat (nxT (rB S x) (pI S 1228 x).toInt.toNat t0))).2.2 ≤ 400 := ⟨(hdE ok_361).1, (hdE ok_361).2.1⟩
              refine lv_aload_n X.1 X.2.1 dX12_condition_131 rfl (lv_at hl 2 rfl) ?_
              have t_363 : At S_357 x 12 := hk_358.fr.at ha_x_L_57
              obtain ⟨q_364, h_365, h_366, h_367⟩ := gQ_12_1226 hO_359.1 t_363
              refine r_getR (g := 1226) X hw t_363 rfl 26 h_365 (by decide) rfl inn_X12_condition_12 (by decide) (X.2.2.2.1 (.fieldLink RX12 79 "SilkMillModel" "than" "[I") (by decide +kernel)) rfl (gv_1226 _ _) dX12_condition_132 ?_
              refine lv_iload_n X.1 X.2.1 dX12_condition_135 rfl (lv_at hl 0 rfl) ?_
              refine lv_aload_n X.1 X.2.1 dX12_condition_136 rfl (lv_at hl 2 rfl) ?_
              have t_368 : pI S_357 1230 x = v_63 := hk_358.fr.I' (by decide +kernel) ha_x_L_57 ev_63
              have pz_369 : (pI S_357 1230 x).toInt = v_63.toInt := (congrArg Int32.toInt t_368).trans rfl
              refine k_i (rm := { frames := 3, cells := 0, slots := 0, locals := 144 }) (av := [.ref x]) X hw (va_runV (As := []) (rest := [.int (v_32), .ref q_364]) (cfix X) (k_X12_number2 l G cy κ S_357 _ x (nxT (rB S x) (pI S 1228 x).toInt.toNat (nxT (rB S x) (pI S 1228 x).toInt.toNat t0)) hO_359.1 t_363 (by rw [rB_fr hG ha_x hO_359.fr (by decide +kernel), hO_359.fr.I' (g := 1228) (by decide +kernel) ha_x rfl]; exact rg_360)) (cwV 0 X.2.2.2.1 gX12_condition_X12_number rfl rfl rfl (by decide +kernel) ⟨Nat.le_of_ble_eq_true rfl, Nat.le_of_ble_eq_true rfl⟩) (pre_V X hw _ t_363 rfl (by decide) rfl) rfl rfl hl.1 rfl (lv_room (Nat.le_of_ble_eq_true rfl)) dX12_condition_137 ⟨Nat.le_of_ble_eq_true rfl, Nat.le_of_ble_eq_true rfl⟩) 0 0 (Nat.le_of_ble_eq_true rfl) (Nat.le_of_ble_eq_true rfl) (fun rr_370 S_371 H locs hp hw hfr hnw => ?_)
              obtain ⟨hk_372, hp⟩ := hp
              have hO_373 : Ok MCt S S_371 := hO_359.call hk_372 (by decide +kernel)
              obtain ⟨nm_374, nm_375, nm_376, nm_377⟩ := hp
              rw [rB_fr hG ha_x hO_359.fr (by decide +kernel), hO_359.fr.I' (g := 1228) (by decide +kernel) ha_x rfl] at nm_376
              rw [rB_fr hG ha_x hO_359.fr (by decide +kernel), hO_359.fr.I' (g := 1228) (by decide +kernel) ha_x rfl] at nm_377
              by_cases hd_378 : (nxT (rB S x) (pI S 1228 x).toInt.toNat (nxT (rB S x) (pI S 1228 x).toInt.toNat t0)).1 = 2
              · have nq_379 := nm_376 hd_378
                have nfk_380 := nq_379.2.2
                obtain ⟨v_382, ev_382⟩ : ∃ v, pI S_371 1230 x = v := ⟨_, rfl⟩
                have rg_384 := And.intro (z_lo v_382) (z_hi v_382)
                have pz_385 : (pI S_371 1230 x).toInt = v_382.toInt := by rw [ev_382]
                have pz_386 : (pI S_371 1230 x).toInt = v_382.toInt := (congrArg Int32.toInt ev_382).trans rfl
                have ok_387 := hdI (RGB_ok hG ha_x nq_379.2.1)
                have ok_388 : ((nxT (rB S x) (pI S 1228 x).toInt.toNat (nxT (rB S x) (pI S 1228 x).toInt.toNat (nxT (rB S x) (pI S 1228 x).toInt.toNat t0)))).2.1 ≤ ((nxT (rB S x) (pI S 1228 x).toInt.toNat (nxT (rB S x) (pI S 1228 x).toInt.toNat (nxT (rB S x) (pI S 1228 x).toInt.toNat t0)))).2.2 ∧ ((nxT (rB S x) (pI S 1228 x).toInt.toNat (nxT (rB S x) (pI S 1228 x).toInt.toNat (nxT (rB S x) (pI S 1228 x).toInt.toNat t0)))).2.2 ≤ 400 := ⟨(hdE ok_387).1, (hdE ok_387).2.1⟩
                have t_389 : At S_371 q_364 734 := hk_372.fr.at h_366
                have t_390 : pN S_371 q_364 = 240 := hk_372.fr.N h_366 h_367
                clear h_367
                refine r_iast X hw t_389 rfl (by rw [t_390]; exact z_ix z_33 (by omega) (by omega)) dX12_condition_140 (fun H locs hw => ?_)
                obtain ⟨S_391, eS_391⟩ : ∃ T, T = sA S_371 q_364 (upd (pA S_371 q_364) (Int32.toNatClampNeg (v_32)) (rr_370)) := ⟨_, rfl⟩
                rw [← eS_391] at hw
                have hO_392 : Ok MCt S S_391 := hO_373.sA eS_391 t_389 (by decide +kernel) (uA_734 hO_373.1 t_389)
                have h_393 : pA S_391 q_364 (Int32.toNatClampNeg (v_32)) = rr_370 := tA_sAs eS_391
                refine lv_aload_n X.1 X.2.1 dX12_condition_141 rfl (lv_at hl 2 rfl) ?_
                have t_394 : At S_371 x 12 := hk_372.fr.at t_363
                have t_395 : At S_391 x 12 := tAt_sA eS_391 t_394
                obtain ⟨q_396, h_397, h_398, h_399⟩ := gQ_12_1223 hO_392.1 t_395
                refine r_getR (g := 1223) X hw t_395 rfl 23 h_397 (by decide) rfl inn_X12_condition_12 (by decide) (X.2.2.2.1 (.fieldLink RX12 70 "SilkMillModel" "conditions" "[I") (by decide +kernel)) rfl (gv_1223 _ _) dX12_condition_142 ?_
                have zc_400 : zA S_357 x 1223 = zA S x 1223 := (zA_fr hk_358.fr ha_x_L_57 (ex3 (gQ_12_1223 hO_T_56.1 ha_x_L_57)) (by decide +kernel) (by decide +kernel)).trans zk_60
                have zc_401 : zA S_371 x 1223 = zA S x 1223 := (zA_fr hk_372.fr t_363 (ex3 (gQ_12_1223 hO_359.1 t_363)) (by decide +kernel) (by decide +kernel)).trans zc_400
                have t_402 : At S_371 x 12 := hk_372.fr.at t_363
                have zc_403 : zA S_391 x 1223 = zA S x 1223 := (zA_sAn eS_391 (ex3 (gQ_12_1223 hO_373.1 t_402)) t_389 rfl).trans zc_401
                have zz_404 := congrFun zc_403 a1_z.toNat
                refine lv_iload_n X.1 X.2.1 dX12_condition_145 rfl (lv_at hl 3 rfl) ?_
                refine lv_dup2_11 X.1 X.2.1 dX12_condition_146 rfl rfl ?_
                refine r_iald X hw h_398 rfl (by rw [h_399]; exact z_ix hz_a1 (by omega) (by omega)) dX12_condition_147 ?_
                refine lv_topi (fun v_405 ev_405 => ?_)
                have z_406 := gE_674 hO_392.1 h_398 (Int32.toNatClampNeg (a1)); rw [← ev_405] at z_406
                have ev_405 := ev_405.symm
                have zf_407 : zA S_391 x 1223 (a1_z).toNat = v_405.toInt := (zA_of h_397 hz_a1 (by omega) ev_405)
                refine lv_iconst (v := 1) X.1 X.2.1 dX12_condition_148 (by decide) ?_
                refine lv_iadd X.1 X.2.1 dX12_condition_149 ?_
                refine lv_topi (fun v_408 ev_408 => ?_)
                have z_409 : v_408.toInt = v_405.toInt + 1 := z_add ev_408 rfl ti_1 (by omega) (by omega)
                refine r_iast X hw h_398 rfl (by rw [h_399]; exact z_ix hz_a1 (by omega) (by omega)) dX12_condition_150 (fun H locs hw => ?_)
                obtain ⟨S_410, eS_410⟩ : ∃ T, T = sA S_391 q_396 (upd (pA S_391 q_396) (Int32.toNatClampNeg (a1)) (v_408)) := ⟨_, rfl⟩
                rw [← eS_410] at hw
                have hO_411 : Ok MCt S S_410 := hO_392.sA eS_410 h_398 (by decide +kernel) (uA_674 hO_392.1 h_398 (by omega) (by omega))
                have h_412 : pA S_410 q_396 (Int32.toNatClampNeg (a1)) = v_408 := tA_sAs eS_410
                have t_413 : pR S_410 1223 x = some q_396 := tR_sA eS_410 h_397
                have t_415 : pR S_391 1223 x = some q_396 := by have h := t_413; rw [eS_410, pR_sA] at h; exact h
                have zs_414 : ∀ j, zA S_410 x 1223 j = if j = (a1_z).toNat then (v_405.toInt + 1) else zA S_391 x 1223 j := by have h := zA_sAs eS_410 t_415 z_409; rw [z_nc hz_a1 (by omega)] at h; exact h
                have zs_416 := zs_414 (a1_z).toNat; rw [if_pos rfl] at zs_416
                refine lv_aload_n X.1 X.2.1 dX12_condition_151 rfl (lv_at hl 2 rfl) ?_
                have t_417 : At S_410 x 12 := tAt_sA eS_410 t_395
                have t_418 : pI S_391 1230 x = v_382 := tI_sA eS_391 ev_382
                have t_419 : pI S_410 1230 x = v_382 := tI_sA eS_410 t_418
                refine r_getI (g := 1230) (x := v_382) X hw t_417 rfl 30 t_419 (by decide) rfl inn_X12_condition_12 (by decide) (X.2.2.2.1 (.fieldLink RX12 229 "SilkMillModel" "faultKind" "I") (by decide +kernel)) rfl (gv_1230 _ _) dX12_condition_152 ?_
                refine lv_if_ne (tgt := 162) X.1 X.2.1 dX12_condition_155 (by decide) (fun c_420 => ?_) (fun c_420 => ?_)
                · have z_b_421 := trivial
                  have k_422 : v_382.toInt ≠ 0 := z_ne rfl ti_0 c_420
                  refine lv_iconst (v := 0) X.1 X.2.1 dX12_condition_162 (by decide) ?_
                  have pz_423 : (pI S_410 1230 x).toInt = v_382.toInt := (congrArg Int32.toInt t_419).trans rfl
                  rw [hQQ]
                  exact ret_z X hw hr hlocks (Nat.le_of_ble_eq_true rfl) (Nat.le_of_ble_eq_true rfl) (by decide) ⟨hO_411, (by exfalso; omega)⟩ dX12_condition_163
                · have z_b_424 := trivial
                  have k_425 : v_382.toInt = 0 := z_eq rfl ti_0 c_420
                  refine lv_iconst (v := 1) X.1 X.2.1 dX12_condition_158 (by decide) ?_
                  refine lv_goto (tgt := 163) X.1 X.2.1 dX12_condition_159 (by decide) ?_
                  have pz_426 : (pI S_410 1230 x).toInt = v_382.toInt := (congrArg Int32.toInt t_419).trans rfl
                  have rg_427 := RGB_sA nq_379.2.1 eS_391
                  have rg_428 := RGB_sA rg_427 eS_410
                  rw [hQQ]
                  exact ret_z X hw hr hlocks (Nat.le_of_ble_eq_true rfl) (Nat.le_of_ble_eq_true rfl) (by decide) ⟨hO_411, Or.inl ⟨⟨⟨by omega, Or.inr (Or.inr ((isR_gt iv_61).mp f_346.2)), hd_378⟩, rg_428, by omega, by omega, by omega⟩, rfl⟩⟩ dX12_condition_163
              · have nq_429 := nm_377 hd_378
                have nfk_430 := nq_429.2
                obtain ⟨v_432, ev_432⟩ : ∃ v, pI S_371 1230 x = v := ⟨_, rfl⟩
                have rg_434 := And.intro (z_lo v_432) (z_hi v_432)
                have pz_435 : (pI S_371 1230 x).toInt = v_432.toInt := by rw [ev_432]
                have pz_436 : (pI S_371 1230 x).toInt = v_432.toInt := (congrArg Int32.toInt ev_432).trans rfl
                have ok_437 := hdI (RGB_ok hG ha_x nq_429.1)
                have ok_438 : ((nxT (rB S x) (pI S 1228 x).toInt.toNat (nxT (rB S x) (pI S 1228 x).toInt.toNat t0))).2.1 ≤ ((nxT (rB S x) (pI S 1228 x).toInt.toNat (nxT (rB S x) (pI S 1228 x).toInt.toNat t0))).2.2 ∧ ((nxT (rB S x) (pI S 1228 x).toInt.toNat (nxT (rB S x) (pI S 1228 x).toInt.toNat t0))).2.2 ≤ 400 := ⟨(hdE ok_437).1, (hdE ok_437).2.1⟩
                have t_439 : At S_371 q_364 734 := hk_372.fr.at h_366
                have t_440 : pN S_371 q_364 = 240 := hk_372.fr.N h_366 h_367
                clear h_367
                refine r_iast X hw t_439 rfl (by rw [t_440]; exact z_ix z_33 (by omega) (by omega)) dX12_condition_140 (fun H locs hw => ?_)
                obtain ⟨S_441, eS_441⟩ : ∃ T, T = sA S_371 q_364 (upd (pA S_371 q_364) (Int32.toNatClampNeg (v_32)) (rr_370)) := ⟨_, rfl⟩
                rw [← eS_441] at hw
                have hO_442 : Ok MCt S S_441 := hO_373.sA eS_441 t_439 (by decide +kernel) (uA_734 hO_373.1 t_439)
                have h_443 : pA S_441 q_364 (Int32.toNatClampNeg (v_32)) = rr_370 := tA_sAs eS_441
                refine lv_aload_n X.1 X.2.1 dX12_condition_141 rfl (lv_at hl 2 rfl) ?_
                have t_444 : At S_371 x 12 := hk_372.fr.at t_363
                have t_445 : At S_441 x 12 := tAt_sA eS_441 t_444
                obtain ⟨q_446, h_447, h_448, h_449⟩ := gQ_12_1223 hO_442.1 t_445
                refine r_getR (g := 1223) X hw t_445 rfl 23 h_447 (by decide) rfl inn_X12_condition_12 (by decide) (X.2.2.2.1 (.fieldLink RX12 70 "SilkMillModel" "conditions" "[I") (by decide +kernel)) rfl (gv_1223 _ _) dX12_condition_142 ?_
                have zc_450 : zA S_357 x 1223 = zA S x 1223 := (zA_fr hk_358.fr ha_x_L_57 (ex3 (gQ_12_1223 hO_T_56.1 ha_x_L_57)) (by decide +kernel) (by decide +kernel)).trans zk_60
                have zc_451 : zA S_371 x 1223 = zA S x 1223 := (zA_fr hk_372.fr t_363 (ex3 (gQ_12_1223 hO_359.1 t_363)) (by decide +kernel) (by decide +kernel)).trans zc_450
                have t_452 : At S_371 x 12 := hk_372.fr.at t_363
                have zc_453 : zA S_441 x 1223 = zA S x 1223 := (zA_sAn eS_441 (ex3 (gQ_12_1223 hO_373.1 t_452)) t_439 rfl).trans zc_451
                have zz_454 := congrFun zc_453 a1_z.toNat
                refine lv_iload_n X.1 X.2.1 dX12_condition_145 rfl (lv_at hl 3 rfl) ?_
                refine lv_dup2_11 X.1 X.2.1 dX12_condition_146 rfl rfl ?_
                refine r_iald X hw h_448 rfl (by rw [h_449]; exact z_ix hz_a1 (by omega) (by omega)) dX12_condition_147 ?_
                refine lv_topi (fun v_455 ev_455 => ?_)
                have z_456 := gE_674 hO_442.1 h_448 (Int32.toNatClampNeg (a1)); rw [← ev_455] at z_456
                have ev_455 := ev_455.symm
                have zf_457 : zA S_441 x 1223 (a1_z).toNat = v_455.toInt := (zA_of h_447 hz_a1 (by omega) ev_455)
                refine lv_iconst (v := 1) X.1 X.2.1 dX12_condition_148 (by decide) ?_
                refine lv_iadd X.1 X.2.1 dX12_condition_149 ?_
                refine lv_topi (fun v_458 ev_458 => ?_)
                have z_459 : v_458.toInt = v_455.toInt + 1 := z_add ev_458 rfl ti_1 (by omega) (by omega)
                refine r_iast X hw h_448 rfl (by rw [h_449]; exact z_ix hz_a1 (by omega) (by omega)) dX12_condition_150 (fun H locs hw => ?_)
                obtain ⟨S_460, eS_460⟩ : ∃ T, T = sA S_441 q_446 (upd (pA S_441 q_446) (Int32.toNatClampNeg (a1)) (v_458)) := ⟨_, rfl⟩
                rw [← eS_460] at hw
                have hO_461 : Ok MCt S S_460 := hO_442.sA eS_460 h_448 (by decide +kernel) (uA_674 hO_442.1 h_448 (by omega) (by omega))
                have h_462 : pA S_460 q_446 (Int32.toNatClampNeg (a1)) = v_458 := tA_sAs eS_460
                have t_463 : pR S_460 1223 x = some q_446 := tR_sA eS_460 h_447
                have t_465 : pR S_441 1223 x = some q_446 := by have h := t_463; rw [eS_460, pR_sA] at h; exact h
                have zs_464 : ∀ j, zA S_460 x 1223 j = if j = (a1_z).toNat then (v_455.toInt + 1) else zA S_441 x 1223 j := by have h := zA_sAs eS_460 t_465 z_459; rw [z_nc hz_a1 (by omega)] at h; exact h
                have zs_466 := zs_464 (a1_z).toNat; rw [if_pos rfl] at zs_466
                refine lv_aload_n X.1 X.2.1 dX12_condition_151 rfl (lv_at hl 2 rfl) ?_
                have t_467 : At S_460 x 12 := tAt_sA eS_460 t_445
                have t_468 : pI S_441 1230 x = v_432 := tI_sA eS_441 ev_432
                have t_469 : pI S_460 1230 x = v_432 := tI_sA eS_460 t_468
                refine r_getI (g := 1230) (x := v_432) X hw t_467 rfl 30 t_469 (by decide) rfl inn_X12_condition_12 (by decide) (X.2.2.2.1 (.fieldLink RX12 229 "SilkMillModel" "faultKind" "I") (by decide +kernel)) rfl (gv_1230 _ _) dX12_condition_152 ?_
                refine lv_if_ne (tgt := 162) X.1 X.2.1 dX12_condition_155 (by decide) (fun c_470 => ?_) (fun c_470 => ?_)
                · have z_b_471 := trivial
                  have k_472 : v_432.toInt ≠ 0 := z_ne rfl ti_0 c_470
                  refine lv_iconst (v := 0) X.1 X.2.1 dX12_condition_162 (by decide) ?_
                  have pz_473 : (pI S_460 1230 x).toInt = v_432.toInt := (congrArg Int32.toInt t_469).trans rfl
                  rw [hQQ]
                  exact ret_z X hw hr hlocks (Nat.le_of_ble_eq_true rfl) (Nat.le_of_ble_eq_true rfl) (by decide) ⟨hO_461, Or.inr ⟨Or.inr (Or.inr ⟨by omega, fun h => hd_378 h.2.2, by omega⟩), rfl⟩⟩ dX12_condition_163
                · have z_b_474 := trivial
                  have k_475 : v_432.toInt = 0 := z_eq rfl ti_0 c_470
                  refine lv_iconst (v := 1) X.1 X.2.1 dX12_condition_158 (by decide) ?_
                  refine lv_goto (tgt := 163) X.1 X.2.1 dX12_condition_159 (by decide) ?_
                  have pz_476 : (pI S_460 1230 x).toInt = v_432.toInt := (congrArg Int32.toInt t_469).trans rfl
                  rw [hQQ]
                  exact ret_z X hw hr hlocks (Nat.le_of_ble_eq_true rfl) (Nat.le_of_ble_eq_true rfl) (by decide) ⟨hO_461, (by exfalso; omega)⟩ dX12_condition_163
            · have z_b_477 := trivial
              rw [rB_fr hG ha_x hO_T_56.fr (by decide +kernel)] at f_346
              refine lv_if_ne (tgt := 127) X.1 X.2.1 dX12_condition_118 (by decide) (fun c_478 => absurd c_478 (by decide)) (fun c_478 => ?_)
              refine lv_aload_n X.1 X.2.1 dX12_condition_121 rfl (lv_at hl 2 rfl) ?_
              refine lv_iconst (v := 1) X.1 X.2.1 dX12_condition_122 (by decide) ?_
              refine k_i (rm := { frames := 1, cells := 0, slots := 0, locals := 48 }) (av := [.ref x, .int 1]) X hw (va_runV (As := [.int 1]) (rest := []) (cfix X) (k_X12_wrong2 l G cy κ T_56 _ x (1) (1) hO_T_56.1 ha_x_L_57 ti_1) (cwV 1 X.2.2.2.1 gX12_condition_X12_wrong rfl rfl rfl (by decide +kernel) ⟨Nat.le_of_ble_eq_true rfl, Nat.le_of_ble_eq_true rfl⟩) (pre_V X hw _ ha_x_L_57 rfl (by decide) rfl) rfl rfl hl.1 rfl (lv_room (Nat.le_of_ble_eq_true rfl)) dX12_condition_123 ⟨Nat.le_of_ble_eq_true rfl, Nat.le_of_ble_eq_true rfl⟩) 0 0 (Nat.le_of_ble_eq_true rfl) (Nat.le_of_ble_eq_true rfl) (fun rr_479 S_480 H locs hp hw hfr hnw => ?_)
              obtain ⟨hk_481, hp⟩ := hp
              have hO_482 : Ok MCt S S_480 := hO_T_56.call hk_481 (by decide +kernel)
              rcases hp with ⟨f_483, er_484⟩ | ⟨f_483, er_484⟩ <;> subst er_484
              · have z_b_485 := trivial
                exact f_483.elim
              · have z_b_486 := trivial
                obtain ⟨v_488, ev_488⟩ : ∃ v, pI S_480 1230 x = v := ⟨_, rfl⟩
                have rg_490 := And.intro (z_lo v_488) (z_hi v_488)
                have pz_491 : (pI S_480 1230 x).toInt = v_488.toInt := by rw [ev_488]
                have pz_492 : (pI S_480 1230 x).toInt = v_488.toInt := (congrArg Int32.toInt ev_488).trans rfl
                rw [hQQ]
                exact ret_z X hw hr hlocks (Nat.le_of_ble_eq_true rfl) (Nat.le_of_ble_eq_true rfl) (by decide) ⟨hO_482, Or.inr ⟨Or.inr (Or.inr ⟨by omega, fun h => by rcases h.2.1 with h | h | h; exact f_74 ⟨by omega, (isR_lt iv_61).mpr h⟩; exact f_210 ⟨by omega, (isR_eq iv_61).mpr h⟩; exact f_346 ⟨by omega, (isR_gt iv_61).mpr h⟩, by omega⟩), rfl⟩⟩ dX12_condition_126
      refine lv_aload_n X.1 X.2.1 dX12_condition_56 rfl (lv_at hl 2 rfl) ?_
      have t_493 : At S_52 x 12 := tAt_sA eS_52 t_47
      obtain ⟨q_494, h_495, h_496, h_497⟩ := gQ_12_1225 hO_53.1 t_493
      refine r_getR (g := 1225) X hw t_493 rfl 25 h_495 (by decide) rfl inn_X12_condition_12 (by decide) (X.2.2.2.1 (.fieldLink RX12 76 "SilkMillModel" "rel" "[I") (by decide +kernel)) rfl (gv_1225 _ _) dX12_condition_57 ?_
      refine lv_iload_n X.1 X.2.1 dX12_condition_60 rfl (lv_at hl 0 rfl) ?_
      refine lv_aload_n X.1 X.2.1 dX12_condition_61 rfl (lv_at hl 2 rfl) ?_
      refine lv_ldcwS (q := κ (100 + 18)) X.1 X.2.1 X.2.2.2.2.1 (show vk_R RX12 258 "<" (κ (100 + 18)) s from (X.2.2.2.2.2.2.2.2.2.2.2.2.2.2 18 (by decide)).1) dX12_condition_62 ?_
      have rg_498 := RGB_sA rg_44 eS_52
      have t_499 : pI S_41 1230 x = v_1 := hk_42.fr.I' (by decide +kernel) ha_x ev_1
      have t_500 : pI S_52 1230 x = v_1 := tI_sA eS_52 t_499
      have pz_501 : (pI S_52 1230 x).toInt = v_1.toInt := (congrArg Int32.toInt t_500).trans rfl
      refine k_i (rm := { frames := 5, cells := 0, slots := 0, locals := 240 }) (av := [.ref x, .ref (κ (100 + 18))]) X hw (va_runV (As := [.ref (κ (100 + 18))]) (rest := [.int (v_32), .ref q_494]) (cfix X) (k_X12_is2 l G cy κ S_52 _ x 18 (nxT (rB S x) (pI S 1228 x).toInt.toNat t0) hO_53.1 t_493 (by decide) rg_498.1 (by first | assumption | omega) (by first | assumption | omega)) (cwV 1 X.2.2.2.1 gX12_condition_X12_is rfl rfl rfl (by decide +kernel) ⟨Nat.le_of_ble_eq_true rfl, Nat.le_of_ble_eq_true rfl⟩) (pre_V X hw _ t_493 rfl (by decide) rfl) rfl rfl hl.1 rfl (lv_room (Nat.le_of_ble_eq_true rfl)) dX12_condition_65 ⟨Nat.le_of_ble_eq_true rfl, Nat.le_of_ble_eq_true rfl⟩) 0 0 (Nat.le_of_ble_eq_true rfl) (Nat.le_of_ble_eq_true rfl) (fun rr_502 S_503 H locs hp hw hfr hnw => ?_)
      obtain ⟨e2, hp⟩ := hp
      subst e2
      rcases hp with ⟨f_504, er_505⟩ | ⟨f_504, er_505⟩ <;> subst er_505
      · have z_b_506 := trivial
        rw [rB_fr hG ha_x hO_53.fr (by decide +kernel)] at f_504
        refine lv_if_eq (tgt := 75) X.1 X.2.1 dX12_condition_68 (by decide) (fun c_507 => absurd c_507 (by decide)) (fun c_507 => ?_)
        refine lv_iconst (v := 0) X.1 X.2.1 dX12_condition_71 (by decide) ?_
        refine lv_goto (tgt := 90) X.1 X.2.1 dX12_condition_72 (by decide) ?_
        refine r_iast X hw h_496 rfl (by rw [h_497]; exact z_ix z_33 (by omega) (by omega)) dX12_condition_90 (fun H locs hw => ?_)
        obtain ⟨S_508, eS_508⟩ : ∃ T, T = sA S_52 q_494 (upd (pA S_52 q_494) (Int32.toNatClampNeg (v_32)) (0)) := ⟨_, rfl⟩
        rw [← eS_508] at hw
        have hO_509 : Ok MCt S S_508 := hO_53.sA eS_508 h_496 (by decide +kernel) (uA_714 hO_53.1 h_496)
        have h_510 : pA S_508 q_494 (Int32.toNatClampNeg (v_32)) = 0 := tA_sAs eS_508
        have t_511 : pI S_508 1230 x = v_1 := tI_sA eS_508 t_500
        have pz_512 : (pI S_508 1230 x).toInt = v_1.toInt := (congrArg Int32.toInt t_511).trans rfl
        have t_513 : At S_508 x 12 := tAt_sA eS_508 t_493
        have zc_514 : zA S_508 x 1223 = zA S x 1223 := (zA_sAn eS_508 (ex3 (gQ_12_1223 hO_53.1 t_493)) h_496 rfl).trans zc_59
        have rg_515 := RGB_sA rg_498 eS_508
        exact L_55 _ _ _ _  hw t_513 hO_509 zc_514 rg_515 (by omega) (lv_sub hl [0, 1, 2, 3] rfl)
      · have z_b_516 := trivial
        rw [rB_fr hG ha_x hO_53.fr (by decide +kernel)] at f_504
        refine lv_if_eq (tgt := 75) X.1 X.2.1 dX12_condition_68 (by decide) (fun c_517 => ?_) (fun c_517 => absurd c_517 (by decide))
        refine lv_aload_n X.1 X.2.1 dX12_condition_75 rfl (lv_at hl 2 rfl) ?_
        refine lv_ldcwS (q := κ (100 + 19)) X.1 X.2.1 X.2.2.2.2.1 (show vk_R RX12 260 "=" (κ (100 + 19)) s from (X.2.2.2.2.2.2.2.2.2.2.2.2.2.2 19 (by decide)).1) dX12_condition_76 ?_
        have pz_518 : (pI S_52 1230 x).toInt = v_1.toInt := (congrArg Int32.toInt t_500).trans rfl
        refine k_i (rm := { frames := 5, cells := 0, slots := 0, locals := 240 }) (av := [.ref x, .ref (κ (100 + 19))]) X hw (va_runV (As := [.ref (κ (100 + 19))]) (rest := [.int (v_32), .ref q_494]) (cfix X) (k_X12_is2 l G cy κ S_52 _ x 19 (nxT (rB S x) (pI S 1228 x).toInt.toNat t0) hO_53.1 t_493 (by decide) rg_498.1 (by first | assumption | omega) (by first | assumption | omega)) (cwV 1 X.2.2.2.1 gX12_condition_X12_is rfl rfl rfl (by decide +kernel) ⟨Nat.le_of_ble_eq_true rfl, Nat.le_of_ble_eq_true rfl⟩) (pre_V X hw _ t_493 rfl (by decide) rfl) rfl rfl hl.1 rfl (lv_room (Nat.le_of_ble_eq_true rfl)) dX12_condition_79 ⟨Nat.le_of_ble_eq_true rfl, Nat.le_of_ble_eq_true rfl⟩) 0 0 (Nat.le_of_ble_eq_true rfl) (Nat.le_of_ble_eq_true rfl) (fun rr_519 S_520 H locs hp hw hfr hnw => ?_)
        obtain ⟨e2, hp⟩ := hp
        subst e2
        rcases hp with ⟨f_521, er_522⟩ | ⟨f_521, er_522⟩ <;> subst er_522
        · have z_b_523 := trivial
          rw [rB_fr hG ha_x hO_53.fr (by decide +kernel)] at f_521
          refine lv_if_eq (tgt := 89) X.1 X.2.1 dX12_condition_82 (by decide) (fun c_524 => absurd c_524 (by decide)) (fun c_524 => ?_)
          refine lv_iconst (v := 1) X.1 X.2.1 dX12_condition_85 (by decide) ?_
          refine lv_goto (tgt := 90) X.1 X.2.1 dX12_condition_86 (by decide) ?_
          refine r_iast X hw h_496 rfl (by rw [h_497]; exact z_ix z_33 (by omega) (by omega)) dX12_condition_90 (fun H locs hw => ?_)
          obtain ⟨S_525, eS_525⟩ : ∃ T, T = sA S_52 q_494 (upd (pA S_52 q_494) (Int32.toNatClampNeg (v_32)) (1)) := ⟨_, rfl⟩
          rw [← eS_525] at hw
          have hO_526 : Ok MCt S S_525 := hO_53.sA eS_525 h_496 (by decide +kernel) (uA_714 hO_53.1 h_496)
          have h_527 : pA S_525 q_494 (Int32.toNatClampNeg (v_32)) = 1 := tA_sAs eS_525
          have t_528 : pI S_525 1230 x = v_1 := tI_sA eS_525 t_500
          have pz_529 : (pI S_525 1230 x).toInt = v_1.toInt := (congrArg Int32.toInt t_528).trans rfl
          have t_530 : At S_525 x 12 := tAt_sA eS_525 t_493
          have zc_531 : zA S_525 x 1223 = zA S x 1223 := (zA_sAn eS_525 (ex3 (gQ_12_1223 hO_53.1 t_493)) h_496 rfl).trans zc_59
          have rg_532 := RGB_sA rg_498 eS_525
          exact L_55 _ _ _ _  hw t_530 hO_526 zc_531 rg_532 (by omega) (lv_sub hl [0, 1, 2, 3] rfl)
        · have z_b_533 := trivial
          rw [rB_fr hG ha_x hO_53.fr (by decide +kernel)] at f_521
          refine lv_if_eq (tgt := 89) X.1 X.2.1 dX12_condition_82 (by decide) (fun c_534 => ?_) (fun c_534 => absurd c_534 (by decide))
          refine lv_iconst (v := 2) X.1 X.2.1 dX12_condition_89 (by decide) ?_
          refine r_iast X hw h_496 rfl (by rw [h_497]; exact z_ix z_33 (by omega) (by omega)) dX12_condition_90 (fun H locs hw => ?_)
          obtain ⟨S_535, eS_535⟩ : ∃ T, T = sA S_52 q_494 (upd (pA S_52 q_494) (Int32.toNatClampNeg (v_32)) (2)) := ⟨_, rfl⟩
          rw [← eS_535] at hw
          have hO_536 : Ok MCt S S_535 := hO_53.sA eS_535 h_496 (by decide +kernel) (uA_714 hO_53.1 h_496)
          have h_537 : pA S_535 q_494 (Int32.toNatClampNeg (v_32)) = 2 := tA_sAs eS_535
          have t_538 : pI S_535 1230 x = v_1 := tI_sA eS_535 t_500
          have pz_539 : (pI S_535 1230 x).toInt = v_1.toInt := (congrArg Int32.toInt t_538).trans rfl
          have t_540 : At S_535 x 12 := tAt_sA eS_535 t_493
          have zc_541 : zA S_535 x 1223 = zA S x 1223 := (zA_sAn eS_535 (ex3 (gQ_12_1223 hO_53.1 t_493)) h_496 rfl).trans zc_59
          have rg_542 := RGB_sA rg_498 eS_535
          exact L_55 _ _ _ _  hw t_540 hO_536 zc_541 rg_542 (by omega) (lv_sub hl [0, 1, 2, 3] rfl)
    · have z_b_543 := trivial
      have k_544 : v_24.toInt = 4 := z_eq rfl ti_4 c_27
      refine lv_aload_n X.1 X.2.1 dX12_condition_28 rfl (lv_at hl 1 rfl) ?_
      refine lv_iconst (v := 2) X.1 X.2.1 dX12_condition_29 (by decide) ?_
      have pz_545 : (pI S 1230 x).toInt = v_1.toInt := (congrArg Int32.toInt ev_1).trans rfl
      refine k_i (rm := { frames := 1, cells := 0, slots := 0, locals := 48 }) (av := [.ref x, .int 2]) X hw (va_runV (As := [.int 2]) (rest := []) (cfix X) (k_X12_wrong2 l G cy κ S _ x (2) (2) hO.1 ha_x ti_2) (cwV 1 X.2.2.2.1 gX12_condition_X12_wrong rfl rfl rfl (by decide +kernel) ⟨Nat.le_of_ble_eq_true rfl, Nat.le_of_ble_eq_true rfl⟩) (pre_V X hw _ ha_x rfl (by decide) rfl) rfl rfl hl.1 rfl (lv_room (Nat.le_of_ble_eq_true rfl)) dX12_condition_30 ⟨Nat.le_of_ble_eq_true rfl, Nat.le_of_ble_eq_true rfl⟩) 0 0 (Nat.le_of_ble_eq_true rfl) (Nat.le_of_ble_eq_true rfl) (fun rr_546 S_547 H locs hp hw hfr hnw => ?_)
      obtain ⟨hk_548, hp⟩ := hp
      have hO_549 : Ok MCt S S_547 := hO.call hk_548 (by decide +kernel)
      rcases hp with ⟨f_550, er_551⟩ | ⟨f_550, er_551⟩ <;> subst er_551
      · have z_b_552 := trivial
        exact f_550.elim
      · have z_b_553 := trivial
        obtain ⟨v_555, ev_555⟩ : ∃ v, pI S_547 1230 x = v := ⟨_, rfl⟩
        have rg_557 := And.intro (z_lo v_555) (z_hi v_555)
        have pz_558 : (pI S_547 1230 x).toInt = v_555.toInt := by rw [ev_555]
        have pz_559 : (pI S_547 1230 x).toInt = v_555.toInt := (congrArg Int32.toInt ev_555).trans rfl
        rw [hQQ]
        exact ret_z X hw hr hlocks (Nat.le_of_ble_eq_true rfl) (Nat.le_of_ble_eq_true rfl) (by decide) ⟨hO_549, Or.inr ⟨Or.inr (Or.inl ⟨by omega, by omega, by omega⟩), rfl⟩⟩ dX12_condition_33
  · have z_b_560 := trivial
    have k_561 : rr_12.toInt = (-1) := z_eq rfl ti_m1 c_17
    refine lv_aload_n X.1 X.2.1 dX12_condition_12 rfl (lv_at hl 1 rfl) ?_
    refine lv_iconst (v := 1) X.1 X.2.1 dX12_condition_13 (by decide) ?_
    have pz_562 : (pI S 1230 x).toInt = v_1.toInt := (congrArg Int32.toInt ev_1).trans rfl
    refine k_i (rm := { frames := 1, cells := 0, slots := 0, locals := 48 }) (av := [.ref x, .int 1]) X hw (va_runV (As := [.int 1]) (rest := []) (cfix X) (k_X12_wrong2 l G cy κ S _ x (1) (1) hO.1 ha_x ti_1) (cwV 1 X.2.2.2.1 gX12_condition_X12_wrong rfl rfl rfl (by decide +kernel) ⟨Nat.le_of_ble_eq_true rfl, Nat.le_of_ble_eq_true rfl⟩) (pre_V X hw _ ha_x rfl (by decide) rfl) rfl rfl hl.1 rfl (lv_room (Nat.le_of_ble_eq_true rfl)) dX12_condition_14 ⟨Nat.le_of_ble_eq_true rfl, Nat.le_of_ble_eq_true rfl⟩) 0 0 (Nat.le_of_ble_eq_true rfl) (Nat.le_of_ble_eq_true rfl) (fun rr_563 S_564 H locs hp hw hfr hnw => ?_)
    obtain ⟨hk_565, hp⟩ := hp
    have hO_566 : Ok MCt S S_564 := hO.call hk_565 (by decide +kernel)
    rcases hp with ⟨f_567, er_568⟩ | ⟨f_567, er_568⟩ <;> subst er_568
    · have z_b_569 := trivial
      exact f_567.elim
    · have z_b_570 := trivial
      obtain ⟨v_572, ev_572⟩ : ∃ v, pI S_564 1230 x = v := ⟨_, rfl⟩
      have rg_574 := And.intro (z_lo v_572) (z_hi v_572)
      have pz_575 : (pI S_564 1230 x).toInt = v_572.toInt := by rw [ev_572]
      have pz_576 : (pI S_564 1230 x).toInt = v_572.toInt := (congrArg Int32.toInt ev_572).trans rfl
      rw [hQQ]
      exact ret_z X hw hr hlocks (Nat.le_of_ble_eq_true rfl) (Nat.le_of_ble_eq_true rfl) (by decide) ⟨hO_566, Or.inr ⟨Or.inl ⟨by omega, by omega⟩, rfl⟩⟩ dX12_condition_17
