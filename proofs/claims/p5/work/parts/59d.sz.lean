
set_option maxHeartbeats 4000000 in
set_option maxRecDepth 100000 in
theorem k_X12_acts3 (l : Launch) (G : va_G) (cy : Nat → ClassId) (κ : Nat → Nat) (S : PS) (sz : Nat) (x : Nat) (a1 : Int32) (a1_z : Int) (a2 : Int32) (a2_z : Int) (hG : GX S) (ha_x : At S x 12) (hz_a1 : a1.toInt = a1_z) (hz_a2 : a2.toInt = a2_z) (hp_0 : 0 ≤ a1_z) (hp_1 : a1_z ≤ 3) (hp_2 : 0 ≤ a2_z) (hp_3 : a2_z ≤ 59) (hp_4 : MI S x) : Cv l yX12_acts wsX12_acts ({ frames := 7, cells := 0, slots := 0, locals := 336 }) G cy κ S sz [.ref x, .int (a1), .int (a2)] (fun (S9 : PS) => Ok MAC S S9 ∧ (MI S9 x ∧ (GR S x → GR S9 x) ∧ ZM S S9 x)) := by
  refine ent_m (cc := cX12_acts) (maxL := 4) (ret := none) (by decide) rfl (Nat.le_of_ble_eq_true rfl) ?_
  intro p e s m below meth c ls X hr hlocks hin hw hl hsz
  subst hsz
  have X : Cx p c cX12_acts 4 s [.ref x, .int (a1), .int (a2)].toArray wsX12_acts RX12 m G cy κ (AS S s.heap.size) := X
  have hl : lv_has ls 4 [(0, .ref x), (1, .int (a1)), (2, .int (a2))] := hl
  have rg_a1 : (-2147483648) ≤ a1_z ∧ a1_z ≤ 2147483647 := by rw [← hz_a1]; exact ⟨z_lo _, z_hi _⟩
  have rg_a2 : (-2147483648) ≤ a2_z ∧ a2_z ≤ 2147483647 := by rw [← hz_a2]; exact ⟨z_lo _, z_hi _⟩
  have hO : Ok MAC S S := Ok.rf hG
  obtain ⟨v_1, ev_1⟩ : ∃ v, pI S 1201 x = v := ⟨_, rfl⟩
  have rg_2 := gI_12_1201 hO.1 ha_x; rw [ev_1] at rg_2
  have pz_3 : (pI S 1201 x).toInt = v_1.toInt := by rw [ev_1]
  have pz_4 : (pI S 1201 x).toInt = v_1.toInt := (congrArg Int32.toInt ev_1).trans rfl
  have hzm0 : ZM S S x := ZM_rf S x
  refine lv_aload_n X.1 X.2.1 dX12_acts_0 rfl (lv_at hl 0 rfl) ?_
  obtain ⟨q_5, h_6, h_7, h_8⟩ := gQ_12_1221 hO.1 ha_x
  refine r_getR (g := 1221) X hw ha_x rfl 21 h_6 (by decide) rfl inn_X12_acts_12 (by decide) (X.2.2.2.1 (.fieldLink RX12 64 "SilkMillModel" "act" "[I") (by decide +kernel)) rfl (gv_1221 _ _) dX12_acts_1 ?_
  refine lv_iload_n X.1 X.2.1 dX12_acts_4 rfl (lv_at hl 2 rfl) ?_
  refine r_iald X hw h_7 rfl (by rw [h_8]; exact z_ix hz_a2 (by omega) (by omega)) dX12_acts_5 ?_
  refine lv_topi (fun v_9 ev_9 => ?_)
  have rg_10 := And.intro (z_lo v_9) (z_hi v_9)
  have ev_9 := ev_9.symm
  by_cases w_11 : (v_9).toInt < 0 ∨ 4 < (v_9).toInt
  · refine lv_tableOut (tgt := 202) X.1 X.2.1 dX12_acts_6 w_11 (by decide) ?_
    refine lv_aload_n X.1 X.2.1 dX12_acts_202 rfl (lv_at hl 0 rfl) ?_
    obtain ⟨q_12, h_13, h_14, h_15⟩ := gQ_12_1215 hO.1 ha_x
    refine r_getR (g := 1215) X hw ha_x rfl 15 h_13 (by decide) rfl inn_X12_acts_12 (by decide) (X.2.2.2.1 (.fieldLink RX12 46 "SilkMillModel" "stop" "[I") (by decide +kernel)) rfl (gv_1215 _ _) dX12_acts_203 ?_
    refine lv_iload_n X.1 X.2.1 dX12_acts_206 rfl (lv_at hl 1 rfl) ?_
    refine lv_dup2_11 X.1 X.2.1 dX12_acts_207 rfl rfl ?_
    refine r_iald X hw h_14 rfl (by rw [h_15]; exact z_ix hz_a1 (by omega) (by omega)) dX12_acts_208 ?_
    refine lv_topi (fun v_16 ev_16 => ?_)
    have rg_17 := And.intro (z_lo v_16) (z_hi v_16)
    have ev_16 := ev_16.symm
    refine lv_aload_n X.1 X.2.1 dX12_acts_209 rfl (lv_at hl 0 rfl) ?_
    obtain ⟨q_18, h_19, h_20, h_21⟩ := gQ_12_1222 hO.1 ha_x
    refine r_getR (g := 1222) X hw ha_x rfl 22 h_19 (by decide) rfl inn_X12_acts_12 (by decide) (X.2.2.2.1 (.fieldLink RX12 67 "SilkMillModel" "actNumber" "[I") (by decide +kernel)) rfl (gv_1222 _ _) dX12_acts_210 ?_
    refine lv_iload_n X.1 X.2.1 dX12_acts_213 rfl (lv_at hl 2 rfl) ?_
    refine r_iald X hw h_20 rfl (by rw [h_21]; exact z_ix hz_a2 (by omega) (by omega)) dX12_acts_214 ?_
    refine lv_topi (fun v_22 ev_22 => ?_)
    have rg_23 := And.intro (z_lo v_22) (z_hi v_22)
    have ev_22 := ev_22.symm
    refine lv_iadd X.1 X.2.1 dX12_acts_215 ?_
    refine lv_topi (fun v_24 ev_24 => ?_)
    have rg_25 := And.intro (z_lo v_24) (z_hi v_24)
    refine r_iast X hw h_14 rfl (by rw [h_15]; exact z_ix hz_a1 (by omega) (by omega)) dX12_acts_216 (fun H locs hw => ?_)
    obtain ⟨S_26, eS_26⟩ : ∃ T, T = sA S q_12 (upd (pA S q_12) (Int32.toNatClampNeg (a1)) (v_24)) := ⟨_, rfl⟩
    rw [← eS_26] at hw
    have hO_27 : Ok MAC S S_26 := hO.sA eS_26 h_14 (by decide +kernel) (uA_514 hO.1 h_14)
    have h_28 : pA S_26 q_12 (Int32.toNatClampNeg (a1)) = v_24 := tA_sAs eS_26
    have mi_29 : MIe S_26 x (-1) := MIe_sA hp_4 hO.1 ha_x h_14 eS_26 (by decide +kernel)
    have zc_30 : zA S_26 x 1237 = zA S x 1237 := zA_sAn eS_26 (ex3 (gQ_12_1237 hO.1 ha_x)) h_14 rfl
    have zm_31 : ZM S S_26 x := ZM_eq hzm0 (zA_sAn eS_26 (ex3 (gQ_12_1207 hO.1 ha_x)) h_14 rfl)
    exact ret_v X hw hr hlocks (Nat.le_of_ble_eq_true rfl) (Nat.le_of_ble_eq_true rfl) ⟨hO_27, ⟨mi_29, fun hgr => (GR_eq zc_30 hgr), zm_31⟩⟩ dX12_acts_217
  have w_11b : (v_9).toInt = 0 ∨ (v_9).toInt = 1 ∨ (v_9).toInt = 2 ∨ (v_9).toInt = 3 ∨ (v_9).toInt = 4 := by omega
  rcases w_11b with w_11c | w_11c | w_11c | w_11c | w_11c
  · refine lv_tableIn (tgt := 40) X.1 X.2.1 dX12_acts_6 (by omega) (by omega) (by rw [w_11c]; rfl) (by decide) ?_
    refine lv_aload_n X.1 X.2.1 dX12_acts_40 rfl (lv_at hl 0 rfl) ?_
    refine lv_iload_n X.1 X.2.1 dX12_acts_41 rfl (lv_at hl 1 rfl) ?_
    refine lv_iconst (v := 0) X.1 X.2.1 dX12_acts_42 (by decide) ?_
    refine k_i (rm := { frames := 1, cells := 0, slots := 0, locals := 48 }) (av := [.ref x, .int (a1), .int 0]) X hw (va_runV (As := [.int (a1), .int 0]) (rest := []) (cfix X) (k_X12_many2 l G cy κ S _ x (a1) (a1_z) (0) (0) hO.1 ha_x hz_a1 ti_0 (by first | assumption | omega) (by first | assumption | omega) (by first | assumption | omega) (by first | assumption | omega)) (cwV 2 X.2.2.2.1 gX12_acts_X12_many rfl rfl rfl (by decide +kernel) ⟨Nat.le_of_ble_eq_true rfl, Nat.le_of_ble_eq_true rfl⟩) (pre_V X hw _ ha_x rfl (by decide) rfl) rfl rfl hl.1 rfl (lv_room (Nat.le_of_ble_eq_true rfl)) dX12_acts_43 ⟨Nat.le_of_ble_eq_true rfl, Nat.le_of_ble_eq_true rfl⟩) 0 0 (Nat.le_of_ble_eq_true rfl) (Nat.le_of_ble_eq_true rfl) (fun rr_32 S_33 H locs hp hw hfr hnw => ?_)
    obtain ⟨e2, hp⟩ := hp
    subst e2
    obtain ⟨f_34, f_35, f_36⟩ := hp
    refine lv_if_le (tgt := 79) X.1 X.2.1 dX12_acts_46 (by decide) (fun c_37 => ?_) (fun c_37 => ?_)
    · have z_b_38 := trivial
      have k_39 : rr_32.toInt ≤ 0 := z_le rfl ti_0 c_37
      exact ret_v X hw hr hlocks (Nat.le_of_ble_eq_true rfl) (Nat.le_of_ble_eq_true rfl) ⟨hO, ⟨hp_4, fun hgr => hgr, hzm0⟩⟩ dX12_acts_79
    · have z_b_40 := trivial
      have k_41 : rr_32.toInt > 0 := z_nle rfl ti_0 c_37
      refine lv_aload_n X.1 X.2.1 dX12_acts_49 rfl (lv_at hl 0 rfl) ?_
      refine lv_iload_n X.1 X.2.1 dX12_acts_50 rfl (lv_at hl 1 rfl) ?_
      refine lv_iconst (v := 1) X.1 X.2.1 dX12_acts_51 (by decide) ?_
      refine k_i (rm := { frames := 1, cells := 0, slots := 0, locals := 48 }) (av := [.ref x, .int (a1), .int 1]) X hw (va_runV (As := [.int (a1), .int 1]) (rest := []) (cfix X) (k_X12_many2 l G cy κ S _ x (a1) (a1_z) (1) (1) hO.1 ha_x hz_a1 ti_1 (by first | assumption | omega) (by first | assumption | omega) (by first | assumption | omega) (by first | assumption | omega)) (cwV 2 X.2.2.2.1 gX12_acts_X12_many rfl rfl rfl (by decide +kernel) ⟨Nat.le_of_ble_eq_true rfl, Nat.le_of_ble_eq_true rfl⟩) (pre_V X hw _ ha_x rfl (by decide) rfl) rfl rfl hl.1 rfl (lv_room (Nat.le_of_ble_eq_true rfl)) dX12_acts_52 ⟨Nat.le_of_ble_eq_true rfl, Nat.le_of_ble_eq_true rfl⟩) 0 0 (Nat.le_of_ble_eq_true rfl) (Nat.le_of_ble_eq_true rfl) (fun rr_42 S_43 H locs hp hw hfr hnw => ?_)
      obtain ⟨e2, hp⟩ := hp
      subst e2
      obtain ⟨f_44, f_45, f_46⟩ := hp
      refine lv_bipush (v := 12) X.1 X.2.1 dX12_acts_55 (by decide) ?_
      refine lv_icmp_ge (tgt := 79) X.1 X.2.1 dX12_acts_57 (by decide) (fun c_47 => ?_) (fun c_47 => ?_)
      · have z_b_48 := trivial
        have k_49 : rr_42.toInt ≥ 12 := z_le ti_12 rfl c_47
        exact ret_v X hw hr hlocks (Nat.le_of_ble_eq_true rfl) (Nat.le_of_ble_eq_true rfl) ⟨hO, ⟨hp_4, fun hgr => hgr, hzm0⟩⟩ dX12_acts_79
      · have z_b_50 := trivial
        have k_51 : rr_42.toInt < 12 := z_nle ti_12 rfl c_47
        refine lv_aload_n X.1 X.2.1 dX12_acts_60 rfl (lv_at hl 0 rfl) ?_
        refine lv_iload_n X.1 X.2.1 dX12_acts_61 rfl (lv_at hl 1 rfl) ?_
        refine lv_iconst (v := 1) X.1 X.2.1 dX12_acts_62 (by decide) ?_
        refine lv_aload_n X.1 X.2.1 dX12_acts_63 rfl (lv_at hl 0 rfl) ?_
        refine lv_iload_n X.1 X.2.1 dX12_acts_64 rfl (lv_at hl 1 rfl) ?_
        refine lv_iconst (v := 0) X.1 X.2.1 dX12_acts_65 (by decide) ?_
        refine lv_iconst (v := 0) X.1 X.2.1 dX12_acts_66 (by decide) ?_
        refine k_i (rm := { frames := 1, cells := 0, slots := 0, locals := 48 }) (av := [.ref x, .int (a1), .int 0, .int 0]) X hw (va_runV (As := [.int (a1), .int 0, .int 0]) (rest := [.int 1, .int (a1), .ref x]) (cfix X) (k_X12_goes l G cy κ S _ x (a1) (a1_z) (0) (0) (0) (0) (-1) hO.1 ha_x hz_a1 ti_0 ti_0 (by first | assumption | omega) (by first | assumption | omega) (by first | assumption | omega) (by first | assumption | omega) (by first | assumption | omega) (by first | assumption | omega) hp_4) (cwV 3 X.2.2.2.1 gX12_acts_X12_goes rfl rfl rfl (by decide +kernel) ⟨Nat.le_of_ble_eq_true rfl, Nat.le_of_ble_eq_true rfl⟩) (pre_V X hw _ ha_x rfl (by decide) rfl) rfl rfl hl.1 rfl (lv_room (Nat.le_of_ble_eq_true rfl)) dX12_acts_67 ⟨Nat.le_of_ble_eq_true rfl, Nat.le_of_ble_eq_true rfl⟩) 0 0 (Nat.le_of_ble_eq_true rfl) (Nat.le_of_ble_eq_true rfl) (fun rr_52 S_53 H locs hp hw hfr hnw => ?_)
        obtain ⟨hk_54, hp⟩ := hp
        have hO_55 : Ok MAC S S_53 := hO.call hk_54 (by decide +kernel)
        obtain ⟨g_56, g_57, g_58, g_59, g_60, g_61, g_62, g_63⟩ := hp
        have t_64 : pI S_53 1201 x = v_1 := hk_54.fr.I' (by decide +kernel) ha_x ev_1
        have pz_65 : (pI S_53 1201 x).toInt = v_1.toInt := (congrArg Int32.toInt t_64).trans rfl
        have zl_66 : zA S_53 x 1207 = zA S x 1207 := zA_fr hk_54.fr ha_x (ex3 (gQ_12_1207 hO.1 ha_x)) (by decide +kernel) (by decide +kernel)
        have zz_67 := congrFun zl_66 (rr_52.toInt).toNat
        have al_68 := ((MI_1 g_61 (c := rr_52.toInt) (by omega) (by omega)).2 (by omega)).2 (by omega) (by omega)
        have gi_69 := g_63 (3 * a1_z + 1).toNat; rw [if_neg (by omega)] at gi_69
        have m4_70 := g_61.2.2.2.1.2 (3 * a1_z + 1).toNat (by omega)
        refine lv_aload_n X.1 X.2.1 dX12_acts_70 rfl (lv_at hl 0 rfl) ?_
        refine lv_iload_n X.1 X.2.1 dX12_acts_71 rfl (lv_at hl 1 rfl) ?_
        refine lv_iconst (v := 1) X.1 X.2.1 dX12_acts_72 (by decide) ?_
        have t_71 : At S_53 x 12 := hk_54.fr.at ha_x
        refine k_i (rm := { frames := 1, cells := 0, slots := 0, locals := 48 }) (av := [.ref x, .int (a1), .int 1]) X hw (va_runV (As := [.int (a1), .int 1]) (rest := [.int (rr_52), .int 1, .int (a1), .ref x]) (cfix X) (k_X12_many2 l G cy κ S_53 _ x (a1) (a1_z) (1) (1) hO_55.1 t_71 hz_a1 ti_1 (by first | assumption | omega) (by first | assumption | omega) (by first | assumption | omega) (by first | assumption | omega)) (cwV 2 X.2.2.2.1 gX12_acts_X12_many rfl rfl rfl (by decide +kernel) ⟨Nat.le_of_ble_eq_true rfl, Nat.le_of_ble_eq_true rfl⟩) (pre_V X hw _ t_71 rfl (by decide) rfl) rfl rfl hl.1 rfl (lv_room (Nat.le_of_ble_eq_true rfl)) dX12_acts_73 ⟨Nat.le_of_ble_eq_true rfl, Nat.le_of_ble_eq_true rfl⟩) 0 0 (Nat.le_of_ble_eq_true rfl) (Nat.le_of_ble_eq_true rfl) (fun rr_72 S_73 H locs hp hw hfr hnw => ?_)
        obtain ⟨e2, hp⟩ := hp
        subst e2
        obtain ⟨f_74, f_75, f_76⟩ := hp
        refine k_v (rm := { frames := 1, cells := 0, slots := 0, locals := 48 }) (av := [.ref x, .int (a1), .int 1, .int (rr_52), .int (rr_72)]) X hw (va_runV (As := [.int (a1), .int 1, .int (rr_52), .int (rr_72)]) (rest := []) (cfix X) (k_X12_comes l G cy κ S_53 _ x (a1) (a1_z) (1) (1) (rr_52) (rr_52.toInt) (rr_72) (rr_72.toInt) hO_55.1 t_71 hz_a1 ti_1 rfl rfl (by first | assumption | omega) (by first | assumption | omega) (by first | assumption | omega) (by first | assumption | omega) (by first | assumption | omega) (by first | assumption | omega) (by first | assumption | omega) (by first | assumption | omega) (by first | assumption | omega) (by first | assumption | omega) g_61 (by first | assumption | omega) (by first | assumption | omega)) (cwV 4 X.2.2.2.1 gX12_acts_X12_comes rfl rfl rfl (by decide +kernel) ⟨Nat.le_of_ble_eq_true rfl, Nat.le_of_ble_eq_true rfl⟩) (pre_V X hw _ t_71 rfl (by decide) rfl) rfl rfl hl.1 rfl (lv_room (Nat.le_of_ble_eq_true rfl)) dX12_acts_76 ⟨Nat.le_of_ble_eq_true rfl, Nat.le_of_ble_eq_true rfl⟩) 0 0 (Nat.le_of_ble_eq_true rfl) (Nat.le_of_ble_eq_true rfl) (fun S_78 H locs hp hw hfr hnw => ?_)
        obtain ⟨hk_79, hp⟩ := hp
        have hO_80 : Ok MAC S S_78 := hO_55.call hk_79 (by decide +kernel)
        obtain ⟨mi_81, cm_82, cs_83⟩ := hp
        have zm_84 : ZM S S_53 x := ZM_eq hzm0 (zA_fr hk_54.fr ha_x (ex3 (gQ_12_1207 hO.1 ha_x)) (by decide +kernel) (by decide +kernel))
        have zm_85 : ZM S S_78 x := ZM_set zm_84 cs_83 ⟨by omega, by omega⟩ ⟨by omega, by omega⟩
        have zc_86 : zA S_53 x 1237 = zA S x 1237 := zA_fr hk_54.fr ha_x (ex3 (gQ_12_1237 hO.1 ha_x)) (by decide +kernel) (by decide +kernel)
        have zc_87 : zA S_78 x 1237 = zA S x 1237 := (zA_fr hk_79.fr t_71 (ex3 (gQ_12_1237 hO_55.1 t_71)) (by decide +kernel) (by decide +kernel)).trans zc_86
        exact ret_v X hw hr hlocks (Nat.le_of_ble_eq_true rfl) (Nat.le_of_ble_eq_true rfl) ⟨hO_80, ⟨mi_81, fun hgr => (GR_eq zc_87 hgr), zm_85⟩⟩ dX12_acts_79
  · refine lv_tableIn (tgt := 80) X.1 X.2.1 dX12_acts_6 (by omega) (by omega) (by rw [w_11c]; rfl) (by decide) ?_
    refine lv_aload_n X.1 X.2.1 dX12_acts_80 rfl (lv_at hl 0 rfl) ?_
    refine lv_iload_n X.1 X.2.1 dX12_acts_81 rfl (lv_at hl 1 rfl) ?_
    refine lv_iconst (v := 1) X.1 X.2.1 dX12_acts_82 (by decide) ?_
    refine k_i (rm := { frames := 1, cells := 0, slots := 0, locals := 48 }) (av := [.ref x, .int (a1), .int 1]) X hw (va_runV (As := [.int (a1), .int 1]) (rest := []) (cfix X) (k_X12_many2 l G cy κ S _ x (a1) (a1_z) (1) (1) hO.1 ha_x hz_a1 ti_1 (by first | assumption | omega) (by first | assumption | omega) (by first | assumption | omega) (by first | assumption | omega)) (cwV 2 X.2.2.2.1 gX12_acts_X12_many rfl rfl rfl (by decide +kernel) ⟨Nat.le_of_ble_eq_true rfl, Nat.le_of_ble_eq_true rfl⟩) (pre_V X hw _ ha_x rfl (by decide) rfl) rfl rfl hl.1 rfl (lv_room (Nat.le_of_ble_eq_true rfl)) dX12_acts_83 ⟨Nat.le_of_ble_eq_true rfl, Nat.le_of_ble_eq_true rfl⟩) 0 0 (Nat.le_of_ble_eq_true rfl) (Nat.le_of_ble_eq_true rfl) (fun rr_88 S_89 H locs hp hw hfr hnw => ?_)
    obtain ⟨e2, hp⟩ := hp
    subst e2
    obtain ⟨f_90, f_91, f_92⟩ := hp
    refine lv_if_le (tgt := 107) X.1 X.2.1 dX12_acts_86 (by decide) (fun c_93 => ?_) (fun c_93 => ?_)
    · have z_b_94 := trivial
      have k_95 : rr_88.toInt ≤ 0 := z_le rfl ti_0 c_93
      exact ret_v X hw hr hlocks (Nat.le_of_ble_eq_true rfl) (Nat.le_of_ble_eq_true rfl) ⟨hO, ⟨hp_4, fun hgr => hgr, hzm0⟩⟩ dX12_acts_107
    · have z_b_96 := trivial
      have k_97 : rr_88.toInt > 0 := z_nle rfl ti_0 c_93
      refine lv_aload_n X.1 X.2.1 dX12_acts_89 rfl (lv_at hl 0 rfl) ?_
      refine lv_iload_n X.1 X.2.1 dX12_acts_90 rfl (lv_at hl 1 rfl) ?_
      refine lv_iconst (v := 0) X.1 X.2.1 dX12_acts_91 (by decide) ?_
      refine lv_aload_n X.1 X.2.1 dX12_acts_92 rfl (lv_at hl 0 rfl) ?_
      refine lv_iload_n X.1 X.2.1 dX12_acts_93 rfl (lv_at hl 1 rfl) ?_
      refine lv_iconst (v := 1) X.1 X.2.1 dX12_acts_94 (by decide) ?_
      refine lv_aload_n X.1 X.2.1 dX12_acts_95 rfl (lv_at hl 0 rfl) ?_
      refine lv_iload_n X.1 X.2.1 dX12_acts_96 rfl (lv_at hl 1 rfl) ?_
      refine k_i (rm := { frames := 4, cells := 0, slots := 0, locals := 192 }) (av := [.ref x, .int (a1)]) X hw (va_runV (As := [.int (a1)]) (rest := [.int 1, .int (a1), .ref x, .int 0, .int (a1), .ref x]) (cfix X) (k_X12_thinnest l G cy κ S _ x (a1) (a1_z) hO.1 ha_x hz_a1 (by first | assumption | omega) (by first | assumption | omega) hp_4) (cwV 1 X.2.2.2.1 gX12_acts_X12_thinnest rfl rfl rfl (by decide +kernel) ⟨Nat.le_of_ble_eq_true rfl, Nat.le_of_ble_eq_true rfl⟩) (pre_V X hw _ ha_x rfl (by decide) rfl) rfl rfl hl.1 rfl (lv_room (Nat.le_of_ble_eq_true rfl)) dX12_acts_97 ⟨Nat.le_of_ble_eq_true rfl, Nat.le_of_ble_eq_true rfl⟩) 0 0 (Nat.le_of_ble_eq_true rfl) (Nat.le_of_ble_eq_true rfl) (fun rr_98 S_99 H locs hp hw hfr hnw => ?_)
      obtain ⟨e2, hp⟩ := hp
      subst e2
      obtain ⟨f_100, f_101, f_102, f_103, f_104⟩ := hp
      refine k_i (rm := { frames := 1, cells := 0, slots := 0, locals := 48 }) (av := [.ref x, .int (a1), .int 1, .int (rr_98)]) X hw (va_runV (As := [.int (a1), .int 1, .int (rr_98)]) (rest := [.int 0, .int (a1), .ref x]) (cfix X) (k_X12_goes l G cy κ S _ x (a1) (a1_z) (1) (1) (rr_98) (rr_98.toInt) (-1) hO.1 ha_x hz_a1 ti_1 rfl (by first | assumption | omega) (by first | assumption | omega) (by first | assumption | omega) (by first | assumption | omega) (by first | assumption | omega) (by first | assumption | omega) hp_4) (cwV 3 X.2.2.2.1 gX12_acts_X12_goes rfl rfl rfl (by decide +kernel) ⟨Nat.le_of_ble_eq_true rfl, Nat.le_of_ble_eq_true rfl⟩) (pre_V X hw _ ha_x rfl (by decide) rfl) rfl rfl hl.1 rfl (lv_room (Nat.le_of_ble_eq_true rfl)) dX12_acts_100 ⟨Nat.le_of_ble_eq_true rfl, Nat.le_of_ble_eq_true rfl⟩) 0 0 (Nat.le_of_ble_eq_true rfl) (Nat.le_of_ble_eq_true rfl) (fun rr_105 S_106 H locs hp hw hfr hnw => ?_)
      obtain ⟨hk_107, hp⟩ := hp
      have hO_108 : Ok MAC S S_106 := hO.call hk_107 (by decide +kernel)
      obtain ⟨g_109, g_110, g_111, g_112, g_113, g_114, g_115, g_116⟩ := hp
      have t_117 : pI S_106 1201 x = v_1 := hk_107.fr.I' (by decide +kernel) ha_x ev_1
      have pz_118 : (pI S_106 1201 x).toInt = v_1.toInt := (congrArg Int32.toInt t_117).trans rfl
      have zl_119 : zA S_106 x 1207 = zA S x 1207 := zA_fr hk_107.fr ha_x (ex3 (gQ_12_1207 hO.1 ha_x)) (by decide +kernel) (by decide +kernel)
      have zz_120 := congrFun zl_119 (rr_105.toInt).toNat
      have al_121 := ((MI_1 g_114 (c := rr_105.toInt) (by omega) (by omega)).2 (by omega)).2 (by omega) (by omega)
      have gi_122 := g_116 (3 * a1_z + 0).toNat; rw [if_neg (by omega)] at gi_122
      have m4_123 := g_114.2.2.2.1.2 (3 * a1_z + 0).toNat (by omega)
      refine lv_iconst (v := 0) X.1 X.2.1 dX12_acts_103 (by decide) ?_
      have t_124 : At S_106 x 12 := hk_107.fr.at ha_x
      refine k_v (rm := { frames := 1, cells := 0, slots := 0, locals := 48 }) (av := [.ref x, .int (a1), .int 0, .int (rr_105), .int 0]) X hw (va_runV (As := [.int (a1), .int 0, .int (rr_105), .int 0]) (rest := []) (cfix X) (k_X12_comes l G cy κ S_106 _ x (a1) (a1_z) (0) (0) (rr_105) (rr_105.toInt) (0) (0) hO_108.1 t_124 hz_a1 ti_0 rfl ti_0 (by first | assumption | omega) (by first | assumption | omega) (by first | assumption | omega) (by first | assumption | omega) (by first | assumption | omega) (by first | assumption | omega) (by first | assumption | omega) (by first | assumption | omega) (by first | assumption | omega) (by first | assumption | omega) g_114 (by first | assumption | omega) (by first | assumption | omega)) (cwV 4 X.2.2.2.1 gX12_acts_X12_comes rfl rfl rfl (by decide +kernel) ⟨Nat.le_of_ble_eq_true rfl, Nat.le_of_ble_eq_true rfl⟩) (pre_V X hw _ t_124 rfl (by decide) rfl) rfl rfl hl.1 rfl (lv_room (Nat.le_of_ble_eq_true rfl)) dX12_acts_104 ⟨Nat.le_of_ble_eq_true rfl, Nat.le_of_ble_eq_true rfl⟩) 0 0 (Nat.le_of_ble_eq_true rfl) (Nat.le_of_ble_eq_true rfl) (fun S_126 H locs hp hw hfr hnw => ?_)
      obtain ⟨hk_127, hp⟩ := hp
      have hO_128 : Ok MAC S S_126 := hO_108.call hk_127 (by decide +kernel)
      obtain ⟨mi_129, cm_130, cs_131⟩ := hp
      have zm_132 : ZM S S_106 x := ZM_eq hzm0 (zA_fr hk_107.fr ha_x (ex3 (gQ_12_1207 hO.1 ha_x)) (by decide +kernel) (by decide +kernel))
      have zm_133 : ZM S S_126 x := ZM_set zm_132 cs_131 ⟨by omega, by omega⟩ ⟨by omega, by omega⟩
      have zc_134 : zA S_106 x 1237 = zA S x 1237 := zA_fr hk_107.fr ha_x (ex3 (gQ_12_1237 hO.1 ha_x)) (by decide +kernel) (by decide +kernel)
      have zc_135 : zA S_126 x 1237 = zA S x 1237 := (zA_fr hk_127.fr t_124 (ex3 (gQ_12_1237 hO_108.1 t_124)) (by decide +kernel) (by decide +kernel)).trans zc_134
      exact ret_v X hw hr hlocks (Nat.le_of_ble_eq_true rfl) (Nat.le_of_ble_eq_true rfl) ⟨hO_128, ⟨mi_129, fun hgr => (GR_eq zc_135 hgr), zm_133⟩⟩ dX12_acts_107
  · refine lv_tableIn (tgt := 108) X.1 X.2.1 dX12_acts_6 (by omega) (by omega) (by rw [w_11c]; rfl) (by decide) ?_
    refine lv_aload_n X.1 X.2.1 dX12_acts_108 rfl (lv_at hl 0 rfl) ?_
    refine lv_iload_n X.1 X.2.1 dX12_acts_109 rfl (lv_at hl 1 rfl) ?_
    refine lv_iconst (v := 2) X.1 X.2.1 dX12_acts_110 (by decide) ?_
    refine k_i (rm := { frames := 1, cells := 0, slots := 0, locals := 48 }) (av := [.ref x, .int (a1), .int 2]) X hw (va_runV (As := [.int (a1), .int 2]) (rest := []) (cfix X) (k_X12_many2 l G cy κ S _ x (a1) (a1_z) (2) (2) hO.1 ha_x hz_a1 ti_2 (by first | assumption | omega) (by first | assumption | omega) (by first | assumption | omega) (by first | assumption | omega)) (cwV 2 X.2.2.2.1 gX12_acts_X12_many rfl rfl rfl (by decide +kernel) ⟨Nat.le_of_ble_eq_true rfl, Nat.le_of_ble_eq_true rfl⟩) (pre_V X hw _ ha_x rfl (by decide) rfl) rfl rfl hl.1 rfl (lv_room (Nat.le_of_ble_eq_true rfl)) dX12_acts_111 ⟨Nat.le_of_ble_eq_true rfl, Nat.le_of_ble_eq_true rfl⟩) 0 0 (Nat.le_of_ble_eq_true rfl) (Nat.le_of_ble_eq_true rfl) (fun rr_136 S_137 H locs hp hw hfr hnw => ?_)
    obtain ⟨e2, hp⟩ := hp
    subst e2
    obtain ⟨f_138, f_139, f_140⟩ := hp
    refine lv_if_ne (tgt := 118) X.1 X.2.1 dX12_acts_114 (by decide) (fun c_141 => ?_) (fun c_141 => ?_)
    · have z_b_142 := trivial
      have k_143 : rr_136.toInt ≠ 0 := z_ne rfl ti_0 c_141
      refine lv_aload_n X.1 X.2.1 dX12_acts_118 rfl (lv_at hl 0 rfl) ?_
      refine lv_iload_n X.1 X.2.1 dX12_acts_119 rfl (lv_at hl 1 rfl) ?_
      refine lv_iconst (v := 0) X.1 X.2.1 dX12_acts_120 (by decide) ?_
      refine lv_aload_n X.1 X.2.1 dX12_acts_121 rfl (lv_at hl 0 rfl) ?_
      refine lv_iload_n X.1 X.2.1 dX12_acts_122 rfl (lv_at hl 1 rfl) ?_
      refine lv_iconst (v := 2) X.1 X.2.1 dX12_acts_123 (by decide) ?_
      refine lv_iconst (v := 0) X.1 X.2.1 dX12_acts_124 (by decide) ?_
      refine k_i (rm := { frames := 1, cells := 0, slots := 0, locals := 48 }) (av := [.ref x, .int (a1), .int 2, .int 0]) X hw (va_runV (As := [.int (a1), .int 2, .int 0]) (rest := [.int 0, .int (a1), .ref x]) (cfix X) (k_X12_goes l G cy κ S _ x (a1) (a1_z) (2) (2) (0) (0) (-1) hO.1 ha_x hz_a1 ti_2 ti_0 (by first | assumption | omega) (by first | assumption | omega) (by first | assumption | omega) (by first | assumption | omega) (by first | assumption | omega) (by first | assumption | omega) hp_4) (cwV 3 X.2.2.2.1 gX12_acts_X12_goes rfl rfl rfl (by decide +kernel) ⟨Nat.le_of_ble_eq_true rfl, Nat.le_of_ble_eq_true rfl⟩) (pre_V X hw _ ha_x rfl (by decide) rfl) rfl rfl hl.1 rfl (lv_room (Nat.le_of_ble_eq_true rfl)) dX12_acts_125 ⟨Nat.le_of_ble_eq_true rfl, Nat.le_of_ble_eq_true rfl⟩) 0 0 (Nat.le_of_ble_eq_true rfl) (Nat.le_of_ble_eq_true rfl) (fun rr_144 S_145 H locs hp hw hfr hnw => ?_)
      obtain ⟨hk_146, hp⟩ := hp
      have hO_147 : Ok MAC S S_145 := hO.call hk_146 (by decide +kernel)
      obtain ⟨g_148, g_149, g_150, g_151, g_152, g_153, g_154, g_155⟩ := hp
      have t_156 : pI S_145 1201 x = v_1 := hk_146.fr.I' (by decide +kernel) ha_x ev_1
      have pz_157 : (pI S_145 1201 x).toInt = v_1.toInt := (congrArg Int32.toInt t_156).trans rfl
      have zl_158 : zA S_145 x 1207 = zA S x 1207 := zA_fr hk_146.fr ha_x (ex3 (gQ_12_1207 hO.1 ha_x)) (by decide +kernel) (by decide +kernel)
      have zz_159 := congrFun zl_158 (rr_144.toInt).toNat
      have al_160 := ((MI_1 g_153 (c := rr_144.toInt) (by omega) (by omega)).2 (by omega)).2 (by omega) (by omega)
      have gi_161 := g_155 (3 * a1_z + 0).toNat; rw [if_neg (by omega)] at gi_161
      have m4_162 := g_153.2.2.2.1.2 (3 * a1_z + 0).toNat (by omega)
      refine lv_aload_n X.1 X.2.1 dX12_acts_128 rfl (lv_at hl 0 rfl) ?_
      refine lv_iload_n X.1 X.2.1 dX12_acts_129 rfl (lv_at hl 1 rfl) ?_
      refine lv_iconst (v := 0) X.1 X.2.1 dX12_acts_130 (by decide) ?_
      have t_163 : At S_145 x 12 := hk_146.fr.at ha_x
      refine k_i (rm := { frames := 1, cells := 0, slots := 0, locals := 48 }) (av := [.ref x, .int (a1), .int 0]) X hw (va_runV (As := [.int (a1), .int 0]) (rest := [.int (rr_144), .int 0, .int (a1), .ref x]) (cfix X) (k_X12_many2 l G cy κ S_145 _ x (a1) (a1_z) (0) (0) hO_147.1 t_163 hz_a1 ti_0 (by first | assumption | omega) (by first | assumption | omega) (by first | assumption | omega) (by first | assumption | omega)) (cwV 2 X.2.2.2.1 gX12_acts_X12_many rfl rfl rfl (by decide +kernel) ⟨Nat.le_of_ble_eq_true rfl, Nat.le_of_ble_eq_true rfl⟩) (pre_V X hw _ t_163 rfl (by decide) rfl) rfl rfl hl.1 rfl (lv_room (Nat.le_of_ble_eq_true rfl)) dX12_acts_131 ⟨Nat.le_of_ble_eq_true rfl, Nat.le_of_ble_eq_true rfl⟩) 0 0 (Nat.le_of_ble_eq_true rfl) (Nat.le_of_ble_eq_true rfl) (fun rr_164 S_165 H locs hp hw hfr hnw => ?_)
      obtain ⟨e2, hp⟩ := hp
      subst e2
      obtain ⟨f_166, f_167, f_168⟩ := hp
      refine k_v (rm := { frames := 1, cells := 0, slots := 0, locals := 48 }) (av := [.ref x, .int (a1), .int 0, .int (rr_144), .int (rr_164)]) X hw (va_runV (As := [.int (a1), .int 0, .int (rr_144), .int (rr_164)]) (rest := []) (cfix X) (k_X12_comes l G cy κ S_145 _ x (a1) (a1_z) (0) (0) (rr_144) (rr_144.toInt) (rr_164) (rr_164.toInt) hO_147.1 t_163 hz_a1 ti_0 rfl rfl (by first | assumption | omega) (by first | assumption | omega) (by first | assumption | omega) (by first | assumption | omega) (by first | assumption | omega) (by first | assumption | omega) (by first | assumption | omega) (by first | assumption | omega) (by first | assumption | omega) (by first | assumption | omega) g_153 (by first | assumption | omega) (by first | assumption | omega)) (cwV 4 X.2.2.2.1 gX12_acts_X12_comes rfl rfl rfl (by decide +kernel) ⟨Nat.le_of_ble_eq_true rfl, Nat.le_of_ble_eq_true rfl⟩) (pre_V X hw _ t_163 rfl (by decide) rfl) rfl rfl hl.1 rfl (lv_room (Nat.le_of_ble_eq_true rfl)) dX12_acts_134 ⟨Nat.le_of_ble_eq_true rfl, Nat.le_of_ble_eq_true rfl⟩) 0 0 (Nat.le_of_ble_eq_true rfl) (Nat.le_of_ble_eq_true rfl) (fun S_170 H locs hp hw hfr hnw => ?_)
      obtain ⟨hk_171, hp⟩ := hp
      have hO_172 : Ok MAC S S_170 := hO_147.call hk_171 (by decide +kernel)
      obtain ⟨mi_173, cm_174, cs_175⟩ := hp
      have zm_176 : ZM S S_145 x := ZM_eq hzm0 (zA_fr hk_146.fr ha_x (ex3 (gQ_12_1207 hO.1 ha_x)) (by decide +kernel) (by decide +kernel))
      have zm_177 : ZM S S_170 x := ZM_set zm_176 cs_175 ⟨by omega, by omega⟩ ⟨by omega, by omega⟩
      refine lv_aload_n X.1 X.2.1 dX12_acts_137 rfl (lv_at hl 0 rfl) ?_
      refine lv_iload_n X.1 X.2.1 dX12_acts_138 rfl (lv_at hl 1 rfl) ?_
      refine lv_iconst (v := 2) X.1 X.2.1 dX12_acts_139 (by decide) ?_
      have t_178 : At S_170 x 12 := hk_171.fr.at t_163
      refine k_i (rm := { frames := 1, cells := 0, slots := 0, locals := 48 }) (av := [.ref x, .int (a1), .int 2]) X hw (va_runV (As := [.int (a1), .int 2]) (rest := []) (cfix X) (k_X12_many2 l G cy κ S_170 _ x (a1) (a1_z) (2) (2) hO_172.1 t_178 hz_a1 ti_2 (by first | assumption | omega) (by first | assumption | omega) (by first | assumption | omega) (by first | assumption | omega)) (cwV 2 X.2.2.2.1 gX12_acts_X12_many rfl rfl rfl (by decide +kernel) ⟨Nat.le_of_ble_eq_true rfl, Nat.le_of_ble_eq_true rfl⟩) (pre_V X hw _ t_178 rfl (by decide) rfl) rfl rfl hl.1 rfl (lv_room (Nat.le_of_ble_eq_true rfl)) dX12_acts_140 ⟨Nat.le_of_ble_eq_true rfl, Nat.le_of_ble_eq_true rfl⟩) 0 0 (Nat.le_of_ble_eq_true rfl) (Nat.le_of_ble_eq_true rfl) (fun rr_179 S_180 H locs hp hw hfr hnw => ?_)
      obtain ⟨e2, hp⟩ := hp
      subst e2
      obtain ⟨f_181, f_182, f_183⟩ := hp
      refine lv_if_ne (tgt := 153) X.1 X.2.1 dX12_acts_143 (by decide) (fun c_184 => ?_) (fun c_184 => ?_)
      · have z_b_185 := trivial
        have k_186 : rr_179.toInt ≠ 0 := z_ne rfl ti_0 c_184
        refine lv_aload_n X.1 X.2.1 dX12_acts_153 rfl (lv_at hl 0 rfl) ?_
        obtain ⟨q_187, h_188, h_189, h_190⟩ := gQ_12_1215 hO_172.1 t_178
        refine r_getR (g := 1215) X hw t_178 rfl 15 h_188 (by decide) rfl inn_X12_acts_12 (by decide) (X.2.2.2.1 (.fieldLink RX12 46 "SilkMillModel" "stop" "[I") (by decide +kernel)) rfl (gv_1215 _ _) dX12_acts_154 ?_
        refine lv_iload_n X.1 X.2.1 dX12_acts_157 rfl (lv_at hl 1 rfl) ?_
        refine lv_dup2_11 X.1 X.2.1 dX12_acts_158 rfl rfl ?_
        refine r_iald X hw h_189 rfl (by rw [h_190]; exact z_ix hz_a1 (by omega) (by omega)) dX12_acts_159 ?_
        refine lv_topi (fun v_191 ev_191 => ?_)
        have rg_192 := And.intro (z_lo v_191) (z_hi v_191)
        have ev_191 := ev_191.symm
        refine lv_iconst (v := 2) X.1 X.2.1 dX12_acts_160 (by decide) ?_
        refine lv_iadd X.1 X.2.1 dX12_acts_161 ?_
        refine lv_topi (fun v_193 ev_193 => ?_)
        have rg_194 := And.intro (z_lo v_193) (z_hi v_193)
        refine r_iast X hw h_189 rfl (by rw [h_190]; exact z_ix hz_a1 (by omega) (by omega)) dX12_acts_162 (fun H locs hw => ?_)
        obtain ⟨S_195, eS_195⟩ : ∃ T, T = sA S_170 q_187 (upd (pA S_170 q_187) (Int32.toNatClampNeg (a1)) (v_193)) := ⟨_, rfl⟩
        rw [← eS_195] at hw
        have hO_196 : Ok MAC S S_195 := hO_172.sA eS_195 h_189 (by decide +kernel) (uA_514 hO_172.1 h_189)
        have h_197 : pA S_195 q_187 (Int32.toNatClampNeg (a1)) = v_193 := tA_sAs eS_195
        have mi_198 : MIe S_195 x (-1) := MIe_sA mi_173 hO_172.1 t_178 h_189 eS_195 (by decide +kernel)
        have zc_199 : zA S_145 x 1237 = zA S x 1237 := zA_fr hk_146.fr ha_x (ex3 (gQ_12_1237 hO.1 ha_x)) (by decide +kernel) (by decide +kernel)
        have zc_200 : zA S_170 x 1237 = zA S x 1237 := (zA_fr hk_171.fr t_163 (ex3 (gQ_12_1237 hO_147.1 t_163)) (by decide +kernel) (by decide +kernel)).trans zc_199
        have zc_201 : zA S_195 x 1237 = zA S x 1237 := (zA_sAn eS_195 (ex3 (gQ_12_1237 hO_172.1 t_178)) h_189 rfl).trans zc_200
        have zm_202 : ZM S S_195 x := ZM_eq zm_177 (zA_sAn eS_195 (ex3 (gQ_12_1207 hO_172.1 t_178)) h_189 rfl)
        exact ret_v X hw hr hlocks (Nat.le_of_ble_eq_true rfl) (Nat.le_of_ble_eq_true rfl) ⟨hO_196, ⟨mi_198, fun hgr => (GR_eq zc_201 hgr), zm_202⟩⟩ dX12_acts_163
      · have z_b_203 := trivial
        have k_204 : rr_179.toInt = 0 := z_eq rfl ti_0 c_184
        refine lv_aload_n X.1 X.2.1 dX12_acts_146 rfl (lv_at hl 0 rfl) ?_
        obtain ⟨q_205, h_206, h_207, h_208⟩ := gQ_12_1214 hO_172.1 t_178
        refine r_getR (g := 1214) X hw t_178 rfl 14 h_206 (by decide) rfl inn_X12_acts_12 (by decide) (X.2.2.2.1 (.fieldLink RX12 43 "SilkMillModel" "search" "[I") (by decide +kernel)) rfl (gv_1214 _ _) dX12_acts_147 ?_
        refine lv_iload_n X.1 X.2.1 dX12_acts_150 rfl (lv_at hl 1 rfl) ?_
        refine lv_iconst (v := 0) X.1 X.2.1 dX12_acts_151 (by decide) ?_
        refine r_iast X hw h_207 rfl (by rw [h_208]; exact z_ix hz_a1 (by omega) (by omega)) dX12_acts_152 (fun H locs hw => ?_)
        obtain ⟨S_209, eS_209⟩ : ∃ T, T = sA S_170 q_205 (upd (pA S_170 q_205) (Int32.toNatClampNeg (a1)) (0)) := ⟨_, rfl⟩
        rw [← eS_209] at hw
        have hO_210 : Ok MAC S S_209 := hO_172.sA eS_209 h_207 (by decide +kernel) (uA_494 hO_172.1 h_207)
        have h_211 : pA S_209 q_205 (Int32.toNatClampNeg (a1)) = 0 := tA_sAs eS_209
        refine lv_aload_n X.1 X.2.1 dX12_acts_153 rfl (lv_at hl 0 rfl) ?_
        have t_212 : At S_209 x 12 := tAt_sA eS_209 t_178
        obtain ⟨q_213, h_214, h_215, h_216⟩ := gQ_12_1215 hO_210.1 t_212
        refine r_getR (g := 1215) X hw t_212 rfl 15 h_214 (by decide) rfl inn_X12_acts_12 (by decide) (X.2.2.2.1 (.fieldLink RX12 46 "SilkMillModel" "stop" "[I") (by decide +kernel)) rfl (gv_1215 _ _) dX12_acts_154 ?_
        refine lv_iload_n X.1 X.2.1 dX12_acts_157 rfl (lv_at hl 1 rfl) ?_
        refine lv_dup2_11 X.1 X.2.1 dX12_acts_158 rfl rfl ?_
        refine r_iald X hw h_215 rfl (by rw [h_216]; exact z_ix hz_a1 (by omega) (by omega)) dX12_acts_159 ?_
        refine lv_topi (fun v_217 ev_217 => ?_)
        have rg_218 := And.intro (z_lo v_217) (z_hi v_217)
        have ev_217 := ev_217.symm
        refine lv_iconst (v := 2) X.1 X.2.1 dX12_acts_160 (by decide) ?_
        refine lv_iadd X.1 X.2.1 dX12_acts_161 ?_
        refine lv_topi (fun v_219 ev_219 => ?_)
        have rg_220 := And.intro (z_lo v_219) (z_hi v_219)
        refine r_iast X hw h_215 rfl (by rw [h_216]; exact z_ix hz_a1 (by omega) (by omega)) dX12_acts_162 (fun H locs hw => ?_)
        obtain ⟨S_221, eS_221⟩ : ∃ T, T = sA S_209 q_213 (upd (pA S_209 q_213) (Int32.toNatClampNeg (a1)) (v_219)) := ⟨_, rfl⟩
        rw [← eS_221] at hw
        have hO_222 : Ok MAC S S_221 := hO_210.sA eS_221 h_215 (by decide +kernel) (uA_514 hO_210.1 h_215)
        have h_223 : pA S_221 q_213 (Int32.toNatClampNeg (a1)) = v_219 := tA_sAs eS_221
        have mi_224 : MIe S_209 x (-1) := MIe_sA mi_173 hO_172.1 t_178 h_207 eS_209 (by decide +kernel)
        have mi_225 : MIe S_221 x (-1) := MIe_sA mi_224 hO_210.1 t_212 h_215 eS_221 (by decide +kernel)
        have zc_226 : zA S_145 x 1237 = zA S x 1237 := zA_fr hk_146.fr ha_x (ex3 (gQ_12_1237 hO.1 ha_x)) (by decide +kernel) (by decide +kernel)
        have zc_227 : zA S_170 x 1237 = zA S x 1237 := (zA_fr hk_171.fr t_163 (ex3 (gQ_12_1237 hO_147.1 t_163)) (by decide +kernel) (by decide +kernel)).trans zc_226
        have zc_228 : zA S_209 x 1237 = zA S x 1237 := (zA_sAn eS_209 (ex3 (gQ_12_1237 hO_172.1 t_178)) h_207 rfl).trans zc_227
        have zc_229 : zA S_221 x 1237 = zA S x 1237 := (zA_sAn eS_221 (ex3 (gQ_12_1237 hO_210.1 t_212)) h_215 rfl).trans zc_228
        have zm_230 : ZM S S_209 x := ZM_eq zm_177 (zA_sAn eS_209 (ex3 (gQ_12_1207 hO_172.1 t_178)) h_207 rfl)
        have zm_231 : ZM S S_221 x := ZM_eq zm_230 (zA_sAn eS_221 (ex3 (gQ_12_1207 hO_210.1 t_212)) h_215 rfl)
        exact ret_v X hw hr hlocks (Nat.le_of_ble_eq_true rfl) (Nat.le_of_ble_eq_true rfl) ⟨hO_222, ⟨mi_225, fun hgr => (GR_eq zc_229 hgr), zm_231⟩⟩ dX12_acts_163
    · have z_b_232 := trivial
      have k_233 : rr_136.toInt = 0 := z_eq rfl ti_0 c_141
      exact ret_v X hw hr hlocks (Nat.le_of_ble_eq_true rfl) (Nat.le_of_ble_eq_true rfl) ⟨hO, ⟨hp_4, fun hgr => hgr, hzm0⟩⟩ dX12_acts_117
  · refine lv_tableIn (tgt := 164) X.1 X.2.1 dX12_acts_6 (by omega) (by omega) (by rw [w_11c]; rfl) (by decide) ?_
    refine lv_aload_n X.1 X.2.1 dX12_acts_164 rfl (lv_at hl 0 rfl) ?_
    refine lv_iload_n X.1 X.2.1 dX12_acts_165 rfl (lv_at hl 1 rfl) ?_
    refine lv_iconst (v := 0) X.1 X.2.1 dX12_acts_166 (by decide) ?_
    refine k_i (rm := { frames := 1, cells := 0, slots := 0, locals := 48 }) (av := [.ref x, .int (a1), .int 0]) X hw (va_runV (As := [.int (a1), .int 0]) (rest := []) (cfix X) (k_X12_many2 l G cy κ S _ x (a1) (a1_z) (0) (0) hO.1 ha_x hz_a1 ti_0 (by first | assumption | omega) (by first | assumption | omega) (by first | assumption | omega) (by first | assumption | omega)) (cwV 2 X.2.2.2.1 gX12_acts_X12_many rfl rfl rfl (by decide +kernel) ⟨Nat.le_of_ble_eq_true rfl, Nat.le_of_ble_eq_true rfl⟩) (pre_V X hw _ ha_x rfl (by decide) rfl) rfl rfl hl.1 rfl (lv_room (Nat.le_of_ble_eq_true rfl)) dX12_acts_167 ⟨Nat.le_of_ble_eq_true rfl, Nat.le_of_ble_eq_true rfl⟩) 0 0 (Nat.le_of_ble_eq_true rfl) (Nat.le_of_ble_eq_true rfl) (fun rr_234 S_235 H locs hp hw hfr hnw => ?_)
    obtain ⟨e2, hp⟩ := hp
    subst e2
    obtain ⟨f_236, f_237, f_238⟩ := hp
    refine lv_if_le (tgt := 194) X.1 X.2.1 dX12_acts_170 (by decide) (fun c_239 => ?_) (fun c_239 => ?_)
    · have z_b_240 := trivial
      have k_241 : rr_234.toInt ≤ 0 := z_le rfl ti_0 c_239
      exact ret_v X hw hr hlocks (Nat.le_of_ble_eq_true rfl) (Nat.le_of_ble_eq_true rfl) ⟨hO, ⟨hp_4, fun hgr => hgr, hzm0⟩⟩ dX12_acts_194
    · have z_b_242 := trivial
      have k_243 : rr_234.toInt > 0 := z_nle rfl ti_0 c_239
      refine lv_aload_n X.1 X.2.1 dX12_acts_173 rfl (lv_at hl 0 rfl) ?_
      obtain ⟨q_244, h_245, h_246, h_247⟩ := gQ_12_1207 hO.1 ha_x
      refine r_getR (g := 1207) X hw ha_x rfl 7 h_245 (by decide) rfl inn_X12_acts_12 (by decide) (X.2.2.2.1 (.fieldLink RX12 25 "SilkMillModel" "stand" "[I") (by decide +kernel)) rfl (gv_1207 _ _) dX12_acts_174 ?_
      refine lv_aload_n X.1 X.2.1 dX12_acts_177 rfl (lv_at hl 0 rfl) ?_
      refine lv_iload_n X.1 X.2.1 dX12_acts_178 rfl (lv_at hl 1 rfl) ?_
      refine lv_iconst (v := 0) X.1 X.2.1 dX12_acts_179 (by decide) ?_
      refine lv_aload_n X.1 X.2.1 dX12_acts_180 rfl (lv_at hl 0 rfl) ?_
      refine lv_iload_n X.1 X.2.1 dX12_acts_181 rfl (lv_at hl 1 rfl) ?_
      refine lv_iconst (v := 0) X.1 X.2.1 dX12_acts_182 (by decide) ?_
      refine k_i (rm := { frames := 1, cells := 0, slots := 0, locals := 48 }) (av := [.ref x, .int (a1), .int 0]) X hw (va_runV (As := [.int (a1), .int 0]) (rest := [.int 0, .int (a1), .ref x, .ref q_244]) (cfix X) (k_X12_many2 l G cy κ S _ x (a1) (a1_z) (0) (0) hO.1 ha_x hz_a1 ti_0 (by first | assumption | omega) (by first | assumption | omega) (by first | assumption | omega) (by first | assumption | omega)) (cwV 2 X.2.2.2.1 gX12_acts_X12_many rfl rfl rfl (by decide +kernel) ⟨Nat.le_of_ble_eq_true rfl, Nat.le_of_ble_eq_true rfl⟩) (pre_V X hw _ ha_x rfl (by decide) rfl) rfl rfl hl.1 rfl (lv_room (Nat.le_of_ble_eq_true rfl)) dX12_acts_183 ⟨Nat.le_of_ble_eq_true rfl, Nat.le_of_ble_eq_true rfl⟩) 0 0 (Nat.le_of_ble_eq_true rfl) (Nat.le_of_ble_eq_true rfl) (fun rr_248 S_249 H locs hp hw hfr hnw => ?_)
      obtain ⟨e2, hp⟩ := hp
      subst e2
      obtain ⟨f_250, f_251, f_252⟩ := hp
      refine lv_iconst (v := 1) X.1 X.2.1 dX12_acts_186 (by decide) ?_
      refine lv_isub X.1 X.2.1 dX12_acts_187 ?_
      refine lv_topi (fun v_253 ev_253 => ?_)
      have z_254 : v_253.toInt = rr_248.toInt - 1 := z_sub ev_253 rfl ti_1 (by omega) (by omega)
      refine k_i (rm := { frames := 1, cells := 0, slots := 0, locals := 48 }) (av := [.ref x, .int (a1), .int 0, .int (v_253)]) X hw (va_runV (As := [.int (a1), .int 0, .int (v_253)]) (rest := [.ref q_244]) (cfix X) (k_X12_goes l G cy κ S _ x (a1) (a1_z) (0) (0) (v_253) ((rr_248.toInt - 1)) (-1) hO.1 ha_x hz_a1 ti_0 z_254 (by first | assumption | omega) (by first | assumption | omega) (by first | assumption | omega) (by first | assumption | omega) (by first | assumption | omega) (by first | assumption | omega) hp_4) (cwV 3 X.2.2.2.1 gX12_acts_X12_goes rfl rfl rfl (by decide +kernel) ⟨Nat.le_of_ble_eq_true rfl, Nat.le_of_ble_eq_true rfl⟩) (pre_V X hw _ ha_x rfl (by decide) rfl) rfl rfl hl.1 rfl (lv_room (Nat.le_of_ble_eq_true rfl)) dX12_acts_188 ⟨Nat.le_of_ble_eq_true rfl, Nat.le_of_ble_eq_true rfl⟩) 0 0 (Nat.le_of_ble_eq_true rfl) (Nat.le_of_ble_eq_true rfl) (fun rr_255 S_256 H locs hp hw hfr hnw => ?_)
      obtain ⟨hk_257, hp⟩ := hp
      have hO_258 : Ok MAC S S_256 := hO.call hk_257 (by decide +kernel)
      obtain ⟨g_259, g_260, g_261, g_262, g_263, g_264, g_265, g_266⟩ := hp
      have t_267 : pI S_256 1201 x = v_1 := hk_257.fr.I' (by decide +kernel) ha_x ev_1
      have pz_268 : (pI S_256 1201 x).toInt = v_1.toInt := (congrArg Int32.toInt t_267).trans rfl
      have zl_269 : zA S_256 x 1207 = zA S x 1207 := zA_fr hk_257.fr ha_x (ex3 (gQ_12_1207 hO.1 ha_x)) (by decide +kernel) (by decide +kernel)
      have zz_270 := congrFun zl_269 (rr_255.toInt).toNat
      have al_271 := ((MI_1 g_264 (c := rr_255.toInt) (by omega) (by omega)).2 (by omega)).2 (by omega) (by omega)
      refine lv_bipush (v := 6) X.1 X.2.1 dX12_acts_191 (by decide) ?_
      have t_272 : At S_256 q_244 354 := hk_257.fr.at h_246
      have t_273 : pN S_256 q_244 = 600 := hk_257.fr.N h_246 h_247
      clear h_247
      refine r_iast X hw t_272 rfl (by rw [t_273]; exact z_ix rfl (by omega) (by omega)) dX12_acts_193 (fun H locs hw => ?_)
      obtain ⟨S_274, eS_274⟩ : ∃ T, T = sA S_256 q_244 (upd (pA S_256 q_244) (Int32.toNatClampNeg (rr_255)) (6)) := ⟨_, rfl⟩
      rw [← eS_274] at hw
      have hO_275 : Ok MAC S S_274 := hO_258.sA eS_274 t_272 (by decide +kernel) (uA_354 hO_258.1 t_272)
      have h_276 : pA S_274 q_244 (Int32.toNatClampNeg (rr_255)) = 6 := tA_sAs eS_274
      have t_277 : pR S_256 1207 x = some q_244 := hk_257.fr.R' (by decide +kernel) ha_x h_245
      have t_278 : pR S_274 1207 x = some q_244 := tR_sA eS_274 t_277
      have t_280 : pR S_256 1207 x = some q_244 := by have h := t_278; rw [eS_274, pR_sA] at h; exact h
      have zs_279 : ∀ j, zA S_274 x 1207 j = if j = (rr_255.toInt).toNat then 6 else zA S_256 x 1207 j := by have h := zA_sAs eS_274 t_280 ti_6; rw [z_nc rfl (by omega)] at h; exact h
      have t_282 : At S_256 x 12 := hk_257.fr.at ha_x
      have mi_281 : MIe S_274 x (-1) := stand_MI (c := rr_255.toInt) hO_258.1 t_282 (show Fr [10354] S_256 S_274 by rw [eS_274]; exact Fr_sA t_272 List.mem_cons_self) g_264 (by omega) (by omega) g_265 zs_279 (Or.inr (Or.inr (by assumption)))
      have t_284 : pR S_256 1207 x = some q_244 := by have h := t_278; rw [eS_274, pR_sA] at h; exact h
      have zs_283 : ∀ j, zA S_274 x 1207 j = if j = (rr_255.toInt).toNat then 6 else zA S_256 x 1207 j := by have h := zA_sAs eS_274 t_284 ti_6; rw [z_nc rfl (by omega)] at h; exact h
      have zm_285 : ZM S S_256 x := ZM_eq hzm0 (zA_fr hk_257.fr ha_x (ex3 (gQ_12_1207 hO.1 ha_x)) (by decide +kernel) (by decide +kernel))
      have zm_286 : ZM S S_274 x := ZM_set zm_285 zs_283 ⟨by omega, by omega⟩ ⟨by omega, by omega⟩
      have zc_287 : zA S_256 x 1237 = zA S x 1237 := zA_fr hk_257.fr ha_x (ex3 (gQ_12_1237 hO.1 ha_x)) (by decide +kernel) (by decide +kernel)
      have zc_288 : zA S_274 x 1237 = zA S x 1237 := (zA_sAn eS_274 (ex3 (gQ_12_1237 hO_258.1 t_282)) t_272 rfl).trans zc_287
      exact ret_v X hw hr hlocks (Nat.le_of_ble_eq_true rfl) (Nat.le_of_ble_eq_true rfl) ⟨hO_275, ⟨mi_281, fun hgr => (GR_eq zc_288 hgr), zm_286⟩⟩ dX12_acts_194
  · refine lv_tableIn (tgt := 195) X.1 X.2.1 dX12_acts_6 (by omega) (by omega) (by rw [w_11c]; rfl) (by decide) ?_
    refine lv_aload_n X.1 X.2.1 dX12_acts_195 rfl (lv_at hl 0 rfl) ?_
    refine lv_iload_n X.1 X.2.1 dX12_acts_196 rfl (lv_at hl 1 rfl) ?_
    refine k_i (rm := { frames := 6, cells := 0, slots := 0, locals := 288 }) (av := [.ref x, .int (a1)]) X hw (va_runV (As := [.int (a1)]) (rest := []) (cfix X) (k_X12_cuts l G cy κ S _ x (a1) (a1_z) hO.1 ha_x hz_a1 (by first | assumption | omega) (by first | assumption | omega) hp_4) (cwV 1 X.2.2.2.1 gX12_acts_X12_cuts rfl rfl rfl (by decide +kernel) ⟨Nat.le_of_ble_eq_true rfl, Nat.le_of_ble_eq_true rfl⟩) (pre_V X hw _ ha_x rfl (by decide) rfl) rfl rfl hl.1 rfl (lv_room (Nat.le_of_ble_eq_true rfl)) dX12_acts_197 ⟨Nat.le_of_ble_eq_true rfl, Nat.le_of_ble_eq_true rfl⟩) 0 0 (Nat.le_of_ble_eq_true rfl) (Nat.le_of_ble_eq_true rfl) (fun rr_289 S_290 H locs hp hw hfr hnw => ?_)
    obtain ⟨hk_291, hp⟩ := hp
    have hO_292 : Ok MAC S S_290 := hO.call hk_291 (by decide +kernel)
    obtain ⟨mi_293, cu_294⟩ := hp
    have rg_295 := And.intro (z_lo rr_289) (z_hi rr_289)
    refine lv_istore_n (lv' := [(3, .int (rr_289)), (0, .ref x), (1, .int (a1)), (2, .int (a2))]) X.1 X.2.1 dX12_acts_200 rfl hl (by decide) rfl (fun ls hl => ?_)
    have zm_296 : ZM S S_290 x := ZM_eq hzm0 (zA_fr hk_291.fr ha_x (ex3 (gQ_12_1207 hO.1 ha_x)) (by decide +kernel) (by decide +kernel))
    exact ret_v X hw hr hlocks (Nat.le_of_ble_eq_true rfl) (Nat.le_of_ble_eq_true rfl) ⟨hO_292, ⟨mi_293, fun hgr => (GR_set cu_294 (by omega) hgr), zm_296⟩⟩ dX12_acts_201
