
set_option maxHeartbeats 4000000 in
set_option maxRecDepth 100000 in
theorem k_X4_applyRules5 (l : Launch) (G : va_G) (cy : Nat → ClassId) (κ : Nat → Nat) (S : PS) (sz hz : Nat) (x : Nat) (s1 : Nat) (D : Nat → Prop) (R0 : Nat) (R1 : Nat) (R2 : Nat) (Gs : Nat) (A : Pt) (Ev : En) (Rl : List Ru) (hG : GX S) (ha_x : At S x 4) (ha_s1 : At S s1 8) (hp_0 : (∀ c, D c → At S c 0)) (hp_1 : PotR S x R0 R1 R2 Gs) (hp_2 : PotV S D x R0 R1 R2 Gs s1 A) (hp_3 : EnC S D x s1 Ev) (hp_4 : RuS S x Rl) : Gv l yX4_applyRules wsX4_applyRules ({ frames := 7, cells := Phc S + 8, slots := Phs S + 15019, locals := 336 }) G cy κ S sz hz 0 0 [.ref x, .ref s1] (fun (S9 : PS) => Og eAC S S9 ∧ (PotV S9 D x R0 R1 R2 Gs s1 (rusF Ev A Rl) ∧ PotX S S9 x R0 R1 R2 Gs)) := by
  refine ent_g (cc := cX4_applyRules) (maxL := 3) (ret := none) (by decide) rfl (Nat.le_of_ble_eq_true rfl) ?_
  intro p e s m below meth c ls X hr hlocks hin hw hl hsz hhz
  subst hsz hhz
  have X : Cx p c cX4_applyRules 3 s [.ref x, .ref s1].toArray wsX4_applyRules RX4 m G cy κ (AS S s.heap.size) := X
  have hl : lv_has ls 3 [(0, .ref x), (1, .ref s1)] := hl
  have hpc0 : 0 + Phc S ≤ Phc S + 0 := by omega
  have hps0 : 0 + Phs S ≤ Phs S + 0 := by omega
  have hO : Og eAC S S := Og.rf hG
  generalize hQQ : MQ below _ _ _ _ _ _ = QQ
  replace hQQ := hQQ.symm
  have hpr := hp_1
  obtain ⟨hr0, hr1, hr2, hr3, hne, hcn⟩ := hpr
  have haR0 := row_at hG ha_x (Or.inl hr0)
  have haR1 := row_at hG ha_x (Or.inr (Or.inl hr1))
  have haR2 := row_at hG ha_x (Or.inr (Or.inr hr2))
  have haGs : At S Gs 29 := by obtain ⟨c, k1, k2⟩ := gQ_4_403 hG ha_x; have h3 := hr3; rw [k1] at h3; cases h3; exact k2
  have hpv := hp_2
  obtain ⟨pv_1, pv_2, pv_3, pv_4, pv_5, pv_6, pv_7, pv_8, pv_9, pv_10, pv_11⟩ := hpv
  obtain ⟨v_12, ev_12⟩ : ∃ v, pI S 902 Gs = v := ⟨_, rfl⟩
  have rg_13 := gI_29_902 hO.1 haGs; rw [ev_12] at rg_13
  have pz_14 : (pI S 902 Gs).toInt = v_12.toInt := by rw [ev_12]
  have pz_15 : (pI S 902 Gs).toInt = v_12.toInt := (congrArg Int32.toInt ev_12).trans rfl
  obtain ⟨v_16, ev_16⟩ : ∃ v, pI S 800 s1 = v := ⟨_, rfl⟩
  have rg_17 := gI_8_800 hO.1 ha_s1; rw [ev_16] at rg_17
  have pz_18 : (pI S 800 s1).toInt = v_16.toInt := by rw [ev_16]
  have pz_19 : (pI S 800 s1).toInt = v_16.toInt := (congrArg Int32.toInt ev_16).trans rfl
  have sl_20 := pv_6.1
  have sl_21 := pv_9.1
  refine lv_iconst (v := 0) X.1 X.2.1 dX4_applyRules_0 (by decide) ?_
  refine lv_istore_n (lv' := [(2, .int 0), (0, .ref x), (1, .ref s1)]) X.1 X.2.1 dX4_applyRules_1 rfl hl (by decide) rfl (fun ls hl => ?_)
  have L_22 : ∀ (n : Nat) (T_24 : PS) (H : Heap) (locs : List Loc) (ls : Array Slot) (i2_23 : Int32) (i2_23_z : Int) (cc_30 nn_31 : Nat), ((12 - i2_23_z).toNat = n) → (Wd G cy (AS S s.heap.size) s.heap T_24 H locs) → (i2_23.toInt = i2_23_z) → (0 ≤ i2_23_z ∧ i2_23_z ≤ 12) → (At T_24 s1 8) → (At T_24 x 4) → (Og eAC S T_24) → (PotV T_24 D x R0 R1 R2 Gs s1 (rusF Ev A (Rl.take (i2_23_z).toNat))) → (PotX S T_24 x R0 R1 R2 Gs) → (i2_23_z ≤ (Rl.length : Int)) → (cc_30 + Phc T_24 ≤ Phc S + 0) → (nn_31 + Phs T_24 ≤ Phs S + 0) → (lv_has ls 3 [(2, .int (i2_23)), (0, .ref x), (1, .ref s1)]) → W p l e ({ frames := 7, cells := Phc S + 8, slots := Phs S + 15019, locals := 336 }) s m [.ref x, .ref s1].toArray below meth c H locs cc_30 nn_31 QQ (F0 m 2 ls []) := by
    intro n
    induction n using Nat.strongRecOn with
    | ind n ih =>
    intro T_24 H locs ls i2_23 i2_23_z cc_30 nn_31 hn hw hz_i2_23 hr_i2_23 ha_s1_L_25 ha_x_L_26 hO_T_24 iv_27 iv_28 iv_29 hcc_32 hnn_33 hl
    have rg_34 : (-2147483648) ≤ i2_23_z ∧ i2_23_z ≤ 2147483647 := by rw [← hz_i2_23]; exact ⟨z_lo _, z_hi _⟩
    have iv_35 := iv_27
    have ha_36 : At T_24 R0 5 := hO_T_24.fr.at haR0
    have ha_37 : At T_24 R1 5 := hO_T_24.fr.at haR1
    have ha_38 : At T_24 R2 5 := hO_T_24.fr.at haR2
    have ha_39 : At T_24 Gs 29 := hO_T_24.fr.at haGs
    have pr_40 : PotR T_24 x R0 R1 R2 Gs := PotR_fr hG ha_x hO_T_24.fr (by decide +kernel) hp_1
    have dt_41 : ∀ c, D c → At T_24 c 0 := fun c h => hO_T_24.fr.at (hp_0 c h)
    have ax_42 : ∀ a k, At S a k → At T_24 a k := fun a k h => hO_T_24.fr.at h
    have en_43 : EnC T_24 D x s1 Ev := EnC_fr hO_T_24.fr hp_0 ha_x ha_s1 (by decide +kernel) hp_3
    obtain ⟨pv_44, pv_45, pv_46, pv_47, pv_48, pv_49, pv_50, pv_51, pv_52, pv_53, pv_54⟩ := iv_35
    obtain ⟨v_55, ev_55⟩ : ∃ v, pI T_24 902 Gs = v := ⟨_, rfl⟩
    have rg_56 := gI_29_902 hO_T_24.1 ha_39; rw [ev_55] at rg_56
    have pz_57 : (pI T_24 902 Gs).toInt = v_55.toInt := by rw [ev_55]
    have pz_58 : (pI T_24 902 Gs).toInt = v_55.toInt := (congrArg Int32.toInt ev_55).trans rfl
    obtain ⟨v_59, ev_59⟩ : ∃ v, pI T_24 800 s1 = v := ⟨_, rfl⟩
    have rg_60 := gI_8_800 hO_T_24.1 ha_s1_L_25; rw [ev_59] at rg_60
    have pz_61 : (pI T_24 800 s1).toInt = v_59.toInt := by rw [ev_59]
    have pz_62 : (pI T_24 800 s1).toInt = v_59.toInt := (congrArg Int32.toInt ev_59).trans rfl
    have sl_63 := pv_49.1
    have sl_64 := pv_52.1
    have rs_65 : RuS T_24 x Rl := RuS_fr hG ha_x hO_T_24.fr (by decide +kernel) hp_4
    obtain ⟨rs_66, rs_67, rs_68, rs_69⟩ := rs_65
    have rs_70 := ru_at hO_T_24.1 ha_x_L_26 rs_67
    obtain ⟨v_71, ev_71⟩ : ∃ v, pI T_24 600 rs_66 = v := ⟨_, rfl⟩
    have rg_72 := gI_6_600 hO_T_24.1 rs_70; rw [ev_71] at rg_72
    have pz_73 : (pI T_24 600 rs_66).toInt = v_71.toInt := by rw [ev_71]
    have pz_74 : (pI T_24 600 rs_66).toInt = v_71.toInt := (congrArg Int32.toInt ev_71).trans rfl
    refine lv_iload_n X.1 X.2.1 dX4_applyRules_2 rfl (lv_at hl 0 rfl) ?_
    refine lv_aload_n X.1 X.2.1 dX4_applyRules_3 rfl (lv_at hl 1 rfl) ?_
    refine r_getR (g := 409) X hw ha_x_L_26 rfl 9 rs_67 (by decide) rfl inn_X4_applyRules_4 (by decide) (X.2.2.2.1 (.fieldLink RX4 36 "SilkMill$Pot" "rules" "LSilkMill$Rules;") (by decide +kernel)) rfl (gv_409 _ _) dX4_applyRules_4 ?_
    refine r_getI (g := 600) (x := v_71) X hw rs_70 rfl 0 ev_71 (by decide) rfl inn_X4_applyRules_6 (by decide) (X.2.2.2.1 (.fieldLink RX4 101 "SilkMill$Rules" "size" "I") (by decide +kernel)) rfl (gv_600 _ _) dX4_applyRules_7 ?_
    refine lv_icmp_ge (tgt := 54) X.1 X.2.1 dX4_applyRules_10 (by decide) (fun c_75 => ?_) (fun c_75 => ?_)
    · have z_b_76 := trivial
      have k_77 : i2_23_z ≥ v_71.toInt := z_le rfl hz_i2_23 c_75
      rw [hQQ]
      exact ret_gv X hw hr hlocks (by show cc_30 ≤ Phc S + 8; omega) (by show nn_31 ≤ Phs S + 15019; omega) (by omega) (by omega) ⟨hO_T_24, ⟨PotV_of (show rusF Ev A Rl = rusF Ev A (Rl.take (i2_23_z).toNat) by rw [show (i2_23_z).toNat = Rl.length by omega, List.take_length]) pv_44 pv_45 pv_46 pv_47 pv_48 pv_49 pv_50 pv_51 pv_52 pv_53 (inD_rus pv_11), iv_28⟩⟩ dX4_applyRules_54
    · have z_b_78 := trivial
      have k_79 : i2_23_z < v_71.toInt := z_nle rfl hz_i2_23 c_75
      obtain ⟨ru_80, ru_81⟩ : ∃ r, Rl[(i2_23_z).toNat]? = some r := ⟨_, List.getElem?_eq_getElem (by omega)⟩
      have ru_82 := rs_69 _ _ ru_81
      refine lv_aload_n X.1 X.2.1 dX4_applyRules_13 rfl (lv_at hl 1 rfl) ?_
      refine lv_iload_n X.1 X.2.1 dX4_applyRules_14 rfl (lv_at hl 0 rfl) ?_
      refine lv_aload_n X.1 X.2.1 dX4_applyRules_15 rfl (lv_at hl 2 rfl) ?_
      obtain ⟨v_83, ev_83⟩ : ∃ v, pI T_24 801 s1 = v := ⟨_, rfl⟩
      have rg_85 := And.intro (z_lo v_83) (z_hi v_83)
      have pz_86 : (pI T_24 801 s1).toInt = v_83.toInt := by rw [ev_83]
      refine r_getI (g := 801) (x := v_83) X hw ha_s1_L_25 rfl 1 ev_83 (by decide) rfl inn_X4_applyRules_8 (by decide) (X.2.2.2.1 (.fieldLink RX4 102 "SilkMill$Store" "today" "I") (by decide +kernel)) rfl (gv_801 _ _) dX4_applyRules_16 ?_
      refine k_i (rm := { frames := 5, cells := 0, slots := 0, locals := 240 }) (av := [.ref x, .int (i2_23), .int (v_83)]) X hw (va_runV (As := [.int (i2_23), .int (v_83)]) (rest := []) (cfix X) (k_X4_allHold5 l G cy κ T_24 _ x (i2_23) (i2_23_z) (v_83) (v_83.toInt) D R0 R1 R2 Gs s1 (rusF Ev A (Rl.take (i2_23_z).toNat)) Ev Rl ru_80 hO_T_24.1 ha_x_L_26 hz_i2_23 rfl dt_41 pr_40 (PotV_of (rfl : (rusF Ev A (Rl.take (i2_23_z).toNat)) = (rusF Ev A (Rl.take (i2_23_z).toNat))) pv_44 pv_45 pv_46 pv_47 pv_48 pv_49 pv_50 pv_51 pv_52 pv_53 pv_54) en_43 ha_s1_L_25 ((en_43.2.1.trans ev_83).symm) (by omega) (by omega) ⟨rs_66, rs_67, rs_68, rs_69⟩ ru_81) (cwV 2 X.2.2.2.1 gX4_applyRules_X4_allHold rfl rfl rfl (by decide +kernel) ⟨Nat.le_of_ble_eq_true rfl, Nat.le_of_ble_eq_true rfl⟩) (pre_V X hw _ ha_x_L_26 rfl (by decide) rfl) rfl rfl hl.1 rfl (lv_room (Nat.le_of_ble_eq_true rfl)) dX4_applyRules_19 ⟨(by show cc_30 + 0 ≤ Phc S + 8; omega), (by show nn_31 + 0 ≤ Phs S + 15019; omega)⟩) cc_30 nn_31 (by show cc_30 + 0 ≤ cc_30; omega) (by show nn_31 + 0 ≤ nn_31; omega) (fun rr_87 S_88 H locs hp hw hfr hnw => ?_)
      obtain ⟨e2, hp⟩ := hp
      subst e2
      rcases hp with ⟨f_89, er_90⟩ | ⟨f_89, er_90⟩ <;> subst er_90
      · have z_b_91 := trivial
        refine lv_if_eq (tgt := 48) X.1 X.2.1 dX4_applyRules_22 (by decide) (fun c_92 => absurd c_92 (by decide)) (fun c_92 => ?_)
        refine lv_aload_n X.1 X.2.1 dX4_applyRules_25 rfl (lv_at hl 1 rfl) ?_
        refine lv_aload_n X.1 X.2.1 dX4_applyRules_26 rfl (lv_at hl 1 rfl) ?_
        refine r_getR (g := 409) X hw ha_x_L_26 rfl 9 rs_67 (by decide) rfl inn_X4_applyRules_4 (by decide) (X.2.2.2.1 (.fieldLink RX4 36 "SilkMill$Pot" "rules" "LSilkMill$Rules;") (by decide +kernel)) rfl (gv_409 _ _) dX4_applyRules_27 ?_
        obtain ⟨q_93, h_94, h_95, h_96⟩ := gQ_6_601 hO_T_24.1 rs_70
        refine r_getR (g := 601) X hw rs_70 rfl 1 h_94 (by decide) rfl inn_X4_applyRules_6 (by decide) (X.2.2.2.1 (.fieldLink RX4 109 "SilkMill$Rules" "acts" "[I") (by decide +kernel)) rfl (gv_601 _ _) dX4_applyRules_30 ?_
        refine lv_iload_n X.1 X.2.1 dX4_applyRules_33 rfl (lv_at hl 0 rfl) ?_
        refine r_iald X hw h_95 rfl (by rw [h_96]; exact z_ix hz_i2_23 (by omega) (by omega)) dX4_applyRules_34 ?_
        refine lv_topi (fun v_97 ev_97 => ?_)
        have rg_98 := And.intro (z_lo v_97) (z_hi v_97)
        have ev_97 := ev_97.symm
        have fa_99 : ru_80.1 = v_97 := by rw [← ru_82.1, mA_eq h_94, show (i2_23_z).toNat = Int32.toNatClampNeg (i2_23) from (z_nc hz_i2_23 (by omega)).symm, ev_97]
        refine lv_aload_n X.1 X.2.1 dX4_applyRules_35 rfl (lv_at hl 1 rfl) ?_
        refine r_getR (g := 409) X hw ha_x_L_26 rfl 9 rs_67 (by decide) rfl inn_X4_applyRules_4 (by decide) (X.2.2.2.1 (.fieldLink RX4 36 "SilkMill$Pot" "rules" "LSilkMill$Rules;") (by decide +kernel)) rfl (gv_409 _ _) dX4_applyRules_36 ?_
        obtain ⟨q_100, h_101, h_102, h_103⟩ := gQ_6_602 hO_T_24.1 rs_70
        refine r_getR (g := 602) X hw rs_70 rfl 2 h_101 (by decide) rfl inn_X4_applyRules_6 (by decide) (X.2.2.2.1 (.fieldLink RX4 113 "SilkMill$Rules" "amounts" "[I") (by decide +kernel)) rfl (gv_602 _ _) dX4_applyRules_39 ?_
        refine lv_iload_n X.1 X.2.1 dX4_applyRules_42 rfl (lv_at hl 0 rfl) ?_
        refine r_iald X hw h_102 rfl (by rw [h_103]; exact z_ix hz_i2_23 (by omega) (by omega)) dX4_applyRules_43 ?_
        refine lv_topi (fun v_104 ev_104 => ?_)
        have rg_105 := And.intro (z_lo v_104) (z_hi v_104)
        have ev_104 := ev_104.symm
        have fa_106 : ru_80.2.1 = v_104 := by rw [← ru_82.2.1, mA_eq h_101, show (i2_23_z).toNat = Int32.toNatClampNeg (i2_23) from (z_nc hz_i2_23 (by omega)).symm, ev_104]
        refine lv_aload_n X.1 X.2.1 dX4_applyRules_44 rfl (lv_at hl 2 rfl) ?_
        refine k_gv (kc := 0) (ks := 0) (rm := { frames := 6, cells := Phc T_24 + 8, slots := Phs T_24 + 15019, locals := 288 }) (av := [.ref x, .int (v_97), .int (v_104), .ref s1]) X hw (va_runV (As := [.int (v_97), .int (v_104), .ref s1]) (rest := []) (cfix X) (k_X4_act5 l G cy κ T_24 _ _ x (v_97) (v_97.toInt) (v_104) (v_104.toInt) s1 D R0 R1 R2 Gs (rusF Ev A (Rl.take (i2_23_z).toNat)) Ev hO_T_24.1 ha_x_L_26 rfl rfl ha_s1_L_25 dt_41 pr_40 (PotV_of (rfl : (rusF Ev A (Rl.take (i2_23_z).toNat)) = (rusF Ev A (Rl.take (i2_23_z).toNat))) pv_44 pv_45 pv_46 pv_47 pv_48 pv_49 pv_50 pv_51 pv_52 pv_53 pv_54) en_43) (cwV 3 X.2.2.2.1 gX4_applyRules_X4_act rfl rfl rfl (by decide +kernel) ⟨Nat.le_of_ble_eq_true rfl, Nat.le_of_ble_eq_true rfl⟩) (pre_gV X hw _ ha_x_L_26 rfl (by decide) rfl) rfl rfl hl.1 rfl (lv_room (Nat.le_of_ble_eq_true rfl)) dX4_applyRules_45 ⟨(by show cc_30 + (Phc T_24 + 8) ≤ Phc S + 8; omega), (by show nn_31 + (Phs T_24 + 15019) ≤ Phs S + 15019; omega)⟩) (fun S_108 H locs c_109 n_110 hc_109 hn_110 hp hw => ?_)
        obtain ⟨hk_111, hp⟩ := hp
        have ph_112 : c_109 + Phc S_108 ≤ Phc S + 0 := by omega
        have ph_113 : n_110 + Phs S_108 ≤ Phs S + 0 := by omega
        clear hcc_32
        clear hnn_33
        clear hc_109
        clear hn_110
        have hO_114 : Og eAC S S_108 := hO_T_24.call hk_111 (by decide +kernel)
        obtain ⟨pv_115, hx_116⟩ := hp
        obtain ⟨pv_117, pv_118, pv_119, pv_120, pv_121, pv_122, pv_123, pv_124, pv_125, pv_126, pv_127⟩ := pv_115
        obtain ⟨v_129, ev_129⟩ : ∃ v, pI S_108 902 Gs = v := ⟨_, rfl⟩
        have t_131 : At S_108 Gs 29 := hk_111.fr.at ha_39
        have rg_130 := gI_29_902 hO_114.1 t_131; rw [ev_129] at rg_130
        have pz_132 : (pI S_108 902 Gs).toInt = v_129.toInt := by rw [ev_129]
        have pz_133 : (pI S_108 902 Gs).toInt = v_129.toInt := (congrArg Int32.toInt ev_129).trans rfl
        obtain ⟨v_135, ev_135⟩ : ∃ v, pI S_108 800 s1 = v := ⟨_, rfl⟩
        have t_137 : At S_108 s1 8 := hk_111.fr.at ha_s1_L_25
        have rg_136 := gI_8_800 hO_114.1 t_137; rw [ev_135] at rg_136
        have pz_138 : (pI S_108 800 s1).toInt = v_135.toInt := by rw [ev_135]
        have pz_139 : (pI S_108 800 s1).toInt = v_135.toInt := (congrArg Int32.toInt ev_135).trans rfl
        have sl_140 := pv_122.1
        have sl_141 := pv_125.1
        obtain ⟨x_142, ex_142⟩ : ∃ y : Int32, y = i2_23 + 1 := ⟨_, rfl⟩
        have z_143 : x_142.toInt = i2_23_z + 1 := z_add ex_142 hz_i2_23 ti_1 (by omega) (by omega)
        refine lv_iinc (v := x_142) (lv' := [(2, .int (x_142)), (0, .ref x), (1, .ref s1)]) X.1 X.2.1 dX4_applyRules_48 hl (k := 0) rfl (by rw [ex_142]; rfl) (by decide) rfl (fun ls hl => ?_)
        refine lv_goto (tgt := 2) X.1 X.2.1 dX4_applyRules_51 (by decide) ?_
        have t_144 : At S_108 x 4 := hk_111.fr.at ha_x_L_26
        have px_145 : PotX S S_108 x R0 R1 R2 Gs := PotX_tr iv_28 ax_42 haR0 haR1 haR2 hx_116
        exact ih _ (by omega) _ _ _ _ (x_142) (x_142.toInt) (c_109) (n_110) rfl hw rfl (by omega) t_137 t_144 hO_114 (PotV_of (show rusF Ev A (Rl.take (x_142.toInt).toNat) = (actF Ev (v_97) (v_104) (rusF Ev A (Rl.take (i2_23_z).toNat))) by rw [show (x_142.toInt).toNat = (i2_23_z).toNat + 1 by omega, rusF_s ru_81, ruF_y f_89, fa_99, fa_106]) pv_117 pv_118 pv_119 pv_120 pv_121 pv_122 pv_123 pv_124 pv_125 pv_126 (inD_rus pv_11)) px_145 (by omega) (by omega) (by omega) (lv_sub hl [0, 1, 2] rfl)
      · have z_b_146 := trivial
        refine lv_if_eq (tgt := 48) X.1 X.2.1 dX4_applyRules_22 (by decide) (fun c_147 => ?_) (fun c_147 => absurd c_147 (by decide))
        obtain ⟨x_148, ex_148⟩ : ∃ y : Int32, y = i2_23 + 1 := ⟨_, rfl⟩
        have z_149 : x_148.toInt = i2_23_z + 1 := z_add ex_148 hz_i2_23 ti_1 (by omega) (by omega)
        refine lv_iinc (v := x_148) (lv' := [(2, .int (x_148)), (0, .ref x), (1, .ref s1)]) X.1 X.2.1 dX4_applyRules_48 hl (k := 0) rfl (by rw [ex_148]; rfl) (by decide) rfl (fun ls hl => ?_)
        refine lv_goto (tgt := 2) X.1 X.2.1 dX4_applyRules_51 (by decide) ?_
        exact ih _ (by omega) _ _ _ _ (x_148) (x_148.toInt) (cc_30) (nn_31) rfl hw rfl (by omega) ha_s1_L_25 ha_x_L_26 hO_T_24 (PotV_of (show rusF Ev A (Rl.take (x_148.toInt).toNat) = (rusF Ev A (Rl.take (i2_23_z).toNat)) by rw [show (x_148.toInt).toNat = (i2_23_z).toNat + 1 by omega, rusF_s ru_81, ruF_n f_89]) pv_44 pv_45 pv_46 pv_47 pv_48 pv_49 pv_50 pv_51 pv_52 pv_53 (inD_rus pv_11)) iv_28 (by omega) (by omega) (by omega) (lv_sub hl [0, 1, 2] rfl)
  exact L_22 _ _ _ _ _ (0) (0) (0) (0) rfl hw ti_0 (by omega) ha_s1 ha_x hO (PotV_of (rfl : rusF Ev A (Rl.take (0 : Int).toNat) = A) pv_1 pv_2 pv_3 pv_4 pv_5 pv_6 pv_7 pv_8 pv_9 pv_10 (inD_rus pv_11)) (PotX_rf S x R0 R1 R2 Gs) (by omega) (by omega) (by omega) (lv_sub hl [0, 1, 2] rfl)
