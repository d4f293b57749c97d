
set_option maxHeartbeats 4000000 in
set_option maxRecDepth 100000 in
theorem k_X4_applyRules5 (l : Launch) (G : va_G) (cy : Nat → ClassId) (κ : Nat → Nat) (S : PS) (sz hz : Nat) (x : Nat) (s1 : Nat) (D : Nat → Prop) (R0 : Nat) (R1 : Nat) (R2 : Nat) (Gs : Nat) (A : Pt) (Ev : En) (Rl : List Ru) (hG : GX S) (ha_x : At S x 4) (ha_s1 : At S s1 8) (hp_0 : (∀ c, D c → At S c 0)) (hp_1 : PotR S x R0 R1 R2 Gs) (hp_2 : PotV S D x R0 R1 R2 Gs s1 A) (hp_3 : EnC S D x s1 Ev) (hp_4 : RuS S x Rl) : Gv l yX4_applyRules wsX4_applyRules ({ frames := 7, cells := Phc S + 8, slots := Phs S + 15019, locals := 336 }) G cy κ S sz hz 0 0 [.ref x, .ref s1] (fun (S9 : PS) => Og eAC S S9 ∧ (PotV S9 D x R0 R1 R2 Gs s1 (rusF Ev A Rl) ∧ PotX S S9 x R0 R1 R2 Gs ∧ PzT S S9 D Gs s1 A (rusF Ev A Rl))) := by
  refine ent_g (cc := cX4_applyRules) (maxL := 3) (ret := none) (by decide) rfl (Nat.le_of_ble_eq_true rfl) ?_
  intro p e s m below meth c ls X hr hlocks hin hw hl hsz hhz
  subst hsz hhz
  have X : Cx p c cX4_applyRules 3 s [.ref x, .ref s1].toArray wsX4_applyRules RX4 m G cy κ (AS S s.heap.size) := X
  have hl : lv_has ls 3 [(0, .ref x), (1, .ref s1)] := hl
  have hpc0 : 0 + Phc S ≤ Phc S + 0 := by omega
  have hps0 : 0 + Phs S ≤ Phs S + 0 := by omega
  have hO : Og eAC S S := Og.rf hG
  generalize hQQ : MQ below _ _ _ _ _ _ = QQ
  replace hQQ := hQQ.symm
  have hpr := hp_1
  obtain ⟨hr0, hr1, hr2, hr3, hne, hcn⟩ := hpr
  have haR0 := row_at hG ha_x (Or.inl hr0)
  have haR1 := row_at hG ha_x (Or.inr (Or.inl hr1))
  have haR2 := row_at hG ha_x (Or.inr (Or.inr hr2))
  have haGs : At S Gs 29 := by obtain ⟨c, k1, k2⟩ := gQ_4_403 hG ha_x; have h3 := hr3; rw [k1] at h3; cases h3; exact k2
  have hpv := hp_2
  obtain ⟨pv_1, pv_2, pv_3, pv_4, pv_5, pv_6, pv_7, pv_8, pv_9, pv_10, pv_11⟩ := hpv
  obtain ⟨v_12, ev_12⟩ : ∃ v, pI S 902 Gs = v := ⟨_, rfl⟩
  have rg_13 := gI_29_902 hO.1 haGs; rw [ev_12] at rg_13
  have pz_14 : (pI S 902 Gs).toInt = v_12.toInt := by rw [ev_12]
  have pz_15 : (pI S 902 Gs).toInt = v_12.toInt := (congrArg Int32.toInt ev_12).trans rfl
  obtain ⟨v_16, ev_16⟩ : ∃ v, pI S 800 s1 = v := ⟨_, rfl⟩
  have rg_17 := gI_8_800 hO.1 ha_s1; rw [ev_16] at rg_17
  have pz_18 : (pI S 800 s1).toInt = v_16.toInt := by rw [ev_16]
  have pz_19 : (pI S 800 s1).toInt = v_16.toInt := (congrArg Int32.toInt ev_16).trans rfl
  have sl_20 := pv_6.1
  have sl_21 := pv_9.1
  refine lv_iconst (v := 0) X.1 X.2.1 dX4_applyRules_0 (by decide) ?_
  refine lv_istore_n (lv' := [(2, .int 0), (0, .ref x), (1, .ref s1)]) X.1 X.2.1 dX4_applyRules_1 rfl hl (by decide) rfl (fun ls hl => ?_)
  have L_22 : ∀ (n : Nat) (T_24 : PS) (H : Heap) (locs : List Loc) (ls : Array Slot) (i2_23 : Int32) (i2_23_z : Int) (cc_31 nn_32 : Nat), ((12 - i2_23_z).toNat = n) → (Wd G cy (AS S s.heap.size) s.heap T_24 H locs) → (i2_23.toInt = i2_23_z) → (0 ≤ i2_23_z ∧ i2_23_z ≤ 12) → (At T_24 s1 8) → (At T_24 x 4) → (Og eAC S T_24) → (PotV T_24 D x R0 R1 R2 Gs s1 (rusF Ev A (Rl.take (i2_23_z).toNat))) → (PotX S T_24 x R0 R1 R2 Gs) → (i2_23_z ≤ (Rl.length : Int)) → (PzT S T_24 D Gs s1 A (rusF Ev A (Rl.take (i2_23_z).toNat))) → (cc_31 + Phc T_24 ≤ Phc S + 0) → (nn_32 + Phs T_24 ≤ Phs S + 0) → (lv_has ls 3 [(2, .int (i2_23)), (0, .ref x), (1, .ref s1)]) → W p l e ({ frames := 7, cells := Phc S + 8, slots := Phs S + 15019, locals := 336 }) s m [.ref x, .ref s1].toArray below meth c H locs cc_31 nn_32 QQ (F0 m 2 ls []) := by
    intro n
    induction n using Nat.strongRecOn with
    | ind n ih =>
    intro T_24 H locs ls i2_23 i2_23_z cc_31 nn_32 hn hw hz_i2_23 hr_i2_23 ha_s1_L_25 ha_x_L_26 hO_T_24 iv_27 iv_28 iv_29 iv_30 hcc_33 hnn_34 hl
    have rg_35 : (-2147483648) ≤ i2_23_z ∧ i2_23_z ≤ 2147483647 := by rw [← hz_i2_23]; exact ⟨z_lo _, z_hi _⟩
    have iv_36 := iv_27
    have ha_37 : At T_24 R0 5 := hO_T_24.fr.at haR0
    have ha_38 : At T_24 R1 5 := hO_T_24.fr.at haR1
    have ha_39 : At T_24 R2 5 := hO_T_24.fr.at haR2
    have ha_40 : At T_24 Gs 29 := hO_T_24.fr.at haGs
    have pr_41 : PotR T_24 x R0 R1 R2 Gs := PotR_fr hG ha_x hO_T_24.fr (by decide +kernel) hp_1
    have dt_42 : ∀ c, D c → At T_24 c 0 := fun c h => hO_T_24.fr.at (hp_0 c h)
    have ax_43 : ∀ a k, At S a k → At T_24 a k := fun a k h => hO_T_24.fr.at h
    have en_44 : EnC T_24 D x s1 Ev := EnC_fr hO_T_24.fr hp_0 ha_x ha_s1 (by decide +kernel) hp_3
    obtain ⟨pv_45, pv_46, pv_47, pv_48, pv_49, pv_50, pv_51, pv_52, pv_53, pv_54, pv_55⟩ := iv_36
    obtain ⟨v_56, ev_56⟩ : ∃ v, pI T_24 902 Gs = v := ⟨_, rfl⟩
    have rg_57 := gI_29_902 hO_T_24.1 ha_40; rw [ev_56] at rg_57
    have pz_58 : (pI T_24 902 Gs).toInt = v_56.toInt := by rw [ev_56]
    have pz_59 : (pI T_24 902 Gs).toInt = v_56.toInt := (congrArg Int32.toInt ev_56).trans rfl
    obtain ⟨v_60, ev_60⟩ : ∃ v, pI T_24 800 s1 = v := ⟨_, rfl⟩
    have rg_61 := gI_8_800 hO_T_24.1 ha_s1_L_25; rw [ev_60] at rg_61
    have pz_62 : (pI T_24 800 s1).toInt = v_60.toInt := by rw [ev_60]
    have pz_63 : (pI T_24 800 s1).toInt = v_60.toInt := (congrArg Int32.toInt ev_60).trans rfl
    have sl_64 := pv_50.1
    have sl_65 := pv_53.1
    have rs_66 : RuS T_24 x Rl := RuS_fr hG ha_x hO_T_24.fr (by decide +kernel) hp_4
    obtain ⟨rs_67, rs_68, rs_69, rs_70⟩ := rs_66
    have rs_71 := ru_at hO_T_24.1 ha_x_L_26 rs_68
    obtain ⟨v_72, ev_72⟩ : ∃ v, pI T_24 600 rs_67 = v := ⟨_, rfl⟩
    have rg_73 := gI_6_600 hO_T_24.1 rs_71; rw [ev_72] at rg_73
    have pz_74 : (pI T_24 600 rs_67).toInt = v_72.toInt := by rw [ev_72]
    have pz_75 : (pI T_24 600 rs_67).toInt = v_72.toInt := (congrArg Int32.toInt ev_72).trans rfl
    refine lv_iload_n X.1 X.2.1 dX4_applyRules_2 rfl (lv_at hl 0 rfl) ?_
    refine lv_aload_n X.1 X.2.1 dX4_applyRules_3 rfl (lv_at hl 1 rfl) ?_
    refine r_getR (g := 409) X hw ha_x_L_26 rfl 9 rs_68 (by decide) rfl inn_X4_applyRules_4 (by decide) (X.2.2.2.1 (.fieldLink RX4 36 "SilkMill$Pot" "rules" "LSilkMill$Rules;") (by decide +kernel)) rfl (gv_409 _ _) dX4_applyRules_4 ?_
    refine r_getI (g := 600) (x := v_72) X hw rs_71 rfl 0 ev_72 (by decide) rfl inn_X4_applyRules_6 (by decide) (X.2.2.2.1 (.fieldLink RX4 101 "SilkMill$Rules" "size" "I") (by decide +kernel)) rfl (gv_600 _ _) dX4_applyRules_7 ?_
    refine lv_icmp_ge (tgt := 54) X.1 X.2.1 dX4_applyRules_10 (by decide) (fun c_76 => ?_) (fun c_76 => ?_)
    · have z_b_77 := trivial
      have k_78 : i2_23_z ≥ v_72.toInt := z_le rfl hz_i2_23 c_76
      rw [hQQ]
      exact ret_gv X hw hr hlocks (by show cc_31 ≤ Phc S + 8; omega) (by show nn_32 ≤ Phs S + 15019; omega) (by omega) (by omega) ⟨hO_T_24, ⟨PotV_of (show rusF Ev A Rl = rusF Ev A (Rl.take (i2_23_z).toNat) by rw [show (i2_23_z).toNat = Rl.length by omega, List.take_length]) pv_45 pv_46 pv_47 pv_48 pv_49 pv_50 pv_51 pv_52 pv_53 pv_54 (inD_rus pv_11), iv_28, (PzT_e (show rusF Ev A Rl = rusF Ev A (Rl.take (i2_23_z).toNat) by rw [show (i2_23_z).toNat = Rl.length by omega, List.take_length]) iv_30)⟩⟩ dX4_applyRules_54
    · have z_b_79 := trivial
      have k_80 : i2_23_z < v_72.toInt := z_nle rfl hz_i2_23 c_76
      obtain ⟨ru_81, ru_82⟩ : ∃ r, Rl[(i2_23_z).toNat]? = some r := ⟨_, List.getElem?_eq_getElem (by omega)⟩
      have ru_83 := rs_70 _ _ ru_82
      refine lv_aload_n X.1 X.2.1 dX4_applyRules_13 rfl (lv_at hl 1 rfl) ?_
      refine lv_iload_n X.1 X.2.1 dX4_applyRules_14 rfl (lv_at hl 0 rfl) ?_
      refine lv_aload_n X.1 X.2.1 dX4_applyRules_15 rfl (lv_at hl 2 rfl) ?_
      obtain ⟨v_84, ev_84⟩ : ∃ v, pI T_24 801 s1 = v := ⟨_, rfl⟩
      have rg_86 := And.intro (z_lo v_84) (z_hi v_84)
      have pz_87 : (pI T_24 801 s1).toInt = v_84.toInt := by rw [ev_84]
      refine r_getI (g := 801) (x := v_84) X hw ha_s1_L_25 rfl 1 ev_84 (by decide) rfl inn_X4_applyRules_8 (by decide) (X.2.2.2.1 (.fieldLink RX4 102 "SilkMill$Store" "today" "I") (by decide +kernel)) rfl (gv_801 _ _) dX4_applyRules_16 ?_
      refine k_i (rm := { frames := 5, cells := 0, slots := 0, locals := 240 }) (av := [.ref x, .int (i2_23), .int (v_84)]) X hw (va_runV (As := [.int (i2_23), .int (v_84)]) (rest := []) (cfix X) (k_X4_allHold5 l G cy κ T_24 _ x (i2_23) (i2_23_z) (v_84) (v_84.toInt) D R0 R1 R2 Gs s1 (rusF Ev A (Rl.take (i2_23_z).toNat)) Ev Rl ru_81 hO_T_24.1 ha_x_L_26 hz_i2_23 rfl dt_42 pr_41 (PotV_of (rfl : (rusF Ev A (Rl.take (i2_23_z).toNat)) = (rusF Ev A (Rl.take (i2_23_z).toNat))) pv_45 pv_46 pv_47 pv_48 pv_49 pv_50 pv_51 pv_52 pv_53 pv_54 pv_55) en_44 ha_s1_L_25 ((en_44.2.1.trans ev_84).symm) (by omega) (by omega) ⟨rs_67, rs_68, rs_69, rs_70⟩ ru_82) (cwV 2 X.2.2.2.1 gX4_applyRules_X4_allHold rfl rfl rfl (by decide +kernel) ⟨Nat.le_of_ble_eq_true rfl, Nat.le_of_ble_eq_true rfl⟩) (pre_V X hw _ ha_x_L_26 rfl (by decide) rfl) rfl rfl hl.1 rfl (lv_room (Nat.le_of_ble_eq_true rfl)) dX4_applyRules_19 ⟨(by show cc_31 + 0 ≤ Phc S + 8; omega), (by show nn_32 + 0 ≤ Phs S + 15019; omega)⟩) cc_31 nn_32 (by show cc_31 + 0 ≤ cc_31; omega) (by show nn_32 + 0 ≤ nn_32; omega) (fun rr_88 S_89 H locs hp hw hfr hnw => ?_)
      obtain ⟨e2, hp⟩ := hp
      subst e2
      rcases hp with ⟨f_90, er_91⟩ | ⟨f_90, er_91⟩ <;> subst er_91
      · have z_b_92 := trivial
        refine lv_if_eq (tgt := 48) X.1 X.2.1 dX4_applyRules_22 (by decide) (fun c_93 => absurd c_93 (by decide)) (fun c_93 => ?_)
        refine lv_aload_n X.1 X.2.1 dX4_applyRules_25 rfl (lv_at hl 1 rfl) ?_
        refine lv_aload_n X.1 X.2.1 dX4_applyRules_26 rfl (lv_at hl 1 rfl) ?_
        refine r_getR (g := 409) X hw ha_x_L_26 rfl 9 rs_68 (by decide) rfl inn_X4_applyRules_4 (by decide) (X.2.2.2.1 (.fieldLink RX4 36 "SilkMill$Pot" "rules" "LSilkMill$Rules;") (by decide +kernel)) rfl (gv_409 _ _) dX4_applyRules_27 ?_
        obtain ⟨q_94, h_95, h_96, h_97⟩ := gQ_6_601 hO_T_24.1 rs_71
        refine r_getR (g := 601) X hw rs_71 rfl 1 h_95 (by decide) rfl inn_X4_applyRules_6 (by decide) (X.2.2.2.1 (.fieldLink RX4 109 "SilkMill$Rules" "acts" "[I") (by decide +kernel)) rfl (gv_601 _ _) dX4_applyRules_30 ?_
        refine lv_iload_n X.1 X.2.1 dX4_applyRules_33 rfl (lv_at hl 0 rfl) ?_
        refine r_iald X hw h_96 rfl (by rw [h_97]; exact z_ix hz_i2_23 (by omega) (by omega)) dX4_applyRules_34 ?_
        refine lv_topi (fun v_98 ev_98 => ?_)
        have rg_99 := And.intro (z_lo v_98) (z_hi v_98)
        have ev_98 := ev_98.symm
        have fa_100 : ru_81.1 = v_98 := by rw [← ru_83.1, mA_eq h_95, show (i2_23_z).toNat = Int32.toNatClampNeg (i2_23) from (z_nc hz_i2_23 (by omega)).symm, ev_98]
        refine lv_aload_n X.1 X.2.1 dX4_applyRules_35 rfl (lv_at hl 1 rfl) ?_
        refine r_getR (g := 409) X hw ha_x_L_26 rfl 9 rs_68 (by decide) rfl inn_X4_applyRules_4 (by decide) (X.2.2.2.1 (.fieldLink RX4 36 "SilkMill$Pot" "rules" "LSilkMill$Rules;") (by decide +kernel)) rfl (gv_409 _ _) dX4_applyRules_36 ?_
        obtain ⟨q_101, h_102, h_103, h_104⟩ := gQ_6_602 hO_T_24.1 rs_71
        refine r_getR (g := 602) X hw rs_71 rfl 2 h_102 (by decide) rfl inn_X4_applyRules_6 (by decide) (X.2.2.2.1 (.fieldLink RX4 113 "SilkMill$Rules" "amounts" "[I") (by decide +kernel)) rfl (gv_602 _ _) dX4_applyRules_39 ?_
        refine lv_iload_n X.1 X.2.1 dX4_applyRules_42 rfl (lv_at hl 0 rfl) ?_
        refine r_iald X hw h_103 rfl (by rw [h_104]; exact z_ix hz_i2_23 (by omega) (by omega)) dX4_applyRules_43 ?_
        refine lv_topi (fun v_105 ev_105 => ?_)
        have rg_106 := And.intro (z_lo v_105) (z_hi v_105)
        have ev_105 := ev_105.symm
        have fa_107 : ru_81.2.1 = v_105 := by rw [← ru_83.2.1, mA_eq h_102, show (i2_23_z).toNat = Int32.toNatClampNeg (i2_23) from (z_nc hz_i2_23 (by omega)).symm, ev_105]
        refine lv_aload_n X.1 X.2.1 dX4_applyRules_44 rfl (lv_at hl 2 rfl) ?_
        refine k_gv (kc := 0) (ks := 0) (rm := { frames := 6, cells := Phc T_24 + 8, slots := Phs T_24 + 15019, locals := 288 }) (av := [.ref x, .int (v_98), .int (v_105), .ref s1]) X hw (va_runV (As := [.int (v_98), .int (v_105), .ref s1]) (rest := []) (cfix X) (k_X4_act5 l G cy κ T_24 _ _ x (v_98) (v_98.toInt) (v_105) (v_105.toInt) s1 D R0 R1 R2 Gs (rusF Ev A (Rl.take (i2_23_z).toNat)) Ev hO_T_24.1 ha_x_L_26 rfl rfl ha_s1_L_25 dt_42 pr_41 (PotV_of (rfl : (rusF Ev A (Rl.take (i2_23_z).toNat)) = (rusF Ev A (Rl.take (i2_23_z).toNat))) pv_45 pv_46 pv_47 pv_48 pv_49 pv_50 pv_51 pv_52 pv_53 pv_54 pv_55) en_44) (cwV 3 X.2.2.2.1 gX4_applyRules_X4_act rfl rfl rfl (by decide +kernel) ⟨Nat.le_of_ble_eq_true rfl, Nat.le_of_ble_eq_true rfl⟩) (pre_gV X hw _ ha_x_L_26 rfl (by decide) rfl) rfl rfl hl.1 rfl (lv_room (Nat.le_of_ble_eq_true rfl)) dX4_applyRules_45 ⟨(by show cc_31 + (Phc T_24 + 8) ≤ Phc S + 8; omega), (by show nn_32 + (Phs T_24 + 15019) ≤ Phs S + 15019; omega)⟩) (fun S_109 H locs c_110 n_111 hc_110 hn_111 hp hw => ?_)
        obtain ⟨hk_112, hp⟩ := hp
        have ph_113 : c_110 + Phc S_109 ≤ Phc S + 0 := by omega
        have ph_114 : n_111 + Phs S_109 ≤ Phs S + 0 := by omega
        clear hcc_33
        clear hnn_34
        clear hc_110
        clear hn_111
        have hO_115 : Og eAC S S_109 := hO_T_24.call hk_112 (by decide +kernel)
        obtain ⟨pv_116, hx_117, pz_118⟩ := hp
        obtain ⟨pv_119, pv_120, pv_121, pv_122, pv_123, pv_124, pv_125, pv_126, pv_127, pv_128, pv_129⟩ := pv_116
        obtain ⟨v_131, ev_131⟩ : ∃ v, pI S_109 902 Gs = v := ⟨_, rfl⟩
        have t_133 : At S_109 Gs 29 := hk_112.fr.at ha_40
        have rg_132 := gI_29_902 hO_115.1 t_133; rw [ev_131] at rg_132
        have pz_134 : (pI S_109 902 Gs).toInt = v_131.toInt := by rw [ev_131]
        have pz_135 : (pI S_109 902 Gs).toInt = v_131.toInt := (congrArg Int32.toInt ev_131).trans rfl
        obtain ⟨v_137, ev_137⟩ : ∃ v, pI S_109 800 s1 = v := ⟨_, rfl⟩
        have t_139 : At S_109 s1 8 := hk_112.fr.at ha_s1_L_25
        have rg_138 := gI_8_800 hO_115.1 t_139; rw [ev_137] at rg_138
        have pz_140 : (pI S_109 800 s1).toInt = v_137.toInt := by rw [ev_137]
        have pz_141 : (pI S_109 800 s1).toInt = v_137.toInt := (congrArg Int32.toInt ev_137).trans rfl
        have sl_142 := pv_124.1
        have sl_143 := pv_127.1
        obtain ⟨x_144, ex_144⟩ : ∃ y : Int32, y = i2_23 + 1 := ⟨_, rfl⟩
        have z_145 : x_144.toInt = i2_23_z + 1 := z_add ex_144 hz_i2_23 ti_1 (by omega) (by omega)
        refine lv_iinc (v := x_144) (lv' := [(2, .int (x_144)), (0, .ref x), (1, .ref s1)]) X.1 X.2.1 dX4_applyRules_48 hl (k := 0) rfl (by rw [ex_144]; rfl) (by decide) rfl (fun ls hl => ?_)
        refine lv_goto (tgt := 2) X.1 X.2.1 dX4_applyRules_51 (by decide) ?_
        have t_146 : At S_109 x 4 := hk_112.fr.at ha_x_L_26
        have px_147 : PotX S S_109 x R0 R1 R2 Gs := PotX_tr iv_28 ax_43 haR0 haR1 haR2 hx_117
        have pt_148 : PzT S S_109 D Gs s1 A (actF Ev (v_98) (v_105) (rusF Ev A (Rl.take (i2_23_z).toNat))) := PzT_tr iv_30 pz_118
        exact ih _ (by omega) _ _ _ _ (x_144) (x_144.toInt) (c_110) (n_111) rfl hw rfl (by omega) t_139 t_146 hO_115 (PotV_of (show rusF Ev A (Rl.take (x_144.toInt).toNat) = (actF Ev (v_98) (v_105) (rusF Ev A (Rl.take (i2_23_z).toNat))) by rw [show (x_144.toInt).toNat = (i2_23_z).toNat + 1 by omega, rusF_s ru_82, ruF_y f_90, fa_100, fa_107]) pv_119 pv_120 pv_121 pv_122 pv_123 pv_124 pv_125 pv_126 pv_127 pv_128 (inD_rus pv_11)) px_147 (by omega) (PzT_e (show rusF Ev A (Rl.take (x_144.toInt).toNat) = (actF Ev (v_98) (v_105) (rusF Ev A (Rl.take (i2_23_z).toNat))) by rw [show (x_144.toInt).toNat = (i2_23_z).toNat + 1 by omega, rusF_s ru_82, ruF_y f_90, fa_100, fa_107]) pt_148) (by omega) (by omega) (lv_sub hl [0, 1, 2] rfl)
      · have z_b_149 := trivial
        refine lv_if_eq (tgt := 48) X.1 X.2.1 dX4_applyRules_22 (by decide) (fun c_150 => ?_) (fun c_150 => absurd c_150 (by decide))
        obtain ⟨x_151, ex_151⟩ : ∃ y : Int32, y = i2_23 + 1 := ⟨_, rfl⟩
        have z_152 : x_151.toInt = i2_23_z + 1 := z_add ex_151 hz_i2_23 ti_1 (by omega) (by omega)
        refine lv_iinc (v := x_151) (lv' := [(2, .int (x_151)), (0, .ref x), (1, .ref s1)]) X.1 X.2.1 dX4_applyRules_48 hl (k := 0) rfl (by rw [ex_151]; rfl) (by decide) rfl (fun ls hl => ?_)
        refine lv_goto (tgt := 2) X.1 X.2.1 dX4_applyRules_51 (by decide) ?_
        exact ih _ (by omega) _ _ _ _ (x_151) (x_151.toInt) (cc_31) (nn_32) rfl hw rfl (by omega) ha_s1_L_25 ha_x_L_26 hO_T_24 (PotV_of (show rusF Ev A (Rl.take (x_151.toInt).toNat) = (rusF Ev A (Rl.take (i2_23_z).toNat)) by rw [show (x_151.toInt).toNat = (i2_23_z).toNat + 1 by omega, rusF_s ru_82, ruF_n f_90]) pv_45 pv_46 pv_47 pv_48 pv_49 pv_50 pv_51 pv_52 pv_53 pv_54 (inD_rus pv_11)) iv_28 (by omega) (PzT_e (show rusF Ev A (Rl.take (x_151.toInt).toNat) = (rusF Ev A (Rl.take (i2_23_z).toNat)) by rw [show (x_151.toInt).toNat = (i2_23_z).toNat + 1 by omega, rusF_s ru_82, ruF_n f_90]) iv_30) (by omega) (by omega) (lv_sub hl [0, 1, 2] rfl)
  exact L_22 _ _ _ _ _ (0) (0) (0) (0) rfl hw ti_0 (by omega) ha_s1 ha_x hO (PotV_of (rfl : rusF Ev A (Rl.take (0 : Int).toNat) = A) pv_1 pv_2 pv_3 pv_4 pv_5 pv_6 pv_7 pv_8 pv_9 pv_10 (inD_rus pv_11)) (PotX_rf S x R0 R1 R2 Gs) (by omega) (PzT_e (rfl : rusF Ev A (Rl.take (0 : Int).toNat) = A) (PzT_rf S D Gs s1 A)) (by omega) (by omega) (lv_sub hl [0, 1, 2] rfl)
