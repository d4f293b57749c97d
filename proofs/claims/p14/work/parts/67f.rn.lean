
set_option maxHeartbeats 4000000 in
set_option maxRecDepth 100000 in
theorem k_X4_applyRules5 (l : Launch) (G : va_G) (cy : Nat → ClassId) (κ : Nat → Nat) (S : PS) (sz hz : Nat) (x : Nat) (s1 : Nat) (D : Nat → Prop) (R0 : Nat) (R1 : Nat) (R2 : Nat) (Gs : Nat) (A : Pt) (Ev : En) (Rl : List Ru) (hG : GX S) (ha_x : At S x 4) (ha_s1 : At S s1 8) (hp_0 : (∀ c, D c → At S c 0)) (hp_1 : PotR S x R0 R1 R2 Gs) (hp_2 : PotV S D x R0 R1 R2 Gs s1 A) (hp_3 : EnC S D x s1 Ev) (hp_4 : RuS S x Rl) : Gv l yX4_applyRules wsX4_applyRules ({ frames := 7, cells := Phc S + 8, slots := Phs S + 15019, locals := 336 }) G cy κ S sz hz 0 0 [.ref x, .ref s1] (fun (S9 : PS) => Og eAC S S9 ∧ (PotV S9 D x R0 R1 R2 Gs s1 (rusF Ev A Rl) ∧ PotX S S9 x R0 R1 R2 Gs)) := by
  refine ent_g (cc := cX4_applyRules) (maxL := 3) (ret := none) (by decide) rfl (Nat.le_of_ble_eq_true rfl) ?_
  intro p e s m below meth c ls X hr hlocks hin hw hl hsz hhz
  subst hsz hhz
  have X : Cx p c cX4_applyRules 3 s [.ref x, .ref s1].toArray wsX4_applyRules RX4 m G cy κ (AS S s.heap.size) := X
  have hl : lv_has ls 3 [(0, .ref x), (1, .ref s1)] := hl
  have hpc0 : 0 + Phc S ≤ Phc S + 0 := by omega
  have hps0 : 0 + Phs S ≤ Phs S + 0 := by omega
  have hO : Og eAC S S := Og.rf hG
  generalize hQQ : MQ below _ _ _ _ _ _ = QQ
  replace hQQ := hQQ.symm
  have hpr := hp_1
  obtain ⟨hr0, hr1, hr2, hr3, hne, hcn⟩ := hpr
  have haR0 := row_at hG ha_x (Or.inl hr0)
  have haR1 := row_at hG ha_x (Or.inr (Or.inl hr1))
  have haR2 := row_at hG ha_x (Or.inr (Or.inr hr2))
  have haGs : At S Gs 29 := by obtain ⟨c, k1, k2⟩ := gQ_4_403 hG ha_x; have h3 := hr3; rw [k1] at h3; cases h3; exact k2
  have hpv := hp_2
  obtain ⟨pv_1, pv_2, pv_3, pv_4, pv_5, pv_6, pv_7, pv_8, pv_9, pv_10, pv_11⟩ := hpv
  obtain ⟨v_12, ev_12⟩ : ∃ v, pI S 902 Gs = v := ⟨_, rfl⟩
  have rg_13 := gI_29_902 hO.1 haGs; rw [ev_12] at rg_13
  have pz_14 : (pI S 902 Gs).toInt = v_12.toInt := by rw [ev_12]
  have pz_15 : (pI S 902 Gs).toInt = v_12.toInt := (congrArg Int32.toInt ev_12).trans rfl
  obtain ⟨v_16, ev_16⟩ : ∃ v, pI S 800 s1 = v := ⟨_, rfl⟩
  have rg_17 := gI_8_800 hO.1 ha_s1; rw [ev_16] at rg_17
  have pz_18 : (pI S 800 s1).toInt = v_16.toInt := by rw [ev_16]
  have pz_19 : (pI S 800 s1).toInt = v_16.toInt := (congrArg Int32.toInt ev_16).trans rfl
  refine lv_iconst (v := 0) X.1 X.2.1 dX4_applyRules_0 (by decide) ?_
  refine lv_istore_n (lv' := [(2, .int 0), (0, .ref x), (1, .ref s1)]) X.1 X.2.1 dX4_applyRules_1 rfl hl (by decide) rfl (fun ls hl => ?_)
  have L_20 : ∀ (n : Nat) (T_22 : PS) (H : Heap) (locs : List Loc) (ls : Array Slot) (i2_21 : Int32) (i2_21_z : Int) (cc_28 nn_29 : Nat), ((12 - i2_21_z).toNat = n) → (Wd G cy (AS S s.heap.size) s.heap T_22 H locs) → (i2_21.toInt = i2_21_z) → (0 ≤ i2_21_z ∧ i2_21_z ≤ 12) → (At T_22 s1 8) → (At T_22 x 4) → (Og eAC S T_22) → (PotV T_22 D x R0 R1 R2 Gs s1 (rusF Ev A (Rl.take (i2_21_z).toNat))) → (PotX S T_22 x R0 R1 R2 Gs) → (i2_21_z ≤ (Rl.length : Int)) → (cc_28 + Phc T_22 ≤ Phc S + 0) → (nn_29 + Phs T_22 ≤ Phs S + 0) → (lv_has ls 3 [(2, .int (i2_21)), (0, .ref x), (1, .ref s1)]) → W p l e ({ frames := 7, cells := Phc S + 8, slots := Phs S + 15019, locals := 336 }) s m [.ref x, .ref s1].toArray below meth c H locs cc_28 nn_29 QQ (F0 m 2 ls []) := by
    intro n
    induction n using Nat.strongRecOn with
    | ind n ih =>
    intro T_22 H locs ls i2_21 i2_21_z cc_28 nn_29 hn hw hz_i2_21 hr_i2_21 ha_s1_L_23 ha_x_L_24 hO_T_22 iv_25 iv_26 iv_27 hcc_30 hnn_31 hl
    have rg_32 : (-2147483648) ≤ i2_21_z ∧ i2_21_z ≤ 2147483647 := by rw [← hz_i2_21]; exact ⟨z_lo _, z_hi _⟩
    have iv_33 := iv_25
    have ha_34 : At T_22 R0 5 := hO_T_22.fr.at haR0
    have ha_35 : At T_22 R1 5 := hO_T_22.fr.at haR1
    have ha_36 : At T_22 R2 5 := hO_T_22.fr.at haR2
    have ha_37 : At T_22 Gs 29 := hO_T_22.fr.at haGs
    have pr_38 : PotR T_22 x R0 R1 R2 Gs := PotR_fr hG ha_x hO_T_22.fr (by decide +kernel) hp_1
    have dt_39 : ∀ c, D c → At T_22 c 0 := fun c h => hO_T_22.fr.at (hp_0 c h)
    have ax_40 : ∀ a k, At S a k → At T_22 a k := fun a k h => hO_T_22.fr.at h
    have en_41 : EnC T_22 D x s1 Ev := EnC_fr hO_T_22.fr hp_0 ha_x ha_s1 (by decide +kernel) hp_3
    obtain ⟨pv_42, pv_43, pv_44, pv_45, pv_46, pv_47, pv_48, pv_49, pv_50, pv_51, pv_52⟩ := iv_33
    obtain ⟨v_53, ev_53⟩ : ∃ v, pI T_22 902 Gs = v := ⟨_, rfl⟩
    have rg_54 := gI_29_902 hO_T_22.1 ha_37; rw [ev_53] at rg_54
    have pz_55 : (pI T_22 902 Gs).toInt = v_53.toInt := by rw [ev_53]
    have pz_56 : (pI T_22 902 Gs).toInt = v_53.toInt := (congrArg Int32.toInt ev_53).trans rfl
    obtain ⟨v_57, ev_57⟩ : ∃ v, pI T_22 800 s1 = v := ⟨_, rfl⟩
    have rg_58 := gI_8_800 hO_T_22.1 ha_s1_L_23; rw [ev_57] at rg_58
    have pz_59 : (pI T_22 800 s1).toInt = v_57.toInt := by rw [ev_57]
    have pz_60 : (pI T_22 800 s1).toInt = v_57.toInt := (congrArg Int32.toInt ev_57).trans rfl
    have rs_61 : RuS T_22 x Rl := RuS_fr hG ha_x hO_T_22.fr (by decide +kernel) hp_4
    obtain ⟨rs_62, rs_63, rs_64, rs_65⟩ := rs_61
    have rs_66 := ru_at hO_T_22.1 ha_x_L_24 rs_63
    obtain ⟨v_67, ev_67⟩ : ∃ v, pI T_22 600 rs_62 = v := ⟨_, rfl⟩
    have rg_68 := gI_6_600 hO_T_22.1 rs_66; rw [ev_67] at rg_68
    have pz_69 : (pI T_22 600 rs_62).toInt = v_67.toInt := by rw [ev_67]
    have pz_70 : (pI T_22 600 rs_62).toInt = v_67.toInt := (congrArg Int32.toInt ev_67).trans rfl
    refine lv_iload_n X.1 X.2.1 dX4_applyRules_2 rfl (lv_at hl 0 rfl) ?_
    refine lv_aload_n X.1 X.2.1 dX4_applyRules_3 rfl (lv_at hl 1 rfl) ?_
    refine r_getR (g := 409) X hw ha_x_L_24 rfl 9 rs_63 (by decide) rfl inn_X4_applyRules_4 (by decide) (X.2.2.2.1 (.fieldLink RX4 36 "SilkMill$Pot" "rules" "LSilkMill$Rules;") (by decide +kernel)) rfl (gv_409 _ _) dX4_applyRules_4 ?_
    refine r_getI (g := 600) (x := v_67) X hw rs_66 rfl 0 ev_67 (by decide) rfl inn_X4_applyRules_6 (by decide) (X.2.2.2.1 (.fieldLink RX4 101 "SilkMill$Rules" "size" "I") (by decide +kernel)) rfl (gv_600 _ _) dX4_applyRules_7 ?_
    refine lv_icmp_ge (tgt := 54) X.1 X.2.1 dX4_applyRules_10 (by decide) (fun c_71 => ?_) (fun c_71 => ?_)
    · have z_b_72 := trivial
      have k_73 : i2_21_z ≥ v_67.toInt := z_le rfl hz_i2_21 c_71
      have pz_74 : (pI T_22 902 Gs).toInt = v_53.toInt := (congrArg Int32.toInt ev_53).trans rfl
      have pz_75 : (pI T_22 800 s1).toInt = v_57.toInt := (congrArg Int32.toInt ev_57).trans rfl
      rw [hQQ]
      exact ret_gv X hw hr hlocks (by show cc_28 ≤ Phc S + 8; omega) (by show nn_29 ≤ Phs S + 15019; omega) (by omega) (by omega) ⟨hO_T_22, ⟨PotV_of (show rusF Ev A Rl = rusF Ev A (Rl.take (i2_21_z).toNat) by rw [show (i2_21_z).toNat = Rl.length by omega, List.take_length]) pv_42 pv_43 pv_44 pv_45 pv_46 (show (pI T_22 902 Gs).toInt = (((qg (rusF Ev A (Rl.take (i2_21_z).toNat)))).length : Int) by omega) pv_48 pv_49 (show (pI T_22 800 s1).toInt = (((qsk (rusF Ev A (Rl.take (i2_21_z).toNat)))).length : Int) by omega) pv_51 (inD_rus pv_11), iv_26⟩⟩ dX4_applyRules_54
    · have z_b_76 := trivial
      have k_77 : i2_21_z < v_67.toInt := z_nle rfl hz_i2_21 c_71
      obtain ⟨ru_78, ru_79⟩ : ∃ r, Rl[(i2_21_z).toNat]? = some r := ⟨_, List.getElem?_eq_getElem (by omega)⟩
      have ru_80 := rs_65 _ _ ru_79
      refine lv_aload_n X.1 X.2.1 dX4_applyRules_13 rfl (lv_at hl 1 rfl) ?_
      refine lv_iload_n X.1 X.2.1 dX4_applyRules_14 rfl (lv_at hl 0 rfl) ?_
      refine lv_aload_n X.1 X.2.1 dX4_applyRules_15 rfl (lv_at hl 2 rfl) ?_
      obtain ⟨v_81, ev_81⟩ : ∃ v, pI T_22 801 s1 = v := ⟨_, rfl⟩
      have rg_83 := And.intro (z_lo v_81) (z_hi v_81)
      have pz_84 : (pI T_22 801 s1).toInt = v_81.toInt := by rw [ev_81]
      refine r_getI (g := 801) (x := v_81) X hw ha_s1_L_23 rfl 1 ev_81 (by decide) rfl inn_X4_applyRules_8 (by decide) (X.2.2.2.1 (.fieldLink RX4 102 "SilkMill$Store" "today" "I") (by decide +kernel)) rfl (gv_801 _ _) dX4_applyRules_16 ?_
      have pz_85 : (pI T_22 902 Gs).toInt = v_53.toInt := (congrArg Int32.toInt ev_53).trans rfl
      have pz_86 : (pI T_22 800 s1).toInt = v_57.toInt := (congrArg Int32.toInt ev_57).trans rfl
      refine k_i (rm := { frames := 5, cells := 0, slots := 0, locals := 240 }) (av := [.ref x, .int (i2_21), .int (v_81)]) X hw (va_runV (As := [.int (i2_21), .int (v_81)]) (rest := []) (cfix X) (k_X4_allHold5 l G cy κ T_22 _ x (i2_21) (i2_21_z) (v_81) (v_81.toInt) D R0 R1 R2 Gs s1 (rusF Ev A (Rl.take (i2_21_z).toNat)) Ev Rl ru_78 hO_T_22.1 ha_x_L_24 hz_i2_21 rfl dt_39 pr_38 (PotV_of (rfl : (rusF Ev A (Rl.take (i2_21_z).toNat)) = (rusF Ev A (Rl.take (i2_21_z).toNat))) pv_42 pv_43 pv_44 pv_45 pv_46 (show (pI T_22 902 Gs).toInt = (((qg (rusF Ev A (Rl.take (i2_21_z).toNat)))).length : Int) by omega) pv_48 pv_49 (show (pI T_22 800 s1).toInt = (((qsk (rusF Ev A (Rl.take (i2_21_z).toNat)))).length : Int) by omega) pv_51 pv_52) en_41 ha_s1_L_23 ((en_41.2.1.trans ev_81).symm) (by omega) (by omega) ⟨rs_62, rs_63, rs_64, rs_65⟩ ru_79) (cwV 2 X.2.2.2.1 gX4_applyRules_X4_allHold rfl rfl rfl (by decide +kernel) ⟨Nat.le_of_ble_eq_true rfl, Nat.le_of_ble_eq_true rfl⟩) (pre_V X hw _ ha_x_L_24 rfl (by decide) rfl) rfl rfl hl.1 rfl (lv_room (Nat.le_of_ble_eq_true rfl)) dX4_applyRules_19 ⟨(by show cc_28 + 0 ≤ Phc S + 8; omega), (by show nn_29 + 0 ≤ Phs S + 15019; omega)⟩) cc_28 nn_29 (by show cc_28 + 0 ≤ cc_28; omega) (by show nn_29 + 0 ≤ nn_29; omega) (fun rr_87 S_88 H locs hp hw hfr hnw => ?_)
      obtain ⟨e2, hp⟩ := hp
      subst e2
      rcases hp with ⟨f_89, er_90⟩ | ⟨f_89, er_90⟩ <;> subst er_90
      · have z_b_91 := trivial
        refine lv_if_eq (tgt := 48) X.1 X.2.1 dX4_applyRules_22 (by decide) (fun c_92 => absurd c_92 (by decide)) (fun c_92 => ?_)
        refine lv_aload_n X.1 X.2.1 dX4_applyRules_25 rfl (lv_at hl 1 rfl) ?_
        refine lv_aload_n X.1 X.2.1 dX4_applyRules_26 rfl (lv_at hl 1 rfl) ?_
        refine r_getR (g := 409) X hw ha_x_L_24 rfl 9 rs_63 (by decide) rfl inn_X4_applyRules_4 (by decide) (X.2.2.2.1 (.fieldLink RX4 36 "SilkMill$Pot" "rules" "LSilkMill$Rules;") (by decide +kernel)) rfl (gv_409 _ _) dX4_applyRules_27 ?_
        obtain ⟨q_93, h_94, h_95, h_96⟩ := gQ_6_601 hO_T_22.1 rs_66
        refine r_getR (g := 601) X hw rs_66 rfl 1 h_94 (by decide) rfl inn_X4_applyRules_6 (by decide) (X.2.2.2.1 (.fieldLink RX4 109 "SilkMill$Rules" "acts" "[I") (by decide +kernel)) rfl (gv_601 _ _) dX4_applyRules_30 ?_
        refine lv_iload_n X.1 X.2.1 dX4_applyRules_33 rfl (lv_at hl 0 rfl) ?_
        refine r_iald X hw h_95 rfl (by rw [h_96]; exact z_ix hz_i2_21 (by omega) (by omega)) dX4_applyRules_34 ?_
        refine lv_topi (fun v_97 ev_97 => ?_)
        have rg_98 := And.intro (z_lo v_97) (z_hi v_97)
        have ev_97 := ev_97.symm
        have fa_99 : ru_78.1 = v_97 := by rw [← ru_80.1, mA_eq h_94, show (i2_21_z).toNat = Int32.toNatClampNeg (i2_21) from (z_nc hz_i2_21 (by omega)).symm, ev_97]
        refine lv_aload_n X.1 X.2.1 dX4_applyRules_35 rfl (lv_at hl 1 rfl) ?_
        refine r_getR (g := 409) X hw ha_x_L_24 rfl 9 rs_63 (by decide) rfl inn_X4_applyRules_4 (by decide) (X.2.2.2.1 (.fieldLink RX4 36 "SilkMill$Pot" "rules" "LSilkMill$Rules;") (by decide +kernel)) rfl (gv_409 _ _) dX4_applyRules_36 ?_
        obtain ⟨q_100, h_101, h_102, h_103⟩ := gQ_6_602 hO_T_22.1 rs_66
        refine r_getR (g := 602) X hw rs_66 rfl 2 h_101 (by decide) rfl inn_X4_applyRules_6 (by decide) (X.2.2.2.1 (.fieldLink RX4 113 "SilkMill$Rules" "amounts" "[I") (by decide +kernel)) rfl (gv_602 _ _) dX4_applyRules_39 ?_
        refine lv_iload_n X.1 X.2.1 dX4_applyRules_42 rfl (lv_at hl 0 rfl) ?_
        refine r_iald X hw h_102 rfl (by rw [h_103]; exact z_ix hz_i2_21 (by omega) (by omega)) dX4_applyRules_43 ?_
        refine lv_topi (fun v_104 ev_104 => ?_)
        have rg_105 := And.intro (z_lo v_104) (z_hi v_104)
        have ev_104 := ev_104.symm
        have fa_106 : ru_78.2.1 = v_104 := by rw [← ru_80.2.1, mA_eq h_101, show (i2_21_z).toNat = Int32.toNatClampNeg (i2_21) from (z_nc hz_i2_21 (by omega)).symm, ev_104]
        refine lv_aload_n X.1 X.2.1 dX4_applyRules_44 rfl (lv_at hl 2 rfl) ?_
        have pz_107 : (pI T_22 902 Gs).toInt = v_53.toInt := (congrArg Int32.toInt ev_53).trans rfl
        have pz_108 : (pI T_22 800 s1).toInt = v_57.toInt := (congrArg Int32.toInt ev_57).trans rfl
        refine k_gv (kc := 0) (ks := 0) (rm := { frames := 6, cells := Phc T_22 + 8, slots := Phs T_22 + 15019, locals := 288 }) (av := [.ref x, .int (v_97), .int (v_104), .ref s1]) X hw (va_runV (As := [.int (v_97), .int (v_104), .ref s1]) (rest := []) (cfix X) (k_X4_act5 l G cy κ T_22 _ _ x (v_97) (v_97.toInt) (v_104) (v_104.toInt) s1 D R0 R1 R2 Gs (rusF Ev A (Rl.take (i2_21_z).toNat)) Ev hO_T_22.1 ha_x_L_24 rfl rfl ha_s1_L_23 dt_39 pr_38 (PotV_of (rfl : (rusF Ev A (Rl.take (i2_21_z).toNat)) = (rusF Ev A (Rl.take (i2_21_z).toNat))) pv_42 pv_43 pv_44 pv_45 pv_46 (show (pI T_22 902 Gs).toInt = (((qg (rusF Ev A (Rl.take (i2_21_z).toNat)))).length : Int) by omega) pv_48 pv_49 (show (pI T_22 800 s1).toInt = (((qsk (rusF Ev A (Rl.take (i2_21_z).toNat)))).length : Int) by omega) pv_51 pv_52) en_41) (cwV 3 X.2.2.2.1 gX4_applyRules_X4_act rfl rfl rfl (by decide +kernel) ⟨Nat.le_of_ble_eq_true rfl, Nat.le_of_ble_eq_true rfl⟩) (pre_gV X hw _ ha_x_L_24 rfl (by decide) rfl) rfl rfl hl.1 rfl (lv_room (Nat.le_of_ble_eq_true rfl)) dX4_applyRules_45 ⟨(by show cc_28 + (Phc T_22 + 8) ≤ Phc S + 8; omega), (by show nn_29 + (Phs T_22 + 15019) ≤ Phs S + 15019; omega)⟩) (fun S_110 H locs c_111 n_112 hc_111 hn_112 hp hw => ?_)
        obtain ⟨hk_113, hp⟩ := hp
        have ph_114 : c_111 + Phc S_110 ≤ Phc S + 0 := by omega
        have ph_115 : n_112 + Phs S_110 ≤ Phs S + 0 := by omega
        clear hcc_30
        clear hnn_31
        clear hc_111
        clear hn_112
        have hO_116 : Og eAC S S_110 := hO_T_22.call hk_113 (by decide +kernel)
        obtain ⟨pv_117, hx_118⟩ := hp
        obtain ⟨pv_119, pv_120, pv_121, pv_122, pv_123, pv_124, pv_125, pv_126, pv_127, pv_128, pv_129⟩ := pv_117
        obtain ⟨v_131, ev_131⟩ : ∃ v, pI S_110 902 Gs = v := ⟨_, rfl⟩
        have t_133 : At S_110 Gs 29 := hk_113.fr.at ha_37
        have rg_132 := gI_29_902 hO_116.1 t_133; rw [ev_131] at rg_132
        have pz_134 : (pI S_110 902 Gs).toInt = v_131.toInt := by rw [ev_131]
        have pz_135 : (pI S_110 902 Gs).toInt = v_131.toInt := (congrArg Int32.toInt ev_131).trans rfl
        obtain ⟨v_137, ev_137⟩ : ∃ v, pI S_110 800 s1 = v := ⟨_, rfl⟩
        have t_139 : At S_110 s1 8 := hk_113.fr.at ha_s1_L_23
        have rg_138 := gI_8_800 hO_116.1 t_139; rw [ev_137] at rg_138
        have pz_140 : (pI S_110 800 s1).toInt = v_137.toInt := by rw [ev_137]
        have pz_141 : (pI S_110 800 s1).toInt = v_137.toInt := (congrArg Int32.toInt ev_137).trans rfl
        obtain ⟨x_142, ex_142⟩ : ∃ y : Int32, y = i2_21 + 1 := ⟨_, rfl⟩
        have z_143 : x_142.toInt = i2_21_z + 1 := z_add ex_142 hz_i2_21 ti_1 (by omega) (by omega)
        refine lv_iinc (v := x_142) (lv' := [(2, .int (x_142)), (0, .ref x), (1, .ref s1)]) X.1 X.2.1 dX4_applyRules_48 hl (k := 0) rfl (by rw [ex_142]; rfl) (by decide) rfl (fun ls hl => ?_)
        refine lv_goto (tgt := 2) X.1 X.2.1 dX4_applyRules_51 (by decide) ?_
        have t_144 : At S_110 x 4 := hk_113.fr.at ha_x_L_24
        have pz_145 : (pI S_110 902 Gs).toInt = v_131.toInt := (congrArg Int32.toInt ev_131).trans rfl
        have pz_146 : (pI S_110 800 s1).toInt = v_137.toInt := (congrArg Int32.toInt ev_137).trans rfl
        have px_147 : PotX S S_110 x R0 R1 R2 Gs := PotX_tr iv_26 ax_40 haR0 haR1 haR2 hx_118
        exact ih _ (by omega) _ _ _ _ (x_142) (x_142.toInt) (c_111) (n_112) rfl hw rfl (by omega) t_139 t_144 hO_116 (PotV_of (show rusF Ev A (Rl.take (x_142.toInt).toNat) = (actF Ev (v_97) (v_104) (rusF Ev A (Rl.take (i2_21_z).toNat))) by rw [show (x_142.toInt).toNat = (i2_21_z).toNat + 1 by omega, rusF_s ru_79, ruF_y f_89, fa_99, fa_106]) pv_119 pv_120 pv_121 pv_122 pv_123 (show (pI S_110 902 Gs).toInt = (((qg (actF Ev (v_97) (v_104) (rusF Ev A (Rl.take (i2_21_z).toNat))))).length : Int) by omega) pv_125 pv_126 (show (pI S_110 800 s1).toInt = (((qsk (actF Ev (v_97) (v_104) (rusF Ev A (Rl.take (i2_21_z).toNat))))).length : Int) by omega) pv_128 (inD_rus pv_11)) px_147 (by omega) (by omega) (by omega) (lv_sub hl [0, 1, 2] rfl)
      · have z_b_148 := trivial
        refine lv_if_eq (tgt := 48) X.1 X.2.1 dX4_applyRules_22 (by decide) (fun c_149 => ?_) (fun c_149 => absurd c_149 (by decide))
        obtain ⟨x_150, ex_150⟩ : ∃ y : Int32, y = i2_21 + 1 := ⟨_, rfl⟩
        have z_151 : x_150.toInt = i2_21_z + 1 := z_add ex_150 hz_i2_21 ti_1 (by omega) (by omega)
        refine lv_iinc (v := x_150) (lv' := [(2, .int (x_150)), (0, .ref x), (1, .ref s1)]) X.1 X.2.1 dX4_applyRules_48 hl (k := 0) rfl (by rw [ex_150]; rfl) (by decide) rfl (fun ls hl => ?_)
        refine lv_goto (tgt := 2) X.1 X.2.1 dX4_applyRules_51 (by decide) ?_
        have pz_152 : (pI T_22 902 Gs).toInt = v_53.toInt := (congrArg Int32.toInt ev_53).trans rfl
        have pz_153 : (pI T_22 800 s1).toInt = v_57.toInt := (congrArg Int32.toInt ev_57).trans rfl
        exact ih _ (by omega) _ _ _ _ (x_150) (x_150.toInt) (cc_28) (nn_29) rfl hw rfl (by omega) ha_s1_L_23 ha_x_L_24 hO_T_22 (PotV_of (show rusF Ev A (Rl.take (x_150.toInt).toNat) = (rusF Ev A (Rl.take (i2_21_z).toNat)) by rw [show (x_150.toInt).toNat = (i2_21_z).toNat + 1 by omega, rusF_s ru_79, ruF_n f_89]) pv_42 pv_43 pv_44 pv_45 pv_46 (show (pI T_22 902 Gs).toInt = (((qg (rusF Ev A (Rl.take (i2_21_z).toNat)))).length : Int) by omega) pv_48 pv_49 (show (pI T_22 800 s1).toInt = (((qsk (rusF Ev A (Rl.take (i2_21_z).toNat)))).length : Int) by omega) pv_51 (inD_rus pv_11)) iv_26 (by omega) (by omega) (by omega) (lv_sub hl [0, 1, 2] rfl)
  have pz_154 : (pI S 902 Gs).toInt = v_12.toInt := (congrArg Int32.toInt ev_12).trans rfl
  have pz_155 : (pI S 800 s1).toInt = v_16.toInt := (congrArg Int32.toInt ev_16).trans rfl
  exact L_20 _ _ _ _ _ (0) (0) (0) (0) rfl hw ti_0 (by omega) ha_s1 ha_x hO (PotV_of (rfl : rusF Ev A (Rl.take (0 : Int).toNat) = A) pv_1 pv_2 pv_3 pv_4 pv_5 (show (pI S 902 Gs).toInt = (((qg A)).length : Int) by omega) pv_7 pv_8 (show (pI S 800 s1).toInt = (((qsk A)).length : Int) by omega) pv_10 (inD_rus pv_11)) (PotX_rf S x R0 R1 R2 Gs) (by omega) (by omega) (by omega) (lv_sub hl [0, 1, 2] rfl)
