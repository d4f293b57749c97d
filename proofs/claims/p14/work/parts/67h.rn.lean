
set_option maxHeartbeats 4000000 in
set_option maxRecDepth 100000 in
theorem k_X4_drawMetre5 (l : Launch) (G : va_G) (cy : Nat → ClassId) (κ : Nat → Nat) (S : PS) (sz hz : Nat) (x : Nat) (s1 : Nat) (D : Nat → Prop) (R0 : Nat) (R1 : Nat) (R2 : Nat) (Gs : Nat) (A : Pt) (Ev : En) (hG : GX S) (ha_x : At S x 4) (ha_s1 : At S s1 8) (hp_0 : (∀ c, D c → At S c 0)) (hp_1 : PotR S x R0 R1 R2 Gs) (hp_2 : PotV S D x R0 R1 R2 Gs s1 A) (hp_3 : EnC S D x s1 Ev) : Gv l yX4_drawMetre wsX4_drawMetre ({ frames := 6, cells := Phc S + 8, slots := Phs S + 15019, locals := 288 }) G cy κ S sz hz 0 0 [.ref x, .ref s1] (fun (S9 : PS) => Og eDM S S9 ∧ (PotV S9 D x R0 R1 R2 Gs s1 (drwF Ev A) ∧ PotX S S9 x R0 R1 R2 Gs)) := by
  refine ent_g (cc := cX4_drawMetre) (maxL := 6) (ret := none) (by decide) rfl (Nat.le_of_ble_eq_true rfl) ?_
  intro p e s m below meth c ls X hr hlocks hin hw hl hsz hhz
  subst hsz hhz
  have X : Cx p c cX4_drawMetre 6 s [.ref x, .ref s1].toArray wsX4_drawMetre RX4 m G cy κ (AS S s.heap.size) := X
  have hl : lv_has ls 6 [(0, .ref x), (1, .ref s1)] := hl
  have hpc0 : 0 + Phc S ≤ Phc S + 0 := by omega
  have hps0 : 0 + Phs S ≤ Phs S + 0 := by omega
  have hO : Og eDM S S := Og.rf hG
  generalize hQQ : MQ below _ _ _ _ _ _ = QQ
  replace hQQ := hQQ.symm
  have hpr := hp_1
  obtain ⟨hr0, hr1, hr2, hr3, hne, hcn⟩ := hpr
  have haR0 := row_at hG ha_x (Or.inl hr0)
  have haR1 := row_at hG ha_x (Or.inr (Or.inl hr1))
  have haR2 := row_at hG ha_x (Or.inr (Or.inr hr2))
  have haGs : At S Gs 29 := by obtain ⟨c, k1, k2⟩ := gQ_4_403 hG ha_x; have h3 := hr3; rw [k1] at h3; cases h3; exact k2
  have hpv := hp_2
  obtain ⟨pv_1, pv_2, pv_3, pv_4, pv_5, pv_6, pv_7, pv_8, pv_9, pv_10, pv_11⟩ := hpv
  obtain ⟨v_12, ev_12⟩ : ∃ v, pI S 902 Gs = v := ⟨_, rfl⟩
  have rg_13 := gI_29_902 hO.1 haGs; rw [ev_12] at rg_13
  have pz_14 : (pI S 902 Gs).toInt = v_12.toInt := by rw [ev_12]
  have pz_15 : (pI S 902 Gs).toInt = v_12.toInt := (congrArg Int32.toInt ev_12).trans rfl
  obtain ⟨v_16, ev_16⟩ : ∃ v, pI S 800 s1 = v := ⟨_, rfl⟩
  have rg_17 := gI_8_800 hO.1 ha_s1; rw [ev_16] at rg_17
  have pz_18 : (pI S 800 s1).toInt = v_16.toInt := by rw [ev_16]
  have pz_19 : (pI S 800 s1).toInt = v_16.toInt := (congrArg Int32.toInt ev_16).trans rfl
  refine lv_aload_n X.1 X.2.1 dX4_drawMetre_0 rfl (lv_at hl 0 rfl) ?_
  refine r_getR (g := 401) X hw ha_x rfl 1 hr1 (by decide) rfl inn_X4_drawMetre_4 (by decide) (X.2.2.2.1 (.fieldLink RX4 20 "SilkMill$Pot" "ends" "LSilkMill$Row;") (by decide +kernel)) rfl (gv_401 _ _) dX4_drawMetre_1 ?_
  refine k_i (rm := { frames := 3, cells := 0, slots := 0, locals := 144 }) (av := [.ref R1]) X hw (va_runV (As := []) (rest := []) (cfix X) (k_X5_sumOfFineness5 l G cy κ S _ R1 (qe A) 12 hO.1 haR1 pv_2) (cwV 0 X.2.2.2.1 gX4_drawMetre_X5_sumOfFineness rfl rfl rfl (by decide +kernel) ⟨Nat.le_of_ble_eq_true rfl, Nat.le_of_ble_eq_true rfl⟩) (pre_V X hw _ haR1 rfl (by decide) rfl) rfl rfl hl.1 rfl (lv_room (Nat.le_of_ble_eq_true rfl)) dX4_drawMetre_4 ⟨(by show 0 + 0 ≤ Phc S + 8; omega), (by show 0 + 0 ≤ Phs S + 15019; omega)⟩) 0 0 (by show 0 + 0 ≤ 0; omega) (by show 0 + 0 ≤ 0; omega) (fun rr_20 S_21 H locs hp hw hfr hnw => ?_)
  obtain ⟨e2, hp⟩ := hp
  subst e2
  obtain ⟨su_22, su_23, su_24⟩ := hp
  refine lv_istore_n (lv' := [(2, .int (rr_20)), (0, .ref x), (1, .ref s1)]) X.1 X.2.1 dX4_drawMetre_7 rfl hl (by decide) rfl (fun ls hl => ?_)
  refine lv_aload_n X.1 X.2.1 dX4_drawMetre_8 rfl (lv_at hl 1 rfl) ?_
  refine r_getR (g := 401) X hw ha_x rfl 1 hr1 (by decide) rfl inn_X4_drawMetre_4 (by decide) (X.2.2.2.1 (.fieldLink RX4 20 "SilkMill$Pot" "ends" "LSilkMill$Row;") (by decide +kernel)) rfl (gv_401 _ _) dX4_drawMetre_9 ?_
  obtain ⟨v_25, ev_25⟩ : ∃ v, pI S 500 R1 = v := ⟨_, rfl⟩
  obtain ⟨q_27, n_28, h_29, h_30, h_31, h_32, h_33⟩ := gRowQ hO.1 haR1
  have rg_26 := gRow_500 hO.1 haR1 h_29 h_31; rw [ev_25] at rg_26
  have pz_34 : (pI S 500 R1).toInt = v_25.toInt := by rw [ev_25]
  refine r_getI (g := 500) (x := v_25) X hw haR1 rfl 0 ev_25 (by decide) rfl inn_X4_drawMetre_5 (by decide) (X.2.2.2.1 (.fieldLink RX4 73 "SilkMill$Row" "size" "I") (by decide +kernel)) rfl (gv_500 _ _) dX4_drawMetre_12 ?_
  have sz_35 := RowIs_sz pv_2
  have pz_36 : (pI S 500 R1).toInt = v_25.toInt := (congrArg Int32.toInt ev_25).trans rfl
  refine lv_istore_n (lv' := [(3, .int (v_25)), (2, .int (rr_20)), (0, .ref x), (1, .ref s1)]) X.1 X.2.1 dX4_drawMetre_15 rfl hl (by decide) rfl (fun ls hl => ?_)
  refine lv_aload_n X.1 X.2.1 dX4_drawMetre_16 rfl (lv_at hl 2 rfl) ?_
  refine r_getR (g := 403) X hw ha_x rfl 3 hr3 (by decide) rfl inn_X4_drawMetre_4 (by decide) (X.2.2.2.1 (.fieldLink RX4 29 "SilkMill$Pot" "strand" "LSilkMill$Strand;") (by decide +kernel)) rfl (gv_403 _ _) dX4_drawMetre_17 ?_
  refine r_getI (g := 902) (x := v_12) X hw haGs rfl 2 ev_12 (by decide) rfl inn_X4_drawMetre_9 (by decide) (X.2.2.2.1 (.fieldLink RX4 79 "SilkMill$Strand" "metres" "I") (by decide +kernel)) rfl (gv_902 _ _) dX4_drawMetre_20 ?_
  refine lv_istore (lv' := [(4, .int (v_12)), (3, .int (v_25)), (2, .int (rr_20)), (0, .ref x), (1, .ref s1)]) X.1 X.2.1 dX4_drawMetre_23 hl (by decide) rfl (fun ls hl => ?_)
  refine lv_aload_n X.1 X.2.1 dX4_drawMetre_25 rfl (lv_at hl 3 rfl) ?_
  refine r_getR (g := 403) X hw ha_x rfl 3 hr3 (by decide) rfl inn_X4_drawMetre_4 (by decide) (X.2.2.2.1 (.fieldLink RX4 29 "SilkMill$Pot" "strand" "LSilkMill$Strand;") (by decide +kernel)) rfl (gv_403 _ _) dX4_drawMetre_26 ?_
  refine lv_iload_n X.1 X.2.1 dX4_drawMetre_29 rfl (lv_at hl 2 rfl) ?_
  refine lv_iload_n X.1 X.2.1 dX4_drawMetre_30 rfl (lv_at hl 1 rfl) ?_
  refine k_v (rm := { frames := 1, cells := 0, slots := 0, locals := 48 }) (av := [.ref Gs, .int (rr_20), .int (v_25)]) X hw (va_runV (As := [.int (rr_20), .int (v_25)]) (rest := []) (cfix X) (k_X9_addMetre5 l G cy κ S _ Gs (rr_20) (rr_20.toInt) (v_25) (v_25.toInt) hO.1 haGs rfl rfl) (cwV 2 X.2.2.2.1 gX4_drawMetre_X9_addMetre rfl rfl rfl (by decide +kernel) ⟨Nat.le_of_ble_eq_true rfl, Nat.le_of_ble_eq_true rfl⟩) (pre_V X hw _ haGs rfl (by decide) rfl) rfl rfl hl.1 rfl (lv_room (Nat.le_of_ble_eq_true rfl)) dX4_drawMetre_31 ⟨(by show 0 + 0 ≤ Phc S + 8; omega), (by show 0 + 0 ≤ Phs S + 15019; omega)⟩) 0 0 (by show 0 + 0 ≤ 0; omega) (by show 0 + 0 ≤ 0; omega) (fun S_38 H locs hp hw hfr hnw => ?_)
  obtain ⟨hk_39, hp⟩ := hp
  have ph_40 : 0 + Phc S_38 ≤ Phc S + 0 := by rw [show Phc S_38 = Phc S from Ph_ok hO.1 hk_39 (by decide +kernel) (by decide +kernel) (by decide +kernel)]; exact hpc0
  have ph_41 : 0 + Phs S_38 ≤ Phs S + 0 := by rw [show Phs S_38 = Phs S from Ph_ok hO.1 hk_39 (by decide +kernel) (by decide +kernel) (by decide +kernel)]; exact hps0
  clear hpc0
  clear hps0
  have hO_42 : Og eDM S S_38 := hO.call hk_39.og (by decide +kernel)
  obtain ⟨am_43, am_44, am_45⟩ := hp
  have am_46 : (pI S_38 902 Gs).toInt = ((capG (qg A) ((qe A).map (fun c => (c, qpl A c)))).length : Int) := by by_cases h3 : (qg A).length < 300; rw [capG_y h3, am_43 (by omega)]; omega; rw [capG_n h3, am_44 (by omega)]; omega
  obtain ⟨v_48, ev_48⟩ : ∃ v, pI S_38 902 Gs = v := ⟨_, rfl⟩
  have t_50 : At S_38 Gs 29 := hk_39.fr.at haGs
  have rg_49 := gI_29_902 hO_42.1 t_50; rw [ev_48] at rg_49
  have pz_51 : (pI S_38 902 Gs).toInt = v_48.toInt := by rw [ev_48]
  have pz_52 : (pI S_38 902 Gs).toInt = v_48.toInt := (congrArg Int32.toInt ev_48).trans rfl
  refine lv_aload_n X.1 X.2.1 dX4_drawMetre_34 rfl (lv_at hl 4 rfl) ?_
  refine lv_dup X.1 X.2.1 dX4_drawMetre_35 rfl ?_
  have t_53 : At S_38 s1 8 := hk_39.fr.at ha_s1
  obtain ⟨v_54, ev_54⟩ : ∃ v, pI S_38 802 s1 = v := ⟨_, rfl⟩
  have rg_56 := And.intro (z_lo v_54) (z_hi v_54)
  have pz_57 : (pI S_38 802 s1).toInt = v_54.toInt := by rw [ev_54]
  refine r_getI (g := 802) (x := v_54) X hw t_53 rfl 2 ev_54 (by decide) rfl inn_X4_drawMetre_8 (by decide) (X.2.2.2.1 (.fieldLink RX4 197 "SilkMill$Store" "silkDrawn" "I") (by decide +kernel)) rfl (gv_802 _ _) dX4_drawMetre_36 ?_
  refine lv_iload_n X.1 X.2.1 dX4_drawMetre_39 rfl (lv_at hl 2 rfl) ?_
  refine lv_iadd X.1 X.2.1 dX4_drawMetre_40 ?_
  refine lv_topi (fun v_58 ev_58 => ?_)
  have rg_59 := And.intro (z_lo v_58) (z_hi v_58)
  refine r_putI (v := v_58) X hw t_53 rfl 2 802 tyX8 (by decide) rfl inn_X4_drawMetre_8 tyX8_ok nmX8 (by decide) (X.2.2.2.1 (.fieldLink RX4 197 "SilkMill$Store" "silkDrawn" "I") (by decide +kernel)) rfl (Or.inl rfl) rfl rfl (Nat.le_of_ble_eq_true rfl) (st_802 _ _) dX4_drawMetre_41 (fun H locs hw => ?_)
  obtain ⟨S_60, eS_60⟩ : ∃ T, T = sI S_38 802 s1 (v_58) := ⟨_, rfl⟩
  rw [← eS_60] at hw
  have ph_61 : 0 + Phc S_60 ≤ Phc S + 0 := by rw [show Phc S_60 = Phc S_38 from Ph_sI eS_60 rfl rfl]; exact ph_40
  have ph_62 : 0 + Phs S_60 ≤ Phs S + 0 := by rw [show Phs S_60 = Phs S_38 from Ph_sI eS_60 rfl rfl]; exact ph_41
  clear ph_40
  clear ph_41
  have hO_63 : Og eDM S S_60 := hO_42.sI eS_60 (by decide +kernel) (uI_8_802 hO_42.1 t_53)
  have h_64 : pI S_60 802 s1 = v_58 := tI_sIs eS_60
  refine lv_aload_n X.1 X.2.1 dX4_drawMetre_44 rfl (lv_at hl 3 rfl) ?_
  refine lv_dup X.1 X.2.1 dX4_drawMetre_45 rfl ?_
  have t_65 : At S_38 x 4 := hk_39.fr.at ha_x
  have t_66 : At S_60 x 4 := tAt_sI eS_60 t_65
  have t_67 : pI S_38 407 x = (qdr A) := hk_39.fr.I' (by decide +kernel) ha_x pv_7
  have t_68 : pI S_60 407 x = (qdr A) := tI_sI eS_60 rfl t_67
  refine r_getI (g := 407) (x := (qdr A)) X hw t_66 rfl 7 t_68 (by decide) rfl inn_X4_drawMetre_4 (by decide) (X.2.2.2.1 (.fieldLink RX4 200 "SilkMill$Pot" "metresEver" "I") (by decide +kernel)) rfl (gv_407 _ _) dX4_drawMetre_46 ?_
  refine lv_iconst (v := 1) X.1 X.2.1 dX4_drawMetre_49 (by decide) ?_
  refine lv_iadd X.1 X.2.1 dX4_drawMetre_50 ?_
  refine lv_topi (fun v_69 ev_69 => ?_)
  have rg_70 := And.intro (z_lo v_69) (z_hi v_69)
  refine r_putI (v := v_69) X hw t_66 rfl 7 407 tyX4 (by decide) rfl inn_X4_drawMetre_4 tyX4_ok nmX4 (by decide) (X.2.2.2.1 (.fieldLink RX4 200 "SilkMill$Pot" "metresEver" "I") (by decide +kernel)) rfl (Or.inl rfl) rfl rfl (Nat.le_of_ble_eq_true rfl) (st_407 _ _) dX4_drawMetre_51 (fun H locs hw => ?_)
  obtain ⟨S_71, eS_71⟩ : ∃ T, T = sI S_60 407 x (v_69) := ⟨_, rfl⟩
  rw [← eS_71] at hw
  have ph_72 : 0 + Phc S_71 ≤ Phc S + 0 := by rw [show Phc S_71 = Phc S_60 from Ph_sI eS_71 rfl rfl]; exact ph_61
  have ph_73 : 0 + Phs S_71 ≤ Phs S + 0 := by rw [show Phs S_71 = Phs S_60 from Ph_sI eS_71 rfl rfl]; exact ph_62
  clear ph_61
  clear ph_62
  have hO_74 : Og eDM S S_71 := hO_63.sI eS_71 (by decide +kernel) (uI_4_407 hO_63.1 t_66)
  have h_75 : pI S_71 407 x = v_69 := tI_sIs eS_71
  refine lv_iconst (v := 0) X.1 X.2.1 dX4_drawMetre_54 (by decide) ?_
  refine lv_istore (lv' := [(5, .int 0), (4, .int (v_12)), (3, .int (v_25)), (2, .int (rr_20)), (0, .ref x), (1, .ref s1)]) X.1 X.2.1 dX4_drawMetre_55 hl (by decide) rfl (fun ls hl => ?_)
  have L_76 : ∀ (n : Nat) (T_78 : PS) (H : Heap) (locs : List Loc) (ls : Array Slot) (i5_77 : Int32) (i5_77_z : Int) (cc_84 nn_85 : Nat), ((v_25.toInt - i5_77_z).toNat = n) → (Wd G cy (AS S s.heap.size) s.heap T_78 H locs) → (i5_77.toInt = i5_77_z) → (0 ≤ i5_77_z ∧ i5_77_z ≤ 600) → (At T_78 s1 8) → (At T_78 x 4) → (Og eDM S T_78) → (PotV T_78 D x R0 R1 R2 Gs s1 (endsF Ev (i5_77_z).toNat (wdr (wg A (capG (qg A) ((qe A).map (fun c => (c, qpl A c))))) (qdr A + 1)))) → (PotX S T_78 x R0 R1 R2 Gs) → (i5_77_z ≤ v_25.toInt) → (cc_84 + Phc T_78 ≤ Phc S + 0) → (nn_85 + Phs T_78 ≤ Phs S + 0) → (lv_has ls 6 [(5, .int (i5_77)), (4, .int (v_12)), (3, .int (v_25)), (2, .int (rr_20)), (0, .ref x), (1, .ref s1)]) → W p l e ({ frames := 6, cells := Phc S + 8, slots := Phs S + 15019, locals := 288 }) s m [.ref x, .ref s1].toArray below meth c H locs cc_84 nn_85 QQ (F0 m 57 ls []) := by
    intro n
    induction n using Nat.strongRecOn with
    | ind n ih =>
    intro T_78 H locs ls i5_77 i5_77_z cc_84 nn_85 hn hw hz_i5_77 hr_i5_77 ha_s1_L_79 ha_x_L_80 hO_T_78 iv_81 iv_82 iv_83 hcc_86 hnn_87 hl
    have rg_88 : (-2147483648) ≤ i5_77_z ∧ i5_77_z ≤ 2147483647 := by rw [← hz_i5_77]; exact ⟨z_lo _, z_hi _⟩
    have iv_89 := iv_81
    have ha_90 : At T_78 R0 5 := hO_T_78.fr.at haR0
    have ha_91 : At T_78 R1 5 := hO_T_78.fr.at haR1
    have ha_92 : At T_78 R2 5 := hO_T_78.fr.at haR2
    have ha_93 : At T_78 Gs 29 := hO_T_78.fr.at haGs
    have pr_94 : PotR T_78 x R0 R1 R2 Gs := PotR_fr hG ha_x hO_T_78.fr (by decide +kernel) hp_1
    have dt_95 : ∀ c, D c → At T_78 c 0 := fun c h => hO_T_78.fr.at (hp_0 c h)
    have ax_96 : ∀ a k, At S a k → At T_78 a k := fun a k h => hO_T_78.fr.at h
    have en_97 : EnC T_78 D x s1 Ev := EnC_fr hO_T_78.fr hp_0 ha_x ha_s1 (by decide +kernel) hp_3
    obtain ⟨pv_98, pv_99, pv_100, pv_101, pv_102, pv_103, pv_104, pv_105, pv_106, pv_107, pv_108⟩ := iv_89
    obtain ⟨v_109, ev_109⟩ : ∃ v, pI T_78 902 Gs = v := ⟨_, rfl⟩
    have rg_110 := gI_29_902 hO_T_78.1 ha_93; rw [ev_109] at rg_110
    have pz_111 : (pI T_78 902 Gs).toInt = v_109.toInt := by rw [ev_109]
    have pz_112 : (pI T_78 902 Gs).toInt = v_109.toInt := (congrArg Int32.toInt ev_109).trans rfl
    obtain ⟨v_113, ev_113⟩ : ∃ v, pI T_78 800 s1 = v := ⟨_, rfl⟩
    have rg_114 := gI_8_800 hO_T_78.1 ha_s1_L_79; rw [ev_113] at rg_114
    have pz_115 : (pI T_78 800 s1).toInt = v_113.toInt := by rw [ev_113]
    have pz_116 : (pI T_78 800 s1).toInt = v_113.toInt := (congrArg Int32.toInt ev_113).trans rfl
    refine lv_iload X.1 X.2.1 dX4_drawMetre_57 (lv_at hl 0 rfl) ?_
    refine lv_iload_n X.1 X.2.1 dX4_drawMetre_59 rfl (lv_at hl 2 rfl) ?_
    refine lv_icmp_ge (tgt := 82) X.1 X.2.1 dX4_drawMetre_60 (by decide) (fun c_117 => ?_) (fun c_117 => ?_)
    · have z_b_118 := trivial
      have k_119 : i5_77_z ≥ v_25.toInt := z_le rfl hz_i5_77 c_117
      have db_120 : endsF Ev (i5_77_z).toNat (wdr (wg A (capG (qg A) ((qe A).map (fun c => (c, qpl A c))))) (qdr A + 1)) = drwB Ev A := by rw [show (i5_77_z).toNat = (qe A).length by omega]; rfl
      refine lv_aload_n X.1 X.2.1 dX4_drawMetre_82 rfl (lv_at hl 4 rfl) ?_
      refine r_getR (g := 403) X hw ha_x_L_80 rfl 3 pr_94.2.2.2.1 (by decide) rfl inn_X4_drawMetre_4 (by decide) (X.2.2.2.1 (.fieldLink RX4 29 "SilkMill$Pot" "strand" "LSilkMill$Strand;") (by decide +kernel)) rfl (gv_403 _ _) dX4_drawMetre_83 ?_
      refine r_getI (g := 902) (x := v_109) X hw ha_93 rfl 2 ev_109 (by decide) rfl inn_X4_drawMetre_9 (by decide) (X.2.2.2.1 (.fieldLink RX4 79 "SilkMill$Strand" "metres" "I") (by decide +kernel)) rfl (gv_902 _ _) dX4_drawMetre_86 ?_
      refine lv_sipush (v := 300) X.1 X.2.1 dX4_drawMetre_89 (by decide) ?_
      refine lv_icmp_lt (tgt := 101) X.1 X.2.1 dX4_drawMetre_92 (by decide) (fun c_121 => ?_) (fun c_121 => ?_)
      · have z_b_122 := trivial
        have k_123 : v_109.toInt < 300 := z_lt rfl ti_300 c_121
        have pz_124 : (pI T_78 902 Gs).toInt = v_109.toInt := (congrArg Int32.toInt ev_109).trans rfl
        have pz_125 : (pI T_78 800 s1).toInt = v_113.toInt := (congrArg Int32.toInt ev_113).trans rfl
        rw [hQQ]
        exact ret_gv X hw hr hlocks (by show cc_84 ≤ Phc S + 8; omega) (by show nn_85 ≤ Phs S + 15019; omega) (by omega) (by omega) ⟨hO_T_78, ⟨PotV_of ((drwF_n (by rw [← db_120]; omega)).trans db_120.symm) pv_98 pv_99 pv_100 pv_101 pv_102 (show (pI T_78 902 Gs).toInt = (((qg (endsF Ev (i5_77_z).toNat (wdr (wg A (capG (qg A) ((qe A).map (fun c => (c, qpl A c))))) (qdr A + 1))))).length : Int) by omega) pv_104 pv_105 (show (pI T_78 800 s1).toInt = (((qsk (endsF Ev (i5_77_z).toNat (wdr (wg A (capG (qg A) ((qe A).map (fun c => (c, qpl A c))))) (qdr A + 1))))).length : Int) by omega) pv_107 (inD_drw pv_11), iv_82⟩⟩ dX4_drawMetre_101
      · have z_b_126 := trivial
        have k_127 : v_109.toInt ≥ 300 := z_nlt rfl ti_300 c_121
        refine lv_aload_n X.1 X.2.1 dX4_drawMetre_95 rfl (lv_at hl 4 rfl) ?_
        refine lv_aload_n X.1 X.2.1 dX4_drawMetre_96 rfl (lv_at hl 5 rfl) ?_
        have pz_128 : (pI T_78 902 Gs).toInt = v_109.toInt := (congrArg Int32.toInt ev_109).trans rfl
        have pz_129 : (pI T_78 800 s1).toInt = v_113.toInt := (congrArg Int32.toInt ev_113).trans rfl
        refine k_gi (kc := 0) (ks := 0) (rm := { frames := 5, cells := Phc T_78 + 8, slots := Phs T_78 + 15019, locals := 240 }) (av := [.ref x, .ref s1]) X hw (va_runV (As := [.ref s1]) (rest := []) (cfix X) (k_X4_cutStrand5 l G cy κ T_78 _ _ x s1 D R0 R1 R2 Gs (endsF Ev (i5_77_z).toNat (wdr (wg A (capG (qg A) ((qe A).map (fun c => (c, qpl A c))))) (qdr A + 1))) Ev hO_T_78.1 ha_x_L_80 ha_s1_L_79 dt_95 pr_94 (PotV_of (rfl : (endsF Ev (i5_77_z).toNat (wdr (wg A (capG (qg A) ((qe A).map (fun c => (c, qpl A c))))) (qdr A + 1))) = (endsF Ev (i5_77_z).toNat (wdr (wg A (capG (qg A) ((qe A).map (fun c => (c, qpl A c))))) (qdr A + 1)))) pv_98 pv_99 pv_100 pv_101 pv_102 (show (pI T_78 902 Gs).toInt = (((qg (endsF Ev (i5_77_z).toNat (wdr (wg A (capG (qg A) ((qe A).map (fun c => (c, qpl A c))))) (qdr A + 1))))).length : Int) by omega) pv_104 pv_105 (show (pI T_78 800 s1).toInt = (((qsk (endsF Ev (i5_77_z).toNat (wdr (wg A (capG (qg A) ((qe A).map (fun c => (c, qpl A c))))) (qdr A + 1))))).length : Int) by omega) pv_107 pv_108) en_97) (cwV 1 X.2.2.2.1 gX4_drawMetre_X4_cutStrand rfl rfl rfl (by decide +kernel) ⟨Nat.le_of_ble_eq_true rfl, Nat.le_of_ble_eq_true rfl⟩) (pre_gV X hw _ ha_x_L_80 rfl (by decide) rfl) rfl rfl hl.1 rfl (lv_room (Nat.le_of_ble_eq_true rfl)) dX4_drawMetre_97 ⟨(by show cc_84 + (Phc T_78 + 8) ≤ Phc S + 8; omega), (by show nn_85 + (Phs T_78 + 15019) ≤ Phs S + 15019; omega)⟩) (fun rr_130 S_131 H locs c_132 n_133 hc_132 hn_133 hp hw => ?_)
        obtain ⟨hk_134, hp⟩ := hp
        have ph_135 : c_132 + Phc S_131 ≤ Phc S + 0 := by omega
        have ph_136 : n_133 + Phs S_131 ≤ Phs S + 0 := by omega
        clear hcc_86
        clear hnn_87
        clear hc_132
        clear hn_133
        have hO_137 : Og eDM S S_131 := hO_T_78.call hk_134 (by decide +kernel)
        obtain ⟨cu_138, cu_139, cu_140, cu_141, cu_142⟩ := hp
        obtain ⟨pv_143, pv_144, pv_145, pv_146, pv_147, pv_148, pv_149, pv_150, pv_151, pv_152, pv_153⟩ := cu_140
        obtain ⟨v_155, ev_155⟩ : ∃ v, pI S_131 902 Gs = v := ⟨_, rfl⟩
        have t_157 : At S_131 Gs 29 := hk_134.fr.at ha_93
        have rg_156 := gI_29_902 hO_137.1 t_157; rw [ev_155] at rg_156
        have pz_158 : (pI S_131 902 Gs).toInt = v_155.toInt := by rw [ev_155]
        have pz_159 : (pI S_131 902 Gs).toInt = v_155.toInt := (congrArg Int32.toInt ev_155).trans rfl
        obtain ⟨v_161, ev_161⟩ : ∃ v, pI S_131 800 s1 = v := ⟨_, rfl⟩
        have t_163 : At S_131 s1 8 := hk_134.fr.at ha_s1_L_79
        have rg_162 := gI_8_800 hO_137.1 t_163; rw [ev_161] at rg_162
        have pz_164 : (pI S_131 800 s1).toInt = v_161.toInt := by rw [ev_161]
        have pz_165 : (pI S_131 800 s1).toInt = v_161.toInt := (congrArg Int32.toInt ev_161).trans rfl
        refine lv_pop X.1 X.2.1 dX4_drawMetre_100 rfl ?_
        have pz_166 : (pI S_131 902 Gs).toInt = v_155.toInt := (congrArg Int32.toInt ev_155).trans rfl
        have pz_167 : (pI S_131 800 s1).toInt = v_161.toInt := (congrArg Int32.toInt ev_161).trans rfl
        have px_168 : PotX S S_131 x R0 R1 R2 Gs := PotX_tr iv_82 ax_96 haR0 haR1 haR2 cu_141
        rw [hQQ]
        exact ret_gv X hw hr hlocks (by show c_132 ≤ Phc S + 8; omega) (by show n_133 ≤ Phs S + 15019; omega) (by omega) (by omega) ⟨hO_137, ⟨PotV_of (B := (cutF Ev (endsF Ev (i5_77_z).toNat (wdr (wg A (capG (qg A) ((qe A).map (fun c => (c, qpl A c))))) (qdr A + 1))))) ((drwF_c (by rw [← db_120]; omega)).trans (by rw [← db_120])) pv_143 pv_144 pv_145 pv_146 pv_147 (show (pI S_131 902 Gs).toInt = (((qg (cutF Ev (endsF Ev (i5_77_z).toNat (wdr (wg A (capG (qg A) ((qe A).map (fun c => (c, qpl A c))))) (qdr A + 1)))))).length : Int) by omega) pv_149 pv_150 (show (pI S_131 800 s1).toInt = (((qsk (cutF Ev (endsF Ev (i5_77_z).toNat (wdr (wg A (capG (qg A) ((qe A).map (fun c => (c, qpl A c))))) (qdr A + 1)))))).length : Int) by omega) pv_152 (inD_drw pv_11), px_168⟩⟩ dX4_drawMetre_101
    · have z_b_169 := trivial
      have k_170 : i5_77_z < v_25.toInt := z_nle rfl hz_i5_77 c_117
      refine lv_aload_n X.1 X.2.1 dX4_drawMetre_63 rfl (lv_at hl 4 rfl) ?_
      refine lv_aload_n X.1 X.2.1 dX4_drawMetre_64 rfl (lv_at hl 4 rfl) ?_
      refine r_getR (g := 401) X hw ha_x_L_80 rfl 1 pr_94.2.1 (by decide) rfl inn_X4_drawMetre_4 (by decide) (X.2.2.2.1 (.fieldLink RX4 20 "SilkMill$Pot" "ends" "LSilkMill$Row;") (by decide +kernel)) rfl (gv_401 _ _) dX4_drawMetre_65 ?_
      refine k_q (rm := { frames := 2, cells := 0, slots := 0, locals := 96 }) (av := [.ref R1]) X hw (va_runV (As := []) (rest := [.ref x]) (cfix X) (k_X5_removeFirst5 l G cy κ T_78 _ R1 (qe (endsF Ev (i5_77_z).toNat (wdr (wg A (capG (qg A) ((qe A).map (fun c => (c, qpl A c))))) (qdr A + 1)))) 12 hO_T_78.1 ha_91 pv_99) (cwV 0 X.2.2.2.1 gX4_drawMetre_X5_removeFirst rfl rfl rfl (by decide +kernel) ⟨Nat.le_of_ble_eq_true rfl, Nat.le_of_ble_eq_true rfl⟩) (pre_V X hw _ ha_91 rfl (by decide) rfl) rfl rfl hl.1 rfl (lv_room (Nat.le_of_ble_eq_true rfl)) dX4_drawMetre_68 ⟨(by show cc_84 + 0 ≤ Phc S + 8; omega), (by show nn_85 + 0 ≤ Phs S + 15019; omega)⟩) cc_84 nn_85 (by show cc_84 + 0 ≤ cc_84; omega) (by show nn_85 + 0 ≤ nn_85; omega) (fun rr_171 S_172 H locs hp hw hfr hnw => ?_)
      obtain ⟨hk_173, hp⟩ := hp
      have ph_174 : cc_84 + Phc S_172 ≤ Phc S + 0 := by rw [show Phc S_172 = Phc T_78 from Ph_ok hO_T_78.1 hk_173 (by decide +kernel) (by decide +kernel) (by decide +kernel)]; exact hcc_86
      have ph_175 : nn_85 + Phs S_172 ≤ Phs S + 0 := by rw [show Phs S_172 = Phs T_78 from Ph_ok hO_T_78.1 hk_173 (by decide +kernel) (by decide +kernel) (by decide +kernel)]; exact hnn_87
      clear hcc_86
      clear hnn_87
      have hO_176 : Og eDM S S_172 := hO_T_78.call hk_173.og (by decide +kernel)
      obtain ⟨hs_177, hn_178, hx_179⟩ := hp
      rcases rr_171 with _ | q_180
      · refine W.eq (g2 := F0 m 71 ls (.null :: .ref x :: [])) rfl ?_
        obtain ⟨hL_181, eS_182⟩ := hn_178 rfl
        have rw_183 : RowIs S_172 R1 (qe (endsF Ev (i5_77_z).toNat (wdr (wg A (capG (qg A) ((qe A).map (fun c => (c, qpl A c))))) (qdr A + 1)))) 12 := by rw [eS_182]; exact pv_99
        refine lv_iload X.1 X.2.1 dX4_drawMetre_71 (lv_at hl 1 rfl) ?_
        have t_184 : At S_172 x 4 := hk_173.fr.at ha_x_L_80
        have dt_185 : ∀ c, D c → At S_172 c 0 := fun c h => hk_173.fr.at (dt_95 c h)
        have pr_186 : PotR S_172 x R0 R1 R2 Gs := PotR_fr hO_T_78.1 ha_x_L_80 hk_173.fr (by decide +kernel) pr_94
        have rw_187 : RowIs S_172 R0 (qb (endsF Ev (i5_77_z).toNat (wdr (wg A (capG (qg A) ((qe A).map (fun c => (c, qpl A c))))) (qdr A + 1)))) 600 := hx_179.2 _ hne.1 pr_94.2.2.2.2.2.1 _ _ pv_98
        have rw_188 : RowIs S_172 R2 (ql (endsF Ev (i5_77_z).toNat (wdr (wg A (capG (qg A) ((qe A).map (fun c => (c, qpl A c))))) (qdr A + 1)))) 600 := hx_179.2 _ (Ne.symm hne.2.2) (Ne.symm pr_94.2.2.2.2.2.2.2) _ _ pv_100
        have co_189 : CoP S_172 D (qpl (endsF Ev (i5_77_z).toNat (wdr (wg A (capG (qg A) ((qe A).map (fun c => (c, qpl A c))))) (qdr A + 1)))) (qsd (endsF Ev (i5_77_z).toNat (wdr (wg A (capG (qg A) ((qe A).map (fun c => (c, qpl A c))))) (qdr A + 1)))) := CoP_fr hk_173.fr dt_95 (by decide +kernel) pv_107
        have t_190 : pI S_172 405 x = (qst (endsF Ev (i5_77_z).toNat (wdr (wg A (capG (qg A) ((qe A).map (fun c => (c, qpl A c))))) (qdr A + 1)))) := hk_173.fr.I' (by decide +kernel) ha_x_L_80 pv_101
        have t_191 : pI S_172 406 x = (qse (endsF Ev (i5_77_z).toNat (wdr (wg A (capG (qg A) ((qe A).map (fun c => (c, qpl A c))))) (qdr A + 1)))) := hk_173.fr.I' (by decide +kernel) ha_x_L_80 pv_102
        have t_192 : pI S_172 902 Gs = v_109 := hk_173.fr.I' (by decide +kernel) ha_93 ev_109
        have pz_193 : (pI S_172 902 Gs).toInt = v_109.toInt := (congrArg Int32.toInt t_192).trans rfl
        have t_194 : pI S_172 407 x = (qdr (endsF Ev (i5_77_z).toNat (wdr (wg A (capG (qg A) ((qe A).map (fun c => (c, qpl A c))))) (qdr A + 1)))) := hk_173.fr.I' (by decide +kernel) ha_x_L_80 pv_104
        have t_195 : pI S_172 408 x = (qtk (endsF Ev (i5_77_z).toNat (wdr (wg A (capG (qg A) ((qe A).map (fun c => (c, qpl A c))))) (qdr A + 1)))) := hk_173.fr.I' (by decide +kernel) ha_x_L_80 pv_105
        have t_196 : pI S_172 800 s1 = v_113 := hk_173.fr.I' (by decide +kernel) ha_s1_L_79 ev_113
        have pz_197 : (pI S_172 800 s1).toInt = v_113.toInt := (congrArg Int32.toInt t_196).trans rfl
        have en_198 : EnC S_172 D x s1 Ev := EnC_fr hk_173.fr dt_95 ha_x_L_80 ha_s1_L_79 (by decide +kernel) en_97
        have t_199 : At S_172 s1 8 := hk_173.fr.at ha_s1_L_79
        refine k_gv (kc := 0) (ks := 0) (rm := { frames := 5, cells := Phc S_172 + 8, slots := Phs S_172 + 15019, locals := 240 }) (av := [.ref x, .null, .int (v_12)]) X hw (va_runV (As := [.null, .int (v_12)]) (rest := []) (cfix X) (k_X4_drawEnd5 l G cy κ S_172 _ _ x none (v_12) (v_12.toInt) D R0 R1 R2 Gs s1 (endsF Ev (i5_77_z).toNat (wdr (wg A (capG (qg A) ((qe A).map (fun c => (c, qpl A c))))) (qdr A + 1))) Ev hO_176.1 t_184 (fun q h => by cases h) rfl dt_185 pr_186 (PotV_of (rfl : (endsF Ev (i5_77_z).toNat (wdr (wg A (capG (qg A) ((qe A).map (fun c => (c, qpl A c))))) (qdr A + 1))) = (endsF Ev (i5_77_z).toNat (wdr (wg A (capG (qg A) ((qe A).map (fun c => (c, qpl A c))))) (qdr A + 1)))) rw_187 rw_183 rw_188 t_190 t_191 (show (pI S_172 902 Gs).toInt = (((qg (endsF Ev (i5_77_z).toNat (wdr (wg A (capG (qg A) ((qe A).map (fun c => (c, qpl A c))))) (qdr A + 1))))).length : Int) by omega) t_194 t_195 (show (pI S_172 800 s1).toInt = (((qsk (endsF Ev (i5_77_z).toNat (wdr (wg A (capG (qg A) ((qe A).map (fun c => (c, qpl A c))))) (qdr A + 1))))).length : Int) by omega) co_189 pv_108) en_198 t_199 (fun q h => by cases h)) (cwV 2 X.2.2.2.1 gX4_drawMetre_X4_drawEnd rfl rfl rfl (by decide +kernel) ⟨Nat.le_of_ble_eq_true rfl, Nat.le_of_ble_eq_true rfl⟩) (pre_gV X hw _ t_184 rfl (by decide) rfl) rfl rfl hl.1 rfl (lv_room (Nat.le_of_ble_eq_true rfl)) dX4_drawMetre_73 ⟨(by show cc_84 + (Phc S_172 + 8) ≤ Phc S + 8; omega), (by show nn_85 + (Phs S_172 + 15019) ≤ Phs S + 15019; omega)⟩) (fun S_201 H locs c_202 n_203 hc_202 hn_203 hp hw => ?_)
        obtain ⟨hk_204, hp⟩ := hp
        have ph_205 : c_202 + Phc S_201 ≤ Phc S + 0 := by omega
        have ph_206 : n_203 + Phs S_201 ≤ Phs S + 0 := by omega
        clear ph_174
        clear ph_175
        clear hc_202
        clear hn_203
        have hO_207 : Og eDM S S_201 := hO_176.call hk_204 (by decide +kernel)
        obtain ⟨de_208, de_209, de_210⟩ := hp
        have de_211 := de_208 rfl
        obtain ⟨pv_212, pv_213, pv_214, pv_215, pv_216, pv_217, pv_218, pv_219, pv_220, pv_221, pv_222⟩ := de_211
        have t_224 : At S_172 Gs 29 := hk_173.fr.at ha_93
        have t_223 : pI S_201 902 Gs = v_109 := hk_204.fr.I' (by decide +kernel) t_224 t_192
        have pz_225 : (pI S_201 902 Gs).toInt = v_109.toInt := (congrArg Int32.toInt t_223).trans rfl
        have t_226 : pI S_201 800 s1 = v_113 := hk_204.fr.I' (by decide +kernel) t_199 t_196
        have pz_227 : (pI S_201 800 s1).toInt = v_113.toInt := (congrArg Int32.toInt t_226).trans rfl
        obtain ⟨x_228, ex_228⟩ : ∃ y : Int32, y = i5_77 + 1 := ⟨_, rfl⟩
        have z_229 : x_228.toInt = i5_77_z + 1 := z_add ex_228 hz_i5_77 ti_1 (by omega) (by omega)
        refine lv_iinc (v := x_228) (lv' := [(5, .int (x_228)), (4, .int (v_12)), (3, .int (v_25)), (2, .int (rr_20)), (0, .ref x), (1, .ref s1)]) X.1 X.2.1 dX4_drawMetre_76 hl (k := 0) rfl (by rw [ex_228]; rfl) (by decide) rfl (fun ls hl => ?_)
        refine lv_goto (tgt := 57) X.1 X.2.1 dX4_drawMetre_79 (by decide) ?_
        have t_230 : At S_201 s1 8 := hk_204.fr.at t_199
        have t_231 : At S_201 x 4 := hk_204.fr.at t_184
        have pz_232 : (pI S_201 902 Gs).toInt = v_109.toInt := (congrArg Int32.toInt t_223).trans rfl
        have pz_233 : (pI S_201 800 s1).toInt = v_113.toInt := (congrArg Int32.toInt t_226).trans rfl
        have px_234 : PotX S S_172 x R0 R1 R2 Gs := PotX_row iv_82 ax_96 haR0 haR1 haR2 (Or.inr (Or.inl rfl)) hx_179 hk_173.fr (by decide +kernel)
        have ax_236 : ∀ a k, At S a k → At S_172 a k := fun a k h => hk_173.fr.at (ax_96 a k h)
        have px_235 : PotX S S_201 x R0 R1 R2 Gs := PotX_tr px_234 ax_236 haR0 haR1 haR2 de_210
        exact ih _ (by omega) _ _ _ _ (x_228) (x_228.toInt) (c_202) (n_203) rfl hw rfl (by omega) t_230 t_231 hO_207 (PotV_of (show endsF Ev (x_228.toInt).toNat (wdr (wg A (capG (qg A) ((qe A).map (fun c => (c, qpl A c))))) (qdr A + 1)) = (endsF Ev (i5_77_z).toNat (wdr (wg A (capG (qg A) ((qe A).map (fun c => (c, qpl A c))))) (qdr A + 1))) by rw [show (x_228.toInt).toNat = (i5_77_z).toNat + 1 by omega]; exact stpF_n hL_181) pv_212 pv_213 pv_214 pv_215 pv_216 (show (pI S_201 902 Gs).toInt = (((qg (endsF Ev (i5_77_z).toNat (wdr (wg A (capG (qg A) ((qe A).map (fun c => (c, qpl A c))))) (qdr A + 1))))).length : Int) by omega) pv_218 pv_219 (show (pI S_201 800 s1).toInt = (((qsk (endsF Ev (i5_77_z).toNat (wdr (wg A (capG (qg A) ((qe A).map (fun c => (c, qpl A c))))) (qdr A + 1))))).length : Int) by omega) pv_221 (inD_ends (A := (wdr (wg A (capG (qg A) ((qe A).map (fun c => (c, qpl A c))))) (qdr A + 1))) pv_11 _)) px_235 (by omega) (by omega) (by omega) (lv_sub hl [0, 1, 2, 3, 4, 5] rfl)
      · refine W.eq (g2 := F0 m 71 ls (.ref q_180 :: .ref x :: [])) rfl ?_
        obtain ⟨ha_237, t_238, hL_239, hr_240⟩ := hs_177 _ rfl
        refine lv_iload X.1 X.2.1 dX4_drawMetre_71 (lv_at hl 1 rfl) ?_
        have id_241 : InD D (we (endsF Ev (i5_77_z).toNat (wdr (wg A (capG (qg A) ((qe A).map (fun c => (c, qpl A c))))) (qdr A + 1))) t_238) := inD_tl pv_108 hL_239
        have t_242 : At S_172 x 4 := hk_173.fr.at ha_x_L_80
        have dt_243 : ∀ c, D c → At S_172 c 0 := fun c h => hk_173.fr.at (dt_95 c h)
        have pr_244 : PotR S_172 x R0 R1 R2 Gs := PotR_fr hO_T_78.1 ha_x_L_80 hk_173.fr (by decide +kernel) pr_94
        have rw_245 : RowIs S_172 R0 (qb (endsF Ev (i5_77_z).toNat (wdr (wg A (capG (qg A) ((qe A).map (fun c => (c, qpl A c))))) (qdr A + 1)))) 600 := hx_179.2 _ hne.1 pr_94.2.2.2.2.2.1 _ _ pv_98
        have rw_246 : RowIs S_172 R2 (ql (endsF Ev (i5_77_z).toNat (wdr (wg A (capG (qg A) ((qe A).map (fun c => (c, qpl A c))))) (qdr A + 1)))) 600 := hx_179.2 _ (Ne.symm hne.2.2) (Ne.symm pr_94.2.2.2.2.2.2.2) _ _ pv_100
        have co_247 : CoP S_172 D (qpl (endsF Ev (i5_77_z).toNat (wdr (wg A (capG (qg A) ((qe A).map (fun c => (c, qpl A c))))) (qdr A + 1)))) (qsd (endsF Ev (i5_77_z).toNat (wdr (wg A (capG (qg A) ((qe A).map (fun c => (c, qpl A c))))) (qdr A + 1)))) := CoP_fr hk_173.fr dt_95 (by decide +kernel) pv_107
        have t_248 : pI S_172 405 x = (qst (endsF Ev (i5_77_z).toNat (wdr (wg A (capG (qg A) ((qe A).map (fun c => (c, qpl A c))))) (qdr A + 1)))) := hk_173.fr.I' (by decide +kernel) ha_x_L_80 pv_101
        have t_249 : pI S_172 406 x = (qse (endsF Ev (i5_77_z).toNat (wdr (wg A (capG (qg A) ((qe A).map (fun c => (c, qpl A c))))) (qdr A + 1)))) := hk_173.fr.I' (by decide +kernel) ha_x_L_80 pv_102
        have t_250 : pI S_172 902 Gs = v_109 := hk_173.fr.I' (by decide +kernel) ha_93 ev_109
        have pz_251 : (pI S_172 902 Gs).toInt = v_109.toInt := (congrArg Int32.toInt t_250).trans rfl
        have t_252 : pI S_172 407 x = (qdr (endsF Ev (i5_77_z).toNat (wdr (wg A (capG (qg A) ((qe A).map (fun c => (c, qpl A c))))) (qdr A + 1)))) := hk_173.fr.I' (by decide +kernel) ha_x_L_80 pv_104
        have t_253 : pI S_172 408 x = (qtk (endsF Ev (i5_77_z).toNat (wdr (wg A (capG (qg A) ((qe A).map (fun c => (c, qpl A c))))) (qdr A + 1)))) := hk_173.fr.I' (by decide +kernel) ha_x_L_80 pv_105
        have t_254 : pI S_172 800 s1 = v_113 := hk_173.fr.I' (by decide +kernel) ha_s1_L_79 ev_113
        have pz_255 : (pI S_172 800 s1).toInt = v_113.toInt := (congrArg Int32.toInt t_254).trans rfl
        have en_256 : EnC S_172 D x s1 Ev := EnC_fr hk_173.fr dt_95 ha_x_L_80 ha_s1_L_79 (by decide +kernel) en_97
        have t_257 : At S_172 s1 8 := hk_173.fr.at ha_s1_L_79
        refine k_gv (kc := 0) (ks := 0) (rm := { frames := 5, cells := Phc S_172 + 8, slots := Phs S_172 + 15019, locals := 240 }) (av := [.ref x, .ref q_180, .int (v_12)]) X hw (va_runV (As := [.ref q_180, .int (v_12)]) (rest := []) (cfix X) (k_X4_drawEnd5 l G cy κ S_172 _ _ x (some q_180) (v_12) (v_12.toInt) D R0 R1 R2 Gs s1 (we (endsF Ev (i5_77_z).toNat (wdr (wg A (capG (qg A) ((qe A).map (fun c => (c, qpl A c))))) (qdr A + 1))) t_238) Ev hO_176.1 t_242 (fun q h => by cases h; exact ha_237) rfl dt_243 pr_244 (PotV_of (rfl : (we (endsF Ev (i5_77_z).toNat (wdr (wg A (capG (qg A) ((qe A).map (fun c => (c, qpl A c))))) (qdr A + 1))) t_238) = (we (endsF Ev (i5_77_z).toNat (wdr (wg A (capG (qg A) ((qe A).map (fun c => (c, qpl A c))))) (qdr A + 1))) t_238)) rw_245 hr_240 rw_246 t_248 t_249 (show (pI S_172 902 Gs).toInt = (((qg (endsF Ev (i5_77_z).toNat (wdr (wg A (capG (qg A) ((qe A).map (fun c => (c, qpl A c))))) (qdr A + 1))))).length : Int) by omega) t_252 t_253 (show (pI S_172 800 s1).toInt = (((qsk (endsF Ev (i5_77_z).toNat (wdr (wg A (capG (qg A) ((qe A).map (fun c => (c, qpl A c))))) (qdr A + 1))))).length : Int) by omega) co_247 id_241) en_256 t_257 (fun q h => by cases h; exact pv_108 _ (Or.inr (Or.inl (by rw [hL_239]; exact List.mem_cons_self))))) (cwV 2 X.2.2.2.1 gX4_drawMetre_X4_drawEnd rfl rfl rfl (by decide +kernel) ⟨Nat.le_of_ble_eq_true rfl, Nat.le_of_ble_eq_true rfl⟩) (pre_gV X hw _ t_242 rfl (by decide) rfl) rfl rfl hl.1 rfl (lv_room (Nat.le_of_ble_eq_true rfl)) dX4_drawMetre_73 ⟨(by show cc_84 + (Phc S_172 + 8) ≤ Phc S + 8; omega), (by show nn_85 + (Phs S_172 + 15019) ≤ Phs S + 15019; omega)⟩) (fun S_259 H locs c_260 n_261 hc_260 hn_261 hp hw => ?_)
        obtain ⟨hk_262, hp⟩ := hp
        have ph_263 : c_260 + Phc S_259 ≤ Phc S + 0 := by omega
        have ph_264 : n_261 + Phs S_259 ≤ Phs S + 0 := by omega
        clear ph_174
        clear ph_175
        clear hc_260
        clear hn_261
        have hO_265 : Og eDM S S_259 := hO_176.call hk_262 (by decide +kernel)
        obtain ⟨de_266, de_267, de_268⟩ := hp
        have de_269 := de_267 _ rfl
        obtain ⟨pv_270, pv_271, pv_272, pv_273, pv_274, pv_275, pv_276, pv_277, pv_278, pv_279, pv_280⟩ := de_269
        have t_282 : At S_172 Gs 29 := hk_173.fr.at ha_93
        have t_281 : pI S_259 902 Gs = v_109 := hk_262.fr.I' (by decide +kernel) t_282 t_250
        have pz_283 : (pI S_259 902 Gs).toInt = v_109.toInt := (congrArg Int32.toInt t_281).trans rfl
        have t_284 : pI S_259 800 s1 = v_113 := hk_262.fr.I' (by decide +kernel) t_257 t_254
        have pz_285 : (pI S_259 800 s1).toInt = v_113.toInt := (congrArg Int32.toInt t_284).trans rfl
        obtain ⟨x_286, ex_286⟩ : ∃ y : Int32, y = i5_77 + 1 := ⟨_, rfl⟩
        have z_287 : x_286.toInt = i5_77_z + 1 := z_add ex_286 hz_i5_77 ti_1 (by omega) (by omega)
        refine lv_iinc (v := x_286) (lv' := [(5, .int (x_286)), (4, .int (v_12)), (3, .int (v_25)), (2, .int (rr_20)), (0, .ref x), (1, .ref s1)]) X.1 X.2.1 dX4_drawMetre_76 hl (k := 0) rfl (by rw [ex_286]; rfl) (by decide) rfl (fun ls hl => ?_)
        refine lv_goto (tgt := 57) X.1 X.2.1 dX4_drawMetre_79 (by decide) ?_
        have t_288 : At S_259 s1 8 := hk_262.fr.at t_257
        have t_289 : At S_259 x 4 := hk_262.fr.at t_242
        have pz_290 : (pI S_259 902 Gs).toInt = v_109.toInt := (congrArg Int32.toInt t_281).trans rfl
        have pz_291 : (pI S_259 800 s1).toInt = v_113.toInt := (congrArg Int32.toInt t_284).trans rfl
        have px_292 : PotX S S_172 x R0 R1 R2 Gs := PotX_row iv_82 ax_96 haR0 haR1 haR2 (Or.inr (Or.inl rfl)) hx_179 hk_173.fr (by decide +kernel)
        have ax_294 : ∀ a k, At S a k → At S_172 a k := fun a k h => hk_173.fr.at (ax_96 a k h)
        have px_293 : PotX S S_259 x R0 R1 R2 Gs := PotX_tr px_292 ax_294 haR0 haR1 haR2 de_268
        exact ih _ (by omega) _ _ _ _ (x_286) (x_286.toInt) (c_260) (n_261) rfl hw rfl (by omega) t_288 t_289 hO_265 (PotV_of (show endsF Ev (x_286.toInt).toNat (wdr (wg A (capG (qg A) ((qe A).map (fun c => (c, qpl A c))))) (qdr A + 1)) = (endF Ev (we (endsF Ev (i5_77_z).toNat (wdr (wg A (capG (qg A) ((qe A).map (fun c => (c, qpl A c))))) (qdr A + 1))) t_238) q_180) by rw [show (x_286.toInt).toNat = (i5_77_z).toNat + 1 by omega]; exact stpF_c hL_239) pv_270 pv_271 pv_272 pv_273 pv_274 (show (pI S_259 902 Gs).toInt = (((qg (endF Ev (we (endsF Ev (i5_77_z).toNat (wdr (wg A (capG (qg A) ((qe A).map (fun c => (c, qpl A c))))) (qdr A + 1))) t_238) q_180))).length : Int) by omega) pv_276 pv_277 (show (pI S_259 800 s1).toInt = (((qsk (endF Ev (we (endsF Ev (i5_77_z).toNat (wdr (wg A (capG (qg A) ((qe A).map (fun c => (c, qpl A c))))) (qdr A + 1))) t_238) q_180))).length : Int) by omega) pv_279 (inD_ends (A := (wdr (wg A (capG (qg A) ((qe A).map (fun c => (c, qpl A c))))) (qdr A + 1))) pv_11 _)) px_293 (by omega) (by omega) (by omega) (lv_sub hl [0, 1, 2, 3, 4, 5] rfl)
  have t_295 : At S_60 s1 8 := tAt_sI eS_60 t_53
  have t_296 : At S_71 s1 8 := tAt_sI eS_71 t_295
  have t_297 : At S_71 x 4 := tAt_sI eS_71 t_66
  have rw_298 : RowIs S_38 R0 (qb A) 600 := RowIs_fr hO.1 haR0 hk_39.fr (by decide +kernel) pv_1
  have rw_299 : RowIs S_60 R0 (qb A) 600 := RowIs_sI rw_298 eS_60 (by decide) (by decide)
  have rw_300 : RowIs S_71 R0 (qb A) 600 := RowIs_sI rw_299 eS_71 (by decide) (by decide)
  have rw_301 : RowIs S_38 R1 (qe A) 12 := RowIs_fr hO.1 haR1 hk_39.fr (by decide +kernel) pv_2
  have rw_302 : RowIs S_60 R1 (qe A) 12 := RowIs_sI rw_301 eS_60 (by decide) (by decide)
  have rw_303 : RowIs S_71 R1 (qe A) 12 := RowIs_sI rw_302 eS_71 (by decide) (by decide)
  have rw_304 : RowIs S_38 R2 (ql A) 600 := RowIs_fr hO.1 haR2 hk_39.fr (by decide +kernel) pv_3
  have rw_305 : RowIs S_60 R2 (ql A) 600 := RowIs_sI rw_304 eS_60 (by decide) (by decide)
  have rw_306 : RowIs S_71 R2 (ql A) 600 := RowIs_sI rw_305 eS_71 (by decide) (by decide)
  have co_307 : CoP S_38 D (qpl A) (qsd A) := CoP_fr hk_39.fr hp_0 (by decide +kernel) pv_10
  have co_308 : CoP S_60 D (qpl A) (qsd A) := CoP_sI co_307 eS_60 (by decide) (by decide)
  have co_309 : CoP S_71 D (qpl A) (qsd A) := CoP_sI co_308 eS_71 (by decide) (by decide)
  have t_310 : pI S_38 405 x = (qst A) := hk_39.fr.I' (by decide +kernel) ha_x pv_4
  have t_311 : pI S_60 405 x = (qst A) := tI_sI eS_60 rfl t_310
  have t_312 : pI S_71 405 x = (qst A) := tI_sI eS_71 rfl t_311
  have t_313 : pI S_38 406 x = (qse A) := hk_39.fr.I' (by decide +kernel) ha_x pv_5
  have t_314 : pI S_60 406 x = (qse A) := tI_sI eS_60 rfl t_313
  have t_315 : pI S_71 406 x = (qse A) := tI_sI eS_71 rfl t_314
  have t_316 : pI S_60 902 Gs = v_48 := tI_sI eS_60 rfl ev_48
  have t_317 : pI S_71 902 Gs = v_48 := tI_sI eS_71 rfl t_316
  have pz_318 : (pI S_71 902 Gs).toInt = v_48.toInt := (congrArg Int32.toInt t_317).trans rfl
  have t_319 : pI S_38 408 x = (qtk A) := hk_39.fr.I' (by decide +kernel) ha_x pv_8
  have t_320 : pI S_60 408 x = (qtk A) := tI_sI eS_60 rfl t_319
  have t_321 : pI S_71 408 x = (qtk A) := tI_sI eS_71 rfl t_320
  have t_322 : pI S_38 800 s1 = v_16 := hk_39.fr.I' (by decide +kernel) ha_s1 ev_16
  have t_323 : pI S_60 800 s1 = v_16 := tI_sI eS_60 rfl t_322
  have t_324 : pI S_71 800 s1 = v_16 := tI_sI eS_71 rfl t_323
  have pz_325 : (pI S_71 800 s1).toInt = v_16.toInt := (congrArg Int32.toInt t_324).trans rfl
  have px_326 : PotX S S_38 x R0 R1 R2 Gs := PotX_st (PotX_rf S x R0 R1 R2 Gs) (fun _ _ h => h) hO.1 hk_39.fr (by decide +kernel) (fun q _ hq => am_45 q hq)
  have px_327 : PotX S S_60 x R0 R1 R2 Gs := PotX_sI px_326 eS_60 (by decide)
  have px_328 : PotX S S_71 x R0 R1 R2 Gs := PotX_sx px_327 eS_71 (by decide)
  exact L_76 _ _ _ _ _ (0) (0) (0) (0) rfl hw ti_0 (by omega) t_296 t_297 hO_74 (PotV_of (rfl : endsF Ev (0 : Int).toNat (wdr (wg A (capG (qg A) ((qe A).map (fun c => (c, qpl A c))))) (qdr A + 1)) = (wdr (wg A (capG (qg A) ((qe A).map (fun c => (c, qpl A c))))) (qdr A + 1))) rw_300 rw_303 rw_306 t_312 t_315 (show (pI S_71 902 Gs).toInt = (((capG (qg A) ((qe A).map (fun c => (c, qpl A c))))).length : Int) by omega) (h_75.trans ev_69) t_321 (show (pI S_71 800 s1).toInt = (((qsk A)).length : Int) by omega) co_309 (show InD D (wdr (wg A (capG (qg A) ((qe A).map (fun c => (c, qpl A c))))) (qdr A + 1)) from pv_11)) px_328 (by omega) (by omega) (by omega) (lv_sub hl [0, 1, 2, 3, 4, 5] rfl)
