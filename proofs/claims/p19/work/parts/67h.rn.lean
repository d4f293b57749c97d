
set_option maxHeartbeats 4000000 in
set_option maxRecDepth 100000 in
theorem k_X4_drawMetre5 (l : Launch) (G : va_G) (cy : Nat → ClassId) (κ : Nat → Nat) (S : PS) (sz hz : Nat) (x : Nat) (s1 : Nat) (D : Nat → Prop) (R0 : Nat) (R1 : Nat) (R2 : Nat) (Gs : Nat) (A : Pt) (Ev : En) (hG : GX S) (ha_x : At S x 4) (ha_s1 : At S s1 8) (hp_0 : (∀ c, D c → At S c 0)) (hp_1 : PotR S x R0 R1 R2 Gs) (hp_2 : PotV S D x R0 R1 R2 Gs s1 A) (hp_3 : EnC S D x s1 Ev) : Gv l yX4_drawMetre wsX4_drawMetre ({ frames := 6, cells := Phc S + 8, slots := Phs S + 15019, locals := 288 }) G cy κ S sz hz 0 0 [.ref x, .ref s1] (fun (S9 : PS) => Og eDM S S9 ∧ (PotV S9 D x R0 R1 R2 Gs s1 (drwF Ev A) ∧ PotX S S9 x R0 R1 R2 Gs ∧ PzT S S9 D Gs s1 A (drwF Ev A))) := by
  refine ent_g (cc := cX4_drawMetre) (maxL := 6) (ret := none) (by decide) rfl (Nat.le_of_ble_eq_true rfl) ?_
  intro p e s m below meth c ls X hr hlocks hin hw hl hsz hhz
  subst hsz hhz
  have X : Cx p c cX4_drawMetre 6 s [.ref x, .ref s1].toArray wsX4_drawMetre RX4 m G cy κ (AS S s.heap.size) := X
  have hl : lv_has ls 6 [(0, .ref x), (1, .ref s1)] := hl
  have hpc0 : 0 + Phc S ≤ Phc S + 0 := by omega
  have hps0 : 0 + Phs S ≤ Phs S + 0 := by omega
  have hO : Og eDM S S := Og.rf hG
  generalize hQQ : MQ below _ _ _ _ _ _ = QQ
  replace hQQ := hQQ.symm
  have hpr := hp_1
  obtain ⟨hr0, hr1, hr2, hr3, hne, hcn⟩ := hpr
  have haR0 := row_at hG ha_x (Or.inl hr0)
  have haR1 := row_at hG ha_x (Or.inr (Or.inl hr1))
  have haR2 := row_at hG ha_x (Or.inr (Or.inr hr2))
  have haGs : At S Gs 29 := by obtain ⟨c, k1, k2⟩ := gQ_4_403 hG ha_x; have h3 := hr3; rw [k1] at h3; cases h3; exact k2
  have hpv := hp_2
  obtain ⟨pv_1, pv_2, pv_3, pv_4, pv_5, pv_6, pv_7, pv_8, pv_9, pv_10, pv_11⟩ := hpv
  obtain ⟨v_12, ev_12⟩ : ∃ v, pI S 902 Gs = v := ⟨_, rfl⟩
  have rg_13 := gI_29_902 hO.1 haGs; rw [ev_12] at rg_13
  have pz_14 : (pI S 902 Gs).toInt = v_12.toInt := by rw [ev_12]
  have pz_15 : (pI S 902 Gs).toInt = v_12.toInt := (congrArg Int32.toInt ev_12).trans rfl
  obtain ⟨v_16, ev_16⟩ : ∃ v, pI S 800 s1 = v := ⟨_, rfl⟩
  have rg_17 := gI_8_800 hO.1 ha_s1; rw [ev_16] at rg_17
  have pz_18 : (pI S 800 s1).toInt = v_16.toInt := by rw [ev_16]
  have pz_19 : (pI S 800 s1).toInt = v_16.toInt := (congrArg Int32.toInt ev_16).trans rfl
  have sl_20 := pv_6.1
  have sl_21 := pv_9.1
  refine lv_aload_n X.1 X.2.1 dX4_drawMetre_0 rfl (lv_at hl 0 rfl) ?_
  refine r_getR (g := 401) X hw ha_x rfl 1 hr1 (by decide) rfl inn_X4_drawMetre_4 (by decide) (X.2.2.2.1 (.fieldLink RX4 20 "SilkMill$Pot" "ends" "LSilkMill$Row;") (by decide +kernel)) rfl (gv_401 _ _) dX4_drawMetre_1 ?_
  refine k_i (rm := { frames := 3, cells := 0, slots := 0, locals := 144 }) (av := [.ref R1]) X hw (va_runV (As := []) (rest := []) (cfix X) (k_X5_sumOfFineness5 l G cy κ S _ R1 (qe A) 12 hO.1 haR1 pv_2) (cwV 0 X.2.2.2.1 gX4_drawMetre_X5_sumOfFineness rfl rfl rfl (by decide +kernel) ⟨Nat.le_of_ble_eq_true rfl, Nat.le_of_ble_eq_true rfl⟩) (pre_V X hw _ haR1 rfl (by decide) rfl) rfl rfl hl.1 rfl (lv_room (Nat.le_of_ble_eq_true rfl)) dX4_drawMetre_4 ⟨(by show 0 + 0 ≤ Phc S + 8; omega), (by show 0 + 0 ≤ Phs S + 15019; omega)⟩) 0 0 (by show 0 + 0 ≤ 0; omega) (by show 0 + 0 ≤ 0; omega) (fun rr_22 S_23 H locs hp hw hfr hnw => ?_)
  obtain ⟨e2, hp⟩ := hp
  subst e2
  obtain ⟨su_24, su_25, su_26⟩ := hp
  refine lv_istore_n (lv' := [(2, .int (rr_22)), (0, .ref x), (1, .ref s1)]) X.1 X.2.1 dX4_drawMetre_7 rfl hl (by decide) rfl (fun ls hl => ?_)
  refine lv_aload_n X.1 X.2.1 dX4_drawMetre_8 rfl (lv_at hl 1 rfl) ?_
  refine r_getR (g := 401) X hw ha_x rfl 1 hr1 (by decide) rfl inn_X4_drawMetre_4 (by decide) (X.2.2.2.1 (.fieldLink RX4 20 "SilkMill$Pot" "ends" "LSilkMill$Row;") (by decide +kernel)) rfl (gv_401 _ _) dX4_drawMetre_9 ?_
  obtain ⟨v_27, ev_27⟩ : ∃ v, pI S 500 R1 = v := ⟨_, rfl⟩
  obtain ⟨q_29, n_30, h_31, h_32, h_33, h_34, h_35⟩ := gRowQ hO.1 haR1
  have rg_28 := gRow_500 hO.1 haR1 h_31 h_33; rw [ev_27] at rg_28
  have pz_36 : (pI S 500 R1).toInt = v_27.toInt := by rw [ev_27]
  refine r_getI (g := 500) (x := v_27) X hw haR1 rfl 0 ev_27 (by decide) rfl inn_X4_drawMetre_5 (by decide) (X.2.2.2.1 (.fieldLink RX4 73 "SilkMill$Row" "size" "I") (by decide +kernel)) rfl (gv_500 _ _) dX4_drawMetre_12 ?_
  have sz_37 := RowIs_sz pv_2
  have pz_38 : (pI S 500 R1).toInt = v_27.toInt := (congrArg Int32.toInt ev_27).trans rfl
  refine lv_istore_n (lv' := [(3, .int (v_27)), (2, .int (rr_22)), (0, .ref x), (1, .ref s1)]) X.1 X.2.1 dX4_drawMetre_15 rfl hl (by decide) rfl (fun ls hl => ?_)
  refine lv_aload_n X.1 X.2.1 dX4_drawMetre_16 rfl (lv_at hl 2 rfl) ?_
  refine r_getR (g := 403) X hw ha_x rfl 3 hr3 (by decide) rfl inn_X4_drawMetre_4 (by decide) (X.2.2.2.1 (.fieldLink RX4 29 "SilkMill$Pot" "strand" "LSilkMill$Strand;") (by decide +kernel)) rfl (gv_403 _ _) dX4_drawMetre_17 ?_
  refine r_getI (g := 902) (x := v_12) X hw haGs rfl 2 ev_12 (by decide) rfl inn_X4_drawMetre_9 (by decide) (X.2.2.2.1 (.fieldLink RX4 79 "SilkMill$Strand" "metres" "I") (by decide +kernel)) rfl (gv_902 _ _) dX4_drawMetre_20 ?_
  refine lv_istore (lv' := [(4, .int (v_12)), (3, .int (v_27)), (2, .int (rr_22)), (0, .ref x), (1, .ref s1)]) X.1 X.2.1 dX4_drawMetre_23 hl (by decide) rfl (fun ls hl => ?_)
  refine lv_aload_n X.1 X.2.1 dX4_drawMetre_25 rfl (lv_at hl 3 rfl) ?_
  refine r_getR (g := 403) X hw ha_x rfl 3 hr3 (by decide) rfl inn_X4_drawMetre_4 (by decide) (X.2.2.2.1 (.fieldLink RX4 29 "SilkMill$Pot" "strand" "LSilkMill$Strand;") (by decide +kernel)) rfl (gv_403 _ _) dX4_drawMetre_26 ?_
  refine lv_iload_n X.1 X.2.1 dX4_drawMetre_29 rfl (lv_at hl 2 rfl) ?_
  refine lv_iload_n X.1 X.2.1 dX4_drawMetre_30 rfl (lv_at hl 1 rfl) ?_
  refine k_v (rm := { frames := 1, cells := 0, slots := 0, locals := 48 }) (av := [.ref Gs, .int (rr_22), .int (v_27)]) X hw (va_runV (As := [.int (rr_22), .int (v_27)]) (rest := []) (cfix X) (k_X9_addMetre7 l G cy κ S _ Gs (rr_22) (rr_22.toInt) (v_27) (v_27.toInt) hO.1 haGs rfl rfl) (cwV 2 X.2.2.2.1 gX4_drawMetre_X9_addMetre rfl rfl rfl (by decide +kernel) ⟨Nat.le_of_ble_eq_true rfl, Nat.le_of_ble_eq_true rfl⟩) (pre_V X hw _ haGs rfl (by decide) rfl) rfl rfl hl.1 rfl (lv_room (Nat.le_of_ble_eq_true rfl)) dX4_drawMetre_31 ⟨(by show 0 + 0 ≤ Phc S + 8; omega), (by show 0 + 0 ≤ Phs S + 15019; omega)⟩) 0 0 (by show 0 + 0 ≤ 0; omega) (by show 0 + 0 ≤ 0; omega) (fun S_40 H locs hp hw hfr hnw => ?_)
  obtain ⟨hk_41, hp⟩ := hp
  have ph_42 : 0 + Phc S_40 ≤ Phc S + 0 := by rw [show Phc S_40 = Phc S from Ph_ok hO.1 hk_41 (by decide +kernel) (by decide +kernel) (by decide +kernel)]; exact hpc0
  have ph_43 : 0 + Phs S_40 ≤ Phs S + 0 := by rw [show Phs S_40 = Phs S from Ph_ok hO.1 hk_41 (by decide +kernel) (by decide +kernel) (by decide +kernel)]; exact hps0
  clear hpc0
  clear hps0
  have hO_44 : Og eDM S S_40 := hO.call hk_41.og (by decide +kernel)
  obtain ⟨am_45, am_46⟩ := hp
  have sg_47 : StV S_40 D Gs (capG (qg A) ((qe A).map (fun c => (c, qpl A c)))) := (StV_cap hO.1 haGs am_45 am_46 (su_26.trans (mt_su (fun c hc => (pv_10 c (pv_11 c (Or.inr (Or.inl hc)))).1)).symm) (by rw [List.length_map]; omega) (fun z hz => by obtain ⟨c, h1, h2⟩ := List.mem_map.mp hz; rw [← h2]; exact ⟨pv_11 c (Or.inr (Or.inl h1)), hp_0 c (pv_11 c (Or.inr (Or.inl h1)))⟩) pv_6)
  have sl_48 := sg_47.1
  obtain ⟨v_49, ev_49⟩ : ∃ v, pI S_40 902 Gs = v := ⟨_, rfl⟩
  have t_51 : At S_40 Gs 29 := hk_41.fr.at haGs
  have rg_50 := gI_29_902 hO_44.1 t_51; rw [ev_49] at rg_50
  have pz_52 : (pI S_40 902 Gs).toInt = v_49.toInt := by rw [ev_49]
  have pz_53 : (pI S_40 902 Gs).toInt = v_49.toInt := (congrArg Int32.toInt ev_49).trans rfl
  refine lv_aload_n X.1 X.2.1 dX4_drawMetre_34 rfl (lv_at hl 4 rfl) ?_
  refine lv_dup X.1 X.2.1 dX4_drawMetre_35 rfl ?_
  have t_54 : At S_40 s1 8 := hk_41.fr.at ha_s1
  obtain ⟨v_55, ev_55⟩ : ∃ v, pI S_40 802 s1 = v := ⟨_, rfl⟩
  have rg_57 := And.intro (z_lo v_55) (z_hi v_55)
  have pz_58 : (pI S_40 802 s1).toInt = v_55.toInt := by rw [ev_55]
  refine r_getI (g := 802) (x := v_55) X hw t_54 rfl 2 ev_55 (by decide) rfl inn_X4_drawMetre_8 (by decide) (X.2.2.2.1 (.fieldLink RX4 197 "SilkMill$Store" "silkDrawn" "I") (by decide +kernel)) rfl (gv_802 _ _) dX4_drawMetre_36 ?_
  refine lv_iload_n X.1 X.2.1 dX4_drawMetre_39 rfl (lv_at hl 2 rfl) ?_
  refine lv_iadd X.1 X.2.1 dX4_drawMetre_40 ?_
  refine lv_topi (fun v_59 ev_59 => ?_)
  have rg_60 := And.intro (z_lo v_59) (z_hi v_59)
  refine r_putI (v := v_59) X hw t_54 rfl 2 802 tyX8 (by decide) rfl inn_X4_drawMetre_8 tyX8_ok nmX8 (by decide) (X.2.2.2.1 (.fieldLink RX4 197 "SilkMill$Store" "silkDrawn" "I") (by decide +kernel)) rfl (Or.inl rfl) rfl rfl (Nat.le_of_ble_eq_true rfl) (st_802 _ _) dX4_drawMetre_41 (fun H locs hw => ?_)
  obtain ⟨S_61, eS_61⟩ : ∃ T, T = sI S_40 802 s1 (v_59) := ⟨_, rfl⟩
  rw [← eS_61] at hw
  have ph_62 : 0 + Phc S_61 ≤ Phc S + 0 := by rw [show Phc S_61 = Phc S_40 from Ph_sI eS_61 rfl rfl]; exact ph_42
  have ph_63 : 0 + Phs S_61 ≤ Phs S + 0 := by rw [show Phs S_61 = Phs S_40 from Ph_sI eS_61 rfl rfl]; exact ph_43
  clear ph_42
  clear ph_43
  have hO_64 : Og eDM S S_61 := hO_44.sI eS_61 (by decide +kernel) (uI_8_802 hO_44.1 t_54)
  have h_65 : pI S_61 802 s1 = v_59 := tI_sIs eS_61
  refine lv_aload_n X.1 X.2.1 dX4_drawMetre_44 rfl (lv_at hl 3 rfl) ?_
  refine lv_dup X.1 X.2.1 dX4_drawMetre_45 rfl ?_
  have t_66 : At S_40 x 4 := hk_41.fr.at ha_x
  have t_67 : At S_61 x 4 := tAt_sI eS_61 t_66
  have t_68 : pI S_40 407 x = (qdr A) := hk_41.fr.I' (by decide +kernel) ha_x pv_7
  have t_69 : pI S_61 407 x = (qdr A) := tI_sI eS_61 rfl t_68
  refine r_getI (g := 407) (x := (qdr A)) X hw t_67 rfl 7 t_69 (by decide) rfl inn_X4_drawMetre_4 (by decide) (X.2.2.2.1 (.fieldLink RX4 200 "SilkMill$Pot" "metresEver" "I") (by decide +kernel)) rfl (gv_407 _ _) dX4_drawMetre_46 ?_
  refine lv_iconst (v := 1) X.1 X.2.1 dX4_drawMetre_49 (by decide) ?_
  refine lv_iadd X.1 X.2.1 dX4_drawMetre_50 ?_
  refine lv_topi (fun v_70 ev_70 => ?_)
  have rg_71 := And.intro (z_lo v_70) (z_hi v_70)
  refine r_putI (v := v_70) X hw t_67 rfl 7 407 tyX4 (by decide) rfl inn_X4_drawMetre_4 tyX4_ok nmX4 (by decide) (X.2.2.2.1 (.fieldLink RX4 200 "SilkMill$Pot" "metresEver" "I") (by decide +kernel)) rfl (Or.inl rfl) rfl rfl (Nat.le_of_ble_eq_true rfl) (st_407 _ _) dX4_drawMetre_51 (fun H locs hw => ?_)
  obtain ⟨S_72, eS_72⟩ : ∃ T, T = sI S_61 407 x (v_70) := ⟨_, rfl⟩
  rw [← eS_72] at hw
  have ph_73 : 0 + Phc S_72 ≤ Phc S + 0 := by rw [show Phc S_72 = Phc S_61 from Ph_sI eS_72 rfl rfl]; exact ph_62
  have ph_74 : 0 + Phs S_72 ≤ Phs S + 0 := by rw [show Phs S_72 = Phs S_61 from Ph_sI eS_72 rfl rfl]; exact ph_63
  clear ph_62
  clear ph_63
  have hO_75 : Og eDM S S_72 := hO_64.sI eS_72 (by decide +kernel) (uI_4_407 hO_64.1 t_67)
  have h_76 : pI S_72 407 x = v_70 := tI_sIs eS_72
  refine lv_iconst (v := 0) X.1 X.2.1 dX4_drawMetre_54 (by decide) ?_
  refine lv_istore (lv' := [(5, .int 0), (4, .int (v_12)), (3, .int (v_27)), (2, .int (rr_22)), (0, .ref x), (1, .ref s1)]) X.1 X.2.1 dX4_drawMetre_55 hl (by decide) rfl (fun ls hl => ?_)
  have L_77 : ∀ (n : Nat) (T_79 : PS) (H : Heap) (locs : List Loc) (ls : Array Slot) (i5_78 : Int32) (i5_78_z : Int) (cc_86 nn_87 : Nat), ((v_27.toInt - i5_78_z).toNat = n) → (Wd G cy (AS S s.heap.size) s.heap T_79 H locs) → (i5_78.toInt = i5_78_z) → (0 ≤ i5_78_z ∧ i5_78_z ≤ 600) → (At T_79 s1 8) → (At T_79 x 4) → (Og eDM S T_79) → (PotV T_79 D x R0 R1 R2 Gs s1 (endsF Ev (i5_78_z).toNat (wdr (wg A (capG (qg A) ((qe A).map (fun c => (c, qpl A c))))) (qdr A + 1)))) → (PotX S T_79 x R0 R1 R2 Gs) → (i5_78_z ≤ v_27.toInt) → (PzI S T_79 D Gs s1 Ev A (i5_78_z).toNat) → (cc_86 + Phc T_79 ≤ Phc S + 0) → (nn_87 + Phs T_79 ≤ Phs S + 0) → (lv_has ls 6 [(5, .int (i5_78)), (4, .int (v_12)), (3, .int (v_27)), (2, .int (rr_22)), (0, .ref x), (1, .ref s1)]) → W p l e ({ frames := 6, cells := Phc S + 8, slots := Phs S + 15019, locals := 288 }) s m [.ref x, .ref s1].toArray below meth c H locs cc_86 nn_87 QQ (F0 m 57 ls []) := by
    intro n
    induction n using Nat.strongRecOn with
    | ind n ih =>
    intro T_79 H locs ls i5_78 i5_78_z cc_86 nn_87 hn hw hz_i5_78 hr_i5_78 ha_s1_L_80 ha_x_L_81 hO_T_79 iv_82 iv_83 iv_84 iv_85 hcc_88 hnn_89 hl
    have rg_90 : (-2147483648) ≤ i5_78_z ∧ i5_78_z ≤ 2147483647 := by rw [← hz_i5_78]; exact ⟨z_lo _, z_hi _⟩
    have iv_91 := iv_82
    have ha_92 : At T_79 R0 5 := hO_T_79.fr.at haR0
    have ha_93 : At T_79 R1 5 := hO_T_79.fr.at haR1
    have ha_94 : At T_79 R2 5 := hO_T_79.fr.at haR2
    have ha_95 : At T_79 Gs 29 := hO_T_79.fr.at haGs
    have pr_96 : PotR T_79 x R0 R1 R2 Gs := PotR_fr hG ha_x hO_T_79.fr (by decide +kernel) hp_1
    have dt_97 : ∀ c, D c → At T_79 c 0 := fun c h => hO_T_79.fr.at (hp_0 c h)
    have ax_98 : ∀ a k, At S a k → At T_79 a k := fun a k h => hO_T_79.fr.at h
    have en_99 : EnC T_79 D x s1 Ev := EnC_fr hO_T_79.fr hp_0 ha_x ha_s1 (by decide +kernel) hp_3
    obtain ⟨pv_100, pv_101, pv_102, pv_103, pv_104, pv_105, pv_106, pv_107, pv_108, pv_109, pv_110⟩ := iv_91
    obtain ⟨v_111, ev_111⟩ : ∃ v, pI T_79 902 Gs = v := ⟨_, rfl⟩
    have rg_112 := gI_29_902 hO_T_79.1 ha_95; rw [ev_111] at rg_112
    have pz_113 : (pI T_79 902 Gs).toInt = v_111.toInt := by rw [ev_111]
    have pz_114 : (pI T_79 902 Gs).toInt = v_111.toInt := (congrArg Int32.toInt ev_111).trans rfl
    obtain ⟨v_115, ev_115⟩ : ∃ v, pI T_79 800 s1 = v := ⟨_, rfl⟩
    have rg_116 := gI_8_800 hO_T_79.1 ha_s1_L_80; rw [ev_115] at rg_116
    have pz_117 : (pI T_79 800 s1).toInt = v_115.toInt := by rw [ev_115]
    have pz_118 : (pI T_79 800 s1).toInt = v_115.toInt := (congrArg Int32.toInt ev_115).trans rfl
    have sl_119 := pv_105.1
    have sl_120 := pv_108.1
    refine lv_iload X.1 X.2.1 dX4_drawMetre_57 (lv_at hl 0 rfl) ?_
    refine lv_iload_n X.1 X.2.1 dX4_drawMetre_59 rfl (lv_at hl 2 rfl) ?_
    refine lv_icmp_ge (tgt := 82) X.1 X.2.1 dX4_drawMetre_60 (by decide) (fun c_121 => ?_) (fun c_121 => ?_)
    · have z_b_122 := trivial
      have k_123 : i5_78_z ≥ v_27.toInt := z_le rfl hz_i5_78 c_121
      have db_124 : endsF Ev (i5_78_z).toNat (wdr (wg A (capG (qg A) ((qe A).map (fun c => (c, qpl A c))))) (qdr A + 1)) = drwB Ev A := by rw [show (i5_78_z).toNat = (qe A).length by omega]; rfl
      refine lv_aload_n X.1 X.2.1 dX4_drawMetre_82 rfl (lv_at hl 4 rfl) ?_
      refine r_getR (g := 403) X hw ha_x_L_81 rfl 3 pr_96.2.2.2.1 (by decide) rfl inn_X4_drawMetre_4 (by decide) (X.2.2.2.1 (.fieldLink RX4 29 "SilkMill$Pot" "strand" "LSilkMill$Strand;") (by decide +kernel)) rfl (gv_403 _ _) dX4_drawMetre_83 ?_
      refine r_getI (g := 902) (x := v_111) X hw ha_95 rfl 2 ev_111 (by decide) rfl inn_X4_drawMetre_9 (by decide) (X.2.2.2.1 (.fieldLink RX4 79 "SilkMill$Strand" "metres" "I") (by decide +kernel)) rfl (gv_902 _ _) dX4_drawMetre_86 ?_
      refine lv_sipush (v := 300) X.1 X.2.1 dX4_drawMetre_89 (by decide) ?_
      refine lv_icmp_lt (tgt := 101) X.1 X.2.1 dX4_drawMetre_92 (by decide) (fun c_125 => ?_) (fun c_125 => ?_)
      · have z_b_126 := trivial
        have k_127 : v_111.toInt < 300 := z_lt rfl ti_300 c_125
        rw [hQQ]
        exact ret_gv X hw hr hlocks (by show cc_86 ≤ Phc S + 8; omega) (by show nn_87 ≤ Phs S + 15019; omega) (by omega) (by omega) ⟨hO_T_79, ⟨PotV_of ((drwF_n (by rw [← db_124]; omega)).trans db_124.symm) pv_100 pv_101 pv_102 pv_103 pv_104 pv_105 pv_106 pv_107 pv_108 pv_109 (inD_drw pv_11), iv_83, PzI_e iv_85 (by omega) (by rw [← db_124]; omega)⟩⟩ dX4_drawMetre_101
      · have z_b_128 := trivial
        have k_129 : v_111.toInt ≥ 300 := z_nlt rfl ti_300 c_125
        refine lv_aload_n X.1 X.2.1 dX4_drawMetre_95 rfl (lv_at hl 4 rfl) ?_
        refine lv_aload_n X.1 X.2.1 dX4_drawMetre_96 rfl (lv_at hl 5 rfl) ?_
        refine k_gi (kc := 0) (ks := 0) (rm := { frames := 5, cells := Phc T_79 + 8, slots := Phs T_79 + 15019, locals := 240 }) (av := [.ref x, .ref s1]) X hw (va_runV (As := [.ref s1]) (rest := []) (cfix X) (k_X4_cutStrand5 l G cy κ T_79 _ _ x s1 D R0 R1 R2 Gs (endsF Ev (i5_78_z).toNat (wdr (wg A (capG (qg A) ((qe A).map (fun c => (c, qpl A c))))) (qdr A + 1))) Ev hO_T_79.1 ha_x_L_81 ha_s1_L_80 dt_97 pr_96 (PotV_of (rfl : (endsF Ev (i5_78_z).toNat (wdr (wg A (capG (qg A) ((qe A).map (fun c => (c, qpl A c))))) (qdr A + 1))) = (endsF Ev (i5_78_z).toNat (wdr (wg A (capG (qg A) ((qe A).map (fun c => (c, qpl A c))))) (qdr A + 1)))) pv_100 pv_101 pv_102 pv_103 pv_104 pv_105 pv_106 pv_107 pv_108 pv_109 pv_110) en_99) (cwV 1 X.2.2.2.1 gX4_drawMetre_X4_cutStrand rfl rfl rfl (by decide +kernel) ⟨Nat.le_of_ble_eq_true rfl, Nat.le_of_ble_eq_true rfl⟩) (pre_gV X hw _ ha_x_L_81 rfl (by decide) rfl) rfl rfl hl.1 rfl (lv_room (Nat.le_of_ble_eq_true rfl)) dX4_drawMetre_97 ⟨(by show cc_86 + (Phc T_79 + 8) ≤ Phc S + 8; omega), (by show nn_87 + (Phs T_79 + 15019) ≤ Phs S + 15019; omega)⟩) (fun rr_130 S_131 H locs c_132 n_133 hc_132 hn_133 hp hw => ?_)
        obtain ⟨hk_134, hp⟩ := hp
        have ph_135 : c_132 + Phc S_131 ≤ Phc S + 0 := by omega
        have ph_136 : n_133 + Phs S_131 ≤ Phs S + 0 := by omega
        clear hcc_88
        clear hnn_89
        clear hc_132
        clear hn_133
        have hO_137 : Og eDM S S_131 := hO_T_79.call hk_134 (by decide +kernel)
        obtain ⟨cu_138, cu_139, cu_140, cu_141, cu_142, cz_143⟩ := hp
        obtain ⟨pv_144, pv_145, pv_146, pv_147, pv_148, pv_149, pv_150, pv_151, pv_152, pv_153, pv_154⟩ := cu_140
        obtain ⟨v_156, ev_156⟩ : ∃ v, pI S_131 902 Gs = v := ⟨_, rfl⟩
        have t_158 : At S_131 Gs 29 := hk_134.fr.at ha_95
        have rg_157 := gI_29_902 hO_137.1 t_158; rw [ev_156] at rg_157
        have pz_159 : (pI S_131 902 Gs).toInt = v_156.toInt := by rw [ev_156]
        have pz_160 : (pI S_131 902 Gs).toInt = v_156.toInt := (congrArg Int32.toInt ev_156).trans rfl
        obtain ⟨v_162, ev_162⟩ : ∃ v, pI S_131 800 s1 = v := ⟨_, rfl⟩
        have t_164 : At S_131 s1 8 := hk_134.fr.at ha_s1_L_80
        have rg_163 := gI_8_800 hO_137.1 t_164; rw [ev_162] at rg_163
        have pz_165 : (pI S_131 800 s1).toInt = v_162.toInt := by rw [ev_162]
        have pz_166 : (pI S_131 800 s1).toInt = v_162.toInt := (congrArg Int32.toInt ev_162).trans rfl
        have sl_167 := pv_149.1
        have sl_168 := pv_152.1
        refine lv_pop X.1 X.2.1 dX4_drawMetre_100 rfl ?_
        have px_169 : PotX S S_131 x R0 R1 R2 Gs := PotX_tr iv_83 ax_98 haR0 haR1 haR2 cu_141
        rw [hQQ]
        exact ret_gv X hw hr hlocks (by show c_132 ≤ Phc S + 8; omega) (by show n_133 ≤ Phs S + 15019; omega) (by omega) (by omega) ⟨hO_137, ⟨PotV_of (B := (cutF Ev (endsF Ev (i5_78_z).toNat (wdr (wg A (capG (qg A) ((qe A).map (fun c => (c, qpl A c))))) (qdr A + 1))))) ((drwF_c (by rw [← db_124]; omega)).trans (by rw [← db_124])) pv_144 pv_145 pv_146 pv_147 pv_148 pv_149 pv_150 pv_151 pv_152 pv_153 (inD_drw pv_11), px_169, PzI_c iv_85 (by omega) (by rw [← db_124]; omega) (by have hz := cz_143; rw [db_124] at hz; exact hz)⟩⟩ dX4_drawMetre_101
    · have z_b_170 := trivial
      have k_171 : i5_78_z < v_27.toInt := z_nle rfl hz_i5_78 c_121
      refine lv_aload_n X.1 X.2.1 dX4_drawMetre_63 rfl (lv_at hl 4 rfl) ?_
      refine lv_aload_n X.1 X.2.1 dX4_drawMetre_64 rfl (lv_at hl 4 rfl) ?_
      refine r_getR (g := 401) X hw ha_x_L_81 rfl 1 pr_96.2.1 (by decide) rfl inn_X4_drawMetre_4 (by decide) (X.2.2.2.1 (.fieldLink RX4 20 "SilkMill$Pot" "ends" "LSilkMill$Row;") (by decide +kernel)) rfl (gv_401 _ _) dX4_drawMetre_65 ?_
      refine k_q (rm := { frames := 2, cells := 0, slots := 0, locals := 96 }) (av := [.ref R1]) X hw (va_runV (As := []) (rest := [.ref x]) (cfix X) (k_X5_removeFirst5 l G cy κ T_79 _ R1 (qe (endsF Ev (i5_78_z).toNat (wdr (wg A (capG (qg A) ((qe A).map (fun c => (c, qpl A c))))) (qdr A + 1)))) 12 hO_T_79.1 ha_93 pv_101) (cwV 0 X.2.2.2.1 gX4_drawMetre_X5_removeFirst rfl rfl rfl (by decide +kernel) ⟨Nat.le_of_ble_eq_true rfl, Nat.le_of_ble_eq_true rfl⟩) (pre_V X hw _ ha_93 rfl (by decide) rfl) rfl rfl hl.1 rfl (lv_room (Nat.le_of_ble_eq_true rfl)) dX4_drawMetre_68 ⟨(by show cc_86 + 0 ≤ Phc S + 8; omega), (by show nn_87 + 0 ≤ Phs S + 15019; omega)⟩) cc_86 nn_87 (by show cc_86 + 0 ≤ cc_86; omega) (by show nn_87 + 0 ≤ nn_87; omega) (fun rr_172 S_173 H locs hp hw hfr hnw => ?_)
      obtain ⟨hk_174, hp⟩ := hp
      have ph_175 : cc_86 + Phc S_173 ≤ Phc S + 0 := by rw [show Phc S_173 = Phc T_79 from Ph_ok hO_T_79.1 hk_174 (by decide +kernel) (by decide +kernel) (by decide +kernel)]; exact hcc_88
      have ph_176 : nn_87 + Phs S_173 ≤ Phs S + 0 := by rw [show Phs S_173 = Phs T_79 from Ph_ok hO_T_79.1 hk_174 (by decide +kernel) (by decide +kernel) (by decide +kernel)]; exact hnn_89
      clear hcc_88
      clear hnn_89
      have hO_177 : Og eDM S S_173 := hO_T_79.call hk_174.og (by decide +kernel)
      obtain ⟨hs_178, hn_179, hx_180⟩ := hp
      rcases rr_172 with _ | q_181
      · refine W.eq (g2 := F0 m 71 ls (.null :: .ref x :: [])) rfl ?_
        obtain ⟨hL_182, eS_183⟩ := hn_179 rfl
        have rw_184 : RowIs S_173 R1 (qe (endsF Ev (i5_78_z).toNat (wdr (wg A (capG (qg A) ((qe A).map (fun c => (c, qpl A c))))) (qdr A + 1)))) 12 := by rw [eS_183]; exact pv_101
        refine lv_iload X.1 X.2.1 dX4_drawMetre_71 (lv_at hl 1 rfl) ?_
        have t_185 : At S_173 x 4 := hk_174.fr.at ha_x_L_81
        have dt_186 : ∀ c, D c → At S_173 c 0 := fun c h => hk_174.fr.at (dt_97 c h)
        have pr_187 : PotR S_173 x R0 R1 R2 Gs := PotR_fr hO_T_79.1 ha_x_L_81 hk_174.fr (by decide +kernel) pr_96
        have rw_188 : RowIs S_173 R0 (qb (endsF Ev (i5_78_z).toNat (wdr (wg A (capG (qg A) ((qe A).map (fun c => (c, qpl A c))))) (qdr A + 1)))) 600 := hx_180.2 _ hne.1 pr_96.2.2.2.2.2.1 _ _ pv_100
        have rw_189 : RowIs S_173 R2 (ql (endsF Ev (i5_78_z).toNat (wdr (wg A (capG (qg A) ((qe A).map (fun c => (c, qpl A c))))) (qdr A + 1)))) 600 := hx_180.2 _ (Ne.symm hne.2.2) (Ne.symm pr_96.2.2.2.2.2.2.2) _ _ pv_102
        have co_190 : CoP S_173 D (qpl (endsF Ev (i5_78_z).toNat (wdr (wg A (capG (qg A) ((qe A).map (fun c => (c, qpl A c))))) (qdr A + 1)))) (qsd (endsF Ev (i5_78_z).toNat (wdr (wg A (capG (qg A) ((qe A).map (fun c => (c, qpl A c))))) (qdr A + 1)))) := CoP_fr hk_174.fr dt_97 (by decide +kernel) pv_109
        have t_191 : pI S_173 405 x = (qst (endsF Ev (i5_78_z).toNat (wdr (wg A (capG (qg A) ((qe A).map (fun c => (c, qpl A c))))) (qdr A + 1)))) := hk_174.fr.I' (by decide +kernel) ha_x_L_81 pv_103
        have t_192 : pI S_173 406 x = (qse (endsF Ev (i5_78_z).toNat (wdr (wg A (capG (qg A) ((qe A).map (fun c => (c, qpl A c))))) (qdr A + 1)))) := hk_174.fr.I' (by decide +kernel) ha_x_L_81 pv_104
        have sg_193 : StV S_173 D Gs (qg (endsF Ev (i5_78_z).toNat (wdr (wg A (capG (qg A) ((qe A).map (fun c => (c, qpl A c))))) (qdr A + 1)))) := StV_fr hO_T_79.1 ha_95 hk_174.fr (by decide +kernel) pv_105
        have t_194 : pI S_173 407 x = (qdr (endsF Ev (i5_78_z).toNat (wdr (wg A (capG (qg A) ((qe A).map (fun c => (c, qpl A c))))) (qdr A + 1)))) := hk_174.fr.I' (by decide +kernel) ha_x_L_81 pv_106
        have t_195 : pI S_173 408 x = (qtk (endsF Ev (i5_78_z).toNat (wdr (wg A (capG (qg A) ((qe A).map (fun c => (c, qpl A c))))) (qdr A + 1)))) := hk_174.fr.I' (by decide +kernel) ha_x_L_81 pv_107
        have sk_196 : SkV S_173 D s1 (qsk (endsF Ev (i5_78_z).toNat (wdr (wg A (capG (qg A) ((qe A).map (fun c => (c, qpl A c))))) (qdr A + 1)))) := SkV_fr hO_T_79.1 ha_s1_L_80 hk_174.fr (by decide +kernel) pv_108
        have en_197 : EnC S_173 D x s1 Ev := EnC_fr hk_174.fr dt_97 ha_x_L_81 ha_s1_L_80 (by decide +kernel) en_99
        have t_198 : At S_173 s1 8 := hk_174.fr.at ha_s1_L_80
        refine k_gv (kc := 0) (ks := 0) (rm := { frames := 5, cells := Phc S_173 + 8, slots := Phs S_173 + 15019, locals := 240 }) (av := [.ref x, .null, .int (v_12)]) X hw (va_runV (As := [.null, .int (v_12)]) (rest := []) (cfix X) (k_X4_drawEnd5 l G cy κ S_173 _ _ x none (v_12) (v_12.toInt) D R0 R1 R2 Gs s1 (endsF Ev (i5_78_z).toNat (wdr (wg A (capG (qg A) ((qe A).map (fun c => (c, qpl A c))))) (qdr A + 1))) Ev hO_177.1 t_185 (fun q h => by cases h) rfl dt_186 pr_187 (PotV_of (rfl : (endsF Ev (i5_78_z).toNat (wdr (wg A (capG (qg A) ((qe A).map (fun c => (c, qpl A c))))) (qdr A + 1))) = (endsF Ev (i5_78_z).toNat (wdr (wg A (capG (qg A) ((qe A).map (fun c => (c, qpl A c))))) (qdr A + 1)))) rw_188 rw_184 rw_189 t_191 t_192 sg_193 t_194 t_195 sk_196 co_190 pv_110) en_197 t_198 (fun q h => by cases h)) (cwV 2 X.2.2.2.1 gX4_drawMetre_X4_drawEnd rfl rfl rfl (by decide +kernel) ⟨Nat.le_of_ble_eq_true rfl, Nat.le_of_ble_eq_true rfl⟩) (pre_gV X hw _ t_185 rfl (by decide) rfl) rfl rfl hl.1 rfl (lv_room (Nat.le_of_ble_eq_true rfl)) dX4_drawMetre_73 ⟨(by show cc_86 + (Phc S_173 + 8) ≤ Phc S + 8; omega), (by show nn_87 + (Phs S_173 + 15019) ≤ Phs S + 15019; omega)⟩) (fun S_200 H locs c_201 n_202 hc_201 hn_202 hp hw => ?_)
        obtain ⟨hk_203, hp⟩ := hp
        have ph_204 : c_201 + Phc S_200 ≤ Phc S + 0 := by omega
        have ph_205 : n_202 + Phs S_200 ≤ Phs S + 0 := by omega
        clear ph_175
        clear ph_176
        clear hc_201
        clear hn_202
        have hO_206 : Og eDM S S_200 := hO_177.call hk_203 (by decide +kernel)
        obtain ⟨de_207, de_208, de_209, eo_211⟩ := hp
        have de_210 := de_207 rfl
        obtain ⟨pv_212, pv_213, pv_214, pv_215, pv_216, pv_217, pv_218, pv_219, pv_220, pv_221, pv_222⟩ := de_210
        have t_223 : pI S_173 902 Gs = v_111 := hk_174.fr.I' (by decide +kernel) ha_95 ev_111
        have t_225 : At S_173 Gs 29 := hk_174.fr.at ha_95
        have t_224 : pI S_200 902 Gs = v_111 := hk_203.fr.I' (by decide +kernel) t_225 t_223
        have pz_226 : (pI S_200 902 Gs).toInt = v_111.toInt := (congrArg Int32.toInt t_224).trans rfl
        have t_227 : pI S_173 800 s1 = v_115 := hk_174.fr.I' (by decide +kernel) ha_s1_L_80 ev_115
        have t_228 : pI S_200 800 s1 = v_115 := hk_203.fr.I' (by decide +kernel) t_198 t_227
        have pz_229 : (pI S_200 800 s1).toInt = v_115.toInt := (congrArg Int32.toInt t_228).trans rfl
        have sl_230 := pv_217.1
        have sl_231 := pv_220.1
        obtain ⟨x_232, ex_232⟩ : ∃ y : Int32, y = i5_78 + 1 := ⟨_, rfl⟩
        have z_233 : x_232.toInt = i5_78_z + 1 := z_add ex_232 hz_i5_78 ti_1 (by omega) (by omega)
        refine lv_iinc (v := x_232) (lv' := [(5, .int (x_232)), (4, .int (v_12)), (3, .int (v_27)), (2, .int (rr_22)), (0, .ref x), (1, .ref s1)]) X.1 X.2.1 dX4_drawMetre_76 hl (k := 0) rfl (by rw [ex_232]; rfl) (by decide) rfl (fun ls hl => ?_)
        refine lv_goto (tgt := 57) X.1 X.2.1 dX4_drawMetre_79 (by decide) ?_
        have t_234 : At S_200 s1 8 := hk_203.fr.at t_198
        have t_235 : At S_200 x 4 := hk_203.fr.at t_185
        have px_236 : PotX S S_173 x R0 R1 R2 Gs := PotX_row iv_83 ax_98 haR0 haR1 haR2 (Or.inr (Or.inl rfl)) hx_180 hk_174.fr (by decide +kernel)
        have ax_238 : ∀ a k, At S a k → At S_173 a k := fun a k h => hk_174.fr.at (ax_98 a k h)
        have px_237 : PotX S S_200 x R0 R1 R2 Gs := PotX_tr px_236 ax_238 haR0 haR1 haR2 de_209
        exact ih _ (by omega) _ _ _ _ (x_232) (x_232.toInt) (c_201) (n_202) rfl hw rfl (by omega) t_234 t_235 hO_206 (PotV_of (show endsF Ev (x_232.toInt).toNat (wdr (wg A (capG (qg A) ((qe A).map (fun c => (c, qpl A c))))) (qdr A + 1)) = (endsF Ev (i5_78_z).toNat (wdr (wg A (capG (qg A) ((qe A).map (fun c => (c, qpl A c))))) (qdr A + 1))) by rw [show (x_232.toInt).toNat = (i5_78_z).toNat + 1 by omega]; exact stpF_n hL_182) pv_212 pv_213 pv_214 pv_215 pv_216 pv_217 pv_218 pv_219 pv_220 pv_221 (inD_ends (A := (wdr (wg A (capG (qg A) ((qe A).map (fun c => (c, qpl A c))))) (qdr A + 1))) pv_11 _)) px_237 (by omega) (PzI_n (E := Ev) (A := A) (j := (i5_78_z).toNat) (by omega) hL_182).elim (by omega) (by omega) (lv_sub hl [0, 1, 2, 3, 4, 5] rfl)
      · refine W.eq (g2 := F0 m 71 ls (.ref q_181 :: .ref x :: [])) rfl ?_
        obtain ⟨ha_239, t_240, hL_241, hr_242⟩ := hs_178 _ rfl
        refine lv_iload X.1 X.2.1 dX4_drawMetre_71 (lv_at hl 1 rfl) ?_
        have id_243 : InD D (we (endsF Ev (i5_78_z).toNat (wdr (wg A (capG (qg A) ((qe A).map (fun c => (c, qpl A c))))) (qdr A + 1))) t_240) := inD_tl pv_110 hL_241
        have t_244 : At S_173 x 4 := hk_174.fr.at ha_x_L_81
        have dt_245 : ∀ c, D c → At S_173 c 0 := fun c h => hk_174.fr.at (dt_97 c h)
        have pr_246 : PotR S_173 x R0 R1 R2 Gs := PotR_fr hO_T_79.1 ha_x_L_81 hk_174.fr (by decide +kernel) pr_96
        have rw_247 : RowIs S_173 R0 (qb (endsF Ev (i5_78_z).toNat (wdr (wg A (capG (qg A) ((qe A).map (fun c => (c, qpl A c))))) (qdr A + 1)))) 600 := hx_180.2 _ hne.1 pr_96.2.2.2.2.2.1 _ _ pv_100
        have rw_248 : RowIs S_173 R2 (ql (endsF Ev (i5_78_z).toNat (wdr (wg A (capG (qg A) ((qe A).map (fun c => (c, qpl A c))))) (qdr A + 1)))) 600 := hx_180.2 _ (Ne.symm hne.2.2) (Ne.symm pr_96.2.2.2.2.2.2.2) _ _ pv_102
        have co_249 : CoP S_173 D (qpl (endsF Ev (i5_78_z).toNat (wdr (wg A (capG (qg A) ((qe A).map (fun c => (c, qpl A c))))) (qdr A + 1)))) (qsd (endsF Ev (i5_78_z).toNat (wdr (wg A (capG (qg A) ((qe A).map (fun c => (c, qpl A c))))) (qdr A + 1)))) := CoP_fr hk_174.fr dt_97 (by decide +kernel) pv_109
        have t_250 : pI S_173 405 x = (qst (endsF Ev (i5_78_z).toNat (wdr (wg A (capG (qg A) ((qe A).map (fun c => (c, qpl A c))))) (qdr A + 1)))) := hk_174.fr.I' (by decide +kernel) ha_x_L_81 pv_103
        have t_251 : pI S_173 406 x = (qse (endsF Ev (i5_78_z).toNat (wdr (wg A (capG (qg A) ((qe A).map (fun c => (c, qpl A c))))) (qdr A + 1)))) := hk_174.fr.I' (by decide +kernel) ha_x_L_81 pv_104
        have sg_252 : StV S_173 D Gs (qg (endsF Ev (i5_78_z).toNat (wdr (wg A (capG (qg A) ((qe A).map (fun c => (c, qpl A c))))) (qdr A + 1)))) := StV_fr hO_T_79.1 ha_95 hk_174.fr (by decide +kernel) pv_105
        have t_253 : pI S_173 407 x = (qdr (endsF Ev (i5_78_z).toNat (wdr (wg A (capG (qg A) ((qe A).map (fun c => (c, qpl A c))))) (qdr A + 1)))) := hk_174.fr.I' (by decide +kernel) ha_x_L_81 pv_106
        have t_254 : pI S_173 408 x = (qtk (endsF Ev (i5_78_z).toNat (wdr (wg A (capG (qg A) ((qe A).map (fun c => (c, qpl A c))))) (qdr A + 1)))) := hk_174.fr.I' (by decide +kernel) ha_x_L_81 pv_107
        have sk_255 : SkV S_173 D s1 (qsk (endsF Ev (i5_78_z).toNat (wdr (wg A (capG (qg A) ((qe A).map (fun c => (c, qpl A c))))) (qdr A + 1)))) := SkV_fr hO_T_79.1 ha_s1_L_80 hk_174.fr (by decide +kernel) pv_108
        have en_256 : EnC S_173 D x s1 Ev := EnC_fr hk_174.fr dt_97 ha_x_L_81 ha_s1_L_80 (by decide +kernel) en_99
        have t_257 : At S_173 s1 8 := hk_174.fr.at ha_s1_L_80
        refine k_gv (kc := 0) (ks := 0) (rm := { frames := 5, cells := Phc S_173 + 8, slots := Phs S_173 + 15019, locals := 240 }) (av := [.ref x, .ref q_181, .int (v_12)]) X hw (va_runV (As := [.ref q_181, .int (v_12)]) (rest := []) (cfix X) (k_X4_drawEnd5 l G cy κ S_173 _ _ x (some q_181) (v_12) (v_12.toInt) D R0 R1 R2 Gs s1 (we (endsF Ev (i5_78_z).toNat (wdr (wg A (capG (qg A) ((qe A).map (fun c => (c, qpl A c))))) (qdr A + 1))) t_240) Ev hO_177.1 t_244 (fun q h => by cases h; exact ha_239) rfl dt_245 pr_246 (PotV_of (rfl : (we (endsF Ev (i5_78_z).toNat (wdr (wg A (capG (qg A) ((qe A).map (fun c => (c, qpl A c))))) (qdr A + 1))) t_240) = (we (endsF Ev (i5_78_z).toNat (wdr (wg A (capG (qg A) ((qe A).map (fun c => (c, qpl A c))))) (qdr A + 1))) t_240)) rw_247 hr_242 rw_248 t_250 t_251 sg_252 t_253 t_254 sk_255 co_249 id_243) en_256 t_257 (fun q h => by cases h; exact pv_110 _ (Or.inr (Or.inl (by rw [hL_241]; exact List.mem_cons_self))))) (cwV 2 X.2.2.2.1 gX4_drawMetre_X4_drawEnd rfl rfl rfl (by decide +kernel) ⟨Nat.le_of_ble_eq_true rfl, Nat.le_of_ble_eq_true rfl⟩) (pre_gV X hw _ t_244 rfl (by decide) rfl) rfl rfl hl.1 rfl (lv_room (Nat.le_of_ble_eq_true rfl)) dX4_drawMetre_73 ⟨(by show cc_86 + (Phc S_173 + 8) ≤ Phc S + 8; omega), (by show nn_87 + (Phs S_173 + 15019) ≤ Phs S + 15019; omega)⟩) (fun S_259 H locs c_260 n_261 hc_260 hn_261 hp hw => ?_)
        obtain ⟨hk_262, hp⟩ := hp
        have ph_263 : c_260 + Phc S_259 ≤ Phc S + 0 := by omega
        have ph_264 : n_261 + Phs S_259 ≤ Phs S + 0 := by omega
        clear ph_175
        clear ph_176
        clear hc_260
        clear hn_261
        have hO_265 : Og eDM S S_259 := hO_177.call hk_262 (by decide +kernel)
        obtain ⟨de_266, de_267, de_268, eo_270⟩ := hp
        have de_269 := de_267 _ rfl
        obtain ⟨pv_271, pv_272, pv_273, pv_274, pv_275, pv_276, pv_277, pv_278, pv_279, pv_280, pv_281⟩ := de_269
        have t_282 : pI S_173 902 Gs = v_111 := hk_174.fr.I' (by decide +kernel) ha_95 ev_111
        have t_284 : At S_173 Gs 29 := hk_174.fr.at ha_95
        have t_283 : pI S_259 902 Gs = v_111 := hk_262.fr.I' (by decide +kernel) t_284 t_282
        have pz_285 : (pI S_259 902 Gs).toInt = v_111.toInt := (congrArg Int32.toInt t_283).trans rfl
        have t_286 : pI S_173 800 s1 = v_115 := hk_174.fr.I' (by decide +kernel) ha_s1_L_80 ev_115
        have t_287 : pI S_259 800 s1 = v_115 := hk_262.fr.I' (by decide +kernel) t_257 t_286
        have pz_288 : (pI S_259 800 s1).toInt = v_115.toInt := (congrArg Int32.toInt t_287).trans rfl
        have sl_289 := pv_276.1
        have sl_290 := pv_279.1
        obtain ⟨x_291, ex_291⟩ : ∃ y : Int32, y = i5_78 + 1 := ⟨_, rfl⟩
        have z_292 : x_291.toInt = i5_78_z + 1 := z_add ex_291 hz_i5_78 ti_1 (by omega) (by omega)
        refine lv_iinc (v := x_291) (lv' := [(5, .int (x_291)), (4, .int (v_12)), (3, .int (v_27)), (2, .int (rr_22)), (0, .ref x), (1, .ref s1)]) X.1 X.2.1 dX4_drawMetre_76 hl (k := 0) rfl (by rw [ex_291]; rfl) (by decide) rfl (fun ls hl => ?_)
        refine lv_goto (tgt := 57) X.1 X.2.1 dX4_drawMetre_79 (by decide) ?_
        have t_293 : At S_259 s1 8 := hk_262.fr.at t_257
        have t_294 : At S_259 x 4 := hk_262.fr.at t_244
        have px_295 : PotX S S_173 x R0 R1 R2 Gs := PotX_row iv_83 ax_98 haR0 haR1 haR2 (Or.inr (Or.inl rfl)) hx_180 hk_174.fr (by decide +kernel)
        have ax_297 : ∀ a k, At S a k → At S_173 a k := fun a k h => hk_174.fr.at (ax_98 a k h)
        have px_296 : PotX S S_259 x R0 R1 R2 Gs := PotX_tr px_295 ax_297 haR0 haR1 haR2 de_268
        exact ih _ (by omega) _ _ _ _ (x_291) (x_291.toInt) (c_260) (n_261) rfl hw rfl (by omega) t_293 t_294 hO_265 (PotV_of (show endsF Ev (x_291.toInt).toNat (wdr (wg A (capG (qg A) ((qe A).map (fun c => (c, qpl A c))))) (qdr A + 1)) = (endF Ev (we (endsF Ev (i5_78_z).toNat (wdr (wg A (capG (qg A) ((qe A).map (fun c => (c, qpl A c))))) (qdr A + 1))) t_240) q_181) by rw [show (x_291.toInt).toNat = (i5_78_z).toNat + 1 by omega]; exact stpF_c hL_241) pv_271 pv_272 pv_273 pv_274 pv_275 pv_276 pv_277 pv_278 pv_279 pv_280 (inD_ends (A := (wdr (wg A (capG (qg A) ((qe A).map (fun c => (c, qpl A c))))) (qdr A + 1))) pv_11 _)) px_296 (by omega) (by rw [show (x_291.toInt).toNat = (i5_78_z).toNat + 1 by omega]; exact PzI_s hO_T_79.1 hO_177.1 ha_95 ha_s1_L_80 iv_85 (PzF_fr hO_T_79.1 ha_s1_L_80 hk_174.fr (by decide +kernel)) (eo_270 _ rfl) (by omega) (row_le hG haR1 hp_2.2.1) hL_241 (co_249 _ (pv_110 _ (Or.inr (Or.inl (by rw [hL_241]; exact List.mem_cons_self))))).1 (by omega)) (by omega) (by omega) (lv_sub hl [0, 1, 2, 3, 4, 5] rfl)
  have t_298 : At S_61 s1 8 := tAt_sI eS_61 t_54
  have t_299 : At S_72 s1 8 := tAt_sI eS_72 t_298
  have t_300 : At S_72 x 4 := tAt_sI eS_72 t_67
  have rw_301 : RowIs S_40 R0 (qb A) 600 := RowIs_fr hO.1 haR0 hk_41.fr (by decide +kernel) pv_1
  have rw_302 : RowIs S_61 R0 (qb A) 600 := RowIs_sI rw_301 eS_61 (by decide) (by decide)
  have rw_303 : RowIs S_72 R0 (qb A) 600 := RowIs_sI rw_302 eS_72 (by decide) (by decide)
  have rw_304 : RowIs S_40 R1 (qe A) 12 := RowIs_fr hO.1 haR1 hk_41.fr (by decide +kernel) pv_2
  have rw_305 : RowIs S_61 R1 (qe A) 12 := RowIs_sI rw_304 eS_61 (by decide) (by decide)
  have rw_306 : RowIs S_72 R1 (qe A) 12 := RowIs_sI rw_305 eS_72 (by decide) (by decide)
  have rw_307 : RowIs S_40 R2 (ql A) 600 := RowIs_fr hO.1 haR2 hk_41.fr (by decide +kernel) pv_3
  have rw_308 : RowIs S_61 R2 (ql A) 600 := RowIs_sI rw_307 eS_61 (by decide) (by decide)
  have rw_309 : RowIs S_72 R2 (ql A) 600 := RowIs_sI rw_308 eS_72 (by decide) (by decide)
  have co_310 : CoP S_40 D (qpl A) (qsd A) := CoP_fr hk_41.fr hp_0 (by decide +kernel) pv_10
  have co_311 : CoP S_61 D (qpl A) (qsd A) := CoP_sI co_310 eS_61 (by decide) (by decide)
  have co_312 : CoP S_72 D (qpl A) (qsd A) := CoP_sI co_311 eS_72 (by decide) (by decide)
  have t_313 : pI S_40 405 x = (qst A) := hk_41.fr.I' (by decide +kernel) ha_x pv_4
  have t_314 : pI S_61 405 x = (qst A) := tI_sI eS_61 rfl t_313
  have t_315 : pI S_72 405 x = (qst A) := tI_sI eS_72 rfl t_314
  have t_316 : pI S_40 406 x = (qse A) := hk_41.fr.I' (by decide +kernel) ha_x pv_5
  have t_317 : pI S_61 406 x = (qse A) := tI_sI eS_61 rfl t_316
  have t_318 : pI S_72 406 x = (qse A) := tI_sI eS_72 rfl t_317
  have sg_319 : StV S_61 D Gs (capG (qg A) ((qe A).map (fun c => (c, qpl A c)))) := StV_sI sg_47 eS_61 (by decide)
  have sg_320 : StV S_72 D Gs (capG (qg A) ((qe A).map (fun c => (c, qpl A c)))) := StV_sI sg_319 eS_72 (by decide)
  have t_321 : pI S_40 408 x = (qtk A) := hk_41.fr.I' (by decide +kernel) ha_x pv_8
  have t_322 : pI S_61 408 x = (qtk A) := tI_sI eS_61 rfl t_321
  have t_323 : pI S_72 408 x = (qtk A) := tI_sI eS_72 rfl t_322
  have sk_324 : SkV S_40 D s1 (qsk A) := (SkV_cap hO.1 ha_s1 haGs hk_41.fr am_45 am_46 pv_9)
  have sk_325 : SkV S_61 D s1 (qsk A) := SkV_sI hO_44.1 t_54 sk_324 eS_61 (by decide)
  have t_327 : At S_61 s1 8 := tAt_sI eS_61 t_54
  have sk_326 : SkV S_72 D s1 (qsk A) := SkV_sI hO_64.1 t_327 sk_325 eS_72 (by decide)
  have px_328 : PotX S S_40 x R0 R1 R2 Gs := PotX_st (PotX_rf S x R0 R1 R2 Gs) (fun _ _ h => h) hO.1 hk_41.fr (by decide +kernel) (StX_cap hO.1 am_45 am_46)
  have px_329 : PotX S S_61 x R0 R1 R2 Gs := PotX_sI px_328 eS_61 (by decide)
  have px_330 : PotX S S_72 x R0 R1 R2 Gs := PotX_sx px_329 eS_72 (by decide)
  have pt_331 : PzT S S_40 D Gs s1 A A := PzT_tr (PzT_rf S D Gs s1 A) (PzT_mv hO.1 haGs ha_s1 (PzF_fr hO.1 ha_s1 hk_41.fr (by decide +kernel)) rfl rfl (fun _ => Nat.le_refl _))
  have pt_332 : PzT S S_61 D Gs s1 A A := PzT_tr pt_331 (PzT_mv hO_44.1 t_51 t_54 (PzF_sI hO_44.1 t_54 eS_61 (by decide)) rfl rfl (fun _ => Nat.le_refl _))
  have t_334 : At S_61 Gs 29 := tAt_sI eS_61 t_51
  have pt_333 : PzT S S_72 D Gs s1 A A := PzT_tr pt_332 (PzT_mv hO_64.1 t_334 t_327 (PzF_sI hO_64.1 t_327 eS_72 (by decide)) rfl rfl (fun _ => Nat.le_refl _))
  exact L_77 _ _ _ _ _ (0) (0) (0) (0) rfl hw ti_0 (by omega) t_299 t_300 hO_75 (PotV_of (rfl : endsF Ev (0 : Int).toNat (wdr (wg A (capG (qg A) ((qe A).map (fun c => (c, qpl A c))))) (qdr A + 1)) = (wdr (wg A (capG (qg A) ((qe A).map (fun c => (c, qpl A c))))) (qdr A + 1))) rw_303 rw_306 rw_309 t_315 t_318 sg_320 (h_76.trans ev_70) t_323 sk_326 co_312 (show InD D (wdr (wg A (capG (qg A) ((qe A).map (fun c => (c, qpl A c))))) (qdr A + 1)) from pv_11)) px_330 (by omega) (PzI_0 (PzT_e (rfl : A = A) pt_333)) (by omega) (by omega) (lv_sub hl [0, 1, 2, 3, 4, 5] rfl)
