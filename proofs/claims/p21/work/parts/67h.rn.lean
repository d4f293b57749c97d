
set_option maxHeartbeats 4000000 in
set_option maxRecDepth 100000 in
theorem k_X4_drawMetre5 (l : Launch) (G : va_G) (cy : Nat → ClassId) (κ : Nat → Nat) (S : PS) (sz hz : Nat) (x : Nat) (s1 : Nat) (D : Nat → Prop) (R0 : Nat) (R1 : Nat) (R2 : Nat) (Gs : Nat) (A : Pt) (Ev : En) (hG : GX S) (ha_x : At S x 4) (ha_s1 : At S s1 8) (hp_0 : (∀ c, D c → At S c 0)) (hp_1 : PotR S x R0 R1 R2 Gs) (hp_2 : PotV S D x R0 R1 R2 Gs s1 A) (hp_3 : EnC S D x s1 Ev) : Gv l yX4_drawMetre wsX4_drawMetre ({ frames := 6, cells := Phc S + 8, slots := Phs S + 15019, locals := 288 }) G cy κ S sz hz 0 0 [.ref x, .ref s1] (fun (S9 : PS) => Og eDM S S9 ∧ (PotV S9 D x R0 R1 R2 Gs s1 (drwF Ev A) ∧ PotX S S9 x R0 R1 R2 Gs)) := by
  refine ent_g (cc := cX4_drawMetre) (maxL := 6) (ret := none) (by decide) rfl (Nat.le_of_ble_eq_true rfl) ?_
  intro p e s m below meth c ls X hr hlocks hin hw hl hsz hhz
  subst hsz hhz
  have X : Cx p c cX4_drawMetre 6 s [.ref x, .ref s1].toArray wsX4_drawMetre RX4 m G cy κ (AS S s.heap.size) := X
  have hl : lv_has ls 6 [(0, .ref x), (1, .ref s1)] := hl
  have hpc0 : 0 + Phc S ≤ Phc S + 0 := by omega
  have hps0 : 0 + Phs S ≤ Phs S + 0 := by omega
  have hO : Og eDM S S := Og.rf hG
  generalize hQQ : MQ below _ _ _ _ _ _ = QQ
  replace hQQ := hQQ.symm
  have hpr := hp_1
  obtain ⟨hr0, hr1, hr2, hr3, hne, hcn⟩ := hpr
  have haR0 := row_at hG ha_x (Or.inl hr0)
  have haR1 := row_at hG ha_x (Or.inr (Or.inl hr1))
  have haR2 := row_at hG ha_x (Or.inr (Or.inr hr2))
  have haGs : At S Gs 29 := by obtain ⟨c, k1, k2⟩ := gQ_4_403 hG ha_x; have h3 := hr3; rw [k1] at h3; cases h3; exact k2
  have hpv := hp_2
  obtain ⟨pv_1, pv_2, pv_3, pv_4, pv_5, pv_6, pv_7, pv_8, pv_9, pv_10, pv_11⟩ := hpv
  obtain ⟨v_12, ev_12⟩ : ∃ v, pI S 902 Gs = v := ⟨_, rfl⟩
  have rg_13 := gI_29_902 hO.1 haGs; rw [ev_12] at rg_13
  have pz_14 : (pI S 902 Gs).toInt = v_12.toInt := by rw [ev_12]
  have pz_15 : (pI S 902 Gs).toInt = v_12.toInt := (congrArg Int32.toInt ev_12).trans rfl
  obtain ⟨v_16, ev_16⟩ : ∃ v, pI S 800 s1 = v := ⟨_, rfl⟩
  have rg_17 := gI_8_800 hO.1 ha_s1; rw [ev_16] at rg_17
  have pz_18 : (pI S 800 s1).toInt = v_16.toInt := by rw [ev_16]
  have pz_19 : (pI S 800 s1).toInt = v_16.toInt := (congrArg Int32.toInt ev_16).trans rfl
  have sl_20 := pv_6.1
  have sl_21 := pv_9.1
  refine lv_aload_n X.1 X.2.1 dX4_drawMetre_0 rfl (lv_at hl 0 rfl) ?_
  refine r_getR (g := 401) X hw ha_x rfl 1 hr1 (by decide) rfl inn_X4_drawMetre_4 (by decide) (X.2.2.2.1 (.fieldLink RX4 20 "SilkMill$Pot" "ends" "LSilkMill$Row;") (by decide +kernel)) rfl (gv_401 _ _) dX4_drawMetre_1 ?_
  refine k_i (rm := { frames := 3, cells := 0, slots := 0, locals := 144 }) (av := [.ref R1]) X hw (va_runV (As := []) (rest := []) (cfix X) (k_X5_sumOfFineness5 l G cy κ S _ R1 (qe A) 12 hO.1 haR1 pv_2) (cwV 0 X.2.2.2.1 gX4_drawMetre_X5_sumOfFineness rfl rfl rfl (by decide +kernel) ⟨Nat.le_of_ble_eq_true rfl, Nat.le_of_ble_eq_true rfl⟩) (pre_V X hw _ haR1 rfl (by decide) rfl) rfl rfl hl.1 rfl (lv_room (Nat.le_of_ble_eq_true rfl)) dX4_drawMetre_4 ⟨(by show 0 + 0 ≤ Phc S + 8; omega), (by show 0 + 0 ≤ Phs S + 15019; omega)⟩) 0 0 (by show 0 + 0 ≤ 0; omega) (by show 0 + 0 ≤ 0; omega) (fun rr_22 S_23 H locs hp hw hfr hnw => ?_)
  obtain ⟨e2, hp⟩ := hp
  subst e2
  obtain ⟨su_24, su_25, su_26⟩ := hp
  refine lv_istore_n (lv' := [(2, .int (rr_22)), (0, .ref x), (1, .ref s1)]) X.1 X.2.1 dX4_drawMetre_7 rfl hl (by decide) rfl (fun ls hl => ?_)
  refine lv_aload_n X.1 X.2.1 dX4_drawMetre_8 rfl (lv_at hl 1 rfl) ?_
  refine r_getR (g := 401) X hw ha_x rfl 1 hr1 (by decide) rfl inn_X4_drawMetre_4 (by decide) (X.2.2.2.1 (.fieldLink RX4 20 "SilkMill$Pot" "ends" "LSilkMill$Row;") (by decide +kernel)) rfl (gv_401 _ _) dX4_drawMetre_9 ?_
  obtain ⟨v_27, ev_27⟩ : ∃ v, pI S 500 R1 = v := ⟨_, rfl⟩
  obtain ⟨q_29, n_30, h_31, h_32, h_33, h_34, h_35⟩ := gRowQ hO.1 haR1
  have rg_28 := gRow_500 hO.1 haR1 h_31 h_33; rw [ev_27] at rg_28
  have pz_36 : (pI S 500 R1).toInt = v_27.toInt := by rw [ev_27]
  refine r_getI (g := 500) (x := v_27) X hw haR1 rfl 0 ev_27 (by decide) rfl inn_X4_drawMetre_5 (by decide) (X.2.2.2.1 (.fieldLink RX4 73 "SilkMill$Row" "size" "I") (by decide +kernel)) rfl (gv_500 _ _) dX4_drawMetre_12 ?_
  have sz_37 := RowIs_sz pv_2
  have pz_38 : (pI S 500 R1).toInt = v_27.toInt := (congrArg Int32.toInt ev_27).trans rfl
  refine lv_istore_n (lv' := [(3, .int (v_27)), (2, .int (rr_22)), (0, .ref x), (1, .ref s1)]) X.1 X.2.1 dX4_drawMetre_15 rfl hl (by decide) rfl (fun ls hl => ?_)
  refine lv_aload_n X.1 X.2.1 dX4_drawMetre_16 rfl (lv_at hl 2 rfl) ?_
  refine r_getR (g := 403) X hw ha_x rfl 3 hr3 (by decide) rfl inn_X4_drawMetre_4 (by decide) (X.2.2.2.1 (.fieldLink RX4 29 "SilkMill$Pot" "strand" "LSilkMill$Strand;") (by decide +kernel)) rfl (gv_403 _ _) dX4_drawMetre_17 ?_
  refine r_getI (g := 902) (x := v_12) X hw haGs rfl 2 ev_12 (by decide) rfl inn_X4_drawMetre_9 (by decide) (X.2.2.2.1 (.fieldLink RX4 79 "SilkMill$Strand" "metres" "I") (by decide +kernel)) rfl (gv_902 _ _) dX4_drawMetre_20 ?_
  refine lv_istore (lv' := [(4, .int (v_12)), (3, .int (v_27)), (2, .int (rr_22)), (0, .ref x), (1, .ref s1)]) X.1 X.2.1 dX4_drawMetre_23 hl (by decide) rfl (fun ls hl => ?_)
  refine lv_aload_n X.1 X.2.1 dX4_drawMetre_25 rfl (lv_at hl 3 rfl) ?_
  refine r_getR (g := 403) X hw ha_x rfl 3 hr3 (by decide) rfl inn_X4_drawMetre_4 (by decide) (X.2.2.2.1 (.fieldLink RX4 29 "SilkMill$Pot" "strand" "LSilkMill$Strand;") (by decide +kernel)) rfl (gv_403 _ _) dX4_drawMetre_26 ?_
  refine lv_iload_n X.1 X.2.1 dX4_drawMetre_29 rfl (lv_at hl 2 rfl) ?_
  refine lv_iload_n X.1 X.2.1 dX4_drawMetre_30 rfl (lv_at hl 1 rfl) ?_
  refine k_v (rm := { frames := 1, cells := 0, slots := 0, locals := 48 }) (av := [.ref Gs, .int (rr_22), .int (v_27)]) X hw (va_runV (As := [.int (rr_22), .int (v_27)]) (rest := []) (cfix X) (k_X9_addMetre7 l G cy κ S _ Gs (rr_22) (rr_22.toInt) (v_27) (v_27.toInt) hO.1 haGs rfl rfl) (cwV 2 X.2.2.2.1 gX4_drawMetre_X9_addMetre rfl rfl rfl (by decide +kernel) ⟨Nat.le_of_ble_eq_true rfl, Nat.le_of_ble_eq_true rfl⟩) (pre_V X hw _ haGs rfl (by decide) rfl) rfl rfl hl.1 rfl (lv_room (Nat.le_of_ble_eq_true rfl)) dX4_drawMetre_31 ⟨(by show 0 + 0 ≤ Phc S + 8; omega), (by show 0 + 0 ≤ Phs S + 15019; omega)⟩) 0 0 (by show 0 + 0 ≤ 0; omega) (by show 0 + 0 ≤ 0; omega) (fun S_40 H locs hp hw hfr hnw => ?_)
  obtain ⟨hk_41, hp⟩ := hp
  have ph_42 : 0 + Phc S_40 ≤ Phc S + 0 := by rw [show Phc S_40 = Phc S from Ph_ok hO.1 hk_41 (by decide +kernel) (by decide +kernel) (by decide +kernel)]; exact hpc0
  have ph_43 : 0 + Phs S_40 ≤ Phs S + 0 := by rw [show Phs S_40 = Phs S from Ph_ok hO.1 hk_41 (by decide +kernel) (by decide +kernel) (by decide +kernel)]; exact hps0
  clear hpc0
  clear hps0
  have hO_44 : Og eDM S S_40 := hO.call hk_41.og (by decide +kernel)
  obtain ⟨am_45, am_46⟩ := hp
  have sg_47 : StV S_40 D Gs (capG (qg A) ((qe A).map (fun c => (c, qpl A c)))) := (StV_cap hO.1 haGs am_45 am_46 (su_26.trans (mt_su (fun c hc => (pv_10 c (pv_11 c (Or.inr (Or.inl hc)))).1)).symm) (by rw [List.length_map]; omega) (fun z hz => by obtain ⟨c, h1, h2⟩ := List.mem_map.mp hz; rw [← h2]; exact ⟨pv_11 c (Or.inr (Or.inl h1)), hp_0 c (pv_11 c (Or.inr (Or.inl h1)))⟩) pv_6)
  have sl_48 := sg_47.1
  obtain ⟨v_49, ev_49⟩ : ∃ v, pI S_40 902 Gs = v := ⟨_, rfl⟩
  have t_51 : At S_40 Gs 29 := hk_41.fr.at haGs
  have rg_50 := gI_29_902 hO_44.1 t_51; rw [ev_49] at rg_50
  have pz_52 : (pI S_40 902 Gs).toInt = v_49.toInt := by rw [ev_49]
  have pz_53 : (pI S_40 902 Gs).toInt = v_49.toInt := (congrArg Int32.toInt ev_49).trans rfl
  refine lv_aload_n X.1 X.2.1 dX4_drawMetre_34 rfl (lv_at hl 4 rfl) ?_
  refine lv_dup X.1 X.2.1 dX4_drawMetre_35 rfl ?_
  have t_54 : At S_40 s1 8 := hk_41.fr.at ha_s1
  obtain ⟨v_55, ev_55⟩ : ∃ v, pI S_40 802 s1 = v := ⟨_, rfl⟩
  have rg_57 := And.intro (z_lo v_55) (z_hi v_55)
  have pz_58 : (pI S_40 802 s1).toInt = v_55.toInt := by rw [ev_55]
  refine r_getI (g := 802) (x := v_55) X hw t_54 rfl 2 ev_55 (by decide) rfl inn_X4_drawMetre_8 (by decide) (X.2.2.2.1 (.fieldLink RX4 197 "SilkMill$Store" "silkDrawn" "I") (by decide +kernel)) rfl (gv_802 _ _) dX4_drawMetre_36 ?_
  refine lv_iload_n X.1 X.2.1 dX4_drawMetre_39 rfl (lv_at hl 2 rfl) ?_
  refine lv_iadd X.1 X.2.1 dX4_drawMetre_40 ?_
  refine lv_topi (fun v_59 ev_59 => ?_)
  have rg_60 := And.intro (z_lo v_59) (z_hi v_59)
  refine r_putI (v := v_59) X hw t_54 rfl 2 802 tyX8 (by decide) rfl inn_X4_drawMetre_8 tyX8_ok nmX8 (by decide) (X.2.2.2.1 (.fieldLink RX4 197 "SilkMill$Store" "silkDrawn" "I") (by decide +kernel)) rfl (Or.inl rfl) rfl rfl (Nat.le_of_ble_eq_true rfl) (st_802 _ _) dX4_drawMetre_41 (fun H locs hw => ?_)
  obtain ⟨S_61, eS_61⟩ : ∃ T, T = sI S_40 802 s1 (v_59) := ⟨_, rfl⟩
  rw [← eS_61] at hw
  have ph_62 : 0 + Phc S_61 ≤ Phc S + 0 := by rw [show Phc S_61 = Phc S_40 from Ph_sI eS_61 rfl rfl]; exact ph_42
  have ph_63 : 0 + Phs S_61 ≤ Phs S + 0 := by rw [show Phs S_61 = Phs S_40 from Ph_sI eS_61 rfl rfl]; exact ph_43
  clear ph_42
  clear ph_43
  have hO_64 : Og eDM S S_61 := hO_44.sI eS_61 (by decide +kernel) (uI_8_802 hO_44.1 t_54)
  have h_65 : pI S_61 802 s1 = v_59 := tI_sIs eS_61
  refine lv_aload_n X.1 X.2.1 dX4_drawMetre_44 rfl (lv_at hl 3 rfl) ?_
  refine lv_dup X.1 X.2.1 dX4_drawMetre_45 rfl ?_
  have t_66 : At S_40 x 4 := hk_41.fr.at ha_x
  have t_67 : At S_61 x 4 := tAt_sI eS_61 t_66
  have t_68 : pI S_40 407 x = (qdr A) := hk_41.fr.I' (by decide +kernel) ha_x pv_7
  have t_69 : pI S_61 407 x = (qdr A) := tI_sI eS_61 rfl t_68
  refine r_getI (g := 407) (x := (qdr A)) X hw t_67 rfl 7 t_69 (by decide) rfl inn_X4_drawMetre_4 (by decide) (X.2.2.2.1 (.fieldLink RX4 200 "SilkMill$Pot" "metresEver" "I") (by decide +kernel)) rfl (gv_407 _ _) dX4_drawMetre_46 ?_
  refine lv_iconst (v := 1) X.1 X.2.1 dX4_drawMetre_49 (by decide) ?_
  refine lv_iadd X.1 X.2.1 dX4_drawMetre_50 ?_
  refine lv_topi (fun v_70 ev_70 => ?_)
  have rg_71 := And.intro (z_lo v_70) (z_hi v_70)
  refine r_putI (v := v_70) X hw t_67 rfl 7 407 tyX4 (by decide) rfl inn_X4_drawMetre_4 tyX4_ok nmX4 (by decide) (X.2.2.2.1 (.fieldLink RX4 200 "SilkMill$Pot" "metresEver" "I") (by decide +kernel)) rfl (Or.inl rfl) rfl rfl (Nat.le_of_ble_eq_true rfl) (st_407 _ _) dX4_drawMetre_51 (fun H locs hw => ?_)
  obtain ⟨S_72, eS_72⟩ : ∃ T, T = sI S_61 407 x (v_70) := ⟨_, rfl⟩
  rw [← eS_72] at hw
  have ph_73 : 0 + Phc S_72 ≤ Phc S + 0 := by rw [show Phc S_72 = Phc S_61 from Ph_sI eS_72 rfl rfl]; exact ph_62
  have ph_74 : 0 + Phs S_72 ≤ Phs S + 0 := by rw [show Phs S_72 = Phs S_61 from Ph_sI eS_72 rfl rfl]; exact ph_63
  clear ph_62
  clear ph_63
  have hO_75 : Og eDM S S_72 := hO_64.sI eS_72 (by decide +kernel) (uI_4_407 hO_64.1 t_67)
  have h_76 : pI S_72 407 x = v_70 := tI_sIs eS_72
  refine lv_iconst (v := 0) X.1 X.2.1 dX4_drawMetre_54 (by decide) ?_
  refine lv_istore (lv' := [(5, .int 0), (4, .int (v_12)), (3, .int (v_27)), (2, .int (rr_22)), (0, .ref x), (1, .ref s1)]) X.1 X.2.1 dX4_drawMetre_55 hl (by decide) rfl (fun ls hl => ?_)
  have L_77 : ∀ (n : Nat) (T_79 : PS) (H : Heap) (locs : List Loc) (ls : Array Slot) (i5_78 : Int32) (i5_78_z : Int) (cc_85 nn_86 : Nat), ((v_27.toInt - i5_78_z).toNat = n) → (Wd G cy (AS S s.heap.size) s.heap T_79 H locs) → (i5_78.toInt = i5_78_z) → (0 ≤ i5_78_z ∧ i5_78_z ≤ 600) → (At T_79 s1 8) → (At T_79 x 4) → (Og eDM S T_79) → (PotV T_79 D x R0 R1 R2 Gs s1 (endsF Ev (i5_78_z).toNat (wdr (wg A (capG (qg A) ((qe A).map (fun c => (c, qpl A c))))) (qdr A + 1)))) → (PotX S T_79 x R0 R1 R2 Gs) → (i5_78_z ≤ v_27.toInt) → (cc_85 + Phc T_79 ≤ Phc S + 0) → (nn_86 + Phs T_79 ≤ Phs S + 0) → (lv_has ls 6 [(5, .int (i5_78)), (4, .int (v_12)), (3, .int (v_27)), (2, .int (rr_22)), (0, .ref x), (1, .ref s1)]) → W p l e ({ frames := 6, cells := Phc S + 8, slots := Phs S + 15019, locals := 288 }) s m [.ref x, .ref s1].toArray below meth c H locs cc_85 nn_86 QQ (F0 m 57 ls []) := by
    intro n
    induction n using Nat.strongRecOn with
    | ind n ih =>
    intro T_79 H locs ls i5_78 i5_78_z cc_85 nn_86 hn hw hz_i5_78 hr_i5_78 ha_s1_L_80 ha_x_L_81 hO_T_79 iv_82 iv_83 iv_84 hcc_87 hnn_88 hl
    have rg_89 : (-2147483648) ≤ i5_78_z ∧ i5_78_z ≤ 2147483647 := by rw [← hz_i5_78]; exact ⟨z_lo _, z_hi _⟩
    have iv_90 := iv_82
    have ha_91 : At T_79 R0 5 := hO_T_79.fr.at haR0
    have ha_92 : At T_79 R1 5 := hO_T_79.fr.at haR1
    have ha_93 : At T_79 R2 5 := hO_T_79.fr.at haR2
    have ha_94 : At T_79 Gs 29 := hO_T_79.fr.at haGs
    have pr_95 : PotR T_79 x R0 R1 R2 Gs := PotR_fr hG ha_x hO_T_79.fr (by decide +kernel) hp_1
    have dt_96 : ∀ c, D c → At T_79 c 0 := fun c h => hO_T_79.fr.at (hp_0 c h)
    have ax_97 : ∀ a k, At S a k → At T_79 a k := fun a k h => hO_T_79.fr.at h
    have en_98 : EnC T_79 D x s1 Ev := EnC_fr hO_T_79.fr hp_0 ha_x ha_s1 (by decide +kernel) hp_3
    obtain ⟨pv_99, pv_100, pv_101, pv_102, pv_103, pv_104, pv_105, pv_106, pv_107, pv_108, pv_109⟩ := iv_90
    obtain ⟨v_110, ev_110⟩ : ∃ v, pI T_79 902 Gs = v := ⟨_, rfl⟩
    have rg_111 := gI_29_902 hO_T_79.1 ha_94; rw [ev_110] at rg_111
    have pz_112 : (pI T_79 902 Gs).toInt = v_110.toInt := by rw [ev_110]
    have pz_113 : (pI T_79 902 Gs).toInt = v_110.toInt := (congrArg Int32.toInt ev_110).trans rfl
    obtain ⟨v_114, ev_114⟩ : ∃ v, pI T_79 800 s1 = v := ⟨_, rfl⟩
    have rg_115 := gI_8_800 hO_T_79.1 ha_s1_L_80; rw [ev_114] at rg_115
    have pz_116 : (pI T_79 800 s1).toInt = v_114.toInt := by rw [ev_114]
    have pz_117 : (pI T_79 800 s1).toInt = v_114.toInt := (congrArg Int32.toInt ev_114).trans rfl
    have sl_118 := pv_104.1
    have sl_119 := pv_107.1
    refine lv_iload X.1 X.2.1 dX4_drawMetre_57 (lv_at hl 0 rfl) ?_
    refine lv_iload_n X.1 X.2.1 dX4_drawMetre_59 rfl (lv_at hl 2 rfl) ?_
    refine lv_icmp_ge (tgt := 82) X.1 X.2.1 dX4_drawMetre_60 (by decide) (fun c_120 => ?_) (fun c_120 => ?_)
    · have z_b_121 := trivial
      have k_122 : i5_78_z ≥ v_27.toInt := z_le rfl hz_i5_78 c_120
      have db_123 : endsF Ev (i5_78_z).toNat (wdr (wg A (capG (qg A) ((qe A).map (fun c => (c, qpl A c))))) (qdr A + 1)) = drwB Ev A := by rw [show (i5_78_z).toNat = (qe A).length by omega]; rfl
      refine lv_aload_n X.1 X.2.1 dX4_drawMetre_82 rfl (lv_at hl 4 rfl) ?_
      refine r_getR (g := 403) X hw ha_x_L_81 rfl 3 pr_95.2.2.2.1 (by decide) rfl inn_X4_drawMetre_4 (by decide) (X.2.2.2.1 (.fieldLink RX4 29 "SilkMill$Pot" "strand" "LSilkMill$Strand;") (by decide +kernel)) rfl (gv_403 _ _) dX4_drawMetre_83 ?_
      refine r_getI (g := 902) (x := v_110) X hw ha_94 rfl 2 ev_110 (by decide) rfl inn_X4_drawMetre_9 (by decide) (X.2.2.2.1 (.fieldLink RX4 79 "SilkMill$Strand" "metres" "I") (by decide +kernel)) rfl (gv_902 _ _) dX4_drawMetre_86 ?_
      refine lv_sipush (v := 300) X.1 X.2.1 dX4_drawMetre_89 (by decide) ?_
      refine lv_icmp_lt (tgt := 101) X.1 X.2.1 dX4_drawMetre_92 (by decide) (fun c_124 => ?_) (fun c_124 => ?_)
      · have z_b_125 := trivial
        have k_126 : v_110.toInt < 300 := z_lt rfl ti_300 c_124
        rw [hQQ]
        exact ret_gv X hw hr hlocks (by show cc_85 ≤ Phc S + 8; omega) (by show nn_86 ≤ Phs S + 15019; omega) (by omega) (by omega) ⟨hO_T_79, ⟨PotV_of ((drwF_n (by rw [← db_123]; omega)).trans db_123.symm) pv_99 pv_100 pv_101 pv_102 pv_103 pv_104 pv_105 pv_106 pv_107 pv_108 (inD_drw pv_11), iv_83⟩⟩ dX4_drawMetre_101
      · have z_b_127 := trivial
        have k_128 : v_110.toInt ≥ 300 := z_nlt rfl ti_300 c_124
        refine lv_aload_n X.1 X.2.1 dX4_drawMetre_95 rfl (lv_at hl 4 rfl) ?_
        refine lv_aload_n X.1 X.2.1 dX4_drawMetre_96 rfl (lv_at hl 5 rfl) ?_
        refine k_gi (kc := 0) (ks := 0) (rm := { frames := 5, cells := Phc T_79 + 8, slots := Phs T_79 + 15019, locals := 240 }) (av := [.ref x, .ref s1]) X hw (va_runV (As := [.ref s1]) (rest := []) (cfix X) (k_X4_cutStrand5 l G cy κ T_79 _ _ x s1 D R0 R1 R2 Gs (endsF Ev (i5_78_z).toNat (wdr (wg A (capG (qg A) ((qe A).map (fun c => (c, qpl A c))))) (qdr A + 1))) Ev hO_T_79.1 ha_x_L_81 ha_s1_L_80 dt_96 pr_95 (PotV_of (rfl : (endsF Ev (i5_78_z).toNat (wdr (wg A (capG (qg A) ((qe A).map (fun c => (c, qpl A c))))) (qdr A + 1))) = (endsF Ev (i5_78_z).toNat (wdr (wg A (capG (qg A) ((qe A).map (fun c => (c, qpl A c))))) (qdr A + 1)))) pv_99 pv_100 pv_101 pv_102 pv_103 pv_104 pv_105 pv_106 pv_107 pv_108 pv_109) en_98) (cwV 1 X.2.2.2.1 gX4_drawMetre_X4_cutStrand rfl rfl rfl (by decide +kernel) ⟨Nat.le_of_ble_eq_true rfl, Nat.le_of_ble_eq_true rfl⟩) (pre_gV X hw _ ha_x_L_81 rfl (by decide) rfl) rfl rfl hl.1 rfl (lv_room (Nat.le_of_ble_eq_true rfl)) dX4_drawMetre_97 ⟨(by show cc_85 + (Phc T_79 + 8) ≤ Phc S + 8; omega), (by show nn_86 + (Phs T_79 + 15019) ≤ Phs S + 15019; omega)⟩) (fun rr_129 S_130 H locs c_131 n_132 hc_131 hn_132 hp hw => ?_)
        obtain ⟨hk_133, hp⟩ := hp
        have ph_134 : c_131 + Phc S_130 ≤ Phc S + 0 := by omega
        have ph_135 : n_132 + Phs S_130 ≤ Phs S + 0 := by omega
        clear hcc_87
        clear hnn_88
        clear hc_131
        clear hn_132
        have hO_136 : Og eDM S S_130 := hO_T_79.call hk_133 (by decide +kernel)
        obtain ⟨cu_137, cu_138, cu_139, cu_140, cu_141⟩ := hp
        obtain ⟨pv_142, pv_143, pv_144, pv_145, pv_146, pv_147, pv_148, pv_149, pv_150, pv_151, pv_152⟩ := cu_139
        obtain ⟨v_154, ev_154⟩ : ∃ v, pI S_130 902 Gs = v := ⟨_, rfl⟩
        have t_156 : At S_130 Gs 29 := hk_133.fr.at ha_94
        have rg_155 := gI_29_902 hO_136.1 t_156; rw [ev_154] at rg_155
        have pz_157 : (pI S_130 902 Gs).toInt = v_154.toInt := by rw [ev_154]
        have pz_158 : (pI S_130 902 Gs).toInt = v_154.toInt := (congrArg Int32.toInt ev_154).trans rfl
        obtain ⟨v_160, ev_160⟩ : ∃ v, pI S_130 800 s1 = v := ⟨_, rfl⟩
        have t_162 : At S_130 s1 8 := hk_133.fr.at ha_s1_L_80
        have rg_161 := gI_8_800 hO_136.1 t_162; rw [ev_160] at rg_161
        have pz_163 : (pI S_130 800 s1).toInt = v_160.toInt := by rw [ev_160]
        have pz_164 : (pI S_130 800 s1).toInt = v_160.toInt := (congrArg Int32.toInt ev_160).trans rfl
        have sl_165 := pv_147.1
        have sl_166 := pv_150.1
        refine lv_pop X.1 X.2.1 dX4_drawMetre_100 rfl ?_
        have px_167 : PotX S S_130 x R0 R1 R2 Gs := PotX_tr iv_83 ax_97 haR0 haR1 haR2 cu_140
        rw [hQQ]
        exact ret_gv X hw hr hlocks (by show c_131 ≤ Phc S + 8; omega) (by show n_132 ≤ Phs S + 15019; omega) (by omega) (by omega) ⟨hO_136, ⟨PotV_of (B := (cutF Ev (endsF Ev (i5_78_z).toNat (wdr (wg A (capG (qg A) ((qe A).map (fun c => (c, qpl A c))))) (qdr A + 1))))) ((drwF_c (by rw [← db_123]; omega)).trans (by rw [← db_123])) pv_142 pv_143 pv_144 pv_145 pv_146 pv_147 pv_148 pv_149 pv_150 pv_151 (inD_drw pv_11), px_167⟩⟩ dX4_drawMetre_101
    · have z_b_168 := trivial
      have k_169 : i5_78_z < v_27.toInt := z_nle rfl hz_i5_78 c_120
      refine lv_aload_n X.1 X.2.1 dX4_drawMetre_63 rfl (lv_at hl 4 rfl) ?_
      refine lv_aload_n X.1 X.2.1 dX4_drawMetre_64 rfl (lv_at hl 4 rfl) ?_
      refine r_getR (g := 401) X hw ha_x_L_81 rfl 1 pr_95.2.1 (by decide) rfl inn_X4_drawMetre_4 (by decide) (X.2.2.2.1 (.fieldLink RX4 20 "SilkMill$Pot" "ends" "LSilkMill$Row;") (by decide +kernel)) rfl (gv_401 _ _) dX4_drawMetre_65 ?_
      refine k_q (rm := { frames := 2, cells := 0, slots := 0, locals := 96 }) (av := [.ref R1]) X hw (va_runV (As := []) (rest := [.ref x]) (cfix X) (k_X5_removeFirst5 l G cy κ T_79 _ R1 (qe (endsF Ev (i5_78_z).toNat (wdr (wg A (capG (qg A) ((qe A).map (fun c => (c, qpl A c))))) (qdr A + 1)))) 12 hO_T_79.1 ha_92 pv_100) (cwV 0 X.2.2.2.1 gX4_drawMetre_X5_removeFirst rfl rfl rfl (by decide +kernel) ⟨Nat.le_of_ble_eq_true rfl, Nat.le_of_ble_eq_true rfl⟩) (pre_V X hw _ ha_92 rfl (by decide) rfl) rfl rfl hl.1 rfl (lv_room (Nat.le_of_ble_eq_true rfl)) dX4_drawMetre_68 ⟨(by show cc_85 + 0 ≤ Phc S + 8; omega), (by show nn_86 + 0 ≤ Phs S + 15019; omega)⟩) cc_85 nn_86 (by show cc_85 + 0 ≤ cc_85; omega) (by show nn_86 + 0 ≤ nn_86; omega) (fun rr_170 S_171 H locs hp hw hfr hnw => ?_)
      obtain ⟨hk_172, hp⟩ := hp
      have ph_173 : cc_85 + Phc S_171 ≤ Phc S + 0 := by rw [show Phc S_171 = Phc T_79 from Ph_ok hO_T_79.1 hk_172 (by decide +kernel) (by decide +kernel) (by decide +kernel)]; exact hcc_87
      have ph_174 : nn_86 + Phs S_171 ≤ Phs S + 0 := by rw [show Phs S_171 = Phs T_79 from Ph_ok hO_T_79.1 hk_172 (by decide +kernel) (by decide +kernel) (by decide +kernel)]; exact hnn_88
      clear hcc_87
      clear hnn_88
      have hO_175 : Og eDM S S_171 := hO_T_79.call hk_172.og (by decide +kernel)
      obtain ⟨hs_176, hn_177, hx_178⟩ := hp
      rcases rr_170 with _ | q_179
      · refine W.eq (g2 := F0 m 71 ls (.null :: .ref x :: [])) rfl ?_
        obtain ⟨hL_180, eS_181⟩ := hn_177 rfl
        have rw_182 : RowIs S_171 R1 (qe (endsF Ev (i5_78_z).toNat (wdr (wg A (capG (qg A) ((qe A).map (fun c => (c, qpl A c))))) (qdr A + 1)))) 12 := by rw [eS_181]; exact pv_100
        refine lv_iload X.1 X.2.1 dX4_drawMetre_71 (lv_at hl 1 rfl) ?_
        have t_183 : At S_171 x 4 := hk_172.fr.at ha_x_L_81
        have dt_184 : ∀ c, D c → At S_171 c 0 := fun c h => hk_172.fr.at (dt_96 c h)
        have pr_185 : PotR S_171 x R0 R1 R2 Gs := PotR_fr hO_T_79.1 ha_x_L_81 hk_172.fr (by decide +kernel) pr_95
        have rw_186 : RowIs S_171 R0 (qb (endsF Ev (i5_78_z).toNat (wdr (wg A (capG (qg A) ((qe A).map (fun c => (c, qpl A c))))) (qdr A + 1)))) 600 := hx_178.2 _ hne.1 pr_95.2.2.2.2.2.1 _ _ pv_99
        have rw_187 : RowIs S_171 R2 (ql (endsF Ev (i5_78_z).toNat (wdr (wg A (capG (qg A) ((qe A).map (fun c => (c, qpl A c))))) (qdr A + 1)))) 600 := hx_178.2 _ (Ne.symm hne.2.2) (Ne.symm pr_95.2.2.2.2.2.2.2) _ _ pv_101
        have co_188 : CoP S_171 D (qpl (endsF Ev (i5_78_z).toNat (wdr (wg A (capG (qg A) ((qe A).map (fun c => (c, qpl A c))))) (qdr A + 1)))) (qsd (endsF Ev (i5_78_z).toNat (wdr (wg A (capG (qg A) ((qe A).map (fun c => (c, qpl A c))))) (qdr A + 1)))) := CoP_fr hk_172.fr dt_96 (by decide +kernel) pv_108
        have t_189 : pI S_171 405 x = (qst (endsF Ev (i5_78_z).toNat (wdr (wg A (capG (qg A) ((qe A).map (fun c => (c, qpl A c))))) (qdr A + 1)))) := hk_172.fr.I' (by decide +kernel) ha_x_L_81 pv_102
        have t_190 : pI S_171 406 x = (qse (endsF Ev (i5_78_z).toNat (wdr (wg A (capG (qg A) ((qe A).map (fun c => (c, qpl A c))))) (qdr A + 1)))) := hk_172.fr.I' (by decide +kernel) ha_x_L_81 pv_103
        have sg_191 : StV S_171 D Gs (qg (endsF Ev (i5_78_z).toNat (wdr (wg A (capG (qg A) ((qe A).map (fun c => (c, qpl A c))))) (qdr A + 1)))) := StV_fr hO_T_79.1 ha_94 hk_172.fr (by decide +kernel) pv_104
        have t_192 : pI S_171 407 x = (qdr (endsF Ev (i5_78_z).toNat (wdr (wg A (capG (qg A) ((qe A).map (fun c => (c, qpl A c))))) (qdr A + 1)))) := hk_172.fr.I' (by decide +kernel) ha_x_L_81 pv_105
        have t_193 : pI S_171 408 x = (qtk (endsF Ev (i5_78_z).toNat (wdr (wg A (capG (qg A) ((qe A).map (fun c => (c, qpl A c))))) (qdr A + 1)))) := hk_172.fr.I' (by decide +kernel) ha_x_L_81 pv_106
        have sk_194 : SkV S_171 D s1 (qsk (endsF Ev (i5_78_z).toNat (wdr (wg A (capG (qg A) ((qe A).map (fun c => (c, qpl A c))))) (qdr A + 1)))) := SkV_fr hO_T_79.1 ha_s1_L_80 hk_172.fr (by decide +kernel) pv_107
        have en_195 : EnC S_171 D x s1 Ev := EnC_fr hk_172.fr dt_96 ha_x_L_81 ha_s1_L_80 (by decide +kernel) en_98
        have t_196 : At S_171 s1 8 := hk_172.fr.at ha_s1_L_80
        refine k_gv (kc := 0) (ks := 0) (rm := { frames := 5, cells := Phc S_171 + 8, slots := Phs S_171 + 15019, locals := 240 }) (av := [.ref x, .null, .int (v_12)]) X hw (va_runV (As := [.null, .int (v_12)]) (rest := []) (cfix X) (k_X4_drawEnd5 l G cy κ S_171 _ _ x none (v_12) (v_12.toInt) D R0 R1 R2 Gs s1 (endsF Ev (i5_78_z).toNat (wdr (wg A (capG (qg A) ((qe A).map (fun c => (c, qpl A c))))) (qdr A + 1))) Ev hO_175.1 t_183 (fun q h => by cases h) rfl dt_184 pr_185 (PotV_of (rfl : (endsF Ev (i5_78_z).toNat (wdr (wg A (capG (qg A) ((qe A).map (fun c => (c, qpl A c))))) (qdr A + 1))) = (endsF Ev (i5_78_z).toNat (wdr (wg A (capG (qg A) ((qe A).map (fun c => (c, qpl A c))))) (qdr A + 1)))) rw_186 rw_182 rw_187 t_189 t_190 sg_191 t_192 t_193 sk_194 co_188 pv_109) en_195 t_196 (fun q h => by cases h)) (cwV 2 X.2.2.2.1 gX4_drawMetre_X4_drawEnd rfl rfl rfl (by decide +kernel) ⟨Nat.le_of_ble_eq_true rfl, Nat.le_of_ble_eq_true rfl⟩) (pre_gV X hw _ t_183 rfl (by decide) rfl) rfl rfl hl.1 rfl (lv_room (Nat.le_of_ble_eq_true rfl)) dX4_drawMetre_73 ⟨(by show cc_85 + (Phc S_171 + 8) ≤ Phc S + 8; omega), (by show nn_86 + (Phs S_171 + 15019) ≤ Phs S + 15019; omega)⟩) (fun S_198 H locs c_199 n_200 hc_199 hn_200 hp hw => ?_)
        obtain ⟨hk_201, hp⟩ := hp
        have ph_202 : c_199 + Phc S_198 ≤ Phc S + 0 := by omega
        have ph_203 : n_200 + Phs S_198 ≤ Phs S + 0 := by omega
        clear ph_173
        clear ph_174
        clear hc_199
        clear hn_200
        have hO_204 : Og eDM S S_198 := hO_175.call hk_201 (by decide +kernel)
        obtain ⟨de_205, de_206, de_207⟩ := hp
        have de_208 := de_205 rfl
        obtain ⟨pv_209, pv_210, pv_211, pv_212, pv_213, pv_214, pv_215, pv_216, pv_217, pv_218, pv_219⟩ := de_208
        have t_220 : pI S_171 902 Gs = v_110 := hk_172.fr.I' (by decide +kernel) ha_94 ev_110
        have t_222 : At S_171 Gs 29 := hk_172.fr.at ha_94
        have t_221 : pI S_198 902 Gs = v_110 := hk_201.fr.I' (by decide +kernel) t_222 t_220
        have pz_223 : (pI S_198 902 Gs).toInt = v_110.toInt := (congrArg Int32.toInt t_221).trans rfl
        have t_224 : pI S_171 800 s1 = v_114 := hk_172.fr.I' (by decide +kernel) ha_s1_L_80 ev_114
        have t_225 : pI S_198 800 s1 = v_114 := hk_201.fr.I' (by decide +kernel) t_196 t_224
        have pz_226 : (pI S_198 800 s1).toInt = v_114.toInt := (congrArg Int32.toInt t_225).trans rfl
        have sl_227 := pv_214.1
        have sl_228 := pv_217.1
        obtain ⟨x_229, ex_229⟩ : ∃ y : Int32, y = i5_78 + 1 := ⟨_, rfl⟩
        have z_230 : x_229.toInt = i5_78_z + 1 := z_add ex_229 hz_i5_78 ti_1 (by omega) (by omega)
        refine lv_iinc (v := x_229) (lv' := [(5, .int (x_229)), (4, .int (v_12)), (3, .int (v_27)), (2, .int (rr_22)), (0, .ref x), (1, .ref s1)]) X.1 X.2.1 dX4_drawMetre_76 hl (k := 0) rfl (by rw [ex_229]; rfl) (by decide) rfl (fun ls hl => ?_)
        refine lv_goto (tgt := 57) X.1 X.2.1 dX4_drawMetre_79 (by decide) ?_
        have t_231 : At S_198 s1 8 := hk_201.fr.at t_196
        have t_232 : At S_198 x 4 := hk_201.fr.at t_183
        have px_233 : PotX S S_171 x R0 R1 R2 Gs := PotX_row iv_83 ax_97 haR0 haR1 haR2 (Or.inr (Or.inl rfl)) hx_178 hk_172.fr (by decide +kernel)
        have ax_235 : ∀ a k, At S a k → At S_171 a k := fun a k h => hk_172.fr.at (ax_97 a k h)
        have px_234 : PotX S S_198 x R0 R1 R2 Gs := PotX_tr px_233 ax_235 haR0 haR1 haR2 de_207
        exact ih _ (by omega) _ _ _ _ (x_229) (x_229.toInt) (c_199) (n_200) rfl hw rfl (by omega) t_231 t_232 hO_204 (PotV_of (show endsF Ev (x_229.toInt).toNat (wdr (wg A (capG (qg A) ((qe A).map (fun c => (c, qpl A c))))) (qdr A + 1)) = (endsF Ev (i5_78_z).toNat (wdr (wg A (capG (qg A) ((qe A).map (fun c => (c, qpl A c))))) (qdr A + 1))) by rw [show (x_229.toInt).toNat = (i5_78_z).toNat + 1 by omega]; exact stpF_n hL_180) pv_209 pv_210 pv_211 pv_212 pv_213 pv_214 pv_215 pv_216 pv_217 pv_218 (inD_ends (A := (wdr (wg A (capG (qg A) ((qe A).map (fun c => (c, qpl A c))))) (qdr A + 1))) pv_11 _)) px_234 (by omega) (by omega) (by omega) (lv_sub hl [0, 1, 2, 3, 4, 5] rfl)
      · refine W.eq (g2 := F0 m 71 ls (.ref q_179 :: .ref x :: [])) rfl ?_
        obtain ⟨ha_236, t_237, hL_238, hr_239⟩ := hs_176 _ rfl
        refine lv_iload X.1 X.2.1 dX4_drawMetre_71 (lv_at hl 1 rfl) ?_
        have id_240 : InD D (we (endsF Ev (i5_78_z).toNat (wdr (wg A (capG (qg A) ((qe A).map (fun c => (c, qpl A c))))) (qdr A + 1))) t_237) := inD_tl pv_109 hL_238
        have t_241 : At S_171 x 4 := hk_172.fr.at ha_x_L_81
        have dt_242 : ∀ c, D c → At S_171 c 0 := fun c h => hk_172.fr.at (dt_96 c h)
        have pr_243 : PotR S_171 x R0 R1 R2 Gs := PotR_fr hO_T_79.1 ha_x_L_81 hk_172.fr (by decide +kernel) pr_95
        have rw_244 : RowIs S_171 R0 (qb (endsF Ev (i5_78_z).toNat (wdr (wg A (capG (qg A) ((qe A).map (fun c => (c, qpl A c))))) (qdr A + 1)))) 600 := hx_178.2 _ hne.1 pr_95.2.2.2.2.2.1 _ _ pv_99
        have rw_245 : RowIs S_171 R2 (ql (endsF Ev (i5_78_z).toNat (wdr (wg A (capG (qg A) ((qe A).map (fun c => (c, qpl A c))))) (qdr A + 1)))) 600 := hx_178.2 _ (Ne.symm hne.2.2) (Ne.symm pr_95.2.2.2.2.2.2.2) _ _ pv_101
        have co_246 : CoP S_171 D (qpl (endsF Ev (i5_78_z).toNat (wdr (wg A (capG (qg A) ((qe A).map (fun c => (c, qpl A c))))) (qdr A + 1)))) (qsd (endsF Ev (i5_78_z).toNat (wdr (wg A (capG (qg A) ((qe A).map (fun c => (c, qpl A c))))) (qdr A + 1)))) := CoP_fr hk_172.fr dt_96 (by decide +kernel) pv_108
        have t_247 : pI S_171 405 x = (qst (endsF Ev (i5_78_z).toNat (wdr (wg A (capG (qg A) ((qe A).map (fun c => (c, qpl A c))))) (qdr A + 1)))) := hk_172.fr.I' (by decide +kernel) ha_x_L_81 pv_102
        have t_248 : pI S_171 406 x = (qse (endsF Ev (i5_78_z).toNat (wdr (wg A (capG (qg A) ((qe A).map (fun c => (c, qpl A c))))) (qdr A + 1)))) := hk_172.fr.I' (by decide +kernel) ha_x_L_81 pv_103
        have sg_249 : StV S_171 D Gs (qg (endsF Ev (i5_78_z).toNat (wdr (wg A (capG (qg A) ((qe A).map (fun c => (c, qpl A c))))) (qdr A + 1)))) := StV_fr hO_T_79.1 ha_94 hk_172.fr (by decide +kernel) pv_104
        have t_250 : pI S_171 407 x = (qdr (endsF Ev (i5_78_z).toNat (wdr (wg A (capG (qg A) ((qe A).map (fun c => (c, qpl A c))))) (qdr A + 1)))) := hk_172.fr.I' (by decide +kernel) ha_x_L_81 pv_105
        have t_251 : pI S_171 408 x = (qtk (endsF Ev (i5_78_z).toNat (wdr (wg A (capG (qg A) ((qe A).map (fun c => (c, qpl A c))))) (qdr A + 1)))) := hk_172.fr.I' (by decide +kernel) ha_x_L_81 pv_106
        have sk_252 : SkV S_171 D s1 (qsk (endsF Ev (i5_78_z).toNat (wdr (wg A (capG (qg A) ((qe A).map (fun c => (c, qpl A c))))) (qdr A + 1)))) := SkV_fr hO_T_79.1 ha_s1_L_80 hk_172.fr (by decide +kernel) pv_107
        have en_253 : EnC S_171 D x s1 Ev := EnC_fr hk_172.fr dt_96 ha_x_L_81 ha_s1_L_80 (by decide +kernel) en_98
        have t_254 : At S_171 s1 8 := hk_172.fr.at ha_s1_L_80
        refine k_gv (kc := 0) (ks := 0) (rm := { frames := 5, cells := Phc S_171 + 8, slots := Phs S_171 + 15019, locals := 240 }) (av := [.ref x, .ref q_179, .int (v_12)]) X hw (va_runV (As := [.ref q_179, .int (v_12)]) (rest := []) (cfix X) (k_X4_drawEnd5 l G cy κ S_171 _ _ x (some q_179) (v_12) (v_12.toInt) D R0 R1 R2 Gs s1 (we (endsF Ev (i5_78_z).toNat (wdr (wg A (capG (qg A) ((qe A).map (fun c => (c, qpl A c))))) (qdr A + 1))) t_237) Ev hO_175.1 t_241 (fun q h => by cases h; exact ha_236) rfl dt_242 pr_243 (PotV_of (rfl : (we (endsF Ev (i5_78_z).toNat (wdr (wg A (capG (qg A) ((qe A).map (fun c => (c, qpl A c))))) (qdr A + 1))) t_237) = (we (endsF Ev (i5_78_z).toNat (wdr (wg A (capG (qg A) ((qe A).map (fun c => (c, qpl A c))))) (qdr A + 1))) t_237)) rw_244 hr_239 rw_245 t_247 t_248 sg_249 t_250 t_251 sk_252 co_246 id_240) en_253 t_254 (fun q h => by cases h; exact pv_109 _ (Or.inr (Or.inl (by rw [hL_238]; exact List.mem_cons_self))))) (cwV 2 X.2.2.2.1 gX4_drawMetre_X4_drawEnd rfl rfl rfl (by decide +kernel) ⟨Nat.le_of_ble_eq_true rfl, Nat.le_of_ble_eq_true rfl⟩) (pre_gV X hw _ t_241 rfl (by decide) rfl) rfl rfl hl.1 rfl (lv_room (Nat.le_of_ble_eq_true rfl)) dX4_drawMetre_73 ⟨(by show cc_85 + (Phc S_171 + 8) ≤ Phc S + 8; omega), (by show nn_86 + (Phs S_171 + 15019) ≤ Phs S + 15019; omega)⟩) (fun S_256 H locs c_257 n_258 hc_257 hn_258 hp hw => ?_)
        obtain ⟨hk_259, hp⟩ := hp
        have ph_260 : c_257 + Phc S_256 ≤ Phc S + 0 := by omega
        have ph_261 : n_258 + Phs S_256 ≤ Phs S + 0 := by omega
        clear ph_173
        clear ph_174
        clear hc_257
        clear hn_258
        have hO_262 : Og eDM S S_256 := hO_175.call hk_259 (by decide +kernel)
        obtain ⟨de_263, de_264, de_265⟩ := hp
        have de_266 := de_264 _ rfl
        obtain ⟨pv_267, pv_268, pv_269, pv_270, pv_271, pv_272, pv_273, pv_274, pv_275, pv_276, pv_277⟩ := de_266
        have t_278 : pI S_171 902 Gs = v_110 := hk_172.fr.I' (by decide +kernel) ha_94 ev_110
        have t_280 : At S_171 Gs 29 := hk_172.fr.at ha_94
        have t_279 : pI S_256 902 Gs = v_110 := hk_259.fr.I' (by decide +kernel) t_280 t_278
        have pz_281 : (pI S_256 902 Gs).toInt = v_110.toInt := (congrArg Int32.toInt t_279).trans rfl
        have t_282 : pI S_171 800 s1 = v_114 := hk_172.fr.I' (by decide +kernel) ha_s1_L_80 ev_114
        have t_283 : pI S_256 800 s1 = v_114 := hk_259.fr.I' (by decide +kernel) t_254 t_282
        have pz_284 : (pI S_256 800 s1).toInt = v_114.toInt := (congrArg Int32.toInt t_283).trans rfl
        have sl_285 := pv_272.1
        have sl_286 := pv_275.1
        obtain ⟨x_287, ex_287⟩ : ∃ y : Int32, y = i5_78 + 1 := ⟨_, rfl⟩
        have z_288 : x_287.toInt = i5_78_z + 1 := z_add ex_287 hz_i5_78 ti_1 (by omega) (by omega)
        refine lv_iinc (v := x_287) (lv' := [(5, .int (x_287)), (4, .int (v_12)), (3, .int (v_27)), (2, .int (rr_22)), (0, .ref x), (1, .ref s1)]) X.1 X.2.1 dX4_drawMetre_76 hl (k := 0) rfl (by rw [ex_287]; rfl) (by decide) rfl (fun ls hl => ?_)
        refine lv_goto (tgt := 57) X.1 X.2.1 dX4_drawMetre_79 (by decide) ?_
        have t_289 : At S_256 s1 8 := hk_259.fr.at t_254
        have t_290 : At S_256 x 4 := hk_259.fr.at t_241
        have px_291 : PotX S S_171 x R0 R1 R2 Gs := PotX_row iv_83 ax_97 haR0 haR1 haR2 (Or.inr (Or.inl rfl)) hx_178 hk_172.fr (by decide +kernel)
        have ax_293 : ∀ a k, At S a k → At S_171 a k := fun a k h => hk_172.fr.at (ax_97 a k h)
        have px_292 : PotX S S_256 x R0 R1 R2 Gs := PotX_tr px_291 ax_293 haR0 haR1 haR2 de_265
        exact ih _ (by omega) _ _ _ _ (x_287) (x_287.toInt) (c_257) (n_258) rfl hw rfl (by omega) t_289 t_290 hO_262 (PotV_of (show endsF Ev (x_287.toInt).toNat (wdr (wg A (capG (qg A) ((qe A).map (fun c => (c, qpl A c))))) (qdr A + 1)) = (endF Ev (we (endsF Ev (i5_78_z).toNat (wdr (wg A (capG (qg A) ((qe A).map (fun c => (c, qpl A c))))) (qdr A + 1))) t_237) q_179) by rw [show (x_287.toInt).toNat = (i5_78_z).toNat + 1 by omega]; exact stpF_c hL_238) pv_267 pv_268 pv_269 pv_270 pv_271 pv_272 pv_273 pv_274 pv_275 pv_276 (inD_ends (A := (wdr (wg A (capG (qg A) ((qe A).map (fun c => (c, qpl A c))))) (qdr A + 1))) pv_11 _)) px_292 (by omega) (by omega) (by omega) (lv_sub hl [0, 1, 2, 3, 4, 5] rfl)
  have t_294 : At S_61 s1 8 := tAt_sI eS_61 t_54
  have t_295 : At S_72 s1 8 := tAt_sI eS_72 t_294
  have t_296 : At S_72 x 4 := tAt_sI eS_72 t_67
  have rw_297 : RowIs S_40 R0 (qb A) 600 := RowIs_fr hO.1 haR0 hk_41.fr (by decide +kernel) pv_1
  have rw_298 : RowIs S_61 R0 (qb A) 600 := RowIs_sI rw_297 eS_61 (by decide) (by decide)
  have rw_299 : RowIs S_72 R0 (qb A) 600 := RowIs_sI rw_298 eS_72 (by decide) (by decide)
  have rw_300 : RowIs S_40 R1 (qe A) 12 := RowIs_fr hO.1 haR1 hk_41.fr (by decide +kernel) pv_2
  have rw_301 : RowIs S_61 R1 (qe A) 12 := RowIs_sI rw_300 eS_61 (by decide) (by decide)
  have rw_302 : RowIs S_72 R1 (qe A) 12 := RowIs_sI rw_301 eS_72 (by decide) (by decide)
  have rw_303 : RowIs S_40 R2 (ql A) 600 := RowIs_fr hO.1 haR2 hk_41.fr (by decide +kernel) pv_3
  have rw_304 : RowIs S_61 R2 (ql A) 600 := RowIs_sI rw_303 eS_61 (by decide) (by decide)
  have rw_305 : RowIs S_72 R2 (ql A) 600 := RowIs_sI rw_304 eS_72 (by decide) (by decide)
  have co_306 : CoP S_40 D (qpl A) (qsd A) := CoP_fr hk_41.fr hp_0 (by decide +kernel) pv_10
  have co_307 : CoP S_61 D (qpl A) (qsd A) := CoP_sI co_306 eS_61 (by decide) (by decide)
  have co_308 : CoP S_72 D (qpl A) (qsd A) := CoP_sI co_307 eS_72 (by decide) (by decide)
  have t_309 : pI S_40 405 x = (qst A) := hk_41.fr.I' (by decide +kernel) ha_x pv_4
  have t_310 : pI S_61 405 x = (qst A) := tI_sI eS_61 rfl t_309
  have t_311 : pI S_72 405 x = (qst A) := tI_sI eS_72 rfl t_310
  have t_312 : pI S_40 406 x = (qse A) := hk_41.fr.I' (by decide +kernel) ha_x pv_5
  have t_313 : pI S_61 406 x = (qse A) := tI_sI eS_61 rfl t_312
  have t_314 : pI S_72 406 x = (qse A) := tI_sI eS_72 rfl t_313
  have sg_315 : StV S_61 D Gs (capG (qg A) ((qe A).map (fun c => (c, qpl A c)))) := StV_sI sg_47 eS_61 (by decide)
  have sg_316 : StV S_72 D Gs (capG (qg A) ((qe A).map (fun c => (c, qpl A c)))) := StV_sI sg_315 eS_72 (by decide)
  have t_317 : pI S_40 408 x = (qtk A) := hk_41.fr.I' (by decide +kernel) ha_x pv_8
  have t_318 : pI S_61 408 x = (qtk A) := tI_sI eS_61 rfl t_317
  have t_319 : pI S_72 408 x = (qtk A) := tI_sI eS_72 rfl t_318
  have sk_320 : SkV S_40 D s1 (qsk A) := (SkV_cap hO.1 ha_s1 haGs hk_41.fr am_45 am_46 pv_9)
  have sk_321 : SkV S_61 D s1 (qsk A) := SkV_sI hO_44.1 t_54 sk_320 eS_61 (by decide)
  have t_323 : At S_61 s1 8 := tAt_sI eS_61 t_54
  have sk_322 : SkV S_72 D s1 (qsk A) := SkV_sI hO_64.1 t_323 sk_321 eS_72 (by decide)
  have px_324 : PotX S S_40 x R0 R1 R2 Gs := PotX_st (PotX_rf S x R0 R1 R2 Gs) (fun _ _ h => h) hO.1 hk_41.fr (by decide +kernel) (StX_cap hO.1 am_45 am_46)
  have px_325 : PotX S S_61 x R0 R1 R2 Gs := PotX_sI px_324 eS_61 (by decide)
  have px_326 : PotX S S_72 x R0 R1 R2 Gs := PotX_sx px_325 eS_72 (by decide)
  exact L_77 _ _ _ _ _ (0) (0) (0) (0) rfl hw ti_0 (by omega) t_295 t_296 hO_75 (PotV_of (rfl : endsF Ev (0 : Int).toNat (wdr (wg A (capG (qg A) ((qe A).map (fun c => (c, qpl A c))))) (qdr A + 1)) = (wdr (wg A (capG (qg A) ((qe A).map (fun c => (c, qpl A c))))) (qdr A + 1))) rw_299 rw_302 rw_305 t_311 t_314 sg_316 (h_76.trans ev_70) t_319 sk_322 co_308 (show InD D (wdr (wg A (capG (qg A) ((qe A).map (fun c => (c, qpl A c))))) (qdr A + 1)) from pv_11)) px_326 (by omega) (by omega) (by omega) (lv_sub hl [0, 1, 2, 3, 4, 5] rfl)
