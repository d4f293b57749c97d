def in0 : List Nat := [1219, 1214, 1215, 1216, 1217, 1237, 1220]

set_option maxHeartbeats 4000000 in
set_option maxRecDepth 100000 in
theorem k_X12_init6 (l : Launch) (G : va_G) (cy : Nat → ClassId) (κ : Nat → Nat) (S : PS) (sz : Nat) (x : Nat) (hG : GX S) (ha_x : At S x 192) (hzI : ∀ g, pI S g x = 0) (hzR : ∀ g, pR S g x = none) : Cv l yX12_init wsX12_init ({ frames := 2, cells := 48, slots := 182647, locals := 96 }) G cy κ S sz [.ref x] (fun (S9 : PS) => Kq S S9 x ∧ GX S9 ∧ At S9 x 12 ∧ Phc S9 = Phc S + 0 ∧ Phs S9 = Phs S + 0 ∧ MI S9 x ∧ GR S9 x ∧ pI S9 1245 x = 0 ∧ pI S9 1201 x = 0 ∧ pI S9 1211 x = 0 ∧ pI S9 1228 x = 0 ∧ mA S9 x 1210 = thinF ∧ (∀ i, zA S9 x 1253 i = 0) ∧ (∀ g, g ∈ in0 → ∀ i, zA S9 x g i = 0) ∧ (pI S9 1238 x = 0 ∧ pI S9 1251 x = 0 ∧ pI S9 1249 x = 0 ∧ pI S9 1250 x = 0)) := by
  refine ent_m (cc := cX12_init) (maxL := 2) (ret := none) (by decide) rfl (Nat.le_of_ble_eq_true rfl) ?_
  intro p e s m below meth c ls X hr hlocks hin hw hl hsz
  subst hsz
  have X : Cx p c cX12_init 2 s [.ref x].toArray wsX12_init RX12 m G cy κ (AS S s.heap.size) := X
  have hl : lv_has ls 2 [(0, .ref x)] := hl
  have hpc0 : Phc S = Phc S + 0 := rfl
  have hps0 : Phs S = Phs S + 0 := rfl
  have hK : Kq S S x := Kq.rf S _
  have zi0 : Zi S x := fun g _ => hzI g
  have fz0 : Fz S x [] := fun t ht => by cases ht
  have fd0 : Fe S x [] := fun t ht => by cases ht
  refine lv_aload_n X.1 X.2.1 dX12_init_0 rfl (lv_at hl 0 rfl) ?_
  refine W.objInit X.1 X.2.1 X.2.2.2.2.1 (X.2.2.2.1 (.methodLink RX12 1 objectInit) (by decide +kernel)) (X.2.2.2.1 (.instanceMethod objectInit) (by decide +kernel)) (X.2.2.2.1 (.code objectInit ⟨#[0xb1]⟩ 1 none) (by decide +kernel)) rfl (hl.1.trans X.2.2.1.symm) rfl dX12_init_1 (Nat.le_of_ble_eq_true rfl) (Nat.le_of_ble_eq_true rfl) ?_
  refine W.eq (g2 := F0 m 4 ls ([])) rfl ?_
  refine lv_aload_n X.1 X.2.1 dX12_init_4 rfl (lv_at hl 0 rfl) ?_
  refine lv_bipush (v := 10) X.1 X.2.1 dX12_init_5 (by decide) ?_
  refine r_newI (N := 10) X hw 254 10 1 rfl (X.2.2.2.1 (.arrayClass .int) (by decide +kernel)) (z_nn ti_10 (by omega)) (by decide) (by decide) (by show 0 + 1 ≤ 1; omega) (by show 0 + 10 ≤ 10; omega) (by show 1 ≤ 48; omega) (by show 10 ≤ 182647; omega) dX12_init_7 (fun q_1 H hq_1 hw => ?_)
  obtain ⟨S_2, eS_2⟩ : ∃ T, T = sN S q_1 254 10 := ⟨_, rfl⟩
  rw [← eS_2] at hw
  have ph_3 : Phc S_2 = Phc S + 0 := (show Phc S_2 = Phc S from Ph_sN' hG.ci hq_1 eS_2 (by decide)).trans hpc0
  have ph_4 : Phs S_2 = Phs S + 0 := (show Phs S_2 = Phs S from Ph_sN' hG.ci hq_1 eS_2 (by decide)).trans hps0
  clear hpc0
  clear hps0
  have hK_5 : Kq S S_2 x := hK.sN hq_1 eS_2
  have hg_6 : GX S_2 := by rw [eS_2]; exact GX_N hG hq_1 (by decide +kernel)
  have zi_7 : Zi S_2 x := Zi_sN zi0 eS_2
  have az_q_1 : pA S_2 q_1 = fun _ => 0 := by rw [eS_2]; exact pA_sN_new
  have fz_8 : Fz S_2 x [] := Fz_sN fz0 hq_1 eS_2
  have fd_9 : Fe S_2 x [] := Fe_sN fd0 hq_1 eS_2
  clear zi0 fz0 fd0
  have hn0_q_1 := hK.new hq_1
  have ha_10 : At S_2 q_1 254 := by rw [eS_2]; exact At_nN _ _ _ _
  have hn_11 : pN S_2 q_1 = 10 := by rw [eS_2]; exact pN_sN_new
  have t_12 : At S_2 x 192 := by rw [eS_2]; exact At_sN ha_x hq_1
  refine r_putR X hw t_12 rfl 2 1202 (some q_1) rfl tyX12 (by decide) rfl inn_X12_init_12 tyX12_ok nmX12 (by decide) (X.2.2.2.1 (.fieldLink RX12 7 "SilkMillModel" "lotMany" "[I") (by decide +kernel)) rfl (Or.inr ⟨rfl, hin, rfl⟩) (fun _ => rfl) rfl (fun _ => rfl) rfl (Nat.le_of_ble_eq_true rfl) (st_1202 _ _) dX12_init_9 (fun H locs hw => ?_)
  obtain ⟨S_13, eS_13⟩ : ∃ T, T = sR S_2 1202 x (some q_1) := ⟨_, rfl⟩
  rw [← eS_13] at hw
  have ph_14 : Phc S_13 = Phc S + 0 := (show Phc S_13 = Phc S_2 from Ph_rawR t_12 (by decide) eS_13).trans ph_3
  have ph_15 : Phs S_13 = Phs S + 0 := (show Phs S_13 = Phs S_2 from Ph_rawR t_12 (by decide) eS_13).trans ph_4
  clear ph_3
  clear ph_4
  have hK_16 : Kq S S_13 x := hK_5.sR eS_13
  have hg_17 : GX S_13 := by rw [eS_13]; exact GX_rawR hg_6 t_12 (by decide +kernel)
  have zi_18 : Zi S_13 x := Zi_sR zi_7 eS_13
  have fz_19 : Fz S_13 x [(1202, q_1, 254, 10)] := Fz_add fz_8 eS_13 ha_10 hn_11 az_q_1 rfl
  have fd_20 : Fe S_13 x [] := Fe_sR fd_9 eS_13 rfl
  clear zi_7 fz_8 fd_9
  have h_21 : pR S_13 1202 x = some q_1 := tR_sRs eS_13
  refine lv_aload_n X.1 X.2.1 dX12_init_12 rfl (lv_at hl 0 rfl) ?_
  refine lv_bipush (v := 10) X.1 X.2.1 dX12_init_13 (by decide) ?_
  refine r_newI (N := 10) X hw 274 20 2 rfl (X.2.2.2.1 (.arrayClass .int) (by decide +kernel)) (z_nn ti_10 (by omega)) (by decide) (by decide) (by show 1 + 1 ≤ 2; omega) (by show 10 + 10 ≤ 20; omega) (by show 2 ≤ 48; omega) (by show 20 ≤ 182647; omega) dX12_init_15 (fun q_22 H hq_22 hw => ?_)
  obtain ⟨S_23, eS_23⟩ : ∃ T, T = sN S_13 q_22 274 10 := ⟨_, rfl⟩
  rw [← eS_23] at hw
  have ph_24 : Phc S_23 = Phc S + 0 := (show Phc S_23 = Phc S_13 from Ph_sN' hg_17.ci hq_22 eS_23 (by decide)).trans ph_14
  have ph_25 : Phs S_23 = Phs S + 0 := (show Phs S_23 = Phs S_13 from Ph_sN' hg_17.ci hq_22 eS_23 (by decide)).trans ph_15
  clear ph_14
  clear ph_15
  have hK_26 : Kq S S_23 x := hK_16.sN hq_22 eS_23
  have hg_27 : GX S_23 := by rw [eS_23]; exact GX_N hg_17 hq_22 (by decide +kernel)
  have zi_28 : Zi S_23 x := Zi_sN zi_18 eS_23
  have az_q_22 : pA S_23 q_22 = fun _ => 0 := by rw [eS_23]; exact pA_sN_new
  have fz_29 : Fz S_23 x [(1202, q_1, 254, 10)] := Fz_sN fz_19 hq_22 eS_23
  have fd_30 : Fe S_23 x [] := Fe_sN fd_20 hq_22 eS_23
  clear zi_18 fz_19 fd_20
  have hn0_q_22 := hK_16.new hq_22
  have ha_31 : At S_23 q_22 274 := by rw [eS_23]; exact At_nN _ _ _ _
  have hn_32 : pN S_23 q_22 = 10 := by rw [eS_23]; exact pN_sN_new
  have t_33 : At S_13 x 192 := tAt_sR eS_13 t_12
  have t_34 : At S_23 x 192 := by rw [eS_23]; exact At_sN t_33 hq_22
  refine r_putR X hw t_34 rfl 3 1203 (some q_22) rfl tyX12 (by decide) rfl inn_X12_init_12 tyX12_ok nmX12 (by decide) (X.2.2.2.1 (.fieldLink RX12 13 "SilkMillModel" "lotSeed" "[I") (by decide +kernel)) rfl (Or.inr ⟨rfl, hin, rfl⟩) (fun _ => rfl) rfl (fun _ => rfl) rfl (Nat.le_of_ble_eq_true rfl) (st_1203 _ _) dX12_init_17 (fun H locs hw => ?_)
  obtain ⟨S_35, eS_35⟩ : ∃ T, T = sR S_23 1203 x (some q_22) := ⟨_, rfl⟩
  rw [← eS_35] at hw
  have ph_36 : Phc S_35 = Phc S + 0 := (show Phc S_35 = Phc S_23 from Ph_rawR t_34 (by decide) eS_35).trans ph_24
  have ph_37 : Phs S_35 = Phs S + 0 := (show Phs S_35 = Phs S_23 from Ph_rawR t_34 (by decide) eS_35).trans ph_25
  clear ph_24
  clear ph_25
  have hK_38 : Kq S S_35 x := hK_26.sR eS_35
  have hg_39 : GX S_35 := by rw [eS_35]; exact GX_rawR hg_27 t_34 (by decide +kernel)
  have zi_40 : Zi S_35 x := Zi_sR zi_28 eS_35
  have fz_41 : Fz S_35 x [(1203, q_22, 274, 10), (1202, q_1, 254, 10)] := Fz_add fz_29 eS_35 ha_31 hn_32 az_q_22 rfl
  have fd_42 : Fe S_35 x [] := Fe_sR fd_30 eS_35 rfl
  clear zi_28 fz_29 fd_30
  have h_43 : pR S_35 1203 x = some q_22 := tR_sRs eS_35
  refine lv_aload_n X.1 X.2.1 dX12_init_20 rfl (lv_at hl 0 rfl) ?_
  refine lv_bipush (v := 10) X.1 X.2.1 dX12_init_21 (by decide) ?_
  refine r_newI (N := 10) X hw 294 30 3 rfl (X.2.2.2.1 (.arrayClass .int) (by decide +kernel)) (z_nn ti_10 (by omega)) (by decide) (by decide) (by show 2 + 1 ≤ 3; omega) (by show 20 + 10 ≤ 30; omega) (by show 3 ≤ 48; omega) (by show 30 ≤ 182647; omega) dX12_init_23 (fun q_44 H hq_44 hw => ?_)
  obtain ⟨S_45, eS_45⟩ : ∃ T, T = sN S_35 q_44 294 10 := ⟨_, rfl⟩
  rw [← eS_45] at hw
  have ph_46 : Phc S_45 = Phc S + 0 := (show Phc S_45 = Phc S_35 from Ph_sN' hg_39.ci hq_44 eS_45 (by decide)).trans ph_36
  have ph_47 : Phs S_45 = Phs S + 0 := (show Phs S_45 = Phs S_35 from Ph_sN' hg_39.ci hq_44 eS_45 (by decide)).trans ph_37
  clear ph_36
  clear ph_37
  have hK_48 : Kq S S_45 x := hK_38.sN hq_44 eS_45
  have hg_49 : GX S_45 := by rw [eS_45]; exact GX_N hg_39 hq_44 (by decide +kernel)
  have zi_50 : Zi S_45 x := Zi_sN zi_40 eS_45
  have az_q_44 : pA S_45 q_44 = fun _ => 0 := by rw [eS_45]; exact pA_sN_new
  have fz_51 : Fz S_45 x [(1203, q_22, 274, 10), (1202, q_1, 254, 10)] := Fz_sN fz_41 hq_44 eS_45
  have fd_52 : Fe S_45 x [] := Fe_sN fd_42 hq_44 eS_45
  clear zi_40 fz_41 fd_42
  have hn0_q_44 := hK_38.new hq_44
  have ha_53 : At S_45 q_44 294 := by rw [eS_45]; exact At_nN _ _ _ _
  have hn_54 : pN S_45 q_44 = 10 := by rw [eS_45]; exact pN_sN_new
  have t_55 : At S_35 x 192 := tAt_sR eS_35 t_34
  have t_56 : At S_45 x 192 := by rw [eS_45]; exact At_sN t_55 hq_44
  refine r_putR X hw t_56 rfl 4 1204 (some q_44) rfl tyX12 (by decide) rfl inn_X12_init_12 tyX12_ok nmX12 (by decide) (X.2.2.2.1 (.fieldLink RX12 16 "SilkMillModel" "lotBase" "[I") (by decide +kernel)) rfl (Or.inr ⟨rfl, hin, rfl⟩) (fun _ => rfl) rfl (fun _ => rfl) rfl (Nat.le_of_ble_eq_true rfl) (st_1204 _ _) dX12_init_25 (fun H locs hw => ?_)
  obtain ⟨S_57, eS_57⟩ : ∃ T, T = sR S_45 1204 x (some q_44) := ⟨_, rfl⟩
  rw [← eS_57] at hw
  have ph_58 : Phc S_57 = Phc S + 0 := (show Phc S_57 = Phc S_45 from Ph_rawR t_56 (by decide) eS_57).trans ph_46
  have ph_59 : Phs S_57 = Phs S + 0 := (show Phs S_57 = Phs S_45 from Ph_rawR t_56 (by decide) eS_57).trans ph_47
  clear ph_46
  clear ph_47
  have hK_60 : Kq S S_57 x := hK_48.sR eS_57
  have hg_61 : GX S_57 := by rw [eS_57]; exact GX_rawR hg_49 t_56 (by decide +kernel)
  have zi_62 : Zi S_57 x := Zi_sR zi_50 eS_57
  have fz_63 : Fz S_57 x [(1204, q_44, 294, 10), (1203, q_22, 274, 10), (1202, q_1, 254, 10)] := Fz_add fz_51 eS_57 ha_53 hn_54 az_q_44 rfl
  have fd_64 : Fe S_57 x [] := Fe_sR fd_52 eS_57 rfl
  clear zi_50 fz_51 fd_52
  have h_65 : pR S_57 1204 x = some q_44 := tR_sRs eS_57
  refine lv_aload_n X.1 X.2.1 dX12_init_28 rfl (lv_at hl 0 rfl) ?_
  refine lv_bipush (v := 10) X.1 X.2.1 dX12_init_29 (by decide) ?_
  refine r_newI (N := 10) X hw 314 40 4 rfl (X.2.2.2.1 (.arrayClass .int) (by decide +kernel)) (z_nn ti_10 (by omega)) (by decide) (by decide) (by show 3 + 1 ≤ 4; omega) (by show 30 + 10 ≤ 40; omega) (by show 4 ≤ 48; omega) (by show 40 ≤ 182647; omega) dX12_init_31 (fun q_66 H hq_66 hw => ?_)
  obtain ⟨S_67, eS_67⟩ : ∃ T, T = sN S_57 q_66 314 10 := ⟨_, rfl⟩
  rw [← eS_67] at hw
  have ph_68 : Phc S_67 = Phc S + 0 := (show Phc S_67 = Phc S_57 from Ph_sN' hg_61.ci hq_66 eS_67 (by decide)).trans ph_58
  have ph_69 : Phs S_67 = Phs S + 0 := (show Phs S_67 = Phs S_57 from Ph_sN' hg_61.ci hq_66 eS_67 (by decide)).trans ph_59
  clear ph_58
  clear ph_59
  have hK_70 : Kq S S_67 x := hK_60.sN hq_66 eS_67
  have hg_71 : GX S_67 := by rw [eS_67]; exact GX_N hg_61 hq_66 (by decide +kernel)
  have zi_72 : Zi S_67 x := Zi_sN zi_62 eS_67
  have az_q_66 : pA S_67 q_66 = fun _ => 0 := by rw [eS_67]; exact pA_sN_new
  have fz_73 : Fz S_67 x [(1204, q_44, 294, 10), (1203, q_22, 274, 10), (1202, q_1, 254, 10)] := Fz_sN fz_63 hq_66 eS_67
  have fd_74 : Fe S_67 x [] := Fe_sN fd_64 hq_66 eS_67
  clear zi_62 fz_63 fd_64
  have hn0_q_66 := hK_60.new hq_66
  have ha_75 : At S_67 q_66 314 := by rw [eS_67]; exact At_nN _ _ _ _
  have hn_76 : pN S_67 q_66 = 10 := by rw [eS_67]; exact pN_sN_new
  have t_77 : At S_57 x 192 := tAt_sR eS_57 t_56
  have t_78 : At S_67 x 192 := by rw [eS_67]; exact At_sN t_77 hq_66
  refine r_putR X hw t_78 rfl 5 1205 (some q_66) rfl tyX12 (by decide) rfl inn_X12_init_12 tyX12_ok nmX12 (by decide) (X.2.2.2.1 (.fieldLink RX12 19 "SilkMillModel" "lotLong" "[I") (by decide +kernel)) rfl (Or.inr ⟨rfl, hin, rfl⟩) (fun _ => rfl) rfl (fun _ => rfl) rfl (Nat.le_of_ble_eq_true rfl) (st_1205 _ _) dX12_init_33 (fun H locs hw => ?_)
  obtain ⟨S_79, eS_79⟩ : ∃ T, T = sR S_67 1205 x (some q_66) := ⟨_, rfl⟩
  rw [← eS_79] at hw
  have ph_80 : Phc S_79 = Phc S + 0 := (show Phc S_79 = Phc S_67 from Ph_rawR t_78 (by decide) eS_79).trans ph_68
  have ph_81 : Phs S_79 = Phs S + 0 := (show Phs S_79 = Phs S_67 from Ph_rawR t_78 (by decide) eS_79).trans ph_69
  clear ph_68
  clear ph_69
  have hK_82 : Kq S S_79 x := hK_70.sR eS_79
  have hg_83 : GX S_79 := by rw [eS_79]; exact GX_rawR hg_71 t_78 (by decide +kernel)
  have zi_84 : Zi S_79 x := Zi_sR zi_72 eS_79
  have fz_85 : Fz S_79 x [(1205, q_66, 314, 10), (1204, q_44, 294, 10), (1203, q_22, 274, 10), (1202, q_1, 254, 10)] := Fz_add fz_73 eS_79 ha_75 hn_76 az_q_66 rfl
  have fd_86 : Fe S_79 x [] := Fe_sR fd_74 eS_79 rfl
  clear zi_72 fz_73 fd_74
  have h_87 : pR S_79 1205 x = some q_66 := tR_sRs eS_79
  refine lv_aload_n X.1 X.2.1 dX12_init_36 rfl (lv_at hl 0 rfl) ?_
  refine lv_bipush (v := 10) X.1 X.2.1 dX12_init_37 (by decide) ?_
  refine r_newI (N := 10) X hw 334 50 5 rfl (X.2.2.2.1 (.arrayClass .int) (by decide +kernel)) (z_nn ti_10 (by omega)) (by decide) (by decide) (by show 4 + 1 ≤ 5; omega) (by show 40 + 10 ≤ 50; omega) (by show 5 ≤ 48; omega) (by show 50 ≤ 182647; omega) dX12_init_39 (fun q_88 H hq_88 hw => ?_)
  obtain ⟨S_89, eS_89⟩ : ∃ T, T = sN S_79 q_88 334 10 := ⟨_, rfl⟩
  rw [← eS_89] at hw
  have ph_90 : Phc S_89 = Phc S + 0 := (show Phc S_89 = Phc S_79 from Ph_sN' hg_83.ci hq_88 eS_89 (by decide)).trans ph_80
  have ph_91 : Phs S_89 = Phs S + 0 := (show Phs S_89 = Phs S_79 from Ph_sN' hg_83.ci hq_88 eS_89 (by decide)).trans ph_81
  clear ph_80
  clear ph_81
  have hK_92 : Kq S S_89 x := hK_82.sN hq_88 eS_89
  have hg_93 : GX S_89 := by rw [eS_89]; exact GX_N hg_83 hq_88 (by decide +kernel)
  have zi_94 : Zi S_89 x := Zi_sN zi_84 eS_89
  have az_q_88 : pA S_89 q_88 = fun _ => 0 := by rw [eS_89]; exact pA_sN_new
  have fz_95 : Fz S_89 x [(1205, q_66, 314, 10), (1204, q_44, 294, 10), (1203, q_22, 274, 10), (1202, q_1, 254, 10)] := Fz_sN fz_85 hq_88 eS_89
  have fd_96 : Fe S_89 x [] := Fe_sN fd_86 hq_88 eS_89
  clear zi_84 fz_85 fd_86
  have hn0_q_88 := hK_82.new hq_88
  have ha_97 : At S_89 q_88 334 := by rw [eS_89]; exact At_nN _ _ _ _
  have hn_98 : pN S_89 q_88 = 10 := by rw [eS_89]; exact pN_sN_new
  have t_99 : At S_79 x 192 := tAt_sR eS_79 t_78
  have t_100 : At S_89 x 192 := by rw [eS_89]; exact At_sN t_99 hq_88
  refine r_putR X hw t_100 rfl 6 1206 (some q_88) rfl tyX12 (by decide) rfl inn_X12_init_12 tyX12_ok nmX12 (by decide) (X.2.2.2.1 (.fieldLink RX12 22 "SilkMillModel" "lotFrail" "[I") (by decide +kernel)) rfl (Or.inr ⟨rfl, hin, rfl⟩) (fun _ => rfl) rfl (fun _ => rfl) rfl (Nat.le_of_ble_eq_true rfl) (st_1206 _ _) dX12_init_41 (fun H locs hw => ?_)
  obtain ⟨S_101, eS_101⟩ : ∃ T, T = sR S_89 1206 x (some q_88) := ⟨_, rfl⟩
  rw [← eS_101] at hw
  have ph_102 : Phc S_101 = Phc S + 0 := (show Phc S_101 = Phc S_89 from Ph_rawR t_100 (by decide) eS_101).trans ph_90
  have ph_103 : Phs S_101 = Phs S + 0 := (show Phs S_101 = Phs S_89 from Ph_rawR t_100 (by decide) eS_101).trans ph_91
  clear ph_90
  clear ph_91
  have hK_104 : Kq S S_101 x := hK_92.sR eS_101
  have hg_105 : GX S_101 := by rw [eS_101]; exact GX_rawR hg_93 t_100 (by decide +kernel)
  have zi_106 : Zi S_101 x := Zi_sR zi_94 eS_101
  have fz_107 : Fz S_101 x [(1206, q_88, 334, 10), (1205, q_66, 314, 10), (1204, q_44, 294, 10), (1203, q_22, 274, 10), (1202, q_1, 254, 10)] := Fz_add fz_95 eS_101 ha_97 hn_98 az_q_88 rfl
  have fd_108 : Fe S_101 x [] := Fe_sR fd_96 eS_101 rfl
  clear zi_94 fz_95 fd_96
  have h_109 : pR S_101 1206 x = some q_88 := tR_sRs eS_101
  refine lv_aload_n X.1 X.2.1 dX12_init_44 rfl (lv_at hl 0 rfl) ?_
  refine lv_sipush (v := 600) X.1 X.2.1 dX12_init_45 (by decide) ?_
  refine r_newI (N := 600) X hw 354 650 6 rfl (X.2.2.2.1 (.arrayClass .int) (by decide +kernel)) (z_nn ti_600 (by omega)) (by decide) (by decide) (by show 5 + 1 ≤ 6; omega) (by show 50 + 600 ≤ 650; omega) (by show 6 ≤ 48; omega) (by show 650 ≤ 182647; omega) dX12_init_48 (fun q_110 H hq_110 hw => ?_)
  obtain ⟨S_111, eS_111⟩ : ∃ T, T = sN S_101 q_110 354 600 := ⟨_, rfl⟩
  rw [← eS_111] at hw
  have ph_112 : Phc S_111 = Phc S + 0 := (show Phc S_111 = Phc S_101 from Ph_sN' hg_105.ci hq_110 eS_111 (by decide)).trans ph_102
  have ph_113 : Phs S_111 = Phs S + 0 := (show Phs S_111 = Phs S_101 from Ph_sN' hg_105.ci hq_110 eS_111 (by decide)).trans ph_103
  clear ph_102
  clear ph_103
  have hK_114 : Kq S S_111 x := hK_104.sN hq_110 eS_111
  have hg_115 : GX S_111 := by rw [eS_111]; exact GX_N hg_105 hq_110 (by decide +kernel)
  have zi_116 : Zi S_111 x := Zi_sN zi_106 eS_111
  have az_q_110 : pA S_111 q_110 = fun _ => 0 := by rw [eS_111]; exact pA_sN_new
  have fz_117 : Fz S_111 x [(1206, q_88, 334, 10), (1205, q_66, 314, 10), (1204, q_44, 294, 10), (1203, q_22, 274, 10), (1202, q_1, 254, 10)] := Fz_sN fz_107 hq_110 eS_111
  have fd_118 : Fe S_111 x [] := Fe_sN fd_108 hq_110 eS_111
  clear zi_106 fz_107 fd_108
  have hn0_q_110 := hK_104.new hq_110
  have ha_119 : At S_111 q_110 354 := by rw [eS_111]; exact At_nN _ _ _ _
  have hn_120 : pN S_111 q_110 = 600 := by rw [eS_111]; exact pN_sN_new
  have t_121 : At S_101 x 192 := tAt_sR eS_101 t_100
  have t_122 : At S_111 x 192 := by rw [eS_111]; exact At_sN t_121 hq_110
  refine r_putR X hw t_122 rfl 7 1207 (some q_110) rfl tyX12 (by decide) rfl inn_X12_init_12 tyX12_ok nmX12 (by decide) (X.2.2.2.1 (.fieldLink RX12 25 "SilkMillModel" "stand" "[I") (by decide +kernel)) rfl (Or.inr ⟨rfl, hin, rfl⟩) (fun _ => rfl) rfl (fun _ => rfl) rfl (Nat.le_of_ble_eq_true rfl) (st_1207 _ _) dX12_init_50 (fun H locs hw => ?_)
  obtain ⟨S_123, eS_123⟩ : ∃ T, T = sR S_111 1207 x (some q_110) := ⟨_, rfl⟩
  rw [← eS_123] at hw
  have ph_124 : Phc S_123 = Phc S + 0 := (show Phc S_123 = Phc S_111 from Ph_rawR t_122 (by decide) eS_123).trans ph_112
  have ph_125 : Phs S_123 = Phs S + 0 := (show Phs S_123 = Phs S_111 from Ph_rawR t_122 (by decide) eS_123).trans ph_113
  clear ph_112
  clear ph_113
  have hK_126 : Kq S S_123 x := hK_114.sR eS_123
  have hg_127 : GX S_123 := by rw [eS_123]; exact GX_rawR hg_115 t_122 (by decide +kernel)
  have zi_128 : Zi S_123 x := Zi_sR zi_116 eS_123
  have fz_129 : Fz S_123 x [(1207, q_110, 354, 600), (1206, q_88, 334, 10), (1205, q_66, 314, 10), (1204, q_44, 294, 10), (1203, q_22, 274, 10), (1202, q_1, 254, 10)] := Fz_add fz_117 eS_123 ha_119 hn_120 az_q_110 rfl
  have fd_130 : Fe S_123 x [] := Fe_sR fd_118 eS_123 rfl
  clear zi_116 fz_117 fd_118
  have h_131 : pR S_123 1207 x = some q_110 := tR_sRs eS_123
  refine lv_aload_n X.1 X.2.1 dX12_init_53 rfl (lv_at hl 0 rfl) ?_
  refine lv_sipush (v := 600) X.1 X.2.1 dX12_init_54 (by decide) ?_
  refine r_newI (N := 600) X hw 374 1250 7 rfl (X.2.2.2.1 (.arrayClass .int) (by decide +kernel)) (z_nn ti_600 (by omega)) (by decide) (by decide) (by show 6 + 1 ≤ 7; omega) (by show 650 + 600 ≤ 1250; omega) (by show 7 ≤ 48; omega) (by show 1250 ≤ 182647; omega) dX12_init_57 (fun q_132 H hq_132 hw => ?_)
  obtain ⟨S_133, eS_133⟩ : ∃ T, T = sN S_123 q_132 374 600 := ⟨_, rfl⟩
  rw [← eS_133] at hw
  have ph_134 : Phc S_133 = Phc S + 0 := (show Phc S_133 = Phc S_123 from Ph_sN' hg_127.ci hq_132 eS_133 (by decide)).trans ph_124
  have ph_135 : Phs S_133 = Phs S + 0 := (show Phs S_133 = Phs S_123 from Ph_sN' hg_127.ci hq_132 eS_133 (by decide)).trans ph_125
  clear ph_124
  clear ph_125
  have hK_136 : Kq S S_133 x := hK_126.sN hq_132 eS_133
  have hg_137 : GX S_133 := by rw [eS_133]; exact GX_N hg_127 hq_132 (by decide +kernel)
  have zi_138 : Zi S_133 x := Zi_sN zi_128 eS_133
  have az_q_132 : pA S_133 q_132 = fun _ => 0 := by rw [eS_133]; exact pA_sN_new
  have fz_139 : Fz S_133 x [(1207, q_110, 354, 600), (1206, q_88, 334, 10), (1205, q_66, 314, 10), (1204, q_44, 294, 10), (1203, q_22, 274, 10), (1202, q_1, 254, 10)] := Fz_sN fz_129 hq_132 eS_133
  have fd_140 : Fe S_133 x [] := Fe_sN fd_130 hq_132 eS_133
  clear zi_128 fz_129 fd_130
  have hn0_q_132 := hK_126.new hq_132
  have ha_141 : At S_133 q_132 374 := by rw [eS_133]; exact At_nN _ _ _ _
  have hn_142 : pN S_133 q_132 = 600 := by rw [eS_133]; exact pN_sN_new
  have t_143 : At S_123 x 192 := tAt_sR eS_123 t_122
  have t_144 : At S_133 x 192 := by rw [eS_133]; exact At_sN t_143 hq_132
  refine r_putR X hw t_144 rfl 8 1208 (some q_132) rfl tyX12 (by decide) rfl inn_X12_init_12 tyX12_ok nmX12 (by decide) (X.2.2.2.1 (.fieldLink RX12 28 "SilkMillModel" "place" "[I") (by decide +kernel)) rfl (Or.inr ⟨rfl, hin, rfl⟩) (fun _ => rfl) rfl (fun _ => rfl) rfl (Nat.le_of_ble_eq_true rfl) (st_1208 _ _) dX12_init_59 (fun H locs hw => ?_)
  obtain ⟨S_145, eS_145⟩ : ∃ T, T = sR S_133 1208 x (some q_132) := ⟨_, rfl⟩
  rw [← eS_145] at hw
  have ph_146 : Phc S_145 = Phc S + 0 := (show Phc S_145 = Phc S_133 from Ph_rawR t_144 (by decide) eS_145).trans ph_134
  have ph_147 : Phs S_145 = Phs S + 0 := (show Phs S_145 = Phs S_133 from Ph_rawR t_144 (by decide) eS_145).trans ph_135
  clear ph_134
  clear ph_135
  have hK_148 : Kq S S_145 x := hK_136.sR eS_145
  have hg_149 : GX S_145 := by rw [eS_145]; exact GX_rawR hg_137 t_144 (by decide +kernel)
  have zi_150 : Zi S_145 x := Zi_sR zi_138 eS_145
  have fz_151 : Fz S_145 x [(1208, q_132, 374, 600), (1207, q_110, 354, 600), (1206, q_88, 334, 10), (1205, q_66, 314, 10), (1204, q_44, 294, 10), (1203, q_22, 274, 10), (1202, q_1, 254, 10)] := Fz_add fz_139 eS_145 ha_141 hn_142 az_q_132 rfl
  have fd_152 : Fe S_145 x [] := Fe_sR fd_140 eS_145 rfl
  clear zi_138 fz_139 fd_140
  have h_153 : pR S_145 1208 x = some q_132 := tR_sRs eS_145
  refine lv_aload_n X.1 X.2.1 dX12_init_62 rfl (lv_at hl 0 rfl) ?_
  refine lv_sipush (v := 600) X.1 X.2.1 dX12_init_63 (by decide) ?_
  refine r_newI (N := 600) X hw 394 1850 8 rfl (X.2.2.2.1 (.arrayClass .int) (by decide +kernel)) (z_nn ti_600 (by omega)) (by decide) (by decide) (by show 7 + 1 ≤ 8; omega) (by show 1250 + 600 ≤ 1850; omega) (by show 8 ≤ 48; omega) (by show 1850 ≤ 182647; omega) dX12_init_66 (fun q_154 H hq_154 hw => ?_)
  obtain ⟨S_155, eS_155⟩ : ∃ T, T = sN S_145 q_154 394 600 := ⟨_, rfl⟩
  rw [← eS_155] at hw
  have ph_156 : Phc S_155 = Phc S + 0 := (show Phc S_155 = Phc S_145 from Ph_sN' hg_149.ci hq_154 eS_155 (by decide)).trans ph_146
  have ph_157 : Phs S_155 = Phs S + 0 := (show Phs S_155 = Phs S_145 from Ph_sN' hg_149.ci hq_154 eS_155 (by decide)).trans ph_147
  clear ph_146
  clear ph_147
  have hK_158 : Kq S S_155 x := hK_148.sN hq_154 eS_155
  have hg_159 : GX S_155 := by rw [eS_155]; exact GX_N hg_149 hq_154 (by decide +kernel)
  have zi_160 : Zi S_155 x := Zi_sN zi_150 eS_155
  have az_q_154 : pA S_155 q_154 = fun _ => 0 := by rw [eS_155]; exact pA_sN_new
  have fz_161 : Fz S_155 x [(1208, q_132, 374, 600), (1207, q_110, 354, 600), (1206, q_88, 334, 10), (1205, q_66, 314, 10), (1204, q_44, 294, 10), (1203, q_22, 274, 10), (1202, q_1, 254, 10)] := Fz_sN fz_151 hq_154 eS_155
  have fd_162 : Fe S_155 x [] := Fe_sN fd_152 hq_154 eS_155
  clear zi_150 fz_151 fd_152
  have hn0_q_154 := hK_148.new hq_154
  have ha_163 : At S_155 q_154 394 := by rw [eS_155]; exact At_nN _ _ _ _
  have hn_164 : pN S_155 q_154 = 600 := by rw [eS_155]; exact pN_sN_new
  have t_165 : At S_145 x 192 := tAt_sR eS_145 t_144
  have t_166 : At S_155 x 192 := by rw [eS_155]; exact At_sN t_165 hq_154
  refine r_putR X hw t_166 rfl 9 1209 (some q_154) rfl tyX12 (by decide) rfl inn_X12_init_12 tyX12_ok nmX12 (by decide) (X.2.2.2.1 (.fieldLink RX12 31 "SilkMillModel" "potOf" "[I") (by decide +kernel)) rfl (Or.inr ⟨rfl, hin, rfl⟩) (fun _ => rfl) rfl (fun _ => rfl) rfl (Nat.le_of_ble_eq_true rfl) (st_1209 _ _) dX12_init_68 (fun H locs hw => ?_)
  obtain ⟨S_167, eS_167⟩ : ∃ T, T = sR S_155 1209 x (some q_154) := ⟨_, rfl⟩
  rw [← eS_167] at hw
  have ph_168 : Phc S_167 = Phc S + 0 := (show Phc S_167 = Phc S_155 from Ph_rawR t_166 (by decide) eS_167).trans ph_156
  have ph_169 : Phs S_167 = Phs S + 0 := (show Phs S_167 = Phs S_155 from Ph_rawR t_166 (by decide) eS_167).trans ph_157
  clear ph_156
  clear ph_157
  have hK_170 : Kq S S_167 x := hK_158.sR eS_167
  have hg_171 : GX S_167 := by rw [eS_167]; exact GX_rawR hg_159 t_166 (by decide +kernel)
  have zi_172 : Zi S_167 x := Zi_sR zi_160 eS_167
  have fz_173 : Fz S_167 x [(1209, q_154, 394, 600), (1208, q_132, 374, 600), (1207, q_110, 354, 600), (1206, q_88, 334, 10), (1205, q_66, 314, 10), (1204, q_44, 294, 10), (1203, q_22, 274, 10), (1202, q_1, 254, 10)] := Fz_add fz_161 eS_167 ha_163 hn_164 az_q_154 rfl
  have fd_174 : Fe S_167 x [] := Fe_sR fd_162 eS_167 rfl
  clear zi_160 fz_161 fd_162
  have h_175 : pR S_167 1209 x = some q_154 := tR_sRs eS_167
  refine lv_aload_n X.1 X.2.1 dX12_init_71 rfl (lv_at hl 0 rfl) ?_
  refine lv_bipush (v := 8) X.1 X.2.1 dX12_init_72 (by decide) ?_
  refine r_newI (N := 8) X hw 414 1858 9 rfl (X.2.2.2.1 (.arrayClass .int) (by decide +kernel)) (z_nn ti_8 (by omega)) (by decide) (by decide) (by show 8 + 1 ≤ 9; omega) (by show 1850 + 8 ≤ 1858; omega) (by show 9 ≤ 48; omega) (by show 1858 ≤ 182647; omega) dX12_init_74 (fun q_176 H hq_176 hw => ?_)
  obtain ⟨S_177, eS_177⟩ : ∃ T, T = sN S_167 q_176 414 8 := ⟨_, rfl⟩
  rw [← eS_177] at hw
  have ph_178 : Phc S_177 = Phc S + 0 := (show Phc S_177 = Phc S_167 from Ph_sN' hg_171.ci hq_176 eS_177 (by decide)).trans ph_168
  have ph_179 : Phs S_177 = Phs S + 0 := (show Phs S_177 = Phs S_167 from Ph_sN' hg_171.ci hq_176 eS_177 (by decide)).trans ph_169
  clear ph_168
  clear ph_169
  have hK_180 : Kq S S_177 x := hK_170.sN hq_176 eS_177
  have hg_181 : GX S_177 := by rw [eS_177]; exact GX_N hg_171 hq_176 (by decide +kernel)
  have zi_182 : Zi S_177 x := Zi_sN zi_172 eS_177
  have az_q_176 : pA S_177 q_176 = fun _ => 0 := by rw [eS_177]; exact pA_sN_new
  have fz_183 : Fz S_177 x [(1209, q_154, 394, 600), (1208, q_132, 374, 600), (1207, q_110, 354, 600), (1206, q_88, 334, 10), (1205, q_66, 314, 10), (1204, q_44, 294, 10), (1203, q_22, 274, 10), (1202, q_1, 254, 10)] := Fz_sN fz_173 hq_176 eS_177
  have fd_184 : Fe S_177 x [] := Fe_sN fd_174 hq_176 eS_177
  clear zi_172 fz_173 fd_174
  have hn0_q_176 := hK_170.new hq_176
  have ha_185 : At S_177 q_176 414 := by rw [eS_177]; exact At_nN _ _ _ _
  have hn_186 : pN S_177 q_176 = 8 := by rw [eS_177]; exact pN_sN_new
  refine lv_dup X.1 X.2.1 dX12_init_76 rfl ?_
  refine lv_iconst (v := 0) X.1 X.2.1 dX12_init_77 (by decide) ?_
  refine lv_bipush (v := 100) X.1 X.2.1 dX12_init_78 (by decide) ?_
  refine r_iast X hw ha_185 rfl (by rw [hn_186]; exact z_ix ti_0 (by omega) (by omega)) dX12_init_80 (fun H locs hw => ?_)
  obtain ⟨S_187, eS_187⟩ : ∃ T, T = sA S_177 q_176 (upd (pA S_177 q_176) (Int32.toNatClampNeg (0)) (100)) := ⟨_, rfl⟩
  rw [← eS_187] at hw
  have ph_188 : Phc S_187 = Phc S + 0 := (show Phc S_187 = Phc S_177 from Ph_sA eS_187).trans ph_178
  have ph_189 : Phs S_187 = Phs S + 0 := (show Phs S_187 = Phs S_177 from Ph_sA eS_187).trans ph_179
  clear ph_178
  clear ph_179
  have hK_190 : Kq S S_187 x := hK_180.sA hn0_q_176 eS_187
  have hg_191 : GX S_187 := by rw [eS_187]; exact uA_414 hg_181 ha_185
  have zi_192 : Zi S_187 x := Zi_sA zi_182 eS_187
  have fz_193 : Fz S_187 x [(1209, q_154, 394, 600), (1208, q_132, 374, 600), (1207, q_110, 354, 600), (1206, q_88, 334, 10), (1205, q_66, 314, 10), (1204, q_44, 294, 10), (1203, q_22, 274, 10), (1202, q_1, 254, 10)] := Fz_sA fz_183 ha_185 eS_187 rfl
  have fd_194 : Fe S_187 x [] := Fe_sA fd_184 eS_187
  clear zi_182 fz_183 fd_184
  have h_195 : pA S_187 q_176 (Int32.toNatClampNeg (0)) = 100 := tA_sAs eS_187
  refine lv_dup X.1 X.2.1 dX12_init_81 rfl ?_
  refine lv_iconst (v := 1) X.1 X.2.1 dX12_init_82 (by decide) ?_
  refine lv_bipush (v := 104) X.1 X.2.1 dX12_init_83 (by decide) ?_
  have t_196 : At S_187 q_176 414 := tAt_sA eS_187 ha_185
  have t_197 : pN S_187 q_176 = 8 := tN_sA eS_187 hn_186
  clear hn_186
  refine r_iast X hw t_196 rfl (by rw [t_197]; exact z_ix ti_1 (by omega) (by omega)) dX12_init_85 (fun H locs hw => ?_)
  obtain ⟨S_198, eS_198⟩ : ∃ T, T = sA S_187 q_176 (upd (pA S_187 q_176) (Int32.toNatClampNeg (1)) (104)) := ⟨_, rfl⟩
  rw [← eS_198] at hw
  have ph_199 : Phc S_198 = Phc S + 0 := (show Phc S_198 = Phc S_187 from Ph_sA eS_198).trans ph_188
  have ph_200 : Phs S_198 = Phs S + 0 := (show Phs S_198 = Phs S_187 from Ph_sA eS_198).trans ph_189
  clear ph_188
  clear ph_189
  have hK_201 : Kq S S_198 x := hK_190.sA hn0_q_176 eS_198
  have hg_202 : GX S_198 := by rw [eS_198]; exact uA_414 hg_191 t_196
  have zi_203 : Zi S_198 x := Zi_sA zi_192 eS_198
  have fz_204 : Fz S_198 x [(1209, q_154, 394, 600), (1208, q_132, 374, 600), (1207, q_110, 354, 600), (1206, q_88, 334, 10), (1205, q_66, 314, 10), (1204, q_44, 294, 10), (1203, q_22, 274, 10), (1202, q_1, 254, 10)] := Fz_sA fz_193 t_196 eS_198 rfl
  have fd_205 : Fe S_198 x [] := Fe_sA fd_194 eS_198
  clear zi_192 fz_193 fd_194
  have h_206 : pA S_198 q_176 (Int32.toNatClampNeg (1)) = 104 := tA_sAs eS_198
  refine lv_dup X.1 X.2.1 dX12_init_86 rfl ?_
  refine lv_iconst (v := 2) X.1 X.2.1 dX12_init_87 (by decide) ?_
  refine lv_bipush (v := 102) X.1 X.2.1 dX12_init_88 (by decide) ?_
  have t_207 : At S_198 q_176 414 := tAt_sA eS_198 t_196
  have t_208 : pN S_198 q_176 = 8 := tN_sA eS_198 t_197
  clear t_197
  refine r_iast X hw t_207 rfl (by rw [t_208]; exact z_ix ti_2 (by omega) (by omega)) dX12_init_90 (fun H locs hw => ?_)
  obtain ⟨S_209, eS_209⟩ : ∃ T, T = sA S_198 q_176 (upd (pA S_198 q_176) (Int32.toNatClampNeg (2)) (102)) := ⟨_, rfl⟩
  rw [← eS_209] at hw
  have ph_210 : Phc S_209 = Phc S + 0 := (show Phc S_209 = Phc S_198 from Ph_sA eS_209).trans ph_199
  have ph_211 : Phs S_209 = Phs S + 0 := (show Phs S_209 = Phs S_198 from Ph_sA eS_209).trans ph_200
  clear ph_199
  clear ph_200
  have hK_212 : Kq S S_209 x := hK_201.sA hn0_q_176 eS_209
  have hg_213 : GX S_209 := by rw [eS_209]; exact uA_414 hg_202 t_207
  have zi_214 : Zi S_209 x := Zi_sA zi_203 eS_209
  have fz_215 : Fz S_209 x [(1209, q_154, 394, 600), (1208, q_132, 374, 600), (1207, q_110, 354, 600), (1206, q_88, 334, 10), (1205, q_66, 314, 10), (1204, q_44, 294, 10), (1203, q_22, 274, 10), (1202, q_1, 254, 10)] := Fz_sA fz_204 t_207 eS_209 rfl
  have fd_216 : Fe S_209 x [] := Fe_sA fd_205 eS_209
  clear zi_203 fz_204 fd_205
  have h_217 : pA S_209 q_176 (Int32.toNatClampNeg (2)) = 102 := tA_sAs eS_209
  refine lv_dup X.1 X.2.1 dX12_init_91 rfl ?_
  refine lv_iconst (v := 3) X.1 X.2.1 dX12_init_92 (by decide) ?_
  refine lv_bipush (v := 97) X.1 X.2.1 dX12_init_93 (by decide) ?_
  have t_218 : At S_209 q_176 414 := tAt_sA eS_209 t_207
  have t_219 : pN S_209 q_176 = 8 := tN_sA eS_209 t_208
  clear t_208
  refine r_iast X hw t_218 rfl (by rw [t_219]; exact z_ix ti_3 (by omega) (by omega)) dX12_init_95 (fun H locs hw => ?_)
  obtain ⟨S_220, eS_220⟩ : ∃ T, T = sA S_209 q_176 (upd (pA S_209 q_176) (Int32.toNatClampNeg (3)) (97)) := ⟨_, rfl⟩
  rw [← eS_220] at hw
  have ph_221 : Phc S_220 = Phc S + 0 := (show Phc S_220 = Phc S_209 from Ph_sA eS_220).trans ph_210
  have ph_222 : Phs S_220 = Phs S + 0 := (show Phs S_220 = Phs S_209 from Ph_sA eS_220).trans ph_211
  clear ph_210
  clear ph_211
  have hK_223 : Kq S S_220 x := hK_212.sA hn0_q_176 eS_220
  have hg_224 : GX S_220 := by rw [eS_220]; exact uA_414 hg_213 t_218
  have zi_225 : Zi S_220 x := Zi_sA zi_214 eS_220
  have fz_226 : Fz S_220 x [(1209, q_154, 394, 600), (1208, q_132, 374, 600), (1207, q_110, 354, 600), (1206, q_88, 334, 10), (1205, q_66, 314, 10), (1204, q_44, 294, 10), (1203, q_22, 274, 10), (1202, q_1, 254, 10)] := Fz_sA fz_215 t_218 eS_220 rfl
  have fd_227 : Fe S_220 x [] := Fe_sA fd_216 eS_220
  clear zi_214 fz_215 fd_216
  have h_228 : pA S_220 q_176 (Int32.toNatClampNeg (3)) = 97 := tA_sAs eS_220
  refine lv_dup X.1 X.2.1 dX12_init_96 rfl ?_
  refine lv_iconst (v := 4) X.1 X.2.1 dX12_init_97 (by decide) ?_
  refine lv_bipush (v := 90) X.1 X.2.1 dX12_init_98 (by decide) ?_
  have t_229 : At S_220 q_176 414 := tAt_sA eS_220 t_218
  have t_230 : pN S_220 q_176 = 8 := tN_sA eS_220 t_219
  clear t_219
  refine r_iast X hw t_229 rfl (by rw [t_230]; exact z_ix ti_4 (by omega) (by omega)) dX12_init_100 (fun H locs hw => ?_)
  obtain ⟨S_231, eS_231⟩ : ∃ T, T = sA S_220 q_176 (upd (pA S_220 q_176) (Int32.toNatClampNeg (4)) (90)) := ⟨_, rfl⟩
  rw [← eS_231] at hw
  have ph_232 : Phc S_231 = Phc S + 0 := (show Phc S_231 = Phc S_220 from Ph_sA eS_231).trans ph_221
  have ph_233 : Phs S_231 = Phs S + 0 := (show Phs S_231 = Phs S_220 from Ph_sA eS_231).trans ph_222
  clear ph_221
  clear ph_222
  have hK_234 : Kq S S_231 x := hK_223.sA hn0_q_176 eS_231
  have hg_235 : GX S_231 := by rw [eS_231]; exact uA_414 hg_224 t_229
  have zi_236 : Zi S_231 x := Zi_sA zi_225 eS_231
  have fz_237 : Fz S_231 x [(1209, q_154, 394, 600), (1208, q_132, 374, 600), (1207, q_110, 354, 600), (1206, q_88, 334, 10), (1205, q_66, 314, 10), (1204, q_44, 294, 10), (1203, q_22, 274, 10), (1202, q_1, 254, 10)] := Fz_sA fz_226 t_229 eS_231 rfl
  have fd_238 : Fe S_231 x [] := Fe_sA fd_227 eS_231
  clear zi_225 fz_226 fd_227
  have h_239 : pA S_231 q_176 (Int32.toNatClampNeg (4)) = 90 := tA_sAs eS_231
  refine lv_dup X.1 X.2.1 dX12_init_101 rfl ?_
  refine lv_iconst (v := 5) X.1 X.2.1 dX12_init_102 (by decide) ?_
  refine lv_bipush (v := 81) X.1 X.2.1 dX12_init_103 (by decide) ?_
  have t_240 : At S_231 q_176 414 := tAt_sA eS_231 t_229
  have t_241 : pN S_231 q_176 = 8 := tN_sA eS_231 t_230
  clear t_230
  refine r_iast X hw t_240 rfl (by rw [t_241]; exact z_ix ti_5 (by omega) (by omega)) dX12_init_105 (fun H locs hw => ?_)
  obtain ⟨S_242, eS_242⟩ : ∃ T, T = sA S_231 q_176 (upd (pA S_231 q_176) (Int32.toNatClampNeg (5)) (81)) := ⟨_, rfl⟩
  rw [← eS_242] at hw
  have ph_243 : Phc S_242 = Phc S + 0 := (show Phc S_242 = Phc S_231 from Ph_sA eS_242).trans ph_232
  have ph_244 : Phs S_242 = Phs S + 0 := (show Phs S_242 = Phs S_231 from Ph_sA eS_242).trans ph_233
  clear ph_232
  clear ph_233
  have hK_245 : Kq S S_242 x := hK_234.sA hn0_q_176 eS_242
  have hg_246 : GX S_242 := by rw [eS_242]; exact uA_414 hg_235 t_240
  have zi_247 : Zi S_242 x := Zi_sA zi_236 eS_242
  have fz_248 : Fz S_242 x [(1209, q_154, 394, 600), (1208, q_132, 374, 600), (1207, q_110, 354, 600), (1206, q_88, 334, 10), (1205, q_66, 314, 10), (1204, q_44, 294, 10), (1203, q_22, 274, 10), (1202, q_1, 254, 10)] := Fz_sA fz_237 t_240 eS_242 rfl
  have fd_249 : Fe S_242 x [] := Fe_sA fd_238 eS_242
  clear zi_236 fz_237 fd_238
  have h_250 : pA S_242 q_176 (Int32.toNatClampNeg (5)) = 81 := tA_sAs eS_242
  refine lv_dup X.1 X.2.1 dX12_init_106 rfl ?_
  refine lv_bipush (v := 6) X.1 X.2.1 dX12_init_107 (by decide) ?_
  refine lv_bipush (v := 70) X.1 X.2.1 dX12_init_109 (by decide) ?_
  have t_251 : At S_242 q_176 414 := tAt_sA eS_242 t_240
  have t_252 : pN S_242 q_176 = 8 := tN_sA eS_242 t_241
  clear t_241
  refine r_iast X hw t_251 rfl (by rw [t_252]; exact z_ix ti_6 (by omega) (by omega)) dX12_init_111 (fun H locs hw => ?_)
  obtain ⟨S_253, eS_253⟩ : ∃ T, T = sA S_242 q_176 (upd (pA S_242 q_176) (Int32.toNatClampNeg (6)) (70)) := ⟨_, rfl⟩
  rw [← eS_253] at hw
  have ph_254 : Phc S_253 = Phc S + 0 := (show Phc S_253 = Phc S_242 from Ph_sA eS_253).trans ph_243
  have ph_255 : Phs S_253 = Phs S + 0 := (show Phs S_253 = Phs S_242 from Ph_sA eS_253).trans ph_244
  clear ph_243
  clear ph_244
  have hK_256 : Kq S S_253 x := hK_245.sA hn0_q_176 eS_253
  have hg_257 : GX S_253 := by rw [eS_253]; exact uA_414 hg_246 t_251
  have zi_258 : Zi S_253 x := Zi_sA zi_247 eS_253
  have fz_259 : Fz S_253 x [(1209, q_154, 394, 600), (1208, q_132, 374, 600), (1207, q_110, 354, 600), (1206, q_88, 334, 10), (1205, q_66, 314, 10), (1204, q_44, 294, 10), (1203, q_22, 274, 10), (1202, q_1, 254, 10)] := Fz_sA fz_248 t_251 eS_253 rfl
  have fd_260 : Fe S_253 x [] := Fe_sA fd_249 eS_253
  clear zi_247 fz_248 fd_249
  have h_261 : pA S_253 q_176 (Int32.toNatClampNeg (6)) = 70 := tA_sAs eS_253
  refine lv_dup X.1 X.2.1 dX12_init_112 rfl ?_
  refine lv_bipush (v := 7) X.1 X.2.1 dX12_init_113 (by decide) ?_
  refine lv_bipush (v := 58) X.1 X.2.1 dX12_init_115 (by decide) ?_
  have t_262 : At S_253 q_176 414 := tAt_sA eS_253 t_251
  have t_263 : pN S_253 q_176 = 8 := tN_sA eS_253 t_252
  clear t_252
  refine r_iast X hw t_262 rfl (by rw [t_263]; exact z_ix ti_7 (by omega) (by omega)) dX12_init_117 (fun H locs hw => ?_)
  obtain ⟨S_264, eS_264⟩ : ∃ T, T = sA S_253 q_176 (upd (pA S_253 q_176) (Int32.toNatClampNeg (7)) (58)) := ⟨_, rfl⟩
  rw [← eS_264] at hw
  have ph_265 : Phc S_264 = Phc S + 0 := (show Phc S_264 = Phc S_253 from Ph_sA eS_264).trans ph_254
  have ph_266 : Phs S_264 = Phs S + 0 := (show Phs S_264 = Phs S_253 from Ph_sA eS_264).trans ph_255
  clear ph_254
  clear ph_255
  have hK_267 : Kq S S_264 x := hK_256.sA hn0_q_176 eS_264
  have hg_268 : GX S_264 := by rw [eS_264]; exact uA_414 hg_257 t_262
  have zi_269 : Zi S_264 x := Zi_sA zi_258 eS_264
  have fz_270 : Fz S_264 x [(1209, q_154, 394, 600), (1208, q_132, 374, 600), (1207, q_110, 354, 600), (1206, q_88, 334, 10), (1205, q_66, 314, 10), (1204, q_44, 294, 10), (1203, q_22, 274, 10), (1202, q_1, 254, 10)] := Fz_sA fz_259 t_262 eS_264 rfl
  have fd_271 : Fe S_264 x [] := Fe_sA fd_260 eS_264
  clear zi_258 fz_259 fd_260
  have h_272 : pA S_264 q_176 (Int32.toNatClampNeg (7)) = 58 := tA_sAs eS_264
  have t_273 : At S_167 x 192 := tAt_sR eS_167 t_166
  have t_274 : At S_177 x 192 := by rw [eS_177]; exact At_sN t_273 hq_176
  have t_275 : At S_187 x 192 := tAt_sA eS_187 t_274
  have t_276 : At S_198 x 192 := tAt_sA eS_198 t_275
  have t_277 : At S_209 x 192 := tAt_sA eS_209 t_276
  have t_278 : At S_220 x 192 := tAt_sA eS_220 t_277
  have t_279 : At S_231 x 192 := tAt_sA eS_231 t_278
  have t_280 : At S_242 x 192 := tAt_sA eS_242 t_279
  have t_281 : At S_253 x 192 := tAt_sA eS_253 t_280
  have t_282 : At S_264 x 192 := tAt_sA eS_264 t_281
  have t_283 : At S_264 q_176 414 := tAt_sA eS_264 t_262
  refine r_putR X hw t_282 rfl 10 1210 (some q_176) rfl tyX12 (by decide) rfl inn_X12_init_12 tyX12_ok nmX12 (by decide) (X.2.2.2.1 (.fieldLink RX12 34 "SilkMillModel" "thin" "[I") (by decide +kernel)) rfl (Or.inr ⟨rfl, hin, rfl⟩) (fun _ => rfl) rfl (fun _ => rfl) rfl (Nat.le_of_ble_eq_true rfl) (st_1210 _ _) dX12_init_118 (fun H locs hw => ?_)
  obtain ⟨S_284, eS_284⟩ : ∃ T, T = sR S_264 1210 x (some q_176) := ⟨_, rfl⟩
  rw [← eS_284] at hw
  have ph_285 : Phc S_284 = Phc S + 0 := (show Phc S_284 = Phc S_264 from Ph_rawR t_282 (by decide) eS_284).trans ph_265
  have ph_286 : Phs S_284 = Phs S + 0 := (show Phs S_284 = Phs S_264 from Ph_rawR t_282 (by decide) eS_284).trans ph_266
  clear ph_265
  clear ph_266
  have hK_287 : Kq S S_284 x := hK_267.sR eS_284
  have hg_288 : GX S_284 := by rw [eS_284]; exact GX_rawR hg_268 t_282 (by decide +kernel)
  have zi_289 : Zi S_284 x := Zi_sR zi_269 eS_284
  have t_292 : pN S_264 q_176 = 8 := tN_sA eS_264 t_263
  clear t_263
  have fz_290 : Fz S_284 x [(1209, q_154, 394, 600), (1208, q_132, 374, 600), (1207, q_110, 354, 600), (1206, q_88, 334, 10), (1205, q_66, 314, 10), (1204, q_44, 294, 10), (1203, q_22, 274, 10), (1202, q_1, 254, 10)] := Fz_sR fz_270 eS_284 rfl
  have fd_291 : Fe S_284 x [(1210, q_176, 414, 8)] := Fe_add fd_271 eS_284 t_283 t_292 rfl
  clear zi_269 fz_270 fd_271
  have h_293 : pR S_284 1210 x = some q_176 := tR_sRs eS_284
  refine lv_aload_n X.1 X.2.1 dX12_init_121 rfl (lv_at hl 0 rfl) ?_
  refine lv_iconst (v := 4) X.1 X.2.1 dX12_init_122 (by decide) ?_
  refine r_newI (N := 4) X hw 454 1862 10 rfl (X.2.2.2.1 (.arrayClass .int) (by decide +kernel)) (z_nn ti_4 (by omega)) (by decide) (by decide) (by show 9 + 1 ≤ 10; omega) (by show 1858 + 4 ≤ 1862; omega) (by show 10 ≤ 48; omega) (by show 1862 ≤ 182647; omega) dX12_init_123 (fun q_294 H hq_294 hw => ?_)
  obtain ⟨S_295, eS_295⟩ : ∃ T, T = sN S_284 q_294 454 4 := ⟨_, rfl⟩
  rw [← eS_295] at hw
  have ph_296 : Phc S_295 = Phc S + 0 := (show Phc S_295 = Phc S_284 from Ph_sN' hg_288.ci hq_294 eS_295 (by decide)).trans ph_285
  have ph_297 : Phs S_295 = Phs S + 0 := (show Phs S_295 = Phs S_284 from Ph_sN' hg_288.ci hq_294 eS_295 (by decide)).trans ph_286
  clear ph_285
  clear ph_286
  have hK_298 : Kq S S_295 x := hK_287.sN hq_294 eS_295
  have hg_299 : GX S_295 := by rw [eS_295]; exact GX_N hg_288 hq_294 (by decide +kernel)
  have zi_300 : Zi S_295 x := Zi_sN zi_289 eS_295
  have az_q_294 : pA S_295 q_294 = fun _ => 0 := by rw [eS_295]; exact pA_sN_new
  have fz_301 : Fz S_295 x [(1209, q_154, 394, 600), (1208, q_132, 374, 600), (1207, q_110, 354, 600), (1206, q_88, 334, 10), (1205, q_66, 314, 10), (1204, q_44, 294, 10), (1203, q_22, 274, 10), (1202, q_1, 254, 10)] := Fz_sN fz_290 hq_294 eS_295
  have fd_302 : Fe S_295 x [(1210, q_176, 414, 8)] := Fe_sN fd_291 hq_294 eS_295
  clear zi_289 fz_290 fd_291
  have hn0_q_294 := hK_287.new hq_294
  have ha_303 : At S_295 q_294 454 := by rw [eS_295]; exact At_nN _ _ _ _
  have hn_304 : pN S_295 q_294 = 4 := by rw [eS_295]; exact pN_sN_new
  have t_305 : At S_284 x 192 := tAt_sR eS_284 t_282
  have t_306 : At S_295 x 192 := by rw [eS_295]; exact At_sN t_305 hq_294
  refine r_putR X hw t_306 rfl 12 1212 (some q_294) rfl tyX12 (by decide) rfl inn_X12_init_12 tyX12_ok nmX12 (by decide) (X.2.2.2.1 (.fieldLink RX12 37 "SilkMillModel" "aim" "[I") (by decide +kernel)) rfl (Or.inr ⟨rfl, hin, rfl⟩) (fun _ => rfl) rfl (fun _ => rfl) rfl (Nat.le_of_ble_eq_true rfl) (st_1212 _ _) dX12_init_125 (fun H locs hw => ?_)
  obtain ⟨S_307, eS_307⟩ : ∃ T, T = sR S_295 1212 x (some q_294) := ⟨_, rfl⟩
  rw [← eS_307] at hw
  have ph_308 : Phc S_307 = Phc S + 0 := (show Phc S_307 = Phc S_295 from Ph_rawR t_306 (by decide) eS_307).trans ph_296
  have ph_309 : Phs S_307 = Phs S + 0 := (show Phs S_307 = Phs S_295 from Ph_rawR t_306 (by decide) eS_307).trans ph_297
  clear ph_296
  clear ph_297
  have hK_310 : Kq S S_307 x := hK_298.sR eS_307
  have hg_311 : GX S_307 := by rw [eS_307]; exact GX_rawR hg_299 t_306 (by decide +kernel)
  have zi_312 : Zi S_307 x := Zi_sR zi_300 eS_307
  have fz_313 : Fz S_307 x [(1212, q_294, 454, 4), (1209, q_154, 394, 600), (1208, q_132, 374, 600), (1207, q_110, 354, 600), (1206, q_88, 334, 10), (1205, q_66, 314, 10), (1204, q_44, 294, 10), (1203, q_22, 274, 10), (1202, q_1, 254, 10)] := Fz_add fz_301 eS_307 ha_303 hn_304 az_q_294 rfl
  have fd_314 : Fe S_307 x [(1210, q_176, 414, 8)] := Fe_sR fd_302 eS_307 rfl
  clear zi_300 fz_301 fd_302
  have h_315 : pR S_307 1212 x = some q_294 := tR_sRs eS_307
  refine lv_aload_n X.1 X.2.1 dX12_init_128 rfl (lv_at hl 0 rfl) ?_
  refine lv_iconst (v := 4) X.1 X.2.1 dX12_init_129 (by decide) ?_
  refine r_newI (N := 4) X hw 474 1866 11 rfl (X.2.2.2.1 (.arrayClass .int) (by decide +kernel)) (z_nn ti_4 (by omega)) (by decide) (by decide) (by show 10 + 1 ≤ 11; omega) (by show 1862 + 4 ≤ 1866; omega) (by show 11 ≤ 48; omega) (by show 1866 ≤ 182647; omega) dX12_init_130 (fun q_316 H hq_316 hw => ?_)
  obtain ⟨S_317, eS_317⟩ : ∃ T, T = sN S_307 q_316 474 4 := ⟨_, rfl⟩
  rw [← eS_317] at hw
  have ph_318 : Phc S_317 = Phc S + 0 := (show Phc S_317 = Phc S_307 from Ph_sN' hg_311.ci hq_316 eS_317 (by decide)).trans ph_308
  have ph_319 : Phs S_317 = Phs S + 0 := (show Phs S_317 = Phs S_307 from Ph_sN' hg_311.ci hq_316 eS_317 (by decide)).trans ph_309
  clear ph_308
  clear ph_309
  have hK_320 : Kq S S_317 x := hK_310.sN hq_316 eS_317
  have hg_321 : GX S_317 := by rw [eS_317]; exact GX_N hg_311 hq_316 (by decide +kernel)
  have zi_322 : Zi S_317 x := Zi_sN zi_312 eS_317
  have az_q_316 : pA S_317 q_316 = fun _ => 0 := by rw [eS_317]; exact pA_sN_new
  have fz_323 : Fz S_317 x [(1212, q_294, 454, 4), (1209, q_154, 394, 600), (1208, q_132, 374, 600), (1207, q_110, 354, 600), (1206, q_88, 334, 10), (1205, q_66, 314, 10), (1204, q_44, 294, 10), (1203, q_22, 274, 10), (1202, q_1, 254, 10)] := Fz_sN fz_313 hq_316 eS_317
  have fd_324 : Fe S_317 x [(1210, q_176, 414, 8)] := Fe_sN fd_314 hq_316 eS_317
  clear zi_312 fz_313 fd_314
  have hn0_q_316 := hK_310.new hq_316
  have ha_325 : At S_317 q_316 474 := by rw [eS_317]; exact At_nN _ _ _ _
  have hn_326 : pN S_317 q_316 = 4 := by rw [eS_317]; exact pN_sN_new
  have t_327 : At S_307 x 192 := tAt_sR eS_307 t_306
  have t_328 : At S_317 x 192 := by rw [eS_317]; exact At_sN t_327 hq_316
  refine r_putR X hw t_328 rfl 13 1213 (some q_316) rfl tyX12 (by decide) rfl inn_X12_init_12 tyX12_ok nmX12 (by decide) (X.2.2.2.1 (.fieldLink RX12 40 "SilkMillModel" "find" "[I") (by decide +kernel)) rfl (Or.inr ⟨rfl, hin, rfl⟩) (fun _ => rfl) rfl (fun _ => rfl) rfl (Nat.le_of_ble_eq_true rfl) (st_1213 _ _) dX12_init_132 (fun H locs hw => ?_)
  obtain ⟨S_329, eS_329⟩ : ∃ T, T = sR S_317 1213 x (some q_316) := ⟨_, rfl⟩
  rw [← eS_329] at hw
  have ph_330 : Phc S_329 = Phc S + 0 := (show Phc S_329 = Phc S_317 from Ph_rawR t_328 (by decide) eS_329).trans ph_318
  have ph_331 : Phs S_329 = Phs S + 0 := (show Phs S_329 = Phs S_317 from Ph_rawR t_328 (by decide) eS_329).trans ph_319
  clear ph_318
  clear ph_319
  have hK_332 : Kq S S_329 x := hK_320.sR eS_329
  have hg_333 : GX S_329 := by rw [eS_329]; exact GX_rawR hg_321 t_328 (by decide +kernel)
  have zi_334 : Zi S_329 x := Zi_sR zi_322 eS_329
  have fz_335 : Fz S_329 x [(1213, q_316, 474, 4), (1212, q_294, 454, 4), (1209, q_154, 394, 600), (1208, q_132, 374, 600), (1207, q_110, 354, 600), (1206, q_88, 334, 10), (1205, q_66, 314, 10), (1204, q_44, 294, 10), (1203, q_22, 274, 10), (1202, q_1, 254, 10)] := Fz_add fz_323 eS_329 ha_325 hn_326 az_q_316 rfl
  have fd_336 : Fe S_329 x [(1210, q_176, 414, 8)] := Fe_sR fd_324 eS_329 rfl
  clear zi_322 fz_323 fd_324
  have h_337 : pR S_329 1213 x = some q_316 := tR_sRs eS_329
  refine lv_aload_n X.1 X.2.1 dX12_init_135 rfl (lv_at hl 0 rfl) ?_
  refine lv_iconst (v := 4) X.1 X.2.1 dX12_init_136 (by decide) ?_
  refine r_newI (N := 4) X hw 494 1870 12 rfl (X.2.2.2.1 (.arrayClass .int) (by decide +kernel)) (z_nn ti_4 (by omega)) (by decide) (by decide) (by show 11 + 1 ≤ 12; omega) (by show 1866 + 4 ≤ 1870; omega) (by show 12 ≤ 48; omega) (by show 1870 ≤ 182647; omega) dX12_init_137 (fun q_338 H hq_338 hw => ?_)
  obtain ⟨S_339, eS_339⟩ : ∃ T, T = sN S_329 q_338 494 4 := ⟨_, rfl⟩
  rw [← eS_339] at hw
  have ph_340 : Phc S_339 = Phc S + 0 := (show Phc S_339 = Phc S_329 from Ph_sN' hg_333.ci hq_338 eS_339 (by decide)).trans ph_330
  have ph_341 : Phs S_339 = Phs S + 0 := (show Phs S_339 = Phs S_329 from Ph_sN' hg_333.ci hq_338 eS_339 (by decide)).trans ph_331
  clear ph_330
  clear ph_331
  have hK_342 : Kq S S_339 x := hK_332.sN hq_338 eS_339
  have hg_343 : GX S_339 := by rw [eS_339]; exact GX_N hg_333 hq_338 (by decide +kernel)
  have zi_344 : Zi S_339 x := Zi_sN zi_334 eS_339
  have az_q_338 : pA S_339 q_338 = fun _ => 0 := by rw [eS_339]; exact pA_sN_new
  have fz_345 : Fz S_339 x [(1213, q_316, 474, 4), (1212, q_294, 454, 4), (1209, q_154, 394, 600), (1208, q_132, 374, 600), (1207, q_110, 354, 600), (1206, q_88, 334, 10), (1205, q_66, 314, 10), (1204, q_44, 294, 10), (1203, q_22, 274, 10), (1202, q_1, 254, 10)] := Fz_sN fz_335 hq_338 eS_339
  have fd_346 : Fe S_339 x [(1210, q_176, 414, 8)] := Fe_sN fd_336 hq_338 eS_339
  clear zi_334 fz_335 fd_336
  have hn0_q_338 := hK_332.new hq_338
  have ha_347 : At S_339 q_338 494 := by rw [eS_339]; exact At_nN _ _ _ _
  have hn_348 : pN S_339 q_338 = 4 := by rw [eS_339]; exact pN_sN_new
  have t_349 : At S_329 x 192 := tAt_sR eS_329 t_328
  have t_350 : At S_339 x 192 := by rw [eS_339]; exact At_sN t_349 hq_338
  refine r_putR X hw t_350 rfl 14 1214 (some q_338) rfl tyX12 (by decide) rfl inn_X12_init_12 tyX12_ok nmX12 (by decide) (X.2.2.2.1 (.fieldLink RX12 43 "SilkMillModel" "search" "[I") (by decide +kernel)) rfl (Or.inr ⟨rfl, hin, rfl⟩) (fun _ => rfl) rfl (fun _ => rfl) rfl (Nat.le_of_ble_eq_true rfl) (st_1214 _ _) dX12_init_139 (fun H locs hw => ?_)
  obtain ⟨S_351, eS_351⟩ : ∃ T, T = sR S_339 1214 x (some q_338) := ⟨_, rfl⟩
  rw [← eS_351] at hw
  have ph_352 : Phc S_351 = Phc S + 0 := (show Phc S_351 = Phc S_339 from Ph_rawR t_350 (by decide) eS_351).trans ph_340
  have ph_353 : Phs S_351 = Phs S + 0 := (show Phs S_351 = Phs S_339 from Ph_rawR t_350 (by decide) eS_351).trans ph_341
  clear ph_340
  clear ph_341
  have hK_354 : Kq S S_351 x := hK_342.sR eS_351
  have hg_355 : GX S_351 := by rw [eS_351]; exact GX_rawR hg_343 t_350 (by decide +kernel)
  have zi_356 : Zi S_351 x := Zi_sR zi_344 eS_351
  have fz_357 : Fz S_351 x [(1214, q_338, 494, 4), (1213, q_316, 474, 4), (1212, q_294, 454, 4), (1209, q_154, 394, 600), (1208, q_132, 374, 600), (1207, q_110, 354, 600), (1206, q_88, 334, 10), (1205, q_66, 314, 10), (1204, q_44, 294, 10), (1203, q_22, 274, 10), (1202, q_1, 254, 10)] := Fz_add fz_345 eS_351 ha_347 hn_348 az_q_338 rfl
  have fd_358 : Fe S_351 x [(1210, q_176, 414, 8)] := Fe_sR fd_346 eS_351 rfl
  clear zi_344 fz_345 fd_346
  have h_359 : pR S_351 1214 x = some q_338 := tR_sRs eS_351
  refine lv_aload_n X.1 X.2.1 dX12_init_142 rfl (lv_at hl 0 rfl) ?_
  refine lv_iconst (v := 4) X.1 X.2.1 dX12_init_143 (by decide) ?_
  refine r_newI (N := 4) X hw 514 1874 13 rfl (X.2.2.2.1 (.arrayClass .int) (by decide +kernel)) (z_nn ti_4 (by omega)) (by decide) (by decide) (by show 12 + 1 ≤ 13; omega) (by show 1870 + 4 ≤ 1874; omega) (by show 13 ≤ 48; omega) (by show 1874 ≤ 182647; omega) dX12_init_144 (fun q_360 H hq_360 hw => ?_)
  obtain ⟨S_361, eS_361⟩ : ∃ T, T = sN S_351 q_360 514 4 := ⟨_, rfl⟩
  rw [← eS_361] at hw
  have ph_362 : Phc S_361 = Phc S + 0 := (show Phc S_361 = Phc S_351 from Ph_sN' hg_355.ci hq_360 eS_361 (by decide)).trans ph_352
  have ph_363 : Phs S_361 = Phs S + 0 := (show Phs S_361 = Phs S_351 from Ph_sN' hg_355.ci hq_360 eS_361 (by decide)).trans ph_353
  clear ph_352
  clear ph_353
  have hK_364 : Kq S S_361 x := hK_354.sN hq_360 eS_361
  have hg_365 : GX S_361 := by rw [eS_361]; exact GX_N hg_355 hq_360 (by decide +kernel)
  have zi_366 : Zi S_361 x := Zi_sN zi_356 eS_361
  have az_q_360 : pA S_361 q_360 = fun _ => 0 := by rw [eS_361]; exact pA_sN_new
  have fz_367 : Fz S_361 x [(1214, q_338, 494, 4), (1213, q_316, 474, 4), (1212, q_294, 454, 4), (1209, q_154, 394, 600), (1208, q_132, 374, 600), (1207, q_110, 354, 600), (1206, q_88, 334, 10), (1205, q_66, 314, 10), (1204, q_44, 294, 10), (1203, q_22, 274, 10), (1202, q_1, 254, 10)] := Fz_sN fz_357 hq_360 eS_361
  have fd_368 : Fe S_361 x [(1210, q_176, 414, 8)] := Fe_sN fd_358 hq_360 eS_361
  clear zi_356 fz_357 fd_358
  have hn0_q_360 := hK_354.new hq_360
  have ha_369 : At S_361 q_360 514 := by rw [eS_361]; exact At_nN _ _ _ _
  have hn_370 : pN S_361 q_360 = 4 := by rw [eS_361]; exact pN_sN_new
  have t_371 : At S_351 x 192 := tAt_sR eS_351 t_350
  have t_372 : At S_361 x 192 := by rw [eS_361]; exact At_sN t_371 hq_360
  refine r_putR X hw t_372 rfl 15 1215 (some q_360) rfl tyX12 (by decide) rfl inn_X12_init_12 tyX12_ok nmX12 (by decide) (X.2.2.2.1 (.fieldLink RX12 46 "SilkMillModel" "stop" "[I") (by decide +kernel)) rfl (Or.inr ⟨rfl, hin, rfl⟩) (fun _ => rfl) rfl (fun _ => rfl) rfl (Nat.le_of_ble_eq_true rfl) (st_1215 _ _) dX12_init_146 (fun H locs hw => ?_)
  obtain ⟨S_373, eS_373⟩ : ∃ T, T = sR S_361 1215 x (some q_360) := ⟨_, rfl⟩
  rw [← eS_373] at hw
  have ph_374 : Phc S_373 = Phc S + 0 := (show Phc S_373 = Phc S_361 from Ph_rawR t_372 (by decide) eS_373).trans ph_362
  have ph_375 : Phs S_373 = Phs S + 0 := (show Phs S_373 = Phs S_361 from Ph_rawR t_372 (by decide) eS_373).trans ph_363
  clear ph_362
  clear ph_363
  have hK_376 : Kq S S_373 x := hK_364.sR eS_373
  have hg_377 : GX S_373 := by rw [eS_373]; exact GX_rawR hg_365 t_372 (by decide +kernel)
  have zi_378 : Zi S_373 x := Zi_sR zi_366 eS_373
  have fz_379 : Fz S_373 x [(1215, q_360, 514, 4), (1214, q_338, 494, 4), (1213, q_316, 474, 4), (1212, q_294, 454, 4), (1209, q_154, 394, 600), (1208, q_132, 374, 600), (1207, q_110, 354, 600), (1206, q_88, 334, 10), (1205, q_66, 314, 10), (1204, q_44, 294, 10), (1203, q_22, 274, 10), (1202, q_1, 254, 10)] := Fz_add fz_367 eS_373 ha_369 hn_370 az_q_360 rfl
  have fd_380 : Fe S_373 x [(1210, q_176, 414, 8)] := Fe_sR fd_368 eS_373 rfl
  clear zi_366 fz_367 fd_368
  have h_381 : pR S_373 1215 x = some q_360 := tR_sRs eS_373
  refine lv_aload_n X.1 X.2.1 dX12_init_149 rfl (lv_at hl 0 rfl) ?_
  refine lv_iconst (v := 4) X.1 X.2.1 dX12_init_150 (by decide) ?_
  refine r_newI (N := 4) X hw 534 1878 14 rfl (X.2.2.2.1 (.arrayClass .int) (by decide +kernel)) (z_nn ti_4 (by omega)) (by decide) (by decide) (by show 13 + 1 ≤ 14; omega) (by show 1874 + 4 ≤ 1878; omega) (by show 14 ≤ 48; omega) (by show 1878 ≤ 182647; omega) dX12_init_151 (fun q_382 H hq_382 hw => ?_)
  obtain ⟨S_383, eS_383⟩ : ∃ T, T = sN S_373 q_382 534 4 := ⟨_, rfl⟩
  rw [← eS_383] at hw
  have ph_384 : Phc S_383 = Phc S + 0 := (show Phc S_383 = Phc S_373 from Ph_sN' hg_377.ci hq_382 eS_383 (by decide)).trans ph_374
  have ph_385 : Phs S_383 = Phs S + 0 := (show Phs S_383 = Phs S_373 from Ph_sN' hg_377.ci hq_382 eS_383 (by decide)).trans ph_375
  clear ph_374
  clear ph_375
  have hK_386 : Kq S S_383 x := hK_376.sN hq_382 eS_383
  have hg_387 : GX S_383 := by rw [eS_383]; exact GX_N hg_377 hq_382 (by decide +kernel)
  have zi_388 : Zi S_383 x := Zi_sN zi_378 eS_383
  have az_q_382 : pA S_383 q_382 = fun _ => 0 := by rw [eS_383]; exact pA_sN_new
  have fz_389 : Fz S_383 x [(1215, q_360, 514, 4), (1214, q_338, 494, 4), (1213, q_316, 474, 4), (1212, q_294, 454, 4), (1209, q_154, 394, 600), (1208, q_132, 374, 600), (1207, q_110, 354, 600), (1206, q_88, 334, 10), (1205, q_66, 314, 10), (1204, q_44, 294, 10), (1203, q_22, 274, 10), (1202, q_1, 254, 10)] := Fz_sN fz_379 hq_382 eS_383
  have fd_390 : Fe S_383 x [(1210, q_176, 414, 8)] := Fe_sN fd_380 hq_382 eS_383
  clear zi_378 fz_379 fd_380
  have hn0_q_382 := hK_376.new hq_382
  have ha_391 : At S_383 q_382 534 := by rw [eS_383]; exact At_nN _ _ _ _
  have hn_392 : pN S_383 q_382 = 4 := by rw [eS_383]; exact pN_sN_new
  have t_393 : At S_373 x 192 := tAt_sR eS_373 t_372
  have t_394 : At S_383 x 192 := by rw [eS_383]; exact At_sN t_393 hq_382
  refine r_putR X hw t_394 rfl 16 1216 (some q_382) rfl tyX12 (by decide) rfl inn_X12_init_12 tyX12_ok nmX12 (by decide) (X.2.2.2.1 (.fieldLink RX12 49 "SilkMillModel" "drawnEver" "[I") (by decide +kernel)) rfl (Or.inr ⟨rfl, hin, rfl⟩) (fun _ => rfl) rfl (fun _ => rfl) rfl (Nat.le_of_ble_eq_true rfl) (st_1216 _ _) dX12_init_153 (fun H locs hw => ?_)
  obtain ⟨S_395, eS_395⟩ : ∃ T, T = sR S_383 1216 x (some q_382) := ⟨_, rfl⟩
  rw [← eS_395] at hw
  have ph_396 : Phc S_395 = Phc S + 0 := (show Phc S_395 = Phc S_383 from Ph_rawR t_394 (by decide) eS_395).trans ph_384
  have ph_397 : Phs S_395 = Phs S + 0 := (show Phs S_395 = Phs S_383 from Ph_rawR t_394 (by decide) eS_395).trans ph_385
  clear ph_384
  clear ph_385
  have hK_398 : Kq S S_395 x := hK_386.sR eS_395
  have hg_399 : GX S_395 := by rw [eS_395]; exact GX_rawR hg_387 t_394 (by decide +kernel)
  have zi_400 : Zi S_395 x := Zi_sR zi_388 eS_395
  have fz_401 : Fz S_395 x [(1216, q_382, 534, 4), (1215, q_360, 514, 4), (1214, q_338, 494, 4), (1213, q_316, 474, 4), (1212, q_294, 454, 4), (1209, q_154, 394, 600), (1208, q_132, 374, 600), (1207, q_110, 354, 600), (1206, q_88, 334, 10), (1205, q_66, 314, 10), (1204, q_44, 294, 10), (1203, q_22, 274, 10), (1202, q_1, 254, 10)] := Fz_add fz_389 eS_395 ha_391 hn_392 az_q_382 rfl
  have fd_402 : Fe S_395 x [(1210, q_176, 414, 8)] := Fe_sR fd_390 eS_395 rfl
  clear zi_388 fz_389 fd_390
  have h_403 : pR S_395 1216 x = some q_382 := tR_sRs eS_395
  refine lv_aload_n X.1 X.2.1 dX12_init_156 rfl (lv_at hl 0 rfl) ?_
  refine lv_iconst (v := 4) X.1 X.2.1 dX12_init_157 (by decide) ?_
  refine r_newI (N := 4) X hw 554 1882 15 rfl (X.2.2.2.1 (.arrayClass .int) (by decide +kernel)) (z_nn ti_4 (by omega)) (by decide) (by decide) (by show 14 + 1 ≤ 15; omega) (by show 1878 + 4 ≤ 1882; omega) (by show 15 ≤ 48; omega) (by show 1882 ≤ 182647; omega) dX12_init_158 (fun q_404 H hq_404 hw => ?_)
  obtain ⟨S_405, eS_405⟩ : ∃ T, T = sN S_395 q_404 554 4 := ⟨_, rfl⟩
  rw [← eS_405] at hw
  have ph_406 : Phc S_405 = Phc S + 0 := (show Phc S_405 = Phc S_395 from Ph_sN' hg_399.ci hq_404 eS_405 (by decide)).trans ph_396
  have ph_407 : Phs S_405 = Phs S + 0 := (show Phs S_405 = Phs S_395 from Ph_sN' hg_399.ci hq_404 eS_405 (by decide)).trans ph_397
  clear ph_396
  clear ph_397
  have hK_408 : Kq S S_405 x := hK_398.sN hq_404 eS_405
  have hg_409 : GX S_405 := by rw [eS_405]; exact GX_N hg_399 hq_404 (by decide +kernel)
  have zi_410 : Zi S_405 x := Zi_sN zi_400 eS_405
  have az_q_404 : pA S_405 q_404 = fun _ => 0 := by rw [eS_405]; exact pA_sN_new
  have fz_411 : Fz S_405 x [(1216, q_382, 534, 4), (1215, q_360, 514, 4), (1214, q_338, 494, 4), (1213, q_316, 474, 4), (1212, q_294, 454, 4), (1209, q_154, 394, 600), (1208, q_132, 374, 600), (1207, q_110, 354, 600), (1206, q_88, 334, 10), (1205, q_66, 314, 10), (1204, q_44, 294, 10), (1203, q_22, 274, 10), (1202, q_1, 254, 10)] := Fz_sN fz_401 hq_404 eS_405
  have fd_412 : Fe S_405 x [(1210, q_176, 414, 8)] := Fe_sN fd_402 hq_404 eS_405
  clear zi_400 fz_401 fd_402
  have hn0_q_404 := hK_398.new hq_404
  have ha_413 : At S_405 q_404 554 := by rw [eS_405]; exact At_nN _ _ _ _
  have hn_414 : pN S_405 q_404 = 4 := by rw [eS_405]; exact pN_sN_new
  have t_415 : At S_395 x 192 := tAt_sR eS_395 t_394
  have t_416 : At S_405 x 192 := by rw [eS_405]; exact At_sN t_415 hq_404
  refine r_putR X hw t_416 rfl 17 1217 (some q_404) rfl tyX12 (by decide) rfl inn_X12_init_12 tyX12_ok nmX12 (by decide) (X.2.2.2.1 (.fieldLink RX12 52 "SilkMillModel" "ticksEver" "[I") (by decide +kernel)) rfl (Or.inr ⟨rfl, hin, rfl⟩) (fun _ => rfl) rfl (fun _ => rfl) rfl (Nat.le_of_ble_eq_true rfl) (st_1217 _ _) dX12_init_160 (fun H locs hw => ?_)
  obtain ⟨S_417, eS_417⟩ : ∃ T, T = sR S_405 1217 x (some q_404) := ⟨_, rfl⟩
  rw [← eS_417] at hw
  have ph_418 : Phc S_417 = Phc S + 0 := (show Phc S_417 = Phc S_405 from Ph_rawR t_416 (by decide) eS_417).trans ph_406
  have ph_419 : Phs S_417 = Phs S + 0 := (show Phs S_417 = Phs S_405 from Ph_rawR t_416 (by decide) eS_417).trans ph_407
  clear ph_406
  clear ph_407
  have hK_420 : Kq S S_417 x := hK_408.sR eS_417
  have hg_421 : GX S_417 := by rw [eS_417]; exact GX_rawR hg_409 t_416 (by decide +kernel)
  have zi_422 : Zi S_417 x := Zi_sR zi_410 eS_417
  have fz_423 : Fz S_417 x [(1217, q_404, 554, 4), (1216, q_382, 534, 4), (1215, q_360, 514, 4), (1214, q_338, 494, 4), (1213, q_316, 474, 4), (1212, q_294, 454, 4), (1209, q_154, 394, 600), (1208, q_132, 374, 600), (1207, q_110, 354, 600), (1206, q_88, 334, 10), (1205, q_66, 314, 10), (1204, q_44, 294, 10), (1203, q_22, 274, 10), (1202, q_1, 254, 10)] := Fz_add fz_411 eS_417 ha_413 hn_414 az_q_404 rfl
  have fd_424 : Fe S_417 x [(1210, q_176, 414, 8)] := Fe_sR fd_412 eS_417 rfl
  clear zi_410 fz_411 fd_412
  have h_425 : pR S_417 1217 x = some q_404 := tR_sRs eS_417
  refine lv_aload_n X.1 X.2.1 dX12_init_163 rfl (lv_at hl 0 rfl) ?_
  refine lv_sipush (v := 7200) X.1 X.2.1 dX12_init_164 (by decide) ?_
  refine r_newI (N := 7200) X hw 574 9082 16 rfl (X.2.2.2.1 (.arrayClass .int) (by decide +kernel)) (z_nn ti_7200 (by omega)) (by decide) (by decide) (by show 15 + 1 ≤ 16; omega) (by show 1882 + 7200 ≤ 9082; omega) (by show 16 ≤ 48; omega) (by show 9082 ≤ 182647; omega) dX12_init_167 (fun q_426 H hq_426 hw => ?_)
  obtain ⟨S_427, eS_427⟩ : ∃ T, T = sN S_417 q_426 574 7200 := ⟨_, rfl⟩
  rw [← eS_427] at hw
  have ph_428 : Phc S_427 = Phc S + 0 := (show Phc S_427 = Phc S_417 from Ph_sN' hg_421.ci hq_426 eS_427 (by decide)).trans ph_418
  have ph_429 : Phs S_427 = Phs S + 0 := (show Phs S_427 = Phs S_417 from Ph_sN' hg_421.ci hq_426 eS_427 (by decide)).trans ph_419
  clear ph_418
  clear ph_419
  have hK_430 : Kq S S_427 x := hK_420.sN hq_426 eS_427
  have hg_431 : GX S_427 := by rw [eS_427]; exact GX_N hg_421 hq_426 (by decide +kernel)
  have zi_432 : Zi S_427 x := Zi_sN zi_422 eS_427
  have az_q_426 : pA S_427 q_426 = fun _ => 0 := by rw [eS_427]; exact pA_sN_new
  have fz_433 : Fz S_427 x [(1217, q_404, 554, 4), (1216, q_382, 534, 4), (1215, q_360, 514, 4), (1214, q_338, 494, 4), (1213, q_316, 474, 4), (1212, q_294, 454, 4), (1209, q_154, 394, 600), (1208, q_132, 374, 600), (1207, q_110, 354, 600), (1206, q_88, 334, 10), (1205, q_66, 314, 10), (1204, q_44, 294, 10), (1203, q_22, 274, 10), (1202, q_1, 254, 10)] := Fz_sN fz_423 hq_426 eS_427
  have fd_434 : Fe S_427 x [(1210, q_176, 414, 8)] := Fe_sN fd_424 hq_426 eS_427
  clear zi_422 fz_423 fd_424
  have hn0_q_426 := hK_420.new hq_426
  have ha_435 : At S_427 q_426 574 := by rw [eS_427]; exact At_nN _ _ _ _
  have hn_436 : pN S_427 q_426 = 7200 := by rw [eS_427]; exact pN_sN_new
  have t_437 : At S_417 x 192 := tAt_sR eS_417 t_416
  have t_438 : At S_427 x 192 := by rw [eS_427]; exact At_sN t_437 hq_426
  refine r_putR X hw t_438 rfl 18 1218 (some q_426) rfl tyX12 (by decide) rfl inn_X12_init_12 tyX12_ok nmX12 (by decide) (X.2.2.2.1 (.fieldLink RX12 55 "SilkMillModel" "rowOf" "[I") (by decide +kernel)) rfl (Or.inr ⟨rfl, hin, rfl⟩) (fun _ => rfl) rfl (fun _ => rfl) rfl (Nat.le_of_ble_eq_true rfl) (st_1218 _ _) dX12_init_169 (fun H locs hw => ?_)
  obtain ⟨S_439, eS_439⟩ : ∃ T, T = sR S_427 1218 x (some q_426) := ⟨_, rfl⟩
  rw [← eS_439] at hw
  have ph_440 : Phc S_439 = Phc S + 0 := (show Phc S_439 = Phc S_427 from Ph_rawR t_438 (by decide) eS_439).trans ph_428
  have ph_441 : Phs S_439 = Phs S + 0 := (show Phs S_439 = Phs S_427 from Ph_rawR t_438 (by decide) eS_439).trans ph_429
  clear ph_428
  clear ph_429
  have hK_442 : Kq S S_439 x := hK_430.sR eS_439
  have hg_443 : GX S_439 := by rw [eS_439]; exact GX_rawR hg_431 t_438 (by decide +kernel)
  have zi_444 : Zi S_439 x := Zi_sR zi_432 eS_439
  have fz_445 : Fz S_439 x [(1218, q_426, 574, 7200), (1217, q_404, 554, 4), (1216, q_382, 534, 4), (1215, q_360, 514, 4), (1214, q_338, 494, 4), (1213, q_316, 474, 4), (1212, q_294, 454, 4), (1209, q_154, 394, 600), (1208, q_132, 374, 600), (1207, q_110, 354, 600), (1206, q_88, 334, 10), (1205, q_66, 314, 10), (1204, q_44, 294, 10), (1203, q_22, 274, 10), (1202, q_1, 254, 10)] := Fz_add fz_433 eS_439 ha_435 hn_436 az_q_426 rfl
  have fd_446 : Fe S_439 x [(1210, q_176, 414, 8)] := Fe_sR fd_434 eS_439 rfl
  clear zi_432 fz_433 fd_434
  have h_447 : pR S_439 1218 x = some q_426 := tR_sRs eS_439
  refine lv_aload_n X.1 X.2.1 dX12_init_172 rfl (lv_at hl 0 rfl) ?_
  refine lv_bipush (v := 12) X.1 X.2.1 dX12_init_173 (by decide) ?_
  refine r_newI (N := 12) X hw 594 9094 17 rfl (X.2.2.2.1 (.arrayClass .int) (by decide +kernel)) (z_nn ti_12 (by omega)) (by decide) (by decide) (by show 16 + 1 ≤ 17; omega) (by show 9082 + 12 ≤ 9094; omega) (by show 17 ≤ 48; omega) (by show 9094 ≤ 182647; omega) dX12_init_175 (fun q_448 H hq_448 hw => ?_)
  obtain ⟨S_449, eS_449⟩ : ∃ T, T = sN S_439 q_448 594 12 := ⟨_, rfl⟩
  rw [← eS_449] at hw
  have ph_450 : Phc S_449 = Phc S + 0 := (show Phc S_449 = Phc S_439 from Ph_sN' hg_443.ci hq_448 eS_449 (by decide)).trans ph_440
  have ph_451 : Phs S_449 = Phs S + 0 := (show Phs S_449 = Phs S_439 from Ph_sN' hg_443.ci hq_448 eS_449 (by decide)).trans ph_441
  clear ph_440
  clear ph_441
  have hK_452 : Kq S S_449 x := hK_442.sN hq_448 eS_449
  have hg_453 : GX S_449 := by rw [eS_449]; exact GX_N hg_443 hq_448 (by decide +kernel)
  have zi_454 : Zi S_449 x := Zi_sN zi_444 eS_449
  have az_q_448 : pA S_449 q_448 = fun _ => 0 := by rw [eS_449]; exact pA_sN_new
  have fz_455 : Fz S_449 x [(1218, q_426, 574, 7200), (1217, q_404, 554, 4), (1216, q_382, 534, 4), (1215, q_360, 514, 4), (1214, q_338, 494, 4), (1213, q_316, 474, 4), (1212, q_294, 454, 4), (1209, q_154, 394, 600), (1208, q_132, 374, 600), (1207, q_110, 354, 600), (1206, q_88, 334, 10), (1205, q_66, 314, 10), (1204, q_44, 294, 10), (1203, q_22, 274, 10), (1202, q_1, 254, 10)] := Fz_sN fz_445 hq_448 eS_449
  have fd_456 : Fe S_449 x [(1210, q_176, 414, 8)] := Fe_sN fd_446 hq_448 eS_449
  clear zi_444 fz_445 fd_446
  have hn0_q_448 := hK_442.new hq_448
  have ha_457 : At S_449 q_448 594 := by rw [eS_449]; exact At_nN _ _ _ _
  have hn_458 : pN S_449 q_448 = 12 := by rw [eS_449]; exact pN_sN_new
  have t_459 : At S_439 x 192 := tAt_sR eS_439 t_438
  have t_460 : At S_449 x 192 := by rw [eS_449]; exact At_sN t_459 hq_448
  refine r_putR X hw t_460 rfl 19 1219 (some q_448) rfl tyX12 (by decide) rfl inn_X12_init_12 tyX12_ok nmX12 (by decide) (X.2.2.2.1 (.fieldLink RX12 58 "SilkMillModel" "rowMany" "[I") (by decide +kernel)) rfl (Or.inr ⟨rfl, hin, rfl⟩) (fun _ => rfl) rfl (fun _ => rfl) rfl (Nat.le_of_ble_eq_true rfl) (st_1219 _ _) dX12_init_177 (fun H locs hw => ?_)
  obtain ⟨S_461, eS_461⟩ : ∃ T, T = sR S_449 1219 x (some q_448) := ⟨_, rfl⟩
  rw [← eS_461] at hw
  have ph_462 : Phc S_461 = Phc S + 0 := (show Phc S_461 = Phc S_449 from Ph_rawR t_460 (by decide) eS_461).trans ph_450
  have ph_463 : Phs S_461 = Phs S + 0 := (show Phs S_461 = Phs S_449 from Ph_rawR t_460 (by decide) eS_461).trans ph_451
  clear ph_450
  clear ph_451
  have hK_464 : Kq S S_461 x := hK_452.sR eS_461
  have hg_465 : GX S_461 := by rw [eS_461]; exact GX_rawR hg_453 t_460 (by decide +kernel)
  have zi_466 : Zi S_461 x := Zi_sR zi_454 eS_461
  have fz_467 : Fz S_461 x [(1219, q_448, 594, 12), (1218, q_426, 574, 7200), (1217, q_404, 554, 4), (1216, q_382, 534, 4), (1215, q_360, 514, 4), (1214, q_338, 494, 4), (1213, q_316, 474, 4), (1212, q_294, 454, 4), (1209, q_154, 394, 600), (1208, q_132, 374, 600), (1207, q_110, 354, 600), (1206, q_88, 334, 10), (1205, q_66, 314, 10), (1204, q_44, 294, 10), (1203, q_22, 274, 10), (1202, q_1, 254, 10)] := Fz_add fz_455 eS_461 ha_457 hn_458 az_q_448 rfl
  have fd_468 : Fe S_461 x [(1210, q_176, 414, 8)] := Fe_sR fd_456 eS_461 rfl
  clear zi_454 fz_455 fd_456
  have h_469 : pR S_461 1219 x = some q_448 := tR_sRs eS_461
  refine lv_aload_n X.1 X.2.1 dX12_init_180 rfl (lv_at hl 0 rfl) ?_
  refine lv_iconst (v := 5) X.1 X.2.1 dX12_init_181 (by decide) ?_
  refine r_newI (N := 5) X hw 614 9099 18 rfl (X.2.2.2.1 (.arrayClass .int) (by decide +kernel)) (z_nn ti_5 (by omega)) (by decide) (by decide) (by show 17 + 1 ≤ 18; omega) (by show 9094 + 5 ≤ 9099; omega) (by show 18 ≤ 48; omega) (by show 9099 ≤ 182647; omega) dX12_init_182 (fun q_470 H hq_470 hw => ?_)
  obtain ⟨S_471, eS_471⟩ : ∃ T, T = sN S_461 q_470 614 5 := ⟨_, rfl⟩
  rw [← eS_471] at hw
  have ph_472 : Phc S_471 = Phc S + 0 := (show Phc S_471 = Phc S_461 from Ph_sN' hg_465.ci hq_470 eS_471 (by decide)).trans ph_462
  have ph_473 : Phs S_471 = Phs S + 0 := (show Phs S_471 = Phs S_461 from Ph_sN' hg_465.ci hq_470 eS_471 (by decide)).trans ph_463
  clear ph_462
  clear ph_463
  have hK_474 : Kq S S_471 x := hK_464.sN hq_470 eS_471
  have hg_475 : GX S_471 := by rw [eS_471]; exact GX_N hg_465 hq_470 (by decide +kernel)
  have zi_476 : Zi S_471 x := Zi_sN zi_466 eS_471
  have az_q_470 : pA S_471 q_470 = fun _ => 0 := by rw [eS_471]; exact pA_sN_new
  have fz_477 : Fz S_471 x [(1219, q_448, 594, 12), (1218, q_426, 574, 7200), (1217, q_404, 554, 4), (1216, q_382, 534, 4), (1215, q_360, 514, 4), (1214, q_338, 494, 4), (1213, q_316, 474, 4), (1212, q_294, 454, 4), (1209, q_154, 394, 600), (1208, q_132, 374, 600), (1207, q_110, 354, 600), (1206, q_88, 334, 10), (1205, q_66, 314, 10), (1204, q_44, 294, 10), (1203, q_22, 274, 10), (1202, q_1, 254, 10)] := Fz_sN fz_467 hq_470 eS_471
  have fd_478 : Fe S_471 x [(1210, q_176, 414, 8)] := Fe_sN fd_468 hq_470 eS_471
  clear zi_466 fz_467 fd_468
  have hn0_q_470 := hK_464.new hq_470
  have ha_479 : At S_471 q_470 614 := by rw [eS_471]; exact At_nN _ _ _ _
  have hn_480 : pN S_471 q_470 = 5 := by rw [eS_471]; exact pN_sN_new
  have t_481 : At S_461 x 192 := tAt_sR eS_461 t_460
  have t_482 : At S_471 x 192 := by rw [eS_471]; exact At_sN t_481 hq_470
  refine r_putR X hw t_482 rfl 20 1220 (some q_470) rfl tyX12 (by decide) rfl inn_X12_init_12 tyX12_ok nmX12 (by decide) (X.2.2.2.1 (.fieldLink RX12 61 "SilkMillModel" "rules" "[I") (by decide +kernel)) rfl (Or.inr ⟨rfl, hin, rfl⟩) (fun _ => rfl) rfl (fun _ => rfl) rfl (Nat.le_of_ble_eq_true rfl) (st_1220 _ _) dX12_init_184 (fun H locs hw => ?_)
  obtain ⟨S_483, eS_483⟩ : ∃ T, T = sR S_471 1220 x (some q_470) := ⟨_, rfl⟩
  rw [← eS_483] at hw
  have ph_484 : Phc S_483 = Phc S + 0 := (show Phc S_483 = Phc S_471 from Ph_rawR t_482 (by decide) eS_483).trans ph_472
  have ph_485 : Phs S_483 = Phs S + 0 := (show Phs S_483 = Phs S_471 from Ph_rawR t_482 (by decide) eS_483).trans ph_473
  clear ph_472
  clear ph_473
  have hK_486 : Kq S S_483 x := hK_474.sR eS_483
  have hg_487 : GX S_483 := by rw [eS_483]; exact GX_rawR hg_475 t_482 (by decide +kernel)
  have zi_488 : Zi S_483 x := Zi_sR zi_476 eS_483
  have fz_489 : Fz S_483 x [(1220, q_470, 614, 5), (1219, q_448, 594, 12), (1218, q_426, 574, 7200), (1217, q_404, 554, 4), (1216, q_382, 534, 4), (1215, q_360, 514, 4), (1214, q_338, 494, 4), (1213, q_316, 474, 4), (1212, q_294, 454, 4), (1209, q_154, 394, 600), (1208, q_132, 374, 600), (1207, q_110, 354, 600), (1206, q_88, 334, 10), (1205, q_66, 314, 10), (1204, q_44, 294, 10), (1203, q_22, 274, 10), (1202, q_1, 254, 10)] := Fz_add fz_477 eS_483 ha_479 hn_480 az_q_470 rfl
  have fd_490 : Fe S_483 x [(1210, q_176, 414, 8)] := Fe_sR fd_478 eS_483 rfl
  clear zi_476 fz_477 fd_478
  have h_491 : pR S_483 1220 x = some q_470 := tR_sRs eS_483
  refine lv_aload_n X.1 X.2.1 dX12_init_187 rfl (lv_at hl 0 rfl) ?_
  refine lv_bipush (v := 60) X.1 X.2.1 dX12_init_188 (by decide) ?_
  refine r_newI (N := 60) X hw 634 9159 19 rfl (X.2.2.2.1 (.arrayClass .int) (by decide +kernel)) (z_nn ti_60 (by omega)) (by decide) (by decide) (by show 18 + 1 ≤ 19; omega) (by show 9099 + 60 ≤ 9159; omega) (by show 19 ≤ 48; omega) (by show 9159 ≤ 182647; omega) dX12_init_190 (fun q_492 H hq_492 hw => ?_)
  obtain ⟨S_493, eS_493⟩ : ∃ T, T = sN S_483 q_492 634 60 := ⟨_, rfl⟩
  rw [← eS_493] at hw
  have ph_494 : Phc S_493 = Phc S + 0 := (show Phc S_493 = Phc S_483 from Ph_sN' hg_487.ci hq_492 eS_493 (by decide)).trans ph_484
  have ph_495 : Phs S_493 = Phs S + 0 := (show Phs S_493 = Phs S_483 from Ph_sN' hg_487.ci hq_492 eS_493 (by decide)).trans ph_485
  clear ph_484
  clear ph_485
  have hK_496 : Kq S S_493 x := hK_486.sN hq_492 eS_493
  have hg_497 : GX S_493 := by rw [eS_493]; exact GX_N hg_487 hq_492 (by decide +kernel)
  have zi_498 : Zi S_493 x := Zi_sN zi_488 eS_493
  have az_q_492 : pA S_493 q_492 = fun _ => 0 := by rw [eS_493]; exact pA_sN_new
  have fz_499 : Fz S_493 x [(1220, q_470, 614, 5), (1219, q_448, 594, 12), (1218, q_426, 574, 7200), (1217, q_404, 554, 4), (1216, q_382, 534, 4), (1215, q_360, 514, 4), (1214, q_338, 494, 4), (1213, q_316, 474, 4), (1212, q_294, 454, 4), (1209, q_154, 394, 600), (1208, q_132, 374, 600), (1207, q_110, 354, 600), (1206, q_88, 334, 10), (1205, q_66, 314, 10), (1204, q_44, 294, 10), (1203, q_22, 274, 10), (1202, q_1, 254, 10)] := Fz_sN fz_489 hq_492 eS_493
  have fd_500 : Fe S_493 x [(1210, q_176, 414, 8)] := Fe_sN fd_490 hq_492 eS_493
  clear zi_488 fz_489 fd_490
  have hn0_q_492 := hK_486.new hq_492
  have ha_501 : At S_493 q_492 634 := by rw [eS_493]; exact At_nN _ _ _ _
  have hn_502 : pN S_493 q_492 = 60 := by rw [eS_493]; exact pN_sN_new
  have t_503 : At S_483 x 192 := tAt_sR eS_483 t_482
  have t_504 : At S_493 x 192 := by rw [eS_493]; exact At_sN t_503 hq_492
  refine r_putR X hw t_504 rfl 21 1221 (some q_492) rfl tyX12 (by decide) rfl inn_X12_init_12 tyX12_ok nmX12 (by decide) (X.2.2.2.1 (.fieldLink RX12 64 "SilkMillModel" "act" "[I") (by decide +kernel)) rfl (Or.inr ⟨rfl, hin, rfl⟩) (fun _ => rfl) rfl (fun _ => rfl) rfl (Nat.le_of_ble_eq_true rfl) (st_1221 _ _) dX12_init_192 (fun H locs hw => ?_)
  obtain ⟨S_505, eS_505⟩ : ∃ T, T = sR S_493 1221 x (some q_492) := ⟨_, rfl⟩
  rw [← eS_505] at hw
  have ph_506 : Phc S_505 = Phc S + 0 := (show Phc S_505 = Phc S_493 from Ph_rawR t_504 (by decide) eS_505).trans ph_494
  have ph_507 : Phs S_505 = Phs S + 0 := (show Phs S_505 = Phs S_493 from Ph_rawR t_504 (by decide) eS_505).trans ph_495
  clear ph_494
  clear ph_495
  have hK_508 : Kq S S_505 x := hK_496.sR eS_505
  have hg_509 : GX S_505 := by rw [eS_505]; exact GX_rawR hg_497 t_504 (by decide +kernel)
  have zi_510 : Zi S_505 x := Zi_sR zi_498 eS_505
  have fz_511 : Fz S_505 x [(1221, q_492, 634, 60), (1220, q_470, 614, 5), (1219, q_448, 594, 12), (1218, q_426, 574, 7200), (1217, q_404, 554, 4), (1216, q_382, 534, 4), (1215, q_360, 514, 4), (1214, q_338, 494, 4), (1213, q_316, 474, 4), (1212, q_294, 454, 4), (1209, q_154, 394, 600), (1208, q_132, 374, 600), (1207, q_110, 354, 600), (1206, q_88, 334, 10), (1205, q_66, 314, 10), (1204, q_44, 294, 10), (1203, q_22, 274, 10), (1202, q_1, 254, 10)] := Fz_add fz_499 eS_505 ha_501 hn_502 az_q_492 rfl
  have fd_512 : Fe S_505 x [(1210, q_176, 414, 8)] := Fe_sR fd_500 eS_505 rfl
  clear zi_498 fz_499 fd_500
  have h_513 : pR S_505 1221 x = some q_492 := tR_sRs eS_505
  refine lv_aload_n X.1 X.2.1 dX12_init_195 rfl (lv_at hl 0 rfl) ?_
  refine lv_bipush (v := 60) X.1 X.2.1 dX12_init_196 (by decide) ?_
  refine r_newI (N := 60) X hw 654 9219 20 rfl (X.2.2.2.1 (.arrayClass .int) (by decide +kernel)) (z_nn ti_60 (by omega)) (by decide) (by decide) (by show 19 + 1 ≤ 20; omega) (by show 9159 + 60 ≤ 9219; omega) (by show 20 ≤ 48; omega) (by show 9219 ≤ 182647; omega) dX12_init_198 (fun q_514 H hq_514 hw => ?_)
  obtain ⟨S_515, eS_515⟩ : ∃ T, T = sN S_505 q_514 654 60 := ⟨_, rfl⟩
  rw [← eS_515] at hw
  have ph_516 : Phc S_515 = Phc S + 0 := (show Phc S_515 = Phc S_505 from Ph_sN' hg_509.ci hq_514 eS_515 (by decide)).trans ph_506
  have ph_517 : Phs S_515 = Phs S + 0 := (show Phs S_515 = Phs S_505 from Ph_sN' hg_509.ci hq_514 eS_515 (by decide)).trans ph_507
  clear ph_506
  clear ph_507
  have hK_518 : Kq S S_515 x := hK_508.sN hq_514 eS_515
  have hg_519 : GX S_515 := by rw [eS_515]; exact GX_N hg_509 hq_514 (by decide +kernel)
  have zi_520 : Zi S_515 x := Zi_sN zi_510 eS_515
  have az_q_514 : pA S_515 q_514 = fun _ => 0 := by rw [eS_515]; exact pA_sN_new
  have fz_521 : Fz S_515 x [(1221, q_492, 634, 60), (1220, q_470, 614, 5), (1219, q_448, 594, 12), (1218, q_426, 574, 7200), (1217, q_404, 554, 4), (1216, q_382, 534, 4), (1215, q_360, 514, 4), (1214, q_338, 494, 4), (1213, q_316, 474, 4), (1212, q_294, 454, 4), (1209, q_154, 394, 600), (1208, q_132, 374, 600), (1207, q_110, 354, 600), (1206, q_88, 334, 10), (1205, q_66, 314, 10), (1204, q_44, 294, 10), (1203, q_22, 274, 10), (1202, q_1, 254, 10)] := Fz_sN fz_511 hq_514 eS_515
  have fd_522 : Fe S_515 x [(1210, q_176, 414, 8)] := Fe_sN fd_512 hq_514 eS_515
  clear zi_510 fz_511 fd_512
  have hn0_q_514 := hK_508.new hq_514
  have ha_523 : At S_515 q_514 654 := by rw [eS_515]; exact At_nN _ _ _ _
  have hn_524 : pN S_515 q_514 = 60 := by rw [eS_515]; exact pN_sN_new
  have t_525 : At S_505 x 192 := tAt_sR eS_505 t_504
  have t_526 : At S_515 x 192 := by rw [eS_515]; exact At_sN t_525 hq_514
  refine r_putR X hw t_526 rfl 22 1222 (some q_514) rfl tyX12 (by decide) rfl inn_X12_init_12 tyX12_ok nmX12 (by decide) (X.2.2.2.1 (.fieldLink RX12 67 "SilkMillModel" "actNumber" "[I") (by decide +kernel)) rfl (Or.inr ⟨rfl, hin, rfl⟩) (fun _ => rfl) rfl (fun _ => rfl) rfl (Nat.le_of_ble_eq_true rfl) (st_1222 _ _) dX12_init_200 (fun H locs hw => ?_)
  obtain ⟨S_527, eS_527⟩ : ∃ T, T = sR S_515 1222 x (some q_514) := ⟨_, rfl⟩
  rw [← eS_527] at hw
  have ph_528 : Phc S_527 = Phc S + 0 := (show Phc S_527 = Phc S_515 from Ph_rawR t_526 (by decide) eS_527).trans ph_516
  have ph_529 : Phs S_527 = Phs S + 0 := (show Phs S_527 = Phs S_515 from Ph_rawR t_526 (by decide) eS_527).trans ph_517
  clear ph_516
  clear ph_517
  have hK_530 : Kq S S_527 x := hK_518.sR eS_527
  have hg_531 : GX S_527 := by rw [eS_527]; exact GX_rawR hg_519 t_526 (by decide +kernel)
  have zi_532 : Zi S_527 x := Zi_sR zi_520 eS_527
  have fz_533 : Fz S_527 x [(1222, q_514, 654, 60), (1221, q_492, 634, 60), (1220, q_470, 614, 5), (1219, q_448, 594, 12), (1218, q_426, 574, 7200), (1217, q_404, 554, 4), (1216, q_382, 534, 4), (1215, q_360, 514, 4), (1214, q_338, 494, 4), (1213, q_316, 474, 4), (1212, q_294, 454, 4), (1209, q_154, 394, 600), (1208, q_132, 374, 600), (1207, q_110, 354, 600), (1206, q_88, 334, 10), (1205, q_66, 314, 10), (1204, q_44, 294, 10), (1203, q_22, 274, 10), (1202, q_1, 254, 10)] := Fz_add fz_521 eS_527 ha_523 hn_524 az_q_514 rfl
  have fd_534 : Fe S_527 x [(1210, q_176, 414, 8)] := Fe_sR fd_522 eS_527 rfl
  clear zi_520 fz_521 fd_522
  have h_535 : pR S_527 1222 x = some q_514 := tR_sRs eS_527
  refine lv_aload_n X.1 X.2.1 dX12_init_203 rfl (lv_at hl 0 rfl) ?_
  refine lv_bipush (v := 60) X.1 X.2.1 dX12_init_204 (by decide) ?_
  refine r_newI (N := 60) X hw 674 9279 21 rfl (X.2.2.2.1 (.arrayClass .int) (by decide +kernel)) (z_nn ti_60 (by omega)) (by decide) (by decide) (by show 20 + 1 ≤ 21; omega) (by show 9219 + 60 ≤ 9279; omega) (by show 21 ≤ 48; omega) (by show 9279 ≤ 182647; omega) dX12_init_206 (fun q_536 H hq_536 hw => ?_)
  obtain ⟨S_537, eS_537⟩ : ∃ T, T = sN S_527 q_536 674 60 := ⟨_, rfl⟩
  rw [← eS_537] at hw
  have ph_538 : Phc S_537 = Phc S + 0 := (show Phc S_537 = Phc S_527 from Ph_sN' hg_531.ci hq_536 eS_537 (by decide)).trans ph_528
  have ph_539 : Phs S_537 = Phs S + 0 := (show Phs S_537 = Phs S_527 from Ph_sN' hg_531.ci hq_536 eS_537 (by decide)).trans ph_529
  clear ph_528
  clear ph_529
  have hK_540 : Kq S S_537 x := hK_530.sN hq_536 eS_537
  have hg_541 : GX S_537 := by rw [eS_537]; exact GX_N hg_531 hq_536 (by decide +kernel)
  have zi_542 : Zi S_537 x := Zi_sN zi_532 eS_537
  have az_q_536 : pA S_537 q_536 = fun _ => 0 := by rw [eS_537]; exact pA_sN_new
  have fz_543 : Fz S_537 x [(1222, q_514, 654, 60), (1221, q_492, 634, 60), (1220, q_470, 614, 5), (1219, q_448, 594, 12), (1218, q_426, 574, 7200), (1217, q_404, 554, 4), (1216, q_382, 534, 4), (1215, q_360, 514, 4), (1214, q_338, 494, 4), (1213, q_316, 474, 4), (1212, q_294, 454, 4), (1209, q_154, 394, 600), (1208, q_132, 374, 600), (1207, q_110, 354, 600), (1206, q_88, 334, 10), (1205, q_66, 314, 10), (1204, q_44, 294, 10), (1203, q_22, 274, 10), (1202, q_1, 254, 10)] := Fz_sN fz_533 hq_536 eS_537
  have fd_544 : Fe S_537 x [(1210, q_176, 414, 8)] := Fe_sN fd_534 hq_536 eS_537
  clear zi_532 fz_533 fd_534
  have hn0_q_536 := hK_530.new hq_536
  have ha_545 : At S_537 q_536 674 := by rw [eS_537]; exact At_nN _ _ _ _
  have hn_546 : pN S_537 q_536 = 60 := by rw [eS_537]; exact pN_sN_new
  have t_547 : At S_527 x 192 := tAt_sR eS_527 t_526
  have t_548 : At S_537 x 192 := by rw [eS_537]; exact At_sN t_547 hq_536
  refine r_putR X hw t_548 rfl 23 1223 (some q_536) rfl tyX12 (by decide) rfl inn_X12_init_12 tyX12_ok nmX12 (by decide) (X.2.2.2.1 (.fieldLink RX12 70 "SilkMillModel" "conditions" "[I") (by decide +kernel)) rfl (Or.inr ⟨rfl, hin, rfl⟩) (fun _ => rfl) rfl (fun _ => rfl) rfl (Nat.le_of_ble_eq_true rfl) (st_1223 _ _) dX12_init_208 (fun H locs hw => ?_)
  obtain ⟨S_549, eS_549⟩ : ∃ T, T = sR S_537 1223 x (some q_536) := ⟨_, rfl⟩
  rw [← eS_549] at hw
  have ph_550 : Phc S_549 = Phc S + 0 := (show Phc S_549 = Phc S_537 from Ph_rawR t_548 (by decide) eS_549).trans ph_538
  have ph_551 : Phs S_549 = Phs S + 0 := (show Phs S_549 = Phs S_537 from Ph_rawR t_548 (by decide) eS_549).trans ph_539
  clear ph_538
  clear ph_539
  have hK_552 : Kq S S_549 x := hK_540.sR eS_549
  have hg_553 : GX S_549 := by rw [eS_549]; exact GX_rawR hg_541 t_548 (by decide +kernel)
  have zi_554 : Zi S_549 x := Zi_sR zi_542 eS_549
  have fz_555 : Fz S_549 x [(1223, q_536, 674, 60), (1222, q_514, 654, 60), (1221, q_492, 634, 60), (1220, q_470, 614, 5), (1219, q_448, 594, 12), (1218, q_426, 574, 7200), (1217, q_404, 554, 4), (1216, q_382, 534, 4), (1215, q_360, 514, 4), (1214, q_338, 494, 4), (1213, q_316, 474, 4), (1212, q_294, 454, 4), (1209, q_154, 394, 600), (1208, q_132, 374, 600), (1207, q_110, 354, 600), (1206, q_88, 334, 10), (1205, q_66, 314, 10), (1204, q_44, 294, 10), (1203, q_22, 274, 10), (1202, q_1, 254, 10)] := Fz_add fz_543 eS_549 ha_545 hn_546 az_q_536 rfl
  have fd_556 : Fe S_549 x [(1210, q_176, 414, 8)] := Fe_sR fd_544 eS_549 rfl
  clear zi_542 fz_543 fd_544
  have h_557 : pR S_549 1223 x = some q_536 := tR_sRs eS_549
  refine lv_aload_n X.1 X.2.1 dX12_init_211 rfl (lv_at hl 0 rfl) ?_
  refine lv_sipush (v := 240) X.1 X.2.1 dX12_init_212 (by decide) ?_
  refine r_newI (N := 240) X hw 694 9519 22 rfl (X.2.2.2.1 (.arrayClass .int) (by decide +kernel)) (z_nn ti_240 (by omega)) (by decide) (by decide) (by show 21 + 1 ≤ 22; omega) (by show 9279 + 240 ≤ 9519; omega) (by show 22 ≤ 48; omega) (by show 9519 ≤ 182647; omega) dX12_init_215 (fun q_558 H hq_558 hw => ?_)
  obtain ⟨S_559, eS_559⟩ : ∃ T, T = sN S_549 q_558 694 240 := ⟨_, rfl⟩
  rw [← eS_559] at hw
  have ph_560 : Phc S_559 = Phc S + 0 := (show Phc S_559 = Phc S_549 from Ph_sN' hg_553.ci hq_558 eS_559 (by decide)).trans ph_550
  have ph_561 : Phs S_559 = Phs S + 0 := (show Phs S_559 = Phs S_549 from Ph_sN' hg_553.ci hq_558 eS_559 (by decide)).trans ph_551
  clear ph_550
  clear ph_551
  have hK_562 : Kq S S_559 x := hK_552.sN hq_558 eS_559
  have hg_563 : GX S_559 := by rw [eS_559]; exact GX_N hg_553 hq_558 (by decide +kernel)
  have zi_564 : Zi S_559 x := Zi_sN zi_554 eS_559
  have az_q_558 : pA S_559 q_558 = fun _ => 0 := by rw [eS_559]; exact pA_sN_new
  have fz_565 : Fz S_559 x [(1223, q_536, 674, 60), (1222, q_514, 654, 60), (1221, q_492, 634, 60), (1220, q_470, 614, 5), (1219, q_448, 594, 12), (1218, q_426, 574, 7200), (1217, q_404, 554, 4), (1216, q_382, 534, 4), (1215, q_360, 514, 4), (1214, q_338, 494, 4), (1213, q_316, 474, 4), (1212, q_294, 454, 4), (1209, q_154, 394, 600), (1208, q_132, 374, 600), (1207, q_110, 354, 600), (1206, q_88, 334, 10), (1205, q_66, 314, 10), (1204, q_44, 294, 10), (1203, q_22, 274, 10), (1202, q_1, 254, 10)] := Fz_sN fz_555 hq_558 eS_559
  have fd_566 : Fe S_559 x [(1210, q_176, 414, 8)] := Fe_sN fd_556 hq_558 eS_559
  clear zi_554 fz_555 fd_556
  have hn0_q_558 := hK_552.new hq_558
  have ha_567 : At S_559 q_558 694 := by rw [eS_559]; exact At_nN _ _ _ _
  have hn_568 : pN S_559 q_558 = 240 := by rw [eS_559]; exact pN_sN_new
  have t_569 : At S_549 x 192 := tAt_sR eS_549 t_548
  have t_570 : At S_559 x 192 := by rw [eS_559]; exact At_sN t_569 hq_558
  refine r_putR X hw t_570 rfl 24 1224 (some q_558) rfl tyX12 (by decide) rfl inn_X12_init_12 tyX12_ok nmX12 (by decide) (X.2.2.2.1 (.fieldLink RX12 73 "SilkMillModel" "field" "[I") (by decide +kernel)) rfl (Or.inr ⟨rfl, hin, rfl⟩) (fun _ => rfl) rfl (fun _ => rfl) rfl (Nat.le_of_ble_eq_true rfl) (st_1224 _ _) dX12_init_217 (fun H locs hw => ?_)
  obtain ⟨S_571, eS_571⟩ : ∃ T, T = sR S_559 1224 x (some q_558) := ⟨_, rfl⟩
  rw [← eS_571] at hw
  have ph_572 : Phc S_571 = Phc S + 0 := (show Phc S_571 = Phc S_559 from Ph_rawR t_570 (by decide) eS_571).trans ph_560
  have ph_573 : Phs S_571 = Phs S + 0 := (show Phs S_571 = Phs S_559 from Ph_rawR t_570 (by decide) eS_571).trans ph_561
  clear ph_560
  clear ph_561
  have hK_574 : Kq S S_571 x := hK_562.sR eS_571
  have hg_575 : GX S_571 := by rw [eS_571]; exact GX_rawR hg_563 t_570 (by decide +kernel)
  have zi_576 : Zi S_571 x := Zi_sR zi_564 eS_571
  have fz_577 : Fz S_571 x [(1224, q_558, 694, 240), (1223, q_536, 674, 60), (1222, q_514, 654, 60), (1221, q_492, 634, 60), (1220, q_470, 614, 5), (1219, q_448, 594, 12), (1218, q_426, 574, 7200), (1217, q_404, 554, 4), (1216, q_382, 534, 4), (1215, q_360, 514, 4), (1214, q_338, 494, 4), (1213, q_316, 474, 4), (1212, q_294, 454, 4), (1209, q_154, 394, 600), (1208, q_132, 374, 600), (1207, q_110, 354, 600), (1206, q_88, 334, 10), (1205, q_66, 314, 10), (1204, q_44, 294, 10), (1203, q_22, 274, 10), (1202, q_1, 254, 10)] := Fz_add fz_565 eS_571 ha_567 hn_568 az_q_558 rfl
  have fd_578 : Fe S_571 x [(1210, q_176, 414, 8)] := Fe_sR fd_566 eS_571 rfl
  clear zi_564 fz_565 fd_566
  have h_579 : pR S_571 1224 x = some q_558 := tR_sRs eS_571
  refine lv_aload_n X.1 X.2.1 dX12_init_220 rfl (lv_at hl 0 rfl) ?_
  refine lv_sipush (v := 240) X.1 X.2.1 dX12_init_221 (by decide) ?_
  refine r_newI (N := 240) X hw 714 9759 23 rfl (X.2.2.2.1 (.arrayClass .int) (by decide +kernel)) (z_nn ti_240 (by omega)) (by decide) (by decide) (by show 22 + 1 ≤ 23; omega) (by show 9519 + 240 ≤ 9759; omega) (by show 23 ≤ 48; omega) (by show 9759 ≤ 182647; omega) dX12_init_224 (fun q_580 H hq_580 hw => ?_)
  obtain ⟨S_581, eS_581⟩ : ∃ T, T = sN S_571 q_580 714 240 := ⟨_, rfl⟩
  rw [← eS_581] at hw
  have ph_582 : Phc S_581 = Phc S + 0 := (show Phc S_581 = Phc S_571 from Ph_sN' hg_575.ci hq_580 eS_581 (by decide)).trans ph_572
  have ph_583 : Phs S_581 = Phs S + 0 := (show Phs S_581 = Phs S_571 from Ph_sN' hg_575.ci hq_580 eS_581 (by decide)).trans ph_573
  clear ph_572
  clear ph_573
  have hK_584 : Kq S S_581 x := hK_574.sN hq_580 eS_581
  have hg_585 : GX S_581 := by rw [eS_581]; exact GX_N hg_575 hq_580 (by decide +kernel)
  have zi_586 : Zi S_581 x := Zi_sN zi_576 eS_581
  have az_q_580 : pA S_581 q_580 = fun _ => 0 := by rw [eS_581]; exact pA_sN_new
  have fz_587 : Fz S_581 x [(1224, q_558, 694, 240), (1223, q_536, 674, 60), (1222, q_514, 654, 60), (1221, q_492, 634, 60), (1220, q_470, 614, 5), (1219, q_448, 594, 12), (1218, q_426, 574, 7200), (1217, q_404, 554, 4), (1216, q_382, 534, 4), (1215, q_360, 514, 4), (1214, q_338, 494, 4), (1213, q_316, 474, 4), (1212, q_294, 454, 4), (1209, q_154, 394, 600), (1208, q_132, 374, 600), (1207, q_110, 354, 600), (1206, q_88, 334, 10), (1205, q_66, 314, 10), (1204, q_44, 294, 10), (1203, q_22, 274, 10), (1202, q_1, 254, 10)] := Fz_sN fz_577 hq_580 eS_581
  have fd_588 : Fe S_581 x [(1210, q_176, 414, 8)] := Fe_sN fd_578 hq_580 eS_581
  clear zi_576 fz_577 fd_578
  have hn0_q_580 := hK_574.new hq_580
  have ha_589 : At S_581 q_580 714 := by rw [eS_581]; exact At_nN _ _ _ _
  have hn_590 : pN S_581 q_580 = 240 := by rw [eS_581]; exact pN_sN_new
  have t_591 : At S_571 x 192 := tAt_sR eS_571 t_570
  have t_592 : At S_581 x 192 := by rw [eS_581]; exact At_sN t_591 hq_580
  refine r_putR X hw t_592 rfl 25 1225 (some q_580) rfl tyX12 (by decide) rfl inn_X12_init_12 tyX12_ok nmX12 (by decide) (X.2.2.2.1 (.fieldLink RX12 76 "SilkMillModel" "rel" "[I") (by decide +kernel)) rfl (Or.inr ⟨rfl, hin, rfl⟩) (fun _ => rfl) rfl (fun _ => rfl) rfl (Nat.le_of_ble_eq_true rfl) (st_1225 _ _) dX12_init_226 (fun H locs hw => ?_)
  obtain ⟨S_593, eS_593⟩ : ∃ T, T = sR S_581 1225 x (some q_580) := ⟨_, rfl⟩
  rw [← eS_593] at hw
  have ph_594 : Phc S_593 = Phc S + 0 := (show Phc S_593 = Phc S_581 from Ph_rawR t_592 (by decide) eS_593).trans ph_582
  have ph_595 : Phs S_593 = Phs S + 0 := (show Phs S_593 = Phs S_581 from Ph_rawR t_592 (by decide) eS_593).trans ph_583
  clear ph_582
  clear ph_583
  have hK_596 : Kq S S_593 x := hK_584.sR eS_593
  have hg_597 : GX S_593 := by rw [eS_593]; exact GX_rawR hg_585 t_592 (by decide +kernel)
  have zi_598 : Zi S_593 x := Zi_sR zi_586 eS_593
  have fz_599 : Fz S_593 x [(1225, q_580, 714, 240), (1224, q_558, 694, 240), (1223, q_536, 674, 60), (1222, q_514, 654, 60), (1221, q_492, 634, 60), (1220, q_470, 614, 5), (1219, q_448, 594, 12), (1218, q_426, 574, 7200), (1217, q_404, 554, 4), (1216, q_382, 534, 4), (1215, q_360, 514, 4), (1214, q_338, 494, 4), (1213, q_316, 474, 4), (1212, q_294, 454, 4), (1209, q_154, 394, 600), (1208, q_132, 374, 600), (1207, q_110, 354, 600), (1206, q_88, 334, 10), (1205, q_66, 314, 10), (1204, q_44, 294, 10), (1203, q_22, 274, 10), (1202, q_1, 254, 10)] := Fz_add fz_587 eS_593 ha_589 hn_590 az_q_580 rfl
  have fd_600 : Fe S_593 x [(1210, q_176, 414, 8)] := Fe_sR fd_588 eS_593 rfl
  clear zi_586 fz_587 fd_588
  have h_601 : pR S_593 1225 x = some q_580 := tR_sRs eS_593
  refine lv_aload_n X.1 X.2.1 dX12_init_229 rfl (lv_at hl 0 rfl) ?_
  refine lv_sipush (v := 240) X.1 X.2.1 dX12_init_230 (by decide) ?_
  refine r_newI (N := 240) X hw 734 9999 24 rfl (X.2.2.2.1 (.arrayClass .int) (by decide +kernel)) (z_nn ti_240 (by omega)) (by decide) (by decide) (by show 23 + 1 ≤ 24; omega) (by show 9759 + 240 ≤ 9999; omega) (by show 24 ≤ 48; omega) (by show 9999 ≤ 182647; omega) dX12_init_233 (fun q_602 H hq_602 hw => ?_)
  obtain ⟨S_603, eS_603⟩ : ∃ T, T = sN S_593 q_602 734 240 := ⟨_, rfl⟩
  rw [← eS_603] at hw
  have ph_604 : Phc S_603 = Phc S + 0 := (show Phc S_603 = Phc S_593 from Ph_sN' hg_597.ci hq_602 eS_603 (by decide)).trans ph_594
  have ph_605 : Phs S_603 = Phs S + 0 := (show Phs S_603 = Phs S_593 from Ph_sN' hg_597.ci hq_602 eS_603 (by decide)).trans ph_595
  clear ph_594
  clear ph_595
  have hK_606 : Kq S S_603 x := hK_596.sN hq_602 eS_603
  have hg_607 : GX S_603 := by rw [eS_603]; exact GX_N hg_597 hq_602 (by decide +kernel)
  have zi_608 : Zi S_603 x := Zi_sN zi_598 eS_603
  have az_q_602 : pA S_603 q_602 = fun _ => 0 := by rw [eS_603]; exact pA_sN_new
  have fz_609 : Fz S_603 x [(1225, q_580, 714, 240), (1224, q_558, 694, 240), (1223, q_536, 674, 60), (1222, q_514, 654, 60), (1221, q_492, 634, 60), (1220, q_470, 614, 5), (1219, q_448, 594, 12), (1218, q_426, 574, 7200), (1217, q_404, 554, 4), (1216, q_382, 534, 4), (1215, q_360, 514, 4), (1214, q_338, 494, 4), (1213, q_316, 474, 4), (1212, q_294, 454, 4), (1209, q_154, 394, 600), (1208, q_132, 374, 600), (1207, q_110, 354, 600), (1206, q_88, 334, 10), (1205, q_66, 314, 10), (1204, q_44, 294, 10), (1203, q_22, 274, 10), (1202, q_1, 254, 10)] := Fz_sN fz_599 hq_602 eS_603
  have fd_610 : Fe S_603 x [(1210, q_176, 414, 8)] := Fe_sN fd_600 hq_602 eS_603
  clear zi_598 fz_599 fd_600
  have hn0_q_602 := hK_596.new hq_602
  have ha_611 : At S_603 q_602 734 := by rw [eS_603]; exact At_nN _ _ _ _
  have hn_612 : pN S_603 q_602 = 240 := by rw [eS_603]; exact pN_sN_new
  have t_613 : At S_593 x 192 := tAt_sR eS_593 t_592
  have t_614 : At S_603 x 192 := by rw [eS_603]; exact At_sN t_613 hq_602
  refine r_putR X hw t_614 rfl 26 1226 (some q_602) rfl tyX12 (by decide) rfl inn_X12_init_12 tyX12_ok nmX12 (by decide) (X.2.2.2.1 (.fieldLink RX12 79 "SilkMillModel" "than" "[I") (by decide +kernel)) rfl (Or.inr ⟨rfl, hin, rfl⟩) (fun _ => rfl) rfl (fun _ => rfl) rfl (Nat.le_of_ble_eq_true rfl) (st_1226 _ _) dX12_init_235 (fun H locs hw => ?_)
  obtain ⟨S_615, eS_615⟩ : ∃ T, T = sR S_603 1226 x (some q_602) := ⟨_, rfl⟩
  rw [← eS_615] at hw
  have ph_616 : Phc S_615 = Phc S + 0 := (show Phc S_615 = Phc S_603 from Ph_rawR t_614 (by decide) eS_615).trans ph_604
  have ph_617 : Phs S_615 = Phs S + 0 := (show Phs S_615 = Phs S_603 from Ph_rawR t_614 (by decide) eS_615).trans ph_605
  clear ph_604
  clear ph_605
  have hK_618 : Kq S S_615 x := hK_606.sR eS_615
  have hg_619 : GX S_615 := by rw [eS_615]; exact GX_rawR hg_607 t_614 (by decide +kernel)
  have zi_620 : Zi S_615 x := Zi_sR zi_608 eS_615
  have fz_621 : Fz S_615 x [(1226, q_602, 734, 240), (1225, q_580, 714, 240), (1224, q_558, 694, 240), (1223, q_536, 674, 60), (1222, q_514, 654, 60), (1221, q_492, 634, 60), (1220, q_470, 614, 5), (1219, q_448, 594, 12), (1218, q_426, 574, 7200), (1217, q_404, 554, 4), (1216, q_382, 534, 4), (1215, q_360, 514, 4), (1214, q_338, 494, 4), (1213, q_316, 474, 4), (1212, q_294, 454, 4), (1209, q_154, 394, 600), (1208, q_132, 374, 600), (1207, q_110, 354, 600), (1206, q_88, 334, 10), (1205, q_66, 314, 10), (1204, q_44, 294, 10), (1203, q_22, 274, 10), (1202, q_1, 254, 10)] := Fz_add fz_609 eS_615 ha_611 hn_612 az_q_602 rfl
  have fd_622 : Fe S_615 x [(1210, q_176, 414, 8)] := Fe_sR fd_610 eS_615 rfl
  clear zi_608 fz_609 fd_610
  have h_623 : pR S_615 1226 x = some q_602 := tR_sRs eS_615
  refine lv_aload_n X.1 X.2.1 dX12_init_238 rfl (lv_at hl 0 rfl) ?_
  refine lv_sipush (v := 400) X.1 X.2.1 dX12_init_239 (by decide) ?_
  refine r_newB (N := 400) X hw 753 10399 25 rfl (X.2.2.2.1 (.arrayClass .byte) (by decide +kernel)) (z_nn ti_400 (by omega)) (by decide) (by decide) (by show 24 + 1 ≤ 25; omega) (by show 9999 + 400 ≤ 10399; omega) (by show 25 ≤ 48; omega) (by show 10399 ≤ 182647; omega) dX12_init_242 (fun q_624 H hq_624 hw => ?_)
  obtain ⟨S_625, eS_625⟩ : ∃ T, T = sN S_615 q_624 753 400 := ⟨_, rfl⟩
  rw [← eS_625] at hw
  have ph_626 : Phc S_625 = Phc S + 0 := (show Phc S_625 = Phc S_615 from Ph_sN' hg_619.ci hq_624 eS_625 (by decide)).trans ph_616
  have ph_627 : Phs S_625 = Phs S + 0 := (show Phs S_625 = Phs S_615 from Ph_sN' hg_619.ci hq_624 eS_625 (by decide)).trans ph_617
  clear ph_616
  clear ph_617
  have hK_628 : Kq S S_625 x := hK_618.sN hq_624 eS_625
  have hg_629 : GX S_625 := by rw [eS_625]; exact GX_N hg_619 hq_624 (by decide +kernel)
  have zi_630 : Zi S_625 x := Zi_sN zi_620 eS_625
  have az_q_624 : pA S_625 q_624 = fun _ => 0 := by rw [eS_625]; exact pA_sN_new
  have fz_631 : Fz S_625 x [(1226, q_602, 734, 240), (1225, q_580, 714, 240), (1224, q_558, 694, 240), (1223, q_536, 674, 60), (1222, q_514, 654, 60), (1221, q_492, 634, 60), (1220, q_470, 614, 5), (1219, q_448, 594, 12), (1218, q_426, 574, 7200), (1217, q_404, 554, 4), (1216, q_382, 534, 4), (1215, q_360, 514, 4), (1214, q_338, 494, 4), (1213, q_316, 474, 4), (1212, q_294, 454, 4), (1209, q_154, 394, 600), (1208, q_132, 374, 600), (1207, q_110, 354, 600), (1206, q_88, 334, 10), (1205, q_66, 314, 10), (1204, q_44, 294, 10), (1203, q_22, 274, 10), (1202, q_1, 254, 10)] := Fz_sN fz_621 hq_624 eS_625
  have fd_632 : Fe S_625 x [(1210, q_176, 414, 8)] := Fe_sN fd_622 hq_624 eS_625
  clear zi_620 fz_621 fd_622
  have hn0_q_624 := hK_618.new hq_624
  have ha_633 : At S_625 q_624 753 := by rw [eS_625]; exact At_nN _ _ _ _
  have hn_634 : pN S_625 q_624 = 400 := by rw [eS_625]; exact pN_sN_new
  have t_635 : At S_615 x 192 := tAt_sR eS_615 t_614
  have t_636 : At S_625 x 192 := by rw [eS_625]; exact At_sN t_635 hq_624
  refine r_putR X hw t_636 rfl 27 1227 (some q_624) rfl tyX12 (by decide) rfl inn_X12_init_12 tyX12_ok nmX12 (by decide) (X.2.2.2.1 (.fieldLink RX12 82 "SilkMillModel" "tape" "[B") (by decide +kernel)) rfl (Or.inr ⟨rfl, hin, rfl⟩) (fun _ => rfl) rfl (fun _ => rfl) rfl (Nat.le_of_ble_eq_true rfl) (st_1227 _ _) dX12_init_244 (fun H locs hw => ?_)
  obtain ⟨S_637, eS_637⟩ : ∃ T, T = sR S_625 1227 x (some q_624) := ⟨_, rfl⟩
  rw [← eS_637] at hw
  have ph_638 : Phc S_637 = Phc S + 0 := (show Phc S_637 = Phc S_625 from Ph_rawR t_636 (by decide) eS_637).trans ph_626
  have ph_639 : Phs S_637 = Phs S + 0 := (show Phs S_637 = Phs S_625 from Ph_rawR t_636 (by decide) eS_637).trans ph_627
  clear ph_626
  clear ph_627
  have hK_640 : Kq S S_637 x := hK_628.sR eS_637
  have hg_641 : GX S_637 := by rw [eS_637]; exact GX_rawR hg_629 t_636 (by decide +kernel)
  have zi_642 : Zi S_637 x := Zi_sR zi_630 eS_637
  have fz_643 : Fz S_637 x [(1227, q_624, 753, 400), (1226, q_602, 734, 240), (1225, q_580, 714, 240), (1224, q_558, 694, 240), (1223, q_536, 674, 60), (1222, q_514, 654, 60), (1221, q_492, 634, 60), (1220, q_470, 614, 5), (1219, q_448, 594, 12), (1218, q_426, 574, 7200), (1217, q_404, 554, 4), (1216, q_382, 534, 4), (1215, q_360, 514, 4), (1214, q_338, 494, 4), (1213, q_316, 474, 4), (1212, q_294, 454, 4), (1209, q_154, 394, 600), (1208, q_132, 374, 600), (1207, q_110, 354, 600), (1206, q_88, 334, 10), (1205, q_66, 314, 10), (1204, q_44, 294, 10), (1203, q_22, 274, 10), (1202, q_1, 254, 10)] := Fz_add fz_631 eS_637 ha_633 hn_634 az_q_624 rfl
  have fd_644 : Fe S_637 x [(1210, q_176, 414, 8)] := Fe_sR fd_632 eS_637 rfl
  clear zi_630 fz_631 fd_632
  have h_645 : pR S_637 1227 x = some q_624 := tR_sRs eS_637
  refine lv_aload_n X.1 X.2.1 dX12_init_247 rfl (lv_at hl 0 rfl) ?_
  refine lv_iconst (v := (-1)) X.1 X.2.1 dX12_init_248 (by decide) ?_
  have t_646 : At S_637 x 192 := tAt_sR eS_637 t_636
  refine r_putI (v := (-1)) X hw t_646 rfl 29 1229 tyX12 (by decide) rfl inn_X12_init_12 tyX12_ok nmX12 (by decide) (X.2.2.2.1 (.fieldLink RX12 86 "SilkMillModel" "faultPlace" "I") (by decide +kernel)) rfl (Or.inl rfl) rfl rfl (Nat.le_of_ble_eq_true rfl) (st_1229 _ _) dX12_init_249 (fun H locs hw => ?_)
  obtain ⟨S_647, eS_647⟩ : ∃ T, T = sI S_637 1229 x ((-1)) := ⟨_, rfl⟩
  rw [← eS_647] at hw
  have ph_648 : Phc S_647 = Phc S + 0 := (show Phc S_647 = Phc S_637 from Ph_rawI t_646 (by decide) eS_647).trans ph_638
  have ph_649 : Phs S_647 = Phs S + 0 := (show Phs S_647 = Phs S_637 from Ph_rawI t_646 (by decide) eS_647).trans ph_639
  clear ph_638
  clear ph_639
  have hK_650 : Kq S S_647 x := hK_640.sI eS_647
  have hg_651 : GX S_647 := by rw [eS_647]; exact GX_rawI hg_641 t_646 (by decide +kernel)
  have zi_652 : Zi S_647 x := Zi_sI zi_642 eS_647
  have fz_653 : Fz S_647 x [(1227, q_624, 753, 400), (1226, q_602, 734, 240), (1225, q_580, 714, 240), (1224, q_558, 694, 240), (1223, q_536, 674, 60), (1222, q_514, 654, 60), (1221, q_492, 634, 60), (1220, q_470, 614, 5), (1219, q_448, 594, 12), (1218, q_426, 574, 7200), (1217, q_404, 554, 4), (1216, q_382, 534, 4), (1215, q_360, 514, 4), (1214, q_338, 494, 4), (1213, q_316, 474, 4), (1212, q_294, 454, 4), (1209, q_154, 394, 600), (1208, q_132, 374, 600), (1207, q_110, 354, 600), (1206, q_88, 334, 10), (1205, q_66, 314, 10), (1204, q_44, 294, 10), (1203, q_22, 274, 10), (1202, q_1, 254, 10)] := Fz_sI fz_643 eS_647
  have fd_654 : Fe S_647 x [(1210, q_176, 414, 8)] := Fe_sI fd_644 eS_647
  clear zi_642 fz_643 fd_644
  have h_655 : pI S_647 1229 x = (-1) := tI_sIs eS_647
  refine lv_aload_n X.1 X.2.1 dX12_init_252 rfl (lv_at hl 0 rfl) ?_
  refine lv_sipush (v := 13200) X.1 X.2.1 dX12_init_253 (by decide) ?_
  refine r_newI (N := 13200) X hw 914 23599 26 rfl (X.2.2.2.1 (.arrayClass .int) (by decide +kernel)) (z_nn ti_13200 (by omega)) (by decide) (by decide) (by show 25 + 1 ≤ 26; omega) (by show 10399 + 13200 ≤ 23599; omega) (by show 26 ≤ 48; omega) (by show 23599 ≤ 182647; omega) dX12_init_256 (fun q_656 H hq_656 hw => ?_)
  obtain ⟨S_657, eS_657⟩ : ∃ T, T = sN S_647 q_656 914 13200 := ⟨_, rfl⟩
  rw [← eS_657] at hw
  have ph_658 : Phc S_657 = Phc S + 0 := (show Phc S_657 = Phc S_647 from Ph_sN' hg_651.ci hq_656 eS_657 (by decide)).trans ph_648
  have ph_659 : Phs S_657 = Phs S + 0 := (show Phs S_657 = Phs S_647 from Ph_sN' hg_651.ci hq_656 eS_657 (by decide)).trans ph_649
  clear ph_648
  clear ph_649
  have hK_660 : Kq S S_657 x := hK_650.sN hq_656 eS_657
  have hg_661 : GX S_657 := by rw [eS_657]; exact GX_N hg_651 hq_656 (by decide +kernel)
  have zi_662 : Zi S_657 x := Zi_sN zi_652 eS_657
  have az_q_656 : pA S_657 q_656 = fun _ => 0 := by rw [eS_657]; exact pA_sN_new
  have fz_663 : Fz S_657 x [(1227, q_624, 753, 400), (1226, q_602, 734, 240), (1225, q_580, 714, 240), (1224, q_558, 694, 240), (1223, q_536, 674, 60), (1222, q_514, 654, 60), (1221, q_492, 634, 60), (1220, q_470, 614, 5), (1219, q_448, 594, 12), (1218, q_426, 574, 7200), (1217, q_404, 554, 4), (1216, q_382, 534, 4), (1215, q_360, 514, 4), (1214, q_338, 494, 4), (1213, q_316, 474, 4), (1212, q_294, 454, 4), (1209, q_154, 394, 600), (1208, q_132, 374, 600), (1207, q_110, 354, 600), (1206, q_88, 334, 10), (1205, q_66, 314, 10), (1204, q_44, 294, 10), (1203, q_22, 274, 10), (1202, q_1, 254, 10)] := Fz_sN fz_653 hq_656 eS_657
  have fd_664 : Fe S_657 x [(1210, q_176, 414, 8)] := Fe_sN fd_654 hq_656 eS_657
  clear zi_652 fz_653 fd_654
  have hn0_q_656 := hK_650.new hq_656
  have ha_665 : At S_657 q_656 914 := by rw [eS_657]; exact At_nN _ _ _ _
  have hn_666 : pN S_657 q_656 = 13200 := by rw [eS_657]; exact pN_sN_new
  have t_667 : At S_647 x 192 := tAt_sI eS_647 t_646
  have t_668 : At S_657 x 192 := by rw [eS_657]; exact At_sN t_667 hq_656
  refine r_putR X hw t_668 rfl 35 1235 (some q_656) rfl tyX12 (by decide) rfl inn_X12_init_12 tyX12_ok nmX12 (by decide) (X.2.2.2.1 (.fieldLink RX12 90 "SilkMillModel" "metreEnds" "[I") (by decide +kernel)) rfl (Or.inr ⟨rfl, hin, rfl⟩) (fun _ => rfl) rfl (fun _ => rfl) rfl (Nat.le_of_ble_eq_true rfl) (st_1235 _ _) dX12_init_258 (fun H locs hw => ?_)
  obtain ⟨S_669, eS_669⟩ : ∃ T, T = sR S_657 1235 x (some q_656) := ⟨_, rfl⟩
  rw [← eS_669] at hw
  have ph_670 : Phc S_669 = Phc S + 0 := (show Phc S_669 = Phc S_657 from Ph_rawR t_668 (by decide) eS_669).trans ph_658
  have ph_671 : Phs S_669 = Phs S + 0 := (show Phs S_669 = Phs S_657 from Ph_rawR t_668 (by decide) eS_669).trans ph_659
  clear ph_658
  clear ph_659
  have hK_672 : Kq S S_669 x := hK_660.sR eS_669
  have hg_673 : GX S_669 := by rw [eS_669]; exact GX_rawR hg_661 t_668 (by decide +kernel)
  have zi_674 : Zi S_669 x := Zi_sR zi_662 eS_669
  have fz_675 : Fz S_669 x [(1235, q_656, 914, 13200), (1227, q_624, 753, 400), (1226, q_602, 734, 240), (1225, q_580, 714, 240), (1224, q_558, 694, 240), (1223, q_536, 674, 60), (1222, q_514, 654, 60), (1221, q_492, 634, 60), (1220, q_470, 614, 5), (1219, q_448, 594, 12), (1218, q_426, 574, 7200), (1217, q_404, 554, 4), (1216, q_382, 534, 4), (1215, q_360, 514, 4), (1214, q_338, 494, 4), (1213, q_316, 474, 4), (1212, q_294, 454, 4), (1209, q_154, 394, 600), (1208, q_132, 374, 600), (1207, q_110, 354, 600), (1206, q_88, 334, 10), (1205, q_66, 314, 10), (1204, q_44, 294, 10), (1203, q_22, 274, 10), (1202, q_1, 254, 10)] := Fz_add fz_663 eS_669 ha_665 hn_666 az_q_656 rfl
  have fd_676 : Fe S_669 x [(1210, q_176, 414, 8)] := Fe_sR fd_664 eS_669 rfl
  clear zi_662 fz_663 fd_664
  have h_677 : pR S_669 1235 x = some q_656 := tR_sRs eS_669
  refine lv_aload_n X.1 X.2.1 dX12_init_261 rfl (lv_at hl 0 rfl) ?_
  refine lv_ldc (v := 158400) X.1 X.2.1 X.2.2.2.2.1 (X.2.2.2.1 (.constant RX12 93 158400) (by decide +kernel)) dX12_init_262 ?_
  refine r_newI (N := 158400) X hw 934 181999 27 rfl (X.2.2.2.1 (.arrayClass .int) (by decide +kernel)) (z_nn ti_158400 (by omega)) (by decide) (by decide) (by show 26 + 1 ≤ 27; omega) (by show 23599 + 158400 ≤ 181999; omega) (by show 27 ≤ 48; omega) (by show 181999 ≤ 182647; omega) dX12_init_264 (fun q_678 H hq_678 hw => ?_)
  obtain ⟨S_679, eS_679⟩ : ∃ T, T = sN S_669 q_678 934 158400 := ⟨_, rfl⟩
  rw [← eS_679] at hw
  have ph_680 : Phc S_679 = Phc S + 0 := (show Phc S_679 = Phc S_669 from Ph_sN' hg_673.ci hq_678 eS_679 (by decide)).trans ph_670
  have ph_681 : Phs S_679 = Phs S + 0 := (show Phs S_679 = Phs S_669 from Ph_sN' hg_673.ci hq_678 eS_679 (by decide)).trans ph_671
  clear ph_670
  clear ph_671
  have hK_682 : Kq S S_679 x := hK_672.sN hq_678 eS_679
  have hg_683 : GX S_679 := by rw [eS_679]; exact GX_N hg_673 hq_678 (by decide +kernel)
  have zi_684 : Zi S_679 x := Zi_sN zi_674 eS_679
  have az_q_678 : pA S_679 q_678 = fun _ => 0 := by rw [eS_679]; exact pA_sN_new
  have fz_685 : Fz S_679 x [(1235, q_656, 914, 13200), (1227, q_624, 753, 400), (1226, q_602, 734, 240), (1225, q_580, 714, 240), (1224, q_558, 694, 240), (1223, q_536, 674, 60), (1222, q_514, 654, 60), (1221, q_492, 634, 60), (1220, q_470, 614, 5), (1219, q_448, 594, 12), (1218, q_426, 574, 7200), (1217, q_404, 554, 4), (1216, q_382, 534, 4), (1215, q_360, 514, 4), (1214, q_338, 494, 4), (1213, q_316, 474, 4), (1212, q_294, 454, 4), (1209, q_154, 394, 600), (1208, q_132, 374, 600), (1207, q_110, 354, 600), (1206, q_88, 334, 10), (1205, q_66, 314, 10), (1204, q_44, 294, 10), (1203, q_22, 274, 10), (1202, q_1, 254, 10)] := Fz_sN fz_675 hq_678 eS_679
  have fd_686 : Fe S_679 x [(1210, q_176, 414, 8)] := Fe_sN fd_676 hq_678 eS_679
  clear zi_674 fz_675 fd_676
  have hn0_q_678 := hK_672.new hq_678
  have ha_687 : At S_679 q_678 934 := by rw [eS_679]; exact At_nN _ _ _ _
  have hn_688 : pN S_679 q_678 = 158400 := by rw [eS_679]; exact pN_sN_new
  have t_689 : At S_669 x 192 := tAt_sR eS_669 t_668
  have t_690 : At S_679 x 192 := by rw [eS_679]; exact At_sN t_689 hq_678
  refine r_putR X hw t_690 rfl 36 1236 (some q_678) rfl tyX12 (by decide) rfl inn_X12_init_12 tyX12_ok nmX12 (by decide) (X.2.2.2.1 (.fieldLink RX12 94 "SilkMillModel" "drawn" "[I") (by decide +kernel)) rfl (Or.inr ⟨rfl, hin, rfl⟩) (fun _ => rfl) rfl (fun _ => rfl) rfl (Nat.le_of_ble_eq_true rfl) (st_1236 _ _) dX12_init_266 (fun H locs hw => ?_)
  obtain ⟨S_691, eS_691⟩ : ∃ T, T = sR S_679 1236 x (some q_678) := ⟨_, rfl⟩
  rw [← eS_691] at hw
  have ph_692 : Phc S_691 = Phc S + 0 := (show Phc S_691 = Phc S_679 from Ph_rawR t_690 (by decide) eS_691).trans ph_680
  have ph_693 : Phs S_691 = Phs S + 0 := (show Phs S_691 = Phs S_679 from Ph_rawR t_690 (by decide) eS_691).trans ph_681
  clear ph_680
  clear ph_681
  have hK_694 : Kq S S_691 x := hK_682.sR eS_691
  have hg_695 : GX S_691 := by rw [eS_691]; exact GX_rawR hg_683 t_690 (by decide +kernel)
  have zi_696 : Zi S_691 x := Zi_sR zi_684 eS_691
  have fz_697 : Fz S_691 x [(1236, q_678, 934, 158400), (1235, q_656, 914, 13200), (1227, q_624, 753, 400), (1226, q_602, 734, 240), (1225, q_580, 714, 240), (1224, q_558, 694, 240), (1223, q_536, 674, 60), (1222, q_514, 654, 60), (1221, q_492, 634, 60), (1220, q_470, 614, 5), (1219, q_448, 594, 12), (1218, q_426, 574, 7200), (1217, q_404, 554, 4), (1216, q_382, 534, 4), (1215, q_360, 514, 4), (1214, q_338, 494, 4), (1213, q_316, 474, 4), (1212, q_294, 454, 4), (1209, q_154, 394, 600), (1208, q_132, 374, 600), (1207, q_110, 354, 600), (1206, q_88, 334, 10), (1205, q_66, 314, 10), (1204, q_44, 294, 10), (1203, q_22, 274, 10), (1202, q_1, 254, 10)] := Fz_add fz_685 eS_691 ha_687 hn_688 az_q_678 rfl
  have fd_698 : Fe S_691 x [(1210, q_176, 414, 8)] := Fe_sR fd_686 eS_691 rfl
  clear zi_684 fz_685 fd_686
  have h_699 : pR S_691 1236 x = some q_678 := tR_sRs eS_691
  refine lv_aload_n X.1 X.2.1 dX12_init_269 rfl (lv_at hl 0 rfl) ?_
  refine lv_iconst (v := 4) X.1 X.2.1 dX12_init_270 (by decide) ?_
  refine r_newI (N := 4) X hw 954 182003 28 rfl (X.2.2.2.1 (.arrayClass .int) (by decide +kernel)) (z_nn ti_4 (by omega)) (by decide) (by decide) (by show 27 + 1 ≤ 28; omega) (by show 181999 + 4 ≤ 182003; omega) (by show 28 ≤ 48; omega) (by show 182003 ≤ 182647; omega) dX12_init_271 (fun q_700 H hq_700 hw => ?_)
  obtain ⟨S_701, eS_701⟩ : ∃ T, T = sN S_691 q_700 954 4 := ⟨_, rfl⟩
  rw [← eS_701] at hw
  have ph_702 : Phc S_701 = Phc S + 0 := (show Phc S_701 = Phc S_691 from Ph_sN' hg_695.ci hq_700 eS_701 (by decide)).trans ph_692
  have ph_703 : Phs S_701 = Phs S + 0 := (show Phs S_701 = Phs S_691 from Ph_sN' hg_695.ci hq_700 eS_701 (by decide)).trans ph_693
  clear ph_692
  clear ph_693
  have hK_704 : Kq S S_701 x := hK_694.sN hq_700 eS_701
  have hg_705 : GX S_701 := by rw [eS_701]; exact GX_N hg_695 hq_700 (by decide +kernel)
  have zi_706 : Zi S_701 x := Zi_sN zi_696 eS_701
  have az_q_700 : pA S_701 q_700 = fun _ => 0 := by rw [eS_701]; exact pA_sN_new
  have fz_707 : Fz S_701 x [(1236, q_678, 934, 158400), (1235, q_656, 914, 13200), (1227, q_624, 753, 400), (1226, q_602, 734, 240), (1225, q_580, 714, 240), (1224, q_558, 694, 240), (1223, q_536, 674, 60), (1222, q_514, 654, 60), (1221, q_492, 634, 60), (1220, q_470, 614, 5), (1219, q_448, 594, 12), (1218, q_426, 574, 7200), (1217, q_404, 554, 4), (1216, q_382, 534, 4), (1215, q_360, 514, 4), (1214, q_338, 494, 4), (1213, q_316, 474, 4), (1212, q_294, 454, 4), (1209, q_154, 394, 600), (1208, q_132, 374, 600), (1207, q_110, 354, 600), (1206, q_88, 334, 10), (1205, q_66, 314, 10), (1204, q_44, 294, 10), (1203, q_22, 274, 10), (1202, q_1, 254, 10)] := Fz_sN fz_697 hq_700 eS_701
  have fd_708 : Fe S_701 x [(1210, q_176, 414, 8)] := Fe_sN fd_698 hq_700 eS_701
  clear zi_696 fz_697 fd_698
  have hn0_q_700 := hK_694.new hq_700
  have ha_709 : At S_701 q_700 954 := by rw [eS_701]; exact At_nN _ _ _ _
  have hn_710 : pN S_701 q_700 = 4 := by rw [eS_701]; exact pN_sN_new
  have t_711 : At S_691 x 192 := tAt_sR eS_691 t_690
  have t_712 : At S_701 x 192 := by rw [eS_701]; exact At_sN t_711 hq_700
  refine r_putR X hw t_712 rfl 37 1237 (some q_700) rfl tyX12 (by decide) rfl inn_X12_init_12 tyX12_ok nmX12 (by decide) (X.2.2.2.1 (.fieldLink RX12 97 "SilkMillModel" "grown" "[I") (by decide +kernel)) rfl (Or.inr ⟨rfl, hin, rfl⟩) (fun _ => rfl) rfl (fun _ => rfl) rfl (Nat.le_of_ble_eq_true rfl) (st_1237 _ _) dX12_init_273 (fun H locs hw => ?_)
  obtain ⟨S_713, eS_713⟩ : ∃ T, T = sR S_701 1237 x (some q_700) := ⟨_, rfl⟩
  rw [← eS_713] at hw
  have ph_714 : Phc S_713 = Phc S + 0 := (show Phc S_713 = Phc S_701 from Ph_rawR t_712 (by decide) eS_713).trans ph_702
  have ph_715 : Phs S_713 = Phs S + 0 := (show Phs S_713 = Phs S_701 from Ph_rawR t_712 (by decide) eS_713).trans ph_703
  clear ph_702
  clear ph_703
  have hK_716 : Kq S S_713 x := hK_704.sR eS_713
  have hg_717 : GX S_713 := by rw [eS_713]; exact GX_rawR hg_705 t_712 (by decide +kernel)
  have zi_718 : Zi S_713 x := Zi_sR zi_706 eS_713
  have fz_719 : Fz S_713 x [(1237, q_700, 954, 4), (1236, q_678, 934, 158400), (1235, q_656, 914, 13200), (1227, q_624, 753, 400), (1226, q_602, 734, 240), (1225, q_580, 714, 240), (1224, q_558, 694, 240), (1223, q_536, 674, 60), (1222, q_514, 654, 60), (1221, q_492, 634, 60), (1220, q_470, 614, 5), (1219, q_448, 594, 12), (1218, q_426, 574, 7200), (1217, q_404, 554, 4), (1216, q_382, 534, 4), (1215, q_360, 514, 4), (1214, q_338, 494, 4), (1213, q_316, 474, 4), (1212, q_294, 454, 4), (1209, q_154, 394, 600), (1208, q_132, 374, 600), (1207, q_110, 354, 600), (1206, q_88, 334, 10), (1205, q_66, 314, 10), (1204, q_44, 294, 10), (1203, q_22, 274, 10), (1202, q_1, 254, 10)] := Fz_add fz_707 eS_713 ha_709 hn_710 az_q_700 rfl
  have fd_720 : Fe S_713 x [(1210, q_176, 414, 8)] := Fe_sR fd_708 eS_713 rfl
  clear zi_706 fz_707 fd_708
  have h_721 : pR S_713 1237 x = some q_700 := tR_sRs eS_713
  refine lv_aload_n X.1 X.2.1 dX12_init_276 rfl (lv_at hl 0 rfl) ?_
  refine lv_bipush (v := 41) X.1 X.2.1 dX12_init_277 (by decide) ?_
  refine r_newI (N := 41) X hw 994 182044 29 rfl (X.2.2.2.1 (.arrayClass .int) (by decide +kernel)) (z_nn ti_41 (by omega)) (by decide) (by decide) (by show 28 + 1 ≤ 29; omega) (by show 182003 + 41 ≤ 182044; omega) (by show 29 ≤ 48; omega) (by show 182044 ≤ 182647; omega) dX12_init_279 (fun q_722 H hq_722 hw => ?_)
  obtain ⟨S_723, eS_723⟩ : ∃ T, T = sN S_713 q_722 994 41 := ⟨_, rfl⟩
  rw [← eS_723] at hw
  have ph_724 : Phc S_723 = Phc S + 0 := (show Phc S_723 = Phc S_713 from Ph_sN' hg_717.ci hq_722 eS_723 (by decide)).trans ph_714
  have ph_725 : Phs S_723 = Phs S + 0 := (show Phs S_723 = Phs S_713 from Ph_sN' hg_717.ci hq_722 eS_723 (by decide)).trans ph_715
  clear ph_714
  clear ph_715
  have hK_726 : Kq S S_723 x := hK_716.sN hq_722 eS_723
  have hg_727 : GX S_723 := by rw [eS_723]; exact GX_N hg_717 hq_722 (by decide +kernel)
  have zi_728 : Zi S_723 x := Zi_sN zi_718 eS_723
  have az_q_722 : pA S_723 q_722 = fun _ => 0 := by rw [eS_723]; exact pA_sN_new
  have fz_729 : Fz S_723 x [(1237, q_700, 954, 4), (1236, q_678, 934, 158400), (1235, q_656, 914, 13200), (1227, q_624, 753, 400), (1226, q_602, 734, 240), (1225, q_580, 714, 240), (1224, q_558, 694, 240), (1223, q_536, 674, 60), (1222, q_514, 654, 60), (1221, q_492, 634, 60), (1220, q_470, 614, 5), (1219, q_448, 594, 12), (1218, q_426, 574, 7200), (1217, q_404, 554, 4), (1216, q_382, 534, 4), (1215, q_360, 514, 4), (1214, q_338, 494, 4), (1213, q_316, 474, 4), (1212, q_294, 454, 4), (1209, q_154, 394, 600), (1208, q_132, 374, 600), (1207, q_110, 354, 600), (1206, q_88, 334, 10), (1205, q_66, 314, 10), (1204, q_44, 294, 10), (1203, q_22, 274, 10), (1202, q_1, 254, 10)] := Fz_sN fz_719 hq_722 eS_723
  have fd_730 : Fe S_723 x [(1210, q_176, 414, 8)] := Fe_sN fd_720 hq_722 eS_723
  clear zi_718 fz_719 fd_720
  have hn0_q_722 := hK_716.new hq_722
  have ha_731 : At S_723 q_722 994 := by rw [eS_723]; exact At_nN _ _ _ _
  have hn_732 : pN S_723 q_722 = 41 := by rw [eS_723]; exact pN_sN_new
  have t_733 : At S_713 x 192 := tAt_sR eS_713 t_712
  have t_734 : At S_723 x 192 := by rw [eS_723]; exact At_sN t_733 hq_722
  refine r_putR X hw t_734 rfl 39 1239 (some q_722) rfl tyX12 (by decide) rfl inn_X12_init_12 tyX12_ok nmX12 (by decide) (X.2.2.2.1 (.fieldLink RX12 100 "SilkMillModel" "firstMetre" "[I") (by decide +kernel)) rfl (Or.inr ⟨rfl, hin, rfl⟩) (fun _ => rfl) rfl (fun _ => rfl) rfl (Nat.le_of_ble_eq_true rfl) (st_1239 _ _) dX12_init_281 (fun H locs hw => ?_)
  obtain ⟨S_735, eS_735⟩ : ∃ T, T = sR S_723 1239 x (some q_722) := ⟨_, rfl⟩
  rw [← eS_735] at hw
  have ph_736 : Phc S_735 = Phc S + 0 := (show Phc S_735 = Phc S_723 from Ph_rawR t_734 (by decide) eS_735).trans ph_724
  have ph_737 : Phs S_735 = Phs S + 0 := (show Phs S_735 = Phs S_723 from Ph_rawR t_734 (by decide) eS_735).trans ph_725
  clear ph_724
  clear ph_725
  have hK_738 : Kq S S_735 x := hK_726.sR eS_735
  have hg_739 : GX S_735 := by rw [eS_735]; exact GX_rawR hg_727 t_734 (by decide +kernel)
  have zi_740 : Zi S_735 x := Zi_sR zi_728 eS_735
  have fz_741 : Fz S_735 x [(1239, q_722, 994, 41), (1237, q_700, 954, 4), (1236, q_678, 934, 158400), (1235, q_656, 914, 13200), (1227, q_624, 753, 400), (1226, q_602, 734, 240), (1225, q_580, 714, 240), (1224, q_558, 694, 240), (1223, q_536, 674, 60), (1222, q_514, 654, 60), (1221, q_492, 634, 60), (1220, q_470, 614, 5), (1219, q_448, 594, 12), (1218, q_426, 574, 7200), (1217, q_404, 554, 4), (1216, q_382, 534, 4), (1215, q_360, 514, 4), (1214, q_338, 494, 4), (1213, q_316, 474, 4), (1212, q_294, 454, 4), (1209, q_154, 394, 600), (1208, q_132, 374, 600), (1207, q_110, 354, 600), (1206, q_88, 334, 10), (1205, q_66, 314, 10), (1204, q_44, 294, 10), (1203, q_22, 274, 10), (1202, q_1, 254, 10)] := Fz_add fz_729 eS_735 ha_731 hn_732 az_q_722 rfl
  have fd_742 : Fe S_735 x [(1210, q_176, 414, 8)] := Fe_sR fd_730 eS_735 rfl
  clear zi_728 fz_729 fd_730
  have h_743 : pR S_735 1239 x = some q_722 := tR_sRs eS_735
  refine lv_aload_n X.1 X.2.1 dX12_init_284 rfl (lv_at hl 0 rfl) ?_
  refine lv_bipush (v := 40) X.1 X.2.1 dX12_init_285 (by decide) ?_
  refine r_newI (N := 40) X hw 1014 182084 30 rfl (X.2.2.2.1 (.arrayClass .int) (by decide +kernel)) (z_nn ti_40 (by omega)) (by decide) (by decide) (by show 29 + 1 ≤ 30; omega) (by show 182044 + 40 ≤ 182084; omega) (by show 30 ≤ 48; omega) (by show 182084 ≤ 182647; omega) dX12_init_287 (fun q_744 H hq_744 hw => ?_)
  obtain ⟨S_745, eS_745⟩ : ∃ T, T = sN S_735 q_744 1014 40 := ⟨_, rfl⟩
  rw [← eS_745] at hw
  have ph_746 : Phc S_745 = Phc S + 0 := (show Phc S_745 = Phc S_735 from Ph_sN' hg_739.ci hq_744 eS_745 (by decide)).trans ph_736
  have ph_747 : Phs S_745 = Phs S + 0 := (show Phs S_745 = Phs S_735 from Ph_sN' hg_739.ci hq_744 eS_745 (by decide)).trans ph_737
  clear ph_736
  clear ph_737
  have hK_748 : Kq S S_745 x := hK_738.sN hq_744 eS_745
  have hg_749 : GX S_745 := by rw [eS_745]; exact GX_N hg_739 hq_744 (by decide +kernel)
  have zi_750 : Zi S_745 x := Zi_sN zi_740 eS_745
  have az_q_744 : pA S_745 q_744 = fun _ => 0 := by rw [eS_745]; exact pA_sN_new
  have fz_751 : Fz S_745 x [(1239, q_722, 994, 41), (1237, q_700, 954, 4), (1236, q_678, 934, 158400), (1235, q_656, 914, 13200), (1227, q_624, 753, 400), (1226, q_602, 734, 240), (1225, q_580, 714, 240), (1224, q_558, 694, 240), (1223, q_536, 674, 60), (1222, q_514, 654, 60), (1221, q_492, 634, 60), (1220, q_470, 614, 5), (1219, q_448, 594, 12), (1218, q_426, 574, 7200), (1217, q_404, 554, 4), (1216, q_382, 534, 4), (1215, q_360, 514, 4), (1214, q_338, 494, 4), (1213, q_316, 474, 4), (1212, q_294, 454, 4), (1209, q_154, 394, 600), (1208, q_132, 374, 600), (1207, q_110, 354, 600), (1206, q_88, 334, 10), (1205, q_66, 314, 10), (1204, q_44, 294, 10), (1203, q_22, 274, 10), (1202, q_1, 254, 10)] := Fz_sN fz_741 hq_744 eS_745
  have fd_752 : Fe S_745 x [(1210, q_176, 414, 8)] := Fe_sN fd_742 hq_744 eS_745
  clear zi_740 fz_741 fd_742
  have hn0_q_744 := hK_738.new hq_744
  have ha_753 : At S_745 q_744 1014 := by rw [eS_745]; exact At_nN _ _ _ _
  have hn_754 : pN S_745 q_744 = 40 := by rw [eS_745]; exact pN_sN_new
  have t_755 : At S_735 x 192 := tAt_sR eS_735 t_734
  have t_756 : At S_745 x 192 := by rw [eS_745]; exact At_sN t_755 hq_744
  refine r_putR X hw t_756 rfl 40 1240 (some q_744) rfl tyX12 (by decide) rfl inn_X12_init_12 tyX12_ok nmX12 (by decide) (X.2.2.2.1 (.fieldLink RX12 103 "SilkMillModel" "skeinPot" "[I") (by decide +kernel)) rfl (Or.inr ⟨rfl, hin, rfl⟩) (fun _ => rfl) rfl (fun _ => rfl) rfl (Nat.le_of_ble_eq_true rfl) (st_1240 _ _) dX12_init_289 (fun H locs hw => ?_)
  obtain ⟨S_757, eS_757⟩ : ∃ T, T = sR S_745 1240 x (some q_744) := ⟨_, rfl⟩
  rw [← eS_757] at hw
  have ph_758 : Phc S_757 = Phc S + 0 := (show Phc S_757 = Phc S_745 from Ph_rawR t_756 (by decide) eS_757).trans ph_746
  have ph_759 : Phs S_757 = Phs S + 0 := (show Phs S_757 = Phs S_745 from Ph_rawR t_756 (by decide) eS_757).trans ph_747
  clear ph_746
  clear ph_747
  have hK_760 : Kq S S_757 x := hK_748.sR eS_757
  have hg_761 : GX S_757 := by rw [eS_757]; exact GX_rawR hg_749 t_756 (by decide +kernel)
  have zi_762 : Zi S_757 x := Zi_sR zi_750 eS_757
  have fz_763 : Fz S_757 x [(1240, q_744, 1014, 40), (1239, q_722, 994, 41), (1237, q_700, 954, 4), (1236, q_678, 934, 158400), (1235, q_656, 914, 13200), (1227, q_624, 753, 400), (1226, q_602, 734, 240), (1225, q_580, 714, 240), (1224, q_558, 694, 240), (1223, q_536, 674, 60), (1222, q_514, 654, 60), (1221, q_492, 634, 60), (1220, q_470, 614, 5), (1219, q_448, 594, 12), (1218, q_426, 574, 7200), (1217, q_404, 554, 4), (1216, q_382, 534, 4), (1215, q_360, 514, 4), (1214, q_338, 494, 4), (1213, q_316, 474, 4), (1212, q_294, 454, 4), (1209, q_154, 394, 600), (1208, q_132, 374, 600), (1207, q_110, 354, 600), (1206, q_88, 334, 10), (1205, q_66, 314, 10), (1204, q_44, 294, 10), (1203, q_22, 274, 10), (1202, q_1, 254, 10)] := Fz_add fz_751 eS_757 ha_753 hn_754 az_q_744 rfl
  have fd_764 : Fe S_757 x [(1210, q_176, 414, 8)] := Fe_sR fd_752 eS_757 rfl
  clear zi_750 fz_751 fd_752
  have h_765 : pR S_757 1240 x = some q_744 := tR_sRs eS_757
  refine lv_aload_n X.1 X.2.1 dX12_init_292 rfl (lv_at hl 0 rfl) ?_
  refine lv_bipush (v := 40) X.1 X.2.1 dX12_init_293 (by decide) ?_
  refine r_newI (N := 40) X hw 1034 182124 31 rfl (X.2.2.2.1 (.arrayClass .int) (by decide +kernel)) (z_nn ti_40 (by omega)) (by decide) (by decide) (by show 30 + 1 ≤ 31; omega) (by show 182084 + 40 ≤ 182124; omega) (by show 31 ≤ 48; omega) (by show 182124 ≤ 182647; omega) dX12_init_295 (fun q_766 H hq_766 hw => ?_)
  obtain ⟨S_767, eS_767⟩ : ∃ T, T = sN S_757 q_766 1034 40 := ⟨_, rfl⟩
  rw [← eS_767] at hw
  have ph_768 : Phc S_767 = Phc S + 0 := (show Phc S_767 = Phc S_757 from Ph_sN' hg_761.ci hq_766 eS_767 (by decide)).trans ph_758
  have ph_769 : Phs S_767 = Phs S + 0 := (show Phs S_767 = Phs S_757 from Ph_sN' hg_761.ci hq_766 eS_767 (by decide)).trans ph_759
  clear ph_758
  clear ph_759
  have hK_770 : Kq S S_767 x := hK_760.sN hq_766 eS_767
  have hg_771 : GX S_767 := by rw [eS_767]; exact GX_N hg_761 hq_766 (by decide +kernel)
  have zi_772 : Zi S_767 x := Zi_sN zi_762 eS_767
  have az_q_766 : pA S_767 q_766 = fun _ => 0 := by rw [eS_767]; exact pA_sN_new
  have fz_773 : Fz S_767 x [(1240, q_744, 1014, 40), (1239, q_722, 994, 41), (1237, q_700, 954, 4), (1236, q_678, 934, 158400), (1235, q_656, 914, 13200), (1227, q_624, 753, 400), (1226, q_602, 734, 240), (1225, q_580, 714, 240), (1224, q_558, 694, 240), (1223, q_536, 674, 60), (1222, q_514, 654, 60), (1221, q_492, 634, 60), (1220, q_470, 614, 5), (1219, q_448, 594, 12), (1218, q_426, 574, 7200), (1217, q_404, 554, 4), (1216, q_382, 534, 4), (1215, q_360, 514, 4), (1214, q_338, 494, 4), (1213, q_316, 474, 4), (1212, q_294, 454, 4), (1209, q_154, 394, 600), (1208, q_132, 374, 600), (1207, q_110, 354, 600), (1206, q_88, 334, 10), (1205, q_66, 314, 10), (1204, q_44, 294, 10), (1203, q_22, 274, 10), (1202, q_1, 254, 10)] := Fz_sN fz_763 hq_766 eS_767
  have fd_774 : Fe S_767 x [(1210, q_176, 414, 8)] := Fe_sN fd_764 hq_766 eS_767
  clear zi_762 fz_763 fd_764
  have hn0_q_766 := hK_760.new hq_766
  have ha_775 : At S_767 q_766 1034 := by rw [eS_767]; exact At_nN _ _ _ _
  have hn_776 : pN S_767 q_766 = 40 := by rw [eS_767]; exact pN_sN_new
  have t_777 : At S_757 x 192 := tAt_sR eS_757 t_756
  have t_778 : At S_767 x 192 := by rw [eS_767]; exact At_sN t_777 hq_766
  refine r_putR X hw t_778 rfl 41 1241 (some q_766) rfl tyX12 (by decide) rfl inn_X12_init_12 tyX12_ok nmX12 (by decide) (X.2.2.2.1 (.fieldLink RX12 106 "SilkMillModel" "skeinDay" "[I") (by decide +kernel)) rfl (Or.inr ⟨rfl, hin, rfl⟩) (fun _ => rfl) rfl (fun _ => rfl) rfl (Nat.le_of_ble_eq_true rfl) (st_1241 _ _) dX12_init_297 (fun H locs hw => ?_)
  obtain ⟨S_779, eS_779⟩ : ∃ T, T = sR S_767 1241 x (some q_766) := ⟨_, rfl⟩
  rw [← eS_779] at hw
  have ph_780 : Phc S_779 = Phc S + 0 := (show Phc S_779 = Phc S_767 from Ph_rawR t_778 (by decide) eS_779).trans ph_768
  have ph_781 : Phs S_779 = Phs S + 0 := (show Phs S_779 = Phs S_767 from Ph_rawR t_778 (by decide) eS_779).trans ph_769
  clear ph_768
  clear ph_769
  have hK_782 : Kq S S_779 x := hK_770.sR eS_779
  have hg_783 : GX S_779 := by rw [eS_779]; exact GX_rawR hg_771 t_778 (by decide +kernel)
  have zi_784 : Zi S_779 x := Zi_sR zi_772 eS_779
  have fz_785 : Fz S_779 x [(1241, q_766, 1034, 40), (1240, q_744, 1014, 40), (1239, q_722, 994, 41), (1237, q_700, 954, 4), (1236, q_678, 934, 158400), (1235, q_656, 914, 13200), (1227, q_624, 753, 400), (1226, q_602, 734, 240), (1225, q_580, 714, 240), (1224, q_558, 694, 240), (1223, q_536, 674, 60), (1222, q_514, 654, 60), (1221, q_492, 634, 60), (1220, q_470, 614, 5), (1219, q_448, 594, 12), (1218, q_426, 574, 7200), (1217, q_404, 554, 4), (1216, q_382, 534, 4), (1215, q_360, 514, 4), (1214, q_338, 494, 4), (1213, q_316, 474, 4), (1212, q_294, 454, 4), (1209, q_154, 394, 600), (1208, q_132, 374, 600), (1207, q_110, 354, 600), (1206, q_88, 334, 10), (1205, q_66, 314, 10), (1204, q_44, 294, 10), (1203, q_22, 274, 10), (1202, q_1, 254, 10)] := Fz_add fz_773 eS_779 ha_775 hn_776 az_q_766 rfl
  have fd_786 : Fe S_779 x [(1210, q_176, 414, 8)] := Fe_sR fd_774 eS_779 rfl
  clear zi_772 fz_773 fd_774
  have h_787 : pR S_779 1241 x = some q_766 := tR_sRs eS_779
  refine lv_aload_n X.1 X.2.1 dX12_init_300 rfl (lv_at hl 0 rfl) ?_
  refine lv_bipush (v := 40) X.1 X.2.1 dX12_init_301 (by decide) ?_
  refine r_newI (N := 40) X hw 1054 182164 32 rfl (X.2.2.2.1 (.arrayClass .int) (by decide +kernel)) (z_nn ti_40 (by omega)) (by decide) (by decide) (by show 31 + 1 ≤ 32; omega) (by show 182124 + 40 ≤ 182164; omega) (by show 32 ≤ 48; omega) (by show 182164 ≤ 182647; omega) dX12_init_303 (fun q_788 H hq_788 hw => ?_)
  obtain ⟨S_789, eS_789⟩ : ∃ T, T = sN S_779 q_788 1054 40 := ⟨_, rfl⟩
  rw [← eS_789] at hw
  have ph_790 : Phc S_789 = Phc S + 0 := (show Phc S_789 = Phc S_779 from Ph_sN' hg_783.ci hq_788 eS_789 (by decide)).trans ph_780
  have ph_791 : Phs S_789 = Phs S + 0 := (show Phs S_789 = Phs S_779 from Ph_sN' hg_783.ci hq_788 eS_789 (by decide)).trans ph_781
  clear ph_780
  clear ph_781
  have hK_792 : Kq S S_789 x := hK_782.sN hq_788 eS_789
  have hg_793 : GX S_789 := by rw [eS_789]; exact GX_N hg_783 hq_788 (by decide +kernel)
  have zi_794 : Zi S_789 x := Zi_sN zi_784 eS_789
  have az_q_788 : pA S_789 q_788 = fun _ => 0 := by rw [eS_789]; exact pA_sN_new
  have fz_795 : Fz S_789 x [(1241, q_766, 1034, 40), (1240, q_744, 1014, 40), (1239, q_722, 994, 41), (1237, q_700, 954, 4), (1236, q_678, 934, 158400), (1235, q_656, 914, 13200), (1227, q_624, 753, 400), (1226, q_602, 734, 240), (1225, q_580, 714, 240), (1224, q_558, 694, 240), (1223, q_536, 674, 60), (1222, q_514, 654, 60), (1221, q_492, 634, 60), (1220, q_470, 614, 5), (1219, q_448, 594, 12), (1218, q_426, 574, 7200), (1217, q_404, 554, 4), (1216, q_382, 534, 4), (1215, q_360, 514, 4), (1214, q_338, 494, 4), (1213, q_316, 474, 4), (1212, q_294, 454, 4), (1209, q_154, 394, 600), (1208, q_132, 374, 600), (1207, q_110, 354, 600), (1206, q_88, 334, 10), (1205, q_66, 314, 10), (1204, q_44, 294, 10), (1203, q_22, 274, 10), (1202, q_1, 254, 10)] := Fz_sN fz_785 hq_788 eS_789
  have fd_796 : Fe S_789 x [(1210, q_176, 414, 8)] := Fe_sN fd_786 hq_788 eS_789
  clear zi_784 fz_785 fd_786
  have hn0_q_788 := hK_782.new hq_788
  have ha_797 : At S_789 q_788 1054 := by rw [eS_789]; exact At_nN _ _ _ _
  have hn_798 : pN S_789 q_788 = 40 := by rw [eS_789]; exact pN_sN_new
  have t_799 : At S_779 x 192 := tAt_sR eS_779 t_778
  have t_800 : At S_789 x 192 := by rw [eS_789]; exact At_sN t_799 hq_788
  refine r_putR X hw t_800 rfl 42 1242 (some q_788) rfl tyX12 (by decide) rfl inn_X12_init_12 tyX12_ok nmX12 (by decide) (X.2.2.2.1 (.fieldLink RX12 109 "SilkMillModel" "skeinAim" "[I") (by decide +kernel)) rfl (Or.inr ⟨rfl, hin, rfl⟩) (fun _ => rfl) rfl (fun _ => rfl) rfl (Nat.le_of_ble_eq_true rfl) (st_1242 _ _) dX12_init_305 (fun H locs hw => ?_)
  obtain ⟨S_801, eS_801⟩ : ∃ T, T = sR S_789 1242 x (some q_788) := ⟨_, rfl⟩
  rw [← eS_801] at hw
  have ph_802 : Phc S_801 = Phc S + 0 := (show Phc S_801 = Phc S_789 from Ph_rawR t_800 (by decide) eS_801).trans ph_790
  have ph_803 : Phs S_801 = Phs S + 0 := (show Phs S_801 = Phs S_789 from Ph_rawR t_800 (by decide) eS_801).trans ph_791
  clear ph_790
  clear ph_791
  have hK_804 : Kq S S_801 x := hK_792.sR eS_801
  have hg_805 : GX S_801 := by rw [eS_801]; exact GX_rawR hg_793 t_800 (by decide +kernel)
  have zi_806 : Zi S_801 x := Zi_sR zi_794 eS_801
  have fz_807 : Fz S_801 x [(1242, q_788, 1054, 40), (1241, q_766, 1034, 40), (1240, q_744, 1014, 40), (1239, q_722, 994, 41), (1237, q_700, 954, 4), (1236, q_678, 934, 158400), (1235, q_656, 914, 13200), (1227, q_624, 753, 400), (1226, q_602, 734, 240), (1225, q_580, 714, 240), (1224, q_558, 694, 240), (1223, q_536, 674, 60), (1222, q_514, 654, 60), (1221, q_492, 634, 60), (1220, q_470, 614, 5), (1219, q_448, 594, 12), (1218, q_426, 574, 7200), (1217, q_404, 554, 4), (1216, q_382, 534, 4), (1215, q_360, 514, 4), (1214, q_338, 494, 4), (1213, q_316, 474, 4), (1212, q_294, 454, 4), (1209, q_154, 394, 600), (1208, q_132, 374, 600), (1207, q_110, 354, 600), (1206, q_88, 334, 10), (1205, q_66, 314, 10), (1204, q_44, 294, 10), (1203, q_22, 274, 10), (1202, q_1, 254, 10)] := Fz_add fz_795 eS_801 ha_797 hn_798 az_q_788 rfl
  have fd_808 : Fe S_801 x [(1210, q_176, 414, 8)] := Fe_sR fd_796 eS_801 rfl
  clear zi_794 fz_795 fd_796
  have h_809 : pR S_801 1242 x = some q_788 := tR_sRs eS_801
  refine lv_aload_n X.1 X.2.1 dX12_init_308 rfl (lv_at hl 0 rfl) ?_
  refine lv_bipush (v := 40) X.1 X.2.1 dX12_init_309 (by decide) ?_
  refine r_newI (N := 40) X hw 1074 182204 33 rfl (X.2.2.2.1 (.arrayClass .int) (by decide +kernel)) (z_nn ti_40 (by omega)) (by decide) (by decide) (by show 32 + 1 ≤ 33; omega) (by show 182164 + 40 ≤ 182204; omega) (by show 33 ≤ 48; omega) (by show 182204 ≤ 182647; omega) dX12_init_311 (fun q_810 H hq_810 hw => ?_)
  obtain ⟨S_811, eS_811⟩ : ∃ T, T = sN S_801 q_810 1074 40 := ⟨_, rfl⟩
  rw [← eS_811] at hw
  have ph_812 : Phc S_811 = Phc S + 0 := (show Phc S_811 = Phc S_801 from Ph_sN' hg_805.ci hq_810 eS_811 (by decide)).trans ph_802
  have ph_813 : Phs S_811 = Phs S + 0 := (show Phs S_811 = Phs S_801 from Ph_sN' hg_805.ci hq_810 eS_811 (by decide)).trans ph_803
  clear ph_802
  clear ph_803
  have hK_814 : Kq S S_811 x := hK_804.sN hq_810 eS_811
  have hg_815 : GX S_811 := by rw [eS_811]; exact GX_N hg_805 hq_810 (by decide +kernel)
  have zi_816 : Zi S_811 x := Zi_sN zi_806 eS_811
  have az_q_810 : pA S_811 q_810 = fun _ => 0 := by rw [eS_811]; exact pA_sN_new
  have fz_817 : Fz S_811 x [(1242, q_788, 1054, 40), (1241, q_766, 1034, 40), (1240, q_744, 1014, 40), (1239, q_722, 994, 41), (1237, q_700, 954, 4), (1236, q_678, 934, 158400), (1235, q_656, 914, 13200), (1227, q_624, 753, 400), (1226, q_602, 734, 240), (1225, q_580, 714, 240), (1224, q_558, 694, 240), (1223, q_536, 674, 60), (1222, q_514, 654, 60), (1221, q_492, 634, 60), (1220, q_470, 614, 5), (1219, q_448, 594, 12), (1218, q_426, 574, 7200), (1217, q_404, 554, 4), (1216, q_382, 534, 4), (1215, q_360, 514, 4), (1214, q_338, 494, 4), (1213, q_316, 474, 4), (1212, q_294, 454, 4), (1209, q_154, 394, 600), (1208, q_132, 374, 600), (1207, q_110, 354, 600), (1206, q_88, 334, 10), (1205, q_66, 314, 10), (1204, q_44, 294, 10), (1203, q_22, 274, 10), (1202, q_1, 254, 10)] := Fz_sN fz_807 hq_810 eS_811
  have fd_818 : Fe S_811 x [(1210, q_176, 414, 8)] := Fe_sN fd_808 hq_810 eS_811
  clear zi_806 fz_807 fd_808
  have hn0_q_810 := hK_804.new hq_810
  have ha_819 : At S_811 q_810 1074 := by rw [eS_811]; exact At_nN _ _ _ _
  have hn_820 : pN S_811 q_810 = 40 := by rw [eS_811]; exact pN_sN_new
  have t_821 : At S_801 x 192 := tAt_sR eS_801 t_800
  have t_822 : At S_811 x 192 := by rw [eS_811]; exact At_sN t_821 hq_810
  refine r_putR X hw t_822 rfl 43 1243 (some q_810) rfl tyX12 (by decide) rfl inn_X12_init_12 tyX12_ok nmX12 (by decide) (X.2.2.2.1 (.fieldLink RX12 112 "SilkMillModel" "skeinGrade" "[I") (by decide +kernel)) rfl (Or.inr ⟨rfl, hin, rfl⟩) (fun _ => rfl) rfl (fun _ => rfl) rfl (Nat.le_of_ble_eq_true rfl) (st_1243 _ _) dX12_init_313 (fun H locs hw => ?_)
  obtain ⟨S_823, eS_823⟩ : ∃ T, T = sR S_811 1243 x (some q_810) := ⟨_, rfl⟩
  rw [← eS_823] at hw
  have ph_824 : Phc S_823 = Phc S + 0 := (show Phc S_823 = Phc S_811 from Ph_rawR t_822 (by decide) eS_823).trans ph_812
  have ph_825 : Phs S_823 = Phs S + 0 := (show Phs S_823 = Phs S_811 from Ph_rawR t_822 (by decide) eS_823).trans ph_813
  clear ph_812
  clear ph_813
  have hK_826 : Kq S S_823 x := hK_814.sR eS_823
  have hg_827 : GX S_823 := by rw [eS_823]; exact GX_rawR hg_815 t_822 (by decide +kernel)
  have zi_828 : Zi S_823 x := Zi_sR zi_816 eS_823
  have fz_829 : Fz S_823 x [(1243, q_810, 1074, 40), (1242, q_788, 1054, 40), (1241, q_766, 1034, 40), (1240, q_744, 1014, 40), (1239, q_722, 994, 41), (1237, q_700, 954, 4), (1236, q_678, 934, 158400), (1235, q_656, 914, 13200), (1227, q_624, 753, 400), (1226, q_602, 734, 240), (1225, q_580, 714, 240), (1224, q_558, 694, 240), (1223, q_536, 674, 60), (1222, q_514, 654, 60), (1221, q_492, 634, 60), (1220, q_470, 614, 5), (1219, q_448, 594, 12), (1218, q_426, 574, 7200), (1217, q_404, 554, 4), (1216, q_382, 534, 4), (1215, q_360, 514, 4), (1214, q_338, 494, 4), (1213, q_316, 474, 4), (1212, q_294, 454, 4), (1209, q_154, 394, 600), (1208, q_132, 374, 600), (1207, q_110, 354, 600), (1206, q_88, 334, 10), (1205, q_66, 314, 10), (1204, q_44, 294, 10), (1203, q_22, 274, 10), (1202, q_1, 254, 10)] := Fz_add fz_817 eS_823 ha_819 hn_820 az_q_810 rfl
  have fd_830 : Fe S_823 x [(1210, q_176, 414, 8)] := Fe_sR fd_818 eS_823 rfl
  clear zi_816 fz_817 fd_818
  have h_831 : pR S_823 1243 x = some q_810 := tR_sRs eS_823
  refine lv_aload_n X.1 X.2.1 dX12_init_316 rfl (lv_at hl 0 rfl) ?_
  refine lv_bipush (v := 40) X.1 X.2.1 dX12_init_317 (by decide) ?_
  refine r_newZ (N := 40) X hw 1095 182244 34 rfl (X.2.2.2.1 (.arrayClass .boolean) (by decide +kernel)) (z_nn ti_40 (by omega)) (by decide) (by decide) (by show 33 + 1 ≤ 34; omega) (by show 182204 + 40 ≤ 182244; omega) (by show 34 ≤ 48; omega) (by show 182244 ≤ 182647; omega) dX12_init_319 (fun q_832 H hq_832 hw => ?_)
  obtain ⟨S_833, eS_833⟩ : ∃ T, T = sN S_823 q_832 1095 40 := ⟨_, rfl⟩
  rw [← eS_833] at hw
  have ph_834 : Phc S_833 = Phc S + 0 := (show Phc S_833 = Phc S_823 from Ph_sN' hg_827.ci hq_832 eS_833 (by decide)).trans ph_824
  have ph_835 : Phs S_833 = Phs S + 0 := (show Phs S_833 = Phs S_823 from Ph_sN' hg_827.ci hq_832 eS_833 (by decide)).trans ph_825
  clear ph_824
  clear ph_825
  have hK_836 : Kq S S_833 x := hK_826.sN hq_832 eS_833
  have hg_837 : GX S_833 := by rw [eS_833]; exact GX_N hg_827 hq_832 (by decide +kernel)
  have zi_838 : Zi S_833 x := Zi_sN zi_828 eS_833
  have az_q_832 : pA S_833 q_832 = fun _ => 0 := by rw [eS_833]; exact pA_sN_new
  have fz_839 : Fz S_833 x [(1243, q_810, 1074, 40), (1242, q_788, 1054, 40), (1241, q_766, 1034, 40), (1240, q_744, 1014, 40), (1239, q_722, 994, 41), (1237, q_700, 954, 4), (1236, q_678, 934, 158400), (1235, q_656, 914, 13200), (1227, q_624, 753, 400), (1226, q_602, 734, 240), (1225, q_580, 714, 240), (1224, q_558, 694, 240), (1223, q_536, 674, 60), (1222, q_514, 654, 60), (1221, q_492, 634, 60), (1220, q_470, 614, 5), (1219, q_448, 594, 12), (1218, q_426, 574, 7200), (1217, q_404, 554, 4), (1216, q_382, 534, 4), (1215, q_360, 514, 4), (1214, q_338, 494, 4), (1213, q_316, 474, 4), (1212, q_294, 454, 4), (1209, q_154, 394, 600), (1208, q_132, 374, 600), (1207, q_110, 354, 600), (1206, q_88, 334, 10), (1205, q_66, 314, 10), (1204, q_44, 294, 10), (1203, q_22, 274, 10), (1202, q_1, 254, 10)] := Fz_sN fz_829 hq_832 eS_833
  have fd_840 : Fe S_833 x [(1210, q_176, 414, 8)] := Fe_sN fd_830 hq_832 eS_833
  clear zi_828 fz_829 fd_830
  have hn0_q_832 := hK_826.new hq_832
  have ha_841 : At S_833 q_832 1095 := by rw [eS_833]; exact At_nN _ _ _ _
  have hn_842 : pN S_833 q_832 = 40 := by rw [eS_833]; exact pN_sN_new
  have t_843 : At S_823 x 192 := tAt_sR eS_823 t_822
  have t_844 : At S_833 x 192 := by rw [eS_833]; exact At_sN t_843 hq_832
  refine r_putR X hw t_844 rfl 44 1244 (some q_832) rfl tyX12 (by decide) rfl inn_X12_init_12 tyX12_ok nmX12 (by decide) (X.2.2.2.1 (.fieldLink RX12 115 "SilkMillModel" "isSold" "[Z") (by decide +kernel)) rfl (Or.inr ⟨rfl, hin, rfl⟩) (fun _ => rfl) rfl (fun _ => rfl) rfl (Nat.le_of_ble_eq_true rfl) (st_1244 _ _) dX12_init_321 (fun H locs hw => ?_)
  obtain ⟨S_845, eS_845⟩ : ∃ T, T = sR S_833 1244 x (some q_832) := ⟨_, rfl⟩
  rw [← eS_845] at hw
  have ph_846 : Phc S_845 = Phc S + 0 := (show Phc S_845 = Phc S_833 from Ph_rawR t_844 (by decide) eS_845).trans ph_834
  have ph_847 : Phs S_845 = Phs S + 0 := (show Phs S_845 = Phs S_833 from Ph_rawR t_844 (by decide) eS_845).trans ph_835
  clear ph_834
  clear ph_835
  have hK_848 : Kq S S_845 x := hK_836.sR eS_845
  have hg_849 : GX S_845 := by rw [eS_845]; exact GX_rawR hg_837 t_844 (by decide +kernel)
  have zi_850 : Zi S_845 x := Zi_sR zi_838 eS_845
  have fz_851 : Fz S_845 x [(1244, q_832, 1095, 40), (1243, q_810, 1074, 40), (1242, q_788, 1054, 40), (1241, q_766, 1034, 40), (1240, q_744, 1014, 40), (1239, q_722, 994, 41), (1237, q_700, 954, 4), (1236, q_678, 934, 158400), (1235, q_656, 914, 13200), (1227, q_624, 753, 400), (1226, q_602, 734, 240), (1225, q_580, 714, 240), (1224, q_558, 694, 240), (1223, q_536, 674, 60), (1222, q_514, 654, 60), (1221, q_492, 634, 60), (1220, q_470, 614, 5), (1219, q_448, 594, 12), (1218, q_426, 574, 7200), (1217, q_404, 554, 4), (1216, q_382, 534, 4), (1215, q_360, 514, 4), (1214, q_338, 494, 4), (1213, q_316, 474, 4), (1212, q_294, 454, 4), (1209, q_154, 394, 600), (1208, q_132, 374, 600), (1207, q_110, 354, 600), (1206, q_88, 334, 10), (1205, q_66, 314, 10), (1204, q_44, 294, 10), (1203, q_22, 274, 10), (1202, q_1, 254, 10)] := Fz_add fz_839 eS_845 ha_841 hn_842 az_q_832 rfl
  have fd_852 : Fe S_845 x [(1210, q_176, 414, 8)] := Fe_sR fd_840 eS_845 rfl
  clear zi_838 fz_839 fd_840
  have h_853 : pR S_845 1244 x = some q_832 := tR_sRs eS_845
  refine lv_aload_n X.1 X.2.1 dX12_init_324 rfl (lv_at hl 0 rfl) ?_
  refine lv_iconst (v := 4) X.1 X.2.1 dX12_init_325 (by decide) ?_
  refine r_newI (N := 4) X hw 1174 182248 35 rfl (X.2.2.2.1 (.arrayClass .int) (by decide +kernel)) (z_nn ti_4 (by omega)) (by decide) (by decide) (by show 34 + 1 ≤ 35; omega) (by show 182244 + 4 ≤ 182248; omega) (by show 35 ≤ 48; omega) (by show 182248 ≤ 182647; omega) dX12_init_326 (fun q_854 H hq_854 hw => ?_)
  obtain ⟨S_855, eS_855⟩ : ∃ T, T = sN S_845 q_854 1174 4 := ⟨_, rfl⟩
  rw [← eS_855] at hw
  have ph_856 : Phc S_855 = Phc S + 0 := (show Phc S_855 = Phc S_845 from Ph_sN' hg_849.ci hq_854 eS_855 (by decide)).trans ph_846
  have ph_857 : Phs S_855 = Phs S + 0 := (show Phs S_855 = Phs S_845 from Ph_sN' hg_849.ci hq_854 eS_855 (by decide)).trans ph_847
  clear ph_846
  clear ph_847
  have hK_858 : Kq S S_855 x := hK_848.sN hq_854 eS_855
  have hg_859 : GX S_855 := by rw [eS_855]; exact GX_N hg_849 hq_854 (by decide +kernel)
  have zi_860 : Zi S_855 x := Zi_sN zi_850 eS_855
  have az_q_854 : pA S_855 q_854 = fun _ => 0 := by rw [eS_855]; exact pA_sN_new
  have fz_861 : Fz S_855 x [(1244, q_832, 1095, 40), (1243, q_810, 1074, 40), (1242, q_788, 1054, 40), (1241, q_766, 1034, 40), (1240, q_744, 1014, 40), (1239, q_722, 994, 41), (1237, q_700, 954, 4), (1236, q_678, 934, 158400), (1235, q_656, 914, 13200), (1227, q_624, 753, 400), (1226, q_602, 734, 240), (1225, q_580, 714, 240), (1224, q_558, 694, 240), (1223, q_536, 674, 60), (1222, q_514, 654, 60), (1221, q_492, 634, 60), (1220, q_470, 614, 5), (1219, q_448, 594, 12), (1218, q_426, 574, 7200), (1217, q_404, 554, 4), (1216, q_382, 534, 4), (1215, q_360, 514, 4), (1214, q_338, 494, 4), (1213, q_316, 474, 4), (1212, q_294, 454, 4), (1209, q_154, 394, 600), (1208, q_132, 374, 600), (1207, q_110, 354, 600), (1206, q_88, 334, 10), (1205, q_66, 314, 10), (1204, q_44, 294, 10), (1203, q_22, 274, 10), (1202, q_1, 254, 10)] := Fz_sN fz_851 hq_854 eS_855
  have fd_862 : Fe S_855 x [(1210, q_176, 414, 8)] := Fe_sN fd_852 hq_854 eS_855
  clear zi_850 fz_851 fd_852
  have hn0_q_854 := hK_848.new hq_854
  have ha_863 : At S_855 q_854 1174 := by rw [eS_855]; exact At_nN _ _ _ _
  have hn_864 : pN S_855 q_854 = 4 := by rw [eS_855]; exact pN_sN_new
  have t_865 : At S_845 x 192 := tAt_sR eS_845 t_844
  have t_866 : At S_855 x 192 := by rw [eS_855]; exact At_sN t_865 hq_854
  refine r_putR X hw t_866 rfl 48 1248 (some q_854) rfl tyX12 (by decide) rfl inn_X12_init_12 tyX12_ok nmX12 (by decide) (X.2.2.2.1 (.fieldLink RX12 119 "SilkMillModel" "price" "[I") (by decide +kernel)) rfl (Or.inr ⟨rfl, hin, rfl⟩) (fun _ => rfl) rfl (fun _ => rfl) rfl (Nat.le_of_ble_eq_true rfl) (st_1248 _ _) dX12_init_328 (fun H locs hw => ?_)
  obtain ⟨S_867, eS_867⟩ : ∃ T, T = sR S_855 1248 x (some q_854) := ⟨_, rfl⟩
  rw [← eS_867] at hw
  have ph_868 : Phc S_867 = Phc S + 0 := (show Phc S_867 = Phc S_855 from Ph_rawR t_866 (by decide) eS_867).trans ph_856
  have ph_869 : Phs S_867 = Phs S + 0 := (show Phs S_867 = Phs S_855 from Ph_rawR t_866 (by decide) eS_867).trans ph_857
  clear ph_856
  clear ph_857
  have hK_870 : Kq S S_867 x := hK_858.sR eS_867
  have hg_871 : GX S_867 := by rw [eS_867]; exact GX_rawR hg_859 t_866 (by decide +kernel)
  have zi_872 : Zi S_867 x := Zi_sR zi_860 eS_867
  have fz_873 : Fz S_867 x [(1244, q_832, 1095, 40), (1243, q_810, 1074, 40), (1242, q_788, 1054, 40), (1241, q_766, 1034, 40), (1240, q_744, 1014, 40), (1239, q_722, 994, 41), (1237, q_700, 954, 4), (1236, q_678, 934, 158400), (1235, q_656, 914, 13200), (1227, q_624, 753, 400), (1226, q_602, 734, 240), (1225, q_580, 714, 240), (1224, q_558, 694, 240), (1223, q_536, 674, 60), (1222, q_514, 654, 60), (1221, q_492, 634, 60), (1220, q_470, 614, 5), (1219, q_448, 594, 12), (1218, q_426, 574, 7200), (1217, q_404, 554, 4), (1216, q_382, 534, 4), (1215, q_360, 514, 4), (1214, q_338, 494, 4), (1213, q_316, 474, 4), (1212, q_294, 454, 4), (1209, q_154, 394, 600), (1208, q_132, 374, 600), (1207, q_110, 354, 600), (1206, q_88, 334, 10), (1205, q_66, 314, 10), (1204, q_44, 294, 10), (1203, q_22, 274, 10), (1202, q_1, 254, 10)] := Fz_sR fz_861 eS_867 rfl
  have fd_874 : Fe S_867 x [(1248, q_854, 1174, 4), (1210, q_176, 414, 8)] := Fe_add fd_862 eS_867 ha_863 hn_864 rfl
  clear zi_860 fz_861 fd_862
  have h_875 : pR S_867 1248 x = some q_854 := tR_sRs eS_867
  refine lv_aload_n X.1 X.2.1 dX12_init_331 rfl (lv_at hl 0 rfl) ?_
  refine lv_iconst (v := 5) X.1 X.2.1 dX12_init_332 (by decide) ?_
  refine r_newI (N := 5) X hw 1254 182253 36 rfl (X.2.2.2.1 (.arrayClass .int) (by decide +kernel)) (z_nn ti_5 (by omega)) (by decide) (by decide) (by show 35 + 1 ≤ 36; omega) (by show 182248 + 5 ≤ 182253; omega) (by show 36 ≤ 48; omega) (by show 182253 ≤ 182647; omega) dX12_init_333 (fun q_876 H hq_876 hw => ?_)
  obtain ⟨S_877, eS_877⟩ : ∃ T, T = sN S_867 q_876 1254 5 := ⟨_, rfl⟩
  rw [← eS_877] at hw
  have ph_878 : Phc S_877 = Phc S + 0 := (show Phc S_877 = Phc S_867 from Ph_sN' hg_871.ci hq_876 eS_877 (by decide)).trans ph_868
  have ph_879 : Phs S_877 = Phs S + 0 := (show Phs S_877 = Phs S_867 from Ph_sN' hg_871.ci hq_876 eS_877 (by decide)).trans ph_869
  clear ph_868
  clear ph_869
  have hK_880 : Kq S S_877 x := hK_870.sN hq_876 eS_877
  have hg_881 : GX S_877 := by rw [eS_877]; exact GX_N hg_871 hq_876 (by decide +kernel)
  have zi_882 : Zi S_877 x := Zi_sN zi_872 eS_877
  have az_q_876 : pA S_877 q_876 = fun _ => 0 := by rw [eS_877]; exact pA_sN_new
  have fz_883 : Fz S_877 x [(1244, q_832, 1095, 40), (1243, q_810, 1074, 40), (1242, q_788, 1054, 40), (1241, q_766, 1034, 40), (1240, q_744, 1014, 40), (1239, q_722, 994, 41), (1237, q_700, 954, 4), (1236, q_678, 934, 158400), (1235, q_656, 914, 13200), (1227, q_624, 753, 400), (1226, q_602, 734, 240), (1225, q_580, 714, 240), (1224, q_558, 694, 240), (1223, q_536, 674, 60), (1222, q_514, 654, 60), (1221, q_492, 634, 60), (1220, q_470, 614, 5), (1219, q_448, 594, 12), (1218, q_426, 574, 7200), (1217, q_404, 554, 4), (1216, q_382, 534, 4), (1215, q_360, 514, 4), (1214, q_338, 494, 4), (1213, q_316, 474, 4), (1212, q_294, 454, 4), (1209, q_154, 394, 600), (1208, q_132, 374, 600), (1207, q_110, 354, 600), (1206, q_88, 334, 10), (1205, q_66, 314, 10), (1204, q_44, 294, 10), (1203, q_22, 274, 10), (1202, q_1, 254, 10)] := Fz_sN fz_873 hq_876 eS_877
  have fd_884 : Fe S_877 x [(1248, q_854, 1174, 4), (1210, q_176, 414, 8)] := Fe_sN fd_874 hq_876 eS_877
  clear zi_872 fz_873 fd_874
  have hn0_q_876 := hK_870.new hq_876
  have ha_885 : At S_877 q_876 1254 := by rw [eS_877]; exact At_nN _ _ _ _
  have hn_886 : pN S_877 q_876 = 5 := by rw [eS_877]; exact pN_sN_new
  have t_887 : At S_867 x 192 := tAt_sR eS_867 t_866
  have t_888 : At S_877 x 192 := by rw [eS_877]; exact At_sN t_887 hq_876
  refine r_putR X hw t_888 rfl 52 1252 (some q_876) rfl tyX12 (by decide) rfl inn_X12_init_12 tyX12_ok nmX12 (by decide) (X.2.2.2.1 (.fieldLink RX12 122 "SilkMillModel" "draw" "[I") (by decide +kernel)) rfl (Or.inr ⟨rfl, hin, rfl⟩) (fun _ => rfl) rfl (fun _ => rfl) rfl (Nat.le_of_ble_eq_true rfl) (st_1252 _ _) dX12_init_335 (fun H locs hw => ?_)
  obtain ⟨S_889, eS_889⟩ : ∃ T, T = sR S_877 1252 x (some q_876) := ⟨_, rfl⟩
  rw [← eS_889] at hw
  have ph_890 : Phc S_889 = Phc S + 0 := (show Phc S_889 = Phc S_877 from Ph_rawR t_888 (by decide) eS_889).trans ph_878
  have ph_891 : Phs S_889 = Phs S + 0 := (show Phs S_889 = Phs S_877 from Ph_rawR t_888 (by decide) eS_889).trans ph_879
  clear ph_878
  clear ph_879
  have hK_892 : Kq S S_889 x := hK_880.sR eS_889
  have hg_893 : GX S_889 := by rw [eS_889]; exact GX_rawR hg_881 t_888 (by decide +kernel)
  have zi_894 : Zi S_889 x := Zi_sR zi_882 eS_889
  have fz_895 : Fz S_889 x [(1252, q_876, 1254, 5), (1244, q_832, 1095, 40), (1243, q_810, 1074, 40), (1242, q_788, 1054, 40), (1241, q_766, 1034, 40), (1240, q_744, 1014, 40), (1239, q_722, 994, 41), (1237, q_700, 954, 4), (1236, q_678, 934, 158400), (1235, q_656, 914, 13200), (1227, q_624, 753, 400), (1226, q_602, 734, 240), (1225, q_580, 714, 240), (1224, q_558, 694, 240), (1223, q_536, 674, 60), (1222, q_514, 654, 60), (1221, q_492, 634, 60), (1220, q_470, 614, 5), (1219, q_448, 594, 12), (1218, q_426, 574, 7200), (1217, q_404, 554, 4), (1216, q_382, 534, 4), (1215, q_360, 514, 4), (1214, q_338, 494, 4), (1213, q_316, 474, 4), (1212, q_294, 454, 4), (1209, q_154, 394, 600), (1208, q_132, 374, 600), (1207, q_110, 354, 600), (1206, q_88, 334, 10), (1205, q_66, 314, 10), (1204, q_44, 294, 10), (1203, q_22, 274, 10), (1202, q_1, 254, 10)] := Fz_add fz_883 eS_889 ha_885 hn_886 az_q_876 rfl
  have fd_896 : Fe S_889 x [(1248, q_854, 1174, 4), (1210, q_176, 414, 8)] := Fe_sR fd_884 eS_889 rfl
  clear zi_882 fz_883 fd_884
  have h_897 : pR S_889 1252 x = some q_876 := tR_sRs eS_889
  refine lv_aload_n X.1 X.2.1 dX12_init_338 rfl (lv_at hl 0 rfl) ?_
  refine lv_bipush (v := 16) X.1 X.2.1 dX12_init_339 (by decide) ?_
  refine r_newZ (N := 16) X hw 1275 182269 37 rfl (X.2.2.2.1 (.arrayClass .boolean) (by decide +kernel)) (z_nn ti_16 (by omega)) (by decide) (by decide) (by show 36 + 1 ≤ 37; omega) (by show 182253 + 16 ≤ 182269; omega) (by show 37 ≤ 48; omega) (by show 182269 ≤ 182647; omega) dX12_init_341 (fun q_898 H hq_898 hw => ?_)
  obtain ⟨S_899, eS_899⟩ : ∃ T, T = sN S_889 q_898 1275 16 := ⟨_, rfl⟩
  rw [← eS_899] at hw
  have ph_900 : Phc S_899 = Phc S + 0 := (show Phc S_899 = Phc S_889 from Ph_sN' hg_893.ci hq_898 eS_899 (by decide)).trans ph_890
  have ph_901 : Phs S_899 = Phs S + 0 := (show Phs S_899 = Phs S_889 from Ph_sN' hg_893.ci hq_898 eS_899 (by decide)).trans ph_891
  clear ph_890
  clear ph_891
  have hK_902 : Kq S S_899 x := hK_892.sN hq_898 eS_899
  have hg_903 : GX S_899 := by rw [eS_899]; exact GX_N hg_893 hq_898 (by decide +kernel)
  have zi_904 : Zi S_899 x := Zi_sN zi_894 eS_899
  have az_q_898 : pA S_899 q_898 = fun _ => 0 := by rw [eS_899]; exact pA_sN_new
  have fz_905 : Fz S_899 x [(1252, q_876, 1254, 5), (1244, q_832, 1095, 40), (1243, q_810, 1074, 40), (1242, q_788, 1054, 40), (1241, q_766, 1034, 40), (1240, q_744, 1014, 40), (1239, q_722, 994, 41), (1237, q_700, 954, 4), (1236, q_678, 934, 158400), (1235, q_656, 914, 13200), (1227, q_624, 753, 400), (1226, q_602, 734, 240), (1225, q_580, 714, 240), (1224, q_558, 694, 240), (1223, q_536, 674, 60), (1222, q_514, 654, 60), (1221, q_492, 634, 60), (1220, q_470, 614, 5), (1219, q_448, 594, 12), (1218, q_426, 574, 7200), (1217, q_404, 554, 4), (1216, q_382, 534, 4), (1215, q_360, 514, 4), (1214, q_338, 494, 4), (1213, q_316, 474, 4), (1212, q_294, 454, 4), (1209, q_154, 394, 600), (1208, q_132, 374, 600), (1207, q_110, 354, 600), (1206, q_88, 334, 10), (1205, q_66, 314, 10), (1204, q_44, 294, 10), (1203, q_22, 274, 10), (1202, q_1, 254, 10)] := Fz_sN fz_895 hq_898 eS_899
  have fd_906 : Fe S_899 x [(1248, q_854, 1174, 4), (1210, q_176, 414, 8)] := Fe_sN fd_896 hq_898 eS_899
  clear zi_894 fz_895 fd_896
  have hn0_q_898 := hK_892.new hq_898
  have ha_907 : At S_899 q_898 1275 := by rw [eS_899]; exact At_nN _ _ _ _
  have hn_908 : pN S_899 q_898 = 16 := by rw [eS_899]; exact pN_sN_new
  have t_909 : At S_889 x 192 := tAt_sR eS_889 t_888
  have t_910 : At S_899 x 192 := by rw [eS_899]; exact At_sN t_909 hq_898
  refine r_putR X hw t_910 rfl 53 1253 (some q_898) rfl tyX12 (by decide) rfl inn_X12_init_12 tyX12_ok nmX12 (by decide) (X.2.2.2.1 (.fieldLink RX12 125 "SilkMillModel" "isLaid" "[Z") (by decide +kernel)) rfl (Or.inr ⟨rfl, hin, rfl⟩) (fun _ => rfl) rfl (fun _ => rfl) rfl (Nat.le_of_ble_eq_true rfl) (st_1253 _ _) dX12_init_343 (fun H locs hw => ?_)
  obtain ⟨S_911, eS_911⟩ : ∃ T, T = sR S_899 1253 x (some q_898) := ⟨_, rfl⟩
  rw [← eS_911] at hw
  have ph_912 : Phc S_911 = Phc S + 0 := (show Phc S_911 = Phc S_899 from Ph_rawR t_910 (by decide) eS_911).trans ph_900
  have ph_913 : Phs S_911 = Phs S + 0 := (show Phs S_911 = Phs S_899 from Ph_rawR t_910 (by decide) eS_911).trans ph_901
  clear ph_900
  clear ph_901
  have hK_914 : Kq S S_911 x := hK_902.sR eS_911
  have hg_915 : GX S_911 := by rw [eS_911]; exact GX_rawR hg_903 t_910 (by decide +kernel)
  have zi_916 : Zi S_911 x := Zi_sR zi_904 eS_911
  have fz_917 : Fz S_911 x [(1253, q_898, 1275, 16), (1252, q_876, 1254, 5), (1244, q_832, 1095, 40), (1243, q_810, 1074, 40), (1242, q_788, 1054, 40), (1241, q_766, 1034, 40), (1240, q_744, 1014, 40), (1239, q_722, 994, 41), (1237, q_700, 954, 4), (1236, q_678, 934, 158400), (1235, q_656, 914, 13200), (1227, q_624, 753, 400), (1226, q_602, 734, 240), (1225, q_580, 714, 240), (1224, q_558, 694, 240), (1223, q_536, 674, 60), (1222, q_514, 654, 60), (1221, q_492, 634, 60), (1220, q_470, 614, 5), (1219, q_448, 594, 12), (1218, q_426, 574, 7200), (1217, q_404, 554, 4), (1216, q_382, 534, 4), (1215, q_360, 514, 4), (1214, q_338, 494, 4), (1213, q_316, 474, 4), (1212, q_294, 454, 4), (1209, q_154, 394, 600), (1208, q_132, 374, 600), (1207, q_110, 354, 600), (1206, q_88, 334, 10), (1205, q_66, 314, 10), (1204, q_44, 294, 10), (1203, q_22, 274, 10), (1202, q_1, 254, 10)] := Fz_add fz_905 eS_911 ha_907 hn_908 az_q_898 rfl
  have fd_918 : Fe S_911 x [(1248, q_854, 1174, 4), (1210, q_176, 414, 8)] := Fe_sR fd_906 eS_911 rfl
  clear zi_904 fz_905 fd_906
  have h_919 : pR S_911 1253 x = some q_898 := tR_sRs eS_911
  refine lv_aload_n X.1 X.2.1 dX12_init_346 rfl (lv_at hl 0 rfl) ?_
  refine lv_bipush (v := 16) X.1 X.2.1 dX12_init_347 (by decide) ?_
  refine r_newI (N := 16) X hw 1294 182285 38 rfl (X.2.2.2.1 (.arrayClass .int) (by decide +kernel)) (z_nn ti_16 (by omega)) (by decide) (by decide) (by show 37 + 1 ≤ 38; omega) (by show 182269 + 16 ≤ 182285; omega) (by show 38 ≤ 48; omega) (by show 182285 ≤ 182647; omega) dX12_init_349 (fun q_920 H hq_920 hw => ?_)
  obtain ⟨S_921, eS_921⟩ : ∃ T, T = sN S_911 q_920 1294 16 := ⟨_, rfl⟩
  rw [← eS_921] at hw
  have ph_922 : Phc S_921 = Phc S + 0 := (show Phc S_921 = Phc S_911 from Ph_sN' hg_915.ci hq_920 eS_921 (by decide)).trans ph_912
  have ph_923 : Phs S_921 = Phs S + 0 := (show Phs S_921 = Phs S_911 from Ph_sN' hg_915.ci hq_920 eS_921 (by decide)).trans ph_913
  clear ph_912
  clear ph_913
  have hK_924 : Kq S S_921 x := hK_914.sN hq_920 eS_921
  have hg_925 : GX S_921 := by rw [eS_921]; exact GX_N hg_915 hq_920 (by decide +kernel)
  have zi_926 : Zi S_921 x := Zi_sN zi_916 eS_921
  have az_q_920 : pA S_921 q_920 = fun _ => 0 := by rw [eS_921]; exact pA_sN_new
  have fz_927 : Fz S_921 x [(1253, q_898, 1275, 16), (1252, q_876, 1254, 5), (1244, q_832, 1095, 40), (1243, q_810, 1074, 40), (1242, q_788, 1054, 40), (1241, q_766, 1034, 40), (1240, q_744, 1014, 40), (1239, q_722, 994, 41), (1237, q_700, 954, 4), (1236, q_678, 934, 158400), (1235, q_656, 914, 13200), (1227, q_624, 753, 400), (1226, q_602, 734, 240), (1225, q_580, 714, 240), (1224, q_558, 694, 240), (1223, q_536, 674, 60), (1222, q_514, 654, 60), (1221, q_492, 634, 60), (1220, q_470, 614, 5), (1219, q_448, 594, 12), (1218, q_426, 574, 7200), (1217, q_404, 554, 4), (1216, q_382, 534, 4), (1215, q_360, 514, 4), (1214, q_338, 494, 4), (1213, q_316, 474, 4), (1212, q_294, 454, 4), (1209, q_154, 394, 600), (1208, q_132, 374, 600), (1207, q_110, 354, 600), (1206, q_88, 334, 10), (1205, q_66, 314, 10), (1204, q_44, 294, 10), (1203, q_22, 274, 10), (1202, q_1, 254, 10)] := Fz_sN fz_917 hq_920 eS_921
  have fd_928 : Fe S_921 x [(1248, q_854, 1174, 4), (1210, q_176, 414, 8)] := Fe_sN fd_918 hq_920 eS_921
  clear zi_916 fz_917 fd_918
  have hn0_q_920 := hK_914.new hq_920
  have ha_929 : At S_921 q_920 1294 := by rw [eS_921]; exact At_nN _ _ _ _
  have hn_930 : pN S_921 q_920 = 16 := by rw [eS_921]; exact pN_sN_new
  have t_931 : At S_911 x 192 := tAt_sR eS_911 t_910
  have t_932 : At S_921 x 192 := by rw [eS_921]; exact At_sN t_931 hq_920
  refine r_putR X hw t_932 rfl 54 1254 (some q_920) rfl tyX12 (by decide) rfl inn_X12_init_12 tyX12_ok nmX12 (by decide) (X.2.2.2.1 (.fieldLink RX12 128 "SilkMillModel" "laid" "[I") (by decide +kernel)) rfl (Or.inr ⟨rfl, hin, rfl⟩) (fun _ => rfl) rfl (fun _ => rfl) rfl (Nat.le_of_ble_eq_true rfl) (st_1254 _ _) dX12_init_351 (fun H locs hw => ?_)
  obtain ⟨S_933, eS_933⟩ : ∃ T, T = sR S_921 1254 x (some q_920) := ⟨_, rfl⟩
  rw [← eS_933] at hw
  have ph_934 : Phc S_933 = Phc S + 0 := (show Phc S_933 = Phc S_921 from Ph_rawR t_932 (by decide) eS_933).trans ph_922
  have ph_935 : Phs S_933 = Phs S + 0 := (show Phs S_933 = Phs S_921 from Ph_rawR t_932 (by decide) eS_933).trans ph_923
  clear ph_922
  clear ph_923
  have hK_936 : Kq S S_933 x := hK_924.sR eS_933
  have hg_937 : GX S_933 := by rw [eS_933]; exact GX_rawR hg_925 t_932 (by decide +kernel)
  have zi_938 : Zi S_933 x := Zi_sR zi_926 eS_933
  have fz_939 : Fz S_933 x [(1254, q_920, 1294, 16), (1253, q_898, 1275, 16), (1252, q_876, 1254, 5), (1244, q_832, 1095, 40), (1243, q_810, 1074, 40), (1242, q_788, 1054, 40), (1241, q_766, 1034, 40), (1240, q_744, 1014, 40), (1239, q_722, 994, 41), (1237, q_700, 954, 4), (1236, q_678, 934, 158400), (1235, q_656, 914, 13200), (1227, q_624, 753, 400), (1226, q_602, 734, 240), (1225, q_580, 714, 240), (1224, q_558, 694, 240), (1223, q_536, 674, 60), (1222, q_514, 654, 60), (1221, q_492, 634, 60), (1220, q_470, 614, 5), (1219, q_448, 594, 12), (1218, q_426, 574, 7200), (1217, q_404, 554, 4), (1216, q_382, 534, 4), (1215, q_360, 514, 4), (1214, q_338, 494, 4), (1213, q_316, 474, 4), (1212, q_294, 454, 4), (1209, q_154, 394, 600), (1208, q_132, 374, 600), (1207, q_110, 354, 600), (1206, q_88, 334, 10), (1205, q_66, 314, 10), (1204, q_44, 294, 10), (1203, q_22, 274, 10), (1202, q_1, 254, 10)] := Fz_add fz_927 eS_933 ha_929 hn_930 az_q_920 rfl
  have fd_940 : Fe S_933 x [(1248, q_854, 1174, 4), (1210, q_176, 414, 8)] := Fe_sR fd_928 eS_933 rfl
  clear zi_926 fz_927 fd_928
  have h_941 : pR S_933 1254 x = some q_920 := tR_sRs eS_933
  refine lv_aload_n X.1 X.2.1 dX12_init_354 rfl (lv_at hl 0 rfl) ?_
  refine lv_bipush (v := 16) X.1 X.2.1 dX12_init_355 (by decide) ?_
  refine r_newI (N := 16) X hw 1314 182301 39 rfl (X.2.2.2.1 (.arrayClass .int) (by decide +kernel)) (z_nn ti_16 (by omega)) (by decide) (by decide) (by show 38 + 1 ≤ 39; omega) (by show 182285 + 16 ≤ 182301; omega) (by show 39 ≤ 48; omega) (by show 182301 ≤ 182647; omega) dX12_init_357 (fun q_942 H hq_942 hw => ?_)
  obtain ⟨S_943, eS_943⟩ : ∃ T, T = sN S_933 q_942 1314 16 := ⟨_, rfl⟩
  rw [← eS_943] at hw
  have ph_944 : Phc S_943 = Phc S + 0 := (show Phc S_943 = Phc S_933 from Ph_sN' hg_937.ci hq_942 eS_943 (by decide)).trans ph_934
  have ph_945 : Phs S_943 = Phs S + 0 := (show Phs S_943 = Phs S_933 from Ph_sN' hg_937.ci hq_942 eS_943 (by decide)).trans ph_935
  clear ph_934
  clear ph_935
  have hK_946 : Kq S S_943 x := hK_936.sN hq_942 eS_943
  have hg_947 : GX S_943 := by rw [eS_943]; exact GX_N hg_937 hq_942 (by decide +kernel)
  have zi_948 : Zi S_943 x := Zi_sN zi_938 eS_943
  have az_q_942 : pA S_943 q_942 = fun _ => 0 := by rw [eS_943]; exact pA_sN_new
  have fz_949 : Fz S_943 x [(1254, q_920, 1294, 16), (1253, q_898, 1275, 16), (1252, q_876, 1254, 5), (1244, q_832, 1095, 40), (1243, q_810, 1074, 40), (1242, q_788, 1054, 40), (1241, q_766, 1034, 40), (1240, q_744, 1014, 40), (1239, q_722, 994, 41), (1237, q_700, 954, 4), (1236, q_678, 934, 158400), (1235, q_656, 914, 13200), (1227, q_624, 753, 400), (1226, q_602, 734, 240), (1225, q_580, 714, 240), (1224, q_558, 694, 240), (1223, q_536, 674, 60), (1222, q_514, 654, 60), (1221, q_492, 634, 60), (1220, q_470, 614, 5), (1219, q_448, 594, 12), (1218, q_426, 574, 7200), (1217, q_404, 554, 4), (1216, q_382, 534, 4), (1215, q_360, 514, 4), (1214, q_338, 494, 4), (1213, q_316, 474, 4), (1212, q_294, 454, 4), (1209, q_154, 394, 600), (1208, q_132, 374, 600), (1207, q_110, 354, 600), (1206, q_88, 334, 10), (1205, q_66, 314, 10), (1204, q_44, 294, 10), (1203, q_22, 274, 10), (1202, q_1, 254, 10)] := Fz_sN fz_939 hq_942 eS_943
  have fd_950 : Fe S_943 x [(1248, q_854, 1174, 4), (1210, q_176, 414, 8)] := Fe_sN fd_940 hq_942 eS_943
  clear zi_938 fz_939 fd_940
  have hn0_q_942 := hK_936.new hq_942
  have ha_951 : At S_943 q_942 1314 := by rw [eS_943]; exact At_nN _ _ _ _
  have hn_952 : pN S_943 q_942 = 16 := by rw [eS_943]; exact pN_sN_new
  have t_953 : At S_933 x 192 := tAt_sR eS_933 t_932
  have t_954 : At S_943 x 192 := by rw [eS_943]; exact At_sN t_953 hq_942
  refine r_putR X hw t_954 rfl 55 1255 (some q_942) rfl tyX12 (by decide) rfl inn_X12_init_12 tyX12_ok nmX12 (by decide) (X.2.2.2.1 (.fieldLink RX12 131 "SilkMillModel" "laidValue" "[I") (by decide +kernel)) rfl (Or.inr ⟨rfl, hin, rfl⟩) (fun _ => rfl) rfl (fun _ => rfl) rfl (Nat.le_of_ble_eq_true rfl) (st_1255 _ _) dX12_init_359 (fun H locs hw => ?_)
  obtain ⟨S_955, eS_955⟩ : ∃ T, T = sR S_943 1255 x (some q_942) := ⟨_, rfl⟩
  rw [← eS_955] at hw
  have ph_956 : Phc S_955 = Phc S + 0 := (show Phc S_955 = Phc S_943 from Ph_rawR t_954 (by decide) eS_955).trans ph_944
  have ph_957 : Phs S_955 = Phs S + 0 := (show Phs S_955 = Phs S_943 from Ph_rawR t_954 (by decide) eS_955).trans ph_945
  clear ph_944
  clear ph_945
  have hK_958 : Kq S S_955 x := hK_946.sR eS_955
  have hg_959 : GX S_955 := by rw [eS_955]; exact GX_rawR hg_947 t_954 (by decide +kernel)
  have zi_960 : Zi S_955 x := Zi_sR zi_948 eS_955
  have fz_961 : Fz S_955 x [(1255, q_942, 1314, 16), (1254, q_920, 1294, 16), (1253, q_898, 1275, 16), (1252, q_876, 1254, 5), (1244, q_832, 1095, 40), (1243, q_810, 1074, 40), (1242, q_788, 1054, 40), (1241, q_766, 1034, 40), (1240, q_744, 1014, 40), (1239, q_722, 994, 41), (1237, q_700, 954, 4), (1236, q_678, 934, 158400), (1235, q_656, 914, 13200), (1227, q_624, 753, 400), (1226, q_602, 734, 240), (1225, q_580, 714, 240), (1224, q_558, 694, 240), (1223, q_536, 674, 60), (1222, q_514, 654, 60), (1221, q_492, 634, 60), (1220, q_470, 614, 5), (1219, q_448, 594, 12), (1218, q_426, 574, 7200), (1217, q_404, 554, 4), (1216, q_382, 534, 4), (1215, q_360, 514, 4), (1214, q_338, 494, 4), (1213, q_316, 474, 4), (1212, q_294, 454, 4), (1209, q_154, 394, 600), (1208, q_132, 374, 600), (1207, q_110, 354, 600), (1206, q_88, 334, 10), (1205, q_66, 314, 10), (1204, q_44, 294, 10), (1203, q_22, 274, 10), (1202, q_1, 254, 10)] := Fz_add fz_949 eS_955 ha_951 hn_952 az_q_942 rfl
  have fd_962 : Fe S_955 x [(1248, q_854, 1174, 4), (1210, q_176, 414, 8)] := Fe_sR fd_950 eS_955 rfl
  clear zi_948 fz_949 fd_950
  have h_963 : pR S_955 1255 x = some q_942 := tR_sRs eS_955
  refine lv_aload_n X.1 X.2.1 dX12_init_362 rfl (lv_at hl 0 rfl) ?_
  refine lv_bipush (v := 16) X.1 X.2.1 dX12_init_363 (by decide) ?_
  refine r_newI (N := 16) X hw 1334 182317 40 rfl (X.2.2.2.1 (.arrayClass .int) (by decide +kernel)) (z_nn ti_16 (by omega)) (by decide) (by decide) (by show 39 + 1 ≤ 40; omega) (by show 182301 + 16 ≤ 182317; omega) (by show 40 ≤ 48; omega) (by show 182317 ≤ 182647; omega) dX12_init_365 (fun q_964 H hq_964 hw => ?_)
  obtain ⟨S_965, eS_965⟩ : ∃ T, T = sN S_955 q_964 1334 16 := ⟨_, rfl⟩
  rw [← eS_965] at hw
  have ph_966 : Phc S_965 = Phc S + 0 := (show Phc S_965 = Phc S_955 from Ph_sN' hg_959.ci hq_964 eS_965 (by decide)).trans ph_956
  have ph_967 : Phs S_965 = Phs S + 0 := (show Phs S_965 = Phs S_955 from Ph_sN' hg_959.ci hq_964 eS_965 (by decide)).trans ph_957
  clear ph_956
  clear ph_957
  have hK_968 : Kq S S_965 x := hK_958.sN hq_964 eS_965
  have hg_969 : GX S_965 := by rw [eS_965]; exact GX_N hg_959 hq_964 (by decide +kernel)
  have zi_970 : Zi S_965 x := Zi_sN zi_960 eS_965
  have az_q_964 : pA S_965 q_964 = fun _ => 0 := by rw [eS_965]; exact pA_sN_new
  have fz_971 : Fz S_965 x [(1255, q_942, 1314, 16), (1254, q_920, 1294, 16), (1253, q_898, 1275, 16), (1252, q_876, 1254, 5), (1244, q_832, 1095, 40), (1243, q_810, 1074, 40), (1242, q_788, 1054, 40), (1241, q_766, 1034, 40), (1240, q_744, 1014, 40), (1239, q_722, 994, 41), (1237, q_700, 954, 4), (1236, q_678, 934, 158400), (1235, q_656, 914, 13200), (1227, q_624, 753, 400), (1226, q_602, 734, 240), (1225, q_580, 714, 240), (1224, q_558, 694, 240), (1223, q_536, 674, 60), (1222, q_514, 654, 60), (1221, q_492, 634, 60), (1220, q_470, 614, 5), (1219, q_448, 594, 12), (1218, q_426, 574, 7200), (1217, q_404, 554, 4), (1216, q_382, 534, 4), (1215, q_360, 514, 4), (1214, q_338, 494, 4), (1213, q_316, 474, 4), (1212, q_294, 454, 4), (1209, q_154, 394, 600), (1208, q_132, 374, 600), (1207, q_110, 354, 600), (1206, q_88, 334, 10), (1205, q_66, 314, 10), (1204, q_44, 294, 10), (1203, q_22, 274, 10), (1202, q_1, 254, 10)] := Fz_sN fz_961 hq_964 eS_965
  have fd_972 : Fe S_965 x [(1248, q_854, 1174, 4), (1210, q_176, 414, 8)] := Fe_sN fd_962 hq_964 eS_965
  clear zi_960 fz_961 fd_962
  have hn0_q_964 := hK_958.new hq_964
  have ha_973 : At S_965 q_964 1334 := by rw [eS_965]; exact At_nN _ _ _ _
  have hn_974 : pN S_965 q_964 = 16 := by rw [eS_965]; exact pN_sN_new
  have t_975 : At S_955 x 192 := tAt_sR eS_955 t_954
  have t_976 : At S_965 x 192 := by rw [eS_965]; exact At_sN t_975 hq_964
  refine r_putR X hw t_976 rfl 56 1256 (some q_964) rfl tyX12 (by decide) rfl inn_X12_init_12 tyX12_ok nmX12 (by decide) (X.2.2.2.1 (.fieldLink RX12 134 "SilkMillModel" "wordMany" "[I") (by decide +kernel)) rfl (Or.inr ⟨rfl, hin, rfl⟩) (fun _ => rfl) rfl (fun _ => rfl) rfl (Nat.le_of_ble_eq_true rfl) (st_1256 _ _) dX12_init_367 (fun H locs hw => ?_)
  obtain ⟨S_977, eS_977⟩ : ∃ T, T = sR S_965 1256 x (some q_964) := ⟨_, rfl⟩
  rw [← eS_977] at hw
  have ph_978 : Phc S_977 = Phc S + 0 := (show Phc S_977 = Phc S_965 from Ph_rawR t_976 (by decide) eS_977).trans ph_966
  have ph_979 : Phs S_977 = Phs S + 0 := (show Phs S_977 = Phs S_965 from Ph_rawR t_976 (by decide) eS_977).trans ph_967
  clear ph_966
  clear ph_967
  have hK_980 : Kq S S_977 x := hK_968.sR eS_977
  have hg_981 : GX S_977 := by rw [eS_977]; exact GX_rawR hg_969 t_976 (by decide +kernel)
  have zi_982 : Zi S_977 x := Zi_sR zi_970 eS_977
  have fz_983 : Fz S_977 x [(1256, q_964, 1334, 16), (1255, q_942, 1314, 16), (1254, q_920, 1294, 16), (1253, q_898, 1275, 16), (1252, q_876, 1254, 5), (1244, q_832, 1095, 40), (1243, q_810, 1074, 40), (1242, q_788, 1054, 40), (1241, q_766, 1034, 40), (1240, q_744, 1014, 40), (1239, q_722, 994, 41), (1237, q_700, 954, 4), (1236, q_678, 934, 158400), (1235, q_656, 914, 13200), (1227, q_624, 753, 400), (1226, q_602, 734, 240), (1225, q_580, 714, 240), (1224, q_558, 694, 240), (1223, q_536, 674, 60), (1222, q_514, 654, 60), (1221, q_492, 634, 60), (1220, q_470, 614, 5), (1219, q_448, 594, 12), (1218, q_426, 574, 7200), (1217, q_404, 554, 4), (1216, q_382, 534, 4), (1215, q_360, 514, 4), (1214, q_338, 494, 4), (1213, q_316, 474, 4), (1212, q_294, 454, 4), (1209, q_154, 394, 600), (1208, q_132, 374, 600), (1207, q_110, 354, 600), (1206, q_88, 334, 10), (1205, q_66, 314, 10), (1204, q_44, 294, 10), (1203, q_22, 274, 10), (1202, q_1, 254, 10)] := Fz_add fz_971 eS_977 ha_973 hn_974 az_q_964 rfl
  have fd_984 : Fe S_977 x [(1248, q_854, 1174, 4), (1210, q_176, 414, 8)] := Fe_sR fd_972 eS_977 rfl
  clear zi_970 fz_971 fd_972
  have h_985 : pR S_977 1256 x = some q_964 := tR_sRs eS_977
  refine lv_aload_n X.1 X.2.1 dX12_init_370 rfl (lv_at hl 0 rfl) ?_
  refine lv_sipush (v := 128) X.1 X.2.1 dX12_init_371 (by decide) ?_
  refine r_newI (N := 128) X hw 1354 182445 41 rfl (X.2.2.2.1 (.arrayClass .int) (by decide +kernel)) (z_nn ti_128 (by omega)) (by decide) (by decide) (by show 40 + 1 ≤ 41; omega) (by show 182317 + 128 ≤ 182445; omega) (by show 41 ≤ 48; omega) (by show 182445 ≤ 182647; omega) dX12_init_374 (fun q_986 H hq_986 hw => ?_)
  obtain ⟨S_987, eS_987⟩ : ∃ T, T = sN S_977 q_986 1354 128 := ⟨_, rfl⟩
  rw [← eS_987] at hw
  have ph_988 : Phc S_987 = Phc S + 0 := (show Phc S_987 = Phc S_977 from Ph_sN' hg_981.ci hq_986 eS_987 (by decide)).trans ph_978
  have ph_989 : Phs S_987 = Phs S + 0 := (show Phs S_987 = Phs S_977 from Ph_sN' hg_981.ci hq_986 eS_987 (by decide)).trans ph_979
  clear ph_978
  clear ph_979
  have hK_990 : Kq S S_987 x := hK_980.sN hq_986 eS_987
  have hg_991 : GX S_987 := by rw [eS_987]; exact GX_N hg_981 hq_986 (by decide +kernel)
  have zi_992 : Zi S_987 x := Zi_sN zi_982 eS_987
  have az_q_986 : pA S_987 q_986 = fun _ => 0 := by rw [eS_987]; exact pA_sN_new
  have fz_993 : Fz S_987 x [(1256, q_964, 1334, 16), (1255, q_942, 1314, 16), (1254, q_920, 1294, 16), (1253, q_898, 1275, 16), (1252, q_876, 1254, 5), (1244, q_832, 1095, 40), (1243, q_810, 1074, 40), (1242, q_788, 1054, 40), (1241, q_766, 1034, 40), (1240, q_744, 1014, 40), (1239, q_722, 994, 41), (1237, q_700, 954, 4), (1236, q_678, 934, 158400), (1235, q_656, 914, 13200), (1227, q_624, 753, 400), (1226, q_602, 734, 240), (1225, q_580, 714, 240), (1224, q_558, 694, 240), (1223, q_536, 674, 60), (1222, q_514, 654, 60), (1221, q_492, 634, 60), (1220, q_470, 614, 5), (1219, q_448, 594, 12), (1218, q_426, 574, 7200), (1217, q_404, 554, 4), (1216, q_382, 534, 4), (1215, q_360, 514, 4), (1214, q_338, 494, 4), (1213, q_316, 474, 4), (1212, q_294, 454, 4), (1209, q_154, 394, 600), (1208, q_132, 374, 600), (1207, q_110, 354, 600), (1206, q_88, 334, 10), (1205, q_66, 314, 10), (1204, q_44, 294, 10), (1203, q_22, 274, 10), (1202, q_1, 254, 10)] := Fz_sN fz_983 hq_986 eS_987
  have fd_994 : Fe S_987 x [(1248, q_854, 1174, 4), (1210, q_176, 414, 8)] := Fe_sN fd_984 hq_986 eS_987
  clear zi_982 fz_983 fd_984
  have hn0_q_986 := hK_980.new hq_986
  have ha_995 : At S_987 q_986 1354 := by rw [eS_987]; exact At_nN _ _ _ _
  have hn_996 : pN S_987 q_986 = 128 := by rw [eS_987]; exact pN_sN_new
  have t_997 : At S_977 x 192 := tAt_sR eS_977 t_976
  have t_998 : At S_987 x 192 := by rw [eS_987]; exact At_sN t_997 hq_986
  refine r_putR X hw t_998 rfl 57 1257 (some q_986) rfl tyX12 (by decide) rfl inn_X12_init_12 tyX12_ok nmX12 (by decide) (X.2.2.2.1 (.fieldLink RX12 137 "SilkMillModel" "wordOf" "[I") (by decide +kernel)) rfl (Or.inr ⟨rfl, hin, rfl⟩) (fun _ => rfl) rfl (fun _ => rfl) rfl (Nat.le_of_ble_eq_true rfl) (st_1257 _ _) dX12_init_376 (fun H locs hw => ?_)
  obtain ⟨S_999, eS_999⟩ : ∃ T, T = sR S_987 1257 x (some q_986) := ⟨_, rfl⟩
  rw [← eS_999] at hw
  have ph_1000 : Phc S_999 = Phc S + 0 := (show Phc S_999 = Phc S_987 from Ph_rawR t_998 (by decide) eS_999).trans ph_988
  have ph_1001 : Phs S_999 = Phs S + 0 := (show Phs S_999 = Phs S_987 from Ph_rawR t_998 (by decide) eS_999).trans ph_989
  clear ph_988
  clear ph_989
  have hK_1002 : Kq S S_999 x := hK_990.sR eS_999
  have hg_1003 : GX S_999 := by rw [eS_999]; exact GX_rawR hg_991 t_998 (by decide +kernel)
  have zi_1004 : Zi S_999 x := Zi_sR zi_992 eS_999
  have fz_1005 : Fz S_999 x [(1257, q_986, 1354, 128), (1256, q_964, 1334, 16), (1255, q_942, 1314, 16), (1254, q_920, 1294, 16), (1253, q_898, 1275, 16), (1252, q_876, 1254, 5), (1244, q_832, 1095, 40), (1243, q_810, 1074, 40), (1242, q_788, 1054, 40), (1241, q_766, 1034, 40), (1240, q_744, 1014, 40), (1239, q_722, 994, 41), (1237, q_700, 954, 4), (1236, q_678, 934, 158400), (1235, q_656, 914, 13200), (1227, q_624, 753, 400), (1226, q_602, 734, 240), (1225, q_580, 714, 240), (1224, q_558, 694, 240), (1223, q_536, 674, 60), (1222, q_514, 654, 60), (1221, q_492, 634, 60), (1220, q_470, 614, 5), (1219, q_448, 594, 12), (1218, q_426, 574, 7200), (1217, q_404, 554, 4), (1216, q_382, 534, 4), (1215, q_360, 514, 4), (1214, q_338, 494, 4), (1213, q_316, 474, 4), (1212, q_294, 454, 4), (1209, q_154, 394, 600), (1208, q_132, 374, 600), (1207, q_110, 354, 600), (1206, q_88, 334, 10), (1205, q_66, 314, 10), (1204, q_44, 294, 10), (1203, q_22, 274, 10), (1202, q_1, 254, 10)] := Fz_add fz_993 eS_999 ha_995 hn_996 az_q_986 rfl
  have fd_1006 : Fe S_999 x [(1248, q_854, 1174, 4), (1210, q_176, 414, 8)] := Fe_sR fd_994 eS_999 rfl
  clear zi_992 fz_993 fd_994
  have h_1007 : pR S_999 1257 x = some q_986 := tR_sRs eS_999
  refine lv_aload_n X.1 X.2.1 dX12_init_379 rfl (lv_at hl 0 rfl) ?_
  refine lv_bipush (v := 14) X.1 X.2.1 dX12_init_380 (by decide) ?_
  refine r_newI (N := 14) X hw 1374 182459 42 rfl (X.2.2.2.1 (.arrayClass .int) (by decide +kernel)) (z_nn ti_14 (by omega)) (by decide) (by decide) (by show 41 + 1 ≤ 42; omega) (by show 182445 + 14 ≤ 182459; omega) (by show 42 ≤ 48; omega) (by show 182459 ≤ 182647; omega) dX12_init_382 (fun q_1008 H hq_1008 hw => ?_)
  obtain ⟨S_1009, eS_1009⟩ : ∃ T, T = sN S_999 q_1008 1374 14 := ⟨_, rfl⟩
  rw [← eS_1009] at hw
  have ph_1010 : Phc S_1009 = Phc S + 0 := (show Phc S_1009 = Phc S_999 from Ph_sN' hg_1003.ci hq_1008 eS_1009 (by decide)).trans ph_1000
  have ph_1011 : Phs S_1009 = Phs S + 0 := (show Phs S_1009 = Phs S_999 from Ph_sN' hg_1003.ci hq_1008 eS_1009 (by decide)).trans ph_1001
  clear ph_1000
  clear ph_1001
  have hK_1012 : Kq S S_1009 x := hK_1002.sN hq_1008 eS_1009
  have hg_1013 : GX S_1009 := by rw [eS_1009]; exact GX_N hg_1003 hq_1008 (by decide +kernel)
  have zi_1014 : Zi S_1009 x := Zi_sN zi_1004 eS_1009
  have az_q_1008 : pA S_1009 q_1008 = fun _ => 0 := by rw [eS_1009]; exact pA_sN_new
  have fz_1015 : Fz S_1009 x [(1257, q_986, 1354, 128), (1256, q_964, 1334, 16), (1255, q_942, 1314, 16), (1254, q_920, 1294, 16), (1253, q_898, 1275, 16), (1252, q_876, 1254, 5), (1244, q_832, 1095, 40), (1243, q_810, 1074, 40), (1242, q_788, 1054, 40), (1241, q_766, 1034, 40), (1240, q_744, 1014, 40), (1239, q_722, 994, 41), (1237, q_700, 954, 4), (1236, q_678, 934, 158400), (1235, q_656, 914, 13200), (1227, q_624, 753, 400), (1226, q_602, 734, 240), (1225, q_580, 714, 240), (1224, q_558, 694, 240), (1223, q_536, 674, 60), (1222, q_514, 654, 60), (1221, q_492, 634, 60), (1220, q_470, 614, 5), (1219, q_448, 594, 12), (1218, q_426, 574, 7200), (1217, q_404, 554, 4), (1216, q_382, 534, 4), (1215, q_360, 514, 4), (1214, q_338, 494, 4), (1213, q_316, 474, 4), (1212, q_294, 454, 4), (1209, q_154, 394, 600), (1208, q_132, 374, 600), (1207, q_110, 354, 600), (1206, q_88, 334, 10), (1205, q_66, 314, 10), (1204, q_44, 294, 10), (1203, q_22, 274, 10), (1202, q_1, 254, 10)] := Fz_sN fz_1005 hq_1008 eS_1009
  have fd_1016 : Fe S_1009 x [(1248, q_854, 1174, 4), (1210, q_176, 414, 8)] := Fe_sN fd_1006 hq_1008 eS_1009
  clear zi_1004 fz_1005 fd_1006
  have hn0_q_1008 := hK_1002.new hq_1008
  have ha_1017 : At S_1009 q_1008 1374 := by rw [eS_1009]; exact At_nN _ _ _ _
  have hn_1018 : pN S_1009 q_1008 = 14 := by rw [eS_1009]; exact pN_sN_new
  have t_1019 : At S_999 x 192 := tAt_sR eS_999 t_998
  have t_1020 : At S_1009 x 192 := by rw [eS_1009]; exact At_sN t_1019 hq_1008
  refine r_putR X hw t_1020 rfl 58 1258 (some q_1008) rfl tyX12 (by decide) rfl inn_X12_init_12 tyX12_ok nmX12 (by decide) (X.2.2.2.1 (.fieldLink RX12 140 "SilkMillModel" "asked" "[I") (by decide +kernel)) rfl (Or.inr ⟨rfl, hin, rfl⟩) (fun _ => rfl) rfl (fun _ => rfl) rfl (Nat.le_of_ble_eq_true rfl) (st_1258 _ _) dX12_init_384 (fun H locs hw => ?_)
  obtain ⟨S_1021, eS_1021⟩ : ∃ T, T = sR S_1009 1258 x (some q_1008) := ⟨_, rfl⟩
  rw [← eS_1021] at hw
  have ph_1022 : Phc S_1021 = Phc S + 0 := (show Phc S_1021 = Phc S_1009 from Ph_rawR t_1020 (by decide) eS_1021).trans ph_1010
  have ph_1023 : Phs S_1021 = Phs S + 0 := (show Phs S_1021 = Phs S_1009 from Ph_rawR t_1020 (by decide) eS_1021).trans ph_1011
  clear ph_1010
  clear ph_1011
  have hK_1024 : Kq S S_1021 x := hK_1012.sR eS_1021
  have hg_1025 : GX S_1021 := by rw [eS_1021]; exact GX_rawR hg_1013 t_1020 (by decide +kernel)
  have zi_1026 : Zi S_1021 x := Zi_sR zi_1014 eS_1021
  have fz_1027 : Fz S_1021 x [(1258, q_1008, 1374, 14), (1257, q_986, 1354, 128), (1256, q_964, 1334, 16), (1255, q_942, 1314, 16), (1254, q_920, 1294, 16), (1253, q_898, 1275, 16), (1252, q_876, 1254, 5), (1244, q_832, 1095, 40), (1243, q_810, 1074, 40), (1242, q_788, 1054, 40), (1241, q_766, 1034, 40), (1240, q_744, 1014, 40), (1239, q_722, 994, 41), (1237, q_700, 954, 4), (1236, q_678, 934, 158400), (1235, q_656, 914, 13200), (1227, q_624, 753, 400), (1226, q_602, 734, 240), (1225, q_580, 714, 240), (1224, q_558, 694, 240), (1223, q_536, 674, 60), (1222, q_514, 654, 60), (1221, q_492, 634, 60), (1220, q_470, 614, 5), (1219, q_448, 594, 12), (1218, q_426, 574, 7200), (1217, q_404, 554, 4), (1216, q_382, 534, 4), (1215, q_360, 514, 4), (1214, q_338, 494, 4), (1213, q_316, 474, 4), (1212, q_294, 454, 4), (1209, q_154, 394, 600), (1208, q_132, 374, 600), (1207, q_110, 354, 600), (1206, q_88, 334, 10), (1205, q_66, 314, 10), (1204, q_44, 294, 10), (1203, q_22, 274, 10), (1202, q_1, 254, 10)] := Fz_add fz_1015 eS_1021 ha_1017 hn_1018 az_q_1008 rfl
  have fd_1028 : Fe S_1021 x [(1248, q_854, 1174, 4), (1210, q_176, 414, 8)] := Fe_sR fd_1016 eS_1021 rfl
  clear zi_1014 fz_1015 fd_1016
  have h_1029 : pR S_1021 1258 x = some q_1008 := tR_sRs eS_1021
  refine lv_aload_n X.1 X.2.1 dX12_init_387 rfl (lv_at hl 0 rfl) ?_
  refine lv_bipush (v := 14) X.1 X.2.1 dX12_init_388 (by decide) ?_
  refine r_newI (N := 14) X hw 1394 182473 43 rfl (X.2.2.2.1 (.arrayClass .int) (by decide +kernel)) (z_nn ti_14 (by omega)) (by decide) (by decide) (by show 42 + 1 ≤ 43; omega) (by show 182459 + 14 ≤ 182473; omega) (by show 43 ≤ 48; omega) (by show 182473 ≤ 182647; omega) dX12_init_390 (fun q_1030 H hq_1030 hw => ?_)
  obtain ⟨S_1031, eS_1031⟩ : ∃ T, T = sN S_1021 q_1030 1394 14 := ⟨_, rfl⟩
  rw [← eS_1031] at hw
  have ph_1032 : Phc S_1031 = Phc S + 0 := (show Phc S_1031 = Phc S_1021 from Ph_sN' hg_1025.ci hq_1030 eS_1031 (by decide)).trans ph_1022
  have ph_1033 : Phs S_1031 = Phs S + 0 := (show Phs S_1031 = Phs S_1021 from Ph_sN' hg_1025.ci hq_1030 eS_1031 (by decide)).trans ph_1023
  clear ph_1022
  clear ph_1023
  have hK_1034 : Kq S S_1031 x := hK_1024.sN hq_1030 eS_1031
  have hg_1035 : GX S_1031 := by rw [eS_1031]; exact GX_N hg_1025 hq_1030 (by decide +kernel)
  have zi_1036 : Zi S_1031 x := Zi_sN zi_1026 eS_1031
  have az_q_1030 : pA S_1031 q_1030 = fun _ => 0 := by rw [eS_1031]; exact pA_sN_new
  have fz_1037 : Fz S_1031 x [(1258, q_1008, 1374, 14), (1257, q_986, 1354, 128), (1256, q_964, 1334, 16), (1255, q_942, 1314, 16), (1254, q_920, 1294, 16), (1253, q_898, 1275, 16), (1252, q_876, 1254, 5), (1244, q_832, 1095, 40), (1243, q_810, 1074, 40), (1242, q_788, 1054, 40), (1241, q_766, 1034, 40), (1240, q_744, 1014, 40), (1239, q_722, 994, 41), (1237, q_700, 954, 4), (1236, q_678, 934, 158400), (1235, q_656, 914, 13200), (1227, q_624, 753, 400), (1226, q_602, 734, 240), (1225, q_580, 714, 240), (1224, q_558, 694, 240), (1223, q_536, 674, 60), (1222, q_514, 654, 60), (1221, q_492, 634, 60), (1220, q_470, 614, 5), (1219, q_448, 594, 12), (1218, q_426, 574, 7200), (1217, q_404, 554, 4), (1216, q_382, 534, 4), (1215, q_360, 514, 4), (1214, q_338, 494, 4), (1213, q_316, 474, 4), (1212, q_294, 454, 4), (1209, q_154, 394, 600), (1208, q_132, 374, 600), (1207, q_110, 354, 600), (1206, q_88, 334, 10), (1205, q_66, 314, 10), (1204, q_44, 294, 10), (1203, q_22, 274, 10), (1202, q_1, 254, 10)] := Fz_sN fz_1027 hq_1030 eS_1031
  have fd_1038 : Fe S_1031 x [(1248, q_854, 1174, 4), (1210, q_176, 414, 8)] := Fe_sN fd_1028 hq_1030 eS_1031
  clear zi_1026 fz_1027 fd_1028
  have hn0_q_1030 := hK_1024.new hq_1030
  have ha_1039 : At S_1031 q_1030 1394 := by rw [eS_1031]; exact At_nN _ _ _ _
  have hn_1040 : pN S_1031 q_1030 = 14 := by rw [eS_1031]; exact pN_sN_new
  have t_1041 : At S_1021 x 192 := tAt_sR eS_1021 t_1020
  have t_1042 : At S_1031 x 192 := by rw [eS_1031]; exact At_sN t_1041 hq_1030
  refine r_putR X hw t_1042 rfl 59 1259 (some q_1030) rfl tyX12 (by decide) rfl inn_X12_init_12 tyX12_ok nmX12 (by decide) (X.2.2.2.1 (.fieldLink RX12 143 "SilkMillModel" "askedWeight" "[I") (by decide +kernel)) rfl (Or.inr ⟨rfl, hin, rfl⟩) (fun _ => rfl) rfl (fun _ => rfl) rfl (Nat.le_of_ble_eq_true rfl) (st_1259 _ _) dX12_init_392 (fun H locs hw => ?_)
  obtain ⟨S_1043, eS_1043⟩ : ∃ T, T = sR S_1031 1259 x (some q_1030) := ⟨_, rfl⟩
  rw [← eS_1043] at hw
  have ph_1044 : Phc S_1043 = Phc S + 0 := (show Phc S_1043 = Phc S_1031 from Ph_rawR t_1042 (by decide) eS_1043).trans ph_1032
  have ph_1045 : Phs S_1043 = Phs S + 0 := (show Phs S_1043 = Phs S_1031 from Ph_rawR t_1042 (by decide) eS_1043).trans ph_1033
  clear ph_1032
  clear ph_1033
  have hK_1046 : Kq S S_1043 x := hK_1034.sR eS_1043
  have hg_1047 : GX S_1043 := by rw [eS_1043]; exact GX_rawR hg_1035 t_1042 (by decide +kernel)
  have zi_1048 : Zi S_1043 x := Zi_sR zi_1036 eS_1043
  have fz_1049 : Fz S_1043 x [(1259, q_1030, 1394, 14), (1258, q_1008, 1374, 14), (1257, q_986, 1354, 128), (1256, q_964, 1334, 16), (1255, q_942, 1314, 16), (1254, q_920, 1294, 16), (1253, q_898, 1275, 16), (1252, q_876, 1254, 5), (1244, q_832, 1095, 40), (1243, q_810, 1074, 40), (1242, q_788, 1054, 40), (1241, q_766, 1034, 40), (1240, q_744, 1014, 40), (1239, q_722, 994, 41), (1237, q_700, 954, 4), (1236, q_678, 934, 158400), (1235, q_656, 914, 13200), (1227, q_624, 753, 400), (1226, q_602, 734, 240), (1225, q_580, 714, 240), (1224, q_558, 694, 240), (1223, q_536, 674, 60), (1222, q_514, 654, 60), (1221, q_492, 634, 60), (1220, q_470, 614, 5), (1219, q_448, 594, 12), (1218, q_426, 574, 7200), (1217, q_404, 554, 4), (1216, q_382, 534, 4), (1215, q_360, 514, 4), (1214, q_338, 494, 4), (1213, q_316, 474, 4), (1212, q_294, 454, 4), (1209, q_154, 394, 600), (1208, q_132, 374, 600), (1207, q_110, 354, 600), (1206, q_88, 334, 10), (1205, q_66, 314, 10), (1204, q_44, 294, 10), (1203, q_22, 274, 10), (1202, q_1, 254, 10)] := Fz_add fz_1037 eS_1043 ha_1039 hn_1040 az_q_1030 rfl
  have fd_1050 : Fe S_1043 x [(1248, q_854, 1174, 4), (1210, q_176, 414, 8)] := Fe_sR fd_1038 eS_1043 rfl
  clear zi_1036 fz_1037 fd_1038
  have h_1051 : pR S_1043 1259 x = some q_1030 := tR_sRs eS_1043
  refine lv_aload_n X.1 X.2.1 dX12_init_395 rfl (lv_at hl 0 rfl) ?_
  refine lv_bipush (v := 14) X.1 X.2.1 dX12_init_396 (by decide) ?_
  refine r_newI (N := 14) X hw 1414 182487 44 rfl (X.2.2.2.1 (.arrayClass .int) (by decide +kernel)) (z_nn ti_14 (by omega)) (by decide) (by decide) (by show 43 + 1 ≤ 44; omega) (by show 182473 + 14 ≤ 182487; omega) (by show 44 ≤ 48; omega) (by show 182487 ≤ 182647; omega) dX12_init_398 (fun q_1052 H hq_1052 hw => ?_)
  obtain ⟨S_1053, eS_1053⟩ : ∃ T, T = sN S_1043 q_1052 1414 14 := ⟨_, rfl⟩
  rw [← eS_1053] at hw
  have ph_1054 : Phc S_1053 = Phc S + 0 := (show Phc S_1053 = Phc S_1043 from Ph_sN' hg_1047.ci hq_1052 eS_1053 (by decide)).trans ph_1044
  have ph_1055 : Phs S_1053 = Phs S + 0 := (show Phs S_1053 = Phs S_1043 from Ph_sN' hg_1047.ci hq_1052 eS_1053 (by decide)).trans ph_1045
  clear ph_1044
  clear ph_1045
  have hK_1056 : Kq S S_1053 x := hK_1046.sN hq_1052 eS_1053
  have hg_1057 : GX S_1053 := by rw [eS_1053]; exact GX_N hg_1047 hq_1052 (by decide +kernel)
  have zi_1058 : Zi S_1053 x := Zi_sN zi_1048 eS_1053
  have az_q_1052 : pA S_1053 q_1052 = fun _ => 0 := by rw [eS_1053]; exact pA_sN_new
  have fz_1059 : Fz S_1053 x [(1259, q_1030, 1394, 14), (1258, q_1008, 1374, 14), (1257, q_986, 1354, 128), (1256, q_964, 1334, 16), (1255, q_942, 1314, 16), (1254, q_920, 1294, 16), (1253, q_898, 1275, 16), (1252, q_876, 1254, 5), (1244, q_832, 1095, 40), (1243, q_810, 1074, 40), (1242, q_788, 1054, 40), (1241, q_766, 1034, 40), (1240, q_744, 1014, 40), (1239, q_722, 994, 41), (1237, q_700, 954, 4), (1236, q_678, 934, 158400), (1235, q_656, 914, 13200), (1227, q_624, 753, 400), (1226, q_602, 734, 240), (1225, q_580, 714, 240), (1224, q_558, 694, 240), (1223, q_536, 674, 60), (1222, q_514, 654, 60), (1221, q_492, 634, 60), (1220, q_470, 614, 5), (1219, q_448, 594, 12), (1218, q_426, 574, 7200), (1217, q_404, 554, 4), (1216, q_382, 534, 4), (1215, q_360, 514, 4), (1214, q_338, 494, 4), (1213, q_316, 474, 4), (1212, q_294, 454, 4), (1209, q_154, 394, 600), (1208, q_132, 374, 600), (1207, q_110, 354, 600), (1206, q_88, 334, 10), (1205, q_66, 314, 10), (1204, q_44, 294, 10), (1203, q_22, 274, 10), (1202, q_1, 254, 10)] := Fz_sN fz_1049 hq_1052 eS_1053
  have fd_1060 : Fe S_1053 x [(1248, q_854, 1174, 4), (1210, q_176, 414, 8)] := Fe_sN fd_1050 hq_1052 eS_1053
  clear zi_1048 fz_1049 fd_1050
  have hn0_q_1052 := hK_1046.new hq_1052
  have ha_1061 : At S_1053 q_1052 1414 := by rw [eS_1053]; exact At_nN _ _ _ _
  have hn_1062 : pN S_1053 q_1052 = 14 := by rw [eS_1053]; exact pN_sN_new
  have t_1063 : At S_1043 x 192 := tAt_sR eS_1043 t_1042
  have t_1064 : At S_1053 x 192 := by rw [eS_1053]; exact At_sN t_1063 hq_1052
  refine r_putR X hw t_1064 rfl 60 1260 (some q_1052) rfl tyX12 (by decide) rfl inn_X12_init_12 tyX12_ok nmX12 (by decide) (X.2.2.2.1 (.fieldLink RX12 146 "SilkMillModel" "askedPrice" "[I") (by decide +kernel)) rfl (Or.inr ⟨rfl, hin, rfl⟩) (fun _ => rfl) rfl (fun _ => rfl) rfl (Nat.le_of_ble_eq_true rfl) (st_1260 _ _) dX12_init_400 (fun H locs hw => ?_)
  obtain ⟨S_1065, eS_1065⟩ : ∃ T, T = sR S_1053 1260 x (some q_1052) := ⟨_, rfl⟩
  rw [← eS_1065] at hw
  have ph_1066 : Phc S_1065 = Phc S + 0 := (show Phc S_1065 = Phc S_1053 from Ph_rawR t_1064 (by decide) eS_1065).trans ph_1054
  have ph_1067 : Phs S_1065 = Phs S + 0 := (show Phs S_1065 = Phs S_1053 from Ph_rawR t_1064 (by decide) eS_1065).trans ph_1055
  clear ph_1054
  clear ph_1055
  have hK_1068 : Kq S S_1065 x := hK_1056.sR eS_1065
  have hg_1069 : GX S_1065 := by rw [eS_1065]; exact GX_rawR hg_1057 t_1064 (by decide +kernel)
  have zi_1070 : Zi S_1065 x := Zi_sR zi_1058 eS_1065
  have fz_1071 : Fz S_1065 x [(1260, q_1052, 1414, 14), (1259, q_1030, 1394, 14), (1258, q_1008, 1374, 14), (1257, q_986, 1354, 128), (1256, q_964, 1334, 16), (1255, q_942, 1314, 16), (1254, q_920, 1294, 16), (1253, q_898, 1275, 16), (1252, q_876, 1254, 5), (1244, q_832, 1095, 40), (1243, q_810, 1074, 40), (1242, q_788, 1054, 40), (1241, q_766, 1034, 40), (1240, q_744, 1014, 40), (1239, q_722, 994, 41), (1237, q_700, 954, 4), (1236, q_678, 934, 158400), (1235, q_656, 914, 13200), (1227, q_624, 753, 400), (1226, q_602, 734, 240), (1225, q_580, 714, 240), (1224, q_558, 694, 240), (1223, q_536, 674, 60), (1222, q_514, 654, 60), (1221, q_492, 634, 60), (1220, q_470, 614, 5), (1219, q_448, 594, 12), (1218, q_426, 574, 7200), (1217, q_404, 554, 4), (1216, q_382, 534, 4), (1215, q_360, 514, 4), (1214, q_338, 494, 4), (1213, q_316, 474, 4), (1212, q_294, 454, 4), (1209, q_154, 394, 600), (1208, q_132, 374, 600), (1207, q_110, 354, 600), (1206, q_88, 334, 10), (1205, q_66, 314, 10), (1204, q_44, 294, 10), (1203, q_22, 274, 10), (1202, q_1, 254, 10)] := Fz_add fz_1059 eS_1065 ha_1061 hn_1062 az_q_1052 rfl
  have fd_1072 : Fe S_1065 x [(1248, q_854, 1174, 4), (1210, q_176, 414, 8)] := Fe_sR fd_1060 eS_1065 rfl
  clear zi_1058 fz_1059 fd_1060
  have h_1073 : pR S_1065 1260 x = some q_1052 := tR_sRs eS_1065
  refine lv_aload_n X.1 X.2.1 dX12_init_403 rfl (lv_at hl 0 rfl) ?_
  refine lv_bipush (v := 40) X.1 X.2.1 dX12_init_404 (by decide) ?_
  refine r_newZ (N := 40) X hw 1435 182527 45 rfl (X.2.2.2.1 (.arrayClass .boolean) (by decide +kernel)) (z_nn ti_40 (by omega)) (by decide) (by decide) (by show 44 + 1 ≤ 45; omega) (by show 182487 + 40 ≤ 182527; omega) (by show 45 ≤ 48; omega) (by show 182527 ≤ 182647; omega) dX12_init_406 (fun q_1074 H hq_1074 hw => ?_)
  obtain ⟨S_1075, eS_1075⟩ : ∃ T, T = sN S_1065 q_1074 1435 40 := ⟨_, rfl⟩
  rw [← eS_1075] at hw
  have ph_1076 : Phc S_1075 = Phc S + 0 := (show Phc S_1075 = Phc S_1065 from Ph_sN' hg_1069.ci hq_1074 eS_1075 (by decide)).trans ph_1066
  have ph_1077 : Phs S_1075 = Phs S + 0 := (show Phs S_1075 = Phs S_1065 from Ph_sN' hg_1069.ci hq_1074 eS_1075 (by decide)).trans ph_1067
  clear ph_1066
  clear ph_1067
  have hK_1078 : Kq S S_1075 x := hK_1068.sN hq_1074 eS_1075
  have hg_1079 : GX S_1075 := by rw [eS_1075]; exact GX_N hg_1069 hq_1074 (by decide +kernel)
  have zi_1080 : Zi S_1075 x := Zi_sN zi_1070 eS_1075
  have az_q_1074 : pA S_1075 q_1074 = fun _ => 0 := by rw [eS_1075]; exact pA_sN_new
  have fz_1081 : Fz S_1075 x [(1260, q_1052, 1414, 14), (1259, q_1030, 1394, 14), (1258, q_1008, 1374, 14), (1257, q_986, 1354, 128), (1256, q_964, 1334, 16), (1255, q_942, 1314, 16), (1254, q_920, 1294, 16), (1253, q_898, 1275, 16), (1252, q_876, 1254, 5), (1244, q_832, 1095, 40), (1243, q_810, 1074, 40), (1242, q_788, 1054, 40), (1241, q_766, 1034, 40), (1240, q_744, 1014, 40), (1239, q_722, 994, 41), (1237, q_700, 954, 4), (1236, q_678, 934, 158400), (1235, q_656, 914, 13200), (1227, q_624, 753, 400), (1226, q_602, 734, 240), (1225, q_580, 714, 240), (1224, q_558, 694, 240), (1223, q_536, 674, 60), (1222, q_514, 654, 60), (1221, q_492, 634, 60), (1220, q_470, 614, 5), (1219, q_448, 594, 12), (1218, q_426, 574, 7200), (1217, q_404, 554, 4), (1216, q_382, 534, 4), (1215, q_360, 514, 4), (1214, q_338, 494, 4), (1213, q_316, 474, 4), (1212, q_294, 454, 4), (1209, q_154, 394, 600), (1208, q_132, 374, 600), (1207, q_110, 354, 600), (1206, q_88, 334, 10), (1205, q_66, 314, 10), (1204, q_44, 294, 10), (1203, q_22, 274, 10), (1202, q_1, 254, 10)] := Fz_sN fz_1071 hq_1074 eS_1075
  have fd_1082 : Fe S_1075 x [(1248, q_854, 1174, 4), (1210, q_176, 414, 8)] := Fe_sN fd_1072 hq_1074 eS_1075
  clear zi_1070 fz_1071 fd_1072
  have hn0_q_1074 := hK_1068.new hq_1074
  have ha_1083 : At S_1075 q_1074 1435 := by rw [eS_1075]; exact At_nN _ _ _ _
  have hn_1084 : pN S_1075 q_1074 = 40 := by rw [eS_1075]; exact pN_sN_new
  have t_1085 : At S_1065 x 192 := tAt_sR eS_1065 t_1064
  have t_1086 : At S_1075 x 192 := by rw [eS_1075]; exact At_sN t_1085 hq_1074
  refine r_putR X hw t_1086 rfl 61 1261 (some q_1074) rfl tyX12 (by decide) rfl inn_X12_init_12 tyX12_ok nmX12 (by decide) (X.2.2.2.1 (.fieldLink RX12 149 "SilkMillModel" "isMixed" "[Z") (by decide +kernel)) rfl (Or.inr ⟨rfl, hin, rfl⟩) (fun _ => rfl) rfl (fun _ => rfl) rfl (Nat.le_of_ble_eq_true rfl) (st_1261 _ _) dX12_init_408 (fun H locs hw => ?_)
  obtain ⟨S_1087, eS_1087⟩ : ∃ T, T = sR S_1075 1261 x (some q_1074) := ⟨_, rfl⟩
  rw [← eS_1087] at hw
  have ph_1088 : Phc S_1087 = Phc S + 0 := (show Phc S_1087 = Phc S_1075 from Ph_rawR t_1086 (by decide) eS_1087).trans ph_1076
  have ph_1089 : Phs S_1087 = Phs S + 0 := (show Phs S_1087 = Phs S_1075 from Ph_rawR t_1086 (by decide) eS_1087).trans ph_1077
  clear ph_1076
  clear ph_1077
  have hK_1090 : Kq S S_1087 x := hK_1078.sR eS_1087
  have hg_1091 : GX S_1087 := by rw [eS_1087]; exact GX_rawR hg_1079 t_1086 (by decide +kernel)
  have zi_1092 : Zi S_1087 x := Zi_sR zi_1080 eS_1087
  have fz_1093 : Fz S_1087 x [(1261, q_1074, 1435, 40), (1260, q_1052, 1414, 14), (1259, q_1030, 1394, 14), (1258, q_1008, 1374, 14), (1257, q_986, 1354, 128), (1256, q_964, 1334, 16), (1255, q_942, 1314, 16), (1254, q_920, 1294, 16), (1253, q_898, 1275, 16), (1252, q_876, 1254, 5), (1244, q_832, 1095, 40), (1243, q_810, 1074, 40), (1242, q_788, 1054, 40), (1241, q_766, 1034, 40), (1240, q_744, 1014, 40), (1239, q_722, 994, 41), (1237, q_700, 954, 4), (1236, q_678, 934, 158400), (1235, q_656, 914, 13200), (1227, q_624, 753, 400), (1226, q_602, 734, 240), (1225, q_580, 714, 240), (1224, q_558, 694, 240), (1223, q_536, 674, 60), (1222, q_514, 654, 60), (1221, q_492, 634, 60), (1220, q_470, 614, 5), (1219, q_448, 594, 12), (1218, q_426, 574, 7200), (1217, q_404, 554, 4), (1216, q_382, 534, 4), (1215, q_360, 514, 4), (1214, q_338, 494, 4), (1213, q_316, 474, 4), (1212, q_294, 454, 4), (1209, q_154, 394, 600), (1208, q_132, 374, 600), (1207, q_110, 354, 600), (1206, q_88, 334, 10), (1205, q_66, 314, 10), (1204, q_44, 294, 10), (1203, q_22, 274, 10), (1202, q_1, 254, 10)] := Fz_add fz_1081 eS_1087 ha_1083 hn_1084 az_q_1074 rfl
  have fd_1094 : Fe S_1087 x [(1248, q_854, 1174, 4), (1210, q_176, 414, 8)] := Fe_sR fd_1082 eS_1087 rfl
  clear zi_1080 fz_1081 fd_1082
  have h_1095 : pR S_1087 1261 x = some q_1074 := tR_sRs eS_1087
  refine lv_aload_n X.1 X.2.1 dX12_init_411 rfl (lv_at hl 0 rfl) ?_
  refine lv_bipush (v := 40) X.1 X.2.1 dX12_init_412 (by decide) ?_
  refine r_newI (N := 40) X hw 1474 182567 46 rfl (X.2.2.2.1 (.arrayClass .int) (by decide +kernel)) (z_nn ti_40 (by omega)) (by decide) (by decide) (by show 45 + 1 ≤ 46; omega) (by show 182527 + 40 ≤ 182567; omega) (by show 46 ≤ 48; omega) (by show 182567 ≤ 182647; omega) dX12_init_414 (fun q_1096 H hq_1096 hw => ?_)
  obtain ⟨S_1097, eS_1097⟩ : ∃ T, T = sN S_1087 q_1096 1474 40 := ⟨_, rfl⟩
  rw [← eS_1097] at hw
  have ph_1098 : Phc S_1097 = Phc S + 0 := (show Phc S_1097 = Phc S_1087 from Ph_sN' hg_1091.ci hq_1096 eS_1097 (by decide)).trans ph_1088
  have ph_1099 : Phs S_1097 = Phs S + 0 := (show Phs S_1097 = Phs S_1087 from Ph_sN' hg_1091.ci hq_1096 eS_1097 (by decide)).trans ph_1089
  clear ph_1088
  clear ph_1089
  have hK_1100 : Kq S S_1097 x := hK_1090.sN hq_1096 eS_1097
  have hg_1101 : GX S_1097 := by rw [eS_1097]; exact GX_N hg_1091 hq_1096 (by decide +kernel)
  have zi_1102 : Zi S_1097 x := Zi_sN zi_1092 eS_1097
  have az_q_1096 : pA S_1097 q_1096 = fun _ => 0 := by rw [eS_1097]; exact pA_sN_new
  have fz_1103 : Fz S_1097 x [(1261, q_1074, 1435, 40), (1260, q_1052, 1414, 14), (1259, q_1030, 1394, 14), (1258, q_1008, 1374, 14), (1257, q_986, 1354, 128), (1256, q_964, 1334, 16), (1255, q_942, 1314, 16), (1254, q_920, 1294, 16), (1253, q_898, 1275, 16), (1252, q_876, 1254, 5), (1244, q_832, 1095, 40), (1243, q_810, 1074, 40), (1242, q_788, 1054, 40), (1241, q_766, 1034, 40), (1240, q_744, 1014, 40), (1239, q_722, 994, 41), (1237, q_700, 954, 4), (1236, q_678, 934, 158400), (1235, q_656, 914, 13200), (1227, q_624, 753, 400), (1226, q_602, 734, 240), (1225, q_580, 714, 240), (1224, q_558, 694, 240), (1223, q_536, 674, 60), (1222, q_514, 654, 60), (1221, q_492, 634, 60), (1220, q_470, 614, 5), (1219, q_448, 594, 12), (1218, q_426, 574, 7200), (1217, q_404, 554, 4), (1216, q_382, 534, 4), (1215, q_360, 514, 4), (1214, q_338, 494, 4), (1213, q_316, 474, 4), (1212, q_294, 454, 4), (1209, q_154, 394, 600), (1208, q_132, 374, 600), (1207, q_110, 354, 600), (1206, q_88, 334, 10), (1205, q_66, 314, 10), (1204, q_44, 294, 10), (1203, q_22, 274, 10), (1202, q_1, 254, 10)] := Fz_sN fz_1093 hq_1096 eS_1097
  have fd_1104 : Fe S_1097 x [(1248, q_854, 1174, 4), (1210, q_176, 414, 8)] := Fe_sN fd_1094 hq_1096 eS_1097
  clear zi_1092 fz_1093 fd_1094
  have hn0_q_1096 := hK_1090.new hq_1096
  have ha_1105 : At S_1097 q_1096 1474 := by rw [eS_1097]; exact At_nN _ _ _ _
  have hn_1106 : pN S_1097 q_1096 = 40 := by rw [eS_1097]; exact pN_sN_new
  have t_1107 : At S_1087 x 192 := tAt_sR eS_1087 t_1086
  have t_1108 : At S_1097 x 192 := by rw [eS_1097]; exact At_sN t_1107 hq_1096
  refine r_putR X hw t_1108 rfl 63 1263 (some q_1096) rfl tyX12 (by decide) rfl inn_X12_init_12 tyX12_ok nmX12 (by decide) (X.2.2.2.1 (.fieldLink RX12 152 "SilkMillModel" "faultOf" "[I") (by decide +kernel)) rfl (Or.inr ⟨rfl, hin, rfl⟩) (fun _ => rfl) rfl (fun _ => rfl) rfl (Nat.le_of_ble_eq_true rfl) (st_1263 _ _) dX12_init_416 (fun H locs hw => ?_)
  obtain ⟨S_1109, eS_1109⟩ : ∃ T, T = sR S_1097 1263 x (some q_1096) := ⟨_, rfl⟩
  rw [← eS_1109] at hw
  have ph_1110 : Phc S_1109 = Phc S + 0 := (show Phc S_1109 = Phc S_1097 from Ph_rawR t_1108 (by decide) eS_1109).trans ph_1098
  have ph_1111 : Phs S_1109 = Phs S + 0 := (show Phs S_1109 = Phs S_1097 from Ph_rawR t_1108 (by decide) eS_1109).trans ph_1099
  clear ph_1098
  clear ph_1099
  have hK_1112 : Kq S S_1109 x := hK_1100.sR eS_1109
  have hg_1113 : GX S_1109 := by rw [eS_1109]; exact GX_rawR hg_1101 t_1108 (by decide +kernel)
  have zi_1114 : Zi S_1109 x := Zi_sR zi_1102 eS_1109
  have fz_1115 : Fz S_1109 x [(1263, q_1096, 1474, 40), (1261, q_1074, 1435, 40), (1260, q_1052, 1414, 14), (1259, q_1030, 1394, 14), (1258, q_1008, 1374, 14), (1257, q_986, 1354, 128), (1256, q_964, 1334, 16), (1255, q_942, 1314, 16), (1254, q_920, 1294, 16), (1253, q_898, 1275, 16), (1252, q_876, 1254, 5), (1244, q_832, 1095, 40), (1243, q_810, 1074, 40), (1242, q_788, 1054, 40), (1241, q_766, 1034, 40), (1240, q_744, 1014, 40), (1239, q_722, 994, 41), (1237, q_700, 954, 4), (1236, q_678, 934, 158400), (1235, q_656, 914, 13200), (1227, q_624, 753, 400), (1226, q_602, 734, 240), (1225, q_580, 714, 240), (1224, q_558, 694, 240), (1223, q_536, 674, 60), (1222, q_514, 654, 60), (1221, q_492, 634, 60), (1220, q_470, 614, 5), (1219, q_448, 594, 12), (1218, q_426, 574, 7200), (1217, q_404, 554, 4), (1216, q_382, 534, 4), (1215, q_360, 514, 4), (1214, q_338, 494, 4), (1213, q_316, 474, 4), (1212, q_294, 454, 4), (1209, q_154, 394, 600), (1208, q_132, 374, 600), (1207, q_110, 354, 600), (1206, q_88, 334, 10), (1205, q_66, 314, 10), (1204, q_44, 294, 10), (1203, q_22, 274, 10), (1202, q_1, 254, 10)] := Fz_add fz_1103 eS_1109 ha_1105 hn_1106 az_q_1096 rfl
  have fd_1116 : Fe S_1109 x [(1248, q_854, 1174, 4), (1210, q_176, 414, 8)] := Fe_sR fd_1104 eS_1109 rfl
  clear zi_1102 fz_1103 fd_1104
  have h_1117 : pR S_1109 1263 x = some q_1096 := tR_sRs eS_1109
  refine lv_aload_n X.1 X.2.1 dX12_init_419 rfl (lv_at hl 0 rfl) ?_
  refine lv_bipush (v := 40) X.1 X.2.1 dX12_init_420 (by decide) ?_
  refine r_newI (N := 40) X hw 1494 182607 47 rfl (X.2.2.2.1 (.arrayClass .int) (by decide +kernel)) (z_nn ti_40 (by omega)) (by decide) (by decide) (by show 46 + 1 ≤ 47; omega) (by show 182567 + 40 ≤ 182607; omega) (by show 47 ≤ 48; omega) (by show 182607 ≤ 182647; omega) dX12_init_422 (fun q_1118 H hq_1118 hw => ?_)
  obtain ⟨S_1119, eS_1119⟩ : ∃ T, T = sN S_1109 q_1118 1494 40 := ⟨_, rfl⟩
  rw [← eS_1119] at hw
  have ph_1120 : Phc S_1119 = Phc S + 0 := (show Phc S_1119 = Phc S_1109 from Ph_sN' hg_1113.ci hq_1118 eS_1119 (by decide)).trans ph_1110
  have ph_1121 : Phs S_1119 = Phs S + 0 := (show Phs S_1119 = Phs S_1109 from Ph_sN' hg_1113.ci hq_1118 eS_1119 (by decide)).trans ph_1111
  clear ph_1110
  clear ph_1111
  have hK_1122 : Kq S S_1119 x := hK_1112.sN hq_1118 eS_1119
  have hg_1123 : GX S_1119 := by rw [eS_1119]; exact GX_N hg_1113 hq_1118 (by decide +kernel)
  have zi_1124 : Zi S_1119 x := Zi_sN zi_1114 eS_1119
  have az_q_1118 : pA S_1119 q_1118 = fun _ => 0 := by rw [eS_1119]; exact pA_sN_new
  have fz_1125 : Fz S_1119 x [(1263, q_1096, 1474, 40), (1261, q_1074, 1435, 40), (1260, q_1052, 1414, 14), (1259, q_1030, 1394, 14), (1258, q_1008, 1374, 14), (1257, q_986, 1354, 128), (1256, q_964, 1334, 16), (1255, q_942, 1314, 16), (1254, q_920, 1294, 16), (1253, q_898, 1275, 16), (1252, q_876, 1254, 5), (1244, q_832, 1095, 40), (1243, q_810, 1074, 40), (1242, q_788, 1054, 40), (1241, q_766, 1034, 40), (1240, q_744, 1014, 40), (1239, q_722, 994, 41), (1237, q_700, 954, 4), (1236, q_678, 934, 158400), (1235, q_656, 914, 13200), (1227, q_624, 753, 400), (1226, q_602, 734, 240), (1225, q_580, 714, 240), (1224, q_558, 694, 240), (1223, q_536, 674, 60), (1222, q_514, 654, 60), (1221, q_492, 634, 60), (1220, q_470, 614, 5), (1219, q_448, 594, 12), (1218, q_426, 574, 7200), (1217, q_404, 554, 4), (1216, q_382, 534, 4), (1215, q_360, 514, 4), (1214, q_338, 494, 4), (1213, q_316, 474, 4), (1212, q_294, 454, 4), (1209, q_154, 394, 600), (1208, q_132, 374, 600), (1207, q_110, 354, 600), (1206, q_88, 334, 10), (1205, q_66, 314, 10), (1204, q_44, 294, 10), (1203, q_22, 274, 10), (1202, q_1, 254, 10)] := Fz_sN fz_1115 hq_1118 eS_1119
  have fd_1126 : Fe S_1119 x [(1248, q_854, 1174, 4), (1210, q_176, 414, 8)] := Fe_sN fd_1116 hq_1118 eS_1119
  clear zi_1114 fz_1115 fd_1116
  have hn0_q_1118 := hK_1112.new hq_1118
  have ha_1127 : At S_1119 q_1118 1494 := by rw [eS_1119]; exact At_nN _ _ _ _
  have hn_1128 : pN S_1119 q_1118 = 40 := by rw [eS_1119]; exact pN_sN_new
  have t_1129 : At S_1109 x 192 := tAt_sR eS_1109 t_1108
  have t_1130 : At S_1119 x 192 := by rw [eS_1119]; exact At_sN t_1129 hq_1118
  refine r_putR X hw t_1130 rfl 64 1264 (some q_1118) rfl tyX12 (by decide) rfl inn_X12_init_12 tyX12_ok nmX12 (by decide) (X.2.2.2.1 (.fieldLink RX12 155 "SilkMillModel" "faultAmount" "[I") (by decide +kernel)) rfl (Or.inr ⟨rfl, hin, rfl⟩) (fun _ => rfl) rfl (fun _ => rfl) rfl (Nat.le_of_ble_eq_true rfl) (st_1264 _ _) dX12_init_424 (fun H locs hw => ?_)
  obtain ⟨S_1131, eS_1131⟩ : ∃ T, T = sR S_1119 1264 x (some q_1118) := ⟨_, rfl⟩
  rw [← eS_1131] at hw
  have ph_1132 : Phc S_1131 = Phc S + 0 := (show Phc S_1131 = Phc S_1119 from Ph_rawR t_1130 (by decide) eS_1131).trans ph_1120
  have ph_1133 : Phs S_1131 = Phs S + 0 := (show Phs S_1131 = Phs S_1119 from Ph_rawR t_1130 (by decide) eS_1131).trans ph_1121
  clear ph_1120
  clear ph_1121
  have hK_1134 : Kq S S_1131 x := hK_1122.sR eS_1131
  have hg_1135 : GX S_1131 := by rw [eS_1131]; exact GX_rawR hg_1123 t_1130 (by decide +kernel)
  have zi_1136 : Zi S_1131 x := Zi_sR zi_1124 eS_1131
  have fz_1137 : Fz S_1131 x [(1264, q_1118, 1494, 40), (1263, q_1096, 1474, 40), (1261, q_1074, 1435, 40), (1260, q_1052, 1414, 14), (1259, q_1030, 1394, 14), (1258, q_1008, 1374, 14), (1257, q_986, 1354, 128), (1256, q_964, 1334, 16), (1255, q_942, 1314, 16), (1254, q_920, 1294, 16), (1253, q_898, 1275, 16), (1252, q_876, 1254, 5), (1244, q_832, 1095, 40), (1243, q_810, 1074, 40), (1242, q_788, 1054, 40), (1241, q_766, 1034, 40), (1240, q_744, 1014, 40), (1239, q_722, 994, 41), (1237, q_700, 954, 4), (1236, q_678, 934, 158400), (1235, q_656, 914, 13200), (1227, q_624, 753, 400), (1226, q_602, 734, 240), (1225, q_580, 714, 240), (1224, q_558, 694, 240), (1223, q_536, 674, 60), (1222, q_514, 654, 60), (1221, q_492, 634, 60), (1220, q_470, 614, 5), (1219, q_448, 594, 12), (1218, q_426, 574, 7200), (1217, q_404, 554, 4), (1216, q_382, 534, 4), (1215, q_360, 514, 4), (1214, q_338, 494, 4), (1213, q_316, 474, 4), (1212, q_294, 454, 4), (1209, q_154, 394, 600), (1208, q_132, 374, 600), (1207, q_110, 354, 600), (1206, q_88, 334, 10), (1205, q_66, 314, 10), (1204, q_44, 294, 10), (1203, q_22, 274, 10), (1202, q_1, 254, 10)] := Fz_add fz_1125 eS_1131 ha_1127 hn_1128 az_q_1118 rfl
  have fd_1138 : Fe S_1131 x [(1248, q_854, 1174, 4), (1210, q_176, 414, 8)] := Fe_sR fd_1126 eS_1131 rfl
  clear zi_1124 fz_1125 fd_1126
  have h_1139 : pR S_1131 1264 x = some q_1118 := tR_sRs eS_1131
  refine lv_aload_n X.1 X.2.1 dX12_init_427 rfl (lv_at hl 0 rfl) ?_
  refine lv_bipush (v := 40) X.1 X.2.1 dX12_init_428 (by decide) ?_
  refine r_newI (N := 40) X hw 1514 182647 48 rfl (X.2.2.2.1 (.arrayClass .int) (by decide +kernel)) (z_nn ti_40 (by omega)) (by decide) (by decide) (by show 47 + 1 ≤ 48; omega) (by show 182607 + 40 ≤ 182647; omega) (by show 48 ≤ 48; omega) (by show 182647 ≤ 182647; omega) dX12_init_430 (fun q_1140 H hq_1140 hw => ?_)
  obtain ⟨S_1141, eS_1141⟩ : ∃ T, T = sN S_1131 q_1140 1514 40 := ⟨_, rfl⟩
  rw [← eS_1141] at hw
  have ph_1142 : Phc S_1141 = Phc S + 0 := (show Phc S_1141 = Phc S_1131 from Ph_sN' hg_1135.ci hq_1140 eS_1141 (by decide)).trans ph_1132
  have ph_1143 : Phs S_1141 = Phs S + 0 := (show Phs S_1141 = Phs S_1131 from Ph_sN' hg_1135.ci hq_1140 eS_1141 (by decide)).trans ph_1133
  clear ph_1132
  clear ph_1133
  have hK_1144 : Kq S S_1141 x := hK_1134.sN hq_1140 eS_1141
  have hg_1145 : GX S_1141 := by rw [eS_1141]; exact GX_N hg_1135 hq_1140 (by decide +kernel)
  have zi_1146 : Zi S_1141 x := Zi_sN zi_1136 eS_1141
  have az_q_1140 : pA S_1141 q_1140 = fun _ => 0 := by rw [eS_1141]; exact pA_sN_new
  have fz_1147 : Fz S_1141 x [(1264, q_1118, 1494, 40), (1263, q_1096, 1474, 40), (1261, q_1074, 1435, 40), (1260, q_1052, 1414, 14), (1259, q_1030, 1394, 14), (1258, q_1008, 1374, 14), (1257, q_986, 1354, 128), (1256, q_964, 1334, 16), (1255, q_942, 1314, 16), (1254, q_920, 1294, 16), (1253, q_898, 1275, 16), (1252, q_876, 1254, 5), (1244, q_832, 1095, 40), (1243, q_810, 1074, 40), (1242, q_788, 1054, 40), (1241, q_766, 1034, 40), (1240, q_744, 1014, 40), (1239, q_722, 994, 41), (1237, q_700, 954, 4), (1236, q_678, 934, 158400), (1235, q_656, 914, 13200), (1227, q_624, 753, 400), (1226, q_602, 734, 240), (1225, q_580, 714, 240), (1224, q_558, 694, 240), (1223, q_536, 674, 60), (1222, q_514, 654, 60), (1221, q_492, 634, 60), (1220, q_470, 614, 5), (1219, q_448, 594, 12), (1218, q_426, 574, 7200), (1217, q_404, 554, 4), (1216, q_382, 534, 4), (1215, q_360, 514, 4), (1214, q_338, 494, 4), (1213, q_316, 474, 4), (1212, q_294, 454, 4), (1209, q_154, 394, 600), (1208, q_132, 374, 600), (1207, q_110, 354, 600), (1206, q_88, 334, 10), (1205, q_66, 314, 10), (1204, q_44, 294, 10), (1203, q_22, 274, 10), (1202, q_1, 254, 10)] := Fz_sN fz_1137 hq_1140 eS_1141
  have fd_1148 : Fe S_1141 x [(1248, q_854, 1174, 4), (1210, q_176, 414, 8)] := Fe_sN fd_1138 hq_1140 eS_1141
  clear zi_1136 fz_1137 fd_1138
  have hn0_q_1140 := hK_1134.new hq_1140
  have ha_1149 : At S_1141 q_1140 1514 := by rw [eS_1141]; exact At_nN _ _ _ _
  have hn_1150 : pN S_1141 q_1140 = 40 := by rw [eS_1141]; exact pN_sN_new
  have t_1151 : At S_1131 x 192 := tAt_sR eS_1131 t_1130
  have t_1152 : At S_1141 x 192 := by rw [eS_1141]; exact At_sN t_1151 hq_1140
  refine r_putR X hw t_1152 rfl 65 1265 (some q_1140) rfl tyX12 (by decide) rfl inn_X12_init_12 tyX12_ok nmX12 (by decide) (X.2.2.2.1 (.fieldLink RX12 158 "SilkMillModel" "faultDay" "[I") (by decide +kernel)) rfl (Or.inr ⟨rfl, hin, rfl⟩) (fun _ => rfl) rfl (fun _ => rfl) rfl (Nat.le_of_ble_eq_true rfl) (st_1265 _ _) dX12_init_432 (fun H locs hw => ?_)
  obtain ⟨S_1153, eS_1153⟩ : ∃ T, T = sR S_1141 1265 x (some q_1140) := ⟨_, rfl⟩
  rw [← eS_1153] at hw
  have ph_1154 : Phc S_1153 = Phc S + 0 := (show Phc S_1153 = Phc S_1141 from Ph_rawR t_1152 (by decide) eS_1153).trans ph_1142
  have ph_1155 : Phs S_1153 = Phs S + 0 := (show Phs S_1153 = Phs S_1141 from Ph_rawR t_1152 (by decide) eS_1153).trans ph_1143
  clear ph_1142
  clear ph_1143
  have hK_1156 : Kq S S_1153 x := hK_1144.sR eS_1153
  have hg_1157 : GX S_1153 := by rw [eS_1153]; exact GX_rawR hg_1145 t_1152 (by decide +kernel)
  have zi_1158 : Zi S_1153 x := Zi_sR zi_1146 eS_1153
  have fz_1159 : Fz S_1153 x [(1265, q_1140, 1514, 40), (1264, q_1118, 1494, 40), (1263, q_1096, 1474, 40), (1261, q_1074, 1435, 40), (1260, q_1052, 1414, 14), (1259, q_1030, 1394, 14), (1258, q_1008, 1374, 14), (1257, q_986, 1354, 128), (1256, q_964, 1334, 16), (1255, q_942, 1314, 16), (1254, q_920, 1294, 16), (1253, q_898, 1275, 16), (1252, q_876, 1254, 5), (1244, q_832, 1095, 40), (1243, q_810, 1074, 40), (1242, q_788, 1054, 40), (1241, q_766, 1034, 40), (1240, q_744, 1014, 40), (1239, q_722, 994, 41), (1237, q_700, 954, 4), (1236, q_678, 934, 158400), (1235, q_656, 914, 13200), (1227, q_624, 753, 400), (1226, q_602, 734, 240), (1225, q_580, 714, 240), (1224, q_558, 694, 240), (1223, q_536, 674, 60), (1222, q_514, 654, 60), (1221, q_492, 634, 60), (1220, q_470, 614, 5), (1219, q_448, 594, 12), (1218, q_426, 574, 7200), (1217, q_404, 554, 4), (1216, q_382, 534, 4), (1215, q_360, 514, 4), (1214, q_338, 494, 4), (1213, q_316, 474, 4), (1212, q_294, 454, 4), (1209, q_154, 394, 600), (1208, q_132, 374, 600), (1207, q_110, 354, 600), (1206, q_88, 334, 10), (1205, q_66, 314, 10), (1204, q_44, 294, 10), (1203, q_22, 274, 10), (1202, q_1, 254, 10)] := Fz_add fz_1147 eS_1153 ha_1149 hn_1150 az_q_1140 rfl
  have fd_1160 : Fe S_1153 x [(1248, q_854, 1174, 4), (1210, q_176, 414, 8)] := Fe_sR fd_1148 eS_1153 rfl
  clear zi_1146 fz_1147 fd_1148
  have h_1161 : pR S_1153 1265 x = some q_1140 := tR_sRs eS_1153
  refine lv_iconst (v := 0) X.1 X.2.1 dX12_init_435 (by decide) ?_
  refine lv_istore_n (lv' := [(1, .int 0), (0, .ref x)]) X.1 X.2.1 dX12_init_436 rfl hl (by decide) rfl (fun ls hl => ?_)
  refine lv_iload_n X.1 X.2.1 dX12_init_437 rfl (lv_at hl 0 rfl) ?_
  refine lv_iconst (v := 4) X.1 X.2.1 dX12_init_438 (by decide) ?_
  refine lv_icmp_ge (tgt := 485) X.1 X.2.1 dX12_init_439 (by decide) (fun c_1162 => absurd c_1162 (by decide)) (fun c_1162 => ?_)
  refine lv_aload_n X.1 X.2.1 dX12_init_442 rfl (lv_at hl 1 rfl) ?_
  have t_1163 : At S_1153 x 192 := tAt_sR eS_1153 t_1152
  have t_1164 : pR S_877 1248 x = some q_854 := by rw [eS_877, pR_sN]; exact h_875
  have t_1165 : pR S_889 1248 x = some q_854 := tR_sR eS_889 rfl t_1164
  have t_1166 : pR S_899 1248 x = some q_854 := by rw [eS_899, pR_sN]; exact t_1165
  have t_1167 : pR S_911 1248 x = some q_854 := tR_sR eS_911 rfl t_1166
  have t_1168 : pR S_921 1248 x = some q_854 := by rw [eS_921, pR_sN]; exact t_1167
  have t_1169 : pR S_933 1248 x = some q_854 := tR_sR eS_933 rfl t_1168
  have t_1170 : pR S_943 1248 x = some q_854 := by rw [eS_943, pR_sN]; exact t_1169
  have t_1171 : pR S_955 1248 x = some q_854 := tR_sR eS_955 rfl t_1170
  have t_1172 : pR S_965 1248 x = some q_854 := by rw [eS_965, pR_sN]; exact t_1171
  have t_1173 : pR S_977 1248 x = some q_854 := tR_sR eS_977 rfl t_1172
  have t_1174 : pR S_987 1248 x = some q_854 := by rw [eS_987, pR_sN]; exact t_1173
  have t_1175 : pR S_999 1248 x = some q_854 := tR_sR eS_999 rfl t_1174
  have t_1176 : pR S_1009 1248 x = some q_854 := by rw [eS_1009, pR_sN]; exact t_1175
  have t_1177 : pR S_1021 1248 x = some q_854 := tR_sR eS_1021 rfl t_1176
  have t_1178 : pR S_1031 1248 x = some q_854 := by rw [eS_1031, pR_sN]; exact t_1177
  have t_1179 : pR S_1043 1248 x = some q_854 := tR_sR eS_1043 rfl t_1178
  have t_1180 : pR S_1053 1248 x = some q_854 := by rw [eS_1053, pR_sN]; exact t_1179
  have t_1181 : pR S_1065 1248 x = some q_854 := tR_sR eS_1065 rfl t_1180
  have t_1182 : pR S_1075 1248 x = some q_854 := by rw [eS_1075, pR_sN]; exact t_1181
  have t_1183 : pR S_1087 1248 x = some q_854 := tR_sR eS_1087 rfl t_1182
  have t_1184 : pR S_1097 1248 x = some q_854 := by rw [eS_1097, pR_sN]; exact t_1183
  have t_1185 : pR S_1109 1248 x = some q_854 := tR_sR eS_1109 rfl t_1184
  have t_1186 : pR S_1119 1248 x = some q_854 := by rw [eS_1119, pR_sN]; exact t_1185
  have t_1187 : pR S_1131 1248 x = some q_854 := tR_sR eS_1131 rfl t_1186
  have t_1188 : pR S_1141 1248 x = some q_854 := by rw [eS_1141, pR_sN]; exact t_1187
  have t_1189 : pR S_1153 1248 x = some q_854 := tR_sR eS_1153 rfl t_1188
  refine r_getR (g := 1248) X hw t_1163 rfl 48 t_1189 (by decide) rfl inn_X12_init_12 (by decide) (X.2.2.2.1 (.fieldLink RX12 119 "SilkMillModel" "price" "[I") (by decide +kernel)) rfl (gv_1248 _ _) dX12_init_443 ?_
  refine lv_iload_n X.1 X.2.1 dX12_init_446 rfl (lv_at hl 0 rfl) ?_
  refine lv_iload_n X.1 X.2.1 dX12_init_447 rfl (lv_at hl 0 rfl) ?_
  refine lv_if_ne (tgt := 456) X.1 X.2.1 dX12_init_448 (by decide) (fun c_1190 => absurd c_1190 (by decide)) (fun c_1190 => ?_)
  refine lv_bipush (v := 100) X.1 X.2.1 dX12_init_451 (by decide) ?_
  refine lv_goto (tgt := 478) X.1 X.2.1 dX12_init_453 (by decide) ?_
  have t_1191 : At S_867 q_854 1174 := tAt_sR eS_867 ha_863
  have t_1192 : At S_877 q_854 1174 := by rw [eS_877]; exact At_sN t_1191 hq_876
  have t_1193 : At S_889 q_854 1174 := tAt_sR eS_889 t_1192
  have t_1194 : At S_899 q_854 1174 := by rw [eS_899]; exact At_sN t_1193 hq_898
  have t_1195 : At S_911 q_854 1174 := tAt_sR eS_911 t_1194
  have t_1196 : At S_921 q_854 1174 := by rw [eS_921]; exact At_sN t_1195 hq_920
  have t_1197 : At S_933 q_854 1174 := tAt_sR eS_933 t_1196
  have t_1198 : At S_943 q_854 1174 := by rw [eS_943]; exact At_sN t_1197 hq_942
  have t_1199 : At S_955 q_854 1174 := tAt_sR eS_955 t_1198
  have t_1200 : At S_965 q_854 1174 := by rw [eS_965]; exact At_sN t_1199 hq_964
  have t_1201 : At S_977 q_854 1174 := tAt_sR eS_977 t_1200
  have t_1202 : At S_987 q_854 1174 := by rw [eS_987]; exact At_sN t_1201 hq_986
  have t_1203 : At S_999 q_854 1174 := tAt_sR eS_999 t_1202
  have t_1204 : At S_1009 q_854 1174 := by rw [eS_1009]; exact At_sN t_1203 hq_1008
  have t_1205 : At S_1021 q_854 1174 := tAt_sR eS_1021 t_1204
  have t_1206 : At S_1031 q_854 1174 := by rw [eS_1031]; exact At_sN t_1205 hq_1030
  have t_1207 : At S_1043 q_854 1174 := tAt_sR eS_1043 t_1206
  have t_1208 : At S_1053 q_854 1174 := by rw [eS_1053]; exact At_sN t_1207 hq_1052
  have t_1209 : At S_1065 q_854 1174 := tAt_sR eS_1065 t_1208
  have t_1210 : At S_1075 q_854 1174 := by rw [eS_1075]; exact At_sN t_1209 hq_1074
  have t_1211 : At S_1087 q_854 1174 := tAt_sR eS_1087 t_1210
  have t_1212 : At S_1097 q_854 1174 := by rw [eS_1097]; exact At_sN t_1211 hq_1096
  have t_1213 : At S_1109 q_854 1174 := tAt_sR eS_1109 t_1212
  have t_1214 : At S_1119 q_854 1174 := by rw [eS_1119]; exact At_sN t_1213 hq_1118
  have t_1215 : At S_1131 q_854 1174 := tAt_sR eS_1131 t_1214
  have t_1216 : At S_1141 q_854 1174 := by rw [eS_1141]; exact At_sN t_1215 hq_1140
  have t_1217 : At S_1153 q_854 1174 := tAt_sR eS_1153 t_1216
  have t_1218 : pN S_867 q_854 = 4 := tN_sR eS_867 hn_864
  clear hn_864
  have t_1220 : At S_867 q_854 1174 := tAt_sR eS_867 ha_863
  have t_1219 : pN S_877 q_854 = 4 := by rw [eS_877]; exact (pN_sN_ne (ne_of_new hq_876 t_1220.1)).trans t_1218
  clear t_1218
  have t_1221 : pN S_889 q_854 = 4 := tN_sR eS_889 t_1219
  clear t_1219
  have t_1223 : At S_877 q_854 1174 := by rw [eS_877]; exact At_sN t_1220 hq_876
  have t_1224 : At S_889 q_854 1174 := tAt_sR eS_889 t_1223
  have t_1222 : pN S_899 q_854 = 4 := by rw [eS_899]; exact (pN_sN_ne (ne_of_new hq_898 t_1224.1)).trans t_1221
  clear t_1221
  have t_1225 : pN S_911 q_854 = 4 := tN_sR eS_911 t_1222
  clear t_1222
  have t_1227 : At S_899 q_854 1174 := by rw [eS_899]; exact At_sN t_1224 hq_898
  have t_1228 : At S_911 q_854 1174 := tAt_sR eS_911 t_1227
  have t_1226 : pN S_921 q_854 = 4 := by rw [eS_921]; exact (pN_sN_ne (ne_of_new hq_920 t_1228.1)).trans t_1225
  clear t_1225
  have t_1229 : pN S_933 q_854 = 4 := tN_sR eS_933 t_1226
  clear t_1226
  have t_1231 : At S_921 q_854 1174 := by rw [eS_921]; exact At_sN t_1228 hq_920
  have t_1232 : At S_933 q_854 1174 := tAt_sR eS_933 t_1231
  have t_1230 : pN S_943 q_854 = 4 := by rw [eS_943]; exact (pN_sN_ne (ne_of_new hq_942 t_1232.1)).trans t_1229
  clear t_1229
  have t_1233 : pN S_955 q_854 = 4 := tN_sR eS_955 t_1230
  clear t_1230
  have t_1235 : At S_943 q_854 1174 := by rw [eS_943]; exact At_sN t_1232 hq_942
  have t_1236 : At S_955 q_854 1174 := tAt_sR eS_955 t_1235
  have t_1234 : pN S_965 q_854 = 4 := by rw [eS_965]; exact (pN_sN_ne (ne_of_new hq_964 t_1236.1)).trans t_1233
  clear t_1233
  have t_1237 : pN S_977 q_854 = 4 := tN_sR eS_977 t_1234
  clear t_1234
  have t_1239 : At S_965 q_854 1174 := by rw [eS_965]; exact At_sN t_1236 hq_964
  have t_1240 : At S_977 q_854 1174 := tAt_sR eS_977 t_1239
  have t_1238 : pN S_987 q_854 = 4 := by rw [eS_987]; exact (pN_sN_ne (ne_of_new hq_986 t_1240.1)).trans t_1237
  clear t_1237
  have t_1241 : pN S_999 q_854 = 4 := tN_sR eS_999 t_1238
  clear t_1238
  have t_1243 : At S_987 q_854 1174 := by rw [eS_987]; exact At_sN t_1240 hq_986
  have t_1244 : At S_999 q_854 1174 := tAt_sR eS_999 t_1243
  have t_1242 : pN S_1009 q_854 = 4 := by rw [eS_1009]; exact (pN_sN_ne (ne_of_new hq_1008 t_1244.1)).trans t_1241
  clear t_1241
  have t_1245 : pN S_1021 q_854 = 4 := tN_sR eS_1021 t_1242
  clear t_1242
  have t_1247 : At S_1009 q_854 1174 := by rw [eS_1009]; exact At_sN t_1244 hq_1008
  have t_1248 : At S_1021 q_854 1174 := tAt_sR eS_1021 t_1247
  have t_1246 : pN S_1031 q_854 = 4 := by rw [eS_1031]; exact (pN_sN_ne (ne_of_new hq_1030 t_1248.1)).trans t_1245
  clear t_1245
  have t_1249 : pN S_1043 q_854 = 4 := tN_sR eS_1043 t_1246
  clear t_1246
  have t_1251 : At S_1031 q_854 1174 := by rw [eS_1031]; exact At_sN t_1248 hq_1030
  have t_1252 : At S_1043 q_854 1174 := tAt_sR eS_1043 t_1251
  have t_1250 : pN S_1053 q_854 = 4 := by rw [eS_1053]; exact (pN_sN_ne (ne_of_new hq_1052 t_1252.1)).trans t_1249
  clear t_1249
  have t_1253 : pN S_1065 q_854 = 4 := tN_sR eS_1065 t_1250
  clear t_1250
  have t_1255 : At S_1053 q_854 1174 := by rw [eS_1053]; exact At_sN t_1252 hq_1052
  have t_1256 : At S_1065 q_854 1174 := tAt_sR eS_1065 t_1255
  have t_1254 : pN S_1075 q_854 = 4 := by rw [eS_1075]; exact (pN_sN_ne (ne_of_new hq_1074 t_1256.1)).trans t_1253
  clear t_1253
  have t_1257 : pN S_1087 q_854 = 4 := tN_sR eS_1087 t_1254
  clear t_1254
  have t_1259 : At S_1075 q_854 1174 := by rw [eS_1075]; exact At_sN t_1256 hq_1074
  have t_1260 : At S_1087 q_854 1174 := tAt_sR eS_1087 t_1259
  have t_1258 : pN S_1097 q_854 = 4 := by rw [eS_1097]; exact (pN_sN_ne (ne_of_new hq_1096 t_1260.1)).trans t_1257
  clear t_1257
  have t_1261 : pN S_1109 q_854 = 4 := tN_sR eS_1109 t_1258
  clear t_1258
  have t_1263 : At S_1097 q_854 1174 := by rw [eS_1097]; exact At_sN t_1260 hq_1096
  have t_1264 : At S_1109 q_854 1174 := tAt_sR eS_1109 t_1263
  have t_1262 : pN S_1119 q_854 = 4 := by rw [eS_1119]; exact (pN_sN_ne (ne_of_new hq_1118 t_1264.1)).trans t_1261
  clear t_1261
  have t_1265 : pN S_1131 q_854 = 4 := tN_sR eS_1131 t_1262
  clear t_1262
  have t_1267 : At S_1119 q_854 1174 := by rw [eS_1119]; exact At_sN t_1264 hq_1118
  have t_1268 : At S_1131 q_854 1174 := tAt_sR eS_1131 t_1267
  have t_1266 : pN S_1141 q_854 = 4 := by rw [eS_1141]; exact (pN_sN_ne (ne_of_new hq_1140 t_1268.1)).trans t_1265
  clear t_1265
  have t_1269 : pN S_1153 q_854 = 4 := tN_sR eS_1153 t_1266
  clear t_1266
  refine r_iast X hw t_1217 rfl (by rw [t_1269]; exact z_ix ti_0 (by omega) (by omega)) dX12_init_478 (fun H locs hw => ?_)
  obtain ⟨S_1270, eS_1270⟩ : ∃ T, T = sA S_1153 q_854 (upd (pA S_1153 q_854) (Int32.toNatClampNeg (0)) (100)) := ⟨_, rfl⟩
  rw [← eS_1270] at hw
  have ph_1271 : Phc S_1270 = Phc S + 0 := (show Phc S_1270 = Phc S_1153 from Ph_sA eS_1270).trans ph_1154
  have ph_1272 : Phs S_1270 = Phs S + 0 := (show Phs S_1270 = Phs S_1153 from Ph_sA eS_1270).trans ph_1155
  clear ph_1154
  clear ph_1155
  have hK_1273 : Kq S S_1270 x := hK_1156.sA hn0_q_854 eS_1270
  have hg_1274 : GX S_1270 := by rw [eS_1270]; exact uA_1174 hg_1157 t_1217
  have zi_1275 : Zi S_1270 x := Zi_sA zi_1158 eS_1270
  have fz_1276 : Fz S_1270 x [(1265, q_1140, 1514, 40), (1264, q_1118, 1494, 40), (1263, q_1096, 1474, 40), (1261, q_1074, 1435, 40), (1260, q_1052, 1414, 14), (1259, q_1030, 1394, 14), (1258, q_1008, 1374, 14), (1257, q_986, 1354, 128), (1256, q_964, 1334, 16), (1255, q_942, 1314, 16), (1254, q_920, 1294, 16), (1253, q_898, 1275, 16), (1252, q_876, 1254, 5), (1244, q_832, 1095, 40), (1243, q_810, 1074, 40), (1242, q_788, 1054, 40), (1241, q_766, 1034, 40), (1240, q_744, 1014, 40), (1239, q_722, 994, 41), (1237, q_700, 954, 4), (1236, q_678, 934, 158400), (1235, q_656, 914, 13200), (1227, q_624, 753, 400), (1226, q_602, 734, 240), (1225, q_580, 714, 240), (1224, q_558, 694, 240), (1223, q_536, 674, 60), (1222, q_514, 654, 60), (1221, q_492, 634, 60), (1220, q_470, 614, 5), (1219, q_448, 594, 12), (1218, q_426, 574, 7200), (1217, q_404, 554, 4), (1216, q_382, 534, 4), (1215, q_360, 514, 4), (1214, q_338, 494, 4), (1213, q_316, 474, 4), (1212, q_294, 454, 4), (1209, q_154, 394, 600), (1208, q_132, 374, 600), (1207, q_110, 354, 600), (1206, q_88, 334, 10), (1205, q_66, 314, 10), (1204, q_44, 294, 10), (1203, q_22, 274, 10), (1202, q_1, 254, 10)] := Fz_sA fz_1159 t_1217 eS_1270 rfl
  have fd_1277 : Fe S_1270 x [(1248, q_854, 1174, 4), (1210, q_176, 414, 8)] := Fe_sA fd_1160 eS_1270
  clear zi_1158 fz_1159 fd_1160
  have h_1278 : pA S_1270 q_854 (Int32.toNatClampNeg (0)) = 100 := tA_sAs eS_1270
  refine lv_iinc (v := 1) (lv' := [(1, .int 1), (0, .ref x)]) X.1 X.2.1 dX12_init_479 hl (k := 0) rfl (by decide) (by decide) rfl (fun ls hl => ?_)
  refine lv_goto (tgt := 437) X.1 X.2.1 dX12_init_482 (by decide) ?_
  refine lv_iload_n X.1 X.2.1 dX12_init_437 rfl (lv_at hl 0 rfl) ?_
  refine lv_iconst (v := 4) X.1 X.2.1 dX12_init_438 (by decide) ?_
  refine lv_icmp_ge (tgt := 485) X.1 X.2.1 dX12_init_439 (by decide) (fun c_1279 => absurd c_1279 (by decide)) (fun c_1279 => ?_)
  refine lv_aload_n X.1 X.2.1 dX12_init_442 rfl (lv_at hl 1 rfl) ?_
  have t_1280 : At S_1270 x 192 := tAt_sA eS_1270 t_1163
  have t_1281 : pR S_1270 1248 x = some q_854 := tR_sA eS_1270 t_1189
  refine r_getR (g := 1248) X hw t_1280 rfl 48 t_1281 (by decide) rfl inn_X12_init_12 (by decide) (X.2.2.2.1 (.fieldLink RX12 119 "SilkMillModel" "price" "[I") (by decide +kernel)) rfl (gv_1248 _ _) dX12_init_443 ?_
  refine lv_iload_n X.1 X.2.1 dX12_init_446 rfl (lv_at hl 0 rfl) ?_
  refine lv_iload_n X.1 X.2.1 dX12_init_447 rfl (lv_at hl 0 rfl) ?_
  refine lv_if_ne (tgt := 456) X.1 X.2.1 dX12_init_448 (by decide) (fun c_1282 => ?_) (fun c_1282 => absurd c_1282 (by decide))
  refine lv_iload_n X.1 X.2.1 dX12_init_456 rfl (lv_at hl 0 rfl) ?_
  refine lv_iconst (v := 1) X.1 X.2.1 dX12_init_457 (by decide) ?_
  refine lv_icmp_ne (tgt := 466) X.1 X.2.1 dX12_init_458 (by decide) (fun c_1283 => absurd c_1283 (by decide)) (fun c_1283 => ?_)
  refine lv_bipush (v := 80) X.1 X.2.1 dX12_init_461 (by decide) ?_
  refine lv_goto (tgt := 478) X.1 X.2.1 dX12_init_463 (by decide) ?_
  have t_1284 : At S_1270 q_854 1174 := tAt_sA eS_1270 t_1217
  have t_1285 : pN S_1270 q_854 = 4 := tN_sA eS_1270 t_1269
  clear t_1269
  refine r_iast X hw t_1284 rfl (by rw [t_1285]; exact z_ix ti_1 (by omega) (by omega)) dX12_init_478 (fun H locs hw => ?_)
  obtain ⟨S_1286, eS_1286⟩ : ∃ T, T = sA S_1270 q_854 (upd (pA S_1270 q_854) (Int32.toNatClampNeg (1)) (80)) := ⟨_, rfl⟩
  rw [← eS_1286] at hw
  have ph_1287 : Phc S_1286 = Phc S + 0 := (show Phc S_1286 = Phc S_1270 from Ph_sA eS_1286).trans ph_1271
  have ph_1288 : Phs S_1286 = Phs S + 0 := (show Phs S_1286 = Phs S_1270 from Ph_sA eS_1286).trans ph_1272
  clear ph_1271
  clear ph_1272
  have hK_1289 : Kq S S_1286 x := hK_1273.sA hn0_q_854 eS_1286
  have hg_1290 : GX S_1286 := by rw [eS_1286]; exact uA_1174 hg_1274 t_1284
  have zi_1291 : Zi S_1286 x := Zi_sA zi_1275 eS_1286
  have fz_1292 : Fz S_1286 x [(1265, q_1140, 1514, 40), (1264, q_1118, 1494, 40), (1263, q_1096, 1474, 40), (1261, q_1074, 1435, 40), (1260, q_1052, 1414, 14), (1259, q_1030, 1394, 14), (1258, q_1008, 1374, 14), (1257, q_986, 1354, 128), (1256, q_964, 1334, 16), (1255, q_942, 1314, 16), (1254, q_920, 1294, 16), (1253, q_898, 1275, 16), (1252, q_876, 1254, 5), (1244, q_832, 1095, 40), (1243, q_810, 1074, 40), (1242, q_788, 1054, 40), (1241, q_766, 1034, 40), (1240, q_744, 1014, 40), (1239, q_722, 994, 41), (1237, q_700, 954, 4), (1236, q_678, 934, 158400), (1235, q_656, 914, 13200), (1227, q_624, 753, 400), (1226, q_602, 734, 240), (1225, q_580, 714, 240), (1224, q_558, 694, 240), (1223, q_536, 674, 60), (1222, q_514, 654, 60), (1221, q_492, 634, 60), (1220, q_470, 614, 5), (1219, q_448, 594, 12), (1218, q_426, 574, 7200), (1217, q_404, 554, 4), (1216, q_382, 534, 4), (1215, q_360, 514, 4), (1214, q_338, 494, 4), (1213, q_316, 474, 4), (1212, q_294, 454, 4), (1209, q_154, 394, 600), (1208, q_132, 374, 600), (1207, q_110, 354, 600), (1206, q_88, 334, 10), (1205, q_66, 314, 10), (1204, q_44, 294, 10), (1203, q_22, 274, 10), (1202, q_1, 254, 10)] := Fz_sA fz_1276 t_1284 eS_1286 rfl
  have fd_1293 : Fe S_1286 x [(1248, q_854, 1174, 4), (1210, q_176, 414, 8)] := Fe_sA fd_1277 eS_1286
  clear zi_1275 fz_1276 fd_1277
  have h_1294 : pA S_1286 q_854 (Int32.toNatClampNeg (1)) = 80 := tA_sAs eS_1286
  refine lv_iinc (v := 2) (lv' := [(1, .int 2), (0, .ref x)]) X.1 X.2.1 dX12_init_479 hl (k := 0) rfl (by decide) (by decide) rfl (fun ls hl => ?_)
  refine lv_goto (tgt := 437) X.1 X.2.1 dX12_init_482 (by decide) ?_
  refine lv_iload_n X.1 X.2.1 dX12_init_437 rfl (lv_at hl 0 rfl) ?_
  refine lv_iconst (v := 4) X.1 X.2.1 dX12_init_438 (by decide) ?_
  refine lv_icmp_ge (tgt := 485) X.1 X.2.1 dX12_init_439 (by decide) (fun c_1295 => absurd c_1295 (by decide)) (fun c_1295 => ?_)
  refine lv_aload_n X.1 X.2.1 dX12_init_442 rfl (lv_at hl 1 rfl) ?_
  have t_1296 : At S_1286 x 192 := tAt_sA eS_1286 t_1280
  have t_1297 : pR S_1286 1248 x = some q_854 := tR_sA eS_1286 t_1281
  refine r_getR (g := 1248) X hw t_1296 rfl 48 t_1297 (by decide) rfl inn_X12_init_12 (by decide) (X.2.2.2.1 (.fieldLink RX12 119 "SilkMillModel" "price" "[I") (by decide +kernel)) rfl (gv_1248 _ _) dX12_init_443 ?_
  refine lv_iload_n X.1 X.2.1 dX12_init_446 rfl (lv_at hl 0 rfl) ?_
  refine lv_iload_n X.1 X.2.1 dX12_init_447 rfl (lv_at hl 0 rfl) ?_
  refine lv_if_ne (tgt := 456) X.1 X.2.1 dX12_init_448 (by decide) (fun c_1298 => ?_) (fun c_1298 => absurd c_1298 (by decide))
  refine lv_iload_n X.1 X.2.1 dX12_init_456 rfl (lv_at hl 0 rfl) ?_
  refine lv_iconst (v := 1) X.1 X.2.1 dX12_init_457 (by decide) ?_
  refine lv_icmp_ne (tgt := 466) X.1 X.2.1 dX12_init_458 (by decide) (fun c_1299 => ?_) (fun c_1299 => absurd c_1299 (by decide))
  refine lv_iload_n X.1 X.2.1 dX12_init_466 rfl (lv_at hl 0 rfl) ?_
  refine lv_iconst (v := 2) X.1 X.2.1 dX12_init_467 (by decide) ?_
  refine lv_icmp_ne (tgt := 476) X.1 X.2.1 dX12_init_468 (by decide) (fun c_1300 => absurd c_1300 (by decide)) (fun c_1300 => ?_)
  refine lv_bipush (v := 50) X.1 X.2.1 dX12_init_471 (by decide) ?_
  refine lv_goto (tgt := 478) X.1 X.2.1 dX12_init_473 (by decide) ?_
  have t_1301 : At S_1286 q_854 1174 := tAt_sA eS_1286 t_1284
  have t_1302 : pN S_1286 q_854 = 4 := tN_sA eS_1286 t_1285
  clear t_1285
  refine r_iast X hw t_1301 rfl (by rw [t_1302]; exact z_ix ti_2 (by omega) (by omega)) dX12_init_478 (fun H locs hw => ?_)
  obtain ⟨S_1303, eS_1303⟩ : ∃ T, T = sA S_1286 q_854 (upd (pA S_1286 q_854) (Int32.toNatClampNeg (2)) (50)) := ⟨_, rfl⟩
  rw [← eS_1303] at hw
  have ph_1304 : Phc S_1303 = Phc S + 0 := (show Phc S_1303 = Phc S_1286 from Ph_sA eS_1303).trans ph_1287
  have ph_1305 : Phs S_1303 = Phs S + 0 := (show Phs S_1303 = Phs S_1286 from Ph_sA eS_1303).trans ph_1288
  clear ph_1287
  clear ph_1288
  have hK_1306 : Kq S S_1303 x := hK_1289.sA hn0_q_854 eS_1303
  have hg_1307 : GX S_1303 := by rw [eS_1303]; exact uA_1174 hg_1290 t_1301
  have zi_1308 : Zi S_1303 x := Zi_sA zi_1291 eS_1303
  have fz_1309 : Fz S_1303 x [(1265, q_1140, 1514, 40), (1264, q_1118, 1494, 40), (1263, q_1096, 1474, 40), (1261, q_1074, 1435, 40), (1260, q_1052, 1414, 14), (1259, q_1030, 1394, 14), (1258, q_1008, 1374, 14), (1257, q_986, 1354, 128), (1256, q_964, 1334, 16), (1255, q_942, 1314, 16), (1254, q_920, 1294, 16), (1253, q_898, 1275, 16), (1252, q_876, 1254, 5), (1244, q_832, 1095, 40), (1243, q_810, 1074, 40), (1242, q_788, 1054, 40), (1241, q_766, 1034, 40), (1240, q_744, 1014, 40), (1239, q_722, 994, 41), (1237, q_700, 954, 4), (1236, q_678, 934, 158400), (1235, q_656, 914, 13200), (1227, q_624, 753, 400), (1226, q_602, 734, 240), (1225, q_580, 714, 240), (1224, q_558, 694, 240), (1223, q_536, 674, 60), (1222, q_514, 654, 60), (1221, q_492, 634, 60), (1220, q_470, 614, 5), (1219, q_448, 594, 12), (1218, q_426, 574, 7200), (1217, q_404, 554, 4), (1216, q_382, 534, 4), (1215, q_360, 514, 4), (1214, q_338, 494, 4), (1213, q_316, 474, 4), (1212, q_294, 454, 4), (1209, q_154, 394, 600), (1208, q_132, 374, 600), (1207, q_110, 354, 600), (1206, q_88, 334, 10), (1205, q_66, 314, 10), (1204, q_44, 294, 10), (1203, q_22, 274, 10), (1202, q_1, 254, 10)] := Fz_sA fz_1292 t_1301 eS_1303 rfl
  have fd_1310 : Fe S_1303 x [(1248, q_854, 1174, 4), (1210, q_176, 414, 8)] := Fe_sA fd_1293 eS_1303
  clear zi_1291 fz_1292 fd_1293
  have h_1311 : pA S_1303 q_854 (Int32.toNatClampNeg (2)) = 50 := tA_sAs eS_1303
  refine lv_iinc (v := 3) (lv' := [(1, .int 3), (0, .ref x)]) X.1 X.2.1 dX12_init_479 hl (k := 0) rfl (by decide) (by decide) rfl (fun ls hl => ?_)
  refine lv_goto (tgt := 437) X.1 X.2.1 dX12_init_482 (by decide) ?_
  refine lv_iload_n X.1 X.2.1 dX12_init_437 rfl (lv_at hl 0 rfl) ?_
  refine lv_iconst (v := 4) X.1 X.2.1 dX12_init_438 (by decide) ?_
  refine lv_icmp_ge (tgt := 485) X.1 X.2.1 dX12_init_439 (by decide) (fun c_1312 => absurd c_1312 (by decide)) (fun c_1312 => ?_)
  refine lv_aload_n X.1 X.2.1 dX12_init_442 rfl (lv_at hl 1 rfl) ?_
  have t_1313 : At S_1303 x 192 := tAt_sA eS_1303 t_1296
  have t_1314 : pR S_1303 1248 x = some q_854 := tR_sA eS_1303 t_1297
  refine r_getR (g := 1248) X hw t_1313 rfl 48 t_1314 (by decide) rfl inn_X12_init_12 (by decide) (X.2.2.2.1 (.fieldLink RX12 119 "SilkMillModel" "price" "[I") (by decide +kernel)) rfl (gv_1248 _ _) dX12_init_443 ?_
  refine lv_iload_n X.1 X.2.1 dX12_init_446 rfl (lv_at hl 0 rfl) ?_
  refine lv_iload_n X.1 X.2.1 dX12_init_447 rfl (lv_at hl 0 rfl) ?_
  refine lv_if_ne (tgt := 456) X.1 X.2.1 dX12_init_448 (by decide) (fun c_1315 => ?_) (fun c_1315 => absurd c_1315 (by decide))
  refine lv_iload_n X.1 X.2.1 dX12_init_456 rfl (lv_at hl 0 rfl) ?_
  refine lv_iconst (v := 1) X.1 X.2.1 dX12_init_457 (by decide) ?_
  refine lv_icmp_ne (tgt := 466) X.1 X.2.1 dX12_init_458 (by decide) (fun c_1316 => ?_) (fun c_1316 => absurd c_1316 (by decide))
  refine lv_iload_n X.1 X.2.1 dX12_init_466 rfl (lv_at hl 0 rfl) ?_
  refine lv_iconst (v := 2) X.1 X.2.1 dX12_init_467 (by decide) ?_
  refine lv_icmp_ne (tgt := 476) X.1 X.2.1 dX12_init_468 (by decide) (fun c_1317 => ?_) (fun c_1317 => absurd c_1317 (by decide))
  refine lv_bipush (v := 20) X.1 X.2.1 dX12_init_476 (by decide) ?_
  have t_1318 : At S_1303 q_854 1174 := tAt_sA eS_1303 t_1301
  have t_1319 : pN S_1303 q_854 = 4 := tN_sA eS_1303 t_1302
  clear t_1302
  refine r_iast X hw t_1318 rfl (by rw [t_1319]; exact z_ix ti_3 (by omega) (by omega)) dX12_init_478 (fun H locs hw => ?_)
  obtain ⟨S_1320, eS_1320⟩ : ∃ T, T = sA S_1303 q_854 (upd (pA S_1303 q_854) (Int32.toNatClampNeg (3)) (20)) := ⟨_, rfl⟩
  rw [← eS_1320] at hw
  have ph_1321 : Phc S_1320 = Phc S + 0 := (show Phc S_1320 = Phc S_1303 from Ph_sA eS_1320).trans ph_1304
  have ph_1322 : Phs S_1320 = Phs S + 0 := (show Phs S_1320 = Phs S_1303 from Ph_sA eS_1320).trans ph_1305
  clear ph_1304
  clear ph_1305
  have hK_1323 : Kq S S_1320 x := hK_1306.sA hn0_q_854 eS_1320
  have hg_1324 : GX S_1320 := by rw [eS_1320]; exact uA_1174 hg_1307 t_1318
  have zi_1325 : Zi S_1320 x := Zi_sA zi_1308 eS_1320
  have fz_1326 : Fz S_1320 x [(1265, q_1140, 1514, 40), (1264, q_1118, 1494, 40), (1263, q_1096, 1474, 40), (1261, q_1074, 1435, 40), (1260, q_1052, 1414, 14), (1259, q_1030, 1394, 14), (1258, q_1008, 1374, 14), (1257, q_986, 1354, 128), (1256, q_964, 1334, 16), (1255, q_942, 1314, 16), (1254, q_920, 1294, 16), (1253, q_898, 1275, 16), (1252, q_876, 1254, 5), (1244, q_832, 1095, 40), (1243, q_810, 1074, 40), (1242, q_788, 1054, 40), (1241, q_766, 1034, 40), (1240, q_744, 1014, 40), (1239, q_722, 994, 41), (1237, q_700, 954, 4), (1236, q_678, 934, 158400), (1235, q_656, 914, 13200), (1227, q_624, 753, 400), (1226, q_602, 734, 240), (1225, q_580, 714, 240), (1224, q_558, 694, 240), (1223, q_536, 674, 60), (1222, q_514, 654, 60), (1221, q_492, 634, 60), (1220, q_470, 614, 5), (1219, q_448, 594, 12), (1218, q_426, 574, 7200), (1217, q_404, 554, 4), (1216, q_382, 534, 4), (1215, q_360, 514, 4), (1214, q_338, 494, 4), (1213, q_316, 474, 4), (1212, q_294, 454, 4), (1209, q_154, 394, 600), (1208, q_132, 374, 600), (1207, q_110, 354, 600), (1206, q_88, 334, 10), (1205, q_66, 314, 10), (1204, q_44, 294, 10), (1203, q_22, 274, 10), (1202, q_1, 254, 10)] := Fz_sA fz_1309 t_1318 eS_1320 rfl
  have fd_1327 : Fe S_1320 x [(1248, q_854, 1174, 4), (1210, q_176, 414, 8)] := Fe_sA fd_1310 eS_1320
  clear zi_1308 fz_1309 fd_1310
  have h_1328 : pA S_1320 q_854 (Int32.toNatClampNeg (3)) = 20 := tA_sAs eS_1320
  refine lv_iinc (v := 4) (lv' := [(1, .int 4), (0, .ref x)]) X.1 X.2.1 dX12_init_479 hl (k := 0) rfl (by decide) (by decide) rfl (fun ls hl => ?_)
  refine lv_goto (tgt := 437) X.1 X.2.1 dX12_init_482 (by decide) ?_
  refine lv_iload_n X.1 X.2.1 dX12_init_437 rfl (lv_at hl 0 rfl) ?_
  refine lv_iconst (v := 4) X.1 X.2.1 dX12_init_438 (by decide) ?_
  refine lv_icmp_ge (tgt := 485) X.1 X.2.1 dX12_init_439 (by decide) (fun c_1329 => ?_) (fun c_1329 => absurd c_1329 (by decide))
  have t_1330 : At S_1320 x 192 := tAt_sA eS_1320 t_1313
  have nd_1331 := nodup_of hw
  obtain ⟨S_1332, eS_1332⟩ : ∃ T, T = sK S_1320 x 12 := ⟨_, rfl⟩
  have hw := Wd_sK (k := 12) hw t_1330 rfl; rw [← eS_1332] at hw
  have hg9 : GX S_1332 := by rw [eS_1332]; exact GX_sK hg_1324 t_1330 (by decide +kernel) (mk_12 (Zi_I zi_1325 rfl (by decide) (by decide)) (Zi_I zi_1325 rfl (by decide) (by decide)) (Zi_I zi_1325 rfl (by decide) (by decide)) (Zi_I zi_1325 rfl (by decide) (by decide)) (Zi_I zi_1325 rfl (by decide) (by decide)) (Zi_I zi_1325 rfl (by decide) (by decide)) (Zi_I zi_1325 rfl (by decide) (by decide)) (Zi_I zi_1325 rfl (by decide) (by decide)) (Fz_A fz_1326 (List.Mem.tail _ (List.Mem.tail _ (List.Mem.tail _ (List.Mem.tail _ (List.Mem.tail _ (List.Mem.tail _ (List.Mem.tail _ (List.Mem.tail _ (List.Mem.tail _ (List.Mem.tail _ (List.Mem.tail _ (List.Mem.tail _ (List.Mem.tail _ (List.Mem.tail _ (List.Mem.tail _ (List.Mem.tail _ (List.Mem.tail _ (List.Mem.tail _ (List.Mem.tail _ (List.Mem.tail _ (List.Mem.tail _ (List.Mem.tail _ (List.Mem.tail _ (List.Mem.tail _ (List.Mem.tail _ (List.Mem.tail _ (List.Mem.tail _ (List.Mem.tail _ (List.Mem.tail _ (List.Mem.tail _ (List.Mem.tail _ (List.Mem.tail _ (List.Mem.tail _ (List.Mem.tail _ (List.Mem.tail _ (List.Mem.tail _ (List.Mem.tail _ (List.Mem.tail _ (List.Mem.tail _ (List.Mem.tail _ (List.Mem.tail _ (List.Mem.tail _ (List.Mem.tail _ (List.Mem.tail _ (List.Mem.tail _ (List.Mem.head _)))))))))))))))))))))))))))))))))))))))))))))) t_1330 (by decide)) (Fz_A fz_1326 (List.Mem.tail _ (List.Mem.tail _ (List.Mem.tail _ (List.Mem.tail _ (List.Mem.tail _ (List.Mem.tail _ (List.Mem.tail _ (List.Mem.tail _ (List.Mem.tail _ (List.Mem.tail _ (List.Mem.tail _ (List.Mem.tail _ (List.Mem.tail _ (List.Mem.tail _ (List.Mem.tail _ (List.Mem.tail _ (List.Mem.tail _ (List.Mem.tail _ (List.Mem.tail _ (List.Mem.tail _ (List.Mem.tail _ (List.Mem.tail _ (List.Mem.tail _ (List.Mem.tail _ (List.Mem.tail _ (List.Mem.tail _ (List.Mem.tail _ (List.Mem.tail _ (List.Mem.tail _ (List.Mem.tail _ (List.Mem.tail _ (List.Mem.tail _ (List.Mem.tail _ (List.Mem.tail _ (List.Mem.tail _ (List.Mem.tail _ (List.Mem.tail _ (List.Mem.tail _ (List.Mem.tail _ (List.Mem.tail _ (List.Mem.tail _ (List.Mem.tail _ (List.Mem.tail _ (List.Mem.tail _ (List.Mem.head _))))))))))))))))))))))))))))))))))))))))))))) t_1330 (by decide)) (Fz_A fz_1326 (List.Mem.tail _ (List.Mem.tail _ (List.Mem.tail _ (List.Mem.tail _ (List.Mem.tail _ (List.Mem.tail _ (List.Mem.tail _ (List.Mem.tail _ (List.Mem.tail _ (List.Mem.tail _ (List.Mem.tail _ (List.Mem.tail _ (List.Mem.tail _ (List.Mem.tail _ (List.Mem.tail _ (List.Mem.tail _ (List.Mem.tail _ (List.Mem.tail _ (List.Mem.tail _ (List.Mem.tail _ (List.Mem.tail _ (List.Mem.tail _ (List.Mem.tail _ (List.Mem.tail _ (List.Mem.tail _ (List.Mem.tail _ (List.Mem.tail _ (List.Mem.tail _ (List.Mem.tail _ (List.Mem.tail _ (List.Mem.tail _ (List.Mem.tail _ (List.Mem.tail _ (List.Mem.tail _ (List.Mem.tail _ (List.Mem.tail _ (List.Mem.tail _ (List.Mem.tail _ (List.Mem.tail _ (List.Mem.tail _ (List.Mem.tail _ (List.Mem.tail _ (List.Mem.tail _ (List.Mem.head _)))))))))))))))))))))))))))))))))))))))))))) t_1330 (by decide)) (Fz_A fz_1326 (List.Mem.tail _ (List.Mem.tail _ (List.Mem.tail _ (List.Mem.tail _ (List.Mem.tail _ (List.Mem.tail _ (List.Mem.tail _ (List.Mem.tail _ (List.Mem.tail _ (List.Mem.tail _ (List.Mem.tail _ (List.Mem.tail _ (List.Mem.tail _ (List.Mem.tail _ (List.Mem.tail _ (List.Mem.tail _ (List.Mem.tail _ (List.Mem.tail _ (List.Mem.tail _ (List.Mem.tail _ (List.Mem.tail _ (List.Mem.tail _ (List.Mem.tail _ (List.Mem.tail _ (List.Mem.tail _ (List.Mem.tail _ (List.Mem.tail _ (List.Mem.tail _ (List.Mem.tail _ (List.Mem.tail _ (List.Mem.tail _ (List.Mem.tail _ (List.Mem.tail _ (List.Mem.tail _ (List.Mem.tail _ (List.Mem.tail _ (List.Mem.tail _ (List.Mem.tail _ (List.Mem.tail _ (List.Mem.tail _ (List.Mem.tail _ (List.Mem.tail _ (List.Mem.head _))))))))))))))))))))))))))))))))))))))))))) t_1330 (by decide)) (Fz_A fz_1326 (List.Mem.tail _ (List.Mem.tail _ (List.Mem.tail _ (List.Mem.tail _ (List.Mem.tail _ (List.Mem.tail _ (List.Mem.tail _ (List.Mem.tail _ (List.Mem.tail _ (List.Mem.tail _ (List.Mem.tail _ (List.Mem.tail _ (List.Mem.tail _ (List.Mem.tail _ (List.Mem.tail _ (List.Mem.tail _ (List.Mem.tail _ (List.Mem.tail _ (List.Mem.tail _ (List.Mem.tail _ (List.Mem.tail _ (List.Mem.tail _ (List.Mem.tail _ (List.Mem.tail _ (List.Mem.tail _ (List.Mem.tail _ (List.Mem.tail _ (List.Mem.tail _ (List.Mem.tail _ (List.Mem.tail _ (List.Mem.tail _ (List.Mem.tail _ (List.Mem.tail _ (List.Mem.tail _ (List.Mem.tail _ (List.Mem.tail _ (List.Mem.tail _ (List.Mem.tail _ (List.Mem.tail _ (List.Mem.tail _ (List.Mem.tail _ (List.Mem.head _)))))))))))))))))))))))))))))))))))))))))) t_1330 (by decide)) (Fz_A fz_1326 (List.Mem.tail _ (List.Mem.tail _ (List.Mem.tail _ (List.Mem.tail _ (List.Mem.tail _ (List.Mem.tail _ (List.Mem.tail _ (List.Mem.tail _ (List.Mem.tail _ (List.Mem.tail _ (List.Mem.tail _ (List.Mem.tail _ (List.Mem.tail _ (List.Mem.tail _ (List.Mem.tail _ (List.Mem.tail _ (List.Mem.tail _ (List.Mem.tail _ (List.Mem.tail _ (List.Mem.tail _ (List.Mem.tail _ (List.Mem.tail _ (List.Mem.tail _ (List.Mem.tail _ (List.Mem.tail _ (List.Mem.tail _ (List.Mem.tail _ (List.Mem.tail _ (List.Mem.tail _ (List.Mem.tail _ (List.Mem.tail _ (List.Mem.tail _ (List.Mem.tail _ (List.Mem.tail _ (List.Mem.tail _ (List.Mem.tail _ (List.Mem.tail _ (List.Mem.tail _ (List.Mem.tail _ (List.Mem.tail _ (List.Mem.head _))))))))))))))))))))))))))))))))))))))))) t_1330 (by decide)) (Fz_A fz_1326 (List.Mem.tail _ (List.Mem.tail _ (List.Mem.tail _ (List.Mem.tail _ (List.Mem.tail _ (List.Mem.tail _ (List.Mem.tail _ (List.Mem.tail _ (List.Mem.tail _ (List.Mem.tail _ (List.Mem.tail _ (List.Mem.tail _ (List.Mem.tail _ (List.Mem.tail _ (List.Mem.tail _ (List.Mem.tail _ (List.Mem.tail _ (List.Mem.tail _ (List.Mem.tail _ (List.Mem.tail _ (List.Mem.tail _ (List.Mem.tail _ (List.Mem.tail _ (List.Mem.tail _ (List.Mem.tail _ (List.Mem.tail _ (List.Mem.tail _ (List.Mem.tail _ (List.Mem.tail _ (List.Mem.tail _ (List.Mem.tail _ (List.Mem.tail _ (List.Mem.tail _ (List.Mem.tail _ (List.Mem.tail _ (List.Mem.tail _ (List.Mem.tail _ (List.Mem.tail _ (List.Mem.tail _ (List.Mem.head _)))))))))))))))))))))))))))))))))))))))) t_1330 (by decide)) (Fz_A fz_1326 (List.Mem.tail _ (List.Mem.tail _ (List.Mem.tail _ (List.Mem.tail _ (List.Mem.tail _ (List.Mem.tail _ (List.Mem.tail _ (List.Mem.tail _ (List.Mem.tail _ (List.Mem.tail _ (List.Mem.tail _ (List.Mem.tail _ (List.Mem.tail _ (List.Mem.tail _ (List.Mem.tail _ (List.Mem.tail _ (List.Mem.tail _ (List.Mem.tail _ (List.Mem.tail _ (List.Mem.tail _ (List.Mem.tail _ (List.Mem.tail _ (List.Mem.tail _ (List.Mem.tail _ (List.Mem.tail _ (List.Mem.tail _ (List.Mem.tail _ (List.Mem.tail _ (List.Mem.tail _ (List.Mem.tail _ (List.Mem.tail _ (List.Mem.tail _ (List.Mem.tail _ (List.Mem.tail _ (List.Mem.tail _ (List.Mem.tail _ (List.Mem.tail _ (List.Mem.tail _ (List.Mem.head _))))))))))))))))))))))))))))))))))))))) t_1330 (by decide)) (Fe_A fd_1327 (List.Mem.tail _ (List.Mem.head _)) t_1330 (by decide)) (Fz_A fz_1326 (List.Mem.tail _ (List.Mem.tail _ (List.Mem.tail _ (List.Mem.tail _ (List.Mem.tail _ (List.Mem.tail _ (List.Mem.tail _ (List.Mem.tail _ (List.Mem.tail _ (List.Mem.tail _ (List.Mem.tail _ (List.Mem.tail _ (List.Mem.tail _ (List.Mem.tail _ (List.Mem.tail _ (List.Mem.tail _ (List.Mem.tail _ (List.Mem.tail _ (List.Mem.tail _ (List.Mem.tail _ (List.Mem.tail _ (List.Mem.tail _ (List.Mem.tail _ (List.Mem.tail _ (List.Mem.tail _ (List.Mem.tail _ (List.Mem.tail _ (List.Mem.tail _ (List.Mem.tail _ (List.Mem.tail _ (List.Mem.tail _ (List.Mem.tail _ (List.Mem.tail _ (List.Mem.tail _ (List.Mem.tail _ (List.Mem.tail _ (List.Mem.tail _ (List.Mem.head _)))))))))))))))))))))))))))))))))))))) t_1330 (by decide)) (Fz_A fz_1326 (List.Mem.tail _ (List.Mem.tail _ (List.Mem.tail _ (List.Mem.tail _ (List.Mem.tail _ (List.Mem.tail _ (List.Mem.tail _ (List.Mem.tail _ (List.Mem.tail _ (List.Mem.tail _ (List.Mem.tail _ (List.Mem.tail _ (List.Mem.tail _ (List.Mem.tail _ (List.Mem.tail _ (List.Mem.tail _ (List.Mem.tail _ (List.Mem.tail _ (List.Mem.tail _ (List.Mem.tail _ (List.Mem.tail _ (List.Mem.tail _ (List.Mem.tail _ (List.Mem.tail _ (List.Mem.tail _ (List.Mem.tail _ (List.Mem.tail _ (List.Mem.tail _ (List.Mem.tail _ (List.Mem.tail _ (List.Mem.tail _ (List.Mem.tail _ (List.Mem.tail _ (List.Mem.tail _ (List.Mem.tail _ (List.Mem.tail _ (List.Mem.head _))))))))))))))))))))))))))))))))))))) t_1330 (by decide)) (Fz_A fz_1326 (List.Mem.tail _ (List.Mem.tail _ (List.Mem.tail _ (List.Mem.tail _ (List.Mem.tail _ (List.Mem.tail _ (List.Mem.tail _ (List.Mem.tail _ (List.Mem.tail _ (List.Mem.tail _ (List.Mem.tail _ (List.Mem.tail _ (List.Mem.tail _ (List.Mem.tail _ (List.Mem.tail _ (List.Mem.tail _ (List.Mem.tail _ (List.Mem.tail _ (List.Mem.tail _ (List.Mem.tail _ (List.Mem.tail _ (List.Mem.tail _ (List.Mem.tail _ (List.Mem.tail _ (List.Mem.tail _ (List.Mem.tail _ (List.Mem.tail _ (List.Mem.tail _ (List.Mem.tail _ (List.Mem.tail _ (List.Mem.tail _ (List.Mem.tail _ (List.Mem.tail _ (List.Mem.tail _ (List.Mem.tail _ (List.Mem.head _)))))))))))))))))))))))))))))))))))) t_1330 (by decide)) (Fz_A fz_1326 (List.Mem.tail _ (List.Mem.tail _ (List.Mem.tail _ (List.Mem.tail _ (List.Mem.tail _ (List.Mem.tail _ (List.Mem.tail _ (List.Mem.tail _ (List.Mem.tail _ (List.Mem.tail _ (List.Mem.tail _ (List.Mem.tail _ (List.Mem.tail _ (List.Mem.tail _ (List.Mem.tail _ (List.Mem.tail _ (List.Mem.tail _ (List.Mem.tail _ (List.Mem.tail _ (List.Mem.tail _ (List.Mem.tail _ (List.Mem.tail _ (List.Mem.tail _ (List.Mem.tail _ (List.Mem.tail _ (List.Mem.tail _ (List.Mem.tail _ (List.Mem.tail _ (List.Mem.tail _ (List.Mem.tail _ (List.Mem.tail _ (List.Mem.tail _ (List.Mem.tail _ (List.Mem.tail _ (List.Mem.head _))))))))))))))))))))))))))))))))))) t_1330 (by decide)) (Fz_A fz_1326 (List.Mem.tail _ (List.Mem.tail _ (List.Mem.tail _ (List.Mem.tail _ (List.Mem.tail _ (List.Mem.tail _ (List.Mem.tail _ (List.Mem.tail _ (List.Mem.tail _ (List.Mem.tail _ (List.Mem.tail _ (List.Mem.tail _ (List.Mem.tail _ (List.Mem.tail _ (List.Mem.tail _ (List.Mem.tail _ (List.Mem.tail _ (List.Mem.tail _ (List.Mem.tail _ (List.Mem.tail _ (List.Mem.tail _ (List.Mem.tail _ (List.Mem.tail _ (List.Mem.tail _ (List.Mem.tail _ (List.Mem.tail _ (List.Mem.tail _ (List.Mem.tail _ (List.Mem.tail _ (List.Mem.tail _ (List.Mem.tail _ (List.Mem.tail _ (List.Mem.tail _ (List.Mem.head _)))))))))))))))))))))))))))))))))) t_1330 (by decide)) (Fz_A fz_1326 (List.Mem.tail _ (List.Mem.tail _ (List.Mem.tail _ (List.Mem.tail _ (List.Mem.tail _ (List.Mem.tail _ (List.Mem.tail _ (List.Mem.tail _ (List.Mem.tail _ (List.Mem.tail _ (List.Mem.tail _ (List.Mem.tail _ (List.Mem.tail _ (List.Mem.tail _ (List.Mem.tail _ (List.Mem.tail _ (List.Mem.tail _ (List.Mem.tail _ (List.Mem.tail _ (List.Mem.tail _ (List.Mem.tail _ (List.Mem.tail _ (List.Mem.tail _ (List.Mem.tail _ (List.Mem.tail _ (List.Mem.tail _ (List.Mem.tail _ (List.Mem.tail _ (List.Mem.tail _ (List.Mem.tail _ (List.Mem.tail _ (List.Mem.tail _ (List.Mem.head _))))))))))))))))))))))))))))))))) t_1330 (by decide)) (Fz_A fz_1326 (List.Mem.tail _ (List.Mem.tail _ (List.Mem.tail _ (List.Mem.tail _ (List.Mem.tail _ (List.Mem.tail _ (List.Mem.tail _ (List.Mem.tail _ (List.Mem.tail _ (List.Mem.tail _ (List.Mem.tail _ (List.Mem.tail _ (List.Mem.tail _ (List.Mem.tail _ (List.Mem.tail _ (List.Mem.tail _ (List.Mem.tail _ (List.Mem.tail _ (List.Mem.tail _ (List.Mem.tail _ (List.Mem.tail _ (List.Mem.tail _ (List.Mem.tail _ (List.Mem.tail _ (List.Mem.tail _ (List.Mem.tail _ (List.Mem.tail _ (List.Mem.tail _ (List.Mem.tail _ (List.Mem.tail _ (List.Mem.tail _ (List.Mem.head _)))))))))))))))))))))))))))))))) t_1330 (by decide)) (Fz_A fz_1326 (List.Mem.tail _ (List.Mem.tail _ (List.Mem.tail _ (List.Mem.tail _ (List.Mem.tail _ (List.Mem.tail _ (List.Mem.tail _ (List.Mem.tail _ (List.Mem.tail _ (List.Mem.tail _ (List.Mem.tail _ (List.Mem.tail _ (List.Mem.tail _ (List.Mem.tail _ (List.Mem.tail _ (List.Mem.tail _ (List.Mem.tail _ (List.Mem.tail _ (List.Mem.tail _ (List.Mem.tail _ (List.Mem.tail _ (List.Mem.tail _ (List.Mem.tail _ (List.Mem.tail _ (List.Mem.tail _ (List.Mem.tail _ (List.Mem.tail _ (List.Mem.tail _ (List.Mem.tail _ (List.Mem.tail _ (List.Mem.head _))))))))))))))))))))))))))))))) t_1330 (by decide)) (Fz_A fz_1326 (List.Mem.tail _ (List.Mem.tail _ (List.Mem.tail _ (List.Mem.tail _ (List.Mem.tail _ (List.Mem.tail _ (List.Mem.tail _ (List.Mem.tail _ (List.Mem.tail _ (List.Mem.tail _ (List.Mem.tail _ (List.Mem.tail _ (List.Mem.tail _ (List.Mem.tail _ (List.Mem.tail _ (List.Mem.tail _ (List.Mem.tail _ (List.Mem.tail _ (List.Mem.tail _ (List.Mem.tail _ (List.Mem.tail _ (List.Mem.tail _ (List.Mem.tail _ (List.Mem.tail _ (List.Mem.tail _ (List.Mem.tail _ (List.Mem.tail _ (List.Mem.tail _ (List.Mem.tail _ (List.Mem.head _)))))))))))))))))))))))))))))) t_1330 (by decide)) (Fz_A fz_1326 (List.Mem.tail _ (List.Mem.tail _ (List.Mem.tail _ (List.Mem.tail _ (List.Mem.tail _ (List.Mem.tail _ (List.Mem.tail _ (List.Mem.tail _ (List.Mem.tail _ (List.Mem.tail _ (List.Mem.tail _ (List.Mem.tail _ (List.Mem.tail _ (List.Mem.tail _ (List.Mem.tail _ (List.Mem.tail _ (List.Mem.tail _ (List.Mem.tail _ (List.Mem.tail _ (List.Mem.tail _ (List.Mem.tail _ (List.Mem.tail _ (List.Mem.tail _ (List.Mem.tail _ (List.Mem.tail _ (List.Mem.tail _ (List.Mem.tail _ (List.Mem.tail _ (List.Mem.head _))))))))))))))))))))))))))))) t_1330 (by decide)) (Fz_A fz_1326 (List.Mem.tail _ (List.Mem.tail _ (List.Mem.tail _ (List.Mem.tail _ (List.Mem.tail _ (List.Mem.tail _ (List.Mem.tail _ (List.Mem.tail _ (List.Mem.tail _ (List.Mem.tail _ (List.Mem.tail _ (List.Mem.tail _ (List.Mem.tail _ (List.Mem.tail _ (List.Mem.tail _ (List.Mem.tail _ (List.Mem.tail _ (List.Mem.tail _ (List.Mem.tail _ (List.Mem.tail _ (List.Mem.tail _ (List.Mem.tail _ (List.Mem.tail _ (List.Mem.tail _ (List.Mem.tail _ (List.Mem.tail _ (List.Mem.tail _ (List.Mem.head _)))))))))))))))))))))))))))) t_1330 (by decide)) (Fz_A fz_1326 (List.Mem.tail _ (List.Mem.tail _ (List.Mem.tail _ (List.Mem.tail _ (List.Mem.tail _ (List.Mem.tail _ (List.Mem.tail _ (List.Mem.tail _ (List.Mem.tail _ (List.Mem.tail _ (List.Mem.tail _ (List.Mem.tail _ (List.Mem.tail _ (List.Mem.tail _ (List.Mem.tail _ (List.Mem.tail _ (List.Mem.tail _ (List.Mem.tail _ (List.Mem.tail _ (List.Mem.tail _ (List.Mem.tail _ (List.Mem.tail _ (List.Mem.tail _ (List.Mem.tail _ (List.Mem.tail _ (List.Mem.tail _ (List.Mem.head _))))))))))))))))))))))))))) t_1330 (by decide)) (Fz_A fz_1326 (List.Mem.tail _ (List.Mem.tail _ (List.Mem.tail _ (List.Mem.tail _ (List.Mem.tail _ (List.Mem.tail _ (List.Mem.tail _ (List.Mem.tail _ (List.Mem.tail _ (List.Mem.tail _ (List.Mem.tail _ (List.Mem.tail _ (List.Mem.tail _ (List.Mem.tail _ (List.Mem.tail _ (List.Mem.tail _ (List.Mem.tail _ (List.Mem.tail _ (List.Mem.tail _ (List.Mem.tail _ (List.Mem.tail _ (List.Mem.tail _ (List.Mem.tail _ (List.Mem.tail _ (List.Mem.tail _ (List.Mem.head _)))))))))))))))))))))))))) t_1330 (by decide)) (Fz_A fz_1326 (List.Mem.tail _ (List.Mem.tail _ (List.Mem.tail _ (List.Mem.tail _ (List.Mem.tail _ (List.Mem.tail _ (List.Mem.tail _ (List.Mem.tail _ (List.Mem.tail _ (List.Mem.tail _ (List.Mem.tail _ (List.Mem.tail _ (List.Mem.tail _ (List.Mem.tail _ (List.Mem.tail _ (List.Mem.tail _ (List.Mem.tail _ (List.Mem.tail _ (List.Mem.tail _ (List.Mem.tail _ (List.Mem.tail _ (List.Mem.tail _ (List.Mem.tail _ (List.Mem.tail _ (List.Mem.head _))))))))))))))))))))))))) t_1330 (by decide)) (Fz_A fz_1326 (List.Mem.tail _ (List.Mem.tail _ (List.Mem.tail _ (List.Mem.tail _ (List.Mem.tail _ (List.Mem.tail _ (List.Mem.tail _ (List.Mem.tail _ (List.Mem.tail _ (List.Mem.tail _ (List.Mem.tail _ (List.Mem.tail _ (List.Mem.tail _ (List.Mem.tail _ (List.Mem.tail _ (List.Mem.tail _ (List.Mem.tail _ (List.Mem.tail _ (List.Mem.tail _ (List.Mem.tail _ (List.Mem.tail _ (List.Mem.tail _ (List.Mem.tail _ (List.Mem.head _)))))))))))))))))))))))) t_1330 (by decide)) (Fz_A fz_1326 (List.Mem.tail _ (List.Mem.tail _ (List.Mem.tail _ (List.Mem.tail _ (List.Mem.tail _ (List.Mem.tail _ (List.Mem.tail _ (List.Mem.tail _ (List.Mem.tail _ (List.Mem.tail _ (List.Mem.tail _ (List.Mem.tail _ (List.Mem.tail _ (List.Mem.tail _ (List.Mem.tail _ (List.Mem.tail _ (List.Mem.tail _ (List.Mem.tail _ (List.Mem.tail _ (List.Mem.tail _ (List.Mem.tail _ (List.Mem.tail _ (List.Mem.head _))))))))))))))))))))))) t_1330 (by decide)) (Fz_A fz_1326 (List.Mem.tail _ (List.Mem.tail _ (List.Mem.tail _ (List.Mem.tail _ (List.Mem.tail _ (List.Mem.tail _ (List.Mem.tail _ (List.Mem.tail _ (List.Mem.tail _ (List.Mem.tail _ (List.Mem.tail _ (List.Mem.tail _ (List.Mem.tail _ (List.Mem.tail _ (List.Mem.tail _ (List.Mem.tail _ (List.Mem.tail _ (List.Mem.tail _ (List.Mem.tail _ (List.Mem.tail _ (List.Mem.tail _ (List.Mem.head _)))))))))))))))))))))) t_1330 (by decide)) (Fz_A fz_1326 (List.Mem.tail _ (List.Mem.tail _ (List.Mem.tail _ (List.Mem.tail _ (List.Mem.tail _ (List.Mem.tail _ (List.Mem.tail _ (List.Mem.tail _ (List.Mem.tail _ (List.Mem.tail _ (List.Mem.tail _ (List.Mem.tail _ (List.Mem.tail _ (List.Mem.tail _ (List.Mem.tail _ (List.Mem.tail _ (List.Mem.tail _ (List.Mem.tail _ (List.Mem.tail _ (List.Mem.tail _ (List.Mem.head _))))))))))))))))))))) t_1330 (by decide)) (Fz_A fz_1326 (List.Mem.tail _ (List.Mem.tail _ (List.Mem.tail _ (List.Mem.tail _ (List.Mem.tail _ (List.Mem.tail _ (List.Mem.tail _ (List.Mem.tail _ (List.Mem.tail _ (List.Mem.tail _ (List.Mem.tail _ (List.Mem.tail _ (List.Mem.tail _ (List.Mem.tail _ (List.Mem.tail _ (List.Mem.tail _ (List.Mem.tail _ (List.Mem.tail _ (List.Mem.tail _ (List.Mem.head _)))))))))))))))))))) t_1330 (by decide)) (Fz_A fz_1326 (List.Mem.tail _ (List.Mem.tail _ (List.Mem.tail _ (List.Mem.tail _ (List.Mem.tail _ (List.Mem.tail _ (List.Mem.tail _ (List.Mem.tail _ (List.Mem.tail _ (List.Mem.tail _ (List.Mem.tail _ (List.Mem.tail _ (List.Mem.tail _ (List.Mem.tail _ (List.Mem.tail _ (List.Mem.tail _ (List.Mem.tail _ (List.Mem.tail _ (List.Mem.head _))))))))))))))))))) t_1330 (by decide)) (Fz_A fz_1326 (List.Mem.tail _ (List.Mem.tail _ (List.Mem.tail _ (List.Mem.tail _ (List.Mem.tail _ (List.Mem.tail _ (List.Mem.tail _ (List.Mem.tail _ (List.Mem.tail _ (List.Mem.tail _ (List.Mem.tail _ (List.Mem.tail _ (List.Mem.tail _ (List.Mem.tail _ (List.Mem.tail _ (List.Mem.tail _ (List.Mem.tail _ (List.Mem.head _)))))))))))))))))) t_1330 (by decide)) (Fz_A fz_1326 (List.Mem.tail _ (List.Mem.tail _ (List.Mem.tail _ (List.Mem.tail _ (List.Mem.tail _ (List.Mem.tail _ (List.Mem.tail _ (List.Mem.tail _ (List.Mem.tail _ (List.Mem.tail _ (List.Mem.tail _ (List.Mem.tail _ (List.Mem.tail _ (List.Mem.tail _ (List.Mem.tail _ (List.Mem.tail _ (List.Mem.head _))))))))))))))))) t_1330 (by decide)) (Fz_A fz_1326 (List.Mem.tail _ (List.Mem.tail _ (List.Mem.tail _ (List.Mem.tail _ (List.Mem.tail _ (List.Mem.tail _ (List.Mem.tail _ (List.Mem.tail _ (List.Mem.tail _ (List.Mem.tail _ (List.Mem.tail _ (List.Mem.tail _ (List.Mem.tail _ (List.Mem.tail _ (List.Mem.tail _ (List.Mem.head _)))))))))))))))) t_1330 (by decide)) (Fz_A fz_1326 (List.Mem.tail _ (List.Mem.tail _ (List.Mem.tail _ (List.Mem.tail _ (List.Mem.tail _ (List.Mem.tail _ (List.Mem.tail _ (List.Mem.tail _ (List.Mem.tail _ (List.Mem.tail _ (List.Mem.tail _ (List.Mem.tail _ (List.Mem.tail _ (List.Mem.tail _ (List.Mem.head _))))))))))))))) t_1330 (by decide)) (Fz_A fz_1326 (List.Mem.tail _ (List.Mem.tail _ (List.Mem.tail _ (List.Mem.tail _ (List.Mem.tail _ (List.Mem.tail _ (List.Mem.tail _ (List.Mem.tail _ (List.Mem.tail _ (List.Mem.tail _ (List.Mem.tail _ (List.Mem.tail _ (List.Mem.tail _ (List.Mem.head _)))))))))))))) t_1330 (by decide)) (Fe_A fd_1327 (List.Mem.head _) t_1330 (by decide)) (Fz_A fz_1326 (List.Mem.tail _ (List.Mem.tail _ (List.Mem.tail _ (List.Mem.tail _ (List.Mem.tail _ (List.Mem.tail _ (List.Mem.tail _ (List.Mem.tail _ (List.Mem.tail _ (List.Mem.tail _ (List.Mem.tail _ (List.Mem.tail _ (List.Mem.head _))))))))))))) t_1330 (by decide)) (Fz_A fz_1326 (List.Mem.tail _ (List.Mem.tail _ (List.Mem.tail _ (List.Mem.tail _ (List.Mem.tail _ (List.Mem.tail _ (List.Mem.tail _ (List.Mem.tail _ (List.Mem.tail _ (List.Mem.tail _ (List.Mem.tail _ (List.Mem.head _)))))))))))) t_1330 (by decide)) (Fz_A fz_1326 (List.Mem.tail _ (List.Mem.tail _ (List.Mem.tail _ (List.Mem.tail _ (List.Mem.tail _ (List.Mem.tail _ (List.Mem.tail _ (List.Mem.tail _ (List.Mem.tail _ (List.Mem.tail _ (List.Mem.head _))))))))))) t_1330 (by decide)) (Fz_A fz_1326 (List.Mem.tail _ (List.Mem.tail _ (List.Mem.tail _ (List.Mem.tail _ (List.Mem.tail _ (List.Mem.tail _ (List.Mem.tail _ (List.Mem.tail _ (List.Mem.tail _ (List.Mem.head _)))))))))) t_1330 (by decide)) (Fz_A fz_1326 (List.Mem.tail _ (List.Mem.tail _ (List.Mem.tail _ (List.Mem.tail _ (List.Mem.tail _ (List.Mem.tail _ (List.Mem.tail _ (List.Mem.tail _ (List.Mem.head _))))))))) t_1330 (by decide)) (Fz_A fz_1326 (List.Mem.tail _ (List.Mem.tail _ (List.Mem.tail _ (List.Mem.tail _ (List.Mem.tail _ (List.Mem.tail _ (List.Mem.tail _ (List.Mem.head _)))))))) t_1330 (by decide)) (Fz_A fz_1326 (List.Mem.tail _ (List.Mem.tail _ (List.Mem.tail _ (List.Mem.tail _ (List.Mem.tail _ (List.Mem.tail _ (List.Mem.head _))))))) t_1330 (by decide)) (Fz_A fz_1326 (List.Mem.tail _ (List.Mem.tail _ (List.Mem.tail _ (List.Mem.tail _ (List.Mem.tail _ (List.Mem.head _)))))) t_1330 (by decide)) (Fz_A fz_1326 (List.Mem.tail _ (List.Mem.tail _ (List.Mem.tail _ (List.Mem.tail _ (List.Mem.head _))))) t_1330 (by decide)) (Fz_A fz_1326 (List.Mem.tail _ (List.Mem.tail _ (List.Mem.tail _ (List.Mem.head _)))) t_1330 (by decide)) (Fz_A fz_1326 (List.Mem.tail _ (List.Mem.tail _ (List.Mem.head _))) t_1330 (by decide)) (Fz_A fz_1326 (List.Mem.tail _ (List.Mem.head _)) t_1330 (by decide)) (Fz_A fz_1326 (List.Mem.head _) t_1330 (by decide)))
  have ha9 : At S_1332 x 12 := by rw [eS_1332]; exact At_nK t_1330
  have hk9 : Kq S S_1332 x := hK_1323.sK eS_1332
  have hPhc9 : Phc S_1332 = Phc S + 0 := by rw [show Phc S_1332 = Ph fC 8 14400 S_1332 from rfl, Ph_sK nd_1331 t_1330 (by decide) eS_1332, ph_0 ha9 (by decide)]; show Phc S_1320 + _ = _; omega
  have hPhs9 : Phs S_1332 = Phs S + 0 := by rw [show Phs S_1332 = Ph fS 15100 46000 S_1332 from rfl, Ph_sK nd_1331 t_1330 (by decide) eS_1332, ph_0 ha9 (by decide)]; show Phs S_1320 + _ = _; omega
  have tn_1333 : pA S_187 q_176 = (upd (pA S_177 q_176) (Int32.toNatClampNeg (0)) (100)) := by rw [eS_187]; exact if_pos rfl
  have tn_1334 : pA S_198 q_176 = (upd (pA S_187 q_176) (Int32.toNatClampNeg (1)) (104)) := by rw [eS_198]; exact if_pos rfl
  have tn_1335 : pA S_209 q_176 = (upd (pA S_198 q_176) (Int32.toNatClampNeg (2)) (102)) := by rw [eS_209]; exact if_pos rfl
  have tn_1336 : pA S_220 q_176 = (upd (pA S_209 q_176) (Int32.toNatClampNeg (3)) (97)) := by rw [eS_220]; exact if_pos rfl
  have tn_1337 : pA S_231 q_176 = (upd (pA S_220 q_176) (Int32.toNatClampNeg (4)) (90)) := by rw [eS_231]; exact if_pos rfl
  have tn_1338 : pA S_242 q_176 = (upd (pA S_231 q_176) (Int32.toNatClampNeg (5)) (81)) := by rw [eS_242]; exact if_pos rfl
  have tn_1339 : pA S_253 q_176 = (upd (pA S_242 q_176) (Int32.toNatClampNeg (6)) (70)) := by rw [eS_253]; exact if_pos rfl
  have tn_1340 : pA S_264 q_176 = (upd (pA S_253 q_176) (Int32.toNatClampNeg (7)) (58)) := by rw [eS_264]; exact if_pos rfl
  have bb_1341 : pA S_284 q_176 = pA S_264 q_176 := by rw [eS_284]; rfl
  have t_1343 : At S_284 q_176 414 := tAt_sR eS_284 t_283
  have bb_1342 : pA S_295 q_176 = pA S_264 q_176 := (show pA S_295 q_176 = pA S_284 q_176 from by rw [eS_295]; exact if_neg (ne_of_new hq_294 t_1343.1)).trans bb_1341
  have bb_1344 : pA S_307 q_176 = pA S_264 q_176 := (show pA S_307 q_176 = pA S_295 q_176 from by rw [eS_307]; rfl).trans bb_1342
  have t_1346 : At S_295 q_176 414 := by rw [eS_295]; exact At_sN t_1343 hq_294
  have t_1347 : At S_307 q_176 414 := tAt_sR eS_307 t_1346
  have bb_1345 : pA S_317 q_176 = pA S_264 q_176 := (show pA S_317 q_176 = pA S_307 q_176 from by rw [eS_317]; exact if_neg (ne_of_new hq_316 t_1347.1)).trans bb_1344
  have bb_1348 : pA S_329 q_176 = pA S_264 q_176 := (show pA S_329 q_176 = pA S_317 q_176 from by rw [eS_329]; rfl).trans bb_1345
  have t_1350 : At S_317 q_176 414 := by rw [eS_317]; exact At_sN t_1347 hq_316
  have t_1351 : At S_329 q_176 414 := tAt_sR eS_329 t_1350
  have bb_1349 : pA S_339 q_176 = pA S_264 q_176 := (show pA S_339 q_176 = pA S_329 q_176 from by rw [eS_339]; exact if_neg (ne_of_new hq_338 t_1351.1)).trans bb_1348
  have bb_1352 : pA S_351 q_176 = pA S_264 q_176 := (show pA S_351 q_176 = pA S_339 q_176 from by rw [eS_351]; rfl).trans bb_1349
  have t_1354 : At S_339 q_176 414 := by rw [eS_339]; exact At_sN t_1351 hq_338
  have t_1355 : At S_351 q_176 414 := tAt_sR eS_351 t_1354
  have bb_1353 : pA S_361 q_176 = pA S_264 q_176 := (show pA S_361 q_176 = pA S_351 q_176 from by rw [eS_361]; exact if_neg (ne_of_new hq_360 t_1355.1)).trans bb_1352
  have bb_1356 : pA S_373 q_176 = pA S_264 q_176 := (show pA S_373 q_176 = pA S_361 q_176 from by rw [eS_373]; rfl).trans bb_1353
  have t_1358 : At S_361 q_176 414 := by rw [eS_361]; exact At_sN t_1355 hq_360
  have t_1359 : At S_373 q_176 414 := tAt_sR eS_373 t_1358
  have bb_1357 : pA S_383 q_176 = pA S_264 q_176 := (show pA S_383 q_176 = pA S_373 q_176 from by rw [eS_383]; exact if_neg (ne_of_new hq_382 t_1359.1)).trans bb_1356
  have bb_1360 : pA S_395 q_176 = pA S_264 q_176 := (show pA S_395 q_176 = pA S_383 q_176 from by rw [eS_395]; rfl).trans bb_1357
  have t_1362 : At S_383 q_176 414 := by rw [eS_383]; exact At_sN t_1359 hq_382
  have t_1363 : At S_395 q_176 414 := tAt_sR eS_395 t_1362
  have bb_1361 : pA S_405 q_176 = pA S_264 q_176 := (show pA S_405 q_176 = pA S_395 q_176 from by rw [eS_405]; exact if_neg (ne_of_new hq_404 t_1363.1)).trans bb_1360
  have bb_1364 : pA S_417 q_176 = pA S_264 q_176 := (show pA S_417 q_176 = pA S_405 q_176 from by rw [eS_417]; rfl).trans bb_1361
  have t_1366 : At S_405 q_176 414 := by rw [eS_405]; exact At_sN t_1363 hq_404
  have t_1367 : At S_417 q_176 414 := tAt_sR eS_417 t_1366
  have bb_1365 : pA S_427 q_176 = pA S_264 q_176 := (show pA S_427 q_176 = pA S_417 q_176 from by rw [eS_427]; exact if_neg (ne_of_new hq_426 t_1367.1)).trans bb_1364
  have bb_1368 : pA S_439 q_176 = pA S_264 q_176 := (show pA S_439 q_176 = pA S_427 q_176 from by rw [eS_439]; rfl).trans bb_1365
  have t_1370 : At S_427 q_176 414 := by rw [eS_427]; exact At_sN t_1367 hq_426
  have t_1371 : At S_439 q_176 414 := tAt_sR eS_439 t_1370
  have bb_1369 : pA S_449 q_176 = pA S_264 q_176 := (show pA S_449 q_176 = pA S_439 q_176 from by rw [eS_449]; exact if_neg (ne_of_new hq_448 t_1371.1)).trans bb_1368
  have bb_1372 : pA S_461 q_176 = pA S_264 q_176 := (show pA S_461 q_176 = pA S_449 q_176 from by rw [eS_461]; rfl).trans bb_1369
  have t_1374 : At S_449 q_176 414 := by rw [eS_449]; exact At_sN t_1371 hq_448
  have t_1375 : At S_461 q_176 414 := tAt_sR eS_461 t_1374
  have bb_1373 : pA S_471 q_176 = pA S_264 q_176 := (show pA S_471 q_176 = pA S_461 q_176 from by rw [eS_471]; exact if_neg (ne_of_new hq_470 t_1375.1)).trans bb_1372
  have bb_1376 : pA S_483 q_176 = pA S_264 q_176 := (show pA S_483 q_176 = pA S_471 q_176 from by rw [eS_483]; rfl).trans bb_1373
  have t_1378 : At S_471 q_176 414 := by rw [eS_471]; exact At_sN t_1375 hq_470
  have t_1379 : At S_483 q_176 414 := tAt_sR eS_483 t_1378
  have bb_1377 : pA S_493 q_176 = pA S_264 q_176 := (show pA S_493 q_176 = pA S_483 q_176 from by rw [eS_493]; exact if_neg (ne_of_new hq_492 t_1379.1)).trans bb_1376
  have bb_1380 : pA S_505 q_176 = pA S_264 q_176 := (show pA S_505 q_176 = pA S_493 q_176 from by rw [eS_505]; rfl).trans bb_1377
  have t_1382 : At S_493 q_176 414 := by rw [eS_493]; exact At_sN t_1379 hq_492
  have t_1383 : At S_505 q_176 414 := tAt_sR eS_505 t_1382
  have bb_1381 : pA S_515 q_176 = pA S_264 q_176 := (show pA S_515 q_176 = pA S_505 q_176 from by rw [eS_515]; exact if_neg (ne_of_new hq_514 t_1383.1)).trans bb_1380
  have bb_1384 : pA S_527 q_176 = pA S_264 q_176 := (show pA S_527 q_176 = pA S_515 q_176 from by rw [eS_527]; rfl).trans bb_1381
  have t_1386 : At S_515 q_176 414 := by rw [eS_515]; exact At_sN t_1383 hq_514
  have t_1387 : At S_527 q_176 414 := tAt_sR eS_527 t_1386
  have bb_1385 : pA S_537 q_176 = pA S_264 q_176 := (show pA S_537 q_176 = pA S_527 q_176 from by rw [eS_537]; exact if_neg (ne_of_new hq_536 t_1387.1)).trans bb_1384
  have bb_1388 : pA S_549 q_176 = pA S_264 q_176 := (show pA S_549 q_176 = pA S_537 q_176 from by rw [eS_549]; rfl).trans bb_1385
  have t_1390 : At S_537 q_176 414 := by rw [eS_537]; exact At_sN t_1387 hq_536
  have t_1391 : At S_549 q_176 414 := tAt_sR eS_549 t_1390
  have bb_1389 : pA S_559 q_176 = pA S_264 q_176 := (show pA S_559 q_176 = pA S_549 q_176 from by rw [eS_559]; exact if_neg (ne_of_new hq_558 t_1391.1)).trans bb_1388
  have bb_1392 : pA S_571 q_176 = pA S_264 q_176 := (show pA S_571 q_176 = pA S_559 q_176 from by rw [eS_571]; rfl).trans bb_1389
  have t_1394 : At S_559 q_176 414 := by rw [eS_559]; exact At_sN t_1391 hq_558
  have t_1395 : At S_571 q_176 414 := tAt_sR eS_571 t_1394
  have bb_1393 : pA S_581 q_176 = pA S_264 q_176 := (show pA S_581 q_176 = pA S_571 q_176 from by rw [eS_581]; exact if_neg (ne_of_new hq_580 t_1395.1)).trans bb_1392
  have bb_1396 : pA S_593 q_176 = pA S_264 q_176 := (show pA S_593 q_176 = pA S_581 q_176 from by rw [eS_593]; rfl).trans bb_1393
  have t_1398 : At S_581 q_176 414 := by rw [eS_581]; exact At_sN t_1395 hq_580
  have t_1399 : At S_593 q_176 414 := tAt_sR eS_593 t_1398
  have bb_1397 : pA S_603 q_176 = pA S_264 q_176 := (show pA S_603 q_176 = pA S_593 q_176 from by rw [eS_603]; exact if_neg (ne_of_new hq_602 t_1399.1)).trans bb_1396
  have bb_1400 : pA S_615 q_176 = pA S_264 q_176 := (show pA S_615 q_176 = pA S_603 q_176 from by rw [eS_615]; rfl).trans bb_1397
  have t_1402 : At S_603 q_176 414 := by rw [eS_603]; exact At_sN t_1399 hq_602
  have t_1403 : At S_615 q_176 414 := tAt_sR eS_615 t_1402
  have bb_1401 : pA S_625 q_176 = pA S_264 q_176 := (show pA S_625 q_176 = pA S_615 q_176 from by rw [eS_625]; exact if_neg (ne_of_new hq_624 t_1403.1)).trans bb_1400
  have bb_1404 : pA S_637 q_176 = pA S_264 q_176 := (show pA S_637 q_176 = pA S_625 q_176 from by rw [eS_637]; rfl).trans bb_1401
  have bb_1405 : pA S_647 q_176 = pA S_264 q_176 := (show pA S_647 q_176 = pA S_637 q_176 from by rw [eS_647]; rfl).trans bb_1404
  have t_1407 : At S_625 q_176 414 := by rw [eS_625]; exact At_sN t_1403 hq_624
  have t_1408 : At S_637 q_176 414 := tAt_sR eS_637 t_1407
  have t_1409 : At S_647 q_176 414 := tAt_sI eS_647 t_1408
  have bb_1406 : pA S_657 q_176 = pA S_264 q_176 := (show pA S_657 q_176 = pA S_647 q_176 from by rw [eS_657]; exact if_neg (ne_of_new hq_656 t_1409.1)).trans bb_1405
  have bb_1410 : pA S_669 q_176 = pA S_264 q_176 := (show pA S_669 q_176 = pA S_657 q_176 from by rw [eS_669]; rfl).trans bb_1406
  have t_1412 : At S_657 q_176 414 := by rw [eS_657]; exact At_sN t_1409 hq_656
  have t_1413 : At S_669 q_176 414 := tAt_sR eS_669 t_1412
  have bb_1411 : pA S_679 q_176 = pA S_264 q_176 := (show pA S_679 q_176 = pA S_669 q_176 from by rw [eS_679]; exact if_neg (ne_of_new hq_678 t_1413.1)).trans bb_1410
  have bb_1414 : pA S_691 q_176 = pA S_264 q_176 := (show pA S_691 q_176 = pA S_679 q_176 from by rw [eS_691]; rfl).trans bb_1411
  have t_1416 : At S_679 q_176 414 := by rw [eS_679]; exact At_sN t_1413 hq_678
  have t_1417 : At S_691 q_176 414 := tAt_sR eS_691 t_1416
  have bb_1415 : pA S_701 q_176 = pA S_264 q_176 := (show pA S_701 q_176 = pA S_691 q_176 from by rw [eS_701]; exact if_neg (ne_of_new hq_700 t_1417.1)).trans bb_1414
  have bb_1418 : pA S_713 q_176 = pA S_264 q_176 := (show pA S_713 q_176 = pA S_701 q_176 from by rw [eS_713]; rfl).trans bb_1415
  have t_1420 : At S_701 q_176 414 := by rw [eS_701]; exact At_sN t_1417 hq_700
  have t_1421 : At S_713 q_176 414 := tAt_sR eS_713 t_1420
  have bb_1419 : pA S_723 q_176 = pA S_264 q_176 := (show pA S_723 q_176 = pA S_713 q_176 from by rw [eS_723]; exact if_neg (ne_of_new hq_722 t_1421.1)).trans bb_1418
  have bb_1422 : pA S_735 q_176 = pA S_264 q_176 := (show pA S_735 q_176 = pA S_723 q_176 from by rw [eS_735]; rfl).trans bb_1419
  have t_1424 : At S_723 q_176 414 := by rw [eS_723]; exact At_sN t_1421 hq_722
  have t_1425 : At S_735 q_176 414 := tAt_sR eS_735 t_1424
  have bb_1423 : pA S_745 q_176 = pA S_264 q_176 := (show pA S_745 q_176 = pA S_735 q_176 from by rw [eS_745]; exact if_neg (ne_of_new hq_744 t_1425.1)).trans bb_1422
  have bb_1426 : pA S_757 q_176 = pA S_264 q_176 := (show pA S_757 q_176 = pA S_745 q_176 from by rw [eS_757]; rfl).trans bb_1423
  have t_1428 : At S_745 q_176 414 := by rw [eS_745]; exact At_sN t_1425 hq_744
  have t_1429 : At S_757 q_176 414 := tAt_sR eS_757 t_1428
  have bb_1427 : pA S_767 q_176 = pA S_264 q_176 := (show pA S_767 q_176 = pA S_757 q_176 from by rw [eS_767]; exact if_neg (ne_of_new hq_766 t_1429.1)).trans bb_1426
  have bb_1430 : pA S_779 q_176 = pA S_264 q_176 := (show pA S_779 q_176 = pA S_767 q_176 from by rw [eS_779]; rfl).trans bb_1427
  have t_1432 : At S_767 q_176 414 := by rw [eS_767]; exact At_sN t_1429 hq_766
  have t_1433 : At S_779 q_176 414 := tAt_sR eS_779 t_1432
  have bb_1431 : pA S_789 q_176 = pA S_264 q_176 := (show pA S_789 q_176 = pA S_779 q_176 from by rw [eS_789]; exact if_neg (ne_of_new hq_788 t_1433.1)).trans bb_1430
  have bb_1434 : pA S_801 q_176 = pA S_264 q_176 := (show pA S_801 q_176 = pA S_789 q_176 from by rw [eS_801]; rfl).trans bb_1431
  have t_1436 : At S_789 q_176 414 := by rw [eS_789]; exact At_sN t_1433 hq_788
  have t_1437 : At S_801 q_176 414 := tAt_sR eS_801 t_1436
  have bb_1435 : pA S_811 q_176 = pA S_264 q_176 := (show pA S_811 q_176 = pA S_801 q_176 from by rw [eS_811]; exact if_neg (ne_of_new hq_810 t_1437.1)).trans bb_1434
  have bb_1438 : pA S_823 q_176 = pA S_264 q_176 := (show pA S_823 q_176 = pA S_811 q_176 from by rw [eS_823]; rfl).trans bb_1435
  have t_1440 : At S_811 q_176 414 := by rw [eS_811]; exact At_sN t_1437 hq_810
  have t_1441 : At S_823 q_176 414 := tAt_sR eS_823 t_1440
  have bb_1439 : pA S_833 q_176 = pA S_264 q_176 := (show pA S_833 q_176 = pA S_823 q_176 from by rw [eS_833]; exact if_neg (ne_of_new hq_832 t_1441.1)).trans bb_1438
  have bb_1442 : pA S_845 q_176 = pA S_264 q_176 := (show pA S_845 q_176 = pA S_833 q_176 from by rw [eS_845]; rfl).trans bb_1439
  have t_1444 : At S_833 q_176 414 := by rw [eS_833]; exact At_sN t_1441 hq_832
  have t_1445 : At S_845 q_176 414 := tAt_sR eS_845 t_1444
  have bb_1443 : pA S_855 q_176 = pA S_264 q_176 := (show pA S_855 q_176 = pA S_845 q_176 from by rw [eS_855]; exact if_neg (ne_of_new hq_854 t_1445.1)).trans bb_1442
  have bb_1446 : pA S_867 q_176 = pA S_264 q_176 := (show pA S_867 q_176 = pA S_855 q_176 from by rw [eS_867]; rfl).trans bb_1443
  have t_1448 : At S_855 q_176 414 := by rw [eS_855]; exact At_sN t_1445 hq_854
  have t_1449 : At S_867 q_176 414 := tAt_sR eS_867 t_1448
  have bb_1447 : pA S_877 q_176 = pA S_264 q_176 := (show pA S_877 q_176 = pA S_867 q_176 from by rw [eS_877]; exact if_neg (ne_of_new hq_876 t_1449.1)).trans bb_1446
  have bb_1450 : pA S_889 q_176 = pA S_264 q_176 := (show pA S_889 q_176 = pA S_877 q_176 from by rw [eS_889]; rfl).trans bb_1447
  have t_1452 : At S_877 q_176 414 := by rw [eS_877]; exact At_sN t_1449 hq_876
  have t_1453 : At S_889 q_176 414 := tAt_sR eS_889 t_1452
  have bb_1451 : pA S_899 q_176 = pA S_264 q_176 := (show pA S_899 q_176 = pA S_889 q_176 from by rw [eS_899]; exact if_neg (ne_of_new hq_898 t_1453.1)).trans bb_1450
  have bb_1454 : pA S_911 q_176 = pA S_264 q_176 := (show pA S_911 q_176 = pA S_899 q_176 from by rw [eS_911]; rfl).trans bb_1451
  have t_1456 : At S_899 q_176 414 := by rw [eS_899]; exact At_sN t_1453 hq_898
  have t_1457 : At S_911 q_176 414 := tAt_sR eS_911 t_1456
  have bb_1455 : pA S_921 q_176 = pA S_264 q_176 := (show pA S_921 q_176 = pA S_911 q_176 from by rw [eS_921]; exact if_neg (ne_of_new hq_920 t_1457.1)).trans bb_1454
  have bb_1458 : pA S_933 q_176 = pA S_264 q_176 := (show pA S_933 q_176 = pA S_921 q_176 from by rw [eS_933]; rfl).trans bb_1455
  have t_1460 : At S_921 q_176 414 := by rw [eS_921]; exact At_sN t_1457 hq_920
  have t_1461 : At S_933 q_176 414 := tAt_sR eS_933 t_1460
  have bb_1459 : pA S_943 q_176 = pA S_264 q_176 := (show pA S_943 q_176 = pA S_933 q_176 from by rw [eS_943]; exact if_neg (ne_of_new hq_942 t_1461.1)).trans bb_1458
  have bb_1462 : pA S_955 q_176 = pA S_264 q_176 := (show pA S_955 q_176 = pA S_943 q_176 from by rw [eS_955]; rfl).trans bb_1459
  have t_1464 : At S_943 q_176 414 := by rw [eS_943]; exact At_sN t_1461 hq_942
  have t_1465 : At S_955 q_176 414 := tAt_sR eS_955 t_1464
  have bb_1463 : pA S_965 q_176 = pA S_264 q_176 := (show pA S_965 q_176 = pA S_955 q_176 from by rw [eS_965]; exact if_neg (ne_of_new hq_964 t_1465.1)).trans bb_1462
  have bb_1466 : pA S_977 q_176 = pA S_264 q_176 := (show pA S_977 q_176 = pA S_965 q_176 from by rw [eS_977]; rfl).trans bb_1463
  have t_1468 : At S_965 q_176 414 := by rw [eS_965]; exact At_sN t_1465 hq_964
  have t_1469 : At S_977 q_176 414 := tAt_sR eS_977 t_1468
  have bb_1467 : pA S_987 q_176 = pA S_264 q_176 := (show pA S_987 q_176 = pA S_977 q_176 from by rw [eS_987]; exact if_neg (ne_of_new hq_986 t_1469.1)).trans bb_1466
  have bb_1470 : pA S_999 q_176 = pA S_264 q_176 := (show pA S_999 q_176 = pA S_987 q_176 from by rw [eS_999]; rfl).trans bb_1467
  have t_1472 : At S_987 q_176 414 := by rw [eS_987]; exact At_sN t_1469 hq_986
  have t_1473 : At S_999 q_176 414 := tAt_sR eS_999 t_1472
  have bb_1471 : pA S_1009 q_176 = pA S_264 q_176 := (show pA S_1009 q_176 = pA S_999 q_176 from by rw [eS_1009]; exact if_neg (ne_of_new hq_1008 t_1473.1)).trans bb_1470
  have bb_1474 : pA S_1021 q_176 = pA S_264 q_176 := (show pA S_1021 q_176 = pA S_1009 q_176 from by rw [eS_1021]; rfl).trans bb_1471
  have t_1476 : At S_1009 q_176 414 := by rw [eS_1009]; exact At_sN t_1473 hq_1008
  have t_1477 : At S_1021 q_176 414 := tAt_sR eS_1021 t_1476
  have bb_1475 : pA S_1031 q_176 = pA S_264 q_176 := (show pA S_1031 q_176 = pA S_1021 q_176 from by rw [eS_1031]; exact if_neg (ne_of_new hq_1030 t_1477.1)).trans bb_1474
  have bb_1478 : pA S_1043 q_176 = pA S_264 q_176 := (show pA S_1043 q_176 = pA S_1031 q_176 from by rw [eS_1043]; rfl).trans bb_1475
  have t_1480 : At S_1031 q_176 414 := by rw [eS_1031]; exact At_sN t_1477 hq_1030
  have t_1481 : At S_1043 q_176 414 := tAt_sR eS_1043 t_1480
  have bb_1479 : pA S_1053 q_176 = pA S_264 q_176 := (show pA S_1053 q_176 = pA S_1043 q_176 from by rw [eS_1053]; exact if_neg (ne_of_new hq_1052 t_1481.1)).trans bb_1478
  have bb_1482 : pA S_1065 q_176 = pA S_264 q_176 := (show pA S_1065 q_176 = pA S_1053 q_176 from by rw [eS_1065]; rfl).trans bb_1479
  have t_1484 : At S_1053 q_176 414 := by rw [eS_1053]; exact At_sN t_1481 hq_1052
  have t_1485 : At S_1065 q_176 414 := tAt_sR eS_1065 t_1484
  have bb_1483 : pA S_1075 q_176 = pA S_264 q_176 := (show pA S_1075 q_176 = pA S_1065 q_176 from by rw [eS_1075]; exact if_neg (ne_of_new hq_1074 t_1485.1)).trans bb_1482
  have bb_1486 : pA S_1087 q_176 = pA S_264 q_176 := (show pA S_1087 q_176 = pA S_1075 q_176 from by rw [eS_1087]; rfl).trans bb_1483
  have t_1488 : At S_1075 q_176 414 := by rw [eS_1075]; exact At_sN t_1485 hq_1074
  have t_1489 : At S_1087 q_176 414 := tAt_sR eS_1087 t_1488
  have bb_1487 : pA S_1097 q_176 = pA S_264 q_176 := (show pA S_1097 q_176 = pA S_1087 q_176 from by rw [eS_1097]; exact if_neg (ne_of_new hq_1096 t_1489.1)).trans bb_1486
  have bb_1490 : pA S_1109 q_176 = pA S_264 q_176 := (show pA S_1109 q_176 = pA S_1097 q_176 from by rw [eS_1109]; rfl).trans bb_1487
  have t_1492 : At S_1097 q_176 414 := by rw [eS_1097]; exact At_sN t_1489 hq_1096
  have t_1493 : At S_1109 q_176 414 := tAt_sR eS_1109 t_1492
  have bb_1491 : pA S_1119 q_176 = pA S_264 q_176 := (show pA S_1119 q_176 = pA S_1109 q_176 from by rw [eS_1119]; exact if_neg (ne_of_new hq_1118 t_1493.1)).trans bb_1490
  have bb_1494 : pA S_1131 q_176 = pA S_264 q_176 := (show pA S_1131 q_176 = pA S_1119 q_176 from by rw [eS_1131]; rfl).trans bb_1491
  have t_1496 : At S_1119 q_176 414 := by rw [eS_1119]; exact At_sN t_1493 hq_1118
  have t_1497 : At S_1131 q_176 414 := tAt_sR eS_1131 t_1496
  have bb_1495 : pA S_1141 q_176 = pA S_264 q_176 := (show pA S_1141 q_176 = pA S_1131 q_176 from by rw [eS_1141]; exact if_neg (ne_of_new hq_1140 t_1497.1)).trans bb_1494
  have bb_1498 : pA S_1153 q_176 = pA S_264 q_176 := (show pA S_1153 q_176 = pA S_1141 q_176 from by rw [eS_1153]; rfl).trans bb_1495
  have t_1500 : At S_1141 q_176 414 := by rw [eS_1141]; exact At_sN t_1497 hq_1140
  have t_1501 : At S_1153 q_176 414 := tAt_sR eS_1153 t_1500
  have bb_1499 : pA S_1270 q_176 = pA S_264 q_176 := (show pA S_1270 q_176 = pA S_1153 q_176 from by rw [eS_1270]; exact if_neg (At_ne t_1501 t_1217 (by decide))).trans bb_1498
  have t_1503 : At S_1270 q_176 414 := tAt_sA eS_1270 t_1501
  have bb_1502 : pA S_1286 q_176 = pA S_264 q_176 := (show pA S_1286 q_176 = pA S_1270 q_176 from by rw [eS_1286]; exact if_neg (At_ne t_1503 t_1284 (by decide))).trans bb_1499
  have t_1505 : At S_1286 q_176 414 := tAt_sA eS_1286 t_1503
  have bb_1504 : pA S_1303 q_176 = pA S_264 q_176 := (show pA S_1303 q_176 = pA S_1286 q_176 from by rw [eS_1303]; exact if_neg (At_ne t_1505 t_1301 (by decide))).trans bb_1502
  have t_1507 : At S_1303 q_176 414 := tAt_sA eS_1303 t_1505
  have bb_1506 : pA S_1320 q_176 = pA S_264 q_176 := (show pA S_1320 q_176 = pA S_1303 q_176 from by rw [eS_1320]; exact if_neg (At_ne t_1507 t_1318 (by decide))).trans bb_1504
  have tn_1508 : pA S_177 q_176 = fun _ => 0 := by rw [eS_177]; exact pA_sN_new
  have in_1509 : ∀ g, g ∈ in0 → ∀ i, zA S_1332 x g i = 0 := by
    intro g hg
    simp only [in0, List.mem_cons, List.not_mem_nil, or_false] at hg
    rcases hg with e | e | e | e | e | e | e <;> subst e
    · rw [eS_1332]; exact (Fz_z fz_1326 (List.Mem.tail _ (List.Mem.tail _ (List.Mem.tail _ (List.Mem.tail _ (List.Mem.tail _ (List.Mem.tail _ (List.Mem.tail _ (List.Mem.tail _ (List.Mem.tail _ (List.Mem.tail _ (List.Mem.tail _ (List.Mem.tail _ (List.Mem.tail _ (List.Mem.tail _ (List.Mem.tail _ (List.Mem.tail _ (List.Mem.tail _ (List.Mem.tail _ (List.Mem.tail _ (List.Mem.tail _ (List.Mem.tail _ (List.Mem.tail _ (List.Mem.tail _ (List.Mem.tail _ (List.Mem.tail _ (List.Mem.tail _ (List.Mem.tail _ (List.Mem.tail _ (List.Mem.tail _ (List.Mem.tail _ (List.Mem.head _))))))))))))))))))))))))))))))))
    · rw [eS_1332]; exact (Fz_z fz_1326 (List.Mem.tail _ (List.Mem.tail _ (List.Mem.tail _ (List.Mem.tail _ (List.Mem.tail _ (List.Mem.tail _ (List.Mem.tail _ (List.Mem.tail _ (List.Mem.tail _ (List.Mem.tail _ (List.Mem.tail _ (List.Mem.tail _ (List.Mem.tail _ (List.Mem.tail _ (List.Mem.tail _ (List.Mem.tail _ (List.Mem.tail _ (List.Mem.tail _ (List.Mem.tail _ (List.Mem.tail _ (List.Mem.tail _ (List.Mem.tail _ (List.Mem.tail _ (List.Mem.tail _ (List.Mem.tail _ (List.Mem.tail _ (List.Mem.tail _ (List.Mem.tail _ (List.Mem.tail _ (List.Mem.tail _ (List.Mem.tail _ (List.Mem.tail _ (List.Mem.tail _ (List.Mem.tail _ (List.Mem.tail _ (List.Mem.head _)))))))))))))))))))))))))))))))))))))
    · rw [eS_1332]; exact (Fz_z fz_1326 (List.Mem.tail _ (List.Mem.tail _ (List.Mem.tail _ (List.Mem.tail _ (List.Mem.tail _ (List.Mem.tail _ (List.Mem.tail _ (List.Mem.tail _ (List.Mem.tail _ (List.Mem.tail _ (List.Mem.tail _ (List.Mem.tail _ (List.Mem.tail _ (List.Mem.tail _ (List.Mem.tail _ (List.Mem.tail _ (List.Mem.tail _ (List.Mem.tail _ (List.Mem.tail _ (List.Mem.tail _ (List.Mem.tail _ (List.Mem.tail _ (List.Mem.tail _ (List.Mem.tail _ (List.Mem.tail _ (List.Mem.tail _ (List.Mem.tail _ (List.Mem.tail _ (List.Mem.tail _ (List.Mem.tail _ (List.Mem.tail _ (List.Mem.tail _ (List.Mem.tail _ (List.Mem.tail _ (List.Mem.head _))))))))))))))))))))))))))))))))))))
    · rw [eS_1332]; exact (Fz_z fz_1326 (List.Mem.tail _ (List.Mem.tail _ (List.Mem.tail _ (List.Mem.tail _ (List.Mem.tail _ (List.Mem.tail _ (List.Mem.tail _ (List.Mem.tail _ (List.Mem.tail _ (List.Mem.tail _ (List.Mem.tail _ (List.Mem.tail _ (List.Mem.tail _ (List.Mem.tail _ (List.Mem.tail _ (List.Mem.tail _ (List.Mem.tail _ (List.Mem.tail _ (List.Mem.tail _ (List.Mem.tail _ (List.Mem.tail _ (List.Mem.tail _ (List.Mem.tail _ (List.Mem.tail _ (List.Mem.tail _ (List.Mem.tail _ (List.Mem.tail _ (List.Mem.tail _ (List.Mem.tail _ (List.Mem.tail _ (List.Mem.tail _ (List.Mem.tail _ (List.Mem.tail _ (List.Mem.head _)))))))))))))))))))))))))))))))))))
    · rw [eS_1332]; exact (Fz_z fz_1326 (List.Mem.tail _ (List.Mem.tail _ (List.Mem.tail _ (List.Mem.tail _ (List.Mem.tail _ (List.Mem.tail _ (List.Mem.tail _ (List.Mem.tail _ (List.Mem.tail _ (List.Mem.tail _ (List.Mem.tail _ (List.Mem.tail _ (List.Mem.tail _ (List.Mem.tail _ (List.Mem.tail _ (List.Mem.tail _ (List.Mem.tail _ (List.Mem.tail _ (List.Mem.tail _ (List.Mem.tail _ (List.Mem.tail _ (List.Mem.tail _ (List.Mem.tail _ (List.Mem.tail _ (List.Mem.tail _ (List.Mem.tail _ (List.Mem.tail _ (List.Mem.tail _ (List.Mem.tail _ (List.Mem.tail _ (List.Mem.tail _ (List.Mem.tail _ (List.Mem.head _))))))))))))))))))))))))))))))))))
    · rw [eS_1332]; exact (Fz_z fz_1326 (List.Mem.tail _ (List.Mem.tail _ (List.Mem.tail _ (List.Mem.tail _ (List.Mem.tail _ (List.Mem.tail _ (List.Mem.tail _ (List.Mem.tail _ (List.Mem.tail _ (List.Mem.tail _ (List.Mem.tail _ (List.Mem.tail _ (List.Mem.tail _ (List.Mem.tail _ (List.Mem.tail _ (List.Mem.tail _ (List.Mem.tail _ (List.Mem.tail _ (List.Mem.tail _ (List.Mem.head _)))))))))))))))))))))
    · rw [eS_1332]; exact (Fz_z fz_1326 (List.Mem.tail _ (List.Mem.tail _ (List.Mem.tail _ (List.Mem.tail _ (List.Mem.tail _ (List.Mem.tail _ (List.Mem.tail _ (List.Mem.tail _ (List.Mem.tail _ (List.Mem.tail _ (List.Mem.tail _ (List.Mem.tail _ (List.Mem.tail _ (List.Mem.tail _ (List.Mem.tail _ (List.Mem.tail _ (List.Mem.tail _ (List.Mem.tail _ (List.Mem.tail _ (List.Mem.tail _ (List.Mem.tail _ (List.Mem.tail _ (List.Mem.tail _ (List.Mem.tail _ (List.Mem.tail _ (List.Mem.tail _ (List.Mem.tail _ (List.Mem.tail _ (List.Mem.tail _ (List.Mem.head _)))))))))))))))))))))))))))))))
  exact ret_v X hw hr hlocks (by show 48 ≤ 48; omega) (by show 182647 ≤ 182647; omega) ⟨hk9, hg9, ha9, hPhc9, hPhs9, (by rw [eS_1332]; exact MI_0 (by rw [pI_sK]; exact zi_1325 1201 rfl) (by rw [pI_sK]; exact zi_1325 1238 rfl) (Fz_z fz_1326 (List.Mem.tail _ (List.Mem.tail _ (List.Mem.tail _ (List.Mem.tail _ (List.Mem.tail _ (List.Mem.tail _ (List.Mem.tail _ (List.Mem.tail _ (List.Mem.tail _ (List.Mem.tail _ (List.Mem.tail _ (List.Mem.tail _ (List.Mem.tail _ (List.Mem.tail _ (List.Mem.tail _ (List.Mem.tail _ (List.Mem.tail _ (List.Mem.tail _ (List.Mem.tail _ (List.Mem.tail _ (List.Mem.tail _ (List.Mem.tail _ (List.Mem.tail _ (List.Mem.tail _ (List.Mem.tail _ (List.Mem.tail _ (List.Mem.tail _ (List.Mem.tail _ (List.Mem.tail _ (List.Mem.tail _ (List.Mem.tail _ (List.Mem.tail _ (List.Mem.tail _ (List.Mem.tail _ (List.Mem.tail _ (List.Mem.tail _ (List.Mem.tail _ (List.Mem.tail _ (List.Mem.tail _ (List.Mem.tail _ (List.Mem.head _)))))))))))))))))))))))))))))))))))))))))) (Fz_z fz_1326 (List.Mem.tail _ (List.Mem.tail _ (List.Mem.tail _ (List.Mem.tail _ (List.Mem.tail _ (List.Mem.tail _ (List.Mem.tail _ (List.Mem.tail _ (List.Mem.tail _ (List.Mem.tail _ (List.Mem.tail _ (List.Mem.tail _ (List.Mem.tail _ (List.Mem.tail _ (List.Mem.tail _ (List.Mem.tail _ (List.Mem.tail _ (List.Mem.tail _ (List.Mem.tail _ (List.Mem.tail _ (List.Mem.tail _ (List.Mem.tail _ (List.Mem.tail _ (List.Mem.tail _ (List.Mem.tail _ (List.Mem.tail _ (List.Mem.tail _ (List.Mem.tail _ (List.Mem.tail _ (List.Mem.tail _ (List.Mem.tail _ (List.Mem.tail _ (List.Mem.tail _ (List.Mem.tail _ (List.Mem.tail _ (List.Mem.tail _ (List.Mem.tail _ (List.Mem.tail _ (List.Mem.tail _ (List.Mem.head _))))))))))))))))))))))))))))))))))))))))) (Fz_z fz_1326 (List.Mem.tail _ (List.Mem.tail _ (List.Mem.tail _ (List.Mem.tail _ (List.Mem.tail _ (List.Mem.tail _ (List.Mem.tail _ (List.Mem.tail _ (List.Mem.tail _ (List.Mem.tail _ (List.Mem.tail _ (List.Mem.tail _ (List.Mem.tail _ (List.Mem.tail _ (List.Mem.tail _ (List.Mem.tail _ (List.Mem.tail _ (List.Mem.tail _ (List.Mem.tail _ (List.Mem.tail _ (List.Mem.tail _ (List.Mem.tail _ (List.Mem.tail _ (List.Mem.tail _ (List.Mem.tail _ (List.Mem.tail _ (List.Mem.tail _ (List.Mem.tail _ (List.Mem.tail _ (List.Mem.tail _ (List.Mem.head _)))))))))))))))))))))))))))))))) (Fz_z fz_1326 (List.Mem.tail _ (List.Mem.tail _ (List.Mem.tail _ (List.Mem.tail _ (List.Mem.tail _ (List.Mem.tail _ (List.Mem.tail _ (List.Mem.tail _ (List.Mem.tail _ (List.Mem.tail _ (List.Mem.tail _ (List.Mem.tail _ (List.Mem.tail _ (List.Mem.tail _ (List.Mem.tail _ (List.Mem.tail _ (List.Mem.tail _ (List.Mem.tail _ (List.Mem.tail _ (List.Mem.tail _ (List.Mem.head _)))))))))))))))))))))) (Fz_z fz_1326 (List.Mem.tail _ (List.Mem.tail _ (List.Mem.tail _ (List.Mem.tail _ (List.Mem.tail _ (List.Mem.tail _ (List.Mem.tail _ (List.Mem.tail _ (List.Mem.tail _ (List.Mem.tail _ (List.Mem.tail _ (List.Mem.tail _ (List.Mem.tail _ (List.Mem.tail _ (List.Mem.tail _ (List.Mem.tail _ (List.Mem.tail _ (List.Mem.tail _ (List.Mem.head _)))))))))))))))))))) (Fz_z fz_1326 (List.Mem.tail _ (List.Mem.tail _ (List.Mem.tail _ (List.Mem.tail _ (List.Mem.tail _ (List.Mem.tail _ (List.Mem.tail _ (List.Mem.tail _ (List.Mem.tail _ (List.Mem.tail _ (List.Mem.tail _ (List.Mem.head _)))))))))))))), (by rw [eS_1332]; exact GR_0 (Fz_z fz_1326 (List.Mem.tail _ (List.Mem.tail _ (List.Mem.tail _ (List.Mem.tail _ (List.Mem.tail _ (List.Mem.tail _ (List.Mem.tail _ (List.Mem.tail _ (List.Mem.tail _ (List.Mem.tail _ (List.Mem.tail _ (List.Mem.tail _ (List.Mem.tail _ (List.Mem.tail _ (List.Mem.tail _ (List.Mem.tail _ (List.Mem.tail _ (List.Mem.tail _ (List.Mem.tail _ (List.Mem.head _)))))))))))))))))))))), (by rw [eS_1332, pI_sK]; exact zi_1325 1245 rfl), (by rw [eS_1332, pI_sK]; exact zi_1325 1201 rfl), (by rw [eS_1332, pI_sK]; exact zi_1325 1211 rfl), (by rw [eS_1332, pI_sK]; exact zi_1325 1228 rfl), (by rw [eS_1332, mA_eq (show pR (sK S_1320 x 12) 1210 x = some q_176 from (by rw [pR_sK]; exact (fd_1327 _ (List.Mem.tail _ (List.Mem.head _))).1)), show pA (sK S_1320 x 12) q_176 = pA S_1320 q_176 from rfl, bb_1506, tn_1340, tn_1339, tn_1338, tn_1337, tn_1336, tn_1335, tn_1334, tn_1333, tn_1508]; exact thin_all), (by rw [eS_1332]; exact (Fz_z fz_1326 (List.Mem.tail _ (List.Mem.tail _ (List.Mem.tail _ (List.Mem.tail _ (List.Mem.tail _ (List.Mem.tail _ (List.Mem.tail _ (List.Mem.tail _ (List.Mem.tail _ (List.Mem.tail _ (List.Mem.tail _ (List.Mem.head _)))))))))))))), in_1509, ⟨(by rw [eS_1332, pI_sK]; exact zi_1325 1238 rfl), (by rw [eS_1332, pI_sK]; exact zi_1325 1251 rfl), (by rw [eS_1332, pI_sK]; exact zi_1325 1249 rfl), (by rw [eS_1332, pI_sK]; exact zi_1325 1250 rfl)⟩⟩ dX12_init_485
