
set_option maxHeartbeats 4000000 in
set_option maxRecDepth 100000 in
theorem k_X8_init6 (l : Launch) (G : va_G) (cy : Nat → ClassId) (κ : Nat → Nat) (S : PS) (sz : Nat) (x : Nat) (hG : GX S) (ha_x : At S x 188) (hzI : ∀ g, pI S g x = 0) (hzR : ∀ g, pR S g x = none) : Cv l yX8_init wsX8_init ({ frames := 3, cells := 9, slots := 214, locals := 144 }) G cy κ S sz [.ref x] (fun (S9 : PS) => Kq S S9 x ∧ GX S9 ∧ At S9 x 8 ∧ Phc S9 = Phc S + 320 ∧ Phs S9 = Phs S + 604000 ∧ pI S9 801 x = 0 ∧ pI S9 800 x = 0) := by
  refine ent_m (cc := cX8_init) (maxL := 1) (ret := none) (by decide) rfl (Nat.le_of_ble_eq_true rfl) ?_
  intro p e s m below meth c ls X hr hlocks hin hw hl hsz
  subst hsz
  have X : Cx p c cX8_init 1 s [.ref x].toArray wsX8_init RX8 m G cy κ (AS S s.heap.size) := X
  have hl : lv_has ls 1 [(0, .ref x)] := hl
  have hpc0 : Phc S = Phc S + 0 := rfl
  have hps0 : Phs S = Phs S + 0 := rfl
  have hK : Kq S S x := Kq.rf S _
  refine lv_aload_n X.1 X.2.1 dX8_init_0 rfl (lv_at hl 0 rfl) ?_
  refine W.objInit X.1 X.2.1 X.2.2.2.2.1 (X.2.2.2.1 (.methodLink RX8 3 objectInit) (by decide +kernel)) (X.2.2.2.1 (.instanceMethod objectInit) (by decide +kernel)) (X.2.2.2.1 (.code objectInit ⟨#[0xb1]⟩ 1 none) (by decide +kernel)) rfl (hl.1.trans X.2.2.1.symm) rfl dX8_init_1 (Nat.le_of_ble_eq_true rfl) (Nat.le_of_ble_eq_true rfl) ?_
  refine W.eq (g2 := F0 m 4 ls ([])) rfl ?_
  refine lv_aload_n X.1 X.2.1 dX8_init_4 rfl (lv_at hl 0 rfl) ?_
  refine lv_iconst (v := 4) X.1 X.2.1 dX8_init_5 (by decide) ?_
  refine r_newI (N := 4) X hw 154 4 1 rfl (X.2.2.2.1 (.arrayClass .int) (by decide +kernel)) (z_nn ti_4 (by omega)) (by decide) (by decide) (Nat.le_of_ble_eq_true rfl) (Nat.le_of_ble_eq_true rfl) (Nat.le_of_ble_eq_true rfl) (Nat.le_of_ble_eq_true rfl) dX8_init_6 (fun q_1 H hq_1 hw => ?_)
  obtain ⟨S_2, eS_2⟩ : ∃ T, T = sN S q_1 154 4 := ⟨_, rfl⟩
  rw [← eS_2] at hw
  have ph_3 : Phc S_2 = Phc S + 0 := (show Phc S_2 = Phc S from Ph_sN' hG.ci hq_1 eS_2 (by decide)).trans hpc0
  have ph_4 : Phs S_2 = Phs S + 0 := (show Phs S_2 = Phs S from Ph_sN' hG.ci hq_1 eS_2 (by decide)).trans hps0
  clear hpc0
  clear hps0
  have hK_5 : Kq S S_2 x := hK.sN hq_1 eS_2
  have hg_6 : GX S_2 := by rw [eS_2]; exact GX_N hG hq_1 (by decide +kernel)
  have hn0_q_1 := hK.new hq_1
  have ha_7 : At S_2 q_1 154 := by rw [eS_2]; exact At_nN _ _ _ _
  have hn_8 : pN S_2 q_1 = 4 := by rw [eS_2]; exact pN_sN_new
  refine lv_dup X.1 X.2.1 dX8_init_8 rfl ?_
  refine lv_iconst (v := 0) X.1 X.2.1 dX8_init_9 (by decide) ?_
  refine lv_bipush (v := 100) X.1 X.2.1 dX8_init_10 (by decide) ?_
  refine r_iast X hw ha_7 rfl (by rw [hn_8]; exact z_ix ti_0 (by omega) (by omega)) dX8_init_12 (fun H locs hw => ?_)
  obtain ⟨S_9, eS_9⟩ : ∃ T, T = sA S_2 q_1 (upd (pA S_2 q_1) (Int32.toNatClampNeg (0)) (100)) := ⟨_, rfl⟩
  rw [← eS_9] at hw
  have ph_10 : Phc S_9 = Phc S + 0 := (show Phc S_9 = Phc S_2 from Ph_sA eS_9).trans ph_3
  have ph_11 : Phs S_9 = Phs S + 0 := (show Phs S_9 = Phs S_2 from Ph_sA eS_9).trans ph_4
  clear ph_3
  clear ph_4
  have hK_12 : Kq S S_9 x := hK_5.sA hn0_q_1 eS_9
  have hg_13 : GX S_9 := by rw [eS_9]; exact uA_154 hg_6 ha_7
  have h_14 : pA S_9 q_1 (Int32.toNatClampNeg (0)) = 100 := tA_sAs eS_9
  refine lv_dup X.1 X.2.1 dX8_init_13 rfl ?_
  refine lv_iconst (v := 1) X.1 X.2.1 dX8_init_14 (by decide) ?_
  refine lv_bipush (v := 80) X.1 X.2.1 dX8_init_15 (by decide) ?_
  have t_15 : At S_9 q_1 154 := tAt_sA eS_9 ha_7
  have t_16 : pN S_9 q_1 = 4 := tN_sA eS_9 hn_8
  clear hn_8
  refine r_iast X hw t_15 rfl (by rw [t_16]; exact z_ix ti_1 (by omega) (by omega)) dX8_init_17 (fun H locs hw => ?_)
  obtain ⟨S_17, eS_17⟩ : ∃ T, T = sA S_9 q_1 (upd (pA S_9 q_1) (Int32.toNatClampNeg (1)) (80)) := ⟨_, rfl⟩
  rw [← eS_17] at hw
  have ph_18 : Phc S_17 = Phc S + 0 := (show Phc S_17 = Phc S_9 from Ph_sA eS_17).trans ph_10
  have ph_19 : Phs S_17 = Phs S + 0 := (show Phs S_17 = Phs S_9 from Ph_sA eS_17).trans ph_11
  clear ph_10
  clear ph_11
  have hK_20 : Kq S S_17 x := hK_12.sA hn0_q_1 eS_17
  have hg_21 : GX S_17 := by rw [eS_17]; exact uA_154 hg_13 t_15
  have h_22 : pA S_17 q_1 (Int32.toNatClampNeg (1)) = 80 := tA_sAs eS_17
  refine lv_dup X.1 X.2.1 dX8_init_18 rfl ?_
  refine lv_iconst (v := 2) X.1 X.2.1 dX8_init_19 (by decide) ?_
  refine lv_bipush (v := 50) X.1 X.2.1 dX8_init_20 (by decide) ?_
  have t_23 : At S_17 q_1 154 := tAt_sA eS_17 t_15
  have t_24 : pN S_17 q_1 = 4 := tN_sA eS_17 t_16
  clear t_16
  refine r_iast X hw t_23 rfl (by rw [t_24]; exact z_ix ti_2 (by omega) (by omega)) dX8_init_22 (fun H locs hw => ?_)
  obtain ⟨S_25, eS_25⟩ : ∃ T, T = sA S_17 q_1 (upd (pA S_17 q_1) (Int32.toNatClampNeg (2)) (50)) := ⟨_, rfl⟩
  rw [← eS_25] at hw
  have ph_26 : Phc S_25 = Phc S + 0 := (show Phc S_25 = Phc S_17 from Ph_sA eS_25).trans ph_18
  have ph_27 : Phs S_25 = Phs S + 0 := (show Phs S_25 = Phs S_17 from Ph_sA eS_25).trans ph_19
  clear ph_18
  clear ph_19
  have hK_28 : Kq S S_25 x := hK_20.sA hn0_q_1 eS_25
  have hg_29 : GX S_25 := by rw [eS_25]; exact uA_154 hg_21 t_23
  have h_30 : pA S_25 q_1 (Int32.toNatClampNeg (2)) = 50 := tA_sAs eS_25
  refine lv_dup X.1 X.2.1 dX8_init_23 rfl ?_
  refine lv_iconst (v := 3) X.1 X.2.1 dX8_init_24 (by decide) ?_
  refine lv_bipush (v := 20) X.1 X.2.1 dX8_init_25 (by decide) ?_
  have t_31 : At S_25 q_1 154 := tAt_sA eS_25 t_23
  have t_32 : pN S_25 q_1 = 4 := tN_sA eS_25 t_24
  clear t_24
  refine r_iast X hw t_31 rfl (by rw [t_32]; exact z_ix ti_3 (by omega) (by omega)) dX8_init_27 (fun H locs hw => ?_)
  obtain ⟨S_33, eS_33⟩ : ∃ T, T = sA S_25 q_1 (upd (pA S_25 q_1) (Int32.toNatClampNeg (3)) (20)) := ⟨_, rfl⟩
  rw [← eS_33] at hw
  have ph_34 : Phc S_33 = Phc S + 0 := (show Phc S_33 = Phc S_25 from Ph_sA eS_33).trans ph_26
  have ph_35 : Phs S_33 = Phs S + 0 := (show Phs S_33 = Phs S_25 from Ph_sA eS_33).trans ph_27
  clear ph_26
  clear ph_27
  have hK_36 : Kq S S_33 x := hK_28.sA hn0_q_1 eS_33
  have hg_37 : GX S_33 := by rw [eS_33]; exact uA_154 hg_29 t_31
  have h_38 : pA S_33 q_1 (Int32.toNatClampNeg (3)) = 20 := tA_sAs eS_33
  have t_39 : At S_2 x 188 := by rw [eS_2]; exact At_sN ha_x hq_1
  have t_40 : At S_9 x 188 := tAt_sA eS_9 t_39
  have t_41 : At S_17 x 188 := tAt_sA eS_17 t_40
  have t_42 : At S_25 x 188 := tAt_sA eS_25 t_41
  have t_43 : At S_33 x 188 := tAt_sA eS_33 t_42
  have t_44 : At S_33 q_1 154 := tAt_sA eS_33 t_31
  refine r_putR X hw t_43 rfl 7 807 (some q_1) rfl tyX8 (by decide) rfl inn_X8_init_8 tyX8_ok nmX8 (by decide) (X.2.2.2.1 (.fieldLink RX8 9 "SilkMill$Store" "prices" "[I") (by decide +kernel)) rfl (Or.inr ⟨rfl, hin, rfl⟩) (fun _ => rfl) rfl (fun _ => rfl) rfl (Nat.le_of_ble_eq_true rfl) (st_807 _ _) dX8_init_28 (fun H locs hw => ?_)
  obtain ⟨S_45, eS_45⟩ : ∃ T, T = sR S_33 807 x (some q_1) := ⟨_, rfl⟩
  rw [← eS_45] at hw
  have ph_46 : Phc S_45 = Phc S + 0 := (show Phc S_45 = Phc S_33 from Ph_rawR t_43 (by decide) eS_45).trans ph_34
  have ph_47 : Phs S_45 = Phs S + 0 := (show Phs S_45 = Phs S_33 from Ph_rawR t_43 (by decide) eS_45).trans ph_35
  clear ph_34
  clear ph_35
  have hK_48 : Kq S S_45 x := hK_36.sR eS_45
  have hg_49 : GX S_45 := by rw [eS_45]; exact GX_rawR hg_37 t_43 (by decide +kernel)
  have h_50 : pR S_45 807 x = some q_1 := tR_sRs eS_45
  refine lv_aload_n X.1 X.2.1 dX8_init_31 rfl (lv_at hl 0 rfl) ?_
  refine lv_bipush (v := 40) X.1 X.2.1 dX8_init_32 (by decide) ?_
  refine r_newQ (N := 40) (C := RX7) X hw 19 19 44 2 rfl (by decide) rfl (X.2.2.2.1 (.classLink RX8 15 RX7) (by decide +kernel)) X.2.2.2.2.2.2.2.1.1.2.2.2 (z_nn ti_40 (by omega)) (by decide) (by decide) (Nat.le_of_ble_eq_true rfl) (Nat.le_of_ble_eq_true rfl) (Nat.le_of_ble_eq_true rfl) (Nat.le_of_ble_eq_true rfl) dX8_init_34 (fun q_51 H hq_51 hw => ?_)
  obtain ⟨S_52, eS_52⟩ : ∃ T, T = sN S_45 q_51 19 40 := ⟨_, rfl⟩
  rw [← eS_52] at hw
  have ph_53 : Phc S_52 = Phc S + 0 := (show Phc S_52 = Phc S_45 from Ph_sN' hg_49.ci hq_51 eS_52 (by decide)).trans ph_46
  have ph_54 : Phs S_52 = Phs S + 0 := (show Phs S_52 = Phs S_45 from Ph_sN' hg_49.ci hq_51 eS_52 (by decide)).trans ph_47
  clear ph_46
  clear ph_47
  have hK_55 : Kq S S_52 x := hK_48.sN hq_51 eS_52
  have hg_56 : GX S_52 := by rw [eS_52]; exact GX_N hg_49 hq_51 (by decide +kernel)
  have hn0_q_51 := hK_48.new hq_51
  have ha_57 : At S_52 q_51 19 := by rw [eS_52]; exact At_nN _ _ _ _
  have hn_58 : pN S_52 q_51 = 40 := by rw [eS_52]; exact pN_sN_new
  have t_59 : At S_45 x 188 := tAt_sR eS_45 t_43
  have t_60 : At S_52 x 188 := by rw [eS_52]; exact At_sN t_59 hq_51
  refine r_putR X hw t_60 rfl 8 808 (some q_51) rfl tyX8 (by decide) rfl inn_X8_init_8 tyX8_ok nmX8 (by decide) (X.2.2.2.1 (.fieldLink RX8 17 "SilkMill$Store" "skeins" "[LSilkMill$Skein;") (by decide +kernel)) rfl (Or.inr ⟨rfl, hin, rfl⟩) (fun _ => rfl) rfl (fun _ => rfl) rfl (Nat.le_of_ble_eq_true rfl) (st_808 _ _) dX8_init_37 (fun H locs hw => ?_)
  obtain ⟨S_61, eS_61⟩ : ∃ T, T = sR S_52 808 x (some q_51) := ⟨_, rfl⟩
  rw [← eS_61] at hw
  have ph_62 : Phc S_61 = Phc S + 0 := (show Phc S_61 = Phc S_52 from Ph_rawR t_60 (by decide) eS_61).trans ph_53
  have ph_63 : Phs S_61 = Phs S + 0 := (show Phs S_61 = Phs S_52 from Ph_rawR t_60 (by decide) eS_61).trans ph_54
  clear ph_53
  clear ph_54
  have hK_64 : Kq S S_61 x := hK_55.sR eS_61
  have hg_65 : GX S_61 := by rw [eS_61]; exact GX_rawR hg_56 t_60 (by decide +kernel)
  have h_66 : pR S_61 808 x = some q_51 := tR_sRs eS_61
  refine lv_aload_n X.1 X.2.1 dX8_init_40 rfl (lv_at hl 0 rfl) ?_
  refine lv_bipush (v := 40) X.1 X.2.1 dX8_init_41 (by decide) ?_
  refine r_newI (N := 40) X hw 174 84 3 rfl (X.2.2.2.1 (.arrayClass .int) (by decide +kernel)) (z_nn ti_40 (by omega)) (by decide) (by decide) (Nat.le_of_ble_eq_true rfl) (Nat.le_of_ble_eq_true rfl) (Nat.le_of_ble_eq_true rfl) (Nat.le_of_ble_eq_true rfl) dX8_init_43 (fun q_67 H hq_67 hw => ?_)
  obtain ⟨S_68, eS_68⟩ : ∃ T, T = sN S_61 q_67 174 40 := ⟨_, rfl⟩
  rw [← eS_68] at hw
  have ph_69 : Phc S_68 = Phc S + 0 := (show Phc S_68 = Phc S_61 from Ph_sN' hg_65.ci hq_67 eS_68 (by decide)).trans ph_62
  have ph_70 : Phs S_68 = Phs S + 0 := (show Phs S_68 = Phs S_61 from Ph_sN' hg_65.ci hq_67 eS_68 (by decide)).trans ph_63
  clear ph_62
  clear ph_63
  have hK_71 : Kq S S_68 x := hK_64.sN hq_67 eS_68
  have hg_72 : GX S_68 := by rw [eS_68]; exact GX_N hg_65 hq_67 (by decide +kernel)
  have hn0_q_67 := hK_64.new hq_67
  have ha_73 : At S_68 q_67 174 := by rw [eS_68]; exact At_nN _ _ _ _
  have hn_74 : pN S_68 q_67 = 40 := by rw [eS_68]; exact pN_sN_new
  have t_75 : At S_61 x 188 := tAt_sR eS_61 t_60
  have t_76 : At S_68 x 188 := by rw [eS_68]; exact At_sN t_75 hq_67
  refine r_putR X hw t_76 rfl 9 809 (some q_67) rfl tyX8 (by decide) rfl inn_X8_init_8 tyX8_ok nmX8 (by decide) (X.2.2.2.1 (.fieldLink RX8 21 "SilkMill$Store" "faultSkeins" "[I") (by decide +kernel)) rfl (Or.inr ⟨rfl, hin, rfl⟩) (fun _ => rfl) rfl (fun _ => rfl) rfl (Nat.le_of_ble_eq_true rfl) (st_809 _ _) dX8_init_45 (fun H locs hw => ?_)
  obtain ⟨S_77, eS_77⟩ : ∃ T, T = sR S_68 809 x (some q_67) := ⟨_, rfl⟩
  rw [← eS_77] at hw
  have ph_78 : Phc S_77 = Phc S + 0 := (show Phc S_77 = Phc S_68 from Ph_rawR t_76 (by decide) eS_77).trans ph_69
  have ph_79 : Phs S_77 = Phs S + 0 := (show Phs S_77 = Phs S_68 from Ph_rawR t_76 (by decide) eS_77).trans ph_70
  clear ph_69
  clear ph_70
  have hK_80 : Kq S S_77 x := hK_71.sR eS_77
  have hg_81 : GX S_77 := by rw [eS_77]; exact GX_rawR hg_72 t_76 (by decide +kernel)
  have h_82 : pR S_77 809 x = some q_67 := tR_sRs eS_77
  refine lv_aload_n X.1 X.2.1 dX8_init_48 rfl (lv_at hl 0 rfl) ?_
  refine lv_bipush (v := 40) X.1 X.2.1 dX8_init_49 (by decide) ?_
  refine r_newI (N := 40) X hw 174 124 4 rfl (X.2.2.2.1 (.arrayClass .int) (by decide +kernel)) (z_nn ti_40 (by omega)) (by decide) (by decide) (Nat.le_of_ble_eq_true rfl) (Nat.le_of_ble_eq_true rfl) (Nat.le_of_ble_eq_true rfl) (Nat.le_of_ble_eq_true rfl) dX8_init_51 (fun q_83 H hq_83 hw => ?_)
  obtain ⟨S_84, eS_84⟩ : ∃ T, T = sN S_77 q_83 174 40 := ⟨_, rfl⟩
  rw [← eS_84] at hw
  have ph_85 : Phc S_84 = Phc S + 0 := (show Phc S_84 = Phc S_77 from Ph_sN' hg_81.ci hq_83 eS_84 (by decide)).trans ph_78
  have ph_86 : Phs S_84 = Phs S + 0 := (show Phs S_84 = Phs S_77 from Ph_sN' hg_81.ci hq_83 eS_84 (by decide)).trans ph_79
  clear ph_78
  clear ph_79
  have hK_87 : Kq S S_84 x := hK_80.sN hq_83 eS_84
  have hg_88 : GX S_84 := by rw [eS_84]; exact GX_N hg_81 hq_83 (by decide +kernel)
  have hn0_q_83 := hK_80.new hq_83
  have ha_89 : At S_84 q_83 174 := by rw [eS_84]; exact At_nN _ _ _ _
  have hn_90 : pN S_84 q_83 = 40 := by rw [eS_84]; exact pN_sN_new
  have t_91 : At S_77 x 188 := tAt_sR eS_77 t_76
  have t_92 : At S_84 x 188 := by rw [eS_84]; exact At_sN t_91 hq_83
  refine r_putR X hw t_92 rfl 10 810 (some q_83) rfl tyX8 (by decide) rfl inn_X8_init_8 tyX8_ok nmX8 (by decide) (X.2.2.2.1 (.fieldLink RX8 24 "SilkMill$Store" "faultDays" "[I") (by decide +kernel)) rfl (Or.inr ⟨rfl, hin, rfl⟩) (fun _ => rfl) rfl (fun _ => rfl) rfl (Nat.le_of_ble_eq_true rfl) (st_810 _ _) dX8_init_53 (fun H locs hw => ?_)
  obtain ⟨S_93, eS_93⟩ : ∃ T, T = sR S_84 810 x (some q_83) := ⟨_, rfl⟩
  rw [← eS_93] at hw
  have ph_94 : Phc S_93 = Phc S + 0 := (show Phc S_93 = Phc S_84 from Ph_rawR t_92 (by decide) eS_93).trans ph_85
  have ph_95 : Phs S_93 = Phs S + 0 := (show Phs S_93 = Phs S_84 from Ph_rawR t_92 (by decide) eS_93).trans ph_86
  clear ph_85
  clear ph_86
  have hK_96 : Kq S S_93 x := hK_87.sR eS_93
  have hg_97 : GX S_93 := by rw [eS_93]; exact GX_rawR hg_88 t_92 (by decide +kernel)
  have h_98 : pR S_93 810 x = some q_83 := tR_sRs eS_93
  refine lv_aload_n X.1 X.2.1 dX8_init_56 rfl (lv_at hl 0 rfl) ?_
  refine lv_bipush (v := 40) X.1 X.2.1 dX8_init_57 (by decide) ?_
  refine r_newI (N := 40) X hw 174 164 5 rfl (X.2.2.2.1 (.arrayClass .int) (by decide +kernel)) (z_nn ti_40 (by omega)) (by decide) (by decide) (Nat.le_of_ble_eq_true rfl) (Nat.le_of_ble_eq_true rfl) (Nat.le_of_ble_eq_true rfl) (Nat.le_of_ble_eq_true rfl) dX8_init_59 (fun q_99 H hq_99 hw => ?_)
  obtain ⟨S_100, eS_100⟩ : ∃ T, T = sN S_93 q_99 174 40 := ⟨_, rfl⟩
  rw [← eS_100] at hw
  have ph_101 : Phc S_100 = Phc S + 0 := (show Phc S_100 = Phc S_93 from Ph_sN' hg_97.ci hq_99 eS_100 (by decide)).trans ph_94
  have ph_102 : Phs S_100 = Phs S + 0 := (show Phs S_100 = Phs S_93 from Ph_sN' hg_97.ci hq_99 eS_100 (by decide)).trans ph_95
  clear ph_94
  clear ph_95
  have hK_103 : Kq S S_100 x := hK_96.sN hq_99 eS_100
  have hg_104 : GX S_100 := by rw [eS_100]; exact GX_N hg_97 hq_99 (by decide +kernel)
  have hn0_q_99 := hK_96.new hq_99
  have ha_105 : At S_100 q_99 174 := by rw [eS_100]; exact At_nN _ _ _ _
  have hn_106 : pN S_100 q_99 = 40 := by rw [eS_100]; exact pN_sN_new
  have t_107 : At S_93 x 188 := tAt_sR eS_93 t_92
  have t_108 : At S_100 x 188 := by rw [eS_100]; exact At_sN t_107 hq_99
  refine r_putR X hw t_108 rfl 11 811 (some q_99) rfl tyX8 (by decide) rfl inn_X8_init_8 tyX8_ok nmX8 (by decide) (X.2.2.2.1 (.fieldLink RX8 27 "SilkMill$Store" "faultAmounts" "[I") (by decide +kernel)) rfl (Or.inr ⟨rfl, hin, rfl⟩) (fun _ => rfl) rfl (fun _ => rfl) rfl (Nat.le_of_ble_eq_true rfl) (st_811 _ _) dX8_init_61 (fun H locs hw => ?_)
  obtain ⟨S_109, eS_109⟩ : ∃ T, T = sR S_100 811 x (some q_99) := ⟨_, rfl⟩
  rw [← eS_109] at hw
  have ph_110 : Phc S_109 = Phc S + 0 := (show Phc S_109 = Phc S_100 from Ph_rawR t_108 (by decide) eS_109).trans ph_101
  have ph_111 : Phs S_109 = Phs S + 0 := (show Phs S_109 = Phs S_100 from Ph_rawR t_108 (by decide) eS_109).trans ph_102
  clear ph_101
  clear ph_102
  have hK_112 : Kq S S_109 x := hK_103.sR eS_109
  have hg_113 : GX S_109 := by rw [eS_109]; exact GX_rawR hg_104 t_108 (by decide +kernel)
  have h_114 : pR S_109 811 x = some q_99 := tR_sRs eS_109
  refine lv_aload_n X.1 X.2.1 dX8_init_64 rfl (lv_at hl 0 rfl) ?_
  refine r_new X hw 182 2 172 6 rfl tyX2 (by decide) rfl inn_X8_init_2 tyX2_ok (X.2.2.2.1 (.classLink RX8 30 RX2) (by decide +kernel)) (X.2.2.2.1 (.instantiable RX2 8) (by decide +kernel)) (X.2.2.2.1 (.initialized RX2) (by decide +kernel)) (zo_2 _) zd_2 (Nat.le_of_ble_eq_true rfl) (Nat.le_of_ble_eq_true rfl) (Nat.le_of_ble_eq_true rfl) (Nat.le_of_ble_eq_true rfl) dX8_init_65 (fun q_115 H hq_115 hw => ?_)
  obtain ⟨S_116, eS_116⟩ : ∃ T, T = sO S_109 q_115 182 := ⟨_, rfl⟩
  rw [← eS_116] at hw
  have ph_117 : Phc S_116 = Phc S + 0 := (show Phc S_116 = Phc S_109 from Ph_sO hg_113 hq_115 eS_116 (by decide)).trans ph_110
  have ph_118 : Phs S_116 = Phs S + 0 := (show Phs S_116 = Phs S_109 from Ph_sO hg_113 hq_115 eS_116 (by decide)).trans ph_111
  clear ph_110
  clear ph_111
  have hK_119 : Kq S S_116 x := hK_112.sO hq_115 eS_116
  have hg_120 : GX S_116 := by rw [eS_116]; exact GX_O hg_113 hq_115 (by decide +kernel)
  have hn0_q_115 := hK_112.new hq_115
  have ha_121 : At S_116 q_115 182 := by rw [eS_116]; exact At_nO _ _ _
  have hzI_q_115 : ∀ g, pI S_116 g q_115 = 0 := fun g => by rw [eS_116]; exact pI_sO_new
  have hzR_q_115 : ∀ g, pR S_116 g q_115 = none := fun g => by rw [eS_116]; exact if_pos rfl
  refine lv_dup X.1 X.2.1 dX8_init_68 rfl ?_
  refine k_v (rm := { frames := 2, cells := 3, slots := 42, locals := 96 }) (av := [.ref q_115]) X hw (va_runIN (As := []) (rest := [.ref q_115, .ref x]) (cfix X) (k_X2_init l G cy κ S_116 _ q_115 hg_120 ha_121 hzI_q_115 hzR_q_115) ⟨(va_cnB (host := RX11) 0 X.2.2.2.1 gX8_init_X2_init_n32 rfl rfl rfl (X.2.2.2.2.2.2.2.1.2.1 (RX8, 32, yX2_init) (by decide +kernel)) (X.2.2.2.1 (.initialized RX2) (by decide +kernel)) (by decide +kernel) ⟨Nat.le_of_ble_eq_true rfl, Nat.le_of_ble_eq_true rfl⟩), rfl, (X.2.2.2.1 (.instanceMethod yX2_init) (by decide +kernel))⟩ (pre_S X hw _) rfl rfl hl.1 rfl (lv_room (Nat.le_of_ble_eq_true rfl)) dX8_init_69 ⟨Nat.le_of_ble_eq_true rfl, Nat.le_of_ble_eq_true rfl⟩) 9 214 (Nat.le_of_ble_eq_true rfl) (Nat.le_of_ble_eq_true rfl) (fun S_123 H locs hp hw hfr hnw => ?_)
  obtain ⟨hK_124, hg_125, ha_126, ph_127, ph_128⟩ := hp
  have hK_129 : Kq S S_123 x := hK_119.sub hn0_q_115 hK_124
  have ph_130 : Phc S_123 = Phc S + 0 := by omega
  have ph_131 : Phs S_123 = Phs S + 0 := by omega
  clear ph_117
  clear ph_118
  clear ph_127
  clear ph_128
  have t_132 : At S_109 x 188 := tAt_sR eS_109 t_108
  have t_133 : At S_116 x 188 := by rw [eS_116]; exact At_sO t_132 hq_115
  have t_134 : At S_123 x 188 := hK_124.at ha_121 t_133 (by decide)
  refine r_putR X hw t_134 rfl 12 812 (some q_115) rfl tyX8 (by decide) rfl inn_X8_init_8 tyX8_ok nmX8 (by decide) (X.2.2.2.1 (.fieldLink RX8 33 "SilkMill$Store" "mixer" "LSilkMill$Mixer;") (by decide +kernel)) rfl (Or.inr ⟨rfl, hin, rfl⟩) (fun _ => rfl) rfl (fun _ => rfl) rfl (Nat.le_of_ble_eq_true rfl) (st_812 _ _) dX8_init_72 (fun H locs hw => ?_)
  obtain ⟨S_135, eS_135⟩ : ∃ T, T = sR S_123 812 x (some q_115) := ⟨_, rfl⟩
  rw [← eS_135] at hw
  have ph_136 : Phc S_135 = Phc S + 0 := (show Phc S_135 = Phc S_123 from Ph_rawR t_134 (by decide) eS_135).trans ph_130
  have ph_137 : Phs S_135 = Phs S + 0 := (show Phs S_135 = Phs S_123 from Ph_rawR t_134 (by decide) eS_135).trans ph_131
  clear ph_130
  clear ph_131
  have hK_138 : Kq S S_135 x := hK_129.sR eS_135
  have hg_139 : GX S_135 := by rw [eS_135]; exact GX_rawR hg_125 t_134 (by decide +kernel)
  have h_140 : pR S_135 812 x = some q_115 := tR_sRs eS_135
  have t_141 : At S_135 x 188 := tAt_sR eS_135 t_134
  have nd_142 := nodup_of hw
  have t_143 : pI S_2 800 x = 0 := by rw [eS_2, pI_sN]; exact (hzI 800)
  have t_144 : pI S_9 800 x = 0 := tI_sA eS_9 t_143
  have t_145 : pI S_17 800 x = 0 := tI_sA eS_17 t_144
  have t_146 : pI S_25 800 x = 0 := tI_sA eS_25 t_145
  have t_147 : pI S_33 800 x = 0 := tI_sA eS_33 t_146
  have t_148 : pI S_45 800 x = 0 := tI_sR eS_45 t_147
  have t_149 : pI S_52 800 x = 0 := by rw [eS_52, pI_sN]; exact t_148
  have t_150 : pI S_61 800 x = 0 := tI_sR eS_61 t_149
  have t_151 : pI S_68 800 x = 0 := by rw [eS_68, pI_sN]; exact t_150
  have t_152 : pI S_77 800 x = 0 := tI_sR eS_77 t_151
  have t_153 : pI S_84 800 x = 0 := by rw [eS_84, pI_sN]; exact t_152
  have t_154 : pI S_93 800 x = 0 := tI_sR eS_93 t_153
  have t_155 : pI S_100 800 x = 0 := by rw [eS_100, pI_sN]; exact t_154
  have t_156 : pI S_109 800 x = 0 := tI_sR eS_109 t_155
  have t_158 : At S_109 x 188 := tAt_sR eS_109 t_108
  have t_157 : pI S_116 800 x = 0 := by rw [eS_116]; exact (pI_sO_ne (ne_of_new hq_115 t_158.1)).trans t_156
  have t_160 : At S_116 x 188 := by rw [eS_116]; exact At_sO t_158 hq_115
  have t_159 : pI S_123 800 x = 0 := (((hK_124 x t_160.1).2 (At_ne t_160 ha_121 (by decide))).2.1 800).trans t_157
  have t_161 : pI S_135 800 x = 0 := tI_sR eS_135 t_159
  have t_162 : pI S_2 806 x = 0 := by rw [eS_2, pI_sN]; exact (hzI 806)
  have t_163 : pI S_9 806 x = 0 := tI_sA eS_9 t_162
  have t_164 : pI S_17 806 x = 0 := tI_sA eS_17 t_163
  have t_165 : pI S_25 806 x = 0 := tI_sA eS_25 t_164
  have t_166 : pI S_33 806 x = 0 := tI_sA eS_33 t_165
  have t_167 : pI S_45 806 x = 0 := tI_sR eS_45 t_166
  have t_168 : pI S_52 806 x = 0 := by rw [eS_52, pI_sN]; exact t_167
  have t_169 : pI S_61 806 x = 0 := tI_sR eS_61 t_168
  have t_170 : pI S_68 806 x = 0 := by rw [eS_68, pI_sN]; exact t_169
  have t_171 : pI S_77 806 x = 0 := tI_sR eS_77 t_170
  have t_172 : pI S_84 806 x = 0 := by rw [eS_84, pI_sN]; exact t_171
  have t_173 : pI S_93 806 x = 0 := tI_sR eS_93 t_172
  have t_174 : pI S_100 806 x = 0 := by rw [eS_100, pI_sN]; exact t_173
  have t_175 : pI S_109 806 x = 0 := tI_sR eS_109 t_174
  have t_176 : pI S_116 806 x = 0 := by rw [eS_116]; exact (pI_sO_ne (ne_of_new hq_115 t_158.1)).trans t_175
  have t_177 : pI S_123 806 x = 0 := (((hK_124 x t_160.1).2 (At_ne t_160 ha_121 (by decide))).2.1 806).trans t_176
  have t_178 : pI S_135 806 x = 0 := tI_sR eS_135 t_177
  have t_179 : pR S_52 807 x = some q_1 := by rw [eS_52, pR_sN]; exact h_50
  have t_180 : pR S_61 807 x = some q_1 := tR_sR eS_61 rfl t_179
  have t_181 : pR S_68 807 x = some q_1 := by rw [eS_68, pR_sN]; exact t_180
  have t_182 : pR S_77 807 x = some q_1 := tR_sR eS_77 rfl t_181
  have t_183 : pR S_84 807 x = some q_1 := by rw [eS_84, pR_sN]; exact t_182
  have t_184 : pR S_93 807 x = some q_1 := tR_sR eS_93 rfl t_183
  have t_185 : pR S_100 807 x = some q_1 := by rw [eS_100, pR_sN]; exact t_184
  have t_186 : pR S_109 807 x = some q_1 := tR_sR eS_109 rfl t_185
  have t_187 : pR S_116 807 x = some q_1 := by rw [eS_116]; exact (pR_sO_ne (ne_of_new hq_115 t_158.1)).trans t_186
  have t_188 : pR S_123 807 x = some q_1 := (((hK_124 x t_160.1).2 (At_ne t_160 ha_121 (by decide))).2.2.1 807).trans t_187
  have t_189 : pR S_135 807 x = some q_1 := tR_sR eS_135 rfl t_188
  have t_190 : At S_45 q_1 154 := tAt_sR eS_45 t_44
  have t_191 : At S_52 q_1 154 := by rw [eS_52]; exact At_sN t_190 hq_51
  have t_192 : At S_61 q_1 154 := tAt_sR eS_61 t_191
  have t_193 : At S_68 q_1 154 := by rw [eS_68]; exact At_sN t_192 hq_67
  have t_194 : At S_77 q_1 154 := tAt_sR eS_77 t_193
  have t_195 : At S_84 q_1 154 := by rw [eS_84]; exact At_sN t_194 hq_83
  have t_196 : At S_93 q_1 154 := tAt_sR eS_93 t_195
  have t_197 : At S_100 q_1 154 := by rw [eS_100]; exact At_sN t_196 hq_99
  have t_198 : At S_109 q_1 154 := tAt_sR eS_109 t_197
  have t_199 : At S_116 q_1 154 := by rw [eS_116]; exact At_sO t_198 hq_115
  have t_200 : At S_123 q_1 154 := hK_124.at ha_121 t_199 (by decide)
  have t_201 : At S_135 q_1 154 := tAt_sR eS_135 t_200
  have t_202 : pN S_33 q_1 = 4 := tN_sA eS_33 t_32
  clear t_32
  have t_203 : pN S_45 q_1 = 4 := tN_sR eS_45 t_202
  clear t_202
  have t_205 : At S_45 q_1 154 := tAt_sR eS_45 t_44
  have t_204 : pN S_52 q_1 = 4 := by rw [eS_52]; exact (pN_sN_ne (ne_of_new hq_51 t_205.1)).trans t_203
  clear t_203
  have t_206 : pN S_61 q_1 = 4 := tN_sR eS_61 t_204
  clear t_204
  have t_208 : At S_52 q_1 154 := by rw [eS_52]; exact At_sN t_205 hq_51
  have t_209 : At S_61 q_1 154 := tAt_sR eS_61 t_208
  have t_207 : pN S_68 q_1 = 4 := by rw [eS_68]; exact (pN_sN_ne (ne_of_new hq_67 t_209.1)).trans t_206
  clear t_206
  have t_210 : pN S_77 q_1 = 4 := tN_sR eS_77 t_207
  clear t_207
  have t_212 : At S_68 q_1 154 := by rw [eS_68]; exact At_sN t_209 hq_67
  have t_213 : At S_77 q_1 154 := tAt_sR eS_77 t_212
  have t_211 : pN S_84 q_1 = 4 := by rw [eS_84]; exact (pN_sN_ne (ne_of_new hq_83 t_213.1)).trans t_210
  clear t_210
  have t_214 : pN S_93 q_1 = 4 := tN_sR eS_93 t_211
  clear t_211
  have t_216 : At S_84 q_1 154 := by rw [eS_84]; exact At_sN t_213 hq_83
  have t_217 : At S_93 q_1 154 := tAt_sR eS_93 t_216
  have t_215 : pN S_100 q_1 = 4 := by rw [eS_100]; exact (pN_sN_ne (ne_of_new hq_99 t_217.1)).trans t_214
  clear t_214
  have t_218 : pN S_109 q_1 = 4 := tN_sR eS_109 t_215
  clear t_215
  have t_219 : pN S_116 q_1 = 4 := by rw [eS_116, pN_sO]; exact t_218
  clear t_218
  have t_221 : At S_100 q_1 154 := by rw [eS_100]; exact At_sN t_217 hq_99
  have t_222 : At S_109 q_1 154 := tAt_sR eS_109 t_221
  have t_223 : At S_116 q_1 154 := by rw [eS_116]; exact At_sO t_222 hq_115
  have t_220 : pN S_123 q_1 = 4 := ((hK_124 q_1 t_223.1).2 (At_ne t_223 ha_121 (by decide))).2.2.2.1.trans t_219
  clear t_219
  have t_224 : pN S_135 q_1 = 4 := tN_sR eS_135 t_220
  clear t_220
  have t_225 : pR S_68 808 x = some q_51 := by rw [eS_68, pR_sN]; exact h_66
  have t_226 : pR S_77 808 x = some q_51 := tR_sR eS_77 rfl t_225
  have t_227 : pR S_84 808 x = some q_51 := by rw [eS_84, pR_sN]; exact t_226
  have t_228 : pR S_93 808 x = some q_51 := tR_sR eS_93 rfl t_227
  have t_229 : pR S_100 808 x = some q_51 := by rw [eS_100, pR_sN]; exact t_228
  have t_230 : pR S_109 808 x = some q_51 := tR_sR eS_109 rfl t_229
  have t_231 : pR S_116 808 x = some q_51 := by rw [eS_116]; exact (pR_sO_ne (ne_of_new hq_115 t_158.1)).trans t_230
  have t_232 : pR S_123 808 x = some q_51 := (((hK_124 x t_160.1).2 (At_ne t_160 ha_121 (by decide))).2.2.1 808).trans t_231
  have t_233 : pR S_135 808 x = some q_51 := tR_sR eS_135 rfl t_232
  have t_234 : At S_61 q_51 19 := tAt_sR eS_61 ha_57
  have t_235 : At S_68 q_51 19 := by rw [eS_68]; exact At_sN t_234 hq_67
  have t_236 : At S_77 q_51 19 := tAt_sR eS_77 t_235
  have t_237 : At S_84 q_51 19 := by rw [eS_84]; exact At_sN t_236 hq_83
  have t_238 : At S_93 q_51 19 := tAt_sR eS_93 t_237
  have t_239 : At S_100 q_51 19 := by rw [eS_100]; exact At_sN t_238 hq_99
  have t_240 : At S_109 q_51 19 := tAt_sR eS_109 t_239
  have t_241 : At S_116 q_51 19 := by rw [eS_116]; exact At_sO t_240 hq_115
  have t_242 : At S_123 q_51 19 := hK_124.at ha_121 t_241 (by decide)
  have t_243 : At S_135 q_51 19 := tAt_sR eS_135 t_242
  have t_244 : pN S_61 q_51 = 40 := tN_sR eS_61 hn_58
  clear hn_58
  have t_246 : At S_61 q_51 19 := tAt_sR eS_61 ha_57
  have t_245 : pN S_68 q_51 = 40 := by rw [eS_68]; exact (pN_sN_ne (ne_of_new hq_67 t_246.1)).trans t_244
  clear t_244
  have t_247 : pN S_77 q_51 = 40 := tN_sR eS_77 t_245
  clear t_245
  have t_249 : At S_68 q_51 19 := by rw [eS_68]; exact At_sN t_246 hq_67
  have t_250 : At S_77 q_51 19 := tAt_sR eS_77 t_249
  have t_248 : pN S_84 q_51 = 40 := by rw [eS_84]; exact (pN_sN_ne (ne_of_new hq_83 t_250.1)).trans t_247
  clear t_247
  have t_251 : pN S_93 q_51 = 40 := tN_sR eS_93 t_248
  clear t_248
  have t_253 : At S_84 q_51 19 := by rw [eS_84]; exact At_sN t_250 hq_83
  have t_254 : At S_93 q_51 19 := tAt_sR eS_93 t_253
  have t_252 : pN S_100 q_51 = 40 := by rw [eS_100]; exact (pN_sN_ne (ne_of_new hq_99 t_254.1)).trans t_251
  clear t_251
  have t_255 : pN S_109 q_51 = 40 := tN_sR eS_109 t_252
  clear t_252
  have t_256 : pN S_116 q_51 = 40 := by rw [eS_116, pN_sO]; exact t_255
  clear t_255
  have t_258 : At S_100 q_51 19 := by rw [eS_100]; exact At_sN t_254 hq_99
  have t_259 : At S_109 q_51 19 := tAt_sR eS_109 t_258
  have t_260 : At S_116 q_51 19 := by rw [eS_116]; exact At_sO t_259 hq_115
  have t_257 : pN S_123 q_51 = 40 := ((hK_124 q_51 t_260.1).2 (At_ne t_260 ha_121 (by decide))).2.2.2.1.trans t_256
  clear t_256
  have t_261 : pN S_135 q_51 = 40 := tN_sR eS_135 t_257
  clear t_257
  have t_262 : pR S_84 809 x = some q_67 := by rw [eS_84, pR_sN]; exact h_82
  have t_263 : pR S_93 809 x = some q_67 := tR_sR eS_93 rfl t_262
  have t_264 : pR S_100 809 x = some q_67 := by rw [eS_100, pR_sN]; exact t_263
  have t_265 : pR S_109 809 x = some q_67 := tR_sR eS_109 rfl t_264
  have t_266 : pR S_116 809 x = some q_67 := by rw [eS_116]; exact (pR_sO_ne (ne_of_new hq_115 t_158.1)).trans t_265
  have t_267 : pR S_123 809 x = some q_67 := (((hK_124 x t_160.1).2 (At_ne t_160 ha_121 (by decide))).2.2.1 809).trans t_266
  have t_268 : pR S_135 809 x = some q_67 := tR_sR eS_135 rfl t_267
  have t_269 : At S_77 q_67 174 := tAt_sR eS_77 ha_73
  have t_270 : At S_84 q_67 174 := by rw [eS_84]; exact At_sN t_269 hq_83
  have t_271 : At S_93 q_67 174 := tAt_sR eS_93 t_270
  have t_272 : At S_100 q_67 174 := by rw [eS_100]; exact At_sN t_271 hq_99
  have t_273 : At S_109 q_67 174 := tAt_sR eS_109 t_272
  have t_274 : At S_116 q_67 174 := by rw [eS_116]; exact At_sO t_273 hq_115
  have t_275 : At S_123 q_67 174 := hK_124.at ha_121 t_274 (by decide)
  have t_276 : At S_135 q_67 174 := tAt_sR eS_135 t_275
  have t_277 : pN S_77 q_67 = 40 := tN_sR eS_77 hn_74
  clear hn_74
  have t_279 : At S_77 q_67 174 := tAt_sR eS_77 ha_73
  have t_278 : pN S_84 q_67 = 40 := by rw [eS_84]; exact (pN_sN_ne (ne_of_new hq_83 t_279.1)).trans t_277
  clear t_277
  have t_280 : pN S_93 q_67 = 40 := tN_sR eS_93 t_278
  clear t_278
  have t_282 : At S_84 q_67 174 := by rw [eS_84]; exact At_sN t_279 hq_83
  have t_283 : At S_93 q_67 174 := tAt_sR eS_93 t_282
  have t_281 : pN S_100 q_67 = 40 := by rw [eS_100]; exact (pN_sN_ne (ne_of_new hq_99 t_283.1)).trans t_280
  clear t_280
  have t_284 : pN S_109 q_67 = 40 := tN_sR eS_109 t_281
  clear t_281
  have t_285 : pN S_116 q_67 = 40 := by rw [eS_116, pN_sO]; exact t_284
  clear t_284
  have t_287 : At S_100 q_67 174 := by rw [eS_100]; exact At_sN t_283 hq_99
  have t_288 : At S_109 q_67 174 := tAt_sR eS_109 t_287
  have t_289 : At S_116 q_67 174 := by rw [eS_116]; exact At_sO t_288 hq_115
  have t_286 : pN S_123 q_67 = 40 := ((hK_124 q_67 t_289.1).2 (At_ne t_289 ha_121 (by decide))).2.2.2.1.trans t_285
  clear t_285
  have t_290 : pN S_135 q_67 = 40 := tN_sR eS_135 t_286
  clear t_286
  have t_291 : pR S_100 810 x = some q_83 := by rw [eS_100, pR_sN]; exact h_98
  have t_292 : pR S_109 810 x = some q_83 := tR_sR eS_109 rfl t_291
  have t_293 : pR S_116 810 x = some q_83 := by rw [eS_116]; exact (pR_sO_ne (ne_of_new hq_115 t_158.1)).trans t_292
  have t_294 : pR S_123 810 x = some q_83 := (((hK_124 x t_160.1).2 (At_ne t_160 ha_121 (by decide))).2.2.1 810).trans t_293
  have t_295 : pR S_135 810 x = some q_83 := tR_sR eS_135 rfl t_294
  have t_296 : At S_93 q_83 174 := tAt_sR eS_93 ha_89
  have t_297 : At S_100 q_83 174 := by rw [eS_100]; exact At_sN t_296 hq_99
  have t_298 : At S_109 q_83 174 := tAt_sR eS_109 t_297
  have t_299 : At S_116 q_83 174 := by rw [eS_116]; exact At_sO t_298 hq_115
  have t_300 : At S_123 q_83 174 := hK_124.at ha_121 t_299 (by decide)
  have t_301 : At S_135 q_83 174 := tAt_sR eS_135 t_300
  have t_302 : pN S_93 q_83 = 40 := tN_sR eS_93 hn_90
  clear hn_90
  have t_304 : At S_93 q_83 174 := tAt_sR eS_93 ha_89
  have t_303 : pN S_100 q_83 = 40 := by rw [eS_100]; exact (pN_sN_ne (ne_of_new hq_99 t_304.1)).trans t_302
  clear t_302
  have t_305 : pN S_109 q_83 = 40 := tN_sR eS_109 t_303
  clear t_303
  have t_306 : pN S_116 q_83 = 40 := by rw [eS_116, pN_sO]; exact t_305
  clear t_305
  have t_308 : At S_100 q_83 174 := by rw [eS_100]; exact At_sN t_304 hq_99
  have t_309 : At S_109 q_83 174 := tAt_sR eS_109 t_308
  have t_310 : At S_116 q_83 174 := by rw [eS_116]; exact At_sO t_309 hq_115
  have t_307 : pN S_123 q_83 = 40 := ((hK_124 q_83 t_310.1).2 (At_ne t_310 ha_121 (by decide))).2.2.2.1.trans t_306
  clear t_306
  have t_311 : pN S_135 q_83 = 40 := tN_sR eS_135 t_307
  clear t_307
  have t_312 : pR S_116 811 x = some q_99 := by rw [eS_116]; exact (pR_sO_ne (ne_of_new hq_115 t_158.1)).trans h_114
  have t_313 : pR S_123 811 x = some q_99 := (((hK_124 x t_160.1).2 (At_ne t_160 ha_121 (by decide))).2.2.1 811).trans t_312
  have t_314 : pR S_135 811 x = some q_99 := tR_sR eS_135 rfl t_313
  have t_315 : At S_109 q_99 174 := tAt_sR eS_109 ha_105
  have t_316 : At S_116 q_99 174 := by rw [eS_116]; exact At_sO t_315 hq_115
  have t_317 : At S_123 q_99 174 := hK_124.at ha_121 t_316 (by decide)
  have t_318 : At S_135 q_99 174 := tAt_sR eS_135 t_317
  have t_319 : pN S_109 q_99 = 40 := tN_sR eS_109 hn_106
  clear hn_106
  have t_320 : pN S_116 q_99 = 40 := by rw [eS_116, pN_sO]; exact t_319
  clear t_319
  have t_322 : At S_109 q_99 174 := tAt_sR eS_109 ha_105
  have t_323 : At S_116 q_99 174 := by rw [eS_116]; exact At_sO t_322 hq_115
  have t_321 : pN S_123 q_99 = 40 := ((hK_124 q_99 t_323.1).2 (At_ne t_323 ha_121 (by decide))).2.2.2.1.trans t_320
  clear t_320
  have t_324 : pN S_135 q_99 = 40 := tN_sR eS_135 t_321
  clear t_321
  have t_325 : At S_135 q_115 2 := tAt_sR eS_135 ha_126
  obtain ⟨S_326, eS_326⟩ : ∃ T, T = sK S_135 x 8 := ⟨_, rfl⟩
  have hw := Wd_sK (k := 8) hw t_141 rfl; rw [← eS_326] at hw
  have hg9 : GX S_326 := by rw [eS_326]; exact GX_sK hg_139 t_141 (by decide +kernel) (mk_8 (by rw [pI_sK, t_161]; exact ⟨by rw [ti_0]; omega, by rw [ti_0]; omega⟩) (by rw [pI_sK, t_178]; exact ⟨by rw [ti_0]; omega, by rw [ti_0]; omega⟩) ⟨q_1, (by rw [pR_sK]; exact t_189), At_sK t_141 t_201 (by decide), by rw [pN_sK]; exact t_224⟩ ⟨q_51, (by rw [pR_sK]; exact t_233), At_sK t_141 t_243 (by decide), by rw [pN_sK]; exact t_261⟩ ⟨q_67, (by rw [pR_sK]; exact t_268), At_sK t_141 t_276 (by decide), by rw [pN_sK]; exact t_290⟩ ⟨q_83, (by rw [pR_sK]; exact t_295), At_sK t_141 t_301 (by decide), by rw [pN_sK]; exact t_311⟩ ⟨q_99, (by rw [pR_sK]; exact t_314), At_sK t_141 t_318 (by decide), by rw [pN_sK]; exact t_324⟩ ⟨q_115, (by rw [pR_sK]; exact h_140), At_sK t_141 t_325 (by decide)⟩)
  have ha9 : At S_326 x 8 := by rw [eS_326]; exact At_nK t_141
  have hk9 : Kq S S_326 x := hK_138.sK eS_326
  have hPhc9 : Phc S_326 = Phc S + 320 := by rw [show Phc S_326 = Ph fC 8 14400 S_326 from rfl, Ph_sK nd_142 t_141 (by decide) eS_326, ph_8 ha9 (show pI S_326 800 x = 0 by rw [eS_326, pI_sK]; exact t_161)]; show Phc S_135 + _ = _; omega
  have hPhs9 : Phs S_326 = Phs S + 604000 := by rw [show Phs S_326 = Ph fS 15100 46000 S_326 from rfl, Ph_sK nd_142 t_141 (by decide) eS_326, ph_8 ha9 (show pI S_326 800 x = 0 by rw [eS_326, pI_sK]; exact t_161)]; show Phs S_135 + _ = _; omega
  have t_327 : pI S_2 801 x = 0 := by rw [eS_2, pI_sN]; exact (hzI 801)
  have t_328 : pI S_9 801 x = 0 := tI_sA eS_9 t_327
  have t_329 : pI S_17 801 x = 0 := tI_sA eS_17 t_328
  have t_330 : pI S_25 801 x = 0 := tI_sA eS_25 t_329
  have t_331 : pI S_33 801 x = 0 := tI_sA eS_33 t_330
  have t_332 : pI S_45 801 x = 0 := tI_sR eS_45 t_331
  have t_333 : pI S_52 801 x = 0 := by rw [eS_52, pI_sN]; exact t_332
  have t_334 : pI S_61 801 x = 0 := tI_sR eS_61 t_333
  have t_335 : pI S_68 801 x = 0 := by rw [eS_68, pI_sN]; exact t_334
  have t_336 : pI S_77 801 x = 0 := tI_sR eS_77 t_335
  have t_337 : pI S_84 801 x = 0 := by rw [eS_84, pI_sN]; exact t_336
  have t_338 : pI S_93 801 x = 0 := tI_sR eS_93 t_337
  have t_339 : pI S_100 801 x = 0 := by rw [eS_100, pI_sN]; exact t_338
  have t_340 : pI S_109 801 x = 0 := tI_sR eS_109 t_339
  have t_341 : pI S_116 801 x = 0 := by rw [eS_116]; exact (pI_sO_ne (ne_of_new hq_115 t_158.1)).trans t_340
  have t_342 : pI S_123 801 x = 0 := (((hK_124 x t_160.1).2 (At_ne t_160 ha_121 (by decide))).2.1 801).trans t_341
  have t_343 : pI S_135 801 x = 0 := tI_sR eS_135 t_342
  exact ret_v X hw hr hlocks (Nat.le_of_ble_eq_true rfl) (Nat.le_of_ble_eq_true rfl) ⟨hk9, hg9, ha9, hPhc9, hPhs9, (by rw [eS_326, pI_sK]; exact t_343), (by rw [eS_326, pI_sK]; exact t_161)⟩ dX8_init_75
set_option maxHeartbeats 4000000 in
set_option maxRecDepth 100000 in
theorem k_X11_init6 (l : Launch) (G : va_G) (cy : Nat → ClassId) (κ : Nat → Nat) (S : PS) (sz : Nat) (x : Nat) (hG : GX S) (ha_x : At S x 191) (hzI : ∀ g, pI S g x = 0) (hzR : ∀ g, pR S g x = none) : Cv l yX11_init wsX11_init ({ frames := 4, cells := 58, slots := 1728, locals := 192 }) G cy κ S sz [.ref x] (fun (S9 : PS) => Kq S S9 x ∧ GX S9 ∧ At S9 x 11 ∧ Phc S9 = Phc S + 57920 ∧ Phs S9 = Phs S + 788000 ∧ ∃ q, pR S9 1107 x = some q ∧ At S9 q 8 ∧ pI S9 801 q = 0 ∧ pI S9 1102 x = 0 ∧ pI S9 1104 x = 0 ∧ ∃ u, pR S9 1105 x = some u ∧ At S9 u 10 ∧ pI S9 1000 u = 0 ∧ ∃ sh, pR S9 1109 x = some sh ∧ ShI S9 sh 16 ∧ pI S9 800 q = 0 ∧ ∃ rh, pR S9 1106 x = some rh ∧ RuD S9 rh) := by
  refine ent_m (cc := cX11_init) (maxL := 2) (ret := none) (by decide) rfl (Nat.le_of_ble_eq_true rfl) ?_
  intro p e s m below meth c ls X hr hlocks hin hw hl hsz
  subst hsz
  have X : Cx p c cX11_init 2 s [.ref x].toArray wsX11_init RX11 m G cy κ (AS S s.heap.size) := X
  have hl : lv_has ls 2 [(0, .ref x)] := hl
  have hpc0 : Phc S = Phc S + 0 := rfl
  have hps0 : Phs S = Phs S + 0 := rfl
  have hK : Kq S S x := Kq.rf S _
  generalize hQQ : MQ below _ _ _ _ _ _ = QQ
  replace hQQ := hQQ.symm
  refine lv_aload_n X.1 X.2.1 dX11_init_0 rfl (lv_at hl 0 rfl) ?_
  refine W.objInit X.1 X.2.1 X.2.2.2.2.1 (X.2.2.2.1 (.methodLink RX11 3 objectInit) (by decide +kernel)) (X.2.2.2.1 (.instanceMethod objectInit) (by decide +kernel)) (X.2.2.2.1 (.code objectInit ⟨#[0xb1]⟩ 1 none) (by decide +kernel)) rfl (hl.1.trans X.2.2.1.symm) rfl dX11_init_1 (Nat.le_of_ble_eq_true rfl) (Nat.le_of_ble_eq_true rfl) ?_
  refine W.eq (g2 := F0 m 4 ls ([])) rfl ?_
  refine lv_aload_n X.1 X.2.1 dX11_init_4 rfl (lv_at hl 0 rfl) ?_
  refine lv_sipush (v := 600) X.1 X.2.1 dX11_init_5 (by decide) ?_
  refine r_newQ (N := 600) (C := RX0) X hw 36 16 600 1 rfl (by decide) rfl (X.2.2.2.1 (.classLink RX11 9 RX0) (by decide +kernel)) X.2.2.2.2.2.2.2.1.1.1 (z_nn ti_600 (by omega)) (by decide) (by decide) (by show 0 + 1 ≤ 1; omega) (by show 0 + 600 ≤ 600; omega) (by show 1 ≤ 58; omega) (by show 600 ≤ 1728; omega) dX11_init_8 (fun q_1 H hq_1 hw => ?_)
  obtain ⟨S_2, eS_2⟩ : ∃ T, T = sN S q_1 36 600 := ⟨_, rfl⟩
  rw [← eS_2] at hw
  have ph_3 : Phc S_2 = Phc S + 0 := (show Phc S_2 = Phc S from Ph_sN' hG.ci hq_1 eS_2 (by decide)).trans hpc0
  have ph_4 : Phs S_2 = Phs S + 0 := (show Phs S_2 = Phs S from Ph_sN' hG.ci hq_1 eS_2 (by decide)).trans hps0
  clear hpc0
  clear hps0
  have hK_5 : Kq S S_2 x := hK.sN hq_1 eS_2
  have hg_6 : GX S_2 := by rw [eS_2]; exact GX_N hG hq_1 (by decide +kernel)
  have hn0_q_1 := hK.new hq_1
  have ha_7 : At S_2 q_1 36 := by rw [eS_2]; exact At_nN _ _ _ _
  have hn_8 : pN S_2 q_1 = 600 := by rw [eS_2]; exact pN_sN_new
  have t_9 : At S_2 x 191 := by rw [eS_2]; exact At_sN ha_x hq_1
  refine r_putR X hw t_9 rfl 0 1100 (some q_1) rfl tyX11 (by decide) rfl inn_X11_init_11 tyX11_ok nmX11 (by decide) (X.2.2.2.1 (.fieldLink RX11 11 "SilkMill" "cocoons" "[LSilkMill$Cocoon;") (by decide +kernel)) rfl (Or.inr ⟨rfl, hin, rfl⟩) (fun _ => rfl) rfl (fun _ => rfl) rfl (Nat.le_of_ble_eq_true rfl) (st_1100 _ _) dX11_init_11 (fun H locs hw => ?_)
  obtain ⟨S_10, eS_10⟩ : ∃ T, T = sR S_2 1100 x (some q_1) := ⟨_, rfl⟩
  rw [← eS_10] at hw
  have ph_11 : Phc S_10 = Phc S + 0 := (show Phc S_10 = Phc S_2 from Ph_rawR t_9 (by decide) eS_10).trans ph_3
  have ph_12 : Phs S_10 = Phs S + 0 := (show Phs S_10 = Phs S_2 from Ph_rawR t_9 (by decide) eS_10).trans ph_4
  clear ph_3
  clear ph_4
  have hK_13 : Kq S S_10 x := hK_5.sR eS_10
  have hg_14 : GX S_10 := by rw [eS_10]; exact GX_rawR hg_6 t_9 (by decide +kernel)
  have h_15 : pR S_10 1100 x = some q_1 := tR_sRs eS_10
  refine lv_aload_n X.1 X.2.1 dX11_init_14 rfl (lv_at hl 0 rfl) ?_
  refine lv_bipush (v := 10) X.1 X.2.1 dX11_init_15 (by decide) ?_
  refine r_newI (N := 10) X hw 54 610 2 rfl (X.2.2.2.1 (.arrayClass .int) (by decide +kernel)) (z_nn ti_10 (by omega)) (by decide) (by decide) (by show 1 + 1 ≤ 2; omega) (by show 600 + 10 ≤ 610; omega) (by show 2 ≤ 58; omega) (by show 610 ≤ 1728; omega) dX11_init_17 (fun q_16 H hq_16 hw => ?_)
  obtain ⟨S_17, eS_17⟩ : ∃ T, T = sN S_10 q_16 54 10 := ⟨_, rfl⟩
  rw [← eS_17] at hw
  have ph_18 : Phc S_17 = Phc S + 0 := (show Phc S_17 = Phc S_10 from Ph_sN' hg_14.ci hq_16 eS_17 (by decide)).trans ph_11
  have ph_19 : Phs S_17 = Phs S + 0 := (show Phs S_17 = Phs S_10 from Ph_sN' hg_14.ci hq_16 eS_17 (by decide)).trans ph_12
  clear ph_11
  clear ph_12
  have hK_20 : Kq S S_17 x := hK_13.sN hq_16 eS_17
  have hg_21 : GX S_17 := by rw [eS_17]; exact GX_N hg_14 hq_16 (by decide +kernel)
  have hn0_q_16 := hK_13.new hq_16
  have ha_22 : At S_17 q_16 54 := by rw [eS_17]; exact At_nN _ _ _ _
  have hn_23 : pN S_17 q_16 = 10 := by rw [eS_17]; exact pN_sN_new
  have t_24 : At S_10 x 191 := tAt_sR eS_10 t_9
  have t_25 : At S_17 x 191 := by rw [eS_17]; exact At_sN t_24 hq_16
  refine r_putR X hw t_25 rfl 1 1101 (some q_16) rfl tyX11 (by decide) rfl inn_X11_init_11 tyX11_ok nmX11 (by decide) (X.2.2.2.1 (.fieldLink RX11 15 "SilkMill" "lotSizes" "[I") (by decide +kernel)) rfl (Or.inr ⟨rfl, hin, rfl⟩) (fun _ => rfl) rfl (fun _ => rfl) rfl (Nat.le_of_ble_eq_true rfl) (st_1101 _ _) dX11_init_19 (fun H locs hw => ?_)
  obtain ⟨S_26, eS_26⟩ : ∃ T, T = sR S_17 1101 x (some q_16) := ⟨_, rfl⟩
  rw [← eS_26] at hw
  have ph_27 : Phc S_26 = Phc S + 0 := (show Phc S_26 = Phc S_17 from Ph_rawR t_25 (by decide) eS_26).trans ph_18
  have ph_28 : Phs S_26 = Phs S + 0 := (show Phs S_26 = Phs S_17 from Ph_rawR t_25 (by decide) eS_26).trans ph_19
  clear ph_18
  clear ph_19
  have hK_29 : Kq S S_26 x := hK_20.sR eS_26
  have hg_30 : GX S_26 := by rw [eS_26]; exact GX_rawR hg_21 t_25 (by decide +kernel)
  have h_31 : pR S_26 1101 x = some q_16 := tR_sRs eS_26
  refine lv_aload_n X.1 X.2.1 dX11_init_22 rfl (lv_at hl 0 rfl) ?_
  refine lv_iconst (v := 4) X.1 X.2.1 dX11_init_23 (by decide) ?_
  refine r_newQ (N := 4) (C := RX4) X hw 18 18 614 3 rfl (by decide) rfl (X.2.2.2.1 (.classLink RX11 19 RX4) (by decide +kernel)) X.2.2.2.2.2.2.2.1.1.2.2.1 (z_nn ti_4 (by omega)) (by decide) (by decide) (by show 2 + 1 ≤ 3; omega) (by show 610 + 4 ≤ 614; omega) (by show 3 ≤ 58; omega) (by show 614 ≤ 1728; omega) dX11_init_24 (fun q_32 H hq_32 hw => ?_)
  obtain ⟨S_33, eS_33⟩ : ∃ T, T = sN S_26 q_32 18 4 := ⟨_, rfl⟩
  rw [← eS_33] at hw
  have ph_34 : Phc S_33 = Phc S + 0 := (show Phc S_33 = Phc S_26 from Ph_sN' hg_30.ci hq_32 eS_33 (by decide)).trans ph_27
  have ph_35 : Phs S_33 = Phs S + 0 := (show Phs S_33 = Phs S_26 from Ph_sN' hg_30.ci hq_32 eS_33 (by decide)).trans ph_28
  clear ph_27
  clear ph_28
  have hK_36 : Kq S S_33 x := hK_29.sN hq_32 eS_33
  have hg_37 : GX S_33 := by rw [eS_33]; exact GX_N hg_30 hq_32 (by decide +kernel)
  have hn0_q_32 := hK_29.new hq_32
  have ha_38 : At S_33 q_32 18 := by rw [eS_33]; exact At_nN _ _ _ _
  have hn_39 : pN S_33 q_32 = 4 := by rw [eS_33]; exact pN_sN_new
  have t_40 : At S_26 x 191 := tAt_sR eS_26 t_25
  have t_41 : At S_33 x 191 := by rw [eS_33]; exact At_sN t_40 hq_32
  refine r_putR X hw t_41 rfl 3 1103 (some q_32) rfl tyX11 (by decide) rfl inn_X11_init_11 tyX11_ok nmX11 (by decide) (X.2.2.2.1 (.fieldLink RX11 21 "SilkMill" "pots" "[LSilkMill$Pot;") (by decide +kernel)) rfl (Or.inr ⟨rfl, hin, rfl⟩) (fun _ => rfl) rfl (fun _ => rfl) rfl (Nat.le_of_ble_eq_true rfl) (st_1103 _ _) dX11_init_27 (fun H locs hw => ?_)
  obtain ⟨S_42, eS_42⟩ : ∃ T, T = sR S_33 1103 x (some q_32) := ⟨_, rfl⟩
  rw [← eS_42] at hw
  have ph_43 : Phc S_42 = Phc S + 0 := (show Phc S_42 = Phc S_33 from Ph_rawR t_41 (by decide) eS_42).trans ph_34
  have ph_44 : Phs S_42 = Phs S + 0 := (show Phs S_42 = Phs S_33 from Ph_rawR t_41 (by decide) eS_42).trans ph_35
  clear ph_34
  clear ph_35
  have hK_45 : Kq S S_42 x := hK_36.sR eS_42
  have hg_46 : GX S_42 := by rw [eS_42]; exact GX_rawR hg_37 t_41 (by decide +kernel)
  have h_47 : pR S_42 1103 x = some q_32 := tR_sRs eS_42
  refine lv_aload_n X.1 X.2.1 dX11_init_30 rfl (lv_at hl 0 rfl) ?_
  refine r_new X hw 190 10 621 4 rfl tyX10 (by decide) rfl inn_X11_init_10 tyX10_ok (X.2.2.2.1 (.classLink RX11 25 RX10) (by decide +kernel)) (X.2.2.2.1 (.instantiable RX10 7) (by decide +kernel)) (X.2.2.2.1 (.initialized RX10) (by decide +kernel)) (zo_10 _) zd_10 (by show 3 + 1 ≤ 4; omega) (by show 614 + 7 ≤ 621; omega) (by show 4 ≤ 58; omega) (by show 621 ≤ 1728; omega) dX11_init_31 (fun q_48 H hq_48 hw => ?_)
  obtain ⟨S_49, eS_49⟩ : ∃ T, T = sO S_42 q_48 190 := ⟨_, rfl⟩
  rw [← eS_49] at hw
  have ph_50 : Phc S_49 = Phc S + 0 := (show Phc S_49 = Phc S_42 from Ph_sO hg_46 hq_48 eS_49 (by decide)).trans ph_43
  have ph_51 : Phs S_49 = Phs S + 0 := (show Phs S_49 = Phs S_42 from Ph_sO hg_46 hq_48 eS_49 (by decide)).trans ph_44
  clear ph_43
  clear ph_44
  have hK_52 : Kq S S_49 x := hK_45.sO hq_48 eS_49
  have hg_53 : GX S_49 := by rw [eS_49]; exact GX_O hg_46 hq_48 (by decide +kernel)
  have hn0_q_48 := hK_45.new hq_48
  have ha_54 : At S_49 q_48 190 := by rw [eS_49]; exact At_nO _ _ _
  have hzI_q_48 : ∀ g, pI S_49 g q_48 = 0 := fun g => by rw [eS_49]; exact pI_sO_new
  have hzR_q_48 : ∀ g, pR S_49 g q_48 = none := fun g => by rw [eS_49]; exact if_pos rfl
  refine lv_dup X.1 X.2.1 dX11_init_34 rfl ?_
  refine k_v (rm := { frames := 2, cells := 1, slots := 400, locals := 96 }) (av := [.ref q_48]) X hw (va_runIN (As := []) (rest := [.ref q_48, .ref x]) (cfix X) (k_X10_init l G cy κ S_49 _ q_48 hg_53 ha_54 hzI_q_48 hzR_q_48) ⟨(va_cnB (host := RX11) 0 X.2.2.2.1 gX11_init_X10_init_n27 rfl rfl rfl (X.2.2.2.2.2.2.2.1.2.1 (RX11, 27, yX10_init) (by decide +kernel)) (X.2.2.2.1 (.initialized RX10) (by decide +kernel)) (by decide +kernel) ⟨Nat.le_of_ble_eq_true rfl, Nat.le_of_ble_eq_true rfl⟩), rfl, (X.2.2.2.1 (.instanceMethod yX10_init) (by decide +kernel))⟩ (pre_S X hw _) rfl rfl hl.1 rfl (lv_room (Nat.le_of_ble_eq_true rfl)) dX11_init_35 ⟨(by show 4 + 1 ≤ 58; omega), (by show 621 + 400 ≤ 1728; omega)⟩) 5 1021 (by show 4 + 1 ≤ 5; omega) (by show 621 + 400 ≤ 1021; omega) (fun S_56 H locs hp hw hfr hnw => ?_)
  obtain ⟨hK_57, hg_58, ha_59, ph_60, ph_61, kz_62⟩ := hp
  have hK_63 : Kq S S_56 x := hK_52.sub hn0_q_48 hK_57
  have ph_64 : Phc S_56 = Phc S + 0 := by omega
  have ph_65 : Phs S_56 = Phs S + 0 := by omega
  clear ph_50
  clear ph_51
  clear ph_60
  clear ph_61
  have t_66 : At S_42 x 191 := tAt_sR eS_42 t_41
  have t_67 : At S_49 x 191 := by rw [eS_49]; exact At_sO t_66 hq_48
  have t_68 : At S_56 x 191 := hK_57.at ha_54 t_67 (by decide)
  refine r_putR X hw t_68 rfl 5 1105 (some q_48) rfl tyX11 (by decide) rfl inn_X11_init_11 tyX11_ok nmX11 (by decide) (X.2.2.2.1 (.fieldLink RX11 28 "SilkMill" "tape" "LSilkMill$Tape;") (by decide +kernel)) rfl (Or.inr ⟨rfl, hin, rfl⟩) (fun _ => rfl) rfl (fun _ => rfl) rfl (Nat.le_of_ble_eq_true rfl) (st_1105 _ _) dX11_init_38 (fun H locs hw => ?_)
  obtain ⟨S_69, eS_69⟩ : ∃ T, T = sR S_56 1105 x (some q_48) := ⟨_, rfl⟩
  rw [← eS_69] at hw
  have ph_70 : Phc S_69 = Phc S + 0 := (show Phc S_69 = Phc S_56 from Ph_rawR t_68 (by decide) eS_69).trans ph_64
  have ph_71 : Phs S_69 = Phs S + 0 := (show Phs S_69 = Phs S_56 from Ph_rawR t_68 (by decide) eS_69).trans ph_65
  clear ph_64
  clear ph_65
  have hK_72 : Kq S S_69 x := hK_63.sR eS_69
  have hg_73 : GX S_69 := by rw [eS_69]; exact GX_rawR hg_58 t_68 (by decide +kernel)
  have h_74 : pR S_69 1105 x = some q_48 := tR_sRs eS_69
  refine lv_aload_n X.1 X.2.1 dX11_init_41 rfl (lv_at hl 0 rfl) ?_
  refine r_new X hw 186 6 1028 6 rfl tyX6 (by decide) rfl inn_X11_init_6 tyX6_ok (X.2.2.2.1 (.classLink RX11 32 RX6) (by decide +kernel)) (X.2.2.2.1 (.instantiable RX6 7) (by decide +kernel)) (X.2.2.2.1 (.initialized RX6) (by decide +kernel)) (zo_6 _) zd_6 (by show 5 + 1 ≤ 6; omega) (by show 1021 + 7 ≤ 1028; omega) (by show 6 ≤ 58; omega) (by show 1028 ≤ 1728; omega) dX11_init_42 (fun q_75 H hq_75 hw => ?_)
  obtain ⟨S_76, eS_76⟩ : ∃ T, T = sO S_69 q_75 186 := ⟨_, rfl⟩
  rw [← eS_76] at hw
  have ph_77 : Phc S_76 = Phc S + 0 := (show Phc S_76 = Phc S_69 from Ph_sO hg_73 hq_75 eS_76 (by decide)).trans ph_70
  have ph_78 : Phs S_76 = Phs S + 0 := (show Phs S_76 = Phs S_69 from Ph_sO hg_73 hq_75 eS_76 (by decide)).trans ph_71
  clear ph_70
  clear ph_71
  have hK_79 : Kq S S_76 x := hK_72.sO hq_75 eS_76
  have hg_80 : GX S_76 := by rw [eS_76]; exact GX_O hg_73 hq_75 (by decide +kernel)
  have hn0_q_75 := hK_72.new hq_75
  have ha_81 : At S_76 q_75 186 := by rw [eS_76]; exact At_nO _ _ _
  have hzI_q_75 : ∀ g, pI S_76 g q_75 = 0 := fun g => by rw [eS_76]; exact pI_sO_new
  have hzR_q_75 : ∀ g, pR S_76 g q_75 = none := fun g => by rw [eS_76]; exact if_pos rfl
  refine lv_dup X.1 X.2.1 dX11_init_45 rfl ?_
  refine k_v (rm := { frames := 2, cells := 6, slots := 180, locals := 96 }) (av := [.ref q_75]) X hw (va_runIN (As := []) (rest := [.ref q_75, .ref x]) (cfix X) (k_X6_init6 l G cy κ S_76 _ q_75 hg_80 ha_81 hzI_q_75 hzR_q_75) ⟨(va_cnB (host := RX11) 0 X.2.2.2.1 gX11_init_X6_init_n34 rfl rfl rfl (X.2.2.2.2.2.2.2.1.2.1 (RX11, 34, yX6_init) (by decide +kernel)) (X.2.2.2.1 (.initialized RX6) (by decide +kernel)) (by decide +kernel) ⟨Nat.le_of_ble_eq_true rfl, Nat.le_of_ble_eq_true rfl⟩), rfl, (X.2.2.2.1 (.instanceMethod yX6_init) (by decide +kernel))⟩ (pre_S X hw _) rfl rfl hl.1 rfl (lv_room (Nat.le_of_ble_eq_true rfl)) dX11_init_46 ⟨(by show 6 + 6 ≤ 58; omega), (by show 1028 + 180 ≤ 1728; omega)⟩) 12 1208 (by show 6 + 6 ≤ 12; omega) (by show 1028 + 180 ≤ 1208; omega) (fun S_83 H locs hp hw hfr hnw => ?_)
  obtain ⟨hK_84, hg_85, ha_86, ph_87, ph_88, kx_89, kx_90⟩ := hp
  have hK_91 : Kq S S_83 x := hK_79.sub hn0_q_75 hK_84
  have ph_92 : Phc S_83 = Phc S + 0 := by omega
  have ph_93 : Phs S_83 = Phs S + 0 := by omega
  clear ph_77
  clear ph_78
  clear ph_87
  clear ph_88
  obtain ⟨q_94, h_95, h_96, h_97⟩ := gQ_6_601 hg_85 ha_86
  obtain ⟨q_98, h_99, h_100, h_101⟩ := gQ_6_602 hg_85 ha_86
  obtain ⟨q_102, h_103, h_104, h_105⟩ := gQ_6_604 hg_85 ha_86
  obtain ⟨q_106, h_107, h_108, h_109⟩ := gQ_6_605 hg_85 ha_86
  obtain ⟨q_110, h_111, h_112, h_113⟩ := gQ_6_606 hg_85 ha_86
  have rd_114 : q_94 ≠ q_98 ∧ q_94 ≠ q_102 ∧ q_94 ≠ q_106 ∧ q_94 ≠ q_110 ∧ q_98 ≠ q_102 ∧ q_98 ≠ q_106 ∧ q_98 ≠ q_110 ∧ q_102 ≠ q_106 ∧ q_102 ≠ q_110 ∧ q_106 ≠ q_110 := by
    obtain ⟨a1, a2, a4, a5, a6, ⟨b1, b2, b4, b5, b6⟩, c⟩ := kx_90.1
    rw [h_95] at b1; cases b1
    rw [h_99] at b2; cases b2
    rw [h_103] at b4; cases b4
    rw [h_107] at b5; cases b5
    rw [h_111] at b6; cases b6
    exact c
  have t_115 : At S_69 x 191 := tAt_sR eS_69 t_68
  have t_116 : At S_76 x 191 := by rw [eS_76]; exact At_sO t_115 hq_75
  have t_117 : At S_83 x 191 := hK_84.at ha_81 t_116 (by decide)
  refine r_putR X hw t_117 rfl 6 1106 (some q_75) rfl tyX11 (by decide) rfl inn_X11_init_11 tyX11_ok nmX11 (by decide) (X.2.2.2.1 (.fieldLink RX11 35 "SilkMill" "spareRules" "LSilkMill$Rules;") (by decide +kernel)) rfl (Or.inl rfl) (fun _ => rfl) rfl (fun _ => rfl) rfl (Nat.le_of_ble_eq_true rfl) (st_1106 _ _) dX11_init_49 (fun H locs hw => ?_)
  obtain ⟨S_118, eS_118⟩ : ∃ T, T = sR S_83 1106 x (some q_75) := ⟨_, rfl⟩
  rw [← eS_118] at hw
  have ph_119 : Phc S_118 = Phc S + 0 := (show Phc S_118 = Phc S_83 from Ph_rawR t_117 (by decide) eS_118).trans ph_92
  have ph_120 : Phs S_118 = Phs S + 0 := (show Phs S_118 = Phs S_83 from Ph_rawR t_117 (by decide) eS_118).trans ph_93
  clear ph_92
  clear ph_93
  have hK_121 : Kq S S_118 x := hK_91.sR eS_118
  have hg_122 : GX S_118 := by rw [eS_118]; exact GX_rawR hg_85 t_117 (by decide +kernel)
  have h_123 : pR S_118 1106 x = some q_75 := tR_sRs eS_118
  refine lv_aload_n X.1 X.2.1 dX11_init_52 rfl (lv_at hl 0 rfl) ?_
  refine r_new X hw 188 8 1221 13 rfl tyX8 (by decide) rfl inn_X11_init_8 tyX8_ok (X.2.2.2.1 (.classLink RX11 39 RX8) (by decide +kernel)) (X.2.2.2.1 (.instantiable RX8 13) (by decide +kernel)) (X.2.2.2.1 (.initialized RX8) (by decide +kernel)) (zo_8 _) zd_8 (by show 12 + 1 ≤ 13; omega) (by show 1208 + 13 ≤ 1221; omega) (by show 13 ≤ 58; omega) (by show 1221 ≤ 1728; omega) dX11_init_53 (fun q_124 H hq_124 hw => ?_)
  obtain ⟨S_125, eS_125⟩ : ∃ T, T = sO S_118 q_124 188 := ⟨_, rfl⟩
  rw [← eS_125] at hw
  have ph_126 : Phc S_125 = Phc S + 0 := (show Phc S_125 = Phc S_118 from Ph_sO hg_122 hq_124 eS_125 (by decide)).trans ph_119
  have ph_127 : Phs S_125 = Phs S + 0 := (show Phs S_125 = Phs S_118 from Ph_sO hg_122 hq_124 eS_125 (by decide)).trans ph_120
  clear ph_119
  clear ph_120
  have hK_128 : Kq S S_125 x := hK_121.sO hq_124 eS_125
  have hg_129 : GX S_125 := by rw [eS_125]; exact GX_O hg_122 hq_124 (by decide +kernel)
  have hn0_q_124 := hK_121.new hq_124
  have ha_130 : At S_125 q_124 188 := by rw [eS_125]; exact At_nO _ _ _
  have hzI_q_124 : ∀ g, pI S_125 g q_124 = 0 := fun g => by rw [eS_125]; exact pI_sO_new
  have hzR_q_124 : ∀ g, pR S_125 g q_124 = none := fun g => by rw [eS_125]; exact if_pos rfl
  refine lv_dup X.1 X.2.1 dX11_init_56 rfl ?_
  refine k_v (rm := { frames := 3, cells := 9, slots := 214, locals := 144 }) (av := [.ref q_124]) X hw (va_runIN (As := []) (rest := [.ref q_124, .ref x]) (cfix X) (k_X8_init6 l G cy κ S_125 _ q_124 hg_129 ha_130 hzI_q_124 hzR_q_124) ⟨(va_cnB (host := RX11) 0 X.2.2.2.1 gX11_init_X8_init_n41 rfl rfl rfl (X.2.2.2.2.2.2.2.1.2.1 (RX11, 41, yX8_init) (by decide +kernel)) (X.2.2.2.1 (.initialized RX8) (by decide +kernel)) (by decide +kernel) ⟨Nat.le_of_ble_eq_true rfl, Nat.le_of_ble_eq_true rfl⟩), rfl, (X.2.2.2.1 (.instanceMethod yX8_init) (by decide +kernel))⟩ (pre_S X hw _) rfl rfl hl.1 rfl (lv_room (Nat.le_of_ble_eq_true rfl)) dX11_init_57 ⟨(by show 13 + 9 ≤ 58; omega), (by show 1221 + 214 ≤ 1728; omega)⟩) 22 1435 (by show 13 + 9 ≤ 22; omega) (by show 1221 + 214 ≤ 1435; omega) (fun S_132 H locs hp hw hfr hnw => ?_)
  obtain ⟨hK_133, hg_134, ha_135, ph_136, ph_137, kz_138, kz_139⟩ := hp
  have hK_140 : Kq S S_132 x := hK_128.sub hn0_q_124 hK_133
  have ph_141 : Phc S_132 = Phc S + 320 := by omega
  have ph_142 : Phs S_132 = Phs S + 604000 := by omega
  clear ph_126
  clear ph_127
  clear ph_136
  clear ph_137
  have t_143 : At S_118 x 191 := tAt_sR eS_118 t_117
  have t_144 : At S_125 x 191 := by rw [eS_125]; exact At_sO t_143 hq_124
  have t_145 : At S_132 x 191 := hK_133.at ha_130 t_144 (by decide)
  refine r_putR X hw t_145 rfl 7 1107 (some q_124) rfl tyX11 (by decide) rfl inn_X11_init_11 tyX11_ok nmX11 (by decide) (X.2.2.2.1 (.fieldLink RX11 42 "SilkMill" "store" "LSilkMill$Store;") (by decide +kernel)) rfl (Or.inr ⟨rfl, hin, rfl⟩) (fun _ => rfl) rfl (fun _ => rfl) rfl (Nat.le_of_ble_eq_true rfl) (st_1107 _ _) dX11_init_60 (fun H locs hw => ?_)
  obtain ⟨S_146, eS_146⟩ : ∃ T, T = sR S_132 1107 x (some q_124) := ⟨_, rfl⟩
  rw [← eS_146] at hw
  have ph_147 : Phc S_146 = Phc S + 320 := (show Phc S_146 = Phc S_132 from Ph_rawR t_145 (by decide) eS_146).trans ph_141
  have ph_148 : Phs S_146 = Phs S + 604000 := (show Phs S_146 = Phs S_132 from Ph_rawR t_145 (by decide) eS_146).trans ph_142
  clear ph_141
  clear ph_142
  have hK_149 : Kq S S_146 x := hK_140.sR eS_146
  have hg_150 : GX S_146 := by rw [eS_146]; exact GX_rawR hg_134 t_145 (by decide +kernel)
  have h_151 : pR S_146 1107 x = some q_124 := tR_sRs eS_146
  refine lv_aload_n X.1 X.2.1 dX11_init_63 rfl (lv_at hl 0 rfl) ?_
  refine r_new X hw 181 1 1439 23 rfl tyX1 (by decide) rfl inn_X11_init_1 tyX1_ok (X.2.2.2.1 (.classLink RX11 46 RX1) (by decide +kernel)) (X.2.2.2.1 (.instantiable RX1 4) (by decide +kernel)) (X.2.2.2.1 (.initialized RX1) (by decide +kernel)) (zo_1 _) zd_1 (by show 22 + 1 ≤ 23; omega) (by show 1435 + 4 ≤ 1439; omega) (by show 23 ≤ 58; omega) (by show 1439 ≤ 1728; omega) dX11_init_64 (fun q_152 H hq_152 hw => ?_)
  obtain ⟨S_153, eS_153⟩ : ∃ T, T = sO S_146 q_152 181 := ⟨_, rfl⟩
  rw [← eS_153] at hw
  have ph_154 : Phc S_153 = Phc S + 320 := (show Phc S_153 = Phc S_146 from Ph_sO hg_150 hq_152 eS_153 (by decide)).trans ph_147
  have ph_155 : Phs S_153 = Phs S + 604000 := (show Phs S_153 = Phs S_146 from Ph_sO hg_150 hq_152 eS_153 (by decide)).trans ph_148
  clear ph_147
  clear ph_148
  have hK_156 : Kq S S_153 x := hK_149.sO hq_152 eS_153
  have hg_157 : GX S_153 := by rw [eS_153]; exact GX_O hg_150 hq_152 (by decide +kernel)
  have hn0_q_152 := hK_149.new hq_152
  have ha_158 : At S_153 q_152 181 := by rw [eS_153]; exact At_nO _ _ _
  have hzI_q_152 : ∀ g, pI S_153 g q_152 = 0 := fun g => by rw [eS_153]; exact pI_sO_new
  have hzR_q_152 : ∀ g, pR S_153 g q_152 = none := fun g => by rw [eS_153]; exact if_pos rfl
  refine lv_dup X.1 X.2.1 dX11_init_67 rfl ?_
  refine k_v (rm := { frames := 2, cells := 1, slots := 5, locals := 96 }) (av := [.ref q_152]) X hw (va_runIN (As := []) (rest := [.ref q_152, .ref x]) (cfix X) (k_X1_init l G cy κ S_153 _ q_152 hg_157 ha_158 hzI_q_152 hzR_q_152) ⟨(va_cnB (host := RX11) 0 X.2.2.2.1 gX11_init_X1_init_n48 rfl rfl rfl (X.2.2.2.2.2.2.2.1.2.1 (RX11, 48, yX1_init) (by decide +kernel)) (X.2.2.2.1 (.initialized RX1) (by decide +kernel)) (by decide +kernel) ⟨Nat.le_of_ble_eq_true rfl, Nat.le_of_ble_eq_true rfl⟩), rfl, (X.2.2.2.1 (.instanceMethod yX1_init) (by decide +kernel))⟩ (pre_S X hw _) rfl rfl hl.1 rfl (lv_room (Nat.le_of_ble_eq_true rfl)) dX11_init_68 ⟨(by show 23 + 1 ≤ 58; omega), (by show 1439 + 5 ≤ 1728; omega)⟩) 24 1444 (by show 23 + 1 ≤ 24; omega) (by show 1439 + 5 ≤ 1444; omega) (fun S_160 H locs hp hw hfr hnw => ?_)
  obtain ⟨hK_161, hg_162, ha_163, ph_164, ph_165⟩ := hp
  have hK_166 : Kq S S_160 x := hK_156.sub hn0_q_152 hK_161
  have ph_167 : Phc S_160 = Phc S + 320 := by omega
  have ph_168 : Phs S_160 = Phs S + 604000 := by omega
  clear ph_154
  clear ph_155
  clear ph_164
  clear ph_165
  have t_169 : At S_146 x 191 := tAt_sR eS_146 t_145
  have t_170 : At S_153 x 191 := by rw [eS_153]; exact At_sO t_169 hq_152
  have t_171 : At S_160 x 191 := hK_161.at ha_158 t_170 (by decide)
  refine r_putR X hw t_171 rfl 8 1108 (some q_152) rfl tyX11 (by decide) rfl inn_X11_init_11 tyX11_ok nmX11 (by decide) (X.2.2.2.1 (.fieldLink RX11 49 "SilkMill" "latestDraw" "LSilkMill$Draw;") (by decide +kernel)) rfl (Or.inr ⟨rfl, hin, rfl⟩) (fun _ => rfl) rfl (fun _ => rfl) rfl (Nat.le_of_ble_eq_true rfl) (st_1108 _ _) dX11_init_71 (fun H locs hw => ?_)
  obtain ⟨S_172, eS_172⟩ : ∃ T, T = sR S_160 1108 x (some q_152) := ⟨_, rfl⟩
  rw [← eS_172] at hw
  have ph_173 : Phc S_172 = Phc S + 320 := (show Phc S_172 = Phc S_160 from Ph_rawR t_171 (by decide) eS_172).trans ph_167
  have ph_174 : Phs S_172 = Phs S + 604000 := (show Phs S_172 = Phs S_160 from Ph_rawR t_171 (by decide) eS_172).trans ph_168
  clear ph_167
  clear ph_168
  have hK_175 : Kq S S_172 x := hK_166.sR eS_172
  have hg_176 : GX S_172 := by rw [eS_172]; exact GX_rawR hg_162 t_171 (by decide +kernel)
  have h_177 : pR S_172 1108 x = some q_152 := tR_sRs eS_172
  refine lv_aload_n X.1 X.2.1 dX11_init_74 rfl (lv_at hl 0 rfl) ?_
  refine lv_bipush (v := 16) X.1 X.2.1 dX11_init_75 (by decide) ?_
  refine r_newQ (N := 16) (C := RX3) X hw 17 17 1460 25 rfl (by decide) rfl (X.2.2.2.1 (.classLink RX11 53 RX3) (by decide +kernel)) X.2.2.2.2.2.2.2.1.1.2.1 (z_nn ti_16 (by omega)) (by decide) (by decide) (by show 24 + 1 ≤ 25; omega) (by show 1444 + 16 ≤ 1460; omega) (by show 25 ≤ 58; omega) (by show 1460 ≤ 1728; omega) dX11_init_77 (fun q_178 H hq_178 hw => ?_)
  obtain ⟨S_179, eS_179⟩ : ∃ T, T = sN S_172 q_178 17 16 := ⟨_, rfl⟩
  rw [← eS_179] at hw
  have ph_180 : Phc S_179 = Phc S + 320 := (show Phc S_179 = Phc S_172 from Ph_sN' hg_176.ci hq_178 eS_179 (by decide)).trans ph_173
  have ph_181 : Phs S_179 = Phs S + 604000 := (show Phs S_179 = Phs S_172 from Ph_sN' hg_176.ci hq_178 eS_179 (by decide)).trans ph_174
  clear ph_173
  clear ph_174
  have hK_182 : Kq S S_179 x := hK_175.sN hq_178 eS_179
  have hg_183 : GX S_179 := by rw [eS_179]; exact GX_N hg_176 hq_178 (by decide +kernel)
  have hn0_q_178 := hK_175.new hq_178
  have ha_184 : At S_179 q_178 17 := by rw [eS_179]; exact At_nN _ _ _ _
  have hn_185 : pN S_179 q_178 = 16 := by rw [eS_179]; exact pN_sN_new
  have t_186 : At S_172 x 191 := tAt_sR eS_172 t_171
  have t_187 : At S_179 x 191 := by rw [eS_179]; exact At_sN t_186 hq_178
  refine r_putR X hw t_187 rfl 9 1109 (some q_178) rfl tyX11 (by decide) rfl inn_X11_init_11 tyX11_ok nmX11 (by decide) (X.2.2.2.1 (.fieldLink RX11 55 "SilkMill" "shelf" "[LSilkMill$Place;") (by decide +kernel)) rfl (Or.inr ⟨rfl, hin, rfl⟩) (fun _ => rfl) rfl (fun _ => rfl) rfl (Nat.le_of_ble_eq_true rfl) (st_1109 _ _) dX11_init_80 (fun H locs hw => ?_)
  obtain ⟨S_188, eS_188⟩ : ∃ T, T = sR S_179 1109 x (some q_178) := ⟨_, rfl⟩
  rw [← eS_188] at hw
  have ph_189 : Phc S_188 = Phc S + 320 := (show Phc S_188 = Phc S_179 from Ph_rawR t_187 (by decide) eS_188).trans ph_180
  have ph_190 : Phs S_188 = Phs S + 604000 := (show Phs S_188 = Phs S_179 from Ph_rawR t_187 (by decide) eS_188).trans ph_181
  clear ph_180
  clear ph_181
  have hK_191 : Kq S S_188 x := hK_182.sR eS_188
  have hg_192 : GX S_188 := by rw [eS_188]; exact GX_rawR hg_183 t_187 (by decide +kernel)
  have h_193 : pR S_188 1109 x = some q_178 := tR_sRs eS_188
  refine lv_aload_n X.1 X.2.1 dX11_init_83 rfl (lv_at hl 0 rfl) ?_
  refine lv_bipush (v := 60) X.1 X.2.1 dX11_init_84 (by decide) ?_
  refine r_newI (N := 60) X hw 194 1520 26 rfl (X.2.2.2.1 (.arrayClass .int) (by decide +kernel)) (z_nn ti_60 (by omega)) (by decide) (by decide) (by show 25 + 1 ≤ 26; omega) (by show 1460 + 60 ≤ 1520; omega) (by show 26 ≤ 58; omega) (by show 1520 ≤ 1728; omega) dX11_init_86 (fun q_194 H hq_194 hw => ?_)
  obtain ⟨S_195, eS_195⟩ : ∃ T, T = sN S_188 q_194 194 60 := ⟨_, rfl⟩
  rw [← eS_195] at hw
  have ph_196 : Phc S_195 = Phc S + 320 := (show Phc S_195 = Phc S_188 from Ph_sN' hg_192.ci hq_194 eS_195 (by decide)).trans ph_189
  have ph_197 : Phs S_195 = Phs S + 604000 := (show Phs S_195 = Phs S_188 from Ph_sN' hg_192.ci hq_194 eS_195 (by decide)).trans ph_190
  clear ph_189
  clear ph_190
  have hK_198 : Kq S S_195 x := hK_191.sN hq_194 eS_195
  have hg_199 : GX S_195 := by rw [eS_195]; exact GX_N hg_192 hq_194 (by decide +kernel)
  have hn0_q_194 := hK_191.new hq_194
  have ha_200 : At S_195 q_194 194 := by rw [eS_195]; exact At_nN _ _ _ _
  have hn_201 : pN S_195 q_194 = 60 := by rw [eS_195]; exact pN_sN_new
  have t_202 : At S_188 x 191 := tAt_sR eS_188 t_187
  have t_203 : At S_195 x 191 := by rw [eS_195]; exact At_sN t_202 hq_194
  refine r_putR X hw t_203 rfl 11 1111 (some q_194) rfl tyX11 (by decide) rfl inn_X11_init_11 tyX11_ok nmX11 (by decide) (X.2.2.2.1 (.fieldLink RX11 59 "SilkMill" "idle" "[I") (by decide +kernel)) rfl (Or.inr ⟨rfl, hin, rfl⟩) (fun _ => rfl) rfl (fun _ => rfl) rfl (Nat.le_of_ble_eq_true rfl) (st_1111 _ _) dX11_init_88 (fun H locs hw => ?_)
  obtain ⟨S_204, eS_204⟩ : ∃ T, T = sR S_195 1111 x (some q_194) := ⟨_, rfl⟩
  rw [← eS_204] at hw
  have ph_205 : Phc S_204 = Phc S + 320 := (show Phc S_204 = Phc S_195 from Ph_rawR t_203 (by decide) eS_204).trans ph_196
  have ph_206 : Phs S_204 = Phs S + 604000 := (show Phs S_204 = Phs S_195 from Ph_rawR t_203 (by decide) eS_204).trans ph_197
  clear ph_196
  clear ph_197
  have hK_207 : Kq S S_204 x := hK_198.sR eS_204
  have hg_208 : GX S_204 := by rw [eS_204]; exact GX_rawR hg_199 t_203 (by decide +kernel)
  have h_209 : pR S_204 1111 x = some q_194 := tR_sRs eS_204
  refine lv_iconst (v := 0) X.1 X.2.1 dX11_init_91 (by decide) ?_
  have t_210 : pR S_195 1109 x = some q_178 := by rw [eS_195, pR_sN]; exact h_193
  have t_211 : pR S_204 1109 x = some q_178 := tR_sR eS_204 rfl t_210
  refine lv_istore_n (lv' := [(1, .int 0), (0, .ref x)]) X.1 X.2.1 dX11_init_92 rfl hl (by decide) rfl (fun ls hl => ?_)
  have t_218 : At S_146 x 191 := tAt_sR eS_146 t_145
  have t_217 : pR S_153 1107 x = some q_124 := by rw [eS_153]; exact (pR_sO_ne (ne_of_new hq_152 t_218.1)).trans h_151
  have t_220 : At S_153 x 191 := by rw [eS_153]; exact At_sO t_218 hq_152
  have t_219 : pR S_160 1107 x = some q_124 := (((hK_161 x t_220.1).2 (At_ne t_220 ha_158 (by decide))).2.2.1 1107).trans t_217
  have t_221 : pR S_172 1107 x = some q_124 := tR_sR eS_172 rfl t_219
  have t_222 : pR S_179 1107 x = some q_124 := by rw [eS_179, pR_sN]; exact t_221
  have t_223 : pR S_188 1107 x = some q_124 := tR_sR eS_188 rfl t_222
  have t_224 : pR S_195 1107 x = some q_124 := by rw [eS_195, pR_sN]; exact t_223
  have t_225 : pR S_204 1107 x = some q_124 := tR_sR eS_204 rfl t_224
  have t_227 : At S_69 x 191 := tAt_sR eS_69 t_68
  have t_226 : pR S_76 1105 x = some q_48 := by rw [eS_76]; exact (pR_sO_ne (ne_of_new hq_75 t_227.1)).trans h_74
  have t_229 : At S_76 x 191 := by rw [eS_76]; exact At_sO t_227 hq_75
  have t_228 : pR S_83 1105 x = some q_48 := (((hK_84 x t_229.1).2 (At_ne t_229 ha_81 (by decide))).2.2.1 1105).trans t_226
  have t_230 : pR S_118 1105 x = some q_48 := tR_sR eS_118 rfl t_228
  have t_232 : At S_118 x 191 := tAt_sR eS_118 t_117
  have t_231 : pR S_125 1105 x = some q_48 := by rw [eS_125]; exact (pR_sO_ne (ne_of_new hq_124 t_232.1)).trans t_230
  have t_234 : At S_125 x 191 := by rw [eS_125]; exact At_sO t_232 hq_124
  have t_233 : pR S_132 1105 x = some q_48 := (((hK_133 x t_234.1).2 (At_ne t_234 ha_130 (by decide))).2.2.1 1105).trans t_231
  have t_235 : pR S_146 1105 x = some q_48 := tR_sR eS_146 rfl t_233
  have t_236 : pR S_153 1105 x = some q_48 := by rw [eS_153]; exact (pR_sO_ne (ne_of_new hq_152 t_218.1)).trans t_235
  have t_237 : pR S_160 1105 x = some q_48 := (((hK_161 x t_220.1).2 (At_ne t_220 ha_158 (by decide))).2.2.1 1105).trans t_236
  have t_238 : pR S_172 1105 x = some q_48 := tR_sR eS_172 rfl t_237
  have t_239 : pR S_179 1105 x = some q_48 := by rw [eS_179, pR_sN]; exact t_238
  have t_240 : pR S_188 1105 x = some q_48 := tR_sR eS_188 rfl t_239
  have t_241 : pR S_195 1105 x = some q_48 := by rw [eS_195, pR_sN]; exact t_240
  have t_242 : pR S_204 1105 x = some q_48 := tR_sR eS_204 rfl t_241
  have t_243 : pI S_2 1102 x = 0 := by rw [eS_2, pI_sN]; exact (hzI 1102)
  have t_244 : pI S_10 1102 x = 0 := tI_sR eS_10 t_243
  have t_245 : pI S_17 1102 x = 0 := by rw [eS_17, pI_sN]; exact t_244
  have t_246 : pI S_26 1102 x = 0 := tI_sR eS_26 t_245
  have t_247 : pI S_33 1102 x = 0 := by rw [eS_33, pI_sN]; exact t_246
  have t_248 : pI S_42 1102 x = 0 := tI_sR eS_42 t_247
  have t_250 : At S_42 x 191 := tAt_sR eS_42 t_41
  have t_249 : pI S_49 1102 x = 0 := by rw [eS_49]; exact (pI_sO_ne (ne_of_new hq_48 t_250.1)).trans t_248
  have t_252 : At S_49 x 191 := by rw [eS_49]; exact At_sO t_250 hq_48
  have t_251 : pI S_56 1102 x = 0 := (((hK_57 x t_252.1).2 (At_ne t_252 ha_54 (by decide))).2.1 1102).trans t_249
  have t_253 : pI S_69 1102 x = 0 := tI_sR eS_69 t_251
  have t_254 : pI S_76 1102 x = 0 := by rw [eS_76]; exact (pI_sO_ne (ne_of_new hq_75 t_227.1)).trans t_253
  have t_255 : pI S_83 1102 x = 0 := (((hK_84 x t_229.1).2 (At_ne t_229 ha_81 (by decide))).2.1 1102).trans t_254
  have t_256 : pI S_118 1102 x = 0 := tI_sR eS_118 t_255
  have t_257 : pI S_125 1102 x = 0 := by rw [eS_125]; exact (pI_sO_ne (ne_of_new hq_124 t_232.1)).trans t_256
  have t_258 : pI S_132 1102 x = 0 := (((hK_133 x t_234.1).2 (At_ne t_234 ha_130 (by decide))).2.1 1102).trans t_257
  have t_259 : pI S_146 1102 x = 0 := tI_sR eS_146 t_258
  have t_260 : pI S_153 1102 x = 0 := by rw [eS_153]; exact (pI_sO_ne (ne_of_new hq_152 t_218.1)).trans t_259
  have t_261 : pI S_160 1102 x = 0 := (((hK_161 x t_220.1).2 (At_ne t_220 ha_158 (by decide))).2.1 1102).trans t_260
  have t_262 : pI S_172 1102 x = 0 := tI_sR eS_172 t_261
  have t_263 : pI S_179 1102 x = 0 := by rw [eS_179, pI_sN]; exact t_262
  have t_264 : pI S_188 1102 x = 0 := tI_sR eS_188 t_263
  have t_265 : pI S_195 1102 x = 0 := by rw [eS_195, pI_sN]; exact t_264
  have t_266 : pI S_204 1102 x = 0 := tI_sR eS_204 t_265
  have t_268 : pI S_2 1104 x = 0 := by rw [eS_2, pI_sN]; exact (hzI 1104)
  have t_269 : pI S_10 1104 x = 0 := tI_sR eS_10 t_268
  have t_270 : pI S_17 1104 x = 0 := by rw [eS_17, pI_sN]; exact t_269
  have t_271 : pI S_26 1104 x = 0 := tI_sR eS_26 t_270
  have t_272 : pI S_33 1104 x = 0 := by rw [eS_33, pI_sN]; exact t_271
  have t_273 : pI S_42 1104 x = 0 := tI_sR eS_42 t_272
  have t_274 : pI S_49 1104 x = 0 := by rw [eS_49]; exact (pI_sO_ne (ne_of_new hq_48 t_250.1)).trans t_273
  have t_275 : pI S_56 1104 x = 0 := (((hK_57 x t_252.1).2 (At_ne t_252 ha_54 (by decide))).2.1 1104).trans t_274
  have t_276 : pI S_69 1104 x = 0 := tI_sR eS_69 t_275
  have t_277 : pI S_76 1104 x = 0 := by rw [eS_76]; exact (pI_sO_ne (ne_of_new hq_75 t_227.1)).trans t_276
  have t_278 : pI S_83 1104 x = 0 := (((hK_84 x t_229.1).2 (At_ne t_229 ha_81 (by decide))).2.1 1104).trans t_277
  have t_279 : pI S_118 1104 x = 0 := tI_sR eS_118 t_278
  have t_280 : pI S_125 1104 x = 0 := by rw [eS_125]; exact (pI_sO_ne (ne_of_new hq_124 t_232.1)).trans t_279
  have t_281 : pI S_132 1104 x = 0 := (((hK_133 x t_234.1).2 (At_ne t_234 ha_130 (by decide))).2.1 1104).trans t_280
  have t_282 : pI S_146 1104 x = 0 := tI_sR eS_146 t_281
  have t_283 : pI S_153 1104 x = 0 := by rw [eS_153]; exact (pI_sO_ne (ne_of_new hq_152 t_218.1)).trans t_282
  have t_284 : pI S_160 1104 x = 0 := (((hK_161 x t_220.1).2 (At_ne t_220 ha_158 (by decide))).2.1 1104).trans t_283
  have t_285 : pI S_172 1104 x = 0 := tI_sR eS_172 t_284
  have t_286 : pI S_179 1104 x = 0 := by rw [eS_179, pI_sN]; exact t_285
  have t_287 : pI S_188 1104 x = 0 := tI_sR eS_188 t_286
  have t_288 : pI S_195 1104 x = 0 := by rw [eS_195, pI_sN]; exact t_287
  have t_289 : pI S_204 1104 x = 0 := tI_sR eS_204 t_288
  have t_291 : pI S_146 801 q_124 = 0 := tI_sR eS_146 kz_138
  have t_293 : At S_146 q_124 8 := tAt_sR eS_146 ha_135
  have t_292 : pI S_153 801 q_124 = 0 := by rw [eS_153]; exact (pI_sO_ne (ne_of_new hq_152 t_293.1)).trans t_291
  have t_295 : At S_153 q_124 8 := by rw [eS_153]; exact At_sO t_293 hq_152
  have t_294 : pI S_160 801 q_124 = 0 := (((hK_161 q_124 t_295.1).2 (At_ne t_295 ha_158 (by decide))).2.1 801).trans t_292
  have t_296 : pI S_172 801 q_124 = 0 := tI_sR eS_172 t_294
  have t_297 : pI S_179 801 q_124 = 0 := by rw [eS_179, pI_sN]; exact t_296
  have t_298 : pI S_188 801 q_124 = 0 := tI_sR eS_188 t_297
  have t_299 : pI S_195 801 q_124 = 0 := by rw [eS_195, pI_sN]; exact t_298
  have t_300 : pI S_204 801 q_124 = 0 := tI_sR eS_204 t_299
  have t_302 : pI S_69 1000 q_48 = 0 := tI_sR eS_69 kz_62
  have t_304 : At S_69 q_48 10 := tAt_sR eS_69 ha_59
  have t_303 : pI S_76 1000 q_48 = 0 := by rw [eS_76]; exact (pI_sO_ne (ne_of_new hq_75 t_304.1)).trans t_302
  have t_306 : At S_76 q_48 10 := by rw [eS_76]; exact At_sO t_304 hq_75
  have t_305 : pI S_83 1000 q_48 = 0 := (((hK_84 q_48 t_306.1).2 (At_ne t_306 ha_81 (by decide))).2.1 1000).trans t_303
  have t_307 : pI S_118 1000 q_48 = 0 := tI_sR eS_118 t_305
  have t_309 : At S_83 q_48 10 := hK_84.at ha_81 t_306 (by decide)
  have t_310 : At S_118 q_48 10 := tAt_sR eS_118 t_309
  have t_308 : pI S_125 1000 q_48 = 0 := by rw [eS_125]; exact (pI_sO_ne (ne_of_new hq_124 t_310.1)).trans t_307
  have t_312 : At S_125 q_48 10 := by rw [eS_125]; exact At_sO t_310 hq_124
  have t_311 : pI S_132 1000 q_48 = 0 := (((hK_133 q_48 t_312.1).2 (At_ne t_312 ha_130 (by decide))).2.1 1000).trans t_308
  have t_313 : pI S_146 1000 q_48 = 0 := tI_sR eS_146 t_311
  have t_315 : At S_132 q_48 10 := hK_133.at ha_130 t_312 (by decide)
  have t_316 : At S_146 q_48 10 := tAt_sR eS_146 t_315
  have t_314 : pI S_153 1000 q_48 = 0 := by rw [eS_153]; exact (pI_sO_ne (ne_of_new hq_152 t_316.1)).trans t_313
  have t_318 : At S_153 q_48 10 := by rw [eS_153]; exact At_sO t_316 hq_152
  have t_317 : pI S_160 1000 q_48 = 0 := (((hK_161 q_48 t_318.1).2 (At_ne t_318 ha_158 (by decide))).2.1 1000).trans t_314
  have t_319 : pI S_172 1000 q_48 = 0 := tI_sR eS_172 t_317
  have t_320 : pI S_179 1000 q_48 = 0 := by rw [eS_179, pI_sN]; exact t_319
  have t_321 : pI S_188 1000 q_48 = 0 := tI_sR eS_188 t_320
  have t_322 : pI S_195 1000 q_48 = 0 := by rw [eS_195, pI_sN]; exact t_321
  have t_323 : pI S_204 1000 q_48 = 0 := tI_sR eS_204 t_322
  have t_325 : pI S_146 800 q_124 = 0 := tI_sR eS_146 kz_139
  have t_326 : pI S_153 800 q_124 = 0 := by rw [eS_153]; exact (pI_sO_ne (ne_of_new hq_152 t_293.1)).trans t_325
  have t_327 : pI S_160 800 q_124 = 0 := (((hK_161 q_124 t_295.1).2 (At_ne t_295 ha_158 (by decide))).2.1 800).trans t_326
  have t_328 : pI S_172 800 q_124 = 0 := tI_sR eS_172 t_327
  have t_329 : pI S_179 800 q_124 = 0 := by rw [eS_179, pI_sN]; exact t_328
  have t_330 : pI S_188 800 q_124 = 0 := tI_sR eS_188 t_329
  have t_331 : pI S_195 800 q_124 = 0 := by rw [eS_195, pI_sN]; exact t_330
  have t_332 : pI S_204 800 q_124 = 0 := tI_sR eS_204 t_331
  have t_334 : pR S_17 1100 x = some q_1 := by rw [eS_17, pR_sN]; exact h_15
  have t_335 : pR S_26 1100 x = some q_1 := tR_sR eS_26 rfl t_334
  have t_336 : pR S_33 1100 x = some q_1 := by rw [eS_33, pR_sN]; exact t_335
  have t_337 : pR S_42 1100 x = some q_1 := tR_sR eS_42 rfl t_336
  have t_338 : pR S_49 1100 x = some q_1 := by rw [eS_49]; exact (pR_sO_ne (ne_of_new hq_48 t_250.1)).trans t_337
  have t_339 : pR S_56 1100 x = some q_1 := (((hK_57 x t_252.1).2 (At_ne t_252 ha_54 (by decide))).2.2.1 1100).trans t_338
  have t_340 : pR S_69 1100 x = some q_1 := tR_sR eS_69 rfl t_339
  have t_341 : pR S_76 1100 x = some q_1 := by rw [eS_76]; exact (pR_sO_ne (ne_of_new hq_75 t_227.1)).trans t_340
  have t_342 : pR S_83 1100 x = some q_1 := (((hK_84 x t_229.1).2 (At_ne t_229 ha_81 (by decide))).2.2.1 1100).trans t_341
  have t_343 : pR S_118 1100 x = some q_1 := tR_sR eS_118 rfl t_342
  have t_344 : pR S_125 1100 x = some q_1 := by rw [eS_125]; exact (pR_sO_ne (ne_of_new hq_124 t_232.1)).trans t_343
  have t_345 : pR S_132 1100 x = some q_1 := (((hK_133 x t_234.1).2 (At_ne t_234 ha_130 (by decide))).2.2.1 1100).trans t_344
  have t_346 : pR S_146 1100 x = some q_1 := tR_sR eS_146 rfl t_345
  have t_347 : pR S_153 1100 x = some q_1 := by rw [eS_153]; exact (pR_sO_ne (ne_of_new hq_152 t_218.1)).trans t_346
  have t_348 : pR S_160 1100 x = some q_1 := (((hK_161 x t_220.1).2 (At_ne t_220 ha_158 (by decide))).2.2.1 1100).trans t_347
  have t_349 : pR S_172 1100 x = some q_1 := tR_sR eS_172 rfl t_348
  have t_350 : pR S_179 1100 x = some q_1 := by rw [eS_179, pR_sN]; exact t_349
  have t_351 : pR S_188 1100 x = some q_1 := tR_sR eS_188 rfl t_350
  have t_352 : pR S_195 1100 x = some q_1 := by rw [eS_195, pR_sN]; exact t_351
  have t_353 : pR S_204 1100 x = some q_1 := tR_sR eS_204 rfl t_352
  have t_356 : pN S_10 q_1 = 600 := tN_sR eS_10 hn_8
  clear hn_8
  have t_358 : At S_10 q_1 36 := tAt_sR eS_10 ha_7
  have t_357 : pN S_17 q_1 = 600 := by rw [eS_17]; exact (pN_sN_ne (ne_of_new hq_16 t_358.1)).trans t_356
  clear t_356
  have t_359 : pN S_26 q_1 = 600 := tN_sR eS_26 t_357
  clear t_357
  have t_361 : At S_17 q_1 36 := by rw [eS_17]; exact At_sN t_358 hq_16
  have t_362 : At S_26 q_1 36 := tAt_sR eS_26 t_361
  have t_360 : pN S_33 q_1 = 600 := by rw [eS_33]; exact (pN_sN_ne (ne_of_new hq_32 t_362.1)).trans t_359
  clear t_359
  have t_363 : pN S_42 q_1 = 600 := tN_sR eS_42 t_360
  clear t_360
  have t_364 : pN S_49 q_1 = 600 := by rw [eS_49, pN_sO]; exact t_363
  clear t_363
  have t_366 : At S_33 q_1 36 := by rw [eS_33]; exact At_sN t_362 hq_32
  have t_367 : At S_42 q_1 36 := tAt_sR eS_42 t_366
  have t_368 : At S_49 q_1 36 := by rw [eS_49]; exact At_sO t_367 hq_48
  have t_365 : pN S_56 q_1 = 600 := ((hK_57 q_1 t_368.1).2 (At_ne t_368 ha_54 (by decide))).2.2.2.1.trans t_364
  clear t_364
  have t_369 : pN S_69 q_1 = 600 := tN_sR eS_69 t_365
  clear t_365
  have t_370 : pN S_76 q_1 = 600 := by rw [eS_76, pN_sO]; exact t_369
  clear t_369
  have t_372 : At S_56 q_1 36 := hK_57.at ha_54 t_368 (by decide)
  have t_373 : At S_69 q_1 36 := tAt_sR eS_69 t_372
  have t_374 : At S_76 q_1 36 := by rw [eS_76]; exact At_sO t_373 hq_75
  have t_371 : pN S_83 q_1 = 600 := ((hK_84 q_1 t_374.1).2 (At_ne t_374 ha_81 (by decide))).2.2.2.1.trans t_370
  clear t_370
  have t_375 : pN S_118 q_1 = 600 := tN_sR eS_118 t_371
  clear t_371
  have t_376 : pN S_125 q_1 = 600 := by rw [eS_125, pN_sO]; exact t_375
  clear t_375
  have t_378 : At S_83 q_1 36 := hK_84.at ha_81 t_374 (by decide)
  have t_379 : At S_118 q_1 36 := tAt_sR eS_118 t_378
  have t_380 : At S_125 q_1 36 := by rw [eS_125]; exact At_sO t_379 hq_124
  have t_377 : pN S_132 q_1 = 600 := ((hK_133 q_1 t_380.1).2 (At_ne t_380 ha_130 (by decide))).2.2.2.1.trans t_376
  clear t_376
  have t_381 : pN S_146 q_1 = 600 := tN_sR eS_146 t_377
  clear t_377
  have t_382 : pN S_153 q_1 = 600 := by rw [eS_153, pN_sO]; exact t_381
  clear t_381
  have t_384 : At S_132 q_1 36 := hK_133.at ha_130 t_380 (by decide)
  have t_385 : At S_146 q_1 36 := tAt_sR eS_146 t_384
  have t_386 : At S_153 q_1 36 := by rw [eS_153]; exact At_sO t_385 hq_152
  have t_383 : pN S_160 q_1 = 600 := ((hK_161 q_1 t_386.1).2 (At_ne t_386 ha_158 (by decide))).2.2.2.1.trans t_382
  clear t_382
  have t_387 : pN S_172 q_1 = 600 := tN_sR eS_172 t_383
  clear t_383
  have t_389 : At S_160 q_1 36 := hK_161.at ha_158 t_386 (by decide)
  have t_390 : At S_172 q_1 36 := tAt_sR eS_172 t_389
  have t_388 : pN S_179 q_1 = 600 := by rw [eS_179]; exact (pN_sN_ne (ne_of_new hq_178 t_390.1)).trans t_387
  clear t_387
  have t_391 : pN S_188 q_1 = 600 := tN_sR eS_188 t_388
  clear t_388
  have t_393 : At S_179 q_1 36 := by rw [eS_179]; exact At_sN t_390 hq_178
  have t_394 : At S_188 q_1 36 := tAt_sR eS_188 t_393
  have t_392 : pN S_195 q_1 = 600 := by rw [eS_195]; exact (pN_sN_ne (ne_of_new hq_194 t_394.1)).trans t_391
  clear t_391
  have t_395 : pN S_204 q_1 = 600 := tN_sR eS_204 t_392
  clear t_392
  have t_397 : pR S_33 1101 x = some q_16 := by rw [eS_33, pR_sN]; exact h_31
  have t_398 : pR S_42 1101 x = some q_16 := tR_sR eS_42 rfl t_397
  have t_399 : pR S_49 1101 x = some q_16 := by rw [eS_49]; exact (pR_sO_ne (ne_of_new hq_48 t_250.1)).trans t_398
  have t_400 : pR S_56 1101 x = some q_16 := (((hK_57 x t_252.1).2 (At_ne t_252 ha_54 (by decide))).2.2.1 1101).trans t_399
  have t_401 : pR S_69 1101 x = some q_16 := tR_sR eS_69 rfl t_400
  have t_402 : pR S_76 1101 x = some q_16 := by rw [eS_76]; exact (pR_sO_ne (ne_of_new hq_75 t_227.1)).trans t_401
  have t_403 : pR S_83 1101 x = some q_16 := (((hK_84 x t_229.1).2 (At_ne t_229 ha_81 (by decide))).2.2.1 1101).trans t_402
  have t_404 : pR S_118 1101 x = some q_16 := tR_sR eS_118 rfl t_403
  have t_405 : pR S_125 1101 x = some q_16 := by rw [eS_125]; exact (pR_sO_ne (ne_of_new hq_124 t_232.1)).trans t_404
  have t_406 : pR S_132 1101 x = some q_16 := (((hK_133 x t_234.1).2 (At_ne t_234 ha_130 (by decide))).2.2.1 1101).trans t_405
  have t_407 : pR S_146 1101 x = some q_16 := tR_sR eS_146 rfl t_406
  have t_408 : pR S_153 1101 x = some q_16 := by rw [eS_153]; exact (pR_sO_ne (ne_of_new hq_152 t_218.1)).trans t_407
  have t_409 : pR S_160 1101 x = some q_16 := (((hK_161 x t_220.1).2 (At_ne t_220 ha_158 (by decide))).2.2.1 1101).trans t_408
  have t_410 : pR S_172 1101 x = some q_16 := tR_sR eS_172 rfl t_409
  have t_411 : pR S_179 1101 x = some q_16 := by rw [eS_179, pR_sN]; exact t_410
  have t_412 : pR S_188 1101 x = some q_16 := tR_sR eS_188 rfl t_411
  have t_413 : pR S_195 1101 x = some q_16 := by rw [eS_195, pR_sN]; exact t_412
  have t_414 : pR S_204 1101 x = some q_16 := tR_sR eS_204 rfl t_413
  have t_417 : pN S_26 q_16 = 10 := tN_sR eS_26 hn_23
  clear hn_23
  have t_419 : At S_26 q_16 54 := tAt_sR eS_26 ha_22
  have t_418 : pN S_33 q_16 = 10 := by rw [eS_33]; exact (pN_sN_ne (ne_of_new hq_32 t_419.1)).trans t_417
  clear t_417
  have t_420 : pN S_42 q_16 = 10 := tN_sR eS_42 t_418
  clear t_418
  have t_421 : pN S_49 q_16 = 10 := by rw [eS_49, pN_sO]; exact t_420
  clear t_420
  have t_423 : At S_33 q_16 54 := by rw [eS_33]; exact At_sN t_419 hq_32
  have t_424 : At S_42 q_16 54 := tAt_sR eS_42 t_423
  have t_425 : At S_49 q_16 54 := by rw [eS_49]; exact At_sO t_424 hq_48
  have t_422 : pN S_56 q_16 = 10 := ((hK_57 q_16 t_425.1).2 (At_ne t_425 ha_54 (by decide))).2.2.2.1.trans t_421
  clear t_421
  have t_426 : pN S_69 q_16 = 10 := tN_sR eS_69 t_422
  clear t_422
  have t_427 : pN S_76 q_16 = 10 := by rw [eS_76, pN_sO]; exact t_426
  clear t_426
  have t_429 : At S_56 q_16 54 := hK_57.at ha_54 t_425 (by decide)
  have t_430 : At S_69 q_16 54 := tAt_sR eS_69 t_429
  have t_431 : At S_76 q_16 54 := by rw [eS_76]; exact At_sO t_430 hq_75
  have t_428 : pN S_83 q_16 = 10 := ((hK_84 q_16 t_431.1).2 (At_ne t_431 ha_81 (by decide))).2.2.2.1.trans t_427
  clear t_427
  have t_432 : pN S_118 q_16 = 10 := tN_sR eS_118 t_428
  clear t_428
  have t_433 : pN S_125 q_16 = 10 := by rw [eS_125, pN_sO]; exact t_432
  clear t_432
  have t_435 : At S_83 q_16 54 := hK_84.at ha_81 t_431 (by decide)
  have t_436 : At S_118 q_16 54 := tAt_sR eS_118 t_435
  have t_437 : At S_125 q_16 54 := by rw [eS_125]; exact At_sO t_436 hq_124
  have t_434 : pN S_132 q_16 = 10 := ((hK_133 q_16 t_437.1).2 (At_ne t_437 ha_130 (by decide))).2.2.2.1.trans t_433
  clear t_433
  have t_438 : pN S_146 q_16 = 10 := tN_sR eS_146 t_434
  clear t_434
  have t_439 : pN S_153 q_16 = 10 := by rw [eS_153, pN_sO]; exact t_438
  clear t_438
  have t_441 : At S_132 q_16 54 := hK_133.at ha_130 t_437 (by decide)
  have t_442 : At S_146 q_16 54 := tAt_sR eS_146 t_441
  have t_443 : At S_153 q_16 54 := by rw [eS_153]; exact At_sO t_442 hq_152
  have t_440 : pN S_160 q_16 = 10 := ((hK_161 q_16 t_443.1).2 (At_ne t_443 ha_158 (by decide))).2.2.2.1.trans t_439
  clear t_439
  have t_444 : pN S_172 q_16 = 10 := tN_sR eS_172 t_440
  clear t_440
  have t_446 : At S_160 q_16 54 := hK_161.at ha_158 t_443 (by decide)
  have t_447 : At S_172 q_16 54 := tAt_sR eS_172 t_446
  have t_445 : pN S_179 q_16 = 10 := by rw [eS_179]; exact (pN_sN_ne (ne_of_new hq_178 t_447.1)).trans t_444
  clear t_444
  have t_448 : pN S_188 q_16 = 10 := tN_sR eS_188 t_445
  clear t_445
  have t_450 : At S_179 q_16 54 := by rw [eS_179]; exact At_sN t_447 hq_178
  have t_451 : At S_188 q_16 54 := tAt_sR eS_188 t_450
  have t_449 : pN S_195 q_16 = 10 := by rw [eS_195]; exact (pN_sN_ne (ne_of_new hq_194 t_451.1)).trans t_448
  clear t_448
  have t_452 : pN S_204 q_16 = 10 := tN_sR eS_204 t_449
  clear t_449
  have t_454 : pR S_49 1103 x = some q_32 := by rw [eS_49]; exact (pR_sO_ne (ne_of_new hq_48 t_250.1)).trans h_47
  have t_455 : pR S_56 1103 x = some q_32 := (((hK_57 x t_252.1).2 (At_ne t_252 ha_54 (by decide))).2.2.1 1103).trans t_454
  have t_456 : pR S_69 1103 x = some q_32 := tR_sR eS_69 rfl t_455
  have t_457 : pR S_76 1103 x = some q_32 := by rw [eS_76]; exact (pR_sO_ne (ne_of_new hq_75 t_227.1)).trans t_456
  have t_458 : pR S_83 1103 x = some q_32 := (((hK_84 x t_229.1).2 (At_ne t_229 ha_81 (by decide))).2.2.1 1103).trans t_457
  have t_459 : pR S_118 1103 x = some q_32 := tR_sR eS_118 rfl t_458
  have t_460 : pR S_125 1103 x = some q_32 := by rw [eS_125]; exact (pR_sO_ne (ne_of_new hq_124 t_232.1)).trans t_459
  have t_461 : pR S_132 1103 x = some q_32 := (((hK_133 x t_234.1).2 (At_ne t_234 ha_130 (by decide))).2.2.1 1103).trans t_460
  have t_462 : pR S_146 1103 x = some q_32 := tR_sR eS_146 rfl t_461
  have t_463 : pR S_153 1103 x = some q_32 := by rw [eS_153]; exact (pR_sO_ne (ne_of_new hq_152 t_218.1)).trans t_462
  have t_464 : pR S_160 1103 x = some q_32 := (((hK_161 x t_220.1).2 (At_ne t_220 ha_158 (by decide))).2.2.1 1103).trans t_463
  have t_465 : pR S_172 1103 x = some q_32 := tR_sR eS_172 rfl t_464
  have t_466 : pR S_179 1103 x = some q_32 := by rw [eS_179, pR_sN]; exact t_465
  have t_467 : pR S_188 1103 x = some q_32 := tR_sR eS_188 rfl t_466
  have t_468 : pR S_195 1103 x = some q_32 := by rw [eS_195, pR_sN]; exact t_467
  have t_469 : pR S_204 1103 x = some q_32 := tR_sR eS_204 rfl t_468
  have t_472 : pN S_42 q_32 = 4 := tN_sR eS_42 hn_39
  clear hn_39
  have t_473 : pN S_49 q_32 = 4 := by rw [eS_49, pN_sO]; exact t_472
  clear t_472
  have t_475 : At S_42 q_32 18 := tAt_sR eS_42 ha_38
  have t_476 : At S_49 q_32 18 := by rw [eS_49]; exact At_sO t_475 hq_48
  have t_474 : pN S_56 q_32 = 4 := ((hK_57 q_32 t_476.1).2 (At_ne t_476 ha_54 (by decide))).2.2.2.1.trans t_473
  clear t_473
  have t_477 : pN S_69 q_32 = 4 := tN_sR eS_69 t_474
  clear t_474
  have t_478 : pN S_76 q_32 = 4 := by rw [eS_76, pN_sO]; exact t_477
  clear t_477
  have t_480 : At S_56 q_32 18 := hK_57.at ha_54 t_476 (by decide)
  have t_481 : At S_69 q_32 18 := tAt_sR eS_69 t_480
  have t_482 : At S_76 q_32 18 := by rw [eS_76]; exact At_sO t_481 hq_75
  have t_479 : pN S_83 q_32 = 4 := ((hK_84 q_32 t_482.1).2 (At_ne t_482 ha_81 (by decide))).2.2.2.1.trans t_478
  clear t_478
  have t_483 : pN S_118 q_32 = 4 := tN_sR eS_118 t_479
  clear t_479
  have t_484 : pN S_125 q_32 = 4 := by rw [eS_125, pN_sO]; exact t_483
  clear t_483
  have t_486 : At S_83 q_32 18 := hK_84.at ha_81 t_482 (by decide)
  have t_487 : At S_118 q_32 18 := tAt_sR eS_118 t_486
  have t_488 : At S_125 q_32 18 := by rw [eS_125]; exact At_sO t_487 hq_124
  have t_485 : pN S_132 q_32 = 4 := ((hK_133 q_32 t_488.1).2 (At_ne t_488 ha_130 (by decide))).2.2.2.1.trans t_484
  clear t_484
  have t_489 : pN S_146 q_32 = 4 := tN_sR eS_146 t_485
  clear t_485
  have t_490 : pN S_153 q_32 = 4 := by rw [eS_153, pN_sO]; exact t_489
  clear t_489
  have t_492 : At S_132 q_32 18 := hK_133.at ha_130 t_488 (by decide)
  have t_493 : At S_146 q_32 18 := tAt_sR eS_146 t_492
  have t_494 : At S_153 q_32 18 := by rw [eS_153]; exact At_sO t_493 hq_152
  have t_491 : pN S_160 q_32 = 4 := ((hK_161 q_32 t_494.1).2 (At_ne t_494 ha_158 (by decide))).2.2.2.1.trans t_490
  clear t_490
  have t_495 : pN S_172 q_32 = 4 := tN_sR eS_172 t_491
  clear t_491
  have t_497 : At S_160 q_32 18 := hK_161.at ha_158 t_494 (by decide)
  have t_498 : At S_172 q_32 18 := tAt_sR eS_172 t_497
  have t_496 : pN S_179 q_32 = 4 := by rw [eS_179]; exact (pN_sN_ne (ne_of_new hq_178 t_498.1)).trans t_495
  clear t_495
  have t_499 : pN S_188 q_32 = 4 := tN_sR eS_188 t_496
  clear t_496
  have t_501 : At S_179 q_32 18 := by rw [eS_179]; exact At_sN t_498 hq_178
  have t_502 : At S_188 q_32 18 := tAt_sR eS_188 t_501
  have t_500 : pN S_195 q_32 = 4 := by rw [eS_195]; exact (pN_sN_ne (ne_of_new hq_194 t_502.1)).trans t_499
  clear t_499
  have t_503 : pN S_204 q_32 = 4 := tN_sR eS_204 t_500
  clear t_500
  have t_507 : pR S_125 1106 x = some q_75 := by rw [eS_125]; exact (pR_sO_ne (ne_of_new hq_124 t_232.1)).trans h_123
  have t_508 : pR S_132 1106 x = some q_75 := (((hK_133 x t_234.1).2 (At_ne t_234 ha_130 (by decide))).2.2.1 1106).trans t_507
  have t_509 : pR S_146 1106 x = some q_75 := tR_sR eS_146 rfl t_508
  have t_510 : pR S_153 1106 x = some q_75 := by rw [eS_153]; exact (pR_sO_ne (ne_of_new hq_152 t_218.1)).trans t_509
  have t_511 : pR S_160 1106 x = some q_75 := (((hK_161 x t_220.1).2 (At_ne t_220 ha_158 (by decide))).2.2.1 1106).trans t_510
  have t_512 : pR S_172 1106 x = some q_75 := tR_sR eS_172 rfl t_511
  have t_513 : pR S_179 1106 x = some q_75 := by rw [eS_179, pR_sN]; exact t_512
  have t_514 : pR S_188 1106 x = some q_75 := tR_sR eS_188 rfl t_513
  have t_515 : pR S_195 1106 x = some q_75 := by rw [eS_195, pR_sN]; exact t_514
  have t_516 : pR S_204 1106 x = some q_75 := tR_sR eS_204 rfl t_515
  have t_521 : pR S_179 1108 x = some q_152 := by rw [eS_179, pR_sN]; exact h_177
  have t_522 : pR S_188 1108 x = some q_152 := tR_sR eS_188 rfl t_521
  have t_523 : pR S_195 1108 x = some q_152 := by rw [eS_195, pR_sN]; exact t_522
  have t_524 : pR S_204 1108 x = some q_152 := tR_sR eS_204 rfl t_523
  have t_529 : pN S_188 q_178 = 16 := tN_sR eS_188 hn_185
  clear hn_185
  have t_531 : At S_188 q_178 17 := tAt_sR eS_188 ha_184
  have t_530 : pN S_195 q_178 = 16 := by rw [eS_195]; exact (pN_sN_ne (ne_of_new hq_194 t_531.1)).trans t_529
  clear t_529
  have t_532 : pN S_204 q_178 = 16 := tN_sR eS_204 t_530
  clear t_530
  have t_536 : pN S_204 q_194 = 60 := tN_sR eS_204 hn_201
  clear hn_201
  have t_538 : pR S_118 601 q_75 = some q_94 := tR_sR eS_118 rfl h_95
  have t_540 : At S_118 q_75 6 := tAt_sR eS_118 ha_86
  have t_539 : pR S_125 601 q_75 = some q_94 := by rw [eS_125]; exact (pR_sO_ne (ne_of_new hq_124 t_540.1)).trans t_538
  have t_542 : At S_125 q_75 6 := by rw [eS_125]; exact At_sO t_540 hq_124
  have t_541 : pR S_132 601 q_75 = some q_94 := (((hK_133 q_75 t_542.1).2 (At_ne t_542 ha_130 (by decide))).2.2.1 601).trans t_539
  have t_543 : pR S_146 601 q_75 = some q_94 := tR_sR eS_146 rfl t_541
  have t_545 : At S_132 q_75 6 := hK_133.at ha_130 t_542 (by decide)
  have t_546 : At S_146 q_75 6 := tAt_sR eS_146 t_545
  have t_544 : pR S_153 601 q_75 = some q_94 := by rw [eS_153]; exact (pR_sO_ne (ne_of_new hq_152 t_546.1)).trans t_543
  have t_548 : At S_153 q_75 6 := by rw [eS_153]; exact At_sO t_546 hq_152
  have t_547 : pR S_160 601 q_75 = some q_94 := (((hK_161 q_75 t_548.1).2 (At_ne t_548 ha_158 (by decide))).2.2.1 601).trans t_544
  have t_549 : pR S_172 601 q_75 = some q_94 := tR_sR eS_172 rfl t_547
  have t_550 : pR S_179 601 q_75 = some q_94 := by rw [eS_179, pR_sN]; exact t_549
  have t_551 : pR S_188 601 q_75 = some q_94 := tR_sR eS_188 rfl t_550
  have t_552 : pR S_195 601 q_75 = some q_94 := by rw [eS_195, pR_sN]; exact t_551
  have t_553 : pR S_204 601 q_75 = some q_94 := tR_sR eS_204 rfl t_552
  have t_556 : pN S_118 q_94 = 12 := tN_sR eS_118 h_97
  clear h_97
  have t_557 : pN S_125 q_94 = 12 := by rw [eS_125, pN_sO]; exact t_556
  clear t_556
  have t_559 : At S_118 q_94 134 := tAt_sR eS_118 h_96
  have t_560 : At S_125 q_94 134 := by rw [eS_125]; exact At_sO t_559 hq_124
  have t_558 : pN S_132 q_94 = 12 := ((hK_133 q_94 t_560.1).2 (At_ne t_560 ha_130 (by decide))).2.2.2.1.trans t_557
  clear t_557
  have t_561 : pN S_146 q_94 = 12 := tN_sR eS_146 t_558
  clear t_558
  have t_562 : pN S_153 q_94 = 12 := by rw [eS_153, pN_sO]; exact t_561
  clear t_561
  have t_564 : At S_132 q_94 134 := hK_133.at ha_130 t_560 (by decide)
  have t_565 : At S_146 q_94 134 := tAt_sR eS_146 t_564
  have t_566 : At S_153 q_94 134 := by rw [eS_153]; exact At_sO t_565 hq_152
  have t_563 : pN S_160 q_94 = 12 := ((hK_161 q_94 t_566.1).2 (At_ne t_566 ha_158 (by decide))).2.2.2.1.trans t_562
  clear t_562
  have t_567 : pN S_172 q_94 = 12 := tN_sR eS_172 t_563
  clear t_563
  have t_569 : At S_160 q_94 134 := hK_161.at ha_158 t_566 (by decide)
  have t_570 : At S_172 q_94 134 := tAt_sR eS_172 t_569
  have t_568 : pN S_179 q_94 = 12 := by rw [eS_179]; exact (pN_sN_ne (ne_of_new hq_178 t_570.1)).trans t_567
  clear t_567
  have t_571 : pN S_188 q_94 = 12 := tN_sR eS_188 t_568
  clear t_568
  have t_573 : At S_179 q_94 134 := by rw [eS_179]; exact At_sN t_570 hq_178
  have t_574 : At S_188 q_94 134 := tAt_sR eS_188 t_573
  have t_572 : pN S_195 q_94 = 12 := by rw [eS_195]; exact (pN_sN_ne (ne_of_new hq_194 t_574.1)).trans t_571
  clear t_571
  have t_575 : pN S_204 q_94 = 12 := tN_sR eS_204 t_572
  clear t_572
  have t_577 : pR S_118 602 q_75 = some q_98 := tR_sR eS_118 rfl h_99
  have t_578 : pR S_125 602 q_75 = some q_98 := by rw [eS_125]; exact (pR_sO_ne (ne_of_new hq_124 t_540.1)).trans t_577
  have t_579 : pR S_132 602 q_75 = some q_98 := (((hK_133 q_75 t_542.1).2 (At_ne t_542 ha_130 (by decide))).2.2.1 602).trans t_578
  have t_580 : pR S_146 602 q_75 = some q_98 := tR_sR eS_146 rfl t_579
  have t_581 : pR S_153 602 q_75 = some q_98 := by rw [eS_153]; exact (pR_sO_ne (ne_of_new hq_152 t_546.1)).trans t_580
  have t_582 : pR S_160 602 q_75 = some q_98 := (((hK_161 q_75 t_548.1).2 (At_ne t_548 ha_158 (by decide))).2.2.1 602).trans t_581
  have t_583 : pR S_172 602 q_75 = some q_98 := tR_sR eS_172 rfl t_582
  have t_584 : pR S_179 602 q_75 = some q_98 := by rw [eS_179, pR_sN]; exact t_583
  have t_585 : pR S_188 602 q_75 = some q_98 := tR_sR eS_188 rfl t_584
  have t_586 : pR S_195 602 q_75 = some q_98 := by rw [eS_195, pR_sN]; exact t_585
  have t_587 : pR S_204 602 q_75 = some q_98 := tR_sR eS_204 rfl t_586
  have t_590 : pN S_118 q_98 = 12 := tN_sR eS_118 h_101
  clear h_101
  have t_591 : pN S_125 q_98 = 12 := by rw [eS_125, pN_sO]; exact t_590
  clear t_590
  have t_593 : At S_118 q_98 134 := tAt_sR eS_118 h_100
  have t_594 : At S_125 q_98 134 := by rw [eS_125]; exact At_sO t_593 hq_124
  have t_592 : pN S_132 q_98 = 12 := ((hK_133 q_98 t_594.1).2 (At_ne t_594 ha_130 (by decide))).2.2.2.1.trans t_591
  clear t_591
  have t_595 : pN S_146 q_98 = 12 := tN_sR eS_146 t_592
  clear t_592
  have t_596 : pN S_153 q_98 = 12 := by rw [eS_153, pN_sO]; exact t_595
  clear t_595
  have t_598 : At S_132 q_98 134 := hK_133.at ha_130 t_594 (by decide)
  have t_599 : At S_146 q_98 134 := tAt_sR eS_146 t_598
  have t_600 : At S_153 q_98 134 := by rw [eS_153]; exact At_sO t_599 hq_152
  have t_597 : pN S_160 q_98 = 12 := ((hK_161 q_98 t_600.1).2 (At_ne t_600 ha_158 (by decide))).2.2.2.1.trans t_596
  clear t_596
  have t_601 : pN S_172 q_98 = 12 := tN_sR eS_172 t_597
  clear t_597
  have t_603 : At S_160 q_98 134 := hK_161.at ha_158 t_600 (by decide)
  have t_604 : At S_172 q_98 134 := tAt_sR eS_172 t_603
  have t_602 : pN S_179 q_98 = 12 := by rw [eS_179]; exact (pN_sN_ne (ne_of_new hq_178 t_604.1)).trans t_601
  clear t_601
  have t_605 : pN S_188 q_98 = 12 := tN_sR eS_188 t_602
  clear t_602
  have t_607 : At S_179 q_98 134 := by rw [eS_179]; exact At_sN t_604 hq_178
  have t_608 : At S_188 q_98 134 := tAt_sR eS_188 t_607
  have t_606 : pN S_195 q_98 = 12 := by rw [eS_195]; exact (pN_sN_ne (ne_of_new hq_194 t_608.1)).trans t_605
  clear t_605
  have t_609 : pN S_204 q_98 = 12 := tN_sR eS_204 t_606
  clear t_606
  have t_611 : pR S_118 604 q_75 = some q_102 := tR_sR eS_118 rfl h_103
  have t_612 : pR S_125 604 q_75 = some q_102 := by rw [eS_125]; exact (pR_sO_ne (ne_of_new hq_124 t_540.1)).trans t_611
  have t_613 : pR S_132 604 q_75 = some q_102 := (((hK_133 q_75 t_542.1).2 (At_ne t_542 ha_130 (by decide))).2.2.1 604).trans t_612
  have t_614 : pR S_146 604 q_75 = some q_102 := tR_sR eS_146 rfl t_613
  have t_615 : pR S_153 604 q_75 = some q_102 := by rw [eS_153]; exact (pR_sO_ne (ne_of_new hq_152 t_546.1)).trans t_614
  have t_616 : pR S_160 604 q_75 = some q_102 := (((hK_161 q_75 t_548.1).2 (At_ne t_548 ha_158 (by decide))).2.2.1 604).trans t_615
  have t_617 : pR S_172 604 q_75 = some q_102 := tR_sR eS_172 rfl t_616
  have t_618 : pR S_179 604 q_75 = some q_102 := by rw [eS_179, pR_sN]; exact t_617
  have t_619 : pR S_188 604 q_75 = some q_102 := tR_sR eS_188 rfl t_618
  have t_620 : pR S_195 604 q_75 = some q_102 := by rw [eS_195, pR_sN]; exact t_619
  have t_621 : pR S_204 604 q_75 = some q_102 := tR_sR eS_204 rfl t_620
  have t_624 : pN S_118 q_102 = 48 := tN_sR eS_118 h_105
  clear h_105
  have t_625 : pN S_125 q_102 = 48 := by rw [eS_125, pN_sO]; exact t_624
  clear t_624
  have t_627 : At S_118 q_102 134 := tAt_sR eS_118 h_104
  have t_628 : At S_125 q_102 134 := by rw [eS_125]; exact At_sO t_627 hq_124
  have t_626 : pN S_132 q_102 = 48 := ((hK_133 q_102 t_628.1).2 (At_ne t_628 ha_130 (by decide))).2.2.2.1.trans t_625
  clear t_625
  have t_629 : pN S_146 q_102 = 48 := tN_sR eS_146 t_626
  clear t_626
  have t_630 : pN S_153 q_102 = 48 := by rw [eS_153, pN_sO]; exact t_629
  clear t_629
  have t_632 : At S_132 q_102 134 := hK_133.at ha_130 t_628 (by decide)
  have t_633 : At S_146 q_102 134 := tAt_sR eS_146 t_632
  have t_634 : At S_153 q_102 134 := by rw [eS_153]; exact At_sO t_633 hq_152
  have t_631 : pN S_160 q_102 = 48 := ((hK_161 q_102 t_634.1).2 (At_ne t_634 ha_158 (by decide))).2.2.2.1.trans t_630
  clear t_630
  have t_635 : pN S_172 q_102 = 48 := tN_sR eS_172 t_631
  clear t_631
  have t_637 : At S_160 q_102 134 := hK_161.at ha_158 t_634 (by decide)
  have t_638 : At S_172 q_102 134 := tAt_sR eS_172 t_637
  have t_636 : pN S_179 q_102 = 48 := by rw [eS_179]; exact (pN_sN_ne (ne_of_new hq_178 t_638.1)).trans t_635
  clear t_635
  have t_639 : pN S_188 q_102 = 48 := tN_sR eS_188 t_636
  clear t_636
  have t_641 : At S_179 q_102 134 := by rw [eS_179]; exact At_sN t_638 hq_178
  have t_642 : At S_188 q_102 134 := tAt_sR eS_188 t_641
  have t_640 : pN S_195 q_102 = 48 := by rw [eS_195]; exact (pN_sN_ne (ne_of_new hq_194 t_642.1)).trans t_639
  clear t_639
  have t_643 : pN S_204 q_102 = 48 := tN_sR eS_204 t_640
  clear t_640
  have t_645 : pR S_118 605 q_75 = some q_106 := tR_sR eS_118 rfl h_107
  have t_646 : pR S_125 605 q_75 = some q_106 := by rw [eS_125]; exact (pR_sO_ne (ne_of_new hq_124 t_540.1)).trans t_645
  have t_647 : pR S_132 605 q_75 = some q_106 := (((hK_133 q_75 t_542.1).2 (At_ne t_542 ha_130 (by decide))).2.2.1 605).trans t_646
  have t_648 : pR S_146 605 q_75 = some q_106 := tR_sR eS_146 rfl t_647
  have t_649 : pR S_153 605 q_75 = some q_106 := by rw [eS_153]; exact (pR_sO_ne (ne_of_new hq_152 t_546.1)).trans t_648
  have t_650 : pR S_160 605 q_75 = some q_106 := (((hK_161 q_75 t_548.1).2 (At_ne t_548 ha_158 (by decide))).2.2.1 605).trans t_649
  have t_651 : pR S_172 605 q_75 = some q_106 := tR_sR eS_172 rfl t_650
  have t_652 : pR S_179 605 q_75 = some q_106 := by rw [eS_179, pR_sN]; exact t_651
  have t_653 : pR S_188 605 q_75 = some q_106 := tR_sR eS_188 rfl t_652
  have t_654 : pR S_195 605 q_75 = some q_106 := by rw [eS_195, pR_sN]; exact t_653
  have t_655 : pR S_204 605 q_75 = some q_106 := tR_sR eS_204 rfl t_654
  have t_658 : pN S_118 q_106 = 48 := tN_sR eS_118 h_109
  clear h_109
  have t_659 : pN S_125 q_106 = 48 := by rw [eS_125, pN_sO]; exact t_658
  clear t_658
  have t_661 : At S_118 q_106 134 := tAt_sR eS_118 h_108
  have t_662 : At S_125 q_106 134 := by rw [eS_125]; exact At_sO t_661 hq_124
  have t_660 : pN S_132 q_106 = 48 := ((hK_133 q_106 t_662.1).2 (At_ne t_662 ha_130 (by decide))).2.2.2.1.trans t_659
  clear t_659
  have t_663 : pN S_146 q_106 = 48 := tN_sR eS_146 t_660
  clear t_660
  have t_664 : pN S_153 q_106 = 48 := by rw [eS_153, pN_sO]; exact t_663
  clear t_663
  have t_666 : At S_132 q_106 134 := hK_133.at ha_130 t_662 (by decide)
  have t_667 : At S_146 q_106 134 := tAt_sR eS_146 t_666
  have t_668 : At S_153 q_106 134 := by rw [eS_153]; exact At_sO t_667 hq_152
  have t_665 : pN S_160 q_106 = 48 := ((hK_161 q_106 t_668.1).2 (At_ne t_668 ha_158 (by decide))).2.2.2.1.trans t_664
  clear t_664
  have t_669 : pN S_172 q_106 = 48 := tN_sR eS_172 t_665
  clear t_665
  have t_671 : At S_160 q_106 134 := hK_161.at ha_158 t_668 (by decide)
  have t_672 : At S_172 q_106 134 := tAt_sR eS_172 t_671
  have t_670 : pN S_179 q_106 = 48 := by rw [eS_179]; exact (pN_sN_ne (ne_of_new hq_178 t_672.1)).trans t_669
  clear t_669
  have t_673 : pN S_188 q_106 = 48 := tN_sR eS_188 t_670
  clear t_670
  have t_675 : At S_179 q_106 134 := by rw [eS_179]; exact At_sN t_672 hq_178
  have t_676 : At S_188 q_106 134 := tAt_sR eS_188 t_675
  have t_674 : pN S_195 q_106 = 48 := by rw [eS_195]; exact (pN_sN_ne (ne_of_new hq_194 t_676.1)).trans t_673
  clear t_673
  have t_677 : pN S_204 q_106 = 48 := tN_sR eS_204 t_674
  clear t_674
  have t_679 : pR S_118 606 q_75 = some q_110 := tR_sR eS_118 rfl h_111
  have t_680 : pR S_125 606 q_75 = some q_110 := by rw [eS_125]; exact (pR_sO_ne (ne_of_new hq_124 t_540.1)).trans t_679
  have t_681 : pR S_132 606 q_75 = some q_110 := (((hK_133 q_75 t_542.1).2 (At_ne t_542 ha_130 (by decide))).2.2.1 606).trans t_680
  have t_682 : pR S_146 606 q_75 = some q_110 := tR_sR eS_146 rfl t_681
  have t_683 : pR S_153 606 q_75 = some q_110 := by rw [eS_153]; exact (pR_sO_ne (ne_of_new hq_152 t_546.1)).trans t_682
  have t_684 : pR S_160 606 q_75 = some q_110 := (((hK_161 q_75 t_548.1).2 (At_ne t_548 ha_158 (by decide))).2.2.1 606).trans t_683
  have t_685 : pR S_172 606 q_75 = some q_110 := tR_sR eS_172 rfl t_684
  have t_686 : pR S_179 606 q_75 = some q_110 := by rw [eS_179, pR_sN]; exact t_685
  have t_687 : pR S_188 606 q_75 = some q_110 := tR_sR eS_188 rfl t_686
  have t_688 : pR S_195 606 q_75 = some q_110 := by rw [eS_195, pR_sN]; exact t_687
  have t_689 : pR S_204 606 q_75 = some q_110 := tR_sR eS_204 rfl t_688
  have t_692 : pN S_118 q_110 = 48 := tN_sR eS_118 h_113
  clear h_113
  have t_693 : pN S_125 q_110 = 48 := by rw [eS_125, pN_sO]; exact t_692
  clear t_692
  have t_695 : At S_118 q_110 134 := tAt_sR eS_118 h_112
  have t_696 : At S_125 q_110 134 := by rw [eS_125]; exact At_sO t_695 hq_124
  have t_694 : pN S_132 q_110 = 48 := ((hK_133 q_110 t_696.1).2 (At_ne t_696 ha_130 (by decide))).2.2.2.1.trans t_693
  clear t_693
  have t_697 : pN S_146 q_110 = 48 := tN_sR eS_146 t_694
  clear t_694
  have t_698 : pN S_153 q_110 = 48 := by rw [eS_153, pN_sO]; exact t_697
  clear t_697
  have t_700 : At S_132 q_110 134 := hK_133.at ha_130 t_696 (by decide)
  have t_701 : At S_146 q_110 134 := tAt_sR eS_146 t_700
  have t_702 : At S_153 q_110 134 := by rw [eS_153]; exact At_sO t_701 hq_152
  have t_699 : pN S_160 q_110 = 48 := ((hK_161 q_110 t_702.1).2 (At_ne t_702 ha_158 (by decide))).2.2.2.1.trans t_698
  clear t_698
  have t_703 : pN S_172 q_110 = 48 := tN_sR eS_172 t_699
  clear t_699
  have t_705 : At S_160 q_110 134 := hK_161.at ha_158 t_702 (by decide)
  have t_706 : At S_172 q_110 134 := tAt_sR eS_172 t_705
  have t_704 : pN S_179 q_110 = 48 := by rw [eS_179]; exact (pN_sN_ne (ne_of_new hq_178 t_706.1)).trans t_703
  clear t_703
  have t_707 : pN S_188 q_110 = 48 := tN_sR eS_188 t_704
  clear t_704
  have t_709 : At S_179 q_110 134 := by rw [eS_179]; exact At_sN t_706 hq_178
  have t_710 : At S_188 q_110 134 := tAt_sR eS_188 t_709
  have t_708 : pN S_195 q_110 = 48 := by rw [eS_195]; exact (pN_sN_ne (ne_of_new hq_194 t_710.1)).trans t_707
  clear t_707
  have t_711 : pN S_204 q_110 = 48 := tN_sR eS_204 t_708
  clear t_708
  have L_212 : ∀ (n : Nat) (T_214 : PS) (H : Heap) (locs : List Loc) (ls : Array Slot) (i1_213 : Int32) (i1_213_z : Int) (cc_713 nn_714 : Nat), ((16 - i1_213_z).toNat = n) → (Wd G cy (AS S s.heap.size) s.heap T_214 H locs) → (i1_213.toInt = i1_213_z) → (0 ≤ i1_213_z ∧ i1_213_z ≤ 16) → (At T_214 x 191) → (Kq S T_214 x) → (GX T_214) → (Phc T_214 = Phc S + 320) → (Phs T_214 = Phs S + 604000) → (ShI T_214 q_178 i1_213_z) → (pI T_214 1102 x = 0) → (pI T_214 1104 x = 0) → (pI T_214 801 q_124 = 0) → (pI T_214 1000 q_48 = 0) → (pI T_214 800 q_124 = 0) → (pR T_214 1100 x = some q_1) → (At T_214 q_1 36) → (pN T_214 q_1 = 600) → (pR T_214 1101 x = some q_16) → (At T_214 q_16 54) → (pN T_214 q_16 = 10) → (pR T_214 1103 x = some q_32) → (At T_214 q_32 18) → (pN T_214 q_32 = 4) → (pR T_214 1105 x = some q_48) → (At T_214 q_48 10) → (pR T_214 1106 x = some q_75) → (At T_214 q_75 6) → (pR T_214 1107 x = some q_124) → (At T_214 q_124 8) → (pR T_214 1108 x = some q_152) → (At T_214 q_152 1) → (pR T_214 1109 x = some q_178) → (At T_214 q_178 17) → (pN T_214 q_178 = 16) → (pR T_214 1111 x = some q_194) → (At T_214 q_194 194) → (pN T_214 q_194 = 60) → (pR T_214 601 q_75 = some q_94) → (At T_214 q_94 134) → (pN T_214 q_94 = 12) → (pR T_214 602 q_75 = some q_98) → (At T_214 q_98 134) → (pN T_214 q_98 = 12) → (pR T_214 604 q_75 = some q_102) → (At T_214 q_102 134) → (pN T_214 q_102 = 48) → (pR T_214 605 q_75 = some q_106) → (At T_214 q_106 134) → (pN T_214 q_106 = 48) → (pR T_214 606 q_75 = some q_110) → (At T_214 q_110 134) → (pN T_214 q_110 = 48) → (cc_713 = 26 + 2 * (i1_213_z).toNat) → (nn_714 = 1520 + 13 * (i1_213_z).toNat) → (lv_has ls 2 [(1, .int (i1_213)), (0, .ref x)]) → W p l e ({ frames := 4, cells := 58, slots := 1728, locals := 192 }) s m [.ref x].toArray below meth c H locs cc_713 nn_714 QQ (F0 m 93 ls []) := by
    intro n
    induction n using Nat.strongRecOn with
    | ind n ih =>
    intro T_214 H locs ls i1_213 i1_213_z cc_713 nn_714 hn hw hz_i1_213 hr_i1_213 ha_x_L_215 hK_T_214 hg_T_214 hpc_T_214 hps_T_214 iv_216 ik_267 ik_290 ik_301 ik_324 ik_333 ik_354 ik_355 ik_396 ik_415 ik_416 ik_453 ik_470 ik_471 ik_504 ik_505 ik_506 ik_517 ik_518 ik_519 ik_520 ik_525 ik_526 ik_527 ik_528 ik_533 ik_534 ik_535 ik_537 ik_554 ik_555 ik_576 ik_588 ik_589 ik_610 ik_622 ik_623 ik_644 ik_656 ik_657 ik_678 ik_690 ik_691 ik_712 hcc_715 hnn_716 hl
    have rg_717 : (-2147483648) ≤ i1_213_z ∧ i1_213_z ≤ 2147483647 := by rw [← hz_i1_213]; exact ⟨z_lo _, z_hi _⟩
    refine lv_iload_n X.1 X.2.1 dX11_init_93 rfl (lv_at hl 0 rfl) ?_
    refine lv_bipush (v := 16) X.1 X.2.1 dX11_init_94 (by decide) ?_
    refine lv_icmp_ge (tgt := 118) X.1 X.2.1 dX11_init_96 (by decide) (fun c_718 => ?_) (fun c_718 => ?_)
    · have z_b_719 := trivial
      have k_720 : i1_213_z ≥ 16 := z_le ti_16 hz_i1_213 c_718
      have nd_721 := nodup_of hw
      obtain ⟨S_722, eS_722⟩ : ∃ T, T = sK T_214 x 11 := ⟨_, rfl⟩
      have hw := Wd_sK (k := 11) hw ha_x_L_215 rfl; rw [← eS_722] at hw
      have hg9 : GX S_722 := by rw [eS_722]; exact GX_sK hg_T_214 ha_x_L_215 (by decide +kernel) (mk_11 ⟨q_1, (by rw [pR_sK]; exact ik_354), At_sK ha_x_L_215 ik_355 (by decide), by rw [pN_sK]; exact ik_396⟩ ⟨q_16, (by rw [pR_sK]; exact ik_415), At_sK ha_x_L_215 ik_416 (by decide), by rw [pN_sK]; exact ik_453⟩ (by rw [pI_sK, ik_267]; exact ⟨by rw [ti_0]; omega, by rw [ti_0]; omega⟩) ⟨q_32, (by rw [pR_sK]; exact ik_470), At_sK ha_x_L_215 ik_471 (by decide), by rw [pN_sK]; exact ik_504⟩ (by rw [pI_sK, ik_290]; exact ⟨by rw [ti_0]; omega, by rw [ti_0]; omega⟩) ⟨q_48, (by rw [pR_sK]; exact ik_505), At_sK ha_x_L_215 ik_506 (by decide)⟩ ⟨q_75, (by rw [pR_sK]; exact ik_517), At_sK ha_x_L_215 ik_518 (by decide)⟩ ⟨q_124, (by rw [pR_sK]; exact ik_519), At_sK ha_x_L_215 ik_520 (by decide)⟩ ⟨q_152, (by rw [pR_sK]; exact ik_525), At_sK ha_x_L_215 ik_526 (by decide)⟩ ⟨q_178, (by rw [pR_sK]; exact ik_527), At_sK ha_x_L_215 ik_528 (by decide), by rw [pN_sK]; exact ik_533⟩ ⟨q_194, (by rw [pR_sK]; exact ik_534), At_sK ha_x_L_215 ik_535 (by decide), by rw [pN_sK]; exact ik_537⟩)
      have ha9 : At S_722 x 11 := by rw [eS_722]; exact At_nK ha_x_L_215
      have hk9 : Kq S S_722 x := hK_T_214.sK eS_722
      have hPhc9 : Phc S_722 = Phc S + 57920 := by rw [show Phc S_722 = Ph fC 8 14400 S_722 from rfl, Ph_sK nd_721 ha_x_L_215 (by decide) eS_722, ph_11 ha9 (show pI S_722 1104 x = 0 by rw [eS_722, pI_sK]; exact ik_290)]; show Phc T_214 + _ = _; omega
      have hPhs9 : Phs S_722 = Phs S + 788000 := by rw [show Phs S_722 = Ph fS 15100 46000 S_722 from rfl, Ph_sK nd_721 ha_x_L_215 (by decide) eS_722, ph_11 ha9 (show pI S_722 1104 x = 0 by rw [eS_722, pI_sK]; exact ik_290)]; show Phs T_214 + _ = _; omega
      rw [hQQ]
      exact ret_v X hw hr hlocks (by show cc_713 ≤ 58; omega) (by show nn_714 ≤ 1728; omega) ⟨hk9, hg9, ha9, hPhc9, hPhs9, ⟨q_124, by rw [eS_722, pR_sK]; exact ik_519, by rw [eS_722]; exact At_sK ha_x_L_215 ik_520 (by decide), by rw [eS_722, pI_sK]; exact ik_301, by rw [eS_722, pI_sK]; exact ik_267, by rw [eS_722, pI_sK]; exact ik_290, q_48, by rw [eS_722, pR_sK]; exact ik_505, by rw [eS_722]; exact At_sK ha_x_L_215 ik_506 (by decide), by rw [eS_722, pI_sK]; exact ik_324, q_178, by rw [eS_722, pR_sK]; exact ik_527, by rw [eS_722, show (16 : Int) = i1_213_z by omega]; exact ShI_sK ha_x_L_215 (by decide) iv_216, (by rw [eS_722, pI_sK]; exact ik_333), q_75, by rw [eS_722, pR_sK]; exact ik_517, ⟨q_94, q_98, q_102, q_106, q_110, ⟨by rw [eS_722, pR_sK]; exact ik_554, by rw [eS_722, pR_sK]; exact ik_588, by rw [eS_722, pR_sK]; exact ik_622, by rw [eS_722, pR_sK]; exact ik_656, by rw [eS_722, pR_sK]; exact ik_690⟩, rd_114⟩⟩⟩ dX11_init_118
    · have z_b_723 := trivial
      have k_724 : i1_213_z < 16 := z_nle ti_16 hz_i1_213 c_718
      refine lv_aload_n X.1 X.2.1 dX11_init_99 rfl (lv_at hl 1 rfl) ?_
      refine r_getR (g := 1109) X hw ha_x_L_215 rfl 9 ik_527 (by decide) rfl inn_X11_init_11 (by decide) (X.2.2.2.1 (.fieldLink RX11 55 "SilkMill" "shelf" "[LSilkMill$Place;") (by decide +kernel)) rfl (gv_1109 _ _) dX11_init_100 ?_
      refine lv_iload_n X.1 X.2.1 dX11_init_103 rfl (lv_at hl 0 rfl) ?_
      refine r_new X hw 183 3 (nn_714 + 5) (cc_713 + 1) rfl tyX3 (by decide) rfl inn_X11_init_3 tyX3_ok (X.2.2.2.1 (.classLink RX11 53 RX3) (by decide +kernel)) (X.2.2.2.1 (.instantiable RX3 5) (by decide +kernel)) (X.2.2.2.1 (.initialized RX3) (by decide +kernel)) (zo_3 _) zd_3 (by show cc_713 + 1 ≤ (cc_713 + 1); omega) (by show nn_714 + 5 ≤ (nn_714 + 5); omega) (by show (cc_713 + 1) ≤ 58; omega) (by show (nn_714 + 5) ≤ 1728; omega) dX11_init_104 (fun q_725 H hq_725 hw => ?_)
      obtain ⟨S_726, eS_726⟩ : ∃ T, T = sO T_214 q_725 183 := ⟨_, rfl⟩
      rw [← eS_726] at hw
      have ph_727 : Phc S_726 = Phc S + 320 := (show Phc S_726 = Phc T_214 from Ph_sO hg_T_214 hq_725 eS_726 (by decide)).trans hpc_T_214
      have ph_728 : Phs S_726 = Phs S + 604000 := (show Phs S_726 = Phs T_214 from Ph_sO hg_T_214 hq_725 eS_726 (by decide)).trans hps_T_214
      clear hpc_T_214
      clear hps_T_214
      have hK_729 : Kq S S_726 x := hK_T_214.sO hq_725 eS_726
      have hg_730 : GX S_726 := by rw [eS_726]; exact GX_O hg_T_214 hq_725 (by decide +kernel)
      have hn0_q_725 := hK_T_214.new hq_725
      have ha_731 : At S_726 q_725 183 := by rw [eS_726]; exact At_nO _ _ _
      have hzI_q_725 : ∀ g, pI S_726 g q_725 = 0 := fun g => by rw [eS_726]; exact pI_sO_new
      have hzR_q_725 : ∀ g, pR S_726 g q_725 = none := fun g => by rw [eS_726]; exact if_pos rfl
      refine lv_dup X.1 X.2.1 dX11_init_107 rfl ?_
      refine k_v (rm := { frames := 2, cells := 1, slots := 8, locals := 96 }) (av := [.ref q_725]) X hw (va_runIN (As := []) (rest := [.ref q_725, .int (i1_213), .ref q_178]) (cfix X) (k_X3_init3 l G cy κ S_726 _ q_725 hg_730 ha_731 hzI_q_725 hzR_q_725) ⟨(va_cnB (host := RX11) 0 X.2.2.2.1 gX11_init_X3_init_n62 rfl rfl rfl (X.2.2.2.2.2.2.2.1.2.1 (RX11, 62, yX3_init) (by decide +kernel)) (X.2.2.2.1 (.initialized RX3) (by decide +kernel)) (by decide +kernel) ⟨Nat.le_of_ble_eq_true rfl, Nat.le_of_ble_eq_true rfl⟩), rfl, (X.2.2.2.1 (.instanceMethod yX3_init) (by decide +kernel))⟩ (pre_S X hw _) rfl rfl hl.1 rfl (lv_room (Nat.le_of_ble_eq_true rfl)) dX11_init_108 ⟨(by show (cc_713 + 1) + 1 ≤ 58; omega), (by show (nn_714 + 5) + 8 ≤ 1728; omega)⟩) ((cc_713 + 1) + 1) ((nn_714 + 5) + 8) (by show (cc_713 + 1) + 1 ≤ ((cc_713 + 1) + 1); omega) (by show (nn_714 + 5) + 8 ≤ ((nn_714 + 5) + 8); omega) (fun S_733 H locs hp hw hfr hnw => ?_)
      obtain ⟨hK_734, hg_735, ha_736, ph_737, ph_738, kx_739, kx_740, kx_741, kx_742, kx_743⟩ := hp
      have hK_744 : Kq S S_733 x := hK_729.sub hn0_q_725 hK_734
      have ph_745 : Phc S_733 = Phc S + 320 := by omega
      have ph_746 : Phs S_733 = Phs S + 604000 := by omega
      clear ph_727
      clear ph_728
      clear ph_737
      clear ph_738
      have t_747 : At S_726 q_178 17 := by rw [eS_726]; exact At_sO ik_528 hq_725
      have t_748 : At S_733 q_178 17 := hK_734.at ha_731 t_747 (by decide)
      have t_749 : pN S_726 q_178 = 16 := by rw [eS_726, pN_sO]; exact ik_533
      have t_751 : At S_726 q_178 17 := by rw [eS_726]; exact At_sO ik_528 hq_725
      have t_750 : pN S_733 q_178 = 16 := ((hK_734 q_178 t_751.1).2 (At_ne t_751 ha_731 (by decide))).2.2.2.1.trans t_749
      clear t_749
      refine r_aast X hw t_748 rfl ha_736 rfl (by decide) (by decide) rfl rfl (by rw [t_750]; exact z_ix hz_i1_213 (by omega) (by omega)) dX11_init_111 (fun H locs hw => ?_)
      obtain ⟨S_752, eS_752⟩ : ∃ T, T = sB S_733 q_178 (va_up (pB S_733 q_178) (Int32.toNatClampNeg (i1_213)) (some q_725)) := ⟨_, rfl⟩
      rw [← eS_752] at hw
      have ph_753 : Phc S_752 = Phc S + 320 := (show Phc S_752 = Phc S_733 from Ph_sB eS_752).trans ph_745
      have ph_754 : Phs S_752 = Phs S + 604000 := (show Phs S_752 = Phs S_733 from Ph_sB eS_752).trans ph_746
      clear ph_745
      clear ph_746
      have hK_755 : Kq S S_752 x := hK_744.sB hn0_q_178 eS_752
      have hg_756 : GX S_752 := by rw [eS_752]; exact uB_17 hg_735 t_748 (fun q hq => by cases hq; exact ha_736)
      have zn_758 := z_nat (x := i1_213) hz_i1_213 (by omega)
      have sh_757 : ShI S_752 q_178 (i1_213_z + 1) := ShI_step iv_216 hq_725 eS_726 hK_734 eS_752 ik_528.1 (by omega) ha_736 kx_739 kx_741 kx_742 kx_743
      obtain ⟨x_759, ex_759⟩ : ∃ y : Int32, y = i1_213 + 1 := ⟨_, rfl⟩
      have z_760 : x_759.toInt = i1_213_z + 1 := z_add ex_759 hz_i1_213 ti_1 (by omega) (by omega)
      refine lv_iinc (v := x_759) (lv' := [(1, .int (x_759)), (0, .ref x)]) X.1 X.2.1 dX11_init_112 hl (k := 0) rfl (by rw [ex_759]; rfl) (by decide) rfl (fun ls hl => ?_)
      refine lv_goto (tgt := 93) X.1 X.2.1 dX11_init_115 (by decide) ?_
      have t_761 : At S_726 x 191 := by rw [eS_726]; exact At_sO ha_x_L_215 hq_725
      have t_762 : At S_733 x 191 := hK_734.at ha_731 t_761 (by decide)
      have t_763 : At S_752 x 191 := tAt_sB eS_752 t_762
      have t_764 : pI S_726 1102 x = 0 := by rw [eS_726]; exact (pI_sO_ne (ne_of_new hq_725 ha_x_L_215.1)).trans ik_267
      have t_766 : At S_726 x 191 := by rw [eS_726]; exact At_sO ha_x_L_215 hq_725
      have t_765 : pI S_733 1102 x = 0 := (((hK_734 x t_766.1).2 (At_ne t_766 ha_731 (by decide))).2.1 1102).trans t_764
      have t_767 : pI S_752 1102 x = 0 := tI_sB eS_752 t_765
      have t_768 : pI S_726 1104 x = 0 := by rw [eS_726]; exact (pI_sO_ne (ne_of_new hq_725 ha_x_L_215.1)).trans ik_290
      have t_769 : pI S_733 1104 x = 0 := (((hK_734 x t_766.1).2 (At_ne t_766 ha_731 (by decide))).2.1 1104).trans t_768
      have t_770 : pI S_752 1104 x = 0 := tI_sB eS_752 t_769
      have t_771 : pI S_726 801 q_124 = 0 := by rw [eS_726]; exact (pI_sO_ne (ne_of_new hq_725 ik_520.1)).trans ik_301
      have t_773 : At S_726 q_124 8 := by rw [eS_726]; exact At_sO ik_520 hq_725
      have t_772 : pI S_733 801 q_124 = 0 := (((hK_734 q_124 t_773.1).2 (At_ne t_773 ha_731 (by decide))).2.1 801).trans t_771
      have t_774 : pI S_752 801 q_124 = 0 := tI_sB eS_752 t_772
      have t_775 : pI S_726 1000 q_48 = 0 := by rw [eS_726]; exact (pI_sO_ne (ne_of_new hq_725 ik_506.1)).trans ik_324
      have t_777 : At S_726 q_48 10 := by rw [eS_726]; exact At_sO ik_506 hq_725
      have t_776 : pI S_733 1000 q_48 = 0 := (((hK_734 q_48 t_777.1).2 (At_ne t_777 ha_731 (by decide))).2.1 1000).trans t_775
      have t_778 : pI S_752 1000 q_48 = 0 := tI_sB eS_752 t_776
      have t_779 : pI S_726 800 q_124 = 0 := by rw [eS_726]; exact (pI_sO_ne (ne_of_new hq_725 ik_520.1)).trans ik_333
      have t_780 : pI S_733 800 q_124 = 0 := (((hK_734 q_124 t_773.1).2 (At_ne t_773 ha_731 (by decide))).2.1 800).trans t_779
      have t_781 : pI S_752 800 q_124 = 0 := tI_sB eS_752 t_780
      have t_782 : pR S_726 1100 x = some q_1 := by rw [eS_726]; exact (pR_sO_ne (ne_of_new hq_725 ha_x_L_215.1)).trans ik_354
      have t_783 : pR S_733 1100 x = some q_1 := (((hK_734 x t_766.1).2 (At_ne t_766 ha_731 (by decide))).2.2.1 1100).trans t_782
      have t_784 : pR S_752 1100 x = some q_1 := tR_sB eS_752 t_783
      have t_785 : At S_726 q_1 36 := by rw [eS_726]; exact At_sO ik_355 hq_725
      have t_786 : At S_733 q_1 36 := hK_734.at ha_731 t_785 (by decide)
      have t_787 : At S_752 q_1 36 := tAt_sB eS_752 t_786
      have t_788 : pN S_726 q_1 = 600 := by rw [eS_726, pN_sO]; exact ik_396
      have t_790 : At S_726 q_1 36 := by rw [eS_726]; exact At_sO ik_355 hq_725
      have t_789 : pN S_733 q_1 = 600 := ((hK_734 q_1 t_790.1).2 (At_ne t_790 ha_731 (by decide))).2.2.2.1.trans t_788
      clear t_788
      have t_791 : pN S_752 q_1 = 600 := tN_sB eS_752 t_789
      clear t_789
      have t_792 : pR S_726 1101 x = some q_16 := by rw [eS_726]; exact (pR_sO_ne (ne_of_new hq_725 ha_x_L_215.1)).trans ik_415
      have t_793 : pR S_733 1101 x = some q_16 := (((hK_734 x t_766.1).2 (At_ne t_766 ha_731 (by decide))).2.2.1 1101).trans t_792
      have t_794 : pR S_752 1101 x = some q_16 := tR_sB eS_752 t_793
      have t_795 : At S_726 q_16 54 := by rw [eS_726]; exact At_sO ik_416 hq_725
      have t_796 : At S_733 q_16 54 := hK_734.at ha_731 t_795 (by decide)
      have t_797 : At S_752 q_16 54 := tAt_sB eS_752 t_796
      have t_798 : pN S_726 q_16 = 10 := by rw [eS_726, pN_sO]; exact ik_453
      have t_800 : At S_726 q_16 54 := by rw [eS_726]; exact At_sO ik_416 hq_725
      have t_799 : pN S_733 q_16 = 10 := ((hK_734 q_16 t_800.1).2 (At_ne t_800 ha_731 (by decide))).2.2.2.1.trans t_798
      clear t_798
      have t_801 : pN S_752 q_16 = 10 := tN_sB eS_752 t_799
      clear t_799
      have t_802 : pR S_726 1103 x = some q_32 := by rw [eS_726]; exact (pR_sO_ne (ne_of_new hq_725 ha_x_L_215.1)).trans ik_470
      have t_803 : pR S_733 1103 x = some q_32 := (((hK_734 x t_766.1).2 (At_ne t_766 ha_731 (by decide))).2.2.1 1103).trans t_802
      have t_804 : pR S_752 1103 x = some q_32 := tR_sB eS_752 t_803
      have t_805 : At S_726 q_32 18 := by rw [eS_726]; exact At_sO ik_471 hq_725
      have t_806 : At S_733 q_32 18 := hK_734.at ha_731 t_805 (by decide)
      have t_807 : At S_752 q_32 18 := tAt_sB eS_752 t_806
      have t_808 : pN S_726 q_32 = 4 := by rw [eS_726, pN_sO]; exact ik_504
      have t_810 : At S_726 q_32 18 := by rw [eS_726]; exact At_sO ik_471 hq_725
      have t_809 : pN S_733 q_32 = 4 := ((hK_734 q_32 t_810.1).2 (At_ne t_810 ha_731 (by decide))).2.2.2.1.trans t_808
      clear t_808
      have t_811 : pN S_752 q_32 = 4 := tN_sB eS_752 t_809
      clear t_809
      have t_812 : pR S_726 1105 x = some q_48 := by rw [eS_726]; exact (pR_sO_ne (ne_of_new hq_725 ha_x_L_215.1)).trans ik_505
      have t_813 : pR S_733 1105 x = some q_48 := (((hK_734 x t_766.1).2 (At_ne t_766 ha_731 (by decide))).2.2.1 1105).trans t_812
      have t_814 : pR S_752 1105 x = some q_48 := tR_sB eS_752 t_813
      have t_815 : At S_733 q_48 10 := hK_734.at ha_731 t_777 (by decide)
      have t_816 : At S_752 q_48 10 := tAt_sB eS_752 t_815
      have t_817 : pR S_726 1106 x = some q_75 := by rw [eS_726]; exact (pR_sO_ne (ne_of_new hq_725 ha_x_L_215.1)).trans ik_517
      have t_818 : pR S_733 1106 x = some q_75 := (((hK_734 x t_766.1).2 (At_ne t_766 ha_731 (by decide))).2.2.1 1106).trans t_817
      have t_819 : pR S_752 1106 x = some q_75 := tR_sB eS_752 t_818
      have t_820 : At S_726 q_75 6 := by rw [eS_726]; exact At_sO ik_518 hq_725
      have t_821 : At S_733 q_75 6 := hK_734.at ha_731 t_820 (by decide)
      have t_822 : At S_752 q_75 6 := tAt_sB eS_752 t_821
      have t_823 : pR S_726 1107 x = some q_124 := by rw [eS_726]; exact (pR_sO_ne (ne_of_new hq_725 ha_x_L_215.1)).trans ik_519
      have t_824 : pR S_733 1107 x = some q_124 := (((hK_734 x t_766.1).2 (At_ne t_766 ha_731 (by decide))).2.2.1 1107).trans t_823
      have t_825 : pR S_752 1107 x = some q_124 := tR_sB eS_752 t_824
      have t_826 : At S_733 q_124 8 := hK_734.at ha_731 t_773 (by decide)
      have t_827 : At S_752 q_124 8 := tAt_sB eS_752 t_826
      have t_828 : pR S_726 1108 x = some q_152 := by rw [eS_726]; exact (pR_sO_ne (ne_of_new hq_725 ha_x_L_215.1)).trans ik_525
      have t_829 : pR S_733 1108 x = some q_152 := (((hK_734 x t_766.1).2 (At_ne t_766 ha_731 (by decide))).2.2.1 1108).trans t_828
      have t_830 : pR S_752 1108 x = some q_152 := tR_sB eS_752 t_829
      have t_831 : At S_726 q_152 1 := by rw [eS_726]; exact At_sO ik_526 hq_725
      have t_832 : At S_733 q_152 1 := hK_734.at ha_731 t_831 (by decide)
      have t_833 : At S_752 q_152 1 := tAt_sB eS_752 t_832
      have t_834 : pR S_726 1109 x = some q_178 := by rw [eS_726]; exact (pR_sO_ne (ne_of_new hq_725 ha_x_L_215.1)).trans ik_527
      have t_835 : pR S_733 1109 x = some q_178 := (((hK_734 x t_766.1).2 (At_ne t_766 ha_731 (by decide))).2.2.1 1109).trans t_834
      have t_836 : pR S_752 1109 x = some q_178 := tR_sB eS_752 t_835
      have t_837 : At S_752 q_178 17 := tAt_sB eS_752 t_748
      have t_838 : pN S_752 q_178 = 16 := tN_sB eS_752 t_750
      clear t_750
      have t_839 : pR S_726 1111 x = some q_194 := by rw [eS_726]; exact (pR_sO_ne (ne_of_new hq_725 ha_x_L_215.1)).trans ik_534
      have t_840 : pR S_733 1111 x = some q_194 := (((hK_734 x t_766.1).2 (At_ne t_766 ha_731 (by decide))).2.2.1 1111).trans t_839
      have t_841 : pR S_752 1111 x = some q_194 := tR_sB eS_752 t_840
      have t_842 : At S_726 q_194 194 := by rw [eS_726]; exact At_sO ik_535 hq_725
      have t_843 : At S_733 q_194 194 := hK_734.at ha_731 t_842 (by decide)
      have t_844 : At S_752 q_194 194 := tAt_sB eS_752 t_843
      have t_845 : pN S_726 q_194 = 60 := by rw [eS_726, pN_sO]; exact ik_537
      have t_847 : At S_726 q_194 194 := by rw [eS_726]; exact At_sO ik_535 hq_725
      have t_846 : pN S_733 q_194 = 60 := ((hK_734 q_194 t_847.1).2 (At_ne t_847 ha_731 (by decide))).2.2.2.1.trans t_845
      clear t_845
      have t_848 : pN S_752 q_194 = 60 := tN_sB eS_752 t_846
      clear t_846
      have t_849 : pR S_726 601 q_75 = some q_94 := by rw [eS_726]; exact (pR_sO_ne (ne_of_new hq_725 ik_518.1)).trans ik_554
      have t_851 : At S_726 q_75 6 := by rw [eS_726]; exact At_sO ik_518 hq_725
      have t_850 : pR S_733 601 q_75 = some q_94 := (((hK_734 q_75 t_851.1).2 (At_ne t_851 ha_731 (by decide))).2.2.1 601).trans t_849
      have t_852 : pR S_752 601 q_75 = some q_94 := tR_sB eS_752 t_850
      have t_853 : At S_726 q_94 134 := by rw [eS_726]; exact At_sO ik_555 hq_725
      have t_854 : At S_733 q_94 134 := hK_734.at ha_731 t_853 (by decide)
      have t_855 : At S_752 q_94 134 := tAt_sB eS_752 t_854
      have t_856 : pN S_726 q_94 = 12 := by rw [eS_726, pN_sO]; exact ik_576
      have t_858 : At S_726 q_94 134 := by rw [eS_726]; exact At_sO ik_555 hq_725
      have t_857 : pN S_733 q_94 = 12 := ((hK_734 q_94 t_858.1).2 (At_ne t_858 ha_731 (by decide))).2.2.2.1.trans t_856
      clear t_856
      have t_859 : pN S_752 q_94 = 12 := tN_sB eS_752 t_857
      clear t_857
      have t_860 : pR S_726 602 q_75 = some q_98 := by rw [eS_726]; exact (pR_sO_ne (ne_of_new hq_725 ik_518.1)).trans ik_588
      have t_861 : pR S_733 602 q_75 = some q_98 := (((hK_734 q_75 t_851.1).2 (At_ne t_851 ha_731 (by decide))).2.2.1 602).trans t_860
      have t_862 : pR S_752 602 q_75 = some q_98 := tR_sB eS_752 t_861
      have t_863 : At S_726 q_98 134 := by rw [eS_726]; exact At_sO ik_589 hq_725
      have t_864 : At S_733 q_98 134 := hK_734.at ha_731 t_863 (by decide)
      have t_865 : At S_752 q_98 134 := tAt_sB eS_752 t_864
      have t_866 : pN S_726 q_98 = 12 := by rw [eS_726, pN_sO]; exact ik_610
      have t_868 : At S_726 q_98 134 := by rw [eS_726]; exact At_sO ik_589 hq_725
      have t_867 : pN S_733 q_98 = 12 := ((hK_734 q_98 t_868.1).2 (At_ne t_868 ha_731 (by decide))).2.2.2.1.trans t_866
      clear t_866
      have t_869 : pN S_752 q_98 = 12 := tN_sB eS_752 t_867
      clear t_867
      have t_870 : pR S_726 604 q_75 = some q_102 := by rw [eS_726]; exact (pR_sO_ne (ne_of_new hq_725 ik_518.1)).trans ik_622
      have t_871 : pR S_733 604 q_75 = some q_102 := (((hK_734 q_75 t_851.1).2 (At_ne t_851 ha_731 (by decide))).2.2.1 604).trans t_870
      have t_872 : pR S_752 604 q_75 = some q_102 := tR_sB eS_752 t_871
      have t_873 : At S_726 q_102 134 := by rw [eS_726]; exact At_sO ik_623 hq_725
      have t_874 : At S_733 q_102 134 := hK_734.at ha_731 t_873 (by decide)
      have t_875 : At S_752 q_102 134 := tAt_sB eS_752 t_874
      have t_876 : pN S_726 q_102 = 48 := by rw [eS_726, pN_sO]; exact ik_644
      have t_878 : At S_726 q_102 134 := by rw [eS_726]; exact At_sO ik_623 hq_725
      have t_877 : pN S_733 q_102 = 48 := ((hK_734 q_102 t_878.1).2 (At_ne t_878 ha_731 (by decide))).2.2.2.1.trans t_876
      clear t_876
      have t_879 : pN S_752 q_102 = 48 := tN_sB eS_752 t_877
      clear t_877
      have t_880 : pR S_726 605 q_75 = some q_106 := by rw [eS_726]; exact (pR_sO_ne (ne_of_new hq_725 ik_518.1)).trans ik_656
      have t_881 : pR S_733 605 q_75 = some q_106 := (((hK_734 q_75 t_851.1).2 (At_ne t_851 ha_731 (by decide))).2.2.1 605).trans t_880
      have t_882 : pR S_752 605 q_75 = some q_106 := tR_sB eS_752 t_881
      have t_883 : At S_726 q_106 134 := by rw [eS_726]; exact At_sO ik_657 hq_725
      have t_884 : At S_733 q_106 134 := hK_734.at ha_731 t_883 (by decide)
      have t_885 : At S_752 q_106 134 := tAt_sB eS_752 t_884
      have t_886 : pN S_726 q_106 = 48 := by rw [eS_726, pN_sO]; exact ik_678
      have t_888 : At S_726 q_106 134 := by rw [eS_726]; exact At_sO ik_657 hq_725
      have t_887 : pN S_733 q_106 = 48 := ((hK_734 q_106 t_888.1).2 (At_ne t_888 ha_731 (by decide))).2.2.2.1.trans t_886
      clear t_886
      have t_889 : pN S_752 q_106 = 48 := tN_sB eS_752 t_887
      clear t_887
      have t_890 : pR S_726 606 q_75 = some q_110 := by rw [eS_726]; exact (pR_sO_ne (ne_of_new hq_725 ik_518.1)).trans ik_690
      have t_891 : pR S_733 606 q_75 = some q_110 := (((hK_734 q_75 t_851.1).2 (At_ne t_851 ha_731 (by decide))).2.2.1 606).trans t_890
      have t_892 : pR S_752 606 q_75 = some q_110 := tR_sB eS_752 t_891
      have t_893 : At S_726 q_110 134 := by rw [eS_726]; exact At_sO ik_691 hq_725
      have t_894 : At S_733 q_110 134 := hK_734.at ha_731 t_893 (by decide)
      have t_895 : At S_752 q_110 134 := tAt_sB eS_752 t_894
      have t_896 : pN S_726 q_110 = 48 := by rw [eS_726, pN_sO]; exact ik_712
      have t_898 : At S_726 q_110 134 := by rw [eS_726]; exact At_sO ik_691 hq_725
      have t_897 : pN S_733 q_110 = 48 := ((hK_734 q_110 t_898.1).2 (At_ne t_898 ha_731 (by decide))).2.2.2.1.trans t_896
      clear t_896
      have t_899 : pN S_752 q_110 = 48 := tN_sB eS_752 t_897
      clear t_897
      exact ih _ (by omega) _ _ _ _ (x_759) (x_759.toInt) (((cc_713 + 1) + 1)) (((nn_714 + 5) + 8)) rfl hw rfl (by omega) t_763 hK_755 hg_756 ph_753 ph_754 (by rw [show x_759.toInt = i1_213_z + 1 by omega]; exact sh_757) t_767 t_770 t_774 t_778 t_781 t_784 t_787 t_791 t_794 t_797 t_801 t_804 t_807 t_811 t_814 t_816 t_819 t_822 t_825 t_827 t_830 t_833 t_836 t_837 t_838 t_841 t_844 t_848 t_852 t_855 t_859 t_862 t_865 t_869 t_872 t_875 t_879 t_882 t_885 t_889 t_892 t_895 t_899 (by omega) (by omega) (lv_sub hl [0, 1] rfl)
  have t_900 : At S_204 x 191 := tAt_sR eS_204 t_203
  have t_901 : At S_195 q_1 36 := by rw [eS_195]; exact At_sN t_394 hq_194
  have t_902 : At S_204 q_1 36 := tAt_sR eS_204 t_901
  have t_903 : At S_195 q_16 54 := by rw [eS_195]; exact At_sN t_451 hq_194
  have t_904 : At S_204 q_16 54 := tAt_sR eS_204 t_903
  have t_905 : At S_195 q_32 18 := by rw [eS_195]; exact At_sN t_502 hq_194
  have t_906 : At S_204 q_32 18 := tAt_sR eS_204 t_905
  have t_907 : At S_160 q_48 10 := hK_161.at ha_158 t_318 (by decide)
  have t_908 : At S_172 q_48 10 := tAt_sR eS_172 t_907
  have t_909 : At S_179 q_48 10 := by rw [eS_179]; exact At_sN t_908 hq_178
  have t_910 : At S_188 q_48 10 := tAt_sR eS_188 t_909
  have t_911 : At S_195 q_48 10 := by rw [eS_195]; exact At_sN t_910 hq_194
  have t_912 : At S_204 q_48 10 := tAt_sR eS_204 t_911
  have t_913 : At S_160 q_75 6 := hK_161.at ha_158 t_548 (by decide)
  have t_914 : At S_172 q_75 6 := tAt_sR eS_172 t_913
  have t_915 : At S_179 q_75 6 := by rw [eS_179]; exact At_sN t_914 hq_178
  have t_916 : At S_188 q_75 6 := tAt_sR eS_188 t_915
  have t_917 : At S_195 q_75 6 := by rw [eS_195]; exact At_sN t_916 hq_194
  have t_918 : At S_204 q_75 6 := tAt_sR eS_204 t_917
  have t_919 : At S_160 q_124 8 := hK_161.at ha_158 t_295 (by decide)
  have t_920 : At S_172 q_124 8 := tAt_sR eS_172 t_919
  have t_921 : At S_179 q_124 8 := by rw [eS_179]; exact At_sN t_920 hq_178
  have t_922 : At S_188 q_124 8 := tAt_sR eS_188 t_921
  have t_923 : At S_195 q_124 8 := by rw [eS_195]; exact At_sN t_922 hq_194
  have t_924 : At S_204 q_124 8 := tAt_sR eS_204 t_923
  have t_925 : At S_172 q_152 1 := tAt_sR eS_172 ha_163
  have t_926 : At S_179 q_152 1 := by rw [eS_179]; exact At_sN t_925 hq_178
  have t_927 : At S_188 q_152 1 := tAt_sR eS_188 t_926
  have t_928 : At S_195 q_152 1 := by rw [eS_195]; exact At_sN t_927 hq_194
  have t_929 : At S_204 q_152 1 := tAt_sR eS_204 t_928
  have t_930 : At S_195 q_178 17 := by rw [eS_195]; exact At_sN t_531 hq_194
  have t_931 : At S_204 q_178 17 := tAt_sR eS_204 t_930
  have t_932 : At S_204 q_194 194 := tAt_sR eS_204 ha_200
  have t_933 : At S_195 q_94 134 := by rw [eS_195]; exact At_sN t_574 hq_194
  have t_934 : At S_204 q_94 134 := tAt_sR eS_204 t_933
  have t_935 : At S_195 q_98 134 := by rw [eS_195]; exact At_sN t_608 hq_194
  have t_936 : At S_204 q_98 134 := tAt_sR eS_204 t_935
  have t_937 : At S_195 q_102 134 := by rw [eS_195]; exact At_sN t_642 hq_194
  have t_938 : At S_204 q_102 134 := tAt_sR eS_204 t_937
  have t_939 : At S_195 q_106 134 := by rw [eS_195]; exact At_sN t_676 hq_194
  have t_940 : At S_204 q_106 134 := tAt_sR eS_204 t_939
  have t_941 : At S_195 q_110 134 := by rw [eS_195]; exact At_sN t_710 hq_194
  have t_942 : At S_204 q_110 134 := tAt_sR eS_204 t_941
  exact L_212 _ _ _ _ _ (0) (0) (26) (1520) rfl hw ti_0 (by omega) t_900 hK_207 hg_208 ph_205 ph_206 ShI_0 t_266 t_289 t_300 t_323 t_332 t_353 t_902 t_395 t_414 t_904 t_452 t_469 t_906 t_503 t_242 t_912 t_516 t_918 t_225 t_924 t_524 t_929 t_211 t_931 t_532 h_209 t_932 t_536 t_553 t_934 t_575 t_587 t_936 t_609 t_621 t_938 t_643 t_655 t_940 t_677 t_689 t_942 t_711 (by omega) (by omega) (lv_sub hl [0, 1] rfl)
