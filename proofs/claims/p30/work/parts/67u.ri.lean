
set_option maxHeartbeats 4000000 in
set_option maxRecDepth 100000 in
theorem k_X8_init6 (l : Launch) (G : va_G) (cy : Nat → ClassId) (κ : Nat → Nat) (S : PS) (sz : Nat) (x : Nat) (hG : GX S) (ha_x : At S x 188) (hzI : ∀ g, pI S g x = 0) (hzR : ∀ g, pR S g x = none) : Cv l yX8_init wsX8_init ({ frames := 3, cells := 9, slots := 214, locals := 144 }) G cy κ S sz [.ref x] (fun (S9 : PS) => Kq S S9 x ∧ GX S9 ∧ At S9 x 8 ∧ Phc S9 = Phc S + 320 ∧ Phs S9 = Phs S + 604000 ∧ pI S9 801 x = 0 ∧ pI S9 800 x = 0 ∧ pI S9 806 x = 0) := by
  refine ent_m (cc := cX8_init) (maxL := 1) (ret := none) (by decide) rfl (Nat.le_of_ble_eq_true rfl) ?_
  intro p e s m below meth c ls X hr hlocks hin hw hl hsz
  subst hsz
  have X : Cx p c cX8_init 1 s [.ref x].toArray wsX8_init RX8 m G cy κ (AS S s.heap.size) := X
  have hl : lv_has ls 1 [(0, .ref x)] := hl
  have hpc0 : Phc S = Phc S + 0 := rfl
  have hps0 : Phs S = Phs S + 0 := rfl
  have hK : Kq S S x := Kq.rf S _
  refine lv_aload_n X.1 X.2.1 dX8_init_0 rfl (lv_at hl 0 rfl) ?_
  refine W.objInit X.1 X.2.1 X.2.2.2.2.1 (X.2.2.2.1 (.methodLink RX8 3 objectInit) (by decide +kernel)) (X.2.2.2.1 (.instanceMethod objectInit) (by decide +kernel)) (X.2.2.2.1 (.code objectInit ⟨#[0xb1]⟩ 1 none) (by decide +kernel)) rfl (hl.1.trans X.2.2.1.symm) rfl dX8_init_1 (Nat.le_of_ble_eq_true rfl) (Nat.le_of_ble_eq_true rfl) ?_
  refine W.eq (g2 := F0 m 4 ls ([])) rfl ?_
  refine lv_aload_n X.1 X.2.1 dX8_init_4 rfl (lv_at hl 0 rfl) ?_
  refine lv_iconst (v := 4) X.1 X.2.1 dX8_init_5 (by decide) ?_
  refine r_newI (N := 4) X hw 154 4 1 rfl (X.2.2.2.1 (.arrayClass .int) (by decide +kernel)) (z_nn ti_4 (by omega)) (by decide) (by decide) (Nat.le_of_ble_eq_true rfl) (Nat.le_of_ble_eq_true rfl) (Nat.le_of_ble_eq_true rfl) (Nat.le_of_ble_eq_true rfl) dX8_init_6 (fun q_1 H hq_1 hw => ?_)
  obtain ⟨S_2, eS_2⟩ : ∃ T, T = sN S q_1 154 4 := ⟨_, rfl⟩
  rw [← eS_2] at hw
  have ph_3 : Phc S_2 = Phc S + 0 := (show Phc S_2 = Phc S from Ph_sN' hG.ci hq_1 eS_2 (by decide)).trans hpc0
  have ph_4 : Phs S_2 = Phs S + 0 := (show Phs S_2 = Phs S from Ph_sN' hG.ci hq_1 eS_2 (by decide)).trans hps0
  clear hpc0
  clear hps0
  have hK_5 : Kq S S_2 x := hK.sN hq_1 eS_2
  have hg_6 : GX S_2 := by rw [eS_2]; exact GX_N hG hq_1 (by decide +kernel)
  have hn0_q_1 := hK.new hq_1
  have ha_7 : At S_2 q_1 154 := by rw [eS_2]; exact At_nN _ _ _ _
  have hn_8 : pN S_2 q_1 = 4 := by rw [eS_2]; exact pN_sN_new
  refine lv_dup X.1 X.2.1 dX8_init_8 rfl ?_
  refine lv_iconst (v := 0) X.1 X.2.1 dX8_init_9 (by decide) ?_
  refine lv_bipush (v := 100) X.1 X.2.1 dX8_init_10 (by decide) ?_
  refine r_iast X hw ha_7 rfl (by rw [hn_8]; exact z_ix ti_0 (by omega) (by omega)) dX8_init_12 (fun H locs hw => ?_)
  obtain ⟨S_9, eS_9⟩ : ∃ T, T = sA S_2 q_1 (upd (pA S_2 q_1) (Int32.toNatClampNeg (0)) (100)) := ⟨_, rfl⟩
  rw [← eS_9] at hw
  have ph_10 : Phc S_9 = Phc S + 0 := (show Phc S_9 = Phc S_2 from Ph_sA eS_9).trans ph_3
  have ph_11 : Phs S_9 = Phs S + 0 := (show Phs S_9 = Phs S_2 from Ph_sA eS_9).trans ph_4
  clear ph_3
  clear ph_4
  have hK_12 : Kq S S_9 x := hK_5.sA hn0_q_1 eS_9
  have hg_13 : GX S_9 := by rw [eS_9]; exact uA_154 hg_6 ha_7
  have h_14 : pA S_9 q_1 (Int32.toNatClampNeg (0)) = 100 := tA_sAs eS_9
  refine lv_dup X.1 X.2.1 dX8_init_13 rfl ?_
  refine lv_iconst (v := 1) X.1 X.2.1 dX8_init_14 (by decide) ?_
  refine lv_bipush (v := 80) X.1 X.2.1 dX8_init_15 (by decide) ?_
  have t_15 : At S_9 q_1 154 := tAt_sA eS_9 ha_7
  have t_16 : pN S_9 q_1 = 4 := tN_sA eS_9 hn_8
  clear hn_8
  refine r_iast X hw t_15 rfl (by rw [t_16]; exact z_ix ti_1 (by omega) (by omega)) dX8_init_17 (fun H locs hw => ?_)
  obtain ⟨S_17, eS_17⟩ : ∃ T, T = sA S_9 q_1 (upd (pA S_9 q_1) (Int32.toNatClampNeg (1)) (80)) := ⟨_, rfl⟩
  rw [← eS_17] at hw
  have ph_18 : Phc S_17 = Phc S + 0 := (show Phc S_17 = Phc S_9 from Ph_sA eS_17).trans ph_10
  have ph_19 : Phs S_17 = Phs S + 0 := (show Phs S_17 = Phs S_9 from Ph_sA eS_17).trans ph_11
  clear ph_10
  clear ph_11
  have hK_20 : Kq S S_17 x := hK_12.sA hn0_q_1 eS_17
  have hg_21 : GX S_17 := by rw [eS_17]; exact uA_154 hg_13 t_15
  have h_22 : pA S_17 q_1 (Int32.toNatClampNeg (1)) = 80 := tA_sAs eS_17
  refine lv_dup X.1 X.2.1 dX8_init_18 rfl ?_
  refine lv_iconst (v := 2) X.1 X.2.1 dX8_init_19 (by decide) ?_
  refine lv_bipush (v := 50) X.1 X.2.1 dX8_init_20 (by decide) ?_
  have t_23 : At S_17 q_1 154 := tAt_sA eS_17 t_15
  have t_24 : pN S_17 q_1 = 4 := tN_sA eS_17 t_16
  clear t_16
  refine r_iast X hw t_23 rfl (by rw [t_24]; exact z_ix ti_2 (by omega) (by omega)) dX8_init_22 (fun H locs hw => ?_)
  obtain ⟨S_25, eS_25⟩ : ∃ T, T = sA S_17 q_1 (upd (pA S_17 q_1) (Int32.toNatClampNeg (2)) (50)) := ⟨_, rfl⟩
  rw [← eS_25] at hw
  have ph_26 : Phc S_25 = Phc S + 0 := (show Phc S_25 = Phc S_17 from Ph_sA eS_25).trans ph_18
  have ph_27 : Phs S_25 = Phs S + 0 := (show Phs S_25 = Phs S_17 from Ph_sA eS_25).trans ph_19
  clear ph_18
  clear ph_19
  have hK_28 : Kq S S_25 x := hK_20.sA hn0_q_1 eS_25
  have hg_29 : GX S_25 := by rw [eS_25]; exact uA_154 hg_21 t_23
  have h_30 : pA S_25 q_1 (Int32.toNatClampNeg (2)) = 50 := tA_sAs eS_25
  refine lv_dup X.1 X.2.1 dX8_init_23 rfl ?_
  refine lv_iconst (v := 3) X.1 X.2.1 dX8_init_24 (by decide) ?_
  refine lv_bipush (v := 20) X.1 X.2.1 dX8_init_25 (by decide) ?_
  have t_31 : At S_25 q_1 154 := tAt_sA eS_25 t_23
  have t_32 : pN S_25 q_1 = 4 := tN_sA eS_25 t_24
  clear t_24
  refine r_iast X hw t_31 rfl (by rw [t_32]; exact z_ix ti_3 (by omega) (by omega)) dX8_init_27 (fun H locs hw => ?_)
  obtain ⟨S_33, eS_33⟩ : ∃ T, T = sA S_25 q_1 (upd (pA S_25 q_1) (Int32.toNatClampNeg (3)) (20)) := ⟨_, rfl⟩
  rw [← eS_33] at hw
  have ph_34 : Phc S_33 = Phc S + 0 := (show Phc S_33 = Phc S_25 from Ph_sA eS_33).trans ph_26
  have ph_35 : Phs S_33 = Phs S + 0 := (show Phs S_33 = Phs S_25 from Ph_sA eS_33).trans ph_27
  clear ph_26
  clear ph_27
  have hK_36 : Kq S S_33 x := hK_28.sA hn0_q_1 eS_33
  have hg_37 : GX S_33 := by rw [eS_33]; exact uA_154 hg_29 t_31
  have h_38 : pA S_33 q_1 (Int32.toNatClampNeg (3)) = 20 := tA_sAs eS_33
  have t_39 : At S_2 x 188 := by rw [eS_2]; exact At_sN ha_x hq_1
  have t_40 : At S_9 x 188 := tAt_sA eS_9 t_39
  have t_41 : At S_17 x 188 := tAt_sA eS_17 t_40
  have t_42 : At S_25 x 188 := tAt_sA eS_25 t_41
  have t_43 : At S_33 x 188 := tAt_sA eS_33 t_42
  have t_44 : At S_33 q_1 154 := tAt_sA eS_33 t_31
  refine r_putR X hw t_43 rfl 7 807 (some q_1) rfl tyX8 (by decide) rfl inn_X8_init_8 tyX8_ok nmX8 (by decide) (X.2.2.2.1 (.fieldLink RX8 9 "SilkMill$Store" "prices" "[I") (by decide +kernel)) rfl (Or.inr ⟨rfl, hin, rfl⟩) (fun _ => rfl) rfl (fun _ => rfl) rfl (Nat.le_of_ble_eq_true rfl) (st_807 _ _) dX8_init_28 (fun H locs hw => ?_)
  obtain ⟨S_45, eS_45⟩ : ∃ T, T = sR S_33 807 x (some q_1) := ⟨_, rfl⟩
  rw [← eS_45] at hw
  have ph_46 : Phc S_45 = Phc S + 0 := (show Phc S_45 = Phc S_33 from Ph_rawR t_43 (by decide) eS_45).trans ph_34
  have ph_47 : Phs S_45 = Phs S + 0 := (show Phs S_45 = Phs S_33 from Ph_rawR t_43 (by decide) eS_45).trans ph_35
  clear ph_34
  clear ph_35
  have hK_48 : Kq S S_45 x := hK_36.sR eS_45
  have hg_49 : GX S_45 := by rw [eS_45]; exact GX_rawR hg_37 t_43 (by decide +kernel)
  have h_50 : pR S_45 807 x = some q_1 := tR_sRs eS_45
  refine lv_aload_n X.1 X.2.1 dX8_init_31 rfl (lv_at hl 0 rfl) ?_
  refine lv_bipush (v := 40) X.1 X.2.1 dX8_init_32 (by decide) ?_
  refine r_newQ (N := 40) (C := RX7) X hw 19 19 44 2 rfl (by decide) rfl (X.2.2.2.1 (.classLink RX8 15 RX7) (by decide +kernel)) X.2.2.2.2.2.2.2.1.1.2.2.2 (z_nn ti_40 (by omega)) (by decide) (by decide) (Nat.le_of_ble_eq_true rfl) (Nat.le_of_ble_eq_true rfl) (Nat.le_of_ble_eq_true rfl) (Nat.le_of_ble_eq_true rfl) dX8_init_34 (fun q_51 H hq_51 hw => ?_)
  obtain ⟨S_52, eS_52⟩ : ∃ T, T = sN S_45 q_51 19 40 := ⟨_, rfl⟩
  rw [← eS_52] at hw
  have ph_53 : Phc S_52 = Phc S + 0 := (show Phc S_52 = Phc S_45 from Ph_sN' hg_49.ci hq_51 eS_52 (by decide)).trans ph_46
  have ph_54 : Phs S_52 = Phs S + 0 := (show Phs S_52 = Phs S_45 from Ph_sN' hg_49.ci hq_51 eS_52 (by decide)).trans ph_47
  clear ph_46
  clear ph_47
  have hK_55 : Kq S S_52 x := hK_48.sN hq_51 eS_52
  have hg_56 : GX S_52 := by rw [eS_52]; exact GX_N hg_49 hq_51 (by decide +kernel)
  have hn0_q_51 := hK_48.new hq_51
  have ha_57 : At S_52 q_51 19 := by rw [eS_52]; exact At_nN _ _ _ _
  have hn_58 : pN S_52 q_51 = 40 := by rw [eS_52]; exact pN_sN_new
  have t_59 : At S_45 x 188 := tAt_sR eS_45 t_43
  have t_60 : At S_52 x 188 := by rw [eS_52]; exact At_sN t_59 hq_51
  refine r_putR X hw t_60 rfl 8 808 (some q_51) rfl tyX8 (by decide) rfl inn_X8_init_8 tyX8_ok nmX8 (by decide) (X.2.2.2.1 (.fieldLink RX8 17 "SilkMill$Store" "skeins" "[LSilkMill$Skein;") (by decide +kernel)) rfl (Or.inr ⟨rfl, hin, rfl⟩) (fun _ => rfl) rfl (fun _ => rfl) rfl (Nat.le_of_ble_eq_true rfl) (st_808 _ _) dX8_init_37 (fun H locs hw => ?_)
  obtain ⟨S_61, eS_61⟩ : ∃ T, T = sR S_52 808 x (some q_51) := ⟨_, rfl⟩
  rw [← eS_61] at hw
  have ph_62 : Phc S_61 = Phc S + 0 := (show Phc S_61 = Phc S_52 from Ph_rawR t_60 (by decide) eS_61).trans ph_53
  have ph_63 : Phs S_61 = Phs S + 0 := (show Phs S_61 = Phs S_52 from Ph_rawR t_60 (by decide) eS_61).trans ph_54
  clear ph_53
  clear ph_54
  have hK_64 : Kq S S_61 x := hK_55.sR eS_61
  have hg_65 : GX S_61 := by rw [eS_61]; exact GX_rawR hg_56 t_60 (by decide +kernel)
  have h_66 : pR S_61 808 x = some q_51 := tR_sRs eS_61
  refine lv_aload_n X.1 X.2.1 dX8_init_40 rfl (lv_at hl 0 rfl) ?_
  refine lv_bipush (v := 40) X.1 X.2.1 dX8_init_41 (by decide) ?_
  refine r_newI (N := 40) X hw 1674 84 3 rfl (X.2.2.2.1 (.arrayClass .int) (by decide +kernel)) (z_nn ti_40 (by omega)) (by decide) (by decide) (Nat.le_of_ble_eq_true rfl) (Nat.le_of_ble_eq_true rfl) (Nat.le_of_ble_eq_true rfl) (Nat.le_of_ble_eq_true rfl) dX8_init_43 (fun q_67 H hq_67 hw => ?_)
  obtain ⟨S_68, eS_68⟩ : ∃ T, T = sN S_61 q_67 1674 40 := ⟨_, rfl⟩
  rw [← eS_68] at hw
  have ph_69 : Phc S_68 = Phc S + 0 := (show Phc S_68 = Phc S_61 from Ph_sN' hg_65.ci hq_67 eS_68 (by decide)).trans ph_62
  have ph_70 : Phs S_68 = Phs S + 0 := (show Phs S_68 = Phs S_61 from Ph_sN' hg_65.ci hq_67 eS_68 (by decide)).trans ph_63
  clear ph_62
  clear ph_63
  have hK_71 : Kq S S_68 x := hK_64.sN hq_67 eS_68
  have hg_72 : GX S_68 := by rw [eS_68]; exact GX_N hg_65 hq_67 (by decide +kernel)
  have hn0_q_67 := hK_64.new hq_67
  have ha_73 : At S_68 q_67 1674 := by rw [eS_68]; exact At_nN _ _ _ _
  have hn_74 : pN S_68 q_67 = 40 := by rw [eS_68]; exact pN_sN_new
  have t_75 : At S_61 x 188 := tAt_sR eS_61 t_60
  have t_76 : At S_68 x 188 := by rw [eS_68]; exact At_sN t_75 hq_67
  refine r_putR X hw t_76 rfl 9 809 (some q_67) rfl tyX8 (by decide) rfl inn_X8_init_8 tyX8_ok nmX8 (by decide) (X.2.2.2.1 (.fieldLink RX8 21 "SilkMill$Store" "faultSkeins" "[I") (by decide +kernel)) rfl (Or.inr ⟨rfl, hin, rfl⟩) (fun _ => rfl) rfl (fun _ => rfl) rfl (Nat.le_of_ble_eq_true rfl) (st_809 _ _) dX8_init_45 (fun H locs hw => ?_)
  obtain ⟨S_77, eS_77⟩ : ∃ T, T = sR S_68 809 x (some q_67) := ⟨_, rfl⟩
  rw [← eS_77] at hw
  have ph_78 : Phc S_77 = Phc S + 0 := (show Phc S_77 = Phc S_68 from Ph_rawR t_76 (by decide) eS_77).trans ph_69
  have ph_79 : Phs S_77 = Phs S + 0 := (show Phs S_77 = Phs S_68 from Ph_rawR t_76 (by decide) eS_77).trans ph_70
  clear ph_69
  clear ph_70
  have hK_80 : Kq S S_77 x := hK_71.sR eS_77
  have hg_81 : GX S_77 := by rw [eS_77]; exact GX_rawR hg_72 t_76 (by decide +kernel)
  have h_82 : pR S_77 809 x = some q_67 := tR_sRs eS_77
  refine lv_aload_n X.1 X.2.1 dX8_init_48 rfl (lv_at hl 0 rfl) ?_
  refine lv_bipush (v := 40) X.1 X.2.1 dX8_init_49 (by decide) ?_
  refine r_newI (N := 40) X hw 1694 124 4 rfl (X.2.2.2.1 (.arrayClass .int) (by decide +kernel)) (z_nn ti_40 (by omega)) (by decide) (by decide) (Nat.le_of_ble_eq_true rfl) (Nat.le_of_ble_eq_true rfl) (Nat.le_of_ble_eq_true rfl) (Nat.le_of_ble_eq_true rfl) dX8_init_51 (fun q_83 H hq_83 hw => ?_)
  obtain ⟨S_84, eS_84⟩ : ∃ T, T = sN S_77 q_83 1694 40 := ⟨_, rfl⟩
  rw [← eS_84] at hw
  have ph_85 : Phc S_84 = Phc S + 0 := (show Phc S_84 = Phc S_77 from Ph_sN' hg_81.ci hq_83 eS_84 (by decide)).trans ph_78
  have ph_86 : Phs S_84 = Phs S + 0 := (show Phs S_84 = Phs S_77 from Ph_sN' hg_81.ci hq_83 eS_84 (by decide)).trans ph_79
  clear ph_78
  clear ph_79
  have hK_87 : Kq S S_84 x := hK_80.sN hq_83 eS_84
  have hg_88 : GX S_84 := by rw [eS_84]; exact GX_N hg_81 hq_83 (by decide +kernel)
  have hn0_q_83 := hK_80.new hq_83
  have ha_89 : At S_84 q_83 1694 := by rw [eS_84]; exact At_nN _ _ _ _
  have hn_90 : pN S_84 q_83 = 40 := by rw [eS_84]; exact pN_sN_new
  have t_91 : At S_77 x 188 := tAt_sR eS_77 t_76
  have t_92 : At S_84 x 188 := by rw [eS_84]; exact At_sN t_91 hq_83
  refine r_putR X hw t_92 rfl 10 810 (some q_83) rfl tyX8 (by decide) rfl inn_X8_init_8 tyX8_ok nmX8 (by decide) (X.2.2.2.1 (.fieldLink RX8 24 "SilkMill$Store" "faultDays" "[I") (by decide +kernel)) rfl (Or.inr ⟨rfl, hin, rfl⟩) (fun _ => rfl) rfl (fun _ => rfl) rfl (Nat.le_of_ble_eq_true rfl) (st_810 _ _) dX8_init_53 (fun H locs hw => ?_)
  obtain ⟨S_93, eS_93⟩ : ∃ T, T = sR S_84 810 x (some q_83) := ⟨_, rfl⟩
  rw [← eS_93] at hw
  have ph_94 : Phc S_93 = Phc S + 0 := (show Phc S_93 = Phc S_84 from Ph_rawR t_92 (by decide) eS_93).trans ph_85
  have ph_95 : Phs S_93 = Phs S + 0 := (show Phs S_93 = Phs S_84 from Ph_rawR t_92 (by decide) eS_93).trans ph_86
  clear ph_85
  clear ph_86
  have hK_96 : Kq S S_93 x := hK_87.sR eS_93
  have hg_97 : GX S_93 := by rw [eS_93]; exact GX_rawR hg_88 t_92 (by decide +kernel)
  have h_98 : pR S_93 810 x = some q_83 := tR_sRs eS_93
  refine lv_aload_n X.1 X.2.1 dX8_init_56 rfl (lv_at hl 0 rfl) ?_
  refine lv_bipush (v := 40) X.1 X.2.1 dX8_init_57 (by decide) ?_
  refine r_newI (N := 40) X hw 1714 164 5 rfl (X.2.2.2.1 (.arrayClass .int) (by decide +kernel)) (z_nn ti_40 (by omega)) (by decide) (by decide) (Nat.le_of_ble_eq_true rfl) (Nat.le_of_ble_eq_true rfl) (Nat.le_of_ble_eq_true rfl) (Nat.le_of_ble_eq_true rfl) dX8_init_59 (fun q_99 H hq_99 hw => ?_)
  obtain ⟨S_100, eS_100⟩ : ∃ T, T = sN S_93 q_99 1714 40 := ⟨_, rfl⟩
  rw [← eS_100] at hw
  have ph_101 : Phc S_100 = Phc S + 0 := (show Phc S_100 = Phc S_93 from Ph_sN' hg_97.ci hq_99 eS_100 (by decide)).trans ph_94
  have ph_102 : Phs S_100 = Phs S + 0 := (show Phs S_100 = Phs S_93 from Ph_sN' hg_97.ci hq_99 eS_100 (by decide)).trans ph_95
  clear ph_94
  clear ph_95
  have hK_103 : Kq S S_100 x := hK_96.sN hq_99 eS_100
  have hg_104 : GX S_100 := by rw [eS_100]; exact GX_N hg_97 hq_99 (by decide +kernel)
  have hn0_q_99 := hK_96.new hq_99
  have ha_105 : At S_100 q_99 1714 := by rw [eS_100]; exact At_nN _ _ _ _
  have hn_106 : pN S_100 q_99 = 40 := by rw [eS_100]; exact pN_sN_new
  have t_107 : At S_93 x 188 := tAt_sR eS_93 t_92
  have t_108 : At S_100 x 188 := by rw [eS_100]; exact At_sN t_107 hq_99
  refine r_putR X hw t_108 rfl 11 811 (some q_99) rfl tyX8 (by decide) rfl inn_X8_init_8 tyX8_ok nmX8 (by decide) (X.2.2.2.1 (.fieldLink RX8 27 "SilkMill$Store" "faultAmounts" "[I") (by decide +kernel)) rfl (Or.inr ⟨rfl, hin, rfl⟩) (fun _ => rfl) rfl (fun _ => rfl) rfl (Nat.le_of_ble_eq_true rfl) (st_811 _ _) dX8_init_61 (fun H locs hw => ?_)
  obtain ⟨S_109, eS_109⟩ : ∃ T, T = sR S_100 811 x (some q_99) := ⟨_, rfl⟩
  rw [← eS_109] at hw
  have ph_110 : Phc S_109 = Phc S + 0 := (show Phc S_109 = Phc S_100 from Ph_rawR t_108 (by decide) eS_109).trans ph_101
  have ph_111 : Phs S_109 = Phs S + 0 := (show Phs S_109 = Phs S_100 from Ph_rawR t_108 (by decide) eS_109).trans ph_102
  clear ph_101
  clear ph_102
  have hK_112 : Kq S S_109 x := hK_103.sR eS_109
  have hg_113 : GX S_109 := by rw [eS_109]; exact GX_rawR hg_104 t_108 (by decide +kernel)
  have h_114 : pR S_109 811 x = some q_99 := tR_sRs eS_109
  refine lv_aload_n X.1 X.2.1 dX8_init_64 rfl (lv_at hl 0 rfl) ?_
  refine r_new X hw 182 2 172 6 rfl tyX2 (by decide) rfl inn_X8_init_2 tyX2_ok (X.2.2.2.1 (.classLink RX8 30 RX2) (by decide +kernel)) (X.2.2.2.1 (.instantiable RX2 8) (by decide +kernel)) (X.2.2.2.1 (.initialized RX2) (by decide +kernel)) (zo_2 _) zd_2 (Nat.le_of_ble_eq_true rfl) (Nat.le_of_ble_eq_true rfl) (Nat.le_of_ble_eq_true rfl) (Nat.le_of_ble_eq_true rfl) dX8_init_65 (fun q_115 H hq_115 hw => ?_)
  obtain ⟨S_116, eS_116⟩ : ∃ T, T = sO S_109 q_115 182 := ⟨_, rfl⟩
  rw [← eS_116] at hw
  have ph_117 : Phc S_116 = Phc S + 0 := (show Phc S_116 = Phc S_109 from Ph_sO hg_113 hq_115 eS_116 (by decide)).trans ph_110
  have ph_118 : Phs S_116 = Phs S + 0 := (show Phs S_116 = Phs S_109 from Ph_sO hg_113 hq_115 eS_116 (by decide)).trans ph_111
  clear ph_110
  clear ph_111
  have hK_119 : Kq S S_116 x := hK_112.sO hq_115 eS_116
  have hg_120 : GX S_116 := by rw [eS_116]; exact GX_O hg_113 hq_115 (by decide +kernel)
  have hn0_q_115 := hK_112.new hq_115
  have ha_121 : At S_116 q_115 182 := by rw [eS_116]; exact At_nO _ _ _
  have hzI_q_115 : ∀ g, pI S_116 g q_115 = 0 := fun g => by rw [eS_116]; exact pI_sO_new
  have hzR_q_115 : ∀ g, pR S_116 g q_115 = none := fun g => by rw [eS_116]; exact if_pos rfl
  refine lv_dup X.1 X.2.1 dX8_init_68 rfl ?_
  refine k_v (rm := { frames := 2, cells := 3, slots := 42, locals := 96 }) (av := [.ref q_115]) X hw (va_runIN (As := []) (rest := [.ref q_115, .ref x]) (cfix X) (k_X2_init l G cy κ S_116 _ q_115 hg_120 ha_121 hzI_q_115 hzR_q_115) ⟨(va_cnB (host := RX11) 0 X.2.2.2.1 gX8_init_X2_init_n32 rfl rfl rfl (X.2.2.2.2.2.2.2.1.2.1 (RX8, 32, yX2_init) (by decide +kernel)) (X.2.2.2.1 (.initialized RX2) (by decide +kernel)) (by decide +kernel) ⟨Nat.le_of_ble_eq_true rfl, Nat.le_of_ble_eq_true rfl⟩), rfl, (X.2.2.2.1 (.instanceMethod yX2_init) (by decide +kernel))⟩ (pre_S X hw _) rfl rfl hl.1 rfl (lv_room (Nat.le_of_ble_eq_true rfl)) dX8_init_69 ⟨Nat.le_of_ble_eq_true rfl, Nat.le_of_ble_eq_true rfl⟩) 9 214 (Nat.le_of_ble_eq_true rfl) (Nat.le_of_ble_eq_true rfl) (fun S_123 H locs hp hw hfr hnw => ?_)
  obtain ⟨hK_124, hg_125, ha_126, ph_127, ph_128⟩ := hp
  have hK_129 : Kq S S_123 x := hK_119.sub hn0_q_115 hK_124
  have ph_130 : Phc S_123 = Phc S + 0 := by omega
  have ph_131 : Phs S_123 = Phs S + 0 := by omega
  clear ph_117
  clear ph_118
  clear ph_127
  clear ph_128
  have t_132 : At S_109 x 188 := tAt_sR eS_109 t_108
  have t_133 : At S_116 x 188 := by rw [eS_116]; exact At_sO t_132 hq_115
  have t_134 : At S_123 x 188 := hK_124.at ha_121 t_133 (by decide)
  refine r_putR X hw t_134 rfl 12 812 (some q_115) rfl tyX8 (by decide) rfl inn_X8_init_8 tyX8_ok nmX8 (by decide) (X.2.2.2.1 (.fieldLink RX8 33 "SilkMill$Store" "mixer" "LSilkMill$Mixer;") (by decide +kernel)) rfl (Or.inr ⟨rfl, hin, rfl⟩) (fun _ => rfl) rfl (fun _ => rfl) rfl (Nat.le_of_ble_eq_true rfl) (st_812 _ _) dX8_init_72 (fun H locs hw => ?_)
  obtain ⟨S_135, eS_135⟩ : ∃ T, T = sR S_123 812 x (some q_115) := ⟨_, rfl⟩
  rw [← eS_135] at hw
  have ph_136 : Phc S_135 = Phc S + 0 := (show Phc S_135 = Phc S_123 from Ph_rawR t_134 (by decide) eS_135).trans ph_130
  have ph_137 : Phs S_135 = Phs S + 0 := (show Phs S_135 = Phs S_123 from Ph_rawR t_134 (by decide) eS_135).trans ph_131
  clear ph_130
  clear ph_131
  have hK_138 : Kq S S_135 x := hK_129.sR eS_135
  have hg_139 : GX S_135 := by rw [eS_135]; exact GX_rawR hg_125 t_134 (by decide +kernel)
  have h_140 : pR S_135 812 x = some q_115 := tR_sRs eS_135
  have t_141 : At S_135 x 188 := tAt_sR eS_135 t_134
  have nd_142 := nodup_of hw
  have t_143 : pI S_2 800 x = 0 := by rw [eS_2, pI_sN]; exact (hzI 800)
  have t_144 : pI S_9 800 x = 0 := tI_sA eS_9 t_143
  have t_145 : pI S_17 800 x = 0 := tI_sA eS_17 t_144
  have t_146 : pI S_25 800 x = 0 := tI_sA eS_25 t_145
  have t_147 : pI S_33 800 x = 0 := tI_sA eS_33 t_146
  have t_148 : pI S_45 800 x = 0 := tI_sR eS_45 t_147
  have t_149 : pI S_52 800 x = 0 := by rw [eS_52, pI_sN]; exact t_148
  have t_150 : pI S_61 800 x = 0 := tI_sR eS_61 t_149
  have t_151 : pI S_68 800 x = 0 := by rw [eS_68, pI_sN]; exact t_150
  have t_152 : pI S_77 800 x = 0 := tI_sR eS_77 t_151
  have t_153 : pI S_84 800 x = 0 := by rw [eS_84, pI_sN]; exact t_152
  have t_154 : pI S_93 800 x = 0 := tI_sR eS_93 t_153
  have t_155 : pI S_100 800 x = 0 := by rw [eS_100, pI_sN]; exact t_154
  have t_156 : pI S_109 800 x = 0 := tI_sR eS_109 t_155
  have t_158 : At S_109 x 188 := tAt_sR eS_109 t_108
  have t_157 : pI S_116 800 x = 0 := by rw [eS_116]; exact (pI_sO_ne (ne_of_new hq_115 t_158.1)).trans t_156
  have t_160 : At S_116 x 188 := by rw [eS_116]; exact At_sO t_158 hq_115
  have t_159 : pI S_123 800 x = 0 := (((hK_124 x t_160.1).2 (At_ne t_160 ha_121 (by decide))).2.1 800).trans t_157
  have t_161 : pI S_135 800 x = 0 := tI_sR eS_135 t_159
  have t_162 : pI S_2 806 x = 0 := by rw [eS_2, pI_sN]; exact (hzI 806)
  have t_163 : pI S_9 806 x = 0 := tI_sA eS_9 t_162
  have t_164 : pI S_17 806 x = 0 := tI_sA eS_17 t_163
  have t_165 : pI S_25 806 x = 0 := tI_sA eS_25 t_164
  have t_166 : pI S_33 806 x = 0 := tI_sA eS_33 t_165
  have t_167 : pI S_45 806 x = 0 := tI_sR eS_45 t_166
  have t_168 : pI S_52 806 x = 0 := by rw [eS_52, pI_sN]; exact t_167
  have t_169 : pI S_61 806 x = 0 := tI_sR eS_61 t_168
  have t_170 : pI S_68 806 x = 0 := by rw [eS_68, pI_sN]; exact t_169
  have t_171 : pI S_77 806 x = 0 := tI_sR eS_77 t_170
  have t_172 : pI S_84 806 x = 0 := by rw [eS_84, pI_sN]; exact t_171
  have t_173 : pI S_93 806 x = 0 := tI_sR eS_93 t_172
  have t_174 : pI S_100 806 x = 0 := by rw [eS_100, pI_sN]; exact t_173
  have t_175 : pI S_109 806 x = 0 := tI_sR eS_109 t_174
  have t_176 : pI S_116 806 x = 0 := by rw [eS_116]; exact (pI_sO_ne (ne_of_new hq_115 t_158.1)).trans t_175
  have t_177 : pI S_123 806 x = 0 := (((hK_124 x t_160.1).2 (At_ne t_160 ha_121 (by decide))).2.1 806).trans t_176
  have t_178 : pI S_135 806 x = 0 := tI_sR eS_135 t_177
  have t_179 : pR S_52 807 x = some q_1 := by rw [eS_52, pR_sN]; exact h_50
  have t_180 : pR S_61 807 x = some q_1 := tR_sR eS_61 rfl t_179
  have t_181 : pR S_68 807 x = some q_1 := by rw [eS_68, pR_sN]; exact t_180
  have t_182 : pR S_77 807 x = some q_1 := tR_sR eS_77 rfl t_181
  have t_183 : pR S_84 807 x = some q_1 := by rw [eS_84, pR_sN]; exact t_182
  have t_184 : pR S_93 807 x = some q_1 := tR_sR eS_93 rfl t_183
  have t_185 : pR S_100 807 x = some q_1 := by rw [eS_100, pR_sN]; exact t_184
  have t_186 : pR S_109 807 x = some q_1 := tR_sR eS_109 rfl t_185
  have t_187 : pR S_116 807 x = some q_1 := by rw [eS_116]; exact (pR_sO_ne (ne_of_new hq_115 t_158.1)).trans t_186
  have t_188 : pR S_123 807 x = some q_1 := (((hK_124 x t_160.1).2 (At_ne t_160 ha_121 (by decide))).2.2.1 807).trans t_187
  have t_189 : pR S_135 807 x = some q_1 := tR_sR eS_135 rfl t_188
  have t_190 : At S_45 q_1 154 := tAt_sR eS_45 t_44
  have t_191 : At S_52 q_1 154 := by rw [eS_52]; exact At_sN t_190 hq_51
  have t_192 : At S_61 q_1 154 := tAt_sR eS_61 t_191
  have t_193 : At S_68 q_1 154 := by rw [eS_68]; exact At_sN t_192 hq_67
  have t_194 : At S_77 q_1 154 := tAt_sR eS_77 t_193
  have t_195 : At S_84 q_1 154 := by rw [eS_84]; exact At_sN t_194 hq_83
  have t_196 : At S_93 q_1 154 := tAt_sR eS_93 t_195
  have t_197 : At S_100 q_1 154 := by rw [eS_100]; exact At_sN t_196 hq_99
  have t_198 : At S_109 q_1 154 := tAt_sR eS_109 t_197
  have t_199 : At S_116 q_1 154 := by rw [eS_116]; exact At_sO t_198 hq_115
  have t_200 : At S_123 q_1 154 := hK_124.at ha_121 t_199 (by decide)
  have t_201 : At S_135 q_1 154 := tAt_sR eS_135 t_200
  have t_202 : pN S_33 q_1 = 4 := tN_sA eS_33 t_32
  clear t_32
  have t_203 : pN S_45 q_1 = 4 := tN_sR eS_45 t_202
  clear t_202
  have t_205 : At S_45 q_1 154 := tAt_sR eS_45 t_44
  have t_204 : pN S_52 q_1 = 4 := by rw [eS_52]; exact (pN_sN_ne (ne_of_new hq_51 t_205.1)).trans t_203
  clear t_203
  have t_206 : pN S_61 q_1 = 4 := tN_sR eS_61 t_204
  clear t_204
  have t_208 : At S_52 q_1 154 := by rw [eS_52]; exact At_sN t_205 hq_51
  have t_209 : At S_61 q_1 154 := tAt_sR eS_61 t_208
  have t_207 : pN S_68 q_1 = 4 := by rw [eS_68]; exact (pN_sN_ne (ne_of_new hq_67 t_209.1)).trans t_206
  clear t_206
  have t_210 : pN S_77 q_1 = 4 := tN_sR eS_77 t_207
  clear t_207
  have t_212 : At S_68 q_1 154 := by rw [eS_68]; exact At_sN t_209 hq_67
  have t_213 : At S_77 q_1 154 := tAt_sR eS_77 t_212
  have t_211 : pN S_84 q_1 = 4 := by rw [eS_84]; exact (pN_sN_ne (ne_of_new hq_83 t_213.1)).trans t_210
  clear t_210
  have t_214 : pN S_93 q_1 = 4 := tN_sR eS_93 t_211
  clear t_211
  have t_216 : At S_84 q_1 154 := by rw [eS_84]; exact At_sN t_213 hq_83
  have t_217 : At S_93 q_1 154 := tAt_sR eS_93 t_216
  have t_215 : pN S_100 q_1 = 4 := by rw [eS_100]; exact (pN_sN_ne (ne_of_new hq_99 t_217.1)).trans t_214
  clear t_214
  have t_218 : pN S_109 q_1 = 4 := tN_sR eS_109 t_215
  clear t_215
  have t_219 : pN S_116 q_1 = 4 := by rw [eS_116, pN_sO]; exact t_218
  clear t_218
  have t_221 : At S_100 q_1 154 := by rw [eS_100]; exact At_sN t_217 hq_99
  have t_222 : At S_109 q_1 154 := tAt_sR eS_109 t_221
  have t_223 : At S_116 q_1 154 := by rw [eS_116]; exact At_sO t_222 hq_115
  have t_220 : pN S_123 q_1 = 4 := ((hK_124 q_1 t_223.1).2 (At_ne t_223 ha_121 (by decide))).2.2.2.1.trans t_219
  clear t_219
  have t_224 : pN S_135 q_1 = 4 := tN_sR eS_135 t_220
  clear t_220
  have t_225 : pR S_68 808 x = some q_51 := by rw [eS_68, pR_sN]; exact h_66
  have t_226 : pR S_77 808 x = some q_51 := tR_sR eS_77 rfl t_225
  have t_227 : pR S_84 808 x = some q_51 := by rw [eS_84, pR_sN]; exact t_226
  have t_228 : pR S_93 808 x = some q_51 := tR_sR eS_93 rfl t_227
  have t_229 : pR S_100 808 x = some q_51 := by rw [eS_100, pR_sN]; exact t_228
  have t_230 : pR S_109 808 x = some q_51 := tR_sR eS_109 rfl t_229
  have t_231 : pR S_116 808 x = some q_51 := by rw [eS_116]; exact (pR_sO_ne (ne_of_new hq_115 t_158.1)).trans t_230
  have t_232 : pR S_123 808 x = some q_51 := (((hK_124 x t_160.1).2 (At_ne t_160 ha_121 (by decide))).2.2.1 808).trans t_231
  have t_233 : pR S_135 808 x = some q_51 := tR_sR eS_135 rfl t_232
  have t_234 : At S_61 q_51 19 := tAt_sR eS_61 ha_57
  have t_235 : At S_68 q_51 19 := by rw [eS_68]; exact At_sN t_234 hq_67
  have t_236 : At S_77 q_51 19 := tAt_sR eS_77 t_235
  have t_237 : At S_84 q_51 19 := by rw [eS_84]; exact At_sN t_236 hq_83
  have t_238 : At S_93 q_51 19 := tAt_sR eS_93 t_237
  have t_239 : At S_100 q_51 19 := by rw [eS_100]; exact At_sN t_238 hq_99
  have t_240 : At S_109 q_51 19 := tAt_sR eS_109 t_239
  have t_241 : At S_116 q_51 19 := by rw [eS_116]; exact At_sO t_240 hq_115
  have t_242 : At S_123 q_51 19 := hK_124.at ha_121 t_241 (by decide)
  have t_243 : At S_135 q_51 19 := tAt_sR eS_135 t_242
  have t_244 : pN S_61 q_51 = 40 := tN_sR eS_61 hn_58
  clear hn_58
  have t_246 : At S_61 q_51 19 := tAt_sR eS_61 ha_57
  have t_245 : pN S_68 q_51 = 40 := by rw [eS_68]; exact (pN_sN_ne (ne_of_new hq_67 t_246.1)).trans t_244
  clear t_244
  have t_247 : pN S_77 q_51 = 40 := tN_sR eS_77 t_245
  clear t_245
  have t_249 : At S_68 q_51 19 := by rw [eS_68]; exact At_sN t_246 hq_67
  have t_250 : At S_77 q_51 19 := tAt_sR eS_77 t_249
  have t_248 : pN S_84 q_51 = 40 := by rw [eS_84]; exact (pN_sN_ne (ne_of_new hq_83 t_250.1)).trans t_247
  clear t_247
  have t_251 : pN S_93 q_51 = 40 := tN_sR eS_93 t_248
  clear t_248
  have t_253 : At S_84 q_51 19 := by rw [eS_84]; exact At_sN t_250 hq_83
  have t_254 : At S_93 q_51 19 := tAt_sR eS_93 t_253
  have t_252 : pN S_100 q_51 = 40 := by rw [eS_100]; exact (pN_sN_ne (ne_of_new hq_99 t_254.1)).trans t_251
  clear t_251
  have t_255 : pN S_109 q_51 = 40 := tN_sR eS_109 t_252
  clear t_252
  have t_256 : pN S_116 q_51 = 40 := by rw [eS_116, pN_sO]; exact t_255
  clear t_255
  have t_258 : At S_100 q_51 19 := by rw [eS_100]; exact At_sN t_254 hq_99
  have t_259 : At S_109 q_51 19 := tAt_sR eS_109 t_258
  have t_260 : At S_116 q_51 19 := by rw [eS_116]; exact At_sO t_259 hq_115
  have t_257 : pN S_123 q_51 = 40 := ((hK_124 q_51 t_260.1).2 (At_ne t_260 ha_121 (by decide))).2.2.2.1.trans t_256
  clear t_256
  have t_261 : pN S_135 q_51 = 40 := tN_sR eS_135 t_257
  clear t_257
  have t_262 : pR S_84 809 x = some q_67 := by rw [eS_84, pR_sN]; exact h_82
  have t_263 : pR S_93 809 x = some q_67 := tR_sR eS_93 rfl t_262
  have t_264 : pR S_100 809 x = some q_67 := by rw [eS_100, pR_sN]; exact t_263
  have t_265 : pR S_109 809 x = some q_67 := tR_sR eS_109 rfl t_264
  have t_266 : pR S_116 809 x = some q_67 := by rw [eS_116]; exact (pR_sO_ne (ne_of_new hq_115 t_158.1)).trans t_265
  have t_267 : pR S_123 809 x = some q_67 := (((hK_124 x t_160.1).2 (At_ne t_160 ha_121 (by decide))).2.2.1 809).trans t_266
  have t_268 : pR S_135 809 x = some q_67 := tR_sR eS_135 rfl t_267
  have t_269 : At S_77 q_67 1674 := tAt_sR eS_77 ha_73
  have t_270 : At S_84 q_67 1674 := by rw [eS_84]; exact At_sN t_269 hq_83
  have t_271 : At S_93 q_67 1674 := tAt_sR eS_93 t_270
  have t_272 : At S_100 q_67 1674 := by rw [eS_100]; exact At_sN t_271 hq_99
  have t_273 : At S_109 q_67 1674 := tAt_sR eS_109 t_272
  have t_274 : At S_116 q_67 1674 := by rw [eS_116]; exact At_sO t_273 hq_115
  have t_275 : At S_123 q_67 1674 := hK_124.at ha_121 t_274 (by decide)
  have t_276 : At S_135 q_67 1674 := tAt_sR eS_135 t_275
  have t_277 : pN S_77 q_67 = 40 := tN_sR eS_77 hn_74
  clear hn_74
  have t_279 : At S_77 q_67 1674 := tAt_sR eS_77 ha_73
  have t_278 : pN S_84 q_67 = 40 := by rw [eS_84]; exact (pN_sN_ne (ne_of_new hq_83 t_279.1)).trans t_277
  clear t_277
  have t_280 : pN S_93 q_67 = 40 := tN_sR eS_93 t_278
  clear t_278
  have t_282 : At S_84 q_67 1674 := by rw [eS_84]; exact At_sN t_279 hq_83
  have t_283 : At S_93 q_67 1674 := tAt_sR eS_93 t_282
  have t_281 : pN S_100 q_67 = 40 := by rw [eS_100]; exact (pN_sN_ne (ne_of_new hq_99 t_283.1)).trans t_280
  clear t_280
  have t_284 : pN S_109 q_67 = 40 := tN_sR eS_109 t_281
  clear t_281
  have t_285 : pN S_116 q_67 = 40 := by rw [eS_116, pN_sO]; exact t_284
  clear t_284
  have t_287 : At S_100 q_67 1674 := by rw [eS_100]; exact At_sN t_283 hq_99
  have t_288 : At S_109 q_67 1674 := tAt_sR eS_109 t_287
  have t_289 : At S_116 q_67 1674 := by rw [eS_116]; exact At_sO t_288 hq_115
  have t_286 : pN S_123 q_67 = 40 := ((hK_124 q_67 t_289.1).2 (At_ne t_289 ha_121 (by decide))).2.2.2.1.trans t_285
  clear t_285
  have t_290 : pN S_135 q_67 = 40 := tN_sR eS_135 t_286
  clear t_286
  have t_291 : pR S_100 810 x = some q_83 := by rw [eS_100, pR_sN]; exact h_98
  have t_292 : pR S_109 810 x = some q_83 := tR_sR eS_109 rfl t_291
  have t_293 : pR S_116 810 x = some q_83 := by rw [eS_116]; exact (pR_sO_ne (ne_of_new hq_115 t_158.1)).trans t_292
  have t_294 : pR S_123 810 x = some q_83 := (((hK_124 x t_160.1).2 (At_ne t_160 ha_121 (by decide))).2.2.1 810).trans t_293
  have t_295 : pR S_135 810 x = some q_83 := tR_sR eS_135 rfl t_294
  have t_296 : At S_93 q_83 1694 := tAt_sR eS_93 ha_89
  have t_297 : At S_100 q_83 1694 := by rw [eS_100]; exact At_sN t_296 hq_99
  have t_298 : At S_109 q_83 1694 := tAt_sR eS_109 t_297
  have t_299 : At S_116 q_83 1694 := by rw [eS_116]; exact At_sO t_298 hq_115
  have t_300 : At S_123 q_83 1694 := hK_124.at ha_121 t_299 (by decide)
  have t_301 : At S_135 q_83 1694 := tAt_sR eS_135 t_300
  have t_302 : pN S_93 q_83 = 40 := tN_sR eS_93 hn_90
  clear hn_90
  have t_304 : At S_93 q_83 1694 := tAt_sR eS_93 ha_89
  have t_303 : pN S_100 q_83 = 40 := by rw [eS_100]; exact (pN_sN_ne (ne_of_new hq_99 t_304.1)).trans t_302
  clear t_302
  have t_305 : pN S_109 q_83 = 40 := tN_sR eS_109 t_303
  clear t_303
  have t_306 : pN S_116 q_83 = 40 := by rw [eS_116, pN_sO]; exact t_305
  clear t_305
  have t_308 : At S_100 q_83 1694 := by rw [eS_100]; exact At_sN t_304 hq_99
  have t_309 : At S_109 q_83 1694 := tAt_sR eS_109 t_308
  have t_310 : At S_116 q_83 1694 := by rw [eS_116]; exact At_sO t_309 hq_115
  have t_307 : pN S_123 q_83 = 40 := ((hK_124 q_83 t_310.1).2 (At_ne t_310 ha_121 (by decide))).2.2.2.1.trans t_306
  clear t_306
  have t_311 : pN S_135 q_83 = 40 := tN_sR eS_135 t_307
  clear t_307
  have t_312 : pR S_116 811 x = some q_99 := by rw [eS_116]; exact (pR_sO_ne (ne_of_new hq_115 t_158.1)).trans h_114
  have t_313 : pR S_123 811 x = some q_99 := (((hK_124 x t_160.1).2 (At_ne t_160 ha_121 (by decide))).2.2.1 811).trans t_312
  have t_314 : pR S_135 811 x = some q_99 := tR_sR eS_135 rfl t_313
  have t_315 : At S_109 q_99 1714 := tAt_sR eS_109 ha_105
  have t_316 : At S_116 q_99 1714 := by rw [eS_116]; exact At_sO t_315 hq_115
  have t_317 : At S_123 q_99 1714 := hK_124.at ha_121 t_316 (by decide)
  have t_318 : At S_135 q_99 1714 := tAt_sR eS_135 t_317
  have t_319 : pN S_109 q_99 = 40 := tN_sR eS_109 hn_106
  clear hn_106
  have t_320 : pN S_116 q_99 = 40 := by rw [eS_116, pN_sO]; exact t_319
  clear t_319
  have t_322 : At S_109 q_99 1714 := tAt_sR eS_109 ha_105
  have t_323 : At S_116 q_99 1714 := by rw [eS_116]; exact At_sO t_322 hq_115
  have t_321 : pN S_123 q_99 = 40 := ((hK_124 q_99 t_323.1).2 (At_ne t_323 ha_121 (by decide))).2.2.2.1.trans t_320
  clear t_320
  have t_324 : pN S_135 q_99 = 40 := tN_sR eS_135 t_321
  clear t_321
  have t_325 : At S_135 q_115 2 := tAt_sR eS_135 ha_126
  obtain ⟨S_326, eS_326⟩ : ∃ T, T = sK S_135 x 8 := ⟨_, rfl⟩
  have hw := Wd_sK (k := 8) hw t_141 rfl; rw [← eS_326] at hw
  have hg9 : GX S_326 := by rw [eS_326]; exact GX_sK hg_139 t_141 (by decide +kernel) (mk_8 (by rw [pI_sK, t_161]; exact ⟨by rw [ti_0]; omega, by rw [ti_0]; omega⟩) (by rw [pI_sK, t_178]; exact ⟨by rw [ti_0]; omega, by rw [ti_0]; omega⟩) ⟨q_1, (by rw [pR_sK]; exact t_189), At_sK t_141 t_201 (by decide), by rw [pN_sK]; exact t_224⟩ ⟨q_51, (by rw [pR_sK]; exact t_233), At_sK t_141 t_243 (by decide), by rw [pN_sK]; exact t_261⟩ ⟨q_67, (by rw [pR_sK]; exact t_268), At_sK t_141 t_276 (by decide), by rw [pN_sK]; exact t_290⟩ ⟨q_83, (by rw [pR_sK]; exact t_295), At_sK t_141 t_301 (by decide), by rw [pN_sK]; exact t_311⟩ ⟨q_99, (by rw [pR_sK]; exact t_314), At_sK t_141 t_318 (by decide), by rw [pN_sK]; exact t_324⟩ ⟨q_115, (by rw [pR_sK]; exact h_140), At_sK t_141 t_325 (by decide)⟩)
  have ha9 : At S_326 x 8 := by rw [eS_326]; exact At_nK t_141
  have hk9 : Kq S S_326 x := hK_138.sK eS_326
  have hPhc9 : Phc S_326 = Phc S + 320 := by rw [show Phc S_326 = Ph fC 8 14400 S_326 from rfl, Ph_sK nd_142 t_141 (by decide) eS_326, ph_8 ha9 (show pI S_326 800 x = 0 by rw [eS_326, pI_sK]; exact t_161)]; show Phc S_135 + _ = _; omega
  have hPhs9 : Phs S_326 = Phs S + 604000 := by rw [show Phs S_326 = Ph fS 15100 46000 S_326 from rfl, Ph_sK nd_142 t_141 (by decide) eS_326, ph_8 ha9 (show pI S_326 800 x = 0 by rw [eS_326, pI_sK]; exact t_161)]; show Phs S_135 + _ = _; omega
  have t_327 : pI S_2 801 x = 0 := by rw [eS_2, pI_sN]; exact (hzI 801)
  have t_328 : pI S_9 801 x = 0 := tI_sA eS_9 t_327
  have t_329 : pI S_17 801 x = 0 := tI_sA eS_17 t_328
  have t_330 : pI S_25 801 x = 0 := tI_sA eS_25 t_329
  have t_331 : pI S_33 801 x = 0 := tI_sA eS_33 t_330
  have t_332 : pI S_45 801 x = 0 := tI_sR eS_45 t_331
  have t_333 : pI S_52 801 x = 0 := by rw [eS_52, pI_sN]; exact t_332
  have t_334 : pI S_61 801 x = 0 := tI_sR eS_61 t_333
  have t_335 : pI S_68 801 x = 0 := by rw [eS_68, pI_sN]; exact t_334
  have t_336 : pI S_77 801 x = 0 := tI_sR eS_77 t_335
  have t_337 : pI S_84 801 x = 0 := by rw [eS_84, pI_sN]; exact t_336
  have t_338 : pI S_93 801 x = 0 := tI_sR eS_93 t_337
  have t_339 : pI S_100 801 x = 0 := by rw [eS_100, pI_sN]; exact t_338
  have t_340 : pI S_109 801 x = 0 := tI_sR eS_109 t_339
  have t_341 : pI S_116 801 x = 0 := by rw [eS_116]; exact (pI_sO_ne (ne_of_new hq_115 t_158.1)).trans t_340
  have t_342 : pI S_123 801 x = 0 := (((hK_124 x t_160.1).2 (At_ne t_160 ha_121 (by decide))).2.1 801).trans t_341
  have t_343 : pI S_135 801 x = 0 := tI_sR eS_135 t_342
  exact ret_v X hw hr hlocks (Nat.le_of_ble_eq_true rfl) (Nat.le_of_ble_eq_true rfl) ⟨hk9, hg9, ha9, hPhc9, hPhs9, (by rw [eS_326, pI_sK]; exact t_343), (by rw [eS_326, pI_sK]; exact t_161), (by rw [eS_326, pI_sK]; exact t_178)⟩ dX8_init_75
set_option maxHeartbeats 4000000 in
set_option maxRecDepth 100000 in
theorem k_X11_init6 (l : Launch) (G : va_G) (cy : Nat → ClassId) (κ : Nat → Nat) (S : PS) (sz : Nat) (x : Nat) (hG : GX S) (ha_x : At S x 191) (hzI : ∀ g, pI S g x = 0) (hzR : ∀ g, pR S g x = none) : Cv l yX11_init wsX11_init ({ frames := 4, cells := 58, slots := 1728, locals := 192 }) G cy κ S sz [.ref x] (fun (S9 : PS) => Kq S S9 x ∧ GX S9 ∧ At S9 x 11 ∧ Phc S9 = Phc S + 57920 ∧ Phs S9 = Phs S + 788000 ∧ ∃ q, pR S9 1107 x = some q ∧ At S9 q 8 ∧ pI S9 801 q = 0 ∧ pI S9 1102 x = 0 ∧ pI S9 1104 x = 0 ∧ ∃ u, pR S9 1105 x = some u ∧ At S9 u 10 ∧ pI S9 1000 u = 0 ∧ ∃ sh, pR S9 1109 x = some sh ∧ ShI S9 sh 16 ∧ (pI S9 800 q = 0 ∧ pI S9 806 q = 0) ∧ ∃ rh, pR S9 1106 x = some rh ∧ RuD S9 rh) := by
  refine ent_m (cc := cX11_init) (maxL := 2) (ret := none) (by decide) rfl (Nat.le_of_ble_eq_true rfl) ?_
  intro p e s m below meth c ls X hr hlocks hin hw hl hsz
  subst hsz
  have X : Cx p c cX11_init 2 s [.ref x].toArray wsX11_init RX11 m G cy κ (AS S s.heap.size) := X
  have hl : lv_has ls 2 [(0, .ref x)] := hl
  have hpc0 : Phc S = Phc S + 0 := rfl
  have hps0 : Phs S = Phs S + 0 := rfl
  have hK : Kq S S x := Kq.rf S _
  generalize hQQ : MQ below _ _ _ _ _ _ = QQ
  replace hQQ := hQQ.symm
  refine lv_aload_n X.1 X.2.1 dX11_init_0 rfl (lv_at hl 0 rfl) ?_
  refine W.objInit X.1 X.2.1 X.2.2.2.2.1 (X.2.2.2.1 (.methodLink RX11 3 objectInit) (by decide +kernel)) (X.2.2.2.1 (.instanceMethod objectInit) (by decide +kernel)) (X.2.2.2.1 (.code objectInit ⟨#[0xb1]⟩ 1 none) (by decide +kernel)) rfl (hl.1.trans X.2.2.1.symm) rfl dX11_init_1 (Nat.le_of_ble_eq_true rfl) (Nat.le_of_ble_eq_true rfl) ?_
  refine W.eq (g2 := F0 m 4 ls ([])) rfl ?_
  refine lv_aload_n X.1 X.2.1 dX11_init_4 rfl (lv_at hl 0 rfl) ?_
  refine lv_sipush (v := 600) X.1 X.2.1 dX11_init_5 (by decide) ?_
  refine r_newQ (N := 600) (C := RX0) X hw 36 16 600 1 rfl (by decide) rfl (X.2.2.2.1 (.classLink RX11 9 RX0) (by decide +kernel)) X.2.2.2.2.2.2.2.1.1.1 (z_nn ti_600 (by omega)) (by decide) (by decide) (by show 0 + 1 ≤ 1; omega) (by show 0 + 600 ≤ 600; omega) (by show 1 ≤ 58; omega) (by show 600 ≤ 1728; omega) dX11_init_8 (fun q_1 H hq_1 hw => ?_)
  obtain ⟨S_2, eS_2⟩ : ∃ T, T = sN S q_1 36 600 := ⟨_, rfl⟩
  rw [← eS_2] at hw
  have ph_3 : Phc S_2 = Phc S + 0 := (show Phc S_2 = Phc S from Ph_sN' hG.ci hq_1 eS_2 (by decide)).trans hpc0
  have ph_4 : Phs S_2 = Phs S + 0 := (show Phs S_2 = Phs S from Ph_sN' hG.ci hq_1 eS_2 (by decide)).trans hps0
  clear hpc0
  clear hps0
  have hK_5 : Kq S S_2 x := hK.sN hq_1 eS_2
  have hg_6 : GX S_2 := by rw [eS_2]; exact GX_N hG hq_1 (by decide +kernel)
  have hn0_q_1 := hK.new hq_1
  have ha_7 : At S_2 q_1 36 := by rw [eS_2]; exact At_nN _ _ _ _
  have hn_8 : pN S_2 q_1 = 600 := by rw [eS_2]; exact pN_sN_new
  have t_9 : At S_2 x 191 := by rw [eS_2]; exact At_sN ha_x hq_1
  refine r_putR X hw t_9 rfl 0 1100 (some q_1) rfl tyX11 (by decide) rfl inn_X11_init_11 tyX11_ok nmX11 (by decide) (X.2.2.2.1 (.fieldLink RX11 11 "SilkMill" "cocoons" "[LSilkMill$Cocoon;") (by decide +kernel)) rfl (Or.inr ⟨rfl, hin, rfl⟩) (fun _ => rfl) rfl (fun _ => rfl) rfl (Nat.le_of_ble_eq_true rfl) (st_1100 _ _) dX11_init_11 (fun H locs hw => ?_)
  obtain ⟨S_10, eS_10⟩ : ∃ T, T = sR S_2 1100 x (some q_1) := ⟨_, rfl⟩
  rw [← eS_10] at hw
  have ph_11 : Phc S_10 = Phc S + 0 := (show Phc S_10 = Phc S_2 from Ph_rawR t_9 (by decide) eS_10).trans ph_3
  have ph_12 : Phs S_10 = Phs S + 0 := (show Phs S_10 = Phs S_2 from Ph_rawR t_9 (by decide) eS_10).trans ph_4
  clear ph_3
  clear ph_4
  have hK_13 : Kq S S_10 x := hK_5.sR eS_10
  have hg_14 : GX S_10 := by rw [eS_10]; exact GX_rawR hg_6 t_9 (by decide +kernel)
  have h_15 : pR S_10 1100 x = some q_1 := tR_sRs eS_10
  refine lv_aload_n X.1 X.2.1 dX11_init_14 rfl (lv_at hl 0 rfl) ?_
  refine lv_bipush (v := 10) X.1 X.2.1 dX11_init_15 (by decide) ?_
  refine r_newI (N := 10) X hw 54 610 2 rfl (X.2.2.2.1 (.arrayClass .int) (by decide +kernel)) (z_nn ti_10 (by omega)) (by decide) (by decide) (by show 1 + 1 ≤ 2; omega) (by show 600 + 10 ≤ 610; omega) (by show 2 ≤ 58; omega) (by show 610 ≤ 1728; omega) dX11_init_17 (fun q_16 H hq_16 hw => ?_)
  obtain ⟨S_17, eS_17⟩ : ∃ T, T = sN S_10 q_16 54 10 := ⟨_, rfl⟩
  rw [← eS_17] at hw
  have ph_18 : Phc S_17 = Phc S + 0 := (show Phc S_17 = Phc S_10 from Ph_sN' hg_14.ci hq_16 eS_17 (by decide)).trans ph_11
  have ph_19 : Phs S_17 = Phs S + 0 := (show Phs S_17 = Phs S_10 from Ph_sN' hg_14.ci hq_16 eS_17 (by decide)).trans ph_12
  clear ph_11
  clear ph_12
  have hK_20 : Kq S S_17 x := hK_13.sN hq_16 eS_17
  have hg_21 : GX S_17 := by rw [eS_17]; exact GX_N hg_14 hq_16 (by decide +kernel)
  have hn0_q_16 := hK_13.new hq_16
  have ha_22 : At S_17 q_16 54 := by rw [eS_17]; exact At_nN _ _ _ _
  have hn_23 : pN S_17 q_16 = 10 := by rw [eS_17]; exact pN_sN_new
  have t_24 : At S_10 x 191 := tAt_sR eS_10 t_9
  have t_25 : At S_17 x 191 := by rw [eS_17]; exact At_sN t_24 hq_16
  refine r_putR X hw t_25 rfl 1 1101 (some q_16) rfl tyX11 (by decide) rfl inn_X11_init_11 tyX11_ok nmX11 (by decide) (X.2.2.2.1 (.fieldLink RX11 15 "SilkMill" "lotSizes" "[I") (by decide +kernel)) rfl (Or.inr ⟨rfl, hin, rfl⟩) (fun _ => rfl) rfl (fun _ => rfl) rfl (Nat.le_of_ble_eq_true rfl) (st_1101 _ _) dX11_init_19 (fun H locs hw => ?_)
  obtain ⟨S_26, eS_26⟩ : ∃ T, T = sR S_17 1101 x (some q_16) := ⟨_, rfl⟩
  rw [← eS_26] at hw
  have ph_27 : Phc S_26 = Phc S + 0 := (show Phc S_26 = Phc S_17 from Ph_rawR t_25 (by decide) eS_26).trans ph_18
  have ph_28 : Phs S_26 = Phs S + 0 := (show Phs S_26 = Phs S_17 from Ph_rawR t_25 (by decide) eS_26).trans ph_19
  clear ph_18
  clear ph_19
  have hK_29 : Kq S S_26 x := hK_20.sR eS_26
  have hg_30 : GX S_26 := by rw [eS_26]; exact GX_rawR hg_21 t_25 (by decide +kernel)
  have h_31 : pR S_26 1101 x = some q_16 := tR_sRs eS_26
  refine lv_aload_n X.1 X.2.1 dX11_init_22 rfl (lv_at hl 0 rfl) ?_
  refine lv_iconst (v := 4) X.1 X.2.1 dX11_init_23 (by decide) ?_
  refine r_newQ (N := 4) (C := RX4) X hw 18 18 614 3 rfl (by decide) rfl (X.2.2.2.1 (.classLink RX11 19 RX4) (by decide +kernel)) X.2.2.2.2.2.2.2.1.1.2.2.1 (z_nn ti_4 (by omega)) (by decide) (by decide) (by show 2 + 1 ≤ 3; omega) (by show 610 + 4 ≤ 614; omega) (by show 3 ≤ 58; omega) (by show 614 ≤ 1728; omega) dX11_init_24 (fun q_32 H hq_32 hw => ?_)
  obtain ⟨S_33, eS_33⟩ : ∃ T, T = sN S_26 q_32 18 4 := ⟨_, rfl⟩
  rw [← eS_33] at hw
  have ph_34 : Phc S_33 = Phc S + 0 := (show Phc S_33 = Phc S_26 from Ph_sN' hg_30.ci hq_32 eS_33 (by decide)).trans ph_27
  have ph_35 : Phs S_33 = Phs S + 0 := (show Phs S_33 = Phs S_26 from Ph_sN' hg_30.ci hq_32 eS_33 (by decide)).trans ph_28
  clear ph_27
  clear ph_28
  have hK_36 : Kq S S_33 x := hK_29.sN hq_32 eS_33
  have hg_37 : GX S_33 := by rw [eS_33]; exact GX_N hg_30 hq_32 (by decide +kernel)
  have hn0_q_32 := hK_29.new hq_32
  have ha_38 : At S_33 q_32 18 := by rw [eS_33]; exact At_nN _ _ _ _
  have hn_39 : pN S_33 q_32 = 4 := by rw [eS_33]; exact pN_sN_new
  have t_40 : At S_26 x 191 := tAt_sR eS_26 t_25
  have t_41 : At S_33 x 191 := by rw [eS_33]; exact At_sN t_40 hq_32
  refine r_putR X hw t_41 rfl 3 1103 (some q_32) rfl tyX11 (by decide) rfl inn_X11_init_11 tyX11_ok nmX11 (by decide) (X.2.2.2.1 (.fieldLink RX11 21 "SilkMill" "pots" "[LSilkMill$Pot;") (by decide +kernel)) rfl (Or.inr ⟨rfl, hin, rfl⟩) (fun _ => rfl) rfl (fun _ => rfl) rfl (Nat.le_of_ble_eq_true rfl) (st_1103 _ _) dX11_init_27 (fun H locs hw => ?_)
  obtain ⟨S_42, eS_42⟩ : ∃ T, T = sR S_33 1103 x (some q_32) := ⟨_, rfl⟩
  rw [← eS_42] at hw
  have ph_43 : Phc S_42 = Phc S + 0 := (show Phc S_42 = Phc S_33 from Ph_rawR t_41 (by decide) eS_42).trans ph_34
  have ph_44 : Phs S_42 = Phs S + 0 := (show Phs S_42 = Phs S_33 from Ph_rawR t_41 (by decide) eS_42).trans ph_35
  clear ph_34
  clear ph_35
  have hK_45 : Kq S S_42 x := hK_36.sR eS_42
  have hg_46 : GX S_42 := by rw [eS_42]; exact GX_rawR hg_37 t_41 (by decide +kernel)
  have h_47 : pR S_42 1103 x = some q_32 := tR_sRs eS_42
  refine lv_aload_n X.1 X.2.1 dX11_init_30 rfl (lv_at hl 0 rfl) ?_
  refine r_new X hw 190 10 621 4 rfl tyX10 (by decide) rfl inn_X11_init_10 tyX10_ok (X.2.2.2.1 (.classLink RX11 25 RX10) (by decide +kernel)) (X.2.2.2.1 (.instantiable RX10 7) (by decide +kernel)) (X.2.2.2.1 (.initialized RX10) (by decide +kernel)) (zo_10 _) zd_10 (by show 3 + 1 ≤ 4; omega) (by show 614 + 7 ≤ 621; omega) (by show 4 ≤ 58; omega) (by show 621 ≤ 1728; omega) dX11_init_31 (fun q_48 H hq_48 hw => ?_)
  obtain ⟨S_49, eS_49⟩ : ∃ T, T = sO S_42 q_48 190 := ⟨_, rfl⟩
  rw [← eS_49] at hw
  have ph_50 : Phc S_49 = Phc S + 0 := (show Phc S_49 = Phc S_42 from Ph_sO hg_46 hq_48 eS_49 (by decide)).trans ph_43
  have ph_51 : Phs S_49 = Phs S + 0 := (show Phs S_49 = Phs S_42 from Ph_sO hg_46 hq_48 eS_49 (by decide)).trans ph_44
  clear ph_43
  clear ph_44
  have hK_52 : Kq S S_49 x := hK_45.sO hq_48 eS_49
  have hg_53 : GX S_49 := by rw [eS_49]; exact GX_O hg_46 hq_48 (by decide +kernel)
  have hn0_q_48 := hK_45.new hq_48
  have ha_54 : At S_49 q_48 190 := by rw [eS_49]; exact At_nO _ _ _
  have hzI_q_48 : ∀ g, pI S_49 g q_48 = 0 := fun g => by rw [eS_49]; exact pI_sO_new
  have hzR_q_48 : ∀ g, pR S_49 g q_48 = none := fun g => by rw [eS_49]; exact if_pos rfl
  refine lv_dup X.1 X.2.1 dX11_init_34 rfl ?_
  refine k_v (rm := { frames := 2, cells := 1, slots := 400, locals := 96 }) (av := [.ref q_48]) X hw (va_runIN (As := []) (rest := [.ref q_48, .ref x]) (cfix X) (k_X10_init l G cy κ S_49 _ q_48 hg_53 ha_54 hzI_q_48 hzR_q_48) ⟨(va_cnB (host := RX11) 0 X.2.2.2.1 gX11_init_X10_init_n27 rfl rfl rfl (X.2.2.2.2.2.2.2.1.2.1 (RX11, 27, yX10_init) (by decide +kernel)) (X.2.2.2.1 (.initialized RX10) (by decide +kernel)) (by decide +kernel) ⟨Nat.le_of_ble_eq_true rfl, Nat.le_of_ble_eq_true rfl⟩), rfl, (X.2.2.2.1 (.instanceMethod yX10_init) (by decide +kernel))⟩ (pre_S X hw _) rfl rfl hl.1 rfl (lv_room (Nat.le_of_ble_eq_true rfl)) dX11_init_35 ⟨(by show 4 + 1 ≤ 58; omega), (by show 621 + 400 ≤ 1728; omega)⟩) 5 1021 (by show 4 + 1 ≤ 5; omega) (by show 621 + 400 ≤ 1021; omega) (fun S_56 H locs hp hw hfr hnw => ?_)
  obtain ⟨hK_57, hg_58, ha_59, ph_60, ph_61, kz_62⟩ := hp
  have hK_63 : Kq S S_56 x := hK_52.sub hn0_q_48 hK_57
  have ph_64 : Phc S_56 = Phc S + 0 := by omega
  have ph_65 : Phs S_56 = Phs S + 0 := by omega
  clear ph_50
  clear ph_51
  clear ph_60
  clear ph_61
  have t_66 : At S_42 x 191 := tAt_sR eS_42 t_41
  have t_67 : At S_49 x 191 := by rw [eS_49]; exact At_sO t_66 hq_48
  have t_68 : At S_56 x 191 := hK_57.at ha_54 t_67 (by decide)
  refine r_putR X hw t_68 rfl 5 1105 (some q_48) rfl tyX11 (by decide) rfl inn_X11_init_11 tyX11_ok nmX11 (by decide) (X.2.2.2.1 (.fieldLink RX11 28 "SilkMill" "tape" "LSilkMill$Tape;") (by decide +kernel)) rfl (Or.inr ⟨rfl, hin, rfl⟩) (fun _ => rfl) rfl (fun _ => rfl) rfl (Nat.le_of_ble_eq_true rfl) (st_1105 _ _) dX11_init_38 (fun H locs hw => ?_)
  obtain ⟨S_69, eS_69⟩ : ∃ T, T = sR S_56 1105 x (some q_48) := ⟨_, rfl⟩
  rw [← eS_69] at hw
  have ph_70 : Phc S_69 = Phc S + 0 := (show Phc S_69 = Phc S_56 from Ph_rawR t_68 (by decide) eS_69).trans ph_64
  have ph_71 : Phs S_69 = Phs S + 0 := (show Phs S_69 = Phs S_56 from Ph_rawR t_68 (by decide) eS_69).trans ph_65
  clear ph_64
  clear ph_65
  have hK_72 : Kq S S_69 x := hK_63.sR eS_69
  have hg_73 : GX S_69 := by rw [eS_69]; exact GX_rawR hg_58 t_68 (by decide +kernel)
  have h_74 : pR S_69 1105 x = some q_48 := tR_sRs eS_69
  refine lv_aload_n X.1 X.2.1 dX11_init_41 rfl (lv_at hl 0 rfl) ?_
  refine r_new X hw 186 6 1028 6 rfl tyX6 (by decide) rfl inn_X11_init_6 tyX6_ok (X.2.2.2.1 (.classLink RX11 32 RX6) (by decide +kernel)) (X.2.2.2.1 (.instantiable RX6 7) (by decide +kernel)) (X.2.2.2.1 (.initialized RX6) (by decide +kernel)) (zo_6 _) zd_6 (by show 5 + 1 ≤ 6; omega) (by show 1021 + 7 ≤ 1028; omega) (by show 6 ≤ 58; omega) (by show 1028 ≤ 1728; omega) dX11_init_42 (fun q_75 H hq_75 hw => ?_)
  obtain ⟨S_76, eS_76⟩ : ∃ T, T = sO S_69 q_75 186 := ⟨_, rfl⟩
  rw [← eS_76] at hw
  have ph_77 : Phc S_76 = Phc S + 0 := (show Phc S_76 = Phc S_69 from Ph_sO hg_73 hq_75 eS_76 (by decide)).trans ph_70
  have ph_78 : Phs S_76 = Phs S + 0 := (show Phs S_76 = Phs S_69 from Ph_sO hg_73 hq_75 eS_76 (by decide)).trans ph_71
  clear ph_70
  clear ph_71
  have hK_79 : Kq S S_76 x := hK_72.sO hq_75 eS_76
  have hg_80 : GX S_76 := by rw [eS_76]; exact GX_O hg_73 hq_75 (by decide +kernel)
  have hn0_q_75 := hK_72.new hq_75
  have ha_81 : At S_76 q_75 186 := by rw [eS_76]; exact At_nO _ _ _
  have hzI_q_75 : ∀ g, pI S_76 g q_75 = 0 := fun g => by rw [eS_76]; exact pI_sO_new
  have hzR_q_75 : ∀ g, pR S_76 g q_75 = none := fun g => by rw [eS_76]; exact if_pos rfl
  refine lv_dup X.1 X.2.1 dX11_init_45 rfl ?_
  refine k_v (rm := { frames := 2, cells := 6, slots := 180, locals := 96 }) (av := [.ref q_75]) X hw (va_runIN (As := []) (rest := [.ref q_75, .ref x]) (cfix X) (k_X6_init6 l G cy κ S_76 _ q_75 hg_80 ha_81 hzI_q_75 hzR_q_75) ⟨(va_cnB (host := RX11) 0 X.2.2.2.1 gX11_init_X6_init_n34 rfl rfl rfl (X.2.2.2.2.2.2.2.1.2.1 (RX11, 34, yX6_init) (by decide +kernel)) (X.2.2.2.1 (.initialized RX6) (by decide +kernel)) (by decide +kernel) ⟨Nat.le_of_ble_eq_true rfl, Nat.le_of_ble_eq_true rfl⟩), rfl, (X.2.2.2.1 (.instanceMethod yX6_init) (by decide +kernel))⟩ (pre_S X hw _) rfl rfl hl.1 rfl (lv_room (Nat.le_of_ble_eq_true rfl)) dX11_init_46 ⟨(by show 6 + 6 ≤ 58; omega), (by show 1028 + 180 ≤ 1728; omega)⟩) 12 1208 (by show 6 + 6 ≤ 12; omega) (by show 1028 + 180 ≤ 1208; omega) (fun S_83 H locs hp hw hfr hnw => ?_)
  obtain ⟨hK_84, hg_85, ha_86, ph_87, ph_88, kx_89, kx_90⟩ := hp
  have hK_91 : Kq S S_83 x := hK_79.sub hn0_q_75 hK_84
  have ph_92 : Phc S_83 = Phc S + 0 := by omega
  have ph_93 : Phs S_83 = Phs S + 0 := by omega
  clear ph_77
  clear ph_78
  clear ph_87
  clear ph_88
  obtain ⟨q_94, h_95, h_96, h_97⟩ := gQ_6_601 hg_85 ha_86
  obtain ⟨q_98, h_99, h_100, h_101⟩ := gQ_6_602 hg_85 ha_86
  obtain ⟨q_102, h_103, h_104, h_105⟩ := gQ_6_604 hg_85 ha_86
  obtain ⟨q_106, h_107, h_108, h_109⟩ := gQ_6_605 hg_85 ha_86
  obtain ⟨q_110, h_111, h_112, h_113⟩ := gQ_6_606 hg_85 ha_86
  have rd_114 : q_94 ≠ q_98 ∧ q_94 ≠ q_102 ∧ q_94 ≠ q_106 ∧ q_94 ≠ q_110 ∧ q_98 ≠ q_102 ∧ q_98 ≠ q_106 ∧ q_98 ≠ q_110 ∧ q_102 ≠ q_106 ∧ q_102 ≠ q_110 ∧ q_106 ≠ q_110 := by
    obtain ⟨a1, a2, a4, a5, a6, ⟨b1, b2, b4, b5, b6⟩, c⟩ := kx_90.1
    rw [h_95] at b1; cases b1
    rw [h_99] at b2; cases b2
    rw [h_103] at b4; cases b4
    rw [h_107] at b5; cases b5
    rw [h_111] at b6; cases b6
    exact c
  have t_115 : At S_69 x 191 := tAt_sR eS_69 t_68
  have t_116 : At S_76 x 191 := by rw [eS_76]; exact At_sO t_115 hq_75
  have t_117 : At S_83 x 191 := hK_84.at ha_81 t_116 (by decide)
  refine r_putR X hw t_117 rfl 6 1106 (some q_75) rfl tyX11 (by decide) rfl inn_X11_init_11 tyX11_ok nmX11 (by decide) (X.2.2.2.1 (.fieldLink RX11 35 "SilkMill" "spareRules" "LSilkMill$Rules;") (by decide +kernel)) rfl (Or.inl rfl) (fun _ => rfl) rfl (fun _ => rfl) rfl (Nat.le_of_ble_eq_true rfl) (st_1106 _ _) dX11_init_49 (fun H locs hw => ?_)
  obtain ⟨S_118, eS_118⟩ : ∃ T, T = sR S_83 1106 x (some q_75) := ⟨_, rfl⟩
  rw [← eS_118] at hw
  have ph_119 : Phc S_118 = Phc S + 0 := (show Phc S_118 = Phc S_83 from Ph_rawR t_117 (by decide) eS_118).trans ph_92
  have ph_120 : Phs S_118 = Phs S + 0 := (show Phs S_118 = Phs S_83 from Ph_rawR t_117 (by decide) eS_118).trans ph_93
  clear ph_92
  clear ph_93
  have hK_121 : Kq S S_118 x := hK_91.sR eS_118
  have hg_122 : GX S_118 := by rw [eS_118]; exact GX_rawR hg_85 t_117 (by decide +kernel)
  have h_123 : pR S_118 1106 x = some q_75 := tR_sRs eS_118
  refine lv_aload_n X.1 X.2.1 dX11_init_52 rfl (lv_at hl 0 rfl) ?_
  refine r_new X hw 188 8 1221 13 rfl tyX8 (by decide) rfl inn_X11_init_8 tyX8_ok (X.2.2.2.1 (.classLink RX11 39 RX8) (by decide +kernel)) (X.2.2.2.1 (.instantiable RX8 13) (by decide +kernel)) (X.2.2.2.1 (.initialized RX8) (by decide +kernel)) (zo_8 _) zd_8 (by show 12 + 1 ≤ 13; omega) (by show 1208 + 13 ≤ 1221; omega) (by show 13 ≤ 58; omega) (by show 1221 ≤ 1728; omega) dX11_init_53 (fun q_124 H hq_124 hw => ?_)
  obtain ⟨S_125, eS_125⟩ : ∃ T, T = sO S_118 q_124 188 := ⟨_, rfl⟩
  rw [← eS_125] at hw
  have ph_126 : Phc S_125 = Phc S + 0 := (show Phc S_125 = Phc S_118 from Ph_sO hg_122 hq_124 eS_125 (by decide)).trans ph_119
  have ph_127 : Phs S_125 = Phs S + 0 := (show Phs S_125 = Phs S_118 from Ph_sO hg_122 hq_124 eS_125 (by decide)).trans ph_120
  clear ph_119
  clear ph_120
  have hK_128 : Kq S S_125 x := hK_121.sO hq_124 eS_125
  have hg_129 : GX S_125 := by rw [eS_125]; exact GX_O hg_122 hq_124 (by decide +kernel)
  have hn0_q_124 := hK_121.new hq_124
  have ha_130 : At S_125 q_124 188 := by rw [eS_125]; exact At_nO _ _ _
  have hzI_q_124 : ∀ g, pI S_125 g q_124 = 0 := fun g => by rw [eS_125]; exact pI_sO_new
  have hzR_q_124 : ∀ g, pR S_125 g q_124 = none := fun g => by rw [eS_125]; exact if_pos rfl
  refine lv_dup X.1 X.2.1 dX11_init_56 rfl ?_
  refine k_v (rm := { frames := 3, cells := 9, slots := 214, locals := 144 }) (av := [.ref q_124]) X hw (va_runIN (As := []) (rest := [.ref q_124, .ref x]) (cfix X) (k_X8_init6 l G cy κ S_125 _ q_124 hg_129 ha_130 hzI_q_124 hzR_q_124) ⟨(va_cnB (host := RX11) 0 X.2.2.2.1 gX11_init_X8_init_n41 rfl rfl rfl (X.2.2.2.2.2.2.2.1.2.1 (RX11, 41, yX8_init) (by decide +kernel)) (X.2.2.2.1 (.initialized RX8) (by decide +kernel)) (by decide +kernel) ⟨Nat.le_of_ble_eq_true rfl, Nat.le_of_ble_eq_true rfl⟩), rfl, (X.2.2.2.1 (.instanceMethod yX8_init) (by decide +kernel))⟩ (pre_S X hw _) rfl rfl hl.1 rfl (lv_room (Nat.le_of_ble_eq_true rfl)) dX11_init_57 ⟨(by show 13 + 9 ≤ 58; omega), (by show 1221 + 214 ≤ 1728; omega)⟩) 22 1435 (by show 13 + 9 ≤ 22; omega) (by show 1221 + 214 ≤ 1435; omega) (fun S_132 H locs hp hw hfr hnw => ?_)
  obtain ⟨hK_133, hg_134, ha_135, ph_136, ph_137, kz_138, kz_139, kz_140⟩ := hp
  have hK_141 : Kq S S_132 x := hK_128.sub hn0_q_124 hK_133
  have ph_142 : Phc S_132 = Phc S + 320 := by omega
  have ph_143 : Phs S_132 = Phs S + 604000 := by omega
  clear ph_126
  clear ph_127
  clear ph_136
  clear ph_137
  have t_144 : At S_118 x 191 := tAt_sR eS_118 t_117
  have t_145 : At S_125 x 191 := by rw [eS_125]; exact At_sO t_144 hq_124
  have t_146 : At S_132 x 191 := hK_133.at ha_130 t_145 (by decide)
  refine r_putR X hw t_146 rfl 7 1107 (some q_124) rfl tyX11 (by decide) rfl inn_X11_init_11 tyX11_ok nmX11 (by decide) (X.2.2.2.1 (.fieldLink RX11 42 "SilkMill" "store" "LSilkMill$Store;") (by decide +kernel)) rfl (Or.inr ⟨rfl, hin, rfl⟩) (fun _ => rfl) rfl (fun _ => rfl) rfl (Nat.le_of_ble_eq_true rfl) (st_1107 _ _) dX11_init_60 (fun H locs hw => ?_)
  obtain ⟨S_147, eS_147⟩ : ∃ T, T = sR S_132 1107 x (some q_124) := ⟨_, rfl⟩
  rw [← eS_147] at hw
  have ph_148 : Phc S_147 = Phc S + 320 := (show Phc S_147 = Phc S_132 from Ph_rawR t_146 (by decide) eS_147).trans ph_142
  have ph_149 : Phs S_147 = Phs S + 604000 := (show Phs S_147 = Phs S_132 from Ph_rawR t_146 (by decide) eS_147).trans ph_143
  clear ph_142
  clear ph_143
  have hK_150 : Kq S S_147 x := hK_141.sR eS_147
  have hg_151 : GX S_147 := by rw [eS_147]; exact GX_rawR hg_134 t_146 (by decide +kernel)
  have h_152 : pR S_147 1107 x = some q_124 := tR_sRs eS_147
  refine lv_aload_n X.1 X.2.1 dX11_init_63 rfl (lv_at hl 0 rfl) ?_
  refine r_new X hw 181 1 1439 23 rfl tyX1 (by decide) rfl inn_X11_init_1 tyX1_ok (X.2.2.2.1 (.classLink RX11 46 RX1) (by decide +kernel)) (X.2.2.2.1 (.instantiable RX1 4) (by decide +kernel)) (X.2.2.2.1 (.initialized RX1) (by decide +kernel)) (zo_1 _) zd_1 (by show 22 + 1 ≤ 23; omega) (by show 1435 + 4 ≤ 1439; omega) (by show 23 ≤ 58; omega) (by show 1439 ≤ 1728; omega) dX11_init_64 (fun q_153 H hq_153 hw => ?_)
  obtain ⟨S_154, eS_154⟩ : ∃ T, T = sO S_147 q_153 181 := ⟨_, rfl⟩
  rw [← eS_154] at hw
  have ph_155 : Phc S_154 = Phc S + 320 := (show Phc S_154 = Phc S_147 from Ph_sO hg_151 hq_153 eS_154 (by decide)).trans ph_148
  have ph_156 : Phs S_154 = Phs S + 604000 := (show Phs S_154 = Phs S_147 from Ph_sO hg_151 hq_153 eS_154 (by decide)).trans ph_149
  clear ph_148
  clear ph_149
  have hK_157 : Kq S S_154 x := hK_150.sO hq_153 eS_154
  have hg_158 : GX S_154 := by rw [eS_154]; exact GX_O hg_151 hq_153 (by decide +kernel)
  have hn0_q_153 := hK_150.new hq_153
  have ha_159 : At S_154 q_153 181 := by rw [eS_154]; exact At_nO _ _ _
  have hzI_q_153 : ∀ g, pI S_154 g q_153 = 0 := fun g => by rw [eS_154]; exact pI_sO_new
  have hzR_q_153 : ∀ g, pR S_154 g q_153 = none := fun g => by rw [eS_154]; exact if_pos rfl
  refine lv_dup X.1 X.2.1 dX11_init_67 rfl ?_
  refine k_v (rm := { frames := 2, cells := 1, slots := 5, locals := 96 }) (av := [.ref q_153]) X hw (va_runIN (As := []) (rest := [.ref q_153, .ref x]) (cfix X) (k_X1_init l G cy κ S_154 _ q_153 hg_158 ha_159 hzI_q_153 hzR_q_153) ⟨(va_cnB (host := RX11) 0 X.2.2.2.1 gX11_init_X1_init_n48 rfl rfl rfl (X.2.2.2.2.2.2.2.1.2.1 (RX11, 48, yX1_init) (by decide +kernel)) (X.2.2.2.1 (.initialized RX1) (by decide +kernel)) (by decide +kernel) ⟨Nat.le_of_ble_eq_true rfl, Nat.le_of_ble_eq_true rfl⟩), rfl, (X.2.2.2.1 (.instanceMethod yX1_init) (by decide +kernel))⟩ (pre_S X hw _) rfl rfl hl.1 rfl (lv_room (Nat.le_of_ble_eq_true rfl)) dX11_init_68 ⟨(by show 23 + 1 ≤ 58; omega), (by show 1439 + 5 ≤ 1728; omega)⟩) 24 1444 (by show 23 + 1 ≤ 24; omega) (by show 1439 + 5 ≤ 1444; omega) (fun S_161 H locs hp hw hfr hnw => ?_)
  obtain ⟨hK_162, hg_163, ha_164, ph_165, ph_166⟩ := hp
  have hK_167 : Kq S S_161 x := hK_157.sub hn0_q_153 hK_162
  have ph_168 : Phc S_161 = Phc S + 320 := by omega
  have ph_169 : Phs S_161 = Phs S + 604000 := by omega
  clear ph_155
  clear ph_156
  clear ph_165
  clear ph_166
  have t_170 : At S_147 x 191 := tAt_sR eS_147 t_146
  have t_171 : At S_154 x 191 := by rw [eS_154]; exact At_sO t_170 hq_153
  have t_172 : At S_161 x 191 := hK_162.at ha_159 t_171 (by decide)
  refine r_putR X hw t_172 rfl 8 1108 (some q_153) rfl tyX11 (by decide) rfl inn_X11_init_11 tyX11_ok nmX11 (by decide) (X.2.2.2.1 (.fieldLink RX11 49 "SilkMill" "latestDraw" "LSilkMill$Draw;") (by decide +kernel)) rfl (Or.inr ⟨rfl, hin, rfl⟩) (fun _ => rfl) rfl (fun _ => rfl) rfl (Nat.le_of_ble_eq_true rfl) (st_1108 _ _) dX11_init_71 (fun H locs hw => ?_)
  obtain ⟨S_173, eS_173⟩ : ∃ T, T = sR S_161 1108 x (some q_153) := ⟨_, rfl⟩
  rw [← eS_173] at hw
  have ph_174 : Phc S_173 = Phc S + 320 := (show Phc S_173 = Phc S_161 from Ph_rawR t_172 (by decide) eS_173).trans ph_168
  have ph_175 : Phs S_173 = Phs S + 604000 := (show Phs S_173 = Phs S_161 from Ph_rawR t_172 (by decide) eS_173).trans ph_169
  clear ph_168
  clear ph_169
  have hK_176 : Kq S S_173 x := hK_167.sR eS_173
  have hg_177 : GX S_173 := by rw [eS_173]; exact GX_rawR hg_163 t_172 (by decide +kernel)
  have h_178 : pR S_173 1108 x = some q_153 := tR_sRs eS_173
  refine lv_aload_n X.1 X.2.1 dX11_init_74 rfl (lv_at hl 0 rfl) ?_
  refine lv_bipush (v := 16) X.1 X.2.1 dX11_init_75 (by decide) ?_
  refine r_newQ (N := 16) (C := RX3) X hw 17 17 1460 25 rfl (by decide) rfl (X.2.2.2.1 (.classLink RX11 53 RX3) (by decide +kernel)) X.2.2.2.2.2.2.2.1.1.2.1 (z_nn ti_16 (by omega)) (by decide) (by decide) (by show 24 + 1 ≤ 25; omega) (by show 1444 + 16 ≤ 1460; omega) (by show 25 ≤ 58; omega) (by show 1460 ≤ 1728; omega) dX11_init_77 (fun q_179 H hq_179 hw => ?_)
  obtain ⟨S_180, eS_180⟩ : ∃ T, T = sN S_173 q_179 17 16 := ⟨_, rfl⟩
  rw [← eS_180] at hw
  have ph_181 : Phc S_180 = Phc S + 320 := (show Phc S_180 = Phc S_173 from Ph_sN' hg_177.ci hq_179 eS_180 (by decide)).trans ph_174
  have ph_182 : Phs S_180 = Phs S + 604000 := (show Phs S_180 = Phs S_173 from Ph_sN' hg_177.ci hq_179 eS_180 (by decide)).trans ph_175
  clear ph_174
  clear ph_175
  have hK_183 : Kq S S_180 x := hK_176.sN hq_179 eS_180
  have hg_184 : GX S_180 := by rw [eS_180]; exact GX_N hg_177 hq_179 (by decide +kernel)
  have hn0_q_179 := hK_176.new hq_179
  have ha_185 : At S_180 q_179 17 := by rw [eS_180]; exact At_nN _ _ _ _
  have hn_186 : pN S_180 q_179 = 16 := by rw [eS_180]; exact pN_sN_new
  have t_187 : At S_173 x 191 := tAt_sR eS_173 t_172
  have t_188 : At S_180 x 191 := by rw [eS_180]; exact At_sN t_187 hq_179
  refine r_putR X hw t_188 rfl 9 1109 (some q_179) rfl tyX11 (by decide) rfl inn_X11_init_11 tyX11_ok nmX11 (by decide) (X.2.2.2.1 (.fieldLink RX11 55 "SilkMill" "shelf" "[LSilkMill$Place;") (by decide +kernel)) rfl (Or.inr ⟨rfl, hin, rfl⟩) (fun _ => rfl) rfl (fun _ => rfl) rfl (Nat.le_of_ble_eq_true rfl) (st_1109 _ _) dX11_init_80 (fun H locs hw => ?_)
  obtain ⟨S_189, eS_189⟩ : ∃ T, T = sR S_180 1109 x (some q_179) := ⟨_, rfl⟩
  rw [← eS_189] at hw
  have ph_190 : Phc S_189 = Phc S + 320 := (show Phc S_189 = Phc S_180 from Ph_rawR t_188 (by decide) eS_189).trans ph_181
  have ph_191 : Phs S_189 = Phs S + 604000 := (show Phs S_189 = Phs S_180 from Ph_rawR t_188 (by decide) eS_189).trans ph_182
  clear ph_181
  clear ph_182
  have hK_192 : Kq S S_189 x := hK_183.sR eS_189
  have hg_193 : GX S_189 := by rw [eS_189]; exact GX_rawR hg_184 t_188 (by decide +kernel)
  have h_194 : pR S_189 1109 x = some q_179 := tR_sRs eS_189
  refine lv_aload_n X.1 X.2.1 dX11_init_83 rfl (lv_at hl 0 rfl) ?_
  refine lv_bipush (v := 60) X.1 X.2.1 dX11_init_84 (by decide) ?_
  refine r_newI (N := 60) X hw 194 1520 26 rfl (X.2.2.2.1 (.arrayClass .int) (by decide +kernel)) (z_nn ti_60 (by omega)) (by decide) (by decide) (by show 25 + 1 ≤ 26; omega) (by show 1460 + 60 ≤ 1520; omega) (by show 26 ≤ 58; omega) (by show 1520 ≤ 1728; omega) dX11_init_86 (fun q_195 H hq_195 hw => ?_)
  obtain ⟨S_196, eS_196⟩ : ∃ T, T = sN S_189 q_195 194 60 := ⟨_, rfl⟩
  rw [← eS_196] at hw
  have ph_197 : Phc S_196 = Phc S + 320 := (show Phc S_196 = Phc S_189 from Ph_sN' hg_193.ci hq_195 eS_196 (by decide)).trans ph_190
  have ph_198 : Phs S_196 = Phs S + 604000 := (show Phs S_196 = Phs S_189 from Ph_sN' hg_193.ci hq_195 eS_196 (by decide)).trans ph_191
  clear ph_190
  clear ph_191
  have hK_199 : Kq S S_196 x := hK_192.sN hq_195 eS_196
  have hg_200 : GX S_196 := by rw [eS_196]; exact GX_N hg_193 hq_195 (by decide +kernel)
  have hn0_q_195 := hK_192.new hq_195
  have ha_201 : At S_196 q_195 194 := by rw [eS_196]; exact At_nN _ _ _ _
  have hn_202 : pN S_196 q_195 = 60 := by rw [eS_196]; exact pN_sN_new
  have t_203 : At S_189 x 191 := tAt_sR eS_189 t_188
  have t_204 : At S_196 x 191 := by rw [eS_196]; exact At_sN t_203 hq_195
  refine r_putR X hw t_204 rfl 11 1111 (some q_195) rfl tyX11 (by decide) rfl inn_X11_init_11 tyX11_ok nmX11 (by decide) (X.2.2.2.1 (.fieldLink RX11 59 "SilkMill" "idle" "[I") (by decide +kernel)) rfl (Or.inr ⟨rfl, hin, rfl⟩) (fun _ => rfl) rfl (fun _ => rfl) rfl (Nat.le_of_ble_eq_true rfl) (st_1111 _ _) dX11_init_88 (fun H locs hw => ?_)
  obtain ⟨S_205, eS_205⟩ : ∃ T, T = sR S_196 1111 x (some q_195) := ⟨_, rfl⟩
  rw [← eS_205] at hw
  have ph_206 : Phc S_205 = Phc S + 320 := (show Phc S_205 = Phc S_196 from Ph_rawR t_204 (by decide) eS_205).trans ph_197
  have ph_207 : Phs S_205 = Phs S + 604000 := (show Phs S_205 = Phs S_196 from Ph_rawR t_204 (by decide) eS_205).trans ph_198
  clear ph_197
  clear ph_198
  have hK_208 : Kq S S_205 x := hK_199.sR eS_205
  have hg_209 : GX S_205 := by rw [eS_205]; exact GX_rawR hg_200 t_204 (by decide +kernel)
  have h_210 : pR S_205 1111 x = some q_195 := tR_sRs eS_205
  refine lv_iconst (v := 0) X.1 X.2.1 dX11_init_91 (by decide) ?_
  have t_211 : pR S_196 1109 x = some q_179 := by rw [eS_196, pR_sN]; exact h_194
  have t_212 : pR S_205 1109 x = some q_179 := tR_sR eS_205 rfl t_211
  refine lv_istore_n (lv' := [(1, .int 0), (0, .ref x)]) X.1 X.2.1 dX11_init_92 rfl hl (by decide) rfl (fun ls hl => ?_)
  have t_219 : At S_147 x 191 := tAt_sR eS_147 t_146
  have t_218 : pR S_154 1107 x = some q_124 := by rw [eS_154]; exact (pR_sO_ne (ne_of_new hq_153 t_219.1)).trans h_152
  have t_221 : At S_154 x 191 := by rw [eS_154]; exact At_sO t_219 hq_153
  have t_220 : pR S_161 1107 x = some q_124 := (((hK_162 x t_221.1).2 (At_ne t_221 ha_159 (by decide))).2.2.1 1107).trans t_218
  have t_222 : pR S_173 1107 x = some q_124 := tR_sR eS_173 rfl t_220
  have t_223 : pR S_180 1107 x = some q_124 := by rw [eS_180, pR_sN]; exact t_222
  have t_224 : pR S_189 1107 x = some q_124 := tR_sR eS_189 rfl t_223
  have t_225 : pR S_196 1107 x = some q_124 := by rw [eS_196, pR_sN]; exact t_224
  have t_226 : pR S_205 1107 x = some q_124 := tR_sR eS_205 rfl t_225
  have t_228 : At S_69 x 191 := tAt_sR eS_69 t_68
  have t_227 : pR S_76 1105 x = some q_48 := by rw [eS_76]; exact (pR_sO_ne (ne_of_new hq_75 t_228.1)).trans h_74
  have t_230 : At S_76 x 191 := by rw [eS_76]; exact At_sO t_228 hq_75
  have t_229 : pR S_83 1105 x = some q_48 := (((hK_84 x t_230.1).2 (At_ne t_230 ha_81 (by decide))).2.2.1 1105).trans t_227
  have t_231 : pR S_118 1105 x = some q_48 := tR_sR eS_118 rfl t_229
  have t_233 : At S_118 x 191 := tAt_sR eS_118 t_117
  have t_232 : pR S_125 1105 x = some q_48 := by rw [eS_125]; exact (pR_sO_ne (ne_of_new hq_124 t_233.1)).trans t_231
  have t_235 : At S_125 x 191 := by rw [eS_125]; exact At_sO t_233 hq_124
  have t_234 : pR S_132 1105 x = some q_48 := (((hK_133 x t_235.1).2 (At_ne t_235 ha_130 (by decide))).2.2.1 1105).trans t_232
  have t_236 : pR S_147 1105 x = some q_48 := tR_sR eS_147 rfl t_234
  have t_237 : pR S_154 1105 x = some q_48 := by rw [eS_154]; exact (pR_sO_ne (ne_of_new hq_153 t_219.1)).trans t_236
  have t_238 : pR S_161 1105 x = some q_48 := (((hK_162 x t_221.1).2 (At_ne t_221 ha_159 (by decide))).2.2.1 1105).trans t_237
  have t_239 : pR S_173 1105 x = some q_48 := tR_sR eS_173 rfl t_238
  have t_240 : pR S_180 1105 x = some q_48 := by rw [eS_180, pR_sN]; exact t_239
  have t_241 : pR S_189 1105 x = some q_48 := tR_sR eS_189 rfl t_240
  have t_242 : pR S_196 1105 x = some q_48 := by rw [eS_196, pR_sN]; exact t_241
  have t_243 : pR S_205 1105 x = some q_48 := tR_sR eS_205 rfl t_242
  have t_244 : pI S_2 1102 x = 0 := by rw [eS_2, pI_sN]; exact (hzI 1102)
  have t_245 : pI S_10 1102 x = 0 := tI_sR eS_10 t_244
  have t_246 : pI S_17 1102 x = 0 := by rw [eS_17, pI_sN]; exact t_245
  have t_247 : pI S_26 1102 x = 0 := tI_sR eS_26 t_246
  have t_248 : pI S_33 1102 x = 0 := by rw [eS_33, pI_sN]; exact t_247
  have t_249 : pI S_42 1102 x = 0 := tI_sR eS_42 t_248
  have t_251 : At S_42 x 191 := tAt_sR eS_42 t_41
  have t_250 : pI S_49 1102 x = 0 := by rw [eS_49]; exact (pI_sO_ne (ne_of_new hq_48 t_251.1)).trans t_249
  have t_253 : At S_49 x 191 := by rw [eS_49]; exact At_sO t_251 hq_48
  have t_252 : pI S_56 1102 x = 0 := (((hK_57 x t_253.1).2 (At_ne t_253 ha_54 (by decide))).2.1 1102).trans t_250
  have t_254 : pI S_69 1102 x = 0 := tI_sR eS_69 t_252
  have t_255 : pI S_76 1102 x = 0 := by rw [eS_76]; exact (pI_sO_ne (ne_of_new hq_75 t_228.1)).trans t_254
  have t_256 : pI S_83 1102 x = 0 := (((hK_84 x t_230.1).2 (At_ne t_230 ha_81 (by decide))).2.1 1102).trans t_255
  have t_257 : pI S_118 1102 x = 0 := tI_sR eS_118 t_256
  have t_258 : pI S_125 1102 x = 0 := by rw [eS_125]; exact (pI_sO_ne (ne_of_new hq_124 t_233.1)).trans t_257
  have t_259 : pI S_132 1102 x = 0 := (((hK_133 x t_235.1).2 (At_ne t_235 ha_130 (by decide))).2.1 1102).trans t_258
  have t_260 : pI S_147 1102 x = 0 := tI_sR eS_147 t_259
  have t_261 : pI S_154 1102 x = 0 := by rw [eS_154]; exact (pI_sO_ne (ne_of_new hq_153 t_219.1)).trans t_260
  have t_262 : pI S_161 1102 x = 0 := (((hK_162 x t_221.1).2 (At_ne t_221 ha_159 (by decide))).2.1 1102).trans t_261
  have t_263 : pI S_173 1102 x = 0 := tI_sR eS_173 t_262
  have t_264 : pI S_180 1102 x = 0 := by rw [eS_180, pI_sN]; exact t_263
  have t_265 : pI S_189 1102 x = 0 := tI_sR eS_189 t_264
  have t_266 : pI S_196 1102 x = 0 := by rw [eS_196, pI_sN]; exact t_265
  have t_267 : pI S_205 1102 x = 0 := tI_sR eS_205 t_266
  have t_269 : pI S_2 1104 x = 0 := by rw [eS_2, pI_sN]; exact (hzI 1104)
  have t_270 : pI S_10 1104 x = 0 := tI_sR eS_10 t_269
  have t_271 : pI S_17 1104 x = 0 := by rw [eS_17, pI_sN]; exact t_270
  have t_272 : pI S_26 1104 x = 0 := tI_sR eS_26 t_271
  have t_273 : pI S_33 1104 x = 0 := by rw [eS_33, pI_sN]; exact t_272
  have t_274 : pI S_42 1104 x = 0 := tI_sR eS_42 t_273
  have t_275 : pI S_49 1104 x = 0 := by rw [eS_49]; exact (pI_sO_ne (ne_of_new hq_48 t_251.1)).trans t_274
  have t_276 : pI S_56 1104 x = 0 := (((hK_57 x t_253.1).2 (At_ne t_253 ha_54 (by decide))).2.1 1104).trans t_275
  have t_277 : pI S_69 1104 x = 0 := tI_sR eS_69 t_276
  have t_278 : pI S_76 1104 x = 0 := by rw [eS_76]; exact (pI_sO_ne (ne_of_new hq_75 t_228.1)).trans t_277
  have t_279 : pI S_83 1104 x = 0 := (((hK_84 x t_230.1).2 (At_ne t_230 ha_81 (by decide))).2.1 1104).trans t_278
  have t_280 : pI S_118 1104 x = 0 := tI_sR eS_118 t_279
  have t_281 : pI S_125 1104 x = 0 := by rw [eS_125]; exact (pI_sO_ne (ne_of_new hq_124 t_233.1)).trans t_280
  have t_282 : pI S_132 1104 x = 0 := (((hK_133 x t_235.1).2 (At_ne t_235 ha_130 (by decide))).2.1 1104).trans t_281
  have t_283 : pI S_147 1104 x = 0 := tI_sR eS_147 t_282
  have t_284 : pI S_154 1104 x = 0 := by rw [eS_154]; exact (pI_sO_ne (ne_of_new hq_153 t_219.1)).trans t_283
  have t_285 : pI S_161 1104 x = 0 := (((hK_162 x t_221.1).2 (At_ne t_221 ha_159 (by decide))).2.1 1104).trans t_284
  have t_286 : pI S_173 1104 x = 0 := tI_sR eS_173 t_285
  have t_287 : pI S_180 1104 x = 0 := by rw [eS_180, pI_sN]; exact t_286
  have t_288 : pI S_189 1104 x = 0 := tI_sR eS_189 t_287
  have t_289 : pI S_196 1104 x = 0 := by rw [eS_196, pI_sN]; exact t_288
  have t_290 : pI S_205 1104 x = 0 := tI_sR eS_205 t_289
  have t_292 : pI S_147 801 q_124 = 0 := tI_sR eS_147 kz_138
  have t_294 : At S_147 q_124 8 := tAt_sR eS_147 ha_135
  have t_293 : pI S_154 801 q_124 = 0 := by rw [eS_154]; exact (pI_sO_ne (ne_of_new hq_153 t_294.1)).trans t_292
  have t_296 : At S_154 q_124 8 := by rw [eS_154]; exact At_sO t_294 hq_153
  have t_295 : pI S_161 801 q_124 = 0 := (((hK_162 q_124 t_296.1).2 (At_ne t_296 ha_159 (by decide))).2.1 801).trans t_293
  have t_297 : pI S_173 801 q_124 = 0 := tI_sR eS_173 t_295
  have t_298 : pI S_180 801 q_124 = 0 := by rw [eS_180, pI_sN]; exact t_297
  have t_299 : pI S_189 801 q_124 = 0 := tI_sR eS_189 t_298
  have t_300 : pI S_196 801 q_124 = 0 := by rw [eS_196, pI_sN]; exact t_299
  have t_301 : pI S_205 801 q_124 = 0 := tI_sR eS_205 t_300
  have t_303 : pI S_69 1000 q_48 = 0 := tI_sR eS_69 kz_62
  have t_305 : At S_69 q_48 10 := tAt_sR eS_69 ha_59
  have t_304 : pI S_76 1000 q_48 = 0 := by rw [eS_76]; exact (pI_sO_ne (ne_of_new hq_75 t_305.1)).trans t_303
  have t_307 : At S_76 q_48 10 := by rw [eS_76]; exact At_sO t_305 hq_75
  have t_306 : pI S_83 1000 q_48 = 0 := (((hK_84 q_48 t_307.1).2 (At_ne t_307 ha_81 (by decide))).2.1 1000).trans t_304
  have t_308 : pI S_118 1000 q_48 = 0 := tI_sR eS_118 t_306
  have t_310 : At S_83 q_48 10 := hK_84.at ha_81 t_307 (by decide)
  have t_311 : At S_118 q_48 10 := tAt_sR eS_118 t_310
  have t_309 : pI S_125 1000 q_48 = 0 := by rw [eS_125]; exact (pI_sO_ne (ne_of_new hq_124 t_311.1)).trans t_308
  have t_313 : At S_125 q_48 10 := by rw [eS_125]; exact At_sO t_311 hq_124
  have t_312 : pI S_132 1000 q_48 = 0 := (((hK_133 q_48 t_313.1).2 (At_ne t_313 ha_130 (by decide))).2.1 1000).trans t_309
  have t_314 : pI S_147 1000 q_48 = 0 := tI_sR eS_147 t_312
  have t_316 : At S_132 q_48 10 := hK_133.at ha_130 t_313 (by decide)
  have t_317 : At S_147 q_48 10 := tAt_sR eS_147 t_316
  have t_315 : pI S_154 1000 q_48 = 0 := by rw [eS_154]; exact (pI_sO_ne (ne_of_new hq_153 t_317.1)).trans t_314
  have t_319 : At S_154 q_48 10 := by rw [eS_154]; exact At_sO t_317 hq_153
  have t_318 : pI S_161 1000 q_48 = 0 := (((hK_162 q_48 t_319.1).2 (At_ne t_319 ha_159 (by decide))).2.1 1000).trans t_315
  have t_320 : pI S_173 1000 q_48 = 0 := tI_sR eS_173 t_318
  have t_321 : pI S_180 1000 q_48 = 0 := by rw [eS_180, pI_sN]; exact t_320
  have t_322 : pI S_189 1000 q_48 = 0 := tI_sR eS_189 t_321
  have t_323 : pI S_196 1000 q_48 = 0 := by rw [eS_196, pI_sN]; exact t_322
  have t_324 : pI S_205 1000 q_48 = 0 := tI_sR eS_205 t_323
  have t_326 : pI S_147 800 q_124 = 0 := tI_sR eS_147 kz_139
  have t_327 : pI S_154 800 q_124 = 0 := by rw [eS_154]; exact (pI_sO_ne (ne_of_new hq_153 t_294.1)).trans t_326
  have t_328 : pI S_161 800 q_124 = 0 := (((hK_162 q_124 t_296.1).2 (At_ne t_296 ha_159 (by decide))).2.1 800).trans t_327
  have t_329 : pI S_173 800 q_124 = 0 := tI_sR eS_173 t_328
  have t_330 : pI S_180 800 q_124 = 0 := by rw [eS_180, pI_sN]; exact t_329
  have t_331 : pI S_189 800 q_124 = 0 := tI_sR eS_189 t_330
  have t_332 : pI S_196 800 q_124 = 0 := by rw [eS_196, pI_sN]; exact t_331
  have t_333 : pI S_205 800 q_124 = 0 := tI_sR eS_205 t_332
  have t_335 : pI S_147 806 q_124 = 0 := tI_sR eS_147 kz_140
  have t_336 : pI S_154 806 q_124 = 0 := by rw [eS_154]; exact (pI_sO_ne (ne_of_new hq_153 t_294.1)).trans t_335
  have t_337 : pI S_161 806 q_124 = 0 := (((hK_162 q_124 t_296.1).2 (At_ne t_296 ha_159 (by decide))).2.1 806).trans t_336
  have t_338 : pI S_173 806 q_124 = 0 := tI_sR eS_173 t_337
  have t_339 : pI S_180 806 q_124 = 0 := by rw [eS_180, pI_sN]; exact t_338
  have t_340 : pI S_189 806 q_124 = 0 := tI_sR eS_189 t_339
  have t_341 : pI S_196 806 q_124 = 0 := by rw [eS_196, pI_sN]; exact t_340
  have t_342 : pI S_205 806 q_124 = 0 := tI_sR eS_205 t_341
  have t_344 : pR S_17 1100 x = some q_1 := by rw [eS_17, pR_sN]; exact h_15
  have t_345 : pR S_26 1100 x = some q_1 := tR_sR eS_26 rfl t_344
  have t_346 : pR S_33 1100 x = some q_1 := by rw [eS_33, pR_sN]; exact t_345
  have t_347 : pR S_42 1100 x = some q_1 := tR_sR eS_42 rfl t_346
  have t_348 : pR S_49 1100 x = some q_1 := by rw [eS_49]; exact (pR_sO_ne (ne_of_new hq_48 t_251.1)).trans t_347
  have t_349 : pR S_56 1100 x = some q_1 := (((hK_57 x t_253.1).2 (At_ne t_253 ha_54 (by decide))).2.2.1 1100).trans t_348
  have t_350 : pR S_69 1100 x = some q_1 := tR_sR eS_69 rfl t_349
  have t_351 : pR S_76 1100 x = some q_1 := by rw [eS_76]; exact (pR_sO_ne (ne_of_new hq_75 t_228.1)).trans t_350
  have t_352 : pR S_83 1100 x = some q_1 := (((hK_84 x t_230.1).2 (At_ne t_230 ha_81 (by decide))).2.2.1 1100).trans t_351
  have t_353 : pR S_118 1100 x = some q_1 := tR_sR eS_118 rfl t_352
  have t_354 : pR S_125 1100 x = some q_1 := by rw [eS_125]; exact (pR_sO_ne (ne_of_new hq_124 t_233.1)).trans t_353
  have t_355 : pR S_132 1100 x = some q_1 := (((hK_133 x t_235.1).2 (At_ne t_235 ha_130 (by decide))).2.2.1 1100).trans t_354
  have t_356 : pR S_147 1100 x = some q_1 := tR_sR eS_147 rfl t_355
  have t_357 : pR S_154 1100 x = some q_1 := by rw [eS_154]; exact (pR_sO_ne (ne_of_new hq_153 t_219.1)).trans t_356
  have t_358 : pR S_161 1100 x = some q_1 := (((hK_162 x t_221.1).2 (At_ne t_221 ha_159 (by decide))).2.2.1 1100).trans t_357
  have t_359 : pR S_173 1100 x = some q_1 := tR_sR eS_173 rfl t_358
  have t_360 : pR S_180 1100 x = some q_1 := by rw [eS_180, pR_sN]; exact t_359
  have t_361 : pR S_189 1100 x = some q_1 := tR_sR eS_189 rfl t_360
  have t_362 : pR S_196 1100 x = some q_1 := by rw [eS_196, pR_sN]; exact t_361
  have t_363 : pR S_205 1100 x = some q_1 := tR_sR eS_205 rfl t_362
  have t_366 : pN S_10 q_1 = 600 := tN_sR eS_10 hn_8
  clear hn_8
  have t_368 : At S_10 q_1 36 := tAt_sR eS_10 ha_7
  have t_367 : pN S_17 q_1 = 600 := by rw [eS_17]; exact (pN_sN_ne (ne_of_new hq_16 t_368.1)).trans t_366
  clear t_366
  have t_369 : pN S_26 q_1 = 600 := tN_sR eS_26 t_367
  clear t_367
  have t_371 : At S_17 q_1 36 := by rw [eS_17]; exact At_sN t_368 hq_16
  have t_372 : At S_26 q_1 36 := tAt_sR eS_26 t_371
  have t_370 : pN S_33 q_1 = 600 := by rw [eS_33]; exact (pN_sN_ne (ne_of_new hq_32 t_372.1)).trans t_369
  clear t_369
  have t_373 : pN S_42 q_1 = 600 := tN_sR eS_42 t_370
  clear t_370
  have t_374 : pN S_49 q_1 = 600 := by rw [eS_49, pN_sO]; exact t_373
  clear t_373
  have t_376 : At S_33 q_1 36 := by rw [eS_33]; exact At_sN t_372 hq_32
  have t_377 : At S_42 q_1 36 := tAt_sR eS_42 t_376
  have t_378 : At S_49 q_1 36 := by rw [eS_49]; exact At_sO t_377 hq_48
  have t_375 : pN S_56 q_1 = 600 := ((hK_57 q_1 t_378.1).2 (At_ne t_378 ha_54 (by decide))).2.2.2.1.trans t_374
  clear t_374
  have t_379 : pN S_69 q_1 = 600 := tN_sR eS_69 t_375
  clear t_375
  have t_380 : pN S_76 q_1 = 600 := by rw [eS_76, pN_sO]; exact t_379
  clear t_379
  have t_382 : At S_56 q_1 36 := hK_57.at ha_54 t_378 (by decide)
  have t_383 : At S_69 q_1 36 := tAt_sR eS_69 t_382
  have t_384 : At S_76 q_1 36 := by rw [eS_76]; exact At_sO t_383 hq_75
  have t_381 : pN S_83 q_1 = 600 := ((hK_84 q_1 t_384.1).2 (At_ne t_384 ha_81 (by decide))).2.2.2.1.trans t_380
  clear t_380
  have t_385 : pN S_118 q_1 = 600 := tN_sR eS_118 t_381
  clear t_381
  have t_386 : pN S_125 q_1 = 600 := by rw [eS_125, pN_sO]; exact t_385
  clear t_385
  have t_388 : At S_83 q_1 36 := hK_84.at ha_81 t_384 (by decide)
  have t_389 : At S_118 q_1 36 := tAt_sR eS_118 t_388
  have t_390 : At S_125 q_1 36 := by rw [eS_125]; exact At_sO t_389 hq_124
  have t_387 : pN S_132 q_1 = 600 := ((hK_133 q_1 t_390.1).2 (At_ne t_390 ha_130 (by decide))).2.2.2.1.trans t_386
  clear t_386
  have t_391 : pN S_147 q_1 = 600 := tN_sR eS_147 t_387
  clear t_387
  have t_392 : pN S_154 q_1 = 600 := by rw [eS_154, pN_sO]; exact t_391
  clear t_391
  have t_394 : At S_132 q_1 36 := hK_133.at ha_130 t_390 (by decide)
  have t_395 : At S_147 q_1 36 := tAt_sR eS_147 t_394
  have t_396 : At S_154 q_1 36 := by rw [eS_154]; exact At_sO t_395 hq_153
  have t_393 : pN S_161 q_1 = 600 := ((hK_162 q_1 t_396.1).2 (At_ne t_396 ha_159 (by decide))).2.2.2.1.trans t_392
  clear t_392
  have t_397 : pN S_173 q_1 = 600 := tN_sR eS_173 t_393
  clear t_393
  have t_399 : At S_161 q_1 36 := hK_162.at ha_159 t_396 (by decide)
  have t_400 : At S_173 q_1 36 := tAt_sR eS_173 t_399
  have t_398 : pN S_180 q_1 = 600 := by rw [eS_180]; exact (pN_sN_ne (ne_of_new hq_179 t_400.1)).trans t_397
  clear t_397
  have t_401 : pN S_189 q_1 = 600 := tN_sR eS_189 t_398
  clear t_398
  have t_403 : At S_180 q_1 36 := by rw [eS_180]; exact At_sN t_400 hq_179
  have t_404 : At S_189 q_1 36 := tAt_sR eS_189 t_403
  have t_402 : pN S_196 q_1 = 600 := by rw [eS_196]; exact (pN_sN_ne (ne_of_new hq_195 t_404.1)).trans t_401
  clear t_401
  have t_405 : pN S_205 q_1 = 600 := tN_sR eS_205 t_402
  clear t_402
  have t_407 : pR S_33 1101 x = some q_16 := by rw [eS_33, pR_sN]; exact h_31
  have t_408 : pR S_42 1101 x = some q_16 := tR_sR eS_42 rfl t_407
  have t_409 : pR S_49 1101 x = some q_16 := by rw [eS_49]; exact (pR_sO_ne (ne_of_new hq_48 t_251.1)).trans t_408
  have t_410 : pR S_56 1101 x = some q_16 := (((hK_57 x t_253.1).2 (At_ne t_253 ha_54 (by decide))).2.2.1 1101).trans t_409
  have t_411 : pR S_69 1101 x = some q_16 := tR_sR eS_69 rfl t_410
  have t_412 : pR S_76 1101 x = some q_16 := by rw [eS_76]; exact (pR_sO_ne (ne_of_new hq_75 t_228.1)).trans t_411
  have t_413 : pR S_83 1101 x = some q_16 := (((hK_84 x t_230.1).2 (At_ne t_230 ha_81 (by decide))).2.2.1 1101).trans t_412
  have t_414 : pR S_118 1101 x = some q_16 := tR_sR eS_118 rfl t_413
  have t_415 : pR S_125 1101 x = some q_16 := by rw [eS_125]; exact (pR_sO_ne (ne_of_new hq_124 t_233.1)).trans t_414
  have t_416 : pR S_132 1101 x = some q_16 := (((hK_133 x t_235.1).2 (At_ne t_235 ha_130 (by decide))).2.2.1 1101).trans t_415
  have t_417 : pR S_147 1101 x = some q_16 := tR_sR eS_147 rfl t_416
  have t_418 : pR S_154 1101 x = some q_16 := by rw [eS_154]; exact (pR_sO_ne (ne_of_new hq_153 t_219.1)).trans t_417
  have t_419 : pR S_161 1101 x = some q_16 := (((hK_162 x t_221.1).2 (At_ne t_221 ha_159 (by decide))).2.2.1 1101).trans t_418
  have t_420 : pR S_173 1101 x = some q_16 := tR_sR eS_173 rfl t_419
  have t_421 : pR S_180 1101 x = some q_16 := by rw [eS_180, pR_sN]; exact t_420
  have t_422 : pR S_189 1101 x = some q_16 := tR_sR eS_189 rfl t_421
  have t_423 : pR S_196 1101 x = some q_16 := by rw [eS_196, pR_sN]; exact t_422
  have t_424 : pR S_205 1101 x = some q_16 := tR_sR eS_205 rfl t_423
  have t_427 : pN S_26 q_16 = 10 := tN_sR eS_26 hn_23
  clear hn_23
  have t_429 : At S_26 q_16 54 := tAt_sR eS_26 ha_22
  have t_428 : pN S_33 q_16 = 10 := by rw [eS_33]; exact (pN_sN_ne (ne_of_new hq_32 t_429.1)).trans t_427
  clear t_427
  have t_430 : pN S_42 q_16 = 10 := tN_sR eS_42 t_428
  clear t_428
  have t_431 : pN S_49 q_16 = 10 := by rw [eS_49, pN_sO]; exact t_430
  clear t_430
  have t_433 : At S_33 q_16 54 := by rw [eS_33]; exact At_sN t_429 hq_32
  have t_434 : At S_42 q_16 54 := tAt_sR eS_42 t_433
  have t_435 : At S_49 q_16 54 := by rw [eS_49]; exact At_sO t_434 hq_48
  have t_432 : pN S_56 q_16 = 10 := ((hK_57 q_16 t_435.1).2 (At_ne t_435 ha_54 (by decide))).2.2.2.1.trans t_431
  clear t_431
  have t_436 : pN S_69 q_16 = 10 := tN_sR eS_69 t_432
  clear t_432
  have t_437 : pN S_76 q_16 = 10 := by rw [eS_76, pN_sO]; exact t_436
  clear t_436
  have t_439 : At S_56 q_16 54 := hK_57.at ha_54 t_435 (by decide)
  have t_440 : At S_69 q_16 54 := tAt_sR eS_69 t_439
  have t_441 : At S_76 q_16 54 := by rw [eS_76]; exact At_sO t_440 hq_75
  have t_438 : pN S_83 q_16 = 10 := ((hK_84 q_16 t_441.1).2 (At_ne t_441 ha_81 (by decide))).2.2.2.1.trans t_437
  clear t_437
  have t_442 : pN S_118 q_16 = 10 := tN_sR eS_118 t_438
  clear t_438
  have t_443 : pN S_125 q_16 = 10 := by rw [eS_125, pN_sO]; exact t_442
  clear t_442
  have t_445 : At S_83 q_16 54 := hK_84.at ha_81 t_441 (by decide)
  have t_446 : At S_118 q_16 54 := tAt_sR eS_118 t_445
  have t_447 : At S_125 q_16 54 := by rw [eS_125]; exact At_sO t_446 hq_124
  have t_444 : pN S_132 q_16 = 10 := ((hK_133 q_16 t_447.1).2 (At_ne t_447 ha_130 (by decide))).2.2.2.1.trans t_443
  clear t_443
  have t_448 : pN S_147 q_16 = 10 := tN_sR eS_147 t_444
  clear t_444
  have t_449 : pN S_154 q_16 = 10 := by rw [eS_154, pN_sO]; exact t_448
  clear t_448
  have t_451 : At S_132 q_16 54 := hK_133.at ha_130 t_447 (by decide)
  have t_452 : At S_147 q_16 54 := tAt_sR eS_147 t_451
  have t_453 : At S_154 q_16 54 := by rw [eS_154]; exact At_sO t_452 hq_153
  have t_450 : pN S_161 q_16 = 10 := ((hK_162 q_16 t_453.1).2 (At_ne t_453 ha_159 (by decide))).2.2.2.1.trans t_449
  clear t_449
  have t_454 : pN S_173 q_16 = 10 := tN_sR eS_173 t_450
  clear t_450
  have t_456 : At S_161 q_16 54 := hK_162.at ha_159 t_453 (by decide)
  have t_457 : At S_173 q_16 54 := tAt_sR eS_173 t_456
  have t_455 : pN S_180 q_16 = 10 := by rw [eS_180]; exact (pN_sN_ne (ne_of_new hq_179 t_457.1)).trans t_454
  clear t_454
  have t_458 : pN S_189 q_16 = 10 := tN_sR eS_189 t_455
  clear t_455
  have t_460 : At S_180 q_16 54 := by rw [eS_180]; exact At_sN t_457 hq_179
  have t_461 : At S_189 q_16 54 := tAt_sR eS_189 t_460
  have t_459 : pN S_196 q_16 = 10 := by rw [eS_196]; exact (pN_sN_ne (ne_of_new hq_195 t_461.1)).trans t_458
  clear t_458
  have t_462 : pN S_205 q_16 = 10 := tN_sR eS_205 t_459
  clear t_459
  have t_464 : pR S_49 1103 x = some q_32 := by rw [eS_49]; exact (pR_sO_ne (ne_of_new hq_48 t_251.1)).trans h_47
  have t_465 : pR S_56 1103 x = some q_32 := (((hK_57 x t_253.1).2 (At_ne t_253 ha_54 (by decide))).2.2.1 1103).trans t_464
  have t_466 : pR S_69 1103 x = some q_32 := tR_sR eS_69 rfl t_465
  have t_467 : pR S_76 1103 x = some q_32 := by rw [eS_76]; exact (pR_sO_ne (ne_of_new hq_75 t_228.1)).trans t_466
  have t_468 : pR S_83 1103 x = some q_32 := (((hK_84 x t_230.1).2 (At_ne t_230 ha_81 (by decide))).2.2.1 1103).trans t_467
  have t_469 : pR S_118 1103 x = some q_32 := tR_sR eS_118 rfl t_468
  have t_470 : pR S_125 1103 x = some q_32 := by rw [eS_125]; exact (pR_sO_ne (ne_of_new hq_124 t_233.1)).trans t_469
  have t_471 : pR S_132 1103 x = some q_32 := (((hK_133 x t_235.1).2 (At_ne t_235 ha_130 (by decide))).2.2.1 1103).trans t_470
  have t_472 : pR S_147 1103 x = some q_32 := tR_sR eS_147 rfl t_471
  have t_473 : pR S_154 1103 x = some q_32 := by rw [eS_154]; exact (pR_sO_ne (ne_of_new hq_153 t_219.1)).trans t_472
  have t_474 : pR S_161 1103 x = some q_32 := (((hK_162 x t_221.1).2 (At_ne t_221 ha_159 (by decide))).2.2.1 1103).trans t_473
  have t_475 : pR S_173 1103 x = some q_32 := tR_sR eS_173 rfl t_474
  have t_476 : pR S_180 1103 x = some q_32 := by rw [eS_180, pR_sN]; exact t_475
  have t_477 : pR S_189 1103 x = some q_32 := tR_sR eS_189 rfl t_476
  have t_478 : pR S_196 1103 x = some q_32 := by rw [eS_196, pR_sN]; exact t_477
  have t_479 : pR S_205 1103 x = some q_32 := tR_sR eS_205 rfl t_478
  have t_482 : pN S_42 q_32 = 4 := tN_sR eS_42 hn_39
  clear hn_39
  have t_483 : pN S_49 q_32 = 4 := by rw [eS_49, pN_sO]; exact t_482
  clear t_482
  have t_485 : At S_42 q_32 18 := tAt_sR eS_42 ha_38
  have t_486 : At S_49 q_32 18 := by rw [eS_49]; exact At_sO t_485 hq_48
  have t_484 : pN S_56 q_32 = 4 := ((hK_57 q_32 t_486.1).2 (At_ne t_486 ha_54 (by decide))).2.2.2.1.trans t_483
  clear t_483
  have t_487 : pN S_69 q_32 = 4 := tN_sR eS_69 t_484
  clear t_484
  have t_488 : pN S_76 q_32 = 4 := by rw [eS_76, pN_sO]; exact t_487
  clear t_487
  have t_490 : At S_56 q_32 18 := hK_57.at ha_54 t_486 (by decide)
  have t_491 : At S_69 q_32 18 := tAt_sR eS_69 t_490
  have t_492 : At S_76 q_32 18 := by rw [eS_76]; exact At_sO t_491 hq_75
  have t_489 : pN S_83 q_32 = 4 := ((hK_84 q_32 t_492.1).2 (At_ne t_492 ha_81 (by decide))).2.2.2.1.trans t_488
  clear t_488
  have t_493 : pN S_118 q_32 = 4 := tN_sR eS_118 t_489
  clear t_489
  have t_494 : pN S_125 q_32 = 4 := by rw [eS_125, pN_sO]; exact t_493
  clear t_493
  have t_496 : At S_83 q_32 18 := hK_84.at ha_81 t_492 (by decide)
  have t_497 : At S_118 q_32 18 := tAt_sR eS_118 t_496
  have t_498 : At S_125 q_32 18 := by rw [eS_125]; exact At_sO t_497 hq_124
  have t_495 : pN S_132 q_32 = 4 := ((hK_133 q_32 t_498.1).2 (At_ne t_498 ha_130 (by decide))).2.2.2.1.trans t_494
  clear t_494
  have t_499 : pN S_147 q_32 = 4 := tN_sR eS_147 t_495
  clear t_495
  have t_500 : pN S_154 q_32 = 4 := by rw [eS_154, pN_sO]; exact t_499
  clear t_499
  have t_502 : At S_132 q_32 18 := hK_133.at ha_130 t_498 (by decide)
  have t_503 : At S_147 q_32 18 := tAt_sR eS_147 t_502
  have t_504 : At S_154 q_32 18 := by rw [eS_154]; exact At_sO t_503 hq_153
  have t_501 : pN S_161 q_32 = 4 := ((hK_162 q_32 t_504.1).2 (At_ne t_504 ha_159 (by decide))).2.2.2.1.trans t_500
  clear t_500
  have t_505 : pN S_173 q_32 = 4 := tN_sR eS_173 t_501
  clear t_501
  have t_507 : At S_161 q_32 18 := hK_162.at ha_159 t_504 (by decide)
  have t_508 : At S_173 q_32 18 := tAt_sR eS_173 t_507
  have t_506 : pN S_180 q_32 = 4 := by rw [eS_180]; exact (pN_sN_ne (ne_of_new hq_179 t_508.1)).trans t_505
  clear t_505
  have t_509 : pN S_189 q_32 = 4 := tN_sR eS_189 t_506
  clear t_506
  have t_511 : At S_180 q_32 18 := by rw [eS_180]; exact At_sN t_508 hq_179
  have t_512 : At S_189 q_32 18 := tAt_sR eS_189 t_511
  have t_510 : pN S_196 q_32 = 4 := by rw [eS_196]; exact (pN_sN_ne (ne_of_new hq_195 t_512.1)).trans t_509
  clear t_509
  have t_513 : pN S_205 q_32 = 4 := tN_sR eS_205 t_510
  clear t_510
  have t_517 : pR S_125 1106 x = some q_75 := by rw [eS_125]; exact (pR_sO_ne (ne_of_new hq_124 t_233.1)).trans h_123
  have t_518 : pR S_132 1106 x = some q_75 := (((hK_133 x t_235.1).2 (At_ne t_235 ha_130 (by decide))).2.2.1 1106).trans t_517
  have t_519 : pR S_147 1106 x = some q_75 := tR_sR eS_147 rfl t_518
  have t_520 : pR S_154 1106 x = some q_75 := by rw [eS_154]; exact (pR_sO_ne (ne_of_new hq_153 t_219.1)).trans t_519
  have t_521 : pR S_161 1106 x = some q_75 := (((hK_162 x t_221.1).2 (At_ne t_221 ha_159 (by decide))).2.2.1 1106).trans t_520
  have t_522 : pR S_173 1106 x = some q_75 := tR_sR eS_173 rfl t_521
  have t_523 : pR S_180 1106 x = some q_75 := by rw [eS_180, pR_sN]; exact t_522
  have t_524 : pR S_189 1106 x = some q_75 := tR_sR eS_189 rfl t_523
  have t_525 : pR S_196 1106 x = some q_75 := by rw [eS_196, pR_sN]; exact t_524
  have t_526 : pR S_205 1106 x = some q_75 := tR_sR eS_205 rfl t_525
  have t_531 : pR S_180 1108 x = some q_153 := by rw [eS_180, pR_sN]; exact h_178
  have t_532 : pR S_189 1108 x = some q_153 := tR_sR eS_189 rfl t_531
  have t_533 : pR S_196 1108 x = some q_153 := by rw [eS_196, pR_sN]; exact t_532
  have t_534 : pR S_205 1108 x = some q_153 := tR_sR eS_205 rfl t_533
  have t_539 : pN S_189 q_179 = 16 := tN_sR eS_189 hn_186
  clear hn_186
  have t_541 : At S_189 q_179 17 := tAt_sR eS_189 ha_185
  have t_540 : pN S_196 q_179 = 16 := by rw [eS_196]; exact (pN_sN_ne (ne_of_new hq_195 t_541.1)).trans t_539
  clear t_539
  have t_542 : pN S_205 q_179 = 16 := tN_sR eS_205 t_540
  clear t_540
  have t_546 : pN S_205 q_195 = 60 := tN_sR eS_205 hn_202
  clear hn_202
  have t_548 : pR S_118 601 q_75 = some q_94 := tR_sR eS_118 rfl h_95
  have t_550 : At S_118 q_75 6 := tAt_sR eS_118 ha_86
  have t_549 : pR S_125 601 q_75 = some q_94 := by rw [eS_125]; exact (pR_sO_ne (ne_of_new hq_124 t_550.1)).trans t_548
  have t_552 : At S_125 q_75 6 := by rw [eS_125]; exact At_sO t_550 hq_124
  have t_551 : pR S_132 601 q_75 = some q_94 := (((hK_133 q_75 t_552.1).2 (At_ne t_552 ha_130 (by decide))).2.2.1 601).trans t_549
  have t_553 : pR S_147 601 q_75 = some q_94 := tR_sR eS_147 rfl t_551
  have t_555 : At S_132 q_75 6 := hK_133.at ha_130 t_552 (by decide)
  have t_556 : At S_147 q_75 6 := tAt_sR eS_147 t_555
  have t_554 : pR S_154 601 q_75 = some q_94 := by rw [eS_154]; exact (pR_sO_ne (ne_of_new hq_153 t_556.1)).trans t_553
  have t_558 : At S_154 q_75 6 := by rw [eS_154]; exact At_sO t_556 hq_153
  have t_557 : pR S_161 601 q_75 = some q_94 := (((hK_162 q_75 t_558.1).2 (At_ne t_558 ha_159 (by decide))).2.2.1 601).trans t_554
  have t_559 : pR S_173 601 q_75 = some q_94 := tR_sR eS_173 rfl t_557
  have t_560 : pR S_180 601 q_75 = some q_94 := by rw [eS_180, pR_sN]; exact t_559
  have t_561 : pR S_189 601 q_75 = some q_94 := tR_sR eS_189 rfl t_560
  have t_562 : pR S_196 601 q_75 = some q_94 := by rw [eS_196, pR_sN]; exact t_561
  have t_563 : pR S_205 601 q_75 = some q_94 := tR_sR eS_205 rfl t_562
  have t_566 : pN S_118 q_94 = 12 := tN_sR eS_118 h_97
  clear h_97
  have t_567 : pN S_125 q_94 = 12 := by rw [eS_125, pN_sO]; exact t_566
  clear t_566
  have t_569 : At S_118 q_94 134 := tAt_sR eS_118 h_96
  have t_570 : At S_125 q_94 134 := by rw [eS_125]; exact At_sO t_569 hq_124
  have t_568 : pN S_132 q_94 = 12 := ((hK_133 q_94 t_570.1).2 (At_ne t_570 ha_130 (by decide))).2.2.2.1.trans t_567
  clear t_567
  have t_571 : pN S_147 q_94 = 12 := tN_sR eS_147 t_568
  clear t_568
  have t_572 : pN S_154 q_94 = 12 := by rw [eS_154, pN_sO]; exact t_571
  clear t_571
  have t_574 : At S_132 q_94 134 := hK_133.at ha_130 t_570 (by decide)
  have t_575 : At S_147 q_94 134 := tAt_sR eS_147 t_574
  have t_576 : At S_154 q_94 134 := by rw [eS_154]; exact At_sO t_575 hq_153
  have t_573 : pN S_161 q_94 = 12 := ((hK_162 q_94 t_576.1).2 (At_ne t_576 ha_159 (by decide))).2.2.2.1.trans t_572
  clear t_572
  have t_577 : pN S_173 q_94 = 12 := tN_sR eS_173 t_573
  clear t_573
  have t_579 : At S_161 q_94 134 := hK_162.at ha_159 t_576 (by decide)
  have t_580 : At S_173 q_94 134 := tAt_sR eS_173 t_579
  have t_578 : pN S_180 q_94 = 12 := by rw [eS_180]; exact (pN_sN_ne (ne_of_new hq_179 t_580.1)).trans t_577
  clear t_577
  have t_581 : pN S_189 q_94 = 12 := tN_sR eS_189 t_578
  clear t_578
  have t_583 : At S_180 q_94 134 := by rw [eS_180]; exact At_sN t_580 hq_179
  have t_584 : At S_189 q_94 134 := tAt_sR eS_189 t_583
  have t_582 : pN S_196 q_94 = 12 := by rw [eS_196]; exact (pN_sN_ne (ne_of_new hq_195 t_584.1)).trans t_581
  clear t_581
  have t_585 : pN S_205 q_94 = 12 := tN_sR eS_205 t_582
  clear t_582
  have t_587 : pR S_118 602 q_75 = some q_98 := tR_sR eS_118 rfl h_99
  have t_588 : pR S_125 602 q_75 = some q_98 := by rw [eS_125]; exact (pR_sO_ne (ne_of_new hq_124 t_550.1)).trans t_587
  have t_589 : pR S_132 602 q_75 = some q_98 := (((hK_133 q_75 t_552.1).2 (At_ne t_552 ha_130 (by decide))).2.2.1 602).trans t_588
  have t_590 : pR S_147 602 q_75 = some q_98 := tR_sR eS_147 rfl t_589
  have t_591 : pR S_154 602 q_75 = some q_98 := by rw [eS_154]; exact (pR_sO_ne (ne_of_new hq_153 t_556.1)).trans t_590
  have t_592 : pR S_161 602 q_75 = some q_98 := (((hK_162 q_75 t_558.1).2 (At_ne t_558 ha_159 (by decide))).2.2.1 602).trans t_591
  have t_593 : pR S_173 602 q_75 = some q_98 := tR_sR eS_173 rfl t_592
  have t_594 : pR S_180 602 q_75 = some q_98 := by rw [eS_180, pR_sN]; exact t_593
  have t_595 : pR S_189 602 q_75 = some q_98 := tR_sR eS_189 rfl t_594
  have t_596 : pR S_196 602 q_75 = some q_98 := by rw [eS_196, pR_sN]; exact t_595
  have t_597 : pR S_205 602 q_75 = some q_98 := tR_sR eS_205 rfl t_596
  have t_600 : pN S_118 q_98 = 12 := tN_sR eS_118 h_101
  clear h_101
  have t_601 : pN S_125 q_98 = 12 := by rw [eS_125, pN_sO]; exact t_600
  clear t_600
  have t_603 : At S_118 q_98 134 := tAt_sR eS_118 h_100
  have t_604 : At S_125 q_98 134 := by rw [eS_125]; exact At_sO t_603 hq_124
  have t_602 : pN S_132 q_98 = 12 := ((hK_133 q_98 t_604.1).2 (At_ne t_604 ha_130 (by decide))).2.2.2.1.trans t_601
  clear t_601
  have t_605 : pN S_147 q_98 = 12 := tN_sR eS_147 t_602
  clear t_602
  have t_606 : pN S_154 q_98 = 12 := by rw [eS_154, pN_sO]; exact t_605
  clear t_605
  have t_608 : At S_132 q_98 134 := hK_133.at ha_130 t_604 (by decide)
  have t_609 : At S_147 q_98 134 := tAt_sR eS_147 t_608
  have t_610 : At S_154 q_98 134 := by rw [eS_154]; exact At_sO t_609 hq_153
  have t_607 : pN S_161 q_98 = 12 := ((hK_162 q_98 t_610.1).2 (At_ne t_610 ha_159 (by decide))).2.2.2.1.trans t_606
  clear t_606
  have t_611 : pN S_173 q_98 = 12 := tN_sR eS_173 t_607
  clear t_607
  have t_613 : At S_161 q_98 134 := hK_162.at ha_159 t_610 (by decide)
  have t_614 : At S_173 q_98 134 := tAt_sR eS_173 t_613
  have t_612 : pN S_180 q_98 = 12 := by rw [eS_180]; exact (pN_sN_ne (ne_of_new hq_179 t_614.1)).trans t_611
  clear t_611
  have t_615 : pN S_189 q_98 = 12 := tN_sR eS_189 t_612
  clear t_612
  have t_617 : At S_180 q_98 134 := by rw [eS_180]; exact At_sN t_614 hq_179
  have t_618 : At S_189 q_98 134 := tAt_sR eS_189 t_617
  have t_616 : pN S_196 q_98 = 12 := by rw [eS_196]; exact (pN_sN_ne (ne_of_new hq_195 t_618.1)).trans t_615
  clear t_615
  have t_619 : pN S_205 q_98 = 12 := tN_sR eS_205 t_616
  clear t_616
  have t_621 : pR S_118 604 q_75 = some q_102 := tR_sR eS_118 rfl h_103
  have t_622 : pR S_125 604 q_75 = some q_102 := by rw [eS_125]; exact (pR_sO_ne (ne_of_new hq_124 t_550.1)).trans t_621
  have t_623 : pR S_132 604 q_75 = some q_102 := (((hK_133 q_75 t_552.1).2 (At_ne t_552 ha_130 (by decide))).2.2.1 604).trans t_622
  have t_624 : pR S_147 604 q_75 = some q_102 := tR_sR eS_147 rfl t_623
  have t_625 : pR S_154 604 q_75 = some q_102 := by rw [eS_154]; exact (pR_sO_ne (ne_of_new hq_153 t_556.1)).trans t_624
  have t_626 : pR S_161 604 q_75 = some q_102 := (((hK_162 q_75 t_558.1).2 (At_ne t_558 ha_159 (by decide))).2.2.1 604).trans t_625
  have t_627 : pR S_173 604 q_75 = some q_102 := tR_sR eS_173 rfl t_626
  have t_628 : pR S_180 604 q_75 = some q_102 := by rw [eS_180, pR_sN]; exact t_627
  have t_629 : pR S_189 604 q_75 = some q_102 := tR_sR eS_189 rfl t_628
  have t_630 : pR S_196 604 q_75 = some q_102 := by rw [eS_196, pR_sN]; exact t_629
  have t_631 : pR S_205 604 q_75 = some q_102 := tR_sR eS_205 rfl t_630
  have t_634 : pN S_118 q_102 = 48 := tN_sR eS_118 h_105
  clear h_105
  have t_635 : pN S_125 q_102 = 48 := by rw [eS_125, pN_sO]; exact t_634
  clear t_634
  have t_637 : At S_118 q_102 134 := tAt_sR eS_118 h_104
  have t_638 : At S_125 q_102 134 := by rw [eS_125]; exact At_sO t_637 hq_124
  have t_636 : pN S_132 q_102 = 48 := ((hK_133 q_102 t_638.1).2 (At_ne t_638 ha_130 (by decide))).2.2.2.1.trans t_635
  clear t_635
  have t_639 : pN S_147 q_102 = 48 := tN_sR eS_147 t_636
  clear t_636
  have t_640 : pN S_154 q_102 = 48 := by rw [eS_154, pN_sO]; exact t_639
  clear t_639
  have t_642 : At S_132 q_102 134 := hK_133.at ha_130 t_638 (by decide)
  have t_643 : At S_147 q_102 134 := tAt_sR eS_147 t_642
  have t_644 : At S_154 q_102 134 := by rw [eS_154]; exact At_sO t_643 hq_153
  have t_641 : pN S_161 q_102 = 48 := ((hK_162 q_102 t_644.1).2 (At_ne t_644 ha_159 (by decide))).2.2.2.1.trans t_640
  clear t_640
  have t_645 : pN S_173 q_102 = 48 := tN_sR eS_173 t_641
  clear t_641
  have t_647 : At S_161 q_102 134 := hK_162.at ha_159 t_644 (by decide)
  have t_648 : At S_173 q_102 134 := tAt_sR eS_173 t_647
  have t_646 : pN S_180 q_102 = 48 := by rw [eS_180]; exact (pN_sN_ne (ne_of_new hq_179 t_648.1)).trans t_645
  clear t_645
  have t_649 : pN S_189 q_102 = 48 := tN_sR eS_189 t_646
  clear t_646
  have t_651 : At S_180 q_102 134 := by rw [eS_180]; exact At_sN t_648 hq_179
  have t_652 : At S_189 q_102 134 := tAt_sR eS_189 t_651
  have t_650 : pN S_196 q_102 = 48 := by rw [eS_196]; exact (pN_sN_ne (ne_of_new hq_195 t_652.1)).trans t_649
  clear t_649
  have t_653 : pN S_205 q_102 = 48 := tN_sR eS_205 t_650
  clear t_650
  have t_655 : pR S_118 605 q_75 = some q_106 := tR_sR eS_118 rfl h_107
  have t_656 : pR S_125 605 q_75 = some q_106 := by rw [eS_125]; exact (pR_sO_ne (ne_of_new hq_124 t_550.1)).trans t_655
  have t_657 : pR S_132 605 q_75 = some q_106 := (((hK_133 q_75 t_552.1).2 (At_ne t_552 ha_130 (by decide))).2.2.1 605).trans t_656
  have t_658 : pR S_147 605 q_75 = some q_106 := tR_sR eS_147 rfl t_657
  have t_659 : pR S_154 605 q_75 = some q_106 := by rw [eS_154]; exact (pR_sO_ne (ne_of_new hq_153 t_556.1)).trans t_658
  have t_660 : pR S_161 605 q_75 = some q_106 := (((hK_162 q_75 t_558.1).2 (At_ne t_558 ha_159 (by decide))).2.2.1 605).trans t_659
  have t_661 : pR S_173 605 q_75 = some q_106 := tR_sR eS_173 rfl t_660
  have t_662 : pR S_180 605 q_75 = some q_106 := by rw [eS_180, pR_sN]; exact t_661
  have t_663 : pR S_189 605 q_75 = some q_106 := tR_sR eS_189 rfl t_662
  have t_664 : pR S_196 605 q_75 = some q_106 := by rw [eS_196, pR_sN]; exact t_663
  have t_665 : pR S_205 605 q_75 = some q_106 := tR_sR eS_205 rfl t_664
  have t_668 : pN S_118 q_106 = 48 := tN_sR eS_118 h_109
  clear h_109
  have t_669 : pN S_125 q_106 = 48 := by rw [eS_125, pN_sO]; exact t_668
  clear t_668
  have t_671 : At S_118 q_106 134 := tAt_sR eS_118 h_108
  have t_672 : At S_125 q_106 134 := by rw [eS_125]; exact At_sO t_671 hq_124
  have t_670 : pN S_132 q_106 = 48 := ((hK_133 q_106 t_672.1).2 (At_ne t_672 ha_130 (by decide))).2.2.2.1.trans t_669
  clear t_669
  have t_673 : pN S_147 q_106 = 48 := tN_sR eS_147 t_670
  clear t_670
  have t_674 : pN S_154 q_106 = 48 := by rw [eS_154, pN_sO]; exact t_673
  clear t_673
  have t_676 : At S_132 q_106 134 := hK_133.at ha_130 t_672 (by decide)
  have t_677 : At S_147 q_106 134 := tAt_sR eS_147 t_676
  have t_678 : At S_154 q_106 134 := by rw [eS_154]; exact At_sO t_677 hq_153
  have t_675 : pN S_161 q_106 = 48 := ((hK_162 q_106 t_678.1).2 (At_ne t_678 ha_159 (by decide))).2.2.2.1.trans t_674
  clear t_674
  have t_679 : pN S_173 q_106 = 48 := tN_sR eS_173 t_675
  clear t_675
  have t_681 : At S_161 q_106 134 := hK_162.at ha_159 t_678 (by decide)
  have t_682 : At S_173 q_106 134 := tAt_sR eS_173 t_681
  have t_680 : pN S_180 q_106 = 48 := by rw [eS_180]; exact (pN_sN_ne (ne_of_new hq_179 t_682.1)).trans t_679
  clear t_679
  have t_683 : pN S_189 q_106 = 48 := tN_sR eS_189 t_680
  clear t_680
  have t_685 : At S_180 q_106 134 := by rw [eS_180]; exact At_sN t_682 hq_179
  have t_686 : At S_189 q_106 134 := tAt_sR eS_189 t_685
  have t_684 : pN S_196 q_106 = 48 := by rw [eS_196]; exact (pN_sN_ne (ne_of_new hq_195 t_686.1)).trans t_683
  clear t_683
  have t_687 : pN S_205 q_106 = 48 := tN_sR eS_205 t_684
  clear t_684
  have t_689 : pR S_118 606 q_75 = some q_110 := tR_sR eS_118 rfl h_111
  have t_690 : pR S_125 606 q_75 = some q_110 := by rw [eS_125]; exact (pR_sO_ne (ne_of_new hq_124 t_550.1)).trans t_689
  have t_691 : pR S_132 606 q_75 = some q_110 := (((hK_133 q_75 t_552.1).2 (At_ne t_552 ha_130 (by decide))).2.2.1 606).trans t_690
  have t_692 : pR S_147 606 q_75 = some q_110 := tR_sR eS_147 rfl t_691
  have t_693 : pR S_154 606 q_75 = some q_110 := by rw [eS_154]; exact (pR_sO_ne (ne_of_new hq_153 t_556.1)).trans t_692
  have t_694 : pR S_161 606 q_75 = some q_110 := (((hK_162 q_75 t_558.1).2 (At_ne t_558 ha_159 (by decide))).2.2.1 606).trans t_693
  have t_695 : pR S_173 606 q_75 = some q_110 := tR_sR eS_173 rfl t_694
  have t_696 : pR S_180 606 q_75 = some q_110 := by rw [eS_180, pR_sN]; exact t_695
  have t_697 : pR S_189 606 q_75 = some q_110 := tR_sR eS_189 rfl t_696
  have t_698 : pR S_196 606 q_75 = some q_110 := by rw [eS_196, pR_sN]; exact t_697
  have t_699 : pR S_205 606 q_75 = some q_110 := tR_sR eS_205 rfl t_698
  have t_702 : pN S_118 q_110 = 48 := tN_sR eS_118 h_113
  clear h_113
  have t_703 : pN S_125 q_110 = 48 := by rw [eS_125, pN_sO]; exact t_702
  clear t_702
  have t_705 : At S_118 q_110 134 := tAt_sR eS_118 h_112
  have t_706 : At S_125 q_110 134 := by rw [eS_125]; exact At_sO t_705 hq_124
  have t_704 : pN S_132 q_110 = 48 := ((hK_133 q_110 t_706.1).2 (At_ne t_706 ha_130 (by decide))).2.2.2.1.trans t_703
  clear t_703
  have t_707 : pN S_147 q_110 = 48 := tN_sR eS_147 t_704
  clear t_704
  have t_708 : pN S_154 q_110 = 48 := by rw [eS_154, pN_sO]; exact t_707
  clear t_707
  have t_710 : At S_132 q_110 134 := hK_133.at ha_130 t_706 (by decide)
  have t_711 : At S_147 q_110 134 := tAt_sR eS_147 t_710
  have t_712 : At S_154 q_110 134 := by rw [eS_154]; exact At_sO t_711 hq_153
  have t_709 : pN S_161 q_110 = 48 := ((hK_162 q_110 t_712.1).2 (At_ne t_712 ha_159 (by decide))).2.2.2.1.trans t_708
  clear t_708
  have t_713 : pN S_173 q_110 = 48 := tN_sR eS_173 t_709
  clear t_709
  have t_715 : At S_161 q_110 134 := hK_162.at ha_159 t_712 (by decide)
  have t_716 : At S_173 q_110 134 := tAt_sR eS_173 t_715
  have t_714 : pN S_180 q_110 = 48 := by rw [eS_180]; exact (pN_sN_ne (ne_of_new hq_179 t_716.1)).trans t_713
  clear t_713
  have t_717 : pN S_189 q_110 = 48 := tN_sR eS_189 t_714
  clear t_714
  have t_719 : At S_180 q_110 134 := by rw [eS_180]; exact At_sN t_716 hq_179
  have t_720 : At S_189 q_110 134 := tAt_sR eS_189 t_719
  have t_718 : pN S_196 q_110 = 48 := by rw [eS_196]; exact (pN_sN_ne (ne_of_new hq_195 t_720.1)).trans t_717
  clear t_717
  have t_721 : pN S_205 q_110 = 48 := tN_sR eS_205 t_718
  clear t_718
  have L_213 : ∀ (n : Nat) (T_215 : PS) (H : Heap) (locs : List Loc) (ls : Array Slot) (i1_214 : Int32) (i1_214_z : Int) (cc_723 nn_724 : Nat), ((16 - i1_214_z).toNat = n) → (Wd G cy (AS S s.heap.size) s.heap T_215 H locs) → (i1_214.toInt = i1_214_z) → (0 ≤ i1_214_z ∧ i1_214_z ≤ 16) → (At T_215 x 191) → (Kq S T_215 x) → (GX T_215) → (Phc T_215 = Phc S + 320) → (Phs T_215 = Phs S + 604000) → (ShI T_215 q_179 i1_214_z) → (pI T_215 1102 x = 0) → (pI T_215 1104 x = 0) → (pI T_215 801 q_124 = 0) → (pI T_215 1000 q_48 = 0) → (pI T_215 800 q_124 = 0) → (pI T_215 806 q_124 = 0) → (pR T_215 1100 x = some q_1) → (At T_215 q_1 36) → (pN T_215 q_1 = 600) → (pR T_215 1101 x = some q_16) → (At T_215 q_16 54) → (pN T_215 q_16 = 10) → (pR T_215 1103 x = some q_32) → (At T_215 q_32 18) → (pN T_215 q_32 = 4) → (pR T_215 1105 x = some q_48) → (At T_215 q_48 10) → (pR T_215 1106 x = some q_75) → (At T_215 q_75 6) → (pR T_215 1107 x = some q_124) → (At T_215 q_124 8) → (pR T_215 1108 x = some q_153) → (At T_215 q_153 1) → (pR T_215 1109 x = some q_179) → (At T_215 q_179 17) → (pN T_215 q_179 = 16) → (pR T_215 1111 x = some q_195) → (At T_215 q_195 194) → (pN T_215 q_195 = 60) → (pR T_215 601 q_75 = some q_94) → (At T_215 q_94 134) → (pN T_215 q_94 = 12) → (pR T_215 602 q_75 = some q_98) → (At T_215 q_98 134) → (pN T_215 q_98 = 12) → (pR T_215 604 q_75 = some q_102) → (At T_215 q_102 134) → (pN T_215 q_102 = 48) → (pR T_215 605 q_75 = some q_106) → (At T_215 q_106 134) → (pN T_215 q_106 = 48) → (pR T_215 606 q_75 = some q_110) → (At T_215 q_110 134) → (pN T_215 q_110 = 48) → (cc_723 = 26 + 2 * (i1_214_z).toNat) → (nn_724 = 1520 + 13 * (i1_214_z).toNat) → (lv_has ls 2 [(1, .int (i1_214)), (0, .ref x)]) → W p l e ({ frames := 4, cells := 58, slots := 1728, locals := 192 }) s m [.ref x].toArray below meth c H locs cc_723 nn_724 QQ (F0 m 93 ls []) := by
    intro n
    induction n using Nat.strongRecOn with
    | ind n ih =>
    intro T_215 H locs ls i1_214 i1_214_z cc_723 nn_724 hn hw hz_i1_214 hr_i1_214 ha_x_L_216 hK_T_215 hg_T_215 hpc_T_215 hps_T_215 iv_217 ik_268 ik_291 ik_302 ik_325 ik_334 ik_343 ik_364 ik_365 ik_406 ik_425 ik_426 ik_463 ik_480 ik_481 ik_514 ik_515 ik_516 ik_527 ik_528 ik_529 ik_530 ik_535 ik_536 ik_537 ik_538 ik_543 ik_544 ik_545 ik_547 ik_564 ik_565 ik_586 ik_598 ik_599 ik_620 ik_632 ik_633 ik_654 ik_666 ik_667 ik_688 ik_700 ik_701 ik_722 hcc_725 hnn_726 hl
    have rg_727 : (-2147483648) ≤ i1_214_z ∧ i1_214_z ≤ 2147483647 := by rw [← hz_i1_214]; exact ⟨z_lo _, z_hi _⟩
    refine lv_iload_n X.1 X.2.1 dX11_init_93 rfl (lv_at hl 0 rfl) ?_
    refine lv_bipush (v := 16) X.1 X.2.1 dX11_init_94 (by decide) ?_
    refine lv_icmp_ge (tgt := 118) X.1 X.2.1 dX11_init_96 (by decide) (fun c_728 => ?_) (fun c_728 => ?_)
    · have z_b_729 := trivial
      have k_730 : i1_214_z ≥ 16 := z_le ti_16 hz_i1_214 c_728
      have nd_731 := nodup_of hw
      obtain ⟨S_732, eS_732⟩ : ∃ T, T = sK T_215 x 11 := ⟨_, rfl⟩
      have hw := Wd_sK (k := 11) hw ha_x_L_216 rfl; rw [← eS_732] at hw
      have hg9 : GX S_732 := by rw [eS_732]; exact GX_sK hg_T_215 ha_x_L_216 (by decide +kernel) (mk_11 ⟨q_1, (by rw [pR_sK]; exact ik_364), At_sK ha_x_L_216 ik_365 (by decide), by rw [pN_sK]; exact ik_406⟩ ⟨q_16, (by rw [pR_sK]; exact ik_425), At_sK ha_x_L_216 ik_426 (by decide), by rw [pN_sK]; exact ik_463⟩ (by rw [pI_sK, ik_268]; exact ⟨by rw [ti_0]; omega, by rw [ti_0]; omega⟩) ⟨q_32, (by rw [pR_sK]; exact ik_480), At_sK ha_x_L_216 ik_481 (by decide), by rw [pN_sK]; exact ik_514⟩ (by rw [pI_sK, ik_291]; exact ⟨by rw [ti_0]; omega, by rw [ti_0]; omega⟩) ⟨q_48, (by rw [pR_sK]; exact ik_515), At_sK ha_x_L_216 ik_516 (by decide)⟩ ⟨q_75, (by rw [pR_sK]; exact ik_527), At_sK ha_x_L_216 ik_528 (by decide)⟩ ⟨q_124, (by rw [pR_sK]; exact ik_529), At_sK ha_x_L_216 ik_530 (by decide)⟩ ⟨q_153, (by rw [pR_sK]; exact ik_535), At_sK ha_x_L_216 ik_536 (by decide)⟩ ⟨q_179, (by rw [pR_sK]; exact ik_537), At_sK ha_x_L_216 ik_538 (by decide), by rw [pN_sK]; exact ik_543⟩ ⟨q_195, (by rw [pR_sK]; exact ik_544), At_sK ha_x_L_216 ik_545 (by decide), by rw [pN_sK]; exact ik_547⟩)
      have ha9 : At S_732 x 11 := by rw [eS_732]; exact At_nK ha_x_L_216
      have hk9 : Kq S S_732 x := hK_T_215.sK eS_732
      have hPhc9 : Phc S_732 = Phc S + 57920 := by rw [show Phc S_732 = Ph fC 8 14400 S_732 from rfl, Ph_sK nd_731 ha_x_L_216 (by decide) eS_732, ph_11 ha9 (show pI S_732 1104 x = 0 by rw [eS_732, pI_sK]; exact ik_291)]; show Phc T_215 + _ = _; omega
      have hPhs9 : Phs S_732 = Phs S + 788000 := by rw [show Phs S_732 = Ph fS 15100 46000 S_732 from rfl, Ph_sK nd_731 ha_x_L_216 (by decide) eS_732, ph_11 ha9 (show pI S_732 1104 x = 0 by rw [eS_732, pI_sK]; exact ik_291)]; show Phs T_215 + _ = _; omega
      rw [hQQ]
      exact ret_v X hw hr hlocks (by show cc_723 ≤ 58; omega) (by show nn_724 ≤ 1728; omega) ⟨hk9, hg9, ha9, hPhc9, hPhs9, ⟨q_124, by rw [eS_732, pR_sK]; exact ik_529, by rw [eS_732]; exact At_sK ha_x_L_216 ik_530 (by decide), by rw [eS_732, pI_sK]; exact ik_302, by rw [eS_732, pI_sK]; exact ik_268, by rw [eS_732, pI_sK]; exact ik_291, q_48, by rw [eS_732, pR_sK]; exact ik_515, by rw [eS_732]; exact At_sK ha_x_L_216 ik_516 (by decide), by rw [eS_732, pI_sK]; exact ik_325, q_179, by rw [eS_732, pR_sK]; exact ik_537, by rw [eS_732, show (16 : Int) = i1_214_z by omega]; exact ShI_sK ha_x_L_216 (by decide) iv_217, ⟨(by rw [eS_732, pI_sK]; exact ik_334), (by rw [eS_732, pI_sK]; exact ik_343)⟩, q_75, by rw [eS_732, pR_sK]; exact ik_527, ⟨q_94, q_98, q_102, q_106, q_110, ⟨by rw [eS_732, pR_sK]; exact ik_564, by rw [eS_732, pR_sK]; exact ik_598, by rw [eS_732, pR_sK]; exact ik_632, by rw [eS_732, pR_sK]; exact ik_666, by rw [eS_732, pR_sK]; exact ik_700⟩, rd_114⟩⟩⟩ dX11_init_118
    · have z_b_733 := trivial
      have k_734 : i1_214_z < 16 := z_nle ti_16 hz_i1_214 c_728
      refine lv_aload_n X.1 X.2.1 dX11_init_99 rfl (lv_at hl 1 rfl) ?_
      refine r_getR (g := 1109) X hw ha_x_L_216 rfl 9 ik_537 (by decide) rfl inn_X11_init_11 (by decide) (X.2.2.2.1 (.fieldLink RX11 55 "SilkMill" "shelf" "[LSilkMill$Place;") (by decide +kernel)) rfl (gv_1109 _ _) dX11_init_100 ?_
      refine lv_iload_n X.1 X.2.1 dX11_init_103 rfl (lv_at hl 0 rfl) ?_
      refine r_new X hw 183 3 (nn_724 + 5) (cc_723 + 1) rfl tyX3 (by decide) rfl inn_X11_init_3 tyX3_ok (X.2.2.2.1 (.classLink RX11 53 RX3) (by decide +kernel)) (X.2.2.2.1 (.instantiable RX3 5) (by decide +kernel)) (X.2.2.2.1 (.initialized RX3) (by decide +kernel)) (zo_3 _) zd_3 (by show cc_723 + 1 ≤ (cc_723 + 1); omega) (by show nn_724 + 5 ≤ (nn_724 + 5); omega) (by show (cc_723 + 1) ≤ 58; omega) (by show (nn_724 + 5) ≤ 1728; omega) dX11_init_104 (fun q_735 H hq_735 hw => ?_)
      obtain ⟨S_736, eS_736⟩ : ∃ T, T = sO T_215 q_735 183 := ⟨_, rfl⟩
      rw [← eS_736] at hw
      have ph_737 : Phc S_736 = Phc S + 320 := (show Phc S_736 = Phc T_215 from Ph_sO hg_T_215 hq_735 eS_736 (by decide)).trans hpc_T_215
      have ph_738 : Phs S_736 = Phs S + 604000 := (show Phs S_736 = Phs T_215 from Ph_sO hg_T_215 hq_735 eS_736 (by decide)).trans hps_T_215
      clear hpc_T_215
      clear hps_T_215
      have hK_739 : Kq S S_736 x := hK_T_215.sO hq_735 eS_736
      have hg_740 : GX S_736 := by rw [eS_736]; exact GX_O hg_T_215 hq_735 (by decide +kernel)
      have hn0_q_735 := hK_T_215.new hq_735
      have ha_741 : At S_736 q_735 183 := by rw [eS_736]; exact At_nO _ _ _
      have hzI_q_735 : ∀ g, pI S_736 g q_735 = 0 := fun g => by rw [eS_736]; exact pI_sO_new
      have hzR_q_735 : ∀ g, pR S_736 g q_735 = none := fun g => by rw [eS_736]; exact if_pos rfl
      refine lv_dup X.1 X.2.1 dX11_init_107 rfl ?_
      refine k_v (rm := { frames := 2, cells := 1, slots := 8, locals := 96 }) (av := [.ref q_735]) X hw (va_runIN (As := []) (rest := [.ref q_735, .int (i1_214), .ref q_179]) (cfix X) (k_X3_init3 l G cy κ S_736 _ q_735 hg_740 ha_741 hzI_q_735 hzR_q_735) ⟨(va_cnB (host := RX11) 0 X.2.2.2.1 gX11_init_X3_init_n62 rfl rfl rfl (X.2.2.2.2.2.2.2.1.2.1 (RX11, 62, yX3_init) (by decide +kernel)) (X.2.2.2.1 (.initialized RX3) (by decide +kernel)) (by decide +kernel) ⟨Nat.le_of_ble_eq_true rfl, Nat.le_of_ble_eq_true rfl⟩), rfl, (X.2.2.2.1 (.instanceMethod yX3_init) (by decide +kernel))⟩ (pre_S X hw _) rfl rfl hl.1 rfl (lv_room (Nat.le_of_ble_eq_true rfl)) dX11_init_108 ⟨(by show (cc_723 + 1) + 1 ≤ 58; omega), (by show (nn_724 + 5) + 8 ≤ 1728; omega)⟩) ((cc_723 + 1) + 1) ((nn_724 + 5) + 8) (by show (cc_723 + 1) + 1 ≤ ((cc_723 + 1) + 1); omega) (by show (nn_724 + 5) + 8 ≤ ((nn_724 + 5) + 8); omega) (fun S_743 H locs hp hw hfr hnw => ?_)
      obtain ⟨hK_744, hg_745, ha_746, ph_747, ph_748, kx_749, kx_750, kx_751, kx_752, kx_753⟩ := hp
      have hK_754 : Kq S S_743 x := hK_739.sub hn0_q_735 hK_744
      have ph_755 : Phc S_743 = Phc S + 320 := by omega
      have ph_756 : Phs S_743 = Phs S + 604000 := by omega
      clear ph_737
      clear ph_738
      clear ph_747
      clear ph_748
      have t_757 : At S_736 q_179 17 := by rw [eS_736]; exact At_sO ik_538 hq_735
      have t_758 : At S_743 q_179 17 := hK_744.at ha_741 t_757 (by decide)
      have t_759 : pN S_736 q_179 = 16 := by rw [eS_736, pN_sO]; exact ik_543
      have t_761 : At S_736 q_179 17 := by rw [eS_736]; exact At_sO ik_538 hq_735
      have t_760 : pN S_743 q_179 = 16 := ((hK_744 q_179 t_761.1).2 (At_ne t_761 ha_741 (by decide))).2.2.2.1.trans t_759
      clear t_759
      refine r_aast X hw t_758 rfl ha_746 rfl (by decide) (by decide) rfl rfl (by rw [t_760]; exact z_ix hz_i1_214 (by omega) (by omega)) dX11_init_111 (fun H locs hw => ?_)
      obtain ⟨S_762, eS_762⟩ : ∃ T, T = sB S_743 q_179 (va_up (pB S_743 q_179) (Int32.toNatClampNeg (i1_214)) (some q_735)) := ⟨_, rfl⟩
      rw [← eS_762] at hw
      have ph_763 : Phc S_762 = Phc S + 320 := (show Phc S_762 = Phc S_743 from Ph_sB eS_762).trans ph_755
      have ph_764 : Phs S_762 = Phs S + 604000 := (show Phs S_762 = Phs S_743 from Ph_sB eS_762).trans ph_756
      clear ph_755
      clear ph_756
      have hK_765 : Kq S S_762 x := hK_754.sB hn0_q_179 eS_762
      have hg_766 : GX S_762 := by rw [eS_762]; exact uB_17 hg_745 t_758 (fun q hq => by cases hq; exact ha_746)
      have zn_768 := z_nat (x := i1_214) hz_i1_214 (by omega)
      have sh_767 : ShI S_762 q_179 (i1_214_z + 1) := ShI_step iv_217 hq_735 eS_736 hK_744 eS_762 ik_538.1 (by omega) ha_746 kx_749 kx_751 kx_752 kx_753
      obtain ⟨x_769, ex_769⟩ : ∃ y : Int32, y = i1_214 + 1 := ⟨_, rfl⟩
      have z_770 : x_769.toInt = i1_214_z + 1 := z_add ex_769 hz_i1_214 ti_1 (by omega) (by omega)
      refine lv_iinc (v := x_769) (lv' := [(1, .int (x_769)), (0, .ref x)]) X.1 X.2.1 dX11_init_112 hl (k := 0) rfl (by rw [ex_769]; rfl) (by decide) rfl (fun ls hl => ?_)
      refine lv_goto (tgt := 93) X.1 X.2.1 dX11_init_115 (by decide) ?_
      have t_771 : At S_736 x 191 := by rw [eS_736]; exact At_sO ha_x_L_216 hq_735
      have t_772 : At S_743 x 191 := hK_744.at ha_741 t_771 (by decide)
      have t_773 : At S_762 x 191 := tAt_sB eS_762 t_772
      have t_774 : pI S_736 1102 x = 0 := by rw [eS_736]; exact (pI_sO_ne (ne_of_new hq_735 ha_x_L_216.1)).trans ik_268
      have t_776 : At S_736 x 191 := by rw [eS_736]; exact At_sO ha_x_L_216 hq_735
      have t_775 : pI S_743 1102 x = 0 := (((hK_744 x t_776.1).2 (At_ne t_776 ha_741 (by decide))).2.1 1102).trans t_774
      have t_777 : pI S_762 1102 x = 0 := tI_sB eS_762 t_775
      have t_778 : pI S_736 1104 x = 0 := by rw [eS_736]; exact (pI_sO_ne (ne_of_new hq_735 ha_x_L_216.1)).trans ik_291
      have t_779 : pI S_743 1104 x = 0 := (((hK_744 x t_776.1).2 (At_ne t_776 ha_741 (by decide))).2.1 1104).trans t_778
      have t_780 : pI S_762 1104 x = 0 := tI_sB eS_762 t_779
      have t_781 : pI S_736 801 q_124 = 0 := by rw [eS_736]; exact (pI_sO_ne (ne_of_new hq_735 ik_530.1)).trans ik_302
      have t_783 : At S_736 q_124 8 := by rw [eS_736]; exact At_sO ik_530 hq_735
      have t_782 : pI S_743 801 q_124 = 0 := (((hK_744 q_124 t_783.1).2 (At_ne t_783 ha_741 (by decide))).2.1 801).trans t_781
      have t_784 : pI S_762 801 q_124 = 0 := tI_sB eS_762 t_782
      have t_785 : pI S_736 1000 q_48 = 0 := by rw [eS_736]; exact (pI_sO_ne (ne_of_new hq_735 ik_516.1)).trans ik_325
      have t_787 : At S_736 q_48 10 := by rw [eS_736]; exact At_sO ik_516 hq_735
      have t_786 : pI S_743 1000 q_48 = 0 := (((hK_744 q_48 t_787.1).2 (At_ne t_787 ha_741 (by decide))).2.1 1000).trans t_785
      have t_788 : pI S_762 1000 q_48 = 0 := tI_sB eS_762 t_786
      have t_789 : pI S_736 800 q_124 = 0 := by rw [eS_736]; exact (pI_sO_ne (ne_of_new hq_735 ik_530.1)).trans ik_334
      have t_790 : pI S_743 800 q_124 = 0 := (((hK_744 q_124 t_783.1).2 (At_ne t_783 ha_741 (by decide))).2.1 800).trans t_789
      have t_791 : pI S_762 800 q_124 = 0 := tI_sB eS_762 t_790
      have t_792 : pI S_736 806 q_124 = 0 := by rw [eS_736]; exact (pI_sO_ne (ne_of_new hq_735 ik_530.1)).trans ik_343
      have t_793 : pI S_743 806 q_124 = 0 := (((hK_744 q_124 t_783.1).2 (At_ne t_783 ha_741 (by decide))).2.1 806).trans t_792
      have t_794 : pI S_762 806 q_124 = 0 := tI_sB eS_762 t_793
      have t_795 : pR S_736 1100 x = some q_1 := by rw [eS_736]; exact (pR_sO_ne (ne_of_new hq_735 ha_x_L_216.1)).trans ik_364
      have t_796 : pR S_743 1100 x = some q_1 := (((hK_744 x t_776.1).2 (At_ne t_776 ha_741 (by decide))).2.2.1 1100).trans t_795
      have t_797 : pR S_762 1100 x = some q_1 := tR_sB eS_762 t_796
      have t_798 : At S_736 q_1 36 := by rw [eS_736]; exact At_sO ik_365 hq_735
      have t_799 : At S_743 q_1 36 := hK_744.at ha_741 t_798 (by decide)
      have t_800 : At S_762 q_1 36 := tAt_sB eS_762 t_799
      have t_801 : pN S_736 q_1 = 600 := by rw [eS_736, pN_sO]; exact ik_406
      have t_803 : At S_736 q_1 36 := by rw [eS_736]; exact At_sO ik_365 hq_735
      have t_802 : pN S_743 q_1 = 600 := ((hK_744 q_1 t_803.1).2 (At_ne t_803 ha_741 (by decide))).2.2.2.1.trans t_801
      clear t_801
      have t_804 : pN S_762 q_1 = 600 := tN_sB eS_762 t_802
      clear t_802
      have t_805 : pR S_736 1101 x = some q_16 := by rw [eS_736]; exact (pR_sO_ne (ne_of_new hq_735 ha_x_L_216.1)).trans ik_425
      have t_806 : pR S_743 1101 x = some q_16 := (((hK_744 x t_776.1).2 (At_ne t_776 ha_741 (by decide))).2.2.1 1101).trans t_805
      have t_807 : pR S_762 1101 x = some q_16 := tR_sB eS_762 t_806
      have t_808 : At S_736 q_16 54 := by rw [eS_736]; exact At_sO ik_426 hq_735
      have t_809 : At S_743 q_16 54 := hK_744.at ha_741 t_808 (by decide)
      have t_810 : At S_762 q_16 54 := tAt_sB eS_762 t_809
      have t_811 : pN S_736 q_16 = 10 := by rw [eS_736, pN_sO]; exact ik_463
      have t_813 : At S_736 q_16 54 := by rw [eS_736]; exact At_sO ik_426 hq_735
      have t_812 : pN S_743 q_16 = 10 := ((hK_744 q_16 t_813.1).2 (At_ne t_813 ha_741 (by decide))).2.2.2.1.trans t_811
      clear t_811
      have t_814 : pN S_762 q_16 = 10 := tN_sB eS_762 t_812
      clear t_812
      have t_815 : pR S_736 1103 x = some q_32 := by rw [eS_736]; exact (pR_sO_ne (ne_of_new hq_735 ha_x_L_216.1)).trans ik_480
      have t_816 : pR S_743 1103 x = some q_32 := (((hK_744 x t_776.1).2 (At_ne t_776 ha_741 (by decide))).2.2.1 1103).trans t_815
      have t_817 : pR S_762 1103 x = some q_32 := tR_sB eS_762 t_816
      have t_818 : At S_736 q_32 18 := by rw [eS_736]; exact At_sO ik_481 hq_735
      have t_819 : At S_743 q_32 18 := hK_744.at ha_741 t_818 (by decide)
      have t_820 : At S_762 q_32 18 := tAt_sB eS_762 t_819
      have t_821 : pN S_736 q_32 = 4 := by rw [eS_736, pN_sO]; exact ik_514
      have t_823 : At S_736 q_32 18 := by rw [eS_736]; exact At_sO ik_481 hq_735
      have t_822 : pN S_743 q_32 = 4 := ((hK_744 q_32 t_823.1).2 (At_ne t_823 ha_741 (by decide))).2.2.2.1.trans t_821
      clear t_821
      have t_824 : pN S_762 q_32 = 4 := tN_sB eS_762 t_822
      clear t_822
      have t_825 : pR S_736 1105 x = some q_48 := by rw [eS_736]; exact (pR_sO_ne (ne_of_new hq_735 ha_x_L_216.1)).trans ik_515
      have t_826 : pR S_743 1105 x = some q_48 := (((hK_744 x t_776.1).2 (At_ne t_776 ha_741 (by decide))).2.2.1 1105).trans t_825
      have t_827 : pR S_762 1105 x = some q_48 := tR_sB eS_762 t_826
      have t_828 : At S_743 q_48 10 := hK_744.at ha_741 t_787 (by decide)
      have t_829 : At S_762 q_48 10 := tAt_sB eS_762 t_828
      have t_830 : pR S_736 1106 x = some q_75 := by rw [eS_736]; exact (pR_sO_ne (ne_of_new hq_735 ha_x_L_216.1)).trans ik_527
      have t_831 : pR S_743 1106 x = some q_75 := (((hK_744 x t_776.1).2 (At_ne t_776 ha_741 (by decide))).2.2.1 1106).trans t_830
      have t_832 : pR S_762 1106 x = some q_75 := tR_sB eS_762 t_831
      have t_833 : At S_736 q_75 6 := by rw [eS_736]; exact At_sO ik_528 hq_735
      have t_834 : At S_743 q_75 6 := hK_744.at ha_741 t_833 (by decide)
      have t_835 : At S_762 q_75 6 := tAt_sB eS_762 t_834
      have t_836 : pR S_736 1107 x = some q_124 := by rw [eS_736]; exact (pR_sO_ne (ne_of_new hq_735 ha_x_L_216.1)).trans ik_529
      have t_837 : pR S_743 1107 x = some q_124 := (((hK_744 x t_776.1).2 (At_ne t_776 ha_741 (by decide))).2.2.1 1107).trans t_836
      have t_838 : pR S_762 1107 x = some q_124 := tR_sB eS_762 t_837
      have t_839 : At S_743 q_124 8 := hK_744.at ha_741 t_783 (by decide)
      have t_840 : At S_762 q_124 8 := tAt_sB eS_762 t_839
      have t_841 : pR S_736 1108 x = some q_153 := by rw [eS_736]; exact (pR_sO_ne (ne_of_new hq_735 ha_x_L_216.1)).trans ik_535
      have t_842 : pR S_743 1108 x = some q_153 := (((hK_744 x t_776.1).2 (At_ne t_776 ha_741 (by decide))).2.2.1 1108).trans t_841
      have t_843 : pR S_762 1108 x = some q_153 := tR_sB eS_762 t_842
      have t_844 : At S_736 q_153 1 := by rw [eS_736]; exact At_sO ik_536 hq_735
      have t_845 : At S_743 q_153 1 := hK_744.at ha_741 t_844 (by decide)
      have t_846 : At S_762 q_153 1 := tAt_sB eS_762 t_845
      have t_847 : pR S_736 1109 x = some q_179 := by rw [eS_736]; exact (pR_sO_ne (ne_of_new hq_735 ha_x_L_216.1)).trans ik_537
      have t_848 : pR S_743 1109 x = some q_179 := (((hK_744 x t_776.1).2 (At_ne t_776 ha_741 (by decide))).2.2.1 1109).trans t_847
      have t_849 : pR S_762 1109 x = some q_179 := tR_sB eS_762 t_848
      have t_850 : At S_762 q_179 17 := tAt_sB eS_762 t_758
      have t_851 : pN S_762 q_179 = 16 := tN_sB eS_762 t_760
      clear t_760
      have t_852 : pR S_736 1111 x = some q_195 := by rw [eS_736]; exact (pR_sO_ne (ne_of_new hq_735 ha_x_L_216.1)).trans ik_544
      have t_853 : pR S_743 1111 x = some q_195 := (((hK_744 x t_776.1).2 (At_ne t_776 ha_741 (by decide))).2.2.1 1111).trans t_852
      have t_854 : pR S_762 1111 x = some q_195 := tR_sB eS_762 t_853
      have t_855 : At S_736 q_195 194 := by rw [eS_736]; exact At_sO ik_545 hq_735
      have t_856 : At S_743 q_195 194 := hK_744.at ha_741 t_855 (by decide)
      have t_857 : At S_762 q_195 194 := tAt_sB eS_762 t_856
      have t_858 : pN S_736 q_195 = 60 := by rw [eS_736, pN_sO]; exact ik_547
      have t_860 : At S_736 q_195 194 := by rw [eS_736]; exact At_sO ik_545 hq_735
      have t_859 : pN S_743 q_195 = 60 := ((hK_744 q_195 t_860.1).2 (At_ne t_860 ha_741 (by decide))).2.2.2.1.trans t_858
      clear t_858
      have t_861 : pN S_762 q_195 = 60 := tN_sB eS_762 t_859
      clear t_859
      have t_862 : pR S_736 601 q_75 = some q_94 := by rw [eS_736]; exact (pR_sO_ne (ne_of_new hq_735 ik_528.1)).trans ik_564
      have t_864 : At S_736 q_75 6 := by rw [eS_736]; exact At_sO ik_528 hq_735
      have t_863 : pR S_743 601 q_75 = some q_94 := (((hK_744 q_75 t_864.1).2 (At_ne t_864 ha_741 (by decide))).2.2.1 601).trans t_862
      have t_865 : pR S_762 601 q_75 = some q_94 := tR_sB eS_762 t_863
      have t_866 : At S_736 q_94 134 := by rw [eS_736]; exact At_sO ik_565 hq_735
      have t_867 : At S_743 q_94 134 := hK_744.at ha_741 t_866 (by decide)
      have t_868 : At S_762 q_94 134 := tAt_sB eS_762 t_867
      have t_869 : pN S_736 q_94 = 12 := by rw [eS_736, pN_sO]; exact ik_586
      have t_871 : At S_736 q_94 134 := by rw [eS_736]; exact At_sO ik_565 hq_735
      have t_870 : pN S_743 q_94 = 12 := ((hK_744 q_94 t_871.1).2 (At_ne t_871 ha_741 (by decide))).2.2.2.1.trans t_869
      clear t_869
      have t_872 : pN S_762 q_94 = 12 := tN_sB eS_762 t_870
      clear t_870
      have t_873 : pR S_736 602 q_75 = some q_98 := by rw [eS_736]; exact (pR_sO_ne (ne_of_new hq_735 ik_528.1)).trans ik_598
      have t_874 : pR S_743 602 q_75 = some q_98 := (((hK_744 q_75 t_864.1).2 (At_ne t_864 ha_741 (by decide))).2.2.1 602).trans t_873
      have t_875 : pR S_762 602 q_75 = some q_98 := tR_sB eS_762 t_874
      have t_876 : At S_736 q_98 134 := by rw [eS_736]; exact At_sO ik_599 hq_735
      have t_877 : At S_743 q_98 134 := hK_744.at ha_741 t_876 (by decide)
      have t_878 : At S_762 q_98 134 := tAt_sB eS_762 t_877
      have t_879 : pN S_736 q_98 = 12 := by rw [eS_736, pN_sO]; exact ik_620
      have t_881 : At S_736 q_98 134 := by rw [eS_736]; exact At_sO ik_599 hq_735
      have t_880 : pN S_743 q_98 = 12 := ((hK_744 q_98 t_881.1).2 (At_ne t_881 ha_741 (by decide))).2.2.2.1.trans t_879
      clear t_879
      have t_882 : pN S_762 q_98 = 12 := tN_sB eS_762 t_880
      clear t_880
      have t_883 : pR S_736 604 q_75 = some q_102 := by rw [eS_736]; exact (pR_sO_ne (ne_of_new hq_735 ik_528.1)).trans ik_632
      have t_884 : pR S_743 604 q_75 = some q_102 := (((hK_744 q_75 t_864.1).2 (At_ne t_864 ha_741 (by decide))).2.2.1 604).trans t_883
      have t_885 : pR S_762 604 q_75 = some q_102 := tR_sB eS_762 t_884
      have t_886 : At S_736 q_102 134 := by rw [eS_736]; exact At_sO ik_633 hq_735
      have t_887 : At S_743 q_102 134 := hK_744.at ha_741 t_886 (by decide)
      have t_888 : At S_762 q_102 134 := tAt_sB eS_762 t_887
      have t_889 : pN S_736 q_102 = 48 := by rw [eS_736, pN_sO]; exact ik_654
      have t_891 : At S_736 q_102 134 := by rw [eS_736]; exact At_sO ik_633 hq_735
      have t_890 : pN S_743 q_102 = 48 := ((hK_744 q_102 t_891.1).2 (At_ne t_891 ha_741 (by decide))).2.2.2.1.trans t_889
      clear t_889
      have t_892 : pN S_762 q_102 = 48 := tN_sB eS_762 t_890
      clear t_890
      have t_893 : pR S_736 605 q_75 = some q_106 := by rw [eS_736]; exact (pR_sO_ne (ne_of_new hq_735 ik_528.1)).trans ik_666
      have t_894 : pR S_743 605 q_75 = some q_106 := (((hK_744 q_75 t_864.1).2 (At_ne t_864 ha_741 (by decide))).2.2.1 605).trans t_893
      have t_895 : pR S_762 605 q_75 = some q_106 := tR_sB eS_762 t_894
      have t_896 : At S_736 q_106 134 := by rw [eS_736]; exact At_sO ik_667 hq_735
      have t_897 : At S_743 q_106 134 := hK_744.at ha_741 t_896 (by decide)
      have t_898 : At S_762 q_106 134 := tAt_sB eS_762 t_897
      have t_899 : pN S_736 q_106 = 48 := by rw [eS_736, pN_sO]; exact ik_688
      have t_901 : At S_736 q_106 134 := by rw [eS_736]; exact At_sO ik_667 hq_735
      have t_900 : pN S_743 q_106 = 48 := ((hK_744 q_106 t_901.1).2 (At_ne t_901 ha_741 (by decide))).2.2.2.1.trans t_899
      clear t_899
      have t_902 : pN S_762 q_106 = 48 := tN_sB eS_762 t_900
      clear t_900
      have t_903 : pR S_736 606 q_75 = some q_110 := by rw [eS_736]; exact (pR_sO_ne (ne_of_new hq_735 ik_528.1)).trans ik_700
      have t_904 : pR S_743 606 q_75 = some q_110 := (((hK_744 q_75 t_864.1).2 (At_ne t_864 ha_741 (by decide))).2.2.1 606).trans t_903
      have t_905 : pR S_762 606 q_75 = some q_110 := tR_sB eS_762 t_904
      have t_906 : At S_736 q_110 134 := by rw [eS_736]; exact At_sO ik_701 hq_735
      have t_907 : At S_743 q_110 134 := hK_744.at ha_741 t_906 (by decide)
      have t_908 : At S_762 q_110 134 := tAt_sB eS_762 t_907
      have t_909 : pN S_736 q_110 = 48 := by rw [eS_736, pN_sO]; exact ik_722
      have t_911 : At S_736 q_110 134 := by rw [eS_736]; exact At_sO ik_701 hq_735
      have t_910 : pN S_743 q_110 = 48 := ((hK_744 q_110 t_911.1).2 (At_ne t_911 ha_741 (by decide))).2.2.2.1.trans t_909
      clear t_909
      have t_912 : pN S_762 q_110 = 48 := tN_sB eS_762 t_910
      clear t_910
      exact ih _ (by omega) _ _ _ _ (x_769) (x_769.toInt) (((cc_723 + 1) + 1)) (((nn_724 + 5) + 8)) rfl hw rfl (by omega) t_773 hK_765 hg_766 ph_763 ph_764 (by rw [show x_769.toInt = i1_214_z + 1 by omega]; exact sh_767) t_777 t_780 t_784 t_788 t_791 t_794 t_797 t_800 t_804 t_807 t_810 t_814 t_817 t_820 t_824 t_827 t_829 t_832 t_835 t_838 t_840 t_843 t_846 t_849 t_850 t_851 t_854 t_857 t_861 t_865 t_868 t_872 t_875 t_878 t_882 t_885 t_888 t_892 t_895 t_898 t_902 t_905 t_908 t_912 (by omega) (by omega) (lv_sub hl [0, 1] rfl)
  have t_913 : At S_205 x 191 := tAt_sR eS_205 t_204
  have t_914 : At S_196 q_1 36 := by rw [eS_196]; exact At_sN t_404 hq_195
  have t_915 : At S_205 q_1 36 := tAt_sR eS_205 t_914
  have t_916 : At S_196 q_16 54 := by rw [eS_196]; exact At_sN t_461 hq_195
  have t_917 : At S_205 q_16 54 := tAt_sR eS_205 t_916
  have t_918 : At S_196 q_32 18 := by rw [eS_196]; exact At_sN t_512 hq_195
  have t_919 : At S_205 q_32 18 := tAt_sR eS_205 t_918
  have t_920 : At S_161 q_48 10 := hK_162.at ha_159 t_319 (by decide)
  have t_921 : At S_173 q_48 10 := tAt_sR eS_173 t_920
  have t_922 : At S_180 q_48 10 := by rw [eS_180]; exact At_sN t_921 hq_179
  have t_923 : At S_189 q_48 10 := tAt_sR eS_189 t_922
  have t_924 : At S_196 q_48 10 := by rw [eS_196]; exact At_sN t_923 hq_195
  have t_925 : At S_205 q_48 10 := tAt_sR eS_205 t_924
  have t_926 : At S_161 q_75 6 := hK_162.at ha_159 t_558 (by decide)
  have t_927 : At S_173 q_75 6 := tAt_sR eS_173 t_926
  have t_928 : At S_180 q_75 6 := by rw [eS_180]; exact At_sN t_927 hq_179
  have t_929 : At S_189 q_75 6 := tAt_sR eS_189 t_928
  have t_930 : At S_196 q_75 6 := by rw [eS_196]; exact At_sN t_929 hq_195
  have t_931 : At S_205 q_75 6 := tAt_sR eS_205 t_930
  have t_932 : At S_161 q_124 8 := hK_162.at ha_159 t_296 (by decide)
  have t_933 : At S_173 q_124 8 := tAt_sR eS_173 t_932
  have t_934 : At S_180 q_124 8 := by rw [eS_180]; exact At_sN t_933 hq_179
  have t_935 : At S_189 q_124 8 := tAt_sR eS_189 t_934
  have t_936 : At S_196 q_124 8 := by rw [eS_196]; exact At_sN t_935 hq_195
  have t_937 : At S_205 q_124 8 := tAt_sR eS_205 t_936
  have t_938 : At S_173 q_153 1 := tAt_sR eS_173 ha_164
  have t_939 : At S_180 q_153 1 := by rw [eS_180]; exact At_sN t_938 hq_179
  have t_940 : At S_189 q_153 1 := tAt_sR eS_189 t_939
  have t_941 : At S_196 q_153 1 := by rw [eS_196]; exact At_sN t_940 hq_195
  have t_942 : At S_205 q_153 1 := tAt_sR eS_205 t_941
  have t_943 : At S_196 q_179 17 := by rw [eS_196]; exact At_sN t_541 hq_195
  have t_944 : At S_205 q_179 17 := tAt_sR eS_205 t_943
  have t_945 : At S_205 q_195 194 := tAt_sR eS_205 ha_201
  have t_946 : At S_196 q_94 134 := by rw [eS_196]; exact At_sN t_584 hq_195
  have t_947 : At S_205 q_94 134 := tAt_sR eS_205 t_946
  have t_948 : At S_196 q_98 134 := by rw [eS_196]; exact At_sN t_618 hq_195
  have t_949 : At S_205 q_98 134 := tAt_sR eS_205 t_948
  have t_950 : At S_196 q_102 134 := by rw [eS_196]; exact At_sN t_652 hq_195
  have t_951 : At S_205 q_102 134 := tAt_sR eS_205 t_950
  have t_952 : At S_196 q_106 134 := by rw [eS_196]; exact At_sN t_686 hq_195
  have t_953 : At S_205 q_106 134 := tAt_sR eS_205 t_952
  have t_954 : At S_196 q_110 134 := by rw [eS_196]; exact At_sN t_720 hq_195
  have t_955 : At S_205 q_110 134 := tAt_sR eS_205 t_954
  exact L_213 _ _ _ _ _ (0) (0) (26) (1520) rfl hw ti_0 (by omega) t_913 hK_208 hg_209 ph_206 ph_207 ShI_0 t_267 t_290 t_301 t_324 t_333 t_342 t_363 t_915 t_405 t_424 t_917 t_462 t_479 t_919 t_513 t_243 t_925 t_526 t_931 t_226 t_937 t_534 t_942 t_212 t_944 t_542 h_210 t_945 t_546 t_563 t_947 t_585 t_597 t_949 t_619 t_631 t_951 t_653 t_665 t_953 t_687 t_699 t_955 t_721 (by omega) (by omega) (lv_sub hl [0, 1] rfl)
