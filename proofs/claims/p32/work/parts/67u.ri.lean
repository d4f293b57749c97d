
set_option maxHeartbeats 4000000 in
set_option maxRecDepth 100000 in
theorem k_X8_init6 (l : Launch) (G : va_G) (cy : Nat → ClassId) (κ : Nat → Nat) (S : PS) (sz : Nat) (x : Nat) (hG : GX S) (ha_x : At S x 188) (hzI : ∀ g, pI S g x = 0) (hzR : ∀ g, pR S g x = none) : Cv l yX8_init wsX8_init ({ frames := 3, cells := 9, slots := 214, locals := 144 }) G cy κ S sz [.ref x] (fun (S9 : PS) => Kq S S9 x ∧ GX S9 ∧ At S9 x 8 ∧ Phc S9 = Phc S + 320 ∧ Phs S9 = Phs S + 604000 ∧ pI S9 801 x = 0 ∧ pI S9 800 x = 0 ∧ pI S9 806 x = 0 ∧ pI S9 802 x = 0 ∧ pI S9 803 x = 0 ∧ pI S9 804 x = 0 ∧ pI S9 805 x = 0) := by
  refine ent_m (cc := cX8_init) (maxL := 1) (ret := none) (by decide) rfl (Nat.le_of_ble_eq_true rfl) ?_
  intro p e s m below meth c ls X hr hlocks hin hw hl hsz
  subst hsz
  have X : Cx p c cX8_init 1 s [.ref x].toArray wsX8_init RX8 m G cy κ (AS S s.heap.size) := X
  have hl : lv_has ls 1 [(0, .ref x)] := hl
  have hpc0 : Phc S = Phc S + 0 := rfl
  have hps0 : Phs S = Phs S + 0 := rfl
  have hK : Kq S S x := Kq.rf S _
  refine lv_aload_n X.1 X.2.1 dX8_init_0 rfl (lv_at hl 0 rfl) ?_
  refine W.objInit X.1 X.2.1 X.2.2.2.2.1 (X.2.2.2.1 (.methodLink RX8 3 objectInit) (by decide +kernel)) (X.2.2.2.1 (.instanceMethod objectInit) (by decide +kernel)) (X.2.2.2.1 (.code objectInit ⟨#[0xb1]⟩ 1 none) (by decide +kernel)) rfl (hl.1.trans X.2.2.1.symm) rfl dX8_init_1 (Nat.le_of_ble_eq_true rfl) (Nat.le_of_ble_eq_true rfl) ?_
  refine W.eq (g2 := F0 m 4 ls ([])) rfl ?_
  refine lv_aload_n X.1 X.2.1 dX8_init_4 rfl (lv_at hl 0 rfl) ?_
  refine lv_iconst (v := 4) X.1 X.2.1 dX8_init_5 (by decide) ?_
  refine r_newI (N := 4) X hw 154 4 1 rfl (X.2.2.2.1 (.arrayClass .int) (by decide +kernel)) (z_nn ti_4 (by omega)) (by decide) (by decide) (Nat.le_of_ble_eq_true rfl) (Nat.le_of_ble_eq_true rfl) (Nat.le_of_ble_eq_true rfl) (Nat.le_of_ble_eq_true rfl) dX8_init_6 (fun q_1 H hq_1 hw => ?_)
  obtain ⟨S_2, eS_2⟩ : ∃ T, T = sN S q_1 154 4 := ⟨_, rfl⟩
  rw [← eS_2] at hw
  have ph_3 : Phc S_2 = Phc S + 0 := (show Phc S_2 = Phc S from Ph_sN' hG.ci hq_1 eS_2 (by decide)).trans hpc0
  have ph_4 : Phs S_2 = Phs S + 0 := (show Phs S_2 = Phs S from Ph_sN' hG.ci hq_1 eS_2 (by decide)).trans hps0
  clear hpc0
  clear hps0
  have hK_5 : Kq S S_2 x := hK.sN hq_1 eS_2
  have hg_6 : GX S_2 := by rw [eS_2]; exact GX_N hG hq_1 (by decide +kernel)
  have hn0_q_1 := hK.new hq_1
  have ha_7 : At S_2 q_1 154 := by rw [eS_2]; exact At_nN _ _ _ _
  have hn_8 : pN S_2 q_1 = 4 := by rw [eS_2]; exact pN_sN_new
  refine lv_dup X.1 X.2.1 dX8_init_8 rfl ?_
  refine lv_iconst (v := 0) X.1 X.2.1 dX8_init_9 (by decide) ?_
  refine lv_bipush (v := 100) X.1 X.2.1 dX8_init_10 (by decide) ?_
  refine r_iast X hw ha_7 rfl (by rw [hn_8]; exact z_ix ti_0 (by omega) (by omega)) dX8_init_12 (fun H locs hw => ?_)
  obtain ⟨S_9, eS_9⟩ : ∃ T, T = sA S_2 q_1 (upd (pA S_2 q_1) (Int32.toNatClampNeg (0)) (100)) := ⟨_, rfl⟩
  rw [← eS_9] at hw
  have ph_10 : Phc S_9 = Phc S + 0 := (show Phc S_9 = Phc S_2 from Ph_sA eS_9).trans ph_3
  have ph_11 : Phs S_9 = Phs S + 0 := (show Phs S_9 = Phs S_2 from Ph_sA eS_9).trans ph_4
  clear ph_3
  clear ph_4
  have hK_12 : Kq S S_9 x := hK_5.sA hn0_q_1 eS_9
  have hg_13 : GX S_9 := by rw [eS_9]; exact uA_154 hg_6 ha_7
  have h_14 : pA S_9 q_1 (Int32.toNatClampNeg (0)) = 100 := tA_sAs eS_9
  refine lv_dup X.1 X.2.1 dX8_init_13 rfl ?_
  refine lv_iconst (v := 1) X.1 X.2.1 dX8_init_14 (by decide) ?_
  refine lv_bipush (v := 80) X.1 X.2.1 dX8_init_15 (by decide) ?_
  have t_15 : At S_9 q_1 154 := tAt_sA eS_9 ha_7
  have t_16 : pN S_9 q_1 = 4 := tN_sA eS_9 hn_8
  clear hn_8
  refine r_iast X hw t_15 rfl (by rw [t_16]; exact z_ix ti_1 (by omega) (by omega)) dX8_init_17 (fun H locs hw => ?_)
  obtain ⟨S_17, eS_17⟩ : ∃ T, T = sA S_9 q_1 (upd (pA S_9 q_1) (Int32.toNatClampNeg (1)) (80)) := ⟨_, rfl⟩
  rw [← eS_17] at hw
  have ph_18 : Phc S_17 = Phc S + 0 := (show Phc S_17 = Phc S_9 from Ph_sA eS_17).trans ph_10
  have ph_19 : Phs S_17 = Phs S + 0 := (show Phs S_17 = Phs S_9 from Ph_sA eS_17).trans ph_11
  clear ph_10
  clear ph_11
  have hK_20 : Kq S S_17 x := hK_12.sA hn0_q_1 eS_17
  have hg_21 : GX S_17 := by rw [eS_17]; exact uA_154 hg_13 t_15
  have h_22 : pA S_17 q_1 (Int32.toNatClampNeg (1)) = 80 := tA_sAs eS_17
  refine lv_dup X.1 X.2.1 dX8_init_18 rfl ?_
  refine lv_iconst (v := 2) X.1 X.2.1 dX8_init_19 (by decide) ?_
  refine lv_bipush (v := 50) X.1 X.2.1 dX8_init_20 (by decide) ?_
  have t_23 : At S_17 q_1 154 := tAt_sA eS_17 t_15
  have t_24 : pN S_17 q_1 = 4 := tN_sA eS_17 t_16
  clear t_16
  refine r_iast X hw t_23 rfl (by rw [t_24]; exact z_ix ti_2 (by omega) (by omega)) dX8_init_22 (fun H locs hw => ?_)
  obtain ⟨S_25, eS_25⟩ : ∃ T, T = sA S_17 q_1 (upd (pA S_17 q_1) (Int32.toNatClampNeg (2)) (50)) := ⟨_, rfl⟩
  rw [← eS_25] at hw
  have ph_26 : Phc S_25 = Phc S + 0 := (show Phc S_25 = Phc S_17 from Ph_sA eS_25).trans ph_18
  have ph_27 : Phs S_25 = Phs S + 0 := (show Phs S_25 = Phs S_17 from Ph_sA eS_25).trans ph_19
  clear ph_18
  clear ph_19
  have hK_28 : Kq S S_25 x := hK_20.sA hn0_q_1 eS_25
  have hg_29 : GX S_25 := by rw [eS_25]; exact uA_154 hg_21 t_23
  have h_30 : pA S_25 q_1 (Int32.toNatClampNeg (2)) = 50 := tA_sAs eS_25
  refine lv_dup X.1 X.2.1 dX8_init_23 rfl ?_
  refine lv_iconst (v := 3) X.1 X.2.1 dX8_init_24 (by decide) ?_
  refine lv_bipush (v := 20) X.1 X.2.1 dX8_init_25 (by decide) ?_
  have t_31 : At S_25 q_1 154 := tAt_sA eS_25 t_23
  have t_32 : pN S_25 q_1 = 4 := tN_sA eS_25 t_24
  clear t_24
  refine r_iast X hw t_31 rfl (by rw [t_32]; exact z_ix ti_3 (by omega) (by omega)) dX8_init_27 (fun H locs hw => ?_)
  obtain ⟨S_33, eS_33⟩ : ∃ T, T = sA S_25 q_1 (upd (pA S_25 q_1) (Int32.toNatClampNeg (3)) (20)) := ⟨_, rfl⟩
  rw [← eS_33] at hw
  have ph_34 : Phc S_33 = Phc S + 0 := (show Phc S_33 = Phc S_25 from Ph_sA eS_33).trans ph_26
  have ph_35 : Phs S_33 = Phs S + 0 := (show Phs S_33 = Phs S_25 from Ph_sA eS_33).trans ph_27
  clear ph_26
  clear ph_27
  have hK_36 : Kq S S_33 x := hK_28.sA hn0_q_1 eS_33
  have hg_37 : GX S_33 := by rw [eS_33]; exact uA_154 hg_29 t_31
  have h_38 : pA S_33 q_1 (Int32.toNatClampNeg (3)) = 20 := tA_sAs eS_33
  have t_39 : At S_2 x 188 := by rw [eS_2]; exact At_sN ha_x hq_1
  have t_40 : At S_9 x 188 := tAt_sA eS_9 t_39
  have t_41 : At S_17 x 188 := tAt_sA eS_17 t_40
  have t_42 : At S_25 x 188 := tAt_sA eS_25 t_41
  have t_43 : At S_33 x 188 := tAt_sA eS_33 t_42
  have t_44 : At S_33 q_1 154 := tAt_sA eS_33 t_31
  refine r_putR X hw t_43 rfl 7 807 (some q_1) rfl tyX8 (by decide) rfl inn_X8_init_8 tyX8_ok nmX8 (by decide) (X.2.2.2.1 (.fieldLink RX8 9 "SilkMill$Store" "prices" "[I") (by decide +kernel)) rfl (Or.inr ⟨rfl, hin, rfl⟩) (fun _ => rfl) rfl (fun _ => rfl) rfl (Nat.le_of_ble_eq_true rfl) (st_807 _ _) dX8_init_28 (fun H locs hw => ?_)
  obtain ⟨S_45, eS_45⟩ : ∃ T, T = sR S_33 807 x (some q_1) := ⟨_, rfl⟩
  rw [← eS_45] at hw
  have ph_46 : Phc S_45 = Phc S + 0 := (show Phc S_45 = Phc S_33 from Ph_rawR t_43 (by decide) eS_45).trans ph_34
  have ph_47 : Phs S_45 = Phs S + 0 := (show Phs S_45 = Phs S_33 from Ph_rawR t_43 (by decide) eS_45).trans ph_35
  clear ph_34
  clear ph_35
  have hK_48 : Kq S S_45 x := hK_36.sR eS_45
  have hg_49 : GX S_45 := by rw [eS_45]; exact GX_rawR hg_37 t_43 (by decide +kernel)
  have h_50 : pR S_45 807 x = some q_1 := tR_sRs eS_45
  refine lv_aload_n X.1 X.2.1 dX8_init_31 rfl (lv_at hl 0 rfl) ?_
  refine lv_bipush (v := 40) X.1 X.2.1 dX8_init_32 (by decide) ?_
  refine r_newQ (N := 40) (C := RX7) X hw 19 19 44 2 rfl (by decide) rfl (X.2.2.2.1 (.classLink RX8 15 RX7) (by decide +kernel)) X.2.2.2.2.2.2.2.1.1.2.2.2 (z_nn ti_40 (by omega)) (by decide) (by decide) (Nat.le_of_ble_eq_true rfl) (Nat.le_of_ble_eq_true rfl) (Nat.le_of_ble_eq_true rfl) (Nat.le_of_ble_eq_true rfl) dX8_init_34 (fun q_51 H hq_51 hw => ?_)
  obtain ⟨S_52, eS_52⟩ : ∃ T, T = sN S_45 q_51 19 40 := ⟨_, rfl⟩
  rw [← eS_52] at hw
  have ph_53 : Phc S_52 = Phc S + 0 := (show Phc S_52 = Phc S_45 from Ph_sN' hg_49.ci hq_51 eS_52 (by decide)).trans ph_46
  have ph_54 : Phs S_52 = Phs S + 0 := (show Phs S_52 = Phs S_45 from Ph_sN' hg_49.ci hq_51 eS_52 (by decide)).trans ph_47
  clear ph_46
  clear ph_47
  have hK_55 : Kq S S_52 x := hK_48.sN hq_51 eS_52
  have hg_56 : GX S_52 := by rw [eS_52]; exact GX_N hg_49 hq_51 (by decide +kernel)
  have hn0_q_51 := hK_48.new hq_51
  have ha_57 : At S_52 q_51 19 := by rw [eS_52]; exact At_nN _ _ _ _
  have hn_58 : pN S_52 q_51 = 40 := by rw [eS_52]; exact pN_sN_new
  have t_59 : At S_45 x 188 := tAt_sR eS_45 t_43
  have t_60 : At S_52 x 188 := by rw [eS_52]; exact At_sN t_59 hq_51
  refine r_putR X hw t_60 rfl 8 808 (some q_51) rfl tyX8 (by decide) rfl inn_X8_init_8 tyX8_ok nmX8 (by decide) (X.2.2.2.1 (.fieldLink RX8 17 "SilkMill$Store" "skeins" "[LSilkMill$Skein;") (by decide +kernel)) rfl (Or.inr ⟨rfl, hin, rfl⟩) (fun _ => rfl) rfl (fun _ => rfl) rfl (Nat.le_of_ble_eq_true rfl) (st_808 _ _) dX8_init_37 (fun H locs hw => ?_)
  obtain ⟨S_61, eS_61⟩ : ∃ T, T = sR S_52 808 x (some q_51) := ⟨_, rfl⟩
  rw [← eS_61] at hw
  have ph_62 : Phc S_61 = Phc S + 0 := (show Phc S_61 = Phc S_52 from Ph_rawR t_60 (by decide) eS_61).trans ph_53
  have ph_63 : Phs S_61 = Phs S + 0 := (show Phs S_61 = Phs S_52 from Ph_rawR t_60 (by decide) eS_61).trans ph_54
  clear ph_53
  clear ph_54
  have hK_64 : Kq S S_61 x := hK_55.sR eS_61
  have hg_65 : GX S_61 := by rw [eS_61]; exact GX_rawR hg_56 t_60 (by decide +kernel)
  have h_66 : pR S_61 808 x = some q_51 := tR_sRs eS_61
  refine lv_aload_n X.1 X.2.1 dX8_init_40 rfl (lv_at hl 0 rfl) ?_
  refine lv_bipush (v := 40) X.1 X.2.1 dX8_init_41 (by decide) ?_
  refine r_newI (N := 40) X hw 1674 84 3 rfl (X.2.2.2.1 (.arrayClass .int) (by decide +kernel)) (z_nn ti_40 (by omega)) (by decide) (by decide) (Nat.le_of_ble_eq_true rfl) (Nat.le_of_ble_eq_true rfl) (Nat.le_of_ble_eq_true rfl) (Nat.le_of_ble_eq_true rfl) dX8_init_43 (fun q_67 H hq_67 hw => ?_)
  obtain ⟨S_68, eS_68⟩ : ∃ T, T = sN S_61 q_67 1674 40 := ⟨_, rfl⟩
  rw [← eS_68] at hw
  have ph_69 : Phc S_68 = Phc S + 0 := (show Phc S_68 = Phc S_61 from Ph_sN' hg_65.ci hq_67 eS_68 (by decide)).trans ph_62
  have ph_70 : Phs S_68 = Phs S + 0 := (show Phs S_68 = Phs S_61 from Ph_sN' hg_65.ci hq_67 eS_68 (by decide)).trans ph_63
  clear ph_62
  clear ph_63
  have hK_71 : Kq S S_68 x := hK_64.sN hq_67 eS_68
  have hg_72 : GX S_68 := by rw [eS_68]; exact GX_N hg_65 hq_67 (by decide +kernel)
  have hn0_q_67 := hK_64.new hq_67
  have ha_73 : At S_68 q_67 1674 := by rw [eS_68]; exact At_nN _ _ _ _
  have hn_74 : pN S_68 q_67 = 40 := by rw [eS_68]; exact pN_sN_new
  have t_75 : At S_61 x 188 := tAt_sR eS_61 t_60
  have t_76 : At S_68 x 188 := by rw [eS_68]; exact At_sN t_75 hq_67
  refine r_putR X hw t_76 rfl 9 809 (some q_67) rfl tyX8 (by decide) rfl inn_X8_init_8 tyX8_ok nmX8 (by decide) (X.2.2.2.1 (.fieldLink RX8 21 "SilkMill$Store" "faultSkeins" "[I") (by decide +kernel)) rfl (Or.inr ⟨rfl, hin, rfl⟩) (fun _ => rfl) rfl (fun _ => rfl) rfl (Nat.le_of_ble_eq_true rfl) (st_809 _ _) dX8_init_45 (fun H locs hw => ?_)
  obtain ⟨S_77, eS_77⟩ : ∃ T, T = sR S_68 809 x (some q_67) := ⟨_, rfl⟩
  rw [← eS_77] at hw
  have ph_78 : Phc S_77 = Phc S + 0 := (show Phc S_77 = Phc S_68 from Ph_rawR t_76 (by decide) eS_77).trans ph_69
  have ph_79 : Phs S_77 = Phs S + 0 := (show Phs S_77 = Phs S_68 from Ph_rawR t_76 (by decide) eS_77).trans ph_70
  clear ph_69
  clear ph_70
  have hK_80 : Kq S S_77 x := hK_71.sR eS_77
  have hg_81 : GX S_77 := by rw [eS_77]; exact GX_rawR hg_72 t_76 (by decide +kernel)
  have h_82 : pR S_77 809 x = some q_67 := tR_sRs eS_77
  refine lv_aload_n X.1 X.2.1 dX8_init_48 rfl (lv_at hl 0 rfl) ?_
  refine lv_bipush (v := 40) X.1 X.2.1 dX8_init_49 (by decide) ?_
  refine r_newI (N := 40) X hw 1694 124 4 rfl (X.2.2.2.1 (.arrayClass .int) (by decide +kernel)) (z_nn ti_40 (by omega)) (by decide) (by decide) (Nat.le_of_ble_eq_true rfl) (Nat.le_of_ble_eq_true rfl) (Nat.le_of_ble_eq_true rfl) (Nat.le_of_ble_eq_true rfl) dX8_init_51 (fun q_83 H hq_83 hw => ?_)
  obtain ⟨S_84, eS_84⟩ : ∃ T, T = sN S_77 q_83 1694 40 := ⟨_, rfl⟩
  rw [← eS_84] at hw
  have ph_85 : Phc S_84 = Phc S + 0 := (show Phc S_84 = Phc S_77 from Ph_sN' hg_81.ci hq_83 eS_84 (by decide)).trans ph_78
  have ph_86 : Phs S_84 = Phs S + 0 := (show Phs S_84 = Phs S_77 from Ph_sN' hg_81.ci hq_83 eS_84 (by decide)).trans ph_79
  clear ph_78
  clear ph_79
  have hK_87 : Kq S S_84 x := hK_80.sN hq_83 eS_84
  have hg_88 : GX S_84 := by rw [eS_84]; exact GX_N hg_81 hq_83 (by decide +kernel)
  have hn0_q_83 := hK_80.new hq_83
  have ha_89 : At S_84 q_83 1694 := by rw [eS_84]; exact At_nN _ _ _ _
  have hn_90 : pN S_84 q_83 = 40 := by rw [eS_84]; exact pN_sN_new
  have t_91 : At S_77 x 188 := tAt_sR eS_77 t_76
  have t_92 : At S_84 x 188 := by rw [eS_84]; exact At_sN t_91 hq_83
  refine r_putR X hw t_92 rfl 10 810 (some q_83) rfl tyX8 (by decide) rfl inn_X8_init_8 tyX8_ok nmX8 (by decide) (X.2.2.2.1 (.fieldLink RX8 24 "SilkMill$Store" "faultDays" "[I") (by decide +kernel)) rfl (Or.inr ⟨rfl, hin, rfl⟩) (fun _ => rfl) rfl (fun _ => rfl) rfl (Nat.le_of_ble_eq_true rfl) (st_810 _ _) dX8_init_53 (fun H locs hw => ?_)
  obtain ⟨S_93, eS_93⟩ : ∃ T, T = sR S_84 810 x (some q_83) := ⟨_, rfl⟩
  rw [← eS_93] at hw
  have ph_94 : Phc S_93 = Phc S + 0 := (show Phc S_93 = Phc S_84 from Ph_rawR t_92 (by decide) eS_93).trans ph_85
  have ph_95 : Phs S_93 = Phs S + 0 := (show Phs S_93 = Phs S_84 from Ph_rawR t_92 (by decide) eS_93).trans ph_86
  clear ph_85
  clear ph_86
  have hK_96 : Kq S S_93 x := hK_87.sR eS_93
  have hg_97 : GX S_93 := by rw [eS_93]; exact GX_rawR hg_88 t_92 (by decide +kernel)
  have h_98 : pR S_93 810 x = some q_83 := tR_sRs eS_93
  refine lv_aload_n X.1 X.2.1 dX8_init_56 rfl (lv_at hl 0 rfl) ?_
  refine lv_bipush (v := 40) X.1 X.2.1 dX8_init_57 (by decide) ?_
  refine r_newI (N := 40) X hw 1714 164 5 rfl (X.2.2.2.1 (.arrayClass .int) (by decide +kernel)) (z_nn ti_40 (by omega)) (by decide) (by decide) (Nat.le_of_ble_eq_true rfl) (Nat.le_of_ble_eq_true rfl) (Nat.le_of_ble_eq_true rfl) (Nat.le_of_ble_eq_true rfl) dX8_init_59 (fun q_99 H hq_99 hw => ?_)
  obtain ⟨S_100, eS_100⟩ : ∃ T, T = sN S_93 q_99 1714 40 := ⟨_, rfl⟩
  rw [← eS_100] at hw
  have ph_101 : Phc S_100 = Phc S + 0 := (show Phc S_100 = Phc S_93 from Ph_sN' hg_97.ci hq_99 eS_100 (by decide)).trans ph_94
  have ph_102 : Phs S_100 = Phs S + 0 := (show Phs S_100 = Phs S_93 from Ph_sN' hg_97.ci hq_99 eS_100 (by decide)).trans ph_95
  clear ph_94
  clear ph_95
  have hK_103 : Kq S S_100 x := hK_96.sN hq_99 eS_100
  have hg_104 : GX S_100 := by rw [eS_100]; exact GX_N hg_97 hq_99 (by decide +kernel)
  have hn0_q_99 := hK_96.new hq_99
  have ha_105 : At S_100 q_99 1714 := by rw [eS_100]; exact At_nN _ _ _ _
  have hn_106 : pN S_100 q_99 = 40 := by rw [eS_100]; exact pN_sN_new
  have t_107 : At S_93 x 188 := tAt_sR eS_93 t_92
  have t_108 : At S_100 x 188 := by rw [eS_100]; exact At_sN t_107 hq_99
  refine r_putR X hw t_108 rfl 11 811 (some q_99) rfl tyX8 (by decide) rfl inn_X8_init_8 tyX8_ok nmX8 (by decide) (X.2.2.2.1 (.fieldLink RX8 27 "SilkMill$Store" "faultAmounts" "[I") (by decide +kernel)) rfl (Or.inr ⟨rfl, hin, rfl⟩) (fun _ => rfl) rfl (fun _ => rfl) rfl (Nat.le_of_ble_eq_true rfl) (st_811 _ _) dX8_init_61 (fun H locs hw => ?_)
  obtain ⟨S_109, eS_109⟩ : ∃ T, T = sR S_100 811 x (some q_99) := ⟨_, rfl⟩
  rw [← eS_109] at hw
  have ph_110 : Phc S_109 = Phc S + 0 := (show Phc S_109 = Phc S_100 from Ph_rawR t_108 (by decide) eS_109).trans ph_101
  have ph_111 : Phs S_109 = Phs S + 0 := (show Phs S_109 = Phs S_100 from Ph_rawR t_108 (by decide) eS_109).trans ph_102
  clear ph_101
  clear ph_102
  have hK_112 : Kq S S_109 x := hK_103.sR eS_109
  have hg_113 : GX S_109 := by rw [eS_109]; exact GX_rawR hg_104 t_108 (by decide +kernel)
  have h_114 : pR S_109 811 x = some q_99 := tR_sRs eS_109
  refine lv_aload_n X.1 X.2.1 dX8_init_64 rfl (lv_at hl 0 rfl) ?_
  refine r_new X hw 182 2 172 6 rfl tyX2 (by decide) rfl inn_X8_init_2 tyX2_ok (X.2.2.2.1 (.classLink RX8 30 RX2) (by decide +kernel)) (X.2.2.2.1 (.instantiable RX2 8) (by decide +kernel)) (X.2.2.2.1 (.initialized RX2) (by decide +kernel)) (zo_2 _) zd_2 (Nat.le_of_ble_eq_true rfl) (Nat.le_of_ble_eq_true rfl) (Nat.le_of_ble_eq_true rfl) (Nat.le_of_ble_eq_true rfl) dX8_init_65 (fun q_115 H hq_115 hw => ?_)
  obtain ⟨S_116, eS_116⟩ : ∃ T, T = sO S_109 q_115 182 := ⟨_, rfl⟩
  rw [← eS_116] at hw
  have ph_117 : Phc S_116 = Phc S + 0 := (show Phc S_116 = Phc S_109 from Ph_sO hg_113 hq_115 eS_116 (by decide)).trans ph_110
  have ph_118 : Phs S_116 = Phs S + 0 := (show Phs S_116 = Phs S_109 from Ph_sO hg_113 hq_115 eS_116 (by decide)).trans ph_111
  clear ph_110
  clear ph_111
  have hK_119 : Kq S S_116 x := hK_112.sO hq_115 eS_116
  have hg_120 : GX S_116 := by rw [eS_116]; exact GX_O hg_113 hq_115 (by decide +kernel)
  have hn0_q_115 := hK_112.new hq_115
  have ha_121 : At S_116 q_115 182 := by rw [eS_116]; exact At_nO _ _ _
  have hzI_q_115 : ∀ g, pI S_116 g q_115 = 0 := fun g => by rw [eS_116]; exact pI_sO_new
  have hzR_q_115 : ∀ g, pR S_116 g q_115 = none := fun g => by rw [eS_116]; exact if_pos rfl
  refine lv_dup X.1 X.2.1 dX8_init_68 rfl ?_
  refine k_v (rm := { frames := 2, cells := 3, slots := 42, locals := 96 }) (av := [.ref q_115]) X hw (va_runIN (As := []) (rest := [.ref q_115, .ref x]) (cfix X) (k_X2_init l G cy κ S_116 _ q_115 hg_120 ha_121 hzI_q_115 hzR_q_115) ⟨(va_cnB (host := RX11) 0 X.2.2.2.1 gX8_init_X2_init_n32 rfl rfl rfl (X.2.2.2.2.2.2.2.1.2.1 (RX8, 32, yX2_init) (by decide +kernel)) (X.2.2.2.1 (.initialized RX2) (by decide +kernel)) (by decide +kernel) ⟨Nat.le_of_ble_eq_true rfl, Nat.le_of_ble_eq_true rfl⟩), rfl, (X.2.2.2.1 (.instanceMethod yX2_init) (by decide +kernel))⟩ (pre_S X hw _) rfl rfl hl.1 rfl (lv_room (Nat.le_of_ble_eq_true rfl)) dX8_init_69 ⟨Nat.le_of_ble_eq_true rfl, Nat.le_of_ble_eq_true rfl⟩) 9 214 (Nat.le_of_ble_eq_true rfl) (Nat.le_of_ble_eq_true rfl) (fun S_123 H locs hp hw hfr hnw => ?_)
  obtain ⟨hK_124, hg_125, ha_126, ph_127, ph_128⟩ := hp
  have hK_129 : Kq S S_123 x := hK_119.sub hn0_q_115 hK_124
  have ph_130 : Phc S_123 = Phc S + 0 := by omega
  have ph_131 : Phs S_123 = Phs S + 0 := by omega
  clear ph_117
  clear ph_118
  clear ph_127
  clear ph_128
  have t_132 : At S_109 x 188 := tAt_sR eS_109 t_108
  have t_133 : At S_116 x 188 := by rw [eS_116]; exact At_sO t_132 hq_115
  have t_134 : At S_123 x 188 := hK_124.at ha_121 t_133 (by decide)
  refine r_putR X hw t_134 rfl 12 812 (some q_115) rfl tyX8 (by decide) rfl inn_X8_init_8 tyX8_ok nmX8 (by decide) (X.2.2.2.1 (.fieldLink RX8 33 "SilkMill$Store" "mixer" "LSilkMill$Mixer;") (by decide +kernel)) rfl (Or.inr ⟨rfl, hin, rfl⟩) (fun _ => rfl) rfl (fun _ => rfl) rfl (Nat.le_of_ble_eq_true rfl) (st_812 _ _) dX8_init_72 (fun H locs hw => ?_)
  obtain ⟨S_135, eS_135⟩ : ∃ T, T = sR S_123 812 x (some q_115) := ⟨_, rfl⟩
  rw [← eS_135] at hw
  have ph_136 : Phc S_135 = Phc S + 0 := (show Phc S_135 = Phc S_123 from Ph_rawR t_134 (by decide) eS_135).trans ph_130
  have ph_137 : Phs S_135 = Phs S + 0 := (show Phs S_135 = Phs S_123 from Ph_rawR t_134 (by decide) eS_135).trans ph_131
  clear ph_130
  clear ph_131
  have hK_138 : Kq S S_135 x := hK_129.sR eS_135
  have hg_139 : GX S_135 := by rw [eS_135]; exact GX_rawR hg_125 t_134 (by decide +kernel)
  have h_140 : pR S_135 812 x = some q_115 := tR_sRs eS_135
  have t_141 : At S_135 x 188 := tAt_sR eS_135 t_134
  have nd_142 := nodup_of hw
  have t_143 : pI S_2 800 x = 0 := by rw [eS_2, pI_sN]; exact (hzI 800)
  have t_144 : pI S_9 800 x = 0 := tI_sA eS_9 t_143
  have t_145 : pI S_17 800 x = 0 := tI_sA eS_17 t_144
  have t_146 : pI S_25 800 x = 0 := tI_sA eS_25 t_145
  have t_147 : pI S_33 800 x = 0 := tI_sA eS_33 t_146
  have t_148 : pI S_45 800 x = 0 := tI_sR eS_45 t_147
  have t_149 : pI S_52 800 x = 0 := by rw [eS_52, pI_sN]; exact t_148
  have t_150 : pI S_61 800 x = 0 := tI_sR eS_61 t_149
  have t_151 : pI S_68 800 x = 0 := by rw [eS_68, pI_sN]; exact t_150
  have t_152 : pI S_77 800 x = 0 := tI_sR eS_77 t_151
  have t_153 : pI S_84 800 x = 0 := by rw [eS_84, pI_sN]; exact t_152
  have t_154 : pI S_93 800 x = 0 := tI_sR eS_93 t_153
  have t_155 : pI S_100 800 x = 0 := by rw [eS_100, pI_sN]; exact t_154
  have t_156 : pI S_109 800 x = 0 := tI_sR eS_109 t_155
  have t_158 : At S_109 x 188 := tAt_sR eS_109 t_108
  have t_157 : pI S_116 800 x = 0 := by rw [eS_116]; exact (pI_sO_ne (ne_of_new hq_115 t_158.1)).trans t_156
  have t_160 : At S_116 x 188 := by rw [eS_116]; exact At_sO t_158 hq_115
  have t_159 : pI S_123 800 x = 0 := (((hK_124 x t_160.1).2 (At_ne t_160 ha_121 (by decide))).2.1 800).trans t_157
  have t_161 : pI S_135 800 x = 0 := tI_sR eS_135 t_159
  have t_162 : pI S_2 806 x = 0 := by rw [eS_2, pI_sN]; exact (hzI 806)
  have t_163 : pI S_9 806 x = 0 := tI_sA eS_9 t_162
  have t_164 : pI S_17 806 x = 0 := tI_sA eS_17 t_163
  have t_165 : pI S_25 806 x = 0 := tI_sA eS_25 t_164
  have t_166 : pI S_33 806 x = 0 := tI_sA eS_33 t_165
  have t_167 : pI S_45 806 x = 0 := tI_sR eS_45 t_166
  have t_168 : pI S_52 806 x = 0 := by rw [eS_52, pI_sN]; exact t_167
  have t_169 : pI S_61 806 x = 0 := tI_sR eS_61 t_168
  have t_170 : pI S_68 806 x = 0 := by rw [eS_68, pI_sN]; exact t_169
  have t_171 : pI S_77 806 x = 0 := tI_sR eS_77 t_170
  have t_172 : pI S_84 806 x = 0 := by rw [eS_84, pI_sN]; exact t_171
  have t_173 : pI S_93 806 x = 0 := tI_sR eS_93 t_172
  have t_174 : pI S_100 806 x = 0 := by rw [eS_100, pI_sN]; exact t_173
  have t_175 : pI S_109 806 x = 0 := tI_sR eS_109 t_174
  have t_176 : pI S_116 806 x = 0 := by rw [eS_116]; exact (pI_sO_ne (ne_of_new hq_115 t_158.1)).trans t_175
  have t_177 : pI S_123 806 x = 0 := (((hK_124 x t_160.1).2 (At_ne t_160 ha_121 (by decide))).2.1 806).trans t_176
  have t_178 : pI S_135 806 x = 0 := tI_sR eS_135 t_177
  have t_179 : pR S_52 807 x = some q_1 := by rw [eS_52, pR_sN]; exact h_50
  have t_180 : pR S_61 807 x = some q_1 := tR_sR eS_61 rfl t_179
  have t_181 : pR S_68 807 x = some q_1 := by rw [eS_68, pR_sN]; exact t_180
  have t_182 : pR S_77 807 x = some q_1 := tR_sR eS_77 rfl t_181
  have t_183 : pR S_84 807 x = some q_1 := by rw [eS_84, pR_sN]; exact t_182
  have t_184 : pR S_93 807 x = some q_1 := tR_sR eS_93 rfl t_183
  have t_185 : pR S_100 807 x = some q_1 := by rw [eS_100, pR_sN]; exact t_184
  have t_186 : pR S_109 807 x = some q_1 := tR_sR eS_109 rfl t_185
  have t_187 : pR S_116 807 x = some q_1 := by rw [eS_116]; exact (pR_sO_ne (ne_of_new hq_115 t_158.1)).trans t_186
  have t_188 : pR S_123 807 x = some q_1 := (((hK_124 x t_160.1).2 (At_ne t_160 ha_121 (by decide))).2.2.1 807).trans t_187
  have t_189 : pR S_135 807 x = some q_1 := tR_sR eS_135 rfl t_188
  have t_190 : At S_45 q_1 154 := tAt_sR eS_45 t_44
  have t_191 : At S_52 q_1 154 := by rw [eS_52]; exact At_sN t_190 hq_51
  have t_192 : At S_61 q_1 154 := tAt_sR eS_61 t_191
  have t_193 : At S_68 q_1 154 := by rw [eS_68]; exact At_sN t_192 hq_67
  have t_194 : At S_77 q_1 154 := tAt_sR eS_77 t_193
  have t_195 : At S_84 q_1 154 := by rw [eS_84]; exact At_sN t_194 hq_83
  have t_196 : At S_93 q_1 154 := tAt_sR eS_93 t_195
  have t_197 : At S_100 q_1 154 := by rw [eS_100]; exact At_sN t_196 hq_99
  have t_198 : At S_109 q_1 154 := tAt_sR eS_109 t_197
  have t_199 : At S_116 q_1 154 := by rw [eS_116]; exact At_sO t_198 hq_115
  have t_200 : At S_123 q_1 154 := hK_124.at ha_121 t_199 (by decide)
  have t_201 : At S_135 q_1 154 := tAt_sR eS_135 t_200
  have t_202 : pN S_33 q_1 = 4 := tN_sA eS_33 t_32
  clear t_32
  have t_203 : pN S_45 q_1 = 4 := tN_sR eS_45 t_202
  clear t_202
  have t_205 : At S_45 q_1 154 := tAt_sR eS_45 t_44
  have t_204 : pN S_52 q_1 = 4 := by rw [eS_52]; exact (pN_sN_ne (ne_of_new hq_51 t_205.1)).trans t_203
  clear t_203
  have t_206 : pN S_61 q_1 = 4 := tN_sR eS_61 t_204
  clear t_204
  have t_208 : At S_52 q_1 154 := by rw [eS_52]; exact At_sN t_205 hq_51
  have t_209 : At S_61 q_1 154 := tAt_sR eS_61 t_208
  have t_207 : pN S_68 q_1 = 4 := by rw [eS_68]; exact (pN_sN_ne (ne_of_new hq_67 t_209.1)).trans t_206
  clear t_206
  have t_210 : pN S_77 q_1 = 4 := tN_sR eS_77 t_207
  clear t_207
  have t_212 : At S_68 q_1 154 := by rw [eS_68]; exact At_sN t_209 hq_67
  have t_213 : At S_77 q_1 154 := tAt_sR eS_77 t_212
  have t_211 : pN S_84 q_1 = 4 := by rw [eS_84]; exact (pN_sN_ne (ne_of_new hq_83 t_213.1)).trans t_210
  clear t_210
  have t_214 : pN S_93 q_1 = 4 := tN_sR eS_93 t_211
  clear t_211
  have t_216 : At S_84 q_1 154 := by rw [eS_84]; exact At_sN t_213 hq_83
  have t_217 : At S_93 q_1 154 := tAt_sR eS_93 t_216
  have t_215 : pN S_100 q_1 = 4 := by rw [eS_100]; exact (pN_sN_ne (ne_of_new hq_99 t_217.1)).trans t_214
  clear t_214
  have t_218 : pN S_109 q_1 = 4 := tN_sR eS_109 t_215
  clear t_215
  have t_219 : pN S_116 q_1 = 4 := by rw [eS_116, pN_sO]; exact t_218
  clear t_218
  have t_221 : At S_100 q_1 154 := by rw [eS_100]; exact At_sN t_217 hq_99
  have t_222 : At S_109 q_1 154 := tAt_sR eS_109 t_221
  have t_223 : At S_116 q_1 154 := by rw [eS_116]; exact At_sO t_222 hq_115
  have t_220 : pN S_123 q_1 = 4 := ((hK_124 q_1 t_223.1).2 (At_ne t_223 ha_121 (by decide))).2.2.2.1.trans t_219
  clear t_219
  have t_224 : pN S_135 q_1 = 4 := tN_sR eS_135 t_220
  clear t_220
  have t_225 : pR S_68 808 x = some q_51 := by rw [eS_68, pR_sN]; exact h_66
  have t_226 : pR S_77 808 x = some q_51 := tR_sR eS_77 rfl t_225
  have t_227 : pR S_84 808 x = some q_51 := by rw [eS_84, pR_sN]; exact t_226
  have t_228 : pR S_93 808 x = some q_51 := tR_sR eS_93 rfl t_227
  have t_229 : pR S_100 808 x = some q_51 := by rw [eS_100, pR_sN]; exact t_228
  have t_230 : pR S_109 808 x = some q_51 := tR_sR eS_109 rfl t_229
  have t_231 : pR S_116 808 x = some q_51 := by rw [eS_116]; exact (pR_sO_ne (ne_of_new hq_115 t_158.1)).trans t_230
  have t_232 : pR S_123 808 x = some q_51 := (((hK_124 x t_160.1).2 (At_ne t_160 ha_121 (by decide))).2.2.1 808).trans t_231
  have t_233 : pR S_135 808 x = some q_51 := tR_sR eS_135 rfl t_232
  have t_234 : At S_61 q_51 19 := tAt_sR eS_61 ha_57
  have t_235 : At S_68 q_51 19 := by rw [eS_68]; exact At_sN t_234 hq_67
  have t_236 : At S_77 q_51 19 := tAt_sR eS_77 t_235
  have t_237 : At S_84 q_51 19 := by rw [eS_84]; exact At_sN t_236 hq_83
  have t_238 : At S_93 q_51 19 := tAt_sR eS_93 t_237
  have t_239 : At S_100 q_51 19 := by rw [eS_100]; exact At_sN t_238 hq_99
  have t_240 : At S_109 q_51 19 := tAt_sR eS_109 t_239
  have t_241 : At S_116 q_51 19 := by rw [eS_116]; exact At_sO t_240 hq_115
  have t_242 : At S_123 q_51 19 := hK_124.at ha_121 t_241 (by decide)
  have t_243 : At S_135 q_51 19 := tAt_sR eS_135 t_242
  have t_244 : pN S_61 q_51 = 40 := tN_sR eS_61 hn_58
  clear hn_58
  have t_246 : At S_61 q_51 19 := tAt_sR eS_61 ha_57
  have t_245 : pN S_68 q_51 = 40 := by rw [eS_68]; exact (pN_sN_ne (ne_of_new hq_67 t_246.1)).trans t_244
  clear t_244
  have t_247 : pN S_77 q_51 = 40 := tN_sR eS_77 t_245
  clear t_245
  have t_249 : At S_68 q_51 19 := by rw [eS_68]; exact At_sN t_246 hq_67
  have t_250 : At S_77 q_51 19 := tAt_sR eS_77 t_249
  have t_248 : pN S_84 q_51 = 40 := by rw [eS_84]; exact (pN_sN_ne (ne_of_new hq_83 t_250.1)).trans t_247
  clear t_247
  have t_251 : pN S_93 q_51 = 40 := tN_sR eS_93 t_248
  clear t_248
  have t_253 : At S_84 q_51 19 := by rw [eS_84]; exact At_sN t_250 hq_83
  have t_254 : At S_93 q_51 19 := tAt_sR eS_93 t_253
  have t_252 : pN S_100 q_51 = 40 := by rw [eS_100]; exact (pN_sN_ne (ne_of_new hq_99 t_254.1)).trans t_251
  clear t_251
  have t_255 : pN S_109 q_51 = 40 := tN_sR eS_109 t_252
  clear t_252
  have t_256 : pN S_116 q_51 = 40 := by rw [eS_116, pN_sO]; exact t_255
  clear t_255
  have t_258 : At S_100 q_51 19 := by rw [eS_100]; exact At_sN t_254 hq_99
  have t_259 : At S_109 q_51 19 := tAt_sR eS_109 t_258
  have t_260 : At S_116 q_51 19 := by rw [eS_116]; exact At_sO t_259 hq_115
  have t_257 : pN S_123 q_51 = 40 := ((hK_124 q_51 t_260.1).2 (At_ne t_260 ha_121 (by decide))).2.2.2.1.trans t_256
  clear t_256
  have t_261 : pN S_135 q_51 = 40 := tN_sR eS_135 t_257
  clear t_257
  have t_262 : pR S_84 809 x = some q_67 := by rw [eS_84, pR_sN]; exact h_82
  have t_263 : pR S_93 809 x = some q_67 := tR_sR eS_93 rfl t_262
  have t_264 : pR S_100 809 x = some q_67 := by rw [eS_100, pR_sN]; exact t_263
  have t_265 : pR S_109 809 x = some q_67 := tR_sR eS_109 rfl t_264
  have t_266 : pR S_116 809 x = some q_67 := by rw [eS_116]; exact (pR_sO_ne (ne_of_new hq_115 t_158.1)).trans t_265
  have t_267 : pR S_123 809 x = some q_67 := (((hK_124 x t_160.1).2 (At_ne t_160 ha_121 (by decide))).2.2.1 809).trans t_266
  have t_268 : pR S_135 809 x = some q_67 := tR_sR eS_135 rfl t_267
  have t_269 : At S_77 q_67 1674 := tAt_sR eS_77 ha_73
  have t_270 : At S_84 q_67 1674 := by rw [eS_84]; exact At_sN t_269 hq_83
  have t_271 : At S_93 q_67 1674 := tAt_sR eS_93 t_270
  have t_272 : At S_100 q_67 1674 := by rw [eS_100]; exact At_sN t_271 hq_99
  have t_273 : At S_109 q_67 1674 := tAt_sR eS_109 t_272
  have t_274 : At S_116 q_67 1674 := by rw [eS_116]; exact At_sO t_273 hq_115
  have t_275 : At S_123 q_67 1674 := hK_124.at ha_121 t_274 (by decide)
  have t_276 : At S_135 q_67 1674 := tAt_sR eS_135 t_275
  have t_277 : pN S_77 q_67 = 40 := tN_sR eS_77 hn_74
  clear hn_74
  have t_279 : At S_77 q_67 1674 := tAt_sR eS_77 ha_73
  have t_278 : pN S_84 q_67 = 40 := by rw [eS_84]; exact (pN_sN_ne (ne_of_new hq_83 t_279.1)).trans t_277
  clear t_277
  have t_280 : pN S_93 q_67 = 40 := tN_sR eS_93 t_278
  clear t_278
  have t_282 : At S_84 q_67 1674 := by rw [eS_84]; exact At_sN t_279 hq_83
  have t_283 : At S_93 q_67 1674 := tAt_sR eS_93 t_282
  have t_281 : pN S_100 q_67 = 40 := by rw [eS_100]; exact (pN_sN_ne (ne_of_new hq_99 t_283.1)).trans t_280
  clear t_280
  have t_284 : pN S_109 q_67 = 40 := tN_sR eS_109 t_281
  clear t_281
  have t_285 : pN S_116 q_67 = 40 := by rw [eS_116, pN_sO]; exact t_284
  clear t_284
  have t_287 : At S_100 q_67 1674 := by rw [eS_100]; exact At_sN t_283 hq_99
  have t_288 : At S_109 q_67 1674 := tAt_sR eS_109 t_287
  have t_289 : At S_116 q_67 1674 := by rw [eS_116]; exact At_sO t_288 hq_115
  have t_286 : pN S_123 q_67 = 40 := ((hK_124 q_67 t_289.1).2 (At_ne t_289 ha_121 (by decide))).2.2.2.1.trans t_285
  clear t_285
  have t_290 : pN S_135 q_67 = 40 := tN_sR eS_135 t_286
  clear t_286
  have t_291 : pR S_100 810 x = some q_83 := by rw [eS_100, pR_sN]; exact h_98
  have t_292 : pR S_109 810 x = some q_83 := tR_sR eS_109 rfl t_291
  have t_293 : pR S_116 810 x = some q_83 := by rw [eS_116]; exact (pR_sO_ne (ne_of_new hq_115 t_158.1)).trans t_292
  have t_294 : pR S_123 810 x = some q_83 := (((hK_124 x t_160.1).2 (At_ne t_160 ha_121 (by decide))).2.2.1 810).trans t_293
  have t_295 : pR S_135 810 x = some q_83 := tR_sR eS_135 rfl t_294
  have t_296 : At S_93 q_83 1694 := tAt_sR eS_93 ha_89
  have t_297 : At S_100 q_83 1694 := by rw [eS_100]; exact At_sN t_296 hq_99
  have t_298 : At S_109 q_83 1694 := tAt_sR eS_109 t_297
  have t_299 : At S_116 q_83 1694 := by rw [eS_116]; exact At_sO t_298 hq_115
  have t_300 : At S_123 q_83 1694 := hK_124.at ha_121 t_299 (by decide)
  have t_301 : At S_135 q_83 1694 := tAt_sR eS_135 t_300
  have t_302 : pN S_93 q_83 = 40 := tN_sR eS_93 hn_90
  clear hn_90
  have t_304 : At S_93 q_83 1694 := tAt_sR eS_93 ha_89
  have t_303 : pN S_100 q_83 = 40 := by rw [eS_100]; exact (pN_sN_ne (ne_of_new hq_99 t_304.1)).trans t_302
  clear t_302
  have t_305 : pN S_109 q_83 = 40 := tN_sR eS_109 t_303
  clear t_303
  have t_306 : pN S_116 q_83 = 40 := by rw [eS_116, pN_sO]; exact t_305
  clear t_305
  have t_308 : At S_100 q_83 1694 := by rw [eS_100]; exact At_sN t_304 hq_99
  have t_309 : At S_109 q_83 1694 := tAt_sR eS_109 t_308
  have t_310 : At S_116 q_83 1694 := by rw [eS_116]; exact At_sO t_309 hq_115
  have t_307 : pN S_123 q_83 = 40 := ((hK_124 q_83 t_310.1).2 (At_ne t_310 ha_121 (by decide))).2.2.2.1.trans t_306
  clear t_306
  have t_311 : pN S_135 q_83 = 40 := tN_sR eS_135 t_307
  clear t_307
  have t_312 : pR S_116 811 x = some q_99 := by rw [eS_116]; exact (pR_sO_ne (ne_of_new hq_115 t_158.1)).trans h_114
  have t_313 : pR S_123 811 x = some q_99 := (((hK_124 x t_160.1).2 (At_ne t_160 ha_121 (by decide))).2.2.1 811).trans t_312
  have t_314 : pR S_135 811 x = some q_99 := tR_sR eS_135 rfl t_313
  have t_315 : At S_109 q_99 1714 := tAt_sR eS_109 ha_105
  have t_316 : At S_116 q_99 1714 := by rw [eS_116]; exact At_sO t_315 hq_115
  have t_317 : At S_123 q_99 1714 := hK_124.at ha_121 t_316 (by decide)
  have t_318 : At S_135 q_99 1714 := tAt_sR eS_135 t_317
  have t_319 : pN S_109 q_99 = 40 := tN_sR eS_109 hn_106
  clear hn_106
  have t_320 : pN S_116 q_99 = 40 := by rw [eS_116, pN_sO]; exact t_319
  clear t_319
  have t_322 : At S_109 q_99 1714 := tAt_sR eS_109 ha_105
  have t_323 : At S_116 q_99 1714 := by rw [eS_116]; exact At_sO t_322 hq_115
  have t_321 : pN S_123 q_99 = 40 := ((hK_124 q_99 t_323.1).2 (At_ne t_323 ha_121 (by decide))).2.2.2.1.trans t_320
  clear t_320
  have t_324 : pN S_135 q_99 = 40 := tN_sR eS_135 t_321
  clear t_321
  have t_325 : At S_135 q_115 2 := tAt_sR eS_135 ha_126
  obtain ⟨S_326, eS_326⟩ : ∃ T, T = sK S_135 x 8 := ⟨_, rfl⟩
  have hw := Wd_sK (k := 8) hw t_141 rfl; rw [← eS_326] at hw
  have hg9 : GX S_326 := by rw [eS_326]; exact GX_sK hg_139 t_141 (by decide +kernel) (mk_8 (by rw [pI_sK, t_161]; exact ⟨by rw [ti_0]; omega, by rw [ti_0]; omega⟩) (by rw [pI_sK, t_178]; exact ⟨by rw [ti_0]; omega, by rw [ti_0]; omega⟩) ⟨q_1, (by rw [pR_sK]; exact t_189), At_sK t_141 t_201 (by decide), by rw [pN_sK]; exact t_224⟩ ⟨q_51, (by rw [pR_sK]; exact t_233), At_sK t_141 t_243 (by decide), by rw [pN_sK]; exact t_261⟩ ⟨q_67, (by rw [pR_sK]; exact t_268), At_sK t_141 t_276 (by decide), by rw [pN_sK]; exact t_290⟩ ⟨q_83, (by rw [pR_sK]; exact t_295), At_sK t_141 t_301 (by decide), by rw [pN_sK]; exact t_311⟩ ⟨q_99, (by rw [pR_sK]; exact t_314), At_sK t_141 t_318 (by decide), by rw [pN_sK]; exact t_324⟩ ⟨q_115, (by rw [pR_sK]; exact h_140), At_sK t_141 t_325 (by decide)⟩)
  have ha9 : At S_326 x 8 := by rw [eS_326]; exact At_nK t_141
  have hk9 : Kq S S_326 x := hK_138.sK eS_326
  have hPhc9 : Phc S_326 = Phc S + 320 := by rw [show Phc S_326 = Ph fC 8 14400 S_326 from rfl, Ph_sK nd_142 t_141 (by decide) eS_326, ph_8 ha9 (show pI S_326 800 x = 0 by rw [eS_326, pI_sK]; exact t_161)]; show Phc S_135 + _ = _; omega
  have hPhs9 : Phs S_326 = Phs S + 604000 := by rw [show Phs S_326 = Ph fS 15100 46000 S_326 from rfl, Ph_sK nd_142 t_141 (by decide) eS_326, ph_8 ha9 (show pI S_326 800 x = 0 by rw [eS_326, pI_sK]; exact t_161)]; show Phs S_135 + _ = _; omega
  have t_327 : pI S_2 801 x = 0 := by rw [eS_2, pI_sN]; exact (hzI 801)
  have t_328 : pI S_9 801 x = 0 := tI_sA eS_9 t_327
  have t_329 : pI S_17 801 x = 0 := tI_sA eS_17 t_328
  have t_330 : pI S_25 801 x = 0 := tI_sA eS_25 t_329
  have t_331 : pI S_33 801 x = 0 := tI_sA eS_33 t_330
  have t_332 : pI S_45 801 x = 0 := tI_sR eS_45 t_331
  have t_333 : pI S_52 801 x = 0 := by rw [eS_52, pI_sN]; exact t_332
  have t_334 : pI S_61 801 x = 0 := tI_sR eS_61 t_333
  have t_335 : pI S_68 801 x = 0 := by rw [eS_68, pI_sN]; exact t_334
  have t_336 : pI S_77 801 x = 0 := tI_sR eS_77 t_335
  have t_337 : pI S_84 801 x = 0 := by rw [eS_84, pI_sN]; exact t_336
  have t_338 : pI S_93 801 x = 0 := tI_sR eS_93 t_337
  have t_339 : pI S_100 801 x = 0 := by rw [eS_100, pI_sN]; exact t_338
  have t_340 : pI S_109 801 x = 0 := tI_sR eS_109 t_339
  have t_341 : pI S_116 801 x = 0 := by rw [eS_116]; exact (pI_sO_ne (ne_of_new hq_115 t_158.1)).trans t_340
  have t_342 : pI S_123 801 x = 0 := (((hK_124 x t_160.1).2 (At_ne t_160 ha_121 (by decide))).2.1 801).trans t_341
  have t_343 : pI S_135 801 x = 0 := tI_sR eS_135 t_342
  have t_344 : pI S_2 802 x = 0 := by rw [eS_2, pI_sN]; exact (hzI 802)
  have t_345 : pI S_9 802 x = 0 := tI_sA eS_9 t_344
  have t_346 : pI S_17 802 x = 0 := tI_sA eS_17 t_345
  have t_347 : pI S_25 802 x = 0 := tI_sA eS_25 t_346
  have t_348 : pI S_33 802 x = 0 := tI_sA eS_33 t_347
  have t_349 : pI S_45 802 x = 0 := tI_sR eS_45 t_348
  have t_350 : pI S_52 802 x = 0 := by rw [eS_52, pI_sN]; exact t_349
  have t_351 : pI S_61 802 x = 0 := tI_sR eS_61 t_350
  have t_352 : pI S_68 802 x = 0 := by rw [eS_68, pI_sN]; exact t_351
  have t_353 : pI S_77 802 x = 0 := tI_sR eS_77 t_352
  have t_354 : pI S_84 802 x = 0 := by rw [eS_84, pI_sN]; exact t_353
  have t_355 : pI S_93 802 x = 0 := tI_sR eS_93 t_354
  have t_356 : pI S_100 802 x = 0 := by rw [eS_100, pI_sN]; exact t_355
  have t_357 : pI S_109 802 x = 0 := tI_sR eS_109 t_356
  have t_358 : pI S_116 802 x = 0 := by rw [eS_116]; exact (pI_sO_ne (ne_of_new hq_115 t_158.1)).trans t_357
  have t_359 : pI S_123 802 x = 0 := (((hK_124 x t_160.1).2 (At_ne t_160 ha_121 (by decide))).2.1 802).trans t_358
  have t_360 : pI S_135 802 x = 0 := tI_sR eS_135 t_359
  have t_361 : pI S_2 803 x = 0 := by rw [eS_2, pI_sN]; exact (hzI 803)
  have t_362 : pI S_9 803 x = 0 := tI_sA eS_9 t_361
  have t_363 : pI S_17 803 x = 0 := tI_sA eS_17 t_362
  have t_364 : pI S_25 803 x = 0 := tI_sA eS_25 t_363
  have t_365 : pI S_33 803 x = 0 := tI_sA eS_33 t_364
  have t_366 : pI S_45 803 x = 0 := tI_sR eS_45 t_365
  have t_367 : pI S_52 803 x = 0 := by rw [eS_52, pI_sN]; exact t_366
  have t_368 : pI S_61 803 x = 0 := tI_sR eS_61 t_367
  have t_369 : pI S_68 803 x = 0 := by rw [eS_68, pI_sN]; exact t_368
  have t_370 : pI S_77 803 x = 0 := tI_sR eS_77 t_369
  have t_371 : pI S_84 803 x = 0 := by rw [eS_84, pI_sN]; exact t_370
  have t_372 : pI S_93 803 x = 0 := tI_sR eS_93 t_371
  have t_373 : pI S_100 803 x = 0 := by rw [eS_100, pI_sN]; exact t_372
  have t_374 : pI S_109 803 x = 0 := tI_sR eS_109 t_373
  have t_375 : pI S_116 803 x = 0 := by rw [eS_116]; exact (pI_sO_ne (ne_of_new hq_115 t_158.1)).trans t_374
  have t_376 : pI S_123 803 x = 0 := (((hK_124 x t_160.1).2 (At_ne t_160 ha_121 (by decide))).2.1 803).trans t_375
  have t_377 : pI S_135 803 x = 0 := tI_sR eS_135 t_376
  have t_378 : pI S_2 804 x = 0 := by rw [eS_2, pI_sN]; exact (hzI 804)
  have t_379 : pI S_9 804 x = 0 := tI_sA eS_9 t_378
  have t_380 : pI S_17 804 x = 0 := tI_sA eS_17 t_379
  have t_381 : pI S_25 804 x = 0 := tI_sA eS_25 t_380
  have t_382 : pI S_33 804 x = 0 := tI_sA eS_33 t_381
  have t_383 : pI S_45 804 x = 0 := tI_sR eS_45 t_382
  have t_384 : pI S_52 804 x = 0 := by rw [eS_52, pI_sN]; exact t_383
  have t_385 : pI S_61 804 x = 0 := tI_sR eS_61 t_384
  have t_386 : pI S_68 804 x = 0 := by rw [eS_68, pI_sN]; exact t_385
  have t_387 : pI S_77 804 x = 0 := tI_sR eS_77 t_386
  have t_388 : pI S_84 804 x = 0 := by rw [eS_84, pI_sN]; exact t_387
  have t_389 : pI S_93 804 x = 0 := tI_sR eS_93 t_388
  have t_390 : pI S_100 804 x = 0 := by rw [eS_100, pI_sN]; exact t_389
  have t_391 : pI S_109 804 x = 0 := tI_sR eS_109 t_390
  have t_392 : pI S_116 804 x = 0 := by rw [eS_116]; exact (pI_sO_ne (ne_of_new hq_115 t_158.1)).trans t_391
  have t_393 : pI S_123 804 x = 0 := (((hK_124 x t_160.1).2 (At_ne t_160 ha_121 (by decide))).2.1 804).trans t_392
  have t_394 : pI S_135 804 x = 0 := tI_sR eS_135 t_393
  have t_395 : pI S_2 805 x = 0 := by rw [eS_2, pI_sN]; exact (hzI 805)
  have t_396 : pI S_9 805 x = 0 := tI_sA eS_9 t_395
  have t_397 : pI S_17 805 x = 0 := tI_sA eS_17 t_396
  have t_398 : pI S_25 805 x = 0 := tI_sA eS_25 t_397
  have t_399 : pI S_33 805 x = 0 := tI_sA eS_33 t_398
  have t_400 : pI S_45 805 x = 0 := tI_sR eS_45 t_399
  have t_401 : pI S_52 805 x = 0 := by rw [eS_52, pI_sN]; exact t_400
  have t_402 : pI S_61 805 x = 0 := tI_sR eS_61 t_401
  have t_403 : pI S_68 805 x = 0 := by rw [eS_68, pI_sN]; exact t_402
  have t_404 : pI S_77 805 x = 0 := tI_sR eS_77 t_403
  have t_405 : pI S_84 805 x = 0 := by rw [eS_84, pI_sN]; exact t_404
  have t_406 : pI S_93 805 x = 0 := tI_sR eS_93 t_405
  have t_407 : pI S_100 805 x = 0 := by rw [eS_100, pI_sN]; exact t_406
  have t_408 : pI S_109 805 x = 0 := tI_sR eS_109 t_407
  have t_409 : pI S_116 805 x = 0 := by rw [eS_116]; exact (pI_sO_ne (ne_of_new hq_115 t_158.1)).trans t_408
  have t_410 : pI S_123 805 x = 0 := (((hK_124 x t_160.1).2 (At_ne t_160 ha_121 (by decide))).2.1 805).trans t_409
  have t_411 : pI S_135 805 x = 0 := tI_sR eS_135 t_410
  exact ret_v X hw hr hlocks (Nat.le_of_ble_eq_true rfl) (Nat.le_of_ble_eq_true rfl) ⟨hk9, hg9, ha9, hPhc9, hPhs9, (by rw [eS_326, pI_sK]; exact t_343), (by rw [eS_326, pI_sK]; exact t_161), (by rw [eS_326, pI_sK]; exact t_178), (by rw [eS_326, pI_sK]; exact t_360), (by rw [eS_326, pI_sK]; exact t_377), (by rw [eS_326, pI_sK]; exact t_394), (by rw [eS_326, pI_sK]; exact t_411)⟩ dX8_init_75
set_option maxHeartbeats 4000000 in
set_option maxRecDepth 100000 in
theorem k_X11_init6 (l : Launch) (G : va_G) (cy : Nat → ClassId) (κ : Nat → Nat) (S : PS) (sz : Nat) (x : Nat) (hG : GX S) (ha_x : At S x 191) (hzI : ∀ g, pI S g x = 0) (hzR : ∀ g, pR S g x = none) : Cv l yX11_init wsX11_init ({ frames := 4, cells := 58, slots := 1728, locals := 192 }) G cy κ S sz [.ref x] (fun (S9 : PS) => Kq S S9 x ∧ GX S9 ∧ At S9 x 11 ∧ Phc S9 = Phc S + 57920 ∧ Phs S9 = Phs S + 788000 ∧ ∃ q, pR S9 1107 x = some q ∧ At S9 q 8 ∧ pI S9 801 q = 0 ∧ pI S9 1102 x = 0 ∧ pI S9 1104 x = 0 ∧ ∃ u, pR S9 1105 x = some u ∧ At S9 u 10 ∧ pI S9 1000 u = 0 ∧ ∃ sh, pR S9 1109 x = some sh ∧ ShI S9 sh 16 ∧ (pI S9 800 q = 0 ∧ pI S9 806 q = 0 ∧ pI S9 802 q = 0 ∧ pI S9 803 q = 0 ∧ pI S9 804 q = 0 ∧ pI S9 805 q = 0 ∧ pI S9 1110 x = 0) ∧ ∃ rh, pR S9 1106 x = some rh ∧ RuD S9 rh) := by
  refine ent_m (cc := cX11_init) (maxL := 2) (ret := none) (by decide) rfl (Nat.le_of_ble_eq_true rfl) ?_
  intro p e s m below meth c ls X hr hlocks hin hw hl hsz
  subst hsz
  have X : Cx p c cX11_init 2 s [.ref x].toArray wsX11_init RX11 m G cy κ (AS S s.heap.size) := X
  have hl : lv_has ls 2 [(0, .ref x)] := hl
  have hpc0 : Phc S = Phc S + 0 := rfl
  have hps0 : Phs S = Phs S + 0 := rfl
  have hK : Kq S S x := Kq.rf S _
  generalize hQQ : MQ below _ _ _ _ _ _ = QQ
  replace hQQ := hQQ.symm
  refine lv_aload_n X.1 X.2.1 dX11_init_0 rfl (lv_at hl 0 rfl) ?_
  refine W.objInit X.1 X.2.1 X.2.2.2.2.1 (X.2.2.2.1 (.methodLink RX11 3 objectInit) (by decide +kernel)) (X.2.2.2.1 (.instanceMethod objectInit) (by decide +kernel)) (X.2.2.2.1 (.code objectInit ⟨#[0xb1]⟩ 1 none) (by decide +kernel)) rfl (hl.1.trans X.2.2.1.symm) rfl dX11_init_1 (Nat.le_of_ble_eq_true rfl) (Nat.le_of_ble_eq_true rfl) ?_
  refine W.eq (g2 := F0 m 4 ls ([])) rfl ?_
  refine lv_aload_n X.1 X.2.1 dX11_init_4 rfl (lv_at hl 0 rfl) ?_
  refine lv_sipush (v := 600) X.1 X.2.1 dX11_init_5 (by decide) ?_
  refine r_newQ (N := 600) (C := RX0) X hw 36 16 600 1 rfl (by decide) rfl (X.2.2.2.1 (.classLink RX11 9 RX0) (by decide +kernel)) X.2.2.2.2.2.2.2.1.1.1 (z_nn ti_600 (by omega)) (by decide) (by decide) (by show 0 + 1 ≤ 1; omega) (by show 0 + 600 ≤ 600; omega) (by show 1 ≤ 58; omega) (by show 600 ≤ 1728; omega) dX11_init_8 (fun q_1 H hq_1 hw => ?_)
  obtain ⟨S_2, eS_2⟩ : ∃ T, T = sN S q_1 36 600 := ⟨_, rfl⟩
  rw [← eS_2] at hw
  have ph_3 : Phc S_2 = Phc S + 0 := (show Phc S_2 = Phc S from Ph_sN' hG.ci hq_1 eS_2 (by decide)).trans hpc0
  have ph_4 : Phs S_2 = Phs S + 0 := (show Phs S_2 = Phs S from Ph_sN' hG.ci hq_1 eS_2 (by decide)).trans hps0
  clear hpc0
  clear hps0
  have hK_5 : Kq S S_2 x := hK.sN hq_1 eS_2
  have hg_6 : GX S_2 := by rw [eS_2]; exact GX_N hG hq_1 (by decide +kernel)
  have hn0_q_1 := hK.new hq_1
  have ha_7 : At S_2 q_1 36 := by rw [eS_2]; exact At_nN _ _ _ _
  have hn_8 : pN S_2 q_1 = 600 := by rw [eS_2]; exact pN_sN_new
  have t_9 : At S_2 x 191 := by rw [eS_2]; exact At_sN ha_x hq_1
  refine r_putR X hw t_9 rfl 0 1100 (some q_1) rfl tyX11 (by decide) rfl inn_X11_init_11 tyX11_ok nmX11 (by decide) (X.2.2.2.1 (.fieldLink RX11 11 "SilkMill" "cocoons" "[LSilkMill$Cocoon;") (by decide +kernel)) rfl (Or.inr ⟨rfl, hin, rfl⟩) (fun _ => rfl) rfl (fun _ => rfl) rfl (Nat.le_of_ble_eq_true rfl) (st_1100 _ _) dX11_init_11 (fun H locs hw => ?_)
  obtain ⟨S_10, eS_10⟩ : ∃ T, T = sR S_2 1100 x (some q_1) := ⟨_, rfl⟩
  rw [← eS_10] at hw
  have ph_11 : Phc S_10 = Phc S + 0 := (show Phc S_10 = Phc S_2 from Ph_rawR t_9 (by decide) eS_10).trans ph_3
  have ph_12 : Phs S_10 = Phs S + 0 := (show Phs S_10 = Phs S_2 from Ph_rawR t_9 (by decide) eS_10).trans ph_4
  clear ph_3
  clear ph_4
  have hK_13 : Kq S S_10 x := hK_5.sR eS_10
  have hg_14 : GX S_10 := by rw [eS_10]; exact GX_rawR hg_6 t_9 (by decide +kernel)
  have h_15 : pR S_10 1100 x = some q_1 := tR_sRs eS_10
  refine lv_aload_n X.1 X.2.1 dX11_init_14 rfl (lv_at hl 0 rfl) ?_
  refine lv_bipush (v := 10) X.1 X.2.1 dX11_init_15 (by decide) ?_
  refine r_newI (N := 10) X hw 54 610 2 rfl (X.2.2.2.1 (.arrayClass .int) (by decide +kernel)) (z_nn ti_10 (by omega)) (by decide) (by decide) (by show 1 + 1 ≤ 2; omega) (by show 600 + 10 ≤ 610; omega) (by show 2 ≤ 58; omega) (by show 610 ≤ 1728; omega) dX11_init_17 (fun q_16 H hq_16 hw => ?_)
  obtain ⟨S_17, eS_17⟩ : ∃ T, T = sN S_10 q_16 54 10 := ⟨_, rfl⟩
  rw [← eS_17] at hw
  have ph_18 : Phc S_17 = Phc S + 0 := (show Phc S_17 = Phc S_10 from Ph_sN' hg_14.ci hq_16 eS_17 (by decide)).trans ph_11
  have ph_19 : Phs S_17 = Phs S + 0 := (show Phs S_17 = Phs S_10 from Ph_sN' hg_14.ci hq_16 eS_17 (by decide)).trans ph_12
  clear ph_11
  clear ph_12
  have hK_20 : Kq S S_17 x := hK_13.sN hq_16 eS_17
  have hg_21 : GX S_17 := by rw [eS_17]; exact GX_N hg_14 hq_16 (by decide +kernel)
  have hn0_q_16 := hK_13.new hq_16
  have ha_22 : At S_17 q_16 54 := by rw [eS_17]; exact At_nN _ _ _ _
  have hn_23 : pN S_17 q_16 = 10 := by rw [eS_17]; exact pN_sN_new
  have t_24 : At S_10 x 191 := tAt_sR eS_10 t_9
  have t_25 : At S_17 x 191 := by rw [eS_17]; exact At_sN t_24 hq_16
  refine r_putR X hw t_25 rfl 1 1101 (some q_16) rfl tyX11 (by decide) rfl inn_X11_init_11 tyX11_ok nmX11 (by decide) (X.2.2.2.1 (.fieldLink RX11 15 "SilkMill" "lotSizes" "[I") (by decide +kernel)) rfl (Or.inr ⟨rfl, hin, rfl⟩) (fun _ => rfl) rfl (fun _ => rfl) rfl (Nat.le_of_ble_eq_true rfl) (st_1101 _ _) dX11_init_19 (fun H locs hw => ?_)
  obtain ⟨S_26, eS_26⟩ : ∃ T, T = sR S_17 1101 x (some q_16) := ⟨_, rfl⟩
  rw [← eS_26] at hw
  have ph_27 : Phc S_26 = Phc S + 0 := (show Phc S_26 = Phc S_17 from Ph_rawR t_25 (by decide) eS_26).trans ph_18
  have ph_28 : Phs S_26 = Phs S + 0 := (show Phs S_26 = Phs S_17 from Ph_rawR t_25 (by decide) eS_26).trans ph_19
  clear ph_18
  clear ph_19
  have hK_29 : Kq S S_26 x := hK_20.sR eS_26
  have hg_30 : GX S_26 := by rw [eS_26]; exact GX_rawR hg_21 t_25 (by decide +kernel)
  have h_31 : pR S_26 1101 x = some q_16 := tR_sRs eS_26
  refine lv_aload_n X.1 X.2.1 dX11_init_22 rfl (lv_at hl 0 rfl) ?_
  refine lv_iconst (v := 4) X.1 X.2.1 dX11_init_23 (by decide) ?_
  refine r_newQ (N := 4) (C := RX4) X hw 18 18 614 3 rfl (by decide) rfl (X.2.2.2.1 (.classLink RX11 19 RX4) (by decide +kernel)) X.2.2.2.2.2.2.2.1.1.2.2.1 (z_nn ti_4 (by omega)) (by decide) (by decide) (by show 2 + 1 ≤ 3; omega) (by show 610 + 4 ≤ 614; omega) (by show 3 ≤ 58; omega) (by show 614 ≤ 1728; omega) dX11_init_24 (fun q_32 H hq_32 hw => ?_)
  obtain ⟨S_33, eS_33⟩ : ∃ T, T = sN S_26 q_32 18 4 := ⟨_, rfl⟩
  rw [← eS_33] at hw
  have ph_34 : Phc S_33 = Phc S + 0 := (show Phc S_33 = Phc S_26 from Ph_sN' hg_30.ci hq_32 eS_33 (by decide)).trans ph_27
  have ph_35 : Phs S_33 = Phs S + 0 := (show Phs S_33 = Phs S_26 from Ph_sN' hg_30.ci hq_32 eS_33 (by decide)).trans ph_28
  clear ph_27
  clear ph_28
  have hK_36 : Kq S S_33 x := hK_29.sN hq_32 eS_33
  have hg_37 : GX S_33 := by rw [eS_33]; exact GX_N hg_30 hq_32 (by decide +kernel)
  have hn0_q_32 := hK_29.new hq_32
  have ha_38 : At S_33 q_32 18 := by rw [eS_33]; exact At_nN _ _ _ _
  have hn_39 : pN S_33 q_32 = 4 := by rw [eS_33]; exact pN_sN_new
  have t_40 : At S_26 x 191 := tAt_sR eS_26 t_25
  have t_41 : At S_33 x 191 := by rw [eS_33]; exact At_sN t_40 hq_32
  refine r_putR X hw t_41 rfl 3 1103 (some q_32) rfl tyX11 (by decide) rfl inn_X11_init_11 tyX11_ok nmX11 (by decide) (X.2.2.2.1 (.fieldLink RX11 21 "SilkMill" "pots" "[LSilkMill$Pot;") (by decide +kernel)) rfl (Or.inr ⟨rfl, hin, rfl⟩) (fun _ => rfl) rfl (fun _ => rfl) rfl (Nat.le_of_ble_eq_true rfl) (st_1103 _ _) dX11_init_27 (fun H locs hw => ?_)
  obtain ⟨S_42, eS_42⟩ : ∃ T, T = sR S_33 1103 x (some q_32) := ⟨_, rfl⟩
  rw [← eS_42] at hw
  have ph_43 : Phc S_42 = Phc S + 0 := (show Phc S_42 = Phc S_33 from Ph_rawR t_41 (by decide) eS_42).trans ph_34
  have ph_44 : Phs S_42 = Phs S + 0 := (show Phs S_42 = Phs S_33 from Ph_rawR t_41 (by decide) eS_42).trans ph_35
  clear ph_34
  clear ph_35
  have hK_45 : Kq S S_42 x := hK_36.sR eS_42
  have hg_46 : GX S_42 := by rw [eS_42]; exact GX_rawR hg_37 t_41 (by decide +kernel)
  have h_47 : pR S_42 1103 x = some q_32 := tR_sRs eS_42
  refine lv_aload_n X.1 X.2.1 dX11_init_30 rfl (lv_at hl 0 rfl) ?_
  refine r_new X hw 190 10 621 4 rfl tyX10 (by decide) rfl inn_X11_init_10 tyX10_ok (X.2.2.2.1 (.classLink RX11 25 RX10) (by decide +kernel)) (X.2.2.2.1 (.instantiable RX10 7) (by decide +kernel)) (X.2.2.2.1 (.initialized RX10) (by decide +kernel)) (zo_10 _) zd_10 (by show 3 + 1 ≤ 4; omega) (by show 614 + 7 ≤ 621; omega) (by show 4 ≤ 58; omega) (by show 621 ≤ 1728; omega) dX11_init_31 (fun q_48 H hq_48 hw => ?_)
  obtain ⟨S_49, eS_49⟩ : ∃ T, T = sO S_42 q_48 190 := ⟨_, rfl⟩
  rw [← eS_49] at hw
  have ph_50 : Phc S_49 = Phc S + 0 := (show Phc S_49 = Phc S_42 from Ph_sO hg_46 hq_48 eS_49 (by decide)).trans ph_43
  have ph_51 : Phs S_49 = Phs S + 0 := (show Phs S_49 = Phs S_42 from Ph_sO hg_46 hq_48 eS_49 (by decide)).trans ph_44
  clear ph_43
  clear ph_44
  have hK_52 : Kq S S_49 x := hK_45.sO hq_48 eS_49
  have hg_53 : GX S_49 := by rw [eS_49]; exact GX_O hg_46 hq_48 (by decide +kernel)
  have hn0_q_48 := hK_45.new hq_48
  have ha_54 : At S_49 q_48 190 := by rw [eS_49]; exact At_nO _ _ _
  have hzI_q_48 : ∀ g, pI S_49 g q_48 = 0 := fun g => by rw [eS_49]; exact pI_sO_new
  have hzR_q_48 : ∀ g, pR S_49 g q_48 = none := fun g => by rw [eS_49]; exact if_pos rfl
  refine lv_dup X.1 X.2.1 dX11_init_34 rfl ?_
  refine k_v (rm := { frames := 2, cells := 1, slots := 400, locals := 96 }) (av := [.ref q_48]) X hw (va_runIN (As := []) (rest := [.ref q_48, .ref x]) (cfix X) (k_X10_init l G cy κ S_49 _ q_48 hg_53 ha_54 hzI_q_48 hzR_q_48) ⟨(va_cnB (host := RX11) 0 X.2.2.2.1 gX11_init_X10_init_n27 rfl rfl rfl (X.2.2.2.2.2.2.2.1.2.1 (RX11, 27, yX10_init) (by decide +kernel)) (X.2.2.2.1 (.initialized RX10) (by decide +kernel)) (by decide +kernel) ⟨Nat.le_of_ble_eq_true rfl, Nat.le_of_ble_eq_true rfl⟩), rfl, (X.2.2.2.1 (.instanceMethod yX10_init) (by decide +kernel))⟩ (pre_S X hw _) rfl rfl hl.1 rfl (lv_room (Nat.le_of_ble_eq_true rfl)) dX11_init_35 ⟨(by show 4 + 1 ≤ 58; omega), (by show 621 + 400 ≤ 1728; omega)⟩) 5 1021 (by show 4 + 1 ≤ 5; omega) (by show 621 + 400 ≤ 1021; omega) (fun S_56 H locs hp hw hfr hnw => ?_)
  obtain ⟨hK_57, hg_58, ha_59, ph_60, ph_61, kz_62⟩ := hp
  have hK_63 : Kq S S_56 x := hK_52.sub hn0_q_48 hK_57
  have ph_64 : Phc S_56 = Phc S + 0 := by omega
  have ph_65 : Phs S_56 = Phs S + 0 := by omega
  clear ph_50
  clear ph_51
  clear ph_60
  clear ph_61
  have t_66 : At S_42 x 191 := tAt_sR eS_42 t_41
  have t_67 : At S_49 x 191 := by rw [eS_49]; exact At_sO t_66 hq_48
  have t_68 : At S_56 x 191 := hK_57.at ha_54 t_67 (by decide)
  refine r_putR X hw t_68 rfl 5 1105 (some q_48) rfl tyX11 (by decide) rfl inn_X11_init_11 tyX11_ok nmX11 (by decide) (X.2.2.2.1 (.fieldLink RX11 28 "SilkMill" "tape" "LSilkMill$Tape;") (by decide +kernel)) rfl (Or.inr ⟨rfl, hin, rfl⟩) (fun _ => rfl) rfl (fun _ => rfl) rfl (Nat.le_of_ble_eq_true rfl) (st_1105 _ _) dX11_init_38 (fun H locs hw => ?_)
  obtain ⟨S_69, eS_69⟩ : ∃ T, T = sR S_56 1105 x (some q_48) := ⟨_, rfl⟩
  rw [← eS_69] at hw
  have ph_70 : Phc S_69 = Phc S + 0 := (show Phc S_69 = Phc S_56 from Ph_rawR t_68 (by decide) eS_69).trans ph_64
  have ph_71 : Phs S_69 = Phs S + 0 := (show Phs S_69 = Phs S_56 from Ph_rawR t_68 (by decide) eS_69).trans ph_65
  clear ph_64
  clear ph_65
  have hK_72 : Kq S S_69 x := hK_63.sR eS_69
  have hg_73 : GX S_69 := by rw [eS_69]; exact GX_rawR hg_58 t_68 (by decide +kernel)
  have h_74 : pR S_69 1105 x = some q_48 := tR_sRs eS_69
  refine lv_aload_n X.1 X.2.1 dX11_init_41 rfl (lv_at hl 0 rfl) ?_
  refine r_new X hw 186 6 1028 6 rfl tyX6 (by decide) rfl inn_X11_init_6 tyX6_ok (X.2.2.2.1 (.classLink RX11 32 RX6) (by decide +kernel)) (X.2.2.2.1 (.instantiable RX6 7) (by decide +kernel)) (X.2.2.2.1 (.initialized RX6) (by decide +kernel)) (zo_6 _) zd_6 (by show 5 + 1 ≤ 6; omega) (by show 1021 + 7 ≤ 1028; omega) (by show 6 ≤ 58; omega) (by show 1028 ≤ 1728; omega) dX11_init_42 (fun q_75 H hq_75 hw => ?_)
  obtain ⟨S_76, eS_76⟩ : ∃ T, T = sO S_69 q_75 186 := ⟨_, rfl⟩
  rw [← eS_76] at hw
  have ph_77 : Phc S_76 = Phc S + 0 := (show Phc S_76 = Phc S_69 from Ph_sO hg_73 hq_75 eS_76 (by decide)).trans ph_70
  have ph_78 : Phs S_76 = Phs S + 0 := (show Phs S_76 = Phs S_69 from Ph_sO hg_73 hq_75 eS_76 (by decide)).trans ph_71
  clear ph_70
  clear ph_71
  have hK_79 : Kq S S_76 x := hK_72.sO hq_75 eS_76
  have hg_80 : GX S_76 := by rw [eS_76]; exact GX_O hg_73 hq_75 (by decide +kernel)
  have hn0_q_75 := hK_72.new hq_75
  have ha_81 : At S_76 q_75 186 := by rw [eS_76]; exact At_nO _ _ _
  have hzI_q_75 : ∀ g, pI S_76 g q_75 = 0 := fun g => by rw [eS_76]; exact pI_sO_new
  have hzR_q_75 : ∀ g, pR S_76 g q_75 = none := fun g => by rw [eS_76]; exact if_pos rfl
  refine lv_dup X.1 X.2.1 dX11_init_45 rfl ?_
  refine k_v (rm := { frames := 2, cells := 6, slots := 180, locals := 96 }) (av := [.ref q_75]) X hw (va_runIN (As := []) (rest := [.ref q_75, .ref x]) (cfix X) (k_X6_init6 l G cy κ S_76 _ q_75 hg_80 ha_81 hzI_q_75 hzR_q_75) ⟨(va_cnB (host := RX11) 0 X.2.2.2.1 gX11_init_X6_init_n34 rfl rfl rfl (X.2.2.2.2.2.2.2.1.2.1 (RX11, 34, yX6_init) (by decide +kernel)) (X.2.2.2.1 (.initialized RX6) (by decide +kernel)) (by decide +kernel) ⟨Nat.le_of_ble_eq_true rfl, Nat.le_of_ble_eq_true rfl⟩), rfl, (X.2.2.2.1 (.instanceMethod yX6_init) (by decide +kernel))⟩ (pre_S X hw _) rfl rfl hl.1 rfl (lv_room (Nat.le_of_ble_eq_true rfl)) dX11_init_46 ⟨(by show 6 + 6 ≤ 58; omega), (by show 1028 + 180 ≤ 1728; omega)⟩) 12 1208 (by show 6 + 6 ≤ 12; omega) (by show 1028 + 180 ≤ 1208; omega) (fun S_83 H locs hp hw hfr hnw => ?_)
  obtain ⟨hK_84, hg_85, ha_86, ph_87, ph_88, kx_89, kx_90⟩ := hp
  have hK_91 : Kq S S_83 x := hK_79.sub hn0_q_75 hK_84
  have ph_92 : Phc S_83 = Phc S + 0 := by omega
  have ph_93 : Phs S_83 = Phs S + 0 := by omega
  clear ph_77
  clear ph_78
  clear ph_87
  clear ph_88
  obtain ⟨q_94, h_95, h_96, h_97⟩ := gQ_6_601 hg_85 ha_86
  obtain ⟨q_98, h_99, h_100, h_101⟩ := gQ_6_602 hg_85 ha_86
  obtain ⟨q_102, h_103, h_104, h_105⟩ := gQ_6_604 hg_85 ha_86
  obtain ⟨q_106, h_107, h_108, h_109⟩ := gQ_6_605 hg_85 ha_86
  obtain ⟨q_110, h_111, h_112, h_113⟩ := gQ_6_606 hg_85 ha_86
  have rd_114 : q_94 ≠ q_98 ∧ q_94 ≠ q_102 ∧ q_94 ≠ q_106 ∧ q_94 ≠ q_110 ∧ q_98 ≠ q_102 ∧ q_98 ≠ q_106 ∧ q_98 ≠ q_110 ∧ q_102 ≠ q_106 ∧ q_102 ≠ q_110 ∧ q_106 ≠ q_110 := by
    obtain ⟨a1, a2, a4, a5, a6, ⟨b1, b2, b4, b5, b6⟩, c⟩ := kx_90.1
    rw [h_95] at b1; cases b1
    rw [h_99] at b2; cases b2
    rw [h_103] at b4; cases b4
    rw [h_107] at b5; cases b5
    rw [h_111] at b6; cases b6
    exact c
  have t_115 : At S_69 x 191 := tAt_sR eS_69 t_68
  have t_116 : At S_76 x 191 := by rw [eS_76]; exact At_sO t_115 hq_75
  have t_117 : At S_83 x 191 := hK_84.at ha_81 t_116 (by decide)
  refine r_putR X hw t_117 rfl 6 1106 (some q_75) rfl tyX11 (by decide) rfl inn_X11_init_11 tyX11_ok nmX11 (by decide) (X.2.2.2.1 (.fieldLink RX11 35 "SilkMill" "spareRules" "LSilkMill$Rules;") (by decide +kernel)) rfl (Or.inl rfl) (fun _ => rfl) rfl (fun _ => rfl) rfl (Nat.le_of_ble_eq_true rfl) (st_1106 _ _) dX11_init_49 (fun H locs hw => ?_)
  obtain ⟨S_118, eS_118⟩ : ∃ T, T = sR S_83 1106 x (some q_75) := ⟨_, rfl⟩
  rw [← eS_118] at hw
  have ph_119 : Phc S_118 = Phc S + 0 := (show Phc S_118 = Phc S_83 from Ph_rawR t_117 (by decide) eS_118).trans ph_92
  have ph_120 : Phs S_118 = Phs S + 0 := (show Phs S_118 = Phs S_83 from Ph_rawR t_117 (by decide) eS_118).trans ph_93
  clear ph_92
  clear ph_93
  have hK_121 : Kq S S_118 x := hK_91.sR eS_118
  have hg_122 : GX S_118 := by rw [eS_118]; exact GX_rawR hg_85 t_117 (by decide +kernel)
  have h_123 : pR S_118 1106 x = some q_75 := tR_sRs eS_118
  refine lv_aload_n X.1 X.2.1 dX11_init_52 rfl (lv_at hl 0 rfl) ?_
  refine r_new X hw 188 8 1221 13 rfl tyX8 (by decide) rfl inn_X11_init_8 tyX8_ok (X.2.2.2.1 (.classLink RX11 39 RX8) (by decide +kernel)) (X.2.2.2.1 (.instantiable RX8 13) (by decide +kernel)) (X.2.2.2.1 (.initialized RX8) (by decide +kernel)) (zo_8 _) zd_8 (by show 12 + 1 ≤ 13; omega) (by show 1208 + 13 ≤ 1221; omega) (by show 13 ≤ 58; omega) (by show 1221 ≤ 1728; omega) dX11_init_53 (fun q_124 H hq_124 hw => ?_)
  obtain ⟨S_125, eS_125⟩ : ∃ T, T = sO S_118 q_124 188 := ⟨_, rfl⟩
  rw [← eS_125] at hw
  have ph_126 : Phc S_125 = Phc S + 0 := (show Phc S_125 = Phc S_118 from Ph_sO hg_122 hq_124 eS_125 (by decide)).trans ph_119
  have ph_127 : Phs S_125 = Phs S + 0 := (show Phs S_125 = Phs S_118 from Ph_sO hg_122 hq_124 eS_125 (by decide)).trans ph_120
  clear ph_119
  clear ph_120
  have hK_128 : Kq S S_125 x := hK_121.sO hq_124 eS_125
  have hg_129 : GX S_125 := by rw [eS_125]; exact GX_O hg_122 hq_124 (by decide +kernel)
  have hn0_q_124 := hK_121.new hq_124
  have ha_130 : At S_125 q_124 188 := by rw [eS_125]; exact At_nO _ _ _
  have hzI_q_124 : ∀ g, pI S_125 g q_124 = 0 := fun g => by rw [eS_125]; exact pI_sO_new
  have hzR_q_124 : ∀ g, pR S_125 g q_124 = none := fun g => by rw [eS_125]; exact if_pos rfl
  refine lv_dup X.1 X.2.1 dX11_init_56 rfl ?_
  refine k_v (rm := { frames := 3, cells := 9, slots := 214, locals := 144 }) (av := [.ref q_124]) X hw (va_runIN (As := []) (rest := [.ref q_124, .ref x]) (cfix X) (k_X8_init6 l G cy κ S_125 _ q_124 hg_129 ha_130 hzI_q_124 hzR_q_124) ⟨(va_cnB (host := RX11) 0 X.2.2.2.1 gX11_init_X8_init_n41 rfl rfl rfl (X.2.2.2.2.2.2.2.1.2.1 (RX11, 41, yX8_init) (by decide +kernel)) (X.2.2.2.1 (.initialized RX8) (by decide +kernel)) (by decide +kernel) ⟨Nat.le_of_ble_eq_true rfl, Nat.le_of_ble_eq_true rfl⟩), rfl, (X.2.2.2.1 (.instanceMethod yX8_init) (by decide +kernel))⟩ (pre_S X hw _) rfl rfl hl.1 rfl (lv_room (Nat.le_of_ble_eq_true rfl)) dX11_init_57 ⟨(by show 13 + 9 ≤ 58; omega), (by show 1221 + 214 ≤ 1728; omega)⟩) 22 1435 (by show 13 + 9 ≤ 22; omega) (by show 1221 + 214 ≤ 1435; omega) (fun S_132 H locs hp hw hfr hnw => ?_)
  obtain ⟨hK_133, hg_134, ha_135, ph_136, ph_137, kz_138, kz_139, kz_140, kz_141, kz_142, kz_143, kz_144⟩ := hp
  have hK_145 : Kq S S_132 x := hK_128.sub hn0_q_124 hK_133
  have ph_146 : Phc S_132 = Phc S + 320 := by omega
  have ph_147 : Phs S_132 = Phs S + 604000 := by omega
  clear ph_126
  clear ph_127
  clear ph_136
  clear ph_137
  have t_148 : At S_118 x 191 := tAt_sR eS_118 t_117
  have t_149 : At S_125 x 191 := by rw [eS_125]; exact At_sO t_148 hq_124
  have t_150 : At S_132 x 191 := hK_133.at ha_130 t_149 (by decide)
  refine r_putR X hw t_150 rfl 7 1107 (some q_124) rfl tyX11 (by decide) rfl inn_X11_init_11 tyX11_ok nmX11 (by decide) (X.2.2.2.1 (.fieldLink RX11 42 "SilkMill" "store" "LSilkMill$Store;") (by decide +kernel)) rfl (Or.inr ⟨rfl, hin, rfl⟩) (fun _ => rfl) rfl (fun _ => rfl) rfl (Nat.le_of_ble_eq_true rfl) (st_1107 _ _) dX11_init_60 (fun H locs hw => ?_)
  obtain ⟨S_151, eS_151⟩ : ∃ T, T = sR S_132 1107 x (some q_124) := ⟨_, rfl⟩
  rw [← eS_151] at hw
  have ph_152 : Phc S_151 = Phc S + 320 := (show Phc S_151 = Phc S_132 from Ph_rawR t_150 (by decide) eS_151).trans ph_146
  have ph_153 : Phs S_151 = Phs S + 604000 := (show Phs S_151 = Phs S_132 from Ph_rawR t_150 (by decide) eS_151).trans ph_147
  clear ph_146
  clear ph_147
  have hK_154 : Kq S S_151 x := hK_145.sR eS_151
  have hg_155 : GX S_151 := by rw [eS_151]; exact GX_rawR hg_134 t_150 (by decide +kernel)
  have h_156 : pR S_151 1107 x = some q_124 := tR_sRs eS_151
  refine lv_aload_n X.1 X.2.1 dX11_init_63 rfl (lv_at hl 0 rfl) ?_
  refine r_new X hw 181 1 1439 23 rfl tyX1 (by decide) rfl inn_X11_init_1 tyX1_ok (X.2.2.2.1 (.classLink RX11 46 RX1) (by decide +kernel)) (X.2.2.2.1 (.instantiable RX1 4) (by decide +kernel)) (X.2.2.2.1 (.initialized RX1) (by decide +kernel)) (zo_1 _) zd_1 (by show 22 + 1 ≤ 23; omega) (by show 1435 + 4 ≤ 1439; omega) (by show 23 ≤ 58; omega) (by show 1439 ≤ 1728; omega) dX11_init_64 (fun q_157 H hq_157 hw => ?_)
  obtain ⟨S_158, eS_158⟩ : ∃ T, T = sO S_151 q_157 181 := ⟨_, rfl⟩
  rw [← eS_158] at hw
  have ph_159 : Phc S_158 = Phc S + 320 := (show Phc S_158 = Phc S_151 from Ph_sO hg_155 hq_157 eS_158 (by decide)).trans ph_152
  have ph_160 : Phs S_158 = Phs S + 604000 := (show Phs S_158 = Phs S_151 from Ph_sO hg_155 hq_157 eS_158 (by decide)).trans ph_153
  clear ph_152
  clear ph_153
  have hK_161 : Kq S S_158 x := hK_154.sO hq_157 eS_158
  have hg_162 : GX S_158 := by rw [eS_158]; exact GX_O hg_155 hq_157 (by decide +kernel)
  have hn0_q_157 := hK_154.new hq_157
  have ha_163 : At S_158 q_157 181 := by rw [eS_158]; exact At_nO _ _ _
  have hzI_q_157 : ∀ g, pI S_158 g q_157 = 0 := fun g => by rw [eS_158]; exact pI_sO_new
  have hzR_q_157 : ∀ g, pR S_158 g q_157 = none := fun g => by rw [eS_158]; exact if_pos rfl
  refine lv_dup X.1 X.2.1 dX11_init_67 rfl ?_
  refine k_v (rm := { frames := 2, cells := 1, slots := 5, locals := 96 }) (av := [.ref q_157]) X hw (va_runIN (As := []) (rest := [.ref q_157, .ref x]) (cfix X) (k_X1_init l G cy κ S_158 _ q_157 hg_162 ha_163 hzI_q_157 hzR_q_157) ⟨(va_cnB (host := RX11) 0 X.2.2.2.1 gX11_init_X1_init_n48 rfl rfl rfl (X.2.2.2.2.2.2.2.1.2.1 (RX11, 48, yX1_init) (by decide +kernel)) (X.2.2.2.1 (.initialized RX1) (by decide +kernel)) (by decide +kernel) ⟨Nat.le_of_ble_eq_true rfl, Nat.le_of_ble_eq_true rfl⟩), rfl, (X.2.2.2.1 (.instanceMethod yX1_init) (by decide +kernel))⟩ (pre_S X hw _) rfl rfl hl.1 rfl (lv_room (Nat.le_of_ble_eq_true rfl)) dX11_init_68 ⟨(by show 23 + 1 ≤ 58; omega), (by show 1439 + 5 ≤ 1728; omega)⟩) 24 1444 (by show 23 + 1 ≤ 24; omega) (by show 1439 + 5 ≤ 1444; omega) (fun S_165 H locs hp hw hfr hnw => ?_)
  obtain ⟨hK_166, hg_167, ha_168, ph_169, ph_170⟩ := hp
  have hK_171 : Kq S S_165 x := hK_161.sub hn0_q_157 hK_166
  have ph_172 : Phc S_165 = Phc S + 320 := by omega
  have ph_173 : Phs S_165 = Phs S + 604000 := by omega
  clear ph_159
  clear ph_160
  clear ph_169
  clear ph_170
  have t_174 : At S_151 x 191 := tAt_sR eS_151 t_150
  have t_175 : At S_158 x 191 := by rw [eS_158]; exact At_sO t_174 hq_157
  have t_176 : At S_165 x 191 := hK_166.at ha_163 t_175 (by decide)
  refine r_putR X hw t_176 rfl 8 1108 (some q_157) rfl tyX11 (by decide) rfl inn_X11_init_11 tyX11_ok nmX11 (by decide) (X.2.2.2.1 (.fieldLink RX11 49 "SilkMill" "latestDraw" "LSilkMill$Draw;") (by decide +kernel)) rfl (Or.inr ⟨rfl, hin, rfl⟩) (fun _ => rfl) rfl (fun _ => rfl) rfl (Nat.le_of_ble_eq_true rfl) (st_1108 _ _) dX11_init_71 (fun H locs hw => ?_)
  obtain ⟨S_177, eS_177⟩ : ∃ T, T = sR S_165 1108 x (some q_157) := ⟨_, rfl⟩
  rw [← eS_177] at hw
  have ph_178 : Phc S_177 = Phc S + 320 := (show Phc S_177 = Phc S_165 from Ph_rawR t_176 (by decide) eS_177).trans ph_172
  have ph_179 : Phs S_177 = Phs S + 604000 := (show Phs S_177 = Phs S_165 from Ph_rawR t_176 (by decide) eS_177).trans ph_173
  clear ph_172
  clear ph_173
  have hK_180 : Kq S S_177 x := hK_171.sR eS_177
  have hg_181 : GX S_177 := by rw [eS_177]; exact GX_rawR hg_167 t_176 (by decide +kernel)
  have h_182 : pR S_177 1108 x = some q_157 := tR_sRs eS_177
  refine lv_aload_n X.1 X.2.1 dX11_init_74 rfl (lv_at hl 0 rfl) ?_
  refine lv_bipush (v := 16) X.1 X.2.1 dX11_init_75 (by decide) ?_
  refine r_newQ (N := 16) (C := RX3) X hw 17 17 1460 25 rfl (by decide) rfl (X.2.2.2.1 (.classLink RX11 53 RX3) (by decide +kernel)) X.2.2.2.2.2.2.2.1.1.2.1 (z_nn ti_16 (by omega)) (by decide) (by decide) (by show 24 + 1 ≤ 25; omega) (by show 1444 + 16 ≤ 1460; omega) (by show 25 ≤ 58; omega) (by show 1460 ≤ 1728; omega) dX11_init_77 (fun q_183 H hq_183 hw => ?_)
  obtain ⟨S_184, eS_184⟩ : ∃ T, T = sN S_177 q_183 17 16 := ⟨_, rfl⟩
  rw [← eS_184] at hw
  have ph_185 : Phc S_184 = Phc S + 320 := (show Phc S_184 = Phc S_177 from Ph_sN' hg_181.ci hq_183 eS_184 (by decide)).trans ph_178
  have ph_186 : Phs S_184 = Phs S + 604000 := (show Phs S_184 = Phs S_177 from Ph_sN' hg_181.ci hq_183 eS_184 (by decide)).trans ph_179
  clear ph_178
  clear ph_179
  have hK_187 : Kq S S_184 x := hK_180.sN hq_183 eS_184
  have hg_188 : GX S_184 := by rw [eS_184]; exact GX_N hg_181 hq_183 (by decide +kernel)
  have hn0_q_183 := hK_180.new hq_183
  have ha_189 : At S_184 q_183 17 := by rw [eS_184]; exact At_nN _ _ _ _
  have hn_190 : pN S_184 q_183 = 16 := by rw [eS_184]; exact pN_sN_new
  have t_191 : At S_177 x 191 := tAt_sR eS_177 t_176
  have t_192 : At S_184 x 191 := by rw [eS_184]; exact At_sN t_191 hq_183
  refine r_putR X hw t_192 rfl 9 1109 (some q_183) rfl tyX11 (by decide) rfl inn_X11_init_11 tyX11_ok nmX11 (by decide) (X.2.2.2.1 (.fieldLink RX11 55 "SilkMill" "shelf" "[LSilkMill$Place;") (by decide +kernel)) rfl (Or.inr ⟨rfl, hin, rfl⟩) (fun _ => rfl) rfl (fun _ => rfl) rfl (Nat.le_of_ble_eq_true rfl) (st_1109 _ _) dX11_init_80 (fun H locs hw => ?_)
  obtain ⟨S_193, eS_193⟩ : ∃ T, T = sR S_184 1109 x (some q_183) := ⟨_, rfl⟩
  rw [← eS_193] at hw
  have ph_194 : Phc S_193 = Phc S + 320 := (show Phc S_193 = Phc S_184 from Ph_rawR t_192 (by decide) eS_193).trans ph_185
  have ph_195 : Phs S_193 = Phs S + 604000 := (show Phs S_193 = Phs S_184 from Ph_rawR t_192 (by decide) eS_193).trans ph_186
  clear ph_185
  clear ph_186
  have hK_196 : Kq S S_193 x := hK_187.sR eS_193
  have hg_197 : GX S_193 := by rw [eS_193]; exact GX_rawR hg_188 t_192 (by decide +kernel)
  have h_198 : pR S_193 1109 x = some q_183 := tR_sRs eS_193
  refine lv_aload_n X.1 X.2.1 dX11_init_83 rfl (lv_at hl 0 rfl) ?_
  refine lv_bipush (v := 60) X.1 X.2.1 dX11_init_84 (by decide) ?_
  refine r_newI (N := 60) X hw 194 1520 26 rfl (X.2.2.2.1 (.arrayClass .int) (by decide +kernel)) (z_nn ti_60 (by omega)) (by decide) (by decide) (by show 25 + 1 ≤ 26; omega) (by show 1460 + 60 ≤ 1520; omega) (by show 26 ≤ 58; omega) (by show 1520 ≤ 1728; omega) dX11_init_86 (fun q_199 H hq_199 hw => ?_)
  obtain ⟨S_200, eS_200⟩ : ∃ T, T = sN S_193 q_199 194 60 := ⟨_, rfl⟩
  rw [← eS_200] at hw
  have ph_201 : Phc S_200 = Phc S + 320 := (show Phc S_200 = Phc S_193 from Ph_sN' hg_197.ci hq_199 eS_200 (by decide)).trans ph_194
  have ph_202 : Phs S_200 = Phs S + 604000 := (show Phs S_200 = Phs S_193 from Ph_sN' hg_197.ci hq_199 eS_200 (by decide)).trans ph_195
  clear ph_194
  clear ph_195
  have hK_203 : Kq S S_200 x := hK_196.sN hq_199 eS_200
  have hg_204 : GX S_200 := by rw [eS_200]; exact GX_N hg_197 hq_199 (by decide +kernel)
  have hn0_q_199 := hK_196.new hq_199
  have ha_205 : At S_200 q_199 194 := by rw [eS_200]; exact At_nN _ _ _ _
  have hn_206 : pN S_200 q_199 = 60 := by rw [eS_200]; exact pN_sN_new
  have t_207 : At S_193 x 191 := tAt_sR eS_193 t_192
  have t_208 : At S_200 x 191 := by rw [eS_200]; exact At_sN t_207 hq_199
  refine r_putR X hw t_208 rfl 11 1111 (some q_199) rfl tyX11 (by decide) rfl inn_X11_init_11 tyX11_ok nmX11 (by decide) (X.2.2.2.1 (.fieldLink RX11 59 "SilkMill" "idle" "[I") (by decide +kernel)) rfl (Or.inr ⟨rfl, hin, rfl⟩) (fun _ => rfl) rfl (fun _ => rfl) rfl (Nat.le_of_ble_eq_true rfl) (st_1111 _ _) dX11_init_88 (fun H locs hw => ?_)
  obtain ⟨S_209, eS_209⟩ : ∃ T, T = sR S_200 1111 x (some q_199) := ⟨_, rfl⟩
  rw [← eS_209] at hw
  have ph_210 : Phc S_209 = Phc S + 320 := (show Phc S_209 = Phc S_200 from Ph_rawR t_208 (by decide) eS_209).trans ph_201
  have ph_211 : Phs S_209 = Phs S + 604000 := (show Phs S_209 = Phs S_200 from Ph_rawR t_208 (by decide) eS_209).trans ph_202
  clear ph_201
  clear ph_202
  have hK_212 : Kq S S_209 x := hK_203.sR eS_209
  have hg_213 : GX S_209 := by rw [eS_209]; exact GX_rawR hg_204 t_208 (by decide +kernel)
  have h_214 : pR S_209 1111 x = some q_199 := tR_sRs eS_209
  refine lv_iconst (v := 0) X.1 X.2.1 dX11_init_91 (by decide) ?_
  have t_215 : pR S_200 1109 x = some q_183 := by rw [eS_200, pR_sN]; exact h_198
  have t_216 : pR S_209 1109 x = some q_183 := tR_sR eS_209 rfl t_215
  refine lv_istore_n (lv' := [(1, .int 0), (0, .ref x)]) X.1 X.2.1 dX11_init_92 rfl hl (by decide) rfl (fun ls hl => ?_)
  have t_223 : At S_151 x 191 := tAt_sR eS_151 t_150
  have t_222 : pR S_158 1107 x = some q_124 := by rw [eS_158]; exact (pR_sO_ne (ne_of_new hq_157 t_223.1)).trans h_156
  have t_225 : At S_158 x 191 := by rw [eS_158]; exact At_sO t_223 hq_157
  have t_224 : pR S_165 1107 x = some q_124 := (((hK_166 x t_225.1).2 (At_ne t_225 ha_163 (by decide))).2.2.1 1107).trans t_222
  have t_226 : pR S_177 1107 x = some q_124 := tR_sR eS_177 rfl t_224
  have t_227 : pR S_184 1107 x = some q_124 := by rw [eS_184, pR_sN]; exact t_226
  have t_228 : pR S_193 1107 x = some q_124 := tR_sR eS_193 rfl t_227
  have t_229 : pR S_200 1107 x = some q_124 := by rw [eS_200, pR_sN]; exact t_228
  have t_230 : pR S_209 1107 x = some q_124 := tR_sR eS_209 rfl t_229
  have t_232 : At S_69 x 191 := tAt_sR eS_69 t_68
  have t_231 : pR S_76 1105 x = some q_48 := by rw [eS_76]; exact (pR_sO_ne (ne_of_new hq_75 t_232.1)).trans h_74
  have t_234 : At S_76 x 191 := by rw [eS_76]; exact At_sO t_232 hq_75
  have t_233 : pR S_83 1105 x = some q_48 := (((hK_84 x t_234.1).2 (At_ne t_234 ha_81 (by decide))).2.2.1 1105).trans t_231
  have t_235 : pR S_118 1105 x = some q_48 := tR_sR eS_118 rfl t_233
  have t_237 : At S_118 x 191 := tAt_sR eS_118 t_117
  have t_236 : pR S_125 1105 x = some q_48 := by rw [eS_125]; exact (pR_sO_ne (ne_of_new hq_124 t_237.1)).trans t_235
  have t_239 : At S_125 x 191 := by rw [eS_125]; exact At_sO t_237 hq_124
  have t_238 : pR S_132 1105 x = some q_48 := (((hK_133 x t_239.1).2 (At_ne t_239 ha_130 (by decide))).2.2.1 1105).trans t_236
  have t_240 : pR S_151 1105 x = some q_48 := tR_sR eS_151 rfl t_238
  have t_241 : pR S_158 1105 x = some q_48 := by rw [eS_158]; exact (pR_sO_ne (ne_of_new hq_157 t_223.1)).trans t_240
  have t_242 : pR S_165 1105 x = some q_48 := (((hK_166 x t_225.1).2 (At_ne t_225 ha_163 (by decide))).2.2.1 1105).trans t_241
  have t_243 : pR S_177 1105 x = some q_48 := tR_sR eS_177 rfl t_242
  have t_244 : pR S_184 1105 x = some q_48 := by rw [eS_184, pR_sN]; exact t_243
  have t_245 : pR S_193 1105 x = some q_48 := tR_sR eS_193 rfl t_244
  have t_246 : pR S_200 1105 x = some q_48 := by rw [eS_200, pR_sN]; exact t_245
  have t_247 : pR S_209 1105 x = some q_48 := tR_sR eS_209 rfl t_246
  have t_248 : pI S_2 1102 x = 0 := by rw [eS_2, pI_sN]; exact (hzI 1102)
  have t_249 : pI S_10 1102 x = 0 := tI_sR eS_10 t_248
  have t_250 : pI S_17 1102 x = 0 := by rw [eS_17, pI_sN]; exact t_249
  have t_251 : pI S_26 1102 x = 0 := tI_sR eS_26 t_250
  have t_252 : pI S_33 1102 x = 0 := by rw [eS_33, pI_sN]; exact t_251
  have t_253 : pI S_42 1102 x = 0 := tI_sR eS_42 t_252
  have t_255 : At S_42 x 191 := tAt_sR eS_42 t_41
  have t_254 : pI S_49 1102 x = 0 := by rw [eS_49]; exact (pI_sO_ne (ne_of_new hq_48 t_255.1)).trans t_253
  have t_257 : At S_49 x 191 := by rw [eS_49]; exact At_sO t_255 hq_48
  have t_256 : pI S_56 1102 x = 0 := (((hK_57 x t_257.1).2 (At_ne t_257 ha_54 (by decide))).2.1 1102).trans t_254
  have t_258 : pI S_69 1102 x = 0 := tI_sR eS_69 t_256
  have t_259 : pI S_76 1102 x = 0 := by rw [eS_76]; exact (pI_sO_ne (ne_of_new hq_75 t_232.1)).trans t_258
  have t_260 : pI S_83 1102 x = 0 := (((hK_84 x t_234.1).2 (At_ne t_234 ha_81 (by decide))).2.1 1102).trans t_259
  have t_261 : pI S_118 1102 x = 0 := tI_sR eS_118 t_260
  have t_262 : pI S_125 1102 x = 0 := by rw [eS_125]; exact (pI_sO_ne (ne_of_new hq_124 t_237.1)).trans t_261
  have t_263 : pI S_132 1102 x = 0 := (((hK_133 x t_239.1).2 (At_ne t_239 ha_130 (by decide))).2.1 1102).trans t_262
  have t_264 : pI S_151 1102 x = 0 := tI_sR eS_151 t_263
  have t_265 : pI S_158 1102 x = 0 := by rw [eS_158]; exact (pI_sO_ne (ne_of_new hq_157 t_223.1)).trans t_264
  have t_266 : pI S_165 1102 x = 0 := (((hK_166 x t_225.1).2 (At_ne t_225 ha_163 (by decide))).2.1 1102).trans t_265
  have t_267 : pI S_177 1102 x = 0 := tI_sR eS_177 t_266
  have t_268 : pI S_184 1102 x = 0 := by rw [eS_184, pI_sN]; exact t_267
  have t_269 : pI S_193 1102 x = 0 := tI_sR eS_193 t_268
  have t_270 : pI S_200 1102 x = 0 := by rw [eS_200, pI_sN]; exact t_269
  have t_271 : pI S_209 1102 x = 0 := tI_sR eS_209 t_270
  have t_273 : pI S_2 1104 x = 0 := by rw [eS_2, pI_sN]; exact (hzI 1104)
  have t_274 : pI S_10 1104 x = 0 := tI_sR eS_10 t_273
  have t_275 : pI S_17 1104 x = 0 := by rw [eS_17, pI_sN]; exact t_274
  have t_276 : pI S_26 1104 x = 0 := tI_sR eS_26 t_275
  have t_277 : pI S_33 1104 x = 0 := by rw [eS_33, pI_sN]; exact t_276
  have t_278 : pI S_42 1104 x = 0 := tI_sR eS_42 t_277
  have t_279 : pI S_49 1104 x = 0 := by rw [eS_49]; exact (pI_sO_ne (ne_of_new hq_48 t_255.1)).trans t_278
  have t_280 : pI S_56 1104 x = 0 := (((hK_57 x t_257.1).2 (At_ne t_257 ha_54 (by decide))).2.1 1104).trans t_279
  have t_281 : pI S_69 1104 x = 0 := tI_sR eS_69 t_280
  have t_282 : pI S_76 1104 x = 0 := by rw [eS_76]; exact (pI_sO_ne (ne_of_new hq_75 t_232.1)).trans t_281
  have t_283 : pI S_83 1104 x = 0 := (((hK_84 x t_234.1).2 (At_ne t_234 ha_81 (by decide))).2.1 1104).trans t_282
  have t_284 : pI S_118 1104 x = 0 := tI_sR eS_118 t_283
  have t_285 : pI S_125 1104 x = 0 := by rw [eS_125]; exact (pI_sO_ne (ne_of_new hq_124 t_237.1)).trans t_284
  have t_286 : pI S_132 1104 x = 0 := (((hK_133 x t_239.1).2 (At_ne t_239 ha_130 (by decide))).2.1 1104).trans t_285
  have t_287 : pI S_151 1104 x = 0 := tI_sR eS_151 t_286
  have t_288 : pI S_158 1104 x = 0 := by rw [eS_158]; exact (pI_sO_ne (ne_of_new hq_157 t_223.1)).trans t_287
  have t_289 : pI S_165 1104 x = 0 := (((hK_166 x t_225.1).2 (At_ne t_225 ha_163 (by decide))).2.1 1104).trans t_288
  have t_290 : pI S_177 1104 x = 0 := tI_sR eS_177 t_289
  have t_291 : pI S_184 1104 x = 0 := by rw [eS_184, pI_sN]; exact t_290
  have t_292 : pI S_193 1104 x = 0 := tI_sR eS_193 t_291
  have t_293 : pI S_200 1104 x = 0 := by rw [eS_200, pI_sN]; exact t_292
  have t_294 : pI S_209 1104 x = 0 := tI_sR eS_209 t_293
  have t_296 : pI S_151 801 q_124 = 0 := tI_sR eS_151 kz_138
  have t_298 : At S_151 q_124 8 := tAt_sR eS_151 ha_135
  have t_297 : pI S_158 801 q_124 = 0 := by rw [eS_158]; exact (pI_sO_ne (ne_of_new hq_157 t_298.1)).trans t_296
  have t_300 : At S_158 q_124 8 := by rw [eS_158]; exact At_sO t_298 hq_157
  have t_299 : pI S_165 801 q_124 = 0 := (((hK_166 q_124 t_300.1).2 (At_ne t_300 ha_163 (by decide))).2.1 801).trans t_297
  have t_301 : pI S_177 801 q_124 = 0 := tI_sR eS_177 t_299
  have t_302 : pI S_184 801 q_124 = 0 := by rw [eS_184, pI_sN]; exact t_301
  have t_303 : pI S_193 801 q_124 = 0 := tI_sR eS_193 t_302
  have t_304 : pI S_200 801 q_124 = 0 := by rw [eS_200, pI_sN]; exact t_303
  have t_305 : pI S_209 801 q_124 = 0 := tI_sR eS_209 t_304
  have t_307 : pI S_69 1000 q_48 = 0 := tI_sR eS_69 kz_62
  have t_309 : At S_69 q_48 10 := tAt_sR eS_69 ha_59
  have t_308 : pI S_76 1000 q_48 = 0 := by rw [eS_76]; exact (pI_sO_ne (ne_of_new hq_75 t_309.1)).trans t_307
  have t_311 : At S_76 q_48 10 := by rw [eS_76]; exact At_sO t_309 hq_75
  have t_310 : pI S_83 1000 q_48 = 0 := (((hK_84 q_48 t_311.1).2 (At_ne t_311 ha_81 (by decide))).2.1 1000).trans t_308
  have t_312 : pI S_118 1000 q_48 = 0 := tI_sR eS_118 t_310
  have t_314 : At S_83 q_48 10 := hK_84.at ha_81 t_311 (by decide)
  have t_315 : At S_118 q_48 10 := tAt_sR eS_118 t_314
  have t_313 : pI S_125 1000 q_48 = 0 := by rw [eS_125]; exact (pI_sO_ne (ne_of_new hq_124 t_315.1)).trans t_312
  have t_317 : At S_125 q_48 10 := by rw [eS_125]; exact At_sO t_315 hq_124
  have t_316 : pI S_132 1000 q_48 = 0 := (((hK_133 q_48 t_317.1).2 (At_ne t_317 ha_130 (by decide))).2.1 1000).trans t_313
  have t_318 : pI S_151 1000 q_48 = 0 := tI_sR eS_151 t_316
  have t_320 : At S_132 q_48 10 := hK_133.at ha_130 t_317 (by decide)
  have t_321 : At S_151 q_48 10 := tAt_sR eS_151 t_320
  have t_319 : pI S_158 1000 q_48 = 0 := by rw [eS_158]; exact (pI_sO_ne (ne_of_new hq_157 t_321.1)).trans t_318
  have t_323 : At S_158 q_48 10 := by rw [eS_158]; exact At_sO t_321 hq_157
  have t_322 : pI S_165 1000 q_48 = 0 := (((hK_166 q_48 t_323.1).2 (At_ne t_323 ha_163 (by decide))).2.1 1000).trans t_319
  have t_324 : pI S_177 1000 q_48 = 0 := tI_sR eS_177 t_322
  have t_325 : pI S_184 1000 q_48 = 0 := by rw [eS_184, pI_sN]; exact t_324
  have t_326 : pI S_193 1000 q_48 = 0 := tI_sR eS_193 t_325
  have t_327 : pI S_200 1000 q_48 = 0 := by rw [eS_200, pI_sN]; exact t_326
  have t_328 : pI S_209 1000 q_48 = 0 := tI_sR eS_209 t_327
  have t_330 : pI S_151 800 q_124 = 0 := tI_sR eS_151 kz_139
  have t_331 : pI S_158 800 q_124 = 0 := by rw [eS_158]; exact (pI_sO_ne (ne_of_new hq_157 t_298.1)).trans t_330
  have t_332 : pI S_165 800 q_124 = 0 := (((hK_166 q_124 t_300.1).2 (At_ne t_300 ha_163 (by decide))).2.1 800).trans t_331
  have t_333 : pI S_177 800 q_124 = 0 := tI_sR eS_177 t_332
  have t_334 : pI S_184 800 q_124 = 0 := by rw [eS_184, pI_sN]; exact t_333
  have t_335 : pI S_193 800 q_124 = 0 := tI_sR eS_193 t_334
  have t_336 : pI S_200 800 q_124 = 0 := by rw [eS_200, pI_sN]; exact t_335
  have t_337 : pI S_209 800 q_124 = 0 := tI_sR eS_209 t_336
  have t_339 : pI S_151 806 q_124 = 0 := tI_sR eS_151 kz_140
  have t_340 : pI S_158 806 q_124 = 0 := by rw [eS_158]; exact (pI_sO_ne (ne_of_new hq_157 t_298.1)).trans t_339
  have t_341 : pI S_165 806 q_124 = 0 := (((hK_166 q_124 t_300.1).2 (At_ne t_300 ha_163 (by decide))).2.1 806).trans t_340
  have t_342 : pI S_177 806 q_124 = 0 := tI_sR eS_177 t_341
  have t_343 : pI S_184 806 q_124 = 0 := by rw [eS_184, pI_sN]; exact t_342
  have t_344 : pI S_193 806 q_124 = 0 := tI_sR eS_193 t_343
  have t_345 : pI S_200 806 q_124 = 0 := by rw [eS_200, pI_sN]; exact t_344
  have t_346 : pI S_209 806 q_124 = 0 := tI_sR eS_209 t_345
  have t_348 : pI S_151 802 q_124 = 0 := tI_sR eS_151 kz_141
  have t_349 : pI S_158 802 q_124 = 0 := by rw [eS_158]; exact (pI_sO_ne (ne_of_new hq_157 t_298.1)).trans t_348
  have t_350 : pI S_165 802 q_124 = 0 := (((hK_166 q_124 t_300.1).2 (At_ne t_300 ha_163 (by decide))).2.1 802).trans t_349
  have t_351 : pI S_177 802 q_124 = 0 := tI_sR eS_177 t_350
  have t_352 : pI S_184 802 q_124 = 0 := by rw [eS_184, pI_sN]; exact t_351
  have t_353 : pI S_193 802 q_124 = 0 := tI_sR eS_193 t_352
  have t_354 : pI S_200 802 q_124 = 0 := by rw [eS_200, pI_sN]; exact t_353
  have t_355 : pI S_209 802 q_124 = 0 := tI_sR eS_209 t_354
  have t_357 : pI S_151 803 q_124 = 0 := tI_sR eS_151 kz_142
  have t_358 : pI S_158 803 q_124 = 0 := by rw [eS_158]; exact (pI_sO_ne (ne_of_new hq_157 t_298.1)).trans t_357
  have t_359 : pI S_165 803 q_124 = 0 := (((hK_166 q_124 t_300.1).2 (At_ne t_300 ha_163 (by decide))).2.1 803).trans t_358
  have t_360 : pI S_177 803 q_124 = 0 := tI_sR eS_177 t_359
  have t_361 : pI S_184 803 q_124 = 0 := by rw [eS_184, pI_sN]; exact t_360
  have t_362 : pI S_193 803 q_124 = 0 := tI_sR eS_193 t_361
  have t_363 : pI S_200 803 q_124 = 0 := by rw [eS_200, pI_sN]; exact t_362
  have t_364 : pI S_209 803 q_124 = 0 := tI_sR eS_209 t_363
  have t_366 : pI S_151 804 q_124 = 0 := tI_sR eS_151 kz_143
  have t_367 : pI S_158 804 q_124 = 0 := by rw [eS_158]; exact (pI_sO_ne (ne_of_new hq_157 t_298.1)).trans t_366
  have t_368 : pI S_165 804 q_124 = 0 := (((hK_166 q_124 t_300.1).2 (At_ne t_300 ha_163 (by decide))).2.1 804).trans t_367
  have t_369 : pI S_177 804 q_124 = 0 := tI_sR eS_177 t_368
  have t_370 : pI S_184 804 q_124 = 0 := by rw [eS_184, pI_sN]; exact t_369
  have t_371 : pI S_193 804 q_124 = 0 := tI_sR eS_193 t_370
  have t_372 : pI S_200 804 q_124 = 0 := by rw [eS_200, pI_sN]; exact t_371
  have t_373 : pI S_209 804 q_124 = 0 := tI_sR eS_209 t_372
  have t_375 : pI S_151 805 q_124 = 0 := tI_sR eS_151 kz_144
  have t_376 : pI S_158 805 q_124 = 0 := by rw [eS_158]; exact (pI_sO_ne (ne_of_new hq_157 t_298.1)).trans t_375
  have t_377 : pI S_165 805 q_124 = 0 := (((hK_166 q_124 t_300.1).2 (At_ne t_300 ha_163 (by decide))).2.1 805).trans t_376
  have t_378 : pI S_177 805 q_124 = 0 := tI_sR eS_177 t_377
  have t_379 : pI S_184 805 q_124 = 0 := by rw [eS_184, pI_sN]; exact t_378
  have t_380 : pI S_193 805 q_124 = 0 := tI_sR eS_193 t_379
  have t_381 : pI S_200 805 q_124 = 0 := by rw [eS_200, pI_sN]; exact t_380
  have t_382 : pI S_209 805 q_124 = 0 := tI_sR eS_209 t_381
  have t_384 : pI S_2 1110 x = 0 := by rw [eS_2, pI_sN]; exact (hzI 1110)
  have t_385 : pI S_10 1110 x = 0 := tI_sR eS_10 t_384
  have t_386 : pI S_17 1110 x = 0 := by rw [eS_17, pI_sN]; exact t_385
  have t_387 : pI S_26 1110 x = 0 := tI_sR eS_26 t_386
  have t_388 : pI S_33 1110 x = 0 := by rw [eS_33, pI_sN]; exact t_387
  have t_389 : pI S_42 1110 x = 0 := tI_sR eS_42 t_388
  have t_390 : pI S_49 1110 x = 0 := by rw [eS_49]; exact (pI_sO_ne (ne_of_new hq_48 t_255.1)).trans t_389
  have t_391 : pI S_56 1110 x = 0 := (((hK_57 x t_257.1).2 (At_ne t_257 ha_54 (by decide))).2.1 1110).trans t_390
  have t_392 : pI S_69 1110 x = 0 := tI_sR eS_69 t_391
  have t_393 : pI S_76 1110 x = 0 := by rw [eS_76]; exact (pI_sO_ne (ne_of_new hq_75 t_232.1)).trans t_392
  have t_394 : pI S_83 1110 x = 0 := (((hK_84 x t_234.1).2 (At_ne t_234 ha_81 (by decide))).2.1 1110).trans t_393
  have t_395 : pI S_118 1110 x = 0 := tI_sR eS_118 t_394
  have t_396 : pI S_125 1110 x = 0 := by rw [eS_125]; exact (pI_sO_ne (ne_of_new hq_124 t_237.1)).trans t_395
  have t_397 : pI S_132 1110 x = 0 := (((hK_133 x t_239.1).2 (At_ne t_239 ha_130 (by decide))).2.1 1110).trans t_396
  have t_398 : pI S_151 1110 x = 0 := tI_sR eS_151 t_397
  have t_399 : pI S_158 1110 x = 0 := by rw [eS_158]; exact (pI_sO_ne (ne_of_new hq_157 t_223.1)).trans t_398
  have t_400 : pI S_165 1110 x = 0 := (((hK_166 x t_225.1).2 (At_ne t_225 ha_163 (by decide))).2.1 1110).trans t_399
  have t_401 : pI S_177 1110 x = 0 := tI_sR eS_177 t_400
  have t_402 : pI S_184 1110 x = 0 := by rw [eS_184, pI_sN]; exact t_401
  have t_403 : pI S_193 1110 x = 0 := tI_sR eS_193 t_402
  have t_404 : pI S_200 1110 x = 0 := by rw [eS_200, pI_sN]; exact t_403
  have t_405 : pI S_209 1110 x = 0 := tI_sR eS_209 t_404
  have t_407 : pR S_17 1100 x = some q_1 := by rw [eS_17, pR_sN]; exact h_15
  have t_408 : pR S_26 1100 x = some q_1 := tR_sR eS_26 rfl t_407
  have t_409 : pR S_33 1100 x = some q_1 := by rw [eS_33, pR_sN]; exact t_408
  have t_410 : pR S_42 1100 x = some q_1 := tR_sR eS_42 rfl t_409
  have t_411 : pR S_49 1100 x = some q_1 := by rw [eS_49]; exact (pR_sO_ne (ne_of_new hq_48 t_255.1)).trans t_410
  have t_412 : pR S_56 1100 x = some q_1 := (((hK_57 x t_257.1).2 (At_ne t_257 ha_54 (by decide))).2.2.1 1100).trans t_411
  have t_413 : pR S_69 1100 x = some q_1 := tR_sR eS_69 rfl t_412
  have t_414 : pR S_76 1100 x = some q_1 := by rw [eS_76]; exact (pR_sO_ne (ne_of_new hq_75 t_232.1)).trans t_413
  have t_415 : pR S_83 1100 x = some q_1 := (((hK_84 x t_234.1).2 (At_ne t_234 ha_81 (by decide))).2.2.1 1100).trans t_414
  have t_416 : pR S_118 1100 x = some q_1 := tR_sR eS_118 rfl t_415
  have t_417 : pR S_125 1100 x = some q_1 := by rw [eS_125]; exact (pR_sO_ne (ne_of_new hq_124 t_237.1)).trans t_416
  have t_418 : pR S_132 1100 x = some q_1 := (((hK_133 x t_239.1).2 (At_ne t_239 ha_130 (by decide))).2.2.1 1100).trans t_417
  have t_419 : pR S_151 1100 x = some q_1 := tR_sR eS_151 rfl t_418
  have t_420 : pR S_158 1100 x = some q_1 := by rw [eS_158]; exact (pR_sO_ne (ne_of_new hq_157 t_223.1)).trans t_419
  have t_421 : pR S_165 1100 x = some q_1 := (((hK_166 x t_225.1).2 (At_ne t_225 ha_163 (by decide))).2.2.1 1100).trans t_420
  have t_422 : pR S_177 1100 x = some q_1 := tR_sR eS_177 rfl t_421
  have t_423 : pR S_184 1100 x = some q_1 := by rw [eS_184, pR_sN]; exact t_422
  have t_424 : pR S_193 1100 x = some q_1 := tR_sR eS_193 rfl t_423
  have t_425 : pR S_200 1100 x = some q_1 := by rw [eS_200, pR_sN]; exact t_424
  have t_426 : pR S_209 1100 x = some q_1 := tR_sR eS_209 rfl t_425
  have t_429 : pN S_10 q_1 = 600 := tN_sR eS_10 hn_8
  clear hn_8
  have t_431 : At S_10 q_1 36 := tAt_sR eS_10 ha_7
  have t_430 : pN S_17 q_1 = 600 := by rw [eS_17]; exact (pN_sN_ne (ne_of_new hq_16 t_431.1)).trans t_429
  clear t_429
  have t_432 : pN S_26 q_1 = 600 := tN_sR eS_26 t_430
  clear t_430
  have t_434 : At S_17 q_1 36 := by rw [eS_17]; exact At_sN t_431 hq_16
  have t_435 : At S_26 q_1 36 := tAt_sR eS_26 t_434
  have t_433 : pN S_33 q_1 = 600 := by rw [eS_33]; exact (pN_sN_ne (ne_of_new hq_32 t_435.1)).trans t_432
  clear t_432
  have t_436 : pN S_42 q_1 = 600 := tN_sR eS_42 t_433
  clear t_433
  have t_437 : pN S_49 q_1 = 600 := by rw [eS_49, pN_sO]; exact t_436
  clear t_436
  have t_439 : At S_33 q_1 36 := by rw [eS_33]; exact At_sN t_435 hq_32
  have t_440 : At S_42 q_1 36 := tAt_sR eS_42 t_439
  have t_441 : At S_49 q_1 36 := by rw [eS_49]; exact At_sO t_440 hq_48
  have t_438 : pN S_56 q_1 = 600 := ((hK_57 q_1 t_441.1).2 (At_ne t_441 ha_54 (by decide))).2.2.2.1.trans t_437
  clear t_437
  have t_442 : pN S_69 q_1 = 600 := tN_sR eS_69 t_438
  clear t_438
  have t_443 : pN S_76 q_1 = 600 := by rw [eS_76, pN_sO]; exact t_442
  clear t_442
  have t_445 : At S_56 q_1 36 := hK_57.at ha_54 t_441 (by decide)
  have t_446 : At S_69 q_1 36 := tAt_sR eS_69 t_445
  have t_447 : At S_76 q_1 36 := by rw [eS_76]; exact At_sO t_446 hq_75
  have t_444 : pN S_83 q_1 = 600 := ((hK_84 q_1 t_447.1).2 (At_ne t_447 ha_81 (by decide))).2.2.2.1.trans t_443
  clear t_443
  have t_448 : pN S_118 q_1 = 600 := tN_sR eS_118 t_444
  clear t_444
  have t_449 : pN S_125 q_1 = 600 := by rw [eS_125, pN_sO]; exact t_448
  clear t_448
  have t_451 : At S_83 q_1 36 := hK_84.at ha_81 t_447 (by decide)
  have t_452 : At S_118 q_1 36 := tAt_sR eS_118 t_451
  have t_453 : At S_125 q_1 36 := by rw [eS_125]; exact At_sO t_452 hq_124
  have t_450 : pN S_132 q_1 = 600 := ((hK_133 q_1 t_453.1).2 (At_ne t_453 ha_130 (by decide))).2.2.2.1.trans t_449
  clear t_449
  have t_454 : pN S_151 q_1 = 600 := tN_sR eS_151 t_450
  clear t_450
  have t_455 : pN S_158 q_1 = 600 := by rw [eS_158, pN_sO]; exact t_454
  clear t_454
  have t_457 : At S_132 q_1 36 := hK_133.at ha_130 t_453 (by decide)
  have t_458 : At S_151 q_1 36 := tAt_sR eS_151 t_457
  have t_459 : At S_158 q_1 36 := by rw [eS_158]; exact At_sO t_458 hq_157
  have t_456 : pN S_165 q_1 = 600 := ((hK_166 q_1 t_459.1).2 (At_ne t_459 ha_163 (by decide))).2.2.2.1.trans t_455
  clear t_455
  have t_460 : pN S_177 q_1 = 600 := tN_sR eS_177 t_456
  clear t_456
  have t_462 : At S_165 q_1 36 := hK_166.at ha_163 t_459 (by decide)
  have t_463 : At S_177 q_1 36 := tAt_sR eS_177 t_462
  have t_461 : pN S_184 q_1 = 600 := by rw [eS_184]; exact (pN_sN_ne (ne_of_new hq_183 t_463.1)).trans t_460
  clear t_460
  have t_464 : pN S_193 q_1 = 600 := tN_sR eS_193 t_461
  clear t_461
  have t_466 : At S_184 q_1 36 := by rw [eS_184]; exact At_sN t_463 hq_183
  have t_467 : At S_193 q_1 36 := tAt_sR eS_193 t_466
  have t_465 : pN S_200 q_1 = 600 := by rw [eS_200]; exact (pN_sN_ne (ne_of_new hq_199 t_467.1)).trans t_464
  clear t_464
  have t_468 : pN S_209 q_1 = 600 := tN_sR eS_209 t_465
  clear t_465
  have t_470 : pR S_33 1101 x = some q_16 := by rw [eS_33, pR_sN]; exact h_31
  have t_471 : pR S_42 1101 x = some q_16 := tR_sR eS_42 rfl t_470
  have t_472 : pR S_49 1101 x = some q_16 := by rw [eS_49]; exact (pR_sO_ne (ne_of_new hq_48 t_255.1)).trans t_471
  have t_473 : pR S_56 1101 x = some q_16 := (((hK_57 x t_257.1).2 (At_ne t_257 ha_54 (by decide))).2.2.1 1101).trans t_472
  have t_474 : pR S_69 1101 x = some q_16 := tR_sR eS_69 rfl t_473
  have t_475 : pR S_76 1101 x = some q_16 := by rw [eS_76]; exact (pR_sO_ne (ne_of_new hq_75 t_232.1)).trans t_474
  have t_476 : pR S_83 1101 x = some q_16 := (((hK_84 x t_234.1).2 (At_ne t_234 ha_81 (by decide))).2.2.1 1101).trans t_475
  have t_477 : pR S_118 1101 x = some q_16 := tR_sR eS_118 rfl t_476
  have t_478 : pR S_125 1101 x = some q_16 := by rw [eS_125]; exact (pR_sO_ne (ne_of_new hq_124 t_237.1)).trans t_477
  have t_479 : pR S_132 1101 x = some q_16 := (((hK_133 x t_239.1).2 (At_ne t_239 ha_130 (by decide))).2.2.1 1101).trans t_478
  have t_480 : pR S_151 1101 x = some q_16 := tR_sR eS_151 rfl t_479
  have t_481 : pR S_158 1101 x = some q_16 := by rw [eS_158]; exact (pR_sO_ne (ne_of_new hq_157 t_223.1)).trans t_480
  have t_482 : pR S_165 1101 x = some q_16 := (((hK_166 x t_225.1).2 (At_ne t_225 ha_163 (by decide))).2.2.1 1101).trans t_481
  have t_483 : pR S_177 1101 x = some q_16 := tR_sR eS_177 rfl t_482
  have t_484 : pR S_184 1101 x = some q_16 := by rw [eS_184, pR_sN]; exact t_483
  have t_485 : pR S_193 1101 x = some q_16 := tR_sR eS_193 rfl t_484
  have t_486 : pR S_200 1101 x = some q_16 := by rw [eS_200, pR_sN]; exact t_485
  have t_487 : pR S_209 1101 x = some q_16 := tR_sR eS_209 rfl t_486
  have t_490 : pN S_26 q_16 = 10 := tN_sR eS_26 hn_23
  clear hn_23
  have t_492 : At S_26 q_16 54 := tAt_sR eS_26 ha_22
  have t_491 : pN S_33 q_16 = 10 := by rw [eS_33]; exact (pN_sN_ne (ne_of_new hq_32 t_492.1)).trans t_490
  clear t_490
  have t_493 : pN S_42 q_16 = 10 := tN_sR eS_42 t_491
  clear t_491
  have t_494 : pN S_49 q_16 = 10 := by rw [eS_49, pN_sO]; exact t_493
  clear t_493
  have t_496 : At S_33 q_16 54 := by rw [eS_33]; exact At_sN t_492 hq_32
  have t_497 : At S_42 q_16 54 := tAt_sR eS_42 t_496
  have t_498 : At S_49 q_16 54 := by rw [eS_49]; exact At_sO t_497 hq_48
  have t_495 : pN S_56 q_16 = 10 := ((hK_57 q_16 t_498.1).2 (At_ne t_498 ha_54 (by decide))).2.2.2.1.trans t_494
  clear t_494
  have t_499 : pN S_69 q_16 = 10 := tN_sR eS_69 t_495
  clear t_495
  have t_500 : pN S_76 q_16 = 10 := by rw [eS_76, pN_sO]; exact t_499
  clear t_499
  have t_502 : At S_56 q_16 54 := hK_57.at ha_54 t_498 (by decide)
  have t_503 : At S_69 q_16 54 := tAt_sR eS_69 t_502
  have t_504 : At S_76 q_16 54 := by rw [eS_76]; exact At_sO t_503 hq_75
  have t_501 : pN S_83 q_16 = 10 := ((hK_84 q_16 t_504.1).2 (At_ne t_504 ha_81 (by decide))).2.2.2.1.trans t_500
  clear t_500
  have t_505 : pN S_118 q_16 = 10 := tN_sR eS_118 t_501
  clear t_501
  have t_506 : pN S_125 q_16 = 10 := by rw [eS_125, pN_sO]; exact t_505
  clear t_505
  have t_508 : At S_83 q_16 54 := hK_84.at ha_81 t_504 (by decide)
  have t_509 : At S_118 q_16 54 := tAt_sR eS_118 t_508
  have t_510 : At S_125 q_16 54 := by rw [eS_125]; exact At_sO t_509 hq_124
  have t_507 : pN S_132 q_16 = 10 := ((hK_133 q_16 t_510.1).2 (At_ne t_510 ha_130 (by decide))).2.2.2.1.trans t_506
  clear t_506
  have t_511 : pN S_151 q_16 = 10 := tN_sR eS_151 t_507
  clear t_507
  have t_512 : pN S_158 q_16 = 10 := by rw [eS_158, pN_sO]; exact t_511
  clear t_511
  have t_514 : At S_132 q_16 54 := hK_133.at ha_130 t_510 (by decide)
  have t_515 : At S_151 q_16 54 := tAt_sR eS_151 t_514
  have t_516 : At S_158 q_16 54 := by rw [eS_158]; exact At_sO t_515 hq_157
  have t_513 : pN S_165 q_16 = 10 := ((hK_166 q_16 t_516.1).2 (At_ne t_516 ha_163 (by decide))).2.2.2.1.trans t_512
  clear t_512
  have t_517 : pN S_177 q_16 = 10 := tN_sR eS_177 t_513
  clear t_513
  have t_519 : At S_165 q_16 54 := hK_166.at ha_163 t_516 (by decide)
  have t_520 : At S_177 q_16 54 := tAt_sR eS_177 t_519
  have t_518 : pN S_184 q_16 = 10 := by rw [eS_184]; exact (pN_sN_ne (ne_of_new hq_183 t_520.1)).trans t_517
  clear t_517
  have t_521 : pN S_193 q_16 = 10 := tN_sR eS_193 t_518
  clear t_518
  have t_523 : At S_184 q_16 54 := by rw [eS_184]; exact At_sN t_520 hq_183
  have t_524 : At S_193 q_16 54 := tAt_sR eS_193 t_523
  have t_522 : pN S_200 q_16 = 10 := by rw [eS_200]; exact (pN_sN_ne (ne_of_new hq_199 t_524.1)).trans t_521
  clear t_521
  have t_525 : pN S_209 q_16 = 10 := tN_sR eS_209 t_522
  clear t_522
  have t_527 : pR S_49 1103 x = some q_32 := by rw [eS_49]; exact (pR_sO_ne (ne_of_new hq_48 t_255.1)).trans h_47
  have t_528 : pR S_56 1103 x = some q_32 := (((hK_57 x t_257.1).2 (At_ne t_257 ha_54 (by decide))).2.2.1 1103).trans t_527
  have t_529 : pR S_69 1103 x = some q_32 := tR_sR eS_69 rfl t_528
  have t_530 : pR S_76 1103 x = some q_32 := by rw [eS_76]; exact (pR_sO_ne (ne_of_new hq_75 t_232.1)).trans t_529
  have t_531 : pR S_83 1103 x = some q_32 := (((hK_84 x t_234.1).2 (At_ne t_234 ha_81 (by decide))).2.2.1 1103).trans t_530
  have t_532 : pR S_118 1103 x = some q_32 := tR_sR eS_118 rfl t_531
  have t_533 : pR S_125 1103 x = some q_32 := by rw [eS_125]; exact (pR_sO_ne (ne_of_new hq_124 t_237.1)).trans t_532
  have t_534 : pR S_132 1103 x = some q_32 := (((hK_133 x t_239.1).2 (At_ne t_239 ha_130 (by decide))).2.2.1 1103).trans t_533
  have t_535 : pR S_151 1103 x = some q_32 := tR_sR eS_151 rfl t_534
  have t_536 : pR S_158 1103 x = some q_32 := by rw [eS_158]; exact (pR_sO_ne (ne_of_new hq_157 t_223.1)).trans t_535
  have t_537 : pR S_165 1103 x = some q_32 := (((hK_166 x t_225.1).2 (At_ne t_225 ha_163 (by decide))).2.2.1 1103).trans t_536
  have t_538 : pR S_177 1103 x = some q_32 := tR_sR eS_177 rfl t_537
  have t_539 : pR S_184 1103 x = some q_32 := by rw [eS_184, pR_sN]; exact t_538
  have t_540 : pR S_193 1103 x = some q_32 := tR_sR eS_193 rfl t_539
  have t_541 : pR S_200 1103 x = some q_32 := by rw [eS_200, pR_sN]; exact t_540
  have t_542 : pR S_209 1103 x = some q_32 := tR_sR eS_209 rfl t_541
  have t_545 : pN S_42 q_32 = 4 := tN_sR eS_42 hn_39
  clear hn_39
  have t_546 : pN S_49 q_32 = 4 := by rw [eS_49, pN_sO]; exact t_545
  clear t_545
  have t_548 : At S_42 q_32 18 := tAt_sR eS_42 ha_38
  have t_549 : At S_49 q_32 18 := by rw [eS_49]; exact At_sO t_548 hq_48
  have t_547 : pN S_56 q_32 = 4 := ((hK_57 q_32 t_549.1).2 (At_ne t_549 ha_54 (by decide))).2.2.2.1.trans t_546
  clear t_546
  have t_550 : pN S_69 q_32 = 4 := tN_sR eS_69 t_547
  clear t_547
  have t_551 : pN S_76 q_32 = 4 := by rw [eS_76, pN_sO]; exact t_550
  clear t_550
  have t_553 : At S_56 q_32 18 := hK_57.at ha_54 t_549 (by decide)
  have t_554 : At S_69 q_32 18 := tAt_sR eS_69 t_553
  have t_555 : At S_76 q_32 18 := by rw [eS_76]; exact At_sO t_554 hq_75
  have t_552 : pN S_83 q_32 = 4 := ((hK_84 q_32 t_555.1).2 (At_ne t_555 ha_81 (by decide))).2.2.2.1.trans t_551
  clear t_551
  have t_556 : pN S_118 q_32 = 4 := tN_sR eS_118 t_552
  clear t_552
  have t_557 : pN S_125 q_32 = 4 := by rw [eS_125, pN_sO]; exact t_556
  clear t_556
  have t_559 : At S_83 q_32 18 := hK_84.at ha_81 t_555 (by decide)
  have t_560 : At S_118 q_32 18 := tAt_sR eS_118 t_559
  have t_561 : At S_125 q_32 18 := by rw [eS_125]; exact At_sO t_560 hq_124
  have t_558 : pN S_132 q_32 = 4 := ((hK_133 q_32 t_561.1).2 (At_ne t_561 ha_130 (by decide))).2.2.2.1.trans t_557
  clear t_557
  have t_562 : pN S_151 q_32 = 4 := tN_sR eS_151 t_558
  clear t_558
  have t_563 : pN S_158 q_32 = 4 := by rw [eS_158, pN_sO]; exact t_562
  clear t_562
  have t_565 : At S_132 q_32 18 := hK_133.at ha_130 t_561 (by decide)
  have t_566 : At S_151 q_32 18 := tAt_sR eS_151 t_565
  have t_567 : At S_158 q_32 18 := by rw [eS_158]; exact At_sO t_566 hq_157
  have t_564 : pN S_165 q_32 = 4 := ((hK_166 q_32 t_567.1).2 (At_ne t_567 ha_163 (by decide))).2.2.2.1.trans t_563
  clear t_563
  have t_568 : pN S_177 q_32 = 4 := tN_sR eS_177 t_564
  clear t_564
  have t_570 : At S_165 q_32 18 := hK_166.at ha_163 t_567 (by decide)
  have t_571 : At S_177 q_32 18 := tAt_sR eS_177 t_570
  have t_569 : pN S_184 q_32 = 4 := by rw [eS_184]; exact (pN_sN_ne (ne_of_new hq_183 t_571.1)).trans t_568
  clear t_568
  have t_572 : pN S_193 q_32 = 4 := tN_sR eS_193 t_569
  clear t_569
  have t_574 : At S_184 q_32 18 := by rw [eS_184]; exact At_sN t_571 hq_183
  have t_575 : At S_193 q_32 18 := tAt_sR eS_193 t_574
  have t_573 : pN S_200 q_32 = 4 := by rw [eS_200]; exact (pN_sN_ne (ne_of_new hq_199 t_575.1)).trans t_572
  clear t_572
  have t_576 : pN S_209 q_32 = 4 := tN_sR eS_209 t_573
  clear t_573
  have t_580 : pR S_125 1106 x = some q_75 := by rw [eS_125]; exact (pR_sO_ne (ne_of_new hq_124 t_237.1)).trans h_123
  have t_581 : pR S_132 1106 x = some q_75 := (((hK_133 x t_239.1).2 (At_ne t_239 ha_130 (by decide))).2.2.1 1106).trans t_580
  have t_582 : pR S_151 1106 x = some q_75 := tR_sR eS_151 rfl t_581
  have t_583 : pR S_158 1106 x = some q_75 := by rw [eS_158]; exact (pR_sO_ne (ne_of_new hq_157 t_223.1)).trans t_582
  have t_584 : pR S_165 1106 x = some q_75 := (((hK_166 x t_225.1).2 (At_ne t_225 ha_163 (by decide))).2.2.1 1106).trans t_583
  have t_585 : pR S_177 1106 x = some q_75 := tR_sR eS_177 rfl t_584
  have t_586 : pR S_184 1106 x = some q_75 := by rw [eS_184, pR_sN]; exact t_585
  have t_587 : pR S_193 1106 x = some q_75 := tR_sR eS_193 rfl t_586
  have t_588 : pR S_200 1106 x = some q_75 := by rw [eS_200, pR_sN]; exact t_587
  have t_589 : pR S_209 1106 x = some q_75 := tR_sR eS_209 rfl t_588
  have t_594 : pR S_184 1108 x = some q_157 := by rw [eS_184, pR_sN]; exact h_182
  have t_595 : pR S_193 1108 x = some q_157 := tR_sR eS_193 rfl t_594
  have t_596 : pR S_200 1108 x = some q_157 := by rw [eS_200, pR_sN]; exact t_595
  have t_597 : pR S_209 1108 x = some q_157 := tR_sR eS_209 rfl t_596
  have t_602 : pN S_193 q_183 = 16 := tN_sR eS_193 hn_190
  clear hn_190
  have t_604 : At S_193 q_183 17 := tAt_sR eS_193 ha_189
  have t_603 : pN S_200 q_183 = 16 := by rw [eS_200]; exact (pN_sN_ne (ne_of_new hq_199 t_604.1)).trans t_602
  clear t_602
  have t_605 : pN S_209 q_183 = 16 := tN_sR eS_209 t_603
  clear t_603
  have t_609 : pN S_209 q_199 = 60 := tN_sR eS_209 hn_206
  clear hn_206
  have t_611 : pR S_118 601 q_75 = some q_94 := tR_sR eS_118 rfl h_95
  have t_613 : At S_118 q_75 6 := tAt_sR eS_118 ha_86
  have t_612 : pR S_125 601 q_75 = some q_94 := by rw [eS_125]; exact (pR_sO_ne (ne_of_new hq_124 t_613.1)).trans t_611
  have t_615 : At S_125 q_75 6 := by rw [eS_125]; exact At_sO t_613 hq_124
  have t_614 : pR S_132 601 q_75 = some q_94 := (((hK_133 q_75 t_615.1).2 (At_ne t_615 ha_130 (by decide))).2.2.1 601).trans t_612
  have t_616 : pR S_151 601 q_75 = some q_94 := tR_sR eS_151 rfl t_614
  have t_618 : At S_132 q_75 6 := hK_133.at ha_130 t_615 (by decide)
  have t_619 : At S_151 q_75 6 := tAt_sR eS_151 t_618
  have t_617 : pR S_158 601 q_75 = some q_94 := by rw [eS_158]; exact (pR_sO_ne (ne_of_new hq_157 t_619.1)).trans t_616
  have t_621 : At S_158 q_75 6 := by rw [eS_158]; exact At_sO t_619 hq_157
  have t_620 : pR S_165 601 q_75 = some q_94 := (((hK_166 q_75 t_621.1).2 (At_ne t_621 ha_163 (by decide))).2.2.1 601).trans t_617
  have t_622 : pR S_177 601 q_75 = some q_94 := tR_sR eS_177 rfl t_620
  have t_623 : pR S_184 601 q_75 = some q_94 := by rw [eS_184, pR_sN]; exact t_622
  have t_624 : pR S_193 601 q_75 = some q_94 := tR_sR eS_193 rfl t_623
  have t_625 : pR S_200 601 q_75 = some q_94 := by rw [eS_200, pR_sN]; exact t_624
  have t_626 : pR S_209 601 q_75 = some q_94 := tR_sR eS_209 rfl t_625
  have t_629 : pN S_118 q_94 = 12 := tN_sR eS_118 h_97
  clear h_97
  have t_630 : pN S_125 q_94 = 12 := by rw [eS_125, pN_sO]; exact t_629
  clear t_629
  have t_632 : At S_118 q_94 134 := tAt_sR eS_118 h_96
  have t_633 : At S_125 q_94 134 := by rw [eS_125]; exact At_sO t_632 hq_124
  have t_631 : pN S_132 q_94 = 12 := ((hK_133 q_94 t_633.1).2 (At_ne t_633 ha_130 (by decide))).2.2.2.1.trans t_630
  clear t_630
  have t_634 : pN S_151 q_94 = 12 := tN_sR eS_151 t_631
  clear t_631
  have t_635 : pN S_158 q_94 = 12 := by rw [eS_158, pN_sO]; exact t_634
  clear t_634
  have t_637 : At S_132 q_94 134 := hK_133.at ha_130 t_633 (by decide)
  have t_638 : At S_151 q_94 134 := tAt_sR eS_151 t_637
  have t_639 : At S_158 q_94 134 := by rw [eS_158]; exact At_sO t_638 hq_157
  have t_636 : pN S_165 q_94 = 12 := ((hK_166 q_94 t_639.1).2 (At_ne t_639 ha_163 (by decide))).2.2.2.1.trans t_635
  clear t_635
  have t_640 : pN S_177 q_94 = 12 := tN_sR eS_177 t_636
  clear t_636
  have t_642 : At S_165 q_94 134 := hK_166.at ha_163 t_639 (by decide)
  have t_643 : At S_177 q_94 134 := tAt_sR eS_177 t_642
  have t_641 : pN S_184 q_94 = 12 := by rw [eS_184]; exact (pN_sN_ne (ne_of_new hq_183 t_643.1)).trans t_640
  clear t_640
  have t_644 : pN S_193 q_94 = 12 := tN_sR eS_193 t_641
  clear t_641
  have t_646 : At S_184 q_94 134 := by rw [eS_184]; exact At_sN t_643 hq_183
  have t_647 : At S_193 q_94 134 := tAt_sR eS_193 t_646
  have t_645 : pN S_200 q_94 = 12 := by rw [eS_200]; exact (pN_sN_ne (ne_of_new hq_199 t_647.1)).trans t_644
  clear t_644
  have t_648 : pN S_209 q_94 = 12 := tN_sR eS_209 t_645
  clear t_645
  have t_650 : pR S_118 602 q_75 = some q_98 := tR_sR eS_118 rfl h_99
  have t_651 : pR S_125 602 q_75 = some q_98 := by rw [eS_125]; exact (pR_sO_ne (ne_of_new hq_124 t_613.1)).trans t_650
  have t_652 : pR S_132 602 q_75 = some q_98 := (((hK_133 q_75 t_615.1).2 (At_ne t_615 ha_130 (by decide))).2.2.1 602).trans t_651
  have t_653 : pR S_151 602 q_75 = some q_98 := tR_sR eS_151 rfl t_652
  have t_654 : pR S_158 602 q_75 = some q_98 := by rw [eS_158]; exact (pR_sO_ne (ne_of_new hq_157 t_619.1)).trans t_653
  have t_655 : pR S_165 602 q_75 = some q_98 := (((hK_166 q_75 t_621.1).2 (At_ne t_621 ha_163 (by decide))).2.2.1 602).trans t_654
  have t_656 : pR S_177 602 q_75 = some q_98 := tR_sR eS_177 rfl t_655
  have t_657 : pR S_184 602 q_75 = some q_98 := by rw [eS_184, pR_sN]; exact t_656
  have t_658 : pR S_193 602 q_75 = some q_98 := tR_sR eS_193 rfl t_657
  have t_659 : pR S_200 602 q_75 = some q_98 := by rw [eS_200, pR_sN]; exact t_658
  have t_660 : pR S_209 602 q_75 = some q_98 := tR_sR eS_209 rfl t_659
  have t_663 : pN S_118 q_98 = 12 := tN_sR eS_118 h_101
  clear h_101
  have t_664 : pN S_125 q_98 = 12 := by rw [eS_125, pN_sO]; exact t_663
  clear t_663
  have t_666 : At S_118 q_98 134 := tAt_sR eS_118 h_100
  have t_667 : At S_125 q_98 134 := by rw [eS_125]; exact At_sO t_666 hq_124
  have t_665 : pN S_132 q_98 = 12 := ((hK_133 q_98 t_667.1).2 (At_ne t_667 ha_130 (by decide))).2.2.2.1.trans t_664
  clear t_664
  have t_668 : pN S_151 q_98 = 12 := tN_sR eS_151 t_665
  clear t_665
  have t_669 : pN S_158 q_98 = 12 := by rw [eS_158, pN_sO]; exact t_668
  clear t_668
  have t_671 : At S_132 q_98 134 := hK_133.at ha_130 t_667 (by decide)
  have t_672 : At S_151 q_98 134 := tAt_sR eS_151 t_671
  have t_673 : At S_158 q_98 134 := by rw [eS_158]; exact At_sO t_672 hq_157
  have t_670 : pN S_165 q_98 = 12 := ((hK_166 q_98 t_673.1).2 (At_ne t_673 ha_163 (by decide))).2.2.2.1.trans t_669
  clear t_669
  have t_674 : pN S_177 q_98 = 12 := tN_sR eS_177 t_670
  clear t_670
  have t_676 : At S_165 q_98 134 := hK_166.at ha_163 t_673 (by decide)
  have t_677 : At S_177 q_98 134 := tAt_sR eS_177 t_676
  have t_675 : pN S_184 q_98 = 12 := by rw [eS_184]; exact (pN_sN_ne (ne_of_new hq_183 t_677.1)).trans t_674
  clear t_674
  have t_678 : pN S_193 q_98 = 12 := tN_sR eS_193 t_675
  clear t_675
  have t_680 : At S_184 q_98 134 := by rw [eS_184]; exact At_sN t_677 hq_183
  have t_681 : At S_193 q_98 134 := tAt_sR eS_193 t_680
  have t_679 : pN S_200 q_98 = 12 := by rw [eS_200]; exact (pN_sN_ne (ne_of_new hq_199 t_681.1)).trans t_678
  clear t_678
  have t_682 : pN S_209 q_98 = 12 := tN_sR eS_209 t_679
  clear t_679
  have t_684 : pR S_118 604 q_75 = some q_102 := tR_sR eS_118 rfl h_103
  have t_685 : pR S_125 604 q_75 = some q_102 := by rw [eS_125]; exact (pR_sO_ne (ne_of_new hq_124 t_613.1)).trans t_684
  have t_686 : pR S_132 604 q_75 = some q_102 := (((hK_133 q_75 t_615.1).2 (At_ne t_615 ha_130 (by decide))).2.2.1 604).trans t_685
  have t_687 : pR S_151 604 q_75 = some q_102 := tR_sR eS_151 rfl t_686
  have t_688 : pR S_158 604 q_75 = some q_102 := by rw [eS_158]; exact (pR_sO_ne (ne_of_new hq_157 t_619.1)).trans t_687
  have t_689 : pR S_165 604 q_75 = some q_102 := (((hK_166 q_75 t_621.1).2 (At_ne t_621 ha_163 (by decide))).2.2.1 604).trans t_688
  have t_690 : pR S_177 604 q_75 = some q_102 := tR_sR eS_177 rfl t_689
  have t_691 : pR S_184 604 q_75 = some q_102 := by rw [eS_184, pR_sN]; exact t_690
  have t_692 : pR S_193 604 q_75 = some q_102 := tR_sR eS_193 rfl t_691
  have t_693 : pR S_200 604 q_75 = some q_102 := by rw [eS_200, pR_sN]; exact t_692
  have t_694 : pR S_209 604 q_75 = some q_102 := tR_sR eS_209 rfl t_693
  have t_697 : pN S_118 q_102 = 48 := tN_sR eS_118 h_105
  clear h_105
  have t_698 : pN S_125 q_102 = 48 := by rw [eS_125, pN_sO]; exact t_697
  clear t_697
  have t_700 : At S_118 q_102 134 := tAt_sR eS_118 h_104
  have t_701 : At S_125 q_102 134 := by rw [eS_125]; exact At_sO t_700 hq_124
  have t_699 : pN S_132 q_102 = 48 := ((hK_133 q_102 t_701.1).2 (At_ne t_701 ha_130 (by decide))).2.2.2.1.trans t_698
  clear t_698
  have t_702 : pN S_151 q_102 = 48 := tN_sR eS_151 t_699
  clear t_699
  have t_703 : pN S_158 q_102 = 48 := by rw [eS_158, pN_sO]; exact t_702
  clear t_702
  have t_705 : At S_132 q_102 134 := hK_133.at ha_130 t_701 (by decide)
  have t_706 : At S_151 q_102 134 := tAt_sR eS_151 t_705
  have t_707 : At S_158 q_102 134 := by rw [eS_158]; exact At_sO t_706 hq_157
  have t_704 : pN S_165 q_102 = 48 := ((hK_166 q_102 t_707.1).2 (At_ne t_707 ha_163 (by decide))).2.2.2.1.trans t_703
  clear t_703
  have t_708 : pN S_177 q_102 = 48 := tN_sR eS_177 t_704
  clear t_704
  have t_710 : At S_165 q_102 134 := hK_166.at ha_163 t_707 (by decide)
  have t_711 : At S_177 q_102 134 := tAt_sR eS_177 t_710
  have t_709 : pN S_184 q_102 = 48 := by rw [eS_184]; exact (pN_sN_ne (ne_of_new hq_183 t_711.1)).trans t_708
  clear t_708
  have t_712 : pN S_193 q_102 = 48 := tN_sR eS_193 t_709
  clear t_709
  have t_714 : At S_184 q_102 134 := by rw [eS_184]; exact At_sN t_711 hq_183
  have t_715 : At S_193 q_102 134 := tAt_sR eS_193 t_714
  have t_713 : pN S_200 q_102 = 48 := by rw [eS_200]; exact (pN_sN_ne (ne_of_new hq_199 t_715.1)).trans t_712
  clear t_712
  have t_716 : pN S_209 q_102 = 48 := tN_sR eS_209 t_713
  clear t_713
  have t_718 : pR S_118 605 q_75 = some q_106 := tR_sR eS_118 rfl h_107
  have t_719 : pR S_125 605 q_75 = some q_106 := by rw [eS_125]; exact (pR_sO_ne (ne_of_new hq_124 t_613.1)).trans t_718
  have t_720 : pR S_132 605 q_75 = some q_106 := (((hK_133 q_75 t_615.1).2 (At_ne t_615 ha_130 (by decide))).2.2.1 605).trans t_719
  have t_721 : pR S_151 605 q_75 = some q_106 := tR_sR eS_151 rfl t_720
  have t_722 : pR S_158 605 q_75 = some q_106 := by rw [eS_158]; exact (pR_sO_ne (ne_of_new hq_157 t_619.1)).trans t_721
  have t_723 : pR S_165 605 q_75 = some q_106 := (((hK_166 q_75 t_621.1).2 (At_ne t_621 ha_163 (by decide))).2.2.1 605).trans t_722
  have t_724 : pR S_177 605 q_75 = some q_106 := tR_sR eS_177 rfl t_723
  have t_725 : pR S_184 605 q_75 = some q_106 := by rw [eS_184, pR_sN]; exact t_724
  have t_726 : pR S_193 605 q_75 = some q_106 := tR_sR eS_193 rfl t_725
  have t_727 : pR S_200 605 q_75 = some q_106 := by rw [eS_200, pR_sN]; exact t_726
  have t_728 : pR S_209 605 q_75 = some q_106 := tR_sR eS_209 rfl t_727
  have t_731 : pN S_118 q_106 = 48 := tN_sR eS_118 h_109
  clear h_109
  have t_732 : pN S_125 q_106 = 48 := by rw [eS_125, pN_sO]; exact t_731
  clear t_731
  have t_734 : At S_118 q_106 134 := tAt_sR eS_118 h_108
  have t_735 : At S_125 q_106 134 := by rw [eS_125]; exact At_sO t_734 hq_124
  have t_733 : pN S_132 q_106 = 48 := ((hK_133 q_106 t_735.1).2 (At_ne t_735 ha_130 (by decide))).2.2.2.1.trans t_732
  clear t_732
  have t_736 : pN S_151 q_106 = 48 := tN_sR eS_151 t_733
  clear t_733
  have t_737 : pN S_158 q_106 = 48 := by rw [eS_158, pN_sO]; exact t_736
  clear t_736
  have t_739 : At S_132 q_106 134 := hK_133.at ha_130 t_735 (by decide)
  have t_740 : At S_151 q_106 134 := tAt_sR eS_151 t_739
  have t_741 : At S_158 q_106 134 := by rw [eS_158]; exact At_sO t_740 hq_157
  have t_738 : pN S_165 q_106 = 48 := ((hK_166 q_106 t_741.1).2 (At_ne t_741 ha_163 (by decide))).2.2.2.1.trans t_737
  clear t_737
  have t_742 : pN S_177 q_106 = 48 := tN_sR eS_177 t_738
  clear t_738
  have t_744 : At S_165 q_106 134 := hK_166.at ha_163 t_741 (by decide)
  have t_745 : At S_177 q_106 134 := tAt_sR eS_177 t_744
  have t_743 : pN S_184 q_106 = 48 := by rw [eS_184]; exact (pN_sN_ne (ne_of_new hq_183 t_745.1)).trans t_742
  clear t_742
  have t_746 : pN S_193 q_106 = 48 := tN_sR eS_193 t_743
  clear t_743
  have t_748 : At S_184 q_106 134 := by rw [eS_184]; exact At_sN t_745 hq_183
  have t_749 : At S_193 q_106 134 := tAt_sR eS_193 t_748
  have t_747 : pN S_200 q_106 = 48 := by rw [eS_200]; exact (pN_sN_ne (ne_of_new hq_199 t_749.1)).trans t_746
  clear t_746
  have t_750 : pN S_209 q_106 = 48 := tN_sR eS_209 t_747
  clear t_747
  have t_752 : pR S_118 606 q_75 = some q_110 := tR_sR eS_118 rfl h_111
  have t_753 : pR S_125 606 q_75 = some q_110 := by rw [eS_125]; exact (pR_sO_ne (ne_of_new hq_124 t_613.1)).trans t_752
  have t_754 : pR S_132 606 q_75 = some q_110 := (((hK_133 q_75 t_615.1).2 (At_ne t_615 ha_130 (by decide))).2.2.1 606).trans t_753
  have t_755 : pR S_151 606 q_75 = some q_110 := tR_sR eS_151 rfl t_754
  have t_756 : pR S_158 606 q_75 = some q_110 := by rw [eS_158]; exact (pR_sO_ne (ne_of_new hq_157 t_619.1)).trans t_755
  have t_757 : pR S_165 606 q_75 = some q_110 := (((hK_166 q_75 t_621.1).2 (At_ne t_621 ha_163 (by decide))).2.2.1 606).trans t_756
  have t_758 : pR S_177 606 q_75 = some q_110 := tR_sR eS_177 rfl t_757
  have t_759 : pR S_184 606 q_75 = some q_110 := by rw [eS_184, pR_sN]; exact t_758
  have t_760 : pR S_193 606 q_75 = some q_110 := tR_sR eS_193 rfl t_759
  have t_761 : pR S_200 606 q_75 = some q_110 := by rw [eS_200, pR_sN]; exact t_760
  have t_762 : pR S_209 606 q_75 = some q_110 := tR_sR eS_209 rfl t_761
  have t_765 : pN S_118 q_110 = 48 := tN_sR eS_118 h_113
  clear h_113
  have t_766 : pN S_125 q_110 = 48 := by rw [eS_125, pN_sO]; exact t_765
  clear t_765
  have t_768 : At S_118 q_110 134 := tAt_sR eS_118 h_112
  have t_769 : At S_125 q_110 134 := by rw [eS_125]; exact At_sO t_768 hq_124
  have t_767 : pN S_132 q_110 = 48 := ((hK_133 q_110 t_769.1).2 (At_ne t_769 ha_130 (by decide))).2.2.2.1.trans t_766
  clear t_766
  have t_770 : pN S_151 q_110 = 48 := tN_sR eS_151 t_767
  clear t_767
  have t_771 : pN S_158 q_110 = 48 := by rw [eS_158, pN_sO]; exact t_770
  clear t_770
  have t_773 : At S_132 q_110 134 := hK_133.at ha_130 t_769 (by decide)
  have t_774 : At S_151 q_110 134 := tAt_sR eS_151 t_773
  have t_775 : At S_158 q_110 134 := by rw [eS_158]; exact At_sO t_774 hq_157
  have t_772 : pN S_165 q_110 = 48 := ((hK_166 q_110 t_775.1).2 (At_ne t_775 ha_163 (by decide))).2.2.2.1.trans t_771
  clear t_771
  have t_776 : pN S_177 q_110 = 48 := tN_sR eS_177 t_772
  clear t_772
  have t_778 : At S_165 q_110 134 := hK_166.at ha_163 t_775 (by decide)
  have t_779 : At S_177 q_110 134 := tAt_sR eS_177 t_778
  have t_777 : pN S_184 q_110 = 48 := by rw [eS_184]; exact (pN_sN_ne (ne_of_new hq_183 t_779.1)).trans t_776
  clear t_776
  have t_780 : pN S_193 q_110 = 48 := tN_sR eS_193 t_777
  clear t_777
  have t_782 : At S_184 q_110 134 := by rw [eS_184]; exact At_sN t_779 hq_183
  have t_783 : At S_193 q_110 134 := tAt_sR eS_193 t_782
  have t_781 : pN S_200 q_110 = 48 := by rw [eS_200]; exact (pN_sN_ne (ne_of_new hq_199 t_783.1)).trans t_780
  clear t_780
  have t_784 : pN S_209 q_110 = 48 := tN_sR eS_209 t_781
  clear t_781
  have L_217 : ∀ (n : Nat) (T_219 : PS) (H : Heap) (locs : List Loc) (ls : Array Slot) (i1_218 : Int32) (i1_218_z : Int) (cc_786 nn_787 : Nat), ((16 - i1_218_z).toNat = n) → (Wd G cy (AS S s.heap.size) s.heap T_219 H locs) → (i1_218.toInt = i1_218_z) → (0 ≤ i1_218_z ∧ i1_218_z ≤ 16) → (At T_219 x 191) → (Kq S T_219 x) → (GX T_219) → (Phc T_219 = Phc S + 320) → (Phs T_219 = Phs S + 604000) → (ShI T_219 q_183 i1_218_z) → (pI T_219 1102 x = 0) → (pI T_219 1104 x = 0) → (pI T_219 801 q_124 = 0) → (pI T_219 1000 q_48 = 0) → (pI T_219 800 q_124 = 0) → (pI T_219 806 q_124 = 0) → (pI T_219 802 q_124 = 0) → (pI T_219 803 q_124 = 0) → (pI T_219 804 q_124 = 0) → (pI T_219 805 q_124 = 0) → (pI T_219 1110 x = 0) → (pR T_219 1100 x = some q_1) → (At T_219 q_1 36) → (pN T_219 q_1 = 600) → (pR T_219 1101 x = some q_16) → (At T_219 q_16 54) → (pN T_219 q_16 = 10) → (pR T_219 1103 x = some q_32) → (At T_219 q_32 18) → (pN T_219 q_32 = 4) → (pR T_219 1105 x = some q_48) → (At T_219 q_48 10) → (pR T_219 1106 x = some q_75) → (At T_219 q_75 6) → (pR T_219 1107 x = some q_124) → (At T_219 q_124 8) → (pR T_219 1108 x = some q_157) → (At T_219 q_157 1) → (pR T_219 1109 x = some q_183) → (At T_219 q_183 17) → (pN T_219 q_183 = 16) → (pR T_219 1111 x = some q_199) → (At T_219 q_199 194) → (pN T_219 q_199 = 60) → (pR T_219 601 q_75 = some q_94) → (At T_219 q_94 134) → (pN T_219 q_94 = 12) → (pR T_219 602 q_75 = some q_98) → (At T_219 q_98 134) → (pN T_219 q_98 = 12) → (pR T_219 604 q_75 = some q_102) → (At T_219 q_102 134) → (pN T_219 q_102 = 48) → (pR T_219 605 q_75 = some q_106) → (At T_219 q_106 134) → (pN T_219 q_106 = 48) → (pR T_219 606 q_75 = some q_110) → (At T_219 q_110 134) → (pN T_219 q_110 = 48) → (cc_786 = 26 + 2 * (i1_218_z).toNat) → (nn_787 = 1520 + 13 * (i1_218_z).toNat) → (lv_has ls 2 [(1, .int (i1_218)), (0, .ref x)]) → W p l e ({ frames := 4, cells := 58, slots := 1728, locals := 192 }) s m [.ref x].toArray below meth c H locs cc_786 nn_787 QQ (F0 m 93 ls []) := by
    intro n
    induction n using Nat.strongRecOn with
    | ind n ih =>
    intro T_219 H locs ls i1_218 i1_218_z cc_786 nn_787 hn hw hz_i1_218 hr_i1_218 ha_x_L_220 hK_T_219 hg_T_219 hpc_T_219 hps_T_219 iv_221 ik_272 ik_295 ik_306 ik_329 ik_338 ik_347 ik_356 ik_365 ik_374 ik_383 ik_406 ik_427 ik_428 ik_469 ik_488 ik_489 ik_526 ik_543 ik_544 ik_577 ik_578 ik_579 ik_590 ik_591 ik_592 ik_593 ik_598 ik_599 ik_600 ik_601 ik_606 ik_607 ik_608 ik_610 ik_627 ik_628 ik_649 ik_661 ik_662 ik_683 ik_695 ik_696 ik_717 ik_729 ik_730 ik_751 ik_763 ik_764 ik_785 hcc_788 hnn_789 hl
    have rg_790 : (-2147483648) ≤ i1_218_z ∧ i1_218_z ≤ 2147483647 := by rw [← hz_i1_218]; exact ⟨z_lo _, z_hi _⟩
    refine lv_iload_n X.1 X.2.1 dX11_init_93 rfl (lv_at hl 0 rfl) ?_
    refine lv_bipush (v := 16) X.1 X.2.1 dX11_init_94 (by decide) ?_
    refine lv_icmp_ge (tgt := 118) X.1 X.2.1 dX11_init_96 (by decide) (fun c_791 => ?_) (fun c_791 => ?_)
    · have z_b_792 := trivial
      have k_793 : i1_218_z ≥ 16 := z_le ti_16 hz_i1_218 c_791
      have nd_794 := nodup_of hw
      obtain ⟨S_795, eS_795⟩ : ∃ T, T = sK T_219 x 11 := ⟨_, rfl⟩
      have hw := Wd_sK (k := 11) hw ha_x_L_220 rfl; rw [← eS_795] at hw
      have hg9 : GX S_795 := by rw [eS_795]; exact GX_sK hg_T_219 ha_x_L_220 (by decide +kernel) (mk_11 ⟨q_1, (by rw [pR_sK]; exact ik_427), At_sK ha_x_L_220 ik_428 (by decide), by rw [pN_sK]; exact ik_469⟩ ⟨q_16, (by rw [pR_sK]; exact ik_488), At_sK ha_x_L_220 ik_489 (by decide), by rw [pN_sK]; exact ik_526⟩ (by rw [pI_sK, ik_272]; exact ⟨by rw [ti_0]; omega, by rw [ti_0]; omega⟩) ⟨q_32, (by rw [pR_sK]; exact ik_543), At_sK ha_x_L_220 ik_544 (by decide), by rw [pN_sK]; exact ik_577⟩ (by rw [pI_sK, ik_295]; exact ⟨by rw [ti_0]; omega, by rw [ti_0]; omega⟩) ⟨q_48, (by rw [pR_sK]; exact ik_578), At_sK ha_x_L_220 ik_579 (by decide)⟩ ⟨q_75, (by rw [pR_sK]; exact ik_590), At_sK ha_x_L_220 ik_591 (by decide)⟩ ⟨q_124, (by rw [pR_sK]; exact ik_592), At_sK ha_x_L_220 ik_593 (by decide)⟩ ⟨q_157, (by rw [pR_sK]; exact ik_598), At_sK ha_x_L_220 ik_599 (by decide)⟩ ⟨q_183, (by rw [pR_sK]; exact ik_600), At_sK ha_x_L_220 ik_601 (by decide), by rw [pN_sK]; exact ik_606⟩ ⟨q_199, (by rw [pR_sK]; exact ik_607), At_sK ha_x_L_220 ik_608 (by decide), by rw [pN_sK]; exact ik_610⟩)
      have ha9 : At S_795 x 11 := by rw [eS_795]; exact At_nK ha_x_L_220
      have hk9 : Kq S S_795 x := hK_T_219.sK eS_795
      have hPhc9 : Phc S_795 = Phc S + 57920 := by rw [show Phc S_795 = Ph fC 8 14400 S_795 from rfl, Ph_sK nd_794 ha_x_L_220 (by decide) eS_795, ph_11 ha9 (show pI S_795 1104 x = 0 by rw [eS_795, pI_sK]; exact ik_295)]; show Phc T_219 + _ = _; omega
      have hPhs9 : Phs S_795 = Phs S + 788000 := by rw [show Phs S_795 = Ph fS 15100 46000 S_795 from rfl, Ph_sK nd_794 ha_x_L_220 (by decide) eS_795, ph_11 ha9 (show pI S_795 1104 x = 0 by rw [eS_795, pI_sK]; exact ik_295)]; show Phs T_219 + _ = _; omega
      rw [hQQ]
      exact ret_v X hw hr hlocks (by show cc_786 ≤ 58; omega) (by show nn_787 ≤ 1728; omega) ⟨hk9, hg9, ha9, hPhc9, hPhs9, ⟨q_124, by rw [eS_795, pR_sK]; exact ik_592, by rw [eS_795]; exact At_sK ha_x_L_220 ik_593 (by decide), by rw [eS_795, pI_sK]; exact ik_306, by rw [eS_795, pI_sK]; exact ik_272, by rw [eS_795, pI_sK]; exact ik_295, q_48, by rw [eS_795, pR_sK]; exact ik_578, by rw [eS_795]; exact At_sK ha_x_L_220 ik_579 (by decide), by rw [eS_795, pI_sK]; exact ik_329, q_183, by rw [eS_795, pR_sK]; exact ik_600, by rw [eS_795, show (16 : Int) = i1_218_z by omega]; exact ShI_sK ha_x_L_220 (by decide) iv_221, ⟨(by rw [eS_795, pI_sK]; exact ik_338), (by rw [eS_795, pI_sK]; exact ik_347), (by rw [eS_795, pI_sK]; exact ik_356), (by rw [eS_795, pI_sK]; exact ik_365), (by rw [eS_795, pI_sK]; exact ik_374), (by rw [eS_795, pI_sK]; exact ik_383), (by rw [eS_795, pI_sK]; exact ik_406)⟩, q_75, by rw [eS_795, pR_sK]; exact ik_590, ⟨q_94, q_98, q_102, q_106, q_110, ⟨by rw [eS_795, pR_sK]; exact ik_627, by rw [eS_795, pR_sK]; exact ik_661, by rw [eS_795, pR_sK]; exact ik_695, by rw [eS_795, pR_sK]; exact ik_729, by rw [eS_795, pR_sK]; exact ik_763⟩, rd_114⟩⟩⟩ dX11_init_118
    · have z_b_796 := trivial
      have k_797 : i1_218_z < 16 := z_nle ti_16 hz_i1_218 c_791
      refine lv_aload_n X.1 X.2.1 dX11_init_99 rfl (lv_at hl 1 rfl) ?_
      refine r_getR (g := 1109) X hw ha_x_L_220 rfl 9 ik_600 (by decide) rfl inn_X11_init_11 (by decide) (X.2.2.2.1 (.fieldLink RX11 55 "SilkMill" "shelf" "[LSilkMill$Place;") (by decide +kernel)) rfl (gv_1109 _ _) dX11_init_100 ?_
      refine lv_iload_n X.1 X.2.1 dX11_init_103 rfl (lv_at hl 0 rfl) ?_
      refine r_new X hw 183 3 (nn_787 + 5) (cc_786 + 1) rfl tyX3 (by decide) rfl inn_X11_init_3 tyX3_ok (X.2.2.2.1 (.classLink RX11 53 RX3) (by decide +kernel)) (X.2.2.2.1 (.instantiable RX3 5) (by decide +kernel)) (X.2.2.2.1 (.initialized RX3) (by decide +kernel)) (zo_3 _) zd_3 (by show cc_786 + 1 ≤ (cc_786 + 1); omega) (by show nn_787 + 5 ≤ (nn_787 + 5); omega) (by show (cc_786 + 1) ≤ 58; omega) (by show (nn_787 + 5) ≤ 1728; omega) dX11_init_104 (fun q_798 H hq_798 hw => ?_)
      obtain ⟨S_799, eS_799⟩ : ∃ T, T = sO T_219 q_798 183 := ⟨_, rfl⟩
      rw [← eS_799] at hw
      have ph_800 : Phc S_799 = Phc S + 320 := (show Phc S_799 = Phc T_219 from Ph_sO hg_T_219 hq_798 eS_799 (by decide)).trans hpc_T_219
      have ph_801 : Phs S_799 = Phs S + 604000 := (show Phs S_799 = Phs T_219 from Ph_sO hg_T_219 hq_798 eS_799 (by decide)).trans hps_T_219
      clear hpc_T_219
      clear hps_T_219
      have hK_802 : Kq S S_799 x := hK_T_219.sO hq_798 eS_799
      have hg_803 : GX S_799 := by rw [eS_799]; exact GX_O hg_T_219 hq_798 (by decide +kernel)
      have hn0_q_798 := hK_T_219.new hq_798
      have ha_804 : At S_799 q_798 183 := by rw [eS_799]; exact At_nO _ _ _
      have hzI_q_798 : ∀ g, pI S_799 g q_798 = 0 := fun g => by rw [eS_799]; exact pI_sO_new
      have hzR_q_798 : ∀ g, pR S_799 g q_798 = none := fun g => by rw [eS_799]; exact if_pos rfl
      refine lv_dup X.1 X.2.1 dX11_init_107 rfl ?_
      refine k_v (rm := { frames := 2, cells := 1, slots := 8, locals := 96 }) (av := [.ref q_798]) X hw (va_runIN (As := []) (rest := [.ref q_798, .int (i1_218), .ref q_183]) (cfix X) (k_X3_init3 l G cy κ S_799 _ q_798 hg_803 ha_804 hzI_q_798 hzR_q_798) ⟨(va_cnB (host := RX11) 0 X.2.2.2.1 gX11_init_X3_init_n62 rfl rfl rfl (X.2.2.2.2.2.2.2.1.2.1 (RX11, 62, yX3_init) (by decide +kernel)) (X.2.2.2.1 (.initialized RX3) (by decide +kernel)) (by decide +kernel) ⟨Nat.le_of_ble_eq_true rfl, Nat.le_of_ble_eq_true rfl⟩), rfl, (X.2.2.2.1 (.instanceMethod yX3_init) (by decide +kernel))⟩ (pre_S X hw _) rfl rfl hl.1 rfl (lv_room (Nat.le_of_ble_eq_true rfl)) dX11_init_108 ⟨(by show (cc_786 + 1) + 1 ≤ 58; omega), (by show (nn_787 + 5) + 8 ≤ 1728; omega)⟩) ((cc_786 + 1) + 1) ((nn_787 + 5) + 8) (by show (cc_786 + 1) + 1 ≤ ((cc_786 + 1) + 1); omega) (by show (nn_787 + 5) + 8 ≤ ((nn_787 + 5) + 8); omega) (fun S_806 H locs hp hw hfr hnw => ?_)
      obtain ⟨hK_807, hg_808, ha_809, ph_810, ph_811, kx_812, kx_813, kx_814, kx_815, kx_816⟩ := hp
      have hK_817 : Kq S S_806 x := hK_802.sub hn0_q_798 hK_807
      have ph_818 : Phc S_806 = Phc S + 320 := by omega
      have ph_819 : Phs S_806 = Phs S + 604000 := by omega
      clear ph_800
      clear ph_801
      clear ph_810
      clear ph_811
      have t_820 : At S_799 q_183 17 := by rw [eS_799]; exact At_sO ik_601 hq_798
      have t_821 : At S_806 q_183 17 := hK_807.at ha_804 t_820 (by decide)
      have t_822 : pN S_799 q_183 = 16 := by rw [eS_799, pN_sO]; exact ik_606
      have t_824 : At S_799 q_183 17 := by rw [eS_799]; exact At_sO ik_601 hq_798
      have t_823 : pN S_806 q_183 = 16 := ((hK_807 q_183 t_824.1).2 (At_ne t_824 ha_804 (by decide))).2.2.2.1.trans t_822
      clear t_822
      refine r_aast X hw t_821 rfl ha_809 rfl (by decide) (by decide) rfl rfl (by rw [t_823]; exact z_ix hz_i1_218 (by omega) (by omega)) dX11_init_111 (fun H locs hw => ?_)
      obtain ⟨S_825, eS_825⟩ : ∃ T, T = sB S_806 q_183 (va_up (pB S_806 q_183) (Int32.toNatClampNeg (i1_218)) (some q_798)) := ⟨_, rfl⟩
      rw [← eS_825] at hw
      have ph_826 : Phc S_825 = Phc S + 320 := (show Phc S_825 = Phc S_806 from Ph_sB eS_825).trans ph_818
      have ph_827 : Phs S_825 = Phs S + 604000 := (show Phs S_825 = Phs S_806 from Ph_sB eS_825).trans ph_819
      clear ph_818
      clear ph_819
      have hK_828 : Kq S S_825 x := hK_817.sB hn0_q_183 eS_825
      have hg_829 : GX S_825 := by rw [eS_825]; exact uB_17 hg_808 t_821 (fun q hq => by cases hq; exact ha_809)
      have zn_831 := z_nat (x := i1_218) hz_i1_218 (by omega)
      have sh_830 : ShI S_825 q_183 (i1_218_z + 1) := ShI_step iv_221 hq_798 eS_799 hK_807 eS_825 ik_601.1 (by omega) ha_809 kx_812 kx_814 kx_815 kx_816
      obtain ⟨x_832, ex_832⟩ : ∃ y : Int32, y = i1_218 + 1 := ⟨_, rfl⟩
      have z_833 : x_832.toInt = i1_218_z + 1 := z_add ex_832 hz_i1_218 ti_1 (by omega) (by omega)
      refine lv_iinc (v := x_832) (lv' := [(1, .int (x_832)), (0, .ref x)]) X.1 X.2.1 dX11_init_112 hl (k := 0) rfl (by rw [ex_832]; rfl) (by decide) rfl (fun ls hl => ?_)
      refine lv_goto (tgt := 93) X.1 X.2.1 dX11_init_115 (by decide) ?_
      have t_834 : At S_799 x 191 := by rw [eS_799]; exact At_sO ha_x_L_220 hq_798
      have t_835 : At S_806 x 191 := hK_807.at ha_804 t_834 (by decide)
      have t_836 : At S_825 x 191 := tAt_sB eS_825 t_835
      have t_837 : pI S_799 1102 x = 0 := by rw [eS_799]; exact (pI_sO_ne (ne_of_new hq_798 ha_x_L_220.1)).trans ik_272
      have t_839 : At S_799 x 191 := by rw [eS_799]; exact At_sO ha_x_L_220 hq_798
      have t_838 : pI S_806 1102 x = 0 := (((hK_807 x t_839.1).2 (At_ne t_839 ha_804 (by decide))).2.1 1102).trans t_837
      have t_840 : pI S_825 1102 x = 0 := tI_sB eS_825 t_838
      have t_841 : pI S_799 1104 x = 0 := by rw [eS_799]; exact (pI_sO_ne (ne_of_new hq_798 ha_x_L_220.1)).trans ik_295
      have t_842 : pI S_806 1104 x = 0 := (((hK_807 x t_839.1).2 (At_ne t_839 ha_804 (by decide))).2.1 1104).trans t_841
      have t_843 : pI S_825 1104 x = 0 := tI_sB eS_825 t_842
      have t_844 : pI S_799 801 q_124 = 0 := by rw [eS_799]; exact (pI_sO_ne (ne_of_new hq_798 ik_593.1)).trans ik_306
      have t_846 : At S_799 q_124 8 := by rw [eS_799]; exact At_sO ik_593 hq_798
      have t_845 : pI S_806 801 q_124 = 0 := (((hK_807 q_124 t_846.1).2 (At_ne t_846 ha_804 (by decide))).2.1 801).trans t_844
      have t_847 : pI S_825 801 q_124 = 0 := tI_sB eS_825 t_845
      have t_848 : pI S_799 1000 q_48 = 0 := by rw [eS_799]; exact (pI_sO_ne (ne_of_new hq_798 ik_579.1)).trans ik_329
      have t_850 : At S_799 q_48 10 := by rw [eS_799]; exact At_sO ik_579 hq_798
      have t_849 : pI S_806 1000 q_48 = 0 := (((hK_807 q_48 t_850.1).2 (At_ne t_850 ha_804 (by decide))).2.1 1000).trans t_848
      have t_851 : pI S_825 1000 q_48 = 0 := tI_sB eS_825 t_849
      have t_852 : pI S_799 800 q_124 = 0 := by rw [eS_799]; exact (pI_sO_ne (ne_of_new hq_798 ik_593.1)).trans ik_338
      have t_853 : pI S_806 800 q_124 = 0 := (((hK_807 q_124 t_846.1).2 (At_ne t_846 ha_804 (by decide))).2.1 800).trans t_852
      have t_854 : pI S_825 800 q_124 = 0 := tI_sB eS_825 t_853
      have t_855 : pI S_799 806 q_124 = 0 := by rw [eS_799]; exact (pI_sO_ne (ne_of_new hq_798 ik_593.1)).trans ik_347
      have t_856 : pI S_806 806 q_124 = 0 := (((hK_807 q_124 t_846.1).2 (At_ne t_846 ha_804 (by decide))).2.1 806).trans t_855
      have t_857 : pI S_825 806 q_124 = 0 := tI_sB eS_825 t_856
      have t_858 : pI S_799 802 q_124 = 0 := by rw [eS_799]; exact (pI_sO_ne (ne_of_new hq_798 ik_593.1)).trans ik_356
      have t_859 : pI S_806 802 q_124 = 0 := (((hK_807 q_124 t_846.1).2 (At_ne t_846 ha_804 (by decide))).2.1 802).trans t_858
      have t_860 : pI S_825 802 q_124 = 0 := tI_sB eS_825 t_859
      have t_861 : pI S_799 803 q_124 = 0 := by rw [eS_799]; exact (pI_sO_ne (ne_of_new hq_798 ik_593.1)).trans ik_365
      have t_862 : pI S_806 803 q_124 = 0 := (((hK_807 q_124 t_846.1).2 (At_ne t_846 ha_804 (by decide))).2.1 803).trans t_861
      have t_863 : pI S_825 803 q_124 = 0 := tI_sB eS_825 t_862
      have t_864 : pI S_799 804 q_124 = 0 := by rw [eS_799]; exact (pI_sO_ne (ne_of_new hq_798 ik_593.1)).trans ik_374
      have t_865 : pI S_806 804 q_124 = 0 := (((hK_807 q_124 t_846.1).2 (At_ne t_846 ha_804 (by decide))).2.1 804).trans t_864
      have t_866 : pI S_825 804 q_124 = 0 := tI_sB eS_825 t_865
      have t_867 : pI S_799 805 q_124 = 0 := by rw [eS_799]; exact (pI_sO_ne (ne_of_new hq_798 ik_593.1)).trans ik_383
      have t_868 : pI S_806 805 q_124 = 0 := (((hK_807 q_124 t_846.1).2 (At_ne t_846 ha_804 (by decide))).2.1 805).trans t_867
      have t_869 : pI S_825 805 q_124 = 0 := tI_sB eS_825 t_868
      have t_870 : pI S_799 1110 x = 0 := by rw [eS_799]; exact (pI_sO_ne (ne_of_new hq_798 ha_x_L_220.1)).trans ik_406
      have t_871 : pI S_806 1110 x = 0 := (((hK_807 x t_839.1).2 (At_ne t_839 ha_804 (by decide))).2.1 1110).trans t_870
      have t_872 : pI S_825 1110 x = 0 := tI_sB eS_825 t_871
      have t_873 : pR S_799 1100 x = some q_1 := by rw [eS_799]; exact (pR_sO_ne (ne_of_new hq_798 ha_x_L_220.1)).trans ik_427
      have t_874 : pR S_806 1100 x = some q_1 := (((hK_807 x t_839.1).2 (At_ne t_839 ha_804 (by decide))).2.2.1 1100).trans t_873
      have t_875 : pR S_825 1100 x = some q_1 := tR_sB eS_825 t_874
      have t_876 : At S_799 q_1 36 := by rw [eS_799]; exact At_sO ik_428 hq_798
      have t_877 : At S_806 q_1 36 := hK_807.at ha_804 t_876 (by decide)
      have t_878 : At S_825 q_1 36 := tAt_sB eS_825 t_877
      have t_879 : pN S_799 q_1 = 600 := by rw [eS_799, pN_sO]; exact ik_469
      have t_881 : At S_799 q_1 36 := by rw [eS_799]; exact At_sO ik_428 hq_798
      have t_880 : pN S_806 q_1 = 600 := ((hK_807 q_1 t_881.1).2 (At_ne t_881 ha_804 (by decide))).2.2.2.1.trans t_879
      clear t_879
      have t_882 : pN S_825 q_1 = 600 := tN_sB eS_825 t_880
      clear t_880
      have t_883 : pR S_799 1101 x = some q_16 := by rw [eS_799]; exact (pR_sO_ne (ne_of_new hq_798 ha_x_L_220.1)).trans ik_488
      have t_884 : pR S_806 1101 x = some q_16 := (((hK_807 x t_839.1).2 (At_ne t_839 ha_804 (by decide))).2.2.1 1101).trans t_883
      have t_885 : pR S_825 1101 x = some q_16 := tR_sB eS_825 t_884
      have t_886 : At S_799 q_16 54 := by rw [eS_799]; exact At_sO ik_489 hq_798
      have t_887 : At S_806 q_16 54 := hK_807.at ha_804 t_886 (by decide)
      have t_888 : At S_825 q_16 54 := tAt_sB eS_825 t_887
      have t_889 : pN S_799 q_16 = 10 := by rw [eS_799, pN_sO]; exact ik_526
      have t_891 : At S_799 q_16 54 := by rw [eS_799]; exact At_sO ik_489 hq_798
      have t_890 : pN S_806 q_16 = 10 := ((hK_807 q_16 t_891.1).2 (At_ne t_891 ha_804 (by decide))).2.2.2.1.trans t_889
      clear t_889
      have t_892 : pN S_825 q_16 = 10 := tN_sB eS_825 t_890
      clear t_890
      have t_893 : pR S_799 1103 x = some q_32 := by rw [eS_799]; exact (pR_sO_ne (ne_of_new hq_798 ha_x_L_220.1)).trans ik_543
      have t_894 : pR S_806 1103 x = some q_32 := (((hK_807 x t_839.1).2 (At_ne t_839 ha_804 (by decide))).2.2.1 1103).trans t_893
      have t_895 : pR S_825 1103 x = some q_32 := tR_sB eS_825 t_894
      have t_896 : At S_799 q_32 18 := by rw [eS_799]; exact At_sO ik_544 hq_798
      have t_897 : At S_806 q_32 18 := hK_807.at ha_804 t_896 (by decide)
      have t_898 : At S_825 q_32 18 := tAt_sB eS_825 t_897
      have t_899 : pN S_799 q_32 = 4 := by rw [eS_799, pN_sO]; exact ik_577
      have t_901 : At S_799 q_32 18 := by rw [eS_799]; exact At_sO ik_544 hq_798
      have t_900 : pN S_806 q_32 = 4 := ((hK_807 q_32 t_901.1).2 (At_ne t_901 ha_804 (by decide))).2.2.2.1.trans t_899
      clear t_899
      have t_902 : pN S_825 q_32 = 4 := tN_sB eS_825 t_900
      clear t_900
      have t_903 : pR S_799 1105 x = some q_48 := by rw [eS_799]; exact (pR_sO_ne (ne_of_new hq_798 ha_x_L_220.1)).trans ik_578
      have t_904 : pR S_806 1105 x = some q_48 := (((hK_807 x t_839.1).2 (At_ne t_839 ha_804 (by decide))).2.2.1 1105).trans t_903
      have t_905 : pR S_825 1105 x = some q_48 := tR_sB eS_825 t_904
      have t_906 : At S_806 q_48 10 := hK_807.at ha_804 t_850 (by decide)
      have t_907 : At S_825 q_48 10 := tAt_sB eS_825 t_906
      have t_908 : pR S_799 1106 x = some q_75 := by rw [eS_799]; exact (pR_sO_ne (ne_of_new hq_798 ha_x_L_220.1)).trans ik_590
      have t_909 : pR S_806 1106 x = some q_75 := (((hK_807 x t_839.1).2 (At_ne t_839 ha_804 (by decide))).2.2.1 1106).trans t_908
      have t_910 : pR S_825 1106 x = some q_75 := tR_sB eS_825 t_909
      have t_911 : At S_799 q_75 6 := by rw [eS_799]; exact At_sO ik_591 hq_798
      have t_912 : At S_806 q_75 6 := hK_807.at ha_804 t_911 (by decide)
      have t_913 : At S_825 q_75 6 := tAt_sB eS_825 t_912
      have t_914 : pR S_799 1107 x = some q_124 := by rw [eS_799]; exact (pR_sO_ne (ne_of_new hq_798 ha_x_L_220.1)).trans ik_592
      have t_915 : pR S_806 1107 x = some q_124 := (((hK_807 x t_839.1).2 (At_ne t_839 ha_804 (by decide))).2.2.1 1107).trans t_914
      have t_916 : pR S_825 1107 x = some q_124 := tR_sB eS_825 t_915
      have t_917 : At S_806 q_124 8 := hK_807.at ha_804 t_846 (by decide)
      have t_918 : At S_825 q_124 8 := tAt_sB eS_825 t_917
      have t_919 : pR S_799 1108 x = some q_157 := by rw [eS_799]; exact (pR_sO_ne (ne_of_new hq_798 ha_x_L_220.1)).trans ik_598
      have t_920 : pR S_806 1108 x = some q_157 := (((hK_807 x t_839.1).2 (At_ne t_839 ha_804 (by decide))).2.2.1 1108).trans t_919
      have t_921 : pR S_825 1108 x = some q_157 := tR_sB eS_825 t_920
      have t_922 : At S_799 q_157 1 := by rw [eS_799]; exact At_sO ik_599 hq_798
      have t_923 : At S_806 q_157 1 := hK_807.at ha_804 t_922 (by decide)
      have t_924 : At S_825 q_157 1 := tAt_sB eS_825 t_923
      have t_925 : pR S_799 1109 x = some q_183 := by rw [eS_799]; exact (pR_sO_ne (ne_of_new hq_798 ha_x_L_220.1)).trans ik_600
      have t_926 : pR S_806 1109 x = some q_183 := (((hK_807 x t_839.1).2 (At_ne t_839 ha_804 (by decide))).2.2.1 1109).trans t_925
      have t_927 : pR S_825 1109 x = some q_183 := tR_sB eS_825 t_926
      have t_928 : At S_825 q_183 17 := tAt_sB eS_825 t_821
      have t_929 : pN S_825 q_183 = 16 := tN_sB eS_825 t_823
      clear t_823
      have t_930 : pR S_799 1111 x = some q_199 := by rw [eS_799]; exact (pR_sO_ne (ne_of_new hq_798 ha_x_L_220.1)).trans ik_607
      have t_931 : pR S_806 1111 x = some q_199 := (((hK_807 x t_839.1).2 (At_ne t_839 ha_804 (by decide))).2.2.1 1111).trans t_930
      have t_932 : pR S_825 1111 x = some q_199 := tR_sB eS_825 t_931
      have t_933 : At S_799 q_199 194 := by rw [eS_799]; exact At_sO ik_608 hq_798
      have t_934 : At S_806 q_199 194 := hK_807.at ha_804 t_933 (by decide)
      have t_935 : At S_825 q_199 194 := tAt_sB eS_825 t_934
      have t_936 : pN S_799 q_199 = 60 := by rw [eS_799, pN_sO]; exact ik_610
      have t_938 : At S_799 q_199 194 := by rw [eS_799]; exact At_sO ik_608 hq_798
      have t_937 : pN S_806 q_199 = 60 := ((hK_807 q_199 t_938.1).2 (At_ne t_938 ha_804 (by decide))).2.2.2.1.trans t_936
      clear t_936
      have t_939 : pN S_825 q_199 = 60 := tN_sB eS_825 t_937
      clear t_937
      have t_940 : pR S_799 601 q_75 = some q_94 := by rw [eS_799]; exact (pR_sO_ne (ne_of_new hq_798 ik_591.1)).trans ik_627
      have t_942 : At S_799 q_75 6 := by rw [eS_799]; exact At_sO ik_591 hq_798
      have t_941 : pR S_806 601 q_75 = some q_94 := (((hK_807 q_75 t_942.1).2 (At_ne t_942 ha_804 (by decide))).2.2.1 601).trans t_940
      have t_943 : pR S_825 601 q_75 = some q_94 := tR_sB eS_825 t_941
      have t_944 : At S_799 q_94 134 := by rw [eS_799]; exact At_sO ik_628 hq_798
      have t_945 : At S_806 q_94 134 := hK_807.at ha_804 t_944 (by decide)
      have t_946 : At S_825 q_94 134 := tAt_sB eS_825 t_945
      have t_947 : pN S_799 q_94 = 12 := by rw [eS_799, pN_sO]; exact ik_649
      have t_949 : At S_799 q_94 134 := by rw [eS_799]; exact At_sO ik_628 hq_798
      have t_948 : pN S_806 q_94 = 12 := ((hK_807 q_94 t_949.1).2 (At_ne t_949 ha_804 (by decide))).2.2.2.1.trans t_947
      clear t_947
      have t_950 : pN S_825 q_94 = 12 := tN_sB eS_825 t_948
      clear t_948
      have t_951 : pR S_799 602 q_75 = some q_98 := by rw [eS_799]; exact (pR_sO_ne (ne_of_new hq_798 ik_591.1)).trans ik_661
      have t_952 : pR S_806 602 q_75 = some q_98 := (((hK_807 q_75 t_942.1).2 (At_ne t_942 ha_804 (by decide))).2.2.1 602).trans t_951
      have t_953 : pR S_825 602 q_75 = some q_98 := tR_sB eS_825 t_952
      have t_954 : At S_799 q_98 134 := by rw [eS_799]; exact At_sO ik_662 hq_798
      have t_955 : At S_806 q_98 134 := hK_807.at ha_804 t_954 (by decide)
      have t_956 : At S_825 q_98 134 := tAt_sB eS_825 t_955
      have t_957 : pN S_799 q_98 = 12 := by rw [eS_799, pN_sO]; exact ik_683
      have t_959 : At S_799 q_98 134 := by rw [eS_799]; exact At_sO ik_662 hq_798
      have t_958 : pN S_806 q_98 = 12 := ((hK_807 q_98 t_959.1).2 (At_ne t_959 ha_804 (by decide))).2.2.2.1.trans t_957
      clear t_957
      have t_960 : pN S_825 q_98 = 12 := tN_sB eS_825 t_958
      clear t_958
      have t_961 : pR S_799 604 q_75 = some q_102 := by rw [eS_799]; exact (pR_sO_ne (ne_of_new hq_798 ik_591.1)).trans ik_695
      have t_962 : pR S_806 604 q_75 = some q_102 := (((hK_807 q_75 t_942.1).2 (At_ne t_942 ha_804 (by decide))).2.2.1 604).trans t_961
      have t_963 : pR S_825 604 q_75 = some q_102 := tR_sB eS_825 t_962
      have t_964 : At S_799 q_102 134 := by rw [eS_799]; exact At_sO ik_696 hq_798
      have t_965 : At S_806 q_102 134 := hK_807.at ha_804 t_964 (by decide)
      have t_966 : At S_825 q_102 134 := tAt_sB eS_825 t_965
      have t_967 : pN S_799 q_102 = 48 := by rw [eS_799, pN_sO]; exact ik_717
      have t_969 : At S_799 q_102 134 := by rw [eS_799]; exact At_sO ik_696 hq_798
      have t_968 : pN S_806 q_102 = 48 := ((hK_807 q_102 t_969.1).2 (At_ne t_969 ha_804 (by decide))).2.2.2.1.trans t_967
      clear t_967
      have t_970 : pN S_825 q_102 = 48 := tN_sB eS_825 t_968
      clear t_968
      have t_971 : pR S_799 605 q_75 = some q_106 := by rw [eS_799]; exact (pR_sO_ne (ne_of_new hq_798 ik_591.1)).trans ik_729
      have t_972 : pR S_806 605 q_75 = some q_106 := (((hK_807 q_75 t_942.1).2 (At_ne t_942 ha_804 (by decide))).2.2.1 605).trans t_971
      have t_973 : pR S_825 605 q_75 = some q_106 := tR_sB eS_825 t_972
      have t_974 : At S_799 q_106 134 := by rw [eS_799]; exact At_sO ik_730 hq_798
      have t_975 : At S_806 q_106 134 := hK_807.at ha_804 t_974 (by decide)
      have t_976 : At S_825 q_106 134 := tAt_sB eS_825 t_975
      have t_977 : pN S_799 q_106 = 48 := by rw [eS_799, pN_sO]; exact ik_751
      have t_979 : At S_799 q_106 134 := by rw [eS_799]; exact At_sO ik_730 hq_798
      have t_978 : pN S_806 q_106 = 48 := ((hK_807 q_106 t_979.1).2 (At_ne t_979 ha_804 (by decide))).2.2.2.1.trans t_977
      clear t_977
      have t_980 : pN S_825 q_106 = 48 := tN_sB eS_825 t_978
      clear t_978
      have t_981 : pR S_799 606 q_75 = some q_110 := by rw [eS_799]; exact (pR_sO_ne (ne_of_new hq_798 ik_591.1)).trans ik_763
      have t_982 : pR S_806 606 q_75 = some q_110 := (((hK_807 q_75 t_942.1).2 (At_ne t_942 ha_804 (by decide))).2.2.1 606).trans t_981
      have t_983 : pR S_825 606 q_75 = some q_110 := tR_sB eS_825 t_982
      have t_984 : At S_799 q_110 134 := by rw [eS_799]; exact At_sO ik_764 hq_798
      have t_985 : At S_806 q_110 134 := hK_807.at ha_804 t_984 (by decide)
      have t_986 : At S_825 q_110 134 := tAt_sB eS_825 t_985
      have t_987 : pN S_799 q_110 = 48 := by rw [eS_799, pN_sO]; exact ik_785
      have t_989 : At S_799 q_110 134 := by rw [eS_799]; exact At_sO ik_764 hq_798
      have t_988 : pN S_806 q_110 = 48 := ((hK_807 q_110 t_989.1).2 (At_ne t_989 ha_804 (by decide))).2.2.2.1.trans t_987
      clear t_987
      have t_990 : pN S_825 q_110 = 48 := tN_sB eS_825 t_988
      clear t_988
      exact ih _ (by omega) _ _ _ _ (x_832) (x_832.toInt) (((cc_786 + 1) + 1)) (((nn_787 + 5) + 8)) rfl hw rfl (by omega) t_836 hK_828 hg_829 ph_826 ph_827 (by rw [show x_832.toInt = i1_218_z + 1 by omega]; exact sh_830) t_840 t_843 t_847 t_851 t_854 t_857 t_860 t_863 t_866 t_869 t_872 t_875 t_878 t_882 t_885 t_888 t_892 t_895 t_898 t_902 t_905 t_907 t_910 t_913 t_916 t_918 t_921 t_924 t_927 t_928 t_929 t_932 t_935 t_939 t_943 t_946 t_950 t_953 t_956 t_960 t_963 t_966 t_970 t_973 t_976 t_980 t_983 t_986 t_990 (by omega) (by omega) (lv_sub hl [0, 1] rfl)
  have t_991 : At S_209 x 191 := tAt_sR eS_209 t_208
  have t_992 : At S_200 q_1 36 := by rw [eS_200]; exact At_sN t_467 hq_199
  have t_993 : At S_209 q_1 36 := tAt_sR eS_209 t_992
  have t_994 : At S_200 q_16 54 := by rw [eS_200]; exact At_sN t_524 hq_199
  have t_995 : At S_209 q_16 54 := tAt_sR eS_209 t_994
  have t_996 : At S_200 q_32 18 := by rw [eS_200]; exact At_sN t_575 hq_199
  have t_997 : At S_209 q_32 18 := tAt_sR eS_209 t_996
  have t_998 : At S_165 q_48 10 := hK_166.at ha_163 t_323 (by decide)
  have t_999 : At S_177 q_48 10 := tAt_sR eS_177 t_998
  have t_1000 : At S_184 q_48 10 := by rw [eS_184]; exact At_sN t_999 hq_183
  have t_1001 : At S_193 q_48 10 := tAt_sR eS_193 t_1000
  have t_1002 : At S_200 q_48 10 := by rw [eS_200]; exact At_sN t_1001 hq_199
  have t_1003 : At S_209 q_48 10 := tAt_sR eS_209 t_1002
  have t_1004 : At S_165 q_75 6 := hK_166.at ha_163 t_621 (by decide)
  have t_1005 : At S_177 q_75 6 := tAt_sR eS_177 t_1004
  have t_1006 : At S_184 q_75 6 := by rw [eS_184]; exact At_sN t_1005 hq_183
  have t_1007 : At S_193 q_75 6 := tAt_sR eS_193 t_1006
  have t_1008 : At S_200 q_75 6 := by rw [eS_200]; exact At_sN t_1007 hq_199
  have t_1009 : At S_209 q_75 6 := tAt_sR eS_209 t_1008
  have t_1010 : At S_165 q_124 8 := hK_166.at ha_163 t_300 (by decide)
  have t_1011 : At S_177 q_124 8 := tAt_sR eS_177 t_1010
  have t_1012 : At S_184 q_124 8 := by rw [eS_184]; exact At_sN t_1011 hq_183
  have t_1013 : At S_193 q_124 8 := tAt_sR eS_193 t_1012
  have t_1014 : At S_200 q_124 8 := by rw [eS_200]; exact At_sN t_1013 hq_199
  have t_1015 : At S_209 q_124 8 := tAt_sR eS_209 t_1014
  have t_1016 : At S_177 q_157 1 := tAt_sR eS_177 ha_168
  have t_1017 : At S_184 q_157 1 := by rw [eS_184]; exact At_sN t_1016 hq_183
  have t_1018 : At S_193 q_157 1 := tAt_sR eS_193 t_1017
  have t_1019 : At S_200 q_157 1 := by rw [eS_200]; exact At_sN t_1018 hq_199
  have t_1020 : At S_209 q_157 1 := tAt_sR eS_209 t_1019
  have t_1021 : At S_200 q_183 17 := by rw [eS_200]; exact At_sN t_604 hq_199
  have t_1022 : At S_209 q_183 17 := tAt_sR eS_209 t_1021
  have t_1023 : At S_209 q_199 194 := tAt_sR eS_209 ha_205
  have t_1024 : At S_200 q_94 134 := by rw [eS_200]; exact At_sN t_647 hq_199
  have t_1025 : At S_209 q_94 134 := tAt_sR eS_209 t_1024
  have t_1026 : At S_200 q_98 134 := by rw [eS_200]; exact At_sN t_681 hq_199
  have t_1027 : At S_209 q_98 134 := tAt_sR eS_209 t_1026
  have t_1028 : At S_200 q_102 134 := by rw [eS_200]; exact At_sN t_715 hq_199
  have t_1029 : At S_209 q_102 134 := tAt_sR eS_209 t_1028
  have t_1030 : At S_200 q_106 134 := by rw [eS_200]; exact At_sN t_749 hq_199
  have t_1031 : At S_209 q_106 134 := tAt_sR eS_209 t_1030
  have t_1032 : At S_200 q_110 134 := by rw [eS_200]; exact At_sN t_783 hq_199
  have t_1033 : At S_209 q_110 134 := tAt_sR eS_209 t_1032
  exact L_217 _ _ _ _ _ (0) (0) (26) (1520) rfl hw ti_0 (by omega) t_991 hK_212 hg_213 ph_210 ph_211 ShI_0 t_271 t_294 t_305 t_328 t_337 t_346 t_355 t_364 t_373 t_382 t_405 t_426 t_993 t_468 t_487 t_995 t_525 t_542 t_997 t_576 t_247 t_1003 t_589 t_1009 t_230 t_1015 t_597 t_1020 t_216 t_1022 t_605 h_214 t_1023 t_609 t_626 t_1025 t_648 t_660 t_1027 t_682 t_694 t_1029 t_716 t_728 t_1031 t_750 t_762 t_1033 t_784 (by omega) (by omega) (lv_sub hl [0, 1] rfl)
