def prcF : Nat → Int32 := upd (upd (upd (upd (fun _ => (0 : Int32)) (Int32.toNatClampNeg 0) 100) (Int32.toNatClampNeg 1) 80) (Int32.toNatClampNeg 2) 50) (Int32.toNatClampNeg 3) 20
theorem prc_all : upd (upd (upd (upd (fun _ => (0 : Int32)) (Int32.toNatClampNeg 0) 100) (Int32.toNatClampNeg 1) 80) (Int32.toNatClampNeg 2) 50) (Int32.toNatClampNeg 3) 20 = prcF := rfl

set_option maxHeartbeats 4000000 in
set_option maxRecDepth 100000 in
theorem k_X8_init6 (l : Launch) (G : va_G) (cy : Nat → ClassId) (κ : Nat → Nat) (S : PS) (sz : Nat) (x : Nat) (hG : GX S) (ha_x : At S x 188) (hzI : ∀ g, pI S g x = 0) (hzR : ∀ g, pR S g x = none) : Cv l yX8_init wsX8_init ({ frames := 3, cells := 9, slots := 214, locals := 144 }) G cy κ S sz [.ref x] (fun (S9 : PS) => Kq S S9 x ∧ GX S9 ∧ At S9 x 8 ∧ Phc S9 = Phc S + 320 ∧ Phs S9 = Phs S + 604000 ∧ pI S9 801 x = 0 ∧ pI S9 800 x = 0 ∧ pI S9 806 x = 0 ∧ mA S9 x 807 = prcF) := by
  refine ent_m (cc := cX8_init) (maxL := 1) (ret := none) (by decide) rfl (Nat.le_of_ble_eq_true rfl) ?_
  intro p e s m below meth c ls X hr hlocks hin hw hl hsz
  subst hsz
  have X : Cx p c cX8_init 1 s [.ref x].toArray wsX8_init RX8 m G cy κ (AS S s.heap.size) := X
  have hl : lv_has ls 1 [(0, .ref x)] := hl
  have hpc0 : Phc S = Phc S + 0 := rfl
  have hps0 : Phs S = Phs S + 0 := rfl
  have hK : Kq S S x := Kq.rf S _
  refine lv_aload_n X.1 X.2.1 dX8_init_0 rfl (lv_at hl 0 rfl) ?_
  refine W.objInit X.1 X.2.1 X.2.2.2.2.1 (X.2.2.2.1 (.methodLink RX8 3 objectInit) (by decide +kernel)) (X.2.2.2.1 (.instanceMethod objectInit) (by decide +kernel)) (X.2.2.2.1 (.code objectInit ⟨#[0xb1]⟩ 1 none) (by decide +kernel)) rfl (hl.1.trans X.2.2.1.symm) rfl dX8_init_1 (Nat.le_of_ble_eq_true rfl) (Nat.le_of_ble_eq_true rfl) ?_
  refine W.eq (g2 := F0 m 4 ls ([])) rfl ?_
  refine lv_aload_n X.1 X.2.1 dX8_init_4 rfl (lv_at hl 0 rfl) ?_
  refine lv_iconst (v := 4) X.1 X.2.1 dX8_init_5 (by decide) ?_
  refine r_newI (N := 4) X hw 154 4 1 rfl (X.2.2.2.1 (.arrayClass .int) (by decide +kernel)) (z_nn ti_4 (by omega)) (by decide) (by decide) (Nat.le_of_ble_eq_true rfl) (Nat.le_of_ble_eq_true rfl) (Nat.le_of_ble_eq_true rfl) (Nat.le_of_ble_eq_true rfl) dX8_init_6 (fun q_1 H hq_1 hw => ?_)
  obtain ⟨S_2, eS_2⟩ : ∃ T, T = sN S q_1 154 4 := ⟨_, rfl⟩
  rw [← eS_2] at hw
  have ph_3 : Phc S_2 = Phc S + 0 := (show Phc S_2 = Phc S from Ph_sN' hG.ci hq_1 eS_2 (by decide)).trans hpc0
  have ph_4 : Phs S_2 = Phs S + 0 := (show Phs S_2 = Phs S from Ph_sN' hG.ci hq_1 eS_2 (by decide)).trans hps0
  clear hpc0
  clear hps0
  have hK_5 : Kq S S_2 x := hK.sN hq_1 eS_2
  have hg_6 : GX S_2 := by rw [eS_2]; exact GX_N hG hq_1 (by decide +kernel)
  have hn0_q_1 := hK.new hq_1
  have ha_7 : At S_2 q_1 154 := by rw [eS_2]; exact At_nN _ _ _ _
  have hn_8 : pN S_2 q_1 = 4 := by rw [eS_2]; exact pN_sN_new
  refine lv_dup X.1 X.2.1 dX8_init_8 rfl ?_
  refine lv_iconst (v := 0) X.1 X.2.1 dX8_init_9 (by decide) ?_
  refine lv_bipush (v := 100) X.1 X.2.1 dX8_init_10 (by decide) ?_
  refine r_iast X hw ha_7 rfl (by rw [hn_8]; exact z_ix ti_0 (by omega) (by omega)) dX8_init_12 (fun H locs hw => ?_)
  obtain ⟨S_9, eS_9⟩ : ∃ T, T = sA S_2 q_1 (upd (pA S_2 q_1) (Int32.toNatClampNeg (0)) (100)) := ⟨_, rfl⟩
  rw [← eS_9] at hw
  have ph_10 : Phc S_9 = Phc S + 0 := (show Phc S_9 = Phc S_2 from Ph_sA eS_9).trans ph_3
  have ph_11 : Phs S_9 = Phs S + 0 := (show Phs S_9 = Phs S_2 from Ph_sA eS_9).trans ph_4
  clear ph_3
  clear ph_4
  have hK_12 : Kq S S_9 x := hK_5.sA hn0_q_1 eS_9
  have hg_13 : GX S_9 := by rw [eS_9]; exact uA_154 hg_6 ha_7
  have h_14 : pA S_9 q_1 (Int32.toNatClampNeg (0)) = 100 := tA_sAs eS_9
  refine lv_dup X.1 X.2.1 dX8_init_13 rfl ?_
  refine lv_iconst (v := 1) X.1 X.2.1 dX8_init_14 (by decide) ?_
  refine lv_bipush (v := 80) X.1 X.2.1 dX8_init_15 (by decide) ?_
  have t_15 : At S_9 q_1 154 := tAt_sA eS_9 ha_7
  have t_16 : pN S_9 q_1 = 4 := tN_sA eS_9 hn_8
  clear hn_8
  refine r_iast X hw t_15 rfl (by rw [t_16]; exact z_ix ti_1 (by omega) (by omega)) dX8_init_17 (fun H locs hw => ?_)
  obtain ⟨S_17, eS_17⟩ : ∃ T, T = sA S_9 q_1 (upd (pA S_9 q_1) (Int32.toNatClampNeg (1)) (80)) := ⟨_, rfl⟩
  rw [← eS_17] at hw
  have ph_18 : Phc S_17 = Phc S + 0 := (show Phc S_17 = Phc S_9 from Ph_sA eS_17).trans ph_10
  have ph_19 : Phs S_17 = Phs S + 0 := (show Phs S_17 = Phs S_9 from Ph_sA eS_17).trans ph_11
  clear ph_10
  clear ph_11
  have hK_20 : Kq S S_17 x := hK_12.sA hn0_q_1 eS_17
  have hg_21 : GX S_17 := by rw [eS_17]; exact uA_154 hg_13 t_15
  have h_22 : pA S_17 q_1 (Int32.toNatClampNeg (1)) = 80 := tA_sAs eS_17
  refine lv_dup X.1 X.2.1 dX8_init_18 rfl ?_
  refine lv_iconst (v := 2) X.1 X.2.1 dX8_init_19 (by decide) ?_
  refine lv_bipush (v := 50) X.1 X.2.1 dX8_init_20 (by decide) ?_
  have t_23 : At S_17 q_1 154 := tAt_sA eS_17 t_15
  have t_24 : pN S_17 q_1 = 4 := tN_sA eS_17 t_16
  clear t_16
  refine r_iast X hw t_23 rfl (by rw [t_24]; exact z_ix ti_2 (by omega) (by omega)) dX8_init_22 (fun H locs hw => ?_)
  obtain ⟨S_25, eS_25⟩ : ∃ T, T = sA S_17 q_1 (upd (pA S_17 q_1) (Int32.toNatClampNeg (2)) (50)) := ⟨_, rfl⟩
  rw [← eS_25] at hw
  have ph_26 : Phc S_25 = Phc S + 0 := (show Phc S_25 = Phc S_17 from Ph_sA eS_25).trans ph_18
  have ph_27 : Phs S_25 = Phs S + 0 := (show Phs S_25 = Phs S_17 from Ph_sA eS_25).trans ph_19
  clear ph_18
  clear ph_19
  have hK_28 : Kq S S_25 x := hK_20.sA hn0_q_1 eS_25
  have hg_29 : GX S_25 := by rw [eS_25]; exact uA_154 hg_21 t_23
  have h_30 : pA S_25 q_1 (Int32.toNatClampNeg (2)) = 50 := tA_sAs eS_25
  refine lv_dup X.1 X.2.1 dX8_init_23 rfl ?_
  refine lv_iconst (v := 3) X.1 X.2.1 dX8_init_24 (by decide) ?_
  refine lv_bipush (v := 20) X.1 X.2.1 dX8_init_25 (by decide) ?_
  have t_31 : At S_25 q_1 154 := tAt_sA eS_25 t_23
  have t_32 : pN S_25 q_1 = 4 := tN_sA eS_25 t_24
  clear t_24
  refine r_iast X hw t_31 rfl (by rw [t_32]; exact z_ix ti_3 (by omega) (by omega)) dX8_init_27 (fun H locs hw => ?_)
  obtain ⟨S_33, eS_33⟩ : ∃ T, T = sA S_25 q_1 (upd (pA S_25 q_1) (Int32.toNatClampNeg (3)) (20)) := ⟨_, rfl⟩
  rw [← eS_33] at hw
  have ph_34 : Phc S_33 = Phc S + 0 := (show Phc S_33 = Phc S_25 from Ph_sA eS_33).trans ph_26
  have ph_35 : Phs S_33 = Phs S + 0 := (show Phs S_33 = Phs S_25 from Ph_sA eS_33).trans ph_27
  clear ph_26
  clear ph_27
  have hK_36 : Kq S S_33 x := hK_28.sA hn0_q_1 eS_33
  have hg_37 : GX S_33 := by rw [eS_33]; exact uA_154 hg_29 t_31
  have h_38 : pA S_33 q_1 (Int32.toNatClampNeg (3)) = 20 := tA_sAs eS_33
  have t_39 : At S_2 x 188 := by rw [eS_2]; exact At_sN ha_x hq_1
  have t_40 : At S_9 x 188 := tAt_sA eS_9 t_39
  have t_41 : At S_17 x 188 := tAt_sA eS_17 t_40
  have t_42 : At S_25 x 188 := tAt_sA eS_25 t_41
  have t_43 : At S_33 x 188 := tAt_sA eS_33 t_42
  have t_44 : At S_33 q_1 154 := tAt_sA eS_33 t_31
  refine r_putR X hw t_43 rfl 7 807 (some q_1) rfl tyX8 (by decide) rfl inn_X8_init_8 tyX8_ok nmX8 (by decide) (X.2.2.2.1 (.fieldLink RX8 9 "SilkMill$Store" "prices" "[I") (by decide +kernel)) rfl (Or.inr ⟨rfl, hin, rfl⟩) (fun _ => rfl) rfl (fun _ => rfl) rfl (Nat.le_of_ble_eq_true rfl) (st_807 _ _) dX8_init_28 (fun H locs hw => ?_)
  obtain ⟨S_45, eS_45⟩ : ∃ T, T = sR S_33 807 x (some q_1) := ⟨_, rfl⟩
  rw [← eS_45] at hw
  have ph_46 : Phc S_45 = Phc S + 0 := (show Phc S_45 = Phc S_33 from Ph_rawR t_43 (by decide) eS_45).trans ph_34
  have ph_47 : Phs S_45 = Phs S + 0 := (show Phs S_45 = Phs S_33 from Ph_rawR t_43 (by decide) eS_45).trans ph_35
  clear ph_34
  clear ph_35
  have hK_48 : Kq S S_45 x := hK_36.sR eS_45
  have hg_49 : GX S_45 := by rw [eS_45]; exact GX_rawR hg_37 t_43 (by decide +kernel)
  have h_50 : pR S_45 807 x = some q_1 := tR_sRs eS_45
  refine lv_aload_n X.1 X.2.1 dX8_init_31 rfl (lv_at hl 0 rfl) ?_
  refine lv_bipush (v := 40) X.1 X.2.1 dX8_init_32 (by decide) ?_
  refine r_newQ (N := 40) (C := RX7) X hw 19 19 44 2 rfl (by decide) rfl (X.2.2.2.1 (.classLink RX8 15 RX7) (by decide +kernel)) X.2.2.2.2.2.2.2.1.1.2.2.2 (z_nn ti_40 (by omega)) (by decide) (by decide) (Nat.le_of_ble_eq_true rfl) (Nat.le_of_ble_eq_true rfl) (Nat.le_of_ble_eq_true rfl) (Nat.le_of_ble_eq_true rfl) dX8_init_34 (fun q_51 H hq_51 hw => ?_)
  obtain ⟨S_52, eS_52⟩ : ∃ T, T = sN S_45 q_51 19 40 := ⟨_, rfl⟩
  rw [← eS_52] at hw
  have ph_53 : Phc S_52 = Phc S + 0 := (show Phc S_52 = Phc S_45 from Ph_sN' hg_49.ci hq_51 eS_52 (by decide)).trans ph_46
  have ph_54 : Phs S_52 = Phs S + 0 := (show Phs S_52 = Phs S_45 from Ph_sN' hg_49.ci hq_51 eS_52 (by decide)).trans ph_47
  clear ph_46
  clear ph_47
  have hK_55 : Kq S S_52 x := hK_48.sN hq_51 eS_52
  have hg_56 : GX S_52 := by rw [eS_52]; exact GX_N hg_49 hq_51 (by decide +kernel)
  have hn0_q_51 := hK_48.new hq_51
  have ha_57 : At S_52 q_51 19 := by rw [eS_52]; exact At_nN _ _ _ _
  have hn_58 : pN S_52 q_51 = 40 := by rw [eS_52]; exact pN_sN_new
  have t_59 : At S_45 x 188 := tAt_sR eS_45 t_43
  have t_60 : At S_52 x 188 := by rw [eS_52]; exact At_sN t_59 hq_51
  refine r_putR X hw t_60 rfl 8 808 (some q_51) rfl tyX8 (by decide) rfl inn_X8_init_8 tyX8_ok nmX8 (by decide) (X.2.2.2.1 (.fieldLink RX8 17 "SilkMill$Store" "skeins" "[LSilkMill$Skein;") (by decide +kernel)) rfl (Or.inr ⟨rfl, hin, rfl⟩) (fun _ => rfl) rfl (fun _ => rfl) rfl (Nat.le_of_ble_eq_true rfl) (st_808 _ _) dX8_init_37 (fun H locs hw => ?_)
  obtain ⟨S_61, eS_61⟩ : ∃ T, T = sR S_52 808 x (some q_51) := ⟨_, rfl⟩
  rw [← eS_61] at hw
  have ph_62 : Phc S_61 = Phc S + 0 := (show Phc S_61 = Phc S_52 from Ph_rawR t_60 (by decide) eS_61).trans ph_53
  have ph_63 : Phs S_61 = Phs S + 0 := (show Phs S_61 = Phs S_52 from Ph_rawR t_60 (by decide) eS_61).trans ph_54
  clear ph_53
  clear ph_54
  have hK_64 : Kq S S_61 x := hK_55.sR eS_61
  have hg_65 : GX S_61 := by rw [eS_61]; exact GX_rawR hg_56 t_60 (by decide +kernel)
  have h_66 : pR S_61 808 x = some q_51 := tR_sRs eS_61
  refine lv_aload_n X.1 X.2.1 dX8_init_40 rfl (lv_at hl 0 rfl) ?_
  refine lv_bipush (v := 40) X.1 X.2.1 dX8_init_41 (by decide) ?_
  refine r_newI (N := 40) X hw 1674 84 3 rfl (X.2.2.2.1 (.arrayClass .int) (by decide +kernel)) (z_nn ti_40 (by omega)) (by decide) (by decide) (Nat.le_of_ble_eq_true rfl) (Nat.le_of_ble_eq_true rfl) (Nat.le_of_ble_eq_true rfl) (Nat.le_of_ble_eq_true rfl) dX8_init_43 (fun q_67 H hq_67 hw => ?_)
  obtain ⟨S_68, eS_68⟩ : ∃ T, T = sN S_61 q_67 1674 40 := ⟨_, rfl⟩
  rw [← eS_68] at hw
  have ph_69 : Phc S_68 = Phc S + 0 := (show Phc S_68 = Phc S_61 from Ph_sN' hg_65.ci hq_67 eS_68 (by decide)).trans ph_62
  have ph_70 : Phs S_68 = Phs S + 0 := (show Phs S_68 = Phs S_61 from Ph_sN' hg_65.ci hq_67 eS_68 (by decide)).trans ph_63
  clear ph_62
  clear ph_63
  have hK_71 : Kq S S_68 x := hK_64.sN hq_67 eS_68
  have hg_72 : GX S_68 := by rw [eS_68]; exact GX_N hg_65 hq_67 (by decide +kernel)
  have hn0_q_67 := hK_64.new hq_67
  have ha_73 : At S_68 q_67 1674 := by rw [eS_68]; exact At_nN _ _ _ _
  have hn_74 : pN S_68 q_67 = 40 := by rw [eS_68]; exact pN_sN_new
  have t_75 : At S_61 x 188 := tAt_sR eS_61 t_60
  have t_76 : At S_68 x 188 := by rw [eS_68]; exact At_sN t_75 hq_67
  refine r_putR X hw t_76 rfl 9 809 (some q_67) rfl tyX8 (by decide) rfl inn_X8_init_8 tyX8_ok nmX8 (by decide) (X.2.2.2.1 (.fieldLink RX8 21 "SilkMill$Store" "faultSkeins" "[I") (by decide +kernel)) rfl (Or.inr ⟨rfl, hin, rfl⟩) (fun _ => rfl) rfl (fun _ => rfl) rfl (Nat.le_of_ble_eq_true rfl) (st_809 _ _) dX8_init_45 (fun H locs hw => ?_)
  obtain ⟨S_77, eS_77⟩ : ∃ T, T = sR S_68 809 x (some q_67) := ⟨_, rfl⟩
  rw [← eS_77] at hw
  have ph_78 : Phc S_77 = Phc S + 0 := (show Phc S_77 = Phc S_68 from Ph_rawR t_76 (by decide) eS_77).trans ph_69
  have ph_79 : Phs S_77 = Phs S + 0 := (show Phs S_77 = Phs S_68 from Ph_rawR t_76 (by decide) eS_77).trans ph_70
  clear ph_69
  clear ph_70
  have hK_80 : Kq S S_77 x := hK_71.sR eS_77
  have hg_81 : GX S_77 := by rw [eS_77]; exact GX_rawR hg_72 t_76 (by decide +kernel)
  have h_82 : pR S_77 809 x = some q_67 := tR_sRs eS_77
  refine lv_aload_n X.1 X.2.1 dX8_init_48 rfl (lv_at hl 0 rfl) ?_
  refine lv_bipush (v := 40) X.1 X.2.1 dX8_init_49 (by decide) ?_
  refine r_newI (N := 40) X hw 1694 124 4 rfl (X.2.2.2.1 (.arrayClass .int) (by decide +kernel)) (z_nn ti_40 (by omega)) (by decide) (by decide) (Nat.le_of_ble_eq_true rfl) (Nat.le_of_ble_eq_true rfl) (Nat.le_of_ble_eq_true rfl) (Nat.le_of_ble_eq_true rfl) dX8_init_51 (fun q_83 H hq_83 hw => ?_)
  obtain ⟨S_84, eS_84⟩ : ∃ T, T = sN S_77 q_83 1694 40 := ⟨_, rfl⟩
  rw [← eS_84] at hw
  have ph_85 : Phc S_84 = Phc S + 0 := (show Phc S_84 = Phc S_77 from Ph_sN' hg_81.ci hq_83 eS_84 (by decide)).trans ph_78
  have ph_86 : Phs S_84 = Phs S + 0 := (show Phs S_84 = Phs S_77 from Ph_sN' hg_81.ci hq_83 eS_84 (by decide)).trans ph_79
  clear ph_78
  clear ph_79
  have hK_87 : Kq S S_84 x := hK_80.sN hq_83 eS_84
  have hg_88 : GX S_84 := by rw [eS_84]; exact GX_N hg_81 hq_83 (by decide +kernel)
  have hn0_q_83 := hK_80.new hq_83
  have ha_89 : At S_84 q_83 1694 := by rw [eS_84]; exact At_nN _ _ _ _
  have hn_90 : pN S_84 q_83 = 40 := by rw [eS_84]; exact pN_sN_new
  have t_91 : At S_77 x 188 := tAt_sR eS_77 t_76
  have t_92 : At S_84 x 188 := by rw [eS_84]; exact At_sN t_91 hq_83
  refine r_putR X hw t_92 rfl 10 810 (some q_83) rfl tyX8 (by decide) rfl inn_X8_init_8 tyX8_ok nmX8 (by decide) (X.2.2.2.1 (.fieldLink RX8 24 "SilkMill$Store" "faultDays" "[I") (by decide +kernel)) rfl (Or.inr ⟨rfl, hin, rfl⟩) (fun _ => rfl) rfl (fun _ => rfl) rfl (Nat.le_of_ble_eq_true rfl) (st_810 _ _) dX8_init_53 (fun H locs hw => ?_)
  obtain ⟨S_93, eS_93⟩ : ∃ T, T = sR S_84 810 x (some q_83) := ⟨_, rfl⟩
  rw [← eS_93] at hw
  have ph_94 : Phc S_93 = Phc S + 0 := (show Phc S_93 = Phc S_84 from Ph_rawR t_92 (by decide) eS_93).trans ph_85
  have ph_95 : Phs S_93 = Phs S + 0 := (show Phs S_93 = Phs S_84 from Ph_rawR t_92 (by decide) eS_93).trans ph_86
  clear ph_85
  clear ph_86
  have hK_96 : Kq S S_93 x := hK_87.sR eS_93
  have hg_97 : GX S_93 := by rw [eS_93]; exact GX_rawR hg_88 t_92 (by decide +kernel)
  have h_98 : pR S_93 810 x = some q_83 := tR_sRs eS_93
  refine lv_aload_n X.1 X.2.1 dX8_init_56 rfl (lv_at hl 0 rfl) ?_
  refine lv_bipush (v := 40) X.1 X.2.1 dX8_init_57 (by decide) ?_
  refine r_newI (N := 40) X hw 1714 164 5 rfl (X.2.2.2.1 (.arrayClass .int) (by decide +kernel)) (z_nn ti_40 (by omega)) (by decide) (by decide) (Nat.le_of_ble_eq_true rfl) (Nat.le_of_ble_eq_true rfl) (Nat.le_of_ble_eq_true rfl) (Nat.le_of_ble_eq_true rfl) dX8_init_59 (fun q_99 H hq_99 hw => ?_)
  obtain ⟨S_100, eS_100⟩ : ∃ T, T = sN S_93 q_99 1714 40 := ⟨_, rfl⟩
  rw [← eS_100] at hw
  have ph_101 : Phc S_100 = Phc S + 0 := (show Phc S_100 = Phc S_93 from Ph_sN' hg_97.ci hq_99 eS_100 (by decide)).trans ph_94
  have ph_102 : Phs S_100 = Phs S + 0 := (show Phs S_100 = Phs S_93 from Ph_sN' hg_97.ci hq_99 eS_100 (by decide)).trans ph_95
  clear ph_94
  clear ph_95
  have hK_103 : Kq S S_100 x := hK_96.sN hq_99 eS_100
  have hg_104 : GX S_100 := by rw [eS_100]; exact GX_N hg_97 hq_99 (by decide +kernel)
  have hn0_q_99 := hK_96.new hq_99
  have ha_105 : At S_100 q_99 1714 := by rw [eS_100]; exact At_nN _ _ _ _
  have hn_106 : pN S_100 q_99 = 40 := by rw [eS_100]; exact pN_sN_new
  have t_107 : At S_93 x 188 := tAt_sR eS_93 t_92
  have t_108 : At S_100 x 188 := by rw [eS_100]; exact At_sN t_107 hq_99
  refine r_putR X hw t_108 rfl 11 811 (some q_99) rfl tyX8 (by decide) rfl inn_X8_init_8 tyX8_ok nmX8 (by decide) (X.2.2.2.1 (.fieldLink RX8 27 "SilkMill$Store" "faultAmounts" "[I") (by decide +kernel)) rfl (Or.inr ⟨rfl, hin, rfl⟩) (fun _ => rfl) rfl (fun _ => rfl) rfl (Nat.le_of_ble_eq_true rfl) (st_811 _ _) dX8_init_61 (fun H locs hw => ?_)
  obtain ⟨S_109, eS_109⟩ : ∃ T, T = sR S_100 811 x (some q_99) := ⟨_, rfl⟩
  rw [← eS_109] at hw
  have ph_110 : Phc S_109 = Phc S + 0 := (show Phc S_109 = Phc S_100 from Ph_rawR t_108 (by decide) eS_109).trans ph_101
  have ph_111 : Phs S_109 = Phs S + 0 := (show Phs S_109 = Phs S_100 from Ph_rawR t_108 (by decide) eS_109).trans ph_102
  clear ph_101
  clear ph_102
  have hK_112 : Kq S S_109 x := hK_103.sR eS_109
  have hg_113 : GX S_109 := by rw [eS_109]; exact GX_rawR hg_104 t_108 (by decide +kernel)
  have h_114 : pR S_109 811 x = some q_99 := tR_sRs eS_109
  refine lv_aload_n X.1 X.2.1 dX8_init_64 rfl (lv_at hl 0 rfl) ?_
  refine r_new X hw 182 2 172 6 rfl tyX2 (by decide) rfl inn_X8_init_2 tyX2_ok (X.2.2.2.1 (.classLink RX8 30 RX2) (by decide +kernel)) (X.2.2.2.1 (.instantiable RX2 8) (by decide +kernel)) (X.2.2.2.1 (.initialized RX2) (by decide +kernel)) (zo_2 _) zd_2 (Nat.le_of_ble_eq_true rfl) (Nat.le_of_ble_eq_true rfl) (Nat.le_of_ble_eq_true rfl) (Nat.le_of_ble_eq_true rfl) dX8_init_65 (fun q_115 H hq_115 hw => ?_)
  obtain ⟨S_116, eS_116⟩ : ∃ T, T = sO S_109 q_115 182 := ⟨_, rfl⟩
  rw [← eS_116] at hw
  have ph_117 : Phc S_116 = Phc S + 0 := (show Phc S_116 = Phc S_109 from Ph_sO hg_113 hq_115 eS_116 (by decide)).trans ph_110
  have ph_118 : Phs S_116 = Phs S + 0 := (show Phs S_116 = Phs S_109 from Ph_sO hg_113 hq_115 eS_116 (by decide)).trans ph_111
  clear ph_110
  clear ph_111
  have hK_119 : Kq S S_116 x := hK_112.sO hq_115 eS_116
  have hg_120 : GX S_116 := by rw [eS_116]; exact GX_O hg_113 hq_115 (by decide +kernel)
  have hn0_q_115 := hK_112.new hq_115
  have ha_121 : At S_116 q_115 182 := by rw [eS_116]; exact At_nO _ _ _
  have hzI_q_115 : ∀ g, pI S_116 g q_115 = 0 := fun g => by rw [eS_116]; exact pI_sO_new
  have hzR_q_115 : ∀ g, pR S_116 g q_115 = none := fun g => by rw [eS_116]; exact if_pos rfl
  refine lv_dup X.1 X.2.1 dX8_init_68 rfl ?_
  refine k_v (rm := { frames := 2, cells := 3, slots := 42, locals := 96 }) (av := [.ref q_115]) X hw (va_runIN (As := []) (rest := [.ref q_115, .ref x]) (cfix X) (k_X2_init l G cy κ S_116 _ q_115 hg_120 ha_121 hzI_q_115 hzR_q_115) ⟨(va_cnB (host := RX11) 0 X.2.2.2.1 gX8_init_X2_init_n32 rfl rfl rfl (X.2.2.2.2.2.2.2.1.2.1 (RX8, 32, yX2_init) (by decide +kernel)) (X.2.2.2.1 (.initialized RX2) (by decide +kernel)) (by decide +kernel) ⟨Nat.le_of_ble_eq_true rfl, Nat.le_of_ble_eq_true rfl⟩), rfl, (X.2.2.2.1 (.instanceMethod yX2_init) (by decide +kernel))⟩ (pre_S X hw _) rfl rfl hl.1 rfl (lv_room (Nat.le_of_ble_eq_true rfl)) dX8_init_69 ⟨Nat.le_of_ble_eq_true rfl, Nat.le_of_ble_eq_true rfl⟩) 9 214 (Nat.le_of_ble_eq_true rfl) (Nat.le_of_ble_eq_true rfl) (fun S_123 H locs hp hw hfr hnw => ?_)
  obtain ⟨hK_124, hg_125, ha_126, ph_127, ph_128⟩ := hp
  have hK_129 : Kq S S_123 x := hK_119.sub hn0_q_115 hK_124
  have ph_130 : Phc S_123 = Phc S + 0 := by omega
  have ph_131 : Phs S_123 = Phs S + 0 := by omega
  clear ph_117
  clear ph_118
  clear ph_127
  clear ph_128
  have t_132 : At S_109 x 188 := tAt_sR eS_109 t_108
  have t_133 : At S_116 x 188 := by rw [eS_116]; exact At_sO t_132 hq_115
  have t_134 : At S_123 x 188 := hK_124.at ha_121 t_133 (by decide)
  refine r_putR X hw t_134 rfl 12 812 (some q_115) rfl tyX8 (by decide) rfl inn_X8_init_8 tyX8_ok nmX8 (by decide) (X.2.2.2.1 (.fieldLink RX8 33 "SilkMill$Store" "mixer" "LSilkMill$Mixer;") (by decide +kernel)) rfl (Or.inr ⟨rfl, hin, rfl⟩) (fun _ => rfl) rfl (fun _ => rfl) rfl (Nat.le_of_ble_eq_true rfl) (st_812 _ _) dX8_init_72 (fun H locs hw => ?_)
  obtain ⟨S_135, eS_135⟩ : ∃ T, T = sR S_123 812 x (some q_115) := ⟨_, rfl⟩
  rw [← eS_135] at hw
  have ph_136 : Phc S_135 = Phc S + 0 := (show Phc S_135 = Phc S_123 from Ph_rawR t_134 (by decide) eS_135).trans ph_130
  have ph_137 : Phs S_135 = Phs S + 0 := (show Phs S_135 = Phs S_123 from Ph_rawR t_134 (by decide) eS_135).trans ph_131
  clear ph_130
  clear ph_131
  have hK_138 : Kq S S_135 x := hK_129.sR eS_135
  have hg_139 : GX S_135 := by rw [eS_135]; exact GX_rawR hg_125 t_134 (by decide +kernel)
  have h_140 : pR S_135 812 x = some q_115 := tR_sRs eS_135
  have t_141 : At S_135 x 188 := tAt_sR eS_135 t_134
  have nd_142 := nodup_of hw
  have t_143 : pI S_2 800 x = 0 := by rw [eS_2, pI_sN]; exact (hzI 800)
  have t_144 : pI S_9 800 x = 0 := tI_sA eS_9 t_143
  have t_145 : pI S_17 800 x = 0 := tI_sA eS_17 t_144
  have t_146 : pI S_25 800 x = 0 := tI_sA eS_25 t_145
  have t_147 : pI S_33 800 x = 0 := tI_sA eS_33 t_146
  have t_148 : pI S_45 800 x = 0 := tI_sR eS_45 t_147
  have t_149 : pI S_52 800 x = 0 := by rw [eS_52, pI_sN]; exact t_148
  have t_150 : pI S_61 800 x = 0 := tI_sR eS_61 t_149
  have t_151 : pI S_68 800 x = 0 := by rw [eS_68, pI_sN]; exact t_150
  have t_152 : pI S_77 800 x = 0 := tI_sR eS_77 t_151
  have t_153 : pI S_84 800 x = 0 := by rw [eS_84, pI_sN]; exact t_152
  have t_154 : pI S_93 800 x = 0 := tI_sR eS_93 t_153
  have t_155 : pI S_100 800 x = 0 := by rw [eS_100, pI_sN]; exact t_154
  have t_156 : pI S_109 800 x = 0 := tI_sR eS_109 t_155
  have t_158 : At S_109 x 188 := tAt_sR eS_109 t_108
  have t_157 : pI S_116 800 x = 0 := by rw [eS_116]; exact (pI_sO_ne (ne_of_new hq_115 t_158.1)).trans t_156
  have t_160 : At S_116 x 188 := by rw [eS_116]; exact At_sO t_158 hq_115
  have t_159 : pI S_123 800 x = 0 := (((hK_124 x t_160.1).2 (At_ne t_160 ha_121 (by decide))).2.1 800).trans t_157
  have t_161 : pI S_135 800 x = 0 := tI_sR eS_135 t_159
  have t_162 : pI S_2 806 x = 0 := by rw [eS_2, pI_sN]; exact (hzI 806)
  have t_163 : pI S_9 806 x = 0 := tI_sA eS_9 t_162
  have t_164 : pI S_17 806 x = 0 := tI_sA eS_17 t_163
  have t_165 : pI S_25 806 x = 0 := tI_sA eS_25 t_164
  have t_166 : pI S_33 806 x = 0 := tI_sA eS_33 t_165
  have t_167 : pI S_45 806 x = 0 := tI_sR eS_45 t_166
  have t_168 : pI S_52 806 x = 0 := by rw [eS_52, pI_sN]; exact t_167
  have t_169 : pI S_61 806 x = 0 := tI_sR eS_61 t_168
  have t_170 : pI S_68 806 x = 0 := by rw [eS_68, pI_sN]; exact t_169
  have t_171 : pI S_77 806 x = 0 := tI_sR eS_77 t_170
  have t_172 : pI S_84 806 x = 0 := by rw [eS_84, pI_sN]; exact t_171
  have t_173 : pI S_93 806 x = 0 := tI_sR eS_93 t_172
  have t_174 : pI S_100 806 x = 0 := by rw [eS_100, pI_sN]; exact t_173
  have t_175 : pI S_109 806 x = 0 := tI_sR eS_109 t_174
  have t_176 : pI S_116 806 x = 0 := by rw [eS_116]; exact (pI_sO_ne (ne_of_new hq_115 t_158.1)).trans t_175
  have t_177 : pI S_123 806 x = 0 := (((hK_124 x t_160.1).2 (At_ne t_160 ha_121 (by decide))).2.1 806).trans t_176
  have t_178 : pI S_135 806 x = 0 := tI_sR eS_135 t_177
  have t_179 : pR S_52 807 x = some q_1 := by rw [eS_52, pR_sN]; exact h_50
  have t_180 : pR S_61 807 x = some q_1 := tR_sR eS_61 rfl t_179
  have t_181 : pR S_68 807 x = some q_1 := by rw [eS_68, pR_sN]; exact t_180
  have t_182 : pR S_77 807 x = some q_1 := tR_sR eS_77 rfl t_181
  have t_183 : pR S_84 807 x = some q_1 := by rw [eS_84, pR_sN]; exact t_182
  have t_184 : pR S_93 807 x = some q_1 := tR_sR eS_93 rfl t_183
  have t_185 : pR S_100 807 x = some q_1 := by rw [eS_100, pR_sN]; exact t_184
  have t_186 : pR S_109 807 x = some q_1 := tR_sR eS_109 rfl t_185
  have t_187 : pR S_116 807 x = some q_1 := by rw [eS_116]; exact (pR_sO_ne (ne_of_new hq_115 t_158.1)).trans t_186
  have t_188 : pR S_123 807 x = some q_1 := (((hK_124 x t_160.1).2 (At_ne t_160 ha_121 (by decide))).2.2.1 807).trans t_187
  have t_189 : pR S_135 807 x = some q_1 := tR_sR eS_135 rfl t_188
  have t_190 : At S_45 q_1 154 := tAt_sR eS_45 t_44
  have t_191 : At S_52 q_1 154 := by rw [eS_52]; exact At_sN t_190 hq_51
  have t_192 : At S_61 q_1 154 := tAt_sR eS_61 t_191
  have t_193 : At S_68 q_1 154 := by rw [eS_68]; exact At_sN t_192 hq_67
  have t_194 : At S_77 q_1 154 := tAt_sR eS_77 t_193
  have t_195 : At S_84 q_1 154 := by rw [eS_84]; exact At_sN t_194 hq_83
  have t_196 : At S_93 q_1 154 := tAt_sR eS_93 t_195
  have t_197 : At S_100 q_1 154 := by rw [eS_100]; exact At_sN t_196 hq_99
  have t_198 : At S_109 q_1 154 := tAt_sR eS_109 t_197
  have t_199 : At S_116 q_1 154 := by rw [eS_116]; exact At_sO t_198 hq_115
  have t_200 : At S_123 q_1 154 := hK_124.at ha_121 t_199 (by decide)
  have t_201 : At S_135 q_1 154 := tAt_sR eS_135 t_200
  have t_202 : pN S_33 q_1 = 4 := tN_sA eS_33 t_32
  clear t_32
  have t_203 : pN S_45 q_1 = 4 := tN_sR eS_45 t_202
  clear t_202
  have t_205 : At S_45 q_1 154 := tAt_sR eS_45 t_44
  have t_204 : pN S_52 q_1 = 4 := by rw [eS_52]; exact (pN_sN_ne (ne_of_new hq_51 t_205.1)).trans t_203
  clear t_203
  have t_206 : pN S_61 q_1 = 4 := tN_sR eS_61 t_204
  clear t_204
  have t_208 : At S_52 q_1 154 := by rw [eS_52]; exact At_sN t_205 hq_51
  have t_209 : At S_61 q_1 154 := tAt_sR eS_61 t_208
  have t_207 : pN S_68 q_1 = 4 := by rw [eS_68]; exact (pN_sN_ne (ne_of_new hq_67 t_209.1)).trans t_206
  clear t_206
  have t_210 : pN S_77 q_1 = 4 := tN_sR eS_77 t_207
  clear t_207
  have t_212 : At S_68 q_1 154 := by rw [eS_68]; exact At_sN t_209 hq_67
  have t_213 : At S_77 q_1 154 := tAt_sR eS_77 t_212
  have t_211 : pN S_84 q_1 = 4 := by rw [eS_84]; exact (pN_sN_ne (ne_of_new hq_83 t_213.1)).trans t_210
  clear t_210
  have t_214 : pN S_93 q_1 = 4 := tN_sR eS_93 t_211
  clear t_211
  have t_216 : At S_84 q_1 154 := by rw [eS_84]; exact At_sN t_213 hq_83
  have t_217 : At S_93 q_1 154 := tAt_sR eS_93 t_216
  have t_215 : pN S_100 q_1 = 4 := by rw [eS_100]; exact (pN_sN_ne (ne_of_new hq_99 t_217.1)).trans t_214
  clear t_214
  have t_218 : pN S_109 q_1 = 4 := tN_sR eS_109 t_215
  clear t_215
  have t_219 : pN S_116 q_1 = 4 := by rw [eS_116, pN_sO]; exact t_218
  clear t_218
  have t_221 : At S_100 q_1 154 := by rw [eS_100]; exact At_sN t_217 hq_99
  have t_222 : At S_109 q_1 154 := tAt_sR eS_109 t_221
  have t_223 : At S_116 q_1 154 := by rw [eS_116]; exact At_sO t_222 hq_115
  have t_220 : pN S_123 q_1 = 4 := ((hK_124 q_1 t_223.1).2 (At_ne t_223 ha_121 (by decide))).2.2.2.1.trans t_219
  clear t_219
  have t_224 : pN S_135 q_1 = 4 := tN_sR eS_135 t_220
  clear t_220
  have t_225 : pR S_68 808 x = some q_51 := by rw [eS_68, pR_sN]; exact h_66
  have t_226 : pR S_77 808 x = some q_51 := tR_sR eS_77 rfl t_225
  have t_227 : pR S_84 808 x = some q_51 := by rw [eS_84, pR_sN]; exact t_226
  have t_228 : pR S_93 808 x = some q_51 := tR_sR eS_93 rfl t_227
  have t_229 : pR S_100 808 x = some q_51 := by rw [eS_100, pR_sN]; exact t_228
  have t_230 : pR S_109 808 x = some q_51 := tR_sR eS_109 rfl t_229
  have t_231 : pR S_116 808 x = some q_51 := by rw [eS_116]; exact (pR_sO_ne (ne_of_new hq_115 t_158.1)).trans t_230
  have t_232 : pR S_123 808 x = some q_51 := (((hK_124 x t_160.1).2 (At_ne t_160 ha_121 (by decide))).2.2.1 808).trans t_231
  have t_233 : pR S_135 808 x = some q_51 := tR_sR eS_135 rfl t_232
  have t_234 : At S_61 q_51 19 := tAt_sR eS_61 ha_57
  have t_235 : At S_68 q_51 19 := by rw [eS_68]; exact At_sN t_234 hq_67
  have t_236 : At S_77 q_51 19 := tAt_sR eS_77 t_235
  have t_237 : At S_84 q_51 19 := by rw [eS_84]; exact At_sN t_236 hq_83
  have t_238 : At S_93 q_51 19 := tAt_sR eS_93 t_237
  have t_239 : At S_100 q_51 19 := by rw [eS_100]; exact At_sN t_238 hq_99
  have t_240 : At S_109 q_51 19 := tAt_sR eS_109 t_239
  have t_241 : At S_116 q_51 19 := by rw [eS_116]; exact At_sO t_240 hq_115
  have t_242 : At S_123 q_51 19 := hK_124.at ha_121 t_241 (by decide)
  have t_243 : At S_135 q_51 19 := tAt_sR eS_135 t_242
  have t_244 : pN S_61 q_51 = 40 := tN_sR eS_61 hn_58
  clear hn_58
  have t_246 : At S_61 q_51 19 := tAt_sR eS_61 ha_57
  have t_245 : pN S_68 q_51 = 40 := by rw [eS_68]; exact (pN_sN_ne (ne_of_new hq_67 t_246.1)).trans t_244
  clear t_244
  have t_247 : pN S_77 q_51 = 40 := tN_sR eS_77 t_245
  clear t_245
  have t_249 : At S_68 q_51 19 := by rw [eS_68]; exact At_sN t_246 hq_67
  have t_250 : At S_77 q_51 19 := tAt_sR eS_77 t_249
  have t_248 : pN S_84 q_51 = 40 := by rw [eS_84]; exact (pN_sN_ne (ne_of_new hq_83 t_250.1)).trans t_247
  clear t_247
  have t_251 : pN S_93 q_51 = 40 := tN_sR eS_93 t_248
  clear t_248
  have t_253 : At S_84 q_51 19 := by rw [eS_84]; exact At_sN t_250 hq_83
  have t_254 : At S_93 q_51 19 := tAt_sR eS_93 t_253
  have t_252 : pN S_100 q_51 = 40 := by rw [eS_100]; exact (pN_sN_ne (ne_of_new hq_99 t_254.1)).trans t_251
  clear t_251
  have t_255 : pN S_109 q_51 = 40 := tN_sR eS_109 t_252
  clear t_252
  have t_256 : pN S_116 q_51 = 40 := by rw [eS_116, pN_sO]; exact t_255
  clear t_255
  have t_258 : At S_100 q_51 19 := by rw [eS_100]; exact At_sN t_254 hq_99
  have t_259 : At S_109 q_51 19 := tAt_sR eS_109 t_258
  have t_260 : At S_116 q_51 19 := by rw [eS_116]; exact At_sO t_259 hq_115
  have t_257 : pN S_123 q_51 = 40 := ((hK_124 q_51 t_260.1).2 (At_ne t_260 ha_121 (by decide))).2.2.2.1.trans t_256
  clear t_256
  have t_261 : pN S_135 q_51 = 40 := tN_sR eS_135 t_257
  clear t_257
  have t_262 : pR S_84 809 x = some q_67 := by rw [eS_84, pR_sN]; exact h_82
  have t_263 : pR S_93 809 x = some q_67 := tR_sR eS_93 rfl t_262
  have t_264 : pR S_100 809 x = some q_67 := by rw [eS_100, pR_sN]; exact t_263
  have t_265 : pR S_109 809 x = some q_67 := tR_sR eS_109 rfl t_264
  have t_266 : pR S_116 809 x = some q_67 := by rw [eS_116]; exact (pR_sO_ne (ne_of_new hq_115 t_158.1)).trans t_265
  have t_267 : pR S_123 809 x = some q_67 := (((hK_124 x t_160.1).2 (At_ne t_160 ha_121 (by decide))).2.2.1 809).trans t_266
  have t_268 : pR S_135 809 x = some q_67 := tR_sR eS_135 rfl t_267
  have t_269 : At S_77 q_67 1674 := tAt_sR eS_77 ha_73
  have t_270 : At S_84 q_67 1674 := by rw [eS_84]; exact At_sN t_269 hq_83
  have t_271 : At S_93 q_67 1674 := tAt_sR eS_93 t_270
  have t_272 : At S_100 q_67 1674 := by rw [eS_100]; exact At_sN t_271 hq_99
  have t_273 : At S_109 q_67 1674 := tAt_sR eS_109 t_272
  have t_274 : At S_116 q_67 1674 := by rw [eS_116]; exact At_sO t_273 hq_115
  have t_275 : At S_123 q_67 1674 := hK_124.at ha_121 t_274 (by decide)
  have t_276 : At S_135 q_67 1674 := tAt_sR eS_135 t_275
  have t_277 : pN S_77 q_67 = 40 := tN_sR eS_77 hn_74
  clear hn_74
  have t_279 : At S_77 q_67 1674 := tAt_sR eS_77 ha_73
  have t_278 : pN S_84 q_67 = 40 := by rw [eS_84]; exact (pN_sN_ne (ne_of_new hq_83 t_279.1)).trans t_277
  clear t_277
  have t_280 : pN S_93 q_67 = 40 := tN_sR eS_93 t_278
  clear t_278
  have t_282 : At S_84 q_67 1674 := by rw [eS_84]; exact At_sN t_279 hq_83
  have t_283 : At S_93 q_67 1674 := tAt_sR eS_93 t_282
  have t_281 : pN S_100 q_67 = 40 := by rw [eS_100]; exact (pN_sN_ne (ne_of_new hq_99 t_283.1)).trans t_280
  clear t_280
  have t_284 : pN S_109 q_67 = 40 := tN_sR eS_109 t_281
  clear t_281
  have t_285 : pN S_116 q_67 = 40 := by rw [eS_116, pN_sO]; exact t_284
  clear t_284
  have t_287 : At S_100 q_67 1674 := by rw [eS_100]; exact At_sN t_283 hq_99
  have t_288 : At S_109 q_67 1674 := tAt_sR eS_109 t_287
  have t_289 : At S_116 q_67 1674 := by rw [eS_116]; exact At_sO t_288 hq_115
  have t_286 : pN S_123 q_67 = 40 := ((hK_124 q_67 t_289.1).2 (At_ne t_289 ha_121 (by decide))).2.2.2.1.trans t_285
  clear t_285
  have t_290 : pN S_135 q_67 = 40 := tN_sR eS_135 t_286
  clear t_286
  have t_291 : pR S_100 810 x = some q_83 := by rw [eS_100, pR_sN]; exact h_98
  have t_292 : pR S_109 810 x = some q_83 := tR_sR eS_109 rfl t_291
  have t_293 : pR S_116 810 x = some q_83 := by rw [eS_116]; exact (pR_sO_ne (ne_of_new hq_115 t_158.1)).trans t_292
  have t_294 : pR S_123 810 x = some q_83 := (((hK_124 x t_160.1).2 (At_ne t_160 ha_121 (by decide))).2.2.1 810).trans t_293
  have t_295 : pR S_135 810 x = some q_83 := tR_sR eS_135 rfl t_294
  have t_296 : At S_93 q_83 1694 := tAt_sR eS_93 ha_89
  have t_297 : At S_100 q_83 1694 := by rw [eS_100]; exact At_sN t_296 hq_99
  have t_298 : At S_109 q_83 1694 := tAt_sR eS_109 t_297
  have t_299 : At S_116 q_83 1694 := by rw [eS_116]; exact At_sO t_298 hq_115
  have t_300 : At S_123 q_83 1694 := hK_124.at ha_121 t_299 (by decide)
  have t_301 : At S_135 q_83 1694 := tAt_sR eS_135 t_300
  have t_302 : pN S_93 q_83 = 40 := tN_sR eS_93 hn_90
  clear hn_90
  have t_304 : At S_93 q_83 1694 := tAt_sR eS_93 ha_89
  have t_303 : pN S_100 q_83 = 40 := by rw [eS_100]; exact (pN_sN_ne (ne_of_new hq_99 t_304.1)).trans t_302
  clear t_302
  have t_305 : pN S_109 q_83 = 40 := tN_sR eS_109 t_303
  clear t_303
  have t_306 : pN S_116 q_83 = 40 := by rw [eS_116, pN_sO]; exact t_305
  clear t_305
  have t_308 : At S_100 q_83 1694 := by rw [eS_100]; exact At_sN t_304 hq_99
  have t_309 : At S_109 q_83 1694 := tAt_sR eS_109 t_308
  have t_310 : At S_116 q_83 1694 := by rw [eS_116]; exact At_sO t_309 hq_115
  have t_307 : pN S_123 q_83 = 40 := ((hK_124 q_83 t_310.1).2 (At_ne t_310 ha_121 (by decide))).2.2.2.1.trans t_306
  clear t_306
  have t_311 : pN S_135 q_83 = 40 := tN_sR eS_135 t_307
  clear t_307
  have t_312 : pR S_116 811 x = some q_99 := by rw [eS_116]; exact (pR_sO_ne (ne_of_new hq_115 t_158.1)).trans h_114
  have t_313 : pR S_123 811 x = some q_99 := (((hK_124 x t_160.1).2 (At_ne t_160 ha_121 (by decide))).2.2.1 811).trans t_312
  have t_314 : pR S_135 811 x = some q_99 := tR_sR eS_135 rfl t_313
  have t_315 : At S_109 q_99 1714 := tAt_sR eS_109 ha_105
  have t_316 : At S_116 q_99 1714 := by rw [eS_116]; exact At_sO t_315 hq_115
  have t_317 : At S_123 q_99 1714 := hK_124.at ha_121 t_316 (by decide)
  have t_318 : At S_135 q_99 1714 := tAt_sR eS_135 t_317
  have t_319 : pN S_109 q_99 = 40 := tN_sR eS_109 hn_106
  clear hn_106
  have t_320 : pN S_116 q_99 = 40 := by rw [eS_116, pN_sO]; exact t_319
  clear t_319
  have t_322 : At S_109 q_99 1714 := tAt_sR eS_109 ha_105
  have t_323 : At S_116 q_99 1714 := by rw [eS_116]; exact At_sO t_322 hq_115
  have t_321 : pN S_123 q_99 = 40 := ((hK_124 q_99 t_323.1).2 (At_ne t_323 ha_121 (by decide))).2.2.2.1.trans t_320
  clear t_320
  have t_324 : pN S_135 q_99 = 40 := tN_sR eS_135 t_321
  clear t_321
  have t_325 : At S_135 q_115 2 := tAt_sR eS_135 ha_126
  obtain ⟨S_326, eS_326⟩ : ∃ T, T = sK S_135 x 8 := ⟨_, rfl⟩
  have hw := Wd_sK (k := 8) hw t_141 rfl; rw [← eS_326] at hw
  have hg9 : GX S_326 := by rw [eS_326]; exact GX_sK hg_139 t_141 (by decide +kernel) (mk_8 (by rw [pI_sK, t_161]; exact ⟨by rw [ti_0]; omega, by rw [ti_0]; omega⟩) (by rw [pI_sK, t_178]; exact ⟨by rw [ti_0]; omega, by rw [ti_0]; omega⟩) ⟨q_1, (by rw [pR_sK]; exact t_189), At_sK t_141 t_201 (by decide), by rw [pN_sK]; exact t_224⟩ ⟨q_51, (by rw [pR_sK]; exact t_233), At_sK t_141 t_243 (by decide), by rw [pN_sK]; exact t_261⟩ ⟨q_67, (by rw [pR_sK]; exact t_268), At_sK t_141 t_276 (by decide), by rw [pN_sK]; exact t_290⟩ ⟨q_83, (by rw [pR_sK]; exact t_295), At_sK t_141 t_301 (by decide), by rw [pN_sK]; exact t_311⟩ ⟨q_99, (by rw [pR_sK]; exact t_314), At_sK t_141 t_318 (by decide), by rw [pN_sK]; exact t_324⟩ ⟨q_115, (by rw [pR_sK]; exact h_140), At_sK t_141 t_325 (by decide)⟩)
  have ha9 : At S_326 x 8 := by rw [eS_326]; exact At_nK t_141
  have hk9 : Kq S S_326 x := hK_138.sK eS_326
  have hPhc9 : Phc S_326 = Phc S + 320 := by rw [show Phc S_326 = Ph fC 8 14400 S_326 from rfl, Ph_sK nd_142 t_141 (by decide) eS_326, ph_8 ha9 (show pI S_326 800 x = 0 by rw [eS_326, pI_sK]; exact t_161)]; show Phc S_135 + _ = _; omega
  have hPhs9 : Phs S_326 = Phs S + 604000 := by rw [show Phs S_326 = Ph fS 15100 46000 S_326 from rfl, Ph_sK nd_142 t_141 (by decide) eS_326, ph_8 ha9 (show pI S_326 800 x = 0 by rw [eS_326, pI_sK]; exact t_161)]; show Phs S_135 + _ = _; omega
  have t_327 : pI S_2 801 x = 0 := by rw [eS_2, pI_sN]; exact (hzI 801)
  have t_328 : pI S_9 801 x = 0 := tI_sA eS_9 t_327
  have t_329 : pI S_17 801 x = 0 := tI_sA eS_17 t_328
  have t_330 : pI S_25 801 x = 0 := tI_sA eS_25 t_329
  have t_331 : pI S_33 801 x = 0 := tI_sA eS_33 t_330
  have t_332 : pI S_45 801 x = 0 := tI_sR eS_45 t_331
  have t_333 : pI S_52 801 x = 0 := by rw [eS_52, pI_sN]; exact t_332
  have t_334 : pI S_61 801 x = 0 := tI_sR eS_61 t_333
  have t_335 : pI S_68 801 x = 0 := by rw [eS_68, pI_sN]; exact t_334
  have t_336 : pI S_77 801 x = 0 := tI_sR eS_77 t_335
  have t_337 : pI S_84 801 x = 0 := by rw [eS_84, pI_sN]; exact t_336
  have t_338 : pI S_93 801 x = 0 := tI_sR eS_93 t_337
  have t_339 : pI S_100 801 x = 0 := by rw [eS_100, pI_sN]; exact t_338
  have t_340 : pI S_109 801 x = 0 := tI_sR eS_109 t_339
  have t_341 : pI S_116 801 x = 0 := by rw [eS_116]; exact (pI_sO_ne (ne_of_new hq_115 t_158.1)).trans t_340
  have t_342 : pI S_123 801 x = 0 := (((hK_124 x t_160.1).2 (At_ne t_160 ha_121 (by decide))).2.1 801).trans t_341
  have t_343 : pI S_135 801 x = 0 := tI_sR eS_135 t_342
  have tn_344 : pA S_9 q_1 = (upd (pA S_2 q_1) (Int32.toNatClampNeg (0)) (100)) := by rw [eS_9]; exact if_pos rfl
  have tn_345 : pA S_17 q_1 = (upd (pA S_9 q_1) (Int32.toNatClampNeg (1)) (80)) := by rw [eS_17]; exact if_pos rfl
  have tn_346 : pA S_25 q_1 = (upd (pA S_17 q_1) (Int32.toNatClampNeg (2)) (50)) := by rw [eS_25]; exact if_pos rfl
  have tn_347 : pA S_33 q_1 = (upd (pA S_25 q_1) (Int32.toNatClampNeg (3)) (20)) := by rw [eS_33]; exact if_pos rfl
  have tn_348 : pA S_2 q_1 = fun _ => 0 := by rw [eS_2]; exact pA_sN_new
  have bb_349 : pA S_45 q_1 = pA S_33 q_1 := by rw [eS_45]; rfl
  have bb_350 : pA S_52 q_1 = pA S_33 q_1 := (show pA S_52 q_1 = pA S_45 q_1 from by rw [eS_52]; exact if_neg (ne_of_new hq_51 t_205.1)).trans bb_349
  have bb_351 : pA S_61 q_1 = pA S_33 q_1 := (show pA S_61 q_1 = pA S_52 q_1 from by rw [eS_61]; rfl).trans bb_350
  have bb_352 : pA S_68 q_1 = pA S_33 q_1 := (show pA S_68 q_1 = pA S_61 q_1 from by rw [eS_68]; exact if_neg (ne_of_new hq_67 t_209.1)).trans bb_351
  have bb_353 : pA S_77 q_1 = pA S_33 q_1 := (show pA S_77 q_1 = pA S_68 q_1 from by rw [eS_77]; rfl).trans bb_352
  have bb_354 : pA S_84 q_1 = pA S_33 q_1 := (show pA S_84 q_1 = pA S_77 q_1 from by rw [eS_84]; exact if_neg (ne_of_new hq_83 t_213.1)).trans bb_353
  have bb_355 : pA S_93 q_1 = pA S_33 q_1 := (show pA S_93 q_1 = pA S_84 q_1 from by rw [eS_93]; rfl).trans bb_354
  have bb_356 : pA S_100 q_1 = pA S_33 q_1 := (show pA S_100 q_1 = pA S_93 q_1 from by rw [eS_100]; exact if_neg (ne_of_new hq_99 t_217.1)).trans bb_355
  have bb_357 : pA S_109 q_1 = pA S_33 q_1 := (show pA S_109 q_1 = pA S_100 q_1 from by rw [eS_109]; rfl).trans bb_356
  have bb_358 : pA S_116 q_1 = pA S_33 q_1 := (show pA S_116 q_1 = pA S_109 q_1 from by rw [eS_116]; rfl).trans bb_357
  have bb_359 : pA S_123 q_1 = pA S_33 q_1 := (show pA S_123 q_1 = pA S_116 q_1 from ((hK_124 q_1 t_223.1).2 (At_ne t_223 ha_121 (by decide))).2.2.2.2.1).trans bb_358
  have bb_360 : pA S_135 q_1 = pA S_33 q_1 := (show pA S_135 q_1 = pA S_123 q_1 from by rw [eS_135]; rfl).trans bb_359
  have pp_361 : pA S_135 q_1 = prcF := by rw [bb_360, tn_347, tn_346, tn_345, tn_344, tn_348]; exact prc_all
  exact ret_v X hw hr hlocks (Nat.le_of_ble_eq_true rfl) (Nat.le_of_ble_eq_true rfl) ⟨hk9, hg9, ha9, hPhc9, hPhs9, (by rw [eS_326, pI_sK]; exact t_343), (by rw [eS_326, pI_sK]; exact t_161), (by rw [eS_326, pI_sK]; exact t_178), (by rw [eS_326, mA_eq (show pR (sK S_135 x 8) 807 x = some q_1 from (by rw [pR_sK]; exact t_189)), show pA (sK S_135 x 8) q_1 = pA S_135 q_1 from rfl]; exact pp_361)⟩ dX8_init_75
set_option maxHeartbeats 4000000 in
set_option maxRecDepth 100000 in
theorem k_X11_init6 (l : Launch) (G : va_G) (cy : Nat → ClassId) (κ : Nat → Nat) (S : PS) (sz : Nat) (x : Nat) (hG : GX S) (ha_x : At S x 191) (hzI : ∀ g, pI S g x = 0) (hzR : ∀ g, pR S g x = none) : Cv l yX11_init wsX11_init ({ frames := 4, cells := 58, slots := 1728, locals := 192 }) G cy κ S sz [.ref x] (fun (S9 : PS) => Kq S S9 x ∧ GX S9 ∧ At S9 x 11 ∧ Phc S9 = Phc S + 57920 ∧ Phs S9 = Phs S + 788000 ∧ ∃ q, pR S9 1107 x = some q ∧ At S9 q 8 ∧ pI S9 801 q = 0 ∧ pI S9 1102 x = 0 ∧ pI S9 1104 x = 0 ∧ ∃ u, pR S9 1105 x = some u ∧ At S9 u 10 ∧ pI S9 1000 u = 0 ∧ ∃ sh, pR S9 1109 x = some sh ∧ ShI S9 sh 16 ∧ (pI S9 800 q = 0 ∧ pI S9 806 q = 0 ∧ mA S9 q 807 = prcF) ∧ ∃ rh, pR S9 1106 x = some rh ∧ RuD S9 rh) := by
  refine ent_m (cc := cX11_init) (maxL := 2) (ret := none) (by decide) rfl (Nat.le_of_ble_eq_true rfl) ?_
  intro p e s m below meth c ls X hr hlocks hin hw hl hsz
  subst hsz
  have X : Cx p c cX11_init 2 s [.ref x].toArray wsX11_init RX11 m G cy κ (AS S s.heap.size) := X
  have hl : lv_has ls 2 [(0, .ref x)] := hl
  have hpc0 : Phc S = Phc S + 0 := rfl
  have hps0 : Phs S = Phs S + 0 := rfl
  have hK : Kq S S x := Kq.rf S _
  generalize hQQ : MQ below _ _ _ _ _ _ = QQ
  replace hQQ := hQQ.symm
  refine lv_aload_n X.1 X.2.1 dX11_init_0 rfl (lv_at hl 0 rfl) ?_
  refine W.objInit X.1 X.2.1 X.2.2.2.2.1 (X.2.2.2.1 (.methodLink RX11 3 objectInit) (by decide +kernel)) (X.2.2.2.1 (.instanceMethod objectInit) (by decide +kernel)) (X.2.2.2.1 (.code objectInit ⟨#[0xb1]⟩ 1 none) (by decide +kernel)) rfl (hl.1.trans X.2.2.1.symm) rfl dX11_init_1 (Nat.le_of_ble_eq_true rfl) (Nat.le_of_ble_eq_true rfl) ?_
  refine W.eq (g2 := F0 m 4 ls ([])) rfl ?_
  refine lv_aload_n X.1 X.2.1 dX11_init_4 rfl (lv_at hl 0 rfl) ?_
  refine lv_sipush (v := 600) X.1 X.2.1 dX11_init_5 (by decide) ?_
  refine r_newQ (N := 600) (C := RX0) X hw 36 16 600 1 rfl (by decide) rfl (X.2.2.2.1 (.classLink RX11 9 RX0) (by decide +kernel)) X.2.2.2.2.2.2.2.1.1.1 (z_nn ti_600 (by omega)) (by decide) (by decide) (by show 0 + 1 ≤ 1; omega) (by show 0 + 600 ≤ 600; omega) (by show 1 ≤ 58; omega) (by show 600 ≤ 1728; omega) dX11_init_8 (fun q_1 H hq_1 hw => ?_)
  obtain ⟨S_2, eS_2⟩ : ∃ T, T = sN S q_1 36 600 := ⟨_, rfl⟩
  rw [← eS_2] at hw
  have ph_3 : Phc S_2 = Phc S + 0 := (show Phc S_2 = Phc S from Ph_sN' hG.ci hq_1 eS_2 (by decide)).trans hpc0
  have ph_4 : Phs S_2 = Phs S + 0 := (show Phs S_2 = Phs S from Ph_sN' hG.ci hq_1 eS_2 (by decide)).trans hps0
  clear hpc0
  clear hps0
  have hK_5 : Kq S S_2 x := hK.sN hq_1 eS_2
  have hg_6 : GX S_2 := by rw [eS_2]; exact GX_N hG hq_1 (by decide +kernel)
  have hn0_q_1 := hK.new hq_1
  have ha_7 : At S_2 q_1 36 := by rw [eS_2]; exact At_nN _ _ _ _
  have hn_8 : pN S_2 q_1 = 600 := by rw [eS_2]; exact pN_sN_new
  have t_9 : At S_2 x 191 := by rw [eS_2]; exact At_sN ha_x hq_1
  refine r_putR X hw t_9 rfl 0 1100 (some q_1) rfl tyX11 (by decide) rfl inn_X11_init_11 tyX11_ok nmX11 (by decide) (X.2.2.2.1 (.fieldLink RX11 11 "SilkMill" "cocoons" "[LSilkMill$Cocoon;") (by decide +kernel)) rfl (Or.inr ⟨rfl, hin, rfl⟩) (fun _ => rfl) rfl (fun _ => rfl) rfl (Nat.le_of_ble_eq_true rfl) (st_1100 _ _) dX11_init_11 (fun H locs hw => ?_)
  obtain ⟨S_10, eS_10⟩ : ∃ T, T = sR S_2 1100 x (some q_1) := ⟨_, rfl⟩
  rw [← eS_10] at hw
  have ph_11 : Phc S_10 = Phc S + 0 := (show Phc S_10 = Phc S_2 from Ph_rawR t_9 (by decide) eS_10).trans ph_3
  have ph_12 : Phs S_10 = Phs S + 0 := (show Phs S_10 = Phs S_2 from Ph_rawR t_9 (by decide) eS_10).trans ph_4
  clear ph_3
  clear ph_4
  have hK_13 : Kq S S_10 x := hK_5.sR eS_10
  have hg_14 : GX S_10 := by rw [eS_10]; exact GX_rawR hg_6 t_9 (by decide +kernel)
  have h_15 : pR S_10 1100 x = some q_1 := tR_sRs eS_10
  refine lv_aload_n X.1 X.2.1 dX11_init_14 rfl (lv_at hl 0 rfl) ?_
  refine lv_bipush (v := 10) X.1 X.2.1 dX11_init_15 (by decide) ?_
  refine r_newI (N := 10) X hw 54 610 2 rfl (X.2.2.2.1 (.arrayClass .int) (by decide +kernel)) (z_nn ti_10 (by omega)) (by decide) (by decide) (by show 1 + 1 ≤ 2; omega) (by show 600 + 10 ≤ 610; omega) (by show 2 ≤ 58; omega) (by show 610 ≤ 1728; omega) dX11_init_17 (fun q_16 H hq_16 hw => ?_)
  obtain ⟨S_17, eS_17⟩ : ∃ T, T = sN S_10 q_16 54 10 := ⟨_, rfl⟩
  rw [← eS_17] at hw
  have ph_18 : Phc S_17 = Phc S + 0 := (show Phc S_17 = Phc S_10 from Ph_sN' hg_14.ci hq_16 eS_17 (by decide)).trans ph_11
  have ph_19 : Phs S_17 = Phs S + 0 := (show Phs S_17 = Phs S_10 from Ph_sN' hg_14.ci hq_16 eS_17 (by decide)).trans ph_12
  clear ph_11
  clear ph_12
  have hK_20 : Kq S S_17 x := hK_13.sN hq_16 eS_17
  have hg_21 : GX S_17 := by rw [eS_17]; exact GX_N hg_14 hq_16 (by decide +kernel)
  have hn0_q_16 := hK_13.new hq_16
  have ha_22 : At S_17 q_16 54 := by rw [eS_17]; exact At_nN _ _ _ _
  have hn_23 : pN S_17 q_16 = 10 := by rw [eS_17]; exact pN_sN_new
  have t_24 : At S_10 x 191 := tAt_sR eS_10 t_9
  have t_25 : At S_17 x 191 := by rw [eS_17]; exact At_sN t_24 hq_16
  refine r_putR X hw t_25 rfl 1 1101 (some q_16) rfl tyX11 (by decide) rfl inn_X11_init_11 tyX11_ok nmX11 (by decide) (X.2.2.2.1 (.fieldLink RX11 15 "SilkMill" "lotSizes" "[I") (by decide +kernel)) rfl (Or.inr ⟨rfl, hin, rfl⟩) (fun _ => rfl) rfl (fun _ => rfl) rfl (Nat.le_of_ble_eq_true rfl) (st_1101 _ _) dX11_init_19 (fun H locs hw => ?_)
  obtain ⟨S_26, eS_26⟩ : ∃ T, T = sR S_17 1101 x (some q_16) := ⟨_, rfl⟩
  rw [← eS_26] at hw
  have ph_27 : Phc S_26 = Phc S + 0 := (show Phc S_26 = Phc S_17 from Ph_rawR t_25 (by decide) eS_26).trans ph_18
  have ph_28 : Phs S_26 = Phs S + 0 := (show Phs S_26 = Phs S_17 from Ph_rawR t_25 (by decide) eS_26).trans ph_19
  clear ph_18
  clear ph_19
  have hK_29 : Kq S S_26 x := hK_20.sR eS_26
  have hg_30 : GX S_26 := by rw [eS_26]; exact GX_rawR hg_21 t_25 (by decide +kernel)
  have h_31 : pR S_26 1101 x = some q_16 := tR_sRs eS_26
  refine lv_aload_n X.1 X.2.1 dX11_init_22 rfl (lv_at hl 0 rfl) ?_
  refine lv_iconst (v := 4) X.1 X.2.1 dX11_init_23 (by decide) ?_
  refine r_newQ (N := 4) (C := RX4) X hw 18 18 614 3 rfl (by decide) rfl (X.2.2.2.1 (.classLink RX11 19 RX4) (by decide +kernel)) X.2.2.2.2.2.2.2.1.1.2.2.1 (z_nn ti_4 (by omega)) (by decide) (by decide) (by show 2 + 1 ≤ 3; omega) (by show 610 + 4 ≤ 614; omega) (by show 3 ≤ 58; omega) (by show 614 ≤ 1728; omega) dX11_init_24 (fun q_32 H hq_32 hw => ?_)
  obtain ⟨S_33, eS_33⟩ : ∃ T, T = sN S_26 q_32 18 4 := ⟨_, rfl⟩
  rw [← eS_33] at hw
  have ph_34 : Phc S_33 = Phc S + 0 := (show Phc S_33 = Phc S_26 from Ph_sN' hg_30.ci hq_32 eS_33 (by decide)).trans ph_27
  have ph_35 : Phs S_33 = Phs S + 0 := (show Phs S_33 = Phs S_26 from Ph_sN' hg_30.ci hq_32 eS_33 (by decide)).trans ph_28
  clear ph_27
  clear ph_28
  have hK_36 : Kq S S_33 x := hK_29.sN hq_32 eS_33
  have hg_37 : GX S_33 := by rw [eS_33]; exact GX_N hg_30 hq_32 (by decide +kernel)
  have hn0_q_32 := hK_29.new hq_32
  have ha_38 : At S_33 q_32 18 := by rw [eS_33]; exact At_nN _ _ _ _
  have hn_39 : pN S_33 q_32 = 4 := by rw [eS_33]; exact pN_sN_new
  have t_40 : At S_26 x 191 := tAt_sR eS_26 t_25
  have t_41 : At S_33 x 191 := by rw [eS_33]; exact At_sN t_40 hq_32
  refine r_putR X hw t_41 rfl 3 1103 (some q_32) rfl tyX11 (by decide) rfl inn_X11_init_11 tyX11_ok nmX11 (by decide) (X.2.2.2.1 (.fieldLink RX11 21 "SilkMill" "pots" "[LSilkMill$Pot;") (by decide +kernel)) rfl (Or.inr ⟨rfl, hin, rfl⟩) (fun _ => rfl) rfl (fun _ => rfl) rfl (Nat.le_of_ble_eq_true rfl) (st_1103 _ _) dX11_init_27 (fun H locs hw => ?_)
  obtain ⟨S_42, eS_42⟩ : ∃ T, T = sR S_33 1103 x (some q_32) := ⟨_, rfl⟩
  rw [← eS_42] at hw
  have ph_43 : Phc S_42 = Phc S + 0 := (show Phc S_42 = Phc S_33 from Ph_rawR t_41 (by decide) eS_42).trans ph_34
  have ph_44 : Phs S_42 = Phs S + 0 := (show Phs S_42 = Phs S_33 from Ph_rawR t_41 (by decide) eS_42).trans ph_35
  clear ph_34
  clear ph_35
  have hK_45 : Kq S S_42 x := hK_36.sR eS_42
  have hg_46 : GX S_42 := by rw [eS_42]; exact GX_rawR hg_37 t_41 (by decide +kernel)
  have h_47 : pR S_42 1103 x = some q_32 := tR_sRs eS_42
  refine lv_aload_n X.1 X.2.1 dX11_init_30 rfl (lv_at hl 0 rfl) ?_
  refine r_new X hw 190 10 621 4 rfl tyX10 (by decide) rfl inn_X11_init_10 tyX10_ok (X.2.2.2.1 (.classLink RX11 25 RX10) (by decide +kernel)) (X.2.2.2.1 (.instantiable RX10 7) (by decide +kernel)) (X.2.2.2.1 (.initialized RX10) (by decide +kernel)) (zo_10 _) zd_10 (by show 3 + 1 ≤ 4; omega) (by show 614 + 7 ≤ 621; omega) (by show 4 ≤ 58; omega) (by show 621 ≤ 1728; omega) dX11_init_31 (fun q_48 H hq_48 hw => ?_)
  obtain ⟨S_49, eS_49⟩ : ∃ T, T = sO S_42 q_48 190 := ⟨_, rfl⟩
  rw [← eS_49] at hw
  have ph_50 : Phc S_49 = Phc S + 0 := (show Phc S_49 = Phc S_42 from Ph_sO hg_46 hq_48 eS_49 (by decide)).trans ph_43
  have ph_51 : Phs S_49 = Phs S + 0 := (show Phs S_49 = Phs S_42 from Ph_sO hg_46 hq_48 eS_49 (by decide)).trans ph_44
  clear ph_43
  clear ph_44
  have hK_52 : Kq S S_49 x := hK_45.sO hq_48 eS_49
  have hg_53 : GX S_49 := by rw [eS_49]; exact GX_O hg_46 hq_48 (by decide +kernel)
  have hn0_q_48 := hK_45.new hq_48
  have ha_54 : At S_49 q_48 190 := by rw [eS_49]; exact At_nO _ _ _
  have hzI_q_48 : ∀ g, pI S_49 g q_48 = 0 := fun g => by rw [eS_49]; exact pI_sO_new
  have hzR_q_48 : ∀ g, pR S_49 g q_48 = none := fun g => by rw [eS_49]; exact if_pos rfl
  refine lv_dup X.1 X.2.1 dX11_init_34 rfl ?_
  refine k_v (rm := { frames := 2, cells := 1, slots := 400, locals := 96 }) (av := [.ref q_48]) X hw (va_runIN (As := []) (rest := [.ref q_48, .ref x]) (cfix X) (k_X10_init l G cy κ S_49 _ q_48 hg_53 ha_54 hzI_q_48 hzR_q_48) ⟨(va_cnB (host := RX11) 0 X.2.2.2.1 gX11_init_X10_init_n27 rfl rfl rfl (X.2.2.2.2.2.2.2.1.2.1 (RX11, 27, yX10_init) (by decide +kernel)) (X.2.2.2.1 (.initialized RX10) (by decide +kernel)) (by decide +kernel) ⟨Nat.le_of_ble_eq_true rfl, Nat.le_of_ble_eq_true rfl⟩), rfl, (X.2.2.2.1 (.instanceMethod yX10_init) (by decide +kernel))⟩ (pre_S X hw _) rfl rfl hl.1 rfl (lv_room (Nat.le_of_ble_eq_true rfl)) dX11_init_35 ⟨(by show 4 + 1 ≤ 58; omega), (by show 621 + 400 ≤ 1728; omega)⟩) 5 1021 (by show 4 + 1 ≤ 5; omega) (by show 621 + 400 ≤ 1021; omega) (fun S_56 H locs hp hw hfr hnw => ?_)
  obtain ⟨hK_57, hg_58, ha_59, ph_60, ph_61, kz_62⟩ := hp
  have hK_63 : Kq S S_56 x := hK_52.sub hn0_q_48 hK_57
  have ph_64 : Phc S_56 = Phc S + 0 := by omega
  have ph_65 : Phs S_56 = Phs S + 0 := by omega
  clear ph_50
  clear ph_51
  clear ph_60
  clear ph_61
  have t_66 : At S_42 x 191 := tAt_sR eS_42 t_41
  have t_67 : At S_49 x 191 := by rw [eS_49]; exact At_sO t_66 hq_48
  have t_68 : At S_56 x 191 := hK_57.at ha_54 t_67 (by decide)
  refine r_putR X hw t_68 rfl 5 1105 (some q_48) rfl tyX11 (by decide) rfl inn_X11_init_11 tyX11_ok nmX11 (by decide) (X.2.2.2.1 (.fieldLink RX11 28 "SilkMill" "tape" "LSilkMill$Tape;") (by decide +kernel)) rfl (Or.inr ⟨rfl, hin, rfl⟩) (fun _ => rfl) rfl (fun _ => rfl) rfl (Nat.le_of_ble_eq_true rfl) (st_1105 _ _) dX11_init_38 (fun H locs hw => ?_)
  obtain ⟨S_69, eS_69⟩ : ∃ T, T = sR S_56 1105 x (some q_48) := ⟨_, rfl⟩
  rw [← eS_69] at hw
  have ph_70 : Phc S_69 = Phc S + 0 := (show Phc S_69 = Phc S_56 from Ph_rawR t_68 (by decide) eS_69).trans ph_64
  have ph_71 : Phs S_69 = Phs S + 0 := (show Phs S_69 = Phs S_56 from Ph_rawR t_68 (by decide) eS_69).trans ph_65
  clear ph_64
  clear ph_65
  have hK_72 : Kq S S_69 x := hK_63.sR eS_69
  have hg_73 : GX S_69 := by rw [eS_69]; exact GX_rawR hg_58 t_68 (by decide +kernel)
  have h_74 : pR S_69 1105 x = some q_48 := tR_sRs eS_69
  refine lv_aload_n X.1 X.2.1 dX11_init_41 rfl (lv_at hl 0 rfl) ?_
  refine r_new X hw 186 6 1028 6 rfl tyX6 (by decide) rfl inn_X11_init_6 tyX6_ok (X.2.2.2.1 (.classLink RX11 32 RX6) (by decide +kernel)) (X.2.2.2.1 (.instantiable RX6 7) (by decide +kernel)) (X.2.2.2.1 (.initialized RX6) (by decide +kernel)) (zo_6 _) zd_6 (by show 5 + 1 ≤ 6; omega) (by show 1021 + 7 ≤ 1028; omega) (by show 6 ≤ 58; omega) (by show 1028 ≤ 1728; omega) dX11_init_42 (fun q_75 H hq_75 hw => ?_)
  obtain ⟨S_76, eS_76⟩ : ∃ T, T = sO S_69 q_75 186 := ⟨_, rfl⟩
  rw [← eS_76] at hw
  have ph_77 : Phc S_76 = Phc S + 0 := (show Phc S_76 = Phc S_69 from Ph_sO hg_73 hq_75 eS_76 (by decide)).trans ph_70
  have ph_78 : Phs S_76 = Phs S + 0 := (show Phs S_76 = Phs S_69 from Ph_sO hg_73 hq_75 eS_76 (by decide)).trans ph_71
  clear ph_70
  clear ph_71
  have hK_79 : Kq S S_76 x := hK_72.sO hq_75 eS_76
  have hg_80 : GX S_76 := by rw [eS_76]; exact GX_O hg_73 hq_75 (by decide +kernel)
  have hn0_q_75 := hK_72.new hq_75
  have ha_81 : At S_76 q_75 186 := by rw [eS_76]; exact At_nO _ _ _
  have hzI_q_75 : ∀ g, pI S_76 g q_75 = 0 := fun g => by rw [eS_76]; exact pI_sO_new
  have hzR_q_75 : ∀ g, pR S_76 g q_75 = none := fun g => by rw [eS_76]; exact if_pos rfl
  refine lv_dup X.1 X.2.1 dX11_init_45 rfl ?_
  refine k_v (rm := { frames := 2, cells := 6, slots := 180, locals := 96 }) (av := [.ref q_75]) X hw (va_runIN (As := []) (rest := [.ref q_75, .ref x]) (cfix X) (k_X6_init6 l G cy κ S_76 _ q_75 hg_80 ha_81 hzI_q_75 hzR_q_75) ⟨(va_cnB (host := RX11) 0 X.2.2.2.1 gX11_init_X6_init_n34 rfl rfl rfl (X.2.2.2.2.2.2.2.1.2.1 (RX11, 34, yX6_init) (by decide +kernel)) (X.2.2.2.1 (.initialized RX6) (by decide +kernel)) (by decide +kernel) ⟨Nat.le_of_ble_eq_true rfl, Nat.le_of_ble_eq_true rfl⟩), rfl, (X.2.2.2.1 (.instanceMethod yX6_init) (by decide +kernel))⟩ (pre_S X hw _) rfl rfl hl.1 rfl (lv_room (Nat.le_of_ble_eq_true rfl)) dX11_init_46 ⟨(by show 6 + 6 ≤ 58; omega), (by show 1028 + 180 ≤ 1728; omega)⟩) 12 1208 (by show 6 + 6 ≤ 12; omega) (by show 1028 + 180 ≤ 1208; omega) (fun S_83 H locs hp hw hfr hnw => ?_)
  obtain ⟨hK_84, hg_85, ha_86, ph_87, ph_88, kx_89, kx_90⟩ := hp
  have hK_91 : Kq S S_83 x := hK_79.sub hn0_q_75 hK_84
  have ph_92 : Phc S_83 = Phc S + 0 := by omega
  have ph_93 : Phs S_83 = Phs S + 0 := by omega
  clear ph_77
  clear ph_78
  clear ph_87
  clear ph_88
  obtain ⟨q_94, h_95, h_96, h_97⟩ := gQ_6_601 hg_85 ha_86
  obtain ⟨q_98, h_99, h_100, h_101⟩ := gQ_6_602 hg_85 ha_86
  obtain ⟨q_102, h_103, h_104, h_105⟩ := gQ_6_604 hg_85 ha_86
  obtain ⟨q_106, h_107, h_108, h_109⟩ := gQ_6_605 hg_85 ha_86
  obtain ⟨q_110, h_111, h_112, h_113⟩ := gQ_6_606 hg_85 ha_86
  have rd_114 : q_94 ≠ q_98 ∧ q_94 ≠ q_102 ∧ q_94 ≠ q_106 ∧ q_94 ≠ q_110 ∧ q_98 ≠ q_102 ∧ q_98 ≠ q_106 ∧ q_98 ≠ q_110 ∧ q_102 ≠ q_106 ∧ q_102 ≠ q_110 ∧ q_106 ≠ q_110 := by
    obtain ⟨a1, a2, a4, a5, a6, ⟨b1, b2, b4, b5, b6⟩, c⟩ := kx_90.1
    rw [h_95] at b1; cases b1
    rw [h_99] at b2; cases b2
    rw [h_103] at b4; cases b4
    rw [h_107] at b5; cases b5
    rw [h_111] at b6; cases b6
    exact c
  have t_115 : At S_69 x 191 := tAt_sR eS_69 t_68
  have t_116 : At S_76 x 191 := by rw [eS_76]; exact At_sO t_115 hq_75
  have t_117 : At S_83 x 191 := hK_84.at ha_81 t_116 (by decide)
  refine r_putR X hw t_117 rfl 6 1106 (some q_75) rfl tyX11 (by decide) rfl inn_X11_init_11 tyX11_ok nmX11 (by decide) (X.2.2.2.1 (.fieldLink RX11 35 "SilkMill" "spareRules" "LSilkMill$Rules;") (by decide +kernel)) rfl (Or.inl rfl) (fun _ => rfl) rfl (fun _ => rfl) rfl (Nat.le_of_ble_eq_true rfl) (st_1106 _ _) dX11_init_49 (fun H locs hw => ?_)
  obtain ⟨S_118, eS_118⟩ : ∃ T, T = sR S_83 1106 x (some q_75) := ⟨_, rfl⟩
  rw [← eS_118] at hw
  have ph_119 : Phc S_118 = Phc S + 0 := (show Phc S_118 = Phc S_83 from Ph_rawR t_117 (by decide) eS_118).trans ph_92
  have ph_120 : Phs S_118 = Phs S + 0 := (show Phs S_118 = Phs S_83 from Ph_rawR t_117 (by decide) eS_118).trans ph_93
  clear ph_92
  clear ph_93
  have hK_121 : Kq S S_118 x := hK_91.sR eS_118
  have hg_122 : GX S_118 := by rw [eS_118]; exact GX_rawR hg_85 t_117 (by decide +kernel)
  have h_123 : pR S_118 1106 x = some q_75 := tR_sRs eS_118
  refine lv_aload_n X.1 X.2.1 dX11_init_52 rfl (lv_at hl 0 rfl) ?_
  refine r_new X hw 188 8 1221 13 rfl tyX8 (by decide) rfl inn_X11_init_8 tyX8_ok (X.2.2.2.1 (.classLink RX11 39 RX8) (by decide +kernel)) (X.2.2.2.1 (.instantiable RX8 13) (by decide +kernel)) (X.2.2.2.1 (.initialized RX8) (by decide +kernel)) (zo_8 _) zd_8 (by show 12 + 1 ≤ 13; omega) (by show 1208 + 13 ≤ 1221; omega) (by show 13 ≤ 58; omega) (by show 1221 ≤ 1728; omega) dX11_init_53 (fun q_124 H hq_124 hw => ?_)
  obtain ⟨S_125, eS_125⟩ : ∃ T, T = sO S_118 q_124 188 := ⟨_, rfl⟩
  rw [← eS_125] at hw
  have ph_126 : Phc S_125 = Phc S + 0 := (show Phc S_125 = Phc S_118 from Ph_sO hg_122 hq_124 eS_125 (by decide)).trans ph_119
  have ph_127 : Phs S_125 = Phs S + 0 := (show Phs S_125 = Phs S_118 from Ph_sO hg_122 hq_124 eS_125 (by decide)).trans ph_120
  clear ph_119
  clear ph_120
  have hK_128 : Kq S S_125 x := hK_121.sO hq_124 eS_125
  have hg_129 : GX S_125 := by rw [eS_125]; exact GX_O hg_122 hq_124 (by decide +kernel)
  have hn0_q_124 := hK_121.new hq_124
  have ha_130 : At S_125 q_124 188 := by rw [eS_125]; exact At_nO _ _ _
  have hzI_q_124 : ∀ g, pI S_125 g q_124 = 0 := fun g => by rw [eS_125]; exact pI_sO_new
  have hzR_q_124 : ∀ g, pR S_125 g q_124 = none := fun g => by rw [eS_125]; exact if_pos rfl
  refine lv_dup X.1 X.2.1 dX11_init_56 rfl ?_
  refine k_v (rm := { frames := 3, cells := 9, slots := 214, locals := 144 }) (av := [.ref q_124]) X hw (va_runIN (As := []) (rest := [.ref q_124, .ref x]) (cfix X) (k_X8_init6 l G cy κ S_125 _ q_124 hg_129 ha_130 hzI_q_124 hzR_q_124) ⟨(va_cnB (host := RX11) 0 X.2.2.2.1 gX11_init_X8_init_n41 rfl rfl rfl (X.2.2.2.2.2.2.2.1.2.1 (RX11, 41, yX8_init) (by decide +kernel)) (X.2.2.2.1 (.initialized RX8) (by decide +kernel)) (by decide +kernel) ⟨Nat.le_of_ble_eq_true rfl, Nat.le_of_ble_eq_true rfl⟩), rfl, (X.2.2.2.1 (.instanceMethod yX8_init) (by decide +kernel))⟩ (pre_S X hw _) rfl rfl hl.1 rfl (lv_room (Nat.le_of_ble_eq_true rfl)) dX11_init_57 ⟨(by show 13 + 9 ≤ 58; omega), (by show 1221 + 214 ≤ 1728; omega)⟩) 22 1435 (by show 13 + 9 ≤ 22; omega) (by show 1221 + 214 ≤ 1435; omega) (fun S_132 H locs hp hw hfr hnw => ?_)
  obtain ⟨hK_133, hg_134, ha_135, ph_136, ph_137, kz_138, kz_139, kz_140, kx_141⟩ := hp
  have hK_142 : Kq S S_132 x := hK_128.sub hn0_q_124 hK_133
  have ph_143 : Phc S_132 = Phc S + 320 := by omega
  have ph_144 : Phs S_132 = Phs S + 604000 := by omega
  clear ph_126
  clear ph_127
  clear ph_136
  clear ph_137
  obtain ⟨q_145, h_146, h_147, h_148⟩ := gQ_8_807 hg_134 ha_135
  have pp_149 : pA S_132 q_145 = prcF := by have h := kx_141; rw [mA_eq h_146] at h; exact h
  have t_150 : At S_118 x 191 := tAt_sR eS_118 t_117
  have t_151 : At S_125 x 191 := by rw [eS_125]; exact At_sO t_150 hq_124
  have t_152 : At S_132 x 191 := hK_133.at ha_130 t_151 (by decide)
  refine r_putR X hw t_152 rfl 7 1107 (some q_124) rfl tyX11 (by decide) rfl inn_X11_init_11 tyX11_ok nmX11 (by decide) (X.2.2.2.1 (.fieldLink RX11 42 "SilkMill" "store" "LSilkMill$Store;") (by decide +kernel)) rfl (Or.inr ⟨rfl, hin, rfl⟩) (fun _ => rfl) rfl (fun _ => rfl) rfl (Nat.le_of_ble_eq_true rfl) (st_1107 _ _) dX11_init_60 (fun H locs hw => ?_)
  obtain ⟨S_153, eS_153⟩ : ∃ T, T = sR S_132 1107 x (some q_124) := ⟨_, rfl⟩
  rw [← eS_153] at hw
  have ph_154 : Phc S_153 = Phc S + 320 := (show Phc S_153 = Phc S_132 from Ph_rawR t_152 (by decide) eS_153).trans ph_143
  have ph_155 : Phs S_153 = Phs S + 604000 := (show Phs S_153 = Phs S_132 from Ph_rawR t_152 (by decide) eS_153).trans ph_144
  clear ph_143
  clear ph_144
  have hK_156 : Kq S S_153 x := hK_142.sR eS_153
  have hg_157 : GX S_153 := by rw [eS_153]; exact GX_rawR hg_134 t_152 (by decide +kernel)
  have h_158 : pR S_153 1107 x = some q_124 := tR_sRs eS_153
  refine lv_aload_n X.1 X.2.1 dX11_init_63 rfl (lv_at hl 0 rfl) ?_
  refine r_new X hw 181 1 1439 23 rfl tyX1 (by decide) rfl inn_X11_init_1 tyX1_ok (X.2.2.2.1 (.classLink RX11 46 RX1) (by decide +kernel)) (X.2.2.2.1 (.instantiable RX1 4) (by decide +kernel)) (X.2.2.2.1 (.initialized RX1) (by decide +kernel)) (zo_1 _) zd_1 (by show 22 + 1 ≤ 23; omega) (by show 1435 + 4 ≤ 1439; omega) (by show 23 ≤ 58; omega) (by show 1439 ≤ 1728; omega) dX11_init_64 (fun q_159 H hq_159 hw => ?_)
  obtain ⟨S_160, eS_160⟩ : ∃ T, T = sO S_153 q_159 181 := ⟨_, rfl⟩
  rw [← eS_160] at hw
  have ph_161 : Phc S_160 = Phc S + 320 := (show Phc S_160 = Phc S_153 from Ph_sO hg_157 hq_159 eS_160 (by decide)).trans ph_154
  have ph_162 : Phs S_160 = Phs S + 604000 := (show Phs S_160 = Phs S_153 from Ph_sO hg_157 hq_159 eS_160 (by decide)).trans ph_155
  clear ph_154
  clear ph_155
  have hK_163 : Kq S S_160 x := hK_156.sO hq_159 eS_160
  have hg_164 : GX S_160 := by rw [eS_160]; exact GX_O hg_157 hq_159 (by decide +kernel)
  have hn0_q_159 := hK_156.new hq_159
  have ha_165 : At S_160 q_159 181 := by rw [eS_160]; exact At_nO _ _ _
  have hzI_q_159 : ∀ g, pI S_160 g q_159 = 0 := fun g => by rw [eS_160]; exact pI_sO_new
  have hzR_q_159 : ∀ g, pR S_160 g q_159 = none := fun g => by rw [eS_160]; exact if_pos rfl
  refine lv_dup X.1 X.2.1 dX11_init_67 rfl ?_
  refine k_v (rm := { frames := 2, cells := 1, slots := 5, locals := 96 }) (av := [.ref q_159]) X hw (va_runIN (As := []) (rest := [.ref q_159, .ref x]) (cfix X) (k_X1_init l G cy κ S_160 _ q_159 hg_164 ha_165 hzI_q_159 hzR_q_159) ⟨(va_cnB (host := RX11) 0 X.2.2.2.1 gX11_init_X1_init_n48 rfl rfl rfl (X.2.2.2.2.2.2.2.1.2.1 (RX11, 48, yX1_init) (by decide +kernel)) (X.2.2.2.1 (.initialized RX1) (by decide +kernel)) (by decide +kernel) ⟨Nat.le_of_ble_eq_true rfl, Nat.le_of_ble_eq_true rfl⟩), rfl, (X.2.2.2.1 (.instanceMethod yX1_init) (by decide +kernel))⟩ (pre_S X hw _) rfl rfl hl.1 rfl (lv_room (Nat.le_of_ble_eq_true rfl)) dX11_init_68 ⟨(by show 23 + 1 ≤ 58; omega), (by show 1439 + 5 ≤ 1728; omega)⟩) 24 1444 (by show 23 + 1 ≤ 24; omega) (by show 1439 + 5 ≤ 1444; omega) (fun S_167 H locs hp hw hfr hnw => ?_)
  obtain ⟨hK_168, hg_169, ha_170, ph_171, ph_172⟩ := hp
  have hK_173 : Kq S S_167 x := hK_163.sub hn0_q_159 hK_168
  have ph_174 : Phc S_167 = Phc S + 320 := by omega
  have ph_175 : Phs S_167 = Phs S + 604000 := by omega
  clear ph_161
  clear ph_162
  clear ph_171
  clear ph_172
  have t_176 : At S_153 x 191 := tAt_sR eS_153 t_152
  have t_177 : At S_160 x 191 := by rw [eS_160]; exact At_sO t_176 hq_159
  have t_178 : At S_167 x 191 := hK_168.at ha_165 t_177 (by decide)
  refine r_putR X hw t_178 rfl 8 1108 (some q_159) rfl tyX11 (by decide) rfl inn_X11_init_11 tyX11_ok nmX11 (by decide) (X.2.2.2.1 (.fieldLink RX11 49 "SilkMill" "latestDraw" "LSilkMill$Draw;") (by decide +kernel)) rfl (Or.inr ⟨rfl, hin, rfl⟩) (fun _ => rfl) rfl (fun _ => rfl) rfl (Nat.le_of_ble_eq_true rfl) (st_1108 _ _) dX11_init_71 (fun H locs hw => ?_)
  obtain ⟨S_179, eS_179⟩ : ∃ T, T = sR S_167 1108 x (some q_159) := ⟨_, rfl⟩
  rw [← eS_179] at hw
  have ph_180 : Phc S_179 = Phc S + 320 := (show Phc S_179 = Phc S_167 from Ph_rawR t_178 (by decide) eS_179).trans ph_174
  have ph_181 : Phs S_179 = Phs S + 604000 := (show Phs S_179 = Phs S_167 from Ph_rawR t_178 (by decide) eS_179).trans ph_175
  clear ph_174
  clear ph_175
  have hK_182 : Kq S S_179 x := hK_173.sR eS_179
  have hg_183 : GX S_179 := by rw [eS_179]; exact GX_rawR hg_169 t_178 (by decide +kernel)
  have h_184 : pR S_179 1108 x = some q_159 := tR_sRs eS_179
  refine lv_aload_n X.1 X.2.1 dX11_init_74 rfl (lv_at hl 0 rfl) ?_
  refine lv_bipush (v := 16) X.1 X.2.1 dX11_init_75 (by decide) ?_
  refine r_newQ (N := 16) (C := RX3) X hw 17 17 1460 25 rfl (by decide) rfl (X.2.2.2.1 (.classLink RX11 53 RX3) (by decide +kernel)) X.2.2.2.2.2.2.2.1.1.2.1 (z_nn ti_16 (by omega)) (by decide) (by decide) (by show 24 + 1 ≤ 25; omega) (by show 1444 + 16 ≤ 1460; omega) (by show 25 ≤ 58; omega) (by show 1460 ≤ 1728; omega) dX11_init_77 (fun q_185 H hq_185 hw => ?_)
  obtain ⟨S_186, eS_186⟩ : ∃ T, T = sN S_179 q_185 17 16 := ⟨_, rfl⟩
  rw [← eS_186] at hw
  have ph_187 : Phc S_186 = Phc S + 320 := (show Phc S_186 = Phc S_179 from Ph_sN' hg_183.ci hq_185 eS_186 (by decide)).trans ph_180
  have ph_188 : Phs S_186 = Phs S + 604000 := (show Phs S_186 = Phs S_179 from Ph_sN' hg_183.ci hq_185 eS_186 (by decide)).trans ph_181
  clear ph_180
  clear ph_181
  have hK_189 : Kq S S_186 x := hK_182.sN hq_185 eS_186
  have hg_190 : GX S_186 := by rw [eS_186]; exact GX_N hg_183 hq_185 (by decide +kernel)
  have hn0_q_185 := hK_182.new hq_185
  have ha_191 : At S_186 q_185 17 := by rw [eS_186]; exact At_nN _ _ _ _
  have hn_192 : pN S_186 q_185 = 16 := by rw [eS_186]; exact pN_sN_new
  have t_193 : At S_179 x 191 := tAt_sR eS_179 t_178
  have t_194 : At S_186 x 191 := by rw [eS_186]; exact At_sN t_193 hq_185
  refine r_putR X hw t_194 rfl 9 1109 (some q_185) rfl tyX11 (by decide) rfl inn_X11_init_11 tyX11_ok nmX11 (by decide) (X.2.2.2.1 (.fieldLink RX11 55 "SilkMill" "shelf" "[LSilkMill$Place;") (by decide +kernel)) rfl (Or.inr ⟨rfl, hin, rfl⟩) (fun _ => rfl) rfl (fun _ => rfl) rfl (Nat.le_of_ble_eq_true rfl) (st_1109 _ _) dX11_init_80 (fun H locs hw => ?_)
  obtain ⟨S_195, eS_195⟩ : ∃ T, T = sR S_186 1109 x (some q_185) := ⟨_, rfl⟩
  rw [← eS_195] at hw
  have ph_196 : Phc S_195 = Phc S + 320 := (show Phc S_195 = Phc S_186 from Ph_rawR t_194 (by decide) eS_195).trans ph_187
  have ph_197 : Phs S_195 = Phs S + 604000 := (show Phs S_195 = Phs S_186 from Ph_rawR t_194 (by decide) eS_195).trans ph_188
  clear ph_187
  clear ph_188
  have hK_198 : Kq S S_195 x := hK_189.sR eS_195
  have hg_199 : GX S_195 := by rw [eS_195]; exact GX_rawR hg_190 t_194 (by decide +kernel)
  have h_200 : pR S_195 1109 x = some q_185 := tR_sRs eS_195
  refine lv_aload_n X.1 X.2.1 dX11_init_83 rfl (lv_at hl 0 rfl) ?_
  refine lv_bipush (v := 60) X.1 X.2.1 dX11_init_84 (by decide) ?_
  refine r_newI (N := 60) X hw 194 1520 26 rfl (X.2.2.2.1 (.arrayClass .int) (by decide +kernel)) (z_nn ti_60 (by omega)) (by decide) (by decide) (by show 25 + 1 ≤ 26; omega) (by show 1460 + 60 ≤ 1520; omega) (by show 26 ≤ 58; omega) (by show 1520 ≤ 1728; omega) dX11_init_86 (fun q_201 H hq_201 hw => ?_)
  obtain ⟨S_202, eS_202⟩ : ∃ T, T = sN S_195 q_201 194 60 := ⟨_, rfl⟩
  rw [← eS_202] at hw
  have ph_203 : Phc S_202 = Phc S + 320 := (show Phc S_202 = Phc S_195 from Ph_sN' hg_199.ci hq_201 eS_202 (by decide)).trans ph_196
  have ph_204 : Phs S_202 = Phs S + 604000 := (show Phs S_202 = Phs S_195 from Ph_sN' hg_199.ci hq_201 eS_202 (by decide)).trans ph_197
  clear ph_196
  clear ph_197
  have hK_205 : Kq S S_202 x := hK_198.sN hq_201 eS_202
  have hg_206 : GX S_202 := by rw [eS_202]; exact GX_N hg_199 hq_201 (by decide +kernel)
  have hn0_q_201 := hK_198.new hq_201
  have ha_207 : At S_202 q_201 194 := by rw [eS_202]; exact At_nN _ _ _ _
  have hn_208 : pN S_202 q_201 = 60 := by rw [eS_202]; exact pN_sN_new
  have t_209 : At S_195 x 191 := tAt_sR eS_195 t_194
  have t_210 : At S_202 x 191 := by rw [eS_202]; exact At_sN t_209 hq_201
  refine r_putR X hw t_210 rfl 11 1111 (some q_201) rfl tyX11 (by decide) rfl inn_X11_init_11 tyX11_ok nmX11 (by decide) (X.2.2.2.1 (.fieldLink RX11 59 "SilkMill" "idle" "[I") (by decide +kernel)) rfl (Or.inr ⟨rfl, hin, rfl⟩) (fun _ => rfl) rfl (fun _ => rfl) rfl (Nat.le_of_ble_eq_true rfl) (st_1111 _ _) dX11_init_88 (fun H locs hw => ?_)
  obtain ⟨S_211, eS_211⟩ : ∃ T, T = sR S_202 1111 x (some q_201) := ⟨_, rfl⟩
  rw [← eS_211] at hw
  have ph_212 : Phc S_211 = Phc S + 320 := (show Phc S_211 = Phc S_202 from Ph_rawR t_210 (by decide) eS_211).trans ph_203
  have ph_213 : Phs S_211 = Phs S + 604000 := (show Phs S_211 = Phs S_202 from Ph_rawR t_210 (by decide) eS_211).trans ph_204
  clear ph_203
  clear ph_204
  have hK_214 : Kq S S_211 x := hK_205.sR eS_211
  have hg_215 : GX S_211 := by rw [eS_211]; exact GX_rawR hg_206 t_210 (by decide +kernel)
  have h_216 : pR S_211 1111 x = some q_201 := tR_sRs eS_211
  refine lv_iconst (v := 0) X.1 X.2.1 dX11_init_91 (by decide) ?_
  have t_217 : pR S_202 1109 x = some q_185 := by rw [eS_202, pR_sN]; exact h_200
  have t_218 : pR S_211 1109 x = some q_185 := tR_sR eS_211 rfl t_217
  refine lv_istore_n (lv' := [(1, .int 0), (0, .ref x)]) X.1 X.2.1 dX11_init_92 rfl hl (by decide) rfl (fun ls hl => ?_)
  have t_226 : At S_153 x 191 := tAt_sR eS_153 t_152
  have t_225 : pR S_160 1107 x = some q_124 := by rw [eS_160]; exact (pR_sO_ne (ne_of_new hq_159 t_226.1)).trans h_158
  have t_228 : At S_160 x 191 := by rw [eS_160]; exact At_sO t_226 hq_159
  have t_227 : pR S_167 1107 x = some q_124 := (((hK_168 x t_228.1).2 (At_ne t_228 ha_165 (by decide))).2.2.1 1107).trans t_225
  have t_229 : pR S_179 1107 x = some q_124 := tR_sR eS_179 rfl t_227
  have t_230 : pR S_186 1107 x = some q_124 := by rw [eS_186, pR_sN]; exact t_229
  have t_231 : pR S_195 1107 x = some q_124 := tR_sR eS_195 rfl t_230
  have t_232 : pR S_202 1107 x = some q_124 := by rw [eS_202, pR_sN]; exact t_231
  have t_233 : pR S_211 1107 x = some q_124 := tR_sR eS_211 rfl t_232
  have t_235 : At S_69 x 191 := tAt_sR eS_69 t_68
  have t_234 : pR S_76 1105 x = some q_48 := by rw [eS_76]; exact (pR_sO_ne (ne_of_new hq_75 t_235.1)).trans h_74
  have t_237 : At S_76 x 191 := by rw [eS_76]; exact At_sO t_235 hq_75
  have t_236 : pR S_83 1105 x = some q_48 := (((hK_84 x t_237.1).2 (At_ne t_237 ha_81 (by decide))).2.2.1 1105).trans t_234
  have t_238 : pR S_118 1105 x = some q_48 := tR_sR eS_118 rfl t_236
  have t_240 : At S_118 x 191 := tAt_sR eS_118 t_117
  have t_239 : pR S_125 1105 x = some q_48 := by rw [eS_125]; exact (pR_sO_ne (ne_of_new hq_124 t_240.1)).trans t_238
  have t_242 : At S_125 x 191 := by rw [eS_125]; exact At_sO t_240 hq_124
  have t_241 : pR S_132 1105 x = some q_48 := (((hK_133 x t_242.1).2 (At_ne t_242 ha_130 (by decide))).2.2.1 1105).trans t_239
  have t_243 : pR S_153 1105 x = some q_48 := tR_sR eS_153 rfl t_241
  have t_244 : pR S_160 1105 x = some q_48 := by rw [eS_160]; exact (pR_sO_ne (ne_of_new hq_159 t_226.1)).trans t_243
  have t_245 : pR S_167 1105 x = some q_48 := (((hK_168 x t_228.1).2 (At_ne t_228 ha_165 (by decide))).2.2.1 1105).trans t_244
  have t_246 : pR S_179 1105 x = some q_48 := tR_sR eS_179 rfl t_245
  have t_247 : pR S_186 1105 x = some q_48 := by rw [eS_186, pR_sN]; exact t_246
  have t_248 : pR S_195 1105 x = some q_48 := tR_sR eS_195 rfl t_247
  have t_249 : pR S_202 1105 x = some q_48 := by rw [eS_202, pR_sN]; exact t_248
  have t_250 : pR S_211 1105 x = some q_48 := tR_sR eS_211 rfl t_249
  have t_251 : pI S_2 1102 x = 0 := by rw [eS_2, pI_sN]; exact (hzI 1102)
  have t_252 : pI S_10 1102 x = 0 := tI_sR eS_10 t_251
  have t_253 : pI S_17 1102 x = 0 := by rw [eS_17, pI_sN]; exact t_252
  have t_254 : pI S_26 1102 x = 0 := tI_sR eS_26 t_253
  have t_255 : pI S_33 1102 x = 0 := by rw [eS_33, pI_sN]; exact t_254
  have t_256 : pI S_42 1102 x = 0 := tI_sR eS_42 t_255
  have t_258 : At S_42 x 191 := tAt_sR eS_42 t_41
  have t_257 : pI S_49 1102 x = 0 := by rw [eS_49]; exact (pI_sO_ne (ne_of_new hq_48 t_258.1)).trans t_256
  have t_260 : At S_49 x 191 := by rw [eS_49]; exact At_sO t_258 hq_48
  have t_259 : pI S_56 1102 x = 0 := (((hK_57 x t_260.1).2 (At_ne t_260 ha_54 (by decide))).2.1 1102).trans t_257
  have t_261 : pI S_69 1102 x = 0 := tI_sR eS_69 t_259
  have t_262 : pI S_76 1102 x = 0 := by rw [eS_76]; exact (pI_sO_ne (ne_of_new hq_75 t_235.1)).trans t_261
  have t_263 : pI S_83 1102 x = 0 := (((hK_84 x t_237.1).2 (At_ne t_237 ha_81 (by decide))).2.1 1102).trans t_262
  have t_264 : pI S_118 1102 x = 0 := tI_sR eS_118 t_263
  have t_265 : pI S_125 1102 x = 0 := by rw [eS_125]; exact (pI_sO_ne (ne_of_new hq_124 t_240.1)).trans t_264
  have t_266 : pI S_132 1102 x = 0 := (((hK_133 x t_242.1).2 (At_ne t_242 ha_130 (by decide))).2.1 1102).trans t_265
  have t_267 : pI S_153 1102 x = 0 := tI_sR eS_153 t_266
  have t_268 : pI S_160 1102 x = 0 := by rw [eS_160]; exact (pI_sO_ne (ne_of_new hq_159 t_226.1)).trans t_267
  have t_269 : pI S_167 1102 x = 0 := (((hK_168 x t_228.1).2 (At_ne t_228 ha_165 (by decide))).2.1 1102).trans t_268
  have t_270 : pI S_179 1102 x = 0 := tI_sR eS_179 t_269
  have t_271 : pI S_186 1102 x = 0 := by rw [eS_186, pI_sN]; exact t_270
  have t_272 : pI S_195 1102 x = 0 := tI_sR eS_195 t_271
  have t_273 : pI S_202 1102 x = 0 := by rw [eS_202, pI_sN]; exact t_272
  have t_274 : pI S_211 1102 x = 0 := tI_sR eS_211 t_273
  have t_276 : pI S_2 1104 x = 0 := by rw [eS_2, pI_sN]; exact (hzI 1104)
  have t_277 : pI S_10 1104 x = 0 := tI_sR eS_10 t_276
  have t_278 : pI S_17 1104 x = 0 := by rw [eS_17, pI_sN]; exact t_277
  have t_279 : pI S_26 1104 x = 0 := tI_sR eS_26 t_278
  have t_280 : pI S_33 1104 x = 0 := by rw [eS_33, pI_sN]; exact t_279
  have t_281 : pI S_42 1104 x = 0 := tI_sR eS_42 t_280
  have t_282 : pI S_49 1104 x = 0 := by rw [eS_49]; exact (pI_sO_ne (ne_of_new hq_48 t_258.1)).trans t_281
  have t_283 : pI S_56 1104 x = 0 := (((hK_57 x t_260.1).2 (At_ne t_260 ha_54 (by decide))).2.1 1104).trans t_282
  have t_284 : pI S_69 1104 x = 0 := tI_sR eS_69 t_283
  have t_285 : pI S_76 1104 x = 0 := by rw [eS_76]; exact (pI_sO_ne (ne_of_new hq_75 t_235.1)).trans t_284
  have t_286 : pI S_83 1104 x = 0 := (((hK_84 x t_237.1).2 (At_ne t_237 ha_81 (by decide))).2.1 1104).trans t_285
  have t_287 : pI S_118 1104 x = 0 := tI_sR eS_118 t_286
  have t_288 : pI S_125 1104 x = 0 := by rw [eS_125]; exact (pI_sO_ne (ne_of_new hq_124 t_240.1)).trans t_287
  have t_289 : pI S_132 1104 x = 0 := (((hK_133 x t_242.1).2 (At_ne t_242 ha_130 (by decide))).2.1 1104).trans t_288
  have t_290 : pI S_153 1104 x = 0 := tI_sR eS_153 t_289
  have t_291 : pI S_160 1104 x = 0 := by rw [eS_160]; exact (pI_sO_ne (ne_of_new hq_159 t_226.1)).trans t_290
  have t_292 : pI S_167 1104 x = 0 := (((hK_168 x t_228.1).2 (At_ne t_228 ha_165 (by decide))).2.1 1104).trans t_291
  have t_293 : pI S_179 1104 x = 0 := tI_sR eS_179 t_292
  have t_294 : pI S_186 1104 x = 0 := by rw [eS_186, pI_sN]; exact t_293
  have t_295 : pI S_195 1104 x = 0 := tI_sR eS_195 t_294
  have t_296 : pI S_202 1104 x = 0 := by rw [eS_202, pI_sN]; exact t_295
  have t_297 : pI S_211 1104 x = 0 := tI_sR eS_211 t_296
  have t_299 : pI S_153 801 q_124 = 0 := tI_sR eS_153 kz_138
  have t_301 : At S_153 q_124 8 := tAt_sR eS_153 ha_135
  have t_300 : pI S_160 801 q_124 = 0 := by rw [eS_160]; exact (pI_sO_ne (ne_of_new hq_159 t_301.1)).trans t_299
  have t_303 : At S_160 q_124 8 := by rw [eS_160]; exact At_sO t_301 hq_159
  have t_302 : pI S_167 801 q_124 = 0 := (((hK_168 q_124 t_303.1).2 (At_ne t_303 ha_165 (by decide))).2.1 801).trans t_300
  have t_304 : pI S_179 801 q_124 = 0 := tI_sR eS_179 t_302
  have t_305 : pI S_186 801 q_124 = 0 := by rw [eS_186, pI_sN]; exact t_304
  have t_306 : pI S_195 801 q_124 = 0 := tI_sR eS_195 t_305
  have t_307 : pI S_202 801 q_124 = 0 := by rw [eS_202, pI_sN]; exact t_306
  have t_308 : pI S_211 801 q_124 = 0 := tI_sR eS_211 t_307
  have t_310 : pI S_69 1000 q_48 = 0 := tI_sR eS_69 kz_62
  have t_312 : At S_69 q_48 10 := tAt_sR eS_69 ha_59
  have t_311 : pI S_76 1000 q_48 = 0 := by rw [eS_76]; exact (pI_sO_ne (ne_of_new hq_75 t_312.1)).trans t_310
  have t_314 : At S_76 q_48 10 := by rw [eS_76]; exact At_sO t_312 hq_75
  have t_313 : pI S_83 1000 q_48 = 0 := (((hK_84 q_48 t_314.1).2 (At_ne t_314 ha_81 (by decide))).2.1 1000).trans t_311
  have t_315 : pI S_118 1000 q_48 = 0 := tI_sR eS_118 t_313
  have t_317 : At S_83 q_48 10 := hK_84.at ha_81 t_314 (by decide)
  have t_318 : At S_118 q_48 10 := tAt_sR eS_118 t_317
  have t_316 : pI S_125 1000 q_48 = 0 := by rw [eS_125]; exact (pI_sO_ne (ne_of_new hq_124 t_318.1)).trans t_315
  have t_320 : At S_125 q_48 10 := by rw [eS_125]; exact At_sO t_318 hq_124
  have t_319 : pI S_132 1000 q_48 = 0 := (((hK_133 q_48 t_320.1).2 (At_ne t_320 ha_130 (by decide))).2.1 1000).trans t_316
  have t_321 : pI S_153 1000 q_48 = 0 := tI_sR eS_153 t_319
  have t_323 : At S_132 q_48 10 := hK_133.at ha_130 t_320 (by decide)
  have t_324 : At S_153 q_48 10 := tAt_sR eS_153 t_323
  have t_322 : pI S_160 1000 q_48 = 0 := by rw [eS_160]; exact (pI_sO_ne (ne_of_new hq_159 t_324.1)).trans t_321
  have t_326 : At S_160 q_48 10 := by rw [eS_160]; exact At_sO t_324 hq_159
  have t_325 : pI S_167 1000 q_48 = 0 := (((hK_168 q_48 t_326.1).2 (At_ne t_326 ha_165 (by decide))).2.1 1000).trans t_322
  have t_327 : pI S_179 1000 q_48 = 0 := tI_sR eS_179 t_325
  have t_328 : pI S_186 1000 q_48 = 0 := by rw [eS_186, pI_sN]; exact t_327
  have t_329 : pI S_195 1000 q_48 = 0 := tI_sR eS_195 t_328
  have t_330 : pI S_202 1000 q_48 = 0 := by rw [eS_202, pI_sN]; exact t_329
  have t_331 : pI S_211 1000 q_48 = 0 := tI_sR eS_211 t_330
  have t_333 : pI S_153 800 q_124 = 0 := tI_sR eS_153 kz_139
  have t_334 : pI S_160 800 q_124 = 0 := by rw [eS_160]; exact (pI_sO_ne (ne_of_new hq_159 t_301.1)).trans t_333
  have t_335 : pI S_167 800 q_124 = 0 := (((hK_168 q_124 t_303.1).2 (At_ne t_303 ha_165 (by decide))).2.1 800).trans t_334
  have t_336 : pI S_179 800 q_124 = 0 := tI_sR eS_179 t_335
  have t_337 : pI S_186 800 q_124 = 0 := by rw [eS_186, pI_sN]; exact t_336
  have t_338 : pI S_195 800 q_124 = 0 := tI_sR eS_195 t_337
  have t_339 : pI S_202 800 q_124 = 0 := by rw [eS_202, pI_sN]; exact t_338
  have t_340 : pI S_211 800 q_124 = 0 := tI_sR eS_211 t_339
  have t_342 : pI S_153 806 q_124 = 0 := tI_sR eS_153 kz_140
  have t_343 : pI S_160 806 q_124 = 0 := by rw [eS_160]; exact (pI_sO_ne (ne_of_new hq_159 t_301.1)).trans t_342
  have t_344 : pI S_167 806 q_124 = 0 := (((hK_168 q_124 t_303.1).2 (At_ne t_303 ha_165 (by decide))).2.1 806).trans t_343
  have t_345 : pI S_179 806 q_124 = 0 := tI_sR eS_179 t_344
  have t_346 : pI S_186 806 q_124 = 0 := by rw [eS_186, pI_sN]; exact t_345
  have t_347 : pI S_195 806 q_124 = 0 := tI_sR eS_195 t_346
  have t_348 : pI S_202 806 q_124 = 0 := by rw [eS_202, pI_sN]; exact t_347
  have t_349 : pI S_211 806 q_124 = 0 := tI_sR eS_211 t_348
  have t_351 : pR S_17 1100 x = some q_1 := by rw [eS_17, pR_sN]; exact h_15
  have t_352 : pR S_26 1100 x = some q_1 := tR_sR eS_26 rfl t_351
  have t_353 : pR S_33 1100 x = some q_1 := by rw [eS_33, pR_sN]; exact t_352
  have t_354 : pR S_42 1100 x = some q_1 := tR_sR eS_42 rfl t_353
  have t_355 : pR S_49 1100 x = some q_1 := by rw [eS_49]; exact (pR_sO_ne (ne_of_new hq_48 t_258.1)).trans t_354
  have t_356 : pR S_56 1100 x = some q_1 := (((hK_57 x t_260.1).2 (At_ne t_260 ha_54 (by decide))).2.2.1 1100).trans t_355
  have t_357 : pR S_69 1100 x = some q_1 := tR_sR eS_69 rfl t_356
  have t_358 : pR S_76 1100 x = some q_1 := by rw [eS_76]; exact (pR_sO_ne (ne_of_new hq_75 t_235.1)).trans t_357
  have t_359 : pR S_83 1100 x = some q_1 := (((hK_84 x t_237.1).2 (At_ne t_237 ha_81 (by decide))).2.2.1 1100).trans t_358
  have t_360 : pR S_118 1100 x = some q_1 := tR_sR eS_118 rfl t_359
  have t_361 : pR S_125 1100 x = some q_1 := by rw [eS_125]; exact (pR_sO_ne (ne_of_new hq_124 t_240.1)).trans t_360
  have t_362 : pR S_132 1100 x = some q_1 := (((hK_133 x t_242.1).2 (At_ne t_242 ha_130 (by decide))).2.2.1 1100).trans t_361
  have t_363 : pR S_153 1100 x = some q_1 := tR_sR eS_153 rfl t_362
  have t_364 : pR S_160 1100 x = some q_1 := by rw [eS_160]; exact (pR_sO_ne (ne_of_new hq_159 t_226.1)).trans t_363
  have t_365 : pR S_167 1100 x = some q_1 := (((hK_168 x t_228.1).2 (At_ne t_228 ha_165 (by decide))).2.2.1 1100).trans t_364
  have t_366 : pR S_179 1100 x = some q_1 := tR_sR eS_179 rfl t_365
  have t_367 : pR S_186 1100 x = some q_1 := by rw [eS_186, pR_sN]; exact t_366
  have t_368 : pR S_195 1100 x = some q_1 := tR_sR eS_195 rfl t_367
  have t_369 : pR S_202 1100 x = some q_1 := by rw [eS_202, pR_sN]; exact t_368
  have t_370 : pR S_211 1100 x = some q_1 := tR_sR eS_211 rfl t_369
  have t_373 : pN S_10 q_1 = 600 := tN_sR eS_10 hn_8
  clear hn_8
  have t_375 : At S_10 q_1 36 := tAt_sR eS_10 ha_7
  have t_374 : pN S_17 q_1 = 600 := by rw [eS_17]; exact (pN_sN_ne (ne_of_new hq_16 t_375.1)).trans t_373
  clear t_373
  have t_376 : pN S_26 q_1 = 600 := tN_sR eS_26 t_374
  clear t_374
  have t_378 : At S_17 q_1 36 := by rw [eS_17]; exact At_sN t_375 hq_16
  have t_379 : At S_26 q_1 36 := tAt_sR eS_26 t_378
  have t_377 : pN S_33 q_1 = 600 := by rw [eS_33]; exact (pN_sN_ne (ne_of_new hq_32 t_379.1)).trans t_376
  clear t_376
  have t_380 : pN S_42 q_1 = 600 := tN_sR eS_42 t_377
  clear t_377
  have t_381 : pN S_49 q_1 = 600 := by rw [eS_49, pN_sO]; exact t_380
  clear t_380
  have t_383 : At S_33 q_1 36 := by rw [eS_33]; exact At_sN t_379 hq_32
  have t_384 : At S_42 q_1 36 := tAt_sR eS_42 t_383
  have t_385 : At S_49 q_1 36 := by rw [eS_49]; exact At_sO t_384 hq_48
  have t_382 : pN S_56 q_1 = 600 := ((hK_57 q_1 t_385.1).2 (At_ne t_385 ha_54 (by decide))).2.2.2.1.trans t_381
  clear t_381
  have t_386 : pN S_69 q_1 = 600 := tN_sR eS_69 t_382
  clear t_382
  have t_387 : pN S_76 q_1 = 600 := by rw [eS_76, pN_sO]; exact t_386
  clear t_386
  have t_389 : At S_56 q_1 36 := hK_57.at ha_54 t_385 (by decide)
  have t_390 : At S_69 q_1 36 := tAt_sR eS_69 t_389
  have t_391 : At S_76 q_1 36 := by rw [eS_76]; exact At_sO t_390 hq_75
  have t_388 : pN S_83 q_1 = 600 := ((hK_84 q_1 t_391.1).2 (At_ne t_391 ha_81 (by decide))).2.2.2.1.trans t_387
  clear t_387
  have t_392 : pN S_118 q_1 = 600 := tN_sR eS_118 t_388
  clear t_388
  have t_393 : pN S_125 q_1 = 600 := by rw [eS_125, pN_sO]; exact t_392
  clear t_392
  have t_395 : At S_83 q_1 36 := hK_84.at ha_81 t_391 (by decide)
  have t_396 : At S_118 q_1 36 := tAt_sR eS_118 t_395
  have t_397 : At S_125 q_1 36 := by rw [eS_125]; exact At_sO t_396 hq_124
  have t_394 : pN S_132 q_1 = 600 := ((hK_133 q_1 t_397.1).2 (At_ne t_397 ha_130 (by decide))).2.2.2.1.trans t_393
  clear t_393
  have t_398 : pN S_153 q_1 = 600 := tN_sR eS_153 t_394
  clear t_394
  have t_399 : pN S_160 q_1 = 600 := by rw [eS_160, pN_sO]; exact t_398
  clear t_398
  have t_401 : At S_132 q_1 36 := hK_133.at ha_130 t_397 (by decide)
  have t_402 : At S_153 q_1 36 := tAt_sR eS_153 t_401
  have t_403 : At S_160 q_1 36 := by rw [eS_160]; exact At_sO t_402 hq_159
  have t_400 : pN S_167 q_1 = 600 := ((hK_168 q_1 t_403.1).2 (At_ne t_403 ha_165 (by decide))).2.2.2.1.trans t_399
  clear t_399
  have t_404 : pN S_179 q_1 = 600 := tN_sR eS_179 t_400
  clear t_400
  have t_406 : At S_167 q_1 36 := hK_168.at ha_165 t_403 (by decide)
  have t_407 : At S_179 q_1 36 := tAt_sR eS_179 t_406
  have t_405 : pN S_186 q_1 = 600 := by rw [eS_186]; exact (pN_sN_ne (ne_of_new hq_185 t_407.1)).trans t_404
  clear t_404
  have t_408 : pN S_195 q_1 = 600 := tN_sR eS_195 t_405
  clear t_405
  have t_410 : At S_186 q_1 36 := by rw [eS_186]; exact At_sN t_407 hq_185
  have t_411 : At S_195 q_1 36 := tAt_sR eS_195 t_410
  have t_409 : pN S_202 q_1 = 600 := by rw [eS_202]; exact (pN_sN_ne (ne_of_new hq_201 t_411.1)).trans t_408
  clear t_408
  have t_412 : pN S_211 q_1 = 600 := tN_sR eS_211 t_409
  clear t_409
  have t_414 : pR S_33 1101 x = some q_16 := by rw [eS_33, pR_sN]; exact h_31
  have t_415 : pR S_42 1101 x = some q_16 := tR_sR eS_42 rfl t_414
  have t_416 : pR S_49 1101 x = some q_16 := by rw [eS_49]; exact (pR_sO_ne (ne_of_new hq_48 t_258.1)).trans t_415
  have t_417 : pR S_56 1101 x = some q_16 := (((hK_57 x t_260.1).2 (At_ne t_260 ha_54 (by decide))).2.2.1 1101).trans t_416
  have t_418 : pR S_69 1101 x = some q_16 := tR_sR eS_69 rfl t_417
  have t_419 : pR S_76 1101 x = some q_16 := by rw [eS_76]; exact (pR_sO_ne (ne_of_new hq_75 t_235.1)).trans t_418
  have t_420 : pR S_83 1101 x = some q_16 := (((hK_84 x t_237.1).2 (At_ne t_237 ha_81 (by decide))).2.2.1 1101).trans t_419
  have t_421 : pR S_118 1101 x = some q_16 := tR_sR eS_118 rfl t_420
  have t_422 : pR S_125 1101 x = some q_16 := by rw [eS_125]; exact (pR_sO_ne (ne_of_new hq_124 t_240.1)).trans t_421
  have t_423 : pR S_132 1101 x = some q_16 := (((hK_133 x t_242.1).2 (At_ne t_242 ha_130 (by decide))).2.2.1 1101).trans t_422
  have t_424 : pR S_153 1101 x = some q_16 := tR_sR eS_153 rfl t_423
  have t_425 : pR S_160 1101 x = some q_16 := by rw [eS_160]; exact (pR_sO_ne (ne_of_new hq_159 t_226.1)).trans t_424
  have t_426 : pR S_167 1101 x = some q_16 := (((hK_168 x t_228.1).2 (At_ne t_228 ha_165 (by decide))).2.2.1 1101).trans t_425
  have t_427 : pR S_179 1101 x = some q_16 := tR_sR eS_179 rfl t_426
  have t_428 : pR S_186 1101 x = some q_16 := by rw [eS_186, pR_sN]; exact t_427
  have t_429 : pR S_195 1101 x = some q_16 := tR_sR eS_195 rfl t_428
  have t_430 : pR S_202 1101 x = some q_16 := by rw [eS_202, pR_sN]; exact t_429
  have t_431 : pR S_211 1101 x = some q_16 := tR_sR eS_211 rfl t_430
  have t_434 : pN S_26 q_16 = 10 := tN_sR eS_26 hn_23
  clear hn_23
  have t_436 : At S_26 q_16 54 := tAt_sR eS_26 ha_22
  have t_435 : pN S_33 q_16 = 10 := by rw [eS_33]; exact (pN_sN_ne (ne_of_new hq_32 t_436.1)).trans t_434
  clear t_434
  have t_437 : pN S_42 q_16 = 10 := tN_sR eS_42 t_435
  clear t_435
  have t_438 : pN S_49 q_16 = 10 := by rw [eS_49, pN_sO]; exact t_437
  clear t_437
  have t_440 : At S_33 q_16 54 := by rw [eS_33]; exact At_sN t_436 hq_32
  have t_441 : At S_42 q_16 54 := tAt_sR eS_42 t_440
  have t_442 : At S_49 q_16 54 := by rw [eS_49]; exact At_sO t_441 hq_48
  have t_439 : pN S_56 q_16 = 10 := ((hK_57 q_16 t_442.1).2 (At_ne t_442 ha_54 (by decide))).2.2.2.1.trans t_438
  clear t_438
  have t_443 : pN S_69 q_16 = 10 := tN_sR eS_69 t_439
  clear t_439
  have t_444 : pN S_76 q_16 = 10 := by rw [eS_76, pN_sO]; exact t_443
  clear t_443
  have t_446 : At S_56 q_16 54 := hK_57.at ha_54 t_442 (by decide)
  have t_447 : At S_69 q_16 54 := tAt_sR eS_69 t_446
  have t_448 : At S_76 q_16 54 := by rw [eS_76]; exact At_sO t_447 hq_75
  have t_445 : pN S_83 q_16 = 10 := ((hK_84 q_16 t_448.1).2 (At_ne t_448 ha_81 (by decide))).2.2.2.1.trans t_444
  clear t_444
  have t_449 : pN S_118 q_16 = 10 := tN_sR eS_118 t_445
  clear t_445
  have t_450 : pN S_125 q_16 = 10 := by rw [eS_125, pN_sO]; exact t_449
  clear t_449
  have t_452 : At S_83 q_16 54 := hK_84.at ha_81 t_448 (by decide)
  have t_453 : At S_118 q_16 54 := tAt_sR eS_118 t_452
  have t_454 : At S_125 q_16 54 := by rw [eS_125]; exact At_sO t_453 hq_124
  have t_451 : pN S_132 q_16 = 10 := ((hK_133 q_16 t_454.1).2 (At_ne t_454 ha_130 (by decide))).2.2.2.1.trans t_450
  clear t_450
  have t_455 : pN S_153 q_16 = 10 := tN_sR eS_153 t_451
  clear t_451
  have t_456 : pN S_160 q_16 = 10 := by rw [eS_160, pN_sO]; exact t_455
  clear t_455
  have t_458 : At S_132 q_16 54 := hK_133.at ha_130 t_454 (by decide)
  have t_459 : At S_153 q_16 54 := tAt_sR eS_153 t_458
  have t_460 : At S_160 q_16 54 := by rw [eS_160]; exact At_sO t_459 hq_159
  have t_457 : pN S_167 q_16 = 10 := ((hK_168 q_16 t_460.1).2 (At_ne t_460 ha_165 (by decide))).2.2.2.1.trans t_456
  clear t_456
  have t_461 : pN S_179 q_16 = 10 := tN_sR eS_179 t_457
  clear t_457
  have t_463 : At S_167 q_16 54 := hK_168.at ha_165 t_460 (by decide)
  have t_464 : At S_179 q_16 54 := tAt_sR eS_179 t_463
  have t_462 : pN S_186 q_16 = 10 := by rw [eS_186]; exact (pN_sN_ne (ne_of_new hq_185 t_464.1)).trans t_461
  clear t_461
  have t_465 : pN S_195 q_16 = 10 := tN_sR eS_195 t_462
  clear t_462
  have t_467 : At S_186 q_16 54 := by rw [eS_186]; exact At_sN t_464 hq_185
  have t_468 : At S_195 q_16 54 := tAt_sR eS_195 t_467
  have t_466 : pN S_202 q_16 = 10 := by rw [eS_202]; exact (pN_sN_ne (ne_of_new hq_201 t_468.1)).trans t_465
  clear t_465
  have t_469 : pN S_211 q_16 = 10 := tN_sR eS_211 t_466
  clear t_466
  have t_471 : pR S_49 1103 x = some q_32 := by rw [eS_49]; exact (pR_sO_ne (ne_of_new hq_48 t_258.1)).trans h_47
  have t_472 : pR S_56 1103 x = some q_32 := (((hK_57 x t_260.1).2 (At_ne t_260 ha_54 (by decide))).2.2.1 1103).trans t_471
  have t_473 : pR S_69 1103 x = some q_32 := tR_sR eS_69 rfl t_472
  have t_474 : pR S_76 1103 x = some q_32 := by rw [eS_76]; exact (pR_sO_ne (ne_of_new hq_75 t_235.1)).trans t_473
  have t_475 : pR S_83 1103 x = some q_32 := (((hK_84 x t_237.1).2 (At_ne t_237 ha_81 (by decide))).2.2.1 1103).trans t_474
  have t_476 : pR S_118 1103 x = some q_32 := tR_sR eS_118 rfl t_475
  have t_477 : pR S_125 1103 x = some q_32 := by rw [eS_125]; exact (pR_sO_ne (ne_of_new hq_124 t_240.1)).trans t_476
  have t_478 : pR S_132 1103 x = some q_32 := (((hK_133 x t_242.1).2 (At_ne t_242 ha_130 (by decide))).2.2.1 1103).trans t_477
  have t_479 : pR S_153 1103 x = some q_32 := tR_sR eS_153 rfl t_478
  have t_480 : pR S_160 1103 x = some q_32 := by rw [eS_160]; exact (pR_sO_ne (ne_of_new hq_159 t_226.1)).trans t_479
  have t_481 : pR S_167 1103 x = some q_32 := (((hK_168 x t_228.1).2 (At_ne t_228 ha_165 (by decide))).2.2.1 1103).trans t_480
  have t_482 : pR S_179 1103 x = some q_32 := tR_sR eS_179 rfl t_481
  have t_483 : pR S_186 1103 x = some q_32 := by rw [eS_186, pR_sN]; exact t_482
  have t_484 : pR S_195 1103 x = some q_32 := tR_sR eS_195 rfl t_483
  have t_485 : pR S_202 1103 x = some q_32 := by rw [eS_202, pR_sN]; exact t_484
  have t_486 : pR S_211 1103 x = some q_32 := tR_sR eS_211 rfl t_485
  have t_489 : pN S_42 q_32 = 4 := tN_sR eS_42 hn_39
  clear hn_39
  have t_490 : pN S_49 q_32 = 4 := by rw [eS_49, pN_sO]; exact t_489
  clear t_489
  have t_492 : At S_42 q_32 18 := tAt_sR eS_42 ha_38
  have t_493 : At S_49 q_32 18 := by rw [eS_49]; exact At_sO t_492 hq_48
  have t_491 : pN S_56 q_32 = 4 := ((hK_57 q_32 t_493.1).2 (At_ne t_493 ha_54 (by decide))).2.2.2.1.trans t_490
  clear t_490
  have t_494 : pN S_69 q_32 = 4 := tN_sR eS_69 t_491
  clear t_491
  have t_495 : pN S_76 q_32 = 4 := by rw [eS_76, pN_sO]; exact t_494
  clear t_494
  have t_497 : At S_56 q_32 18 := hK_57.at ha_54 t_493 (by decide)
  have t_498 : At S_69 q_32 18 := tAt_sR eS_69 t_497
  have t_499 : At S_76 q_32 18 := by rw [eS_76]; exact At_sO t_498 hq_75
  have t_496 : pN S_83 q_32 = 4 := ((hK_84 q_32 t_499.1).2 (At_ne t_499 ha_81 (by decide))).2.2.2.1.trans t_495
  clear t_495
  have t_500 : pN S_118 q_32 = 4 := tN_sR eS_118 t_496
  clear t_496
  have t_501 : pN S_125 q_32 = 4 := by rw [eS_125, pN_sO]; exact t_500
  clear t_500
  have t_503 : At S_83 q_32 18 := hK_84.at ha_81 t_499 (by decide)
  have t_504 : At S_118 q_32 18 := tAt_sR eS_118 t_503
  have t_505 : At S_125 q_32 18 := by rw [eS_125]; exact At_sO t_504 hq_124
  have t_502 : pN S_132 q_32 = 4 := ((hK_133 q_32 t_505.1).2 (At_ne t_505 ha_130 (by decide))).2.2.2.1.trans t_501
  clear t_501
  have t_506 : pN S_153 q_32 = 4 := tN_sR eS_153 t_502
  clear t_502
  have t_507 : pN S_160 q_32 = 4 := by rw [eS_160, pN_sO]; exact t_506
  clear t_506
  have t_509 : At S_132 q_32 18 := hK_133.at ha_130 t_505 (by decide)
  have t_510 : At S_153 q_32 18 := tAt_sR eS_153 t_509
  have t_511 : At S_160 q_32 18 := by rw [eS_160]; exact At_sO t_510 hq_159
  have t_508 : pN S_167 q_32 = 4 := ((hK_168 q_32 t_511.1).2 (At_ne t_511 ha_165 (by decide))).2.2.2.1.trans t_507
  clear t_507
  have t_512 : pN S_179 q_32 = 4 := tN_sR eS_179 t_508
  clear t_508
  have t_514 : At S_167 q_32 18 := hK_168.at ha_165 t_511 (by decide)
  have t_515 : At S_179 q_32 18 := tAt_sR eS_179 t_514
  have t_513 : pN S_186 q_32 = 4 := by rw [eS_186]; exact (pN_sN_ne (ne_of_new hq_185 t_515.1)).trans t_512
  clear t_512
  have t_516 : pN S_195 q_32 = 4 := tN_sR eS_195 t_513
  clear t_513
  have t_518 : At S_186 q_32 18 := by rw [eS_186]; exact At_sN t_515 hq_185
  have t_519 : At S_195 q_32 18 := tAt_sR eS_195 t_518
  have t_517 : pN S_202 q_32 = 4 := by rw [eS_202]; exact (pN_sN_ne (ne_of_new hq_201 t_519.1)).trans t_516
  clear t_516
  have t_520 : pN S_211 q_32 = 4 := tN_sR eS_211 t_517
  clear t_517
  have t_524 : pR S_125 1106 x = some q_75 := by rw [eS_125]; exact (pR_sO_ne (ne_of_new hq_124 t_240.1)).trans h_123
  have t_525 : pR S_132 1106 x = some q_75 := (((hK_133 x t_242.1).2 (At_ne t_242 ha_130 (by decide))).2.2.1 1106).trans t_524
  have t_526 : pR S_153 1106 x = some q_75 := tR_sR eS_153 rfl t_525
  have t_527 : pR S_160 1106 x = some q_75 := by rw [eS_160]; exact (pR_sO_ne (ne_of_new hq_159 t_226.1)).trans t_526
  have t_528 : pR S_167 1106 x = some q_75 := (((hK_168 x t_228.1).2 (At_ne t_228 ha_165 (by decide))).2.2.1 1106).trans t_527
  have t_529 : pR S_179 1106 x = some q_75 := tR_sR eS_179 rfl t_528
  have t_530 : pR S_186 1106 x = some q_75 := by rw [eS_186, pR_sN]; exact t_529
  have t_531 : pR S_195 1106 x = some q_75 := tR_sR eS_195 rfl t_530
  have t_532 : pR S_202 1106 x = some q_75 := by rw [eS_202, pR_sN]; exact t_531
  have t_533 : pR S_211 1106 x = some q_75 := tR_sR eS_211 rfl t_532
  have t_538 : pR S_186 1108 x = some q_159 := by rw [eS_186, pR_sN]; exact h_184
  have t_539 : pR S_195 1108 x = some q_159 := tR_sR eS_195 rfl t_538
  have t_540 : pR S_202 1108 x = some q_159 := by rw [eS_202, pR_sN]; exact t_539
  have t_541 : pR S_211 1108 x = some q_159 := tR_sR eS_211 rfl t_540
  have t_546 : pN S_195 q_185 = 16 := tN_sR eS_195 hn_192
  clear hn_192
  have t_548 : At S_195 q_185 17 := tAt_sR eS_195 ha_191
  have t_547 : pN S_202 q_185 = 16 := by rw [eS_202]; exact (pN_sN_ne (ne_of_new hq_201 t_548.1)).trans t_546
  clear t_546
  have t_549 : pN S_211 q_185 = 16 := tN_sR eS_211 t_547
  clear t_547
  have t_553 : pN S_211 q_201 = 60 := tN_sR eS_211 hn_208
  clear hn_208
  have t_555 : pR S_118 601 q_75 = some q_94 := tR_sR eS_118 rfl h_95
  have t_557 : At S_118 q_75 6 := tAt_sR eS_118 ha_86
  have t_556 : pR S_125 601 q_75 = some q_94 := by rw [eS_125]; exact (pR_sO_ne (ne_of_new hq_124 t_557.1)).trans t_555
  have t_559 : At S_125 q_75 6 := by rw [eS_125]; exact At_sO t_557 hq_124
  have t_558 : pR S_132 601 q_75 = some q_94 := (((hK_133 q_75 t_559.1).2 (At_ne t_559 ha_130 (by decide))).2.2.1 601).trans t_556
  have t_560 : pR S_153 601 q_75 = some q_94 := tR_sR eS_153 rfl t_558
  have t_562 : At S_132 q_75 6 := hK_133.at ha_130 t_559 (by decide)
  have t_563 : At S_153 q_75 6 := tAt_sR eS_153 t_562
  have t_561 : pR S_160 601 q_75 = some q_94 := by rw [eS_160]; exact (pR_sO_ne (ne_of_new hq_159 t_563.1)).trans t_560
  have t_565 : At S_160 q_75 6 := by rw [eS_160]; exact At_sO t_563 hq_159
  have t_564 : pR S_167 601 q_75 = some q_94 := (((hK_168 q_75 t_565.1).2 (At_ne t_565 ha_165 (by decide))).2.2.1 601).trans t_561
  have t_566 : pR S_179 601 q_75 = some q_94 := tR_sR eS_179 rfl t_564
  have t_567 : pR S_186 601 q_75 = some q_94 := by rw [eS_186, pR_sN]; exact t_566
  have t_568 : pR S_195 601 q_75 = some q_94 := tR_sR eS_195 rfl t_567
  have t_569 : pR S_202 601 q_75 = some q_94 := by rw [eS_202, pR_sN]; exact t_568
  have t_570 : pR S_211 601 q_75 = some q_94 := tR_sR eS_211 rfl t_569
  have t_573 : pN S_118 q_94 = 12 := tN_sR eS_118 h_97
  clear h_97
  have t_574 : pN S_125 q_94 = 12 := by rw [eS_125, pN_sO]; exact t_573
  clear t_573
  have t_576 : At S_118 q_94 134 := tAt_sR eS_118 h_96
  have t_577 : At S_125 q_94 134 := by rw [eS_125]; exact At_sO t_576 hq_124
  have t_575 : pN S_132 q_94 = 12 := ((hK_133 q_94 t_577.1).2 (At_ne t_577 ha_130 (by decide))).2.2.2.1.trans t_574
  clear t_574
  have t_578 : pN S_153 q_94 = 12 := tN_sR eS_153 t_575
  clear t_575
  have t_579 : pN S_160 q_94 = 12 := by rw [eS_160, pN_sO]; exact t_578
  clear t_578
  have t_581 : At S_132 q_94 134 := hK_133.at ha_130 t_577 (by decide)
  have t_582 : At S_153 q_94 134 := tAt_sR eS_153 t_581
  have t_583 : At S_160 q_94 134 := by rw [eS_160]; exact At_sO t_582 hq_159
  have t_580 : pN S_167 q_94 = 12 := ((hK_168 q_94 t_583.1).2 (At_ne t_583 ha_165 (by decide))).2.2.2.1.trans t_579
  clear t_579
  have t_584 : pN S_179 q_94 = 12 := tN_sR eS_179 t_580
  clear t_580
  have t_586 : At S_167 q_94 134 := hK_168.at ha_165 t_583 (by decide)
  have t_587 : At S_179 q_94 134 := tAt_sR eS_179 t_586
  have t_585 : pN S_186 q_94 = 12 := by rw [eS_186]; exact (pN_sN_ne (ne_of_new hq_185 t_587.1)).trans t_584
  clear t_584
  have t_588 : pN S_195 q_94 = 12 := tN_sR eS_195 t_585
  clear t_585
  have t_590 : At S_186 q_94 134 := by rw [eS_186]; exact At_sN t_587 hq_185
  have t_591 : At S_195 q_94 134 := tAt_sR eS_195 t_590
  have t_589 : pN S_202 q_94 = 12 := by rw [eS_202]; exact (pN_sN_ne (ne_of_new hq_201 t_591.1)).trans t_588
  clear t_588
  have t_592 : pN S_211 q_94 = 12 := tN_sR eS_211 t_589
  clear t_589
  have t_594 : pR S_118 602 q_75 = some q_98 := tR_sR eS_118 rfl h_99
  have t_595 : pR S_125 602 q_75 = some q_98 := by rw [eS_125]; exact (pR_sO_ne (ne_of_new hq_124 t_557.1)).trans t_594
  have t_596 : pR S_132 602 q_75 = some q_98 := (((hK_133 q_75 t_559.1).2 (At_ne t_559 ha_130 (by decide))).2.2.1 602).trans t_595
  have t_597 : pR S_153 602 q_75 = some q_98 := tR_sR eS_153 rfl t_596
  have t_598 : pR S_160 602 q_75 = some q_98 := by rw [eS_160]; exact (pR_sO_ne (ne_of_new hq_159 t_563.1)).trans t_597
  have t_599 : pR S_167 602 q_75 = some q_98 := (((hK_168 q_75 t_565.1).2 (At_ne t_565 ha_165 (by decide))).2.2.1 602).trans t_598
  have t_600 : pR S_179 602 q_75 = some q_98 := tR_sR eS_179 rfl t_599
  have t_601 : pR S_186 602 q_75 = some q_98 := by rw [eS_186, pR_sN]; exact t_600
  have t_602 : pR S_195 602 q_75 = some q_98 := tR_sR eS_195 rfl t_601
  have t_603 : pR S_202 602 q_75 = some q_98 := by rw [eS_202, pR_sN]; exact t_602
  have t_604 : pR S_211 602 q_75 = some q_98 := tR_sR eS_211 rfl t_603
  have t_607 : pN S_118 q_98 = 12 := tN_sR eS_118 h_101
  clear h_101
  have t_608 : pN S_125 q_98 = 12 := by rw [eS_125, pN_sO]; exact t_607
  clear t_607
  have t_610 : At S_118 q_98 134 := tAt_sR eS_118 h_100
  have t_611 : At S_125 q_98 134 := by rw [eS_125]; exact At_sO t_610 hq_124
  have t_609 : pN S_132 q_98 = 12 := ((hK_133 q_98 t_611.1).2 (At_ne t_611 ha_130 (by decide))).2.2.2.1.trans t_608
  clear t_608
  have t_612 : pN S_153 q_98 = 12 := tN_sR eS_153 t_609
  clear t_609
  have t_613 : pN S_160 q_98 = 12 := by rw [eS_160, pN_sO]; exact t_612
  clear t_612
  have t_615 : At S_132 q_98 134 := hK_133.at ha_130 t_611 (by decide)
  have t_616 : At S_153 q_98 134 := tAt_sR eS_153 t_615
  have t_617 : At S_160 q_98 134 := by rw [eS_160]; exact At_sO t_616 hq_159
  have t_614 : pN S_167 q_98 = 12 := ((hK_168 q_98 t_617.1).2 (At_ne t_617 ha_165 (by decide))).2.2.2.1.trans t_613
  clear t_613
  have t_618 : pN S_179 q_98 = 12 := tN_sR eS_179 t_614
  clear t_614
  have t_620 : At S_167 q_98 134 := hK_168.at ha_165 t_617 (by decide)
  have t_621 : At S_179 q_98 134 := tAt_sR eS_179 t_620
  have t_619 : pN S_186 q_98 = 12 := by rw [eS_186]; exact (pN_sN_ne (ne_of_new hq_185 t_621.1)).trans t_618
  clear t_618
  have t_622 : pN S_195 q_98 = 12 := tN_sR eS_195 t_619
  clear t_619
  have t_624 : At S_186 q_98 134 := by rw [eS_186]; exact At_sN t_621 hq_185
  have t_625 : At S_195 q_98 134 := tAt_sR eS_195 t_624
  have t_623 : pN S_202 q_98 = 12 := by rw [eS_202]; exact (pN_sN_ne (ne_of_new hq_201 t_625.1)).trans t_622
  clear t_622
  have t_626 : pN S_211 q_98 = 12 := tN_sR eS_211 t_623
  clear t_623
  have t_628 : pR S_118 604 q_75 = some q_102 := tR_sR eS_118 rfl h_103
  have t_629 : pR S_125 604 q_75 = some q_102 := by rw [eS_125]; exact (pR_sO_ne (ne_of_new hq_124 t_557.1)).trans t_628
  have t_630 : pR S_132 604 q_75 = some q_102 := (((hK_133 q_75 t_559.1).2 (At_ne t_559 ha_130 (by decide))).2.2.1 604).trans t_629
  have t_631 : pR S_153 604 q_75 = some q_102 := tR_sR eS_153 rfl t_630
  have t_632 : pR S_160 604 q_75 = some q_102 := by rw [eS_160]; exact (pR_sO_ne (ne_of_new hq_159 t_563.1)).trans t_631
  have t_633 : pR S_167 604 q_75 = some q_102 := (((hK_168 q_75 t_565.1).2 (At_ne t_565 ha_165 (by decide))).2.2.1 604).trans t_632
  have t_634 : pR S_179 604 q_75 = some q_102 := tR_sR eS_179 rfl t_633
  have t_635 : pR S_186 604 q_75 = some q_102 := by rw [eS_186, pR_sN]; exact t_634
  have t_636 : pR S_195 604 q_75 = some q_102 := tR_sR eS_195 rfl t_635
  have t_637 : pR S_202 604 q_75 = some q_102 := by rw [eS_202, pR_sN]; exact t_636
  have t_638 : pR S_211 604 q_75 = some q_102 := tR_sR eS_211 rfl t_637
  have t_641 : pN S_118 q_102 = 48 := tN_sR eS_118 h_105
  clear h_105
  have t_642 : pN S_125 q_102 = 48 := by rw [eS_125, pN_sO]; exact t_641
  clear t_641
  have t_644 : At S_118 q_102 134 := tAt_sR eS_118 h_104
  have t_645 : At S_125 q_102 134 := by rw [eS_125]; exact At_sO t_644 hq_124
  have t_643 : pN S_132 q_102 = 48 := ((hK_133 q_102 t_645.1).2 (At_ne t_645 ha_130 (by decide))).2.2.2.1.trans t_642
  clear t_642
  have t_646 : pN S_153 q_102 = 48 := tN_sR eS_153 t_643
  clear t_643
  have t_647 : pN S_160 q_102 = 48 := by rw [eS_160, pN_sO]; exact t_646
  clear t_646
  have t_649 : At S_132 q_102 134 := hK_133.at ha_130 t_645 (by decide)
  have t_650 : At S_153 q_102 134 := tAt_sR eS_153 t_649
  have t_651 : At S_160 q_102 134 := by rw [eS_160]; exact At_sO t_650 hq_159
  have t_648 : pN S_167 q_102 = 48 := ((hK_168 q_102 t_651.1).2 (At_ne t_651 ha_165 (by decide))).2.2.2.1.trans t_647
  clear t_647
  have t_652 : pN S_179 q_102 = 48 := tN_sR eS_179 t_648
  clear t_648
  have t_654 : At S_167 q_102 134 := hK_168.at ha_165 t_651 (by decide)
  have t_655 : At S_179 q_102 134 := tAt_sR eS_179 t_654
  have t_653 : pN S_186 q_102 = 48 := by rw [eS_186]; exact (pN_sN_ne (ne_of_new hq_185 t_655.1)).trans t_652
  clear t_652
  have t_656 : pN S_195 q_102 = 48 := tN_sR eS_195 t_653
  clear t_653
  have t_658 : At S_186 q_102 134 := by rw [eS_186]; exact At_sN t_655 hq_185
  have t_659 : At S_195 q_102 134 := tAt_sR eS_195 t_658
  have t_657 : pN S_202 q_102 = 48 := by rw [eS_202]; exact (pN_sN_ne (ne_of_new hq_201 t_659.1)).trans t_656
  clear t_656
  have t_660 : pN S_211 q_102 = 48 := tN_sR eS_211 t_657
  clear t_657
  have t_662 : pR S_118 605 q_75 = some q_106 := tR_sR eS_118 rfl h_107
  have t_663 : pR S_125 605 q_75 = some q_106 := by rw [eS_125]; exact (pR_sO_ne (ne_of_new hq_124 t_557.1)).trans t_662
  have t_664 : pR S_132 605 q_75 = some q_106 := (((hK_133 q_75 t_559.1).2 (At_ne t_559 ha_130 (by decide))).2.2.1 605).trans t_663
  have t_665 : pR S_153 605 q_75 = some q_106 := tR_sR eS_153 rfl t_664
  have t_666 : pR S_160 605 q_75 = some q_106 := by rw [eS_160]; exact (pR_sO_ne (ne_of_new hq_159 t_563.1)).trans t_665
  have t_667 : pR S_167 605 q_75 = some q_106 := (((hK_168 q_75 t_565.1).2 (At_ne t_565 ha_165 (by decide))).2.2.1 605).trans t_666
  have t_668 : pR S_179 605 q_75 = some q_106 := tR_sR eS_179 rfl t_667
  have t_669 : pR S_186 605 q_75 = some q_106 := by rw [eS_186, pR_sN]; exact t_668
  have t_670 : pR S_195 605 q_75 = some q_106 := tR_sR eS_195 rfl t_669
  have t_671 : pR S_202 605 q_75 = some q_106 := by rw [eS_202, pR_sN]; exact t_670
  have t_672 : pR S_211 605 q_75 = some q_106 := tR_sR eS_211 rfl t_671
  have t_675 : pN S_118 q_106 = 48 := tN_sR eS_118 h_109
  clear h_109
  have t_676 : pN S_125 q_106 = 48 := by rw [eS_125, pN_sO]; exact t_675
  clear t_675
  have t_678 : At S_118 q_106 134 := tAt_sR eS_118 h_108
  have t_679 : At S_125 q_106 134 := by rw [eS_125]; exact At_sO t_678 hq_124
  have t_677 : pN S_132 q_106 = 48 := ((hK_133 q_106 t_679.1).2 (At_ne t_679 ha_130 (by decide))).2.2.2.1.trans t_676
  clear t_676
  have t_680 : pN S_153 q_106 = 48 := tN_sR eS_153 t_677
  clear t_677
  have t_681 : pN S_160 q_106 = 48 := by rw [eS_160, pN_sO]; exact t_680
  clear t_680
  have t_683 : At S_132 q_106 134 := hK_133.at ha_130 t_679 (by decide)
  have t_684 : At S_153 q_106 134 := tAt_sR eS_153 t_683
  have t_685 : At S_160 q_106 134 := by rw [eS_160]; exact At_sO t_684 hq_159
  have t_682 : pN S_167 q_106 = 48 := ((hK_168 q_106 t_685.1).2 (At_ne t_685 ha_165 (by decide))).2.2.2.1.trans t_681
  clear t_681
  have t_686 : pN S_179 q_106 = 48 := tN_sR eS_179 t_682
  clear t_682
  have t_688 : At S_167 q_106 134 := hK_168.at ha_165 t_685 (by decide)
  have t_689 : At S_179 q_106 134 := tAt_sR eS_179 t_688
  have t_687 : pN S_186 q_106 = 48 := by rw [eS_186]; exact (pN_sN_ne (ne_of_new hq_185 t_689.1)).trans t_686
  clear t_686
  have t_690 : pN S_195 q_106 = 48 := tN_sR eS_195 t_687
  clear t_687
  have t_692 : At S_186 q_106 134 := by rw [eS_186]; exact At_sN t_689 hq_185
  have t_693 : At S_195 q_106 134 := tAt_sR eS_195 t_692
  have t_691 : pN S_202 q_106 = 48 := by rw [eS_202]; exact (pN_sN_ne (ne_of_new hq_201 t_693.1)).trans t_690
  clear t_690
  have t_694 : pN S_211 q_106 = 48 := tN_sR eS_211 t_691
  clear t_691
  have t_696 : pR S_118 606 q_75 = some q_110 := tR_sR eS_118 rfl h_111
  have t_697 : pR S_125 606 q_75 = some q_110 := by rw [eS_125]; exact (pR_sO_ne (ne_of_new hq_124 t_557.1)).trans t_696
  have t_698 : pR S_132 606 q_75 = some q_110 := (((hK_133 q_75 t_559.1).2 (At_ne t_559 ha_130 (by decide))).2.2.1 606).trans t_697
  have t_699 : pR S_153 606 q_75 = some q_110 := tR_sR eS_153 rfl t_698
  have t_700 : pR S_160 606 q_75 = some q_110 := by rw [eS_160]; exact (pR_sO_ne (ne_of_new hq_159 t_563.1)).trans t_699
  have t_701 : pR S_167 606 q_75 = some q_110 := (((hK_168 q_75 t_565.1).2 (At_ne t_565 ha_165 (by decide))).2.2.1 606).trans t_700
  have t_702 : pR S_179 606 q_75 = some q_110 := tR_sR eS_179 rfl t_701
  have t_703 : pR S_186 606 q_75 = some q_110 := by rw [eS_186, pR_sN]; exact t_702
  have t_704 : pR S_195 606 q_75 = some q_110 := tR_sR eS_195 rfl t_703
  have t_705 : pR S_202 606 q_75 = some q_110 := by rw [eS_202, pR_sN]; exact t_704
  have t_706 : pR S_211 606 q_75 = some q_110 := tR_sR eS_211 rfl t_705
  have t_709 : pN S_118 q_110 = 48 := tN_sR eS_118 h_113
  clear h_113
  have t_710 : pN S_125 q_110 = 48 := by rw [eS_125, pN_sO]; exact t_709
  clear t_709
  have t_712 : At S_118 q_110 134 := tAt_sR eS_118 h_112
  have t_713 : At S_125 q_110 134 := by rw [eS_125]; exact At_sO t_712 hq_124
  have t_711 : pN S_132 q_110 = 48 := ((hK_133 q_110 t_713.1).2 (At_ne t_713 ha_130 (by decide))).2.2.2.1.trans t_710
  clear t_710
  have t_714 : pN S_153 q_110 = 48 := tN_sR eS_153 t_711
  clear t_711
  have t_715 : pN S_160 q_110 = 48 := by rw [eS_160, pN_sO]; exact t_714
  clear t_714
  have t_717 : At S_132 q_110 134 := hK_133.at ha_130 t_713 (by decide)
  have t_718 : At S_153 q_110 134 := tAt_sR eS_153 t_717
  have t_719 : At S_160 q_110 134 := by rw [eS_160]; exact At_sO t_718 hq_159
  have t_716 : pN S_167 q_110 = 48 := ((hK_168 q_110 t_719.1).2 (At_ne t_719 ha_165 (by decide))).2.2.2.1.trans t_715
  clear t_715
  have t_720 : pN S_179 q_110 = 48 := tN_sR eS_179 t_716
  clear t_716
  have t_722 : At S_167 q_110 134 := hK_168.at ha_165 t_719 (by decide)
  have t_723 : At S_179 q_110 134 := tAt_sR eS_179 t_722
  have t_721 : pN S_186 q_110 = 48 := by rw [eS_186]; exact (pN_sN_ne (ne_of_new hq_185 t_723.1)).trans t_720
  clear t_720
  have t_724 : pN S_195 q_110 = 48 := tN_sR eS_195 t_721
  clear t_721
  have t_726 : At S_186 q_110 134 := by rw [eS_186]; exact At_sN t_723 hq_185
  have t_727 : At S_195 q_110 134 := tAt_sR eS_195 t_726
  have t_725 : pN S_202 q_110 = 48 := by rw [eS_202]; exact (pN_sN_ne (ne_of_new hq_201 t_727.1)).trans t_724
  clear t_724
  have t_728 : pN S_211 q_110 = 48 := tN_sR eS_211 t_725
  clear t_725
  have t_730 : pR S_153 807 q_124 = some q_145 := tR_sR eS_153 rfl h_146
  have t_731 : pR S_160 807 q_124 = some q_145 := by rw [eS_160]; exact (pR_sO_ne (ne_of_new hq_159 t_301.1)).trans t_730
  have t_732 : pR S_167 807 q_124 = some q_145 := (((hK_168 q_124 t_303.1).2 (At_ne t_303 ha_165 (by decide))).2.2.1 807).trans t_731
  have t_733 : pR S_179 807 q_124 = some q_145 := tR_sR eS_179 rfl t_732
  have t_734 : pR S_186 807 q_124 = some q_145 := by rw [eS_186, pR_sN]; exact t_733
  have t_735 : pR S_195 807 q_124 = some q_145 := tR_sR eS_195 rfl t_734
  have t_736 : pR S_202 807 q_124 = some q_145 := by rw [eS_202, pR_sN]; exact t_735
  have t_737 : pR S_211 807 q_124 = some q_145 := tR_sR eS_211 rfl t_736
  have t_740 : pN S_153 q_145 = 4 := tN_sR eS_153 h_148
  clear h_148
  have t_741 : pN S_160 q_145 = 4 := by rw [eS_160, pN_sO]; exact t_740
  clear t_740
  have t_743 : At S_153 q_145 154 := tAt_sR eS_153 h_147
  have t_744 : At S_160 q_145 154 := by rw [eS_160]; exact At_sO t_743 hq_159
  have t_742 : pN S_167 q_145 = 4 := ((hK_168 q_145 t_744.1).2 (At_ne t_744 ha_165 (by decide))).2.2.2.1.trans t_741
  clear t_741
  have t_745 : pN S_179 q_145 = 4 := tN_sR eS_179 t_742
  clear t_742
  have t_747 : At S_167 q_145 154 := hK_168.at ha_165 t_744 (by decide)
  have t_748 : At S_179 q_145 154 := tAt_sR eS_179 t_747
  have t_746 : pN S_186 q_145 = 4 := by rw [eS_186]; exact (pN_sN_ne (ne_of_new hq_185 t_748.1)).trans t_745
  clear t_745
  have t_749 : pN S_195 q_145 = 4 := tN_sR eS_195 t_746
  clear t_746
  have t_751 : At S_186 q_145 154 := by rw [eS_186]; exact At_sN t_748 hq_185
  have t_752 : At S_195 q_145 154 := tAt_sR eS_195 t_751
  have t_750 : pN S_202 q_145 = 4 := by rw [eS_202]; exact (pN_sN_ne (ne_of_new hq_201 t_752.1)).trans t_749
  clear t_749
  have t_753 : pN S_211 q_145 = 4 := tN_sR eS_211 t_750
  clear t_750
  have L_219 : ∀ (n : Nat) (T_221 : PS) (H : Heap) (locs : List Loc) (ls : Array Slot) (i1_220 : Int32) (i1_220_z : Int) (cc_755 nn_756 : Nat), ((16 - i1_220_z).toNat = n) → (Wd G cy (AS S s.heap.size) s.heap T_221 H locs) → (i1_220.toInt = i1_220_z) → (0 ≤ i1_220_z ∧ i1_220_z ≤ 16) → (At T_221 x 191) → (Kq S T_221 x) → (GX T_221) → (Phc T_221 = Phc S + 320) → (Phs T_221 = Phs S + 604000) → (ShI T_221 q_185 i1_220_z) → (pA T_221 q_145 = prcF) → (pI T_221 1102 x = 0) → (pI T_221 1104 x = 0) → (pI T_221 801 q_124 = 0) → (pI T_221 1000 q_48 = 0) → (pI T_221 800 q_124 = 0) → (pI T_221 806 q_124 = 0) → (pR T_221 1100 x = some q_1) → (At T_221 q_1 36) → (pN T_221 q_1 = 600) → (pR T_221 1101 x = some q_16) → (At T_221 q_16 54) → (pN T_221 q_16 = 10) → (pR T_221 1103 x = some q_32) → (At T_221 q_32 18) → (pN T_221 q_32 = 4) → (pR T_221 1105 x = some q_48) → (At T_221 q_48 10) → (pR T_221 1106 x = some q_75) → (At T_221 q_75 6) → (pR T_221 1107 x = some q_124) → (At T_221 q_124 8) → (pR T_221 1108 x = some q_159) → (At T_221 q_159 1) → (pR T_221 1109 x = some q_185) → (At T_221 q_185 17) → (pN T_221 q_185 = 16) → (pR T_221 1111 x = some q_201) → (At T_221 q_201 194) → (pN T_221 q_201 = 60) → (pR T_221 601 q_75 = some q_94) → (At T_221 q_94 134) → (pN T_221 q_94 = 12) → (pR T_221 602 q_75 = some q_98) → (At T_221 q_98 134) → (pN T_221 q_98 = 12) → (pR T_221 604 q_75 = some q_102) → (At T_221 q_102 134) → (pN T_221 q_102 = 48) → (pR T_221 605 q_75 = some q_106) → (At T_221 q_106 134) → (pN T_221 q_106 = 48) → (pR T_221 606 q_75 = some q_110) → (At T_221 q_110 134) → (pN T_221 q_110 = 48) → (pR T_221 807 q_124 = some q_145) → (At T_221 q_145 154) → (pN T_221 q_145 = 4) → (cc_755 = 26 + 2 * (i1_220_z).toNat) → (nn_756 = 1520 + 13 * (i1_220_z).toNat) → (lv_has ls 2 [(1, .int (i1_220)), (0, .ref x)]) → W p l e ({ frames := 4, cells := 58, slots := 1728, locals := 192 }) s m [.ref x].toArray below meth c H locs cc_755 nn_756 QQ (F0 m 93 ls []) := by
    intro n
    induction n using Nat.strongRecOn with
    | ind n ih =>
    intro T_221 H locs ls i1_220 i1_220_z cc_755 nn_756 hn hw hz_i1_220 hr_i1_220 ha_x_L_222 hK_T_221 hg_T_221 hpc_T_221 hps_T_221 iv_223 iv_224 ik_275 ik_298 ik_309 ik_332 ik_341 ik_350 ik_371 ik_372 ik_413 ik_432 ik_433 ik_470 ik_487 ik_488 ik_521 ik_522 ik_523 ik_534 ik_535 ik_536 ik_537 ik_542 ik_543 ik_544 ik_545 ik_550 ik_551 ik_552 ik_554 ik_571 ik_572 ik_593 ik_605 ik_606 ik_627 ik_639 ik_640 ik_661 ik_673 ik_674 ik_695 ik_707 ik_708 ik_729 ik_738 ik_739 ik_754 hcc_757 hnn_758 hl
    have rg_759 : (-2147483648) ≤ i1_220_z ∧ i1_220_z ≤ 2147483647 := by rw [← hz_i1_220]; exact ⟨z_lo _, z_hi _⟩
    refine lv_iload_n X.1 X.2.1 dX11_init_93 rfl (lv_at hl 0 rfl) ?_
    refine lv_bipush (v := 16) X.1 X.2.1 dX11_init_94 (by decide) ?_
    refine lv_icmp_ge (tgt := 118) X.1 X.2.1 dX11_init_96 (by decide) (fun c_760 => ?_) (fun c_760 => ?_)
    · have z_b_761 := trivial
      have k_762 : i1_220_z ≥ 16 := z_le ti_16 hz_i1_220 c_760
      have nd_763 := nodup_of hw
      obtain ⟨S_764, eS_764⟩ : ∃ T, T = sK T_221 x 11 := ⟨_, rfl⟩
      have hw := Wd_sK (k := 11) hw ha_x_L_222 rfl; rw [← eS_764] at hw
      have hg9 : GX S_764 := by rw [eS_764]; exact GX_sK hg_T_221 ha_x_L_222 (by decide +kernel) (mk_11 ⟨q_1, (by rw [pR_sK]; exact ik_371), At_sK ha_x_L_222 ik_372 (by decide), by rw [pN_sK]; exact ik_413⟩ ⟨q_16, (by rw [pR_sK]; exact ik_432), At_sK ha_x_L_222 ik_433 (by decide), by rw [pN_sK]; exact ik_470⟩ (by rw [pI_sK, ik_275]; exact ⟨by rw [ti_0]; omega, by rw [ti_0]; omega⟩) ⟨q_32, (by rw [pR_sK]; exact ik_487), At_sK ha_x_L_222 ik_488 (by decide), by rw [pN_sK]; exact ik_521⟩ (by rw [pI_sK, ik_298]; exact ⟨by rw [ti_0]; omega, by rw [ti_0]; omega⟩) ⟨q_48, (by rw [pR_sK]; exact ik_522), At_sK ha_x_L_222 ik_523 (by decide)⟩ ⟨q_75, (by rw [pR_sK]; exact ik_534), At_sK ha_x_L_222 ik_535 (by decide)⟩ ⟨q_124, (by rw [pR_sK]; exact ik_536), At_sK ha_x_L_222 ik_537 (by decide)⟩ ⟨q_159, (by rw [pR_sK]; exact ik_542), At_sK ha_x_L_222 ik_543 (by decide)⟩ ⟨q_185, (by rw [pR_sK]; exact ik_544), At_sK ha_x_L_222 ik_545 (by decide), by rw [pN_sK]; exact ik_550⟩ ⟨q_201, (by rw [pR_sK]; exact ik_551), At_sK ha_x_L_222 ik_552 (by decide), by rw [pN_sK]; exact ik_554⟩)
      have ha9 : At S_764 x 11 := by rw [eS_764]; exact At_nK ha_x_L_222
      have hk9 : Kq S S_764 x := hK_T_221.sK eS_764
      have hPhc9 : Phc S_764 = Phc S + 57920 := by rw [show Phc S_764 = Ph fC 8 14400 S_764 from rfl, Ph_sK nd_763 ha_x_L_222 (by decide) eS_764, ph_11 ha9 (show pI S_764 1104 x = 0 by rw [eS_764, pI_sK]; exact ik_298)]; show Phc T_221 + _ = _; omega
      have hPhs9 : Phs S_764 = Phs S + 788000 := by rw [show Phs S_764 = Ph fS 15100 46000 S_764 from rfl, Ph_sK nd_763 ha_x_L_222 (by decide) eS_764, ph_11 ha9 (show pI S_764 1104 x = 0 by rw [eS_764, pI_sK]; exact ik_298)]; show Phs T_221 + _ = _; omega
      rw [hQQ]
      exact ret_v X hw hr hlocks (by show cc_755 ≤ 58; omega) (by show nn_756 ≤ 1728; omega) ⟨hk9, hg9, ha9, hPhc9, hPhs9, ⟨q_124, by rw [eS_764, pR_sK]; exact ik_536, by rw [eS_764]; exact At_sK ha_x_L_222 ik_537 (by decide), by rw [eS_764, pI_sK]; exact ik_309, by rw [eS_764, pI_sK]; exact ik_275, by rw [eS_764, pI_sK]; exact ik_298, q_48, by rw [eS_764, pR_sK]; exact ik_522, by rw [eS_764]; exact At_sK ha_x_L_222 ik_523 (by decide), by rw [eS_764, pI_sK]; exact ik_332, q_185, by rw [eS_764, pR_sK]; exact ik_544, by rw [eS_764, show (16 : Int) = i1_220_z by omega]; exact ShI_sK ha_x_L_222 (by decide) iv_223, ⟨(by rw [eS_764, pI_sK]; exact ik_341), (by rw [eS_764, pI_sK]; exact ik_350), (by rw [eS_764, mA_eq (show pR (sK T_221 x 11) 807 q_124 = some q_145 from (by rw [pR_sK]; exact ik_738)), show pA (sK T_221 x 11) q_145 = pA T_221 q_145 from rfl]; exact iv_224)⟩, q_75, by rw [eS_764, pR_sK]; exact ik_534, ⟨q_94, q_98, q_102, q_106, q_110, ⟨by rw [eS_764, pR_sK]; exact ik_571, by rw [eS_764, pR_sK]; exact ik_605, by rw [eS_764, pR_sK]; exact ik_639, by rw [eS_764, pR_sK]; exact ik_673, by rw [eS_764, pR_sK]; exact ik_707⟩, rd_114⟩⟩⟩ dX11_init_118
    · have z_b_765 := trivial
      have k_766 : i1_220_z < 16 := z_nle ti_16 hz_i1_220 c_760
      refine lv_aload_n X.1 X.2.1 dX11_init_99 rfl (lv_at hl 1 rfl) ?_
      refine r_getR (g := 1109) X hw ha_x_L_222 rfl 9 ik_544 (by decide) rfl inn_X11_init_11 (by decide) (X.2.2.2.1 (.fieldLink RX11 55 "SilkMill" "shelf" "[LSilkMill$Place;") (by decide +kernel)) rfl (gv_1109 _ _) dX11_init_100 ?_
      refine lv_iload_n X.1 X.2.1 dX11_init_103 rfl (lv_at hl 0 rfl) ?_
      refine r_new X hw 183 3 (nn_756 + 5) (cc_755 + 1) rfl tyX3 (by decide) rfl inn_X11_init_3 tyX3_ok (X.2.2.2.1 (.classLink RX11 53 RX3) (by decide +kernel)) (X.2.2.2.1 (.instantiable RX3 5) (by decide +kernel)) (X.2.2.2.1 (.initialized RX3) (by decide +kernel)) (zo_3 _) zd_3 (by show cc_755 + 1 ≤ (cc_755 + 1); omega) (by show nn_756 + 5 ≤ (nn_756 + 5); omega) (by show (cc_755 + 1) ≤ 58; omega) (by show (nn_756 + 5) ≤ 1728; omega) dX11_init_104 (fun q_767 H hq_767 hw => ?_)
      obtain ⟨S_768, eS_768⟩ : ∃ T, T = sO T_221 q_767 183 := ⟨_, rfl⟩
      rw [← eS_768] at hw
      have ph_769 : Phc S_768 = Phc S + 320 := (show Phc S_768 = Phc T_221 from Ph_sO hg_T_221 hq_767 eS_768 (by decide)).trans hpc_T_221
      have ph_770 : Phs S_768 = Phs S + 604000 := (show Phs S_768 = Phs T_221 from Ph_sO hg_T_221 hq_767 eS_768 (by decide)).trans hps_T_221
      clear hpc_T_221
      clear hps_T_221
      have hK_771 : Kq S S_768 x := hK_T_221.sO hq_767 eS_768
      have hg_772 : GX S_768 := by rw [eS_768]; exact GX_O hg_T_221 hq_767 (by decide +kernel)
      have hn0_q_767 := hK_T_221.new hq_767
      have ha_773 : At S_768 q_767 183 := by rw [eS_768]; exact At_nO _ _ _
      have hzI_q_767 : ∀ g, pI S_768 g q_767 = 0 := fun g => by rw [eS_768]; exact pI_sO_new
      have hzR_q_767 : ∀ g, pR S_768 g q_767 = none := fun g => by rw [eS_768]; exact if_pos rfl
      refine lv_dup X.1 X.2.1 dX11_init_107 rfl ?_
      refine k_v (rm := { frames := 2, cells := 1, slots := 8, locals := 96 }) (av := [.ref q_767]) X hw (va_runIN (As := []) (rest := [.ref q_767, .int (i1_220), .ref q_185]) (cfix X) (k_X3_init3 l G cy κ S_768 _ q_767 hg_772 ha_773 hzI_q_767 hzR_q_767) ⟨(va_cnB (host := RX11) 0 X.2.2.2.1 gX11_init_X3_init_n62 rfl rfl rfl (X.2.2.2.2.2.2.2.1.2.1 (RX11, 62, yX3_init) (by decide +kernel)) (X.2.2.2.1 (.initialized RX3) (by decide +kernel)) (by decide +kernel) ⟨Nat.le_of_ble_eq_true rfl, Nat.le_of_ble_eq_true rfl⟩), rfl, (X.2.2.2.1 (.instanceMethod yX3_init) (by decide +kernel))⟩ (pre_S X hw _) rfl rfl hl.1 rfl (lv_room (Nat.le_of_ble_eq_true rfl)) dX11_init_108 ⟨(by show (cc_755 + 1) + 1 ≤ 58; omega), (by show (nn_756 + 5) + 8 ≤ 1728; omega)⟩) ((cc_755 + 1) + 1) ((nn_756 + 5) + 8) (by show (cc_755 + 1) + 1 ≤ ((cc_755 + 1) + 1); omega) (by show (nn_756 + 5) + 8 ≤ ((nn_756 + 5) + 8); omega) (fun S_775 H locs hp hw hfr hnw => ?_)
      obtain ⟨hK_776, hg_777, ha_778, ph_779, ph_780, kx_781, kx_782, kx_783, kx_784, kx_785⟩ := hp
      have hK_786 : Kq S S_775 x := hK_771.sub hn0_q_767 hK_776
      have ph_787 : Phc S_775 = Phc S + 320 := by omega
      have ph_788 : Phs S_775 = Phs S + 604000 := by omega
      clear ph_769
      clear ph_770
      clear ph_779
      clear ph_780
      have t_789 : At S_768 q_185 17 := by rw [eS_768]; exact At_sO ik_545 hq_767
      have t_790 : At S_775 q_185 17 := hK_776.at ha_773 t_789 (by decide)
      have t_791 : pN S_768 q_185 = 16 := by rw [eS_768, pN_sO]; exact ik_550
      have t_793 : At S_768 q_185 17 := by rw [eS_768]; exact At_sO ik_545 hq_767
      have t_792 : pN S_775 q_185 = 16 := ((hK_776 q_185 t_793.1).2 (At_ne t_793 ha_773 (by decide))).2.2.2.1.trans t_791
      clear t_791
      refine r_aast X hw t_790 rfl ha_778 rfl (by decide) (by decide) rfl rfl (by rw [t_792]; exact z_ix hz_i1_220 (by omega) (by omega)) dX11_init_111 (fun H locs hw => ?_)
      obtain ⟨S_794, eS_794⟩ : ∃ T, T = sB S_775 q_185 (va_up (pB S_775 q_185) (Int32.toNatClampNeg (i1_220)) (some q_767)) := ⟨_, rfl⟩
      rw [← eS_794] at hw
      have ph_795 : Phc S_794 = Phc S + 320 := (show Phc S_794 = Phc S_775 from Ph_sB eS_794).trans ph_787
      have ph_796 : Phs S_794 = Phs S + 604000 := (show Phs S_794 = Phs S_775 from Ph_sB eS_794).trans ph_788
      clear ph_787
      clear ph_788
      have hK_797 : Kq S S_794 x := hK_786.sB hn0_q_185 eS_794
      have hg_798 : GX S_794 := by rw [eS_794]; exact uB_17 hg_777 t_790 (fun q hq => by cases hq; exact ha_778)
      have zn_800 := z_nat (x := i1_220) hz_i1_220 (by omega)
      have sh_799 : ShI S_794 q_185 (i1_220_z + 1) := ShI_step iv_223 hq_767 eS_768 hK_776 eS_794 ik_545.1 (by omega) ha_778 kx_781 kx_783 kx_784 kx_785
      obtain ⟨x_801, ex_801⟩ : ∃ y : Int32, y = i1_220 + 1 := ⟨_, rfl⟩
      have z_802 : x_801.toInt = i1_220_z + 1 := z_add ex_801 hz_i1_220 ti_1 (by omega) (by omega)
      refine lv_iinc (v := x_801) (lv' := [(1, .int (x_801)), (0, .ref x)]) X.1 X.2.1 dX11_init_112 hl (k := 0) rfl (by rw [ex_801]; rfl) (by decide) rfl (fun ls hl => ?_)
      refine lv_goto (tgt := 93) X.1 X.2.1 dX11_init_115 (by decide) ?_
      have t_803 : At S_768 x 191 := by rw [eS_768]; exact At_sO ha_x_L_222 hq_767
      have t_804 : At S_775 x 191 := hK_776.at ha_773 t_803 (by decide)
      have t_805 : At S_794 x 191 := tAt_sB eS_794 t_804
      have bb_806 : pA S_768 q_145 = pA T_221 q_145 := by rw [eS_768]; rfl
      have t_808 : At S_768 q_145 154 := by rw [eS_768]; exact At_sO ik_739 hq_767
      have bb_807 : pA S_775 q_145 = pA T_221 q_145 := (show pA S_775 q_145 = pA S_768 q_145 from ((hK_776 q_145 t_808.1).2 (At_ne t_808 ha_773 (by decide))).2.2.2.2.1).trans bb_806
      have bb_809 : pA S_794 q_145 = pA T_221 q_145 := (show pA S_794 q_145 = pA S_775 q_145 from by rw [eS_794]; rfl).trans bb_807
      have t_810 : pI S_768 1102 x = 0 := by rw [eS_768]; exact (pI_sO_ne (ne_of_new hq_767 ha_x_L_222.1)).trans ik_275
      have t_812 : At S_768 x 191 := by rw [eS_768]; exact At_sO ha_x_L_222 hq_767
      have t_811 : pI S_775 1102 x = 0 := (((hK_776 x t_812.1).2 (At_ne t_812 ha_773 (by decide))).2.1 1102).trans t_810
      have t_813 : pI S_794 1102 x = 0 := tI_sB eS_794 t_811
      have t_814 : pI S_768 1104 x = 0 := by rw [eS_768]; exact (pI_sO_ne (ne_of_new hq_767 ha_x_L_222.1)).trans ik_298
      have t_815 : pI S_775 1104 x = 0 := (((hK_776 x t_812.1).2 (At_ne t_812 ha_773 (by decide))).2.1 1104).trans t_814
      have t_816 : pI S_794 1104 x = 0 := tI_sB eS_794 t_815
      have t_817 : pI S_768 801 q_124 = 0 := by rw [eS_768]; exact (pI_sO_ne (ne_of_new hq_767 ik_537.1)).trans ik_309
      have t_819 : At S_768 q_124 8 := by rw [eS_768]; exact At_sO ik_537 hq_767
      have t_818 : pI S_775 801 q_124 = 0 := (((hK_776 q_124 t_819.1).2 (At_ne t_819 ha_773 (by decide))).2.1 801).trans t_817
      have t_820 : pI S_794 801 q_124 = 0 := tI_sB eS_794 t_818
      have t_821 : pI S_768 1000 q_48 = 0 := by rw [eS_768]; exact (pI_sO_ne (ne_of_new hq_767 ik_523.1)).trans ik_332
      have t_823 : At S_768 q_48 10 := by rw [eS_768]; exact At_sO ik_523 hq_767
      have t_822 : pI S_775 1000 q_48 = 0 := (((hK_776 q_48 t_823.1).2 (At_ne t_823 ha_773 (by decide))).2.1 1000).trans t_821
      have t_824 : pI S_794 1000 q_48 = 0 := tI_sB eS_794 t_822
      have t_825 : pI S_768 800 q_124 = 0 := by rw [eS_768]; exact (pI_sO_ne (ne_of_new hq_767 ik_537.1)).trans ik_341
      have t_826 : pI S_775 800 q_124 = 0 := (((hK_776 q_124 t_819.1).2 (At_ne t_819 ha_773 (by decide))).2.1 800).trans t_825
      have t_827 : pI S_794 800 q_124 = 0 := tI_sB eS_794 t_826
      have t_828 : pI S_768 806 q_124 = 0 := by rw [eS_768]; exact (pI_sO_ne (ne_of_new hq_767 ik_537.1)).trans ik_350
      have t_829 : pI S_775 806 q_124 = 0 := (((hK_776 q_124 t_819.1).2 (At_ne t_819 ha_773 (by decide))).2.1 806).trans t_828
      have t_830 : pI S_794 806 q_124 = 0 := tI_sB eS_794 t_829
      have t_831 : pR S_768 1100 x = some q_1 := by rw [eS_768]; exact (pR_sO_ne (ne_of_new hq_767 ha_x_L_222.1)).trans ik_371
      have t_832 : pR S_775 1100 x = some q_1 := (((hK_776 x t_812.1).2 (At_ne t_812 ha_773 (by decide))).2.2.1 1100).trans t_831
      have t_833 : pR S_794 1100 x = some q_1 := tR_sB eS_794 t_832
      have t_834 : At S_768 q_1 36 := by rw [eS_768]; exact At_sO ik_372 hq_767
      have t_835 : At S_775 q_1 36 := hK_776.at ha_773 t_834 (by decide)
      have t_836 : At S_794 q_1 36 := tAt_sB eS_794 t_835
      have t_837 : pN S_768 q_1 = 600 := by rw [eS_768, pN_sO]; exact ik_413
      have t_839 : At S_768 q_1 36 := by rw [eS_768]; exact At_sO ik_372 hq_767
      have t_838 : pN S_775 q_1 = 600 := ((hK_776 q_1 t_839.1).2 (At_ne t_839 ha_773 (by decide))).2.2.2.1.trans t_837
      clear t_837
      have t_840 : pN S_794 q_1 = 600 := tN_sB eS_794 t_838
      clear t_838
      have t_841 : pR S_768 1101 x = some q_16 := by rw [eS_768]; exact (pR_sO_ne (ne_of_new hq_767 ha_x_L_222.1)).trans ik_432
      have t_842 : pR S_775 1101 x = some q_16 := (((hK_776 x t_812.1).2 (At_ne t_812 ha_773 (by decide))).2.2.1 1101).trans t_841
      have t_843 : pR S_794 1101 x = some q_16 := tR_sB eS_794 t_842
      have t_844 : At S_768 q_16 54 := by rw [eS_768]; exact At_sO ik_433 hq_767
      have t_845 : At S_775 q_16 54 := hK_776.at ha_773 t_844 (by decide)
      have t_846 : At S_794 q_16 54 := tAt_sB eS_794 t_845
      have t_847 : pN S_768 q_16 = 10 := by rw [eS_768, pN_sO]; exact ik_470
      have t_849 : At S_768 q_16 54 := by rw [eS_768]; exact At_sO ik_433 hq_767
      have t_848 : pN S_775 q_16 = 10 := ((hK_776 q_16 t_849.1).2 (At_ne t_849 ha_773 (by decide))).2.2.2.1.trans t_847
      clear t_847
      have t_850 : pN S_794 q_16 = 10 := tN_sB eS_794 t_848
      clear t_848
      have t_851 : pR S_768 1103 x = some q_32 := by rw [eS_768]; exact (pR_sO_ne (ne_of_new hq_767 ha_x_L_222.1)).trans ik_487
      have t_852 : pR S_775 1103 x = some q_32 := (((hK_776 x t_812.1).2 (At_ne t_812 ha_773 (by decide))).2.2.1 1103).trans t_851
      have t_853 : pR S_794 1103 x = some q_32 := tR_sB eS_794 t_852
      have t_854 : At S_768 q_32 18 := by rw [eS_768]; exact At_sO ik_488 hq_767
      have t_855 : At S_775 q_32 18 := hK_776.at ha_773 t_854 (by decide)
      have t_856 : At S_794 q_32 18 := tAt_sB eS_794 t_855
      have t_857 : pN S_768 q_32 = 4 := by rw [eS_768, pN_sO]; exact ik_521
      have t_859 : At S_768 q_32 18 := by rw [eS_768]; exact At_sO ik_488 hq_767
      have t_858 : pN S_775 q_32 = 4 := ((hK_776 q_32 t_859.1).2 (At_ne t_859 ha_773 (by decide))).2.2.2.1.trans t_857
      clear t_857
      have t_860 : pN S_794 q_32 = 4 := tN_sB eS_794 t_858
      clear t_858
      have t_861 : pR S_768 1105 x = some q_48 := by rw [eS_768]; exact (pR_sO_ne (ne_of_new hq_767 ha_x_L_222.1)).trans ik_522
      have t_862 : pR S_775 1105 x = some q_48 := (((hK_776 x t_812.1).2 (At_ne t_812 ha_773 (by decide))).2.2.1 1105).trans t_861
      have t_863 : pR S_794 1105 x = some q_48 := tR_sB eS_794 t_862
      have t_864 : At S_775 q_48 10 := hK_776.at ha_773 t_823 (by decide)
      have t_865 : At S_794 q_48 10 := tAt_sB eS_794 t_864
      have t_866 : pR S_768 1106 x = some q_75 := by rw [eS_768]; exact (pR_sO_ne (ne_of_new hq_767 ha_x_L_222.1)).trans ik_534
      have t_867 : pR S_775 1106 x = some q_75 := (((hK_776 x t_812.1).2 (At_ne t_812 ha_773 (by decide))).2.2.1 1106).trans t_866
      have t_868 : pR S_794 1106 x = some q_75 := tR_sB eS_794 t_867
      have t_869 : At S_768 q_75 6 := by rw [eS_768]; exact At_sO ik_535 hq_767
      have t_870 : At S_775 q_75 6 := hK_776.at ha_773 t_869 (by decide)
      have t_871 : At S_794 q_75 6 := tAt_sB eS_794 t_870
      have t_872 : pR S_768 1107 x = some q_124 := by rw [eS_768]; exact (pR_sO_ne (ne_of_new hq_767 ha_x_L_222.1)).trans ik_536
      have t_873 : pR S_775 1107 x = some q_124 := (((hK_776 x t_812.1).2 (At_ne t_812 ha_773 (by decide))).2.2.1 1107).trans t_872
      have t_874 : pR S_794 1107 x = some q_124 := tR_sB eS_794 t_873
      have t_875 : At S_775 q_124 8 := hK_776.at ha_773 t_819 (by decide)
      have t_876 : At S_794 q_124 8 := tAt_sB eS_794 t_875
      have t_877 : pR S_768 1108 x = some q_159 := by rw [eS_768]; exact (pR_sO_ne (ne_of_new hq_767 ha_x_L_222.1)).trans ik_542
      have t_878 : pR S_775 1108 x = some q_159 := (((hK_776 x t_812.1).2 (At_ne t_812 ha_773 (by decide))).2.2.1 1108).trans t_877
      have t_879 : pR S_794 1108 x = some q_159 := tR_sB eS_794 t_878
      have t_880 : At S_768 q_159 1 := by rw [eS_768]; exact At_sO ik_543 hq_767
      have t_881 : At S_775 q_159 1 := hK_776.at ha_773 t_880 (by decide)
      have t_882 : At S_794 q_159 1 := tAt_sB eS_794 t_881
      have t_883 : pR S_768 1109 x = some q_185 := by rw [eS_768]; exact (pR_sO_ne (ne_of_new hq_767 ha_x_L_222.1)).trans ik_544
      have t_884 : pR S_775 1109 x = some q_185 := (((hK_776 x t_812.1).2 (At_ne t_812 ha_773 (by decide))).2.2.1 1109).trans t_883
      have t_885 : pR S_794 1109 x = some q_185 := tR_sB eS_794 t_884
      have t_886 : At S_794 q_185 17 := tAt_sB eS_794 t_790
      have t_887 : pN S_794 q_185 = 16 := tN_sB eS_794 t_792
      clear t_792
      have t_888 : pR S_768 1111 x = some q_201 := by rw [eS_768]; exact (pR_sO_ne (ne_of_new hq_767 ha_x_L_222.1)).trans ik_551
      have t_889 : pR S_775 1111 x = some q_201 := (((hK_776 x t_812.1).2 (At_ne t_812 ha_773 (by decide))).2.2.1 1111).trans t_888
      have t_890 : pR S_794 1111 x = some q_201 := tR_sB eS_794 t_889
      have t_891 : At S_768 q_201 194 := by rw [eS_768]; exact At_sO ik_552 hq_767
      have t_892 : At S_775 q_201 194 := hK_776.at ha_773 t_891 (by decide)
      have t_893 : At S_794 q_201 194 := tAt_sB eS_794 t_892
      have t_894 : pN S_768 q_201 = 60 := by rw [eS_768, pN_sO]; exact ik_554
      have t_896 : At S_768 q_201 194 := by rw [eS_768]; exact At_sO ik_552 hq_767
      have t_895 : pN S_775 q_201 = 60 := ((hK_776 q_201 t_896.1).2 (At_ne t_896 ha_773 (by decide))).2.2.2.1.trans t_894
      clear t_894
      have t_897 : pN S_794 q_201 = 60 := tN_sB eS_794 t_895
      clear t_895
      have t_898 : pR S_768 601 q_75 = some q_94 := by rw [eS_768]; exact (pR_sO_ne (ne_of_new hq_767 ik_535.1)).trans ik_571
      have t_900 : At S_768 q_75 6 := by rw [eS_768]; exact At_sO ik_535 hq_767
      have t_899 : pR S_775 601 q_75 = some q_94 := (((hK_776 q_75 t_900.1).2 (At_ne t_900 ha_773 (by decide))).2.2.1 601).trans t_898
      have t_901 : pR S_794 601 q_75 = some q_94 := tR_sB eS_794 t_899
      have t_902 : At S_768 q_94 134 := by rw [eS_768]; exact At_sO ik_572 hq_767
      have t_903 : At S_775 q_94 134 := hK_776.at ha_773 t_902 (by decide)
      have t_904 : At S_794 q_94 134 := tAt_sB eS_794 t_903
      have t_905 : pN S_768 q_94 = 12 := by rw [eS_768, pN_sO]; exact ik_593
      have t_907 : At S_768 q_94 134 := by rw [eS_768]; exact At_sO ik_572 hq_767
      have t_906 : pN S_775 q_94 = 12 := ((hK_776 q_94 t_907.1).2 (At_ne t_907 ha_773 (by decide))).2.2.2.1.trans t_905
      clear t_905
      have t_908 : pN S_794 q_94 = 12 := tN_sB eS_794 t_906
      clear t_906
      have t_909 : pR S_768 602 q_75 = some q_98 := by rw [eS_768]; exact (pR_sO_ne (ne_of_new hq_767 ik_535.1)).trans ik_605
      have t_910 : pR S_775 602 q_75 = some q_98 := (((hK_776 q_75 t_900.1).2 (At_ne t_900 ha_773 (by decide))).2.2.1 602).trans t_909
      have t_911 : pR S_794 602 q_75 = some q_98 := tR_sB eS_794 t_910
      have t_912 : At S_768 q_98 134 := by rw [eS_768]; exact At_sO ik_606 hq_767
      have t_913 : At S_775 q_98 134 := hK_776.at ha_773 t_912 (by decide)
      have t_914 : At S_794 q_98 134 := tAt_sB eS_794 t_913
      have t_915 : pN S_768 q_98 = 12 := by rw [eS_768, pN_sO]; exact ik_627
      have t_917 : At S_768 q_98 134 := by rw [eS_768]; exact At_sO ik_606 hq_767
      have t_916 : pN S_775 q_98 = 12 := ((hK_776 q_98 t_917.1).2 (At_ne t_917 ha_773 (by decide))).2.2.2.1.trans t_915
      clear t_915
      have t_918 : pN S_794 q_98 = 12 := tN_sB eS_794 t_916
      clear t_916
      have t_919 : pR S_768 604 q_75 = some q_102 := by rw [eS_768]; exact (pR_sO_ne (ne_of_new hq_767 ik_535.1)).trans ik_639
      have t_920 : pR S_775 604 q_75 = some q_102 := (((hK_776 q_75 t_900.1).2 (At_ne t_900 ha_773 (by decide))).2.2.1 604).trans t_919
      have t_921 : pR S_794 604 q_75 = some q_102 := tR_sB eS_794 t_920
      have t_922 : At S_768 q_102 134 := by rw [eS_768]; exact At_sO ik_640 hq_767
      have t_923 : At S_775 q_102 134 := hK_776.at ha_773 t_922 (by decide)
      have t_924 : At S_794 q_102 134 := tAt_sB eS_794 t_923
      have t_925 : pN S_768 q_102 = 48 := by rw [eS_768, pN_sO]; exact ik_661
      have t_927 : At S_768 q_102 134 := by rw [eS_768]; exact At_sO ik_640 hq_767
      have t_926 : pN S_775 q_102 = 48 := ((hK_776 q_102 t_927.1).2 (At_ne t_927 ha_773 (by decide))).2.2.2.1.trans t_925
      clear t_925
      have t_928 : pN S_794 q_102 = 48 := tN_sB eS_794 t_926
      clear t_926
      have t_929 : pR S_768 605 q_75 = some q_106 := by rw [eS_768]; exact (pR_sO_ne (ne_of_new hq_767 ik_535.1)).trans ik_673
      have t_930 : pR S_775 605 q_75 = some q_106 := (((hK_776 q_75 t_900.1).2 (At_ne t_900 ha_773 (by decide))).2.2.1 605).trans t_929
      have t_931 : pR S_794 605 q_75 = some q_106 := tR_sB eS_794 t_930
      have t_932 : At S_768 q_106 134 := by rw [eS_768]; exact At_sO ik_674 hq_767
      have t_933 : At S_775 q_106 134 := hK_776.at ha_773 t_932 (by decide)
      have t_934 : At S_794 q_106 134 := tAt_sB eS_794 t_933
      have t_935 : pN S_768 q_106 = 48 := by rw [eS_768, pN_sO]; exact ik_695
      have t_937 : At S_768 q_106 134 := by rw [eS_768]; exact At_sO ik_674 hq_767
      have t_936 : pN S_775 q_106 = 48 := ((hK_776 q_106 t_937.1).2 (At_ne t_937 ha_773 (by decide))).2.2.2.1.trans t_935
      clear t_935
      have t_938 : pN S_794 q_106 = 48 := tN_sB eS_794 t_936
      clear t_936
      have t_939 : pR S_768 606 q_75 = some q_110 := by rw [eS_768]; exact (pR_sO_ne (ne_of_new hq_767 ik_535.1)).trans ik_707
      have t_940 : pR S_775 606 q_75 = some q_110 := (((hK_776 q_75 t_900.1).2 (At_ne t_900 ha_773 (by decide))).2.2.1 606).trans t_939
      have t_941 : pR S_794 606 q_75 = some q_110 := tR_sB eS_794 t_940
      have t_942 : At S_768 q_110 134 := by rw [eS_768]; exact At_sO ik_708 hq_767
      have t_943 : At S_775 q_110 134 := hK_776.at ha_773 t_942 (by decide)
      have t_944 : At S_794 q_110 134 := tAt_sB eS_794 t_943
      have t_945 : pN S_768 q_110 = 48 := by rw [eS_768, pN_sO]; exact ik_729
      have t_947 : At S_768 q_110 134 := by rw [eS_768]; exact At_sO ik_708 hq_767
      have t_946 : pN S_775 q_110 = 48 := ((hK_776 q_110 t_947.1).2 (At_ne t_947 ha_773 (by decide))).2.2.2.1.trans t_945
      clear t_945
      have t_948 : pN S_794 q_110 = 48 := tN_sB eS_794 t_946
      clear t_946
      have t_949 : pR S_768 807 q_124 = some q_145 := by rw [eS_768]; exact (pR_sO_ne (ne_of_new hq_767 ik_537.1)).trans ik_738
      have t_950 : pR S_775 807 q_124 = some q_145 := (((hK_776 q_124 t_819.1).2 (At_ne t_819 ha_773 (by decide))).2.2.1 807).trans t_949
      have t_951 : pR S_794 807 q_124 = some q_145 := tR_sB eS_794 t_950
      have t_952 : At S_775 q_145 154 := hK_776.at ha_773 t_808 (by decide)
      have t_953 : At S_794 q_145 154 := tAt_sB eS_794 t_952
      have t_954 : pN S_768 q_145 = 4 := by rw [eS_768, pN_sO]; exact ik_754
      have t_955 : pN S_775 q_145 = 4 := ((hK_776 q_145 t_808.1).2 (At_ne t_808 ha_773 (by decide))).2.2.2.1.trans t_954
      clear t_954
      have t_956 : pN S_794 q_145 = 4 := tN_sB eS_794 t_955
      clear t_955
      exact ih _ (by omega) _ _ _ _ (x_801) (x_801.toInt) (((cc_755 + 1) + 1)) (((nn_756 + 5) + 8)) rfl hw rfl (by omega) t_805 hK_797 hg_798 ph_795 ph_796 (by rw [show x_801.toInt = i1_220_z + 1 by omega]; exact sh_799) (bb_809.trans iv_224) t_813 t_816 t_820 t_824 t_827 t_830 t_833 t_836 t_840 t_843 t_846 t_850 t_853 t_856 t_860 t_863 t_865 t_868 t_871 t_874 t_876 t_879 t_882 t_885 t_886 t_887 t_890 t_893 t_897 t_901 t_904 t_908 t_911 t_914 t_918 t_921 t_924 t_928 t_931 t_934 t_938 t_941 t_944 t_948 t_951 t_953 t_956 (by omega) (by omega) (lv_sub hl [0, 1] rfl)
  have t_957 : At S_211 x 191 := tAt_sR eS_211 t_210
  have bb_958 : pA S_153 q_145 = pA S_132 q_145 := by rw [eS_153]; rfl
  have bb_959 : pA S_160 q_145 = pA S_132 q_145 := (show pA S_160 q_145 = pA S_153 q_145 from by rw [eS_160]; rfl).trans bb_958
  have bb_960 : pA S_167 q_145 = pA S_132 q_145 := (show pA S_167 q_145 = pA S_160 q_145 from ((hK_168 q_145 t_744.1).2 (At_ne t_744 ha_165 (by decide))).2.2.2.2.1).trans bb_959
  have bb_961 : pA S_179 q_145 = pA S_132 q_145 := (show pA S_179 q_145 = pA S_167 q_145 from by rw [eS_179]; rfl).trans bb_960
  have bb_962 : pA S_186 q_145 = pA S_132 q_145 := (show pA S_186 q_145 = pA S_179 q_145 from by rw [eS_186]; exact if_neg (ne_of_new hq_185 t_748.1)).trans bb_961
  have bb_963 : pA S_195 q_145 = pA S_132 q_145 := (show pA S_195 q_145 = pA S_186 q_145 from by rw [eS_195]; rfl).trans bb_962
  have bb_964 : pA S_202 q_145 = pA S_132 q_145 := (show pA S_202 q_145 = pA S_195 q_145 from by rw [eS_202]; exact if_neg (ne_of_new hq_201 t_752.1)).trans bb_963
  have bb_965 : pA S_211 q_145 = pA S_132 q_145 := (show pA S_211 q_145 = pA S_202 q_145 from by rw [eS_211]; rfl).trans bb_964
  have t_966 : At S_202 q_1 36 := by rw [eS_202]; exact At_sN t_411 hq_201
  have t_967 : At S_211 q_1 36 := tAt_sR eS_211 t_966
  have t_968 : At S_202 q_16 54 := by rw [eS_202]; exact At_sN t_468 hq_201
  have t_969 : At S_211 q_16 54 := tAt_sR eS_211 t_968
  have t_970 : At S_202 q_32 18 := by rw [eS_202]; exact At_sN t_519 hq_201
  have t_971 : At S_211 q_32 18 := tAt_sR eS_211 t_970
  have t_972 : At S_167 q_48 10 := hK_168.at ha_165 t_326 (by decide)
  have t_973 : At S_179 q_48 10 := tAt_sR eS_179 t_972
  have t_974 : At S_186 q_48 10 := by rw [eS_186]; exact At_sN t_973 hq_185
  have t_975 : At S_195 q_48 10 := tAt_sR eS_195 t_974
  have t_976 : At S_202 q_48 10 := by rw [eS_202]; exact At_sN t_975 hq_201
  have t_977 : At S_211 q_48 10 := tAt_sR eS_211 t_976
  have t_978 : At S_167 q_75 6 := hK_168.at ha_165 t_565 (by decide)
  have t_979 : At S_179 q_75 6 := tAt_sR eS_179 t_978
  have t_980 : At S_186 q_75 6 := by rw [eS_186]; exact At_sN t_979 hq_185
  have t_981 : At S_195 q_75 6 := tAt_sR eS_195 t_980
  have t_982 : At S_202 q_75 6 := by rw [eS_202]; exact At_sN t_981 hq_201
  have t_983 : At S_211 q_75 6 := tAt_sR eS_211 t_982
  have t_984 : At S_167 q_124 8 := hK_168.at ha_165 t_303 (by decide)
  have t_985 : At S_179 q_124 8 := tAt_sR eS_179 t_984
  have t_986 : At S_186 q_124 8 := by rw [eS_186]; exact At_sN t_985 hq_185
  have t_987 : At S_195 q_124 8 := tAt_sR eS_195 t_986
  have t_988 : At S_202 q_124 8 := by rw [eS_202]; exact At_sN t_987 hq_201
  have t_989 : At S_211 q_124 8 := tAt_sR eS_211 t_988
  have t_990 : At S_179 q_159 1 := tAt_sR eS_179 ha_170
  have t_991 : At S_186 q_159 1 := by rw [eS_186]; exact At_sN t_990 hq_185
  have t_992 : At S_195 q_159 1 := tAt_sR eS_195 t_991
  have t_993 : At S_202 q_159 1 := by rw [eS_202]; exact At_sN t_992 hq_201
  have t_994 : At S_211 q_159 1 := tAt_sR eS_211 t_993
  have t_995 : At S_202 q_185 17 := by rw [eS_202]; exact At_sN t_548 hq_201
  have t_996 : At S_211 q_185 17 := tAt_sR eS_211 t_995
  have t_997 : At S_211 q_201 194 := tAt_sR eS_211 ha_207
  have t_998 : At S_202 q_94 134 := by rw [eS_202]; exact At_sN t_591 hq_201
  have t_999 : At S_211 q_94 134 := tAt_sR eS_211 t_998
  have t_1000 : At S_202 q_98 134 := by rw [eS_202]; exact At_sN t_625 hq_201
  have t_1001 : At S_211 q_98 134 := tAt_sR eS_211 t_1000
  have t_1002 : At S_202 q_102 134 := by rw [eS_202]; exact At_sN t_659 hq_201
  have t_1003 : At S_211 q_102 134 := tAt_sR eS_211 t_1002
  have t_1004 : At S_202 q_106 134 := by rw [eS_202]; exact At_sN t_693 hq_201
  have t_1005 : At S_211 q_106 134 := tAt_sR eS_211 t_1004
  have t_1006 : At S_202 q_110 134 := by rw [eS_202]; exact At_sN t_727 hq_201
  have t_1007 : At S_211 q_110 134 := tAt_sR eS_211 t_1006
  have t_1008 : At S_202 q_145 154 := by rw [eS_202]; exact At_sN t_752 hq_201
  have t_1009 : At S_211 q_145 154 := tAt_sR eS_211 t_1008
  exact L_219 _ _ _ _ _ (0) (0) (26) (1520) rfl hw ti_0 (by omega) t_957 hK_214 hg_215 ph_212 ph_213 ShI_0 (bb_965.trans pp_149) t_274 t_297 t_308 t_331 t_340 t_349 t_370 t_967 t_412 t_431 t_969 t_469 t_486 t_971 t_520 t_250 t_977 t_533 t_983 t_233 t_989 t_541 t_994 t_218 t_996 t_549 h_216 t_997 t_553 t_570 t_999 t_592 t_604 t_1001 t_626 t_638 t_1003 t_660 t_672 t_1005 t_694 t_706 t_1007 t_728 t_737 t_1009 t_753 (by omega) (by omega) (lv_sub hl [0, 1] rfl)
