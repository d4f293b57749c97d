def prcF : Nat → Int32 := upd (upd (upd (upd (fun _ => (0 : Int32)) (Int32.toNatClampNeg 0) 100) (Int32.toNatClampNeg 1) 80) (Int32.toNatClampNeg 2) 50) (Int32.toNatClampNeg 3) 20
theorem prc_all : upd (upd (upd (upd (fun _ => (0 : Int32)) (Int32.toNatClampNeg 0) 100) (Int32.toNatClampNeg 1) 80) (Int32.toNatClampNeg 2) 50) (Int32.toNatClampNeg 3) 20 = prcF := rfl

set_option maxHeartbeats 4000000 in
set_option maxRecDepth 100000 in
theorem k_X8_init6 (l : Launch) (G : va_G) (cy : Nat → ClassId) (κ : Nat → Nat) (S : PS) (sz : Nat) (x : Nat) (hG : GX S) (ha_x : At S x 188) (hzI : ∀ g, pI S g x = 0) (hzR : ∀ g, pR S g x = none) : Cv l yX8_init wsX8_init ({ frames := 3, cells := 9, slots := 214, locals := 144 }) G cy κ S sz [.ref x] (fun (S9 : PS) => Kq S S9 x ∧ GX S9 ∧ At S9 x 8 ∧ Phc S9 = Phc S + 320 ∧ Phs S9 = Phs S + 604000 ∧ pI S9 801 x = 0 ∧ pI S9 800 x = 0 ∧ mA S9 x 807 = prcF) := by
  refine ent_m (cc := cX8_init) (maxL := 1) (ret := none) (by decide) rfl (Nat.le_of_ble_eq_true rfl) ?_
  intro p e s m below meth c ls X hr hlocks hin hw hl hsz
  subst hsz
  have X : Cx p c cX8_init 1 s [.ref x].toArray wsX8_init RX8 m G cy κ (AS S s.heap.size) := X
  have hl : lv_has ls 1 [(0, .ref x)] := hl
  have hpc0 : Phc S = Phc S + 0 := rfl
  have hps0 : Phs S = Phs S + 0 := rfl
  have hK : Kq S S x := Kq.rf S _
  refine lv_aload_n X.1 X.2.1 dX8_init_0 rfl (lv_at hl 0 rfl) ?_
  refine W.objInit X.1 X.2.1 X.2.2.2.2.1 (X.2.2.2.1 (.methodLink RX8 3 objectInit) (by decide +kernel)) (X.2.2.2.1 (.instanceMethod objectInit) (by decide +kernel)) (X.2.2.2.1 (.code objectInit ⟨#[0xb1]⟩ 1 none) (by decide +kernel)) rfl (hl.1.trans X.2.2.1.symm) rfl dX8_init_1 (Nat.le_of_ble_eq_true rfl) (Nat.le_of_ble_eq_true rfl) ?_
  refine W.eq (g2 := F0 m 4 ls ([])) rfl ?_
  refine lv_aload_n X.1 X.2.1 dX8_init_4 rfl (lv_at hl 0 rfl) ?_
  refine lv_iconst (v := 4) X.1 X.2.1 dX8_init_5 (by decide) ?_
  refine r_newI (N := 4) X hw 154 4 1 rfl (X.2.2.2.1 (.arrayClass .int) (by decide +kernel)) (z_nn ti_4 (by omega)) (by decide) (by decide) (Nat.le_of_ble_eq_true rfl) (Nat.le_of_ble_eq_true rfl) (Nat.le_of_ble_eq_true rfl) (Nat.le_of_ble_eq_true rfl) dX8_init_6 (fun q_1 H hq_1 hw => ?_)
  obtain ⟨S_2, eS_2⟩ : ∃ T, T = sN S q_1 154 4 := ⟨_, rfl⟩
  rw [← eS_2] at hw
  have ph_3 : Phc S_2 = Phc S + 0 := (show Phc S_2 = Phc S from Ph_sN' hG.ci hq_1 eS_2 (by decide)).trans hpc0
  have ph_4 : Phs S_2 = Phs S + 0 := (show Phs S_2 = Phs S from Ph_sN' hG.ci hq_1 eS_2 (by decide)).trans hps0
  clear hpc0
  clear hps0
  have hK_5 : Kq S S_2 x := hK.sN hq_1 eS_2
  have hg_6 : GX S_2 := by rw [eS_2]; exact GX_N hG hq_1 (by decide +kernel)
  have hn0_q_1 := hK.new hq_1
  have ha_7 : At S_2 q_1 154 := by rw [eS_2]; exact At_nN _ _ _ _
  have hn_8 : pN S_2 q_1 = 4 := by rw [eS_2]; exact pN_sN_new
  refine lv_dup X.1 X.2.1 dX8_init_8 rfl ?_
  refine lv_iconst (v := 0) X.1 X.2.1 dX8_init_9 (by decide) ?_
  refine lv_bipush (v := 100) X.1 X.2.1 dX8_init_10 (by decide) ?_
  refine r_iast X hw ha_7 rfl (by rw [hn_8]; exact z_ix ti_0 (by omega) (by omega)) dX8_init_12 (fun H locs hw => ?_)
  obtain ⟨S_9, eS_9⟩ : ∃ T, T = sA S_2 q_1 (upd (pA S_2 q_1) (Int32.toNatClampNeg (0)) (100)) := ⟨_, rfl⟩
  rw [← eS_9] at hw
  have ph_10 : Phc S_9 = Phc S + 0 := (show Phc S_9 = Phc S_2 from Ph_sA eS_9).trans ph_3
  have ph_11 : Phs S_9 = Phs S + 0 := (show Phs S_9 = Phs S_2 from Ph_sA eS_9).trans ph_4
  clear ph_3
  clear ph_4
  have hK_12 : Kq S S_9 x := hK_5.sA hn0_q_1 eS_9
  have hg_13 : GX S_9 := by rw [eS_9]; exact uA_154 hg_6 ha_7 (by rw [ti_100]; omega) (by rw [ti_100]; omega)
  have h_14 : pA S_9 q_1 (Int32.toNatClampNeg (0)) = 100 := tA_sAs eS_9
  refine lv_dup X.1 X.2.1 dX8_init_13 rfl ?_
  refine lv_iconst (v := 1) X.1 X.2.1 dX8_init_14 (by decide) ?_
  refine lv_bipush (v := 80) X.1 X.2.1 dX8_init_15 (by decide) ?_
  have t_15 : At S_9 q_1 154 := tAt_sA eS_9 ha_7
  have t_16 : pN S_9 q_1 = 4 := tN_sA eS_9 hn_8
  clear hn_8
  refine r_iast X hw t_15 rfl (by rw [t_16]; exact z_ix ti_1 (by omega) (by omega)) dX8_init_17 (fun H locs hw => ?_)
  obtain ⟨S_17, eS_17⟩ : ∃ T, T = sA S_9 q_1 (upd (pA S_9 q_1) (Int32.toNatClampNeg (1)) (80)) := ⟨_, rfl⟩
  rw [← eS_17] at hw
  have ph_18 : Phc S_17 = Phc S + 0 := (show Phc S_17 = Phc S_9 from Ph_sA eS_17).trans ph_10
  have ph_19 : Phs S_17 = Phs S + 0 := (show Phs S_17 = Phs S_9 from Ph_sA eS_17).trans ph_11
  clear ph_10
  clear ph_11
  have hK_20 : Kq S S_17 x := hK_12.sA hn0_q_1 eS_17
  have hg_21 : GX S_17 := by rw [eS_17]; exact uA_154 hg_13 t_15 (by rw [ti_80]; omega) (by rw [ti_80]; omega)
  have h_22 : pA S_17 q_1 (Int32.toNatClampNeg (1)) = 80 := tA_sAs eS_17
  refine lv_dup X.1 X.2.1 dX8_init_18 rfl ?_
  refine lv_iconst (v := 2) X.1 X.2.1 dX8_init_19 (by decide) ?_
  refine lv_bipush (v := 50) X.1 X.2.1 dX8_init_20 (by decide) ?_
  have t_23 : At S_17 q_1 154 := tAt_sA eS_17 t_15
  have t_24 : pN S_17 q_1 = 4 := tN_sA eS_17 t_16
  clear t_16
  refine r_iast X hw t_23 rfl (by rw [t_24]; exact z_ix ti_2 (by omega) (by omega)) dX8_init_22 (fun H locs hw => ?_)
  obtain ⟨S_25, eS_25⟩ : ∃ T, T = sA S_17 q_1 (upd (pA S_17 q_1) (Int32.toNatClampNeg (2)) (50)) := ⟨_, rfl⟩
  rw [← eS_25] at hw
  have ph_26 : Phc S_25 = Phc S + 0 := (show Phc S_25 = Phc S_17 from Ph_sA eS_25).trans ph_18
  have ph_27 : Phs S_25 = Phs S + 0 := (show Phs S_25 = Phs S_17 from Ph_sA eS_25).trans ph_19
  clear ph_18
  clear ph_19
  have hK_28 : Kq S S_25 x := hK_20.sA hn0_q_1 eS_25
  have hg_29 : GX S_25 := by rw [eS_25]; exact uA_154 hg_21 t_23 (by rw [ti_50]; omega) (by rw [ti_50]; omega)
  have h_30 : pA S_25 q_1 (Int32.toNatClampNeg (2)) = 50 := tA_sAs eS_25
  refine lv_dup X.1 X.2.1 dX8_init_23 rfl ?_
  refine lv_iconst (v := 3) X.1 X.2.1 dX8_init_24 (by decide) ?_
  refine lv_bipush (v := 20) X.1 X.2.1 dX8_init_25 (by decide) ?_
  have t_31 : At S_25 q_1 154 := tAt_sA eS_25 t_23
  have t_32 : pN S_25 q_1 = 4 := tN_sA eS_25 t_24
  clear t_24
  refine r_iast X hw t_31 rfl (by rw [t_32]; exact z_ix ti_3 (by omega) (by omega)) dX8_init_27 (fun H locs hw => ?_)
  obtain ⟨S_33, eS_33⟩ : ∃ T, T = sA S_25 q_1 (upd (pA S_25 q_1) (Int32.toNatClampNeg (3)) (20)) := ⟨_, rfl⟩
  rw [← eS_33] at hw
  have ph_34 : Phc S_33 = Phc S + 0 := (show Phc S_33 = Phc S_25 from Ph_sA eS_33).trans ph_26
  have ph_35 : Phs S_33 = Phs S + 0 := (show Phs S_33 = Phs S_25 from Ph_sA eS_33).trans ph_27
  clear ph_26
  clear ph_27
  have hK_36 : Kq S S_33 x := hK_28.sA hn0_q_1 eS_33
  have hg_37 : GX S_33 := by rw [eS_33]; exact uA_154 hg_29 t_31 (by rw [ti_20]; omega) (by rw [ti_20]; omega)
  have h_38 : pA S_33 q_1 (Int32.toNatClampNeg (3)) = 20 := tA_sAs eS_33
  have t_39 : At S_2 x 188 := by rw [eS_2]; exact At_sN ha_x hq_1
  have t_40 : At S_9 x 188 := tAt_sA eS_9 t_39
  have t_41 : At S_17 x 188 := tAt_sA eS_17 t_40
  have t_42 : At S_25 x 188 := tAt_sA eS_25 t_41
  have t_43 : At S_33 x 188 := tAt_sA eS_33 t_42
  have t_44 : At S_33 q_1 154 := tAt_sA eS_33 t_31
  refine r_putR X hw t_43 rfl 7 807 (some q_1) rfl tyX8 (by decide) rfl inn_X8_init_8 tyX8_ok nmX8 (by decide) (X.2.2.2.1 (.fieldLink RX8 9 "SilkMill$Store" "prices" "[I") (by decide +kernel)) rfl (Or.inr ⟨rfl, hin, rfl⟩) (fun _ => rfl) rfl (fun _ => rfl) rfl (Nat.le_of_ble_eq_true rfl) (st_807 _ _) dX8_init_28 (fun H locs hw => ?_)
  obtain ⟨S_45, eS_45⟩ : ∃ T, T = sR S_33 807 x (some q_1) := ⟨_, rfl⟩
  rw [← eS_45] at hw
  have ph_46 : Phc S_45 = Phc S + 0 := (show Phc S_45 = Phc S_33 from Ph_rawR t_43 (by decide) eS_45).trans ph_34
  have ph_47 : Phs S_45 = Phs S + 0 := (show Phs S_45 = Phs S_33 from Ph_rawR t_43 (by decide) eS_45).trans ph_35
  clear ph_34
  clear ph_35
  have hK_48 : Kq S S_45 x := hK_36.sR eS_45
  have hg_49 : GX S_45 := by rw [eS_45]; exact GX_rawR hg_37 t_43 (by decide +kernel)
  have h_50 : pR S_45 807 x = some q_1 := tR_sRs eS_45
  refine lv_aload_n X.1 X.2.1 dX8_init_31 rfl (lv_at hl 0 rfl) ?_
  refine lv_bipush (v := 40) X.1 X.2.1 dX8_init_32 (by decide) ?_
  refine r_newQ (N := 40) (C := RX7) X hw 19 19 44 2 rfl (by decide) rfl (X.2.2.2.1 (.classLink RX8 15 RX7) (by decide +kernel)) X.2.2.2.2.2.2.2.1.1.2.2.2 (z_nn ti_40 (by omega)) (by decide) (by decide) (Nat.le_of_ble_eq_true rfl) (Nat.le_of_ble_eq_true rfl) (Nat.le_of_ble_eq_true rfl) (Nat.le_of_ble_eq_true rfl) dX8_init_34 (fun q_51 H hq_51 hw => ?_)
  obtain ⟨S_52, eS_52⟩ : ∃ T, T = sN S_45 q_51 19 40 := ⟨_, rfl⟩
  rw [← eS_52] at hw
  have ph_53 : Phc S_52 = Phc S + 0 := (show Phc S_52 = Phc S_45 from Ph_sN' hg_49.ci hq_51 eS_52 (by decide)).trans ph_46
  have ph_54 : Phs S_52 = Phs S + 0 := (show Phs S_52 = Phs S_45 from Ph_sN' hg_49.ci hq_51 eS_52 (by decide)).trans ph_47
  clear ph_46
  clear ph_47
  have hK_55 : Kq S S_52 x := hK_48.sN hq_51 eS_52
  have hg_56 : GX S_52 := by rw [eS_52]; exact GX_N hg_49 hq_51 (by decide +kernel)
  have hn0_q_51 := hK_48.new hq_51
  have ha_57 : At S_52 q_51 19 := by rw [eS_52]; exact At_nN _ _ _ _
  have hn_58 : pN S_52 q_51 = 40 := by rw [eS_52]; exact pN_sN_new
  have t_59 : At S_45 x 188 := tAt_sR eS_45 t_43
  have t_60 : At S_52 x 188 := by rw [eS_52]; exact At_sN t_59 hq_51
  refine r_putR X hw t_60 rfl 8 808 (some q_51) rfl tyX8 (by decide) rfl inn_X8_init_8 tyX8_ok nmX8 (by decide) (X.2.2.2.1 (.fieldLink RX8 17 "SilkMill$Store" "skeins" "[LSilkMill$Skein;") (by decide +kernel)) rfl (Or.inr ⟨rfl, hin, rfl⟩) (fun _ => rfl) rfl (fun _ => rfl) rfl (Nat.le_of_ble_eq_true rfl) (st_808 _ _) dX8_init_37 (fun H locs hw => ?_)
  obtain ⟨S_61, eS_61⟩ : ∃ T, T = sR S_52 808 x (some q_51) := ⟨_, rfl⟩
  rw [← eS_61] at hw
  have ph_62 : Phc S_61 = Phc S + 0 := (show Phc S_61 = Phc S_52 from Ph_rawR t_60 (by decide) eS_61).trans ph_53
  have ph_63 : Phs S_61 = Phs S + 0 := (show Phs S_61 = Phs S_52 from Ph_rawR t_60 (by decide) eS_61).trans ph_54
  clear ph_53
  clear ph_54
  have hK_64 : Kq S S_61 x := hK_55.sR eS_61
  have hg_65 : GX S_61 := by rw [eS_61]; exact GX_rawR hg_56 t_60 (by decide +kernel)
  have h_66 : pR S_61 808 x = some q_51 := tR_sRs eS_61
  refine lv_aload_n X.1 X.2.1 dX8_init_40 rfl (lv_at hl 0 rfl) ?_
  refine lv_bipush (v := 40) X.1 X.2.1 dX8_init_41 (by decide) ?_
  refine r_newI (N := 40) X hw 1674 84 3 rfl (X.2.2.2.1 (.arrayClass .int) (by decide +kernel)) (z_nn ti_40 (by omega)) (by decide) (by decide) (Nat.le_of_ble_eq_true rfl) (Nat.le_of_ble_eq_true rfl) (Nat.le_of_ble_eq_true rfl) (Nat.le_of_ble_eq_true rfl) dX8_init_43 (fun q_67 H hq_67 hw => ?_)
  obtain ⟨S_68, eS_68⟩ : ∃ T, T = sN S_61 q_67 1674 40 := ⟨_, rfl⟩
  rw [← eS_68] at hw
  have ph_69 : Phc S_68 = Phc S + 0 := (show Phc S_68 = Phc S_61 from Ph_sN' hg_65.ci hq_67 eS_68 (by decide)).trans ph_62
  have ph_70 : Phs S_68 = Phs S + 0 := (show Phs S_68 = Phs S_61 from Ph_sN' hg_65.ci hq_67 eS_68 (by decide)).trans ph_63
  clear ph_62
  clear ph_63
  have hK_71 : Kq S S_68 x := hK_64.sN hq_67 eS_68
  have hg_72 : GX S_68 := by rw [eS_68]; exact GX_N hg_65 hq_67 (by decide +kernel)
  have hn0_q_67 := hK_64.new hq_67
  have ha_73 : At S_68 q_67 1674 := by rw [eS_68]; exact At_nN _ _ _ _
  have hn_74 : pN S_68 q_67 = 40 := by rw [eS_68]; exact pN_sN_new
  have t_75 : At S_61 x 188 := tAt_sR eS_61 t_60
  have t_76 : At S_68 x 188 := by rw [eS_68]; exact At_sN t_75 hq_67
  refine r_putR X hw t_76 rfl 9 809 (some q_67) rfl tyX8 (by decide) rfl inn_X8_init_8 tyX8_ok nmX8 (by decide) (X.2.2.2.1 (.fieldLink RX8 21 "SilkMill$Store" "faultSkeins" "[I") (by decide +kernel)) rfl (Or.inr ⟨rfl, hin, rfl⟩) (fun _ => rfl) rfl (fun _ => rfl) rfl (Nat.le_of_ble_eq_true rfl) (st_809 _ _) dX8_init_45 (fun H locs hw => ?_)
  obtain ⟨S_77, eS_77⟩ : ∃ T, T = sR S_68 809 x (some q_67) := ⟨_, rfl⟩
  rw [← eS_77] at hw
  have ph_78 : Phc S_77 = Phc S + 0 := (show Phc S_77 = Phc S_68 from Ph_rawR t_76 (by decide) eS_77).trans ph_69
  have ph_79 : Phs S_77 = Phs S + 0 := (show Phs S_77 = Phs S_68 from Ph_rawR t_76 (by decide) eS_77).trans ph_70
  clear ph_69
  clear ph_70
  have hK_80 : Kq S S_77 x := hK_71.sR eS_77
  have hg_81 : GX S_77 := by rw [eS_77]; exact GX_rawR hg_72 t_76 (by decide +kernel)
  have h_82 : pR S_77 809 x = some q_67 := tR_sRs eS_77
  refine lv_aload_n X.1 X.2.1 dX8_init_48 rfl (lv_at hl 0 rfl) ?_
  refine lv_bipush (v := 40) X.1 X.2.1 dX8_init_49 (by decide) ?_
  refine r_newI (N := 40) X hw 1694 124 4 rfl (X.2.2.2.1 (.arrayClass .int) (by decide +kernel)) (z_nn ti_40 (by omega)) (by decide) (by decide) (Nat.le_of_ble_eq_true rfl) (Nat.le_of_ble_eq_true rfl) (Nat.le_of_ble_eq_true rfl) (Nat.le_of_ble_eq_true rfl) dX8_init_51 (fun q_83 H hq_83 hw => ?_)
  obtain ⟨S_84, eS_84⟩ : ∃ T, T = sN S_77 q_83 1694 40 := ⟨_, rfl⟩
  rw [← eS_84] at hw
  have ph_85 : Phc S_84 = Phc S + 0 := (show Phc S_84 = Phc S_77 from Ph_sN' hg_81.ci hq_83 eS_84 (by decide)).trans ph_78
  have ph_86 : Phs S_84 = Phs S + 0 := (show Phs S_84 = Phs S_77 from Ph_sN' hg_81.ci hq_83 eS_84 (by decide)).trans ph_79
  clear ph_78
  clear ph_79
  have hK_87 : Kq S S_84 x := hK_80.sN hq_83 eS_84
  have hg_88 : GX S_84 := by rw [eS_84]; exact GX_N hg_81 hq_83 (by decide +kernel)
  have hn0_q_83 := hK_80.new hq_83
  have ha_89 : At S_84 q_83 1694 := by rw [eS_84]; exact At_nN _ _ _ _
  have hn_90 : pN S_84 q_83 = 40 := by rw [eS_84]; exact pN_sN_new
  have t_91 : At S_77 x 188 := tAt_sR eS_77 t_76
  have t_92 : At S_84 x 188 := by rw [eS_84]; exact At_sN t_91 hq_83
  refine r_putR X hw t_92 rfl 10 810 (some q_83) rfl tyX8 (by decide) rfl inn_X8_init_8 tyX8_ok nmX8 (by decide) (X.2.2.2.1 (.fieldLink RX8 24 "SilkMill$Store" "faultDays" "[I") (by decide +kernel)) rfl (Or.inr ⟨rfl, hin, rfl⟩) (fun _ => rfl) rfl (fun _ => rfl) rfl (Nat.le_of_ble_eq_true rfl) (st_810 _ _) dX8_init_53 (fun H locs hw => ?_)
  obtain ⟨S_93, eS_93⟩ : ∃ T, T = sR S_84 810 x (some q_83) := ⟨_, rfl⟩
  rw [← eS_93] at hw
  have ph_94 : Phc S_93 = Phc S + 0 := (show Phc S_93 = Phc S_84 from Ph_rawR t_92 (by decide) eS_93).trans ph_85
  have ph_95 : Phs S_93 = Phs S + 0 := (show Phs S_93 = Phs S_84 from Ph_rawR t_92 (by decide) eS_93).trans ph_86
  clear ph_85
  clear ph_86
  have hK_96 : Kq S S_93 x := hK_87.sR eS_93
  have hg_97 : GX S_93 := by rw [eS_93]; exact GX_rawR hg_88 t_92 (by decide +kernel)
  have h_98 : pR S_93 810 x = some q_83 := tR_sRs eS_93
  refine lv_aload_n X.1 X.2.1 dX8_init_56 rfl (lv_at hl 0 rfl) ?_
  refine lv_bipush (v := 40) X.1 X.2.1 dX8_init_57 (by decide) ?_
  refine r_newI (N := 40) X hw 1714 164 5 rfl (X.2.2.2.1 (.arrayClass .int) (by decide +kernel)) (z_nn ti_40 (by omega)) (by decide) (by decide) (Nat.le_of_ble_eq_true rfl) (Nat.le_of_ble_eq_true rfl) (Nat.le_of_ble_eq_true rfl) (Nat.le_of_ble_eq_true rfl) dX8_init_59 (fun q_99 H hq_99 hw => ?_)
  obtain ⟨S_100, eS_100⟩ : ∃ T, T = sN S_93 q_99 1714 40 := ⟨_, rfl⟩
  rw [← eS_100] at hw
  have ph_101 : Phc S_100 = Phc S + 0 := (show Phc S_100 = Phc S_93 from Ph_sN' hg_97.ci hq_99 eS_100 (by decide)).trans ph_94
  have ph_102 : Phs S_100 = Phs S + 0 := (show Phs S_100 = Phs S_93 from Ph_sN' hg_97.ci hq_99 eS_100 (by decide)).trans ph_95
  clear ph_94
  clear ph_95
  have hK_103 : Kq S S_100 x := hK_96.sN hq_99 eS_100
  have hg_104 : GX S_100 := by rw [eS_100]; exact GX_N hg_97 hq_99 (by decide +kernel)
  have hn0_q_99 := hK_96.new hq_99
  have ha_105 : At S_100 q_99 1714 := by rw [eS_100]; exact At_nN _ _ _ _
  have hn_106 : pN S_100 q_99 = 40 := by rw [eS_100]; exact pN_sN_new
  have t_107 : At S_93 x 188 := tAt_sR eS_93 t_92
  have t_108 : At S_100 x 188 := by rw [eS_100]; exact At_sN t_107 hq_99
  refine r_putR X hw t_108 rfl 11 811 (some q_99) rfl tyX8 (by decide) rfl inn_X8_init_8 tyX8_ok nmX8 (by decide) (X.2.2.2.1 (.fieldLink RX8 27 "SilkMill$Store" "faultAmounts" "[I") (by decide +kernel)) rfl (Or.inr ⟨rfl, hin, rfl⟩) (fun _ => rfl) rfl (fun _ => rfl) rfl (Nat.le_of_ble_eq_true rfl) (st_811 _ _) dX8_init_61 (fun H locs hw => ?_)
  obtain ⟨S_109, eS_109⟩ : ∃ T, T = sR S_100 811 x (some q_99) := ⟨_, rfl⟩
  rw [← eS_109] at hw
  have ph_110 : Phc S_109 = Phc S + 0 := (show Phc S_109 = Phc S_100 from Ph_rawR t_108 (by decide) eS_109).trans ph_101
  have ph_111 : Phs S_109 = Phs S + 0 := (show Phs S_109 = Phs S_100 from Ph_rawR t_108 (by decide) eS_109).trans ph_102
  clear ph_101
  clear ph_102
  have hK_112 : Kq S S_109 x := hK_103.sR eS_109
  have hg_113 : GX S_109 := by rw [eS_109]; exact GX_rawR hg_104 t_108 (by decide +kernel)
  have h_114 : pR S_109 811 x = some q_99 := tR_sRs eS_109
  refine lv_aload_n X.1 X.2.1 dX8_init_64 rfl (lv_at hl 0 rfl) ?_
  refine r_new X hw 182 2 172 6 rfl tyX2 (by decide) rfl inn_X8_init_2 tyX2_ok (X.2.2.2.1 (.classLink RX8 30 RX2) (by decide +kernel)) (X.2.2.2.1 (.instantiable RX2 8) (by decide +kernel)) (X.2.2.2.1 (.initialized RX2) (by decide +kernel)) (zo_2 _) zd_2 (Nat.le_of_ble_eq_true rfl) (Nat.le_of_ble_eq_true rfl) (Nat.le_of_ble_eq_true rfl) (Nat.le_of_ble_eq_true rfl) dX8_init_65 (fun q_115 H hq_115 hw => ?_)
  obtain ⟨S_116, eS_116⟩ : ∃ T, T = sO S_109 q_115 182 := ⟨_, rfl⟩
  rw [← eS_116] at hw
  have ph_117 : Phc S_116 = Phc S + 0 := (show Phc S_116 = Phc S_109 from Ph_sO hg_113 hq_115 eS_116 (by decide)).trans ph_110
  have ph_118 : Phs S_116 = Phs S + 0 := (show Phs S_116 = Phs S_109 from Ph_sO hg_113 hq_115 eS_116 (by decide)).trans ph_111
  clear ph_110
  clear ph_111
  have hK_119 : Kq S S_116 x := hK_112.sO hq_115 eS_116
  have hg_120 : GX S_116 := by rw [eS_116]; exact GX_O hg_113 hq_115 (by decide +kernel)
  have hn0_q_115 := hK_112.new hq_115
  have ha_121 : At S_116 q_115 182 := by rw [eS_116]; exact At_nO _ _ _
  have hzI_q_115 : ∀ g, pI S_116 g q_115 = 0 := fun g => by rw [eS_116]; exact pI_sO_new
  have hzR_q_115 : ∀ g, pR S_116 g q_115 = none := fun g => by rw [eS_116]; exact if_pos rfl
  refine lv_dup X.1 X.2.1 dX8_init_68 rfl ?_
  refine k_v (rm := { frames := 2, cells := 3, slots := 42, locals := 96 }) (av := [.ref q_115]) X hw (va_runIN (As := []) (rest := [.ref q_115, .ref x]) (cfix X) (k_X2_init l G cy κ S_116 _ q_115 hg_120 ha_121 hzI_q_115 hzR_q_115) ⟨(va_cnB (host := RX11) 0 X.2.2.2.1 gX8_init_X2_init_n32 rfl rfl rfl (X.2.2.2.2.2.2.2.1.2.1 (RX8, 32, yX2_init) (by decide +kernel)) (X.2.2.2.1 (.initialized RX2) (by decide +kernel)) (by decide +kernel) ⟨Nat.le_of_ble_eq_true rfl, Nat.le_of_ble_eq_true rfl⟩), rfl, (X.2.2.2.1 (.instanceMethod yX2_init) (by decide +kernel))⟩ (pre_S X hw _) rfl rfl hl.1 rfl (lv_room (Nat.le_of_ble_eq_true rfl)) dX8_init_69 ⟨Nat.le_of_ble_eq_true rfl, Nat.le_of_ble_eq_true rfl⟩) 9 214 (Nat.le_of_ble_eq_true rfl) (Nat.le_of_ble_eq_true rfl) (fun S_123 H locs hp hw hfr hnw => ?_)
  obtain ⟨hK_124, hg_125, ha_126, ph_127, ph_128⟩ := hp
  have hK_129 : Kq S S_123 x := hK_119.sub hn0_q_115 hK_124
  have ph_130 : Phc S_123 = Phc S + 0 := by omega
  have ph_131 : Phs S_123 = Phs S + 0 := by omega
  clear ph_117
  clear ph_118
  clear ph_127
  clear ph_128
  have t_132 : At S_109 x 188 := tAt_sR eS_109 t_108
  have t_133 : At S_116 x 188 := by rw [eS_116]; exact At_sO t_132 hq_115
  have t_134 : At S_123 x 188 := hK_124.at ha_121 t_133 (by decide)
  refine r_putR X hw t_134 rfl 12 812 (some q_115) rfl tyX8 (by decide) rfl inn_X8_init_8 tyX8_ok nmX8 (by decide) (X.2.2.2.1 (.fieldLink RX8 33 "SilkMill$Store" "mixer" "LSilkMill$Mixer;") (by decide +kernel)) rfl (Or.inr ⟨rfl, hin, rfl⟩) (fun _ => rfl) rfl (fun _ => rfl) rfl (Nat.le_of_ble_eq_true rfl) (st_812 _ _) dX8_init_72 (fun H locs hw => ?_)
  obtain ⟨S_135, eS_135⟩ : ∃ T, T = sR S_123 812 x (some q_115) := ⟨_, rfl⟩
  rw [← eS_135] at hw
  have ph_136 : Phc S_135 = Phc S + 0 := (show Phc S_135 = Phc S_123 from Ph_rawR t_134 (by decide) eS_135).trans ph_130
  have ph_137 : Phs S_135 = Phs S + 0 := (show Phs S_135 = Phs S_123 from Ph_rawR t_134 (by decide) eS_135).trans ph_131
  clear ph_130
  clear ph_131
  have hK_138 : Kq S S_135 x := hK_129.sR eS_135
  have hg_139 : GX S_135 := by rw [eS_135]; exact GX_rawR hg_125 t_134 (by decide +kernel)
  have h_140 : pR S_135 812 x = some q_115 := tR_sRs eS_135
  have t_141 : At S_135 x 188 := tAt_sR eS_135 t_134
  have nd_142 := nodup_of hw
  have t_143 : pI S_2 800 x = 0 := by rw [eS_2, pI_sN]; exact (hzI 800)
  have t_144 : pI S_9 800 x = 0 := tI_sA eS_9 t_143
  have t_145 : pI S_17 800 x = 0 := tI_sA eS_17 t_144
  have t_146 : pI S_25 800 x = 0 := tI_sA eS_25 t_145
  have t_147 : pI S_33 800 x = 0 := tI_sA eS_33 t_146
  have t_148 : pI S_45 800 x = 0 := tI_sR eS_45 t_147
  have t_149 : pI S_52 800 x = 0 := by rw [eS_52, pI_sN]; exact t_148
  have t_150 : pI S_61 800 x = 0 := tI_sR eS_61 t_149
  have t_151 : pI S_68 800 x = 0 := by rw [eS_68, pI_sN]; exact t_150
  have t_152 : pI S_77 800 x = 0 := tI_sR eS_77 t_151
  have t_153 : pI S_84 800 x = 0 := by rw [eS_84, pI_sN]; exact t_152
  have t_154 : pI S_93 800 x = 0 := tI_sR eS_93 t_153
  have t_155 : pI S_100 800 x = 0 := by rw [eS_100, pI_sN]; exact t_154
  have t_156 : pI S_109 800 x = 0 := tI_sR eS_109 t_155
  have t_158 : At S_109 x 188 := tAt_sR eS_109 t_108
  have t_157 : pI S_116 800 x = 0 := by rw [eS_116]; exact (pI_sO_ne (ne_of_new hq_115 t_158.1)).trans t_156
  have t_160 : At S_116 x 188 := by rw [eS_116]; exact At_sO t_158 hq_115
  have t_159 : pI S_123 800 x = 0 := (((hK_124 x t_160.1).2 (At_ne t_160 ha_121 (by decide))).2.1 800).trans t_157
  have t_161 : pI S_135 800 x = 0 := tI_sR eS_135 t_159
  have t_162 : pI S_2 806 x = 0 := by rw [eS_2, pI_sN]; exact (hzI 806)
  have t_163 : pI S_9 806 x = 0 := tI_sA eS_9 t_162
  have t_164 : pI S_17 806 x = 0 := tI_sA eS_17 t_163
  have t_165 : pI S_25 806 x = 0 := tI_sA eS_25 t_164
  have t_166 : pI S_33 806 x = 0 := tI_sA eS_33 t_165
  have t_167 : pI S_45 806 x = 0 := tI_sR eS_45 t_166
  have t_168 : pI S_52 806 x = 0 := by rw [eS_52, pI_sN]; exact t_167
  have t_169 : pI S_61 806 x = 0 := tI_sR eS_61 t_168
  have t_170 : pI S_68 806 x = 0 := by rw [eS_68, pI_sN]; exact t_169
  have t_171 : pI S_77 806 x = 0 := tI_sR eS_77 t_170
  have t_172 : pI S_84 806 x = 0 := by rw [eS_84, pI_sN]; exact t_171
  have t_173 : pI S_93 806 x = 0 := tI_sR eS_93 t_172
  have t_174 : pI S_100 806 x = 0 := by rw [eS_100, pI_sN]; exact t_173
  have t_175 : pI S_109 806 x = 0 := tI_sR eS_109 t_174
  have t_176 : pI S_116 806 x = 0 := by rw [eS_116]; exact (pI_sO_ne (ne_of_new hq_115 t_158.1)).trans t_175
  have t_177 : pI S_123 806 x = 0 := (((hK_124 x t_160.1).2 (At_ne t_160 ha_121 (by decide))).2.1 806).trans t_176
  have t_178 : pI S_135 806 x = 0 := tI_sR eS_135 t_177
  have t_179 : pR S_52 807 x = some q_1 := by rw [eS_52, pR_sN]; exact h_50
  have t_180 : pR S_61 807 x = some q_1 := tR_sR eS_61 rfl t_179
  have t_181 : pR S_68 807 x = some q_1 := by rw [eS_68, pR_sN]; exact t_180
  have t_182 : pR S_77 807 x = some q_1 := tR_sR eS_77 rfl t_181
  have t_183 : pR S_84 807 x = some q_1 := by rw [eS_84, pR_sN]; exact t_182
  have t_184 : pR S_93 807 x = some q_1 := tR_sR eS_93 rfl t_183
  have t_185 : pR S_100 807 x = some q_1 := by rw [eS_100, pR_sN]; exact t_184
  have t_186 : pR S_109 807 x = some q_1 := tR_sR eS_109 rfl t_185
  have t_187 : pR S_116 807 x = some q_1 := by rw [eS_116]; exact (pR_sO_ne (ne_of_new hq_115 t_158.1)).trans t_186
  have t_188 : pR S_123 807 x = some q_1 := (((hK_124 x t_160.1).2 (At_ne t_160 ha_121 (by decide))).2.2.1 807).trans t_187
  have t_189 : pR S_135 807 x = some q_1 := tR_sR eS_135 rfl t_188
  have t_190 : At S_45 q_1 154 := tAt_sR eS_45 t_44
  have t_191 : At S_52 q_1 154 := by rw [eS_52]; exact At_sN t_190 hq_51
  have t_192 : At S_61 q_1 154 := tAt_sR eS_61 t_191
  have t_193 : At S_68 q_1 154 := by rw [eS_68]; exact At_sN t_192 hq_67
  have t_194 : At S_77 q_1 154 := tAt_sR eS_77 t_193
  have t_195 : At S_84 q_1 154 := by rw [eS_84]; exact At_sN t_194 hq_83
  have t_196 : At S_93 q_1 154 := tAt_sR eS_93 t_195
  have t_197 : At S_100 q_1 154 := by rw [eS_100]; exact At_sN t_196 hq_99
  have t_198 : At S_109 q_1 154 := tAt_sR eS_109 t_197
  have t_199 : At S_116 q_1 154 := by rw [eS_116]; exact At_sO t_198 hq_115
  have t_200 : At S_123 q_1 154 := hK_124.at ha_121 t_199 (by decide)
  have t_201 : At S_135 q_1 154 := tAt_sR eS_135 t_200
  have t_202 : pN S_33 q_1 = 4 := tN_sA eS_33 t_32
  clear t_32
  have t_203 : pN S_45 q_1 = 4 := tN_sR eS_45 t_202
  clear t_202
  have t_205 : At S_45 q_1 154 := tAt_sR eS_45 t_44
  have t_204 : pN S_52 q_1 = 4 := by rw [eS_52]; exact (pN_sN_ne (ne_of_new hq_51 t_205.1)).trans t_203
  clear t_203
  have t_206 : pN S_61 q_1 = 4 := tN_sR eS_61 t_204
  clear t_204
  have t_208 : At S_52 q_1 154 := by rw [eS_52]; exact At_sN t_205 hq_51
  have t_209 : At S_61 q_1 154 := tAt_sR eS_61 t_208
  have t_207 : pN S_68 q_1 = 4 := by rw [eS_68]; exact (pN_sN_ne (ne_of_new hq_67 t_209.1)).trans t_206
  clear t_206
  have t_210 : pN S_77 q_1 = 4 := tN_sR eS_77 t_207
  clear t_207
  have t_212 : At S_68 q_1 154 := by rw [eS_68]; exact At_sN t_209 hq_67
  have t_213 : At S_77 q_1 154 := tAt_sR eS_77 t_212
  have t_211 : pN S_84 q_1 = 4 := by rw [eS_84]; exact (pN_sN_ne (ne_of_new hq_83 t_213.1)).trans t_210
  clear t_210
  have t_214 : pN S_93 q_1 = 4 := tN_sR eS_93 t_211
  clear t_211
  have t_216 : At S_84 q_1 154 := by rw [eS_84]; exact At_sN t_213 hq_83
  have t_217 : At S_93 q_1 154 := tAt_sR eS_93 t_216
  have t_215 : pN S_100 q_1 = 4 := by rw [eS_100]; exact (pN_sN_ne (ne_of_new hq_99 t_217.1)).trans t_214
  clear t_214
  have t_218 : pN S_109 q_1 = 4 := tN_sR eS_109 t_215
  clear t_215
  have t_219 : pN S_116 q_1 = 4 := by rw [eS_116, pN_sO]; exact t_218
  clear t_218
  have t_221 : At S_100 q_1 154 := by rw [eS_100]; exact At_sN t_217 hq_99
  have t_222 : At S_109 q_1 154 := tAt_sR eS_109 t_221
  have t_223 : At S_116 q_1 154 := by rw [eS_116]; exact At_sO t_222 hq_115
  have t_220 : pN S_123 q_1 = 4 := ((hK_124 q_1 t_223.1).2 (At_ne t_223 ha_121 (by decide))).2.2.2.1.trans t_219
  clear t_219
  have t_224 : pN S_135 q_1 = 4 := tN_sR eS_135 t_220
  clear t_220
  have t_225 : pR S_68 808 x = some q_51 := by rw [eS_68, pR_sN]; exact h_66
  have t_226 : pR S_77 808 x = some q_51 := tR_sR eS_77 rfl t_225
  have t_227 : pR S_84 808 x = some q_51 := by rw [eS_84, pR_sN]; exact t_226
  have t_228 : pR S_93 808 x = some q_51 := tR_sR eS_93 rfl t_227
  have t_229 : pR S_100 808 x = some q_51 := by rw [eS_100, pR_sN]; exact t_228
  have t_230 : pR S_109 808 x = some q_51 := tR_sR eS_109 rfl t_229
  have t_231 : pR S_116 808 x = some q_51 := by rw [eS_116]; exact (pR_sO_ne (ne_of_new hq_115 t_158.1)).trans t_230
  have t_232 : pR S_123 808 x = some q_51 := (((hK_124 x t_160.1).2 (At_ne t_160 ha_121 (by decide))).2.2.1 808).trans t_231
  have t_233 : pR S_135 808 x = some q_51 := tR_sR eS_135 rfl t_232
  have t_234 : At S_61 q_51 19 := tAt_sR eS_61 ha_57
  have t_235 : At S_68 q_51 19 := by rw [eS_68]; exact At_sN t_234 hq_67
  have t_236 : At S_77 q_51 19 := tAt_sR eS_77 t_235
  have t_237 : At S_84 q_51 19 := by rw [eS_84]; exact At_sN t_236 hq_83
  have t_238 : At S_93 q_51 19 := tAt_sR eS_93 t_237
  have t_239 : At S_100 q_51 19 := by rw [eS_100]; exact At_sN t_238 hq_99
  have t_240 : At S_109 q_51 19 := tAt_sR eS_109 t_239
  have t_241 : At S_116 q_51 19 := by rw [eS_116]; exact At_sO t_240 hq_115
  have t_242 : At S_123 q_51 19 := hK_124.at ha_121 t_241 (by decide)
  have t_243 : At S_135 q_51 19 := tAt_sR eS_135 t_242
  have t_244 : pN S_61 q_51 = 40 := tN_sR eS_61 hn_58
  clear hn_58
  have t_246 : At S_61 q_51 19 := tAt_sR eS_61 ha_57
  have t_245 : pN S_68 q_51 = 40 := by rw [eS_68]; exact (pN_sN_ne (ne_of_new hq_67 t_246.1)).trans t_244
  clear t_244
  have t_247 : pN S_77 q_51 = 40 := tN_sR eS_77 t_245
  clear t_245
  have t_249 : At S_68 q_51 19 := by rw [eS_68]; exact At_sN t_246 hq_67
  have t_250 : At S_77 q_51 19 := tAt_sR eS_77 t_249
  have t_248 : pN S_84 q_51 = 40 := by rw [eS_84]; exact (pN_sN_ne (ne_of_new hq_83 t_250.1)).trans t_247
  clear t_247
  have t_251 : pN S_93 q_51 = 40 := tN_sR eS_93 t_248
  clear t_248
  have t_253 : At S_84 q_51 19 := by rw [eS_84]; exact At_sN t_250 hq_83
  have t_254 : At S_93 q_51 19 := tAt_sR eS_93 t_253
  have t_252 : pN S_100 q_51 = 40 := by rw [eS_100]; exact (pN_sN_ne (ne_of_new hq_99 t_254.1)).trans t_251
  clear t_251
  have t_255 : pN S_109 q_51 = 40 := tN_sR eS_109 t_252
  clear t_252
  have t_256 : pN S_116 q_51 = 40 := by rw [eS_116, pN_sO]; exact t_255
  clear t_255
  have t_258 : At S_100 q_51 19 := by rw [eS_100]; exact At_sN t_254 hq_99
  have t_259 : At S_109 q_51 19 := tAt_sR eS_109 t_258
  have t_260 : At S_116 q_51 19 := by rw [eS_116]; exact At_sO t_259 hq_115
  have t_257 : pN S_123 q_51 = 40 := ((hK_124 q_51 t_260.1).2 (At_ne t_260 ha_121 (by decide))).2.2.2.1.trans t_256
  clear t_256
  have t_261 : pN S_135 q_51 = 40 := tN_sR eS_135 t_257
  clear t_257
  have t_262 : pR S_84 809 x = some q_67 := by rw [eS_84, pR_sN]; exact h_82
  have t_263 : pR S_93 809 x = some q_67 := tR_sR eS_93 rfl t_262
  have t_264 : pR S_100 809 x = some q_67 := by rw [eS_100, pR_sN]; exact t_263
  have t_265 : pR S_109 809 x = some q_67 := tR_sR eS_109 rfl t_264
  have t_266 : pR S_116 809 x = some q_67 := by rw [eS_116]; exact (pR_sO_ne (ne_of_new hq_115 t_158.1)).trans t_265
  have t_267 : pR S_123 809 x = some q_67 := (((hK_124 x t_160.1).2 (At_ne t_160 ha_121 (by decide))).2.2.1 809).trans t_266
  have t_268 : pR S_135 809 x = some q_67 := tR_sR eS_135 rfl t_267
  have t_269 : At S_77 q_67 1674 := tAt_sR eS_77 ha_73
  have t_270 : At S_84 q_67 1674 := by rw [eS_84]; exact At_sN t_269 hq_83
  have t_271 : At S_93 q_67 1674 := tAt_sR eS_93 t_270
  have t_272 : At S_100 q_67 1674 := by rw [eS_100]; exact At_sN t_271 hq_99
  have t_273 : At S_109 q_67 1674 := tAt_sR eS_109 t_272
  have t_274 : At S_116 q_67 1674 := by rw [eS_116]; exact At_sO t_273 hq_115
  have t_275 : At S_123 q_67 1674 := hK_124.at ha_121 t_274 (by decide)
  have t_276 : At S_135 q_67 1674 := tAt_sR eS_135 t_275
  have t_277 : pN S_77 q_67 = 40 := tN_sR eS_77 hn_74
  clear hn_74
  have t_279 : At S_77 q_67 1674 := tAt_sR eS_77 ha_73
  have t_278 : pN S_84 q_67 = 40 := by rw [eS_84]; exact (pN_sN_ne (ne_of_new hq_83 t_279.1)).trans t_277
  clear t_277
  have t_280 : pN S_93 q_67 = 40 := tN_sR eS_93 t_278
  clear t_278
  have t_282 : At S_84 q_67 1674 := by rw [eS_84]; exact At_sN t_279 hq_83
  have t_283 : At S_93 q_67 1674 := tAt_sR eS_93 t_282
  have t_281 : pN S_100 q_67 = 40 := by rw [eS_100]; exact (pN_sN_ne (ne_of_new hq_99 t_283.1)).trans t_280
  clear t_280
  have t_284 : pN S_109 q_67 = 40 := tN_sR eS_109 t_281
  clear t_281
  have t_285 : pN S_116 q_67 = 40 := by rw [eS_116, pN_sO]; exact t_284
  clear t_284
  have t_287 : At S_100 q_67 1674 := by rw [eS_100]; exact At_sN t_283 hq_99
  have t_288 : At S_109 q_67 1674 := tAt_sR eS_109 t_287
  have t_289 : At S_116 q_67 1674 := by rw [eS_116]; exact At_sO t_288 hq_115
  have t_286 : pN S_123 q_67 = 40 := ((hK_124 q_67 t_289.1).2 (At_ne t_289 ha_121 (by decide))).2.2.2.1.trans t_285
  clear t_285
  have t_290 : pN S_135 q_67 = 40 := tN_sR eS_135 t_286
  clear t_286
  have t_291 : pR S_100 810 x = some q_83 := by rw [eS_100, pR_sN]; exact h_98
  have t_292 : pR S_109 810 x = some q_83 := tR_sR eS_109 rfl t_291
  have t_293 : pR S_116 810 x = some q_83 := by rw [eS_116]; exact (pR_sO_ne (ne_of_new hq_115 t_158.1)).trans t_292
  have t_294 : pR S_123 810 x = some q_83 := (((hK_124 x t_160.1).2 (At_ne t_160 ha_121 (by decide))).2.2.1 810).trans t_293
  have t_295 : pR S_135 810 x = some q_83 := tR_sR eS_135 rfl t_294
  have t_296 : At S_93 q_83 1694 := tAt_sR eS_93 ha_89
  have t_297 : At S_100 q_83 1694 := by rw [eS_100]; exact At_sN t_296 hq_99
  have t_298 : At S_109 q_83 1694 := tAt_sR eS_109 t_297
  have t_299 : At S_116 q_83 1694 := by rw [eS_116]; exact At_sO t_298 hq_115
  have t_300 : At S_123 q_83 1694 := hK_124.at ha_121 t_299 (by decide)
  have t_301 : At S_135 q_83 1694 := tAt_sR eS_135 t_300
  have t_302 : pN S_93 q_83 = 40 := tN_sR eS_93 hn_90
  clear hn_90
  have t_304 : At S_93 q_83 1694 := tAt_sR eS_93 ha_89
  have t_303 : pN S_100 q_83 = 40 := by rw [eS_100]; exact (pN_sN_ne (ne_of_new hq_99 t_304.1)).trans t_302
  clear t_302
  have t_305 : pN S_109 q_83 = 40 := tN_sR eS_109 t_303
  clear t_303
  have t_306 : pN S_116 q_83 = 40 := by rw [eS_116, pN_sO]; exact t_305
  clear t_305
  have t_308 : At S_100 q_83 1694 := by rw [eS_100]; exact At_sN t_304 hq_99
  have t_309 : At S_109 q_83 1694 := tAt_sR eS_109 t_308
  have t_310 : At S_116 q_83 1694 := by rw [eS_116]; exact At_sO t_309 hq_115
  have t_307 : pN S_123 q_83 = 40 := ((hK_124 q_83 t_310.1).2 (At_ne t_310 ha_121 (by decide))).2.2.2.1.trans t_306
  clear t_306
  have t_311 : pN S_135 q_83 = 40 := tN_sR eS_135 t_307
  clear t_307
  have t_312 : pR S_116 811 x = some q_99 := by rw [eS_116]; exact (pR_sO_ne (ne_of_new hq_115 t_158.1)).trans h_114
  have t_313 : pR S_123 811 x = some q_99 := (((hK_124 x t_160.1).2 (At_ne t_160 ha_121 (by decide))).2.2.1 811).trans t_312
  have t_314 : pR S_135 811 x = some q_99 := tR_sR eS_135 rfl t_313
  have t_315 : At S_109 q_99 1714 := tAt_sR eS_109 ha_105
  have t_316 : At S_116 q_99 1714 := by rw [eS_116]; exact At_sO t_315 hq_115
  have t_317 : At S_123 q_99 1714 := hK_124.at ha_121 t_316 (by decide)
  have t_318 : At S_135 q_99 1714 := tAt_sR eS_135 t_317
  have t_319 : pN S_109 q_99 = 40 := tN_sR eS_109 hn_106
  clear hn_106
  have t_320 : pN S_116 q_99 = 40 := by rw [eS_116, pN_sO]; exact t_319
  clear t_319
  have t_322 : At S_109 q_99 1714 := tAt_sR eS_109 ha_105
  have t_323 : At S_116 q_99 1714 := by rw [eS_116]; exact At_sO t_322 hq_115
  have t_321 : pN S_123 q_99 = 40 := ((hK_124 q_99 t_323.1).2 (At_ne t_323 ha_121 (by decide))).2.2.2.1.trans t_320
  clear t_320
  have t_324 : pN S_135 q_99 = 40 := tN_sR eS_135 t_321
  clear t_321
  have t_325 : At S_135 q_115 2 := tAt_sR eS_135 ha_126
  obtain ⟨S_326, eS_326⟩ : ∃ T, T = sK S_135 x 8 := ⟨_, rfl⟩
  have hw := Wd_sK (k := 8) hw t_141 rfl; rw [← eS_326] at hw
  have hg9 : GX S_326 := by rw [eS_326]; exact GX_sK hg_139 t_141 (by decide +kernel) (mk_8 (by rw [pI_sK, t_161]; exact ⟨by rw [ti_0]; omega, by rw [ti_0]; omega⟩) (by rw [pI_sK, t_178]; exact ⟨by rw [ti_0]; omega, by rw [ti_0]; omega⟩) ⟨q_1, (by rw [pR_sK]; exact t_189), At_sK t_141 t_201 (by decide), by rw [pN_sK]; exact t_224⟩ ⟨q_51, (by rw [pR_sK]; exact t_233), At_sK t_141 t_243 (by decide), by rw [pN_sK]; exact t_261⟩ ⟨q_67, (by rw [pR_sK]; exact t_268), At_sK t_141 t_276 (by decide), by rw [pN_sK]; exact t_290⟩ ⟨q_83, (by rw [pR_sK]; exact t_295), At_sK t_141 t_301 (by decide), by rw [pN_sK]; exact t_311⟩ ⟨q_99, (by rw [pR_sK]; exact t_314), At_sK t_141 t_318 (by decide), by rw [pN_sK]; exact t_324⟩ ⟨q_115, (by rw [pR_sK]; exact h_140), At_sK t_141 t_325 (by decide)⟩)
  have ha9 : At S_326 x 8 := by rw [eS_326]; exact At_nK t_141
  have hk9 : Kq S S_326 x := hK_138.sK eS_326
  have hPhc9 : Phc S_326 = Phc S + 320 := by rw [show Phc S_326 = Ph fC 8 14400 S_326 from rfl, Ph_sK nd_142 t_141 (by decide) eS_326, ph_8 ha9 (show pI S_326 800 x = 0 by rw [eS_326, pI_sK]; exact t_161)]; show Phc S_135 + _ = _; omega
  have hPhs9 : Phs S_326 = Phs S + 604000 := by rw [show Phs S_326 = Ph fS 15100 46000 S_326 from rfl, Ph_sK nd_142 t_141 (by decide) eS_326, ph_8 ha9 (show pI S_326 800 x = 0 by rw [eS_326, pI_sK]; exact t_161)]; show Phs S_135 + _ = _; omega
  have t_327 : pI S_2 801 x = 0 := by rw [eS_2, pI_sN]; exact (hzI 801)
  have t_328 : pI S_9 801 x = 0 := tI_sA eS_9 t_327
  have t_329 : pI S_17 801 x = 0 := tI_sA eS_17 t_328
  have t_330 : pI S_25 801 x = 0 := tI_sA eS_25 t_329
  have t_331 : pI S_33 801 x = 0 := tI_sA eS_33 t_330
  have t_332 : pI S_45 801 x = 0 := tI_sR eS_45 t_331
  have t_333 : pI S_52 801 x = 0 := by rw [eS_52, pI_sN]; exact t_332
  have t_334 : pI S_61 801 x = 0 := tI_sR eS_61 t_333
  have t_335 : pI S_68 801 x = 0 := by rw [eS_68, pI_sN]; exact t_334
  have t_336 : pI S_77 801 x = 0 := tI_sR eS_77 t_335
  have t_337 : pI S_84 801 x = 0 := by rw [eS_84, pI_sN]; exact t_336
  have t_338 : pI S_93 801 x = 0 := tI_sR eS_93 t_337
  have t_339 : pI S_100 801 x = 0 := by rw [eS_100, pI_sN]; exact t_338
  have t_340 : pI S_109 801 x = 0 := tI_sR eS_109 t_339
  have t_341 : pI S_116 801 x = 0 := by rw [eS_116]; exact (pI_sO_ne (ne_of_new hq_115 t_158.1)).trans t_340
  have t_342 : pI S_123 801 x = 0 := (((hK_124 x t_160.1).2 (At_ne t_160 ha_121 (by decide))).2.1 801).trans t_341
  have t_343 : pI S_135 801 x = 0 := tI_sR eS_135 t_342
  have tn_344 : pA S_9 q_1 = (upd (pA S_2 q_1) (Int32.toNatClampNeg (0)) (100)) := by rw [eS_9]; exact if_pos rfl
  have tn_345 : pA S_17 q_1 = (upd (pA S_9 q_1) (Int32.toNatClampNeg (1)) (80)) := by rw [eS_17]; exact if_pos rfl
  have tn_346 : pA S_25 q_1 = (upd (pA S_17 q_1) (Int32.toNatClampNeg (2)) (50)) := by rw [eS_25]; exact if_pos rfl
  have tn_347 : pA S_33 q_1 = (upd (pA S_25 q_1) (Int32.toNatClampNeg (3)) (20)) := by rw [eS_33]; exact if_pos rfl
  have tn_348 : pA S_2 q_1 = fun _ => 0 := by rw [eS_2]; exact pA_sN_new
  have bb_349 : pA S_45 q_1 = pA S_33 q_1 := by rw [eS_45]; rfl
  have bb_350 : pA S_52 q_1 = pA S_33 q_1 := (show pA S_52 q_1 = pA S_45 q_1 from by rw [eS_52]; exact if_neg (ne_of_new hq_51 t_205.1)).trans bb_349
  have bb_351 : pA S_61 q_1 = pA S_33 q_1 := (show pA S_61 q_1 = pA S_52 q_1 from by rw [eS_61]; rfl).trans bb_350
  have bb_352 : pA S_68 q_1 = pA S_33 q_1 := (show pA S_68 q_1 = pA S_61 q_1 from by rw [eS_68]; exact if_neg (ne_of_new hq_67 t_209.1)).trans bb_351
  have bb_353 : pA S_77 q_1 = pA S_33 q_1 := (show pA S_77 q_1 = pA S_68 q_1 from by rw [eS_77]; rfl).trans bb_352
  have bb_354 : pA S_84 q_1 = pA S_33 q_1 := (show pA S_84 q_1 = pA S_77 q_1 from by rw [eS_84]; exact if_neg (ne_of_new hq_83 t_213.1)).trans bb_353
  have bb_355 : pA S_93 q_1 = pA S_33 q_1 := (show pA S_93 q_1 = pA S_84 q_1 from by rw [eS_93]; rfl).trans bb_354
  have bb_356 : pA S_100 q_1 = pA S_33 q_1 := (show pA S_100 q_1 = pA S_93 q_1 from by rw [eS_100]; exact if_neg (ne_of_new hq_99 t_217.1)).trans bb_355
  have bb_357 : pA S_109 q_1 = pA S_33 q_1 := (show pA S_109 q_1 = pA S_100 q_1 from by rw [eS_109]; rfl).trans bb_356
  have bb_358 : pA S_116 q_1 = pA S_33 q_1 := (show pA S_116 q_1 = pA S_109 q_1 from by rw [eS_116]; rfl).trans bb_357
  have bb_359 : pA S_123 q_1 = pA S_33 q_1 := (show pA S_123 q_1 = pA S_116 q_1 from ((hK_124 q_1 t_223.1).2 (At_ne t_223 ha_121 (by decide))).2.2.2.2.1).trans bb_358
  have bb_360 : pA S_135 q_1 = pA S_33 q_1 := (show pA S_135 q_1 = pA S_123 q_1 from by rw [eS_135]; rfl).trans bb_359
  have pp_361 : pA S_135 q_1 = prcF := by rw [bb_360, tn_347, tn_346, tn_345, tn_344, tn_348]; exact prc_all
  exact ret_v X hw hr hlocks (Nat.le_of_ble_eq_true rfl) (Nat.le_of_ble_eq_true rfl) ⟨hk9, hg9, ha9, hPhc9, hPhs9, (by rw [eS_326, pI_sK]; exact t_343), (by rw [eS_326, pI_sK]; exact t_161), (by rw [eS_326, mA_eq (show pR (sK S_135 x 8) 807 x = some q_1 from (by rw [pR_sK]; exact t_189)), show pA (sK S_135 x 8) q_1 = pA S_135 q_1 from rfl]; exact pp_361)⟩ dX8_init_75
set_option maxHeartbeats 4000000 in
set_option maxRecDepth 100000 in
theorem k_X11_init6 (l : Launch) (G : va_G) (cy : Nat → ClassId) (κ : Nat → Nat) (S : PS) (sz : Nat) (x : Nat) (hG : GX S) (ha_x : At S x 191) (hzI : ∀ g, pI S g x = 0) (hzR : ∀ g, pR S g x = none) : Cv l yX11_init wsX11_init ({ frames := 4, cells := 58, slots := 1728, locals := 192 }) G cy κ S sz [.ref x] (fun (S9 : PS) => Kq S S9 x ∧ GX S9 ∧ At S9 x 11 ∧ Phc S9 = Phc S + 57920 ∧ Phs S9 = Phs S + 788000 ∧ ∃ q, pR S9 1107 x = some q ∧ At S9 q 8 ∧ pI S9 801 q = 0 ∧ pI S9 1102 x = 0 ∧ pI S9 1104 x = 0 ∧ ∃ u, pR S9 1105 x = some u ∧ At S9 u 10 ∧ pI S9 1000 u = 0 ∧ ∃ sh, pR S9 1109 x = some sh ∧ ShI S9 sh 16 ∧ (pI S9 800 q = 0 ∧ mA S9 q 807 = prcF) ∧ ∃ rh, pR S9 1106 x = some rh ∧ RuD S9 rh) := by
  refine ent_m (cc := cX11_init) (maxL := 2) (ret := none) (by decide) rfl (Nat.le_of_ble_eq_true rfl) ?_
  intro p e s m below meth c ls X hr hlocks hin hw hl hsz
  subst hsz
  have X : Cx p c cX11_init 2 s [.ref x].toArray wsX11_init RX11 m G cy κ (AS S s.heap.size) := X
  have hl : lv_has ls 2 [(0, .ref x)] := hl
  have hpc0 : Phc S = Phc S + 0 := rfl
  have hps0 : Phs S = Phs S + 0 := rfl
  have hK : Kq S S x := Kq.rf S _
  generalize hQQ : MQ below _ _ _ _ _ _ = QQ
  replace hQQ := hQQ.symm
  refine lv_aload_n X.1 X.2.1 dX11_init_0 rfl (lv_at hl 0 rfl) ?_
  refine W.objInit X.1 X.2.1 X.2.2.2.2.1 (X.2.2.2.1 (.methodLink RX11 3 objectInit) (by decide +kernel)) (X.2.2.2.1 (.instanceMethod objectInit) (by decide +kernel)) (X.2.2.2.1 (.code objectInit ⟨#[0xb1]⟩ 1 none) (by decide +kernel)) rfl (hl.1.trans X.2.2.1.symm) rfl dX11_init_1 (Nat.le_of_ble_eq_true rfl) (Nat.le_of_ble_eq_true rfl) ?_
  refine W.eq (g2 := F0 m 4 ls ([])) rfl ?_
  refine lv_aload_n X.1 X.2.1 dX11_init_4 rfl (lv_at hl 0 rfl) ?_
  refine lv_sipush (v := 600) X.1 X.2.1 dX11_init_5 (by decide) ?_
  refine r_newQ (N := 600) (C := RX0) X hw 36 16 600 1 rfl (by decide) rfl (X.2.2.2.1 (.classLink RX11 9 RX0) (by decide +kernel)) X.2.2.2.2.2.2.2.1.1.1 (z_nn ti_600 (by omega)) (by decide) (by decide) (by show 0 + 1 ≤ 1; omega) (by show 0 + 600 ≤ 600; omega) (by show 1 ≤ 58; omega) (by show 600 ≤ 1728; omega) dX11_init_8 (fun q_1 H hq_1 hw => ?_)
  obtain ⟨S_2, eS_2⟩ : ∃ T, T = sN S q_1 36 600 := ⟨_, rfl⟩
  rw [← eS_2] at hw
  have ph_3 : Phc S_2 = Phc S + 0 := (show Phc S_2 = Phc S from Ph_sN' hG.ci hq_1 eS_2 (by decide)).trans hpc0
  have ph_4 : Phs S_2 = Phs S + 0 := (show Phs S_2 = Phs S from Ph_sN' hG.ci hq_1 eS_2 (by decide)).trans hps0
  clear hpc0
  clear hps0
  have hK_5 : Kq S S_2 x := hK.sN hq_1 eS_2
  have hg_6 : GX S_2 := by rw [eS_2]; exact GX_N hG hq_1 (by decide +kernel)
  have hn0_q_1 := hK.new hq_1
  have ha_7 : At S_2 q_1 36 := by rw [eS_2]; exact At_nN _ _ _ _
  have hn_8 : pN S_2 q_1 = 600 := by rw [eS_2]; exact pN_sN_new
  have t_9 : At S_2 x 191 := by rw [eS_2]; exact At_sN ha_x hq_1
  refine r_putR X hw t_9 rfl 0 1100 (some q_1) rfl tyX11 (by decide) rfl inn_X11_init_11 tyX11_ok nmX11 (by decide) (X.2.2.2.1 (.fieldLink RX11 11 "SilkMill" "cocoons" "[LSilkMill$Cocoon;") (by decide +kernel)) rfl (Or.inr ⟨rfl, hin, rfl⟩) (fun _ => rfl) rfl (fun _ => rfl) rfl (Nat.le_of_ble_eq_true rfl) (st_1100 _ _) dX11_init_11 (fun H locs hw => ?_)
  obtain ⟨S_10, eS_10⟩ : ∃ T, T = sR S_2 1100 x (some q_1) := ⟨_, rfl⟩
  rw [← eS_10] at hw
  have ph_11 : Phc S_10 = Phc S + 0 := (show Phc S_10 = Phc S_2 from Ph_rawR t_9 (by decide) eS_10).trans ph_3
  have ph_12 : Phs S_10 = Phs S + 0 := (show Phs S_10 = Phs S_2 from Ph_rawR t_9 (by decide) eS_10).trans ph_4
  clear ph_3
  clear ph_4
  have hK_13 : Kq S S_10 x := hK_5.sR eS_10
  have hg_14 : GX S_10 := by rw [eS_10]; exact GX_rawR hg_6 t_9 (by decide +kernel)
  have h_15 : pR S_10 1100 x = some q_1 := tR_sRs eS_10
  refine lv_aload_n X.1 X.2.1 dX11_init_14 rfl (lv_at hl 0 rfl) ?_
  refine lv_bipush (v := 10) X.1 X.2.1 dX11_init_15 (by decide) ?_
  refine r_newI (N := 10) X hw 54 610 2 rfl (X.2.2.2.1 (.arrayClass .int) (by decide +kernel)) (z_nn ti_10 (by omega)) (by decide) (by decide) (by show 1 + 1 ≤ 2; omega) (by show 600 + 10 ≤ 610; omega) (by show 2 ≤ 58; omega) (by show 610 ≤ 1728; omega) dX11_init_17 (fun q_16 H hq_16 hw => ?_)
  obtain ⟨S_17, eS_17⟩ : ∃ T, T = sN S_10 q_16 54 10 := ⟨_, rfl⟩
  rw [← eS_17] at hw
  have ph_18 : Phc S_17 = Phc S + 0 := (show Phc S_17 = Phc S_10 from Ph_sN' hg_14.ci hq_16 eS_17 (by decide)).trans ph_11
  have ph_19 : Phs S_17 = Phs S + 0 := (show Phs S_17 = Phs S_10 from Ph_sN' hg_14.ci hq_16 eS_17 (by decide)).trans ph_12
  clear ph_11
  clear ph_12
  have hK_20 : Kq S S_17 x := hK_13.sN hq_16 eS_17
  have hg_21 : GX S_17 := by rw [eS_17]; exact GX_N hg_14 hq_16 (by decide +kernel)
  have hn0_q_16 := hK_13.new hq_16
  have ha_22 : At S_17 q_16 54 := by rw [eS_17]; exact At_nN _ _ _ _
  have hn_23 : pN S_17 q_16 = 10 := by rw [eS_17]; exact pN_sN_new
  have t_24 : At S_10 x 191 := tAt_sR eS_10 t_9
  have t_25 : At S_17 x 191 := by rw [eS_17]; exact At_sN t_24 hq_16
  refine r_putR X hw t_25 rfl 1 1101 (some q_16) rfl tyX11 (by decide) rfl inn_X11_init_11 tyX11_ok nmX11 (by decide) (X.2.2.2.1 (.fieldLink RX11 15 "SilkMill" "lotSizes" "[I") (by decide +kernel)) rfl (Or.inr ⟨rfl, hin, rfl⟩) (fun _ => rfl) rfl (fun _ => rfl) rfl (Nat.le_of_ble_eq_true rfl) (st_1101 _ _) dX11_init_19 (fun H locs hw => ?_)
  obtain ⟨S_26, eS_26⟩ : ∃ T, T = sR S_17 1101 x (some q_16) := ⟨_, rfl⟩
  rw [← eS_26] at hw
  have ph_27 : Phc S_26 = Phc S + 0 := (show Phc S_26 = Phc S_17 from Ph_rawR t_25 (by decide) eS_26).trans ph_18
  have ph_28 : Phs S_26 = Phs S + 0 := (show Phs S_26 = Phs S_17 from Ph_rawR t_25 (by decide) eS_26).trans ph_19
  clear ph_18
  clear ph_19
  have hK_29 : Kq S S_26 x := hK_20.sR eS_26
  have hg_30 : GX S_26 := by rw [eS_26]; exact GX_rawR hg_21 t_25 (by decide +kernel)
  have h_31 : pR S_26 1101 x = some q_16 := tR_sRs eS_26
  refine lv_aload_n X.1 X.2.1 dX11_init_22 rfl (lv_at hl 0 rfl) ?_
  refine lv_iconst (v := 4) X.1 X.2.1 dX11_init_23 (by decide) ?_
  refine r_newQ (N := 4) (C := RX4) X hw 18 18 614 3 rfl (by decide) rfl (X.2.2.2.1 (.classLink RX11 19 RX4) (by decide +kernel)) X.2.2.2.2.2.2.2.1.1.2.2.1 (z_nn ti_4 (by omega)) (by decide) (by decide) (by show 2 + 1 ≤ 3; omega) (by show 610 + 4 ≤ 614; omega) (by show 3 ≤ 58; omega) (by show 614 ≤ 1728; omega) dX11_init_24 (fun q_32 H hq_32 hw => ?_)
  obtain ⟨S_33, eS_33⟩ : ∃ T, T = sN S_26 q_32 18 4 := ⟨_, rfl⟩
  rw [← eS_33] at hw
  have ph_34 : Phc S_33 = Phc S + 0 := (show Phc S_33 = Phc S_26 from Ph_sN' hg_30.ci hq_32 eS_33 (by decide)).trans ph_27
  have ph_35 : Phs S_33 = Phs S + 0 := (show Phs S_33 = Phs S_26 from Ph_sN' hg_30.ci hq_32 eS_33 (by decide)).trans ph_28
  clear ph_27
  clear ph_28
  have hK_36 : Kq S S_33 x := hK_29.sN hq_32 eS_33
  have hg_37 : GX S_33 := by rw [eS_33]; exact GX_N hg_30 hq_32 (by decide +kernel)
  have hn0_q_32 := hK_29.new hq_32
  have ha_38 : At S_33 q_32 18 := by rw [eS_33]; exact At_nN _ _ _ _
  have hn_39 : pN S_33 q_32 = 4 := by rw [eS_33]; exact pN_sN_new
  have t_40 : At S_26 x 191 := tAt_sR eS_26 t_25
  have t_41 : At S_33 x 191 := by rw [eS_33]; exact At_sN t_40 hq_32
  refine r_putR X hw t_41 rfl 3 1103 (some q_32) rfl tyX11 (by decide) rfl inn_X11_init_11 tyX11_ok nmX11 (by decide) (X.2.2.2.1 (.fieldLink RX11 21 "SilkMill" "pots" "[LSilkMill$Pot;") (by decide +kernel)) rfl (Or.inr ⟨rfl, hin, rfl⟩) (fun _ => rfl) rfl (fun _ => rfl) rfl (Nat.le_of_ble_eq_true rfl) (st_1103 _ _) dX11_init_27 (fun H locs hw => ?_)
  obtain ⟨S_42, eS_42⟩ : ∃ T, T = sR S_33 1103 x (some q_32) := ⟨_, rfl⟩
  rw [← eS_42] at hw
  have ph_43 : Phc S_42 = Phc S + 0 := (show Phc S_42 = Phc S_33 from Ph_rawR t_41 (by decide) eS_42).trans ph_34
  have ph_44 : Phs S_42 = Phs S + 0 := (show Phs S_42 = Phs S_33 from Ph_rawR t_41 (by decide) eS_42).trans ph_35
  clear ph_34
  clear ph_35
  have hK_45 : Kq S S_42 x := hK_36.sR eS_42
  have hg_46 : GX S_42 := by rw [eS_42]; exact GX_rawR hg_37 t_41 (by decide +kernel)
  have h_47 : pR S_42 1103 x = some q_32 := tR_sRs eS_42
  refine lv_aload_n X.1 X.2.1 dX11_init_30 rfl (lv_at hl 0 rfl) ?_
  refine r_new X hw 190 10 621 4 rfl tyX10 (by decide) rfl inn_X11_init_10 tyX10_ok (X.2.2.2.1 (.classLink RX11 25 RX10) (by decide +kernel)) (X.2.2.2.1 (.instantiable RX10 7) (by decide +kernel)) (X.2.2.2.1 (.initialized RX10) (by decide +kernel)) (zo_10 _) zd_10 (by show 3 + 1 ≤ 4; omega) (by show 614 + 7 ≤ 621; omega) (by show 4 ≤ 58; omega) (by show 621 ≤ 1728; omega) dX11_init_31 (fun q_48 H hq_48 hw => ?_)
  obtain ⟨S_49, eS_49⟩ : ∃ T, T = sO S_42 q_48 190 := ⟨_, rfl⟩
  rw [← eS_49] at hw
  have ph_50 : Phc S_49 = Phc S + 0 := (show Phc S_49 = Phc S_42 from Ph_sO hg_46 hq_48 eS_49 (by decide)).trans ph_43
  have ph_51 : Phs S_49 = Phs S + 0 := (show Phs S_49 = Phs S_42 from Ph_sO hg_46 hq_48 eS_49 (by decide)).trans ph_44
  clear ph_43
  clear ph_44
  have hK_52 : Kq S S_49 x := hK_45.sO hq_48 eS_49
  have hg_53 : GX S_49 := by rw [eS_49]; exact GX_O hg_46 hq_48 (by decide +kernel)
  have hn0_q_48 := hK_45.new hq_48
  have ha_54 : At S_49 q_48 190 := by rw [eS_49]; exact At_nO _ _ _
  have hzI_q_48 : ∀ g, pI S_49 g q_48 = 0 := fun g => by rw [eS_49]; exact pI_sO_new
  have hzR_q_48 : ∀ g, pR S_49 g q_48 = none := fun g => by rw [eS_49]; exact if_pos rfl
  refine lv_dup X.1 X.2.1 dX11_init_34 rfl ?_
  refine k_v (rm := { frames := 2, cells := 1, slots := 400, locals := 96 }) (av := [.ref q_48]) X hw (va_runIN (As := []) (rest := [.ref q_48, .ref x]) (cfix X) (k_X10_init l G cy κ S_49 _ q_48 hg_53 ha_54 hzI_q_48 hzR_q_48) ⟨(va_cnB (host := RX11) 0 X.2.2.2.1 gX11_init_X10_init_n27 rfl rfl rfl (X.2.2.2.2.2.2.2.1.2.1 (RX11, 27, yX10_init) (by decide +kernel)) (X.2.2.2.1 (.initialized RX10) (by decide +kernel)) (by decide +kernel) ⟨Nat.le_of_ble_eq_true rfl, Nat.le_of_ble_eq_true rfl⟩), rfl, (X.2.2.2.1 (.instanceMethod yX10_init) (by decide +kernel))⟩ (pre_S X hw _) rfl rfl hl.1 rfl (lv_room (Nat.le_of_ble_eq_true rfl)) dX11_init_35 ⟨(by show 4 + 1 ≤ 58; omega), (by show 621 + 400 ≤ 1728; omega)⟩) 5 1021 (by show 4 + 1 ≤ 5; omega) (by show 621 + 400 ≤ 1021; omega) (fun S_56 H locs hp hw hfr hnw => ?_)
  obtain ⟨hK_57, hg_58, ha_59, ph_60, ph_61, kz_62⟩ := hp
  have hK_63 : Kq S S_56 x := hK_52.sub hn0_q_48 hK_57
  have ph_64 : Phc S_56 = Phc S + 0 := by omega
  have ph_65 : Phs S_56 = Phs S + 0 := by omega
  clear ph_50
  clear ph_51
  clear ph_60
  clear ph_61
  have t_66 : At S_42 x 191 := tAt_sR eS_42 t_41
  have t_67 : At S_49 x 191 := by rw [eS_49]; exact At_sO t_66 hq_48
  have t_68 : At S_56 x 191 := hK_57.at ha_54 t_67 (by decide)
  refine r_putR X hw t_68 rfl 5 1105 (some q_48) rfl tyX11 (by decide) rfl inn_X11_init_11 tyX11_ok nmX11 (by decide) (X.2.2.2.1 (.fieldLink RX11 28 "SilkMill" "tape" "LSilkMill$Tape;") (by decide +kernel)) rfl (Or.inr ⟨rfl, hin, rfl⟩) (fun _ => rfl) rfl (fun _ => rfl) rfl (Nat.le_of_ble_eq_true rfl) (st_1105 _ _) dX11_init_38 (fun H locs hw => ?_)
  obtain ⟨S_69, eS_69⟩ : ∃ T, T = sR S_56 1105 x (some q_48) := ⟨_, rfl⟩
  rw [← eS_69] at hw
  have ph_70 : Phc S_69 = Phc S + 0 := (show Phc S_69 = Phc S_56 from Ph_rawR t_68 (by decide) eS_69).trans ph_64
  have ph_71 : Phs S_69 = Phs S + 0 := (show Phs S_69 = Phs S_56 from Ph_rawR t_68 (by decide) eS_69).trans ph_65
  clear ph_64
  clear ph_65
  have hK_72 : Kq S S_69 x := hK_63.sR eS_69
  have hg_73 : GX S_69 := by rw [eS_69]; exact GX_rawR hg_58 t_68 (by decide +kernel)
  have h_74 : pR S_69 1105 x = some q_48 := tR_sRs eS_69
  refine lv_aload_n X.1 X.2.1 dX11_init_41 rfl (lv_at hl 0 rfl) ?_
  refine r_new X hw 186 6 1028 6 rfl tyX6 (by decide) rfl inn_X11_init_6 tyX6_ok (X.2.2.2.1 (.classLink RX11 32 RX6) (by decide +kernel)) (X.2.2.2.1 (.instantiable RX6 7) (by decide +kernel)) (X.2.2.2.1 (.initialized RX6) (by decide +kernel)) (zo_6 _) zd_6 (by show 5 + 1 ≤ 6; omega) (by show 1021 + 7 ≤ 1028; omega) (by show 6 ≤ 58; omega) (by show 1028 ≤ 1728; omega) dX11_init_42 (fun q_75 H hq_75 hw => ?_)
  obtain ⟨S_76, eS_76⟩ : ∃ T, T = sO S_69 q_75 186 := ⟨_, rfl⟩
  rw [← eS_76] at hw
  have ph_77 : Phc S_76 = Phc S + 0 := (show Phc S_76 = Phc S_69 from Ph_sO hg_73 hq_75 eS_76 (by decide)).trans ph_70
  have ph_78 : Phs S_76 = Phs S + 0 := (show Phs S_76 = Phs S_69 from Ph_sO hg_73 hq_75 eS_76 (by decide)).trans ph_71
  clear ph_70
  clear ph_71
  have hK_79 : Kq S S_76 x := hK_72.sO hq_75 eS_76
  have hg_80 : GX S_76 := by rw [eS_76]; exact GX_O hg_73 hq_75 (by decide +kernel)
  have hn0_q_75 := hK_72.new hq_75
  have ha_81 : At S_76 q_75 186 := by rw [eS_76]; exact At_nO _ _ _
  have hzI_q_75 : ∀ g, pI S_76 g q_75 = 0 := fun g => by rw [eS_76]; exact pI_sO_new
  have hzR_q_75 : ∀ g, pR S_76 g q_75 = none := fun g => by rw [eS_76]; exact if_pos rfl
  refine lv_dup X.1 X.2.1 dX11_init_45 rfl ?_
  refine k_v (rm := { frames := 2, cells := 6, slots := 180, locals := 96 }) (av := [.ref q_75]) X hw (va_runIN (As := []) (rest := [.ref q_75, .ref x]) (cfix X) (k_X6_init6 l G cy κ S_76 _ q_75 hg_80 ha_81 hzI_q_75 hzR_q_75) ⟨(va_cnB (host := RX11) 0 X.2.2.2.1 gX11_init_X6_init_n34 rfl rfl rfl (X.2.2.2.2.2.2.2.1.2.1 (RX11, 34, yX6_init) (by decide +kernel)) (X.2.2.2.1 (.initialized RX6) (by decide +kernel)) (by decide +kernel) ⟨Nat.le_of_ble_eq_true rfl, Nat.le_of_ble_eq_true rfl⟩), rfl, (X.2.2.2.1 (.instanceMethod yX6_init) (by decide +kernel))⟩ (pre_S X hw _) rfl rfl hl.1 rfl (lv_room (Nat.le_of_ble_eq_true rfl)) dX11_init_46 ⟨(by show 6 + 6 ≤ 58; omega), (by show 1028 + 180 ≤ 1728; omega)⟩) 12 1208 (by show 6 + 6 ≤ 12; omega) (by show 1028 + 180 ≤ 1208; omega) (fun S_83 H locs hp hw hfr hnw => ?_)
  obtain ⟨hK_84, hg_85, ha_86, ph_87, ph_88, kx_89, kx_90⟩ := hp
  have hK_91 : Kq S S_83 x := hK_79.sub hn0_q_75 hK_84
  have ph_92 : Phc S_83 = Phc S + 0 := by omega
  have ph_93 : Phs S_83 = Phs S + 0 := by omega
  clear ph_77
  clear ph_78
  clear ph_87
  clear ph_88
  obtain ⟨q_94, h_95, h_96, h_97⟩ := gQ_6_601 hg_85 ha_86
  obtain ⟨q_98, h_99, h_100, h_101⟩ := gQ_6_602 hg_85 ha_86
  obtain ⟨q_102, h_103, h_104, h_105⟩ := gQ_6_604 hg_85 ha_86
  obtain ⟨q_106, h_107, h_108, h_109⟩ := gQ_6_605 hg_85 ha_86
  obtain ⟨q_110, h_111, h_112, h_113⟩ := gQ_6_606 hg_85 ha_86
  have rd_114 : q_94 ≠ q_98 ∧ q_94 ≠ q_102 ∧ q_94 ≠ q_106 ∧ q_94 ≠ q_110 ∧ q_98 ≠ q_102 ∧ q_98 ≠ q_106 ∧ q_98 ≠ q_110 ∧ q_102 ≠ q_106 ∧ q_102 ≠ q_110 ∧ q_106 ≠ q_110 := by
    obtain ⟨a1, a2, a4, a5, a6, ⟨b1, b2, b4, b5, b6⟩, c⟩ := kx_90.1
    rw [h_95] at b1; cases b1
    rw [h_99] at b2; cases b2
    rw [h_103] at b4; cases b4
    rw [h_107] at b5; cases b5
    rw [h_111] at b6; cases b6
    exact c
  have t_115 : At S_69 x 191 := tAt_sR eS_69 t_68
  have t_116 : At S_76 x 191 := by rw [eS_76]; exact At_sO t_115 hq_75
  have t_117 : At S_83 x 191 := hK_84.at ha_81 t_116 (by decide)
  refine r_putR X hw t_117 rfl 6 1106 (some q_75) rfl tyX11 (by decide) rfl inn_X11_init_11 tyX11_ok nmX11 (by decide) (X.2.2.2.1 (.fieldLink RX11 35 "SilkMill" "spareRules" "LSilkMill$Rules;") (by decide +kernel)) rfl (Or.inl rfl) (fun _ => rfl) rfl (fun _ => rfl) rfl (Nat.le_of_ble_eq_true rfl) (st_1106 _ _) dX11_init_49 (fun H locs hw => ?_)
  obtain ⟨S_118, eS_118⟩ : ∃ T, T = sR S_83 1106 x (some q_75) := ⟨_, rfl⟩
  rw [← eS_118] at hw
  have ph_119 : Phc S_118 = Phc S + 0 := (show Phc S_118 = Phc S_83 from Ph_rawR t_117 (by decide) eS_118).trans ph_92
  have ph_120 : Phs S_118 = Phs S + 0 := (show Phs S_118 = Phs S_83 from Ph_rawR t_117 (by decide) eS_118).trans ph_93
  clear ph_92
  clear ph_93
  have hK_121 : Kq S S_118 x := hK_91.sR eS_118
  have hg_122 : GX S_118 := by rw [eS_118]; exact GX_rawR hg_85 t_117 (by decide +kernel)
  have h_123 : pR S_118 1106 x = some q_75 := tR_sRs eS_118
  refine lv_aload_n X.1 X.2.1 dX11_init_52 rfl (lv_at hl 0 rfl) ?_
  refine r_new X hw 188 8 1221 13 rfl tyX8 (by decide) rfl inn_X11_init_8 tyX8_ok (X.2.2.2.1 (.classLink RX11 39 RX8) (by decide +kernel)) (X.2.2.2.1 (.instantiable RX8 13) (by decide +kernel)) (X.2.2.2.1 (.initialized RX8) (by decide +kernel)) (zo_8 _) zd_8 (by show 12 + 1 ≤ 13; omega) (by show 1208 + 13 ≤ 1221; omega) (by show 13 ≤ 58; omega) (by show 1221 ≤ 1728; omega) dX11_init_53 (fun q_124 H hq_124 hw => ?_)
  obtain ⟨S_125, eS_125⟩ : ∃ T, T = sO S_118 q_124 188 := ⟨_, rfl⟩
  rw [← eS_125] at hw
  have ph_126 : Phc S_125 = Phc S + 0 := (show Phc S_125 = Phc S_118 from Ph_sO hg_122 hq_124 eS_125 (by decide)).trans ph_119
  have ph_127 : Phs S_125 = Phs S + 0 := (show Phs S_125 = Phs S_118 from Ph_sO hg_122 hq_124 eS_125 (by decide)).trans ph_120
  clear ph_119
  clear ph_120
  have hK_128 : Kq S S_125 x := hK_121.sO hq_124 eS_125
  have hg_129 : GX S_125 := by rw [eS_125]; exact GX_O hg_122 hq_124 (by decide +kernel)
  have hn0_q_124 := hK_121.new hq_124
  have ha_130 : At S_125 q_124 188 := by rw [eS_125]; exact At_nO _ _ _
  have hzI_q_124 : ∀ g, pI S_125 g q_124 = 0 := fun g => by rw [eS_125]; exact pI_sO_new
  have hzR_q_124 : ∀ g, pR S_125 g q_124 = none := fun g => by rw [eS_125]; exact if_pos rfl
  refine lv_dup X.1 X.2.1 dX11_init_56 rfl ?_
  refine k_v (rm := { frames := 3, cells := 9, slots := 214, locals := 144 }) (av := [.ref q_124]) X hw (va_runIN (As := []) (rest := [.ref q_124, .ref x]) (cfix X) (k_X8_init6 l G cy κ S_125 _ q_124 hg_129 ha_130 hzI_q_124 hzR_q_124) ⟨(va_cnB (host := RX11) 0 X.2.2.2.1 gX11_init_X8_init_n41 rfl rfl rfl (X.2.2.2.2.2.2.2.1.2.1 (RX11, 41, yX8_init) (by decide +kernel)) (X.2.2.2.1 (.initialized RX8) (by decide +kernel)) (by decide +kernel) ⟨Nat.le_of_ble_eq_true rfl, Nat.le_of_ble_eq_true rfl⟩), rfl, (X.2.2.2.1 (.instanceMethod yX8_init) (by decide +kernel))⟩ (pre_S X hw _) rfl rfl hl.1 rfl (lv_room (Nat.le_of_ble_eq_true rfl)) dX11_init_57 ⟨(by show 13 + 9 ≤ 58; omega), (by show 1221 + 214 ≤ 1728; omega)⟩) 22 1435 (by show 13 + 9 ≤ 22; omega) (by show 1221 + 214 ≤ 1435; omega) (fun S_132 H locs hp hw hfr hnw => ?_)
  obtain ⟨hK_133, hg_134, ha_135, ph_136, ph_137, kz_138, kz_139, kx_140⟩ := hp
  have hK_141 : Kq S S_132 x := hK_128.sub hn0_q_124 hK_133
  have ph_142 : Phc S_132 = Phc S + 320 := by omega
  have ph_143 : Phs S_132 = Phs S + 604000 := by omega
  clear ph_126
  clear ph_127
  clear ph_136
  clear ph_137
  obtain ⟨q_144, h_145, h_146, h_147⟩ := gQ_8_807 hg_134 ha_135
  have pp_148 : pA S_132 q_144 = prcF := by have h := kx_140; rw [mA_eq h_145] at h; exact h
  have t_149 : At S_118 x 191 := tAt_sR eS_118 t_117
  have t_150 : At S_125 x 191 := by rw [eS_125]; exact At_sO t_149 hq_124
  have t_151 : At S_132 x 191 := hK_133.at ha_130 t_150 (by decide)
  refine r_putR X hw t_151 rfl 7 1107 (some q_124) rfl tyX11 (by decide) rfl inn_X11_init_11 tyX11_ok nmX11 (by decide) (X.2.2.2.1 (.fieldLink RX11 42 "SilkMill" "store" "LSilkMill$Store;") (by decide +kernel)) rfl (Or.inr ⟨rfl, hin, rfl⟩) (fun _ => rfl) rfl (fun _ => rfl) rfl (Nat.le_of_ble_eq_true rfl) (st_1107 _ _) dX11_init_60 (fun H locs hw => ?_)
  obtain ⟨S_152, eS_152⟩ : ∃ T, T = sR S_132 1107 x (some q_124) := ⟨_, rfl⟩
  rw [← eS_152] at hw
  have ph_153 : Phc S_152 = Phc S + 320 := (show Phc S_152 = Phc S_132 from Ph_rawR t_151 (by decide) eS_152).trans ph_142
  have ph_154 : Phs S_152 = Phs S + 604000 := (show Phs S_152 = Phs S_132 from Ph_rawR t_151 (by decide) eS_152).trans ph_143
  clear ph_142
  clear ph_143
  have hK_155 : Kq S S_152 x := hK_141.sR eS_152
  have hg_156 : GX S_152 := by rw [eS_152]; exact GX_rawR hg_134 t_151 (by decide +kernel)
  have h_157 : pR S_152 1107 x = some q_124 := tR_sRs eS_152
  refine lv_aload_n X.1 X.2.1 dX11_init_63 rfl (lv_at hl 0 rfl) ?_
  refine r_new X hw 181 1 1439 23 rfl tyX1 (by decide) rfl inn_X11_init_1 tyX1_ok (X.2.2.2.1 (.classLink RX11 46 RX1) (by decide +kernel)) (X.2.2.2.1 (.instantiable RX1 4) (by decide +kernel)) (X.2.2.2.1 (.initialized RX1) (by decide +kernel)) (zo_1 _) zd_1 (by show 22 + 1 ≤ 23; omega) (by show 1435 + 4 ≤ 1439; omega) (by show 23 ≤ 58; omega) (by show 1439 ≤ 1728; omega) dX11_init_64 (fun q_158 H hq_158 hw => ?_)
  obtain ⟨S_159, eS_159⟩ : ∃ T, T = sO S_152 q_158 181 := ⟨_, rfl⟩
  rw [← eS_159] at hw
  have ph_160 : Phc S_159 = Phc S + 320 := (show Phc S_159 = Phc S_152 from Ph_sO hg_156 hq_158 eS_159 (by decide)).trans ph_153
  have ph_161 : Phs S_159 = Phs S + 604000 := (show Phs S_159 = Phs S_152 from Ph_sO hg_156 hq_158 eS_159 (by decide)).trans ph_154
  clear ph_153
  clear ph_154
  have hK_162 : Kq S S_159 x := hK_155.sO hq_158 eS_159
  have hg_163 : GX S_159 := by rw [eS_159]; exact GX_O hg_156 hq_158 (by decide +kernel)
  have hn0_q_158 := hK_155.new hq_158
  have ha_164 : At S_159 q_158 181 := by rw [eS_159]; exact At_nO _ _ _
  have hzI_q_158 : ∀ g, pI S_159 g q_158 = 0 := fun g => by rw [eS_159]; exact pI_sO_new
  have hzR_q_158 : ∀ g, pR S_159 g q_158 = none := fun g => by rw [eS_159]; exact if_pos rfl
  refine lv_dup X.1 X.2.1 dX11_init_67 rfl ?_
  refine k_v (rm := { frames := 2, cells := 1, slots := 5, locals := 96 }) (av := [.ref q_158]) X hw (va_runIN (As := []) (rest := [.ref q_158, .ref x]) (cfix X) (k_X1_init l G cy κ S_159 _ q_158 hg_163 ha_164 hzI_q_158 hzR_q_158) ⟨(va_cnB (host := RX11) 0 X.2.2.2.1 gX11_init_X1_init_n48 rfl rfl rfl (X.2.2.2.2.2.2.2.1.2.1 (RX11, 48, yX1_init) (by decide +kernel)) (X.2.2.2.1 (.initialized RX1) (by decide +kernel)) (by decide +kernel) ⟨Nat.le_of_ble_eq_true rfl, Nat.le_of_ble_eq_true rfl⟩), rfl, (X.2.2.2.1 (.instanceMethod yX1_init) (by decide +kernel))⟩ (pre_S X hw _) rfl rfl hl.1 rfl (lv_room (Nat.le_of_ble_eq_true rfl)) dX11_init_68 ⟨(by show 23 + 1 ≤ 58; omega), (by show 1439 + 5 ≤ 1728; omega)⟩) 24 1444 (by show 23 + 1 ≤ 24; omega) (by show 1439 + 5 ≤ 1444; omega) (fun S_166 H locs hp hw hfr hnw => ?_)
  obtain ⟨hK_167, hg_168, ha_169, ph_170, ph_171⟩ := hp
  have hK_172 : Kq S S_166 x := hK_162.sub hn0_q_158 hK_167
  have ph_173 : Phc S_166 = Phc S + 320 := by omega
  have ph_174 : Phs S_166 = Phs S + 604000 := by omega
  clear ph_160
  clear ph_161
  clear ph_170
  clear ph_171
  have t_175 : At S_152 x 191 := tAt_sR eS_152 t_151
  have t_176 : At S_159 x 191 := by rw [eS_159]; exact At_sO t_175 hq_158
  have t_177 : At S_166 x 191 := hK_167.at ha_164 t_176 (by decide)
  refine r_putR X hw t_177 rfl 8 1108 (some q_158) rfl tyX11 (by decide) rfl inn_X11_init_11 tyX11_ok nmX11 (by decide) (X.2.2.2.1 (.fieldLink RX11 49 "SilkMill" "latestDraw" "LSilkMill$Draw;") (by decide +kernel)) rfl (Or.inr ⟨rfl, hin, rfl⟩) (fun _ => rfl) rfl (fun _ => rfl) rfl (Nat.le_of_ble_eq_true rfl) (st_1108 _ _) dX11_init_71 (fun H locs hw => ?_)
  obtain ⟨S_178, eS_178⟩ : ∃ T, T = sR S_166 1108 x (some q_158) := ⟨_, rfl⟩
  rw [← eS_178] at hw
  have ph_179 : Phc S_178 = Phc S + 320 := (show Phc S_178 = Phc S_166 from Ph_rawR t_177 (by decide) eS_178).trans ph_173
  have ph_180 : Phs S_178 = Phs S + 604000 := (show Phs S_178 = Phs S_166 from Ph_rawR t_177 (by decide) eS_178).trans ph_174
  clear ph_173
  clear ph_174
  have hK_181 : Kq S S_178 x := hK_172.sR eS_178
  have hg_182 : GX S_178 := by rw [eS_178]; exact GX_rawR hg_168 t_177 (by decide +kernel)
  have h_183 : pR S_178 1108 x = some q_158 := tR_sRs eS_178
  refine lv_aload_n X.1 X.2.1 dX11_init_74 rfl (lv_at hl 0 rfl) ?_
  refine lv_bipush (v := 16) X.1 X.2.1 dX11_init_75 (by decide) ?_
  refine r_newQ (N := 16) (C := RX3) X hw 17 17 1460 25 rfl (by decide) rfl (X.2.2.2.1 (.classLink RX11 53 RX3) (by decide +kernel)) X.2.2.2.2.2.2.2.1.1.2.1 (z_nn ti_16 (by omega)) (by decide) (by decide) (by show 24 + 1 ≤ 25; omega) (by show 1444 + 16 ≤ 1460; omega) (by show 25 ≤ 58; omega) (by show 1460 ≤ 1728; omega) dX11_init_77 (fun q_184 H hq_184 hw => ?_)
  obtain ⟨S_185, eS_185⟩ : ∃ T, T = sN S_178 q_184 17 16 := ⟨_, rfl⟩
  rw [← eS_185] at hw
  have ph_186 : Phc S_185 = Phc S + 320 := (show Phc S_185 = Phc S_178 from Ph_sN' hg_182.ci hq_184 eS_185 (by decide)).trans ph_179
  have ph_187 : Phs S_185 = Phs S + 604000 := (show Phs S_185 = Phs S_178 from Ph_sN' hg_182.ci hq_184 eS_185 (by decide)).trans ph_180
  clear ph_179
  clear ph_180
  have hK_188 : Kq S S_185 x := hK_181.sN hq_184 eS_185
  have hg_189 : GX S_185 := by rw [eS_185]; exact GX_N hg_182 hq_184 (by decide +kernel)
  have hn0_q_184 := hK_181.new hq_184
  have ha_190 : At S_185 q_184 17 := by rw [eS_185]; exact At_nN _ _ _ _
  have hn_191 : pN S_185 q_184 = 16 := by rw [eS_185]; exact pN_sN_new
  have t_192 : At S_178 x 191 := tAt_sR eS_178 t_177
  have t_193 : At S_185 x 191 := by rw [eS_185]; exact At_sN t_192 hq_184
  refine r_putR X hw t_193 rfl 9 1109 (some q_184) rfl tyX11 (by decide) rfl inn_X11_init_11 tyX11_ok nmX11 (by decide) (X.2.2.2.1 (.fieldLink RX11 55 "SilkMill" "shelf" "[LSilkMill$Place;") (by decide +kernel)) rfl (Or.inr ⟨rfl, hin, rfl⟩) (fun _ => rfl) rfl (fun _ => rfl) rfl (Nat.le_of_ble_eq_true rfl) (st_1109 _ _) dX11_init_80 (fun H locs hw => ?_)
  obtain ⟨S_194, eS_194⟩ : ∃ T, T = sR S_185 1109 x (some q_184) := ⟨_, rfl⟩
  rw [← eS_194] at hw
  have ph_195 : Phc S_194 = Phc S + 320 := (show Phc S_194 = Phc S_185 from Ph_rawR t_193 (by decide) eS_194).trans ph_186
  have ph_196 : Phs S_194 = Phs S + 604000 := (show Phs S_194 = Phs S_185 from Ph_rawR t_193 (by decide) eS_194).trans ph_187
  clear ph_186
  clear ph_187
  have hK_197 : Kq S S_194 x := hK_188.sR eS_194
  have hg_198 : GX S_194 := by rw [eS_194]; exact GX_rawR hg_189 t_193 (by decide +kernel)
  have h_199 : pR S_194 1109 x = some q_184 := tR_sRs eS_194
  refine lv_aload_n X.1 X.2.1 dX11_init_83 rfl (lv_at hl 0 rfl) ?_
  refine lv_bipush (v := 60) X.1 X.2.1 dX11_init_84 (by decide) ?_
  refine r_newI (N := 60) X hw 194 1520 26 rfl (X.2.2.2.1 (.arrayClass .int) (by decide +kernel)) (z_nn ti_60 (by omega)) (by decide) (by decide) (by show 25 + 1 ≤ 26; omega) (by show 1460 + 60 ≤ 1520; omega) (by show 26 ≤ 58; omega) (by show 1520 ≤ 1728; omega) dX11_init_86 (fun q_200 H hq_200 hw => ?_)
  obtain ⟨S_201, eS_201⟩ : ∃ T, T = sN S_194 q_200 194 60 := ⟨_, rfl⟩
  rw [← eS_201] at hw
  have ph_202 : Phc S_201 = Phc S + 320 := (show Phc S_201 = Phc S_194 from Ph_sN' hg_198.ci hq_200 eS_201 (by decide)).trans ph_195
  have ph_203 : Phs S_201 = Phs S + 604000 := (show Phs S_201 = Phs S_194 from Ph_sN' hg_198.ci hq_200 eS_201 (by decide)).trans ph_196
  clear ph_195
  clear ph_196
  have hK_204 : Kq S S_201 x := hK_197.sN hq_200 eS_201
  have hg_205 : GX S_201 := by rw [eS_201]; exact GX_N hg_198 hq_200 (by decide +kernel)
  have hn0_q_200 := hK_197.new hq_200
  have ha_206 : At S_201 q_200 194 := by rw [eS_201]; exact At_nN _ _ _ _
  have hn_207 : pN S_201 q_200 = 60 := by rw [eS_201]; exact pN_sN_new
  have t_208 : At S_194 x 191 := tAt_sR eS_194 t_193
  have t_209 : At S_201 x 191 := by rw [eS_201]; exact At_sN t_208 hq_200
  refine r_putR X hw t_209 rfl 11 1111 (some q_200) rfl tyX11 (by decide) rfl inn_X11_init_11 tyX11_ok nmX11 (by decide) (X.2.2.2.1 (.fieldLink RX11 59 "SilkMill" "idle" "[I") (by decide +kernel)) rfl (Or.inr ⟨rfl, hin, rfl⟩) (fun _ => rfl) rfl (fun _ => rfl) rfl (Nat.le_of_ble_eq_true rfl) (st_1111 _ _) dX11_init_88 (fun H locs hw => ?_)
  obtain ⟨S_210, eS_210⟩ : ∃ T, T = sR S_201 1111 x (some q_200) := ⟨_, rfl⟩
  rw [← eS_210] at hw
  have ph_211 : Phc S_210 = Phc S + 320 := (show Phc S_210 = Phc S_201 from Ph_rawR t_209 (by decide) eS_210).trans ph_202
  have ph_212 : Phs S_210 = Phs S + 604000 := (show Phs S_210 = Phs S_201 from Ph_rawR t_209 (by decide) eS_210).trans ph_203
  clear ph_202
  clear ph_203
  have hK_213 : Kq S S_210 x := hK_204.sR eS_210
  have hg_214 : GX S_210 := by rw [eS_210]; exact GX_rawR hg_205 t_209 (by decide +kernel)
  have h_215 : pR S_210 1111 x = some q_200 := tR_sRs eS_210
  refine lv_iconst (v := 0) X.1 X.2.1 dX11_init_91 (by decide) ?_
  have t_216 : pR S_201 1109 x = some q_184 := by rw [eS_201, pR_sN]; exact h_199
  have t_217 : pR S_210 1109 x = some q_184 := tR_sR eS_210 rfl t_216
  refine lv_istore_n (lv' := [(1, .int 0), (0, .ref x)]) X.1 X.2.1 dX11_init_92 rfl hl (by decide) rfl (fun ls hl => ?_)
  have t_225 : At S_152 x 191 := tAt_sR eS_152 t_151
  have t_224 : pR S_159 1107 x = some q_124 := by rw [eS_159]; exact (pR_sO_ne (ne_of_new hq_158 t_225.1)).trans h_157
  have t_227 : At S_159 x 191 := by rw [eS_159]; exact At_sO t_225 hq_158
  have t_226 : pR S_166 1107 x = some q_124 := (((hK_167 x t_227.1).2 (At_ne t_227 ha_164 (by decide))).2.2.1 1107).trans t_224
  have t_228 : pR S_178 1107 x = some q_124 := tR_sR eS_178 rfl t_226
  have t_229 : pR S_185 1107 x = some q_124 := by rw [eS_185, pR_sN]; exact t_228
  have t_230 : pR S_194 1107 x = some q_124 := tR_sR eS_194 rfl t_229
  have t_231 : pR S_201 1107 x = some q_124 := by rw [eS_201, pR_sN]; exact t_230
  have t_232 : pR S_210 1107 x = some q_124 := tR_sR eS_210 rfl t_231
  have t_234 : At S_69 x 191 := tAt_sR eS_69 t_68
  have t_233 : pR S_76 1105 x = some q_48 := by rw [eS_76]; exact (pR_sO_ne (ne_of_new hq_75 t_234.1)).trans h_74
  have t_236 : At S_76 x 191 := by rw [eS_76]; exact At_sO t_234 hq_75
  have t_235 : pR S_83 1105 x = some q_48 := (((hK_84 x t_236.1).2 (At_ne t_236 ha_81 (by decide))).2.2.1 1105).trans t_233
  have t_237 : pR S_118 1105 x = some q_48 := tR_sR eS_118 rfl t_235
  have t_239 : At S_118 x 191 := tAt_sR eS_118 t_117
  have t_238 : pR S_125 1105 x = some q_48 := by rw [eS_125]; exact (pR_sO_ne (ne_of_new hq_124 t_239.1)).trans t_237
  have t_241 : At S_125 x 191 := by rw [eS_125]; exact At_sO t_239 hq_124
  have t_240 : pR S_132 1105 x = some q_48 := (((hK_133 x t_241.1).2 (At_ne t_241 ha_130 (by decide))).2.2.1 1105).trans t_238
  have t_242 : pR S_152 1105 x = some q_48 := tR_sR eS_152 rfl t_240
  have t_243 : pR S_159 1105 x = some q_48 := by rw [eS_159]; exact (pR_sO_ne (ne_of_new hq_158 t_225.1)).trans t_242
  have t_244 : pR S_166 1105 x = some q_48 := (((hK_167 x t_227.1).2 (At_ne t_227 ha_164 (by decide))).2.2.1 1105).trans t_243
  have t_245 : pR S_178 1105 x = some q_48 := tR_sR eS_178 rfl t_244
  have t_246 : pR S_185 1105 x = some q_48 := by rw [eS_185, pR_sN]; exact t_245
  have t_247 : pR S_194 1105 x = some q_48 := tR_sR eS_194 rfl t_246
  have t_248 : pR S_201 1105 x = some q_48 := by rw [eS_201, pR_sN]; exact t_247
  have t_249 : pR S_210 1105 x = some q_48 := tR_sR eS_210 rfl t_248
  have t_250 : pI S_2 1102 x = 0 := by rw [eS_2, pI_sN]; exact (hzI 1102)
  have t_251 : pI S_10 1102 x = 0 := tI_sR eS_10 t_250
  have t_252 : pI S_17 1102 x = 0 := by rw [eS_17, pI_sN]; exact t_251
  have t_253 : pI S_26 1102 x = 0 := tI_sR eS_26 t_252
  have t_254 : pI S_33 1102 x = 0 := by rw [eS_33, pI_sN]; exact t_253
  have t_255 : pI S_42 1102 x = 0 := tI_sR eS_42 t_254
  have t_257 : At S_42 x 191 := tAt_sR eS_42 t_41
  have t_256 : pI S_49 1102 x = 0 := by rw [eS_49]; exact (pI_sO_ne (ne_of_new hq_48 t_257.1)).trans t_255
  have t_259 : At S_49 x 191 := by rw [eS_49]; exact At_sO t_257 hq_48
  have t_258 : pI S_56 1102 x = 0 := (((hK_57 x t_259.1).2 (At_ne t_259 ha_54 (by decide))).2.1 1102).trans t_256
  have t_260 : pI S_69 1102 x = 0 := tI_sR eS_69 t_258
  have t_261 : pI S_76 1102 x = 0 := by rw [eS_76]; exact (pI_sO_ne (ne_of_new hq_75 t_234.1)).trans t_260
  have t_262 : pI S_83 1102 x = 0 := (((hK_84 x t_236.1).2 (At_ne t_236 ha_81 (by decide))).2.1 1102).trans t_261
  have t_263 : pI S_118 1102 x = 0 := tI_sR eS_118 t_262
  have t_264 : pI S_125 1102 x = 0 := by rw [eS_125]; exact (pI_sO_ne (ne_of_new hq_124 t_239.1)).trans t_263
  have t_265 : pI S_132 1102 x = 0 := (((hK_133 x t_241.1).2 (At_ne t_241 ha_130 (by decide))).2.1 1102).trans t_264
  have t_266 : pI S_152 1102 x = 0 := tI_sR eS_152 t_265
  have t_267 : pI S_159 1102 x = 0 := by rw [eS_159]; exact (pI_sO_ne (ne_of_new hq_158 t_225.1)).trans t_266
  have t_268 : pI S_166 1102 x = 0 := (((hK_167 x t_227.1).2 (At_ne t_227 ha_164 (by decide))).2.1 1102).trans t_267
  have t_269 : pI S_178 1102 x = 0 := tI_sR eS_178 t_268
  have t_270 : pI S_185 1102 x = 0 := by rw [eS_185, pI_sN]; exact t_269
  have t_271 : pI S_194 1102 x = 0 := tI_sR eS_194 t_270
  have t_272 : pI S_201 1102 x = 0 := by rw [eS_201, pI_sN]; exact t_271
  have t_273 : pI S_210 1102 x = 0 := tI_sR eS_210 t_272
  have t_275 : pI S_2 1104 x = 0 := by rw [eS_2, pI_sN]; exact (hzI 1104)
  have t_276 : pI S_10 1104 x = 0 := tI_sR eS_10 t_275
  have t_277 : pI S_17 1104 x = 0 := by rw [eS_17, pI_sN]; exact t_276
  have t_278 : pI S_26 1104 x = 0 := tI_sR eS_26 t_277
  have t_279 : pI S_33 1104 x = 0 := by rw [eS_33, pI_sN]; exact t_278
  have t_280 : pI S_42 1104 x = 0 := tI_sR eS_42 t_279
  have t_281 : pI S_49 1104 x = 0 := by rw [eS_49]; exact (pI_sO_ne (ne_of_new hq_48 t_257.1)).trans t_280
  have t_282 : pI S_56 1104 x = 0 := (((hK_57 x t_259.1).2 (At_ne t_259 ha_54 (by decide))).2.1 1104).trans t_281
  have t_283 : pI S_69 1104 x = 0 := tI_sR eS_69 t_282
  have t_284 : pI S_76 1104 x = 0 := by rw [eS_76]; exact (pI_sO_ne (ne_of_new hq_75 t_234.1)).trans t_283
  have t_285 : pI S_83 1104 x = 0 := (((hK_84 x t_236.1).2 (At_ne t_236 ha_81 (by decide))).2.1 1104).trans t_284
  have t_286 : pI S_118 1104 x = 0 := tI_sR eS_118 t_285
  have t_287 : pI S_125 1104 x = 0 := by rw [eS_125]; exact (pI_sO_ne (ne_of_new hq_124 t_239.1)).trans t_286
  have t_288 : pI S_132 1104 x = 0 := (((hK_133 x t_241.1).2 (At_ne t_241 ha_130 (by decide))).2.1 1104).trans t_287
  have t_289 : pI S_152 1104 x = 0 := tI_sR eS_152 t_288
  have t_290 : pI S_159 1104 x = 0 := by rw [eS_159]; exact (pI_sO_ne (ne_of_new hq_158 t_225.1)).trans t_289
  have t_291 : pI S_166 1104 x = 0 := (((hK_167 x t_227.1).2 (At_ne t_227 ha_164 (by decide))).2.1 1104).trans t_290
  have t_292 : pI S_178 1104 x = 0 := tI_sR eS_178 t_291
  have t_293 : pI S_185 1104 x = 0 := by rw [eS_185, pI_sN]; exact t_292
  have t_294 : pI S_194 1104 x = 0 := tI_sR eS_194 t_293
  have t_295 : pI S_201 1104 x = 0 := by rw [eS_201, pI_sN]; exact t_294
  have t_296 : pI S_210 1104 x = 0 := tI_sR eS_210 t_295
  have t_298 : pI S_152 801 q_124 = 0 := tI_sR eS_152 kz_138
  have t_300 : At S_152 q_124 8 := tAt_sR eS_152 ha_135
  have t_299 : pI S_159 801 q_124 = 0 := by rw [eS_159]; exact (pI_sO_ne (ne_of_new hq_158 t_300.1)).trans t_298
  have t_302 : At S_159 q_124 8 := by rw [eS_159]; exact At_sO t_300 hq_158
  have t_301 : pI S_166 801 q_124 = 0 := (((hK_167 q_124 t_302.1).2 (At_ne t_302 ha_164 (by decide))).2.1 801).trans t_299
  have t_303 : pI S_178 801 q_124 = 0 := tI_sR eS_178 t_301
  have t_304 : pI S_185 801 q_124 = 0 := by rw [eS_185, pI_sN]; exact t_303
  have t_305 : pI S_194 801 q_124 = 0 := tI_sR eS_194 t_304
  have t_306 : pI S_201 801 q_124 = 0 := by rw [eS_201, pI_sN]; exact t_305
  have t_307 : pI S_210 801 q_124 = 0 := tI_sR eS_210 t_306
  have t_309 : pI S_69 1000 q_48 = 0 := tI_sR eS_69 kz_62
  have t_311 : At S_69 q_48 10 := tAt_sR eS_69 ha_59
  have t_310 : pI S_76 1000 q_48 = 0 := by rw [eS_76]; exact (pI_sO_ne (ne_of_new hq_75 t_311.1)).trans t_309
  have t_313 : At S_76 q_48 10 := by rw [eS_76]; exact At_sO t_311 hq_75
  have t_312 : pI S_83 1000 q_48 = 0 := (((hK_84 q_48 t_313.1).2 (At_ne t_313 ha_81 (by decide))).2.1 1000).trans t_310
  have t_314 : pI S_118 1000 q_48 = 0 := tI_sR eS_118 t_312
  have t_316 : At S_83 q_48 10 := hK_84.at ha_81 t_313 (by decide)
  have t_317 : At S_118 q_48 10 := tAt_sR eS_118 t_316
  have t_315 : pI S_125 1000 q_48 = 0 := by rw [eS_125]; exact (pI_sO_ne (ne_of_new hq_124 t_317.1)).trans t_314
  have t_319 : At S_125 q_48 10 := by rw [eS_125]; exact At_sO t_317 hq_124
  have t_318 : pI S_132 1000 q_48 = 0 := (((hK_133 q_48 t_319.1).2 (At_ne t_319 ha_130 (by decide))).2.1 1000).trans t_315
  have t_320 : pI S_152 1000 q_48 = 0 := tI_sR eS_152 t_318
  have t_322 : At S_132 q_48 10 := hK_133.at ha_130 t_319 (by decide)
  have t_323 : At S_152 q_48 10 := tAt_sR eS_152 t_322
  have t_321 : pI S_159 1000 q_48 = 0 := by rw [eS_159]; exact (pI_sO_ne (ne_of_new hq_158 t_323.1)).trans t_320
  have t_325 : At S_159 q_48 10 := by rw [eS_159]; exact At_sO t_323 hq_158
  have t_324 : pI S_166 1000 q_48 = 0 := (((hK_167 q_48 t_325.1).2 (At_ne t_325 ha_164 (by decide))).2.1 1000).trans t_321
  have t_326 : pI S_178 1000 q_48 = 0 := tI_sR eS_178 t_324
  have t_327 : pI S_185 1000 q_48 = 0 := by rw [eS_185, pI_sN]; exact t_326
  have t_328 : pI S_194 1000 q_48 = 0 := tI_sR eS_194 t_327
  have t_329 : pI S_201 1000 q_48 = 0 := by rw [eS_201, pI_sN]; exact t_328
  have t_330 : pI S_210 1000 q_48 = 0 := tI_sR eS_210 t_329
  have t_332 : pI S_152 800 q_124 = 0 := tI_sR eS_152 kz_139
  have t_333 : pI S_159 800 q_124 = 0 := by rw [eS_159]; exact (pI_sO_ne (ne_of_new hq_158 t_300.1)).trans t_332
  have t_334 : pI S_166 800 q_124 = 0 := (((hK_167 q_124 t_302.1).2 (At_ne t_302 ha_164 (by decide))).2.1 800).trans t_333
  have t_335 : pI S_178 800 q_124 = 0 := tI_sR eS_178 t_334
  have t_336 : pI S_185 800 q_124 = 0 := by rw [eS_185, pI_sN]; exact t_335
  have t_337 : pI S_194 800 q_124 = 0 := tI_sR eS_194 t_336
  have t_338 : pI S_201 800 q_124 = 0 := by rw [eS_201, pI_sN]; exact t_337
  have t_339 : pI S_210 800 q_124 = 0 := tI_sR eS_210 t_338
  have t_341 : pR S_17 1100 x = some q_1 := by rw [eS_17, pR_sN]; exact h_15
  have t_342 : pR S_26 1100 x = some q_1 := tR_sR eS_26 rfl t_341
  have t_343 : pR S_33 1100 x = some q_1 := by rw [eS_33, pR_sN]; exact t_342
  have t_344 : pR S_42 1100 x = some q_1 := tR_sR eS_42 rfl t_343
  have t_345 : pR S_49 1100 x = some q_1 := by rw [eS_49]; exact (pR_sO_ne (ne_of_new hq_48 t_257.1)).trans t_344
  have t_346 : pR S_56 1100 x = some q_1 := (((hK_57 x t_259.1).2 (At_ne t_259 ha_54 (by decide))).2.2.1 1100).trans t_345
  have t_347 : pR S_69 1100 x = some q_1 := tR_sR eS_69 rfl t_346
  have t_348 : pR S_76 1100 x = some q_1 := by rw [eS_76]; exact (pR_sO_ne (ne_of_new hq_75 t_234.1)).trans t_347
  have t_349 : pR S_83 1100 x = some q_1 := (((hK_84 x t_236.1).2 (At_ne t_236 ha_81 (by decide))).2.2.1 1100).trans t_348
  have t_350 : pR S_118 1100 x = some q_1 := tR_sR eS_118 rfl t_349
  have t_351 : pR S_125 1100 x = some q_1 := by rw [eS_125]; exact (pR_sO_ne (ne_of_new hq_124 t_239.1)).trans t_350
  have t_352 : pR S_132 1100 x = some q_1 := (((hK_133 x t_241.1).2 (At_ne t_241 ha_130 (by decide))).2.2.1 1100).trans t_351
  have t_353 : pR S_152 1100 x = some q_1 := tR_sR eS_152 rfl t_352
  have t_354 : pR S_159 1100 x = some q_1 := by rw [eS_159]; exact (pR_sO_ne (ne_of_new hq_158 t_225.1)).trans t_353
  have t_355 : pR S_166 1100 x = some q_1 := (((hK_167 x t_227.1).2 (At_ne t_227 ha_164 (by decide))).2.2.1 1100).trans t_354
  have t_356 : pR S_178 1100 x = some q_1 := tR_sR eS_178 rfl t_355
  have t_357 : pR S_185 1100 x = some q_1 := by rw [eS_185, pR_sN]; exact t_356
  have t_358 : pR S_194 1100 x = some q_1 := tR_sR eS_194 rfl t_357
  have t_359 : pR S_201 1100 x = some q_1 := by rw [eS_201, pR_sN]; exact t_358
  have t_360 : pR S_210 1100 x = some q_1 := tR_sR eS_210 rfl t_359
  have t_363 : pN S_10 q_1 = 600 := tN_sR eS_10 hn_8
  clear hn_8
  have t_365 : At S_10 q_1 36 := tAt_sR eS_10 ha_7
  have t_364 : pN S_17 q_1 = 600 := by rw [eS_17]; exact (pN_sN_ne (ne_of_new hq_16 t_365.1)).trans t_363
  clear t_363
  have t_366 : pN S_26 q_1 = 600 := tN_sR eS_26 t_364
  clear t_364
  have t_368 : At S_17 q_1 36 := by rw [eS_17]; exact At_sN t_365 hq_16
  have t_369 : At S_26 q_1 36 := tAt_sR eS_26 t_368
  have t_367 : pN S_33 q_1 = 600 := by rw [eS_33]; exact (pN_sN_ne (ne_of_new hq_32 t_369.1)).trans t_366
  clear t_366
  have t_370 : pN S_42 q_1 = 600 := tN_sR eS_42 t_367
  clear t_367
  have t_371 : pN S_49 q_1 = 600 := by rw [eS_49, pN_sO]; exact t_370
  clear t_370
  have t_373 : At S_33 q_1 36 := by rw [eS_33]; exact At_sN t_369 hq_32
  have t_374 : At S_42 q_1 36 := tAt_sR eS_42 t_373
  have t_375 : At S_49 q_1 36 := by rw [eS_49]; exact At_sO t_374 hq_48
  have t_372 : pN S_56 q_1 = 600 := ((hK_57 q_1 t_375.1).2 (At_ne t_375 ha_54 (by decide))).2.2.2.1.trans t_371
  clear t_371
  have t_376 : pN S_69 q_1 = 600 := tN_sR eS_69 t_372
  clear t_372
  have t_377 : pN S_76 q_1 = 600 := by rw [eS_76, pN_sO]; exact t_376
  clear t_376
  have t_379 : At S_56 q_1 36 := hK_57.at ha_54 t_375 (by decide)
  have t_380 : At S_69 q_1 36 := tAt_sR eS_69 t_379
  have t_381 : At S_76 q_1 36 := by rw [eS_76]; exact At_sO t_380 hq_75
  have t_378 : pN S_83 q_1 = 600 := ((hK_84 q_1 t_381.1).2 (At_ne t_381 ha_81 (by decide))).2.2.2.1.trans t_377
  clear t_377
  have t_382 : pN S_118 q_1 = 600 := tN_sR eS_118 t_378
  clear t_378
  have t_383 : pN S_125 q_1 = 600 := by rw [eS_125, pN_sO]; exact t_382
  clear t_382
  have t_385 : At S_83 q_1 36 := hK_84.at ha_81 t_381 (by decide)
  have t_386 : At S_118 q_1 36 := tAt_sR eS_118 t_385
  have t_387 : At S_125 q_1 36 := by rw [eS_125]; exact At_sO t_386 hq_124
  have t_384 : pN S_132 q_1 = 600 := ((hK_133 q_1 t_387.1).2 (At_ne t_387 ha_130 (by decide))).2.2.2.1.trans t_383
  clear t_383
  have t_388 : pN S_152 q_1 = 600 := tN_sR eS_152 t_384
  clear t_384
  have t_389 : pN S_159 q_1 = 600 := by rw [eS_159, pN_sO]; exact t_388
  clear t_388
  have t_391 : At S_132 q_1 36 := hK_133.at ha_130 t_387 (by decide)
  have t_392 : At S_152 q_1 36 := tAt_sR eS_152 t_391
  have t_393 : At S_159 q_1 36 := by rw [eS_159]; exact At_sO t_392 hq_158
  have t_390 : pN S_166 q_1 = 600 := ((hK_167 q_1 t_393.1).2 (At_ne t_393 ha_164 (by decide))).2.2.2.1.trans t_389
  clear t_389
  have t_394 : pN S_178 q_1 = 600 := tN_sR eS_178 t_390
  clear t_390
  have t_396 : At S_166 q_1 36 := hK_167.at ha_164 t_393 (by decide)
  have t_397 : At S_178 q_1 36 := tAt_sR eS_178 t_396
  have t_395 : pN S_185 q_1 = 600 := by rw [eS_185]; exact (pN_sN_ne (ne_of_new hq_184 t_397.1)).trans t_394
  clear t_394
  have t_398 : pN S_194 q_1 = 600 := tN_sR eS_194 t_395
  clear t_395
  have t_400 : At S_185 q_1 36 := by rw [eS_185]; exact At_sN t_397 hq_184
  have t_401 : At S_194 q_1 36 := tAt_sR eS_194 t_400
  have t_399 : pN S_201 q_1 = 600 := by rw [eS_201]; exact (pN_sN_ne (ne_of_new hq_200 t_401.1)).trans t_398
  clear t_398
  have t_402 : pN S_210 q_1 = 600 := tN_sR eS_210 t_399
  clear t_399
  have t_404 : pR S_33 1101 x = some q_16 := by rw [eS_33, pR_sN]; exact h_31
  have t_405 : pR S_42 1101 x = some q_16 := tR_sR eS_42 rfl t_404
  have t_406 : pR S_49 1101 x = some q_16 := by rw [eS_49]; exact (pR_sO_ne (ne_of_new hq_48 t_257.1)).trans t_405
  have t_407 : pR S_56 1101 x = some q_16 := (((hK_57 x t_259.1).2 (At_ne t_259 ha_54 (by decide))).2.2.1 1101).trans t_406
  have t_408 : pR S_69 1101 x = some q_16 := tR_sR eS_69 rfl t_407
  have t_409 : pR S_76 1101 x = some q_16 := by rw [eS_76]; exact (pR_sO_ne (ne_of_new hq_75 t_234.1)).trans t_408
  have t_410 : pR S_83 1101 x = some q_16 := (((hK_84 x t_236.1).2 (At_ne t_236 ha_81 (by decide))).2.2.1 1101).trans t_409
  have t_411 : pR S_118 1101 x = some q_16 := tR_sR eS_118 rfl t_410
  have t_412 : pR S_125 1101 x = some q_16 := by rw [eS_125]; exact (pR_sO_ne (ne_of_new hq_124 t_239.1)).trans t_411
  have t_413 : pR S_132 1101 x = some q_16 := (((hK_133 x t_241.1).2 (At_ne t_241 ha_130 (by decide))).2.2.1 1101).trans t_412
  have t_414 : pR S_152 1101 x = some q_16 := tR_sR eS_152 rfl t_413
  have t_415 : pR S_159 1101 x = some q_16 := by rw [eS_159]; exact (pR_sO_ne (ne_of_new hq_158 t_225.1)).trans t_414
  have t_416 : pR S_166 1101 x = some q_16 := (((hK_167 x t_227.1).2 (At_ne t_227 ha_164 (by decide))).2.2.1 1101).trans t_415
  have t_417 : pR S_178 1101 x = some q_16 := tR_sR eS_178 rfl t_416
  have t_418 : pR S_185 1101 x = some q_16 := by rw [eS_185, pR_sN]; exact t_417
  have t_419 : pR S_194 1101 x = some q_16 := tR_sR eS_194 rfl t_418
  have t_420 : pR S_201 1101 x = some q_16 := by rw [eS_201, pR_sN]; exact t_419
  have t_421 : pR S_210 1101 x = some q_16 := tR_sR eS_210 rfl t_420
  have t_424 : pN S_26 q_16 = 10 := tN_sR eS_26 hn_23
  clear hn_23
  have t_426 : At S_26 q_16 54 := tAt_sR eS_26 ha_22
  have t_425 : pN S_33 q_16 = 10 := by rw [eS_33]; exact (pN_sN_ne (ne_of_new hq_32 t_426.1)).trans t_424
  clear t_424
  have t_427 : pN S_42 q_16 = 10 := tN_sR eS_42 t_425
  clear t_425
  have t_428 : pN S_49 q_16 = 10 := by rw [eS_49, pN_sO]; exact t_427
  clear t_427
  have t_430 : At S_33 q_16 54 := by rw [eS_33]; exact At_sN t_426 hq_32
  have t_431 : At S_42 q_16 54 := tAt_sR eS_42 t_430
  have t_432 : At S_49 q_16 54 := by rw [eS_49]; exact At_sO t_431 hq_48
  have t_429 : pN S_56 q_16 = 10 := ((hK_57 q_16 t_432.1).2 (At_ne t_432 ha_54 (by decide))).2.2.2.1.trans t_428
  clear t_428
  have t_433 : pN S_69 q_16 = 10 := tN_sR eS_69 t_429
  clear t_429
  have t_434 : pN S_76 q_16 = 10 := by rw [eS_76, pN_sO]; exact t_433
  clear t_433
  have t_436 : At S_56 q_16 54 := hK_57.at ha_54 t_432 (by decide)
  have t_437 : At S_69 q_16 54 := tAt_sR eS_69 t_436
  have t_438 : At S_76 q_16 54 := by rw [eS_76]; exact At_sO t_437 hq_75
  have t_435 : pN S_83 q_16 = 10 := ((hK_84 q_16 t_438.1).2 (At_ne t_438 ha_81 (by decide))).2.2.2.1.trans t_434
  clear t_434
  have t_439 : pN S_118 q_16 = 10 := tN_sR eS_118 t_435
  clear t_435
  have t_440 : pN S_125 q_16 = 10 := by rw [eS_125, pN_sO]; exact t_439
  clear t_439
  have t_442 : At S_83 q_16 54 := hK_84.at ha_81 t_438 (by decide)
  have t_443 : At S_118 q_16 54 := tAt_sR eS_118 t_442
  have t_444 : At S_125 q_16 54 := by rw [eS_125]; exact At_sO t_443 hq_124
  have t_441 : pN S_132 q_16 = 10 := ((hK_133 q_16 t_444.1).2 (At_ne t_444 ha_130 (by decide))).2.2.2.1.trans t_440
  clear t_440
  have t_445 : pN S_152 q_16 = 10 := tN_sR eS_152 t_441
  clear t_441
  have t_446 : pN S_159 q_16 = 10 := by rw [eS_159, pN_sO]; exact t_445
  clear t_445
  have t_448 : At S_132 q_16 54 := hK_133.at ha_130 t_444 (by decide)
  have t_449 : At S_152 q_16 54 := tAt_sR eS_152 t_448
  have t_450 : At S_159 q_16 54 := by rw [eS_159]; exact At_sO t_449 hq_158
  have t_447 : pN S_166 q_16 = 10 := ((hK_167 q_16 t_450.1).2 (At_ne t_450 ha_164 (by decide))).2.2.2.1.trans t_446
  clear t_446
  have t_451 : pN S_178 q_16 = 10 := tN_sR eS_178 t_447
  clear t_447
  have t_453 : At S_166 q_16 54 := hK_167.at ha_164 t_450 (by decide)
  have t_454 : At S_178 q_16 54 := tAt_sR eS_178 t_453
  have t_452 : pN S_185 q_16 = 10 := by rw [eS_185]; exact (pN_sN_ne (ne_of_new hq_184 t_454.1)).trans t_451
  clear t_451
  have t_455 : pN S_194 q_16 = 10 := tN_sR eS_194 t_452
  clear t_452
  have t_457 : At S_185 q_16 54 := by rw [eS_185]; exact At_sN t_454 hq_184
  have t_458 : At S_194 q_16 54 := tAt_sR eS_194 t_457
  have t_456 : pN S_201 q_16 = 10 := by rw [eS_201]; exact (pN_sN_ne (ne_of_new hq_200 t_458.1)).trans t_455
  clear t_455
  have t_459 : pN S_210 q_16 = 10 := tN_sR eS_210 t_456
  clear t_456
  have t_461 : pR S_49 1103 x = some q_32 := by rw [eS_49]; exact (pR_sO_ne (ne_of_new hq_48 t_257.1)).trans h_47
  have t_462 : pR S_56 1103 x = some q_32 := (((hK_57 x t_259.1).2 (At_ne t_259 ha_54 (by decide))).2.2.1 1103).trans t_461
  have t_463 : pR S_69 1103 x = some q_32 := tR_sR eS_69 rfl t_462
  have t_464 : pR S_76 1103 x = some q_32 := by rw [eS_76]; exact (pR_sO_ne (ne_of_new hq_75 t_234.1)).trans t_463
  have t_465 : pR S_83 1103 x = some q_32 := (((hK_84 x t_236.1).2 (At_ne t_236 ha_81 (by decide))).2.2.1 1103).trans t_464
  have t_466 : pR S_118 1103 x = some q_32 := tR_sR eS_118 rfl t_465
  have t_467 : pR S_125 1103 x = some q_32 := by rw [eS_125]; exact (pR_sO_ne (ne_of_new hq_124 t_239.1)).trans t_466
  have t_468 : pR S_132 1103 x = some q_32 := (((hK_133 x t_241.1).2 (At_ne t_241 ha_130 (by decide))).2.2.1 1103).trans t_467
  have t_469 : pR S_152 1103 x = some q_32 := tR_sR eS_152 rfl t_468
  have t_470 : pR S_159 1103 x = some q_32 := by rw [eS_159]; exact (pR_sO_ne (ne_of_new hq_158 t_225.1)).trans t_469
  have t_471 : pR S_166 1103 x = some q_32 := (((hK_167 x t_227.1).2 (At_ne t_227 ha_164 (by decide))).2.2.1 1103).trans t_470
  have t_472 : pR S_178 1103 x = some q_32 := tR_sR eS_178 rfl t_471
  have t_473 : pR S_185 1103 x = some q_32 := by rw [eS_185, pR_sN]; exact t_472
  have t_474 : pR S_194 1103 x = some q_32 := tR_sR eS_194 rfl t_473
  have t_475 : pR S_201 1103 x = some q_32 := by rw [eS_201, pR_sN]; exact t_474
  have t_476 : pR S_210 1103 x = some q_32 := tR_sR eS_210 rfl t_475
  have t_479 : pN S_42 q_32 = 4 := tN_sR eS_42 hn_39
  clear hn_39
  have t_480 : pN S_49 q_32 = 4 := by rw [eS_49, pN_sO]; exact t_479
  clear t_479
  have t_482 : At S_42 q_32 18 := tAt_sR eS_42 ha_38
  have t_483 : At S_49 q_32 18 := by rw [eS_49]; exact At_sO t_482 hq_48
  have t_481 : pN S_56 q_32 = 4 := ((hK_57 q_32 t_483.1).2 (At_ne t_483 ha_54 (by decide))).2.2.2.1.trans t_480
  clear t_480
  have t_484 : pN S_69 q_32 = 4 := tN_sR eS_69 t_481
  clear t_481
  have t_485 : pN S_76 q_32 = 4 := by rw [eS_76, pN_sO]; exact t_484
  clear t_484
  have t_487 : At S_56 q_32 18 := hK_57.at ha_54 t_483 (by decide)
  have t_488 : At S_69 q_32 18 := tAt_sR eS_69 t_487
  have t_489 : At S_76 q_32 18 := by rw [eS_76]; exact At_sO t_488 hq_75
  have t_486 : pN S_83 q_32 = 4 := ((hK_84 q_32 t_489.1).2 (At_ne t_489 ha_81 (by decide))).2.2.2.1.trans t_485
  clear t_485
  have t_490 : pN S_118 q_32 = 4 := tN_sR eS_118 t_486
  clear t_486
  have t_491 : pN S_125 q_32 = 4 := by rw [eS_125, pN_sO]; exact t_490
  clear t_490
  have t_493 : At S_83 q_32 18 := hK_84.at ha_81 t_489 (by decide)
  have t_494 : At S_118 q_32 18 := tAt_sR eS_118 t_493
  have t_495 : At S_125 q_32 18 := by rw [eS_125]; exact At_sO t_494 hq_124
  have t_492 : pN S_132 q_32 = 4 := ((hK_133 q_32 t_495.1).2 (At_ne t_495 ha_130 (by decide))).2.2.2.1.trans t_491
  clear t_491
  have t_496 : pN S_152 q_32 = 4 := tN_sR eS_152 t_492
  clear t_492
  have t_497 : pN S_159 q_32 = 4 := by rw [eS_159, pN_sO]; exact t_496
  clear t_496
  have t_499 : At S_132 q_32 18 := hK_133.at ha_130 t_495 (by decide)
  have t_500 : At S_152 q_32 18 := tAt_sR eS_152 t_499
  have t_501 : At S_159 q_32 18 := by rw [eS_159]; exact At_sO t_500 hq_158
  have t_498 : pN S_166 q_32 = 4 := ((hK_167 q_32 t_501.1).2 (At_ne t_501 ha_164 (by decide))).2.2.2.1.trans t_497
  clear t_497
  have t_502 : pN S_178 q_32 = 4 := tN_sR eS_178 t_498
  clear t_498
  have t_504 : At S_166 q_32 18 := hK_167.at ha_164 t_501 (by decide)
  have t_505 : At S_178 q_32 18 := tAt_sR eS_178 t_504
  have t_503 : pN S_185 q_32 = 4 := by rw [eS_185]; exact (pN_sN_ne (ne_of_new hq_184 t_505.1)).trans t_502
  clear t_502
  have t_506 : pN S_194 q_32 = 4 := tN_sR eS_194 t_503
  clear t_503
  have t_508 : At S_185 q_32 18 := by rw [eS_185]; exact At_sN t_505 hq_184
  have t_509 : At S_194 q_32 18 := tAt_sR eS_194 t_508
  have t_507 : pN S_201 q_32 = 4 := by rw [eS_201]; exact (pN_sN_ne (ne_of_new hq_200 t_509.1)).trans t_506
  clear t_506
  have t_510 : pN S_210 q_32 = 4 := tN_sR eS_210 t_507
  clear t_507
  have t_514 : pR S_125 1106 x = some q_75 := by rw [eS_125]; exact (pR_sO_ne (ne_of_new hq_124 t_239.1)).trans h_123
  have t_515 : pR S_132 1106 x = some q_75 := (((hK_133 x t_241.1).2 (At_ne t_241 ha_130 (by decide))).2.2.1 1106).trans t_514
  have t_516 : pR S_152 1106 x = some q_75 := tR_sR eS_152 rfl t_515
  have t_517 : pR S_159 1106 x = some q_75 := by rw [eS_159]; exact (pR_sO_ne (ne_of_new hq_158 t_225.1)).trans t_516
  have t_518 : pR S_166 1106 x = some q_75 := (((hK_167 x t_227.1).2 (At_ne t_227 ha_164 (by decide))).2.2.1 1106).trans t_517
  have t_519 : pR S_178 1106 x = some q_75 := tR_sR eS_178 rfl t_518
  have t_520 : pR S_185 1106 x = some q_75 := by rw [eS_185, pR_sN]; exact t_519
  have t_521 : pR S_194 1106 x = some q_75 := tR_sR eS_194 rfl t_520
  have t_522 : pR S_201 1106 x = some q_75 := by rw [eS_201, pR_sN]; exact t_521
  have t_523 : pR S_210 1106 x = some q_75 := tR_sR eS_210 rfl t_522
  have t_528 : pR S_185 1108 x = some q_158 := by rw [eS_185, pR_sN]; exact h_183
  have t_529 : pR S_194 1108 x = some q_158 := tR_sR eS_194 rfl t_528
  have t_530 : pR S_201 1108 x = some q_158 := by rw [eS_201, pR_sN]; exact t_529
  have t_531 : pR S_210 1108 x = some q_158 := tR_sR eS_210 rfl t_530
  have t_536 : pN S_194 q_184 = 16 := tN_sR eS_194 hn_191
  clear hn_191
  have t_538 : At S_194 q_184 17 := tAt_sR eS_194 ha_190
  have t_537 : pN S_201 q_184 = 16 := by rw [eS_201]; exact (pN_sN_ne (ne_of_new hq_200 t_538.1)).trans t_536
  clear t_536
  have t_539 : pN S_210 q_184 = 16 := tN_sR eS_210 t_537
  clear t_537
  have t_543 : pN S_210 q_200 = 60 := tN_sR eS_210 hn_207
  clear hn_207
  have t_545 : pR S_118 601 q_75 = some q_94 := tR_sR eS_118 rfl h_95
  have t_547 : At S_118 q_75 6 := tAt_sR eS_118 ha_86
  have t_546 : pR S_125 601 q_75 = some q_94 := by rw [eS_125]; exact (pR_sO_ne (ne_of_new hq_124 t_547.1)).trans t_545
  have t_549 : At S_125 q_75 6 := by rw [eS_125]; exact At_sO t_547 hq_124
  have t_548 : pR S_132 601 q_75 = some q_94 := (((hK_133 q_75 t_549.1).2 (At_ne t_549 ha_130 (by decide))).2.2.1 601).trans t_546
  have t_550 : pR S_152 601 q_75 = some q_94 := tR_sR eS_152 rfl t_548
  have t_552 : At S_132 q_75 6 := hK_133.at ha_130 t_549 (by decide)
  have t_553 : At S_152 q_75 6 := tAt_sR eS_152 t_552
  have t_551 : pR S_159 601 q_75 = some q_94 := by rw [eS_159]; exact (pR_sO_ne (ne_of_new hq_158 t_553.1)).trans t_550
  have t_555 : At S_159 q_75 6 := by rw [eS_159]; exact At_sO t_553 hq_158
  have t_554 : pR S_166 601 q_75 = some q_94 := (((hK_167 q_75 t_555.1).2 (At_ne t_555 ha_164 (by decide))).2.2.1 601).trans t_551
  have t_556 : pR S_178 601 q_75 = some q_94 := tR_sR eS_178 rfl t_554
  have t_557 : pR S_185 601 q_75 = some q_94 := by rw [eS_185, pR_sN]; exact t_556
  have t_558 : pR S_194 601 q_75 = some q_94 := tR_sR eS_194 rfl t_557
  have t_559 : pR S_201 601 q_75 = some q_94 := by rw [eS_201, pR_sN]; exact t_558
  have t_560 : pR S_210 601 q_75 = some q_94 := tR_sR eS_210 rfl t_559
  have t_563 : pN S_118 q_94 = 12 := tN_sR eS_118 h_97
  clear h_97
  have t_564 : pN S_125 q_94 = 12 := by rw [eS_125, pN_sO]; exact t_563
  clear t_563
  have t_566 : At S_118 q_94 134 := tAt_sR eS_118 h_96
  have t_567 : At S_125 q_94 134 := by rw [eS_125]; exact At_sO t_566 hq_124
  have t_565 : pN S_132 q_94 = 12 := ((hK_133 q_94 t_567.1).2 (At_ne t_567 ha_130 (by decide))).2.2.2.1.trans t_564
  clear t_564
  have t_568 : pN S_152 q_94 = 12 := tN_sR eS_152 t_565
  clear t_565
  have t_569 : pN S_159 q_94 = 12 := by rw [eS_159, pN_sO]; exact t_568
  clear t_568
  have t_571 : At S_132 q_94 134 := hK_133.at ha_130 t_567 (by decide)
  have t_572 : At S_152 q_94 134 := tAt_sR eS_152 t_571
  have t_573 : At S_159 q_94 134 := by rw [eS_159]; exact At_sO t_572 hq_158
  have t_570 : pN S_166 q_94 = 12 := ((hK_167 q_94 t_573.1).2 (At_ne t_573 ha_164 (by decide))).2.2.2.1.trans t_569
  clear t_569
  have t_574 : pN S_178 q_94 = 12 := tN_sR eS_178 t_570
  clear t_570
  have t_576 : At S_166 q_94 134 := hK_167.at ha_164 t_573 (by decide)
  have t_577 : At S_178 q_94 134 := tAt_sR eS_178 t_576
  have t_575 : pN S_185 q_94 = 12 := by rw [eS_185]; exact (pN_sN_ne (ne_of_new hq_184 t_577.1)).trans t_574
  clear t_574
  have t_578 : pN S_194 q_94 = 12 := tN_sR eS_194 t_575
  clear t_575
  have t_580 : At S_185 q_94 134 := by rw [eS_185]; exact At_sN t_577 hq_184
  have t_581 : At S_194 q_94 134 := tAt_sR eS_194 t_580
  have t_579 : pN S_201 q_94 = 12 := by rw [eS_201]; exact (pN_sN_ne (ne_of_new hq_200 t_581.1)).trans t_578
  clear t_578
  have t_582 : pN S_210 q_94 = 12 := tN_sR eS_210 t_579
  clear t_579
  have t_584 : pR S_118 602 q_75 = some q_98 := tR_sR eS_118 rfl h_99
  have t_585 : pR S_125 602 q_75 = some q_98 := by rw [eS_125]; exact (pR_sO_ne (ne_of_new hq_124 t_547.1)).trans t_584
  have t_586 : pR S_132 602 q_75 = some q_98 := (((hK_133 q_75 t_549.1).2 (At_ne t_549 ha_130 (by decide))).2.2.1 602).trans t_585
  have t_587 : pR S_152 602 q_75 = some q_98 := tR_sR eS_152 rfl t_586
  have t_588 : pR S_159 602 q_75 = some q_98 := by rw [eS_159]; exact (pR_sO_ne (ne_of_new hq_158 t_553.1)).trans t_587
  have t_589 : pR S_166 602 q_75 = some q_98 := (((hK_167 q_75 t_555.1).2 (At_ne t_555 ha_164 (by decide))).2.2.1 602).trans t_588
  have t_590 : pR S_178 602 q_75 = some q_98 := tR_sR eS_178 rfl t_589
  have t_591 : pR S_185 602 q_75 = some q_98 := by rw [eS_185, pR_sN]; exact t_590
  have t_592 : pR S_194 602 q_75 = some q_98 := tR_sR eS_194 rfl t_591
  have t_593 : pR S_201 602 q_75 = some q_98 := by rw [eS_201, pR_sN]; exact t_592
  have t_594 : pR S_210 602 q_75 = some q_98 := tR_sR eS_210 rfl t_593
  have t_597 : pN S_118 q_98 = 12 := tN_sR eS_118 h_101
  clear h_101
  have t_598 : pN S_125 q_98 = 12 := by rw [eS_125, pN_sO]; exact t_597
  clear t_597
  have t_600 : At S_118 q_98 134 := tAt_sR eS_118 h_100
  have t_601 : At S_125 q_98 134 := by rw [eS_125]; exact At_sO t_600 hq_124
  have t_599 : pN S_132 q_98 = 12 := ((hK_133 q_98 t_601.1).2 (At_ne t_601 ha_130 (by decide))).2.2.2.1.trans t_598
  clear t_598
  have t_602 : pN S_152 q_98 = 12 := tN_sR eS_152 t_599
  clear t_599
  have t_603 : pN S_159 q_98 = 12 := by rw [eS_159, pN_sO]; exact t_602
  clear t_602
  have t_605 : At S_132 q_98 134 := hK_133.at ha_130 t_601 (by decide)
  have t_606 : At S_152 q_98 134 := tAt_sR eS_152 t_605
  have t_607 : At S_159 q_98 134 := by rw [eS_159]; exact At_sO t_606 hq_158
  have t_604 : pN S_166 q_98 = 12 := ((hK_167 q_98 t_607.1).2 (At_ne t_607 ha_164 (by decide))).2.2.2.1.trans t_603
  clear t_603
  have t_608 : pN S_178 q_98 = 12 := tN_sR eS_178 t_604
  clear t_604
  have t_610 : At S_166 q_98 134 := hK_167.at ha_164 t_607 (by decide)
  have t_611 : At S_178 q_98 134 := tAt_sR eS_178 t_610
  have t_609 : pN S_185 q_98 = 12 := by rw [eS_185]; exact (pN_sN_ne (ne_of_new hq_184 t_611.1)).trans t_608
  clear t_608
  have t_612 : pN S_194 q_98 = 12 := tN_sR eS_194 t_609
  clear t_609
  have t_614 : At S_185 q_98 134 := by rw [eS_185]; exact At_sN t_611 hq_184
  have t_615 : At S_194 q_98 134 := tAt_sR eS_194 t_614
  have t_613 : pN S_201 q_98 = 12 := by rw [eS_201]; exact (pN_sN_ne (ne_of_new hq_200 t_615.1)).trans t_612
  clear t_612
  have t_616 : pN S_210 q_98 = 12 := tN_sR eS_210 t_613
  clear t_613
  have t_618 : pR S_118 604 q_75 = some q_102 := tR_sR eS_118 rfl h_103
  have t_619 : pR S_125 604 q_75 = some q_102 := by rw [eS_125]; exact (pR_sO_ne (ne_of_new hq_124 t_547.1)).trans t_618
  have t_620 : pR S_132 604 q_75 = some q_102 := (((hK_133 q_75 t_549.1).2 (At_ne t_549 ha_130 (by decide))).2.2.1 604).trans t_619
  have t_621 : pR S_152 604 q_75 = some q_102 := tR_sR eS_152 rfl t_620
  have t_622 : pR S_159 604 q_75 = some q_102 := by rw [eS_159]; exact (pR_sO_ne (ne_of_new hq_158 t_553.1)).trans t_621
  have t_623 : pR S_166 604 q_75 = some q_102 := (((hK_167 q_75 t_555.1).2 (At_ne t_555 ha_164 (by decide))).2.2.1 604).trans t_622
  have t_624 : pR S_178 604 q_75 = some q_102 := tR_sR eS_178 rfl t_623
  have t_625 : pR S_185 604 q_75 = some q_102 := by rw [eS_185, pR_sN]; exact t_624
  have t_626 : pR S_194 604 q_75 = some q_102 := tR_sR eS_194 rfl t_625
  have t_627 : pR S_201 604 q_75 = some q_102 := by rw [eS_201, pR_sN]; exact t_626
  have t_628 : pR S_210 604 q_75 = some q_102 := tR_sR eS_210 rfl t_627
  have t_631 : pN S_118 q_102 = 48 := tN_sR eS_118 h_105
  clear h_105
  have t_632 : pN S_125 q_102 = 48 := by rw [eS_125, pN_sO]; exact t_631
  clear t_631
  have t_634 : At S_118 q_102 134 := tAt_sR eS_118 h_104
  have t_635 : At S_125 q_102 134 := by rw [eS_125]; exact At_sO t_634 hq_124
  have t_633 : pN S_132 q_102 = 48 := ((hK_133 q_102 t_635.1).2 (At_ne t_635 ha_130 (by decide))).2.2.2.1.trans t_632
  clear t_632
  have t_636 : pN S_152 q_102 = 48 := tN_sR eS_152 t_633
  clear t_633
  have t_637 : pN S_159 q_102 = 48 := by rw [eS_159, pN_sO]; exact t_636
  clear t_636
  have t_639 : At S_132 q_102 134 := hK_133.at ha_130 t_635 (by decide)
  have t_640 : At S_152 q_102 134 := tAt_sR eS_152 t_639
  have t_641 : At S_159 q_102 134 := by rw [eS_159]; exact At_sO t_640 hq_158
  have t_638 : pN S_166 q_102 = 48 := ((hK_167 q_102 t_641.1).2 (At_ne t_641 ha_164 (by decide))).2.2.2.1.trans t_637
  clear t_637
  have t_642 : pN S_178 q_102 = 48 := tN_sR eS_178 t_638
  clear t_638
  have t_644 : At S_166 q_102 134 := hK_167.at ha_164 t_641 (by decide)
  have t_645 : At S_178 q_102 134 := tAt_sR eS_178 t_644
  have t_643 : pN S_185 q_102 = 48 := by rw [eS_185]; exact (pN_sN_ne (ne_of_new hq_184 t_645.1)).trans t_642
  clear t_642
  have t_646 : pN S_194 q_102 = 48 := tN_sR eS_194 t_643
  clear t_643
  have t_648 : At S_185 q_102 134 := by rw [eS_185]; exact At_sN t_645 hq_184
  have t_649 : At S_194 q_102 134 := tAt_sR eS_194 t_648
  have t_647 : pN S_201 q_102 = 48 := by rw [eS_201]; exact (pN_sN_ne (ne_of_new hq_200 t_649.1)).trans t_646
  clear t_646
  have t_650 : pN S_210 q_102 = 48 := tN_sR eS_210 t_647
  clear t_647
  have t_652 : pR S_118 605 q_75 = some q_106 := tR_sR eS_118 rfl h_107
  have t_653 : pR S_125 605 q_75 = some q_106 := by rw [eS_125]; exact (pR_sO_ne (ne_of_new hq_124 t_547.1)).trans t_652
  have t_654 : pR S_132 605 q_75 = some q_106 := (((hK_133 q_75 t_549.1).2 (At_ne t_549 ha_130 (by decide))).2.2.1 605).trans t_653
  have t_655 : pR S_152 605 q_75 = some q_106 := tR_sR eS_152 rfl t_654
  have t_656 : pR S_159 605 q_75 = some q_106 := by rw [eS_159]; exact (pR_sO_ne (ne_of_new hq_158 t_553.1)).trans t_655
  have t_657 : pR S_166 605 q_75 = some q_106 := (((hK_167 q_75 t_555.1).2 (At_ne t_555 ha_164 (by decide))).2.2.1 605).trans t_656
  have t_658 : pR S_178 605 q_75 = some q_106 := tR_sR eS_178 rfl t_657
  have t_659 : pR S_185 605 q_75 = some q_106 := by rw [eS_185, pR_sN]; exact t_658
  have t_660 : pR S_194 605 q_75 = some q_106 := tR_sR eS_194 rfl t_659
  have t_661 : pR S_201 605 q_75 = some q_106 := by rw [eS_201, pR_sN]; exact t_660
  have t_662 : pR S_210 605 q_75 = some q_106 := tR_sR eS_210 rfl t_661
  have t_665 : pN S_118 q_106 = 48 := tN_sR eS_118 h_109
  clear h_109
  have t_666 : pN S_125 q_106 = 48 := by rw [eS_125, pN_sO]; exact t_665
  clear t_665
  have t_668 : At S_118 q_106 134 := tAt_sR eS_118 h_108
  have t_669 : At S_125 q_106 134 := by rw [eS_125]; exact At_sO t_668 hq_124
  have t_667 : pN S_132 q_106 = 48 := ((hK_133 q_106 t_669.1).2 (At_ne t_669 ha_130 (by decide))).2.2.2.1.trans t_666
  clear t_666
  have t_670 : pN S_152 q_106 = 48 := tN_sR eS_152 t_667
  clear t_667
  have t_671 : pN S_159 q_106 = 48 := by rw [eS_159, pN_sO]; exact t_670
  clear t_670
  have t_673 : At S_132 q_106 134 := hK_133.at ha_130 t_669 (by decide)
  have t_674 : At S_152 q_106 134 := tAt_sR eS_152 t_673
  have t_675 : At S_159 q_106 134 := by rw [eS_159]; exact At_sO t_674 hq_158
  have t_672 : pN S_166 q_106 = 48 := ((hK_167 q_106 t_675.1).2 (At_ne t_675 ha_164 (by decide))).2.2.2.1.trans t_671
  clear t_671
  have t_676 : pN S_178 q_106 = 48 := tN_sR eS_178 t_672
  clear t_672
  have t_678 : At S_166 q_106 134 := hK_167.at ha_164 t_675 (by decide)
  have t_679 : At S_178 q_106 134 := tAt_sR eS_178 t_678
  have t_677 : pN S_185 q_106 = 48 := by rw [eS_185]; exact (pN_sN_ne (ne_of_new hq_184 t_679.1)).trans t_676
  clear t_676
  have t_680 : pN S_194 q_106 = 48 := tN_sR eS_194 t_677
  clear t_677
  have t_682 : At S_185 q_106 134 := by rw [eS_185]; exact At_sN t_679 hq_184
  have t_683 : At S_194 q_106 134 := tAt_sR eS_194 t_682
  have t_681 : pN S_201 q_106 = 48 := by rw [eS_201]; exact (pN_sN_ne (ne_of_new hq_200 t_683.1)).trans t_680
  clear t_680
  have t_684 : pN S_210 q_106 = 48 := tN_sR eS_210 t_681
  clear t_681
  have t_686 : pR S_118 606 q_75 = some q_110 := tR_sR eS_118 rfl h_111
  have t_687 : pR S_125 606 q_75 = some q_110 := by rw [eS_125]; exact (pR_sO_ne (ne_of_new hq_124 t_547.1)).trans t_686
  have t_688 : pR S_132 606 q_75 = some q_110 := (((hK_133 q_75 t_549.1).2 (At_ne t_549 ha_130 (by decide))).2.2.1 606).trans t_687
  have t_689 : pR S_152 606 q_75 = some q_110 := tR_sR eS_152 rfl t_688
  have t_690 : pR S_159 606 q_75 = some q_110 := by rw [eS_159]; exact (pR_sO_ne (ne_of_new hq_158 t_553.1)).trans t_689
  have t_691 : pR S_166 606 q_75 = some q_110 := (((hK_167 q_75 t_555.1).2 (At_ne t_555 ha_164 (by decide))).2.2.1 606).trans t_690
  have t_692 : pR S_178 606 q_75 = some q_110 := tR_sR eS_178 rfl t_691
  have t_693 : pR S_185 606 q_75 = some q_110 := by rw [eS_185, pR_sN]; exact t_692
  have t_694 : pR S_194 606 q_75 = some q_110 := tR_sR eS_194 rfl t_693
  have t_695 : pR S_201 606 q_75 = some q_110 := by rw [eS_201, pR_sN]; exact t_694
  have t_696 : pR S_210 606 q_75 = some q_110 := tR_sR eS_210 rfl t_695
  have t_699 : pN S_118 q_110 = 48 := tN_sR eS_118 h_113
  clear h_113
  have t_700 : pN S_125 q_110 = 48 := by rw [eS_125, pN_sO]; exact t_699
  clear t_699
  have t_702 : At S_118 q_110 134 := tAt_sR eS_118 h_112
  have t_703 : At S_125 q_110 134 := by rw [eS_125]; exact At_sO t_702 hq_124
  have t_701 : pN S_132 q_110 = 48 := ((hK_133 q_110 t_703.1).2 (At_ne t_703 ha_130 (by decide))).2.2.2.1.trans t_700
  clear t_700
  have t_704 : pN S_152 q_110 = 48 := tN_sR eS_152 t_701
  clear t_701
  have t_705 : pN S_159 q_110 = 48 := by rw [eS_159, pN_sO]; exact t_704
  clear t_704
  have t_707 : At S_132 q_110 134 := hK_133.at ha_130 t_703 (by decide)
  have t_708 : At S_152 q_110 134 := tAt_sR eS_152 t_707
  have t_709 : At S_159 q_110 134 := by rw [eS_159]; exact At_sO t_708 hq_158
  have t_706 : pN S_166 q_110 = 48 := ((hK_167 q_110 t_709.1).2 (At_ne t_709 ha_164 (by decide))).2.2.2.1.trans t_705
  clear t_705
  have t_710 : pN S_178 q_110 = 48 := tN_sR eS_178 t_706
  clear t_706
  have t_712 : At S_166 q_110 134 := hK_167.at ha_164 t_709 (by decide)
  have t_713 : At S_178 q_110 134 := tAt_sR eS_178 t_712
  have t_711 : pN S_185 q_110 = 48 := by rw [eS_185]; exact (pN_sN_ne (ne_of_new hq_184 t_713.1)).trans t_710
  clear t_710
  have t_714 : pN S_194 q_110 = 48 := tN_sR eS_194 t_711
  clear t_711
  have t_716 : At S_185 q_110 134 := by rw [eS_185]; exact At_sN t_713 hq_184
  have t_717 : At S_194 q_110 134 := tAt_sR eS_194 t_716
  have t_715 : pN S_201 q_110 = 48 := by rw [eS_201]; exact (pN_sN_ne (ne_of_new hq_200 t_717.1)).trans t_714
  clear t_714
  have t_718 : pN S_210 q_110 = 48 := tN_sR eS_210 t_715
  clear t_715
  have t_720 : pR S_152 807 q_124 = some q_144 := tR_sR eS_152 rfl h_145
  have t_721 : pR S_159 807 q_124 = some q_144 := by rw [eS_159]; exact (pR_sO_ne (ne_of_new hq_158 t_300.1)).trans t_720
  have t_722 : pR S_166 807 q_124 = some q_144 := (((hK_167 q_124 t_302.1).2 (At_ne t_302 ha_164 (by decide))).2.2.1 807).trans t_721
  have t_723 : pR S_178 807 q_124 = some q_144 := tR_sR eS_178 rfl t_722
  have t_724 : pR S_185 807 q_124 = some q_144 := by rw [eS_185, pR_sN]; exact t_723
  have t_725 : pR S_194 807 q_124 = some q_144 := tR_sR eS_194 rfl t_724
  have t_726 : pR S_201 807 q_124 = some q_144 := by rw [eS_201, pR_sN]; exact t_725
  have t_727 : pR S_210 807 q_124 = some q_144 := tR_sR eS_210 rfl t_726
  have t_730 : pN S_152 q_144 = 4 := tN_sR eS_152 h_147
  clear h_147
  have t_731 : pN S_159 q_144 = 4 := by rw [eS_159, pN_sO]; exact t_730
  clear t_730
  have t_733 : At S_152 q_144 154 := tAt_sR eS_152 h_146
  have t_734 : At S_159 q_144 154 := by rw [eS_159]; exact At_sO t_733 hq_158
  have t_732 : pN S_166 q_144 = 4 := ((hK_167 q_144 t_734.1).2 (At_ne t_734 ha_164 (by decide))).2.2.2.1.trans t_731
  clear t_731
  have t_735 : pN S_178 q_144 = 4 := tN_sR eS_178 t_732
  clear t_732
  have t_737 : At S_166 q_144 154 := hK_167.at ha_164 t_734 (by decide)
  have t_738 : At S_178 q_144 154 := tAt_sR eS_178 t_737
  have t_736 : pN S_185 q_144 = 4 := by rw [eS_185]; exact (pN_sN_ne (ne_of_new hq_184 t_738.1)).trans t_735
  clear t_735
  have t_739 : pN S_194 q_144 = 4 := tN_sR eS_194 t_736
  clear t_736
  have t_741 : At S_185 q_144 154 := by rw [eS_185]; exact At_sN t_738 hq_184
  have t_742 : At S_194 q_144 154 := tAt_sR eS_194 t_741
  have t_740 : pN S_201 q_144 = 4 := by rw [eS_201]; exact (pN_sN_ne (ne_of_new hq_200 t_742.1)).trans t_739
  clear t_739
  have t_743 : pN S_210 q_144 = 4 := tN_sR eS_210 t_740
  clear t_740
  have L_218 : ∀ (n : Nat) (T_220 : PS) (H : Heap) (locs : List Loc) (ls : Array Slot) (i1_219 : Int32) (i1_219_z : Int) (cc_745 nn_746 : Nat), ((16 - i1_219_z).toNat = n) → (Wd G cy (AS S s.heap.size) s.heap T_220 H locs) → (i1_219.toInt = i1_219_z) → (0 ≤ i1_219_z ∧ i1_219_z ≤ 16) → (At T_220 x 191) → (Kq S T_220 x) → (GX T_220) → (Phc T_220 = Phc S + 320) → (Phs T_220 = Phs S + 604000) → (ShI T_220 q_184 i1_219_z) → (pA T_220 q_144 = prcF) → (pI T_220 1102 x = 0) → (pI T_220 1104 x = 0) → (pI T_220 801 q_124 = 0) → (pI T_220 1000 q_48 = 0) → (pI T_220 800 q_124 = 0) → (pR T_220 1100 x = some q_1) → (At T_220 q_1 36) → (pN T_220 q_1 = 600) → (pR T_220 1101 x = some q_16) → (At T_220 q_16 54) → (pN T_220 q_16 = 10) → (pR T_220 1103 x = some q_32) → (At T_220 q_32 18) → (pN T_220 q_32 = 4) → (pR T_220 1105 x = some q_48) → (At T_220 q_48 10) → (pR T_220 1106 x = some q_75) → (At T_220 q_75 6) → (pR T_220 1107 x = some q_124) → (At T_220 q_124 8) → (pR T_220 1108 x = some q_158) → (At T_220 q_158 1) → (pR T_220 1109 x = some q_184) → (At T_220 q_184 17) → (pN T_220 q_184 = 16) → (pR T_220 1111 x = some q_200) → (At T_220 q_200 194) → (pN T_220 q_200 = 60) → (pR T_220 601 q_75 = some q_94) → (At T_220 q_94 134) → (pN T_220 q_94 = 12) → (pR T_220 602 q_75 = some q_98) → (At T_220 q_98 134) → (pN T_220 q_98 = 12) → (pR T_220 604 q_75 = some q_102) → (At T_220 q_102 134) → (pN T_220 q_102 = 48) → (pR T_220 605 q_75 = some q_106) → (At T_220 q_106 134) → (pN T_220 q_106 = 48) → (pR T_220 606 q_75 = some q_110) → (At T_220 q_110 134) → (pN T_220 q_110 = 48) → (pR T_220 807 q_124 = some q_144) → (At T_220 q_144 154) → (pN T_220 q_144 = 4) → (cc_745 = 26 + 2 * (i1_219_z).toNat) → (nn_746 = 1520 + 13 * (i1_219_z).toNat) → (lv_has ls 2 [(1, .int (i1_219)), (0, .ref x)]) → W p l e ({ frames := 4, cells := 58, slots := 1728, locals := 192 }) s m [.ref x].toArray below meth c H locs cc_745 nn_746 QQ (F0 m 93 ls []) := by
    intro n
    induction n using Nat.strongRecOn with
    | ind n ih =>
    intro T_220 H locs ls i1_219 i1_219_z cc_745 nn_746 hn hw hz_i1_219 hr_i1_219 ha_x_L_221 hK_T_220 hg_T_220 hpc_T_220 hps_T_220 iv_222 iv_223 ik_274 ik_297 ik_308 ik_331 ik_340 ik_361 ik_362 ik_403 ik_422 ik_423 ik_460 ik_477 ik_478 ik_511 ik_512 ik_513 ik_524 ik_525 ik_526 ik_527 ik_532 ik_533 ik_534 ik_535 ik_540 ik_541 ik_542 ik_544 ik_561 ik_562 ik_583 ik_595 ik_596 ik_617 ik_629 ik_630 ik_651 ik_663 ik_664 ik_685 ik_697 ik_698 ik_719 ik_728 ik_729 ik_744 hcc_747 hnn_748 hl
    have rg_749 : (-2147483648) ≤ i1_219_z ∧ i1_219_z ≤ 2147483647 := by rw [← hz_i1_219]; exact ⟨z_lo _, z_hi _⟩
    refine lv_iload_n X.1 X.2.1 dX11_init_93 rfl (lv_at hl 0 rfl) ?_
    refine lv_bipush (v := 16) X.1 X.2.1 dX11_init_94 (by decide) ?_
    refine lv_icmp_ge (tgt := 118) X.1 X.2.1 dX11_init_96 (by decide) (fun c_750 => ?_) (fun c_750 => ?_)
    · have z_b_751 := trivial
      have k_752 : i1_219_z ≥ 16 := z_le ti_16 hz_i1_219 c_750
      have nd_753 := nodup_of hw
      obtain ⟨S_754, eS_754⟩ : ∃ T, T = sK T_220 x 11 := ⟨_, rfl⟩
      have hw := Wd_sK (k := 11) hw ha_x_L_221 rfl; rw [← eS_754] at hw
      have hg9 : GX S_754 := by rw [eS_754]; exact GX_sK hg_T_220 ha_x_L_221 (by decide +kernel) (mk_11 ⟨q_1, (by rw [pR_sK]; exact ik_361), At_sK ha_x_L_221 ik_362 (by decide), by rw [pN_sK]; exact ik_403⟩ ⟨q_16, (by rw [pR_sK]; exact ik_422), At_sK ha_x_L_221 ik_423 (by decide), by rw [pN_sK]; exact ik_460⟩ (by rw [pI_sK, ik_274]; exact ⟨by rw [ti_0]; omega, by rw [ti_0]; omega⟩) ⟨q_32, (by rw [pR_sK]; exact ik_477), At_sK ha_x_L_221 ik_478 (by decide), by rw [pN_sK]; exact ik_511⟩ (by rw [pI_sK, ik_297]; exact ⟨by rw [ti_0]; omega, by rw [ti_0]; omega⟩) ⟨q_48, (by rw [pR_sK]; exact ik_512), At_sK ha_x_L_221 ik_513 (by decide)⟩ ⟨q_75, (by rw [pR_sK]; exact ik_524), At_sK ha_x_L_221 ik_525 (by decide)⟩ ⟨q_124, (by rw [pR_sK]; exact ik_526), At_sK ha_x_L_221 ik_527 (by decide)⟩ ⟨q_158, (by rw [pR_sK]; exact ik_532), At_sK ha_x_L_221 ik_533 (by decide)⟩ ⟨q_184, (by rw [pR_sK]; exact ik_534), At_sK ha_x_L_221 ik_535 (by decide), by rw [pN_sK]; exact ik_540⟩ ⟨q_200, (by rw [pR_sK]; exact ik_541), At_sK ha_x_L_221 ik_542 (by decide), by rw [pN_sK]; exact ik_544⟩)
      have ha9 : At S_754 x 11 := by rw [eS_754]; exact At_nK ha_x_L_221
      have hk9 : Kq S S_754 x := hK_T_220.sK eS_754
      have hPhc9 : Phc S_754 = Phc S + 57920 := by rw [show Phc S_754 = Ph fC 8 14400 S_754 from rfl, Ph_sK nd_753 ha_x_L_221 (by decide) eS_754, ph_11 ha9 (show pI S_754 1104 x = 0 by rw [eS_754, pI_sK]; exact ik_297)]; show Phc T_220 + _ = _; omega
      have hPhs9 : Phs S_754 = Phs S + 788000 := by rw [show Phs S_754 = Ph fS 15100 46000 S_754 from rfl, Ph_sK nd_753 ha_x_L_221 (by decide) eS_754, ph_11 ha9 (show pI S_754 1104 x = 0 by rw [eS_754, pI_sK]; exact ik_297)]; show Phs T_220 + _ = _; omega
      rw [hQQ]
      exact ret_v X hw hr hlocks (by show cc_745 ≤ 58; omega) (by show nn_746 ≤ 1728; omega) ⟨hk9, hg9, ha9, hPhc9, hPhs9, ⟨q_124, by rw [eS_754, pR_sK]; exact ik_526, by rw [eS_754]; exact At_sK ha_x_L_221 ik_527 (by decide), by rw [eS_754, pI_sK]; exact ik_308, by rw [eS_754, pI_sK]; exact ik_274, by rw [eS_754, pI_sK]; exact ik_297, q_48, by rw [eS_754, pR_sK]; exact ik_512, by rw [eS_754]; exact At_sK ha_x_L_221 ik_513 (by decide), by rw [eS_754, pI_sK]; exact ik_331, q_184, by rw [eS_754, pR_sK]; exact ik_534, by rw [eS_754, show (16 : Int) = i1_219_z by omega]; exact ShI_sK ha_x_L_221 (by decide) iv_222, ⟨(by rw [eS_754, pI_sK]; exact ik_340), (by rw [eS_754, mA_eq (show pR (sK T_220 x 11) 807 q_124 = some q_144 from (by rw [pR_sK]; exact ik_728)), show pA (sK T_220 x 11) q_144 = pA T_220 q_144 from rfl]; exact iv_223)⟩, q_75, by rw [eS_754, pR_sK]; exact ik_524, ⟨q_94, q_98, q_102, q_106, q_110, ⟨by rw [eS_754, pR_sK]; exact ik_561, by rw [eS_754, pR_sK]; exact ik_595, by rw [eS_754, pR_sK]; exact ik_629, by rw [eS_754, pR_sK]; exact ik_663, by rw [eS_754, pR_sK]; exact ik_697⟩, rd_114⟩⟩⟩ dX11_init_118
    · have z_b_755 := trivial
      have k_756 : i1_219_z < 16 := z_nle ti_16 hz_i1_219 c_750
      refine lv_aload_n X.1 X.2.1 dX11_init_99 rfl (lv_at hl 1 rfl) ?_
      refine r_getR (g := 1109) X hw ha_x_L_221 rfl 9 ik_534 (by decide) rfl inn_X11_init_11 (by decide) (X.2.2.2.1 (.fieldLink RX11 55 "SilkMill" "shelf" "[LSilkMill$Place;") (by decide +kernel)) rfl (gv_1109 _ _) dX11_init_100 ?_
      refine lv_iload_n X.1 X.2.1 dX11_init_103 rfl (lv_at hl 0 rfl) ?_
      refine r_new X hw 183 3 (nn_746 + 5) (cc_745 + 1) rfl tyX3 (by decide) rfl inn_X11_init_3 tyX3_ok (X.2.2.2.1 (.classLink RX11 53 RX3) (by decide +kernel)) (X.2.2.2.1 (.instantiable RX3 5) (by decide +kernel)) (X.2.2.2.1 (.initialized RX3) (by decide +kernel)) (zo_3 _) zd_3 (by show cc_745 + 1 ≤ (cc_745 + 1); omega) (by show nn_746 + 5 ≤ (nn_746 + 5); omega) (by show (cc_745 + 1) ≤ 58; omega) (by show (nn_746 + 5) ≤ 1728; omega) dX11_init_104 (fun q_757 H hq_757 hw => ?_)
      obtain ⟨S_758, eS_758⟩ : ∃ T, T = sO T_220 q_757 183 := ⟨_, rfl⟩
      rw [← eS_758] at hw
      have ph_759 : Phc S_758 = Phc S + 320 := (show Phc S_758 = Phc T_220 from Ph_sO hg_T_220 hq_757 eS_758 (by decide)).trans hpc_T_220
      have ph_760 : Phs S_758 = Phs S + 604000 := (show Phs S_758 = Phs T_220 from Ph_sO hg_T_220 hq_757 eS_758 (by decide)).trans hps_T_220
      clear hpc_T_220
      clear hps_T_220
      have hK_761 : Kq S S_758 x := hK_T_220.sO hq_757 eS_758
      have hg_762 : GX S_758 := by rw [eS_758]; exact GX_O hg_T_220 hq_757 (by decide +kernel)
      have hn0_q_757 := hK_T_220.new hq_757
      have ha_763 : At S_758 q_757 183 := by rw [eS_758]; exact At_nO _ _ _
      have hzI_q_757 : ∀ g, pI S_758 g q_757 = 0 := fun g => by rw [eS_758]; exact pI_sO_new
      have hzR_q_757 : ∀ g, pR S_758 g q_757 = none := fun g => by rw [eS_758]; exact if_pos rfl
      refine lv_dup X.1 X.2.1 dX11_init_107 rfl ?_
      refine k_v (rm := { frames := 2, cells := 1, slots := 8, locals := 96 }) (av := [.ref q_757]) X hw (va_runIN (As := []) (rest := [.ref q_757, .int (i1_219), .ref q_184]) (cfix X) (k_X3_init3 l G cy κ S_758 _ q_757 hg_762 ha_763 hzI_q_757 hzR_q_757) ⟨(va_cnB (host := RX11) 0 X.2.2.2.1 gX11_init_X3_init_n62 rfl rfl rfl (X.2.2.2.2.2.2.2.1.2.1 (RX11, 62, yX3_init) (by decide +kernel)) (X.2.2.2.1 (.initialized RX3) (by decide +kernel)) (by decide +kernel) ⟨Nat.le_of_ble_eq_true rfl, Nat.le_of_ble_eq_true rfl⟩), rfl, (X.2.2.2.1 (.instanceMethod yX3_init) (by decide +kernel))⟩ (pre_S X hw _) rfl rfl hl.1 rfl (lv_room (Nat.le_of_ble_eq_true rfl)) dX11_init_108 ⟨(by show (cc_745 + 1) + 1 ≤ 58; omega), (by show (nn_746 + 5) + 8 ≤ 1728; omega)⟩) ((cc_745 + 1) + 1) ((nn_746 + 5) + 8) (by show (cc_745 + 1) + 1 ≤ ((cc_745 + 1) + 1); omega) (by show (nn_746 + 5) + 8 ≤ ((nn_746 + 5) + 8); omega) (fun S_765 H locs hp hw hfr hnw => ?_)
      obtain ⟨hK_766, hg_767, ha_768, ph_769, ph_770, kx_771, kx_772, kx_773, kx_774, kx_775⟩ := hp
      have hK_776 : Kq S S_765 x := hK_761.sub hn0_q_757 hK_766
      have ph_777 : Phc S_765 = Phc S + 320 := by omega
      have ph_778 : Phs S_765 = Phs S + 604000 := by omega
      clear ph_759
      clear ph_760
      clear ph_769
      clear ph_770
      have t_779 : At S_758 q_184 17 := by rw [eS_758]; exact At_sO ik_535 hq_757
      have t_780 : At S_765 q_184 17 := hK_766.at ha_763 t_779 (by decide)
      have t_781 : pN S_758 q_184 = 16 := by rw [eS_758, pN_sO]; exact ik_540
      have t_783 : At S_758 q_184 17 := by rw [eS_758]; exact At_sO ik_535 hq_757
      have t_782 : pN S_765 q_184 = 16 := ((hK_766 q_184 t_783.1).2 (At_ne t_783 ha_763 (by decide))).2.2.2.1.trans t_781
      clear t_781
      refine r_aast X hw t_780 rfl ha_768 rfl (by decide) (by decide) rfl rfl (by rw [t_782]; exact z_ix hz_i1_219 (by omega) (by omega)) dX11_init_111 (fun H locs hw => ?_)
      obtain ⟨S_784, eS_784⟩ : ∃ T, T = sB S_765 q_184 (va_up (pB S_765 q_184) (Int32.toNatClampNeg (i1_219)) (some q_757)) := ⟨_, rfl⟩
      rw [← eS_784] at hw
      have ph_785 : Phc S_784 = Phc S + 320 := (show Phc S_784 = Phc S_765 from Ph_sB eS_784).trans ph_777
      have ph_786 : Phs S_784 = Phs S + 604000 := (show Phs S_784 = Phs S_765 from Ph_sB eS_784).trans ph_778
      clear ph_777
      clear ph_778
      have hK_787 : Kq S S_784 x := hK_776.sB hn0_q_184 eS_784
      have hg_788 : GX S_784 := by rw [eS_784]; exact uB_17 hg_767 t_780 (fun q hq => by cases hq; exact ha_768)
      have zn_790 := z_nat (x := i1_219) hz_i1_219 (by omega)
      have sh_789 : ShI S_784 q_184 (i1_219_z + 1) := ShI_step iv_222 hq_757 eS_758 hK_766 eS_784 ik_535.1 (by omega) ha_768 kx_771 kx_773 kx_774 kx_775
      obtain ⟨x_791, ex_791⟩ : ∃ y : Int32, y = i1_219 + 1 := ⟨_, rfl⟩
      have z_792 : x_791.toInt = i1_219_z + 1 := z_add ex_791 hz_i1_219 ti_1 (by omega) (by omega)
      refine lv_iinc (v := x_791) (lv' := [(1, .int (x_791)), (0, .ref x)]) X.1 X.2.1 dX11_init_112 hl (k := 0) rfl (by rw [ex_791]; rfl) (by decide) rfl (fun ls hl => ?_)
      refine lv_goto (tgt := 93) X.1 X.2.1 dX11_init_115 (by decide) ?_
      have t_793 : At S_758 x 191 := by rw [eS_758]; exact At_sO ha_x_L_221 hq_757
      have t_794 : At S_765 x 191 := hK_766.at ha_763 t_793 (by decide)
      have t_795 : At S_784 x 191 := tAt_sB eS_784 t_794
      have bb_796 : pA S_758 q_144 = pA T_220 q_144 := by rw [eS_758]; rfl
      have t_798 : At S_758 q_144 154 := by rw [eS_758]; exact At_sO ik_729 hq_757
      have bb_797 : pA S_765 q_144 = pA T_220 q_144 := (show pA S_765 q_144 = pA S_758 q_144 from ((hK_766 q_144 t_798.1).2 (At_ne t_798 ha_763 (by decide))).2.2.2.2.1).trans bb_796
      have bb_799 : pA S_784 q_144 = pA T_220 q_144 := (show pA S_784 q_144 = pA S_765 q_144 from by rw [eS_784]; rfl).trans bb_797
      have t_800 : pI S_758 1102 x = 0 := by rw [eS_758]; exact (pI_sO_ne (ne_of_new hq_757 ha_x_L_221.1)).trans ik_274
      have t_802 : At S_758 x 191 := by rw [eS_758]; exact At_sO ha_x_L_221 hq_757
      have t_801 : pI S_765 1102 x = 0 := (((hK_766 x t_802.1).2 (At_ne t_802 ha_763 (by decide))).2.1 1102).trans t_800
      have t_803 : pI S_784 1102 x = 0 := tI_sB eS_784 t_801
      have t_804 : pI S_758 1104 x = 0 := by rw [eS_758]; exact (pI_sO_ne (ne_of_new hq_757 ha_x_L_221.1)).trans ik_297
      have t_805 : pI S_765 1104 x = 0 := (((hK_766 x t_802.1).2 (At_ne t_802 ha_763 (by decide))).2.1 1104).trans t_804
      have t_806 : pI S_784 1104 x = 0 := tI_sB eS_784 t_805
      have t_807 : pI S_758 801 q_124 = 0 := by rw [eS_758]; exact (pI_sO_ne (ne_of_new hq_757 ik_527.1)).trans ik_308
      have t_809 : At S_758 q_124 8 := by rw [eS_758]; exact At_sO ik_527 hq_757
      have t_808 : pI S_765 801 q_124 = 0 := (((hK_766 q_124 t_809.1).2 (At_ne t_809 ha_763 (by decide))).2.1 801).trans t_807
      have t_810 : pI S_784 801 q_124 = 0 := tI_sB eS_784 t_808
      have t_811 : pI S_758 1000 q_48 = 0 := by rw [eS_758]; exact (pI_sO_ne (ne_of_new hq_757 ik_513.1)).trans ik_331
      have t_813 : At S_758 q_48 10 := by rw [eS_758]; exact At_sO ik_513 hq_757
      have t_812 : pI S_765 1000 q_48 = 0 := (((hK_766 q_48 t_813.1).2 (At_ne t_813 ha_763 (by decide))).2.1 1000).trans t_811
      have t_814 : pI S_784 1000 q_48 = 0 := tI_sB eS_784 t_812
      have t_815 : pI S_758 800 q_124 = 0 := by rw [eS_758]; exact (pI_sO_ne (ne_of_new hq_757 ik_527.1)).trans ik_340
      have t_816 : pI S_765 800 q_124 = 0 := (((hK_766 q_124 t_809.1).2 (At_ne t_809 ha_763 (by decide))).2.1 800).trans t_815
      have t_817 : pI S_784 800 q_124 = 0 := tI_sB eS_784 t_816
      have t_818 : pR S_758 1100 x = some q_1 := by rw [eS_758]; exact (pR_sO_ne (ne_of_new hq_757 ha_x_L_221.1)).trans ik_361
      have t_819 : pR S_765 1100 x = some q_1 := (((hK_766 x t_802.1).2 (At_ne t_802 ha_763 (by decide))).2.2.1 1100).trans t_818
      have t_820 : pR S_784 1100 x = some q_1 := tR_sB eS_784 t_819
      have t_821 : At S_758 q_1 36 := by rw [eS_758]; exact At_sO ik_362 hq_757
      have t_822 : At S_765 q_1 36 := hK_766.at ha_763 t_821 (by decide)
      have t_823 : At S_784 q_1 36 := tAt_sB eS_784 t_822
      have t_824 : pN S_758 q_1 = 600 := by rw [eS_758, pN_sO]; exact ik_403
      have t_826 : At S_758 q_1 36 := by rw [eS_758]; exact At_sO ik_362 hq_757
      have t_825 : pN S_765 q_1 = 600 := ((hK_766 q_1 t_826.1).2 (At_ne t_826 ha_763 (by decide))).2.2.2.1.trans t_824
      clear t_824
      have t_827 : pN S_784 q_1 = 600 := tN_sB eS_784 t_825
      clear t_825
      have t_828 : pR S_758 1101 x = some q_16 := by rw [eS_758]; exact (pR_sO_ne (ne_of_new hq_757 ha_x_L_221.1)).trans ik_422
      have t_829 : pR S_765 1101 x = some q_16 := (((hK_766 x t_802.1).2 (At_ne t_802 ha_763 (by decide))).2.2.1 1101).trans t_828
      have t_830 : pR S_784 1101 x = some q_16 := tR_sB eS_784 t_829
      have t_831 : At S_758 q_16 54 := by rw [eS_758]; exact At_sO ik_423 hq_757
      have t_832 : At S_765 q_16 54 := hK_766.at ha_763 t_831 (by decide)
      have t_833 : At S_784 q_16 54 := tAt_sB eS_784 t_832
      have t_834 : pN S_758 q_16 = 10 := by rw [eS_758, pN_sO]; exact ik_460
      have t_836 : At S_758 q_16 54 := by rw [eS_758]; exact At_sO ik_423 hq_757
      have t_835 : pN S_765 q_16 = 10 := ((hK_766 q_16 t_836.1).2 (At_ne t_836 ha_763 (by decide))).2.2.2.1.trans t_834
      clear t_834
      have t_837 : pN S_784 q_16 = 10 := tN_sB eS_784 t_835
      clear t_835
      have t_838 : pR S_758 1103 x = some q_32 := by rw [eS_758]; exact (pR_sO_ne (ne_of_new hq_757 ha_x_L_221.1)).trans ik_477
      have t_839 : pR S_765 1103 x = some q_32 := (((hK_766 x t_802.1).2 (At_ne t_802 ha_763 (by decide))).2.2.1 1103).trans t_838
      have t_840 : pR S_784 1103 x = some q_32 := tR_sB eS_784 t_839
      have t_841 : At S_758 q_32 18 := by rw [eS_758]; exact At_sO ik_478 hq_757
      have t_842 : At S_765 q_32 18 := hK_766.at ha_763 t_841 (by decide)
      have t_843 : At S_784 q_32 18 := tAt_sB eS_784 t_842
      have t_844 : pN S_758 q_32 = 4 := by rw [eS_758, pN_sO]; exact ik_511
      have t_846 : At S_758 q_32 18 := by rw [eS_758]; exact At_sO ik_478 hq_757
      have t_845 : pN S_765 q_32 = 4 := ((hK_766 q_32 t_846.1).2 (At_ne t_846 ha_763 (by decide))).2.2.2.1.trans t_844
      clear t_844
      have t_847 : pN S_784 q_32 = 4 := tN_sB eS_784 t_845
      clear t_845
      have t_848 : pR S_758 1105 x = some q_48 := by rw [eS_758]; exact (pR_sO_ne (ne_of_new hq_757 ha_x_L_221.1)).trans ik_512
      have t_849 : pR S_765 1105 x = some q_48 := (((hK_766 x t_802.1).2 (At_ne t_802 ha_763 (by decide))).2.2.1 1105).trans t_848
      have t_850 : pR S_784 1105 x = some q_48 := tR_sB eS_784 t_849
      have t_851 : At S_765 q_48 10 := hK_766.at ha_763 t_813 (by decide)
      have t_852 : At S_784 q_48 10 := tAt_sB eS_784 t_851
      have t_853 : pR S_758 1106 x = some q_75 := by rw [eS_758]; exact (pR_sO_ne (ne_of_new hq_757 ha_x_L_221.1)).trans ik_524
      have t_854 : pR S_765 1106 x = some q_75 := (((hK_766 x t_802.1).2 (At_ne t_802 ha_763 (by decide))).2.2.1 1106).trans t_853
      have t_855 : pR S_784 1106 x = some q_75 := tR_sB eS_784 t_854
      have t_856 : At S_758 q_75 6 := by rw [eS_758]; exact At_sO ik_525 hq_757
      have t_857 : At S_765 q_75 6 := hK_766.at ha_763 t_856 (by decide)
      have t_858 : At S_784 q_75 6 := tAt_sB eS_784 t_857
      have t_859 : pR S_758 1107 x = some q_124 := by rw [eS_758]; exact (pR_sO_ne (ne_of_new hq_757 ha_x_L_221.1)).trans ik_526
      have t_860 : pR S_765 1107 x = some q_124 := (((hK_766 x t_802.1).2 (At_ne t_802 ha_763 (by decide))).2.2.1 1107).trans t_859
      have t_861 : pR S_784 1107 x = some q_124 := tR_sB eS_784 t_860
      have t_862 : At S_765 q_124 8 := hK_766.at ha_763 t_809 (by decide)
      have t_863 : At S_784 q_124 8 := tAt_sB eS_784 t_862
      have t_864 : pR S_758 1108 x = some q_158 := by rw [eS_758]; exact (pR_sO_ne (ne_of_new hq_757 ha_x_L_221.1)).trans ik_532
      have t_865 : pR S_765 1108 x = some q_158 := (((hK_766 x t_802.1).2 (At_ne t_802 ha_763 (by decide))).2.2.1 1108).trans t_864
      have t_866 : pR S_784 1108 x = some q_158 := tR_sB eS_784 t_865
      have t_867 : At S_758 q_158 1 := by rw [eS_758]; exact At_sO ik_533 hq_757
      have t_868 : At S_765 q_158 1 := hK_766.at ha_763 t_867 (by decide)
      have t_869 : At S_784 q_158 1 := tAt_sB eS_784 t_868
      have t_870 : pR S_758 1109 x = some q_184 := by rw [eS_758]; exact (pR_sO_ne (ne_of_new hq_757 ha_x_L_221.1)).trans ik_534
      have t_871 : pR S_765 1109 x = some q_184 := (((hK_766 x t_802.1).2 (At_ne t_802 ha_763 (by decide))).2.2.1 1109).trans t_870
      have t_872 : pR S_784 1109 x = some q_184 := tR_sB eS_784 t_871
      have t_873 : At S_784 q_184 17 := tAt_sB eS_784 t_780
      have t_874 : pN S_784 q_184 = 16 := tN_sB eS_784 t_782
      clear t_782
      have t_875 : pR S_758 1111 x = some q_200 := by rw [eS_758]; exact (pR_sO_ne (ne_of_new hq_757 ha_x_L_221.1)).trans ik_541
      have t_876 : pR S_765 1111 x = some q_200 := (((hK_766 x t_802.1).2 (At_ne t_802 ha_763 (by decide))).2.2.1 1111).trans t_875
      have t_877 : pR S_784 1111 x = some q_200 := tR_sB eS_784 t_876
      have t_878 : At S_758 q_200 194 := by rw [eS_758]; exact At_sO ik_542 hq_757
      have t_879 : At S_765 q_200 194 := hK_766.at ha_763 t_878 (by decide)
      have t_880 : At S_784 q_200 194 := tAt_sB eS_784 t_879
      have t_881 : pN S_758 q_200 = 60 := by rw [eS_758, pN_sO]; exact ik_544
      have t_883 : At S_758 q_200 194 := by rw [eS_758]; exact At_sO ik_542 hq_757
      have t_882 : pN S_765 q_200 = 60 := ((hK_766 q_200 t_883.1).2 (At_ne t_883 ha_763 (by decide))).2.2.2.1.trans t_881
      clear t_881
      have t_884 : pN S_784 q_200 = 60 := tN_sB eS_784 t_882
      clear t_882
      have t_885 : pR S_758 601 q_75 = some q_94 := by rw [eS_758]; exact (pR_sO_ne (ne_of_new hq_757 ik_525.1)).trans ik_561
      have t_887 : At S_758 q_75 6 := by rw [eS_758]; exact At_sO ik_525 hq_757
      have t_886 : pR S_765 601 q_75 = some q_94 := (((hK_766 q_75 t_887.1).2 (At_ne t_887 ha_763 (by decide))).2.2.1 601).trans t_885
      have t_888 : pR S_784 601 q_75 = some q_94 := tR_sB eS_784 t_886
      have t_889 : At S_758 q_94 134 := by rw [eS_758]; exact At_sO ik_562 hq_757
      have t_890 : At S_765 q_94 134 := hK_766.at ha_763 t_889 (by decide)
      have t_891 : At S_784 q_94 134 := tAt_sB eS_784 t_890
      have t_892 : pN S_758 q_94 = 12 := by rw [eS_758, pN_sO]; exact ik_583
      have t_894 : At S_758 q_94 134 := by rw [eS_758]; exact At_sO ik_562 hq_757
      have t_893 : pN S_765 q_94 = 12 := ((hK_766 q_94 t_894.1).2 (At_ne t_894 ha_763 (by decide))).2.2.2.1.trans t_892
      clear t_892
      have t_895 : pN S_784 q_94 = 12 := tN_sB eS_784 t_893
      clear t_893
      have t_896 : pR S_758 602 q_75 = some q_98 := by rw [eS_758]; exact (pR_sO_ne (ne_of_new hq_757 ik_525.1)).trans ik_595
      have t_897 : pR S_765 602 q_75 = some q_98 := (((hK_766 q_75 t_887.1).2 (At_ne t_887 ha_763 (by decide))).2.2.1 602).trans t_896
      have t_898 : pR S_784 602 q_75 = some q_98 := tR_sB eS_784 t_897
      have t_899 : At S_758 q_98 134 := by rw [eS_758]; exact At_sO ik_596 hq_757
      have t_900 : At S_765 q_98 134 := hK_766.at ha_763 t_899 (by decide)
      have t_901 : At S_784 q_98 134 := tAt_sB eS_784 t_900
      have t_902 : pN S_758 q_98 = 12 := by rw [eS_758, pN_sO]; exact ik_617
      have t_904 : At S_758 q_98 134 := by rw [eS_758]; exact At_sO ik_596 hq_757
      have t_903 : pN S_765 q_98 = 12 := ((hK_766 q_98 t_904.1).2 (At_ne t_904 ha_763 (by decide))).2.2.2.1.trans t_902
      clear t_902
      have t_905 : pN S_784 q_98 = 12 := tN_sB eS_784 t_903
      clear t_903
      have t_906 : pR S_758 604 q_75 = some q_102 := by rw [eS_758]; exact (pR_sO_ne (ne_of_new hq_757 ik_525.1)).trans ik_629
      have t_907 : pR S_765 604 q_75 = some q_102 := (((hK_766 q_75 t_887.1).2 (At_ne t_887 ha_763 (by decide))).2.2.1 604).trans t_906
      have t_908 : pR S_784 604 q_75 = some q_102 := tR_sB eS_784 t_907
      have t_909 : At S_758 q_102 134 := by rw [eS_758]; exact At_sO ik_630 hq_757
      have t_910 : At S_765 q_102 134 := hK_766.at ha_763 t_909 (by decide)
      have t_911 : At S_784 q_102 134 := tAt_sB eS_784 t_910
      have t_912 : pN S_758 q_102 = 48 := by rw [eS_758, pN_sO]; exact ik_651
      have t_914 : At S_758 q_102 134 := by rw [eS_758]; exact At_sO ik_630 hq_757
      have t_913 : pN S_765 q_102 = 48 := ((hK_766 q_102 t_914.1).2 (At_ne t_914 ha_763 (by decide))).2.2.2.1.trans t_912
      clear t_912
      have t_915 : pN S_784 q_102 = 48 := tN_sB eS_784 t_913
      clear t_913
      have t_916 : pR S_758 605 q_75 = some q_106 := by rw [eS_758]; exact (pR_sO_ne (ne_of_new hq_757 ik_525.1)).trans ik_663
      have t_917 : pR S_765 605 q_75 = some q_106 := (((hK_766 q_75 t_887.1).2 (At_ne t_887 ha_763 (by decide))).2.2.1 605).trans t_916
      have t_918 : pR S_784 605 q_75 = some q_106 := tR_sB eS_784 t_917
      have t_919 : At S_758 q_106 134 := by rw [eS_758]; exact At_sO ik_664 hq_757
      have t_920 : At S_765 q_106 134 := hK_766.at ha_763 t_919 (by decide)
      have t_921 : At S_784 q_106 134 := tAt_sB eS_784 t_920
      have t_922 : pN S_758 q_106 = 48 := by rw [eS_758, pN_sO]; exact ik_685
      have t_924 : At S_758 q_106 134 := by rw [eS_758]; exact At_sO ik_664 hq_757
      have t_923 : pN S_765 q_106 = 48 := ((hK_766 q_106 t_924.1).2 (At_ne t_924 ha_763 (by decide))).2.2.2.1.trans t_922
      clear t_922
      have t_925 : pN S_784 q_106 = 48 := tN_sB eS_784 t_923
      clear t_923
      have t_926 : pR S_758 606 q_75 = some q_110 := by rw [eS_758]; exact (pR_sO_ne (ne_of_new hq_757 ik_525.1)).trans ik_697
      have t_927 : pR S_765 606 q_75 = some q_110 := (((hK_766 q_75 t_887.1).2 (At_ne t_887 ha_763 (by decide))).2.2.1 606).trans t_926
      have t_928 : pR S_784 606 q_75 = some q_110 := tR_sB eS_784 t_927
      have t_929 : At S_758 q_110 134 := by rw [eS_758]; exact At_sO ik_698 hq_757
      have t_930 : At S_765 q_110 134 := hK_766.at ha_763 t_929 (by decide)
      have t_931 : At S_784 q_110 134 := tAt_sB eS_784 t_930
      have t_932 : pN S_758 q_110 = 48 := by rw [eS_758, pN_sO]; exact ik_719
      have t_934 : At S_758 q_110 134 := by rw [eS_758]; exact At_sO ik_698 hq_757
      have t_933 : pN S_765 q_110 = 48 := ((hK_766 q_110 t_934.1).2 (At_ne t_934 ha_763 (by decide))).2.2.2.1.trans t_932
      clear t_932
      have t_935 : pN S_784 q_110 = 48 := tN_sB eS_784 t_933
      clear t_933
      have t_936 : pR S_758 807 q_124 = some q_144 := by rw [eS_758]; exact (pR_sO_ne (ne_of_new hq_757 ik_527.1)).trans ik_728
      have t_937 : pR S_765 807 q_124 = some q_144 := (((hK_766 q_124 t_809.1).2 (At_ne t_809 ha_763 (by decide))).2.2.1 807).trans t_936
      have t_938 : pR S_784 807 q_124 = some q_144 := tR_sB eS_784 t_937
      have t_939 : At S_765 q_144 154 := hK_766.at ha_763 t_798 (by decide)
      have t_940 : At S_784 q_144 154 := tAt_sB eS_784 t_939
      have t_941 : pN S_758 q_144 = 4 := by rw [eS_758, pN_sO]; exact ik_744
      have t_942 : pN S_765 q_144 = 4 := ((hK_766 q_144 t_798.1).2 (At_ne t_798 ha_763 (by decide))).2.2.2.1.trans t_941
      clear t_941
      have t_943 : pN S_784 q_144 = 4 := tN_sB eS_784 t_942
      clear t_942
      exact ih _ (by omega) _ _ _ _ (x_791) (x_791.toInt) (((cc_745 + 1) + 1)) (((nn_746 + 5) + 8)) rfl hw rfl (by omega) t_795 hK_787 hg_788 ph_785 ph_786 (by rw [show x_791.toInt = i1_219_z + 1 by omega]; exact sh_789) (bb_799.trans iv_223) t_803 t_806 t_810 t_814 t_817 t_820 t_823 t_827 t_830 t_833 t_837 t_840 t_843 t_847 t_850 t_852 t_855 t_858 t_861 t_863 t_866 t_869 t_872 t_873 t_874 t_877 t_880 t_884 t_888 t_891 t_895 t_898 t_901 t_905 t_908 t_911 t_915 t_918 t_921 t_925 t_928 t_931 t_935 t_938 t_940 t_943 (by omega) (by omega) (lv_sub hl [0, 1] rfl)
  have t_944 : At S_210 x 191 := tAt_sR eS_210 t_209
  have bb_945 : pA S_152 q_144 = pA S_132 q_144 := by rw [eS_152]; rfl
  have bb_946 : pA S_159 q_144 = pA S_132 q_144 := (show pA S_159 q_144 = pA S_152 q_144 from by rw [eS_159]; rfl).trans bb_945
  have bb_947 : pA S_166 q_144 = pA S_132 q_144 := (show pA S_166 q_144 = pA S_159 q_144 from ((hK_167 q_144 t_734.1).2 (At_ne t_734 ha_164 (by decide))).2.2.2.2.1).trans bb_946
  have bb_948 : pA S_178 q_144 = pA S_132 q_144 := (show pA S_178 q_144 = pA S_166 q_144 from by rw [eS_178]; rfl).trans bb_947
  have bb_949 : pA S_185 q_144 = pA S_132 q_144 := (show pA S_185 q_144 = pA S_178 q_144 from by rw [eS_185]; exact if_neg (ne_of_new hq_184 t_738.1)).trans bb_948
  have bb_950 : pA S_194 q_144 = pA S_132 q_144 := (show pA S_194 q_144 = pA S_185 q_144 from by rw [eS_194]; rfl).trans bb_949
  have bb_951 : pA S_201 q_144 = pA S_132 q_144 := (show pA S_201 q_144 = pA S_194 q_144 from by rw [eS_201]; exact if_neg (ne_of_new hq_200 t_742.1)).trans bb_950
  have bb_952 : pA S_210 q_144 = pA S_132 q_144 := (show pA S_210 q_144 = pA S_201 q_144 from by rw [eS_210]; rfl).trans bb_951
  have t_953 : At S_201 q_1 36 := by rw [eS_201]; exact At_sN t_401 hq_200
  have t_954 : At S_210 q_1 36 := tAt_sR eS_210 t_953
  have t_955 : At S_201 q_16 54 := by rw [eS_201]; exact At_sN t_458 hq_200
  have t_956 : At S_210 q_16 54 := tAt_sR eS_210 t_955
  have t_957 : At S_201 q_32 18 := by rw [eS_201]; exact At_sN t_509 hq_200
  have t_958 : At S_210 q_32 18 := tAt_sR eS_210 t_957
  have t_959 : At S_166 q_48 10 := hK_167.at ha_164 t_325 (by decide)
  have t_960 : At S_178 q_48 10 := tAt_sR eS_178 t_959
  have t_961 : At S_185 q_48 10 := by rw [eS_185]; exact At_sN t_960 hq_184
  have t_962 : At S_194 q_48 10 := tAt_sR eS_194 t_961
  have t_963 : At S_201 q_48 10 := by rw [eS_201]; exact At_sN t_962 hq_200
  have t_964 : At S_210 q_48 10 := tAt_sR eS_210 t_963
  have t_965 : At S_166 q_75 6 := hK_167.at ha_164 t_555 (by decide)
  have t_966 : At S_178 q_75 6 := tAt_sR eS_178 t_965
  have t_967 : At S_185 q_75 6 := by rw [eS_185]; exact At_sN t_966 hq_184
  have t_968 : At S_194 q_75 6 := tAt_sR eS_194 t_967
  have t_969 : At S_201 q_75 6 := by rw [eS_201]; exact At_sN t_968 hq_200
  have t_970 : At S_210 q_75 6 := tAt_sR eS_210 t_969
  have t_971 : At S_166 q_124 8 := hK_167.at ha_164 t_302 (by decide)
  have t_972 : At S_178 q_124 8 := tAt_sR eS_178 t_971
  have t_973 : At S_185 q_124 8 := by rw [eS_185]; exact At_sN t_972 hq_184
  have t_974 : At S_194 q_124 8 := tAt_sR eS_194 t_973
  have t_975 : At S_201 q_124 8 := by rw [eS_201]; exact At_sN t_974 hq_200
  have t_976 : At S_210 q_124 8 := tAt_sR eS_210 t_975
  have t_977 : At S_178 q_158 1 := tAt_sR eS_178 ha_169
  have t_978 : At S_185 q_158 1 := by rw [eS_185]; exact At_sN t_977 hq_184
  have t_979 : At S_194 q_158 1 := tAt_sR eS_194 t_978
  have t_980 : At S_201 q_158 1 := by rw [eS_201]; exact At_sN t_979 hq_200
  have t_981 : At S_210 q_158 1 := tAt_sR eS_210 t_980
  have t_982 : At S_201 q_184 17 := by rw [eS_201]; exact At_sN t_538 hq_200
  have t_983 : At S_210 q_184 17 := tAt_sR eS_210 t_982
  have t_984 : At S_210 q_200 194 := tAt_sR eS_210 ha_206
  have t_985 : At S_201 q_94 134 := by rw [eS_201]; exact At_sN t_581 hq_200
  have t_986 : At S_210 q_94 134 := tAt_sR eS_210 t_985
  have t_987 : At S_201 q_98 134 := by rw [eS_201]; exact At_sN t_615 hq_200
  have t_988 : At S_210 q_98 134 := tAt_sR eS_210 t_987
  have t_989 : At S_201 q_102 134 := by rw [eS_201]; exact At_sN t_649 hq_200
  have t_990 : At S_210 q_102 134 := tAt_sR eS_210 t_989
  have t_991 : At S_201 q_106 134 := by rw [eS_201]; exact At_sN t_683 hq_200
  have t_992 : At S_210 q_106 134 := tAt_sR eS_210 t_991
  have t_993 : At S_201 q_110 134 := by rw [eS_201]; exact At_sN t_717 hq_200
  have t_994 : At S_210 q_110 134 := tAt_sR eS_210 t_993
  have t_995 : At S_201 q_144 154 := by rw [eS_201]; exact At_sN t_742 hq_200
  have t_996 : At S_210 q_144 154 := tAt_sR eS_210 t_995
  exact L_218 _ _ _ _ _ (0) (0) (26) (1520) rfl hw ti_0 (by omega) t_944 hK_213 hg_214 ph_211 ph_212 ShI_0 (bb_952.trans pp_148) t_273 t_296 t_307 t_330 t_339 t_360 t_954 t_402 t_421 t_956 t_459 t_476 t_958 t_510 t_249 t_964 t_523 t_970 t_232 t_976 t_531 t_981 t_217 t_983 t_539 h_215 t_984 t_543 t_560 t_986 t_582 t_594 t_988 t_616 t_628 t_990 t_650 t_662 t_992 t_684 t_696 t_994 t_718 t_727 t_996 t_743 (by omega) (by omega) (lv_sub hl [0, 1] rfl)
