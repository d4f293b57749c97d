
set_option maxHeartbeats 4000000 in
set_option maxRecDepth 100000 in
theorem k_X1_init7 (l : Launch) (G : va_G) (cy : Nat → ClassId) (κ : Nat → Nat) (S : PS) (sz : Nat) (x : Nat) (hG : GX S) (ha_x : At S x 181) (hzI : ∀ g, pI S g x = 0) (hzR : ∀ g, pR S g x = none) : Cv l yX1_init wsX1_init ({ frames := 2, cells := 1, slots := 5, locals := 96 }) G cy κ S sz [.ref x] (fun (S9 : PS) => Kq S S9 x ∧ GX S9 ∧ At S9 x 1 ∧ Phc S9 = Phc S + 0 ∧ Phs S9 = Phs S + 0 ∧ pI S9 101 x = 0 ∧ pI S9 102 x = 0 ∧ pI S9 103 x = 0) := by
  refine ent_m (cc := cX1_init) (maxL := 1) (ret := none) (by decide) rfl (Nat.le_of_ble_eq_true rfl) ?_
  intro p e s m below meth c ls X hr hlocks hin hw hl hsz
  subst hsz
  have X : Cx p c cX1_init 1 s [.ref x].toArray wsX1_init RX1 m G cy κ (AS S s.heap.size) := X
  have hl : lv_has ls 1 [(0, .ref x)] := hl
  have hpc0 : Phc S = Phc S + 0 := rfl
  have hps0 : Phs S = Phs S + 0 := rfl
  have hK : Kq S S x := Kq.rf S _
  refine lv_aload_n X.1 X.2.1 dX1_init_0 rfl (lv_at hl 0 rfl) ?_
  refine W.objInit X.1 X.2.1 X.2.2.2.2.1 (X.2.2.2.1 (.methodLink RX1 3 objectInit) (by decide +kernel)) (X.2.2.2.1 (.instanceMethod objectInit) (by decide +kernel)) (X.2.2.2.1 (.code objectInit ⟨#[0xb1]⟩ 1 none) (by decide +kernel)) rfl (hl.1.trans X.2.2.1.symm) rfl dX1_init_1 (Nat.le_of_ble_eq_true rfl) (Nat.le_of_ble_eq_true rfl) ?_
  refine W.eq (g2 := F0 m 4 ls ([])) rfl ?_
  refine lv_aload_n X.1 X.2.1 dX1_init_4 rfl (lv_at hl 0 rfl) ?_
  refine lv_iconst (v := 5) X.1 X.2.1 dX1_init_5 (by decide) ?_
  refine r_newI (N := 5) X hw 74 5 1 rfl (X.2.2.2.1 (.arrayClass .int) (by decide +kernel)) (z_nn ti_5 (by omega)) (by decide) (by decide) (Nat.le_of_ble_eq_true rfl) (Nat.le_of_ble_eq_true rfl) (Nat.le_of_ble_eq_true rfl) (Nat.le_of_ble_eq_true rfl) dX1_init_6 (fun q_1 H hq_1 hw => ?_)
  obtain ⟨S_2, eS_2⟩ : ∃ T, T = sN S q_1 74 5 := ⟨_, rfl⟩
  rw [← eS_2] at hw
  have ph_3 : Phc S_2 = Phc S + 0 := (show Phc S_2 = Phc S from Ph_sN' hG.ci hq_1 eS_2 (by decide)).trans hpc0
  have ph_4 : Phs S_2 = Phs S + 0 := (show Phs S_2 = Phs S from Ph_sN' hG.ci hq_1 eS_2 (by decide)).trans hps0
  clear hpc0
  clear hps0
  have hK_5 : Kq S S_2 x := hK.sN hq_1 eS_2
  have hg_6 : GX S_2 := by rw [eS_2]; exact GX_N hG hq_1 (by decide +kernel)
  have hn0_q_1 := hK.new hq_1
  have ha_7 : At S_2 q_1 74 := by rw [eS_2]; exact At_nN _ _ _ _
  have hn_8 : pN S_2 q_1 = 5 := by rw [eS_2]; exact pN_sN_new
  have t_9 : At S_2 x 181 := by rw [eS_2]; exact At_sN ha_x hq_1
  refine r_putR X hw t_9 rfl 0 100 (some q_1) rfl tyX1 (by decide) rfl inn_X1_init_1 tyX1_ok nmX1 (by decide) (X.2.2.2.1 (.fieldLink RX1 9 "SilkMill$Draw" "metres" "[I") (by decide +kernel)) rfl (Or.inr ⟨rfl, hin, rfl⟩) (fun _ => rfl) rfl (fun _ => rfl) rfl (Nat.le_of_ble_eq_true rfl) (st_100 _ _) dX1_init_8 (fun H locs hw => ?_)
  obtain ⟨S_10, eS_10⟩ : ∃ T, T = sR S_2 100 x (some q_1) := ⟨_, rfl⟩
  rw [← eS_10] at hw
  have ph_11 : Phc S_10 = Phc S + 0 := (show Phc S_10 = Phc S_2 from Ph_rawR t_9 (by decide) eS_10).trans ph_3
  have ph_12 : Phs S_10 = Phs S + 0 := (show Phs S_10 = Phs S_2 from Ph_rawR t_9 (by decide) eS_10).trans ph_4
  clear ph_3
  clear ph_4
  have hK_13 : Kq S S_10 x := hK_5.sR eS_10
  have hg_14 : GX S_10 := by rw [eS_10]; exact GX_rawR hg_6 t_9 (by decide +kernel)
  have h_15 : pR S_10 100 x = some q_1 := tR_sRs eS_10
  have t_16 : At S_10 x 181 := tAt_sR eS_10 t_9
  have nd_17 := nodup_of hw
  have t_18 : At S_10 q_1 74 := tAt_sR eS_10 ha_7
  have t_19 : pN S_10 q_1 = 5 := tN_sR eS_10 hn_8
  clear hn_8
  have t_20 : pI S_2 101 x = 0 := by rw [eS_2, pI_sN]; exact (hzI 101)
  have t_21 : pI S_10 101 x = 0 := tI_sR eS_10 t_20
  obtain ⟨S_22, eS_22⟩ : ∃ T, T = sK S_10 x 1 := ⟨_, rfl⟩
  have hw := Wd_sK (k := 1) hw t_16 rfl; rw [← eS_22] at hw
  have hg9 : GX S_22 := by rw [eS_22]; exact GX_sK hg_14 t_16 (by decide +kernel) (mk_1 ⟨q_1, (by rw [pR_sK]; exact h_15), At_sK t_16 t_18 (by decide), by rw [pN_sK]; exact t_19⟩ (by rw [pI_sK, t_21]; exact ⟨by rw [ti_0]; omega, by rw [ti_0]; omega⟩))
  have ha9 : At S_22 x 1 := by rw [eS_22]; exact At_nK t_16
  have hk9 : Kq S S_22 x := hK_13.sK eS_22
  have hPhc9 : Phc S_22 = Phc S + 0 := by rw [show Phc S_22 = Ph fC 8 14400 S_22 from rfl, Ph_sK nd_17 t_16 (by decide) eS_22, ph_0 ha9 (by decide)]; show Phc S_10 + _ = _; omega
  have hPhs9 : Phs S_22 = Phs S + 0 := by rw [show Phs S_22 = Ph fS 15100 46000 S_22 from rfl, Ph_sK nd_17 t_16 (by decide) eS_22, ph_0 ha9 (by decide)]; show Phs S_10 + _ = _; omega
  have t_23 : pI S_2 102 x = 0 := by rw [eS_2, pI_sN]; exact (hzI 102)
  have t_24 : pI S_10 102 x = 0 := tI_sR eS_10 t_23
  have t_25 : pI S_2 103 x = 0 := by rw [eS_2, pI_sN]; exact (hzI 103)
  have t_26 : pI S_10 103 x = 0 := tI_sR eS_10 t_25
  exact ret_v X hw hr hlocks (Nat.le_of_ble_eq_true rfl) (Nat.le_of_ble_eq_true rfl) ⟨hk9, hg9, ha9, hPhc9, hPhs9, (by rw [eS_22, pI_sK]; exact t_21), (by rw [eS_22, pI_sK]; exact t_24), (by rw [eS_22, pI_sK]; exact t_26)⟩ dX1_init_11
set_option maxHeartbeats 4000000 in
set_option maxRecDepth 100000 in
theorem k_X8_init6 (l : Launch) (G : va_G) (cy : Nat → ClassId) (κ : Nat → Nat) (S : PS) (sz : Nat) (x : Nat) (hG : GX S) (ha_x : At S x 188) (hzI : ∀ g, pI S g x = 0) (hzR : ∀ g, pR S g x = none) : Cv l yX8_init wsX8_init ({ frames := 3, cells := 9, slots := 214, locals := 144 }) G cy κ S sz [.ref x] (fun (S9 : PS) => Kq S S9 x ∧ GX S9 ∧ At S9 x 8 ∧ Phc S9 = Phc S + 320 ∧ Phs S9 = Phs S + 604000 ∧ pI S9 801 x = 0 ∧ pI S9 800 x = 0) := by
  refine ent_m (cc := cX8_init) (maxL := 1) (ret := none) (by decide) rfl (Nat.le_of_ble_eq_true rfl) ?_
  intro p e s m below meth c ls X hr hlocks hin hw hl hsz
  subst hsz
  have X : Cx p c cX8_init 1 s [.ref x].toArray wsX8_init RX8 m G cy κ (AS S s.heap.size) := X
  have hl : lv_has ls 1 [(0, .ref x)] := hl
  have hpc0 : Phc S = Phc S + 0 := rfl
  have hps0 : Phs S = Phs S + 0 := rfl
  have hK : Kq S S x := Kq.rf S _
  refine lv_aload_n X.1 X.2.1 dX8_init_0 rfl (lv_at hl 0 rfl) ?_
  refine W.objInit X.1 X.2.1 X.2.2.2.2.1 (X.2.2.2.1 (.methodLink RX8 3 objectInit) (by decide +kernel)) (X.2.2.2.1 (.instanceMethod objectInit) (by decide +kernel)) (X.2.2.2.1 (.code objectInit ⟨#[0xb1]⟩ 1 none) (by decide +kernel)) rfl (hl.1.trans X.2.2.1.symm) rfl dX8_init_1 (Nat.le_of_ble_eq_true rfl) (Nat.le_of_ble_eq_true rfl) ?_
  refine W.eq (g2 := F0 m 4 ls ([])) rfl ?_
  refine lv_aload_n X.1 X.2.1 dX8_init_4 rfl (lv_at hl 0 rfl) ?_
  refine lv_iconst (v := 4) X.1 X.2.1 dX8_init_5 (by decide) ?_
  refine r_newI (N := 4) X hw 154 4 1 rfl (X.2.2.2.1 (.arrayClass .int) (by decide +kernel)) (z_nn ti_4 (by omega)) (by decide) (by decide) (Nat.le_of_ble_eq_true rfl) (Nat.le_of_ble_eq_true rfl) (Nat.le_of_ble_eq_true rfl) (Nat.le_of_ble_eq_true rfl) dX8_init_6 (fun q_1 H hq_1 hw => ?_)
  obtain ⟨S_2, eS_2⟩ : ∃ T, T = sN S q_1 154 4 := ⟨_, rfl⟩
  rw [← eS_2] at hw
  have ph_3 : Phc S_2 = Phc S + 0 := (show Phc S_2 = Phc S from Ph_sN' hG.ci hq_1 eS_2 (by decide)).trans hpc0
  have ph_4 : Phs S_2 = Phs S + 0 := (show Phs S_2 = Phs S from Ph_sN' hG.ci hq_1 eS_2 (by decide)).trans hps0
  clear hpc0
  clear hps0
  have hK_5 : Kq S S_2 x := hK.sN hq_1 eS_2
  have hg_6 : GX S_2 := by rw [eS_2]; exact GX_N hG hq_1 (by decide +kernel)
  have hn0_q_1 := hK.new hq_1
  have ha_7 : At S_2 q_1 154 := by rw [eS_2]; exact At_nN _ _ _ _
  have hn_8 : pN S_2 q_1 = 4 := by rw [eS_2]; exact pN_sN_new
  refine lv_dup X.1 X.2.1 dX8_init_8 rfl ?_
  refine lv_iconst (v := 0) X.1 X.2.1 dX8_init_9 (by decide) ?_
  refine lv_bipush (v := 100) X.1 X.2.1 dX8_init_10 (by decide) ?_
  refine r_iast X hw ha_7 rfl (by rw [hn_8]; exact z_ix ti_0 (by omega) (by omega)) dX8_init_12 (fun H locs hw => ?_)
  obtain ⟨S_9, eS_9⟩ : ∃ T, T = sA S_2 q_1 (upd (pA S_2 q_1) (Int32.toNatClampNeg (0)) (100)) := ⟨_, rfl⟩
  rw [← eS_9] at hw
  have ph_10 : Phc S_9 = Phc S + 0 := (show Phc S_9 = Phc S_2 from Ph_sA eS_9).trans ph_3
  have ph_11 : Phs S_9 = Phs S + 0 := (show Phs S_9 = Phs S_2 from Ph_sA eS_9).trans ph_4
  clear ph_3
  clear ph_4
  have hK_12 : Kq S S_9 x := hK_5.sA hn0_q_1 eS_9
  have hg_13 : GX S_9 := by rw [eS_9]; exact uA_154 hg_6 ha_7
  have h_14 : pA S_9 q_1 (Int32.toNatClampNeg (0)) = 100 := tA_sAs eS_9
  refine lv_dup X.1 X.2.1 dX8_init_13 rfl ?_
  refine lv_iconst (v := 1) X.1 X.2.1 dX8_init_14 (by decide) ?_
  refine lv_bipush (v := 80) X.1 X.2.1 dX8_init_15 (by decide) ?_
  have t_15 : At S_9 q_1 154 := tAt_sA eS_9 ha_7
  have t_16 : pN S_9 q_1 = 4 := tN_sA eS_9 hn_8
  clear hn_8
  refine r_iast X hw t_15 rfl (by rw [t_16]; exact z_ix ti_1 (by omega) (by omega)) dX8_init_17 (fun H locs hw => ?_)
  obtain ⟨S_17, eS_17⟩ : ∃ T, T = sA S_9 q_1 (upd (pA S_9 q_1) (Int32.toNatClampNeg (1)) (80)) := ⟨_, rfl⟩
  rw [← eS_17] at hw
  have ph_18 : Phc S_17 = Phc S + 0 := (show Phc S_17 = Phc S_9 from Ph_sA eS_17).trans ph_10
  have ph_19 : Phs S_17 = Phs S + 0 := (show Phs S_17 = Phs S_9 from Ph_sA eS_17).trans ph_11
  clear ph_10
  clear ph_11
  have hK_20 : Kq S S_17 x := hK_12.sA hn0_q_1 eS_17
  have hg_21 : GX S_17 := by rw [eS_17]; exact uA_154 hg_13 t_15
  have h_22 : pA S_17 q_1 (Int32.toNatClampNeg (1)) = 80 := tA_sAs eS_17
  refine lv_dup X.1 X.2.1 dX8_init_18 rfl ?_
  refine lv_iconst (v := 2) X.1 X.2.1 dX8_init_19 (by decide) ?_
  refine lv_bipush (v := 50) X.1 X.2.1 dX8_init_20 (by decide) ?_
  have t_23 : At S_17 q_1 154 := tAt_sA eS_17 t_15
  have t_24 : pN S_17 q_1 = 4 := tN_sA eS_17 t_16
  clear t_16
  refine r_iast X hw t_23 rfl (by rw [t_24]; exact z_ix ti_2 (by omega) (by omega)) dX8_init_22 (fun H locs hw => ?_)
  obtain ⟨S_25, eS_25⟩ : ∃ T, T = sA S_17 q_1 (upd (pA S_17 q_1) (Int32.toNatClampNeg (2)) (50)) := ⟨_, rfl⟩
  rw [← eS_25] at hw
  have ph_26 : Phc S_25 = Phc S + 0 := (show Phc S_25 = Phc S_17 from Ph_sA eS_25).trans ph_18
  have ph_27 : Phs S_25 = Phs S + 0 := (show Phs S_25 = Phs S_17 from Ph_sA eS_25).trans ph_19
  clear ph_18
  clear ph_19
  have hK_28 : Kq S S_25 x := hK_20.sA hn0_q_1 eS_25
  have hg_29 : GX S_25 := by rw [eS_25]; exact uA_154 hg_21 t_23
  have h_30 : pA S_25 q_1 (Int32.toNatClampNeg (2)) = 50 := tA_sAs eS_25
  refine lv_dup X.1 X.2.1 dX8_init_23 rfl ?_
  refine lv_iconst (v := 3) X.1 X.2.1 dX8_init_24 (by decide) ?_
  refine lv_bipush (v := 20) X.1 X.2.1 dX8_init_25 (by decide) ?_
  have t_31 : At S_25 q_1 154 := tAt_sA eS_25 t_23
  have t_32 : pN S_25 q_1 = 4 := tN_sA eS_25 t_24
  clear t_24
  refine r_iast X hw t_31 rfl (by rw [t_32]; exact z_ix ti_3 (by omega) (by omega)) dX8_init_27 (fun H locs hw => ?_)
  obtain ⟨S_33, eS_33⟩ : ∃ T, T = sA S_25 q_1 (upd (pA S_25 q_1) (Int32.toNatClampNeg (3)) (20)) := ⟨_, rfl⟩
  rw [← eS_33] at hw
  have ph_34 : Phc S_33 = Phc S + 0 := (show Phc S_33 = Phc S_25 from Ph_sA eS_33).trans ph_26
  have ph_35 : Phs S_33 = Phs S + 0 := (show Phs S_33 = Phs S_25 from Ph_sA eS_33).trans ph_27
  clear ph_26
  clear ph_27
  have hK_36 : Kq S S_33 x := hK_28.sA hn0_q_1 eS_33
  have hg_37 : GX S_33 := by rw [eS_33]; exact uA_154 hg_29 t_31
  have h_38 : pA S_33 q_1 (Int32.toNatClampNeg (3)) = 20 := tA_sAs eS_33
  have t_39 : At S_2 x 188 := by rw [eS_2]; exact At_sN ha_x hq_1
  have t_40 : At S_9 x 188 := tAt_sA eS_9 t_39
  have t_41 : At S_17 x 188 := tAt_sA eS_17 t_40
  have t_42 : At S_25 x 188 := tAt_sA eS_25 t_41
  have t_43 : At S_33 x 188 := tAt_sA eS_33 t_42
  have t_44 : At S_33 q_1 154 := tAt_sA eS_33 t_31
  refine r_putR X hw t_43 rfl 7 807 (some q_1) rfl tyX8 (by decide) rfl inn_X8_init_8 tyX8_ok nmX8 (by decide) (X.2.2.2.1 (.fieldLink RX8 9 "SilkMill$Store" "prices" "[I") (by decide +kernel)) rfl (Or.inr ⟨rfl, hin, rfl⟩) (fun _ => rfl) rfl (fun _ => rfl) rfl (Nat.le_of_ble_eq_true rfl) (st_807 _ _) dX8_init_28 (fun H locs hw => ?_)
  obtain ⟨S_45, eS_45⟩ : ∃ T, T = sR S_33 807 x (some q_1) := ⟨_, rfl⟩
  rw [← eS_45] at hw
  have ph_46 : Phc S_45 = Phc S + 0 := (show Phc S_45 = Phc S_33 from Ph_rawR t_43 (by decide) eS_45).trans ph_34
  have ph_47 : Phs S_45 = Phs S + 0 := (show Phs S_45 = Phs S_33 from Ph_rawR t_43 (by decide) eS_45).trans ph_35
  clear ph_34
  clear ph_35
  have hK_48 : Kq S S_45 x := hK_36.sR eS_45
  have hg_49 : GX S_45 := by rw [eS_45]; exact GX_rawR hg_37 t_43 (by decide +kernel)
  have h_50 : pR S_45 807 x = some q_1 := tR_sRs eS_45
  refine lv_aload_n X.1 X.2.1 dX8_init_31 rfl (lv_at hl 0 rfl) ?_
  refine lv_bipush (v := 40) X.1 X.2.1 dX8_init_32 (by decide) ?_
  refine r_newQ (N := 40) (C := RX7) X hw 19 19 44 2 rfl (by decide) rfl (X.2.2.2.1 (.classLink RX8 15 RX7) (by decide +kernel)) X.2.2.2.2.2.2.2.1.1.2.2.2 (z_nn ti_40 (by omega)) (by decide) (by decide) (Nat.le_of_ble_eq_true rfl) (Nat.le_of_ble_eq_true rfl) (Nat.le_of_ble_eq_true rfl) (Nat.le_of_ble_eq_true rfl) dX8_init_34 (fun q_51 H hq_51 hw => ?_)
  obtain ⟨S_52, eS_52⟩ : ∃ T, T = sN S_45 q_51 19 40 := ⟨_, rfl⟩
  rw [← eS_52] at hw
  have ph_53 : Phc S_52 = Phc S + 0 := (show Phc S_52 = Phc S_45 from Ph_sN' hg_49.ci hq_51 eS_52 (by decide)).trans ph_46
  have ph_54 : Phs S_52 = Phs S + 0 := (show Phs S_52 = Phs S_45 from Ph_sN' hg_49.ci hq_51 eS_52 (by decide)).trans ph_47
  clear ph_46
  clear ph_47
  have hK_55 : Kq S S_52 x := hK_48.sN hq_51 eS_52
  have hg_56 : GX S_52 := by rw [eS_52]; exact GX_N hg_49 hq_51 (by decide +kernel)
  have hn0_q_51 := hK_48.new hq_51
  have ha_57 : At S_52 q_51 19 := by rw [eS_52]; exact At_nN _ _ _ _
  have hn_58 : pN S_52 q_51 = 40 := by rw [eS_52]; exact pN_sN_new
  have t_59 : At S_45 x 188 := tAt_sR eS_45 t_43
  have t_60 : At S_52 x 188 := by rw [eS_52]; exact At_sN t_59 hq_51
  refine r_putR X hw t_60 rfl 8 808 (some q_51) rfl tyX8 (by decide) rfl inn_X8_init_8 tyX8_ok nmX8 (by decide) (X.2.2.2.1 (.fieldLink RX8 17 "SilkMill$Store" "skeins" "[LSilkMill$Skein;") (by decide +kernel)) rfl (Or.inr ⟨rfl, hin, rfl⟩) (fun _ => rfl) rfl (fun _ => rfl) rfl (Nat.le_of_ble_eq_true rfl) (st_808 _ _) dX8_init_37 (fun H locs hw => ?_)
  obtain ⟨S_61, eS_61⟩ : ∃ T, T = sR S_52 808 x (some q_51) := ⟨_, rfl⟩
  rw [← eS_61] at hw
  have ph_62 : Phc S_61 = Phc S + 0 := (show Phc S_61 = Phc S_52 from Ph_rawR t_60 (by decide) eS_61).trans ph_53
  have ph_63 : Phs S_61 = Phs S + 0 := (show Phs S_61 = Phs S_52 from Ph_rawR t_60 (by decide) eS_61).trans ph_54
  clear ph_53
  clear ph_54
  have hK_64 : Kq S S_61 x := hK_55.sR eS_61
  have hg_65 : GX S_61 := by rw [eS_61]; exact GX_rawR hg_56 t_60 (by decide +kernel)
  have h_66 : pR S_61 808 x = some q_51 := tR_sRs eS_61
  refine lv_aload_n X.1 X.2.1 dX8_init_40 rfl (lv_at hl 0 rfl) ?_
  refine lv_bipush (v := 40) X.1 X.2.1 dX8_init_41 (by decide) ?_
  refine r_newI (N := 40) X hw 1674 84 3 rfl (X.2.2.2.1 (.arrayClass .int) (by decide +kernel)) (z_nn ti_40 (by omega)) (by decide) (by decide) (Nat.le_of_ble_eq_true rfl) (Nat.le_of_ble_eq_true rfl) (Nat.le_of_ble_eq_true rfl) (Nat.le_of_ble_eq_true rfl) dX8_init_43 (fun q_67 H hq_67 hw => ?_)
  obtain ⟨S_68, eS_68⟩ : ∃ T, T = sN S_61 q_67 1674 40 := ⟨_, rfl⟩
  rw [← eS_68] at hw
  have ph_69 : Phc S_68 = Phc S + 0 := (show Phc S_68 = Phc S_61 from Ph_sN' hg_65.ci hq_67 eS_68 (by decide)).trans ph_62
  have ph_70 : Phs S_68 = Phs S + 0 := (show Phs S_68 = Phs S_61 from Ph_sN' hg_65.ci hq_67 eS_68 (by decide)).trans ph_63
  clear ph_62
  clear ph_63
  have hK_71 : Kq S S_68 x := hK_64.sN hq_67 eS_68
  have hg_72 : GX S_68 := by rw [eS_68]; exact GX_N hg_65 hq_67 (by decide +kernel)
  have hn0_q_67 := hK_64.new hq_67
  have ha_73 : At S_68 q_67 1674 := by rw [eS_68]; exact At_nN _ _ _ _
  have hn_74 : pN S_68 q_67 = 40 := by rw [eS_68]; exact pN_sN_new
  have t_75 : At S_61 x 188 := tAt_sR eS_61 t_60
  have t_76 : At S_68 x 188 := by rw [eS_68]; exact At_sN t_75 hq_67
  refine r_putR X hw t_76 rfl 9 809 (some q_67) rfl tyX8 (by decide) rfl inn_X8_init_8 tyX8_ok nmX8 (by decide) (X.2.2.2.1 (.fieldLink RX8 21 "SilkMill$Store" "faultSkeins" "[I") (by decide +kernel)) rfl (Or.inr ⟨rfl, hin, rfl⟩) (fun _ => rfl) rfl (fun _ => rfl) rfl (Nat.le_of_ble_eq_true rfl) (st_809 _ _) dX8_init_45 (fun H locs hw => ?_)
  obtain ⟨S_77, eS_77⟩ : ∃ T, T = sR S_68 809 x (some q_67) := ⟨_, rfl⟩
  rw [← eS_77] at hw
  have ph_78 : Phc S_77 = Phc S + 0 := (show Phc S_77 = Phc S_68 from Ph_rawR t_76 (by decide) eS_77).trans ph_69
  have ph_79 : Phs S_77 = Phs S + 0 := (show Phs S_77 = Phs S_68 from Ph_rawR t_76 (by decide) eS_77).trans ph_70
  clear ph_69
  clear ph_70
  have hK_80 : Kq S S_77 x := hK_71.sR eS_77
  have hg_81 : GX S_77 := by rw [eS_77]; exact GX_rawR hg_72 t_76 (by decide +kernel)
  have h_82 : pR S_77 809 x = some q_67 := tR_sRs eS_77
  refine lv_aload_n X.1 X.2.1 dX8_init_48 rfl (lv_at hl 0 rfl) ?_
  refine lv_bipush (v := 40) X.1 X.2.1 dX8_init_49 (by decide) ?_
  refine r_newI (N := 40) X hw 1694 124 4 rfl (X.2.2.2.1 (.arrayClass .int) (by decide +kernel)) (z_nn ti_40 (by omega)) (by decide) (by decide) (Nat.le_of_ble_eq_true rfl) (Nat.le_of_ble_eq_true rfl) (Nat.le_of_ble_eq_true rfl) (Nat.le_of_ble_eq_true rfl) dX8_init_51 (fun q_83 H hq_83 hw => ?_)
  obtain ⟨S_84, eS_84⟩ : ∃ T, T = sN S_77 q_83 1694 40 := ⟨_, rfl⟩
  rw [← eS_84] at hw
  have ph_85 : Phc S_84 = Phc S + 0 := (show Phc S_84 = Phc S_77 from Ph_sN' hg_81.ci hq_83 eS_84 (by decide)).trans ph_78
  have ph_86 : Phs S_84 = Phs S + 0 := (show Phs S_84 = Phs S_77 from Ph_sN' hg_81.ci hq_83 eS_84 (by decide)).trans ph_79
  clear ph_78
  clear ph_79
  have hK_87 : Kq S S_84 x := hK_80.sN hq_83 eS_84
  have hg_88 : GX S_84 := by rw [eS_84]; exact GX_N hg_81 hq_83 (by decide +kernel)
  have hn0_q_83 := hK_80.new hq_83
  have ha_89 : At S_84 q_83 1694 := by rw [eS_84]; exact At_nN _ _ _ _
  have hn_90 : pN S_84 q_83 = 40 := by rw [eS_84]; exact pN_sN_new
  have t_91 : At S_77 x 188 := tAt_sR eS_77 t_76
  have t_92 : At S_84 x 188 := by rw [eS_84]; exact At_sN t_91 hq_83
  refine r_putR X hw t_92 rfl 10 810 (some q_83) rfl tyX8 (by decide) rfl inn_X8_init_8 tyX8_ok nmX8 (by decide) (X.2.2.2.1 (.fieldLink RX8 24 "SilkMill$Store" "faultDays" "[I") (by decide +kernel)) rfl (Or.inr ⟨rfl, hin, rfl⟩) (fun _ => rfl) rfl (fun _ => rfl) rfl (Nat.le_of_ble_eq_true rfl) (st_810 _ _) dX8_init_53 (fun H locs hw => ?_)
  obtain ⟨S_93, eS_93⟩ : ∃ T, T = sR S_84 810 x (some q_83) := ⟨_, rfl⟩
  rw [← eS_93] at hw
  have ph_94 : Phc S_93 = Phc S + 0 := (show Phc S_93 = Phc S_84 from Ph_rawR t_92 (by decide) eS_93).trans ph_85
  have ph_95 : Phs S_93 = Phs S + 0 := (show Phs S_93 = Phs S_84 from Ph_rawR t_92 (by decide) eS_93).trans ph_86
  clear ph_85
  clear ph_86
  have hK_96 : Kq S S_93 x := hK_87.sR eS_93
  have hg_97 : GX S_93 := by rw [eS_93]; exact GX_rawR hg_88 t_92 (by decide +kernel)
  have h_98 : pR S_93 810 x = some q_83 := tR_sRs eS_93
  refine lv_aload_n X.1 X.2.1 dX8_init_56 rfl (lv_at hl 0 rfl) ?_
  refine lv_bipush (v := 40) X.1 X.2.1 dX8_init_57 (by decide) ?_
  refine r_newI (N := 40) X hw 1714 164 5 rfl (X.2.2.2.1 (.arrayClass .int) (by decide +kernel)) (z_nn ti_40 (by omega)) (by decide) (by decide) (Nat.le_of_ble_eq_true rfl) (Nat.le_of_ble_eq_true rfl) (Nat.le_of_ble_eq_true rfl) (Nat.le_of_ble_eq_true rfl) dX8_init_59 (fun q_99 H hq_99 hw => ?_)
  obtain ⟨S_100, eS_100⟩ : ∃ T, T = sN S_93 q_99 1714 40 := ⟨_, rfl⟩
  rw [← eS_100] at hw
  have ph_101 : Phc S_100 = Phc S + 0 := (show Phc S_100 = Phc S_93 from Ph_sN' hg_97.ci hq_99 eS_100 (by decide)).trans ph_94
  have ph_102 : Phs S_100 = Phs S + 0 := (show Phs S_100 = Phs S_93 from Ph_sN' hg_97.ci hq_99 eS_100 (by decide)).trans ph_95
  clear ph_94
  clear ph_95
  have hK_103 : Kq S S_100 x := hK_96.sN hq_99 eS_100
  have hg_104 : GX S_100 := by rw [eS_100]; exact GX_N hg_97 hq_99 (by decide +kernel)
  have hn0_q_99 := hK_96.new hq_99
  have ha_105 : At S_100 q_99 1714 := by rw [eS_100]; exact At_nN _ _ _ _
  have hn_106 : pN S_100 q_99 = 40 := by rw [eS_100]; exact pN_sN_new
  have t_107 : At S_93 x 188 := tAt_sR eS_93 t_92
  have t_108 : At S_100 x 188 := by rw [eS_100]; exact At_sN t_107 hq_99
  refine r_putR X hw t_108 rfl 11 811 (some q_99) rfl tyX8 (by decide) rfl inn_X8_init_8 tyX8_ok nmX8 (by decide) (X.2.2.2.1 (.fieldLink RX8 27 "SilkMill$Store" "faultAmounts" "[I") (by decide +kernel)) rfl (Or.inr ⟨rfl, hin, rfl⟩) (fun _ => rfl) rfl (fun _ => rfl) rfl (Nat.le_of_ble_eq_true rfl) (st_811 _ _) dX8_init_61 (fun H locs hw => ?_)
  obtain ⟨S_109, eS_109⟩ : ∃ T, T = sR S_100 811 x (some q_99) := ⟨_, rfl⟩
  rw [← eS_109] at hw
  have ph_110 : Phc S_109 = Phc S + 0 := (show Phc S_109 = Phc S_100 from Ph_rawR t_108 (by decide) eS_109).trans ph_101
  have ph_111 : Phs S_109 = Phs S + 0 := (show Phs S_109 = Phs S_100 from Ph_rawR t_108 (by decide) eS_109).trans ph_102
  clear ph_101
  clear ph_102
  have hK_112 : Kq S S_109 x := hK_103.sR eS_109
  have hg_113 : GX S_109 := by rw [eS_109]; exact GX_rawR hg_104 t_108 (by decide +kernel)
  have h_114 : pR S_109 811 x = some q_99 := tR_sRs eS_109
  refine lv_aload_n X.1 X.2.1 dX8_init_64 rfl (lv_at hl 0 rfl) ?_
  refine r_new X hw 182 2 172 6 rfl tyX2 (by decide) rfl inn_X8_init_2 tyX2_ok (X.2.2.2.1 (.classLink RX8 30 RX2) (by decide +kernel)) (X.2.2.2.1 (.instantiable RX2 8) (by decide +kernel)) (X.2.2.2.1 (.initialized RX2) (by decide +kernel)) (zo_2 _) zd_2 (Nat.le_of_ble_eq_true rfl) (Nat.le_of_ble_eq_true rfl) (Nat.le_of_ble_eq_true rfl) (Nat.le_of_ble_eq_true rfl) dX8_init_65 (fun q_115 H hq_115 hw => ?_)
  obtain ⟨S_116, eS_116⟩ : ∃ T, T = sO S_109 q_115 182 := ⟨_, rfl⟩
  rw [← eS_116] at hw
  have ph_117 : Phc S_116 = Phc S + 0 := (show Phc S_116 = Phc S_109 from Ph_sO hg_113 hq_115 eS_116 (by decide)).trans ph_110
  have ph_118 : Phs S_116 = Phs S + 0 := (show Phs S_116 = Phs S_109 from Ph_sO hg_113 hq_115 eS_116 (by decide)).trans ph_111
  clear ph_110
  clear ph_111
  have hK_119 : Kq S S_116 x := hK_112.sO hq_115 eS_116
  have hg_120 : GX S_116 := by rw [eS_116]; exact GX_O hg_113 hq_115 (by decide +kernel)
  have hn0_q_115 := hK_112.new hq_115
  have ha_121 : At S_116 q_115 182 := by rw [eS_116]; exact At_nO _ _ _
  have hzI_q_115 : ∀ g, pI S_116 g q_115 = 0 := fun g => by rw [eS_116]; exact pI_sO_new
  have hzR_q_115 : ∀ g, pR S_116 g q_115 = none := fun g => by rw [eS_116]; exact if_pos rfl
  refine lv_dup X.1 X.2.1 dX8_init_68 rfl ?_
  refine k_v (rm := { frames := 2, cells := 3, slots := 42, locals := 96 }) (av := [.ref q_115]) X hw (va_runIN (As := []) (rest := [.ref q_115, .ref x]) (cfix X) (k_X2_init l G cy κ S_116 _ q_115 hg_120 ha_121 hzI_q_115 hzR_q_115) ⟨(va_cnB (host := RX11) 0 X.2.2.2.1 gX8_init_X2_init_n32 rfl rfl rfl (X.2.2.2.2.2.2.2.1.2.1 (RX8, 32, yX2_init) (by decide +kernel)) (X.2.2.2.1 (.initialized RX2) (by decide +kernel)) (by decide +kernel) ⟨Nat.le_of_ble_eq_true rfl, Nat.le_of_ble_eq_true rfl⟩), rfl, (X.2.2.2.1 (.instanceMethod yX2_init) (by decide +kernel))⟩ (pre_S X hw _) rfl rfl hl.1 rfl (lv_room (Nat.le_of_ble_eq_true rfl)) dX8_init_69 ⟨Nat.le_of_ble_eq_true rfl, Nat.le_of_ble_eq_true rfl⟩) 9 214 (Nat.le_of_ble_eq_true rfl) (Nat.le_of_ble_eq_true rfl) (fun S_123 H locs hp hw hfr hnw => ?_)
  obtain ⟨hK_124, hg_125, ha_126, ph_127, ph_128⟩ := hp
  have hK_129 : Kq S S_123 x := hK_119.sub hn0_q_115 hK_124
  have ph_130 : Phc S_123 = Phc S + 0 := by omega
  have ph_131 : Phs S_123 = Phs S + 0 := by omega
  clear ph_117
  clear ph_118
  clear ph_127
  clear ph_128
  have t_132 : At S_109 x 188 := tAt_sR eS_109 t_108
  have t_133 : At S_116 x 188 := by rw [eS_116]; exact At_sO t_132 hq_115
  have t_134 : At S_123 x 188 := hK_124.at ha_121 t_133 (by decide)
  refine r_putR X hw t_134 rfl 12 812 (some q_115) rfl tyX8 (by decide) rfl inn_X8_init_8 tyX8_ok nmX8 (by decide) (X.2.2.2.1 (.fieldLink RX8 33 "SilkMill$Store" "mixer" "LSilkMill$Mixer;") (by decide +kernel)) rfl (Or.inr ⟨rfl, hin, rfl⟩) (fun _ => rfl) rfl (fun _ => rfl) rfl (Nat.le_of_ble_eq_true rfl) (st_812 _ _) dX8_init_72 (fun H locs hw => ?_)
  obtain ⟨S_135, eS_135⟩ : ∃ T, T = sR S_123 812 x (some q_115) := ⟨_, rfl⟩
  rw [← eS_135] at hw
  have ph_136 : Phc S_135 = Phc S + 0 := (show Phc S_135 = Phc S_123 from Ph_rawR t_134 (by decide) eS_135).trans ph_130
  have ph_137 : Phs S_135 = Phs S + 0 := (show Phs S_135 = Phs S_123 from Ph_rawR t_134 (by decide) eS_135).trans ph_131
  clear ph_130
  clear ph_131
  have hK_138 : Kq S S_135 x := hK_129.sR eS_135
  have hg_139 : GX S_135 := by rw [eS_135]; exact GX_rawR hg_125 t_134 (by decide +kernel)
  have h_140 : pR S_135 812 x = some q_115 := tR_sRs eS_135
  have t_141 : At S_135 x 188 := tAt_sR eS_135 t_134
  have nd_142 := nodup_of hw
  have t_143 : pI S_2 800 x = 0 := by rw [eS_2, pI_sN]; exact (hzI 800)
  have t_144 : pI S_9 800 x = 0 := tI_sA eS_9 t_143
  have t_145 : pI S_17 800 x = 0 := tI_sA eS_17 t_144
  have t_146 : pI S_25 800 x = 0 := tI_sA eS_25 t_145
  have t_147 : pI S_33 800 x = 0 := tI_sA eS_33 t_146
  have t_148 : pI S_45 800 x = 0 := tI_sR eS_45 t_147
  have t_149 : pI S_52 800 x = 0 := by rw [eS_52, pI_sN]; exact t_148
  have t_150 : pI S_61 800 x = 0 := tI_sR eS_61 t_149
  have t_151 : pI S_68 800 x = 0 := by rw [eS_68, pI_sN]; exact t_150
  have t_152 : pI S_77 800 x = 0 := tI_sR eS_77 t_151
  have t_153 : pI S_84 800 x = 0 := by rw [eS_84, pI_sN]; exact t_152
  have t_154 : pI S_93 800 x = 0 := tI_sR eS_93 t_153
  have t_155 : pI S_100 800 x = 0 := by rw [eS_100, pI_sN]; exact t_154
  have t_156 : pI S_109 800 x = 0 := tI_sR eS_109 t_155
  have t_158 : At S_109 x 188 := tAt_sR eS_109 t_108
  have t_157 : pI S_116 800 x = 0 := by rw [eS_116]; exact (pI_sO_ne (ne_of_new hq_115 t_158.1)).trans t_156
  have t_160 : At S_116 x 188 := by rw [eS_116]; exact At_sO t_158 hq_115
  have t_159 : pI S_123 800 x = 0 := (((hK_124 x t_160.1).2 (At_ne t_160 ha_121 (by decide))).2.1 800).trans t_157
  have t_161 : pI S_135 800 x = 0 := tI_sR eS_135 t_159
  have t_162 : pI S_2 806 x = 0 := by rw [eS_2, pI_sN]; exact (hzI 806)
  have t_163 : pI S_9 806 x = 0 := tI_sA eS_9 t_162
  have t_164 : pI S_17 806 x = 0 := tI_sA eS_17 t_163
  have t_165 : pI S_25 806 x = 0 := tI_sA eS_25 t_164
  have t_166 : pI S_33 806 x = 0 := tI_sA eS_33 t_165
  have t_167 : pI S_45 806 x = 0 := tI_sR eS_45 t_166
  have t_168 : pI S_52 806 x = 0 := by rw [eS_52, pI_sN]; exact t_167
  have t_169 : pI S_61 806 x = 0 := tI_sR eS_61 t_168
  have t_170 : pI S_68 806 x = 0 := by rw [eS_68, pI_sN]; exact t_169
  have t_171 : pI S_77 806 x = 0 := tI_sR eS_77 t_170
  have t_172 : pI S_84 806 x = 0 := by rw [eS_84, pI_sN]; exact t_171
  have t_173 : pI S_93 806 x = 0 := tI_sR eS_93 t_172
  have t_174 : pI S_100 806 x = 0 := by rw [eS_100, pI_sN]; exact t_173
  have t_175 : pI S_109 806 x = 0 := tI_sR eS_109 t_174
  have t_176 : pI S_116 806 x = 0 := by rw [eS_116]; exact (pI_sO_ne (ne_of_new hq_115 t_158.1)).trans t_175
  have t_177 : pI S_123 806 x = 0 := (((hK_124 x t_160.1).2 (At_ne t_160 ha_121 (by decide))).2.1 806).trans t_176
  have t_178 : pI S_135 806 x = 0 := tI_sR eS_135 t_177
  have t_179 : pR S_52 807 x = some q_1 := by rw [eS_52, pR_sN]; exact h_50
  have t_180 : pR S_61 807 x = some q_1 := tR_sR eS_61 rfl t_179
  have t_181 : pR S_68 807 x = some q_1 := by rw [eS_68, pR_sN]; exact t_180
  have t_182 : pR S_77 807 x = some q_1 := tR_sR eS_77 rfl t_181
  have t_183 : pR S_84 807 x = some q_1 := by rw [eS_84, pR_sN]; exact t_182
  have t_184 : pR S_93 807 x = some q_1 := tR_sR eS_93 rfl t_183
  have t_185 : pR S_100 807 x = some q_1 := by rw [eS_100, pR_sN]; exact t_184
  have t_186 : pR S_109 807 x = some q_1 := tR_sR eS_109 rfl t_185
  have t_187 : pR S_116 807 x = some q_1 := by rw [eS_116]; exact (pR_sO_ne (ne_of_new hq_115 t_158.1)).trans t_186
  have t_188 : pR S_123 807 x = some q_1 := (((hK_124 x t_160.1).2 (At_ne t_160 ha_121 (by decide))).2.2.1 807).trans t_187
  have t_189 : pR S_135 807 x = some q_1 := tR_sR eS_135 rfl t_188
  have t_190 : At S_45 q_1 154 := tAt_sR eS_45 t_44
  have t_191 : At S_52 q_1 154 := by rw [eS_52]; exact At_sN t_190 hq_51
  have t_192 : At S_61 q_1 154 := tAt_sR eS_61 t_191
  have t_193 : At S_68 q_1 154 := by rw [eS_68]; exact At_sN t_192 hq_67
  have t_194 : At S_77 q_1 154 := tAt_sR eS_77 t_193
  have t_195 : At S_84 q_1 154 := by rw [eS_84]; exact At_sN t_194 hq_83
  have t_196 : At S_93 q_1 154 := tAt_sR eS_93 t_195
  have t_197 : At S_100 q_1 154 := by rw [eS_100]; exact At_sN t_196 hq_99
  have t_198 : At S_109 q_1 154 := tAt_sR eS_109 t_197
  have t_199 : At S_116 q_1 154 := by rw [eS_116]; exact At_sO t_198 hq_115
  have t_200 : At S_123 q_1 154 := hK_124.at ha_121 t_199 (by decide)
  have t_201 : At S_135 q_1 154 := tAt_sR eS_135 t_200
  have t_202 : pN S_33 q_1 = 4 := tN_sA eS_33 t_32
  clear t_32
  have t_203 : pN S_45 q_1 = 4 := tN_sR eS_45 t_202
  clear t_202
  have t_205 : At S_45 q_1 154 := tAt_sR eS_45 t_44
  have t_204 : pN S_52 q_1 = 4 := by rw [eS_52]; exact (pN_sN_ne (ne_of_new hq_51 t_205.1)).trans t_203
  clear t_203
  have t_206 : pN S_61 q_1 = 4 := tN_sR eS_61 t_204
  clear t_204
  have t_208 : At S_52 q_1 154 := by rw [eS_52]; exact At_sN t_205 hq_51
  have t_209 : At S_61 q_1 154 := tAt_sR eS_61 t_208
  have t_207 : pN S_68 q_1 = 4 := by rw [eS_68]; exact (pN_sN_ne (ne_of_new hq_67 t_209.1)).trans t_206
  clear t_206
  have t_210 : pN S_77 q_1 = 4 := tN_sR eS_77 t_207
  clear t_207
  have t_212 : At S_68 q_1 154 := by rw [eS_68]; exact At_sN t_209 hq_67
  have t_213 : At S_77 q_1 154 := tAt_sR eS_77 t_212
  have t_211 : pN S_84 q_1 = 4 := by rw [eS_84]; exact (pN_sN_ne (ne_of_new hq_83 t_213.1)).trans t_210
  clear t_210
  have t_214 : pN S_93 q_1 = 4 := tN_sR eS_93 t_211
  clear t_211
  have t_216 : At S_84 q_1 154 := by rw [eS_84]; exact At_sN t_213 hq_83
  have t_217 : At S_93 q_1 154 := tAt_sR eS_93 t_216
  have t_215 : pN S_100 q_1 = 4 := by rw [eS_100]; exact (pN_sN_ne (ne_of_new hq_99 t_217.1)).trans t_214
  clear t_214
  have t_218 : pN S_109 q_1 = 4 := tN_sR eS_109 t_215
  clear t_215
  have t_219 : pN S_116 q_1 = 4 := by rw [eS_116, pN_sO]; exact t_218
  clear t_218
  have t_221 : At S_100 q_1 154 := by rw [eS_100]; exact At_sN t_217 hq_99
  have t_222 : At S_109 q_1 154 := tAt_sR eS_109 t_221
  have t_223 : At S_116 q_1 154 := by rw [eS_116]; exact At_sO t_222 hq_115
  have t_220 : pN S_123 q_1 = 4 := ((hK_124 q_1 t_223.1).2 (At_ne t_223 ha_121 (by decide))).2.2.2.1.trans t_219
  clear t_219
  have t_224 : pN S_135 q_1 = 4 := tN_sR eS_135 t_220
  clear t_220
  have t_225 : pR S_68 808 x = some q_51 := by rw [eS_68, pR_sN]; exact h_66
  have t_226 : pR S_77 808 x = some q_51 := tR_sR eS_77 rfl t_225
  have t_227 : pR S_84 808 x = some q_51 := by rw [eS_84, pR_sN]; exact t_226
  have t_228 : pR S_93 808 x = some q_51 := tR_sR eS_93 rfl t_227
  have t_229 : pR S_100 808 x = some q_51 := by rw [eS_100, pR_sN]; exact t_228
  have t_230 : pR S_109 808 x = some q_51 := tR_sR eS_109 rfl t_229
  have t_231 : pR S_116 808 x = some q_51 := by rw [eS_116]; exact (pR_sO_ne (ne_of_new hq_115 t_158.1)).trans t_230
  have t_232 : pR S_123 808 x = some q_51 := (((hK_124 x t_160.1).2 (At_ne t_160 ha_121 (by decide))).2.2.1 808).trans t_231
  have t_233 : pR S_135 808 x = some q_51 := tR_sR eS_135 rfl t_232
  have t_234 : At S_61 q_51 19 := tAt_sR eS_61 ha_57
  have t_235 : At S_68 q_51 19 := by rw [eS_68]; exact At_sN t_234 hq_67
  have t_236 : At S_77 q_51 19 := tAt_sR eS_77 t_235
  have t_237 : At S_84 q_51 19 := by rw [eS_84]; exact At_sN t_236 hq_83
  have t_238 : At S_93 q_51 19 := tAt_sR eS_93 t_237
  have t_239 : At S_100 q_51 19 := by rw [eS_100]; exact At_sN t_238 hq_99
  have t_240 : At S_109 q_51 19 := tAt_sR eS_109 t_239
  have t_241 : At S_116 q_51 19 := by rw [eS_116]; exact At_sO t_240 hq_115
  have t_242 : At S_123 q_51 19 := hK_124.at ha_121 t_241 (by decide)
  have t_243 : At S_135 q_51 19 := tAt_sR eS_135 t_242
  have t_244 : pN S_61 q_51 = 40 := tN_sR eS_61 hn_58
  clear hn_58
  have t_246 : At S_61 q_51 19 := tAt_sR eS_61 ha_57
  have t_245 : pN S_68 q_51 = 40 := by rw [eS_68]; exact (pN_sN_ne (ne_of_new hq_67 t_246.1)).trans t_244
  clear t_244
  have t_247 : pN S_77 q_51 = 40 := tN_sR eS_77 t_245
  clear t_245
  have t_249 : At S_68 q_51 19 := by rw [eS_68]; exact At_sN t_246 hq_67
  have t_250 : At S_77 q_51 19 := tAt_sR eS_77 t_249
  have t_248 : pN S_84 q_51 = 40 := by rw [eS_84]; exact (pN_sN_ne (ne_of_new hq_83 t_250.1)).trans t_247
  clear t_247
  have t_251 : pN S_93 q_51 = 40 := tN_sR eS_93 t_248
  clear t_248
  have t_253 : At S_84 q_51 19 := by rw [eS_84]; exact At_sN t_250 hq_83
  have t_254 : At S_93 q_51 19 := tAt_sR eS_93 t_253
  have t_252 : pN S_100 q_51 = 40 := by rw [eS_100]; exact (pN_sN_ne (ne_of_new hq_99 t_254.1)).trans t_251
  clear t_251
  have t_255 : pN S_109 q_51 = 40 := tN_sR eS_109 t_252
  clear t_252
  have t_256 : pN S_116 q_51 = 40 := by rw [eS_116, pN_sO]; exact t_255
  clear t_255
  have t_258 : At S_100 q_51 19 := by rw [eS_100]; exact At_sN t_254 hq_99
  have t_259 : At S_109 q_51 19 := tAt_sR eS_109 t_258
  have t_260 : At S_116 q_51 19 := by rw [eS_116]; exact At_sO t_259 hq_115
  have t_257 : pN S_123 q_51 = 40 := ((hK_124 q_51 t_260.1).2 (At_ne t_260 ha_121 (by decide))).2.2.2.1.trans t_256
  clear t_256
  have t_261 : pN S_135 q_51 = 40 := tN_sR eS_135 t_257
  clear t_257
  have t_262 : pR S_84 809 x = some q_67 := by rw [eS_84, pR_sN]; exact h_82
  have t_263 : pR S_93 809 x = some q_67 := tR_sR eS_93 rfl t_262
  have t_264 : pR S_100 809 x = some q_67 := by rw [eS_100, pR_sN]; exact t_263
  have t_265 : pR S_109 809 x = some q_67 := tR_sR eS_109 rfl t_264
  have t_266 : pR S_116 809 x = some q_67 := by rw [eS_116]; exact (pR_sO_ne (ne_of_new hq_115 t_158.1)).trans t_265
  have t_267 : pR S_123 809 x = some q_67 := (((hK_124 x t_160.1).2 (At_ne t_160 ha_121 (by decide))).2.2.1 809).trans t_266
  have t_268 : pR S_135 809 x = some q_67 := tR_sR eS_135 rfl t_267
  have t_269 : At S_77 q_67 1674 := tAt_sR eS_77 ha_73
  have t_270 : At S_84 q_67 1674 := by rw [eS_84]; exact At_sN t_269 hq_83
  have t_271 : At S_93 q_67 1674 := tAt_sR eS_93 t_270
  have t_272 : At S_100 q_67 1674 := by rw [eS_100]; exact At_sN t_271 hq_99
  have t_273 : At S_109 q_67 1674 := tAt_sR eS_109 t_272
  have t_274 : At S_116 q_67 1674 := by rw [eS_116]; exact At_sO t_273 hq_115
  have t_275 : At S_123 q_67 1674 := hK_124.at ha_121 t_274 (by decide)
  have t_276 : At S_135 q_67 1674 := tAt_sR eS_135 t_275
  have t_277 : pN S_77 q_67 = 40 := tN_sR eS_77 hn_74
  clear hn_74
  have t_279 : At S_77 q_67 1674 := tAt_sR eS_77 ha_73
  have t_278 : pN S_84 q_67 = 40 := by rw [eS_84]; exact (pN_sN_ne (ne_of_new hq_83 t_279.1)).trans t_277
  clear t_277
  have t_280 : pN S_93 q_67 = 40 := tN_sR eS_93 t_278
  clear t_278
  have t_282 : At S_84 q_67 1674 := by rw [eS_84]; exact At_sN t_279 hq_83
  have t_283 : At S_93 q_67 1674 := tAt_sR eS_93 t_282
  have t_281 : pN S_100 q_67 = 40 := by rw [eS_100]; exact (pN_sN_ne (ne_of_new hq_99 t_283.1)).trans t_280
  clear t_280
  have t_284 : pN S_109 q_67 = 40 := tN_sR eS_109 t_281
  clear t_281
  have t_285 : pN S_116 q_67 = 40 := by rw [eS_116, pN_sO]; exact t_284
  clear t_284
  have t_287 : At S_100 q_67 1674 := by rw [eS_100]; exact At_sN t_283 hq_99
  have t_288 : At S_109 q_67 1674 := tAt_sR eS_109 t_287
  have t_289 : At S_116 q_67 1674 := by rw [eS_116]; exact At_sO t_288 hq_115
  have t_286 : pN S_123 q_67 = 40 := ((hK_124 q_67 t_289.1).2 (At_ne t_289 ha_121 (by decide))).2.2.2.1.trans t_285
  clear t_285
  have t_290 : pN S_135 q_67 = 40 := tN_sR eS_135 t_286
  clear t_286
  have t_291 : pR S_100 810 x = some q_83 := by rw [eS_100, pR_sN]; exact h_98
  have t_292 : pR S_109 810 x = some q_83 := tR_sR eS_109 rfl t_291
  have t_293 : pR S_116 810 x = some q_83 := by rw [eS_116]; exact (pR_sO_ne (ne_of_new hq_115 t_158.1)).trans t_292
  have t_294 : pR S_123 810 x = some q_83 := (((hK_124 x t_160.1).2 (At_ne t_160 ha_121 (by decide))).2.2.1 810).trans t_293
  have t_295 : pR S_135 810 x = some q_83 := tR_sR eS_135 rfl t_294
  have t_296 : At S_93 q_83 1694 := tAt_sR eS_93 ha_89
  have t_297 : At S_100 q_83 1694 := by rw [eS_100]; exact At_sN t_296 hq_99
  have t_298 : At S_109 q_83 1694 := tAt_sR eS_109 t_297
  have t_299 : At S_116 q_83 1694 := by rw [eS_116]; exact At_sO t_298 hq_115
  have t_300 : At S_123 q_83 1694 := hK_124.at ha_121 t_299 (by decide)
  have t_301 : At S_135 q_83 1694 := tAt_sR eS_135 t_300
  have t_302 : pN S_93 q_83 = 40 := tN_sR eS_93 hn_90
  clear hn_90
  have t_304 : At S_93 q_83 1694 := tAt_sR eS_93 ha_89
  have t_303 : pN S_100 q_83 = 40 := by rw [eS_100]; exact (pN_sN_ne (ne_of_new hq_99 t_304.1)).trans t_302
  clear t_302
  have t_305 : pN S_109 q_83 = 40 := tN_sR eS_109 t_303
  clear t_303
  have t_306 : pN S_116 q_83 = 40 := by rw [eS_116, pN_sO]; exact t_305
  clear t_305
  have t_308 : At S_100 q_83 1694 := by rw [eS_100]; exact At_sN t_304 hq_99
  have t_309 : At S_109 q_83 1694 := tAt_sR eS_109 t_308
  have t_310 : At S_116 q_83 1694 := by rw [eS_116]; exact At_sO t_309 hq_115
  have t_307 : pN S_123 q_83 = 40 := ((hK_124 q_83 t_310.1).2 (At_ne t_310 ha_121 (by decide))).2.2.2.1.trans t_306
  clear t_306
  have t_311 : pN S_135 q_83 = 40 := tN_sR eS_135 t_307
  clear t_307
  have t_312 : pR S_116 811 x = some q_99 := by rw [eS_116]; exact (pR_sO_ne (ne_of_new hq_115 t_158.1)).trans h_114
  have t_313 : pR S_123 811 x = some q_99 := (((hK_124 x t_160.1).2 (At_ne t_160 ha_121 (by decide))).2.2.1 811).trans t_312
  have t_314 : pR S_135 811 x = some q_99 := tR_sR eS_135 rfl t_313
  have t_315 : At S_109 q_99 1714 := tAt_sR eS_109 ha_105
  have t_316 : At S_116 q_99 1714 := by rw [eS_116]; exact At_sO t_315 hq_115
  have t_317 : At S_123 q_99 1714 := hK_124.at ha_121 t_316 (by decide)
  have t_318 : At S_135 q_99 1714 := tAt_sR eS_135 t_317
  have t_319 : pN S_109 q_99 = 40 := tN_sR eS_109 hn_106
  clear hn_106
  have t_320 : pN S_116 q_99 = 40 := by rw [eS_116, pN_sO]; exact t_319
  clear t_319
  have t_322 : At S_109 q_99 1714 := tAt_sR eS_109 ha_105
  have t_323 : At S_116 q_99 1714 := by rw [eS_116]; exact At_sO t_322 hq_115
  have t_321 : pN S_123 q_99 = 40 := ((hK_124 q_99 t_323.1).2 (At_ne t_323 ha_121 (by decide))).2.2.2.1.trans t_320
  clear t_320
  have t_324 : pN S_135 q_99 = 40 := tN_sR eS_135 t_321
  clear t_321
  have t_325 : At S_135 q_115 2 := tAt_sR eS_135 ha_126
  obtain ⟨S_326, eS_326⟩ : ∃ T, T = sK S_135 x 8 := ⟨_, rfl⟩
  have hw := Wd_sK (k := 8) hw t_141 rfl; rw [← eS_326] at hw
  have hg9 : GX S_326 := by rw [eS_326]; exact GX_sK hg_139 t_141 (by decide +kernel) (mk_8 (by rw [pI_sK, t_161]; exact ⟨by rw [ti_0]; omega, by rw [ti_0]; omega⟩) (by rw [pI_sK, t_178]; exact ⟨by rw [ti_0]; omega, by rw [ti_0]; omega⟩) ⟨q_1, (by rw [pR_sK]; exact t_189), At_sK t_141 t_201 (by decide), by rw [pN_sK]; exact t_224⟩ ⟨q_51, (by rw [pR_sK]; exact t_233), At_sK t_141 t_243 (by decide), by rw [pN_sK]; exact t_261⟩ ⟨q_67, (by rw [pR_sK]; exact t_268), At_sK t_141 t_276 (by decide), by rw [pN_sK]; exact t_290⟩ ⟨q_83, (by rw [pR_sK]; exact t_295), At_sK t_141 t_301 (by decide), by rw [pN_sK]; exact t_311⟩ ⟨q_99, (by rw [pR_sK]; exact t_314), At_sK t_141 t_318 (by decide), by rw [pN_sK]; exact t_324⟩ ⟨q_115, (by rw [pR_sK]; exact h_140), At_sK t_141 t_325 (by decide)⟩)
  have ha9 : At S_326 x 8 := by rw [eS_326]; exact At_nK t_141
  have hk9 : Kq S S_326 x := hK_138.sK eS_326
  have hPhc9 : Phc S_326 = Phc S + 320 := by rw [show Phc S_326 = Ph fC 8 14400 S_326 from rfl, Ph_sK nd_142 t_141 (by decide) eS_326, ph_8 ha9 (show pI S_326 800 x = 0 by rw [eS_326, pI_sK]; exact t_161)]; show Phc S_135 + _ = _; omega
  have hPhs9 : Phs S_326 = Phs S + 604000 := by rw [show Phs S_326 = Ph fS 15100 46000 S_326 from rfl, Ph_sK nd_142 t_141 (by decide) eS_326, ph_8 ha9 (show pI S_326 800 x = 0 by rw [eS_326, pI_sK]; exact t_161)]; show Phs S_135 + _ = _; omega
  have t_327 : pI S_2 801 x = 0 := by rw [eS_2, pI_sN]; exact (hzI 801)
  have t_328 : pI S_9 801 x = 0 := tI_sA eS_9 t_327
  have t_329 : pI S_17 801 x = 0 := tI_sA eS_17 t_328
  have t_330 : pI S_25 801 x = 0 := tI_sA eS_25 t_329
  have t_331 : pI S_33 801 x = 0 := tI_sA eS_33 t_330
  have t_332 : pI S_45 801 x = 0 := tI_sR eS_45 t_331
  have t_333 : pI S_52 801 x = 0 := by rw [eS_52, pI_sN]; exact t_332
  have t_334 : pI S_61 801 x = 0 := tI_sR eS_61 t_333
  have t_335 : pI S_68 801 x = 0 := by rw [eS_68, pI_sN]; exact t_334
  have t_336 : pI S_77 801 x = 0 := tI_sR eS_77 t_335
  have t_337 : pI S_84 801 x = 0 := by rw [eS_84, pI_sN]; exact t_336
  have t_338 : pI S_93 801 x = 0 := tI_sR eS_93 t_337
  have t_339 : pI S_100 801 x = 0 := by rw [eS_100, pI_sN]; exact t_338
  have t_340 : pI S_109 801 x = 0 := tI_sR eS_109 t_339
  have t_341 : pI S_116 801 x = 0 := by rw [eS_116]; exact (pI_sO_ne (ne_of_new hq_115 t_158.1)).trans t_340
  have t_342 : pI S_123 801 x = 0 := (((hK_124 x t_160.1).2 (At_ne t_160 ha_121 (by decide))).2.1 801).trans t_341
  have t_343 : pI S_135 801 x = 0 := tI_sR eS_135 t_342
  exact ret_v X hw hr hlocks (Nat.le_of_ble_eq_true rfl) (Nat.le_of_ble_eq_true rfl) ⟨hk9, hg9, ha9, hPhc9, hPhs9, (by rw [eS_326, pI_sK]; exact t_343), (by rw [eS_326, pI_sK]; exact t_161)⟩ dX8_init_75
set_option maxHeartbeats 4000000 in
set_option maxRecDepth 100000 in
theorem k_X11_init6 (l : Launch) (G : va_G) (cy : Nat → ClassId) (κ : Nat → Nat) (S : PS) (sz : Nat) (x : Nat) (hG : GX S) (ha_x : At S x 191) (hzI : ∀ g, pI S g x = 0) (hzR : ∀ g, pR S g x = none) : Cv l yX11_init wsX11_init ({ frames := 4, cells := 58, slots := 1728, locals := 192 }) G cy κ S sz [.ref x] (fun (S9 : PS) => Kq S S9 x ∧ GX S9 ∧ At S9 x 11 ∧ Phc S9 = Phc S + 57920 ∧ Phs S9 = Phs S + 788000 ∧ ∃ q, pR S9 1107 x = some q ∧ At S9 q 8 ∧ pI S9 801 q = 0 ∧ pI S9 1102 x = 0 ∧ pI S9 1104 x = 0 ∧ ∃ u, pR S9 1105 x = some u ∧ At S9 u 10 ∧ pI S9 1000 u = 0 ∧ ∃ sh, pR S9 1109 x = some sh ∧ ShI S9 sh 16 ∧ (pI S9 800 q = 0 ∧ (∃ dw, pR S9 1108 x = some dw ∧ At S9 dw 1 ∧ pI S9 101 dw = 0 ∧ pI S9 102 dw = 0 ∧ pI S9 103 dw = 0)) ∧ ∃ rh, pR S9 1106 x = some rh ∧ RuD S9 rh) := by
  refine ent_m (cc := cX11_init) (maxL := 2) (ret := none) (by decide) rfl (Nat.le_of_ble_eq_true rfl) ?_
  intro p e s m below meth c ls X hr hlocks hin hw hl hsz
  subst hsz
  have X : Cx p c cX11_init 2 s [.ref x].toArray wsX11_init RX11 m G cy κ (AS S s.heap.size) := X
  have hl : lv_has ls 2 [(0, .ref x)] := hl
  have hpc0 : Phc S = Phc S + 0 := rfl
  have hps0 : Phs S = Phs S + 0 := rfl
  have hK : Kq S S x := Kq.rf S _
  generalize hQQ : MQ below _ _ _ _ _ _ = QQ
  replace hQQ := hQQ.symm
  refine lv_aload_n X.1 X.2.1 dX11_init_0 rfl (lv_at hl 0 rfl) ?_
  refine W.objInit X.1 X.2.1 X.2.2.2.2.1 (X.2.2.2.1 (.methodLink RX11 3 objectInit) (by decide +kernel)) (X.2.2.2.1 (.instanceMethod objectInit) (by decide +kernel)) (X.2.2.2.1 (.code objectInit ⟨#[0xb1]⟩ 1 none) (by decide +kernel)) rfl (hl.1.trans X.2.2.1.symm) rfl dX11_init_1 (Nat.le_of_ble_eq_true rfl) (Nat.le_of_ble_eq_true rfl) ?_
  refine W.eq (g2 := F0 m 4 ls ([])) rfl ?_
  refine lv_aload_n X.1 X.2.1 dX11_init_4 rfl (lv_at hl 0 rfl) ?_
  refine lv_sipush (v := 600) X.1 X.2.1 dX11_init_5 (by decide) ?_
  refine r_newQ (N := 600) (C := RX0) X hw 36 16 600 1 rfl (by decide) rfl (X.2.2.2.1 (.classLink RX11 9 RX0) (by decide +kernel)) X.2.2.2.2.2.2.2.1.1.1 (z_nn ti_600 (by omega)) (by decide) (by decide) (by show 0 + 1 ≤ 1; omega) (by show 0 + 600 ≤ 600; omega) (by show 1 ≤ 58; omega) (by show 600 ≤ 1728; omega) dX11_init_8 (fun q_1 H hq_1 hw => ?_)
  obtain ⟨S_2, eS_2⟩ : ∃ T, T = sN S q_1 36 600 := ⟨_, rfl⟩
  rw [← eS_2] at hw
  have ph_3 : Phc S_2 = Phc S + 0 := (show Phc S_2 = Phc S from Ph_sN' hG.ci hq_1 eS_2 (by decide)).trans hpc0
  have ph_4 : Phs S_2 = Phs S + 0 := (show Phs S_2 = Phs S from Ph_sN' hG.ci hq_1 eS_2 (by decide)).trans hps0
  clear hpc0
  clear hps0
  have hK_5 : Kq S S_2 x := hK.sN hq_1 eS_2
  have hg_6 : GX S_2 := by rw [eS_2]; exact GX_N hG hq_1 (by decide +kernel)
  have hn0_q_1 := hK.new hq_1
  have ha_7 : At S_2 q_1 36 := by rw [eS_2]; exact At_nN _ _ _ _
  have hn_8 : pN S_2 q_1 = 600 := by rw [eS_2]; exact pN_sN_new
  have t_9 : At S_2 x 191 := by rw [eS_2]; exact At_sN ha_x hq_1
  refine r_putR X hw t_9 rfl 0 1100 (some q_1) rfl tyX11 (by decide) rfl inn_X11_init_11 tyX11_ok nmX11 (by decide) (X.2.2.2.1 (.fieldLink RX11 11 "SilkMill" "cocoons" "[LSilkMill$Cocoon;") (by decide +kernel)) rfl (Or.inr ⟨rfl, hin, rfl⟩) (fun _ => rfl) rfl (fun _ => rfl) rfl (Nat.le_of_ble_eq_true rfl) (st_1100 _ _) dX11_init_11 (fun H locs hw => ?_)
  obtain ⟨S_10, eS_10⟩ : ∃ T, T = sR S_2 1100 x (some q_1) := ⟨_, rfl⟩
  rw [← eS_10] at hw
  have ph_11 : Phc S_10 = Phc S + 0 := (show Phc S_10 = Phc S_2 from Ph_rawR t_9 (by decide) eS_10).trans ph_3
  have ph_12 : Phs S_10 = Phs S + 0 := (show Phs S_10 = Phs S_2 from Ph_rawR t_9 (by decide) eS_10).trans ph_4
  clear ph_3
  clear ph_4
  have hK_13 : Kq S S_10 x := hK_5.sR eS_10
  have hg_14 : GX S_10 := by rw [eS_10]; exact GX_rawR hg_6 t_9 (by decide +kernel)
  have h_15 : pR S_10 1100 x = some q_1 := tR_sRs eS_10
  refine lv_aload_n X.1 X.2.1 dX11_init_14 rfl (lv_at hl 0 rfl) ?_
  refine lv_bipush (v := 10) X.1 X.2.1 dX11_init_15 (by decide) ?_
  refine r_newI (N := 10) X hw 54 610 2 rfl (X.2.2.2.1 (.arrayClass .int) (by decide +kernel)) (z_nn ti_10 (by omega)) (by decide) (by decide) (by show 1 + 1 ≤ 2; omega) (by show 600 + 10 ≤ 610; omega) (by show 2 ≤ 58; omega) (by show 610 ≤ 1728; omega) dX11_init_17 (fun q_16 H hq_16 hw => ?_)
  obtain ⟨S_17, eS_17⟩ : ∃ T, T = sN S_10 q_16 54 10 := ⟨_, rfl⟩
  rw [← eS_17] at hw
  have ph_18 : Phc S_17 = Phc S + 0 := (show Phc S_17 = Phc S_10 from Ph_sN' hg_14.ci hq_16 eS_17 (by decide)).trans ph_11
  have ph_19 : Phs S_17 = Phs S + 0 := (show Phs S_17 = Phs S_10 from Ph_sN' hg_14.ci hq_16 eS_17 (by decide)).trans ph_12
  clear ph_11
  clear ph_12
  have hK_20 : Kq S S_17 x := hK_13.sN hq_16 eS_17
  have hg_21 : GX S_17 := by rw [eS_17]; exact GX_N hg_14 hq_16 (by decide +kernel)
  have hn0_q_16 := hK_13.new hq_16
  have ha_22 : At S_17 q_16 54 := by rw [eS_17]; exact At_nN _ _ _ _
  have hn_23 : pN S_17 q_16 = 10 := by rw [eS_17]; exact pN_sN_new
  have t_24 : At S_10 x 191 := tAt_sR eS_10 t_9
  have t_25 : At S_17 x 191 := by rw [eS_17]; exact At_sN t_24 hq_16
  refine r_putR X hw t_25 rfl 1 1101 (some q_16) rfl tyX11 (by decide) rfl inn_X11_init_11 tyX11_ok nmX11 (by decide) (X.2.2.2.1 (.fieldLink RX11 15 "SilkMill" "lotSizes" "[I") (by decide +kernel)) rfl (Or.inr ⟨rfl, hin, rfl⟩) (fun _ => rfl) rfl (fun _ => rfl) rfl (Nat.le_of_ble_eq_true rfl) (st_1101 _ _) dX11_init_19 (fun H locs hw => ?_)
  obtain ⟨S_26, eS_26⟩ : ∃ T, T = sR S_17 1101 x (some q_16) := ⟨_, rfl⟩
  rw [← eS_26] at hw
  have ph_27 : Phc S_26 = Phc S + 0 := (show Phc S_26 = Phc S_17 from Ph_rawR t_25 (by decide) eS_26).trans ph_18
  have ph_28 : Phs S_26 = Phs S + 0 := (show Phs S_26 = Phs S_17 from Ph_rawR t_25 (by decide) eS_26).trans ph_19
  clear ph_18
  clear ph_19
  have hK_29 : Kq S S_26 x := hK_20.sR eS_26
  have hg_30 : GX S_26 := by rw [eS_26]; exact GX_rawR hg_21 t_25 (by decide +kernel)
  have h_31 : pR S_26 1101 x = some q_16 := tR_sRs eS_26
  refine lv_aload_n X.1 X.2.1 dX11_init_22 rfl (lv_at hl 0 rfl) ?_
  refine lv_iconst (v := 4) X.1 X.2.1 dX11_init_23 (by decide) ?_
  refine r_newQ (N := 4) (C := RX4) X hw 18 18 614 3 rfl (by decide) rfl (X.2.2.2.1 (.classLink RX11 19 RX4) (by decide +kernel)) X.2.2.2.2.2.2.2.1.1.2.2.1 (z_nn ti_4 (by omega)) (by decide) (by decide) (by show 2 + 1 ≤ 3; omega) (by show 610 + 4 ≤ 614; omega) (by show 3 ≤ 58; omega) (by show 614 ≤ 1728; omega) dX11_init_24 (fun q_32 H hq_32 hw => ?_)
  obtain ⟨S_33, eS_33⟩ : ∃ T, T = sN S_26 q_32 18 4 := ⟨_, rfl⟩
  rw [← eS_33] at hw
  have ph_34 : Phc S_33 = Phc S + 0 := (show Phc S_33 = Phc S_26 from Ph_sN' hg_30.ci hq_32 eS_33 (by decide)).trans ph_27
  have ph_35 : Phs S_33 = Phs S + 0 := (show Phs S_33 = Phs S_26 from Ph_sN' hg_30.ci hq_32 eS_33 (by decide)).trans ph_28
  clear ph_27
  clear ph_28
  have hK_36 : Kq S S_33 x := hK_29.sN hq_32 eS_33
  have hg_37 : GX S_33 := by rw [eS_33]; exact GX_N hg_30 hq_32 (by decide +kernel)
  have hn0_q_32 := hK_29.new hq_32
  have ha_38 : At S_33 q_32 18 := by rw [eS_33]; exact At_nN _ _ _ _
  have hn_39 : pN S_33 q_32 = 4 := by rw [eS_33]; exact pN_sN_new
  have t_40 : At S_26 x 191 := tAt_sR eS_26 t_25
  have t_41 : At S_33 x 191 := by rw [eS_33]; exact At_sN t_40 hq_32
  refine r_putR X hw t_41 rfl 3 1103 (some q_32) rfl tyX11 (by decide) rfl inn_X11_init_11 tyX11_ok nmX11 (by decide) (X.2.2.2.1 (.fieldLink RX11 21 "SilkMill" "pots" "[LSilkMill$Pot;") (by decide +kernel)) rfl (Or.inr ⟨rfl, hin, rfl⟩) (fun _ => rfl) rfl (fun _ => rfl) rfl (Nat.le_of_ble_eq_true rfl) (st_1103 _ _) dX11_init_27 (fun H locs hw => ?_)
  obtain ⟨S_42, eS_42⟩ : ∃ T, T = sR S_33 1103 x (some q_32) := ⟨_, rfl⟩
  rw [← eS_42] at hw
  have ph_43 : Phc S_42 = Phc S + 0 := (show Phc S_42 = Phc S_33 from Ph_rawR t_41 (by decide) eS_42).trans ph_34
  have ph_44 : Phs S_42 = Phs S + 0 := (show Phs S_42 = Phs S_33 from Ph_rawR t_41 (by decide) eS_42).trans ph_35
  clear ph_34
  clear ph_35
  have hK_45 : Kq S S_42 x := hK_36.sR eS_42
  have hg_46 : GX S_42 := by rw [eS_42]; exact GX_rawR hg_37 t_41 (by decide +kernel)
  have h_47 : pR S_42 1103 x = some q_32 := tR_sRs eS_42
  refine lv_aload_n X.1 X.2.1 dX11_init_30 rfl (lv_at hl 0 rfl) ?_
  refine r_new X hw 190 10 621 4 rfl tyX10 (by decide) rfl inn_X11_init_10 tyX10_ok (X.2.2.2.1 (.classLink RX11 25 RX10) (by decide +kernel)) (X.2.2.2.1 (.instantiable RX10 7) (by decide +kernel)) (X.2.2.2.1 (.initialized RX10) (by decide +kernel)) (zo_10 _) zd_10 (by show 3 + 1 ≤ 4; omega) (by show 614 + 7 ≤ 621; omega) (by show 4 ≤ 58; omega) (by show 621 ≤ 1728; omega) dX11_init_31 (fun q_48 H hq_48 hw => ?_)
  obtain ⟨S_49, eS_49⟩ : ∃ T, T = sO S_42 q_48 190 := ⟨_, rfl⟩
  rw [← eS_49] at hw
  have ph_50 : Phc S_49 = Phc S + 0 := (show Phc S_49 = Phc S_42 from Ph_sO hg_46 hq_48 eS_49 (by decide)).trans ph_43
  have ph_51 : Phs S_49 = Phs S + 0 := (show Phs S_49 = Phs S_42 from Ph_sO hg_46 hq_48 eS_49 (by decide)).trans ph_44
  clear ph_43
  clear ph_44
  have hK_52 : Kq S S_49 x := hK_45.sO hq_48 eS_49
  have hg_53 : GX S_49 := by rw [eS_49]; exact GX_O hg_46 hq_48 (by decide +kernel)
  have hn0_q_48 := hK_45.new hq_48
  have ha_54 : At S_49 q_48 190 := by rw [eS_49]; exact At_nO _ _ _
  have hzI_q_48 : ∀ g, pI S_49 g q_48 = 0 := fun g => by rw [eS_49]; exact pI_sO_new
  have hzR_q_48 : ∀ g, pR S_49 g q_48 = none := fun g => by rw [eS_49]; exact if_pos rfl
  refine lv_dup X.1 X.2.1 dX11_init_34 rfl ?_
  refine k_v (rm := { frames := 2, cells := 1, slots := 400, locals := 96 }) (av := [.ref q_48]) X hw (va_runIN (As := []) (rest := [.ref q_48, .ref x]) (cfix X) (k_X10_init l G cy κ S_49 _ q_48 hg_53 ha_54 hzI_q_48 hzR_q_48) ⟨(va_cnB (host := RX11) 0 X.2.2.2.1 gX11_init_X10_init_n27 rfl rfl rfl (X.2.2.2.2.2.2.2.1.2.1 (RX11, 27, yX10_init) (by decide +kernel)) (X.2.2.2.1 (.initialized RX10) (by decide +kernel)) (by decide +kernel) ⟨Nat.le_of_ble_eq_true rfl, Nat.le_of_ble_eq_true rfl⟩), rfl, (X.2.2.2.1 (.instanceMethod yX10_init) (by decide +kernel))⟩ (pre_S X hw _) rfl rfl hl.1 rfl (lv_room (Nat.le_of_ble_eq_true rfl)) dX11_init_35 ⟨(by show 4 + 1 ≤ 58; omega), (by show 621 + 400 ≤ 1728; omega)⟩) 5 1021 (by show 4 + 1 ≤ 5; omega) (by show 621 + 400 ≤ 1021; omega) (fun S_56 H locs hp hw hfr hnw => ?_)
  obtain ⟨hK_57, hg_58, ha_59, ph_60, ph_61, kz_62⟩ := hp
  have hK_63 : Kq S S_56 x := hK_52.sub hn0_q_48 hK_57
  have ph_64 : Phc S_56 = Phc S + 0 := by omega
  have ph_65 : Phs S_56 = Phs S + 0 := by omega
  clear ph_50
  clear ph_51
  clear ph_60
  clear ph_61
  have t_66 : At S_42 x 191 := tAt_sR eS_42 t_41
  have t_67 : At S_49 x 191 := by rw [eS_49]; exact At_sO t_66 hq_48
  have t_68 : At S_56 x 191 := hK_57.at ha_54 t_67 (by decide)
  refine r_putR X hw t_68 rfl 5 1105 (some q_48) rfl tyX11 (by decide) rfl inn_X11_init_11 tyX11_ok nmX11 (by decide) (X.2.2.2.1 (.fieldLink RX11 28 "SilkMill" "tape" "LSilkMill$Tape;") (by decide +kernel)) rfl (Or.inr ⟨rfl, hin, rfl⟩) (fun _ => rfl) rfl (fun _ => rfl) rfl (Nat.le_of_ble_eq_true rfl) (st_1105 _ _) dX11_init_38 (fun H locs hw => ?_)
  obtain ⟨S_69, eS_69⟩ : ∃ T, T = sR S_56 1105 x (some q_48) := ⟨_, rfl⟩
  rw [← eS_69] at hw
  have ph_70 : Phc S_69 = Phc S + 0 := (show Phc S_69 = Phc S_56 from Ph_rawR t_68 (by decide) eS_69).trans ph_64
  have ph_71 : Phs S_69 = Phs S + 0 := (show Phs S_69 = Phs S_56 from Ph_rawR t_68 (by decide) eS_69).trans ph_65
  clear ph_64
  clear ph_65
  have hK_72 : Kq S S_69 x := hK_63.sR eS_69
  have hg_73 : GX S_69 := by rw [eS_69]; exact GX_rawR hg_58 t_68 (by decide +kernel)
  have h_74 : pR S_69 1105 x = some q_48 := tR_sRs eS_69
  refine lv_aload_n X.1 X.2.1 dX11_init_41 rfl (lv_at hl 0 rfl) ?_
  refine r_new X hw 186 6 1028 6 rfl tyX6 (by decide) rfl inn_X11_init_6 tyX6_ok (X.2.2.2.1 (.classLink RX11 32 RX6) (by decide +kernel)) (X.2.2.2.1 (.instantiable RX6 7) (by decide +kernel)) (X.2.2.2.1 (.initialized RX6) (by decide +kernel)) (zo_6 _) zd_6 (by show 5 + 1 ≤ 6; omega) (by show 1021 + 7 ≤ 1028; omega) (by show 6 ≤ 58; omega) (by show 1028 ≤ 1728; omega) dX11_init_42 (fun q_75 H hq_75 hw => ?_)
  obtain ⟨S_76, eS_76⟩ : ∃ T, T = sO S_69 q_75 186 := ⟨_, rfl⟩
  rw [← eS_76] at hw
  have ph_77 : Phc S_76 = Phc S + 0 := (show Phc S_76 = Phc S_69 from Ph_sO hg_73 hq_75 eS_76 (by decide)).trans ph_70
  have ph_78 : Phs S_76 = Phs S + 0 := (show Phs S_76 = Phs S_69 from Ph_sO hg_73 hq_75 eS_76 (by decide)).trans ph_71
  clear ph_70
  clear ph_71
  have hK_79 : Kq S S_76 x := hK_72.sO hq_75 eS_76
  have hg_80 : GX S_76 := by rw [eS_76]; exact GX_O hg_73 hq_75 (by decide +kernel)
  have hn0_q_75 := hK_72.new hq_75
  have ha_81 : At S_76 q_75 186 := by rw [eS_76]; exact At_nO _ _ _
  have hzI_q_75 : ∀ g, pI S_76 g q_75 = 0 := fun g => by rw [eS_76]; exact pI_sO_new
  have hzR_q_75 : ∀ g, pR S_76 g q_75 = none := fun g => by rw [eS_76]; exact if_pos rfl
  refine lv_dup X.1 X.2.1 dX11_init_45 rfl ?_
  refine k_v (rm := { frames := 2, cells := 6, slots := 180, locals := 96 }) (av := [.ref q_75]) X hw (va_runIN (As := []) (rest := [.ref q_75, .ref x]) (cfix X) (k_X6_init6 l G cy κ S_76 _ q_75 hg_80 ha_81 hzI_q_75 hzR_q_75) ⟨(va_cnB (host := RX11) 0 X.2.2.2.1 gX11_init_X6_init_n34 rfl rfl rfl (X.2.2.2.2.2.2.2.1.2.1 (RX11, 34, yX6_init) (by decide +kernel)) (X.2.2.2.1 (.initialized RX6) (by decide +kernel)) (by decide +kernel) ⟨Nat.le_of_ble_eq_true rfl, Nat.le_of_ble_eq_true rfl⟩), rfl, (X.2.2.2.1 (.instanceMethod yX6_init) (by decide +kernel))⟩ (pre_S X hw _) rfl rfl hl.1 rfl (lv_room (Nat.le_of_ble_eq_true rfl)) dX11_init_46 ⟨(by show 6 + 6 ≤ 58; omega), (by show 1028 + 180 ≤ 1728; omega)⟩) 12 1208 (by show 6 + 6 ≤ 12; omega) (by show 1028 + 180 ≤ 1208; omega) (fun S_83 H locs hp hw hfr hnw => ?_)
  obtain ⟨hK_84, hg_85, ha_86, ph_87, ph_88, kx_89, kx_90⟩ := hp
  have hK_91 : Kq S S_83 x := hK_79.sub hn0_q_75 hK_84
  have ph_92 : Phc S_83 = Phc S + 0 := by omega
  have ph_93 : Phs S_83 = Phs S + 0 := by omega
  clear ph_77
  clear ph_78
  clear ph_87
  clear ph_88
  obtain ⟨q_94, h_95, h_96, h_97⟩ := gQ_6_601 hg_85 ha_86
  obtain ⟨q_98, h_99, h_100, h_101⟩ := gQ_6_602 hg_85 ha_86
  obtain ⟨q_102, h_103, h_104, h_105⟩ := gQ_6_604 hg_85 ha_86
  obtain ⟨q_106, h_107, h_108, h_109⟩ := gQ_6_605 hg_85 ha_86
  obtain ⟨q_110, h_111, h_112, h_113⟩ := gQ_6_606 hg_85 ha_86
  have rd_114 : q_94 ≠ q_98 ∧ q_94 ≠ q_102 ∧ q_94 ≠ q_106 ∧ q_94 ≠ q_110 ∧ q_98 ≠ q_102 ∧ q_98 ≠ q_106 ∧ q_98 ≠ q_110 ∧ q_102 ≠ q_106 ∧ q_102 ≠ q_110 ∧ q_106 ≠ q_110 := by
    obtain ⟨a1, a2, a4, a5, a6, ⟨b1, b2, b4, b5, b6⟩, c⟩ := kx_90.1
    rw [h_95] at b1; cases b1
    rw [h_99] at b2; cases b2
    rw [h_103] at b4; cases b4
    rw [h_107] at b5; cases b5
    rw [h_111] at b6; cases b6
    exact c
  have t_115 : At S_69 x 191 := tAt_sR eS_69 t_68
  have t_116 : At S_76 x 191 := by rw [eS_76]; exact At_sO t_115 hq_75
  have t_117 : At S_83 x 191 := hK_84.at ha_81 t_116 (by decide)
  refine r_putR X hw t_117 rfl 6 1106 (some q_75) rfl tyX11 (by decide) rfl inn_X11_init_11 tyX11_ok nmX11 (by decide) (X.2.2.2.1 (.fieldLink RX11 35 "SilkMill" "spareRules" "LSilkMill$Rules;") (by decide +kernel)) rfl (Or.inl rfl) (fun _ => rfl) rfl (fun _ => rfl) rfl (Nat.le_of_ble_eq_true rfl) (st_1106 _ _) dX11_init_49 (fun H locs hw => ?_)
  obtain ⟨S_118, eS_118⟩ : ∃ T, T = sR S_83 1106 x (some q_75) := ⟨_, rfl⟩
  rw [← eS_118] at hw
  have ph_119 : Phc S_118 = Phc S + 0 := (show Phc S_118 = Phc S_83 from Ph_rawR t_117 (by decide) eS_118).trans ph_92
  have ph_120 : Phs S_118 = Phs S + 0 := (show Phs S_118 = Phs S_83 from Ph_rawR t_117 (by decide) eS_118).trans ph_93
  clear ph_92
  clear ph_93
  have hK_121 : Kq S S_118 x := hK_91.sR eS_118
  have hg_122 : GX S_118 := by rw [eS_118]; exact GX_rawR hg_85 t_117 (by decide +kernel)
  have h_123 : pR S_118 1106 x = some q_75 := tR_sRs eS_118
  refine lv_aload_n X.1 X.2.1 dX11_init_52 rfl (lv_at hl 0 rfl) ?_
  refine r_new X hw 188 8 1221 13 rfl tyX8 (by decide) rfl inn_X11_init_8 tyX8_ok (X.2.2.2.1 (.classLink RX11 39 RX8) (by decide +kernel)) (X.2.2.2.1 (.instantiable RX8 13) (by decide +kernel)) (X.2.2.2.1 (.initialized RX8) (by decide +kernel)) (zo_8 _) zd_8 (by show 12 + 1 ≤ 13; omega) (by show 1208 + 13 ≤ 1221; omega) (by show 13 ≤ 58; omega) (by show 1221 ≤ 1728; omega) dX11_init_53 (fun q_124 H hq_124 hw => ?_)
  obtain ⟨S_125, eS_125⟩ : ∃ T, T = sO S_118 q_124 188 := ⟨_, rfl⟩
  rw [← eS_125] at hw
  have ph_126 : Phc S_125 = Phc S + 0 := (show Phc S_125 = Phc S_118 from Ph_sO hg_122 hq_124 eS_125 (by decide)).trans ph_119
  have ph_127 : Phs S_125 = Phs S + 0 := (show Phs S_125 = Phs S_118 from Ph_sO hg_122 hq_124 eS_125 (by decide)).trans ph_120
  clear ph_119
  clear ph_120
  have hK_128 : Kq S S_125 x := hK_121.sO hq_124 eS_125
  have hg_129 : GX S_125 := by rw [eS_125]; exact GX_O hg_122 hq_124 (by decide +kernel)
  have hn0_q_124 := hK_121.new hq_124
  have ha_130 : At S_125 q_124 188 := by rw [eS_125]; exact At_nO _ _ _
  have hzI_q_124 : ∀ g, pI S_125 g q_124 = 0 := fun g => by rw [eS_125]; exact pI_sO_new
  have hzR_q_124 : ∀ g, pR S_125 g q_124 = none := fun g => by rw [eS_125]; exact if_pos rfl
  refine lv_dup X.1 X.2.1 dX11_init_56 rfl ?_
  refine k_v (rm := { frames := 3, cells := 9, slots := 214, locals := 144 }) (av := [.ref q_124]) X hw (va_runIN (As := []) (rest := [.ref q_124, .ref x]) (cfix X) (k_X8_init6 l G cy κ S_125 _ q_124 hg_129 ha_130 hzI_q_124 hzR_q_124) ⟨(va_cnB (host := RX11) 0 X.2.2.2.1 gX11_init_X8_init_n41 rfl rfl rfl (X.2.2.2.2.2.2.2.1.2.1 (RX11, 41, yX8_init) (by decide +kernel)) (X.2.2.2.1 (.initialized RX8) (by decide +kernel)) (by decide +kernel) ⟨Nat.le_of_ble_eq_true rfl, Nat.le_of_ble_eq_true rfl⟩), rfl, (X.2.2.2.1 (.instanceMethod yX8_init) (by decide +kernel))⟩ (pre_S X hw _) rfl rfl hl.1 rfl (lv_room (Nat.le_of_ble_eq_true rfl)) dX11_init_57 ⟨(by show 13 + 9 ≤ 58; omega), (by show 1221 + 214 ≤ 1728; omega)⟩) 22 1435 (by show 13 + 9 ≤ 22; omega) (by show 1221 + 214 ≤ 1435; omega) (fun S_132 H locs hp hw hfr hnw => ?_)
  obtain ⟨hK_133, hg_134, ha_135, ph_136, ph_137, kz_138, kz_139⟩ := hp
  have hK_140 : Kq S S_132 x := hK_128.sub hn0_q_124 hK_133
  have ph_141 : Phc S_132 = Phc S + 320 := by omega
  have ph_142 : Phs S_132 = Phs S + 604000 := by omega
  clear ph_126
  clear ph_127
  clear ph_136
  clear ph_137
  have t_143 : At S_118 x 191 := tAt_sR eS_118 t_117
  have t_144 : At S_125 x 191 := by rw [eS_125]; exact At_sO t_143 hq_124
  have t_145 : At S_132 x 191 := hK_133.at ha_130 t_144 (by decide)
  refine r_putR X hw t_145 rfl 7 1107 (some q_124) rfl tyX11 (by decide) rfl inn_X11_init_11 tyX11_ok nmX11 (by decide) (X.2.2.2.1 (.fieldLink RX11 42 "SilkMill" "store" "LSilkMill$Store;") (by decide +kernel)) rfl (Or.inr ⟨rfl, hin, rfl⟩) (fun _ => rfl) rfl (fun _ => rfl) rfl (Nat.le_of_ble_eq_true rfl) (st_1107 _ _) dX11_init_60 (fun H locs hw => ?_)
  obtain ⟨S_146, eS_146⟩ : ∃ T, T = sR S_132 1107 x (some q_124) := ⟨_, rfl⟩
  rw [← eS_146] at hw
  have ph_147 : Phc S_146 = Phc S + 320 := (show Phc S_146 = Phc S_132 from Ph_rawR t_145 (by decide) eS_146).trans ph_141
  have ph_148 : Phs S_146 = Phs S + 604000 := (show Phs S_146 = Phs S_132 from Ph_rawR t_145 (by decide) eS_146).trans ph_142
  clear ph_141
  clear ph_142
  have hK_149 : Kq S S_146 x := hK_140.sR eS_146
  have hg_150 : GX S_146 := by rw [eS_146]; exact GX_rawR hg_134 t_145 (by decide +kernel)
  have h_151 : pR S_146 1107 x = some q_124 := tR_sRs eS_146
  refine lv_aload_n X.1 X.2.1 dX11_init_63 rfl (lv_at hl 0 rfl) ?_
  refine r_new X hw 181 1 1439 23 rfl tyX1 (by decide) rfl inn_X11_init_1 tyX1_ok (X.2.2.2.1 (.classLink RX11 46 RX1) (by decide +kernel)) (X.2.2.2.1 (.instantiable RX1 4) (by decide +kernel)) (X.2.2.2.1 (.initialized RX1) (by decide +kernel)) (zo_1 _) zd_1 (by show 22 + 1 ≤ 23; omega) (by show 1435 + 4 ≤ 1439; omega) (by show 23 ≤ 58; omega) (by show 1439 ≤ 1728; omega) dX11_init_64 (fun q_152 H hq_152 hw => ?_)
  obtain ⟨S_153, eS_153⟩ : ∃ T, T = sO S_146 q_152 181 := ⟨_, rfl⟩
  rw [← eS_153] at hw
  have ph_154 : Phc S_153 = Phc S + 320 := (show Phc S_153 = Phc S_146 from Ph_sO hg_150 hq_152 eS_153 (by decide)).trans ph_147
  have ph_155 : Phs S_153 = Phs S + 604000 := (show Phs S_153 = Phs S_146 from Ph_sO hg_150 hq_152 eS_153 (by decide)).trans ph_148
  clear ph_147
  clear ph_148
  have hK_156 : Kq S S_153 x := hK_149.sO hq_152 eS_153
  have hg_157 : GX S_153 := by rw [eS_153]; exact GX_O hg_150 hq_152 (by decide +kernel)
  have hn0_q_152 := hK_149.new hq_152
  have ha_158 : At S_153 q_152 181 := by rw [eS_153]; exact At_nO _ _ _
  have hzI_q_152 : ∀ g, pI S_153 g q_152 = 0 := fun g => by rw [eS_153]; exact pI_sO_new
  have hzR_q_152 : ∀ g, pR S_153 g q_152 = none := fun g => by rw [eS_153]; exact if_pos rfl
  refine lv_dup X.1 X.2.1 dX11_init_67 rfl ?_
  refine k_v (rm := { frames := 2, cells := 1, slots := 5, locals := 96 }) (av := [.ref q_152]) X hw (va_runIN (As := []) (rest := [.ref q_152, .ref x]) (cfix X) (k_X1_init7 l G cy κ S_153 _ q_152 hg_157 ha_158 hzI_q_152 hzR_q_152) ⟨(va_cnB (host := RX11) 0 X.2.2.2.1 gX11_init_X1_init_n48 rfl rfl rfl (X.2.2.2.2.2.2.2.1.2.1 (RX11, 48, yX1_init) (by decide +kernel)) (X.2.2.2.1 (.initialized RX1) (by decide +kernel)) (by decide +kernel) ⟨Nat.le_of_ble_eq_true rfl, Nat.le_of_ble_eq_true rfl⟩), rfl, (X.2.2.2.1 (.instanceMethod yX1_init) (by decide +kernel))⟩ (pre_S X hw _) rfl rfl hl.1 rfl (lv_room (Nat.le_of_ble_eq_true rfl)) dX11_init_68 ⟨(by show 23 + 1 ≤ 58; omega), (by show 1439 + 5 ≤ 1728; omega)⟩) 24 1444 (by show 23 + 1 ≤ 24; omega) (by show 1439 + 5 ≤ 1444; omega) (fun S_160 H locs hp hw hfr hnw => ?_)
  obtain ⟨hK_161, hg_162, ha_163, ph_164, ph_165, kz_166, kz_167, kz_168⟩ := hp
  have hK_169 : Kq S S_160 x := hK_156.sub hn0_q_152 hK_161
  have ph_170 : Phc S_160 = Phc S + 320 := by omega
  have ph_171 : Phs S_160 = Phs S + 604000 := by omega
  clear ph_154
  clear ph_155
  clear ph_164
  clear ph_165
  have t_172 : At S_146 x 191 := tAt_sR eS_146 t_145
  have t_173 : At S_153 x 191 := by rw [eS_153]; exact At_sO t_172 hq_152
  have t_174 : At S_160 x 191 := hK_161.at ha_158 t_173 (by decide)
  refine r_putR X hw t_174 rfl 8 1108 (some q_152) rfl tyX11 (by decide) rfl inn_X11_init_11 tyX11_ok nmX11 (by decide) (X.2.2.2.1 (.fieldLink RX11 49 "SilkMill" "latestDraw" "LSilkMill$Draw;") (by decide +kernel)) rfl (Or.inr ⟨rfl, hin, rfl⟩) (fun _ => rfl) rfl (fun _ => rfl) rfl (Nat.le_of_ble_eq_true rfl) (st_1108 _ _) dX11_init_71 (fun H locs hw => ?_)
  obtain ⟨S_175, eS_175⟩ : ∃ T, T = sR S_160 1108 x (some q_152) := ⟨_, rfl⟩
  rw [← eS_175] at hw
  have ph_176 : Phc S_175 = Phc S + 320 := (show Phc S_175 = Phc S_160 from Ph_rawR t_174 (by decide) eS_175).trans ph_170
  have ph_177 : Phs S_175 = Phs S + 604000 := (show Phs S_175 = Phs S_160 from Ph_rawR t_174 (by decide) eS_175).trans ph_171
  clear ph_170
  clear ph_171
  have hK_178 : Kq S S_175 x := hK_169.sR eS_175
  have hg_179 : GX S_175 := by rw [eS_175]; exact GX_rawR hg_162 t_174 (by decide +kernel)
  have h_180 : pR S_175 1108 x = some q_152 := tR_sRs eS_175
  refine lv_aload_n X.1 X.2.1 dX11_init_74 rfl (lv_at hl 0 rfl) ?_
  refine lv_bipush (v := 16) X.1 X.2.1 dX11_init_75 (by decide) ?_
  refine r_newQ (N := 16) (C := RX3) X hw 17 17 1460 25 rfl (by decide) rfl (X.2.2.2.1 (.classLink RX11 53 RX3) (by decide +kernel)) X.2.2.2.2.2.2.2.1.1.2.1 (z_nn ti_16 (by omega)) (by decide) (by decide) (by show 24 + 1 ≤ 25; omega) (by show 1444 + 16 ≤ 1460; omega) (by show 25 ≤ 58; omega) (by show 1460 ≤ 1728; omega) dX11_init_77 (fun q_181 H hq_181 hw => ?_)
  obtain ⟨S_182, eS_182⟩ : ∃ T, T = sN S_175 q_181 17 16 := ⟨_, rfl⟩
  rw [← eS_182] at hw
  have ph_183 : Phc S_182 = Phc S + 320 := (show Phc S_182 = Phc S_175 from Ph_sN' hg_179.ci hq_181 eS_182 (by decide)).trans ph_176
  have ph_184 : Phs S_182 = Phs S + 604000 := (show Phs S_182 = Phs S_175 from Ph_sN' hg_179.ci hq_181 eS_182 (by decide)).trans ph_177
  clear ph_176
  clear ph_177
  have hK_185 : Kq S S_182 x := hK_178.sN hq_181 eS_182
  have hg_186 : GX S_182 := by rw [eS_182]; exact GX_N hg_179 hq_181 (by decide +kernel)
  have hn0_q_181 := hK_178.new hq_181
  have ha_187 : At S_182 q_181 17 := by rw [eS_182]; exact At_nN _ _ _ _
  have hn_188 : pN S_182 q_181 = 16 := by rw [eS_182]; exact pN_sN_new
  have t_189 : At S_175 x 191 := tAt_sR eS_175 t_174
  have t_190 : At S_182 x 191 := by rw [eS_182]; exact At_sN t_189 hq_181
  refine r_putR X hw t_190 rfl 9 1109 (some q_181) rfl tyX11 (by decide) rfl inn_X11_init_11 tyX11_ok nmX11 (by decide) (X.2.2.2.1 (.fieldLink RX11 55 "SilkMill" "shelf" "[LSilkMill$Place;") (by decide +kernel)) rfl (Or.inr ⟨rfl, hin, rfl⟩) (fun _ => rfl) rfl (fun _ => rfl) rfl (Nat.le_of_ble_eq_true rfl) (st_1109 _ _) dX11_init_80 (fun H locs hw => ?_)
  obtain ⟨S_191, eS_191⟩ : ∃ T, T = sR S_182 1109 x (some q_181) := ⟨_, rfl⟩
  rw [← eS_191] at hw
  have ph_192 : Phc S_191 = Phc S + 320 := (show Phc S_191 = Phc S_182 from Ph_rawR t_190 (by decide) eS_191).trans ph_183
  have ph_193 : Phs S_191 = Phs S + 604000 := (show Phs S_191 = Phs S_182 from Ph_rawR t_190 (by decide) eS_191).trans ph_184
  clear ph_183
  clear ph_184
  have hK_194 : Kq S S_191 x := hK_185.sR eS_191
  have hg_195 : GX S_191 := by rw [eS_191]; exact GX_rawR hg_186 t_190 (by decide +kernel)
  have h_196 : pR S_191 1109 x = some q_181 := tR_sRs eS_191
  refine lv_aload_n X.1 X.2.1 dX11_init_83 rfl (lv_at hl 0 rfl) ?_
  refine lv_bipush (v := 60) X.1 X.2.1 dX11_init_84 (by decide) ?_
  refine r_newI (N := 60) X hw 194 1520 26 rfl (X.2.2.2.1 (.arrayClass .int) (by decide +kernel)) (z_nn ti_60 (by omega)) (by decide) (by decide) (by show 25 + 1 ≤ 26; omega) (by show 1460 + 60 ≤ 1520; omega) (by show 26 ≤ 58; omega) (by show 1520 ≤ 1728; omega) dX11_init_86 (fun q_197 H hq_197 hw => ?_)
  obtain ⟨S_198, eS_198⟩ : ∃ T, T = sN S_191 q_197 194 60 := ⟨_, rfl⟩
  rw [← eS_198] at hw
  have ph_199 : Phc S_198 = Phc S + 320 := (show Phc S_198 = Phc S_191 from Ph_sN' hg_195.ci hq_197 eS_198 (by decide)).trans ph_192
  have ph_200 : Phs S_198 = Phs S + 604000 := (show Phs S_198 = Phs S_191 from Ph_sN' hg_195.ci hq_197 eS_198 (by decide)).trans ph_193
  clear ph_192
  clear ph_193
  have hK_201 : Kq S S_198 x := hK_194.sN hq_197 eS_198
  have hg_202 : GX S_198 := by rw [eS_198]; exact GX_N hg_195 hq_197 (by decide +kernel)
  have hn0_q_197 := hK_194.new hq_197
  have ha_203 : At S_198 q_197 194 := by rw [eS_198]; exact At_nN _ _ _ _
  have hn_204 : pN S_198 q_197 = 60 := by rw [eS_198]; exact pN_sN_new
  have t_205 : At S_191 x 191 := tAt_sR eS_191 t_190
  have t_206 : At S_198 x 191 := by rw [eS_198]; exact At_sN t_205 hq_197
  refine r_putR X hw t_206 rfl 11 1111 (some q_197) rfl tyX11 (by decide) rfl inn_X11_init_11 tyX11_ok nmX11 (by decide) (X.2.2.2.1 (.fieldLink RX11 59 "SilkMill" "idle" "[I") (by decide +kernel)) rfl (Or.inr ⟨rfl, hin, rfl⟩) (fun _ => rfl) rfl (fun _ => rfl) rfl (Nat.le_of_ble_eq_true rfl) (st_1111 _ _) dX11_init_88 (fun H locs hw => ?_)
  obtain ⟨S_207, eS_207⟩ : ∃ T, T = sR S_198 1111 x (some q_197) := ⟨_, rfl⟩
  rw [← eS_207] at hw
  have ph_208 : Phc S_207 = Phc S + 320 := (show Phc S_207 = Phc S_198 from Ph_rawR t_206 (by decide) eS_207).trans ph_199
  have ph_209 : Phs S_207 = Phs S + 604000 := (show Phs S_207 = Phs S_198 from Ph_rawR t_206 (by decide) eS_207).trans ph_200
  clear ph_199
  clear ph_200
  have hK_210 : Kq S S_207 x := hK_201.sR eS_207
  have hg_211 : GX S_207 := by rw [eS_207]; exact GX_rawR hg_202 t_206 (by decide +kernel)
  have h_212 : pR S_207 1111 x = some q_197 := tR_sRs eS_207
  refine lv_iconst (v := 0) X.1 X.2.1 dX11_init_91 (by decide) ?_
  have t_213 : pR S_198 1109 x = some q_181 := by rw [eS_198, pR_sN]; exact h_196
  have t_214 : pR S_207 1109 x = some q_181 := tR_sR eS_207 rfl t_213
  refine lv_istore_n (lv' := [(1, .int 0), (0, .ref x)]) X.1 X.2.1 dX11_init_92 rfl hl (by decide) rfl (fun ls hl => ?_)
  have t_221 : At S_146 x 191 := tAt_sR eS_146 t_145
  have t_220 : pR S_153 1107 x = some q_124 := by rw [eS_153]; exact (pR_sO_ne (ne_of_new hq_152 t_221.1)).trans h_151
  have t_223 : At S_153 x 191 := by rw [eS_153]; exact At_sO t_221 hq_152
  have t_222 : pR S_160 1107 x = some q_124 := (((hK_161 x t_223.1).2 (At_ne t_223 ha_158 (by decide))).2.2.1 1107).trans t_220
  have t_224 : pR S_175 1107 x = some q_124 := tR_sR eS_175 rfl t_222
  have t_225 : pR S_182 1107 x = some q_124 := by rw [eS_182, pR_sN]; exact t_224
  have t_226 : pR S_191 1107 x = some q_124 := tR_sR eS_191 rfl t_225
  have t_227 : pR S_198 1107 x = some q_124 := by rw [eS_198, pR_sN]; exact t_226
  have t_228 : pR S_207 1107 x = some q_124 := tR_sR eS_207 rfl t_227
  have t_230 : At S_69 x 191 := tAt_sR eS_69 t_68
  have t_229 : pR S_76 1105 x = some q_48 := by rw [eS_76]; exact (pR_sO_ne (ne_of_new hq_75 t_230.1)).trans h_74
  have t_232 : At S_76 x 191 := by rw [eS_76]; exact At_sO t_230 hq_75
  have t_231 : pR S_83 1105 x = some q_48 := (((hK_84 x t_232.1).2 (At_ne t_232 ha_81 (by decide))).2.2.1 1105).trans t_229
  have t_233 : pR S_118 1105 x = some q_48 := tR_sR eS_118 rfl t_231
  have t_235 : At S_118 x 191 := tAt_sR eS_118 t_117
  have t_234 : pR S_125 1105 x = some q_48 := by rw [eS_125]; exact (pR_sO_ne (ne_of_new hq_124 t_235.1)).trans t_233
  have t_237 : At S_125 x 191 := by rw [eS_125]; exact At_sO t_235 hq_124
  have t_236 : pR S_132 1105 x = some q_48 := (((hK_133 x t_237.1).2 (At_ne t_237 ha_130 (by decide))).2.2.1 1105).trans t_234
  have t_238 : pR S_146 1105 x = some q_48 := tR_sR eS_146 rfl t_236
  have t_239 : pR S_153 1105 x = some q_48 := by rw [eS_153]; exact (pR_sO_ne (ne_of_new hq_152 t_221.1)).trans t_238
  have t_240 : pR S_160 1105 x = some q_48 := (((hK_161 x t_223.1).2 (At_ne t_223 ha_158 (by decide))).2.2.1 1105).trans t_239
  have t_241 : pR S_175 1105 x = some q_48 := tR_sR eS_175 rfl t_240
  have t_242 : pR S_182 1105 x = some q_48 := by rw [eS_182, pR_sN]; exact t_241
  have t_243 : pR S_191 1105 x = some q_48 := tR_sR eS_191 rfl t_242
  have t_244 : pR S_198 1105 x = some q_48 := by rw [eS_198, pR_sN]; exact t_243
  have t_245 : pR S_207 1105 x = some q_48 := tR_sR eS_207 rfl t_244
  have t_246 : pR S_182 1108 x = some q_152 := by rw [eS_182, pR_sN]; exact h_180
  have t_247 : pR S_191 1108 x = some q_152 := tR_sR eS_191 rfl t_246
  have t_248 : pR S_198 1108 x = some q_152 := by rw [eS_198, pR_sN]; exact t_247
  have t_249 : pR S_207 1108 x = some q_152 := tR_sR eS_207 rfl t_248
  have t_250 : pI S_2 1102 x = 0 := by rw [eS_2, pI_sN]; exact (hzI 1102)
  have t_251 : pI S_10 1102 x = 0 := tI_sR eS_10 t_250
  have t_252 : pI S_17 1102 x = 0 := by rw [eS_17, pI_sN]; exact t_251
  have t_253 : pI S_26 1102 x = 0 := tI_sR eS_26 t_252
  have t_254 : pI S_33 1102 x = 0 := by rw [eS_33, pI_sN]; exact t_253
  have t_255 : pI S_42 1102 x = 0 := tI_sR eS_42 t_254
  have t_257 : At S_42 x 191 := tAt_sR eS_42 t_41
  have t_256 : pI S_49 1102 x = 0 := by rw [eS_49]; exact (pI_sO_ne (ne_of_new hq_48 t_257.1)).trans t_255
  have t_259 : At S_49 x 191 := by rw [eS_49]; exact At_sO t_257 hq_48
  have t_258 : pI S_56 1102 x = 0 := (((hK_57 x t_259.1).2 (At_ne t_259 ha_54 (by decide))).2.1 1102).trans t_256
  have t_260 : pI S_69 1102 x = 0 := tI_sR eS_69 t_258
  have t_261 : pI S_76 1102 x = 0 := by rw [eS_76]; exact (pI_sO_ne (ne_of_new hq_75 t_230.1)).trans t_260
  have t_262 : pI S_83 1102 x = 0 := (((hK_84 x t_232.1).2 (At_ne t_232 ha_81 (by decide))).2.1 1102).trans t_261
  have t_263 : pI S_118 1102 x = 0 := tI_sR eS_118 t_262
  have t_264 : pI S_125 1102 x = 0 := by rw [eS_125]; exact (pI_sO_ne (ne_of_new hq_124 t_235.1)).trans t_263
  have t_265 : pI S_132 1102 x = 0 := (((hK_133 x t_237.1).2 (At_ne t_237 ha_130 (by decide))).2.1 1102).trans t_264
  have t_266 : pI S_146 1102 x = 0 := tI_sR eS_146 t_265
  have t_267 : pI S_153 1102 x = 0 := by rw [eS_153]; exact (pI_sO_ne (ne_of_new hq_152 t_221.1)).trans t_266
  have t_268 : pI S_160 1102 x = 0 := (((hK_161 x t_223.1).2 (At_ne t_223 ha_158 (by decide))).2.1 1102).trans t_267
  have t_269 : pI S_175 1102 x = 0 := tI_sR eS_175 t_268
  have t_270 : pI S_182 1102 x = 0 := by rw [eS_182, pI_sN]; exact t_269
  have t_271 : pI S_191 1102 x = 0 := tI_sR eS_191 t_270
  have t_272 : pI S_198 1102 x = 0 := by rw [eS_198, pI_sN]; exact t_271
  have t_273 : pI S_207 1102 x = 0 := tI_sR eS_207 t_272
  have t_275 : pI S_2 1104 x = 0 := by rw [eS_2, pI_sN]; exact (hzI 1104)
  have t_276 : pI S_10 1104 x = 0 := tI_sR eS_10 t_275
  have t_277 : pI S_17 1104 x = 0 := by rw [eS_17, pI_sN]; exact t_276
  have t_278 : pI S_26 1104 x = 0 := tI_sR eS_26 t_277
  have t_279 : pI S_33 1104 x = 0 := by rw [eS_33, pI_sN]; exact t_278
  have t_280 : pI S_42 1104 x = 0 := tI_sR eS_42 t_279
  have t_281 : pI S_49 1104 x = 0 := by rw [eS_49]; exact (pI_sO_ne (ne_of_new hq_48 t_257.1)).trans t_280
  have t_282 : pI S_56 1104 x = 0 := (((hK_57 x t_259.1).2 (At_ne t_259 ha_54 (by decide))).2.1 1104).trans t_281
  have t_283 : pI S_69 1104 x = 0 := tI_sR eS_69 t_282
  have t_284 : pI S_76 1104 x = 0 := by rw [eS_76]; exact (pI_sO_ne (ne_of_new hq_75 t_230.1)).trans t_283
  have t_285 : pI S_83 1104 x = 0 := (((hK_84 x t_232.1).2 (At_ne t_232 ha_81 (by decide))).2.1 1104).trans t_284
  have t_286 : pI S_118 1104 x = 0 := tI_sR eS_118 t_285
  have t_287 : pI S_125 1104 x = 0 := by rw [eS_125]; exact (pI_sO_ne (ne_of_new hq_124 t_235.1)).trans t_286
  have t_288 : pI S_132 1104 x = 0 := (((hK_133 x t_237.1).2 (At_ne t_237 ha_130 (by decide))).2.1 1104).trans t_287
  have t_289 : pI S_146 1104 x = 0 := tI_sR eS_146 t_288
  have t_290 : pI S_153 1104 x = 0 := by rw [eS_153]; exact (pI_sO_ne (ne_of_new hq_152 t_221.1)).trans t_289
  have t_291 : pI S_160 1104 x = 0 := (((hK_161 x t_223.1).2 (At_ne t_223 ha_158 (by decide))).2.1 1104).trans t_290
  have t_292 : pI S_175 1104 x = 0 := tI_sR eS_175 t_291
  have t_293 : pI S_182 1104 x = 0 := by rw [eS_182, pI_sN]; exact t_292
  have t_294 : pI S_191 1104 x = 0 := tI_sR eS_191 t_293
  have t_295 : pI S_198 1104 x = 0 := by rw [eS_198, pI_sN]; exact t_294
  have t_296 : pI S_207 1104 x = 0 := tI_sR eS_207 t_295
  have t_298 : pI S_146 801 q_124 = 0 := tI_sR eS_146 kz_138
  have t_300 : At S_146 q_124 8 := tAt_sR eS_146 ha_135
  have t_299 : pI S_153 801 q_124 = 0 := by rw [eS_153]; exact (pI_sO_ne (ne_of_new hq_152 t_300.1)).trans t_298
  have t_302 : At S_153 q_124 8 := by rw [eS_153]; exact At_sO t_300 hq_152
  have t_301 : pI S_160 801 q_124 = 0 := (((hK_161 q_124 t_302.1).2 (At_ne t_302 ha_158 (by decide))).2.1 801).trans t_299
  have t_303 : pI S_175 801 q_124 = 0 := tI_sR eS_175 t_301
  have t_304 : pI S_182 801 q_124 = 0 := by rw [eS_182, pI_sN]; exact t_303
  have t_305 : pI S_191 801 q_124 = 0 := tI_sR eS_191 t_304
  have t_306 : pI S_198 801 q_124 = 0 := by rw [eS_198, pI_sN]; exact t_305
  have t_307 : pI S_207 801 q_124 = 0 := tI_sR eS_207 t_306
  have t_309 : pI S_69 1000 q_48 = 0 := tI_sR eS_69 kz_62
  have t_311 : At S_69 q_48 10 := tAt_sR eS_69 ha_59
  have t_310 : pI S_76 1000 q_48 = 0 := by rw [eS_76]; exact (pI_sO_ne (ne_of_new hq_75 t_311.1)).trans t_309
  have t_313 : At S_76 q_48 10 := by rw [eS_76]; exact At_sO t_311 hq_75
  have t_312 : pI S_83 1000 q_48 = 0 := (((hK_84 q_48 t_313.1).2 (At_ne t_313 ha_81 (by decide))).2.1 1000).trans t_310
  have t_314 : pI S_118 1000 q_48 = 0 := tI_sR eS_118 t_312
  have t_316 : At S_83 q_48 10 := hK_84.at ha_81 t_313 (by decide)
  have t_317 : At S_118 q_48 10 := tAt_sR eS_118 t_316
  have t_315 : pI S_125 1000 q_48 = 0 := by rw [eS_125]; exact (pI_sO_ne (ne_of_new hq_124 t_317.1)).trans t_314
  have t_319 : At S_125 q_48 10 := by rw [eS_125]; exact At_sO t_317 hq_124
  have t_318 : pI S_132 1000 q_48 = 0 := (((hK_133 q_48 t_319.1).2 (At_ne t_319 ha_130 (by decide))).2.1 1000).trans t_315
  have t_320 : pI S_146 1000 q_48 = 0 := tI_sR eS_146 t_318
  have t_322 : At S_132 q_48 10 := hK_133.at ha_130 t_319 (by decide)
  have t_323 : At S_146 q_48 10 := tAt_sR eS_146 t_322
  have t_321 : pI S_153 1000 q_48 = 0 := by rw [eS_153]; exact (pI_sO_ne (ne_of_new hq_152 t_323.1)).trans t_320
  have t_325 : At S_153 q_48 10 := by rw [eS_153]; exact At_sO t_323 hq_152
  have t_324 : pI S_160 1000 q_48 = 0 := (((hK_161 q_48 t_325.1).2 (At_ne t_325 ha_158 (by decide))).2.1 1000).trans t_321
  have t_326 : pI S_175 1000 q_48 = 0 := tI_sR eS_175 t_324
  have t_327 : pI S_182 1000 q_48 = 0 := by rw [eS_182, pI_sN]; exact t_326
  have t_328 : pI S_191 1000 q_48 = 0 := tI_sR eS_191 t_327
  have t_329 : pI S_198 1000 q_48 = 0 := by rw [eS_198, pI_sN]; exact t_328
  have t_330 : pI S_207 1000 q_48 = 0 := tI_sR eS_207 t_329
  have t_332 : pI S_146 800 q_124 = 0 := tI_sR eS_146 kz_139
  have t_333 : pI S_153 800 q_124 = 0 := by rw [eS_153]; exact (pI_sO_ne (ne_of_new hq_152 t_300.1)).trans t_332
  have t_334 : pI S_160 800 q_124 = 0 := (((hK_161 q_124 t_302.1).2 (At_ne t_302 ha_158 (by decide))).2.1 800).trans t_333
  have t_335 : pI S_175 800 q_124 = 0 := tI_sR eS_175 t_334
  have t_336 : pI S_182 800 q_124 = 0 := by rw [eS_182, pI_sN]; exact t_335
  have t_337 : pI S_191 800 q_124 = 0 := tI_sR eS_191 t_336
  have t_338 : pI S_198 800 q_124 = 0 := by rw [eS_198, pI_sN]; exact t_337
  have t_339 : pI S_207 800 q_124 = 0 := tI_sR eS_207 t_338
  have t_341 : pI S_175 101 q_152 = 0 := tI_sR eS_175 kz_166
  have t_342 : pI S_182 101 q_152 = 0 := by rw [eS_182, pI_sN]; exact t_341
  have t_343 : pI S_191 101 q_152 = 0 := tI_sR eS_191 t_342
  have t_344 : pI S_198 101 q_152 = 0 := by rw [eS_198, pI_sN]; exact t_343
  have t_345 : pI S_207 101 q_152 = 0 := tI_sR eS_207 t_344
  have t_347 : pI S_175 102 q_152 = 0 := tI_sR eS_175 kz_167
  have t_348 : pI S_182 102 q_152 = 0 := by rw [eS_182, pI_sN]; exact t_347
  have t_349 : pI S_191 102 q_152 = 0 := tI_sR eS_191 t_348
  have t_350 : pI S_198 102 q_152 = 0 := by rw [eS_198, pI_sN]; exact t_349
  have t_351 : pI S_207 102 q_152 = 0 := tI_sR eS_207 t_350
  have t_353 : pI S_175 103 q_152 = 0 := tI_sR eS_175 kz_168
  have t_354 : pI S_182 103 q_152 = 0 := by rw [eS_182, pI_sN]; exact t_353
  have t_355 : pI S_191 103 q_152 = 0 := tI_sR eS_191 t_354
  have t_356 : pI S_198 103 q_152 = 0 := by rw [eS_198, pI_sN]; exact t_355
  have t_357 : pI S_207 103 q_152 = 0 := tI_sR eS_207 t_356
  have t_359 : pR S_17 1100 x = some q_1 := by rw [eS_17, pR_sN]; exact h_15
  have t_360 : pR S_26 1100 x = some q_1 := tR_sR eS_26 rfl t_359
  have t_361 : pR S_33 1100 x = some q_1 := by rw [eS_33, pR_sN]; exact t_360
  have t_362 : pR S_42 1100 x = some q_1 := tR_sR eS_42 rfl t_361
  have t_363 : pR S_49 1100 x = some q_1 := by rw [eS_49]; exact (pR_sO_ne (ne_of_new hq_48 t_257.1)).trans t_362
  have t_364 : pR S_56 1100 x = some q_1 := (((hK_57 x t_259.1).2 (At_ne t_259 ha_54 (by decide))).2.2.1 1100).trans t_363
  have t_365 : pR S_69 1100 x = some q_1 := tR_sR eS_69 rfl t_364
  have t_366 : pR S_76 1100 x = some q_1 := by rw [eS_76]; exact (pR_sO_ne (ne_of_new hq_75 t_230.1)).trans t_365
  have t_367 : pR S_83 1100 x = some q_1 := (((hK_84 x t_232.1).2 (At_ne t_232 ha_81 (by decide))).2.2.1 1100).trans t_366
  have t_368 : pR S_118 1100 x = some q_1 := tR_sR eS_118 rfl t_367
  have t_369 : pR S_125 1100 x = some q_1 := by rw [eS_125]; exact (pR_sO_ne (ne_of_new hq_124 t_235.1)).trans t_368
  have t_370 : pR S_132 1100 x = some q_1 := (((hK_133 x t_237.1).2 (At_ne t_237 ha_130 (by decide))).2.2.1 1100).trans t_369
  have t_371 : pR S_146 1100 x = some q_1 := tR_sR eS_146 rfl t_370
  have t_372 : pR S_153 1100 x = some q_1 := by rw [eS_153]; exact (pR_sO_ne (ne_of_new hq_152 t_221.1)).trans t_371
  have t_373 : pR S_160 1100 x = some q_1 := (((hK_161 x t_223.1).2 (At_ne t_223 ha_158 (by decide))).2.2.1 1100).trans t_372
  have t_374 : pR S_175 1100 x = some q_1 := tR_sR eS_175 rfl t_373
  have t_375 : pR S_182 1100 x = some q_1 := by rw [eS_182, pR_sN]; exact t_374
  have t_376 : pR S_191 1100 x = some q_1 := tR_sR eS_191 rfl t_375
  have t_377 : pR S_198 1100 x = some q_1 := by rw [eS_198, pR_sN]; exact t_376
  have t_378 : pR S_207 1100 x = some q_1 := tR_sR eS_207 rfl t_377
  have t_381 : pN S_10 q_1 = 600 := tN_sR eS_10 hn_8
  clear hn_8
  have t_383 : At S_10 q_1 36 := tAt_sR eS_10 ha_7
  have t_382 : pN S_17 q_1 = 600 := by rw [eS_17]; exact (pN_sN_ne (ne_of_new hq_16 t_383.1)).trans t_381
  clear t_381
  have t_384 : pN S_26 q_1 = 600 := tN_sR eS_26 t_382
  clear t_382
  have t_386 : At S_17 q_1 36 := by rw [eS_17]; exact At_sN t_383 hq_16
  have t_387 : At S_26 q_1 36 := tAt_sR eS_26 t_386
  have t_385 : pN S_33 q_1 = 600 := by rw [eS_33]; exact (pN_sN_ne (ne_of_new hq_32 t_387.1)).trans t_384
  clear t_384
  have t_388 : pN S_42 q_1 = 600 := tN_sR eS_42 t_385
  clear t_385
  have t_389 : pN S_49 q_1 = 600 := by rw [eS_49, pN_sO]; exact t_388
  clear t_388
  have t_391 : At S_33 q_1 36 := by rw [eS_33]; exact At_sN t_387 hq_32
  have t_392 : At S_42 q_1 36 := tAt_sR eS_42 t_391
  have t_393 : At S_49 q_1 36 := by rw [eS_49]; exact At_sO t_392 hq_48
  have t_390 : pN S_56 q_1 = 600 := ((hK_57 q_1 t_393.1).2 (At_ne t_393 ha_54 (by decide))).2.2.2.1.trans t_389
  clear t_389
  have t_394 : pN S_69 q_1 = 600 := tN_sR eS_69 t_390
  clear t_390
  have t_395 : pN S_76 q_1 = 600 := by rw [eS_76, pN_sO]; exact t_394
  clear t_394
  have t_397 : At S_56 q_1 36 := hK_57.at ha_54 t_393 (by decide)
  have t_398 : At S_69 q_1 36 := tAt_sR eS_69 t_397
  have t_399 : At S_76 q_1 36 := by rw [eS_76]; exact At_sO t_398 hq_75
  have t_396 : pN S_83 q_1 = 600 := ((hK_84 q_1 t_399.1).2 (At_ne t_399 ha_81 (by decide))).2.2.2.1.trans t_395
  clear t_395
  have t_400 : pN S_118 q_1 = 600 := tN_sR eS_118 t_396
  clear t_396
  have t_401 : pN S_125 q_1 = 600 := by rw [eS_125, pN_sO]; exact t_400
  clear t_400
  have t_403 : At S_83 q_1 36 := hK_84.at ha_81 t_399 (by decide)
  have t_404 : At S_118 q_1 36 := tAt_sR eS_118 t_403
  have t_405 : At S_125 q_1 36 := by rw [eS_125]; exact At_sO t_404 hq_124
  have t_402 : pN S_132 q_1 = 600 := ((hK_133 q_1 t_405.1).2 (At_ne t_405 ha_130 (by decide))).2.2.2.1.trans t_401
  clear t_401
  have t_406 : pN S_146 q_1 = 600 := tN_sR eS_146 t_402
  clear t_402
  have t_407 : pN S_153 q_1 = 600 := by rw [eS_153, pN_sO]; exact t_406
  clear t_406
  have t_409 : At S_132 q_1 36 := hK_133.at ha_130 t_405 (by decide)
  have t_410 : At S_146 q_1 36 := tAt_sR eS_146 t_409
  have t_411 : At S_153 q_1 36 := by rw [eS_153]; exact At_sO t_410 hq_152
  have t_408 : pN S_160 q_1 = 600 := ((hK_161 q_1 t_411.1).2 (At_ne t_411 ha_158 (by decide))).2.2.2.1.trans t_407
  clear t_407
  have t_412 : pN S_175 q_1 = 600 := tN_sR eS_175 t_408
  clear t_408
  have t_414 : At S_160 q_1 36 := hK_161.at ha_158 t_411 (by decide)
  have t_415 : At S_175 q_1 36 := tAt_sR eS_175 t_414
  have t_413 : pN S_182 q_1 = 600 := by rw [eS_182]; exact (pN_sN_ne (ne_of_new hq_181 t_415.1)).trans t_412
  clear t_412
  have t_416 : pN S_191 q_1 = 600 := tN_sR eS_191 t_413
  clear t_413
  have t_418 : At S_182 q_1 36 := by rw [eS_182]; exact At_sN t_415 hq_181
  have t_419 : At S_191 q_1 36 := tAt_sR eS_191 t_418
  have t_417 : pN S_198 q_1 = 600 := by rw [eS_198]; exact (pN_sN_ne (ne_of_new hq_197 t_419.1)).trans t_416
  clear t_416
  have t_420 : pN S_207 q_1 = 600 := tN_sR eS_207 t_417
  clear t_417
  have t_422 : pR S_33 1101 x = some q_16 := by rw [eS_33, pR_sN]; exact h_31
  have t_423 : pR S_42 1101 x = some q_16 := tR_sR eS_42 rfl t_422
  have t_424 : pR S_49 1101 x = some q_16 := by rw [eS_49]; exact (pR_sO_ne (ne_of_new hq_48 t_257.1)).trans t_423
  have t_425 : pR S_56 1101 x = some q_16 := (((hK_57 x t_259.1).2 (At_ne t_259 ha_54 (by decide))).2.2.1 1101).trans t_424
  have t_426 : pR S_69 1101 x = some q_16 := tR_sR eS_69 rfl t_425
  have t_427 : pR S_76 1101 x = some q_16 := by rw [eS_76]; exact (pR_sO_ne (ne_of_new hq_75 t_230.1)).trans t_426
  have t_428 : pR S_83 1101 x = some q_16 := (((hK_84 x t_232.1).2 (At_ne t_232 ha_81 (by decide))).2.2.1 1101).trans t_427
  have t_429 : pR S_118 1101 x = some q_16 := tR_sR eS_118 rfl t_428
  have t_430 : pR S_125 1101 x = some q_16 := by rw [eS_125]; exact (pR_sO_ne (ne_of_new hq_124 t_235.1)).trans t_429
  have t_431 : pR S_132 1101 x = some q_16 := (((hK_133 x t_237.1).2 (At_ne t_237 ha_130 (by decide))).2.2.1 1101).trans t_430
  have t_432 : pR S_146 1101 x = some q_16 := tR_sR eS_146 rfl t_431
  have t_433 : pR S_153 1101 x = some q_16 := by rw [eS_153]; exact (pR_sO_ne (ne_of_new hq_152 t_221.1)).trans t_432
  have t_434 : pR S_160 1101 x = some q_16 := (((hK_161 x t_223.1).2 (At_ne t_223 ha_158 (by decide))).2.2.1 1101).trans t_433
  have t_435 : pR S_175 1101 x = some q_16 := tR_sR eS_175 rfl t_434
  have t_436 : pR S_182 1101 x = some q_16 := by rw [eS_182, pR_sN]; exact t_435
  have t_437 : pR S_191 1101 x = some q_16 := tR_sR eS_191 rfl t_436
  have t_438 : pR S_198 1101 x = some q_16 := by rw [eS_198, pR_sN]; exact t_437
  have t_439 : pR S_207 1101 x = some q_16 := tR_sR eS_207 rfl t_438
  have t_442 : pN S_26 q_16 = 10 := tN_sR eS_26 hn_23
  clear hn_23
  have t_444 : At S_26 q_16 54 := tAt_sR eS_26 ha_22
  have t_443 : pN S_33 q_16 = 10 := by rw [eS_33]; exact (pN_sN_ne (ne_of_new hq_32 t_444.1)).trans t_442
  clear t_442
  have t_445 : pN S_42 q_16 = 10 := tN_sR eS_42 t_443
  clear t_443
  have t_446 : pN S_49 q_16 = 10 := by rw [eS_49, pN_sO]; exact t_445
  clear t_445
  have t_448 : At S_33 q_16 54 := by rw [eS_33]; exact At_sN t_444 hq_32
  have t_449 : At S_42 q_16 54 := tAt_sR eS_42 t_448
  have t_450 : At S_49 q_16 54 := by rw [eS_49]; exact At_sO t_449 hq_48
  have t_447 : pN S_56 q_16 = 10 := ((hK_57 q_16 t_450.1).2 (At_ne t_450 ha_54 (by decide))).2.2.2.1.trans t_446
  clear t_446
  have t_451 : pN S_69 q_16 = 10 := tN_sR eS_69 t_447
  clear t_447
  have t_452 : pN S_76 q_16 = 10 := by rw [eS_76, pN_sO]; exact t_451
  clear t_451
  have t_454 : At S_56 q_16 54 := hK_57.at ha_54 t_450 (by decide)
  have t_455 : At S_69 q_16 54 := tAt_sR eS_69 t_454
  have t_456 : At S_76 q_16 54 := by rw [eS_76]; exact At_sO t_455 hq_75
  have t_453 : pN S_83 q_16 = 10 := ((hK_84 q_16 t_456.1).2 (At_ne t_456 ha_81 (by decide))).2.2.2.1.trans t_452
  clear t_452
  have t_457 : pN S_118 q_16 = 10 := tN_sR eS_118 t_453
  clear t_453
  have t_458 : pN S_125 q_16 = 10 := by rw [eS_125, pN_sO]; exact t_457
  clear t_457
  have t_460 : At S_83 q_16 54 := hK_84.at ha_81 t_456 (by decide)
  have t_461 : At S_118 q_16 54 := tAt_sR eS_118 t_460
  have t_462 : At S_125 q_16 54 := by rw [eS_125]; exact At_sO t_461 hq_124
  have t_459 : pN S_132 q_16 = 10 := ((hK_133 q_16 t_462.1).2 (At_ne t_462 ha_130 (by decide))).2.2.2.1.trans t_458
  clear t_458
  have t_463 : pN S_146 q_16 = 10 := tN_sR eS_146 t_459
  clear t_459
  have t_464 : pN S_153 q_16 = 10 := by rw [eS_153, pN_sO]; exact t_463
  clear t_463
  have t_466 : At S_132 q_16 54 := hK_133.at ha_130 t_462 (by decide)
  have t_467 : At S_146 q_16 54 := tAt_sR eS_146 t_466
  have t_468 : At S_153 q_16 54 := by rw [eS_153]; exact At_sO t_467 hq_152
  have t_465 : pN S_160 q_16 = 10 := ((hK_161 q_16 t_468.1).2 (At_ne t_468 ha_158 (by decide))).2.2.2.1.trans t_464
  clear t_464
  have t_469 : pN S_175 q_16 = 10 := tN_sR eS_175 t_465
  clear t_465
  have t_471 : At S_160 q_16 54 := hK_161.at ha_158 t_468 (by decide)
  have t_472 : At S_175 q_16 54 := tAt_sR eS_175 t_471
  have t_470 : pN S_182 q_16 = 10 := by rw [eS_182]; exact (pN_sN_ne (ne_of_new hq_181 t_472.1)).trans t_469
  clear t_469
  have t_473 : pN S_191 q_16 = 10 := tN_sR eS_191 t_470
  clear t_470
  have t_475 : At S_182 q_16 54 := by rw [eS_182]; exact At_sN t_472 hq_181
  have t_476 : At S_191 q_16 54 := tAt_sR eS_191 t_475
  have t_474 : pN S_198 q_16 = 10 := by rw [eS_198]; exact (pN_sN_ne (ne_of_new hq_197 t_476.1)).trans t_473
  clear t_473
  have t_477 : pN S_207 q_16 = 10 := tN_sR eS_207 t_474
  clear t_474
  have t_479 : pR S_49 1103 x = some q_32 := by rw [eS_49]; exact (pR_sO_ne (ne_of_new hq_48 t_257.1)).trans h_47
  have t_480 : pR S_56 1103 x = some q_32 := (((hK_57 x t_259.1).2 (At_ne t_259 ha_54 (by decide))).2.2.1 1103).trans t_479
  have t_481 : pR S_69 1103 x = some q_32 := tR_sR eS_69 rfl t_480
  have t_482 : pR S_76 1103 x = some q_32 := by rw [eS_76]; exact (pR_sO_ne (ne_of_new hq_75 t_230.1)).trans t_481
  have t_483 : pR S_83 1103 x = some q_32 := (((hK_84 x t_232.1).2 (At_ne t_232 ha_81 (by decide))).2.2.1 1103).trans t_482
  have t_484 : pR S_118 1103 x = some q_32 := tR_sR eS_118 rfl t_483
  have t_485 : pR S_125 1103 x = some q_32 := by rw [eS_125]; exact (pR_sO_ne (ne_of_new hq_124 t_235.1)).trans t_484
  have t_486 : pR S_132 1103 x = some q_32 := (((hK_133 x t_237.1).2 (At_ne t_237 ha_130 (by decide))).2.2.1 1103).trans t_485
  have t_487 : pR S_146 1103 x = some q_32 := tR_sR eS_146 rfl t_486
  have t_488 : pR S_153 1103 x = some q_32 := by rw [eS_153]; exact (pR_sO_ne (ne_of_new hq_152 t_221.1)).trans t_487
  have t_489 : pR S_160 1103 x = some q_32 := (((hK_161 x t_223.1).2 (At_ne t_223 ha_158 (by decide))).2.2.1 1103).trans t_488
  have t_490 : pR S_175 1103 x = some q_32 := tR_sR eS_175 rfl t_489
  have t_491 : pR S_182 1103 x = some q_32 := by rw [eS_182, pR_sN]; exact t_490
  have t_492 : pR S_191 1103 x = some q_32 := tR_sR eS_191 rfl t_491
  have t_493 : pR S_198 1103 x = some q_32 := by rw [eS_198, pR_sN]; exact t_492
  have t_494 : pR S_207 1103 x = some q_32 := tR_sR eS_207 rfl t_493
  have t_497 : pN S_42 q_32 = 4 := tN_sR eS_42 hn_39
  clear hn_39
  have t_498 : pN S_49 q_32 = 4 := by rw [eS_49, pN_sO]; exact t_497
  clear t_497
  have t_500 : At S_42 q_32 18 := tAt_sR eS_42 ha_38
  have t_501 : At S_49 q_32 18 := by rw [eS_49]; exact At_sO t_500 hq_48
  have t_499 : pN S_56 q_32 = 4 := ((hK_57 q_32 t_501.1).2 (At_ne t_501 ha_54 (by decide))).2.2.2.1.trans t_498
  clear t_498
  have t_502 : pN S_69 q_32 = 4 := tN_sR eS_69 t_499
  clear t_499
  have t_503 : pN S_76 q_32 = 4 := by rw [eS_76, pN_sO]; exact t_502
  clear t_502
  have t_505 : At S_56 q_32 18 := hK_57.at ha_54 t_501 (by decide)
  have t_506 : At S_69 q_32 18 := tAt_sR eS_69 t_505
  have t_507 : At S_76 q_32 18 := by rw [eS_76]; exact At_sO t_506 hq_75
  have t_504 : pN S_83 q_32 = 4 := ((hK_84 q_32 t_507.1).2 (At_ne t_507 ha_81 (by decide))).2.2.2.1.trans t_503
  clear t_503
  have t_508 : pN S_118 q_32 = 4 := tN_sR eS_118 t_504
  clear t_504
  have t_509 : pN S_125 q_32 = 4 := by rw [eS_125, pN_sO]; exact t_508
  clear t_508
  have t_511 : At S_83 q_32 18 := hK_84.at ha_81 t_507 (by decide)
  have t_512 : At S_118 q_32 18 := tAt_sR eS_118 t_511
  have t_513 : At S_125 q_32 18 := by rw [eS_125]; exact At_sO t_512 hq_124
  have t_510 : pN S_132 q_32 = 4 := ((hK_133 q_32 t_513.1).2 (At_ne t_513 ha_130 (by decide))).2.2.2.1.trans t_509
  clear t_509
  have t_514 : pN S_146 q_32 = 4 := tN_sR eS_146 t_510
  clear t_510
  have t_515 : pN S_153 q_32 = 4 := by rw [eS_153, pN_sO]; exact t_514
  clear t_514
  have t_517 : At S_132 q_32 18 := hK_133.at ha_130 t_513 (by decide)
  have t_518 : At S_146 q_32 18 := tAt_sR eS_146 t_517
  have t_519 : At S_153 q_32 18 := by rw [eS_153]; exact At_sO t_518 hq_152
  have t_516 : pN S_160 q_32 = 4 := ((hK_161 q_32 t_519.1).2 (At_ne t_519 ha_158 (by decide))).2.2.2.1.trans t_515
  clear t_515
  have t_520 : pN S_175 q_32 = 4 := tN_sR eS_175 t_516
  clear t_516
  have t_522 : At S_160 q_32 18 := hK_161.at ha_158 t_519 (by decide)
  have t_523 : At S_175 q_32 18 := tAt_sR eS_175 t_522
  have t_521 : pN S_182 q_32 = 4 := by rw [eS_182]; exact (pN_sN_ne (ne_of_new hq_181 t_523.1)).trans t_520
  clear t_520
  have t_524 : pN S_191 q_32 = 4 := tN_sR eS_191 t_521
  clear t_521
  have t_526 : At S_182 q_32 18 := by rw [eS_182]; exact At_sN t_523 hq_181
  have t_527 : At S_191 q_32 18 := tAt_sR eS_191 t_526
  have t_525 : pN S_198 q_32 = 4 := by rw [eS_198]; exact (pN_sN_ne (ne_of_new hq_197 t_527.1)).trans t_524
  clear t_524
  have t_528 : pN S_207 q_32 = 4 := tN_sR eS_207 t_525
  clear t_525
  have t_532 : pR S_125 1106 x = some q_75 := by rw [eS_125]; exact (pR_sO_ne (ne_of_new hq_124 t_235.1)).trans h_123
  have t_533 : pR S_132 1106 x = some q_75 := (((hK_133 x t_237.1).2 (At_ne t_237 ha_130 (by decide))).2.2.1 1106).trans t_532
  have t_534 : pR S_146 1106 x = some q_75 := tR_sR eS_146 rfl t_533
  have t_535 : pR S_153 1106 x = some q_75 := by rw [eS_153]; exact (pR_sO_ne (ne_of_new hq_152 t_221.1)).trans t_534
  have t_536 : pR S_160 1106 x = some q_75 := (((hK_161 x t_223.1).2 (At_ne t_223 ha_158 (by decide))).2.2.1 1106).trans t_535
  have t_537 : pR S_175 1106 x = some q_75 := tR_sR eS_175 rfl t_536
  have t_538 : pR S_182 1106 x = some q_75 := by rw [eS_182, pR_sN]; exact t_537
  have t_539 : pR S_191 1106 x = some q_75 := tR_sR eS_191 rfl t_538
  have t_540 : pR S_198 1106 x = some q_75 := by rw [eS_198, pR_sN]; exact t_539
  have t_541 : pR S_207 1106 x = some q_75 := tR_sR eS_207 rfl t_540
  have t_550 : pN S_191 q_181 = 16 := tN_sR eS_191 hn_188
  clear hn_188
  have t_552 : At S_191 q_181 17 := tAt_sR eS_191 ha_187
  have t_551 : pN S_198 q_181 = 16 := by rw [eS_198]; exact (pN_sN_ne (ne_of_new hq_197 t_552.1)).trans t_550
  clear t_550
  have t_553 : pN S_207 q_181 = 16 := tN_sR eS_207 t_551
  clear t_551
  have t_557 : pN S_207 q_197 = 60 := tN_sR eS_207 hn_204
  clear hn_204
  have t_559 : pR S_118 601 q_75 = some q_94 := tR_sR eS_118 rfl h_95
  have t_561 : At S_118 q_75 6 := tAt_sR eS_118 ha_86
  have t_560 : pR S_125 601 q_75 = some q_94 := by rw [eS_125]; exact (pR_sO_ne (ne_of_new hq_124 t_561.1)).trans t_559
  have t_563 : At S_125 q_75 6 := by rw [eS_125]; exact At_sO t_561 hq_124
  have t_562 : pR S_132 601 q_75 = some q_94 := (((hK_133 q_75 t_563.1).2 (At_ne t_563 ha_130 (by decide))).2.2.1 601).trans t_560
  have t_564 : pR S_146 601 q_75 = some q_94 := tR_sR eS_146 rfl t_562
  have t_566 : At S_132 q_75 6 := hK_133.at ha_130 t_563 (by decide)
  have t_567 : At S_146 q_75 6 := tAt_sR eS_146 t_566
  have t_565 : pR S_153 601 q_75 = some q_94 := by rw [eS_153]; exact (pR_sO_ne (ne_of_new hq_152 t_567.1)).trans t_564
  have t_569 : At S_153 q_75 6 := by rw [eS_153]; exact At_sO t_567 hq_152
  have t_568 : pR S_160 601 q_75 = some q_94 := (((hK_161 q_75 t_569.1).2 (At_ne t_569 ha_158 (by decide))).2.2.1 601).trans t_565
  have t_570 : pR S_175 601 q_75 = some q_94 := tR_sR eS_175 rfl t_568
  have t_571 : pR S_182 601 q_75 = some q_94 := by rw [eS_182, pR_sN]; exact t_570
  have t_572 : pR S_191 601 q_75 = some q_94 := tR_sR eS_191 rfl t_571
  have t_573 : pR S_198 601 q_75 = some q_94 := by rw [eS_198, pR_sN]; exact t_572
  have t_574 : pR S_207 601 q_75 = some q_94 := tR_sR eS_207 rfl t_573
  have t_577 : pN S_118 q_94 = 12 := tN_sR eS_118 h_97
  clear h_97
  have t_578 : pN S_125 q_94 = 12 := by rw [eS_125, pN_sO]; exact t_577
  clear t_577
  have t_580 : At S_118 q_94 134 := tAt_sR eS_118 h_96
  have t_581 : At S_125 q_94 134 := by rw [eS_125]; exact At_sO t_580 hq_124
  have t_579 : pN S_132 q_94 = 12 := ((hK_133 q_94 t_581.1).2 (At_ne t_581 ha_130 (by decide))).2.2.2.1.trans t_578
  clear t_578
  have t_582 : pN S_146 q_94 = 12 := tN_sR eS_146 t_579
  clear t_579
  have t_583 : pN S_153 q_94 = 12 := by rw [eS_153, pN_sO]; exact t_582
  clear t_582
  have t_585 : At S_132 q_94 134 := hK_133.at ha_130 t_581 (by decide)
  have t_586 : At S_146 q_94 134 := tAt_sR eS_146 t_585
  have t_587 : At S_153 q_94 134 := by rw [eS_153]; exact At_sO t_586 hq_152
  have t_584 : pN S_160 q_94 = 12 := ((hK_161 q_94 t_587.1).2 (At_ne t_587 ha_158 (by decide))).2.2.2.1.trans t_583
  clear t_583
  have t_588 : pN S_175 q_94 = 12 := tN_sR eS_175 t_584
  clear t_584
  have t_590 : At S_160 q_94 134 := hK_161.at ha_158 t_587 (by decide)
  have t_591 : At S_175 q_94 134 := tAt_sR eS_175 t_590
  have t_589 : pN S_182 q_94 = 12 := by rw [eS_182]; exact (pN_sN_ne (ne_of_new hq_181 t_591.1)).trans t_588
  clear t_588
  have t_592 : pN S_191 q_94 = 12 := tN_sR eS_191 t_589
  clear t_589
  have t_594 : At S_182 q_94 134 := by rw [eS_182]; exact At_sN t_591 hq_181
  have t_595 : At S_191 q_94 134 := tAt_sR eS_191 t_594
  have t_593 : pN S_198 q_94 = 12 := by rw [eS_198]; exact (pN_sN_ne (ne_of_new hq_197 t_595.1)).trans t_592
  clear t_592
  have t_596 : pN S_207 q_94 = 12 := tN_sR eS_207 t_593
  clear t_593
  have t_598 : pR S_118 602 q_75 = some q_98 := tR_sR eS_118 rfl h_99
  have t_599 : pR S_125 602 q_75 = some q_98 := by rw [eS_125]; exact (pR_sO_ne (ne_of_new hq_124 t_561.1)).trans t_598
  have t_600 : pR S_132 602 q_75 = some q_98 := (((hK_133 q_75 t_563.1).2 (At_ne t_563 ha_130 (by decide))).2.2.1 602).trans t_599
  have t_601 : pR S_146 602 q_75 = some q_98 := tR_sR eS_146 rfl t_600
  have t_602 : pR S_153 602 q_75 = some q_98 := by rw [eS_153]; exact (pR_sO_ne (ne_of_new hq_152 t_567.1)).trans t_601
  have t_603 : pR S_160 602 q_75 = some q_98 := (((hK_161 q_75 t_569.1).2 (At_ne t_569 ha_158 (by decide))).2.2.1 602).trans t_602
  have t_604 : pR S_175 602 q_75 = some q_98 := tR_sR eS_175 rfl t_603
  have t_605 : pR S_182 602 q_75 = some q_98 := by rw [eS_182, pR_sN]; exact t_604
  have t_606 : pR S_191 602 q_75 = some q_98 := tR_sR eS_191 rfl t_605
  have t_607 : pR S_198 602 q_75 = some q_98 := by rw [eS_198, pR_sN]; exact t_606
  have t_608 : pR S_207 602 q_75 = some q_98 := tR_sR eS_207 rfl t_607
  have t_611 : pN S_118 q_98 = 12 := tN_sR eS_118 h_101
  clear h_101
  have t_612 : pN S_125 q_98 = 12 := by rw [eS_125, pN_sO]; exact t_611
  clear t_611
  have t_614 : At S_118 q_98 134 := tAt_sR eS_118 h_100
  have t_615 : At S_125 q_98 134 := by rw [eS_125]; exact At_sO t_614 hq_124
  have t_613 : pN S_132 q_98 = 12 := ((hK_133 q_98 t_615.1).2 (At_ne t_615 ha_130 (by decide))).2.2.2.1.trans t_612
  clear t_612
  have t_616 : pN S_146 q_98 = 12 := tN_sR eS_146 t_613
  clear t_613
  have t_617 : pN S_153 q_98 = 12 := by rw [eS_153, pN_sO]; exact t_616
  clear t_616
  have t_619 : At S_132 q_98 134 := hK_133.at ha_130 t_615 (by decide)
  have t_620 : At S_146 q_98 134 := tAt_sR eS_146 t_619
  have t_621 : At S_153 q_98 134 := by rw [eS_153]; exact At_sO t_620 hq_152
  have t_618 : pN S_160 q_98 = 12 := ((hK_161 q_98 t_621.1).2 (At_ne t_621 ha_158 (by decide))).2.2.2.1.trans t_617
  clear t_617
  have t_622 : pN S_175 q_98 = 12 := tN_sR eS_175 t_618
  clear t_618
  have t_624 : At S_160 q_98 134 := hK_161.at ha_158 t_621 (by decide)
  have t_625 : At S_175 q_98 134 := tAt_sR eS_175 t_624
  have t_623 : pN S_182 q_98 = 12 := by rw [eS_182]; exact (pN_sN_ne (ne_of_new hq_181 t_625.1)).trans t_622
  clear t_622
  have t_626 : pN S_191 q_98 = 12 := tN_sR eS_191 t_623
  clear t_623
  have t_628 : At S_182 q_98 134 := by rw [eS_182]; exact At_sN t_625 hq_181
  have t_629 : At S_191 q_98 134 := tAt_sR eS_191 t_628
  have t_627 : pN S_198 q_98 = 12 := by rw [eS_198]; exact (pN_sN_ne (ne_of_new hq_197 t_629.1)).trans t_626
  clear t_626
  have t_630 : pN S_207 q_98 = 12 := tN_sR eS_207 t_627
  clear t_627
  have t_632 : pR S_118 604 q_75 = some q_102 := tR_sR eS_118 rfl h_103
  have t_633 : pR S_125 604 q_75 = some q_102 := by rw [eS_125]; exact (pR_sO_ne (ne_of_new hq_124 t_561.1)).trans t_632
  have t_634 : pR S_132 604 q_75 = some q_102 := (((hK_133 q_75 t_563.1).2 (At_ne t_563 ha_130 (by decide))).2.2.1 604).trans t_633
  have t_635 : pR S_146 604 q_75 = some q_102 := tR_sR eS_146 rfl t_634
  have t_636 : pR S_153 604 q_75 = some q_102 := by rw [eS_153]; exact (pR_sO_ne (ne_of_new hq_152 t_567.1)).trans t_635
  have t_637 : pR S_160 604 q_75 = some q_102 := (((hK_161 q_75 t_569.1).2 (At_ne t_569 ha_158 (by decide))).2.2.1 604).trans t_636
  have t_638 : pR S_175 604 q_75 = some q_102 := tR_sR eS_175 rfl t_637
  have t_639 : pR S_182 604 q_75 = some q_102 := by rw [eS_182, pR_sN]; exact t_638
  have t_640 : pR S_191 604 q_75 = some q_102 := tR_sR eS_191 rfl t_639
  have t_641 : pR S_198 604 q_75 = some q_102 := by rw [eS_198, pR_sN]; exact t_640
  have t_642 : pR S_207 604 q_75 = some q_102 := tR_sR eS_207 rfl t_641
  have t_645 : pN S_118 q_102 = 48 := tN_sR eS_118 h_105
  clear h_105
  have t_646 : pN S_125 q_102 = 48 := by rw [eS_125, pN_sO]; exact t_645
  clear t_645
  have t_648 : At S_118 q_102 134 := tAt_sR eS_118 h_104
  have t_649 : At S_125 q_102 134 := by rw [eS_125]; exact At_sO t_648 hq_124
  have t_647 : pN S_132 q_102 = 48 := ((hK_133 q_102 t_649.1).2 (At_ne t_649 ha_130 (by decide))).2.2.2.1.trans t_646
  clear t_646
  have t_650 : pN S_146 q_102 = 48 := tN_sR eS_146 t_647
  clear t_647
  have t_651 : pN S_153 q_102 = 48 := by rw [eS_153, pN_sO]; exact t_650
  clear t_650
  have t_653 : At S_132 q_102 134 := hK_133.at ha_130 t_649 (by decide)
  have t_654 : At S_146 q_102 134 := tAt_sR eS_146 t_653
  have t_655 : At S_153 q_102 134 := by rw [eS_153]; exact At_sO t_654 hq_152
  have t_652 : pN S_160 q_102 = 48 := ((hK_161 q_102 t_655.1).2 (At_ne t_655 ha_158 (by decide))).2.2.2.1.trans t_651
  clear t_651
  have t_656 : pN S_175 q_102 = 48 := tN_sR eS_175 t_652
  clear t_652
  have t_658 : At S_160 q_102 134 := hK_161.at ha_158 t_655 (by decide)
  have t_659 : At S_175 q_102 134 := tAt_sR eS_175 t_658
  have t_657 : pN S_182 q_102 = 48 := by rw [eS_182]; exact (pN_sN_ne (ne_of_new hq_181 t_659.1)).trans t_656
  clear t_656
  have t_660 : pN S_191 q_102 = 48 := tN_sR eS_191 t_657
  clear t_657
  have t_662 : At S_182 q_102 134 := by rw [eS_182]; exact At_sN t_659 hq_181
  have t_663 : At S_191 q_102 134 := tAt_sR eS_191 t_662
  have t_661 : pN S_198 q_102 = 48 := by rw [eS_198]; exact (pN_sN_ne (ne_of_new hq_197 t_663.1)).trans t_660
  clear t_660
  have t_664 : pN S_207 q_102 = 48 := tN_sR eS_207 t_661
  clear t_661
  have t_666 : pR S_118 605 q_75 = some q_106 := tR_sR eS_118 rfl h_107
  have t_667 : pR S_125 605 q_75 = some q_106 := by rw [eS_125]; exact (pR_sO_ne (ne_of_new hq_124 t_561.1)).trans t_666
  have t_668 : pR S_132 605 q_75 = some q_106 := (((hK_133 q_75 t_563.1).2 (At_ne t_563 ha_130 (by decide))).2.2.1 605).trans t_667
  have t_669 : pR S_146 605 q_75 = some q_106 := tR_sR eS_146 rfl t_668
  have t_670 : pR S_153 605 q_75 = some q_106 := by rw [eS_153]; exact (pR_sO_ne (ne_of_new hq_152 t_567.1)).trans t_669
  have t_671 : pR S_160 605 q_75 = some q_106 := (((hK_161 q_75 t_569.1).2 (At_ne t_569 ha_158 (by decide))).2.2.1 605).trans t_670
  have t_672 : pR S_175 605 q_75 = some q_106 := tR_sR eS_175 rfl t_671
  have t_673 : pR S_182 605 q_75 = some q_106 := by rw [eS_182, pR_sN]; exact t_672
  have t_674 : pR S_191 605 q_75 = some q_106 := tR_sR eS_191 rfl t_673
  have t_675 : pR S_198 605 q_75 = some q_106 := by rw [eS_198, pR_sN]; exact t_674
  have t_676 : pR S_207 605 q_75 = some q_106 := tR_sR eS_207 rfl t_675
  have t_679 : pN S_118 q_106 = 48 := tN_sR eS_118 h_109
  clear h_109
  have t_680 : pN S_125 q_106 = 48 := by rw [eS_125, pN_sO]; exact t_679
  clear t_679
  have t_682 : At S_118 q_106 134 := tAt_sR eS_118 h_108
  have t_683 : At S_125 q_106 134 := by rw [eS_125]; exact At_sO t_682 hq_124
  have t_681 : pN S_132 q_106 = 48 := ((hK_133 q_106 t_683.1).2 (At_ne t_683 ha_130 (by decide))).2.2.2.1.trans t_680
  clear t_680
  have t_684 : pN S_146 q_106 = 48 := tN_sR eS_146 t_681
  clear t_681
  have t_685 : pN S_153 q_106 = 48 := by rw [eS_153, pN_sO]; exact t_684
  clear t_684
  have t_687 : At S_132 q_106 134 := hK_133.at ha_130 t_683 (by decide)
  have t_688 : At S_146 q_106 134 := tAt_sR eS_146 t_687
  have t_689 : At S_153 q_106 134 := by rw [eS_153]; exact At_sO t_688 hq_152
  have t_686 : pN S_160 q_106 = 48 := ((hK_161 q_106 t_689.1).2 (At_ne t_689 ha_158 (by decide))).2.2.2.1.trans t_685
  clear t_685
  have t_690 : pN S_175 q_106 = 48 := tN_sR eS_175 t_686
  clear t_686
  have t_692 : At S_160 q_106 134 := hK_161.at ha_158 t_689 (by decide)
  have t_693 : At S_175 q_106 134 := tAt_sR eS_175 t_692
  have t_691 : pN S_182 q_106 = 48 := by rw [eS_182]; exact (pN_sN_ne (ne_of_new hq_181 t_693.1)).trans t_690
  clear t_690
  have t_694 : pN S_191 q_106 = 48 := tN_sR eS_191 t_691
  clear t_691
  have t_696 : At S_182 q_106 134 := by rw [eS_182]; exact At_sN t_693 hq_181
  have t_697 : At S_191 q_106 134 := tAt_sR eS_191 t_696
  have t_695 : pN S_198 q_106 = 48 := by rw [eS_198]; exact (pN_sN_ne (ne_of_new hq_197 t_697.1)).trans t_694
  clear t_694
  have t_698 : pN S_207 q_106 = 48 := tN_sR eS_207 t_695
  clear t_695
  have t_700 : pR S_118 606 q_75 = some q_110 := tR_sR eS_118 rfl h_111
  have t_701 : pR S_125 606 q_75 = some q_110 := by rw [eS_125]; exact (pR_sO_ne (ne_of_new hq_124 t_561.1)).trans t_700
  have t_702 : pR S_132 606 q_75 = some q_110 := (((hK_133 q_75 t_563.1).2 (At_ne t_563 ha_130 (by decide))).2.2.1 606).trans t_701
  have t_703 : pR S_146 606 q_75 = some q_110 := tR_sR eS_146 rfl t_702
  have t_704 : pR S_153 606 q_75 = some q_110 := by rw [eS_153]; exact (pR_sO_ne (ne_of_new hq_152 t_567.1)).trans t_703
  have t_705 : pR S_160 606 q_75 = some q_110 := (((hK_161 q_75 t_569.1).2 (At_ne t_569 ha_158 (by decide))).2.2.1 606).trans t_704
  have t_706 : pR S_175 606 q_75 = some q_110 := tR_sR eS_175 rfl t_705
  have t_707 : pR S_182 606 q_75 = some q_110 := by rw [eS_182, pR_sN]; exact t_706
  have t_708 : pR S_191 606 q_75 = some q_110 := tR_sR eS_191 rfl t_707
  have t_709 : pR S_198 606 q_75 = some q_110 := by rw [eS_198, pR_sN]; exact t_708
  have t_710 : pR S_207 606 q_75 = some q_110 := tR_sR eS_207 rfl t_709
  have t_713 : pN S_118 q_110 = 48 := tN_sR eS_118 h_113
  clear h_113
  have t_714 : pN S_125 q_110 = 48 := by rw [eS_125, pN_sO]; exact t_713
  clear t_713
  have t_716 : At S_118 q_110 134 := tAt_sR eS_118 h_112
  have t_717 : At S_125 q_110 134 := by rw [eS_125]; exact At_sO t_716 hq_124
  have t_715 : pN S_132 q_110 = 48 := ((hK_133 q_110 t_717.1).2 (At_ne t_717 ha_130 (by decide))).2.2.2.1.trans t_714
  clear t_714
  have t_718 : pN S_146 q_110 = 48 := tN_sR eS_146 t_715
  clear t_715
  have t_719 : pN S_153 q_110 = 48 := by rw [eS_153, pN_sO]; exact t_718
  clear t_718
  have t_721 : At S_132 q_110 134 := hK_133.at ha_130 t_717 (by decide)
  have t_722 : At S_146 q_110 134 := tAt_sR eS_146 t_721
  have t_723 : At S_153 q_110 134 := by rw [eS_153]; exact At_sO t_722 hq_152
  have t_720 : pN S_160 q_110 = 48 := ((hK_161 q_110 t_723.1).2 (At_ne t_723 ha_158 (by decide))).2.2.2.1.trans t_719
  clear t_719
  have t_724 : pN S_175 q_110 = 48 := tN_sR eS_175 t_720
  clear t_720
  have t_726 : At S_160 q_110 134 := hK_161.at ha_158 t_723 (by decide)
  have t_727 : At S_175 q_110 134 := tAt_sR eS_175 t_726
  have t_725 : pN S_182 q_110 = 48 := by rw [eS_182]; exact (pN_sN_ne (ne_of_new hq_181 t_727.1)).trans t_724
  clear t_724
  have t_728 : pN S_191 q_110 = 48 := tN_sR eS_191 t_725
  clear t_725
  have t_730 : At S_182 q_110 134 := by rw [eS_182]; exact At_sN t_727 hq_181
  have t_731 : At S_191 q_110 134 := tAt_sR eS_191 t_730
  have t_729 : pN S_198 q_110 = 48 := by rw [eS_198]; exact (pN_sN_ne (ne_of_new hq_197 t_731.1)).trans t_728
  clear t_728
  have t_732 : pN S_207 q_110 = 48 := tN_sR eS_207 t_729
  clear t_729
  have L_215 : ∀ (n : Nat) (T_217 : PS) (H : Heap) (locs : List Loc) (ls : Array Slot) (i1_216 : Int32) (i1_216_z : Int) (cc_736 nn_737 : Nat), ((16 - i1_216_z).toNat = n) → (Wd G cy (AS S s.heap.size) s.heap T_217 H locs) → (i1_216.toInt = i1_216_z) → (0 ≤ i1_216_z ∧ i1_216_z ≤ 16) → (At T_217 x 191) → (Kq S T_217 x) → (GX T_217) → (Phc T_217 = Phc S + 320) → (Phs T_217 = Phs S + 604000) → (ShI T_217 q_181 i1_216_z) → (pI T_217 1102 x = 0) → (pI T_217 1104 x = 0) → (pI T_217 801 q_124 = 0) → (pI T_217 1000 q_48 = 0) → (pI T_217 800 q_124 = 0) → (pI T_217 101 q_152 = 0) → (pI T_217 102 q_152 = 0) → (pI T_217 103 q_152 = 0) → (pR T_217 1100 x = some q_1) → (At T_217 q_1 36) → (pN T_217 q_1 = 600) → (pR T_217 1101 x = some q_16) → (At T_217 q_16 54) → (pN T_217 q_16 = 10) → (pR T_217 1103 x = some q_32) → (At T_217 q_32 18) → (pN T_217 q_32 = 4) → (pR T_217 1105 x = some q_48) → (At T_217 q_48 10) → (pR T_217 1106 x = some q_75) → (At T_217 q_75 6) → (pR T_217 1107 x = some q_124) → (At T_217 q_124 8) → (pR T_217 1108 x = some q_152) → (At T_217 q_152 1) → (pR T_217 1109 x = some q_181) → (At T_217 q_181 17) → (pN T_217 q_181 = 16) → (pR T_217 1111 x = some q_197) → (At T_217 q_197 194) → (pN T_217 q_197 = 60) → (pR T_217 601 q_75 = some q_94) → (At T_217 q_94 134) → (pN T_217 q_94 = 12) → (pR T_217 602 q_75 = some q_98) → (At T_217 q_98 134) → (pN T_217 q_98 = 12) → (pR T_217 604 q_75 = some q_102) → (At T_217 q_102 134) → (pN T_217 q_102 = 48) → (pR T_217 605 q_75 = some q_106) → (At T_217 q_106 134) → (pN T_217 q_106 = 48) → (pR T_217 606 q_75 = some q_110) → (At T_217 q_110 134) → (pN T_217 q_110 = 48) → (pR T_217 1108 x = some q_152) → (At T_217 q_152 1) → (cc_736 = 26 + 2 * (i1_216_z).toNat) → (nn_737 = 1520 + 13 * (i1_216_z).toNat) → (lv_has ls 2 [(1, .int (i1_216)), (0, .ref x)]) → W p l e ({ frames := 4, cells := 58, slots := 1728, locals := 192 }) s m [.ref x].toArray below meth c H locs cc_736 nn_737 QQ (F0 m 93 ls []) := by
    intro n
    induction n using Nat.strongRecOn with
    | ind n ih =>
    intro T_217 H locs ls i1_216 i1_216_z cc_736 nn_737 hn hw hz_i1_216 hr_i1_216 ha_x_L_218 hK_T_217 hg_T_217 hpc_T_217 hps_T_217 iv_219 ik_274 ik_297 ik_308 ik_331 ik_340 ik_346 ik_352 ik_358 ik_379 ik_380 ik_421 ik_440 ik_441 ik_478 ik_495 ik_496 ik_529 ik_530 ik_531 ik_542 ik_543 ik_544 ik_545 ik_546 ik_547 ik_548 ik_549 ik_554 ik_555 ik_556 ik_558 ik_575 ik_576 ik_597 ik_609 ik_610 ik_631 ik_643 ik_644 ik_665 ik_677 ik_678 ik_699 ik_711 ik_712 ik_733 ik_734 ik_735 hcc_738 hnn_739 hl
    have rg_740 : (-2147483648) ≤ i1_216_z ∧ i1_216_z ≤ 2147483647 := by rw [← hz_i1_216]; exact ⟨z_lo _, z_hi _⟩
    refine lv_iload_n X.1 X.2.1 dX11_init_93 rfl (lv_at hl 0 rfl) ?_
    refine lv_bipush (v := 16) X.1 X.2.1 dX11_init_94 (by decide) ?_
    refine lv_icmp_ge (tgt := 118) X.1 X.2.1 dX11_init_96 (by decide) (fun c_741 => ?_) (fun c_741 => ?_)
    · have z_b_742 := trivial
      have k_743 : i1_216_z ≥ 16 := z_le ti_16 hz_i1_216 c_741
      have nd_744 := nodup_of hw
      obtain ⟨S_745, eS_745⟩ : ∃ T, T = sK T_217 x 11 := ⟨_, rfl⟩
      have hw := Wd_sK (k := 11) hw ha_x_L_218 rfl; rw [← eS_745] at hw
      have hg9 : GX S_745 := by rw [eS_745]; exact GX_sK hg_T_217 ha_x_L_218 (by decide +kernel) (mk_11 ⟨q_1, (by rw [pR_sK]; exact ik_379), At_sK ha_x_L_218 ik_380 (by decide), by rw [pN_sK]; exact ik_421⟩ ⟨q_16, (by rw [pR_sK]; exact ik_440), At_sK ha_x_L_218 ik_441 (by decide), by rw [pN_sK]; exact ik_478⟩ (by rw [pI_sK, ik_274]; exact ⟨by rw [ti_0]; omega, by rw [ti_0]; omega⟩) ⟨q_32, (by rw [pR_sK]; exact ik_495), At_sK ha_x_L_218 ik_496 (by decide), by rw [pN_sK]; exact ik_529⟩ (by rw [pI_sK, ik_297]; exact ⟨by rw [ti_0]; omega, by rw [ti_0]; omega⟩) ⟨q_48, (by rw [pR_sK]; exact ik_530), At_sK ha_x_L_218 ik_531 (by decide)⟩ ⟨q_75, (by rw [pR_sK]; exact ik_542), At_sK ha_x_L_218 ik_543 (by decide)⟩ ⟨q_124, (by rw [pR_sK]; exact ik_544), At_sK ha_x_L_218 ik_545 (by decide)⟩ ⟨q_152, (by rw [pR_sK]; exact ik_734), At_sK ha_x_L_218 ik_735 (by decide)⟩ ⟨q_181, (by rw [pR_sK]; exact ik_548), At_sK ha_x_L_218 ik_549 (by decide), by rw [pN_sK]; exact ik_554⟩ ⟨q_197, (by rw [pR_sK]; exact ik_555), At_sK ha_x_L_218 ik_556 (by decide), by rw [pN_sK]; exact ik_558⟩)
      have ha9 : At S_745 x 11 := by rw [eS_745]; exact At_nK ha_x_L_218
      have hk9 : Kq S S_745 x := hK_T_217.sK eS_745
      have hPhc9 : Phc S_745 = Phc S + 57920 := by rw [show Phc S_745 = Ph fC 8 14400 S_745 from rfl, Ph_sK nd_744 ha_x_L_218 (by decide) eS_745, ph_11 ha9 (show pI S_745 1104 x = 0 by rw [eS_745, pI_sK]; exact ik_297)]; show Phc T_217 + _ = _; omega
      have hPhs9 : Phs S_745 = Phs S + 788000 := by rw [show Phs S_745 = Ph fS 15100 46000 S_745 from rfl, Ph_sK nd_744 ha_x_L_218 (by decide) eS_745, ph_11 ha9 (show pI S_745 1104 x = 0 by rw [eS_745, pI_sK]; exact ik_297)]; show Phs T_217 + _ = _; omega
      rw [hQQ]
      exact ret_v X hw hr hlocks (by show cc_736 ≤ 58; omega) (by show nn_737 ≤ 1728; omega) ⟨hk9, hg9, ha9, hPhc9, hPhs9, ⟨q_124, by rw [eS_745, pR_sK]; exact ik_544, by rw [eS_745]; exact At_sK ha_x_L_218 ik_545 (by decide), by rw [eS_745, pI_sK]; exact ik_308, by rw [eS_745, pI_sK]; exact ik_274, by rw [eS_745, pI_sK]; exact ik_297, q_48, by rw [eS_745, pR_sK]; exact ik_530, by rw [eS_745]; exact At_sK ha_x_L_218 ik_531 (by decide), by rw [eS_745, pI_sK]; exact ik_331, q_181, by rw [eS_745, pR_sK]; exact ik_548, by rw [eS_745, show (16 : Int) = i1_216_z by omega]; exact ShI_sK ha_x_L_218 (by decide) iv_219, ⟨(by rw [eS_745, pI_sK]; exact ik_340), ⟨q_152, by rw [eS_745, pR_sK]; exact ik_734, by rw [eS_745]; exact At_sK ha_x_L_218 ik_735 (by decide), by rw [eS_745, pI_sK]; exact ik_346, by rw [eS_745, pI_sK]; exact ik_352, by rw [eS_745, pI_sK]; exact ik_358⟩⟩, q_75, by rw [eS_745, pR_sK]; exact ik_542, ⟨q_94, q_98, q_102, q_106, q_110, ⟨by rw [eS_745, pR_sK]; exact ik_575, by rw [eS_745, pR_sK]; exact ik_609, by rw [eS_745, pR_sK]; exact ik_643, by rw [eS_745, pR_sK]; exact ik_677, by rw [eS_745, pR_sK]; exact ik_711⟩, rd_114⟩⟩⟩ dX11_init_118
    · have z_b_746 := trivial
      have k_747 : i1_216_z < 16 := z_nle ti_16 hz_i1_216 c_741
      refine lv_aload_n X.1 X.2.1 dX11_init_99 rfl (lv_at hl 1 rfl) ?_
      refine r_getR (g := 1109) X hw ha_x_L_218 rfl 9 ik_548 (by decide) rfl inn_X11_init_11 (by decide) (X.2.2.2.1 (.fieldLink RX11 55 "SilkMill" "shelf" "[LSilkMill$Place;") (by decide +kernel)) rfl (gv_1109 _ _) dX11_init_100 ?_
      refine lv_iload_n X.1 X.2.1 dX11_init_103 rfl (lv_at hl 0 rfl) ?_
      refine r_new X hw 183 3 (nn_737 + 5) (cc_736 + 1) rfl tyX3 (by decide) rfl inn_X11_init_3 tyX3_ok (X.2.2.2.1 (.classLink RX11 53 RX3) (by decide +kernel)) (X.2.2.2.1 (.instantiable RX3 5) (by decide +kernel)) (X.2.2.2.1 (.initialized RX3) (by decide +kernel)) (zo_3 _) zd_3 (by show cc_736 + 1 ≤ (cc_736 + 1); omega) (by show nn_737 + 5 ≤ (nn_737 + 5); omega) (by show (cc_736 + 1) ≤ 58; omega) (by show (nn_737 + 5) ≤ 1728; omega) dX11_init_104 (fun q_748 H hq_748 hw => ?_)
      obtain ⟨S_749, eS_749⟩ : ∃ T, T = sO T_217 q_748 183 := ⟨_, rfl⟩
      rw [← eS_749] at hw
      have ph_750 : Phc S_749 = Phc S + 320 := (show Phc S_749 = Phc T_217 from Ph_sO hg_T_217 hq_748 eS_749 (by decide)).trans hpc_T_217
      have ph_751 : Phs S_749 = Phs S + 604000 := (show Phs S_749 = Phs T_217 from Ph_sO hg_T_217 hq_748 eS_749 (by decide)).trans hps_T_217
      clear hpc_T_217
      clear hps_T_217
      have hK_752 : Kq S S_749 x := hK_T_217.sO hq_748 eS_749
      have hg_753 : GX S_749 := by rw [eS_749]; exact GX_O hg_T_217 hq_748 (by decide +kernel)
      have hn0_q_748 := hK_T_217.new hq_748
      have ha_754 : At S_749 q_748 183 := by rw [eS_749]; exact At_nO _ _ _
      have hzI_q_748 : ∀ g, pI S_749 g q_748 = 0 := fun g => by rw [eS_749]; exact pI_sO_new
      have hzR_q_748 : ∀ g, pR S_749 g q_748 = none := fun g => by rw [eS_749]; exact if_pos rfl
      refine lv_dup X.1 X.2.1 dX11_init_107 rfl ?_
      refine k_v (rm := { frames := 2, cells := 1, slots := 8, locals := 96 }) (av := [.ref q_748]) X hw (va_runIN (As := []) (rest := [.ref q_748, .int (i1_216), .ref q_181]) (cfix X) (k_X3_init3 l G cy κ S_749 _ q_748 hg_753 ha_754 hzI_q_748 hzR_q_748) ⟨(va_cnB (host := RX11) 0 X.2.2.2.1 gX11_init_X3_init_n62 rfl rfl rfl (X.2.2.2.2.2.2.2.1.2.1 (RX11, 62, yX3_init) (by decide +kernel)) (X.2.2.2.1 (.initialized RX3) (by decide +kernel)) (by decide +kernel) ⟨Nat.le_of_ble_eq_true rfl, Nat.le_of_ble_eq_true rfl⟩), rfl, (X.2.2.2.1 (.instanceMethod yX3_init) (by decide +kernel))⟩ (pre_S X hw _) rfl rfl hl.1 rfl (lv_room (Nat.le_of_ble_eq_true rfl)) dX11_init_108 ⟨(by show (cc_736 + 1) + 1 ≤ 58; omega), (by show (nn_737 + 5) + 8 ≤ 1728; omega)⟩) ((cc_736 + 1) + 1) ((nn_737 + 5) + 8) (by show (cc_736 + 1) + 1 ≤ ((cc_736 + 1) + 1); omega) (by show (nn_737 + 5) + 8 ≤ ((nn_737 + 5) + 8); omega) (fun S_756 H locs hp hw hfr hnw => ?_)
      obtain ⟨hK_757, hg_758, ha_759, ph_760, ph_761, kx_762, kx_763, kx_764, kx_765, kx_766⟩ := hp
      have hK_767 : Kq S S_756 x := hK_752.sub hn0_q_748 hK_757
      have ph_768 : Phc S_756 = Phc S + 320 := by omega
      have ph_769 : Phs S_756 = Phs S + 604000 := by omega
      clear ph_750
      clear ph_751
      clear ph_760
      clear ph_761
      have t_770 : At S_749 q_181 17 := by rw [eS_749]; exact At_sO ik_549 hq_748
      have t_771 : At S_756 q_181 17 := hK_757.at ha_754 t_770 (by decide)
      have t_772 : pN S_749 q_181 = 16 := by rw [eS_749, pN_sO]; exact ik_554
      have t_774 : At S_749 q_181 17 := by rw [eS_749]; exact At_sO ik_549 hq_748
      have t_773 : pN S_756 q_181 = 16 := ((hK_757 q_181 t_774.1).2 (At_ne t_774 ha_754 (by decide))).2.2.2.1.trans t_772
      clear t_772
      refine r_aast X hw t_771 rfl ha_759 rfl (by decide) (by decide) rfl rfl (by rw [t_773]; exact z_ix hz_i1_216 (by omega) (by omega)) dX11_init_111 (fun H locs hw => ?_)
      obtain ⟨S_775, eS_775⟩ : ∃ T, T = sB S_756 q_181 (va_up (pB S_756 q_181) (Int32.toNatClampNeg (i1_216)) (some q_748)) := ⟨_, rfl⟩
      rw [← eS_775] at hw
      have ph_776 : Phc S_775 = Phc S + 320 := (show Phc S_775 = Phc S_756 from Ph_sB eS_775).trans ph_768
      have ph_777 : Phs S_775 = Phs S + 604000 := (show Phs S_775 = Phs S_756 from Ph_sB eS_775).trans ph_769
      clear ph_768
      clear ph_769
      have hK_778 : Kq S S_775 x := hK_767.sB hn0_q_181 eS_775
      have hg_779 : GX S_775 := by rw [eS_775]; exact uB_17 hg_758 t_771 (fun q hq => by cases hq; exact ha_759)
      have zn_781 := z_nat (x := i1_216) hz_i1_216 (by omega)
      have sh_780 : ShI S_775 q_181 (i1_216_z + 1) := ShI_step iv_219 hq_748 eS_749 hK_757 eS_775 ik_549.1 (by omega) ha_759 kx_762 kx_764 kx_765 kx_766
      obtain ⟨x_782, ex_782⟩ : ∃ y : Int32, y = i1_216 + 1 := ⟨_, rfl⟩
      have z_783 : x_782.toInt = i1_216_z + 1 := z_add ex_782 hz_i1_216 ti_1 (by omega) (by omega)
      refine lv_iinc (v := x_782) (lv' := [(1, .int (x_782)), (0, .ref x)]) X.1 X.2.1 dX11_init_112 hl (k := 0) rfl (by rw [ex_782]; rfl) (by decide) rfl (fun ls hl => ?_)
      refine lv_goto (tgt := 93) X.1 X.2.1 dX11_init_115 (by decide) ?_
      have t_784 : At S_749 x 191 := by rw [eS_749]; exact At_sO ha_x_L_218 hq_748
      have t_785 : At S_756 x 191 := hK_757.at ha_754 t_784 (by decide)
      have t_786 : At S_775 x 191 := tAt_sB eS_775 t_785
      have t_787 : pI S_749 1102 x = 0 := by rw [eS_749]; exact (pI_sO_ne (ne_of_new hq_748 ha_x_L_218.1)).trans ik_274
      have t_789 : At S_749 x 191 := by rw [eS_749]; exact At_sO ha_x_L_218 hq_748
      have t_788 : pI S_756 1102 x = 0 := (((hK_757 x t_789.1).2 (At_ne t_789 ha_754 (by decide))).2.1 1102).trans t_787
      have t_790 : pI S_775 1102 x = 0 := tI_sB eS_775 t_788
      have t_791 : pI S_749 1104 x = 0 := by rw [eS_749]; exact (pI_sO_ne (ne_of_new hq_748 ha_x_L_218.1)).trans ik_297
      have t_792 : pI S_756 1104 x = 0 := (((hK_757 x t_789.1).2 (At_ne t_789 ha_754 (by decide))).2.1 1104).trans t_791
      have t_793 : pI S_775 1104 x = 0 := tI_sB eS_775 t_792
      have t_794 : pI S_749 801 q_124 = 0 := by rw [eS_749]; exact (pI_sO_ne (ne_of_new hq_748 ik_545.1)).trans ik_308
      have t_796 : At S_749 q_124 8 := by rw [eS_749]; exact At_sO ik_545 hq_748
      have t_795 : pI S_756 801 q_124 = 0 := (((hK_757 q_124 t_796.1).2 (At_ne t_796 ha_754 (by decide))).2.1 801).trans t_794
      have t_797 : pI S_775 801 q_124 = 0 := tI_sB eS_775 t_795
      have t_798 : pI S_749 1000 q_48 = 0 := by rw [eS_749]; exact (pI_sO_ne (ne_of_new hq_748 ik_531.1)).trans ik_331
      have t_800 : At S_749 q_48 10 := by rw [eS_749]; exact At_sO ik_531 hq_748
      have t_799 : pI S_756 1000 q_48 = 0 := (((hK_757 q_48 t_800.1).2 (At_ne t_800 ha_754 (by decide))).2.1 1000).trans t_798
      have t_801 : pI S_775 1000 q_48 = 0 := tI_sB eS_775 t_799
      have t_802 : pI S_749 800 q_124 = 0 := by rw [eS_749]; exact (pI_sO_ne (ne_of_new hq_748 ik_545.1)).trans ik_340
      have t_803 : pI S_756 800 q_124 = 0 := (((hK_757 q_124 t_796.1).2 (At_ne t_796 ha_754 (by decide))).2.1 800).trans t_802
      have t_804 : pI S_775 800 q_124 = 0 := tI_sB eS_775 t_803
      have t_805 : pI S_749 101 q_152 = 0 := by rw [eS_749]; exact (pI_sO_ne (ne_of_new hq_748 ik_735.1)).trans ik_346
      have t_807 : At S_749 q_152 1 := by rw [eS_749]; exact At_sO ik_735 hq_748
      have t_806 : pI S_756 101 q_152 = 0 := (((hK_757 q_152 t_807.1).2 (At_ne t_807 ha_754 (by decide))).2.1 101).trans t_805
      have t_808 : pI S_775 101 q_152 = 0 := tI_sB eS_775 t_806
      have t_809 : pI S_749 102 q_152 = 0 := by rw [eS_749]; exact (pI_sO_ne (ne_of_new hq_748 ik_735.1)).trans ik_352
      have t_810 : pI S_756 102 q_152 = 0 := (((hK_757 q_152 t_807.1).2 (At_ne t_807 ha_754 (by decide))).2.1 102).trans t_809
      have t_811 : pI S_775 102 q_152 = 0 := tI_sB eS_775 t_810
      have t_812 : pI S_749 103 q_152 = 0 := by rw [eS_749]; exact (pI_sO_ne (ne_of_new hq_748 ik_735.1)).trans ik_358
      have t_813 : pI S_756 103 q_152 = 0 := (((hK_757 q_152 t_807.1).2 (At_ne t_807 ha_754 (by decide))).2.1 103).trans t_812
      have t_814 : pI S_775 103 q_152 = 0 := tI_sB eS_775 t_813
      have t_815 : pR S_749 1100 x = some q_1 := by rw [eS_749]; exact (pR_sO_ne (ne_of_new hq_748 ha_x_L_218.1)).trans ik_379
      have t_816 : pR S_756 1100 x = some q_1 := (((hK_757 x t_789.1).2 (At_ne t_789 ha_754 (by decide))).2.2.1 1100).trans t_815
      have t_817 : pR S_775 1100 x = some q_1 := tR_sB eS_775 t_816
      have t_818 : At S_749 q_1 36 := by rw [eS_749]; exact At_sO ik_380 hq_748
      have t_819 : At S_756 q_1 36 := hK_757.at ha_754 t_818 (by decide)
      have t_820 : At S_775 q_1 36 := tAt_sB eS_775 t_819
      have t_821 : pN S_749 q_1 = 600 := by rw [eS_749, pN_sO]; exact ik_421
      have t_823 : At S_749 q_1 36 := by rw [eS_749]; exact At_sO ik_380 hq_748
      have t_822 : pN S_756 q_1 = 600 := ((hK_757 q_1 t_823.1).2 (At_ne t_823 ha_754 (by decide))).2.2.2.1.trans t_821
      clear t_821
      have t_824 : pN S_775 q_1 = 600 := tN_sB eS_775 t_822
      clear t_822
      have t_825 : pR S_749 1101 x = some q_16 := by rw [eS_749]; exact (pR_sO_ne (ne_of_new hq_748 ha_x_L_218.1)).trans ik_440
      have t_826 : pR S_756 1101 x = some q_16 := (((hK_757 x t_789.1).2 (At_ne t_789 ha_754 (by decide))).2.2.1 1101).trans t_825
      have t_827 : pR S_775 1101 x = some q_16 := tR_sB eS_775 t_826
      have t_828 : At S_749 q_16 54 := by rw [eS_749]; exact At_sO ik_441 hq_748
      have t_829 : At S_756 q_16 54 := hK_757.at ha_754 t_828 (by decide)
      have t_830 : At S_775 q_16 54 := tAt_sB eS_775 t_829
      have t_831 : pN S_749 q_16 = 10 := by rw [eS_749, pN_sO]; exact ik_478
      have t_833 : At S_749 q_16 54 := by rw [eS_749]; exact At_sO ik_441 hq_748
      have t_832 : pN S_756 q_16 = 10 := ((hK_757 q_16 t_833.1).2 (At_ne t_833 ha_754 (by decide))).2.2.2.1.trans t_831
      clear t_831
      have t_834 : pN S_775 q_16 = 10 := tN_sB eS_775 t_832
      clear t_832
      have t_835 : pR S_749 1103 x = some q_32 := by rw [eS_749]; exact (pR_sO_ne (ne_of_new hq_748 ha_x_L_218.1)).trans ik_495
      have t_836 : pR S_756 1103 x = some q_32 := (((hK_757 x t_789.1).2 (At_ne t_789 ha_754 (by decide))).2.2.1 1103).trans t_835
      have t_837 : pR S_775 1103 x = some q_32 := tR_sB eS_775 t_836
      have t_838 : At S_749 q_32 18 := by rw [eS_749]; exact At_sO ik_496 hq_748
      have t_839 : At S_756 q_32 18 := hK_757.at ha_754 t_838 (by decide)
      have t_840 : At S_775 q_32 18 := tAt_sB eS_775 t_839
      have t_841 : pN S_749 q_32 = 4 := by rw [eS_749, pN_sO]; exact ik_529
      have t_843 : At S_749 q_32 18 := by rw [eS_749]; exact At_sO ik_496 hq_748
      have t_842 : pN S_756 q_32 = 4 := ((hK_757 q_32 t_843.1).2 (At_ne t_843 ha_754 (by decide))).2.2.2.1.trans t_841
      clear t_841
      have t_844 : pN S_775 q_32 = 4 := tN_sB eS_775 t_842
      clear t_842
      have t_845 : pR S_749 1105 x = some q_48 := by rw [eS_749]; exact (pR_sO_ne (ne_of_new hq_748 ha_x_L_218.1)).trans ik_530
      have t_846 : pR S_756 1105 x = some q_48 := (((hK_757 x t_789.1).2 (At_ne t_789 ha_754 (by decide))).2.2.1 1105).trans t_845
      have t_847 : pR S_775 1105 x = some q_48 := tR_sB eS_775 t_846
      have t_848 : At S_756 q_48 10 := hK_757.at ha_754 t_800 (by decide)
      have t_849 : At S_775 q_48 10 := tAt_sB eS_775 t_848
      have t_850 : pR S_749 1106 x = some q_75 := by rw [eS_749]; exact (pR_sO_ne (ne_of_new hq_748 ha_x_L_218.1)).trans ik_542
      have t_851 : pR S_756 1106 x = some q_75 := (((hK_757 x t_789.1).2 (At_ne t_789 ha_754 (by decide))).2.2.1 1106).trans t_850
      have t_852 : pR S_775 1106 x = some q_75 := tR_sB eS_775 t_851
      have t_853 : At S_749 q_75 6 := by rw [eS_749]; exact At_sO ik_543 hq_748
      have t_854 : At S_756 q_75 6 := hK_757.at ha_754 t_853 (by decide)
      have t_855 : At S_775 q_75 6 := tAt_sB eS_775 t_854
      have t_856 : pR S_749 1107 x = some q_124 := by rw [eS_749]; exact (pR_sO_ne (ne_of_new hq_748 ha_x_L_218.1)).trans ik_544
      have t_857 : pR S_756 1107 x = some q_124 := (((hK_757 x t_789.1).2 (At_ne t_789 ha_754 (by decide))).2.2.1 1107).trans t_856
      have t_858 : pR S_775 1107 x = some q_124 := tR_sB eS_775 t_857
      have t_859 : At S_756 q_124 8 := hK_757.at ha_754 t_796 (by decide)
      have t_860 : At S_775 q_124 8 := tAt_sB eS_775 t_859
      have t_861 : pR S_749 1108 x = some q_152 := by rw [eS_749]; exact (pR_sO_ne (ne_of_new hq_748 ha_x_L_218.1)).trans ik_734
      have t_862 : pR S_756 1108 x = some q_152 := (((hK_757 x t_789.1).2 (At_ne t_789 ha_754 (by decide))).2.2.1 1108).trans t_861
      have t_863 : pR S_775 1108 x = some q_152 := tR_sB eS_775 t_862
      have t_864 : At S_756 q_152 1 := hK_757.at ha_754 t_807 (by decide)
      have t_865 : At S_775 q_152 1 := tAt_sB eS_775 t_864
      have t_866 : pR S_749 1109 x = some q_181 := by rw [eS_749]; exact (pR_sO_ne (ne_of_new hq_748 ha_x_L_218.1)).trans ik_548
      have t_867 : pR S_756 1109 x = some q_181 := (((hK_757 x t_789.1).2 (At_ne t_789 ha_754 (by decide))).2.2.1 1109).trans t_866
      have t_868 : pR S_775 1109 x = some q_181 := tR_sB eS_775 t_867
      have t_869 : At S_775 q_181 17 := tAt_sB eS_775 t_771
      have t_870 : pN S_775 q_181 = 16 := tN_sB eS_775 t_773
      clear t_773
      have t_871 : pR S_749 1111 x = some q_197 := by rw [eS_749]; exact (pR_sO_ne (ne_of_new hq_748 ha_x_L_218.1)).trans ik_555
      have t_872 : pR S_756 1111 x = some q_197 := (((hK_757 x t_789.1).2 (At_ne t_789 ha_754 (by decide))).2.2.1 1111).trans t_871
      have t_873 : pR S_775 1111 x = some q_197 := tR_sB eS_775 t_872
      have t_874 : At S_749 q_197 194 := by rw [eS_749]; exact At_sO ik_556 hq_748
      have t_875 : At S_756 q_197 194 := hK_757.at ha_754 t_874 (by decide)
      have t_876 : At S_775 q_197 194 := tAt_sB eS_775 t_875
      have t_877 : pN S_749 q_197 = 60 := by rw [eS_749, pN_sO]; exact ik_558
      have t_879 : At S_749 q_197 194 := by rw [eS_749]; exact At_sO ik_556 hq_748
      have t_878 : pN S_756 q_197 = 60 := ((hK_757 q_197 t_879.1).2 (At_ne t_879 ha_754 (by decide))).2.2.2.1.trans t_877
      clear t_877
      have t_880 : pN S_775 q_197 = 60 := tN_sB eS_775 t_878
      clear t_878
      have t_881 : pR S_749 601 q_75 = some q_94 := by rw [eS_749]; exact (pR_sO_ne (ne_of_new hq_748 ik_543.1)).trans ik_575
      have t_883 : At S_749 q_75 6 := by rw [eS_749]; exact At_sO ik_543 hq_748
      have t_882 : pR S_756 601 q_75 = some q_94 := (((hK_757 q_75 t_883.1).2 (At_ne t_883 ha_754 (by decide))).2.2.1 601).trans t_881
      have t_884 : pR S_775 601 q_75 = some q_94 := tR_sB eS_775 t_882
      have t_885 : At S_749 q_94 134 := by rw [eS_749]; exact At_sO ik_576 hq_748
      have t_886 : At S_756 q_94 134 := hK_757.at ha_754 t_885 (by decide)
      have t_887 : At S_775 q_94 134 := tAt_sB eS_775 t_886
      have t_888 : pN S_749 q_94 = 12 := by rw [eS_749, pN_sO]; exact ik_597
      have t_890 : At S_749 q_94 134 := by rw [eS_749]; exact At_sO ik_576 hq_748
      have t_889 : pN S_756 q_94 = 12 := ((hK_757 q_94 t_890.1).2 (At_ne t_890 ha_754 (by decide))).2.2.2.1.trans t_888
      clear t_888
      have t_891 : pN S_775 q_94 = 12 := tN_sB eS_775 t_889
      clear t_889
      have t_892 : pR S_749 602 q_75 = some q_98 := by rw [eS_749]; exact (pR_sO_ne (ne_of_new hq_748 ik_543.1)).trans ik_609
      have t_893 : pR S_756 602 q_75 = some q_98 := (((hK_757 q_75 t_883.1).2 (At_ne t_883 ha_754 (by decide))).2.2.1 602).trans t_892
      have t_894 : pR S_775 602 q_75 = some q_98 := tR_sB eS_775 t_893
      have t_895 : At S_749 q_98 134 := by rw [eS_749]; exact At_sO ik_610 hq_748
      have t_896 : At S_756 q_98 134 := hK_757.at ha_754 t_895 (by decide)
      have t_897 : At S_775 q_98 134 := tAt_sB eS_775 t_896
      have t_898 : pN S_749 q_98 = 12 := by rw [eS_749, pN_sO]; exact ik_631
      have t_900 : At S_749 q_98 134 := by rw [eS_749]; exact At_sO ik_610 hq_748
      have t_899 : pN S_756 q_98 = 12 := ((hK_757 q_98 t_900.1).2 (At_ne t_900 ha_754 (by decide))).2.2.2.1.trans t_898
      clear t_898
      have t_901 : pN S_775 q_98 = 12 := tN_sB eS_775 t_899
      clear t_899
      have t_902 : pR S_749 604 q_75 = some q_102 := by rw [eS_749]; exact (pR_sO_ne (ne_of_new hq_748 ik_543.1)).trans ik_643
      have t_903 : pR S_756 604 q_75 = some q_102 := (((hK_757 q_75 t_883.1).2 (At_ne t_883 ha_754 (by decide))).2.2.1 604).trans t_902
      have t_904 : pR S_775 604 q_75 = some q_102 := tR_sB eS_775 t_903
      have t_905 : At S_749 q_102 134 := by rw [eS_749]; exact At_sO ik_644 hq_748
      have t_906 : At S_756 q_102 134 := hK_757.at ha_754 t_905 (by decide)
      have t_907 : At S_775 q_102 134 := tAt_sB eS_775 t_906
      have t_908 : pN S_749 q_102 = 48 := by rw [eS_749, pN_sO]; exact ik_665
      have t_910 : At S_749 q_102 134 := by rw [eS_749]; exact At_sO ik_644 hq_748
      have t_909 : pN S_756 q_102 = 48 := ((hK_757 q_102 t_910.1).2 (At_ne t_910 ha_754 (by decide))).2.2.2.1.trans t_908
      clear t_908
      have t_911 : pN S_775 q_102 = 48 := tN_sB eS_775 t_909
      clear t_909
      have t_912 : pR S_749 605 q_75 = some q_106 := by rw [eS_749]; exact (pR_sO_ne (ne_of_new hq_748 ik_543.1)).trans ik_677
      have t_913 : pR S_756 605 q_75 = some q_106 := (((hK_757 q_75 t_883.1).2 (At_ne t_883 ha_754 (by decide))).2.2.1 605).trans t_912
      have t_914 : pR S_775 605 q_75 = some q_106 := tR_sB eS_775 t_913
      have t_915 : At S_749 q_106 134 := by rw [eS_749]; exact At_sO ik_678 hq_748
      have t_916 : At S_756 q_106 134 := hK_757.at ha_754 t_915 (by decide)
      have t_917 : At S_775 q_106 134 := tAt_sB eS_775 t_916
      have t_918 : pN S_749 q_106 = 48 := by rw [eS_749, pN_sO]; exact ik_699
      have t_920 : At S_749 q_106 134 := by rw [eS_749]; exact At_sO ik_678 hq_748
      have t_919 : pN S_756 q_106 = 48 := ((hK_757 q_106 t_920.1).2 (At_ne t_920 ha_754 (by decide))).2.2.2.1.trans t_918
      clear t_918
      have t_921 : pN S_775 q_106 = 48 := tN_sB eS_775 t_919
      clear t_919
      have t_922 : pR S_749 606 q_75 = some q_110 := by rw [eS_749]; exact (pR_sO_ne (ne_of_new hq_748 ik_543.1)).trans ik_711
      have t_923 : pR S_756 606 q_75 = some q_110 := (((hK_757 q_75 t_883.1).2 (At_ne t_883 ha_754 (by decide))).2.2.1 606).trans t_922
      have t_924 : pR S_775 606 q_75 = some q_110 := tR_sB eS_775 t_923
      have t_925 : At S_749 q_110 134 := by rw [eS_749]; exact At_sO ik_712 hq_748
      have t_926 : At S_756 q_110 134 := hK_757.at ha_754 t_925 (by decide)
      have t_927 : At S_775 q_110 134 := tAt_sB eS_775 t_926
      have t_928 : pN S_749 q_110 = 48 := by rw [eS_749, pN_sO]; exact ik_733
      have t_930 : At S_749 q_110 134 := by rw [eS_749]; exact At_sO ik_712 hq_748
      have t_929 : pN S_756 q_110 = 48 := ((hK_757 q_110 t_930.1).2 (At_ne t_930 ha_754 (by decide))).2.2.2.1.trans t_928
      clear t_928
      have t_931 : pN S_775 q_110 = 48 := tN_sB eS_775 t_929
      clear t_929
      exact ih _ (by omega) _ _ _ _ (x_782) (x_782.toInt) (((cc_736 + 1) + 1)) (((nn_737 + 5) + 8)) rfl hw rfl (by omega) t_786 hK_778 hg_779 ph_776 ph_777 (by rw [show x_782.toInt = i1_216_z + 1 by omega]; exact sh_780) t_790 t_793 t_797 t_801 t_804 t_808 t_811 t_814 t_817 t_820 t_824 t_827 t_830 t_834 t_837 t_840 t_844 t_847 t_849 t_852 t_855 t_858 t_860 t_863 t_865 t_868 t_869 t_870 t_873 t_876 t_880 t_884 t_887 t_891 t_894 t_897 t_901 t_904 t_907 t_911 t_914 t_917 t_921 t_924 t_927 t_931 t_863 t_865 (by omega) (by omega) (lv_sub hl [0, 1] rfl)
  have t_932 : At S_207 x 191 := tAt_sR eS_207 t_206
  have t_933 : At S_198 q_1 36 := by rw [eS_198]; exact At_sN t_419 hq_197
  have t_934 : At S_207 q_1 36 := tAt_sR eS_207 t_933
  have t_935 : At S_198 q_16 54 := by rw [eS_198]; exact At_sN t_476 hq_197
  have t_936 : At S_207 q_16 54 := tAt_sR eS_207 t_935
  have t_937 : At S_198 q_32 18 := by rw [eS_198]; exact At_sN t_527 hq_197
  have t_938 : At S_207 q_32 18 := tAt_sR eS_207 t_937
  have t_939 : At S_160 q_48 10 := hK_161.at ha_158 t_325 (by decide)
  have t_940 : At S_175 q_48 10 := tAt_sR eS_175 t_939
  have t_941 : At S_182 q_48 10 := by rw [eS_182]; exact At_sN t_940 hq_181
  have t_942 : At S_191 q_48 10 := tAt_sR eS_191 t_941
  have t_943 : At S_198 q_48 10 := by rw [eS_198]; exact At_sN t_942 hq_197
  have t_944 : At S_207 q_48 10 := tAt_sR eS_207 t_943
  have t_945 : At S_160 q_75 6 := hK_161.at ha_158 t_569 (by decide)
  have t_946 : At S_175 q_75 6 := tAt_sR eS_175 t_945
  have t_947 : At S_182 q_75 6 := by rw [eS_182]; exact At_sN t_946 hq_181
  have t_948 : At S_191 q_75 6 := tAt_sR eS_191 t_947
  have t_949 : At S_198 q_75 6 := by rw [eS_198]; exact At_sN t_948 hq_197
  have t_950 : At S_207 q_75 6 := tAt_sR eS_207 t_949
  have t_951 : At S_160 q_124 8 := hK_161.at ha_158 t_302 (by decide)
  have t_952 : At S_175 q_124 8 := tAt_sR eS_175 t_951
  have t_953 : At S_182 q_124 8 := by rw [eS_182]; exact At_sN t_952 hq_181
  have t_954 : At S_191 q_124 8 := tAt_sR eS_191 t_953
  have t_955 : At S_198 q_124 8 := by rw [eS_198]; exact At_sN t_954 hq_197
  have t_956 : At S_207 q_124 8 := tAt_sR eS_207 t_955
  have t_957 : At S_175 q_152 1 := tAt_sR eS_175 ha_163
  have t_958 : At S_182 q_152 1 := by rw [eS_182]; exact At_sN t_957 hq_181
  have t_959 : At S_191 q_152 1 := tAt_sR eS_191 t_958
  have t_960 : At S_198 q_152 1 := by rw [eS_198]; exact At_sN t_959 hq_197
  have t_961 : At S_207 q_152 1 := tAt_sR eS_207 t_960
  have t_962 : At S_198 q_181 17 := by rw [eS_198]; exact At_sN t_552 hq_197
  have t_963 : At S_207 q_181 17 := tAt_sR eS_207 t_962
  have t_964 : At S_207 q_197 194 := tAt_sR eS_207 ha_203
  have t_965 : At S_198 q_94 134 := by rw [eS_198]; exact At_sN t_595 hq_197
  have t_966 : At S_207 q_94 134 := tAt_sR eS_207 t_965
  have t_967 : At S_198 q_98 134 := by rw [eS_198]; exact At_sN t_629 hq_197
  have t_968 : At S_207 q_98 134 := tAt_sR eS_207 t_967
  have t_969 : At S_198 q_102 134 := by rw [eS_198]; exact At_sN t_663 hq_197
  have t_970 : At S_207 q_102 134 := tAt_sR eS_207 t_969
  have t_971 : At S_198 q_106 134 := by rw [eS_198]; exact At_sN t_697 hq_197
  have t_972 : At S_207 q_106 134 := tAt_sR eS_207 t_971
  have t_973 : At S_198 q_110 134 := by rw [eS_198]; exact At_sN t_731 hq_197
  have t_974 : At S_207 q_110 134 := tAt_sR eS_207 t_973
  exact L_215 _ _ _ _ _ (0) (0) (26) (1520) rfl hw ti_0 (by omega) t_932 hK_210 hg_211 ph_208 ph_209 ShI_0 t_273 t_296 t_307 t_330 t_339 t_345 t_351 t_357 t_378 t_934 t_420 t_439 t_936 t_477 t_494 t_938 t_528 t_245 t_944 t_541 t_950 t_228 t_956 t_249 t_961 t_214 t_963 t_553 h_212 t_964 t_557 t_574 t_966 t_596 t_608 t_968 t_630 t_642 t_970 t_664 t_676 t_972 t_698 t_710 t_974 t_732 t_249 t_961 (by omega) (by omega) (lv_sub hl [0, 1] rfl)
