theorem dX1_init_0 : decode cX1_init 0 = .ok (.aload_n 0, 1) := by decide +kernel
theorem dX1_init_1 : decode cX1_init 1 = .ok (.invokespecial 3, 3) := by decide +kernel
theorem dX1_init_4 : decode cX1_init 4 = .ok (.aload_n 0, 1) := by decide +kernel
theorem dX1_init_5 : decode cX1_init 5 = .ok (.iconst 5, 1) := by decide +kernel
theorem dX1_init_6 : decode cX1_init 6 = .ok (.newarray .int, 2) := by decide +kernel
theorem dX1_init_8 : decode cX1_init 8 = .ok (.putfield 9, 3) := by decide +kernel
theorem dX1_init_11 : decode cX1_init 11 = .ok (.return_, 1) := by decide +kernel
theorem dX2_init_0 : decode cX2_init 0 = .ok (.aload_n 0, 1) := by decide +kernel
theorem dX2_init_1 : decode cX2_init 1 = .ok (.invokespecial 3, 3) := by decide +kernel
theorem dX2_init_4 : decode cX2_init 4 = .ok (.aload_n 0, 1) := by decide +kernel
theorem dX2_init_5 : decode cX2_init 5 = .ok (.bipush 14, 2) := by decide +kernel
theorem dX2_init_7 : decode cX2_init 7 = .ok (.newarray .int, 2) := by decide +kernel
theorem dX2_init_9 : decode cX2_init 9 = .ok (.putfield 9, 3) := by decide +kernel
theorem dX2_init_12 : decode cX2_init 12 = .ok (.aload_n 0, 1) := by decide +kernel
theorem dX2_init_13 : decode cX2_init 13 = .ok (.bipush 14, 2) := by decide +kernel
theorem dX2_init_15 : decode cX2_init 15 = .ok (.newarray .int, 2) := by decide +kernel
theorem dX2_init_17 : decode cX2_init 17 = .ok (.putfield 15, 3) := by decide +kernel
theorem dX2_init_20 : decode cX2_init 20 = .ok (.aload_n 0, 1) := by decide +kernel
theorem dX2_init_21 : decode cX2_init 21 = .ok (.bipush 14, 2) := by decide +kernel
theorem dX2_init_23 : decode cX2_init 23 = .ok (.newarray .int, 2) := by decide +kernel
theorem dX2_init_25 : decode cX2_init 25 = .ok (.putfield 18, 3) := by decide +kernel
theorem dX2_init_28 : decode cX2_init 28 = .ok (.return_, 1) := by decide +kernel
theorem dX3_init_0 : decode cX3_init 0 = .ok (.aload_n 0, 1) := by decide +kernel
theorem dX3_init_1 : decode cX3_init 1 = .ok (.invokespecial 3, 3) := by decide +kernel
theorem dX3_init_4 : decode cX3_init 4 = .ok (.aload_n 0, 1) := by decide +kernel
theorem dX3_init_5 : decode cX3_init 5 = .ok (.iconst (-1), 1) := by decide +kernel
theorem dX3_init_6 : decode cX3_init 6 = .ok (.putfield 9, 3) := by decide +kernel
theorem dX3_init_9 : decode cX3_init 9 = .ok (.aload_n 0, 1) := by decide +kernel
theorem dX3_init_10 : decode cX3_init 10 = .ok (.bipush 8, 2) := by decide +kernel
theorem dX3_init_12 : decode cX3_init 12 = .ok (.newarray .int, 2) := by decide +kernel
theorem dX3_init_14 : decode cX3_init 14 = .ok (.putfield 15, 3) := by decide +kernel
theorem dX3_init_17 : decode cX3_init 17 = .ok (.return_, 1) := by decide +kernel
set_option maxRecDepth 20000 in
theorem ggX8_init_X2_init : GoodIn wsX8_init wsX2_init := goodIn_h _ [2, 0, 0, 11, 0, 0, 0, 0, 13, 0, 0, 0, 0, 0, 0, 0] [3, 4, 0, 1, 2, 5, 6, 7, 8, 9, 10, 11, 12, 13, 14, 15] (by decide +kernel) (by decide +kernel)
set_option maxRecDepth 20000 in
theorem gX8_init_X2_init_n32 : GoodIn wsX8_init (wsX2_init) := ggX8_init_X2_init
theorem dX8_init_0 : decode cX8_init 0 = .ok (.aload_n 0, 1) := by decide +kernel
theorem dX8_init_1 : decode cX8_init 1 = .ok (.invokespecial 3, 3) := by decide +kernel
theorem dX8_init_4 : decode cX8_init 4 = .ok (.aload_n 0, 1) := by decide +kernel
theorem dX8_init_5 : decode cX8_init 5 = .ok (.iconst 4, 1) := by decide +kernel
theorem dX8_init_6 : decode cX8_init 6 = .ok (.newarray .int, 2) := by decide +kernel
theorem dX8_init_8 : decode cX8_init 8 = .ok (.dup, 1) := by decide +kernel
theorem dX8_init_9 : decode cX8_init 9 = .ok (.iconst 0, 1) := by decide +kernel
theorem dX8_init_10 : decode cX8_init 10 = .ok (.bipush 100, 2) := by decide +kernel
theorem dX8_init_12 : decode cX8_init 12 = .ok (.iastore, 1) := by decide +kernel
theorem dX8_init_13 : decode cX8_init 13 = .ok (.dup, 1) := by decide +kernel
theorem dX8_init_14 : decode cX8_init 14 = .ok (.iconst 1, 1) := by decide +kernel
theorem dX8_init_15 : decode cX8_init 15 = .ok (.bipush 80, 2) := by decide +kernel
theorem dX8_init_17 : decode cX8_init 17 = .ok (.iastore, 1) := by decide +kernel
theorem dX8_init_18 : decode cX8_init 18 = .ok (.dup, 1) := by decide +kernel
theorem dX8_init_19 : decode cX8_init 19 = .ok (.iconst 2, 1) := by decide +kernel
theorem dX8_init_20 : decode cX8_init 20 = .ok (.bipush 50, 2) := by decide +kernel
theorem dX8_init_22 : decode cX8_init 22 = .ok (.iastore, 1) := by decide +kernel
theorem dX8_init_23 : decode cX8_init 23 = .ok (.dup, 1) := by decide +kernel
theorem dX8_init_24 : decode cX8_init 24 = .ok (.iconst 3, 1) := by decide +kernel
theorem dX8_init_25 : decode cX8_init 25 = .ok (.bipush 20, 2) := by decide +kernel
theorem dX8_init_27 : decode cX8_init 27 = .ok (.iastore, 1) := by decide +kernel
theorem dX8_init_28 : decode cX8_init 28 = .ok (.putfield 9, 3) := by decide +kernel
theorem dX8_init_31 : decode cX8_init 31 = .ok (.aload_n 0, 1) := by decide +kernel
theorem dX8_init_32 : decode cX8_init 32 = .ok (.bipush 40, 2) := by decide +kernel
theorem dX8_init_34 : decode cX8_init 34 = .ok (.anewarray 15, 3) := by decide +kernel
theorem dX8_init_37 : decode cX8_init 37 = .ok (.putfield 17, 3) := by decide +kernel
theorem dX8_init_40 : decode cX8_init 40 = .ok (.aload_n 0, 1) := by decide +kernel
theorem dX8_init_41 : decode cX8_init 41 = .ok (.bipush 40, 2) := by decide +kernel
theorem dX8_init_43 : decode cX8_init 43 = .ok (.newarray .int, 2) := by decide +kernel
theorem dX8_init_45 : decode cX8_init 45 = .ok (.putfield 21, 3) := by decide +kernel
theorem dX8_init_48 : decode cX8_init 48 = .ok (.aload_n 0, 1) := by decide +kernel
theorem dX8_init_49 : decode cX8_init 49 = .ok (.bipush 40, 2) := by decide +kernel
theorem dX8_init_51 : decode cX8_init 51 = .ok (.newarray .int, 2) := by decide +kernel
theorem dX8_init_53 : decode cX8_init 53 = .ok (.putfield 24, 3) := by decide +kernel
theorem dX8_init_56 : decode cX8_init 56 = .ok (.aload_n 0, 1) := by decide +kernel
theorem dX8_init_57 : decode cX8_init 57 = .ok (.bipush 40, 2) := by decide +kernel
theorem dX8_init_59 : decode cX8_init 59 = .ok (.newarray .int, 2) := by decide +kernel
theorem dX8_init_61 : decode cX8_init 61 = .ok (.putfield 27, 3) := by decide +kernel
theorem dX8_init_64 : decode cX8_init 64 = .ok (.aload_n 0, 1) := by decide +kernel
theorem dX8_init_65 : decode cX8_init 65 = .ok (.new 30, 3) := by decide +kernel
theorem dX8_init_68 : decode cX8_init 68 = .ok (.dup, 1) := by decide +kernel
theorem dX8_init_69 : decode cX8_init 69 = .ok (.invokespecial 32, 3) := by decide +kernel
theorem dX8_init_72 : decode cX8_init 72 = .ok (.putfield 33, 3) := by decide +kernel
theorem dX8_init_75 : decode cX8_init 75 = .ok (.return_, 1) := by decide +kernel
theorem dX10_init_0 : decode cX10_init 0 = .ok (.aload_n 0, 1) := by decide +kernel
theorem dX10_init_1 : decode cX10_init 1 = .ok (.invokespecial 3, 3) := by decide +kernel
theorem dX10_init_4 : decode cX10_init 4 = .ok (.aload_n 0, 1) := by decide +kernel
theorem dX10_init_5 : decode cX10_init 5 = .ok (.iconst (-1), 1) := by decide +kernel
theorem dX10_init_6 : decode cX10_init 6 = .ok (.putfield 9, 3) := by decide +kernel
theorem dX10_init_9 : decode cX10_init 9 = .ok (.aload_n 0, 1) := by decide +kernel
theorem dX10_init_10 : decode cX10_init 10 = .ok (.sipush 400, 3) := by decide +kernel
theorem dX10_init_13 : decode cX10_init 13 = .ok (.newarray .byte, 2) := by decide +kernel
theorem dX10_init_15 : decode cX10_init 15 = .ok (.putfield 15, 3) := by decide +kernel
theorem dX10_init_18 : decode cX10_init 18 = .ok (.return_, 1) := by decide +kernel
theorem inn_X10_init_10 : ∀ w ∈ u_ws RX10 TX10 7, w ∈ wsX10_init := fun w h => List.mem_cons_of_mem _ (List.mem_append_right _ h)
theorem inn_X1_init_1 : ∀ w ∈ u_ws RX1 TX1 4, w ∈ wsX1_init := fun w h => List.mem_cons_of_mem _ (List.mem_append_right _ h)
theorem inn_X2_init_2 : ∀ w ∈ u_ws RX2 TX2 8, w ∈ wsX2_init := fun w h => List.mem_cons_of_mem _ (List.mem_append_right _ h)
theorem inn_X3_init_3 : ∀ w ∈ u_ws RX3 TX3 5, w ∈ wsX3_init := fun w h => List.mem_cons_of_mem _ (List.mem_append_right _ h)
theorem inn_X8_init_2 : ∀ w ∈ u_ws RX2 TX2 8, w ∈ wsX8_init := fun w h => List.mem_cons_of_mem _ (List.mem_append_right _ h)
theorem inn_X8_init_8 : ∀ w ∈ u_ws RX8 TX8 13, w ∈ wsX8_init := fun w h => List.mem_cons_of_mem _ (List.mem_append_left _ (List.mem_append_right _ h))
set_option maxHeartbeats 4000000 in
set_option maxRecDepth 100000 in
theorem k_X2_init (l : Launch) (G : va_G) (cy : Nat → ClassId) (κ : Nat → Nat) (S : PS) (sz : Nat) (x : Nat) (hG : GX S) (ha_x : At S x 182) (hzI : ∀ g, pI S g x = 0) (hzR : ∀ g, pR S g x = none) : Cv l yX2_init wsX2_init ({ frames := 2, cells := 3, slots := 42, locals := 96 }) G cy κ S sz [.ref x] (fun (S9 : PS) => Kq S S9 x ∧ GX S9 ∧ At S9 x 2 ∧ Phc S9 = Phc S + 0 ∧ Phs S9 = Phs S + 0) := by
  refine ent_m (cc := cX2_init) (maxL := 1) (ret := none) (by decide) rfl (Nat.le_of_ble_eq_true rfl) ?_
  intro p e s m below meth c ls X hr hlocks hin hw hl hsz
  subst hsz
  have X : Cx p c cX2_init 1 s [.ref x].toArray wsX2_init RX2 m G cy κ (AS S s.heap.size) := X
  have hl : lv_has ls 1 [(0, .ref x)] := hl
  have hpc0 : Phc S = Phc S + 0 := rfl
  have hps0 : Phs S = Phs S + 0 := rfl
  have hK : Kq S S x := Kq.rf S _
  refine lv_aload_n X.1 X.2.1 dX2_init_0 rfl (lv_at hl 0 rfl) ?_
  refine W.objInit X.1 X.2.1 X.2.2.2.2.1 (X.2.2.2.1 (.methodLink RX2 3 objectInit) (by decide +kernel)) (X.2.2.2.1 (.instanceMethod objectInit) (by decide +kernel)) (X.2.2.2.1 (.code objectInit ⟨#[0xb1]⟩ 1 none) (by decide +kernel)) rfl (hl.1.trans X.2.2.1.symm) rfl dX2_init_1 (Nat.le_of_ble_eq_true rfl) (Nat.le_of_ble_eq_true rfl) ?_
  refine W.eq (g2 := F0 m 4 ls ([])) rfl ?_
  refine lv_aload_n X.1 X.2.1 dX2_init_4 rfl (lv_at hl 0 rfl) ?_
  refine lv_bipush (v := 14) X.1 X.2.1 dX2_init_5 (by decide) ?_
  refine r_newI (N := 14) X hw 1734 14 1 rfl (X.2.2.2.1 (.arrayClass .int) (by decide +kernel)) (z_nn ti_14 (by omega)) (by decide) (by decide) (Nat.le_of_ble_eq_true rfl) (Nat.le_of_ble_eq_true rfl) (Nat.le_of_ble_eq_true rfl) (Nat.le_of_ble_eq_true rfl) dX2_init_7 (fun q_1 H hq_1 hw => ?_)
  obtain ⟨S_2, eS_2⟩ : ∃ T, T = sN S q_1 1734 14 := ⟨_, rfl⟩
  rw [← eS_2] at hw
  have ph_3 : Phc S_2 = Phc S + 0 := (show Phc S_2 = Phc S from Ph_sN' hG.ci hq_1 eS_2 (by decide)).trans hpc0
  have ph_4 : Phs S_2 = Phs S + 0 := (show Phs S_2 = Phs S from Ph_sN' hG.ci hq_1 eS_2 (by decide)).trans hps0
  clear hpc0
  clear hps0
  have hK_5 : Kq S S_2 x := hK.sN hq_1 eS_2
  have hg_6 : GX S_2 := by rw [eS_2]; exact GX_N hG hq_1 (by decide +kernel)
  have hn0_q_1 := hK.new hq_1
  have ha_7 : At S_2 q_1 1734 := by rw [eS_2]; exact At_nN _ _ _ _
  have hn_8 : pN S_2 q_1 = 14 := by rw [eS_2]; exact pN_sN_new
  have t_9 : At S_2 x 182 := by rw [eS_2]; exact At_sN ha_x hq_1
  refine r_putR X hw t_9 rfl 0 200 (some q_1) rfl tyX2 (by decide) rfl inn_X2_init_2 tyX2_ok nmX2 (by decide) (X.2.2.2.1 (.fieldLink RX2 9 "SilkMill$Mixer" "numbers" "[I") (by decide +kernel)) rfl (Or.inr ⟨rfl, hin, rfl⟩) (fun _ => rfl) rfl (fun _ => rfl) rfl (Nat.le_of_ble_eq_true rfl) (st_200 _ _) dX2_init_9 (fun H locs hw => ?_)
  obtain ⟨S_10, eS_10⟩ : ∃ T, T = sR S_2 200 x (some q_1) := ⟨_, rfl⟩
  rw [← eS_10] at hw
  have ph_11 : Phc S_10 = Phc S + 0 := (show Phc S_10 = Phc S_2 from Ph_rawR t_9 (by decide) eS_10).trans ph_3
  have ph_12 : Phs S_10 = Phs S + 0 := (show Phs S_10 = Phs S_2 from Ph_rawR t_9 (by decide) eS_10).trans ph_4
  clear ph_3
  clear ph_4
  have hK_13 : Kq S S_10 x := hK_5.sR eS_10
  have hg_14 : GX S_10 := by rw [eS_10]; exact GX_rawR hg_6 t_9 (by decide +kernel)
  have h_15 : pR S_10 200 x = some q_1 := tR_sRs eS_10
  refine lv_aload_n X.1 X.2.1 dX2_init_12 rfl (lv_at hl 0 rfl) ?_
  refine lv_bipush (v := 14) X.1 X.2.1 dX2_init_13 (by decide) ?_
  refine r_newI (N := 14) X hw 1754 28 2 rfl (X.2.2.2.1 (.arrayClass .int) (by decide +kernel)) (z_nn ti_14 (by omega)) (by decide) (by decide) (Nat.le_of_ble_eq_true rfl) (Nat.le_of_ble_eq_true rfl) (Nat.le_of_ble_eq_true rfl) (Nat.le_of_ble_eq_true rfl) dX2_init_15 (fun q_16 H hq_16 hw => ?_)
  obtain ⟨S_17, eS_17⟩ : ∃ T, T = sN S_10 q_16 1754 14 := ⟨_, rfl⟩
  rw [← eS_17] at hw
  have ph_18 : Phc S_17 = Phc S + 0 := (show Phc S_17 = Phc S_10 from Ph_sN' hg_14.ci hq_16 eS_17 (by decide)).trans ph_11
  have ph_19 : Phs S_17 = Phs S + 0 := (show Phs S_17 = Phs S_10 from Ph_sN' hg_14.ci hq_16 eS_17 (by decide)).trans ph_12
  clear ph_11
  clear ph_12
  have hK_20 : Kq S S_17 x := hK_13.sN hq_16 eS_17
  have hg_21 : GX S_17 := by rw [eS_17]; exact GX_N hg_14 hq_16 (by decide +kernel)
  have hn0_q_16 := hK_13.new hq_16
  have ha_22 : At S_17 q_16 1754 := by rw [eS_17]; exact At_nN _ _ _ _
  have hn_23 : pN S_17 q_16 = 14 := by rw [eS_17]; exact pN_sN_new
  have t_24 : At S_10 x 182 := tAt_sR eS_10 t_9
  have t_25 : At S_17 x 182 := by rw [eS_17]; exact At_sN t_24 hq_16
  refine r_putR X hw t_25 rfl 1 201 (some q_16) rfl tyX2 (by decide) rfl inn_X2_init_2 tyX2_ok nmX2 (by decide) (X.2.2.2.1 (.fieldLink RX2 15 "SilkMill$Mixer" "weights" "[I") (by decide +kernel)) rfl (Or.inr ⟨rfl, hin, rfl⟩) (fun _ => rfl) rfl (fun _ => rfl) rfl (Nat.le_of_ble_eq_true rfl) (st_201 _ _) dX2_init_17 (fun H locs hw => ?_)
  obtain ⟨S_26, eS_26⟩ : ∃ T, T = sR S_17 201 x (some q_16) := ⟨_, rfl⟩
  rw [← eS_26] at hw
  have ph_27 : Phc S_26 = Phc S + 0 := (show Phc S_26 = Phc S_17 from Ph_rawR t_25 (by decide) eS_26).trans ph_18
  have ph_28 : Phs S_26 = Phs S + 0 := (show Phs S_26 = Phs S_17 from Ph_rawR t_25 (by decide) eS_26).trans ph_19
  clear ph_18
  clear ph_19
  have hK_29 : Kq S S_26 x := hK_20.sR eS_26
  have hg_30 : GX S_26 := by rw [eS_26]; exact GX_rawR hg_21 t_25 (by decide +kernel)
  have h_31 : pR S_26 201 x = some q_16 := tR_sRs eS_26
  refine lv_aload_n X.1 X.2.1 dX2_init_20 rfl (lv_at hl 0 rfl) ?_
  refine lv_bipush (v := 14) X.1 X.2.1 dX2_init_21 (by decide) ?_
  refine r_newI (N := 14) X hw 1774 42 3 rfl (X.2.2.2.1 (.arrayClass .int) (by decide +kernel)) (z_nn ti_14 (by omega)) (by decide) (by decide) (Nat.le_of_ble_eq_true rfl) (Nat.le_of_ble_eq_true rfl) (Nat.le_of_ble_eq_true rfl) (Nat.le_of_ble_eq_true rfl) dX2_init_23 (fun q_32 H hq_32 hw => ?_)
  obtain ⟨S_33, eS_33⟩ : ∃ T, T = sN S_26 q_32 1774 14 := ⟨_, rfl⟩
  rw [← eS_33] at hw
  have ph_34 : Phc S_33 = Phc S + 0 := (show Phc S_33 = Phc S_26 from Ph_sN' hg_30.ci hq_32 eS_33 (by decide)).trans ph_27
  have ph_35 : Phs S_33 = Phs S + 0 := (show Phs S_33 = Phs S_26 from Ph_sN' hg_30.ci hq_32 eS_33 (by decide)).trans ph_28
  clear ph_27
  clear ph_28
  have hK_36 : Kq S S_33 x := hK_29.sN hq_32 eS_33
  have hg_37 : GX S_33 := by rw [eS_33]; exact GX_N hg_30 hq_32 (by decide +kernel)
  have hn0_q_32 := hK_29.new hq_32
  have ha_38 : At S_33 q_32 1774 := by rw [eS_33]; exact At_nN _ _ _ _
  have hn_39 : pN S_33 q_32 = 14 := by rw [eS_33]; exact pN_sN_new
  have t_40 : At S_26 x 182 := tAt_sR eS_26 t_25
  have t_41 : At S_33 x 182 := by rw [eS_33]; exact At_sN t_40 hq_32
  refine r_putR X hw t_41 rfl 2 202 (some q_32) rfl tyX2 (by decide) rfl inn_X2_init_2 tyX2_ok nmX2 (by decide) (X.2.2.2.1 (.fieldLink RX2 18 "SilkMill$Mixer" "prices" "[I") (by decide +kernel)) rfl (Or.inr ⟨rfl, hin, rfl⟩) (fun _ => rfl) rfl (fun _ => rfl) rfl (Nat.le_of_ble_eq_true rfl) (st_202 _ _) dX2_init_25 (fun H locs hw => ?_)
  obtain ⟨S_42, eS_42⟩ : ∃ T, T = sR S_33 202 x (some q_32) := ⟨_, rfl⟩
  rw [← eS_42] at hw
  have ph_43 : Phc S_42 = Phc S + 0 := (show Phc S_42 = Phc S_33 from Ph_rawR t_41 (by decide) eS_42).trans ph_34
  have ph_44 : Phs S_42 = Phs S + 0 := (show Phs S_42 = Phs S_33 from Ph_rawR t_41 (by decide) eS_42).trans ph_35
  clear ph_34
  clear ph_35
  have hK_45 : Kq S S_42 x := hK_36.sR eS_42
  have hg_46 : GX S_42 := by rw [eS_42]; exact GX_rawR hg_37 t_41 (by decide +kernel)
  have h_47 : pR S_42 202 x = some q_32 := tR_sRs eS_42
  have t_48 : At S_42 x 182 := tAt_sR eS_42 t_41
  have nd_49 := nodup_of hw
  have t_50 : pR S_17 200 x = some q_1 := by rw [eS_17, pR_sN]; exact h_15
  have t_51 : pR S_26 200 x = some q_1 := tR_sR eS_26 rfl t_50
  have t_52 : pR S_33 200 x = some q_1 := by rw [eS_33, pR_sN]; exact t_51
  have t_53 : pR S_42 200 x = some q_1 := tR_sR eS_42 rfl t_52
  have t_54 : At S_10 q_1 1734 := tAt_sR eS_10 ha_7
  have t_55 : At S_17 q_1 1734 := by rw [eS_17]; exact At_sN t_54 hq_16
  have t_56 : At S_26 q_1 1734 := tAt_sR eS_26 t_55
  have t_57 : At S_33 q_1 1734 := by rw [eS_33]; exact At_sN t_56 hq_32
  have t_58 : At S_42 q_1 1734 := tAt_sR eS_42 t_57
  have t_59 : pN S_10 q_1 = 14 := tN_sR eS_10 hn_8
  clear hn_8
  have t_61 : At S_10 q_1 1734 := tAt_sR eS_10 ha_7
  have t_60 : pN S_17 q_1 = 14 := by rw [eS_17]; exact (pN_sN_ne (ne_of_new hq_16 t_61.1)).trans t_59
  clear t_59
  have t_62 : pN S_26 q_1 = 14 := tN_sR eS_26 t_60
  clear t_60
  have t_64 : At S_17 q_1 1734 := by rw [eS_17]; exact At_sN t_61 hq_16
  have t_65 : At S_26 q_1 1734 := tAt_sR eS_26 t_64
  have t_63 : pN S_33 q_1 = 14 := by rw [eS_33]; exact (pN_sN_ne (ne_of_new hq_32 t_65.1)).trans t_62
  clear t_62
  have t_66 : pN S_42 q_1 = 14 := tN_sR eS_42 t_63
  clear t_63
  have t_67 : pR S_33 201 x = some q_16 := by rw [eS_33, pR_sN]; exact h_31
  have t_68 : pR S_42 201 x = some q_16 := tR_sR eS_42 rfl t_67
  have t_69 : At S_26 q_16 1754 := tAt_sR eS_26 ha_22
  have t_70 : At S_33 q_16 1754 := by rw [eS_33]; exact At_sN t_69 hq_32
  have t_71 : At S_42 q_16 1754 := tAt_sR eS_42 t_70
  have t_72 : pN S_26 q_16 = 14 := tN_sR eS_26 hn_23
  clear hn_23
  have t_74 : At S_26 q_16 1754 := tAt_sR eS_26 ha_22
  have t_73 : pN S_33 q_16 = 14 := by rw [eS_33]; exact (pN_sN_ne (ne_of_new hq_32 t_74.1)).trans t_72
  clear t_72
  have t_75 : pN S_42 q_16 = 14 := tN_sR eS_42 t_73
  clear t_73
  have t_76 : At S_42 q_32 1774 := tAt_sR eS_42 ha_38
  have t_77 : pN S_42 q_32 = 14 := tN_sR eS_42 hn_39
  clear hn_39
  have t_78 : pI S_2 203 x = 0 := by rw [eS_2, pI_sN]; exact (hzI 203)
  have t_79 : pI S_10 203 x = 0 := tI_sR eS_10 t_78
  have t_80 : pI S_17 203 x = 0 := by rw [eS_17, pI_sN]; exact t_79
  have t_81 : pI S_26 203 x = 0 := tI_sR eS_26 t_80
  have t_82 : pI S_33 203 x = 0 := by rw [eS_33, pI_sN]; exact t_81
  have t_83 : pI S_42 203 x = 0 := tI_sR eS_42 t_82
  obtain ⟨S_84, eS_84⟩ : ∃ T, T = sK S_42 x 2 := ⟨_, rfl⟩
  have hw := Wd_sK (k := 2) hw t_48 rfl; rw [← eS_84] at hw
  have hg9 : GX S_84 := by rw [eS_84]; exact GX_sK hg_46 t_48 (by decide +kernel) (mk_2 ⟨q_1, (by rw [pR_sK]; exact t_53), At_sK t_48 t_58 (by decide), by rw [pN_sK]; exact t_66⟩ ⟨q_16, (by rw [pR_sK]; exact t_68), At_sK t_48 t_71 (by decide), by rw [pN_sK]; exact t_75⟩ ⟨q_32, (by rw [pR_sK]; exact h_47), At_sK t_48 t_76 (by decide), by rw [pN_sK]; exact t_77⟩ (by rw [pI_sK, t_83]; exact ⟨by rw [ti_0]; omega, by rw [ti_0]; omega⟩))
  have ha9 : At S_84 x 2 := by rw [eS_84]; exact At_nK t_48
  have hk9 : Kq S S_84 x := hK_45.sK eS_84
  have hPhc9 : Phc S_84 = Phc S + 0 := by rw [show Phc S_84 = Ph fC 8 14400 S_84 from rfl, Ph_sK nd_49 t_48 (by decide) eS_84, ph_0 ha9 (by decide)]; show Phc S_42 + _ = _; omega
  have hPhs9 : Phs S_84 = Phs S + 0 := by rw [show Phs S_84 = Ph fS 15100 46000 S_84 from rfl, Ph_sK nd_49 t_48 (by decide) eS_84, ph_0 ha9 (by decide)]; show Phs S_42 + _ = _; omega
  exact ret_v X hw hr hlocks (Nat.le_of_ble_eq_true rfl) (Nat.le_of_ble_eq_true rfl) ⟨hk9, hg9, ha9, hPhc9, hPhs9⟩ dX2_init_28
set_option maxHeartbeats 4000000 in
set_option maxRecDepth 100000 in
theorem k_X10_init (l : Launch) (G : va_G) (cy : Nat → ClassId) (κ : Nat → Nat) (S : PS) (sz : Nat) (x : Nat) (hG : GX S) (ha_x : At S x 190) (hzI : ∀ g, pI S g x = 0) (hzR : ∀ g, pR S g x = none) : Cv l yX10_init wsX10_init ({ frames := 2, cells := 1, slots := 400, locals := 96 }) G cy κ S sz [.ref x] (fun (S9 : PS) => Kq S S9 x ∧ GX S9 ∧ At S9 x 10 ∧ Phc S9 = Phc S + 0 ∧ Phs S9 = Phs S + 0 ∧ pI S9 1000 x = 0) := by
  refine ent_m (cc := cX10_init) (maxL := 1) (ret := none) (by decide) rfl (Nat.le_of_ble_eq_true rfl) ?_
  intro p e s m below meth c ls X hr hlocks hin hw hl hsz
  subst hsz
  have X : Cx p c cX10_init 1 s [.ref x].toArray wsX10_init RX10 m G cy κ (AS S s.heap.size) := X
  have hl : lv_has ls 1 [(0, .ref x)] := hl
  have hpc0 : Phc S = Phc S + 0 := rfl
  have hps0 : Phs S = Phs S + 0 := rfl
  have hK : Kq S S x := Kq.rf S _
  refine lv_aload_n X.1 X.2.1 dX10_init_0 rfl (lv_at hl 0 rfl) ?_
  refine W.objInit X.1 X.2.1 X.2.2.2.2.1 (X.2.2.2.1 (.methodLink RX10 3 objectInit) (by decide +kernel)) (X.2.2.2.1 (.instanceMethod objectInit) (by decide +kernel)) (X.2.2.2.1 (.code objectInit ⟨#[0xb1]⟩ 1 none) (by decide +kernel)) rfl (hl.1.trans X.2.2.1.symm) rfl dX10_init_1 (Nat.le_of_ble_eq_true rfl) (Nat.le_of_ble_eq_true rfl) ?_
  refine W.eq (g2 := F0 m 4 ls ([])) rfl ?_
  refine lv_aload_n X.1 X.2.1 dX10_init_4 rfl (lv_at hl 0 rfl) ?_
  refine lv_iconst (v := (-1)) X.1 X.2.1 dX10_init_5 (by decide) ?_
  refine r_putI (v := (-1)) X hw ha_x rfl 2 1002 tyX10 (by decide) rfl inn_X10_init_10 tyX10_ok nmX10 (by decide) (X.2.2.2.1 (.fieldLink RX10 9 "SilkMill$Tape" "faultPlace" "I") (by decide +kernel)) rfl (Or.inl rfl) rfl rfl (Nat.le_of_ble_eq_true rfl) (st_1002 _ _) dX10_init_6 (fun H locs hw => ?_)
  obtain ⟨S_1, eS_1⟩ : ∃ T, T = sI S 1002 x ((-1)) := ⟨_, rfl⟩
  rw [← eS_1] at hw
  have ph_2 : Phc S_1 = Phc S + 0 := (show Phc S_1 = Phc S from Ph_rawI ha_x (by decide) eS_1).trans hpc0
  have ph_3 : Phs S_1 = Phs S + 0 := (show Phs S_1 = Phs S from Ph_rawI ha_x (by decide) eS_1).trans hps0
  clear hpc0
  clear hps0
  have hK_4 : Kq S S_1 x := hK.sI eS_1
  have hg_5 : GX S_1 := by rw [eS_1]; exact GX_rawI hG ha_x (by decide +kernel)
  have h_6 : pI S_1 1002 x = (-1) := tI_sIs eS_1
  refine lv_aload_n X.1 X.2.1 dX10_init_9 rfl (lv_at hl 0 rfl) ?_
  refine lv_sipush (v := 400) X.1 X.2.1 dX10_init_10 (by decide) ?_
  refine r_newB (N := 400) X hw 13 400 1 rfl (X.2.2.2.1 (.arrayClass .byte) (by decide +kernel)) (z_nn ti_400 (by omega)) (by decide) (by decide) (by show 0 + 1 ≤ 1; omega) (by show 0 + 400 ≤ 400; omega) (by show 1 ≤ 1; omega) (by show 400 ≤ 400; omega) dX10_init_13 (fun q_7 H hq_7 hw => ?_)
  obtain ⟨S_8, eS_8⟩ : ∃ T, T = sN S_1 q_7 13 400 := ⟨_, rfl⟩
  rw [← eS_8] at hw
  have ph_9 : Phc S_8 = Phc S + 0 := (show Phc S_8 = Phc S_1 from Ph_sN' hg_5.ci hq_7 eS_8 (by decide)).trans ph_2
  have ph_10 : Phs S_8 = Phs S + 0 := (show Phs S_8 = Phs S_1 from Ph_sN' hg_5.ci hq_7 eS_8 (by decide)).trans ph_3
  clear ph_2
  clear ph_3
  have hK_11 : Kq S S_8 x := hK_4.sN hq_7 eS_8
  have hg_12 : GX S_8 := by rw [eS_8]; exact GX_N hg_5 hq_7 (by decide +kernel)
  have hn0_q_7 := hK_4.new hq_7
  have ha_13 : At S_8 q_7 13 := by rw [eS_8]; exact At_nN _ _ _ _
  have hn_14 : pN S_8 q_7 = 400 := by rw [eS_8]; exact pN_sN_new
  have t_15 : At S_1 x 190 := tAt_sI eS_1 ha_x
  have t_16 : At S_8 x 190 := by rw [eS_8]; exact At_sN t_15 hq_7
  refine r_putR X hw t_16 rfl 3 1003 (some q_7) rfl tyX10 (by decide) rfl inn_X10_init_10 tyX10_ok nmX10 (by decide) (X.2.2.2.1 (.fieldLink RX10 15 "SilkMill$Tape" "bytes" "[B") (by decide +kernel)) rfl (Or.inr ⟨rfl, hin, rfl⟩) (fun _ => rfl) rfl (fun _ => rfl) rfl (Nat.le_of_ble_eq_true rfl) (st_1003 _ _) dX10_init_15 (fun H locs hw => ?_)
  obtain ⟨S_17, eS_17⟩ : ∃ T, T = sR S_8 1003 x (some q_7) := ⟨_, rfl⟩
  rw [← eS_17] at hw
  have ph_18 : Phc S_17 = Phc S + 0 := (show Phc S_17 = Phc S_8 from Ph_rawR t_16 (by decide) eS_17).trans ph_9
  have ph_19 : Phs S_17 = Phs S + 0 := (show Phs S_17 = Phs S_8 from Ph_rawR t_16 (by decide) eS_17).trans ph_10
  clear ph_9
  clear ph_10
  have hK_20 : Kq S S_17 x := hK_11.sR eS_17
  have hg_21 : GX S_17 := by rw [eS_17]; exact GX_rawR hg_12 t_16 (by decide +kernel)
  have h_22 : pR S_17 1003 x = some q_7 := tR_sRs eS_17
  have t_23 : At S_17 x 190 := tAt_sR eS_17 t_16
  have nd_24 := nodup_of hw
  have t_25 : pI S_1 1000 x = 0 := tI_sI eS_1 rfl (hzI 1000)
  have t_26 : pI S_8 1000 x = 0 := by rw [eS_8, pI_sN]; exact t_25
  have t_27 : pI S_17 1000 x = 0 := tI_sR eS_17 t_26
  have t_28 : At S_17 q_7 13 := tAt_sR eS_17 ha_13
  have t_29 : pN S_17 q_7 = 400 := tN_sR eS_17 hn_14
  clear hn_14
  obtain ⟨S_30, eS_30⟩ : ∃ T, T = sK S_17 x 10 := ⟨_, rfl⟩
  have hw := Wd_sK (k := 10) hw t_23 rfl; rw [← eS_30] at hw
  have hg9 : GX S_30 := by rw [eS_30]; exact GX_sK hg_21 t_23 (by decide +kernel) (mk_10 (by rw [pI_sK, t_27]; exact ⟨by rw [ti_0]; omega, by rw [ti_0]; omega⟩) ⟨q_7, (by rw [pR_sK]; exact h_22), At_sK t_23 t_28 (by decide), by rw [pN_sK]; exact t_29⟩)
  have ha9 : At S_30 x 10 := by rw [eS_30]; exact At_nK t_23
  have hk9 : Kq S S_30 x := hK_20.sK eS_30
  have hPhc9 : Phc S_30 = Phc S + 0 := by rw [show Phc S_30 = Ph fC 8 14400 S_30 from rfl, Ph_sK nd_24 t_23 (by decide) eS_30, ph_0 ha9 (by decide)]; show Phc S_17 + _ = _; omega
  have hPhs9 : Phs S_30 = Phs S + 0 := by rw [show Phs S_30 = Ph fS 15100 46000 S_30 from rfl, Ph_sK nd_24 t_23 (by decide) eS_30, ph_0 ha9 (by decide)]; show Phs S_17 + _ = _; omega
  exact ret_v X hw hr hlocks (by show 1 ≤ 1; omega) (by show 400 ≤ 400; omega) ⟨hk9, hg9, ha9, hPhc9, hPhs9, (by rw [eS_30, pI_sK]; exact t_27)⟩ dX10_init_18
