theorem dX1_init_0 : decode cX1_init 0 = .ok (.aload_n 0, 1) := by decide +kernel
theorem dX1_init_1 : decode cX1_init 1 = .ok (.invokespecial 3, 3) := by decide +kernel
theorem dX1_init_4 : decode cX1_init 4 = .ok (.aload_n 0, 1) := by decide +kernel
theorem dX1_init_5 : decode cX1_init 5 = .ok (.iconst 5, 1) := by decide +kernel
theorem dX1_init_6 : decode cX1_init 6 = .ok (.newarray .int, 2) := by decide +kernel
theorem dX1_init_8 : decode cX1_init 8 = .ok (.putfield 9, 3) := by decide +kernel
theorem dX1_init_11 : decode cX1_init 11 = .ok (.return_, 1) := by decide +kernel
theorem dX2_init_0 : decode cX2_init 0 = .ok (.aload_n 0, 1) := by decide +kernel
theorem dX2_init_1 : decode cX2_init 1 = .ok (.invokespecial 3, 3) := by decide +kernel
theorem dX2_init_4 : decode cX2_init 4 = .ok (.aload_n 0, 1) := by decide +kernel
theorem dX2_init_5 : decode cX2_init 5 = .ok (.bipush 14, 2) := by decide +kernel
theorem dX2_init_7 : decode cX2_init 7 = .ok (.newarray .int, 2) := by decide +kernel
theorem dX2_init_9 : decode cX2_init 9 = .ok (.putfield 9, 3) := by decide +kernel
theorem dX2_init_12 : decode cX2_init 12 = .ok (.aload_n 0, 1) := by decide +kernel
theorem dX2_init_13 : decode cX2_init 13 = .ok (.bipush 14, 2) := by decide +kernel
theorem dX2_init_15 : decode cX2_init 15 = .ok (.newarray .int, 2) := by decide +kernel
theorem dX2_init_17 : decode cX2_init 17 = .ok (.putfield 15, 3) := by decide +kernel
theorem dX2_init_20 : decode cX2_init 20 = .ok (.aload_n 0, 1) := by decide +kernel
theorem dX2_init_21 : decode cX2_init 21 = .ok (.bipush 14, 2) := by decide +kernel
theorem dX2_init_23 : decode cX2_init 23 = .ok (.newarray .int, 2) := by decide +kernel
theorem dX2_init_25 : decode cX2_init 25 = .ok (.putfield 18, 3) := by decide +kernel
theorem dX2_init_28 : decode cX2_init 28 = .ok (.return_, 1) := by decide +kernel
theorem dX3_init_0 : decode cX3_init 0 = .ok (.aload_n 0, 1) := by decide +kernel
theorem dX3_init_1 : decode cX3_init 1 = .ok (.invokespecial 3, 3) := by decide +kernel
theorem dX3_init_4 : decode cX3_init 4 = .ok (.aload_n 0, 1) := by decide +kernel
theorem dX3_init_5 : decode cX3_init 5 = .ok (.iconst (-1), 1) := by decide +kernel
theorem dX3_init_6 : decode cX3_init 6 = .ok (.putfield 9, 3) := by decide +kernel
theorem dX3_init_9 : decode cX3_init 9 = .ok (.aload_n 0, 1) := by decide +kernel
theorem dX3_init_10 : decode cX3_init 10 = .ok (.bipush 8, 2) := by decide +kernel
theorem dX3_init_12 : decode cX3_init 12 = .ok (.newarray .int, 2) := by decide +kernel
theorem dX3_init_14 : decode cX3_init 14 = .ok (.putfield 15, 3) := by decide +kernel
theorem dX3_init_17 : decode cX3_init 17 = .ok (.return_, 1) := by decide +kernel
set_option maxRecDepth 20000 in
theorem ggX8_init_X2_init : GoodIn wsX8_init wsX2_init := goodIn_h _ [2, 0, 0, 11, 0, 0, 0, 0, 13, 0, 0, 0, 0, 0, 0, 0] [3, 4, 0, 1, 2, 5, 6, 7, 8, 9, 10, 11, 12, 13, 14, 15] (by decide +kernel) (by decide +kernel)
set_option maxRecDepth 20000 in
theorem gX8_init_X2_init_n32 : GoodIn wsX8_init (wsX2_init) := ggX8_init_X2_init
theorem dX8_init_0 : decode cX8_init 0 = .ok (.aload_n 0, 1) := by decide +kernel
theorem dX8_init_1 : decode cX8_init 1 = .ok (.invokespecial 3, 3) := by decide +kernel
theorem dX8_init_4 : decode cX8_init 4 = .ok (.aload_n 0, 1) := by decide +kernel
theorem dX8_init_5 : decode cX8_init 5 = .ok (.iconst 4, 1) := by decide +kernel
theorem dX8_init_6 : decode cX8_init 6 = .ok (.newarray .int, 2) := by decide +kernel
theorem dX8_init_8 : decode cX8_init 8 = .ok (.dup, 1) := by decide +kernel
theorem dX8_init_9 : decode cX8_init 9 = .ok (.iconst 0, 1) := by decide +kernel
theorem dX8_init_10 : decode cX8_init 10 = .ok (.bipush 100, 2) := by decide +kernel
theorem dX8_init_12 : decode cX8_init 12 = .ok (.iastore, 1) := by decide +kernel
theorem dX8_init_13 : decode cX8_init 13 = .ok (.dup, 1) := by decide +kernel
theorem dX8_init_14 : decode cX8_init 14 = .ok (.iconst 1, 1) := by decide +kernel
theorem dX8_init_15 : decode cX8_init 15 = .ok (.bipush 80, 2) := by decide +kernel
theorem dX8_init_17 : decode cX8_init 17 = .ok (.iastore, 1) := by decide +kernel
theorem dX8_init_18 : decode cX8_init 18 = .ok (.dup, 1) := by decide +kernel
theorem dX8_init_19 : decode cX8_init 19 = .ok (.iconst 2, 1) := by decide +kernel
theorem dX8_init_20 : decode cX8_init 20 = .ok (.bipush 50, 2) := by decide +kernel
theorem dX8_init_22 : decode cX8_init 22 = .ok (.iastore, 1) := by decide +kernel
theorem dX8_init_23 : decode cX8_init 23 = .ok (.dup, 1) := by decide +kernel
theorem dX8_init_24 : decode cX8_init 24 = .ok (.iconst 3, 1) := by decide +kernel
theorem dX8_init_25 : decode cX8_init 25 = .ok (.bipush 20, 2) := by decide +kernel
theorem dX8_init_27 : decode cX8_init 27 = .ok (.iastore, 1) := by decide +kernel
theorem dX8_init_28 : decode cX8_init 28 = .ok (.putfield 9, 3) := by decide +kernel
theorem dX8_init_31 : decode cX8_init 31 = .ok (.aload_n 0, 1) := by decide +kernel
theorem dX8_init_32 : decode cX8_init 32 = .ok (.bipush 40, 2) := by decide +kernel
theorem dX8_init_34 : decode cX8_init 34 = .ok (.anewarray 15, 3) := by decide +kernel
theorem dX8_init_37 : decode cX8_init 37 = .ok (.putfield 17, 3) := by decide +kernel
theorem dX8_init_40 : decode cX8_init 40 = .ok (.aload_n 0, 1) := by decide +kernel
theorem dX8_init_41 : decode cX8_init 41 = .ok (.bipush 40, 2) := by decide +kernel
theorem dX8_init_43 : decode cX8_init 43 = .ok (.newarray .int, 2) := by decide +kernel
theorem dX8_init_45 : decode cX8_init 45 = .ok (.putfield 21, 3) := by decide +kernel
theorem dX8_init_48 : decode cX8_init 48 = .ok (.aload_n 0, 1) := by decide +kernel
theorem dX8_init_49 : decode cX8_init 49 = .ok (.bipush 40, 2) := by decide +kernel
theorem dX8_init_51 : decode cX8_init 51 = .ok (.newarray .int, 2) := by decide +kernel
theorem dX8_init_53 : decode cX8_init 53 = .ok (.putfield 24, 3) := by decide +kernel
theorem dX8_init_56 : decode cX8_init 56 = .ok (.aload_n 0, 1) := by decide +kernel
theorem dX8_init_57 : decode cX8_init 57 = .ok (.bipush 40, 2) := by decide +kernel
theorem dX8_init_59 : decode cX8_init 59 = .ok (.newarray .int, 2) := by decide +kernel
theorem dX8_init_61 : decode cX8_init 61 = .ok (.putfield 27, 3) := by decide +kernel
theorem dX8_init_64 : decode cX8_init 64 = .ok (.aload_n 0, 1) := by decide +kernel
theorem dX8_init_65 : decode cX8_init 65 = .ok (.new 30, 3) := by decide +kernel
theorem dX8_init_68 : decode cX8_init 68 = .ok (.dup, 1) := by decide +kernel
theorem dX8_init_69 : decode cX8_init 69 = .ok (.invokespecial 32, 3) := by decide +kernel
theorem dX8_init_72 : decode cX8_init 72 = .ok (.putfield 33, 3) := by decide +kernel
theorem dX8_init_75 : decode cX8_init 75 = .ok (.return_, 1) := by decide +kernel
theorem dX10_init_0 : decode cX10_init 0 = .ok (.aload_n 0, 1) := by decide +kernel
theorem dX10_init_1 : decode cX10_init 1 = .ok (.invokespecial 3, 3) := by decide +kernel
theorem dX10_init_4 : decode cX10_init 4 = .ok (.aload_n 0, 1) := by decide +kernel
theorem dX10_init_5 : decode cX10_init 5 = .ok (.iconst (-1), 1) := by decide +kernel
theorem dX10_init_6 : decode cX10_init 6 = .ok (.putfield 9, 3) := by decide +kernel
theorem dX10_init_9 : decode cX10_init 9 = .ok (.aload_n 0, 1) := by decide +kernel
theorem dX10_init_10 : decode cX10_init 10 = .ok (.sipush 400, 3) := by decide +kernel
theorem dX10_init_13 : decode cX10_init 13 = .ok (.newarray .byte, 2) := by decide +kernel
theorem dX10_init_15 : decode cX10_init 15 = .ok (.putfield 15, 3) := by decide +kernel
theorem dX10_init_18 : decode cX10_init 18 = .ok (.return_, 1) := by decide +kernel
theorem inn_X10_init_10 : ∀ w ∈ u_ws RX10 TX10 7, w ∈ wsX10_init := fun w h => List.mem_cons_of_mem _ (List.mem_append_right _ h)
theorem inn_X1_init_1 : ∀ w ∈ u_ws RX1 TX1 4, w ∈ wsX1_init := fun w h => List.mem_cons_of_mem _ (List.mem_append_right _ h)
theorem inn_X2_init_2 : ∀ w ∈ u_ws RX2 TX2 8, w ∈ wsX2_init := fun w h => List.mem_cons_of_mem _ (List.mem_append_right _ h)
theorem inn_X3_init_3 : ∀ w ∈ u_ws RX3 TX3 5, w ∈ wsX3_init := fun w h => List.mem_cons_of_mem _ (List.mem_append_right _ h)
theorem inn_X8_init_2 : ∀ w ∈ u_ws RX2 TX2 8, w ∈ wsX8_init := fun w h => List.mem_cons_of_mem _ (List.mem_append_right _ h)
theorem inn_X8_init_8 : ∀ w ∈ u_ws RX8 TX8 13, w ∈ wsX8_init := fun w h => List.mem_cons_of_mem _ (List.mem_append_left _ (List.mem_append_right _ h))
set_option maxHeartbeats 4000000 in
set_option maxRecDepth 100000 in
theorem k_X1_init (l : Launch) (G : va_G) (cy : Nat → ClassId) (κ : Nat → Nat) (S : PS) (sz : Nat) (x : Nat) (hG : GX S) (ha_x : At S x 181) (hzI : ∀ g, pI S g x = 0) (hzR : ∀ g, pR S g x = none) : Cv l yX1_init wsX1_init ({ frames := 2, cells := 1, slots := 5, locals := 96 }) G cy κ S sz [.ref x] (fun (S9 : PS) => Kq S S9 x ∧ GX S9 ∧ At S9 x 1 ∧ Phc S9 = Phc S + 0 ∧ Phs S9 = Phs S + 0) := by
  refine ent_m (cc := cX1_init) (maxL := 1) (ret := none) (by decide) rfl (Nat.le_of_ble_eq_true rfl) ?_
  intro p e s m below meth c ls X hr hlocks hin hw hl hsz
  subst hsz
  have X : Cx p c cX1_init 1 s [.ref x].toArray wsX1_init RX1 m G cy κ (AS S s.heap.size) := X
  have hl : lv_has ls 1 [(0, .ref x)] := hl
  have hpc0 : Phc S = Phc S + 0 := rfl
  have hps0 : Phs S = Phs S + 0 := rfl
  have hK : Kq S S x := Kq.rf S _
  refine lv_aload_n X.1 X.2.1 dX1_init_0 rfl (lv_at hl 0 rfl) ?_
  refine W.objInit X.1 X.2.1 X.2.2.2.2.1 (X.2.2.2.1 (.methodLink RX1 3 objectInit) (by decide +kernel)) (X.2.2.2.1 (.instanceMethod objectInit) (by decide +kernel)) (X.2.2.2.1 (.code objectInit ⟨#[0xb1]⟩ 1 none) (by decide +kernel)) rfl (hl.1.trans X.2.2.1.symm) rfl dX1_init_1 (Nat.le_of_ble_eq_true rfl) (Nat.le_of_ble_eq_true rfl) ?_
  refine W.eq (g2 := F0 m 4 ls ([])) rfl ?_
  refine lv_aload_n X.1 X.2.1 dX1_init_4 rfl (lv_at hl 0 rfl) ?_
  refine lv_iconst (v := 5) X.1 X.2.1 dX1_init_5 (by decide) ?_
  refine r_newI (N := 5) X hw 74 5 1 rfl (X.2.2.2.1 (.arrayClass .int) (by decide +kernel)) (z_nn ti_5 (by omega)) (by decide) (by decide) (Nat.le_of_ble_eq_true rfl) (Nat.le_of_ble_eq_true rfl) (Nat.le_of_ble_eq_true rfl) (Nat.le_of_ble_eq_true rfl) dX1_init_6 (fun q_1 H hq_1 hw => ?_)
  obtain ⟨S_2, eS_2⟩ : ∃ T, T = sN S q_1 74 5 := ⟨_, rfl⟩
  rw [← eS_2] at hw
  have ph_3 : Phc S_2 = Phc S + 0 := (show Phc S_2 = Phc S from Ph_sN' hG.ci hq_1 eS_2 (by decide)).trans hpc0
  have ph_4 : Phs S_2 = Phs S + 0 := (show Phs S_2 = Phs S from Ph_sN' hG.ci hq_1 eS_2 (by decide)).trans hps0
  clear hpc0
  clear hps0
  have hK_5 : Kq S S_2 x := hK.sN hq_1 eS_2
  have hg_6 : GX S_2 := by rw [eS_2]; exact GX_N hG hq_1 (by decide +kernel)
  have hn0_q_1 := hK.new hq_1
  have ha_7 : At S_2 q_1 74 := by rw [eS_2]; exact At_nN _ _ _ _
  have hn_8 : pN S_2 q_1 = 5 := by rw [eS_2]; exact pN_sN_new
  have t_9 : At S_2 x 181 := by rw [eS_2]; exact At_sN ha_x hq_1
  refine r_putR X hw t_9 rfl 0 100 (some q_1) rfl tyX1 (by decide) rfl inn_X1_init_1 tyX1_ok nmX1 (by decide) (X.2.2.2.1 (.fieldLink RX1 9 "SilkMill$Draw" "metres" "[I") (by decide +kernel)) rfl (Or.inr ⟨rfl, hin, rfl⟩) (fun _ => rfl) rfl (fun _ => rfl) rfl (Nat.le_of_ble_eq_true rfl) (st_100 _ _) dX1_init_8 (fun H locs hw => ?_)
  obtain ⟨S_10, eS_10⟩ : ∃ T, T = sR S_2 100 x (some q_1) := ⟨_, rfl⟩
  rw [← eS_10] at hw
  have ph_11 : Phc S_10 = Phc S + 0 := (show Phc S_10 = Phc S_2 from Ph_rawR t_9 (by decide) eS_10).trans ph_3
  have ph_12 : Phs S_10 = Phs S + 0 := (show Phs S_10 = Phs S_2 from Ph_rawR t_9 (by decide) eS_10).trans ph_4
  clear ph_3
  clear ph_4
  have hK_13 : Kq S S_10 x := hK_5.sR eS_10
  have hg_14 : GX S_10 := by rw [eS_10]; exact GX_rawR hg_6 t_9 (by decide +kernel)
  have h_15 : pR S_10 100 x = some q_1 := tR_sRs eS_10
  have t_16 : At S_10 x 181 := tAt_sR eS_10 t_9
  have nd_17 := nodup_of hw
  have t_18 : At S_10 q_1 74 := tAt_sR eS_10 ha_7
  have t_19 : pN S_10 q_1 = 5 := tN_sR eS_10 hn_8
  clear hn_8
  have t_20 : pI S_2 101 x = 0 := by rw [eS_2, pI_sN]; exact (hzI 101)
  have t_21 : pI S_10 101 x = 0 := tI_sR eS_10 t_20
  obtain ⟨S_22, eS_22⟩ : ∃ T, T = sK S_10 x 1 := ⟨_, rfl⟩
  have hw := Wd_sK (k := 1) hw t_16 rfl; rw [← eS_22] at hw
  have hg9 : GX S_22 := by rw [eS_22]; exact GX_sK hg_14 t_16 (by decide +kernel) (mk_1 ⟨q_1, (by rw [pR_sK]; exact h_15), At_sK t_16 t_18 (by decide), by rw [pN_sK]; exact t_19⟩ (by rw [pI_sK, t_21]; exact ⟨by rw [ti_0]; omega, by rw [ti_0]; omega⟩))
  have ha9 : At S_22 x 1 := by rw [eS_22]; exact At_nK t_16
  have hk9 : Kq S S_22 x := hK_13.sK eS_22
  have hPhc9 : Phc S_22 = Phc S + 0 := by rw [show Phc S_22 = Ph fC 8 14400 S_22 from rfl, Ph_sK nd_17 t_16 (by decide) eS_22, ph_0 ha9 (by decide)]; show Phc S_10 + _ = _; omega
  have hPhs9 : Phs S_22 = Phs S + 0 := by rw [show Phs S_22 = Ph fS 15100 46000 S_22 from rfl, Ph_sK nd_17 t_16 (by decide) eS_22, ph_0 ha9 (by decide)]; show Phs S_10 + _ = _; omega
  exact ret_v X hw hr hlocks (Nat.le_of_ble_eq_true rfl) (Nat.le_of_ble_eq_true rfl) ⟨hk9, hg9, ha9, hPhc9, hPhs9⟩ dX1_init_11
set_option maxHeartbeats 4000000 in
set_option maxRecDepth 100000 in
theorem k_X2_init (l : Launch) (G : va_G) (cy : Nat → ClassId) (κ : Nat → Nat) (S : PS) (sz : Nat) (x : Nat) (hG : GX S) (ha_x : At S x 182) (hzI : ∀ g, pI S g x = 0) (hzR : ∀ g, pR S g x = none) : Cv l yX2_init wsX2_init ({ frames := 2, cells := 3, slots := 42, locals := 96 }) G cy κ S sz [.ref x] (fun (S9 : PS) => Kq S S9 x ∧ GX S9 ∧ At S9 x 2 ∧ Phc S9 = Phc S + 0 ∧ Phs S9 = Phs S + 0) := by
  refine ent_m (cc := cX2_init) (maxL := 1) (ret := none) (by decide) rfl (Nat.le_of_ble_eq_true rfl) ?_
  intro p e s m below meth c ls X hr hlocks hin hw hl hsz
  subst hsz
  have X : Cx p c cX2_init 1 s [.ref x].toArray wsX2_init RX2 m G cy κ (AS S s.heap.size) := X
  have hl : lv_has ls 1 [(0, .ref x)] := hl
  have hpc0 : Phc S = Phc S + 0 := rfl
  have hps0 : Phs S = Phs S + 0 := rfl
  have hK : Kq S S x := Kq.rf S _
  refine lv_aload_n X.1 X.2.1 dX2_init_0 rfl (lv_at hl 0 rfl) ?_
  refine W.objInit X.1 X.2.1 X.2.2.2.2.1 (X.2.2.2.1 (.methodLink RX2 3 objectInit) (by decide +kernel)) (X.2.2.2.1 (.instanceMethod objectInit) (by decide +kernel)) (X.2.2.2.1 (.code objectInit ⟨#[0xb1]⟩ 1 none) (by decide +kernel)) rfl (hl.1.trans X.2.2.1.symm) rfl dX2_init_1 (Nat.le_of_ble_eq_true rfl) (Nat.le_of_ble_eq_true rfl) ?_
  refine W.eq (g2 := F0 m 4 ls ([])) rfl ?_
  refine lv_aload_n X.1 X.2.1 dX2_init_4 rfl (lv_at hl 0 rfl) ?_
  refine lv_bipush (v := 14) X.1 X.2.1 dX2_init_5 (by decide) ?_
  refine r_newI (N := 14) X hw 94 14 1 rfl (X.2.2.2.1 (.arrayClass .int) (by decide +kernel)) (z_nn ti_14 (by omega)) (by decide) (by decide) (Nat.le_of_ble_eq_true rfl) (Nat.le_of_ble_eq_true rfl) (Nat.le_of_ble_eq_true rfl) (Nat.le_of_ble_eq_true rfl) dX2_init_7 (fun q_1 H hq_1 hw => ?_)
  obtain ⟨S_2, eS_2⟩ : ∃ T, T = sN S q_1 94 14 := ⟨_, rfl⟩
  rw [← eS_2] at hw
  have ph_3 : Phc S_2 = Phc S + 0 := (show Phc S_2 = Phc S from Ph_sN' hG.ci hq_1 eS_2 (by decide)).trans hpc0
  have ph_4 : Phs S_2 = Phs S + 0 := (show Phs S_2 = Phs S from Ph_sN' hG.ci hq_1 eS_2 (by decide)).trans hps0
  clear hpc0
  clear hps0
  have hK_5 : Kq S S_2 x := hK.sN hq_1 eS_2
  have hg_6 : GX S_2 := by rw [eS_2]; exact GX_N hG hq_1 (by decide +kernel)
  have hn0_q_1 := hK.new hq_1
  have ha_7 : At S_2 q_1 94 := by rw [eS_2]; exact At_nN _ _ _ _
  have hn_8 : pN S_2 q_1 = 14 := by rw [eS_2]; exact pN_sN_new
  have t_9 : At S_2 x 182 := by rw [eS_2]; exact At_sN ha_x hq_1
  refine r_putR X hw t_9 rfl 0 200 (some q_1) rfl tyX2 (by decide) rfl inn_X2_init_2 tyX2_ok nmX2 (by decide) (X.2.2.2.1 (.fieldLink RX2 9 "SilkMill$Mixer" "numbers" "[I") (by decide +kernel)) rfl (Or.inr ⟨rfl, hin, rfl⟩) (fun _ => rfl) rfl (fun _ => rfl) rfl (Nat.le_of_ble_eq_true rfl) (st_200 _ _) dX2_init_9 (fun H locs hw => ?_)
  obtain ⟨S_10, eS_10⟩ : ∃ T, T = sR S_2 200 x (some q_1) := ⟨_, rfl⟩
  rw [← eS_10] at hw
  have ph_11 : Phc S_10 = Phc S + 0 := (show Phc S_10 = Phc S_2 from Ph_rawR t_9 (by decide) eS_10).trans ph_3
  have ph_12 : Phs S_10 = Phs S + 0 := (show Phs S_10 = Phs S_2 from Ph_rawR t_9 (by decide) eS_10).trans ph_4
  clear ph_3
  clear ph_4
  have hK_13 : Kq S S_10 x := hK_5.sR eS_10
  have hg_14 : GX S_10 := by rw [eS_10]; exact GX_rawR hg_6 t_9 (by decide +kernel)
  have h_15 : pR S_10 200 x = some q_1 := tR_sRs eS_10
  refine lv_aload_n X.1 X.2.1 dX2_init_12 rfl (lv_at hl 0 rfl) ?_
  refine lv_bipush (v := 14) X.1 X.2.1 dX2_init_13 (by decide) ?_
  refine r_newI (N := 14) X hw 94 28 2 rfl (X.2.2.2.1 (.arrayClass .int) (by decide +kernel)) (z_nn ti_14 (by omega)) (by decide) (by decide) (Nat.le_of_ble_eq_true rfl) (Nat.le_of_ble_eq_true rfl) (Nat.le_of_ble_eq_true rfl) (Nat.le_of_ble_eq_true rfl) dX2_init_15 (fun q_16 H hq_16 hw => ?_)
  obtain ⟨S_17, eS_17⟩ : ∃ T, T = sN S_10 q_16 94 14 := ⟨_, rfl⟩
  rw [← eS_17] at hw
  have ph_18 : Phc S_17 = Phc S + 0 := (show Phc S_17 = Phc S_10 from Ph_sN' hg_14.ci hq_16 eS_17 (by decide)).trans ph_11
  have ph_19 : Phs S_17 = Phs S + 0 := (show Phs S_17 = Phs S_10 from Ph_sN' hg_14.ci hq_16 eS_17 (by decide)).trans ph_12
  clear ph_11
  clear ph_12
  have hK_20 : Kq S S_17 x := hK_13.sN hq_16 eS_17
  have hg_21 : GX S_17 := by rw [eS_17]; exact GX_N hg_14 hq_16 (by decide +kernel)
  have hn0_q_16 := hK_13.new hq_16
  have ha_22 : At S_17 q_16 94 := by rw [eS_17]; exact At_nN _ _ _ _
  have hn_23 : pN S_17 q_16 = 14 := by rw [eS_17]; exact pN_sN_new
  have t_24 : At S_10 x 182 := tAt_sR eS_10 t_9
  have t_25 : At S_17 x 182 := by rw [eS_17]; exact At_sN t_24 hq_16
  refine r_putR X hw t_25 rfl 1 201 (some q_16) rfl tyX2 (by decide) rfl inn_X2_init_2 tyX2_ok nmX2 (by decide) (X.2.2.2.1 (.fieldLink RX2 15 "SilkMill$Mixer" "weights" "[I") (by decide +kernel)) rfl (Or.inr ⟨rfl, hin, rfl⟩) (fun _ => rfl) rfl (fun _ => rfl) rfl (Nat.le_of_ble_eq_true rfl) (st_201 _ _) dX2_init_17 (fun H locs hw => ?_)
  obtain ⟨S_26, eS_26⟩ : ∃ T, T = sR S_17 201 x (some q_16) := ⟨_, rfl⟩
  rw [← eS_26] at hw
  have ph_27 : Phc S_26 = Phc S + 0 := (show Phc S_26 = Phc S_17 from Ph_rawR t_25 (by decide) eS_26).trans ph_18
  have ph_28 : Phs S_26 = Phs S + 0 := (show Phs S_26 = Phs S_17 from Ph_rawR t_25 (by decide) eS_26).trans ph_19
  clear ph_18
  clear ph_19
  have hK_29 : Kq S S_26 x := hK_20.sR eS_26
  have hg_30 : GX S_26 := by rw [eS_26]; exact GX_rawR hg_21 t_25 (by decide +kernel)
  have h_31 : pR S_26 201 x = some q_16 := tR_sRs eS_26
  refine lv_aload_n X.1 X.2.1 dX2_init_20 rfl (lv_at hl 0 rfl) ?_
  refine lv_bipush (v := 14) X.1 X.2.1 dX2_init_21 (by decide) ?_
  refine r_newI (N := 14) X hw 94 42 3 rfl (X.2.2.2.1 (.arrayClass .int) (by decide +kernel)) (z_nn ti_14 (by omega)) (by decide) (by decide) (Nat.le_of_ble_eq_true rfl) (Nat.le_of_ble_eq_true rfl) (Nat.le_of_ble_eq_true rfl) (Nat.le_of_ble_eq_true rfl) dX2_init_23 (fun q_32 H hq_32 hw => ?_)
  obtain ⟨S_33, eS_33⟩ : ∃ T, T = sN S_26 q_32 94 14 := ⟨_, rfl⟩
  rw [← eS_33] at hw
  have ph_34 : Phc S_33 = Phc S + 0 := (show Phc S_33 = Phc S_26 from Ph_sN' hg_30.ci hq_32 eS_33 (by decide)).trans ph_27
  have ph_35 : Phs S_33 = Phs S + 0 := (show Phs S_33 = Phs S_26 from Ph_sN' hg_30.ci hq_32 eS_33 (by decide)).trans ph_28
  clear ph_27
  clear ph_28
  have hK_36 : Kq S S_33 x := hK_29.sN hq_32 eS_33
  have hg_37 : GX S_33 := by rw [eS_33]; exact GX_N hg_30 hq_32 (by decide +kernel)
  have hn0_q_32 := hK_29.new hq_32
  have ha_38 : At S_33 q_32 94 := by rw [eS_33]; exact At_nN _ _ _ _
  have hn_39 : pN S_33 q_32 = 14 := by rw [eS_33]; exact pN_sN_new
  have t_40 : At S_26 x 182 := tAt_sR eS_26 t_25
  have t_41 : At S_33 x 182 := by rw [eS_33]; exact At_sN t_40 hq_32
  refine r_putR X hw t_41 rfl 2 202 (some q_32) rfl tyX2 (by decide) rfl inn_X2_init_2 tyX2_ok nmX2 (by decide) (X.2.2.2.1 (.fieldLink RX2 18 "SilkMill$Mixer" "prices" "[I") (by decide +kernel)) rfl (Or.inr ⟨rfl, hin, rfl⟩) (fun _ => rfl) rfl (fun _ => rfl) rfl (Nat.le_of_ble_eq_true rfl) (st_202 _ _) dX2_init_25 (fun H locs hw => ?_)
  obtain ⟨S_42, eS_42⟩ : ∃ T, T = sR S_33 202 x (some q_32) := ⟨_, rfl⟩
  rw [← eS_42] at hw
  have ph_43 : Phc S_42 = Phc S + 0 := (show Phc S_42 = Phc S_33 from Ph_rawR t_41 (by decide) eS_42).trans ph_34
  have ph_44 : Phs S_42 = Phs S + 0 := (show Phs S_42 = Phs S_33 from Ph_rawR t_41 (by decide) eS_42).trans ph_35
  clear ph_34
  clear ph_35
  have hK_45 : Kq S S_42 x := hK_36.sR eS_42
  have hg_46 : GX S_42 := by rw [eS_42]; exact GX_rawR hg_37 t_41 (by decide +kernel)
  have h_47 : pR S_42 202 x = some q_32 := tR_sRs eS_42
  have t_48 : At S_42 x 182 := tAt_sR eS_42 t_41
  have nd_49 := nodup_of hw
  have t_50 : pR S_17 200 x = some q_1 := by rw [eS_17, pR_sN]; exact h_15
  have t_51 : pR S_26 200 x = some q_1 := tR_sR eS_26 rfl t_50
  have t_52 : pR S_33 200 x = some q_1 := by rw [eS_33, pR_sN]; exact t_51
  have t_53 : pR S_42 200 x = some q_1 := tR_sR eS_42 rfl t_52
  have t_54 : At S_10 q_1 94 := tAt_sR eS_10 ha_7
  have t_55 : At S_17 q_1 94 := by rw [eS_17]; exact At_sN t_54 hq_16
  have t_56 : At S_26 q_1 94 := tAt_sR eS_26 t_55
  have t_57 : At S_33 q_1 94 := by rw [eS_33]; exact At_sN t_56 hq_32
  have t_58 : At S_42 q_1 94 := tAt_sR eS_42 t_57
  have t_59 : pN S_10 q_1 = 14 := tN_sR eS_10 hn_8
  clear hn_8
  have t_61 : At S_10 q_1 94 := tAt_sR eS_10 ha_7
  have t_60 : pN S_17 q_1 = 14 := by rw [eS_17]; exact (pN_sN_ne (ne_of_new hq_16 t_61.1)).trans t_59
  clear t_59
  have t_62 : pN S_26 q_1 = 14 := tN_sR eS_26 t_60
  clear t_60
  have t_64 : At S_17 q_1 94 := by rw [eS_17]; exact At_sN t_61 hq_16
  have t_65 : At S_26 q_1 94 := tAt_sR eS_26 t_64
  have t_63 : pN S_33 q_1 = 14 := by rw [eS_33]; exact (pN_sN_ne (ne_of_new hq_32 t_65.1)).trans t_62
  clear t_62
  have t_66 : pN S_42 q_1 = 14 := tN_sR eS_42 t_63
  clear t_63
  have t_67 : pR S_33 201 x = some q_16 := by rw [eS_33, pR_sN]; exact h_31
  have t_68 : pR S_42 201 x = some q_16 := tR_sR eS_42 rfl t_67
  have t_69 : At S_26 q_16 94 := tAt_sR eS_26 ha_22
  have t_70 : At S_33 q_16 94 := by rw [eS_33]; exact At_sN t_69 hq_32
  have t_71 : At S_42 q_16 94 := tAt_sR eS_42 t_70
  have t_72 : pN S_26 q_16 = 14 := tN_sR eS_26 hn_23
  clear hn_23
  have t_74 : At S_26 q_16 94 := tAt_sR eS_26 ha_22
  have t_73 : pN S_33 q_16 = 14 := by rw [eS_33]; exact (pN_sN_ne (ne_of_new hq_32 t_74.1)).trans t_72
  clear t_72
  have t_75 : pN S_42 q_16 = 14 := tN_sR eS_42 t_73
  clear t_73
  have t_76 : At S_42 q_32 94 := tAt_sR eS_42 ha_38
  have t_77 : pN S_42 q_32 = 14 := tN_sR eS_42 hn_39
  clear hn_39
  have t_78 : pI S_2 203 x = 0 := by rw [eS_2, pI_sN]; exact (hzI 203)
  have t_79 : pI S_10 203 x = 0 := tI_sR eS_10 t_78
  have t_80 : pI S_17 203 x = 0 := by rw [eS_17, pI_sN]; exact t_79
  have t_81 : pI S_26 203 x = 0 := tI_sR eS_26 t_80
  have t_82 : pI S_33 203 x = 0 := by rw [eS_33, pI_sN]; exact t_81
  have t_83 : pI S_42 203 x = 0 := tI_sR eS_42 t_82
  obtain ⟨S_84, eS_84⟩ : ∃ T, T = sK S_42 x 2 := ⟨_, rfl⟩
  have hw := Wd_sK (k := 2) hw t_48 rfl; rw [← eS_84] at hw
  have hg9 : GX S_84 := by rw [eS_84]; exact GX_sK hg_46 t_48 (by decide +kernel) (mk_2 ⟨q_1, (by rw [pR_sK]; exact t_53), At_sK t_48 t_58 (by decide), by rw [pN_sK]; exact t_66⟩ ⟨q_16, (by rw [pR_sK]; exact t_68), At_sK t_48 t_71 (by decide), by rw [pN_sK]; exact t_75⟩ ⟨q_32, (by rw [pR_sK]; exact h_47), At_sK t_48 t_76 (by decide), by rw [pN_sK]; exact t_77⟩ (by rw [pI_sK, t_83]; exact ⟨by rw [ti_0]; omega, by rw [ti_0]; omega⟩))
  have ha9 : At S_84 x 2 := by rw [eS_84]; exact At_nK t_48
  have hk9 : Kq S S_84 x := hK_45.sK eS_84
  have hPhc9 : Phc S_84 = Phc S + 0 := by rw [show Phc S_84 = Ph fC 8 14400 S_84 from rfl, Ph_sK nd_49 t_48 (by decide) eS_84, ph_0 ha9 (by decide)]; show Phc S_42 + _ = _; omega
  have hPhs9 : Phs S_84 = Phs S + 0 := by rw [show Phs S_84 = Ph fS 15100 46000 S_84 from rfl, Ph_sK nd_49 t_48 (by decide) eS_84, ph_0 ha9 (by decide)]; show Phs S_42 + _ = _; omega
  exact ret_v X hw hr hlocks (Nat.le_of_ble_eq_true rfl) (Nat.le_of_ble_eq_true rfl) ⟨hk9, hg9, ha9, hPhc9, hPhs9⟩ dX2_init_28
set_option maxHeartbeats 4000000 in
set_option maxRecDepth 100000 in
theorem k_X10_init (l : Launch) (G : va_G) (cy : Nat → ClassId) (κ : Nat → Nat) (S : PS) (sz : Nat) (x : Nat) (hG : GX S) (ha_x : At S x 190) (hzI : ∀ g, pI S g x = 0) (hzR : ∀ g, pR S g x = none) : Cv l yX10_init wsX10_init ({ frames := 2, cells := 1, slots := 400, locals := 96 }) G cy κ S sz [.ref x] (fun (S9 : PS) => Kq S S9 x ∧ GX S9 ∧ At S9 x 10 ∧ Phc S9 = Phc S + 0 ∧ Phs S9 = Phs S + 0 ∧ pI S9 1000 x = 0) := by
  refine ent_m (cc := cX10_init) (maxL := 1) (ret := none) (by decide) rfl (Nat.le_of_ble_eq_true rfl) ?_
  intro p e s m below meth c ls X hr hlocks hin hw hl hsz
  subst hsz
  have X : Cx p c cX10_init 1 s [.ref x].toArray wsX10_init RX10 m G cy κ (AS S s.heap.size) := X
  have hl : lv_has ls 1 [(0, .ref x)] := hl
  have hpc0 : Phc S = Phc S + 0 := rfl
  have hps0 : Phs S = Phs S + 0 := rfl
  have hK : Kq S S x := Kq.rf S _
  refine lv_aload_n X.1 X.2.1 dX10_init_0 rfl (lv_at hl 0 rfl) ?_
  refine W.objInit X.1 X.2.1 X.2.2.2.2.1 (X.2.2.2.1 (.methodLink RX10 3 objectInit) (by decide +kernel)) (X.2.2.2.1 (.instanceMethod objectInit) (by decide +kernel)) (X.2.2.2.1 (.code objectInit ⟨#[0xb1]⟩ 1 none) (by decide +kernel)) rfl (hl.1.trans X.2.2.1.symm) rfl dX10_init_1 (Nat.le_of_ble_eq_true rfl) (Nat.le_of_ble_eq_true rfl) ?_
  refine W.eq (g2 := F0 m 4 ls ([])) rfl ?_
  refine lv_aload_n X.1 X.2.1 dX10_init_4 rfl (lv_at hl 0 rfl) ?_
  refine lv_iconst (v := (-1)) X.1 X.2.1 dX10_init_5 (by decide) ?_
  refine r_putI (v := (-1)) X hw ha_x rfl 2 1002 tyX10 (by decide) rfl inn_X10_init_10 tyX10_ok nmX10 (by decide) (X.2.2.2.1 (.fieldLink RX10 9 "SilkMill$Tape" "faultPlace" "I") (by decide +kernel)) rfl (Or.inl rfl) rfl rfl (Nat.le_of_ble_eq_true rfl) (st_1002 _ _) dX10_init_6 (fun H locs hw => ?_)
  obtain ⟨S_1, eS_1⟩ : ∃ T, T = sI S 1002 x ((-1)) := ⟨_, rfl⟩
  rw [← eS_1] at hw
  have ph_2 : Phc S_1 = Phc S + 0 := (show Phc S_1 = Phc S from Ph_rawI ha_x (by decide) eS_1).trans hpc0
  have ph_3 : Phs S_1 = Phs S + 0 := (show Phs S_1 = Phs S from Ph_rawI ha_x (by decide) eS_1).trans hps0
  clear hpc0
  clear hps0
  have hK_4 : Kq S S_1 x := hK.sI eS_1
  have hg_5 : GX S_1 := by rw [eS_1]; exact GX_rawI hG ha_x (by decide +kernel)
  have h_6 : pI S_1 1002 x = (-1) := tI_sIs eS_1
  refine lv_aload_n X.1 X.2.1 dX10_init_9 rfl (lv_at hl 0 rfl) ?_
  refine lv_sipush (v := 400) X.1 X.2.1 dX10_init_10 (by decide) ?_
  refine r_newB (N := 400) X hw 13 400 1 rfl (X.2.2.2.1 (.arrayClass .byte) (by decide +kernel)) (z_nn ti_400 (by omega)) (by decide) (by decide) (by show 0 + 1 ≤ 1; omega) (by show 0 + 400 ≤ 400; omega) (by show 1 ≤ 1; omega) (by show 400 ≤ 400; omega) dX10_init_13 (fun q_7 H hq_7 hw => ?_)
  obtain ⟨S_8, eS_8⟩ : ∃ T, T = sN S_1 q_7 13 400 := ⟨_, rfl⟩
  rw [← eS_8] at hw
  have ph_9 : Phc S_8 = Phc S + 0 := (show Phc S_8 = Phc S_1 from Ph_sN' hg_5.ci hq_7 eS_8 (by decide)).trans ph_2
  have ph_10 : Phs S_8 = Phs S + 0 := (show Phs S_8 = Phs S_1 from Ph_sN' hg_5.ci hq_7 eS_8 (by decide)).trans ph_3
  clear ph_2
  clear ph_3
  have hK_11 : Kq S S_8 x := hK_4.sN hq_7 eS_8
  have hg_12 : GX S_8 := by rw [eS_8]; exact GX_N hg_5 hq_7 (by decide +kernel)
  have hn0_q_7 := hK_4.new hq_7
  have ha_13 : At S_8 q_7 13 := by rw [eS_8]; exact At_nN _ _ _ _
  have hn_14 : pN S_8 q_7 = 400 := by rw [eS_8]; exact pN_sN_new
  have t_15 : At S_1 x 190 := tAt_sI eS_1 ha_x
  have t_16 : At S_8 x 190 := by rw [eS_8]; exact At_sN t_15 hq_7
  refine r_putR X hw t_16 rfl 3 1003 (some q_7) rfl tyX10 (by decide) rfl inn_X10_init_10 tyX10_ok nmX10 (by decide) (X.2.2.2.1 (.fieldLink RX10 15 "SilkMill$Tape" "bytes" "[B") (by decide +kernel)) rfl (Or.inr ⟨rfl, hin, rfl⟩) (fun _ => rfl) rfl (fun _ => rfl) rfl (Nat.le_of_ble_eq_true rfl) (st_1003 _ _) dX10_init_15 (fun H locs hw => ?_)
  obtain ⟨S_17, eS_17⟩ : ∃ T, T = sR S_8 1003 x (some q_7) := ⟨_, rfl⟩
  rw [← eS_17] at hw
  have ph_18 : Phc S_17 = Phc S + 0 := (show Phc S_17 = Phc S_8 from Ph_rawR t_16 (by decide) eS_17).trans ph_9
  have ph_19 : Phs S_17 = Phs S + 0 := (show Phs S_17 = Phs S_8 from Ph_rawR t_16 (by decide) eS_17).trans ph_10
  clear ph_9
  clear ph_10
  have hK_20 : Kq S S_17 x := hK_11.sR eS_17
  have hg_21 : GX S_17 := by rw [eS_17]; exact GX_rawR hg_12 t_16 (by decide +kernel)
  have h_22 : pR S_17 1003 x = some q_7 := tR_sRs eS_17
  have t_23 : At S_17 x 190 := tAt_sR eS_17 t_16
  have nd_24 := nodup_of hw
  have t_25 : pI S_1 1000 x = 0 := tI_sI eS_1 rfl (hzI 1000)
  have t_26 : pI S_8 1000 x = 0 := by rw [eS_8, pI_sN]; exact t_25
  have t_27 : pI S_17 1000 x = 0 := tI_sR eS_17 t_26
  have t_28 : At S_17 q_7 13 := tAt_sR eS_17 ha_13
  have t_29 : pN S_17 q_7 = 400 := tN_sR eS_17 hn_14
  clear hn_14
  obtain ⟨S_30, eS_30⟩ : ∃ T, T = sK S_17 x 10 := ⟨_, rfl⟩
  have hw := Wd_sK (k := 10) hw t_23 rfl; rw [← eS_30] at hw
  have hg9 : GX S_30 := by rw [eS_30]; exact GX_sK hg_21 t_23 (by decide +kernel) (mk_10 (by rw [pI_sK, t_27]; exact ⟨by rw [ti_0]; omega, by rw [ti_0]; omega⟩) ⟨q_7, (by rw [pR_sK]; exact h_22), At_sK t_23 t_28 (by decide), by rw [pN_sK]; exact t_29⟩)
  have ha9 : At S_30 x 10 := by rw [eS_30]; exact At_nK t_23
  have hk9 : Kq S S_30 x := hK_20.sK eS_30
  have hPhc9 : Phc S_30 = Phc S + 0 := by rw [show Phc S_30 = Ph fC 8 14400 S_30 from rfl, Ph_sK nd_24 t_23 (by decide) eS_30, ph_0 ha9 (by decide)]; show Phc S_17 + _ = _; omega
  have hPhs9 : Phs S_30 = Phs S + 0 := by rw [show Phs S_30 = Ph fS 15100 46000 S_30 from rfl, Ph_sK nd_24 t_23 (by decide) eS_30, ph_0 ha9 (by decide)]; show Phs S_17 + _ = _; omega
  exact ret_v X hw hr hlocks (by show 1 ≤ 1; omega) (by show 400 ≤ 400; omega) ⟨hk9, hg9, ha9, hPhc9, hPhs9, (by rw [eS_30, pI_sK]; exact t_27)⟩ dX10_init_18
set_option maxHeartbeats 4000000 in
set_option maxRecDepth 100000 in
theorem k_X8_init (l : Launch) (G : va_G) (cy : Nat → ClassId) (κ : Nat → Nat) (S : PS) (sz : Nat) (x : Nat) (hG : GX S) (ha_x : At S x 188) (hzI : ∀ g, pI S g x = 0) (hzR : ∀ g, pR S g x = none) : Cv l yX8_init wsX8_init ({ frames := 3, cells := 9, slots := 214, locals := 144 }) G cy κ S sz [.ref x] (fun (S9 : PS) => Kq S S9 x ∧ GX S9 ∧ At S9 x 8 ∧ Phc S9 = Phc S + 320 ∧ Phs S9 = Phs S + 604000 ∧ pI S9 801 x = 0) := by
  refine ent_m (cc := cX8_init) (maxL := 1) (ret := none) (by decide) rfl (Nat.le_of_ble_eq_true rfl) ?_
  intro p e s m below meth c ls X hr hlocks hin hw hl hsz
  subst hsz
  have X : Cx p c cX8_init 1 s [.ref x].toArray wsX8_init RX8 m G cy κ (AS S s.heap.size) := X
  have hl : lv_has ls 1 [(0, .ref x)] := hl
  have hpc0 : Phc S = Phc S + 0 := rfl
  have hps0 : Phs S = Phs S + 0 := rfl
  have hK : Kq S S x := Kq.rf S _
  refine lv_aload_n X.1 X.2.1 dX8_init_0 rfl (lv_at hl 0 rfl) ?_
  refine W.objInit X.1 X.2.1 X.2.2.2.2.1 (X.2.2.2.1 (.methodLink RX8 3 objectInit) (by decide +kernel)) (X.2.2.2.1 (.instanceMethod objectInit) (by decide +kernel)) (X.2.2.2.1 (.code objectInit ⟨#[0xb1]⟩ 1 none) (by decide +kernel)) rfl (hl.1.trans X.2.2.1.symm) rfl dX8_init_1 (Nat.le_of_ble_eq_true rfl) (Nat.le_of_ble_eq_true rfl) ?_
  refine W.eq (g2 := F0 m 4 ls ([])) rfl ?_
  refine lv_aload_n X.1 X.2.1 dX8_init_4 rfl (lv_at hl 0 rfl) ?_
  refine lv_iconst (v := 4) X.1 X.2.1 dX8_init_5 (by decide) ?_
  refine r_newI (N := 4) X hw 154 4 1 rfl (X.2.2.2.1 (.arrayClass .int) (by decide +kernel)) (z_nn ti_4 (by omega)) (by decide) (by decide) (Nat.le_of_ble_eq_true rfl) (Nat.le_of_ble_eq_true rfl) (Nat.le_of_ble_eq_true rfl) (Nat.le_of_ble_eq_true rfl) dX8_init_6 (fun q_1 H hq_1 hw => ?_)
  obtain ⟨S_2, eS_2⟩ : ∃ T, T = sN S q_1 154 4 := ⟨_, rfl⟩
  rw [← eS_2] at hw
  have ph_3 : Phc S_2 = Phc S + 0 := (show Phc S_2 = Phc S from Ph_sN' hG.ci hq_1 eS_2 (by decide)).trans hpc0
  have ph_4 : Phs S_2 = Phs S + 0 := (show Phs S_2 = Phs S from Ph_sN' hG.ci hq_1 eS_2 (by decide)).trans hps0
  clear hpc0
  clear hps0
  have hK_5 : Kq S S_2 x := hK.sN hq_1 eS_2
  have hg_6 : GX S_2 := by rw [eS_2]; exact GX_N hG hq_1 (by decide +kernel)
  have hn0_q_1 := hK.new hq_1
  have ha_7 : At S_2 q_1 154 := by rw [eS_2]; exact At_nN _ _ _ _
  have hn_8 : pN S_2 q_1 = 4 := by rw [eS_2]; exact pN_sN_new
  refine lv_dup X.1 X.2.1 dX8_init_8 rfl ?_
  refine lv_iconst (v := 0) X.1 X.2.1 dX8_init_9 (by decide) ?_
  refine lv_bipush (v := 100) X.1 X.2.1 dX8_init_10 (by decide) ?_
  refine r_iast X hw ha_7 rfl (by rw [hn_8]; exact z_ix ti_0 (by omega) (by omega)) dX8_init_12 (fun H locs hw => ?_)
  obtain ⟨S_9, eS_9⟩ : ∃ T, T = sA S_2 q_1 (upd (pA S_2 q_1) (Int32.toNatClampNeg (0)) (100)) := ⟨_, rfl⟩
  rw [← eS_9] at hw
  have ph_10 : Phc S_9 = Phc S + 0 := (show Phc S_9 = Phc S_2 from Ph_sA eS_9).trans ph_3
  have ph_11 : Phs S_9 = Phs S + 0 := (show Phs S_9 = Phs S_2 from Ph_sA eS_9).trans ph_4
  clear ph_3
  clear ph_4
  have hK_12 : Kq S S_9 x := hK_5.sA hn0_q_1 eS_9
  have hg_13 : GX S_9 := by rw [eS_9]; exact uA_154 hg_6 ha_7
  have h_14 : pA S_9 q_1 (Int32.toNatClampNeg (0)) = 100 := tA_sAs eS_9
  refine lv_dup X.1 X.2.1 dX8_init_13 rfl ?_
  refine lv_iconst (v := 1) X.1 X.2.1 dX8_init_14 (by decide) ?_
  refine lv_bipush (v := 80) X.1 X.2.1 dX8_init_15 (by decide) ?_
  have t_15 : At S_9 q_1 154 := tAt_sA eS_9 ha_7
  have t_16 : pN S_9 q_1 = 4 := tN_sA eS_9 hn_8
  clear hn_8
  refine r_iast X hw t_15 rfl (by rw [t_16]; exact z_ix ti_1 (by omega) (by omega)) dX8_init_17 (fun H locs hw => ?_)
  obtain ⟨S_17, eS_17⟩ : ∃ T, T = sA S_9 q_1 (upd (pA S_9 q_1) (Int32.toNatClampNeg (1)) (80)) := ⟨_, rfl⟩
  rw [← eS_17] at hw
  have ph_18 : Phc S_17 = Phc S + 0 := (show Phc S_17 = Phc S_9 from Ph_sA eS_17).trans ph_10
  have ph_19 : Phs S_17 = Phs S + 0 := (show Phs S_17 = Phs S_9 from Ph_sA eS_17).trans ph_11
  clear ph_10
  clear ph_11
  have hK_20 : Kq S S_17 x := hK_12.sA hn0_q_1 eS_17
  have hg_21 : GX S_17 := by rw [eS_17]; exact uA_154 hg_13 t_15
  have h_22 : pA S_17 q_1 (Int32.toNatClampNeg (1)) = 80 := tA_sAs eS_17
  refine lv_dup X.1 X.2.1 dX8_init_18 rfl ?_
  refine lv_iconst (v := 2) X.1 X.2.1 dX8_init_19 (by decide) ?_
  refine lv_bipush (v := 50) X.1 X.2.1 dX8_init_20 (by decide) ?_
  have t_23 : At S_17 q_1 154 := tAt_sA eS_17 t_15
  have t_24 : pN S_17 q_1 = 4 := tN_sA eS_17 t_16
  clear t_16
  refine r_iast X hw t_23 rfl (by rw [t_24]; exact z_ix ti_2 (by omega) (by omega)) dX8_init_22 (fun H locs hw => ?_)
  obtain ⟨S_25, eS_25⟩ : ∃ T, T = sA S_17 q_1 (upd (pA S_17 q_1) (Int32.toNatClampNeg (2)) (50)) := ⟨_, rfl⟩
  rw [← eS_25] at hw
  have ph_26 : Phc S_25 = Phc S + 0 := (show Phc S_25 = Phc S_17 from Ph_sA eS_25).trans ph_18
  have ph_27 : Phs S_25 = Phs S + 0 := (show Phs S_25 = Phs S_17 from Ph_sA eS_25).trans ph_19
  clear ph_18
  clear ph_19
  have hK_28 : Kq S S_25 x := hK_20.sA hn0_q_1 eS_25
  have hg_29 : GX S_25 := by rw [eS_25]; exact uA_154 hg_21 t_23
  have h_30 : pA S_25 q_1 (Int32.toNatClampNeg (2)) = 50 := tA_sAs eS_25
  refine lv_dup X.1 X.2.1 dX8_init_23 rfl ?_
  refine lv_iconst (v := 3) X.1 X.2.1 dX8_init_24 (by decide) ?_
  refine lv_bipush (v := 20) X.1 X.2.1 dX8_init_25 (by decide) ?_
  have t_31 : At S_25 q_1 154 := tAt_sA eS_25 t_23
  have t_32 : pN S_25 q_1 = 4 := tN_sA eS_25 t_24
  clear t_24
  refine r_iast X hw t_31 rfl (by rw [t_32]; exact z_ix ti_3 (by omega) (by omega)) dX8_init_27 (fun H locs hw => ?_)
  obtain ⟨S_33, eS_33⟩ : ∃ T, T = sA S_25 q_1 (upd (pA S_25 q_1) (Int32.toNatClampNeg (3)) (20)) := ⟨_, rfl⟩
  rw [← eS_33] at hw
  have ph_34 : Phc S_33 = Phc S + 0 := (show Phc S_33 = Phc S_25 from Ph_sA eS_33).trans ph_26
  have ph_35 : Phs S_33 = Phs S + 0 := (show Phs S_33 = Phs S_25 from Ph_sA eS_33).trans ph_27
  clear ph_26
  clear ph_27
  have hK_36 : Kq S S_33 x := hK_28.sA hn0_q_1 eS_33
  have hg_37 : GX S_33 := by rw [eS_33]; exact uA_154 hg_29 t_31
  have h_38 : pA S_33 q_1 (Int32.toNatClampNeg (3)) = 20 := tA_sAs eS_33
  have t_39 : At S_2 x 188 := by rw [eS_2]; exact At_sN ha_x hq_1
  have t_40 : At S_9 x 188 := tAt_sA eS_9 t_39
  have t_41 : At S_17 x 188 := tAt_sA eS_17 t_40
  have t_42 : At S_25 x 188 := tAt_sA eS_25 t_41
  have t_43 : At S_33 x 188 := tAt_sA eS_33 t_42
  have t_44 : At S_33 q_1 154 := tAt_sA eS_33 t_31
  refine r_putR X hw t_43 rfl 7 807 (some q_1) rfl tyX8 (by decide) rfl inn_X8_init_8 tyX8_ok nmX8 (by decide) (X.2.2.2.1 (.fieldLink RX8 9 "SilkMill$Store" "prices" "[I") (by decide +kernel)) rfl (Or.inr ⟨rfl, hin, rfl⟩) (fun _ => rfl) rfl (fun _ => rfl) rfl (Nat.le_of_ble_eq_true rfl) (st_807 _ _) dX8_init_28 (fun H locs hw => ?_)
  obtain ⟨S_45, eS_45⟩ : ∃ T, T = sR S_33 807 x (some q_1) := ⟨_, rfl⟩
  rw [← eS_45] at hw
  have ph_46 : Phc S_45 = Phc S + 0 := (show Phc S_45 = Phc S_33 from Ph_rawR t_43 (by decide) eS_45).trans ph_34
  have ph_47 : Phs S_45 = Phs S + 0 := (show Phs S_45 = Phs S_33 from Ph_rawR t_43 (by decide) eS_45).trans ph_35
  clear ph_34
  clear ph_35
  have hK_48 : Kq S S_45 x := hK_36.sR eS_45
  have hg_49 : GX S_45 := by rw [eS_45]; exact GX_rawR hg_37 t_43 (by decide +kernel)
  have h_50 : pR S_45 807 x = some q_1 := tR_sRs eS_45
  refine lv_aload_n X.1 X.2.1 dX8_init_31 rfl (lv_at hl 0 rfl) ?_
  refine lv_bipush (v := 40) X.1 X.2.1 dX8_init_32 (by decide) ?_
  refine r_newQ (N := 40) (C := RX7) X hw 19 19 44 2 rfl (by decide) rfl (X.2.2.2.1 (.classLink RX8 15 RX7) (by decide +kernel)) X.2.2.2.2.2.2.2.1.1.2.2.2 (z_nn ti_40 (by omega)) (by decide) (by decide) (Nat.le_of_ble_eq_true rfl) (Nat.le_of_ble_eq_true rfl) (Nat.le_of_ble_eq_true rfl) (Nat.le_of_ble_eq_true rfl) dX8_init_34 (fun q_51 H hq_51 hw => ?_)
  obtain ⟨S_52, eS_52⟩ : ∃ T, T = sN S_45 q_51 19 40 := ⟨_, rfl⟩
  rw [← eS_52] at hw
  have ph_53 : Phc S_52 = Phc S + 0 := (show Phc S_52 = Phc S_45 from Ph_sN' hg_49.ci hq_51 eS_52 (by decide)).trans ph_46
  have ph_54 : Phs S_52 = Phs S + 0 := (show Phs S_52 = Phs S_45 from Ph_sN' hg_49.ci hq_51 eS_52 (by decide)).trans ph_47
  clear ph_46
  clear ph_47
  have hK_55 : Kq S S_52 x := hK_48.sN hq_51 eS_52
  have hg_56 : GX S_52 := by rw [eS_52]; exact GX_N hg_49 hq_51 (by decide +kernel)
  have hn0_q_51 := hK_48.new hq_51
  have ha_57 : At S_52 q_51 19 := by rw [eS_52]; exact At_nN _ _ _ _
  have hn_58 : pN S_52 q_51 = 40 := by rw [eS_52]; exact pN_sN_new
  have t_59 : At S_45 x 188 := tAt_sR eS_45 t_43
  have t_60 : At S_52 x 188 := by rw [eS_52]; exact At_sN t_59 hq_51
  refine r_putR X hw t_60 rfl 8 808 (some q_51) rfl tyX8 (by decide) rfl inn_X8_init_8 tyX8_ok nmX8 (by decide) (X.2.2.2.1 (.fieldLink RX8 17 "SilkMill$Store" "skeins" "[LSilkMill$Skein;") (by decide +kernel)) rfl (Or.inr ⟨rfl, hin, rfl⟩) (fun _ => rfl) rfl (fun _ => rfl) rfl (Nat.le_of_ble_eq_true rfl) (st_808 _ _) dX8_init_37 (fun H locs hw => ?_)
  obtain ⟨S_61, eS_61⟩ : ∃ T, T = sR S_52 808 x (some q_51) := ⟨_, rfl⟩
  rw [← eS_61] at hw
  have ph_62 : Phc S_61 = Phc S + 0 := (show Phc S_61 = Phc S_52 from Ph_rawR t_60 (by decide) eS_61).trans ph_53
  have ph_63 : Phs S_61 = Phs S + 0 := (show Phs S_61 = Phs S_52 from Ph_rawR t_60 (by decide) eS_61).trans ph_54
  clear ph_53
  clear ph_54
  have hK_64 : Kq S S_61 x := hK_55.sR eS_61
  have hg_65 : GX S_61 := by rw [eS_61]; exact GX_rawR hg_56 t_60 (by decide +kernel)
  have h_66 : pR S_61 808 x = some q_51 := tR_sRs eS_61
  refine lv_aload_n X.1 X.2.1 dX8_init_40 rfl (lv_at hl 0 rfl) ?_
  refine lv_bipush (v := 40) X.1 X.2.1 dX8_init_41 (by decide) ?_
  refine r_newI (N := 40) X hw 174 84 3 rfl (X.2.2.2.1 (.arrayClass .int) (by decide +kernel)) (z_nn ti_40 (by omega)) (by decide) (by decide) (Nat.le_of_ble_eq_true rfl) (Nat.le_of_ble_eq_true rfl) (Nat.le_of_ble_eq_true rfl) (Nat.le_of_ble_eq_true rfl) dX8_init_43 (fun q_67 H hq_67 hw => ?_)
  obtain ⟨S_68, eS_68⟩ : ∃ T, T = sN S_61 q_67 174 40 := ⟨_, rfl⟩
  rw [← eS_68] at hw
  have ph_69 : Phc S_68 = Phc S + 0 := (show Phc S_68 = Phc S_61 from Ph_sN' hg_65.ci hq_67 eS_68 (by decide)).trans ph_62
  have ph_70 : Phs S_68 = Phs S + 0 := (show Phs S_68 = Phs S_61 from Ph_sN' hg_65.ci hq_67 eS_68 (by decide)).trans ph_63
  clear ph_62
  clear ph_63
  have hK_71 : Kq S S_68 x := hK_64.sN hq_67 eS_68
  have hg_72 : GX S_68 := by rw [eS_68]; exact GX_N hg_65 hq_67 (by decide +kernel)
  have hn0_q_67 := hK_64.new hq_67
  have ha_73 : At S_68 q_67 174 := by rw [eS_68]; exact At_nN _ _ _ _
  have hn_74 : pN S_68 q_67 = 40 := by rw [eS_68]; exact pN_sN_new
  have t_75 : At S_61 x 188 := tAt_sR eS_61 t_60
  have t_76 : At S_68 x 188 := by rw [eS_68]; exact At_sN t_75 hq_67
  refine r_putR X hw t_76 rfl 9 809 (some q_67) rfl tyX8 (by decide) rfl inn_X8_init_8 tyX8_ok nmX8 (by decide) (X.2.2.2.1 (.fieldLink RX8 21 "SilkMill$Store" "faultSkeins" "[I") (by decide +kernel)) rfl (Or.inr ⟨rfl, hin, rfl⟩) (fun _ => rfl) rfl (fun _ => rfl) rfl (Nat.le_of_ble_eq_true rfl) (st_809 _ _) dX8_init_45 (fun H locs hw => ?_)
  obtain ⟨S_77, eS_77⟩ : ∃ T, T = sR S_68 809 x (some q_67) := ⟨_, rfl⟩
  rw [← eS_77] at hw
  have ph_78 : Phc S_77 = Phc S + 0 := (show Phc S_77 = Phc S_68 from Ph_rawR t_76 (by decide) eS_77).trans ph_69
  have ph_79 : Phs S_77 = Phs S + 0 := (show Phs S_77 = Phs S_68 from Ph_rawR t_76 (by decide) eS_77).trans ph_70
  clear ph_69
  clear ph_70
  have hK_80 : Kq S S_77 x := hK_71.sR eS_77
  have hg_81 : GX S_77 := by rw [eS_77]; exact GX_rawR hg_72 t_76 (by decide +kernel)
  have h_82 : pR S_77 809 x = some q_67 := tR_sRs eS_77
  refine lv_aload_n X.1 X.2.1 dX8_init_48 rfl (lv_at hl 0 rfl) ?_
  refine lv_bipush (v := 40) X.1 X.2.1 dX8_init_49 (by decide) ?_
  refine r_newI (N := 40) X hw 174 124 4 rfl (X.2.2.2.1 (.arrayClass .int) (by decide +kernel)) (z_nn ti_40 (by omega)) (by decide) (by decide) (Nat.le_of_ble_eq_true rfl) (Nat.le_of_ble_eq_true rfl) (Nat.le_of_ble_eq_true rfl) (Nat.le_of_ble_eq_true rfl) dX8_init_51 (fun q_83 H hq_83 hw => ?_)
  obtain ⟨S_84, eS_84⟩ : ∃ T, T = sN S_77 q_83 174 40 := ⟨_, rfl⟩
  rw [← eS_84] at hw
  have ph_85 : Phc S_84 = Phc S + 0 := (show Phc S_84 = Phc S_77 from Ph_sN' hg_81.ci hq_83 eS_84 (by decide)).trans ph_78
  have ph_86 : Phs S_84 = Phs S + 0 := (show Phs S_84 = Phs S_77 from Ph_sN' hg_81.ci hq_83 eS_84 (by decide)).trans ph_79
  clear ph_78
  clear ph_79
  have hK_87 : Kq S S_84 x := hK_80.sN hq_83 eS_84
  have hg_88 : GX S_84 := by rw [eS_84]; exact GX_N hg_81 hq_83 (by decide +kernel)
  have hn0_q_83 := hK_80.new hq_83
  have ha_89 : At S_84 q_83 174 := by rw [eS_84]; exact At_nN _ _ _ _
  have hn_90 : pN S_84 q_83 = 40 := by rw [eS_84]; exact pN_sN_new
  have t_91 : At S_77 x 188 := tAt_sR eS_77 t_76
  have t_92 : At S_84 x 188 := by rw [eS_84]; exact At_sN t_91 hq_83
  refine r_putR X hw t_92 rfl 10 810 (some q_83) rfl tyX8 (by decide) rfl inn_X8_init_8 tyX8_ok nmX8 (by decide) (X.2.2.2.1 (.fieldLink RX8 24 "SilkMill$Store" "faultDays" "[I") (by decide +kernel)) rfl (Or.inr ⟨rfl, hin, rfl⟩) (fun _ => rfl) rfl (fun _ => rfl) rfl (Nat.le_of_ble_eq_true rfl) (st_810 _ _) dX8_init_53 (fun H locs hw => ?_)
  obtain ⟨S_93, eS_93⟩ : ∃ T, T = sR S_84 810 x (some q_83) := ⟨_, rfl⟩
  rw [← eS_93] at hw
  have ph_94 : Phc S_93 = Phc S + 0 := (show Phc S_93 = Phc S_84 from Ph_rawR t_92 (by decide) eS_93).trans ph_85
  have ph_95 : Phs S_93 = Phs S + 0 := (show Phs S_93 = Phs S_84 from Ph_rawR t_92 (by decide) eS_93).trans ph_86
  clear ph_85
  clear ph_86
  have hK_96 : Kq S S_93 x := hK_87.sR eS_93
  have hg_97 : GX S_93 := by rw [eS_93]; exact GX_rawR hg_88 t_92 (by decide +kernel)
  have h_98 : pR S_93 810 x = some q_83 := tR_sRs eS_93
  refine lv_aload_n X.1 X.2.1 dX8_init_56 rfl (lv_at hl 0 rfl) ?_
  refine lv_bipush (v := 40) X.1 X.2.1 dX8_init_57 (by decide) ?_
  refine r_newI (N := 40) X hw 174 164 5 rfl (X.2.2.2.1 (.arrayClass .int) (by decide +kernel)) (z_nn ti_40 (by omega)) (by decide) (by decide) (Nat.le_of_ble_eq_true rfl) (Nat.le_of_ble_eq_true rfl) (Nat.le_of_ble_eq_true rfl) (Nat.le_of_ble_eq_true rfl) dX8_init_59 (fun q_99 H hq_99 hw => ?_)
  obtain ⟨S_100, eS_100⟩ : ∃ T, T = sN S_93 q_99 174 40 := ⟨_, rfl⟩
  rw [← eS_100] at hw
  have ph_101 : Phc S_100 = Phc S + 0 := (show Phc S_100 = Phc S_93 from Ph_sN' hg_97.ci hq_99 eS_100 (by decide)).trans ph_94
  have ph_102 : Phs S_100 = Phs S + 0 := (show Phs S_100 = Phs S_93 from Ph_sN' hg_97.ci hq_99 eS_100 (by decide)).trans ph_95
  clear ph_94
  clear ph_95
  have hK_103 : Kq S S_100 x := hK_96.sN hq_99 eS_100
  have hg_104 : GX S_100 := by rw [eS_100]; exact GX_N hg_97 hq_99 (by decide +kernel)
  have hn0_q_99 := hK_96.new hq_99
  have ha_105 : At S_100 q_99 174 := by rw [eS_100]; exact At_nN _ _ _ _
  have hn_106 : pN S_100 q_99 = 40 := by rw [eS_100]; exact pN_sN_new
  have t_107 : At S_93 x 188 := tAt_sR eS_93 t_92
  have t_108 : At S_100 x 188 := by rw [eS_100]; exact At_sN t_107 hq_99
  refine r_putR X hw t_108 rfl 11 811 (some q_99) rfl tyX8 (by decide) rfl inn_X8_init_8 tyX8_ok nmX8 (by decide) (X.2.2.2.1 (.fieldLink RX8 27 "SilkMill$Store" "faultAmounts" "[I") (by decide +kernel)) rfl (Or.inr ⟨rfl, hin, rfl⟩) (fun _ => rfl) rfl (fun _ => rfl) rfl (Nat.le_of_ble_eq_true rfl) (st_811 _ _) dX8_init_61 (fun H locs hw => ?_)
  obtain ⟨S_109, eS_109⟩ : ∃ T, T = sR S_100 811 x (some q_99) := ⟨_, rfl⟩
  rw [← eS_109] at hw
  have ph_110 : Phc S_109 = Phc S + 0 := (show Phc S_109 = Phc S_100 from Ph_rawR t_108 (by decide) eS_109).trans ph_101
  have ph_111 : Phs S_109 = Phs S + 0 := (show Phs S_109 = Phs S_100 from Ph_rawR t_108 (by decide) eS_109).trans ph_102
  clear ph_101
  clear ph_102
  have hK_112 : Kq S S_109 x := hK_103.sR eS_109
  have hg_113 : GX S_109 := by rw [eS_109]; exact GX_rawR hg_104 t_108 (by decide +kernel)
  have h_114 : pR S_109 811 x = some q_99 := tR_sRs eS_109
  refine lv_aload_n X.1 X.2.1 dX8_init_64 rfl (lv_at hl 0 rfl) ?_
  refine r_new X hw 182 2 172 6 rfl tyX2 (by decide) rfl inn_X8_init_2 tyX2_ok (X.2.2.2.1 (.classLink RX8 30 RX2) (by decide +kernel)) (X.2.2.2.1 (.instantiable RX2 8) (by decide +kernel)) (X.2.2.2.1 (.initialized RX2) (by decide +kernel)) (zo_2 _) zd_2 (Nat.le_of_ble_eq_true rfl) (Nat.le_of_ble_eq_true rfl) (Nat.le_of_ble_eq_true rfl) (Nat.le_of_ble_eq_true rfl) dX8_init_65 (fun q_115 H hq_115 hw => ?_)
  obtain ⟨S_116, eS_116⟩ : ∃ T, T = sO S_109 q_115 182 := ⟨_, rfl⟩
  rw [← eS_116] at hw
  have ph_117 : Phc S_116 = Phc S + 0 := (show Phc S_116 = Phc S_109 from Ph_sO hg_113 hq_115 eS_116 (by decide)).trans ph_110
  have ph_118 : Phs S_116 = Phs S + 0 := (show Phs S_116 = Phs S_109 from Ph_sO hg_113 hq_115 eS_116 (by decide)).trans ph_111
  clear ph_110
  clear ph_111
  have hK_119 : Kq S S_116 x := hK_112.sO hq_115 eS_116
  have hg_120 : GX S_116 := by rw [eS_116]; exact GX_O hg_113 hq_115 (by decide +kernel)
  have hn0_q_115 := hK_112.new hq_115
  have ha_121 : At S_116 q_115 182 := by rw [eS_116]; exact At_nO _ _ _
  have hzI_q_115 : ∀ g, pI S_116 g q_115 = 0 := fun g => by rw [eS_116]; exact pI_sO_new
  have hzR_q_115 : ∀ g, pR S_116 g q_115 = none := fun g => by rw [eS_116]; exact if_pos rfl
  refine lv_dup X.1 X.2.1 dX8_init_68 rfl ?_
  refine k_v (rm := { frames := 2, cells := 3, slots := 42, locals := 96 }) (av := [.ref q_115]) X hw (va_runIN (As := []) (rest := [.ref q_115, .ref x]) (cfix X) (k_X2_init l G cy κ S_116 _ q_115 hg_120 ha_121 hzI_q_115 hzR_q_115) ⟨(va_cnB (host := RX11) 0 X.2.2.2.1 gX8_init_X2_init_n32 rfl rfl rfl (X.2.2.2.2.2.2.2.1.2.1 (RX8, 32, yX2_init) (by decide +kernel)) (X.2.2.2.1 (.initialized RX2) (by decide +kernel)) (by decide +kernel) ⟨Nat.le_of_ble_eq_true rfl, Nat.le_of_ble_eq_true rfl⟩), rfl, (X.2.2.2.1 (.instanceMethod yX2_init) (by decide +kernel))⟩ (pre_S X hw _) rfl rfl hl.1 rfl (lv_room (Nat.le_of_ble_eq_true rfl)) dX8_init_69 ⟨Nat.le_of_ble_eq_true rfl, Nat.le_of_ble_eq_true rfl⟩) 9 214 (Nat.le_of_ble_eq_true rfl) (Nat.le_of_ble_eq_true rfl) (fun S_123 H locs hp hw hfr hnw => ?_)
  obtain ⟨hK_124, hg_125, ha_126, ph_127, ph_128⟩ := hp
  have hK_129 : Kq S S_123 x := hK_119.sub hn0_q_115 hK_124
  have ph_130 : Phc S_123 = Phc S + 0 := by omega
  have ph_131 : Phs S_123 = Phs S + 0 := by omega
  clear ph_117
  clear ph_118
  clear ph_127
  clear ph_128
  have t_132 : At S_109 x 188 := tAt_sR eS_109 t_108
  have t_133 : At S_116 x 188 := by rw [eS_116]; exact At_sO t_132 hq_115
  have t_134 : At S_123 x 188 := hK_124.at ha_121 t_133 (by decide)
  refine r_putR X hw t_134 rfl 12 812 (some q_115) rfl tyX8 (by decide) rfl inn_X8_init_8 tyX8_ok nmX8 (by decide) (X.2.2.2.1 (.fieldLink RX8 33 "SilkMill$Store" "mixer" "LSilkMill$Mixer;") (by decide +kernel)) rfl (Or.inr ⟨rfl, hin, rfl⟩) (fun _ => rfl) rfl (fun _ => rfl) rfl (Nat.le_of_ble_eq_true rfl) (st_812 _ _) dX8_init_72 (fun H locs hw => ?_)
  obtain ⟨S_135, eS_135⟩ : ∃ T, T = sR S_123 812 x (some q_115) := ⟨_, rfl⟩
  rw [← eS_135] at hw
  have ph_136 : Phc S_135 = Phc S + 0 := (show Phc S_135 = Phc S_123 from Ph_rawR t_134 (by decide) eS_135).trans ph_130
  have ph_137 : Phs S_135 = Phs S + 0 := (show Phs S_135 = Phs S_123 from Ph_rawR t_134 (by decide) eS_135).trans ph_131
  clear ph_130
  clear ph_131
  have hK_138 : Kq S S_135 x := hK_129.sR eS_135
  have hg_139 : GX S_135 := by rw [eS_135]; exact GX_rawR hg_125 t_134 (by decide +kernel)
  have h_140 : pR S_135 812 x = some q_115 := tR_sRs eS_135
  have t_141 : At S_135 x 188 := tAt_sR eS_135 t_134
  have nd_142 := nodup_of hw
  have t_143 : pI S_2 800 x = 0 := by rw [eS_2, pI_sN]; exact (hzI 800)
  have t_144 : pI S_9 800 x = 0 := tI_sA eS_9 t_143
  have t_145 : pI S_17 800 x = 0 := tI_sA eS_17 t_144
  have t_146 : pI S_25 800 x = 0 := tI_sA eS_25 t_145
  have t_147 : pI S_33 800 x = 0 := tI_sA eS_33 t_146
  have t_148 : pI S_45 800 x = 0 := tI_sR eS_45 t_147
  have t_149 : pI S_52 800 x = 0 := by rw [eS_52, pI_sN]; exact t_148
  have t_150 : pI S_61 800 x = 0 := tI_sR eS_61 t_149
  have t_151 : pI S_68 800 x = 0 := by rw [eS_68, pI_sN]; exact t_150
  have t_152 : pI S_77 800 x = 0 := tI_sR eS_77 t_151
  have t_153 : pI S_84 800 x = 0 := by rw [eS_84, pI_sN]; exact t_152
  have t_154 : pI S_93 800 x = 0 := tI_sR eS_93 t_153
  have t_155 : pI S_100 800 x = 0 := by rw [eS_100, pI_sN]; exact t_154
  have t_156 : pI S_109 800 x = 0 := tI_sR eS_109 t_155
  have t_158 : At S_109 x 188 := tAt_sR eS_109 t_108
  have t_157 : pI S_116 800 x = 0 := by rw [eS_116]; exact (pI_sO_ne (ne_of_new hq_115 t_158.1)).trans t_156
  have t_160 : At S_116 x 188 := by rw [eS_116]; exact At_sO t_158 hq_115
  have t_159 : pI S_123 800 x = 0 := (((hK_124 x t_160.1).2 (At_ne t_160 ha_121 (by decide))).2.1 800).trans t_157
  have t_161 : pI S_135 800 x = 0 := tI_sR eS_135 t_159
  have t_162 : pI S_2 806 x = 0 := by rw [eS_2, pI_sN]; exact (hzI 806)
  have t_163 : pI S_9 806 x = 0 := tI_sA eS_9 t_162
  have t_164 : pI S_17 806 x = 0 := tI_sA eS_17 t_163
  have t_165 : pI S_25 806 x = 0 := tI_sA eS_25 t_164
  have t_166 : pI S_33 806 x = 0 := tI_sA eS_33 t_165
  have t_167 : pI S_45 806 x = 0 := tI_sR eS_45 t_166
  have t_168 : pI S_52 806 x = 0 := by rw [eS_52, pI_sN]; exact t_167
  have t_169 : pI S_61 806 x = 0 := tI_sR eS_61 t_168
  have t_170 : pI S_68 806 x = 0 := by rw [eS_68, pI_sN]; exact t_169
  have t_171 : pI S_77 806 x = 0 := tI_sR eS_77 t_170
  have t_172 : pI S_84 806 x = 0 := by rw [eS_84, pI_sN]; exact t_171
  have t_173 : pI S_93 806 x = 0 := tI_sR eS_93 t_172
  have t_174 : pI S_100 806 x = 0 := by rw [eS_100, pI_sN]; exact t_173
  have t_175 : pI S_109 806 x = 0 := tI_sR eS_109 t_174
  have t_176 : pI S_116 806 x = 0 := by rw [eS_116]; exact (pI_sO_ne (ne_of_new hq_115 t_158.1)).trans t_175
  have t_177 : pI S_123 806 x = 0 := (((hK_124 x t_160.1).2 (At_ne t_160 ha_121 (by decide))).2.1 806).trans t_176
  have t_178 : pI S_135 806 x = 0 := tI_sR eS_135 t_177
  have t_179 : pR S_52 807 x = some q_1 := by rw [eS_52, pR_sN]; exact h_50
  have t_180 : pR S_61 807 x = some q_1 := tR_sR eS_61 rfl t_179
  have t_181 : pR S_68 807 x = some q_1 := by rw [eS_68, pR_sN]; exact t_180
  have t_182 : pR S_77 807 x = some q_1 := tR_sR eS_77 rfl t_181
  have t_183 : pR S_84 807 x = some q_1 := by rw [eS_84, pR_sN]; exact t_182
  have t_184 : pR S_93 807 x = some q_1 := tR_sR eS_93 rfl t_183
  have t_185 : pR S_100 807 x = some q_1 := by rw [eS_100, pR_sN]; exact t_184
  have t_186 : pR S_109 807 x = some q_1 := tR_sR eS_109 rfl t_185
  have t_187 : pR S_116 807 x = some q_1 := by rw [eS_116]; exact (pR_sO_ne (ne_of_new hq_115 t_158.1)).trans t_186
  have t_188 : pR S_123 807 x = some q_1 := (((hK_124 x t_160.1).2 (At_ne t_160 ha_121 (by decide))).2.2.1 807).trans t_187
  have t_189 : pR S_135 807 x = some q_1 := tR_sR eS_135 rfl t_188
  have t_190 : At S_45 q_1 154 := tAt_sR eS_45 t_44
  have t_191 : At S_52 q_1 154 := by rw [eS_52]; exact At_sN t_190 hq_51
  have t_192 : At S_61 q_1 154 := tAt_sR eS_61 t_191
  have t_193 : At S_68 q_1 154 := by rw [eS_68]; exact At_sN t_192 hq_67
  have t_194 : At S_77 q_1 154 := tAt_sR eS_77 t_193
  have t_195 : At S_84 q_1 154 := by rw [eS_84]; exact At_sN t_194 hq_83
  have t_196 : At S_93 q_1 154 := tAt_sR eS_93 t_195
  have t_197 : At S_100 q_1 154 := by rw [eS_100]; exact At_sN t_196 hq_99
  have t_198 : At S_109 q_1 154 := tAt_sR eS_109 t_197
  have t_199 : At S_116 q_1 154 := by rw [eS_116]; exact At_sO t_198 hq_115
  have t_200 : At S_123 q_1 154 := hK_124.at ha_121 t_199 (by decide)
  have t_201 : At S_135 q_1 154 := tAt_sR eS_135 t_200
  have t_202 : pN S_33 q_1 = 4 := tN_sA eS_33 t_32
  clear t_32
  have t_203 : pN S_45 q_1 = 4 := tN_sR eS_45 t_202
  clear t_202
  have t_205 : At S_45 q_1 154 := tAt_sR eS_45 t_44
  have t_204 : pN S_52 q_1 = 4 := by rw [eS_52]; exact (pN_sN_ne (ne_of_new hq_51 t_205.1)).trans t_203
  clear t_203
  have t_206 : pN S_61 q_1 = 4 := tN_sR eS_61 t_204
  clear t_204
  have t_208 : At S_52 q_1 154 := by rw [eS_52]; exact At_sN t_205 hq_51
  have t_209 : At S_61 q_1 154 := tAt_sR eS_61 t_208
  have t_207 : pN S_68 q_1 = 4 := by rw [eS_68]; exact (pN_sN_ne (ne_of_new hq_67 t_209.1)).trans t_206
  clear t_206
  have t_210 : pN S_77 q_1 = 4 := tN_sR eS_77 t_207
  clear t_207
  have t_212 : At S_68 q_1 154 := by rw [eS_68]; exact At_sN t_209 hq_67
  have t_213 : At S_77 q_1 154 := tAt_sR eS_77 t_212
  have t_211 : pN S_84 q_1 = 4 := by rw [eS_84]; exact (pN_sN_ne (ne_of_new hq_83 t_213.1)).trans t_210
  clear t_210
  have t_214 : pN S_93 q_1 = 4 := tN_sR eS_93 t_211
  clear t_211
  have t_216 : At S_84 q_1 154 := by rw [eS_84]; exact At_sN t_213 hq_83
  have t_217 : At S_93 q_1 154 := tAt_sR eS_93 t_216
  have t_215 : pN S_100 q_1 = 4 := by rw [eS_100]; exact (pN_sN_ne (ne_of_new hq_99 t_217.1)).trans t_214
  clear t_214
  have t_218 : pN S_109 q_1 = 4 := tN_sR eS_109 t_215
  clear t_215
  have t_219 : pN S_116 q_1 = 4 := by rw [eS_116, pN_sO]; exact t_218
  clear t_218
  have t_221 : At S_100 q_1 154 := by rw [eS_100]; exact At_sN t_217 hq_99
  have t_222 : At S_109 q_1 154 := tAt_sR eS_109 t_221
  have t_223 : At S_116 q_1 154 := by rw [eS_116]; exact At_sO t_222 hq_115
  have t_220 : pN S_123 q_1 = 4 := ((hK_124 q_1 t_223.1).2 (At_ne t_223 ha_121 (by decide))).2.2.2.1.trans t_219
  clear t_219
  have t_224 : pN S_135 q_1 = 4 := tN_sR eS_135 t_220
  clear t_220
  have t_225 : pR S_68 808 x = some q_51 := by rw [eS_68, pR_sN]; exact h_66
  have t_226 : pR S_77 808 x = some q_51 := tR_sR eS_77 rfl t_225
  have t_227 : pR S_84 808 x = some q_51 := by rw [eS_84, pR_sN]; exact t_226
  have t_228 : pR S_93 808 x = some q_51 := tR_sR eS_93 rfl t_227
  have t_229 : pR S_100 808 x = some q_51 := by rw [eS_100, pR_sN]; exact t_228
  have t_230 : pR S_109 808 x = some q_51 := tR_sR eS_109 rfl t_229
  have t_231 : pR S_116 808 x = some q_51 := by rw [eS_116]; exact (pR_sO_ne (ne_of_new hq_115 t_158.1)).trans t_230
  have t_232 : pR S_123 808 x = some q_51 := (((hK_124 x t_160.1).2 (At_ne t_160 ha_121 (by decide))).2.2.1 808).trans t_231
  have t_233 : pR S_135 808 x = some q_51 := tR_sR eS_135 rfl t_232
  have t_234 : At S_61 q_51 19 := tAt_sR eS_61 ha_57
  have t_235 : At S_68 q_51 19 := by rw [eS_68]; exact At_sN t_234 hq_67
  have t_236 : At S_77 q_51 19 := tAt_sR eS_77 t_235
  have t_237 : At S_84 q_51 19 := by rw [eS_84]; exact At_sN t_236 hq_83
  have t_238 : At S_93 q_51 19 := tAt_sR eS_93 t_237
  have t_239 : At S_100 q_51 19 := by rw [eS_100]; exact At_sN t_238 hq_99
  have t_240 : At S_109 q_51 19 := tAt_sR eS_109 t_239
  have t_241 : At S_116 q_51 19 := by rw [eS_116]; exact At_sO t_240 hq_115
  have t_242 : At S_123 q_51 19 := hK_124.at ha_121 t_241 (by decide)
  have t_243 : At S_135 q_51 19 := tAt_sR eS_135 t_242
  have t_244 : pN S_61 q_51 = 40 := tN_sR eS_61 hn_58
  clear hn_58
  have t_246 : At S_61 q_51 19 := tAt_sR eS_61 ha_57
  have t_245 : pN S_68 q_51 = 40 := by rw [eS_68]; exact (pN_sN_ne (ne_of_new hq_67 t_246.1)).trans t_244
  clear t_244
  have t_247 : pN S_77 q_51 = 40 := tN_sR eS_77 t_245
  clear t_245
  have t_249 : At S_68 q_51 19 := by rw [eS_68]; exact At_sN t_246 hq_67
  have t_250 : At S_77 q_51 19 := tAt_sR eS_77 t_249
  have t_248 : pN S_84 q_51 = 40 := by rw [eS_84]; exact (pN_sN_ne (ne_of_new hq_83 t_250.1)).trans t_247
  clear t_247
  have t_251 : pN S_93 q_51 = 40 := tN_sR eS_93 t_248
  clear t_248
  have t_253 : At S_84 q_51 19 := by rw [eS_84]; exact At_sN t_250 hq_83
  have t_254 : At S_93 q_51 19 := tAt_sR eS_93 t_253
  have t_252 : pN S_100 q_51 = 40 := by rw [eS_100]; exact (pN_sN_ne (ne_of_new hq_99 t_254.1)).trans t_251
  clear t_251
  have t_255 : pN S_109 q_51 = 40 := tN_sR eS_109 t_252
  clear t_252
  have t_256 : pN S_116 q_51 = 40 := by rw [eS_116, pN_sO]; exact t_255
  clear t_255
  have t_258 : At S_100 q_51 19 := by rw [eS_100]; exact At_sN t_254 hq_99
  have t_259 : At S_109 q_51 19 := tAt_sR eS_109 t_258
  have t_260 : At S_116 q_51 19 := by rw [eS_116]; exact At_sO t_259 hq_115
  have t_257 : pN S_123 q_51 = 40 := ((hK_124 q_51 t_260.1).2 (At_ne t_260 ha_121 (by decide))).2.2.2.1.trans t_256
  clear t_256
  have t_261 : pN S_135 q_51 = 40 := tN_sR eS_135 t_257
  clear t_257
  have t_262 : pR S_84 809 x = some q_67 := by rw [eS_84, pR_sN]; exact h_82
  have t_263 : pR S_93 809 x = some q_67 := tR_sR eS_93 rfl t_262
  have t_264 : pR S_100 809 x = some q_67 := by rw [eS_100, pR_sN]; exact t_263
  have t_265 : pR S_109 809 x = some q_67 := tR_sR eS_109 rfl t_264
  have t_266 : pR S_116 809 x = some q_67 := by rw [eS_116]; exact (pR_sO_ne (ne_of_new hq_115 t_158.1)).trans t_265
  have t_267 : pR S_123 809 x = some q_67 := (((hK_124 x t_160.1).2 (At_ne t_160 ha_121 (by decide))).2.2.1 809).trans t_266
  have t_268 : pR S_135 809 x = some q_67 := tR_sR eS_135 rfl t_267
  have t_269 : At S_77 q_67 174 := tAt_sR eS_77 ha_73
  have t_270 : At S_84 q_67 174 := by rw [eS_84]; exact At_sN t_269 hq_83
  have t_271 : At S_93 q_67 174 := tAt_sR eS_93 t_270
  have t_272 : At S_100 q_67 174 := by rw [eS_100]; exact At_sN t_271 hq_99
  have t_273 : At S_109 q_67 174 := tAt_sR eS_109 t_272
  have t_274 : At S_116 q_67 174 := by rw [eS_116]; exact At_sO t_273 hq_115
  have t_275 : At S_123 q_67 174 := hK_124.at ha_121 t_274 (by decide)
  have t_276 : At S_135 q_67 174 := tAt_sR eS_135 t_275
  have t_277 : pN S_77 q_67 = 40 := tN_sR eS_77 hn_74
  clear hn_74
  have t_279 : At S_77 q_67 174 := tAt_sR eS_77 ha_73
  have t_278 : pN S_84 q_67 = 40 := by rw [eS_84]; exact (pN_sN_ne (ne_of_new hq_83 t_279.1)).trans t_277
  clear t_277
  have t_280 : pN S_93 q_67 = 40 := tN_sR eS_93 t_278
  clear t_278
  have t_282 : At S_84 q_67 174 := by rw [eS_84]; exact At_sN t_279 hq_83
  have t_283 : At S_93 q_67 174 := tAt_sR eS_93 t_282
  have t_281 : pN S_100 q_67 = 40 := by rw [eS_100]; exact (pN_sN_ne (ne_of_new hq_99 t_283.1)).trans t_280
  clear t_280
  have t_284 : pN S_109 q_67 = 40 := tN_sR eS_109 t_281
  clear t_281
  have t_285 : pN S_116 q_67 = 40 := by rw [eS_116, pN_sO]; exact t_284
  clear t_284
  have t_287 : At S_100 q_67 174 := by rw [eS_100]; exact At_sN t_283 hq_99
  have t_288 : At S_109 q_67 174 := tAt_sR eS_109 t_287
  have t_289 : At S_116 q_67 174 := by rw [eS_116]; exact At_sO t_288 hq_115
  have t_286 : pN S_123 q_67 = 40 := ((hK_124 q_67 t_289.1).2 (At_ne t_289 ha_121 (by decide))).2.2.2.1.trans t_285
  clear t_285
  have t_290 : pN S_135 q_67 = 40 := tN_sR eS_135 t_286
  clear t_286
  have t_291 : pR S_100 810 x = some q_83 := by rw [eS_100, pR_sN]; exact h_98
  have t_292 : pR S_109 810 x = some q_83 := tR_sR eS_109 rfl t_291
  have t_293 : pR S_116 810 x = some q_83 := by rw [eS_116]; exact (pR_sO_ne (ne_of_new hq_115 t_158.1)).trans t_292
  have t_294 : pR S_123 810 x = some q_83 := (((hK_124 x t_160.1).2 (At_ne t_160 ha_121 (by decide))).2.2.1 810).trans t_293
  have t_295 : pR S_135 810 x = some q_83 := tR_sR eS_135 rfl t_294
  have t_296 : At S_93 q_83 174 := tAt_sR eS_93 ha_89
  have t_297 : At S_100 q_83 174 := by rw [eS_100]; exact At_sN t_296 hq_99
  have t_298 : At S_109 q_83 174 := tAt_sR eS_109 t_297
  have t_299 : At S_116 q_83 174 := by rw [eS_116]; exact At_sO t_298 hq_115
  have t_300 : At S_123 q_83 174 := hK_124.at ha_121 t_299 (by decide)
  have t_301 : At S_135 q_83 174 := tAt_sR eS_135 t_300
  have t_302 : pN S_93 q_83 = 40 := tN_sR eS_93 hn_90
  clear hn_90
  have t_304 : At S_93 q_83 174 := tAt_sR eS_93 ha_89
  have t_303 : pN S_100 q_83 = 40 := by rw [eS_100]; exact (pN_sN_ne (ne_of_new hq_99 t_304.1)).trans t_302
  clear t_302
  have t_305 : pN S_109 q_83 = 40 := tN_sR eS_109 t_303
  clear t_303
  have t_306 : pN S_116 q_83 = 40 := by rw [eS_116, pN_sO]; exact t_305
  clear t_305
  have t_308 : At S_100 q_83 174 := by rw [eS_100]; exact At_sN t_304 hq_99
  have t_309 : At S_109 q_83 174 := tAt_sR eS_109 t_308
  have t_310 : At S_116 q_83 174 := by rw [eS_116]; exact At_sO t_309 hq_115
  have t_307 : pN S_123 q_83 = 40 := ((hK_124 q_83 t_310.1).2 (At_ne t_310 ha_121 (by decide))).2.2.2.1.trans t_306
  clear t_306
  have t_311 : pN S_135 q_83 = 40 := tN_sR eS_135 t_307
  clear t_307
  have t_312 : pR S_116 811 x = some q_99 := by rw [eS_116]; exact (pR_sO_ne (ne_of_new hq_115 t_158.1)).trans h_114
  have t_313 : pR S_123 811 x = some q_99 := (((hK_124 x t_160.1).2 (At_ne t_160 ha_121 (by decide))).2.2.1 811).trans t_312
  have t_314 : pR S_135 811 x = some q_99 := tR_sR eS_135 rfl t_313
  have t_315 : At S_109 q_99 174 := tAt_sR eS_109 ha_105
  have t_316 : At S_116 q_99 174 := by rw [eS_116]; exact At_sO t_315 hq_115
  have t_317 : At S_123 q_99 174 := hK_124.at ha_121 t_316 (by decide)
  have t_318 : At S_135 q_99 174 := tAt_sR eS_135 t_317
  have t_319 : pN S_109 q_99 = 40 := tN_sR eS_109 hn_106
  clear hn_106
  have t_320 : pN S_116 q_99 = 40 := by rw [eS_116, pN_sO]; exact t_319
  clear t_319
  have t_322 : At S_109 q_99 174 := tAt_sR eS_109 ha_105
  have t_323 : At S_116 q_99 174 := by rw [eS_116]; exact At_sO t_322 hq_115
  have t_321 : pN S_123 q_99 = 40 := ((hK_124 q_99 t_323.1).2 (At_ne t_323 ha_121 (by decide))).2.2.2.1.trans t_320
  clear t_320
  have t_324 : pN S_135 q_99 = 40 := tN_sR eS_135 t_321
  clear t_321
  have t_325 : At S_135 q_115 2 := tAt_sR eS_135 ha_126
  obtain ⟨S_326, eS_326⟩ : ∃ T, T = sK S_135 x 8 := ⟨_, rfl⟩
  have hw := Wd_sK (k := 8) hw t_141 rfl; rw [← eS_326] at hw
  have hg9 : GX S_326 := by rw [eS_326]; exact GX_sK hg_139 t_141 (by decide +kernel) (mk_8 (by rw [pI_sK, t_161]; exact ⟨by rw [ti_0]; omega, by rw [ti_0]; omega⟩) (by rw [pI_sK, t_178]; exact ⟨by rw [ti_0]; omega, by rw [ti_0]; omega⟩) ⟨q_1, (by rw [pR_sK]; exact t_189), At_sK t_141 t_201 (by decide), by rw [pN_sK]; exact t_224⟩ ⟨q_51, (by rw [pR_sK]; exact t_233), At_sK t_141 t_243 (by decide), by rw [pN_sK]; exact t_261⟩ ⟨q_67, (by rw [pR_sK]; exact t_268), At_sK t_141 t_276 (by decide), by rw [pN_sK]; exact t_290⟩ ⟨q_83, (by rw [pR_sK]; exact t_295), At_sK t_141 t_301 (by decide), by rw [pN_sK]; exact t_311⟩ ⟨q_99, (by rw [pR_sK]; exact t_314), At_sK t_141 t_318 (by decide), by rw [pN_sK]; exact t_324⟩ ⟨q_115, (by rw [pR_sK]; exact h_140), At_sK t_141 t_325 (by decide)⟩)
  have ha9 : At S_326 x 8 := by rw [eS_326]; exact At_nK t_141
  have hk9 : Kq S S_326 x := hK_138.sK eS_326
  have hPhc9 : Phc S_326 = Phc S + 320 := by rw [show Phc S_326 = Ph fC 8 14400 S_326 from rfl, Ph_sK nd_142 t_141 (by decide) eS_326, ph_8 ha9 (show pI S_326 800 x = 0 by rw [eS_326, pI_sK]; exact t_161)]; show Phc S_135 + _ = _; omega
  have hPhs9 : Phs S_326 = Phs S + 604000 := by rw [show Phs S_326 = Ph fS 15100 46000 S_326 from rfl, Ph_sK nd_142 t_141 (by decide) eS_326, ph_8 ha9 (show pI S_326 800 x = 0 by rw [eS_326, pI_sK]; exact t_161)]; show Phs S_135 + _ = _; omega
  have t_327 : pI S_2 801 x = 0 := by rw [eS_2, pI_sN]; exact (hzI 801)
  have t_328 : pI S_9 801 x = 0 := tI_sA eS_9 t_327
  have t_329 : pI S_17 801 x = 0 := tI_sA eS_17 t_328
  have t_330 : pI S_25 801 x = 0 := tI_sA eS_25 t_329
  have t_331 : pI S_33 801 x = 0 := tI_sA eS_33 t_330
  have t_332 : pI S_45 801 x = 0 := tI_sR eS_45 t_331
  have t_333 : pI S_52 801 x = 0 := by rw [eS_52, pI_sN]; exact t_332
  have t_334 : pI S_61 801 x = 0 := tI_sR eS_61 t_333
  have t_335 : pI S_68 801 x = 0 := by rw [eS_68, pI_sN]; exact t_334
  have t_336 : pI S_77 801 x = 0 := tI_sR eS_77 t_335
  have t_337 : pI S_84 801 x = 0 := by rw [eS_84, pI_sN]; exact t_336
  have t_338 : pI S_93 801 x = 0 := tI_sR eS_93 t_337
  have t_339 : pI S_100 801 x = 0 := by rw [eS_100, pI_sN]; exact t_338
  have t_340 : pI S_109 801 x = 0 := tI_sR eS_109 t_339
  have t_341 : pI S_116 801 x = 0 := by rw [eS_116]; exact (pI_sO_ne (ne_of_new hq_115 t_158.1)).trans t_340
  have t_342 : pI S_123 801 x = 0 := (((hK_124 x t_160.1).2 (At_ne t_160 ha_121 (by decide))).2.1 801).trans t_341
  have t_343 : pI S_135 801 x = 0 := tI_sR eS_135 t_342
  exact ret_v X hw hr hlocks (Nat.le_of_ble_eq_true rfl) (Nat.le_of_ble_eq_true rfl) ⟨hk9, hg9, ha9, hPhc9, hPhs9, (by rw [eS_326, pI_sK]; exact t_343)⟩ dX8_init_75
