set_option maxRecDepth 20000 in
theorem ggX11_init_X10_init : GoodIn wsX11_init wsX10_init := goodIn_h _ [2, 0, 28, 0, 0, 0, 0, 49, 0, 0, 0, 0, 0, 0] [2, 3, 0, 1, 4, 5, 6, 7, 8, 9, 10, 11, 12, 13] (by decide +kernel) (by decide +kernel)
set_option maxRecDepth 20000 in
theorem gX11_init_X10_init_n27 : GoodIn wsX11_init (wsX10_init) := ggX11_init_X10_init
set_option maxRecDepth 20000 in
theorem ggX11_init_X6_init : GoodIn wsX11_init wsX6_init := goodIn_h _ [2, 0, 2, 31, 0, 0, 0, 0, 0, 0, 0, 47, 0, 0, 0, 0, 0, 0] [3, 4, 0, 1, 2, 5, 6, 7, 8, 9, 10, 11, 12, 13, 14, 15, 16, 17] (by decide +kernel) (by decide +kernel)
set_option maxRecDepth 20000 in
theorem gX11_init_X6_init_n34 : GoodIn wsX11_init (wsX6_init) := ggX11_init_X6_init
set_option maxRecDepth 20000 in
theorem ggX11_init_X8_init : GoodIn wsX11_init wsX8_init := goodIn_h _ [2, 0, 2, 40, 0, 0, 0, 0, 0, 0, 0, 0, 0, 0, 0, 0, 0, 0, 0, 0, 0, 35, 0, 0, 0, 0, 0, 0, 0, 0, 0, 0, 0, 0, 9, 0, 0, 0, 0, 0, 0, 0] [3, 4, 0, 1, 2, 5, 6, 7, 8, 9, 10, 11, 12, 13, 14, 15, 16, 17, 18, 19, 20, 21, 22, 23, 24, 25, 26, 27, 28, 29, 30, 31, 32, 33, 34, 35, 36, 37, 38, 39, 40, 41] (by decide +kernel) (by decide +kernel)
set_option maxRecDepth 20000 in
theorem gX11_init_X8_init_n41 : GoodIn wsX11_init (wsX8_init) := ggX11_init_X8_init
set_option maxRecDepth 20000 in
theorem ggX11_init_X1_init : GoodIn wsX11_init wsX1_init := goodIn_h _ [2, 0, 2, 59, 0, 0, 44, 0, 0, 0] [3, 4, 0, 1, 2, 5, 6, 7, 8, 9] (by decide +kernel) (by decide +kernel)
set_option maxRecDepth 20000 in
theorem gX11_init_X1_init_n48 : GoodIn wsX11_init (wsX1_init) := ggX11_init_X1_init
set_option maxRecDepth 20000 in
theorem ggX11_init_X3_init : GoodIn wsX11_init wsX3_init := goodIn_h _ [2, 0, 2, 63, 0, 0, 0, 43, 0, 0, 0, 0] [3, 4, 0, 1, 5, 2, 6, 7, 8, 9, 10, 11] (by decide +kernel) (by decide +kernel)
set_option maxRecDepth 20000 in
theorem gX11_init_X3_init_n62 : GoodIn wsX11_init (wsX3_init) := ggX11_init_X3_init
theorem dX11_init_0 : decode cX11_init 0 = .ok (.aload_n 0, 1) := by decide +kernel
theorem dX11_init_1 : decode cX11_init 1 = .ok (.invokespecial 3, 3) := by decide +kernel
theorem dX11_init_4 : decode cX11_init 4 = .ok (.aload_n 0, 1) := by decide +kernel
theorem dX11_init_5 : decode cX11_init 5 = .ok (.sipush 600, 3) := by decide +kernel
theorem dX11_init_8 : decode cX11_init 8 = .ok (.anewarray 9, 3) := by decide +kernel
theorem dX11_init_11 : decode cX11_init 11 = .ok (.putfield 11, 3) := by decide +kernel
theorem dX11_init_14 : decode cX11_init 14 = .ok (.aload_n 0, 1) := by decide +kernel
theorem dX11_init_15 : decode cX11_init 15 = .ok (.bipush 10, 2) := by decide +kernel
theorem dX11_init_17 : decode cX11_init 17 = .ok (.newarray .int, 2) := by decide +kernel
theorem dX11_init_19 : decode cX11_init 19 = .ok (.putfield 15, 3) := by decide +kernel
theorem dX11_init_22 : decode cX11_init 22 = .ok (.aload_n 0, 1) := by decide +kernel
theorem dX11_init_23 : decode cX11_init 23 = .ok (.iconst 4, 1) := by decide +kernel
theorem dX11_init_24 : decode cX11_init 24 = .ok (.anewarray 19, 3) := by decide +kernel
theorem dX11_init_27 : decode cX11_init 27 = .ok (.putfield 21, 3) := by decide +kernel
theorem dX11_init_30 : decode cX11_init 30 = .ok (.aload_n 0, 1) := by decide +kernel
theorem dX11_init_31 : decode cX11_init 31 = .ok (.new 25, 3) := by decide +kernel
theorem dX11_init_34 : decode cX11_init 34 = .ok (.dup, 1) := by decide +kernel
theorem dX11_init_35 : decode cX11_init 35 = .ok (.invokespecial 27, 3) := by decide +kernel
theorem dX11_init_38 : decode cX11_init 38 = .ok (.putfield 28, 3) := by decide +kernel
theorem dX11_init_41 : decode cX11_init 41 = .ok (.aload_n 0, 1) := by decide +kernel
theorem dX11_init_42 : decode cX11_init 42 = .ok (.new 32, 3) := by decide +kernel
theorem dX11_init_45 : decode cX11_init 45 = .ok (.dup, 1) := by decide +kernel
theorem dX11_init_46 : decode cX11_init 46 = .ok (.invokespecial 34, 3) := by decide +kernel
theorem dX11_init_49 : decode cX11_init 49 = .ok (.putfield 35, 3) := by decide +kernel
theorem dX11_init_52 : decode cX11_init 52 = .ok (.aload_n 0, 1) := by decide +kernel
theorem dX11_init_53 : decode cX11_init 53 = .ok (.new 39, 3) := by decide +kernel
theorem dX11_init_56 : decode cX11_init 56 = .ok (.dup, 1) := by decide +kernel
theorem dX11_init_57 : decode cX11_init 57 = .ok (.invokespecial 41, 3) := by decide +kernel
theorem dX11_init_60 : decode cX11_init 60 = .ok (.putfield 42, 3) := by decide +kernel
theorem dX11_init_63 : decode cX11_init 63 = .ok (.aload_n 0, 1) := by decide +kernel
theorem dX11_init_64 : decode cX11_init 64 = .ok (.new 46, 3) := by decide +kernel
theorem dX11_init_67 : decode cX11_init 67 = .ok (.dup, 1) := by decide +kernel
theorem dX11_init_68 : decode cX11_init 68 = .ok (.invokespecial 48, 3) := by decide +kernel
theorem dX11_init_71 : decode cX11_init 71 = .ok (.putfield 49, 3) := by decide +kernel
theorem dX11_init_74 : decode cX11_init 74 = .ok (.aload_n 0, 1) := by decide +kernel
theorem dX11_init_75 : decode cX11_init 75 = .ok (.bipush 16, 2) := by decide +kernel
theorem dX11_init_77 : decode cX11_init 77 = .ok (.anewarray 53, 3) := by decide +kernel
theorem dX11_init_80 : decode cX11_init 80 = .ok (.putfield 55, 3) := by decide +kernel
theorem dX11_init_83 : decode cX11_init 83 = .ok (.aload_n 0, 1) := by decide +kernel
theorem dX11_init_84 : decode cX11_init 84 = .ok (.bipush 60, 2) := by decide +kernel
theorem dX11_init_86 : decode cX11_init 86 = .ok (.newarray .int, 2) := by decide +kernel
theorem dX11_init_88 : decode cX11_init 88 = .ok (.putfield 59, 3) := by decide +kernel
theorem dX11_init_91 : decode cX11_init 91 = .ok (.iconst 0, 1) := by decide +kernel
theorem dX11_init_92 : decode cX11_init 92 = .ok (.istore_n 1, 1) := by decide +kernel
theorem dX11_init_93 : decode cX11_init 93 = .ok (.iload_n 1, 1) := by decide +kernel
theorem dX11_init_94 : decode cX11_init 94 = .ok (.bipush 16, 2) := by decide +kernel
theorem dX11_init_96 : decode cX11_init 96 = .ok (.if_icmp .ge 22, 3) := by decide +kernel
theorem dX11_init_99 : decode cX11_init 99 = .ok (.aload_n 0, 1) := by decide +kernel
theorem dX11_init_100 : decode cX11_init 100 = .ok (.getfield 55, 3) := by decide +kernel
theorem dX11_init_103 : decode cX11_init 103 = .ok (.iload_n 1, 1) := by decide +kernel
theorem dX11_init_104 : decode cX11_init 104 = .ok (.new 53, 3) := by decide +kernel
theorem dX11_init_107 : decode cX11_init 107 = .ok (.dup, 1) := by decide +kernel
theorem dX11_init_108 : decode cX11_init 108 = .ok (.invokespecial 62, 3) := by decide +kernel
theorem dX11_init_111 : decode cX11_init 111 = .ok (.aastore, 1) := by decide +kernel
theorem dX11_init_112 : decode cX11_init 112 = .ok (.iinc 1 1, 3) := by decide +kernel
theorem dX11_init_115 : decode cX11_init 115 = .ok (.goto (-22), 3) := by decide +kernel
theorem dX11_init_118 : decode cX11_init 118 = .ok (.return_, 1) := by decide +kernel
theorem inn_X11_init_1 : ∀ w ∈ u_ws RX1 TX1 4, w ∈ wsX11_init := fun w h => List.mem_cons_of_mem _ (List.mem_append_left _ (List.mem_append_left _ (List.mem_append_right _ h)))
theorem inn_X11_init_10 : ∀ w ∈ u_ws RX10 TX10 7, w ∈ wsX11_init := fun w h => List.mem_cons_of_mem _ (List.mem_append_left _ (List.mem_append_left _ (List.mem_append_left _ (List.mem_append_left _ (List.mem_append_left _ (List.mem_append_right _ h))))))
theorem inn_X11_init_11 : ∀ w ∈ u_ws RX11 TX11 12, w ∈ wsX11_init := fun w h => List.mem_cons_of_mem _ (List.mem_append_left _ (List.mem_append_left _ (List.mem_append_left _ (List.mem_append_left _ (List.mem_append_left _ (List.mem_append_left _ (List.mem_append_right _ h)))))))
theorem inn_X11_init_3 : ∀ w ∈ u_ws RX3 TX3 5, w ∈ wsX11_init := fun w h => List.mem_cons_of_mem _ (List.mem_append_left _ (List.mem_append_right _ h))
theorem inn_X11_init_6 : ∀ w ∈ u_ws RX6 TX6 7, w ∈ wsX11_init := fun w h => List.mem_cons_of_mem _ (List.mem_append_left _ (List.mem_append_left _ (List.mem_append_left _ (List.mem_append_left _ (List.mem_append_right _ h)))))
theorem inn_X11_init_8 : ∀ w ∈ u_ws RX8 TX8 13, w ∈ wsX11_init := fun w h => List.mem_cons_of_mem _ (List.mem_append_left _ (List.mem_append_left _ (List.mem_append_left _ (List.mem_append_right _ h))))
set_option maxHeartbeats 4000000 in
set_option maxRecDepth 100000 in
theorem k_X11_init (l : Launch) (G : va_G) (cy : Nat → ClassId) (κ : Nat → Nat) (S : PS) (sz : Nat) (x : Nat) (hG : GX S) (ha_x : At S x 191) (hzI : ∀ g, pI S g x = 0) (hzR : ∀ g, pR S g x = none) : Cv l yX11_init wsX11_init ({ frames := 4, cells := 58, slots := 1728, locals := 192 }) G cy κ S sz [.ref x] (fun (S9 : PS) => Kq S S9 x ∧ GX S9 ∧ At S9 x 11 ∧ Phc S9 = Phc S + 57920 ∧ Phs S9 = Phs S + 788000 ∧ ∃ q, pR S9 1107 x = some q ∧ At S9 q 8 ∧ pI S9 801 q = 0 ∧ pI S9 1102 x = 0 ∧ pI S9 1104 x = 0 ∧ ∃ u, pR S9 1105 x = some u ∧ At S9 u 10 ∧ pI S9 1000 u = 0) := by
  refine ent_m (cc := cX11_init) (maxL := 2) (ret := none) (by decide) rfl (Nat.le_of_ble_eq_true rfl) ?_
  intro p e s m below meth c ls X hr hlocks hin hw hl hsz
  subst hsz
  have X : Cx p c cX11_init 2 s [.ref x].toArray wsX11_init RX11 m G cy κ (AS S s.heap.size) := X
  have hl : lv_has ls 2 [(0, .ref x)] := hl
  have hpc0 : Phc S = Phc S + 0 := rfl
  have hps0 : Phs S = Phs S + 0 := rfl
  have hK : Kq S S x := Kq.rf S _
  generalize hQQ : MQ below _ _ _ _ _ _ = QQ
  replace hQQ := hQQ.symm
  refine lv_aload_n X.1 X.2.1 dX11_init_0 rfl (lv_at hl 0 rfl) ?_
  refine W.objInit X.1 X.2.1 X.2.2.2.2.1 (X.2.2.2.1 (.methodLink RX11 3 objectInit) (by decide +kernel)) (X.2.2.2.1 (.instanceMethod objectInit) (by decide +kernel)) (X.2.2.2.1 (.code objectInit ⟨#[0xb1]⟩ 1 none) (by decide +kernel)) rfl (hl.1.trans X.2.2.1.symm) rfl dX11_init_1 (Nat.le_of_ble_eq_true rfl) (Nat.le_of_ble_eq_true rfl) ?_
  refine W.eq (g2 := F0 m 4 ls ([])) rfl ?_
  refine lv_aload_n X.1 X.2.1 dX11_init_4 rfl (lv_at hl 0 rfl) ?_
  refine lv_sipush (v := 600) X.1 X.2.1 dX11_init_5 (by decide) ?_
  refine r_newQ (N := 600) (C := RX0) X hw 36 16 600 1 rfl (by decide) rfl (X.2.2.2.1 (.classLink RX11 9 RX0) (by decide +kernel)) X.2.2.2.2.2.2.2.1.1.1 (z_nn ti_600 (by omega)) (by decide) (by decide) (by show 0 + 1 ≤ 1; omega) (by show 0 + 600 ≤ 600; omega) (by show 1 ≤ 58; omega) (by show 600 ≤ 1728; omega) dX11_init_8 (fun q_1 H hq_1 hw => ?_)
  obtain ⟨S_2, eS_2⟩ : ∃ T, T = sN S q_1 36 600 := ⟨_, rfl⟩
  rw [← eS_2] at hw
  have ph_3 : Phc S_2 = Phc S + 0 := (show Phc S_2 = Phc S from Ph_sN' hG.ci hq_1 eS_2 (by decide)).trans hpc0
  have ph_4 : Phs S_2 = Phs S + 0 := (show Phs S_2 = Phs S from Ph_sN' hG.ci hq_1 eS_2 (by decide)).trans hps0
  clear hpc0
  clear hps0
  have hK_5 : Kq S S_2 x := hK.sN hq_1 eS_2
  have hg_6 : GX S_2 := by rw [eS_2]; exact GX_N hG hq_1 (by decide +kernel)
  have hn0_q_1 := hK.new hq_1
  have ha_7 : At S_2 q_1 36 := by rw [eS_2]; exact At_nN _ _ _ _
  have hn_8 : pN S_2 q_1 = 600 := by rw [eS_2]; exact pN_sN_new
  have t_9 : At S_2 x 191 := by rw [eS_2]; exact At_sN ha_x hq_1
  refine r_putR X hw t_9 rfl 0 1100 (some q_1) rfl tyX11 (by decide) rfl inn_X11_init_11 tyX11_ok nmX11 (by decide) (X.2.2.2.1 (.fieldLink RX11 11 "SilkMill" "cocoons" "[LSilkMill$Cocoon;") (by decide +kernel)) rfl (Or.inr ⟨rfl, hin, rfl⟩) (fun _ => rfl) rfl (fun _ => rfl) rfl (Nat.le_of_ble_eq_true rfl) (st_1100 _ _) dX11_init_11 (fun H locs hw => ?_)
  obtain ⟨S_10, eS_10⟩ : ∃ T, T = sR S_2 1100 x (some q_1) := ⟨_, rfl⟩
  rw [← eS_10] at hw
  have ph_11 : Phc S_10 = Phc S + 0 := (show Phc S_10 = Phc S_2 from Ph_rawR t_9 (by decide) eS_10).trans ph_3
  have ph_12 : Phs S_10 = Phs S + 0 := (show Phs S_10 = Phs S_2 from Ph_rawR t_9 (by decide) eS_10).trans ph_4
  clear ph_3
  clear ph_4
  have hK_13 : Kq S S_10 x := hK_5.sR eS_10
  have hg_14 : GX S_10 := by rw [eS_10]; exact GX_rawR hg_6 t_9 (by decide +kernel)
  have h_15 : pR S_10 1100 x = some q_1 := tR_sRs eS_10
  refine lv_aload_n X.1 X.2.1 dX11_init_14 rfl (lv_at hl 0 rfl) ?_
  refine lv_bipush (v := 10) X.1 X.2.1 dX11_init_15 (by decide) ?_
  refine r_newI (N := 10) X hw 54 610 2 rfl (X.2.2.2.1 (.arrayClass .int) (by decide +kernel)) (z_nn ti_10 (by omega)) (by decide) (by decide) (by show 1 + 1 ≤ 2; omega) (by show 600 + 10 ≤ 610; omega) (by show 2 ≤ 58; omega) (by show 610 ≤ 1728; omega) dX11_init_17 (fun q_16 H hq_16 hw => ?_)
  obtain ⟨S_17, eS_17⟩ : ∃ T, T = sN S_10 q_16 54 10 := ⟨_, rfl⟩
  rw [← eS_17] at hw
  have ph_18 : Phc S_17 = Phc S + 0 := (show Phc S_17 = Phc S_10 from Ph_sN' hg_14.ci hq_16 eS_17 (by decide)).trans ph_11
  have ph_19 : Phs S_17 = Phs S + 0 := (show Phs S_17 = Phs S_10 from Ph_sN' hg_14.ci hq_16 eS_17 (by decide)).trans ph_12
  clear ph_11
  clear ph_12
  have hK_20 : Kq S S_17 x := hK_13.sN hq_16 eS_17
  have hg_21 : GX S_17 := by rw [eS_17]; exact GX_N hg_14 hq_16 (by decide +kernel)
  have hn0_q_16 := hK_13.new hq_16
  have ha_22 : At S_17 q_16 54 := by rw [eS_17]; exact At_nN _ _ _ _
  have hn_23 : pN S_17 q_16 = 10 := by rw [eS_17]; exact pN_sN_new
  have t_24 : At S_10 x 191 := tAt_sR eS_10 t_9
  have t_25 : At S_17 x 191 := by rw [eS_17]; exact At_sN t_24 hq_16
  refine r_putR X hw t_25 rfl 1 1101 (some q_16) rfl tyX11 (by decide) rfl inn_X11_init_11 tyX11_ok nmX11 (by decide) (X.2.2.2.1 (.fieldLink RX11 15 "SilkMill" "lotSizes" "[I") (by decide +kernel)) rfl (Or.inr ⟨rfl, hin, rfl⟩) (fun _ => rfl) rfl (fun _ => rfl) rfl (Nat.le_of_ble_eq_true rfl) (st_1101 _ _) dX11_init_19 (fun H locs hw => ?_)
  obtain ⟨S_26, eS_26⟩ : ∃ T, T = sR S_17 1101 x (some q_16) := ⟨_, rfl⟩
  rw [← eS_26] at hw
  have ph_27 : Phc S_26 = Phc S + 0 := (show Phc S_26 = Phc S_17 from Ph_rawR t_25 (by decide) eS_26).trans ph_18
  have ph_28 : Phs S_26 = Phs S + 0 := (show Phs S_26 = Phs S_17 from Ph_rawR t_25 (by decide) eS_26).trans ph_19
  clear ph_18
  clear ph_19
  have hK_29 : Kq S S_26 x := hK_20.sR eS_26
  have hg_30 : GX S_26 := by rw [eS_26]; exact GX_rawR hg_21 t_25 (by decide +kernel)
  have h_31 : pR S_26 1101 x = some q_16 := tR_sRs eS_26
  refine lv_aload_n X.1 X.2.1 dX11_init_22 rfl (lv_at hl 0 rfl) ?_
  refine lv_iconst (v := 4) X.1 X.2.1 dX11_init_23 (by decide) ?_
  refine r_newQ (N := 4) (C := RX4) X hw 18 18 614 3 rfl (by decide) rfl (X.2.2.2.1 (.classLink RX11 19 RX4) (by decide +kernel)) X.2.2.2.2.2.2.2.1.1.2.2.1 (z_nn ti_4 (by omega)) (by decide) (by decide) (by show 2 + 1 ≤ 3; omega) (by show 610 + 4 ≤ 614; omega) (by show 3 ≤ 58; omega) (by show 614 ≤ 1728; omega) dX11_init_24 (fun q_32 H hq_32 hw => ?_)
  obtain ⟨S_33, eS_33⟩ : ∃ T, T = sN S_26 q_32 18 4 := ⟨_, rfl⟩
  rw [← eS_33] at hw
  have ph_34 : Phc S_33 = Phc S + 0 := (show Phc S_33 = Phc S_26 from Ph_sN' hg_30.ci hq_32 eS_33 (by decide)).trans ph_27
  have ph_35 : Phs S_33 = Phs S + 0 := (show Phs S_33 = Phs S_26 from Ph_sN' hg_30.ci hq_32 eS_33 (by decide)).trans ph_28
  clear ph_27
  clear ph_28
  have hK_36 : Kq S S_33 x := hK_29.sN hq_32 eS_33
  have hg_37 : GX S_33 := by rw [eS_33]; exact GX_N hg_30 hq_32 (by decide +kernel)
  have hn0_q_32 := hK_29.new hq_32
  have ha_38 : At S_33 q_32 18 := by rw [eS_33]; exact At_nN _ _ _ _
  have hn_39 : pN S_33 q_32 = 4 := by rw [eS_33]; exact pN_sN_new
  have t_40 : At S_26 x 191 := tAt_sR eS_26 t_25
  have t_41 : At S_33 x 191 := by rw [eS_33]; exact At_sN t_40 hq_32
  refine r_putR X hw t_41 rfl 3 1103 (some q_32) rfl tyX11 (by decide) rfl inn_X11_init_11 tyX11_ok nmX11 (by decide) (X.2.2.2.1 (.fieldLink RX11 21 "SilkMill" "pots" "[LSilkMill$Pot;") (by decide +kernel)) rfl (Or.inr ⟨rfl, hin, rfl⟩) (fun _ => rfl) rfl (fun _ => rfl) rfl (Nat.le_of_ble_eq_true rfl) (st_1103 _ _) dX11_init_27 (fun H locs hw => ?_)
  obtain ⟨S_42, eS_42⟩ : ∃ T, T = sR S_33 1103 x (some q_32) := ⟨_, rfl⟩
  rw [← eS_42] at hw
  have ph_43 : Phc S_42 = Phc S + 0 := (show Phc S_42 = Phc S_33 from Ph_rawR t_41 (by decide) eS_42).trans ph_34
  have ph_44 : Phs S_42 = Phs S + 0 := (show Phs S_42 = Phs S_33 from Ph_rawR t_41 (by decide) eS_42).trans ph_35
  clear ph_34
  clear ph_35
  have hK_45 : Kq S S_42 x := hK_36.sR eS_42
  have hg_46 : GX S_42 := by rw [eS_42]; exact GX_rawR hg_37 t_41 (by decide +kernel)
  have h_47 : pR S_42 1103 x = some q_32 := tR_sRs eS_42
  refine lv_aload_n X.1 X.2.1 dX11_init_30 rfl (lv_at hl 0 rfl) ?_
  refine r_new X hw 190 10 621 4 rfl tyX10 (by decide) rfl inn_X11_init_10 tyX10_ok (X.2.2.2.1 (.classLink RX11 25 RX10) (by decide +kernel)) (X.2.2.2.1 (.instantiable RX10 7) (by decide +kernel)) (X.2.2.2.1 (.initialized RX10) (by decide +kernel)) (zo_10 _) zd_10 (by show 3 + 1 ≤ 4; omega) (by show 614 + 7 ≤ 621; omega) (by show 4 ≤ 58; omega) (by show 621 ≤ 1728; omega) dX11_init_31 (fun q_48 H hq_48 hw => ?_)
  obtain ⟨S_49, eS_49⟩ : ∃ T, T = sO S_42 q_48 190 := ⟨_, rfl⟩
  rw [← eS_49] at hw
  have ph_50 : Phc S_49 = Phc S + 0 := (show Phc S_49 = Phc S_42 from Ph_sO hg_46 hq_48 eS_49 (by decide)).trans ph_43
  have ph_51 : Phs S_49 = Phs S + 0 := (show Phs S_49 = Phs S_42 from Ph_sO hg_46 hq_48 eS_49 (by decide)).trans ph_44
  clear ph_43
  clear ph_44
  have hK_52 : Kq S S_49 x := hK_45.sO hq_48 eS_49
  have hg_53 : GX S_49 := by rw [eS_49]; exact GX_O hg_46 hq_48 (by decide +kernel)
  have hn0_q_48 := hK_45.new hq_48
  have ha_54 : At S_49 q_48 190 := by rw [eS_49]; exact At_nO _ _ _
  have hzI_q_48 : ∀ g, pI S_49 g q_48 = 0 := fun g => by rw [eS_49]; exact pI_sO_new
  have hzR_q_48 : ∀ g, pR S_49 g q_48 = none := fun g => by rw [eS_49]; exact if_pos rfl
  refine lv_dup X.1 X.2.1 dX11_init_34 rfl ?_
  refine k_v (rm := { frames := 2, cells := 1, slots := 400, locals := 96 }) (av := [.ref q_48]) X hw (va_runIN (As := []) (rest := [.ref q_48, .ref x]) (cfix X) (k_X10_init l G cy κ S_49 _ q_48 hg_53 ha_54 hzI_q_48 hzR_q_48) ⟨(va_cnB (host := RX11) 0 X.2.2.2.1 gX11_init_X10_init_n27 rfl rfl rfl (X.2.2.2.2.2.2.2.1.2.1 (RX11, 27, yX10_init) (by decide +kernel)) (X.2.2.2.1 (.initialized RX10) (by decide +kernel)) (by decide +kernel) ⟨Nat.le_of_ble_eq_true rfl, Nat.le_of_ble_eq_true rfl⟩), rfl, (X.2.2.2.1 (.instanceMethod yX10_init) (by decide +kernel))⟩ (pre_S X hw _) rfl rfl hl.1 rfl (lv_room (Nat.le_of_ble_eq_true rfl)) dX11_init_35 ⟨(by show 4 + 1 ≤ 58; omega), (by show 621 + 400 ≤ 1728; omega)⟩) 5 1021 (by show 4 + 1 ≤ 5; omega) (by show 621 + 400 ≤ 1021; omega) (fun S_56 H locs hp hw hfr hnw => ?_)
  obtain ⟨hK_57, hg_58, ha_59, ph_60, ph_61, kz_62⟩ := hp
  have hK_63 : Kq S S_56 x := hK_52.sub hn0_q_48 hK_57
  have ph_64 : Phc S_56 = Phc S + 0 := by omega
  have ph_65 : Phs S_56 = Phs S + 0 := by omega
  clear ph_50
  clear ph_51
  clear ph_60
  clear ph_61
  have t_66 : At S_42 x 191 := tAt_sR eS_42 t_41
  have t_67 : At S_49 x 191 := by rw [eS_49]; exact At_sO t_66 hq_48
  have t_68 : At S_56 x 191 := hK_57.at ha_54 t_67 (by decide)
  refine r_putR X hw t_68 rfl 5 1105 (some q_48) rfl tyX11 (by decide) rfl inn_X11_init_11 tyX11_ok nmX11 (by decide) (X.2.2.2.1 (.fieldLink RX11 28 "SilkMill" "tape" "LSilkMill$Tape;") (by decide +kernel)) rfl (Or.inr ⟨rfl, hin, rfl⟩) (fun _ => rfl) rfl (fun _ => rfl) rfl (Nat.le_of_ble_eq_true rfl) (st_1105 _ _) dX11_init_38 (fun H locs hw => ?_)
  obtain ⟨S_69, eS_69⟩ : ∃ T, T = sR S_56 1105 x (some q_48) := ⟨_, rfl⟩
  rw [← eS_69] at hw
  have ph_70 : Phc S_69 = Phc S + 0 := (show Phc S_69 = Phc S_56 from Ph_rawR t_68 (by decide) eS_69).trans ph_64
  have ph_71 : Phs S_69 = Phs S + 0 := (show Phs S_69 = Phs S_56 from Ph_rawR t_68 (by decide) eS_69).trans ph_65
  clear ph_64
  clear ph_65
  have hK_72 : Kq S S_69 x := hK_63.sR eS_69
  have hg_73 : GX S_69 := by rw [eS_69]; exact GX_rawR hg_58 t_68 (by decide +kernel)
  have h_74 : pR S_69 1105 x = some q_48 := tR_sRs eS_69
  refine lv_aload_n X.1 X.2.1 dX11_init_41 rfl (lv_at hl 0 rfl) ?_
  refine r_new X hw 186 6 1028 6 rfl tyX6 (by decide) rfl inn_X11_init_6 tyX6_ok (X.2.2.2.1 (.classLink RX11 32 RX6) (by decide +kernel)) (X.2.2.2.1 (.instantiable RX6 7) (by decide +kernel)) (X.2.2.2.1 (.initialized RX6) (by decide +kernel)) (zo_6 _) zd_6 (by show 5 + 1 ≤ 6; omega) (by show 1021 + 7 ≤ 1028; omega) (by show 6 ≤ 58; omega) (by show 1028 ≤ 1728; omega) dX11_init_42 (fun q_75 H hq_75 hw => ?_)
  obtain ⟨S_76, eS_76⟩ : ∃ T, T = sO S_69 q_75 186 := ⟨_, rfl⟩
  rw [← eS_76] at hw
  have ph_77 : Phc S_76 = Phc S + 0 := (show Phc S_76 = Phc S_69 from Ph_sO hg_73 hq_75 eS_76 (by decide)).trans ph_70
  have ph_78 : Phs S_76 = Phs S + 0 := (show Phs S_76 = Phs S_69 from Ph_sO hg_73 hq_75 eS_76 (by decide)).trans ph_71
  clear ph_70
  clear ph_71
  have hK_79 : Kq S S_76 x := hK_72.sO hq_75 eS_76
  have hg_80 : GX S_76 := by rw [eS_76]; exact GX_O hg_73 hq_75 (by decide +kernel)
  have hn0_q_75 := hK_72.new hq_75
  have ha_81 : At S_76 q_75 186 := by rw [eS_76]; exact At_nO _ _ _
  have hzI_q_75 : ∀ g, pI S_76 g q_75 = 0 := fun g => by rw [eS_76]; exact pI_sO_new
  have hzR_q_75 : ∀ g, pR S_76 g q_75 = none := fun g => by rw [eS_76]; exact if_pos rfl
  refine lv_dup X.1 X.2.1 dX11_init_45 rfl ?_
  refine k_v (rm := { frames := 2, cells := 6, slots := 180, locals := 96 }) (av := [.ref q_75]) X hw (va_runIN (As := []) (rest := [.ref q_75, .ref x]) (cfix X) (k_X6_init l G cy κ S_76 _ q_75 hg_80 ha_81 hzI_q_75 hzR_q_75) ⟨(va_cnB (host := RX11) 0 X.2.2.2.1 gX11_init_X6_init_n34 rfl rfl rfl (X.2.2.2.2.2.2.2.1.2.1 (RX11, 34, yX6_init) (by decide +kernel)) (X.2.2.2.1 (.initialized RX6) (by decide +kernel)) (by decide +kernel) ⟨Nat.le_of_ble_eq_true rfl, Nat.le_of_ble_eq_true rfl⟩), rfl, (X.2.2.2.1 (.instanceMethod yX6_init) (by decide +kernel))⟩ (pre_S X hw _) rfl rfl hl.1 rfl (lv_room (Nat.le_of_ble_eq_true rfl)) dX11_init_46 ⟨(by show 6 + 6 ≤ 58; omega), (by show 1028 + 180 ≤ 1728; omega)⟩) 12 1208 (by show 6 + 6 ≤ 12; omega) (by show 1028 + 180 ≤ 1208; omega) (fun S_83 H locs hp hw hfr hnw => ?_)
  obtain ⟨hK_84, hg_85, ha_86, ph_87, ph_88⟩ := hp
  have hK_89 : Kq S S_83 x := hK_79.sub hn0_q_75 hK_84
  have ph_90 : Phc S_83 = Phc S + 0 := by omega
  have ph_91 : Phs S_83 = Phs S + 0 := by omega
  clear ph_77
  clear ph_78
  clear ph_87
  clear ph_88
  have t_92 : At S_69 x 191 := tAt_sR eS_69 t_68
  have t_93 : At S_76 x 191 := by rw [eS_76]; exact At_sO t_92 hq_75
  have t_94 : At S_83 x 191 := hK_84.at ha_81 t_93 (by decide)
  refine r_putR X hw t_94 rfl 6 1106 (some q_75) rfl tyX11 (by decide) rfl inn_X11_init_11 tyX11_ok nmX11 (by decide) (X.2.2.2.1 (.fieldLink RX11 35 "SilkMill" "spareRules" "LSilkMill$Rules;") (by decide +kernel)) rfl (Or.inl rfl) (fun _ => rfl) rfl (fun _ => rfl) rfl (Nat.le_of_ble_eq_true rfl) (st_1106 _ _) dX11_init_49 (fun H locs hw => ?_)
  obtain ⟨S_95, eS_95⟩ : ∃ T, T = sR S_83 1106 x (some q_75) := ⟨_, rfl⟩
  rw [← eS_95] at hw
  have ph_96 : Phc S_95 = Phc S + 0 := (show Phc S_95 = Phc S_83 from Ph_rawR t_94 (by decide) eS_95).trans ph_90
  have ph_97 : Phs S_95 = Phs S + 0 := (show Phs S_95 = Phs S_83 from Ph_rawR t_94 (by decide) eS_95).trans ph_91
  clear ph_90
  clear ph_91
  have hK_98 : Kq S S_95 x := hK_89.sR eS_95
  have hg_99 : GX S_95 := by rw [eS_95]; exact GX_rawR hg_85 t_94 (by decide +kernel)
  have h_100 : pR S_95 1106 x = some q_75 := tR_sRs eS_95
  refine lv_aload_n X.1 X.2.1 dX11_init_52 rfl (lv_at hl 0 rfl) ?_
  refine r_new X hw 188 8 1221 13 rfl tyX8 (by decide) rfl inn_X11_init_8 tyX8_ok (X.2.2.2.1 (.classLink RX11 39 RX8) (by decide +kernel)) (X.2.2.2.1 (.instantiable RX8 13) (by decide +kernel)) (X.2.2.2.1 (.initialized RX8) (by decide +kernel)) (zo_8 _) zd_8 (by show 12 + 1 ≤ 13; omega) (by show 1208 + 13 ≤ 1221; omega) (by show 13 ≤ 58; omega) (by show 1221 ≤ 1728; omega) dX11_init_53 (fun q_101 H hq_101 hw => ?_)
  obtain ⟨S_102, eS_102⟩ : ∃ T, T = sO S_95 q_101 188 := ⟨_, rfl⟩
  rw [← eS_102] at hw
  have ph_103 : Phc S_102 = Phc S + 0 := (show Phc S_102 = Phc S_95 from Ph_sO hg_99 hq_101 eS_102 (by decide)).trans ph_96
  have ph_104 : Phs S_102 = Phs S + 0 := (show Phs S_102 = Phs S_95 from Ph_sO hg_99 hq_101 eS_102 (by decide)).trans ph_97
  clear ph_96
  clear ph_97
  have hK_105 : Kq S S_102 x := hK_98.sO hq_101 eS_102
  have hg_106 : GX S_102 := by rw [eS_102]; exact GX_O hg_99 hq_101 (by decide +kernel)
  have hn0_q_101 := hK_98.new hq_101
  have ha_107 : At S_102 q_101 188 := by rw [eS_102]; exact At_nO _ _ _
  have hzI_q_101 : ∀ g, pI S_102 g q_101 = 0 := fun g => by rw [eS_102]; exact pI_sO_new
  have hzR_q_101 : ∀ g, pR S_102 g q_101 = none := fun g => by rw [eS_102]; exact if_pos rfl
  refine lv_dup X.1 X.2.1 dX11_init_56 rfl ?_
  refine k_v (rm := { frames := 3, cells := 9, slots := 214, locals := 144 }) (av := [.ref q_101]) X hw (va_runIN (As := []) (rest := [.ref q_101, .ref x]) (cfix X) (k_X8_init l G cy κ S_102 _ q_101 hg_106 ha_107 hzI_q_101 hzR_q_101) ⟨(va_cnB (host := RX11) 0 X.2.2.2.1 gX11_init_X8_init_n41 rfl rfl rfl (X.2.2.2.2.2.2.2.1.2.1 (RX11, 41, yX8_init) (by decide +kernel)) (X.2.2.2.1 (.initialized RX8) (by decide +kernel)) (by decide +kernel) ⟨Nat.le_of_ble_eq_true rfl, Nat.le_of_ble_eq_true rfl⟩), rfl, (X.2.2.2.1 (.instanceMethod yX8_init) (by decide +kernel))⟩ (pre_S X hw _) rfl rfl hl.1 rfl (lv_room (Nat.le_of_ble_eq_true rfl)) dX11_init_57 ⟨(by show 13 + 9 ≤ 58; omega), (by show 1221 + 214 ≤ 1728; omega)⟩) 22 1435 (by show 13 + 9 ≤ 22; omega) (by show 1221 + 214 ≤ 1435; omega) (fun S_109 H locs hp hw hfr hnw => ?_)
  obtain ⟨hK_110, hg_111, ha_112, ph_113, ph_114, kz_115⟩ := hp
  have hK_116 : Kq S S_109 x := hK_105.sub hn0_q_101 hK_110
  have ph_117 : Phc S_109 = Phc S + 320 := by omega
  have ph_118 : Phs S_109 = Phs S + 604000 := by omega
  clear ph_103
  clear ph_104
  clear ph_113
  clear ph_114
  have t_119 : At S_95 x 191 := tAt_sR eS_95 t_94
  have t_120 : At S_102 x 191 := by rw [eS_102]; exact At_sO t_119 hq_101
  have t_121 : At S_109 x 191 := hK_110.at ha_107 t_120 (by decide)
  refine r_putR X hw t_121 rfl 7 1107 (some q_101) rfl tyX11 (by decide) rfl inn_X11_init_11 tyX11_ok nmX11 (by decide) (X.2.2.2.1 (.fieldLink RX11 42 "SilkMill" "store" "LSilkMill$Store;") (by decide +kernel)) rfl (Or.inr ⟨rfl, hin, rfl⟩) (fun _ => rfl) rfl (fun _ => rfl) rfl (Nat.le_of_ble_eq_true rfl) (st_1107 _ _) dX11_init_60 (fun H locs hw => ?_)
  obtain ⟨S_122, eS_122⟩ : ∃ T, T = sR S_109 1107 x (some q_101) := ⟨_, rfl⟩
  rw [← eS_122] at hw
  have ph_123 : Phc S_122 = Phc S + 320 := (show Phc S_122 = Phc S_109 from Ph_rawR t_121 (by decide) eS_122).trans ph_117
  have ph_124 : Phs S_122 = Phs S + 604000 := (show Phs S_122 = Phs S_109 from Ph_rawR t_121 (by decide) eS_122).trans ph_118
  clear ph_117
  clear ph_118
  have hK_125 : Kq S S_122 x := hK_116.sR eS_122
  have hg_126 : GX S_122 := by rw [eS_122]; exact GX_rawR hg_111 t_121 (by decide +kernel)
  have h_127 : pR S_122 1107 x = some q_101 := tR_sRs eS_122
  refine lv_aload_n X.1 X.2.1 dX11_init_63 rfl (lv_at hl 0 rfl) ?_
  refine r_new X hw 181 1 1439 23 rfl tyX1 (by decide) rfl inn_X11_init_1 tyX1_ok (X.2.2.2.1 (.classLink RX11 46 RX1) (by decide +kernel)) (X.2.2.2.1 (.instantiable RX1 4) (by decide +kernel)) (X.2.2.2.1 (.initialized RX1) (by decide +kernel)) (zo_1 _) zd_1 (by show 22 + 1 ≤ 23; omega) (by show 1435 + 4 ≤ 1439; omega) (by show 23 ≤ 58; omega) (by show 1439 ≤ 1728; omega) dX11_init_64 (fun q_128 H hq_128 hw => ?_)
  obtain ⟨S_129, eS_129⟩ : ∃ T, T = sO S_122 q_128 181 := ⟨_, rfl⟩
  rw [← eS_129] at hw
  have ph_130 : Phc S_129 = Phc S + 320 := (show Phc S_129 = Phc S_122 from Ph_sO hg_126 hq_128 eS_129 (by decide)).trans ph_123
  have ph_131 : Phs S_129 = Phs S + 604000 := (show Phs S_129 = Phs S_122 from Ph_sO hg_126 hq_128 eS_129 (by decide)).trans ph_124
  clear ph_123
  clear ph_124
  have hK_132 : Kq S S_129 x := hK_125.sO hq_128 eS_129
  have hg_133 : GX S_129 := by rw [eS_129]; exact GX_O hg_126 hq_128 (by decide +kernel)
  have hn0_q_128 := hK_125.new hq_128
  have ha_134 : At S_129 q_128 181 := by rw [eS_129]; exact At_nO _ _ _
  have hzI_q_128 : ∀ g, pI S_129 g q_128 = 0 := fun g => by rw [eS_129]; exact pI_sO_new
  have hzR_q_128 : ∀ g, pR S_129 g q_128 = none := fun g => by rw [eS_129]; exact if_pos rfl
  refine lv_dup X.1 X.2.1 dX11_init_67 rfl ?_
  refine k_v (rm := { frames := 2, cells := 1, slots := 5, locals := 96 }) (av := [.ref q_128]) X hw (va_runIN (As := []) (rest := [.ref q_128, .ref x]) (cfix X) (k_X1_init l G cy κ S_129 _ q_128 hg_133 ha_134 hzI_q_128 hzR_q_128) ⟨(va_cnB (host := RX11) 0 X.2.2.2.1 gX11_init_X1_init_n48 rfl rfl rfl (X.2.2.2.2.2.2.2.1.2.1 (RX11, 48, yX1_init) (by decide +kernel)) (X.2.2.2.1 (.initialized RX1) (by decide +kernel)) (by decide +kernel) ⟨Nat.le_of_ble_eq_true rfl, Nat.le_of_ble_eq_true rfl⟩), rfl, (X.2.2.2.1 (.instanceMethod yX1_init) (by decide +kernel))⟩ (pre_S X hw _) rfl rfl hl.1 rfl (lv_room (Nat.le_of_ble_eq_true rfl)) dX11_init_68 ⟨(by show 23 + 1 ≤ 58; omega), (by show 1439 + 5 ≤ 1728; omega)⟩) 24 1444 (by show 23 + 1 ≤ 24; omega) (by show 1439 + 5 ≤ 1444; omega) (fun S_136 H locs hp hw hfr hnw => ?_)
  obtain ⟨hK_137, hg_138, ha_139, ph_140, ph_141⟩ := hp
  have hK_142 : Kq S S_136 x := hK_132.sub hn0_q_128 hK_137
  have ph_143 : Phc S_136 = Phc S + 320 := by omega
  have ph_144 : Phs S_136 = Phs S + 604000 := by omega
  clear ph_130
  clear ph_131
  clear ph_140
  clear ph_141
  have t_145 : At S_122 x 191 := tAt_sR eS_122 t_121
  have t_146 : At S_129 x 191 := by rw [eS_129]; exact At_sO t_145 hq_128
  have t_147 : At S_136 x 191 := hK_137.at ha_134 t_146 (by decide)
  refine r_putR X hw t_147 rfl 8 1108 (some q_128) rfl tyX11 (by decide) rfl inn_X11_init_11 tyX11_ok nmX11 (by decide) (X.2.2.2.1 (.fieldLink RX11 49 "SilkMill" "latestDraw" "LSilkMill$Draw;") (by decide +kernel)) rfl (Or.inr ⟨rfl, hin, rfl⟩) (fun _ => rfl) rfl (fun _ => rfl) rfl (Nat.le_of_ble_eq_true rfl) (st_1108 _ _) dX11_init_71 (fun H locs hw => ?_)
  obtain ⟨S_148, eS_148⟩ : ∃ T, T = sR S_136 1108 x (some q_128) := ⟨_, rfl⟩
  rw [← eS_148] at hw
  have ph_149 : Phc S_148 = Phc S + 320 := (show Phc S_148 = Phc S_136 from Ph_rawR t_147 (by decide) eS_148).trans ph_143
  have ph_150 : Phs S_148 = Phs S + 604000 := (show Phs S_148 = Phs S_136 from Ph_rawR t_147 (by decide) eS_148).trans ph_144
  clear ph_143
  clear ph_144
  have hK_151 : Kq S S_148 x := hK_142.sR eS_148
  have hg_152 : GX S_148 := by rw [eS_148]; exact GX_rawR hg_138 t_147 (by decide +kernel)
  have h_153 : pR S_148 1108 x = some q_128 := tR_sRs eS_148
  refine lv_aload_n X.1 X.2.1 dX11_init_74 rfl (lv_at hl 0 rfl) ?_
  refine lv_bipush (v := 16) X.1 X.2.1 dX11_init_75 (by decide) ?_
  refine r_newQ (N := 16) (C := RX3) X hw 17 17 1460 25 rfl (by decide) rfl (X.2.2.2.1 (.classLink RX11 53 RX3) (by decide +kernel)) X.2.2.2.2.2.2.2.1.1.2.1 (z_nn ti_16 (by omega)) (by decide) (by decide) (by show 24 + 1 ≤ 25; omega) (by show 1444 + 16 ≤ 1460; omega) (by show 25 ≤ 58; omega) (by show 1460 ≤ 1728; omega) dX11_init_77 (fun q_154 H hq_154 hw => ?_)
  obtain ⟨S_155, eS_155⟩ : ∃ T, T = sN S_148 q_154 17 16 := ⟨_, rfl⟩
  rw [← eS_155] at hw
  have ph_156 : Phc S_155 = Phc S + 320 := (show Phc S_155 = Phc S_148 from Ph_sN' hg_152.ci hq_154 eS_155 (by decide)).trans ph_149
  have ph_157 : Phs S_155 = Phs S + 604000 := (show Phs S_155 = Phs S_148 from Ph_sN' hg_152.ci hq_154 eS_155 (by decide)).trans ph_150
  clear ph_149
  clear ph_150
  have hK_158 : Kq S S_155 x := hK_151.sN hq_154 eS_155
  have hg_159 : GX S_155 := by rw [eS_155]; exact GX_N hg_152 hq_154 (by decide +kernel)
  have hn0_q_154 := hK_151.new hq_154
  have ha_160 : At S_155 q_154 17 := by rw [eS_155]; exact At_nN _ _ _ _
  have hn_161 : pN S_155 q_154 = 16 := by rw [eS_155]; exact pN_sN_new
  have t_162 : At S_148 x 191 := tAt_sR eS_148 t_147
  have t_163 : At S_155 x 191 := by rw [eS_155]; exact At_sN t_162 hq_154
  refine r_putR X hw t_163 rfl 9 1109 (some q_154) rfl tyX11 (by decide) rfl inn_X11_init_11 tyX11_ok nmX11 (by decide) (X.2.2.2.1 (.fieldLink RX11 55 "SilkMill" "shelf" "[LSilkMill$Place;") (by decide +kernel)) rfl (Or.inr ⟨rfl, hin, rfl⟩) (fun _ => rfl) rfl (fun _ => rfl) rfl (Nat.le_of_ble_eq_true rfl) (st_1109 _ _) dX11_init_80 (fun H locs hw => ?_)
  obtain ⟨S_164, eS_164⟩ : ∃ T, T = sR S_155 1109 x (some q_154) := ⟨_, rfl⟩
  rw [← eS_164] at hw
  have ph_165 : Phc S_164 = Phc S + 320 := (show Phc S_164 = Phc S_155 from Ph_rawR t_163 (by decide) eS_164).trans ph_156
  have ph_166 : Phs S_164 = Phs S + 604000 := (show Phs S_164 = Phs S_155 from Ph_rawR t_163 (by decide) eS_164).trans ph_157
  clear ph_156
  clear ph_157
  have hK_167 : Kq S S_164 x := hK_158.sR eS_164
  have hg_168 : GX S_164 := by rw [eS_164]; exact GX_rawR hg_159 t_163 (by decide +kernel)
  have h_169 : pR S_164 1109 x = some q_154 := tR_sRs eS_164
  refine lv_aload_n X.1 X.2.1 dX11_init_83 rfl (lv_at hl 0 rfl) ?_
  refine lv_bipush (v := 60) X.1 X.2.1 dX11_init_84 (by decide) ?_
  refine r_newI (N := 60) X hw 194 1520 26 rfl (X.2.2.2.1 (.arrayClass .int) (by decide +kernel)) (z_nn ti_60 (by omega)) (by decide) (by decide) (by show 25 + 1 ≤ 26; omega) (by show 1460 + 60 ≤ 1520; omega) (by show 26 ≤ 58; omega) (by show 1520 ≤ 1728; omega) dX11_init_86 (fun q_170 H hq_170 hw => ?_)
  obtain ⟨S_171, eS_171⟩ : ∃ T, T = sN S_164 q_170 194 60 := ⟨_, rfl⟩
  rw [← eS_171] at hw
  have ph_172 : Phc S_171 = Phc S + 320 := (show Phc S_171 = Phc S_164 from Ph_sN' hg_168.ci hq_170 eS_171 (by decide)).trans ph_165
  have ph_173 : Phs S_171 = Phs S + 604000 := (show Phs S_171 = Phs S_164 from Ph_sN' hg_168.ci hq_170 eS_171 (by decide)).trans ph_166
  clear ph_165
  clear ph_166
  have hK_174 : Kq S S_171 x := hK_167.sN hq_170 eS_171
  have hg_175 : GX S_171 := by rw [eS_171]; exact GX_N hg_168 hq_170 (by decide +kernel)
  have hn0_q_170 := hK_167.new hq_170
  have ha_176 : At S_171 q_170 194 := by rw [eS_171]; exact At_nN _ _ _ _
  have hn_177 : pN S_171 q_170 = 60 := by rw [eS_171]; exact pN_sN_new
  have t_178 : At S_164 x 191 := tAt_sR eS_164 t_163
  have t_179 : At S_171 x 191 := by rw [eS_171]; exact At_sN t_178 hq_170
  refine r_putR X hw t_179 rfl 11 1111 (some q_170) rfl tyX11 (by decide) rfl inn_X11_init_11 tyX11_ok nmX11 (by decide) (X.2.2.2.1 (.fieldLink RX11 59 "SilkMill" "idle" "[I") (by decide +kernel)) rfl (Or.inr ⟨rfl, hin, rfl⟩) (fun _ => rfl) rfl (fun _ => rfl) rfl (Nat.le_of_ble_eq_true rfl) (st_1111 _ _) dX11_init_88 (fun H locs hw => ?_)
  obtain ⟨S_180, eS_180⟩ : ∃ T, T = sR S_171 1111 x (some q_170) := ⟨_, rfl⟩
  rw [← eS_180] at hw
  have ph_181 : Phc S_180 = Phc S + 320 := (show Phc S_180 = Phc S_171 from Ph_rawR t_179 (by decide) eS_180).trans ph_172
  have ph_182 : Phs S_180 = Phs S + 604000 := (show Phs S_180 = Phs S_171 from Ph_rawR t_179 (by decide) eS_180).trans ph_173
  clear ph_172
  clear ph_173
  have hK_183 : Kq S S_180 x := hK_174.sR eS_180
  have hg_184 : GX S_180 := by rw [eS_180]; exact GX_rawR hg_175 t_179 (by decide +kernel)
  have h_185 : pR S_180 1111 x = some q_170 := tR_sRs eS_180
  refine lv_iconst (v := 0) X.1 X.2.1 dX11_init_91 (by decide) ?_
  refine lv_istore_n (lv' := [(1, .int 0), (0, .ref x)]) X.1 X.2.1 dX11_init_92 rfl hl (by decide) rfl (fun ls hl => ?_)
  have t_191 : At S_122 x 191 := tAt_sR eS_122 t_121
  have t_190 : pR S_129 1107 x = some q_101 := by rw [eS_129]; exact (pR_sO_ne (ne_of_new hq_128 t_191.1)).trans h_127
  have t_193 : At S_129 x 191 := by rw [eS_129]; exact At_sO t_191 hq_128
  have t_192 : pR S_136 1107 x = some q_101 := (((hK_137 x t_193.1).2 (At_ne t_193 ha_134 (by decide))).2.2.1 1107).trans t_190
  have t_194 : pR S_148 1107 x = some q_101 := tR_sR eS_148 rfl t_192
  have t_195 : pR S_155 1107 x = some q_101 := by rw [eS_155, pR_sN]; exact t_194
  have t_196 : pR S_164 1107 x = some q_101 := tR_sR eS_164 rfl t_195
  have t_197 : pR S_171 1107 x = some q_101 := by rw [eS_171, pR_sN]; exact t_196
  have t_198 : pR S_180 1107 x = some q_101 := tR_sR eS_180 rfl t_197
  have t_200 : At S_69 x 191 := tAt_sR eS_69 t_68
  have t_199 : pR S_76 1105 x = some q_48 := by rw [eS_76]; exact (pR_sO_ne (ne_of_new hq_75 t_200.1)).trans h_74
  have t_202 : At S_76 x 191 := by rw [eS_76]; exact At_sO t_200 hq_75
  have t_201 : pR S_83 1105 x = some q_48 := (((hK_84 x t_202.1).2 (At_ne t_202 ha_81 (by decide))).2.2.1 1105).trans t_199
  have t_203 : pR S_95 1105 x = some q_48 := tR_sR eS_95 rfl t_201
  have t_205 : At S_95 x 191 := tAt_sR eS_95 t_94
  have t_204 : pR S_102 1105 x = some q_48 := by rw [eS_102]; exact (pR_sO_ne (ne_of_new hq_101 t_205.1)).trans t_203
  have t_207 : At S_102 x 191 := by rw [eS_102]; exact At_sO t_205 hq_101
  have t_206 : pR S_109 1105 x = some q_48 := (((hK_110 x t_207.1).2 (At_ne t_207 ha_107 (by decide))).2.2.1 1105).trans t_204
  have t_208 : pR S_122 1105 x = some q_48 := tR_sR eS_122 rfl t_206
  have t_209 : pR S_129 1105 x = some q_48 := by rw [eS_129]; exact (pR_sO_ne (ne_of_new hq_128 t_191.1)).trans t_208
  have t_210 : pR S_136 1105 x = some q_48 := (((hK_137 x t_193.1).2 (At_ne t_193 ha_134 (by decide))).2.2.1 1105).trans t_209
  have t_211 : pR S_148 1105 x = some q_48 := tR_sR eS_148 rfl t_210
  have t_212 : pR S_155 1105 x = some q_48 := by rw [eS_155, pR_sN]; exact t_211
  have t_213 : pR S_164 1105 x = some q_48 := tR_sR eS_164 rfl t_212
  have t_214 : pR S_171 1105 x = some q_48 := by rw [eS_171, pR_sN]; exact t_213
  have t_215 : pR S_180 1105 x = some q_48 := tR_sR eS_180 rfl t_214
  have t_216 : pI S_2 1102 x = 0 := by rw [eS_2, pI_sN]; exact (hzI 1102)
  have t_217 : pI S_10 1102 x = 0 := tI_sR eS_10 t_216
  have t_218 : pI S_17 1102 x = 0 := by rw [eS_17, pI_sN]; exact t_217
  have t_219 : pI S_26 1102 x = 0 := tI_sR eS_26 t_218
  have t_220 : pI S_33 1102 x = 0 := by rw [eS_33, pI_sN]; exact t_219
  have t_221 : pI S_42 1102 x = 0 := tI_sR eS_42 t_220
  have t_223 : At S_42 x 191 := tAt_sR eS_42 t_41
  have t_222 : pI S_49 1102 x = 0 := by rw [eS_49]; exact (pI_sO_ne (ne_of_new hq_48 t_223.1)).trans t_221
  have t_225 : At S_49 x 191 := by rw [eS_49]; exact At_sO t_223 hq_48
  have t_224 : pI S_56 1102 x = 0 := (((hK_57 x t_225.1).2 (At_ne t_225 ha_54 (by decide))).2.1 1102).trans t_222
  have t_226 : pI S_69 1102 x = 0 := tI_sR eS_69 t_224
  have t_227 : pI S_76 1102 x = 0 := by rw [eS_76]; exact (pI_sO_ne (ne_of_new hq_75 t_200.1)).trans t_226
  have t_228 : pI S_83 1102 x = 0 := (((hK_84 x t_202.1).2 (At_ne t_202 ha_81 (by decide))).2.1 1102).trans t_227
  have t_229 : pI S_95 1102 x = 0 := tI_sR eS_95 t_228
  have t_230 : pI S_102 1102 x = 0 := by rw [eS_102]; exact (pI_sO_ne (ne_of_new hq_101 t_205.1)).trans t_229
  have t_231 : pI S_109 1102 x = 0 := (((hK_110 x t_207.1).2 (At_ne t_207 ha_107 (by decide))).2.1 1102).trans t_230
  have t_232 : pI S_122 1102 x = 0 := tI_sR eS_122 t_231
  have t_233 : pI S_129 1102 x = 0 := by rw [eS_129]; exact (pI_sO_ne (ne_of_new hq_128 t_191.1)).trans t_232
  have t_234 : pI S_136 1102 x = 0 := (((hK_137 x t_193.1).2 (At_ne t_193 ha_134 (by decide))).2.1 1102).trans t_233
  have t_235 : pI S_148 1102 x = 0 := tI_sR eS_148 t_234
  have t_236 : pI S_155 1102 x = 0 := by rw [eS_155, pI_sN]; exact t_235
  have t_237 : pI S_164 1102 x = 0 := tI_sR eS_164 t_236
  have t_238 : pI S_171 1102 x = 0 := by rw [eS_171, pI_sN]; exact t_237
  have t_239 : pI S_180 1102 x = 0 := tI_sR eS_180 t_238
  have t_241 : pI S_2 1104 x = 0 := by rw [eS_2, pI_sN]; exact (hzI 1104)
  have t_242 : pI S_10 1104 x = 0 := tI_sR eS_10 t_241
  have t_243 : pI S_17 1104 x = 0 := by rw [eS_17, pI_sN]; exact t_242
  have t_244 : pI S_26 1104 x = 0 := tI_sR eS_26 t_243
  have t_245 : pI S_33 1104 x = 0 := by rw [eS_33, pI_sN]; exact t_244
  have t_246 : pI S_42 1104 x = 0 := tI_sR eS_42 t_245
  have t_247 : pI S_49 1104 x = 0 := by rw [eS_49]; exact (pI_sO_ne (ne_of_new hq_48 t_223.1)).trans t_246
  have t_248 : pI S_56 1104 x = 0 := (((hK_57 x t_225.1).2 (At_ne t_225 ha_54 (by decide))).2.1 1104).trans t_247
  have t_249 : pI S_69 1104 x = 0 := tI_sR eS_69 t_248
  have t_250 : pI S_76 1104 x = 0 := by rw [eS_76]; exact (pI_sO_ne (ne_of_new hq_75 t_200.1)).trans t_249
  have t_251 : pI S_83 1104 x = 0 := (((hK_84 x t_202.1).2 (At_ne t_202 ha_81 (by decide))).2.1 1104).trans t_250
  have t_252 : pI S_95 1104 x = 0 := tI_sR eS_95 t_251
  have t_253 : pI S_102 1104 x = 0 := by rw [eS_102]; exact (pI_sO_ne (ne_of_new hq_101 t_205.1)).trans t_252
  have t_254 : pI S_109 1104 x = 0 := (((hK_110 x t_207.1).2 (At_ne t_207 ha_107 (by decide))).2.1 1104).trans t_253
  have t_255 : pI S_122 1104 x = 0 := tI_sR eS_122 t_254
  have t_256 : pI S_129 1104 x = 0 := by rw [eS_129]; exact (pI_sO_ne (ne_of_new hq_128 t_191.1)).trans t_255
  have t_257 : pI S_136 1104 x = 0 := (((hK_137 x t_193.1).2 (At_ne t_193 ha_134 (by decide))).2.1 1104).trans t_256
  have t_258 : pI S_148 1104 x = 0 := tI_sR eS_148 t_257
  have t_259 : pI S_155 1104 x = 0 := by rw [eS_155, pI_sN]; exact t_258
  have t_260 : pI S_164 1104 x = 0 := tI_sR eS_164 t_259
  have t_261 : pI S_171 1104 x = 0 := by rw [eS_171, pI_sN]; exact t_260
  have t_262 : pI S_180 1104 x = 0 := tI_sR eS_180 t_261
  have t_264 : pI S_122 801 q_101 = 0 := tI_sR eS_122 kz_115
  have t_266 : At S_122 q_101 8 := tAt_sR eS_122 ha_112
  have t_265 : pI S_129 801 q_101 = 0 := by rw [eS_129]; exact (pI_sO_ne (ne_of_new hq_128 t_266.1)).trans t_264
  have t_268 : At S_129 q_101 8 := by rw [eS_129]; exact At_sO t_266 hq_128
  have t_267 : pI S_136 801 q_101 = 0 := (((hK_137 q_101 t_268.1).2 (At_ne t_268 ha_134 (by decide))).2.1 801).trans t_265
  have t_269 : pI S_148 801 q_101 = 0 := tI_sR eS_148 t_267
  have t_270 : pI S_155 801 q_101 = 0 := by rw [eS_155, pI_sN]; exact t_269
  have t_271 : pI S_164 801 q_101 = 0 := tI_sR eS_164 t_270
  have t_272 : pI S_171 801 q_101 = 0 := by rw [eS_171, pI_sN]; exact t_271
  have t_273 : pI S_180 801 q_101 = 0 := tI_sR eS_180 t_272
  have t_275 : pI S_69 1000 q_48 = 0 := tI_sR eS_69 kz_62
  have t_277 : At S_69 q_48 10 := tAt_sR eS_69 ha_59
  have t_276 : pI S_76 1000 q_48 = 0 := by rw [eS_76]; exact (pI_sO_ne (ne_of_new hq_75 t_277.1)).trans t_275
  have t_279 : At S_76 q_48 10 := by rw [eS_76]; exact At_sO t_277 hq_75
  have t_278 : pI S_83 1000 q_48 = 0 := (((hK_84 q_48 t_279.1).2 (At_ne t_279 ha_81 (by decide))).2.1 1000).trans t_276
  have t_280 : pI S_95 1000 q_48 = 0 := tI_sR eS_95 t_278
  have t_282 : At S_83 q_48 10 := hK_84.at ha_81 t_279 (by decide)
  have t_283 : At S_95 q_48 10 := tAt_sR eS_95 t_282
  have t_281 : pI S_102 1000 q_48 = 0 := by rw [eS_102]; exact (pI_sO_ne (ne_of_new hq_101 t_283.1)).trans t_280
  have t_285 : At S_102 q_48 10 := by rw [eS_102]; exact At_sO t_283 hq_101
  have t_284 : pI S_109 1000 q_48 = 0 := (((hK_110 q_48 t_285.1).2 (At_ne t_285 ha_107 (by decide))).2.1 1000).trans t_281
  have t_286 : pI S_122 1000 q_48 = 0 := tI_sR eS_122 t_284
  have t_288 : At S_109 q_48 10 := hK_110.at ha_107 t_285 (by decide)
  have t_289 : At S_122 q_48 10 := tAt_sR eS_122 t_288
  have t_287 : pI S_129 1000 q_48 = 0 := by rw [eS_129]; exact (pI_sO_ne (ne_of_new hq_128 t_289.1)).trans t_286
  have t_291 : At S_129 q_48 10 := by rw [eS_129]; exact At_sO t_289 hq_128
  have t_290 : pI S_136 1000 q_48 = 0 := (((hK_137 q_48 t_291.1).2 (At_ne t_291 ha_134 (by decide))).2.1 1000).trans t_287
  have t_292 : pI S_148 1000 q_48 = 0 := tI_sR eS_148 t_290
  have t_293 : pI S_155 1000 q_48 = 0 := by rw [eS_155, pI_sN]; exact t_292
  have t_294 : pI S_164 1000 q_48 = 0 := tI_sR eS_164 t_293
  have t_295 : pI S_171 1000 q_48 = 0 := by rw [eS_171, pI_sN]; exact t_294
  have t_296 : pI S_180 1000 q_48 = 0 := tI_sR eS_180 t_295
  have t_298 : pR S_17 1100 x = some q_1 := by rw [eS_17, pR_sN]; exact h_15
  have t_299 : pR S_26 1100 x = some q_1 := tR_sR eS_26 rfl t_298
  have t_300 : pR S_33 1100 x = some q_1 := by rw [eS_33, pR_sN]; exact t_299
  have t_301 : pR S_42 1100 x = some q_1 := tR_sR eS_42 rfl t_300
  have t_302 : pR S_49 1100 x = some q_1 := by rw [eS_49]; exact (pR_sO_ne (ne_of_new hq_48 t_223.1)).trans t_301
  have t_303 : pR S_56 1100 x = some q_1 := (((hK_57 x t_225.1).2 (At_ne t_225 ha_54 (by decide))).2.2.1 1100).trans t_302
  have t_304 : pR S_69 1100 x = some q_1 := tR_sR eS_69 rfl t_303
  have t_305 : pR S_76 1100 x = some q_1 := by rw [eS_76]; exact (pR_sO_ne (ne_of_new hq_75 t_200.1)).trans t_304
  have t_306 : pR S_83 1100 x = some q_1 := (((hK_84 x t_202.1).2 (At_ne t_202 ha_81 (by decide))).2.2.1 1100).trans t_305
  have t_307 : pR S_95 1100 x = some q_1 := tR_sR eS_95 rfl t_306
  have t_308 : pR S_102 1100 x = some q_1 := by rw [eS_102]; exact (pR_sO_ne (ne_of_new hq_101 t_205.1)).trans t_307
  have t_309 : pR S_109 1100 x = some q_1 := (((hK_110 x t_207.1).2 (At_ne t_207 ha_107 (by decide))).2.2.1 1100).trans t_308
  have t_310 : pR S_122 1100 x = some q_1 := tR_sR eS_122 rfl t_309
  have t_311 : pR S_129 1100 x = some q_1 := by rw [eS_129]; exact (pR_sO_ne (ne_of_new hq_128 t_191.1)).trans t_310
  have t_312 : pR S_136 1100 x = some q_1 := (((hK_137 x t_193.1).2 (At_ne t_193 ha_134 (by decide))).2.2.1 1100).trans t_311
  have t_313 : pR S_148 1100 x = some q_1 := tR_sR eS_148 rfl t_312
  have t_314 : pR S_155 1100 x = some q_1 := by rw [eS_155, pR_sN]; exact t_313
  have t_315 : pR S_164 1100 x = some q_1 := tR_sR eS_164 rfl t_314
  have t_316 : pR S_171 1100 x = some q_1 := by rw [eS_171, pR_sN]; exact t_315
  have t_317 : pR S_180 1100 x = some q_1 := tR_sR eS_180 rfl t_316
  have t_320 : pN S_10 q_1 = 600 := tN_sR eS_10 hn_8
  clear hn_8
  have t_322 : At S_10 q_1 36 := tAt_sR eS_10 ha_7
  have t_321 : pN S_17 q_1 = 600 := by rw [eS_17]; exact (pN_sN_ne (ne_of_new hq_16 t_322.1)).trans t_320
  clear t_320
  have t_323 : pN S_26 q_1 = 600 := tN_sR eS_26 t_321
  clear t_321
  have t_325 : At S_17 q_1 36 := by rw [eS_17]; exact At_sN t_322 hq_16
  have t_326 : At S_26 q_1 36 := tAt_sR eS_26 t_325
  have t_324 : pN S_33 q_1 = 600 := by rw [eS_33]; exact (pN_sN_ne (ne_of_new hq_32 t_326.1)).trans t_323
  clear t_323
  have t_327 : pN S_42 q_1 = 600 := tN_sR eS_42 t_324
  clear t_324
  have t_328 : pN S_49 q_1 = 600 := by rw [eS_49, pN_sO]; exact t_327
  clear t_327
  have t_330 : At S_33 q_1 36 := by rw [eS_33]; exact At_sN t_326 hq_32
  have t_331 : At S_42 q_1 36 := tAt_sR eS_42 t_330
  have t_332 : At S_49 q_1 36 := by rw [eS_49]; exact At_sO t_331 hq_48
  have t_329 : pN S_56 q_1 = 600 := ((hK_57 q_1 t_332.1).2 (At_ne t_332 ha_54 (by decide))).2.2.2.1.trans t_328
  clear t_328
  have t_333 : pN S_69 q_1 = 600 := tN_sR eS_69 t_329
  clear t_329
  have t_334 : pN S_76 q_1 = 600 := by rw [eS_76, pN_sO]; exact t_333
  clear t_333
  have t_336 : At S_56 q_1 36 := hK_57.at ha_54 t_332 (by decide)
  have t_337 : At S_69 q_1 36 := tAt_sR eS_69 t_336
  have t_338 : At S_76 q_1 36 := by rw [eS_76]; exact At_sO t_337 hq_75
  have t_335 : pN S_83 q_1 = 600 := ((hK_84 q_1 t_338.1).2 (At_ne t_338 ha_81 (by decide))).2.2.2.1.trans t_334
  clear t_334
  have t_339 : pN S_95 q_1 = 600 := tN_sR eS_95 t_335
  clear t_335
  have t_340 : pN S_102 q_1 = 600 := by rw [eS_102, pN_sO]; exact t_339
  clear t_339
  have t_342 : At S_83 q_1 36 := hK_84.at ha_81 t_338 (by decide)
  have t_343 : At S_95 q_1 36 := tAt_sR eS_95 t_342
  have t_344 : At S_102 q_1 36 := by rw [eS_102]; exact At_sO t_343 hq_101
  have t_341 : pN S_109 q_1 = 600 := ((hK_110 q_1 t_344.1).2 (At_ne t_344 ha_107 (by decide))).2.2.2.1.trans t_340
  clear t_340
  have t_345 : pN S_122 q_1 = 600 := tN_sR eS_122 t_341
  clear t_341
  have t_346 : pN S_129 q_1 = 600 := by rw [eS_129, pN_sO]; exact t_345
  clear t_345
  have t_348 : At S_109 q_1 36 := hK_110.at ha_107 t_344 (by decide)
  have t_349 : At S_122 q_1 36 := tAt_sR eS_122 t_348
  have t_350 : At S_129 q_1 36 := by rw [eS_129]; exact At_sO t_349 hq_128
  have t_347 : pN S_136 q_1 = 600 := ((hK_137 q_1 t_350.1).2 (At_ne t_350 ha_134 (by decide))).2.2.2.1.trans t_346
  clear t_346
  have t_351 : pN S_148 q_1 = 600 := tN_sR eS_148 t_347
  clear t_347
  have t_353 : At S_136 q_1 36 := hK_137.at ha_134 t_350 (by decide)
  have t_354 : At S_148 q_1 36 := tAt_sR eS_148 t_353
  have t_352 : pN S_155 q_1 = 600 := by rw [eS_155]; exact (pN_sN_ne (ne_of_new hq_154 t_354.1)).trans t_351
  clear t_351
  have t_355 : pN S_164 q_1 = 600 := tN_sR eS_164 t_352
  clear t_352
  have t_357 : At S_155 q_1 36 := by rw [eS_155]; exact At_sN t_354 hq_154
  have t_358 : At S_164 q_1 36 := tAt_sR eS_164 t_357
  have t_356 : pN S_171 q_1 = 600 := by rw [eS_171]; exact (pN_sN_ne (ne_of_new hq_170 t_358.1)).trans t_355
  clear t_355
  have t_359 : pN S_180 q_1 = 600 := tN_sR eS_180 t_356
  clear t_356
  have t_361 : pR S_33 1101 x = some q_16 := by rw [eS_33, pR_sN]; exact h_31
  have t_362 : pR S_42 1101 x = some q_16 := tR_sR eS_42 rfl t_361
  have t_363 : pR S_49 1101 x = some q_16 := by rw [eS_49]; exact (pR_sO_ne (ne_of_new hq_48 t_223.1)).trans t_362
  have t_364 : pR S_56 1101 x = some q_16 := (((hK_57 x t_225.1).2 (At_ne t_225 ha_54 (by decide))).2.2.1 1101).trans t_363
  have t_365 : pR S_69 1101 x = some q_16 := tR_sR eS_69 rfl t_364
  have t_366 : pR S_76 1101 x = some q_16 := by rw [eS_76]; exact (pR_sO_ne (ne_of_new hq_75 t_200.1)).trans t_365
  have t_367 : pR S_83 1101 x = some q_16 := (((hK_84 x t_202.1).2 (At_ne t_202 ha_81 (by decide))).2.2.1 1101).trans t_366
  have t_368 : pR S_95 1101 x = some q_16 := tR_sR eS_95 rfl t_367
  have t_369 : pR S_102 1101 x = some q_16 := by rw [eS_102]; exact (pR_sO_ne (ne_of_new hq_101 t_205.1)).trans t_368
  have t_370 : pR S_109 1101 x = some q_16 := (((hK_110 x t_207.1).2 (At_ne t_207 ha_107 (by decide))).2.2.1 1101).trans t_369
  have t_371 : pR S_122 1101 x = some q_16 := tR_sR eS_122 rfl t_370
  have t_372 : pR S_129 1101 x = some q_16 := by rw [eS_129]; exact (pR_sO_ne (ne_of_new hq_128 t_191.1)).trans t_371
  have t_373 : pR S_136 1101 x = some q_16 := (((hK_137 x t_193.1).2 (At_ne t_193 ha_134 (by decide))).2.2.1 1101).trans t_372
  have t_374 : pR S_148 1101 x = some q_16 := tR_sR eS_148 rfl t_373
  have t_375 : pR S_155 1101 x = some q_16 := by rw [eS_155, pR_sN]; exact t_374
  have t_376 : pR S_164 1101 x = some q_16 := tR_sR eS_164 rfl t_375
  have t_377 : pR S_171 1101 x = some q_16 := by rw [eS_171, pR_sN]; exact t_376
  have t_378 : pR S_180 1101 x = some q_16 := tR_sR eS_180 rfl t_377
  have t_381 : pN S_26 q_16 = 10 := tN_sR eS_26 hn_23
  clear hn_23
  have t_383 : At S_26 q_16 54 := tAt_sR eS_26 ha_22
  have t_382 : pN S_33 q_16 = 10 := by rw [eS_33]; exact (pN_sN_ne (ne_of_new hq_32 t_383.1)).trans t_381
  clear t_381
  have t_384 : pN S_42 q_16 = 10 := tN_sR eS_42 t_382
  clear t_382
  have t_385 : pN S_49 q_16 = 10 := by rw [eS_49, pN_sO]; exact t_384
  clear t_384
  have t_387 : At S_33 q_16 54 := by rw [eS_33]; exact At_sN t_383 hq_32
  have t_388 : At S_42 q_16 54 := tAt_sR eS_42 t_387
  have t_389 : At S_49 q_16 54 := by rw [eS_49]; exact At_sO t_388 hq_48
  have t_386 : pN S_56 q_16 = 10 := ((hK_57 q_16 t_389.1).2 (At_ne t_389 ha_54 (by decide))).2.2.2.1.trans t_385
  clear t_385
  have t_390 : pN S_69 q_16 = 10 := tN_sR eS_69 t_386
  clear t_386
  have t_391 : pN S_76 q_16 = 10 := by rw [eS_76, pN_sO]; exact t_390
  clear t_390
  have t_393 : At S_56 q_16 54 := hK_57.at ha_54 t_389 (by decide)
  have t_394 : At S_69 q_16 54 := tAt_sR eS_69 t_393
  have t_395 : At S_76 q_16 54 := by rw [eS_76]; exact At_sO t_394 hq_75
  have t_392 : pN S_83 q_16 = 10 := ((hK_84 q_16 t_395.1).2 (At_ne t_395 ha_81 (by decide))).2.2.2.1.trans t_391
  clear t_391
  have t_396 : pN S_95 q_16 = 10 := tN_sR eS_95 t_392
  clear t_392
  have t_397 : pN S_102 q_16 = 10 := by rw [eS_102, pN_sO]; exact t_396
  clear t_396
  have t_399 : At S_83 q_16 54 := hK_84.at ha_81 t_395 (by decide)
  have t_400 : At S_95 q_16 54 := tAt_sR eS_95 t_399
  have t_401 : At S_102 q_16 54 := by rw [eS_102]; exact At_sO t_400 hq_101
  have t_398 : pN S_109 q_16 = 10 := ((hK_110 q_16 t_401.1).2 (At_ne t_401 ha_107 (by decide))).2.2.2.1.trans t_397
  clear t_397
  have t_402 : pN S_122 q_16 = 10 := tN_sR eS_122 t_398
  clear t_398
  have t_403 : pN S_129 q_16 = 10 := by rw [eS_129, pN_sO]; exact t_402
  clear t_402
  have t_405 : At S_109 q_16 54 := hK_110.at ha_107 t_401 (by decide)
  have t_406 : At S_122 q_16 54 := tAt_sR eS_122 t_405
  have t_407 : At S_129 q_16 54 := by rw [eS_129]; exact At_sO t_406 hq_128
  have t_404 : pN S_136 q_16 = 10 := ((hK_137 q_16 t_407.1).2 (At_ne t_407 ha_134 (by decide))).2.2.2.1.trans t_403
  clear t_403
  have t_408 : pN S_148 q_16 = 10 := tN_sR eS_148 t_404
  clear t_404
  have t_410 : At S_136 q_16 54 := hK_137.at ha_134 t_407 (by decide)
  have t_411 : At S_148 q_16 54 := tAt_sR eS_148 t_410
  have t_409 : pN S_155 q_16 = 10 := by rw [eS_155]; exact (pN_sN_ne (ne_of_new hq_154 t_411.1)).trans t_408
  clear t_408
  have t_412 : pN S_164 q_16 = 10 := tN_sR eS_164 t_409
  clear t_409
  have t_414 : At S_155 q_16 54 := by rw [eS_155]; exact At_sN t_411 hq_154
  have t_415 : At S_164 q_16 54 := tAt_sR eS_164 t_414
  have t_413 : pN S_171 q_16 = 10 := by rw [eS_171]; exact (pN_sN_ne (ne_of_new hq_170 t_415.1)).trans t_412
  clear t_412
  have t_416 : pN S_180 q_16 = 10 := tN_sR eS_180 t_413
  clear t_413
  have t_418 : pR S_49 1103 x = some q_32 := by rw [eS_49]; exact (pR_sO_ne (ne_of_new hq_48 t_223.1)).trans h_47
  have t_419 : pR S_56 1103 x = some q_32 := (((hK_57 x t_225.1).2 (At_ne t_225 ha_54 (by decide))).2.2.1 1103).trans t_418
  have t_420 : pR S_69 1103 x = some q_32 := tR_sR eS_69 rfl t_419
  have t_421 : pR S_76 1103 x = some q_32 := by rw [eS_76]; exact (pR_sO_ne (ne_of_new hq_75 t_200.1)).trans t_420
  have t_422 : pR S_83 1103 x = some q_32 := (((hK_84 x t_202.1).2 (At_ne t_202 ha_81 (by decide))).2.2.1 1103).trans t_421
  have t_423 : pR S_95 1103 x = some q_32 := tR_sR eS_95 rfl t_422
  have t_424 : pR S_102 1103 x = some q_32 := by rw [eS_102]; exact (pR_sO_ne (ne_of_new hq_101 t_205.1)).trans t_423
  have t_425 : pR S_109 1103 x = some q_32 := (((hK_110 x t_207.1).2 (At_ne t_207 ha_107 (by decide))).2.2.1 1103).trans t_424
  have t_426 : pR S_122 1103 x = some q_32 := tR_sR eS_122 rfl t_425
  have t_427 : pR S_129 1103 x = some q_32 := by rw [eS_129]; exact (pR_sO_ne (ne_of_new hq_128 t_191.1)).trans t_426
  have t_428 : pR S_136 1103 x = some q_32 := (((hK_137 x t_193.1).2 (At_ne t_193 ha_134 (by decide))).2.2.1 1103).trans t_427
  have t_429 : pR S_148 1103 x = some q_32 := tR_sR eS_148 rfl t_428
  have t_430 : pR S_155 1103 x = some q_32 := by rw [eS_155, pR_sN]; exact t_429
  have t_431 : pR S_164 1103 x = some q_32 := tR_sR eS_164 rfl t_430
  have t_432 : pR S_171 1103 x = some q_32 := by rw [eS_171, pR_sN]; exact t_431
  have t_433 : pR S_180 1103 x = some q_32 := tR_sR eS_180 rfl t_432
  have t_436 : pN S_42 q_32 = 4 := tN_sR eS_42 hn_39
  clear hn_39
  have t_437 : pN S_49 q_32 = 4 := by rw [eS_49, pN_sO]; exact t_436
  clear t_436
  have t_439 : At S_42 q_32 18 := tAt_sR eS_42 ha_38
  have t_440 : At S_49 q_32 18 := by rw [eS_49]; exact At_sO t_439 hq_48
  have t_438 : pN S_56 q_32 = 4 := ((hK_57 q_32 t_440.1).2 (At_ne t_440 ha_54 (by decide))).2.2.2.1.trans t_437
  clear t_437
  have t_441 : pN S_69 q_32 = 4 := tN_sR eS_69 t_438
  clear t_438
  have t_442 : pN S_76 q_32 = 4 := by rw [eS_76, pN_sO]; exact t_441
  clear t_441
  have t_444 : At S_56 q_32 18 := hK_57.at ha_54 t_440 (by decide)
  have t_445 : At S_69 q_32 18 := tAt_sR eS_69 t_444
  have t_446 : At S_76 q_32 18 := by rw [eS_76]; exact At_sO t_445 hq_75
  have t_443 : pN S_83 q_32 = 4 := ((hK_84 q_32 t_446.1).2 (At_ne t_446 ha_81 (by decide))).2.2.2.1.trans t_442
  clear t_442
  have t_447 : pN S_95 q_32 = 4 := tN_sR eS_95 t_443
  clear t_443
  have t_448 : pN S_102 q_32 = 4 := by rw [eS_102, pN_sO]; exact t_447
  clear t_447
  have t_450 : At S_83 q_32 18 := hK_84.at ha_81 t_446 (by decide)
  have t_451 : At S_95 q_32 18 := tAt_sR eS_95 t_450
  have t_452 : At S_102 q_32 18 := by rw [eS_102]; exact At_sO t_451 hq_101
  have t_449 : pN S_109 q_32 = 4 := ((hK_110 q_32 t_452.1).2 (At_ne t_452 ha_107 (by decide))).2.2.2.1.trans t_448
  clear t_448
  have t_453 : pN S_122 q_32 = 4 := tN_sR eS_122 t_449
  clear t_449
  have t_454 : pN S_129 q_32 = 4 := by rw [eS_129, pN_sO]; exact t_453
  clear t_453
  have t_456 : At S_109 q_32 18 := hK_110.at ha_107 t_452 (by decide)
  have t_457 : At S_122 q_32 18 := tAt_sR eS_122 t_456
  have t_458 : At S_129 q_32 18 := by rw [eS_129]; exact At_sO t_457 hq_128
  have t_455 : pN S_136 q_32 = 4 := ((hK_137 q_32 t_458.1).2 (At_ne t_458 ha_134 (by decide))).2.2.2.1.trans t_454
  clear t_454
  have t_459 : pN S_148 q_32 = 4 := tN_sR eS_148 t_455
  clear t_455
  have t_461 : At S_136 q_32 18 := hK_137.at ha_134 t_458 (by decide)
  have t_462 : At S_148 q_32 18 := tAt_sR eS_148 t_461
  have t_460 : pN S_155 q_32 = 4 := by rw [eS_155]; exact (pN_sN_ne (ne_of_new hq_154 t_462.1)).trans t_459
  clear t_459
  have t_463 : pN S_164 q_32 = 4 := tN_sR eS_164 t_460
  clear t_460
  have t_465 : At S_155 q_32 18 := by rw [eS_155]; exact At_sN t_462 hq_154
  have t_466 : At S_164 q_32 18 := tAt_sR eS_164 t_465
  have t_464 : pN S_171 q_32 = 4 := by rw [eS_171]; exact (pN_sN_ne (ne_of_new hq_170 t_466.1)).trans t_463
  clear t_463
  have t_467 : pN S_180 q_32 = 4 := tN_sR eS_180 t_464
  clear t_464
  have t_471 : pR S_102 1106 x = some q_75 := by rw [eS_102]; exact (pR_sO_ne (ne_of_new hq_101 t_205.1)).trans h_100
  have t_472 : pR S_109 1106 x = some q_75 := (((hK_110 x t_207.1).2 (At_ne t_207 ha_107 (by decide))).2.2.1 1106).trans t_471
  have t_473 : pR S_122 1106 x = some q_75 := tR_sR eS_122 rfl t_472
  have t_474 : pR S_129 1106 x = some q_75 := by rw [eS_129]; exact (pR_sO_ne (ne_of_new hq_128 t_191.1)).trans t_473
  have t_475 : pR S_136 1106 x = some q_75 := (((hK_137 x t_193.1).2 (At_ne t_193 ha_134 (by decide))).2.2.1 1106).trans t_474
  have t_476 : pR S_148 1106 x = some q_75 := tR_sR eS_148 rfl t_475
  have t_477 : pR S_155 1106 x = some q_75 := by rw [eS_155, pR_sN]; exact t_476
  have t_478 : pR S_164 1106 x = some q_75 := tR_sR eS_164 rfl t_477
  have t_479 : pR S_171 1106 x = some q_75 := by rw [eS_171, pR_sN]; exact t_478
  have t_480 : pR S_180 1106 x = some q_75 := tR_sR eS_180 rfl t_479
  have t_485 : pR S_155 1108 x = some q_128 := by rw [eS_155, pR_sN]; exact h_153
  have t_486 : pR S_164 1108 x = some q_128 := tR_sR eS_164 rfl t_485
  have t_487 : pR S_171 1108 x = some q_128 := by rw [eS_171, pR_sN]; exact t_486
  have t_488 : pR S_180 1108 x = some q_128 := tR_sR eS_180 rfl t_487
  have t_491 : pR S_171 1109 x = some q_154 := by rw [eS_171, pR_sN]; exact h_169
  have t_492 : pR S_180 1109 x = some q_154 := tR_sR eS_180 rfl t_491
  have t_495 : pN S_164 q_154 = 16 := tN_sR eS_164 hn_161
  clear hn_161
  have t_497 : At S_164 q_154 17 := tAt_sR eS_164 ha_160
  have t_496 : pN S_171 q_154 = 16 := by rw [eS_171]; exact (pN_sN_ne (ne_of_new hq_170 t_497.1)).trans t_495
  clear t_495
  have t_498 : pN S_180 q_154 = 16 := tN_sR eS_180 t_496
  clear t_496
  have t_502 : pN S_180 q_170 = 60 := tN_sR eS_180 hn_177
  clear hn_177
  have L_186 : ∀ (n : Nat) (T_188 : PS) (H : Heap) (locs : List Loc) (ls : Array Slot) (i1_187 : Int32) (i1_187_z : Int) (cc_504 nn_505 : Nat), ((16 - i1_187_z).toNat = n) → (Wd G cy (AS S s.heap.size) s.heap T_188 H locs) → (i1_187.toInt = i1_187_z) → (0 ≤ i1_187_z ∧ i1_187_z ≤ 16) → (At T_188 x 191) → (Kq S T_188 x) → (GX T_188) → (Phc T_188 = Phc S + 320) → (Phs T_188 = Phs S + 604000) → (pI T_188 1102 x = 0) → (pI T_188 1104 x = 0) → (pI T_188 801 q_101 = 0) → (pI T_188 1000 q_48 = 0) → (pR T_188 1100 x = some q_1) → (At T_188 q_1 36) → (pN T_188 q_1 = 600) → (pR T_188 1101 x = some q_16) → (At T_188 q_16 54) → (pN T_188 q_16 = 10) → (pR T_188 1103 x = some q_32) → (At T_188 q_32 18) → (pN T_188 q_32 = 4) → (pR T_188 1105 x = some q_48) → (At T_188 q_48 10) → (pR T_188 1106 x = some q_75) → (At T_188 q_75 6) → (pR T_188 1107 x = some q_101) → (At T_188 q_101 8) → (pR T_188 1108 x = some q_128) → (At T_188 q_128 1) → (pR T_188 1109 x = some q_154) → (At T_188 q_154 17) → (pN T_188 q_154 = 16) → (pR T_188 1111 x = some q_170) → (At T_188 q_170 194) → (pN T_188 q_170 = 60) → (cc_504 = 26 + 2 * (i1_187_z).toNat) → (nn_505 = 1520 + 13 * (i1_187_z).toNat) → (lv_has ls 2 [(1, .int (i1_187)), (0, .ref x)]) → W p l e ({ frames := 4, cells := 58, slots := 1728, locals := 192 }) s m [.ref x].toArray below meth c H locs cc_504 nn_505 QQ (F0 m 93 ls []) := by
    intro n
    induction n using Nat.strongRecOn with
    | ind n ih =>
    intro T_188 H locs ls i1_187 i1_187_z cc_504 nn_505 hn hw hz_i1_187 hr_i1_187 ha_x_L_189 hK_T_188 hg_T_188 hpc_T_188 hps_T_188 ik_240 ik_263 ik_274 ik_297 ik_318 ik_319 ik_360 ik_379 ik_380 ik_417 ik_434 ik_435 ik_468 ik_469 ik_470 ik_481 ik_482 ik_483 ik_484 ik_489 ik_490 ik_493 ik_494 ik_499 ik_500 ik_501 ik_503 hcc_506 hnn_507 hl
    have rg_508 : (-2147483648) ≤ i1_187_z ∧ i1_187_z ≤ 2147483647 := by rw [← hz_i1_187]; exact ⟨z_lo _, z_hi _⟩
    refine lv_iload_n X.1 X.2.1 dX11_init_93 rfl (lv_at hl 0 rfl) ?_
    refine lv_bipush (v := 16) X.1 X.2.1 dX11_init_94 (by decide) ?_
    refine lv_icmp_ge (tgt := 118) X.1 X.2.1 dX11_init_96 (by decide) (fun c_509 => ?_) (fun c_509 => ?_)
    · have z_b_510 := trivial
      have k_511 : i1_187_z ≥ 16 := z_le ti_16 hz_i1_187 c_509
      have nd_512 := nodup_of hw
      obtain ⟨S_513, eS_513⟩ : ∃ T, T = sK T_188 x 11 := ⟨_, rfl⟩
      have hw := Wd_sK (k := 11) hw ha_x_L_189 rfl; rw [← eS_513] at hw
      have hg9 : GX S_513 := by rw [eS_513]; exact GX_sK hg_T_188 ha_x_L_189 (by decide +kernel) (mk_11 ⟨q_1, (by rw [pR_sK]; exact ik_318), At_sK ha_x_L_189 ik_319 (by decide), by rw [pN_sK]; exact ik_360⟩ ⟨q_16, (by rw [pR_sK]; exact ik_379), At_sK ha_x_L_189 ik_380 (by decide), by rw [pN_sK]; exact ik_417⟩ (by rw [pI_sK, ik_240]; exact ⟨by rw [ti_0]; omega, by rw [ti_0]; omega⟩) ⟨q_32, (by rw [pR_sK]; exact ik_434), At_sK ha_x_L_189 ik_435 (by decide), by rw [pN_sK]; exact ik_468⟩ (by rw [pI_sK, ik_263]; exact ⟨by rw [ti_0]; omega, by rw [ti_0]; omega⟩) ⟨q_48, (by rw [pR_sK]; exact ik_469), At_sK ha_x_L_189 ik_470 (by decide)⟩ ⟨q_75, (by rw [pR_sK]; exact ik_481), At_sK ha_x_L_189 ik_482 (by decide)⟩ ⟨q_101, (by rw [pR_sK]; exact ik_483), At_sK ha_x_L_189 ik_484 (by decide)⟩ ⟨q_128, (by rw [pR_sK]; exact ik_489), At_sK ha_x_L_189 ik_490 (by decide)⟩ ⟨q_154, (by rw [pR_sK]; exact ik_493), At_sK ha_x_L_189 ik_494 (by decide), by rw [pN_sK]; exact ik_499⟩ ⟨q_170, (by rw [pR_sK]; exact ik_500), At_sK ha_x_L_189 ik_501 (by decide), by rw [pN_sK]; exact ik_503⟩)
      have ha9 : At S_513 x 11 := by rw [eS_513]; exact At_nK ha_x_L_189
      have hk9 : Kq S S_513 x := hK_T_188.sK eS_513
      have hPhc9 : Phc S_513 = Phc S + 57920 := by rw [show Phc S_513 = Ph fC 8 14400 S_513 from rfl, Ph_sK nd_512 ha_x_L_189 (by decide) eS_513, ph_11 ha9 (show pI S_513 1104 x = 0 by rw [eS_513, pI_sK]; exact ik_263)]; show Phc T_188 + _ = _; omega
      have hPhs9 : Phs S_513 = Phs S + 788000 := by rw [show Phs S_513 = Ph fS 15100 46000 S_513 from rfl, Ph_sK nd_512 ha_x_L_189 (by decide) eS_513, ph_11 ha9 (show pI S_513 1104 x = 0 by rw [eS_513, pI_sK]; exact ik_263)]; show Phs T_188 + _ = _; omega
      rw [hQQ]
      exact ret_v X hw hr hlocks (by show cc_504 ≤ 58; omega) (by show nn_505 ≤ 1728; omega) ⟨hk9, hg9, ha9, hPhc9, hPhs9, ⟨q_101, by rw [eS_513, pR_sK]; exact ik_483, by rw [eS_513]; exact At_sK ha_x_L_189 ik_484 (by decide), by rw [eS_513, pI_sK]; exact ik_274, by rw [eS_513, pI_sK]; exact ik_240, by rw [eS_513, pI_sK]; exact ik_263, q_48, by rw [eS_513, pR_sK]; exact ik_469, by rw [eS_513]; exact At_sK ha_x_L_189 ik_470 (by decide), by rw [eS_513, pI_sK]; exact ik_297⟩⟩ dX11_init_118
    · have z_b_514 := trivial
      have k_515 : i1_187_z < 16 := z_nle ti_16 hz_i1_187 c_509
      refine lv_aload_n X.1 X.2.1 dX11_init_99 rfl (lv_at hl 1 rfl) ?_
      refine r_getR (g := 1109) X hw ha_x_L_189 rfl 9 ik_493 (by decide) rfl inn_X11_init_11 (by decide) (X.2.2.2.1 (.fieldLink RX11 55 "SilkMill" "shelf" "[LSilkMill$Place;") (by decide +kernel)) rfl (gv_1109 _ _) dX11_init_100 ?_
      refine lv_iload_n X.1 X.2.1 dX11_init_103 rfl (lv_at hl 0 rfl) ?_
      refine r_new X hw 183 3 (nn_505 + 5) (cc_504 + 1) rfl tyX3 (by decide) rfl inn_X11_init_3 tyX3_ok (X.2.2.2.1 (.classLink RX11 53 RX3) (by decide +kernel)) (X.2.2.2.1 (.instantiable RX3 5) (by decide +kernel)) (X.2.2.2.1 (.initialized RX3) (by decide +kernel)) (zo_3 _) zd_3 (by show cc_504 + 1 ≤ (cc_504 + 1); omega) (by show nn_505 + 5 ≤ (nn_505 + 5); omega) (by show (cc_504 + 1) ≤ 58; omega) (by show (nn_505 + 5) ≤ 1728; omega) dX11_init_104 (fun q_516 H hq_516 hw => ?_)
      obtain ⟨S_517, eS_517⟩ : ∃ T, T = sO T_188 q_516 183 := ⟨_, rfl⟩
      rw [← eS_517] at hw
      have ph_518 : Phc S_517 = Phc S + 320 := (show Phc S_517 = Phc T_188 from Ph_sO hg_T_188 hq_516 eS_517 (by decide)).trans hpc_T_188
      have ph_519 : Phs S_517 = Phs S + 604000 := (show Phs S_517 = Phs T_188 from Ph_sO hg_T_188 hq_516 eS_517 (by decide)).trans hps_T_188
      clear hpc_T_188
      clear hps_T_188
      have hK_520 : Kq S S_517 x := hK_T_188.sO hq_516 eS_517
      have hg_521 : GX S_517 := by rw [eS_517]; exact GX_O hg_T_188 hq_516 (by decide +kernel)
      have hn0_q_516 := hK_T_188.new hq_516
      have ha_522 : At S_517 q_516 183 := by rw [eS_517]; exact At_nO _ _ _
      have hzI_q_516 : ∀ g, pI S_517 g q_516 = 0 := fun g => by rw [eS_517]; exact pI_sO_new
      have hzR_q_516 : ∀ g, pR S_517 g q_516 = none := fun g => by rw [eS_517]; exact if_pos rfl
      refine lv_dup X.1 X.2.1 dX11_init_107 rfl ?_
      refine k_v (rm := { frames := 2, cells := 1, slots := 8, locals := 96 }) (av := [.ref q_516]) X hw (va_runIN (As := []) (rest := [.ref q_516, .int (i1_187), .ref q_154]) (cfix X) (k_X3_init l G cy κ S_517 _ q_516 hg_521 ha_522 hzI_q_516 hzR_q_516) ⟨(va_cnB (host := RX11) 0 X.2.2.2.1 gX11_init_X3_init_n62 rfl rfl rfl (X.2.2.2.2.2.2.2.1.2.1 (RX11, 62, yX3_init) (by decide +kernel)) (X.2.2.2.1 (.initialized RX3) (by decide +kernel)) (by decide +kernel) ⟨Nat.le_of_ble_eq_true rfl, Nat.le_of_ble_eq_true rfl⟩), rfl, (X.2.2.2.1 (.instanceMethod yX3_init) (by decide +kernel))⟩ (pre_S X hw _) rfl rfl hl.1 rfl (lv_room (Nat.le_of_ble_eq_true rfl)) dX11_init_108 ⟨(by show (cc_504 + 1) + 1 ≤ 58; omega), (by show (nn_505 + 5) + 8 ≤ 1728; omega)⟩) ((cc_504 + 1) + 1) ((nn_505 + 5) + 8) (by show (cc_504 + 1) + 1 ≤ ((cc_504 + 1) + 1); omega) (by show (nn_505 + 5) + 8 ≤ ((nn_505 + 5) + 8); omega) (fun S_524 H locs hp hw hfr hnw => ?_)
      obtain ⟨hK_525, hg_526, ha_527, ph_528, ph_529⟩ := hp
      have hK_530 : Kq S S_524 x := hK_520.sub hn0_q_516 hK_525
      have ph_531 : Phc S_524 = Phc S + 320 := by omega
      have ph_532 : Phs S_524 = Phs S + 604000 := by omega
      clear ph_518
      clear ph_519
      clear ph_528
      clear ph_529
      have t_533 : At S_517 q_154 17 := by rw [eS_517]; exact At_sO ik_494 hq_516
      have t_534 : At S_524 q_154 17 := hK_525.at ha_522 t_533 (by decide)
      have t_535 : pN S_517 q_154 = 16 := by rw [eS_517, pN_sO]; exact ik_499
      have t_537 : At S_517 q_154 17 := by rw [eS_517]; exact At_sO ik_494 hq_516
      have t_536 : pN S_524 q_154 = 16 := ((hK_525 q_154 t_537.1).2 (At_ne t_537 ha_522 (by decide))).2.2.2.1.trans t_535
      clear t_535
      refine r_aast X hw t_534 rfl ha_527 rfl (by decide) (by decide) rfl rfl (by rw [t_536]; exact z_ix hz_i1_187 (by omega) (by omega)) dX11_init_111 (fun H locs hw => ?_)
      obtain ⟨S_538, eS_538⟩ : ∃ T, T = sB S_524 q_154 (va_up (pB S_524 q_154) (Int32.toNatClampNeg (i1_187)) (some q_516)) := ⟨_, rfl⟩
      rw [← eS_538] at hw
      have ph_539 : Phc S_538 = Phc S + 320 := (show Phc S_538 = Phc S_524 from Ph_sB eS_538).trans ph_531
      have ph_540 : Phs S_538 = Phs S + 604000 := (show Phs S_538 = Phs S_524 from Ph_sB eS_538).trans ph_532
      clear ph_531
      clear ph_532
      have hK_541 : Kq S S_538 x := hK_530.sB hn0_q_154 eS_538
      have hg_542 : GX S_538 := by rw [eS_538]; exact uB_17 hg_526 t_534 (fun q hq => by cases hq; exact ha_527)
      obtain ⟨x_543, ex_543⟩ : ∃ y : Int32, y = i1_187 + 1 := ⟨_, rfl⟩
      have z_544 : x_543.toInt = i1_187_z + 1 := z_add ex_543 hz_i1_187 ti_1 (by omega) (by omega)
      refine lv_iinc (v := x_543) (lv' := [(1, .int (x_543)), (0, .ref x)]) X.1 X.2.1 dX11_init_112 hl (k := 0) rfl (by rw [ex_543]; rfl) (by decide) rfl (fun ls hl => ?_)
      refine lv_goto (tgt := 93) X.1 X.2.1 dX11_init_115 (by decide) ?_
      have t_545 : At S_517 x 191 := by rw [eS_517]; exact At_sO ha_x_L_189 hq_516
      have t_546 : At S_524 x 191 := hK_525.at ha_522 t_545 (by decide)
      have t_547 : At S_538 x 191 := tAt_sB eS_538 t_546
      have t_548 : pI S_517 1102 x = 0 := by rw [eS_517]; exact (pI_sO_ne (ne_of_new hq_516 ha_x_L_189.1)).trans ik_240
      have t_550 : At S_517 x 191 := by rw [eS_517]; exact At_sO ha_x_L_189 hq_516
      have t_549 : pI S_524 1102 x = 0 := (((hK_525 x t_550.1).2 (At_ne t_550 ha_522 (by decide))).2.1 1102).trans t_548
      have t_551 : pI S_538 1102 x = 0 := tI_sB eS_538 t_549
      have t_552 : pI S_517 1104 x = 0 := by rw [eS_517]; exact (pI_sO_ne (ne_of_new hq_516 ha_x_L_189.1)).trans ik_263
      have t_553 : pI S_524 1104 x = 0 := (((hK_525 x t_550.1).2 (At_ne t_550 ha_522 (by decide))).2.1 1104).trans t_552
      have t_554 : pI S_538 1104 x = 0 := tI_sB eS_538 t_553
      have t_555 : pI S_517 801 q_101 = 0 := by rw [eS_517]; exact (pI_sO_ne (ne_of_new hq_516 ik_484.1)).trans ik_274
      have t_557 : At S_517 q_101 8 := by rw [eS_517]; exact At_sO ik_484 hq_516
      have t_556 : pI S_524 801 q_101 = 0 := (((hK_525 q_101 t_557.1).2 (At_ne t_557 ha_522 (by decide))).2.1 801).trans t_555
      have t_558 : pI S_538 801 q_101 = 0 := tI_sB eS_538 t_556
      have t_559 : pI S_517 1000 q_48 = 0 := by rw [eS_517]; exact (pI_sO_ne (ne_of_new hq_516 ik_470.1)).trans ik_297
      have t_561 : At S_517 q_48 10 := by rw [eS_517]; exact At_sO ik_470 hq_516
      have t_560 : pI S_524 1000 q_48 = 0 := (((hK_525 q_48 t_561.1).2 (At_ne t_561 ha_522 (by decide))).2.1 1000).trans t_559
      have t_562 : pI S_538 1000 q_48 = 0 := tI_sB eS_538 t_560
      have t_563 : pR S_517 1100 x = some q_1 := by rw [eS_517]; exact (pR_sO_ne (ne_of_new hq_516 ha_x_L_189.1)).trans ik_318
      have t_564 : pR S_524 1100 x = some q_1 := (((hK_525 x t_550.1).2 (At_ne t_550 ha_522 (by decide))).2.2.1 1100).trans t_563
      have t_565 : pR S_538 1100 x = some q_1 := tR_sB eS_538 t_564
      have t_566 : At S_517 q_1 36 := by rw [eS_517]; exact At_sO ik_319 hq_516
      have t_567 : At S_524 q_1 36 := hK_525.at ha_522 t_566 (by decide)
      have t_568 : At S_538 q_1 36 := tAt_sB eS_538 t_567
      have t_569 : pN S_517 q_1 = 600 := by rw [eS_517, pN_sO]; exact ik_360
      have t_571 : At S_517 q_1 36 := by rw [eS_517]; exact At_sO ik_319 hq_516
      have t_570 : pN S_524 q_1 = 600 := ((hK_525 q_1 t_571.1).2 (At_ne t_571 ha_522 (by decide))).2.2.2.1.trans t_569
      clear t_569
      have t_572 : pN S_538 q_1 = 600 := tN_sB eS_538 t_570
      clear t_570
      have t_573 : pR S_517 1101 x = some q_16 := by rw [eS_517]; exact (pR_sO_ne (ne_of_new hq_516 ha_x_L_189.1)).trans ik_379
      have t_574 : pR S_524 1101 x = some q_16 := (((hK_525 x t_550.1).2 (At_ne t_550 ha_522 (by decide))).2.2.1 1101).trans t_573
      have t_575 : pR S_538 1101 x = some q_16 := tR_sB eS_538 t_574
      have t_576 : At S_517 q_16 54 := by rw [eS_517]; exact At_sO ik_380 hq_516
      have t_577 : At S_524 q_16 54 := hK_525.at ha_522 t_576 (by decide)
      have t_578 : At S_538 q_16 54 := tAt_sB eS_538 t_577
      have t_579 : pN S_517 q_16 = 10 := by rw [eS_517, pN_sO]; exact ik_417
      have t_581 : At S_517 q_16 54 := by rw [eS_517]; exact At_sO ik_380 hq_516
      have t_580 : pN S_524 q_16 = 10 := ((hK_525 q_16 t_581.1).2 (At_ne t_581 ha_522 (by decide))).2.2.2.1.trans t_579
      clear t_579
      have t_582 : pN S_538 q_16 = 10 := tN_sB eS_538 t_580
      clear t_580
      have t_583 : pR S_517 1103 x = some q_32 := by rw [eS_517]; exact (pR_sO_ne (ne_of_new hq_516 ha_x_L_189.1)).trans ik_434
      have t_584 : pR S_524 1103 x = some q_32 := (((hK_525 x t_550.1).2 (At_ne t_550 ha_522 (by decide))).2.2.1 1103).trans t_583
      have t_585 : pR S_538 1103 x = some q_32 := tR_sB eS_538 t_584
      have t_586 : At S_517 q_32 18 := by rw [eS_517]; exact At_sO ik_435 hq_516
      have t_587 : At S_524 q_32 18 := hK_525.at ha_522 t_586 (by decide)
      have t_588 : At S_538 q_32 18 := tAt_sB eS_538 t_587
      have t_589 : pN S_517 q_32 = 4 := by rw [eS_517, pN_sO]; exact ik_468
      have t_591 : At S_517 q_32 18 := by rw [eS_517]; exact At_sO ik_435 hq_516
      have t_590 : pN S_524 q_32 = 4 := ((hK_525 q_32 t_591.1).2 (At_ne t_591 ha_522 (by decide))).2.2.2.1.trans t_589
      clear t_589
      have t_592 : pN S_538 q_32 = 4 := tN_sB eS_538 t_590
      clear t_590
      have t_593 : pR S_517 1105 x = some q_48 := by rw [eS_517]; exact (pR_sO_ne (ne_of_new hq_516 ha_x_L_189.1)).trans ik_469
      have t_594 : pR S_524 1105 x = some q_48 := (((hK_525 x t_550.1).2 (At_ne t_550 ha_522 (by decide))).2.2.1 1105).trans t_593
      have t_595 : pR S_538 1105 x = some q_48 := tR_sB eS_538 t_594
      have t_596 : At S_524 q_48 10 := hK_525.at ha_522 t_561 (by decide)
      have t_597 : At S_538 q_48 10 := tAt_sB eS_538 t_596
      have t_598 : pR S_517 1106 x = some q_75 := by rw [eS_517]; exact (pR_sO_ne (ne_of_new hq_516 ha_x_L_189.1)).trans ik_481
      have t_599 : pR S_524 1106 x = some q_75 := (((hK_525 x t_550.1).2 (At_ne t_550 ha_522 (by decide))).2.2.1 1106).trans t_598
      have t_600 : pR S_538 1106 x = some q_75 := tR_sB eS_538 t_599
      have t_601 : At S_517 q_75 6 := by rw [eS_517]; exact At_sO ik_482 hq_516
      have t_602 : At S_524 q_75 6 := hK_525.at ha_522 t_601 (by decide)
      have t_603 : At S_538 q_75 6 := tAt_sB eS_538 t_602
      have t_604 : pR S_517 1107 x = some q_101 := by rw [eS_517]; exact (pR_sO_ne (ne_of_new hq_516 ha_x_L_189.1)).trans ik_483
      have t_605 : pR S_524 1107 x = some q_101 := (((hK_525 x t_550.1).2 (At_ne t_550 ha_522 (by decide))).2.2.1 1107).trans t_604
      have t_606 : pR S_538 1107 x = some q_101 := tR_sB eS_538 t_605
      have t_607 : At S_524 q_101 8 := hK_525.at ha_522 t_557 (by decide)
      have t_608 : At S_538 q_101 8 := tAt_sB eS_538 t_607
      have t_609 : pR S_517 1108 x = some q_128 := by rw [eS_517]; exact (pR_sO_ne (ne_of_new hq_516 ha_x_L_189.1)).trans ik_489
      have t_610 : pR S_524 1108 x = some q_128 := (((hK_525 x t_550.1).2 (At_ne t_550 ha_522 (by decide))).2.2.1 1108).trans t_609
      have t_611 : pR S_538 1108 x = some q_128 := tR_sB eS_538 t_610
      have t_612 : At S_517 q_128 1 := by rw [eS_517]; exact At_sO ik_490 hq_516
      have t_613 : At S_524 q_128 1 := hK_525.at ha_522 t_612 (by decide)
      have t_614 : At S_538 q_128 1 := tAt_sB eS_538 t_613
      have t_615 : pR S_517 1109 x = some q_154 := by rw [eS_517]; exact (pR_sO_ne (ne_of_new hq_516 ha_x_L_189.1)).trans ik_493
      have t_616 : pR S_524 1109 x = some q_154 := (((hK_525 x t_550.1).2 (At_ne t_550 ha_522 (by decide))).2.2.1 1109).trans t_615
      have t_617 : pR S_538 1109 x = some q_154 := tR_sB eS_538 t_616
      have t_618 : At S_538 q_154 17 := tAt_sB eS_538 t_534
      have t_619 : pN S_538 q_154 = 16 := tN_sB eS_538 t_536
      clear t_536
      have t_620 : pR S_517 1111 x = some q_170 := by rw [eS_517]; exact (pR_sO_ne (ne_of_new hq_516 ha_x_L_189.1)).trans ik_500
      have t_621 : pR S_524 1111 x = some q_170 := (((hK_525 x t_550.1).2 (At_ne t_550 ha_522 (by decide))).2.2.1 1111).trans t_620
      have t_622 : pR S_538 1111 x = some q_170 := tR_sB eS_538 t_621
      have t_623 : At S_517 q_170 194 := by rw [eS_517]; exact At_sO ik_501 hq_516
      have t_624 : At S_524 q_170 194 := hK_525.at ha_522 t_623 (by decide)
      have t_625 : At S_538 q_170 194 := tAt_sB eS_538 t_624
      have t_626 : pN S_517 q_170 = 60 := by rw [eS_517, pN_sO]; exact ik_503
      have t_628 : At S_517 q_170 194 := by rw [eS_517]; exact At_sO ik_501 hq_516
      have t_627 : pN S_524 q_170 = 60 := ((hK_525 q_170 t_628.1).2 (At_ne t_628 ha_522 (by decide))).2.2.2.1.trans t_626
      clear t_626
      have t_629 : pN S_538 q_170 = 60 := tN_sB eS_538 t_627
      clear t_627
      exact ih _ (by omega) _ _ _ _ (x_543) (x_543.toInt) (((cc_504 + 1) + 1)) (((nn_505 + 5) + 8)) rfl hw rfl (by omega) t_547 hK_541 hg_542 ph_539 ph_540 t_551 t_554 t_558 t_562 t_565 t_568 t_572 t_575 t_578 t_582 t_585 t_588 t_592 t_595 t_597 t_600 t_603 t_606 t_608 t_611 t_614 t_617 t_618 t_619 t_622 t_625 t_629 (by omega) (by omega) (lv_sub hl [0, 1] rfl)
  have t_630 : At S_180 x 191 := tAt_sR eS_180 t_179
  have t_631 : At S_171 q_1 36 := by rw [eS_171]; exact At_sN t_358 hq_170
  have t_632 : At S_180 q_1 36 := tAt_sR eS_180 t_631
  have t_633 : At S_171 q_16 54 := by rw [eS_171]; exact At_sN t_415 hq_170
  have t_634 : At S_180 q_16 54 := tAt_sR eS_180 t_633
  have t_635 : At S_171 q_32 18 := by rw [eS_171]; exact At_sN t_466 hq_170
  have t_636 : At S_180 q_32 18 := tAt_sR eS_180 t_635
  have t_637 : At S_136 q_48 10 := hK_137.at ha_134 t_291 (by decide)
  have t_638 : At S_148 q_48 10 := tAt_sR eS_148 t_637
  have t_639 : At S_155 q_48 10 := by rw [eS_155]; exact At_sN t_638 hq_154
  have t_640 : At S_164 q_48 10 := tAt_sR eS_164 t_639
  have t_641 : At S_171 q_48 10 := by rw [eS_171]; exact At_sN t_640 hq_170
  have t_642 : At S_180 q_48 10 := tAt_sR eS_180 t_641
  have t_643 : At S_95 q_75 6 := tAt_sR eS_95 ha_86
  have t_644 : At S_102 q_75 6 := by rw [eS_102]; exact At_sO t_643 hq_101
  have t_645 : At S_109 q_75 6 := hK_110.at ha_107 t_644 (by decide)
  have t_646 : At S_122 q_75 6 := tAt_sR eS_122 t_645
  have t_647 : At S_129 q_75 6 := by rw [eS_129]; exact At_sO t_646 hq_128
  have t_648 : At S_136 q_75 6 := hK_137.at ha_134 t_647 (by decide)
  have t_649 : At S_148 q_75 6 := tAt_sR eS_148 t_648
  have t_650 : At S_155 q_75 6 := by rw [eS_155]; exact At_sN t_649 hq_154
  have t_651 : At S_164 q_75 6 := tAt_sR eS_164 t_650
  have t_652 : At S_171 q_75 6 := by rw [eS_171]; exact At_sN t_651 hq_170
  have t_653 : At S_180 q_75 6 := tAt_sR eS_180 t_652
  have t_654 : At S_136 q_101 8 := hK_137.at ha_134 t_268 (by decide)
  have t_655 : At S_148 q_101 8 := tAt_sR eS_148 t_654
  have t_656 : At S_155 q_101 8 := by rw [eS_155]; exact At_sN t_655 hq_154
  have t_657 : At S_164 q_101 8 := tAt_sR eS_164 t_656
  have t_658 : At S_171 q_101 8 := by rw [eS_171]; exact At_sN t_657 hq_170
  have t_659 : At S_180 q_101 8 := tAt_sR eS_180 t_658
  have t_660 : At S_148 q_128 1 := tAt_sR eS_148 ha_139
  have t_661 : At S_155 q_128 1 := by rw [eS_155]; exact At_sN t_660 hq_154
  have t_662 : At S_164 q_128 1 := tAt_sR eS_164 t_661
  have t_663 : At S_171 q_128 1 := by rw [eS_171]; exact At_sN t_662 hq_170
  have t_664 : At S_180 q_128 1 := tAt_sR eS_180 t_663
  have t_665 : At S_171 q_154 17 := by rw [eS_171]; exact At_sN t_497 hq_170
  have t_666 : At S_180 q_154 17 := tAt_sR eS_180 t_665
  have t_667 : At S_180 q_170 194 := tAt_sR eS_180 ha_176
  exact L_186 _ _ _ _ _ (0) (0) (26) (1520) rfl hw ti_0 (by omega) t_630 hK_183 hg_184 ph_181 ph_182 t_239 t_262 t_273 t_296 t_317 t_632 t_359 t_378 t_634 t_416 t_433 t_636 t_467 t_215 t_642 t_480 t_653 t_198 t_659 t_488 t_664 t_492 t_666 t_498 h_185 t_667 t_502 (by omega) (by omega) (lv_sub hl [0, 1] rfl)
