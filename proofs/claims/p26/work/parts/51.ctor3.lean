set_option maxRecDepth 20000 in
theorem ggX11_init_X10_init : GoodIn wsX11_init wsX10_init := goodIn_r _ [32, 33, 2, 3, 34, 35, 36, 86, 87, 88, 89, 90, 91, 92] (by decide +kernel) (by decide +kernel)
set_option maxRecDepth 20000 in
theorem gX11_init_X10_init_n27 : GoodIn wsX11_init (wsX10_init) := ggX11_init_X10_init
set_option maxRecDepth 20000 in
theorem ggX11_init_X6_init : GoodIn wsX11_init wsX6_init := goodIn_r _ [38, 39, 2, 3, 6, 40, 41, 42, 43, 44, 45, 93, 94, 95, 96, 97, 98, 99] (by decide +kernel) (by decide +kernel)
set_option maxRecDepth 20000 in
theorem gX11_init_X6_init_n34 : GoodIn wsX11_init (wsX6_init) := ggX11_init_X6_init
set_option maxRecDepth 20000 in
theorem ggX11_init_X8_init : GoodIn wsX11_init wsX8_init := goodIn_r _ [47, 48, 2, 3, 6, 49, 50, 51, 52, 53, 54, 55, 56, 57, 58, 59, 60, 61, 62, 63, 64, 100, 101, 102, 103, 104, 105, 106, 107, 108, 109, 110, 111, 112, 122, 123, 124, 125, 126, 127, 128, 129] (by decide +kernel) (by decide +kernel)
set_option maxRecDepth 20000 in
theorem gX11_init_X8_init_n41 : GoodIn wsX11_init (wsX8_init) := ggX11_init_X8_init
set_option maxRecDepth 20000 in
theorem ggX11_init_X1_init : GoodIn wsX11_init wsX1_init := goodIn_r _ [66, 67, 2, 3, 6, 68, 113, 114, 115, 116] (by decide +kernel) (by decide +kernel)
set_option maxRecDepth 20000 in
theorem gX11_init_X1_init_n48 : GoodIn wsX11_init (wsX1_init) := ggX11_init_X1_init
set_option maxRecDepth 20000 in
theorem ggX11_init_X3_init : GoodIn wsX11_init wsX3_init := goodIn_r _ [70, 71, 2, 3, 72, 6, 73, 117, 118, 119, 120, 121] (by decide +kernel) (by decide +kernel)
set_option maxRecDepth 20000 in
theorem gX11_init_X3_init_n62 : GoodIn wsX11_init (wsX3_init) := ggX11_init_X3_init
theorem dX11_init_0 : decode cX11_init 0 = .ok (.aload_n 0, 1) := by decide +kernel
theorem dX11_init_1 : decode cX11_init 1 = .ok (.invokespecial 3, 3) := by decide +kernel
theorem dX11_init_4 : decode cX11_init 4 = .ok (.aload_n 0, 1) := by decide +kernel
theorem dX11_init_5 : decode cX11_init 5 = .ok (.sipush 600, 3) := by decide +kernel
theorem dX11_init_8 : decode cX11_init 8 = .ok (.anewarray 9, 3) := by decide +kernel
theorem dX11_init_11 : decode cX11_init 11 = .ok (.putfield 11, 3) := by decide +kernel
theorem dX11_init_14 : decode cX11_init 14 = .ok (.aload_n 0, 1) := by decide +kernel
theorem dX11_init_15 : decode cX11_init 15 = .ok (.bipush 10, 2) := by decide +kernel
theorem dX11_init_17 : decode cX11_init 17 = .ok (.newarray .int, 2) := by decide +kernel
theorem dX11_init_19 : decode cX11_init 19 = .ok (.putfield 15, 3) := by decide +kernel
theorem dX11_init_22 : decode cX11_init 22 = .ok (.aload_n 0, 1) := by decide +kernel
theorem dX11_init_23 : decode cX11_init 23 = .ok (.iconst 4, 1) := by decide +kernel
theorem dX11_init_24 : decode cX11_init 24 = .ok (.anewarray 19, 3) := by decide +kernel
theorem dX11_init_27 : decode cX11_init 27 = .ok (.putfield 21, 3) := by decide +kernel
theorem dX11_init_30 : decode cX11_init 30 = .ok (.aload_n 0, 1) := by decide +kernel
theorem dX11_init_31 : decode cX11_init 31 = .ok (.new 25, 3) := by decide +kernel
theorem dX11_init_34 : decode cX11_init 34 = .ok (.dup, 1) := by decide +kernel
theorem dX11_init_35 : decode cX11_init 35 = .ok (.invokespecial 27, 3) := by decide +kernel
theorem dX11_init_38 : decode cX11_init 38 = .ok (.putfield 28, 3) := by decide +kernel
theorem dX11_init_41 : decode cX11_init 41 = .ok (.aload_n 0, 1) := by decide +kernel
theorem dX11_init_42 : decode cX11_init 42 = .ok (.new 32, 3) := by decide +kernel
theorem dX11_init_45 : decode cX11_init 45 = .ok (.dup, 1) := by decide +kernel
theorem dX11_init_46 : decode cX11_init 46 = .ok (.invokespecial 34, 3) := by decide +kernel
theorem dX11_init_49 : decode cX11_init 49 = .ok (.putfield 35, 3) := by decide +kernel
theorem dX11_init_52 : decode cX11_init 52 = .ok (.aload_n 0, 1) := by decide +kernel
theorem dX11_init_53 : decode cX11_init 53 = .ok (.new 39, 3) := by decide +kernel
theorem dX11_init_56 : decode cX11_init 56 = .ok (.dup, 1) := by decide +kernel
theorem dX11_init_57 : decode cX11_init 57 = .ok (.invokespecial 41, 3) := by decide +kernel
theorem dX11_init_60 : decode cX11_init 60 = .ok (.putfield 42, 3) := by decide +kernel
theorem dX11_init_63 : decode cX11_init 63 = .ok (.aload_n 0, 1) := by decide +kernel
theorem dX11_init_64 : decode cX11_init 64 = .ok (.new 46, 3) := by decide +kernel
theorem dX11_init_67 : decode cX11_init 67 = .ok (.dup, 1) := by decide +kernel
theorem dX11_init_68 : decode cX11_init 68 = .ok (.invokespecial 48, 3) := by decide +kernel
theorem dX11_init_71 : decode cX11_init 71 = .ok (.putfield 49, 3) := by decide +kernel
theorem dX11_init_74 : decode cX11_init 74 = .ok (.aload_n 0, 1) := by decide +kernel
theorem dX11_init_75 : decode cX11_init 75 = .ok (.bipush 16, 2) := by decide +kernel
theorem dX11_init_77 : decode cX11_init 77 = .ok (.anewarray 53, 3) := by decide +kernel
theorem dX11_init_80 : decode cX11_init 80 = .ok (.putfield 55, 3) := by decide +kernel
theorem dX11_init_83 : decode cX11_init 83 = .ok (.aload_n 0, 1) := by decide +kernel
theorem dX11_init_84 : decode cX11_init 84 = .ok (.bipush 60, 2) := by decide +kernel
theorem dX11_init_86 : decode cX11_init 86 = .ok (.newarray .int, 2) := by decide +kernel
theorem dX11_init_88 : decode cX11_init 88 = .ok (.putfield 59, 3) := by decide +kernel
theorem dX11_init_91 : decode cX11_init 91 = .ok (.iconst 0, 1) := by decide +kernel
theorem dX11_init_92 : decode cX11_init 92 = .ok (.istore_n 1, 1) := by decide +kernel
theorem dX11_init_93 : decode cX11_init 93 = .ok (.iload_n 1, 1) := by decide +kernel
theorem dX11_init_94 : decode cX11_init 94 = .ok (.bipush 16, 2) := by decide +kernel
theorem dX11_init_96 : decode cX11_init 96 = .ok (.if_icmp .ge 22, 3) := by decide +kernel
theorem dX11_init_99 : decode cX11_init 99 = .ok (.aload_n 0, 1) := by decide +kernel
theorem dX11_init_100 : decode cX11_init 100 = .ok (.getfield 55, 3) := by decide +kernel
theorem dX11_init_103 : decode cX11_init 103 = .ok (.iload_n 1, 1) := by decide +kernel
theorem dX11_init_104 : decode cX11_init 104 = .ok (.new 53, 3) := by decide +kernel
theorem dX11_init_107 : decode cX11_init 107 = .ok (.dup, 1) := by decide +kernel
theorem dX11_init_108 : decode cX11_init 108 = .ok (.invokespecial 62, 3) := by decide +kernel
theorem dX11_init_111 : decode cX11_init 111 = .ok (.aastore, 1) := by decide +kernel
theorem dX11_init_112 : decode cX11_init 112 = .ok (.iinc 1 1, 3) := by decide +kernel
theorem dX11_init_115 : decode cX11_init 115 = .ok (.goto (-22), 3) := by decide +kernel
theorem dX11_init_118 : decode cX11_init 118 = .ok (.return_, 1) := by decide +kernel
theorem inn_X11_init_1 : ∀ w ∈ u_ws RX1 TX1 4, w ∈ wsX11_init := fun w h => List.mem_cons_of_mem _ (List.mem_append_left _ (List.mem_append_left _ (List.mem_append_right _ h)))
theorem inn_X11_init_10 : ∀ w ∈ u_ws RX10 TX10 7, w ∈ wsX11_init := fun w h => List.mem_cons_of_mem _ (List.mem_append_left _ (List.mem_append_left _ (List.mem_append_left _ (List.mem_append_left _ (List.mem_append_left _ (List.mem_append_right _ h))))))
theorem inn_X11_init_11 : ∀ w ∈ u_ws RX11 TX11 12, w ∈ wsX11_init := fun w h => List.mem_cons_of_mem _ (List.mem_append_left _ (List.mem_append_left _ (List.mem_append_left _ (List.mem_append_left _ (List.mem_append_left _ (List.mem_append_left _ (List.mem_append_right _ h)))))))
theorem inn_X11_init_3 : ∀ w ∈ u_ws RX3 TX3 5, w ∈ wsX11_init := fun w h => List.mem_cons_of_mem _ (List.mem_append_left _ (List.mem_append_right _ h))
theorem inn_X11_init_6 : ∀ w ∈ u_ws RX6 TX6 7, w ∈ wsX11_init := fun w h => List.mem_cons_of_mem _ (List.mem_append_left _ (List.mem_append_left _ (List.mem_append_left _ (List.mem_append_left _ (List.mem_append_right _ h)))))
theorem inn_X11_init_8 : ∀ w ∈ u_ws RX8 TX8 13, w ∈ wsX11_init := fun w h => List.mem_cons_of_mem _ (List.mem_append_left _ (List.mem_append_left _ (List.mem_append_left _ (List.mem_append_right _ h))))
set_option maxHeartbeats 4000000 in
set_option maxRecDepth 100000 in
theorem k_X11_init (l : Launch) (G : va_G) (cy : Nat → ClassId) (κ : Nat → Nat) (S : PS) (sz : Nat) (x : Nat) (hG : GX S) (ha_x : At S x 191) (hzI : ∀ g, pI S g x = 0) (hzR : ∀ g, pR S g x = none) : Cv l yX11_init wsX11_init ({ frames := 4, cells := 58, slots := 1728, locals := 192 }) G cy κ S sz [.ref x] (fun (S9 : PS) => Kq S S9 x ∧ GX S9 ∧ At S9 x 11 ∧ Phc S9 = Phc S + 57920 ∧ Phs S9 = Phs S + 788000) := by
  refine ent_m (cc := cX11_init) (maxL := 2) (ret := none) (by decide) rfl (Nat.le_of_ble_eq_true rfl) ?_
  intro p e s m below meth c ls X hr hlocks hin hw hl hsz
  subst hsz
  have X : Cx p c cX11_init 2 s [.ref x].toArray wsX11_init RX11 m G cy κ (AS S s.heap.size) := X
  have hl : lv_has ls 2 [(0, .ref x)] := hl
  have hpc0 : Phc S = Phc S + 0 := rfl
  have hps0 : Phs S = Phs S + 0 := rfl
  have hK : Kq S S x := Kq.rf S _
  generalize hQQ : MQ below _ _ _ _ _ _ = QQ
  replace hQQ := hQQ.symm
  refine lv_aload_n X.1 X.2.1 dX11_init_0 rfl (lv_at hl 0 rfl) ?_
  refine W.objInit X.1 X.2.1 X.2.2.2.2.1 (X.2.2.2.1 (.methodLink RX11 3 objectInit) (by decide +kernel)) (X.2.2.2.1 (.instanceMethod objectInit) (by decide +kernel)) (X.2.2.2.1 (.code objectInit ⟨#[0xb1]⟩ 1 none) (by decide +kernel)) rfl (hl.1.trans X.2.2.1.symm) rfl dX11_init_1 (Nat.le_of_ble_eq_true rfl) (Nat.le_of_ble_eq_true rfl) ?_
  refine W.eq (g2 := F0 m 4 ls ([])) rfl ?_
  refine lv_aload_n X.1 X.2.1 dX11_init_4 rfl (lv_at hl 0 rfl) ?_
  refine lv_sipush (v := 600) X.1 X.2.1 dX11_init_5 (by decide) ?_
  refine r_newQ (N := 600) (C := RX0) X hw 16 16 600 1 rfl (by decide) rfl (X.2.2.2.1 (.classLink RX11 9 RX0) (by decide +kernel)) X.2.2.2.2.2.2.2.1.1.1 (z_nn ti_600 (by omega)) (by decide) (by decide) (by show 0 + 1 ≤ 1; omega) (by show 0 + 600 ≤ 600; omega) (by show 1 ≤ 58; omega) (by show 600 ≤ 1728; omega) dX11_init_8 (fun q_1 H hq_1 hw => ?_)
  obtain ⟨S_2, eS_2⟩ : ∃ T, T = sN S q_1 16 600 := ⟨_, rfl⟩
  rw [← eS_2] at hw
  have ph_3 : Phc S_2 = Phc S + 0 := (show Phc S_2 = Phc S from Ph_sN' hG.ci hq_1 eS_2 (by decide)).trans hpc0
  have ph_4 : Phs S_2 = Phs S + 0 := (show Phs S_2 = Phs S from Ph_sN' hG.ci hq_1 eS_2 (by decide)).trans hps0
  clear hpc0
  clear hps0
  have hK_5 : Kq S S_2 x := hK.sN hq_1 eS_2
  have hg_6 : GX S_2 := by rw [eS_2]; exact GX_N hG hq_1 (by decide +kernel)
  have hn0_q_1 := hK.new hq_1
  have ha_7 : At S_2 q_1 16 := by rw [eS_2]; exact At_nN _ _ _ _
  have hn_8 : pN S_2 q_1 = 600 := by rw [eS_2]; exact pN_sN_new
  have t_9 : At S_2 x 191 := by rw [eS_2]; exact At_sN ha_x hq_1
  refine r_putR X hw t_9 rfl 0 1100 (some q_1) rfl tyX11 (by decide) rfl inn_X11_init_11 tyX11_ok nmX11 (by decide) (X.2.2.2.1 (.fieldLink RX11 11 "SilkMill" "cocoons" "[LSilkMill$Cocoon;") (by decide +kernel)) rfl (Or.inr ⟨rfl, hin, rfl⟩) (fun _ => rfl) rfl (fun _ => rfl) rfl (Nat.le_of_ble_eq_true rfl) (st_1100 _ _) dX11_init_11 (fun H locs hw => ?_)
  obtain ⟨S_10, eS_10⟩ : ∃ T, T = sR S_2 1100 x (some q_1) := ⟨_, rfl⟩
  rw [← eS_10] at hw
  have ph_11 : Phc S_10 = Phc S + 0 := (show Phc S_10 = Phc S_2 from Ph_rawR t_9 (by decide) eS_10).trans ph_3
  have ph_12 : Phs S_10 = Phs S + 0 := (show Phs S_10 = Phs S_2 from Ph_rawR t_9 (by decide) eS_10).trans ph_4
  clear ph_3
  clear ph_4
  have hK_13 : Kq S S_10 x := hK_5.sR eS_10
  have hg_14 : GX S_10 := by rw [eS_10]; exact GX_rawR hg_6 t_9 (by decide +kernel)
  have h_15 : pR S_10 1100 x = some q_1 := tR_sRs eS_10
  refine lv_aload_n X.1 X.2.1 dX11_init_14 rfl (lv_at hl 0 rfl) ?_
  refine lv_bipush (v := 10) X.1 X.2.1 dX11_init_15 (by decide) ?_
  refine r_newI (N := 10) X hw 54 610 2 rfl (X.2.2.2.1 (.arrayClass .int) (by decide +kernel)) (z_nn ti_10 (by omega)) (by decide) (by decide) (by show 1 + 1 ≤ 2; omega) (by show 600 + 10 ≤ 610; omega) (by show 2 ≤ 58; omega) (by show 610 ≤ 1728; omega) dX11_init_17 (fun q_16 H hq_16 hw => ?_)
  obtain ⟨S_17, eS_17⟩ : ∃ T, T = sN S_10 q_16 54 10 := ⟨_, rfl⟩
  rw [← eS_17] at hw
  have ph_18 : Phc S_17 = Phc S + 0 := (show Phc S_17 = Phc S_10 from Ph_sN' hg_14.ci hq_16 eS_17 (by decide)).trans ph_11
  have ph_19 : Phs S_17 = Phs S + 0 := (show Phs S_17 = Phs S_10 from Ph_sN' hg_14.ci hq_16 eS_17 (by decide)).trans ph_12
  clear ph_11
  clear ph_12
  have hK_20 : Kq S S_17 x := hK_13.sN hq_16 eS_17
  have hg_21 : GX S_17 := by rw [eS_17]; exact GX_N hg_14 hq_16 (by decide +kernel)
  have hn0_q_16 := hK_13.new hq_16
  have ha_22 : At S_17 q_16 54 := by rw [eS_17]; exact At_nN _ _ _ _
  have hn_23 : pN S_17 q_16 = 10 := by rw [eS_17]; exact pN_sN_new
  have t_24 : At S_10 x 191 := tAt_sR eS_10 t_9
  have t_25 : At S_17 x 191 := by rw [eS_17]; exact At_sN t_24 hq_16
  refine r_putR X hw t_25 rfl 1 1101 (some q_16) rfl tyX11 (by decide) rfl inn_X11_init_11 tyX11_ok nmX11 (by decide) (X.2.2.2.1 (.fieldLink RX11 15 "SilkMill" "lotSizes" "[I") (by decide +kernel)) rfl (Or.inr ⟨rfl, hin, rfl⟩) (fun _ => rfl) rfl (fun _ => rfl) rfl (Nat.le_of_ble_eq_true rfl) (st_1101 _ _) dX11_init_19 (fun H locs hw => ?_)
  obtain ⟨S_26, eS_26⟩ : ∃ T, T = sR S_17 1101 x (some q_16) := ⟨_, rfl⟩
  rw [← eS_26] at hw
  have ph_27 : Phc S_26 = Phc S + 0 := (show Phc S_26 = Phc S_17 from Ph_rawR t_25 (by decide) eS_26).trans ph_18
  have ph_28 : Phs S_26 = Phs S + 0 := (show Phs S_26 = Phs S_17 from Ph_rawR t_25 (by decide) eS_26).trans ph_19
  clear ph_18
  clear ph_19
  have hK_29 : Kq S S_26 x := hK_20.sR eS_26
  have hg_30 : GX S_26 := by rw [eS_26]; exact GX_rawR hg_21 t_25 (by decide +kernel)
  have h_31 : pR S_26 1101 x = some q_16 := tR_sRs eS_26
  refine lv_aload_n X.1 X.2.1 dX11_init_22 rfl (lv_at hl 0 rfl) ?_
  refine lv_iconst (v := 4) X.1 X.2.1 dX11_init_23 (by decide) ?_
  refine r_newQ (N := 4) (C := RX4) X hw 18 18 614 3 rfl (by decide) rfl (X.2.2.2.1 (.classLink RX11 19 RX4) (by decide +kernel)) X.2.2.2.2.2.2.2.1.1.2.2.1 (z_nn ti_4 (by omega)) (by decide) (by decide) (by show 2 + 1 ≤ 3; omega) (by show 610 + 4 ≤ 614; omega) (by show 3 ≤ 58; omega) (by show 614 ≤ 1728; omega) dX11_init_24 (fun q_32 H hq_32 hw => ?_)
  obtain ⟨S_33, eS_33⟩ : ∃ T, T = sN S_26 q_32 18 4 := ⟨_, rfl⟩
  rw [← eS_33] at hw
  have ph_34 : Phc S_33 = Phc S + 0 := (show Phc S_33 = Phc S_26 from Ph_sN' hg_30.ci hq_32 eS_33 (by decide)).trans ph_27
  have ph_35 : Phs S_33 = Phs S + 0 := (show Phs S_33 = Phs S_26 from Ph_sN' hg_30.ci hq_32 eS_33 (by decide)).trans ph_28
  clear ph_27
  clear ph_28
  have hK_36 : Kq S S_33 x := hK_29.sN hq_32 eS_33
  have hg_37 : GX S_33 := by rw [eS_33]; exact GX_N hg_30 hq_32 (by decide +kernel)
  have hn0_q_32 := hK_29.new hq_32
  have ha_38 : At S_33 q_32 18 := by rw [eS_33]; exact At_nN _ _ _ _
  have hn_39 : pN S_33 q_32 = 4 := by rw [eS_33]; exact pN_sN_new
  have t_40 : At S_26 x 191 := tAt_sR eS_26 t_25
  have t_41 : At S_33 x 191 := by rw [eS_33]; exact At_sN t_40 hq_32
  refine r_putR X hw t_41 rfl 3 1103 (some q_32) rfl tyX11 (by decide) rfl inn_X11_init_11 tyX11_ok nmX11 (by decide) (X.2.2.2.1 (.fieldLink RX11 21 "SilkMill" "pots" "[LSilkMill$Pot;") (by decide +kernel)) rfl (Or.inr ⟨rfl, hin, rfl⟩) (fun _ => rfl) rfl (fun _ => rfl) rfl (Nat.le_of_ble_eq_true rfl) (st_1103 _ _) dX11_init_27 (fun H locs hw => ?_)
  obtain ⟨S_42, eS_42⟩ : ∃ T, T = sR S_33 1103 x (some q_32) := ⟨_, rfl⟩
  rw [← eS_42] at hw
  have ph_43 : Phc S_42 = Phc S + 0 := (show Phc S_42 = Phc S_33 from Ph_rawR t_41 (by decide) eS_42).trans ph_34
  have ph_44 : Phs S_42 = Phs S + 0 := (show Phs S_42 = Phs S_33 from Ph_rawR t_41 (by decide) eS_42).trans ph_35
  clear ph_34
  clear ph_35
  have hK_45 : Kq S S_42 x := hK_36.sR eS_42
  have hg_46 : GX S_42 := by rw [eS_42]; exact GX_rawR hg_37 t_41 (by decide +kernel)
  have h_47 : pR S_42 1103 x = some q_32 := tR_sRs eS_42
  refine lv_aload_n X.1 X.2.1 dX11_init_30 rfl (lv_at hl 0 rfl) ?_
  refine r_new X hw 190 10 621 4 rfl tyX10 (by decide) rfl inn_X11_init_10 tyX10_ok (X.2.2.2.1 (.classLink RX11 25 RX10) (by decide +kernel)) (X.2.2.2.1 (.instantiable RX10 7) (by decide +kernel)) (X.2.2.2.1 (.initialized RX10) (by decide +kernel)) (zo_10 _) zd_10 (by show 3 + 1 ≤ 4; omega) (by show 614 + 7 ≤ 621; omega) (by show 4 ≤ 58; omega) (by show 621 ≤ 1728; omega) dX11_init_31 (fun q_48 H hq_48 hw => ?_)
  obtain ⟨S_49, eS_49⟩ : ∃ T, T = sO S_42 q_48 190 := ⟨_, rfl⟩
  rw [← eS_49] at hw
  have ph_50 : Phc S_49 = Phc S + 0 := (show Phc S_49 = Phc S_42 from Ph_sO hg_46 hq_48 eS_49 (by decide)).trans ph_43
  have ph_51 : Phs S_49 = Phs S + 0 := (show Phs S_49 = Phs S_42 from Ph_sO hg_46 hq_48 eS_49 (by decide)).trans ph_44
  clear ph_43
  clear ph_44
  have hK_52 : Kq S S_49 x := hK_45.sO hq_48 eS_49
  have hg_53 : GX S_49 := by rw [eS_49]; exact GX_O hg_46 hq_48 (by decide +kernel)
  have hn0_q_48 := hK_45.new hq_48
  have ha_54 : At S_49 q_48 190 := by rw [eS_49]; exact At_nO _ _ _
  have hzI_q_48 : ∀ g, pI S_49 g q_48 = 0 := fun g => by rw [eS_49]; exact pI_sO_new
  have hzR_q_48 : ∀ g, pR S_49 g q_48 = none := fun g => by rw [eS_49]; exact if_pos rfl
  refine lv_dup X.1 X.2.1 dX11_init_34 rfl ?_
  refine k_v (rm := { frames := 2, cells := 1, slots := 400, locals := 96 }) (av := [.ref q_48]) X hw (va_runIN (As := []) (rest := [.ref q_48, .ref x]) (cfix X) (k_X10_init l G cy κ S_49 _ q_48 hg_53 ha_54 hzI_q_48 hzR_q_48) ⟨(va_cnB (host := RX11) 0 X.2.2.2.1 gX11_init_X10_init_n27 rfl rfl rfl (X.2.2.2.2.2.2.2.1.2.1 (RX11, 27, yX10_init) (by decide +kernel)) (X.2.2.2.1 (.initialized RX10) (by decide +kernel)) (by decide +kernel) ⟨Nat.le_of_ble_eq_true rfl, Nat.le_of_ble_eq_true rfl⟩), rfl, (X.2.2.2.1 (.instanceMethod yX10_init) (by decide +kernel))⟩ (pre_S X hw _) rfl rfl hl.1 rfl (lv_room (Nat.le_of_ble_eq_true rfl)) dX11_init_35 ⟨(by show 4 + 1 ≤ 58; omega), (by show 621 + 400 ≤ 1728; omega)⟩) 5 1021 (by show 4 + 1 ≤ 5; omega) (by show 621 + 400 ≤ 1021; omega) (fun S_56 H locs hp hw hfr hnw => ?_)
  obtain ⟨hK_57, hg_58, ha_59, ph_60, ph_61⟩ := hp
  have hK_62 : Kq S S_56 x := hK_52.sub hn0_q_48 hK_57
  have ph_63 : Phc S_56 = Phc S + 0 := by omega
  have ph_64 : Phs S_56 = Phs S + 0 := by omega
  clear ph_50
  clear ph_51
  clear ph_60
  clear ph_61
  have t_65 : At S_42 x 191 := tAt_sR eS_42 t_41
  have t_66 : At S_49 x 191 := by rw [eS_49]; exact At_sO t_65 hq_48
  have t_67 : At S_56 x 191 := hK_57.at ha_54 t_66 (by decide)
  refine r_putR X hw t_67 rfl 5 1105 (some q_48) rfl tyX11 (by decide) rfl inn_X11_init_11 tyX11_ok nmX11 (by decide) (X.2.2.2.1 (.fieldLink RX11 28 "SilkMill" "tape" "LSilkMill$Tape;") (by decide +kernel)) rfl (Or.inr ⟨rfl, hin, rfl⟩) (fun _ => rfl) rfl (fun _ => rfl) rfl (Nat.le_of_ble_eq_true rfl) (st_1105 _ _) dX11_init_38 (fun H locs hw => ?_)
  obtain ⟨S_68, eS_68⟩ : ∃ T, T = sR S_56 1105 x (some q_48) := ⟨_, rfl⟩
  rw [← eS_68] at hw
  have ph_69 : Phc S_68 = Phc S + 0 := (show Phc S_68 = Phc S_56 from Ph_rawR t_67 (by decide) eS_68).trans ph_63
  have ph_70 : Phs S_68 = Phs S + 0 := (show Phs S_68 = Phs S_56 from Ph_rawR t_67 (by decide) eS_68).trans ph_64
  clear ph_63
  clear ph_64
  have hK_71 : Kq S S_68 x := hK_62.sR eS_68
  have hg_72 : GX S_68 := by rw [eS_68]; exact GX_rawR hg_58 t_67 (by decide +kernel)
  have h_73 : pR S_68 1105 x = some q_48 := tR_sRs eS_68
  refine lv_aload_n X.1 X.2.1 dX11_init_41 rfl (lv_at hl 0 rfl) ?_
  refine r_new X hw 186 6 1028 6 rfl tyX6 (by decide) rfl inn_X11_init_6 tyX6_ok (X.2.2.2.1 (.classLink RX11 32 RX6) (by decide +kernel)) (X.2.2.2.1 (.instantiable RX6 7) (by decide +kernel)) (X.2.2.2.1 (.initialized RX6) (by decide +kernel)) (zo_6 _) zd_6 (by show 5 + 1 ≤ 6; omega) (by show 1021 + 7 ≤ 1028; omega) (by show 6 ≤ 58; omega) (by show 1028 ≤ 1728; omega) dX11_init_42 (fun q_74 H hq_74 hw => ?_)
  obtain ⟨S_75, eS_75⟩ : ∃ T, T = sO S_68 q_74 186 := ⟨_, rfl⟩
  rw [← eS_75] at hw
  have ph_76 : Phc S_75 = Phc S + 0 := (show Phc S_75 = Phc S_68 from Ph_sO hg_72 hq_74 eS_75 (by decide)).trans ph_69
  have ph_77 : Phs S_75 = Phs S + 0 := (show Phs S_75 = Phs S_68 from Ph_sO hg_72 hq_74 eS_75 (by decide)).trans ph_70
  clear ph_69
  clear ph_70
  have hK_78 : Kq S S_75 x := hK_71.sO hq_74 eS_75
  have hg_79 : GX S_75 := by rw [eS_75]; exact GX_O hg_72 hq_74 (by decide +kernel)
  have hn0_q_74 := hK_71.new hq_74
  have ha_80 : At S_75 q_74 186 := by rw [eS_75]; exact At_nO _ _ _
  have hzI_q_74 : ∀ g, pI S_75 g q_74 = 0 := fun g => by rw [eS_75]; exact pI_sO_new
  have hzR_q_74 : ∀ g, pR S_75 g q_74 = none := fun g => by rw [eS_75]; exact if_pos rfl
  refine lv_dup X.1 X.2.1 dX11_init_45 rfl ?_
  refine k_v (rm := { frames := 2, cells := 6, slots := 180, locals := 96 }) (av := [.ref q_74]) X hw (va_runIN (As := []) (rest := [.ref q_74, .ref x]) (cfix X) (k_X6_init l G cy κ S_75 _ q_74 hg_79 ha_80 hzI_q_74 hzR_q_74) ⟨(va_cnB (host := RX11) 0 X.2.2.2.1 gX11_init_X6_init_n34 rfl rfl rfl (X.2.2.2.2.2.2.2.1.2.1 (RX11, 34, yX6_init) (by decide +kernel)) (X.2.2.2.1 (.initialized RX6) (by decide +kernel)) (by decide +kernel) ⟨Nat.le_of_ble_eq_true rfl, Nat.le_of_ble_eq_true rfl⟩), rfl, (X.2.2.2.1 (.instanceMethod yX6_init) (by decide +kernel))⟩ (pre_S X hw _) rfl rfl hl.1 rfl (lv_room (Nat.le_of_ble_eq_true rfl)) dX11_init_46 ⟨(by show 6 + 6 ≤ 58; omega), (by show 1028 + 180 ≤ 1728; omega)⟩) 12 1208 (by show 6 + 6 ≤ 12; omega) (by show 1028 + 180 ≤ 1208; omega) (fun S_82 H locs hp hw hfr hnw => ?_)
  obtain ⟨hK_83, hg_84, ha_85, ph_86, ph_87⟩ := hp
  have hK_88 : Kq S S_82 x := hK_78.sub hn0_q_74 hK_83
  have ph_89 : Phc S_82 = Phc S + 0 := by omega
  have ph_90 : Phs S_82 = Phs S + 0 := by omega
  clear ph_76
  clear ph_77
  clear ph_86
  clear ph_87
  have t_91 : At S_68 x 191 := tAt_sR eS_68 t_67
  have t_92 : At S_75 x 191 := by rw [eS_75]; exact At_sO t_91 hq_74
  have t_93 : At S_82 x 191 := hK_83.at ha_80 t_92 (by decide)
  refine r_putR X hw t_93 rfl 6 1106 (some q_74) rfl tyX11 (by decide) rfl inn_X11_init_11 tyX11_ok nmX11 (by decide) (X.2.2.2.1 (.fieldLink RX11 35 "SilkMill" "spareRules" "LSilkMill$Rules;") (by decide +kernel)) rfl (Or.inl rfl) (fun _ => rfl) rfl (fun _ => rfl) rfl (Nat.le_of_ble_eq_true rfl) (st_1106 _ _) dX11_init_49 (fun H locs hw => ?_)
  obtain ⟨S_94, eS_94⟩ : ∃ T, T = sR S_82 1106 x (some q_74) := ⟨_, rfl⟩
  rw [← eS_94] at hw
  have ph_95 : Phc S_94 = Phc S + 0 := (show Phc S_94 = Phc S_82 from Ph_rawR t_93 (by decide) eS_94).trans ph_89
  have ph_96 : Phs S_94 = Phs S + 0 := (show Phs S_94 = Phs S_82 from Ph_rawR t_93 (by decide) eS_94).trans ph_90
  clear ph_89
  clear ph_90
  have hK_97 : Kq S S_94 x := hK_88.sR eS_94
  have hg_98 : GX S_94 := by rw [eS_94]; exact GX_rawR hg_84 t_93 (by decide +kernel)
  have h_99 : pR S_94 1106 x = some q_74 := tR_sRs eS_94
  refine lv_aload_n X.1 X.2.1 dX11_init_52 rfl (lv_at hl 0 rfl) ?_
  refine r_new X hw 188 8 1221 13 rfl tyX8 (by decide) rfl inn_X11_init_8 tyX8_ok (X.2.2.2.1 (.classLink RX11 39 RX8) (by decide +kernel)) (X.2.2.2.1 (.instantiable RX8 13) (by decide +kernel)) (X.2.2.2.1 (.initialized RX8) (by decide +kernel)) (zo_8 _) zd_8 (by show 12 + 1 ≤ 13; omega) (by show 1208 + 13 ≤ 1221; omega) (by show 13 ≤ 58; omega) (by show 1221 ≤ 1728; omega) dX11_init_53 (fun q_100 H hq_100 hw => ?_)
  obtain ⟨S_101, eS_101⟩ : ∃ T, T = sO S_94 q_100 188 := ⟨_, rfl⟩
  rw [← eS_101] at hw
  have ph_102 : Phc S_101 = Phc S + 0 := (show Phc S_101 = Phc S_94 from Ph_sO hg_98 hq_100 eS_101 (by decide)).trans ph_95
  have ph_103 : Phs S_101 = Phs S + 0 := (show Phs S_101 = Phs S_94 from Ph_sO hg_98 hq_100 eS_101 (by decide)).trans ph_96
  clear ph_95
  clear ph_96
  have hK_104 : Kq S S_101 x := hK_97.sO hq_100 eS_101
  have hg_105 : GX S_101 := by rw [eS_101]; exact GX_O hg_98 hq_100 (by decide +kernel)
  have hn0_q_100 := hK_97.new hq_100
  have ha_106 : At S_101 q_100 188 := by rw [eS_101]; exact At_nO _ _ _
  have hzI_q_100 : ∀ g, pI S_101 g q_100 = 0 := fun g => by rw [eS_101]; exact pI_sO_new
  have hzR_q_100 : ∀ g, pR S_101 g q_100 = none := fun g => by rw [eS_101]; exact if_pos rfl
  refine lv_dup X.1 X.2.1 dX11_init_56 rfl ?_
  refine k_v (rm := { frames := 3, cells := 9, slots := 214, locals := 144 }) (av := [.ref q_100]) X hw (va_runIN (As := []) (rest := [.ref q_100, .ref x]) (cfix X) (k_X8_init l G cy κ S_101 _ q_100 hg_105 ha_106 hzI_q_100 hzR_q_100) ⟨(va_cnB (host := RX11) 0 X.2.2.2.1 gX11_init_X8_init_n41 rfl rfl rfl (X.2.2.2.2.2.2.2.1.2.1 (RX11, 41, yX8_init) (by decide +kernel)) (X.2.2.2.1 (.initialized RX8) (by decide +kernel)) (by decide +kernel) ⟨Nat.le_of_ble_eq_true rfl, Nat.le_of_ble_eq_true rfl⟩), rfl, (X.2.2.2.1 (.instanceMethod yX8_init) (by decide +kernel))⟩ (pre_S X hw _) rfl rfl hl.1 rfl (lv_room (Nat.le_of_ble_eq_true rfl)) dX11_init_57 ⟨(by show 13 + 9 ≤ 58; omega), (by show 1221 + 214 ≤ 1728; omega)⟩) 22 1435 (by show 13 + 9 ≤ 22; omega) (by show 1221 + 214 ≤ 1435; omega) (fun S_108 H locs hp hw hfr hnw => ?_)
  obtain ⟨hK_109, hg_110, ha_111, ph_112, ph_113⟩ := hp
  have hK_114 : Kq S S_108 x := hK_104.sub hn0_q_100 hK_109
  have ph_115 : Phc S_108 = Phc S + 320 := by omega
  have ph_116 : Phs S_108 = Phs S + 604000 := by omega
  clear ph_102
  clear ph_103
  clear ph_112
  clear ph_113
  have t_117 : At S_94 x 191 := tAt_sR eS_94 t_93
  have t_118 : At S_101 x 191 := by rw [eS_101]; exact At_sO t_117 hq_100
  have t_119 : At S_108 x 191 := hK_109.at ha_106 t_118 (by decide)
  refine r_putR X hw t_119 rfl 7 1107 (some q_100) rfl tyX11 (by decide) rfl inn_X11_init_11 tyX11_ok nmX11 (by decide) (X.2.2.2.1 (.fieldLink RX11 42 "SilkMill" "store" "LSilkMill$Store;") (by decide +kernel)) rfl (Or.inr ⟨rfl, hin, rfl⟩) (fun _ => rfl) rfl (fun _ => rfl) rfl (Nat.le_of_ble_eq_true rfl) (st_1107 _ _) dX11_init_60 (fun H locs hw => ?_)
  obtain ⟨S_120, eS_120⟩ : ∃ T, T = sR S_108 1107 x (some q_100) := ⟨_, rfl⟩
  rw [← eS_120] at hw
  have ph_121 : Phc S_120 = Phc S + 320 := (show Phc S_120 = Phc S_108 from Ph_rawR t_119 (by decide) eS_120).trans ph_115
  have ph_122 : Phs S_120 = Phs S + 604000 := (show Phs S_120 = Phs S_108 from Ph_rawR t_119 (by decide) eS_120).trans ph_116
  clear ph_115
  clear ph_116
  have hK_123 : Kq S S_120 x := hK_114.sR eS_120
  have hg_124 : GX S_120 := by rw [eS_120]; exact GX_rawR hg_110 t_119 (by decide +kernel)
  have h_125 : pR S_120 1107 x = some q_100 := tR_sRs eS_120
  refine lv_aload_n X.1 X.2.1 dX11_init_63 rfl (lv_at hl 0 rfl) ?_
  refine r_new X hw 181 1 1439 23 rfl tyX1 (by decide) rfl inn_X11_init_1 tyX1_ok (X.2.2.2.1 (.classLink RX11 46 RX1) (by decide +kernel)) (X.2.2.2.1 (.instantiable RX1 4) (by decide +kernel)) (X.2.2.2.1 (.initialized RX1) (by decide +kernel)) (zo_1 _) zd_1 (by show 22 + 1 ≤ 23; omega) (by show 1435 + 4 ≤ 1439; omega) (by show 23 ≤ 58; omega) (by show 1439 ≤ 1728; omega) dX11_init_64 (fun q_126 H hq_126 hw => ?_)
  obtain ⟨S_127, eS_127⟩ : ∃ T, T = sO S_120 q_126 181 := ⟨_, rfl⟩
  rw [← eS_127] at hw
  have ph_128 : Phc S_127 = Phc S + 320 := (show Phc S_127 = Phc S_120 from Ph_sO hg_124 hq_126 eS_127 (by decide)).trans ph_121
  have ph_129 : Phs S_127 = Phs S + 604000 := (show Phs S_127 = Phs S_120 from Ph_sO hg_124 hq_126 eS_127 (by decide)).trans ph_122
  clear ph_121
  clear ph_122
  have hK_130 : Kq S S_127 x := hK_123.sO hq_126 eS_127
  have hg_131 : GX S_127 := by rw [eS_127]; exact GX_O hg_124 hq_126 (by decide +kernel)
  have hn0_q_126 := hK_123.new hq_126
  have ha_132 : At S_127 q_126 181 := by rw [eS_127]; exact At_nO _ _ _
  have hzI_q_126 : ∀ g, pI S_127 g q_126 = 0 := fun g => by rw [eS_127]; exact pI_sO_new
  have hzR_q_126 : ∀ g, pR S_127 g q_126 = none := fun g => by rw [eS_127]; exact if_pos rfl
  refine lv_dup X.1 X.2.1 dX11_init_67 rfl ?_
  refine k_v (rm := { frames := 2, cells := 1, slots := 5, locals := 96 }) (av := [.ref q_126]) X hw (va_runIN (As := []) (rest := [.ref q_126, .ref x]) (cfix X) (k_X1_init l G cy κ S_127 _ q_126 hg_131 ha_132 hzI_q_126 hzR_q_126) ⟨(va_cnB (host := RX11) 0 X.2.2.2.1 gX11_init_X1_init_n48 rfl rfl rfl (X.2.2.2.2.2.2.2.1.2.1 (RX11, 48, yX1_init) (by decide +kernel)) (X.2.2.2.1 (.initialized RX1) (by decide +kernel)) (by decide +kernel) ⟨Nat.le_of_ble_eq_true rfl, Nat.le_of_ble_eq_true rfl⟩), rfl, (X.2.2.2.1 (.instanceMethod yX1_init) (by decide +kernel))⟩ (pre_S X hw _) rfl rfl hl.1 rfl (lv_room (Nat.le_of_ble_eq_true rfl)) dX11_init_68 ⟨(by show 23 + 1 ≤ 58; omega), (by show 1439 + 5 ≤ 1728; omega)⟩) 24 1444 (by show 23 + 1 ≤ 24; omega) (by show 1439 + 5 ≤ 1444; omega) (fun S_134 H locs hp hw hfr hnw => ?_)
  obtain ⟨hK_135, hg_136, ha_137, ph_138, ph_139⟩ := hp
  have hK_140 : Kq S S_134 x := hK_130.sub hn0_q_126 hK_135
  have ph_141 : Phc S_134 = Phc S + 320 := by omega
  have ph_142 : Phs S_134 = Phs S + 604000 := by omega
  clear ph_128
  clear ph_129
  clear ph_138
  clear ph_139
  have t_143 : At S_120 x 191 := tAt_sR eS_120 t_119
  have t_144 : At S_127 x 191 := by rw [eS_127]; exact At_sO t_143 hq_126
  have t_145 : At S_134 x 191 := hK_135.at ha_132 t_144 (by decide)
  refine r_putR X hw t_145 rfl 8 1108 (some q_126) rfl tyX11 (by decide) rfl inn_X11_init_11 tyX11_ok nmX11 (by decide) (X.2.2.2.1 (.fieldLink RX11 49 "SilkMill" "latestDraw" "LSilkMill$Draw;") (by decide +kernel)) rfl (Or.inr ⟨rfl, hin, rfl⟩) (fun _ => rfl) rfl (fun _ => rfl) rfl (Nat.le_of_ble_eq_true rfl) (st_1108 _ _) dX11_init_71 (fun H locs hw => ?_)
  obtain ⟨S_146, eS_146⟩ : ∃ T, T = sR S_134 1108 x (some q_126) := ⟨_, rfl⟩
  rw [← eS_146] at hw
  have ph_147 : Phc S_146 = Phc S + 320 := (show Phc S_146 = Phc S_134 from Ph_rawR t_145 (by decide) eS_146).trans ph_141
  have ph_148 : Phs S_146 = Phs S + 604000 := (show Phs S_146 = Phs S_134 from Ph_rawR t_145 (by decide) eS_146).trans ph_142
  clear ph_141
  clear ph_142
  have hK_149 : Kq S S_146 x := hK_140.sR eS_146
  have hg_150 : GX S_146 := by rw [eS_146]; exact GX_rawR hg_136 t_145 (by decide +kernel)
  have h_151 : pR S_146 1108 x = some q_126 := tR_sRs eS_146
  refine lv_aload_n X.1 X.2.1 dX11_init_74 rfl (lv_at hl 0 rfl) ?_
  refine lv_bipush (v := 16) X.1 X.2.1 dX11_init_75 (by decide) ?_
  refine r_newQ (N := 16) (C := RX3) X hw 17 17 1460 25 rfl (by decide) rfl (X.2.2.2.1 (.classLink RX11 53 RX3) (by decide +kernel)) X.2.2.2.2.2.2.2.1.1.2.1 (z_nn ti_16 (by omega)) (by decide) (by decide) (by show 24 + 1 ≤ 25; omega) (by show 1444 + 16 ≤ 1460; omega) (by show 25 ≤ 58; omega) (by show 1460 ≤ 1728; omega) dX11_init_77 (fun q_152 H hq_152 hw => ?_)
  obtain ⟨S_153, eS_153⟩ : ∃ T, T = sN S_146 q_152 17 16 := ⟨_, rfl⟩
  rw [← eS_153] at hw
  have ph_154 : Phc S_153 = Phc S + 320 := (show Phc S_153 = Phc S_146 from Ph_sN' hg_150.ci hq_152 eS_153 (by decide)).trans ph_147
  have ph_155 : Phs S_153 = Phs S + 604000 := (show Phs S_153 = Phs S_146 from Ph_sN' hg_150.ci hq_152 eS_153 (by decide)).trans ph_148
  clear ph_147
  clear ph_148
  have hK_156 : Kq S S_153 x := hK_149.sN hq_152 eS_153
  have hg_157 : GX S_153 := by rw [eS_153]; exact GX_N hg_150 hq_152 (by decide +kernel)
  have hn0_q_152 := hK_149.new hq_152
  have ha_158 : At S_153 q_152 17 := by rw [eS_153]; exact At_nN _ _ _ _
  have hn_159 : pN S_153 q_152 = 16 := by rw [eS_153]; exact pN_sN_new
  have t_160 : At S_146 x 191 := tAt_sR eS_146 t_145
  have t_161 : At S_153 x 191 := by rw [eS_153]; exact At_sN t_160 hq_152
  refine r_putR X hw t_161 rfl 9 1109 (some q_152) rfl tyX11 (by decide) rfl inn_X11_init_11 tyX11_ok nmX11 (by decide) (X.2.2.2.1 (.fieldLink RX11 55 "SilkMill" "shelf" "[LSilkMill$Place;") (by decide +kernel)) rfl (Or.inr ⟨rfl, hin, rfl⟩) (fun _ => rfl) rfl (fun _ => rfl) rfl (Nat.le_of_ble_eq_true rfl) (st_1109 _ _) dX11_init_80 (fun H locs hw => ?_)
  obtain ⟨S_162, eS_162⟩ : ∃ T, T = sR S_153 1109 x (some q_152) := ⟨_, rfl⟩
  rw [← eS_162] at hw
  have ph_163 : Phc S_162 = Phc S + 320 := (show Phc S_162 = Phc S_153 from Ph_rawR t_161 (by decide) eS_162).trans ph_154
  have ph_164 : Phs S_162 = Phs S + 604000 := (show Phs S_162 = Phs S_153 from Ph_rawR t_161 (by decide) eS_162).trans ph_155
  clear ph_154
  clear ph_155
  have hK_165 : Kq S S_162 x := hK_156.sR eS_162
  have hg_166 : GX S_162 := by rw [eS_162]; exact GX_rawR hg_157 t_161 (by decide +kernel)
  have h_167 : pR S_162 1109 x = some q_152 := tR_sRs eS_162
  refine lv_aload_n X.1 X.2.1 dX11_init_83 rfl (lv_at hl 0 rfl) ?_
  refine lv_bipush (v := 60) X.1 X.2.1 dX11_init_84 (by decide) ?_
  refine r_newI (N := 60) X hw 14 1520 26 rfl (X.2.2.2.1 (.arrayClass .int) (by decide +kernel)) (z_nn ti_60 (by omega)) (by decide) (by decide) (by show 25 + 1 ≤ 26; omega) (by show 1460 + 60 ≤ 1520; omega) (by show 26 ≤ 58; omega) (by show 1520 ≤ 1728; omega) dX11_init_86 (fun q_168 H hq_168 hw => ?_)
  obtain ⟨S_169, eS_169⟩ : ∃ T, T = sN S_162 q_168 14 60 := ⟨_, rfl⟩
  rw [← eS_169] at hw
  have ph_170 : Phc S_169 = Phc S + 320 := (show Phc S_169 = Phc S_162 from Ph_sN' hg_166.ci hq_168 eS_169 (by decide)).trans ph_163
  have ph_171 : Phs S_169 = Phs S + 604000 := (show Phs S_169 = Phs S_162 from Ph_sN' hg_166.ci hq_168 eS_169 (by decide)).trans ph_164
  clear ph_163
  clear ph_164
  have hK_172 : Kq S S_169 x := hK_165.sN hq_168 eS_169
  have hg_173 : GX S_169 := by rw [eS_169]; exact GX_N hg_166 hq_168 (by decide +kernel)
  have hn0_q_168 := hK_165.new hq_168
  have ha_174 : At S_169 q_168 14 := by rw [eS_169]; exact At_nN _ _ _ _
  have hn_175 : pN S_169 q_168 = 60 := by rw [eS_169]; exact pN_sN_new
  have t_176 : At S_162 x 191 := tAt_sR eS_162 t_161
  have t_177 : At S_169 x 191 := by rw [eS_169]; exact At_sN t_176 hq_168
  refine r_putR X hw t_177 rfl 11 1111 (some q_168) rfl tyX11 (by decide) rfl inn_X11_init_11 tyX11_ok nmX11 (by decide) (X.2.2.2.1 (.fieldLink RX11 59 "SilkMill" "idle" "[I") (by decide +kernel)) rfl (Or.inr ⟨rfl, hin, rfl⟩) (fun _ => rfl) rfl (fun _ => rfl) rfl (Nat.le_of_ble_eq_true rfl) (st_1111 _ _) dX11_init_88 (fun H locs hw => ?_)
  obtain ⟨S_178, eS_178⟩ : ∃ T, T = sR S_169 1111 x (some q_168) := ⟨_, rfl⟩
  rw [← eS_178] at hw
  have ph_179 : Phc S_178 = Phc S + 320 := (show Phc S_178 = Phc S_169 from Ph_rawR t_177 (by decide) eS_178).trans ph_170
  have ph_180 : Phs S_178 = Phs S + 604000 := (show Phs S_178 = Phs S_169 from Ph_rawR t_177 (by decide) eS_178).trans ph_171
  clear ph_170
  clear ph_171
  have hK_181 : Kq S S_178 x := hK_172.sR eS_178
  have hg_182 : GX S_178 := by rw [eS_178]; exact GX_rawR hg_173 t_177 (by decide +kernel)
  have h_183 : pR S_178 1111 x = some q_168 := tR_sRs eS_178
  refine lv_iconst (v := 0) X.1 X.2.1 dX11_init_91 (by decide) ?_
  refine lv_istore_n (lv' := [(1, .int 0), (0, .ref x)]) X.1 X.2.1 dX11_init_92 rfl hl (by decide) rfl (fun ls hl => ?_)
  have t_188 : pI S_2 1102 x = 0 := by rw [eS_2, pI_sN]; exact (hzI 1102)
  have t_189 : pI S_10 1102 x = 0 := tI_sR eS_10 t_188
  have t_190 : pI S_17 1102 x = 0 := by rw [eS_17, pI_sN]; exact t_189
  have t_191 : pI S_26 1102 x = 0 := tI_sR eS_26 t_190
  have t_192 : pI S_33 1102 x = 0 := by rw [eS_33, pI_sN]; exact t_191
  have t_193 : pI S_42 1102 x = 0 := tI_sR eS_42 t_192
  have t_195 : At S_42 x 191 := tAt_sR eS_42 t_41
  have t_194 : pI S_49 1102 x = 0 := by rw [eS_49]; exact (pI_sO_ne (ne_of_new hq_48 t_195.1)).trans t_193
  have t_197 : At S_49 x 191 := by rw [eS_49]; exact At_sO t_195 hq_48
  have t_196 : pI S_56 1102 x = 0 := (((hK_57 x t_197.1).2 (At_ne t_197 ha_54 (by decide))).2.1 1102).trans t_194
  have t_198 : pI S_68 1102 x = 0 := tI_sR eS_68 t_196
  have t_200 : At S_68 x 191 := tAt_sR eS_68 t_67
  have t_199 : pI S_75 1102 x = 0 := by rw [eS_75]; exact (pI_sO_ne (ne_of_new hq_74 t_200.1)).trans t_198
  have t_202 : At S_75 x 191 := by rw [eS_75]; exact At_sO t_200 hq_74
  have t_201 : pI S_82 1102 x = 0 := (((hK_83 x t_202.1).2 (At_ne t_202 ha_80 (by decide))).2.1 1102).trans t_199
  have t_203 : pI S_94 1102 x = 0 := tI_sR eS_94 t_201
  have t_205 : At S_94 x 191 := tAt_sR eS_94 t_93
  have t_204 : pI S_101 1102 x = 0 := by rw [eS_101]; exact (pI_sO_ne (ne_of_new hq_100 t_205.1)).trans t_203
  have t_207 : At S_101 x 191 := by rw [eS_101]; exact At_sO t_205 hq_100
  have t_206 : pI S_108 1102 x = 0 := (((hK_109 x t_207.1).2 (At_ne t_207 ha_106 (by decide))).2.1 1102).trans t_204
  have t_208 : pI S_120 1102 x = 0 := tI_sR eS_120 t_206
  have t_210 : At S_120 x 191 := tAt_sR eS_120 t_119
  have t_209 : pI S_127 1102 x = 0 := by rw [eS_127]; exact (pI_sO_ne (ne_of_new hq_126 t_210.1)).trans t_208
  have t_212 : At S_127 x 191 := by rw [eS_127]; exact At_sO t_210 hq_126
  have t_211 : pI S_134 1102 x = 0 := (((hK_135 x t_212.1).2 (At_ne t_212 ha_132 (by decide))).2.1 1102).trans t_209
  have t_213 : pI S_146 1102 x = 0 := tI_sR eS_146 t_211
  have t_214 : pI S_153 1102 x = 0 := by rw [eS_153, pI_sN]; exact t_213
  have t_215 : pI S_162 1102 x = 0 := tI_sR eS_162 t_214
  have t_216 : pI S_169 1102 x = 0 := by rw [eS_169, pI_sN]; exact t_215
  have t_217 : pI S_178 1102 x = 0 := tI_sR eS_178 t_216
  have t_219 : pI S_2 1104 x = 0 := by rw [eS_2, pI_sN]; exact (hzI 1104)
  have t_220 : pI S_10 1104 x = 0 := tI_sR eS_10 t_219
  have t_221 : pI S_17 1104 x = 0 := by rw [eS_17, pI_sN]; exact t_220
  have t_222 : pI S_26 1104 x = 0 := tI_sR eS_26 t_221
  have t_223 : pI S_33 1104 x = 0 := by rw [eS_33, pI_sN]; exact t_222
  have t_224 : pI S_42 1104 x = 0 := tI_sR eS_42 t_223
  have t_225 : pI S_49 1104 x = 0 := by rw [eS_49]; exact (pI_sO_ne (ne_of_new hq_48 t_195.1)).trans t_224
  have t_226 : pI S_56 1104 x = 0 := (((hK_57 x t_197.1).2 (At_ne t_197 ha_54 (by decide))).2.1 1104).trans t_225
  have t_227 : pI S_68 1104 x = 0 := tI_sR eS_68 t_226
  have t_228 : pI S_75 1104 x = 0 := by rw [eS_75]; exact (pI_sO_ne (ne_of_new hq_74 t_200.1)).trans t_227
  have t_229 : pI S_82 1104 x = 0 := (((hK_83 x t_202.1).2 (At_ne t_202 ha_80 (by decide))).2.1 1104).trans t_228
  have t_230 : pI S_94 1104 x = 0 := tI_sR eS_94 t_229
  have t_231 : pI S_101 1104 x = 0 := by rw [eS_101]; exact (pI_sO_ne (ne_of_new hq_100 t_205.1)).trans t_230
  have t_232 : pI S_108 1104 x = 0 := (((hK_109 x t_207.1).2 (At_ne t_207 ha_106 (by decide))).2.1 1104).trans t_231
  have t_233 : pI S_120 1104 x = 0 := tI_sR eS_120 t_232
  have t_234 : pI S_127 1104 x = 0 := by rw [eS_127]; exact (pI_sO_ne (ne_of_new hq_126 t_210.1)).trans t_233
  have t_235 : pI S_134 1104 x = 0 := (((hK_135 x t_212.1).2 (At_ne t_212 ha_132 (by decide))).2.1 1104).trans t_234
  have t_236 : pI S_146 1104 x = 0 := tI_sR eS_146 t_235
  have t_237 : pI S_153 1104 x = 0 := by rw [eS_153, pI_sN]; exact t_236
  have t_238 : pI S_162 1104 x = 0 := tI_sR eS_162 t_237
  have t_239 : pI S_169 1104 x = 0 := by rw [eS_169, pI_sN]; exact t_238
  have t_240 : pI S_178 1104 x = 0 := tI_sR eS_178 t_239
  have t_242 : pR S_17 1100 x = some q_1 := by rw [eS_17, pR_sN]; exact h_15
  have t_243 : pR S_26 1100 x = some q_1 := tR_sR eS_26 rfl t_242
  have t_244 : pR S_33 1100 x = some q_1 := by rw [eS_33, pR_sN]; exact t_243
  have t_245 : pR S_42 1100 x = some q_1 := tR_sR eS_42 rfl t_244
  have t_246 : pR S_49 1100 x = some q_1 := by rw [eS_49]; exact (pR_sO_ne (ne_of_new hq_48 t_195.1)).trans t_245
  have t_247 : pR S_56 1100 x = some q_1 := (((hK_57 x t_197.1).2 (At_ne t_197 ha_54 (by decide))).2.2.1 1100).trans t_246
  have t_248 : pR S_68 1100 x = some q_1 := tR_sR eS_68 rfl t_247
  have t_249 : pR S_75 1100 x = some q_1 := by rw [eS_75]; exact (pR_sO_ne (ne_of_new hq_74 t_200.1)).trans t_248
  have t_250 : pR S_82 1100 x = some q_1 := (((hK_83 x t_202.1).2 (At_ne t_202 ha_80 (by decide))).2.2.1 1100).trans t_249
  have t_251 : pR S_94 1100 x = some q_1 := tR_sR eS_94 rfl t_250
  have t_252 : pR S_101 1100 x = some q_1 := by rw [eS_101]; exact (pR_sO_ne (ne_of_new hq_100 t_205.1)).trans t_251
  have t_253 : pR S_108 1100 x = some q_1 := (((hK_109 x t_207.1).2 (At_ne t_207 ha_106 (by decide))).2.2.1 1100).trans t_252
  have t_254 : pR S_120 1100 x = some q_1 := tR_sR eS_120 rfl t_253
  have t_255 : pR S_127 1100 x = some q_1 := by rw [eS_127]; exact (pR_sO_ne (ne_of_new hq_126 t_210.1)).trans t_254
  have t_256 : pR S_134 1100 x = some q_1 := (((hK_135 x t_212.1).2 (At_ne t_212 ha_132 (by decide))).2.2.1 1100).trans t_255
  have t_257 : pR S_146 1100 x = some q_1 := tR_sR eS_146 rfl t_256
  have t_258 : pR S_153 1100 x = some q_1 := by rw [eS_153, pR_sN]; exact t_257
  have t_259 : pR S_162 1100 x = some q_1 := tR_sR eS_162 rfl t_258
  have t_260 : pR S_169 1100 x = some q_1 := by rw [eS_169, pR_sN]; exact t_259
  have t_261 : pR S_178 1100 x = some q_1 := tR_sR eS_178 rfl t_260
  have t_264 : pN S_10 q_1 = 600 := tN_sR eS_10 hn_8
  clear hn_8
  have t_266 : At S_10 q_1 16 := tAt_sR eS_10 ha_7
  have t_265 : pN S_17 q_1 = 600 := by rw [eS_17]; exact (pN_sN_ne (ne_of_new hq_16 t_266.1)).trans t_264
  clear t_264
  have t_267 : pN S_26 q_1 = 600 := tN_sR eS_26 t_265
  clear t_265
  have t_269 : At S_17 q_1 16 := by rw [eS_17]; exact At_sN t_266 hq_16
  have t_270 : At S_26 q_1 16 := tAt_sR eS_26 t_269
  have t_268 : pN S_33 q_1 = 600 := by rw [eS_33]; exact (pN_sN_ne (ne_of_new hq_32 t_270.1)).trans t_267
  clear t_267
  have t_271 : pN S_42 q_1 = 600 := tN_sR eS_42 t_268
  clear t_268
  have t_272 : pN S_49 q_1 = 600 := by rw [eS_49, pN_sO]; exact t_271
  clear t_271
  have t_274 : At S_33 q_1 16 := by rw [eS_33]; exact At_sN t_270 hq_32
  have t_275 : At S_42 q_1 16 := tAt_sR eS_42 t_274
  have t_276 : At S_49 q_1 16 := by rw [eS_49]; exact At_sO t_275 hq_48
  have t_273 : pN S_56 q_1 = 600 := ((hK_57 q_1 t_276.1).2 (At_ne t_276 ha_54 (by decide))).2.2.2.1.trans t_272
  clear t_272
  have t_277 : pN S_68 q_1 = 600 := tN_sR eS_68 t_273
  clear t_273
  have t_278 : pN S_75 q_1 = 600 := by rw [eS_75, pN_sO]; exact t_277
  clear t_277
  have t_280 : At S_56 q_1 16 := hK_57.at ha_54 t_276 (by decide)
  have t_281 : At S_68 q_1 16 := tAt_sR eS_68 t_280
  have t_282 : At S_75 q_1 16 := by rw [eS_75]; exact At_sO t_281 hq_74
  have t_279 : pN S_82 q_1 = 600 := ((hK_83 q_1 t_282.1).2 (At_ne t_282 ha_80 (by decide))).2.2.2.1.trans t_278
  clear t_278
  have t_283 : pN S_94 q_1 = 600 := tN_sR eS_94 t_279
  clear t_279
  have t_284 : pN S_101 q_1 = 600 := by rw [eS_101, pN_sO]; exact t_283
  clear t_283
  have t_286 : At S_82 q_1 16 := hK_83.at ha_80 t_282 (by decide)
  have t_287 : At S_94 q_1 16 := tAt_sR eS_94 t_286
  have t_288 : At S_101 q_1 16 := by rw [eS_101]; exact At_sO t_287 hq_100
  have t_285 : pN S_108 q_1 = 600 := ((hK_109 q_1 t_288.1).2 (At_ne t_288 ha_106 (by decide))).2.2.2.1.trans t_284
  clear t_284
  have t_289 : pN S_120 q_1 = 600 := tN_sR eS_120 t_285
  clear t_285
  have t_290 : pN S_127 q_1 = 600 := by rw [eS_127, pN_sO]; exact t_289
  clear t_289
  have t_292 : At S_108 q_1 16 := hK_109.at ha_106 t_288 (by decide)
  have t_293 : At S_120 q_1 16 := tAt_sR eS_120 t_292
  have t_294 : At S_127 q_1 16 := by rw [eS_127]; exact At_sO t_293 hq_126
  have t_291 : pN S_134 q_1 = 600 := ((hK_135 q_1 t_294.1).2 (At_ne t_294 ha_132 (by decide))).2.2.2.1.trans t_290
  clear t_290
  have t_295 : pN S_146 q_1 = 600 := tN_sR eS_146 t_291
  clear t_291
  have t_297 : At S_134 q_1 16 := hK_135.at ha_132 t_294 (by decide)
  have t_298 : At S_146 q_1 16 := tAt_sR eS_146 t_297
  have t_296 : pN S_153 q_1 = 600 := by rw [eS_153]; exact (pN_sN_ne (ne_of_new hq_152 t_298.1)).trans t_295
  clear t_295
  have t_299 : pN S_162 q_1 = 600 := tN_sR eS_162 t_296
  clear t_296
  have t_301 : At S_153 q_1 16 := by rw [eS_153]; exact At_sN t_298 hq_152
  have t_302 : At S_162 q_1 16 := tAt_sR eS_162 t_301
  have t_300 : pN S_169 q_1 = 600 := by rw [eS_169]; exact (pN_sN_ne (ne_of_new hq_168 t_302.1)).trans t_299
  clear t_299
  have t_303 : pN S_178 q_1 = 600 := tN_sR eS_178 t_300
  clear t_300
  have t_305 : pR S_33 1101 x = some q_16 := by rw [eS_33, pR_sN]; exact h_31
  have t_306 : pR S_42 1101 x = some q_16 := tR_sR eS_42 rfl t_305
  have t_307 : pR S_49 1101 x = some q_16 := by rw [eS_49]; exact (pR_sO_ne (ne_of_new hq_48 t_195.1)).trans t_306
  have t_308 : pR S_56 1101 x = some q_16 := (((hK_57 x t_197.1).2 (At_ne t_197 ha_54 (by decide))).2.2.1 1101).trans t_307
  have t_309 : pR S_68 1101 x = some q_16 := tR_sR eS_68 rfl t_308
  have t_310 : pR S_75 1101 x = some q_16 := by rw [eS_75]; exact (pR_sO_ne (ne_of_new hq_74 t_200.1)).trans t_309
  have t_311 : pR S_82 1101 x = some q_16 := (((hK_83 x t_202.1).2 (At_ne t_202 ha_80 (by decide))).2.2.1 1101).trans t_310
  have t_312 : pR S_94 1101 x = some q_16 := tR_sR eS_94 rfl t_311
  have t_313 : pR S_101 1101 x = some q_16 := by rw [eS_101]; exact (pR_sO_ne (ne_of_new hq_100 t_205.1)).trans t_312
  have t_314 : pR S_108 1101 x = some q_16 := (((hK_109 x t_207.1).2 (At_ne t_207 ha_106 (by decide))).2.2.1 1101).trans t_313
  have t_315 : pR S_120 1101 x = some q_16 := tR_sR eS_120 rfl t_314
  have t_316 : pR S_127 1101 x = some q_16 := by rw [eS_127]; exact (pR_sO_ne (ne_of_new hq_126 t_210.1)).trans t_315
  have t_317 : pR S_134 1101 x = some q_16 := (((hK_135 x t_212.1).2 (At_ne t_212 ha_132 (by decide))).2.2.1 1101).trans t_316
  have t_318 : pR S_146 1101 x = some q_16 := tR_sR eS_146 rfl t_317
  have t_319 : pR S_153 1101 x = some q_16 := by rw [eS_153, pR_sN]; exact t_318
  have t_320 : pR S_162 1101 x = some q_16 := tR_sR eS_162 rfl t_319
  have t_321 : pR S_169 1101 x = some q_16 := by rw [eS_169, pR_sN]; exact t_320
  have t_322 : pR S_178 1101 x = some q_16 := tR_sR eS_178 rfl t_321
  have t_325 : pN S_26 q_16 = 10 := tN_sR eS_26 hn_23
  clear hn_23
  have t_327 : At S_26 q_16 54 := tAt_sR eS_26 ha_22
  have t_326 : pN S_33 q_16 = 10 := by rw [eS_33]; exact (pN_sN_ne (ne_of_new hq_32 t_327.1)).trans t_325
  clear t_325
  have t_328 : pN S_42 q_16 = 10 := tN_sR eS_42 t_326
  clear t_326
  have t_329 : pN S_49 q_16 = 10 := by rw [eS_49, pN_sO]; exact t_328
  clear t_328
  have t_331 : At S_33 q_16 54 := by rw [eS_33]; exact At_sN t_327 hq_32
  have t_332 : At S_42 q_16 54 := tAt_sR eS_42 t_331
  have t_333 : At S_49 q_16 54 := by rw [eS_49]; exact At_sO t_332 hq_48
  have t_330 : pN S_56 q_16 = 10 := ((hK_57 q_16 t_333.1).2 (At_ne t_333 ha_54 (by decide))).2.2.2.1.trans t_329
  clear t_329
  have t_334 : pN S_68 q_16 = 10 := tN_sR eS_68 t_330
  clear t_330
  have t_335 : pN S_75 q_16 = 10 := by rw [eS_75, pN_sO]; exact t_334
  clear t_334
  have t_337 : At S_56 q_16 54 := hK_57.at ha_54 t_333 (by decide)
  have t_338 : At S_68 q_16 54 := tAt_sR eS_68 t_337
  have t_339 : At S_75 q_16 54 := by rw [eS_75]; exact At_sO t_338 hq_74
  have t_336 : pN S_82 q_16 = 10 := ((hK_83 q_16 t_339.1).2 (At_ne t_339 ha_80 (by decide))).2.2.2.1.trans t_335
  clear t_335
  have t_340 : pN S_94 q_16 = 10 := tN_sR eS_94 t_336
  clear t_336
  have t_341 : pN S_101 q_16 = 10 := by rw [eS_101, pN_sO]; exact t_340
  clear t_340
  have t_343 : At S_82 q_16 54 := hK_83.at ha_80 t_339 (by decide)
  have t_344 : At S_94 q_16 54 := tAt_sR eS_94 t_343
  have t_345 : At S_101 q_16 54 := by rw [eS_101]; exact At_sO t_344 hq_100
  have t_342 : pN S_108 q_16 = 10 := ((hK_109 q_16 t_345.1).2 (At_ne t_345 ha_106 (by decide))).2.2.2.1.trans t_341
  clear t_341
  have t_346 : pN S_120 q_16 = 10 := tN_sR eS_120 t_342
  clear t_342
  have t_347 : pN S_127 q_16 = 10 := by rw [eS_127, pN_sO]; exact t_346
  clear t_346
  have t_349 : At S_108 q_16 54 := hK_109.at ha_106 t_345 (by decide)
  have t_350 : At S_120 q_16 54 := tAt_sR eS_120 t_349
  have t_351 : At S_127 q_16 54 := by rw [eS_127]; exact At_sO t_350 hq_126
  have t_348 : pN S_134 q_16 = 10 := ((hK_135 q_16 t_351.1).2 (At_ne t_351 ha_132 (by decide))).2.2.2.1.trans t_347
  clear t_347
  have t_352 : pN S_146 q_16 = 10 := tN_sR eS_146 t_348
  clear t_348
  have t_354 : At S_134 q_16 54 := hK_135.at ha_132 t_351 (by decide)
  have t_355 : At S_146 q_16 54 := tAt_sR eS_146 t_354
  have t_353 : pN S_153 q_16 = 10 := by rw [eS_153]; exact (pN_sN_ne (ne_of_new hq_152 t_355.1)).trans t_352
  clear t_352
  have t_356 : pN S_162 q_16 = 10 := tN_sR eS_162 t_353
  clear t_353
  have t_358 : At S_153 q_16 54 := by rw [eS_153]; exact At_sN t_355 hq_152
  have t_359 : At S_162 q_16 54 := tAt_sR eS_162 t_358
  have t_357 : pN S_169 q_16 = 10 := by rw [eS_169]; exact (pN_sN_ne (ne_of_new hq_168 t_359.1)).trans t_356
  clear t_356
  have t_360 : pN S_178 q_16 = 10 := tN_sR eS_178 t_357
  clear t_357
  have t_362 : pR S_49 1103 x = some q_32 := by rw [eS_49]; exact (pR_sO_ne (ne_of_new hq_48 t_195.1)).trans h_47
  have t_363 : pR S_56 1103 x = some q_32 := (((hK_57 x t_197.1).2 (At_ne t_197 ha_54 (by decide))).2.2.1 1103).trans t_362
  have t_364 : pR S_68 1103 x = some q_32 := tR_sR eS_68 rfl t_363
  have t_365 : pR S_75 1103 x = some q_32 := by rw [eS_75]; exact (pR_sO_ne (ne_of_new hq_74 t_200.1)).trans t_364
  have t_366 : pR S_82 1103 x = some q_32 := (((hK_83 x t_202.1).2 (At_ne t_202 ha_80 (by decide))).2.2.1 1103).trans t_365
  have t_367 : pR S_94 1103 x = some q_32 := tR_sR eS_94 rfl t_366
  have t_368 : pR S_101 1103 x = some q_32 := by rw [eS_101]; exact (pR_sO_ne (ne_of_new hq_100 t_205.1)).trans t_367
  have t_369 : pR S_108 1103 x = some q_32 := (((hK_109 x t_207.1).2 (At_ne t_207 ha_106 (by decide))).2.2.1 1103).trans t_368
  have t_370 : pR S_120 1103 x = some q_32 := tR_sR eS_120 rfl t_369
  have t_371 : pR S_127 1103 x = some q_32 := by rw [eS_127]; exact (pR_sO_ne (ne_of_new hq_126 t_210.1)).trans t_370
  have t_372 : pR S_134 1103 x = some q_32 := (((hK_135 x t_212.1).2 (At_ne t_212 ha_132 (by decide))).2.2.1 1103).trans t_371
  have t_373 : pR S_146 1103 x = some q_32 := tR_sR eS_146 rfl t_372
  have t_374 : pR S_153 1103 x = some q_32 := by rw [eS_153, pR_sN]; exact t_373
  have t_375 : pR S_162 1103 x = some q_32 := tR_sR eS_162 rfl t_374
  have t_376 : pR S_169 1103 x = some q_32 := by rw [eS_169, pR_sN]; exact t_375
  have t_377 : pR S_178 1103 x = some q_32 := tR_sR eS_178 rfl t_376
  have t_380 : pN S_42 q_32 = 4 := tN_sR eS_42 hn_39
  clear hn_39
  have t_381 : pN S_49 q_32 = 4 := by rw [eS_49, pN_sO]; exact t_380
  clear t_380
  have t_383 : At S_42 q_32 18 := tAt_sR eS_42 ha_38
  have t_384 : At S_49 q_32 18 := by rw [eS_49]; exact At_sO t_383 hq_48
  have t_382 : pN S_56 q_32 = 4 := ((hK_57 q_32 t_384.1).2 (At_ne t_384 ha_54 (by decide))).2.2.2.1.trans t_381
  clear t_381
  have t_385 : pN S_68 q_32 = 4 := tN_sR eS_68 t_382
  clear t_382
  have t_386 : pN S_75 q_32 = 4 := by rw [eS_75, pN_sO]; exact t_385
  clear t_385
  have t_388 : At S_56 q_32 18 := hK_57.at ha_54 t_384 (by decide)
  have t_389 : At S_68 q_32 18 := tAt_sR eS_68 t_388
  have t_390 : At S_75 q_32 18 := by rw [eS_75]; exact At_sO t_389 hq_74
  have t_387 : pN S_82 q_32 = 4 := ((hK_83 q_32 t_390.1).2 (At_ne t_390 ha_80 (by decide))).2.2.2.1.trans t_386
  clear t_386
  have t_391 : pN S_94 q_32 = 4 := tN_sR eS_94 t_387
  clear t_387
  have t_392 : pN S_101 q_32 = 4 := by rw [eS_101, pN_sO]; exact t_391
  clear t_391
  have t_394 : At S_82 q_32 18 := hK_83.at ha_80 t_390 (by decide)
  have t_395 : At S_94 q_32 18 := tAt_sR eS_94 t_394
  have t_396 : At S_101 q_32 18 := by rw [eS_101]; exact At_sO t_395 hq_100
  have t_393 : pN S_108 q_32 = 4 := ((hK_109 q_32 t_396.1).2 (At_ne t_396 ha_106 (by decide))).2.2.2.1.trans t_392
  clear t_392
  have t_397 : pN S_120 q_32 = 4 := tN_sR eS_120 t_393
  clear t_393
  have t_398 : pN S_127 q_32 = 4 := by rw [eS_127, pN_sO]; exact t_397
  clear t_397
  have t_400 : At S_108 q_32 18 := hK_109.at ha_106 t_396 (by decide)
  have t_401 : At S_120 q_32 18 := tAt_sR eS_120 t_400
  have t_402 : At S_127 q_32 18 := by rw [eS_127]; exact At_sO t_401 hq_126
  have t_399 : pN S_134 q_32 = 4 := ((hK_135 q_32 t_402.1).2 (At_ne t_402 ha_132 (by decide))).2.2.2.1.trans t_398
  clear t_398
  have t_403 : pN S_146 q_32 = 4 := tN_sR eS_146 t_399
  clear t_399
  have t_405 : At S_134 q_32 18 := hK_135.at ha_132 t_402 (by decide)
  have t_406 : At S_146 q_32 18 := tAt_sR eS_146 t_405
  have t_404 : pN S_153 q_32 = 4 := by rw [eS_153]; exact (pN_sN_ne (ne_of_new hq_152 t_406.1)).trans t_403
  clear t_403
  have t_407 : pN S_162 q_32 = 4 := tN_sR eS_162 t_404
  clear t_404
  have t_409 : At S_153 q_32 18 := by rw [eS_153]; exact At_sN t_406 hq_152
  have t_410 : At S_162 q_32 18 := tAt_sR eS_162 t_409
  have t_408 : pN S_169 q_32 = 4 := by rw [eS_169]; exact (pN_sN_ne (ne_of_new hq_168 t_410.1)).trans t_407
  clear t_407
  have t_411 : pN S_178 q_32 = 4 := tN_sR eS_178 t_408
  clear t_408
  have t_413 : pR S_75 1105 x = some q_48 := by rw [eS_75]; exact (pR_sO_ne (ne_of_new hq_74 t_200.1)).trans h_73
  have t_414 : pR S_82 1105 x = some q_48 := (((hK_83 x t_202.1).2 (At_ne t_202 ha_80 (by decide))).2.2.1 1105).trans t_413
  have t_415 : pR S_94 1105 x = some q_48 := tR_sR eS_94 rfl t_414
  have t_416 : pR S_101 1105 x = some q_48 := by rw [eS_101]; exact (pR_sO_ne (ne_of_new hq_100 t_205.1)).trans t_415
  have t_417 : pR S_108 1105 x = some q_48 := (((hK_109 x t_207.1).2 (At_ne t_207 ha_106 (by decide))).2.2.1 1105).trans t_416
  have t_418 : pR S_120 1105 x = some q_48 := tR_sR eS_120 rfl t_417
  have t_419 : pR S_127 1105 x = some q_48 := by rw [eS_127]; exact (pR_sO_ne (ne_of_new hq_126 t_210.1)).trans t_418
  have t_420 : pR S_134 1105 x = some q_48 := (((hK_135 x t_212.1).2 (At_ne t_212 ha_132 (by decide))).2.2.1 1105).trans t_419
  have t_421 : pR S_146 1105 x = some q_48 := tR_sR eS_146 rfl t_420
  have t_422 : pR S_153 1105 x = some q_48 := by rw [eS_153, pR_sN]; exact t_421
  have t_423 : pR S_162 1105 x = some q_48 := tR_sR eS_162 rfl t_422
  have t_424 : pR S_169 1105 x = some q_48 := by rw [eS_169, pR_sN]; exact t_423
  have t_425 : pR S_178 1105 x = some q_48 := tR_sR eS_178 rfl t_424
  have t_428 : pR S_101 1106 x = some q_74 := by rw [eS_101]; exact (pR_sO_ne (ne_of_new hq_100 t_205.1)).trans h_99
  have t_429 : pR S_108 1106 x = some q_74 := (((hK_109 x t_207.1).2 (At_ne t_207 ha_106 (by decide))).2.2.1 1106).trans t_428
  have t_430 : pR S_120 1106 x = some q_74 := tR_sR eS_120 rfl t_429
  have t_431 : pR S_127 1106 x = some q_74 := by rw [eS_127]; exact (pR_sO_ne (ne_of_new hq_126 t_210.1)).trans t_430
  have t_432 : pR S_134 1106 x = some q_74 := (((hK_135 x t_212.1).2 (At_ne t_212 ha_132 (by decide))).2.2.1 1106).trans t_431
  have t_433 : pR S_146 1106 x = some q_74 := tR_sR eS_146 rfl t_432
  have t_434 : pR S_153 1106 x = some q_74 := by rw [eS_153, pR_sN]; exact t_433
  have t_435 : pR S_162 1106 x = some q_74 := tR_sR eS_162 rfl t_434
  have t_436 : pR S_169 1106 x = some q_74 := by rw [eS_169, pR_sN]; exact t_435
  have t_437 : pR S_178 1106 x = some q_74 := tR_sR eS_178 rfl t_436
  have t_440 : pR S_127 1107 x = some q_100 := by rw [eS_127]; exact (pR_sO_ne (ne_of_new hq_126 t_210.1)).trans h_125
  have t_441 : pR S_134 1107 x = some q_100 := (((hK_135 x t_212.1).2 (At_ne t_212 ha_132 (by decide))).2.2.1 1107).trans t_440
  have t_442 : pR S_146 1107 x = some q_100 := tR_sR eS_146 rfl t_441
  have t_443 : pR S_153 1107 x = some q_100 := by rw [eS_153, pR_sN]; exact t_442
  have t_444 : pR S_162 1107 x = some q_100 := tR_sR eS_162 rfl t_443
  have t_445 : pR S_169 1107 x = some q_100 := by rw [eS_169, pR_sN]; exact t_444
  have t_446 : pR S_178 1107 x = some q_100 := tR_sR eS_178 rfl t_445
  have t_449 : pR S_153 1108 x = some q_126 := by rw [eS_153, pR_sN]; exact h_151
  have t_450 : pR S_162 1108 x = some q_126 := tR_sR eS_162 rfl t_449
  have t_451 : pR S_169 1108 x = some q_126 := by rw [eS_169, pR_sN]; exact t_450
  have t_452 : pR S_178 1108 x = some q_126 := tR_sR eS_178 rfl t_451
  have t_455 : pR S_169 1109 x = some q_152 := by rw [eS_169, pR_sN]; exact h_167
  have t_456 : pR S_178 1109 x = some q_152 := tR_sR eS_178 rfl t_455
  have t_459 : pN S_162 q_152 = 16 := tN_sR eS_162 hn_159
  clear hn_159
  have t_461 : At S_162 q_152 17 := tAt_sR eS_162 ha_158
  have t_460 : pN S_169 q_152 = 16 := by rw [eS_169]; exact (pN_sN_ne (ne_of_new hq_168 t_461.1)).trans t_459
  clear t_459
  have t_462 : pN S_178 q_152 = 16 := tN_sR eS_178 t_460
  clear t_460
  have t_466 : pN S_178 q_168 = 60 := tN_sR eS_178 hn_175
  clear hn_175
  have L_184 : ∀ (n : Nat) (T_186 : PS) (H : Heap) (locs : List Loc) (ls : Array Slot) (i1_185 : Int32) (i1_185_z : Int) (cc_468 nn_469 : Nat), ((16 - i1_185_z).toNat = n) → (Wd G cy (AS S s.heap.size) s.heap T_186 H locs) → (i1_185.toInt = i1_185_z) → (0 ≤ i1_185_z ∧ i1_185_z ≤ 16) → (At T_186 x 191) → (Kq S T_186 x) → (GX T_186) → (Phc T_186 = Phc S + 320) → (Phs T_186 = Phs S + 604000) → (pI T_186 1102 x = 0) → (pI T_186 1104 x = 0) → (pR T_186 1100 x = some q_1) → (At T_186 q_1 16) → (pN T_186 q_1 = 600) → (pR T_186 1101 x = some q_16) → (At T_186 q_16 54) → (pN T_186 q_16 = 10) → (pR T_186 1103 x = some q_32) → (At T_186 q_32 18) → (pN T_186 q_32 = 4) → (pR T_186 1105 x = some q_48) → (At T_186 q_48 10) → (pR T_186 1106 x = some q_74) → (At T_186 q_74 6) → (pR T_186 1107 x = some q_100) → (At T_186 q_100 8) → (pR T_186 1108 x = some q_126) → (At T_186 q_126 1) → (pR T_186 1109 x = some q_152) → (At T_186 q_152 17) → (pN T_186 q_152 = 16) → (pR T_186 1111 x = some q_168) → (At T_186 q_168 14) → (pN T_186 q_168 = 60) → (cc_468 = 26 + 2 * (i1_185_z).toNat) → (nn_469 = 1520 + 13 * (i1_185_z).toNat) → (lv_has ls 2 [(1, .int (i1_185)), (0, .ref x)]) → W p l e ({ frames := 4, cells := 58, slots := 1728, locals := 192 }) s m [.ref x].toArray below meth c H locs cc_468 nn_469 QQ (F0 m 93 ls []) := by
    intro n
    induction n using Nat.strongRecOn with
    | ind n ih =>
    intro T_186 H locs ls i1_185 i1_185_z cc_468 nn_469 hn hw hz_i1_185 hr_i1_185 ha_x_L_187 hK_T_186 hg_T_186 hpc_T_186 hps_T_186 ik_218 ik_241 ik_262 ik_263 ik_304 ik_323 ik_324 ik_361 ik_378 ik_379 ik_412 ik_426 ik_427 ik_438 ik_439 ik_447 ik_448 ik_453 ik_454 ik_457 ik_458 ik_463 ik_464 ik_465 ik_467 hcc_470 hnn_471 hl
    have rg_472 : (-2147483648) ≤ i1_185_z ∧ i1_185_z ≤ 2147483647 := by rw [← hz_i1_185]; exact ⟨z_lo _, z_hi _⟩
    refine lv_iload_n X.1 X.2.1 dX11_init_93 rfl (lv_at hl 0 rfl) ?_
    refine lv_bipush (v := 16) X.1 X.2.1 dX11_init_94 (by decide) ?_
    refine lv_icmp_ge (tgt := 118) X.1 X.2.1 dX11_init_96 (by decide) (fun c_473 => ?_) (fun c_473 => ?_)
    · have z_b_474 := trivial
      have k_475 : i1_185_z ≥ 16 := z_le ti_16 hz_i1_185 c_473
      have nd_476 := nodup_of hw
      obtain ⟨S_477, eS_477⟩ : ∃ T, T = sK T_186 x 11 := ⟨_, rfl⟩
      have hw := Wd_sK (k := 11) hw ha_x_L_187 rfl; rw [← eS_477] at hw
      have hg9 : GX S_477 := by rw [eS_477]; exact GX_sK hg_T_186 ha_x_L_187 (by decide +kernel) (mk_11 ⟨q_1, (by rw [pR_sK]; exact ik_262), At_sK ha_x_L_187 ik_263 (by decide), by rw [pN_sK]; exact ik_304⟩ ⟨q_16, (by rw [pR_sK]; exact ik_323), At_sK ha_x_L_187 ik_324 (by decide), by rw [pN_sK]; exact ik_361⟩ (by rw [pI_sK, ik_218]; exact ⟨by rw [ti_0]; omega, by rw [ti_0]; omega⟩) ⟨q_32, (by rw [pR_sK]; exact ik_378), At_sK ha_x_L_187 ik_379 (by decide), by rw [pN_sK]; exact ik_412⟩ (by rw [pI_sK, ik_241]; exact ⟨by rw [ti_0]; omega, by rw [ti_0]; omega⟩) ⟨q_48, (by rw [pR_sK]; exact ik_426), At_sK ha_x_L_187 ik_427 (by decide)⟩ ⟨q_74, (by rw [pR_sK]; exact ik_438), At_sK ha_x_L_187 ik_439 (by decide)⟩ ⟨q_100, (by rw [pR_sK]; exact ik_447), At_sK ha_x_L_187 ik_448 (by decide)⟩ ⟨q_126, (by rw [pR_sK]; exact ik_453), At_sK ha_x_L_187 ik_454 (by decide)⟩ ⟨q_152, (by rw [pR_sK]; exact ik_457), At_sK ha_x_L_187 ik_458 (by decide), by rw [pN_sK]; exact ik_463⟩ ⟨q_168, (by rw [pR_sK]; exact ik_464), At_sK ha_x_L_187 ik_465 (by decide), by rw [pN_sK]; exact ik_467⟩)
      have ha9 : At S_477 x 11 := by rw [eS_477]; exact At_nK ha_x_L_187
      have hk9 : Kq S S_477 x := hK_T_186.sK eS_477
      have hPhc9 : Phc S_477 = Phc S + 57920 := by rw [show Phc S_477 = Ph fC 8 14400 S_477 from rfl, Ph_sK nd_476 ha_x_L_187 (by decide) eS_477, ph_11 ha9 (show pI S_477 1104 x = 0 by rw [eS_477, pI_sK]; exact ik_241)]; show Phc T_186 + _ = _; omega
      have hPhs9 : Phs S_477 = Phs S + 788000 := by rw [show Phs S_477 = Ph fS 15100 46000 S_477 from rfl, Ph_sK nd_476 ha_x_L_187 (by decide) eS_477, ph_11 ha9 (show pI S_477 1104 x = 0 by rw [eS_477, pI_sK]; exact ik_241)]; show Phs T_186 + _ = _; omega
      rw [hQQ]
      exact ret_v X hw hr hlocks (by show cc_468 ≤ 58; omega) (by show nn_469 ≤ 1728; omega) ⟨hk9, hg9, ha9, hPhc9, hPhs9⟩ dX11_init_118
    · have z_b_478 := trivial
      have k_479 : i1_185_z < 16 := z_nle ti_16 hz_i1_185 c_473
      refine lv_aload_n X.1 X.2.1 dX11_init_99 rfl (lv_at hl 1 rfl) ?_
      refine r_getR (g := 1109) X hw ha_x_L_187 rfl 9 ik_457 (by decide) rfl inn_X11_init_11 (by decide) (X.2.2.2.1 (.fieldLink RX11 55 "SilkMill" "shelf" "[LSilkMill$Place;") (by decide +kernel)) rfl (gv_1109 _ _) dX11_init_100 ?_
      refine lv_iload_n X.1 X.2.1 dX11_init_103 rfl (lv_at hl 0 rfl) ?_
      refine r_new X hw 183 3 (nn_469 + 5) (cc_468 + 1) rfl tyX3 (by decide) rfl inn_X11_init_3 tyX3_ok (X.2.2.2.1 (.classLink RX11 53 RX3) (by decide +kernel)) (X.2.2.2.1 (.instantiable RX3 5) (by decide +kernel)) (X.2.2.2.1 (.initialized RX3) (by decide +kernel)) (zo_3 _) zd_3 (by show cc_468 + 1 ≤ (cc_468 + 1); omega) (by show nn_469 + 5 ≤ (nn_469 + 5); omega) (by show (cc_468 + 1) ≤ 58; omega) (by show (nn_469 + 5) ≤ 1728; omega) dX11_init_104 (fun q_480 H hq_480 hw => ?_)
      obtain ⟨S_481, eS_481⟩ : ∃ T, T = sO T_186 q_480 183 := ⟨_, rfl⟩
      rw [← eS_481] at hw
      have ph_482 : Phc S_481 = Phc S + 320 := (show Phc S_481 = Phc T_186 from Ph_sO hg_T_186 hq_480 eS_481 (by decide)).trans hpc_T_186
      have ph_483 : Phs S_481 = Phs S + 604000 := (show Phs S_481 = Phs T_186 from Ph_sO hg_T_186 hq_480 eS_481 (by decide)).trans hps_T_186
      clear hpc_T_186
      clear hps_T_186
      have hK_484 : Kq S S_481 x := hK_T_186.sO hq_480 eS_481
      have hg_485 : GX S_481 := by rw [eS_481]; exact GX_O hg_T_186 hq_480 (by decide +kernel)
      have hn0_q_480 := hK_T_186.new hq_480
      have ha_486 : At S_481 q_480 183 := by rw [eS_481]; exact At_nO _ _ _
      have hzI_q_480 : ∀ g, pI S_481 g q_480 = 0 := fun g => by rw [eS_481]; exact pI_sO_new
      have hzR_q_480 : ∀ g, pR S_481 g q_480 = none := fun g => by rw [eS_481]; exact if_pos rfl
      refine lv_dup X.1 X.2.1 dX11_init_107 rfl ?_
      refine k_v (rm := { frames := 2, cells := 1, slots := 8, locals := 96 }) (av := [.ref q_480]) X hw (va_runIN (As := []) (rest := [.ref q_480, .int (i1_185), .ref q_152]) (cfix X) (k_X3_init l G cy κ S_481 _ q_480 hg_485 ha_486 hzI_q_480 hzR_q_480) ⟨(va_cnB (host := RX11) 0 X.2.2.2.1 gX11_init_X3_init_n62 rfl rfl rfl (X.2.2.2.2.2.2.2.1.2.1 (RX11, 62, yX3_init) (by decide +kernel)) (X.2.2.2.1 (.initialized RX3) (by decide +kernel)) (by decide +kernel) ⟨Nat.le_of_ble_eq_true rfl, Nat.le_of_ble_eq_true rfl⟩), rfl, (X.2.2.2.1 (.instanceMethod yX3_init) (by decide +kernel))⟩ (pre_S X hw _) rfl rfl hl.1 rfl (lv_room (Nat.le_of_ble_eq_true rfl)) dX11_init_108 ⟨(by show (cc_468 + 1) + 1 ≤ 58; omega), (by show (nn_469 + 5) + 8 ≤ 1728; omega)⟩) ((cc_468 + 1) + 1) ((nn_469 + 5) + 8) (by show (cc_468 + 1) + 1 ≤ ((cc_468 + 1) + 1); omega) (by show (nn_469 + 5) + 8 ≤ ((nn_469 + 5) + 8); omega) (fun S_488 H locs hp hw hfr hnw => ?_)
      obtain ⟨hK_489, hg_490, ha_491, ph_492, ph_493⟩ := hp
      have hK_494 : Kq S S_488 x := hK_484.sub hn0_q_480 hK_489
      have ph_495 : Phc S_488 = Phc S + 320 := by omega
      have ph_496 : Phs S_488 = Phs S + 604000 := by omega
      clear ph_482
      clear ph_483
      clear ph_492
      clear ph_493
      have t_497 : At S_481 q_152 17 := by rw [eS_481]; exact At_sO ik_458 hq_480
      have t_498 : At S_488 q_152 17 := hK_489.at ha_486 t_497 (by decide)
      have t_499 : pN S_481 q_152 = 16 := by rw [eS_481, pN_sO]; exact ik_463
      have t_501 : At S_481 q_152 17 := by rw [eS_481]; exact At_sO ik_458 hq_480
      have t_500 : pN S_488 q_152 = 16 := ((hK_489 q_152 t_501.1).2 (At_ne t_501 ha_486 (by decide))).2.2.2.1.trans t_499
      clear t_499
      refine r_aast X hw t_498 rfl ha_491 rfl (by decide) (by decide) rfl rfl (by rw [t_500]; exact z_ix hz_i1_185 (by omega) (by omega)) dX11_init_111 (fun H locs hw => ?_)
      obtain ⟨S_502, eS_502⟩ : ∃ T, T = sB S_488 q_152 (va_up (pB S_488 q_152) (Int32.toNatClampNeg (i1_185)) (some q_480)) := ⟨_, rfl⟩
      rw [← eS_502] at hw
      have ph_503 : Phc S_502 = Phc S + 320 := (show Phc S_502 = Phc S_488 from Ph_sB eS_502).trans ph_495
      have ph_504 : Phs S_502 = Phs S + 604000 := (show Phs S_502 = Phs S_488 from Ph_sB eS_502).trans ph_496
      clear ph_495
      clear ph_496
      have hK_505 : Kq S S_502 x := hK_494.sB hn0_q_152 eS_502
      have hg_506 : GX S_502 := by rw [eS_502]; exact uB_17 hg_490 t_498 (fun q hq => by cases hq; exact ha_491)
      obtain ⟨x_507, ex_507⟩ : ∃ y : Int32, y = i1_185 + 1 := ⟨_, rfl⟩
      have z_508 : x_507.toInt = i1_185_z + 1 := z_add ex_507 hz_i1_185 ti_1 (by omega) (by omega)
      refine lv_iinc (v := x_507) (lv' := [(1, .int (x_507)), (0, .ref x)]) X.1 X.2.1 dX11_init_112 hl (k := 0) rfl (by rw [ex_507]; rfl) (by decide) rfl (fun ls hl => ?_)
      refine lv_goto (tgt := 93) X.1 X.2.1 dX11_init_115 (by decide) ?_
      have t_509 : At S_481 x 191 := by rw [eS_481]; exact At_sO ha_x_L_187 hq_480
      have t_510 : At S_488 x 191 := hK_489.at ha_486 t_509 (by decide)
      have t_511 : At S_502 x 191 := tAt_sB eS_502 t_510
      have t_512 : pI S_481 1102 x = 0 := by rw [eS_481]; exact (pI_sO_ne (ne_of_new hq_480 ha_x_L_187.1)).trans ik_218
      have t_514 : At S_481 x 191 := by rw [eS_481]; exact At_sO ha_x_L_187 hq_480
      have t_513 : pI S_488 1102 x = 0 := (((hK_489 x t_514.1).2 (At_ne t_514 ha_486 (by decide))).2.1 1102).trans t_512
      have t_515 : pI S_502 1102 x = 0 := tI_sB eS_502 t_513
      have t_516 : pI S_481 1104 x = 0 := by rw [eS_481]; exact (pI_sO_ne (ne_of_new hq_480 ha_x_L_187.1)).trans ik_241
      have t_517 : pI S_488 1104 x = 0 := (((hK_489 x t_514.1).2 (At_ne t_514 ha_486 (by decide))).2.1 1104).trans t_516
      have t_518 : pI S_502 1104 x = 0 := tI_sB eS_502 t_517
      have t_519 : pR S_481 1100 x = some q_1 := by rw [eS_481]; exact (pR_sO_ne (ne_of_new hq_480 ha_x_L_187.1)).trans ik_262
      have t_520 : pR S_488 1100 x = some q_1 := (((hK_489 x t_514.1).2 (At_ne t_514 ha_486 (by decide))).2.2.1 1100).trans t_519
      have t_521 : pR S_502 1100 x = some q_1 := tR_sB eS_502 t_520
      have t_522 : At S_481 q_1 16 := by rw [eS_481]; exact At_sO ik_263 hq_480
      have t_523 : At S_488 q_1 16 := hK_489.at ha_486 t_522 (by decide)
      have t_524 : At S_502 q_1 16 := tAt_sB eS_502 t_523
      have t_525 : pN S_481 q_1 = 600 := by rw [eS_481, pN_sO]; exact ik_304
      have t_527 : At S_481 q_1 16 := by rw [eS_481]; exact At_sO ik_263 hq_480
      have t_526 : pN S_488 q_1 = 600 := ((hK_489 q_1 t_527.1).2 (At_ne t_527 ha_486 (by decide))).2.2.2.1.trans t_525
      clear t_525
      have t_528 : pN S_502 q_1 = 600 := tN_sB eS_502 t_526
      clear t_526
      have t_529 : pR S_481 1101 x = some q_16 := by rw [eS_481]; exact (pR_sO_ne (ne_of_new hq_480 ha_x_L_187.1)).trans ik_323
      have t_530 : pR S_488 1101 x = some q_16 := (((hK_489 x t_514.1).2 (At_ne t_514 ha_486 (by decide))).2.2.1 1101).trans t_529
      have t_531 : pR S_502 1101 x = some q_16 := tR_sB eS_502 t_530
      have t_532 : At S_481 q_16 54 := by rw [eS_481]; exact At_sO ik_324 hq_480
      have t_533 : At S_488 q_16 54 := hK_489.at ha_486 t_532 (by decide)
      have t_534 : At S_502 q_16 54 := tAt_sB eS_502 t_533
      have t_535 : pN S_481 q_16 = 10 := by rw [eS_481, pN_sO]; exact ik_361
      have t_537 : At S_481 q_16 54 := by rw [eS_481]; exact At_sO ik_324 hq_480
      have t_536 : pN S_488 q_16 = 10 := ((hK_489 q_16 t_537.1).2 (At_ne t_537 ha_486 (by decide))).2.2.2.1.trans t_535
      clear t_535
      have t_538 : pN S_502 q_16 = 10 := tN_sB eS_502 t_536
      clear t_536
      have t_539 : pR S_481 1103 x = some q_32 := by rw [eS_481]; exact (pR_sO_ne (ne_of_new hq_480 ha_x_L_187.1)).trans ik_378
      have t_540 : pR S_488 1103 x = some q_32 := (((hK_489 x t_514.1).2 (At_ne t_514 ha_486 (by decide))).2.2.1 1103).trans t_539
      have t_541 : pR S_502 1103 x = some q_32 := tR_sB eS_502 t_540
      have t_542 : At S_481 q_32 18 := by rw [eS_481]; exact At_sO ik_379 hq_480
      have t_543 : At S_488 q_32 18 := hK_489.at ha_486 t_542 (by decide)
      have t_544 : At S_502 q_32 18 := tAt_sB eS_502 t_543
      have t_545 : pN S_481 q_32 = 4 := by rw [eS_481, pN_sO]; exact ik_412
      have t_547 : At S_481 q_32 18 := by rw [eS_481]; exact At_sO ik_379 hq_480
      have t_546 : pN S_488 q_32 = 4 := ((hK_489 q_32 t_547.1).2 (At_ne t_547 ha_486 (by decide))).2.2.2.1.trans t_545
      clear t_545
      have t_548 : pN S_502 q_32 = 4 := tN_sB eS_502 t_546
      clear t_546
      have t_549 : pR S_481 1105 x = some q_48 := by rw [eS_481]; exact (pR_sO_ne (ne_of_new hq_480 ha_x_L_187.1)).trans ik_426
      have t_550 : pR S_488 1105 x = some q_48 := (((hK_489 x t_514.1).2 (At_ne t_514 ha_486 (by decide))).2.2.1 1105).trans t_549
      have t_551 : pR S_502 1105 x = some q_48 := tR_sB eS_502 t_550
      have t_552 : At S_481 q_48 10 := by rw [eS_481]; exact At_sO ik_427 hq_480
      have t_553 : At S_488 q_48 10 := hK_489.at ha_486 t_552 (by decide)
      have t_554 : At S_502 q_48 10 := tAt_sB eS_502 t_553
      have t_555 : pR S_481 1106 x = some q_74 := by rw [eS_481]; exact (pR_sO_ne (ne_of_new hq_480 ha_x_L_187.1)).trans ik_438
      have t_556 : pR S_488 1106 x = some q_74 := (((hK_489 x t_514.1).2 (At_ne t_514 ha_486 (by decide))).2.2.1 1106).trans t_555
      have t_557 : pR S_502 1106 x = some q_74 := tR_sB eS_502 t_556
      have t_558 : At S_481 q_74 6 := by rw [eS_481]; exact At_sO ik_439 hq_480
      have t_559 : At S_488 q_74 6 := hK_489.at ha_486 t_558 (by decide)
      have t_560 : At S_502 q_74 6 := tAt_sB eS_502 t_559
      have t_561 : pR S_481 1107 x = some q_100 := by rw [eS_481]; exact (pR_sO_ne (ne_of_new hq_480 ha_x_L_187.1)).trans ik_447
      have t_562 : pR S_488 1107 x = some q_100 := (((hK_489 x t_514.1).2 (At_ne t_514 ha_486 (by decide))).2.2.1 1107).trans t_561
      have t_563 : pR S_502 1107 x = some q_100 := tR_sB eS_502 t_562
      have t_564 : At S_481 q_100 8 := by rw [eS_481]; exact At_sO ik_448 hq_480
      have t_565 : At S_488 q_100 8 := hK_489.at ha_486 t_564 (by decide)
      have t_566 : At S_502 q_100 8 := tAt_sB eS_502 t_565
      have t_567 : pR S_481 1108 x = some q_126 := by rw [eS_481]; exact (pR_sO_ne (ne_of_new hq_480 ha_x_L_187.1)).trans ik_453
      have t_568 : pR S_488 1108 x = some q_126 := (((hK_489 x t_514.1).2 (At_ne t_514 ha_486 (by decide))).2.2.1 1108).trans t_567
      have t_569 : pR S_502 1108 x = some q_126 := tR_sB eS_502 t_568
      have t_570 : At S_481 q_126 1 := by rw [eS_481]; exact At_sO ik_454 hq_480
      have t_571 : At S_488 q_126 1 := hK_489.at ha_486 t_570 (by decide)
      have t_572 : At S_502 q_126 1 := tAt_sB eS_502 t_571
      have t_573 : pR S_481 1109 x = some q_152 := by rw [eS_481]; exact (pR_sO_ne (ne_of_new hq_480 ha_x_L_187.1)).trans ik_457
      have t_574 : pR S_488 1109 x = some q_152 := (((hK_489 x t_514.1).2 (At_ne t_514 ha_486 (by decide))).2.2.1 1109).trans t_573
      have t_575 : pR S_502 1109 x = some q_152 := tR_sB eS_502 t_574
      have t_576 : At S_502 q_152 17 := tAt_sB eS_502 t_498
      have t_577 : pN S_502 q_152 = 16 := tN_sB eS_502 t_500
      clear t_500
      have t_578 : pR S_481 1111 x = some q_168 := by rw [eS_481]; exact (pR_sO_ne (ne_of_new hq_480 ha_x_L_187.1)).trans ik_464
      have t_579 : pR S_488 1111 x = some q_168 := (((hK_489 x t_514.1).2 (At_ne t_514 ha_486 (by decide))).2.2.1 1111).trans t_578
      have t_580 : pR S_502 1111 x = some q_168 := tR_sB eS_502 t_579
      have t_581 : At S_481 q_168 14 := by rw [eS_481]; exact At_sO ik_465 hq_480
      have t_582 : At S_488 q_168 14 := hK_489.at ha_486 t_581 (by decide)
      have t_583 : At S_502 q_168 14 := tAt_sB eS_502 t_582
      have t_584 : pN S_481 q_168 = 60 := by rw [eS_481, pN_sO]; exact ik_467
      have t_586 : At S_481 q_168 14 := by rw [eS_481]; exact At_sO ik_465 hq_480
      have t_585 : pN S_488 q_168 = 60 := ((hK_489 q_168 t_586.1).2 (At_ne t_586 ha_486 (by decide))).2.2.2.1.trans t_584
      clear t_584
      have t_587 : pN S_502 q_168 = 60 := tN_sB eS_502 t_585
      clear t_585
      exact ih _ (by omega) _ _ _ _ (x_507) (x_507.toInt) (((cc_468 + 1) + 1)) (((nn_469 + 5) + 8)) rfl hw rfl (by omega) t_511 hK_505 hg_506 ph_503 ph_504 t_515 t_518 t_521 t_524 t_528 t_531 t_534 t_538 t_541 t_544 t_548 t_551 t_554 t_557 t_560 t_563 t_566 t_569 t_572 t_575 t_576 t_577 t_580 t_583 t_587 (by omega) (by omega) (lv_sub hl [0, 1] rfl)
  have t_588 : At S_178 x 191 := tAt_sR eS_178 t_177
  have t_589 : At S_169 q_1 16 := by rw [eS_169]; exact At_sN t_302 hq_168
  have t_590 : At S_178 q_1 16 := tAt_sR eS_178 t_589
  have t_591 : At S_169 q_16 54 := by rw [eS_169]; exact At_sN t_359 hq_168
  have t_592 : At S_178 q_16 54 := tAt_sR eS_178 t_591
  have t_593 : At S_169 q_32 18 := by rw [eS_169]; exact At_sN t_410 hq_168
  have t_594 : At S_178 q_32 18 := tAt_sR eS_178 t_593
  have t_595 : At S_68 q_48 10 := tAt_sR eS_68 ha_59
  have t_596 : At S_75 q_48 10 := by rw [eS_75]; exact At_sO t_595 hq_74
  have t_597 : At S_82 q_48 10 := hK_83.at ha_80 t_596 (by decide)
  have t_598 : At S_94 q_48 10 := tAt_sR eS_94 t_597
  have t_599 : At S_101 q_48 10 := by rw [eS_101]; exact At_sO t_598 hq_100
  have t_600 : At S_108 q_48 10 := hK_109.at ha_106 t_599 (by decide)
  have t_601 : At S_120 q_48 10 := tAt_sR eS_120 t_600
  have t_602 : At S_127 q_48 10 := by rw [eS_127]; exact At_sO t_601 hq_126
  have t_603 : At S_134 q_48 10 := hK_135.at ha_132 t_602 (by decide)
  have t_604 : At S_146 q_48 10 := tAt_sR eS_146 t_603
  have t_605 : At S_153 q_48 10 := by rw [eS_153]; exact At_sN t_604 hq_152
  have t_606 : At S_162 q_48 10 := tAt_sR eS_162 t_605
  have t_607 : At S_169 q_48 10 := by rw [eS_169]; exact At_sN t_606 hq_168
  have t_608 : At S_178 q_48 10 := tAt_sR eS_178 t_607
  have t_609 : At S_94 q_74 6 := tAt_sR eS_94 ha_85
  have t_610 : At S_101 q_74 6 := by rw [eS_101]; exact At_sO t_609 hq_100
  have t_611 : At S_108 q_74 6 := hK_109.at ha_106 t_610 (by decide)
  have t_612 : At S_120 q_74 6 := tAt_sR eS_120 t_611
  have t_613 : At S_127 q_74 6 := by rw [eS_127]; exact At_sO t_612 hq_126
  have t_614 : At S_134 q_74 6 := hK_135.at ha_132 t_613 (by decide)
  have t_615 : At S_146 q_74 6 := tAt_sR eS_146 t_614
  have t_616 : At S_153 q_74 6 := by rw [eS_153]; exact At_sN t_615 hq_152
  have t_617 : At S_162 q_74 6 := tAt_sR eS_162 t_616
  have t_618 : At S_169 q_74 6 := by rw [eS_169]; exact At_sN t_617 hq_168
  have t_619 : At S_178 q_74 6 := tAt_sR eS_178 t_618
  have t_620 : At S_120 q_100 8 := tAt_sR eS_120 ha_111
  have t_621 : At S_127 q_100 8 := by rw [eS_127]; exact At_sO t_620 hq_126
  have t_622 : At S_134 q_100 8 := hK_135.at ha_132 t_621 (by decide)
  have t_623 : At S_146 q_100 8 := tAt_sR eS_146 t_622
  have t_624 : At S_153 q_100 8 := by rw [eS_153]; exact At_sN t_623 hq_152
  have t_625 : At S_162 q_100 8 := tAt_sR eS_162 t_624
  have t_626 : At S_169 q_100 8 := by rw [eS_169]; exact At_sN t_625 hq_168
  have t_627 : At S_178 q_100 8 := tAt_sR eS_178 t_626
  have t_628 : At S_146 q_126 1 := tAt_sR eS_146 ha_137
  have t_629 : At S_153 q_126 1 := by rw [eS_153]; exact At_sN t_628 hq_152
  have t_630 : At S_162 q_126 1 := tAt_sR eS_162 t_629
  have t_631 : At S_169 q_126 1 := by rw [eS_169]; exact At_sN t_630 hq_168
  have t_632 : At S_178 q_126 1 := tAt_sR eS_178 t_631
  have t_633 : At S_169 q_152 17 := by rw [eS_169]; exact At_sN t_461 hq_168
  have t_634 : At S_178 q_152 17 := tAt_sR eS_178 t_633
  have t_635 : At S_178 q_168 14 := tAt_sR eS_178 ha_174
  exact L_184 _ _ _ _ _ (0) (0) (26) (1520) rfl hw ti_0 (by omega) t_588 hK_181 hg_182 ph_179 ph_180 t_217 t_240 t_261 t_590 t_303 t_322 t_592 t_360 t_377 t_594 t_411 t_425 t_608 t_437 t_619 t_446 t_627 t_452 t_632 t_456 t_634 t_462 h_183 t_635 t_466 (by omega) (by omega) (lv_sub hl [0, 1] rfl)
