set_option maxRecDepth 20000 in
theorem ggX11_init_X10_init : GoodIn wsX11_init wsX10_init := goodIn_r _ [32, 33, 2, 3, 34, 35, 36, 86, 87, 88, 89, 90, 91, 92] (by decide +kernel) (by decide +kernel)
set_option maxRecDepth 20000 in
theorem gX11_init_X10_init_n27 : GoodIn wsX11_init (wsX10_init) := ggX11_init_X10_init
set_option maxRecDepth 20000 in
theorem ggX11_init_X6_init : GoodIn wsX11_init wsX6_init := goodIn_r _ [38, 39, 2, 3, 6, 40, 41, 42, 43, 44, 45, 93, 94, 95, 96, 97, 98, 99] (by decide +kernel) (by decide +kernel)
set_option maxRecDepth 20000 in
theorem gX11_init_X6_init_n34 : GoodIn wsX11_init (wsX6_init) := ggX11_init_X6_init
set_option maxRecDepth 20000 in
theorem ggX11_init_X8_init : GoodIn wsX11_init wsX8_init := goodIn_r _ [47, 48, 2, 3, 6, 49, 50, 51, 52, 53, 54, 55, 56, 57, 58, 59, 60, 61, 62, 63, 64, 100, 101, 102, 103, 104, 105, 106, 107, 108, 109, 110, 111, 112, 122, 123, 124, 125, 126, 127, 128, 129] (by decide +kernel) (by decide +kernel)
set_option maxRecDepth 20000 in
theorem gX11_init_X8_init_n41 : GoodIn wsX11_init (wsX8_init) := ggX11_init_X8_init
set_option maxRecDepth 20000 in
theorem ggX11_init_X1_init : GoodIn wsX11_init wsX1_init := goodIn_r _ [66, 67, 2, 3, 6, 68, 113, 114, 115, 116] (by decide +kernel) (by decide +kernel)
set_option maxRecDepth 20000 in
theorem gX11_init_X1_init_n48 : GoodIn wsX11_init (wsX1_init) := ggX11_init_X1_init
set_option maxRecDepth 20000 in
theorem ggX11_init_X3_init : GoodIn wsX11_init wsX3_init := goodIn_r _ [70, 71, 2, 3, 72, 6, 73, 117, 118, 119, 120, 121] (by decide +kernel) (by decide +kernel)
set_option maxRecDepth 20000 in
theorem gX11_init_X3_init_n62 : GoodIn wsX11_init (wsX3_init) := ggX11_init_X3_init
theorem dX11_init_0 : decode cX11_init 0 = .ok (.aload_n 0, 1) := by decide +kernel
theorem dX11_init_1 : decode cX11_init 1 = .ok (.invokespecial 3, 3) := by decide +kernel
theorem dX11_init_4 : decode cX11_init 4 = .ok (.aload_n 0, 1) := by decide +kernel
theorem dX11_init_5 : decode cX11_init 5 = .ok (.sipush 600, 3) := by decide +kernel
theorem dX11_init_8 : decode cX11_init 8 = .ok (.anewarray 9, 3) := by decide +kernel
theorem dX11_init_11 : decode cX11_init 11 = .ok (.putfield 11, 3) := by decide +kernel
theorem dX11_init_14 : decode cX11_init 14 = .ok (.aload_n 0, 1) := by decide +kernel
theorem dX11_init_15 : decode cX11_init 15 = .ok (.bipush 10, 2) := by decide +kernel
theorem dX11_init_17 : decode cX11_init 17 = .ok (.newarray .int, 2) := by decide +kernel
theorem dX11_init_19 : decode cX11_init 19 = .ok (.putfield 15, 3) := by decide +kernel
theorem dX11_init_22 : decode cX11_init 22 = .ok (.aload_n 0, 1) := by decide +kernel
theorem dX11_init_23 : decode cX11_init 23 = .ok (.iconst 4, 1) := by decide +kernel
theorem dX11_init_24 : decode cX11_init 24 = .ok (.anewarray 19, 3) := by decide +kernel
theorem dX11_init_27 : decode cX11_init 27 = .ok (.putfield 21, 3) := by decide +kernel
theorem dX11_init_30 : decode cX11_init 30 = .ok (.aload_n 0, 1) := by decide +kernel
theorem dX11_init_31 : decode cX11_init 31 = .ok (.new 25, 3) := by decide +kernel
theorem dX11_init_34 : decode cX11_init 34 = .ok (.dup, 1) := by decide +kernel
theorem dX11_init_35 : decode cX11_init 35 = .ok (.invokespecial 27, 3) := by decide +kernel
theorem dX11_init_38 : decode cX11_init 38 = .ok (.putfield 28, 3) := by decide +kernel
theorem dX11_init_41 : decode cX11_init 41 = .ok (.aload_n 0, 1) := by decide +kernel
theorem dX11_init_42 : decode cX11_init 42 = .ok (.new 32, 3) := by decide +kernel
theorem dX11_init_45 : decode cX11_init 45 = .ok (.dup, 1) := by decide +kernel
theorem dX11_init_46 : decode cX11_init 46 = .ok (.invokespecial 34, 3) := by decide +kernel
theorem dX11_init_49 : decode cX11_init 49 = .ok (.putfield 35, 3) := by decide +kernel
theorem dX11_init_52 : decode cX11_init 52 = .ok (.aload_n 0, 1) := by decide +kernel
theorem dX11_init_53 : decode cX11_init 53 = .ok (.new 39, 3) := by decide +kernel
theorem dX11_init_56 : decode cX11_init 56 = .ok (.dup, 1) := by decide +kernel
theorem dX11_init_57 : decode cX11_init 57 = .ok (.invokespecial 41, 3) := by decide +kernel
theorem dX11_init_60 : decode cX11_init 60 = .ok (.putfield 42, 3) := by decide +kernel
theorem dX11_init_63 : decode cX11_init 63 = .ok (.aload_n 0, 1) := by decide +kernel
theorem dX11_init_64 : decode cX11_init 64 = .ok (.new 46, 3) := by decide +kernel
theorem dX11_init_67 : decode cX11_init 67 = .ok (.dup, 1) := by decide +kernel
theorem dX11_init_68 : decode cX11_init 68 = .ok (.invokespecial 48, 3) := by decide +kernel
theorem dX11_init_71 : decode cX11_init 71 = .ok (.putfield 49, 3) := by decide +kernel
theorem dX11_init_74 : decode cX11_init 74 = .ok (.aload_n 0, 1) := by decide +kernel
theorem dX11_init_75 : decode cX11_init 75 = .ok (.bipush 16, 2) := by decide +kernel
theorem dX11_init_77 : decode cX11_init 77 = .ok (.anewarray 53, 3) := by decide +kernel
theorem dX11_init_80 : decode cX11_init 80 = .ok (.putfield 55, 3) := by decide +kernel
theorem dX11_init_83 : decode cX11_init 83 = .ok (.aload_n 0, 1) := by decide +kernel
theorem dX11_init_84 : decode cX11_init 84 = .ok (.bipush 60, 2) := by decide +kernel
theorem dX11_init_86 : decode cX11_init 86 = .ok (.newarray .int, 2) := by decide +kernel
theorem dX11_init_88 : decode cX11_init 88 = .ok (.putfield 59, 3) := by decide +kernel
theorem dX11_init_91 : decode cX11_init 91 = .ok (.iconst 0, 1) := by decide +kernel
theorem dX11_init_92 : decode cX11_init 92 = .ok (.istore_n 1, 1) := by decide +kernel
theorem dX11_init_93 : decode cX11_init 93 = .ok (.iload_n 1, 1) := by decide +kernel
theorem dX11_init_94 : decode cX11_init 94 = .ok (.bipush 16, 2) := by decide +kernel
theorem dX11_init_96 : decode cX11_init 96 = .ok (.if_icmp .ge 22, 3) := by decide +kernel
theorem dX11_init_99 : decode cX11_init 99 = .ok (.aload_n 0, 1) := by decide +kernel
theorem dX11_init_100 : decode cX11_init 100 = .ok (.getfield 55, 3) := by decide +kernel
theorem dX11_init_103 : decode cX11_init 103 = .ok (.iload_n 1, 1) := by decide +kernel
theorem dX11_init_104 : decode cX11_init 104 = .ok (.new 53, 3) := by decide +kernel
theorem dX11_init_107 : decode cX11_init 107 = .ok (.dup, 1) := by decide +kernel
theorem dX11_init_108 : decode cX11_init 108 = .ok (.invokespecial 62, 3) := by decide +kernel
theorem dX11_init_111 : decode cX11_init 111 = .ok (.aastore, 1) := by decide +kernel
theorem dX11_init_112 : decode cX11_init 112 = .ok (.iinc 1 1, 3) := by decide +kernel
theorem dX11_init_115 : decode cX11_init 115 = .ok (.goto (-22), 3) := by decide +kernel
theorem dX11_init_118 : decode cX11_init 118 = .ok (.return_, 1) := by decide +kernel
theorem inn_X11_init_1 : ∀ w ∈ u_ws RX1 TX1 4, w ∈ wsX11_init := fun w h => List.mem_cons_of_mem _ (List.mem_append_left _ (List.mem_append_left _ (List.mem_append_right _ h)))
theorem inn_X11_init_10 : ∀ w ∈ u_ws RX10 TX10 7, w ∈ wsX11_init := fun w h => List.mem_cons_of_mem _ (List.mem_append_left _ (List.mem_append_left _ (List.mem_append_left _ (List.mem_append_left _ (List.mem_append_left _ (List.mem_append_right _ h))))))
theorem inn_X11_init_11 : ∀ w ∈ u_ws RX11 TX11 12, w ∈ wsX11_init := fun w h => List.mem_cons_of_mem _ (List.mem_append_left _ (List.mem_append_left _ (List.mem_append_left _ (List.mem_append_left _ (List.mem_append_left _ (List.mem_append_left _ (List.mem_append_right _ h)))))))
theorem inn_X11_init_3 : ∀ w ∈ u_ws RX3 TX3 5, w ∈ wsX11_init := fun w h => List.mem_cons_of_mem _ (List.mem_append_left _ (List.mem_append_right _ h))
theorem inn_X11_init_6 : ∀ w ∈ u_ws RX6 TX6 7, w ∈ wsX11_init := fun w h => List.mem_cons_of_mem _ (List.mem_append_left _ (List.mem_append_left _ (List.mem_append_left _ (List.mem_append_left _ (List.mem_append_right _ h)))))
theorem inn_X11_init_8 : ∀ w ∈ u_ws RX8 TX8 13, w ∈ wsX11_init := fun w h => List.mem_cons_of_mem _ (List.mem_append_left _ (List.mem_append_left _ (List.mem_append_left _ (List.mem_append_right _ h))))
set_option maxHeartbeats 4000000 in
set_option maxRecDepth 100000 in
theorem k_X11_init (l : Launch) (G : va_G) (cy : Nat → ClassId) (κ : Nat → Nat) (S : PS) (sz : Nat) (x : Nat) (hG : GX S) (ha_x : At S x 191) (hzI : ∀ g, pI S g x = 0) (hzR : ∀ g, pR S g x = none) : Cv l yX11_init wsX11_init ({ frames := 4, cells := 58, slots := 1728, locals := 192 }) G cy κ S sz [.ref x] (fun (S9 : PS) => Kq S S9 x ∧ GX S9 ∧ At S9 x 11 ∧ Phc S9 = Phc S + 57920 ∧ Phs S9 = Phs S + 788000 ∧ ∃ q, pR S9 1107 x = some q ∧ At S9 q 8 ∧ pI S9 801 q = 0 ∧ pI S9 1102 x = 0 ∧ pI S9 1104 x = 0) := by
  refine ent_m (cc := cX11_init) (maxL := 2) (ret := none) (by decide) rfl (Nat.le_of_ble_eq_true rfl) ?_
  intro p e s m below meth c ls X hr hlocks hin hw hl hsz
  subst hsz
  have X : Cx p c cX11_init 2 s [.ref x].toArray wsX11_init RX11 m G cy κ (AS S s.heap.size) := X
  have hl : lv_has ls 2 [(0, .ref x)] := hl
  have hpc0 : Phc S = Phc S + 0 := rfl
  have hps0 : Phs S = Phs S + 0 := rfl
  have hK : Kq S S x := Kq.rf S _
  generalize hQQ : MQ below _ _ _ _ _ _ = QQ
  replace hQQ := hQQ.symm
  refine lv_aload_n X.1 X.2.1 dX11_init_0 rfl (lv_at hl 0 rfl) ?_
  refine W.objInit X.1 X.2.1 X.2.2.2.2.1 (X.2.2.2.1 (.methodLink RX11 3 objectInit) (by decide +kernel)) (X.2.2.2.1 (.instanceMethod objectInit) (by decide +kernel)) (X.2.2.2.1 (.code objectInit ⟨#[0xb1]⟩ 1 none) (by decide +kernel)) rfl (hl.1.trans X.2.2.1.symm) rfl dX11_init_1 (Nat.le_of_ble_eq_true rfl) (Nat.le_of_ble_eq_true rfl) ?_
  refine W.eq (g2 := F0 m 4 ls ([])) rfl ?_
  refine lv_aload_n X.1 X.2.1 dX11_init_4 rfl (lv_at hl 0 rfl) ?_
  refine lv_sipush (v := 600) X.1 X.2.1 dX11_init_5 (by decide) ?_
  refine r_newQ (N := 600) (C := RX0) X hw 16 16 600 1 rfl (by decide) rfl (X.2.2.2.1 (.classLink RX11 9 RX0) (by decide +kernel)) X.2.2.2.2.2.2.2.1.1.1 (z_nn ti_600 (by omega)) (by decide) (by decide) (by show 0 + 1 ≤ 1; omega) (by show 0 + 600 ≤ 600; omega) (by show 1 ≤ 58; omega) (by show 600 ≤ 1728; omega) dX11_init_8 (fun q_1 H hq_1 hw => ?_)
  obtain ⟨S_2, eS_2⟩ : ∃ T, T = sN S q_1 16 600 := ⟨_, rfl⟩
  rw [← eS_2] at hw
  have ph_3 : Phc S_2 = Phc S + 0 := (show Phc S_2 = Phc S from Ph_sN' hG.ci hq_1 eS_2 (by decide)).trans hpc0
  have ph_4 : Phs S_2 = Phs S + 0 := (show Phs S_2 = Phs S from Ph_sN' hG.ci hq_1 eS_2 (by decide)).trans hps0
  clear hpc0
  clear hps0
  have hK_5 : Kq S S_2 x := hK.sN hq_1 eS_2
  have hg_6 : GX S_2 := by rw [eS_2]; exact GX_N hG hq_1 (by decide +kernel)
  have hn0_q_1 := hK.new hq_1
  have ha_7 : At S_2 q_1 16 := by rw [eS_2]; exact At_nN _ _ _ _
  have hn_8 : pN S_2 q_1 = 600 := by rw [eS_2]; exact pN_sN_new
  have t_9 : At S_2 x 191 := by rw [eS_2]; exact At_sN ha_x hq_1
  refine r_putR X hw t_9 rfl 0 1100 (some q_1) rfl tyX11 (by decide) rfl inn_X11_init_11 tyX11_ok nmX11 (by decide) (X.2.2.2.1 (.fieldLink RX11 11 "SilkMill" "cocoons" "[LSilkMill$Cocoon;") (by decide +kernel)) rfl (Or.inr ⟨rfl, hin, rfl⟩) (fun _ => rfl) rfl (fun _ => rfl) rfl (Nat.le_of_ble_eq_true rfl) (st_1100 _ _) dX11_init_11 (fun H locs hw => ?_)
  obtain ⟨S_10, eS_10⟩ : ∃ T, T = sR S_2 1100 x (some q_1) := ⟨_, rfl⟩
  rw [← eS_10] at hw
  have ph_11 : Phc S_10 = Phc S + 0 := (show Phc S_10 = Phc S_2 from Ph_rawR t_9 (by decide) eS_10).trans ph_3
  have ph_12 : Phs S_10 = Phs S + 0 := (show Phs S_10 = Phs S_2 from Ph_rawR t_9 (by decide) eS_10).trans ph_4
  clear ph_3
  clear ph_4
  have hK_13 : Kq S S_10 x := hK_5.sR eS_10
  have hg_14 : GX S_10 := by rw [eS_10]; exact GX_rawR hg_6 t_9 (by decide +kernel)
  have h_15 : pR S_10 1100 x = some q_1 := tR_sRs eS_10
  refine lv_aload_n X.1 X.2.1 dX11_init_14 rfl (lv_at hl 0 rfl) ?_
  refine lv_bipush (v := 10) X.1 X.2.1 dX11_init_15 (by decide) ?_
  refine r_newI (N := 10) X hw 54 610 2 rfl (X.2.2.2.1 (.arrayClass .int) (by decide +kernel)) (z_nn ti_10 (by omega)) (by decide) (by decide) (by show 1 + 1 ≤ 2; omega) (by show 600 + 10 ≤ 610; omega) (by show 2 ≤ 58; omega) (by show 610 ≤ 1728; omega) dX11_init_17 (fun q_16 H hq_16 hw => ?_)
  obtain ⟨S_17, eS_17⟩ : ∃ T, T = sN S_10 q_16 54 10 := ⟨_, rfl⟩
  rw [← eS_17] at hw
  have ph_18 : Phc S_17 = Phc S + 0 := (show Phc S_17 = Phc S_10 from Ph_sN' hg_14.ci hq_16 eS_17 (by decide)).trans ph_11
  have ph_19 : Phs S_17 = Phs S + 0 := (show Phs S_17 = Phs S_10 from Ph_sN' hg_14.ci hq_16 eS_17 (by decide)).trans ph_12
  clear ph_11
  clear ph_12
  have hK_20 : Kq S S_17 x := hK_13.sN hq_16 eS_17
  have hg_21 : GX S_17 := by rw [eS_17]; exact GX_N hg_14 hq_16 (by decide +kernel)
  have hn0_q_16 := hK_13.new hq_16
  have ha_22 : At S_17 q_16 54 := by rw [eS_17]; exact At_nN _ _ _ _
  have hn_23 : pN S_17 q_16 = 10 := by rw [eS_17]; exact pN_sN_new
  have t_24 : At S_10 x 191 := tAt_sR eS_10 t_9
  have t_25 : At S_17 x 191 := by rw [eS_17]; exact At_sN t_24 hq_16
  refine r_putR X hw t_25 rfl 1 1101 (some q_16) rfl tyX11 (by decide) rfl inn_X11_init_11 tyX11_ok nmX11 (by decide) (X.2.2.2.1 (.fieldLink RX11 15 "SilkMill" "lotSizes" "[I") (by decide +kernel)) rfl (Or.inr ⟨rfl, hin, rfl⟩) (fun _ => rfl) rfl (fun _ => rfl) rfl (Nat.le_of_ble_eq_true rfl) (st_1101 _ _) dX11_init_19 (fun H locs hw => ?_)
  obtain ⟨S_26, eS_26⟩ : ∃ T, T = sR S_17 1101 x (some q_16) := ⟨_, rfl⟩
  rw [← eS_26] at hw
  have ph_27 : Phc S_26 = Phc S + 0 := (show Phc S_26 = Phc S_17 from Ph_rawR t_25 (by decide) eS_26).trans ph_18
  have ph_28 : Phs S_26 = Phs S + 0 := (show Phs S_26 = Phs S_17 from Ph_rawR t_25 (by decide) eS_26).trans ph_19
  clear ph_18
  clear ph_19
  have hK_29 : Kq S S_26 x := hK_20.sR eS_26
  have hg_30 : GX S_26 := by rw [eS_26]; exact GX_rawR hg_21 t_25 (by decide +kernel)
  have h_31 : pR S_26 1101 x = some q_16 := tR_sRs eS_26
  refine lv_aload_n X.1 X.2.1 dX11_init_22 rfl (lv_at hl 0 rfl) ?_
  refine lv_iconst (v := 4) X.1 X.2.1 dX11_init_23 (by decide) ?_
  refine r_newQ (N := 4) (C := RX4) X hw 18 18 614 3 rfl (by decide) rfl (X.2.2.2.1 (.classLink RX11 19 RX4) (by decide +kernel)) X.2.2.2.2.2.2.2.1.1.2.2.1 (z_nn ti_4 (by omega)) (by decide) (by decide) (by show 2 + 1 ≤ 3; omega) (by show 610 + 4 ≤ 614; omega) (by show 3 ≤ 58; omega) (by show 614 ≤ 1728; omega) dX11_init_24 (fun q_32 H hq_32 hw => ?_)
  obtain ⟨S_33, eS_33⟩ : ∃ T, T = sN S_26 q_32 18 4 := ⟨_, rfl⟩
  rw [← eS_33] at hw
  have ph_34 : Phc S_33 = Phc S + 0 := (show Phc S_33 = Phc S_26 from Ph_sN' hg_30.ci hq_32 eS_33 (by decide)).trans ph_27
  have ph_35 : Phs S_33 = Phs S + 0 := (show Phs S_33 = Phs S_26 from Ph_sN' hg_30.ci hq_32 eS_33 (by decide)).trans ph_28
  clear ph_27
  clear ph_28
  have hK_36 : Kq S S_33 x := hK_29.sN hq_32 eS_33
  have hg_37 : GX S_33 := by rw [eS_33]; exact GX_N hg_30 hq_32 (by decide +kernel)
  have hn0_q_32 := hK_29.new hq_32
  have ha_38 : At S_33 q_32 18 := by rw [eS_33]; exact At_nN _ _ _ _
  have hn_39 : pN S_33 q_32 = 4 := by rw [eS_33]; exact pN_sN_new
  have t_40 : At S_26 x 191 := tAt_sR eS_26 t_25
  have t_41 : At S_33 x 191 := by rw [eS_33]; exact At_sN t_40 hq_32
  refine r_putR X hw t_41 rfl 3 1103 (some q_32) rfl tyX11 (by decide) rfl inn_X11_init_11 tyX11_ok nmX11 (by decide) (X.2.2.2.1 (.fieldLink RX11 21 "SilkMill" "pots" "[LSilkMill$Pot;") (by decide +kernel)) rfl (Or.inr ⟨rfl, hin, rfl⟩) (fun _ => rfl) rfl (fun _ => rfl) rfl (Nat.le_of_ble_eq_true rfl) (st_1103 _ _) dX11_init_27 (fun H locs hw => ?_)
  obtain ⟨S_42, eS_42⟩ : ∃ T, T = sR S_33 1103 x (some q_32) := ⟨_, rfl⟩
  rw [← eS_42] at hw
  have ph_43 : Phc S_42 = Phc S + 0 := (show Phc S_42 = Phc S_33 from Ph_rawR t_41 (by decide) eS_42).trans ph_34
  have ph_44 : Phs S_42 = Phs S + 0 := (show Phs S_42 = Phs S_33 from Ph_rawR t_41 (by decide) eS_42).trans ph_35
  clear ph_34
  clear ph_35
  have hK_45 : Kq S S_42 x := hK_36.sR eS_42
  have hg_46 : GX S_42 := by rw [eS_42]; exact GX_rawR hg_37 t_41 (by decide +kernel)
  have h_47 : pR S_42 1103 x = some q_32 := tR_sRs eS_42
  refine lv_aload_n X.1 X.2.1 dX11_init_30 rfl (lv_at hl 0 rfl) ?_
  refine r_new X hw 190 10 621 4 rfl tyX10 (by decide) rfl inn_X11_init_10 tyX10_ok (X.2.2.2.1 (.classLink RX11 25 RX10) (by decide +kernel)) (X.2.2.2.1 (.instantiable RX10 7) (by decide +kernel)) (X.2.2.2.1 (.initialized RX10) (by decide +kernel)) (zo_10 _) zd_10 (by show 3 + 1 ≤ 4; omega) (by show 614 + 7 ≤ 621; omega) (by show 4 ≤ 58; omega) (by show 621 ≤ 1728; omega) dX11_init_31 (fun q_48 H hq_48 hw => ?_)
  obtain ⟨S_49, eS_49⟩ : ∃ T, T = sO S_42 q_48 190 := ⟨_, rfl⟩
  rw [← eS_49] at hw
  have ph_50 : Phc S_49 = Phc S + 0 := (show Phc S_49 = Phc S_42 from Ph_sO hg_46 hq_48 eS_49 (by decide)).trans ph_43
  have ph_51 : Phs S_49 = Phs S + 0 := (show Phs S_49 = Phs S_42 from Ph_sO hg_46 hq_48 eS_49 (by decide)).trans ph_44
  clear ph_43
  clear ph_44
  have hK_52 : Kq S S_49 x := hK_45.sO hq_48 eS_49
  have hg_53 : GX S_49 := by rw [eS_49]; exact GX_O hg_46 hq_48 (by decide +kernel)
  have hn0_q_48 := hK_45.new hq_48
  have ha_54 : At S_49 q_48 190 := by rw [eS_49]; exact At_nO _ _ _
  have hzI_q_48 : ∀ g, pI S_49 g q_48 = 0 := fun g => by rw [eS_49]; exact pI_sO_new
  have hzR_q_48 : ∀ g, pR S_49 g q_48 = none := fun g => by rw [eS_49]; exact if_pos rfl
  refine lv_dup X.1 X.2.1 dX11_init_34 rfl ?_
  refine k_v (rm := { frames := 2, cells := 1, slots := 400, locals := 96 }) (av := [.ref q_48]) X hw (va_runIN (As := []) (rest := [.ref q_48, .ref x]) (cfix X) (k_X10_init l G cy κ S_49 _ q_48 hg_53 ha_54 hzI_q_48 hzR_q_48) ⟨(va_cnB (host := RX11) 0 X.2.2.2.1 gX11_init_X10_init_n27 rfl rfl rfl (X.2.2.2.2.2.2.2.1.2.1 (RX11, 27, yX10_init) (by decide +kernel)) (X.2.2.2.1 (.initialized RX10) (by decide +kernel)) (by decide +kernel) ⟨Nat.le_of_ble_eq_true rfl, Nat.le_of_ble_eq_true rfl⟩), rfl, (X.2.2.2.1 (.instanceMethod yX10_init) (by decide +kernel))⟩ (pre_S X hw _) rfl rfl hl.1 rfl (lv_room (Nat.le_of_ble_eq_true rfl)) dX11_init_35 ⟨(by show 4 + 1 ≤ 58; omega), (by show 621 + 400 ≤ 1728; omega)⟩) 5 1021 (by show 4 + 1 ≤ 5; omega) (by show 621 + 400 ≤ 1021; omega) (fun S_56 H locs hp hw hfr hnw => ?_)
  obtain ⟨hK_57, hg_58, ha_59, ph_60, ph_61⟩ := hp
  have hK_62 : Kq S S_56 x := hK_52.sub hn0_q_48 hK_57
  have ph_63 : Phc S_56 = Phc S + 0 := by omega
  have ph_64 : Phs S_56 = Phs S + 0 := by omega
  clear ph_50
  clear ph_51
  clear ph_60
  clear ph_61
  have t_65 : At S_42 x 191 := tAt_sR eS_42 t_41
  have t_66 : At S_49 x 191 := by rw [eS_49]; exact At_sO t_65 hq_48
  have t_67 : At S_56 x 191 := hK_57.at ha_54 t_66 (by decide)
  refine r_putR X hw t_67 rfl 5 1105 (some q_48) rfl tyX11 (by decide) rfl inn_X11_init_11 tyX11_ok nmX11 (by decide) (X.2.2.2.1 (.fieldLink RX11 28 "SilkMill" "tape" "LSilkMill$Tape;") (by decide +kernel)) rfl (Or.inr ⟨rfl, hin, rfl⟩) (fun _ => rfl) rfl (fun _ => rfl) rfl (Nat.le_of_ble_eq_true rfl) (st_1105 _ _) dX11_init_38 (fun H locs hw => ?_)
  obtain ⟨S_68, eS_68⟩ : ∃ T, T = sR S_56 1105 x (some q_48) := ⟨_, rfl⟩
  rw [← eS_68] at hw
  have ph_69 : Phc S_68 = Phc S + 0 := (show Phc S_68 = Phc S_56 from Ph_rawR t_67 (by decide) eS_68).trans ph_63
  have ph_70 : Phs S_68 = Phs S + 0 := (show Phs S_68 = Phs S_56 from Ph_rawR t_67 (by decide) eS_68).trans ph_64
  clear ph_63
  clear ph_64
  have hK_71 : Kq S S_68 x := hK_62.sR eS_68
  have hg_72 : GX S_68 := by rw [eS_68]; exact GX_rawR hg_58 t_67 (by decide +kernel)
  have h_73 : pR S_68 1105 x = some q_48 := tR_sRs eS_68
  refine lv_aload_n X.1 X.2.1 dX11_init_41 rfl (lv_at hl 0 rfl) ?_
  refine r_new X hw 186 6 1028 6 rfl tyX6 (by decide) rfl inn_X11_init_6 tyX6_ok (X.2.2.2.1 (.classLink RX11 32 RX6) (by decide +kernel)) (X.2.2.2.1 (.instantiable RX6 7) (by decide +kernel)) (X.2.2.2.1 (.initialized RX6) (by decide +kernel)) (zo_6 _) zd_6 (by show 5 + 1 ≤ 6; omega) (by show 1021 + 7 ≤ 1028; omega) (by show 6 ≤ 58; omega) (by show 1028 ≤ 1728; omega) dX11_init_42 (fun q_74 H hq_74 hw => ?_)
  obtain ⟨S_75, eS_75⟩ : ∃ T, T = sO S_68 q_74 186 := ⟨_, rfl⟩
  rw [← eS_75] at hw
  have ph_76 : Phc S_75 = Phc S + 0 := (show Phc S_75 = Phc S_68 from Ph_sO hg_72 hq_74 eS_75 (by decide)).trans ph_69
  have ph_77 : Phs S_75 = Phs S + 0 := (show Phs S_75 = Phs S_68 from Ph_sO hg_72 hq_74 eS_75 (by decide)).trans ph_70
  clear ph_69
  clear ph_70
  have hK_78 : Kq S S_75 x := hK_71.sO hq_74 eS_75
  have hg_79 : GX S_75 := by rw [eS_75]; exact GX_O hg_72 hq_74 (by decide +kernel)
  have hn0_q_74 := hK_71.new hq_74
  have ha_80 : At S_75 q_74 186 := by rw [eS_75]; exact At_nO _ _ _
  have hzI_q_74 : ∀ g, pI S_75 g q_74 = 0 := fun g => by rw [eS_75]; exact pI_sO_new
  have hzR_q_74 : ∀ g, pR S_75 g q_74 = none := fun g => by rw [eS_75]; exact if_pos rfl
  refine lv_dup X.1 X.2.1 dX11_init_45 rfl ?_
  refine k_v (rm := { frames := 2, cells := 6, slots := 180, locals := 96 }) (av := [.ref q_74]) X hw (va_runIN (As := []) (rest := [.ref q_74, .ref x]) (cfix X) (k_X6_init l G cy κ S_75 _ q_74 hg_79 ha_80 hzI_q_74 hzR_q_74) ⟨(va_cnB (host := RX11) 0 X.2.2.2.1 gX11_init_X6_init_n34 rfl rfl rfl (X.2.2.2.2.2.2.2.1.2.1 (RX11, 34, yX6_init) (by decide +kernel)) (X.2.2.2.1 (.initialized RX6) (by decide +kernel)) (by decide +kernel) ⟨Nat.le_of_ble_eq_true rfl, Nat.le_of_ble_eq_true rfl⟩), rfl, (X.2.2.2.1 (.instanceMethod yX6_init) (by decide +kernel))⟩ (pre_S X hw _) rfl rfl hl.1 rfl (lv_room (Nat.le_of_ble_eq_true rfl)) dX11_init_46 ⟨(by show 6 + 6 ≤ 58; omega), (by show 1028 + 180 ≤ 1728; omega)⟩) 12 1208 (by show 6 + 6 ≤ 12; omega) (by show 1028 + 180 ≤ 1208; omega) (fun S_82 H locs hp hw hfr hnw => ?_)
  obtain ⟨hK_83, hg_84, ha_85, ph_86, ph_87⟩ := hp
  have hK_88 : Kq S S_82 x := hK_78.sub hn0_q_74 hK_83
  have ph_89 : Phc S_82 = Phc S + 0 := by omega
  have ph_90 : Phs S_82 = Phs S + 0 := by omega
  clear ph_76
  clear ph_77
  clear ph_86
  clear ph_87
  have t_91 : At S_68 x 191 := tAt_sR eS_68 t_67
  have t_92 : At S_75 x 191 := by rw [eS_75]; exact At_sO t_91 hq_74
  have t_93 : At S_82 x 191 := hK_83.at ha_80 t_92 (by decide)
  refine r_putR X hw t_93 rfl 6 1106 (some q_74) rfl tyX11 (by decide) rfl inn_X11_init_11 tyX11_ok nmX11 (by decide) (X.2.2.2.1 (.fieldLink RX11 35 "SilkMill" "spareRules" "LSilkMill$Rules;") (by decide +kernel)) rfl (Or.inl rfl) (fun _ => rfl) rfl (fun _ => rfl) rfl (Nat.le_of_ble_eq_true rfl) (st_1106 _ _) dX11_init_49 (fun H locs hw => ?_)
  obtain ⟨S_94, eS_94⟩ : ∃ T, T = sR S_82 1106 x (some q_74) := ⟨_, rfl⟩
  rw [← eS_94] at hw
  have ph_95 : Phc S_94 = Phc S + 0 := (show Phc S_94 = Phc S_82 from Ph_rawR t_93 (by decide) eS_94).trans ph_89
  have ph_96 : Phs S_94 = Phs S + 0 := (show Phs S_94 = Phs S_82 from Ph_rawR t_93 (by decide) eS_94).trans ph_90
  clear ph_89
  clear ph_90
  have hK_97 : Kq S S_94 x := hK_88.sR eS_94
  have hg_98 : GX S_94 := by rw [eS_94]; exact GX_rawR hg_84 t_93 (by decide +kernel)
  have h_99 : pR S_94 1106 x = some q_74 := tR_sRs eS_94
  refine lv_aload_n X.1 X.2.1 dX11_init_52 rfl (lv_at hl 0 rfl) ?_
  refine r_new X hw 188 8 1221 13 rfl tyX8 (by decide) rfl inn_X11_init_8 tyX8_ok (X.2.2.2.1 (.classLink RX11 39 RX8) (by decide +kernel)) (X.2.2.2.1 (.instantiable RX8 13) (by decide +kernel)) (X.2.2.2.1 (.initialized RX8) (by decide +kernel)) (zo_8 _) zd_8 (by show 12 + 1 ≤ 13; omega) (by show 1208 + 13 ≤ 1221; omega) (by show 13 ≤ 58; omega) (by show 1221 ≤ 1728; omega) dX11_init_53 (fun q_100 H hq_100 hw => ?_)
  obtain ⟨S_101, eS_101⟩ : ∃ T, T = sO S_94 q_100 188 := ⟨_, rfl⟩
  rw [← eS_101] at hw
  have ph_102 : Phc S_101 = Phc S + 0 := (show Phc S_101 = Phc S_94 from Ph_sO hg_98 hq_100 eS_101 (by decide)).trans ph_95
  have ph_103 : Phs S_101 = Phs S + 0 := (show Phs S_101 = Phs S_94 from Ph_sO hg_98 hq_100 eS_101 (by decide)).trans ph_96
  clear ph_95
  clear ph_96
  have hK_104 : Kq S S_101 x := hK_97.sO hq_100 eS_101
  have hg_105 : GX S_101 := by rw [eS_101]; exact GX_O hg_98 hq_100 (by decide +kernel)
  have hn0_q_100 := hK_97.new hq_100
  have ha_106 : At S_101 q_100 188 := by rw [eS_101]; exact At_nO _ _ _
  have hzI_q_100 : ∀ g, pI S_101 g q_100 = 0 := fun g => by rw [eS_101]; exact pI_sO_new
  have hzR_q_100 : ∀ g, pR S_101 g q_100 = none := fun g => by rw [eS_101]; exact if_pos rfl
  refine lv_dup X.1 X.2.1 dX11_init_56 rfl ?_
  refine k_v (rm := { frames := 3, cells := 9, slots := 214, locals := 144 }) (av := [.ref q_100]) X hw (va_runIN (As := []) (rest := [.ref q_100, .ref x]) (cfix X) (k_X8_init l G cy κ S_101 _ q_100 hg_105 ha_106 hzI_q_100 hzR_q_100) ⟨(va_cnB (host := RX11) 0 X.2.2.2.1 gX11_init_X8_init_n41 rfl rfl rfl (X.2.2.2.2.2.2.2.1.2.1 (RX11, 41, yX8_init) (by decide +kernel)) (X.2.2.2.1 (.initialized RX8) (by decide +kernel)) (by decide +kernel) ⟨Nat.le_of_ble_eq_true rfl, Nat.le_of_ble_eq_true rfl⟩), rfl, (X.2.2.2.1 (.instanceMethod yX8_init) (by decide +kernel))⟩ (pre_S X hw _) rfl rfl hl.1 rfl (lv_room (Nat.le_of_ble_eq_true rfl)) dX11_init_57 ⟨(by show 13 + 9 ≤ 58; omega), (by show 1221 + 214 ≤ 1728; omega)⟩) 22 1435 (by show 13 + 9 ≤ 22; omega) (by show 1221 + 214 ≤ 1435; omega) (fun S_108 H locs hp hw hfr hnw => ?_)
  obtain ⟨hK_109, hg_110, ha_111, ph_112, ph_113, kz_114⟩ := hp
  have hK_115 : Kq S S_108 x := hK_104.sub hn0_q_100 hK_109
  have ph_116 : Phc S_108 = Phc S + 320 := by omega
  have ph_117 : Phs S_108 = Phs S + 604000 := by omega
  clear ph_102
  clear ph_103
  clear ph_112
  clear ph_113
  have t_118 : At S_94 x 191 := tAt_sR eS_94 t_93
  have t_119 : At S_101 x 191 := by rw [eS_101]; exact At_sO t_118 hq_100
  have t_120 : At S_108 x 191 := hK_109.at ha_106 t_119 (by decide)
  refine r_putR X hw t_120 rfl 7 1107 (some q_100) rfl tyX11 (by decide) rfl inn_X11_init_11 tyX11_ok nmX11 (by decide) (X.2.2.2.1 (.fieldLink RX11 42 "SilkMill" "store" "LSilkMill$Store;") (by decide +kernel)) rfl (Or.inr ⟨rfl, hin, rfl⟩) (fun _ => rfl) rfl (fun _ => rfl) rfl (Nat.le_of_ble_eq_true rfl) (st_1107 _ _) dX11_init_60 (fun H locs hw => ?_)
  obtain ⟨S_121, eS_121⟩ : ∃ T, T = sR S_108 1107 x (some q_100) := ⟨_, rfl⟩
  rw [← eS_121] at hw
  have ph_122 : Phc S_121 = Phc S + 320 := (show Phc S_121 = Phc S_108 from Ph_rawR t_120 (by decide) eS_121).trans ph_116
  have ph_123 : Phs S_121 = Phs S + 604000 := (show Phs S_121 = Phs S_108 from Ph_rawR t_120 (by decide) eS_121).trans ph_117
  clear ph_116
  clear ph_117
  have hK_124 : Kq S S_121 x := hK_115.sR eS_121
  have hg_125 : GX S_121 := by rw [eS_121]; exact GX_rawR hg_110 t_120 (by decide +kernel)
  have h_126 : pR S_121 1107 x = some q_100 := tR_sRs eS_121
  refine lv_aload_n X.1 X.2.1 dX11_init_63 rfl (lv_at hl 0 rfl) ?_
  refine r_new X hw 181 1 1439 23 rfl tyX1 (by decide) rfl inn_X11_init_1 tyX1_ok (X.2.2.2.1 (.classLink RX11 46 RX1) (by decide +kernel)) (X.2.2.2.1 (.instantiable RX1 4) (by decide +kernel)) (X.2.2.2.1 (.initialized RX1) (by decide +kernel)) (zo_1 _) zd_1 (by show 22 + 1 ≤ 23; omega) (by show 1435 + 4 ≤ 1439; omega) (by show 23 ≤ 58; omega) (by show 1439 ≤ 1728; omega) dX11_init_64 (fun q_127 H hq_127 hw => ?_)
  obtain ⟨S_128, eS_128⟩ : ∃ T, T = sO S_121 q_127 181 := ⟨_, rfl⟩
  rw [← eS_128] at hw
  have ph_129 : Phc S_128 = Phc S + 320 := (show Phc S_128 = Phc S_121 from Ph_sO hg_125 hq_127 eS_128 (by decide)).trans ph_122
  have ph_130 : Phs S_128 = Phs S + 604000 := (show Phs S_128 = Phs S_121 from Ph_sO hg_125 hq_127 eS_128 (by decide)).trans ph_123
  clear ph_122
  clear ph_123
  have hK_131 : Kq S S_128 x := hK_124.sO hq_127 eS_128
  have hg_132 : GX S_128 := by rw [eS_128]; exact GX_O hg_125 hq_127 (by decide +kernel)
  have hn0_q_127 := hK_124.new hq_127
  have ha_133 : At S_128 q_127 181 := by rw [eS_128]; exact At_nO _ _ _
  have hzI_q_127 : ∀ g, pI S_128 g q_127 = 0 := fun g => by rw [eS_128]; exact pI_sO_new
  have hzR_q_127 : ∀ g, pR S_128 g q_127 = none := fun g => by rw [eS_128]; exact if_pos rfl
  refine lv_dup X.1 X.2.1 dX11_init_67 rfl ?_
  refine k_v (rm := { frames := 2, cells := 1, slots := 5, locals := 96 }) (av := [.ref q_127]) X hw (va_runIN (As := []) (rest := [.ref q_127, .ref x]) (cfix X) (k_X1_init l G cy κ S_128 _ q_127 hg_132 ha_133 hzI_q_127 hzR_q_127) ⟨(va_cnB (host := RX11) 0 X.2.2.2.1 gX11_init_X1_init_n48 rfl rfl rfl (X.2.2.2.2.2.2.2.1.2.1 (RX11, 48, yX1_init) (by decide +kernel)) (X.2.2.2.1 (.initialized RX1) (by decide +kernel)) (by decide +kernel) ⟨Nat.le_of_ble_eq_true rfl, Nat.le_of_ble_eq_true rfl⟩), rfl, (X.2.2.2.1 (.instanceMethod yX1_init) (by decide +kernel))⟩ (pre_S X hw _) rfl rfl hl.1 rfl (lv_room (Nat.le_of_ble_eq_true rfl)) dX11_init_68 ⟨(by show 23 + 1 ≤ 58; omega), (by show 1439 + 5 ≤ 1728; omega)⟩) 24 1444 (by show 23 + 1 ≤ 24; omega) (by show 1439 + 5 ≤ 1444; omega) (fun S_135 H locs hp hw hfr hnw => ?_)
  obtain ⟨hK_136, hg_137, ha_138, ph_139, ph_140⟩ := hp
  have hK_141 : Kq S S_135 x := hK_131.sub hn0_q_127 hK_136
  have ph_142 : Phc S_135 = Phc S + 320 := by omega
  have ph_143 : Phs S_135 = Phs S + 604000 := by omega
  clear ph_129
  clear ph_130
  clear ph_139
  clear ph_140
  have t_144 : At S_121 x 191 := tAt_sR eS_121 t_120
  have t_145 : At S_128 x 191 := by rw [eS_128]; exact At_sO t_144 hq_127
  have t_146 : At S_135 x 191 := hK_136.at ha_133 t_145 (by decide)
  refine r_putR X hw t_146 rfl 8 1108 (some q_127) rfl tyX11 (by decide) rfl inn_X11_init_11 tyX11_ok nmX11 (by decide) (X.2.2.2.1 (.fieldLink RX11 49 "SilkMill" "latestDraw" "LSilkMill$Draw;") (by decide +kernel)) rfl (Or.inr ⟨rfl, hin, rfl⟩) (fun _ => rfl) rfl (fun _ => rfl) rfl (Nat.le_of_ble_eq_true rfl) (st_1108 _ _) dX11_init_71 (fun H locs hw => ?_)
  obtain ⟨S_147, eS_147⟩ : ∃ T, T = sR S_135 1108 x (some q_127) := ⟨_, rfl⟩
  rw [← eS_147] at hw
  have ph_148 : Phc S_147 = Phc S + 320 := (show Phc S_147 = Phc S_135 from Ph_rawR t_146 (by decide) eS_147).trans ph_142
  have ph_149 : Phs S_147 = Phs S + 604000 := (show Phs S_147 = Phs S_135 from Ph_rawR t_146 (by decide) eS_147).trans ph_143
  clear ph_142
  clear ph_143
  have hK_150 : Kq S S_147 x := hK_141.sR eS_147
  have hg_151 : GX S_147 := by rw [eS_147]; exact GX_rawR hg_137 t_146 (by decide +kernel)
  have h_152 : pR S_147 1108 x = some q_127 := tR_sRs eS_147
  refine lv_aload_n X.1 X.2.1 dX11_init_74 rfl (lv_at hl 0 rfl) ?_
  refine lv_bipush (v := 16) X.1 X.2.1 dX11_init_75 (by decide) ?_
  refine r_newQ (N := 16) (C := RX3) X hw 17 17 1460 25 rfl (by decide) rfl (X.2.2.2.1 (.classLink RX11 53 RX3) (by decide +kernel)) X.2.2.2.2.2.2.2.1.1.2.1 (z_nn ti_16 (by omega)) (by decide) (by decide) (by show 24 + 1 ≤ 25; omega) (by show 1444 + 16 ≤ 1460; omega) (by show 25 ≤ 58; omega) (by show 1460 ≤ 1728; omega) dX11_init_77 (fun q_153 H hq_153 hw => ?_)
  obtain ⟨S_154, eS_154⟩ : ∃ T, T = sN S_147 q_153 17 16 := ⟨_, rfl⟩
  rw [← eS_154] at hw
  have ph_155 : Phc S_154 = Phc S + 320 := (show Phc S_154 = Phc S_147 from Ph_sN' hg_151.ci hq_153 eS_154 (by decide)).trans ph_148
  have ph_156 : Phs S_154 = Phs S + 604000 := (show Phs S_154 = Phs S_147 from Ph_sN' hg_151.ci hq_153 eS_154 (by decide)).trans ph_149
  clear ph_148
  clear ph_149
  have hK_157 : Kq S S_154 x := hK_150.sN hq_153 eS_154
  have hg_158 : GX S_154 := by rw [eS_154]; exact GX_N hg_151 hq_153 (by decide +kernel)
  have hn0_q_153 := hK_150.new hq_153
  have ha_159 : At S_154 q_153 17 := by rw [eS_154]; exact At_nN _ _ _ _
  have hn_160 : pN S_154 q_153 = 16 := by rw [eS_154]; exact pN_sN_new
  have t_161 : At S_147 x 191 := tAt_sR eS_147 t_146
  have t_162 : At S_154 x 191 := by rw [eS_154]; exact At_sN t_161 hq_153
  refine r_putR X hw t_162 rfl 9 1109 (some q_153) rfl tyX11 (by decide) rfl inn_X11_init_11 tyX11_ok nmX11 (by decide) (X.2.2.2.1 (.fieldLink RX11 55 "SilkMill" "shelf" "[LSilkMill$Place;") (by decide +kernel)) rfl (Or.inr ⟨rfl, hin, rfl⟩) (fun _ => rfl) rfl (fun _ => rfl) rfl (Nat.le_of_ble_eq_true rfl) (st_1109 _ _) dX11_init_80 (fun H locs hw => ?_)
  obtain ⟨S_163, eS_163⟩ : ∃ T, T = sR S_154 1109 x (some q_153) := ⟨_, rfl⟩
  rw [← eS_163] at hw
  have ph_164 : Phc S_163 = Phc S + 320 := (show Phc S_163 = Phc S_154 from Ph_rawR t_162 (by decide) eS_163).trans ph_155
  have ph_165 : Phs S_163 = Phs S + 604000 := (show Phs S_163 = Phs S_154 from Ph_rawR t_162 (by decide) eS_163).trans ph_156
  clear ph_155
  clear ph_156
  have hK_166 : Kq S S_163 x := hK_157.sR eS_163
  have hg_167 : GX S_163 := by rw [eS_163]; exact GX_rawR hg_158 t_162 (by decide +kernel)
  have h_168 : pR S_163 1109 x = some q_153 := tR_sRs eS_163
  refine lv_aload_n X.1 X.2.1 dX11_init_83 rfl (lv_at hl 0 rfl) ?_
  refine lv_bipush (v := 60) X.1 X.2.1 dX11_init_84 (by decide) ?_
  refine r_newI (N := 60) X hw 14 1520 26 rfl (X.2.2.2.1 (.arrayClass .int) (by decide +kernel)) (z_nn ti_60 (by omega)) (by decide) (by decide) (by show 25 + 1 ≤ 26; omega) (by show 1460 + 60 ≤ 1520; omega) (by show 26 ≤ 58; omega) (by show 1520 ≤ 1728; omega) dX11_init_86 (fun q_169 H hq_169 hw => ?_)
  obtain ⟨S_170, eS_170⟩ : ∃ T, T = sN S_163 q_169 14 60 := ⟨_, rfl⟩
  rw [← eS_170] at hw
  have ph_171 : Phc S_170 = Phc S + 320 := (show Phc S_170 = Phc S_163 from Ph_sN' hg_167.ci hq_169 eS_170 (by decide)).trans ph_164
  have ph_172 : Phs S_170 = Phs S + 604000 := (show Phs S_170 = Phs S_163 from Ph_sN' hg_167.ci hq_169 eS_170 (by decide)).trans ph_165
  clear ph_164
  clear ph_165
  have hK_173 : Kq S S_170 x := hK_166.sN hq_169 eS_170
  have hg_174 : GX S_170 := by rw [eS_170]; exact GX_N hg_167 hq_169 (by decide +kernel)
  have hn0_q_169 := hK_166.new hq_169
  have ha_175 : At S_170 q_169 14 := by rw [eS_170]; exact At_nN _ _ _ _
  have hn_176 : pN S_170 q_169 = 60 := by rw [eS_170]; exact pN_sN_new
  have t_177 : At S_163 x 191 := tAt_sR eS_163 t_162
  have t_178 : At S_170 x 191 := by rw [eS_170]; exact At_sN t_177 hq_169
  refine r_putR X hw t_178 rfl 11 1111 (some q_169) rfl tyX11 (by decide) rfl inn_X11_init_11 tyX11_ok nmX11 (by decide) (X.2.2.2.1 (.fieldLink RX11 59 "SilkMill" "idle" "[I") (by decide +kernel)) rfl (Or.inr ⟨rfl, hin, rfl⟩) (fun _ => rfl) rfl (fun _ => rfl) rfl (Nat.le_of_ble_eq_true rfl) (st_1111 _ _) dX11_init_88 (fun H locs hw => ?_)
  obtain ⟨S_179, eS_179⟩ : ∃ T, T = sR S_170 1111 x (some q_169) := ⟨_, rfl⟩
  rw [← eS_179] at hw
  have ph_180 : Phc S_179 = Phc S + 320 := (show Phc S_179 = Phc S_170 from Ph_rawR t_178 (by decide) eS_179).trans ph_171
  have ph_181 : Phs S_179 = Phs S + 604000 := (show Phs S_179 = Phs S_170 from Ph_rawR t_178 (by decide) eS_179).trans ph_172
  clear ph_171
  clear ph_172
  have hK_182 : Kq S S_179 x := hK_173.sR eS_179
  have hg_183 : GX S_179 := by rw [eS_179]; exact GX_rawR hg_174 t_178 (by decide +kernel)
  have h_184 : pR S_179 1111 x = some q_169 := tR_sRs eS_179
  refine lv_iconst (v := 0) X.1 X.2.1 dX11_init_91 (by decide) ?_
  refine lv_istore_n (lv' := [(1, .int 0), (0, .ref x)]) X.1 X.2.1 dX11_init_92 rfl hl (by decide) rfl (fun ls hl => ?_)
  have t_190 : At S_121 x 191 := tAt_sR eS_121 t_120
  have t_189 : pR S_128 1107 x = some q_100 := by rw [eS_128]; exact (pR_sO_ne (ne_of_new hq_127 t_190.1)).trans h_126
  have t_192 : At S_128 x 191 := by rw [eS_128]; exact At_sO t_190 hq_127
  have t_191 : pR S_135 1107 x = some q_100 := (((hK_136 x t_192.1).2 (At_ne t_192 ha_133 (by decide))).2.2.1 1107).trans t_189
  have t_193 : pR S_147 1107 x = some q_100 := tR_sR eS_147 rfl t_191
  have t_194 : pR S_154 1107 x = some q_100 := by rw [eS_154, pR_sN]; exact t_193
  have t_195 : pR S_163 1107 x = some q_100 := tR_sR eS_163 rfl t_194
  have t_196 : pR S_170 1107 x = some q_100 := by rw [eS_170, pR_sN]; exact t_195
  have t_197 : pR S_179 1107 x = some q_100 := tR_sR eS_179 rfl t_196
  have t_198 : pI S_2 1102 x = 0 := by rw [eS_2, pI_sN]; exact (hzI 1102)
  have t_199 : pI S_10 1102 x = 0 := tI_sR eS_10 t_198
  have t_200 : pI S_17 1102 x = 0 := by rw [eS_17, pI_sN]; exact t_199
  have t_201 : pI S_26 1102 x = 0 := tI_sR eS_26 t_200
  have t_202 : pI S_33 1102 x = 0 := by rw [eS_33, pI_sN]; exact t_201
  have t_203 : pI S_42 1102 x = 0 := tI_sR eS_42 t_202
  have t_205 : At S_42 x 191 := tAt_sR eS_42 t_41
  have t_204 : pI S_49 1102 x = 0 := by rw [eS_49]; exact (pI_sO_ne (ne_of_new hq_48 t_205.1)).trans t_203
  have t_207 : At S_49 x 191 := by rw [eS_49]; exact At_sO t_205 hq_48
  have t_206 : pI S_56 1102 x = 0 := (((hK_57 x t_207.1).2 (At_ne t_207 ha_54 (by decide))).2.1 1102).trans t_204
  have t_208 : pI S_68 1102 x = 0 := tI_sR eS_68 t_206
  have t_210 : At S_68 x 191 := tAt_sR eS_68 t_67
  have t_209 : pI S_75 1102 x = 0 := by rw [eS_75]; exact (pI_sO_ne (ne_of_new hq_74 t_210.1)).trans t_208
  have t_212 : At S_75 x 191 := by rw [eS_75]; exact At_sO t_210 hq_74
  have t_211 : pI S_82 1102 x = 0 := (((hK_83 x t_212.1).2 (At_ne t_212 ha_80 (by decide))).2.1 1102).trans t_209
  have t_213 : pI S_94 1102 x = 0 := tI_sR eS_94 t_211
  have t_215 : At S_94 x 191 := tAt_sR eS_94 t_93
  have t_214 : pI S_101 1102 x = 0 := by rw [eS_101]; exact (pI_sO_ne (ne_of_new hq_100 t_215.1)).trans t_213
  have t_217 : At S_101 x 191 := by rw [eS_101]; exact At_sO t_215 hq_100
  have t_216 : pI S_108 1102 x = 0 := (((hK_109 x t_217.1).2 (At_ne t_217 ha_106 (by decide))).2.1 1102).trans t_214
  have t_218 : pI S_121 1102 x = 0 := tI_sR eS_121 t_216
  have t_219 : pI S_128 1102 x = 0 := by rw [eS_128]; exact (pI_sO_ne (ne_of_new hq_127 t_190.1)).trans t_218
  have t_220 : pI S_135 1102 x = 0 := (((hK_136 x t_192.1).2 (At_ne t_192 ha_133 (by decide))).2.1 1102).trans t_219
  have t_221 : pI S_147 1102 x = 0 := tI_sR eS_147 t_220
  have t_222 : pI S_154 1102 x = 0 := by rw [eS_154, pI_sN]; exact t_221
  have t_223 : pI S_163 1102 x = 0 := tI_sR eS_163 t_222
  have t_224 : pI S_170 1102 x = 0 := by rw [eS_170, pI_sN]; exact t_223
  have t_225 : pI S_179 1102 x = 0 := tI_sR eS_179 t_224
  have t_227 : pI S_2 1104 x = 0 := by rw [eS_2, pI_sN]; exact (hzI 1104)
  have t_228 : pI S_10 1104 x = 0 := tI_sR eS_10 t_227
  have t_229 : pI S_17 1104 x = 0 := by rw [eS_17, pI_sN]; exact t_228
  have t_230 : pI S_26 1104 x = 0 := tI_sR eS_26 t_229
  have t_231 : pI S_33 1104 x = 0 := by rw [eS_33, pI_sN]; exact t_230
  have t_232 : pI S_42 1104 x = 0 := tI_sR eS_42 t_231
  have t_233 : pI S_49 1104 x = 0 := by rw [eS_49]; exact (pI_sO_ne (ne_of_new hq_48 t_205.1)).trans t_232
  have t_234 : pI S_56 1104 x = 0 := (((hK_57 x t_207.1).2 (At_ne t_207 ha_54 (by decide))).2.1 1104).trans t_233
  have t_235 : pI S_68 1104 x = 0 := tI_sR eS_68 t_234
  have t_236 : pI S_75 1104 x = 0 := by rw [eS_75]; exact (pI_sO_ne (ne_of_new hq_74 t_210.1)).trans t_235
  have t_237 : pI S_82 1104 x = 0 := (((hK_83 x t_212.1).2 (At_ne t_212 ha_80 (by decide))).2.1 1104).trans t_236
  have t_238 : pI S_94 1104 x = 0 := tI_sR eS_94 t_237
  have t_239 : pI S_101 1104 x = 0 := by rw [eS_101]; exact (pI_sO_ne (ne_of_new hq_100 t_215.1)).trans t_238
  have t_240 : pI S_108 1104 x = 0 := (((hK_109 x t_217.1).2 (At_ne t_217 ha_106 (by decide))).2.1 1104).trans t_239
  have t_241 : pI S_121 1104 x = 0 := tI_sR eS_121 t_240
  have t_242 : pI S_128 1104 x = 0 := by rw [eS_128]; exact (pI_sO_ne (ne_of_new hq_127 t_190.1)).trans t_241
  have t_243 : pI S_135 1104 x = 0 := (((hK_136 x t_192.1).2 (At_ne t_192 ha_133 (by decide))).2.1 1104).trans t_242
  have t_244 : pI S_147 1104 x = 0 := tI_sR eS_147 t_243
  have t_245 : pI S_154 1104 x = 0 := by rw [eS_154, pI_sN]; exact t_244
  have t_246 : pI S_163 1104 x = 0 := tI_sR eS_163 t_245
  have t_247 : pI S_170 1104 x = 0 := by rw [eS_170, pI_sN]; exact t_246
  have t_248 : pI S_179 1104 x = 0 := tI_sR eS_179 t_247
  have t_250 : pI S_121 801 q_100 = 0 := tI_sR eS_121 kz_114
  have t_252 : At S_121 q_100 8 := tAt_sR eS_121 ha_111
  have t_251 : pI S_128 801 q_100 = 0 := by rw [eS_128]; exact (pI_sO_ne (ne_of_new hq_127 t_252.1)).trans t_250
  have t_254 : At S_128 q_100 8 := by rw [eS_128]; exact At_sO t_252 hq_127
  have t_253 : pI S_135 801 q_100 = 0 := (((hK_136 q_100 t_254.1).2 (At_ne t_254 ha_133 (by decide))).2.1 801).trans t_251
  have t_255 : pI S_147 801 q_100 = 0 := tI_sR eS_147 t_253
  have t_256 : pI S_154 801 q_100 = 0 := by rw [eS_154, pI_sN]; exact t_255
  have t_257 : pI S_163 801 q_100 = 0 := tI_sR eS_163 t_256
  have t_258 : pI S_170 801 q_100 = 0 := by rw [eS_170, pI_sN]; exact t_257
  have t_259 : pI S_179 801 q_100 = 0 := tI_sR eS_179 t_258
  have t_261 : pR S_17 1100 x = some q_1 := by rw [eS_17, pR_sN]; exact h_15
  have t_262 : pR S_26 1100 x = some q_1 := tR_sR eS_26 rfl t_261
  have t_263 : pR S_33 1100 x = some q_1 := by rw [eS_33, pR_sN]; exact t_262
  have t_264 : pR S_42 1100 x = some q_1 := tR_sR eS_42 rfl t_263
  have t_265 : pR S_49 1100 x = some q_1 := by rw [eS_49]; exact (pR_sO_ne (ne_of_new hq_48 t_205.1)).trans t_264
  have t_266 : pR S_56 1100 x = some q_1 := (((hK_57 x t_207.1).2 (At_ne t_207 ha_54 (by decide))).2.2.1 1100).trans t_265
  have t_267 : pR S_68 1100 x = some q_1 := tR_sR eS_68 rfl t_266
  have t_268 : pR S_75 1100 x = some q_1 := by rw [eS_75]; exact (pR_sO_ne (ne_of_new hq_74 t_210.1)).trans t_267
  have t_269 : pR S_82 1100 x = some q_1 := (((hK_83 x t_212.1).2 (At_ne t_212 ha_80 (by decide))).2.2.1 1100).trans t_268
  have t_270 : pR S_94 1100 x = some q_1 := tR_sR eS_94 rfl t_269
  have t_271 : pR S_101 1100 x = some q_1 := by rw [eS_101]; exact (pR_sO_ne (ne_of_new hq_100 t_215.1)).trans t_270
  have t_272 : pR S_108 1100 x = some q_1 := (((hK_109 x t_217.1).2 (At_ne t_217 ha_106 (by decide))).2.2.1 1100).trans t_271
  have t_273 : pR S_121 1100 x = some q_1 := tR_sR eS_121 rfl t_272
  have t_274 : pR S_128 1100 x = some q_1 := by rw [eS_128]; exact (pR_sO_ne (ne_of_new hq_127 t_190.1)).trans t_273
  have t_275 : pR S_135 1100 x = some q_1 := (((hK_136 x t_192.1).2 (At_ne t_192 ha_133 (by decide))).2.2.1 1100).trans t_274
  have t_276 : pR S_147 1100 x = some q_1 := tR_sR eS_147 rfl t_275
  have t_277 : pR S_154 1100 x = some q_1 := by rw [eS_154, pR_sN]; exact t_276
  have t_278 : pR S_163 1100 x = some q_1 := tR_sR eS_163 rfl t_277
  have t_279 : pR S_170 1100 x = some q_1 := by rw [eS_170, pR_sN]; exact t_278
  have t_280 : pR S_179 1100 x = some q_1 := tR_sR eS_179 rfl t_279
  have t_283 : pN S_10 q_1 = 600 := tN_sR eS_10 hn_8
  clear hn_8
  have t_285 : At S_10 q_1 16 := tAt_sR eS_10 ha_7
  have t_284 : pN S_17 q_1 = 600 := by rw [eS_17]; exact (pN_sN_ne (ne_of_new hq_16 t_285.1)).trans t_283
  clear t_283
  have t_286 : pN S_26 q_1 = 600 := tN_sR eS_26 t_284
  clear t_284
  have t_288 : At S_17 q_1 16 := by rw [eS_17]; exact At_sN t_285 hq_16
  have t_289 : At S_26 q_1 16 := tAt_sR eS_26 t_288
  have t_287 : pN S_33 q_1 = 600 := by rw [eS_33]; exact (pN_sN_ne (ne_of_new hq_32 t_289.1)).trans t_286
  clear t_286
  have t_290 : pN S_42 q_1 = 600 := tN_sR eS_42 t_287
  clear t_287
  have t_291 : pN S_49 q_1 = 600 := by rw [eS_49, pN_sO]; exact t_290
  clear t_290
  have t_293 : At S_33 q_1 16 := by rw [eS_33]; exact At_sN t_289 hq_32
  have t_294 : At S_42 q_1 16 := tAt_sR eS_42 t_293
  have t_295 : At S_49 q_1 16 := by rw [eS_49]; exact At_sO t_294 hq_48
  have t_292 : pN S_56 q_1 = 600 := ((hK_57 q_1 t_295.1).2 (At_ne t_295 ha_54 (by decide))).2.2.2.1.trans t_291
  clear t_291
  have t_296 : pN S_68 q_1 = 600 := tN_sR eS_68 t_292
  clear t_292
  have t_297 : pN S_75 q_1 = 600 := by rw [eS_75, pN_sO]; exact t_296
  clear t_296
  have t_299 : At S_56 q_1 16 := hK_57.at ha_54 t_295 (by decide)
  have t_300 : At S_68 q_1 16 := tAt_sR eS_68 t_299
  have t_301 : At S_75 q_1 16 := by rw [eS_75]; exact At_sO t_300 hq_74
  have t_298 : pN S_82 q_1 = 600 := ((hK_83 q_1 t_301.1).2 (At_ne t_301 ha_80 (by decide))).2.2.2.1.trans t_297
  clear t_297
  have t_302 : pN S_94 q_1 = 600 := tN_sR eS_94 t_298
  clear t_298
  have t_303 : pN S_101 q_1 = 600 := by rw [eS_101, pN_sO]; exact t_302
  clear t_302
  have t_305 : At S_82 q_1 16 := hK_83.at ha_80 t_301 (by decide)
  have t_306 : At S_94 q_1 16 := tAt_sR eS_94 t_305
  have t_307 : At S_101 q_1 16 := by rw [eS_101]; exact At_sO t_306 hq_100
  have t_304 : pN S_108 q_1 = 600 := ((hK_109 q_1 t_307.1).2 (At_ne t_307 ha_106 (by decide))).2.2.2.1.trans t_303
  clear t_303
  have t_308 : pN S_121 q_1 = 600 := tN_sR eS_121 t_304
  clear t_304
  have t_309 : pN S_128 q_1 = 600 := by rw [eS_128, pN_sO]; exact t_308
  clear t_308
  have t_311 : At S_108 q_1 16 := hK_109.at ha_106 t_307 (by decide)
  have t_312 : At S_121 q_1 16 := tAt_sR eS_121 t_311
  have t_313 : At S_128 q_1 16 := by rw [eS_128]; exact At_sO t_312 hq_127
  have t_310 : pN S_135 q_1 = 600 := ((hK_136 q_1 t_313.1).2 (At_ne t_313 ha_133 (by decide))).2.2.2.1.trans t_309
  clear t_309
  have t_314 : pN S_147 q_1 = 600 := tN_sR eS_147 t_310
  clear t_310
  have t_316 : At S_135 q_1 16 := hK_136.at ha_133 t_313 (by decide)
  have t_317 : At S_147 q_1 16 := tAt_sR eS_147 t_316
  have t_315 : pN S_154 q_1 = 600 := by rw [eS_154]; exact (pN_sN_ne (ne_of_new hq_153 t_317.1)).trans t_314
  clear t_314
  have t_318 : pN S_163 q_1 = 600 := tN_sR eS_163 t_315
  clear t_315
  have t_320 : At S_154 q_1 16 := by rw [eS_154]; exact At_sN t_317 hq_153
  have t_321 : At S_163 q_1 16 := tAt_sR eS_163 t_320
  have t_319 : pN S_170 q_1 = 600 := by rw [eS_170]; exact (pN_sN_ne (ne_of_new hq_169 t_321.1)).trans t_318
  clear t_318
  have t_322 : pN S_179 q_1 = 600 := tN_sR eS_179 t_319
  clear t_319
  have t_324 : pR S_33 1101 x = some q_16 := by rw [eS_33, pR_sN]; exact h_31
  have t_325 : pR S_42 1101 x = some q_16 := tR_sR eS_42 rfl t_324
  have t_326 : pR S_49 1101 x = some q_16 := by rw [eS_49]; exact (pR_sO_ne (ne_of_new hq_48 t_205.1)).trans t_325
  have t_327 : pR S_56 1101 x = some q_16 := (((hK_57 x t_207.1).2 (At_ne t_207 ha_54 (by decide))).2.2.1 1101).trans t_326
  have t_328 : pR S_68 1101 x = some q_16 := tR_sR eS_68 rfl t_327
  have t_329 : pR S_75 1101 x = some q_16 := by rw [eS_75]; exact (pR_sO_ne (ne_of_new hq_74 t_210.1)).trans t_328
  have t_330 : pR S_82 1101 x = some q_16 := (((hK_83 x t_212.1).2 (At_ne t_212 ha_80 (by decide))).2.2.1 1101).trans t_329
  have t_331 : pR S_94 1101 x = some q_16 := tR_sR eS_94 rfl t_330
  have t_332 : pR S_101 1101 x = some q_16 := by rw [eS_101]; exact (pR_sO_ne (ne_of_new hq_100 t_215.1)).trans t_331
  have t_333 : pR S_108 1101 x = some q_16 := (((hK_109 x t_217.1).2 (At_ne t_217 ha_106 (by decide))).2.2.1 1101).trans t_332
  have t_334 : pR S_121 1101 x = some q_16 := tR_sR eS_121 rfl t_333
  have t_335 : pR S_128 1101 x = some q_16 := by rw [eS_128]; exact (pR_sO_ne (ne_of_new hq_127 t_190.1)).trans t_334
  have t_336 : pR S_135 1101 x = some q_16 := (((hK_136 x t_192.1).2 (At_ne t_192 ha_133 (by decide))).2.2.1 1101).trans t_335
  have t_337 : pR S_147 1101 x = some q_16 := tR_sR eS_147 rfl t_336
  have t_338 : pR S_154 1101 x = some q_16 := by rw [eS_154, pR_sN]; exact t_337
  have t_339 : pR S_163 1101 x = some q_16 := tR_sR eS_163 rfl t_338
  have t_340 : pR S_170 1101 x = some q_16 := by rw [eS_170, pR_sN]; exact t_339
  have t_341 : pR S_179 1101 x = some q_16 := tR_sR eS_179 rfl t_340
  have t_344 : pN S_26 q_16 = 10 := tN_sR eS_26 hn_23
  clear hn_23
  have t_346 : At S_26 q_16 54 := tAt_sR eS_26 ha_22
  have t_345 : pN S_33 q_16 = 10 := by rw [eS_33]; exact (pN_sN_ne (ne_of_new hq_32 t_346.1)).trans t_344
  clear t_344
  have t_347 : pN S_42 q_16 = 10 := tN_sR eS_42 t_345
  clear t_345
  have t_348 : pN S_49 q_16 = 10 := by rw [eS_49, pN_sO]; exact t_347
  clear t_347
  have t_350 : At S_33 q_16 54 := by rw [eS_33]; exact At_sN t_346 hq_32
  have t_351 : At S_42 q_16 54 := tAt_sR eS_42 t_350
  have t_352 : At S_49 q_16 54 := by rw [eS_49]; exact At_sO t_351 hq_48
  have t_349 : pN S_56 q_16 = 10 := ((hK_57 q_16 t_352.1).2 (At_ne t_352 ha_54 (by decide))).2.2.2.1.trans t_348
  clear t_348
  have t_353 : pN S_68 q_16 = 10 := tN_sR eS_68 t_349
  clear t_349
  have t_354 : pN S_75 q_16 = 10 := by rw [eS_75, pN_sO]; exact t_353
  clear t_353
  have t_356 : At S_56 q_16 54 := hK_57.at ha_54 t_352 (by decide)
  have t_357 : At S_68 q_16 54 := tAt_sR eS_68 t_356
  have t_358 : At S_75 q_16 54 := by rw [eS_75]; exact At_sO t_357 hq_74
  have t_355 : pN S_82 q_16 = 10 := ((hK_83 q_16 t_358.1).2 (At_ne t_358 ha_80 (by decide))).2.2.2.1.trans t_354
  clear t_354
  have t_359 : pN S_94 q_16 = 10 := tN_sR eS_94 t_355
  clear t_355
  have t_360 : pN S_101 q_16 = 10 := by rw [eS_101, pN_sO]; exact t_359
  clear t_359
  have t_362 : At S_82 q_16 54 := hK_83.at ha_80 t_358 (by decide)
  have t_363 : At S_94 q_16 54 := tAt_sR eS_94 t_362
  have t_364 : At S_101 q_16 54 := by rw [eS_101]; exact At_sO t_363 hq_100
  have t_361 : pN S_108 q_16 = 10 := ((hK_109 q_16 t_364.1).2 (At_ne t_364 ha_106 (by decide))).2.2.2.1.trans t_360
  clear t_360
  have t_365 : pN S_121 q_16 = 10 := tN_sR eS_121 t_361
  clear t_361
  have t_366 : pN S_128 q_16 = 10 := by rw [eS_128, pN_sO]; exact t_365
  clear t_365
  have t_368 : At S_108 q_16 54 := hK_109.at ha_106 t_364 (by decide)
  have t_369 : At S_121 q_16 54 := tAt_sR eS_121 t_368
  have t_370 : At S_128 q_16 54 := by rw [eS_128]; exact At_sO t_369 hq_127
  have t_367 : pN S_135 q_16 = 10 := ((hK_136 q_16 t_370.1).2 (At_ne t_370 ha_133 (by decide))).2.2.2.1.trans t_366
  clear t_366
  have t_371 : pN S_147 q_16 = 10 := tN_sR eS_147 t_367
  clear t_367
  have t_373 : At S_135 q_16 54 := hK_136.at ha_133 t_370 (by decide)
  have t_374 : At S_147 q_16 54 := tAt_sR eS_147 t_373
  have t_372 : pN S_154 q_16 = 10 := by rw [eS_154]; exact (pN_sN_ne (ne_of_new hq_153 t_374.1)).trans t_371
  clear t_371
  have t_375 : pN S_163 q_16 = 10 := tN_sR eS_163 t_372
  clear t_372
  have t_377 : At S_154 q_16 54 := by rw [eS_154]; exact At_sN t_374 hq_153
  have t_378 : At S_163 q_16 54 := tAt_sR eS_163 t_377
  have t_376 : pN S_170 q_16 = 10 := by rw [eS_170]; exact (pN_sN_ne (ne_of_new hq_169 t_378.1)).trans t_375
  clear t_375
  have t_379 : pN S_179 q_16 = 10 := tN_sR eS_179 t_376
  clear t_376
  have t_381 : pR S_49 1103 x = some q_32 := by rw [eS_49]; exact (pR_sO_ne (ne_of_new hq_48 t_205.1)).trans h_47
  have t_382 : pR S_56 1103 x = some q_32 := (((hK_57 x t_207.1).2 (At_ne t_207 ha_54 (by decide))).2.2.1 1103).trans t_381
  have t_383 : pR S_68 1103 x = some q_32 := tR_sR eS_68 rfl t_382
  have t_384 : pR S_75 1103 x = some q_32 := by rw [eS_75]; exact (pR_sO_ne (ne_of_new hq_74 t_210.1)).trans t_383
  have t_385 : pR S_82 1103 x = some q_32 := (((hK_83 x t_212.1).2 (At_ne t_212 ha_80 (by decide))).2.2.1 1103).trans t_384
  have t_386 : pR S_94 1103 x = some q_32 := tR_sR eS_94 rfl t_385
  have t_387 : pR S_101 1103 x = some q_32 := by rw [eS_101]; exact (pR_sO_ne (ne_of_new hq_100 t_215.1)).trans t_386
  have t_388 : pR S_108 1103 x = some q_32 := (((hK_109 x t_217.1).2 (At_ne t_217 ha_106 (by decide))).2.2.1 1103).trans t_387
  have t_389 : pR S_121 1103 x = some q_32 := tR_sR eS_121 rfl t_388
  have t_390 : pR S_128 1103 x = some q_32 := by rw [eS_128]; exact (pR_sO_ne (ne_of_new hq_127 t_190.1)).trans t_389
  have t_391 : pR S_135 1103 x = some q_32 := (((hK_136 x t_192.1).2 (At_ne t_192 ha_133 (by decide))).2.2.1 1103).trans t_390
  have t_392 : pR S_147 1103 x = some q_32 := tR_sR eS_147 rfl t_391
  have t_393 : pR S_154 1103 x = some q_32 := by rw [eS_154, pR_sN]; exact t_392
  have t_394 : pR S_163 1103 x = some q_32 := tR_sR eS_163 rfl t_393
  have t_395 : pR S_170 1103 x = some q_32 := by rw [eS_170, pR_sN]; exact t_394
  have t_396 : pR S_179 1103 x = some q_32 := tR_sR eS_179 rfl t_395
  have t_399 : pN S_42 q_32 = 4 := tN_sR eS_42 hn_39
  clear hn_39
  have t_400 : pN S_49 q_32 = 4 := by rw [eS_49, pN_sO]; exact t_399
  clear t_399
  have t_402 : At S_42 q_32 18 := tAt_sR eS_42 ha_38
  have t_403 : At S_49 q_32 18 := by rw [eS_49]; exact At_sO t_402 hq_48
  have t_401 : pN S_56 q_32 = 4 := ((hK_57 q_32 t_403.1).2 (At_ne t_403 ha_54 (by decide))).2.2.2.1.trans t_400
  clear t_400
  have t_404 : pN S_68 q_32 = 4 := tN_sR eS_68 t_401
  clear t_401
  have t_405 : pN S_75 q_32 = 4 := by rw [eS_75, pN_sO]; exact t_404
  clear t_404
  have t_407 : At S_56 q_32 18 := hK_57.at ha_54 t_403 (by decide)
  have t_408 : At S_68 q_32 18 := tAt_sR eS_68 t_407
  have t_409 : At S_75 q_32 18 := by rw [eS_75]; exact At_sO t_408 hq_74
  have t_406 : pN S_82 q_32 = 4 := ((hK_83 q_32 t_409.1).2 (At_ne t_409 ha_80 (by decide))).2.2.2.1.trans t_405
  clear t_405
  have t_410 : pN S_94 q_32 = 4 := tN_sR eS_94 t_406
  clear t_406
  have t_411 : pN S_101 q_32 = 4 := by rw [eS_101, pN_sO]; exact t_410
  clear t_410
  have t_413 : At S_82 q_32 18 := hK_83.at ha_80 t_409 (by decide)
  have t_414 : At S_94 q_32 18 := tAt_sR eS_94 t_413
  have t_415 : At S_101 q_32 18 := by rw [eS_101]; exact At_sO t_414 hq_100
  have t_412 : pN S_108 q_32 = 4 := ((hK_109 q_32 t_415.1).2 (At_ne t_415 ha_106 (by decide))).2.2.2.1.trans t_411
  clear t_411
  have t_416 : pN S_121 q_32 = 4 := tN_sR eS_121 t_412
  clear t_412
  have t_417 : pN S_128 q_32 = 4 := by rw [eS_128, pN_sO]; exact t_416
  clear t_416
  have t_419 : At S_108 q_32 18 := hK_109.at ha_106 t_415 (by decide)
  have t_420 : At S_121 q_32 18 := tAt_sR eS_121 t_419
  have t_421 : At S_128 q_32 18 := by rw [eS_128]; exact At_sO t_420 hq_127
  have t_418 : pN S_135 q_32 = 4 := ((hK_136 q_32 t_421.1).2 (At_ne t_421 ha_133 (by decide))).2.2.2.1.trans t_417
  clear t_417
  have t_422 : pN S_147 q_32 = 4 := tN_sR eS_147 t_418
  clear t_418
  have t_424 : At S_135 q_32 18 := hK_136.at ha_133 t_421 (by decide)
  have t_425 : At S_147 q_32 18 := tAt_sR eS_147 t_424
  have t_423 : pN S_154 q_32 = 4 := by rw [eS_154]; exact (pN_sN_ne (ne_of_new hq_153 t_425.1)).trans t_422
  clear t_422
  have t_426 : pN S_163 q_32 = 4 := tN_sR eS_163 t_423
  clear t_423
  have t_428 : At S_154 q_32 18 := by rw [eS_154]; exact At_sN t_425 hq_153
  have t_429 : At S_163 q_32 18 := tAt_sR eS_163 t_428
  have t_427 : pN S_170 q_32 = 4 := by rw [eS_170]; exact (pN_sN_ne (ne_of_new hq_169 t_429.1)).trans t_426
  clear t_426
  have t_430 : pN S_179 q_32 = 4 := tN_sR eS_179 t_427
  clear t_427
  have t_432 : pR S_75 1105 x = some q_48 := by rw [eS_75]; exact (pR_sO_ne (ne_of_new hq_74 t_210.1)).trans h_73
  have t_433 : pR S_82 1105 x = some q_48 := (((hK_83 x t_212.1).2 (At_ne t_212 ha_80 (by decide))).2.2.1 1105).trans t_432
  have t_434 : pR S_94 1105 x = some q_48 := tR_sR eS_94 rfl t_433
  have t_435 : pR S_101 1105 x = some q_48 := by rw [eS_101]; exact (pR_sO_ne (ne_of_new hq_100 t_215.1)).trans t_434
  have t_436 : pR S_108 1105 x = some q_48 := (((hK_109 x t_217.1).2 (At_ne t_217 ha_106 (by decide))).2.2.1 1105).trans t_435
  have t_437 : pR S_121 1105 x = some q_48 := tR_sR eS_121 rfl t_436
  have t_438 : pR S_128 1105 x = some q_48 := by rw [eS_128]; exact (pR_sO_ne (ne_of_new hq_127 t_190.1)).trans t_437
  have t_439 : pR S_135 1105 x = some q_48 := (((hK_136 x t_192.1).2 (At_ne t_192 ha_133 (by decide))).2.2.1 1105).trans t_438
  have t_440 : pR S_147 1105 x = some q_48 := tR_sR eS_147 rfl t_439
  have t_441 : pR S_154 1105 x = some q_48 := by rw [eS_154, pR_sN]; exact t_440
  have t_442 : pR S_163 1105 x = some q_48 := tR_sR eS_163 rfl t_441
  have t_443 : pR S_170 1105 x = some q_48 := by rw [eS_170, pR_sN]; exact t_442
  have t_444 : pR S_179 1105 x = some q_48 := tR_sR eS_179 rfl t_443
  have t_447 : pR S_101 1106 x = some q_74 := by rw [eS_101]; exact (pR_sO_ne (ne_of_new hq_100 t_215.1)).trans h_99
  have t_448 : pR S_108 1106 x = some q_74 := (((hK_109 x t_217.1).2 (At_ne t_217 ha_106 (by decide))).2.2.1 1106).trans t_447
  have t_449 : pR S_121 1106 x = some q_74 := tR_sR eS_121 rfl t_448
  have t_450 : pR S_128 1106 x = some q_74 := by rw [eS_128]; exact (pR_sO_ne (ne_of_new hq_127 t_190.1)).trans t_449
  have t_451 : pR S_135 1106 x = some q_74 := (((hK_136 x t_192.1).2 (At_ne t_192 ha_133 (by decide))).2.2.1 1106).trans t_450
  have t_452 : pR S_147 1106 x = some q_74 := tR_sR eS_147 rfl t_451
  have t_453 : pR S_154 1106 x = some q_74 := by rw [eS_154, pR_sN]; exact t_452
  have t_454 : pR S_163 1106 x = some q_74 := tR_sR eS_163 rfl t_453
  have t_455 : pR S_170 1106 x = some q_74 := by rw [eS_170, pR_sN]; exact t_454
  have t_456 : pR S_179 1106 x = some q_74 := tR_sR eS_179 rfl t_455
  have t_461 : pR S_154 1108 x = some q_127 := by rw [eS_154, pR_sN]; exact h_152
  have t_462 : pR S_163 1108 x = some q_127 := tR_sR eS_163 rfl t_461
  have t_463 : pR S_170 1108 x = some q_127 := by rw [eS_170, pR_sN]; exact t_462
  have t_464 : pR S_179 1108 x = some q_127 := tR_sR eS_179 rfl t_463
  have t_467 : pR S_170 1109 x = some q_153 := by rw [eS_170, pR_sN]; exact h_168
  have t_468 : pR S_179 1109 x = some q_153 := tR_sR eS_179 rfl t_467
  have t_471 : pN S_163 q_153 = 16 := tN_sR eS_163 hn_160
  clear hn_160
  have t_473 : At S_163 q_153 17 := tAt_sR eS_163 ha_159
  have t_472 : pN S_170 q_153 = 16 := by rw [eS_170]; exact (pN_sN_ne (ne_of_new hq_169 t_473.1)).trans t_471
  clear t_471
  have t_474 : pN S_179 q_153 = 16 := tN_sR eS_179 t_472
  clear t_472
  have t_478 : pN S_179 q_169 = 60 := tN_sR eS_179 hn_176
  clear hn_176
  have L_185 : ∀ (n : Nat) (T_187 : PS) (H : Heap) (locs : List Loc) (ls : Array Slot) (i1_186 : Int32) (i1_186_z : Int) (cc_480 nn_481 : Nat), ((16 - i1_186_z).toNat = n) → (Wd G cy (AS S s.heap.size) s.heap T_187 H locs) → (i1_186.toInt = i1_186_z) → (0 ≤ i1_186_z ∧ i1_186_z ≤ 16) → (At T_187 x 191) → (Kq S T_187 x) → (GX T_187) → (Phc T_187 = Phc S + 320) → (Phs T_187 = Phs S + 604000) → (pI T_187 1102 x = 0) → (pI T_187 1104 x = 0) → (pI T_187 801 q_100 = 0) → (pR T_187 1100 x = some q_1) → (At T_187 q_1 16) → (pN T_187 q_1 = 600) → (pR T_187 1101 x = some q_16) → (At T_187 q_16 54) → (pN T_187 q_16 = 10) → (pR T_187 1103 x = some q_32) → (At T_187 q_32 18) → (pN T_187 q_32 = 4) → (pR T_187 1105 x = some q_48) → (At T_187 q_48 10) → (pR T_187 1106 x = some q_74) → (At T_187 q_74 6) → (pR T_187 1107 x = some q_100) → (At T_187 q_100 8) → (pR T_187 1108 x = some q_127) → (At T_187 q_127 1) → (pR T_187 1109 x = some q_153) → (At T_187 q_153 17) → (pN T_187 q_153 = 16) → (pR T_187 1111 x = some q_169) → (At T_187 q_169 14) → (pN T_187 q_169 = 60) → (cc_480 = 26 + 2 * (i1_186_z).toNat) → (nn_481 = 1520 + 13 * (i1_186_z).toNat) → (lv_has ls 2 [(1, .int (i1_186)), (0, .ref x)]) → W p l e ({ frames := 4, cells := 58, slots := 1728, locals := 192 }) s m [.ref x].toArray below meth c H locs cc_480 nn_481 QQ (F0 m 93 ls []) := by
    intro n
    induction n using Nat.strongRecOn with
    | ind n ih =>
    intro T_187 H locs ls i1_186 i1_186_z cc_480 nn_481 hn hw hz_i1_186 hr_i1_186 ha_x_L_188 hK_T_187 hg_T_187 hpc_T_187 hps_T_187 ik_226 ik_249 ik_260 ik_281 ik_282 ik_323 ik_342 ik_343 ik_380 ik_397 ik_398 ik_431 ik_445 ik_446 ik_457 ik_458 ik_459 ik_460 ik_465 ik_466 ik_469 ik_470 ik_475 ik_476 ik_477 ik_479 hcc_482 hnn_483 hl
    have rg_484 : (-2147483648) ≤ i1_186_z ∧ i1_186_z ≤ 2147483647 := by rw [← hz_i1_186]; exact ⟨z_lo _, z_hi _⟩
    refine lv_iload_n X.1 X.2.1 dX11_init_93 rfl (lv_at hl 0 rfl) ?_
    refine lv_bipush (v := 16) X.1 X.2.1 dX11_init_94 (by decide) ?_
    refine lv_icmp_ge (tgt := 118) X.1 X.2.1 dX11_init_96 (by decide) (fun c_485 => ?_) (fun c_485 => ?_)
    · have z_b_486 := trivial
      have k_487 : i1_186_z ≥ 16 := z_le ti_16 hz_i1_186 c_485
      have nd_488 := nodup_of hw
      obtain ⟨S_489, eS_489⟩ : ∃ T, T = sK T_187 x 11 := ⟨_, rfl⟩
      have hw := Wd_sK (k := 11) hw ha_x_L_188 rfl; rw [← eS_489] at hw
      have hg9 : GX S_489 := by rw [eS_489]; exact GX_sK hg_T_187 ha_x_L_188 (by decide +kernel) (mk_11 ⟨q_1, (by rw [pR_sK]; exact ik_281), At_sK ha_x_L_188 ik_282 (by decide), by rw [pN_sK]; exact ik_323⟩ ⟨q_16, (by rw [pR_sK]; exact ik_342), At_sK ha_x_L_188 ik_343 (by decide), by rw [pN_sK]; exact ik_380⟩ (by rw [pI_sK, ik_226]; exact ⟨by rw [ti_0]; omega, by rw [ti_0]; omega⟩) ⟨q_32, (by rw [pR_sK]; exact ik_397), At_sK ha_x_L_188 ik_398 (by decide), by rw [pN_sK]; exact ik_431⟩ (by rw [pI_sK, ik_249]; exact ⟨by rw [ti_0]; omega, by rw [ti_0]; omega⟩) ⟨q_48, (by rw [pR_sK]; exact ik_445), At_sK ha_x_L_188 ik_446 (by decide)⟩ ⟨q_74, (by rw [pR_sK]; exact ik_457), At_sK ha_x_L_188 ik_458 (by decide)⟩ ⟨q_100, (by rw [pR_sK]; exact ik_459), At_sK ha_x_L_188 ik_460 (by decide)⟩ ⟨q_127, (by rw [pR_sK]; exact ik_465), At_sK ha_x_L_188 ik_466 (by decide)⟩ ⟨q_153, (by rw [pR_sK]; exact ik_469), At_sK ha_x_L_188 ik_470 (by decide), by rw [pN_sK]; exact ik_475⟩ ⟨q_169, (by rw [pR_sK]; exact ik_476), At_sK ha_x_L_188 ik_477 (by decide), by rw [pN_sK]; exact ik_479⟩)
      have ha9 : At S_489 x 11 := by rw [eS_489]; exact At_nK ha_x_L_188
      have hk9 : Kq S S_489 x := hK_T_187.sK eS_489
      have hPhc9 : Phc S_489 = Phc S + 57920 := by rw [show Phc S_489 = Ph fC 8 14400 S_489 from rfl, Ph_sK nd_488 ha_x_L_188 (by decide) eS_489, ph_11 ha9 (show pI S_489 1104 x = 0 by rw [eS_489, pI_sK]; exact ik_249)]; show Phc T_187 + _ = _; omega
      have hPhs9 : Phs S_489 = Phs S + 788000 := by rw [show Phs S_489 = Ph fS 15100 46000 S_489 from rfl, Ph_sK nd_488 ha_x_L_188 (by decide) eS_489, ph_11 ha9 (show pI S_489 1104 x = 0 by rw [eS_489, pI_sK]; exact ik_249)]; show Phs T_187 + _ = _; omega
      rw [hQQ]
      exact ret_v X hw hr hlocks (by show cc_480 ≤ 58; omega) (by show nn_481 ≤ 1728; omega) ⟨hk9, hg9, ha9, hPhc9, hPhs9, ⟨q_100, by rw [eS_489, pR_sK]; exact ik_459, by rw [eS_489]; exact At_sK ha_x_L_188 ik_460 (by decide), by rw [eS_489, pI_sK]; exact ik_260, by rw [eS_489, pI_sK]; exact ik_226, by rw [eS_489, pI_sK]; exact ik_249⟩⟩ dX11_init_118
    · have z_b_490 := trivial
      have k_491 : i1_186_z < 16 := z_nle ti_16 hz_i1_186 c_485
      refine lv_aload_n X.1 X.2.1 dX11_init_99 rfl (lv_at hl 1 rfl) ?_
      refine r_getR (g := 1109) X hw ha_x_L_188 rfl 9 ik_469 (by decide) rfl inn_X11_init_11 (by decide) (X.2.2.2.1 (.fieldLink RX11 55 "SilkMill" "shelf" "[LSilkMill$Place;") (by decide +kernel)) rfl (gv_1109 _ _) dX11_init_100 ?_
      refine lv_iload_n X.1 X.2.1 dX11_init_103 rfl (lv_at hl 0 rfl) ?_
      refine r_new X hw 183 3 (nn_481 + 5) (cc_480 + 1) rfl tyX3 (by decide) rfl inn_X11_init_3 tyX3_ok (X.2.2.2.1 (.classLink RX11 53 RX3) (by decide +kernel)) (X.2.2.2.1 (.instantiable RX3 5) (by decide +kernel)) (X.2.2.2.1 (.initialized RX3) (by decide +kernel)) (zo_3 _) zd_3 (by show cc_480 + 1 ≤ (cc_480 + 1); omega) (by show nn_481 + 5 ≤ (nn_481 + 5); omega) (by show (cc_480 + 1) ≤ 58; omega) (by show (nn_481 + 5) ≤ 1728; omega) dX11_init_104 (fun q_492 H hq_492 hw => ?_)
      obtain ⟨S_493, eS_493⟩ : ∃ T, T = sO T_187 q_492 183 := ⟨_, rfl⟩
      rw [← eS_493] at hw
      have ph_494 : Phc S_493 = Phc S + 320 := (show Phc S_493 = Phc T_187 from Ph_sO hg_T_187 hq_492 eS_493 (by decide)).trans hpc_T_187
      have ph_495 : Phs S_493 = Phs S + 604000 := (show Phs S_493 = Phs T_187 from Ph_sO hg_T_187 hq_492 eS_493 (by decide)).trans hps_T_187
      clear hpc_T_187
      clear hps_T_187
      have hK_496 : Kq S S_493 x := hK_T_187.sO hq_492 eS_493
      have hg_497 : GX S_493 := by rw [eS_493]; exact GX_O hg_T_187 hq_492 (by decide +kernel)
      have hn0_q_492 := hK_T_187.new hq_492
      have ha_498 : At S_493 q_492 183 := by rw [eS_493]; exact At_nO _ _ _
      have hzI_q_492 : ∀ g, pI S_493 g q_492 = 0 := fun g => by rw [eS_493]; exact pI_sO_new
      have hzR_q_492 : ∀ g, pR S_493 g q_492 = none := fun g => by rw [eS_493]; exact if_pos rfl
      refine lv_dup X.1 X.2.1 dX11_init_107 rfl ?_
      refine k_v (rm := { frames := 2, cells := 1, slots := 8, locals := 96 }) (av := [.ref q_492]) X hw (va_runIN (As := []) (rest := [.ref q_492, .int (i1_186), .ref q_153]) (cfix X) (k_X3_init l G cy κ S_493 _ q_492 hg_497 ha_498 hzI_q_492 hzR_q_492) ⟨(va_cnB (host := RX11) 0 X.2.2.2.1 gX11_init_X3_init_n62 rfl rfl rfl (X.2.2.2.2.2.2.2.1.2.1 (RX11, 62, yX3_init) (by decide +kernel)) (X.2.2.2.1 (.initialized RX3) (by decide +kernel)) (by decide +kernel) ⟨Nat.le_of_ble_eq_true rfl, Nat.le_of_ble_eq_true rfl⟩), rfl, (X.2.2.2.1 (.instanceMethod yX3_init) (by decide +kernel))⟩ (pre_S X hw _) rfl rfl hl.1 rfl (lv_room (Nat.le_of_ble_eq_true rfl)) dX11_init_108 ⟨(by show (cc_480 + 1) + 1 ≤ 58; omega), (by show (nn_481 + 5) + 8 ≤ 1728; omega)⟩) ((cc_480 + 1) + 1) ((nn_481 + 5) + 8) (by show (cc_480 + 1) + 1 ≤ ((cc_480 + 1) + 1); omega) (by show (nn_481 + 5) + 8 ≤ ((nn_481 + 5) + 8); omega) (fun S_500 H locs hp hw hfr hnw => ?_)
      obtain ⟨hK_501, hg_502, ha_503, ph_504, ph_505⟩ := hp
      have hK_506 : Kq S S_500 x := hK_496.sub hn0_q_492 hK_501
      have ph_507 : Phc S_500 = Phc S + 320 := by omega
      have ph_508 : Phs S_500 = Phs S + 604000 := by omega
      clear ph_494
      clear ph_495
      clear ph_504
      clear ph_505
      have t_509 : At S_493 q_153 17 := by rw [eS_493]; exact At_sO ik_470 hq_492
      have t_510 : At S_500 q_153 17 := hK_501.at ha_498 t_509 (by decide)
      have t_511 : pN S_493 q_153 = 16 := by rw [eS_493, pN_sO]; exact ik_475
      have t_513 : At S_493 q_153 17 := by rw [eS_493]; exact At_sO ik_470 hq_492
      have t_512 : pN S_500 q_153 = 16 := ((hK_501 q_153 t_513.1).2 (At_ne t_513 ha_498 (by decide))).2.2.2.1.trans t_511
      clear t_511
      refine r_aast X hw t_510 rfl ha_503 rfl (by decide) (by decide) rfl rfl (by rw [t_512]; exact z_ix hz_i1_186 (by omega) (by omega)) dX11_init_111 (fun H locs hw => ?_)
      obtain ⟨S_514, eS_514⟩ : ∃ T, T = sB S_500 q_153 (va_up (pB S_500 q_153) (Int32.toNatClampNeg (i1_186)) (some q_492)) := ⟨_, rfl⟩
      rw [← eS_514] at hw
      have ph_515 : Phc S_514 = Phc S + 320 := (show Phc S_514 = Phc S_500 from Ph_sB eS_514).trans ph_507
      have ph_516 : Phs S_514 = Phs S + 604000 := (show Phs S_514 = Phs S_500 from Ph_sB eS_514).trans ph_508
      clear ph_507
      clear ph_508
      have hK_517 : Kq S S_514 x := hK_506.sB hn0_q_153 eS_514
      have hg_518 : GX S_514 := by rw [eS_514]; exact uB_17 hg_502 t_510 (fun q hq => by cases hq; exact ha_503)
      obtain ⟨x_519, ex_519⟩ : ∃ y : Int32, y = i1_186 + 1 := ⟨_, rfl⟩
      have z_520 : x_519.toInt = i1_186_z + 1 := z_add ex_519 hz_i1_186 ti_1 (by omega) (by omega)
      refine lv_iinc (v := x_519) (lv' := [(1, .int (x_519)), (0, .ref x)]) X.1 X.2.1 dX11_init_112 hl (k := 0) rfl (by rw [ex_519]; rfl) (by decide) rfl (fun ls hl => ?_)
      refine lv_goto (tgt := 93) X.1 X.2.1 dX11_init_115 (by decide) ?_
      have t_521 : At S_493 x 191 := by rw [eS_493]; exact At_sO ha_x_L_188 hq_492
      have t_522 : At S_500 x 191 := hK_501.at ha_498 t_521 (by decide)
      have t_523 : At S_514 x 191 := tAt_sB eS_514 t_522
      have t_524 : pI S_493 1102 x = 0 := by rw [eS_493]; exact (pI_sO_ne (ne_of_new hq_492 ha_x_L_188.1)).trans ik_226
      have t_526 : At S_493 x 191 := by rw [eS_493]; exact At_sO ha_x_L_188 hq_492
      have t_525 : pI S_500 1102 x = 0 := (((hK_501 x t_526.1).2 (At_ne t_526 ha_498 (by decide))).2.1 1102).trans t_524
      have t_527 : pI S_514 1102 x = 0 := tI_sB eS_514 t_525
      have t_528 : pI S_493 1104 x = 0 := by rw [eS_493]; exact (pI_sO_ne (ne_of_new hq_492 ha_x_L_188.1)).trans ik_249
      have t_529 : pI S_500 1104 x = 0 := (((hK_501 x t_526.1).2 (At_ne t_526 ha_498 (by decide))).2.1 1104).trans t_528
      have t_530 : pI S_514 1104 x = 0 := tI_sB eS_514 t_529
      have t_531 : pI S_493 801 q_100 = 0 := by rw [eS_493]; exact (pI_sO_ne (ne_of_new hq_492 ik_460.1)).trans ik_260
      have t_533 : At S_493 q_100 8 := by rw [eS_493]; exact At_sO ik_460 hq_492
      have t_532 : pI S_500 801 q_100 = 0 := (((hK_501 q_100 t_533.1).2 (At_ne t_533 ha_498 (by decide))).2.1 801).trans t_531
      have t_534 : pI S_514 801 q_100 = 0 := tI_sB eS_514 t_532
      have t_535 : pR S_493 1100 x = some q_1 := by rw [eS_493]; exact (pR_sO_ne (ne_of_new hq_492 ha_x_L_188.1)).trans ik_281
      have t_536 : pR S_500 1100 x = some q_1 := (((hK_501 x t_526.1).2 (At_ne t_526 ha_498 (by decide))).2.2.1 1100).trans t_535
      have t_537 : pR S_514 1100 x = some q_1 := tR_sB eS_514 t_536
      have t_538 : At S_493 q_1 16 := by rw [eS_493]; exact At_sO ik_282 hq_492
      have t_539 : At S_500 q_1 16 := hK_501.at ha_498 t_538 (by decide)
      have t_540 : At S_514 q_1 16 := tAt_sB eS_514 t_539
      have t_541 : pN S_493 q_1 = 600 := by rw [eS_493, pN_sO]; exact ik_323
      have t_543 : At S_493 q_1 16 := by rw [eS_493]; exact At_sO ik_282 hq_492
      have t_542 : pN S_500 q_1 = 600 := ((hK_501 q_1 t_543.1).2 (At_ne t_543 ha_498 (by decide))).2.2.2.1.trans t_541
      clear t_541
      have t_544 : pN S_514 q_1 = 600 := tN_sB eS_514 t_542
      clear t_542
      have t_545 : pR S_493 1101 x = some q_16 := by rw [eS_493]; exact (pR_sO_ne (ne_of_new hq_492 ha_x_L_188.1)).trans ik_342
      have t_546 : pR S_500 1101 x = some q_16 := (((hK_501 x t_526.1).2 (At_ne t_526 ha_498 (by decide))).2.2.1 1101).trans t_545
      have t_547 : pR S_514 1101 x = some q_16 := tR_sB eS_514 t_546
      have t_548 : At S_493 q_16 54 := by rw [eS_493]; exact At_sO ik_343 hq_492
      have t_549 : At S_500 q_16 54 := hK_501.at ha_498 t_548 (by decide)
      have t_550 : At S_514 q_16 54 := tAt_sB eS_514 t_549
      have t_551 : pN S_493 q_16 = 10 := by rw [eS_493, pN_sO]; exact ik_380
      have t_553 : At S_493 q_16 54 := by rw [eS_493]; exact At_sO ik_343 hq_492
      have t_552 : pN S_500 q_16 = 10 := ((hK_501 q_16 t_553.1).2 (At_ne t_553 ha_498 (by decide))).2.2.2.1.trans t_551
      clear t_551
      have t_554 : pN S_514 q_16 = 10 := tN_sB eS_514 t_552
      clear t_552
      have t_555 : pR S_493 1103 x = some q_32 := by rw [eS_493]; exact (pR_sO_ne (ne_of_new hq_492 ha_x_L_188.1)).trans ik_397
      have t_556 : pR S_500 1103 x = some q_32 := (((hK_501 x t_526.1).2 (At_ne t_526 ha_498 (by decide))).2.2.1 1103).trans t_555
      have t_557 : pR S_514 1103 x = some q_32 := tR_sB eS_514 t_556
      have t_558 : At S_493 q_32 18 := by rw [eS_493]; exact At_sO ik_398 hq_492
      have t_559 : At S_500 q_32 18 := hK_501.at ha_498 t_558 (by decide)
      have t_560 : At S_514 q_32 18 := tAt_sB eS_514 t_559
      have t_561 : pN S_493 q_32 = 4 := by rw [eS_493, pN_sO]; exact ik_431
      have t_563 : At S_493 q_32 18 := by rw [eS_493]; exact At_sO ik_398 hq_492
      have t_562 : pN S_500 q_32 = 4 := ((hK_501 q_32 t_563.1).2 (At_ne t_563 ha_498 (by decide))).2.2.2.1.trans t_561
      clear t_561
      have t_564 : pN S_514 q_32 = 4 := tN_sB eS_514 t_562
      clear t_562
      have t_565 : pR S_493 1105 x = some q_48 := by rw [eS_493]; exact (pR_sO_ne (ne_of_new hq_492 ha_x_L_188.1)).trans ik_445
      have t_566 : pR S_500 1105 x = some q_48 := (((hK_501 x t_526.1).2 (At_ne t_526 ha_498 (by decide))).2.2.1 1105).trans t_565
      have t_567 : pR S_514 1105 x = some q_48 := tR_sB eS_514 t_566
      have t_568 : At S_493 q_48 10 := by rw [eS_493]; exact At_sO ik_446 hq_492
      have t_569 : At S_500 q_48 10 := hK_501.at ha_498 t_568 (by decide)
      have t_570 : At S_514 q_48 10 := tAt_sB eS_514 t_569
      have t_571 : pR S_493 1106 x = some q_74 := by rw [eS_493]; exact (pR_sO_ne (ne_of_new hq_492 ha_x_L_188.1)).trans ik_457
      have t_572 : pR S_500 1106 x = some q_74 := (((hK_501 x t_526.1).2 (At_ne t_526 ha_498 (by decide))).2.2.1 1106).trans t_571
      have t_573 : pR S_514 1106 x = some q_74 := tR_sB eS_514 t_572
      have t_574 : At S_493 q_74 6 := by rw [eS_493]; exact At_sO ik_458 hq_492
      have t_575 : At S_500 q_74 6 := hK_501.at ha_498 t_574 (by decide)
      have t_576 : At S_514 q_74 6 := tAt_sB eS_514 t_575
      have t_577 : pR S_493 1107 x = some q_100 := by rw [eS_493]; exact (pR_sO_ne (ne_of_new hq_492 ha_x_L_188.1)).trans ik_459
      have t_578 : pR S_500 1107 x = some q_100 := (((hK_501 x t_526.1).2 (At_ne t_526 ha_498 (by decide))).2.2.1 1107).trans t_577
      have t_579 : pR S_514 1107 x = some q_100 := tR_sB eS_514 t_578
      have t_580 : At S_500 q_100 8 := hK_501.at ha_498 t_533 (by decide)
      have t_581 : At S_514 q_100 8 := tAt_sB eS_514 t_580
      have t_582 : pR S_493 1108 x = some q_127 := by rw [eS_493]; exact (pR_sO_ne (ne_of_new hq_492 ha_x_L_188.1)).trans ik_465
      have t_583 : pR S_500 1108 x = some q_127 := (((hK_501 x t_526.1).2 (At_ne t_526 ha_498 (by decide))).2.2.1 1108).trans t_582
      have t_584 : pR S_514 1108 x = some q_127 := tR_sB eS_514 t_583
      have t_585 : At S_493 q_127 1 := by rw [eS_493]; exact At_sO ik_466 hq_492
      have t_586 : At S_500 q_127 1 := hK_501.at ha_498 t_585 (by decide)
      have t_587 : At S_514 q_127 1 := tAt_sB eS_514 t_586
      have t_588 : pR S_493 1109 x = some q_153 := by rw [eS_493]; exact (pR_sO_ne (ne_of_new hq_492 ha_x_L_188.1)).trans ik_469
      have t_589 : pR S_500 1109 x = some q_153 := (((hK_501 x t_526.1).2 (At_ne t_526 ha_498 (by decide))).2.2.1 1109).trans t_588
      have t_590 : pR S_514 1109 x = some q_153 := tR_sB eS_514 t_589
      have t_591 : At S_514 q_153 17 := tAt_sB eS_514 t_510
      have t_592 : pN S_514 q_153 = 16 := tN_sB eS_514 t_512
      clear t_512
      have t_593 : pR S_493 1111 x = some q_169 := by rw [eS_493]; exact (pR_sO_ne (ne_of_new hq_492 ha_x_L_188.1)).trans ik_476
      have t_594 : pR S_500 1111 x = some q_169 := (((hK_501 x t_526.1).2 (At_ne t_526 ha_498 (by decide))).2.2.1 1111).trans t_593
      have t_595 : pR S_514 1111 x = some q_169 := tR_sB eS_514 t_594
      have t_596 : At S_493 q_169 14 := by rw [eS_493]; exact At_sO ik_477 hq_492
      have t_597 : At S_500 q_169 14 := hK_501.at ha_498 t_596 (by decide)
      have t_598 : At S_514 q_169 14 := tAt_sB eS_514 t_597
      have t_599 : pN S_493 q_169 = 60 := by rw [eS_493, pN_sO]; exact ik_479
      have t_601 : At S_493 q_169 14 := by rw [eS_493]; exact At_sO ik_477 hq_492
      have t_600 : pN S_500 q_169 = 60 := ((hK_501 q_169 t_601.1).2 (At_ne t_601 ha_498 (by decide))).2.2.2.1.trans t_599
      clear t_599
      have t_602 : pN S_514 q_169 = 60 := tN_sB eS_514 t_600
      clear t_600
      exact ih _ (by omega) _ _ _ _ (x_519) (x_519.toInt) (((cc_480 + 1) + 1)) (((nn_481 + 5) + 8)) rfl hw rfl (by omega) t_523 hK_517 hg_518 ph_515 ph_516 t_527 t_530 t_534 t_537 t_540 t_544 t_547 t_550 t_554 t_557 t_560 t_564 t_567 t_570 t_573 t_576 t_579 t_581 t_584 t_587 t_590 t_591 t_592 t_595 t_598 t_602 (by omega) (by omega) (lv_sub hl [0, 1] rfl)
  have t_603 : At S_179 x 191 := tAt_sR eS_179 t_178
  have t_604 : At S_170 q_1 16 := by rw [eS_170]; exact At_sN t_321 hq_169
  have t_605 : At S_179 q_1 16 := tAt_sR eS_179 t_604
  have t_606 : At S_170 q_16 54 := by rw [eS_170]; exact At_sN t_378 hq_169
  have t_607 : At S_179 q_16 54 := tAt_sR eS_179 t_606
  have t_608 : At S_170 q_32 18 := by rw [eS_170]; exact At_sN t_429 hq_169
  have t_609 : At S_179 q_32 18 := tAt_sR eS_179 t_608
  have t_610 : At S_68 q_48 10 := tAt_sR eS_68 ha_59
  have t_611 : At S_75 q_48 10 := by rw [eS_75]; exact At_sO t_610 hq_74
  have t_612 : At S_82 q_48 10 := hK_83.at ha_80 t_611 (by decide)
  have t_613 : At S_94 q_48 10 := tAt_sR eS_94 t_612
  have t_614 : At S_101 q_48 10 := by rw [eS_101]; exact At_sO t_613 hq_100
  have t_615 : At S_108 q_48 10 := hK_109.at ha_106 t_614 (by decide)
  have t_616 : At S_121 q_48 10 := tAt_sR eS_121 t_615
  have t_617 : At S_128 q_48 10 := by rw [eS_128]; exact At_sO t_616 hq_127
  have t_618 : At S_135 q_48 10 := hK_136.at ha_133 t_617 (by decide)
  have t_619 : At S_147 q_48 10 := tAt_sR eS_147 t_618
  have t_620 : At S_154 q_48 10 := by rw [eS_154]; exact At_sN t_619 hq_153
  have t_621 : At S_163 q_48 10 := tAt_sR eS_163 t_620
  have t_622 : At S_170 q_48 10 := by rw [eS_170]; exact At_sN t_621 hq_169
  have t_623 : At S_179 q_48 10 := tAt_sR eS_179 t_622
  have t_624 : At S_94 q_74 6 := tAt_sR eS_94 ha_85
  have t_625 : At S_101 q_74 6 := by rw [eS_101]; exact At_sO t_624 hq_100
  have t_626 : At S_108 q_74 6 := hK_109.at ha_106 t_625 (by decide)
  have t_627 : At S_121 q_74 6 := tAt_sR eS_121 t_626
  have t_628 : At S_128 q_74 6 := by rw [eS_128]; exact At_sO t_627 hq_127
  have t_629 : At S_135 q_74 6 := hK_136.at ha_133 t_628 (by decide)
  have t_630 : At S_147 q_74 6 := tAt_sR eS_147 t_629
  have t_631 : At S_154 q_74 6 := by rw [eS_154]; exact At_sN t_630 hq_153
  have t_632 : At S_163 q_74 6 := tAt_sR eS_163 t_631
  have t_633 : At S_170 q_74 6 := by rw [eS_170]; exact At_sN t_632 hq_169
  have t_634 : At S_179 q_74 6 := tAt_sR eS_179 t_633
  have t_635 : At S_135 q_100 8 := hK_136.at ha_133 t_254 (by decide)
  have t_636 : At S_147 q_100 8 := tAt_sR eS_147 t_635
  have t_637 : At S_154 q_100 8 := by rw [eS_154]; exact At_sN t_636 hq_153
  have t_638 : At S_163 q_100 8 := tAt_sR eS_163 t_637
  have t_639 : At S_170 q_100 8 := by rw [eS_170]; exact At_sN t_638 hq_169
  have t_640 : At S_179 q_100 8 := tAt_sR eS_179 t_639
  have t_641 : At S_147 q_127 1 := tAt_sR eS_147 ha_138
  have t_642 : At S_154 q_127 1 := by rw [eS_154]; exact At_sN t_641 hq_153
  have t_643 : At S_163 q_127 1 := tAt_sR eS_163 t_642
  have t_644 : At S_170 q_127 1 := by rw [eS_170]; exact At_sN t_643 hq_169
  have t_645 : At S_179 q_127 1 := tAt_sR eS_179 t_644
  have t_646 : At S_170 q_153 17 := by rw [eS_170]; exact At_sN t_473 hq_169
  have t_647 : At S_179 q_153 17 := tAt_sR eS_179 t_646
  have t_648 : At S_179 q_169 14 := tAt_sR eS_179 ha_175
  exact L_185 _ _ _ _ _ (0) (0) (26) (1520) rfl hw ti_0 (by omega) t_603 hK_182 hg_183 ph_180 ph_181 t_225 t_248 t_259 t_280 t_605 t_322 t_341 t_607 t_379 t_396 t_609 t_430 t_444 t_623 t_456 t_634 t_197 t_640 t_464 t_645 t_468 t_647 t_474 h_184 t_648 t_478 (by omega) (by omega) (lv_sub hl [0, 1] rfl)
