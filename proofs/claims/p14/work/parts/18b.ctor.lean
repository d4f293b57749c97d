set_option maxRecDepth 20000 in
theorem ggX9_init__J7_copyOf_59c91 : GoodIn wsX9_init_ wsJ7_copyOf_59c91 := goodIn_h _ [7, 12, 0, 0, 0, 0, 0, 0, 0, 0, 0, 0, 0, 0, 0, 0] [1, 2, 3, 4, 5, 6, 7, 8, 9, 10, 0, 11, 12, 13, 14, 15] (by decide +kernel) (by decide +kernel)
set_option maxRecDepth 20000 in
theorem gX9_init__J7_copyOf_59c91 : GoodIn wsX9_init_ (va_wsS RX9 46 yJ7_copyOf_59c91 wsJ7_copyOf_59c91) := goodIn_app (goodIn_of _ (by decide +kernel)) ggX9_init__J7_copyOf_59c91
theorem dX9_init__0 : decode cX9_init_ 0 = .ok (.aload_n 0, 1) := by decide +kernel
theorem dX9_init__1 : decode cX9_init_ 1 = .ok (.invokespecial 3, 3) := by decide +kernel
theorem dX9_init__4 : decode cX9_init_ 4 = .ok (.aload_n 0, 1) := by decide +kernel
theorem dX9_init__5 : decode cX9_init_ 5 = .ok (.iconst 0, 1) := by decide +kernel
theorem dX9_init__6 : decode cX9_init_ 6 = .ok (.aload_n 1, 1) := by decide +kernel
theorem dX9_init__7 : decode cX9_init_ 7 = .ok (.getfield 30, 3) := by decide +kernel
theorem dX9_init__10 : decode cX9_init_ 10 = .ok (.invokestatic 34, 3) := by decide +kernel
theorem dX9_init__13 : decode cX9_init_ 13 = .ok (.putfield 30, 3) := by decide +kernel
theorem dX9_init__16 : decode cX9_init_ 16 = .ok (.aload_n 0, 1) := by decide +kernel
theorem dX9_init__17 : decode cX9_init_ 17 = .ok (.aload_n 1, 1) := by decide +kernel
theorem dX9_init__18 : decode cX9_init_ 18 = .ok (.getfield 40, 3) := by decide +kernel
theorem dX9_init__21 : decode cX9_init_ 21 = .ok (.putfield 40, 3) := by decide +kernel
theorem dX9_init__24 : decode cX9_init_ 24 = .ok (.aload_n 0, 1) := by decide +kernel
theorem dX9_init__25 : decode cX9_init_ 25 = .ok (.iconst 0, 1) := by decide +kernel
theorem dX9_init__26 : decode cX9_init_ 26 = .ok (.aload_n 1, 1) := by decide +kernel
theorem dX9_init__27 : decode cX9_init_ 27 = .ok (.getfield 43, 3) := by decide +kernel
theorem dX9_init__30 : decode cX9_init_ 30 = .ok (.invokestatic 34, 3) := by decide +kernel
theorem dX9_init__33 : decode cX9_init_ 33 = .ok (.putfield 43, 3) := by decide +kernel
theorem dX9_init__36 : decode cX9_init_ 36 = .ok (.aload_n 0, 1) := by decide +kernel
theorem dX9_init__37 : decode cX9_init_ 37 = .ok (.aload_n 1, 1) := by decide +kernel
theorem dX9_init__38 : decode cX9_init_ 38 = .ok (.getfield 9, 3) := by decide +kernel
theorem dX9_init__41 : decode cX9_init_ 41 = .ok (.aload_n 0, 1) := by decide +kernel
theorem dX9_init__42 : decode cX9_init_ 42 = .ok (.getfield 30, 3) := by decide +kernel
theorem dX9_init__45 : decode cX9_init_ 45 = .ok (.invokestatic 46, 3) := by decide +kernel
theorem dX9_init__48 : decode cX9_init_ 48 = .ok (.putfield 9, 3) := by decide +kernel
theorem dX9_init__51 : decode cX9_init_ 51 = .ok (.aload_n 0, 1) := by decide +kernel
theorem dX9_init__52 : decode cX9_init_ 52 = .ok (.aload_n 1, 1) := by decide +kernel
theorem dX9_init__53 : decode cX9_init_ 53 = .ok (.getfield 15, 3) := by decide +kernel
theorem dX9_init__56 : decode cX9_init_ 56 = .ok (.aload_n 0, 1) := by decide +kernel
theorem dX9_init__57 : decode cX9_init_ 57 = .ok (.getfield 30, 3) := by decide +kernel
theorem dX9_init__60 : decode cX9_init_ 60 = .ok (.invokestatic 46, 3) := by decide +kernel
theorem dX9_init__63 : decode cX9_init_ 63 = .ok (.putfield 15, 3) := by decide +kernel
theorem dX9_init__66 : decode cX9_init_ 66 = .ok (.aload_n 0, 1) := by decide +kernel
theorem dX9_init__67 : decode cX9_init_ 67 = .ok (.aload_n 1, 1) := by decide +kernel
theorem dX9_init__68 : decode cX9_init_ 68 = .ok (.getfield 18, 3) := by decide +kernel
theorem dX9_init__71 : decode cX9_init_ 71 = .ok (.aload_n 0, 1) := by decide +kernel
theorem dX9_init__72 : decode cX9_init_ 72 = .ok (.getfield 43, 3) := by decide +kernel
theorem dX9_init__75 : decode cX9_init_ 75 = .ok (.invokestatic 46, 3) := by decide +kernel
theorem dX9_init__78 : decode cX9_init_ 78 = .ok (.putfield 18, 3) := by decide +kernel
theorem dX9_init__81 : decode cX9_init_ 81 = .ok (.aload_n 0, 1) := by decide +kernel
theorem dX9_init__82 : decode cX9_init_ 82 = .ok (.aload_n 1, 1) := by decide +kernel
theorem dX9_init__83 : decode cX9_init_ 83 = .ok (.getfield 21, 3) := by decide +kernel
theorem dX9_init__86 : decode cX9_init_ 86 = .ok (.aload_n 0, 1) := by decide +kernel
theorem dX9_init__87 : decode cX9_init_ 87 = .ok (.getfield 43, 3) := by decide +kernel
theorem dX9_init__90 : decode cX9_init_ 90 = .ok (.invokestatic 46, 3) := by decide +kernel
theorem dX9_init__93 : decode cX9_init_ 93 = .ok (.putfield 21, 3) := by decide +kernel
theorem dX9_init__96 : decode cX9_init_ 96 = .ok (.aload_n 0, 1) := by decide +kernel
theorem dX9_init__97 : decode cX9_init_ 97 = .ok (.aload_n 1, 1) := by decide +kernel
theorem dX9_init__98 : decode cX9_init_ 98 = .ok (.getfield 24, 3) := by decide +kernel
theorem dX9_init__101 : decode cX9_init_ 101 = .ok (.aload_n 0, 1) := by decide +kernel
theorem dX9_init__102 : decode cX9_init_ 102 = .ok (.getfield 43, 3) := by decide +kernel
theorem dX9_init__105 : decode cX9_init_ 105 = .ok (.invokestatic 46, 3) := by decide +kernel
theorem dX9_init__108 : decode cX9_init_ 108 = .ok (.putfield 24, 3) := by decide +kernel
theorem dX9_init__111 : decode cX9_init_ 111 = .ok (.aload_n 0, 1) := by decide +kernel
theorem dX9_init__112 : decode cX9_init_ 112 = .ok (.aload_n 1, 1) := by decide +kernel
theorem dX9_init__113 : decode cX9_init_ 113 = .ok (.getfield 27, 3) := by decide +kernel
theorem dX9_init__116 : decode cX9_init_ 116 = .ok (.aload_n 0, 1) := by decide +kernel
theorem dX9_init__117 : decode cX9_init_ 117 = .ok (.getfield 43, 3) := by decide +kernel
theorem dX9_init__120 : decode cX9_init_ 120 = .ok (.invokestatic 46, 3) := by decide +kernel
theorem dX9_init__123 : decode cX9_init_ 123 = .ok (.putfield 27, 3) := by decide +kernel
theorem dX9_init__126 : decode cX9_init_ 126 = .ok (.return_, 1) := by decide +kernel
theorem inn_X9_init__9 : ∀ w ∈ u_ws RX9 TX9 9, w ∈ wsX9_init_ := fun w h => List.mem_cons_of_mem _ (List.mem_append_right _ h)
set_option maxHeartbeats 4000000 in
set_option maxRecDepth 100000 in
theorem k_X9_init_ (l : Launch) (G : va_G) (cy : Nat → ClassId) (κ : Nat → Nat) (S : PS) (sz : Nat) (x : Nat) (g1 : Nat) (hG : GX S) (ha_x : At S x 189) (ha_g1 : At S g1 29) (hzI : ∀ g, pI S g x = 0) (hzR : ∀ g, pR S g x = none) : Cv l yX9_init_ wsX9_init_ ({ frames := 3, cells := 6, slots := 15000, locals := 144 }) G cy κ S sz [.ref x, .ref g1] (fun (S9 : PS) => Kq S S9 x ∧ GX S9 ∧ At S9 x 9 ∧ Phc S9 = Phc S + 0 ∧ Phs S9 = Phs S + 0) := by
  refine ent_m (cc := cX9_init_) (maxL := 2) (ret := none) (by decide) rfl (Nat.le_of_ble_eq_true rfl) ?_
  intro p e s m below meth c ls X hr hlocks hin hw hl hsz
  subst hsz
  have X : Cx p c cX9_init_ 2 s [.ref x, .ref g1].toArray wsX9_init_ RX9 m G cy κ (AS S s.heap.size) := X
  have hl : lv_has ls 2 [(0, .ref x), (1, .ref g1)] := hl
  have hpc0 : Phc S = Phc S + 0 := rfl
  have hps0 : Phs S = Phs S + 0 := rfl
  have hK : Kq S S x := Kq.rf S _
  refine lv_aload_n X.1 X.2.1 dX9_init__0 rfl (lv_at hl 0 rfl) ?_
  refine W.objInit X.1 X.2.1 X.2.2.2.2.1 (X.2.2.2.1 (.methodLink RX9 3 objectInit) (by decide +kernel)) (X.2.2.2.1 (.instanceMethod objectInit) (by decide +kernel)) (X.2.2.2.1 (.code objectInit ⟨#[0xb1]⟩ 1 none) (by decide +kernel)) rfl (hl.1.trans X.2.2.1.symm) rfl dX9_init__1 (Nat.le_of_ble_eq_true rfl) (Nat.le_of_ble_eq_true rfl) ?_
  refine W.eq (g2 := F0 m 4 ls ([])) rfl ?_
  refine lv_aload_n X.1 X.2.1 dX9_init__4 rfl (lv_at hl 0 rfl) ?_
  refine lv_iconst (v := 0) X.1 X.2.1 dX9_init__5 (by decide) ?_
  refine lv_aload_n X.1 X.2.1 dX9_init__6 rfl (lv_at hl 1 rfl) ?_
  obtain ⟨v_1, ev_1⟩ : ∃ v, pI S 902 g1 = v := ⟨_, rfl⟩
  have rg_2 := gI_29_902 hG ha_g1; rw [ev_1] at rg_2
  refine r_getI (g := 902) (x := v_1) X hw ha_g1 rfl 2 ev_1 (by decide) rfl inn_X9_init__9 (by decide) (X.2.2.2.1 (.fieldLink RX9 30 "SilkMill$Strand" "metres" "I") (by decide +kernel)) rfl (gv_902 _ _) dX9_init__7 ?_
  refine va_mmax X.1 X.2.1 (X.2.2.1.trans hl.1.symm) X.2.2.2.2.1 (X.2.2.2.1 (.methodLink RX9 34 Lib.Math.max.name) (by decide +kernel)) (X.2.2.2.1 (.static Lib.Math.max.name) (by decide +kernel)) (X.2.2.2.1 (.initialized "java/lang/Math") (by decide +kernel)) (X.2.2.2.1 (.code Lib.Math.max.name Lib.Math.max.code 2 (some .int)) (by decide +kernel)) (Nat.le_of_ble_eq_true rfl) (Nat.le_of_ble_eq_true rfl) (by show 0 ≤ 6; omega) (by show 0 ≤ 15000; omega) dX9_init__10 ?_
  refine lv_topi (fun v_3 ev_3 => ?_)
  have z_4 : v_3.toInt = v_1.toInt := by have := z_max ev_3 ti_0 rfl; omega
  refine r_putI (v := v_3) X hw ha_x rfl 2 902 tyX9 (by decide) rfl inn_X9_init__9 tyX9_ok nmX9 (by decide) (X.2.2.2.1 (.fieldLink RX9 30 "SilkMill$Strand" "metres" "I") (by decide +kernel)) rfl (Or.inl rfl) rfl rfl (Nat.le_of_ble_eq_true rfl) (st_902 _ _) dX9_init__13 (fun H locs hw => ?_)
  obtain ⟨S_5, eS_5⟩ : ∃ T, T = sI S 902 x (v_3) := ⟨_, rfl⟩
  rw [← eS_5] at hw
  have ph_6 : Phc S_5 = Phc S + 0 := (show Phc S_5 = Phc S from Ph_rawI ha_x (by decide) eS_5).trans hpc0
  have ph_7 : Phs S_5 = Phs S + 0 := (show Phs S_5 = Phs S from Ph_rawI ha_x (by decide) eS_5).trans hps0
  clear hpc0
  clear hps0
  have hK_8 : Kq S S_5 x := hK.sI eS_5
  have hg_9 : GX S_5 := by rw [eS_5]; exact GX_rawI hG ha_x (by decide +kernel)
  have h_10 : pI S_5 902 x = v_3 := tI_sIs eS_5
  refine lv_aload_n X.1 X.2.1 dX9_init__16 rfl (lv_at hl 0 rfl) ?_
  refine lv_aload_n X.1 X.2.1 dX9_init__17 rfl (lv_at hl 1 rfl) ?_
  have t_11 : At S_5 g1 29 := tAt_sI eS_5 ha_g1
  obtain ⟨v_12, ev_12⟩ : ∃ v, pI S_5 903 g1 = v := ⟨_, rfl⟩
  have rg_14 := And.intro (z_lo v_12) (z_hi v_12)
  refine r_getI (g := 903) (x := v_12) X hw t_11 rfl 3 ev_12 (by decide) rfl inn_X9_init__9 (by decide) (X.2.2.2.1 (.fieldLink RX9 40 "SilkMill$Strand" "silk" "I") (by decide +kernel)) rfl (gv_903 _ _) dX9_init__18 ?_
  have t_15 : At S_5 x 189 := tAt_sI eS_5 ha_x
  refine r_putI (v := v_12) X hw t_15 rfl 3 903 tyX9 (by decide) rfl inn_X9_init__9 tyX9_ok nmX9 (by decide) (X.2.2.2.1 (.fieldLink RX9 40 "SilkMill$Strand" "silk" "I") (by decide +kernel)) rfl (Or.inl rfl) rfl rfl (Nat.le_of_ble_eq_true rfl) (st_903 _ _) dX9_init__21 (fun H locs hw => ?_)
  obtain ⟨S_16, eS_16⟩ : ∃ T, T = sI S_5 903 x (v_12) := ⟨_, rfl⟩
  rw [← eS_16] at hw
  have ph_17 : Phc S_16 = Phc S + 0 := (show Phc S_16 = Phc S_5 from Ph_rawI t_15 (by decide) eS_16).trans ph_6
  have ph_18 : Phs S_16 = Phs S + 0 := (show Phs S_16 = Phs S_5 from Ph_rawI t_15 (by decide) eS_16).trans ph_7
  clear ph_6
  clear ph_7
  have hK_19 : Kq S S_16 x := hK_8.sI eS_16
  have hg_20 : GX S_16 := by rw [eS_16]; exact GX_rawI hg_9 t_15 (by decide +kernel)
  have h_21 : pI S_16 903 x = v_12 := tI_sIs eS_16
  refine lv_aload_n X.1 X.2.1 dX9_init__24 rfl (lv_at hl 0 rfl) ?_
  refine lv_iconst (v := 0) X.1 X.2.1 dX9_init__25 (by decide) ?_
  refine lv_aload_n X.1 X.2.1 dX9_init__26 rfl (lv_at hl 1 rfl) ?_
  have t_22 : At S_16 g1 29 := tAt_sI eS_16 t_11
  obtain ⟨v_23, ev_23⟩ : ∃ v, pI S_16 904 g1 = v := ⟨_, rfl⟩
  obtain ⟨q_25, q_26, q_27, q_28, n_29, h_30, h_31, h_32, h_33, h_34, h_35, h_36, h_37, h_38, h_39, h_40, h_41, h_42⟩ := gGrwQ hg_20 t_22
  have rg_24 := gGrw_904 hg_20 t_22 h_30 h_38; rw [ev_23] at rg_24
  refine r_getI (g := 904) (x := v_23) X hw t_22 rfl 4 ev_23 (by decide) rfl inn_X9_init__9 (by decide) (X.2.2.2.1 (.fieldLink RX9 43 "SilkMill$Strand" "pieces" "I") (by decide +kernel)) rfl (gv_904 _ _) dX9_init__27 ?_
  refine va_mmax X.1 X.2.1 (X.2.2.1.trans hl.1.symm) X.2.2.2.2.1 (X.2.2.2.1 (.methodLink RX9 34 Lib.Math.max.name) (by decide +kernel)) (X.2.2.2.1 (.static Lib.Math.max.name) (by decide +kernel)) (X.2.2.2.1 (.initialized "java/lang/Math") (by decide +kernel)) (X.2.2.2.1 (.code Lib.Math.max.name Lib.Math.max.code 2 (some .int)) (by decide +kernel)) (Nat.le_of_ble_eq_true rfl) (Nat.le_of_ble_eq_true rfl) (by show 0 ≤ 6; omega) (by show 0 ≤ 15000; omega) dX9_init__30 ?_
  refine lv_topi (fun v_43 ev_43 => ?_)
  have z_44 : v_43.toInt = v_23.toInt := by have := z_max ev_43 ti_0 rfl; omega
  have t_45 : At S_16 x 189 := tAt_sI eS_16 t_15
  refine r_putI (v := v_43) X hw t_45 rfl 4 904 tyX9 (by decide) rfl inn_X9_init__9 tyX9_ok nmX9 (by decide) (X.2.2.2.1 (.fieldLink RX9 43 "SilkMill$Strand" "pieces" "I") (by decide +kernel)) rfl (Or.inl rfl) rfl rfl (Nat.le_of_ble_eq_true rfl) (st_904 _ _) dX9_init__33 (fun H locs hw => ?_)
  obtain ⟨S_46, eS_46⟩ : ∃ T, T = sI S_16 904 x (v_43) := ⟨_, rfl⟩
  rw [← eS_46] at hw
  have ph_47 : Phc S_46 = Phc S + 0 := (show Phc S_46 = Phc S_16 from Ph_rawI t_45 (by decide) eS_46).trans ph_17
  have ph_48 : Phs S_46 = Phs S + 0 := (show Phs S_46 = Phs S_16 from Ph_rawI t_45 (by decide) eS_46).trans ph_18
  clear ph_17
  clear ph_18
  have hK_49 : Kq S S_46 x := hK_19.sI eS_46
  have hg_50 : GX S_46 := by rw [eS_46]; exact GX_rawI hg_20 t_45 (by decide +kernel)
  have h_51 : pI S_46 904 x = v_43 := tI_sIs eS_46
  refine lv_aload_n X.1 X.2.1 dX9_init__36 rfl (lv_at hl 0 rfl) ?_
  refine lv_aload_n X.1 X.2.1 dX9_init__37 rfl (lv_at hl 1 rfl) ?_
  have t_52 : At S_46 g1 29 := tAt_sI eS_46 t_22
  obtain ⟨q_53, h_54, h_55, h_56⟩ := gQ_29_900 hg_50 t_52
  refine r_getR (g := 900) X hw t_52 rfl 0 h_54 (by decide) rfl inn_X9_init__9 (by decide) (X.2.2.2.1 (.fieldLink RX9 9 "SilkMill$Strand" "fineness" "[I") (by decide +kernel)) rfl (gv_900 _ _) dX9_init__38 ?_
  refine lv_aload_n X.1 X.2.1 dX9_init__41 rfl (lv_at hl 0 rfl) ?_
  have t_57 : At S_46 x 189 := tAt_sI eS_46 t_45
  have t_58 : pI S_16 902 x = v_3 := tI_sI eS_16 rfl h_10
  have t_59 : pI S_46 902 x = v_3 := tI_sI eS_46 rfl t_58
  refine r_getI (g := 902) (x := v_3) X hw t_57 rfl 2 t_59 (by decide) rfl inn_X9_init__9 (by decide) (X.2.2.2.1 (.fieldLink RX9 30 "SilkMill$Strand" "metres" "I") (by decide +kernel)) rfl (gv_902 _ _) dX9_init__42 ?_
  refine k_q (rm := { frames := 2, cells := 1, slots := 300, locals := 96 }) (av := [.ref q_53, .int (v_3)]) X hw (va_runS (As := [.ref q_53, .int (v_3)]) (rest := [.ref x]) (cfix X) (k_J7_copyOf_59c91 l G cy κ S_46 _ q_53 (v_3) (v_3.toInt) 300 (v_3.toInt.toNat) 300 hg_50.ci h_55 rfl h_56 (by omega) (by omega) (by omega) (by omega)) (va_cwS 2 X.2.2.2.1 gX9_init__J7_copyOf_59c91 rfl rfl rfl (by decide +kernel) ⟨Nat.le_of_ble_eq_true rfl, Nat.le_of_ble_eq_true rfl⟩) (pre_S X hw _) rfl rfl hl.1 rfl (lv_room (Nat.le_of_ble_eq_true rfl)) dX9_init__45 ⟨(by show 0 + 1 ≤ 6; omega), (by show 0 + 300 ≤ 15000; omega)⟩) 1 300 (by show 0 + 1 ≤ 1; omega) (by show 0 + 300 ≤ 300; omega) (fun rr_60 S_61 H locs hp hw hfr hnw => ?_)
  obtain ⟨q_62, er_64, hcp_63⟩ := hp
  subst er_64
  refine W.eq (g2 := F0 m 48 ls (.ref q_62 :: .ref x :: [])) rfl ?_
  have hcp_63_a := hcp_63.2.2.1
  have hcp_63_n := hcp_63.2.2.2.1
  have ph_65 : Phc S_61 = Phc S + 0 := (show Phc S_61 = Phc S_46 from hcp_63.2.2.2.2.2.1).trans ph_47
  have ph_66 : Phs S_61 = Phs S + 0 := (show Phs S_61 = Phs S_46 from hcp_63.2.2.2.2.2.2.1).trans ph_48
  clear ph_47
  clear ph_48
  have hn0_q_62 := hK_49.new hcp_63.1
  have hK_67 : Kq S S_61 x := hK_49.sub hn0_q_62 hcp_63.2.1
  have hg_68 : GX S_61 := hcp_63.2.2.2.2.2.2.2.2 hg_50
  have t_69 : At S_61 x 189 := ⟨(hcp_63.2.1 x t_57.1).1, ((hcp_63.2.1 x t_57.1).2 (ne_of_new hcp_63.1 t_57.1)).1.trans t_57.2⟩
  refine r_putR X hw t_69 rfl 0 900 (some q_62) rfl tyX9 (by decide) rfl inn_X9_init__9 tyX9_ok nmX9 (by decide) (X.2.2.2.1 (.fieldLink RX9 9 "SilkMill$Strand" "fineness" "[I") (by decide +kernel)) rfl (Or.inr ⟨rfl, hin, rfl⟩) (fun _ => rfl) rfl (fun _ => rfl) rfl (Nat.le_of_ble_eq_true rfl) (st_900 _ _) dX9_init__48 (fun H locs hw => ?_)
  obtain ⟨S_70, eS_70⟩ : ∃ T, T = sR S_61 900 x (some q_62) := ⟨_, rfl⟩
  rw [← eS_70] at hw
  have ph_71 : Phc S_70 = Phc S + 0 := (show Phc S_70 = Phc S_61 from Ph_rawR t_69 (by decide) eS_70).trans ph_65
  have ph_72 : Phs S_70 = Phs S + 0 := (show Phs S_70 = Phs S_61 from Ph_rawR t_69 (by decide) eS_70).trans ph_66
  clear ph_65
  clear ph_66
  have hK_73 : Kq S S_70 x := hK_67.sR eS_70
  have hg_74 : GX S_70 := by rw [eS_70]; exact GX_rawR hg_68 t_69 (by decide +kernel)
  have h_75 : pR S_70 900 x = some q_62 := tR_sRs eS_70
  refine lv_aload_n X.1 X.2.1 dX9_init__51 rfl (lv_at hl 0 rfl) ?_
  refine lv_aload_n X.1 X.2.1 dX9_init__52 rfl (lv_at hl 1 rfl) ?_
  have t_76 : At S_61 g1 29 := ⟨(hcp_63.2.1 g1 t_52.1).1, ((hcp_63.2.1 g1 t_52.1).2 (ne_of_new hcp_63.1 t_52.1)).1.trans t_52.2⟩
  have t_77 : At S_70 g1 29 := tAt_sR eS_70 t_76
  obtain ⟨q_78, h_79, h_80, h_81⟩ := gQ_29_901 hg_74 t_77
  refine r_getR (g := 901) X hw t_77 rfl 1 h_79 (by decide) rfl inn_X9_init__9 (by decide) (X.2.2.2.1 (.fieldLink RX9 15 "SilkMill$Strand" "endCounts" "[I") (by decide +kernel)) rfl (gv_901 _ _) dX9_init__53 ?_
  refine lv_aload_n X.1 X.2.1 dX9_init__56 rfl (lv_at hl 0 rfl) ?_
  have t_82 : At S_70 x 189 := tAt_sR eS_70 t_69
  have t_83 : pI S_61 902 x = v_3 := (((hcp_63.2.1 x t_57.1).2 (ne_of_new hcp_63.1 t_57.1)).2.1 902).trans t_59
  have t_84 : pI S_70 902 x = v_3 := tI_sR eS_70 t_83
  refine r_getI (g := 902) (x := v_3) X hw t_82 rfl 2 t_84 (by decide) rfl inn_X9_init__9 (by decide) (X.2.2.2.1 (.fieldLink RX9 30 "SilkMill$Strand" "metres" "I") (by decide +kernel)) rfl (gv_902 _ _) dX9_init__57 ?_
  refine k_q (rm := { frames := 2, cells := 1, slots := 300, locals := 96 }) (av := [.ref q_78, .int (v_3)]) X hw (va_runS (As := [.ref q_78, .int (v_3)]) (rest := [.ref x]) (cfix X) (k_J7_copyOf_59c91 l G cy κ S_70 _ q_78 (v_3) (v_3.toInt) 300 (v_3.toInt.toNat) 300 hg_74.ci h_80 rfl h_81 (by omega) (by omega) (by omega) (by omega)) (va_cwS 2 X.2.2.2.1 gX9_init__J7_copyOf_59c91 rfl rfl rfl (by decide +kernel) ⟨Nat.le_of_ble_eq_true rfl, Nat.le_of_ble_eq_true rfl⟩) (pre_S X hw _) rfl rfl hl.1 rfl (lv_room (Nat.le_of_ble_eq_true rfl)) dX9_init__60 ⟨(by show 1 + 1 ≤ 6; omega), (by show 300 + 300 ≤ 15000; omega)⟩) 2 600 (by show 1 + 1 ≤ 2; omega) (by show 300 + 300 ≤ 600; omega) (fun rr_85 S_86 H locs hp hw hfr hnw => ?_)
  obtain ⟨q_87, er_89, hcp_88⟩ := hp
  subst er_89
  refine W.eq (g2 := F0 m 63 ls (.ref q_87 :: .ref x :: [])) rfl ?_
  have hcp_88_a := hcp_88.2.2.1
  have hcp_88_n := hcp_88.2.2.2.1
  have ph_90 : Phc S_86 = Phc S + 0 := (show Phc S_86 = Phc S_70 from hcp_88.2.2.2.2.2.1).trans ph_71
  have ph_91 : Phs S_86 = Phs S + 0 := (show Phs S_86 = Phs S_70 from hcp_88.2.2.2.2.2.2.1).trans ph_72
  clear ph_71
  clear ph_72
  have hn0_q_87 := hK_73.new hcp_88.1
  have hK_92 : Kq S S_86 x := hK_73.sub hn0_q_87 hcp_88.2.1
  have hg_93 : GX S_86 := hcp_88.2.2.2.2.2.2.2.2 hg_74
  have t_94 : At S_86 x 189 := ⟨(hcp_88.2.1 x t_82.1).1, ((hcp_88.2.1 x t_82.1).2 (ne_of_new hcp_88.1 t_82.1)).1.trans t_82.2⟩
  refine r_putR X hw t_94 rfl 1 901 (some q_87) rfl tyX9 (by decide) rfl inn_X9_init__9 tyX9_ok nmX9 (by decide) (X.2.2.2.1 (.fieldLink RX9 15 "SilkMill$Strand" "endCounts" "[I") (by decide +kernel)) rfl (Or.inr ⟨rfl, hin, rfl⟩) (fun _ => rfl) rfl (fun _ => rfl) rfl (Nat.le_of_ble_eq_true rfl) (st_901 _ _) dX9_init__63 (fun H locs hw => ?_)
  obtain ⟨S_95, eS_95⟩ : ∃ T, T = sR S_86 901 x (some q_87) := ⟨_, rfl⟩
  rw [← eS_95] at hw
  have ph_96 : Phc S_95 = Phc S + 0 := (show Phc S_95 = Phc S_86 from Ph_rawR t_94 (by decide) eS_95).trans ph_90
  have ph_97 : Phs S_95 = Phs S + 0 := (show Phs S_95 = Phs S_86 from Ph_rawR t_94 (by decide) eS_95).trans ph_91
  clear ph_90
  clear ph_91
  have hK_98 : Kq S S_95 x := hK_92.sR eS_95
  have hg_99 : GX S_95 := by rw [eS_95]; exact GX_rawR hg_93 t_94 (by decide +kernel)
  have h_100 : pR S_95 901 x = some q_87 := tR_sRs eS_95
  refine lv_aload_n X.1 X.2.1 dX9_init__66 rfl (lv_at hl 0 rfl) ?_
  refine lv_aload_n X.1 X.2.1 dX9_init__67 rfl (lv_at hl 1 rfl) ?_
  have t_101 : At S_86 g1 29 := ⟨(hcp_88.2.1 g1 t_77.1).1, ((hcp_88.2.1 g1 t_77.1).2 (ne_of_new hcp_88.1 t_77.1)).1.trans t_77.2⟩
  have t_102 : At S_95 g1 29 := tAt_sR eS_95 t_101
  have t_103 : pR S_46 905 g1 = some q_25 := tR_sI eS_46 h_30
  have t_104 : pR S_61 905 g1 = some q_25 := (((hcp_63.2.1 g1 t_52.1).2 (ne_of_new hcp_63.1 t_52.1)).2.2.1 905).trans t_103
  have t_105 : pR S_70 905 g1 = some q_25 := tR_sR eS_70 rfl t_104
  have t_106 : pR S_86 905 g1 = some q_25 := (((hcp_88.2.1 g1 t_77.1).2 (ne_of_new hcp_88.1 t_77.1)).2.2.1 905).trans t_105
  have t_107 : pR S_95 905 g1 = some q_25 := tR_sR eS_95 rfl t_106
  refine r_getR (g := 905) X hw t_102 rfl 5 t_107 (by decide) rfl inn_X9_init__9 (by decide) (X.2.2.2.1 (.fieldLink RX9 18 "SilkMill$Strand" "codes" "[I") (by decide +kernel)) rfl (gv_905 _ _) dX9_init__68 ?_
  refine lv_aload_n X.1 X.2.1 dX9_init__71 rfl (lv_at hl 0 rfl) ?_
  have t_108 : At S_95 x 189 := tAt_sR eS_95 t_94
  have t_109 : pI S_61 904 x = v_43 := (((hcp_63.2.1 x t_57.1).2 (ne_of_new hcp_63.1 t_57.1)).2.1 904).trans h_51
  have t_110 : pI S_70 904 x = v_43 := tI_sR eS_70 t_109
  have t_111 : pI S_86 904 x = v_43 := (((hcp_88.2.1 x t_82.1).2 (ne_of_new hcp_88.1 t_82.1)).2.1 904).trans t_110
  have t_112 : pI S_95 904 x = v_43 := tI_sR eS_95 t_111
  refine r_getI (g := 904) (x := v_43) X hw t_108 rfl 4 t_112 (by decide) rfl inn_X9_init__9 (by decide) (X.2.2.2.1 (.fieldLink RX9 43 "SilkMill$Strand" "pieces" "I") (by decide +kernel)) rfl (gv_904 _ _) dX9_init__72 ?_
  have t_113 : At S_46 q_25 14 := tAt_sI eS_46 h_34
  have t_114 : At S_61 q_25 14 := ⟨(hcp_63.2.1 q_25 t_113.1).1, ((hcp_63.2.1 q_25 t_113.1).2 (ne_of_new hcp_63.1 t_113.1)).1.trans t_113.2⟩
  have t_115 : At S_70 q_25 14 := tAt_sR eS_70 t_114
  have t_116 : At S_86 q_25 14 := ⟨(hcp_88.2.1 q_25 t_115.1).1, ((hcp_88.2.1 q_25 t_115.1).2 (ne_of_new hcp_88.1 t_115.1)).1.trans t_115.2⟩
  have t_117 : At S_95 q_25 14 := tAt_sR eS_95 t_116
  have t_118 : pN S_46 q_25 = n_29 := tN_sI eS_46 h_38
  clear h_38
  have t_120 : At S_46 q_25 14 := tAt_sI eS_46 h_34
  have t_119 : pN S_61 q_25 = n_29 := ((hcp_63.2.1 q_25 t_120.1).2 (ne_of_new hcp_63.1 t_120.1)).2.2.2.1.trans t_118
  clear t_118
  have t_121 : pN S_70 q_25 = n_29 := tN_sR eS_70 t_119
  clear t_119
  have t_123 : At S_61 q_25 14 := ⟨(hcp_63.2.1 q_25 t_120.1).1, ((hcp_63.2.1 q_25 t_120.1).2 (ne_of_new hcp_63.1 t_120.1)).1.trans t_120.2⟩
  have t_124 : At S_70 q_25 14 := tAt_sR eS_70 t_123
  have t_122 : pN S_86 q_25 = n_29 := ((hcp_88.2.1 q_25 t_124.1).2 (ne_of_new hcp_88.1 t_124.1)).2.2.2.1.trans t_121
  clear t_121
  have t_125 : pN S_95 q_25 = n_29 := tN_sR eS_95 t_122
  clear t_122
  refine k_q (rm := { frames := 2, cells := 1, slots := 3600, locals := 96 }) (av := [.ref q_25, .int (v_43)]) X hw (va_runS (As := [.ref q_25, .int (v_43)]) (rest := [.ref x]) (cfix X) (k_J7_copyOf_59c91 l G cy κ S_95 _ q_25 (v_43) (v_43.toInt) n_29 (v_43.toInt.toNat) 3600 hg_99.ci t_117 rfl t_125 (by omega) (by omega) (by omega) (by omega)) (va_cwS 2 X.2.2.2.1 gX9_init__J7_copyOf_59c91 rfl rfl rfl (by decide +kernel) ⟨Nat.le_of_ble_eq_true rfl, Nat.le_of_ble_eq_true rfl⟩) (pre_S X hw _) rfl rfl hl.1 rfl (lv_room (Nat.le_of_ble_eq_true rfl)) dX9_init__75 ⟨(by show 2 + 1 ≤ 6; omega), (by show 600 + 3600 ≤ 15000; omega)⟩) 3 4200 (by show 2 + 1 ≤ 3; omega) (by show 600 + 3600 ≤ 4200; omega) (fun rr_126 S_127 H locs hp hw hfr hnw => ?_)
  obtain ⟨q_128, er_130, hcp_129⟩ := hp
  subst er_130
  refine W.eq (g2 := F0 m 78 ls (.ref q_128 :: .ref x :: [])) rfl ?_
  have hcp_129_a := hcp_129.2.2.1
  have hcp_129_n := hcp_129.2.2.2.1
  have ph_131 : Phc S_127 = Phc S + 0 := (show Phc S_127 = Phc S_95 from hcp_129.2.2.2.2.2.1).trans ph_96
  have ph_132 : Phs S_127 = Phs S + 0 := (show Phs S_127 = Phs S_95 from hcp_129.2.2.2.2.2.2.1).trans ph_97
  clear ph_96
  clear ph_97
  have hn0_q_128 := hK_98.new hcp_129.1
  have hK_133 : Kq S S_127 x := hK_98.sub hn0_q_128 hcp_129.2.1
  have hg_134 : GX S_127 := hcp_129.2.2.2.2.2.2.2.2 hg_99
  have t_135 : At S_127 x 189 := ⟨(hcp_129.2.1 x t_108.1).1, ((hcp_129.2.1 x t_108.1).2 (ne_of_new hcp_129.1 t_108.1)).1.trans t_108.2⟩
  refine r_putR X hw t_135 rfl 5 905 (some q_128) rfl tyX9 (by decide) rfl inn_X9_init__9 tyX9_ok nmX9 (by decide) (X.2.2.2.1 (.fieldLink RX9 18 "SilkMill$Strand" "codes" "[I") (by decide +kernel)) rfl (Or.inl rfl) (fun _ => rfl) rfl (fun _ => rfl) rfl (Nat.le_of_ble_eq_true rfl) (st_905 _ _) dX9_init__78 (fun H locs hw => ?_)
  obtain ⟨S_136, eS_136⟩ : ∃ T, T = sR S_127 905 x (some q_128) := ⟨_, rfl⟩
  rw [← eS_136] at hw
  have ph_137 : Phc S_136 = Phc S + 0 := (show Phc S_136 = Phc S_127 from Ph_rawR t_135 (by decide) eS_136).trans ph_131
  have ph_138 : Phs S_136 = Phs S + 0 := (show Phs S_136 = Phs S_127 from Ph_rawR t_135 (by decide) eS_136).trans ph_132
  clear ph_131
  clear ph_132
  have hK_139 : Kq S S_136 x := hK_133.sR eS_136
  have hg_140 : GX S_136 := by rw [eS_136]; exact GX_rawR hg_134 t_135 (by decide +kernel)
  have h_141 : pR S_136 905 x = some q_128 := tR_sRs eS_136
  refine lv_aload_n X.1 X.2.1 dX9_init__81 rfl (lv_at hl 0 rfl) ?_
  refine lv_aload_n X.1 X.2.1 dX9_init__82 rfl (lv_at hl 1 rfl) ?_
  have t_142 : At S_127 g1 29 := ⟨(hcp_129.2.1 g1 t_102.1).1, ((hcp_129.2.1 g1 t_102.1).2 (ne_of_new hcp_129.1 t_102.1)).1.trans t_102.2⟩
  have t_143 : At S_136 g1 29 := tAt_sR eS_136 t_142
  have t_144 : pR S_46 906 g1 = some q_26 := tR_sI eS_46 h_31
  have t_145 : pR S_61 906 g1 = some q_26 := (((hcp_63.2.1 g1 t_52.1).2 (ne_of_new hcp_63.1 t_52.1)).2.2.1 906).trans t_144
  have t_146 : pR S_70 906 g1 = some q_26 := tR_sR eS_70 rfl t_145
  have t_147 : pR S_86 906 g1 = some q_26 := (((hcp_88.2.1 g1 t_77.1).2 (ne_of_new hcp_88.1 t_77.1)).2.2.1 906).trans t_146
  have t_148 : pR S_95 906 g1 = some q_26 := tR_sR eS_95 rfl t_147
  have t_149 : pR S_127 906 g1 = some q_26 := (((hcp_129.2.1 g1 t_102.1).2 (ne_of_new hcp_129.1 t_102.1)).2.2.1 906).trans t_148
  have t_150 : pR S_136 906 g1 = some q_26 := tR_sR eS_136 rfl t_149
  refine r_getR (g := 906) X hw t_143 rfl 6 t_150 (by decide) rfl inn_X9_init__9 (by decide) (X.2.2.2.1 (.fieldLink RX9 21 "SilkMill$Strand" "firsts" "[I") (by decide +kernel)) rfl (gv_906 _ _) dX9_init__83 ?_
  refine lv_aload_n X.1 X.2.1 dX9_init__86 rfl (lv_at hl 0 rfl) ?_
  have t_151 : At S_136 x 189 := tAt_sR eS_136 t_135
  have t_152 : pI S_127 904 x = v_43 := (((hcp_129.2.1 x t_108.1).2 (ne_of_new hcp_129.1 t_108.1)).2.1 904).trans t_112
  have t_153 : pI S_136 904 x = v_43 := tI_sR eS_136 t_152
  refine r_getI (g := 904) (x := v_43) X hw t_151 rfl 4 t_153 (by decide) rfl inn_X9_init__9 (by decide) (X.2.2.2.1 (.fieldLink RX9 43 "SilkMill$Strand" "pieces" "I") (by decide +kernel)) rfl (gv_904 _ _) dX9_init__87 ?_
  have t_154 : At S_46 q_26 14 := tAt_sI eS_46 h_35
  have t_155 : At S_61 q_26 14 := ⟨(hcp_63.2.1 q_26 t_154.1).1, ((hcp_63.2.1 q_26 t_154.1).2 (ne_of_new hcp_63.1 t_154.1)).1.trans t_154.2⟩
  have t_156 : At S_70 q_26 14 := tAt_sR eS_70 t_155
  have t_157 : At S_86 q_26 14 := ⟨(hcp_88.2.1 q_26 t_156.1).1, ((hcp_88.2.1 q_26 t_156.1).2 (ne_of_new hcp_88.1 t_156.1)).1.trans t_156.2⟩
  have t_158 : At S_95 q_26 14 := tAt_sR eS_95 t_157
  have t_159 : At S_127 q_26 14 := ⟨(hcp_129.2.1 q_26 t_158.1).1, ((hcp_129.2.1 q_26 t_158.1).2 (ne_of_new hcp_129.1 t_158.1)).1.trans t_158.2⟩
  have t_160 : At S_136 q_26 14 := tAt_sR eS_136 t_159
  have t_161 : pN S_46 q_26 = n_29 := tN_sI eS_46 h_39
  clear h_39
  have t_163 : At S_46 q_26 14 := tAt_sI eS_46 h_35
  have t_162 : pN S_61 q_26 = n_29 := ((hcp_63.2.1 q_26 t_163.1).2 (ne_of_new hcp_63.1 t_163.1)).2.2.2.1.trans t_161
  clear t_161
  have t_164 : pN S_70 q_26 = n_29 := tN_sR eS_70 t_162
  clear t_162
  have t_166 : At S_61 q_26 14 := ⟨(hcp_63.2.1 q_26 t_163.1).1, ((hcp_63.2.1 q_26 t_163.1).2 (ne_of_new hcp_63.1 t_163.1)).1.trans t_163.2⟩
  have t_167 : At S_70 q_26 14 := tAt_sR eS_70 t_166
  have t_165 : pN S_86 q_26 = n_29 := ((hcp_88.2.1 q_26 t_167.1).2 (ne_of_new hcp_88.1 t_167.1)).2.2.2.1.trans t_164
  clear t_164
  have t_168 : pN S_95 q_26 = n_29 := tN_sR eS_95 t_165
  clear t_165
  have t_170 : At S_86 q_26 14 := ⟨(hcp_88.2.1 q_26 t_167.1).1, ((hcp_88.2.1 q_26 t_167.1).2 (ne_of_new hcp_88.1 t_167.1)).1.trans t_167.2⟩
  have t_171 : At S_95 q_26 14 := tAt_sR eS_95 t_170
  have t_169 : pN S_127 q_26 = n_29 := ((hcp_129.2.1 q_26 t_171.1).2 (ne_of_new hcp_129.1 t_171.1)).2.2.2.1.trans t_168
  clear t_168
  have t_172 : pN S_136 q_26 = n_29 := tN_sR eS_136 t_169
  clear t_169
  refine k_q (rm := { frames := 2, cells := 1, slots := 3600, locals := 96 }) (av := [.ref q_26, .int (v_43)]) X hw (va_runS (As := [.ref q_26, .int (v_43)]) (rest := [.ref x]) (cfix X) (k_J7_copyOf_59c91 l G cy κ S_136 _ q_26 (v_43) (v_43.toInt) n_29 (v_43.toInt.toNat) 3600 hg_140.ci t_160 rfl t_172 (by omega) (by omega) (by omega) (by omega)) (va_cwS 2 X.2.2.2.1 gX9_init__J7_copyOf_59c91 rfl rfl rfl (by decide +kernel) ⟨Nat.le_of_ble_eq_true rfl, Nat.le_of_ble_eq_true rfl⟩) (pre_S X hw _) rfl rfl hl.1 rfl (lv_room (Nat.le_of_ble_eq_true rfl)) dX9_init__90 ⟨(by show 3 + 1 ≤ 6; omega), (by show 4200 + 3600 ≤ 15000; omega)⟩) 4 7800 (by show 3 + 1 ≤ 4; omega) (by show 4200 + 3600 ≤ 7800; omega) (fun rr_173 S_174 H locs hp hw hfr hnw => ?_)
  obtain ⟨q_175, er_177, hcp_176⟩ := hp
  subst er_177
  refine W.eq (g2 := F0 m 93 ls (.ref q_175 :: .ref x :: [])) rfl ?_
  have hcp_176_a := hcp_176.2.2.1
  have hcp_176_n := hcp_176.2.2.2.1
  have ph_178 : Phc S_174 = Phc S + 0 := (show Phc S_174 = Phc S_136 from hcp_176.2.2.2.2.2.1).trans ph_137
  have ph_179 : Phs S_174 = Phs S + 0 := (show Phs S_174 = Phs S_136 from hcp_176.2.2.2.2.2.2.1).trans ph_138
  clear ph_137
  clear ph_138
  have hn0_q_175 := hK_139.new hcp_176.1
  have hK_180 : Kq S S_174 x := hK_139.sub hn0_q_175 hcp_176.2.1
  have hg_181 : GX S_174 := hcp_176.2.2.2.2.2.2.2.2 hg_140
  have t_182 : At S_174 x 189 := ⟨(hcp_176.2.1 x t_151.1).1, ((hcp_176.2.1 x t_151.1).2 (ne_of_new hcp_176.1 t_151.1)).1.trans t_151.2⟩
  refine r_putR X hw t_182 rfl 6 906 (some q_175) rfl tyX9 (by decide) rfl inn_X9_init__9 tyX9_ok nmX9 (by decide) (X.2.2.2.1 (.fieldLink RX9 21 "SilkMill$Strand" "firsts" "[I") (by decide +kernel)) rfl (Or.inl rfl) (fun _ => rfl) rfl (fun _ => rfl) rfl (Nat.le_of_ble_eq_true rfl) (st_906 _ _) dX9_init__93 (fun H locs hw => ?_)
  obtain ⟨S_183, eS_183⟩ : ∃ T, T = sR S_174 906 x (some q_175) := ⟨_, rfl⟩
  rw [← eS_183] at hw
  have ph_184 : Phc S_183 = Phc S + 0 := (show Phc S_183 = Phc S_174 from Ph_rawR t_182 (by decide) eS_183).trans ph_178
  have ph_185 : Phs S_183 = Phs S + 0 := (show Phs S_183 = Phs S_174 from Ph_rawR t_182 (by decide) eS_183).trans ph_179
  clear ph_178
  clear ph_179
  have hK_186 : Kq S S_183 x := hK_180.sR eS_183
  have hg_187 : GX S_183 := by rw [eS_183]; exact GX_rawR hg_181 t_182 (by decide +kernel)
  have h_188 : pR S_183 906 x = some q_175 := tR_sRs eS_183
  refine lv_aload_n X.1 X.2.1 dX9_init__96 rfl (lv_at hl 0 rfl) ?_
  refine lv_aload_n X.1 X.2.1 dX9_init__97 rfl (lv_at hl 1 rfl) ?_
  have t_189 : At S_174 g1 29 := ⟨(hcp_176.2.1 g1 t_143.1).1, ((hcp_176.2.1 g1 t_143.1).2 (ne_of_new hcp_176.1 t_143.1)).1.trans t_143.2⟩
  have t_190 : At S_183 g1 29 := tAt_sR eS_183 t_189
  have t_191 : pR S_46 907 g1 = some q_27 := tR_sI eS_46 h_32
  have t_192 : pR S_61 907 g1 = some q_27 := (((hcp_63.2.1 g1 t_52.1).2 (ne_of_new hcp_63.1 t_52.1)).2.2.1 907).trans t_191
  have t_193 : pR S_70 907 g1 = some q_27 := tR_sR eS_70 rfl t_192
  have t_194 : pR S_86 907 g1 = some q_27 := (((hcp_88.2.1 g1 t_77.1).2 (ne_of_new hcp_88.1 t_77.1)).2.2.1 907).trans t_193
  have t_195 : pR S_95 907 g1 = some q_27 := tR_sR eS_95 rfl t_194
  have t_196 : pR S_127 907 g1 = some q_27 := (((hcp_129.2.1 g1 t_102.1).2 (ne_of_new hcp_129.1 t_102.1)).2.2.1 907).trans t_195
  have t_197 : pR S_136 907 g1 = some q_27 := tR_sR eS_136 rfl t_196
  have t_198 : pR S_174 907 g1 = some q_27 := (((hcp_176.2.1 g1 t_143.1).2 (ne_of_new hcp_176.1 t_143.1)).2.2.1 907).trans t_197
  have t_199 : pR S_183 907 g1 = some q_27 := tR_sR eS_183 rfl t_198
  refine r_getR (g := 907) X hw t_190 rfl 7 t_199 (by decide) rfl inn_X9_init__9 (by decide) (X.2.2.2.1 (.fieldLink RX9 24 "SilkMill$Strand" "lengths" "[I") (by decide +kernel)) rfl (gv_907 _ _) dX9_init__98 ?_
  refine lv_aload_n X.1 X.2.1 dX9_init__101 rfl (lv_at hl 0 rfl) ?_
  have t_200 : At S_183 x 189 := tAt_sR eS_183 t_182
  have t_201 : pI S_174 904 x = v_43 := (((hcp_176.2.1 x t_151.1).2 (ne_of_new hcp_176.1 t_151.1)).2.1 904).trans t_153
  have t_202 : pI S_183 904 x = v_43 := tI_sR eS_183 t_201
  refine r_getI (g := 904) (x := v_43) X hw t_200 rfl 4 t_202 (by decide) rfl inn_X9_init__9 (by decide) (X.2.2.2.1 (.fieldLink RX9 43 "SilkMill$Strand" "pieces" "I") (by decide +kernel)) rfl (gv_904 _ _) dX9_init__102 ?_
  have t_203 : At S_46 q_27 14 := tAt_sI eS_46 h_36
  have t_204 : At S_61 q_27 14 := ⟨(hcp_63.2.1 q_27 t_203.1).1, ((hcp_63.2.1 q_27 t_203.1).2 (ne_of_new hcp_63.1 t_203.1)).1.trans t_203.2⟩
  have t_205 : At S_70 q_27 14 := tAt_sR eS_70 t_204
  have t_206 : At S_86 q_27 14 := ⟨(hcp_88.2.1 q_27 t_205.1).1, ((hcp_88.2.1 q_27 t_205.1).2 (ne_of_new hcp_88.1 t_205.1)).1.trans t_205.2⟩
  have t_207 : At S_95 q_27 14 := tAt_sR eS_95 t_206
  have t_208 : At S_127 q_27 14 := ⟨(hcp_129.2.1 q_27 t_207.1).1, ((hcp_129.2.1 q_27 t_207.1).2 (ne_of_new hcp_129.1 t_207.1)).1.trans t_207.2⟩
  have t_209 : At S_136 q_27 14 := tAt_sR eS_136 t_208
  have t_210 : At S_174 q_27 14 := ⟨(hcp_176.2.1 q_27 t_209.1).1, ((hcp_176.2.1 q_27 t_209.1).2 (ne_of_new hcp_176.1 t_209.1)).1.trans t_209.2⟩
  have t_211 : At S_183 q_27 14 := tAt_sR eS_183 t_210
  have t_212 : pN S_46 q_27 = n_29 := tN_sI eS_46 h_40
  clear h_40
  have t_214 : At S_46 q_27 14 := tAt_sI eS_46 h_36
  have t_213 : pN S_61 q_27 = n_29 := ((hcp_63.2.1 q_27 t_214.1).2 (ne_of_new hcp_63.1 t_214.1)).2.2.2.1.trans t_212
  clear t_212
  have t_215 : pN S_70 q_27 = n_29 := tN_sR eS_70 t_213
  clear t_213
  have t_217 : At S_61 q_27 14 := ⟨(hcp_63.2.1 q_27 t_214.1).1, ((hcp_63.2.1 q_27 t_214.1).2 (ne_of_new hcp_63.1 t_214.1)).1.trans t_214.2⟩
  have t_218 : At S_70 q_27 14 := tAt_sR eS_70 t_217
  have t_216 : pN S_86 q_27 = n_29 := ((hcp_88.2.1 q_27 t_218.1).2 (ne_of_new hcp_88.1 t_218.1)).2.2.2.1.trans t_215
  clear t_215
  have t_219 : pN S_95 q_27 = n_29 := tN_sR eS_95 t_216
  clear t_216
  have t_221 : At S_86 q_27 14 := ⟨(hcp_88.2.1 q_27 t_218.1).1, ((hcp_88.2.1 q_27 t_218.1).2 (ne_of_new hcp_88.1 t_218.1)).1.trans t_218.2⟩
  have t_222 : At S_95 q_27 14 := tAt_sR eS_95 t_221
  have t_220 : pN S_127 q_27 = n_29 := ((hcp_129.2.1 q_27 t_222.1).2 (ne_of_new hcp_129.1 t_222.1)).2.2.2.1.trans t_219
  clear t_219
  have t_223 : pN S_136 q_27 = n_29 := tN_sR eS_136 t_220
  clear t_220
  have t_225 : At S_127 q_27 14 := ⟨(hcp_129.2.1 q_27 t_222.1).1, ((hcp_129.2.1 q_27 t_222.1).2 (ne_of_new hcp_129.1 t_222.1)).1.trans t_222.2⟩
  have t_226 : At S_136 q_27 14 := tAt_sR eS_136 t_225
  have t_224 : pN S_174 q_27 = n_29 := ((hcp_176.2.1 q_27 t_226.1).2 (ne_of_new hcp_176.1 t_226.1)).2.2.2.1.trans t_223
  clear t_223
  have t_227 : pN S_183 q_27 = n_29 := tN_sR eS_183 t_224
  clear t_224
  refine k_q (rm := { frames := 2, cells := 1, slots := 3600, locals := 96 }) (av := [.ref q_27, .int (v_43)]) X hw (va_runS (As := [.ref q_27, .int (v_43)]) (rest := [.ref x]) (cfix X) (k_J7_copyOf_59c91 l G cy κ S_183 _ q_27 (v_43) (v_43.toInt) n_29 (v_43.toInt.toNat) 3600 hg_187.ci t_211 rfl t_227 (by omega) (by omega) (by omega) (by omega)) (va_cwS 2 X.2.2.2.1 gX9_init__J7_copyOf_59c91 rfl rfl rfl (by decide +kernel) ⟨Nat.le_of_ble_eq_true rfl, Nat.le_of_ble_eq_true rfl⟩) (pre_S X hw _) rfl rfl hl.1 rfl (lv_room (Nat.le_of_ble_eq_true rfl)) dX9_init__105 ⟨(by show 4 + 1 ≤ 6; omega), (by show 7800 + 3600 ≤ 15000; omega)⟩) 5 11400 (by show 4 + 1 ≤ 5; omega) (by show 7800 + 3600 ≤ 11400; omega) (fun rr_228 S_229 H locs hp hw hfr hnw => ?_)
  obtain ⟨q_230, er_232, hcp_231⟩ := hp
  subst er_232
  refine W.eq (g2 := F0 m 108 ls (.ref q_230 :: .ref x :: [])) rfl ?_
  have hcp_231_a := hcp_231.2.2.1
  have hcp_231_n := hcp_231.2.2.2.1
  have ph_233 : Phc S_229 = Phc S + 0 := (show Phc S_229 = Phc S_183 from hcp_231.2.2.2.2.2.1).trans ph_184
  have ph_234 : Phs S_229 = Phs S + 0 := (show Phs S_229 = Phs S_183 from hcp_231.2.2.2.2.2.2.1).trans ph_185
  clear ph_184
  clear ph_185
  have hn0_q_230 := hK_186.new hcp_231.1
  have hK_235 : Kq S S_229 x := hK_186.sub hn0_q_230 hcp_231.2.1
  have hg_236 : GX S_229 := hcp_231.2.2.2.2.2.2.2.2 hg_187
  have t_237 : At S_229 x 189 := ⟨(hcp_231.2.1 x t_200.1).1, ((hcp_231.2.1 x t_200.1).2 (ne_of_new hcp_231.1 t_200.1)).1.trans t_200.2⟩
  refine r_putR X hw t_237 rfl 7 907 (some q_230) rfl tyX9 (by decide) rfl inn_X9_init__9 tyX9_ok nmX9 (by decide) (X.2.2.2.1 (.fieldLink RX9 24 "SilkMill$Strand" "lengths" "[I") (by decide +kernel)) rfl (Or.inl rfl) (fun _ => rfl) rfl (fun _ => rfl) rfl (Nat.le_of_ble_eq_true rfl) (st_907 _ _) dX9_init__108 (fun H locs hw => ?_)
  obtain ⟨S_238, eS_238⟩ : ∃ T, T = sR S_229 907 x (some q_230) := ⟨_, rfl⟩
  rw [← eS_238] at hw
  have ph_239 : Phc S_238 = Phc S + 0 := (show Phc S_238 = Phc S_229 from Ph_rawR t_237 (by decide) eS_238).trans ph_233
  have ph_240 : Phs S_238 = Phs S + 0 := (show Phs S_238 = Phs S_229 from Ph_rawR t_237 (by decide) eS_238).trans ph_234
  clear ph_233
  clear ph_234
  have hK_241 : Kq S S_238 x := hK_235.sR eS_238
  have hg_242 : GX S_238 := by rw [eS_238]; exact GX_rawR hg_236 t_237 (by decide +kernel)
  have h_243 : pR S_238 907 x = some q_230 := tR_sRs eS_238
  refine lv_aload_n X.1 X.2.1 dX9_init__111 rfl (lv_at hl 0 rfl) ?_
  refine lv_aload_n X.1 X.2.1 dX9_init__112 rfl (lv_at hl 1 rfl) ?_
  have t_244 : At S_229 g1 29 := ⟨(hcp_231.2.1 g1 t_190.1).1, ((hcp_231.2.1 g1 t_190.1).2 (ne_of_new hcp_231.1 t_190.1)).1.trans t_190.2⟩
  have t_245 : At S_238 g1 29 := tAt_sR eS_238 t_244
  have t_246 : pR S_46 908 g1 = some q_28 := tR_sI eS_46 h_33
  have t_247 : pR S_61 908 g1 = some q_28 := (((hcp_63.2.1 g1 t_52.1).2 (ne_of_new hcp_63.1 t_52.1)).2.2.1 908).trans t_246
  have t_248 : pR S_70 908 g1 = some q_28 := tR_sR eS_70 rfl t_247
  have t_249 : pR S_86 908 g1 = some q_28 := (((hcp_88.2.1 g1 t_77.1).2 (ne_of_new hcp_88.1 t_77.1)).2.2.1 908).trans t_248
  have t_250 : pR S_95 908 g1 = some q_28 := tR_sR eS_95 rfl t_249
  have t_251 : pR S_127 908 g1 = some q_28 := (((hcp_129.2.1 g1 t_102.1).2 (ne_of_new hcp_129.1 t_102.1)).2.2.1 908).trans t_250
  have t_252 : pR S_136 908 g1 = some q_28 := tR_sR eS_136 rfl t_251
  have t_253 : pR S_174 908 g1 = some q_28 := (((hcp_176.2.1 g1 t_143.1).2 (ne_of_new hcp_176.1 t_143.1)).2.2.1 908).trans t_252
  have t_254 : pR S_183 908 g1 = some q_28 := tR_sR eS_183 rfl t_253
  have t_255 : pR S_229 908 g1 = some q_28 := (((hcp_231.2.1 g1 t_190.1).2 (ne_of_new hcp_231.1 t_190.1)).2.2.1 908).trans t_254
  have t_256 : pR S_238 908 g1 = some q_28 := tR_sR eS_238 rfl t_255
  refine r_getR (g := 908) X hw t_245 rfl 8 t_256 (by decide) rfl inn_X9_init__9 (by decide) (X.2.2.2.1 (.fieldLink RX9 27 "SilkMill$Strand" "places" "[I") (by decide +kernel)) rfl (gv_908 _ _) dX9_init__113 ?_
  refine lv_aload_n X.1 X.2.1 dX9_init__116 rfl (lv_at hl 0 rfl) ?_
  have t_257 : At S_238 x 189 := tAt_sR eS_238 t_237
  have t_258 : pI S_229 904 x = v_43 := (((hcp_231.2.1 x t_200.1).2 (ne_of_new hcp_231.1 t_200.1)).2.1 904).trans t_202
  have t_259 : pI S_238 904 x = v_43 := tI_sR eS_238 t_258
  refine r_getI (g := 904) (x := v_43) X hw t_257 rfl 4 t_259 (by decide) rfl inn_X9_init__9 (by decide) (X.2.2.2.1 (.fieldLink RX9 43 "SilkMill$Strand" "pieces" "I") (by decide +kernel)) rfl (gv_904 _ _) dX9_init__117 ?_
  have t_260 : At S_46 q_28 14 := tAt_sI eS_46 h_37
  have t_261 : At S_61 q_28 14 := ⟨(hcp_63.2.1 q_28 t_260.1).1, ((hcp_63.2.1 q_28 t_260.1).2 (ne_of_new hcp_63.1 t_260.1)).1.trans t_260.2⟩
  have t_262 : At S_70 q_28 14 := tAt_sR eS_70 t_261
  have t_263 : At S_86 q_28 14 := ⟨(hcp_88.2.1 q_28 t_262.1).1, ((hcp_88.2.1 q_28 t_262.1).2 (ne_of_new hcp_88.1 t_262.1)).1.trans t_262.2⟩
  have t_264 : At S_95 q_28 14 := tAt_sR eS_95 t_263
  have t_265 : At S_127 q_28 14 := ⟨(hcp_129.2.1 q_28 t_264.1).1, ((hcp_129.2.1 q_28 t_264.1).2 (ne_of_new hcp_129.1 t_264.1)).1.trans t_264.2⟩
  have t_266 : At S_136 q_28 14 := tAt_sR eS_136 t_265
  have t_267 : At S_174 q_28 14 := ⟨(hcp_176.2.1 q_28 t_266.1).1, ((hcp_176.2.1 q_28 t_266.1).2 (ne_of_new hcp_176.1 t_266.1)).1.trans t_266.2⟩
  have t_268 : At S_183 q_28 14 := tAt_sR eS_183 t_267
  have t_269 : At S_229 q_28 14 := ⟨(hcp_231.2.1 q_28 t_268.1).1, ((hcp_231.2.1 q_28 t_268.1).2 (ne_of_new hcp_231.1 t_268.1)).1.trans t_268.2⟩
  have t_270 : At S_238 q_28 14 := tAt_sR eS_238 t_269
  have t_271 : pN S_46 q_28 = n_29 := tN_sI eS_46 h_41
  clear h_41
  have t_273 : At S_46 q_28 14 := tAt_sI eS_46 h_37
  have t_272 : pN S_61 q_28 = n_29 := ((hcp_63.2.1 q_28 t_273.1).2 (ne_of_new hcp_63.1 t_273.1)).2.2.2.1.trans t_271
  clear t_271
  have t_274 : pN S_70 q_28 = n_29 := tN_sR eS_70 t_272
  clear t_272
  have t_276 : At S_61 q_28 14 := ⟨(hcp_63.2.1 q_28 t_273.1).1, ((hcp_63.2.1 q_28 t_273.1).2 (ne_of_new hcp_63.1 t_273.1)).1.trans t_273.2⟩
  have t_277 : At S_70 q_28 14 := tAt_sR eS_70 t_276
  have t_275 : pN S_86 q_28 = n_29 := ((hcp_88.2.1 q_28 t_277.1).2 (ne_of_new hcp_88.1 t_277.1)).2.2.2.1.trans t_274
  clear t_274
  have t_278 : pN S_95 q_28 = n_29 := tN_sR eS_95 t_275
  clear t_275
  have t_280 : At S_86 q_28 14 := ⟨(hcp_88.2.1 q_28 t_277.1).1, ((hcp_88.2.1 q_28 t_277.1).2 (ne_of_new hcp_88.1 t_277.1)).1.trans t_277.2⟩
  have t_281 : At S_95 q_28 14 := tAt_sR eS_95 t_280
  have t_279 : pN S_127 q_28 = n_29 := ((hcp_129.2.1 q_28 t_281.1).2 (ne_of_new hcp_129.1 t_281.1)).2.2.2.1.trans t_278
  clear t_278
  have t_282 : pN S_136 q_28 = n_29 := tN_sR eS_136 t_279
  clear t_279
  have t_284 : At S_127 q_28 14 := ⟨(hcp_129.2.1 q_28 t_281.1).1, ((hcp_129.2.1 q_28 t_281.1).2 (ne_of_new hcp_129.1 t_281.1)).1.trans t_281.2⟩
  have t_285 : At S_136 q_28 14 := tAt_sR eS_136 t_284
  have t_283 : pN S_174 q_28 = n_29 := ((hcp_176.2.1 q_28 t_285.1).2 (ne_of_new hcp_176.1 t_285.1)).2.2.2.1.trans t_282
  clear t_282
  have t_286 : pN S_183 q_28 = n_29 := tN_sR eS_183 t_283
  clear t_283
  have t_288 : At S_174 q_28 14 := ⟨(hcp_176.2.1 q_28 t_285.1).1, ((hcp_176.2.1 q_28 t_285.1).2 (ne_of_new hcp_176.1 t_285.1)).1.trans t_285.2⟩
  have t_289 : At S_183 q_28 14 := tAt_sR eS_183 t_288
  have t_287 : pN S_229 q_28 = n_29 := ((hcp_231.2.1 q_28 t_289.1).2 (ne_of_new hcp_231.1 t_289.1)).2.2.2.1.trans t_286
  clear t_286
  have t_290 : pN S_238 q_28 = n_29 := tN_sR eS_238 t_287
  clear t_287
  refine k_q (rm := { frames := 2, cells := 1, slots := 3600, locals := 96 }) (av := [.ref q_28, .int (v_43)]) X hw (va_runS (As := [.ref q_28, .int (v_43)]) (rest := [.ref x]) (cfix X) (k_J7_copyOf_59c91 l G cy κ S_238 _ q_28 (v_43) (v_43.toInt) n_29 (v_43.toInt.toNat) 3600 hg_242.ci t_270 rfl t_290 (by omega) (by omega) (by omega) (by omega)) (va_cwS 2 X.2.2.2.1 gX9_init__J7_copyOf_59c91 rfl rfl rfl (by decide +kernel) ⟨Nat.le_of_ble_eq_true rfl, Nat.le_of_ble_eq_true rfl⟩) (pre_S X hw _) rfl rfl hl.1 rfl (lv_room (Nat.le_of_ble_eq_true rfl)) dX9_init__120 ⟨(by show 5 + 1 ≤ 6; omega), (by show 11400 + 3600 ≤ 15000; omega)⟩) 6 15000 (by show 5 + 1 ≤ 6; omega) (by show 11400 + 3600 ≤ 15000; omega) (fun rr_291 S_292 H locs hp hw hfr hnw => ?_)
  obtain ⟨q_293, er_295, hcp_294⟩ := hp
  subst er_295
  refine W.eq (g2 := F0 m 123 ls (.ref q_293 :: .ref x :: [])) rfl ?_
  have hcp_294_a := hcp_294.2.2.1
  have hcp_294_n := hcp_294.2.2.2.1
  have ph_296 : Phc S_292 = Phc S + 0 := (show Phc S_292 = Phc S_238 from hcp_294.2.2.2.2.2.1).trans ph_239
  have ph_297 : Phs S_292 = Phs S + 0 := (show Phs S_292 = Phs S_238 from hcp_294.2.2.2.2.2.2.1).trans ph_240
  clear ph_239
  clear ph_240
  have hn0_q_293 := hK_241.new hcp_294.1
  have hK_298 : Kq S S_292 x := hK_241.sub hn0_q_293 hcp_294.2.1
  have hg_299 : GX S_292 := hcp_294.2.2.2.2.2.2.2.2 hg_242
  have t_300 : At S_292 x 189 := ⟨(hcp_294.2.1 x t_257.1).1, ((hcp_294.2.1 x t_257.1).2 (ne_of_new hcp_294.1 t_257.1)).1.trans t_257.2⟩
  refine r_putR X hw t_300 rfl 8 908 (some q_293) rfl tyX9 (by decide) rfl inn_X9_init__9 tyX9_ok nmX9 (by decide) (X.2.2.2.1 (.fieldLink RX9 27 "SilkMill$Strand" "places" "[I") (by decide +kernel)) rfl (Or.inl rfl) (fun _ => rfl) rfl (fun _ => rfl) rfl (Nat.le_of_ble_eq_true rfl) (st_908 _ _) dX9_init__123 (fun H locs hw => ?_)
  obtain ⟨S_301, eS_301⟩ : ∃ T, T = sR S_292 908 x (some q_293) := ⟨_, rfl⟩
  rw [← eS_301] at hw
  have ph_302 : Phc S_301 = Phc S + 0 := (show Phc S_301 = Phc S_292 from Ph_rawR t_300 (by decide) eS_301).trans ph_296
  have ph_303 : Phs S_301 = Phs S + 0 := (show Phs S_301 = Phs S_292 from Ph_rawR t_300 (by decide) eS_301).trans ph_297
  clear ph_296
  clear ph_297
  have hK_304 : Kq S S_301 x := hK_298.sR eS_301
  have hg_305 : GX S_301 := by rw [eS_301]; exact GX_rawR hg_299 t_300 (by decide +kernel)
  have h_306 : pR S_301 908 x = some q_293 := tR_sRs eS_301
  have t_307 : At S_301 x 189 := tAt_sR eS_301 t_300
  have nd_308 := nodup_of hw
  have t_309 : pI S_86 902 x = v_3 := (((hcp_88.2.1 x t_82.1).2 (ne_of_new hcp_88.1 t_82.1)).2.1 902).trans t_84
  have t_310 : pI S_95 902 x = v_3 := tI_sR eS_95 t_309
  have t_311 : pI S_127 902 x = v_3 := (((hcp_129.2.1 x t_108.1).2 (ne_of_new hcp_129.1 t_108.1)).2.1 902).trans t_310
  have t_312 : pI S_136 902 x = v_3 := tI_sR eS_136 t_311
  have t_313 : pI S_174 902 x = v_3 := (((hcp_176.2.1 x t_151.1).2 (ne_of_new hcp_176.1 t_151.1)).2.1 902).trans t_312
  have t_314 : pI S_183 902 x = v_3 := tI_sR eS_183 t_313
  have t_315 : pI S_229 902 x = v_3 := (((hcp_231.2.1 x t_200.1).2 (ne_of_new hcp_231.1 t_200.1)).2.1 902).trans t_314
  have t_316 : pI S_238 902 x = v_3 := tI_sR eS_238 t_315
  have t_317 : pI S_292 902 x = v_3 := (((hcp_294.2.1 x t_257.1).2 (ne_of_new hcp_294.1 t_257.1)).2.1 902).trans t_316
  have t_318 : pI S_301 902 x = v_3 := tI_sR eS_301 t_317
  have t_319 : pI S_292 904 x = v_43 := (((hcp_294.2.1 x t_257.1).2 (ne_of_new hcp_294.1 t_257.1)).2.1 904).trans t_259
  have t_320 : pI S_301 904 x = v_43 := tI_sR eS_301 t_319
  have t_321 : pR S_86 900 x = some q_62 := (((hcp_88.2.1 x t_82.1).2 (ne_of_new hcp_88.1 t_82.1)).2.2.1 900).trans h_75
  have t_322 : pR S_95 900 x = some q_62 := tR_sR eS_95 rfl t_321
  have t_323 : pR S_127 900 x = some q_62 := (((hcp_129.2.1 x t_108.1).2 (ne_of_new hcp_129.1 t_108.1)).2.2.1 900).trans t_322
  have t_324 : pR S_136 900 x = some q_62 := tR_sR eS_136 rfl t_323
  have t_325 : pR S_174 900 x = some q_62 := (((hcp_176.2.1 x t_151.1).2 (ne_of_new hcp_176.1 t_151.1)).2.2.1 900).trans t_324
  have t_326 : pR S_183 900 x = some q_62 := tR_sR eS_183 rfl t_325
  have t_327 : pR S_229 900 x = some q_62 := (((hcp_231.2.1 x t_200.1).2 (ne_of_new hcp_231.1 t_200.1)).2.2.1 900).trans t_326
  have t_328 : pR S_238 900 x = some q_62 := tR_sR eS_238 rfl t_327
  have t_329 : pR S_292 900 x = some q_62 := (((hcp_294.2.1 x t_257.1).2 (ne_of_new hcp_294.1 t_257.1)).2.2.1 900).trans t_328
  have t_330 : pR S_301 900 x = some q_62 := tR_sR eS_301 rfl t_329
  have t_331 : At S_70 q_62 14 := tAt_sR eS_70 hcp_63_a
  have t_332 : At S_86 q_62 14 := ⟨(hcp_88.2.1 q_62 t_331.1).1, ((hcp_88.2.1 q_62 t_331.1).2 (ne_of_new hcp_88.1 t_331.1)).1.trans t_331.2⟩
  have t_333 : At S_95 q_62 14 := tAt_sR eS_95 t_332
  have t_334 : At S_127 q_62 14 := ⟨(hcp_129.2.1 q_62 t_333.1).1, ((hcp_129.2.1 q_62 t_333.1).2 (ne_of_new hcp_129.1 t_333.1)).1.trans t_333.2⟩
  have t_335 : At S_136 q_62 14 := tAt_sR eS_136 t_334
  have t_336 : At S_174 q_62 14 := ⟨(hcp_176.2.1 q_62 t_335.1).1, ((hcp_176.2.1 q_62 t_335.1).2 (ne_of_new hcp_176.1 t_335.1)).1.trans t_335.2⟩
  have t_337 : At S_183 q_62 14 := tAt_sR eS_183 t_336
  have t_338 : At S_229 q_62 14 := ⟨(hcp_231.2.1 q_62 t_337.1).1, ((hcp_231.2.1 q_62 t_337.1).2 (ne_of_new hcp_231.1 t_337.1)).1.trans t_337.2⟩
  have t_339 : At S_238 q_62 14 := tAt_sR eS_238 t_338
  have t_340 : At S_292 q_62 14 := ⟨(hcp_294.2.1 q_62 t_339.1).1, ((hcp_294.2.1 q_62 t_339.1).2 (ne_of_new hcp_294.1 t_339.1)).1.trans t_339.2⟩
  have t_341 : At S_301 q_62 14 := tAt_sR eS_301 t_340
  have t_342 : pN S_70 q_62 = (v_3.toInt.toNat) := tN_sR eS_70 hcp_63_n
  have t_344 : At S_70 q_62 14 := tAt_sR eS_70 hcp_63_a
  have t_343 : pN S_86 q_62 = (v_3.toInt.toNat) := ((hcp_88.2.1 q_62 t_344.1).2 (ne_of_new hcp_88.1 t_344.1)).2.2.2.1.trans t_342
  clear t_342
  have t_345 : pN S_95 q_62 = (v_3.toInt.toNat) := tN_sR eS_95 t_343
  clear t_343
  have t_347 : At S_86 q_62 14 := ⟨(hcp_88.2.1 q_62 t_344.1).1, ((hcp_88.2.1 q_62 t_344.1).2 (ne_of_new hcp_88.1 t_344.1)).1.trans t_344.2⟩
  have t_348 : At S_95 q_62 14 := tAt_sR eS_95 t_347
  have t_346 : pN S_127 q_62 = (v_3.toInt.toNat) := ((hcp_129.2.1 q_62 t_348.1).2 (ne_of_new hcp_129.1 t_348.1)).2.2.2.1.trans t_345
  clear t_345
  have t_349 : pN S_136 q_62 = (v_3.toInt.toNat) := tN_sR eS_136 t_346
  clear t_346
  have t_351 : At S_127 q_62 14 := ⟨(hcp_129.2.1 q_62 t_348.1).1, ((hcp_129.2.1 q_62 t_348.1).2 (ne_of_new hcp_129.1 t_348.1)).1.trans t_348.2⟩
  have t_352 : At S_136 q_62 14 := tAt_sR eS_136 t_351
  have t_350 : pN S_174 q_62 = (v_3.toInt.toNat) := ((hcp_176.2.1 q_62 t_352.1).2 (ne_of_new hcp_176.1 t_352.1)).2.2.2.1.trans t_349
  clear t_349
  have t_353 : pN S_183 q_62 = (v_3.toInt.toNat) := tN_sR eS_183 t_350
  clear t_350
  have t_355 : At S_174 q_62 14 := ⟨(hcp_176.2.1 q_62 t_352.1).1, ((hcp_176.2.1 q_62 t_352.1).2 (ne_of_new hcp_176.1 t_352.1)).1.trans t_352.2⟩
  have t_356 : At S_183 q_62 14 := tAt_sR eS_183 t_355
  have t_354 : pN S_229 q_62 = (v_3.toInt.toNat) := ((hcp_231.2.1 q_62 t_356.1).2 (ne_of_new hcp_231.1 t_356.1)).2.2.2.1.trans t_353
  clear t_353
  have t_357 : pN S_238 q_62 = (v_3.toInt.toNat) := tN_sR eS_238 t_354
  clear t_354
  have t_359 : At S_229 q_62 14 := ⟨(hcp_231.2.1 q_62 t_356.1).1, ((hcp_231.2.1 q_62 t_356.1).2 (ne_of_new hcp_231.1 t_356.1)).1.trans t_356.2⟩
  have t_360 : At S_238 q_62 14 := tAt_sR eS_238 t_359
  have t_358 : pN S_292 q_62 = (v_3.toInt.toNat) := ((hcp_294.2.1 q_62 t_360.1).2 (ne_of_new hcp_294.1 t_360.1)).2.2.2.1.trans t_357
  clear t_357
  have t_361 : pN S_301 q_62 = (v_3.toInt.toNat) := tN_sR eS_301 t_358
  clear t_358
  have t_362 : pR S_127 901 x = some q_87 := (((hcp_129.2.1 x t_108.1).2 (ne_of_new hcp_129.1 t_108.1)).2.2.1 901).trans h_100
  have t_363 : pR S_136 901 x = some q_87 := tR_sR eS_136 rfl t_362
  have t_364 : pR S_174 901 x = some q_87 := (((hcp_176.2.1 x t_151.1).2 (ne_of_new hcp_176.1 t_151.1)).2.2.1 901).trans t_363
  have t_365 : pR S_183 901 x = some q_87 := tR_sR eS_183 rfl t_364
  have t_366 : pR S_229 901 x = some q_87 := (((hcp_231.2.1 x t_200.1).2 (ne_of_new hcp_231.1 t_200.1)).2.2.1 901).trans t_365
  have t_367 : pR S_238 901 x = some q_87 := tR_sR eS_238 rfl t_366
  have t_368 : pR S_292 901 x = some q_87 := (((hcp_294.2.1 x t_257.1).2 (ne_of_new hcp_294.1 t_257.1)).2.2.1 901).trans t_367
  have t_369 : pR S_301 901 x = some q_87 := tR_sR eS_301 rfl t_368
  have t_370 : At S_95 q_87 14 := tAt_sR eS_95 hcp_88_a
  have t_371 : At S_127 q_87 14 := ⟨(hcp_129.2.1 q_87 t_370.1).1, ((hcp_129.2.1 q_87 t_370.1).2 (ne_of_new hcp_129.1 t_370.1)).1.trans t_370.2⟩
  have t_372 : At S_136 q_87 14 := tAt_sR eS_136 t_371
  have t_373 : At S_174 q_87 14 := ⟨(hcp_176.2.1 q_87 t_372.1).1, ((hcp_176.2.1 q_87 t_372.1).2 (ne_of_new hcp_176.1 t_372.1)).1.trans t_372.2⟩
  have t_374 : At S_183 q_87 14 := tAt_sR eS_183 t_373
  have t_375 : At S_229 q_87 14 := ⟨(hcp_231.2.1 q_87 t_374.1).1, ((hcp_231.2.1 q_87 t_374.1).2 (ne_of_new hcp_231.1 t_374.1)).1.trans t_374.2⟩
  have t_376 : At S_238 q_87 14 := tAt_sR eS_238 t_375
  have t_377 : At S_292 q_87 14 := ⟨(hcp_294.2.1 q_87 t_376.1).1, ((hcp_294.2.1 q_87 t_376.1).2 (ne_of_new hcp_294.1 t_376.1)).1.trans t_376.2⟩
  have t_378 : At S_301 q_87 14 := tAt_sR eS_301 t_377
  have t_379 : pN S_95 q_87 = (v_3.toInt.toNat) := tN_sR eS_95 hcp_88_n
  have t_381 : At S_95 q_87 14 := tAt_sR eS_95 hcp_88_a
  have t_380 : pN S_127 q_87 = (v_3.toInt.toNat) := ((hcp_129.2.1 q_87 t_381.1).2 (ne_of_new hcp_129.1 t_381.1)).2.2.2.1.trans t_379
  clear t_379
  have t_382 : pN S_136 q_87 = (v_3.toInt.toNat) := tN_sR eS_136 t_380
  clear t_380
  have t_384 : At S_127 q_87 14 := ⟨(hcp_129.2.1 q_87 t_381.1).1, ((hcp_129.2.1 q_87 t_381.1).2 (ne_of_new hcp_129.1 t_381.1)).1.trans t_381.2⟩
  have t_385 : At S_136 q_87 14 := tAt_sR eS_136 t_384
  have t_383 : pN S_174 q_87 = (v_3.toInt.toNat) := ((hcp_176.2.1 q_87 t_385.1).2 (ne_of_new hcp_176.1 t_385.1)).2.2.2.1.trans t_382
  clear t_382
  have t_386 : pN S_183 q_87 = (v_3.toInt.toNat) := tN_sR eS_183 t_383
  clear t_383
  have t_388 : At S_174 q_87 14 := ⟨(hcp_176.2.1 q_87 t_385.1).1, ((hcp_176.2.1 q_87 t_385.1).2 (ne_of_new hcp_176.1 t_385.1)).1.trans t_385.2⟩
  have t_389 : At S_183 q_87 14 := tAt_sR eS_183 t_388
  have t_387 : pN S_229 q_87 = (v_3.toInt.toNat) := ((hcp_231.2.1 q_87 t_389.1).2 (ne_of_new hcp_231.1 t_389.1)).2.2.2.1.trans t_386
  clear t_386
  have t_390 : pN S_238 q_87 = (v_3.toInt.toNat) := tN_sR eS_238 t_387
  clear t_387
  have t_392 : At S_229 q_87 14 := ⟨(hcp_231.2.1 q_87 t_389.1).1, ((hcp_231.2.1 q_87 t_389.1).2 (ne_of_new hcp_231.1 t_389.1)).1.trans t_389.2⟩
  have t_393 : At S_238 q_87 14 := tAt_sR eS_238 t_392
  have t_391 : pN S_292 q_87 = (v_3.toInt.toNat) := ((hcp_294.2.1 q_87 t_393.1).2 (ne_of_new hcp_294.1 t_393.1)).2.2.2.1.trans t_390
  clear t_390
  have t_394 : pN S_301 q_87 = (v_3.toInt.toNat) := tN_sR eS_301 t_391
  clear t_391
  have t_395 : pR S_174 905 x = some q_128 := (((hcp_176.2.1 x t_151.1).2 (ne_of_new hcp_176.1 t_151.1)).2.2.1 905).trans h_141
  have t_396 : pR S_183 905 x = some q_128 := tR_sR eS_183 rfl t_395
  have t_397 : pR S_229 905 x = some q_128 := (((hcp_231.2.1 x t_200.1).2 (ne_of_new hcp_231.1 t_200.1)).2.2.1 905).trans t_396
  have t_398 : pR S_238 905 x = some q_128 := tR_sR eS_238 rfl t_397
  have t_399 : pR S_292 905 x = some q_128 := (((hcp_294.2.1 x t_257.1).2 (ne_of_new hcp_294.1 t_257.1)).2.2.1 905).trans t_398
  have t_400 : pR S_301 905 x = some q_128 := tR_sR eS_301 rfl t_399
  have t_401 : At S_136 q_128 14 := tAt_sR eS_136 hcp_129_a
  have t_402 : At S_174 q_128 14 := ⟨(hcp_176.2.1 q_128 t_401.1).1, ((hcp_176.2.1 q_128 t_401.1).2 (ne_of_new hcp_176.1 t_401.1)).1.trans t_401.2⟩
  have t_403 : At S_183 q_128 14 := tAt_sR eS_183 t_402
  have t_404 : At S_229 q_128 14 := ⟨(hcp_231.2.1 q_128 t_403.1).1, ((hcp_231.2.1 q_128 t_403.1).2 (ne_of_new hcp_231.1 t_403.1)).1.trans t_403.2⟩
  have t_405 : At S_238 q_128 14 := tAt_sR eS_238 t_404
  have t_406 : At S_292 q_128 14 := ⟨(hcp_294.2.1 q_128 t_405.1).1, ((hcp_294.2.1 q_128 t_405.1).2 (ne_of_new hcp_294.1 t_405.1)).1.trans t_405.2⟩
  have t_407 : At S_301 q_128 14 := tAt_sR eS_301 t_406
  have t_408 : pN S_136 q_128 = (v_43.toInt.toNat) := tN_sR eS_136 hcp_129_n
  have t_410 : At S_136 q_128 14 := tAt_sR eS_136 hcp_129_a
  have t_409 : pN S_174 q_128 = (v_43.toInt.toNat) := ((hcp_176.2.1 q_128 t_410.1).2 (ne_of_new hcp_176.1 t_410.1)).2.2.2.1.trans t_408
  clear t_408
  have t_411 : pN S_183 q_128 = (v_43.toInt.toNat) := tN_sR eS_183 t_409
  clear t_409
  have t_413 : At S_174 q_128 14 := ⟨(hcp_176.2.1 q_128 t_410.1).1, ((hcp_176.2.1 q_128 t_410.1).2 (ne_of_new hcp_176.1 t_410.1)).1.trans t_410.2⟩
  have t_414 : At S_183 q_128 14 := tAt_sR eS_183 t_413
  have t_412 : pN S_229 q_128 = (v_43.toInt.toNat) := ((hcp_231.2.1 q_128 t_414.1).2 (ne_of_new hcp_231.1 t_414.1)).2.2.2.1.trans t_411
  clear t_411
  have t_415 : pN S_238 q_128 = (v_43.toInt.toNat) := tN_sR eS_238 t_412
  clear t_412
  have t_417 : At S_229 q_128 14 := ⟨(hcp_231.2.1 q_128 t_414.1).1, ((hcp_231.2.1 q_128 t_414.1).2 (ne_of_new hcp_231.1 t_414.1)).1.trans t_414.2⟩
  have t_418 : At S_238 q_128 14 := tAt_sR eS_238 t_417
  have t_416 : pN S_292 q_128 = (v_43.toInt.toNat) := ((hcp_294.2.1 q_128 t_418.1).2 (ne_of_new hcp_294.1 t_418.1)).2.2.2.1.trans t_415
  clear t_415
  have t_419 : pN S_301 q_128 = (v_43.toInt.toNat) := tN_sR eS_301 t_416
  clear t_416
  have t_420 : pR S_229 906 x = some q_175 := (((hcp_231.2.1 x t_200.1).2 (ne_of_new hcp_231.1 t_200.1)).2.2.1 906).trans h_188
  have t_421 : pR S_238 906 x = some q_175 := tR_sR eS_238 rfl t_420
  have t_422 : pR S_292 906 x = some q_175 := (((hcp_294.2.1 x t_257.1).2 (ne_of_new hcp_294.1 t_257.1)).2.2.1 906).trans t_421
  have t_423 : pR S_301 906 x = some q_175 := tR_sR eS_301 rfl t_422
  have t_424 : At S_183 q_175 14 := tAt_sR eS_183 hcp_176_a
  have t_425 : At S_229 q_175 14 := ⟨(hcp_231.2.1 q_175 t_424.1).1, ((hcp_231.2.1 q_175 t_424.1).2 (ne_of_new hcp_231.1 t_424.1)).1.trans t_424.2⟩
  have t_426 : At S_238 q_175 14 := tAt_sR eS_238 t_425
  have t_427 : At S_292 q_175 14 := ⟨(hcp_294.2.1 q_175 t_426.1).1, ((hcp_294.2.1 q_175 t_426.1).2 (ne_of_new hcp_294.1 t_426.1)).1.trans t_426.2⟩
  have t_428 : At S_301 q_175 14 := tAt_sR eS_301 t_427
  have t_429 : pN S_183 q_175 = (v_43.toInt.toNat) := tN_sR eS_183 hcp_176_n
  have t_431 : At S_183 q_175 14 := tAt_sR eS_183 hcp_176_a
  have t_430 : pN S_229 q_175 = (v_43.toInt.toNat) := ((hcp_231.2.1 q_175 t_431.1).2 (ne_of_new hcp_231.1 t_431.1)).2.2.2.1.trans t_429
  clear t_429
  have t_432 : pN S_238 q_175 = (v_43.toInt.toNat) := tN_sR eS_238 t_430
  clear t_430
  have t_434 : At S_229 q_175 14 := ⟨(hcp_231.2.1 q_175 t_431.1).1, ((hcp_231.2.1 q_175 t_431.1).2 (ne_of_new hcp_231.1 t_431.1)).1.trans t_431.2⟩
  have t_435 : At S_238 q_175 14 := tAt_sR eS_238 t_434
  have t_433 : pN S_292 q_175 = (v_43.toInt.toNat) := ((hcp_294.2.1 q_175 t_435.1).2 (ne_of_new hcp_294.1 t_435.1)).2.2.2.1.trans t_432
  clear t_432
  have t_436 : pN S_301 q_175 = (v_43.toInt.toNat) := tN_sR eS_301 t_433
  clear t_433
  have t_437 : pR S_292 907 x = some q_230 := (((hcp_294.2.1 x t_257.1).2 (ne_of_new hcp_294.1 t_257.1)).2.2.1 907).trans h_243
  have t_438 : pR S_301 907 x = some q_230 := tR_sR eS_301 rfl t_437
  have t_439 : At S_238 q_230 14 := tAt_sR eS_238 hcp_231_a
  have t_440 : At S_292 q_230 14 := ⟨(hcp_294.2.1 q_230 t_439.1).1, ((hcp_294.2.1 q_230 t_439.1).2 (ne_of_new hcp_294.1 t_439.1)).1.trans t_439.2⟩
  have t_441 : At S_301 q_230 14 := tAt_sR eS_301 t_440
  have t_442 : pN S_238 q_230 = (v_43.toInt.toNat) := tN_sR eS_238 hcp_231_n
  have t_444 : At S_238 q_230 14 := tAt_sR eS_238 hcp_231_a
  have t_443 : pN S_292 q_230 = (v_43.toInt.toNat) := ((hcp_294.2.1 q_230 t_444.1).2 (ne_of_new hcp_294.1 t_444.1)).2.2.2.1.trans t_442
  clear t_442
  have t_445 : pN S_301 q_230 = (v_43.toInt.toNat) := tN_sR eS_301 t_443
  clear t_443
  have t_446 : At S_301 q_293 14 := tAt_sR eS_301 hcp_294_a
  have t_447 : pN S_301 q_293 = (v_43.toInt.toNat) := tN_sR eS_301 hcp_294_n
  obtain ⟨S_448, eS_448⟩ : ∃ T, T = sK S_301 x 9 := ⟨_, rfl⟩
  have hw := Wd_sK (k := 9) hw t_307 rfl; rw [← eS_448] at hw
  have hg9 : GX S_448 := by rw [eS_448]; exact GX_sK hg_305 t_307 (by decide +kernel) (mk_9 (by rw [pI_sK, t_318]; exact ⟨by omega, by omega⟩) (by rw [pI_sK, t_320]; exact ⟨by omega, by omega⟩) ⟨q_62, (by rw [pR_sK]; exact t_330), At_sK t_307 t_341 (by decide), by rw [pI_sK, pN_sK, t_318, t_361]; omega, by rw [pN_sK, t_361]; omega⟩ ⟨q_87, (by rw [pR_sK]; exact t_369), At_sK t_307 t_378 (by decide), by rw [pI_sK, pN_sK, t_318, t_394]; omega, by rw [pN_sK, t_394]; omega⟩ ⟨q_128, (by rw [pR_sK]; exact t_400), At_sK t_307 t_407 (by decide), by rw [pI_sK, pN_sK, t_320, t_419]; omega, by rw [pN_sK, t_419]; omega⟩ ⟨q_175, (by rw [pR_sK]; exact t_423), At_sK t_307 t_428 (by decide), by rw [pI_sK, pN_sK, t_320, t_436]; omega, by rw [pN_sK, t_436]; omega⟩ ⟨q_230, (by rw [pR_sK]; exact t_438), At_sK t_307 t_441 (by decide), by rw [pI_sK, pN_sK, t_320, t_445]; omega, by rw [pN_sK, t_445]; omega⟩ ⟨q_293, (by rw [pR_sK]; exact h_306), At_sK t_307 t_446 (by decide), by rw [pI_sK, pN_sK, t_320, t_447]; omega, by rw [pN_sK, t_447]; omega⟩)
  have ha9 : At S_448 x 9 := by rw [eS_448]; exact At_nK t_307
  have hk9 : Kq S S_448 x := hK_304.sK eS_448
  have hPhc9 : Phc S_448 = Phc S + 0 := by rw [show Phc S_448 = Ph fC 8 14400 S_448 from rfl, Ph_sK nd_308 t_307 (by decide) eS_448, ph_0 ha9 (by decide)]; show Phc S_301 + _ = _; omega
  have hPhs9 : Phs S_448 = Phs S + 0 := by rw [show Phs S_448 = Ph fS 15100 46000 S_448 from rfl, Ph_sK nd_308 t_307 (by decide) eS_448, ph_0 ha9 (by decide)]; show Phs S_301 + _ = _; omega
  exact ret_v X hw hr hlocks (by show 6 ≤ 6; omega) (by show 15000 ≤ 15000; omega) ⟨hk9, hg9, ha9, hPhc9, hPhs9⟩ dX9_init__126
