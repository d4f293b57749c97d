
set_option maxHeartbeats 4000000 in
set_option maxRecDepth 100000 in
theorem k_X9_init_7 (l : Launch) (G : va_G) (cy : Nat → ClassId) (κ : Nat → Nat) (S : PS) (sz : Nat) (x : Nat) (g1 : Nat) (hG : GX S) (ha_x : At S x 189) (ha_g1 : At S g1 29) (hzI : ∀ g, pI S g x = 0) (hzR : ∀ g, pR S g x = none) : Cv l yX9_init_ wsX9_init_ ({ frames := 3, cells := 6, slots := 15000, locals := 144 }) G cy κ S sz [.ref x, .ref g1] (fun (S9 : PS) => Kq S S9 x ∧ GX S9 ∧ At S9 x 9 ∧ Phc S9 = Phc S + 0 ∧ Phs S9 = Phs S + 0 ∧ CpS S9 x g1) := by
  refine ent_m (cc := cX9_init_) (maxL := 2) (ret := none) (by decide) rfl (Nat.le_of_ble_eq_true rfl) ?_
  intro p e s m below meth c ls X hr hlocks hin hw hl hsz
  subst hsz
  have X : Cx p c cX9_init_ 2 s [.ref x, .ref g1].toArray wsX9_init_ RX9 m G cy κ (AS S s.heap.size) := X
  have hl : lv_has ls 2 [(0, .ref x), (1, .ref g1)] := hl
  have hpc0 : Phc S = Phc S + 0 := rfl
  have hps0 : Phs S = Phs S + 0 := rfl
  have hK : Kq S S x := Kq.rf S _
  obtain ⟨v_1, ev_1⟩ : ∃ v, pI S 902 g1 = v := ⟨_, rfl⟩
  have rg_2 := gI_29_902 hG ha_g1; rw [ev_1] at rg_2
  have pz_3 : (pI S 902 g1).toInt = v_1.toInt := by rw [ev_1]
  have pz_4 : (pI S 902 g1).toInt = v_1.toInt := (congrArg Int32.toInt ev_1).trans rfl
  obtain ⟨v_5, ev_5⟩ : ∃ v, pI S 903 g1 = v := ⟨_, rfl⟩
  have rg_7 := And.intro (z_lo v_5) (z_hi v_5)
  have pz_8 : (pI S 903 g1).toInt = v_5.toInt := by rw [ev_5]
  have pz_9 : (pI S 903 g1).toInt = v_5.toInt := (congrArg Int32.toInt ev_5).trans rfl
  obtain ⟨v_10, ev_10⟩ : ∃ v, pI S 904 g1 = v := ⟨_, rfl⟩
  obtain ⟨q_12, q_13, q_14, q_15, n_16, h_17, h_18, h_19, h_20, h_21, h_22, h_23, h_24, h_25, h_26, h_27, h_28, h_29⟩ := gGrwQ hG ha_g1
  have rg_11 := gGrw_904 hG ha_g1 h_17 h_25; rw [ev_10] at rg_11
  have pz_30 : (pI S 904 g1).toInt = v_10.toInt := by rw [ev_10]
  have pz_31 : (pI S 904 g1).toInt = v_10.toInt := (congrArg Int32.toInt ev_10).trans rfl
  obtain ⟨q_32, h_33, h_34, h_35⟩ := gQ_29_900 hG ha_g1
  obtain ⟨q_36, h_37, h_38, h_39⟩ := gQ_29_901 hG ha_g1
  refine lv_aload_n X.1 X.2.1 dX9_init__0 rfl (lv_at hl 0 rfl) ?_
  refine W.objInit X.1 X.2.1 X.2.2.2.2.1 (X.2.2.2.1 (.methodLink RX9 3 objectInit) (by decide +kernel)) (X.2.2.2.1 (.instanceMethod objectInit) (by decide +kernel)) (X.2.2.2.1 (.code objectInit ⟨#[0xb1]⟩ 1 none) (by decide +kernel)) rfl (hl.1.trans X.2.2.1.symm) rfl dX9_init__1 (Nat.le_of_ble_eq_true rfl) (Nat.le_of_ble_eq_true rfl) ?_
  refine W.eq (g2 := F0 m 4 ls ([])) rfl ?_
  refine lv_aload_n X.1 X.2.1 dX9_init__4 rfl (lv_at hl 0 rfl) ?_
  refine lv_iconst (v := 0) X.1 X.2.1 dX9_init__5 (by decide) ?_
  refine lv_aload_n X.1 X.2.1 dX9_init__6 rfl (lv_at hl 1 rfl) ?_
  refine r_getI (g := 902) (x := v_1) X hw ha_g1 rfl 2 ev_1 (by decide) rfl inn_X9_init__9 (by decide) (X.2.2.2.1 (.fieldLink RX9 30 "SilkMill$Strand" "metres" "I") (by decide +kernel)) rfl (gv_902 _ _) dX9_init__7 ?_
  refine va_mmax X.1 X.2.1 (X.2.2.1.trans hl.1.symm) X.2.2.2.2.1 (X.2.2.2.1 (.methodLink RX9 34 Lib.Math.max.name) (by decide +kernel)) (X.2.2.2.1 (.static Lib.Math.max.name) (by decide +kernel)) (X.2.2.2.1 (.initialized "java/lang/Math") (by decide +kernel)) (X.2.2.2.1 (.code Lib.Math.max.name Lib.Math.max.code 2 (some .int)) (by decide +kernel)) (Nat.le_of_ble_eq_true rfl) (Nat.le_of_ble_eq_true rfl) (by show 0 ≤ 6; omega) (by show 0 ≤ 15000; omega) dX9_init__10 ?_
  refine lv_topi (fun v_40 ev_40 => ?_)
  have z_41 : v_40.toInt = v_1.toInt := by have := z_max ev_40 ti_0 rfl; omega
  refine r_putI (v := v_40) X hw ha_x rfl 2 902 tyX9 (by decide) rfl inn_X9_init__9 tyX9_ok nmX9 (by decide) (X.2.2.2.1 (.fieldLink RX9 30 "SilkMill$Strand" "metres" "I") (by decide +kernel)) rfl (Or.inl rfl) rfl rfl (Nat.le_of_ble_eq_true rfl) (st_902 _ _) dX9_init__13 (fun H locs hw => ?_)
  obtain ⟨S_42, eS_42⟩ : ∃ T, T = sI S 902 x (v_40) := ⟨_, rfl⟩
  rw [← eS_42] at hw
  have ph_43 : Phc S_42 = Phc S + 0 := (show Phc S_42 = Phc S from Ph_rawI ha_x (by decide) eS_42).trans hpc0
  have ph_44 : Phs S_42 = Phs S + 0 := (show Phs S_42 = Phs S from Ph_rawI ha_x (by decide) eS_42).trans hps0
  clear hpc0
  clear hps0
  have hK_45 : Kq S S_42 x := hK.sI eS_42
  have hg_46 : GX S_42 := by rw [eS_42]; exact GX_rawI hG ha_x (by decide +kernel)
  have h_47 : pI S_42 902 x = v_40 := tI_sIs eS_42
  refine lv_aload_n X.1 X.2.1 dX9_init__16 rfl (lv_at hl 0 rfl) ?_
  refine lv_aload_n X.1 X.2.1 dX9_init__17 rfl (lv_at hl 1 rfl) ?_
  have t_48 : At S_42 g1 29 := tAt_sI eS_42 ha_g1
  have t_49 : pI S_42 903 g1 = v_5 := tI_sI eS_42 rfl ev_5
  refine r_getI (g := 903) (x := v_5) X hw t_48 rfl 3 t_49 (by decide) rfl inn_X9_init__9 (by decide) (X.2.2.2.1 (.fieldLink RX9 40 "SilkMill$Strand" "silk" "I") (by decide +kernel)) rfl (gv_903 _ _) dX9_init__18 ?_
  have t_50 : At S_42 x 189 := tAt_sI eS_42 ha_x
  refine r_putI (v := v_5) X hw t_50 rfl 3 903 tyX9 (by decide) rfl inn_X9_init__9 tyX9_ok nmX9 (by decide) (X.2.2.2.1 (.fieldLink RX9 40 "SilkMill$Strand" "silk" "I") (by decide +kernel)) rfl (Or.inl rfl) rfl rfl (Nat.le_of_ble_eq_true rfl) (st_903 _ _) dX9_init__21 (fun H locs hw => ?_)
  obtain ⟨S_51, eS_51⟩ : ∃ T, T = sI S_42 903 x (v_5) := ⟨_, rfl⟩
  rw [← eS_51] at hw
  have ph_52 : Phc S_51 = Phc S + 0 := (show Phc S_51 = Phc S_42 from Ph_rawI t_50 (by decide) eS_51).trans ph_43
  have ph_53 : Phs S_51 = Phs S + 0 := (show Phs S_51 = Phs S_42 from Ph_rawI t_50 (by decide) eS_51).trans ph_44
  clear ph_43
  clear ph_44
  have hK_54 : Kq S S_51 x := hK_45.sI eS_51
  have hg_55 : GX S_51 := by rw [eS_51]; exact GX_rawI hg_46 t_50 (by decide +kernel)
  have h_56 : pI S_51 903 x = v_5 := tI_sIs eS_51
  refine lv_aload_n X.1 X.2.1 dX9_init__24 rfl (lv_at hl 0 rfl) ?_
  refine lv_iconst (v := 0) X.1 X.2.1 dX9_init__25 (by decide) ?_
  refine lv_aload_n X.1 X.2.1 dX9_init__26 rfl (lv_at hl 1 rfl) ?_
  have t_57 : At S_51 g1 29 := tAt_sI eS_51 t_48
  have t_58 : pI S_42 904 g1 = v_10 := tI_sI eS_42 rfl ev_10
  have t_59 : pI S_51 904 g1 = v_10 := tI_sI eS_51 rfl t_58
  refine r_getI (g := 904) (x := v_10) X hw t_57 rfl 4 t_59 (by decide) rfl inn_X9_init__9 (by decide) (X.2.2.2.1 (.fieldLink RX9 43 "SilkMill$Strand" "pieces" "I") (by decide +kernel)) rfl (gv_904 _ _) dX9_init__27 ?_
  refine va_mmax X.1 X.2.1 (X.2.2.1.trans hl.1.symm) X.2.2.2.2.1 (X.2.2.2.1 (.methodLink RX9 34 Lib.Math.max.name) (by decide +kernel)) (X.2.2.2.1 (.static Lib.Math.max.name) (by decide +kernel)) (X.2.2.2.1 (.initialized "java/lang/Math") (by decide +kernel)) (X.2.2.2.1 (.code Lib.Math.max.name Lib.Math.max.code 2 (some .int)) (by decide +kernel)) (Nat.le_of_ble_eq_true rfl) (Nat.le_of_ble_eq_true rfl) (by show 0 ≤ 6; omega) (by show 0 ≤ 15000; omega) dX9_init__30 ?_
  refine lv_topi (fun v_60 ev_60 => ?_)
  have z_61 : v_60.toInt = v_10.toInt := by have := z_max ev_60 ti_0 rfl; omega
  have t_62 : At S_51 x 189 := tAt_sI eS_51 t_50
  refine r_putI (v := v_60) X hw t_62 rfl 4 904 tyX9 (by decide) rfl inn_X9_init__9 tyX9_ok nmX9 (by decide) (X.2.2.2.1 (.fieldLink RX9 43 "SilkMill$Strand" "pieces" "I") (by decide +kernel)) rfl (Or.inl rfl) rfl rfl (Nat.le_of_ble_eq_true rfl) (st_904 _ _) dX9_init__33 (fun H locs hw => ?_)
  obtain ⟨S_63, eS_63⟩ : ∃ T, T = sI S_51 904 x (v_60) := ⟨_, rfl⟩
  rw [← eS_63] at hw
  have ph_64 : Phc S_63 = Phc S + 0 := (show Phc S_63 = Phc S_51 from Ph_rawI t_62 (by decide) eS_63).trans ph_52
  have ph_65 : Phs S_63 = Phs S + 0 := (show Phs S_63 = Phs S_51 from Ph_rawI t_62 (by decide) eS_63).trans ph_53
  clear ph_52
  clear ph_53
  have hK_66 : Kq S S_63 x := hK_54.sI eS_63
  have hg_67 : GX S_63 := by rw [eS_63]; exact GX_rawI hg_55 t_62 (by decide +kernel)
  have h_68 : pI S_63 904 x = v_60 := tI_sIs eS_63
  refine lv_aload_n X.1 X.2.1 dX9_init__36 rfl (lv_at hl 0 rfl) ?_
  refine lv_aload_n X.1 X.2.1 dX9_init__37 rfl (lv_at hl 1 rfl) ?_
  have t_69 : At S_63 g1 29 := tAt_sI eS_63 t_57
  have t_70 : pR S_42 900 g1 = some q_32 := tR_sI eS_42 h_33
  have t_71 : pR S_51 900 g1 = some q_32 := tR_sI eS_51 t_70
  have t_72 : pR S_63 900 g1 = some q_32 := tR_sI eS_63 t_71
  refine r_getR (g := 900) X hw t_69 rfl 0 t_72 (by decide) rfl inn_X9_init__9 (by decide) (X.2.2.2.1 (.fieldLink RX9 9 "SilkMill$Strand" "fineness" "[I") (by decide +kernel)) rfl (gv_900 _ _) dX9_init__38 ?_
  refine lv_aload_n X.1 X.2.1 dX9_init__41 rfl (lv_at hl 0 rfl) ?_
  have t_73 : At S_63 x 189 := tAt_sI eS_63 t_62
  have t_74 : pI S_51 902 x = v_40 := tI_sI eS_51 rfl h_47
  have t_75 : pI S_63 902 x = v_40 := tI_sI eS_63 rfl t_74
  refine r_getI (g := 902) (x := v_40) X hw t_73 rfl 2 t_75 (by decide) rfl inn_X9_init__9 (by decide) (X.2.2.2.1 (.fieldLink RX9 30 "SilkMill$Strand" "metres" "I") (by decide +kernel)) rfl (gv_902 _ _) dX9_init__42 ?_
  have t_76 : At S_42 q_32 1614 := tAt_sI eS_42 h_34
  have t_77 : At S_51 q_32 1614 := tAt_sI eS_51 t_76
  have t_78 : At S_63 q_32 1614 := tAt_sI eS_63 t_77
  have t_79 : pN S_42 q_32 = 300 := tN_sI eS_42 h_35
  clear h_35
  have t_80 : pN S_51 q_32 = 300 := tN_sI eS_51 t_79
  clear t_79
  have t_81 : pN S_63 q_32 = 300 := tN_sI eS_63 t_80
  clear t_80
  refine k_q (rm := { frames := 2, cells := 1, slots := 300, locals := 96 }) (av := [.ref q_32, .int (v_40)]) X hw (va_runS (As := [.ref q_32, .int (v_40)]) (rest := [.ref x]) (cfix X) (k_J7_copyOf_59c91_F l G cy κ S_63 _ q_32 (v_40) (v_40.toInt) 300 (v_40.toInt.toNat) 300 hg_67.ci t_78 rfl t_81 (by omega) (by omega) (by omega) (by omega)) (va_cwS 2 X.2.2.2.1 gX9_init__J7_copyOf_59c91 rfl rfl rfl (by decide +kernel) ⟨Nat.le_of_ble_eq_true rfl, Nat.le_of_ble_eq_true rfl⟩) (pre_S X hw _) rfl rfl hl.1 rfl (lv_room (Nat.le_of_ble_eq_true rfl)) dX9_init__45 ⟨(by show 0 + 1 ≤ 6; omega), (by show 0 + 300 ≤ 15000; omega)⟩) 1 300 (by show 0 + 1 ≤ 1; omega) (by show 0 + 300 ≤ 300; omega) (fun rr_82 S_83 H locs hp hw hfr hnw => ?_)
  obtain ⟨q_84, er_86, hcp_85, hct_87⟩ := hp
  subst er_86
  refine W.eq (g2 := F0 m 48 ls (.ref q_84 :: .ref x :: [])) rfl ?_
  have hcp_85_a := hcp_85.2.2.1
  have hcp_85_n := hcp_85.2.2.2.1
  have ph_88 : Phc S_83 = Phc S + 0 := (show Phc S_83 = Phc S_63 from hcp_85.2.2.2.2.2.1).trans ph_64
  have ph_89 : Phs S_83 = Phs S + 0 := (show Phs S_83 = Phs S_63 from hcp_85.2.2.2.2.2.2.1).trans ph_65
  clear ph_64
  clear ph_65
  have hn0_q_84 := hK_66.new hcp_85.1
  have hK_90 : Kq S S_83 x := hK_66.sub hn0_q_84 hcp_85.2.1
  have hg_91 : GX S_83 := hcp_85.2.2.2.2.2.2.2.2 hg_67
  have t_92 : At S_83 x 189 := ⟨(hcp_85.2.1 x t_73.1).1, ((hcp_85.2.1 x t_73.1).2 (ne_of_new hcp_85.1 t_73.1)).1.trans t_73.2⟩
  refine r_putR X hw t_92 rfl 0 900 (some q_84) rfl tyX9 (by decide) rfl inn_X9_init__9 tyX9_ok nmX9 (by decide) (X.2.2.2.1 (.fieldLink RX9 9 "SilkMill$Strand" "fineness" "[I") (by decide +kernel)) rfl (Or.inr ⟨rfl, hin, rfl⟩) (fun _ => rfl) rfl (fun _ => rfl) rfl (Nat.le_of_ble_eq_true rfl) (st_900 _ _) dX9_init__48 (fun H locs hw => ?_)
  obtain ⟨S_93, eS_93⟩ : ∃ T, T = sR S_83 900 x (some q_84) := ⟨_, rfl⟩
  rw [← eS_93] at hw
  have ph_94 : Phc S_93 = Phc S + 0 := (show Phc S_93 = Phc S_83 from Ph_rawR t_92 (by decide) eS_93).trans ph_88
  have ph_95 : Phs S_93 = Phs S + 0 := (show Phs S_93 = Phs S_83 from Ph_rawR t_92 (by decide) eS_93).trans ph_89
  clear ph_88
  clear ph_89
  have hK_96 : Kq S S_93 x := hK_90.sR eS_93
  have hg_97 : GX S_93 := by rw [eS_93]; exact GX_rawR hg_91 t_92 (by decide +kernel)
  have h_98 : pR S_93 900 x = some q_84 := tR_sRs eS_93
  refine lv_aload_n X.1 X.2.1 dX9_init__51 rfl (lv_at hl 0 rfl) ?_
  refine lv_aload_n X.1 X.2.1 dX9_init__52 rfl (lv_at hl 1 rfl) ?_
  have t_99 : At S_83 g1 29 := ⟨(hcp_85.2.1 g1 t_69.1).1, ((hcp_85.2.1 g1 t_69.1).2 (ne_of_new hcp_85.1 t_69.1)).1.trans t_69.2⟩
  have t_100 : At S_93 g1 29 := tAt_sR eS_93 t_99
  have t_101 : pR S_42 901 g1 = some q_36 := tR_sI eS_42 h_37
  have t_102 : pR S_51 901 g1 = some q_36 := tR_sI eS_51 t_101
  have t_103 : pR S_63 901 g1 = some q_36 := tR_sI eS_63 t_102
  have t_104 : pR S_83 901 g1 = some q_36 := (((hcp_85.2.1 g1 t_69.1).2 (ne_of_new hcp_85.1 t_69.1)).2.2.1 901).trans t_103
  have t_105 : pR S_93 901 g1 = some q_36 := tR_sR eS_93 rfl t_104
  refine r_getR (g := 901) X hw t_100 rfl 1 t_105 (by decide) rfl inn_X9_init__9 (by decide) (X.2.2.2.1 (.fieldLink RX9 15 "SilkMill$Strand" "endCounts" "[I") (by decide +kernel)) rfl (gv_901 _ _) dX9_init__53 ?_
  refine lv_aload_n X.1 X.2.1 dX9_init__56 rfl (lv_at hl 0 rfl) ?_
  have t_106 : At S_93 x 189 := tAt_sR eS_93 t_92
  have t_107 : pI S_83 902 x = v_40 := (((hcp_85.2.1 x t_73.1).2 (ne_of_new hcp_85.1 t_73.1)).2.1 902).trans t_75
  have t_108 : pI S_93 902 x = v_40 := tI_sR eS_93 t_107
  refine r_getI (g := 902) (x := v_40) X hw t_106 rfl 2 t_108 (by decide) rfl inn_X9_init__9 (by decide) (X.2.2.2.1 (.fieldLink RX9 30 "SilkMill$Strand" "metres" "I") (by decide +kernel)) rfl (gv_902 _ _) dX9_init__57 ?_
  have t_109 : At S_42 q_36 1634 := tAt_sI eS_42 h_38
  have t_110 : At S_51 q_36 1634 := tAt_sI eS_51 t_109
  have t_111 : At S_63 q_36 1634 := tAt_sI eS_63 t_110
  have t_112 : At S_83 q_36 1634 := ⟨(hcp_85.2.1 q_36 t_111.1).1, ((hcp_85.2.1 q_36 t_111.1).2 (ne_of_new hcp_85.1 t_111.1)).1.trans t_111.2⟩
  have t_113 : At S_93 q_36 1634 := tAt_sR eS_93 t_112
  have t_114 : pN S_42 q_36 = 300 := tN_sI eS_42 h_39
  clear h_39
  have t_115 : pN S_51 q_36 = 300 := tN_sI eS_51 t_114
  clear t_114
  have t_116 : pN S_63 q_36 = 300 := tN_sI eS_63 t_115
  clear t_115
  have t_118 : At S_42 q_36 1634 := tAt_sI eS_42 h_38
  have t_119 : At S_51 q_36 1634 := tAt_sI eS_51 t_118
  have t_120 : At S_63 q_36 1634 := tAt_sI eS_63 t_119
  have t_117 : pN S_83 q_36 = 300 := ((hcp_85.2.1 q_36 t_120.1).2 (ne_of_new hcp_85.1 t_120.1)).2.2.2.1.trans t_116
  clear t_116
  have t_121 : pN S_93 q_36 = 300 := tN_sR eS_93 t_117
  clear t_117
  refine k_q (rm := { frames := 2, cells := 1, slots := 300, locals := 96 }) (av := [.ref q_36, .int (v_40)]) X hw (va_runS (As := [.ref q_36, .int (v_40)]) (rest := [.ref x]) (cfix X) (k_J7_copyOf_59c91_E l G cy κ S_93 _ q_36 (v_40) (v_40.toInt) 300 (v_40.toInt.toNat) 300 hg_97.ci t_113 rfl t_121 (by omega) (by omega) (by omega) (by omega)) (va_cwS 2 X.2.2.2.1 gX9_init__J7_copyOf_59c91 rfl rfl rfl (by decide +kernel) ⟨Nat.le_of_ble_eq_true rfl, Nat.le_of_ble_eq_true rfl⟩) (pre_S X hw _) rfl rfl hl.1 rfl (lv_room (Nat.le_of_ble_eq_true rfl)) dX9_init__60 ⟨(by show 1 + 1 ≤ 6; omega), (by show 300 + 300 ≤ 15000; omega)⟩) 2 600 (by show 1 + 1 ≤ 2; omega) (by show 300 + 300 ≤ 600; omega) (fun rr_122 S_123 H locs hp hw hfr hnw => ?_)
  obtain ⟨q_124, er_126, hcp_125, hct_127⟩ := hp
  subst er_126
  refine W.eq (g2 := F0 m 63 ls (.ref q_124 :: .ref x :: [])) rfl ?_
  have hcp_125_a := hcp_125.2.2.1
  have hcp_125_n := hcp_125.2.2.2.1
  have ph_128 : Phc S_123 = Phc S + 0 := (show Phc S_123 = Phc S_93 from hcp_125.2.2.2.2.2.1).trans ph_94
  have ph_129 : Phs S_123 = Phs S + 0 := (show Phs S_123 = Phs S_93 from hcp_125.2.2.2.2.2.2.1).trans ph_95
  clear ph_94
  clear ph_95
  have hn0_q_124 := hK_96.new hcp_125.1
  have hK_130 : Kq S S_123 x := hK_96.sub hn0_q_124 hcp_125.2.1
  have hg_131 : GX S_123 := hcp_125.2.2.2.2.2.2.2.2 hg_97
  have t_132 : At S_123 x 189 := ⟨(hcp_125.2.1 x t_106.1).1, ((hcp_125.2.1 x t_106.1).2 (ne_of_new hcp_125.1 t_106.1)).1.trans t_106.2⟩
  refine r_putR X hw t_132 rfl 1 901 (some q_124) rfl tyX9 (by decide) rfl inn_X9_init__9 tyX9_ok nmX9 (by decide) (X.2.2.2.1 (.fieldLink RX9 15 "SilkMill$Strand" "endCounts" "[I") (by decide +kernel)) rfl (Or.inr ⟨rfl, hin, rfl⟩) (fun _ => rfl) rfl (fun _ => rfl) rfl (Nat.le_of_ble_eq_true rfl) (st_901 _ _) dX9_init__63 (fun H locs hw => ?_)
  obtain ⟨S_133, eS_133⟩ : ∃ T, T = sR S_123 901 x (some q_124) := ⟨_, rfl⟩
  rw [← eS_133] at hw
  have ph_134 : Phc S_133 = Phc S + 0 := (show Phc S_133 = Phc S_123 from Ph_rawR t_132 (by decide) eS_133).trans ph_128
  have ph_135 : Phs S_133 = Phs S + 0 := (show Phs S_133 = Phs S_123 from Ph_rawR t_132 (by decide) eS_133).trans ph_129
  clear ph_128
  clear ph_129
  have hK_136 : Kq S S_133 x := hK_130.sR eS_133
  have hg_137 : GX S_133 := by rw [eS_133]; exact GX_rawR hg_131 t_132 (by decide +kernel)
  have h_138 : pR S_133 901 x = some q_124 := tR_sRs eS_133
  refine lv_aload_n X.1 X.2.1 dX9_init__66 rfl (lv_at hl 0 rfl) ?_
  refine lv_aload_n X.1 X.2.1 dX9_init__67 rfl (lv_at hl 1 rfl) ?_
  have t_139 : At S_123 g1 29 := ⟨(hcp_125.2.1 g1 t_100.1).1, ((hcp_125.2.1 g1 t_100.1).2 (ne_of_new hcp_125.1 t_100.1)).1.trans t_100.2⟩
  have t_140 : At S_133 g1 29 := tAt_sR eS_133 t_139
  have t_141 : pR S_42 905 g1 = some q_12 := tR_sI eS_42 h_17
  have t_142 : pR S_51 905 g1 = some q_12 := tR_sI eS_51 t_141
  have t_143 : pR S_63 905 g1 = some q_12 := tR_sI eS_63 t_142
  have t_144 : pR S_83 905 g1 = some q_12 := (((hcp_85.2.1 g1 t_69.1).2 (ne_of_new hcp_85.1 t_69.1)).2.2.1 905).trans t_143
  have t_145 : pR S_93 905 g1 = some q_12 := tR_sR eS_93 rfl t_144
  have t_146 : pR S_123 905 g1 = some q_12 := (((hcp_125.2.1 g1 t_100.1).2 (ne_of_new hcp_125.1 t_100.1)).2.2.1 905).trans t_145
  have t_147 : pR S_133 905 g1 = some q_12 := tR_sR eS_133 rfl t_146
  refine r_getR (g := 905) X hw t_140 rfl 5 t_147 (by decide) rfl inn_X9_init__9 (by decide) (X.2.2.2.1 (.fieldLink RX9 18 "SilkMill$Strand" "codes" "[I") (by decide +kernel)) rfl (gv_905 _ _) dX9_init__68 ?_
  refine lv_aload_n X.1 X.2.1 dX9_init__71 rfl (lv_at hl 0 rfl) ?_
  have t_148 : At S_133 x 189 := tAt_sR eS_133 t_132
  have t_149 : pI S_83 904 x = v_60 := (((hcp_85.2.1 x t_73.1).2 (ne_of_new hcp_85.1 t_73.1)).2.1 904).trans h_68
  have t_150 : pI S_93 904 x = v_60 := tI_sR eS_93 t_149
  have t_151 : pI S_123 904 x = v_60 := (((hcp_125.2.1 x t_106.1).2 (ne_of_new hcp_125.1 t_106.1)).2.1 904).trans t_150
  have t_152 : pI S_133 904 x = v_60 := tI_sR eS_133 t_151
  refine r_getI (g := 904) (x := v_60) X hw t_148 rfl 4 t_152 (by decide) rfl inn_X9_init__9 (by decide) (X.2.2.2.1 (.fieldLink RX9 43 "SilkMill$Strand" "pieces" "I") (by decide +kernel)) rfl (gv_904 _ _) dX9_init__72 ?_
  have t_153 : At S_42 q_12 14 := tAt_sI eS_42 h_21
  have t_154 : At S_51 q_12 14 := tAt_sI eS_51 t_153
  have t_155 : At S_63 q_12 14 := tAt_sI eS_63 t_154
  have t_156 : At S_83 q_12 14 := ⟨(hcp_85.2.1 q_12 t_155.1).1, ((hcp_85.2.1 q_12 t_155.1).2 (ne_of_new hcp_85.1 t_155.1)).1.trans t_155.2⟩
  have t_157 : At S_93 q_12 14 := tAt_sR eS_93 t_156
  have t_158 : At S_123 q_12 14 := ⟨(hcp_125.2.1 q_12 t_157.1).1, ((hcp_125.2.1 q_12 t_157.1).2 (ne_of_new hcp_125.1 t_157.1)).1.trans t_157.2⟩
  have t_159 : At S_133 q_12 14 := tAt_sR eS_133 t_158
  have t_160 : pN S_42 q_12 = n_16 := tN_sI eS_42 h_25
  clear h_25
  have t_161 : pN S_51 q_12 = n_16 := tN_sI eS_51 t_160
  clear t_160
  have t_162 : pN S_63 q_12 = n_16 := tN_sI eS_63 t_161
  clear t_161
  have t_164 : At S_42 q_12 14 := tAt_sI eS_42 h_21
  have t_165 : At S_51 q_12 14 := tAt_sI eS_51 t_164
  have t_166 : At S_63 q_12 14 := tAt_sI eS_63 t_165
  have t_163 : pN S_83 q_12 = n_16 := ((hcp_85.2.1 q_12 t_166.1).2 (ne_of_new hcp_85.1 t_166.1)).2.2.2.1.trans t_162
  clear t_162
  have t_167 : pN S_93 q_12 = n_16 := tN_sR eS_93 t_163
  clear t_163
  have t_169 : At S_83 q_12 14 := ⟨(hcp_85.2.1 q_12 t_166.1).1, ((hcp_85.2.1 q_12 t_166.1).2 (ne_of_new hcp_85.1 t_166.1)).1.trans t_166.2⟩
  have t_170 : At S_93 q_12 14 := tAt_sR eS_93 t_169
  have t_168 : pN S_123 q_12 = n_16 := ((hcp_125.2.1 q_12 t_170.1).2 (ne_of_new hcp_125.1 t_170.1)).2.2.2.1.trans t_167
  clear t_167
  have t_171 : pN S_133 q_12 = n_16 := tN_sR eS_133 t_168
  clear t_168
  refine k_q (rm := { frames := 2, cells := 1, slots := 3600, locals := 96 }) (av := [.ref q_12, .int (v_60)]) X hw (va_runS (As := [.ref q_12, .int (v_60)]) (rest := [.ref x]) (cfix X) (k_J7_copyOf_59c91_G l G cy κ S_133 _ q_12 (v_60) (v_60.toInt) n_16 (v_60.toInt.toNat) 3600 hg_137.ci t_159 rfl t_171 (by omega) (by omega) (by omega) (by omega)) (va_cwS 2 X.2.2.2.1 gX9_init__J7_copyOf_59c91 rfl rfl rfl (by decide +kernel) ⟨Nat.le_of_ble_eq_true rfl, Nat.le_of_ble_eq_true rfl⟩) (pre_S X hw _) rfl rfl hl.1 rfl (lv_room (Nat.le_of_ble_eq_true rfl)) dX9_init__75 ⟨(by show 2 + 1 ≤ 6; omega), (by show 600 + 3600 ≤ 15000; omega)⟩) 3 4200 (by show 2 + 1 ≤ 3; omega) (by show 600 + 3600 ≤ 4200; omega) (fun rr_172 S_173 H locs hp hw hfr hnw => ?_)
  obtain ⟨q_174, er_176, hcp_175, hct_177⟩ := hp
  subst er_176
  refine W.eq (g2 := F0 m 78 ls (.ref q_174 :: .ref x :: [])) rfl ?_
  have hcp_175_a := hcp_175.2.2.1
  have hcp_175_n := hcp_175.2.2.2.1
  have ph_178 : Phc S_173 = Phc S + 0 := (show Phc S_173 = Phc S_133 from hcp_175.2.2.2.2.2.1).trans ph_134
  have ph_179 : Phs S_173 = Phs S + 0 := (show Phs S_173 = Phs S_133 from hcp_175.2.2.2.2.2.2.1).trans ph_135
  clear ph_134
  clear ph_135
  have hn0_q_174 := hK_136.new hcp_175.1
  have hK_180 : Kq S S_173 x := hK_136.sub hn0_q_174 hcp_175.2.1
  have hg_181 : GX S_173 := hcp_175.2.2.2.2.2.2.2.2 hg_137
  have t_182 : At S_173 x 189 := ⟨(hcp_175.2.1 x t_148.1).1, ((hcp_175.2.1 x t_148.1).2 (ne_of_new hcp_175.1 t_148.1)).1.trans t_148.2⟩
  refine r_putR X hw t_182 rfl 5 905 (some q_174) rfl tyX9 (by decide) rfl inn_X9_init__9 tyX9_ok nmX9 (by decide) (X.2.2.2.1 (.fieldLink RX9 18 "SilkMill$Strand" "codes" "[I") (by decide +kernel)) rfl (Or.inl rfl) (fun _ => rfl) rfl (fun _ => rfl) rfl (Nat.le_of_ble_eq_true rfl) (st_905 _ _) dX9_init__78 (fun H locs hw => ?_)
  obtain ⟨S_183, eS_183⟩ : ∃ T, T = sR S_173 905 x (some q_174) := ⟨_, rfl⟩
  rw [← eS_183] at hw
  have ph_184 : Phc S_183 = Phc S + 0 := (show Phc S_183 = Phc S_173 from Ph_rawR t_182 (by decide) eS_183).trans ph_178
  have ph_185 : Phs S_183 = Phs S + 0 := (show Phs S_183 = Phs S_173 from Ph_rawR t_182 (by decide) eS_183).trans ph_179
  clear ph_178
  clear ph_179
  have hK_186 : Kq S S_183 x := hK_180.sR eS_183
  have hg_187 : GX S_183 := by rw [eS_183]; exact GX_rawR hg_181 t_182 (by decide +kernel)
  have h_188 : pR S_183 905 x = some q_174 := tR_sRs eS_183
  refine lv_aload_n X.1 X.2.1 dX9_init__81 rfl (lv_at hl 0 rfl) ?_
  refine lv_aload_n X.1 X.2.1 dX9_init__82 rfl (lv_at hl 1 rfl) ?_
  have t_189 : At S_173 g1 29 := ⟨(hcp_175.2.1 g1 t_140.1).1, ((hcp_175.2.1 g1 t_140.1).2 (ne_of_new hcp_175.1 t_140.1)).1.trans t_140.2⟩
  have t_190 : At S_183 g1 29 := tAt_sR eS_183 t_189
  have t_191 : pR S_42 906 g1 = some q_13 := tR_sI eS_42 h_18
  have t_192 : pR S_51 906 g1 = some q_13 := tR_sI eS_51 t_191
  have t_193 : pR S_63 906 g1 = some q_13 := tR_sI eS_63 t_192
  have t_194 : pR S_83 906 g1 = some q_13 := (((hcp_85.2.1 g1 t_69.1).2 (ne_of_new hcp_85.1 t_69.1)).2.2.1 906).trans t_193
  have t_195 : pR S_93 906 g1 = some q_13 := tR_sR eS_93 rfl t_194
  have t_196 : pR S_123 906 g1 = some q_13 := (((hcp_125.2.1 g1 t_100.1).2 (ne_of_new hcp_125.1 t_100.1)).2.2.1 906).trans t_195
  have t_197 : pR S_133 906 g1 = some q_13 := tR_sR eS_133 rfl t_196
  have t_198 : pR S_173 906 g1 = some q_13 := (((hcp_175.2.1 g1 t_140.1).2 (ne_of_new hcp_175.1 t_140.1)).2.2.1 906).trans t_197
  have t_199 : pR S_183 906 g1 = some q_13 := tR_sR eS_183 rfl t_198
  refine r_getR (g := 906) X hw t_190 rfl 6 t_199 (by decide) rfl inn_X9_init__9 (by decide) (X.2.2.2.1 (.fieldLink RX9 21 "SilkMill$Strand" "firsts" "[I") (by decide +kernel)) rfl (gv_906 _ _) dX9_init__83 ?_
  refine lv_aload_n X.1 X.2.1 dX9_init__86 rfl (lv_at hl 0 rfl) ?_
  have t_200 : At S_183 x 189 := tAt_sR eS_183 t_182
  have t_201 : pI S_173 904 x = v_60 := (((hcp_175.2.1 x t_148.1).2 (ne_of_new hcp_175.1 t_148.1)).2.1 904).trans t_152
  have t_202 : pI S_183 904 x = v_60 := tI_sR eS_183 t_201
  refine r_getI (g := 904) (x := v_60) X hw t_200 rfl 4 t_202 (by decide) rfl inn_X9_init__9 (by decide) (X.2.2.2.1 (.fieldLink RX9 43 "SilkMill$Strand" "pieces" "I") (by decide +kernel)) rfl (gv_904 _ _) dX9_init__87 ?_
  have t_203 : At S_42 q_13 14 := tAt_sI eS_42 h_22
  have t_204 : At S_51 q_13 14 := tAt_sI eS_51 t_203
  have t_205 : At S_63 q_13 14 := tAt_sI eS_63 t_204
  have t_206 : At S_83 q_13 14 := ⟨(hcp_85.2.1 q_13 t_205.1).1, ((hcp_85.2.1 q_13 t_205.1).2 (ne_of_new hcp_85.1 t_205.1)).1.trans t_205.2⟩
  have t_207 : At S_93 q_13 14 := tAt_sR eS_93 t_206
  have t_208 : At S_123 q_13 14 := ⟨(hcp_125.2.1 q_13 t_207.1).1, ((hcp_125.2.1 q_13 t_207.1).2 (ne_of_new hcp_125.1 t_207.1)).1.trans t_207.2⟩
  have t_209 : At S_133 q_13 14 := tAt_sR eS_133 t_208
  have t_210 : At S_173 q_13 14 := ⟨(hcp_175.2.1 q_13 t_209.1).1, ((hcp_175.2.1 q_13 t_209.1).2 (ne_of_new hcp_175.1 t_209.1)).1.trans t_209.2⟩
  have t_211 : At S_183 q_13 14 := tAt_sR eS_183 t_210
  have t_212 : pN S_42 q_13 = n_16 := tN_sI eS_42 h_26
  clear h_26
  have t_213 : pN S_51 q_13 = n_16 := tN_sI eS_51 t_212
  clear t_212
  have t_214 : pN S_63 q_13 = n_16 := tN_sI eS_63 t_213
  clear t_213
  have t_216 : At S_42 q_13 14 := tAt_sI eS_42 h_22
  have t_217 : At S_51 q_13 14 := tAt_sI eS_51 t_216
  have t_218 : At S_63 q_13 14 := tAt_sI eS_63 t_217
  have t_215 : pN S_83 q_13 = n_16 := ((hcp_85.2.1 q_13 t_218.1).2 (ne_of_new hcp_85.1 t_218.1)).2.2.2.1.trans t_214
  clear t_214
  have t_219 : pN S_93 q_13 = n_16 := tN_sR eS_93 t_215
  clear t_215
  have t_221 : At S_83 q_13 14 := ⟨(hcp_85.2.1 q_13 t_218.1).1, ((hcp_85.2.1 q_13 t_218.1).2 (ne_of_new hcp_85.1 t_218.1)).1.trans t_218.2⟩
  have t_222 : At S_93 q_13 14 := tAt_sR eS_93 t_221
  have t_220 : pN S_123 q_13 = n_16 := ((hcp_125.2.1 q_13 t_222.1).2 (ne_of_new hcp_125.1 t_222.1)).2.2.2.1.trans t_219
  clear t_219
  have t_223 : pN S_133 q_13 = n_16 := tN_sR eS_133 t_220
  clear t_220
  have t_225 : At S_123 q_13 14 := ⟨(hcp_125.2.1 q_13 t_222.1).1, ((hcp_125.2.1 q_13 t_222.1).2 (ne_of_new hcp_125.1 t_222.1)).1.trans t_222.2⟩
  have t_226 : At S_133 q_13 14 := tAt_sR eS_133 t_225
  have t_224 : pN S_173 q_13 = n_16 := ((hcp_175.2.1 q_13 t_226.1).2 (ne_of_new hcp_175.1 t_226.1)).2.2.2.1.trans t_223
  clear t_223
  have t_227 : pN S_183 q_13 = n_16 := tN_sR eS_183 t_224
  clear t_224
  refine k_q (rm := { frames := 2, cells := 1, slots := 3600, locals := 96 }) (av := [.ref q_13, .int (v_60)]) X hw (va_runS (As := [.ref q_13, .int (v_60)]) (rest := [.ref x]) (cfix X) (k_J7_copyOf_59c91_G l G cy κ S_183 _ q_13 (v_60) (v_60.toInt) n_16 (v_60.toInt.toNat) 3600 hg_187.ci t_211 rfl t_227 (by omega) (by omega) (by omega) (by omega)) (va_cwS 2 X.2.2.2.1 gX9_init__J7_copyOf_59c91 rfl rfl rfl (by decide +kernel) ⟨Nat.le_of_ble_eq_true rfl, Nat.le_of_ble_eq_true rfl⟩) (pre_S X hw _) rfl rfl hl.1 rfl (lv_room (Nat.le_of_ble_eq_true rfl)) dX9_init__90 ⟨(by show 3 + 1 ≤ 6; omega), (by show 4200 + 3600 ≤ 15000; omega)⟩) 4 7800 (by show 3 + 1 ≤ 4; omega) (by show 4200 + 3600 ≤ 7800; omega) (fun rr_228 S_229 H locs hp hw hfr hnw => ?_)
  obtain ⟨q_230, er_232, hcp_231, hct_233⟩ := hp
  subst er_232
  refine W.eq (g2 := F0 m 93 ls (.ref q_230 :: .ref x :: [])) rfl ?_
  have hcp_231_a := hcp_231.2.2.1
  have hcp_231_n := hcp_231.2.2.2.1
  have ph_234 : Phc S_229 = Phc S + 0 := (show Phc S_229 = Phc S_183 from hcp_231.2.2.2.2.2.1).trans ph_184
  have ph_235 : Phs S_229 = Phs S + 0 := (show Phs S_229 = Phs S_183 from hcp_231.2.2.2.2.2.2.1).trans ph_185
  clear ph_184
  clear ph_185
  have hn0_q_230 := hK_186.new hcp_231.1
  have hK_236 : Kq S S_229 x := hK_186.sub hn0_q_230 hcp_231.2.1
  have hg_237 : GX S_229 := hcp_231.2.2.2.2.2.2.2.2 hg_187
  have t_238 : At S_229 x 189 := ⟨(hcp_231.2.1 x t_200.1).1, ((hcp_231.2.1 x t_200.1).2 (ne_of_new hcp_231.1 t_200.1)).1.trans t_200.2⟩
  refine r_putR X hw t_238 rfl 6 906 (some q_230) rfl tyX9 (by decide) rfl inn_X9_init__9 tyX9_ok nmX9 (by decide) (X.2.2.2.1 (.fieldLink RX9 21 "SilkMill$Strand" "firsts" "[I") (by decide +kernel)) rfl (Or.inl rfl) (fun _ => rfl) rfl (fun _ => rfl) rfl (Nat.le_of_ble_eq_true rfl) (st_906 _ _) dX9_init__93 (fun H locs hw => ?_)
  obtain ⟨S_239, eS_239⟩ : ∃ T, T = sR S_229 906 x (some q_230) := ⟨_, rfl⟩
  rw [← eS_239] at hw
  have ph_240 : Phc S_239 = Phc S + 0 := (show Phc S_239 = Phc S_229 from Ph_rawR t_238 (by decide) eS_239).trans ph_234
  have ph_241 : Phs S_239 = Phs S + 0 := (show Phs S_239 = Phs S_229 from Ph_rawR t_238 (by decide) eS_239).trans ph_235
  clear ph_234
  clear ph_235
  have hK_242 : Kq S S_239 x := hK_236.sR eS_239
  have hg_243 : GX S_239 := by rw [eS_239]; exact GX_rawR hg_237 t_238 (by decide +kernel)
  have h_244 : pR S_239 906 x = some q_230 := tR_sRs eS_239
  refine lv_aload_n X.1 X.2.1 dX9_init__96 rfl (lv_at hl 0 rfl) ?_
  refine lv_aload_n X.1 X.2.1 dX9_init__97 rfl (lv_at hl 1 rfl) ?_
  have t_245 : At S_229 g1 29 := ⟨(hcp_231.2.1 g1 t_190.1).1, ((hcp_231.2.1 g1 t_190.1).2 (ne_of_new hcp_231.1 t_190.1)).1.trans t_190.2⟩
  have t_246 : At S_239 g1 29 := tAt_sR eS_239 t_245
  have t_247 : pR S_42 907 g1 = some q_14 := tR_sI eS_42 h_19
  have t_248 : pR S_51 907 g1 = some q_14 := tR_sI eS_51 t_247
  have t_249 : pR S_63 907 g1 = some q_14 := tR_sI eS_63 t_248
  have t_250 : pR S_83 907 g1 = some q_14 := (((hcp_85.2.1 g1 t_69.1).2 (ne_of_new hcp_85.1 t_69.1)).2.2.1 907).trans t_249
  have t_251 : pR S_93 907 g1 = some q_14 := tR_sR eS_93 rfl t_250
  have t_252 : pR S_123 907 g1 = some q_14 := (((hcp_125.2.1 g1 t_100.1).2 (ne_of_new hcp_125.1 t_100.1)).2.2.1 907).trans t_251
  have t_253 : pR S_133 907 g1 = some q_14 := tR_sR eS_133 rfl t_252
  have t_254 : pR S_173 907 g1 = some q_14 := (((hcp_175.2.1 g1 t_140.1).2 (ne_of_new hcp_175.1 t_140.1)).2.2.1 907).trans t_253
  have t_255 : pR S_183 907 g1 = some q_14 := tR_sR eS_183 rfl t_254
  have t_256 : pR S_229 907 g1 = some q_14 := (((hcp_231.2.1 g1 t_190.1).2 (ne_of_new hcp_231.1 t_190.1)).2.2.1 907).trans t_255
  have t_257 : pR S_239 907 g1 = some q_14 := tR_sR eS_239 rfl t_256
  refine r_getR (g := 907) X hw t_246 rfl 7 t_257 (by decide) rfl inn_X9_init__9 (by decide) (X.2.2.2.1 (.fieldLink RX9 24 "SilkMill$Strand" "lengths" "[I") (by decide +kernel)) rfl (gv_907 _ _) dX9_init__98 ?_
  refine lv_aload_n X.1 X.2.1 dX9_init__101 rfl (lv_at hl 0 rfl) ?_
  have t_258 : At S_239 x 189 := tAt_sR eS_239 t_238
  have t_259 : pI S_229 904 x = v_60 := (((hcp_231.2.1 x t_200.1).2 (ne_of_new hcp_231.1 t_200.1)).2.1 904).trans t_202
  have t_260 : pI S_239 904 x = v_60 := tI_sR eS_239 t_259
  refine r_getI (g := 904) (x := v_60) X hw t_258 rfl 4 t_260 (by decide) rfl inn_X9_init__9 (by decide) (X.2.2.2.1 (.fieldLink RX9 43 "SilkMill$Strand" "pieces" "I") (by decide +kernel)) rfl (gv_904 _ _) dX9_init__102 ?_
  have t_261 : At S_42 q_14 14 := tAt_sI eS_42 h_23
  have t_262 : At S_51 q_14 14 := tAt_sI eS_51 t_261
  have t_263 : At S_63 q_14 14 := tAt_sI eS_63 t_262
  have t_264 : At S_83 q_14 14 := ⟨(hcp_85.2.1 q_14 t_263.1).1, ((hcp_85.2.1 q_14 t_263.1).2 (ne_of_new hcp_85.1 t_263.1)).1.trans t_263.2⟩
  have t_265 : At S_93 q_14 14 := tAt_sR eS_93 t_264
  have t_266 : At S_123 q_14 14 := ⟨(hcp_125.2.1 q_14 t_265.1).1, ((hcp_125.2.1 q_14 t_265.1).2 (ne_of_new hcp_125.1 t_265.1)).1.trans t_265.2⟩
  have t_267 : At S_133 q_14 14 := tAt_sR eS_133 t_266
  have t_268 : At S_173 q_14 14 := ⟨(hcp_175.2.1 q_14 t_267.1).1, ((hcp_175.2.1 q_14 t_267.1).2 (ne_of_new hcp_175.1 t_267.1)).1.trans t_267.2⟩
  have t_269 : At S_183 q_14 14 := tAt_sR eS_183 t_268
  have t_270 : At S_229 q_14 14 := ⟨(hcp_231.2.1 q_14 t_269.1).1, ((hcp_231.2.1 q_14 t_269.1).2 (ne_of_new hcp_231.1 t_269.1)).1.trans t_269.2⟩
  have t_271 : At S_239 q_14 14 := tAt_sR eS_239 t_270
  have t_272 : pN S_42 q_14 = n_16 := tN_sI eS_42 h_27
  clear h_27
  have t_273 : pN S_51 q_14 = n_16 := tN_sI eS_51 t_272
  clear t_272
  have t_274 : pN S_63 q_14 = n_16 := tN_sI eS_63 t_273
  clear t_273
  have t_276 : At S_42 q_14 14 := tAt_sI eS_42 h_23
  have t_277 : At S_51 q_14 14 := tAt_sI eS_51 t_276
  have t_278 : At S_63 q_14 14 := tAt_sI eS_63 t_277
  have t_275 : pN S_83 q_14 = n_16 := ((hcp_85.2.1 q_14 t_278.1).2 (ne_of_new hcp_85.1 t_278.1)).2.2.2.1.trans t_274
  clear t_274
  have t_279 : pN S_93 q_14 = n_16 := tN_sR eS_93 t_275
  clear t_275
  have t_281 : At S_83 q_14 14 := ⟨(hcp_85.2.1 q_14 t_278.1).1, ((hcp_85.2.1 q_14 t_278.1).2 (ne_of_new hcp_85.1 t_278.1)).1.trans t_278.2⟩
  have t_282 : At S_93 q_14 14 := tAt_sR eS_93 t_281
  have t_280 : pN S_123 q_14 = n_16 := ((hcp_125.2.1 q_14 t_282.1).2 (ne_of_new hcp_125.1 t_282.1)).2.2.2.1.trans t_279
  clear t_279
  have t_283 : pN S_133 q_14 = n_16 := tN_sR eS_133 t_280
  clear t_280
  have t_285 : At S_123 q_14 14 := ⟨(hcp_125.2.1 q_14 t_282.1).1, ((hcp_125.2.1 q_14 t_282.1).2 (ne_of_new hcp_125.1 t_282.1)).1.trans t_282.2⟩
  have t_286 : At S_133 q_14 14 := tAt_sR eS_133 t_285
  have t_284 : pN S_173 q_14 = n_16 := ((hcp_175.2.1 q_14 t_286.1).2 (ne_of_new hcp_175.1 t_286.1)).2.2.2.1.trans t_283
  clear t_283
  have t_287 : pN S_183 q_14 = n_16 := tN_sR eS_183 t_284
  clear t_284
  have t_289 : At S_173 q_14 14 := ⟨(hcp_175.2.1 q_14 t_286.1).1, ((hcp_175.2.1 q_14 t_286.1).2 (ne_of_new hcp_175.1 t_286.1)).1.trans t_286.2⟩
  have t_290 : At S_183 q_14 14 := tAt_sR eS_183 t_289
  have t_288 : pN S_229 q_14 = n_16 := ((hcp_231.2.1 q_14 t_290.1).2 (ne_of_new hcp_231.1 t_290.1)).2.2.2.1.trans t_287
  clear t_287
  have t_291 : pN S_239 q_14 = n_16 := tN_sR eS_239 t_288
  clear t_288
  refine k_q (rm := { frames := 2, cells := 1, slots := 3600, locals := 96 }) (av := [.ref q_14, .int (v_60)]) X hw (va_runS (As := [.ref q_14, .int (v_60)]) (rest := [.ref x]) (cfix X) (k_J7_copyOf_59c91_G l G cy κ S_239 _ q_14 (v_60) (v_60.toInt) n_16 (v_60.toInt.toNat) 3600 hg_243.ci t_271 rfl t_291 (by omega) (by omega) (by omega) (by omega)) (va_cwS 2 X.2.2.2.1 gX9_init__J7_copyOf_59c91 rfl rfl rfl (by decide +kernel) ⟨Nat.le_of_ble_eq_true rfl, Nat.le_of_ble_eq_true rfl⟩) (pre_S X hw _) rfl rfl hl.1 rfl (lv_room (Nat.le_of_ble_eq_true rfl)) dX9_init__105 ⟨(by show 4 + 1 ≤ 6; omega), (by show 7800 + 3600 ≤ 15000; omega)⟩) 5 11400 (by show 4 + 1 ≤ 5; omega) (by show 7800 + 3600 ≤ 11400; omega) (fun rr_292 S_293 H locs hp hw hfr hnw => ?_)
  obtain ⟨q_294, er_296, hcp_295, hct_297⟩ := hp
  subst er_296
  refine W.eq (g2 := F0 m 108 ls (.ref q_294 :: .ref x :: [])) rfl ?_
  have hcp_295_a := hcp_295.2.2.1
  have hcp_295_n := hcp_295.2.2.2.1
  have ph_298 : Phc S_293 = Phc S + 0 := (show Phc S_293 = Phc S_239 from hcp_295.2.2.2.2.2.1).trans ph_240
  have ph_299 : Phs S_293 = Phs S + 0 := (show Phs S_293 = Phs S_239 from hcp_295.2.2.2.2.2.2.1).trans ph_241
  clear ph_240
  clear ph_241
  have hn0_q_294 := hK_242.new hcp_295.1
  have hK_300 : Kq S S_293 x := hK_242.sub hn0_q_294 hcp_295.2.1
  have hg_301 : GX S_293 := hcp_295.2.2.2.2.2.2.2.2 hg_243
  have t_302 : At S_293 x 189 := ⟨(hcp_295.2.1 x t_258.1).1, ((hcp_295.2.1 x t_258.1).2 (ne_of_new hcp_295.1 t_258.1)).1.trans t_258.2⟩
  refine r_putR X hw t_302 rfl 7 907 (some q_294) rfl tyX9 (by decide) rfl inn_X9_init__9 tyX9_ok nmX9 (by decide) (X.2.2.2.1 (.fieldLink RX9 24 "SilkMill$Strand" "lengths" "[I") (by decide +kernel)) rfl (Or.inl rfl) (fun _ => rfl) rfl (fun _ => rfl) rfl (Nat.le_of_ble_eq_true rfl) (st_907 _ _) dX9_init__108 (fun H locs hw => ?_)
  obtain ⟨S_303, eS_303⟩ : ∃ T, T = sR S_293 907 x (some q_294) := ⟨_, rfl⟩
  rw [← eS_303] at hw
  have ph_304 : Phc S_303 = Phc S + 0 := (show Phc S_303 = Phc S_293 from Ph_rawR t_302 (by decide) eS_303).trans ph_298
  have ph_305 : Phs S_303 = Phs S + 0 := (show Phs S_303 = Phs S_293 from Ph_rawR t_302 (by decide) eS_303).trans ph_299
  clear ph_298
  clear ph_299
  have hK_306 : Kq S S_303 x := hK_300.sR eS_303
  have hg_307 : GX S_303 := by rw [eS_303]; exact GX_rawR hg_301 t_302 (by decide +kernel)
  have h_308 : pR S_303 907 x = some q_294 := tR_sRs eS_303
  refine lv_aload_n X.1 X.2.1 dX9_init__111 rfl (lv_at hl 0 rfl) ?_
  refine lv_aload_n X.1 X.2.1 dX9_init__112 rfl (lv_at hl 1 rfl) ?_
  have t_309 : At S_293 g1 29 := ⟨(hcp_295.2.1 g1 t_246.1).1, ((hcp_295.2.1 g1 t_246.1).2 (ne_of_new hcp_295.1 t_246.1)).1.trans t_246.2⟩
  have t_310 : At S_303 g1 29 := tAt_sR eS_303 t_309
  have t_311 : pR S_42 908 g1 = some q_15 := tR_sI eS_42 h_20
  have t_312 : pR S_51 908 g1 = some q_15 := tR_sI eS_51 t_311
  have t_313 : pR S_63 908 g1 = some q_15 := tR_sI eS_63 t_312
  have t_314 : pR S_83 908 g1 = some q_15 := (((hcp_85.2.1 g1 t_69.1).2 (ne_of_new hcp_85.1 t_69.1)).2.2.1 908).trans t_313
  have t_315 : pR S_93 908 g1 = some q_15 := tR_sR eS_93 rfl t_314
  have t_316 : pR S_123 908 g1 = some q_15 := (((hcp_125.2.1 g1 t_100.1).2 (ne_of_new hcp_125.1 t_100.1)).2.2.1 908).trans t_315
  have t_317 : pR S_133 908 g1 = some q_15 := tR_sR eS_133 rfl t_316
  have t_318 : pR S_173 908 g1 = some q_15 := (((hcp_175.2.1 g1 t_140.1).2 (ne_of_new hcp_175.1 t_140.1)).2.2.1 908).trans t_317
  have t_319 : pR S_183 908 g1 = some q_15 := tR_sR eS_183 rfl t_318
  have t_320 : pR S_229 908 g1 = some q_15 := (((hcp_231.2.1 g1 t_190.1).2 (ne_of_new hcp_231.1 t_190.1)).2.2.1 908).trans t_319
  have t_321 : pR S_239 908 g1 = some q_15 := tR_sR eS_239 rfl t_320
  have t_322 : pR S_293 908 g1 = some q_15 := (((hcp_295.2.1 g1 t_246.1).2 (ne_of_new hcp_295.1 t_246.1)).2.2.1 908).trans t_321
  have t_323 : pR S_303 908 g1 = some q_15 := tR_sR eS_303 rfl t_322
  refine r_getR (g := 908) X hw t_310 rfl 8 t_323 (by decide) rfl inn_X9_init__9 (by decide) (X.2.2.2.1 (.fieldLink RX9 27 "SilkMill$Strand" "places" "[I") (by decide +kernel)) rfl (gv_908 _ _) dX9_init__113 ?_
  refine lv_aload_n X.1 X.2.1 dX9_init__116 rfl (lv_at hl 0 rfl) ?_
  have t_324 : At S_303 x 189 := tAt_sR eS_303 t_302
  have t_325 : pI S_293 904 x = v_60 := (((hcp_295.2.1 x t_258.1).2 (ne_of_new hcp_295.1 t_258.1)).2.1 904).trans t_260
  have t_326 : pI S_303 904 x = v_60 := tI_sR eS_303 t_325
  refine r_getI (g := 904) (x := v_60) X hw t_324 rfl 4 t_326 (by decide) rfl inn_X9_init__9 (by decide) (X.2.2.2.1 (.fieldLink RX9 43 "SilkMill$Strand" "pieces" "I") (by decide +kernel)) rfl (gv_904 _ _) dX9_init__117 ?_
  have t_327 : At S_42 q_15 14 := tAt_sI eS_42 h_24
  have t_328 : At S_51 q_15 14 := tAt_sI eS_51 t_327
  have t_329 : At S_63 q_15 14 := tAt_sI eS_63 t_328
  have t_330 : At S_83 q_15 14 := ⟨(hcp_85.2.1 q_15 t_329.1).1, ((hcp_85.2.1 q_15 t_329.1).2 (ne_of_new hcp_85.1 t_329.1)).1.trans t_329.2⟩
  have t_331 : At S_93 q_15 14 := tAt_sR eS_93 t_330
  have t_332 : At S_123 q_15 14 := ⟨(hcp_125.2.1 q_15 t_331.1).1, ((hcp_125.2.1 q_15 t_331.1).2 (ne_of_new hcp_125.1 t_331.1)).1.trans t_331.2⟩
  have t_333 : At S_133 q_15 14 := tAt_sR eS_133 t_332
  have t_334 : At S_173 q_15 14 := ⟨(hcp_175.2.1 q_15 t_333.1).1, ((hcp_175.2.1 q_15 t_333.1).2 (ne_of_new hcp_175.1 t_333.1)).1.trans t_333.2⟩
  have t_335 : At S_183 q_15 14 := tAt_sR eS_183 t_334
  have t_336 : At S_229 q_15 14 := ⟨(hcp_231.2.1 q_15 t_335.1).1, ((hcp_231.2.1 q_15 t_335.1).2 (ne_of_new hcp_231.1 t_335.1)).1.trans t_335.2⟩
  have t_337 : At S_239 q_15 14 := tAt_sR eS_239 t_336
  have t_338 : At S_293 q_15 14 := ⟨(hcp_295.2.1 q_15 t_337.1).1, ((hcp_295.2.1 q_15 t_337.1).2 (ne_of_new hcp_295.1 t_337.1)).1.trans t_337.2⟩
  have t_339 : At S_303 q_15 14 := tAt_sR eS_303 t_338
  have t_340 : pN S_42 q_15 = n_16 := tN_sI eS_42 h_28
  clear h_28
  have t_341 : pN S_51 q_15 = n_16 := tN_sI eS_51 t_340
  clear t_340
  have t_342 : pN S_63 q_15 = n_16 := tN_sI eS_63 t_341
  clear t_341
  have t_344 : At S_42 q_15 14 := tAt_sI eS_42 h_24
  have t_345 : At S_51 q_15 14 := tAt_sI eS_51 t_344
  have t_346 : At S_63 q_15 14 := tAt_sI eS_63 t_345
  have t_343 : pN S_83 q_15 = n_16 := ((hcp_85.2.1 q_15 t_346.1).2 (ne_of_new hcp_85.1 t_346.1)).2.2.2.1.trans t_342
  clear t_342
  have t_347 : pN S_93 q_15 = n_16 := tN_sR eS_93 t_343
  clear t_343
  have t_349 : At S_83 q_15 14 := ⟨(hcp_85.2.1 q_15 t_346.1).1, ((hcp_85.2.1 q_15 t_346.1).2 (ne_of_new hcp_85.1 t_346.1)).1.trans t_346.2⟩
  have t_350 : At S_93 q_15 14 := tAt_sR eS_93 t_349
  have t_348 : pN S_123 q_15 = n_16 := ((hcp_125.2.1 q_15 t_350.1).2 (ne_of_new hcp_125.1 t_350.1)).2.2.2.1.trans t_347
  clear t_347
  have t_351 : pN S_133 q_15 = n_16 := tN_sR eS_133 t_348
  clear t_348
  have t_353 : At S_123 q_15 14 := ⟨(hcp_125.2.1 q_15 t_350.1).1, ((hcp_125.2.1 q_15 t_350.1).2 (ne_of_new hcp_125.1 t_350.1)).1.trans t_350.2⟩
  have t_354 : At S_133 q_15 14 := tAt_sR eS_133 t_353
  have t_352 : pN S_173 q_15 = n_16 := ((hcp_175.2.1 q_15 t_354.1).2 (ne_of_new hcp_175.1 t_354.1)).2.2.2.1.trans t_351
  clear t_351
  have t_355 : pN S_183 q_15 = n_16 := tN_sR eS_183 t_352
  clear t_352
  have t_357 : At S_173 q_15 14 := ⟨(hcp_175.2.1 q_15 t_354.1).1, ((hcp_175.2.1 q_15 t_354.1).2 (ne_of_new hcp_175.1 t_354.1)).1.trans t_354.2⟩
  have t_358 : At S_183 q_15 14 := tAt_sR eS_183 t_357
  have t_356 : pN S_229 q_15 = n_16 := ((hcp_231.2.1 q_15 t_358.1).2 (ne_of_new hcp_231.1 t_358.1)).2.2.2.1.trans t_355
  clear t_355
  have t_359 : pN S_239 q_15 = n_16 := tN_sR eS_239 t_356
  clear t_356
  have t_361 : At S_229 q_15 14 := ⟨(hcp_231.2.1 q_15 t_358.1).1, ((hcp_231.2.1 q_15 t_358.1).2 (ne_of_new hcp_231.1 t_358.1)).1.trans t_358.2⟩
  have t_362 : At S_239 q_15 14 := tAt_sR eS_239 t_361
  have t_360 : pN S_293 q_15 = n_16 := ((hcp_295.2.1 q_15 t_362.1).2 (ne_of_new hcp_295.1 t_362.1)).2.2.2.1.trans t_359
  clear t_359
  have t_363 : pN S_303 q_15 = n_16 := tN_sR eS_303 t_360
  clear t_360
  refine k_q (rm := { frames := 2, cells := 1, slots := 3600, locals := 96 }) (av := [.ref q_15, .int (v_60)]) X hw (va_runS (As := [.ref q_15, .int (v_60)]) (rest := [.ref x]) (cfix X) (k_J7_copyOf_59c91_G l G cy κ S_303 _ q_15 (v_60) (v_60.toInt) n_16 (v_60.toInt.toNat) 3600 hg_307.ci t_339 rfl t_363 (by omega) (by omega) (by omega) (by omega)) (va_cwS 2 X.2.2.2.1 gX9_init__J7_copyOf_59c91 rfl rfl rfl (by decide +kernel) ⟨Nat.le_of_ble_eq_true rfl, Nat.le_of_ble_eq_true rfl⟩) (pre_S X hw _) rfl rfl hl.1 rfl (lv_room (Nat.le_of_ble_eq_true rfl)) dX9_init__120 ⟨(by show 5 + 1 ≤ 6; omega), (by show 11400 + 3600 ≤ 15000; omega)⟩) 6 15000 (by show 5 + 1 ≤ 6; omega) (by show 11400 + 3600 ≤ 15000; omega) (fun rr_364 S_365 H locs hp hw hfr hnw => ?_)
  obtain ⟨q_366, er_368, hcp_367, hct_369⟩ := hp
  subst er_368
  refine W.eq (g2 := F0 m 123 ls (.ref q_366 :: .ref x :: [])) rfl ?_
  have hcp_367_a := hcp_367.2.2.1
  have hcp_367_n := hcp_367.2.2.2.1
  have ph_370 : Phc S_365 = Phc S + 0 := (show Phc S_365 = Phc S_303 from hcp_367.2.2.2.2.2.1).trans ph_304
  have ph_371 : Phs S_365 = Phs S + 0 := (show Phs S_365 = Phs S_303 from hcp_367.2.2.2.2.2.2.1).trans ph_305
  clear ph_304
  clear ph_305
  have hn0_q_366 := hK_306.new hcp_367.1
  have hK_372 : Kq S S_365 x := hK_306.sub hn0_q_366 hcp_367.2.1
  have hg_373 : GX S_365 := hcp_367.2.2.2.2.2.2.2.2 hg_307
  have t_374 : At S_365 x 189 := ⟨(hcp_367.2.1 x t_324.1).1, ((hcp_367.2.1 x t_324.1).2 (ne_of_new hcp_367.1 t_324.1)).1.trans t_324.2⟩
  refine r_putR X hw t_374 rfl 8 908 (some q_366) rfl tyX9 (by decide) rfl inn_X9_init__9 tyX9_ok nmX9 (by decide) (X.2.2.2.1 (.fieldLink RX9 27 "SilkMill$Strand" "places" "[I") (by decide +kernel)) rfl (Or.inl rfl) (fun _ => rfl) rfl (fun _ => rfl) rfl (Nat.le_of_ble_eq_true rfl) (st_908 _ _) dX9_init__123 (fun H locs hw => ?_)
  obtain ⟨S_375, eS_375⟩ : ∃ T, T = sR S_365 908 x (some q_366) := ⟨_, rfl⟩
  rw [← eS_375] at hw
  have ph_376 : Phc S_375 = Phc S + 0 := (show Phc S_375 = Phc S_365 from Ph_rawR t_374 (by decide) eS_375).trans ph_370
  have ph_377 : Phs S_375 = Phs S + 0 := (show Phs S_375 = Phs S_365 from Ph_rawR t_374 (by decide) eS_375).trans ph_371
  clear ph_370
  clear ph_371
  have hK_378 : Kq S S_375 x := hK_372.sR eS_375
  have hg_379 : GX S_375 := by rw [eS_375]; exact GX_rawR hg_373 t_374 (by decide +kernel)
  have h_380 : pR S_375 908 x = some q_366 := tR_sRs eS_375
  have t_381 : At S_375 x 189 := tAt_sR eS_375 t_374
  have nd_382 := nodup_of hw
  have t_383 : pI S_123 902 x = v_40 := (((hcp_125.2.1 x t_106.1).2 (ne_of_new hcp_125.1 t_106.1)).2.1 902).trans t_108
  have t_384 : pI S_133 902 x = v_40 := tI_sR eS_133 t_383
  have t_385 : pI S_173 902 x = v_40 := (((hcp_175.2.1 x t_148.1).2 (ne_of_new hcp_175.1 t_148.1)).2.1 902).trans t_384
  have t_386 : pI S_183 902 x = v_40 := tI_sR eS_183 t_385
  have t_387 : pI S_229 902 x = v_40 := (((hcp_231.2.1 x t_200.1).2 (ne_of_new hcp_231.1 t_200.1)).2.1 902).trans t_386
  have t_388 : pI S_239 902 x = v_40 := tI_sR eS_239 t_387
  have t_389 : pI S_293 902 x = v_40 := (((hcp_295.2.1 x t_258.1).2 (ne_of_new hcp_295.1 t_258.1)).2.1 902).trans t_388
  have t_390 : pI S_303 902 x = v_40 := tI_sR eS_303 t_389
  have t_391 : pI S_365 902 x = v_40 := (((hcp_367.2.1 x t_324.1).2 (ne_of_new hcp_367.1 t_324.1)).2.1 902).trans t_390
  have t_392 : pI S_375 902 x = v_40 := tI_sR eS_375 t_391
  have t_393 : pI S_365 904 x = v_60 := (((hcp_367.2.1 x t_324.1).2 (ne_of_new hcp_367.1 t_324.1)).2.1 904).trans t_326
  have t_394 : pI S_375 904 x = v_60 := tI_sR eS_375 t_393
  have t_395 : pR S_123 900 x = some q_84 := (((hcp_125.2.1 x t_106.1).2 (ne_of_new hcp_125.1 t_106.1)).2.2.1 900).trans h_98
  have t_396 : pR S_133 900 x = some q_84 := tR_sR eS_133 rfl t_395
  have t_397 : pR S_173 900 x = some q_84 := (((hcp_175.2.1 x t_148.1).2 (ne_of_new hcp_175.1 t_148.1)).2.2.1 900).trans t_396
  have t_398 : pR S_183 900 x = some q_84 := tR_sR eS_183 rfl t_397
  have t_399 : pR S_229 900 x = some q_84 := (((hcp_231.2.1 x t_200.1).2 (ne_of_new hcp_231.1 t_200.1)).2.2.1 900).trans t_398
  have t_400 : pR S_239 900 x = some q_84 := tR_sR eS_239 rfl t_399
  have t_401 : pR S_293 900 x = some q_84 := (((hcp_295.2.1 x t_258.1).2 (ne_of_new hcp_295.1 t_258.1)).2.2.1 900).trans t_400
  have t_402 : pR S_303 900 x = some q_84 := tR_sR eS_303 rfl t_401
  have t_403 : pR S_365 900 x = some q_84 := (((hcp_367.2.1 x t_324.1).2 (ne_of_new hcp_367.1 t_324.1)).2.2.1 900).trans t_402
  have t_404 : pR S_375 900 x = some q_84 := tR_sR eS_375 rfl t_403
  have t_405 : At S_93 q_84 1654 := tAt_sR eS_93 hcp_85_a
  have t_406 : At S_123 q_84 1654 := ⟨(hcp_125.2.1 q_84 t_405.1).1, ((hcp_125.2.1 q_84 t_405.1).2 (ne_of_new hcp_125.1 t_405.1)).1.trans t_405.2⟩
  have t_407 : At S_133 q_84 1654 := tAt_sR eS_133 t_406
  have t_408 : At S_173 q_84 1654 := ⟨(hcp_175.2.1 q_84 t_407.1).1, ((hcp_175.2.1 q_84 t_407.1).2 (ne_of_new hcp_175.1 t_407.1)).1.trans t_407.2⟩
  have t_409 : At S_183 q_84 1654 := tAt_sR eS_183 t_408
  have t_410 : At S_229 q_84 1654 := ⟨(hcp_231.2.1 q_84 t_409.1).1, ((hcp_231.2.1 q_84 t_409.1).2 (ne_of_new hcp_231.1 t_409.1)).1.trans t_409.2⟩
  have t_411 : At S_239 q_84 1654 := tAt_sR eS_239 t_410
  have t_412 : At S_293 q_84 1654 := ⟨(hcp_295.2.1 q_84 t_411.1).1, ((hcp_295.2.1 q_84 t_411.1).2 (ne_of_new hcp_295.1 t_411.1)).1.trans t_411.2⟩
  have t_413 : At S_303 q_84 1654 := tAt_sR eS_303 t_412
  have t_414 : At S_365 q_84 1654 := ⟨(hcp_367.2.1 q_84 t_413.1).1, ((hcp_367.2.1 q_84 t_413.1).2 (ne_of_new hcp_367.1 t_413.1)).1.trans t_413.2⟩
  have t_415 : At S_375 q_84 1654 := tAt_sR eS_375 t_414
  have t_416 : pN S_93 q_84 = (v_40.toInt.toNat) := tN_sR eS_93 hcp_85_n
  have t_418 : At S_93 q_84 1654 := tAt_sR eS_93 hcp_85_a
  have t_417 : pN S_123 q_84 = (v_40.toInt.toNat) := ((hcp_125.2.1 q_84 t_418.1).2 (ne_of_new hcp_125.1 t_418.1)).2.2.2.1.trans t_416
  clear t_416
  have t_419 : pN S_133 q_84 = (v_40.toInt.toNat) := tN_sR eS_133 t_417
  clear t_417
  have t_421 : At S_123 q_84 1654 := ⟨(hcp_125.2.1 q_84 t_418.1).1, ((hcp_125.2.1 q_84 t_418.1).2 (ne_of_new hcp_125.1 t_418.1)).1.trans t_418.2⟩
  have t_422 : At S_133 q_84 1654 := tAt_sR eS_133 t_421
  have t_420 : pN S_173 q_84 = (v_40.toInt.toNat) := ((hcp_175.2.1 q_84 t_422.1).2 (ne_of_new hcp_175.1 t_422.1)).2.2.2.1.trans t_419
  clear t_419
  have t_423 : pN S_183 q_84 = (v_40.toInt.toNat) := tN_sR eS_183 t_420
  clear t_420
  have t_425 : At S_173 q_84 1654 := ⟨(hcp_175.2.1 q_84 t_422.1).1, ((hcp_175.2.1 q_84 t_422.1).2 (ne_of_new hcp_175.1 t_422.1)).1.trans t_422.2⟩
  have t_426 : At S_183 q_84 1654 := tAt_sR eS_183 t_425
  have t_424 : pN S_229 q_84 = (v_40.toInt.toNat) := ((hcp_231.2.1 q_84 t_426.1).2 (ne_of_new hcp_231.1 t_426.1)).2.2.2.1.trans t_423
  clear t_423
  have t_427 : pN S_239 q_84 = (v_40.toInt.toNat) := tN_sR eS_239 t_424
  clear t_424
  have t_429 : At S_229 q_84 1654 := ⟨(hcp_231.2.1 q_84 t_426.1).1, ((hcp_231.2.1 q_84 t_426.1).2 (ne_of_new hcp_231.1 t_426.1)).1.trans t_426.2⟩
  have t_430 : At S_239 q_84 1654 := tAt_sR eS_239 t_429
  have t_428 : pN S_293 q_84 = (v_40.toInt.toNat) := ((hcp_295.2.1 q_84 t_430.1).2 (ne_of_new hcp_295.1 t_430.1)).2.2.2.1.trans t_427
  clear t_427
  have t_431 : pN S_303 q_84 = (v_40.toInt.toNat) := tN_sR eS_303 t_428
  clear t_428
  have t_433 : At S_293 q_84 1654 := ⟨(hcp_295.2.1 q_84 t_430.1).1, ((hcp_295.2.1 q_84 t_430.1).2 (ne_of_new hcp_295.1 t_430.1)).1.trans t_430.2⟩
  have t_434 : At S_303 q_84 1654 := tAt_sR eS_303 t_433
  have t_432 : pN S_365 q_84 = (v_40.toInt.toNat) := ((hcp_367.2.1 q_84 t_434.1).2 (ne_of_new hcp_367.1 t_434.1)).2.2.2.1.trans t_431
  clear t_431
  have t_435 : pN S_375 q_84 = (v_40.toInt.toNat) := tN_sR eS_375 t_432
  clear t_432
  have t_436 : pR S_173 901 x = some q_124 := (((hcp_175.2.1 x t_148.1).2 (ne_of_new hcp_175.1 t_148.1)).2.2.1 901).trans h_138
  have t_437 : pR S_183 901 x = some q_124 := tR_sR eS_183 rfl t_436
  have t_438 : pR S_229 901 x = some q_124 := (((hcp_231.2.1 x t_200.1).2 (ne_of_new hcp_231.1 t_200.1)).2.2.1 901).trans t_437
  have t_439 : pR S_239 901 x = some q_124 := tR_sR eS_239 rfl t_438
  have t_440 : pR S_293 901 x = some q_124 := (((hcp_295.2.1 x t_258.1).2 (ne_of_new hcp_295.1 t_258.1)).2.2.1 901).trans t_439
  have t_441 : pR S_303 901 x = some q_124 := tR_sR eS_303 rfl t_440
  have t_442 : pR S_365 901 x = some q_124 := (((hcp_367.2.1 x t_324.1).2 (ne_of_new hcp_367.1 t_324.1)).2.2.1 901).trans t_441
  have t_443 : pR S_375 901 x = some q_124 := tR_sR eS_375 rfl t_442
  have t_444 : At S_133 q_124 1654 := tAt_sR eS_133 hcp_125_a
  have t_445 : At S_173 q_124 1654 := ⟨(hcp_175.2.1 q_124 t_444.1).1, ((hcp_175.2.1 q_124 t_444.1).2 (ne_of_new hcp_175.1 t_444.1)).1.trans t_444.2⟩
  have t_446 : At S_183 q_124 1654 := tAt_sR eS_183 t_445
  have t_447 : At S_229 q_124 1654 := ⟨(hcp_231.2.1 q_124 t_446.1).1, ((hcp_231.2.1 q_124 t_446.1).2 (ne_of_new hcp_231.1 t_446.1)).1.trans t_446.2⟩
  have t_448 : At S_239 q_124 1654 := tAt_sR eS_239 t_447
  have t_449 : At S_293 q_124 1654 := ⟨(hcp_295.2.1 q_124 t_448.1).1, ((hcp_295.2.1 q_124 t_448.1).2 (ne_of_new hcp_295.1 t_448.1)).1.trans t_448.2⟩
  have t_450 : At S_303 q_124 1654 := tAt_sR eS_303 t_449
  have t_451 : At S_365 q_124 1654 := ⟨(hcp_367.2.1 q_124 t_450.1).1, ((hcp_367.2.1 q_124 t_450.1).2 (ne_of_new hcp_367.1 t_450.1)).1.trans t_450.2⟩
  have t_452 : At S_375 q_124 1654 := tAt_sR eS_375 t_451
  have t_453 : pN S_133 q_124 = (v_40.toInt.toNat) := tN_sR eS_133 hcp_125_n
  have t_455 : At S_133 q_124 1654 := tAt_sR eS_133 hcp_125_a
  have t_454 : pN S_173 q_124 = (v_40.toInt.toNat) := ((hcp_175.2.1 q_124 t_455.1).2 (ne_of_new hcp_175.1 t_455.1)).2.2.2.1.trans t_453
  clear t_453
  have t_456 : pN S_183 q_124 = (v_40.toInt.toNat) := tN_sR eS_183 t_454
  clear t_454
  have t_458 : At S_173 q_124 1654 := ⟨(hcp_175.2.1 q_124 t_455.1).1, ((hcp_175.2.1 q_124 t_455.1).2 (ne_of_new hcp_175.1 t_455.1)).1.trans t_455.2⟩
  have t_459 : At S_183 q_124 1654 := tAt_sR eS_183 t_458
  have t_457 : pN S_229 q_124 = (v_40.toInt.toNat) := ((hcp_231.2.1 q_124 t_459.1).2 (ne_of_new hcp_231.1 t_459.1)).2.2.2.1.trans t_456
  clear t_456
  have t_460 : pN S_239 q_124 = (v_40.toInt.toNat) := tN_sR eS_239 t_457
  clear t_457
  have t_462 : At S_229 q_124 1654 := ⟨(hcp_231.2.1 q_124 t_459.1).1, ((hcp_231.2.1 q_124 t_459.1).2 (ne_of_new hcp_231.1 t_459.1)).1.trans t_459.2⟩
  have t_463 : At S_239 q_124 1654 := tAt_sR eS_239 t_462
  have t_461 : pN S_293 q_124 = (v_40.toInt.toNat) := ((hcp_295.2.1 q_124 t_463.1).2 (ne_of_new hcp_295.1 t_463.1)).2.2.2.1.trans t_460
  clear t_460
  have t_464 : pN S_303 q_124 = (v_40.toInt.toNat) := tN_sR eS_303 t_461
  clear t_461
  have t_466 : At S_293 q_124 1654 := ⟨(hcp_295.2.1 q_124 t_463.1).1, ((hcp_295.2.1 q_124 t_463.1).2 (ne_of_new hcp_295.1 t_463.1)).1.trans t_463.2⟩
  have t_467 : At S_303 q_124 1654 := tAt_sR eS_303 t_466
  have t_465 : pN S_365 q_124 = (v_40.toInt.toNat) := ((hcp_367.2.1 q_124 t_467.1).2 (ne_of_new hcp_367.1 t_467.1)).2.2.2.1.trans t_464
  clear t_464
  have t_468 : pN S_375 q_124 = (v_40.toInt.toNat) := tN_sR eS_375 t_465
  clear t_465
  have t_469 : pR S_229 905 x = some q_174 := (((hcp_231.2.1 x t_200.1).2 (ne_of_new hcp_231.1 t_200.1)).2.2.1 905).trans h_188
  have t_470 : pR S_239 905 x = some q_174 := tR_sR eS_239 rfl t_469
  have t_471 : pR S_293 905 x = some q_174 := (((hcp_295.2.1 x t_258.1).2 (ne_of_new hcp_295.1 t_258.1)).2.2.1 905).trans t_470
  have t_472 : pR S_303 905 x = some q_174 := tR_sR eS_303 rfl t_471
  have t_473 : pR S_365 905 x = some q_174 := (((hcp_367.2.1 x t_324.1).2 (ne_of_new hcp_367.1 t_324.1)).2.2.1 905).trans t_472
  have t_474 : pR S_375 905 x = some q_174 := tR_sR eS_375 rfl t_473
  have t_475 : At S_183 q_174 1654 := tAt_sR eS_183 hcp_175_a
  have t_476 : At S_229 q_174 1654 := ⟨(hcp_231.2.1 q_174 t_475.1).1, ((hcp_231.2.1 q_174 t_475.1).2 (ne_of_new hcp_231.1 t_475.1)).1.trans t_475.2⟩
  have t_477 : At S_239 q_174 1654 := tAt_sR eS_239 t_476
  have t_478 : At S_293 q_174 1654 := ⟨(hcp_295.2.1 q_174 t_477.1).1, ((hcp_295.2.1 q_174 t_477.1).2 (ne_of_new hcp_295.1 t_477.1)).1.trans t_477.2⟩
  have t_479 : At S_303 q_174 1654 := tAt_sR eS_303 t_478
  have t_480 : At S_365 q_174 1654 := ⟨(hcp_367.2.1 q_174 t_479.1).1, ((hcp_367.2.1 q_174 t_479.1).2 (ne_of_new hcp_367.1 t_479.1)).1.trans t_479.2⟩
  have t_481 : At S_375 q_174 1654 := tAt_sR eS_375 t_480
  have t_482 : pN S_183 q_174 = (v_60.toInt.toNat) := tN_sR eS_183 hcp_175_n
  have t_484 : At S_183 q_174 1654 := tAt_sR eS_183 hcp_175_a
  have t_483 : pN S_229 q_174 = (v_60.toInt.toNat) := ((hcp_231.2.1 q_174 t_484.1).2 (ne_of_new hcp_231.1 t_484.1)).2.2.2.1.trans t_482
  clear t_482
  have t_485 : pN S_239 q_174 = (v_60.toInt.toNat) := tN_sR eS_239 t_483
  clear t_483
  have t_487 : At S_229 q_174 1654 := ⟨(hcp_231.2.1 q_174 t_484.1).1, ((hcp_231.2.1 q_174 t_484.1).2 (ne_of_new hcp_231.1 t_484.1)).1.trans t_484.2⟩
  have t_488 : At S_239 q_174 1654 := tAt_sR eS_239 t_487
  have t_486 : pN S_293 q_174 = (v_60.toInt.toNat) := ((hcp_295.2.1 q_174 t_488.1).2 (ne_of_new hcp_295.1 t_488.1)).2.2.2.1.trans t_485
  clear t_485
  have t_489 : pN S_303 q_174 = (v_60.toInt.toNat) := tN_sR eS_303 t_486
  clear t_486
  have t_491 : At S_293 q_174 1654 := ⟨(hcp_295.2.1 q_174 t_488.1).1, ((hcp_295.2.1 q_174 t_488.1).2 (ne_of_new hcp_295.1 t_488.1)).1.trans t_488.2⟩
  have t_492 : At S_303 q_174 1654 := tAt_sR eS_303 t_491
  have t_490 : pN S_365 q_174 = (v_60.toInt.toNat) := ((hcp_367.2.1 q_174 t_492.1).2 (ne_of_new hcp_367.1 t_492.1)).2.2.2.1.trans t_489
  clear t_489
  have t_493 : pN S_375 q_174 = (v_60.toInt.toNat) := tN_sR eS_375 t_490
  clear t_490
  have t_494 : pR S_293 906 x = some q_230 := (((hcp_295.2.1 x t_258.1).2 (ne_of_new hcp_295.1 t_258.1)).2.2.1 906).trans h_244
  have t_495 : pR S_303 906 x = some q_230 := tR_sR eS_303 rfl t_494
  have t_496 : pR S_365 906 x = some q_230 := (((hcp_367.2.1 x t_324.1).2 (ne_of_new hcp_367.1 t_324.1)).2.2.1 906).trans t_495
  have t_497 : pR S_375 906 x = some q_230 := tR_sR eS_375 rfl t_496
  have t_498 : At S_239 q_230 1654 := tAt_sR eS_239 hcp_231_a
  have t_499 : At S_293 q_230 1654 := ⟨(hcp_295.2.1 q_230 t_498.1).1, ((hcp_295.2.1 q_230 t_498.1).2 (ne_of_new hcp_295.1 t_498.1)).1.trans t_498.2⟩
  have t_500 : At S_303 q_230 1654 := tAt_sR eS_303 t_499
  have t_501 : At S_365 q_230 1654 := ⟨(hcp_367.2.1 q_230 t_500.1).1, ((hcp_367.2.1 q_230 t_500.1).2 (ne_of_new hcp_367.1 t_500.1)).1.trans t_500.2⟩
  have t_502 : At S_375 q_230 1654 := tAt_sR eS_375 t_501
  have t_503 : pN S_239 q_230 = (v_60.toInt.toNat) := tN_sR eS_239 hcp_231_n
  have t_505 : At S_239 q_230 1654 := tAt_sR eS_239 hcp_231_a
  have t_504 : pN S_293 q_230 = (v_60.toInt.toNat) := ((hcp_295.2.1 q_230 t_505.1).2 (ne_of_new hcp_295.1 t_505.1)).2.2.2.1.trans t_503
  clear t_503
  have t_506 : pN S_303 q_230 = (v_60.toInt.toNat) := tN_sR eS_303 t_504
  clear t_504
  have t_508 : At S_293 q_230 1654 := ⟨(hcp_295.2.1 q_230 t_505.1).1, ((hcp_295.2.1 q_230 t_505.1).2 (ne_of_new hcp_295.1 t_505.1)).1.trans t_505.2⟩
  have t_509 : At S_303 q_230 1654 := tAt_sR eS_303 t_508
  have t_507 : pN S_365 q_230 = (v_60.toInt.toNat) := ((hcp_367.2.1 q_230 t_509.1).2 (ne_of_new hcp_367.1 t_509.1)).2.2.2.1.trans t_506
  clear t_506
  have t_510 : pN S_375 q_230 = (v_60.toInt.toNat) := tN_sR eS_375 t_507
  clear t_507
  have t_511 : pR S_365 907 x = some q_294 := (((hcp_367.2.1 x t_324.1).2 (ne_of_new hcp_367.1 t_324.1)).2.2.1 907).trans h_308
  have t_512 : pR S_375 907 x = some q_294 := tR_sR eS_375 rfl t_511
  have t_513 : At S_303 q_294 1654 := tAt_sR eS_303 hcp_295_a
  have t_514 : At S_365 q_294 1654 := ⟨(hcp_367.2.1 q_294 t_513.1).1, ((hcp_367.2.1 q_294 t_513.1).2 (ne_of_new hcp_367.1 t_513.1)).1.trans t_513.2⟩
  have t_515 : At S_375 q_294 1654 := tAt_sR eS_375 t_514
  have t_516 : pN S_303 q_294 = (v_60.toInt.toNat) := tN_sR eS_303 hcp_295_n
  have t_518 : At S_303 q_294 1654 := tAt_sR eS_303 hcp_295_a
  have t_517 : pN S_365 q_294 = (v_60.toInt.toNat) := ((hcp_367.2.1 q_294 t_518.1).2 (ne_of_new hcp_367.1 t_518.1)).2.2.2.1.trans t_516
  clear t_516
  have t_519 : pN S_375 q_294 = (v_60.toInt.toNat) := tN_sR eS_375 t_517
  clear t_517
  have t_520 : At S_375 q_366 1654 := tAt_sR eS_375 hcp_367_a
  have t_521 : pN S_375 q_366 = (v_60.toInt.toNat) := tN_sR eS_375 hcp_367_n
  obtain ⟨S_522, eS_522⟩ : ∃ T, T = sK S_375 x 9 := ⟨_, rfl⟩
  have hw := Wd_sK (k := 9) hw t_381 rfl; rw [← eS_522] at hw
  have hg9 : GX S_522 := by rw [eS_522]; exact GX_sK hg_379 t_381 (by decide +kernel) (mk_9 (by rw [pI_sK, t_392]; exact ⟨by omega, by omega⟩) (by rw [pI_sK, t_394]; exact ⟨by omega, by omega⟩) ⟨q_84, (by rw [pR_sK]; exact t_404), At_sK t_381 t_415 (by decide), by rw [pI_sK, pN_sK, t_392, t_435]; omega, by rw [pN_sK, t_435]; omega⟩ ⟨q_124, (by rw [pR_sK]; exact t_443), At_sK t_381 t_452 (by decide), by rw [pI_sK, pN_sK, t_392, t_468]; omega, by rw [pN_sK, t_468]; omega⟩ ⟨q_174, (by rw [pR_sK]; exact t_474), At_sK t_381 t_481 (by decide), by rw [pI_sK, pN_sK, t_394, t_493]; omega, by rw [pN_sK, t_493]; omega⟩ ⟨q_230, (by rw [pR_sK]; exact t_497), At_sK t_381 t_502 (by decide), by rw [pI_sK, pN_sK, t_394, t_510]; omega, by rw [pN_sK, t_510]; omega⟩ ⟨q_294, (by rw [pR_sK]; exact t_512), At_sK t_381 t_515 (by decide), by rw [pI_sK, pN_sK, t_394, t_519]; omega, by rw [pN_sK, t_519]; omega⟩ ⟨q_366, (by rw [pR_sK]; exact h_380), At_sK t_381 t_520 (by decide), by rw [pI_sK, pN_sK, t_394, t_521]; omega, by rw [pN_sK, t_521]; omega⟩)
  have ha9 : At S_522 x 9 := by rw [eS_522]; exact At_nK t_381
  have hk9 : Kq S S_522 x := hK_378.sK eS_522
  have hPhc9 : Phc S_522 = Phc S + 0 := by rw [show Phc S_522 = Ph fC 8 14400 S_522 from rfl, Ph_sK nd_382 t_381 (by decide) eS_522, ph_0 ha9 (by decide)]; show Phc S_375 + _ = _; omega
  have hPhs9 : Phs S_522 = Phs S + 0 := by rw [show Phs S_522 = Ph fS 15100 46000 S_522 from rfl, Ph_sK nd_382 t_381 (by decide) eS_522, ph_0 ha9 (by decide)]; show Phs S_375 + _ = _; omega
  have t_523 : pR S_83 900 g1 = some q_32 := (((hcp_85.2.1 g1 t_69.1).2 (ne_of_new hcp_85.1 t_69.1)).2.2.1 900).trans t_72
  have t_525 : At S_83 g1 29 := ⟨(hcp_85.2.1 g1 t_69.1).1, ((hcp_85.2.1 g1 t_69.1).2 (ne_of_new hcp_85.1 t_69.1)).1.trans t_69.2⟩
  have t_524 : pR S_93 900 g1 = some q_32 := by rw [eS_93]; exact (pR_sR_ne (At_ne t_525 t_92 (by decide))).trans t_523
  have t_526 : pR S_123 900 g1 = some q_32 := (((hcp_125.2.1 g1 t_100.1).2 (ne_of_new hcp_125.1 t_100.1)).2.2.1 900).trans t_524
  have t_527 : pR S_133 900 g1 = some q_32 := tR_sR eS_133 rfl t_526
  have t_528 : pR S_173 900 g1 = some q_32 := (((hcp_175.2.1 g1 t_140.1).2 (ne_of_new hcp_175.1 t_140.1)).2.2.1 900).trans t_527
  have t_529 : pR S_183 900 g1 = some q_32 := tR_sR eS_183 rfl t_528
  have t_530 : pR S_229 900 g1 = some q_32 := (((hcp_231.2.1 g1 t_190.1).2 (ne_of_new hcp_231.1 t_190.1)).2.2.1 900).trans t_529
  have t_531 : pR S_239 900 g1 = some q_32 := tR_sR eS_239 rfl t_530
  have t_532 : pR S_293 900 g1 = some q_32 := (((hcp_295.2.1 g1 t_246.1).2 (ne_of_new hcp_295.1 t_246.1)).2.2.1 900).trans t_531
  have t_533 : pR S_303 900 g1 = some q_32 := tR_sR eS_303 rfl t_532
  have t_534 : pR S_365 900 g1 = some q_32 := (((hcp_367.2.1 g1 t_310.1).2 (ne_of_new hcp_367.1 t_310.1)).2.2.1 900).trans t_533
  have t_535 : pR S_375 900 g1 = some q_32 := tR_sR eS_375 rfl t_534
  have bb_536 : pA S_93 q_84 = pA S_83 q_84 := by rw [eS_93]; rfl
  have bb_537 : pA S_123 q_84 = pA S_83 q_84 := (show pA S_123 q_84 = pA S_93 q_84 from ((hcp_125.2.1 q_84 t_418.1).2 (ne_of_new hcp_125.1 t_418.1)).2.2.2.2.1).trans bb_536
  have bb_538 : pA S_133 q_84 = pA S_83 q_84 := (show pA S_133 q_84 = pA S_123 q_84 from by rw [eS_133]; rfl).trans bb_537
  have bb_539 : pA S_173 q_84 = pA S_83 q_84 := (show pA S_173 q_84 = pA S_133 q_84 from ((hcp_175.2.1 q_84 t_422.1).2 (ne_of_new hcp_175.1 t_422.1)).2.2.2.2.1).trans bb_538
  have bb_540 : pA S_183 q_84 = pA S_83 q_84 := (show pA S_183 q_84 = pA S_173 q_84 from by rw [eS_183]; rfl).trans bb_539
  have bb_541 : pA S_229 q_84 = pA S_83 q_84 := (show pA S_229 q_84 = pA S_183 q_84 from ((hcp_231.2.1 q_84 t_426.1).2 (ne_of_new hcp_231.1 t_426.1)).2.2.2.2.1).trans bb_540
  have bb_542 : pA S_239 q_84 = pA S_83 q_84 := (show pA S_239 q_84 = pA S_229 q_84 from by rw [eS_239]; rfl).trans bb_541
  have bb_543 : pA S_293 q_84 = pA S_83 q_84 := (show pA S_293 q_84 = pA S_239 q_84 from ((hcp_295.2.1 q_84 t_430.1).2 (ne_of_new hcp_295.1 t_430.1)).2.2.2.2.1).trans bb_542
  have bb_544 : pA S_303 q_84 = pA S_83 q_84 := (show pA S_303 q_84 = pA S_293 q_84 from by rw [eS_303]; rfl).trans bb_543
  have bb_545 : pA S_365 q_84 = pA S_83 q_84 := (show pA S_365 q_84 = pA S_303 q_84 from ((hcp_367.2.1 q_84 t_434.1).2 (ne_of_new hcp_367.1 t_434.1)).2.2.2.2.1).trans bb_544
  have bb_546 : pA S_375 q_84 = pA S_83 q_84 := (show pA S_375 q_84 = pA S_365 q_84 from by rw [eS_375]; rfl).trans bb_545
  have bb_547 : pA S_42 q_32 = pA S q_32 := by rw [eS_42]; rfl
  have bb_548 : pA S_51 q_32 = pA S q_32 := (show pA S_51 q_32 = pA S_42 q_32 from by rw [eS_51]; rfl).trans bb_547
  have bb_549 : pA S_63 q_32 = pA S q_32 := (show pA S_63 q_32 = pA S_51 q_32 from by rw [eS_63]; rfl).trans bb_548
  have bb_550 : pA S_42 q_32 = pA S q_32 := by rw [eS_42]; rfl
  have bb_551 : pA S_51 q_32 = pA S q_32 := (show pA S_51 q_32 = pA S_42 q_32 from by rw [eS_51]; rfl).trans bb_550
  have bb_552 : pA S_63 q_32 = pA S q_32 := (show pA S_63 q_32 = pA S_51 q_32 from by rw [eS_63]; rfl).trans bb_551
  have bb_553 : pA S_83 q_32 = pA S q_32 := (show pA S_83 q_32 = pA S_63 q_32 from ((hcp_85.2.1 q_32 t_78.1).2 (ne_of_new hcp_85.1 t_78.1)).2.2.2.2.1).trans bb_552
  have bb_554 : pA S_93 q_32 = pA S q_32 := (show pA S_93 q_32 = pA S_83 q_32 from by rw [eS_93]; rfl).trans bb_553
  have t_556 : At S_83 q_32 1614 := ⟨(hcp_85.2.1 q_32 t_78.1).1, ((hcp_85.2.1 q_32 t_78.1).2 (ne_of_new hcp_85.1 t_78.1)).1.trans t_78.2⟩
  have t_557 : At S_93 q_32 1614 := tAt_sR eS_93 t_556
  have bb_555 : pA S_123 q_32 = pA S q_32 := (show pA S_123 q_32 = pA S_93 q_32 from ((hcp_125.2.1 q_32 t_557.1).2 (ne_of_new hcp_125.1 t_557.1)).2.2.2.2.1).trans bb_554
  have bb_558 : pA S_133 q_32 = pA S q_32 := (show pA S_133 q_32 = pA S_123 q_32 from by rw [eS_133]; rfl).trans bb_555
  have t_560 : At S_123 q_32 1614 := ⟨(hcp_125.2.1 q_32 t_557.1).1, ((hcp_125.2.1 q_32 t_557.1).2 (ne_of_new hcp_125.1 t_557.1)).1.trans t_557.2⟩
  have t_561 : At S_133 q_32 1614 := tAt_sR eS_133 t_560
  have bb_559 : pA S_173 q_32 = pA S q_32 := (show pA S_173 q_32 = pA S_133 q_32 from ((hcp_175.2.1 q_32 t_561.1).2 (ne_of_new hcp_175.1 t_561.1)).2.2.2.2.1).trans bb_558
  have bb_562 : pA S_183 q_32 = pA S q_32 := (show pA S_183 q_32 = pA S_173 q_32 from by rw [eS_183]; rfl).trans bb_559
  have t_564 : At S_173 q_32 1614 := ⟨(hcp_175.2.1 q_32 t_561.1).1, ((hcp_175.2.1 q_32 t_561.1).2 (ne_of_new hcp_175.1 t_561.1)).1.trans t_561.2⟩
  have t_565 : At S_183 q_32 1614 := tAt_sR eS_183 t_564
  have bb_563 : pA S_229 q_32 = pA S q_32 := (show pA S_229 q_32 = pA S_183 q_32 from ((hcp_231.2.1 q_32 t_565.1).2 (ne_of_new hcp_231.1 t_565.1)).2.2.2.2.1).trans bb_562
  have bb_566 : pA S_239 q_32 = pA S q_32 := (show pA S_239 q_32 = pA S_229 q_32 from by rw [eS_239]; rfl).trans bb_563
  have t_568 : At S_229 q_32 1614 := ⟨(hcp_231.2.1 q_32 t_565.1).1, ((hcp_231.2.1 q_32 t_565.1).2 (ne_of_new hcp_231.1 t_565.1)).1.trans t_565.2⟩
  have t_569 : At S_239 q_32 1614 := tAt_sR eS_239 t_568
  have bb_567 : pA S_293 q_32 = pA S q_32 := (show pA S_293 q_32 = pA S_239 q_32 from ((hcp_295.2.1 q_32 t_569.1).2 (ne_of_new hcp_295.1 t_569.1)).2.2.2.2.1).trans bb_566
  have bb_570 : pA S_303 q_32 = pA S q_32 := (show pA S_303 q_32 = pA S_293 q_32 from by rw [eS_303]; rfl).trans bb_567
  have t_572 : At S_293 q_32 1614 := ⟨(hcp_295.2.1 q_32 t_569.1).1, ((hcp_295.2.1 q_32 t_569.1).2 (ne_of_new hcp_295.1 t_569.1)).1.trans t_569.2⟩
  have t_573 : At S_303 q_32 1614 := tAt_sR eS_303 t_572
  have bb_571 : pA S_365 q_32 = pA S q_32 := (show pA S_365 q_32 = pA S_303 q_32 from ((hcp_367.2.1 q_32 t_573.1).2 (ne_of_new hcp_367.1 t_573.1)).2.2.2.2.1).trans bb_570
  have bb_574 : pA S_375 q_32 = pA S q_32 := (show pA S_375 q_32 = pA S_365 q_32 from by rw [eS_375]; rfl).trans bb_571
  have t_575 : pR S_123 901 g1 = some q_36 := (((hcp_125.2.1 g1 t_100.1).2 (ne_of_new hcp_125.1 t_100.1)).2.2.1 901).trans t_105
  have t_577 : At S_123 g1 29 := ⟨(hcp_125.2.1 g1 t_100.1).1, ((hcp_125.2.1 g1 t_100.1).2 (ne_of_new hcp_125.1 t_100.1)).1.trans t_100.2⟩
  have t_576 : pR S_133 901 g1 = some q_36 := by rw [eS_133]; exact (pR_sR_ne (At_ne t_577 t_132 (by decide))).trans t_575
  have t_578 : pR S_173 901 g1 = some q_36 := (((hcp_175.2.1 g1 t_140.1).2 (ne_of_new hcp_175.1 t_140.1)).2.2.1 901).trans t_576
  have t_579 : pR S_183 901 g1 = some q_36 := tR_sR eS_183 rfl t_578
  have t_580 : pR S_229 901 g1 = some q_36 := (((hcp_231.2.1 g1 t_190.1).2 (ne_of_new hcp_231.1 t_190.1)).2.2.1 901).trans t_579
  have t_581 : pR S_239 901 g1 = some q_36 := tR_sR eS_239 rfl t_580
  have t_582 : pR S_293 901 g1 = some q_36 := (((hcp_295.2.1 g1 t_246.1).2 (ne_of_new hcp_295.1 t_246.1)).2.2.1 901).trans t_581
  have t_583 : pR S_303 901 g1 = some q_36 := tR_sR eS_303 rfl t_582
  have t_584 : pR S_365 901 g1 = some q_36 := (((hcp_367.2.1 g1 t_310.1).2 (ne_of_new hcp_367.1 t_310.1)).2.2.1 901).trans t_583
  have t_585 : pR S_375 901 g1 = some q_36 := tR_sR eS_375 rfl t_584
  have bb_586 : pA S_133 q_124 = pA S_123 q_124 := by rw [eS_133]; rfl
  have bb_587 : pA S_173 q_124 = pA S_123 q_124 := (show pA S_173 q_124 = pA S_133 q_124 from ((hcp_175.2.1 q_124 t_455.1).2 (ne_of_new hcp_175.1 t_455.1)).2.2.2.2.1).trans bb_586
  have bb_588 : pA S_183 q_124 = pA S_123 q_124 := (show pA S_183 q_124 = pA S_173 q_124 from by rw [eS_183]; rfl).trans bb_587
  have bb_589 : pA S_229 q_124 = pA S_123 q_124 := (show pA S_229 q_124 = pA S_183 q_124 from ((hcp_231.2.1 q_124 t_459.1).2 (ne_of_new hcp_231.1 t_459.1)).2.2.2.2.1).trans bb_588
  have bb_590 : pA S_239 q_124 = pA S_123 q_124 := (show pA S_239 q_124 = pA S_229 q_124 from by rw [eS_239]; rfl).trans bb_589
  have bb_591 : pA S_293 q_124 = pA S_123 q_124 := (show pA S_293 q_124 = pA S_239 q_124 from ((hcp_295.2.1 q_124 t_463.1).2 (ne_of_new hcp_295.1 t_463.1)).2.2.2.2.1).trans bb_590
  have bb_592 : pA S_303 q_124 = pA S_123 q_124 := (show pA S_303 q_124 = pA S_293 q_124 from by rw [eS_303]; rfl).trans bb_591
  have bb_593 : pA S_365 q_124 = pA S_123 q_124 := (show pA S_365 q_124 = pA S_303 q_124 from ((hcp_367.2.1 q_124 t_467.1).2 (ne_of_new hcp_367.1 t_467.1)).2.2.2.2.1).trans bb_592
  have bb_594 : pA S_375 q_124 = pA S_123 q_124 := (show pA S_375 q_124 = pA S_365 q_124 from by rw [eS_375]; rfl).trans bb_593
  have bb_595 : pA S_42 q_36 = pA S q_36 := by rw [eS_42]; rfl
  have bb_596 : pA S_51 q_36 = pA S q_36 := (show pA S_51 q_36 = pA S_42 q_36 from by rw [eS_51]; rfl).trans bb_595
  have bb_597 : pA S_63 q_36 = pA S q_36 := (show pA S_63 q_36 = pA S_51 q_36 from by rw [eS_63]; rfl).trans bb_596
  have bb_598 : pA S_83 q_36 = pA S q_36 := (show pA S_83 q_36 = pA S_63 q_36 from ((hcp_85.2.1 q_36 t_120.1).2 (ne_of_new hcp_85.1 t_120.1)).2.2.2.2.1).trans bb_597
  have bb_599 : pA S_93 q_36 = pA S q_36 := (show pA S_93 q_36 = pA S_83 q_36 from by rw [eS_93]; rfl).trans bb_598
  have bb_600 : pA S_42 q_36 = pA S q_36 := by rw [eS_42]; rfl
  have bb_601 : pA S_51 q_36 = pA S q_36 := (show pA S_51 q_36 = pA S_42 q_36 from by rw [eS_51]; rfl).trans bb_600
  have bb_602 : pA S_63 q_36 = pA S q_36 := (show pA S_63 q_36 = pA S_51 q_36 from by rw [eS_63]; rfl).trans bb_601
  have bb_603 : pA S_83 q_36 = pA S q_36 := (show pA S_83 q_36 = pA S_63 q_36 from ((hcp_85.2.1 q_36 t_120.1).2 (ne_of_new hcp_85.1 t_120.1)).2.2.2.2.1).trans bb_602
  have bb_604 : pA S_93 q_36 = pA S q_36 := (show pA S_93 q_36 = pA S_83 q_36 from by rw [eS_93]; rfl).trans bb_603
  have bb_605 : pA S_123 q_36 = pA S q_36 := (show pA S_123 q_36 = pA S_93 q_36 from ((hcp_125.2.1 q_36 t_113.1).2 (ne_of_new hcp_125.1 t_113.1)).2.2.2.2.1).trans bb_604
  have bb_606 : pA S_133 q_36 = pA S q_36 := (show pA S_133 q_36 = pA S_123 q_36 from by rw [eS_133]; rfl).trans bb_605
  have t_608 : At S_123 q_36 1634 := ⟨(hcp_125.2.1 q_36 t_113.1).1, ((hcp_125.2.1 q_36 t_113.1).2 (ne_of_new hcp_125.1 t_113.1)).1.trans t_113.2⟩
  have t_609 : At S_133 q_36 1634 := tAt_sR eS_133 t_608
  have bb_607 : pA S_173 q_36 = pA S q_36 := (show pA S_173 q_36 = pA S_133 q_36 from ((hcp_175.2.1 q_36 t_609.1).2 (ne_of_new hcp_175.1 t_609.1)).2.2.2.2.1).trans bb_606
  have bb_610 : pA S_183 q_36 = pA S q_36 := (show pA S_183 q_36 = pA S_173 q_36 from by rw [eS_183]; rfl).trans bb_607
  have t_612 : At S_173 q_36 1634 := ⟨(hcp_175.2.1 q_36 t_609.1).1, ((hcp_175.2.1 q_36 t_609.1).2 (ne_of_new hcp_175.1 t_609.1)).1.trans t_609.2⟩
  have t_613 : At S_183 q_36 1634 := tAt_sR eS_183 t_612
  have bb_611 : pA S_229 q_36 = pA S q_36 := (show pA S_229 q_36 = pA S_183 q_36 from ((hcp_231.2.1 q_36 t_613.1).2 (ne_of_new hcp_231.1 t_613.1)).2.2.2.2.1).trans bb_610
  have bb_614 : pA S_239 q_36 = pA S q_36 := (show pA S_239 q_36 = pA S_229 q_36 from by rw [eS_239]; rfl).trans bb_611
  have t_616 : At S_229 q_36 1634 := ⟨(hcp_231.2.1 q_36 t_613.1).1, ((hcp_231.2.1 q_36 t_613.1).2 (ne_of_new hcp_231.1 t_613.1)).1.trans t_613.2⟩
  have t_617 : At S_239 q_36 1634 := tAt_sR eS_239 t_616
  have bb_615 : pA S_293 q_36 = pA S q_36 := (show pA S_293 q_36 = pA S_239 q_36 from ((hcp_295.2.1 q_36 t_617.1).2 (ne_of_new hcp_295.1 t_617.1)).2.2.2.2.1).trans bb_614
  have bb_618 : pA S_303 q_36 = pA S q_36 := (show pA S_303 q_36 = pA S_293 q_36 from by rw [eS_303]; rfl).trans bb_615
  have t_620 : At S_293 q_36 1634 := ⟨(hcp_295.2.1 q_36 t_617.1).1, ((hcp_295.2.1 q_36 t_617.1).2 (ne_of_new hcp_295.1 t_617.1)).1.trans t_617.2⟩
  have t_621 : At S_303 q_36 1634 := tAt_sR eS_303 t_620
  have bb_619 : pA S_365 q_36 = pA S q_36 := (show pA S_365 q_36 = pA S_303 q_36 from ((hcp_367.2.1 q_36 t_621.1).2 (ne_of_new hcp_367.1 t_621.1)).2.2.2.2.1).trans bb_618
  have bb_622 : pA S_375 q_36 = pA S q_36 := (show pA S_375 q_36 = pA S_365 q_36 from by rw [eS_375]; rfl).trans bb_619
  have t_623 : pI S_42 902 g1 = v_1 := by rw [eS_42]; exact (pI_sI_ne (At_ne ha_g1 ha_x (by decide))).trans ev_1
  have t_624 : pI S_51 902 g1 = v_1 := tI_sI eS_51 rfl t_623
  have t_625 : pI S_63 902 g1 = v_1 := tI_sI eS_63 rfl t_624
  have t_626 : pI S_83 902 g1 = v_1 := (((hcp_85.2.1 g1 t_69.1).2 (ne_of_new hcp_85.1 t_69.1)).2.1 902).trans t_625
  have t_627 : pI S_93 902 g1 = v_1 := tI_sR eS_93 t_626
  have t_628 : pI S_123 902 g1 = v_1 := (((hcp_125.2.1 g1 t_100.1).2 (ne_of_new hcp_125.1 t_100.1)).2.1 902).trans t_627
  have t_629 : pI S_133 902 g1 = v_1 := tI_sR eS_133 t_628
  have t_630 : pI S_173 902 g1 = v_1 := (((hcp_175.2.1 g1 t_140.1).2 (ne_of_new hcp_175.1 t_140.1)).2.1 902).trans t_629
  have t_631 : pI S_183 902 g1 = v_1 := tI_sR eS_183 t_630
  have t_632 : pI S_229 902 g1 = v_1 := (((hcp_231.2.1 g1 t_190.1).2 (ne_of_new hcp_231.1 t_190.1)).2.1 902).trans t_631
  have t_633 : pI S_239 902 g1 = v_1 := tI_sR eS_239 t_632
  have t_634 : pI S_293 902 g1 = v_1 := (((hcp_295.2.1 g1 t_246.1).2 (ne_of_new hcp_295.1 t_246.1)).2.1 902).trans t_633
  have t_635 : pI S_303 902 g1 = v_1 := tI_sR eS_303 t_634
  have t_636 : pI S_365 902 g1 = v_1 := (((hcp_367.2.1 g1 t_310.1).2 (ne_of_new hcp_367.1 t_310.1)).2.1 902).trans t_635
  have t_637 : pI S_375 902 g1 = v_1 := tI_sR eS_375 t_636
  have t_638 : pI S_63 904 g1 = v_10 := by rw [eS_63]; exact (pI_sI_ne (At_ne t_57 t_62 (by decide))).trans t_59
  have t_639 : pI S_83 904 g1 = v_10 := (((hcp_85.2.1 g1 t_69.1).2 (ne_of_new hcp_85.1 t_69.1)).2.1 904).trans t_638
  have t_640 : pI S_93 904 g1 = v_10 := tI_sR eS_93 t_639
  have t_641 : pI S_123 904 g1 = v_10 := (((hcp_125.2.1 g1 t_100.1).2 (ne_of_new hcp_125.1 t_100.1)).2.1 904).trans t_640
  have t_642 : pI S_133 904 g1 = v_10 := tI_sR eS_133 t_641
  have t_643 : pI S_173 904 g1 = v_10 := (((hcp_175.2.1 g1 t_140.1).2 (ne_of_new hcp_175.1 t_140.1)).2.1 904).trans t_642
  have t_644 : pI S_183 904 g1 = v_10 := tI_sR eS_183 t_643
  have t_645 : pI S_229 904 g1 = v_10 := (((hcp_231.2.1 g1 t_190.1).2 (ne_of_new hcp_231.1 t_190.1)).2.1 904).trans t_644
  have t_646 : pI S_239 904 g1 = v_10 := tI_sR eS_239 t_645
  have t_647 : pI S_293 904 g1 = v_10 := (((hcp_295.2.1 g1 t_246.1).2 (ne_of_new hcp_295.1 t_246.1)).2.1 904).trans t_646
  have t_648 : pI S_303 904 g1 = v_10 := tI_sR eS_303 t_647
  have t_649 : pI S_365 904 g1 = v_10 := (((hcp_367.2.1 g1 t_310.1).2 (ne_of_new hcp_367.1 t_310.1)).2.1 904).trans t_648
  have t_650 : pI S_375 904 g1 = v_10 := tI_sR eS_375 t_649
  have t_651 : pR S_173 905 g1 = some q_12 := (((hcp_175.2.1 g1 t_140.1).2 (ne_of_new hcp_175.1 t_140.1)).2.2.1 905).trans t_147
  have t_653 : At S_173 g1 29 := ⟨(hcp_175.2.1 g1 t_140.1).1, ((hcp_175.2.1 g1 t_140.1).2 (ne_of_new hcp_175.1 t_140.1)).1.trans t_140.2⟩
  have t_652 : pR S_183 905 g1 = some q_12 := by rw [eS_183]; exact (pR_sR_ne (At_ne t_653 t_182 (by decide))).trans t_651
  have t_654 : pR S_229 905 g1 = some q_12 := (((hcp_231.2.1 g1 t_190.1).2 (ne_of_new hcp_231.1 t_190.1)).2.2.1 905).trans t_652
  have t_655 : pR S_239 905 g1 = some q_12 := tR_sR eS_239 rfl t_654
  have t_656 : pR S_293 905 g1 = some q_12 := (((hcp_295.2.1 g1 t_246.1).2 (ne_of_new hcp_295.1 t_246.1)).2.2.1 905).trans t_655
  have t_657 : pR S_303 905 g1 = some q_12 := tR_sR eS_303 rfl t_656
  have t_658 : pR S_365 905 g1 = some q_12 := (((hcp_367.2.1 g1 t_310.1).2 (ne_of_new hcp_367.1 t_310.1)).2.2.1 905).trans t_657
  have t_659 : pR S_375 905 g1 = some q_12 := tR_sR eS_375 rfl t_658
  have bb_660 : pA S_183 q_174 = pA S_173 q_174 := by rw [eS_183]; rfl
  have bb_661 : pA S_229 q_174 = pA S_173 q_174 := (show pA S_229 q_174 = pA S_183 q_174 from ((hcp_231.2.1 q_174 t_484.1).2 (ne_of_new hcp_231.1 t_484.1)).2.2.2.2.1).trans bb_660
  have bb_662 : pA S_239 q_174 = pA S_173 q_174 := (show pA S_239 q_174 = pA S_229 q_174 from by rw [eS_239]; rfl).trans bb_661
  have bb_663 : pA S_293 q_174 = pA S_173 q_174 := (show pA S_293 q_174 = pA S_239 q_174 from ((hcp_295.2.1 q_174 t_488.1).2 (ne_of_new hcp_295.1 t_488.1)).2.2.2.2.1).trans bb_662
  have bb_664 : pA S_303 q_174 = pA S_173 q_174 := (show pA S_303 q_174 = pA S_293 q_174 from by rw [eS_303]; rfl).trans bb_663
  have bb_665 : pA S_365 q_174 = pA S_173 q_174 := (show pA S_365 q_174 = pA S_303 q_174 from ((hcp_367.2.1 q_174 t_492.1).2 (ne_of_new hcp_367.1 t_492.1)).2.2.2.2.1).trans bb_664
  have bb_666 : pA S_375 q_174 = pA S_173 q_174 := (show pA S_375 q_174 = pA S_365 q_174 from by rw [eS_375]; rfl).trans bb_665
  have bb_667 : pA S_42 q_12 = pA S q_12 := by rw [eS_42]; rfl
  have bb_668 : pA S_51 q_12 = pA S q_12 := (show pA S_51 q_12 = pA S_42 q_12 from by rw [eS_51]; rfl).trans bb_667
  have bb_669 : pA S_63 q_12 = pA S q_12 := (show pA S_63 q_12 = pA S_51 q_12 from by rw [eS_63]; rfl).trans bb_668
  have bb_670 : pA S_83 q_12 = pA S q_12 := (show pA S_83 q_12 = pA S_63 q_12 from ((hcp_85.2.1 q_12 t_166.1).2 (ne_of_new hcp_85.1 t_166.1)).2.2.2.2.1).trans bb_669
  have bb_671 : pA S_93 q_12 = pA S q_12 := (show pA S_93 q_12 = pA S_83 q_12 from by rw [eS_93]; rfl).trans bb_670
  have bb_672 : pA S_123 q_12 = pA S q_12 := (show pA S_123 q_12 = pA S_93 q_12 from ((hcp_125.2.1 q_12 t_170.1).2 (ne_of_new hcp_125.1 t_170.1)).2.2.2.2.1).trans bb_671
  have bb_673 : pA S_133 q_12 = pA S q_12 := (show pA S_133 q_12 = pA S_123 q_12 from by rw [eS_133]; rfl).trans bb_672
  have bb_674 : pA S_42 q_12 = pA S q_12 := by rw [eS_42]; rfl
  have bb_675 : pA S_51 q_12 = pA S q_12 := (show pA S_51 q_12 = pA S_42 q_12 from by rw [eS_51]; rfl).trans bb_674
  have bb_676 : pA S_63 q_12 = pA S q_12 := (show pA S_63 q_12 = pA S_51 q_12 from by rw [eS_63]; rfl).trans bb_675
  have bb_677 : pA S_83 q_12 = pA S q_12 := (show pA S_83 q_12 = pA S_63 q_12 from ((hcp_85.2.1 q_12 t_166.1).2 (ne_of_new hcp_85.1 t_166.1)).2.2.2.2.1).trans bb_676
  have bb_678 : pA S_93 q_12 = pA S q_12 := (show pA S_93 q_12 = pA S_83 q_12 from by rw [eS_93]; rfl).trans bb_677
  have bb_679 : pA S_123 q_12 = pA S q_12 := (show pA S_123 q_12 = pA S_93 q_12 from ((hcp_125.2.1 q_12 t_170.1).2 (ne_of_new hcp_125.1 t_170.1)).2.2.2.2.1).trans bb_678
  have bb_680 : pA S_133 q_12 = pA S q_12 := (show pA S_133 q_12 = pA S_123 q_12 from by rw [eS_133]; rfl).trans bb_679
  have bb_681 : pA S_173 q_12 = pA S q_12 := (show pA S_173 q_12 = pA S_133 q_12 from ((hcp_175.2.1 q_12 t_159.1).2 (ne_of_new hcp_175.1 t_159.1)).2.2.2.2.1).trans bb_680
  have bb_682 : pA S_183 q_12 = pA S q_12 := (show pA S_183 q_12 = pA S_173 q_12 from by rw [eS_183]; rfl).trans bb_681
  have t_684 : At S_173 q_12 14 := ⟨(hcp_175.2.1 q_12 t_159.1).1, ((hcp_175.2.1 q_12 t_159.1).2 (ne_of_new hcp_175.1 t_159.1)).1.trans t_159.2⟩
  have t_685 : At S_183 q_12 14 := tAt_sR eS_183 t_684
  have bb_683 : pA S_229 q_12 = pA S q_12 := (show pA S_229 q_12 = pA S_183 q_12 from ((hcp_231.2.1 q_12 t_685.1).2 (ne_of_new hcp_231.1 t_685.1)).2.2.2.2.1).trans bb_682
  have bb_686 : pA S_239 q_12 = pA S q_12 := (show pA S_239 q_12 = pA S_229 q_12 from by rw [eS_239]; rfl).trans bb_683
  have t_688 : At S_229 q_12 14 := ⟨(hcp_231.2.1 q_12 t_685.1).1, ((hcp_231.2.1 q_12 t_685.1).2 (ne_of_new hcp_231.1 t_685.1)).1.trans t_685.2⟩
  have t_689 : At S_239 q_12 14 := tAt_sR eS_239 t_688
  have bb_687 : pA S_293 q_12 = pA S q_12 := (show pA S_293 q_12 = pA S_239 q_12 from ((hcp_295.2.1 q_12 t_689.1).2 (ne_of_new hcp_295.1 t_689.1)).2.2.2.2.1).trans bb_686
  have bb_690 : pA S_303 q_12 = pA S q_12 := (show pA S_303 q_12 = pA S_293 q_12 from by rw [eS_303]; rfl).trans bb_687
  have t_692 : At S_293 q_12 14 := ⟨(hcp_295.2.1 q_12 t_689.1).1, ((hcp_295.2.1 q_12 t_689.1).2 (ne_of_new hcp_295.1 t_689.1)).1.trans t_689.2⟩
  have t_693 : At S_303 q_12 14 := tAt_sR eS_303 t_692
  have bb_691 : pA S_365 q_12 = pA S q_12 := (show pA S_365 q_12 = pA S_303 q_12 from ((hcp_367.2.1 q_12 t_693.1).2 (ne_of_new hcp_367.1 t_693.1)).2.2.2.2.1).trans bb_690
  have bb_694 : pA S_375 q_12 = pA S q_12 := (show pA S_375 q_12 = pA S_365 q_12 from by rw [eS_375]; rfl).trans bb_691
  have t_695 : pR S_229 906 g1 = some q_13 := (((hcp_231.2.1 g1 t_190.1).2 (ne_of_new hcp_231.1 t_190.1)).2.2.1 906).trans t_199
  have t_697 : At S_229 g1 29 := ⟨(hcp_231.2.1 g1 t_190.1).1, ((hcp_231.2.1 g1 t_190.1).2 (ne_of_new hcp_231.1 t_190.1)).1.trans t_190.2⟩
  have t_696 : pR S_239 906 g1 = some q_13 := by rw [eS_239]; exact (pR_sR_ne (At_ne t_697 t_238 (by decide))).trans t_695
  have t_698 : pR S_293 906 g1 = some q_13 := (((hcp_295.2.1 g1 t_246.1).2 (ne_of_new hcp_295.1 t_246.1)).2.2.1 906).trans t_696
  have t_699 : pR S_303 906 g1 = some q_13 := tR_sR eS_303 rfl t_698
  have t_700 : pR S_365 906 g1 = some q_13 := (((hcp_367.2.1 g1 t_310.1).2 (ne_of_new hcp_367.1 t_310.1)).2.2.1 906).trans t_699
  have t_701 : pR S_375 906 g1 = some q_13 := tR_sR eS_375 rfl t_700
  have bb_702 : pA S_239 q_230 = pA S_229 q_230 := by rw [eS_239]; rfl
  have bb_703 : pA S_293 q_230 = pA S_229 q_230 := (show pA S_293 q_230 = pA S_239 q_230 from ((hcp_295.2.1 q_230 t_505.1).2 (ne_of_new hcp_295.1 t_505.1)).2.2.2.2.1).trans bb_702
  have bb_704 : pA S_303 q_230 = pA S_229 q_230 := (show pA S_303 q_230 = pA S_293 q_230 from by rw [eS_303]; rfl).trans bb_703
  have bb_705 : pA S_365 q_230 = pA S_229 q_230 := (show pA S_365 q_230 = pA S_303 q_230 from ((hcp_367.2.1 q_230 t_509.1).2 (ne_of_new hcp_367.1 t_509.1)).2.2.2.2.1).trans bb_704
  have bb_706 : pA S_375 q_230 = pA S_229 q_230 := (show pA S_375 q_230 = pA S_365 q_230 from by rw [eS_375]; rfl).trans bb_705
  have bb_707 : pA S_42 q_13 = pA S q_13 := by rw [eS_42]; rfl
  have bb_708 : pA S_51 q_13 = pA S q_13 := (show pA S_51 q_13 = pA S_42 q_13 from by rw [eS_51]; rfl).trans bb_707
  have bb_709 : pA S_63 q_13 = pA S q_13 := (show pA S_63 q_13 = pA S_51 q_13 from by rw [eS_63]; rfl).trans bb_708
  have bb_710 : pA S_83 q_13 = pA S q_13 := (show pA S_83 q_13 = pA S_63 q_13 from ((hcp_85.2.1 q_13 t_218.1).2 (ne_of_new hcp_85.1 t_218.1)).2.2.2.2.1).trans bb_709
  have bb_711 : pA S_93 q_13 = pA S q_13 := (show pA S_93 q_13 = pA S_83 q_13 from by rw [eS_93]; rfl).trans bb_710
  have bb_712 : pA S_123 q_13 = pA S q_13 := (show pA S_123 q_13 = pA S_93 q_13 from ((hcp_125.2.1 q_13 t_222.1).2 (ne_of_new hcp_125.1 t_222.1)).2.2.2.2.1).trans bb_711
  have bb_713 : pA S_133 q_13 = pA S q_13 := (show pA S_133 q_13 = pA S_123 q_13 from by rw [eS_133]; rfl).trans bb_712
  have bb_714 : pA S_173 q_13 = pA S q_13 := (show pA S_173 q_13 = pA S_133 q_13 from ((hcp_175.2.1 q_13 t_226.1).2 (ne_of_new hcp_175.1 t_226.1)).2.2.2.2.1).trans bb_713
  have bb_715 : pA S_183 q_13 = pA S q_13 := (show pA S_183 q_13 = pA S_173 q_13 from by rw [eS_183]; rfl).trans bb_714
  have bb_716 : pA S_42 q_13 = pA S q_13 := by rw [eS_42]; rfl
  have bb_717 : pA S_51 q_13 = pA S q_13 := (show pA S_51 q_13 = pA S_42 q_13 from by rw [eS_51]; rfl).trans bb_716
  have bb_718 : pA S_63 q_13 = pA S q_13 := (show pA S_63 q_13 = pA S_51 q_13 from by rw [eS_63]; rfl).trans bb_717
  have bb_719 : pA S_83 q_13 = pA S q_13 := (show pA S_83 q_13 = pA S_63 q_13 from ((hcp_85.2.1 q_13 t_218.1).2 (ne_of_new hcp_85.1 t_218.1)).2.2.2.2.1).trans bb_718
  have bb_720 : pA S_93 q_13 = pA S q_13 := (show pA S_93 q_13 = pA S_83 q_13 from by rw [eS_93]; rfl).trans bb_719
  have bb_721 : pA S_123 q_13 = pA S q_13 := (show pA S_123 q_13 = pA S_93 q_13 from ((hcp_125.2.1 q_13 t_222.1).2 (ne_of_new hcp_125.1 t_222.1)).2.2.2.2.1).trans bb_720
  have bb_722 : pA S_133 q_13 = pA S q_13 := (show pA S_133 q_13 = pA S_123 q_13 from by rw [eS_133]; rfl).trans bb_721
  have bb_723 : pA S_173 q_13 = pA S q_13 := (show pA S_173 q_13 = pA S_133 q_13 from ((hcp_175.2.1 q_13 t_226.1).2 (ne_of_new hcp_175.1 t_226.1)).2.2.2.2.1).trans bb_722
  have bb_724 : pA S_183 q_13 = pA S q_13 := (show pA S_183 q_13 = pA S_173 q_13 from by rw [eS_183]; rfl).trans bb_723
  have bb_725 : pA S_229 q_13 = pA S q_13 := (show pA S_229 q_13 = pA S_183 q_13 from ((hcp_231.2.1 q_13 t_211.1).2 (ne_of_new hcp_231.1 t_211.1)).2.2.2.2.1).trans bb_724
  have bb_726 : pA S_239 q_13 = pA S q_13 := (show pA S_239 q_13 = pA S_229 q_13 from by rw [eS_239]; rfl).trans bb_725
  have t_728 : At S_229 q_13 14 := ⟨(hcp_231.2.1 q_13 t_211.1).1, ((hcp_231.2.1 q_13 t_211.1).2 (ne_of_new hcp_231.1 t_211.1)).1.trans t_211.2⟩
  have t_729 : At S_239 q_13 14 := tAt_sR eS_239 t_728
  have bb_727 : pA S_293 q_13 = pA S q_13 := (show pA S_293 q_13 = pA S_239 q_13 from ((hcp_295.2.1 q_13 t_729.1).2 (ne_of_new hcp_295.1 t_729.1)).2.2.2.2.1).trans bb_726
  have bb_730 : pA S_303 q_13 = pA S q_13 := (show pA S_303 q_13 = pA S_293 q_13 from by rw [eS_303]; rfl).trans bb_727
  have t_732 : At S_293 q_13 14 := ⟨(hcp_295.2.1 q_13 t_729.1).1, ((hcp_295.2.1 q_13 t_729.1).2 (ne_of_new hcp_295.1 t_729.1)).1.trans t_729.2⟩
  have t_733 : At S_303 q_13 14 := tAt_sR eS_303 t_732
  have bb_731 : pA S_365 q_13 = pA S q_13 := (show pA S_365 q_13 = pA S_303 q_13 from ((hcp_367.2.1 q_13 t_733.1).2 (ne_of_new hcp_367.1 t_733.1)).2.2.2.2.1).trans bb_730
  have bb_734 : pA S_375 q_13 = pA S q_13 := (show pA S_375 q_13 = pA S_365 q_13 from by rw [eS_375]; rfl).trans bb_731
  have t_735 : pR S_293 907 g1 = some q_14 := (((hcp_295.2.1 g1 t_246.1).2 (ne_of_new hcp_295.1 t_246.1)).2.2.1 907).trans t_257
  have t_737 : At S_293 g1 29 := ⟨(hcp_295.2.1 g1 t_246.1).1, ((hcp_295.2.1 g1 t_246.1).2 (ne_of_new hcp_295.1 t_246.1)).1.trans t_246.2⟩
  have t_736 : pR S_303 907 g1 = some q_14 := by rw [eS_303]; exact (pR_sR_ne (At_ne t_737 t_302 (by decide))).trans t_735
  have t_738 : pR S_365 907 g1 = some q_14 := (((hcp_367.2.1 g1 t_310.1).2 (ne_of_new hcp_367.1 t_310.1)).2.2.1 907).trans t_736
  have t_739 : pR S_375 907 g1 = some q_14 := tR_sR eS_375 rfl t_738
  have bb_740 : pA S_303 q_294 = pA S_293 q_294 := by rw [eS_303]; rfl
  have bb_741 : pA S_365 q_294 = pA S_293 q_294 := (show pA S_365 q_294 = pA S_303 q_294 from ((hcp_367.2.1 q_294 t_518.1).2 (ne_of_new hcp_367.1 t_518.1)).2.2.2.2.1).trans bb_740
  have bb_742 : pA S_375 q_294 = pA S_293 q_294 := (show pA S_375 q_294 = pA S_365 q_294 from by rw [eS_375]; rfl).trans bb_741
  have bb_743 : pA S_42 q_14 = pA S q_14 := by rw [eS_42]; rfl
  have bb_744 : pA S_51 q_14 = pA S q_14 := (show pA S_51 q_14 = pA S_42 q_14 from by rw [eS_51]; rfl).trans bb_743
  have bb_745 : pA S_63 q_14 = pA S q_14 := (show pA S_63 q_14 = pA S_51 q_14 from by rw [eS_63]; rfl).trans bb_744
  have bb_746 : pA S_83 q_14 = pA S q_14 := (show pA S_83 q_14 = pA S_63 q_14 from ((hcp_85.2.1 q_14 t_278.1).2 (ne_of_new hcp_85.1 t_278.1)).2.2.2.2.1).trans bb_745
  have bb_747 : pA S_93 q_14 = pA S q_14 := (show pA S_93 q_14 = pA S_83 q_14 from by rw [eS_93]; rfl).trans bb_746
  have bb_748 : pA S_123 q_14 = pA S q_14 := (show pA S_123 q_14 = pA S_93 q_14 from ((hcp_125.2.1 q_14 t_282.1).2 (ne_of_new hcp_125.1 t_282.1)).2.2.2.2.1).trans bb_747
  have bb_749 : pA S_133 q_14 = pA S q_14 := (show pA S_133 q_14 = pA S_123 q_14 from by rw [eS_133]; rfl).trans bb_748
  have bb_750 : pA S_173 q_14 = pA S q_14 := (show pA S_173 q_14 = pA S_133 q_14 from ((hcp_175.2.1 q_14 t_286.1).2 (ne_of_new hcp_175.1 t_286.1)).2.2.2.2.1).trans bb_749
  have bb_751 : pA S_183 q_14 = pA S q_14 := (show pA S_183 q_14 = pA S_173 q_14 from by rw [eS_183]; rfl).trans bb_750
  have bb_752 : pA S_229 q_14 = pA S q_14 := (show pA S_229 q_14 = pA S_183 q_14 from ((hcp_231.2.1 q_14 t_290.1).2 (ne_of_new hcp_231.1 t_290.1)).2.2.2.2.1).trans bb_751
  have bb_753 : pA S_239 q_14 = pA S q_14 := (show pA S_239 q_14 = pA S_229 q_14 from by rw [eS_239]; rfl).trans bb_752
  have bb_754 : pA S_42 q_14 = pA S q_14 := by rw [eS_42]; rfl
  have bb_755 : pA S_51 q_14 = pA S q_14 := (show pA S_51 q_14 = pA S_42 q_14 from by rw [eS_51]; rfl).trans bb_754
  have bb_756 : pA S_63 q_14 = pA S q_14 := (show pA S_63 q_14 = pA S_51 q_14 from by rw [eS_63]; rfl).trans bb_755
  have bb_757 : pA S_83 q_14 = pA S q_14 := (show pA S_83 q_14 = pA S_63 q_14 from ((hcp_85.2.1 q_14 t_278.1).2 (ne_of_new hcp_85.1 t_278.1)).2.2.2.2.1).trans bb_756
  have bb_758 : pA S_93 q_14 = pA S q_14 := (show pA S_93 q_14 = pA S_83 q_14 from by rw [eS_93]; rfl).trans bb_757
  have bb_759 : pA S_123 q_14 = pA S q_14 := (show pA S_123 q_14 = pA S_93 q_14 from ((hcp_125.2.1 q_14 t_282.1).2 (ne_of_new hcp_125.1 t_282.1)).2.2.2.2.1).trans bb_758
  have bb_760 : pA S_133 q_14 = pA S q_14 := (show pA S_133 q_14 = pA S_123 q_14 from by rw [eS_133]; rfl).trans bb_759
  have bb_761 : pA S_173 q_14 = pA S q_14 := (show pA S_173 q_14 = pA S_133 q_14 from ((hcp_175.2.1 q_14 t_286.1).2 (ne_of_new hcp_175.1 t_286.1)).2.2.2.2.1).trans bb_760
  have bb_762 : pA S_183 q_14 = pA S q_14 := (show pA S_183 q_14 = pA S_173 q_14 from by rw [eS_183]; rfl).trans bb_761
  have bb_763 : pA S_229 q_14 = pA S q_14 := (show pA S_229 q_14 = pA S_183 q_14 from ((hcp_231.2.1 q_14 t_290.1).2 (ne_of_new hcp_231.1 t_290.1)).2.2.2.2.1).trans bb_762
  have bb_764 : pA S_239 q_14 = pA S q_14 := (show pA S_239 q_14 = pA S_229 q_14 from by rw [eS_239]; rfl).trans bb_763
  have bb_765 : pA S_293 q_14 = pA S q_14 := (show pA S_293 q_14 = pA S_239 q_14 from ((hcp_295.2.1 q_14 t_271.1).2 (ne_of_new hcp_295.1 t_271.1)).2.2.2.2.1).trans bb_764
  have bb_766 : pA S_303 q_14 = pA S q_14 := (show pA S_303 q_14 = pA S_293 q_14 from by rw [eS_303]; rfl).trans bb_765
  have t_768 : At S_293 q_14 14 := ⟨(hcp_295.2.1 q_14 t_271.1).1, ((hcp_295.2.1 q_14 t_271.1).2 (ne_of_new hcp_295.1 t_271.1)).1.trans t_271.2⟩
  have t_769 : At S_303 q_14 14 := tAt_sR eS_303 t_768
  have bb_767 : pA S_365 q_14 = pA S q_14 := (show pA S_365 q_14 = pA S_303 q_14 from ((hcp_367.2.1 q_14 t_769.1).2 (ne_of_new hcp_367.1 t_769.1)).2.2.2.2.1).trans bb_766
  have bb_770 : pA S_375 q_14 = pA S q_14 := (show pA S_375 q_14 = pA S_365 q_14 from by rw [eS_375]; rfl).trans bb_767
  have t_771 : pR S_365 908 g1 = some q_15 := (((hcp_367.2.1 g1 t_310.1).2 (ne_of_new hcp_367.1 t_310.1)).2.2.1 908).trans t_323
  have t_773 : At S_365 g1 29 := ⟨(hcp_367.2.1 g1 t_310.1).1, ((hcp_367.2.1 g1 t_310.1).2 (ne_of_new hcp_367.1 t_310.1)).1.trans t_310.2⟩
  have t_772 : pR S_375 908 g1 = some q_15 := by rw [eS_375]; exact (pR_sR_ne (At_ne t_773 t_374 (by decide))).trans t_771
  have bb_774 : pA S_375 q_366 = pA S_365 q_366 := by rw [eS_375]; rfl
  have bb_775 : pA S_42 q_15 = pA S q_15 := by rw [eS_42]; rfl
  have bb_776 : pA S_51 q_15 = pA S q_15 := (show pA S_51 q_15 = pA S_42 q_15 from by rw [eS_51]; rfl).trans bb_775
  have bb_777 : pA S_63 q_15 = pA S q_15 := (show pA S_63 q_15 = pA S_51 q_15 from by rw [eS_63]; rfl).trans bb_776
  have bb_778 : pA S_83 q_15 = pA S q_15 := (show pA S_83 q_15 = pA S_63 q_15 from ((hcp_85.2.1 q_15 t_346.1).2 (ne_of_new hcp_85.1 t_346.1)).2.2.2.2.1).trans bb_777
  have bb_779 : pA S_93 q_15 = pA S q_15 := (show pA S_93 q_15 = pA S_83 q_15 from by rw [eS_93]; rfl).trans bb_778
  have bb_780 : pA S_123 q_15 = pA S q_15 := (show pA S_123 q_15 = pA S_93 q_15 from ((hcp_125.2.1 q_15 t_350.1).2 (ne_of_new hcp_125.1 t_350.1)).2.2.2.2.1).trans bb_779
  have bb_781 : pA S_133 q_15 = pA S q_15 := (show pA S_133 q_15 = pA S_123 q_15 from by rw [eS_133]; rfl).trans bb_780
  have bb_782 : pA S_173 q_15 = pA S q_15 := (show pA S_173 q_15 = pA S_133 q_15 from ((hcp_175.2.1 q_15 t_354.1).2 (ne_of_new hcp_175.1 t_354.1)).2.2.2.2.1).trans bb_781
  have bb_783 : pA S_183 q_15 = pA S q_15 := (show pA S_183 q_15 = pA S_173 q_15 from by rw [eS_183]; rfl).trans bb_782
  have bb_784 : pA S_229 q_15 = pA S q_15 := (show pA S_229 q_15 = pA S_183 q_15 from ((hcp_231.2.1 q_15 t_358.1).2 (ne_of_new hcp_231.1 t_358.1)).2.2.2.2.1).trans bb_783
  have bb_785 : pA S_239 q_15 = pA S q_15 := (show pA S_239 q_15 = pA S_229 q_15 from by rw [eS_239]; rfl).trans bb_784
  have bb_786 : pA S_293 q_15 = pA S q_15 := (show pA S_293 q_15 = pA S_239 q_15 from ((hcp_295.2.1 q_15 t_362.1).2 (ne_of_new hcp_295.1 t_362.1)).2.2.2.2.1).trans bb_785
  have bb_787 : pA S_303 q_15 = pA S q_15 := (show pA S_303 q_15 = pA S_293 q_15 from by rw [eS_303]; rfl).trans bb_786
  have bb_788 : pA S_42 q_15 = pA S q_15 := by rw [eS_42]; rfl
  have bb_789 : pA S_51 q_15 = pA S q_15 := (show pA S_51 q_15 = pA S_42 q_15 from by rw [eS_51]; rfl).trans bb_788
  have bb_790 : pA S_63 q_15 = pA S q_15 := (show pA S_63 q_15 = pA S_51 q_15 from by rw [eS_63]; rfl).trans bb_789
  have bb_791 : pA S_83 q_15 = pA S q_15 := (show pA S_83 q_15 = pA S_63 q_15 from ((hcp_85.2.1 q_15 t_346.1).2 (ne_of_new hcp_85.1 t_346.1)).2.2.2.2.1).trans bb_790
  have bb_792 : pA S_93 q_15 = pA S q_15 := (show pA S_93 q_15 = pA S_83 q_15 from by rw [eS_93]; rfl).trans bb_791
  have bb_793 : pA S_123 q_15 = pA S q_15 := (show pA S_123 q_15 = pA S_93 q_15 from ((hcp_125.2.1 q_15 t_350.1).2 (ne_of_new hcp_125.1 t_350.1)).2.2.2.2.1).trans bb_792
  have bb_794 : pA S_133 q_15 = pA S q_15 := (show pA S_133 q_15 = pA S_123 q_15 from by rw [eS_133]; rfl).trans bb_793
  have bb_795 : pA S_173 q_15 = pA S q_15 := (show pA S_173 q_15 = pA S_133 q_15 from ((hcp_175.2.1 q_15 t_354.1).2 (ne_of_new hcp_175.1 t_354.1)).2.2.2.2.1).trans bb_794
  have bb_796 : pA S_183 q_15 = pA S q_15 := (show pA S_183 q_15 = pA S_173 q_15 from by rw [eS_183]; rfl).trans bb_795
  have bb_797 : pA S_229 q_15 = pA S q_15 := (show pA S_229 q_15 = pA S_183 q_15 from ((hcp_231.2.1 q_15 t_358.1).2 (ne_of_new hcp_231.1 t_358.1)).2.2.2.2.1).trans bb_796
  have bb_798 : pA S_239 q_15 = pA S q_15 := (show pA S_239 q_15 = pA S_229 q_15 from by rw [eS_239]; rfl).trans bb_797
  have bb_799 : pA S_293 q_15 = pA S q_15 := (show pA S_293 q_15 = pA S_239 q_15 from ((hcp_295.2.1 q_15 t_362.1).2 (ne_of_new hcp_295.1 t_362.1)).2.2.2.2.1).trans bb_798
  have bb_800 : pA S_303 q_15 = pA S q_15 := (show pA S_303 q_15 = pA S_293 q_15 from by rw [eS_303]; rfl).trans bb_799
  have bb_801 : pA S_365 q_15 = pA S q_15 := (show pA S_365 q_15 = pA S_303 q_15 from ((hcp_367.2.1 q_15 t_339.1).2 (ne_of_new hcp_367.1 t_339.1)).2.2.2.2.1).trans bb_800
  have bb_802 : pA S_375 q_15 = pA S q_15 := (show pA S_375 q_15 = pA S_365 q_15 from by rw [eS_375]; rfl).trans bb_801
  have t_803 : pI S_63 903 x = v_5 := tI_sI eS_63 rfl h_56
  have t_804 : pI S_83 903 x = v_5 := (((hcp_85.2.1 x t_73.1).2 (ne_of_new hcp_85.1 t_73.1)).2.1 903).trans t_803
  have t_805 : pI S_93 903 x = v_5 := tI_sR eS_93 t_804
  have t_806 : pI S_123 903 x = v_5 := (((hcp_125.2.1 x t_106.1).2 (ne_of_new hcp_125.1 t_106.1)).2.1 903).trans t_805
  have t_807 : pI S_133 903 x = v_5 := tI_sR eS_133 t_806
  have t_808 : pI S_173 903 x = v_5 := (((hcp_175.2.1 x t_148.1).2 (ne_of_new hcp_175.1 t_148.1)).2.1 903).trans t_807
  have t_809 : pI S_183 903 x = v_5 := tI_sR eS_183 t_808
  have t_810 : pI S_229 903 x = v_5 := (((hcp_231.2.1 x t_200.1).2 (ne_of_new hcp_231.1 t_200.1)).2.1 903).trans t_809
  have t_811 : pI S_239 903 x = v_5 := tI_sR eS_239 t_810
  have t_812 : pI S_293 903 x = v_5 := (((hcp_295.2.1 x t_258.1).2 (ne_of_new hcp_295.1 t_258.1)).2.1 903).trans t_811
  have t_813 : pI S_303 903 x = v_5 := tI_sR eS_303 t_812
  have t_814 : pI S_365 903 x = v_5 := (((hcp_367.2.1 x t_324.1).2 (ne_of_new hcp_367.1 t_324.1)).2.1 903).trans t_813
  have t_815 : pI S_375 903 x = v_5 := tI_sR eS_375 t_814
  have t_816 : pI S_51 903 g1 = v_5 := by rw [eS_51]; exact (pI_sI_ne (At_ne t_48 t_50 (by decide))).trans t_49
  have t_817 : pI S_63 903 g1 = v_5 := tI_sI eS_63 rfl t_816
  have t_818 : pI S_83 903 g1 = v_5 := (((hcp_85.2.1 g1 t_69.1).2 (ne_of_new hcp_85.1 t_69.1)).2.1 903).trans t_817
  have t_819 : pI S_93 903 g1 = v_5 := tI_sR eS_93 t_818
  have t_820 : pI S_123 903 g1 = v_5 := (((hcp_125.2.1 g1 t_100.1).2 (ne_of_new hcp_125.1 t_100.1)).2.1 903).trans t_819
  have t_821 : pI S_133 903 g1 = v_5 := tI_sR eS_133 t_820
  have t_822 : pI S_173 903 g1 = v_5 := (((hcp_175.2.1 g1 t_140.1).2 (ne_of_new hcp_175.1 t_140.1)).2.1 903).trans t_821
  have t_823 : pI S_183 903 g1 = v_5 := tI_sR eS_183 t_822
  have t_824 : pI S_229 903 g1 = v_5 := (((hcp_231.2.1 g1 t_190.1).2 (ne_of_new hcp_231.1 t_190.1)).2.1 903).trans t_823
  have t_825 : pI S_239 903 g1 = v_5 := tI_sR eS_239 t_824
  have t_826 : pI S_293 903 g1 = v_5 := (((hcp_295.2.1 g1 t_246.1).2 (ne_of_new hcp_295.1 t_246.1)).2.1 903).trans t_825
  have t_827 : pI S_303 903 g1 = v_5 := tI_sR eS_303 t_826
  have t_828 : pI S_365 903 g1 = v_5 := (((hcp_367.2.1 g1 t_310.1).2 (ne_of_new hcp_367.1 t_310.1)).2.1 903).trans t_827
  have t_829 : pI S_375 903 g1 = v_5 := tI_sR eS_375 t_828
  exact ret_v X hw hr hlocks (by show 6 ≤ 6; omega) (by show 15000 ≤ 15000; omega) ⟨hk9, hg9, ha9, hPhc9, hPhs9, ⟨⟨by rw [eS_522, pI_sK, t_392, t_637]; exact Int32.toInt_inj.mp (by omega), by rw [eS_522, pI_sK, t_815, t_829], by rw [eS_522, pI_sK, t_394, t_650]; exact Int32.toInt_inj.mp (by omega)⟩, ⟨q_84, q_124, q_32, q_36, (by rw [eS_522, pR_sK]; exact t_404), (by rw [eS_522, pR_sK]; exact t_443), (by rw [eS_522, pR_sK]; exact t_535), (by rw [eS_522, pR_sK]; exact t_585), by rw [eS_522, pN_sK, pI_sK, t_435, t_637]; omega, fun k hk => by rw [eS_522, pI_sK, t_637] at hk; exact ⟨(by rw [eS_522, show pA (sK S_375 x 9) q_84 = pA S_375 q_84 from rfl, show pA (sK S_375 x 9) q_32 = pA S_375 q_32 from rfl, bb_546, hct_87 k (by omega) (by omega), bb_549, bb_574]), (by rw [eS_522, show pA (sK S_375 x 9) q_124 = pA S_375 q_124 from rfl, show pA (sK S_375 x 9) q_36 = pA S_375 q_36 from rfl, bb_594, hct_127 k (by omega) (by omega), bb_599, bb_622])⟩⟩, pcg ⟨q_174, q_12, (by rw [eS_522, pR_sK]; exact t_474), (by rw [eS_522, pR_sK]; exact t_659), fun k hk => by rw [eS_522, pI_sK, t_650] at hk; exact (by rw [eS_522, show pA (sK S_375 x 9) q_174 = pA S_375 q_174 from rfl, show pA (sK S_375 x 9) q_12 = pA S_375 q_12 from rfl, bb_666, hct_177 k (by omega) (by omega), bb_673, bb_694])⟩ ⟨q_230, q_13, (by rw [eS_522, pR_sK]; exact t_497), (by rw [eS_522, pR_sK]; exact t_701), fun k hk => by rw [eS_522, pI_sK, t_650] at hk; exact (by rw [eS_522, show pA (sK S_375 x 9) q_230 = pA S_375 q_230 from rfl, show pA (sK S_375 x 9) q_13 = pA S_375 q_13 from rfl, bb_706, hct_233 k (by omega) (by omega), bb_715, bb_734])⟩ ⟨q_294, q_14, (by rw [eS_522, pR_sK]; exact t_512), (by rw [eS_522, pR_sK]; exact t_739), fun k hk => by rw [eS_522, pI_sK, t_650] at hk; exact (by rw [eS_522, show pA (sK S_375 x 9) q_294 = pA S_375 q_294 from rfl, show pA (sK S_375 x 9) q_14 = pA S_375 q_14 from rfl, bb_742, hct_297 k (by omega) (by omega), bb_753, bb_770])⟩ ⟨q_366, q_15, (by rw [eS_522, pR_sK]; exact h_380), (by rw [eS_522, pR_sK]; exact t_772), fun k hk => by rw [eS_522, pI_sK, t_650] at hk; exact (by rw [eS_522, show pA (sK S_375 x 9) q_366 = pA S_375 q_366 from rfl, show pA (sK S_375 x 9) q_15 = pA S_375 q_15 from rfl, bb_774, hct_369 k (by omega) (by omega), bb_787, bb_802])⟩⟩⟩ dX9_init__126
