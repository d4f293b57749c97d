
set_option maxHeartbeats 4000000 in
set_option maxRecDepth 100000 in
theorem k_X8_keep7 (l : Launch) (G : va_G) (cy : Nat → ClassId) (κ : Nat → Nat) (S : PS) (sz hz : Nat) (x : Nat) (g1 : Nat) (a1 : Int32) (a1_z : Int) (a2 : Int32) (a2_z : Int) (hG : GX S) (ha_x : At S x 8) (ha_g1 : At S g1 29) (hz_a1 : a1.toInt = a1_z) (hz_a2 : a2.toInt = a2_z) : Gi l yX8_keep wsX8_keep ({ frames := 4, cells := Phc S + 8, slots := Phs S + 15019, locals := 192 }) G cy κ S sz hz 0 0 [.ref x, .ref g1, .int (a1), .int (a2)] (fun (r : Int32) (S9 : PS) => Og eKE S S9 ∧ (-2147483648 ≤ r.toInt ∧ r.toInt ≤ 2147483647 ∧ ((pI S 800 x).toInt < 40 → r.toInt = (pI S 800 x).toInt ∧ (pI S9 800 x).toInt = (pI S 800 x).toInt + 1 ∧ KeO S S9 x g1 a1 a2) ∧ (¬ (pI S 800 x).toInt < 40 → r.toInt = -2 ∧ (pI S9 800 x).toInt = (pI S 800 x).toInt ∧ Fr [805] S S9))) := by
  refine ent_g (cc := cX8_keep) (maxL := 4) (ret := (some .int)) (by decide) rfl (Nat.le_of_ble_eq_true rfl) ?_
  intro p e s m below meth c ls X hr hlocks hin hw hl hsz hhz
  subst hsz hhz
  have X : Cx p c cX8_keep 4 s [.ref x, .ref g1, .int (a1), .int (a2)].toArray wsX8_keep RX8 m G cy κ (AS S s.heap.size) := X
  have hl : lv_has ls 4 [(0, .ref x), (1, .ref g1), (2, .int (a1)), (3, .int (a2))] := hl
  have rg_a1 : (-2147483648) ≤ a1_z ∧ a1_z ≤ 2147483647 := by rw [← hz_a1]; exact ⟨z_lo _, z_hi _⟩
  have rg_a2 : (-2147483648) ≤ a2_z ∧ a2_z ≤ 2147483647 := by rw [← hz_a2]; exact ⟨z_lo _, z_hi _⟩
  have hpc0 : 0 + Phc S ≤ Phc S + 0 := by omega
  have hps0 : 0 + Phs S ≤ Phs S + 0 := by omega
  have hO : Og eKE S S := Og.rf hG
  obtain ⟨v_1, ev_1⟩ : ∃ v, pI S 800 x = v := ⟨_, rfl⟩
  have rg_2 := gI_8_800 hO.1 ha_x; rw [ev_1] at rg_2
  have pz_3 : (pI S 800 x).toInt = v_1.toInt := by rw [ev_1]
  have pz_4 : (pI S 800 x).toInt = v_1.toInt := (congrArg Int32.toInt ev_1).trans rfl
  obtain ⟨v_5, ev_5⟩ : ∃ v, pI S 801 x = v := ⟨_, rfl⟩
  have rg_7 := And.intro (z_lo v_5) (z_hi v_5)
  have pz_8 : (pI S 801 x).toInt = v_5.toInt := by rw [ev_5]
  obtain ⟨q_9, h_10, h_11, h_12⟩ := gQ_8_808 hO.1 ha_x
  refine lv_aload_n X.1 X.2.1 dX8_keep_0 rfl (lv_at hl 0 rfl) ?_
  refine r_getI (g := 800) (x := v_1) X hw ha_x rfl 0 ev_1 (by decide) rfl inn_X8_keep_8 (by decide) (X.2.2.2.1 (.fieldLink RX8 37 "SilkMill$Store" "kept" "I") (by decide +kernel)) rfl (gv_800 _ _) dX8_keep_1 ?_
  refine lv_bipush (v := 40) X.1 X.2.1 dX8_keep_4 (by decide) ?_
  refine lv_icmp_lt (tgt := 25) X.1 X.2.1 dX8_keep_6 (by decide) (fun c_13 => ?_) (fun c_13 => ?_)
  · have z_b_14 := trivial
    have k_15 : v_1.toInt < 40 := z_lt rfl ti_40 c_13
    refine lv_aload_n X.1 X.2.1 dX8_keep_25 rfl (lv_at hl 0 rfl) ?_
    refine r_getR (g := 808) X hw ha_x rfl 8 h_10 (by decide) rfl inn_X8_keep_8 (by decide) (X.2.2.2.1 (.fieldLink RX8 17 "SilkMill$Store" "skeins" "[LSilkMill$Skein;") (by decide +kernel)) rfl (gv_808 _ _) dX8_keep_26 ?_
    refine lv_aload_n X.1 X.2.1 dX8_keep_29 rfl (lv_at hl 0 rfl) ?_
    refine r_getI (g := 800) (x := v_1) X hw ha_x rfl 0 ev_1 (by decide) rfl inn_X8_keep_8 (by decide) (X.2.2.2.1 (.fieldLink RX8 37 "SilkMill$Store" "kept" "I") (by decide +kernel)) rfl (gv_800 _ _) dX8_keep_30 ?_
    have ph_17 : 1 + Phc S ≤ Phc S + 1 := by omega
    have ph_18 : 10 + Phs S ≤ Phs S + 10 := by omega
    clear hpc0
    clear hps0
    refine r_new X hw 187 7 10 1 rfl tyX7 (by decide) rfl inn_X8_keep_7 tyX7_ok (X.2.2.2.1 (.classLink RX8 15 RX7) (by decide +kernel)) (X.2.2.2.1 (.instantiable RX7 10) (by decide +kernel)) (X.2.2.2.1 (.initialized RX7) (by decide +kernel)) (zo_7 _) zd_7 (by show 0 + 1 ≤ 1; omega) (by show 0 + 10 ≤ 10; omega) (by show 1 ≤ Phc S + 8; omega) (by show 10 ≤ Phs S + 15019; omega) dX8_keep_33 (fun q_16 H hq_16 hw => ?_)
    obtain ⟨S_19, eS_19⟩ : ∃ T, T = sO S q_16 187 := ⟨_, rfl⟩
    rw [← eS_19] at hw
    have ph_20 : 1 + Phc S_19 ≤ Phc S + 1 := by rw [show Phc S_19 = Phc S from Ph_sO hO.1 hq_16 eS_19 (by decide)]; exact ph_17
    have ph_21 : 10 + Phs S_19 ≤ Phs S + 10 := by rw [show Phs S_19 = Phs S from Ph_sO hO.1 hq_16 eS_19 (by decide)]; exact ph_18
    clear ph_17
    clear ph_18
    have hO_22 : Og eKE S S_19 := hO.sO hq_16 eS_19 (by decide +kernel)
    have hn0_q_16 : q_16 ∉ pL S := fun z => hq_16 (hO.fr.1 q_16 z).1
    have ha_23 : At S_19 q_16 187 := by rw [eS_19]; exact At_nO _ _ _
    have hzI_q_16 : ∀ g, pI S_19 g q_16 = 0 := fun g => by rw [eS_19]; exact pI_sO_new
    have hzR_q_16 : ∀ g, pR S_19 g q_16 = none := fun g => by rw [eS_19]; exact if_pos rfl
    refine lv_dup X.1 X.2.1 dX8_keep_36 rfl ?_
    have ph_25 : 2 + Phc S_19 ≤ Phc S + 2 := by omega
    have ph_26 : 19 + Phs S_19 ≤ Phs S + 19 := by omega
    clear ph_20
    clear ph_21
    refine r_new X hw 189 9 19 2 rfl tyX9 (by decide) rfl inn_X8_keep_9 tyX9_ok (X.2.2.2.1 (.classLink RX8 45 RX9) (by decide +kernel)) (X.2.2.2.1 (.instantiable RX9 9) (by decide +kernel)) (X.2.2.2.1 (.initialized RX9) (by decide +kernel)) (zo_9 _) zd_9 (by show 1 + 1 ≤ 2; omega) (by show 10 + 9 ≤ 19; omega) (by show 2 ≤ Phc S + 8; omega) (by show 19 ≤ Phs S + 15019; omega) dX8_keep_37 (fun q_24 H hq_24 hw => ?_)
    obtain ⟨S_27, eS_27⟩ : ∃ T, T = sO S_19 q_24 189 := ⟨_, rfl⟩
    rw [← eS_27] at hw
    have ph_28 : 2 + Phc S_27 ≤ Phc S + 2 := by rw [show Phc S_27 = Phc S_19 from Ph_sO hO_22.1 hq_24 eS_27 (by decide)]; exact ph_25
    have ph_29 : 19 + Phs S_27 ≤ Phs S + 19 := by rw [show Phs S_27 = Phs S_19 from Ph_sO hO_22.1 hq_24 eS_27 (by decide)]; exact ph_26
    clear ph_25
    clear ph_26
    have hO_30 : Og eKE S S_27 := hO_22.sO hq_24 eS_27 (by decide +kernel)
    have hn0_q_24 : q_24 ∉ pL S := fun z => hq_24 (hO_22.fr.1 q_24 z).1
    have ha_31 : At S_27 q_24 189 := by rw [eS_27]; exact At_nO _ _ _
    have hzI_q_24 : ∀ g, pI S_27 g q_24 = 0 := fun g => by rw [eS_27]; exact pI_sO_new
    have hzR_q_24 : ∀ g, pR S_27 g q_24 = none := fun g => by rw [eS_27]; exact if_pos rfl
    refine lv_dup X.1 X.2.1 dX8_keep_40 rfl ?_
    refine lv_aload_n X.1 X.2.1 dX8_keep_41 rfl (lv_at hl 1 rfl) ?_
    have t_32 : At S_19 g1 29 := by rw [eS_19]; exact At_sO ha_g1 hq_16
    have t_33 : At S_27 g1 29 := by rw [eS_27]; exact At_sO t_32 hq_24
    have ph_34 : 8 + Phc S_27 ≤ Phc S + 8 := by omega
    have ph_35 : 15019 + Phs S_27 ≤ Phs S + 15019 := by omega
    clear ph_28
    clear ph_29
    refine k_v (rm := { frames := 3, cells := 6, slots := 15000, locals := 144 }) (av := [.ref q_24, .ref g1]) X hw (va_runI (As := [.ref g1]) (rest := [.ref q_24, .ref q_16, .ref q_16, .int (v_1), .ref q_9]) (cfix X) (k_X9_init_7 l G cy κ S_27 _ q_24 g1 hO_30.1 ha_31 t_33 hzI_q_24 hzR_q_24) (cwI 1 X.2.2.2.1 gX8_keep_X9_init_ rfl rfl rfl (X.2.2.2.1 (.initialized RX9) (by decide +kernel)) (X.2.2.2.1 (.methodLink RX8 49 yX9_init_) (by decide +kernel)) (X.2.2.2.1 (.instanceMethod yX9_init_) (by decide +kernel)) rfl (by decide +kernel) ⟨Nat.le_of_ble_eq_true rfl, Nat.le_of_ble_eq_true rfl⟩) (pre_S X hw _) rfl rfl hl.1 rfl (lv_room (Nat.le_of_ble_eq_true rfl)) dX8_keep_42 ⟨(by show 2 + 6 ≤ Phc S + 8; omega), (by show 19 + 15000 ≤ Phs S + 15019; omega)⟩) 8 15019 (by show 2 + 6 ≤ 8; omega) (by show 19 + 15000 ≤ 15019; omega) (fun S_37 H locs hp hw hfr hnw => ?_)
    obtain ⟨hK_38, hg_39, ha_40, ph_41, ph_42, kx_43⟩ := hp
    have ph_44 : 8 + Phc S_37 ≤ Phc S + 8 := by omega
    have ph_45 : 15019 + Phs S_37 ≤ Phs S + 15019 := by omega
    clear ph_34
    clear ph_35
    clear ph_41
    clear ph_42
    have hO_46 : Og eKE S S_37 := Og_ctor2 hO_30 hn0_q_24 hK_38 hg_39
    refine lv_iload_n X.1 X.2.1 dX8_keep_45 rfl (lv_at hl 2 rfl) ?_
    refine lv_iload_n X.1 X.2.1 dX8_keep_46 rfl (lv_at hl 3 rfl) ?_
    refine lv_aload_n X.1 X.2.1 dX8_keep_47 rfl (lv_at hl 0 rfl) ?_
    have t_47 : At S_19 x 8 := by rw [eS_19]; exact At_sO ha_x hq_16
    have t_48 : At S_27 x 8 := by rw [eS_27]; exact At_sO t_47 hq_24
    have t_49 : At S_37 x 8 := hK_38.at ha_31 t_48 (by decide)
    have t_50 : pI S_19 801 x = v_5 := by rw [eS_19]; exact (pI_sO_ne (ne_of_new hq_16 ha_x.1)).trans ev_5
    have t_52 : At S_19 x 8 := by rw [eS_19]; exact At_sO ha_x hq_16
    have t_51 : pI S_27 801 x = v_5 := by rw [eS_27]; exact (pI_sO_ne (ne_of_new hq_24 t_52.1)).trans t_50
    have t_54 : At S_27 x 8 := by rw [eS_27]; exact At_sO t_52 hq_24
    have t_53 : pI S_37 801 x = v_5 := (((hK_38 x t_54.1).2 (At_ne t_54 ha_31 (by decide))).2.1 801).trans t_51
    refine r_getI (g := 801) (x := v_5) X hw t_49 rfl 1 t_53 (by decide) rfl inn_X8_keep_8 (by decide) (X.2.2.2.1 (.fieldLink RX8 52 "SilkMill$Store" "today" "I") (by decide +kernel)) rfl (gv_801 _ _) dX8_keep_48 ?_
    have t_55 : At S_27 q_16 187 := by rw [eS_27]; exact At_sO ha_23 hq_24
    have t_56 : At S_37 q_16 187 := hK_38.at ha_31 t_55 (by decide)
    have hzI_57 : ∀ g, pI S_27 g q_16 = 0 := fun g => by rw [eS_27]; exact (pI_sO_ne (ne_of_new hq_24 ha_23.1)).trans (hzI_q_16 g)
    have hzR_58 : ∀ g, pR S_27 g q_16 = none := fun g => by rw [eS_27]; exact (pR_sO_ne (ne_of_new hq_24 ha_23.1)).trans (hzR_q_16 g)
    have t_61 : At S_27 q_16 187 := by rw [eS_27]; exact At_sO ha_23 hq_24
    have hzI_59 : ∀ g, pI S_37 g q_16 = 0 := fun g => (((hK_38 q_16 t_61.1).2 (At_ne t_61 ha_31 (by decide))).2.1 g).trans (hzI_57 g)
    have hzR_60 : ∀ g, pR S_37 g q_16 = none := fun g => (((hK_38 q_16 t_61.1).2 (At_ne t_61 ha_31 (by decide))).2.2.1 g).trans (hzR_58 g)
    refine k_v (rm := { frames := 2, cells := 0, slots := 0, locals := 96 }) (av := [.ref q_16, .ref q_24, .int (a1), .int (a2), .int (v_5)]) X hw (va_runI (As := [.ref q_24, .int (a1), .int (a2), .int (v_5)]) (rest := [.ref q_16, .int (v_1), .ref q_9]) (cfix X) (k_X7_init7 l G cy κ S_37 _ q_16 q_24 (a1) (a1_z) (a2) (a2_z) (v_5) (v_5.toInt) hO_46.1 t_56 ha_40 hz_a1 hz_a2 rfl hzI_59 hzR_60) (cwI 4 X.2.2.2.1 gX8_keep_X7_init rfl rfl rfl (X.2.2.2.1 (.initialized RX7) (by decide +kernel)) (X.2.2.2.1 (.methodLink RX8 55 yX7_init) (by decide +kernel)) (X.2.2.2.1 (.instanceMethod yX7_init) (by decide +kernel)) rfl (by decide +kernel) ⟨Nat.le_of_ble_eq_true rfl, Nat.le_of_ble_eq_true rfl⟩) (pre_S X hw _) rfl rfl hl.1 rfl (lv_room (Nat.le_of_ble_eq_true rfl)) dX8_keep_51 ⟨(by show 8 + 0 ≤ Phc S + 8; omega), (by show 15019 + 0 ≤ Phs S + 15019; omega)⟩) 8 15019 (by show 8 + 0 ≤ 8; omega) (by show 15019 + 0 ≤ 15019; omega) (fun S_63 H locs hp hw hfr hnw => ?_)
    obtain ⟨hK_64, hg_65, ha_66, ph_67, ph_68, kx_69⟩ := hp
    have ph_70 : 8 + Phc S_63 ≤ Phc S + 8 := by omega
    have ph_71 : 15019 + Phs S_63 ≤ Phs S + 15019 := by omega
    clear ph_44
    clear ph_45
    clear ph_67
    clear ph_68
    have hO_72 : Og eKE S S_63 := Og_ctor2 hO_46 hn0_q_16 hK_64 hg_65
    have t_73 : At S_19 q_9 19 := by rw [eS_19]; exact At_sO h_11 hq_16
    have t_74 : At S_27 q_9 19 := by rw [eS_27]; exact At_sO t_73 hq_24
    have t_75 : At S_37 q_9 19 := hK_38.at ha_31 t_74 (by decide)
    have t_76 : At S_63 q_9 19 := hK_64.at t_56 t_75 (by decide)
    have t_77 : pN S_19 q_9 = 40 := by rw [eS_19, pN_sO]; exact h_12
    clear h_12
    have t_78 : pN S_27 q_9 = 40 := by rw [eS_27, pN_sO]; exact t_77
    clear t_77
    have t_80 : At S_19 q_9 19 := by rw [eS_19]; exact At_sO h_11 hq_16
    have t_81 : At S_27 q_9 19 := by rw [eS_27]; exact At_sO t_80 hq_24
    have t_79 : pN S_37 q_9 = 40 := ((hK_38 q_9 t_81.1).2 (At_ne t_81 ha_31 (by decide))).2.2.2.1.trans t_78
    clear t_78
    have t_83 : At S_37 q_9 19 := hK_38.at ha_31 t_81 (by decide)
    have t_82 : pN S_63 q_9 = 40 := ((hK_64 q_9 t_83.1).2 (At_ne t_83 t_56 (by decide))).2.2.2.1.trans t_79
    clear t_79
    refine r_aast X hw t_76 rfl ha_66 rfl (by decide) (by decide) rfl rfl (by rw [t_82]; exact z_ix rfl (by omega) (by omega)) dX8_keep_54 (fun H locs hw => ?_)
    obtain ⟨S_84, eS_84⟩ : ∃ T, T = sB S_63 q_9 (va_up (pB S_63 q_9) (Int32.toNatClampNeg (v_1)) (some q_16)) := ⟨_, rfl⟩
    rw [← eS_84] at hw
    have ph_85 : 8 + Phc S_84 ≤ Phc S + 8 := by rw [show Phc S_84 = Phc S_63 from Ph_sB eS_84]; exact ph_70
    have ph_86 : 15019 + Phs S_84 ≤ Phs S + 15019 := by rw [show Phs S_84 = Phs S_63 from Ph_sB eS_84]; exact ph_71
    clear ph_70
    clear ph_71
    have hO_87 : Og eKE S S_84 := hO_72.sB eS_84 t_76 (by decide +kernel) (uB_19 hO_72.1 t_76 (fun q hq => by cases hq; exact ha_66))
    refine lv_aload_n X.1 X.2.1 dX8_keep_55 rfl (lv_at hl 0 rfl) ?_
    refine lv_dup X.1 X.2.1 dX8_keep_56 rfl ?_
    have t_88 : At S_63 x 8 := hK_64.at t_56 t_49 (by decide)
    have t_89 : At S_84 x 8 := tAt_sB eS_84 t_88
    obtain ⟨v_90, ev_90⟩ : ∃ v, pI S_84 803 x = v := ⟨_, rfl⟩
    have rg_92 := And.intro (z_lo v_90) (z_hi v_90)
    have pz_93 : (pI S_84 803 x).toInt = v_90.toInt := by rw [ev_90]
    refine r_getI (g := 803) (x := v_90) X hw t_89 rfl 3 ev_90 (by decide) rfl inn_X8_keep_8 (by decide) (X.2.2.2.1 (.fieldLink RX8 58 "SilkMill$Store" "silkKept" "I") (by decide +kernel)) rfl (gv_803 _ _) dX8_keep_57 ?_
    refine lv_aload_n X.1 X.2.1 dX8_keep_60 rfl (lv_at hl 1 rfl) ?_
    have t_94 : At S_37 g1 29 := hK_38.at ha_31 t_33 (by decide)
    have t_95 : At S_63 g1 29 := hK_64.at t_56 t_94 (by decide)
    have t_96 : At S_84 g1 29 := tAt_sB eS_84 t_95
    obtain ⟨v_97, ev_97⟩ : ∃ v, pI S_84 903 g1 = v := ⟨_, rfl⟩
    have rg_99 := And.intro (z_lo v_97) (z_hi v_97)
    have pz_100 : (pI S_84 903 g1).toInt = v_97.toInt := by rw [ev_97]
    refine r_getI (g := 903) (x := v_97) X hw t_96 rfl 3 ev_97 (by decide) rfl inn_X8_keep_9 (by decide) (X.2.2.2.1 (.fieldLink RX8 44 "SilkMill$Strand" "silk" "I") (by decide +kernel)) rfl (gv_903 _ _) dX8_keep_61 ?_
    refine lv_iadd X.1 X.2.1 dX8_keep_64 ?_
    refine lv_topi (fun v_101 ev_101 => ?_)
    have rg_102 := And.intro (z_lo v_101) (z_hi v_101)
    refine r_putI (v := v_101) X hw t_89 rfl 3 803 tyX8 (by decide) rfl inn_X8_keep_8 tyX8_ok nmX8 (by decide) (X.2.2.2.1 (.fieldLink RX8 58 "SilkMill$Store" "silkKept" "I") (by decide +kernel)) rfl (Or.inl rfl) rfl rfl (Nat.le_of_ble_eq_true rfl) (st_803 _ _) dX8_keep_65 (fun H locs hw => ?_)
    obtain ⟨S_103, eS_103⟩ : ∃ T, T = sI S_84 803 x (v_101) := ⟨_, rfl⟩
    rw [← eS_103] at hw
    have ph_104 : 8 + Phc S_103 ≤ Phc S + 8 := by rw [show Phc S_103 = Phc S_84 from Ph_sI eS_103 rfl rfl]; exact ph_85
    have ph_105 : 15019 + Phs S_103 ≤ Phs S + 15019 := by rw [show Phs S_103 = Phs S_84 from Ph_sI eS_103 rfl rfl]; exact ph_86
    clear ph_85
    clear ph_86
    have hO_106 : Og eKE S S_103 := hO_87.sI eS_103 (by decide +kernel) (uI_8_803 hO_87.1 t_89)
    have h_107 : pI S_103 803 x = v_101 := tI_sIs eS_103
    refine lv_aload_n X.1 X.2.1 dX8_keep_68 rfl (lv_at hl 0 rfl) ?_
    refine lv_dup X.1 X.2.1 dX8_keep_69 rfl ?_
    have t_108 : At S_103 x 8 := tAt_sI eS_103 t_89
    have t_109 : pI S_19 800 x = v_1 := by rw [eS_19]; exact (pI_sO_ne (ne_of_new hq_16 ha_x.1)).trans ev_1
    have t_110 : pI S_27 800 x = v_1 := by rw [eS_27]; exact (pI_sO_ne (ne_of_new hq_24 t_52.1)).trans t_109
    have t_111 : pI S_37 800 x = v_1 := (((hK_38 x t_54.1).2 (At_ne t_54 ha_31 (by decide))).2.1 800).trans t_110
    have t_112 : pI S_63 800 x = v_1 := (((hK_64 x t_49.1).2 (At_ne t_49 t_56 (by decide))).2.1 800).trans t_111
    have t_113 : pI S_84 800 x = v_1 := tI_sB eS_84 t_112
    have t_114 : pI S_103 800 x = v_1 := tI_sI eS_103 rfl t_113
    refine r_getI (g := 800) (x := v_1) X hw t_108 rfl 0 t_114 (by decide) rfl inn_X8_keep_8 (by decide) (X.2.2.2.1 (.fieldLink RX8 37 "SilkMill$Store" "kept" "I") (by decide +kernel)) rfl (gv_800 _ _) dX8_keep_70 ?_
    refine lv_iconst (v := 1) X.1 X.2.1 dX8_keep_73 (by decide) ?_
    refine lv_iadd X.1 X.2.1 dX8_keep_74 ?_
    refine lv_topi (fun v_115 ev_115 => ?_)
    have z_116 : v_115.toInt = v_1.toInt + 1 := z_add ev_115 rfl ti_1 (by omega) (by omega)
    have pz_117 : (pI S_103 800 x).toInt = v_1.toInt := (congrArg Int32.toInt t_114).trans rfl
    have nd_118 := nodup_of hw
    refine r_putI (v := v_115) X hw t_108 rfl 0 800 tyX8 (by decide) rfl inn_X8_keep_8 tyX8_ok nmX8 (by decide) (X.2.2.2.1 (.fieldLink RX8 37 "SilkMill$Store" "kept" "I") (by decide +kernel)) rfl (Or.inl rfl) rfl rfl (Nat.le_of_ble_eq_true rfl) (st_800 _ _) dX8_keep_75 (fun H locs hw => ?_)
    obtain ⟨S_119, eS_119⟩ : ∃ T, T = sI S_103 800 x (v_115) := ⟨_, rfl⟩
    rw [← eS_119] at hw
    have ph_120 : Phc S_119 + (40 - (pI S_103 800 x).toInt.toNat) * 8 = Phc S_103 + (40 - (v_115).toInt.toNat) * 8 := Ph_800 nd_118 t_108 eS_119
    have ph_121 : Phs S_119 + (40 - (pI S_103 800 x).toInt.toNat) * 15100 = Phs S_103 + (40 - (v_115).toInt.toNat) * 15100 := Ph_800 nd_118 t_108 eS_119
    have ph_122 : 8 + Phc S_119 ≤ Phc S + 0 := by omega
    have ph_123 : 15019 + Phs S_119 ≤ Phs S + 0 := by omega
    clear ph_104
    clear ph_105
    clear ph_120
    clear ph_121
    have hO_124 : Og eKE S S_119 := hO_106.sI eS_119 (by decide +kernel) (uI_8_800 hO_106.1 t_108 (by omega) (by omega))
    have h_125 : pI S_119 800 x = v_115 := tI_sIs eS_119
    refine lv_aload_n X.1 X.2.1 dX8_keep_78 rfl (lv_at hl 0 rfl) ?_
    have t_126 : At S_119 x 8 := tAt_sI eS_119 t_108
    refine r_getI (g := 800) (x := v_115) X hw t_126 rfl 0 h_125 (by decide) rfl inn_X8_keep_8 (by decide) (X.2.2.2.1 (.fieldLink RX8 37 "SilkMill$Store" "kept" "I") (by decide +kernel)) rfl (gv_800 _ _) dX8_keep_79 ?_
    refine lv_iconst (v := 1) X.1 X.2.1 dX8_keep_82 (by decide) ?_
    refine lv_isub X.1 X.2.1 dX8_keep_83 ?_
    refine lv_topi (fun v_127 ev_127 => ?_)
    have z_128 : v_127.toInt = v_115.toInt - 1 := z_sub ev_127 rfl ti_1 (by omega) (by omega)
    have pz_129 : (pI S_119 800 x).toInt = v_115.toInt := (congrArg Int32.toInt h_125).trans rfl
    have t_131 : At S_37 g1 29 := hK_38.at ha_31 t_33 (by decide)
    have cp_130 : CpS S_63 q_24 g1 := CpS_kq hg_39 ha_40 t_131 t_56 (by decide) hK_64 kx_43
    have cp_132 : CpS S_84 q_24 g1 := CpS_sB cp_130 eS_84
    have cp_133 : CpS S_103 q_24 g1 := CpS_sI cp_132 eS_103 (by decide)
    have cp_134 : CpS S_119 q_24 g1 := CpS_sI cp_133 eS_119 (by decide)
    have si_135 : SkI S_84 q_16 q_24 a1 a2 (v_5) := SkI_sB kx_69 eS_84
    have si_136 : SkI S_103 q_16 q_24 a1 a2 (v_5) := SkI_sI si_135 eS_103 (by decide)
    have si_137 : SkI S_119 q_16 q_24 a1 a2 (v_5) := SkI_sI si_136 eS_119 (by decide)
    have bb_138 : pB S_19 q_9 = pB S q_9 := by rw [eS_19]; rfl
    have bb_139 : pB S_27 q_9 = pB S q_9 := (show pB S_27 q_9 = pB S_19 q_9 from by rw [eS_27]; rfl).trans bb_138
    have bb_140 : pB S_37 q_9 = pB S q_9 := (show pB S_37 q_9 = pB S_27 q_9 from ((hK_38 q_9 t_81.1).2 (At_ne t_81 ha_31 (by decide))).2.2.2.2.2).trans bb_139
    have bb_141 : pB S_63 q_9 = pB S q_9 := (show pB S_63 q_9 = pB S_37 q_9 from ((hK_64 q_9 t_83.1).2 (At_ne t_83 t_56 (by decide))).2.2.2.2.2).trans bb_140
    have bb_142 : pB S_19 q_9 = pB S q_9 := by rw [eS_19]; rfl
    have bb_143 : pB S_27 q_9 = pB S q_9 := (show pB S_27 q_9 = pB S_19 q_9 from by rw [eS_27]; rfl).trans bb_142
    have bb_144 : pB S_37 q_9 = pB S q_9 := (show pB S_37 q_9 = pB S_27 q_9 from ((hK_38 q_9 t_81.1).2 (At_ne t_81 ha_31 (by decide))).2.2.2.2.2).trans bb_143
    have bb_145 : pB S_63 q_9 = pB S q_9 := (show pB S_63 q_9 = pB S_37 q_9 from ((hK_64 q_9 t_83.1).2 (At_ne t_83 t_56 (by decide))).2.2.2.2.2).trans bb_144
    have bb_146 : pB S_103 q_9 = pB S_84 q_9 := by rw [eS_103]; rfl
    have bb_147 : pB S_119 q_9 = pB S_84 q_9 := (show pB S_119 q_9 = pB S_103 q_9 from by rw [eS_119]; rfl).trans bb_146
    have bb_148 : pB S_84 q_9 = va_up (pB S_63 q_9) (Int32.toNatClampNeg (v_1)) (some q_16) := by rw [eS_84]; exact if_pos rfl
    have zn_149 := z_nat (x := v_1) rfl (by omega)
    have t_150 : pR S_19 808 x = some q_9 := by rw [eS_19]; exact (pR_sO_ne (ne_of_new hq_16 ha_x.1)).trans h_10
    have t_151 : pR S_27 808 x = some q_9 := by rw [eS_27]; exact (pR_sO_ne (ne_of_new hq_24 t_52.1)).trans t_150
    have t_152 : pR S_37 808 x = some q_9 := (((hK_38 x t_54.1).2 (At_ne t_54 ha_31 (by decide))).2.2.1 808).trans t_151
    have t_153 : pR S_63 808 x = some q_9 := (((hK_64 x t_49.1).2 (At_ne t_49 t_56 (by decide))).2.2.1 808).trans t_152
    have t_154 : pR S_84 808 x = some q_9 := tR_sB eS_84 t_153
    have t_155 : pR S_103 808 x = some q_9 := tR_sI eS_103 t_154
    have t_156 : pR S_119 808 x = some q_9 := tR_sI eS_119 t_155
    exact ret_gi X hw hr hlocks (by show 8 ≤ Phc S + 8; omega) (by show 15019 ≤ Phs S + 15019; omega) (by omega) (by omega) ⟨hO_124, ⟨z_lo _, z_hi _, fun _ => ⟨by have e1 : (v_127).toInt = v_127.toInt := rfl; omega, by omega, ⟨q_16, q_24, hn0_q_16, (by rw [mB_eq t_156, mB_eq h_10, bb_147, bb_148, bb_141, show (pI S 800 x).toInt.toNat = (Int32.toNatClampNeg (v_1)) from (by rw [ev_1]; omega)]), (by rw [ev_5]; exact si_137), cp_134⟩⟩, fun h => absurd (by omega) h⟩⟩ dX8_keep_84
  · have z_b_157 := trivial
    have k_158 : v_1.toInt ≥ 40 := z_nlt rfl ti_40 c_13
    refine lv_aload_n X.1 X.2.1 dX8_keep_9 rfl (lv_at hl 0 rfl) ?_
    refine lv_dup X.1 X.2.1 dX8_keep_10 rfl ?_
    obtain ⟨v_159, ev_159⟩ : ∃ v, pI S 805 x = v := ⟨_, rfl⟩
    have rg_161 := And.intro (z_lo v_159) (z_hi v_159)
    have pz_162 : (pI S 805 x).toInt = v_159.toInt := by rw [ev_159]
    refine r_getI (g := 805) (x := v_159) X hw ha_x rfl 5 ev_159 (by decide) rfl inn_X8_keep_8 (by decide) (X.2.2.2.1 (.fieldLink RX8 41 "SilkMill$Store" "waste" "I") (by decide +kernel)) rfl (gv_805 _ _) dX8_keep_11 ?_
    refine lv_aload_n X.1 X.2.1 dX8_keep_14 rfl (lv_at hl 1 rfl) ?_
    obtain ⟨v_163, ev_163⟩ : ∃ v, pI S 903 g1 = v := ⟨_, rfl⟩
    have rg_165 := And.intro (z_lo v_163) (z_hi v_163)
    have pz_166 : (pI S 903 g1).toInt = v_163.toInt := by rw [ev_163]
    refine r_getI (g := 903) (x := v_163) X hw ha_g1 rfl 3 ev_163 (by decide) rfl inn_X8_keep_9 (by decide) (X.2.2.2.1 (.fieldLink RX8 44 "SilkMill$Strand" "silk" "I") (by decide +kernel)) rfl (gv_903 _ _) dX8_keep_15 ?_
    refine lv_iadd X.1 X.2.1 dX8_keep_18 ?_
    refine lv_topi (fun v_167 ev_167 => ?_)
    have rg_168 := And.intro (z_lo v_167) (z_hi v_167)
    refine r_putI (v := v_167) X hw ha_x rfl 5 805 tyX8 (by decide) rfl inn_X8_keep_8 tyX8_ok nmX8 (by decide) (X.2.2.2.1 (.fieldLink RX8 41 "SilkMill$Store" "waste" "I") (by decide +kernel)) rfl (Or.inl rfl) rfl rfl (Nat.le_of_ble_eq_true rfl) (st_805 _ _) dX8_keep_19 (fun H locs hw => ?_)
    obtain ⟨S_169, eS_169⟩ : ∃ T, T = sI S 805 x (v_167) := ⟨_, rfl⟩
    rw [← eS_169] at hw
    have ph_170 : 0 + Phc S_169 ≤ Phc S + 0 := by rw [show Phc S_169 = Phc S from Ph_sI eS_169 rfl rfl]; exact hpc0
    have ph_171 : 0 + Phs S_169 ≤ Phs S + 0 := by rw [show Phs S_169 = Phs S from Ph_sI eS_169 rfl rfl]; exact hps0
    clear hpc0
    clear hps0
    have hO_172 : Og eKE S S_169 := hO.sI eS_169 (by decide +kernel) (uI_8_805 hO.1 ha_x)
    have h_173 : pI S_169 805 x = v_167 := tI_sIs eS_169
    refine lv_bipush (v := (-2)) X.1 X.2.1 dX8_keep_22 (by decide) ?_
    have t_174 : pI S_169 800 x = v_1 := tI_sI eS_169 rfl ev_1
    have pz_175 : (pI S_169 800 x).toInt = v_1.toInt := (congrArg Int32.toInt t_174).trans rfl
    exact ret_gi X hw hr hlocks (by show 0 ≤ Phc S + 8; omega) (by show 0 ≤ Phs S + 15019; omega) (by omega) (by omega) ⟨hO_172, ⟨z_lo _, z_hi _, fun h => absurd h (by omega), fun _ => ⟨by decide, by omega, (by rw [eS_169]; exact Fr_sI (by decide))⟩⟩⟩ dX8_keep_24
set_option maxHeartbeats 4000000 in
set_option maxRecDepth 100000 in
theorem k_X9_beginAnew7 (l : Launch) (G : va_G) (cy : Nat → ClassId) (κ : Nat → Nat) (S : PS) (sz : Nat) (x : Nat) (hG : GX S) (ha_x : At S x 29) : Cv l yX9_beginAnew wsX9_beginAnew ({ frames := 1, cells := 0, slots := 0, locals := 48 }) G cy κ S sz [.ref x] (fun (S9 : PS) => Ok eBA S S9 ∧ (BaO S S9 x)) := by
  refine ent_m (cc := cX9_beginAnew) (maxL := 1) (ret := none) (by decide) rfl (Nat.le_of_ble_eq_true rfl) ?_
  intro p e s m below meth c ls X hr hlocks hin hw hl hsz
  subst hsz
  have X : Cx p c cX9_beginAnew 1 s [.ref x].toArray wsX9_beginAnew RX9 m G cy κ (AS S s.heap.size) := X
  have hl : lv_has ls 1 [(0, .ref x)] := hl
  have hO : Ok eBA S S := Ok.rf hG
  refine lv_aload_n X.1 X.2.1 dX9_beginAnew_0 rfl (lv_at hl 0 rfl) ?_
  refine lv_iconst (v := 0) X.1 X.2.1 dX9_beginAnew_1 (by decide) ?_
  refine r_putI (v := 0) X hw ha_x rfl 2 902 tyX9 (by decide) rfl inn_X9_beginAnew_9 tyX9_ok nmX9 (by decide) (X.2.2.2.1 (.fieldLink RX9 30 "SilkMill$Strand" "metres" "I") (by decide +kernel)) rfl (Or.inl rfl) rfl rfl (Nat.le_of_ble_eq_true rfl) (st_902 _ _) dX9_beginAnew_2 (fun H locs hw => ?_)
  obtain ⟨S_1, eS_1⟩ : ∃ T, T = sI S 902 x (0) := ⟨_, rfl⟩
  rw [← eS_1] at hw
  have hO_2 : Ok eBA S S_1 := hO.sI eS_1 (by decide +kernel) (uI_29_902 hO.1 ha_x (by rw [ti_0]; omega) (by rw [ti_0]; omega))
  have h_3 : pI S_1 902 x = 0 := tI_sIs eS_1
  refine lv_aload_n X.1 X.2.1 dX9_beginAnew_5 rfl (lv_at hl 0 rfl) ?_
  refine lv_iconst (v := 0) X.1 X.2.1 dX9_beginAnew_6 (by decide) ?_
  have t_4 : At S_1 x 29 := tAt_sI eS_1 ha_x
  refine r_putI (v := 0) X hw t_4 rfl 3 903 tyX9 (by decide) rfl inn_X9_beginAnew_9 tyX9_ok nmX9 (by decide) (X.2.2.2.1 (.fieldLink RX9 40 "SilkMill$Strand" "silk" "I") (by decide +kernel)) rfl (Or.inl rfl) rfl rfl (Nat.le_of_ble_eq_true rfl) (st_903 _ _) dX9_beginAnew_7 (fun H locs hw => ?_)
  obtain ⟨S_5, eS_5⟩ : ∃ T, T = sI S_1 903 x (0) := ⟨_, rfl⟩
  rw [← eS_5] at hw
  have hO_6 : Ok eBA S S_5 := hO_2.sI eS_5 (by decide +kernel) (uI_29_903 hO_2.1 t_4)
  have h_7 : pI S_5 903 x = 0 := tI_sIs eS_5
  refine lv_aload_n X.1 X.2.1 dX9_beginAnew_10 rfl (lv_at hl 0 rfl) ?_
  refine lv_iconst (v := 0) X.1 X.2.1 dX9_beginAnew_11 (by decide) ?_
  have t_8 : At S_5 x 29 := tAt_sI eS_5 t_4
  obtain ⟨q_9, q_10, q_11, q_12, n_13, h_14, h_15, h_16, h_17, h_18, h_19, h_20, h_21, h_22, h_23, h_24, h_25, h_26⟩ := gGrwQ hO_6.1 t_8
  refine r_putI (v := 0) X hw t_8 rfl 4 904 tyX9 (by decide) rfl inn_X9_beginAnew_9 tyX9_ok nmX9 (by decide) (X.2.2.2.1 (.fieldLink RX9 43 "SilkMill$Strand" "pieces" "I") (by decide +kernel)) rfl (Or.inl rfl) rfl rfl (Nat.le_of_ble_eq_true rfl) (st_904 _ _) dX9_beginAnew_12 (fun H locs hw => ?_)
  obtain ⟨S_27, eS_27⟩ : ∃ T, T = sI S_5 904 x (0) := ⟨_, rfl⟩
  rw [← eS_27] at hw
  have hO_28 : Ok eBA S S_27 := hO_6.sI eS_27 (by decide +kernel) (uI_29_904 hO_6.1 t_8 h_14 h_22 (by rw [ti_0]; omega) (by rw [ti_0]; omega))
  have h_29 : pI S_27 904 x = 0 := tI_sIs eS_27
  exact ret_v X hw hr hlocks (Nat.le_of_ble_eq_true rfl) (Nat.le_of_ble_eq_true rfl) ⟨hO_28, (by unfold BaO; rw [eS_27, eS_5, eS_1])⟩ dX9_beginAnew_15
set_option maxHeartbeats 4000000 in
set_option maxRecDepth 100000 in
theorem k_X9_addMetre7 (l : Launch) (G : va_G) (cy : Nat → ClassId) (κ : Nat → Nat) (S : PS) (sz : Nat) (x : Nat) (a1 : Int32) (a1_z : Int) (a2 : Int32) (a2_z : Int) (hG : GX S) (ha_x : At S x 29) (hz_a1 : a1.toInt = a1_z) (hz_a2 : a2.toInt = a2_z) : Cv l yX9_addMetre wsX9_addMetre ({ frames := 1, cells := 0, slots := 0, locals := 48 }) G cy κ S sz [.ref x, .int (a1), .int (a2)] (fun (S9 : PS) => Ok eAM S S9 ∧ (((pI S 902 x).toInt < 300 → AmO S S9 x a1 a2) ∧ (¬ (pI S 902 x).toInt < 300 → S9 = S))) := by
  refine ent_m (cc := cX9_addMetre) (maxL := 3) (ret := none) (by decide) rfl (Nat.le_of_ble_eq_true rfl) ?_
  intro p e s m below meth c ls X hr hlocks hin hw hl hsz
  subst hsz
  have X : Cx p c cX9_addMetre 3 s [.ref x, .int (a1), .int (a2)].toArray wsX9_addMetre RX9 m G cy κ (AS S s.heap.size) := X
  have hl : lv_has ls 3 [(0, .ref x), (1, .int (a1)), (2, .int (a2))] := hl
  have rg_a1 : (-2147483648) ≤ a1_z ∧ a1_z ≤ 2147483647 := by rw [← hz_a1]; exact ⟨z_lo _, z_hi _⟩
  have rg_a2 : (-2147483648) ≤ a2_z ∧ a2_z ≤ 2147483647 := by rw [← hz_a2]; exact ⟨z_lo _, z_hi _⟩
  have hO : Ok eAM S S := Ok.rf hG
  obtain ⟨v_1, ev_1⟩ : ∃ v, pI S 902 x = v := ⟨_, rfl⟩
  have rg_2 := gI_29_902 hO.1 ha_x; rw [ev_1] at rg_2
  have pz_3 : (pI S 902 x).toInt = v_1.toInt := by rw [ev_1]
  have pz_4 : (pI S 902 x).toInt = v_1.toInt := (congrArg Int32.toInt ev_1).trans rfl
  obtain ⟨v_5, ev_5⟩ : ∃ v, pI S 903 x = v := ⟨_, rfl⟩
  have rg_7 := And.intro (z_lo v_5) (z_hi v_5)
  have pz_8 : (pI S 903 x).toInt = v_5.toInt := by rw [ev_5]
  obtain ⟨q_9, h_10, h_11, h_12⟩ := gQ_29_900 hO.1 ha_x
  obtain ⟨q_13, h_14, h_15, h_16⟩ := gQ_29_901 hO.1 ha_x
  refine lv_aload_n X.1 X.2.1 dX9_addMetre_0 rfl (lv_at hl 0 rfl) ?_
  refine r_getI (g := 902) (x := v_1) X hw ha_x rfl 2 ev_1 (by decide) rfl inn_X9_addMetre_9 (by decide) (X.2.2.2.1 (.fieldLink RX9 30 "SilkMill$Strand" "metres" "I") (by decide +kernel)) rfl (gv_902 _ _) dX9_addMetre_1 ?_
  refine lv_sipush (v := 300) X.1 X.2.1 dX9_addMetre_4 (by decide) ?_
  refine lv_icmp_ge (tgt := 50) X.1 X.2.1 dX9_addMetre_7 (by decide) (fun c_17 => ?_) (fun c_17 => ?_)
  · have z_b_18 := trivial
    have k_19 : v_1.toInt ≥ 300 := z_le ti_300 rfl c_17
    exact ret_v X hw hr hlocks (Nat.le_of_ble_eq_true rfl) (Nat.le_of_ble_eq_true rfl) ⟨hO, ⟨fun h => absurd h (by omega), fun _ => rfl⟩⟩ dX9_addMetre_50
  · have z_b_20 := trivial
    have k_21 : v_1.toInt < 300 := z_nle ti_300 rfl c_17
    refine lv_aload_n X.1 X.2.1 dX9_addMetre_10 rfl (lv_at hl 0 rfl) ?_
    refine r_getR (g := 900) X hw ha_x rfl 0 h_10 (by decide) rfl inn_X9_addMetre_9 (by decide) (X.2.2.2.1 (.fieldLink RX9 9 "SilkMill$Strand" "fineness" "[I") (by decide +kernel)) rfl (gv_900 _ _) dX9_addMetre_11 ?_
    refine lv_aload_n X.1 X.2.1 dX9_addMetre_14 rfl (lv_at hl 0 rfl) ?_
    refine r_getI (g := 902) (x := v_1) X hw ha_x rfl 2 ev_1 (by decide) rfl inn_X9_addMetre_9 (by decide) (X.2.2.2.1 (.fieldLink RX9 30 "SilkMill$Strand" "metres" "I") (by decide +kernel)) rfl (gv_902 _ _) dX9_addMetre_15 ?_
    refine lv_iload_n X.1 X.2.1 dX9_addMetre_18 rfl (lv_at hl 1 rfl) ?_
    refine r_iast X hw h_11 rfl (by rw [h_12]; exact z_ix rfl (by omega) (by omega)) dX9_addMetre_19 (fun H locs hw => ?_)
    obtain ⟨S_22, eS_22⟩ : ∃ T, T = sA S q_9 (upd (pA S q_9) (Int32.toNatClampNeg (v_1)) (a1)) := ⟨_, rfl⟩
    rw [← eS_22] at hw
    have hO_23 : Ok eAM S S_22 := hO.sA eS_22 h_11 (by decide +kernel) (uA_1614 hO.1 h_11)
    have h_24 : pA S_22 q_9 (Int32.toNatClampNeg (v_1)) = a1 := tA_sAs eS_22
    refine lv_aload_n X.1 X.2.1 dX9_addMetre_20 rfl (lv_at hl 0 rfl) ?_
    have t_25 : At S_22 x 29 := tAt_sA eS_22 ha_x
    have t_26 : pR S_22 901 x = some q_13 := tR_sA eS_22 h_14
    refine r_getR (g := 901) X hw t_25 rfl 1 t_26 (by decide) rfl inn_X9_addMetre_9 (by decide) (X.2.2.2.1 (.fieldLink RX9 15 "SilkMill$Strand" "endCounts" "[I") (by decide +kernel)) rfl (gv_901 _ _) dX9_addMetre_21 ?_
    refine lv_aload_n X.1 X.2.1 dX9_addMetre_24 rfl (lv_at hl 0 rfl) ?_
    have t_27 : pI S_22 902 x = v_1 := tI_sA eS_22 ev_1
    refine r_getI (g := 902) (x := v_1) X hw t_25 rfl 2 t_27 (by decide) rfl inn_X9_addMetre_9 (by decide) (X.2.2.2.1 (.fieldLink RX9 30 "SilkMill$Strand" "metres" "I") (by decide +kernel)) rfl (gv_902 _ _) dX9_addMetre_25 ?_
    refine lv_iload_n X.1 X.2.1 dX9_addMetre_28 rfl (lv_at hl 2 rfl) ?_
    have t_28 : At S_22 q_13 1634 := tAt_sA eS_22 h_15
    have t_29 : pN S_22 q_13 = 300 := tN_sA eS_22 h_16
    clear h_16
    refine r_iast X hw t_28 rfl (by rw [t_29]; exact z_ix rfl (by omega) (by omega)) dX9_addMetre_29 (fun H locs hw => ?_)
    obtain ⟨S_30, eS_30⟩ : ∃ T, T = sA S_22 q_13 (upd (pA S_22 q_13) (Int32.toNatClampNeg (v_1)) (a2)) := ⟨_, rfl⟩
    rw [← eS_30] at hw
    have hO_31 : Ok eAM S S_30 := hO_23.sA eS_30 t_28 (by decide +kernel) (uA_1634 hO_23.1 t_28)
    have h_32 : pA S_30 q_13 (Int32.toNatClampNeg (v_1)) = a2 := tA_sAs eS_30
    refine lv_aload_n X.1 X.2.1 dX9_addMetre_30 rfl (lv_at hl 0 rfl) ?_
    refine lv_dup X.1 X.2.1 dX9_addMetre_31 rfl ?_
    have t_33 : At S_30 x 29 := tAt_sA eS_30 t_25
    have t_34 : pI S_30 902 x = v_1 := tI_sA eS_30 t_27
    refine r_getI (g := 902) (x := v_1) X hw t_33 rfl 2 t_34 (by decide) rfl inn_X9_addMetre_9 (by decide) (X.2.2.2.1 (.fieldLink RX9 30 "SilkMill$Strand" "metres" "I") (by decide +kernel)) rfl (gv_902 _ _) dX9_addMetre_32 ?_
    refine lv_iconst (v := 1) X.1 X.2.1 dX9_addMetre_35 (by decide) ?_
    refine lv_iadd X.1 X.2.1 dX9_addMetre_36 ?_
    refine lv_topi (fun v_35 ev_35 => ?_)
    have z_36 : v_35.toInt = v_1.toInt + 1 := z_add ev_35 rfl ti_1 (by omega) (by omega)
    refine r_putI (v := v_35) X hw t_33 rfl 2 902 tyX9 (by decide) rfl inn_X9_addMetre_9 tyX9_ok nmX9 (by decide) (X.2.2.2.1 (.fieldLink RX9 30 "SilkMill$Strand" "metres" "I") (by decide +kernel)) rfl (Or.inl rfl) rfl rfl (Nat.le_of_ble_eq_true rfl) (st_902 _ _) dX9_addMetre_37 (fun H locs hw => ?_)
    obtain ⟨S_37, eS_37⟩ : ∃ T, T = sI S_30 902 x (v_35) := ⟨_, rfl⟩
    rw [← eS_37] at hw
    have hO_38 : Ok eAM S S_37 := hO_31.sI eS_37 (by decide +kernel) (uI_29_902 hO_31.1 t_33 (by omega) (by omega))
    have h_39 : pI S_37 902 x = v_35 := tI_sIs eS_37
    refine lv_aload_n X.1 X.2.1 dX9_addMetre_40 rfl (lv_at hl 0 rfl) ?_
    refine lv_dup X.1 X.2.1 dX9_addMetre_41 rfl ?_
    have t_40 : At S_37 x 29 := tAt_sI eS_37 t_33
    have t_41 : pI S_22 903 x = v_5 := tI_sA eS_22 ev_5
    have t_42 : pI S_30 903 x = v_5 := tI_sA eS_30 t_41
    have t_43 : pI S_37 903 x = v_5 := tI_sI eS_37 rfl t_42
    refine r_getI (g := 903) (x := v_5) X hw t_40 rfl 3 t_43 (by decide) rfl inn_X9_addMetre_9 (by decide) (X.2.2.2.1 (.fieldLink RX9 40 "SilkMill$Strand" "silk" "I") (by decide +kernel)) rfl (gv_903 _ _) dX9_addMetre_42 ?_
    refine lv_iload_n X.1 X.2.1 dX9_addMetre_45 rfl (lv_at hl 1 rfl) ?_
    refine lv_iadd X.1 X.2.1 dX9_addMetre_46 ?_
    refine lv_topi (fun v_44 ev_44 => ?_)
    have rg_45 := And.intro (z_lo v_44) (z_hi v_44)
    refine r_putI (v := v_44) X hw t_40 rfl 3 903 tyX9 (by decide) rfl inn_X9_addMetre_9 tyX9_ok nmX9 (by decide) (X.2.2.2.1 (.fieldLink RX9 40 "SilkMill$Strand" "silk" "I") (by decide +kernel)) rfl (Or.inl rfl) rfl rfl (Nat.le_of_ble_eq_true rfl) (st_903 _ _) dX9_addMetre_47 (fun H locs hw => ?_)
    obtain ⟨S_46, eS_46⟩ : ∃ T, T = sI S_37 903 x (v_44) := ⟨_, rfl⟩
    rw [← eS_46] at hw
    have hO_47 : Ok eAM S S_46 := hO_38.sI eS_46 (by decide +kernel) (uI_29_903 hO_38.1 t_40)
    have h_48 : pI S_46 903 x = v_44 := tI_sIs eS_46
    have am_49 : pA S_22 q_13 = pA S q_13 := by rw [eS_22]; exact if_neg (Ne.symm (At_ne h_11 h_15 (by decide)))
    exact ret_v X hw hr hlocks (Nat.le_of_ble_eq_true rfl) (Nat.le_of_ble_eq_true rfl) ⟨hO_47, ⟨fun _ => ⟨q_9, q_13, h_10, h_14, by rw [ev_1, ev_5, eS_46, eS_37, eS_30, am_49, eS_22, ev_35, ev_44]⟩, fun h => absurd (by omega) h⟩⟩ dX9_addMetre_50
