
set_option maxHeartbeats 4000000 in
set_option maxRecDepth 100000 in
theorem k_X8_keep7 (l : Launch) (G : va_G) (cy : Nat → ClassId) (κ : Nat → Nat) (S : PS) (sz hz : Nat) (x : Nat) (g1 : Nat) (a1 : Int32) (a1_z : Int) (a2 : Int32) (a2_z : Int) (hG : GX S) (ha_x : At S x 8) (ha_g1 : At S g1 29) (hz_a1 : a1.toInt = a1_z) (hz_a2 : a2.toInt = a2_z) : Gi l yX8_keep wsX8_keep ({ frames := 4, cells := Phc S + 8, slots := Phs S + 15019, locals := 192 }) G cy κ S sz hz 0 0 [.ref x, .ref g1, .int (a1), .int (a2)] (fun (r : Int32) (S9 : PS) => Og eKE S S9 ∧ (-2147483648 ≤ r.toInt ∧ r.toInt ≤ 2147483647 ∧ ((pI S 800 x).toInt < 40 → r.toInt = (pI S 800 x).toInt ∧ (pI S9 800 x).toInt = (pI S 800 x).toInt + 1 ∧ KeO S S9 x g1 a1 a2 ∧ pI S9 803 x = pI S 803 x + pI S 903 g1 ∧ pI S9 805 x = pI S 805 x) ∧ (¬ (pI S 800 x).toInt < 40 → r.toInt = -2 ∧ (pI S9 800 x).toInt = (pI S 800 x).toInt ∧ Fr [805] S S9 ∧ pI S9 805 x = pI S 805 x + pI S 903 g1 ∧ pI S9 803 x = pI S 803 x))) := by
  refine ent_g (cc := cX8_keep) (maxL := 4) (ret := (some .int)) (by decide) rfl (Nat.le_of_ble_eq_true rfl) ?_
  intro p e s m below meth c ls X hr hlocks hin hw hl hsz hhz
  subst hsz hhz
  have X : Cx p c cX8_keep 4 s [.ref x, .ref g1, .int (a1), .int (a2)].toArray wsX8_keep RX8 m G cy κ (AS S s.heap.size) := X
  have hl : lv_has ls 4 [(0, .ref x), (1, .ref g1), (2, .int (a1)), (3, .int (a2))] := hl
  have rg_a1 : (-2147483648) ≤ a1_z ∧ a1_z ≤ 2147483647 := by rw [← hz_a1]; exact ⟨z_lo _, z_hi _⟩
  have rg_a2 : (-2147483648) ≤ a2_z ∧ a2_z ≤ 2147483647 := by rw [← hz_a2]; exact ⟨z_lo _, z_hi _⟩
  have hpc0 : 0 + Phc S ≤ Phc S + 0 := by omega
  have hps0 : 0 + Phs S ≤ Phs S + 0 := by omega
  have hO : Og eKE S S := Og.rf hG
  obtain ⟨v_1, ev_1⟩ : ∃ v, pI S 803 x = v := ⟨_, rfl⟩
  have rg_3 := And.intro (z_lo v_1) (z_hi v_1)
  have pz_4 : (pI S 803 x).toInt = v_1.toInt := by rw [ev_1]
  obtain ⟨v_5, ev_5⟩ : ∃ v, pI S 805 x = v := ⟨_, rfl⟩
  have rg_7 := And.intro (z_lo v_5) (z_hi v_5)
  have pz_8 : (pI S 805 x).toInt = v_5.toInt := by rw [ev_5]
  obtain ⟨v_9, ev_9⟩ : ∃ v, pI S 903 g1 = v := ⟨_, rfl⟩
  have rg_11 := And.intro (z_lo v_9) (z_hi v_9)
  have pz_12 : (pI S 903 g1).toInt = v_9.toInt := by rw [ev_9]
  obtain ⟨v_13, ev_13⟩ : ∃ v, pI S 800 x = v := ⟨_, rfl⟩
  have rg_14 := gI_8_800 hO.1 ha_x; rw [ev_13] at rg_14
  have pz_15 : (pI S 800 x).toInt = v_13.toInt := by rw [ev_13]
  have pz_16 : (pI S 800 x).toInt = v_13.toInt := (congrArg Int32.toInt ev_13).trans rfl
  obtain ⟨v_17, ev_17⟩ : ∃ v, pI S 801 x = v := ⟨_, rfl⟩
  have rg_19 := And.intro (z_lo v_17) (z_hi v_17)
  have pz_20 : (pI S 801 x).toInt = v_17.toInt := by rw [ev_17]
  obtain ⟨q_21, h_22, h_23, h_24⟩ := gQ_8_808 hO.1 ha_x
  refine lv_aload_n X.1 X.2.1 dX8_keep_0 rfl (lv_at hl 0 rfl) ?_
  refine r_getI (g := 800) (x := v_13) X hw ha_x rfl 0 ev_13 (by decide) rfl inn_X8_keep_8 (by decide) (X.2.2.2.1 (.fieldLink RX8 37 "SilkMill$Store" "kept" "I") (by decide +kernel)) rfl (gv_800 _ _) dX8_keep_1 ?_
  refine lv_bipush (v := 40) X.1 X.2.1 dX8_keep_4 (by decide) ?_
  refine lv_icmp_lt (tgt := 25) X.1 X.2.1 dX8_keep_6 (by decide) (fun c_25 => ?_) (fun c_25 => ?_)
  · have z_b_26 := trivial
    have k_27 : v_13.toInt < 40 := z_lt rfl ti_40 c_25
    refine lv_aload_n X.1 X.2.1 dX8_keep_25 rfl (lv_at hl 0 rfl) ?_
    refine r_getR (g := 808) X hw ha_x rfl 8 h_22 (by decide) rfl inn_X8_keep_8 (by decide) (X.2.2.2.1 (.fieldLink RX8 17 "SilkMill$Store" "skeins" "[LSilkMill$Skein;") (by decide +kernel)) rfl (gv_808 _ _) dX8_keep_26 ?_
    refine lv_aload_n X.1 X.2.1 dX8_keep_29 rfl (lv_at hl 0 rfl) ?_
    refine r_getI (g := 800) (x := v_13) X hw ha_x rfl 0 ev_13 (by decide) rfl inn_X8_keep_8 (by decide) (X.2.2.2.1 (.fieldLink RX8 37 "SilkMill$Store" "kept" "I") (by decide +kernel)) rfl (gv_800 _ _) dX8_keep_30 ?_
    have ph_29 : 1 + Phc S ≤ Phc S + 1 := by omega
    have ph_30 : 10 + Phs S ≤ Phs S + 10 := by omega
    clear hpc0
    clear hps0
    refine r_new X hw 187 7 10 1 rfl tyX7 (by decide) rfl inn_X8_keep_7 tyX7_ok (X.2.2.2.1 (.classLink RX8 15 RX7) (by decide +kernel)) (X.2.2.2.1 (.instantiable RX7 10) (by decide +kernel)) (X.2.2.2.1 (.initialized RX7) (by decide +kernel)) (zo_7 _) zd_7 (by show 0 + 1 ≤ 1; omega) (by show 0 + 10 ≤ 10; omega) (by show 1 ≤ Phc S + 8; omega) (by show 10 ≤ Phs S + 15019; omega) dX8_keep_33 (fun q_28 H hq_28 hw => ?_)
    obtain ⟨S_31, eS_31⟩ : ∃ T, T = sO S q_28 187 := ⟨_, rfl⟩
    rw [← eS_31] at hw
    have ph_32 : 1 + Phc S_31 ≤ Phc S + 1 := by rw [show Phc S_31 = Phc S from Ph_sO hO.1 hq_28 eS_31 (by decide)]; exact ph_29
    have ph_33 : 10 + Phs S_31 ≤ Phs S + 10 := by rw [show Phs S_31 = Phs S from Ph_sO hO.1 hq_28 eS_31 (by decide)]; exact ph_30
    clear ph_29
    clear ph_30
    have hO_34 : Og eKE S S_31 := hO.sO hq_28 eS_31 (by decide +kernel)
    have hn0_q_28 : q_28 ∉ pL S := fun z => hq_28 (hO.fr.1 q_28 z).1
    have ha_35 : At S_31 q_28 187 := by rw [eS_31]; exact At_nO _ _ _
    have hzI_q_28 : ∀ g, pI S_31 g q_28 = 0 := fun g => by rw [eS_31]; exact pI_sO_new
    have hzR_q_28 : ∀ g, pR S_31 g q_28 = none := fun g => by rw [eS_31]; exact if_pos rfl
    refine lv_dup X.1 X.2.1 dX8_keep_36 rfl ?_
    have ph_37 : 2 + Phc S_31 ≤ Phc S + 2 := by omega
    have ph_38 : 19 + Phs S_31 ≤ Phs S + 19 := by omega
    clear ph_32
    clear ph_33
    refine r_new X hw 189 9 19 2 rfl tyX9 (by decide) rfl inn_X8_keep_9 tyX9_ok (X.2.2.2.1 (.classLink RX8 45 RX9) (by decide +kernel)) (X.2.2.2.1 (.instantiable RX9 9) (by decide +kernel)) (X.2.2.2.1 (.initialized RX9) (by decide +kernel)) (zo_9 _) zd_9 (by show 1 + 1 ≤ 2; omega) (by show 10 + 9 ≤ 19; omega) (by show 2 ≤ Phc S + 8; omega) (by show 19 ≤ Phs S + 15019; omega) dX8_keep_37 (fun q_36 H hq_36 hw => ?_)
    obtain ⟨S_39, eS_39⟩ : ∃ T, T = sO S_31 q_36 189 := ⟨_, rfl⟩
    rw [← eS_39] at hw
    have ph_40 : 2 + Phc S_39 ≤ Phc S + 2 := by rw [show Phc S_39 = Phc S_31 from Ph_sO hO_34.1 hq_36 eS_39 (by decide)]; exact ph_37
    have ph_41 : 19 + Phs S_39 ≤ Phs S + 19 := by rw [show Phs S_39 = Phs S_31 from Ph_sO hO_34.1 hq_36 eS_39 (by decide)]; exact ph_38
    clear ph_37
    clear ph_38
    have hO_42 : Og eKE S S_39 := hO_34.sO hq_36 eS_39 (by decide +kernel)
    have hn0_q_36 : q_36 ∉ pL S := fun z => hq_36 (hO_34.fr.1 q_36 z).1
    have ha_43 : At S_39 q_36 189 := by rw [eS_39]; exact At_nO _ _ _
    have hzI_q_36 : ∀ g, pI S_39 g q_36 = 0 := fun g => by rw [eS_39]; exact pI_sO_new
    have hzR_q_36 : ∀ g, pR S_39 g q_36 = none := fun g => by rw [eS_39]; exact if_pos rfl
    refine lv_dup X.1 X.2.1 dX8_keep_40 rfl ?_
    refine lv_aload_n X.1 X.2.1 dX8_keep_41 rfl (lv_at hl 1 rfl) ?_
    have t_44 : At S_31 g1 29 := by rw [eS_31]; exact At_sO ha_g1 hq_28
    have t_45 : At S_39 g1 29 := by rw [eS_39]; exact At_sO t_44 hq_36
    have ph_46 : 8 + Phc S_39 ≤ Phc S + 8 := by omega
    have ph_47 : 15019 + Phs S_39 ≤ Phs S + 15019 := by omega
    clear ph_40
    clear ph_41
    refine k_v (rm := { frames := 3, cells := 6, slots := 15000, locals := 144 }) (av := [.ref q_36, .ref g1]) X hw (va_runI (As := [.ref g1]) (rest := [.ref q_36, .ref q_28, .ref q_28, .int (v_13), .ref q_21]) (cfix X) (k_X9_init_7 l G cy κ S_39 _ q_36 g1 hO_42.1 ha_43 t_45 hzI_q_36 hzR_q_36) (cwI 1 X.2.2.2.1 gX8_keep_X9_init_ rfl rfl rfl (X.2.2.2.1 (.initialized RX9) (by decide +kernel)) (X.2.2.2.1 (.methodLink RX8 49 yX9_init_) (by decide +kernel)) (X.2.2.2.1 (.instanceMethod yX9_init_) (by decide +kernel)) rfl (by decide +kernel) ⟨Nat.le_of_ble_eq_true rfl, Nat.le_of_ble_eq_true rfl⟩) (pre_S X hw _) rfl rfl hl.1 rfl (lv_room (Nat.le_of_ble_eq_true rfl)) dX8_keep_42 ⟨(by show 2 + 6 ≤ Phc S + 8; omega), (by show 19 + 15000 ≤ Phs S + 15019; omega)⟩) 8 15019 (by show 2 + 6 ≤ 8; omega) (by show 19 + 15000 ≤ 15019; omega) (fun S_49 H locs hp hw hfr hnw => ?_)
    obtain ⟨hK_50, hg_51, ha_52, ph_53, ph_54, kx_55⟩ := hp
    have ph_56 : 8 + Phc S_49 ≤ Phc S + 8 := by omega
    have ph_57 : 15019 + Phs S_49 ≤ Phs S + 15019 := by omega
    clear ph_46
    clear ph_47
    clear ph_53
    clear ph_54
    have hO_58 : Og eKE S S_49 := Og_ctor2 hO_42 hn0_q_36 hK_50 hg_51
    refine lv_iload_n X.1 X.2.1 dX8_keep_45 rfl (lv_at hl 2 rfl) ?_
    refine lv_iload_n X.1 X.2.1 dX8_keep_46 rfl (lv_at hl 3 rfl) ?_
    refine lv_aload_n X.1 X.2.1 dX8_keep_47 rfl (lv_at hl 0 rfl) ?_
    have t_59 : At S_31 x 8 := by rw [eS_31]; exact At_sO ha_x hq_28
    have t_60 : At S_39 x 8 := by rw [eS_39]; exact At_sO t_59 hq_36
    have t_61 : At S_49 x 8 := hK_50.at ha_43 t_60 (by decide)
    have t_62 : pI S_31 801 x = v_17 := by rw [eS_31]; exact (pI_sO_ne (ne_of_new hq_28 ha_x.1)).trans ev_17
    have t_64 : At S_31 x 8 := by rw [eS_31]; exact At_sO ha_x hq_28
    have t_63 : pI S_39 801 x = v_17 := by rw [eS_39]; exact (pI_sO_ne (ne_of_new hq_36 t_64.1)).trans t_62
    have t_66 : At S_39 x 8 := by rw [eS_39]; exact At_sO t_64 hq_36
    have t_65 : pI S_49 801 x = v_17 := (((hK_50 x t_66.1).2 (At_ne t_66 ha_43 (by decide))).2.1 801).trans t_63
    refine r_getI (g := 801) (x := v_17) X hw t_61 rfl 1 t_65 (by decide) rfl inn_X8_keep_8 (by decide) (X.2.2.2.1 (.fieldLink RX8 52 "SilkMill$Store" "today" "I") (by decide +kernel)) rfl (gv_801 _ _) dX8_keep_48 ?_
    have t_67 : At S_39 q_28 187 := by rw [eS_39]; exact At_sO ha_35 hq_36
    have t_68 : At S_49 q_28 187 := hK_50.at ha_43 t_67 (by decide)
    have hzI_69 : ∀ g, pI S_39 g q_28 = 0 := fun g => by rw [eS_39]; exact (pI_sO_ne (ne_of_new hq_36 ha_35.1)).trans (hzI_q_28 g)
    have hzR_70 : ∀ g, pR S_39 g q_28 = none := fun g => by rw [eS_39]; exact (pR_sO_ne (ne_of_new hq_36 ha_35.1)).trans (hzR_q_28 g)
    have t_73 : At S_39 q_28 187 := by rw [eS_39]; exact At_sO ha_35 hq_36
    have hzI_71 : ∀ g, pI S_49 g q_28 = 0 := fun g => (((hK_50 q_28 t_73.1).2 (At_ne t_73 ha_43 (by decide))).2.1 g).trans (hzI_69 g)
    have hzR_72 : ∀ g, pR S_49 g q_28 = none := fun g => (((hK_50 q_28 t_73.1).2 (At_ne t_73 ha_43 (by decide))).2.2.1 g).trans (hzR_70 g)
    refine k_v (rm := { frames := 2, cells := 0, slots := 0, locals := 96 }) (av := [.ref q_28, .ref q_36, .int (a1), .int (a2), .int (v_17)]) X hw (va_runI (As := [.ref q_36, .int (a1), .int (a2), .int (v_17)]) (rest := [.ref q_28, .int (v_13), .ref q_21]) (cfix X) (k_X7_init7 l G cy κ S_49 _ q_28 q_36 (a1) (a1_z) (a2) (a2_z) (v_17) (v_17.toInt) hO_58.1 t_68 ha_52 hz_a1 hz_a2 rfl hzI_71 hzR_72) (cwI 4 X.2.2.2.1 gX8_keep_X7_init rfl rfl rfl (X.2.2.2.1 (.initialized RX7) (by decide +kernel)) (X.2.2.2.1 (.methodLink RX8 55 yX7_init) (by decide +kernel)) (X.2.2.2.1 (.instanceMethod yX7_init) (by decide +kernel)) rfl (by decide +kernel) ⟨Nat.le_of_ble_eq_true rfl, Nat.le_of_ble_eq_true rfl⟩) (pre_S X hw _) rfl rfl hl.1 rfl (lv_room (Nat.le_of_ble_eq_true rfl)) dX8_keep_51 ⟨(by show 8 + 0 ≤ Phc S + 8; omega), (by show 15019 + 0 ≤ Phs S + 15019; omega)⟩) 8 15019 (by show 8 + 0 ≤ 8; omega) (by show 15019 + 0 ≤ 15019; omega) (fun S_75 H locs hp hw hfr hnw => ?_)
    obtain ⟨hK_76, hg_77, ha_78, ph_79, ph_80, kx_81⟩ := hp
    have ph_82 : 8 + Phc S_75 ≤ Phc S + 8 := by omega
    have ph_83 : 15019 + Phs S_75 ≤ Phs S + 15019 := by omega
    clear ph_56
    clear ph_57
    clear ph_79
    clear ph_80
    have hO_84 : Og eKE S S_75 := Og_ctor2 hO_58 hn0_q_28 hK_76 hg_77
    have t_85 : At S_31 q_21 19 := by rw [eS_31]; exact At_sO h_23 hq_28
    have t_86 : At S_39 q_21 19 := by rw [eS_39]; exact At_sO t_85 hq_36
    have t_87 : At S_49 q_21 19 := hK_50.at ha_43 t_86 (by decide)
    have t_88 : At S_75 q_21 19 := hK_76.at t_68 t_87 (by decide)
    have t_89 : pN S_31 q_21 = 40 := by rw [eS_31, pN_sO]; exact h_24
    clear h_24
    have t_90 : pN S_39 q_21 = 40 := by rw [eS_39, pN_sO]; exact t_89
    clear t_89
    have t_92 : At S_31 q_21 19 := by rw [eS_31]; exact At_sO h_23 hq_28
    have t_93 : At S_39 q_21 19 := by rw [eS_39]; exact At_sO t_92 hq_36
    have t_91 : pN S_49 q_21 = 40 := ((hK_50 q_21 t_93.1).2 (At_ne t_93 ha_43 (by decide))).2.2.2.1.trans t_90
    clear t_90
    have t_95 : At S_49 q_21 19 := hK_50.at ha_43 t_93 (by decide)
    have t_94 : pN S_75 q_21 = 40 := ((hK_76 q_21 t_95.1).2 (At_ne t_95 t_68 (by decide))).2.2.2.1.trans t_91
    clear t_91
    refine r_aast X hw t_88 rfl ha_78 rfl (by decide) (by decide) rfl rfl (by rw [t_94]; exact z_ix rfl (by omega) (by omega)) dX8_keep_54 (fun H locs hw => ?_)
    obtain ⟨S_96, eS_96⟩ : ∃ T, T = sB S_75 q_21 (va_up (pB S_75 q_21) (Int32.toNatClampNeg (v_13)) (some q_28)) := ⟨_, rfl⟩
    rw [← eS_96] at hw
    have ph_97 : 8 + Phc S_96 ≤ Phc S + 8 := by rw [show Phc S_96 = Phc S_75 from Ph_sB eS_96]; exact ph_82
    have ph_98 : 15019 + Phs S_96 ≤ Phs S + 15019 := by rw [show Phs S_96 = Phs S_75 from Ph_sB eS_96]; exact ph_83
    clear ph_82
    clear ph_83
    have hO_99 : Og eKE S S_96 := hO_84.sB eS_96 t_88 (by decide +kernel) (uB_19 hO_84.1 t_88 (fun q hq => by cases hq; exact ha_78))
    refine lv_aload_n X.1 X.2.1 dX8_keep_55 rfl (lv_at hl 0 rfl) ?_
    refine lv_dup X.1 X.2.1 dX8_keep_56 rfl ?_
    have t_100 : At S_75 x 8 := hK_76.at t_68 t_61 (by decide)
    have t_101 : At S_96 x 8 := tAt_sB eS_96 t_100
    have t_102 : pI S_31 803 x = v_1 := by rw [eS_31]; exact (pI_sO_ne (ne_of_new hq_28 ha_x.1)).trans ev_1
    have t_103 : pI S_39 803 x = v_1 := by rw [eS_39]; exact (pI_sO_ne (ne_of_new hq_36 t_64.1)).trans t_102
    have t_104 : pI S_49 803 x = v_1 := (((hK_50 x t_66.1).2 (At_ne t_66 ha_43 (by decide))).2.1 803).trans t_103
    have t_105 : pI S_75 803 x = v_1 := (((hK_76 x t_61.1).2 (At_ne t_61 t_68 (by decide))).2.1 803).trans t_104
    have t_106 : pI S_96 803 x = v_1 := tI_sB eS_96 t_105
    refine r_getI (g := 803) (x := v_1) X hw t_101 rfl 3 t_106 (by decide) rfl inn_X8_keep_8 (by decide) (X.2.2.2.1 (.fieldLink RX8 58 "SilkMill$Store" "silkKept" "I") (by decide +kernel)) rfl (gv_803 _ _) dX8_keep_57 ?_
    refine lv_aload_n X.1 X.2.1 dX8_keep_60 rfl (lv_at hl 1 rfl) ?_
    have t_107 : At S_49 g1 29 := hK_50.at ha_43 t_45 (by decide)
    have t_108 : At S_75 g1 29 := hK_76.at t_68 t_107 (by decide)
    have t_109 : At S_96 g1 29 := tAt_sB eS_96 t_108
    have t_110 : pI S_31 903 g1 = v_9 := by rw [eS_31]; exact (pI_sO_ne (ne_of_new hq_28 ha_g1.1)).trans ev_9
    have t_112 : At S_31 g1 29 := by rw [eS_31]; exact At_sO ha_g1 hq_28
    have t_111 : pI S_39 903 g1 = v_9 := by rw [eS_39]; exact (pI_sO_ne (ne_of_new hq_36 t_112.1)).trans t_110
    have t_113 : pI S_49 903 g1 = v_9 := (((hK_50 g1 t_45.1).2 (At_ne t_45 ha_43 (by decide))).2.1 903).trans t_111
    have t_115 : At S_49 g1 29 := hK_50.at ha_43 t_45 (by decide)
    have t_114 : pI S_75 903 g1 = v_9 := (((hK_76 g1 t_115.1).2 (At_ne t_115 t_68 (by decide))).2.1 903).trans t_113
    have t_116 : pI S_96 903 g1 = v_9 := tI_sB eS_96 t_114
    refine r_getI (g := 903) (x := v_9) X hw t_109 rfl 3 t_116 (by decide) rfl inn_X8_keep_9 (by decide) (X.2.2.2.1 (.fieldLink RX8 44 "SilkMill$Strand" "silk" "I") (by decide +kernel)) rfl (gv_903 _ _) dX8_keep_61 ?_
    refine lv_iadd X.1 X.2.1 dX8_keep_64 ?_
    refine lv_topi (fun v_117 ev_117 => ?_)
    have rg_118 := And.intro (z_lo v_117) (z_hi v_117)
    refine r_putI (v := v_117) X hw t_101 rfl 3 803 tyX8 (by decide) rfl inn_X8_keep_8 tyX8_ok nmX8 (by decide) (X.2.2.2.1 (.fieldLink RX8 58 "SilkMill$Store" "silkKept" "I") (by decide +kernel)) rfl (Or.inl rfl) rfl rfl (Nat.le_of_ble_eq_true rfl) (st_803 _ _) dX8_keep_65 (fun H locs hw => ?_)
    obtain ⟨S_119, eS_119⟩ : ∃ T, T = sI S_96 803 x (v_117) := ⟨_, rfl⟩
    rw [← eS_119] at hw
    have ph_120 : 8 + Phc S_119 ≤ Phc S + 8 := by rw [show Phc S_119 = Phc S_96 from Ph_sI eS_119 rfl rfl]; exact ph_97
    have ph_121 : 15019 + Phs S_119 ≤ Phs S + 15019 := by rw [show Phs S_119 = Phs S_96 from Ph_sI eS_119 rfl rfl]; exact ph_98
    clear ph_97
    clear ph_98
    have hO_122 : Og eKE S S_119 := hO_99.sI eS_119 (by decide +kernel) (uI_8_803 hO_99.1 t_101)
    have h_123 : pI S_119 803 x = v_117 := tI_sIs eS_119
    refine lv_aload_n X.1 X.2.1 dX8_keep_68 rfl (lv_at hl 0 rfl) ?_
    refine lv_dup X.1 X.2.1 dX8_keep_69 rfl ?_
    have t_124 : At S_119 x 8 := tAt_sI eS_119 t_101
    have t_125 : pI S_31 800 x = v_13 := by rw [eS_31]; exact (pI_sO_ne (ne_of_new hq_28 ha_x.1)).trans ev_13
    have t_126 : pI S_39 800 x = v_13 := by rw [eS_39]; exact (pI_sO_ne (ne_of_new hq_36 t_64.1)).trans t_125
    have t_127 : pI S_49 800 x = v_13 := (((hK_50 x t_66.1).2 (At_ne t_66 ha_43 (by decide))).2.1 800).trans t_126
    have t_128 : pI S_75 800 x = v_13 := (((hK_76 x t_61.1).2 (At_ne t_61 t_68 (by decide))).2.1 800).trans t_127
    have t_129 : pI S_96 800 x = v_13 := tI_sB eS_96 t_128
    have t_130 : pI S_119 800 x = v_13 := tI_sI eS_119 rfl t_129
    refine r_getI (g := 800) (x := v_13) X hw t_124 rfl 0 t_130 (by decide) rfl inn_X8_keep_8 (by decide) (X.2.2.2.1 (.fieldLink RX8 37 "SilkMill$Store" "kept" "I") (by decide +kernel)) rfl (gv_800 _ _) dX8_keep_70 ?_
    refine lv_iconst (v := 1) X.1 X.2.1 dX8_keep_73 (by decide) ?_
    refine lv_iadd X.1 X.2.1 dX8_keep_74 ?_
    refine lv_topi (fun v_131 ev_131 => ?_)
    have z_132 : v_131.toInt = v_13.toInt + 1 := z_add ev_131 rfl ti_1 (by omega) (by omega)
    have pz_133 : (pI S_119 800 x).toInt = v_13.toInt := (congrArg Int32.toInt t_130).trans rfl
    have nd_134 := nodup_of hw
    refine r_putI (v := v_131) X hw t_124 rfl 0 800 tyX8 (by decide) rfl inn_X8_keep_8 tyX8_ok nmX8 (by decide) (X.2.2.2.1 (.fieldLink RX8 37 "SilkMill$Store" "kept" "I") (by decide +kernel)) rfl (Or.inl rfl) rfl rfl (Nat.le_of_ble_eq_true rfl) (st_800 _ _) dX8_keep_75 (fun H locs hw => ?_)
    obtain ⟨S_135, eS_135⟩ : ∃ T, T = sI S_119 800 x (v_131) := ⟨_, rfl⟩
    rw [← eS_135] at hw
    have ph_136 : Phc S_135 + (40 - (pI S_119 800 x).toInt.toNat) * 8 = Phc S_119 + (40 - (v_131).toInt.toNat) * 8 := Ph_800 nd_134 t_124 eS_135
    have ph_137 : Phs S_135 + (40 - (pI S_119 800 x).toInt.toNat) * 15100 = Phs S_119 + (40 - (v_131).toInt.toNat) * 15100 := Ph_800 nd_134 t_124 eS_135
    have ph_138 : 8 + Phc S_135 ≤ Phc S + 0 := by omega
    have ph_139 : 15019 + Phs S_135 ≤ Phs S + 0 := by omega
    clear ph_120
    clear ph_121
    clear ph_136
    clear ph_137
    have hO_140 : Og eKE S S_135 := hO_122.sI eS_135 (by decide +kernel) (uI_8_800 hO_122.1 t_124 (by omega) (by omega))
    have h_141 : pI S_135 800 x = v_131 := tI_sIs eS_135
    refine lv_aload_n X.1 X.2.1 dX8_keep_78 rfl (lv_at hl 0 rfl) ?_
    have t_142 : At S_135 x 8 := tAt_sI eS_135 t_124
    refine r_getI (g := 800) (x := v_131) X hw t_142 rfl 0 h_141 (by decide) rfl inn_X8_keep_8 (by decide) (X.2.2.2.1 (.fieldLink RX8 37 "SilkMill$Store" "kept" "I") (by decide +kernel)) rfl (gv_800 _ _) dX8_keep_79 ?_
    refine lv_iconst (v := 1) X.1 X.2.1 dX8_keep_82 (by decide) ?_
    refine lv_isub X.1 X.2.1 dX8_keep_83 ?_
    refine lv_topi (fun v_143 ev_143 => ?_)
    have z_144 : v_143.toInt = v_131.toInt - 1 := z_sub ev_143 rfl ti_1 (by omega) (by omega)
    have pz_145 : (pI S_135 800 x).toInt = v_131.toInt := (congrArg Int32.toInt h_141).trans rfl
    have cp_146 : CpS S_75 q_36 g1 := CpS_kq hg_51 ha_52 t_115 t_68 (by decide) hK_76 kx_55
    have cp_147 : CpS S_96 q_36 g1 := CpS_sB cp_146 eS_96
    have cp_148 : CpS S_119 q_36 g1 := CpS_sI cp_147 eS_119 (by decide)
    have cp_149 : CpS S_135 q_36 g1 := CpS_sI cp_148 eS_135 (by decide)
    have si_150 : SkI S_96 q_28 q_36 a1 a2 (v_17) := SkI_sB kx_81 eS_96
    have si_151 : SkI S_119 q_28 q_36 a1 a2 (v_17) := SkI_sI si_150 eS_119 (by decide)
    have si_152 : SkI S_135 q_28 q_36 a1 a2 (v_17) := SkI_sI si_151 eS_135 (by decide)
    have bb_153 : pB S_31 q_21 = pB S q_21 := by rw [eS_31]; rfl
    have bb_154 : pB S_39 q_21 = pB S q_21 := (show pB S_39 q_21 = pB S_31 q_21 from by rw [eS_39]; rfl).trans bb_153
    have bb_155 : pB S_49 q_21 = pB S q_21 := (show pB S_49 q_21 = pB S_39 q_21 from ((hK_50 q_21 t_93.1).2 (At_ne t_93 ha_43 (by decide))).2.2.2.2.2).trans bb_154
    have bb_156 : pB S_75 q_21 = pB S q_21 := (show pB S_75 q_21 = pB S_49 q_21 from ((hK_76 q_21 t_95.1).2 (At_ne t_95 t_68 (by decide))).2.2.2.2.2).trans bb_155
    have bb_157 : pB S_31 q_21 = pB S q_21 := by rw [eS_31]; rfl
    have bb_158 : pB S_39 q_21 = pB S q_21 := (show pB S_39 q_21 = pB S_31 q_21 from by rw [eS_39]; rfl).trans bb_157
    have bb_159 : pB S_49 q_21 = pB S q_21 := (show pB S_49 q_21 = pB S_39 q_21 from ((hK_50 q_21 t_93.1).2 (At_ne t_93 ha_43 (by decide))).2.2.2.2.2).trans bb_158
    have bb_160 : pB S_75 q_21 = pB S q_21 := (show pB S_75 q_21 = pB S_49 q_21 from ((hK_76 q_21 t_95.1).2 (At_ne t_95 t_68 (by decide))).2.2.2.2.2).trans bb_159
    have bb_161 : pB S_119 q_21 = pB S_96 q_21 := by rw [eS_119]; rfl
    have bb_162 : pB S_135 q_21 = pB S_96 q_21 := (show pB S_135 q_21 = pB S_119 q_21 from by rw [eS_135]; rfl).trans bb_161
    have bb_163 : pB S_96 q_21 = va_up (pB S_75 q_21) (Int32.toNatClampNeg (v_13)) (some q_28) := by rw [eS_96]; exact if_pos rfl
    have zn_164 := z_nat (x := v_13) rfl (by omega)
    have t_165 : pR S_31 808 x = some q_21 := by rw [eS_31]; exact (pR_sO_ne (ne_of_new hq_28 ha_x.1)).trans h_22
    have t_166 : pR S_39 808 x = some q_21 := by rw [eS_39]; exact (pR_sO_ne (ne_of_new hq_36 t_64.1)).trans t_165
    have t_167 : pR S_49 808 x = some q_21 := (((hK_50 x t_66.1).2 (At_ne t_66 ha_43 (by decide))).2.2.1 808).trans t_166
    have t_168 : pR S_75 808 x = some q_21 := (((hK_76 x t_61.1).2 (At_ne t_61 t_68 (by decide))).2.2.1 808).trans t_167
    have t_169 : pR S_96 808 x = some q_21 := tR_sB eS_96 t_168
    have t_170 : pR S_119 808 x = some q_21 := tR_sI eS_119 t_169
    have t_171 : pR S_135 808 x = some q_21 := tR_sI eS_135 t_170
    have t_172 : pI S_135 803 x = v_117 := tI_sI eS_135 rfl h_123
    have t_173 : pI S_31 805 x = v_5 := by rw [eS_31]; exact (pI_sO_ne (ne_of_new hq_28 ha_x.1)).trans ev_5
    have t_174 : pI S_39 805 x = v_5 := by rw [eS_39]; exact (pI_sO_ne (ne_of_new hq_36 t_64.1)).trans t_173
    have t_175 : pI S_49 805 x = v_5 := (((hK_50 x t_66.1).2 (At_ne t_66 ha_43 (by decide))).2.1 805).trans t_174
    have t_176 : pI S_75 805 x = v_5 := (((hK_76 x t_61.1).2 (At_ne t_61 t_68 (by decide))).2.1 805).trans t_175
    have t_177 : pI S_96 805 x = v_5 := tI_sB eS_96 t_176
    have t_178 : pI S_119 805 x = v_5 := tI_sI eS_119 rfl t_177
    have t_179 : pI S_135 805 x = v_5 := tI_sI eS_135 rfl t_178
    exact ret_gi X hw hr hlocks (by show 8 ≤ Phc S + 8; omega) (by show 15019 ≤ Phs S + 15019; omega) (by omega) (by omega) ⟨hO_140, ⟨z_lo _, z_hi _, fun _ => ⟨by have e1 : (v_143).toInt = v_143.toInt := rfl; omega, by omega, ⟨q_28, q_36, hn0_q_28, (by rw [mB_eq t_171, mB_eq h_22, bb_162, bb_163, bb_156, show (pI S 800 x).toInt.toNat = (Int32.toNatClampNeg (v_13)) from (by rw [ev_13]; omega)]), (by rw [ev_17]; exact si_152), cp_149⟩, (by rw [t_172, ev_117, ev_1, ev_9]), (by rw [t_179, ev_5])⟩, fun h => absurd (by omega) h⟩⟩ dX8_keep_84
  · have z_b_180 := trivial
    have k_181 : v_13.toInt ≥ 40 := z_nlt rfl ti_40 c_25
    refine lv_aload_n X.1 X.2.1 dX8_keep_9 rfl (lv_at hl 0 rfl) ?_
    refine lv_dup X.1 X.2.1 dX8_keep_10 rfl ?_
    refine r_getI (g := 805) (x := v_5) X hw ha_x rfl 5 ev_5 (by decide) rfl inn_X8_keep_8 (by decide) (X.2.2.2.1 (.fieldLink RX8 41 "SilkMill$Store" "waste" "I") (by decide +kernel)) rfl (gv_805 _ _) dX8_keep_11 ?_
    refine lv_aload_n X.1 X.2.1 dX8_keep_14 rfl (lv_at hl 1 rfl) ?_
    refine r_getI (g := 903) (x := v_9) X hw ha_g1 rfl 3 ev_9 (by decide) rfl inn_X8_keep_9 (by decide) (X.2.2.2.1 (.fieldLink RX8 44 "SilkMill$Strand" "silk" "I") (by decide +kernel)) rfl (gv_903 _ _) dX8_keep_15 ?_
    refine lv_iadd X.1 X.2.1 dX8_keep_18 ?_
    refine lv_topi (fun v_182 ev_182 => ?_)
    have rg_183 := And.intro (z_lo v_182) (z_hi v_182)
    refine r_putI (v := v_182) X hw ha_x rfl 5 805 tyX8 (by decide) rfl inn_X8_keep_8 tyX8_ok nmX8 (by decide) (X.2.2.2.1 (.fieldLink RX8 41 "SilkMill$Store" "waste" "I") (by decide +kernel)) rfl (Or.inl rfl) rfl rfl (Nat.le_of_ble_eq_true rfl) (st_805 _ _) dX8_keep_19 (fun H locs hw => ?_)
    obtain ⟨S_184, eS_184⟩ : ∃ T, T = sI S 805 x (v_182) := ⟨_, rfl⟩
    rw [← eS_184] at hw
    have ph_185 : 0 + Phc S_184 ≤ Phc S + 0 := by rw [show Phc S_184 = Phc S from Ph_sI eS_184 rfl rfl]; exact hpc0
    have ph_186 : 0 + Phs S_184 ≤ Phs S + 0 := by rw [show Phs S_184 = Phs S from Ph_sI eS_184 rfl rfl]; exact hps0
    clear hpc0
    clear hps0
    have hO_187 : Og eKE S S_184 := hO.sI eS_184 (by decide +kernel) (uI_8_805 hO.1 ha_x)
    have h_188 : pI S_184 805 x = v_182 := tI_sIs eS_184
    refine lv_bipush (v := (-2)) X.1 X.2.1 dX8_keep_22 (by decide) ?_
    have t_189 : pI S_184 800 x = v_13 := tI_sI eS_184 rfl ev_13
    have pz_190 : (pI S_184 800 x).toInt = v_13.toInt := (congrArg Int32.toInt t_189).trans rfl
    have t_191 : pI S_184 803 x = v_1 := tI_sI eS_184 rfl ev_1
    exact ret_gi X hw hr hlocks (by show 0 ≤ Phc S + 8; omega) (by show 0 ≤ Phs S + 15019; omega) (by omega) (by omega) ⟨hO_187, ⟨z_lo _, z_hi _, fun h => absurd h (by omega), fun _ => ⟨by decide, by omega, (by rw [eS_184]; exact Fr_sI (by decide)), (by rw [h_188, ev_182, ev_5, ev_9]), (by rw [t_191, ev_1])⟩⟩⟩ dX8_keep_24
set_option maxHeartbeats 4000000 in
set_option maxRecDepth 100000 in
theorem k_X9_beginAnew7 (l : Launch) (G : va_G) (cy : Nat → ClassId) (κ : Nat → Nat) (S : PS) (sz : Nat) (x : Nat) (hG : GX S) (ha_x : At S x 29) : Cv l yX9_beginAnew wsX9_beginAnew ({ frames := 1, cells := 0, slots := 0, locals := 48 }) G cy κ S sz [.ref x] (fun (S9 : PS) => Ok eBA S S9 ∧ (BaO S S9 x)) := by
  refine ent_m (cc := cX9_beginAnew) (maxL := 1) (ret := none) (by decide) rfl (Nat.le_of_ble_eq_true rfl) ?_
  intro p e s m below meth c ls X hr hlocks hin hw hl hsz
  subst hsz
  have X : Cx p c cX9_beginAnew 1 s [.ref x].toArray wsX9_beginAnew RX9 m G cy κ (AS S s.heap.size) := X
  have hl : lv_has ls 1 [(0, .ref x)] := hl
  have hO : Ok eBA S S := Ok.rf hG
  refine lv_aload_n X.1 X.2.1 dX9_beginAnew_0 rfl (lv_at hl 0 rfl) ?_
  refine lv_iconst (v := 0) X.1 X.2.1 dX9_beginAnew_1 (by decide) ?_
  refine r_putI (v := 0) X hw ha_x rfl 2 902 tyX9 (by decide) rfl inn_X9_beginAnew_9 tyX9_ok nmX9 (by decide) (X.2.2.2.1 (.fieldLink RX9 30 "SilkMill$Strand" "metres" "I") (by decide +kernel)) rfl (Or.inl rfl) rfl rfl (Nat.le_of_ble_eq_true rfl) (st_902 _ _) dX9_beginAnew_2 (fun H locs hw => ?_)
  obtain ⟨S_1, eS_1⟩ : ∃ T, T = sI S 902 x (0) := ⟨_, rfl⟩
  rw [← eS_1] at hw
  have hO_2 : Ok eBA S S_1 := hO.sI eS_1 (by decide +kernel) (uI_29_902 hO.1 ha_x (by rw [ti_0]; omega) (by rw [ti_0]; omega))
  have h_3 : pI S_1 902 x = 0 := tI_sIs eS_1
  refine lv_aload_n X.1 X.2.1 dX9_beginAnew_5 rfl (lv_at hl 0 rfl) ?_
  refine lv_iconst (v := 0) X.1 X.2.1 dX9_beginAnew_6 (by decide) ?_
  have t_4 : At S_1 x 29 := tAt_sI eS_1 ha_x
  refine r_putI (v := 0) X hw t_4 rfl 3 903 tyX9 (by decide) rfl inn_X9_beginAnew_9 tyX9_ok nmX9 (by decide) (X.2.2.2.1 (.fieldLink RX9 40 "SilkMill$Strand" "silk" "I") (by decide +kernel)) rfl (Or.inl rfl) rfl rfl (Nat.le_of_ble_eq_true rfl) (st_903 _ _) dX9_beginAnew_7 (fun H locs hw => ?_)
  obtain ⟨S_5, eS_5⟩ : ∃ T, T = sI S_1 903 x (0) := ⟨_, rfl⟩
  rw [← eS_5] at hw
  have hO_6 : Ok eBA S S_5 := hO_2.sI eS_5 (by decide +kernel) (uI_29_903 hO_2.1 t_4)
  have h_7 : pI S_5 903 x = 0 := tI_sIs eS_5
  refine lv_aload_n X.1 X.2.1 dX9_beginAnew_10 rfl (lv_at hl 0 rfl) ?_
  refine lv_iconst (v := 0) X.1 X.2.1 dX9_beginAnew_11 (by decide) ?_
  have t_8 : At S_5 x 29 := tAt_sI eS_5 t_4
  obtain ⟨q_9, q_10, q_11, q_12, n_13, h_14, h_15, h_16, h_17, h_18, h_19, h_20, h_21, h_22, h_23, h_24, h_25, h_26⟩ := gGrwQ hO_6.1 t_8
  refine r_putI (v := 0) X hw t_8 rfl 4 904 tyX9 (by decide) rfl inn_X9_beginAnew_9 tyX9_ok nmX9 (by decide) (X.2.2.2.1 (.fieldLink RX9 43 "SilkMill$Strand" "pieces" "I") (by decide +kernel)) rfl (Or.inl rfl) rfl rfl (Nat.le_of_ble_eq_true rfl) (st_904 _ _) dX9_beginAnew_12 (fun H locs hw => ?_)
  obtain ⟨S_27, eS_27⟩ : ∃ T, T = sI S_5 904 x (0) := ⟨_, rfl⟩
  rw [← eS_27] at hw
  have hO_28 : Ok eBA S S_27 := hO_6.sI eS_27 (by decide +kernel) (uI_29_904 hO_6.1 t_8 h_14 h_22 (by rw [ti_0]; omega) (by rw [ti_0]; omega))
  have h_29 : pI S_27 904 x = 0 := tI_sIs eS_27
  exact ret_v X hw hr hlocks (Nat.le_of_ble_eq_true rfl) (Nat.le_of_ble_eq_true rfl) ⟨hO_28, (by unfold BaO; rw [eS_27, eS_5, eS_1])⟩ dX9_beginAnew_15
set_option maxHeartbeats 4000000 in
set_option maxRecDepth 100000 in
theorem k_X9_addMetre7 (l : Launch) (G : va_G) (cy : Nat → ClassId) (κ : Nat → Nat) (S : PS) (sz : Nat) (x : Nat) (a1 : Int32) (a1_z : Int) (a2 : Int32) (a2_z : Int) (hG : GX S) (ha_x : At S x 29) (hz_a1 : a1.toInt = a1_z) (hz_a2 : a2.toInt = a2_z) : Cv l yX9_addMetre wsX9_addMetre ({ frames := 1, cells := 0, slots := 0, locals := 48 }) G cy κ S sz [.ref x, .int (a1), .int (a2)] (fun (S9 : PS) => Ok eAM S S9 ∧ (((pI S 902 x).toInt < 300 → AmO S S9 x a1 a2) ∧ (¬ (pI S 902 x).toInt < 300 → S9 = S))) := by
  refine ent_m (cc := cX9_addMetre) (maxL := 3) (ret := none) (by decide) rfl (Nat.le_of_ble_eq_true rfl) ?_
  intro p e s m below meth c ls X hr hlocks hin hw hl hsz
  subst hsz
  have X : Cx p c cX9_addMetre 3 s [.ref x, .int (a1), .int (a2)].toArray wsX9_addMetre RX9 m G cy κ (AS S s.heap.size) := X
  have hl : lv_has ls 3 [(0, .ref x), (1, .int (a1)), (2, .int (a2))] := hl
  have rg_a1 : (-2147483648) ≤ a1_z ∧ a1_z ≤ 2147483647 := by rw [← hz_a1]; exact ⟨z_lo _, z_hi _⟩
  have rg_a2 : (-2147483648) ≤ a2_z ∧ a2_z ≤ 2147483647 := by rw [← hz_a2]; exact ⟨z_lo _, z_hi _⟩
  have hO : Ok eAM S S := Ok.rf hG
  obtain ⟨v_1, ev_1⟩ : ∃ v, pI S 902 x = v := ⟨_, rfl⟩
  have rg_2 := gI_29_902 hO.1 ha_x; rw [ev_1] at rg_2
  have pz_3 : (pI S 902 x).toInt = v_1.toInt := by rw [ev_1]
  have pz_4 : (pI S 902 x).toInt = v_1.toInt := (congrArg Int32.toInt ev_1).trans rfl
  obtain ⟨v_5, ev_5⟩ : ∃ v, pI S 903 x = v := ⟨_, rfl⟩
  have rg_7 := And.intro (z_lo v_5) (z_hi v_5)
  have pz_8 : (pI S 903 x).toInt = v_5.toInt := by rw [ev_5]
  obtain ⟨q_9, h_10, h_11, h_12⟩ := gQ_29_900 hO.1 ha_x
  obtain ⟨q_13, h_14, h_15, h_16⟩ := gQ_29_901 hO.1 ha_x
  refine lv_aload_n X.1 X.2.1 dX9_addMetre_0 rfl (lv_at hl 0 rfl) ?_
  refine r_getI (g := 902) (x := v_1) X hw ha_x rfl 2 ev_1 (by decide) rfl inn_X9_addMetre_9 (by decide) (X.2.2.2.1 (.fieldLink RX9 30 "SilkMill$Strand" "metres" "I") (by decide +kernel)) rfl (gv_902 _ _) dX9_addMetre_1 ?_
  refine lv_sipush (v := 300) X.1 X.2.1 dX9_addMetre_4 (by decide) ?_
  refine lv_icmp_ge (tgt := 50) X.1 X.2.1 dX9_addMetre_7 (by decide) (fun c_17 => ?_) (fun c_17 => ?_)
  · have z_b_18 := trivial
    have k_19 : v_1.toInt ≥ 300 := z_le ti_300 rfl c_17
    exact ret_v X hw hr hlocks (Nat.le_of_ble_eq_true rfl) (Nat.le_of_ble_eq_true rfl) ⟨hO, ⟨fun h => absurd h (by omega), fun _ => rfl⟩⟩ dX9_addMetre_50
  · have z_b_20 := trivial
    have k_21 : v_1.toInt < 300 := z_nle ti_300 rfl c_17
    refine lv_aload_n X.1 X.2.1 dX9_addMetre_10 rfl (lv_at hl 0 rfl) ?_
    refine r_getR (g := 900) X hw ha_x rfl 0 h_10 (by decide) rfl inn_X9_addMetre_9 (by decide) (X.2.2.2.1 (.fieldLink RX9 9 "SilkMill$Strand" "fineness" "[I") (by decide +kernel)) rfl (gv_900 _ _) dX9_addMetre_11 ?_
    refine lv_aload_n X.1 X.2.1 dX9_addMetre_14 rfl (lv_at hl 0 rfl) ?_
    refine r_getI (g := 902) (x := v_1) X hw ha_x rfl 2 ev_1 (by decide) rfl inn_X9_addMetre_9 (by decide) (X.2.2.2.1 (.fieldLink RX9 30 "SilkMill$Strand" "metres" "I") (by decide +kernel)) rfl (gv_902 _ _) dX9_addMetre_15 ?_
    refine lv_iload_n X.1 X.2.1 dX9_addMetre_18 rfl (lv_at hl 1 rfl) ?_
    refine r_iast X hw h_11 rfl (by rw [h_12]; exact z_ix rfl (by omega) (by omega)) dX9_addMetre_19 (fun H locs hw => ?_)
    obtain ⟨S_22, eS_22⟩ : ∃ T, T = sA S q_9 (upd (pA S q_9) (Int32.toNatClampNeg (v_1)) (a1)) := ⟨_, rfl⟩
    rw [← eS_22] at hw
    have hO_23 : Ok eAM S S_22 := hO.sA eS_22 h_11 (by decide +kernel) (uA_1614 hO.1 h_11)
    have h_24 : pA S_22 q_9 (Int32.toNatClampNeg (v_1)) = a1 := tA_sAs eS_22
    refine lv_aload_n X.1 X.2.1 dX9_addMetre_20 rfl (lv_at hl 0 rfl) ?_
    have t_25 : At S_22 x 29 := tAt_sA eS_22 ha_x
    have t_26 : pR S_22 901 x = some q_13 := tR_sA eS_22 h_14
    refine r_getR (g := 901) X hw t_25 rfl 1 t_26 (by decide) rfl inn_X9_addMetre_9 (by decide) (X.2.2.2.1 (.fieldLink RX9 15 "SilkMill$Strand" "endCounts" "[I") (by decide +kernel)) rfl (gv_901 _ _) dX9_addMetre_21 ?_
    refine lv_aload_n X.1 X.2.1 dX9_addMetre_24 rfl (lv_at hl 0 rfl) ?_
    have t_27 : pI S_22 902 x = v_1 := tI_sA eS_22 ev_1
    refine r_getI (g := 902) (x := v_1) X hw t_25 rfl 2 t_27 (by decide) rfl inn_X9_addMetre_9 (by decide) (X.2.2.2.1 (.fieldLink RX9 30 "SilkMill$Strand" "metres" "I") (by decide +kernel)) rfl (gv_902 _ _) dX9_addMetre_25 ?_
    refine lv_iload_n X.1 X.2.1 dX9_addMetre_28 rfl (lv_at hl 2 rfl) ?_
    have t_28 : At S_22 q_13 1634 := tAt_sA eS_22 h_15
    have t_29 : pN S_22 q_13 = 300 := tN_sA eS_22 h_16
    clear h_16
    refine r_iast X hw t_28 rfl (by rw [t_29]; exact z_ix rfl (by omega) (by omega)) dX9_addMetre_29 (fun H locs hw => ?_)
    obtain ⟨S_30, eS_30⟩ : ∃ T, T = sA S_22 q_13 (upd (pA S_22 q_13) (Int32.toNatClampNeg (v_1)) (a2)) := ⟨_, rfl⟩
    rw [← eS_30] at hw
    have hO_31 : Ok eAM S S_30 := hO_23.sA eS_30 t_28 (by decide +kernel) (uA_1634 hO_23.1 t_28)
    have h_32 : pA S_30 q_13 (Int32.toNatClampNeg (v_1)) = a2 := tA_sAs eS_30
    refine lv_aload_n X.1 X.2.1 dX9_addMetre_30 rfl (lv_at hl 0 rfl) ?_
    refine lv_dup X.1 X.2.1 dX9_addMetre_31 rfl ?_
    have t_33 : At S_30 x 29 := tAt_sA eS_30 t_25
    have t_34 : pI S_30 902 x = v_1 := tI_sA eS_30 t_27
    refine r_getI (g := 902) (x := v_1) X hw t_33 rfl 2 t_34 (by decide) rfl inn_X9_addMetre_9 (by decide) (X.2.2.2.1 (.fieldLink RX9 30 "SilkMill$Strand" "metres" "I") (by decide +kernel)) rfl (gv_902 _ _) dX9_addMetre_32 ?_
    refine lv_iconst (v := 1) X.1 X.2.1 dX9_addMetre_35 (by decide) ?_
    refine lv_iadd X.1 X.2.1 dX9_addMetre_36 ?_
    refine lv_topi (fun v_35 ev_35 => ?_)
    have z_36 : v_35.toInt = v_1.toInt + 1 := z_add ev_35 rfl ti_1 (by omega) (by omega)
    refine r_putI (v := v_35) X hw t_33 rfl 2 902 tyX9 (by decide) rfl inn_X9_addMetre_9 tyX9_ok nmX9 (by decide) (X.2.2.2.1 (.fieldLink RX9 30 "SilkMill$Strand" "metres" "I") (by decide +kernel)) rfl (Or.inl rfl) rfl rfl (Nat.le_of_ble_eq_true rfl) (st_902 _ _) dX9_addMetre_37 (fun H locs hw => ?_)
    obtain ⟨S_37, eS_37⟩ : ∃ T, T = sI S_30 902 x (v_35) := ⟨_, rfl⟩
    rw [← eS_37] at hw
    have hO_38 : Ok eAM S S_37 := hO_31.sI eS_37 (by decide +kernel) (uI_29_902 hO_31.1 t_33 (by omega) (by omega))
    have h_39 : pI S_37 902 x = v_35 := tI_sIs eS_37
    refine lv_aload_n X.1 X.2.1 dX9_addMetre_40 rfl (lv_at hl 0 rfl) ?_
    refine lv_dup X.1 X.2.1 dX9_addMetre_41 rfl ?_
    have t_40 : At S_37 x 29 := tAt_sI eS_37 t_33
    have t_41 : pI S_22 903 x = v_5 := tI_sA eS_22 ev_5
    have t_42 : pI S_30 903 x = v_5 := tI_sA eS_30 t_41
    have t_43 : pI S_37 903 x = v_5 := tI_sI eS_37 rfl t_42
    refine r_getI (g := 903) (x := v_5) X hw t_40 rfl 3 t_43 (by decide) rfl inn_X9_addMetre_9 (by decide) (X.2.2.2.1 (.fieldLink RX9 40 "SilkMill$Strand" "silk" "I") (by decide +kernel)) rfl (gv_903 _ _) dX9_addMetre_42 ?_
    refine lv_iload_n X.1 X.2.1 dX9_addMetre_45 rfl (lv_at hl 1 rfl) ?_
    refine lv_iadd X.1 X.2.1 dX9_addMetre_46 ?_
    refine lv_topi (fun v_44 ev_44 => ?_)
    have rg_45 := And.intro (z_lo v_44) (z_hi v_44)
    refine r_putI (v := v_44) X hw t_40 rfl 3 903 tyX9 (by decide) rfl inn_X9_addMetre_9 tyX9_ok nmX9 (by decide) (X.2.2.2.1 (.fieldLink RX9 40 "SilkMill$Strand" "silk" "I") (by decide +kernel)) rfl (Or.inl rfl) rfl rfl (Nat.le_of_ble_eq_true rfl) (st_903 _ _) dX9_addMetre_47 (fun H locs hw => ?_)
    obtain ⟨S_46, eS_46⟩ : ∃ T, T = sI S_37 903 x (v_44) := ⟨_, rfl⟩
    rw [← eS_46] at hw
    have hO_47 : Ok eAM S S_46 := hO_38.sI eS_46 (by decide +kernel) (uI_29_903 hO_38.1 t_40)
    have h_48 : pI S_46 903 x = v_44 := tI_sIs eS_46
    have am_49 : pA S_22 q_13 = pA S q_13 := by rw [eS_22]; exact if_neg (Ne.symm (At_ne h_11 h_15 (by decide)))
    exact ret_v X hw hr hlocks (Nat.le_of_ble_eq_true rfl) (Nat.le_of_ble_eq_true rfl) ⟨hO_47, ⟨fun _ => ⟨q_9, q_13, h_10, h_14, by rw [ev_1, ev_5, eS_46, eS_37, eS_30, am_49, eS_22, ev_35, ev_44]⟩, fun h => absurd (by omega) h⟩⟩ dX9_addMetre_50
