
set_option maxHeartbeats 4000000 in
set_option maxRecDepth 100000 in
theorem k_X4_init6 (l : Launch) (G : va_G) (cy : Nat → ClassId) (κ : Nat → Nat) (S : PS) (sz : Nat) (x : Nat) (a1 : Int32) (a1_z : Int) (a2 : Int32) (a2_z : Int) (a3 : Int32) (a3_z : Int) (hG : GX S) (ha_x : At S x 184) (hz_a1 : a1.toInt = a1_z) (hz_a2 : a2.toInt = a2_z) (hz_a3 : a3.toInt = a3_z) (hzI : ∀ g, pI S g x = 0) (hzR : ∀ g, pR S g x = none) : Cv l yX4_init wsX4_init ({ frames := 3, cells := 20, slots := 2733, locals := 144 }) G cy κ S sz [.ref x, .int (a1), .int (a2), .int (a3)] (fun (S9 : PS) => Kq S S9 x ∧ GX S9 ∧ At S9 x 4 ∧ Phc S9 = Phc S + 14272 ∧ Phs S9 = Phs S + 42944 ∧ RowE S9 x 400 ∧ RowE S9 x 401 ∧ RowE S9 x 402 ∧ PotN S S9 x a1 a2 a3) := by
  refine ent_m (cc := cX4_init) (maxL := 4) (ret := none) (by decide) rfl (Nat.le_of_ble_eq_true rfl) ?_
  intro p e s m below meth c ls X hr hlocks hin hw hl hsz
  subst hsz
  have X : Cx p c cX4_init 4 s [.ref x, .int (a1), .int (a2), .int (a3)].toArray wsX4_init RX4 m G cy κ (AS S s.heap.size) := X
  have hl : lv_has ls 4 [(0, .ref x), (1, .int (a1)), (2, .int (a2)), (3, .int (a3))] := hl
  have rg_a1 : (-2147483648) ≤ a1_z ∧ a1_z ≤ 2147483647 := by rw [← hz_a1]; exact ⟨z_lo _, z_hi _⟩
  have rg_a2 : (-2147483648) ≤ a2_z ∧ a2_z ≤ 2147483647 := by rw [← hz_a2]; exact ⟨z_lo _, z_hi _⟩
  have rg_a3 : (-2147483648) ≤ a3_z ∧ a3_z ≤ 2147483647 := by rw [← hz_a3]; exact ⟨z_lo _, z_hi _⟩
  have hpc0 : Phc S = Phc S + 0 := rfl
  have hps0 : Phs S = Phs S + 0 := rfl
  have hK : Kq S S x := Kq.rf S _
  refine lv_aload_n X.1 X.2.1 dX4_init_0 rfl (lv_at hl 0 rfl) ?_
  refine W.objInit X.1 X.2.1 X.2.2.2.2.1 (X.2.2.2.1 (.methodLink RX4 3 objectInit) (by decide +kernel)) (X.2.2.2.1 (.instanceMethod objectInit) (by decide +kernel)) (X.2.2.2.1 (.code objectInit ⟨#[0xb1]⟩ 1 none) (by decide +kernel)) rfl (hl.1.trans X.2.2.1.symm) rfl dX4_init_1 (Nat.le_of_ble_eq_true rfl) (Nat.le_of_ble_eq_true rfl) ?_
  refine W.eq (g2 := F0 m 4 ls ([])) rfl ?_
  refine lv_aload_n X.1 X.2.1 dX4_init_4 rfl (lv_at hl 0 rfl) ?_
  refine r_new X hw 185 5 3 1 rfl tyX5 (by decide) rfl inn_X4_init_5 tyX5_ok (X.2.2.2.1 (.classLink RX4 9 RX5) (by decide +kernel)) (X.2.2.2.1 (.instantiable RX5 3) (by decide +kernel)) (X.2.2.2.1 (.initialized RX5) (by decide +kernel)) (zo_5 _) zd_5 (by show 0 + 1 ≤ 1; omega) (by show 0 + 3 ≤ 3; omega) (by show 1 ≤ 20; omega) (by show 3 ≤ 2733; omega) dX4_init_5 (fun q_1 H hq_1 hw => ?_)
  obtain ⟨S_2, eS_2⟩ : ∃ T, T = sO S q_1 185 := ⟨_, rfl⟩
  rw [← eS_2] at hw
  have ph_3 : Phc S_2 = Phc S + 0 := (show Phc S_2 = Phc S from Ph_sO hG hq_1 eS_2 (by decide)).trans hpc0
  have ph_4 : Phs S_2 = Phs S + 0 := (show Phs S_2 = Phs S from Ph_sO hG hq_1 eS_2 (by decide)).trans hps0
  clear hpc0
  clear hps0
  have hK_5 : Kq S S_2 x := hK.sO hq_1 eS_2
  have hg_6 : GX S_2 := by rw [eS_2]; exact GX_O hG hq_1 (by decide +kernel)
  have hn0_q_1 := hK.new hq_1
  have ha_7 : At S_2 q_1 185 := by rw [eS_2]; exact At_nO _ _ _
  have hzI_q_1 : ∀ g, pI S_2 g q_1 = 0 := fun g => by rw [eS_2]; exact pI_sO_new
  have hzR_q_1 : ∀ g, pR S_2 g q_1 = none := fun g => by rw [eS_2]; exact if_pos rfl
  refine lv_dup X.1 X.2.1 dX4_init_8 rfl ?_
  refine lv_sipush (v := 600) X.1 X.2.1 dX4_init_9 (by decide) ?_
  refine k_v (rm := { frames := 2, cells := 1, slots := 600, locals := 96 }) (av := [.ref q_1, .int 600]) X hw (va_runI (As := [.int 600]) (rest := [.ref q_1, .ref x]) (cfix X) (k_X5_init6 l G cy κ S_2 _ q_1 (600) (600) hg_6 ha_7 ti_600 hzI_q_1 hzR_q_1 (by omega) (by omega)) (cwI 1 X.2.2.2.1 gX4_init_X5_init rfl rfl rfl (X.2.2.2.1 (.initialized RX5) (by decide +kernel)) (X.2.2.2.1 (.methodLink RX4 11 yX5_init) (by decide +kernel)) (X.2.2.2.1 (.instanceMethod yX5_init) (by decide +kernel)) rfl (by decide +kernel) ⟨Nat.le_of_ble_eq_true rfl, Nat.le_of_ble_eq_true rfl⟩) (pre_S X hw _) rfl rfl hl.1 rfl (lv_room (Nat.le_of_ble_eq_true rfl)) dX4_init_12 ⟨(by show 1 + 1 ≤ 20; omega), (by show 3 + 600 ≤ 2733; omega)⟩) 2 603 (by show 1 + 1 ≤ 2; omega) (by show 3 + 600 ≤ 603; omega) (fun S_9 H locs hp hw hfr hnw => ?_)
  obtain ⟨hK_10, hg_11, ha_12, ph_13, ph_14, kx_15, kx_16, kx_17, kx_18, kx_19, kx_20, kx_21⟩ := hp
  have hK_22 : Kq S S_9 x := hK_5.sub hn0_q_1 hK_10
  have ph_23 : Phc S_9 = Phc S + 0 := by omega
  have ph_24 : Phs S_9 = Phs S + 0 := by omega
  clear ph_3
  clear ph_4
  clear ph_13
  clear ph_14
  have t_25 : At S_2 x 184 := by rw [eS_2]; exact At_sO ha_x hq_1
  have t_26 : At S_9 x 184 := hK_10.at ha_7 t_25 (by decide)
  refine r_putR X hw t_26 rfl 0 400 (some q_1) rfl tyX4 (by decide) rfl inn_X4_init_4 tyX4_ok nmX4 (by decide) (X.2.2.2.1 (.fieldLink RX4 14 "SilkMill$Pot" "basket" "LSilkMill$Row;") (by decide +kernel)) rfl (Or.inr ⟨rfl, hin, rfl⟩) (fun _ => rfl) rfl (fun _ => rfl) rfl (Nat.le_of_ble_eq_true rfl) (st_400 _ _) dX4_init_15 (fun H locs hw => ?_)
  obtain ⟨S_27, eS_27⟩ : ∃ T, T = sR S_9 400 x (some q_1) := ⟨_, rfl⟩
  rw [← eS_27] at hw
  have ph_28 : Phc S_27 = Phc S + 0 := (show Phc S_27 = Phc S_9 from Ph_rawR t_26 (by decide) eS_27).trans ph_23
  have ph_29 : Phs S_27 = Phs S + 0 := (show Phs S_27 = Phs S_9 from Ph_rawR t_26 (by decide) eS_27).trans ph_24
  clear ph_23
  clear ph_24
  have hK_30 : Kq S S_27 x := hK_22.sR eS_27
  have hg_31 : GX S_27 := by rw [eS_27]; exact GX_rawR hg_11 t_26 (by decide +kernel)
  have h_32 : pR S_27 400 x = some q_1 := tR_sRs eS_27
  refine lv_aload_n X.1 X.2.1 dX4_init_18 rfl (lv_at hl 0 rfl) ?_
  refine r_new X hw 185 5 606 3 rfl tyX5 (by decide) rfl inn_X4_init_5 tyX5_ok (X.2.2.2.1 (.classLink RX4 9 RX5) (by decide +kernel)) (X.2.2.2.1 (.instantiable RX5 3) (by decide +kernel)) (X.2.2.2.1 (.initialized RX5) (by decide +kernel)) (zo_5 _) zd_5 (by show 2 + 1 ≤ 3; omega) (by show 603 + 3 ≤ 606; omega) (by show 3 ≤ 20; omega) (by show 606 ≤ 2733; omega) dX4_init_19 (fun q_33 H hq_33 hw => ?_)
  obtain ⟨S_34, eS_34⟩ : ∃ T, T = sO S_27 q_33 185 := ⟨_, rfl⟩
  rw [← eS_34] at hw
  have ph_35 : Phc S_34 = Phc S + 0 := (show Phc S_34 = Phc S_27 from Ph_sO hg_31 hq_33 eS_34 (by decide)).trans ph_28
  have ph_36 : Phs S_34 = Phs S + 0 := (show Phs S_34 = Phs S_27 from Ph_sO hg_31 hq_33 eS_34 (by decide)).trans ph_29
  clear ph_28
  clear ph_29
  have hK_37 : Kq S S_34 x := hK_30.sO hq_33 eS_34
  have hg_38 : GX S_34 := by rw [eS_34]; exact GX_O hg_31 hq_33 (by decide +kernel)
  have hn0_q_33 := hK_30.new hq_33
  have ha_39 : At S_34 q_33 185 := by rw [eS_34]; exact At_nO _ _ _
  have hzI_q_33 : ∀ g, pI S_34 g q_33 = 0 := fun g => by rw [eS_34]; exact pI_sO_new
  have hzR_q_33 : ∀ g, pR S_34 g q_33 = none := fun g => by rw [eS_34]; exact if_pos rfl
  refine lv_dup X.1 X.2.1 dX4_init_22 rfl ?_
  refine lv_bipush (v := 12) X.1 X.2.1 dX4_init_23 (by decide) ?_
  refine k_v (rm := { frames := 2, cells := 1, slots := 600, locals := 96 }) (av := [.ref q_33, .int 12]) X hw (va_runI (As := [.int 12]) (rest := [.ref q_33, .ref x]) (cfix X) (k_X5_init6 l G cy κ S_34 _ q_33 (12) (12) hg_38 ha_39 ti_12 hzI_q_33 hzR_q_33 (by omega) (by omega)) (cwI 1 X.2.2.2.1 gX4_init_X5_init rfl rfl rfl (X.2.2.2.1 (.initialized RX5) (by decide +kernel)) (X.2.2.2.1 (.methodLink RX4 11 yX5_init) (by decide +kernel)) (X.2.2.2.1 (.instanceMethod yX5_init) (by decide +kernel)) rfl (by decide +kernel) ⟨Nat.le_of_ble_eq_true rfl, Nat.le_of_ble_eq_true rfl⟩) (pre_S X hw _) rfl rfl hl.1 rfl (lv_room (Nat.le_of_ble_eq_true rfl)) dX4_init_25 ⟨(by show 3 + 1 ≤ 20; omega), (by show 606 + 600 ≤ 2733; omega)⟩) 4 1206 (by show 3 + 1 ≤ 4; omega) (by show 606 + 600 ≤ 1206; omega) (fun S_41 H locs hp hw hfr hnw => ?_)
  obtain ⟨hK_42, hg_43, ha_44, ph_45, ph_46, kx_47, kx_48, kx_49, kx_50, kx_51, kx_52, kx_53⟩ := hp
  have hK_54 : Kq S S_41 x := hK_37.sub hn0_q_33 hK_42
  have ph_55 : Phc S_41 = Phc S + 0 := by omega
  have ph_56 : Phs S_41 = Phs S + 0 := by omega
  clear ph_35
  clear ph_36
  clear ph_45
  clear ph_46
  have t_57 : At S_27 x 184 := tAt_sR eS_27 t_26
  have t_58 : At S_34 x 184 := by rw [eS_34]; exact At_sO t_57 hq_33
  have t_59 : At S_41 x 184 := hK_42.at ha_39 t_58 (by decide)
  refine r_putR X hw t_59 rfl 1 401 (some q_33) rfl tyX4 (by decide) rfl inn_X4_init_4 tyX4_ok nmX4 (by decide) (X.2.2.2.1 (.fieldLink RX4 20 "SilkMill$Pot" "ends" "LSilkMill$Row;") (by decide +kernel)) rfl (Or.inr ⟨rfl, hin, rfl⟩) (fun _ => rfl) rfl (fun _ => rfl) rfl (Nat.le_of_ble_eq_true rfl) (st_401 _ _) dX4_init_28 (fun H locs hw => ?_)
  obtain ⟨S_60, eS_60⟩ : ∃ T, T = sR S_41 401 x (some q_33) := ⟨_, rfl⟩
  rw [← eS_60] at hw
  have ph_61 : Phc S_60 = Phc S + 0 := (show Phc S_60 = Phc S_41 from Ph_rawR t_59 (by decide) eS_60).trans ph_55
  have ph_62 : Phs S_60 = Phs S + 0 := (show Phs S_60 = Phs S_41 from Ph_rawR t_59 (by decide) eS_60).trans ph_56
  clear ph_55
  clear ph_56
  have hK_63 : Kq S S_60 x := hK_54.sR eS_60
  have hg_64 : GX S_60 := by rw [eS_60]; exact GX_rawR hg_43 t_59 (by decide +kernel)
  have h_65 : pR S_60 401 x = some q_33 := tR_sRs eS_60
  refine lv_aload_n X.1 X.2.1 dX4_init_31 rfl (lv_at hl 0 rfl) ?_
  refine r_new X hw 185 5 1209 5 rfl tyX5 (by decide) rfl inn_X4_init_5 tyX5_ok (X.2.2.2.1 (.classLink RX4 9 RX5) (by decide +kernel)) (X.2.2.2.1 (.instantiable RX5 3) (by decide +kernel)) (X.2.2.2.1 (.initialized RX5) (by decide +kernel)) (zo_5 _) zd_5 (by show 4 + 1 ≤ 5; omega) (by show 1206 + 3 ≤ 1209; omega) (by show 5 ≤ 20; omega) (by show 1209 ≤ 2733; omega) dX4_init_32 (fun q_66 H hq_66 hw => ?_)
  obtain ⟨S_67, eS_67⟩ : ∃ T, T = sO S_60 q_66 185 := ⟨_, rfl⟩
  rw [← eS_67] at hw
  have ph_68 : Phc S_67 = Phc S + 0 := (show Phc S_67 = Phc S_60 from Ph_sO hg_64 hq_66 eS_67 (by decide)).trans ph_61
  have ph_69 : Phs S_67 = Phs S + 0 := (show Phs S_67 = Phs S_60 from Ph_sO hg_64 hq_66 eS_67 (by decide)).trans ph_62
  clear ph_61
  clear ph_62
  have hK_70 : Kq S S_67 x := hK_63.sO hq_66 eS_67
  have hg_71 : GX S_67 := by rw [eS_67]; exact GX_O hg_64 hq_66 (by decide +kernel)
  have hn0_q_66 := hK_63.new hq_66
  have ha_72 : At S_67 q_66 185 := by rw [eS_67]; exact At_nO _ _ _
  have hzI_q_66 : ∀ g, pI S_67 g q_66 = 0 := fun g => by rw [eS_67]; exact pI_sO_new
  have hzR_q_66 : ∀ g, pR S_67 g q_66 = none := fun g => by rw [eS_67]; exact if_pos rfl
  refine lv_dup X.1 X.2.1 dX4_init_35 rfl ?_
  refine lv_sipush (v := 600) X.1 X.2.1 dX4_init_36 (by decide) ?_
  refine k_v (rm := { frames := 2, cells := 1, slots := 600, locals := 96 }) (av := [.ref q_66, .int 600]) X hw (va_runI (As := [.int 600]) (rest := [.ref q_66, .ref x]) (cfix X) (k_X5_init6 l G cy κ S_67 _ q_66 (600) (600) hg_71 ha_72 ti_600 hzI_q_66 hzR_q_66 (by omega) (by omega)) (cwI 1 X.2.2.2.1 gX4_init_X5_init rfl rfl rfl (X.2.2.2.1 (.initialized RX5) (by decide +kernel)) (X.2.2.2.1 (.methodLink RX4 11 yX5_init) (by decide +kernel)) (X.2.2.2.1 (.instanceMethod yX5_init) (by decide +kernel)) rfl (by decide +kernel) ⟨Nat.le_of_ble_eq_true rfl, Nat.le_of_ble_eq_true rfl⟩) (pre_S X hw _) rfl rfl hl.1 rfl (lv_room (Nat.le_of_ble_eq_true rfl)) dX4_init_39 ⟨(by show 5 + 1 ≤ 20; omega), (by show 1209 + 600 ≤ 2733; omega)⟩) 6 1809 (by show 5 + 1 ≤ 6; omega) (by show 1209 + 600 ≤ 1809; omega) (fun S_74 H locs hp hw hfr hnw => ?_)
  obtain ⟨hK_75, hg_76, ha_77, ph_78, ph_79, kx_80, kx_81, kx_82, kx_83, kx_84, kx_85, kx_86⟩ := hp
  have hK_87 : Kq S S_74 x := hK_70.sub hn0_q_66 hK_75
  have ph_88 : Phc S_74 = Phc S + 0 := by omega
  have ph_89 : Phs S_74 = Phs S + 0 := by omega
  clear ph_68
  clear ph_69
  clear ph_78
  clear ph_79
  have t_90 : At S_60 x 184 := tAt_sR eS_60 t_59
  have t_91 : At S_67 x 184 := by rw [eS_67]; exact At_sO t_90 hq_66
  have t_92 : At S_74 x 184 := hK_75.at ha_72 t_91 (by decide)
  refine r_putR X hw t_92 rfl 2 402 (some q_66) rfl tyX4 (by decide) rfl inn_X4_init_4 tyX4_ok nmX4 (by decide) (X.2.2.2.1 (.fieldLink RX4 23 "SilkMill$Pot" "lost" "LSilkMill$Row;") (by decide +kernel)) rfl (Or.inr ⟨rfl, hin, rfl⟩) (fun _ => rfl) rfl (fun _ => rfl) rfl (Nat.le_of_ble_eq_true rfl) (st_402 _ _) dX4_init_42 (fun H locs hw => ?_)
  obtain ⟨S_93, eS_93⟩ : ∃ T, T = sR S_74 402 x (some q_66) := ⟨_, rfl⟩
  rw [← eS_93] at hw
  have ph_94 : Phc S_93 = Phc S + 0 := (show Phc S_93 = Phc S_74 from Ph_rawR t_92 (by decide) eS_93).trans ph_88
  have ph_95 : Phs S_93 = Phs S + 0 := (show Phs S_93 = Phs S_74 from Ph_rawR t_92 (by decide) eS_93).trans ph_89
  clear ph_88
  clear ph_89
  have hK_96 : Kq S S_93 x := hK_87.sR eS_93
  have hg_97 : GX S_93 := by rw [eS_93]; exact GX_rawR hg_76 t_92 (by decide +kernel)
  have h_98 : pR S_93 402 x = some q_66 := tR_sRs eS_93
  refine lv_aload_n X.1 X.2.1 dX4_init_45 rfl (lv_at hl 0 rfl) ?_
  refine r_new X hw 189 9 1818 7 rfl tyX9 (by decide) rfl inn_X4_init_9 tyX9_ok (X.2.2.2.1 (.classLink RX4 26 RX9) (by decide +kernel)) (X.2.2.2.1 (.instantiable RX9 9) (by decide +kernel)) (X.2.2.2.1 (.initialized RX9) (by decide +kernel)) (zo_9 _) zd_9 (by show 6 + 1 ≤ 7; omega) (by show 1809 + 9 ≤ 1818; omega) (by show 7 ≤ 20; omega) (by show 1818 ≤ 2733; omega) dX4_init_46 (fun q_99 H hq_99 hw => ?_)
  obtain ⟨S_100, eS_100⟩ : ∃ T, T = sO S_93 q_99 189 := ⟨_, rfl⟩
  rw [← eS_100] at hw
  have ph_101 : Phc S_100 = Phc S + 0 := (show Phc S_100 = Phc S_93 from Ph_sO hg_97 hq_99 eS_100 (by decide)).trans ph_94
  have ph_102 : Phs S_100 = Phs S + 0 := (show Phs S_100 = Phs S_93 from Ph_sO hg_97 hq_99 eS_100 (by decide)).trans ph_95
  clear ph_94
  clear ph_95
  have hK_103 : Kq S S_100 x := hK_96.sO hq_99 eS_100
  have hg_104 : GX S_100 := by rw [eS_100]; exact GX_O hg_97 hq_99 (by decide +kernel)
  have hn0_q_99 := hK_96.new hq_99
  have ha_105 : At S_100 q_99 189 := by rw [eS_100]; exact At_nO _ _ _
  have hzI_q_99 : ∀ g, pI S_100 g q_99 = 0 := fun g => by rw [eS_100]; exact pI_sO_new
  have hzR_q_99 : ∀ g, pR S_100 g q_99 = none := fun g => by rw [eS_100]; exact if_pos rfl
  refine lv_dup X.1 X.2.1 dX4_init_49 rfl ?_
  refine k_v (rm := { frames := 2, cells := 6, slots := 728, locals := 96 }) (av := [.ref q_99]) X hw (va_runI (As := []) (rest := [.ref q_99, .ref x]) (cfix X) (k_X9_init6 l G cy κ S_100 _ q_99 hg_104 ha_105 hzI_q_99 hzR_q_99) (cwI 0 X.2.2.2.1 gX4_init_X9_init rfl rfl rfl (X.2.2.2.1 (.initialized RX9) (by decide +kernel)) (X.2.2.2.1 (.methodLink RX4 28 yX9_init) (by decide +kernel)) (X.2.2.2.1 (.instanceMethod yX9_init) (by decide +kernel)) rfl (by decide +kernel) ⟨Nat.le_of_ble_eq_true rfl, Nat.le_of_ble_eq_true rfl⟩) (pre_S X hw _) rfl rfl hl.1 rfl (lv_room (Nat.le_of_ble_eq_true rfl)) dX4_init_50 ⟨(by show 7 + 6 ≤ 20; omega), (by show 1818 + 728 ≤ 2733; omega)⟩) 13 2546 (by show 7 + 6 ≤ 13; omega) (by show 1818 + 728 ≤ 2546; omega) (fun S_107 H locs hp hw hfr hnw => ?_)
  obtain ⟨hK_108, hg_109, ha_110, ph_111, ph_112, kx_113, kx_114, kx_115, kx_116, kx_117, kx_118, kx_119, kx_120⟩ := hp
  have hK_121 : Kq S S_107 x := hK_103.sub hn0_q_99 hK_108
  have ph_122 : Phc S_107 = Phc S + 14272 := by omega
  have ph_123 : Phs S_107 = Phs S + 42944 := by omega
  clear ph_101
  clear ph_102
  clear ph_111
  clear ph_112
  have t_124 : At S_93 x 184 := tAt_sR eS_93 t_92
  have t_125 : At S_100 x 184 := by rw [eS_100]; exact At_sO t_124 hq_99
  have t_126 : At S_107 x 184 := hK_108.at ha_105 t_125 (by decide)
  refine r_putR X hw t_126 rfl 3 403 (some q_99) rfl tyX4 (by decide) rfl inn_X4_init_4 tyX4_ok nmX4 (by decide) (X.2.2.2.1 (.fieldLink RX4 29 "SilkMill$Pot" "strand" "LSilkMill$Strand;") (by decide +kernel)) rfl (Or.inr ⟨rfl, hin, rfl⟩) (fun _ => rfl) rfl (fun _ => rfl) rfl (Nat.le_of_ble_eq_true rfl) (st_403 _ _) dX4_init_53 (fun H locs hw => ?_)
  obtain ⟨S_127, eS_127⟩ : ∃ T, T = sR S_107 403 x (some q_99) := ⟨_, rfl⟩
  rw [← eS_127] at hw
  have ph_128 : Phc S_127 = Phc S + 14272 := (show Phc S_127 = Phc S_107 from Ph_rawR t_126 (by decide) eS_127).trans ph_122
  have ph_129 : Phs S_127 = Phs S + 42944 := (show Phs S_127 = Phs S_107 from Ph_rawR t_126 (by decide) eS_127).trans ph_123
  clear ph_122
  clear ph_123
  have hK_130 : Kq S S_127 x := hK_121.sR eS_127
  have hg_131 : GX S_127 := by rw [eS_127]; exact GX_rawR hg_109 t_126 (by decide +kernel)
  have h_132 : pR S_127 403 x = some q_99 := tR_sRs eS_127
  refine lv_aload_n X.1 X.2.1 dX4_init_56 rfl (lv_at hl 0 rfl) ?_
  refine r_new X hw 186 6 2553 14 rfl tyX6 (by decide) rfl inn_X4_init_6 tyX6_ok (X.2.2.2.1 (.classLink RX4 33 RX6) (by decide +kernel)) (X.2.2.2.1 (.instantiable RX6 7) (by decide +kernel)) (X.2.2.2.1 (.initialized RX6) (by decide +kernel)) (zo_6 _) zd_6 (by show 13 + 1 ≤ 14; omega) (by show 2546 + 7 ≤ 2553; omega) (by show 14 ≤ 20; omega) (by show 2553 ≤ 2733; omega) dX4_init_57 (fun q_133 H hq_133 hw => ?_)
  obtain ⟨S_134, eS_134⟩ : ∃ T, T = sO S_127 q_133 186 := ⟨_, rfl⟩
  rw [← eS_134] at hw
  have ph_135 : Phc S_134 = Phc S + 14272 := (show Phc S_134 = Phc S_127 from Ph_sO hg_131 hq_133 eS_134 (by decide)).trans ph_128
  have ph_136 : Phs S_134 = Phs S + 42944 := (show Phs S_134 = Phs S_127 from Ph_sO hg_131 hq_133 eS_134 (by decide)).trans ph_129
  clear ph_128
  clear ph_129
  have hK_137 : Kq S S_134 x := hK_130.sO hq_133 eS_134
  have hg_138 : GX S_134 := by rw [eS_134]; exact GX_O hg_131 hq_133 (by decide +kernel)
  have hn0_q_133 := hK_130.new hq_133
  have ha_139 : At S_134 q_133 186 := by rw [eS_134]; exact At_nO _ _ _
  have hzI_q_133 : ∀ g, pI S_134 g q_133 = 0 := fun g => by rw [eS_134]; exact pI_sO_new
  have hzR_q_133 : ∀ g, pR S_134 g q_133 = none := fun g => by rw [eS_134]; exact if_pos rfl
  refine lv_dup X.1 X.2.1 dX4_init_60 rfl ?_
  refine k_v (rm := { frames := 2, cells := 6, slots := 180, locals := 96 }) (av := [.ref q_133]) X hw (va_runIN (As := []) (rest := [.ref q_133, .ref x]) (cfix X) (k_X6_init6 l G cy κ S_134 _ q_133 hg_138 ha_139 hzI_q_133 hzR_q_133) ⟨(va_cnB (host := RX11) 0 X.2.2.2.1 gX4_init_X6_init_n35 rfl rfl rfl (X.2.2.2.2.2.2.2.1.2.1 (RX4, 35, yX6_init) (by decide +kernel)) (X.2.2.2.1 (.initialized RX6) (by decide +kernel)) (by decide +kernel) ⟨Nat.le_of_ble_eq_true rfl, Nat.le_of_ble_eq_true rfl⟩), rfl, (X.2.2.2.1 (.instanceMethod yX6_init) (by decide +kernel))⟩ (pre_S X hw _) rfl rfl hl.1 rfl (lv_room (Nat.le_of_ble_eq_true rfl)) dX4_init_61 ⟨(by show 14 + 6 ≤ 20; omega), (by show 2553 + 180 ≤ 2733; omega)⟩) 20 2733 (by show 14 + 6 ≤ 20; omega) (by show 2553 + 180 ≤ 2733; omega) (fun S_141 H locs hp hw hfr hnw => ?_)
  obtain ⟨hK_142, hg_143, ha_144, ph_145, ph_146, kx_147, kx_148⟩ := hp
  have hK_149 : Kq S S_141 x := hK_137.sub hn0_q_133 hK_142
  have ph_150 : Phc S_141 = Phc S + 14272 := by omega
  have ph_151 : Phs S_141 = Phs S + 42944 := by omega
  clear ph_135
  clear ph_136
  clear ph_145
  clear ph_146
  have t_152 : At S_127 x 184 := tAt_sR eS_127 t_126
  have t_153 : At S_134 x 184 := by rw [eS_134]; exact At_sO t_152 hq_133
  have t_154 : At S_141 x 184 := hK_142.at ha_139 t_153 (by decide)
  refine r_putR X hw t_154 rfl 9 409 (some q_133) rfl tyX4 (by decide) rfl inn_X4_init_4 tyX4_ok nmX4 (by decide) (X.2.2.2.1 (.fieldLink RX4 36 "SilkMill$Pot" "rules" "LSilkMill$Rules;") (by decide +kernel)) rfl (Or.inl rfl) (fun _ => rfl) rfl (fun _ => rfl) rfl (Nat.le_of_ble_eq_true rfl) (st_409 _ _) dX4_init_64 (fun H locs hw => ?_)
  obtain ⟨S_155, eS_155⟩ : ∃ T, T = sR S_141 409 x (some q_133) := ⟨_, rfl⟩
  rw [← eS_155] at hw
  have ph_156 : Phc S_155 = Phc S + 14272 := (show Phc S_155 = Phc S_141 from Ph_rawR t_154 (by decide) eS_155).trans ph_150
  have ph_157 : Phs S_155 = Phs S + 42944 := (show Phs S_155 = Phs S_141 from Ph_rawR t_154 (by decide) eS_155).trans ph_151
  clear ph_150
  clear ph_151
  have hK_158 : Kq S S_155 x := hK_149.sR eS_155
  have hg_159 : GX S_155 := by rw [eS_155]; exact GX_rawR hg_143 t_154 (by decide +kernel)
  have h_160 : pR S_155 409 x = some q_133 := tR_sRs eS_155
  refine lv_aload_n X.1 X.2.1 dX4_init_67 rfl (lv_at hl 0 rfl) ?_
  refine lv_iload_n X.1 X.2.1 dX4_init_68 rfl (lv_at hl 1 rfl) ?_
  have t_161 : At S_155 x 184 := tAt_sR eS_155 t_154
  refine r_putI (v := a1) X hw t_161 rfl 10 410 tyX4 (by decide) rfl inn_X4_init_4 tyX4_ok nmX4 (by decide) (X.2.2.2.1 (.fieldLink RX4 40 "SilkMill$Pot" "potNumber" "I") (by decide +kernel)) rfl (Or.inr ⟨rfl, hin, rfl⟩) rfl rfl (Nat.le_of_ble_eq_true rfl) (st_410 _ _) dX4_init_69 (fun H locs hw => ?_)
  obtain ⟨S_162, eS_162⟩ : ∃ T, T = sI S_155 410 x (a1) := ⟨_, rfl⟩
  rw [← eS_162] at hw
  have ph_163 : Phc S_162 = Phc S + 14272 := (show Phc S_162 = Phc S_155 from Ph_rawI t_161 (by decide) eS_162).trans ph_156
  have ph_164 : Phs S_162 = Phs S + 42944 := (show Phs S_162 = Phs S_155 from Ph_rawI t_161 (by decide) eS_162).trans ph_157
  clear ph_156
  clear ph_157
  have hK_165 : Kq S S_162 x := hK_158.sI eS_162
  have hg_166 : GX S_162 := by rw [eS_162]; exact GX_rawI hg_159 t_161 (by decide +kernel)
  have h_167 : pI S_162 410 x = a1 := tI_sIs eS_162
  refine lv_aload_n X.1 X.2.1 dX4_init_72 rfl (lv_at hl 0 rfl) ?_
  refine lv_iload_n X.1 X.2.1 dX4_init_73 rfl (lv_at hl 2 rfl) ?_
  have t_168 : At S_162 x 184 := tAt_sI eS_162 t_161
  refine r_putI (v := a2) X hw t_168 rfl 4 404 tyX4 (by decide) rfl inn_X4_init_4 tyX4_ok nmX4 (by decide) (X.2.2.2.1 (.fieldLink RX4 44 "SilkMill$Pot" "aim" "I") (by decide +kernel)) rfl (Or.inl rfl) rfl rfl (Nat.le_of_ble_eq_true rfl) (st_404 _ _) dX4_init_74 (fun H locs hw => ?_)
  obtain ⟨S_169, eS_169⟩ : ∃ T, T = sI S_162 404 x (a2) := ⟨_, rfl⟩
  rw [← eS_169] at hw
  have ph_170 : Phc S_169 = Phc S + 14272 := (show Phc S_169 = Phc S_162 from Ph_rawI t_168 (by decide) eS_169).trans ph_163
  have ph_171 : Phs S_169 = Phs S + 42944 := (show Phs S_169 = Phs S_162 from Ph_rawI t_168 (by decide) eS_169).trans ph_164
  clear ph_163
  clear ph_164
  have hK_172 : Kq S S_169 x := hK_165.sI eS_169
  have hg_173 : GX S_169 := by rw [eS_169]; exact GX_rawI hg_166 t_168 (by decide +kernel)
  have h_174 : pI S_169 404 x = a2 := tI_sIs eS_169
  refine lv_aload_n X.1 X.2.1 dX4_init_77 rfl (lv_at hl 0 rfl) ?_
  refine lv_iload_n X.1 X.2.1 dX4_init_78 rfl (lv_at hl 3 rfl) ?_
  have t_175 : At S_169 x 184 := tAt_sI eS_169 t_168
  refine r_putI (v := a3) X hw t_175 rfl 11 411 tyX4 (by decide) rfl inn_X4_init_4 tyX4_ok nmX4 (by decide) (X.2.2.2.1 (.fieldLink RX4 47 "SilkMill$Pot" "find" "I") (by decide +kernel)) rfl (Or.inr ⟨rfl, hin, rfl⟩) rfl rfl (Nat.le_of_ble_eq_true rfl) (st_411 _ _) dX4_init_79 (fun H locs hw => ?_)
  obtain ⟨S_176, eS_176⟩ : ∃ T, T = sI S_169 411 x (a3) := ⟨_, rfl⟩
  rw [← eS_176] at hw
  have ph_177 : Phc S_176 = Phc S + 14272 := (show Phc S_176 = Phc S_169 from Ph_rawI t_175 (by decide) eS_176).trans ph_170
  have ph_178 : Phs S_176 = Phs S + 42944 := (show Phs S_176 = Phs S_169 from Ph_rawI t_175 (by decide) eS_176).trans ph_171
  clear ph_170
  clear ph_171
  have hK_179 : Kq S S_176 x := hK_172.sI eS_176
  have hg_180 : GX S_176 := by rw [eS_176]; exact GX_rawI hg_173 t_175 (by decide +kernel)
  have h_181 : pI S_176 411 x = a3 := tI_sIs eS_176
  have t_182 : At S_176 x 184 := tAt_sI eS_176 t_175
  have nd_183 := nodup_of hw
  have t_185 : At S_27 x 184 := tAt_sR eS_27 t_26
  have t_184 : pR S_34 400 x = some q_1 := by rw [eS_34]; exact (pR_sO_ne (ne_of_new hq_33 t_185.1)).trans h_32
  have t_187 : At S_34 x 184 := by rw [eS_34]; exact At_sO t_185 hq_33
  have t_186 : pR S_41 400 x = some q_1 := (((hK_42 x t_187.1).2 (At_ne t_187 ha_39 (by decide))).2.2.1 400).trans t_184
  have t_188 : pR S_60 400 x = some q_1 := tR_sR eS_60 rfl t_186
  have t_190 : At S_60 x 184 := tAt_sR eS_60 t_59
  have t_189 : pR S_67 400 x = some q_1 := by rw [eS_67]; exact (pR_sO_ne (ne_of_new hq_66 t_190.1)).trans t_188
  have t_192 : At S_67 x 184 := by rw [eS_67]; exact At_sO t_190 hq_66
  have t_191 : pR S_74 400 x = some q_1 := (((hK_75 x t_192.1).2 (At_ne t_192 ha_72 (by decide))).2.2.1 400).trans t_189
  have t_193 : pR S_93 400 x = some q_1 := tR_sR eS_93 rfl t_191
  have t_195 : At S_93 x 184 := tAt_sR eS_93 t_92
  have t_194 : pR S_100 400 x = some q_1 := by rw [eS_100]; exact (pR_sO_ne (ne_of_new hq_99 t_195.1)).trans t_193
  have t_197 : At S_100 x 184 := by rw [eS_100]; exact At_sO t_195 hq_99
  have t_196 : pR S_107 400 x = some q_1 := (((hK_108 x t_197.1).2 (At_ne t_197 ha_105 (by decide))).2.2.1 400).trans t_194
  have t_198 : pR S_127 400 x = some q_1 := tR_sR eS_127 rfl t_196
  have t_200 : At S_127 x 184 := tAt_sR eS_127 t_126
  have t_199 : pR S_134 400 x = some q_1 := by rw [eS_134]; exact (pR_sO_ne (ne_of_new hq_133 t_200.1)).trans t_198
  have t_202 : At S_134 x 184 := by rw [eS_134]; exact At_sO t_200 hq_133
  have t_201 : pR S_141 400 x = some q_1 := (((hK_142 x t_202.1).2 (At_ne t_202 ha_139 (by decide))).2.2.1 400).trans t_199
  have t_203 : pR S_155 400 x = some q_1 := tR_sR eS_155 rfl t_201
  have t_204 : pR S_162 400 x = some q_1 := tR_sI eS_162 t_203
  have t_205 : pR S_169 400 x = some q_1 := tR_sI eS_169 t_204
  have t_206 : pR S_176 400 x = some q_1 := tR_sI eS_176 t_205
  have t_207 : At S_27 q_1 5 := tAt_sR eS_27 ha_12
  have t_208 : At S_34 q_1 5 := by rw [eS_34]; exact At_sO t_207 hq_33
  have t_209 : At S_41 q_1 5 := hK_42.at ha_39 t_208 (by decide)
  have t_210 : At S_60 q_1 5 := tAt_sR eS_60 t_209
  have t_211 : At S_67 q_1 5 := by rw [eS_67]; exact At_sO t_210 hq_66
  have t_212 : At S_74 q_1 5 := hK_75.at ha_72 t_211 (by decide)
  have t_213 : At S_93 q_1 5 := tAt_sR eS_93 t_212
  have t_214 : At S_100 q_1 5 := by rw [eS_100]; exact At_sO t_213 hq_99
  have t_215 : At S_107 q_1 5 := hK_108.at ha_105 t_214 (by decide)
  have t_216 : At S_127 q_1 5 := tAt_sR eS_127 t_215
  have t_217 : At S_134 q_1 5 := by rw [eS_134]; exact At_sO t_216 hq_133
  have t_218 : At S_141 q_1 5 := hK_142.at ha_139 t_217 (by decide)
  have t_219 : At S_155 q_1 5 := tAt_sR eS_155 t_218
  have t_220 : At S_162 q_1 5 := tAt_sI eS_162 t_219
  have t_221 : At S_169 q_1 5 := tAt_sI eS_169 t_220
  have t_222 : At S_176 q_1 5 := tAt_sI eS_176 t_221
  have t_223 : pR S_67 401 x = some q_33 := by rw [eS_67]; exact (pR_sO_ne (ne_of_new hq_66 t_190.1)).trans h_65
  have t_224 : pR S_74 401 x = some q_33 := (((hK_75 x t_192.1).2 (At_ne t_192 ha_72 (by decide))).2.2.1 401).trans t_223
  have t_225 : pR S_93 401 x = some q_33 := tR_sR eS_93 rfl t_224
  have t_226 : pR S_100 401 x = some q_33 := by rw [eS_100]; exact (pR_sO_ne (ne_of_new hq_99 t_195.1)).trans t_225
  have t_227 : pR S_107 401 x = some q_33 := (((hK_108 x t_197.1).2 (At_ne t_197 ha_105 (by decide))).2.2.1 401).trans t_226
  have t_228 : pR S_127 401 x = some q_33 := tR_sR eS_127 rfl t_227
  have t_229 : pR S_134 401 x = some q_33 := by rw [eS_134]; exact (pR_sO_ne (ne_of_new hq_133 t_200.1)).trans t_228
  have t_230 : pR S_141 401 x = some q_33 := (((hK_142 x t_202.1).2 (At_ne t_202 ha_139 (by decide))).2.2.1 401).trans t_229
  have t_231 : pR S_155 401 x = some q_33 := tR_sR eS_155 rfl t_230
  have t_232 : pR S_162 401 x = some q_33 := tR_sI eS_162 t_231
  have t_233 : pR S_169 401 x = some q_33 := tR_sI eS_169 t_232
  have t_234 : pR S_176 401 x = some q_33 := tR_sI eS_176 t_233
  have t_235 : At S_60 q_33 5 := tAt_sR eS_60 ha_44
  have t_236 : At S_67 q_33 5 := by rw [eS_67]; exact At_sO t_235 hq_66
  have t_237 : At S_74 q_33 5 := hK_75.at ha_72 t_236 (by decide)
  have t_238 : At S_93 q_33 5 := tAt_sR eS_93 t_237
  have t_239 : At S_100 q_33 5 := by rw [eS_100]; exact At_sO t_238 hq_99
  have t_240 : At S_107 q_33 5 := hK_108.at ha_105 t_239 (by decide)
  have t_241 : At S_127 q_33 5 := tAt_sR eS_127 t_240
  have t_242 : At S_134 q_33 5 := by rw [eS_134]; exact At_sO t_241 hq_133
  have t_243 : At S_141 q_33 5 := hK_142.at ha_139 t_242 (by decide)
  have t_244 : At S_155 q_33 5 := tAt_sR eS_155 t_243
  have t_245 : At S_162 q_33 5 := tAt_sI eS_162 t_244
  have t_246 : At S_169 q_33 5 := tAt_sI eS_169 t_245
  have t_247 : At S_176 q_33 5 := tAt_sI eS_176 t_246
  have t_248 : pR S_100 402 x = some q_66 := by rw [eS_100]; exact (pR_sO_ne (ne_of_new hq_99 t_195.1)).trans h_98
  have t_249 : pR S_107 402 x = some q_66 := (((hK_108 x t_197.1).2 (At_ne t_197 ha_105 (by decide))).2.2.1 402).trans t_248
  have t_250 : pR S_127 402 x = some q_66 := tR_sR eS_127 rfl t_249
  have t_251 : pR S_134 402 x = some q_66 := by rw [eS_134]; exact (pR_sO_ne (ne_of_new hq_133 t_200.1)).trans t_250
  have t_252 : pR S_141 402 x = some q_66 := (((hK_142 x t_202.1).2 (At_ne t_202 ha_139 (by decide))).2.2.1 402).trans t_251
  have t_253 : pR S_155 402 x = some q_66 := tR_sR eS_155 rfl t_252
  have t_254 : pR S_162 402 x = some q_66 := tR_sI eS_162 t_253
  have t_255 : pR S_169 402 x = some q_66 := tR_sI eS_169 t_254
  have t_256 : pR S_176 402 x = some q_66 := tR_sI eS_176 t_255
  have t_257 : At S_93 q_66 5 := tAt_sR eS_93 ha_77
  have t_258 : At S_100 q_66 5 := by rw [eS_100]; exact At_sO t_257 hq_99
  have t_259 : At S_107 q_66 5 := hK_108.at ha_105 t_258 (by decide)
  have t_260 : At S_127 q_66 5 := tAt_sR eS_127 t_259
  have t_261 : At S_134 q_66 5 := by rw [eS_134]; exact At_sO t_260 hq_133
  have t_262 : At S_141 q_66 5 := hK_142.at ha_139 t_261 (by decide)
  have t_263 : At S_155 q_66 5 := tAt_sR eS_155 t_262
  have t_264 : At S_162 q_66 5 := tAt_sI eS_162 t_263
  have t_265 : At S_169 q_66 5 := tAt_sI eS_169 t_264
  have t_266 : At S_176 q_66 5 := tAt_sI eS_176 t_265
  have t_267 : pR S_134 403 x = some q_99 := by rw [eS_134]; exact (pR_sO_ne (ne_of_new hq_133 t_200.1)).trans h_132
  have t_268 : pR S_141 403 x = some q_99 := (((hK_142 x t_202.1).2 (At_ne t_202 ha_139 (by decide))).2.2.1 403).trans t_267
  have t_269 : pR S_155 403 x = some q_99 := tR_sR eS_155 rfl t_268
  have t_270 : pR S_162 403 x = some q_99 := tR_sI eS_162 t_269
  have t_271 : pR S_169 403 x = some q_99 := tR_sI eS_169 t_270
  have t_272 : pR S_176 403 x = some q_99 := tR_sI eS_176 t_271
  have t_273 : At S_127 q_99 29 := tAt_sR eS_127 ha_110
  have t_274 : At S_134 q_99 29 := by rw [eS_134]; exact At_sO t_273 hq_133
  have t_275 : At S_141 q_99 29 := hK_142.at ha_139 t_274 (by decide)
  have t_276 : At S_155 q_99 29 := tAt_sR eS_155 t_275
  have t_277 : At S_162 q_99 29 := tAt_sI eS_162 t_276
  have t_278 : At S_169 q_99 29 := tAt_sI eS_169 t_277
  have t_279 : At S_176 q_99 29 := tAt_sI eS_176 t_278
  have t_280 : pR S_162 409 x = some q_133 := tR_sI eS_162 h_160
  have t_281 : pR S_169 409 x = some q_133 := tR_sI eS_169 t_280
  have t_282 : pR S_176 409 x = some q_133 := tR_sI eS_176 t_281
  have t_283 : At S_155 q_133 6 := tAt_sR eS_155 ha_144
  have t_284 : At S_162 q_133 6 := tAt_sI eS_162 t_283
  have t_285 : At S_169 q_133 6 := tAt_sI eS_169 t_284
  have t_286 : At S_176 q_133 6 := tAt_sI eS_176 t_285
  obtain ⟨S_287, eS_287⟩ : ∃ T, T = sK S_176 x 4 := ⟨_, rfl⟩
  have hw := Wd_sK (k := 4) hw t_182 rfl; rw [← eS_287] at hw
  have hg9 : GX S_287 := by rw [eS_287]; exact GX_sK hg_180 t_182 (by decide +kernel) (mk_4 ⟨q_1, (by rw [pR_sK]; exact t_206), At_sK t_182 t_222 (by decide)⟩ ⟨q_33, (by rw [pR_sK]; exact t_234), At_sK t_182 t_247 (by decide)⟩ ⟨q_66, (by rw [pR_sK]; exact t_256), At_sK t_182 t_266 (by decide)⟩ ⟨q_99, (by rw [pR_sK]; exact t_272), At_sK t_182 t_279 (by decide)⟩ ⟨q_133, (by rw [pR_sK]; exact t_282), At_sK t_182 t_286 (by decide)⟩)
  have ha9 : At S_287 x 4 := by rw [eS_287]; exact At_nK t_182
  have hk9 : Kq S S_287 x := hK_179.sK eS_287
  have hPhc9 : Phc S_287 = Phc S + 14272 := by rw [show Phc S_287 = Ph fC 8 14400 S_287 from rfl, Ph_sK nd_183 t_182 (by decide) eS_287, ph_0 ha9 (by decide)]; show Phc S_176 + _ = _; omega
  have hPhs9 : Phs S_287 = Phs S + 42944 := by rw [show Phs S_287 = Ph fS 15100 46000 S_287 from rfl, Ph_sK nd_183 t_182 (by decide) eS_287, ph_0 ha9 (by decide)]; show Phs S_176 + _ = _; omega
  have t_288 : pR S_27 501 q_1 = some kx_15 := tR_sR eS_27 rfl kx_16
  have t_290 : At S_27 q_1 5 := tAt_sR eS_27 ha_12
  have t_289 : pR S_34 501 q_1 = some kx_15 := by rw [eS_34]; exact (pR_sO_ne (ne_of_new hq_33 t_290.1)).trans t_288
  have t_292 : At S_34 q_1 5 := by rw [eS_34]; exact At_sO t_290 hq_33
  have t_291 : pR S_41 501 q_1 = some kx_15 := (((hK_42 q_1 t_292.1).2 (At_ne t_292 ha_39 (by decide))).2.2.1 501).trans t_289
  have t_293 : pR S_60 501 q_1 = some kx_15 := tR_sR eS_60 rfl t_291
  have t_295 : At S_41 q_1 5 := hK_42.at ha_39 t_292 (by decide)
  have t_296 : At S_60 q_1 5 := tAt_sR eS_60 t_295
  have t_294 : pR S_67 501 q_1 = some kx_15 := by rw [eS_67]; exact (pR_sO_ne (ne_of_new hq_66 t_296.1)).trans t_293
  have t_298 : At S_67 q_1 5 := by rw [eS_67]; exact At_sO t_296 hq_66
  have t_297 : pR S_74 501 q_1 = some kx_15 := (((hK_75 q_1 t_298.1).2 (At_ne t_298 ha_72 (by decide))).2.2.1 501).trans t_294
  have t_299 : pR S_93 501 q_1 = some kx_15 := tR_sR eS_93 rfl t_297
  have t_301 : At S_74 q_1 5 := hK_75.at ha_72 t_298 (by decide)
  have t_302 : At S_93 q_1 5 := tAt_sR eS_93 t_301
  have t_300 : pR S_100 501 q_1 = some kx_15 := by rw [eS_100]; exact (pR_sO_ne (ne_of_new hq_99 t_302.1)).trans t_299
  have t_304 : At S_100 q_1 5 := by rw [eS_100]; exact At_sO t_302 hq_99
  have t_303 : pR S_107 501 q_1 = some kx_15 := (((hK_108 q_1 t_304.1).2 (At_ne t_304 ha_105 (by decide))).2.2.1 501).trans t_300
  have t_305 : pR S_127 501 q_1 = some kx_15 := tR_sR eS_127 rfl t_303
  have t_307 : At S_107 q_1 5 := hK_108.at ha_105 t_304 (by decide)
  have t_308 : At S_127 q_1 5 := tAt_sR eS_127 t_307
  have t_306 : pR S_134 501 q_1 = some kx_15 := by rw [eS_134]; exact (pR_sO_ne (ne_of_new hq_133 t_308.1)).trans t_305
  have t_310 : At S_134 q_1 5 := by rw [eS_134]; exact At_sO t_308 hq_133
  have t_309 : pR S_141 501 q_1 = some kx_15 := (((hK_142 q_1 t_310.1).2 (At_ne t_310 ha_139 (by decide))).2.2.1 501).trans t_306
  have t_311 : pR S_155 501 q_1 = some kx_15 := tR_sR eS_155 rfl t_309
  have t_312 : pR S_162 501 q_1 = some kx_15 := tR_sI eS_162 t_311
  have t_313 : pR S_169 501 q_1 = some kx_15 := tR_sI eS_169 t_312
  have t_314 : pR S_176 501 q_1 = some kx_15 := tR_sI eS_176 t_313
  have bb_315 : pB S_27 kx_15 = pB S_9 kx_15 := by rw [eS_27]; rfl
  have bb_316 : pB S_34 kx_15 = pB S_9 kx_15 := (show pB S_34 kx_15 = pB S_27 kx_15 from by rw [eS_34]; rfl).trans bb_315
  have t_318 : At S_27 kx_15 16 := tAt_sR eS_27 kx_17
  have t_319 : At S_34 kx_15 16 := by rw [eS_34]; exact At_sO t_318 hq_33
  have bb_317 : pB S_41 kx_15 = pB S_9 kx_15 := (show pB S_41 kx_15 = pB S_34 kx_15 from ((hK_42 kx_15 t_319.1).2 (At_ne t_319 ha_39 (by decide))).2.2.2.2.2).trans bb_316
  have bb_320 : pB S_60 kx_15 = pB S_9 kx_15 := (show pB S_60 kx_15 = pB S_41 kx_15 from by rw [eS_60]; rfl).trans bb_317
  have bb_321 : pB S_67 kx_15 = pB S_9 kx_15 := (show pB S_67 kx_15 = pB S_60 kx_15 from by rw [eS_67]; rfl).trans bb_320
  have t_323 : At S_41 kx_15 16 := hK_42.at ha_39 t_319 (by decide)
  have t_324 : At S_60 kx_15 16 := tAt_sR eS_60 t_323
  have t_325 : At S_67 kx_15 16 := by rw [eS_67]; exact At_sO t_324 hq_66
  have bb_322 : pB S_74 kx_15 = pB S_9 kx_15 := (show pB S_74 kx_15 = pB S_67 kx_15 from ((hK_75 kx_15 t_325.1).2 (At_ne t_325 ha_72 (by decide))).2.2.2.2.2).trans bb_321
  have bb_326 : pB S_93 kx_15 = pB S_9 kx_15 := (show pB S_93 kx_15 = pB S_74 kx_15 from by rw [eS_93]; rfl).trans bb_322
  have bb_327 : pB S_100 kx_15 = pB S_9 kx_15 := (show pB S_100 kx_15 = pB S_93 kx_15 from by rw [eS_100]; rfl).trans bb_326
  have t_329 : At S_74 kx_15 16 := hK_75.at ha_72 t_325 (by decide)
  have t_330 : At S_93 kx_15 16 := tAt_sR eS_93 t_329
  have t_331 : At S_100 kx_15 16 := by rw [eS_100]; exact At_sO t_330 hq_99
  have bb_328 : pB S_107 kx_15 = pB S_9 kx_15 := (show pB S_107 kx_15 = pB S_100 kx_15 from ((hK_108 kx_15 t_331.1).2 (At_ne t_331 ha_105 (by decide))).2.2.2.2.2).trans bb_327
  have bb_332 : pB S_127 kx_15 = pB S_9 kx_15 := (show pB S_127 kx_15 = pB S_107 kx_15 from by rw [eS_127]; rfl).trans bb_328
  have bb_333 : pB S_134 kx_15 = pB S_9 kx_15 := (show pB S_134 kx_15 = pB S_127 kx_15 from by rw [eS_134]; rfl).trans bb_332
  have t_335 : At S_107 kx_15 16 := hK_108.at ha_105 t_331 (by decide)
  have t_336 : At S_127 kx_15 16 := tAt_sR eS_127 t_335
  have t_337 : At S_134 kx_15 16 := by rw [eS_134]; exact At_sO t_336 hq_133
  have bb_334 : pB S_141 kx_15 = pB S_9 kx_15 := (show pB S_141 kx_15 = pB S_134 kx_15 from ((hK_142 kx_15 t_337.1).2 (At_ne t_337 ha_139 (by decide))).2.2.2.2.2).trans bb_333
  have bb_338 : pB S_155 kx_15 = pB S_9 kx_15 := (show pB S_155 kx_15 = pB S_141 kx_15 from by rw [eS_155]; rfl).trans bb_334
  have bb_339 : pB S_162 kx_15 = pB S_9 kx_15 := (show pB S_162 kx_15 = pB S_155 kx_15 from by rw [eS_162]; rfl).trans bb_338
  have bb_340 : pB S_169 kx_15 = pB S_9 kx_15 := (show pB S_169 kx_15 = pB S_162 kx_15 from by rw [eS_169]; rfl).trans bb_339
  have bb_341 : pB S_176 kx_15 = pB S_9 kx_15 := (show pB S_176 kx_15 = pB S_169 kx_15 from by rw [eS_176]; rfl).trans bb_340
  have t_342 : At S_141 kx_15 16 := hK_142.at ha_139 t_337 (by decide)
  have t_343 : At S_155 kx_15 16 := tAt_sR eS_155 t_342
  have t_344 : At S_162 kx_15 16 := tAt_sI eS_162 t_343
  have t_345 : At S_169 kx_15 16 := tAt_sI eS_169 t_344
  have t_346 : At S_176 kx_15 16 := tAt_sI eS_176 t_345
  have t_347 : pR S_60 501 q_33 = some kx_47 := tR_sR eS_60 rfl kx_48
  have t_349 : At S_60 q_33 5 := tAt_sR eS_60 ha_44
  have t_348 : pR S_67 501 q_33 = some kx_47 := by rw [eS_67]; exact (pR_sO_ne (ne_of_new hq_66 t_349.1)).trans t_347
  have t_351 : At S_67 q_33 5 := by rw [eS_67]; exact At_sO t_349 hq_66
  have t_350 : pR S_74 501 q_33 = some kx_47 := (((hK_75 q_33 t_351.1).2 (At_ne t_351 ha_72 (by decide))).2.2.1 501).trans t_348
  have t_352 : pR S_93 501 q_33 = some kx_47 := tR_sR eS_93 rfl t_350
  have t_354 : At S_74 q_33 5 := hK_75.at ha_72 t_351 (by decide)
  have t_355 : At S_93 q_33 5 := tAt_sR eS_93 t_354
  have t_353 : pR S_100 501 q_33 = some kx_47 := by rw [eS_100]; exact (pR_sO_ne (ne_of_new hq_99 t_355.1)).trans t_352
  have t_357 : At S_100 q_33 5 := by rw [eS_100]; exact At_sO t_355 hq_99
  have t_356 : pR S_107 501 q_33 = some kx_47 := (((hK_108 q_33 t_357.1).2 (At_ne t_357 ha_105 (by decide))).2.2.1 501).trans t_353
  have t_358 : pR S_127 501 q_33 = some kx_47 := tR_sR eS_127 rfl t_356
  have t_360 : At S_107 q_33 5 := hK_108.at ha_105 t_357 (by decide)
  have t_361 : At S_127 q_33 5 := tAt_sR eS_127 t_360
  have t_359 : pR S_134 501 q_33 = some kx_47 := by rw [eS_134]; exact (pR_sO_ne (ne_of_new hq_133 t_361.1)).trans t_358
  have t_363 : At S_134 q_33 5 := by rw [eS_134]; exact At_sO t_361 hq_133
  have t_362 : pR S_141 501 q_33 = some kx_47 := (((hK_142 q_33 t_363.1).2 (At_ne t_363 ha_139 (by decide))).2.2.1 501).trans t_359
  have t_364 : pR S_155 501 q_33 = some kx_47 := tR_sR eS_155 rfl t_362
  have t_365 : pR S_162 501 q_33 = some kx_47 := tR_sI eS_162 t_364
  have t_366 : pR S_169 501 q_33 = some kx_47 := tR_sI eS_169 t_365
  have t_367 : pR S_176 501 q_33 = some kx_47 := tR_sI eS_176 t_366
  have bb_368 : pB S_60 kx_47 = pB S_41 kx_47 := by rw [eS_60]; rfl
  have bb_369 : pB S_67 kx_47 = pB S_41 kx_47 := (show pB S_67 kx_47 = pB S_60 kx_47 from by rw [eS_67]; rfl).trans bb_368
  have t_371 : At S_60 kx_47 16 := tAt_sR eS_60 kx_49
  have t_372 : At S_67 kx_47 16 := by rw [eS_67]; exact At_sO t_371 hq_66
  have bb_370 : pB S_74 kx_47 = pB S_41 kx_47 := (show pB S_74 kx_47 = pB S_67 kx_47 from ((hK_75 kx_47 t_372.1).2 (At_ne t_372 ha_72 (by decide))).2.2.2.2.2).trans bb_369
  have bb_373 : pB S_93 kx_47 = pB S_41 kx_47 := (show pB S_93 kx_47 = pB S_74 kx_47 from by rw [eS_93]; rfl).trans bb_370
  have bb_374 : pB S_100 kx_47 = pB S_41 kx_47 := (show pB S_100 kx_47 = pB S_93 kx_47 from by rw [eS_100]; rfl).trans bb_373
  have t_376 : At S_74 kx_47 16 := hK_75.at ha_72 t_372 (by decide)
  have t_377 : At S_93 kx_47 16 := tAt_sR eS_93 t_376
  have t_378 : At S_100 kx_47 16 := by rw [eS_100]; exact At_sO t_377 hq_99
  have bb_375 : pB S_107 kx_47 = pB S_41 kx_47 := (show pB S_107 kx_47 = pB S_100 kx_47 from ((hK_108 kx_47 t_378.1).2 (At_ne t_378 ha_105 (by decide))).2.2.2.2.2).trans bb_374
  have bb_379 : pB S_127 kx_47 = pB S_41 kx_47 := (show pB S_127 kx_47 = pB S_107 kx_47 from by rw [eS_127]; rfl).trans bb_375
  have bb_380 : pB S_134 kx_47 = pB S_41 kx_47 := (show pB S_134 kx_47 = pB S_127 kx_47 from by rw [eS_134]; rfl).trans bb_379
  have t_382 : At S_107 kx_47 16 := hK_108.at ha_105 t_378 (by decide)
  have t_383 : At S_127 kx_47 16 := tAt_sR eS_127 t_382
  have t_384 : At S_134 kx_47 16 := by rw [eS_134]; exact At_sO t_383 hq_133
  have bb_381 : pB S_141 kx_47 = pB S_41 kx_47 := (show pB S_141 kx_47 = pB S_134 kx_47 from ((hK_142 kx_47 t_384.1).2 (At_ne t_384 ha_139 (by decide))).2.2.2.2.2).trans bb_380
  have bb_385 : pB S_155 kx_47 = pB S_41 kx_47 := (show pB S_155 kx_47 = pB S_141 kx_47 from by rw [eS_155]; rfl).trans bb_381
  have bb_386 : pB S_162 kx_47 = pB S_41 kx_47 := (show pB S_162 kx_47 = pB S_155 kx_47 from by rw [eS_162]; rfl).trans bb_385
  have bb_387 : pB S_169 kx_47 = pB S_41 kx_47 := (show pB S_169 kx_47 = pB S_162 kx_47 from by rw [eS_169]; rfl).trans bb_386
  have bb_388 : pB S_176 kx_47 = pB S_41 kx_47 := (show pB S_176 kx_47 = pB S_169 kx_47 from by rw [eS_176]; rfl).trans bb_387
  have t_389 : At S_141 kx_47 16 := hK_142.at ha_139 t_384 (by decide)
  have t_390 : At S_155 kx_47 16 := tAt_sR eS_155 t_389
  have t_391 : At S_162 kx_47 16 := tAt_sI eS_162 t_390
  have t_392 : At S_169 kx_47 16 := tAt_sI eS_169 t_391
  have t_393 : At S_176 kx_47 16 := tAt_sI eS_176 t_392
  have t_394 : pR S_93 501 q_66 = some kx_80 := tR_sR eS_93 rfl kx_81
  have t_396 : At S_93 q_66 5 := tAt_sR eS_93 ha_77
  have t_395 : pR S_100 501 q_66 = some kx_80 := by rw [eS_100]; exact (pR_sO_ne (ne_of_new hq_99 t_396.1)).trans t_394
  have t_398 : At S_100 q_66 5 := by rw [eS_100]; exact At_sO t_396 hq_99
  have t_397 : pR S_107 501 q_66 = some kx_80 := (((hK_108 q_66 t_398.1).2 (At_ne t_398 ha_105 (by decide))).2.2.1 501).trans t_395
  have t_399 : pR S_127 501 q_66 = some kx_80 := tR_sR eS_127 rfl t_397
  have t_401 : At S_107 q_66 5 := hK_108.at ha_105 t_398 (by decide)
  have t_402 : At S_127 q_66 5 := tAt_sR eS_127 t_401
  have t_400 : pR S_134 501 q_66 = some kx_80 := by rw [eS_134]; exact (pR_sO_ne (ne_of_new hq_133 t_402.1)).trans t_399
  have t_404 : At S_134 q_66 5 := by rw [eS_134]; exact At_sO t_402 hq_133
  have t_403 : pR S_141 501 q_66 = some kx_80 := (((hK_142 q_66 t_404.1).2 (At_ne t_404 ha_139 (by decide))).2.2.1 501).trans t_400
  have t_405 : pR S_155 501 q_66 = some kx_80 := tR_sR eS_155 rfl t_403
  have t_406 : pR S_162 501 q_66 = some kx_80 := tR_sI eS_162 t_405
  have t_407 : pR S_169 501 q_66 = some kx_80 := tR_sI eS_169 t_406
  have t_408 : pR S_176 501 q_66 = some kx_80 := tR_sI eS_176 t_407
  have bb_409 : pB S_93 kx_80 = pB S_74 kx_80 := by rw [eS_93]; rfl
  have bb_410 : pB S_100 kx_80 = pB S_74 kx_80 := (show pB S_100 kx_80 = pB S_93 kx_80 from by rw [eS_100]; rfl).trans bb_409
  have t_412 : At S_93 kx_80 16 := tAt_sR eS_93 kx_82
  have t_413 : At S_100 kx_80 16 := by rw [eS_100]; exact At_sO t_412 hq_99
  have bb_411 : pB S_107 kx_80 = pB S_74 kx_80 := (show pB S_107 kx_80 = pB S_100 kx_80 from ((hK_108 kx_80 t_413.1).2 (At_ne t_413 ha_105 (by decide))).2.2.2.2.2).trans bb_410
  have bb_414 : pB S_127 kx_80 = pB S_74 kx_80 := (show pB S_127 kx_80 = pB S_107 kx_80 from by rw [eS_127]; rfl).trans bb_411
  have bb_415 : pB S_134 kx_80 = pB S_74 kx_80 := (show pB S_134 kx_80 = pB S_127 kx_80 from by rw [eS_134]; rfl).trans bb_414
  have t_417 : At S_107 kx_80 16 := hK_108.at ha_105 t_413 (by decide)
  have t_418 : At S_127 kx_80 16 := tAt_sR eS_127 t_417
  have t_419 : At S_134 kx_80 16 := by rw [eS_134]; exact At_sO t_418 hq_133
  have bb_416 : pB S_141 kx_80 = pB S_74 kx_80 := (show pB S_141 kx_80 = pB S_134 kx_80 from ((hK_142 kx_80 t_419.1).2 (At_ne t_419 ha_139 (by decide))).2.2.2.2.2).trans bb_415
  have bb_420 : pB S_155 kx_80 = pB S_74 kx_80 := (show pB S_155 kx_80 = pB S_141 kx_80 from by rw [eS_155]; rfl).trans bb_416
  have bb_421 : pB S_162 kx_80 = pB S_74 kx_80 := (show pB S_162 kx_80 = pB S_155 kx_80 from by rw [eS_162]; rfl).trans bb_420
  have bb_422 : pB S_169 kx_80 = pB S_74 kx_80 := (show pB S_169 kx_80 = pB S_162 kx_80 from by rw [eS_169]; rfl).trans bb_421
  have bb_423 : pB S_176 kx_80 = pB S_74 kx_80 := (show pB S_176 kx_80 = pB S_169 kx_80 from by rw [eS_176]; rfl).trans bb_422
  have t_424 : At S_141 kx_80 16 := hK_142.at ha_139 t_419 (by decide)
  have t_425 : At S_155 kx_80 16 := tAt_sR eS_155 t_424
  have t_426 : At S_162 kx_80 16 := tAt_sI eS_162 t_425
  have t_427 : At S_169 kx_80 16 := tAt_sI eS_169 t_426
  have t_428 : At S_176 kx_80 16 := tAt_sI eS_176 t_427
  have rp_431 : ∀ g, g ∈ ruG → pR S_155 g q_133 = pR S_141 g q_133 := fun g hg => by rw [eS_155]; exact (pR_sR_nf (by intro z; subst z; revert hg; decide)).trans ((fun _ _ => rfl) g hg)
  have rp_432 : ∀ g, g ∈ ruG → pR S_162 g q_133 = pR S_141 g q_133 := fun g hg => by rw [eS_162]; exact rp_431 g hg
  have rp_433 : ∀ g, g ∈ ruG → pR S_169 g q_133 = pR S_141 g q_133 := fun g hg => by rw [eS_169]; exact rp_432 g hg
  have rp_434 : ∀ g, g ∈ ruG → pR S_176 g q_133 = pR S_141 g q_133 := fun g hg => by rw [eS_176]; exact rp_433 g hg
  have rz_430 : ∀ g, g ∈ ruG → pR S_287 g q_133 = pR S_141 g q_133 := fun g hg => by rw [eS_287, pR_sK]; exact rp_434 g hg
  have t_435 : pN S_27 kx_15 = ((600 : Int).toNat) := tN_sR eS_27 kx_19
  have t_436 : pN S_34 kx_15 = ((600 : Int).toNat) := by rw [eS_34, pN_sO]; exact t_435
  clear t_435
  have t_437 : pN S_41 kx_15 = ((600 : Int).toNat) := ((hK_42 kx_15 t_319.1).2 (At_ne t_319 ha_39 (by decide))).2.2.2.1.trans t_436
  clear t_436
  have t_438 : pN S_60 kx_15 = ((600 : Int).toNat) := tN_sR eS_60 t_437
  clear t_437
  have t_439 : pN S_67 kx_15 = ((600 : Int).toNat) := by rw [eS_67, pN_sO]; exact t_438
  clear t_438
  have t_440 : pN S_74 kx_15 = ((600 : Int).toNat) := ((hK_75 kx_15 t_325.1).2 (At_ne t_325 ha_72 (by decide))).2.2.2.1.trans t_439
  clear t_439
  have t_441 : pN S_93 kx_15 = ((600 : Int).toNat) := tN_sR eS_93 t_440
  clear t_440
  have t_442 : pN S_100 kx_15 = ((600 : Int).toNat) := by rw [eS_100, pN_sO]; exact t_441
  clear t_441
  have t_443 : pN S_107 kx_15 = ((600 : Int).toNat) := ((hK_108 kx_15 t_331.1).2 (At_ne t_331 ha_105 (by decide))).2.2.2.1.trans t_442
  clear t_442
  have t_444 : pN S_127 kx_15 = ((600 : Int).toNat) := tN_sR eS_127 t_443
  clear t_443
  have t_445 : pN S_134 kx_15 = ((600 : Int).toNat) := by rw [eS_134, pN_sO]; exact t_444
  clear t_444
  have t_446 : pN S_141 kx_15 = ((600 : Int).toNat) := ((hK_142 kx_15 t_337.1).2 (At_ne t_337 ha_139 (by decide))).2.2.2.1.trans t_445
  clear t_445
  have t_447 : pN S_155 kx_15 = ((600 : Int).toNat) := tN_sR eS_155 t_446
  clear t_446
  have t_448 : pN S_162 kx_15 = ((600 : Int).toNat) := tN_sI eS_162 t_447
  clear t_447
  have t_449 : pN S_169 kx_15 = ((600 : Int).toNat) := tN_sI eS_169 t_448
  clear t_448
  have t_450 : pN S_176 kx_15 = ((600 : Int).toNat) := tN_sI eS_176 t_449
  clear t_449
  have t_451 : pN S_60 kx_47 = ((12 : Int).toNat) := tN_sR eS_60 kx_51
  have t_452 : pN S_67 kx_47 = ((12 : Int).toNat) := by rw [eS_67, pN_sO]; exact t_451
  clear t_451
  have t_453 : pN S_74 kx_47 = ((12 : Int).toNat) := ((hK_75 kx_47 t_372.1).2 (At_ne t_372 ha_72 (by decide))).2.2.2.1.trans t_452
  clear t_452
  have t_454 : pN S_93 kx_47 = ((12 : Int).toNat) := tN_sR eS_93 t_453
  clear t_453
  have t_455 : pN S_100 kx_47 = ((12 : Int).toNat) := by rw [eS_100, pN_sO]; exact t_454
  clear t_454
  have t_456 : pN S_107 kx_47 = ((12 : Int).toNat) := ((hK_108 kx_47 t_378.1).2 (At_ne t_378 ha_105 (by decide))).2.2.2.1.trans t_455
  clear t_455
  have t_457 : pN S_127 kx_47 = ((12 : Int).toNat) := tN_sR eS_127 t_456
  clear t_456
  have t_458 : pN S_134 kx_47 = ((12 : Int).toNat) := by rw [eS_134, pN_sO]; exact t_457
  clear t_457
  have t_459 : pN S_141 kx_47 = ((12 : Int).toNat) := ((hK_142 kx_47 t_384.1).2 (At_ne t_384 ha_139 (by decide))).2.2.2.1.trans t_458
  clear t_458
  have t_460 : pN S_155 kx_47 = ((12 : Int).toNat) := tN_sR eS_155 t_459
  clear t_459
  have t_461 : pN S_162 kx_47 = ((12 : Int).toNat) := tN_sI eS_162 t_460
  clear t_460
  have t_462 : pN S_169 kx_47 = ((12 : Int).toNat) := tN_sI eS_169 t_461
  clear t_461
  have t_463 : pN S_176 kx_47 = ((12 : Int).toNat) := tN_sI eS_176 t_462
  clear t_462
  have t_464 : pN S_93 kx_80 = ((600 : Int).toNat) := tN_sR eS_93 kx_84
  have t_465 : pN S_100 kx_80 = ((600 : Int).toNat) := by rw [eS_100, pN_sO]; exact t_464
  clear t_464
  have t_466 : pN S_107 kx_80 = ((600 : Int).toNat) := ((hK_108 kx_80 t_413.1).2 (At_ne t_413 ha_105 (by decide))).2.2.2.1.trans t_465
  clear t_465
  have t_467 : pN S_127 kx_80 = ((600 : Int).toNat) := tN_sR eS_127 t_466
  clear t_466
  have t_468 : pN S_134 kx_80 = ((600 : Int).toNat) := by rw [eS_134, pN_sO]; exact t_467
  clear t_467
  have t_469 : pN S_141 kx_80 = ((600 : Int).toNat) := ((hK_142 kx_80 t_419.1).2 (At_ne t_419 ha_139 (by decide))).2.2.2.1.trans t_468
  clear t_468
  have t_470 : pN S_155 kx_80 = ((600 : Int).toNat) := tN_sR eS_155 t_469
  clear t_469
  have t_471 : pN S_162 kx_80 = ((600 : Int).toNat) := tN_sI eS_162 t_470
  clear t_470
  have t_472 : pN S_169 kx_80 = ((600 : Int).toNat) := tN_sI eS_169 t_471
  clear t_471
  have t_473 : pN S_176 kx_80 = ((600 : Int).toNat) := tN_sI eS_176 t_472
  clear t_472
  have t_474 : pI S_27 500 q_1 = 0 := tI_sR eS_27 kx_21
  have t_475 : pI S_34 500 q_1 = 0 := by rw [eS_34]; exact (pI_sO_ne (ne_of_new hq_33 t_290.1)).trans t_474
  have t_476 : pI S_41 500 q_1 = 0 := (((hK_42 q_1 t_292.1).2 (At_ne t_292 ha_39 (by decide))).2.1 500).trans t_475
  have t_477 : pI S_60 500 q_1 = 0 := tI_sR eS_60 t_476
  have t_478 : pI S_67 500 q_1 = 0 := by rw [eS_67]; exact (pI_sO_ne (ne_of_new hq_66 t_296.1)).trans t_477
  have t_479 : pI S_74 500 q_1 = 0 := (((hK_75 q_1 t_298.1).2 (At_ne t_298 ha_72 (by decide))).2.1 500).trans t_478
  have t_480 : pI S_93 500 q_1 = 0 := tI_sR eS_93 t_479
  have t_481 : pI S_100 500 q_1 = 0 := by rw [eS_100]; exact (pI_sO_ne (ne_of_new hq_99 t_302.1)).trans t_480
  have t_482 : pI S_107 500 q_1 = 0 := (((hK_108 q_1 t_304.1).2 (At_ne t_304 ha_105 (by decide))).2.1 500).trans t_481
  have t_483 : pI S_127 500 q_1 = 0 := tI_sR eS_127 t_482
  have t_484 : pI S_134 500 q_1 = 0 := by rw [eS_134]; exact (pI_sO_ne (ne_of_new hq_133 t_308.1)).trans t_483
  have t_485 : pI S_141 500 q_1 = 0 := (((hK_142 q_1 t_310.1).2 (At_ne t_310 ha_139 (by decide))).2.1 500).trans t_484
  have t_486 : pI S_155 500 q_1 = 0 := tI_sR eS_155 t_485
  have t_487 : pI S_162 500 q_1 = 0 := tI_sI eS_162 rfl t_486
  have t_488 : pI S_169 500 q_1 = 0 := tI_sI eS_169 rfl t_487
  have t_489 : pI S_176 500 q_1 = 0 := tI_sI eS_176 rfl t_488
  have t_490 : pI S_60 500 q_33 = 0 := tI_sR eS_60 kx_53
  have t_491 : pI S_67 500 q_33 = 0 := by rw [eS_67]; exact (pI_sO_ne (ne_of_new hq_66 t_349.1)).trans t_490
  have t_492 : pI S_74 500 q_33 = 0 := (((hK_75 q_33 t_351.1).2 (At_ne t_351 ha_72 (by decide))).2.1 500).trans t_491
  have t_493 : pI S_93 500 q_33 = 0 := tI_sR eS_93 t_492
  have t_494 : pI S_100 500 q_33 = 0 := by rw [eS_100]; exact (pI_sO_ne (ne_of_new hq_99 t_355.1)).trans t_493
  have t_495 : pI S_107 500 q_33 = 0 := (((hK_108 q_33 t_357.1).2 (At_ne t_357 ha_105 (by decide))).2.1 500).trans t_494
  have t_496 : pI S_127 500 q_33 = 0 := tI_sR eS_127 t_495
  have t_497 : pI S_134 500 q_33 = 0 := by rw [eS_134]; exact (pI_sO_ne (ne_of_new hq_133 t_361.1)).trans t_496
  have t_498 : pI S_141 500 q_33 = 0 := (((hK_142 q_33 t_363.1).2 (At_ne t_363 ha_139 (by decide))).2.1 500).trans t_497
  have t_499 : pI S_155 500 q_33 = 0 := tI_sR eS_155 t_498
  have t_500 : pI S_162 500 q_33 = 0 := tI_sI eS_162 rfl t_499
  have t_501 : pI S_169 500 q_33 = 0 := tI_sI eS_169 rfl t_500
  have t_502 : pI S_176 500 q_33 = 0 := tI_sI eS_176 rfl t_501
  have t_503 : pI S_93 500 q_66 = 0 := tI_sR eS_93 kx_86
  have t_504 : pI S_100 500 q_66 = 0 := by rw [eS_100]; exact (pI_sO_ne (ne_of_new hq_99 t_396.1)).trans t_503
  have t_505 : pI S_107 500 q_66 = 0 := (((hK_108 q_66 t_398.1).2 (At_ne t_398 ha_105 (by decide))).2.1 500).trans t_504
  have t_506 : pI S_127 500 q_66 = 0 := tI_sR eS_127 t_505
  have t_507 : pI S_134 500 q_66 = 0 := by rw [eS_134]; exact (pI_sO_ne (ne_of_new hq_133 t_402.1)).trans t_506
  have t_508 : pI S_141 500 q_66 = 0 := (((hK_142 q_66 t_404.1).2 (At_ne t_404 ha_139 (by decide))).2.1 500).trans t_507
  have t_509 : pI S_155 500 q_66 = 0 := tI_sR eS_155 t_508
  have t_510 : pI S_162 500 q_66 = 0 := tI_sI eS_162 rfl t_509
  have t_511 : pI S_169 500 q_66 = 0 := tI_sI eS_169 rfl t_510
  have t_512 : pI S_176 500 q_66 = 0 := tI_sI eS_176 rfl t_511
  have t_513 : pI S_176 404 x = a2 := tI_sI eS_176 rfl h_174
  have t_514 : pI S_2 405 x = 0 := by rw [eS_2]; exact (pI_sO_ne (ne_of_new hq_1 ha_x.1)).trans (hzI 405)
  have t_516 : At S_2 x 184 := by rw [eS_2]; exact At_sO ha_x hq_1
  have t_515 : pI S_9 405 x = 0 := (((hK_10 x t_516.1).2 (At_ne t_516 ha_7 (by decide))).2.1 405).trans t_514
  have t_517 : pI S_27 405 x = 0 := tI_sR eS_27 t_515
  have t_518 : pI S_34 405 x = 0 := by rw [eS_34]; exact (pI_sO_ne (ne_of_new hq_33 t_185.1)).trans t_517
  have t_519 : pI S_41 405 x = 0 := (((hK_42 x t_187.1).2 (At_ne t_187 ha_39 (by decide))).2.1 405).trans t_518
  have t_520 : pI S_60 405 x = 0 := tI_sR eS_60 t_519
  have t_521 : pI S_67 405 x = 0 := by rw [eS_67]; exact (pI_sO_ne (ne_of_new hq_66 t_190.1)).trans t_520
  have t_522 : pI S_74 405 x = 0 := (((hK_75 x t_192.1).2 (At_ne t_192 ha_72 (by decide))).2.1 405).trans t_521
  have t_523 : pI S_93 405 x = 0 := tI_sR eS_93 t_522
  have t_524 : pI S_100 405 x = 0 := by rw [eS_100]; exact (pI_sO_ne (ne_of_new hq_99 t_195.1)).trans t_523
  have t_525 : pI S_107 405 x = 0 := (((hK_108 x t_197.1).2 (At_ne t_197 ha_105 (by decide))).2.1 405).trans t_524
  have t_526 : pI S_127 405 x = 0 := tI_sR eS_127 t_525
  have t_527 : pI S_134 405 x = 0 := by rw [eS_134]; exact (pI_sO_ne (ne_of_new hq_133 t_200.1)).trans t_526
  have t_528 : pI S_141 405 x = 0 := (((hK_142 x t_202.1).2 (At_ne t_202 ha_139 (by decide))).2.1 405).trans t_527
  have t_529 : pI S_155 405 x = 0 := tI_sR eS_155 t_528
  have t_530 : pI S_162 405 x = 0 := tI_sI eS_162 rfl t_529
  have t_531 : pI S_169 405 x = 0 := tI_sI eS_169 rfl t_530
  have t_532 : pI S_176 405 x = 0 := tI_sI eS_176 rfl t_531
  have t_533 : pI S_2 406 x = 0 := by rw [eS_2]; exact (pI_sO_ne (ne_of_new hq_1 ha_x.1)).trans (hzI 406)
  have t_534 : pI S_9 406 x = 0 := (((hK_10 x t_516.1).2 (At_ne t_516 ha_7 (by decide))).2.1 406).trans t_533
  have t_535 : pI S_27 406 x = 0 := tI_sR eS_27 t_534
  have t_536 : pI S_34 406 x = 0 := by rw [eS_34]; exact (pI_sO_ne (ne_of_new hq_33 t_185.1)).trans t_535
  have t_537 : pI S_41 406 x = 0 := (((hK_42 x t_187.1).2 (At_ne t_187 ha_39 (by decide))).2.1 406).trans t_536
  have t_538 : pI S_60 406 x = 0 := tI_sR eS_60 t_537
  have t_539 : pI S_67 406 x = 0 := by rw [eS_67]; exact (pI_sO_ne (ne_of_new hq_66 t_190.1)).trans t_538
  have t_540 : pI S_74 406 x = 0 := (((hK_75 x t_192.1).2 (At_ne t_192 ha_72 (by decide))).2.1 406).trans t_539
  have t_541 : pI S_93 406 x = 0 := tI_sR eS_93 t_540
  have t_542 : pI S_100 406 x = 0 := by rw [eS_100]; exact (pI_sO_ne (ne_of_new hq_99 t_195.1)).trans t_541
  have t_543 : pI S_107 406 x = 0 := (((hK_108 x t_197.1).2 (At_ne t_197 ha_105 (by decide))).2.1 406).trans t_542
  have t_544 : pI S_127 406 x = 0 := tI_sR eS_127 t_543
  have t_545 : pI S_134 406 x = 0 := by rw [eS_134]; exact (pI_sO_ne (ne_of_new hq_133 t_200.1)).trans t_544
  have t_546 : pI S_141 406 x = 0 := (((hK_142 x t_202.1).2 (At_ne t_202 ha_139 (by decide))).2.1 406).trans t_545
  have t_547 : pI S_155 406 x = 0 := tI_sR eS_155 t_546
  have t_548 : pI S_162 406 x = 0 := tI_sI eS_162 rfl t_547
  have t_549 : pI S_169 406 x = 0 := tI_sI eS_169 rfl t_548
  have t_550 : pI S_176 406 x = 0 := tI_sI eS_176 rfl t_549
  have t_551 : pI S_2 407 x = 0 := by rw [eS_2]; exact (pI_sO_ne (ne_of_new hq_1 ha_x.1)).trans (hzI 407)
  have t_552 : pI S_9 407 x = 0 := (((hK_10 x t_516.1).2 (At_ne t_516 ha_7 (by decide))).2.1 407).trans t_551
  have t_553 : pI S_27 407 x = 0 := tI_sR eS_27 t_552
  have t_554 : pI S_34 407 x = 0 := by rw [eS_34]; exact (pI_sO_ne (ne_of_new hq_33 t_185.1)).trans t_553
  have t_555 : pI S_41 407 x = 0 := (((hK_42 x t_187.1).2 (At_ne t_187 ha_39 (by decide))).2.1 407).trans t_554
  have t_556 : pI S_60 407 x = 0 := tI_sR eS_60 t_555
  have t_557 : pI S_67 407 x = 0 := by rw [eS_67]; exact (pI_sO_ne (ne_of_new hq_66 t_190.1)).trans t_556
  have t_558 : pI S_74 407 x = 0 := (((hK_75 x t_192.1).2 (At_ne t_192 ha_72 (by decide))).2.1 407).trans t_557
  have t_559 : pI S_93 407 x = 0 := tI_sR eS_93 t_558
  have t_560 : pI S_100 407 x = 0 := by rw [eS_100]; exact (pI_sO_ne (ne_of_new hq_99 t_195.1)).trans t_559
  have t_561 : pI S_107 407 x = 0 := (((hK_108 x t_197.1).2 (At_ne t_197 ha_105 (by decide))).2.1 407).trans t_560
  have t_562 : pI S_127 407 x = 0 := tI_sR eS_127 t_561
  have t_563 : pI S_134 407 x = 0 := by rw [eS_134]; exact (pI_sO_ne (ne_of_new hq_133 t_200.1)).trans t_562
  have t_564 : pI S_141 407 x = 0 := (((hK_142 x t_202.1).2 (At_ne t_202 ha_139 (by decide))).2.1 407).trans t_563
  have t_565 : pI S_155 407 x = 0 := tI_sR eS_155 t_564
  have t_566 : pI S_162 407 x = 0 := tI_sI eS_162 rfl t_565
  have t_567 : pI S_169 407 x = 0 := tI_sI eS_169 rfl t_566
  have t_568 : pI S_176 407 x = 0 := tI_sI eS_176 rfl t_567
  have t_569 : pI S_2 408 x = 0 := by rw [eS_2]; exact (pI_sO_ne (ne_of_new hq_1 ha_x.1)).trans (hzI 408)
  have t_570 : pI S_9 408 x = 0 := (((hK_10 x t_516.1).2 (At_ne t_516 ha_7 (by decide))).2.1 408).trans t_569
  have t_571 : pI S_27 408 x = 0 := tI_sR eS_27 t_570
  have t_572 : pI S_34 408 x = 0 := by rw [eS_34]; exact (pI_sO_ne (ne_of_new hq_33 t_185.1)).trans t_571
  have t_573 : pI S_41 408 x = 0 := (((hK_42 x t_187.1).2 (At_ne t_187 ha_39 (by decide))).2.1 408).trans t_572
  have t_574 : pI S_60 408 x = 0 := tI_sR eS_60 t_573
  have t_575 : pI S_67 408 x = 0 := by rw [eS_67]; exact (pI_sO_ne (ne_of_new hq_66 t_190.1)).trans t_574
  have t_576 : pI S_74 408 x = 0 := (((hK_75 x t_192.1).2 (At_ne t_192 ha_72 (by decide))).2.1 408).trans t_575
  have t_577 : pI S_93 408 x = 0 := tI_sR eS_93 t_576
  have t_578 : pI S_100 408 x = 0 := by rw [eS_100]; exact (pI_sO_ne (ne_of_new hq_99 t_195.1)).trans t_577
  have t_579 : pI S_107 408 x = 0 := (((hK_108 x t_197.1).2 (At_ne t_197 ha_105 (by decide))).2.1 408).trans t_578
  have t_580 : pI S_127 408 x = 0 := tI_sR eS_127 t_579
  have t_581 : pI S_134 408 x = 0 := by rw [eS_134]; exact (pI_sO_ne (ne_of_new hq_133 t_200.1)).trans t_580
  have t_582 : pI S_141 408 x = 0 := (((hK_142 x t_202.1).2 (At_ne t_202 ha_139 (by decide))).2.1 408).trans t_581
  have t_583 : pI S_155 408 x = 0 := tI_sR eS_155 t_582
  have t_584 : pI S_162 408 x = 0 := tI_sI eS_162 rfl t_583
  have t_585 : pI S_169 408 x = 0 := tI_sI eS_169 rfl t_584
  have t_586 : pI S_176 408 x = 0 := tI_sI eS_176 rfl t_585
  have t_587 : pI S_169 410 x = a1 := tI_sI eS_169 rfl h_167
  have t_588 : pI S_176 410 x = a1 := tI_sI eS_176 rfl t_587
  have t_589 : pR S_127 900 q_99 = some kx_115 := tR_sR eS_127 rfl kx_117
  have t_591 : At S_127 q_99 29 := tAt_sR eS_127 ha_110
  have t_590 : pR S_134 900 q_99 = some kx_115 := by rw [eS_134]; exact (pR_sO_ne (ne_of_new hq_133 t_591.1)).trans t_589
  have t_593 : At S_134 q_99 29 := by rw [eS_134]; exact At_sO t_591 hq_133
  have t_592 : pR S_141 900 q_99 = some kx_115 := (((hK_142 q_99 t_593.1).2 (At_ne t_593 ha_139 (by decide))).2.2.1 900).trans t_590
  have t_594 : pR S_155 900 q_99 = some kx_115 := tR_sR eS_155 rfl t_592
  have t_595 : pR S_162 900 q_99 = some kx_115 := tR_sI eS_162 t_594
  have t_596 : pR S_169 900 q_99 = some kx_115 := tR_sI eS_169 t_595
  have t_597 : pR S_176 900 q_99 = some kx_115 := tR_sI eS_176 t_596
  have t_598 : pR S_127 901 q_99 = some kx_116 := tR_sR eS_127 rfl kx_118
  have t_599 : pR S_134 901 q_99 = some kx_116 := by rw [eS_134]; exact (pR_sO_ne (ne_of_new hq_133 t_591.1)).trans t_598
  have t_600 : pR S_141 901 q_99 = some kx_116 := (((hK_142 q_99 t_593.1).2 (At_ne t_593 ha_139 (by decide))).2.2.1 901).trans t_599
  have t_601 : pR S_155 901 q_99 = some kx_116 := tR_sR eS_155 rfl t_600
  have t_602 : pR S_162 901 q_99 = some kx_116 := tR_sI eS_162 t_601
  have t_603 : pR S_169 901 q_99 = some kx_116 := tR_sI eS_169 t_602
  have t_604 : pR S_176 901 q_99 = some kx_116 := tR_sI eS_176 t_603
  have ns_605 : ∀ g, g ∈ ([900, 901] : List Nat) → ∀ a, pR S_287 g q_99 = some a → a ∉ pL S := by
    intro g hg a ha
    simp only [List.mem_cons, List.not_mem_nil, or_false] at hg
    rcases hg with e | e <;> subst e
    · rw [eS_287, pR_sK, t_597] at ha; cases ha; exact fun z => kx_119 (hK_103 _ z).1
    · rw [eS_287, pR_sK, t_604] at ha; cases ha; exact fun z => kx_120 (hK_103 _ z).1
  have t_606 : pI S_127 902 q_99 = 0 := tI_sR eS_127 kx_113
  have t_607 : pI S_134 902 q_99 = 0 := by rw [eS_134]; exact (pI_sO_ne (ne_of_new hq_133 t_591.1)).trans t_606
  have t_608 : pI S_141 902 q_99 = 0 := (((hK_142 q_99 t_593.1).2 (At_ne t_593 ha_139 (by decide))).2.1 902).trans t_607
  have t_609 : pI S_155 902 q_99 = 0 := tI_sR eS_155 t_608
  have t_610 : pI S_162 902 q_99 = 0 := tI_sI eS_162 rfl t_609
  have t_611 : pI S_169 902 q_99 = 0 := tI_sI eS_169 rfl t_610
  have t_612 : pI S_176 902 q_99 = 0 := tI_sI eS_176 rfl t_611
  have t_613 : pI S_127 903 q_99 = 0 := tI_sR eS_127 kx_114
  have t_614 : pI S_134 903 q_99 = 0 := by rw [eS_134]; exact (pI_sO_ne (ne_of_new hq_133 t_591.1)).trans t_613
  have t_615 : pI S_141 903 q_99 = 0 := (((hK_142 q_99 t_593.1).2 (At_ne t_593 ha_139 (by decide))).2.1 903).trans t_614
  have t_616 : pI S_155 903 q_99 = 0 := tI_sR eS_155 t_615
  have t_617 : pI S_162 903 q_99 = 0 := tI_sI eS_162 rfl t_616
  have t_618 : pI S_169 903 q_99 = 0 := tI_sI eS_169 rfl t_617
  have t_619 : pI S_176 903 q_99 = 0 := tI_sI eS_176 rfl t_618
  have t_620 : pI S_155 600 q_133 = 0 := tI_sR eS_155 kx_147
  have t_621 : pI S_162 600 q_133 = 0 := tI_sI eS_162 rfl t_620
  have t_622 : pI S_169 600 q_133 = 0 := tI_sI eS_169 rfl t_621
  have t_623 : pI S_176 600 q_133 = 0 := tI_sI eS_176 rfl t_622
  exact ret_v X hw hr hlocks (by show 20 ≤ 20; omega) (by show 2733 ≤ 2733; omega) ⟨hk9, hg9, ha9, hPhc9, hPhs9, ⟨q_1, kx_15, by rw [eS_287, pR_sK]; exact t_206, by rw [eS_287]; exact At_sK t_182 t_222 (by decide), by rw [eS_287, pR_sK]; exact t_314, by rw [eS_287]; exact At_sK t_182 t_346 (by decide), by rw [eS_287]; exact (show pB (sK S_176 x 4) kx_15 = pB S_176 kx_15 from rfl).trans (bb_341.trans kx_18)⟩, ⟨q_33, kx_47, by rw [eS_287, pR_sK]; exact t_234, by rw [eS_287]; exact At_sK t_182 t_247 (by decide), by rw [eS_287, pR_sK]; exact t_367, by rw [eS_287]; exact At_sK t_182 t_393 (by decide), by rw [eS_287]; exact (show pB (sK S_176 x 4) kx_47 = pB S_176 kx_47 from rfl).trans (bb_388.trans kx_50)⟩, ⟨q_66, kx_80, by rw [eS_287, pR_sK]; exact t_256, by rw [eS_287]; exact At_sK t_182 t_266 (by decide), by rw [eS_287, pR_sK]; exact t_408, by rw [eS_287]; exact At_sK t_182 t_428 (by decide), by rw [eS_287]; exact (show pB (sK S_176 x 4) kx_80 = pB S_176 kx_80 from rfl).trans (bb_423.trans kx_83)⟩, ⟨q_1, q_33, q_66, q_99, q_133, kx_15, kx_47, kx_80, ⟨(by rw [eS_287, pR_sK]; exact t_206), (by rw [eS_287, pR_sK]; exact t_234), (by rw [eS_287, pR_sK]; exact t_256), (by rw [eS_287, pR_sK]; exact t_272), (by rw [eS_287, pR_sK]; exact t_282)⟩, ⟨(by rw [eS_287, pR_sK]; exact t_314), (by rw [eS_287, pR_sK]; exact t_367), (by rw [eS_287, pR_sK]; exact t_408)⟩, ⟨by rw [eS_287, pN_sK]; exact (t_450).trans rfl, by rw [eS_287, pN_sK]; exact (t_463).trans rfl, by rw [eS_287, pN_sK]; exact (t_473).trans rfl⟩, ⟨(by rw [eS_287, pI_sK]; exact t_489), (by rw [eS_287, pI_sK]; exact t_502), (by rw [eS_287, pI_sK]; exact t_512)⟩, ⟨hn0_q_1, hn0_q_33, hn0_q_66, hn0_q_99, hn0_q_133, (fun z => kx_20 (hK_5 _ z).1), (fun z => kx_52 (hK_37 _ z).1), (fun z => kx_85 (hK_70 _ z).1)⟩, ⟨(ne_of_new hq_33 t_290.1), (ne_of_new hq_66 t_296.1), (ne_of_new hq_66 t_349.1), (ne_of_new kx_52 t_319.1), (ne_of_new kx_85 t_325.1), (ne_of_new kx_85 t_372.1)⟩, ⟨(by rw [eS_287, pI_sK]; exact t_513), (by rw [eS_287, pI_sK]; exact t_532), (by rw [eS_287, pI_sK]; exact t_550), (by rw [eS_287, pI_sK]; exact t_568), (by rw [eS_287, pI_sK]; exact t_586), (by rw [eS_287, pI_sK]; exact t_588), (by rw [eS_287, pI_sK]; exact h_181)⟩, ⟨(by rw [eS_287, pI_sK]; exact t_612), (by rw [eS_287, pI_sK]; exact t_619), ns_605⟩, (by rw [eS_287, pI_sK]; exact t_623), ⟨RuD_to rz_430 kx_148.1, fun g hg a ha z => kx_148.2 g hg a (by rw [← rz_430 g hg]; exact ha) (hK_137 _ z).1⟩⟩⟩ dX4_init_82
set_option maxHeartbeats 4000000 in
set_option maxRecDepth 100000 in
theorem k_X11_pot6 (l : Launch) (G : va_G) (cy : Nat → ClassId) (κ : Nat → Nat) (S : PS) (sz hz : Nat) (x : Nat) (a1 : Int32) (a1_z : Int) (a2 : Int32) (a2_z : Int) (hG : GX S) (ha_x : At S x 11) (hz_a1 : a1.toInt = a1_z) (hz_a2 : a2.toInt = a2_z) : Gi l yX11_pot wsX11_pot ({ frames := 4, cells := Phc S + 14400, slots := Phs S + 46000, locals := 192 }) G cy κ S sz hz 0 0 [.ref x, .int (a1), .int (a2)] (fun (r : Int32) (S9 : PS) => Og ePT S S9 ∧ (-2147483648 ≤ r.toInt ∧ r.toInt ≤ 2147483647 ∧ ((((pI S 1104 x).toInt < 4 ∧ 10 ≤ a1_z ∧ a1_z ≤ 2000 ∧ 1 ≤ a2_z ∧ a2_z ≤ 50) ∧ r.toInt = (pI S 1104 x).toInt ∧ (pI S9 1104 x).toInt = (pI S 1104 x).toInt + 1) ∨ (¬ (((pI S 1104 x).toInt < 4 ∧ 10 ≤ a1_z ∧ a1_z ≤ 2000 ∧ 1 ≤ a2_z ∧ a2_z ≤ 50)) ∧ r.toInt = -1 ∧ (pI S9 1104 x).toInt = (pI S 1104 x).toInt)) ∧ (PN S x → PN S9 x) ∧ (((pI S 1104 x).toInt < 4 ∧ 10 ≤ a1_z ∧ a1_z ≤ 2000 ∧ 1 ≤ a2_z ∧ a2_z ≤ 50) → ∃ P, (∀ j, mB S9 x 1103 j = if j = (pI S 1104 x).toInt.toNat then some P else mB S x 1103 j) ∧ At S9 P 4 ∧ RowE S9 P 400 ∧ RowE S9 P 401 ∧ RowE S9 P 402) ∧ (¬ ((pI S 1104 x).toInt < 4 ∧ 10 ≤ a1_z ∧ a1_z ≤ 2000 ∧ 1 ≤ a2_z ∧ a2_z ≤ 50) → S9 = S) ∧ (((pI S 1104 x).toInt < 4 ∧ 10 ≤ a1_z ∧ a1_z ≤ 2000 ∧ 1 ≤ a2_z ∧ a2_z ≤ 50) → ∃ P, P ∉ pL S ∧ (∀ j, mB S9 x 1103 j = if j = (pI S 1104 x).toInt.toNat then some P else mB S x 1103 j) ∧ PotN S S9 P (pI S 1104 x) a1 a2))) := by
  refine ent_g (cc := cX11_pot) (maxL := 3) (ret := (some .int)) (by decide) rfl (Nat.le_of_ble_eq_true rfl) ?_
  intro p e s m below meth c ls X hr hlocks hin hw hl hsz hhz
  subst hsz hhz
  have X : Cx p c cX11_pot 3 s [.ref x, .int (a1), .int (a2)].toArray wsX11_pot RX11 m G cy κ (AS S s.heap.size) := X
  have hl : lv_has ls 3 [(0, .ref x), (1, .int (a1)), (2, .int (a2))] := hl
  have rg_a1 : (-2147483648) ≤ a1_z ∧ a1_z ≤ 2147483647 := by rw [← hz_a1]; exact ⟨z_lo _, z_hi _⟩
  have rg_a2 : (-2147483648) ≤ a2_z ∧ a2_z ≤ 2147483647 := by rw [← hz_a2]; exact ⟨z_lo _, z_hi _⟩
  have hpc0 : 0 + Phc S ≤ Phc S + 0 := by omega
  have hps0 : 0 + Phs S ≤ Phs S + 0 := by omega
  have hO : Og ePT S S := Og.rf hG
  obtain ⟨v_1, ev_1⟩ : ∃ v, pI S 1104 x = v := ⟨_, rfl⟩
  have rg_2 := gI_11_1104 hO.1 ha_x; rw [ev_1] at rg_2
  have pz_3 : (pI S 1104 x).toInt = v_1.toInt := by rw [ev_1]
  have pz_4 : (pI S 1104 x).toInt = v_1.toInt := (congrArg Int32.toInt ev_1).trans rfl
  obtain ⟨q_5, h_6, h_7, h_8⟩ := gQ_11_1103 hO.1 ha_x
  refine lv_aload_n X.1 X.2.1 dX11_pot_0 rfl (lv_at hl 0 rfl) ?_
  refine r_getI (g := 1104) (x := v_1) X hw ha_x rfl 4 ev_1 (by decide) rfl inn_X11_pot_11 (by decide) (X.2.2.2.1 (.fieldLink RX11 124 "SilkMill" "potsMade" "I") (by decide +kernel)) rfl (gv_1104 _ _) dX11_pot_1 ?_
  refine lv_iconst (v := 4) X.1 X.2.1 dX11_pot_4 (by decide) ?_
  refine lv_icmp_ge (tgt := 25) X.1 X.2.1 dX11_pot_5 (by decide) (fun c_9 => ?_) (fun c_9 => ?_)
  · have z_b_10 := trivial
    have k_11 : v_1.toInt ≥ 4 := z_le ti_4 rfl c_9
    refine lv_iconst (v := (-1)) X.1 X.2.1 dX11_pot_25 (by decide) ?_
    have pz_12 : (pI S 1104 x).toInt = v_1.toInt := (congrArg Int32.toInt ev_1).trans rfl
    exact ret_gi X hw hr hlocks (by show 0 ≤ Phc S + 14400; omega) (by show 0 ≤ Phs S + 46000; omega) (by omega) (by omega) ⟨hO, ⟨z_lo _, z_hi _, Or.inr ⟨by omega, by decide, by omega⟩, fun h => h, fun h => absurd h (by omega), fun _ => rfl, fun h => absurd h (by omega)⟩⟩ dX11_pot_26
  · have z_b_13 := trivial
    have k_14 : v_1.toInt < 4 := z_nle ti_4 rfl c_9
    refine lv_iload_n X.1 X.2.1 dX11_pot_8 rfl (lv_at hl 1 rfl) ?_
    refine k_i (rm := { frames := 2, cells := 0, slots := 0, locals := 96 }) (av := [.int (a1)]) X hw (va_runS (As := [.int (a1)]) (rest := []) (cfix X) (k_X11_isTarget l G cy κ S _ (a1) (a1_z) hO.1 hz_a1) (cwS 1 X.2.2.2.1 gX11_pot_X11_isTarget rfl rfl rfl (by decide +kernel) ⟨Nat.le_of_ble_eq_true rfl, Nat.le_of_ble_eq_true rfl⟩) (pre_S X hw _) rfl rfl hl.1 rfl (lv_room (Nat.le_of_ble_eq_true rfl)) dX11_pot_9 ⟨(by show 0 + 0 ≤ Phc S + 14400; omega), (by show 0 + 0 ≤ Phs S + 46000; omega)⟩) 0 0 (by show 0 + 0 ≤ 0; omega) (by show 0 + 0 ≤ 0; omega) (fun rr_15 S_16 H locs hp hw hfr hnw => ?_)
    obtain ⟨e2, hp⟩ := hp
    subst e2
    rcases hp with ⟨f_17, er_18⟩ | ⟨f_17, er_18⟩ <;> subst er_18
    · have z_b_19 := trivial
      refine lv_if_eq (tgt := 25) X.1 X.2.1 dX11_pot_12 (by decide) (fun c_20 => absurd c_20 (by decide)) (fun c_20 => ?_)
      refine lv_iload_n X.1 X.2.1 dX11_pot_15 rfl (lv_at hl 2 rfl) ?_
      refine lv_iconst (v := 1) X.1 X.2.1 dX11_pot_16 (by decide) ?_
      refine lv_bipush (v := 50) X.1 X.2.1 dX11_pot_17 (by decide) ?_
      refine k_i (rm := { frames := 1, cells := 0, slots := 0, locals := 48 }) (av := [.int (a2), .int 1, .int 50]) X hw (va_runS (As := [.int (a2), .int 1, .int 50]) (rest := []) (cfix X) (k_X11_isWithin l G cy κ S _ (a2) (a2_z) (1) (1) (50) (50) hO.1 hz_a2 ti_1 ti_50) (cwS 3 X.2.2.2.1 gX11_pot_X11_isWithin rfl rfl rfl (by decide +kernel) ⟨Nat.le_of_ble_eq_true rfl, Nat.le_of_ble_eq_true rfl⟩) (pre_S X hw _) rfl rfl hl.1 rfl (lv_room (Nat.le_of_ble_eq_true rfl)) dX11_pot_19 ⟨(by show 0 + 0 ≤ Phc S + 14400; omega), (by show 0 + 0 ≤ Phs S + 46000; omega)⟩) 0 0 (by show 0 + 0 ≤ 0; omega) (by show 0 + 0 ≤ 0; omega) (fun rr_21 S_22 H locs hp hw hfr hnw => ?_)
      obtain ⟨e2, hp⟩ := hp
      subst e2
      rcases hp with ⟨f_23, er_24⟩ | ⟨f_23, er_24⟩ <;> subst er_24
      · have z_b_25 := trivial
        refine lv_if_ne (tgt := 27) X.1 X.2.1 dX11_pot_22 (by decide) (fun c_26 => ?_) (fun c_26 => absurd c_26 (by decide))
        refine lv_aload_n X.1 X.2.1 dX11_pot_27 rfl (lv_at hl 0 rfl) ?_
        refine r_getR (g := 1103) X hw ha_x rfl 3 h_6 (by decide) rfl inn_X11_pot_11 (by decide) (X.2.2.2.1 (.fieldLink RX11 21 "SilkMill" "pots" "[LSilkMill$Pot;") (by decide +kernel)) rfl (gv_1103 _ _) dX11_pot_28 ?_
        refine lv_aload_n X.1 X.2.1 dX11_pot_31 rfl (lv_at hl 0 rfl) ?_
        refine r_getI (g := 1104) (x := v_1) X hw ha_x rfl 4 ev_1 (by decide) rfl inn_X11_pot_11 (by decide) (X.2.2.2.1 (.fieldLink RX11 124 "SilkMill" "potsMade" "I") (by decide +kernel)) rfl (gv_1104 _ _) dX11_pot_32 ?_
        have ph_28 : 1 + Phc S ≤ Phc S + 1 := by omega
        have ph_29 : 12 + Phs S ≤ Phs S + 12 := by omega
        clear hpc0
        clear hps0
        refine r_new X hw 184 4 12 1 rfl tyX4 (by decide) rfl inn_X11_pot_4 tyX4_ok (X.2.2.2.1 (.classLink RX11 19 RX4) (by decide +kernel)) (X.2.2.2.1 (.instantiable RX4 12) (by decide +kernel)) (X.2.2.2.1 (.initialized RX4) (by decide +kernel)) (zo_4 _) zd_4 (by show 0 + 1 ≤ 1; omega) (by show 0 + 12 ≤ 12; omega) (by show 1 ≤ Phc S + 14400; omega) (by show 12 ≤ Phs S + 46000; omega) dX11_pot_35 (fun q_27 H hq_27 hw => ?_)
        obtain ⟨S_30, eS_30⟩ : ∃ T, T = sO S q_27 184 := ⟨_, rfl⟩
        rw [← eS_30] at hw
        have ph_31 : 1 + Phc S_30 ≤ Phc S + 1 := by rw [show Phc S_30 = Phc S from Ph_sO hO.1 hq_27 eS_30 (by decide)]; exact ph_28
        have ph_32 : 12 + Phs S_30 ≤ Phs S + 12 := by rw [show Phs S_30 = Phs S from Ph_sO hO.1 hq_27 eS_30 (by decide)]; exact ph_29
        clear ph_28
        clear ph_29
        have hO_33 : Og ePT S S_30 := hO.sO hq_27 eS_30 (by decide +kernel)
        have hn0_q_27 : q_27 ∉ pL S := fun z => hq_27 (hO.fr.1 q_27 z).1
        have ha_34 : At S_30 q_27 184 := by rw [eS_30]; exact At_nO _ _ _
        have hzI_q_27 : ∀ g, pI S_30 g q_27 = 0 := fun g => by rw [eS_30]; exact pI_sO_new
        have hzR_q_27 : ∀ g, pR S_30 g q_27 = none := fun g => by rw [eS_30]; exact if_pos rfl
        refine lv_dup X.1 X.2.1 dX11_pot_38 rfl ?_
        refine lv_aload_n X.1 X.2.1 dX11_pot_39 rfl (lv_at hl 0 rfl) ?_
        have t_35 : At S_30 x 11 := by rw [eS_30]; exact At_sO ha_x hq_27
        have t_36 : pI S_30 1104 x = v_1 := by rw [eS_30]; exact (pI_sO_ne (ne_of_new hq_27 ha_x.1)).trans ev_1
        refine r_getI (g := 1104) (x := v_1) X hw t_35 rfl 4 t_36 (by decide) rfl inn_X11_pot_11 (by decide) (X.2.2.2.1 (.fieldLink RX11 124 "SilkMill" "potsMade" "I") (by decide +kernel)) rfl (gv_1104 _ _) dX11_pot_40 ?_
        refine lv_iload_n X.1 X.2.1 dX11_pot_43 rfl (lv_at hl 1 rfl) ?_
        refine lv_iload_n X.1 X.2.1 dX11_pot_44 rfl (lv_at hl 2 rfl) ?_
        have ph_37 : 21 + Phc S_30 ≤ Phc S + 21 := by omega
        have ph_38 : 2745 + Phs S_30 ≤ Phs S + 2745 := by omega
        clear ph_31
        clear ph_32
        refine k_v (rm := { frames := 3, cells := 20, slots := 2733, locals := 144 }) (av := [.ref q_27, .int (v_1), .int (a1), .int (a2)]) X hw (va_runI (As := [.int (v_1), .int (a1), .int (a2)]) (rest := [.ref q_27, .int (v_1), .ref q_5]) (cfix X) (k_X4_init6 l G cy κ S_30 _ q_27 (v_1) (v_1.toInt) (a1) (a1_z) (a2) (a2_z) hO_33.1 ha_34 rfl hz_a1 hz_a2 hzI_q_27 hzR_q_27) (cwI 3 X.2.2.2.1 gX11_pot_X4_init rfl rfl rfl (X.2.2.2.1 (.initialized RX4) (by decide +kernel)) (X.2.2.2.1 (.methodLink RX11 131 yX4_init) (by decide +kernel)) (X.2.2.2.1 (.instanceMethod yX4_init) (by decide +kernel)) rfl (by decide +kernel) ⟨Nat.le_of_ble_eq_true rfl, Nat.le_of_ble_eq_true rfl⟩) (pre_S X hw _) rfl rfl hl.1 rfl (lv_room (Nat.le_of_ble_eq_true rfl)) dX11_pot_45 ⟨(by show 1 + 20 ≤ Phc S + 14400; omega), (by show 12 + 2733 ≤ Phs S + 46000; omega)⟩) 21 2745 (by show 1 + 20 ≤ 21; omega) (by show 12 + 2733 ≤ 2745; omega) (fun S_40 H locs hp hw hfr hnw => ?_)
        obtain ⟨hK_41, hg_42, ha_43, ph_44, ph_45, kx_46, kx_47, kx_48, kx_49⟩ := hp
        have ph_50 : 21 + Phc S_40 ≤ Phc S + 14293 := by omega
        have ph_51 : 2745 + Phs S_40 ≤ Phs S + 45689 := by omega
        clear ph_37
        clear ph_38
        clear ph_44
        clear ph_45
        have hO_52 : Og ePT S S_40 := Og_ctor2 hO_33 hn0_q_27 hK_41 hg_42
        have t_53 : At S_30 q_5 18 := by rw [eS_30]; exact At_sO h_7 hq_27
        have t_54 : At S_40 q_5 18 := hK_41.at ha_34 t_53 (by decide)
        have t_55 : pN S_30 q_5 = 4 := by rw [eS_30, pN_sO]; exact h_8
        clear h_8
        have t_57 : At S_30 q_5 18 := by rw [eS_30]; exact At_sO h_7 hq_27
        have t_56 : pN S_40 q_5 = 4 := ((hK_41 q_5 t_57.1).2 (At_ne t_57 ha_34 (by decide))).2.2.2.1.trans t_55
        clear t_55
        refine r_aast X hw t_54 rfl ha_43 rfl (by decide) (by decide) rfl rfl (by rw [t_56]; exact z_ix rfl (by omega) (by omega)) dX11_pot_48 (fun H locs hw => ?_)
        obtain ⟨S_58, eS_58⟩ : ∃ T, T = sB S_40 q_5 (va_up (pB S_40 q_5) (Int32.toNatClampNeg (v_1)) (some q_27)) := ⟨_, rfl⟩
        rw [← eS_58] at hw
        have ph_59 : 21 + Phc S_58 ≤ Phc S + 14293 := by rw [show Phc S_58 = Phc S_40 from Ph_sB eS_58]; exact ph_50
        have ph_60 : 2745 + Phs S_58 ≤ Phs S + 45689 := by rw [show Phs S_58 = Phs S_40 from Ph_sB eS_58]; exact ph_51
        clear ph_50
        clear ph_51
        have hO_61 : Og ePT S S_58 := hO_52.sB eS_58 t_54 (by decide +kernel) (uB_18 hO_52.1 t_54 (fun q hq => by cases hq; exact ha_43))
        refine lv_aload_n X.1 X.2.1 dX11_pot_49 rfl (lv_at hl 0 rfl) ?_
        refine lv_dup X.1 X.2.1 dX11_pot_50 rfl ?_
        have t_62 : At S_40 x 11 := hK_41.at ha_34 t_35 (by decide)
        have t_63 : At S_58 x 11 := tAt_sB eS_58 t_62
        have t_64 : pI S_40 1104 x = v_1 := (((hK_41 x t_35.1).2 (At_ne t_35 ha_34 (by decide))).2.1 1104).trans t_36
        have t_65 : pI S_58 1104 x = v_1 := tI_sB eS_58 t_64
        refine r_getI (g := 1104) (x := v_1) X hw t_63 rfl 4 t_65 (by decide) rfl inn_X11_pot_11 (by decide) (X.2.2.2.1 (.fieldLink RX11 124 "SilkMill" "potsMade" "I") (by decide +kernel)) rfl (gv_1104 _ _) dX11_pot_51 ?_
        refine lv_iconst (v := 1) X.1 X.2.1 dX11_pot_54 (by decide) ?_
        refine lv_iadd X.1 X.2.1 dX11_pot_55 ?_
        refine lv_topi (fun v_66 ev_66 => ?_)
        have z_67 : v_66.toInt = v_1.toInt + 1 := z_add ev_66 rfl ti_1 (by omega) (by omega)
        have pz_68 : (pI S_58 1104 x).toInt = v_1.toInt := (congrArg Int32.toInt t_65).trans rfl
        have nd_69 := nodup_of hw
        refine r_putI (v := v_66) X hw t_63 rfl 4 1104 tyX11 (by decide) rfl inn_X11_pot_11 tyX11_ok nmX11 (by decide) (X.2.2.2.1 (.fieldLink RX11 124 "SilkMill" "potsMade" "I") (by decide +kernel)) rfl (Or.inl rfl) rfl rfl (Nat.le_of_ble_eq_true rfl) (st_1104 _ _) dX11_pot_56 (fun H locs hw => ?_)
        obtain ⟨S_70, eS_70⟩ : ∃ T, T = sI S_58 1104 x (v_66) := ⟨_, rfl⟩
        rw [← eS_70] at hw
        have ph_71 : Phc S_70 + (4 - (pI S_58 1104 x).toInt.toNat) * 14400 = Phc S_58 + (4 - (v_66).toInt.toNat) * 14400 := Ph_1104 nd_69 t_63 eS_70
        have ph_72 : Phs S_70 + (4 - (pI S_58 1104 x).toInt.toNat) * 46000 = Phs S_58 + (4 - (v_66).toInt.toNat) * 46000 := Ph_1104 nd_69 t_63 eS_70
        have ph_73 : 21 + Phc S_70 ≤ Phc S + 0 := by omega
        have ph_74 : 2745 + Phs S_70 ≤ Phs S + 0 := by omega
        clear ph_59
        clear ph_60
        clear ph_71
        clear ph_72
        have hO_75 : Og ePT S S_70 := hO_61.sI eS_70 (by decide +kernel) (uI_11_1104 hO_61.1 t_63 (by omega) (by omega))
        have h_76 : pI S_70 1104 x = v_66 := tI_sIs eS_70
        refine lv_aload_n X.1 X.2.1 dX11_pot_59 rfl (lv_at hl 0 rfl) ?_
        have t_77 : At S_70 x 11 := tAt_sI eS_70 t_63
        refine r_getI (g := 1104) (x := v_66) X hw t_77 rfl 4 h_76 (by decide) rfl inn_X11_pot_11 (by decide) (X.2.2.2.1 (.fieldLink RX11 124 "SilkMill" "potsMade" "I") (by decide +kernel)) rfl (gv_1104 _ _) dX11_pot_60 ?_
        refine lv_iconst (v := 1) X.1 X.2.1 dX11_pot_63 (by decide) ?_
        refine lv_isub X.1 X.2.1 dX11_pot_64 ?_
        refine lv_topi (fun v_78 ev_78 => ?_)
        have z_79 : v_78.toInt = v_66.toInt - 1 := z_sub ev_78 rfl ti_1 (by omega) (by omega)
        have pz_80 : (pI S_70 1104 x).toInt = v_66.toInt := (congrArg Int32.toInt h_76).trans rfl
        have bb_81 : pB S_30 q_5 = pB S q_5 := by rw [eS_30]; rfl
        have bb_82 : pB S_40 q_5 = pB S q_5 := (show pB S_40 q_5 = pB S_30 q_5 from ((hK_41 q_5 t_57.1).2 (At_ne t_57 ha_34 (by decide))).2.2.2.2.2).trans bb_81
        have bb_83 : pB S_30 q_5 = pB S q_5 := by rw [eS_30]; rfl
        have bb_84 : pB S_40 q_5 = pB S q_5 := (show pB S_40 q_5 = pB S_30 q_5 from ((hK_41 q_5 t_57.1).2 (At_ne t_57 ha_34 (by decide))).2.2.2.2.2).trans bb_83
        have bb_85 : pB S_70 q_5 = pB S_58 q_5 := by rw [eS_70]; rfl
        have bb_86 : pB S_58 q_5 = va_up (pB S_40 q_5) (Int32.toNatClampNeg (v_1)) (some q_27) := by rw [eS_58]; exact if_pos rfl
        have zn_87 := z_nat (x := v_1) rfl (by omega)
        have t_88 : pR S_30 1103 x = some q_5 := by rw [eS_30]; exact (pR_sO_ne (ne_of_new hq_27 ha_x.1)).trans h_6
        have t_89 : pR S_40 1103 x = some q_5 := (((hK_41 x t_35.1).2 (At_ne t_35 ha_34 (by decide))).2.2.1 1103).trans t_88
        have t_90 : pR S_58 1103 x = some q_5 := tR_sB eS_58 t_89
        have t_91 : pR S_70 1103 x = some q_5 := tR_sI eS_70 t_90
        have fr_92 : Fr ePT S_40 S_70 := ePT_fr t_54 eS_58 eS_70
        have bb_93 : pB S_30 q_5 = pB S q_5 := by rw [eS_30]; rfl
        have bb_94 : pB S_40 q_5 = pB S q_5 := (show pB S_40 q_5 = pB S_30 q_5 from ((hK_41 q_5 t_57.1).2 (At_ne t_57 ha_34 (by decide))).2.2.2.2.2).trans bb_93
        have bb_95 : pB S_30 q_5 = pB S q_5 := by rw [eS_30]; rfl
        have bb_96 : pB S_40 q_5 = pB S q_5 := (show pB S_40 q_5 = pB S_30 q_5 from ((hK_41 q_5 t_57.1).2 (At_ne t_57 ha_34 (by decide))).2.2.2.2.2).trans bb_95
        have bb_97 : pB S_70 q_5 = pB S_58 q_5 := by rw [eS_70]; rfl
        have eb_98 : pB S_70 q_5 = va_up (pB S q_5) (Int32.toNatClampNeg (v_1)) (some q_27) := bb_97.trans (show pB S_58 q_5 = _ by rw [← bb_94, eS_58]; exact if_pos rfl)
        have zn_99 := z_nat (x := v_1) rfl (by omega)
        exact ret_gi X hw hr hlocks (by show 21 ≤ Phc S + 14400; omega) (by show 2745 ≤ Phs S + 46000; omega) (by omega) (by omega) ⟨hO_75, ⟨z_lo _, z_hi _, Or.inl ⟨by omega, by omega, by omega⟩, PN_put (n := (Int32.toNatClampNeg (v_1))) (b := q_27) h_6 t_91 (bb_85.trans (bb_86.trans (by rw [bb_82]))) (by omega) (by omega), fun _ => ⟨q_27, fun j => (by rw [mB_eq t_91, mB_eq h_6, eb_98, show (pI S 1104 x).toInt.toNat = (Int32.toNatClampNeg (v_1)) by omega]; rfl), fr_92.at ha_43, RowE_fr fr_92 ha_43 (by decide +kernel) (by decide +kernel) (by decide +kernel) kx_46, RowE_fr fr_92 ha_43 (by decide +kernel) (by decide +kernel) (by decide +kernel) kx_47, RowE_fr fr_92 ha_43 (by decide +kernel) (by decide +kernel) (by decide +kernel) kx_48⟩, fun h => absurd (by omega) h, fun _ => ⟨q_27, hq_27, fun j => (by rw [mB_eq t_91, mB_eq h_6, eb_98, show (pI S 1104 x).toInt.toNat = (Int32.toNatClampNeg (v_1)) by omega]; rfl), PotN_to (S := S_30) (T := S_40) (fun b hb => by rw [eS_30]; exact List.mem_append_left _ hb) (fun g b => by rw [eS_70, eS_58]; try rfl) (fun g b hg => by rw [eS_70, eS_58, pI_sI_nf (by intro z; subst z; revert hg; decide)]; try rfl) (fun b => by rw [eS_70, eS_58]; try rfl) (by have h := kx_49; rw [show v_1 = pI S 1104 x from ev_1.symm] at h; exact h)⟩⟩⟩ dX11_pot_65
      · have z_b_100 := trivial
        refine lv_if_ne (tgt := 27) X.1 X.2.1 dX11_pot_22 (by decide) (fun c_101 => absurd c_101 (by decide)) (fun c_101 => ?_)
        refine lv_iconst (v := (-1)) X.1 X.2.1 dX11_pot_25 (by decide) ?_
        have pz_102 : (pI S 1104 x).toInt = v_1.toInt := (congrArg Int32.toInt ev_1).trans rfl
        exact ret_gi X hw hr hlocks (by show 0 ≤ Phc S + 14400; omega) (by show 0 ≤ Phs S + 46000; omega) (by omega) (by omega) ⟨hO, ⟨z_lo _, z_hi _, Or.inr ⟨by omega, by decide, by omega⟩, fun h => h, fun h => absurd h (by omega), fun _ => rfl, fun h => absurd h (by omega)⟩⟩ dX11_pot_26
    · have z_b_103 := trivial
      refine lv_if_eq (tgt := 25) X.1 X.2.1 dX11_pot_12 (by decide) (fun c_104 => ?_) (fun c_104 => absurd c_104 (by decide))
      refine lv_iconst (v := (-1)) X.1 X.2.1 dX11_pot_25 (by decide) ?_
      have pz_105 : (pI S 1104 x).toInt = v_1.toInt := (congrArg Int32.toInt ev_1).trans rfl
      exact ret_gi X hw hr hlocks (by show 0 ≤ Phc S + 14400; omega) (by show 0 ≤ Phs S + 46000; omega) (by omega) (by omega) ⟨hO, ⟨z_lo _, z_hi _, Or.inr ⟨by omega, by decide, by omega⟩, fun h => h, fun h => absurd h (by omega), fun _ => rfl, fun h => absurd h (by omega)⟩⟩ dX11_pot_26
