set_option maxRecDepth 20000 in
theorem ggX4_init_X5_init : GoodIn wsX4_init wsX5_init := goodIn_h _ [2, 0, 19, 0, 0, 0, 0, 0, 0, 0, 20, 0, 0] [2, 3, 0, 1, 4, 5, 6, 7, 8, 9, 10, 11, 12] (by decide +kernel) (by decide +kernel)
set_option maxRecDepth 20000 in
theorem gX4_init_X5_init : GoodIn wsX4_init (wsX5_init) := ggX4_init_X5_init
set_option maxRecDepth 20000 in
theorem ggX4_init_X9_init : GoodIn wsX4_init wsX9_init := goodIn_h _ [2, 0, 29, 0, 0, 0, 0, 0, 0, 0, 0, 24, 0, 0, 0, 0, 0, 0, 0, 0] [2, 3, 0, 1, 4, 5, 6, 7, 8, 9, 10, 11, 12, 13, 14, 15, 16, 17, 18, 19] (by decide +kernel) (by decide +kernel)
set_option maxRecDepth 20000 in
theorem gX4_init_X9_init : GoodIn wsX4_init (wsX9_init) := ggX4_init_X9_init
set_option maxRecDepth 20000 in
theorem ggX4_init_X6_init : GoodIn wsX4_init wsX6_init := goodIn_h _ [2, 0, 31, 7, 0, 0, 0, 0, 0, 0, 0, 24, 0, 0, 0, 0, 0, 0] [3, 4, 0, 1, 2, 5, 6, 7, 8, 9, 10, 11, 12, 13, 14, 15, 16, 17] (by decide +kernel) (by decide +kernel)
set_option maxRecDepth 20000 in
theorem gX4_init_X6_init_n35 : GoodIn wsX4_init (wsX6_init) := ggX4_init_X6_init
theorem dX4_init_0 : decode cX4_init 0 = .ok (.aload_n 0, 1) := by decide +kernel
theorem dX4_init_1 : decode cX4_init 1 = .ok (.invokespecial 3, 3) := by decide +kernel
theorem dX4_init_4 : decode cX4_init 4 = .ok (.aload_n 0, 1) := by decide +kernel
theorem dX4_init_5 : decode cX4_init 5 = .ok (.new 9, 3) := by decide +kernel
theorem dX4_init_8 : decode cX4_init 8 = .ok (.dup, 1) := by decide +kernel
theorem dX4_init_9 : decode cX4_init 9 = .ok (.sipush 600, 3) := by decide +kernel
theorem dX4_init_12 : decode cX4_init 12 = .ok (.invokespecial 11, 3) := by decide +kernel
theorem dX4_init_15 : decode cX4_init 15 = .ok (.putfield 14, 3) := by decide +kernel
theorem dX4_init_18 : decode cX4_init 18 = .ok (.aload_n 0, 1) := by decide +kernel
theorem dX4_init_19 : decode cX4_init 19 = .ok (.new 9, 3) := by decide +kernel
theorem dX4_init_22 : decode cX4_init 22 = .ok (.dup, 1) := by decide +kernel
theorem dX4_init_23 : decode cX4_init 23 = .ok (.bipush 12, 2) := by decide +kernel
theorem dX4_init_25 : decode cX4_init 25 = .ok (.invokespecial 11, 3) := by decide +kernel
theorem dX4_init_28 : decode cX4_init 28 = .ok (.putfield 20, 3) := by decide +kernel
theorem dX4_init_31 : decode cX4_init 31 = .ok (.aload_n 0, 1) := by decide +kernel
theorem dX4_init_32 : decode cX4_init 32 = .ok (.new 9, 3) := by decide +kernel
theorem dX4_init_35 : decode cX4_init 35 = .ok (.dup, 1) := by decide +kernel
theorem dX4_init_36 : decode cX4_init 36 = .ok (.sipush 600, 3) := by decide +kernel
theorem dX4_init_39 : decode cX4_init 39 = .ok (.invokespecial 11, 3) := by decide +kernel
theorem dX4_init_42 : decode cX4_init 42 = .ok (.putfield 23, 3) := by decide +kernel
theorem dX4_init_45 : decode cX4_init 45 = .ok (.aload_n 0, 1) := by decide +kernel
theorem dX4_init_46 : decode cX4_init 46 = .ok (.new 26, 3) := by decide +kernel
theorem dX4_init_49 : decode cX4_init 49 = .ok (.dup, 1) := by decide +kernel
theorem dX4_init_50 : decode cX4_init 50 = .ok (.invokespecial 28, 3) := by decide +kernel
theorem dX4_init_53 : decode cX4_init 53 = .ok (.putfield 29, 3) := by decide +kernel
theorem dX4_init_56 : decode cX4_init 56 = .ok (.aload_n 0, 1) := by decide +kernel
theorem dX4_init_57 : decode cX4_init 57 = .ok (.new 33, 3) := by decide +kernel
theorem dX4_init_60 : decode cX4_init 60 = .ok (.dup, 1) := by decide +kernel
theorem dX4_init_61 : decode cX4_init 61 = .ok (.invokespecial 35, 3) := by decide +kernel
theorem dX4_init_64 : decode cX4_init 64 = .ok (.putfield 36, 3) := by decide +kernel
theorem dX4_init_67 : decode cX4_init 67 = .ok (.aload_n 0, 1) := by decide +kernel
theorem dX4_init_68 : decode cX4_init 68 = .ok (.iload_n 1, 1) := by decide +kernel
theorem dX4_init_69 : decode cX4_init 69 = .ok (.putfield 40, 3) := by decide +kernel
theorem dX4_init_72 : decode cX4_init 72 = .ok (.aload_n 0, 1) := by decide +kernel
theorem dX4_init_73 : decode cX4_init 73 = .ok (.iload_n 2, 1) := by decide +kernel
theorem dX4_init_74 : decode cX4_init 74 = .ok (.putfield 44, 3) := by decide +kernel
theorem dX4_init_77 : decode cX4_init 77 = .ok (.aload_n 0, 1) := by decide +kernel
theorem dX4_init_78 : decode cX4_init 78 = .ok (.iload_n 3, 1) := by decide +kernel
theorem dX4_init_79 : decode cX4_init 79 = .ok (.putfield 47, 3) := by decide +kernel
theorem dX4_init_82 : decode cX4_init 82 = .ok (.return_, 1) := by decide +kernel
theorem inn_X4_init_4 : ∀ w ∈ u_ws RX4 TX4 12, w ∈ wsX4_init := fun w h => List.mem_cons_of_mem _ (List.mem_append_left _ (List.mem_append_left _ (List.mem_append_right _ h)))
theorem inn_X4_init_5 : ∀ w ∈ u_ws RX5 TX5 3, w ∈ wsX4_init := fun w h => List.mem_cons_of_mem _ (List.mem_append_left _ (List.mem_append_left _ (List.mem_append_left _ (List.mem_append_right _ h))))
theorem inn_X4_init_6 : ∀ w ∈ u_ws RX6 TX6 7, w ∈ wsX4_init := fun w h => List.mem_cons_of_mem _ (List.mem_append_right _ h)
theorem inn_X4_init_9 : ∀ w ∈ u_ws RX9 TX9 9, w ∈ wsX4_init := fun w h => List.mem_cons_of_mem _ (List.mem_append_left _ (List.mem_append_right _ h))
set_option maxHeartbeats 4000000 in
set_option maxRecDepth 100000 in
theorem k_X4_init (l : Launch) (G : va_G) (cy : Nat → ClassId) (κ : Nat → Nat) (S : PS) (sz : Nat) (x : Nat) (a1 : Int32) (a1_z : Int) (a2 : Int32) (a2_z : Int) (a3 : Int32) (a3_z : Int) (hG : GX S) (ha_x : At S x 184) (hz_a1 : a1.toInt = a1_z) (hz_a2 : a2.toInt = a2_z) (hz_a3 : a3.toInt = a3_z) (hzI : ∀ g, pI S g x = 0) (hzR : ∀ g, pR S g x = none) : Cv l yX4_init wsX4_init ({ frames := 3, cells := 20, slots := 2733, locals := 144 }) G cy κ S sz [.ref x, .int (a1), .int (a2), .int (a3)] (fun (S9 : PS) => Kq S S9 x ∧ GX S9 ∧ At S9 x 4 ∧ Phc S9 = Phc S + 14272 ∧ Phs S9 = Phs S + 42944) := by
  refine ent_m (cc := cX4_init) (maxL := 4) (ret := none) (by decide) rfl (Nat.le_of_ble_eq_true rfl) ?_
  intro p e s m below meth c ls X hr hlocks hin hw hl hsz
  subst hsz
  have X : Cx p c cX4_init 4 s [.ref x, .int (a1), .int (a2), .int (a3)].toArray wsX4_init RX4 m G cy κ (AS S s.heap.size) := X
  have hl : lv_has ls 4 [(0, .ref x), (1, .int (a1)), (2, .int (a2)), (3, .int (a3))] := hl
  have rg_a1 : (-2147483648) ≤ a1_z ∧ a1_z ≤ 2147483647 := by rw [← hz_a1]; exact ⟨z_lo _, z_hi _⟩
  have rg_a2 : (-2147483648) ≤ a2_z ∧ a2_z ≤ 2147483647 := by rw [← hz_a2]; exact ⟨z_lo _, z_hi _⟩
  have rg_a3 : (-2147483648) ≤ a3_z ∧ a3_z ≤ 2147483647 := by rw [← hz_a3]; exact ⟨z_lo _, z_hi _⟩
  have hpc0 : Phc S = Phc S + 0 := rfl
  have hps0 : Phs S = Phs S + 0 := rfl
  have hK : Kq S S x := Kq.rf S _
  refine lv_aload_n X.1 X.2.1 dX4_init_0 rfl (lv_at hl 0 rfl) ?_
  refine W.objInit X.1 X.2.1 X.2.2.2.2.1 (X.2.2.2.1 (.methodLink RX4 3 objectInit) (by decide +kernel)) (X.2.2.2.1 (.instanceMethod objectInit) (by decide +kernel)) (X.2.2.2.1 (.code objectInit ⟨#[0xb1]⟩ 1 none) (by decide +kernel)) rfl (hl.1.trans X.2.2.1.symm) rfl dX4_init_1 (Nat.le_of_ble_eq_true rfl) (Nat.le_of_ble_eq_true rfl) ?_
  refine W.eq (g2 := F0 m 4 ls ([])) rfl ?_
  refine lv_aload_n X.1 X.2.1 dX4_init_4 rfl (lv_at hl 0 rfl) ?_
  refine r_new X hw 185 5 3 1 rfl tyX5 (by decide) rfl inn_X4_init_5 tyX5_ok (X.2.2.2.1 (.classLink RX4 9 RX5) (by decide +kernel)) (X.2.2.2.1 (.instantiable RX5 3) (by decide +kernel)) (X.2.2.2.1 (.initialized RX5) (by decide +kernel)) (zo_5 _) zd_5 (by show 0 + 1 ≤ 1; omega) (by show 0 + 3 ≤ 3; omega) (by show 1 ≤ 20; omega) (by show 3 ≤ 2733; omega) dX4_init_5 (fun q_1 H hq_1 hw => ?_)
  obtain ⟨S_2, eS_2⟩ : ∃ T, T = sO S q_1 185 := ⟨_, rfl⟩
  rw [← eS_2] at hw
  have ph_3 : Phc S_2 = Phc S + 0 := (show Phc S_2 = Phc S from Ph_sO hG hq_1 eS_2 (by decide)).trans hpc0
  have ph_4 : Phs S_2 = Phs S + 0 := (show Phs S_2 = Phs S from Ph_sO hG hq_1 eS_2 (by decide)).trans hps0
  clear hpc0
  clear hps0
  have hK_5 : Kq S S_2 x := hK.sO hq_1 eS_2
  have hg_6 : GX S_2 := by rw [eS_2]; exact GX_O hG hq_1 (by decide +kernel)
  have hn0_q_1 := hK.new hq_1
  have ha_7 : At S_2 q_1 185 := by rw [eS_2]; exact At_nO _ _ _
  have hzI_q_1 : ∀ g, pI S_2 g q_1 = 0 := fun g => by rw [eS_2]; exact pI_sO_new
  have hzR_q_1 : ∀ g, pR S_2 g q_1 = none := fun g => by rw [eS_2]; exact if_pos rfl
  refine lv_dup X.1 X.2.1 dX4_init_8 rfl ?_
  refine lv_sipush (v := 600) X.1 X.2.1 dX4_init_9 (by decide) ?_
  refine k_v (rm := { frames := 2, cells := 1, slots := 600, locals := 96 }) (av := [.ref q_1, .int 600]) X hw (va_runI (As := [.int 600]) (rest := [.ref q_1, .ref x]) (cfix X) (k_X5_init l G cy κ S_2 _ q_1 (600) (600) hg_6 ha_7 ti_600 hzI_q_1 hzR_q_1 (by omega) (by omega)) (cwI 1 X.2.2.2.1 gX4_init_X5_init rfl rfl rfl (X.2.2.2.1 (.initialized RX5) (by decide +kernel)) (X.2.2.2.1 (.methodLink RX4 11 yX5_init) (by decide +kernel)) (X.2.2.2.1 (.instanceMethod yX5_init) (by decide +kernel)) rfl (by decide +kernel) ⟨Nat.le_of_ble_eq_true rfl, Nat.le_of_ble_eq_true rfl⟩) (pre_S X hw _) rfl rfl hl.1 rfl (lv_room (Nat.le_of_ble_eq_true rfl)) dX4_init_12 ⟨(by show 1 + 1 ≤ 20; omega), (by show 3 + 600 ≤ 2733; omega)⟩) 2 603 (by show 1 + 1 ≤ 2; omega) (by show 3 + 600 ≤ 603; omega) (fun S_9 H locs hp hw hfr hnw => ?_)
  obtain ⟨hK_10, hg_11, ha_12, ph_13, ph_14⟩ := hp
  have hK_15 : Kq S S_9 x := hK_5.sub hn0_q_1 hK_10
  have ph_16 : Phc S_9 = Phc S + 0 := by omega
  have ph_17 : Phs S_9 = Phs S + 0 := by omega
  clear ph_3
  clear ph_4
  clear ph_13
  clear ph_14
  have t_18 : At S_2 x 184 := by rw [eS_2]; exact At_sO ha_x hq_1
  have t_19 : At S_9 x 184 := hK_10.at ha_7 t_18 (by decide)
  refine r_putR X hw t_19 rfl 0 400 (some q_1) rfl tyX4 (by decide) rfl inn_X4_init_4 tyX4_ok nmX4 (by decide) (X.2.2.2.1 (.fieldLink RX4 14 "SilkMill$Pot" "basket" "LSilkMill$Row;") (by decide +kernel)) rfl (Or.inr ⟨rfl, hin, rfl⟩) (fun _ => rfl) rfl (fun _ => rfl) rfl (Nat.le_of_ble_eq_true rfl) (st_400 _ _) dX4_init_15 (fun H locs hw => ?_)
  obtain ⟨S_20, eS_20⟩ : ∃ T, T = sR S_9 400 x (some q_1) := ⟨_, rfl⟩
  rw [← eS_20] at hw
  have ph_21 : Phc S_20 = Phc S + 0 := (show Phc S_20 = Phc S_9 from Ph_rawR t_19 (by decide) eS_20).trans ph_16
  have ph_22 : Phs S_20 = Phs S + 0 := (show Phs S_20 = Phs S_9 from Ph_rawR t_19 (by decide) eS_20).trans ph_17
  clear ph_16
  clear ph_17
  have hK_23 : Kq S S_20 x := hK_15.sR eS_20
  have hg_24 : GX S_20 := by rw [eS_20]; exact GX_rawR hg_11 t_19 (by decide +kernel)
  have h_25 : pR S_20 400 x = some q_1 := tR_sRs eS_20
  refine lv_aload_n X.1 X.2.1 dX4_init_18 rfl (lv_at hl 0 rfl) ?_
  refine r_new X hw 185 5 606 3 rfl tyX5 (by decide) rfl inn_X4_init_5 tyX5_ok (X.2.2.2.1 (.classLink RX4 9 RX5) (by decide +kernel)) (X.2.2.2.1 (.instantiable RX5 3) (by decide +kernel)) (X.2.2.2.1 (.initialized RX5) (by decide +kernel)) (zo_5 _) zd_5 (by show 2 + 1 ≤ 3; omega) (by show 603 + 3 ≤ 606; omega) (by show 3 ≤ 20; omega) (by show 606 ≤ 2733; omega) dX4_init_19 (fun q_26 H hq_26 hw => ?_)
  obtain ⟨S_27, eS_27⟩ : ∃ T, T = sO S_20 q_26 185 := ⟨_, rfl⟩
  rw [← eS_27] at hw
  have ph_28 : Phc S_27 = Phc S + 0 := (show Phc S_27 = Phc S_20 from Ph_sO hg_24 hq_26 eS_27 (by decide)).trans ph_21
  have ph_29 : Phs S_27 = Phs S + 0 := (show Phs S_27 = Phs S_20 from Ph_sO hg_24 hq_26 eS_27 (by decide)).trans ph_22
  clear ph_21
  clear ph_22
  have hK_30 : Kq S S_27 x := hK_23.sO hq_26 eS_27
  have hg_31 : GX S_27 := by rw [eS_27]; exact GX_O hg_24 hq_26 (by decide +kernel)
  have hn0_q_26 := hK_23.new hq_26
  have ha_32 : At S_27 q_26 185 := by rw [eS_27]; exact At_nO _ _ _
  have hzI_q_26 : ∀ g, pI S_27 g q_26 = 0 := fun g => by rw [eS_27]; exact pI_sO_new
  have hzR_q_26 : ∀ g, pR S_27 g q_26 = none := fun g => by rw [eS_27]; exact if_pos rfl
  refine lv_dup X.1 X.2.1 dX4_init_22 rfl ?_
  refine lv_bipush (v := 12) X.1 X.2.1 dX4_init_23 (by decide) ?_
  refine k_v (rm := { frames := 2, cells := 1, slots := 600, locals := 96 }) (av := [.ref q_26, .int 12]) X hw (va_runI (As := [.int 12]) (rest := [.ref q_26, .ref x]) (cfix X) (k_X5_init l G cy κ S_27 _ q_26 (12) (12) hg_31 ha_32 ti_12 hzI_q_26 hzR_q_26 (by omega) (by omega)) (cwI 1 X.2.2.2.1 gX4_init_X5_init rfl rfl rfl (X.2.2.2.1 (.initialized RX5) (by decide +kernel)) (X.2.2.2.1 (.methodLink RX4 11 yX5_init) (by decide +kernel)) (X.2.2.2.1 (.instanceMethod yX5_init) (by decide +kernel)) rfl (by decide +kernel) ⟨Nat.le_of_ble_eq_true rfl, Nat.le_of_ble_eq_true rfl⟩) (pre_S X hw _) rfl rfl hl.1 rfl (lv_room (Nat.le_of_ble_eq_true rfl)) dX4_init_25 ⟨(by show 3 + 1 ≤ 20; omega), (by show 606 + 600 ≤ 2733; omega)⟩) 4 1206 (by show 3 + 1 ≤ 4; omega) (by show 606 + 600 ≤ 1206; omega) (fun S_34 H locs hp hw hfr hnw => ?_)
  obtain ⟨hK_35, hg_36, ha_37, ph_38, ph_39⟩ := hp
  have hK_40 : Kq S S_34 x := hK_30.sub hn0_q_26 hK_35
  have ph_41 : Phc S_34 = Phc S + 0 := by omega
  have ph_42 : Phs S_34 = Phs S + 0 := by omega
  clear ph_28
  clear ph_29
  clear ph_38
  clear ph_39
  have t_43 : At S_20 x 184 := tAt_sR eS_20 t_19
  have t_44 : At S_27 x 184 := by rw [eS_27]; exact At_sO t_43 hq_26
  have t_45 : At S_34 x 184 := hK_35.at ha_32 t_44 (by decide)
  refine r_putR X hw t_45 rfl 1 401 (some q_26) rfl tyX4 (by decide) rfl inn_X4_init_4 tyX4_ok nmX4 (by decide) (X.2.2.2.1 (.fieldLink RX4 20 "SilkMill$Pot" "ends" "LSilkMill$Row;") (by decide +kernel)) rfl (Or.inr ⟨rfl, hin, rfl⟩) (fun _ => rfl) rfl (fun _ => rfl) rfl (Nat.le_of_ble_eq_true rfl) (st_401 _ _) dX4_init_28 (fun H locs hw => ?_)
  obtain ⟨S_46, eS_46⟩ : ∃ T, T = sR S_34 401 x (some q_26) := ⟨_, rfl⟩
  rw [← eS_46] at hw
  have ph_47 : Phc S_46 = Phc S + 0 := (show Phc S_46 = Phc S_34 from Ph_rawR t_45 (by decide) eS_46).trans ph_41
  have ph_48 : Phs S_46 = Phs S + 0 := (show Phs S_46 = Phs S_34 from Ph_rawR t_45 (by decide) eS_46).trans ph_42
  clear ph_41
  clear ph_42
  have hK_49 : Kq S S_46 x := hK_40.sR eS_46
  have hg_50 : GX S_46 := by rw [eS_46]; exact GX_rawR hg_36 t_45 (by decide +kernel)
  have h_51 : pR S_46 401 x = some q_26 := tR_sRs eS_46
  refine lv_aload_n X.1 X.2.1 dX4_init_31 rfl (lv_at hl 0 rfl) ?_
  refine r_new X hw 185 5 1209 5 rfl tyX5 (by decide) rfl inn_X4_init_5 tyX5_ok (X.2.2.2.1 (.classLink RX4 9 RX5) (by decide +kernel)) (X.2.2.2.1 (.instantiable RX5 3) (by decide +kernel)) (X.2.2.2.1 (.initialized RX5) (by decide +kernel)) (zo_5 _) zd_5 (by show 4 + 1 ≤ 5; omega) (by show 1206 + 3 ≤ 1209; omega) (by show 5 ≤ 20; omega) (by show 1209 ≤ 2733; omega) dX4_init_32 (fun q_52 H hq_52 hw => ?_)
  obtain ⟨S_53, eS_53⟩ : ∃ T, T = sO S_46 q_52 185 := ⟨_, rfl⟩
  rw [← eS_53] at hw
  have ph_54 : Phc S_53 = Phc S + 0 := (show Phc S_53 = Phc S_46 from Ph_sO hg_50 hq_52 eS_53 (by decide)).trans ph_47
  have ph_55 : Phs S_53 = Phs S + 0 := (show Phs S_53 = Phs S_46 from Ph_sO hg_50 hq_52 eS_53 (by decide)).trans ph_48
  clear ph_47
  clear ph_48
  have hK_56 : Kq S S_53 x := hK_49.sO hq_52 eS_53
  have hg_57 : GX S_53 := by rw [eS_53]; exact GX_O hg_50 hq_52 (by decide +kernel)
  have hn0_q_52 := hK_49.new hq_52
  have ha_58 : At S_53 q_52 185 := by rw [eS_53]; exact At_nO _ _ _
  have hzI_q_52 : ∀ g, pI S_53 g q_52 = 0 := fun g => by rw [eS_53]; exact pI_sO_new
  have hzR_q_52 : ∀ g, pR S_53 g q_52 = none := fun g => by rw [eS_53]; exact if_pos rfl
  refine lv_dup X.1 X.2.1 dX4_init_35 rfl ?_
  refine lv_sipush (v := 600) X.1 X.2.1 dX4_init_36 (by decide) ?_
  refine k_v (rm := { frames := 2, cells := 1, slots := 600, locals := 96 }) (av := [.ref q_52, .int 600]) X hw (va_runI (As := [.int 600]) (rest := [.ref q_52, .ref x]) (cfix X) (k_X5_init l G cy κ S_53 _ q_52 (600) (600) hg_57 ha_58 ti_600 hzI_q_52 hzR_q_52 (by omega) (by omega)) (cwI 1 X.2.2.2.1 gX4_init_X5_init rfl rfl rfl (X.2.2.2.1 (.initialized RX5) (by decide +kernel)) (X.2.2.2.1 (.methodLink RX4 11 yX5_init) (by decide +kernel)) (X.2.2.2.1 (.instanceMethod yX5_init) (by decide +kernel)) rfl (by decide +kernel) ⟨Nat.le_of_ble_eq_true rfl, Nat.le_of_ble_eq_true rfl⟩) (pre_S X hw _) rfl rfl hl.1 rfl (lv_room (Nat.le_of_ble_eq_true rfl)) dX4_init_39 ⟨(by show 5 + 1 ≤ 20; omega), (by show 1209 + 600 ≤ 2733; omega)⟩) 6 1809 (by show 5 + 1 ≤ 6; omega) (by show 1209 + 600 ≤ 1809; omega) (fun S_60 H locs hp hw hfr hnw => ?_)
  obtain ⟨hK_61, hg_62, ha_63, ph_64, ph_65⟩ := hp
  have hK_66 : Kq S S_60 x := hK_56.sub hn0_q_52 hK_61
  have ph_67 : Phc S_60 = Phc S + 0 := by omega
  have ph_68 : Phs S_60 = Phs S + 0 := by omega
  clear ph_54
  clear ph_55
  clear ph_64
  clear ph_65
  have t_69 : At S_46 x 184 := tAt_sR eS_46 t_45
  have t_70 : At S_53 x 184 := by rw [eS_53]; exact At_sO t_69 hq_52
  have t_71 : At S_60 x 184 := hK_61.at ha_58 t_70 (by decide)
  refine r_putR X hw t_71 rfl 2 402 (some q_52) rfl tyX4 (by decide) rfl inn_X4_init_4 tyX4_ok nmX4 (by decide) (X.2.2.2.1 (.fieldLink RX4 23 "SilkMill$Pot" "lost" "LSilkMill$Row;") (by decide +kernel)) rfl (Or.inr ⟨rfl, hin, rfl⟩) (fun _ => rfl) rfl (fun _ => rfl) rfl (Nat.le_of_ble_eq_true rfl) (st_402 _ _) dX4_init_42 (fun H locs hw => ?_)
  obtain ⟨S_72, eS_72⟩ : ∃ T, T = sR S_60 402 x (some q_52) := ⟨_, rfl⟩
  rw [← eS_72] at hw
  have ph_73 : Phc S_72 = Phc S + 0 := (show Phc S_72 = Phc S_60 from Ph_rawR t_71 (by decide) eS_72).trans ph_67
  have ph_74 : Phs S_72 = Phs S + 0 := (show Phs S_72 = Phs S_60 from Ph_rawR t_71 (by decide) eS_72).trans ph_68
  clear ph_67
  clear ph_68
  have hK_75 : Kq S S_72 x := hK_66.sR eS_72
  have hg_76 : GX S_72 := by rw [eS_72]; exact GX_rawR hg_62 t_71 (by decide +kernel)
  have h_77 : pR S_72 402 x = some q_52 := tR_sRs eS_72
  refine lv_aload_n X.1 X.2.1 dX4_init_45 rfl (lv_at hl 0 rfl) ?_
  refine r_new X hw 189 9 1818 7 rfl tyX9 (by decide) rfl inn_X4_init_9 tyX9_ok (X.2.2.2.1 (.classLink RX4 26 RX9) (by decide +kernel)) (X.2.2.2.1 (.instantiable RX9 9) (by decide +kernel)) (X.2.2.2.1 (.initialized RX9) (by decide +kernel)) (zo_9 _) zd_9 (by show 6 + 1 ≤ 7; omega) (by show 1809 + 9 ≤ 1818; omega) (by show 7 ≤ 20; omega) (by show 1818 ≤ 2733; omega) dX4_init_46 (fun q_78 H hq_78 hw => ?_)
  obtain ⟨S_79, eS_79⟩ : ∃ T, T = sO S_72 q_78 189 := ⟨_, rfl⟩
  rw [← eS_79] at hw
  have ph_80 : Phc S_79 = Phc S + 0 := (show Phc S_79 = Phc S_72 from Ph_sO hg_76 hq_78 eS_79 (by decide)).trans ph_73
  have ph_81 : Phs S_79 = Phs S + 0 := (show Phs S_79 = Phs S_72 from Ph_sO hg_76 hq_78 eS_79 (by decide)).trans ph_74
  clear ph_73
  clear ph_74
  have hK_82 : Kq S S_79 x := hK_75.sO hq_78 eS_79
  have hg_83 : GX S_79 := by rw [eS_79]; exact GX_O hg_76 hq_78 (by decide +kernel)
  have hn0_q_78 := hK_75.new hq_78
  have ha_84 : At S_79 q_78 189 := by rw [eS_79]; exact At_nO _ _ _
  have hzI_q_78 : ∀ g, pI S_79 g q_78 = 0 := fun g => by rw [eS_79]; exact pI_sO_new
  have hzR_q_78 : ∀ g, pR S_79 g q_78 = none := fun g => by rw [eS_79]; exact if_pos rfl
  refine lv_dup X.1 X.2.1 dX4_init_49 rfl ?_
  refine k_v (rm := { frames := 2, cells := 6, slots := 728, locals := 96 }) (av := [.ref q_78]) X hw (va_runI (As := []) (rest := [.ref q_78, .ref x]) (cfix X) (k_X9_init l G cy κ S_79 _ q_78 hg_83 ha_84 hzI_q_78 hzR_q_78) (cwI 0 X.2.2.2.1 gX4_init_X9_init rfl rfl rfl (X.2.2.2.1 (.initialized RX9) (by decide +kernel)) (X.2.2.2.1 (.methodLink RX4 28 yX9_init) (by decide +kernel)) (X.2.2.2.1 (.instanceMethod yX9_init) (by decide +kernel)) rfl (by decide +kernel) ⟨Nat.le_of_ble_eq_true rfl, Nat.le_of_ble_eq_true rfl⟩) (pre_S X hw _) rfl rfl hl.1 rfl (lv_room (Nat.le_of_ble_eq_true rfl)) dX4_init_50 ⟨(by show 7 + 6 ≤ 20; omega), (by show 1818 + 728 ≤ 2733; omega)⟩) 13 2546 (by show 7 + 6 ≤ 13; omega) (by show 1818 + 728 ≤ 2546; omega) (fun S_86 H locs hp hw hfr hnw => ?_)
  obtain ⟨hK_87, hg_88, ha_89, ph_90, ph_91⟩ := hp
  have hK_92 : Kq S S_86 x := hK_82.sub hn0_q_78 hK_87
  have ph_93 : Phc S_86 = Phc S + 14272 := by omega
  have ph_94 : Phs S_86 = Phs S + 42944 := by omega
  clear ph_80
  clear ph_81
  clear ph_90
  clear ph_91
  have t_95 : At S_72 x 184 := tAt_sR eS_72 t_71
  have t_96 : At S_79 x 184 := by rw [eS_79]; exact At_sO t_95 hq_78
  have t_97 : At S_86 x 184 := hK_87.at ha_84 t_96 (by decide)
  refine r_putR X hw t_97 rfl 3 403 (some q_78) rfl tyX4 (by decide) rfl inn_X4_init_4 tyX4_ok nmX4 (by decide) (X.2.2.2.1 (.fieldLink RX4 29 "SilkMill$Pot" "strand" "LSilkMill$Strand;") (by decide +kernel)) rfl (Or.inr ⟨rfl, hin, rfl⟩) (fun _ => rfl) rfl (fun _ => rfl) rfl (Nat.le_of_ble_eq_true rfl) (st_403 _ _) dX4_init_53 (fun H locs hw => ?_)
  obtain ⟨S_98, eS_98⟩ : ∃ T, T = sR S_86 403 x (some q_78) := ⟨_, rfl⟩
  rw [← eS_98] at hw
  have ph_99 : Phc S_98 = Phc S + 14272 := (show Phc S_98 = Phc S_86 from Ph_rawR t_97 (by decide) eS_98).trans ph_93
  have ph_100 : Phs S_98 = Phs S + 42944 := (show Phs S_98 = Phs S_86 from Ph_rawR t_97 (by decide) eS_98).trans ph_94
  clear ph_93
  clear ph_94
  have hK_101 : Kq S S_98 x := hK_92.sR eS_98
  have hg_102 : GX S_98 := by rw [eS_98]; exact GX_rawR hg_88 t_97 (by decide +kernel)
  have h_103 : pR S_98 403 x = some q_78 := tR_sRs eS_98
  refine lv_aload_n X.1 X.2.1 dX4_init_56 rfl (lv_at hl 0 rfl) ?_
  refine r_new X hw 186 6 2553 14 rfl tyX6 (by decide) rfl inn_X4_init_6 tyX6_ok (X.2.2.2.1 (.classLink RX4 33 RX6) (by decide +kernel)) (X.2.2.2.1 (.instantiable RX6 7) (by decide +kernel)) (X.2.2.2.1 (.initialized RX6) (by decide +kernel)) (zo_6 _) zd_6 (by show 13 + 1 ≤ 14; omega) (by show 2546 + 7 ≤ 2553; omega) (by show 14 ≤ 20; omega) (by show 2553 ≤ 2733; omega) dX4_init_57 (fun q_104 H hq_104 hw => ?_)
  obtain ⟨S_105, eS_105⟩ : ∃ T, T = sO S_98 q_104 186 := ⟨_, rfl⟩
  rw [← eS_105] at hw
  have ph_106 : Phc S_105 = Phc S + 14272 := (show Phc S_105 = Phc S_98 from Ph_sO hg_102 hq_104 eS_105 (by decide)).trans ph_99
  have ph_107 : Phs S_105 = Phs S + 42944 := (show Phs S_105 = Phs S_98 from Ph_sO hg_102 hq_104 eS_105 (by decide)).trans ph_100
  clear ph_99
  clear ph_100
  have hK_108 : Kq S S_105 x := hK_101.sO hq_104 eS_105
  have hg_109 : GX S_105 := by rw [eS_105]; exact GX_O hg_102 hq_104 (by decide +kernel)
  have hn0_q_104 := hK_101.new hq_104
  have ha_110 : At S_105 q_104 186 := by rw [eS_105]; exact At_nO _ _ _
  have hzI_q_104 : ∀ g, pI S_105 g q_104 = 0 := fun g => by rw [eS_105]; exact pI_sO_new
  have hzR_q_104 : ∀ g, pR S_105 g q_104 = none := fun g => by rw [eS_105]; exact if_pos rfl
  refine lv_dup X.1 X.2.1 dX4_init_60 rfl ?_
  refine k_v (rm := { frames := 2, cells := 6, slots := 180, locals := 96 }) (av := [.ref q_104]) X hw (va_runIN (As := []) (rest := [.ref q_104, .ref x]) (cfix X) (k_X6_init l G cy κ S_105 _ q_104 hg_109 ha_110 hzI_q_104 hzR_q_104) ⟨(va_cnB (host := RX11) 0 X.2.2.2.1 gX4_init_X6_init_n35 rfl rfl rfl (X.2.2.2.2.2.2.2.1.2.1 (RX4, 35, yX6_init) (by decide +kernel)) (X.2.2.2.1 (.initialized RX6) (by decide +kernel)) (by decide +kernel) ⟨Nat.le_of_ble_eq_true rfl, Nat.le_of_ble_eq_true rfl⟩), rfl, (X.2.2.2.1 (.instanceMethod yX6_init) (by decide +kernel))⟩ (pre_S X hw _) rfl rfl hl.1 rfl (lv_room (Nat.le_of_ble_eq_true rfl)) dX4_init_61 ⟨(by show 14 + 6 ≤ 20; omega), (by show 2553 + 180 ≤ 2733; omega)⟩) 20 2733 (by show 14 + 6 ≤ 20; omega) (by show 2553 + 180 ≤ 2733; omega) (fun S_112 H locs hp hw hfr hnw => ?_)
  obtain ⟨hK_113, hg_114, ha_115, ph_116, ph_117⟩ := hp
  have hK_118 : Kq S S_112 x := hK_108.sub hn0_q_104 hK_113
  have ph_119 : Phc S_112 = Phc S + 14272 := by omega
  have ph_120 : Phs S_112 = Phs S + 42944 := by omega
  clear ph_106
  clear ph_107
  clear ph_116
  clear ph_117
  have t_121 : At S_98 x 184 := tAt_sR eS_98 t_97
  have t_122 : At S_105 x 184 := by rw [eS_105]; exact At_sO t_121 hq_104
  have t_123 : At S_112 x 184 := hK_113.at ha_110 t_122 (by decide)
  refine r_putR X hw t_123 rfl 9 409 (some q_104) rfl tyX4 (by decide) rfl inn_X4_init_4 tyX4_ok nmX4 (by decide) (X.2.2.2.1 (.fieldLink RX4 36 "SilkMill$Pot" "rules" "LSilkMill$Rules;") (by decide +kernel)) rfl (Or.inl rfl) (fun _ => rfl) rfl (fun _ => rfl) rfl (Nat.le_of_ble_eq_true rfl) (st_409 _ _) dX4_init_64 (fun H locs hw => ?_)
  obtain ⟨S_124, eS_124⟩ : ∃ T, T = sR S_112 409 x (some q_104) := ⟨_, rfl⟩
  rw [← eS_124] at hw
  have ph_125 : Phc S_124 = Phc S + 14272 := (show Phc S_124 = Phc S_112 from Ph_rawR t_123 (by decide) eS_124).trans ph_119
  have ph_126 : Phs S_124 = Phs S + 42944 := (show Phs S_124 = Phs S_112 from Ph_rawR t_123 (by decide) eS_124).trans ph_120
  clear ph_119
  clear ph_120
  have hK_127 : Kq S S_124 x := hK_118.sR eS_124
  have hg_128 : GX S_124 := by rw [eS_124]; exact GX_rawR hg_114 t_123 (by decide +kernel)
  have h_129 : pR S_124 409 x = some q_104 := tR_sRs eS_124
  refine lv_aload_n X.1 X.2.1 dX4_init_67 rfl (lv_at hl 0 rfl) ?_
  refine lv_iload_n X.1 X.2.1 dX4_init_68 rfl (lv_at hl 1 rfl) ?_
  have t_130 : At S_124 x 184 := tAt_sR eS_124 t_123
  refine r_putI (v := a1) X hw t_130 rfl 10 410 tyX4 (by decide) rfl inn_X4_init_4 tyX4_ok nmX4 (by decide) (X.2.2.2.1 (.fieldLink RX4 40 "SilkMill$Pot" "potNumber" "I") (by decide +kernel)) rfl (Or.inr ⟨rfl, hin, rfl⟩) rfl rfl (Nat.le_of_ble_eq_true rfl) (st_410 _ _) dX4_init_69 (fun H locs hw => ?_)
  obtain ⟨S_131, eS_131⟩ : ∃ T, T = sI S_124 410 x (a1) := ⟨_, rfl⟩
  rw [← eS_131] at hw
  have ph_132 : Phc S_131 = Phc S + 14272 := (show Phc S_131 = Phc S_124 from Ph_rawI t_130 (by decide) eS_131).trans ph_125
  have ph_133 : Phs S_131 = Phs S + 42944 := (show Phs S_131 = Phs S_124 from Ph_rawI t_130 (by decide) eS_131).trans ph_126
  clear ph_125
  clear ph_126
  have hK_134 : Kq S S_131 x := hK_127.sI eS_131
  have hg_135 : GX S_131 := by rw [eS_131]; exact GX_rawI hg_128 t_130 (by decide +kernel)
  have h_136 : pI S_131 410 x = a1 := tI_sIs eS_131
  refine lv_aload_n X.1 X.2.1 dX4_init_72 rfl (lv_at hl 0 rfl) ?_
  refine lv_iload_n X.1 X.2.1 dX4_init_73 rfl (lv_at hl 2 rfl) ?_
  have t_137 : At S_131 x 184 := tAt_sI eS_131 t_130
  refine r_putI (v := a2) X hw t_137 rfl 4 404 tyX4 (by decide) rfl inn_X4_init_4 tyX4_ok nmX4 (by decide) (X.2.2.2.1 (.fieldLink RX4 44 "SilkMill$Pot" "aim" "I") (by decide +kernel)) rfl (Or.inl rfl) rfl rfl (Nat.le_of_ble_eq_true rfl) (st_404 _ _) dX4_init_74 (fun H locs hw => ?_)
  obtain ⟨S_138, eS_138⟩ : ∃ T, T = sI S_131 404 x (a2) := ⟨_, rfl⟩
  rw [← eS_138] at hw
  have ph_139 : Phc S_138 = Phc S + 14272 := (show Phc S_138 = Phc S_131 from Ph_rawI t_137 (by decide) eS_138).trans ph_132
  have ph_140 : Phs S_138 = Phs S + 42944 := (show Phs S_138 = Phs S_131 from Ph_rawI t_137 (by decide) eS_138).trans ph_133
  clear ph_132
  clear ph_133
  have hK_141 : Kq S S_138 x := hK_134.sI eS_138
  have hg_142 : GX S_138 := by rw [eS_138]; exact GX_rawI hg_135 t_137 (by decide +kernel)
  have h_143 : pI S_138 404 x = a2 := tI_sIs eS_138
  refine lv_aload_n X.1 X.2.1 dX4_init_77 rfl (lv_at hl 0 rfl) ?_
  refine lv_iload_n X.1 X.2.1 dX4_init_78 rfl (lv_at hl 3 rfl) ?_
  have t_144 : At S_138 x 184 := tAt_sI eS_138 t_137
  refine r_putI (v := a3) X hw t_144 rfl 11 411 tyX4 (by decide) rfl inn_X4_init_4 tyX4_ok nmX4 (by decide) (X.2.2.2.1 (.fieldLink RX4 47 "SilkMill$Pot" "find" "I") (by decide +kernel)) rfl (Or.inr ⟨rfl, hin, rfl⟩) rfl rfl (Nat.le_of_ble_eq_true rfl) (st_411 _ _) dX4_init_79 (fun H locs hw => ?_)
  obtain ⟨S_145, eS_145⟩ : ∃ T, T = sI S_138 411 x (a3) := ⟨_, rfl⟩
  rw [← eS_145] at hw
  have ph_146 : Phc S_145 = Phc S + 14272 := (show Phc S_145 = Phc S_138 from Ph_rawI t_144 (by decide) eS_145).trans ph_139
  have ph_147 : Phs S_145 = Phs S + 42944 := (show Phs S_145 = Phs S_138 from Ph_rawI t_144 (by decide) eS_145).trans ph_140
  clear ph_139
  clear ph_140
  have hK_148 : Kq S S_145 x := hK_141.sI eS_145
  have hg_149 : GX S_145 := by rw [eS_145]; exact GX_rawI hg_142 t_144 (by decide +kernel)
  have h_150 : pI S_145 411 x = a3 := tI_sIs eS_145
  have t_151 : At S_145 x 184 := tAt_sI eS_145 t_144
  have nd_152 := nodup_of hw
  have t_154 : At S_20 x 184 := tAt_sR eS_20 t_19
  have t_153 : pR S_27 400 x = some q_1 := by rw [eS_27]; exact (pR_sO_ne (ne_of_new hq_26 t_154.1)).trans h_25
  have t_156 : At S_27 x 184 := by rw [eS_27]; exact At_sO t_154 hq_26
  have t_155 : pR S_34 400 x = some q_1 := (((hK_35 x t_156.1).2 (At_ne t_156 ha_32 (by decide))).2.2.1 400).trans t_153
  have t_157 : pR S_46 400 x = some q_1 := tR_sR eS_46 rfl t_155
  have t_159 : At S_46 x 184 := tAt_sR eS_46 t_45
  have t_158 : pR S_53 400 x = some q_1 := by rw [eS_53]; exact (pR_sO_ne (ne_of_new hq_52 t_159.1)).trans t_157
  have t_161 : At S_53 x 184 := by rw [eS_53]; exact At_sO t_159 hq_52
  have t_160 : pR S_60 400 x = some q_1 := (((hK_61 x t_161.1).2 (At_ne t_161 ha_58 (by decide))).2.2.1 400).trans t_158
  have t_162 : pR S_72 400 x = some q_1 := tR_sR eS_72 rfl t_160
  have t_164 : At S_72 x 184 := tAt_sR eS_72 t_71
  have t_163 : pR S_79 400 x = some q_1 := by rw [eS_79]; exact (pR_sO_ne (ne_of_new hq_78 t_164.1)).trans t_162
  have t_166 : At S_79 x 184 := by rw [eS_79]; exact At_sO t_164 hq_78
  have t_165 : pR S_86 400 x = some q_1 := (((hK_87 x t_166.1).2 (At_ne t_166 ha_84 (by decide))).2.2.1 400).trans t_163
  have t_167 : pR S_98 400 x = some q_1 := tR_sR eS_98 rfl t_165
  have t_169 : At S_98 x 184 := tAt_sR eS_98 t_97
  have t_168 : pR S_105 400 x = some q_1 := by rw [eS_105]; exact (pR_sO_ne (ne_of_new hq_104 t_169.1)).trans t_167
  have t_171 : At S_105 x 184 := by rw [eS_105]; exact At_sO t_169 hq_104
  have t_170 : pR S_112 400 x = some q_1 := (((hK_113 x t_171.1).2 (At_ne t_171 ha_110 (by decide))).2.2.1 400).trans t_168
  have t_172 : pR S_124 400 x = some q_1 := tR_sR eS_124 rfl t_170
  have t_173 : pR S_131 400 x = some q_1 := tR_sI eS_131 t_172
  have t_174 : pR S_138 400 x = some q_1 := tR_sI eS_138 t_173
  have t_175 : pR S_145 400 x = some q_1 := tR_sI eS_145 t_174
  have t_176 : At S_20 q_1 5 := tAt_sR eS_20 ha_12
  have t_177 : At S_27 q_1 5 := by rw [eS_27]; exact At_sO t_176 hq_26
  have t_178 : At S_34 q_1 5 := hK_35.at ha_32 t_177 (by decide)
  have t_179 : At S_46 q_1 5 := tAt_sR eS_46 t_178
  have t_180 : At S_53 q_1 5 := by rw [eS_53]; exact At_sO t_179 hq_52
  have t_181 : At S_60 q_1 5 := hK_61.at ha_58 t_180 (by decide)
  have t_182 : At S_72 q_1 5 := tAt_sR eS_72 t_181
  have t_183 : At S_79 q_1 5 := by rw [eS_79]; exact At_sO t_182 hq_78
  have t_184 : At S_86 q_1 5 := hK_87.at ha_84 t_183 (by decide)
  have t_185 : At S_98 q_1 5 := tAt_sR eS_98 t_184
  have t_186 : At S_105 q_1 5 := by rw [eS_105]; exact At_sO t_185 hq_104
  have t_187 : At S_112 q_1 5 := hK_113.at ha_110 t_186 (by decide)
  have t_188 : At S_124 q_1 5 := tAt_sR eS_124 t_187
  have t_189 : At S_131 q_1 5 := tAt_sI eS_131 t_188
  have t_190 : At S_138 q_1 5 := tAt_sI eS_138 t_189
  have t_191 : At S_145 q_1 5 := tAt_sI eS_145 t_190
  have t_192 : pR S_53 401 x = some q_26 := by rw [eS_53]; exact (pR_sO_ne (ne_of_new hq_52 t_159.1)).trans h_51
  have t_193 : pR S_60 401 x = some q_26 := (((hK_61 x t_161.1).2 (At_ne t_161 ha_58 (by decide))).2.2.1 401).trans t_192
  have t_194 : pR S_72 401 x = some q_26 := tR_sR eS_72 rfl t_193
  have t_195 : pR S_79 401 x = some q_26 := by rw [eS_79]; exact (pR_sO_ne (ne_of_new hq_78 t_164.1)).trans t_194
  have t_196 : pR S_86 401 x = some q_26 := (((hK_87 x t_166.1).2 (At_ne t_166 ha_84 (by decide))).2.2.1 401).trans t_195
  have t_197 : pR S_98 401 x = some q_26 := tR_sR eS_98 rfl t_196
  have t_198 : pR S_105 401 x = some q_26 := by rw [eS_105]; exact (pR_sO_ne (ne_of_new hq_104 t_169.1)).trans t_197
  have t_199 : pR S_112 401 x = some q_26 := (((hK_113 x t_171.1).2 (At_ne t_171 ha_110 (by decide))).2.2.1 401).trans t_198
  have t_200 : pR S_124 401 x = some q_26 := tR_sR eS_124 rfl t_199
  have t_201 : pR S_131 401 x = some q_26 := tR_sI eS_131 t_200
  have t_202 : pR S_138 401 x = some q_26 := tR_sI eS_138 t_201
  have t_203 : pR S_145 401 x = some q_26 := tR_sI eS_145 t_202
  have t_204 : At S_46 q_26 5 := tAt_sR eS_46 ha_37
  have t_205 : At S_53 q_26 5 := by rw [eS_53]; exact At_sO t_204 hq_52
  have t_206 : At S_60 q_26 5 := hK_61.at ha_58 t_205 (by decide)
  have t_207 : At S_72 q_26 5 := tAt_sR eS_72 t_206
  have t_208 : At S_79 q_26 5 := by rw [eS_79]; exact At_sO t_207 hq_78
  have t_209 : At S_86 q_26 5 := hK_87.at ha_84 t_208 (by decide)
  have t_210 : At S_98 q_26 5 := tAt_sR eS_98 t_209
  have t_211 : At S_105 q_26 5 := by rw [eS_105]; exact At_sO t_210 hq_104
  have t_212 : At S_112 q_26 5 := hK_113.at ha_110 t_211 (by decide)
  have t_213 : At S_124 q_26 5 := tAt_sR eS_124 t_212
  have t_214 : At S_131 q_26 5 := tAt_sI eS_131 t_213
  have t_215 : At S_138 q_26 5 := tAt_sI eS_138 t_214
  have t_216 : At S_145 q_26 5 := tAt_sI eS_145 t_215
  have t_217 : pR S_79 402 x = some q_52 := by rw [eS_79]; exact (pR_sO_ne (ne_of_new hq_78 t_164.1)).trans h_77
  have t_218 : pR S_86 402 x = some q_52 := (((hK_87 x t_166.1).2 (At_ne t_166 ha_84 (by decide))).2.2.1 402).trans t_217
  have t_219 : pR S_98 402 x = some q_52 := tR_sR eS_98 rfl t_218
  have t_220 : pR S_105 402 x = some q_52 := by rw [eS_105]; exact (pR_sO_ne (ne_of_new hq_104 t_169.1)).trans t_219
  have t_221 : pR S_112 402 x = some q_52 := (((hK_113 x t_171.1).2 (At_ne t_171 ha_110 (by decide))).2.2.1 402).trans t_220
  have t_222 : pR S_124 402 x = some q_52 := tR_sR eS_124 rfl t_221
  have t_223 : pR S_131 402 x = some q_52 := tR_sI eS_131 t_222
  have t_224 : pR S_138 402 x = some q_52 := tR_sI eS_138 t_223
  have t_225 : pR S_145 402 x = some q_52 := tR_sI eS_145 t_224
  have t_226 : At S_72 q_52 5 := tAt_sR eS_72 ha_63
  have t_227 : At S_79 q_52 5 := by rw [eS_79]; exact At_sO t_226 hq_78
  have t_228 : At S_86 q_52 5 := hK_87.at ha_84 t_227 (by decide)
  have t_229 : At S_98 q_52 5 := tAt_sR eS_98 t_228
  have t_230 : At S_105 q_52 5 := by rw [eS_105]; exact At_sO t_229 hq_104
  have t_231 : At S_112 q_52 5 := hK_113.at ha_110 t_230 (by decide)
  have t_232 : At S_124 q_52 5 := tAt_sR eS_124 t_231
  have t_233 : At S_131 q_52 5 := tAt_sI eS_131 t_232
  have t_234 : At S_138 q_52 5 := tAt_sI eS_138 t_233
  have t_235 : At S_145 q_52 5 := tAt_sI eS_145 t_234
  have t_236 : pR S_105 403 x = some q_78 := by rw [eS_105]; exact (pR_sO_ne (ne_of_new hq_104 t_169.1)).trans h_103
  have t_237 : pR S_112 403 x = some q_78 := (((hK_113 x t_171.1).2 (At_ne t_171 ha_110 (by decide))).2.2.1 403).trans t_236
  have t_238 : pR S_124 403 x = some q_78 := tR_sR eS_124 rfl t_237
  have t_239 : pR S_131 403 x = some q_78 := tR_sI eS_131 t_238
  have t_240 : pR S_138 403 x = some q_78 := tR_sI eS_138 t_239
  have t_241 : pR S_145 403 x = some q_78 := tR_sI eS_145 t_240
  have t_242 : At S_98 q_78 29 := tAt_sR eS_98 ha_89
  have t_243 : At S_105 q_78 29 := by rw [eS_105]; exact At_sO t_242 hq_104
  have t_244 : At S_112 q_78 29 := hK_113.at ha_110 t_243 (by decide)
  have t_245 : At S_124 q_78 29 := tAt_sR eS_124 t_244
  have t_246 : At S_131 q_78 29 := tAt_sI eS_131 t_245
  have t_247 : At S_138 q_78 29 := tAt_sI eS_138 t_246
  have t_248 : At S_145 q_78 29 := tAt_sI eS_145 t_247
  have t_249 : pR S_131 409 x = some q_104 := tR_sI eS_131 h_129
  have t_250 : pR S_138 409 x = some q_104 := tR_sI eS_138 t_249
  have t_251 : pR S_145 409 x = some q_104 := tR_sI eS_145 t_250
  have t_252 : At S_124 q_104 6 := tAt_sR eS_124 ha_115
  have t_253 : At S_131 q_104 6 := tAt_sI eS_131 t_252
  have t_254 : At S_138 q_104 6 := tAt_sI eS_138 t_253
  have t_255 : At S_145 q_104 6 := tAt_sI eS_145 t_254
  obtain ⟨S_256, eS_256⟩ : ∃ T, T = sK S_145 x 4 := ⟨_, rfl⟩
  have hw := Wd_sK (k := 4) hw t_151 rfl; rw [← eS_256] at hw
  have hg9 : GX S_256 := by rw [eS_256]; exact GX_sK hg_149 t_151 (by decide +kernel) (mk_4 ⟨q_1, (by rw [pR_sK]; exact t_175), At_sK t_151 t_191 (by decide)⟩ ⟨q_26, (by rw [pR_sK]; exact t_203), At_sK t_151 t_216 (by decide)⟩ ⟨q_52, (by rw [pR_sK]; exact t_225), At_sK t_151 t_235 (by decide)⟩ ⟨q_78, (by rw [pR_sK]; exact t_241), At_sK t_151 t_248 (by decide)⟩ ⟨q_104, (by rw [pR_sK]; exact t_251), At_sK t_151 t_255 (by decide)⟩)
  have ha9 : At S_256 x 4 := by rw [eS_256]; exact At_nK t_151
  have hk9 : Kq S S_256 x := hK_148.sK eS_256
  have hPhc9 : Phc S_256 = Phc S + 14272 := by rw [show Phc S_256 = Ph fC 8 14400 S_256 from rfl, Ph_sK nd_152 t_151 (by decide) eS_256, ph_0 ha9 (by decide)]; show Phc S_145 + _ = _; omega
  have hPhs9 : Phs S_256 = Phs S + 42944 := by rw [show Phs S_256 = Ph fS 15100 46000 S_256 from rfl, Ph_sK nd_152 t_151 (by decide) eS_256, ph_0 ha9 (by decide)]; show Phs S_145 + _ = _; omega
  exact ret_v X hw hr hlocks (by show 20 ≤ 20; omega) (by show 2733 ≤ 2733; omega) ⟨hk9, hg9, ha9, hPhc9, hPhs9⟩ dX4_init_82
