
set_option maxHeartbeats 4000000 in
set_option maxRecDepth 100000 in
theorem k_X5_init3 (l : Launch) (G : va_G) (cy : Nat → ClassId) (κ : Nat → Nat) (S : PS) (sz : Nat) (x : Nat) (a1 : Int32) (a1_z : Int) (hG : GX S) (ha_x : At S x 185) (hz_a1 : a1.toInt = a1_z) (hzI : ∀ g, pI S g x = 0) (hzR : ∀ g, pR S g x = none) (hp_0 : 1 ≤ a1_z) (hp_1 : a1_z ≤ 600) : Cv l yX5_init wsX5_init ({ frames := 2, cells := 1, slots := 600, locals := 96 }) G cy κ S sz [.ref x, .int (a1)] (fun (S9 : PS) => Kq S S9 x ∧ GX S9 ∧ At S9 x 5 ∧ Phc S9 = Phc S + 0 ∧ Phs S9 = Phs S + 0 ∧ ∃ q, pR S9 501 x = some q ∧ At S9 q 16 ∧ pB S9 q = fun _ => none) := by
  refine ent_m (cc := cX5_init) (maxL := 2) (ret := none) (by decide) rfl (Nat.le_of_ble_eq_true rfl) ?_
  intro p e s m below meth c ls X hr hlocks hin hw hl hsz
  subst hsz
  have X : Cx p c cX5_init 2 s [.ref x, .int (a1)].toArray wsX5_init RX5 m G cy κ (AS S s.heap.size) := X
  have hl : lv_has ls 2 [(0, .ref x), (1, .int (a1))] := hl
  have rg_a1 : (-2147483648) ≤ a1_z ∧ a1_z ≤ 2147483647 := by rw [← hz_a1]; exact ⟨z_lo _, z_hi _⟩
  have hpc0 : Phc S = Phc S + 0 := rfl
  have hps0 : Phs S = Phs S + 0 := rfl
  have hK : Kq S S x := Kq.rf S _
  refine lv_aload_n X.1 X.2.1 dX5_init_0 rfl (lv_at hl 0 rfl) ?_
  refine W.objInit X.1 X.2.1 X.2.2.2.2.1 (X.2.2.2.1 (.methodLink RX5 3 objectInit) (by decide +kernel)) (X.2.2.2.1 (.instanceMethod objectInit) (by decide +kernel)) (X.2.2.2.1 (.code objectInit ⟨#[0xb1]⟩ 1 none) (by decide +kernel)) rfl (hl.1.trans X.2.2.1.symm) rfl dX5_init_1 (Nat.le_of_ble_eq_true rfl) (Nat.le_of_ble_eq_true rfl) ?_
  refine W.eq (g2 := F0 m 4 ls ([])) rfl ?_
  refine lv_aload_n X.1 X.2.1 dX5_init_4 rfl (lv_at hl 0 rfl) ?_
  refine lv_iconst (v := 1) X.1 X.2.1 dX5_init_5 (by decide) ?_
  refine lv_iload_n X.1 X.2.1 dX5_init_6 rfl (lv_at hl 1 rfl) ?_
  refine va_mmax X.1 X.2.1 (X.2.2.1.trans hl.1.symm) X.2.2.2.2.1 (X.2.2.2.1 (.methodLink RX5 9 Lib.Math.max.name) (by decide +kernel)) (X.2.2.2.1 (.static Lib.Math.max.name) (by decide +kernel)) (X.2.2.2.1 (.initialized "java/lang/Math") (by decide +kernel)) (X.2.2.2.1 (.code Lib.Math.max.name Lib.Math.max.code 2 (some .int)) (by decide +kernel)) (Nat.le_of_ble_eq_true rfl) (Nat.le_of_ble_eq_true rfl) (by show 0 ≤ 1; omega) (by show 0 ≤ 600; omega) dX5_init_7 ?_
  refine lv_topi (fun v_1 ev_1 => ?_)
  have z_2 : v_1.toInt = a1_z := by have := z_max ev_1 ti_1 hz_a1; omega
  refine r_newQ (N := (v_1.toInt.toNat)) (C := RX0) X hw 16 16 (0 + (v_1.toInt.toNat)) 1 rfl (by decide) rfl (X.2.2.2.1 (.classLink RX5 15 RX0) (by decide +kernel)) X.2.2.2.2.2.2.2.1.1.1 (z_nn rfl (by omega)) (z_tn (by omega) (by omega)) (by omega) (by show 0 + 1 ≤ 1; omega) (by show 0 + (v_1.toInt.toNat) ≤ (0 + (v_1.toInt.toNat)); omega) (by show 1 ≤ 1; omega) (by show (0 + (v_1.toInt.toNat)) ≤ 600; omega) dX5_init_10 (fun q_3 H hq_3 hw => ?_)
  obtain ⟨S_4, eS_4⟩ : ∃ T, T = sN S q_3 16 (v_1.toInt.toNat) := ⟨_, rfl⟩
  rw [← eS_4] at hw
  have ph_5 : Phc S_4 = Phc S + 0 := (show Phc S_4 = Phc S from Ph_sN' hG.ci hq_3 eS_4 (by decide)).trans hpc0
  have ph_6 : Phs S_4 = Phs S + 0 := (show Phs S_4 = Phs S from Ph_sN' hG.ci hq_3 eS_4 (by decide)).trans hps0
  clear hpc0
  clear hps0
  have hK_7 : Kq S S_4 x := hK.sN hq_3 eS_4
  have hg_8 : GX S_4 := by rw [eS_4]; exact GX_N hG hq_3 (by decide +kernel)
  have hn0_q_3 := hK.new hq_3
  have ha_9 : At S_4 q_3 16 := by rw [eS_4]; exact At_nN _ _ _ _
  have hn_10 : pN S_4 q_3 = (v_1.toInt.toNat) := by rw [eS_4]; exact pN_sN_new
  have t_11 : At S_4 x 185 := by rw [eS_4]; exact At_sN ha_x hq_3
  refine r_putR X hw t_11 rfl 1 501 (some q_3) rfl tyX5 (by decide) rfl inn_X5_init_5 tyX5_ok nmX5 (by decide) (X.2.2.2.1 (.fieldLink RX5 17 "SilkMill$Row" "cells" "[LSilkMill$Cocoon;") (by decide +kernel)) rfl (Or.inr ⟨rfl, hin, rfl⟩) (fun _ => rfl) rfl (fun _ => rfl) rfl (Nat.le_of_ble_eq_true rfl) (st_501 _ _) dX5_init_13 (fun H locs hw => ?_)
  obtain ⟨S_12, eS_12⟩ : ∃ T, T = sR S_4 501 x (some q_3) := ⟨_, rfl⟩
  rw [← eS_12] at hw
  have ph_13 : Phc S_12 = Phc S + 0 := (show Phc S_12 = Phc S_4 from Ph_rawR t_11 (by decide) eS_12).trans ph_5
  have ph_14 : Phs S_12 = Phs S + 0 := (show Phs S_12 = Phs S_4 from Ph_rawR t_11 (by decide) eS_12).trans ph_6
  clear ph_5
  clear ph_6
  have hK_15 : Kq S S_12 x := hK_7.sR eS_12
  have hg_16 : GX S_12 := by rw [eS_12]; exact GX_rawR hg_8 t_11 (by decide +kernel)
  have h_17 : pR S_12 501 x = some q_3 := tR_sRs eS_12
  have t_18 : At S_12 x 185 := tAt_sR eS_12 t_11
  have nd_19 := nodup_of hw
  have t_20 : At S_12 q_3 16 := tAt_sR eS_12 ha_9
  have t_21 : pN S_12 q_3 = (v_1.toInt.toNat) := tN_sR eS_12 hn_10
  clear hn_10
  have t_22 : pI S_4 500 x = 0 := by rw [eS_4, pI_sN]; exact (hzI 500)
  have t_23 : pI S_12 500 x = 0 := tI_sR eS_12 t_22
  have t_24 : pI S_4 502 x = 0 := by rw [eS_4, pI_sN]; exact (hzI 502)
  have t_25 : pI S_12 502 x = 0 := tI_sR eS_12 t_24
  obtain ⟨S_26, eS_26⟩ : ∃ T, T = sK S_12 x 5 := ⟨_, rfl⟩
  have hw := Wd_sK (k := 5) hw t_18 rfl; rw [← eS_26] at hw
  have hg9 : GX S_26 := by rw [eS_26]; exact GX_sK hg_16 t_18 (by decide +kernel) (mk_5 ⟨q_3, (v_1.toInt.toNat), (by rw [pR_sK]; exact h_17), At_sK t_18 t_20 (by decide), by rw [pN_sK]; exact t_21, by omega, by omega, by rw [pI_sK, t_23]; rw [ti_0]; omega, by rw [pI_sK, t_23]; rw [ti_0]; omega, by rw [pI_sK, t_25]; rw [ti_0]; omega, by rw [pI_sK, t_25]; rw [ti_0]; omega⟩)
  have ha9 : At S_26 x 5 := by rw [eS_26]; exact At_nK t_18
  have hk9 : Kq S S_26 x := hK_15.sK eS_26
  have hPhc9 : Phc S_26 = Phc S + 0 := by rw [show Phc S_26 = Ph fC 8 14400 S_26 from rfl, Ph_sK nd_19 t_18 (by decide) eS_26, ph_0 ha9 (by decide)]; show Phc S_12 + _ = _; omega
  have hPhs9 : Phs S_26 = Phs S + 0 := by rw [show Phs S_26 = Ph fS 15100 46000 S_26 from rfl, Ph_sK nd_19 t_18 (by decide) eS_26, ph_0 ha9 (by decide)]; show Phs S_12 + _ = _; omega
  have bb_27 : pB S_12 q_3 = pB S_4 q_3 := by rw [eS_12]; rfl
  exact ret_v X hw hr hlocks (by show 1 ≤ 1; omega) (by show (0 + (v_1.toInt.toNat)) ≤ 600; omega) ⟨hk9, hg9, ha9, hPhc9, hPhs9, ⟨q_3, by rw [eS_26, pR_sK]; exact h_17, by rw [eS_26]; exact At_sK t_18 t_20 (by decide), by rw [eS_26]; exact (show pB (sK S_12 x 5) q_3 = pB S_12 q_3 from rfl).trans (bb_27.trans (show pB S_4 q_3 = fun _ => none by rw [eS_4]; exact if_pos rfl))⟩⟩ dX5_init_16
set_option maxHeartbeats 4000000 in
set_option maxRecDepth 100000 in
theorem k_X4_init3 (l : Launch) (G : va_G) (cy : Nat → ClassId) (κ : Nat → Nat) (S : PS) (sz : Nat) (x : Nat) (a1 : Int32) (a1_z : Int) (a2 : Int32) (a2_z : Int) (a3 : Int32) (a3_z : Int) (hG : GX S) (ha_x : At S x 184) (hz_a1 : a1.toInt = a1_z) (hz_a2 : a2.toInt = a2_z) (hz_a3 : a3.toInt = a3_z) (hzI : ∀ g, pI S g x = 0) (hzR : ∀ g, pR S g x = none) : Cv l yX4_init wsX4_init ({ frames := 3, cells := 20, slots := 2733, locals := 144 }) G cy κ S sz [.ref x, .int (a1), .int (a2), .int (a3)] (fun (S9 : PS) => Kq S S9 x ∧ GX S9 ∧ At S9 x 4 ∧ Phc S9 = Phc S + 14272 ∧ Phs S9 = Phs S + 42944 ∧ RowE S9 x 400 ∧ RowE S9 x 401 ∧ RowE S9 x 402) := by
  refine ent_m (cc := cX4_init) (maxL := 4) (ret := none) (by decide) rfl (Nat.le_of_ble_eq_true rfl) ?_
  intro p e s m below meth c ls X hr hlocks hin hw hl hsz
  subst hsz
  have X : Cx p c cX4_init 4 s [.ref x, .int (a1), .int (a2), .int (a3)].toArray wsX4_init RX4 m G cy κ (AS S s.heap.size) := X
  have hl : lv_has ls 4 [(0, .ref x), (1, .int (a1)), (2, .int (a2)), (3, .int (a3))] := hl
  have rg_a1 : (-2147483648) ≤ a1_z ∧ a1_z ≤ 2147483647 := by rw [← hz_a1]; exact ⟨z_lo _, z_hi _⟩
  have rg_a2 : (-2147483648) ≤ a2_z ∧ a2_z ≤ 2147483647 := by rw [← hz_a2]; exact ⟨z_lo _, z_hi _⟩
  have rg_a3 : (-2147483648) ≤ a3_z ∧ a3_z ≤ 2147483647 := by rw [← hz_a3]; exact ⟨z_lo _, z_hi _⟩
  have hpc0 : Phc S = Phc S + 0 := rfl
  have hps0 : Phs S = Phs S + 0 := rfl
  have hK : Kq S S x := Kq.rf S _
  refine lv_aload_n X.1 X.2.1 dX4_init_0 rfl (lv_at hl 0 rfl) ?_
  refine W.objInit X.1 X.2.1 X.2.2.2.2.1 (X.2.2.2.1 (.methodLink RX4 3 objectInit) (by decide +kernel)) (X.2.2.2.1 (.instanceMethod objectInit) (by decide +kernel)) (X.2.2.2.1 (.code objectInit ⟨#[0xb1]⟩ 1 none) (by decide +kernel)) rfl (hl.1.trans X.2.2.1.symm) rfl dX4_init_1 (Nat.le_of_ble_eq_true rfl) (Nat.le_of_ble_eq_true rfl) ?_
  refine W.eq (g2 := F0 m 4 ls ([])) rfl ?_
  refine lv_aload_n X.1 X.2.1 dX4_init_4 rfl (lv_at hl 0 rfl) ?_
  refine r_new X hw 185 5 3 1 rfl tyX5 (by decide) rfl inn_X4_init_5 tyX5_ok (X.2.2.2.1 (.classLink RX4 9 RX5) (by decide +kernel)) (X.2.2.2.1 (.instantiable RX5 3) (by decide +kernel)) (X.2.2.2.1 (.initialized RX5) (by decide +kernel)) (zo_5 _) zd_5 (by show 0 + 1 ≤ 1; omega) (by show 0 + 3 ≤ 3; omega) (by show 1 ≤ 20; omega) (by show 3 ≤ 2733; omega) dX4_init_5 (fun q_1 H hq_1 hw => ?_)
  obtain ⟨S_2, eS_2⟩ : ∃ T, T = sO S q_1 185 := ⟨_, rfl⟩
  rw [← eS_2] at hw
  have ph_3 : Phc S_2 = Phc S + 0 := (show Phc S_2 = Phc S from Ph_sO hG hq_1 eS_2 (by decide)).trans hpc0
  have ph_4 : Phs S_2 = Phs S + 0 := (show Phs S_2 = Phs S from Ph_sO hG hq_1 eS_2 (by decide)).trans hps0
  clear hpc0
  clear hps0
  have hK_5 : Kq S S_2 x := hK.sO hq_1 eS_2
  have hg_6 : GX S_2 := by rw [eS_2]; exact GX_O hG hq_1 (by decide +kernel)
  have hn0_q_1 := hK.new hq_1
  have ha_7 : At S_2 q_1 185 := by rw [eS_2]; exact At_nO _ _ _
  have hzI_q_1 : ∀ g, pI S_2 g q_1 = 0 := fun g => by rw [eS_2]; exact pI_sO_new
  have hzR_q_1 : ∀ g, pR S_2 g q_1 = none := fun g => by rw [eS_2]; exact if_pos rfl
  refine lv_dup X.1 X.2.1 dX4_init_8 rfl ?_
  refine lv_sipush (v := 600) X.1 X.2.1 dX4_init_9 (by decide) ?_
  refine k_v (rm := { frames := 2, cells := 1, slots := 600, locals := 96 }) (av := [.ref q_1, .int 600]) X hw (va_runI (As := [.int 600]) (rest := [.ref q_1, .ref x]) (cfix X) (k_X5_init3 l G cy κ S_2 _ q_1 (600) (600) hg_6 ha_7 ti_600 hzI_q_1 hzR_q_1 (by omega) (by omega)) (cwI 1 X.2.2.2.1 gX4_init_X5_init rfl rfl rfl (X.2.2.2.1 (.initialized RX5) (by decide +kernel)) (X.2.2.2.1 (.methodLink RX4 11 yX5_init) (by decide +kernel)) (X.2.2.2.1 (.instanceMethod yX5_init) (by decide +kernel)) rfl (by decide +kernel) ⟨Nat.le_of_ble_eq_true rfl, Nat.le_of_ble_eq_true rfl⟩) (pre_S X hw _) rfl rfl hl.1 rfl (lv_room (Nat.le_of_ble_eq_true rfl)) dX4_init_12 ⟨(by show 1 + 1 ≤ 20; omega), (by show 3 + 600 ≤ 2733; omega)⟩) 2 603 (by show 1 + 1 ≤ 2; omega) (by show 3 + 600 ≤ 603; omega) (fun S_9 H locs hp hw hfr hnw => ?_)
  obtain ⟨hK_10, hg_11, ha_12, ph_13, ph_14, kx_15, kx_16, kx_17, kx_18⟩ := hp
  have hK_19 : Kq S S_9 x := hK_5.sub hn0_q_1 hK_10
  have ph_20 : Phc S_9 = Phc S + 0 := by omega
  have ph_21 : Phs S_9 = Phs S + 0 := by omega
  clear ph_3
  clear ph_4
  clear ph_13
  clear ph_14
  have t_22 : At S_2 x 184 := by rw [eS_2]; exact At_sO ha_x hq_1
  have t_23 : At S_9 x 184 := hK_10.at ha_7 t_22 (by decide)
  refine r_putR X hw t_23 rfl 0 400 (some q_1) rfl tyX4 (by decide) rfl inn_X4_init_4 tyX4_ok nmX4 (by decide) (X.2.2.2.1 (.fieldLink RX4 14 "SilkMill$Pot" "basket" "LSilkMill$Row;") (by decide +kernel)) rfl (Or.inr ⟨rfl, hin, rfl⟩) (fun _ => rfl) rfl (fun _ => rfl) rfl (Nat.le_of_ble_eq_true rfl) (st_400 _ _) dX4_init_15 (fun H locs hw => ?_)
  obtain ⟨S_24, eS_24⟩ : ∃ T, T = sR S_9 400 x (some q_1) := ⟨_, rfl⟩
  rw [← eS_24] at hw
  have ph_25 : Phc S_24 = Phc S + 0 := (show Phc S_24 = Phc S_9 from Ph_rawR t_23 (by decide) eS_24).trans ph_20
  have ph_26 : Phs S_24 = Phs S + 0 := (show Phs S_24 = Phs S_9 from Ph_rawR t_23 (by decide) eS_24).trans ph_21
  clear ph_20
  clear ph_21
  have hK_27 : Kq S S_24 x := hK_19.sR eS_24
  have hg_28 : GX S_24 := by rw [eS_24]; exact GX_rawR hg_11 t_23 (by decide +kernel)
  have h_29 : pR S_24 400 x = some q_1 := tR_sRs eS_24
  refine lv_aload_n X.1 X.2.1 dX4_init_18 rfl (lv_at hl 0 rfl) ?_
  refine r_new X hw 185 5 606 3 rfl tyX5 (by decide) rfl inn_X4_init_5 tyX5_ok (X.2.2.2.1 (.classLink RX4 9 RX5) (by decide +kernel)) (X.2.2.2.1 (.instantiable RX5 3) (by decide +kernel)) (X.2.2.2.1 (.initialized RX5) (by decide +kernel)) (zo_5 _) zd_5 (by show 2 + 1 ≤ 3; omega) (by show 603 + 3 ≤ 606; omega) (by show 3 ≤ 20; omega) (by show 606 ≤ 2733; omega) dX4_init_19 (fun q_30 H hq_30 hw => ?_)
  obtain ⟨S_31, eS_31⟩ : ∃ T, T = sO S_24 q_30 185 := ⟨_, rfl⟩
  rw [← eS_31] at hw
  have ph_32 : Phc S_31 = Phc S + 0 := (show Phc S_31 = Phc S_24 from Ph_sO hg_28 hq_30 eS_31 (by decide)).trans ph_25
  have ph_33 : Phs S_31 = Phs S + 0 := (show Phs S_31 = Phs S_24 from Ph_sO hg_28 hq_30 eS_31 (by decide)).trans ph_26
  clear ph_25
  clear ph_26
  have hK_34 : Kq S S_31 x := hK_27.sO hq_30 eS_31
  have hg_35 : GX S_31 := by rw [eS_31]; exact GX_O hg_28 hq_30 (by decide +kernel)
  have hn0_q_30 := hK_27.new hq_30
  have ha_36 : At S_31 q_30 185 := by rw [eS_31]; exact At_nO _ _ _
  have hzI_q_30 : ∀ g, pI S_31 g q_30 = 0 := fun g => by rw [eS_31]; exact pI_sO_new
  have hzR_q_30 : ∀ g, pR S_31 g q_30 = none := fun g => by rw [eS_31]; exact if_pos rfl
  refine lv_dup X.1 X.2.1 dX4_init_22 rfl ?_
  refine lv_bipush (v := 12) X.1 X.2.1 dX4_init_23 (by decide) ?_
  refine k_v (rm := { frames := 2, cells := 1, slots := 600, locals := 96 }) (av := [.ref q_30, .int 12]) X hw (va_runI (As := [.int 12]) (rest := [.ref q_30, .ref x]) (cfix X) (k_X5_init3 l G cy κ S_31 _ q_30 (12) (12) hg_35 ha_36 ti_12 hzI_q_30 hzR_q_30 (by omega) (by omega)) (cwI 1 X.2.2.2.1 gX4_init_X5_init rfl rfl rfl (X.2.2.2.1 (.initialized RX5) (by decide +kernel)) (X.2.2.2.1 (.methodLink RX4 11 yX5_init) (by decide +kernel)) (X.2.2.2.1 (.instanceMethod yX5_init) (by decide +kernel)) rfl (by decide +kernel) ⟨Nat.le_of_ble_eq_true rfl, Nat.le_of_ble_eq_true rfl⟩) (pre_S X hw _) rfl rfl hl.1 rfl (lv_room (Nat.le_of_ble_eq_true rfl)) dX4_init_25 ⟨(by show 3 + 1 ≤ 20; omega), (by show 606 + 600 ≤ 2733; omega)⟩) 4 1206 (by show 3 + 1 ≤ 4; omega) (by show 606 + 600 ≤ 1206; omega) (fun S_38 H locs hp hw hfr hnw => ?_)
  obtain ⟨hK_39, hg_40, ha_41, ph_42, ph_43, kx_44, kx_45, kx_46, kx_47⟩ := hp
  have hK_48 : Kq S S_38 x := hK_34.sub hn0_q_30 hK_39
  have ph_49 : Phc S_38 = Phc S + 0 := by omega
  have ph_50 : Phs S_38 = Phs S + 0 := by omega
  clear ph_32
  clear ph_33
  clear ph_42
  clear ph_43
  have t_51 : At S_24 x 184 := tAt_sR eS_24 t_23
  have t_52 : At S_31 x 184 := by rw [eS_31]; exact At_sO t_51 hq_30
  have t_53 : At S_38 x 184 := hK_39.at ha_36 t_52 (by decide)
  refine r_putR X hw t_53 rfl 1 401 (some q_30) rfl tyX4 (by decide) rfl inn_X4_init_4 tyX4_ok nmX4 (by decide) (X.2.2.2.1 (.fieldLink RX4 20 "SilkMill$Pot" "ends" "LSilkMill$Row;") (by decide +kernel)) rfl (Or.inr ⟨rfl, hin, rfl⟩) (fun _ => rfl) rfl (fun _ => rfl) rfl (Nat.le_of_ble_eq_true rfl) (st_401 _ _) dX4_init_28 (fun H locs hw => ?_)
  obtain ⟨S_54, eS_54⟩ : ∃ T, T = sR S_38 401 x (some q_30) := ⟨_, rfl⟩
  rw [← eS_54] at hw
  have ph_55 : Phc S_54 = Phc S + 0 := (show Phc S_54 = Phc S_38 from Ph_rawR t_53 (by decide) eS_54).trans ph_49
  have ph_56 : Phs S_54 = Phs S + 0 := (show Phs S_54 = Phs S_38 from Ph_rawR t_53 (by decide) eS_54).trans ph_50
  clear ph_49
  clear ph_50
  have hK_57 : Kq S S_54 x := hK_48.sR eS_54
  have hg_58 : GX S_54 := by rw [eS_54]; exact GX_rawR hg_40 t_53 (by decide +kernel)
  have h_59 : pR S_54 401 x = some q_30 := tR_sRs eS_54
  refine lv_aload_n X.1 X.2.1 dX4_init_31 rfl (lv_at hl 0 rfl) ?_
  refine r_new X hw 185 5 1209 5 rfl tyX5 (by decide) rfl inn_X4_init_5 tyX5_ok (X.2.2.2.1 (.classLink RX4 9 RX5) (by decide +kernel)) (X.2.2.2.1 (.instantiable RX5 3) (by decide +kernel)) (X.2.2.2.1 (.initialized RX5) (by decide +kernel)) (zo_5 _) zd_5 (by show 4 + 1 ≤ 5; omega) (by show 1206 + 3 ≤ 1209; omega) (by show 5 ≤ 20; omega) (by show 1209 ≤ 2733; omega) dX4_init_32 (fun q_60 H hq_60 hw => ?_)
  obtain ⟨S_61, eS_61⟩ : ∃ T, T = sO S_54 q_60 185 := ⟨_, rfl⟩
  rw [← eS_61] at hw
  have ph_62 : Phc S_61 = Phc S + 0 := (show Phc S_61 = Phc S_54 from Ph_sO hg_58 hq_60 eS_61 (by decide)).trans ph_55
  have ph_63 : Phs S_61 = Phs S + 0 := (show Phs S_61 = Phs S_54 from Ph_sO hg_58 hq_60 eS_61 (by decide)).trans ph_56
  clear ph_55
  clear ph_56
  have hK_64 : Kq S S_61 x := hK_57.sO hq_60 eS_61
  have hg_65 : GX S_61 := by rw [eS_61]; exact GX_O hg_58 hq_60 (by decide +kernel)
  have hn0_q_60 := hK_57.new hq_60
  have ha_66 : At S_61 q_60 185 := by rw [eS_61]; exact At_nO _ _ _
  have hzI_q_60 : ∀ g, pI S_61 g q_60 = 0 := fun g => by rw [eS_61]; exact pI_sO_new
  have hzR_q_60 : ∀ g, pR S_61 g q_60 = none := fun g => by rw [eS_61]; exact if_pos rfl
  refine lv_dup X.1 X.2.1 dX4_init_35 rfl ?_
  refine lv_sipush (v := 600) X.1 X.2.1 dX4_init_36 (by decide) ?_
  refine k_v (rm := { frames := 2, cells := 1, slots := 600, locals := 96 }) (av := [.ref q_60, .int 600]) X hw (va_runI (As := [.int 600]) (rest := [.ref q_60, .ref x]) (cfix X) (k_X5_init3 l G cy κ S_61 _ q_60 (600) (600) hg_65 ha_66 ti_600 hzI_q_60 hzR_q_60 (by omega) (by omega)) (cwI 1 X.2.2.2.1 gX4_init_X5_init rfl rfl rfl (X.2.2.2.1 (.initialized RX5) (by decide +kernel)) (X.2.2.2.1 (.methodLink RX4 11 yX5_init) (by decide +kernel)) (X.2.2.2.1 (.instanceMethod yX5_init) (by decide +kernel)) rfl (by decide +kernel) ⟨Nat.le_of_ble_eq_true rfl, Nat.le_of_ble_eq_true rfl⟩) (pre_S X hw _) rfl rfl hl.1 rfl (lv_room (Nat.le_of_ble_eq_true rfl)) dX4_init_39 ⟨(by show 5 + 1 ≤ 20; omega), (by show 1209 + 600 ≤ 2733; omega)⟩) 6 1809 (by show 5 + 1 ≤ 6; omega) (by show 1209 + 600 ≤ 1809; omega) (fun S_68 H locs hp hw hfr hnw => ?_)
  obtain ⟨hK_69, hg_70, ha_71, ph_72, ph_73, kx_74, kx_75, kx_76, kx_77⟩ := hp
  have hK_78 : Kq S S_68 x := hK_64.sub hn0_q_60 hK_69
  have ph_79 : Phc S_68 = Phc S + 0 := by omega
  have ph_80 : Phs S_68 = Phs S + 0 := by omega
  clear ph_62
  clear ph_63
  clear ph_72
  clear ph_73
  have t_81 : At S_54 x 184 := tAt_sR eS_54 t_53
  have t_82 : At S_61 x 184 := by rw [eS_61]; exact At_sO t_81 hq_60
  have t_83 : At S_68 x 184 := hK_69.at ha_66 t_82 (by decide)
  refine r_putR X hw t_83 rfl 2 402 (some q_60) rfl tyX4 (by decide) rfl inn_X4_init_4 tyX4_ok nmX4 (by decide) (X.2.2.2.1 (.fieldLink RX4 23 "SilkMill$Pot" "lost" "LSilkMill$Row;") (by decide +kernel)) rfl (Or.inr ⟨rfl, hin, rfl⟩) (fun _ => rfl) rfl (fun _ => rfl) rfl (Nat.le_of_ble_eq_true rfl) (st_402 _ _) dX4_init_42 (fun H locs hw => ?_)
  obtain ⟨S_84, eS_84⟩ : ∃ T, T = sR S_68 402 x (some q_60) := ⟨_, rfl⟩
  rw [← eS_84] at hw
  have ph_85 : Phc S_84 = Phc S + 0 := (show Phc S_84 = Phc S_68 from Ph_rawR t_83 (by decide) eS_84).trans ph_79
  have ph_86 : Phs S_84 = Phs S + 0 := (show Phs S_84 = Phs S_68 from Ph_rawR t_83 (by decide) eS_84).trans ph_80
  clear ph_79
  clear ph_80
  have hK_87 : Kq S S_84 x := hK_78.sR eS_84
  have hg_88 : GX S_84 := by rw [eS_84]; exact GX_rawR hg_70 t_83 (by decide +kernel)
  have h_89 : pR S_84 402 x = some q_60 := tR_sRs eS_84
  refine lv_aload_n X.1 X.2.1 dX4_init_45 rfl (lv_at hl 0 rfl) ?_
  refine r_new X hw 189 9 1818 7 rfl tyX9 (by decide) rfl inn_X4_init_9 tyX9_ok (X.2.2.2.1 (.classLink RX4 26 RX9) (by decide +kernel)) (X.2.2.2.1 (.instantiable RX9 9) (by decide +kernel)) (X.2.2.2.1 (.initialized RX9) (by decide +kernel)) (zo_9 _) zd_9 (by show 6 + 1 ≤ 7; omega) (by show 1809 + 9 ≤ 1818; omega) (by show 7 ≤ 20; omega) (by show 1818 ≤ 2733; omega) dX4_init_46 (fun q_90 H hq_90 hw => ?_)
  obtain ⟨S_91, eS_91⟩ : ∃ T, T = sO S_84 q_90 189 := ⟨_, rfl⟩
  rw [← eS_91] at hw
  have ph_92 : Phc S_91 = Phc S + 0 := (show Phc S_91 = Phc S_84 from Ph_sO hg_88 hq_90 eS_91 (by decide)).trans ph_85
  have ph_93 : Phs S_91 = Phs S + 0 := (show Phs S_91 = Phs S_84 from Ph_sO hg_88 hq_90 eS_91 (by decide)).trans ph_86
  clear ph_85
  clear ph_86
  have hK_94 : Kq S S_91 x := hK_87.sO hq_90 eS_91
  have hg_95 : GX S_91 := by rw [eS_91]; exact GX_O hg_88 hq_90 (by decide +kernel)
  have hn0_q_90 := hK_87.new hq_90
  have ha_96 : At S_91 q_90 189 := by rw [eS_91]; exact At_nO _ _ _
  have hzI_q_90 : ∀ g, pI S_91 g q_90 = 0 := fun g => by rw [eS_91]; exact pI_sO_new
  have hzR_q_90 : ∀ g, pR S_91 g q_90 = none := fun g => by rw [eS_91]; exact if_pos rfl
  refine lv_dup X.1 X.2.1 dX4_init_49 rfl ?_
  refine k_v (rm := { frames := 2, cells := 6, slots := 728, locals := 96 }) (av := [.ref q_90]) X hw (va_runI (As := []) (rest := [.ref q_90, .ref x]) (cfix X) (k_X9_init l G cy κ S_91 _ q_90 hg_95 ha_96 hzI_q_90 hzR_q_90) (cwI 0 X.2.2.2.1 gX4_init_X9_init rfl rfl rfl (X.2.2.2.1 (.initialized RX9) (by decide +kernel)) (X.2.2.2.1 (.methodLink RX4 28 yX9_init) (by decide +kernel)) (X.2.2.2.1 (.instanceMethod yX9_init) (by decide +kernel)) rfl (by decide +kernel) ⟨Nat.le_of_ble_eq_true rfl, Nat.le_of_ble_eq_true rfl⟩) (pre_S X hw _) rfl rfl hl.1 rfl (lv_room (Nat.le_of_ble_eq_true rfl)) dX4_init_50 ⟨(by show 7 + 6 ≤ 20; omega), (by show 1818 + 728 ≤ 2733; omega)⟩) 13 2546 (by show 7 + 6 ≤ 13; omega) (by show 1818 + 728 ≤ 2546; omega) (fun S_98 H locs hp hw hfr hnw => ?_)
  obtain ⟨hK_99, hg_100, ha_101, ph_102, ph_103⟩ := hp
  have hK_104 : Kq S S_98 x := hK_94.sub hn0_q_90 hK_99
  have ph_105 : Phc S_98 = Phc S + 14272 := by omega
  have ph_106 : Phs S_98 = Phs S + 42944 := by omega
  clear ph_92
  clear ph_93
  clear ph_102
  clear ph_103
  have t_107 : At S_84 x 184 := tAt_sR eS_84 t_83
  have t_108 : At S_91 x 184 := by rw [eS_91]; exact At_sO t_107 hq_90
  have t_109 : At S_98 x 184 := hK_99.at ha_96 t_108 (by decide)
  refine r_putR X hw t_109 rfl 3 403 (some q_90) rfl tyX4 (by decide) rfl inn_X4_init_4 tyX4_ok nmX4 (by decide) (X.2.2.2.1 (.fieldLink RX4 29 "SilkMill$Pot" "strand" "LSilkMill$Strand;") (by decide +kernel)) rfl (Or.inr ⟨rfl, hin, rfl⟩) (fun _ => rfl) rfl (fun _ => rfl) rfl (Nat.le_of_ble_eq_true rfl) (st_403 _ _) dX4_init_53 (fun H locs hw => ?_)
  obtain ⟨S_110, eS_110⟩ : ∃ T, T = sR S_98 403 x (some q_90) := ⟨_, rfl⟩
  rw [← eS_110] at hw
  have ph_111 : Phc S_110 = Phc S + 14272 := (show Phc S_110 = Phc S_98 from Ph_rawR t_109 (by decide) eS_110).trans ph_105
  have ph_112 : Phs S_110 = Phs S + 42944 := (show Phs S_110 = Phs S_98 from Ph_rawR t_109 (by decide) eS_110).trans ph_106
  clear ph_105
  clear ph_106
  have hK_113 : Kq S S_110 x := hK_104.sR eS_110
  have hg_114 : GX S_110 := by rw [eS_110]; exact GX_rawR hg_100 t_109 (by decide +kernel)
  have h_115 : pR S_110 403 x = some q_90 := tR_sRs eS_110
  refine lv_aload_n X.1 X.2.1 dX4_init_56 rfl (lv_at hl 0 rfl) ?_
  refine r_new X hw 186 6 2553 14 rfl tyX6 (by decide) rfl inn_X4_init_6 tyX6_ok (X.2.2.2.1 (.classLink RX4 33 RX6) (by decide +kernel)) (X.2.2.2.1 (.instantiable RX6 7) (by decide +kernel)) (X.2.2.2.1 (.initialized RX6) (by decide +kernel)) (zo_6 _) zd_6 (by show 13 + 1 ≤ 14; omega) (by show 2546 + 7 ≤ 2553; omega) (by show 14 ≤ 20; omega) (by show 2553 ≤ 2733; omega) dX4_init_57 (fun q_116 H hq_116 hw => ?_)
  obtain ⟨S_117, eS_117⟩ : ∃ T, T = sO S_110 q_116 186 := ⟨_, rfl⟩
  rw [← eS_117] at hw
  have ph_118 : Phc S_117 = Phc S + 14272 := (show Phc S_117 = Phc S_110 from Ph_sO hg_114 hq_116 eS_117 (by decide)).trans ph_111
  have ph_119 : Phs S_117 = Phs S + 42944 := (show Phs S_117 = Phs S_110 from Ph_sO hg_114 hq_116 eS_117 (by decide)).trans ph_112
  clear ph_111
  clear ph_112
  have hK_120 : Kq S S_117 x := hK_113.sO hq_116 eS_117
  have hg_121 : GX S_117 := by rw [eS_117]; exact GX_O hg_114 hq_116 (by decide +kernel)
  have hn0_q_116 := hK_113.new hq_116
  have ha_122 : At S_117 q_116 186 := by rw [eS_117]; exact At_nO _ _ _
  have hzI_q_116 : ∀ g, pI S_117 g q_116 = 0 := fun g => by rw [eS_117]; exact pI_sO_new
  have hzR_q_116 : ∀ g, pR S_117 g q_116 = none := fun g => by rw [eS_117]; exact if_pos rfl
  refine lv_dup X.1 X.2.1 dX4_init_60 rfl ?_
  refine k_v (rm := { frames := 2, cells := 6, slots := 180, locals := 96 }) (av := [.ref q_116]) X hw (va_runIN (As := []) (rest := [.ref q_116, .ref x]) (cfix X) (k_X6_init l G cy κ S_117 _ q_116 hg_121 ha_122 hzI_q_116 hzR_q_116) ⟨(va_cnB (host := RX11) 0 X.2.2.2.1 gX4_init_X6_init_n35 rfl rfl rfl (X.2.2.2.2.2.2.2.1.2.1 (RX4, 35, yX6_init) (by decide +kernel)) (X.2.2.2.1 (.initialized RX6) (by decide +kernel)) (by decide +kernel) ⟨Nat.le_of_ble_eq_true rfl, Nat.le_of_ble_eq_true rfl⟩), rfl, (X.2.2.2.1 (.instanceMethod yX6_init) (by decide +kernel))⟩ (pre_S X hw _) rfl rfl hl.1 rfl (lv_room (Nat.le_of_ble_eq_true rfl)) dX4_init_61 ⟨(by show 14 + 6 ≤ 20; omega), (by show 2553 + 180 ≤ 2733; omega)⟩) 20 2733 (by show 14 + 6 ≤ 20; omega) (by show 2553 + 180 ≤ 2733; omega) (fun S_124 H locs hp hw hfr hnw => ?_)
  obtain ⟨hK_125, hg_126, ha_127, ph_128, ph_129⟩ := hp
  have hK_130 : Kq S S_124 x := hK_120.sub hn0_q_116 hK_125
  have ph_131 : Phc S_124 = Phc S + 14272 := by omega
  have ph_132 : Phs S_124 = Phs S + 42944 := by omega
  clear ph_118
  clear ph_119
  clear ph_128
  clear ph_129
  have t_133 : At S_110 x 184 := tAt_sR eS_110 t_109
  have t_134 : At S_117 x 184 := by rw [eS_117]; exact At_sO t_133 hq_116
  have t_135 : At S_124 x 184 := hK_125.at ha_122 t_134 (by decide)
  refine r_putR X hw t_135 rfl 9 409 (some q_116) rfl tyX4 (by decide) rfl inn_X4_init_4 tyX4_ok nmX4 (by decide) (X.2.2.2.1 (.fieldLink RX4 36 "SilkMill$Pot" "rules" "LSilkMill$Rules;") (by decide +kernel)) rfl (Or.inl rfl) (fun _ => rfl) rfl (fun _ => rfl) rfl (Nat.le_of_ble_eq_true rfl) (st_409 _ _) dX4_init_64 (fun H locs hw => ?_)
  obtain ⟨S_136, eS_136⟩ : ∃ T, T = sR S_124 409 x (some q_116) := ⟨_, rfl⟩
  rw [← eS_136] at hw
  have ph_137 : Phc S_136 = Phc S + 14272 := (show Phc S_136 = Phc S_124 from Ph_rawR t_135 (by decide) eS_136).trans ph_131
  have ph_138 : Phs S_136 = Phs S + 42944 := (show Phs S_136 = Phs S_124 from Ph_rawR t_135 (by decide) eS_136).trans ph_132
  clear ph_131
  clear ph_132
  have hK_139 : Kq S S_136 x := hK_130.sR eS_136
  have hg_140 : GX S_136 := by rw [eS_136]; exact GX_rawR hg_126 t_135 (by decide +kernel)
  have h_141 : pR S_136 409 x = some q_116 := tR_sRs eS_136
  refine lv_aload_n X.1 X.2.1 dX4_init_67 rfl (lv_at hl 0 rfl) ?_
  refine lv_iload_n X.1 X.2.1 dX4_init_68 rfl (lv_at hl 1 rfl) ?_
  have t_142 : At S_136 x 184 := tAt_sR eS_136 t_135
  refine r_putI (v := a1) X hw t_142 rfl 10 410 tyX4 (by decide) rfl inn_X4_init_4 tyX4_ok nmX4 (by decide) (X.2.2.2.1 (.fieldLink RX4 40 "SilkMill$Pot" "potNumber" "I") (by decide +kernel)) rfl (Or.inr ⟨rfl, hin, rfl⟩) rfl rfl (Nat.le_of_ble_eq_true rfl) (st_410 _ _) dX4_init_69 (fun H locs hw => ?_)
  obtain ⟨S_143, eS_143⟩ : ∃ T, T = sI S_136 410 x (a1) := ⟨_, rfl⟩
  rw [← eS_143] at hw
  have ph_144 : Phc S_143 = Phc S + 14272 := (show Phc S_143 = Phc S_136 from Ph_rawI t_142 (by decide) eS_143).trans ph_137
  have ph_145 : Phs S_143 = Phs S + 42944 := (show Phs S_143 = Phs S_136 from Ph_rawI t_142 (by decide) eS_143).trans ph_138
  clear ph_137
  clear ph_138
  have hK_146 : Kq S S_143 x := hK_139.sI eS_143
  have hg_147 : GX S_143 := by rw [eS_143]; exact GX_rawI hg_140 t_142 (by decide +kernel)
  have h_148 : pI S_143 410 x = a1 := tI_sIs eS_143
  refine lv_aload_n X.1 X.2.1 dX4_init_72 rfl (lv_at hl 0 rfl) ?_
  refine lv_iload_n X.1 X.2.1 dX4_init_73 rfl (lv_at hl 2 rfl) ?_
  have t_149 : At S_143 x 184 := tAt_sI eS_143 t_142
  refine r_putI (v := a2) X hw t_149 rfl 4 404 tyX4 (by decide) rfl inn_X4_init_4 tyX4_ok nmX4 (by decide) (X.2.2.2.1 (.fieldLink RX4 44 "SilkMill$Pot" "aim" "I") (by decide +kernel)) rfl (Or.inl rfl) rfl rfl (Nat.le_of_ble_eq_true rfl) (st_404 _ _) dX4_init_74 (fun H locs hw => ?_)
  obtain ⟨S_150, eS_150⟩ : ∃ T, T = sI S_143 404 x (a2) := ⟨_, rfl⟩
  rw [← eS_150] at hw
  have ph_151 : Phc S_150 = Phc S + 14272 := (show Phc S_150 = Phc S_143 from Ph_rawI t_149 (by decide) eS_150).trans ph_144
  have ph_152 : Phs S_150 = Phs S + 42944 := (show Phs S_150 = Phs S_143 from Ph_rawI t_149 (by decide) eS_150).trans ph_145
  clear ph_144
  clear ph_145
  have hK_153 : Kq S S_150 x := hK_146.sI eS_150
  have hg_154 : GX S_150 := by rw [eS_150]; exact GX_rawI hg_147 t_149 (by decide +kernel)
  have h_155 : pI S_150 404 x = a2 := tI_sIs eS_150
  refine lv_aload_n X.1 X.2.1 dX4_init_77 rfl (lv_at hl 0 rfl) ?_
  refine lv_iload_n X.1 X.2.1 dX4_init_78 rfl (lv_at hl 3 rfl) ?_
  have t_156 : At S_150 x 184 := tAt_sI eS_150 t_149
  refine r_putI (v := a3) X hw t_156 rfl 11 411 tyX4 (by decide) rfl inn_X4_init_4 tyX4_ok nmX4 (by decide) (X.2.2.2.1 (.fieldLink RX4 47 "SilkMill$Pot" "find" "I") (by decide +kernel)) rfl (Or.inr ⟨rfl, hin, rfl⟩) rfl rfl (Nat.le_of_ble_eq_true rfl) (st_411 _ _) dX4_init_79 (fun H locs hw => ?_)
  obtain ⟨S_157, eS_157⟩ : ∃ T, T = sI S_150 411 x (a3) := ⟨_, rfl⟩
  rw [← eS_157] at hw
  have ph_158 : Phc S_157 = Phc S + 14272 := (show Phc S_157 = Phc S_150 from Ph_rawI t_156 (by decide) eS_157).trans ph_151
  have ph_159 : Phs S_157 = Phs S + 42944 := (show Phs S_157 = Phs S_150 from Ph_rawI t_156 (by decide) eS_157).trans ph_152
  clear ph_151
  clear ph_152
  have hK_160 : Kq S S_157 x := hK_153.sI eS_157
  have hg_161 : GX S_157 := by rw [eS_157]; exact GX_rawI hg_154 t_156 (by decide +kernel)
  have h_162 : pI S_157 411 x = a3 := tI_sIs eS_157
  have t_163 : At S_157 x 184 := tAt_sI eS_157 t_156
  have nd_164 := nodup_of hw
  have t_166 : At S_24 x 184 := tAt_sR eS_24 t_23
  have t_165 : pR S_31 400 x = some q_1 := by rw [eS_31]; exact (pR_sO_ne (ne_of_new hq_30 t_166.1)).trans h_29
  have t_168 : At S_31 x 184 := by rw [eS_31]; exact At_sO t_166 hq_30
  have t_167 : pR S_38 400 x = some q_1 := (((hK_39 x t_168.1).2 (At_ne t_168 ha_36 (by decide))).2.2.1 400).trans t_165
  have t_169 : pR S_54 400 x = some q_1 := tR_sR eS_54 rfl t_167
  have t_171 : At S_54 x 184 := tAt_sR eS_54 t_53
  have t_170 : pR S_61 400 x = some q_1 := by rw [eS_61]; exact (pR_sO_ne (ne_of_new hq_60 t_171.1)).trans t_169
  have t_173 : At S_61 x 184 := by rw [eS_61]; exact At_sO t_171 hq_60
  have t_172 : pR S_68 400 x = some q_1 := (((hK_69 x t_173.1).2 (At_ne t_173 ha_66 (by decide))).2.2.1 400).trans t_170
  have t_174 : pR S_84 400 x = some q_1 := tR_sR eS_84 rfl t_172
  have t_176 : At S_84 x 184 := tAt_sR eS_84 t_83
  have t_175 : pR S_91 400 x = some q_1 := by rw [eS_91]; exact (pR_sO_ne (ne_of_new hq_90 t_176.1)).trans t_174
  have t_178 : At S_91 x 184 := by rw [eS_91]; exact At_sO t_176 hq_90
  have t_177 : pR S_98 400 x = some q_1 := (((hK_99 x t_178.1).2 (At_ne t_178 ha_96 (by decide))).2.2.1 400).trans t_175
  have t_179 : pR S_110 400 x = some q_1 := tR_sR eS_110 rfl t_177
  have t_181 : At S_110 x 184 := tAt_sR eS_110 t_109
  have t_180 : pR S_117 400 x = some q_1 := by rw [eS_117]; exact (pR_sO_ne (ne_of_new hq_116 t_181.1)).trans t_179
  have t_183 : At S_117 x 184 := by rw [eS_117]; exact At_sO t_181 hq_116
  have t_182 : pR S_124 400 x = some q_1 := (((hK_125 x t_183.1).2 (At_ne t_183 ha_122 (by decide))).2.2.1 400).trans t_180
  have t_184 : pR S_136 400 x = some q_1 := tR_sR eS_136 rfl t_182
  have t_185 : pR S_143 400 x = some q_1 := tR_sI eS_143 t_184
  have t_186 : pR S_150 400 x = some q_1 := tR_sI eS_150 t_185
  have t_187 : pR S_157 400 x = some q_1 := tR_sI eS_157 t_186
  have t_188 : At S_24 q_1 5 := tAt_sR eS_24 ha_12
  have t_189 : At S_31 q_1 5 := by rw [eS_31]; exact At_sO t_188 hq_30
  have t_190 : At S_38 q_1 5 := hK_39.at ha_36 t_189 (by decide)
  have t_191 : At S_54 q_1 5 := tAt_sR eS_54 t_190
  have t_192 : At S_61 q_1 5 := by rw [eS_61]; exact At_sO t_191 hq_60
  have t_193 : At S_68 q_1 5 := hK_69.at ha_66 t_192 (by decide)
  have t_194 : At S_84 q_1 5 := tAt_sR eS_84 t_193
  have t_195 : At S_91 q_1 5 := by rw [eS_91]; exact At_sO t_194 hq_90
  have t_196 : At S_98 q_1 5 := hK_99.at ha_96 t_195 (by decide)
  have t_197 : At S_110 q_1 5 := tAt_sR eS_110 t_196
  have t_198 : At S_117 q_1 5 := by rw [eS_117]; exact At_sO t_197 hq_116
  have t_199 : At S_124 q_1 5 := hK_125.at ha_122 t_198 (by decide)
  have t_200 : At S_136 q_1 5 := tAt_sR eS_136 t_199
  have t_201 : At S_143 q_1 5 := tAt_sI eS_143 t_200
  have t_202 : At S_150 q_1 5 := tAt_sI eS_150 t_201
  have t_203 : At S_157 q_1 5 := tAt_sI eS_157 t_202
  have t_204 : pR S_61 401 x = some q_30 := by rw [eS_61]; exact (pR_sO_ne (ne_of_new hq_60 t_171.1)).trans h_59
  have t_205 : pR S_68 401 x = some q_30 := (((hK_69 x t_173.1).2 (At_ne t_173 ha_66 (by decide))).2.2.1 401).trans t_204
  have t_206 : pR S_84 401 x = some q_30 := tR_sR eS_84 rfl t_205
  have t_207 : pR S_91 401 x = some q_30 := by rw [eS_91]; exact (pR_sO_ne (ne_of_new hq_90 t_176.1)).trans t_206
  have t_208 : pR S_98 401 x = some q_30 := (((hK_99 x t_178.1).2 (At_ne t_178 ha_96 (by decide))).2.2.1 401).trans t_207
  have t_209 : pR S_110 401 x = some q_30 := tR_sR eS_110 rfl t_208
  have t_210 : pR S_117 401 x = some q_30 := by rw [eS_117]; exact (pR_sO_ne (ne_of_new hq_116 t_181.1)).trans t_209
  have t_211 : pR S_124 401 x = some q_30 := (((hK_125 x t_183.1).2 (At_ne t_183 ha_122 (by decide))).2.2.1 401).trans t_210
  have t_212 : pR S_136 401 x = some q_30 := tR_sR eS_136 rfl t_211
  have t_213 : pR S_143 401 x = some q_30 := tR_sI eS_143 t_212
  have t_214 : pR S_150 401 x = some q_30 := tR_sI eS_150 t_213
  have t_215 : pR S_157 401 x = some q_30 := tR_sI eS_157 t_214
  have t_216 : At S_54 q_30 5 := tAt_sR eS_54 ha_41
  have t_217 : At S_61 q_30 5 := by rw [eS_61]; exact At_sO t_216 hq_60
  have t_218 : At S_68 q_30 5 := hK_69.at ha_66 t_217 (by decide)
  have t_219 : At S_84 q_30 5 := tAt_sR eS_84 t_218
  have t_220 : At S_91 q_30 5 := by rw [eS_91]; exact At_sO t_219 hq_90
  have t_221 : At S_98 q_30 5 := hK_99.at ha_96 t_220 (by decide)
  have t_222 : At S_110 q_30 5 := tAt_sR eS_110 t_221
  have t_223 : At S_117 q_30 5 := by rw [eS_117]; exact At_sO t_222 hq_116
  have t_224 : At S_124 q_30 5 := hK_125.at ha_122 t_223 (by decide)
  have t_225 : At S_136 q_30 5 := tAt_sR eS_136 t_224
  have t_226 : At S_143 q_30 5 := tAt_sI eS_143 t_225
  have t_227 : At S_150 q_30 5 := tAt_sI eS_150 t_226
  have t_228 : At S_157 q_30 5 := tAt_sI eS_157 t_227
  have t_229 : pR S_91 402 x = some q_60 := by rw [eS_91]; exact (pR_sO_ne (ne_of_new hq_90 t_176.1)).trans h_89
  have t_230 : pR S_98 402 x = some q_60 := (((hK_99 x t_178.1).2 (At_ne t_178 ha_96 (by decide))).2.2.1 402).trans t_229
  have t_231 : pR S_110 402 x = some q_60 := tR_sR eS_110 rfl t_230
  have t_232 : pR S_117 402 x = some q_60 := by rw [eS_117]; exact (pR_sO_ne (ne_of_new hq_116 t_181.1)).trans t_231
  have t_233 : pR S_124 402 x = some q_60 := (((hK_125 x t_183.1).2 (At_ne t_183 ha_122 (by decide))).2.2.1 402).trans t_232
  have t_234 : pR S_136 402 x = some q_60 := tR_sR eS_136 rfl t_233
  have t_235 : pR S_143 402 x = some q_60 := tR_sI eS_143 t_234
  have t_236 : pR S_150 402 x = some q_60 := tR_sI eS_150 t_235
  have t_237 : pR S_157 402 x = some q_60 := tR_sI eS_157 t_236
  have t_238 : At S_84 q_60 5 := tAt_sR eS_84 ha_71
  have t_239 : At S_91 q_60 5 := by rw [eS_91]; exact At_sO t_238 hq_90
  have t_240 : At S_98 q_60 5 := hK_99.at ha_96 t_239 (by decide)
  have t_241 : At S_110 q_60 5 := tAt_sR eS_110 t_240
  have t_242 : At S_117 q_60 5 := by rw [eS_117]; exact At_sO t_241 hq_116
  have t_243 : At S_124 q_60 5 := hK_125.at ha_122 t_242 (by decide)
  have t_244 : At S_136 q_60 5 := tAt_sR eS_136 t_243
  have t_245 : At S_143 q_60 5 := tAt_sI eS_143 t_244
  have t_246 : At S_150 q_60 5 := tAt_sI eS_150 t_245
  have t_247 : At S_157 q_60 5 := tAt_sI eS_157 t_246
  have t_248 : pR S_117 403 x = some q_90 := by rw [eS_117]; exact (pR_sO_ne (ne_of_new hq_116 t_181.1)).trans h_115
  have t_249 : pR S_124 403 x = some q_90 := (((hK_125 x t_183.1).2 (At_ne t_183 ha_122 (by decide))).2.2.1 403).trans t_248
  have t_250 : pR S_136 403 x = some q_90 := tR_sR eS_136 rfl t_249
  have t_251 : pR S_143 403 x = some q_90 := tR_sI eS_143 t_250
  have t_252 : pR S_150 403 x = some q_90 := tR_sI eS_150 t_251
  have t_253 : pR S_157 403 x = some q_90 := tR_sI eS_157 t_252
  have t_254 : At S_110 q_90 29 := tAt_sR eS_110 ha_101
  have t_255 : At S_117 q_90 29 := by rw [eS_117]; exact At_sO t_254 hq_116
  have t_256 : At S_124 q_90 29 := hK_125.at ha_122 t_255 (by decide)
  have t_257 : At S_136 q_90 29 := tAt_sR eS_136 t_256
  have t_258 : At S_143 q_90 29 := tAt_sI eS_143 t_257
  have t_259 : At S_150 q_90 29 := tAt_sI eS_150 t_258
  have t_260 : At S_157 q_90 29 := tAt_sI eS_157 t_259
  have t_261 : pR S_143 409 x = some q_116 := tR_sI eS_143 h_141
  have t_262 : pR S_150 409 x = some q_116 := tR_sI eS_150 t_261
  have t_263 : pR S_157 409 x = some q_116 := tR_sI eS_157 t_262
  have t_264 : At S_136 q_116 6 := tAt_sR eS_136 ha_127
  have t_265 : At S_143 q_116 6 := tAt_sI eS_143 t_264
  have t_266 : At S_150 q_116 6 := tAt_sI eS_150 t_265
  have t_267 : At S_157 q_116 6 := tAt_sI eS_157 t_266
  obtain ⟨S_268, eS_268⟩ : ∃ T, T = sK S_157 x 4 := ⟨_, rfl⟩
  have hw := Wd_sK (k := 4) hw t_163 rfl; rw [← eS_268] at hw
  have hg9 : GX S_268 := by rw [eS_268]; exact GX_sK hg_161 t_163 (by decide +kernel) (mk_4 ⟨q_1, (by rw [pR_sK]; exact t_187), At_sK t_163 t_203 (by decide)⟩ ⟨q_30, (by rw [pR_sK]; exact t_215), At_sK t_163 t_228 (by decide)⟩ ⟨q_60, (by rw [pR_sK]; exact t_237), At_sK t_163 t_247 (by decide)⟩ ⟨q_90, (by rw [pR_sK]; exact t_253), At_sK t_163 t_260 (by decide)⟩ ⟨q_116, (by rw [pR_sK]; exact t_263), At_sK t_163 t_267 (by decide)⟩)
  have ha9 : At S_268 x 4 := by rw [eS_268]; exact At_nK t_163
  have hk9 : Kq S S_268 x := hK_160.sK eS_268
  have hPhc9 : Phc S_268 = Phc S + 14272 := by rw [show Phc S_268 = Ph fC 8 14400 S_268 from rfl, Ph_sK nd_164 t_163 (by decide) eS_268, ph_0 ha9 (by decide)]; show Phc S_157 + _ = _; omega
  have hPhs9 : Phs S_268 = Phs S + 42944 := by rw [show Phs S_268 = Ph fS 15100 46000 S_268 from rfl, Ph_sK nd_164 t_163 (by decide) eS_268, ph_0 ha9 (by decide)]; show Phs S_157 + _ = _; omega
  have t_269 : pR S_24 501 q_1 = some kx_15 := tR_sR eS_24 rfl kx_16
  have t_271 : At S_24 q_1 5 := tAt_sR eS_24 ha_12
  have t_270 : pR S_31 501 q_1 = some kx_15 := by rw [eS_31]; exact (pR_sO_ne (ne_of_new hq_30 t_271.1)).trans t_269
  have t_273 : At S_31 q_1 5 := by rw [eS_31]; exact At_sO t_271 hq_30
  have t_272 : pR S_38 501 q_1 = some kx_15 := (((hK_39 q_1 t_273.1).2 (At_ne t_273 ha_36 (by decide))).2.2.1 501).trans t_270
  have t_274 : pR S_54 501 q_1 = some kx_15 := tR_sR eS_54 rfl t_272
  have t_276 : At S_38 q_1 5 := hK_39.at ha_36 t_273 (by decide)
  have t_277 : At S_54 q_1 5 := tAt_sR eS_54 t_276
  have t_275 : pR S_61 501 q_1 = some kx_15 := by rw [eS_61]; exact (pR_sO_ne (ne_of_new hq_60 t_277.1)).trans t_274
  have t_279 : At S_61 q_1 5 := by rw [eS_61]; exact At_sO t_277 hq_60
  have t_278 : pR S_68 501 q_1 = some kx_15 := (((hK_69 q_1 t_279.1).2 (At_ne t_279 ha_66 (by decide))).2.2.1 501).trans t_275
  have t_280 : pR S_84 501 q_1 = some kx_15 := tR_sR eS_84 rfl t_278
  have t_282 : At S_68 q_1 5 := hK_69.at ha_66 t_279 (by decide)
  have t_283 : At S_84 q_1 5 := tAt_sR eS_84 t_282
  have t_281 : pR S_91 501 q_1 = some kx_15 := by rw [eS_91]; exact (pR_sO_ne (ne_of_new hq_90 t_283.1)).trans t_280
  have t_285 : At S_91 q_1 5 := by rw [eS_91]; exact At_sO t_283 hq_90
  have t_284 : pR S_98 501 q_1 = some kx_15 := (((hK_99 q_1 t_285.1).2 (At_ne t_285 ha_96 (by decide))).2.2.1 501).trans t_281
  have t_286 : pR S_110 501 q_1 = some kx_15 := tR_sR eS_110 rfl t_284
  have t_288 : At S_98 q_1 5 := hK_99.at ha_96 t_285 (by decide)
  have t_289 : At S_110 q_1 5 := tAt_sR eS_110 t_288
  have t_287 : pR S_117 501 q_1 = some kx_15 := by rw [eS_117]; exact (pR_sO_ne (ne_of_new hq_116 t_289.1)).trans t_286
  have t_291 : At S_117 q_1 5 := by rw [eS_117]; exact At_sO t_289 hq_116
  have t_290 : pR S_124 501 q_1 = some kx_15 := (((hK_125 q_1 t_291.1).2 (At_ne t_291 ha_122 (by decide))).2.2.1 501).trans t_287
  have t_292 : pR S_136 501 q_1 = some kx_15 := tR_sR eS_136 rfl t_290
  have t_293 : pR S_143 501 q_1 = some kx_15 := tR_sI eS_143 t_292
  have t_294 : pR S_150 501 q_1 = some kx_15 := tR_sI eS_150 t_293
  have t_295 : pR S_157 501 q_1 = some kx_15 := tR_sI eS_157 t_294
  have bb_296 : pB S_24 kx_15 = pB S_9 kx_15 := by rw [eS_24]; rfl
  have bb_297 : pB S_31 kx_15 = pB S_9 kx_15 := (show pB S_31 kx_15 = pB S_24 kx_15 from by rw [eS_31]; rfl).trans bb_296
  have t_299 : At S_24 kx_15 16 := tAt_sR eS_24 kx_17
  have t_300 : At S_31 kx_15 16 := by rw [eS_31]; exact At_sO t_299 hq_30
  have bb_298 : pB S_38 kx_15 = pB S_9 kx_15 := (show pB S_38 kx_15 = pB S_31 kx_15 from ((hK_39 kx_15 t_300.1).2 (At_ne t_300 ha_36 (by decide))).2.2.2.2.2).trans bb_297
  have bb_301 : pB S_54 kx_15 = pB S_9 kx_15 := (show pB S_54 kx_15 = pB S_38 kx_15 from by rw [eS_54]; rfl).trans bb_298
  have bb_302 : pB S_61 kx_15 = pB S_9 kx_15 := (show pB S_61 kx_15 = pB S_54 kx_15 from by rw [eS_61]; rfl).trans bb_301
  have t_304 : At S_38 kx_15 16 := hK_39.at ha_36 t_300 (by decide)
  have t_305 : At S_54 kx_15 16 := tAt_sR eS_54 t_304
  have t_306 : At S_61 kx_15 16 := by rw [eS_61]; exact At_sO t_305 hq_60
  have bb_303 : pB S_68 kx_15 = pB S_9 kx_15 := (show pB S_68 kx_15 = pB S_61 kx_15 from ((hK_69 kx_15 t_306.1).2 (At_ne t_306 ha_66 (by decide))).2.2.2.2.2).trans bb_302
  have bb_307 : pB S_84 kx_15 = pB S_9 kx_15 := (show pB S_84 kx_15 = pB S_68 kx_15 from by rw [eS_84]; rfl).trans bb_303
  have bb_308 : pB S_91 kx_15 = pB S_9 kx_15 := (show pB S_91 kx_15 = pB S_84 kx_15 from by rw [eS_91]; rfl).trans bb_307
  have t_310 : At S_68 kx_15 16 := hK_69.at ha_66 t_306 (by decide)
  have t_311 : At S_84 kx_15 16 := tAt_sR eS_84 t_310
  have t_312 : At S_91 kx_15 16 := by rw [eS_91]; exact At_sO t_311 hq_90
  have bb_309 : pB S_98 kx_15 = pB S_9 kx_15 := (show pB S_98 kx_15 = pB S_91 kx_15 from ((hK_99 kx_15 t_312.1).2 (At_ne t_312 ha_96 (by decide))).2.2.2.2.2).trans bb_308
  have bb_313 : pB S_110 kx_15 = pB S_9 kx_15 := (show pB S_110 kx_15 = pB S_98 kx_15 from by rw [eS_110]; rfl).trans bb_309
  have bb_314 : pB S_117 kx_15 = pB S_9 kx_15 := (show pB S_117 kx_15 = pB S_110 kx_15 from by rw [eS_117]; rfl).trans bb_313
  have t_316 : At S_98 kx_15 16 := hK_99.at ha_96 t_312 (by decide)
  have t_317 : At S_110 kx_15 16 := tAt_sR eS_110 t_316
  have t_318 : At S_117 kx_15 16 := by rw [eS_117]; exact At_sO t_317 hq_116
  have bb_315 : pB S_124 kx_15 = pB S_9 kx_15 := (show pB S_124 kx_15 = pB S_117 kx_15 from ((hK_125 kx_15 t_318.1).2 (At_ne t_318 ha_122 (by decide))).2.2.2.2.2).trans bb_314
  have bb_319 : pB S_136 kx_15 = pB S_9 kx_15 := (show pB S_136 kx_15 = pB S_124 kx_15 from by rw [eS_136]; rfl).trans bb_315
  have bb_320 : pB S_143 kx_15 = pB S_9 kx_15 := (show pB S_143 kx_15 = pB S_136 kx_15 from by rw [eS_143]; rfl).trans bb_319
  have bb_321 : pB S_150 kx_15 = pB S_9 kx_15 := (show pB S_150 kx_15 = pB S_143 kx_15 from by rw [eS_150]; rfl).trans bb_320
  have bb_322 : pB S_157 kx_15 = pB S_9 kx_15 := (show pB S_157 kx_15 = pB S_150 kx_15 from by rw [eS_157]; rfl).trans bb_321
  have t_323 : At S_124 kx_15 16 := hK_125.at ha_122 t_318 (by decide)
  have t_324 : At S_136 kx_15 16 := tAt_sR eS_136 t_323
  have t_325 : At S_143 kx_15 16 := tAt_sI eS_143 t_324
  have t_326 : At S_150 kx_15 16 := tAt_sI eS_150 t_325
  have t_327 : At S_157 kx_15 16 := tAt_sI eS_157 t_326
  have t_328 : pR S_54 501 q_30 = some kx_44 := tR_sR eS_54 rfl kx_45
  have t_330 : At S_54 q_30 5 := tAt_sR eS_54 ha_41
  have t_329 : pR S_61 501 q_30 = some kx_44 := by rw [eS_61]; exact (pR_sO_ne (ne_of_new hq_60 t_330.1)).trans t_328
  have t_332 : At S_61 q_30 5 := by rw [eS_61]; exact At_sO t_330 hq_60
  have t_331 : pR S_68 501 q_30 = some kx_44 := (((hK_69 q_30 t_332.1).2 (At_ne t_332 ha_66 (by decide))).2.2.1 501).trans t_329
  have t_333 : pR S_84 501 q_30 = some kx_44 := tR_sR eS_84 rfl t_331
  have t_335 : At S_68 q_30 5 := hK_69.at ha_66 t_332 (by decide)
  have t_336 : At S_84 q_30 5 := tAt_sR eS_84 t_335
  have t_334 : pR S_91 501 q_30 = some kx_44 := by rw [eS_91]; exact (pR_sO_ne (ne_of_new hq_90 t_336.1)).trans t_333
  have t_338 : At S_91 q_30 5 := by rw [eS_91]; exact At_sO t_336 hq_90
  have t_337 : pR S_98 501 q_30 = some kx_44 := (((hK_99 q_30 t_338.1).2 (At_ne t_338 ha_96 (by decide))).2.2.1 501).trans t_334
  have t_339 : pR S_110 501 q_30 = some kx_44 := tR_sR eS_110 rfl t_337
  have t_341 : At S_98 q_30 5 := hK_99.at ha_96 t_338 (by decide)
  have t_342 : At S_110 q_30 5 := tAt_sR eS_110 t_341
  have t_340 : pR S_117 501 q_30 = some kx_44 := by rw [eS_117]; exact (pR_sO_ne (ne_of_new hq_116 t_342.1)).trans t_339
  have t_344 : At S_117 q_30 5 := by rw [eS_117]; exact At_sO t_342 hq_116
  have t_343 : pR S_124 501 q_30 = some kx_44 := (((hK_125 q_30 t_344.1).2 (At_ne t_344 ha_122 (by decide))).2.2.1 501).trans t_340
  have t_345 : pR S_136 501 q_30 = some kx_44 := tR_sR eS_136 rfl t_343
  have t_346 : pR S_143 501 q_30 = some kx_44 := tR_sI eS_143 t_345
  have t_347 : pR S_150 501 q_30 = some kx_44 := tR_sI eS_150 t_346
  have t_348 : pR S_157 501 q_30 = some kx_44 := tR_sI eS_157 t_347
  have bb_349 : pB S_54 kx_44 = pB S_38 kx_44 := by rw [eS_54]; rfl
  have bb_350 : pB S_61 kx_44 = pB S_38 kx_44 := (show pB S_61 kx_44 = pB S_54 kx_44 from by rw [eS_61]; rfl).trans bb_349
  have t_352 : At S_54 kx_44 16 := tAt_sR eS_54 kx_46
  have t_353 : At S_61 kx_44 16 := by rw [eS_61]; exact At_sO t_352 hq_60
  have bb_351 : pB S_68 kx_44 = pB S_38 kx_44 := (show pB S_68 kx_44 = pB S_61 kx_44 from ((hK_69 kx_44 t_353.1).2 (At_ne t_353 ha_66 (by decide))).2.2.2.2.2).trans bb_350
  have bb_354 : pB S_84 kx_44 = pB S_38 kx_44 := (show pB S_84 kx_44 = pB S_68 kx_44 from by rw [eS_84]; rfl).trans bb_351
  have bb_355 : pB S_91 kx_44 = pB S_38 kx_44 := (show pB S_91 kx_44 = pB S_84 kx_44 from by rw [eS_91]; rfl).trans bb_354
  have t_357 : At S_68 kx_44 16 := hK_69.at ha_66 t_353 (by decide)
  have t_358 : At S_84 kx_44 16 := tAt_sR eS_84 t_357
  have t_359 : At S_91 kx_44 16 := by rw [eS_91]; exact At_sO t_358 hq_90
  have bb_356 : pB S_98 kx_44 = pB S_38 kx_44 := (show pB S_98 kx_44 = pB S_91 kx_44 from ((hK_99 kx_44 t_359.1).2 (At_ne t_359 ha_96 (by decide))).2.2.2.2.2).trans bb_355
  have bb_360 : pB S_110 kx_44 = pB S_38 kx_44 := (show pB S_110 kx_44 = pB S_98 kx_44 from by rw [eS_110]; rfl).trans bb_356
  have bb_361 : pB S_117 kx_44 = pB S_38 kx_44 := (show pB S_117 kx_44 = pB S_110 kx_44 from by rw [eS_117]; rfl).trans bb_360
  have t_363 : At S_98 kx_44 16 := hK_99.at ha_96 t_359 (by decide)
  have t_364 : At S_110 kx_44 16 := tAt_sR eS_110 t_363
  have t_365 : At S_117 kx_44 16 := by rw [eS_117]; exact At_sO t_364 hq_116
  have bb_362 : pB S_124 kx_44 = pB S_38 kx_44 := (show pB S_124 kx_44 = pB S_117 kx_44 from ((hK_125 kx_44 t_365.1).2 (At_ne t_365 ha_122 (by decide))).2.2.2.2.2).trans bb_361
  have bb_366 : pB S_136 kx_44 = pB S_38 kx_44 := (show pB S_136 kx_44 = pB S_124 kx_44 from by rw [eS_136]; rfl).trans bb_362
  have bb_367 : pB S_143 kx_44 = pB S_38 kx_44 := (show pB S_143 kx_44 = pB S_136 kx_44 from by rw [eS_143]; rfl).trans bb_366
  have bb_368 : pB S_150 kx_44 = pB S_38 kx_44 := (show pB S_150 kx_44 = pB S_143 kx_44 from by rw [eS_150]; rfl).trans bb_367
  have bb_369 : pB S_157 kx_44 = pB S_38 kx_44 := (show pB S_157 kx_44 = pB S_150 kx_44 from by rw [eS_157]; rfl).trans bb_368
  have t_370 : At S_124 kx_44 16 := hK_125.at ha_122 t_365 (by decide)
  have t_371 : At S_136 kx_44 16 := tAt_sR eS_136 t_370
  have t_372 : At S_143 kx_44 16 := tAt_sI eS_143 t_371
  have t_373 : At S_150 kx_44 16 := tAt_sI eS_150 t_372
  have t_374 : At S_157 kx_44 16 := tAt_sI eS_157 t_373
  have t_375 : pR S_84 501 q_60 = some kx_74 := tR_sR eS_84 rfl kx_75
  have t_377 : At S_84 q_60 5 := tAt_sR eS_84 ha_71
  have t_376 : pR S_91 501 q_60 = some kx_74 := by rw [eS_91]; exact (pR_sO_ne (ne_of_new hq_90 t_377.1)).trans t_375
  have t_379 : At S_91 q_60 5 := by rw [eS_91]; exact At_sO t_377 hq_90
  have t_378 : pR S_98 501 q_60 = some kx_74 := (((hK_99 q_60 t_379.1).2 (At_ne t_379 ha_96 (by decide))).2.2.1 501).trans t_376
  have t_380 : pR S_110 501 q_60 = some kx_74 := tR_sR eS_110 rfl t_378
  have t_382 : At S_98 q_60 5 := hK_99.at ha_96 t_379 (by decide)
  have t_383 : At S_110 q_60 5 := tAt_sR eS_110 t_382
  have t_381 : pR S_117 501 q_60 = some kx_74 := by rw [eS_117]; exact (pR_sO_ne (ne_of_new hq_116 t_383.1)).trans t_380
  have t_385 : At S_117 q_60 5 := by rw [eS_117]; exact At_sO t_383 hq_116
  have t_384 : pR S_124 501 q_60 = some kx_74 := (((hK_125 q_60 t_385.1).2 (At_ne t_385 ha_122 (by decide))).2.2.1 501).trans t_381
  have t_386 : pR S_136 501 q_60 = some kx_74 := tR_sR eS_136 rfl t_384
  have t_387 : pR S_143 501 q_60 = some kx_74 := tR_sI eS_143 t_386
  have t_388 : pR S_150 501 q_60 = some kx_74 := tR_sI eS_150 t_387
  have t_389 : pR S_157 501 q_60 = some kx_74 := tR_sI eS_157 t_388
  have bb_390 : pB S_84 kx_74 = pB S_68 kx_74 := by rw [eS_84]; rfl
  have bb_391 : pB S_91 kx_74 = pB S_68 kx_74 := (show pB S_91 kx_74 = pB S_84 kx_74 from by rw [eS_91]; rfl).trans bb_390
  have t_393 : At S_84 kx_74 16 := tAt_sR eS_84 kx_76
  have t_394 : At S_91 kx_74 16 := by rw [eS_91]; exact At_sO t_393 hq_90
  have bb_392 : pB S_98 kx_74 = pB S_68 kx_74 := (show pB S_98 kx_74 = pB S_91 kx_74 from ((hK_99 kx_74 t_394.1).2 (At_ne t_394 ha_96 (by decide))).2.2.2.2.2).trans bb_391
  have bb_395 : pB S_110 kx_74 = pB S_68 kx_74 := (show pB S_110 kx_74 = pB S_98 kx_74 from by rw [eS_110]; rfl).trans bb_392
  have bb_396 : pB S_117 kx_74 = pB S_68 kx_74 := (show pB S_117 kx_74 = pB S_110 kx_74 from by rw [eS_117]; rfl).trans bb_395
  have t_398 : At S_98 kx_74 16 := hK_99.at ha_96 t_394 (by decide)
  have t_399 : At S_110 kx_74 16 := tAt_sR eS_110 t_398
  have t_400 : At S_117 kx_74 16 := by rw [eS_117]; exact At_sO t_399 hq_116
  have bb_397 : pB S_124 kx_74 = pB S_68 kx_74 := (show pB S_124 kx_74 = pB S_117 kx_74 from ((hK_125 kx_74 t_400.1).2 (At_ne t_400 ha_122 (by decide))).2.2.2.2.2).trans bb_396
  have bb_401 : pB S_136 kx_74 = pB S_68 kx_74 := (show pB S_136 kx_74 = pB S_124 kx_74 from by rw [eS_136]; rfl).trans bb_397
  have bb_402 : pB S_143 kx_74 = pB S_68 kx_74 := (show pB S_143 kx_74 = pB S_136 kx_74 from by rw [eS_143]; rfl).trans bb_401
  have bb_403 : pB S_150 kx_74 = pB S_68 kx_74 := (show pB S_150 kx_74 = pB S_143 kx_74 from by rw [eS_150]; rfl).trans bb_402
  have bb_404 : pB S_157 kx_74 = pB S_68 kx_74 := (show pB S_157 kx_74 = pB S_150 kx_74 from by rw [eS_157]; rfl).trans bb_403
  have t_405 : At S_124 kx_74 16 := hK_125.at ha_122 t_400 (by decide)
  have t_406 : At S_136 kx_74 16 := tAt_sR eS_136 t_405
  have t_407 : At S_143 kx_74 16 := tAt_sI eS_143 t_406
  have t_408 : At S_150 kx_74 16 := tAt_sI eS_150 t_407
  have t_409 : At S_157 kx_74 16 := tAt_sI eS_157 t_408
  exact ret_v X hw hr hlocks (by show 20 ≤ 20; omega) (by show 2733 ≤ 2733; omega) ⟨hk9, hg9, ha9, hPhc9, hPhs9, ⟨q_1, kx_15, by rw [eS_268, pR_sK]; exact t_187, by rw [eS_268]; exact At_sK t_163 t_203 (by decide), by rw [eS_268, pR_sK]; exact t_295, by rw [eS_268]; exact At_sK t_163 t_327 (by decide), by rw [eS_268]; exact (show pB (sK S_157 x 4) kx_15 = pB S_157 kx_15 from rfl).trans (bb_322.trans kx_18)⟩, ⟨q_30, kx_44, by rw [eS_268, pR_sK]; exact t_215, by rw [eS_268]; exact At_sK t_163 t_228 (by decide), by rw [eS_268, pR_sK]; exact t_348, by rw [eS_268]; exact At_sK t_163 t_374 (by decide), by rw [eS_268]; exact (show pB (sK S_157 x 4) kx_44 = pB S_157 kx_44 from rfl).trans (bb_369.trans kx_47)⟩, ⟨q_60, kx_74, by rw [eS_268, pR_sK]; exact t_237, by rw [eS_268]; exact At_sK t_163 t_247 (by decide), by rw [eS_268, pR_sK]; exact t_389, by rw [eS_268]; exact At_sK t_163 t_409 (by decide), by rw [eS_268]; exact (show pB (sK S_157 x 4) kx_74 = pB S_157 kx_74 from rfl).trans (bb_404.trans kx_77)⟩⟩ dX4_init_82
set_option maxHeartbeats 4000000 in
set_option maxRecDepth 100000 in
theorem k_X11_pot3 (l : Launch) (G : va_G) (cy : Nat → ClassId) (κ : Nat → Nat) (S : PS) (sz hz : Nat) (x : Nat) (a1 : Int32) (a1_z : Int) (a2 : Int32) (a2_z : Int) (hG : GX S) (ha_x : At S x 11) (hz_a1 : a1.toInt = a1_z) (hz_a2 : a2.toInt = a2_z) : Gi l yX11_pot wsX11_pot ({ frames := 4, cells := Phc S + 14400, slots := Phs S + 46000, locals := 192 }) G cy κ S sz hz 0 0 [.ref x, .int (a1), .int (a2)] (fun (r : Int32) (S9 : PS) => Og ePT S S9 ∧ (-2147483648 ≤ r.toInt ∧ r.toInt ≤ 2147483647 ∧ ((((pI S 1104 x).toInt < 4 ∧ 10 ≤ a1_z ∧ a1_z ≤ 2000 ∧ 1 ≤ a2_z ∧ a2_z ≤ 50) ∧ r.toInt = (pI S 1104 x).toInt ∧ (pI S9 1104 x).toInt = (pI S 1104 x).toInt + 1) ∨ (¬ (((pI S 1104 x).toInt < 4 ∧ 10 ≤ a1_z ∧ a1_z ≤ 2000 ∧ 1 ≤ a2_z ∧ a2_z ≤ 50)) ∧ r.toInt = -1 ∧ (pI S9 1104 x).toInt = (pI S 1104 x).toInt)) ∧ (PN S x → PN S9 x) ∧ (((pI S 1104 x).toInt < 4 ∧ 10 ≤ a1_z ∧ a1_z ≤ 2000 ∧ 1 ≤ a2_z ∧ a2_z ≤ 50) → ∃ P, (∀ j, mB S9 x 1103 j = if j = (pI S 1104 x).toInt.toNat then some P else mB S x 1103 j) ∧ At S9 P 4 ∧ RowE S9 P 400 ∧ RowE S9 P 401 ∧ RowE S9 P 402) ∧ (¬ ((pI S 1104 x).toInt < 4 ∧ 10 ≤ a1_z ∧ a1_z ≤ 2000 ∧ 1 ≤ a2_z ∧ a2_z ≤ 50) → S9 = S))) := by
  refine ent_g (cc := cX11_pot) (maxL := 3) (ret := (some .int)) (by decide) rfl (Nat.le_of_ble_eq_true rfl) ?_
  intro p e s m below meth c ls X hr hlocks hin hw hl hsz hhz
  subst hsz hhz
  have X : Cx p c cX11_pot 3 s [.ref x, .int (a1), .int (a2)].toArray wsX11_pot RX11 m G cy κ (AS S s.heap.size) := X
  have hl : lv_has ls 3 [(0, .ref x), (1, .int (a1)), (2, .int (a2))] := hl
  have rg_a1 : (-2147483648) ≤ a1_z ∧ a1_z ≤ 2147483647 := by rw [← hz_a1]; exact ⟨z_lo _, z_hi _⟩
  have rg_a2 : (-2147483648) ≤ a2_z ∧ a2_z ≤ 2147483647 := by rw [← hz_a2]; exact ⟨z_lo _, z_hi _⟩
  have hpc0 : 0 + Phc S ≤ Phc S + 0 := by omega
  have hps0 : 0 + Phs S ≤ Phs S + 0 := by omega
  have hO : Og ePT S S := Og.rf hG
  obtain ⟨v_1, ev_1⟩ : ∃ v, pI S 1104 x = v := ⟨_, rfl⟩
  have rg_2 := gI_11_1104 hO.1 ha_x; rw [ev_1] at rg_2
  have pz_3 : (pI S 1104 x).toInt = v_1.toInt := by rw [ev_1]
  have pz_4 : (pI S 1104 x).toInt = v_1.toInt := (congrArg Int32.toInt ev_1).trans rfl
  obtain ⟨q_5, h_6, h_7, h_8⟩ := gQ_11_1103 hO.1 ha_x
  refine lv_aload_n X.1 X.2.1 dX11_pot_0 rfl (lv_at hl 0 rfl) ?_
  refine r_getI (g := 1104) (x := v_1) X hw ha_x rfl 4 ev_1 (by decide) rfl inn_X11_pot_11 (by decide) (X.2.2.2.1 (.fieldLink RX11 124 "SilkMill" "potsMade" "I") (by decide +kernel)) rfl (gv_1104 _ _) dX11_pot_1 ?_
  refine lv_iconst (v := 4) X.1 X.2.1 dX11_pot_4 (by decide) ?_
  refine lv_icmp_ge (tgt := 25) X.1 X.2.1 dX11_pot_5 (by decide) (fun c_9 => ?_) (fun c_9 => ?_)
  · have z_b_10 := trivial
    have k_11 : v_1.toInt ≥ 4 := z_le ti_4 rfl c_9
    refine lv_iconst (v := (-1)) X.1 X.2.1 dX11_pot_25 (by decide) ?_
    have pz_12 : (pI S 1104 x).toInt = v_1.toInt := (congrArg Int32.toInt ev_1).trans rfl
    exact ret_gi X hw hr hlocks (by show 0 ≤ Phc S + 14400; omega) (by show 0 ≤ Phs S + 46000; omega) (by omega) (by omega) ⟨hO, ⟨z_lo _, z_hi _, Or.inr ⟨by omega, by decide, by omega⟩, fun h => h, fun h => absurd h (by omega), fun _ => rfl⟩⟩ dX11_pot_26
  · have z_b_13 := trivial
    have k_14 : v_1.toInt < 4 := z_nle ti_4 rfl c_9
    refine lv_iload_n X.1 X.2.1 dX11_pot_8 rfl (lv_at hl 1 rfl) ?_
    refine k_i (rm := { frames := 2, cells := 0, slots := 0, locals := 96 }) (av := [.int (a1)]) X hw (va_runS (As := [.int (a1)]) (rest := []) (cfix X) (k_X11_isTarget l G cy κ S _ (a1) (a1_z) hO.1 hz_a1) (cwS 1 X.2.2.2.1 gX11_pot_X11_isTarget rfl rfl rfl (by decide +kernel) ⟨Nat.le_of_ble_eq_true rfl, Nat.le_of_ble_eq_true rfl⟩) (pre_S X hw _) rfl rfl hl.1 rfl (lv_room (Nat.le_of_ble_eq_true rfl)) dX11_pot_9 ⟨(by show 0 + 0 ≤ Phc S + 14400; omega), (by show 0 + 0 ≤ Phs S + 46000; omega)⟩) 0 0 (by show 0 + 0 ≤ 0; omega) (by show 0 + 0 ≤ 0; omega) (fun rr_15 S_16 H locs hp hw hfr hnw => ?_)
    obtain ⟨e2, hp⟩ := hp
    subst e2
    rcases hp with ⟨f_17, er_18⟩ | ⟨f_17, er_18⟩ <;> subst er_18
    · have z_b_19 := trivial
      refine lv_if_eq (tgt := 25) X.1 X.2.1 dX11_pot_12 (by decide) (fun c_20 => absurd c_20 (by decide)) (fun c_20 => ?_)
      refine lv_iload_n X.1 X.2.1 dX11_pot_15 rfl (lv_at hl 2 rfl) ?_
      refine lv_iconst (v := 1) X.1 X.2.1 dX11_pot_16 (by decide) ?_
      refine lv_bipush (v := 50) X.1 X.2.1 dX11_pot_17 (by decide) ?_
      refine k_i (rm := { frames := 1, cells := 0, slots := 0, locals := 48 }) (av := [.int (a2), .int 1, .int 50]) X hw (va_runS (As := [.int (a2), .int 1, .int 50]) (rest := []) (cfix X) (k_X11_isWithin l G cy κ S _ (a2) (a2_z) (1) (1) (50) (50) hO.1 hz_a2 ti_1 ti_50) (cwS 3 X.2.2.2.1 gX11_pot_X11_isWithin rfl rfl rfl (by decide +kernel) ⟨Nat.le_of_ble_eq_true rfl, Nat.le_of_ble_eq_true rfl⟩) (pre_S X hw _) rfl rfl hl.1 rfl (lv_room (Nat.le_of_ble_eq_true rfl)) dX11_pot_19 ⟨(by show 0 + 0 ≤ Phc S + 14400; omega), (by show 0 + 0 ≤ Phs S + 46000; omega)⟩) 0 0 (by show 0 + 0 ≤ 0; omega) (by show 0 + 0 ≤ 0; omega) (fun rr_21 S_22 H locs hp hw hfr hnw => ?_)
      obtain ⟨e2, hp⟩ := hp
      subst e2
      rcases hp with ⟨f_23, er_24⟩ | ⟨f_23, er_24⟩ <;> subst er_24
      · have z_b_25 := trivial
        refine lv_if_ne (tgt := 27) X.1 X.2.1 dX11_pot_22 (by decide) (fun c_26 => ?_) (fun c_26 => absurd c_26 (by decide))
        refine lv_aload_n X.1 X.2.1 dX11_pot_27 rfl (lv_at hl 0 rfl) ?_
        refine r_getR (g := 1103) X hw ha_x rfl 3 h_6 (by decide) rfl inn_X11_pot_11 (by decide) (X.2.2.2.1 (.fieldLink RX11 21 "SilkMill" "pots" "[LSilkMill$Pot;") (by decide +kernel)) rfl (gv_1103 _ _) dX11_pot_28 ?_
        refine lv_aload_n X.1 X.2.1 dX11_pot_31 rfl (lv_at hl 0 rfl) ?_
        refine r_getI (g := 1104) (x := v_1) X hw ha_x rfl 4 ev_1 (by decide) rfl inn_X11_pot_11 (by decide) (X.2.2.2.1 (.fieldLink RX11 124 "SilkMill" "potsMade" "I") (by decide +kernel)) rfl (gv_1104 _ _) dX11_pot_32 ?_
        have ph_28 : 1 + Phc S ≤ Phc S + 1 := by omega
        have ph_29 : 12 + Phs S ≤ Phs S + 12 := by omega
        clear hpc0
        clear hps0
        refine r_new X hw 184 4 12 1 rfl tyX4 (by decide) rfl inn_X11_pot_4 tyX4_ok (X.2.2.2.1 (.classLink RX11 19 RX4) (by decide +kernel)) (X.2.2.2.1 (.instantiable RX4 12) (by decide +kernel)) (X.2.2.2.1 (.initialized RX4) (by decide +kernel)) (zo_4 _) zd_4 (by show 0 + 1 ≤ 1; omega) (by show 0 + 12 ≤ 12; omega) (by show 1 ≤ Phc S + 14400; omega) (by show 12 ≤ Phs S + 46000; omega) dX11_pot_35 (fun q_27 H hq_27 hw => ?_)
        obtain ⟨S_30, eS_30⟩ : ∃ T, T = sO S q_27 184 := ⟨_, rfl⟩
        rw [← eS_30] at hw
        have ph_31 : 1 + Phc S_30 ≤ Phc S + 1 := by rw [show Phc S_30 = Phc S from Ph_sO hO.1 hq_27 eS_30 (by decide)]; exact ph_28
        have ph_32 : 12 + Phs S_30 ≤ Phs S + 12 := by rw [show Phs S_30 = Phs S from Ph_sO hO.1 hq_27 eS_30 (by decide)]; exact ph_29
        clear ph_28
        clear ph_29
        have hO_33 : Og ePT S S_30 := hO.sO hq_27 eS_30 (by decide +kernel)
        have hn0_q_27 : q_27 ∉ pL S := fun z => hq_27 (hO.fr.1 q_27 z).1
        have ha_34 : At S_30 q_27 184 := by rw [eS_30]; exact At_nO _ _ _
        have hzI_q_27 : ∀ g, pI S_30 g q_27 = 0 := fun g => by rw [eS_30]; exact pI_sO_new
        have hzR_q_27 : ∀ g, pR S_30 g q_27 = none := fun g => by rw [eS_30]; exact if_pos rfl
        refine lv_dup X.1 X.2.1 dX11_pot_38 rfl ?_
        refine lv_aload_n X.1 X.2.1 dX11_pot_39 rfl (lv_at hl 0 rfl) ?_
        have t_35 : At S_30 x 11 := by rw [eS_30]; exact At_sO ha_x hq_27
        have t_36 : pI S_30 1104 x = v_1 := by rw [eS_30]; exact (pI_sO_ne (ne_of_new hq_27 ha_x.1)).trans ev_1
        refine r_getI (g := 1104) (x := v_1) X hw t_35 rfl 4 t_36 (by decide) rfl inn_X11_pot_11 (by decide) (X.2.2.2.1 (.fieldLink RX11 124 "SilkMill" "potsMade" "I") (by decide +kernel)) rfl (gv_1104 _ _) dX11_pot_40 ?_
        refine lv_iload_n X.1 X.2.1 dX11_pot_43 rfl (lv_at hl 1 rfl) ?_
        refine lv_iload_n X.1 X.2.1 dX11_pot_44 rfl (lv_at hl 2 rfl) ?_
        have ph_37 : 21 + Phc S_30 ≤ Phc S + 21 := by omega
        have ph_38 : 2745 + Phs S_30 ≤ Phs S + 2745 := by omega
        clear ph_31
        clear ph_32
        refine k_v (rm := { frames := 3, cells := 20, slots := 2733, locals := 144 }) (av := [.ref q_27, .int (v_1), .int (a1), .int (a2)]) X hw (va_runI (As := [.int (v_1), .int (a1), .int (a2)]) (rest := [.ref q_27, .int (v_1), .ref q_5]) (cfix X) (k_X4_init3 l G cy κ S_30 _ q_27 (v_1) (v_1.toInt) (a1) (a1_z) (a2) (a2_z) hO_33.1 ha_34 rfl hz_a1 hz_a2 hzI_q_27 hzR_q_27) (cwI 3 X.2.2.2.1 gX11_pot_X4_init rfl rfl rfl (X.2.2.2.1 (.initialized RX4) (by decide +kernel)) (X.2.2.2.1 (.methodLink RX11 131 yX4_init) (by decide +kernel)) (X.2.2.2.1 (.instanceMethod yX4_init) (by decide +kernel)) rfl (by decide +kernel) ⟨Nat.le_of_ble_eq_true rfl, Nat.le_of_ble_eq_true rfl⟩) (pre_S X hw _) rfl rfl hl.1 rfl (lv_room (Nat.le_of_ble_eq_true rfl)) dX11_pot_45 ⟨(by show 1 + 20 ≤ Phc S + 14400; omega), (by show 12 + 2733 ≤ Phs S + 46000; omega)⟩) 21 2745 (by show 1 + 20 ≤ 21; omega) (by show 12 + 2733 ≤ 2745; omega) (fun S_40 H locs hp hw hfr hnw => ?_)
        obtain ⟨hK_41, hg_42, ha_43, ph_44, ph_45, kx_46, kx_47, kx_48⟩ := hp
        have ph_49 : 21 + Phc S_40 ≤ Phc S + 14293 := by omega
        have ph_50 : 2745 + Phs S_40 ≤ Phs S + 45689 := by omega
        clear ph_37
        clear ph_38
        clear ph_44
        clear ph_45
        have hO_51 : Og ePT S S_40 := Og_ctor2 hO_33 hn0_q_27 hK_41 hg_42
        have t_52 : At S_30 q_5 18 := by rw [eS_30]; exact At_sO h_7 hq_27
        have t_53 : At S_40 q_5 18 := hK_41.at ha_34 t_52 (by decide)
        have t_54 : pN S_30 q_5 = 4 := by rw [eS_30, pN_sO]; exact h_8
        clear h_8
        have t_56 : At S_30 q_5 18 := by rw [eS_30]; exact At_sO h_7 hq_27
        have t_55 : pN S_40 q_5 = 4 := ((hK_41 q_5 t_56.1).2 (At_ne t_56 ha_34 (by decide))).2.2.2.1.trans t_54
        clear t_54
        refine r_aast X hw t_53 rfl ha_43 rfl (by decide) (by decide) rfl rfl (by rw [t_55]; exact z_ix rfl (by omega) (by omega)) dX11_pot_48 (fun H locs hw => ?_)
        obtain ⟨S_57, eS_57⟩ : ∃ T, T = sB S_40 q_5 (va_up (pB S_40 q_5) (Int32.toNatClampNeg (v_1)) (some q_27)) := ⟨_, rfl⟩
        rw [← eS_57] at hw
        have ph_58 : 21 + Phc S_57 ≤ Phc S + 14293 := by rw [show Phc S_57 = Phc S_40 from Ph_sB eS_57]; exact ph_49
        have ph_59 : 2745 + Phs S_57 ≤ Phs S + 45689 := by rw [show Phs S_57 = Phs S_40 from Ph_sB eS_57]; exact ph_50
        clear ph_49
        clear ph_50
        have hO_60 : Og ePT S S_57 := hO_51.sB eS_57 t_53 (by decide +kernel) (uB_18 hO_51.1 t_53 (fun q hq => by cases hq; exact ha_43))
        refine lv_aload_n X.1 X.2.1 dX11_pot_49 rfl (lv_at hl 0 rfl) ?_
        refine lv_dup X.1 X.2.1 dX11_pot_50 rfl ?_
        have t_61 : At S_40 x 11 := hK_41.at ha_34 t_35 (by decide)
        have t_62 : At S_57 x 11 := tAt_sB eS_57 t_61
        have t_63 : pI S_40 1104 x = v_1 := (((hK_41 x t_35.1).2 (At_ne t_35 ha_34 (by decide))).2.1 1104).trans t_36
        have t_64 : pI S_57 1104 x = v_1 := tI_sB eS_57 t_63
        refine r_getI (g := 1104) (x := v_1) X hw t_62 rfl 4 t_64 (by decide) rfl inn_X11_pot_11 (by decide) (X.2.2.2.1 (.fieldLink RX11 124 "SilkMill" "potsMade" "I") (by decide +kernel)) rfl (gv_1104 _ _) dX11_pot_51 ?_
        refine lv_iconst (v := 1) X.1 X.2.1 dX11_pot_54 (by decide) ?_
        refine lv_iadd X.1 X.2.1 dX11_pot_55 ?_
        refine lv_topi (fun v_65 ev_65 => ?_)
        have z_66 : v_65.toInt = v_1.toInt + 1 := z_add ev_65 rfl ti_1 (by omega) (by omega)
        have pz_67 : (pI S_57 1104 x).toInt = v_1.toInt := (congrArg Int32.toInt t_64).trans rfl
        have nd_68 := nodup_of hw
        refine r_putI (v := v_65) X hw t_62 rfl 4 1104 tyX11 (by decide) rfl inn_X11_pot_11 tyX11_ok nmX11 (by decide) (X.2.2.2.1 (.fieldLink RX11 124 "SilkMill" "potsMade" "I") (by decide +kernel)) rfl (Or.inl rfl) rfl rfl (Nat.le_of_ble_eq_true rfl) (st_1104 _ _) dX11_pot_56 (fun H locs hw => ?_)
        obtain ⟨S_69, eS_69⟩ : ∃ T, T = sI S_57 1104 x (v_65) := ⟨_, rfl⟩
        rw [← eS_69] at hw
        have ph_70 : Phc S_69 + (4 - (pI S_57 1104 x).toInt.toNat) * 14400 = Phc S_57 + (4 - (v_65).toInt.toNat) * 14400 := Ph_1104 nd_68 t_62 eS_69
        have ph_71 : Phs S_69 + (4 - (pI S_57 1104 x).toInt.toNat) * 46000 = Phs S_57 + (4 - (v_65).toInt.toNat) * 46000 := Ph_1104 nd_68 t_62 eS_69
        have ph_72 : 21 + Phc S_69 ≤ Phc S + 0 := by omega
        have ph_73 : 2745 + Phs S_69 ≤ Phs S + 0 := by omega
        clear ph_58
        clear ph_59
        clear ph_70
        clear ph_71
        have hO_74 : Og ePT S S_69 := hO_60.sI eS_69 (by decide +kernel) (uI_11_1104 hO_60.1 t_62 (by omega) (by omega))
        have h_75 : pI S_69 1104 x = v_65 := tI_sIs eS_69
        refine lv_aload_n X.1 X.2.1 dX11_pot_59 rfl (lv_at hl 0 rfl) ?_
        have t_76 : At S_69 x 11 := tAt_sI eS_69 t_62
        refine r_getI (g := 1104) (x := v_65) X hw t_76 rfl 4 h_75 (by decide) rfl inn_X11_pot_11 (by decide) (X.2.2.2.1 (.fieldLink RX11 124 "SilkMill" "potsMade" "I") (by decide +kernel)) rfl (gv_1104 _ _) dX11_pot_60 ?_
        refine lv_iconst (v := 1) X.1 X.2.1 dX11_pot_63 (by decide) ?_
        refine lv_isub X.1 X.2.1 dX11_pot_64 ?_
        refine lv_topi (fun v_77 ev_77 => ?_)
        have z_78 : v_77.toInt = v_65.toInt - 1 := z_sub ev_77 rfl ti_1 (by omega) (by omega)
        have pz_79 : (pI S_69 1104 x).toInt = v_65.toInt := (congrArg Int32.toInt h_75).trans rfl
        have bb_80 : pB S_30 q_5 = pB S q_5 := by rw [eS_30]; rfl
        have bb_81 : pB S_40 q_5 = pB S q_5 := (show pB S_40 q_5 = pB S_30 q_5 from ((hK_41 q_5 t_56.1).2 (At_ne t_56 ha_34 (by decide))).2.2.2.2.2).trans bb_80
        have bb_82 : pB S_30 q_5 = pB S q_5 := by rw [eS_30]; rfl
        have bb_83 : pB S_40 q_5 = pB S q_5 := (show pB S_40 q_5 = pB S_30 q_5 from ((hK_41 q_5 t_56.1).2 (At_ne t_56 ha_34 (by decide))).2.2.2.2.2).trans bb_82
        have bb_84 : pB S_69 q_5 = pB S_57 q_5 := by rw [eS_69]; rfl
        have bb_85 : pB S_57 q_5 = va_up (pB S_40 q_5) (Int32.toNatClampNeg (v_1)) (some q_27) := by rw [eS_57]; exact if_pos rfl
        have zn_86 := z_nat (x := v_1) rfl (by omega)
        have t_87 : pR S_30 1103 x = some q_5 := by rw [eS_30]; exact (pR_sO_ne (ne_of_new hq_27 ha_x.1)).trans h_6
        have t_88 : pR S_40 1103 x = some q_5 := (((hK_41 x t_35.1).2 (At_ne t_35 ha_34 (by decide))).2.2.1 1103).trans t_87
        have t_89 : pR S_57 1103 x = some q_5 := tR_sB eS_57 t_88
        have t_90 : pR S_69 1103 x = some q_5 := tR_sI eS_69 t_89
        have fr_91 : Fr ePT S_40 S_69 := ePT_fr t_53 eS_57 eS_69
        have bb_92 : pB S_30 q_5 = pB S q_5 := by rw [eS_30]; rfl
        have bb_93 : pB S_40 q_5 = pB S q_5 := (show pB S_40 q_5 = pB S_30 q_5 from ((hK_41 q_5 t_56.1).2 (At_ne t_56 ha_34 (by decide))).2.2.2.2.2).trans bb_92
        have bb_94 : pB S_30 q_5 = pB S q_5 := by rw [eS_30]; rfl
        have bb_95 : pB S_40 q_5 = pB S q_5 := (show pB S_40 q_5 = pB S_30 q_5 from ((hK_41 q_5 t_56.1).2 (At_ne t_56 ha_34 (by decide))).2.2.2.2.2).trans bb_94
        have bb_96 : pB S_69 q_5 = pB S_57 q_5 := by rw [eS_69]; rfl
        have eb_97 : pB S_69 q_5 = va_up (pB S q_5) (Int32.toNatClampNeg (v_1)) (some q_27) := bb_96.trans (show pB S_57 q_5 = _ by rw [← bb_93, eS_57]; exact if_pos rfl)
        have zn_98 := z_nat (x := v_1) rfl (by omega)
        exact ret_gi X hw hr hlocks (by show 21 ≤ Phc S + 14400; omega) (by show 2745 ≤ Phs S + 46000; omega) (by omega) (by omega) ⟨hO_74, ⟨z_lo _, z_hi _, Or.inl ⟨by omega, by omega, by omega⟩, PN_put (n := (Int32.toNatClampNeg (v_1))) (b := q_27) h_6 t_90 (bb_84.trans (bb_85.trans (by rw [bb_81]))) (by omega) (by omega), fun _ => ⟨q_27, fun j => (by rw [mB_eq t_90, mB_eq h_6, eb_97, show (pI S 1104 x).toInt.toNat = (Int32.toNatClampNeg (v_1)) by omega]; rfl), fr_91.at ha_43, RowE_fr fr_91 ha_43 (by decide +kernel) (by decide +kernel) (by decide +kernel) kx_46, RowE_fr fr_91 ha_43 (by decide +kernel) (by decide +kernel) (by decide +kernel) kx_47, RowE_fr fr_91 ha_43 (by decide +kernel) (by decide +kernel) (by decide +kernel) kx_48⟩, fun h => absurd (by omega) h⟩⟩ dX11_pot_65
      · have z_b_99 := trivial
        refine lv_if_ne (tgt := 27) X.1 X.2.1 dX11_pot_22 (by decide) (fun c_100 => absurd c_100 (by decide)) (fun c_100 => ?_)
        refine lv_iconst (v := (-1)) X.1 X.2.1 dX11_pot_25 (by decide) ?_
        have pz_101 : (pI S 1104 x).toInt = v_1.toInt := (congrArg Int32.toInt ev_1).trans rfl
        exact ret_gi X hw hr hlocks (by show 0 ≤ Phc S + 14400; omega) (by show 0 ≤ Phs S + 46000; omega) (by omega) (by omega) ⟨hO, ⟨z_lo _, z_hi _, Or.inr ⟨by omega, by decide, by omega⟩, fun h => h, fun h => absurd h (by omega), fun _ => rfl⟩⟩ dX11_pot_26
    · have z_b_102 := trivial
      refine lv_if_eq (tgt := 25) X.1 X.2.1 dX11_pot_12 (by decide) (fun c_103 => ?_) (fun c_103 => absurd c_103 (by decide))
      refine lv_iconst (v := (-1)) X.1 X.2.1 dX11_pot_25 (by decide) ?_
      have pz_104 : (pI S 1104 x).toInt = v_1.toInt := (congrArg Int32.toInt ev_1).trans rfl
      exact ret_gi X hw hr hlocks (by show 0 ≤ Phc S + 14400; omega) (by show 0 ≤ Phs S + 46000; omega) (by omega) (by omega) ⟨hO, ⟨z_lo _, z_hi _, Or.inr ⟨by omega, by decide, by omega⟩, fun h => h, fun h => absurd h (by omega), fun _ => rfl⟩⟩ dX11_pot_26
