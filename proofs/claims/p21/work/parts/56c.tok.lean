
set_option maxHeartbeats 4000000 in
set_option maxRecDepth 100000 in
theorem k_J1_charAt2 (l : Launch) (G : va_G) (cy : Nat → ClassId) (κ : Nat → Nat) (S : PS) (sz : Nat) (i : Nat) (a1 : Int32) (a1_z : Int) (hG : GX S) (hi_i : i < 26) (hz_a1 : a1.toInt = a1_z) (hp_0 : 0 ≤ a1_z) (hp_1 : a1_z < (strN i : Int)) : Ci l yJ1_charAt_3b067 wsJ1_charAt_3b067 ({ frames := 3, cells := 0, slots := 0, locals := 144 }) G cy κ S sz [.ref (κ (200 + i)), .int (a1)] (fun (r : Int32) (S9 : PS) => S = S9 ∧ (0 ≤ r.toInt ∧ r.toInt ≤ 65535 ∧ r.toInt = (strB i a1_z.toNat).toInt)) := by
  refine ent_m (cc := cJ1_charAt_3b067) (maxL := 2) (ret := (some .char)) (by decide) rfl (Nat.le_of_ble_eq_true rfl) ?_
  intro p e s m below meth c ls X hr hlocks hin hw hl hsz
  subst hsz
  have X : Cx p c cJ1_charAt_3b067 2 s [.ref (κ (200 + i)), .int (a1)].toArray wsJ1_charAt_3b067 RJ1 m G cy κ (AS S s.heap.size) := X
  have hl : lv_has ls 2 [(0, .ref (κ (200 + i))), (1, .int (a1))] := hl
  have rg_a1 : (-2147483648) ≤ a1_z ∧ a1_z ≤ 2147483647 := by rw [← hz_a1]; exact ⟨z_lo _, z_hi _⟩
  refine lv_iload_n X.1 X.2.1 dJ1_charAt_3b067_0 rfl (lv_at hl 1 rfl) ?_
  refine lv_aload_n X.1 X.2.1 dJ1_charAt_3b067_1 rfl (lv_at hl 0 rfl) ?_
  refine va_tlen (v := nI (strN i)) X.1 X.2.1 (X.2.2.2.2.2.2.2.2.2.2.2.2.2.2 i hi_i).2.2.2.2 hw.2.2 rfl dJ1_charAt_3b067_2 ?_
  refine lv_topi (fun v_1 ev_1 => ?_)
  have z_2 : v_1.toInt = (strN i : Int) := z_len ev_1 (by have := strN_le i; omega)
  have z_3 := strN_le i
  refine k_v (rm := { frames := 2, cells := 0, slots := 0, locals := 96 }) (av := [.int (a1), .int (v_1)]) X hw (va_runS (As := [.int (a1), .int (v_1)]) (rest := []) (cfix X) (k_J0_checkIndex_df160 l G cy κ S _ (a1) (a1_z) (v_1) (v_1.toInt) hG hz_a1 rfl (by omega) (by omega)) (va_cwS 2 X.2.2.2.1 gJ1_charAt_3b067_J0_checkIndex_df160 rfl rfl rfl (by decide +kernel) ⟨Nat.le_of_ble_eq_true rfl, Nat.le_of_ble_eq_true rfl⟩) (pre_S X hw _) rfl rfl hl.1 rfl (lv_room (Nat.le_of_ble_eq_true rfl)) dJ1_charAt_3b067_3 ⟨Nat.le_of_ble_eq_true rfl, Nat.le_of_ble_eq_true rfl⟩) 0 0 (Nat.le_of_ble_eq_true rfl) (Nat.le_of_ble_eq_true rfl) (fun S_5 H locs hp hw hfr hnw => ?_)
  obtain ⟨e2, hp⟩ := hp
  subst e2
  refine lv_aload_n X.1 X.2.1 dJ1_charAt_3b067_6 rfl (lv_at hl 0 rfl) ?_
  refine lv_iload_n X.1 X.2.1 dJ1_charAt_3b067_7 rfl (lv_at hl 1 rfl) ?_
  refine va_tb X.1 X.2.1 (X.2.2.2.2.2.2.2.2.2.2.2.2.2.2 i hi_i).2.2.2.2 hw.2.2 (v := .int (strB i (Int32.toNatClampNeg (a1)))) (z_ix hz_a1 (by omega) (by omega)) rfl dJ1_charAt_3b067_8 ?_
  refine lv_topi (fun v_6 ev_6 => ?_)
  have rg_7 := And.intro (z_lo v_6) (z_hi v_6)
  refine lv_sipush (v := 255) X.1 X.2.1 dJ1_charAt_3b067_9 (by decide) ?_
  have sb_8 := strB_rng i (Int32.toNatClampNeg (a1)); rw [← ev_6] at sb_8
  refine lv_iand X.1 X.2.1 dJ1_charAt_3b067_12 ?_
  refine lv_topi (fun v_9 ev_9 => ?_)
  have rg_10 := And.intro (z_lo v_9) (z_hi v_9)
  have sc_11 := z_and255e ev_9
  refine lv_i2c X.1 X.2.1 dJ1_charAt_3b067_13 rfl ?_
  refine lv_topi (fun v_12 ev_12 => ?_)
  have rg_13 := And.intro (z_lo v_12) (z_hi v_12)
  have z_14 : 0 ≤ v_12.toInt ∧ v_12.toInt ≤ 65535 := z_i2c ev_12
  have sd_15 := z_i2ce ev_12 (by omega) (by omega)
  exact ret_n X hw hr hlocks (Nat.le_of_ble_eq_true rfl) (Nat.le_of_ble_eq_true rfl) (nar_char (by omega) (by omega)) ⟨rfl, ⟨by omega, by omega, by rw [show a1_z.toNat = Int32.toNatClampNeg (a1) from (z_nc hz_a1 (by omega)).symm, ← ev_6]; omega⟩⟩ dJ1_charAt_3b067_14
set_option maxHeartbeats 4000000 in
set_option maxRecDepth 100000 in
theorem k_J0_charAt2 (l : Launch) (G : va_G) (cy : Nat → ClassId) (κ : Nat → Nat) (S : PS) (sz : Nat) (i : Nat) (a1 : Int32) (a1_z : Int) (hG : GX S) (hi_i : i < 26) (hz_a1 : a1.toInt = a1_z) (hp_0 : 0 ≤ a1_z) (hp_1 : a1_z < (strN i : Int)) : Ci l yJ0_charAt_5068e wsJ0_charAt_5068e ({ frames := 4, cells := 0, slots := 0, locals := 192 }) G cy κ S sz [.ref (κ (100 + i)), .int (a1)] (fun (r : Int32) (S9 : PS) => S = S9 ∧ (0 ≤ r.toInt ∧ r.toInt ≤ 65535 ∧ r.toInt = (strB i a1_z.toNat).toInt)) := by
  refine ent_m (cc := cJ0_charAt_5068e) (maxL := 2) (ret := (some .char)) (by decide) rfl (Nat.le_of_ble_eq_true rfl) ?_
  intro p e s m below meth c ls X hr hlocks hin hw hl hsz
  subst hsz
  have X : Cx p c cJ0_charAt_5068e 2 s [.ref (κ (100 + i)), .int (a1)].toArray wsJ0_charAt_5068e RJ0 m G cy κ (AS S s.heap.size) := X
  have hl : lv_has ls 2 [(0, .ref (κ (100 + i))), (1, .int (a1))] := hl
  have rg_a1 : (-2147483648) ≤ a1_z ∧ a1_z ≤ 2147483647 := by rw [← hz_a1]; exact ⟨z_lo _, z_hi _⟩
  refine lv_aload_n X.1 X.2.1 dJ0_charAt_5068e_0 rfl (lv_at hl 0 rfl) ?_
  refine k_i (rm := { frames := 1, cells := 0, slots := 0, locals := 48 }) (av := [.ref (κ (100 + i))]) X hw (va_runV (As := []) (rest := []) (cfix X) (k_J0_isLatin1_aae02 l G cy κ S _ i hG hi_i) (cwV 0 X.2.2.2.1 gJ0_charAt_5068e_J0_isLatin1_aae02 rfl rfl rfl (by decide +kernel) ⟨Nat.le_of_ble_eq_true rfl, Nat.le_of_ble_eq_true rfl⟩) (pre_VS X hw _ i hi_i) rfl rfl hl.1 rfl (lv_room (Nat.le_of_ble_eq_true rfl)) dJ0_charAt_5068e_1 ⟨Nat.le_of_ble_eq_true rfl, Nat.le_of_ble_eq_true rfl⟩) 0 0 (Nat.le_of_ble_eq_true rfl) (Nat.le_of_ble_eq_true rfl) (fun rr_1 S_2 H locs hp hw hfr hnw => ?_)
  obtain ⟨e2, hp⟩ := hp
  subst e2
  subst hp
  refine lv_if_eq (tgt := 16) X.1 X.2.1 dJ0_charAt_5068e_4 (by decide) (fun c_3 => absurd c_3 (by decide)) (fun c_3 => ?_)
  refine lv_aload_n X.1 X.2.1 dJ0_charAt_5068e_7 rfl (lv_at hl 0 rfl) ?_
  refine vk_getf X.1 X.2.1 (X.2.2.2.2.2.2.2.2.2.2.2.2.2.2 i hi_i).2.2.2.1 hw.2.2 X.2.2.2.2.1 (X.2.2.2.1 (.fieldLink RJ0 9 "java/lang/String" "value" "[B") (by decide +kernel)) (fun x h => h) dJ0_charAt_5068e_8 ?_
  refine lv_iload_n X.1 X.2.1 dJ0_charAt_5068e_11 rfl (lv_at hl 1 rfl) ?_
  refine k_i (rm := { frames := 3, cells := 0, slots := 0, locals := 144 }) (av := [.ref (κ (200 + i)), .int (a1)]) X hw (va_runS (As := [.ref (κ (200 + i)), .int (a1)]) (rest := []) (cfix X) (k_J1_charAt2 l G cy κ S _ i (a1) (a1_z) hG hi_i hz_a1 (by omega) (by omega)) (va_cwS 2 X.2.2.2.1 gJ0_charAt_5068e_J1_charAt_3b067 rfl rfl rfl (by decide +kernel) ⟨Nat.le_of_ble_eq_true rfl, Nat.le_of_ble_eq_true rfl⟩) (pre_S X hw _) rfl rfl hl.1 rfl (lv_room (Nat.le_of_ble_eq_true rfl)) dJ0_charAt_5068e_12 ⟨Nat.le_of_ble_eq_true rfl, Nat.le_of_ble_eq_true rfl⟩) 0 0 (Nat.le_of_ble_eq_true rfl) (Nat.le_of_ble_eq_true rfl) (fun rr_4 S_5 H locs hp hw hfr hnw => ?_)
  obtain ⟨e2, hp⟩ := hp
  subst e2
  obtain ⟨f_6, f_7, f_8⟩ := hp
  exact ret_n X hw hr hlocks (Nat.le_of_ble_eq_true rfl) (Nat.le_of_ble_eq_true rfl) (nar_char (by omega) (by omega)) ⟨rfl, ⟨by omega, by omega, by omega⟩⟩ dJ0_charAt_5068e_15
set_option maxHeartbeats 4000000 in
set_option maxRecDepth 100000 in
theorem k_X10_isSign2 (l : Launch) (G : va_G) (cy : Nat → ClassId) (κ : Nat → Nat) (S : PS) (sz : Nat) (x : Nat) (a1 : Int32) (a1_z : Int) (t0 : Tk) (hG : GX S) (ha_x : At S x 10) (hz_a1 : a1.toInt = a1_z) (hp_0 : TokAt S x t0) : Ci l yX10_isSign wsX10_isSign ({ frames := 2, cells := 0, slots := 0, locals := 96 }) G cy κ S sz [.ref x, .int (a1)] (fun (r : Int32) (S9 : PS) => S = S9 ∧ (((sgT (tB S x) t0 a1_z) ∧ r = 1) ∨ ((¬ sgT (tB S x) t0 a1_z) ∧ r = 0))) := by
  refine ent_m (cc := cX10_isSign) (maxL := 2) (ret := (some .boolean)) (by decide) rfl (Nat.le_of_ble_eq_true rfl) ?_
  intro p e s m below meth c ls X hr hlocks hin hw hl hsz
  subst hsz
  have X : Cx p c cX10_isSign 2 s [.ref x, .int (a1)].toArray wsX10_isSign RX10 m G cy κ (AS S s.heap.size) := X
  have hl : lv_has ls 2 [(0, .ref x), (1, .int (a1))] := hl
  have rg_a1 : (-2147483648) ≤ a1_z ∧ a1_z ≤ 2147483647 := by rw [← hz_a1]; exact ⟨z_lo _, z_hi _⟩
  have htk := hp_0
  have htk4 := htk.1
  have htk5 := htk.2.1
  have htk6 := htk.2.2
  obtain ⟨v_1, ev_1⟩ : ∃ v, pI S 1004 x = v := ⟨_, rfl⟩
  have rg_3 := And.intro (z_lo v_1) (z_hi v_1)
  have pz_4 : (pI S 1004 x).toInt = v_1.toInt := by rw [ev_1]
  have pz_5 : (pI S 1004 x).toInt = v_1.toInt := (congrArg Int32.toInt ev_1).trans rfl
  obtain ⟨v_6, ev_6⟩ : ∃ v, pI S 1005 x = v := ⟨_, rfl⟩
  have rg_8 := And.intro (z_lo v_6) (z_hi v_6)
  have pz_9 : (pI S 1005 x).toInt = v_6.toInt := by rw [ev_6]
  have pz_10 : (pI S 1005 x).toInt = v_6.toInt := (congrArg Int32.toInt ev_6).trans rfl
  obtain ⟨v_11, ev_11⟩ : ∃ v, pI S 1006 x = v := ⟨_, rfl⟩
  have rg_13 := And.intro (z_lo v_11) (z_hi v_11)
  have pz_14 : (pI S 1006 x).toInt = v_11.toInt := by rw [ev_11]
  have pz_15 : (pI S 1006 x).toInt = v_11.toInt := (congrArg Int32.toInt ev_11).trans rfl
  refine lv_aload_n X.1 X.2.1 dX10_isSign_0 rfl (lv_at hl 0 rfl) ?_
  refine r_getI (g := 1004) (x := v_1) X hw ha_x rfl 4 ev_1 (by decide) rfl inn_X10_isSign_10 (by decide) (X.2.2.2.1 (.fieldLink RX10 37 "SilkMill$Tape" "token" "I") (by decide +kernel)) rfl (gv_1004 _ _) dX10_isSign_1 ?_
  refine lv_iconst (v := 3) X.1 X.2.1 dX10_isSign_4 (by decide) ?_
  refine lv_icmp_ne (tgt := 24) X.1 X.2.1 dX10_isSign_5 (by decide) (fun c_16 => ?_) (fun c_16 => ?_)
  · have z_b_17 := trivial
    have k_18 : v_1.toInt ≠ 3 := z_ne rfl ti_3 c_16
    refine lv_iconst (v := 0) X.1 X.2.1 dX10_isSign_24 (by decide) ?_
    exact ret_z X hw hr hlocks (Nat.le_of_ble_eq_true rfl) (Nat.le_of_ble_eq_true rfl) (by decide) ⟨rfl, Or.inr ⟨fun h => by have h2 := h.1; omega, rfl⟩⟩ dX10_isSign_25
  · have z_b_19 := trivial
    have k_20 : v_1.toInt = 3 := z_eq rfl ti_3 c_16
    refine lv_aload_n X.1 X.2.1 dX10_isSign_8 rfl (lv_at hl 0 rfl) ?_
    refine lv_aload_n X.1 X.2.1 dX10_isSign_9 rfl (lv_at hl 0 rfl) ?_
    refine r_getI (g := 1005) (x := v_6) X hw ha_x rfl 5 ev_6 (by decide) rfl inn_X10_isSign_10 (by decide) (X.2.2.2.1 (.fieldLink RX10 79 "SilkMill$Tape" "start" "I") (by decide +kernel)) rfl (gv_1005 _ _) dX10_isSign_10 ?_
    refine k_i (rm := { frames := 1, cells := 0, slots := 0, locals := 48 }) (av := [.ref x, .int (v_6)]) X hw (va_runV (As := [.int (v_6)]) (rest := []) (cfix X) (k_X10_byteAt2 l G cy κ S _ x (v_6) (v_6.toInt) hG ha_x rfl) (cwV 1 X.2.2.2.1 gX10_isSign_X10_byteAt rfl rfl rfl (by decide +kernel) ⟨Nat.le_of_ble_eq_true rfl, Nat.le_of_ble_eq_true rfl⟩) (pre_V X hw _ ha_x rfl (by decide) rfl) rfl rfl hl.1 rfl (lv_room (Nat.le_of_ble_eq_true rfl)) dX10_isSign_13 ⟨Nat.le_of_ble_eq_true rfl, Nat.le_of_ble_eq_true rfl⟩) 0 0 (Nat.le_of_ble_eq_true rfl) (Nat.le_of_ble_eq_true rfl) (fun rr_21 S_22 H locs hp hw hfr hnw => ?_)
    obtain ⟨e2, hp⟩ := hp
    subst e2
    have rg_24 := And.intro (z_lo rr_21) (z_hi rr_21)
    have by_23 := hp (by omega)
    refine lv_iload_n X.1 X.2.1 dX10_isSign_16 rfl (lv_at hl 1 rfl) ?_
    refine lv_icmp_ne (tgt := 24) X.1 X.2.1 dX10_isSign_17 (by decide) (fun c_25 => ?_) (fun c_25 => ?_)
    · have z_b_26 := trivial
      have k_27 : rr_21.toInt ≠ a1_z := z_ne rfl hz_a1 c_25
      refine lv_iconst (v := 0) X.1 X.2.1 dX10_isSign_24 (by decide) ?_
      exact ret_z X hw hr hlocks (Nat.le_of_ble_eq_true rfl) (Nat.le_of_ble_eq_true rfl) (by decide) ⟨rfl, Or.inr ⟨fun h => by have h2 := h.2; rw [show t0.2.1 = (v_6.toInt).toNat by omega, ← by_23] at h2; omega, rfl⟩⟩ dX10_isSign_25
    · have z_b_28 := trivial
      have k_29 : rr_21.toInt = a1_z := z_eq rfl hz_a1 c_25
      refine lv_iconst (v := 1) X.1 X.2.1 dX10_isSign_20 (by decide) ?_
      refine lv_goto (tgt := 25) X.1 X.2.1 dX10_isSign_21 (by decide) ?_
      exact ret_z X hw hr hlocks (Nat.le_of_ble_eq_true rfl) (Nat.le_of_ble_eq_true rfl) (by decide) ⟨rfl, Or.inl ⟨And.intro (by omega) (by rw [show t0.2.1 = (v_6.toInt).toNat by omega, ← by_23]; omega), rfl⟩⟩ dX10_isSign_25
set_option maxHeartbeats 4000000 in
set_option maxRecDepth 100000 in
theorem k_X10_isWord2 (l : Launch) (G : va_G) (cy : Nat → ClassId) (κ : Nat → Nat) (S : PS) (sz : Nat) (x : Nat) (i : Nat) (t0 : Tk) (hG : GX S) (ha_x : At S x 10) (hi_i : i < 26) (hp_0 : TokAt S x t0) (hp_1 : t0.2.1 ≤ t0.2.2) (hp_2 : t0.2.2 ≤ 400) : Ci l yX10_isWord wsX10_isWord ({ frames := 5, cells := 0, slots := 0, locals := 240 }) G cy κ S sz [.ref x, .ref (κ (100 + i))] (fun (r : Int32) (S9 : PS) => S = S9 ∧ (((isT1 (tB S x) t0 i) ∧ r = 1) ∨ ((¬ isT1 (tB S x) t0 i) ∧ r = 0))) := by
  refine ent_m (cc := cX10_isWord) (maxL := 3) (ret := (some .boolean)) (by decide) rfl (Nat.le_of_ble_eq_true rfl) ?_
  intro p e s m below meth c ls X hr hlocks hin hw hl hsz
  subst hsz
  have X : Cx p c cX10_isWord 3 s [.ref x, .ref (κ (100 + i))].toArray wsX10_isWord RX10 m G cy κ (AS S s.heap.size) := X
  have hl : lv_has ls 3 [(0, .ref x), (1, .ref (κ (100 + i)))] := hl
  generalize hQQ : MQ below _ _ _ _ _ _ = QQ
  replace hQQ := hQQ.symm
  have htk := hp_0
  have htk4 := htk.1
  have htk5 := htk.2.1
  have htk6 := htk.2.2
  obtain ⟨v_1, ev_1⟩ : ∃ v, pI S 1004 x = v := ⟨_, rfl⟩
  have rg_3 := And.intro (z_lo v_1) (z_hi v_1)
  have pz_4 : (pI S 1004 x).toInt = v_1.toInt := by rw [ev_1]
  have pz_5 : (pI S 1004 x).toInt = v_1.toInt := (congrArg Int32.toInt ev_1).trans rfl
  obtain ⟨v_6, ev_6⟩ : ∃ v, pI S 1005 x = v := ⟨_, rfl⟩
  have rg_8 := And.intro (z_lo v_6) (z_hi v_6)
  have pz_9 : (pI S 1005 x).toInt = v_6.toInt := by rw [ev_6]
  have pz_10 : (pI S 1005 x).toInt = v_6.toInt := (congrArg Int32.toInt ev_6).trans rfl
  obtain ⟨v_11, ev_11⟩ : ∃ v, pI S 1006 x = v := ⟨_, rfl⟩
  have rg_13 := And.intro (z_lo v_11) (z_hi v_11)
  have pz_14 : (pI S 1006 x).toInt = v_11.toInt := by rw [ev_11]
  have pz_15 : (pI S 1006 x).toInt = v_11.toInt := (congrArg Int32.toInt ev_11).trans rfl
  refine lv_aload_n X.1 X.2.1 dX10_isWord_0 rfl (lv_at hl 0 rfl) ?_
  refine r_getI (g := 1004) (x := v_1) X hw ha_x rfl 4 ev_1 (by decide) rfl inn_X10_isWord_10 (by decide) (X.2.2.2.1 (.fieldLink RX10 37 "SilkMill$Tape" "token" "I") (by decide +kernel)) rfl (gv_1004 _ _) dX10_isWord_1 ?_
  refine lv_iconst (v := 1) X.1 X.2.1 dX10_isWord_4 (by decide) ?_
  refine lv_icmp_ne (tgt := 24) X.1 X.2.1 dX10_isWord_5 (by decide) (fun c_16 => ?_) (fun c_16 => ?_)
  · have z_b_17 := trivial
    have k_18 : v_1.toInt ≠ 1 := z_ne rfl ti_1 c_16
    refine lv_iconst (v := 0) X.1 X.2.1 dX10_isWord_24 (by decide) ?_
    rw [hQQ]
    exact ret_z X hw hr hlocks (Nat.le_of_ble_eq_true rfl) (Nat.le_of_ble_eq_true rfl) (by decide) ⟨rfl, Or.inr ⟨fun h => by have h1 := h.1; have h2 := h.2.1; omega, rfl⟩⟩ dX10_isWord_25
  · have z_b_19 := trivial
    have k_20 : v_1.toInt = 1 := z_eq rfl ti_1 c_16
    refine lv_aload_n X.1 X.2.1 dX10_isWord_8 rfl (lv_at hl 0 rfl) ?_
    refine r_getI (g := 1006) (x := v_11) X hw ha_x rfl 6 ev_11 (by decide) rfl inn_X10_isWord_10 (by decide) (X.2.2.2.1 (.fieldLink RX10 31 "SilkMill$Tape" "behind" "I") (by decide +kernel)) rfl (gv_1006 _ _) dX10_isWord_9 ?_
    refine lv_aload_n X.1 X.2.1 dX10_isWord_12 rfl (lv_at hl 0 rfl) ?_
    refine r_getI (g := 1005) (x := v_6) X hw ha_x rfl 5 ev_6 (by decide) rfl inn_X10_isWord_10 (by decide) (X.2.2.2.1 (.fieldLink RX10 79 "SilkMill$Tape" "start" "I") (by decide +kernel)) rfl (gv_1005 _ _) dX10_isWord_13 ?_
    refine lv_isub X.1 X.2.1 dX10_isWord_16 ?_
    refine lv_topi (fun v_21 ev_21 => ?_)
    have z_22 : v_21.toInt = v_11.toInt - v_6.toInt := z_sub ev_21 rfl rfl (by omega) (by omega)
    refine lv_aload_n X.1 X.2.1 dX10_isWord_17 rfl (lv_at hl 1 rfl) ?_
    refine k_i (rm := { frames := 2, cells := 0, slots := 0, locals := 96 }) (av := [.ref (κ (100 + i))]) X hw (va_runV (As := []) (rest := [.int (v_21)]) (cfix X) (k_J0_length_8abf5 l G cy κ S _ i hG hi_i) (cwV 0 X.2.2.2.1 gX10_isWord_J0_length_8abf5 rfl rfl rfl (by decide +kernel) ⟨Nat.le_of_ble_eq_true rfl, Nat.le_of_ble_eq_true rfl⟩) (pre_VS X hw _ i hi_i) rfl rfl hl.1 rfl (lv_room (Nat.le_of_ble_eq_true rfl)) dX10_isWord_18 ⟨Nat.le_of_ble_eq_true rfl, Nat.le_of_ble_eq_true rfl⟩) 0 0 (Nat.le_of_ble_eq_true rfl) (Nat.le_of_ble_eq_true rfl) (fun rr_23 S_24 H locs hp hw hfr hnw => ?_)
    obtain ⟨e2, hp⟩ := hp
    subst e2
    obtain ⟨f_25, f_26⟩ := hp
    refine lv_icmp_eq (tgt := 26) X.1 X.2.1 dX10_isWord_21 (by decide) (fun c_27 => ?_) (fun c_27 => ?_)
    · have z_b_28 := trivial
      have k_29 : v_21.toInt = rr_23.toInt := z_eq rfl rfl c_27
      refine lv_iconst (v := 0) X.1 X.2.1 dX10_isWord_26 (by decide) ?_
      refine lv_istore_n (lv' := [(2, .int 0), (0, .ref x), (1, .ref (κ (100 + i)))]) X.1 X.2.1 dX10_isWord_27 rfl hl (by decide) rfl (fun ls hl => ?_)
      have L_30 : ∀ (n : Nat) (H : Heap) (locs : List Loc) (ls : Array Slot) (i2_31 : Int32) (i2_31_z : Int), ((64 - i2_31_z).toNat = n) → (Wd G cy (AS S s.heap.size) s.heap S H locs) → (i2_31.toInt = i2_31_z) → (0 ≤ i2_31_z ∧ i2_31_z ≤ 64) → ((∀ j : Nat, (j : Int) < i2_31_z → tB S x (t0.2.1 + j) = (strB i j).toInt)) → (lv_has ls 3 [(2, .int (i2_31)), (0, .ref x), (1, .ref (κ (100 + i)))]) → W p l e ({ frames := 5, cells := 0, slots := 0, locals := 240 }) s m [.ref x, .ref (κ (100 + i))].toArray below meth c H locs 0 0 QQ (F0 m 28 ls []) := by
        intro n
        induction n using Nat.strongRecOn with
        | ind n ih =>
        intro H locs ls i2_31 i2_31_z hn hw hz_i2_31 hr_i2_31 iv_32 hl
        have rg_33 : (-2147483648) ≤ i2_31_z ∧ i2_31_z ≤ 2147483647 := by rw [← hz_i2_31]; exact ⟨z_lo _, z_hi _⟩
        refine lv_iload_n X.1 X.2.1 dX10_isWord_28 rfl (lv_at hl 0 rfl) ?_
        refine lv_aload_n X.1 X.2.1 dX10_isWord_29 rfl (lv_at hl 2 rfl) ?_
        refine k_i (rm := { frames := 2, cells := 0, slots := 0, locals := 96 }) (av := [.ref (κ (100 + i))]) X hw (va_runV (As := []) (rest := [.int (i2_31)]) (cfix X) (k_J0_length_8abf5 l G cy κ S _ i hG hi_i) (cwV 0 X.2.2.2.1 gX10_isWord_J0_length_8abf5 rfl rfl rfl (by decide +kernel) ⟨Nat.le_of_ble_eq_true rfl, Nat.le_of_ble_eq_true rfl⟩) (pre_VS X hw _ i hi_i) rfl rfl hl.1 rfl (lv_room (Nat.le_of_ble_eq_true rfl)) dX10_isWord_30 ⟨Nat.le_of_ble_eq_true rfl, Nat.le_of_ble_eq_true rfl⟩) 0 0 (Nat.le_of_ble_eq_true rfl) (Nat.le_of_ble_eq_true rfl) (fun rr_34 S_35 H locs hp hw hfr hnw => ?_)
        obtain ⟨e2, hp⟩ := hp
        subst e2
        obtain ⟨f_36, f_37⟩ := hp
        refine lv_icmp_ge (tgt := 62) X.1 X.2.1 dX10_isWord_33 (by decide) (fun c_38 => ?_) (fun c_38 => ?_)
        · have z_b_39 := trivial
          have k_40 : i2_31_z ≥ rr_34.toInt := z_le rfl hz_i2_31 c_38
          refine lv_iconst (v := 1) X.1 X.2.1 dX10_isWord_62 (by decide) ?_
          rw [hQQ]
          exact ret_z X hw hr hlocks (Nat.le_of_ble_eq_true rfl) (Nat.le_of_ble_eq_true rfl) (by decide) ⟨rfl, Or.inl ⟨⟨by omega, by omega, fun j hj => iv_32 j (by omega)⟩, rfl⟩⟩ dX10_isWord_63
        · have z_b_41 := trivial
          have k_42 : i2_31_z < rr_34.toInt := z_nle rfl hz_i2_31 c_38
          refine lv_aload_n X.1 X.2.1 dX10_isWord_36 rfl (lv_at hl 1 rfl) ?_
          refine lv_aload_n X.1 X.2.1 dX10_isWord_37 rfl (lv_at hl 1 rfl) ?_
          refine r_getI (g := 1005) (x := v_6) X hw ha_x rfl 5 ev_6 (by decide) rfl inn_X10_isWord_10 (by decide) (X.2.2.2.1 (.fieldLink RX10 79 "SilkMill$Tape" "start" "I") (by decide +kernel)) rfl (gv_1005 _ _) dX10_isWord_38 ?_
          refine lv_iload_n X.1 X.2.1 dX10_isWord_41 rfl (lv_at hl 0 rfl) ?_
          refine lv_iadd X.1 X.2.1 dX10_isWord_42 ?_
          refine lv_topi (fun v_43 ev_43 => ?_)
          have z_44 : v_43.toInt = v_6.toInt + i2_31_z := z_add ev_43 rfl hz_i2_31 (by omega) (by omega)
          refine k_i (rm := { frames := 1, cells := 0, slots := 0, locals := 48 }) (av := [.ref x, .int (v_43)]) X hw (va_runV (As := [.int (v_43)]) (rest := []) (cfix X) (k_X10_byteAt2 l G cy κ S _ x (v_43) (v_43.toInt) hG ha_x rfl) (cwV 1 X.2.2.2.1 gX10_isWord_X10_byteAt rfl rfl rfl (by decide +kernel) ⟨Nat.le_of_ble_eq_true rfl, Nat.le_of_ble_eq_true rfl⟩) (pre_V X hw _ ha_x rfl (by decide) rfl) rfl rfl hl.1 rfl (lv_room (Nat.le_of_ble_eq_true rfl)) dX10_isWord_43 ⟨Nat.le_of_ble_eq_true rfl, Nat.le_of_ble_eq_true rfl⟩) 0 0 (Nat.le_of_ble_eq_true rfl) (Nat.le_of_ble_eq_true rfl) (fun rr_45 S_46 H locs hp hw hfr hnw => ?_)
          obtain ⟨e2, hp⟩ := hp
          subst e2
          have rg_48 := And.intro (z_lo rr_45) (z_hi rr_45)
          have by_47 := hp (by omega)
          refine lv_aload_n X.1 X.2.1 dX10_isWord_46 rfl (lv_at hl 2 rfl) ?_
          refine lv_iload_n X.1 X.2.1 dX10_isWord_47 rfl (lv_at hl 0 rfl) ?_
          refine k_i (rm := { frames := 4, cells := 0, slots := 0, locals := 192 }) (av := [.ref (κ (100 + i)), .int (i2_31)]) X hw (va_runV (As := [.int (i2_31)]) (rest := [.int (rr_45)]) (cfix X) (k_J0_charAt2 l G cy κ S _ i (i2_31) (i2_31_z) hG hi_i hz_i2_31 (by omega) (by omega)) (cwV 1 X.2.2.2.1 gX10_isWord_J0_charAt_5068e rfl rfl rfl (by decide +kernel) ⟨Nat.le_of_ble_eq_true rfl, Nat.le_of_ble_eq_true rfl⟩) (pre_VS X hw _ i hi_i) rfl rfl hl.1 rfl (lv_room (Nat.le_of_ble_eq_true rfl)) dX10_isWord_48 ⟨Nat.le_of_ble_eq_true rfl, Nat.le_of_ble_eq_true rfl⟩) 0 0 (Nat.le_of_ble_eq_true rfl) (Nat.le_of_ble_eq_true rfl) (fun rr_49 S_50 H locs hp hw hfr hnw => ?_)
          obtain ⟨e2, hp⟩ := hp
          subst e2
          obtain ⟨f_51, f_52, f_53⟩ := hp
          refine lv_icmp_eq (tgt := 56) X.1 X.2.1 dX10_isWord_51 (by decide) (fun c_54 => ?_) (fun c_54 => ?_)
          · have z_b_55 := trivial
            have k_56 : rr_45.toInt = rr_49.toInt := z_eq rfl rfl c_54
            obtain ⟨x_57, ex_57⟩ : ∃ y : Int32, y = i2_31 + 1 := ⟨_, rfl⟩
            have z_58 : x_57.toInt = i2_31_z + 1 := z_add ex_57 hz_i2_31 ti_1 (by omega) (by omega)
            refine lv_iinc (v := x_57) (lv' := [(2, .int (x_57)), (0, .ref x), (1, .ref (κ (100 + i)))]) X.1 X.2.1 dX10_isWord_56 hl (k := 0) rfl (by rw [ex_57]; rfl) (by decide) rfl (fun ls hl => ?_)
            refine lv_goto (tgt := 28) X.1 X.2.1 dX10_isWord_59 (by decide) ?_
            exact ih _ (by omega) _ _ _ (x_57) (x_57.toInt) rfl hw rfl (by omega) (fun j hj => by rcases (show (j : Int) < i2_31_z ∨ (j : Int) = i2_31_z by omega) with e | e; exact iv_32 j e; rw [show t0.2.1 + j = (v_43.toInt).toNat by omega, show j = (i2_31_z).toNat by omega, ← by_47]; omega) (lv_sub hl [0, 1, 2] rfl)
          · have z_b_59 := trivial
            have k_60 : rr_45.toInt ≠ rr_49.toInt := z_ne rfl rfl c_54
            refine lv_iconst (v := 0) X.1 X.2.1 dX10_isWord_54 (by decide) ?_
            rw [hQQ]
            exact ret_z X hw hr hlocks (Nat.le_of_ble_eq_true rfl) (Nat.le_of_ble_eq_true rfl) (by decide) ⟨rfl, Or.inr ⟨fun h => by have h2 := h.2.2 (i2_31_z).toNat (by omega); rw [show t0.2.1 + (i2_31_z).toNat = (v_43.toInt).toNat by omega, ← by_47] at h2; omega, rfl⟩⟩ dX10_isWord_55
      exact L_30 _ _ _ _ (0) (0) rfl hw ti_0 (by omega) (fun j hj => absurd hj (by omega)) (lv_sub hl [0, 1, 2] rfl)
    · have z_b_61 := trivial
      have k_62 : v_21.toInt ≠ rr_23.toInt := z_ne rfl rfl c_27
      refine lv_iconst (v := 0) X.1 X.2.1 dX10_isWord_24 (by decide) ?_
      rw [hQQ]
      exact ret_z X hw hr hlocks (Nat.le_of_ble_eq_true rfl) (Nat.le_of_ble_eq_true rfl) (by decide) ⟨rfl, Or.inr ⟨fun h => by have h1 := h.1; have h2 := h.2.1; omega, rfl⟩⟩ dX10_isWord_25
set_option maxHeartbeats 4000000 in
set_option maxRecDepth 100000 in
theorem k_X10_fieldAtHand2 (l : Launch) (G : va_G) (cy : Nat → ClassId) (κ : Nat → Nat) (S : PS) (sz : Nat) (x : Nat) (t0 : Tk) (hG : GX S) (ha_x : At S x 10) (hp_0 : TokAt S x t0) (hp_1 : t0.2.1 ≤ t0.2.2) (hp_2 : t0.2.2 ≤ 400) : Ci l yX10_fieldAtHand wsX10_fieldAtHand ({ frames := 6, cells := 0, slots := 0, locals := 288 }) G cy κ S sz [.ref x] (fun (r : Int32) (S9 : PS) => S = S9 ∧ (-1 ≤ r.toInt ∧ r.toInt ≤ 6 ∧ r.toInt = whF (tB S x) t0 FLs 0)) := by
  refine ent_m (cc := cX10_fieldAtHand) (maxL := 1) (ret := (some .int)) (by decide) rfl (Nat.le_of_ble_eq_true rfl) ?_
  intro p e s m below meth c ls X hr hlocks hin hw hl hsz
  subst hsz
  have X : Cx p c cX10_fieldAtHand 1 s [.ref x].toArray wsX10_fieldAtHand RX10 m G cy κ (AS S s.heap.size) := X
  have hl : lv_has ls 1 [(0, .ref x)] := hl
  have htk := hp_0
  refine lv_aload_n X.1 X.2.1 dX10_fieldAtHand_0 rfl (lv_at hl 0 rfl) ?_
  refine va_ldcS (q := κ (100 + 4)) X.1 X.2.1 X.2.2.2.2.1 (show vk_R RX10 97 "fine" (κ (100 + 4)) s from (X.2.2.2.2.2.2.2.2.2.2.2.2.2.2 4 (by decide)).1) dX10_fieldAtHand_1 ?_
  refine k_i (rm := { frames := 5, cells := 0, slots := 0, locals := 240 }) (av := [.ref x, .ref (κ (100 + 4))]) X hw (va_runV (As := [.ref (κ (100 + 4))]) (rest := []) (cfix X) (k_X10_isWord2 l G cy κ S _ x 4 t0 hG ha_x (by decide) hp_0 (by first | assumption | omega) (by first | assumption | omega)) (cwV 1 X.2.2.2.1 gX10_fieldAtHand_X10_isWord rfl rfl rfl (by decide +kernel) ⟨Nat.le_of_ble_eq_true rfl, Nat.le_of_ble_eq_true rfl⟩) (pre_V X hw _ ha_x rfl (by decide) rfl) rfl rfl hl.1 rfl (lv_room (Nat.le_of_ble_eq_true rfl)) dX10_fieldAtHand_3 ⟨Nat.le_of_ble_eq_true rfl, Nat.le_of_ble_eq_true rfl⟩) 0 0 (Nat.le_of_ble_eq_true rfl) (Nat.le_of_ble_eq_true rfl) (fun rr_1 S_2 H locs hp hw hfr hnw => ?_)
  obtain ⟨e2, hp⟩ := hp
  subst e2
  rcases hp with ⟨f_3, er_4⟩ | ⟨f_3, er_4⟩ <;> subst er_4
  · have z_b_5 := trivial
    refine lv_if_eq (tgt := 11) X.1 X.2.1 dX10_fieldAtHand_6 (by decide) (fun c_6 => absurd c_6 (by decide)) (fun c_6 => ?_)
    refine lv_iconst (v := 0) X.1 X.2.1 dX10_fieldAtHand_9 (by decide) ?_
    exact ret_i X hw hr hlocks (Nat.le_of_ble_eq_true rfl) (Nat.le_of_ble_eq_true rfl) ⟨rfl, ⟨by decide, by decide, by unfold FLs; rw [whF_y f_3]; decide⟩⟩ dX10_fieldAtHand_10
  · have z_b_7 := trivial
    refine lv_if_eq (tgt := 11) X.1 X.2.1 dX10_fieldAtHand_6 (by decide) (fun c_8 => ?_) (fun c_8 => absurd c_8 (by decide))
    refine lv_aload_n X.1 X.2.1 dX10_fieldAtHand_11 rfl (lv_at hl 0 rfl) ?_
    refine va_ldcS (q := κ (100 + 5)) X.1 X.2.1 X.2.2.2.2.1 (show vk_R RX10 99 "ends" (κ (100 + 5)) s from (X.2.2.2.2.2.2.2.2.2.2.2.2.2.2 5 (by decide)).1) dX10_fieldAtHand_12 ?_
    refine k_i (rm := { frames := 5, cells := 0, slots := 0, locals := 240 }) (av := [.ref x, .ref (κ (100 + 5))]) X hw (va_runV (As := [.ref (κ (100 + 5))]) (rest := []) (cfix X) (k_X10_isWord2 l G cy κ S _ x 5 t0 hG ha_x (by decide) hp_0 (by first | assumption | omega) (by first | assumption | omega)) (cwV 1 X.2.2.2.1 gX10_fieldAtHand_X10_isWord rfl rfl rfl (by decide +kernel) ⟨Nat.le_of_ble_eq_true rfl, Nat.le_of_ble_eq_true rfl⟩) (pre_V X hw _ ha_x rfl (by decide) rfl) rfl rfl hl.1 rfl (lv_room (Nat.le_of_ble_eq_true rfl)) dX10_fieldAtHand_14 ⟨Nat.le_of_ble_eq_true rfl, Nat.le_of_ble_eq_true rfl⟩) 0 0 (Nat.le_of_ble_eq_true rfl) (Nat.le_of_ble_eq_true rfl) (fun rr_9 S_10 H locs hp hw hfr hnw => ?_)
    obtain ⟨e2, hp⟩ := hp
    subst e2
    rcases hp with ⟨f_11, er_12⟩ | ⟨f_11, er_12⟩ <;> subst er_12
    · have z_b_13 := trivial
      refine lv_if_eq (tgt := 22) X.1 X.2.1 dX10_fieldAtHand_17 (by decide) (fun c_14 => absurd c_14 (by decide)) (fun c_14 => ?_)
      refine lv_iconst (v := 1) X.1 X.2.1 dX10_fieldAtHand_20 (by decide) ?_
      exact ret_i X hw hr hlocks (Nat.le_of_ble_eq_true rfl) (Nat.le_of_ble_eq_true rfl) ⟨rfl, ⟨by decide, by decide, by unfold FLs; rw [whF_n f_3, whF_y f_11]; decide⟩⟩ dX10_fieldAtHand_21
    · have z_b_15 := trivial
      refine lv_if_eq (tgt := 22) X.1 X.2.1 dX10_fieldAtHand_17 (by decide) (fun c_16 => ?_) (fun c_16 => absurd c_16 (by decide))
      refine lv_aload_n X.1 X.2.1 dX10_fieldAtHand_22 rfl (lv_at hl 0 rfl) ?_
      refine va_ldcS (q := κ (100 + 6)) X.1 X.2.1 X.2.2.2.2.1 (show vk_R RX10 101 "basket" (κ (100 + 6)) s from (X.2.2.2.2.2.2.2.2.2.2.2.2.2.2 6 (by decide)).1) dX10_fieldAtHand_23 ?_
      refine k_i (rm := { frames := 5, cells := 0, slots := 0, locals := 240 }) (av := [.ref x, .ref (κ (100 + 6))]) X hw (va_runV (As := [.ref (κ (100 + 6))]) (rest := []) (cfix X) (k_X10_isWord2 l G cy κ S _ x 6 t0 hG ha_x (by decide) hp_0 (by first | assumption | omega) (by first | assumption | omega)) (cwV 1 X.2.2.2.1 gX10_fieldAtHand_X10_isWord rfl rfl rfl (by decide +kernel) ⟨Nat.le_of_ble_eq_true rfl, Nat.le_of_ble_eq_true rfl⟩) (pre_V X hw _ ha_x rfl (by decide) rfl) rfl rfl hl.1 rfl (lv_room (Nat.le_of_ble_eq_true rfl)) dX10_fieldAtHand_25 ⟨Nat.le_of_ble_eq_true rfl, Nat.le_of_ble_eq_true rfl⟩) 0 0 (Nat.le_of_ble_eq_true rfl) (Nat.le_of_ble_eq_true rfl) (fun rr_17 S_18 H locs hp hw hfr hnw => ?_)
      obtain ⟨e2, hp⟩ := hp
      subst e2
      rcases hp with ⟨f_19, er_20⟩ | ⟨f_19, er_20⟩ <;> subst er_20
      · have z_b_21 := trivial
        refine lv_if_eq (tgt := 33) X.1 X.2.1 dX10_fieldAtHand_28 (by decide) (fun c_22 => absurd c_22 (by decide)) (fun c_22 => ?_)
        refine lv_iconst (v := 2) X.1 X.2.1 dX10_fieldAtHand_31 (by decide) ?_
        exact ret_i X hw hr hlocks (Nat.le_of_ble_eq_true rfl) (Nat.le_of_ble_eq_true rfl) ⟨rfl, ⟨by decide, by decide, by unfold FLs; rw [whF_n f_3, whF_n f_11, whF_y f_19]; decide⟩⟩ dX10_fieldAtHand_32
      · have z_b_23 := trivial
        refine lv_if_eq (tgt := 33) X.1 X.2.1 dX10_fieldAtHand_28 (by decide) (fun c_24 => ?_) (fun c_24 => absurd c_24 (by decide))
        refine lv_aload_n X.1 X.2.1 dX10_fieldAtHand_33 rfl (lv_at hl 0 rfl) ?_
        refine va_ldcS (q := κ (100 + 7)) X.1 X.2.1 X.2.2.2.2.1 (show vk_R RX10 103 "lost" (κ (100 + 7)) s from (X.2.2.2.2.2.2.2.2.2.2.2.2.2.2 7 (by decide)).1) dX10_fieldAtHand_34 ?_
        refine k_i (rm := { frames := 5, cells := 0, slots := 0, locals := 240 }) (av := [.ref x, .ref (κ (100 + 7))]) X hw (va_runV (As := [.ref (κ (100 + 7))]) (rest := []) (cfix X) (k_X10_isWord2 l G cy κ S _ x 7 t0 hG ha_x (by decide) hp_0 (by first | assumption | omega) (by first | assumption | omega)) (cwV 1 X.2.2.2.1 gX10_fieldAtHand_X10_isWord rfl rfl rfl (by decide +kernel) ⟨Nat.le_of_ble_eq_true rfl, Nat.le_of_ble_eq_true rfl⟩) (pre_V X hw _ ha_x rfl (by decide) rfl) rfl rfl hl.1 rfl (lv_room (Nat.le_of_ble_eq_true rfl)) dX10_fieldAtHand_36 ⟨Nat.le_of_ble_eq_true rfl, Nat.le_of_ble_eq_true rfl⟩) 0 0 (Nat.le_of_ble_eq_true rfl) (Nat.le_of_ble_eq_true rfl) (fun rr_25 S_26 H locs hp hw hfr hnw => ?_)
        obtain ⟨e2, hp⟩ := hp
        subst e2
        rcases hp with ⟨f_27, er_28⟩ | ⟨f_27, er_28⟩ <;> subst er_28
        · have z_b_29 := trivial
          refine lv_if_eq (tgt := 44) X.1 X.2.1 dX10_fieldAtHand_39 (by decide) (fun c_30 => absurd c_30 (by decide)) (fun c_30 => ?_)
          refine lv_iconst (v := 3) X.1 X.2.1 dX10_fieldAtHand_42 (by decide) ?_
          exact ret_i X hw hr hlocks (Nat.le_of_ble_eq_true rfl) (Nat.le_of_ble_eq_true rfl) ⟨rfl, ⟨by decide, by decide, by unfold FLs; rw [whF_n f_3, whF_n f_11, whF_n f_19, whF_y f_27]; decide⟩⟩ dX10_fieldAtHand_43
        · have z_b_31 := trivial
          refine lv_if_eq (tgt := 44) X.1 X.2.1 dX10_fieldAtHand_39 (by decide) (fun c_32 => ?_) (fun c_32 => absurd c_32 (by decide))
          refine lv_aload_n X.1 X.2.1 dX10_fieldAtHand_44 rfl (lv_at hl 0 rfl) ?_
          refine va_ldcS (q := κ (100 + 8)) X.1 X.2.1 X.2.2.2.2.1 (show vk_R RX10 105 "made" (κ (100 + 8)) s from (X.2.2.2.2.2.2.2.2.2.2.2.2.2.2 8 (by decide)).1) dX10_fieldAtHand_45 ?_
          refine k_i (rm := { frames := 5, cells := 0, slots := 0, locals := 240 }) (av := [.ref x, .ref (κ (100 + 8))]) X hw (va_runV (As := [.ref (κ (100 + 8))]) (rest := []) (cfix X) (k_X10_isWord2 l G cy κ S _ x 8 t0 hG ha_x (by decide) hp_0 (by first | assumption | omega) (by first | assumption | omega)) (cwV 1 X.2.2.2.1 gX10_fieldAtHand_X10_isWord rfl rfl rfl (by decide +kernel) ⟨Nat.le_of_ble_eq_true rfl, Nat.le_of_ble_eq_true rfl⟩) (pre_V X hw _ ha_x rfl (by decide) rfl) rfl rfl hl.1 rfl (lv_room (Nat.le_of_ble_eq_true rfl)) dX10_fieldAtHand_47 ⟨Nat.le_of_ble_eq_true rfl, Nat.le_of_ble_eq_true rfl⟩) 0 0 (Nat.le_of_ble_eq_true rfl) (Nat.le_of_ble_eq_true rfl) (fun rr_33 S_34 H locs hp hw hfr hnw => ?_)
          obtain ⟨e2, hp⟩ := hp
          subst e2
          rcases hp with ⟨f_35, er_36⟩ | ⟨f_35, er_36⟩ <;> subst er_36
          · have z_b_37 := trivial
            refine lv_if_eq (tgt := 55) X.1 X.2.1 dX10_fieldAtHand_50 (by decide) (fun c_38 => absurd c_38 (by decide)) (fun c_38 => ?_)
            refine lv_iconst (v := 4) X.1 X.2.1 dX10_fieldAtHand_53 (by decide) ?_
            exact ret_i X hw hr hlocks (Nat.le_of_ble_eq_true rfl) (Nat.le_of_ble_eq_true rfl) ⟨rfl, ⟨by decide, by decide, by unfold FLs; rw [whF_n f_3, whF_n f_11, whF_n f_19, whF_n f_27, whF_y f_35]; decide⟩⟩ dX10_fieldAtHand_54
          · have z_b_39 := trivial
            refine lv_if_eq (tgt := 55) X.1 X.2.1 dX10_fieldAtHand_50 (by decide) (fun c_40 => ?_) (fun c_40 => absurd c_40 (by decide))
            refine lv_aload_n X.1 X.2.1 dX10_fieldAtHand_55 rfl (lv_at hl 0 rfl) ?_
            refine va_ldcS (q := κ (100 + 9)) X.1 X.2.1 X.2.2.2.2.1 (show vk_R RX10 107 "thin" (κ (100 + 9)) s from (X.2.2.2.2.2.2.2.2.2.2.2.2.2.2 9 (by decide)).1) dX10_fieldAtHand_56 ?_
            refine k_i (rm := { frames := 5, cells := 0, slots := 0, locals := 240 }) (av := [.ref x, .ref (κ (100 + 9))]) X hw (va_runV (As := [.ref (κ (100 + 9))]) (rest := []) (cfix X) (k_X10_isWord2 l G cy κ S _ x 9 t0 hG ha_x (by decide) hp_0 (by first | assumption | omega) (by first | assumption | omega)) (cwV 1 X.2.2.2.1 gX10_fieldAtHand_X10_isWord rfl rfl rfl (by decide +kernel) ⟨Nat.le_of_ble_eq_true rfl, Nat.le_of_ble_eq_true rfl⟩) (pre_V X hw _ ha_x rfl (by decide) rfl) rfl rfl hl.1 rfl (lv_room (Nat.le_of_ble_eq_true rfl)) dX10_fieldAtHand_58 ⟨Nat.le_of_ble_eq_true rfl, Nat.le_of_ble_eq_true rfl⟩) 0 0 (Nat.le_of_ble_eq_true rfl) (Nat.le_of_ble_eq_true rfl) (fun rr_41 S_42 H locs hp hw hfr hnw => ?_)
            obtain ⟨e2, hp⟩ := hp
            subst e2
            rcases hp with ⟨f_43, er_44⟩ | ⟨f_43, er_44⟩ <;> subst er_44
            · have z_b_45 := trivial
              refine lv_if_eq (tgt := 66) X.1 X.2.1 dX10_fieldAtHand_61 (by decide) (fun c_46 => absurd c_46 (by decide)) (fun c_46 => ?_)
              refine lv_iconst (v := 5) X.1 X.2.1 dX10_fieldAtHand_64 (by decide) ?_
              exact ret_i X hw hr hlocks (Nat.le_of_ble_eq_true rfl) (Nat.le_of_ble_eq_true rfl) ⟨rfl, ⟨by decide, by decide, by unfold FLs; rw [whF_n f_3, whF_n f_11, whF_n f_19, whF_n f_27, whF_n f_35, whF_y f_43]; decide⟩⟩ dX10_fieldAtHand_65
            · have z_b_47 := trivial
              refine lv_if_eq (tgt := 66) X.1 X.2.1 dX10_fieldAtHand_61 (by decide) (fun c_48 => ?_) (fun c_48 => absurd c_48 (by decide))
              refine lv_aload_n X.1 X.2.1 dX10_fieldAtHand_66 rfl (lv_at hl 0 rfl) ?_
              refine va_ldcS (q := κ (100 + 10)) X.1 X.2.1 X.2.2.2.2.1 (show vk_R RX10 109 "day" (κ (100 + 10)) s from (X.2.2.2.2.2.2.2.2.2.2.2.2.2.2 10 (by decide)).1) dX10_fieldAtHand_67 ?_
              refine k_i (rm := { frames := 5, cells := 0, slots := 0, locals := 240 }) (av := [.ref x, .ref (κ (100 + 10))]) X hw (va_runV (As := [.ref (κ (100 + 10))]) (rest := []) (cfix X) (k_X10_isWord2 l G cy κ S _ x 10 t0 hG ha_x (by decide) hp_0 (by first | assumption | omega) (by first | assumption | omega)) (cwV 1 X.2.2.2.1 gX10_fieldAtHand_X10_isWord rfl rfl rfl (by decide +kernel) ⟨Nat.le_of_ble_eq_true rfl, Nat.le_of_ble_eq_true rfl⟩) (pre_V X hw _ ha_x rfl (by decide) rfl) rfl rfl hl.1 rfl (lv_room (Nat.le_of_ble_eq_true rfl)) dX10_fieldAtHand_69 ⟨Nat.le_of_ble_eq_true rfl, Nat.le_of_ble_eq_true rfl⟩) 0 0 (Nat.le_of_ble_eq_true rfl) (Nat.le_of_ble_eq_true rfl) (fun rr_49 S_50 H locs hp hw hfr hnw => ?_)
              obtain ⟨e2, hp⟩ := hp
              subst e2
              rcases hp with ⟨f_51, er_52⟩ | ⟨f_51, er_52⟩ <;> subst er_52
              · have z_b_53 := trivial
                refine lv_if_eq (tgt := 80) X.1 X.2.1 dX10_fieldAtHand_72 (by decide) (fun c_54 => absurd c_54 (by decide)) (fun c_54 => ?_)
                refine lv_bipush (v := 6) X.1 X.2.1 dX10_fieldAtHand_75 (by decide) ?_
                refine lv_goto (tgt := 81) X.1 X.2.1 dX10_fieldAtHand_77 (by decide) ?_
                exact ret_i X hw hr hlocks (Nat.le_of_ble_eq_true rfl) (Nat.le_of_ble_eq_true rfl) ⟨rfl, ⟨by decide, by decide, by unfold FLs; rw [whF_n f_3, whF_n f_11, whF_n f_19, whF_n f_27, whF_n f_35, whF_n f_43, whF_y f_51]; decide⟩⟩ dX10_fieldAtHand_81
              · have z_b_55 := trivial
                refine lv_if_eq (tgt := 80) X.1 X.2.1 dX10_fieldAtHand_72 (by decide) (fun c_56 => ?_) (fun c_56 => absurd c_56 (by decide))
                refine lv_iconst (v := (-1)) X.1 X.2.1 dX10_fieldAtHand_80 (by decide) ?_
                exact ret_i X hw hr hlocks (Nat.le_of_ble_eq_true rfl) (Nat.le_of_ble_eq_true rfl) ⟨rfl, ⟨by decide, by decide, by unfold FLs; rw [whF_n f_3, whF_n f_11, whF_n f_19, whF_n f_27, whF_n f_35, whF_n f_43, whF_n f_51, whF_e]; decide⟩⟩ dX10_fieldAtHand_81
set_option maxHeartbeats 4000000 in
set_option maxRecDepth 100000 in
theorem k_X10_actAtHand2 (l : Launch) (G : va_G) (cy : Nat → ClassId) (κ : Nat → Nat) (S : PS) (sz : Nat) (x : Nat) (t0 : Tk) (hG : GX S) (ha_x : At S x 10) (hp_0 : TokAt S x t0) (hp_1 : t0.2.1 ≤ t0.2.2) (hp_2 : t0.2.2 ≤ 400) : Ci l yX10_actAtHand wsX10_actAtHand ({ frames := 6, cells := 0, slots := 0, locals := 288 }) G cy κ S sz [.ref x] (fun (r : Int32) (S9 : PS) => S = S9 ∧ (-1 ≤ r.toInt ∧ r.toInt ≤ 6 ∧ r.toInt = whF (tB S x) t0 ALs 0)) := by
  refine ent_m (cc := cX10_actAtHand) (maxL := 1) (ret := (some .int)) (by decide) rfl (Nat.le_of_ble_eq_true rfl) ?_
  intro p e s m below meth c ls X hr hlocks hin hw hl hsz
  subst hsz
  have X : Cx p c cX10_actAtHand 1 s [.ref x].toArray wsX10_actAtHand RX10 m G cy κ (AS S s.heap.size) := X
  have hl : lv_has ls 1 [(0, .ref x)] := hl
  have htk := hp_0
  refine lv_aload_n X.1 X.2.1 dX10_actAtHand_0 rfl (lv_at hl 0 rfl) ?_
  refine va_ldcS (q := κ (100 + 11)) X.1 X.2.1 X.2.2.2.2.1 (show vk_R RX10 111 "cast" (κ (100 + 11)) s from (X.2.2.2.2.2.2.2.2.2.2.2.2.2.2 11 (by decide)).1) dX10_actAtHand_1 ?_
  refine k_i (rm := { frames := 5, cells := 0, slots := 0, locals := 240 }) (av := [.ref x, .ref (κ (100 + 11))]) X hw (va_runV (As := [.ref (κ (100 + 11))]) (rest := []) (cfix X) (k_X10_isWord2 l G cy κ S _ x 11 t0 hG ha_x (by decide) hp_0 (by first | assumption | omega) (by first | assumption | omega)) (cwV 1 X.2.2.2.1 gX10_actAtHand_X10_isWord rfl rfl rfl (by decide +kernel) ⟨Nat.le_of_ble_eq_true rfl, Nat.le_of_ble_eq_true rfl⟩) (pre_V X hw _ ha_x rfl (by decide) rfl) rfl rfl hl.1 rfl (lv_room (Nat.le_of_ble_eq_true rfl)) dX10_actAtHand_3 ⟨Nat.le_of_ble_eq_true rfl, Nat.le_of_ble_eq_true rfl⟩) 0 0 (Nat.le_of_ble_eq_true rfl) (Nat.le_of_ble_eq_true rfl) (fun rr_1 S_2 H locs hp hw hfr hnw => ?_)
  obtain ⟨e2, hp⟩ := hp
  subst e2
  rcases hp with ⟨f_3, er_4⟩ | ⟨f_3, er_4⟩ <;> subst er_4
  · have z_b_5 := trivial
    refine lv_if_eq (tgt := 11) X.1 X.2.1 dX10_actAtHand_6 (by decide) (fun c_6 => absurd c_6 (by decide)) (fun c_6 => ?_)
    refine lv_iconst (v := 0) X.1 X.2.1 dX10_actAtHand_9 (by decide) ?_
    exact ret_i X hw hr hlocks (Nat.le_of_ble_eq_true rfl) (Nat.le_of_ble_eq_true rfl) ⟨rfl, ⟨by decide, by decide, by unfold ALs; rw [whF_y f_3]; decide⟩⟩ dX10_actAtHand_10
  · have z_b_7 := trivial
    refine lv_if_eq (tgt := 11) X.1 X.2.1 dX10_actAtHand_6 (by decide) (fun c_8 => ?_) (fun c_8 => absurd c_8 (by decide))
    refine lv_aload_n X.1 X.2.1 dX10_actAtHand_11 rfl (lv_at hl 0 rfl) ?_
    refine va_ldcS (q := κ (100 + 12)) X.1 X.2.1 X.2.2.2.2.1 (show vk_R RX10 113 "drop" (κ (100 + 12)) s from (X.2.2.2.2.2.2.2.2.2.2.2.2.2.2 12 (by decide)).1) dX10_actAtHand_12 ?_
    refine k_i (rm := { frames := 5, cells := 0, slots := 0, locals := 240 }) (av := [.ref x, .ref (κ (100 + 12))]) X hw (va_runV (As := [.ref (κ (100 + 12))]) (rest := []) (cfix X) (k_X10_isWord2 l G cy κ S _ x 12 t0 hG ha_x (by decide) hp_0 (by first | assumption | omega) (by first | assumption | omega)) (cwV 1 X.2.2.2.1 gX10_actAtHand_X10_isWord rfl rfl rfl (by decide +kernel) ⟨Nat.le_of_ble_eq_true rfl, Nat.le_of_ble_eq_true rfl⟩) (pre_V X hw _ ha_x rfl (by decide) rfl) rfl rfl hl.1 rfl (lv_room (Nat.le_of_ble_eq_true rfl)) dX10_actAtHand_14 ⟨Nat.le_of_ble_eq_true rfl, Nat.le_of_ble_eq_true rfl⟩) 0 0 (Nat.le_of_ble_eq_true rfl) (Nat.le_of_ble_eq_true rfl) (fun rr_9 S_10 H locs hp hw hfr hnw => ?_)
    obtain ⟨e2, hp⟩ := hp
    subst e2
    rcases hp with ⟨f_11, er_12⟩ | ⟨f_11, er_12⟩ <;> subst er_12
    · have z_b_13 := trivial
      refine lv_if_eq (tgt := 22) X.1 X.2.1 dX10_actAtHand_17 (by decide) (fun c_14 => absurd c_14 (by decide)) (fun c_14 => ?_)
      refine lv_iconst (v := 1) X.1 X.2.1 dX10_actAtHand_20 (by decide) ?_
      exact ret_i X hw hr hlocks (Nat.le_of_ble_eq_true rfl) (Nat.le_of_ble_eq_true rfl) ⟨rfl, ⟨by decide, by decide, by unfold ALs; rw [whF_n f_3, whF_y f_11]; decide⟩⟩ dX10_actAtHand_21
    · have z_b_15 := trivial
      refine lv_if_eq (tgt := 22) X.1 X.2.1 dX10_actAtHand_17 (by decide) (fun c_16 => ?_) (fun c_16 => absurd c_16 (by decide))
      refine lv_aload_n X.1 X.2.1 dX10_actAtHand_22 rfl (lv_at hl 0 rfl) ?_
      refine va_ldcS (q := κ (100 + 13)) X.1 X.2.1 X.2.2.2.2.1 (show vk_R RX10 115 "find" (κ (100 + 13)) s from (X.2.2.2.2.2.2.2.2.2.2.2.2.2.2 13 (by decide)).1) dX10_actAtHand_23 ?_
      refine k_i (rm := { frames := 5, cells := 0, slots := 0, locals := 240 }) (av := [.ref x, .ref (κ (100 + 13))]) X hw (va_runV (As := [.ref (κ (100 + 13))]) (rest := []) (cfix X) (k_X10_isWord2 l G cy κ S _ x 13 t0 hG ha_x (by decide) hp_0 (by first | assumption | omega) (by first | assumption | omega)) (cwV 1 X.2.2.2.1 gX10_actAtHand_X10_isWord rfl rfl rfl (by decide +kernel) ⟨Nat.le_of_ble_eq_true rfl, Nat.le_of_ble_eq_true rfl⟩) (pre_V X hw _ ha_x rfl (by decide) rfl) rfl rfl hl.1 rfl (lv_room (Nat.le_of_ble_eq_true rfl)) dX10_actAtHand_25 ⟨Nat.le_of_ble_eq_true rfl, Nat.le_of_ble_eq_true rfl⟩) 0 0 (Nat.le_of_ble_eq_true rfl) (Nat.le_of_ble_eq_true rfl) (fun rr_17 S_18 H locs hp hw hfr hnw => ?_)
      obtain ⟨e2, hp⟩ := hp
      subst e2
      rcases hp with ⟨f_19, er_20⟩ | ⟨f_19, er_20⟩ <;> subst er_20
      · have z_b_21 := trivial
        refine lv_if_eq (tgt := 33) X.1 X.2.1 dX10_actAtHand_28 (by decide) (fun c_22 => absurd c_22 (by decide)) (fun c_22 => ?_)
        refine lv_iconst (v := 2) X.1 X.2.1 dX10_actAtHand_31 (by decide) ?_
        exact ret_i X hw hr hlocks (Nat.le_of_ble_eq_true rfl) (Nat.le_of_ble_eq_true rfl) ⟨rfl, ⟨by decide, by decide, by unfold ALs; rw [whF_n f_3, whF_n f_11, whF_y f_19]; decide⟩⟩ dX10_actAtHand_32
      · have z_b_23 := trivial
        refine lv_if_eq (tgt := 33) X.1 X.2.1 dX10_actAtHand_28 (by decide) (fun c_24 => ?_) (fun c_24 => absurd c_24 (by decide))
        refine lv_aload_n X.1 X.2.1 dX10_actAtHand_33 rfl (lv_at hl 0 rfl) ?_
        refine va_ldcS (q := κ (100 + 14)) X.1 X.2.1 X.2.2.2.2.1 (show vk_R RX10 117 "throw" (κ (100 + 14)) s from (X.2.2.2.2.2.2.2.2.2.2.2.2.2.2 14 (by decide)).1) dX10_actAtHand_34 ?_
        refine k_i (rm := { frames := 5, cells := 0, slots := 0, locals := 240 }) (av := [.ref x, .ref (κ (100 + 14))]) X hw (va_runV (As := [.ref (κ (100 + 14))]) (rest := []) (cfix X) (k_X10_isWord2 l G cy κ S _ x 14 t0 hG ha_x (by decide) hp_0 (by first | assumption | omega) (by first | assumption | omega)) (cwV 1 X.2.2.2.1 gX10_actAtHand_X10_isWord rfl rfl rfl (by decide +kernel) ⟨Nat.le_of_ble_eq_true rfl, Nat.le_of_ble_eq_true rfl⟩) (pre_V X hw _ ha_x rfl (by decide) rfl) rfl rfl hl.1 rfl (lv_room (Nat.le_of_ble_eq_true rfl)) dX10_actAtHand_36 ⟨Nat.le_of_ble_eq_true rfl, Nat.le_of_ble_eq_true rfl⟩) 0 0 (Nat.le_of_ble_eq_true rfl) (Nat.le_of_ble_eq_true rfl) (fun rr_25 S_26 H locs hp hw hfr hnw => ?_)
        obtain ⟨e2, hp⟩ := hp
        subst e2
        rcases hp with ⟨f_27, er_28⟩ | ⟨f_27, er_28⟩ <;> subst er_28
        · have z_b_29 := trivial
          refine lv_if_eq (tgt := 44) X.1 X.2.1 dX10_actAtHand_39 (by decide) (fun c_30 => absurd c_30 (by decide)) (fun c_30 => ?_)
          refine lv_iconst (v := 3) X.1 X.2.1 dX10_actAtHand_42 (by decide) ?_
          exact ret_i X hw hr hlocks (Nat.le_of_ble_eq_true rfl) (Nat.le_of_ble_eq_true rfl) ⟨rfl, ⟨by decide, by decide, by unfold ALs; rw [whF_n f_3, whF_n f_11, whF_n f_19, whF_y f_27]; decide⟩⟩ dX10_actAtHand_43
        · have z_b_31 := trivial
          refine lv_if_eq (tgt := 44) X.1 X.2.1 dX10_actAtHand_39 (by decide) (fun c_32 => ?_) (fun c_32 => absurd c_32 (by decide))
          refine lv_aload_n X.1 X.2.1 dX10_actAtHand_44 rfl (lv_at hl 0 rfl) ?_
          refine va_ldcS (q := κ (100 + 15)) X.1 X.2.1 X.2.2.2.2.1 (show vk_R RX10 119 "cut" (κ (100 + 15)) s from (X.2.2.2.2.2.2.2.2.2.2.2.2.2.2 15 (by decide)).1) dX10_actAtHand_45 ?_
          refine k_i (rm := { frames := 5, cells := 0, slots := 0, locals := 240 }) (av := [.ref x, .ref (κ (100 + 15))]) X hw (va_runV (As := [.ref (κ (100 + 15))]) (rest := []) (cfix X) (k_X10_isWord2 l G cy κ S _ x 15 t0 hG ha_x (by decide) hp_0 (by first | assumption | omega) (by first | assumption | omega)) (cwV 1 X.2.2.2.1 gX10_actAtHand_X10_isWord rfl rfl rfl (by decide +kernel) ⟨Nat.le_of_ble_eq_true rfl, Nat.le_of_ble_eq_true rfl⟩) (pre_V X hw _ ha_x rfl (by decide) rfl) rfl rfl hl.1 rfl (lv_room (Nat.le_of_ble_eq_true rfl)) dX10_actAtHand_47 ⟨Nat.le_of_ble_eq_true rfl, Nat.le_of_ble_eq_true rfl⟩) 0 0 (Nat.le_of_ble_eq_true rfl) (Nat.le_of_ble_eq_true rfl) (fun rr_33 S_34 H locs hp hw hfr hnw => ?_)
          obtain ⟨e2, hp⟩ := hp
          subst e2
          rcases hp with ⟨f_35, er_36⟩ | ⟨f_35, er_36⟩ <;> subst er_36
          · have z_b_37 := trivial
            refine lv_if_eq (tgt := 55) X.1 X.2.1 dX10_actAtHand_50 (by decide) (fun c_38 => absurd c_38 (by decide)) (fun c_38 => ?_)
            refine lv_iconst (v := 4) X.1 X.2.1 dX10_actAtHand_53 (by decide) ?_
            exact ret_i X hw hr hlocks (Nat.le_of_ble_eq_true rfl) (Nat.le_of_ble_eq_true rfl) ⟨rfl, ⟨by decide, by decide, by unfold ALs; rw [whF_n f_3, whF_n f_11, whF_n f_19, whF_n f_27, whF_y f_35]; decide⟩⟩ dX10_actAtHand_54
          · have z_b_39 := trivial
            refine lv_if_eq (tgt := 55) X.1 X.2.1 dX10_actAtHand_50 (by decide) (fun c_40 => ?_) (fun c_40 => absurd c_40 (by decide))
            refine lv_aload_n X.1 X.2.1 dX10_actAtHand_55 rfl (lv_at hl 0 rfl) ?_
            refine va_ldcS (q := κ (100 + 16)) X.1 X.2.1 X.2.2.2.2.1 (show vk_R RX10 121 "stop" (κ (100 + 16)) s from (X.2.2.2.2.2.2.2.2.2.2.2.2.2.2 16 (by decide)).1) dX10_actAtHand_56 ?_
            refine k_i (rm := { frames := 5, cells := 0, slots := 0, locals := 240 }) (av := [.ref x, .ref (κ (100 + 16))]) X hw (va_runV (As := [.ref (κ (100 + 16))]) (rest := []) (cfix X) (k_X10_isWord2 l G cy κ S _ x 16 t0 hG ha_x (by decide) hp_0 (by first | assumption | omega) (by first | assumption | omega)) (cwV 1 X.2.2.2.1 gX10_actAtHand_X10_isWord rfl rfl rfl (by decide +kernel) ⟨Nat.le_of_ble_eq_true rfl, Nat.le_of_ble_eq_true rfl⟩) (pre_V X hw _ ha_x rfl (by decide) rfl) rfl rfl hl.1 rfl (lv_room (Nat.le_of_ble_eq_true rfl)) dX10_actAtHand_58 ⟨Nat.le_of_ble_eq_true rfl, Nat.le_of_ble_eq_true rfl⟩) 0 0 (Nat.le_of_ble_eq_true rfl) (Nat.le_of_ble_eq_true rfl) (fun rr_41 S_42 H locs hp hw hfr hnw => ?_)
            obtain ⟨e2, hp⟩ := hp
            subst e2
            rcases hp with ⟨f_43, er_44⟩ | ⟨f_43, er_44⟩ <;> subst er_44
            · have z_b_45 := trivial
              refine lv_if_eq (tgt := 68) X.1 X.2.1 dX10_actAtHand_61 (by decide) (fun c_46 => absurd c_46 (by decide)) (fun c_46 => ?_)
              refine lv_iconst (v := 5) X.1 X.2.1 dX10_actAtHand_64 (by decide) ?_
              refine lv_goto (tgt := 69) X.1 X.2.1 dX10_actAtHand_65 (by decide) ?_
              exact ret_i X hw hr hlocks (Nat.le_of_ble_eq_true rfl) (Nat.le_of_ble_eq_true rfl) ⟨rfl, ⟨by decide, by decide, by unfold ALs; rw [whF_n f_3, whF_n f_11, whF_n f_19, whF_n f_27, whF_n f_35, whF_y f_43]; decide⟩⟩ dX10_actAtHand_69
            · have z_b_47 := trivial
              refine lv_if_eq (tgt := 68) X.1 X.2.1 dX10_actAtHand_61 (by decide) (fun c_48 => ?_) (fun c_48 => absurd c_48 (by decide))
              refine lv_iconst (v := (-1)) X.1 X.2.1 dX10_actAtHand_68 (by decide) ?_
              exact ret_i X hw hr hlocks (Nat.le_of_ble_eq_true rfl) (Nat.le_of_ble_eq_true rfl) ⟨rfl, ⟨by decide, by decide, by unfold ALs; rw [whF_n f_3, whF_n f_11, whF_n f_19, whF_n f_27, whF_n f_35, whF_n f_43, whF_e]; decide⟩⟩ dX10_actAtHand_69
set_option maxHeartbeats 4000000 in
set_option maxRecDepth 100000 in
theorem k_X10_numberAtHand2 (l : Launch) (G : va_G) (cy : Nat → ClassId) (κ : Nat → Nat) (S : PS) (sz : Nat) (x : Nat) (t0 : Tk) (hG : GX S) (ha_x : At S x 10) (hp_0 : TokAt S x t0) (hp_1 : t0.2.1 ≤ t0.2.2) (hp_2 : t0.2.2 ≤ 400) (hp_3 : t0.2.2 - t0.2.1 ≤ 4) (hp_4 : (∀ j, t0.2.1 ≤ j → j < t0.2.2 → digP (tB S x j) = true)) : Ci l yX10_numberAtHand wsX10_numberAtHand ({ frames := 2, cells := 0, slots := 0, locals := 96 }) G cy κ S sz [.ref x] (fun (r : Int32) (S9 : PS) => S = S9 ∧ (0 ≤ r.toInt ∧ r.toInt ≤ 9999999 ∧ r.toInt = numF (tB S x) t0.2.1 (t0.2.2 - t0.2.1))) := by
  refine ent_m (cc := cX10_numberAtHand) (maxL := 3) (ret := (some .int)) (by decide) rfl (Nat.le_of_ble_eq_true rfl) ?_
  intro p e s m below meth c ls X hr hlocks hin hw hl hsz
  subst hsz
  have X : Cx p c cX10_numberAtHand 3 s [.ref x].toArray wsX10_numberAtHand RX10 m G cy κ (AS S s.heap.size) := X
  have hl : lv_has ls 3 [(0, .ref x)] := hl
  generalize hQQ : MQ below _ _ _ _ _ _ = QQ
  replace hQQ := hQQ.symm
  have htk := hp_0
  have htk4 := htk.1
  have htk5 := htk.2.1
  have htk6 := htk.2.2
  obtain ⟨v_1, ev_1⟩ : ∃ v, pI S 1004 x = v := ⟨_, rfl⟩
  have rg_3 := And.intro (z_lo v_1) (z_hi v_1)
  have pz_4 : (pI S 1004 x).toInt = v_1.toInt := by rw [ev_1]
  have pz_5 : (pI S 1004 x).toInt = v_1.toInt := (congrArg Int32.toInt ev_1).trans rfl
  obtain ⟨v_6, ev_6⟩ : ∃ v, pI S 1005 x = v := ⟨_, rfl⟩
  have rg_8 := And.intro (z_lo v_6) (z_hi v_6)
  have pz_9 : (pI S 1005 x).toInt = v_6.toInt := by rw [ev_6]
  have pz_10 : (pI S 1005 x).toInt = v_6.toInt := (congrArg Int32.toInt ev_6).trans rfl
  obtain ⟨v_11, ev_11⟩ : ∃ v, pI S 1006 x = v := ⟨_, rfl⟩
  have rg_13 := And.intro (z_lo v_11) (z_hi v_11)
  have pz_14 : (pI S 1006 x).toInt = v_11.toInt := by rw [ev_11]
  have pz_15 : (pI S 1006 x).toInt = v_11.toInt := (congrArg Int32.toInt ev_11).trans rfl
  refine lv_iconst (v := 0) X.1 X.2.1 dX10_numberAtHand_0 (by decide) ?_
  refine lv_istore_n (lv' := [(1, .int 0), (0, .ref x)]) X.1 X.2.1 dX10_numberAtHand_1 rfl hl (by decide) rfl (fun ls hl => ?_)
  refine lv_aload_n X.1 X.2.1 dX10_numberAtHand_2 rfl (lv_at hl 1 rfl) ?_
  refine r_getI (g := 1005) (x := v_6) X hw ha_x rfl 5 ev_6 (by decide) rfl inn_X10_numberAtHand_10 (by decide) (X.2.2.2.1 (.fieldLink RX10 79 "SilkMill$Tape" "start" "I") (by decide +kernel)) rfl (gv_1005 _ _) dX10_numberAtHand_3 ?_
  refine lv_istore_n (lv' := [(2, .int (v_6)), (1, .int 0), (0, .ref x)]) X.1 X.2.1 dX10_numberAtHand_6 rfl hl (by decide) rfl (fun ls hl => ?_)
  have L_16 : ∀ (n : Nat) (H : Heap) (locs : List Loc) (ls : Array Slot) (i1_17 : Int32) (i1_17_z : Int) (i2_18 : Int32) (i2_18_z : Int), (((pI S 1006 x).toInt - i2_18_z).toNat = n) → (Wd G cy (AS S s.heap.size) s.heap S H locs) → (i1_17.toInt = i1_17_z) → (0 ≤ i1_17_z ∧ i1_17_z ≤ 9999999) → (i2_18.toInt = i2_18_z) → (0 ≤ i2_18_z ∧ i2_18_z ≤ 400) → (i1_17_z = numF (tB S x) t0.2.1 (i2_18_z - (t0.2.1 : Int)).toNat) → ((t0.2.1 : Int) ≤ i2_18_z) → (i2_18_z ≤ (t0.2.2 : Int)) → (lv_has ls 3 [(1, .int (i1_17)), (2, .int (i2_18)), (0, .ref x)]) → W p l e ({ frames := 2, cells := 0, slots := 0, locals := 96 }) s m [.ref x].toArray below meth c H locs 0 0 QQ (F0 m 7 ls []) := by
    intro n
    induction n using Nat.strongRecOn with
    | ind n ih =>
    intro H locs ls i1_17 i1_17_z i2_18 i2_18_z hn hw hz_i1_17 hr_i1_17 hz_i2_18 hr_i2_18 iv_19 iv_20 iv_21 hl
    have rg_22 : (-2147483648) ≤ i1_17_z ∧ i1_17_z ≤ 2147483647 := by rw [← hz_i1_17]; exact ⟨z_lo _, z_hi _⟩
    have rg_23 : (-2147483648) ≤ i2_18_z ∧ i2_18_z ≤ 2147483647 := by rw [← hz_i2_18]; exact ⟨z_lo _, z_hi _⟩
    refine lv_iload_n X.1 X.2.1 dX10_numberAtHand_7 rfl (lv_at hl 1 rfl) ?_
    refine lv_aload_n X.1 X.2.1 dX10_numberAtHand_8 rfl (lv_at hl 2 rfl) ?_
    refine r_getI (g := 1006) (x := v_11) X hw ha_x rfl 6 ev_11 (by decide) rfl inn_X10_numberAtHand_10 (by decide) (X.2.2.2.1 (.fieldLink RX10 31 "SilkMill$Tape" "behind" "I") (by decide +kernel)) rfl (gv_1006 _ _) dX10_numberAtHand_9 ?_
    refine lv_icmp_ge (tgt := 35) X.1 X.2.1 dX10_numberAtHand_12 (by decide) (fun c_24 => ?_) (fun c_24 => ?_)
    · have z_b_25 := trivial
      have k_26 : i2_18_z ≥ v_11.toInt := z_le rfl hz_i2_18 c_24
      refine lv_iload_n X.1 X.2.1 dX10_numberAtHand_35 rfl (lv_at hl 0 rfl) ?_
      rw [hQQ]
      exact ret_i X hw hr hlocks (Nat.le_of_ble_eq_true rfl) (Nat.le_of_ble_eq_true rfl) ⟨rfl, ⟨by omega, by omega, by rw [show t0.2.2 - t0.2.1 = (i2_18_z - (t0.2.1 : Int)).toNat by omega]; omega⟩⟩ dX10_numberAtHand_36
    · have z_b_27 := trivial
      have k_28 : i2_18_z < v_11.toInt := z_nle rfl hz_i2_18 c_24
      refine lv_iload_n X.1 X.2.1 dX10_numberAtHand_15 rfl (lv_at hl 0 rfl) ?_
      refine lv_bipush (v := 10) X.1 X.2.1 dX10_numberAtHand_16 (by decide) ?_
      refine lv_imul X.1 X.2.1 dX10_numberAtHand_18 ?_
      refine lv_topi (fun v_29 ev_29 => ?_)
      have z_30 : v_29.toInt = i1_17_z * 10 := z_mul ev_29 hz_i1_17 ti_10 (by omega) (by omega)
      refine lv_aload_n X.1 X.2.1 dX10_numberAtHand_19 rfl (lv_at hl 2 rfl) ?_
      refine lv_iload_n X.1 X.2.1 dX10_numberAtHand_20 rfl (lv_at hl 1 rfl) ?_
      refine k_i (rm := { frames := 1, cells := 0, slots := 0, locals := 48 }) (av := [.ref x, .int (i2_18)]) X hw (va_runV (As := [.int (i2_18)]) (rest := [.int (v_29)]) (cfix X) (k_X10_byteAt2 l G cy κ S _ x (i2_18) (i2_18_z) hG ha_x hz_i2_18) (cwV 1 X.2.2.2.1 gX10_numberAtHand_X10_byteAt rfl rfl rfl (by decide +kernel) ⟨Nat.le_of_ble_eq_true rfl, Nat.le_of_ble_eq_true rfl⟩) (pre_V X hw _ ha_x rfl (by decide) rfl) rfl rfl hl.1 rfl (lv_room (Nat.le_of_ble_eq_true rfl)) dX10_numberAtHand_21 ⟨Nat.le_of_ble_eq_true rfl, Nat.le_of_ble_eq_true rfl⟩) 0 0 (Nat.le_of_ble_eq_true rfl) (Nat.le_of_ble_eq_true rfl) (fun rr_31 S_32 H locs hp hw hfr hnw => ?_)
      obtain ⟨e2, hp⟩ := hp
      subst e2
      have rg_34 := And.intro (z_lo rr_31) (z_hi rr_31)
      have by_33 := hp (by omega)
      have dg_35 : 48 ≤ rr_31.toInt ∧ rr_31.toInt ≤ 57 := by have h := of_decide_eq_true (hp_4 (i2_18_z).toNat (by omega) (by omega)); rw [← by_33] at h; exact h
      have nr_36 := numF_rng (B := tB S x) (s := t0.2.1) (k := (i2_18_z - (t0.2.1 : Int)).toNat + 1) (fun j hj => of_decide_eq_true (hp_4 (t0.2.1 + j) (by omega) (by omega))) (by omega)
      rw [numF_s, show t0.2.1 + (i2_18_z - (t0.2.1 : Int)).toNat = (i2_18_z).toNat by omega, ← by_33] at nr_36
      refine lv_iadd X.1 X.2.1 dX10_numberAtHand_24 ?_
      refine lv_topi (fun v_37 ev_37 => ?_)
      have z_38 : v_37.toInt = v_29.toInt + rr_31.toInt := z_add ev_37 rfl rfl (by omega) (by omega)
      refine lv_bipush (v := 48) X.1 X.2.1 dX10_numberAtHand_25 (by decide) ?_
      refine lv_isub X.1 X.2.1 dX10_numberAtHand_27 ?_
      refine lv_topi (fun v_39 ev_39 => ?_)
      have z_40 : v_39.toInt = v_37.toInt - 48 := z_sub ev_39 rfl ti_48 (by omega) (by omega)
      refine lv_istore_n (lv' := [(1, .int (v_39)), (2, .int (i2_18)), (0, .ref x)]) X.1 X.2.1 dX10_numberAtHand_28 rfl hl (by decide) rfl (fun ls hl => ?_)
      obtain ⟨x_41, ex_41⟩ : ∃ y : Int32, y = i2_18 + 1 := ⟨_, rfl⟩
      have z_42 : x_41.toInt = i2_18_z + 1 := z_add ex_41 hz_i2_18 ti_1 (by omega) (by omega)
      refine lv_iinc (v := x_41) (lv' := [(2, .int (x_41)), (1, .int (v_39)), (0, .ref x)]) X.1 X.2.1 dX10_numberAtHand_29 hl (k := 1) rfl (by rw [ex_41]; rfl) (by decide) rfl (fun ls hl => ?_)
      refine lv_goto (tgt := 7) X.1 X.2.1 dX10_numberAtHand_32 (by decide) ?_
      exact ih _ (by omega) _ _ _ (v_39) (v_39.toInt) (x_41) (x_41.toInt) rfl hw rfl (by omega) rfl (by omega) (by rw [show (x_41.toInt - (t0.2.1 : Int)).toNat = (i2_18_z - (t0.2.1 : Int)).toNat + 1 by omega, numF_s, show t0.2.1 + (i2_18_z - (t0.2.1 : Int)).toNat = (i2_18_z).toNat by omega, ← by_33]; omega) (by omega) (by omega) (lv_sub hl [1, 0, 2] rfl)
  exact L_16 _ _ _ _ (0) (0) (v_6) (v_6.toInt) rfl hw ti_0 (by omega) rfl (by omega) (by rw [show (v_6.toInt - (t0.2.1 : Int)).toNat = 0 by omega]; rfl) (by omega) (by omega) (lv_sub hl [1, 0, 2] rfl)
