
set_option maxHeartbeats 4000000 in
set_option maxRecDepth 100000 in
theorem k_X11_price8 (l : Launch) (G : va_G) (cy : Nat → ClassId) (κ : Nat → Nat) (S : PS) (sz : Nat) (x : Nat) (a1 : Int32) (a1_z : Int) (a2 : Int32) (a2_z : Int) (hG : GX S) (ha_x : At S x 11) (hz_a1 : a1.toInt = a1_z) (hz_a2 : a2.toInt = a2_z) : Ci l yX11_price wsX11_price ({ frames := 2, cells := 0, slots := 0, locals := 96 }) G cy κ S sz [.ref x, .int (a1), .int (a2)] (fun (r : Int32) (S9 : PS) => Ok ePR S S9 ∧ ((((0 ≤ a1_z ∧ a1_z ≤ 3 ∧ 0 ≤ a2_z ∧ a2_z ≤ 1000) ∧ ∀ K, pR S 1107 x = some K → ∀ j, zA S9 K 807 j = if j = a1_z.toNat then a2_z else zA S K 807 j) ∧ r = 1) ∨ ((¬ (0 ≤ a1_z ∧ a1_z ≤ 3 ∧ 0 ≤ a2_z ∧ a2_z ≤ 1000) ∧ S9 = S) ∧ r = 0))) := by
  refine ent_m (cc := cX11_price) (maxL := 3) (ret := (some .boolean)) (by decide) rfl (Nat.le_of_ble_eq_true rfl) ?_
  intro p e s m below meth c ls X hr hlocks hin hw hl hsz
  subst hsz
  have X : Cx p c cX11_price 3 s [.ref x, .int (a1), .int (a2)].toArray wsX11_price RX11 m G cy κ (AS S s.heap.size) := X
  have hl : lv_has ls 3 [(0, .ref x), (1, .int (a1)), (2, .int (a2))] := hl
  have rg_a1 : (-2147483648) ≤ a1_z ∧ a1_z ≤ 2147483647 := by rw [← hz_a1]; exact ⟨z_lo _, z_hi _⟩
  have rg_a2 : (-2147483648) ≤ a2_z ∧ a2_z ≤ 2147483647 := by rw [← hz_a2]; exact ⟨z_lo _, z_hi _⟩
  have hO : Ok ePR S S := Ok.rf hG
  refine lv_iload_n X.1 X.2.1 dX11_price_0 rfl (lv_at hl 1 rfl) ?_
  refine lv_iconst (v := 0) X.1 X.2.1 dX11_price_1 (by decide) ?_
  refine lv_iconst (v := 3) X.1 X.2.1 dX11_price_2 (by decide) ?_
  refine k_i (rm := { frames := 1, cells := 0, slots := 0, locals := 48 }) (av := [.int (a1), .int 0, .int 3]) X hw (va_runS (As := [.int (a1), .int 0, .int 3]) (rest := []) (cfix X) (k_X11_isWithin l G cy κ S _ (a1) (a1_z) (0) (0) (3) (3) hO.1 hz_a1 ti_0 ti_3) (cwS 3 X.2.2.2.1 gX11_price_X11_isWithin rfl rfl rfl (by decide +kernel) ⟨Nat.le_of_ble_eq_true rfl, Nat.le_of_ble_eq_true rfl⟩) (pre_S X hw _) rfl rfl hl.1 rfl (lv_room (Nat.le_of_ble_eq_true rfl)) dX11_price_3 ⟨Nat.le_of_ble_eq_true rfl, Nat.le_of_ble_eq_true rfl⟩) 0 0 (Nat.le_of_ble_eq_true rfl) (Nat.le_of_ble_eq_true rfl) (fun rr_1 S_2 H locs hp hw hfr hnw => ?_)
  obtain ⟨e2, hp⟩ := hp
  subst e2
  rcases hp with ⟨f_3, er_4⟩ | ⟨f_3, er_4⟩ <;> subst er_4
  · have z_b_5 := trivial
    refine lv_if_eq (tgt := 20) X.1 X.2.1 dX11_price_6 (by decide) (fun c_6 => absurd c_6 (by decide)) (fun c_6 => ?_)
    refine lv_iload_n X.1 X.2.1 dX11_price_9 rfl (lv_at hl 2 rfl) ?_
    refine lv_iconst (v := 0) X.1 X.2.1 dX11_price_10 (by decide) ?_
    refine lv_sipush (v := 1000) X.1 X.2.1 dX11_price_11 (by decide) ?_
    refine k_i (rm := { frames := 1, cells := 0, slots := 0, locals := 48 }) (av := [.int (a2), .int 0, .int 1000]) X hw (va_runS (As := [.int (a2), .int 0, .int 1000]) (rest := []) (cfix X) (k_X11_isWithin l G cy κ S _ (a2) (a2_z) (0) (0) (1000) (1000) hO.1 hz_a2 ti_0 ti_1000) (cwS 3 X.2.2.2.1 gX11_price_X11_isWithin rfl rfl rfl (by decide +kernel) ⟨Nat.le_of_ble_eq_true rfl, Nat.le_of_ble_eq_true rfl⟩) (pre_S X hw _) rfl rfl hl.1 rfl (lv_room (Nat.le_of_ble_eq_true rfl)) dX11_price_14 ⟨Nat.le_of_ble_eq_true rfl, Nat.le_of_ble_eq_true rfl⟩) 0 0 (Nat.le_of_ble_eq_true rfl) (Nat.le_of_ble_eq_true rfl) (fun rr_7 S_8 H locs hp hw hfr hnw => ?_)
    obtain ⟨e2, hp⟩ := hp
    subst e2
    rcases hp with ⟨f_9, er_10⟩ | ⟨f_9, er_10⟩ <;> subst er_10
    · have z_b_11 := trivial
      refine lv_if_ne (tgt := 22) X.1 X.2.1 dX11_price_17 (by decide) (fun c_12 => ?_) (fun c_12 => absurd c_12 (by decide))
      refine lv_aload_n X.1 X.2.1 dX11_price_22 rfl (lv_at hl 0 rfl) ?_
      obtain ⟨q_13, h_14, h_15⟩ := gQ_11_1107 hO.1 ha_x
      refine r_getR (g := 1107) X hw ha_x rfl 7 h_14 (by decide) rfl inn_X11_price_11 (by decide) (X.2.2.2.1 (.fieldLink RX11 42 "SilkMill" "store" "LSilkMill$Store;") (by decide +kernel)) rfl (gv_1107 _ _) dX11_price_23 ?_
      obtain ⟨q_17, h_18, h_19, h_20⟩ := gQ_8_807 hO.1 h_15
      refine r_getR (g := 807) X hw h_15 rfl 7 h_18 (by decide) rfl inn_X11_price_8 (by decide) (X.2.2.2.1 (.fieldLink RX11 339 "SilkMill$Store" "prices" "[I") (by decide +kernel)) rfl (gv_807 _ _) dX11_price_26 ?_
      refine lv_iload_n X.1 X.2.1 dX11_price_29 rfl (lv_at hl 1 rfl) ?_
      refine lv_iload_n X.1 X.2.1 dX11_price_30 rfl (lv_at hl 2 rfl) ?_
      refine r_iast X hw h_19 rfl (by rw [h_20]; exact z_ix hz_a1 (by omega) (by omega)) dX11_price_31 (fun H locs hw => ?_)
      obtain ⟨S_21, eS_21⟩ : ∃ T, T = sA S q_17 (upd (pA S q_17) (Int32.toNatClampNeg (a1)) (a2)) := ⟨_, rfl⟩
      rw [← eS_21] at hw
      have hO_22 : Ok ePR S S_21 := hO.sA eS_21 h_19 (by decide +kernel) (uA_154 hO.1 h_19 (by omega) (by omega))
      have h_23 : pA S_21 q_17 (Int32.toNatClampNeg (a1)) = a2 := tA_sAs eS_21
      have t_24 : pR S_21 1107 x = some q_13 := tR_sA eS_21 h_14
      have t_25 : pR S_21 807 q_13 = some q_17 := tR_sA eS_21 h_18
      have t_26 : pR S 807 q_13 = some q_17 := by have h := t_25; rw [eS_21, pR_sA] at h; exact h
      have zs_27 : ∀ j, zA S_21 q_13 807 j = if j = (a1_z).toNat then a2_z else zA S q_13 807 j := by have h := zA_sAs eS_21 t_26 hz_a2; rw [z_nc hz_a1 (by omega)] at h; exact h
      refine lv_iconst (v := 1) X.1 X.2.1 dX11_price_32 (by decide) ?_
      exact ret_z X hw hr hlocks (Nat.le_of_ble_eq_true rfl) (Nat.le_of_ble_eq_true rfl) (by decide) ⟨hO_22, Or.inl ⟨⟨by omega, fun K hK => (by rw [h_14] at hK; cases hK; exact zs_27)⟩, rfl⟩⟩ dX11_price_33
    · have z_b_28 := trivial
      refine lv_if_ne (tgt := 22) X.1 X.2.1 dX11_price_17 (by decide) (fun c_29 => absurd c_29 (by decide)) (fun c_29 => ?_)
      refine lv_iconst (v := 0) X.1 X.2.1 dX11_price_20 (by decide) ?_
      exact ret_z X hw hr hlocks (Nat.le_of_ble_eq_true rfl) (Nat.le_of_ble_eq_true rfl) (by decide) ⟨hO, Or.inr ⟨⟨by omega, rfl⟩, rfl⟩⟩ dX11_price_21
  · have z_b_30 := trivial
    refine lv_if_eq (tgt := 20) X.1 X.2.1 dX11_price_6 (by decide) (fun c_31 => ?_) (fun c_31 => absurd c_31 (by decide))
    refine lv_iconst (v := 0) X.1 X.2.1 dX11_price_20 (by decide) ?_
    exact ret_z X hw hr hlocks (Nat.le_of_ble_eq_true rfl) (Nat.le_of_ble_eq_true rfl) (by decide) ⟨hO, Or.inr ⟨⟨by omega, rfl⟩, rfl⟩⟩ dX11_price_21
set_option maxHeartbeats 4000000 in
set_option maxRecDepth 100000 in
theorem k_X12_price8 (l : Launch) (G : va_G) (cy : Nat → ClassId) (κ : Nat → Nat) (S : PS) (sz : Nat) (x : Nat) (a1 : Int32) (a1_z : Int) (a2 : Int32) (a2_z : Int) (hG : GX S) (ha_x : At S x 12) (hz_a1 : a1.toInt = a1_z) (hz_a2 : a2.toInt = a2_z) : Ci l yX12_price wsX12_price ({ frames := 2, cells := 0, slots := 0, locals := 96 }) G cy κ S sz [.ref x, .int (a1), .int (a2)] (fun (r : Int32) (S9 : PS) => Ok Mpr S S9 ∧ ((((0 ≤ a1_z ∧ a1_z ≤ 3 ∧ 0 ≤ a2_z ∧ a2_z ≤ 1000) ∧ ∀ j, zA S9 x 1248 j = if j = a1_z.toNat then a2_z else zA S x 1248 j) ∧ r = 1) ∨ ((¬ (0 ≤ a1_z ∧ a1_z ≤ 3 ∧ 0 ≤ a2_z ∧ a2_z ≤ 1000) ∧ S9 = sI S 1200 x 0) ∧ r = 0))) := by
  refine ent_m (cc := cX12_price) (maxL := 3) (ret := (some .boolean)) (by decide) rfl (Nat.le_of_ble_eq_true rfl) ?_
  intro p e s m below meth c ls X hr hlocks hin hw hl hsz
  subst hsz
  have X : Cx p c cX12_price 3 s [.ref x, .int (a1), .int (a2)].toArray wsX12_price RX12 m G cy κ (AS S s.heap.size) := X
  have hl : lv_has ls 3 [(0, .ref x), (1, .int (a1)), (2, .int (a2))] := hl
  have rg_a1 : (-2147483648) ≤ a1_z ∧ a1_z ≤ 2147483647 := by rw [← hz_a1]; exact ⟨z_lo _, z_hi _⟩
  have rg_a2 : (-2147483648) ≤ a2_z ∧ a2_z ≤ 2147483647 := by rw [← hz_a2]; exact ⟨z_lo _, z_hi _⟩
  have hO : Ok Mpr S S := Ok.rf hG
  refine lv_aload_n X.1 X.2.1 dX12_price_0 rfl (lv_at hl 0 rfl) ?_
  refine lv_iconst (v := 0) X.1 X.2.1 dX12_price_1 (by decide) ?_
  refine r_putI (v := 0) X hw ha_x rfl 0 1200 tyX12 (by decide) rfl inn_X12_price_12 tyX12_ok nmX12 (by decide) (X.2.2.2.1 (.fieldLink RX12 161 "SilkMillModel" "thrown" "I") (by decide +kernel)) rfl (Or.inl rfl) rfl rfl (Nat.le_of_ble_eq_true rfl) (st_1200 _ _) dX12_price_2 (fun H locs hw => ?_)
  obtain ⟨S_1, eS_1⟩ : ∃ T, T = sI S 1200 x (0) := ⟨_, rfl⟩
  rw [← eS_1] at hw
  have hO_2 : Ok Mpr S S_1 := hO.sI eS_1 (by decide +kernel) (uI_12_1200 hO.1 ha_x)
  have h_3 : pI S_1 1200 x = 0 := tI_sIs eS_1
  refine lv_iload_n X.1 X.2.1 dX12_price_5 rfl (lv_at hl 1 rfl) ?_
  refine lv_iconst (v := 0) X.1 X.2.1 dX12_price_6 (by decide) ?_
  refine lv_iconst (v := 3) X.1 X.2.1 dX12_price_7 (by decide) ?_
  refine k_i (rm := { frames := 1, cells := 0, slots := 0, locals := 48 }) (av := [.int (a1), .int 0, .int 3]) X hw (va_runS (As := [.int (a1), .int 0, .int 3]) (rest := []) (cfix X) (k_X12_within l G cy κ S_1 _ (a1) (a1_z) (0) (0) (3) (3) hO_2.1 hz_a1 ti_0 ti_3) (cwS 3 X.2.2.2.1 gX12_price_X12_within rfl rfl rfl (by decide +kernel) ⟨Nat.le_of_ble_eq_true rfl, Nat.le_of_ble_eq_true rfl⟩) (pre_S X hw _) rfl rfl hl.1 rfl (lv_room (Nat.le_of_ble_eq_true rfl)) dX12_price_8 ⟨Nat.le_of_ble_eq_true rfl, Nat.le_of_ble_eq_true rfl⟩) 0 0 (Nat.le_of_ble_eq_true rfl) (Nat.le_of_ble_eq_true rfl) (fun rr_4 S_5 H locs hp hw hfr hnw => ?_)
  obtain ⟨e2, hp⟩ := hp
  subst e2
  rcases hp with ⟨f_6, er_7⟩ | ⟨f_6, er_7⟩ <;> subst er_7
  · have z_b_8 := trivial
    refine lv_if_eq (tgt := 25) X.1 X.2.1 dX12_price_11 (by decide) (fun c_9 => absurd c_9 (by decide)) (fun c_9 => ?_)
    refine lv_iload_n X.1 X.2.1 dX12_price_14 rfl (lv_at hl 2 rfl) ?_
    refine lv_iconst (v := 0) X.1 X.2.1 dX12_price_15 (by decide) ?_
    refine lv_sipush (v := 1000) X.1 X.2.1 dX12_price_16 (by decide) ?_
    refine k_i (rm := { frames := 1, cells := 0, slots := 0, locals := 48 }) (av := [.int (a2), .int 0, .int 1000]) X hw (va_runS (As := [.int (a2), .int 0, .int 1000]) (rest := []) (cfix X) (k_X12_within l G cy κ S_1 _ (a2) (a2_z) (0) (0) (1000) (1000) hO_2.1 hz_a2 ti_0 ti_1000) (cwS 3 X.2.2.2.1 gX12_price_X12_within rfl rfl rfl (by decide +kernel) ⟨Nat.le_of_ble_eq_true rfl, Nat.le_of_ble_eq_true rfl⟩) (pre_S X hw _) rfl rfl hl.1 rfl (lv_room (Nat.le_of_ble_eq_true rfl)) dX12_price_19 ⟨Nat.le_of_ble_eq_true rfl, Nat.le_of_ble_eq_true rfl⟩) 0 0 (Nat.le_of_ble_eq_true rfl) (Nat.le_of_ble_eq_true rfl) (fun rr_10 S_11 H locs hp hw hfr hnw => ?_)
    obtain ⟨e2, hp⟩ := hp
    subst e2
    rcases hp with ⟨f_12, er_13⟩ | ⟨f_12, er_13⟩ <;> subst er_13
    · have z_b_14 := trivial
      refine lv_if_ne (tgt := 27) X.1 X.2.1 dX12_price_22 (by decide) (fun c_15 => ?_) (fun c_15 => absurd c_15 (by decide))
      refine lv_aload_n X.1 X.2.1 dX12_price_27 rfl (lv_at hl 0 rfl) ?_
      have t_16 : At S_1 x 12 := tAt_sI eS_1 ha_x
      obtain ⟨q_17, h_18, h_19, h_20⟩ := gQ_12_1248 hO_2.1 t_16
      refine r_getR (g := 1248) X hw t_16 rfl 48 h_18 (by decide) rfl inn_X12_price_12 (by decide) (X.2.2.2.1 (.fieldLink RX12 119 "SilkMillModel" "price" "[I") (by decide +kernel)) rfl (gv_1248 _ _) dX12_price_28 ?_
      refine lv_iload_n X.1 X.2.1 dX12_price_31 rfl (lv_at hl 1 rfl) ?_
      refine lv_iload_n X.1 X.2.1 dX12_price_32 rfl (lv_at hl 2 rfl) ?_
      refine r_iast X hw h_19 rfl (by rw [h_20]; exact z_ix hz_a1 (by omega) (by omega)) dX12_price_33 (fun H locs hw => ?_)
      obtain ⟨S_21, eS_21⟩ : ∃ T, T = sA S_1 q_17 (upd (pA S_1 q_17) (Int32.toNatClampNeg (a1)) (a2)) := ⟨_, rfl⟩
      rw [← eS_21] at hw
      have hO_22 : Ok Mpr S S_21 := hO_2.sA eS_21 h_19 (by decide +kernel) (uA_1174 hO_2.1 h_19)
      have h_23 : pA S_21 q_17 (Int32.toNatClampNeg (a1)) = a2 := tA_sAs eS_21
      have zc_24 : zA S_1 x 1248 = zA S x 1248 := zA_sI eS_1
      have t_25 : pR S_21 1248 x = some q_17 := tR_sA eS_21 h_18
      have t_27 : pR S_1 1248 x = some q_17 := by have h := t_25; rw [eS_21, pR_sA] at h; exact h
      have zs_26 : ∀ j, zA S_21 x 1248 j = if j = (a1_z).toNat then a2_z else zA S_1 x 1248 j := by have h := zA_sAs eS_21 t_27 hz_a2; rw [z_nc hz_a1 (by omega)] at h; exact h
      have zs_28 : ∀ j, zA S_21 x 1248 j = if j = (a1_z).toNat then a2_z else zA S x 1248 j := fun j => by rw [zs_26 j, zc_24]
      refine lv_iconst (v := 1) X.1 X.2.1 dX12_price_34 (by decide) ?_
      have zc_29 : zA S_1 x 1248 = zA S x 1248 := zA_sI eS_1
      exact ret_z X hw hr hlocks (Nat.le_of_ble_eq_true rfl) (Nat.le_of_ble_eq_true rfl) (by decide) ⟨hO_22, Or.inl ⟨⟨by omega, fun j => (by rw [zs_28 j, show (a1_z).toNat = a1_z.toNat by omega])⟩, rfl⟩⟩ dX12_price_35
    · have z_b_30 := trivial
      refine lv_if_ne (tgt := 27) X.1 X.2.1 dX12_price_22 (by decide) (fun c_31 => absurd c_31 (by decide)) (fun c_31 => ?_)
      refine lv_iconst (v := 0) X.1 X.2.1 dX12_price_25 (by decide) ?_
      exact ret_z X hw hr hlocks (Nat.le_of_ble_eq_true rfl) (Nat.le_of_ble_eq_true rfl) (by decide) ⟨hO_2, Or.inr ⟨⟨by omega, eS_1⟩, rfl⟩⟩ dX12_price_26
  · have z_b_32 := trivial
    refine lv_if_eq (tgt := 25) X.1 X.2.1 dX12_price_11 (by decide) (fun c_33 => ?_) (fun c_33 => absurd c_33 (by decide))
    refine lv_iconst (v := 0) X.1 X.2.1 dX12_price_25 (by decide) ?_
    exact ret_z X hw hr hlocks (Nat.le_of_ble_eq_true rfl) (Nat.le_of_ble_eq_true rfl) (by decide) ⟨hO_2, Or.inr ⟨⟨by omega, eS_1⟩, rfl⟩⟩ dX12_price_26
