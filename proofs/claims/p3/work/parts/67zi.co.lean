
set_option maxHeartbeats 4000000 in
set_option maxRecDepth 100000 in
theorem k_X12_silk9 (l : Launch) (G : va_G) (cy : Nat → ClassId) (κ : Nat → Nat) (S : PS) (sz : Nat) (x : Nat) (a1 : Int32) (a1_z : Int) (a2 : Int32) (a2_z : Int) (a3 : Int32) (a3_z : Int) (hG : GX S) (ha_x : At S x 12) (hz_a1 : a1.toInt = a1_z) (hz_a2 : a2.toInt = a2_z) (hz_a3 : a3.toInt = a3_z) (hp_0 : 0 ≤ a1_z) (hp_1 : a1_z ≤ 599) (hp_2 : 0 ≤ a2_z) (hp_3 : a3_z ≤ 220) (hp_4 : a3_z ≤ lenZ S x a1_z) : Ci l yX12_silk wsX12_silk ({ frames := 4, cells := 0, slots := 0, locals := 192 }) G cy κ S sz [.ref x, .int (a1), .int (a2), .int (a3)] (fun (r : Int32) (S9 : PS) => S = S9 ∧ (-2147483648 ≤ r.toInt ∧ r.toInt ≤ 2147483647 ∧ r = slZ S x a1_z a2_z (a3_z - a2_z).toNat)) := by
  refine ent_m (cc := cX12_silk) (maxL := 6) (ret := (some .int)) (by decide) rfl (Nat.le_of_ble_eq_true rfl) ?_
  intro p e s m below meth c ls X hr hlocks hin hw hl hsz
  subst hsz
  have X : Cx p c cX12_silk 6 s [.ref x, .int (a1), .int (a2), .int (a3)].toArray wsX12_silk RX12 m G cy κ (AS S s.heap.size) := X
  have hl : lv_has ls 6 [(0, .ref x), (1, .int (a1)), (2, .int (a2)), (3, .int (a3))] := hl
  have rg_a1 : (-2147483648) ≤ a1_z ∧ a1_z ≤ 2147483647 := by rw [← hz_a1]; exact ⟨z_lo _, z_hi _⟩
  have rg_a2 : (-2147483648) ≤ a2_z ∧ a2_z ≤ 2147483647 := by rw [← hz_a2]; exact ⟨z_lo _, z_hi _⟩
  have rg_a3 : (-2147483648) ≤ a3_z ∧ a3_z ≤ 2147483647 := by rw [← hz_a3]; exact ⟨z_lo _, z_hi _⟩
  generalize hQQ : MQ below _ _ _ _ _ _ = QQ
  replace hQQ := hQQ.symm
  refine lv_iconst (v := 0) X.1 X.2.1 dX12_silk_0 (by decide) ?_
  refine lv_istore (lv' := [(4, .int 0), (0, .ref x), (1, .int (a1)), (2, .int (a2)), (3, .int (a3))]) X.1 X.2.1 dX12_silk_1 hl (by decide) rfl (fun ls hl => ?_)
  refine lv_iload_n X.1 X.2.1 dX12_silk_3 rfl (lv_at hl 3 rfl) ?_
  refine lv_istore (lv' := [(5, .int (a2)), (4, .int 0), (0, .ref x), (1, .int (a1)), (2, .int (a2)), (3, .int (a3))]) X.1 X.2.1 dX12_silk_4 hl (by decide) rfl (fun ls hl => ?_)
  have L_1 : ∀ (n : Nat) (H : Heap) (locs : List Loc) (ls : Array Slot) (i4_2 : Int32) (i4_2_z : Int) (i5_3 : Int32) (i5_3_z : Int), ((a3_z - i5_3_z).toNat = n) → (Wd G cy (AS S s.heap.size) s.heap S H locs) → (i4_2.toInt = i4_2_z) → (i5_3.toInt = i5_3_z) → (0 ≤ i5_3_z ∧ i5_3_z ≤ 2147483647) → ((i4_2) = slZ S x a1_z a2_z (i5_3_z - a2_z).toNat) → (a2_z ≤ i5_3_z) → (i5_3_z ≤ a3_z ∨ i5_3_z = a2_z) → (lv_has ls 6 [(4, .int (i4_2)), (5, .int (i5_3)), (0, .ref x), (1, .int (a1)), (2, .int (a2)), (3, .int (a3))]) → W p l e ({ frames := 4, cells := 0, slots := 0, locals := 192 }) s m [.ref x, .int (a1), .int (a2), .int (a3)].toArray below meth c H locs 0 0 QQ (F0 m 6 ls []) := by
    intro n
    induction n using Nat.strongRecOn with
    | ind n ih_L_1 =>
    intro H locs ls i4_2 i4_2_z i5_3 i5_3_z hn hw hz_i4_2 hz_i5_3 hr_i5_3 iv_4 iv_5 iv_6 hl
    have rg_7 : (-2147483648) ≤ i4_2_z ∧ i4_2_z ≤ 2147483647 := by rw [← hz_i4_2]; exact ⟨z_lo _, z_hi _⟩
    have rg_8 : (-2147483648) ≤ i5_3_z ∧ i5_3_z ≤ 2147483647 := by rw [← hz_i5_3]; exact ⟨z_lo _, z_hi _⟩
    refine lv_iload X.1 X.2.1 dX12_silk_6 (lv_at hl 1 rfl) ?_
    refine lv_iload_n X.1 X.2.1 dX12_silk_8 rfl (lv_at hl 5 rfl) ?_
    refine lv_icmp_ge (tgt := 30) X.1 X.2.1 dX12_silk_9 (by decide) (fun c_9 => ?_) (fun c_9 => ?_)
    · have z_b_10 := trivial
      have k_11 : i5_3_z ≥ a3_z := z_le hz_a3 hz_i5_3 c_9
      refine lv_iload X.1 X.2.1 dX12_silk_30 (lv_at hl 0 rfl) ?_
      rw [hQQ]
      exact ret_i X hw hr hlocks (Nat.le_of_ble_eq_true rfl) (Nat.le_of_ble_eq_true rfl) ⟨rfl, ⟨z_lo _, z_hi _, by rw [iv_4, show (i5_3_z - a2_z).toNat = (a3_z - a2_z).toNat by omega]⟩⟩ dX12_silk_32
    · have z_b_12 := trivial
      have k_13 : i5_3_z < a3_z := z_nle hz_a3 hz_i5_3 c_9
      refine lv_iload X.1 X.2.1 dX12_silk_12 (lv_at hl 0 rfl) ?_
      refine lv_aload_n X.1 X.2.1 dX12_silk_14 rfl (lv_at hl 2 rfl) ?_
      refine lv_iload_n X.1 X.2.1 dX12_silk_15 rfl (lv_at hl 3 rfl) ?_
      refine lv_iload X.1 X.2.1 dX12_silk_16 (lv_at hl 1 rfl) ?_
      refine k_i (rm := { frames := 3, cells := 0, slots := 0, locals := 144 }) (av := [.ref x, .int (a1), .int (i5_3)]) X hw (va_runV (As := [.int (a1), .int (i5_3)]) (rest := [.int (i4_2)]) (cfix X) (k_X12_fineOf2 l G cy κ S _ x (a1) (a1_z) (i5_3) (i5_3_z) hG ha_x hz_a1 hz_i5_3 (by first | assumption | omega) (by first | assumption | omega) (by first | assumption | omega) (by first | assumption | omega) (by first | assumption | omega)) (cwV 2 X.2.2.2.1 gX12_silk_X12_fineOf rfl rfl rfl (by decide +kernel) ⟨Nat.le_of_ble_eq_true rfl, Nat.le_of_ble_eq_true rfl⟩) (pre_V X hw _ ha_x rfl (by decide) rfl) rfl rfl hl.1 rfl (lv_room (Nat.le_of_ble_eq_true rfl)) dX12_silk_18 ⟨Nat.le_of_ble_eq_true rfl, Nat.le_of_ble_eq_true rfl⟩) 0 0 (Nat.le_of_ble_eq_true rfl) (Nat.le_of_ble_eq_true rfl) (fun rr_14 S_15 H locs hp hw hfr hnw => ?_)
      obtain ⟨e2, hp⟩ := hp
      subst e2
      obtain ⟨fo_16, fo_17, fo_18⟩ := hp
      refine lv_iadd X.1 X.2.1 dX12_silk_21 ?_
      refine lv_topi (fun v_19 ev_19 => ?_)
      have rg_20 := And.intro (z_lo v_19) (z_hi v_19)
      refine lv_istore (lv' := [(4, .int (v_19)), (5, .int (i5_3)), (0, .ref x), (1, .int (a1)), (2, .int (a2)), (3, .int (a3))]) X.1 X.2.1 dX12_silk_22 hl (by decide) rfl (fun ls hl => ?_)
      obtain ⟨x_21, ex_21⟩ : ∃ y : Int32, y = i5_3 + 1 := ⟨_, rfl⟩
      have z_22 : x_21.toInt = i5_3_z + 1 := z_add ex_21 hz_i5_3 ti_1 (by omega) (by omega)
      refine lv_iinc (v := x_21) (lv' := [(5, .int (x_21)), (4, .int (v_19)), (0, .ref x), (1, .int (a1)), (2, .int (a2)), (3, .int (a3))]) X.1 X.2.1 dX12_silk_24 hl (k := 1) rfl (by rw [ex_21]; rfl) (by decide) rfl (fun ls hl => ?_)
      refine lv_goto (tgt := 6) X.1 X.2.1 dX12_silk_27 (by decide) ?_
      exact ih_L_1 _ (by omega) _ _ _ (v_19) (v_19.toInt) (x_21) (x_21.toInt) rfl hw rfl rfl (by omega) (by rw [show (x_21.toInt - a2_z).toNat = (i5_3_z - a2_z).toNat + 1 by omega, slZ_s (show a2_z + (((i5_3_z - a2_z).toNat : Nat) : Int) = i5_3_z by omega), ← iv_4, ev_19]; exact congrArg (fun y => i4_2 + y) (oi_o fo_18)) (by omega) (by omega) (lv_sub hl [1, 0, 2, 3, 4, 5] rfl)
  exact L_1 _ _ _ _ (0) (0) (a2) (a2_z) rfl hw ti_0 hz_a2 (by omega) (by rw [show (a2_z - a2_z).toNat = 0 by omega]; rfl) (by omega) (by omega) (lv_sub hl [1, 0, 2, 3, 4, 5] rfl)
set_option maxHeartbeats 4000000 in
set_option maxRecDepth 100000 in
theorem k_X12_cocoon9 (l : Launch) (G : va_G) (cy : Nat → ClassId) (κ : Nat → Nat) (S : PS) (sz : Nat) (x : Nat) (a1 : Int32) (a1_z : Int) (a2 : Int32) (a2_z : Int) (a3 : Int32) (a3_z : Int) (hG : GX S) (ha_x : At S x 12) (hz_a1 : a1.toInt = a1_z) (hz_a2 : a2.toInt = a2_z) (hz_a3 : a3.toInt = a3_z) (hp_0 : MI S x) : Ci l yX12_cocoon wsX12_cocoon ({ frames := 5, cells := 0, slots := 0, locals := 240 }) G cy κ S sz [.ref x, .int (a1), .int (a2), .int (a3)] (fun (r : Int32) (S9 : PS) => Ok MN S S9 ∧ (-2147483648 ≤ r.toInt ∧ r.toInt ≤ 2147483647 ∧ ((0 ≤ a1_z ∧ a1_z < (pI S 1201 x).toInt ∧ 0 ≤ a2_z ∧ a2_z < zA S x 1202 a1_z.toNat) → r.toInt = coZ S x (60 * a1_z + a2_z) a3_z) ∧ (¬ (0 ≤ a1_z ∧ a1_z < (pI S 1201 x).toInt ∧ 0 ≤ a2_z ∧ a2_z < zA S x 1202 a1_z.toNat) → r.toInt = -1))) := by
  refine ent_m (cc := cX12_cocoon) (maxL := 5) (ret := (some .int)) (by decide) rfl (Nat.le_of_ble_eq_true rfl) ?_
  intro p e s m below meth c ls X hr hlocks hin hw hl hsz
  subst hsz
  have X : Cx p c cX12_cocoon 5 s [.ref x, .int (a1), .int (a2), .int (a3)].toArray wsX12_cocoon RX12 m G cy κ (AS S s.heap.size) := X
  have hl : lv_has ls 5 [(0, .ref x), (1, .int (a1)), (2, .int (a2)), (3, .int (a3))] := hl
  have rg_a1 : (-2147483648) ≤ a1_z ∧ a1_z ≤ 2147483647 := by rw [← hz_a1]; exact ⟨z_lo _, z_hi _⟩
  have rg_a2 : (-2147483648) ≤ a2_z ∧ a2_z ≤ 2147483647 := by rw [← hz_a2]; exact ⟨z_lo _, z_hi _⟩
  have rg_a3 : (-2147483648) ≤ a3_z ∧ a3_z ≤ 2147483647 := by rw [← hz_a3]; exact ⟨z_lo _, z_hi _⟩
  have hO : Ok MN S S := Ok.rf hG
  obtain ⟨v_1, ev_1⟩ : ∃ v, pI S 1201 x = v := ⟨_, rfl⟩
  have rg_2 := gI_12_1201 hO.1 ha_x; rw [ev_1] at rg_2
  have pz_3 : (pI S 1201 x).toInt = v_1.toInt := by rw [ev_1]
  have pz_4 : (pI S 1201 x).toInt = v_1.toInt := (congrArg Int32.toInt ev_1).trans rfl
  refine lv_aload_n X.1 X.2.1 dX12_cocoon_0 rfl (lv_at hl 0 rfl) ?_
  refine lv_iconst (v := 0) X.1 X.2.1 dX12_cocoon_1 (by decide) ?_
  refine r_putI (v := 0) X hw ha_x rfl 0 1200 tyX12 (by decide) rfl inn_X12_cocoon_12 tyX12_ok nmX12 (by decide) (X.2.2.2.1 (.fieldLink RX12 161 "SilkMillModel" "thrown" "I") (by decide +kernel)) rfl (Or.inl rfl) rfl rfl (Nat.le_of_ble_eq_true rfl) (st_1200 _ _) dX12_cocoon_2 (fun H locs hw => ?_)
  obtain ⟨S_5, eS_5⟩ : ∃ T, T = sI S 1200 x (0) := ⟨_, rfl⟩
  rw [← eS_5] at hw
  have hO_6 : Ok MN S S_5 := hO.sI eS_5 (by decide +kernel) (uI_12_1200 hO.1 ha_x)
  have h_7 : pI S_5 1200 x = 0 := tI_sIs eS_5
  have t_8 : pI S_5 1201 x = v_1 := tI_sI eS_5 rfl ev_1
  have pz_9 : (pI S_5 1201 x).toInt = v_1.toInt := (congrArg Int32.toInt t_8).trans rfl
  have zz_10 : zA S_5 x 1202 a1_z.toNat = zA S x 1202 a1_z.toNat := congrFun (zA_sI eS_5) _
  have zz_11 : zA S_5 x 1207 ((60 * a1_z) + a2_z).toNat = zA S x 1207 ((60 * a1_z) + a2_z).toNat := congrFun (zA_sI eS_5) _
  have zz_12 : zA S_5 x 1208 ((60 * a1_z) + a2_z).toNat = zA S x 1208 ((60 * a1_z) + a2_z).toNat := congrFun (zA_sI eS_5) _
  have zz_13 : zA S_5 x 1209 ((60 * a1_z) + a2_z).toNat = zA S x 1209 ((60 * a1_z) + a2_z).toNat := congrFun (zA_sI eS_5) _
  have lf_14 : lenZ S_5 x ((60 * a1_z) + a2_z) = lenZ S x ((60 * a1_z) + a2_z) := congrFun (lenZ_free hG ha_x hO_6.fr (by decide +kernel)) ((60 * a1_z) + a2_z)
  have hfn : fnZ S_5 x = fnZ S x := fnZ_fr hG ha_x hO_6.fr (by decide +kernel)
  refine lv_aload_n X.1 X.2.1 dX12_cocoon_5 rfl (lv_at hl 0 rfl) ?_
  refine lv_iload_n X.1 X.2.1 dX12_cocoon_6 rfl (lv_at hl 1 rfl) ?_
  refine lv_iload_n X.1 X.2.1 dX12_cocoon_7 rfl (lv_at hl 2 rfl) ?_
  have t_15 : At S_5 x 12 := tAt_sI eS_5 ha_x
  refine k_i (rm := { frames := 2, cells := 0, slots := 0, locals := 96 }) (av := [.ref x, .int (a1), .int (a2)]) X hw (va_runV (As := [.int (a1), .int (a2)]) (rest := []) (cfix X) (k_X12_isCocoon2 l G cy κ S_5 _ x (a1) (a1_z) (a2) (a2_z) hO_6.1 t_15 hz_a1 hz_a2) (cwV 2 X.2.2.2.1 gX12_cocoon_X12_isCocoon rfl rfl rfl (by decide +kernel) ⟨Nat.le_of_ble_eq_true rfl, Nat.le_of_ble_eq_true rfl⟩) (pre_V X hw _ t_15 rfl (by decide) rfl) rfl rfl hl.1 rfl (lv_room (Nat.le_of_ble_eq_true rfl)) dX12_cocoon_8 ⟨Nat.le_of_ble_eq_true rfl, Nat.le_of_ble_eq_true rfl⟩) 0 0 (Nat.le_of_ble_eq_true rfl) (Nat.le_of_ble_eq_true rfl) (fun rr_16 S_17 H locs hp hw hfr hnw => ?_)
  obtain ⟨e2, hp⟩ := hp
  subst e2
  rcases hp with ⟨f_18, er_19⟩ | ⟨f_18, er_19⟩ <;> subst er_19
  · have z_b_20 := trivial
    refine lv_if_ne (tgt := 16) X.1 X.2.1 dX12_cocoon_11 (by decide) (fun c_21 => ?_) (fun c_21 => absurd c_21 (by decide))
    refine lv_bipush (v := 60) X.1 X.2.1 dX12_cocoon_16 (by decide) ?_
    refine lv_iload_n X.1 X.2.1 dX12_cocoon_18 rfl (lv_at hl 1 rfl) ?_
    refine lv_imul X.1 X.2.1 dX12_cocoon_19 ?_
    refine lv_topi (fun v_22 ev_22 => ?_)
    have z_23 : v_22.toInt = 60 * a1_z := z_mul ev_22 ti_60 hz_a1 (by omega) (by omega)
    refine lv_iload_n X.1 X.2.1 dX12_cocoon_20 rfl (lv_at hl 2 rfl) ?_
    refine lv_iadd X.1 X.2.1 dX12_cocoon_21 ?_
    refine lv_topi (fun v_24 ev_24 => ?_)
    have z_25 : v_24.toInt = (60 * a1_z) + a2_z := z_add ev_24 z_23 hz_a2 (by omega) (by omega)
    refine lv_istore (lv' := [(4, .int (v_24)), (0, .ref x), (1, .int (a1)), (2, .int (a2)), (3, .int (a3))]) X.1 X.2.1 dX12_cocoon_22 hl (by decide) rfl (fun ls hl => ?_)
    refine lv_iload_n X.1 X.2.1 dX12_cocoon_24 rfl (lv_at hl 4 rfl) ?_
    by_cases w_26 : (a3).toInt < 0 ∨ 6 < (a3).toInt
    · refine lv_tableOut (tgt := 176) X.1 X.2.1 dX12_cocoon_25 w_26 (by decide) ?_
      refine lv_iconst (v := (-1)) X.1 X.2.1 dX12_cocoon_176 (by decide) ?_
      exact ret_i X hw hr hlocks (Nat.le_of_ble_eq_true rfl) (Nat.le_of_ble_eq_true rfl) ⟨hO_6, ⟨z_lo _, z_hi _, fun _ => (by rw [coZ_d (by omega)]; decide), fun h => absurd (by omega) h⟩⟩ dX12_cocoon_177
    have w_26b : (a3).toInt = 0 ∨ (a3).toInt = 1 ∨ (a3).toInt = 2 ∨ (a3).toInt = 3 ∨ (a3).toInt = 4 ∨ (a3).toInt = 5 ∨ (a3).toInt = 6 := by omega
    rcases w_26b with w_26c | w_26c | w_26c | w_26c | w_26c | w_26c | w_26c
    · refine lv_tableIn (tgt := 68) X.1 X.2.1 dX12_cocoon_25 (by omega) (by omega) (by rw [w_26c]; rfl) (by decide) ?_
      refine lv_aload_n X.1 X.2.1 dX12_cocoon_68 rfl (lv_at hl 1 rfl) ?_
      refine lv_iload X.1 X.2.1 dX12_cocoon_69 (lv_at hl 0 rfl) ?_
      refine k_i (rm := { frames := 2, cells := 0, slots := 0, locals := 96 }) (av := [.ref x, .int (v_24)]) X hw (va_runV (As := [.int (v_24)]) (rest := []) (cfix X) (k_X12_lengthOf l G cy κ S_5 _ x (v_24) (((60 * a1_z) + a2_z)) hO_6.1 t_15 z_25 (by first | assumption | omega) (by first | assumption | omega)) (cwV 1 X.2.2.2.1 gX12_cocoon_X12_lengthOf rfl rfl rfl (by decide +kernel) ⟨Nat.le_of_ble_eq_true rfl, Nat.le_of_ble_eq_true rfl⟩) (pre_V X hw _ t_15 rfl (by decide) rfl) rfl rfl hl.1 rfl (lv_room (Nat.le_of_ble_eq_true rfl)) dX12_cocoon_71 ⟨Nat.le_of_ble_eq_true rfl, Nat.le_of_ble_eq_true rfl⟩) 0 0 (Nat.le_of_ble_eq_true rfl) (Nat.le_of_ble_eq_true rfl) (fun rr_27 S_28 H locs hp hw hfr hnw => ?_)
      obtain ⟨e2, hp⟩ := hp
      subst e2
      obtain ⟨f_29, f_30, f_31⟩ := hp
      exact ret_i X hw hr hlocks (Nat.le_of_ble_eq_true rfl) (Nat.le_of_ble_eq_true rfl) ⟨hO_6, ⟨z_lo _, z_hi _, fun _ => (by rw [coZ_0 (by omega)]; omega), fun h => absurd (by omega) h⟩⟩ dX12_cocoon_74
    · refine lv_tableIn (tgt := 75) X.1 X.2.1 dX12_cocoon_25 (by omega) (by omega) (by rw [w_26c]; rfl) (by decide) ?_
      refine lv_aload_n X.1 X.2.1 dX12_cocoon_75 rfl (lv_at hl 1 rfl) ?_
      obtain ⟨q_32, h_33, h_34, h_35⟩ := gQ_12_1207 hO_6.1 t_15
      refine r_getR (g := 1207) X hw t_15 rfl 7 h_33 (by decide) rfl inn_X12_cocoon_12 (by decide) (X.2.2.2.1 (.fieldLink RX12 25 "SilkMillModel" "stand" "[I") (by decide +kernel)) rfl (gv_1207 _ _) dX12_cocoon_76 ?_
      refine lv_iload X.1 X.2.1 dX12_cocoon_79 (lv_at hl 0 rfl) ?_
      refine r_iald X hw h_34 rfl (by rw [h_35]; exact z_ix z_25 (by omega) (by omega)) dX12_cocoon_81 ?_
      refine lv_topi (fun v_36 ev_36 => ?_)
      have rg_37 := And.intro (z_lo v_36) (z_hi v_36)
      have ev_36 := ev_36.symm
      have zf_38 : zA S_5 x 1207 (((60 * a1_z) + a2_z)).toNat = v_36.toInt := (zA_of h_33 z_25 (by omega) ev_36)
      exact ret_i X hw hr hlocks (Nat.le_of_ble_eq_true rfl) (Nat.le_of_ble_eq_true rfl) ⟨hO_6, ⟨z_lo _, z_hi _, fun _ => (by rw [coZ_1 (by omega)]; have e1 : (v_36 : Int32).toInt = v_36.toInt := rfl; omega), fun h => absurd (by omega) h⟩⟩ dX12_cocoon_82
    · refine lv_tableIn (tgt := 83) X.1 X.2.1 dX12_cocoon_25 (by omega) (by omega) (by rw [w_26c]; rfl) (by decide) ?_
      refine lv_aload_n X.1 X.2.1 dX12_cocoon_83 rfl (lv_at hl 1 rfl) ?_
      obtain ⟨q_39, h_40, h_41, h_42⟩ := gQ_12_1208 hO_6.1 t_15
      refine r_getR (g := 1208) X hw t_15 rfl 8 h_40 (by decide) rfl inn_X12_cocoon_12 (by decide) (X.2.2.2.1 (.fieldLink RX12 28 "SilkMillModel" "place" "[I") (by decide +kernel)) rfl (gv_1208 _ _) dX12_cocoon_84 ?_
      refine lv_iload X.1 X.2.1 dX12_cocoon_87 (lv_at hl 0 rfl) ?_
      refine r_iald X hw h_41 rfl (by rw [h_42]; exact z_ix z_25 (by omega) (by omega)) dX12_cocoon_89 ?_
      refine lv_topi (fun v_43 ev_43 => ?_)
      have z_44 := gE_374 hO_6.1 h_41 (Int32.toNatClampNeg (v_24)); rw [← ev_43] at z_44
      have ev_43 := ev_43.symm
      have zf_45 : zA S_5 x 1208 (((60 * a1_z) + a2_z)).toNat = v_43.toInt := (zA_of h_40 z_25 (by omega) ev_43)
      have m1_46 := (MI_1 (MIe_free hG ha_x hO_6.fr (by decide +kernel) hp_0) (c := ((60 * a1_z) + a2_z)) (by omega) (by omega)).2 (by omega); rw [zf_45] at m1_46
      have m1_47 := m1_46.1
      clear m1_46
      exact ret_i X hw hr hlocks (Nat.le_of_ble_eq_true rfl) (Nat.le_of_ble_eq_true rfl) ⟨hO_6, ⟨z_lo _, z_hi _, fun _ => (by rw [coZ_2 (by omega)]; have e1 : (v_43 : Int32).toInt = v_43.toInt := rfl; omega), fun h => absurd (by omega) h⟩⟩ dX12_cocoon_90
    · refine lv_tableIn (tgt := 91) X.1 X.2.1 dX12_cocoon_25 (by omega) (by omega) (by rw [w_26c]; rfl) (by decide) ?_
      refine lv_aload_n X.1 X.2.1 dX12_cocoon_91 rfl (lv_at hl 1 rfl) ?_
      obtain ⟨q_48, h_49, h_50, h_51⟩ := gQ_12_1207 hO_6.1 t_15
      refine r_getR (g := 1207) X hw t_15 rfl 7 h_49 (by decide) rfl inn_X12_cocoon_12 (by decide) (X.2.2.2.1 (.fieldLink RX12 25 "SilkMillModel" "stand" "[I") (by decide +kernel)) rfl (gv_1207 _ _) dX12_cocoon_92 ?_
      refine lv_iload X.1 X.2.1 dX12_cocoon_95 (lv_at hl 0 rfl) ?_
      refine r_iald X hw h_50 rfl (by rw [h_51]; exact z_ix z_25 (by omega) (by omega)) dX12_cocoon_97 ?_
      refine lv_topi (fun v_52 ev_52 => ?_)
      have rg_53 := And.intro (z_lo v_52) (z_hi v_52)
      have ev_52 := ev_52.symm
      have zf_54 : zA S_5 x 1207 (((60 * a1_z) + a2_z)).toNat = v_52.toInt := (zA_of h_49 z_25 (by omega) ev_52)
      refine lv_iconst (v := 4) X.1 X.2.1 dX12_cocoon_98 (by decide) ?_
      refine lv_icmp_ne (tgt := 106) X.1 X.2.1 dX12_cocoon_99 (by decide) (fun c_55 => ?_) (fun c_55 => ?_)
      · have z_b_56 := trivial
        have k_57 : v_52.toInt ≠ 4 := z_ne rfl ti_4 c_55
        refine lv_aload_n X.1 X.2.1 dX12_cocoon_106 rfl (lv_at hl 1 rfl) ?_
        refine lv_iload X.1 X.2.1 dX12_cocoon_107 (lv_at hl 0 rfl) ?_
        refine lv_aload_n X.1 X.2.1 dX12_cocoon_109 rfl (lv_at hl 1 rfl) ?_
        obtain ⟨q_58, h_59, h_60, h_61⟩ := gQ_12_1208 hO_6.1 t_15
        refine r_getR (g := 1208) X hw t_15 rfl 8 h_59 (by decide) rfl inn_X12_cocoon_12 (by decide) (X.2.2.2.1 (.fieldLink RX12 28 "SilkMillModel" "place" "[I") (by decide +kernel)) rfl (gv_1208 _ _) dX12_cocoon_110 ?_
        refine lv_iload X.1 X.2.1 dX12_cocoon_113 (lv_at hl 0 rfl) ?_
        refine r_iald X hw h_60 rfl (by rw [h_61]; exact z_ix z_25 (by omega) (by omega)) dX12_cocoon_115 ?_
        refine lv_topi (fun v_62 ev_62 => ?_)
        have z_63 := gE_374 hO_6.1 h_60 (Int32.toNatClampNeg (v_24)); rw [← ev_62] at z_63
        have ev_62 := ev_62.symm
        have zf_64 : zA S_5 x 1208 (((60 * a1_z) + a2_z)).toNat = v_62.toInt := (zA_of h_59 z_25 (by omega) ev_62)
        have m1_65 := (MI_1 (MIe_free hG ha_x hO_6.fr (by decide +kernel) hp_0) (c := ((60 * a1_z) + a2_z)) (by omega) (by omega)).2 (by omega); rw [zf_64] at m1_65
        have m1_66 := m1_65.1
        have m1_67 := m1_65.2 (by omega) (by omega)
        have lg_68 := lenZ_le hO_6.1 t_15 (((60 * a1_z) + a2_z))
        clear m1_65
        refine k_i (rm := { frames := 3, cells := 0, slots := 0, locals := 144 }) (av := [.ref x, .int (v_24), .int (v_62)]) X hw (va_runV (As := [.int (v_24), .int (v_62)]) (rest := []) (cfix X) (k_X12_fineOf2 l G cy κ S_5 _ x (v_24) (((60 * a1_z) + a2_z)) (v_62) (v_62.toInt) hO_6.1 t_15 z_25 rfl (by first | assumption | omega) (by first | assumption | omega) (by first | assumption | omega) (by first | assumption | omega) (by first | assumption | omega)) (cwV 2 X.2.2.2.1 gX12_cocoon_X12_fineOf rfl rfl rfl (by decide +kernel) ⟨Nat.le_of_ble_eq_true rfl, Nat.le_of_ble_eq_true rfl⟩) (pre_V X hw _ t_15 rfl (by decide) rfl) rfl rfl hl.1 rfl (lv_room (Nat.le_of_ble_eq_true rfl)) dX12_cocoon_116 ⟨Nat.le_of_ble_eq_true rfl, Nat.le_of_ble_eq_true rfl⟩) 0 0 (Nat.le_of_ble_eq_true rfl) (Nat.le_of_ble_eq_true rfl) (fun rr_69 S_70 H locs hp hw hfr hnw => ?_)
        obtain ⟨e2, hp⟩ := hp
        subst e2
        obtain ⟨fo_71, fo_72, fo_73⟩ := hp
        exact ret_i X hw hr hlocks (Nat.le_of_ble_eq_true rfl) (Nat.le_of_ble_eq_true rfl) ⟨hO_6, ⟨z_lo _, z_hi _, fun _ => (by rw [coZ_3 (by omega), if_neg (by omega), ← hfn, show zA S x 1208 (60 * a1_z + a2_z).toNat = v_62.toInt by omega]; exact fo_73), fun h => absurd (by omega) h⟩⟩ dX12_cocoon_119
      · have z_b_74 := trivial
        have k_75 : v_52.toInt = 4 := z_eq rfl ti_4 c_55
        refine lv_iconst (v := 0) X.1 X.2.1 dX12_cocoon_102 (by decide) ?_
        refine lv_goto (tgt := 119) X.1 X.2.1 dX12_cocoon_103 (by decide) ?_
        exact ret_i X hw hr hlocks (Nat.le_of_ble_eq_true rfl) (Nat.le_of_ble_eq_true rfl) ⟨hO_6, ⟨z_lo _, z_hi _, fun _ => (by rw [coZ_3 (by omega), if_pos (by omega)]; decide), fun h => absurd (by omega) h⟩⟩ dX12_cocoon_119
    · refine lv_tableIn (tgt := 120) X.1 X.2.1 dX12_cocoon_25 (by omega) (by omega) (by rw [w_26c]; rfl) (by decide) ?_
      refine lv_aload_n X.1 X.2.1 dX12_cocoon_120 rfl (lv_at hl 1 rfl) ?_
      refine lv_iload X.1 X.2.1 dX12_cocoon_121 (lv_at hl 0 rfl) ?_
      refine lv_iconst (v := 0) X.1 X.2.1 dX12_cocoon_123 (by decide) ?_
      refine lv_aload_n X.1 X.2.1 dX12_cocoon_124 rfl (lv_at hl 1 rfl) ?_
      refine lv_iload X.1 X.2.1 dX12_cocoon_125 (lv_at hl 0 rfl) ?_
      refine k_i (rm := { frames := 2, cells := 0, slots := 0, locals := 96 }) (av := [.ref x, .int (v_24)]) X hw (va_runV (As := [.int (v_24)]) (rest := [.int 0, .int (v_24), .ref x]) (cfix X) (k_X12_lengthOf l G cy κ S_5 _ x (v_24) (((60 * a1_z) + a2_z)) hO_6.1 t_15 z_25 (by first | assumption | omega) (by first | assumption | omega)) (cwV 1 X.2.2.2.1 gX12_cocoon_X12_lengthOf rfl rfl rfl (by decide +kernel) ⟨Nat.le_of_ble_eq_true rfl, Nat.le_of_ble_eq_true rfl⟩) (pre_V X hw _ t_15 rfl (by decide) rfl) rfl rfl hl.1 rfl (lv_room (Nat.le_of_ble_eq_true rfl)) dX12_cocoon_127 ⟨Nat.le_of_ble_eq_true rfl, Nat.le_of_ble_eq_true rfl⟩) 0 0 (Nat.le_of_ble_eq_true rfl) (Nat.le_of_ble_eq_true rfl) (fun rr_76 S_77 H locs hp hw hfr hnw => ?_)
      obtain ⟨e2, hp⟩ := hp
      subst e2
      obtain ⟨f_78, f_79, f_80⟩ := hp
      refine k_i (rm := { frames := 4, cells := 0, slots := 0, locals := 192 }) (av := [.ref x, .int (v_24), .int 0, .int (rr_76)]) X hw (va_runV (As := [.int (v_24), .int 0, .int (rr_76)]) (rest := []) (cfix X) (k_X12_silk9 l G cy κ S_5 _ x (v_24) (((60 * a1_z) + a2_z)) (0) (0) (rr_76) (rr_76.toInt) hO_6.1 t_15 z_25 ti_0 rfl (by first | assumption | omega) (by first | assumption | omega) (by first | assumption | omega) (by first | assumption | omega) (by first | assumption | omega)) (cwV 3 X.2.2.2.1 gX12_cocoon_X12_silk rfl rfl rfl (by decide +kernel) ⟨Nat.le_of_ble_eq_true rfl, Nat.le_of_ble_eq_true rfl⟩) (pre_V X hw _ t_15 rfl (by decide) rfl) rfl rfl hl.1 rfl (lv_room (Nat.le_of_ble_eq_true rfl)) dX12_cocoon_130 ⟨Nat.le_of_ble_eq_true rfl, Nat.le_of_ble_eq_true rfl⟩) 0 0 (Nat.le_of_ble_eq_true rfl) (Nat.le_of_ble_eq_true rfl) (fun rr_81 S_82 H locs hp hw hfr hnw => ?_)
      obtain ⟨e2, hp⟩ := hp
      subst e2
      obtain ⟨sl_83, sl_84, sl_85⟩ := hp
      exact ret_i X hw hr hlocks (Nat.le_of_ble_eq_true rfl) (Nat.le_of_ble_eq_true rfl) ⟨hO_6, ⟨z_lo _, z_hi _, fun _ => (by rw [coZ_4 (by omega), sl_85, slZ_eq hfn, show (rr_76.toInt - 0).toNat = (lenZ S x (60 * a1_z + a2_z)).toNat by omega]), fun h => absurd (by omega) h⟩⟩ dX12_cocoon_133
    · refine lv_tableIn (tgt := 134) X.1 X.2.1 dX12_cocoon_25 (by omega) (by omega) (by rw [w_26c]; rfl) (by decide) ?_
      refine lv_aload_n X.1 X.2.1 dX12_cocoon_134 rfl (lv_at hl 1 rfl) ?_
      refine lv_iload X.1 X.2.1 dX12_cocoon_135 (lv_at hl 0 rfl) ?_
      refine lv_iconst (v := 0) X.1 X.2.1 dX12_cocoon_137 (by decide) ?_
      refine lv_aload_n X.1 X.2.1 dX12_cocoon_138 rfl (lv_at hl 1 rfl) ?_
      obtain ⟨q_86, h_87, h_88, h_89⟩ := gQ_12_1208 hO_6.1 t_15
      refine r_getR (g := 1208) X hw t_15 rfl 8 h_87 (by decide) rfl inn_X12_cocoon_12 (by decide) (X.2.2.2.1 (.fieldLink RX12 28 "SilkMillModel" "place" "[I") (by decide +kernel)) rfl (gv_1208 _ _) dX12_cocoon_139 ?_
      refine lv_iload X.1 X.2.1 dX12_cocoon_142 (lv_at hl 0 rfl) ?_
      refine r_iald X hw h_88 rfl (by rw [h_89]; exact z_ix z_25 (by omega) (by omega)) dX12_cocoon_144 ?_
      refine lv_topi (fun v_90 ev_90 => ?_)
      have z_91 := gE_374 hO_6.1 h_88 (Int32.toNatClampNeg (v_24)); rw [← ev_90] at z_91
      have ev_90 := ev_90.symm
      have zf_92 : zA S_5 x 1208 (((60 * a1_z) + a2_z)).toNat = v_90.toInt := (zA_of h_87 z_25 (by omega) ev_90)
      have m1_93 := (MI_1 (MIe_free hG ha_x hO_6.fr (by decide +kernel) hp_0) (c := ((60 * a1_z) + a2_z)) (by omega) (by omega)).2 (by omega); rw [zf_92] at m1_93
      have m1_94 := m1_93.1
      clear m1_93
      refine k_i (rm := { frames := 4, cells := 0, slots := 0, locals := 192 }) (av := [.ref x, .int (v_24), .int 0, .int (v_90)]) X hw (va_runV (As := [.int (v_24), .int 0, .int (v_90)]) (rest := []) (cfix X) (k_X12_silk9 l G cy κ S_5 _ x (v_24) (((60 * a1_z) + a2_z)) (0) (0) (v_90) (v_90.toInt) hO_6.1 t_15 z_25 ti_0 rfl (by first | assumption | omega) (by first | assumption | omega) (by first | assumption | omega) (by first | assumption | omega) (by first | assumption | omega)) (cwV 3 X.2.2.2.1 gX12_cocoon_X12_silk rfl rfl rfl (by decide +kernel) ⟨Nat.le_of_ble_eq_true rfl, Nat.le_of_ble_eq_true rfl⟩) (pre_V X hw _ t_15 rfl (by decide) rfl) rfl rfl hl.1 rfl (lv_room (Nat.le_of_ble_eq_true rfl)) dX12_cocoon_145 ⟨Nat.le_of_ble_eq_true rfl, Nat.le_of_ble_eq_true rfl⟩) 0 0 (Nat.le_of_ble_eq_true rfl) (Nat.le_of_ble_eq_true rfl) (fun rr_95 S_96 H locs hp hw hfr hnw => ?_)
      obtain ⟨e2, hp⟩ := hp
      subst e2
      obtain ⟨sl_97, sl_98, sl_99⟩ := hp
      exact ret_i X hw hr hlocks (Nat.le_of_ble_eq_true rfl) (Nat.le_of_ble_eq_true rfl) ⟨hO_6, ⟨z_lo _, z_hi _, fun _ => (by rw [coZ_5 (by omega), sl_99, slZ_eq hfn, show (v_90.toInt - 0).toNat = (zA S x 1208 (60 * a1_z + a2_z).toNat).toNat by omega]), fun h => absurd (by omega) h⟩⟩ dX12_cocoon_148
    · refine lv_tableIn (tgt := 149) X.1 X.2.1 dX12_cocoon_25 (by omega) (by omega) (by rw [w_26c]; rfl) (by decide) ?_
      refine lv_aload_n X.1 X.2.1 dX12_cocoon_149 rfl (lv_at hl 1 rfl) ?_
      obtain ⟨q_100, h_101, h_102, h_103⟩ := gQ_12_1207 hO_6.1 t_15
      refine r_getR (g := 1207) X hw t_15 rfl 7 h_101 (by decide) rfl inn_X12_cocoon_12 (by decide) (X.2.2.2.1 (.fieldLink RX12 25 "SilkMillModel" "stand" "[I") (by decide +kernel)) rfl (gv_1207 _ _) dX12_cocoon_150 ?_
      refine lv_iload X.1 X.2.1 dX12_cocoon_153 (lv_at hl 0 rfl) ?_
      refine r_iald X hw h_102 rfl (by rw [h_103]; exact z_ix z_25 (by omega) (by omega)) dX12_cocoon_155 ?_
      refine lv_topi (fun v_104 ev_104 => ?_)
      have rg_105 := And.intro (z_lo v_104) (z_hi v_104)
      have ev_104 := ev_104.symm
      have zf_106 : zA S_5 x 1207 (((60 * a1_z) + a2_z)).toNat = v_104.toInt := (zA_of h_101 z_25 (by omega) ev_104)
      refine lv_iconst (v := 1) X.1 X.2.1 dX12_cocoon_156 (by decide) ?_
      refine lv_iconst (v := 3) X.1 X.2.1 dX12_cocoon_157 (by decide) ?_
      refine k_i (rm := { frames := 1, cells := 0, slots := 0, locals := 48 }) (av := [.int (v_104), .int 1, .int 3]) X hw (va_runS (As := [.int (v_104), .int 1, .int 3]) (rest := []) (cfix X) (k_X12_within l G cy κ S_5 _ (v_104) (v_104.toInt) (1) (1) (3) (3) hO_6.1 rfl ti_1 ti_3) (cwS 3 X.2.2.2.1 gX12_cocoon_X12_within rfl rfl rfl (by decide +kernel) ⟨Nat.le_of_ble_eq_true rfl, Nat.le_of_ble_eq_true rfl⟩) (pre_S X hw _) rfl rfl hl.1 rfl (lv_room (Nat.le_of_ble_eq_true rfl)) dX12_cocoon_158 ⟨Nat.le_of_ble_eq_true rfl, Nat.le_of_ble_eq_true rfl⟩) 0 0 (Nat.le_of_ble_eq_true rfl) (Nat.le_of_ble_eq_true rfl) (fun rr_107 S_108 H locs hp hw hfr hnw => ?_)
      obtain ⟨e2, hp⟩ := hp
      subst e2
      rcases hp with ⟨f_109, er_110⟩ | ⟨f_109, er_110⟩ <;> subst er_110
      · have z_b_111 := trivial
        refine lv_if_eq (tgt := 174) X.1 X.2.1 dX12_cocoon_161 (by decide) (fun c_112 => absurd c_112 (by decide)) (fun c_112 => ?_)
        refine lv_aload_n X.1 X.2.1 dX12_cocoon_164 rfl (lv_at hl 1 rfl) ?_
        obtain ⟨q_113, h_114, h_115, h_116⟩ := gQ_12_1209 hO_6.1 t_15
        refine r_getR (g := 1209) X hw t_15 rfl 9 h_114 (by decide) rfl inn_X12_cocoon_12 (by decide) (X.2.2.2.1 (.fieldLink RX12 31 "SilkMillModel" "potOf" "[I") (by decide +kernel)) rfl (gv_1209 _ _) dX12_cocoon_165 ?_
        refine lv_iload X.1 X.2.1 dX12_cocoon_168 (lv_at hl 0 rfl) ?_
        refine r_iald X hw h_115 rfl (by rw [h_116]; exact z_ix z_25 (by omega) (by omega)) dX12_cocoon_170 ?_
        refine lv_topi (fun v_117 ev_117 => ?_)
        have rg_118 := And.intro (z_lo v_117) (z_hi v_117)
        have ev_117 := ev_117.symm
        have zf_119 : zA S_5 x 1209 (((60 * a1_z) + a2_z)).toNat = v_117.toInt := (zA_of h_114 z_25 (by omega) ev_117)
        refine lv_goto (tgt := 175) X.1 X.2.1 dX12_cocoon_171 (by decide) ?_
        exact ret_i X hw hr hlocks (Nat.le_of_ble_eq_true rfl) (Nat.le_of_ble_eq_true rfl) ⟨hO_6, ⟨z_lo _, z_hi _, fun _ => (by rw [coZ_6 (by omega), if_pos (by omega)]; have e1 : (v_117 : Int32).toInt = v_117.toInt := rfl; omega), fun h => absurd (by omega) h⟩⟩ dX12_cocoon_175
      · have z_b_120 := trivial
        refine lv_if_eq (tgt := 174) X.1 X.2.1 dX12_cocoon_161 (by decide) (fun c_121 => ?_) (fun c_121 => absurd c_121 (by decide))
        refine lv_iconst (v := (-1)) X.1 X.2.1 dX12_cocoon_174 (by decide) ?_
        exact ret_i X hw hr hlocks (Nat.le_of_ble_eq_true rfl) (Nat.le_of_ble_eq_true rfl) ⟨hO_6, ⟨z_lo _, z_hi _, fun _ => (by rw [coZ_6 (by omega), if_neg (by omega)]; decide), fun h => absurd (by omega) h⟩⟩ dX12_cocoon_175
  · have z_b_122 := trivial
    refine lv_if_ne (tgt := 16) X.1 X.2.1 dX12_cocoon_11 (by decide) (fun c_123 => absurd c_123 (by decide)) (fun c_123 => ?_)
    refine lv_iconst (v := (-1)) X.1 X.2.1 dX12_cocoon_14 (by decide) ?_
    exact ret_i X hw hr hlocks (Nat.le_of_ble_eq_true rfl) (Nat.le_of_ble_eq_true rfl) ⟨hO_6, ⟨z_lo _, z_hi _, fun h => absurd h (by omega), fun _ => by decide⟩⟩ dX12_cocoon_15
