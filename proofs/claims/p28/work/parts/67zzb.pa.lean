theorem add_z0 {a : Int32} : a + 0 = a := Int32.add_zero a
theorem sub_z0 {a : Int32} : a - 0 = a := Int32.sub_zero a

set_option maxHeartbeats 4000000 in
set_option maxRecDepth 100000 in
theorem k_X12_gradeOf8 (l : Launch) (G : va_G) (cy : Nat → ClassId) (κ : Nat → Nat) (S : PS) (sz : Nat) (x : Nat) (a1 : Int32) (a1_z : Int) (hG : GX S) (ha_x : At S x 12) (hz_a1 : a1.toInt = a1_z) (hp_0 : 0 ≤ a1_z) (hp_1 : a1_z ≤ 39) : Ci l yX12_gradeOf wsX12_gradeOf ({ frames := 1, cells := 0, slots := 0, locals := 48 }) G cy κ S sz [.ref x, .int (a1)] (fun (r : Int32) (S9 : PS) => S = S9 ∧ (0 ≤ r.toInt ∧ r.toInt ≤ 3 ∧ r.toInt = gO S x a1_z.toNat)) := by
  refine ent_m (cc := cX12_gradeOf) (maxL := 2) (ret := (some .int)) (by decide) rfl (Nat.le_of_ble_eq_true rfl) ?_
  intro p e s m below meth c ls X hr hlocks hin hw hl hsz
  subst hsz
  have X : Cx p c cX12_gradeOf 2 s [.ref x, .int (a1)].toArray wsX12_gradeOf RX12 m G cy κ (AS S s.heap.size) := X
  have hl : lv_has ls 2 [(0, .ref x), (1, .int (a1))] := hl
  have rg_a1 : (-2147483648) ≤ a1_z ∧ a1_z ≤ 2147483647 := by rw [← hz_a1]; exact ⟨z_lo _, z_hi _⟩
  refine lv_aload_n X.1 X.2.1 dX12_gradeOf_0 rfl (lv_at hl 0 rfl) ?_
  obtain ⟨q_1, h_2, h_3, h_4⟩ := gQ_12_1243 hG ha_x
  refine r_getR (g := 1243) X hw ha_x rfl 43 h_2 (by decide) rfl inn_X12_gradeOf_12 (by decide) (X.2.2.2.1 (.fieldLink RX12 112 "SilkMillModel" "skeinGrade" "[I") (by decide +kernel)) rfl (gv_1243 _ _) dX12_gradeOf_1 ?_
  refine lv_iload_n X.1 X.2.1 dX12_gradeOf_4 rfl (lv_at hl 1 rfl) ?_
  refine r_iald X hw h_3 rfl (by rw [h_4]; exact z_ix hz_a1 (by omega) (by omega)) dX12_gradeOf_5 ?_
  refine lv_topi (fun v_5 ev_5 => ?_)
  have z_6 := gE_1074 hG h_3 (Int32.toNatClampNeg (a1)); rw [← ev_5] at z_6
  have ev_5 := ev_5.symm
  have zf_7 : zA S x 1243 (a1_z).toNat = v_5.toInt := (zA_of h_2 hz_a1 (by omega) ev_5)
  refine lv_iconst (v := (-1)) X.1 X.2.1 dX12_gradeOf_6 (by decide) ?_
  refine lv_icmp_ne (tgt := 14) X.1 X.2.1 dX12_gradeOf_7 (by decide) (fun c_8 => ?_) (fun c_8 => ?_)
  · have z_b_9 := trivial
    have k_10 : v_5.toInt ≠ (-1) := z_ne rfl ti_m1 c_8
    refine lv_aload_n X.1 X.2.1 dX12_gradeOf_14 rfl (lv_at hl 0 rfl) ?_
    refine r_getR (g := 1243) X hw ha_x rfl 43 h_2 (by decide) rfl inn_X12_gradeOf_12 (by decide) (X.2.2.2.1 (.fieldLink RX12 112 "SilkMillModel" "skeinGrade" "[I") (by decide +kernel)) rfl (gv_1243 _ _) dX12_gradeOf_15 ?_
    refine lv_iload_n X.1 X.2.1 dX12_gradeOf_18 rfl (lv_at hl 1 rfl) ?_
    refine r_iald X hw h_3 rfl (by rw [h_4]; exact z_ix hz_a1 (by omega) (by omega)) dX12_gradeOf_19 ?_
    rw [ev_5]
    exact ret_i X hw hr hlocks (Nat.le_of_ble_eq_true rfl) (Nat.le_of_ble_eq_true rfl) ⟨rfl, ⟨by omega, by omega, by unfold gO; rw [if_neg (by omega)]; have e1 : (v_5 : Int32).toInt = v_5.toInt := rfl; omega⟩⟩ dX12_gradeOf_20
  · have z_b_11 := trivial
    have k_12 : v_5.toInt = (-1) := z_eq rfl ti_m1 c_8
    refine lv_iconst (v := 3) X.1 X.2.1 dX12_gradeOf_10 (by decide) ?_
    refine lv_goto (tgt := 20) X.1 X.2.1 dX12_gradeOf_11 (by decide) ?_
    exact ret_i X hw hr hlocks (Nat.le_of_ble_eq_true rfl) (Nat.le_of_ble_eq_true rfl) ⟨rfl, ⟨by decide, by decide, by rw [gO_n (by omega)]; decide⟩⟩ dX12_gradeOf_20
set_option maxHeartbeats 4000000 in
set_option maxRecDepth 100000 in
theorem k_X12_weight8 (l : Launch) (G : va_G) (cy : Nat → ClassId) (κ : Nat → Nat) (S : PS) (sz : Nat) (x : Nat) (a1 : Int32) (a1_z : Int) (a2 : Int32) (a2_z : Int) (g : List Mt) (hG : GX S) (ha_x : At S x 12) (hz_a1 : a1.toInt = a1_z) (hz_a2 : a2.toInt = a2_z) (hp_0 : 0 ≤ a1_z) (hp_1 : 0 ≤ a2_z) (hp_2 : a1_z + a2_z ≤ 13200) (hp_3 : MI S x) (hp_4 : a2_z = (g.length : Int)) (hp_5 : (∀ (j : Nat) (t : Mt), g[j]? = some t → MtR S x (a1_z.toNat + j) t)) : Ci l yX12_weight wsX12_weight ({ frames := 5, cells := 0, slots := 0, locals := 240 }) G cy κ S sz [.ref x, .int (a1), .int (a2)] (fun (r : Int32) (S9 : PS) => S = S9 ∧ (-2147483648 ≤ r.toInt ∧ r.toInt ≤ 2147483647 ∧ r = siZ S x g)) := by
  refine ent_m (cc := cX12_weight) (maxL := 5) (ret := (some .int)) (by decide) rfl (Nat.le_of_ble_eq_true rfl) ?_
  intro p e s m below meth c ls X hr hlocks hin hw hl hsz
  subst hsz
  have X : Cx p c cX12_weight 5 s [.ref x, .int (a1), .int (a2)].toArray wsX12_weight RX12 m G cy κ (AS S s.heap.size) := X
  have hl : lv_has ls 5 [(0, .ref x), (1, .int (a1)), (2, .int (a2))] := hl
  have rg_a1 : (-2147483648) ≤ a1_z ∧ a1_z ≤ 2147483647 := by rw [← hz_a1]; exact ⟨z_lo _, z_hi _⟩
  have rg_a2 : (-2147483648) ≤ a2_z ∧ a2_z ≤ 2147483647 := by rw [← hz_a2]; exact ⟨z_lo _, z_hi _⟩
  generalize hQQ : MQ below _ _ _ _ _ _ = QQ
  replace hQQ := hQQ.symm
  refine lv_iconst (v := 0) X.1 X.2.1 dX12_weight_0 (by decide) ?_
  refine lv_istore_n (lv' := [(3, .int 0), (0, .ref x), (1, .int (a1)), (2, .int (a2))]) X.1 X.2.1 dX12_weight_1 rfl hl (by decide) rfl (fun ls hl => ?_)
  refine lv_iload_n X.1 X.2.1 dX12_weight_2 rfl (lv_at hl 2 rfl) ?_
  refine lv_istore (lv' := [(4, .int (a1)), (3, .int 0), (0, .ref x), (1, .int (a1)), (2, .int (a2))]) X.1 X.2.1 dX12_weight_3 hl (by decide) rfl (fun ls hl => ?_)
  have L_1 : ∀ (n : Nat) (H : Heap) (locs : List Loc) (ls : Array Slot) (i3_2 : Int32) (i3_2_z : Int) (i4_3 : Int32) (i4_3_z : Int), ((a1_z + a2_z - i4_3_z).toNat = n) → (Wd G cy (AS S s.heap.size) s.heap S H locs) → (i3_2.toInt = i3_2_z) → (i4_3.toInt = i4_3_z) → (0 ≤ i4_3_z ∧ i4_3_z ≤ 13200) → ((i3_2) = siZ S x (g.take (i4_3_z - a1_z).toNat)) → (a1_z ≤ i4_3_z) → (i4_3_z ≤ a1_z + a2_z) → (lv_has ls 5 [(3, .int (i3_2)), (4, .int (i4_3)), (0, .ref x), (1, .int (a1)), (2, .int (a2))]) → W p l e ({ frames := 5, cells := 0, slots := 0, locals := 240 }) s m [.ref x, .int (a1), .int (a2)].toArray below meth c H locs 0 0 QQ (F0 m 5 ls []) := by
    intro n
    induction n using Nat.strongRecOn with
    | ind n ih_L_1 =>
    intro H locs ls i3_2 i3_2_z i4_3 i4_3_z hn hw hz_i3_2 hz_i4_3 hr_i4_3 iv_4 iv_5 iv_6 hl
    have rg_7 : (-2147483648) ≤ i3_2_z ∧ i3_2_z ≤ 2147483647 := by rw [← hz_i3_2]; exact ⟨z_lo _, z_hi _⟩
    have rg_8 : (-2147483648) ≤ i4_3_z ∧ i4_3_z ≤ 2147483647 := by rw [← hz_i4_3]; exact ⟨z_lo _, z_hi _⟩
    refine lv_iload X.1 X.2.1 dX12_weight_5 (lv_at hl 1 rfl) ?_
    refine lv_iload_n X.1 X.2.1 dX12_weight_7 rfl (lv_at hl 3 rfl) ?_
    refine lv_iload_n X.1 X.2.1 dX12_weight_8 rfl (lv_at hl 4 rfl) ?_
    refine lv_iadd X.1 X.2.1 dX12_weight_9 ?_
    refine lv_topi (fun v_9 ev_9 => ?_)
    have z_10 : v_9.toInt = a1_z + a2_z := z_add ev_9 hz_a1 hz_a2 (by omega) (by omega)
    refine lv_icmp_ge (tgt := 28) X.1 X.2.1 dX12_weight_10 (by decide) (fun c_11 => ?_) (fun c_11 => ?_)
    · have z_b_12 := trivial
      have k_13 : i4_3_z ≥ (a1_z + a2_z) := z_le z_10 hz_i4_3 c_11
      refine lv_iload_n X.1 X.2.1 dX12_weight_28 rfl (lv_at hl 0 rfl) ?_
      rw [hQQ]
      exact ret_i X hw hr hlocks (Nat.le_of_ble_eq_true rfl) (Nat.le_of_ble_eq_true rfl) ⟨rfl, ⟨z_lo _, z_hi _, by rw [iv_4, show (i4_3_z - a1_z).toNat = g.length by omega, List.take_length]⟩⟩ dX12_weight_29
    · have z_b_14 := trivial
      have k_15 : i4_3_z < (a1_z + a2_z) := z_nle z_10 hz_i4_3 c_11
      refine lv_iload_n X.1 X.2.1 dX12_weight_13 rfl (lv_at hl 0 rfl) ?_
      refine lv_aload_n X.1 X.2.1 dX12_weight_14 rfl (lv_at hl 2 rfl) ?_
      refine lv_iload X.1 X.2.1 dX12_weight_15 (lv_at hl 1 rfl) ?_
      obtain ⟨t_16, ht_17⟩ : ∃ t, g[(i4_3_z - a1_z).toNat]? = some t := ⟨_, List.getElem?_eq_getElem (by omega)⟩
      refine k_i (rm := { frames := 4, cells := 0, slots := 0, locals := 192 }) (av := [.ref x, .int (i4_3)]) X hw (va_runV (As := [.int (i4_3)]) (rest := [.int (i3_2)]) (cfix X) (k_X12_fineAt7 l G cy κ S _ x (i4_3) (i4_3_z) t_16 hG ha_x hz_i4_3 (by omega) (by omega) hp_3 (by rw [show (i4_3_z).toNat = a1_z.toNat + (i4_3_z - a1_z).toNat by omega]; exact hp_5 _ _ ht_17)) (cwV 1 X.2.2.2.1 gX12_weight_X12_fineAt rfl rfl rfl (by decide +kernel) ⟨Nat.le_of_ble_eq_true rfl, Nat.le_of_ble_eq_true rfl⟩) (pre_V X hw _ ha_x rfl (by decide) rfl) rfl rfl hl.1 rfl (lv_room (Nat.le_of_ble_eq_true rfl)) dX12_weight_17 ⟨Nat.le_of_ble_eq_true rfl, Nat.le_of_ble_eq_true rfl⟩) 0 0 (Nat.le_of_ble_eq_true rfl) (Nat.le_of_ble_eq_true rfl) (fun rr_18 S_19 H locs hp hw hfr hnw => ?_)
      obtain ⟨e2, hp⟩ := hp
      subst e2
      obtain ⟨fa_20, fa_21, fa_22⟩ := hp
      have rg_23 := And.intro (z_lo rr_18) (z_hi rr_18)
      refine lv_iadd X.1 X.2.1 dX12_weight_20 ?_
      refine lv_topi (fun v_24 ev_24 => ?_)
      have rg_25 := And.intro (z_lo v_24) (z_hi v_24)
      refine lv_istore_n (lv' := [(3, .int (v_24)), (4, .int (i4_3)), (0, .ref x), (1, .int (a1)), (2, .int (a2))]) X.1 X.2.1 dX12_weight_21 rfl hl (by decide) rfl (fun ls hl => ?_)
      obtain ⟨x_26, ex_26⟩ : ∃ y : Int32, y = i4_3 + 1 := ⟨_, rfl⟩
      have z_27 : x_26.toInt = i4_3_z + 1 := z_add ex_26 hz_i4_3 ti_1 (by omega) (by omega)
      refine lv_iinc (v := x_26) (lv' := [(4, .int (x_26)), (3, .int (v_24)), (0, .ref x), (1, .int (a1)), (2, .int (a2))]) X.1 X.2.1 dX12_weight_22 hl (k := 1) rfl (by rw [ex_26]; rfl) (by decide) rfl (fun ls hl => ?_)
      refine lv_goto (tgt := 5) X.1 X.2.1 dX12_weight_25 (by decide) ?_
      exact ih_L_1 _ (by omega) _ _ _ (v_24) (v_24.toInt) (x_26) (x_26.toInt) rfl hw rfl rfl (by omega) (by rw [show (x_26.toInt - a1_z).toNat = (i4_3_z - a1_z).toNat + 1 by omega, siZ_s ht_17, ← iv_4, ev_24]; exact congrArg (fun y => i3_2 + y) fa_22) (by omega) (by omega) (lv_sub hl [1, 0, 2, 3, 4] rfl)
  exact L_1 _ _ _ _ (0) (0) (a1) (a1_z) rfl hw ti_0 hz_a1 (by omega) (by rw [show (a1_z - a1_z).toNat = 0 by omega]; rfl) (by omega) (by omega) (lv_sub hl [1, 0, 2, 3, 4] rfl)
set_option maxHeartbeats 4000000 in
set_option maxRecDepth 100000 in
theorem k_X12_weightOf8 (l : Launch) (G : va_G) (cy : Nat → ClassId) (κ : Nat → Nat) (S : PS) (sz : Nat) (x : Nat) (a1 : Int32) (a1_z : Int) (sQ : Sk) (hG : GX S) (ha_x : At S x 12) (hz_a1 : a1.toInt = a1_z) (hp_0 : 0 ≤ a1_z) (hp_1 : a1_z ≤ 39) (hp_2 : a1_z < (pI S 1238 x).toInt) (hp_3 : MI S x) (hp_4 : SkR S x a1_z.toNat sQ) : Ci l yX12_weightOf wsX12_weightOf ({ frames := 6, cells := 0, slots := 0, locals := 288 }) G cy κ S sz [.ref x, .int (a1)] (fun (r : Int32) (S9 : PS) => S = S9 ∧ (-2147483648 ≤ r.toInt ∧ r.toInt ≤ 2147483647 ∧ r = siZ S x sQ.2.2.2)) := by
  refine ent_m (cc := cX12_weightOf) (maxL := 2) (ret := (some .int)) (by decide) rfl (Nat.le_of_ble_eq_true rfl) ?_
  intro p e s m below meth c ls X hr hlocks hin hw hl hsz
  subst hsz
  have X : Cx p c cX12_weightOf 2 s [.ref x, .int (a1)].toArray wsX12_weightOf RX12 m G cy κ (AS S s.heap.size) := X
  have hl : lv_has ls 2 [(0, .ref x), (1, .int (a1))] := hl
  have rg_a1 : (-2147483648) ≤ a1_z ∧ a1_z ≤ 2147483647 := by rw [← hz_a1]; exact ⟨z_lo _, z_hi _⟩
  have h7 := MI_7 hp_3 (k := a1_z) (by omega) (by omega)
  have sl_1 := hp_4.2.1
  have sl_2 : zA S x 1239 (a1_z + 1).toNat = zA S x 1239 (a1_z.toNat + 1) := by rw [show (a1_z + 1).toNat = a1_z.toNat + 1 by omega]
  refine lv_aload_n X.1 X.2.1 dX12_weightOf_0 rfl (lv_at hl 0 rfl) ?_
  refine lv_aload_n X.1 X.2.1 dX12_weightOf_1 rfl (lv_at hl 0 rfl) ?_
  obtain ⟨q_3, h_4, h_5, h_6⟩ := gQ_12_1239 hG ha_x
  refine r_getR (g := 1239) X hw ha_x rfl 39 h_4 (by decide) rfl inn_X12_weightOf_12 (by decide) (X.2.2.2.1 (.fieldLink RX12 100 "SilkMillModel" "firstMetre" "[I") (by decide +kernel)) rfl (gv_1239 _ _) dX12_weightOf_2 ?_
  refine lv_iload_n X.1 X.2.1 dX12_weightOf_5 rfl (lv_at hl 1 rfl) ?_
  refine r_iald X hw h_5 rfl (by rw [h_6]; exact z_ix hz_a1 (by omega) (by omega)) dX12_weightOf_6 ?_
  refine lv_topi (fun v_7 ev_7 => ?_)
  have z_8 := gE_994 hG h_5 (Int32.toNatClampNeg (a1)); rw [← ev_7] at z_8
  have ev_7 := ev_7.symm
  have zf_9 : zA S x 1239 (a1_z).toNat = v_7.toInt := (zA_of h_4 hz_a1 (by omega) ev_7)
  refine lv_aload_n X.1 X.2.1 dX12_weightOf_7 rfl (lv_at hl 0 rfl) ?_
  refine lv_iload_n X.1 X.2.1 dX12_weightOf_8 rfl (lv_at hl 1 rfl) ?_
  refine k_i (rm := { frames := 1, cells := 0, slots := 0, locals := 48 }) (av := [.ref x, .int (a1)]) X hw (va_runV (As := [.int (a1)]) (rest := [.int (v_7), .ref x]) (cfix X) (k_X12_metres l G cy κ S _ x (a1) (a1_z) hG ha_x hz_a1 (by first | assumption | omega) (by first | assumption | omega) (by first | assumption | omega) hp_3) (cwV 1 X.2.2.2.1 gX12_weightOf_X12_metres rfl rfl rfl (by decide +kernel) ⟨Nat.le_of_ble_eq_true rfl, Nat.le_of_ble_eq_true rfl⟩) (pre_V X hw _ ha_x rfl (by decide) rfl) rfl rfl hl.1 rfl (lv_room (Nat.le_of_ble_eq_true rfl)) dX12_weightOf_9 ⟨Nat.le_of_ble_eq_true rfl, Nat.le_of_ble_eq_true rfl⟩) 0 0 (Nat.le_of_ble_eq_true rfl) (Nat.le_of_ble_eq_true rfl) (fun rr_10 S_11 H locs hp hw hfr hnw => ?_)
  obtain ⟨e2, hp⟩ := hp
  subst e2
  obtain ⟨f_12, f_13, f_14⟩ := hp
  refine k_i (rm := { frames := 5, cells := 0, slots := 0, locals := 240 }) (av := [.ref x, .int (v_7), .int (rr_10)]) X hw (va_runV (As := [.int (v_7), .int (rr_10)]) (rest := []) (cfix X) (k_X12_weight8 l G cy κ S _ x (v_7) (v_7.toInt) (rr_10) (rr_10.toInt) sQ.2.2.2 hG ha_x rfl rfl (by first | assumption | omega) (by first | assumption | omega) (by first | assumption | omega) hp_3 (by omega) (fun j t hj => by rw [show (v_7.toInt).toNat = (zA S x 1239 a1_z.toNat).toNat by omega]; exact hp_4.2.2 j t hj)) (cwV 2 X.2.2.2.1 gX12_weightOf_X12_weight rfl rfl rfl (by decide +kernel) ⟨Nat.le_of_ble_eq_true rfl, Nat.le_of_ble_eq_true rfl⟩) (pre_V X hw _ ha_x rfl (by decide) rfl) rfl rfl hl.1 rfl (lv_room (Nat.le_of_ble_eq_true rfl)) dX12_weightOf_12 ⟨Nat.le_of_ble_eq_true rfl, Nat.le_of_ble_eq_true rfl⟩) 0 0 (Nat.le_of_ble_eq_true rfl) (Nat.le_of_ble_eq_true rfl) (fun rr_15 S_16 H locs hp hw hfr hnw => ?_)
  obtain ⟨e2, hp⟩ := hp
  subst e2
  obtain ⟨we_17, we_18, we_19⟩ := hp
  exact ret_i X hw hr hlocks (Nat.le_of_ble_eq_true rfl) (Nat.le_of_ble_eq_true rfl) ⟨rfl, ⟨z_lo _, z_hi _, we_19⟩⟩ dX12_weightOf_15
set_option maxHeartbeats 4000000 in
set_option maxRecDepth 100000 in
theorem k_X12_priceOf8 (l : Launch) (G : va_G) (cy : Nat → ClassId) (κ : Nat → Nat) (S : PS) (sz : Nat) (x : Nat) (a1 : Int32) (a1_z : Int) (sQ : Sk) (hG : GX S) (ha_x : At S x 12) (hz_a1 : a1.toInt = a1_z) (hp_0 : 0 ≤ a1_z) (hp_1 : a1_z ≤ 39) (hp_2 : a1_z < (pI S 1238 x).toInt) (hp_3 : MI S x) (hp_4 : SkR S x a1_z.toNat sQ) : Ci l yX12_priceOf wsX12_priceOf ({ frames := 7, cells := 0, slots := 0, locals := 336 }) G cy κ S sz [.ref x, .int (a1)] (fun (r : Int32) (S9 : PS) => S = S9 ∧ (-2147483648 ≤ r.toInt ∧ r.toInt ≤ 2147483647 ∧ r = pcI (siZ S x sQ.2.2.2) (mA S x 1248 (gI sQ.1.2.1)))) := by
  refine ent_m (cc := cX12_priceOf) (maxL := 2) (ret := (some .int)) (by decide) rfl (Nat.le_of_ble_eq_true rfl) ?_
  intro p e s m below meth c ls X hr hlocks hin hw hl hsz
  subst hsz
  have X : Cx p c cX12_priceOf 2 s [.ref x, .int (a1)].toArray wsX12_priceOf RX12 m G cy κ (AS S s.heap.size) := X
  have hl : lv_has ls 2 [(0, .ref x), (1, .int (a1))] := hl
  have rg_a1 : (-2147483648) ≤ a1_z ∧ a1_z ≤ 2147483647 := by rw [← hz_a1]; exact ⟨z_lo _, z_hi _⟩
  refine lv_aload_n X.1 X.2.1 dX12_priceOf_0 rfl (lv_at hl 0 rfl) ?_
  refine lv_iload_n X.1 X.2.1 dX12_priceOf_1 rfl (lv_at hl 1 rfl) ?_
  refine k_i (rm := { frames := 6, cells := 0, slots := 0, locals := 288 }) (av := [.ref x, .int (a1)]) X hw (va_runV (As := [.int (a1)]) (rest := []) (cfix X) (k_X12_weightOf8 l G cy κ S _ x (a1) (a1_z) sQ hG ha_x hz_a1 (by first | assumption | omega) (by first | assumption | omega) (by first | assumption | omega) hp_3 hp_4) (cwV 1 X.2.2.2.1 gX12_priceOf_X12_weightOf rfl rfl rfl (by decide +kernel) ⟨Nat.le_of_ble_eq_true rfl, Nat.le_of_ble_eq_true rfl⟩) (pre_V X hw _ ha_x rfl (by decide) rfl) rfl rfl hl.1 rfl (lv_room (Nat.le_of_ble_eq_true rfl)) dX12_priceOf_2 ⟨Nat.le_of_ble_eq_true rfl, Nat.le_of_ble_eq_true rfl⟩) 0 0 (Nat.le_of_ble_eq_true rfl) (Nat.le_of_ble_eq_true rfl) (fun rr_1 S_2 H locs hp hw hfr hnw => ?_)
  obtain ⟨e2, hp⟩ := hp
  subst e2
  obtain ⟨we_3, we_4, we_5⟩ := hp
  refine lv_aload_n X.1 X.2.1 dX12_priceOf_5 rfl (lv_at hl 0 rfl) ?_
  obtain ⟨q_6, h_7, h_8, h_9⟩ := gQ_12_1248 hG ha_x
  refine r_getR (g := 1248) X hw ha_x rfl 48 h_7 (by decide) rfl inn_X12_priceOf_12 (by decide) (X.2.2.2.1 (.fieldLink RX12 119 "SilkMillModel" "price" "[I") (by decide +kernel)) rfl (gv_1248 _ _) dX12_priceOf_6 ?_
  refine lv_aload_n X.1 X.2.1 dX12_priceOf_9 rfl (lv_at hl 0 rfl) ?_
  refine lv_iload_n X.1 X.2.1 dX12_priceOf_10 rfl (lv_at hl 1 rfl) ?_
  refine k_i (rm := { frames := 1, cells := 0, slots := 0, locals := 48 }) (av := [.ref x, .int (a1)]) X hw (va_runV (As := [.int (a1)]) (rest := [.ref q_6, .int (rr_1)]) (cfix X) (k_X12_gradeOf8 l G cy κ S _ x (a1) (a1_z) hG ha_x hz_a1 (by first | assumption | omega) (by first | assumption | omega)) (cwV 1 X.2.2.2.1 gX12_priceOf_X12_gradeOf rfl rfl rfl (by decide +kernel) ⟨Nat.le_of_ble_eq_true rfl, Nat.le_of_ble_eq_true rfl⟩) (pre_V X hw _ ha_x rfl (by decide) rfl) rfl rfl hl.1 rfl (lv_room (Nat.le_of_ble_eq_true rfl)) dX12_priceOf_11 ⟨Nat.le_of_ble_eq_true rfl, Nat.le_of_ble_eq_true rfl⟩) 0 0 (Nat.le_of_ble_eq_true rfl) (Nat.le_of_ble_eq_true rfl) (fun rr_10 S_11 H locs hp hw hfr hnw => ?_)
  obtain ⟨e2, hp⟩ := hp
  subst e2
  obtain ⟨go_12, go_13, go_14⟩ := hp
  refine r_iald X hw h_8 rfl (by rw [h_9]; exact z_ix rfl (by omega) (by omega)) dX12_priceOf_14 ?_
  refine lv_topi (fun v_15 ev_15 => ?_)
  have rg_16 := And.intro (z_lo v_15) (z_hi v_15)
  have ev_15 := ev_15.symm
  refine lv_imul X.1 X.2.1 dX12_priceOf_15 ?_
  refine lv_topi (fun v_17 ev_17 => ?_)
  have rg_18 := And.intro (z_lo v_17) (z_hi v_17)
  refine lv_bipush (v := 100) X.1 X.2.1 dX12_priceOf_16 (by decide) ?_
  refine lv_idiv X.1 X.2.1 dX12_priceOf_18 (by decide) ?_
  refine lv_topi (fun v_19 ev_19 => ?_)
  have rg_20 := And.intro (z_lo v_19) (z_hi v_19)
  have ix_21 : mA S x 1248 (gI sQ.1.2.1) = v_15 := by have g1 := hp_4.1.1.2.1; rw [gI_y (by omega), ← g1, ← go_14, mA_eq h_7, show (rr_10.toInt).toNat = Int32.toNatClampNeg (rr_10) from (z_nc (x := rr_10) rfl (by omega)).symm]; exact ev_15
  exact ret_i X hw hr hlocks (Nat.le_of_ble_eq_true rfl) (Nat.le_of_ble_eq_true rfl) ⟨rfl, ⟨z_lo _, z_hi _, by rw [ix_21, ← we_5, ev_19, ev_17]; rfl⟩⟩ dX12_priceOf_19
