theorem add_z0 {a : Int32} : a + 0 = a := Int32.add_zero a
theorem sub_z0 {a : Int32} : a - 0 = a := Int32.sub_zero a

set_option maxHeartbeats 4000000 in
set_option maxRecDepth 100000 in
theorem k_X12_gradeOf8 (l : Launch) (G : va_G) (cy : Nat → ClassId) (κ : Nat → Nat) (S : PS) (sz : Nat) (x : Nat) (a1 : Int32) (a1_z : Int) (hG : GX S) (ha_x : At S x 12) (hz_a1 : a1.toInt = a1_z) (hp_0 : 0 ≤ a1_z) (hp_1 : a1_z ≤ 39) : Ci l yX12_gradeOf wsX12_gradeOf ({ frames := 1, cells := 0, slots := 0, locals := 48 }) G cy κ S sz [.ref x, .int (a1)] (fun (r : Int32) (S9 : PS) => S = S9 ∧ (0 ≤ r.toInt ∧ r.toInt ≤ 3 ∧ r.toInt = gO S x a1_z.toNat)) := by
  refine ent_m (cc := cX12_gradeOf) (maxL := 2) (ret := (some .int)) (by decide) rfl (Nat.le_of_ble_eq_true rfl) ?_
  intro p e s m below meth c ls X hr hlocks hin hw hl hsz
  subst hsz
  have X : Cx p c cX12_gradeOf 2 s [.ref x, .int (a1)].toArray wsX12_gradeOf RX12 m G cy κ (AS S s.heap.size) := X
  have hl : lv_has ls 2 [(0, .ref x), (1, .int (a1))] := hl
  have rg_a1 : (-2147483648) ≤ a1_z ∧ a1_z ≤ 2147483647 := by rw [← hz_a1]; exact ⟨z_lo _, z_hi _⟩
  refine lv_aload_n X.1 X.2.1 dX12_gradeOf_0 rfl (lv_at hl 0 rfl) ?_
  obtain ⟨q_1, h_2, h_3, h_4⟩ := gQ_12_1243 hG ha_x
  refine r_getR (g := 1243) X hw ha_x rfl 43 h_2 (by decide) rfl inn_X12_gradeOf_12 (by decide) (X.2.2.2.1 (.fieldLink RX12 112 "SilkMillModel" "skeinGrade" "[I") (by decide +kernel)) rfl (gv_1243 _ _) dX12_gradeOf_1 ?_
  refine lv_iload_n X.1 X.2.1 dX12_gradeOf_4 rfl (lv_at hl 1 rfl) ?_
  refine r_iald X hw h_3 rfl (by rw [h_4]; exact z_ix hz_a1 (by omega) (by omega)) dX12_gradeOf_5 ?_
  refine lv_topi (fun v_5 ev_5 => ?_)
  have z_6 := gE_1074 hG h_3 (Int32.toNatClampNeg (a1)); rw [← ev_5] at z_6
  have ev_5 := ev_5.symm
  have zf_7 : zA S x 1243 (a1_z).toNat = v_5.toInt := (zA_of h_2 hz_a1 (by omega) ev_5)
  refine lv_iconst (v := (-1)) X.1 X.2.1 dX12_gradeOf_6 (by decide) ?_
  refine lv_icmp_ne (tgt := 14) X.1 X.2.1 dX12_gradeOf_7 (by decide) (fun c_8 => ?_) (fun c_8 => ?_)
  · have z_b_9 := trivial
    have k_10 : v_5.toInt ≠ (-1) := z_ne rfl ti_m1 c_8
    refine lv_aload_n X.1 X.2.1 dX12_gradeOf_14 rfl (lv_at hl 0 rfl) ?_
    refine r_getR (g := 1243) X hw ha_x rfl 43 h_2 (by decide) rfl inn_X12_gradeOf_12 (by decide) (X.2.2.2.1 (.fieldLink RX12 112 "SilkMillModel" "skeinGrade" "[I") (by decide +kernel)) rfl (gv_1243 _ _) dX12_gradeOf_15 ?_
    refine lv_iload_n X.1 X.2.1 dX12_gradeOf_18 rfl (lv_at hl 1 rfl) ?_
    refine r_iald X hw h_3 rfl (by rw [h_4]; exact z_ix hz_a1 (by omega) (by omega)) dX12_gradeOf_19 ?_
    rw [ev_5]
    exact ret_i X hw hr hlocks (Nat.le_of_ble_eq_true rfl) (Nat.le_of_ble_eq_true rfl) ⟨rfl, ⟨by omega, by omega, by unfold gO; rw [if_neg (by omega)]; have e1 : (v_5 : Int32).toInt = v_5.toInt := rfl; omega⟩⟩ dX12_gradeOf_20
  · have z_b_11 := trivial
    have k_12 : v_5.toInt = (-1) := z_eq rfl ti_m1 c_8
    refine lv_iconst (v := 3) X.1 X.2.1 dX12_gradeOf_10 (by decide) ?_
    refine lv_goto (tgt := 20) X.1 X.2.1 dX12_gradeOf_11 (by decide) ?_
    exact ret_i X hw hr hlocks (Nat.le_of_ble_eq_true rfl) (Nat.le_of_ble_eq_true rfl) ⟨rfl, ⟨by decide, by decide, by rw [gO_n (by omega)]; decide⟩⟩ dX12_gradeOf_20
set_option maxHeartbeats 4000000 in
set_option maxRecDepth 100000 in
theorem k_X12_weight8 (l : Launch) (G : va_G) (cy : Nat → ClassId) (κ : Nat → Nat) (S : PS) (sz : Nat) (x : Nat) (a1 : Int32) (a1_z : Int) (a2 : Int32) (a2_z : Int) (g : List Mt) (hG : GX S) (ha_x : At S x 12) (hz_a1 : a1.toInt = a1_z) (hz_a2 : a2.toInt = a2_z) (hp_0 : 0 ≤ a1_z) (hp_1 : 0 ≤ a2_z) (hp_2 : a1_z + a2_z ≤ 13200) (hp_3 : MI S x) (hp_4 : a2_z = (g.length : Int)) (hp_5 : (∀ (j : Nat) (t : Mt), g[j]? = some t → MtR S x (a1_z.toNat + j) t)) : Ci l yX12_weight wsX12_weight ({ frames := 5, cells := 0, slots := 0, locals := 240 }) G cy κ S sz [.ref x, .int (a1), .int (a2)] (fun (r : Int32) (S9 : PS) => S = S9 ∧ (-2147483648 ≤ r.toInt ∧ r.toInt ≤ 2147483647 ∧ r = siZ S x g)) := by
  refine ent_m (cc := cX12_weight) (maxL := 5) (ret := (some .int)) (by decide) rfl (Nat.le_of_ble_eq_true rfl) ?_
  intro p e s m below meth c ls X hr hlocks hin hw hl hsz
  subst hsz
  have X : Cx p c cX12_weight 5 s [.ref x, .int (a1), .int (a2)].toArray wsX12_weight RX12 m G cy κ (AS S s.heap.size) := X
  have hl : lv_has ls 5 [(0, .ref x), (1, .int (a1)), (2, .int (a2))] := hl
  have rg_a1 : (-2147483648) ≤ a1_z ∧ a1_z ≤ 2147483647 := by rw [← hz_a1]; exact ⟨z_lo _, z_hi _⟩
  have rg_a2 : (-2147483648) ≤ a2_z ∧ a2_z ≤ 2147483647 := by rw [← hz_a2]; exact ⟨z_lo _, z_hi _⟩
  generalize hQQ : MQ below _ _ _ _ _ _ = QQ
  replace hQQ := hQQ.symm
  refine lv_iconst (v := 0) X.1 X.2.1 dX12_weight_0 (by decide) ?_
  refine lv_istore_n (lv' := [(3, .int 0), (0, .ref x), (1, .int (a1)), (2, .int (a2))]) X.1 X.2.1 dX12_weight_1 rfl hl (by decide) rfl (fun ls hl => ?_)
  refine lv_iload_n X.1 X.2.1 dX12_weight_2 rfl (lv_at hl 2 rfl) ?_
  refine lv_istore (lv' := [(4, .int (a1)), (3, .int 0), (0, .ref x), (1, .int (a1)), (2, .int (a2))]) X.1 X.2.1 dX12_weight_3 hl (by decide) rfl (fun ls hl => ?_)
  have L_1 : ∀ (n : Nat) (H : Heap) (locs : List Loc) (ls : Array Slot) (i3_2 : Int32) (i3_2_z : Int) (i4_3 : Int32) (i4_3_z : Int), ((a1_z + a2_z - i4_3_z).toNat = n) → (Wd G cy (AS S s.heap.size) s.heap S H locs) → (i3_2.toInt = i3_2_z) → (i4_3.toInt = i4_3_z) → (0 ≤ i4_3_z ∧ i4_3_z ≤ 13200) → ((i3_2) = siZ S x (g.take (i4_3_z - a1_z).toNat)) → (a1_z ≤ i4_3_z) → (i4_3_z ≤ a1_z + a2_z) → (lv_has ls 5 [(3, .int (i3_2)), (4, .int (i4_3)), (0, .ref x), (1, .int (a1)), (2, .int (a2))]) → W p l e ({ frames := 5, cells := 0, slots := 0, locals := 240 }) s m [.ref x, .int (a1), .int (a2)].toArray below meth c H locs 0 0 QQ (F0 m 5 ls []) := by
    intro n
    induction n using Nat.strongRecOn with
    | ind n ih_L_1 =>
    intro H locs ls i3_2 i3_2_z i4_3 i4_3_z hn hw hz_i3_2 hz_i4_3 hr_i4_3 iv_4 iv_5 iv_6 hl
    have rg_7 : (-2147483648) ≤ i3_2_z ∧ i3_2_z ≤ 2147483647 := by rw [← hz_i3_2]; exact ⟨z_lo _, z_hi _⟩
    have rg_8 : (-2147483648) ≤ i4_3_z ∧ i4_3_z ≤ 2147483647 := by rw [← hz_i4_3]; exact ⟨z_lo _, z_hi _⟩
    refine lv_iload X.1 X.2.1 dX12_weight_5 (lv_at hl 1 rfl) ?_
    refine lv_iload_n X.1 X.2.1 dX12_weight_7 rfl (lv_at hl 3 rfl) ?_
    refine lv_iload_n X.1 X.2.1 dX12_weight_8 rfl (lv_at hl 4 rfl) ?_
    refine lv_iadd X.1 X.2.1 dX12_weight_9 ?_
    refine lv_topi (fun v_9 ev_9 => ?_)
    have z_10 : v_9.toInt = a1_z + a2_z := z_add ev_9 hz_a1 hz_a2 (by omega) (by omega)
    refine lv_icmp_ge (tgt := 28) X.1 X.2.1 dX12_weight_10 (by decide) (fun c_11 => ?_) (fun c_11 => ?_)
    · have z_b_12 := trivial
      have k_13 : i4_3_z ≥ (a1_z + a2_z) := z_le z_10 hz_i4_3 c_11
      refine lv_iload_n X.1 X.2.1 dX12_weight_28 rfl (lv_at hl 0 rfl) ?_
      rw [hQQ]
      exact ret_i X hw hr hlocks (Nat.le_of_ble_eq_true rfl) (Nat.le_of_ble_eq_true rfl) ⟨rfl, ⟨z_lo _, z_hi _, by rw [iv_4, show (i4_3_z - a1_z).toNat = g.length by omega, List.take_length]⟩⟩ dX12_weight_29
    · have z_b_14 := trivial
      have k_15 : i4_3_z < (a1_z + a2_z) := z_nle z_10 hz_i4_3 c_11
      refine lv_iload_n X.1 X.2.1 dX12_weight_13 rfl (lv_at hl 0 rfl) ?_
      refine lv_aload_n X.1 X.2.1 dX12_weight_14 rfl (lv_at hl 2 rfl) ?_
      refine lv_iload X.1 X.2.1 dX12_weight_15 (lv_at hl 1 rfl) ?_
      obtain ⟨t_16, ht_17⟩ : ∃ t, g[(i4_3_z - a1_z).toNat]? = some t := ⟨_, List.getElem?_eq_getElem (by omega)⟩
      refine k_i (rm := { frames := 4, cells := 0, slots := 0, locals := 192 }) (av := [.ref x, .int (i4_3)]) X hw (va_runV (As := [.int (i4_3)]) (rest := [.int (i3_2)]) (cfix X) (k_X12_fineAt7 l G cy κ S _ x (i4_3) (i4_3_z) t_16 hG ha_x hz_i4_3 (by omega) (by omega) hp_3 (by rw [show (i4_3_z).toNat = a1_z.toNat + (i4_3_z - a1_z).toNat by omega]; exact hp_5 _ _ ht_17)) (cwV 1 X.2.2.2.1 gX12_weight_X12_fineAt rfl rfl rfl (by decide +kernel) ⟨Nat.le_of_ble_eq_true rfl, Nat.le_of_ble_eq_true rfl⟩) (pre_V X hw _ ha_x rfl (by decide) rfl) rfl rfl hl.1 rfl (lv_room (Nat.le_of_ble_eq_true rfl)) dX12_weight_17 ⟨Nat.le_of_ble_eq_true rfl, Nat.le_of_ble_eq_true rfl⟩) 0 0 (Nat.le_of_ble_eq_true rfl) (Nat.le_of_ble_eq_true rfl) (fun rr_18 S_19 H locs hp hw hfr hnw => ?_)
      obtain ⟨e2, hp⟩ := hp
      subst e2
      obtain ⟨fa_20, fa_21, fa_22⟩ := hp
      have rg_23 := And.intro (z_lo rr_18) (z_hi rr_18)
      refine lv_iadd X.1 X.2.1 dX12_weight_20 ?_
      refine lv_topi (fun v_24 ev_24 => ?_)
      have rg_25 := And.intro (z_lo v_24) (z_hi v_24)
      refine lv_istore_n (lv' := [(3, .int (v_24)), (4, .int (i4_3)), (0, .ref x), (1, .int (a1)), (2, .int (a2))]) X.1 X.2.1 dX12_weight_21 rfl hl (by decide) rfl (fun ls hl => ?_)
      obtain ⟨x_26, ex_26⟩ : ∃ y : Int32, y = i4_3 + 1 := ⟨_, rfl⟩
      have z_27 : x_26.toInt = i4_3_z + 1 := z_add ex_26 hz_i4_3 ti_1 (by omega) (by omega)
      refine lv_iinc (v := x_26) (lv' := [(4, .int (x_26)), (3, .int (v_24)), (0, .ref x), (1, .int (a1)), (2, .int (a2))]) X.1 X.2.1 dX12_weight_22 hl (k := 1) rfl (by rw [ex_26]; rfl) (by decide) rfl (fun ls hl => ?_)
      refine lv_goto (tgt := 5) X.1 X.2.1 dX12_weight_25 (by decide) ?_
      exact ih_L_1 _ (by omega) _ _ _ (v_24) (v_24.toInt) (x_26) (x_26.toInt) rfl hw rfl rfl (by omega) (by rw [show (x_26.toInt - a1_z).toNat = (i4_3_z - a1_z).toNat + 1 by omega, siZ_s ht_17, ← iv_4, ev_24]; exact congrArg (fun y => i3_2 + y) fa_22) (by omega) (by omega) (lv_sub hl [1, 0, 2, 3, 4] rfl)
  exact L_1 _ _ _ _ (0) (0) (a1) (a1_z) rfl hw ti_0 hz_a1 (by omega) (by rw [show (a1_z - a1_z).toNat = 0 by omega]; rfl) (by omega) (by omega) (lv_sub hl [1, 0, 2, 3, 4] rfl)
set_option maxHeartbeats 4000000 in
set_option maxRecDepth 100000 in
theorem k_X12_weightOf8 (l : Launch) (G : va_G) (cy : Nat → ClassId) (κ : Nat → Nat) (S : PS) (sz : Nat) (x : Nat) (a1 : Int32) (a1_z : Int) (sQ : Sk) (hG : GX S) (ha_x : At S x 12) (hz_a1 : a1.toInt = a1_z) (hp_0 : 0 ≤ a1_z) (hp_1 : a1_z ≤ 39) (hp_2 : a1_z < (pI S 1238 x).toInt) (hp_3 : MI S x) (hp_4 : SkR S x a1_z.toNat sQ) : Ci l yX12_weightOf wsX12_weightOf ({ frames := 6, cells := 0, slots := 0, locals := 288 }) G cy κ S sz [.ref x, .int (a1)] (fun (r : Int32) (S9 : PS) => S = S9 ∧ (-2147483648 ≤ r.toInt ∧ r.toInt ≤ 2147483647 ∧ r = siZ S x sQ.2.2.2)) := by
  refine ent_m (cc := cX12_weightOf) (maxL := 2) (ret := (some .int)) (by decide) rfl (Nat.le_of_ble_eq_true rfl) ?_
  intro p e s m below meth c ls X hr hlocks hin hw hl hsz
  subst hsz
  have X : Cx p c cX12_weightOf 2 s [.ref x, .int (a1)].toArray wsX12_weightOf RX12 m G cy κ (AS S s.heap.size) := X
  have hl : lv_has ls 2 [(0, .ref x), (1, .int (a1))] := hl
  have rg_a1 : (-2147483648) ≤ a1_z ∧ a1_z ≤ 2147483647 := by rw [← hz_a1]; exact ⟨z_lo _, z_hi _⟩
  have h7 := MI_7 hp_3 (k := a1_z) (by omega) (by omega)
  have sl_1 := hp_4.2.1
  have sl_2 : zA S x 1239 (a1_z + 1).toNat = zA S x 1239 (a1_z.toNat + 1) := by rw [show (a1_z + 1).toNat = a1_z.toNat + 1 by omega]
  refine lv_aload_n X.1 X.2.1 dX12_weightOf_0 rfl (lv_at hl 0 rfl) ?_
  refine lv_aload_n X.1 X.2.1 dX12_weightOf_1 rfl (lv_at hl 0 rfl) ?_
  obtain ⟨q_3, h_4, h_5, h_6⟩ := gQ_12_1239 hG ha_x
  refine r_getR (g := 1239) X hw ha_x rfl 39 h_4 (by decide) rfl inn_X12_weightOf_12 (by decide) (X.2.2.2.1 (.fieldLink RX12 100 "SilkMillModel" "firstMetre" "[I") (by decide +kernel)) rfl (gv_1239 _ _) dX12_weightOf_2 ?_
  refine lv_iload_n X.1 X.2.1 dX12_weightOf_5 rfl (lv_at hl 1 rfl) ?_
  refine r_iald X hw h_5 rfl (by rw [h_6]; exact z_ix hz_a1 (by omega) (by omega)) dX12_weightOf_6 ?_
  refine lv_topi (fun v_7 ev_7 => ?_)
  have z_8 := gE_994 hG h_5 (Int32.toNatClampNeg (a1)); rw [← ev_7] at z_8
  have ev_7 := ev_7.symm
  have zf_9 : zA S x 1239 (a1_z).toNat = v_7.toInt := (zA_of h_4 hz_a1 (by omega) ev_7)
  refine lv_aload_n X.1 X.2.1 dX12_weightOf_7 rfl (lv_at hl 0 rfl) ?_
  refine lv_iload_n X.1 X.2.1 dX12_weightOf_8 rfl (lv_at hl 1 rfl) ?_
  refine k_i (rm := { frames := 1, cells := 0, slots := 0, locals := 48 }) (av := [.ref x, .int (a1)]) X hw (va_runV (As := [.int (a1)]) (rest := [.int (v_7), .ref x]) (cfix X) (k_X12_metres l G cy κ S _ x (a1) (a1_z) hG ha_x hz_a1 (by first | assumption | omega) (by first | assumption | omega) (by first | assumption | omega) hp_3) (cwV 1 X.2.2.2.1 gX12_weightOf_X12_metres rfl rfl rfl (by decide +kernel) ⟨Nat.le_of_ble_eq_true rfl, Nat.le_of_ble_eq_true rfl⟩) (pre_V X hw _ ha_x rfl (by decide) rfl) rfl rfl hl.1 rfl (lv_room (Nat.le_of_ble_eq_true rfl)) dX12_weightOf_9 ⟨Nat.le_of_ble_eq_true rfl, Nat.le_of_ble_eq_true rfl⟩) 0 0 (Nat.le_of_ble_eq_true rfl) (Nat.le_of_ble_eq_true rfl) (fun rr_10 S_11 H locs hp hw hfr hnw => ?_)
  obtain ⟨e2, hp⟩ := hp
  subst e2
  obtain ⟨f_12, f_13, f_14⟩ := hp
  refine k_i (rm := { frames := 5, cells := 0, slots := 0, locals := 240 }) (av := [.ref x, .int (v_7), .int (rr_10)]) X hw (va_runV (As := [.int (v_7), .int (rr_10)]) (rest := []) (cfix X) (k_X12_weight8 l G cy κ S _ x (v_7) (v_7.toInt) (rr_10) (rr_10.toInt) sQ.2.2.2 hG ha_x rfl rfl (by first | assumption | omega) (by first | assumption | omega) (by first | assumption | omega) hp_3 (by omega) (fun j t hj => by rw [show (v_7.toInt).toNat = (zA S x 1239 a1_z.toNat).toNat by omega]; exact hp_4.2.2 j t hj)) (cwV 2 X.2.2.2.1 gX12_weightOf_X12_weight rfl rfl rfl (by decide +kernel) ⟨Nat.le_of_ble_eq_true rfl, Nat.le_of_ble_eq_true rfl⟩) (pre_V X hw _ ha_x rfl (by decide) rfl) rfl rfl hl.1 rfl (lv_room (Nat.le_of_ble_eq_true rfl)) dX12_weightOf_12 ⟨Nat.le_of_ble_eq_true rfl, Nat.le_of_ble_eq_true rfl⟩) 0 0 (Nat.le_of_ble_eq_true rfl) (Nat.le_of_ble_eq_true rfl) (fun rr_15 S_16 H locs hp hw hfr hnw => ?_)
  obtain ⟨e2, hp⟩ := hp
  subst e2
  obtain ⟨we_17, we_18, we_19⟩ := hp
  exact ret_i X hw hr hlocks (Nat.le_of_ble_eq_true rfl) (Nat.le_of_ble_eq_true rfl) ⟨rfl, ⟨z_lo _, z_hi _, we_19⟩⟩ dX12_weightOf_15
set_option maxHeartbeats 4000000 in
set_option maxRecDepth 100000 in
theorem k_X12_priceOf8 (l : Launch) (G : va_G) (cy : Nat → ClassId) (κ : Nat → Nat) (S : PS) (sz : Nat) (x : Nat) (a1 : Int32) (a1_z : Int) (sQ : Sk) (hG : GX S) (ha_x : At S x 12) (hz_a1 : a1.toInt = a1_z) (hp_0 : 0 ≤ a1_z) (hp_1 : a1_z ≤ 39) (hp_2 : a1_z < (pI S 1238 x).toInt) (hp_3 : MI S x) (hp_4 : SkR S x a1_z.toNat sQ) : Ci l yX12_priceOf wsX12_priceOf ({ frames := 7, cells := 0, slots := 0, locals := 336 }) G cy κ S sz [.ref x, .int (a1)] (fun (r : Int32) (S9 : PS) => S = S9 ∧ (-2147483648 ≤ r.toInt ∧ r.toInt ≤ 2147483647 ∧ r = pcI (siZ S x sQ.2.2.2) (mA S x 1248 (gI sQ.1.2.1)))) := by
  refine ent_m (cc := cX12_priceOf) (maxL := 2) (ret := (some .int)) (by decide) rfl (Nat.le_of_ble_eq_true rfl) ?_
  intro p e s m below meth c ls X hr hlocks hin hw hl hsz
  subst hsz
  have X : Cx p c cX12_priceOf 2 s [.ref x, .int (a1)].toArray wsX12_priceOf RX12 m G cy κ (AS S s.heap.size) := X
  have hl : lv_has ls 2 [(0, .ref x), (1, .int (a1))] := hl
  have rg_a1 : (-2147483648) ≤ a1_z ∧ a1_z ≤ 2147483647 := by rw [← hz_a1]; exact ⟨z_lo _, z_hi _⟩
  refine lv_aload_n X.1 X.2.1 dX12_priceOf_0 rfl (lv_at hl 0 rfl) ?_
  refine lv_iload_n X.1 X.2.1 dX12_priceOf_1 rfl (lv_at hl 1 rfl) ?_
  refine k_i (rm := { frames := 6, cells := 0, slots := 0, locals := 288 }) (av := [.ref x, .int (a1)]) X hw (va_runV (As := [.int (a1)]) (rest := []) (cfix X) (k_X12_weightOf8 l G cy κ S _ x (a1) (a1_z) sQ hG ha_x hz_a1 (by first | assumption | omega) (by first | assumption | omega) (by first | assumption | omega) hp_3 hp_4) (cwV 1 X.2.2.2.1 gX12_priceOf_X12_weightOf rfl rfl rfl (by decide +kernel) ⟨Nat.le_of_ble_eq_true rfl, Nat.le_of_ble_eq_true rfl⟩) (pre_V X hw _ ha_x rfl (by decide) rfl) rfl rfl hl.1 rfl (lv_room (Nat.le_of_ble_eq_true rfl)) dX12_priceOf_2 ⟨Nat.le_of_ble_eq_true rfl, Nat.le_of_ble_eq_true rfl⟩) 0 0 (Nat.le_of_ble_eq_true rfl) (Nat.le_of_ble_eq_true rfl) (fun rr_1 S_2 H locs hp hw hfr hnw => ?_)
  obtain ⟨e2, hp⟩ := hp
  subst e2
  obtain ⟨we_3, we_4, we_5⟩ := hp
  refine lv_aload_n X.1 X.2.1 dX12_priceOf_5 rfl (lv_at hl 0 rfl) ?_
  obtain ⟨q_6, h_7, h_8, h_9⟩ := gQ_12_1248 hG ha_x
  refine r_getR (g := 1248) X hw ha_x rfl 48 h_7 (by decide) rfl inn_X12_priceOf_12 (by decide) (X.2.2.2.1 (.fieldLink RX12 119 "SilkMillModel" "price" "[I") (by decide +kernel)) rfl (gv_1248 _ _) dX12_priceOf_6 ?_
  refine lv_aload_n X.1 X.2.1 dX12_priceOf_9 rfl (lv_at hl 0 rfl) ?_
  refine lv_iload_n X.1 X.2.1 dX12_priceOf_10 rfl (lv_at hl 1 rfl) ?_
  refine k_i (rm := { frames := 1, cells := 0, slots := 0, locals := 48 }) (av := [.ref x, .int (a1)]) X hw (va_runV (As := [.int (a1)]) (rest := [.ref q_6, .int (rr_1)]) (cfix X) (k_X12_gradeOf8 l G cy κ S _ x (a1) (a1_z) hG ha_x hz_a1 (by first | assumption | omega) (by first | assumption | omega)) (cwV 1 X.2.2.2.1 gX12_priceOf_X12_gradeOf rfl rfl rfl (by decide +kernel) ⟨Nat.le_of_ble_eq_true rfl, Nat.le_of_ble_eq_true rfl⟩) (pre_V X hw _ ha_x rfl (by decide) rfl) rfl rfl hl.1 rfl (lv_room (Nat.le_of_ble_eq_true rfl)) dX12_priceOf_11 ⟨Nat.le_of_ble_eq_true rfl, Nat.le_of_ble_eq_true rfl⟩) 0 0 (Nat.le_of_ble_eq_true rfl) (Nat.le_of_ble_eq_true rfl) (fun rr_10 S_11 H locs hp hw hfr hnw => ?_)
  obtain ⟨e2, hp⟩ := hp
  subst e2
  obtain ⟨go_12, go_13, go_14⟩ := hp
  refine r_iald X hw h_8 rfl (by rw [h_9]; exact z_ix rfl (by omega) (by omega)) dX12_priceOf_14 ?_
  refine lv_topi (fun v_15 ev_15 => ?_)
  have rg_16 := And.intro (z_lo v_15) (z_hi v_15)
  have ev_15 := ev_15.symm
  refine lv_imul X.1 X.2.1 dX12_priceOf_15 ?_
  refine lv_topi (fun v_17 ev_17 => ?_)
  have rg_18 := And.intro (z_lo v_17) (z_hi v_17)
  refine lv_bipush (v := 100) X.1 X.2.1 dX12_priceOf_16 (by decide) ?_
  refine lv_idiv X.1 X.2.1 dX12_priceOf_18 (by decide) ?_
  refine lv_topi (fun v_19 ev_19 => ?_)
  have rg_20 := And.intro (z_lo v_19) (z_hi v_19)
  have ix_21 : mA S x 1248 (gI sQ.1.2.1) = v_15 := by have g1 := hp_4.1.1.2.1; rw [gI_y (by omega), ← g1, ← go_14, mA_eq h_7, show (rr_10.toInt).toNat = Int32.toNatClampNeg (rr_10) from (z_nc (x := rr_10) rfl (by omega)).symm]; exact ev_15
  exact ret_i X hw hr hlocks (Nat.le_of_ble_eq_true rfl) (Nat.le_of_ble_eq_true rfl) ⟨rfl, ⟨z_lo _, z_hi _, by rw [ix_21, ← we_5, ev_19, ev_17]; rfl⟩⟩ dX12_priceOf_19
set_option maxHeartbeats 4000000 in
set_option maxRecDepth 100000 in
theorem k_X12_pay8 (l : Launch) (G : va_G) (cy : Nat → ClassId) (κ : Nat → Nat) (S : PS) (sz : Nat) (x : Nat) (a1 : Int32) (a1_z : Int) (a2 : Int32) (a2_z : Int) (a3 : Int32) (a3_z : Int) (Ls : List Sk) (hG : GX S) (ha_x : At S x 12) (hz_a1 : a1.toInt = a1_z) (hz_a2 : a2.toInt = a2_z) (hz_a3 : a3.toInt = a3_z) (hp_0 : MI S x) (hp_1 : SkW S x Ls) (hp_2 : (∀ f : Nat, (f : Int) < (pI S 1262 x).toInt → 0 ≤ zA S x 1263 f ∧ zA S x 1263 f < (Ls.length : Int))) : Ci l yX12_pay wsX12_pay ({ frames := 8, cells := 0, slots := 0, locals := 384 }) G cy κ S sz [.ref x, .int (a1), .int (a2), .int (a3)] (fun (r : Int32) (S9 : PS) => Ok MN S S9 ∧ (-2147483648 ≤ r.toInt ∧ r.toInt ≤ 2147483647 ∧ (((0 ≤ a1_z ∧ a1_z < (pI S 1211 x).toInt) ∧ (0 ≤ a2_z ∧ a2_z ≤ (pI S 1245 x).toInt) ∧ 0 ≤ a3_z ∧ a3_z ≤ (pI S 1245 x).toInt) → r = pyF Ls (zA S x 1263) (zA S x 1265) (zA S x 1264) a1_z a2_z a3_z (pyS (siZ S x) (mA S x 1248) a1_z a2_z Ls) (pI S 1262 x).toInt.toNat) ∧ (¬ ((0 ≤ a1_z ∧ a1_z < (pI S 1211 x).toInt) ∧ (0 ≤ a2_z ∧ a2_z ≤ (pI S 1245 x).toInt) ∧ 0 ≤ a3_z ∧ a3_z ≤ (pI S 1245 x).toInt) → r.toInt = 0))) := by
  refine ent_m (cc := cX12_pay) (maxL := 6) (ret := (some .int)) (by decide) rfl (Nat.le_of_ble_eq_true rfl) ?_
  intro p e s m below meth c ls X hr hlocks hin hw hl hsz
  subst hsz
  have X : Cx p c cX12_pay 6 s [.ref x, .int (a1), .int (a2), .int (a3)].toArray wsX12_pay RX12 m G cy κ (AS S s.heap.size) := X
  have hl : lv_has ls 6 [(0, .ref x), (1, .int (a1)), (2, .int (a2)), (3, .int (a3))] := hl
  have rg_a1 : (-2147483648) ≤ a1_z ∧ a1_z ≤ 2147483647 := by rw [← hz_a1]; exact ⟨z_lo _, z_hi _⟩
  have rg_a2 : (-2147483648) ≤ a2_z ∧ a2_z ≤ 2147483647 := by rw [← hz_a2]; exact ⟨z_lo _, z_hi _⟩
  have rg_a3 : (-2147483648) ≤ a3_z ∧ a3_z ≤ 2147483647 := by rw [← hz_a3]; exact ⟨z_lo _, z_hi _⟩
  have hO : Ok MN S S := Ok.rf hG
  generalize hQQ : MQ below _ _ _ _ _ _ = QQ
  replace hQQ := hQQ.symm
  obtain ⟨v_1, ev_1⟩ : ∃ v, pI S 1211 x = v := ⟨_, rfl⟩
  have rg_2 := gI_12_1211 hO.1 ha_x; rw [ev_1] at rg_2
  have pz_3 : (pI S 1211 x).toInt = v_1.toInt := by rw [ev_1]
  have pz_4 : (pI S 1211 x).toInt = v_1.toInt := (congrArg Int32.toInt ev_1).trans rfl
  obtain ⟨v_5, ev_5⟩ : ∃ v, pI S 1238 x = v := ⟨_, rfl⟩
  have rg_6 := gI_12_1238 hO.1 ha_x; rw [ev_5] at rg_6
  have pz_7 : (pI S 1238 x).toInt = v_5.toInt := by rw [ev_5]
  have pz_8 : (pI S 1238 x).toInt = v_5.toInt := (congrArg Int32.toInt ev_5).trans rfl
  obtain ⟨v_9, ev_9⟩ : ∃ v, pI S 1262 x = v := ⟨_, rfl⟩
  have rg_10 := gI_12_1262 hO.1 ha_x; rw [ev_9] at rg_10
  have pz_11 : (pI S 1262 x).toInt = v_9.toInt := by rw [ev_9]
  have pz_12 : (pI S 1262 x).toInt = v_9.toInt := (congrArg Int32.toInt ev_9).trans rfl
  obtain ⟨v_13, ev_13⟩ : ∃ v, pI S 1245 x = v := ⟨_, rfl⟩
  have rg_15 := And.intro (z_lo v_13) (z_hi v_13)
  have pz_16 : (pI S 1245 x).toInt = v_13.toInt := by rw [ev_13]
  have pz_17 : (pI S 1245 x).toInt = v_13.toInt := (congrArg Int32.toInt ev_13).trans rfl
  refine lv_aload_n X.1 X.2.1 dX12_pay_0 rfl (lv_at hl 0 rfl) ?_
  refine lv_iconst (v := 0) X.1 X.2.1 dX12_pay_1 (by decide) ?_
  refine r_putI (v := 0) X hw ha_x rfl 0 1200 tyX12 (by decide) rfl inn_X12_pay_12 tyX12_ok nmX12 (by decide) (X.2.2.2.1 (.fieldLink RX12 161 "SilkMillModel" "thrown" "I") (by decide +kernel)) rfl (Or.inl rfl) rfl rfl (Nat.le_of_ble_eq_true rfl) (st_1200 _ _) dX12_pay_2 (fun H locs hw => ?_)
  obtain ⟨S_18, eS_18⟩ : ∃ T, T = sI S 1200 x (0) := ⟨_, rfl⟩
  rw [← eS_18] at hw
  have hO_19 : Ok MN S S_18 := hO.sI eS_18 (by decide +kernel) (uI_12_1200 hO.1 ha_x)
  have h_20 : pI S_18 1200 x = 0 := tI_sIs eS_18
  have t_21 : pI S_18 1211 x = v_1 := tI_sI eS_18 rfl ev_1
  have pz_22 : (pI S_18 1211 x).toInt = v_1.toInt := (congrArg Int32.toInt t_21).trans rfl
  have t_23 : pI S_18 1238 x = v_5 := tI_sI eS_18 rfl ev_5
  have pz_24 : (pI S_18 1238 x).toInt = v_5.toInt := (congrArg Int32.toInt t_23).trans rfl
  have t_25 : pI S_18 1262 x = v_9 := tI_sI eS_18 rfl ev_9
  have pz_26 : (pI S_18 1262 x).toInt = v_9.toInt := (congrArg Int32.toInt t_25).trans rfl
  have t_27 : pI S_18 1245 x = v_13 := tI_sI eS_18 rfl ev_13
  have pz_28 : (pI S_18 1245 x).toInt = v_13.toInt := (congrArg Int32.toInt t_27).trans rfl
  have sw_29 : SkW S_18 x Ls := SkW_n (by rw [eS_18, pI_sI_nf (by decide)]) ⟨zA_sI eS_18, zA_sI eS_18, zA_sI eS_18, zA_sI eS_18, zA_sI eS_18, zA_sI eS_18, zA_sI eS_18, zA_sI eS_18⟩ hp_1
  have hkl := sw_29.1
  refine lv_aload_n X.1 X.2.1 dX12_pay_5 rfl (lv_at hl 0 rfl) ?_
  refine lv_iload_n X.1 X.2.1 dX12_pay_6 rfl (lv_at hl 1 rfl) ?_
  have pz_30 : (pI S_18 1211 x).toInt = v_1.toInt := (congrArg Int32.toInt t_21).trans rfl
  have t_31 : At S_18 x 12 := tAt_sI eS_18 ha_x
  refine k_i (rm := { frames := 2, cells := 0, slots := 0, locals := 96 }) (av := [.ref x, .int (a1)]) X hw (va_runV (As := [.int (a1)]) (rest := []) (cfix X) (k_X12_isPot l G cy κ S_18 _ x (a1) (a1_z) hO_19.1 t_31 hz_a1) (cwV 1 X.2.2.2.1 gX12_pay_X12_isPot rfl rfl rfl (by decide +kernel) ⟨Nat.le_of_ble_eq_true rfl, Nat.le_of_ble_eq_true rfl⟩) (pre_V X hw _ t_31 rfl (by decide) rfl) rfl rfl hl.1 rfl (lv_room (Nat.le_of_ble_eq_true rfl)) dX12_pay_7 ⟨Nat.le_of_ble_eq_true rfl, Nat.le_of_ble_eq_true rfl⟩) 0 0 (Nat.le_of_ble_eq_true rfl) (Nat.le_of_ble_eq_true rfl) (fun rr_32 S_33 H locs hp hw hfr hnw => ?_)
  obtain ⟨e2, hp⟩ := hp
  subst e2
  rcases hp with ⟨f_34, er_35⟩ | ⟨f_34, er_35⟩ <;> subst er_35
  · have z_b_36 := trivial
    refine lv_if_eq (tgt := 37) X.1 X.2.1 dX12_pay_10 (by decide) (fun c_37 => absurd c_37 (by decide)) (fun c_37 => ?_)
    refine lv_iload_n X.1 X.2.1 dX12_pay_13 rfl (lv_at hl 2 rfl) ?_
    refine lv_iconst (v := 0) X.1 X.2.1 dX12_pay_14 (by decide) ?_
    refine lv_aload_n X.1 X.2.1 dX12_pay_15 rfl (lv_at hl 0 rfl) ?_
    refine r_getI (g := 1245) (x := v_13) X hw t_31 rfl 45 t_27 (by decide) rfl inn_X12_pay_12 (by decide) (X.2.2.2.1 (.fieldLink RX12 302 "SilkMillModel" "today" "I") (by decide +kernel)) rfl (gv_1245 _ _) dX12_pay_16 ?_
    refine k_i (rm := { frames := 1, cells := 0, slots := 0, locals := 48 }) (av := [.int (a2), .int 0, .int (v_13)]) X hw (va_runS (As := [.int (a2), .int 0, .int (v_13)]) (rest := []) (cfix X) (k_X12_within l G cy κ S_18 _ (a2) (a2_z) (0) (0) (v_13) (v_13.toInt) hO_19.1 hz_a2 ti_0 rfl) (cwS 3 X.2.2.2.1 gX12_pay_X12_within rfl rfl rfl (by decide +kernel) ⟨Nat.le_of_ble_eq_true rfl, Nat.le_of_ble_eq_true rfl⟩) (pre_S X hw _) rfl rfl hl.1 rfl (lv_room (Nat.le_of_ble_eq_true rfl)) dX12_pay_19 ⟨Nat.le_of_ble_eq_true rfl, Nat.le_of_ble_eq_true rfl⟩) 0 0 (Nat.le_of_ble_eq_true rfl) (Nat.le_of_ble_eq_true rfl) (fun rr_38 S_39 H locs hp hw hfr hnw => ?_)
    obtain ⟨e2, hp⟩ := hp
    subst e2
    rcases hp with ⟨f_40, er_41⟩ | ⟨f_40, er_41⟩ <;> subst er_41
    · have z_b_42 := trivial
      refine lv_if_eq (tgt := 37) X.1 X.2.1 dX12_pay_22 (by decide) (fun c_43 => absurd c_43 (by decide)) (fun c_43 => ?_)
      refine lv_iload_n X.1 X.2.1 dX12_pay_25 rfl (lv_at hl 3 rfl) ?_
      refine lv_iconst (v := 0) X.1 X.2.1 dX12_pay_26 (by decide) ?_
      refine lv_aload_n X.1 X.2.1 dX12_pay_27 rfl (lv_at hl 0 rfl) ?_
      refine r_getI (g := 1245) (x := v_13) X hw t_31 rfl 45 t_27 (by decide) rfl inn_X12_pay_12 (by decide) (X.2.2.2.1 (.fieldLink RX12 302 "SilkMillModel" "today" "I") (by decide +kernel)) rfl (gv_1245 _ _) dX12_pay_28 ?_
      refine k_i (rm := { frames := 1, cells := 0, slots := 0, locals := 48 }) (av := [.int (a3), .int 0, .int (v_13)]) X hw (va_runS (As := [.int (a3), .int 0, .int (v_13)]) (rest := []) (cfix X) (k_X12_within l G cy κ S_18 _ (a3) (a3_z) (0) (0) (v_13) (v_13.toInt) hO_19.1 hz_a3 ti_0 rfl) (cwS 3 X.2.2.2.1 gX12_pay_X12_within rfl rfl rfl (by decide +kernel) ⟨Nat.le_of_ble_eq_true rfl, Nat.le_of_ble_eq_true rfl⟩) (pre_S X hw _) rfl rfl hl.1 rfl (lv_room (Nat.le_of_ble_eq_true rfl)) dX12_pay_31 ⟨Nat.le_of_ble_eq_true rfl, Nat.le_of_ble_eq_true rfl⟩) 0 0 (Nat.le_of_ble_eq_true rfl) (Nat.le_of_ble_eq_true rfl) (fun rr_44 S_45 H locs hp hw hfr hnw => ?_)
      obtain ⟨e2, hp⟩ := hp
      subst e2
      rcases hp with ⟨f_46, er_47⟩ | ⟨f_46, er_47⟩ <;> subst er_47
      · have z_b_48 := trivial
        refine lv_if_ne (tgt := 39) X.1 X.2.1 dX12_pay_34 (by decide) (fun c_49 => ?_) (fun c_49 => absurd c_49 (by decide))
        refine lv_iconst (v := 0) X.1 X.2.1 dX12_pay_39 (by decide) ?_
        refine lv_istore (lv' := [(4, .int 0), (0, .ref x), (1, .int (a1)), (2, .int (a2)), (3, .int (a3))]) X.1 X.2.1 dX12_pay_40 hl (by decide) rfl (fun ls hl => ?_)
        refine lv_iconst (v := 0) X.1 X.2.1 dX12_pay_42 (by decide) ?_
        refine lv_istore (lv' := [(5, .int 0), (4, .int 0), (0, .ref x), (1, .int (a1)), (2, .int (a2)), (3, .int (a3))]) X.1 X.2.1 dX12_pay_43 hl (by decide) rfl (fun ls hl => ?_)
        have L_50 : ∀ (n : Nat) (H : Heap) (locs : List Loc) (ls : Array Slot) (i4_51 : Int32) (i4_51_z : Int) (i5_52 : Int32) (i5_52_z : Int), ((40 - i5_52_z).toNat = n) → (Wd G cy (AS S s.heap.size) s.heap S_18 H locs) → (i4_51.toInt = i4_51_z) → (i5_52.toInt = i5_52_z) → (0 ≤ i5_52_z ∧ i5_52_z ≤ 40) → ((i4_51) = pyS (siZ S_18 x) (mA S_18 x 1248) a1_z a2_z (Ls.take (i5_52_z).toNat)) → (i5_52_z ≤ (Ls.length : Int)) → (lv_has ls 6 [(4, .int (i4_51)), (5, .int (i5_52)), (0, .ref x), (1, .int (a1)), (2, .int (a2)), (3, .int (a3))]) → W p l e ({ frames := 8, cells := 0, slots := 0, locals := 384 }) s m [.ref x, .int (a1), .int (a2), .int (a3)].toArray below meth c H locs 0 0 QQ (F0 m 45 ls []) := by
          intro n
          induction n using Nat.strongRecOn with
          | ind n ih_L_50 =>
          intro H locs ls i4_51 i4_51_z i5_52 i5_52_z hn hw hz_i4_51 hz_i5_52 hr_i5_52 iv_53 iv_54 hl
          have rg_55 : (-2147483648) ≤ i4_51_z ∧ i4_51_z ≤ 2147483647 := by rw [← hz_i4_51]; exact ⟨z_lo _, z_hi _⟩
          have rg_56 : (-2147483648) ≤ i5_52_z ∧ i5_52_z ≤ 2147483647 := by rw [← hz_i5_52]; exact ⟨z_lo _, z_hi _⟩
          refine lv_iload X.1 X.2.1 dX12_pay_45 (lv_at hl 1 rfl) ?_
          refine lv_aload_n X.1 X.2.1 dX12_pay_47 rfl (lv_at hl 2 rfl) ?_
          refine r_getI (g := 1238) (x := v_5) X hw t_31 rfl 38 t_23 (by decide) rfl inn_X12_pay_12 (by decide) (X.2.2.2.1 (.fieldLink RX12 290 "SilkMillModel" "skeins" "I") (by decide +kernel)) rfl (gv_1238 _ _) dX12_pay_48 ?_
          refine lv_icmp_ge (tgt := 97) X.1 X.2.1 dX12_pay_51 (by decide) (fun c_57 => ?_) (fun c_57 => ?_)
          · have z_b_58 := trivial
            have k_59 : i5_52_z ≥ v_5.toInt := z_le rfl hz_i5_52 c_57
            refine lv_iconst (v := 0) X.1 X.2.1 dX12_pay_97 (by decide) ?_
            refine lv_istore (lv' := [(5, .int 0), (4, .int (i4_51)), (0, .ref x), (1, .int (a1)), (2, .int (a2)), (3, .int (a3))]) X.1 X.2.1 dX12_pay_98 hl (by decide) rfl (fun ls hl => ?_)
            have L_60 : ∀ (n : Nat) (H : Heap) (locs : List Loc) (ls : Array Slot) (i4_61 : Int32) (i4_61_z : Int) (i5_62 : Int32) (i5_62_z : Int), ((40 - i5_62_z).toNat = n) → (Wd G cy (AS S s.heap.size) s.heap S_18 H locs) → (i4_61.toInt = i4_61_z) → (i5_62.toInt = i5_62_z) → (0 ≤ i5_62_z ∧ i5_62_z ≤ 40) → ((i4_61) = pyF Ls (zA S_18 x 1263) (zA S_18 x 1265) (zA S_18 x 1264) a1_z a2_z a3_z (pyS (siZ S_18 x) (mA S_18 x 1248) a1_z a2_z Ls) (i5_62_z).toNat) → (i5_62_z ≤ (pI S 1262 x).toInt) → (lv_has ls 6 [(4, .int (i4_61)), (5, .int (i5_62)), (0, .ref x), (1, .int (a1)), (2, .int (a2)), (3, .int (a3))]) → W p l e ({ frames := 8, cells := 0, slots := 0, locals := 384 }) s m [.ref x, .int (a1), .int (a2), .int (a3)].toArray below meth c H locs 0 0 QQ (F0 m 100 ls []) := by
              intro n
              induction n using Nat.strongRecOn with
              | ind n ih_L_60 =>
              intro H locs ls i4_61 i4_61_z i5_62 i5_62_z hn hw hz_i4_61 hz_i5_62 hr_i5_62 iv_63 iv_64 hl
              have rg_65 : (-2147483648) ≤ i4_61_z ∧ i4_61_z ≤ 2147483647 := by rw [← hz_i4_61]; exact ⟨z_lo _, z_hi _⟩
              have rg_66 : (-2147483648) ≤ i5_62_z ∧ i5_62_z ≤ 2147483647 := by rw [← hz_i5_62]; exact ⟨z_lo _, z_hi _⟩
              refine lv_iload X.1 X.2.1 dX12_pay_100 (lv_at hl 1 rfl) ?_
              refine lv_aload_n X.1 X.2.1 dX12_pay_102 rfl (lv_at hl 2 rfl) ?_
              refine r_getI (g := 1262) (x := v_9) X hw t_31 rfl 62 t_25 (by decide) rfl inn_X12_pay_12 (by decide) (X.2.2.2.1 (.fieldLink RX12 403 "SilkMillModel" "faults" "I") (by decide +kernel)) rfl (gv_1262 _ _) dX12_pay_103 ?_
              refine lv_icmp_ge (tgt := 174) X.1 X.2.1 dX12_pay_106 (by decide) (fun c_67 => ?_) (fun c_67 => ?_)
              · have z_b_68 := trivial
                have k_69 : i5_62_z ≥ v_9.toInt := z_le rfl hz_i5_62 c_67
                refine lv_iload X.1 X.2.1 dX12_pay_174 (lv_at hl 0 rfl) ?_
                rw [hQQ]
                exact ret_i X hw hr hlocks (Nat.le_of_ble_eq_true rfl) (Nat.le_of_ble_eq_true rfl) ⟨hO_19, ⟨z_lo _, z_hi _, fun _ => (by rw [iv_63, show (i5_62_z).toNat = (pI S 1262 x).toInt.toNat by omega, siZ_to (fnZ_fr hG ha_x hO_19.fr (by decide +kernel)), zA_sI eS_18, zA_sI eS_18, zA_sI eS_18, mA_sI eS_18]), fun h => absurd (by omega) h⟩⟩ dX12_pay_176
              · have z_b_70 := trivial
                have k_71 : i5_62_z < v_9.toInt := z_nle rfl hz_i5_62 c_67
                refine lv_iload X.1 X.2.1 dX12_pay_109 (lv_at hl 0 rfl) ?_
                refine lv_aload_n X.1 X.2.1 dX12_pay_111 rfl (lv_at hl 2 rfl) ?_
                obtain ⟨q_72, h_73, h_74, h_75⟩ := gQ_12_1240 hO_19.1 t_31
                refine r_getR (g := 1240) X hw t_31 rfl 40 h_73 (by decide) rfl inn_X12_pay_12 (by decide) (X.2.2.2.1 (.fieldLink RX12 103 "SilkMillModel" "skeinPot" "[I") (by decide +kernel)) rfl (gv_1240 _ _) dX12_pay_112 ?_
                refine lv_aload_n X.1 X.2.1 dX12_pay_115 rfl (lv_at hl 2 rfl) ?_
                obtain ⟨q_76, h_77, h_78, h_79⟩ := gQ_12_1263 hO_19.1 t_31
                refine r_getR (g := 1263) X hw t_31 rfl 63 h_77 (by decide) rfl inn_X12_pay_12 (by decide) (X.2.2.2.1 (.fieldLink RX12 152 "SilkMillModel" "faultOf" "[I") (by decide +kernel)) rfl (gv_1263 _ _) dX12_pay_116 ?_
                refine lv_iload X.1 X.2.1 dX12_pay_119 (lv_at hl 1 rfl) ?_
                refine r_iald X hw h_78 rfl (by rw [h_79]; exact z_ix hz_i5_62 (by omega) (by omega)) dX12_pay_121 ?_
                refine lv_topi (fun v_80 ev_80 => ?_)
                have z_81 := gE_1474 hO_19.1 h_78 (Int32.toNatClampNeg (i5_62)); rw [← ev_80] at z_81
                have ev_80 := ev_80.symm
                have zf_82 : zA S_18 x 1263 (i5_62_z).toNat = v_80.toInt := (zA_of h_77 hz_i5_62 (by omega) ev_80)
                have fq_83 := hp_2 (i5_62_z).toNat (by omega)
                have zz_84 := congrFun (zA_sI (x := x) (g := 1263) eS_18) (i5_62_z).toNat
                obtain ⟨s_85, hs_86⟩ : ∃ s, Ls[(v_80.toInt).toNat]? = some s := ⟨_, List.getElem?_eq_getElem (by omega)⟩
                have sr_87 := sw_29.2 _ _ hs_86
                have sq_88 := sr_87.1.1.1
                have sq_89 := sr_87.1.2.1
                refine r_iald X hw h_74 rfl (by rw [h_75]; exact z_ix rfl (by omega) (by omega)) dX12_pay_122 ?_
                refine lv_topi (fun v_90 ev_90 => ?_)
                have rg_91 := And.intro (z_lo v_90) (z_hi v_90)
                have ev_90 := ev_90.symm
                have zf_92 : zA S_18 x 1240 (v_80.toInt).toNat = v_90.toInt := (zA_of h_73 rfl (by omega) ev_90)
                refine lv_iload_n X.1 X.2.1 dX12_pay_123 rfl (lv_at hl 3 rfl) ?_
                refine lv_icmp_ne (tgt := 164) X.1 X.2.1 dX12_pay_124 (by decide) (fun c_93 => ?_) (fun c_93 => ?_)
                · have z_b_94 := trivial
                  have k_95 : v_90.toInt ≠ a1_z := z_ne rfl hz_a1 c_93
                  refine lv_iconst (v := 0) X.1 X.2.1 dX12_pay_164 (by decide) ?_
                  refine lv_isub X.1 X.2.1 dX12_pay_165 ?_
                  refine lv_topi (fun v_96 ev_96 => ?_)
                  have z_97 : v_96.toInt = i4_61_z - 0 := z_sub ev_96 hz_i4_61 ti_0 (by omega) (by omega)
                  refine lv_istore (lv' := [(4, .int (v_96)), (5, .int (i5_62)), (0, .ref x), (1, .int (a1)), (2, .int (a2)), (3, .int (a3))]) X.1 X.2.1 dX12_pay_166 hl (by decide) rfl (fun ls hl => ?_)
                  obtain ⟨x_98, ex_98⟩ : ∃ y : Int32, y = i5_62 + 1 := ⟨_, rfl⟩
                  have z_99 : x_98.toInt = i5_62_z + 1 := z_add ex_98 hz_i5_62 ti_1 (by omega) (by omega)
                  refine lv_iinc (v := x_98) (lv' := [(5, .int (x_98)), (4, .int (v_96)), (0, .ref x), (1, .int (a1)), (2, .int (a2)), (3, .int (a3))]) X.1 X.2.1 dX12_pay_168 hl (k := 1) rfl (by rw [ex_98]; rfl) (by decide) rfl (fun ls hl => ?_)
                  refine lv_goto (tgt := 100) X.1 X.2.1 dX12_pay_171 (by decide) ?_
                  exact ih_L_60 _ (by omega) _ _ _ (v_96) ((i4_61_z - 0)) (x_98) (x_98.toInt) rfl hw z_97 rfl (by omega) (by rw [show (x_98.toInt).toNat = (i5_62_z).toNat + 1 by omega, pyF_n (fun z => pyC_no (by rw [zf_82]; exact hs_86) (by omega) z.1), ← iv_63, ev_96]; exact sub_z0) (by omega) (lv_sub hl [1, 0, 2, 3, 4, 5] rfl)
                · have z_b_100 := trivial
                  have k_101 : v_90.toInt = a1_z := z_eq rfl hz_a1 c_93
                  refine lv_aload_n X.1 X.2.1 dX12_pay_127 rfl (lv_at hl 2 rfl) ?_
                  obtain ⟨q_102, h_103, h_104, h_105⟩ := gQ_12_1241 hO_19.1 t_31
                  refine r_getR (g := 1241) X hw t_31 rfl 41 h_103 (by decide) rfl inn_X12_pay_12 (by decide) (X.2.2.2.1 (.fieldLink RX12 106 "SilkMillModel" "skeinDay" "[I") (by decide +kernel)) rfl (gv_1241 _ _) dX12_pay_128 ?_
                  refine lv_aload_n X.1 X.2.1 dX12_pay_131 rfl (lv_at hl 2 rfl) ?_
                  refine r_getR (g := 1263) X hw t_31 rfl 63 h_77 (by decide) rfl inn_X12_pay_12 (by decide) (X.2.2.2.1 (.fieldLink RX12 152 "SilkMillModel" "faultOf" "[I") (by decide +kernel)) rfl (gv_1263 _ _) dX12_pay_132 ?_
                  refine lv_iload X.1 X.2.1 dX12_pay_135 (lv_at hl 1 rfl) ?_
                  refine r_iald X hw h_78 rfl (by rw [h_79]; exact z_ix hz_i5_62 (by omega) (by omega)) dX12_pay_137 ?_
                  rw [ev_80]
                  refine r_iald X hw h_104 rfl (by rw [h_105]; exact z_ix rfl (by omega) (by omega)) dX12_pay_138 ?_
                  refine lv_topi (fun v_106 ev_106 => ?_)
                  have rg_107 := And.intro (z_lo v_106) (z_hi v_106)
                  have ev_106 := ev_106.symm
                  have zf_108 : zA S_18 x 1241 (v_80.toInt).toNat = v_106.toInt := (zA_of h_103 rfl (by omega) ev_106)
                  refine lv_iload_n X.1 X.2.1 dX12_pay_139 rfl (lv_at hl 4 rfl) ?_
                  refine lv_icmp_ne (tgt := 164) X.1 X.2.1 dX12_pay_140 (by decide) (fun c_109 => ?_) (fun c_109 => ?_)
                  · have z_b_110 := trivial
                    have k_111 : v_106.toInt ≠ a2_z := z_ne rfl hz_a2 c_109
                    refine lv_iconst (v := 0) X.1 X.2.1 dX12_pay_164 (by decide) ?_
                    refine lv_isub X.1 X.2.1 dX12_pay_165 ?_
                    refine lv_topi (fun v_112 ev_112 => ?_)
                    have z_113 : v_112.toInt = i4_61_z - 0 := z_sub ev_112 hz_i4_61 ti_0 (by omega) (by omega)
                    refine lv_istore (lv' := [(4, .int (v_112)), (5, .int (i5_62)), (0, .ref x), (1, .int (a1)), (2, .int (a2)), (3, .int (a3))]) X.1 X.2.1 dX12_pay_166 hl (by decide) rfl (fun ls hl => ?_)
                    obtain ⟨x_114, ex_114⟩ : ∃ y : Int32, y = i5_62 + 1 := ⟨_, rfl⟩
                    have z_115 : x_114.toInt = i5_62_z + 1 := z_add ex_114 hz_i5_62 ti_1 (by omega) (by omega)
                    refine lv_iinc (v := x_114) (lv' := [(5, .int (x_114)), (4, .int (v_112)), (0, .ref x), (1, .int (a1)), (2, .int (a2)), (3, .int (a3))]) X.1 X.2.1 dX12_pay_168 hl (k := 1) rfl (by rw [ex_114]; rfl) (by decide) rfl (fun ls hl => ?_)
                    refine lv_goto (tgt := 100) X.1 X.2.1 dX12_pay_171 (by decide) ?_
                    exact ih_L_60 _ (by omega) _ _ _ (v_112) ((i4_61_z - 0)) (x_114) (x_114.toInt) rfl hw z_113 rfl (by omega) (by rw [show (x_114.toInt).toNat = (i5_62_z).toNat + 1 by omega, pyF_n (fun z => pyC_no (by rw [zf_82]; exact hs_86) (by omega) z.1), ← iv_63, ev_112]; exact sub_z0) (by omega) (lv_sub hl [1, 0, 2, 3, 4, 5] rfl)
                  · have z_b_116 := trivial
                    have k_117 : v_106.toInt = a2_z := z_eq rfl hz_a2 c_109
                    refine lv_aload_n X.1 X.2.1 dX12_pay_143 rfl (lv_at hl 2 rfl) ?_
                    obtain ⟨q_118, h_119, h_120, h_121⟩ := gQ_12_1265 hO_19.1 t_31
                    refine r_getR (g := 1265) X hw t_31 rfl 65 h_119 (by decide) rfl inn_X12_pay_12 (by decide) (X.2.2.2.1 (.fieldLink RX12 158 "SilkMillModel" "faultDay" "[I") (by decide +kernel)) rfl (gv_1265 _ _) dX12_pay_144 ?_
                    refine lv_iload X.1 X.2.1 dX12_pay_147 (lv_at hl 1 rfl) ?_
                    refine r_iald X hw h_120 rfl (by rw [h_121]; exact z_ix hz_i5_62 (by omega) (by omega)) dX12_pay_149 ?_
                    refine lv_topi (fun v_122 ev_122 => ?_)
                    have rg_123 := And.intro (z_lo v_122) (z_hi v_122)
                    have ev_122 := ev_122.symm
                    have zf_124 : zA S_18 x 1265 (i5_62_z).toNat = v_122.toInt := (zA_of h_119 hz_i5_62 (by omega) ev_122)
                    refine lv_iload_n X.1 X.2.1 dX12_pay_150 rfl (lv_at hl 5 rfl) ?_
                    refine lv_icmp_gt (tgt := 164) X.1 X.2.1 dX12_pay_151 (by decide) (fun c_125 => ?_) (fun c_125 => ?_)
                    · have z_b_126 := trivial
                      have k_127 : v_122.toInt > a3_z := z_lt hz_a3 rfl c_125
                      refine lv_iconst (v := 0) X.1 X.2.1 dX12_pay_164 (by decide) ?_
                      refine lv_isub X.1 X.2.1 dX12_pay_165 ?_
                      refine lv_topi (fun v_128 ev_128 => ?_)
                      have z_129 : v_128.toInt = i4_61_z - 0 := z_sub ev_128 hz_i4_61 ti_0 (by omega) (by omega)
                      refine lv_istore (lv' := [(4, .int (v_128)), (5, .int (i5_62)), (0, .ref x), (1, .int (a1)), (2, .int (a2)), (3, .int (a3))]) X.1 X.2.1 dX12_pay_166 hl (by decide) rfl (fun ls hl => ?_)
                      obtain ⟨x_130, ex_130⟩ : ∃ y : Int32, y = i5_62 + 1 := ⟨_, rfl⟩
                      have z_131 : x_130.toInt = i5_62_z + 1 := z_add ex_130 hz_i5_62 ti_1 (by omega) (by omega)
                      refine lv_iinc (v := x_130) (lv' := [(5, .int (x_130)), (4, .int (v_128)), (0, .ref x), (1, .int (a1)), (2, .int (a2)), (3, .int (a3))]) X.1 X.2.1 dX12_pay_168 hl (k := 1) rfl (by rw [ex_130]; rfl) (by decide) rfl (fun ls hl => ?_)
                      refine lv_goto (tgt := 100) X.1 X.2.1 dX12_pay_171 (by decide) ?_
                      exact ih_L_60 _ (by omega) _ _ _ (v_128) ((i4_61_z - 0)) (x_130) (x_130.toInt) rfl hw z_129 rfl (by omega) (by rw [show (x_130.toInt).toNat = (i5_62_z).toNat + 1 by omega, pyF_n (fun z => by have h := z.2; omega), ← iv_63, ev_128]; exact sub_z0) (by omega) (lv_sub hl [1, 0, 2, 3, 4, 5] rfl)
                    · have z_b_132 := trivial
                      have k_133 : v_122.toInt ≤ a3_z := z_nlt hz_a3 rfl c_125
                      refine lv_aload_n X.1 X.2.1 dX12_pay_154 rfl (lv_at hl 2 rfl) ?_
                      obtain ⟨q_134, h_135, h_136, h_137⟩ := gQ_12_1264 hO_19.1 t_31
                      refine r_getR (g := 1264) X hw t_31 rfl 64 h_135 (by decide) rfl inn_X12_pay_12 (by decide) (X.2.2.2.1 (.fieldLink RX12 155 "SilkMillModel" "faultAmount" "[I") (by decide +kernel)) rfl (gv_1264 _ _) dX12_pay_155 ?_
                      refine lv_iload X.1 X.2.1 dX12_pay_158 (lv_at hl 1 rfl) ?_
                      refine r_iald X hw h_136 rfl (by rw [h_137]; exact z_ix hz_i5_62 (by omega) (by omega)) dX12_pay_160 ?_
                      refine lv_topi (fun v_138 ev_138 => ?_)
                      have rg_139 := And.intro (z_lo v_138) (z_hi v_138)
                      have ev_138 := ev_138.symm
                      have zf_140 : zA S_18 x 1264 (i5_62_z).toNat = v_138.toInt := (zA_of h_135 hz_i5_62 (by omega) ev_138)
                      refine lv_goto (tgt := 165) X.1 X.2.1 dX12_pay_161 (by decide) ?_
                      refine lv_isub X.1 X.2.1 dX12_pay_165 ?_
                      refine lv_topi (fun v_141 ev_141 => ?_)
                      have rg_142 := And.intro (z_lo v_141) (z_hi v_141)
                      refine lv_istore (lv' := [(4, .int (v_141)), (5, .int (i5_62)), (0, .ref x), (1, .int (a1)), (2, .int (a2)), (3, .int (a3))]) X.1 X.2.1 dX12_pay_166 hl (by decide) rfl (fun ls hl => ?_)
                      obtain ⟨x_143, ex_143⟩ : ∃ y : Int32, y = i5_62 + 1 := ⟨_, rfl⟩
                      have z_144 : x_143.toInt = i5_62_z + 1 := z_add ex_143 hz_i5_62 ti_1 (by omega) (by omega)
                      refine lv_iinc (v := x_143) (lv' := [(5, .int (x_143)), (4, .int (v_141)), (0, .ref x), (1, .int (a1)), (2, .int (a2)), (3, .int (a3))]) X.1 X.2.1 dX12_pay_168 hl (k := 1) rfl (by rw [ex_143]; rfl) (by decide) rfl (fun ls hl => ?_)
                      refine lv_goto (tgt := 100) X.1 X.2.1 dX12_pay_171 (by decide) ?_
                      exact ih_L_60 _ (by omega) _ _ _ (v_141) (v_141.toInt) (x_143) (x_143.toInt) rfl hw rfl rfl (by omega) (by rw [show (x_143.toInt).toNat = (i5_62_z).toNat + 1 by omega, pyF_y ⟨s_85, by omega, (by rw [zf_82]; exact hs_86), by omega, by omega⟩ (by omega), ← iv_63, zf_140, ev_141, show Int32.ofInt (v_138.toInt) = v_138 from (oi_of rfl).symm]) (by omega) (lv_sub hl [1, 0, 2, 3, 4, 5] rfl)
            exact L_60 _ _ _ _ (i4_51) (i4_51_z) (0) (0) rfl hw hz_i4_51 ti_0 (by omega) (by show _ = pyS (siZ S_18 x) (mA S_18 x 1248) a1_z a2_z Ls; rw [iv_53, show (i5_52_z).toNat = Ls.length by omega, List.take_length]) (by omega) (lv_sub hl [1, 0, 2, 3, 4, 5] rfl)
          · have z_b_145 := trivial
            have k_146 : i5_52_z < v_5.toInt := z_nle rfl hz_i5_52 c_57
            obtain ⟨s_147, hs_148⟩ : ∃ s, Ls[(i5_52_z).toNat]? = some s := ⟨_, List.getElem?_eq_getElem (by omega)⟩
            have sr_149 := sw_29.2 _ _ hs_148
            have sq_150 := sr_149.1.1.1
            have sq_151 := sr_149.1.2.1
            refine lv_iload X.1 X.2.1 dX12_pay_54 (lv_at hl 0 rfl) ?_
            refine lv_aload_n X.1 X.2.1 dX12_pay_56 rfl (lv_at hl 2 rfl) ?_
            obtain ⟨q_152, h_153, h_154, h_155⟩ := gQ_12_1240 hO_19.1 t_31
            refine r_getR (g := 1240) X hw t_31 rfl 40 h_153 (by decide) rfl inn_X12_pay_12 (by decide) (X.2.2.2.1 (.fieldLink RX12 103 "SilkMillModel" "skeinPot" "[I") (by decide +kernel)) rfl (gv_1240 _ _) dX12_pay_57 ?_
            refine lv_iload X.1 X.2.1 dX12_pay_60 (lv_at hl 1 rfl) ?_
            refine r_iald X hw h_154 rfl (by rw [h_155]; exact z_ix hz_i5_52 (by omega) (by omega)) dX12_pay_62 ?_
            refine lv_topi (fun v_156 ev_156 => ?_)
            have rg_157 := And.intro (z_lo v_156) (z_hi v_156)
            have ev_156 := ev_156.symm
            have zf_158 : zA S_18 x 1240 (i5_52_z).toNat = v_156.toInt := (zA_of h_153 hz_i5_52 (by omega) ev_156)
            refine lv_iload_n X.1 X.2.1 dX12_pay_63 rfl (lv_at hl 3 rfl) ?_
            refine lv_icmp_ne (tgt := 87) X.1 X.2.1 dX12_pay_64 (by decide) (fun c_159 => ?_) (fun c_159 => ?_)
            · have z_b_160 := trivial
              have k_161 : v_156.toInt ≠ a1_z := z_ne rfl hz_a1 c_159
              refine lv_iconst (v := 0) X.1 X.2.1 dX12_pay_87 (by decide) ?_
              refine lv_iadd X.1 X.2.1 dX12_pay_88 ?_
              refine lv_topi (fun v_162 ev_162 => ?_)
              have z_163 : v_162.toInt = i4_51_z + 0 := z_add ev_162 hz_i4_51 ti_0 (by omega) (by omega)
              refine lv_istore (lv' := [(4, .int (v_162)), (5, .int (i5_52)), (0, .ref x), (1, .int (a1)), (2, .int (a2)), (3, .int (a3))]) X.1 X.2.1 dX12_pay_89 hl (by decide) rfl (fun ls hl => ?_)
              obtain ⟨x_164, ex_164⟩ : ∃ y : Int32, y = i5_52 + 1 := ⟨_, rfl⟩
              have z_165 : x_164.toInt = i5_52_z + 1 := z_add ex_164 hz_i5_52 ti_1 (by omega) (by omega)
              refine lv_iinc (v := x_164) (lv' := [(5, .int (x_164)), (4, .int (v_162)), (0, .ref x), (1, .int (a1)), (2, .int (a2)), (3, .int (a3))]) X.1 X.2.1 dX12_pay_91 hl (k := 1) rfl (by rw [ex_164]; rfl) (by decide) rfl (fun ls hl => ?_)
              refine lv_goto (tgt := 45) X.1 X.2.1 dX12_pay_94 (by decide) ?_
              exact ih_L_50 _ (by omega) _ _ _ (v_162) ((i4_51_z + 0)) (x_164) (x_164.toInt) rfl hw z_163 rfl (by omega) (by rw [show (x_164.toInt).toNat = (i5_52_z).toNat + 1 by omega, pyS_n hs_148 (by omega), ← iv_53, ev_162]; exact add_z0) (by omega) (lv_sub hl [1, 0, 2, 3, 4, 5] rfl)
            · have z_b_166 := trivial
              have k_167 : v_156.toInt = a1_z := z_eq rfl hz_a1 c_159
              refine lv_aload_n X.1 X.2.1 dX12_pay_67 rfl (lv_at hl 2 rfl) ?_
              obtain ⟨q_168, h_169, h_170, h_171⟩ := gQ_12_1241 hO_19.1 t_31
              refine r_getR (g := 1241) X hw t_31 rfl 41 h_169 (by decide) rfl inn_X12_pay_12 (by decide) (X.2.2.2.1 (.fieldLink RX12 106 "SilkMillModel" "skeinDay" "[I") (by decide +kernel)) rfl (gv_1241 _ _) dX12_pay_68 ?_
              refine lv_iload X.1 X.2.1 dX12_pay_71 (lv_at hl 1 rfl) ?_
              refine r_iald X hw h_170 rfl (by rw [h_171]; exact z_ix hz_i5_52 (by omega) (by omega)) dX12_pay_73 ?_
              refine lv_topi (fun v_172 ev_172 => ?_)
              have rg_173 := And.intro (z_lo v_172) (z_hi v_172)
              have ev_172 := ev_172.symm
              have zf_174 : zA S_18 x 1241 (i5_52_z).toNat = v_172.toInt := (zA_of h_169 hz_i5_52 (by omega) ev_172)
              refine lv_iload_n X.1 X.2.1 dX12_pay_74 rfl (lv_at hl 4 rfl) ?_
              refine lv_icmp_ne (tgt := 87) X.1 X.2.1 dX12_pay_75 (by decide) (fun c_175 => ?_) (fun c_175 => ?_)
              · have z_b_176 := trivial
                have k_177 : v_172.toInt ≠ a2_z := z_ne rfl hz_a2 c_175
                refine lv_iconst (v := 0) X.1 X.2.1 dX12_pay_87 (by decide) ?_
                refine lv_iadd X.1 X.2.1 dX12_pay_88 ?_
                refine lv_topi (fun v_178 ev_178 => ?_)
                have z_179 : v_178.toInt = i4_51_z + 0 := z_add ev_178 hz_i4_51 ti_0 (by omega) (by omega)
                refine lv_istore (lv' := [(4, .int (v_178)), (5, .int (i5_52)), (0, .ref x), (1, .int (a1)), (2, .int (a2)), (3, .int (a3))]) X.1 X.2.1 dX12_pay_89 hl (by decide) rfl (fun ls hl => ?_)
                obtain ⟨x_180, ex_180⟩ : ∃ y : Int32, y = i5_52 + 1 := ⟨_, rfl⟩
                have z_181 : x_180.toInt = i5_52_z + 1 := z_add ex_180 hz_i5_52 ti_1 (by omega) (by omega)
                refine lv_iinc (v := x_180) (lv' := [(5, .int (x_180)), (4, .int (v_178)), (0, .ref x), (1, .int (a1)), (2, .int (a2)), (3, .int (a3))]) X.1 X.2.1 dX12_pay_91 hl (k := 1) rfl (by rw [ex_180]; rfl) (by decide) rfl (fun ls hl => ?_)
                refine lv_goto (tgt := 45) X.1 X.2.1 dX12_pay_94 (by decide) ?_
                exact ih_L_50 _ (by omega) _ _ _ (v_178) ((i4_51_z + 0)) (x_180) (x_180.toInt) rfl hw z_179 rfl (by omega) (by rw [show (x_180.toInt).toNat = (i5_52_z).toNat + 1 by omega, pyS_n hs_148 (by omega), ← iv_53, ev_178]; exact add_z0) (by omega) (lv_sub hl [1, 0, 2, 3, 4, 5] rfl)
              · have z_b_182 := trivial
                have k_183 : v_172.toInt = a2_z := z_eq rfl hz_a2 c_175
                refine lv_aload_n X.1 X.2.1 dX12_pay_78 rfl (lv_at hl 2 rfl) ?_
                refine lv_iload X.1 X.2.1 dX12_pay_79 (lv_at hl 1 rfl) ?_
                refine k_i (rm := { frames := 7, cells := 0, slots := 0, locals := 336 }) (av := [.ref x, .int (i5_52)]) X hw (va_runV (As := [.int (i5_52)]) (rest := [.int (i4_51)]) (cfix X) (k_X12_priceOf8 l G cy κ S_18 _ x (i5_52) (i5_52_z) s_147 hO_19.1 t_31 hz_i5_52 (by first | assumption | omega) (by first | assumption | omega) (by first | assumption | omega) (MIe_free hG ha_x hO_19.fr (by decide +kernel) hp_0) sr_149) (cwV 1 X.2.2.2.1 gX12_pay_X12_priceOf rfl rfl rfl (by decide +kernel) ⟨Nat.le_of_ble_eq_true rfl, Nat.le_of_ble_eq_true rfl⟩) (pre_V X hw _ t_31 rfl (by decide) rfl) rfl rfl hl.1 rfl (lv_room (Nat.le_of_ble_eq_true rfl)) dX12_pay_81 ⟨Nat.le_of_ble_eq_true rfl, Nat.le_of_ble_eq_true rfl⟩) 0 0 (Nat.le_of_ble_eq_true rfl) (Nat.le_of_ble_eq_true rfl) (fun rr_184 S_185 H locs hp hw hfr hnw => ?_)
                obtain ⟨e2, hp⟩ := hp
                subst e2
                obtain ⟨po_186, po_187, po_188⟩ := hp
                refine lv_goto (tgt := 88) X.1 X.2.1 dX12_pay_84 (by decide) ?_
                refine lv_iadd X.1 X.2.1 dX12_pay_88 ?_
                refine lv_topi (fun v_189 ev_189 => ?_)
                have rg_190 := And.intro (z_lo v_189) (z_hi v_189)
                refine lv_istore (lv' := [(4, .int (v_189)), (5, .int (i5_52)), (0, .ref x), (1, .int (a1)), (2, .int (a2)), (3, .int (a3))]) X.1 X.2.1 dX12_pay_89 hl (by decide) rfl (fun ls hl => ?_)
                obtain ⟨x_191, ex_191⟩ : ∃ y : Int32, y = i5_52 + 1 := ⟨_, rfl⟩
                have z_192 : x_191.toInt = i5_52_z + 1 := z_add ex_191 hz_i5_52 ti_1 (by omega) (by omega)
                refine lv_iinc (v := x_191) (lv' := [(5, .int (x_191)), (4, .int (v_189)), (0, .ref x), (1, .int (a1)), (2, .int (a2)), (3, .int (a3))]) X.1 X.2.1 dX12_pay_91 hl (k := 1) rfl (by rw [ex_191]; rfl) (by decide) rfl (fun ls hl => ?_)
                refine lv_goto (tgt := 45) X.1 X.2.1 dX12_pay_94 (by decide) ?_
                exact ih_L_50 _ (by omega) _ _ _ (v_189) (v_189.toInt) (x_191) (x_191.toInt) rfl hw rfl rfl (by omega) (by rw [show (x_191.toInt).toNat = (i5_52_z).toNat + 1 by omega, pyS_y hs_148 ⟨by omega, by omega⟩, ← iv_53, ev_189]; exact congrArg (fun y => i4_51 + y) po_188) (by omega) (lv_sub hl [1, 0, 2, 3, 4, 5] rfl)
        exact L_50 _ _ _ _ (0) (0) (0) (0) rfl hw ti_0 ti_0 (by omega) rfl (by omega) (lv_sub hl [1, 0, 2, 3, 4, 5] rfl)
      · have z_b_193 := trivial
        refine lv_if_ne (tgt := 39) X.1 X.2.1 dX12_pay_34 (by decide) (fun c_194 => absurd c_194 (by decide)) (fun c_194 => ?_)
        refine lv_iconst (v := 0) X.1 X.2.1 dX12_pay_37 (by decide) ?_
        rw [hQQ]
        exact ret_i X hw hr hlocks (Nat.le_of_ble_eq_true rfl) (Nat.le_of_ble_eq_true rfl) ⟨hO_19, ⟨z_lo _, z_hi _, fun h => (by exfalso; omega), fun _ => by decide⟩⟩ dX12_pay_38
    · have z_b_195 := trivial
      refine lv_if_eq (tgt := 37) X.1 X.2.1 dX12_pay_22 (by decide) (fun c_196 => ?_) (fun c_196 => absurd c_196 (by decide))
      refine lv_iconst (v := 0) X.1 X.2.1 dX12_pay_37 (by decide) ?_
      rw [hQQ]
      exact ret_i X hw hr hlocks (Nat.le_of_ble_eq_true rfl) (Nat.le_of_ble_eq_true rfl) ⟨hO_19, ⟨z_lo _, z_hi _, fun h => (by exfalso; omega), fun _ => by decide⟩⟩ dX12_pay_38
  · have z_b_197 := trivial
    refine lv_if_eq (tgt := 37) X.1 X.2.1 dX12_pay_10 (by decide) (fun c_198 => ?_) (fun c_198 => absurd c_198 (by decide))
    refine lv_iconst (v := 0) X.1 X.2.1 dX12_pay_37 (by decide) ?_
    rw [hQQ]
    exact ret_i X hw hr hlocks (Nat.le_of_ble_eq_true rfl) (Nat.le_of_ble_eq_true rfl) ⟨hO_19, ⟨z_lo _, z_hi _, fun h => (by exfalso; omega), fun _ => by decide⟩⟩ dX12_pay_38
