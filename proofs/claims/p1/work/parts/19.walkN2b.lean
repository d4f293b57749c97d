set_option maxHeartbeats 4000000 in
set_option maxRecDepth 100000 in
theorem c_X12_take (l : Launch) (G : va_G) (cy : Nat → ClassId) (S : PS) (sz : Nat) (mo : Nat) (a1 : Int32) (a2 : Int32) (hF : FM S mo) : Ci l yX12_take wsX12_take ({ frames := 5, cells := 0, slots := 0, locals := 200 }) G cy S sz [.ref mo, .int (a1), .int (a2)] (fun (r : Int32) (S9 : PS) => r = takV a1 a2) := by
  refine ent_m (cc := cX12_take) (maxL := 5) (ret := (some .int)) (by decide) rfl (Nat.le_of_ble_eq_true rfl) ?_
  intro p e s m below meth c ls X hr hlocks hin hw hl hsz
  subst hsz
  have X : Cx p c cX12_take 5 s [.ref mo, .int (a1), .int (a2)].toArray wsX12_take RX12 m G cy (AS S s.heap.size) := X
  have hl : lv_has ls 5 [(0, .ref mo), (1, .int (a1)), (2, .int (a2))] := hl
  obtain ⟨hat_mo, hci, ci_1229, hars, hz53, hz39⟩ := hF
  obtain ⟨q1253, rf_q1253, hat_q1253, ln_q1253⟩ := hars (1253, 15, 16) (by decide +kernel)
  have rf_q1253 : pR S 1253 mo = some q1253 := rf_q1253
  have hat_q1253 : At S q1253 15 := hat_q1253
  have ln_q1253 : pN S q1253 = 16 := ln_q1253
  have hz := hz53 _ rf_q1253
  refine lv_aload_n X.1 X.2.1 dX12_take_0 rfl (lv_at hl 0 rfl) ?_
  refine lv_iconst (v := 0) X.1 X.2.1 dX12_take_1 (by decide) ?_
  refine r_putI (v := 0) X hw hat_mo 0 1200 tyX12 (by decide) rfl inn_X12_take_12 tyX12_ok nmX12 (by decide) (X.2.2.2.1 (.fieldLink RX12 161 "SilkMillModel" "thrown" "I") (by decide +kernel)) rfl (Or.inl rfl) rfl rfl (Nat.le_of_ble_eq_true rfl) (st_1200 _ _) dX12_take_2 (fun H locs hw => ?_)
  generalize eS_1 : sI S 1200 mo 0 = S_1 at hw
  have hat_mo : At S_1 mo 12 := by rw [← eS_1]; exact At_sI hat_mo
  have hat_q1253 : At S_1 q1253 15 := by rw [← eS_1]; exact At_sI hat_q1253
  have rf_q1253 : pR S_1 1253 mo = some q1253 := by rw [← eS_1, pR_sI]; exact rf_q1253
  have ln_q1253 : pN S_1 q1253 = 16 := by rw [← eS_1, pN_sI]; exact ln_q1253
  have hz : ∀ j, pA S_1 q1253 j = 0 := by rw [← eS_1, pA_sI]; exact hz
  have hc_2 : pI S_1 1200 mo = 0 := by rw [← eS_1]; exact pI_sI_same
  refine lv_iload_n X.1 X.2.1 dX12_take_5 rfl (lv_at hl 1 rfl) ?_
  refine lv_iconst (v := 0) X.1 X.2.1 dX12_take_6 (by decide) ?_
  refine lv_bipush (v := 15) X.1 X.2.1 dX12_take_7 (by decide) ?_
  refine k_i (rm := { frames := 1, cells := 0, slots := 0, locals := 40 }) (av := [.int (a1), .int 0, .int 15]) X hw (va_runS (As := [.int (a1), .int 0, .int 15]) (rest := []) (cfix X) (c_X12_within l G cy S_1 _ (a1) (0) (15)) (cwS 3 X.2.2.2.1 gX12_take_X12_within rfl rfl rfl (by decide +kernel) ⟨Nat.le_of_ble_eq_true rfl, Nat.le_of_ble_eq_true rfl⟩) (pre_S X hw _) rfl rfl hl.1 rfl (lv_room (Nat.le_of_ble_eq_true rfl)) dX12_take_9 ⟨Nat.le_of_ble_eq_true rfl, Nat.le_of_ble_eq_true rfl⟩) 0 0 (Nat.le_of_ble_eq_true rfl) (Nat.le_of_ble_eq_true rfl) (fun rr_9 S2 H locs hp hw hfr hnw => ?_)
  obtain ⟨e2_9, hp⟩ := hp
  subst e2_9
  rcases hp with ⟨b_9, er_9⟩ | ⟨b_9, er_9⟩ <;> subst er_9
  · have z_9 := trivial
    refine lv_if_eq (tgt := 24) X.1 X.2.1 dX12_take_12 (by decide) (fun c_12 => absurd c_12 (by decide)) (fun c_12 => ?_)
    refine lv_iload_n X.1 X.2.1 dX12_take_15 rfl (lv_at hl 2 rfl) ?_
    refine lv_iconst (v := 0) X.1 X.2.1 dX12_take_16 (by decide) ?_
    refine lv_iconst (v := 2) X.1 X.2.1 dX12_take_17 (by decide) ?_
    refine k_i (rm := { frames := 1, cells := 0, slots := 0, locals := 40 }) (av := [.int (a2), .int 0, .int 2]) X hw (va_runS (As := [.int (a2), .int 0, .int 2]) (rest := []) (cfix X) (c_X12_within l G cy S_1 _ (a2) (0) (2)) (cwS 3 X.2.2.2.1 gX12_take_X12_within rfl rfl rfl (by decide +kernel) ⟨Nat.le_of_ble_eq_true rfl, Nat.le_of_ble_eq_true rfl⟩) (pre_S X hw _) rfl rfl hl.1 rfl (lv_room (Nat.le_of_ble_eq_true rfl)) dX12_take_18 ⟨Nat.le_of_ble_eq_true rfl, Nat.le_of_ble_eq_true rfl⟩) 0 0 (Nat.le_of_ble_eq_true rfl) (Nat.le_of_ble_eq_true rfl) (fun rr_18 S2 H locs hp hw hfr hnw => ?_)
    obtain ⟨e2_18, hp⟩ := hp
    subst e2_18
    rcases hp with ⟨b_18, er_18⟩ | ⟨b_18, er_18⟩ <;> subst er_18
    · have z_18 := trivial
      refine lv_if_ne (tgt := 26) X.1 X.2.1 dX12_take_21 (by decide) (fun c_21 => ?_) (fun c_21 => absurd c_21 (by decide))
      refine lv_aload_n X.1 X.2.1 dX12_take_26 rfl (lv_at hl 0 rfl) ?_
      refine r_getR (g := 1253) X hw hat_mo 53 rf_q1253 (by decide) rfl inn_X12_take_12 (by decide) (X.2.2.2.1 (.fieldLink RX12 125 "SilkMillModel" "isLaid" "[Z") (by decide +kernel)) rfl (gv_1253 _ _) dX12_take_27 ?_
      refine lv_iload_n X.1 X.2.1 dX12_take_30 rfl (lv_at hl 1 rfl) ?_
      refine r_zald X hw hat_q1253 (by rw [ln_q1253]; exact wi_vp b_9 (by decide)) dX12_take_31 ?_
      refine lv_topi (fun v_3 ev_3 => ?_)
      obtain rfl : v_3 = 0 := ev_3.trans (hz _)
      refine lv_if_ne (tgt := 38) X.1 X.2.1 dX12_take_32 (by decide) (fun c_32 => absurd c_32 (by decide)) (fun c_32 => ?_)
      refine lv_bipush (v := (-2)) X.1 X.2.1 dX12_take_35 (by decide) ?_
      exact ret_i X hw hr hlocks (Nat.le_of_ble_eq_true rfl) (Nat.le_of_ble_eq_true rfl) (if_pos ⟨b_9, b_18⟩).symm dX12_take_37
    · have z_18 := trivial
      refine lv_if_ne (tgt := 26) X.1 X.2.1 dX12_take_21 (by decide) (fun c_21 => absurd c_21 (by decide)) (fun c_21 => ?_)
      refine lv_iconst (v := (-1)) X.1 X.2.1 dX12_take_24 (by decide) ?_
      exact ret_i X hw hr hlocks (Nat.le_of_ble_eq_true rfl) (Nat.le_of_ble_eq_true rfl) (if_neg (fun h => b_18 h.2)).symm dX12_take_25
  · have z_9 := trivial
    refine lv_if_eq (tgt := 24) X.1 X.2.1 dX12_take_12 (by decide) (fun c_12 => ?_) (fun c_12 => absurd c_12 (by decide))
    refine lv_iconst (v := (-1)) X.1 X.2.1 dX12_take_24 (by decide) ?_
    exact ret_i X hw hr hlocks (Nat.le_of_ble_eq_true rfl) (Nat.le_of_ble_eq_true rfl) (if_neg (fun h => b_9 h.1)).symm dX12_take_25
set_option maxHeartbeats 4000000 in
set_option maxRecDepth 100000 in
theorem c_X12_number_ (l : Launch) (G : va_G) (cy : Nat → ClassId) (S : PS) (sz : Nat) (mo : Nat) (a1 : Int32) (a2 : Int32) (hF : FM S mo) : Ci l yX12_number_ wsX12_number_ ({ frames := 5, cells := 0, slots := 0, locals := 200 }) G cy S sz [.ref mo, .int (a1), .int (a2)] (fun (r : Int32) (S9 : PS) => r = -1) := by
  refine ent_m (cc := cX12_number_) (maxL := 3) (ret := (some .int)) (by decide) rfl (Nat.le_of_ble_eq_true rfl) ?_
  intro p e s m below meth c ls X hr hlocks hin hw hl hsz
  subst hsz
  have X : Cx p c cX12_number_ 3 s [.ref mo, .int (a1), .int (a2)].toArray wsX12_number_ RX12 m G cy (AS S s.heap.size) := X
  have hl : lv_has ls 3 [(0, .ref mo), (1, .int (a1)), (2, .int (a2))] := hl
  obtain ⟨hat_mo, hci, ci_1229, hars, hz53, hz39⟩ := hF
  obtain ⟨q1253, rf_q1253, hat_q1253, ln_q1253⟩ := hars (1253, 15, 16) (by decide +kernel)
  have rf_q1253 : pR S 1253 mo = some q1253 := rf_q1253
  have hat_q1253 : At S q1253 15 := hat_q1253
  have ln_q1253 : pN S q1253 = 16 := ln_q1253
  have hz := hz53 _ rf_q1253
  refine lv_aload_n X.1 X.2.1 dX12_number__0 rfl (lv_at hl 0 rfl) ?_
  refine lv_iconst (v := 0) X.1 X.2.1 dX12_number__1 (by decide) ?_
  refine r_putI (v := 0) X hw hat_mo 0 1200 tyX12 (by decide) rfl inn_X12_number__12 tyX12_ok nmX12 (by decide) (X.2.2.2.1 (.fieldLink RX12 161 "SilkMillModel" "thrown" "I") (by decide +kernel)) rfl (Or.inl rfl) rfl rfl (Nat.le_of_ble_eq_true rfl) (st_1200 _ _) dX12_number__2 (fun H locs hw => ?_)
  generalize eS_1 : sI S 1200 mo 0 = S_1 at hw
  have hat_mo : At S_1 mo 12 := by rw [← eS_1]; exact At_sI hat_mo
  have hat_q1253 : At S_1 q1253 15 := by rw [← eS_1]; exact At_sI hat_q1253
  have rf_q1253 : pR S_1 1253 mo = some q1253 := by rw [← eS_1, pR_sI]; exact rf_q1253
  have ln_q1253 : pN S_1 q1253 = 16 := by rw [← eS_1, pN_sI]; exact ln_q1253
  have hz : ∀ j, pA S_1 q1253 j = 0 := by rw [← eS_1, pA_sI]; exact hz
  have hc_2 : pI S_1 1200 mo = 0 := by rw [← eS_1]; exact pI_sI_same
  refine lv_aload_n X.1 X.2.1 dX12_number__5 rfl (lv_at hl 0 rfl) ?_
  refine lv_iload_n X.1 X.2.1 dX12_number__6 rfl (lv_at hl 1 rfl) ?_
  refine k_i (rm := { frames := 3, cells := 0, slots := 0, locals := 120 }) (av := [.ref mo, .int (a1)]) X hw (va_runV (As := [.int (a1)]) (rest := []) (cfix X) (c_X12_isWord l G cy S_1 _ mo (a1) hat_mo q1253 rf_q1253 hat_q1253 ln_q1253 hz) (cwV 1 X.2.2.2.1 gX12_number__X12_isWord rfl rfl rfl (by decide +kernel) ⟨Nat.le_of_ble_eq_true rfl, Nat.le_of_ble_eq_true rfl⟩) (pre_V X hw _ hat_mo (by decide) rfl) rfl rfl hl.1 rfl (lv_room (Nat.le_of_ble_eq_true rfl)) dX12_number__7 ⟨Nat.le_of_ble_eq_true rfl, Nat.le_of_ble_eq_true rfl⟩) 0 0 (Nat.le_of_ble_eq_true rfl) (Nat.le_of_ble_eq_true rfl) (fun rr_7 S2 H locs hp hw hfr hnw => ?_)
  obtain ⟨e2_7, er_7⟩ := hp
  subst e2_7
  subst er_7
  refine lv_if_eq (tgt := 43) X.1 X.2.1 dX12_number__10 (by decide) (fun c_10 => ?_) (fun c_10 => absurd c_10 (by decide))
  refine lv_iconst (v := (-1)) X.1 X.2.1 dX12_number__43 (by decide) ?_
  exact ret_i X hw hr hlocks (Nat.le_of_ble_eq_true rfl) (Nat.le_of_ble_eq_true rfl) rfl dX12_number__44
set_option maxHeartbeats 4000000 in
set_option maxRecDepth 100000 in
theorem c_X12_copy (l : Launch) (G : va_G) (cy : Nat → ClassId) (S : PS) (sz : Nat) (mo : Nat) (a1 : Int32) (a2 : Int32) (a3 : Int32) (a4 : Int32) (a5 : Int32) (hF : FM S mo) : Ci l yX12_copy wsX12_copy ({ frames := 5, cells := 0, slots := 0, locals := 200 }) G cy S sz [.ref mo, .int (a1), .int (a2), .int (a3), .int (a4), .int (a5)] (fun (r : Int32) (S9 : PS) => r = 0) := by
  refine ent_m (cc := cX12_copy) (maxL := 8) (ret := (some .boolean)) (by decide) rfl (Nat.le_of_ble_eq_true rfl) ?_
  intro p e s m below meth c ls X hr hlocks hin hw hl hsz
  subst hsz
  have X : Cx p c cX12_copy 8 s [.ref mo, .int (a1), .int (a2), .int (a3), .int (a4), .int (a5)].toArray wsX12_copy RX12 m G cy (AS S s.heap.size) := X
  have hl : lv_has ls 8 [(0, .ref mo), (1, .int (a1)), (2, .int (a2)), (3, .int (a3)), (4, .int (a4)), (5, .int (a5))] := hl
  obtain ⟨hat_mo, hci, ci_1229, hars, hz53, hz39⟩ := hF
  obtain ⟨q1253, rf_q1253, hat_q1253, ln_q1253⟩ := hars (1253, 15, 16) (by decide +kernel)
  have rf_q1253 : pR S 1253 mo = some q1253 := rf_q1253
  have hat_q1253 : At S q1253 15 := hat_q1253
  have ln_q1253 : pN S q1253 = 16 := ln_q1253
  have hz := hz53 _ rf_q1253
  refine lv_aload_n X.1 X.2.1 dX12_copy_0 rfl (lv_at hl 0 rfl) ?_
  refine lv_iconst (v := 0) X.1 X.2.1 dX12_copy_1 (by decide) ?_
  refine r_putI (v := 0) X hw hat_mo 0 1200 tyX12 (by decide) rfl inn_X12_copy_12 tyX12_ok nmX12 (by decide) (X.2.2.2.1 (.fieldLink RX12 161 "SilkMillModel" "thrown" "I") (by decide +kernel)) rfl (Or.inl rfl) rfl rfl (Nat.le_of_ble_eq_true rfl) (st_1200 _ _) dX12_copy_2 (fun H locs hw => ?_)
  generalize eS_1 : sI S 1200 mo 0 = S_1 at hw
  have hat_mo : At S_1 mo 12 := by rw [← eS_1]; exact At_sI hat_mo
  have hat_q1253 : At S_1 q1253 15 := by rw [← eS_1]; exact At_sI hat_q1253
  have rf_q1253 : pR S_1 1253 mo = some q1253 := by rw [← eS_1, pR_sI]; exact rf_q1253
  have ln_q1253 : pN S_1 q1253 = 16 := by rw [← eS_1, pN_sI]; exact ln_q1253
  have hz : ∀ j, pA S_1 q1253 j = 0 := by rw [← eS_1, pA_sI]; exact hz
  have hc_2 : pI S_1 1200 mo = 0 := by rw [← eS_1]; exact pI_sI_same
  refine lv_aload_n X.1 X.2.1 dX12_copy_5 rfl (lv_at hl 0 rfl) ?_
  refine lv_iload_n X.1 X.2.1 dX12_copy_6 rfl (lv_at hl 1 rfl) ?_
  refine k_i (rm := { frames := 3, cells := 0, slots := 0, locals := 120 }) (av := [.ref mo, .int (a1)]) X hw (va_runV (As := [.int (a1)]) (rest := []) (cfix X) (c_X12_isWord l G cy S_1 _ mo (a1) hat_mo q1253 rf_q1253 hat_q1253 ln_q1253 hz) (cwV 1 X.2.2.2.1 gX12_copy_X12_isWord rfl rfl rfl (by decide +kernel) ⟨Nat.le_of_ble_eq_true rfl, Nat.le_of_ble_eq_true rfl⟩) (pre_V X hw _ hat_mo (by decide) rfl) rfl rfl hl.1 rfl (lv_room (Nat.le_of_ble_eq_true rfl)) dX12_copy_7 ⟨Nat.le_of_ble_eq_true rfl, Nat.le_of_ble_eq_true rfl⟩) 0 0 (Nat.le_of_ble_eq_true rfl) (Nat.le_of_ble_eq_true rfl) (fun rr_7 S2 H locs hp hw hfr hnw => ?_)
  obtain ⟨e2_7, er_7⟩ := hp
  subst e2_7
  subst er_7
  refine lv_if_eq (tgt := 35) X.1 X.2.1 dX12_copy_10 (by decide) (fun c_10 => ?_) (fun c_10 => absurd c_10 (by decide))
  refine lv_iconst (v := 0) X.1 X.2.1 dX12_copy_35 (by decide) ?_
  exact ret_z X hw hr hlocks (Nat.le_of_ble_eq_true rfl) (Nat.le_of_ble_eq_true rfl) (by decide) rfl dX12_copy_36
