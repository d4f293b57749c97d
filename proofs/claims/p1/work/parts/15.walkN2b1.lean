set_option maxHeartbeats 4000000 in
set_option maxRecDepth 100000 in
theorem c_X12_pot (l : Launch) (G : va_G) (cy : Nat → ClassId) (S : PS) (sz : Nat) (mo : Nat) (a1 : Int32) (a2 : Int32) (hF : FM S mo) : Ci l yX12_pot wsX12_pot ({ frames := 5, cells := 0, slots := 0, locals := 200 }) G cy S sz [.ref mo, .int (a1), .int (a2)] (fun (r : Int32) (S9 : PS) => r = potV a1 a2) := by
  refine ent_m (cc := cX12_pot) (maxL := 3) (ret := (some .int)) (by decide) rfl (Nat.le_of_ble_eq_true rfl) ?_
  intro p e s m below meth c ls X hr hlocks hin hw hl hsz
  subst hsz
  have X : Cx p c cX12_pot 3 s [.ref mo, .int (a1), .int (a2)].toArray wsX12_pot RX12 m G cy (AS S s.heap.size) := X
  have hl : lv_has ls 3 [(0, .ref mo), (1, .int (a1)), (2, .int (a2))] := hl
  obtain ⟨hat_mo, hci, ci_1229, hars, hz53, hz39⟩ := hF
  have ci_1211 := hci 1211 (by decide)
  obtain ⟨q1212, rf_q1212, hat_q1212, ln_q1212⟩ := hars (1212, 14, 4) (by decide +kernel)
  have rf_q1212 : pR S 1212 mo = some q1212 := rf_q1212
  have hat_q1212 : At S q1212 14 := hat_q1212
  have ln_q1212 : pN S q1212 = 4 := ln_q1212
  obtain ⟨q1213, rf_q1213, hat_q1213, ln_q1213⟩ := hars (1213, 14, 4) (by decide +kernel)
  have rf_q1213 : pR S 1213 mo = some q1213 := rf_q1213
  have hat_q1213 : At S q1213 14 := hat_q1213
  have ln_q1213 : pN S q1213 = 4 := ln_q1213
  refine lv_aload_n X.1 X.2.1 dX12_pot_0 rfl (lv_at hl 0 rfl) ?_
  refine lv_iconst (v := 0) X.1 X.2.1 dX12_pot_1 (by decide) ?_
  refine r_putI (v := 0) X hw hat_mo 0 1200 tyX12 (by decide) rfl inn_X12_pot_12 tyX12_ok nmX12 (by decide) (X.2.2.2.1 (.fieldLink RX12 161 "SilkMillModel" "thrown" "I") (by decide +kernel)) rfl (Or.inl rfl) rfl rfl (Nat.le_of_ble_eq_true rfl) (st_1200 _ _) dX12_pot_2 (fun H locs hw => ?_)
  generalize eS_1 : sI S 1200 mo 0 = S_1 at hw
  have hat_mo : At S_1 mo 12 := by rw [← eS_1]; exact At_sI hat_mo
  have hat_q1212 : At S_1 q1212 14 := by rw [← eS_1]; exact At_sI hat_q1212
  have hat_q1213 : At S_1 q1213 14 := by rw [← eS_1]; exact At_sI hat_q1213
  have rf_q1212 : pR S_1 1212 mo = some q1212 := by rw [← eS_1, pR_sI]; exact rf_q1212
  have rf_q1213 : pR S_1 1213 mo = some q1213 := by rw [← eS_1, pR_sI]; exact rf_q1213
  have ci_1211 : pI S_1 1211 mo = 0 := by rw [← eS_1]; exact (pI_sI_nf (by decide)).trans ci_1211
  have ln_q1212 : pN S_1 q1212 = 4 := by rw [← eS_1, pN_sI]; exact ln_q1212
  have ln_q1213 : pN S_1 q1213 = 4 := by rw [← eS_1, pN_sI]; exact ln_q1213
  have hc_2 : pI S_1 1200 mo = 0 := by rw [← eS_1]; exact pI_sI_same
  refine lv_aload_n X.1 X.2.1 dX12_pot_5 rfl (lv_at hl 0 rfl) ?_
  refine r_get (v := .int 0) X hw hat_mo 11 (by decide) rfl inn_X12_pot_12 (by decide) (X.2.2.2.1 (.fieldLink RX12 197 "SilkMillModel" "pots" "I") (by decide +kernel)) rfl ((gv_1211 _ _).trans (congrArg (fun z => some (Value.int z)) ci_1211)) dX12_pot_6 ?_
  refine lv_iconst (v := 4) X.1 X.2.1 dX12_pot_9 (by decide) ?_
  refine lv_icmp_eq (tgt := 35) X.1 X.2.1 dX12_pot_10 (by decide) (fun c_10 => absurd c_10 (by decide)) (fun c_10 => ?_)
  refine lv_iload_n X.1 X.2.1 dX12_pot_13 rfl (lv_at hl 1 rfl) ?_
  refine lv_bipush (v := 10) X.1 X.2.1 dX12_pot_14 (by decide) ?_
  refine lv_sipush (v := 2000) X.1 X.2.1 dX12_pot_16 (by decide) ?_
  refine k_i (rm := { frames := 1, cells := 0, slots := 0, locals := 40 }) (av := [.int (a1), .int 10, .int 2000]) X hw (va_runS (As := [.int (a1), .int 10, .int 2000]) (rest := []) (cfix X) (c_X12_within l G cy S_1 _ (a1) (10) (2000)) (cwS 3 X.2.2.2.1 gX12_pot_X12_within rfl rfl rfl (by decide +kernel) ⟨Nat.le_of_ble_eq_true rfl, Nat.le_of_ble_eq_true rfl⟩) (pre_S X hw _) rfl rfl hl.1 rfl (lv_room (Nat.le_of_ble_eq_true rfl)) dX12_pot_19 ⟨Nat.le_of_ble_eq_true rfl, Nat.le_of_ble_eq_true rfl⟩) 0 0 (Nat.le_of_ble_eq_true rfl) (Nat.le_of_ble_eq_true rfl) (fun rr_19 S2 H locs hp hw hfr hnw => ?_)
  obtain ⟨e2_19, hp⟩ := hp
  subst e2_19
  rcases hp with ⟨b_19, er_19⟩ | ⟨b_19, er_19⟩ <;> subst er_19
  · have z_19 := trivial
    refine lv_if_eq (tgt := 35) X.1 X.2.1 dX12_pot_22 (by decide) (fun c_22 => absurd c_22 (by decide)) (fun c_22 => ?_)
    refine lv_iload_n X.1 X.2.1 dX12_pot_25 rfl (lv_at hl 2 rfl) ?_
    refine lv_iconst (v := 1) X.1 X.2.1 dX12_pot_26 (by decide) ?_
    refine lv_bipush (v := 50) X.1 X.2.1 dX12_pot_27 (by decide) ?_
    refine k_i (rm := { frames := 1, cells := 0, slots := 0, locals := 40 }) (av := [.int (a2), .int 1, .int 50]) X hw (va_runS (As := [.int (a2), .int 1, .int 50]) (rest := []) (cfix X) (c_X12_within l G cy S_1 _ (a2) (1) (50)) (cwS 3 X.2.2.2.1 gX12_pot_X12_within rfl rfl rfl (by decide +kernel) ⟨Nat.le_of_ble_eq_true rfl, Nat.le_of_ble_eq_true rfl⟩) (pre_S X hw _) rfl rfl hl.1 rfl (lv_room (Nat.le_of_ble_eq_true rfl)) dX12_pot_29 ⟨Nat.le_of_ble_eq_true rfl, Nat.le_of_ble_eq_true rfl⟩) 0 0 (Nat.le_of_ble_eq_true rfl) (Nat.le_of_ble_eq_true rfl) (fun rr_29 S2 H locs hp hw hfr hnw => ?_)
    obtain ⟨e2_29, hp⟩ := hp
    subst e2_29
    rcases hp with ⟨b_29, er_29⟩ | ⟨b_29, er_29⟩ <;> subst er_29
    · have z_29 := trivial
      refine lv_if_ne (tgt := 37) X.1 X.2.1 dX12_pot_32 (by decide) (fun c_32 => ?_) (fun c_32 => absurd c_32 (by decide))
      refine lv_aload_n X.1 X.2.1 dX12_pot_37 rfl (lv_at hl 0 rfl) ?_
      refine r_getR (g := 1212) X hw hat_mo 12 rf_q1212 (by decide) rfl inn_X12_pot_12 (by decide) (X.2.2.2.1 (.fieldLink RX12 37 "SilkMillModel" "aim" "[I") (by decide +kernel)) rfl (gv_1212 _ _) dX12_pot_38 ?_
      refine lv_aload_n X.1 X.2.1 dX12_pot_41 rfl (lv_at hl 0 rfl) ?_
      refine r_get (v := .int 0) X hw hat_mo 11 (by decide) rfl inn_X12_pot_12 (by decide) (X.2.2.2.1 (.fieldLink RX12 197 "SilkMillModel" "pots" "I") (by decide +kernel)) rfl ((gv_1211 _ _).trans (congrArg (fun z => some (Value.int z)) ci_1211)) dX12_pot_42 ?_
      refine lv_iload_n X.1 X.2.1 dX12_pot_45 rfl (lv_at hl 1 rfl) ?_
      refine r_iast X hw hat_q1212 (by rw [ln_q1212]; exact vp_in_iff.mpr (by decide +kernel)) dX12_pot_46 (fun H locs hw => ?_)
      generalize eS_3 : sA S_1 q1212 (upd (pA S_1 q1212) (Int32.toNatClampNeg (0)) a1) = S_3 at hw
      have hat_mo : At S_3 mo 12 := by rw [← eS_3]; exact At_sA hat_mo
      have hat_q1212 : At S_3 q1212 14 := by rw [← eS_3]; exact At_sA hat_q1212
      have hat_q1213 : At S_3 q1213 14 := by rw [← eS_3]; exact At_sA hat_q1213
      have rf_q1212 : pR S_3 1212 mo = some q1212 := by rw [← eS_3, pR_sA]; exact rf_q1212
      have rf_q1213 : pR S_3 1213 mo = some q1213 := by rw [← eS_3, pR_sA]; exact rf_q1213
      have ci_1211 : pI S_3 1211 mo = 0 := by rw [← eS_3, pI_sA]; exact ci_1211
      have hc_2 : pI S_3 1200 mo = 0 := by rw [← eS_3, pI_sA]; exact hc_2
      have ln_q1212 : pN S_3 q1212 = 4 := by rw [← eS_3, pN_sA]; exact ln_q1212
      have ln_q1213 : pN S_3 q1213 = 4 := by rw [← eS_3, pN_sA]; exact ln_q1213
      refine lv_aload_n X.1 X.2.1 dX12_pot_47 rfl (lv_at hl 0 rfl) ?_
      refine r_getR (g := 1213) X hw hat_mo 13 rf_q1213 (by decide) rfl inn_X12_pot_12 (by decide) (X.2.2.2.1 (.fieldLink RX12 40 "SilkMillModel" "find" "[I") (by decide +kernel)) rfl (gv_1213 _ _) dX12_pot_48 ?_
      refine lv_aload_n X.1 X.2.1 dX12_pot_51 rfl (lv_at hl 0 rfl) ?_
      refine r_get (v := .int 0) X hw hat_mo 11 (by decide) rfl inn_X12_pot_12 (by decide) (X.2.2.2.1 (.fieldLink RX12 197 "SilkMillModel" "pots" "I") (by decide +kernel)) rfl ((gv_1211 _ _).trans (congrArg (fun z => some (Value.int z)) ci_1211)) dX12_pot_52 ?_
      refine lv_iload_n X.1 X.2.1 dX12_pot_55 rfl (lv_at hl 2 rfl) ?_
      refine r_iast X hw hat_q1213 (by rw [ln_q1213]; exact vp_in_iff.mpr (by decide +kernel)) dX12_pot_56 (fun H locs hw => ?_)
      generalize eS_4 : sA S_3 q1213 (upd (pA S_3 q1213) (Int32.toNatClampNeg (0)) a2) = S_4 at hw
      have hat_mo : At S_4 mo 12 := by rw [← eS_4]; exact At_sA hat_mo
      have hat_q1212 : At S_4 q1212 14 := by rw [← eS_4]; exact At_sA hat_q1212
      have hat_q1213 : At S_4 q1213 14 := by rw [← eS_4]; exact At_sA hat_q1213
      have rf_q1212 : pR S_4 1212 mo = some q1212 := by rw [← eS_4, pR_sA]; exact rf_q1212
      have rf_q1213 : pR S_4 1213 mo = some q1213 := by rw [← eS_4, pR_sA]; exact rf_q1213
      have ci_1211 : pI S_4 1211 mo = 0 := by rw [← eS_4, pI_sA]; exact ci_1211
      have hc_2 : pI S_4 1200 mo = 0 := by rw [← eS_4, pI_sA]; exact hc_2
      have ln_q1212 : pN S_4 q1212 = 4 := by rw [← eS_4, pN_sA]; exact ln_q1212
      have ln_q1213 : pN S_4 q1213 = 4 := by rw [← eS_4, pN_sA]; exact ln_q1213
      refine lv_aload_n X.1 X.2.1 dX12_pot_57 rfl (lv_at hl 0 rfl) ?_
      refine lv_dup X.1 X.2.1 dX12_pot_58 rfl ?_
      refine r_get (v := .int 0) X hw hat_mo 11 (by decide) rfl inn_X12_pot_12 (by decide) (X.2.2.2.1 (.fieldLink RX12 197 "SilkMillModel" "pots" "I") (by decide +kernel)) rfl ((gv_1211 _ _).trans (congrArg (fun z => some (Value.int z)) ci_1211)) dX12_pot_59 ?_
      refine lv_iconst (v := 1) X.1 X.2.1 dX12_pot_62 (by decide) ?_
      refine lv_iadd X.1 X.2.1 dX12_pot_63 ?_
      refine lv_topi (fun v_5 ev_5 => ?_)
      obtain rfl : v_5 = 1 := ev_5.trans (by decide +kernel)
      refine r_putI (v := 1) X hw hat_mo 11 1211 tyX12 (by decide) rfl inn_X12_pot_12 tyX12_ok nmX12 (by decide) (X.2.2.2.1 (.fieldLink RX12 197 "SilkMillModel" "pots" "I") (by decide +kernel)) rfl (Or.inl rfl) rfl rfl (Nat.le_of_ble_eq_true rfl) (st_1211 _ _) dX12_pot_64 (fun H locs hw => ?_)
      generalize eS_6 : sI S_4 1211 mo 1 = S_6 at hw
      have hat_mo : At S_6 mo 12 := by rw [← eS_6]; exact At_sI hat_mo
      have hat_q1212 : At S_6 q1212 14 := by rw [← eS_6]; exact At_sI hat_q1212
      have hat_q1213 : At S_6 q1213 14 := by rw [← eS_6]; exact At_sI hat_q1213
      have rf_q1212 : pR S_6 1212 mo = some q1212 := by rw [← eS_6, pR_sI]; exact rf_q1212
      have rf_q1213 : pR S_6 1213 mo = some q1213 := by rw [← eS_6, pR_sI]; exact rf_q1213
      have hc_2 : pI S_6 1200 mo = 0 := by rw [← eS_6]; exact (pI_sI_nf (by decide)).trans hc_2
      have ln_q1212 : pN S_6 q1212 = 4 := by rw [← eS_6, pN_sI]; exact ln_q1212
      have ln_q1213 : pN S_6 q1213 = 4 := by rw [← eS_6, pN_sI]; exact ln_q1213
      have hc_7 : pI S_6 1211 mo = 1 := by rw [← eS_6]; exact pI_sI_same
      refine lv_aload_n X.1 X.2.1 dX12_pot_67 rfl (lv_at hl 0 rfl) ?_
      refine r_get (v := .int 1) X hw hat_mo 11 (by decide) rfl inn_X12_pot_12 (by decide) (X.2.2.2.1 (.fieldLink RX12 197 "SilkMillModel" "pots" "I") (by decide +kernel)) rfl ((gv_1211 _ _).trans (congrArg (fun z => some (Value.int z)) hc_7)) dX12_pot_68 ?_
      refine lv_iconst (v := 1) X.1 X.2.1 dX12_pot_71 (by decide) ?_
      refine lv_isub X.1 X.2.1 dX12_pot_72 ?_
      refine lv_topi (fun v_8 ev_8 => ?_)
      obtain rfl : v_8 = 0 := ev_8.trans (by decide +kernel)
      exact ret_i X hw hr hlocks (Nat.le_of_ble_eq_true rfl) (Nat.le_of_ble_eq_true rfl) (if_pos ⟨b_19, b_29⟩).symm dX12_pot_73
    · have z_29 := trivial
      refine lv_if_ne (tgt := 37) X.1 X.2.1 dX12_pot_32 (by decide) (fun c_32 => absurd c_32 (by decide)) (fun c_32 => ?_)
      refine lv_iconst (v := (-1)) X.1 X.2.1 dX12_pot_35 (by decide) ?_
      exact ret_i X hw hr hlocks (Nat.le_of_ble_eq_true rfl) (Nat.le_of_ble_eq_true rfl) (if_neg (fun h => b_29 h.2)).symm dX12_pot_36
  · have z_19 := trivial
    refine lv_if_eq (tgt := 35) X.1 X.2.1 dX12_pot_22 (by decide) (fun c_22 => ?_) (fun c_22 => absurd c_22 (by decide))
    refine lv_iconst (v := (-1)) X.1 X.2.1 dX12_pot_35 (by decide) ?_
    exact ret_i X hw hr hlocks (Nat.le_of_ble_eq_true rfl) (Nat.le_of_ble_eq_true rfl) (if_neg (fun h => b_19 h.1)).symm dX12_pot_36
