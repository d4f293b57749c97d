set_option maxHeartbeats 4000000 in
set_option maxRecDepth 100000 in
theorem c_X12_lot (l : Launch) (G : va_G) (cy : Nat → ClassId) (S : PS) (sz : Nat) (mo : Nat) (a1 : Int32) (a2 : Int32) (a3 : Int32) (a4 : Int32) (a5 : Int32) (hF : FM S mo) : Ci l yX12_lot wsX12_lot ({ frames := 5, cells := 0, slots := 0, locals := 200 }) G cy S sz [.ref mo, .int (a1), .int (a2), .int (a3), .int (a4), .int (a5)] (fun (r : Int32) (S9 : PS) => r = lotV a1 a3 a4 a5) := by
  refine ent_m (cc := cX12_lot) (maxL := 6) (ret := (some .int)) (by decide) rfl (Nat.le_of_ble_eq_true rfl) ?_
  intro p e s m below meth c ls X hr hlocks hin hw hl hsz
  subst hsz
  have X : Cx p c cX12_lot 6 s [.ref mo, .int (a1), .int (a2), .int (a3), .int (a4), .int (a5)].toArray wsX12_lot RX12 m G cy (AS S s.heap.size) := X
  have hl : lv_has ls 6 [(0, .ref mo), (1, .int (a1)), (2, .int (a2)), (3, .int (a3)), (4, .int (a4)), (5, .int (a5))] := hl
  obtain ⟨hat_mo, hci, ci_1229, hars, hz53, hz39⟩ := hF
  have ci_1201 := hci 1201 (by decide)
  obtain ⟨q1202, rf_q1202, hat_q1202, ln_q1202⟩ := hars (1202, 14, 10) (by decide +kernel)
  have rf_q1202 : pR S 1202 mo = some q1202 := rf_q1202
  have hat_q1202 : At S q1202 14 := hat_q1202
  have ln_q1202 : pN S q1202 = 10 := ln_q1202
  obtain ⟨q1203, rf_q1203, hat_q1203, ln_q1203⟩ := hars (1203, 14, 10) (by decide +kernel)
  have rf_q1203 : pR S 1203 mo = some q1203 := rf_q1203
  have hat_q1203 : At S q1203 14 := hat_q1203
  have ln_q1203 : pN S q1203 = 10 := ln_q1203
  obtain ⟨q1204, rf_q1204, hat_q1204, ln_q1204⟩ := hars (1204, 14, 10) (by decide +kernel)
  have rf_q1204 : pR S 1204 mo = some q1204 := rf_q1204
  have hat_q1204 : At S q1204 14 := hat_q1204
  have ln_q1204 : pN S q1204 = 10 := ln_q1204
  obtain ⟨q1205, rf_q1205, hat_q1205, ln_q1205⟩ := hars (1205, 14, 10) (by decide +kernel)
  have rf_q1205 : pR S 1205 mo = some q1205 := rf_q1205
  have hat_q1205 : At S q1205 14 := hat_q1205
  have ln_q1205 : pN S q1205 = 10 := ln_q1205
  obtain ⟨q1206, rf_q1206, hat_q1206, ln_q1206⟩ := hars (1206, 14, 10) (by decide +kernel)
  have rf_q1206 : pR S 1206 mo = some q1206 := rf_q1206
  have hat_q1206 : At S q1206 14 := hat_q1206
  have ln_q1206 : pN S q1206 = 10 := ln_q1206
  refine lv_aload_n X.1 X.2.1 dX12_lot_0 rfl (lv_at hl 0 rfl) ?_
  refine lv_iconst (v := 0) X.1 X.2.1 dX12_lot_1 (by decide) ?_
  refine r_putI (v := 0) X hw hat_mo 0 1200 tyX12 (by decide) rfl inn_X12_lot_12 tyX12_ok nmX12 (by decide) (X.2.2.2.1 (.fieldLink RX12 161 "SilkMillModel" "thrown" "I") (by decide +kernel)) rfl (Or.inl rfl) rfl rfl (Nat.le_of_ble_eq_true rfl) (st_1200 _ _) dX12_lot_2 (fun H locs hw => ?_)
  generalize eS_1 : sI S 1200 mo 0 = S_1 at hw
  have hat_mo : At S_1 mo 12 := by rw [← eS_1]; exact At_sI hat_mo
  have hat_q1202 : At S_1 q1202 14 := by rw [← eS_1]; exact At_sI hat_q1202
  have hat_q1203 : At S_1 q1203 14 := by rw [← eS_1]; exact At_sI hat_q1203
  have hat_q1204 : At S_1 q1204 14 := by rw [← eS_1]; exact At_sI hat_q1204
  have hat_q1205 : At S_1 q1205 14 := by rw [← eS_1]; exact At_sI hat_q1205
  have hat_q1206 : At S_1 q1206 14 := by rw [← eS_1]; exact At_sI hat_q1206
  have rf_q1202 : pR S_1 1202 mo = some q1202 := by rw [← eS_1, pR_sI]; exact rf_q1202
  have rf_q1203 : pR S_1 1203 mo = some q1203 := by rw [← eS_1, pR_sI]; exact rf_q1203
  have rf_q1204 : pR S_1 1204 mo = some q1204 := by rw [← eS_1, pR_sI]; exact rf_q1204
  have rf_q1205 : pR S_1 1205 mo = some q1205 := by rw [← eS_1, pR_sI]; exact rf_q1205
  have rf_q1206 : pR S_1 1206 mo = some q1206 := by rw [← eS_1, pR_sI]; exact rf_q1206
  have ci_1201 : pI S_1 1201 mo = 0 := by rw [← eS_1]; exact (pI_sI_nf (by decide)).trans ci_1201
  have ln_q1202 : pN S_1 q1202 = 10 := by rw [← eS_1, pN_sI]; exact ln_q1202
  have ln_q1203 : pN S_1 q1203 = 10 := by rw [← eS_1, pN_sI]; exact ln_q1203
  have ln_q1204 : pN S_1 q1204 = 10 := by rw [← eS_1, pN_sI]; exact ln_q1204
  have ln_q1205 : pN S_1 q1205 = 10 := by rw [← eS_1, pN_sI]; exact ln_q1205
  have ln_q1206 : pN S_1 q1206 = 10 := by rw [← eS_1, pN_sI]; exact ln_q1206
  have hc_2 : pI S_1 1200 mo = 0 := by rw [← eS_1]; exact pI_sI_same
  refine lv_aload_n X.1 X.2.1 dX12_lot_5 rfl (lv_at hl 0 rfl) ?_
  refine r_get (v := .int 0) X hw hat_mo 1 (by decide) rfl inn_X12_lot_12 (by decide) (X.2.2.2.1 (.fieldLink RX12 165 "SilkMillModel" "lots" "I") (by decide +kernel)) rfl ((gv_1201 _ _).trans (congrArg (fun z => some (Value.int z)) ci_1201)) dX12_lot_6 ?_
  refine lv_bipush (v := 10) X.1 X.2.1 dX12_lot_9 (by decide) ?_
  refine lv_icmp_eq (tgt := 60) X.1 X.2.1 dX12_lot_11 (by decide) (fun c_11 => absurd c_11 (by decide)) (fun c_11 => ?_)
  refine lv_iload_n X.1 X.2.1 dX12_lot_14 rfl (lv_at hl 1 rfl) ?_
  refine lv_iconst (v := 1) X.1 X.2.1 dX12_lot_15 (by decide) ?_
  refine lv_bipush (v := 60) X.1 X.2.1 dX12_lot_16 (by decide) ?_
  refine k_i (rm := { frames := 1, cells := 0, slots := 0, locals := 40 }) (av := [.int (a1), .int 1, .int 60]) X hw (va_runS (As := [.int (a1), .int 1, .int 60]) (rest := []) (cfix X) (c_X12_within l G cy S_1 _ (a1) (1) (60)) (cwS 3 X.2.2.2.1 gX12_lot_X12_within rfl rfl rfl (by decide +kernel) ⟨Nat.le_of_ble_eq_true rfl, Nat.le_of_ble_eq_true rfl⟩) (pre_S X hw _) rfl rfl hl.1 rfl (lv_room (Nat.le_of_ble_eq_true rfl)) dX12_lot_18 ⟨Nat.le_of_ble_eq_true rfl, Nat.le_of_ble_eq_true rfl⟩) 0 0 (Nat.le_of_ble_eq_true rfl) (Nat.le_of_ble_eq_true rfl) (fun rr_18 S2 H locs hp hw hfr hnw => ?_)
  obtain ⟨e2_18, hp⟩ := hp
  subst e2_18
  rcases hp with ⟨b_18, er_18⟩ | ⟨b_18, er_18⟩ <;> subst er_18
  · have z_18 := trivial
    refine lv_if_eq (tgt := 60) X.1 X.2.1 dX12_lot_21 (by decide) (fun c_21 => absurd c_21 (by decide)) (fun c_21 => ?_)
    refine lv_iload_n X.1 X.2.1 dX12_lot_24 rfl (lv_at hl 3 rfl) ?_
    refine lv_bipush (v := 20) X.1 X.2.1 dX12_lot_25 (by decide) ?_
    refine lv_bipush (v := 60) X.1 X.2.1 dX12_lot_27 (by decide) ?_
    refine k_i (rm := { frames := 1, cells := 0, slots := 0, locals := 40 }) (av := [.int (a3), .int 20, .int 60]) X hw (va_runS (As := [.int (a3), .int 20, .int 60]) (rest := []) (cfix X) (c_X12_within l G cy S_1 _ (a3) (20) (60)) (cwS 3 X.2.2.2.1 gX12_lot_X12_within rfl rfl rfl (by decide +kernel) ⟨Nat.le_of_ble_eq_true rfl, Nat.le_of_ble_eq_true rfl⟩) (pre_S X hw _) rfl rfl hl.1 rfl (lv_room (Nat.le_of_ble_eq_true rfl)) dX12_lot_29 ⟨Nat.le_of_ble_eq_true rfl, Nat.le_of_ble_eq_true rfl⟩) 0 0 (Nat.le_of_ble_eq_true rfl) (Nat.le_of_ble_eq_true rfl) (fun rr_29 S2 H locs hp hw hfr hnw => ?_)
    obtain ⟨e2_29, hp⟩ := hp
    subst e2_29
    rcases hp with ⟨b_29, er_29⟩ | ⟨b_29, er_29⟩ <;> subst er_29
    · have z_29 := trivial
      refine lv_if_eq (tgt := 60) X.1 X.2.1 dX12_lot_32 (by decide) (fun c_32 => absurd c_32 (by decide)) (fun c_32 => ?_)
      refine lv_iload X.1 X.2.1 dX12_lot_35 (lv_at hl 4 rfl) ?_
      refine lv_bipush (v := 40) X.1 X.2.1 dX12_lot_37 (by decide) ?_
      refine lv_sipush (v := 200) X.1 X.2.1 dX12_lot_39 (by decide) ?_
      refine k_i (rm := { frames := 1, cells := 0, slots := 0, locals := 40 }) (av := [.int (a4), .int 40, .int 200]) X hw (va_runS (As := [.int (a4), .int 40, .int 200]) (rest := []) (cfix X) (c_X12_within l G cy S_1 _ (a4) (40) (200)) (cwS 3 X.2.2.2.1 gX12_lot_X12_within rfl rfl rfl (by decide +kernel) ⟨Nat.le_of_ble_eq_true rfl, Nat.le_of_ble_eq_true rfl⟩) (pre_S X hw _) rfl rfl hl.1 rfl (lv_room (Nat.le_of_ble_eq_true rfl)) dX12_lot_42 ⟨Nat.le_of_ble_eq_true rfl, Nat.le_of_ble_eq_true rfl⟩) 0 0 (Nat.le_of_ble_eq_true rfl) (Nat.le_of_ble_eq_true rfl) (fun rr_42 S2 H locs hp hw hfr hnw => ?_)
      obtain ⟨e2_42, hp⟩ := hp
      subst e2_42
      rcases hp with ⟨b_42, er_42⟩ | ⟨b_42, er_42⟩ <;> subst er_42
      · have z_42 := trivial
        refine lv_if_eq (tgt := 60) X.1 X.2.1 dX12_lot_45 (by decide) (fun c_45 => absurd c_45 (by decide)) (fun c_45 => ?_)
        refine lv_iload X.1 X.2.1 dX12_lot_48 (lv_at hl 5 rfl) ?_
        refine lv_iconst (v := 0) X.1 X.2.1 dX12_lot_50 (by decide) ?_
        refine lv_sipush (v := 200) X.1 X.2.1 dX12_lot_51 (by decide) ?_
        refine k_i (rm := { frames := 1, cells := 0, slots := 0, locals := 40 }) (av := [.int (a5), .int 0, .int 200]) X hw (va_runS (As := [.int (a5), .int 0, .int 200]) (rest := []) (cfix X) (c_X12_within l G cy S_1 _ (a5) (0) (200)) (cwS 3 X.2.2.2.1 gX12_lot_X12_within rfl rfl rfl (by decide +kernel) ⟨Nat.le_of_ble_eq_true rfl, Nat.le_of_ble_eq_true rfl⟩) (pre_S X hw _) rfl rfl hl.1 rfl (lv_room (Nat.le_of_ble_eq_true rfl)) dX12_lot_54 ⟨Nat.le_of_ble_eq_true rfl, Nat.le_of_ble_eq_true rfl⟩) 0 0 (Nat.le_of_ble_eq_true rfl) (Nat.le_of_ble_eq_true rfl) (fun rr_54 S2 H locs hp hw hfr hnw => ?_)
        obtain ⟨e2_54, hp⟩ := hp
        subst e2_54
        rcases hp with ⟨b_54, er_54⟩ | ⟨b_54, er_54⟩ <;> subst er_54
        · have z_54 := trivial
          refine lv_if_ne (tgt := 62) X.1 X.2.1 dX12_lot_57 (by decide) (fun c_57 => ?_) (fun c_57 => absurd c_57 (by decide))
          refine lv_aload_n X.1 X.2.1 dX12_lot_62 rfl (lv_at hl 0 rfl) ?_
          refine r_getR (g := 1202) X hw hat_mo 2 rf_q1202 (by decide) rfl inn_X12_lot_12 (by decide) (X.2.2.2.1 (.fieldLink RX12 7 "SilkMillModel" "lotMany" "[I") (by decide +kernel)) rfl (gv_1202 _ _) dX12_lot_63 ?_
          refine lv_aload_n X.1 X.2.1 dX12_lot_66 rfl (lv_at hl 0 rfl) ?_
          refine r_get (v := .int 0) X hw hat_mo 1 (by decide) rfl inn_X12_lot_12 (by decide) (X.2.2.2.1 (.fieldLink RX12 165 "SilkMillModel" "lots" "I") (by decide +kernel)) rfl ((gv_1201 _ _).trans (congrArg (fun z => some (Value.int z)) ci_1201)) dX12_lot_67 ?_
          refine lv_iload_n X.1 X.2.1 dX12_lot_70 rfl (lv_at hl 1 rfl) ?_
          refine r_iast X hw hat_q1202 (by rw [ln_q1202]; exact vp_in_iff.mpr (by decide +kernel)) dX12_lot_71 (fun H locs hw => ?_)
          generalize eS_3 : sA S_1 q1202 (upd (pA S_1 q1202) (Int32.toNatClampNeg (0)) a1) = S_3 at hw
          have hat_mo : At S_3 mo 12 := by rw [← eS_3]; exact At_sA hat_mo
          have hat_q1202 : At S_3 q1202 14 := by rw [← eS_3]; exact At_sA hat_q1202
          have hat_q1203 : At S_3 q1203 14 := by rw [← eS_3]; exact At_sA hat_q1203
          have hat_q1204 : At S_3 q1204 14 := by rw [← eS_3]; exact At_sA hat_q1204
          have hat_q1205 : At S_3 q1205 14 := by rw [← eS_3]; exact At_sA hat_q1205
          have hat_q1206 : At S_3 q1206 14 := by rw [← eS_3]; exact At_sA hat_q1206
          have rf_q1202 : pR S_3 1202 mo = some q1202 := by rw [← eS_3, pR_sA]; exact rf_q1202
          have rf_q1203 : pR S_3 1203 mo = some q1203 := by rw [← eS_3, pR_sA]; exact rf_q1203
          have rf_q1204 : pR S_3 1204 mo = some q1204 := by rw [← eS_3, pR_sA]; exact rf_q1204
          have rf_q1205 : pR S_3 1205 mo = some q1205 := by rw [← eS_3, pR_sA]; exact rf_q1205
          have rf_q1206 : pR S_3 1206 mo = some q1206 := by rw [← eS_3, pR_sA]; exact rf_q1206
          have ci_1201 : pI S_3 1201 mo = 0 := by rw [← eS_3, pI_sA]; exact ci_1201
          have hc_2 : pI S_3 1200 mo = 0 := by rw [← eS_3, pI_sA]; exact hc_2
          have ln_q1202 : pN S_3 q1202 = 10 := by rw [← eS_3, pN_sA]; exact ln_q1202
          have ln_q1203 : pN S_3 q1203 = 10 := by rw [← eS_3, pN_sA]; exact ln_q1203
          have ln_q1204 : pN S_3 q1204 = 10 := by rw [← eS_3, pN_sA]; exact ln_q1204
          have ln_q1205 : pN S_3 q1205 = 10 := by rw [← eS_3, pN_sA]; exact ln_q1205
          have ln_q1206 : pN S_3 q1206 = 10 := by rw [← eS_3, pN_sA]; exact ln_q1206
          refine lv_aload_n X.1 X.2.1 dX12_lot_72 rfl (lv_at hl 0 rfl) ?_
          refine r_getR (g := 1203) X hw hat_mo 3 rf_q1203 (by decide) rfl inn_X12_lot_12 (by decide) (X.2.2.2.1 (.fieldLink RX12 13 "SilkMillModel" "lotSeed" "[I") (by decide +kernel)) rfl (gv_1203 _ _) dX12_lot_73 ?_
          refine lv_aload_n X.1 X.2.1 dX12_lot_76 rfl (lv_at hl 0 rfl) ?_
          refine r_get (v := .int 0) X hw hat_mo 1 (by decide) rfl inn_X12_lot_12 (by decide) (X.2.2.2.1 (.fieldLink RX12 165 "SilkMillModel" "lots" "I") (by decide +kernel)) rfl ((gv_1201 _ _).trans (congrArg (fun z => some (Value.int z)) ci_1201)) dX12_lot_77 ?_
          refine lv_iload_n X.1 X.2.1 dX12_lot_80 rfl (lv_at hl 2 rfl) ?_
          refine r_iast X hw hat_q1203 (by rw [ln_q1203]; exact vp_in_iff.mpr (by decide +kernel)) dX12_lot_81 (fun H locs hw => ?_)
          generalize eS_4 : sA S_3 q1203 (upd (pA S_3 q1203) (Int32.toNatClampNeg (0)) a2) = S_4 at hw
          have hat_mo : At S_4 mo 12 := by rw [← eS_4]; exact At_sA hat_mo
          have hat_q1202 : At S_4 q1202 14 := by rw [← eS_4]; exact At_sA hat_q1202
          have hat_q1203 : At S_4 q1203 14 := by rw [← eS_4]; exact At_sA hat_q1203
          have hat_q1204 : At S_4 q1204 14 := by rw [← eS_4]; exact At_sA hat_q1204
          have hat_q1205 : At S_4 q1205 14 := by rw [← eS_4]; exact At_sA hat_q1205
          have hat_q1206 : At S_4 q1206 14 := by rw [← eS_4]; exact At_sA hat_q1206
          have rf_q1202 : pR S_4 1202 mo = some q1202 := by rw [← eS_4, pR_sA]; exact rf_q1202
          have rf_q1203 : pR S_4 1203 mo = some q1203 := by rw [← eS_4, pR_sA]; exact rf_q1203
          have rf_q1204 : pR S_4 1204 mo = some q1204 := by rw [← eS_4, pR_sA]; exact rf_q1204
          have rf_q1205 : pR S_4 1205 mo = some q1205 := by rw [← eS_4, pR_sA]; exact rf_q1205
          have rf_q1206 : pR S_4 1206 mo = some q1206 := by rw [← eS_4, pR_sA]; exact rf_q1206
          have ci_1201 : pI S_4 1201 mo = 0 := by rw [← eS_4, pI_sA]; exact ci_1201
          have hc_2 : pI S_4 1200 mo = 0 := by rw [← eS_4, pI_sA]; exact hc_2
          have ln_q1202 : pN S_4 q1202 = 10 := by rw [← eS_4, pN_sA]; exact ln_q1202
          have ln_q1203 : pN S_4 q1203 = 10 := by rw [← eS_4, pN_sA]; exact ln_q1203
          have ln_q1204 : pN S_4 q1204 = 10 := by rw [← eS_4, pN_sA]; exact ln_q1204
          have ln_q1205 : pN S_4 q1205 = 10 := by rw [← eS_4, pN_sA]; exact ln_q1205
          have ln_q1206 : pN S_4 q1206 = 10 := by rw [← eS_4, pN_sA]; exact ln_q1206
          refine lv_aload_n X.1 X.2.1 dX12_lot_82 rfl (lv_at hl 0 rfl) ?_
          refine r_getR (g := 1204) X hw hat_mo 4 rf_q1204 (by decide) rfl inn_X12_lot_12 (by decide) (X.2.2.2.1 (.fieldLink RX12 16 "SilkMillModel" "lotBase" "[I") (by decide +kernel)) rfl (gv_1204 _ _) dX12_lot_83 ?_
          refine lv_aload_n X.1 X.2.1 dX12_lot_86 rfl (lv_at hl 0 rfl) ?_
          refine r_get (v := .int 0) X hw hat_mo 1 (by decide) rfl inn_X12_lot_12 (by decide) (X.2.2.2.1 (.fieldLink RX12 165 "SilkMillModel" "lots" "I") (by decide +kernel)) rfl ((gv_1201 _ _).trans (congrArg (fun z => some (Value.int z)) ci_1201)) dX12_lot_87 ?_
          refine lv_iload_n X.1 X.2.1 dX12_lot_90 rfl (lv_at hl 3 rfl) ?_
          refine r_iast X hw hat_q1204 (by rw [ln_q1204]; exact vp_in_iff.mpr (by decide +kernel)) dX12_lot_91 (fun H locs hw => ?_)
          generalize eS_5 : sA S_4 q1204 (upd (pA S_4 q1204) (Int32.toNatClampNeg (0)) a3) = S_5 at hw
          have hat_mo : At S_5 mo 12 := by rw [← eS_5]; exact At_sA hat_mo
          have hat_q1202 : At S_5 q1202 14 := by rw [← eS_5]; exact At_sA hat_q1202
          have hat_q1203 : At S_5 q1203 14 := by rw [← eS_5]; exact At_sA hat_q1203
          have hat_q1204 : At S_5 q1204 14 := by rw [← eS_5]; exact At_sA hat_q1204
          have hat_q1205 : At S_5 q1205 14 := by rw [← eS_5]; exact At_sA hat_q1205
          have hat_q1206 : At S_5 q1206 14 := by rw [← eS_5]; exact At_sA hat_q1206
          have rf_q1202 : pR S_5 1202 mo = some q1202 := by rw [← eS_5, pR_sA]; exact rf_q1202
          have rf_q1203 : pR S_5 1203 mo = some q1203 := by rw [← eS_5, pR_sA]; exact rf_q1203
          have rf_q1204 : pR S_5 1204 mo = some q1204 := by rw [← eS_5, pR_sA]; exact rf_q1204
          have rf_q1205 : pR S_5 1205 mo = some q1205 := by rw [← eS_5, pR_sA]; exact rf_q1205
          have rf_q1206 : pR S_5 1206 mo = some q1206 := by rw [← eS_5, pR_sA]; exact rf_q1206
          have ci_1201 : pI S_5 1201 mo = 0 := by rw [← eS_5, pI_sA]; exact ci_1201
          have hc_2 : pI S_5 1200 mo = 0 := by rw [← eS_5, pI_sA]; exact hc_2
          have ln_q1202 : pN S_5 q1202 = 10 := by rw [← eS_5, pN_sA]; exact ln_q1202
          have ln_q1203 : pN S_5 q1203 = 10 := by rw [← eS_5, pN_sA]; exact ln_q1203
          have ln_q1204 : pN S_5 q1204 = 10 := by rw [← eS_5, pN_sA]; exact ln_q1204
          have ln_q1205 : pN S_5 q1205 = 10 := by rw [← eS_5, pN_sA]; exact ln_q1205
          have ln_q1206 : pN S_5 q1206 = 10 := by rw [← eS_5, pN_sA]; exact ln_q1206
          refine lv_aload_n X.1 X.2.1 dX12_lot_92 rfl (lv_at hl 0 rfl) ?_
          refine r_getR (g := 1205) X hw hat_mo 5 rf_q1205 (by decide) rfl inn_X12_lot_12 (by decide) (X.2.2.2.1 (.fieldLink RX12 19 "SilkMillModel" "lotLong" "[I") (by decide +kernel)) rfl (gv_1205 _ _) dX12_lot_93 ?_
          refine lv_aload_n X.1 X.2.1 dX12_lot_96 rfl (lv_at hl 0 rfl) ?_
          refine r_get (v := .int 0) X hw hat_mo 1 (by decide) rfl inn_X12_lot_12 (by decide) (X.2.2.2.1 (.fieldLink RX12 165 "SilkMillModel" "lots" "I") (by decide +kernel)) rfl ((gv_1201 _ _).trans (congrArg (fun z => some (Value.int z)) ci_1201)) dX12_lot_97 ?_
          refine lv_iload X.1 X.2.1 dX12_lot_100 (lv_at hl 4 rfl) ?_
          refine r_iast X hw hat_q1205 (by rw [ln_q1205]; exact vp_in_iff.mpr (by decide +kernel)) dX12_lot_102 (fun H locs hw => ?_)
          generalize eS_6 : sA S_5 q1205 (upd (pA S_5 q1205) (Int32.toNatClampNeg (0)) a4) = S_6 at hw
          have hat_mo : At S_6 mo 12 := by rw [← eS_6]; exact At_sA hat_mo
          have hat_q1202 : At S_6 q1202 14 := by rw [← eS_6]; exact At_sA hat_q1202
          have hat_q1203 : At S_6 q1203 14 := by rw [← eS_6]; exact At_sA hat_q1203
          have hat_q1204 : At S_6 q1204 14 := by rw [← eS_6]; exact At_sA hat_q1204
          have hat_q1205 : At S_6 q1205 14 := by rw [← eS_6]; exact At_sA hat_q1205
          have hat_q1206 : At S_6 q1206 14 := by rw [← eS_6]; exact At_sA hat_q1206
          have rf_q1202 : pR S_6 1202 mo = some q1202 := by rw [← eS_6, pR_sA]; exact rf_q1202
          have rf_q1203 : pR S_6 1203 mo = some q1203 := by rw [← eS_6, pR_sA]; exact rf_q1203
          have rf_q1204 : pR S_6 1204 mo = some q1204 := by rw [← eS_6, pR_sA]; exact rf_q1204
          have rf_q1205 : pR S_6 1205 mo = some q1205 := by rw [← eS_6, pR_sA]; exact rf_q1205
          have rf_q1206 : pR S_6 1206 mo = some q1206 := by rw [← eS_6, pR_sA]; exact rf_q1206
          have ci_1201 : pI S_6 1201 mo = 0 := by rw [← eS_6, pI_sA]; exact ci_1201
          have hc_2 : pI S_6 1200 mo = 0 := by rw [← eS_6, pI_sA]; exact hc_2
          have ln_q1202 : pN S_6 q1202 = 10 := by rw [← eS_6, pN_sA]; exact ln_q1202
          have ln_q1203 : pN S_6 q1203 = 10 := by rw [← eS_6, pN_sA]; exact ln_q1203
          have ln_q1204 : pN S_6 q1204 = 10 := by rw [← eS_6, pN_sA]; exact ln_q1204
          have ln_q1205 : pN S_6 q1205 = 10 := by rw [← eS_6, pN_sA]; exact ln_q1205
          have ln_q1206 : pN S_6 q1206 = 10 := by rw [← eS_6, pN_sA]; exact ln_q1206
          refine lv_aload_n X.1 X.2.1 dX12_lot_103 rfl (lv_at hl 0 rfl) ?_
          refine r_getR (g := 1206) X hw hat_mo 6 rf_q1206 (by decide) rfl inn_X12_lot_12 (by decide) (X.2.2.2.1 (.fieldLink RX12 22 "SilkMillModel" "lotFrail" "[I") (by decide +kernel)) rfl (gv_1206 _ _) dX12_lot_104 ?_
          refine lv_aload_n X.1 X.2.1 dX12_lot_107 rfl (lv_at hl 0 rfl) ?_
          refine r_get (v := .int 0) X hw hat_mo 1 (by decide) rfl inn_X12_lot_12 (by decide) (X.2.2.2.1 (.fieldLink RX12 165 "SilkMillModel" "lots" "I") (by decide +kernel)) rfl ((gv_1201 _ _).trans (congrArg (fun z => some (Value.int z)) ci_1201)) dX12_lot_108 ?_
          refine lv_iload X.1 X.2.1 dX12_lot_111 (lv_at hl 5 rfl) ?_
          refine r_iast X hw hat_q1206 (by rw [ln_q1206]; exact vp_in_iff.mpr (by decide +kernel)) dX12_lot_113 (fun H locs hw => ?_)
          generalize eS_7 : sA S_6 q1206 (upd (pA S_6 q1206) (Int32.toNatClampNeg (0)) a5) = S_7 at hw
          have hat_mo : At S_7 mo 12 := by rw [← eS_7]; exact At_sA hat_mo
          have hat_q1202 : At S_7 q1202 14 := by rw [← eS_7]; exact At_sA hat_q1202
          have hat_q1203 : At S_7 q1203 14 := by rw [← eS_7]; exact At_sA hat_q1203
          have hat_q1204 : At S_7 q1204 14 := by rw [← eS_7]; exact At_sA hat_q1204
          have hat_q1205 : At S_7 q1205 14 := by rw [← eS_7]; exact At_sA hat_q1205
          have hat_q1206 : At S_7 q1206 14 := by rw [← eS_7]; exact At_sA hat_q1206
          have rf_q1202 : pR S_7 1202 mo = some q1202 := by rw [← eS_7, pR_sA]; exact rf_q1202
          have rf_q1203 : pR S_7 1203 mo = some q1203 := by rw [← eS_7, pR_sA]; exact rf_q1203
          have rf_q1204 : pR S_7 1204 mo = some q1204 := by rw [← eS_7, pR_sA]; exact rf_q1204
          have rf_q1205 : pR S_7 1205 mo = some q1205 := by rw [← eS_7, pR_sA]; exact rf_q1205
          have rf_q1206 : pR S_7 1206 mo = some q1206 := by rw [← eS_7, pR_sA]; exact rf_q1206
          have ci_1201 : pI S_7 1201 mo = 0 := by rw [← eS_7, pI_sA]; exact ci_1201
          have hc_2 : pI S_7 1200 mo = 0 := by rw [← eS_7, pI_sA]; exact hc_2
          have ln_q1202 : pN S_7 q1202 = 10 := by rw [← eS_7, pN_sA]; exact ln_q1202
          have ln_q1203 : pN S_7 q1203 = 10 := by rw [← eS_7, pN_sA]; exact ln_q1203
          have ln_q1204 : pN S_7 q1204 = 10 := by rw [← eS_7, pN_sA]; exact ln_q1204
          have ln_q1205 : pN S_7 q1205 = 10 := by rw [← eS_7, pN_sA]; exact ln_q1205
          have ln_q1206 : pN S_7 q1206 = 10 := by rw [← eS_7, pN_sA]; exact ln_q1206
          refine lv_aload_n X.1 X.2.1 dX12_lot_114 rfl (lv_at hl 0 rfl) ?_
          refine lv_dup X.1 X.2.1 dX12_lot_115 rfl ?_
          refine r_get (v := .int 0) X hw hat_mo 1 (by decide) rfl inn_X12_lot_12 (by decide) (X.2.2.2.1 (.fieldLink RX12 165 "SilkMillModel" "lots" "I") (by decide +kernel)) rfl ((gv_1201 _ _).trans (congrArg (fun z => some (Value.int z)) ci_1201)) dX12_lot_116 ?_
          refine lv_iconst (v := 1) X.1 X.2.1 dX12_lot_119 (by decide) ?_
          refine lv_iadd X.1 X.2.1 dX12_lot_120 ?_
          refine lv_topi (fun v_8 ev_8 => ?_)
          obtain rfl : v_8 = 1 := ev_8.trans (by decide +kernel)
          refine r_putI (v := 1) X hw hat_mo 1 1201 tyX12 (by decide) rfl inn_X12_lot_12 tyX12_ok nmX12 (by decide) (X.2.2.2.1 (.fieldLink RX12 165 "SilkMillModel" "lots" "I") (by decide +kernel)) rfl (Or.inl rfl) rfl rfl (Nat.le_of_ble_eq_true rfl) (st_1201 _ _) dX12_lot_121 (fun H locs hw => ?_)
          generalize eS_9 : sI S_7 1201 mo 1 = S_9 at hw
          have hat_mo : At S_9 mo 12 := by rw [← eS_9]; exact At_sI hat_mo
          have hat_q1202 : At S_9 q1202 14 := by rw [← eS_9]; exact At_sI hat_q1202
          have hat_q1203 : At S_9 q1203 14 := by rw [← eS_9]; exact At_sI hat_q1203
          have hat_q1204 : At S_9 q1204 14 := by rw [← eS_9]; exact At_sI hat_q1204
          have hat_q1205 : At S_9 q1205 14 := by rw [← eS_9]; exact At_sI hat_q1205
          have hat_q1206 : At S_9 q1206 14 := by rw [← eS_9]; exact At_sI hat_q1206
          have rf_q1202 : pR S_9 1202 mo = some q1202 := by rw [← eS_9, pR_sI]; exact rf_q1202
          have rf_q1203 : pR S_9 1203 mo = some q1203 := by rw [← eS_9, pR_sI]; exact rf_q1203
          have rf_q1204 : pR S_9 1204 mo = some q1204 := by rw [← eS_9, pR_sI]; exact rf_q1204
          have rf_q1205 : pR S_9 1205 mo = some q1205 := by rw [← eS_9, pR_sI]; exact rf_q1205
          have rf_q1206 : pR S_9 1206 mo = some q1206 := by rw [← eS_9, pR_sI]; exact rf_q1206
          have hc_2 : pI S_9 1200 mo = 0 := by rw [← eS_9]; exact (pI_sI_nf (by decide)).trans hc_2
          have ln_q1202 : pN S_9 q1202 = 10 := by rw [← eS_9, pN_sI]; exact ln_q1202
          have ln_q1203 : pN S_9 q1203 = 10 := by rw [← eS_9, pN_sI]; exact ln_q1203
          have ln_q1204 : pN S_9 q1204 = 10 := by rw [← eS_9, pN_sI]; exact ln_q1204
          have ln_q1205 : pN S_9 q1205 = 10 := by rw [← eS_9, pN_sI]; exact ln_q1205
          have ln_q1206 : pN S_9 q1206 = 10 := by rw [← eS_9, pN_sI]; exact ln_q1206
          have hc_10 : pI S_9 1201 mo = 1 := by rw [← eS_9]; exact pI_sI_same
          refine lv_aload_n X.1 X.2.1 dX12_lot_124 rfl (lv_at hl 0 rfl) ?_
          refine r_get (v := .int 1) X hw hat_mo 1 (by decide) rfl inn_X12_lot_12 (by decide) (X.2.2.2.1 (.fieldLink RX12 165 "SilkMillModel" "lots" "I") (by decide +kernel)) rfl ((gv_1201 _ _).trans (congrArg (fun z => some (Value.int z)) hc_10)) dX12_lot_125 ?_
          refine lv_iconst (v := 1) X.1 X.2.1 dX12_lot_128 (by decide) ?_
          refine lv_isub X.1 X.2.1 dX12_lot_129 ?_
          refine lv_topi (fun v_11 ev_11 => ?_)
          obtain rfl : v_11 = 0 := ev_11.trans (by decide +kernel)
          exact ret_i X hw hr hlocks (Nat.le_of_ble_eq_true rfl) (Nat.le_of_ble_eq_true rfl) (if_pos ⟨b_18, b_29, b_42, b_54⟩).symm dX12_lot_130
        · have z_54 := trivial
          refine lv_if_ne (tgt := 62) X.1 X.2.1 dX12_lot_57 (by decide) (fun c_57 => absurd c_57 (by decide)) (fun c_57 => ?_)
          refine lv_iconst (v := (-1)) X.1 X.2.1 dX12_lot_60 (by decide) ?_
          exact ret_i X hw hr hlocks (Nat.le_of_ble_eq_true rfl) (Nat.le_of_ble_eq_true rfl) (if_neg (fun h => b_54 h.2.2.2)).symm dX12_lot_61
      · have z_42 := trivial
        refine lv_if_eq (tgt := 60) X.1 X.2.1 dX12_lot_45 (by decide) (fun c_45 => ?_) (fun c_45 => absurd c_45 (by decide))
        refine lv_iconst (v := (-1)) X.1 X.2.1 dX12_lot_60 (by decide) ?_
        exact ret_i X hw hr hlocks (Nat.le_of_ble_eq_true rfl) (Nat.le_of_ble_eq_true rfl) (if_neg (fun h => b_42 h.2.2.1)).symm dX12_lot_61
    · have z_29 := trivial
      refine lv_if_eq (tgt := 60) X.1 X.2.1 dX12_lot_32 (by decide) (fun c_32 => ?_) (fun c_32 => absurd c_32 (by decide))
      refine lv_iconst (v := (-1)) X.1 X.2.1 dX12_lot_60 (by decide) ?_
      exact ret_i X hw hr hlocks (Nat.le_of_ble_eq_true rfl) (Nat.le_of_ble_eq_true rfl) (if_neg (fun h => b_29 h.2.1)).symm dX12_lot_61
  · have z_18 := trivial
    refine lv_if_eq (tgt := 60) X.1 X.2.1 dX12_lot_21 (by decide) (fun c_21 => ?_) (fun c_21 => absurd c_21 (by decide))
    refine lv_iconst (v := (-1)) X.1 X.2.1 dX12_lot_60 (by decide) ?_
    exact ret_i X hw hr hlocks (Nat.le_of_ble_eq_true rfl) (Nat.le_of_ble_eq_true rfl) (if_neg (fun h => b_18 h.1)).symm dX12_lot_61
