set_option maxHeartbeats 4000000 in
set_option maxRecDepth 100000 in
theorem c_X12_shelve (l : Launch) (G : va_G) (cy : Nat → ClassId) (S : PS) (sz : Nat) (mo : Nat) (a1 : Int32) (a2 : Int32) (a3 : Int32) (a4 : Int32) (hF : FM S mo) : Ci l yX12_shelve wsX12_shelve ({ frames := 5, cells := 0, slots := 0, locals := 200 }) G cy S sz [.ref mo, .int (a1), .int (a2), .int (a3), .int (a4)] (fun (r : Int32) (S9 : PS) => r = shvV a1 a2 a3) := by
  refine ent_m (cc := cX12_shelve) (maxL := 6) (ret := (some .boolean)) (by decide) rfl (Nat.le_of_ble_eq_true rfl) ?_
  intro p e s m below meth c ls X hr hlocks hin hw hl hsz
  subst hsz
  have X : Cx p c cX12_shelve 6 s [.ref mo, .int (a1), .int (a2), .int (a3), .int (a4)].toArray wsX12_shelve RX12 m G cy (AS S s.heap.size) := X
  have hl : lv_has ls 6 [(0, .ref mo), (1, .int (a1)), (2, .int (a2)), (3, .int (a3)), (4, .int (a4))] := hl
  obtain ⟨hat_mo, hci, ci_1229, hars, hz53, hz39⟩ := hF
  have ci_1201 := hci 1201 (by decide)
  obtain ⟨q1253, rf_q1253, hat_q1253, ln_q1253⟩ := hars (1253, 15, 16) (by decide +kernel)
  have rf_q1253 : pR S 1253 mo = some q1253 := rf_q1253
  have hat_q1253 : At S q1253 15 := hat_q1253
  have ln_q1253 : pN S q1253 = 16 := ln_q1253
  obtain ⟨q1254, rf_q1254, hat_q1254, ln_q1254⟩ := hars (1254, 14, 16) (by decide +kernel)
  have rf_q1254 : pR S 1254 mo = some q1254 := rf_q1254
  have hat_q1254 : At S q1254 14 := hat_q1254
  have ln_q1254 : pN S q1254 = 16 := ln_q1254
  obtain ⟨q1255, rf_q1255, hat_q1255, ln_q1255⟩ := hars (1255, 14, 16) (by decide +kernel)
  have rf_q1255 : pR S 1255 mo = some q1255 := rf_q1255
  have hat_q1255 : At S q1255 14 := hat_q1255
  have ln_q1255 : pN S q1255 = 16 := ln_q1255
  obtain ⟨q1256, rf_q1256, hat_q1256, ln_q1256⟩ := hars (1256, 14, 16) (by decide +kernel)
  have rf_q1256 : pR S 1256 mo = some q1256 := rf_q1256
  have hat_q1256 : At S q1256 14 := hat_q1256
  have ln_q1256 : pN S q1256 = 16 := ln_q1256
  obtain ⟨q1257, rf_q1257, hat_q1257, ln_q1257⟩ := hars (1257, 14, 128) (by decide +kernel)
  have rf_q1257 : pR S 1257 mo = some q1257 := rf_q1257
  have hat_q1257 : At S q1257 14 := hat_q1257
  have ln_q1257 : pN S q1257 = 128 := ln_q1257
  have hz := hz53 _ rf_q1253
  refine lv_aload_n X.1 X.2.1 dX12_shelve_0 rfl (lv_at hl 0 rfl) ?_
  refine lv_iconst (v := 0) X.1 X.2.1 dX12_shelve_1 (by decide) ?_
  refine r_putI (v := 0) X hw hat_mo 0 1200 tyX12 (by decide) rfl inn_X12_shelve_12 tyX12_ok nmX12 (by decide) (X.2.2.2.1 (.fieldLink RX12 161 "SilkMillModel" "thrown" "I") (by decide +kernel)) rfl (Or.inl rfl) rfl rfl (Nat.le_of_ble_eq_true rfl) (st_1200 _ _) dX12_shelve_2 (fun H locs hw => ?_)
  generalize eS_1 : sI S 1200 mo 0 = S_1 at hw
  have hat_mo : At S_1 mo 12 := by rw [← eS_1]; exact At_sI hat_mo
  have hat_q1253 : At S_1 q1253 15 := by rw [← eS_1]; exact At_sI hat_q1253
  have hat_q1254 : At S_1 q1254 14 := by rw [← eS_1]; exact At_sI hat_q1254
  have hat_q1255 : At S_1 q1255 14 := by rw [← eS_1]; exact At_sI hat_q1255
  have hat_q1256 : At S_1 q1256 14 := by rw [← eS_1]; exact At_sI hat_q1256
  have hat_q1257 : At S_1 q1257 14 := by rw [← eS_1]; exact At_sI hat_q1257
  have rf_q1253 : pR S_1 1253 mo = some q1253 := by rw [← eS_1, pR_sI]; exact rf_q1253
  have rf_q1254 : pR S_1 1254 mo = some q1254 := by rw [← eS_1, pR_sI]; exact rf_q1254
  have rf_q1255 : pR S_1 1255 mo = some q1255 := by rw [← eS_1, pR_sI]; exact rf_q1255
  have rf_q1256 : pR S_1 1256 mo = some q1256 := by rw [← eS_1, pR_sI]; exact rf_q1256
  have rf_q1257 : pR S_1 1257 mo = some q1257 := by rw [← eS_1, pR_sI]; exact rf_q1257
  have ci_1201 : pI S_1 1201 mo = 0 := by rw [← eS_1]; exact (pI_sI_nf (by decide)).trans ci_1201
  have ln_q1253 : pN S_1 q1253 = 16 := by rw [← eS_1, pN_sI]; exact ln_q1253
  have ln_q1254 : pN S_1 q1254 = 16 := by rw [← eS_1, pN_sI]; exact ln_q1254
  have ln_q1255 : pN S_1 q1255 = 16 := by rw [← eS_1, pN_sI]; exact ln_q1255
  have ln_q1256 : pN S_1 q1256 = 16 := by rw [← eS_1, pN_sI]; exact ln_q1256
  have ln_q1257 : pN S_1 q1257 = 128 := by rw [← eS_1, pN_sI]; exact ln_q1257
  have hz : ∀ j, pA S_1 q1253 j = 0 := by rw [← eS_1, pA_sI]; exact hz
  have hc_2 : pI S_1 1200 mo = 0 := by rw [← eS_1]; exact pI_sI_same
  refine lv_iload_n X.1 X.2.1 dX12_shelve_5 rfl (lv_at hl 1 rfl) ?_
  refine lv_iconst (v := 0) X.1 X.2.1 dX12_shelve_6 (by decide) ?_
  refine lv_bipush (v := 15) X.1 X.2.1 dX12_shelve_7 (by decide) ?_
  refine k_i (rm := { frames := 1, cells := 0, slots := 0, locals := 40 }) (av := [.int (a1), .int 0, .int 15]) X hw (va_runS (As := [.int (a1), .int 0, .int 15]) (rest := []) (cfix X) (c_X12_within l G cy S_1 _ (a1) (0) (15)) (cwS 3 X.2.2.2.1 gX12_shelve_X12_within rfl rfl rfl (by decide +kernel) ⟨Nat.le_of_ble_eq_true rfl, Nat.le_of_ble_eq_true rfl⟩) (pre_S X hw _) rfl rfl hl.1 rfl (lv_room (Nat.le_of_ble_eq_true rfl)) dX12_shelve_9 ⟨Nat.le_of_ble_eq_true rfl, Nat.le_of_ble_eq_true rfl⟩) 0 0 (Nat.le_of_ble_eq_true rfl) (Nat.le_of_ble_eq_true rfl) (fun rr_9 S2 H locs hp hw hfr hnw => ?_)
  obtain ⟨e2_9, hp⟩ := hp
  subst e2_9
  rcases hp with ⟨b_9, er_9⟩ | ⟨b_9, er_9⟩ <;> subst er_9
  · have z_9 := trivial
    refine lv_if_eq (tgt := 33) X.1 X.2.1 dX12_shelve_12 (by decide) (fun c_12 => absurd c_12 (by decide)) (fun c_12 => ?_)
    refine lv_aload_n X.1 X.2.1 dX12_shelve_15 rfl (lv_at hl 0 rfl) ?_
    refine r_getR (g := 1253) X hw hat_mo 53 rf_q1253 (by decide) rfl inn_X12_shelve_12 (by decide) (X.2.2.2.1 (.fieldLink RX12 125 "SilkMillModel" "isLaid" "[Z") (by decide +kernel)) rfl (gv_1253 _ _) dX12_shelve_16 ?_
    refine lv_iload_n X.1 X.2.1 dX12_shelve_19 rfl (lv_at hl 1 rfl) ?_
    refine r_zald X hw hat_q1253 (by rw [ln_q1253]; exact wi_vp b_9 (by decide)) dX12_shelve_20 ?_
    refine lv_topi (fun v_3 ev_3 => ?_)
    obtain rfl : v_3 = 0 := ev_3.trans (hz _)
    refine lv_if_ne (tgt := 33) X.1 X.2.1 dX12_shelve_21 (by decide) (fun c_21 => absurd c_21 (by decide)) (fun c_21 => ?_)
    refine lv_iload_n X.1 X.2.1 dX12_shelve_24 rfl (lv_at hl 2 rfl) ?_
    refine lv_iconst (v := 0) X.1 X.2.1 dX12_shelve_25 (by decide) ?_
    refine lv_iconst (v := 2) X.1 X.2.1 dX12_shelve_26 (by decide) ?_
    refine k_i (rm := { frames := 1, cells := 0, slots := 0, locals := 40 }) (av := [.int (a2), .int 0, .int 2]) X hw (va_runS (As := [.int (a2), .int 0, .int 2]) (rest := []) (cfix X) (c_X12_within l G cy S_1 _ (a2) (0) (2)) (cwS 3 X.2.2.2.1 gX12_shelve_X12_within rfl rfl rfl (by decide +kernel) ⟨Nat.le_of_ble_eq_true rfl, Nat.le_of_ble_eq_true rfl⟩) (pre_S X hw _) rfl rfl hl.1 rfl (lv_room (Nat.le_of_ble_eq_true rfl)) dX12_shelve_27 ⟨Nat.le_of_ble_eq_true rfl, Nat.le_of_ble_eq_true rfl⟩) 0 0 (Nat.le_of_ble_eq_true rfl) (Nat.le_of_ble_eq_true rfl) (fun rr_27 S2 H locs hp hw hfr hnw => ?_)
    obtain ⟨e2_27, hp⟩ := hp
    subst e2_27
    rcases hp with ⟨b_27, er_27⟩ | ⟨b_27, er_27⟩ <;> subst er_27
    · have z_27 := trivial
      refine lv_if_ne (tgt := 35) X.1 X.2.1 dX12_shelve_30 (by decide) (fun c_30 => ?_) (fun c_30 => absurd c_30 (by decide))
      refine lv_iload_n X.1 X.2.1 dX12_shelve_35 rfl (lv_at hl 2 rfl) ?_
      refine lv_if_ne (tgt := 64) X.1 X.2.1 dX12_shelve_36 (by decide) (fun c_36 => ?_) (fun c_36 => ?_)
      · have z_36 := trivial
        refine lv_iload_n X.1 X.2.1 dX12_shelve_64 rfl (lv_at hl 2 rfl) ?_
        refine lv_iconst (v := 2) X.1 X.2.1 dX12_shelve_65 (by decide) ?_
        refine lv_icmp_ne (tgt := 81) X.1 X.2.1 dX12_shelve_66 (by decide) (fun c_66 => ?_) (fun c_66 => ?_)
        · have z_66 := trivial
          refine lv_aload_n X.1 X.2.1 dX12_shelve_81 rfl (lv_at hl 0 rfl) ?_
          refine r_getR (g := 1253) X hw hat_mo 53 rf_q1253 (by decide) rfl inn_X12_shelve_12 (by decide) (X.2.2.2.1 (.fieldLink RX12 125 "SilkMillModel" "isLaid" "[Z") (by decide +kernel)) rfl (gv_1253 _ _) dX12_shelve_82 ?_
          refine lv_iload_n X.1 X.2.1 dX12_shelve_85 rfl (lv_at hl 1 rfl) ?_
          refine lv_iconst (v := 1) X.1 X.2.1 dX12_shelve_86 (by decide) ?_
          refine r_zast X hw hat_q1253 (by rw [ln_q1253]; exact wi_vp b_9 (by decide)) dX12_shelve_87 (fun H locs hw => ?_)
          generalize eS_4 : sA S_1 q1253 (upd (pA S_1 q1253) (Int32.toNatClampNeg (a1)) (vp_nar .boolean 1)) = S_4 at hw
          have hat_mo : At S_4 mo 12 := by rw [← eS_4]; exact At_sA hat_mo
          have hat_q1253 : At S_4 q1253 15 := by rw [← eS_4]; exact At_sA hat_q1253
          have hat_q1254 : At S_4 q1254 14 := by rw [← eS_4]; exact At_sA hat_q1254
          have hat_q1255 : At S_4 q1255 14 := by rw [← eS_4]; exact At_sA hat_q1255
          have hat_q1256 : At S_4 q1256 14 := by rw [← eS_4]; exact At_sA hat_q1256
          have hat_q1257 : At S_4 q1257 14 := by rw [← eS_4]; exact At_sA hat_q1257
          have rf_q1253 : pR S_4 1253 mo = some q1253 := by rw [← eS_4, pR_sA]; exact rf_q1253
          have rf_q1254 : pR S_4 1254 mo = some q1254 := by rw [← eS_4, pR_sA]; exact rf_q1254
          have rf_q1255 : pR S_4 1255 mo = some q1255 := by rw [← eS_4, pR_sA]; exact rf_q1255
          have rf_q1256 : pR S_4 1256 mo = some q1256 := by rw [← eS_4, pR_sA]; exact rf_q1256
          have rf_q1257 : pR S_4 1257 mo = some q1257 := by rw [← eS_4, pR_sA]; exact rf_q1257
          have ci_1201 : pI S_4 1201 mo = 0 := by rw [← eS_4, pI_sA]; exact ci_1201
          have hc_2 : pI S_4 1200 mo = 0 := by rw [← eS_4, pI_sA]; exact hc_2
          have ln_q1253 : pN S_4 q1253 = 16 := by rw [← eS_4, pN_sA]; exact ln_q1253
          have ln_q1254 : pN S_4 q1254 = 16 := by rw [← eS_4, pN_sA]; exact ln_q1254
          have ln_q1255 : pN S_4 q1255 = 16 := by rw [← eS_4, pN_sA]; exact ln_q1255
          have ln_q1256 : pN S_4 q1256 = 16 := by rw [← eS_4, pN_sA]; exact ln_q1256
          have ln_q1257 : pN S_4 q1257 = 128 := by rw [← eS_4, pN_sA]; exact ln_q1257
          refine lv_aload_n X.1 X.2.1 dX12_shelve_88 rfl (lv_at hl 0 rfl) ?_
          refine r_getR (g := 1254) X hw hat_mo 54 rf_q1254 (by decide) rfl inn_X12_shelve_12 (by decide) (X.2.2.2.1 (.fieldLink RX12 128 "SilkMillModel" "laid" "[I") (by decide +kernel)) rfl (gv_1254 _ _) dX12_shelve_89 ?_
          refine lv_iload_n X.1 X.2.1 dX12_shelve_92 rfl (lv_at hl 1 rfl) ?_
          refine lv_iload_n X.1 X.2.1 dX12_shelve_93 rfl (lv_at hl 2 rfl) ?_
          refine r_iast X hw hat_q1254 (by rw [ln_q1254]; exact wi_vp b_9 (by decide)) dX12_shelve_94 (fun H locs hw => ?_)
          generalize eS_5 : sA S_4 q1254 (upd (pA S_4 q1254) (Int32.toNatClampNeg (a1)) a2) = S_5 at hw
          have hat_mo : At S_5 mo 12 := by rw [← eS_5]; exact At_sA hat_mo
          have hat_q1253 : At S_5 q1253 15 := by rw [← eS_5]; exact At_sA hat_q1253
          have hat_q1254 : At S_5 q1254 14 := by rw [← eS_5]; exact At_sA hat_q1254
          have hat_q1255 : At S_5 q1255 14 := by rw [← eS_5]; exact At_sA hat_q1255
          have hat_q1256 : At S_5 q1256 14 := by rw [← eS_5]; exact At_sA hat_q1256
          have hat_q1257 : At S_5 q1257 14 := by rw [← eS_5]; exact At_sA hat_q1257
          have rf_q1253 : pR S_5 1253 mo = some q1253 := by rw [← eS_5, pR_sA]; exact rf_q1253
          have rf_q1254 : pR S_5 1254 mo = some q1254 := by rw [← eS_5, pR_sA]; exact rf_q1254
          have rf_q1255 : pR S_5 1255 mo = some q1255 := by rw [← eS_5, pR_sA]; exact rf_q1255
          have rf_q1256 : pR S_5 1256 mo = some q1256 := by rw [← eS_5, pR_sA]; exact rf_q1256
          have rf_q1257 : pR S_5 1257 mo = some q1257 := by rw [← eS_5, pR_sA]; exact rf_q1257
          have ci_1201 : pI S_5 1201 mo = 0 := by rw [← eS_5, pI_sA]; exact ci_1201
          have hc_2 : pI S_5 1200 mo = 0 := by rw [← eS_5, pI_sA]; exact hc_2
          have ln_q1253 : pN S_5 q1253 = 16 := by rw [← eS_5, pN_sA]; exact ln_q1253
          have ln_q1254 : pN S_5 q1254 = 16 := by rw [← eS_5, pN_sA]; exact ln_q1254
          have ln_q1255 : pN S_5 q1255 = 16 := by rw [← eS_5, pN_sA]; exact ln_q1255
          have ln_q1256 : pN S_5 q1256 = 16 := by rw [← eS_5, pN_sA]; exact ln_q1256
          have ln_q1257 : pN S_5 q1257 = 128 := by rw [← eS_5, pN_sA]; exact ln_q1257
          refine lv_aload_n X.1 X.2.1 dX12_shelve_95 rfl (lv_at hl 0 rfl) ?_
          refine r_getR (g := 1255) X hw hat_mo 55 rf_q1255 (by decide) rfl inn_X12_shelve_12 (by decide) (X.2.2.2.1 (.fieldLink RX12 131 "SilkMillModel" "laidValue" "[I") (by decide +kernel)) rfl (gv_1255 _ _) dX12_shelve_96 ?_
          refine lv_iload_n X.1 X.2.1 dX12_shelve_99 rfl (lv_at hl 1 rfl) ?_
          refine lv_iload_n X.1 X.2.1 dX12_shelve_100 rfl (lv_at hl 2 rfl) ?_
          refine lv_if_ne (tgt := 114) X.1 X.2.1 dX12_shelve_101 (by decide) (fun c_101 => ?_) (fun c_101 => absurd c_101 c_36)
          refine lv_iload_n X.1 X.2.1 dX12_shelve_114 rfl (lv_at hl 3 rfl) ?_
          refine r_iast X hw hat_q1255 (by rw [ln_q1255]; exact wi_vp b_9 (by decide)) dX12_shelve_115 (fun H locs hw => ?_)
          generalize eS_6 : sA S_5 q1255 (upd (pA S_5 q1255) (Int32.toNatClampNeg (a1)) a3) = S_6 at hw
          have hat_mo : At S_6 mo 12 := by rw [← eS_6]; exact At_sA hat_mo
          have hat_q1253 : At S_6 q1253 15 := by rw [← eS_6]; exact At_sA hat_q1253
          have hat_q1254 : At S_6 q1254 14 := by rw [← eS_6]; exact At_sA hat_q1254
          have hat_q1255 : At S_6 q1255 14 := by rw [← eS_6]; exact At_sA hat_q1255
          have hat_q1256 : At S_6 q1256 14 := by rw [← eS_6]; exact At_sA hat_q1256
          have hat_q1257 : At S_6 q1257 14 := by rw [← eS_6]; exact At_sA hat_q1257
          have rf_q1253 : pR S_6 1253 mo = some q1253 := by rw [← eS_6, pR_sA]; exact rf_q1253
          have rf_q1254 : pR S_6 1254 mo = some q1254 := by rw [← eS_6, pR_sA]; exact rf_q1254
          have rf_q1255 : pR S_6 1255 mo = some q1255 := by rw [← eS_6, pR_sA]; exact rf_q1255
          have rf_q1256 : pR S_6 1256 mo = some q1256 := by rw [← eS_6, pR_sA]; exact rf_q1256
          have rf_q1257 : pR S_6 1257 mo = some q1257 := by rw [← eS_6, pR_sA]; exact rf_q1257
          have ci_1201 : pI S_6 1201 mo = 0 := by rw [← eS_6, pI_sA]; exact ci_1201
          have hc_2 : pI S_6 1200 mo = 0 := by rw [← eS_6, pI_sA]; exact hc_2
          have ln_q1253 : pN S_6 q1253 = 16 := by rw [← eS_6, pN_sA]; exact ln_q1253
          have ln_q1254 : pN S_6 q1254 = 16 := by rw [← eS_6, pN_sA]; exact ln_q1254
          have ln_q1255 : pN S_6 q1255 = 16 := by rw [← eS_6, pN_sA]; exact ln_q1255
          have ln_q1256 : pN S_6 q1256 = 16 := by rw [← eS_6, pN_sA]; exact ln_q1256
          have ln_q1257 : pN S_6 q1257 = 128 := by rw [← eS_6, pN_sA]; exact ln_q1257
          refine lv_iload_n X.1 X.2.1 dX12_shelve_116 rfl (lv_at hl 2 rfl) ?_
          refine lv_if_ne (tgt := 133) X.1 X.2.1 dX12_shelve_117 (by decide) (fun c_117 => ?_) (fun c_117 => absurd c_117 c_36)
          refine lv_iload_n X.1 X.2.1 dX12_shelve_133 rfl (lv_at hl 2 rfl) ?_
          refine lv_iconst (v := 2) X.1 X.2.1 dX12_shelve_134 (by decide) ?_
          refine lv_icmp_ne (tgt := 174) X.1 X.2.1 dX12_shelve_135 (by decide) (fun c_135 => ?_) (fun c_135 => absurd c_135 c_66)
          refine lv_iconst (v := 1) X.1 X.2.1 dX12_shelve_174 (by decide) ?_
          exact ret_z X hw hr hlocks (Nat.le_of_ble_eq_true rfl) (Nat.le_of_ble_eq_true rfl) (by decide) (if_pos ⟨b_9, Or.inl (one_of b_27 c_36 c_66)⟩).symm dX12_shelve_175
        · have z_66 := trivial
          refine lv_iload_n X.1 X.2.1 dX12_shelve_69 rfl (lv_at hl 3 rfl) ?_
          refine lv_iconst (v := 0) X.1 X.2.1 dX12_shelve_70 (by decide) ?_
          refine lv_bipush (v := 8) X.1 X.2.1 dX12_shelve_71 (by decide) ?_
          refine k_i (rm := { frames := 1, cells := 0, slots := 0, locals := 40 }) (av := [.int (a3), .int 0, .int 8]) X hw (va_runS (As := [.int (a3), .int 0, .int 8]) (rest := []) (cfix X) (c_X12_within l G cy S_1 _ (a3) (0) (8)) (cwS 3 X.2.2.2.1 gX12_shelve_X12_within rfl rfl rfl (by decide +kernel) ⟨Nat.le_of_ble_eq_true rfl, Nat.le_of_ble_eq_true rfl⟩) (pre_S X hw _) rfl rfl hl.1 rfl (lv_room (Nat.le_of_ble_eq_true rfl)) dX12_shelve_73 ⟨Nat.le_of_ble_eq_true rfl, Nat.le_of_ble_eq_true rfl⟩) 0 0 (Nat.le_of_ble_eq_true rfl) (Nat.le_of_ble_eq_true rfl) (fun rr_73 S2 H locs hp hw hfr hnw => ?_)
          obtain ⟨e2_73, hp⟩ := hp
          subst e2_73
          rcases hp with ⟨b_73, er_73⟩ | ⟨b_73, er_73⟩ <;> subst er_73
          · have z_73 := trivial
            refine lv_if_ne (tgt := 81) X.1 X.2.1 dX12_shelve_76 (by decide) (fun c_76 => ?_) (fun c_76 => absurd c_76 (by decide))
            refine lv_aload_n X.1 X.2.1 dX12_shelve_81 rfl (lv_at hl 0 rfl) ?_
            refine r_getR (g := 1253) X hw hat_mo 53 rf_q1253 (by decide) rfl inn_X12_shelve_12 (by decide) (X.2.2.2.1 (.fieldLink RX12 125 "SilkMillModel" "isLaid" "[Z") (by decide +kernel)) rfl (gv_1253 _ _) dX12_shelve_82 ?_
            refine lv_iload_n X.1 X.2.1 dX12_shelve_85 rfl (lv_at hl 1 rfl) ?_
            refine lv_iconst (v := 1) X.1 X.2.1 dX12_shelve_86 (by decide) ?_
            refine r_zast X hw hat_q1253 (by rw [ln_q1253]; exact wi_vp b_9 (by decide)) dX12_shelve_87 (fun H locs hw => ?_)
            generalize eS_7 : sA S_1 q1253 (upd (pA S_1 q1253) (Int32.toNatClampNeg (a1)) (vp_nar .boolean 1)) = S_7 at hw
            have hat_mo : At S_7 mo 12 := by rw [← eS_7]; exact At_sA hat_mo
            have hat_q1253 : At S_7 q1253 15 := by rw [← eS_7]; exact At_sA hat_q1253
            have hat_q1254 : At S_7 q1254 14 := by rw [← eS_7]; exact At_sA hat_q1254
            have hat_q1255 : At S_7 q1255 14 := by rw [← eS_7]; exact At_sA hat_q1255
            have hat_q1256 : At S_7 q1256 14 := by rw [← eS_7]; exact At_sA hat_q1256
            have hat_q1257 : At S_7 q1257 14 := by rw [← eS_7]; exact At_sA hat_q1257
            have rf_q1253 : pR S_7 1253 mo = some q1253 := by rw [← eS_7, pR_sA]; exact rf_q1253
            have rf_q1254 : pR S_7 1254 mo = some q1254 := by rw [← eS_7, pR_sA]; exact rf_q1254
            have rf_q1255 : pR S_7 1255 mo = some q1255 := by rw [← eS_7, pR_sA]; exact rf_q1255
            have rf_q1256 : pR S_7 1256 mo = some q1256 := by rw [← eS_7, pR_sA]; exact rf_q1256
            have rf_q1257 : pR S_7 1257 mo = some q1257 := by rw [← eS_7, pR_sA]; exact rf_q1257
            have ci_1201 : pI S_7 1201 mo = 0 := by rw [← eS_7, pI_sA]; exact ci_1201
            have hc_2 : pI S_7 1200 mo = 0 := by rw [← eS_7, pI_sA]; exact hc_2
            have ln_q1253 : pN S_7 q1253 = 16 := by rw [← eS_7, pN_sA]; exact ln_q1253
            have ln_q1254 : pN S_7 q1254 = 16 := by rw [← eS_7, pN_sA]; exact ln_q1254
            have ln_q1255 : pN S_7 q1255 = 16 := by rw [← eS_7, pN_sA]; exact ln_q1255
            have ln_q1256 : pN S_7 q1256 = 16 := by rw [← eS_7, pN_sA]; exact ln_q1256
            have ln_q1257 : pN S_7 q1257 = 128 := by rw [← eS_7, pN_sA]; exact ln_q1257
            refine lv_aload_n X.1 X.2.1 dX12_shelve_88 rfl (lv_at hl 0 rfl) ?_
            refine r_getR (g := 1254) X hw hat_mo 54 rf_q1254 (by decide) rfl inn_X12_shelve_12 (by decide) (X.2.2.2.1 (.fieldLink RX12 128 "SilkMillModel" "laid" "[I") (by decide +kernel)) rfl (gv_1254 _ _) dX12_shelve_89 ?_
            refine lv_iload_n X.1 X.2.1 dX12_shelve_92 rfl (lv_at hl 1 rfl) ?_
            refine lv_iload_n X.1 X.2.1 dX12_shelve_93 rfl (lv_at hl 2 rfl) ?_
            refine r_iast X hw hat_q1254 (by rw [ln_q1254]; exact wi_vp b_9 (by decide)) dX12_shelve_94 (fun H locs hw => ?_)
            generalize eS_8 : sA S_7 q1254 (upd (pA S_7 q1254) (Int32.toNatClampNeg (a1)) a2) = S_8 at hw
            have hat_mo : At S_8 mo 12 := by rw [← eS_8]; exact At_sA hat_mo
            have hat_q1253 : At S_8 q1253 15 := by rw [← eS_8]; exact At_sA hat_q1253
            have hat_q1254 : At S_8 q1254 14 := by rw [← eS_8]; exact At_sA hat_q1254
            have hat_q1255 : At S_8 q1255 14 := by rw [← eS_8]; exact At_sA hat_q1255
            have hat_q1256 : At S_8 q1256 14 := by rw [← eS_8]; exact At_sA hat_q1256
            have hat_q1257 : At S_8 q1257 14 := by rw [← eS_8]; exact At_sA hat_q1257
            have rf_q1253 : pR S_8 1253 mo = some q1253 := by rw [← eS_8, pR_sA]; exact rf_q1253
            have rf_q1254 : pR S_8 1254 mo = some q1254 := by rw [← eS_8, pR_sA]; exact rf_q1254
            have rf_q1255 : pR S_8 1255 mo = some q1255 := by rw [← eS_8, pR_sA]; exact rf_q1255
            have rf_q1256 : pR S_8 1256 mo = some q1256 := by rw [← eS_8, pR_sA]; exact rf_q1256
            have rf_q1257 : pR S_8 1257 mo = some q1257 := by rw [← eS_8, pR_sA]; exact rf_q1257
            have ci_1201 : pI S_8 1201 mo = 0 := by rw [← eS_8, pI_sA]; exact ci_1201
            have hc_2 : pI S_8 1200 mo = 0 := by rw [← eS_8, pI_sA]; exact hc_2
            have ln_q1253 : pN S_8 q1253 = 16 := by rw [← eS_8, pN_sA]; exact ln_q1253
            have ln_q1254 : pN S_8 q1254 = 16 := by rw [← eS_8, pN_sA]; exact ln_q1254
            have ln_q1255 : pN S_8 q1255 = 16 := by rw [← eS_8, pN_sA]; exact ln_q1255
            have ln_q1256 : pN S_8 q1256 = 16 := by rw [← eS_8, pN_sA]; exact ln_q1256
            have ln_q1257 : pN S_8 q1257 = 128 := by rw [← eS_8, pN_sA]; exact ln_q1257
            refine lv_aload_n X.1 X.2.1 dX12_shelve_95 rfl (lv_at hl 0 rfl) ?_
            refine r_getR (g := 1255) X hw hat_mo 55 rf_q1255 (by decide) rfl inn_X12_shelve_12 (by decide) (X.2.2.2.1 (.fieldLink RX12 131 "SilkMillModel" "laidValue" "[I") (by decide +kernel)) rfl (gv_1255 _ _) dX12_shelve_96 ?_
            refine lv_iload_n X.1 X.2.1 dX12_shelve_99 rfl (lv_at hl 1 rfl) ?_
            refine lv_iload_n X.1 X.2.1 dX12_shelve_100 rfl (lv_at hl 2 rfl) ?_
            refine lv_if_ne (tgt := 114) X.1 X.2.1 dX12_shelve_101 (by decide) (fun c_101 => ?_) (fun c_101 => absurd c_101 c_36)
            refine lv_iload_n X.1 X.2.1 dX12_shelve_114 rfl (lv_at hl 3 rfl) ?_
            refine r_iast X hw hat_q1255 (by rw [ln_q1255]; exact wi_vp b_9 (by decide)) dX12_shelve_115 (fun H locs hw => ?_)
            generalize eS_9 : sA S_8 q1255 (upd (pA S_8 q1255) (Int32.toNatClampNeg (a1)) a3) = S_9 at hw
            have hat_mo : At S_9 mo 12 := by rw [← eS_9]; exact At_sA hat_mo
            have hat_q1253 : At S_9 q1253 15 := by rw [← eS_9]; exact At_sA hat_q1253
            have hat_q1254 : At S_9 q1254 14 := by rw [← eS_9]; exact At_sA hat_q1254
            have hat_q1255 : At S_9 q1255 14 := by rw [← eS_9]; exact At_sA hat_q1255
            have hat_q1256 : At S_9 q1256 14 := by rw [← eS_9]; exact At_sA hat_q1256
            have hat_q1257 : At S_9 q1257 14 := by rw [← eS_9]; exact At_sA hat_q1257
            have rf_q1253 : pR S_9 1253 mo = some q1253 := by rw [← eS_9, pR_sA]; exact rf_q1253
            have rf_q1254 : pR S_9 1254 mo = some q1254 := by rw [← eS_9, pR_sA]; exact rf_q1254
            have rf_q1255 : pR S_9 1255 mo = some q1255 := by rw [← eS_9, pR_sA]; exact rf_q1255
            have rf_q1256 : pR S_9 1256 mo = some q1256 := by rw [← eS_9, pR_sA]; exact rf_q1256
            have rf_q1257 : pR S_9 1257 mo = some q1257 := by rw [← eS_9, pR_sA]; exact rf_q1257
            have ci_1201 : pI S_9 1201 mo = 0 := by rw [← eS_9, pI_sA]; exact ci_1201
            have hc_2 : pI S_9 1200 mo = 0 := by rw [← eS_9, pI_sA]; exact hc_2
            have ln_q1253 : pN S_9 q1253 = 16 := by rw [← eS_9, pN_sA]; exact ln_q1253
            have ln_q1254 : pN S_9 q1254 = 16 := by rw [← eS_9, pN_sA]; exact ln_q1254
            have ln_q1255 : pN S_9 q1255 = 16 := by rw [← eS_9, pN_sA]; exact ln_q1255
            have ln_q1256 : pN S_9 q1256 = 16 := by rw [← eS_9, pN_sA]; exact ln_q1256
            have ln_q1257 : pN S_9 q1257 = 128 := by rw [← eS_9, pN_sA]; exact ln_q1257
            refine lv_iload_n X.1 X.2.1 dX12_shelve_116 rfl (lv_at hl 2 rfl) ?_
            refine lv_if_ne (tgt := 133) X.1 X.2.1 dX12_shelve_117 (by decide) (fun c_117 => ?_) (fun c_117 => absurd c_117 c_36)
            refine lv_iload_n X.1 X.2.1 dX12_shelve_133 rfl (lv_at hl 2 rfl) ?_
            refine lv_iconst (v := 2) X.1 X.2.1 dX12_shelve_134 (by decide) ?_
            refine lv_icmp_ne (tgt := 174) X.1 X.2.1 dX12_shelve_135 (by decide) (fun c_135 => absurd c_66 c_135) (fun c_135 => ?_)
            refine lv_aload_n X.1 X.2.1 dX12_shelve_138 rfl (lv_at hl 0 rfl) ?_
            refine r_getR (g := 1256) X hw hat_mo 56 rf_q1256 (by decide) rfl inn_X12_shelve_12 (by decide) (X.2.2.2.1 (.fieldLink RX12 134 "SilkMillModel" "wordMany" "[I") (by decide +kernel)) rfl (gv_1256 _ _) dX12_shelve_139 ?_
            refine lv_iload_n X.1 X.2.1 dX12_shelve_142 rfl (lv_at hl 1 rfl) ?_
            refine lv_iload_n X.1 X.2.1 dX12_shelve_143 rfl (lv_at hl 3 rfl) ?_
            refine r_iast X hw hat_q1256 (by rw [ln_q1256]; exact wi_vp b_9 (by decide)) dX12_shelve_144 (fun H locs hw => ?_)
            generalize eS_10 : sA S_9 q1256 (upd (pA S_9 q1256) (Int32.toNatClampNeg (a1)) a3) = S_10 at hw
            have hat_mo : At S_10 mo 12 := by rw [← eS_10]; exact At_sA hat_mo
            have hat_q1253 : At S_10 q1253 15 := by rw [← eS_10]; exact At_sA hat_q1253
            have hat_q1254 : At S_10 q1254 14 := by rw [← eS_10]; exact At_sA hat_q1254
            have hat_q1255 : At S_10 q1255 14 := by rw [← eS_10]; exact At_sA hat_q1255
            have hat_q1256 : At S_10 q1256 14 := by rw [← eS_10]; exact At_sA hat_q1256
            have hat_q1257 : At S_10 q1257 14 := by rw [← eS_10]; exact At_sA hat_q1257
            have rf_q1253 : pR S_10 1253 mo = some q1253 := by rw [← eS_10, pR_sA]; exact rf_q1253
            have rf_q1254 : pR S_10 1254 mo = some q1254 := by rw [← eS_10, pR_sA]; exact rf_q1254
            have rf_q1255 : pR S_10 1255 mo = some q1255 := by rw [← eS_10, pR_sA]; exact rf_q1255
            have rf_q1256 : pR S_10 1256 mo = some q1256 := by rw [← eS_10, pR_sA]; exact rf_q1256
            have rf_q1257 : pR S_10 1257 mo = some q1257 := by rw [← eS_10, pR_sA]; exact rf_q1257
            have ci_1201 : pI S_10 1201 mo = 0 := by rw [← eS_10, pI_sA]; exact ci_1201
            have hc_2 : pI S_10 1200 mo = 0 := by rw [← eS_10, pI_sA]; exact hc_2
            have ln_q1253 : pN S_10 q1253 = 16 := by rw [← eS_10, pN_sA]; exact ln_q1253
            have ln_q1254 : pN S_10 q1254 = 16 := by rw [← eS_10, pN_sA]; exact ln_q1254
            have ln_q1255 : pN S_10 q1255 = 16 := by rw [← eS_10, pN_sA]; exact ln_q1255
            have ln_q1256 : pN S_10 q1256 = 16 := by rw [← eS_10, pN_sA]; exact ln_q1256
            have ln_q1257 : pN S_10 q1257 = 128 := by rw [← eS_10, pN_sA]; exact ln_q1257
            refine lv_iconst (v := 0) X.1 X.2.1 dX12_shelve_145 (by decide) ?_
            refine lv_istore (lv' := [(5, .int 0), (0, .ref mo), (1, .int (a1)), (2, .int (a2)), (3, .int (a3)), (4, .int (a4))]) X.1 X.2.1 dX12_shelve_146 hl (by decide) rfl (fun ls hl => ?_)
            obtain ⟨N, hN8, ea3⟩ := wi_nat8 b_73
            have loop : ∀ (d i : Nat) (T : PS) (H : Heap) (locs : List Loc) (ls : Array Slot), i + d = N → At T mo 12 → pR T 1257 mo = some q1257 → At T q1257 14 → pN T q1257 = 128 → Wd G cy (AS S s.heap.size) s.heap T H locs → lv_has ls 6 [(5, .int (nI i)), (0, .ref mo), (1, .int (a1)), (2, .int (a2)), (3, .int (a3)), (4, .int (a4))] → W p l e ({ frames := 5, cells := 0, slots := 0, locals := 200 }) s m [.ref mo, .int (a1), .int (a2), .int (a3), .int (a4)].toArray below meth c H locs 0 0 (MQ below (va_Qi (fun (r : Int32) (S9 : PS) => r = shvV a1 a2 a3) (Bw G cy S s.heap.size) (AS S s.heap.size)) [.ref mo, .int (a1), .int (a2), .int (a3), .int (a4)].toArray s 0 0 (AS S s.heap.size)) (F0 m 148 ls []) := by
              intro d
              induction d with
              | zero =>
                intro i T H locs ls hi hat_mo rf_q1257 hat_q1257 ln_q1257 hw hl
                refine lv_iload X.1 X.2.1 dX12_shelve_148 (lv_at hl 0 rfl) ?_
                refine lv_iload_n X.1 X.2.1 dX12_shelve_150 rfl (lv_at hl 4 rfl) ?_
                refine lv_icmp_ge (tgt := 174) X.1 X.2.1 dX12_shelve_151 (by decide) (fun c_151 => ?_) (fun c_151 => absurd (by rw [ea3]; exact nI_le (by omega) (by omega)) c_151)
                refine lv_iconst (v := 1) X.1 X.2.1 dX12_shelve_174 (by decide) ?_
                exact ret_z X hw hr hlocks (Nat.le_of_ble_eq_true rfl) (Nat.le_of_ble_eq_true rfl) (by decide) (if_pos ⟨b_9, Or.inr ⟨c_66, b_73⟩⟩).symm dX12_shelve_175
              | succ d ih =>
                intro i T H locs ls hi hat_mo rf_q1257 hat_q1257 ln_q1257 hw hl
                refine lv_iload X.1 X.2.1 dX12_shelve_148 (lv_at hl 0 rfl) ?_
                refine lv_iload_n X.1 X.2.1 dX12_shelve_150 rfl (lv_at hl 4 rfl) ?_
                refine lv_icmp_ge (tgt := 174) X.1 X.2.1 dX12_shelve_151 (by decide) (fun c_151 => absurd c_151 (by rw [ea3]; exact nI_ge (by omega) (by omega))) (fun c_151 => ?_)
                refine lv_aload_n X.1 X.2.1 dX12_shelve_154 rfl (lv_at hl 1 rfl) ?_
                refine r_getR (g := 1257) X hw hat_mo 57 rf_q1257 (by decide) rfl inn_X12_shelve_12 (by decide) (X.2.2.2.1 (.fieldLink RX12 137 "SilkMillModel" "wordOf" "[I") (by decide +kernel)) rfl (gv_1257 _ _) dX12_shelve_155 ?_
                refine lv_bipush (v := 8) X.1 X.2.1 dX12_shelve_158 (by decide) ?_
                refine lv_iload_n X.1 X.2.1 dX12_shelve_160 rfl (lv_at hl 2 rfl) ?_
                refine lv_imul X.1 X.2.1 dX12_shelve_161 ?_
                refine lv_topi (fun v_11 ev_11 => ?_)
                refine lv_iload X.1 X.2.1 dX12_shelve_162 (lv_at hl 0 rfl) ?_
                refine lv_iadd X.1 X.2.1 dX12_shelve_164 ?_
                refine lv_topi (fun v_12 ev_12 => ?_)
                refine lv_iload X.1 X.2.1 dX12_shelve_165 (lv_at hl 5 rfl) ?_
                refine r_iast X hw hat_q1257 (by rw [ln_q1257]; exact vp_w128 (i := i) b_9 (by omega) ev_12 ev_11) dX12_shelve_167 (fun H locs hw => ?_)
                generalize eS_13 : sA T q1257 (upd (pA T q1257) (Int32.toNatClampNeg (v_12)) a4) = S_13 at hw
                have hat_mo : At S_13 mo 12 := by rw [← eS_13]; exact At_sA hat_mo
                have hat_q1257 : At S_13 q1257 14 := by rw [← eS_13]; exact At_sA hat_q1257
                have rf_q1257 : pR S_13 1257 mo = some q1257 := by rw [← eS_13, pR_sA]; exact rf_q1257
                have ln_q1257 : pN S_13 q1257 = 128 := by rw [← eS_13, pN_sA]; exact ln_q1257
                obtain ⟨x_14, ex_14⟩ : ∃ y : Int32, y = nI i + 1 := ⟨_, rfl⟩
                refine lv_iinc (v := x_14) (lv' := [(5, .int (x_14)), (0, .ref mo), (1, .int (a1)), (2, .int (a2)), (3, .int (a3)), (4, .int (a4))]) X.1 X.2.1 dX12_shelve_168 hl (k := 0) rfl (by rw [ex_14]; rfl) (by decide) rfl (fun ls hl => ?_)
                refine lv_goto (tgt := 148) X.1 X.2.1 dX12_shelve_171 (by decide) ?_
                exact ih (i + 1) _ _ _ _ (by omega) hat_mo rf_q1257 hat_q1257 ln_q1257 hw (by rw [show nI (i + 1) = x_14 from by rw [ex_14]; exact (nI_1 i).symm]; exact lv_sub hl [0, 1, 2, 3, 4, 5] rfl)
            exact loop N 0 _ _ _ _ (by omega) hat_mo rf_q1257 hat_q1257 ln_q1257 hw (by rw [show nI 0 = 0 from rfl]; exact hl)
          · have z_73 := trivial
            refine lv_if_ne (tgt := 81) X.1 X.2.1 dX12_shelve_76 (by decide) (fun c_76 => absurd c_76 (by decide)) (fun c_76 => ?_)
            refine lv_iconst (v := 0) X.1 X.2.1 dX12_shelve_79 (by decide) ?_
            exact ret_z X hw hr hlocks (Nat.le_of_ble_eq_true rfl) (Nat.le_of_ble_eq_true rfl) (by decide) (if_neg (fun h => h.2.elim (fun e => by rw [e] at c_66; revert c_66; decide) (fun e => by exact b_73 e.2))).symm dX12_shelve_80
      · have z_36 := trivial
        refine lv_aload_n X.1 X.2.1 dX12_shelve_39 rfl (lv_at hl 0 rfl) ?_
        refine lv_iload_n X.1 X.2.1 dX12_shelve_40 rfl (lv_at hl 3 rfl) ?_
        refine lv_iload X.1 X.2.1 dX12_shelve_41 (lv_at hl 4 rfl) ?_
        refine k_i (rm := { frames := 3, cells := 0, slots := 0, locals := 120 }) (av := [.ref mo, .int (a3), .int (a4)]) X hw (va_runV (As := [.int (a3), .int (a4)]) (rest := []) (cfix X) (c_X12_isCocoon l G cy S_1 _ mo (a3) (a4) hat_mo ci_1201) (cwV 2 X.2.2.2.1 gX12_shelve_X12_isCocoon rfl rfl rfl (by decide +kernel) ⟨Nat.le_of_ble_eq_true rfl, Nat.le_of_ble_eq_true rfl⟩) (pre_V X hw _ hat_mo (by decide) rfl) rfl rfl hl.1 rfl (lv_room (Nat.le_of_ble_eq_true rfl)) dX12_shelve_43 ⟨Nat.le_of_ble_eq_true rfl, Nat.le_of_ble_eq_true rfl⟩) 0 0 (Nat.le_of_ble_eq_true rfl) (Nat.le_of_ble_eq_true rfl) (fun rr_43 S2 H locs hp hw hfr hnw => ?_)
        obtain ⟨e2_43, er_43⟩ := hp
        subst e2_43
        subst er_43
        refine lv_if_eq (tgt := 79) X.1 X.2.1 dX12_shelve_46 (by decide) (fun c_46 => ?_) (fun c_46 => absurd c_46 (by decide))
        refine lv_iconst (v := 0) X.1 X.2.1 dX12_shelve_79 (by decide) ?_
        exact ret_z X hw hr hlocks (Nat.le_of_ble_eq_true rfl) (Nat.le_of_ble_eq_true rfl) (by decide) (if_neg (fun h => h.2.elim (fun e => by rw [e] at c_36; revert c_36; decide) (fun e => by rw [e.1] at c_36; revert c_36; decide))).symm dX12_shelve_80
    · have z_27 := trivial
      refine lv_if_ne (tgt := 35) X.1 X.2.1 dX12_shelve_30 (by decide) (fun c_30 => absurd c_30 (by decide)) (fun c_30 => ?_)
      refine lv_iconst (v := 0) X.1 X.2.1 dX12_shelve_33 (by decide) ?_
      exact ret_z X hw hr hlocks (Nat.le_of_ble_eq_true rfl) (Nat.le_of_ble_eq_true rfl) (by decide) (if_neg (fun h => b_27 (h.2.elim (fun e => by rw [e]; decide) (fun e => by rw [e.1]; decide)))).symm dX12_shelve_34
  · have z_9 := trivial
    refine lv_if_eq (tgt := 33) X.1 X.2.1 dX12_shelve_12 (by decide) (fun c_12 => ?_) (fun c_12 => absurd c_12 (by decide))
    refine lv_iconst (v := 0) X.1 X.2.1 dX12_shelve_33 (by decide) ?_
    exact ret_z X hw hr hlocks (Nat.le_of_ble_eq_true rfl) (Nat.le_of_ble_eq_true rfl) (by decide) (if_neg (fun h => b_9 h.1)).symm dX12_shelve_34
