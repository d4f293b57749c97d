set_option maxHeartbeats 4000000 in
set_option maxRecDepth 100000 in
theorem c_X12_count (l : Launch) (G : va_G) (cy : Nat → ClassId) (S : PS) (sz : Nat) (mo : Nat) (a1 : Int32) (hF : FM S mo) : Ci l yX12_count wsX12_count ({ frames := 5, cells := 0, slots := 0, locals := 200 }) G cy S sz [.ref mo, .int (a1)] (fun (r : Int32) (S9 : PS) => r = cntV a1) := by
  refine ent_m (cc := cX12_count) (maxL := 4) (ret := (some .int)) (by decide) rfl (Nat.le_of_ble_eq_true rfl) ?_
  intro p e s m below meth c ls X hr hlocks hin hw hl hsz
  subst hsz
  have X : Cx p c cX12_count 4 s [.ref mo, .int (a1)].toArray wsX12_count RX12 m G cy (AS S s.heap.size) := X
  have hl : lv_has ls 4 [(0, .ref mo), (1, .int (a1))] := hl
  obtain ⟨hat_mo, hci, ci_1229, hars, hz53, hz39⟩ := hF
  have ci_1201 := hci 1201 (by decide)
  have ci_1211 := hci 1211 (by decide)
  have ci_1228 := hci 1228 (by decide)
  have ci_1238 := hci 1238 (by decide)
  have ci_1245 := hci 1245 (by decide)
  have ci_1246 := hci 1246 (by decide)
  have ci_1262 := hci 1262 (by decide)
  obtain ⟨q1253, rf_q1253, hat_q1253, ln_q1253⟩ := hars (1253, 15, 16) (by decide +kernel)
  have rf_q1253 : pR S 1253 mo = some q1253 := rf_q1253
  have hat_q1253 : At S q1253 15 := hat_q1253
  have ln_q1253 : pN S q1253 = 16 := ln_q1253
  obtain ⟨q1239, rf_q1239, hat_q1239, ln_q1239⟩ := hars (1239, 14, 41) (by decide +kernel)
  have rf_q1239 : pR S 1239 mo = some q1239 := rf_q1239
  have hat_q1239 : At S q1239 14 := hat_q1239
  have ln_q1239 : pN S q1239 = 41 := ln_q1239
  have hz := hz53 _ rf_q1253
  have hz9 := hz39 _ rf_q1239
  refine lv_aload_n X.1 X.2.1 dX12_count_0 rfl (lv_at hl 0 rfl) ?_
  refine lv_iconst (v := 0) X.1 X.2.1 dX12_count_1 (by decide) ?_
  refine r_putI (v := 0) X hw hat_mo 0 1200 tyX12 (by decide) rfl inn_X12_count_12 tyX12_ok nmX12 (by decide) (X.2.2.2.1 (.fieldLink RX12 161 "SilkMillModel" "thrown" "I") (by decide +kernel)) rfl (Or.inl rfl) rfl rfl (Nat.le_of_ble_eq_true rfl) (st_1200 _ _) dX12_count_2 (fun H locs hw => ?_)
  generalize eS_1 : sI S 1200 mo 0 = S_1 at hw
  have hat_mo : At S_1 mo 12 := by rw [← eS_1]; exact At_sI hat_mo
  have hat_q1253 : At S_1 q1253 15 := by rw [← eS_1]; exact At_sI hat_q1253
  have hat_q1239 : At S_1 q1239 14 := by rw [← eS_1]; exact At_sI hat_q1239
  have rf_q1253 : pR S_1 1253 mo = some q1253 := by rw [← eS_1, pR_sI]; exact rf_q1253
  have rf_q1239 : pR S_1 1239 mo = some q1239 := by rw [← eS_1, pR_sI]; exact rf_q1239
  have ci_1201 : pI S_1 1201 mo = 0 := by rw [← eS_1]; exact (pI_sI_nf (by decide)).trans ci_1201
  have ci_1211 : pI S_1 1211 mo = 0 := by rw [← eS_1]; exact (pI_sI_nf (by decide)).trans ci_1211
  have ci_1228 : pI S_1 1228 mo = 0 := by rw [← eS_1]; exact (pI_sI_nf (by decide)).trans ci_1228
  have ci_1238 : pI S_1 1238 mo = 0 := by rw [← eS_1]; exact (pI_sI_nf (by decide)).trans ci_1238
  have ci_1245 : pI S_1 1245 mo = 0 := by rw [← eS_1]; exact (pI_sI_nf (by decide)).trans ci_1245
  have ci_1246 : pI S_1 1246 mo = 0 := by rw [← eS_1]; exact (pI_sI_nf (by decide)).trans ci_1246
  have ci_1262 : pI S_1 1262 mo = 0 := by rw [← eS_1]; exact (pI_sI_nf (by decide)).trans ci_1262
  have ln_q1253 : pN S_1 q1253 = 16 := by rw [← eS_1, pN_sI]; exact ln_q1253
  have ln_q1239 : pN S_1 q1239 = 41 := by rw [← eS_1, pN_sI]; exact ln_q1239
  have hz : ∀ j, pA S_1 q1253 j = 0 := by rw [← eS_1, pA_sI]; exact hz
  have hz9 : ∀ j, pA S_1 q1239 j = 0 := by rw [← eS_1, pA_sI]; exact hz9
  have hc_2 : pI S_1 1200 mo = 0 := by rw [← eS_1]; exact pI_sI_same
  refine lv_iconst (v := 0) X.1 X.2.1 dX12_count_5 (by decide) ?_
  refine lv_istore_n (lv' := [(2, .int 0), (0, .ref mo), (1, .int (a1))]) X.1 X.2.1 dX12_count_6 rfl hl (by decide) rfl (fun ls hl => ?_)
  refine lv_iload_n X.1 X.2.1 dX12_count_7 rfl (lv_at hl 2 rfl) ?_
  by_cases w_8 : (a1).toInt < 0 ∨ 11 < (a1).toInt
  · refine lv_tableOut (tgt := 310) X.1 X.2.1 dX12_count_8 w_8 (by decide) ?_
    refine lv_iconst (v := (-1)) X.1 X.2.1 dX12_count_310 (by decide) ?_
    exact ret_i X hw hr hlocks (Nat.le_of_ble_eq_true rfl) (Nat.le_of_ble_eq_true rfl) (by unfold cntV; first | rw [if_pos (by omega)] | rw [if_neg (by omega)]) dX12_count_311
  have w2_8 : (a1).toInt = 0 ∨ (a1).toInt = 1 ∨ (a1).toInt = 2 ∨ (a1).toInt = 3 ∨ (a1).toInt = 4 ∨ (a1).toInt = 5 ∨ (a1).toInt = 6 ∨ (a1).toInt = 7 ∨ (a1).toInt = 8 ∨ (a1).toInt = 9 ∨ (a1).toInt = 10 ∨ (a1).toInt = 11 := by omega
  rcases w2_8 with w3_8 | w3_8 | w3_8 | w3_8 | w3_8 | w3_8 | w3_8 | w3_8 | w3_8 | w3_8 | w3_8 | w3_8
  · refine lv_tableIn (tgt := 72) X.1 X.2.1 dX12_count_8 (by omega) (by omega) (by rw [w3_8]; rfl) (by decide) ?_
    refine lv_aload_n X.1 X.2.1 dX12_count_72 rfl (lv_at hl 1 rfl) ?_
    refine r_get (v := .int 0) X hw hat_mo 1 (by decide) rfl inn_X12_count_12 (by decide) (X.2.2.2.1 (.fieldLink RX12 165 "SilkMillModel" "lots" "I") (by decide +kernel)) rfl ((gv_1201 _ _).trans (congrArg (fun z => some (Value.int z)) ci_1201)) dX12_count_73 ?_
    exact ret_i X hw hr hlocks (Nat.le_of_ble_eq_true rfl) (Nat.le_of_ble_eq_true rfl) (by unfold cntV; first | rw [if_pos (by omega)] | rw [if_neg (by omega)]) dX12_count_76
  · refine lv_tableIn (tgt := 77) X.1 X.2.1 dX12_count_8 (by omega) (by omega) (by rw [w3_8]; rfl) (by decide) ?_
    refine lv_aload_n X.1 X.2.1 dX12_count_77 rfl (lv_at hl 1 rfl) ?_
    refine r_get (v := .int 0) X hw hat_mo 11 (by decide) rfl inn_X12_count_12 (by decide) (X.2.2.2.1 (.fieldLink RX12 197 "SilkMillModel" "pots" "I") (by decide +kernel)) rfl ((gv_1211 _ _).trans (congrArg (fun z => some (Value.int z)) ci_1211)) dX12_count_78 ?_
    exact ret_i X hw hr hlocks (Nat.le_of_ble_eq_true rfl) (Nat.le_of_ble_eq_true rfl) (by unfold cntV; first | rw [if_pos (by omega)] | rw [if_neg (by omega)]) dX12_count_81
  · refine lv_tableIn (tgt := 82) X.1 X.2.1 dX12_count_8 (by omega) (by omega) (by rw [w3_8]; rfl) (by decide) ?_
    refine lv_aload_n X.1 X.2.1 dX12_count_82 rfl (lv_at hl 1 rfl) ?_
    refine r_get (v := .int 0) X hw hat_mo 38 (by decide) rfl inn_X12_count_12 (by decide) (X.2.2.2.1 (.fieldLink RX12 290 "SilkMillModel" "skeins" "I") (by decide +kernel)) rfl ((gv_1238 _ _).trans (congrArg (fun z => some (Value.int z)) ci_1238)) dX12_count_83 ?_
    exact ret_i X hw hr hlocks (Nat.le_of_ble_eq_true rfl) (Nat.le_of_ble_eq_true rfl) (by unfold cntV; first | rw [if_pos (by omega)] | rw [if_neg (by omega)]) dX12_count_86
  · refine lv_tableIn (tgt := 87) X.1 X.2.1 dX12_count_8 (by omega) (by omega) (by rw [w3_8]; rfl) (by decide) ?_
    refine lv_aload_n X.1 X.2.1 dX12_count_87 rfl (lv_at hl 1 rfl) ?_
    refine r_get (v := .int 0) X hw hat_mo 45 (by decide) rfl inn_X12_count_12 (by decide) (X.2.2.2.1 (.fieldLink RX12 302 "SilkMillModel" "today" "I") (by decide +kernel)) rfl ((gv_1245 _ _).trans (congrArg (fun z => some (Value.int z)) ci_1245)) dX12_count_88 ?_
    exact ret_i X hw hr hlocks (Nat.le_of_ble_eq_true rfl) (Nat.le_of_ble_eq_true rfl) (by unfold cntV; first | rw [if_pos (by omega)] | rw [if_neg (by omega)]) dX12_count_91
  · refine lv_tableIn (tgt := 92) X.1 X.2.1 dX12_count_8 (by omega) (by omega) (by rw [w3_8]; rfl) (by decide) ?_
    refine lv_aload_n X.1 X.2.1 dX12_count_92 rfl (lv_at hl 1 rfl) ?_
    refine r_get (v := .int 0) X hw hat_mo 28 (by decide) rfl inn_X12_count_12 (by decide) (X.2.2.2.1 (.fieldLink RX12 211 "SilkMillModel" "taped" "I") (by decide +kernel)) rfl ((gv_1228 _ _).trans (congrArg (fun z => some (Value.int z)) ci_1228)) dX12_count_93 ?_
    exact ret_i X hw hr hlocks (Nat.le_of_ble_eq_true rfl) (Nat.le_of_ble_eq_true rfl) (by unfold cntV; first | rw [if_pos (by omega)] | rw [if_neg (by omega)]) dX12_count_96
  · refine lv_tableIn (tgt := 97) X.1 X.2.1 dX12_count_8 (by omega) (by omega) (by rw [w3_8]; rfl) (by decide) ?_
    refine lv_aload_n X.1 X.2.1 dX12_count_97 rfl (lv_at hl 1 rfl) ?_
    refine r_get (v := .int 0) X hw hat_mo 62 (by decide) rfl inn_X12_count_12 (by decide) (X.2.2.2.1 (.fieldLink RX12 403 "SilkMillModel" "faults" "I") (by decide +kernel)) rfl ((gv_1262 _ _).trans (congrArg (fun z => some (Value.int z)) ci_1262)) dX12_count_98 ?_
    exact ret_i X hw hr hlocks (Nat.le_of_ble_eq_true rfl) (Nat.le_of_ble_eq_true rfl) (by unfold cntV; first | rw [if_pos (by omega)] | rw [if_neg (by omega)]) dX12_count_101
  · refine lv_tableIn (tgt := 102) X.1 X.2.1 dX12_count_8 (by omega) (by omega) (by rw [w3_8]; rfl) (by decide) ?_
    refine lv_iconst (v := 0) X.1 X.2.1 dX12_count_102 (by decide) ?_
    refine lv_istore_n (lv' := [(3, .int 0), (2, .int 0), (0, .ref mo), (1, .int (a1))]) X.1 X.2.1 dX12_count_103 rfl hl (by decide) rfl (fun ls hl => ?_)
    refine lv_iload_n X.1 X.2.1 dX12_count_104 rfl (lv_at hl 0 rfl) ?_
    refine lv_bipush (v := 60) X.1 X.2.1 dX12_count_105 (by decide) ?_
    refine lv_aload_n X.1 X.2.1 dX12_count_107 rfl (lv_at hl 2 rfl) ?_
    refine r_get (v := .int 0) X hw hat_mo 1 (by decide) rfl inn_X12_count_12 (by decide) (X.2.2.2.1 (.fieldLink RX12 165 "SilkMillModel" "lots" "I") (by decide +kernel)) rfl ((gv_1201 _ _).trans (congrArg (fun z => some (Value.int z)) ci_1201)) dX12_count_108 ?_
    refine lv_imul X.1 X.2.1 dX12_count_111 ?_
    refine lv_topi (fun v_3 ev_3 => ?_)
    obtain rfl : v_3 = 0 := ev_3.trans (by decide +kernel)
    refine lv_icmp_ge (tgt := 152) X.1 X.2.1 dX12_count_112 (by decide) (fun c_112 => ?_) (fun c_112 => absurd c_112 (by decide))
    refine lv_iload_n X.1 X.2.1 dX12_count_152 rfl (lv_at hl 1 rfl) ?_
    exact ret_i X hw hr hlocks (Nat.le_of_ble_eq_true rfl) (Nat.le_of_ble_eq_true rfl) (by unfold cntV; first | rw [if_pos (by omega)] | rw [if_neg (by omega)]) dX12_count_153
  · refine lv_tableIn (tgt := 154) X.1 X.2.1 dX12_count_8 (by omega) (by omega) (by rw [w3_8]; rfl) (by decide) ?_
    refine lv_aload_n X.1 X.2.1 dX12_count_154 rfl (lv_at hl 1 rfl) ?_
    refine lv_iconst (v := 0) X.1 X.2.1 dX12_count_155 (by decide) ?_
    refine lv_aload_n X.1 X.2.1 dX12_count_156 rfl (lv_at hl 1 rfl) ?_
    refine r_getR (g := 1239) X hw hat_mo 39 rf_q1239 (by decide) rfl inn_X12_count_12 (by decide) (X.2.2.2.1 (.fieldLink RX12 100 "SilkMillModel" "firstMetre" "[I") (by decide +kernel)) rfl (gv_1239 _ _) dX12_count_157 ?_
    refine lv_aload_n X.1 X.2.1 dX12_count_160 rfl (lv_at hl 1 rfl) ?_
    refine r_get (v := .int 0) X hw hat_mo 38 (by decide) rfl inn_X12_count_12 (by decide) (X.2.2.2.1 (.fieldLink RX12 290 "SilkMillModel" "skeins" "I") (by decide +kernel)) rfl ((gv_1238 _ _).trans (congrArg (fun z => some (Value.int z)) ci_1238)) dX12_count_161 ?_
    refine r_iald X hw hat_q1239 (by rw [ln_q1239]; exact vp_in_iff.mpr (by decide +kernel)) dX12_count_164 ?_
    refine lv_topi (fun v_4 ev_4 => ?_)
    obtain rfl : v_4 = 0 := ev_4.trans (hz9 _)
    refine k_i (rm := { frames := 3, cells := 0, slots := 0, locals := 120 }) (av := [.ref mo, .int 0, .int 0]) X hw (va_runV (As := [.int 0, .int 0]) (rest := []) (cfix X) (c_X12_weight l G cy S_1 _ mo hat_mo) (cwV 2 X.2.2.2.1 gX12_count_X12_weight rfl rfl rfl (by decide +kernel) ⟨Nat.le_of_ble_eq_true rfl, Nat.le_of_ble_eq_true rfl⟩) (pre_V X hw _ hat_mo (by decide) rfl) rfl rfl hl.1 rfl (lv_room (Nat.le_of_ble_eq_true rfl)) dX12_count_165 ⟨Nat.le_of_ble_eq_true rfl, Nat.le_of_ble_eq_true rfl⟩) 0 0 (Nat.le_of_ble_eq_true rfl) (Nat.le_of_ble_eq_true rfl) (fun rr_165 S2 H locs hp hw hfr hnw => ?_)
    obtain ⟨e2_165, er_165⟩ := hp
    subst e2_165
    subst er_165
    exact ret_i X hw hr hlocks (Nat.le_of_ble_eq_true rfl) (Nat.le_of_ble_eq_true rfl) (by unfold cntV; first | rw [if_pos (by omega)] | rw [if_neg (by omega)]) dX12_count_168
  · refine lv_tableIn (tgt := 169) X.1 X.2.1 dX12_count_8 (by omega) (by omega) (by rw [w3_8]; rfl) (by decide) ?_
    refine lv_iconst (v := 0) X.1 X.2.1 dX12_count_169 (by decide) ?_
    refine lv_istore_n (lv' := [(3, .int 0), (2, .int 0), (0, .ref mo), (1, .int (a1))]) X.1 X.2.1 dX12_count_170 rfl hl (by decide) rfl (fun ls hl => ?_)
    refine lv_iload_n X.1 X.2.1 dX12_count_171 rfl (lv_at hl 0 rfl) ?_
    refine lv_aload_n X.1 X.2.1 dX12_count_172 rfl (lv_at hl 2 rfl) ?_
    refine r_get (v := .int 0) X hw hat_mo 11 (by decide) rfl inn_X12_count_12 (by decide) (X.2.2.2.1 (.fieldLink RX12 197 "SilkMillModel" "pots" "I") (by decide +kernel)) rfl ((gv_1211 _ _).trans (congrArg (fun z => some (Value.int z)) ci_1211)) dX12_count_173 ?_
    refine lv_icmp_ge (tgt := 203) X.1 X.2.1 dX12_count_176 (by decide) (fun c_176 => ?_) (fun c_176 => absurd c_176 (by decide))
    refine lv_iload_n X.1 X.2.1 dX12_count_203 rfl (lv_at hl 1 rfl) ?_
    exact ret_i X hw hr hlocks (Nat.le_of_ble_eq_true rfl) (Nat.le_of_ble_eq_true rfl) (by unfold cntV; first | rw [if_pos (by omega)] | rw [if_neg (by omega)]) dX12_count_204
  · refine lv_tableIn (tgt := 205) X.1 X.2.1 dX12_count_8 (by omega) (by omega) (by rw [w3_8]; rfl) (by decide) ?_
    refine lv_aload_n X.1 X.2.1 dX12_count_205 rfl (lv_at hl 1 rfl) ?_
    refine r_get (v := .int 0) X hw hat_mo 46 (by decide) rfl inn_X12_count_12 (by decide) (X.2.2.2.1 (.fieldLink RX12 293 "SilkMillModel" "waste" "I") (by decide +kernel)) rfl ((gv_1246 _ _).trans (congrArg (fun z => some (Value.int z)) ci_1246)) dX12_count_206 ?_
    exact ret_i X hw hr hlocks (Nat.le_of_ble_eq_true rfl) (Nat.le_of_ble_eq_true rfl) (by unfold cntV; first | rw [if_pos (by omega)] | rw [if_neg (by omega)]) dX12_count_209
  · refine lv_tableIn (tgt := 210) X.1 X.2.1 dX12_count_8 (by omega) (by omega) (by rw [w3_8]; rfl) (by decide) ?_
    refine lv_iconst (v := 0) X.1 X.2.1 dX12_count_210 (by decide) ?_
    refine lv_istore_n (lv' := [(3, .int 0), (2, .int 0), (0, .ref mo), (1, .int (a1))]) X.1 X.2.1 dX12_count_211 rfl hl (by decide) rfl (fun ls hl => ?_)
    refine lv_iload_n X.1 X.2.1 dX12_count_212 rfl (lv_at hl 0 rfl) ?_
    refine lv_bipush (v := 60) X.1 X.2.1 dX12_count_213 (by decide) ?_
    refine lv_aload_n X.1 X.2.1 dX12_count_215 rfl (lv_at hl 2 rfl) ?_
    refine r_get (v := .int 0) X hw hat_mo 1 (by decide) rfl inn_X12_count_12 (by decide) (X.2.2.2.1 (.fieldLink RX12 165 "SilkMillModel" "lots" "I") (by decide +kernel)) rfl ((gv_1201 _ _).trans (congrArg (fun z => some (Value.int z)) ci_1201)) dX12_count_216 ?_
    refine lv_imul X.1 X.2.1 dX12_count_219 ?_
    refine lv_topi (fun v_5 ev_5 => ?_)
    obtain rfl : v_5 = 0 := ev_5.trans (by decide +kernel)
    refine lv_icmp_ge (tgt := 275) X.1 X.2.1 dX12_count_220 (by decide) (fun c_220 => ?_) (fun c_220 => absurd c_220 (by decide))
    refine lv_iload_n X.1 X.2.1 dX12_count_275 rfl (lv_at hl 1 rfl) ?_
    exact ret_i X hw hr hlocks (Nat.le_of_ble_eq_true rfl) (Nat.le_of_ble_eq_true rfl) (by unfold cntV; first | rw [if_pos (by omega)] | rw [if_neg (by omega)]) dX12_count_276
  · refine lv_tableIn (tgt := 277) X.1 X.2.1 dX12_count_8 (by omega) (by omega) (by rw [w3_8]; rfl) (by decide) ?_
    refine lv_iconst (v := 0) X.1 X.2.1 dX12_count_277 (by decide) ?_
    refine lv_istore_n (lv' := [(3, .int 0), (2, .int 0), (0, .ref mo), (1, .int (a1))]) X.1 X.2.1 dX12_count_278 rfl hl (by decide) rfl (fun ls hl => ?_)
    refine lv_iload_n X.1 X.2.1 dX12_count_279 rfl (lv_at hl 0 rfl) ?_
    refine lv_bipush (v := 16) X.1 X.2.1 dX12_count_280 (by decide) ?_
    refine lv_icmp_ge (tgt := 308) X.1 X.2.1 dX12_count_282 (by decide) (fun c_282 => absurd c_282 (by decide)) (fun c_282 => ?_)
    refine lv_iload_n X.1 X.2.1 dX12_count_285 rfl (lv_at hl 1 rfl) ?_
    refine lv_aload_n X.1 X.2.1 dX12_count_286 rfl (lv_at hl 2 rfl) ?_
    refine r_getR (g := 1253) X hw hat_mo 53 rf_q1253 (by decide) rfl inn_X12_count_12 (by decide) (X.2.2.2.1 (.fieldLink RX12 125 "SilkMillModel" "isLaid" "[Z") (by decide +kernel)) rfl (gv_1253 _ _) dX12_count_287 ?_
    refine lv_iload_n X.1 X.2.1 dX12_count_290 rfl (lv_at hl 0 rfl) ?_
    refine r_zald X hw hat_q1253 (by rw [ln_q1253]; exact vp_in_iff.mpr (by decide +kernel)) dX12_count_291 ?_
    refine lv_topi (fun v_6 ev_6 => ?_)
    obtain rfl : v_6 = 0 := ev_6.trans (hz _)
    refine lv_if_eq (tgt := 299) X.1 X.2.1 dX12_count_292 (by decide) (fun c_292 => ?_) (fun c_292 => absurd c_292 (by decide))
    refine lv_iconst (v := 0) X.1 X.2.1 dX12_count_299 (by decide) ?_
    refine lv_iadd X.1 X.2.1 dX12_count_300 ?_
    refine lv_topi (fun v_7 ev_7 => ?_)
    obtain rfl : v_7 = 0 := ev_7.trans (by decide +kernel)
    refine lv_istore_n (lv' := [(2, .int 0), (3, .int 0), (0, .ref mo), (1, .int (a1))]) X.1 X.2.1 dX12_count_301 rfl hl (by decide) rfl (fun ls hl => ?_)
    refine lv_iinc (v := 1) (lv' := [(3, .int 1), (2, .int 0), (0, .ref mo), (1, .int (a1))]) X.1 X.2.1 dX12_count_302 hl (k := 1) rfl (by decide) (by decide) rfl (fun ls hl => ?_)
    refine lv_goto (tgt := 279) X.1 X.2.1 dX12_count_305 (by decide) ?_
    refine lv_iload_n X.1 X.2.1 dX12_count_279 rfl (lv_at hl 0 rfl) ?_
    refine lv_bipush (v := 16) X.1 X.2.1 dX12_count_280 (by decide) ?_
    refine lv_icmp_ge (tgt := 308) X.1 X.2.1 dX12_count_282 (by decide) (fun c_282 => absurd c_282 (by decide)) (fun c_282 => ?_)
    refine lv_iload_n X.1 X.2.1 dX12_count_285 rfl (lv_at hl 1 rfl) ?_
    refine lv_aload_n X.1 X.2.1 dX12_count_286 rfl (lv_at hl 2 rfl) ?_
    refine r_getR (g := 1253) X hw hat_mo 53 rf_q1253 (by decide) rfl inn_X12_count_12 (by decide) (X.2.2.2.1 (.fieldLink RX12 125 "SilkMillModel" "isLaid" "[Z") (by decide +kernel)) rfl (gv_1253 _ _) dX12_count_287 ?_
    refine lv_iload_n X.1 X.2.1 dX12_count_290 rfl (lv_at hl 0 rfl) ?_
    refine r_zald X hw hat_q1253 (by rw [ln_q1253]; exact vp_in_iff.mpr (by decide +kernel)) dX12_count_291 ?_
    refine lv_topi (fun v_8 ev_8 => ?_)
    obtain rfl : v_8 = 0 := ev_8.trans (hz _)
    refine lv_if_eq (tgt := 299) X.1 X.2.1 dX12_count_292 (by decide) (fun c_292 => ?_) (fun c_292 => absurd c_292 (by decide))
    refine lv_iconst (v := 0) X.1 X.2.1 dX12_count_299 (by decide) ?_
    refine lv_iadd X.1 X.2.1 dX12_count_300 ?_
    refine lv_topi (fun v_9 ev_9 => ?_)
    obtain rfl : v_9 = 0 := ev_9.trans (by decide +kernel)
    refine lv_istore_n (lv' := [(2, .int 0), (3, .int 1), (0, .ref mo), (1, .int (a1))]) X.1 X.2.1 dX12_count_301 rfl hl (by decide) rfl (fun ls hl => ?_)
    refine lv_iinc (v := 2) (lv' := [(3, .int 2), (2, .int 0), (0, .ref mo), (1, .int (a1))]) X.1 X.2.1 dX12_count_302 hl (k := 1) rfl (by decide) (by decide) rfl (fun ls hl => ?_)
    refine lv_goto (tgt := 279) X.1 X.2.1 dX12_count_305 (by decide) ?_
    refine lv_iload_n X.1 X.2.1 dX12_count_279 rfl (lv_at hl 0 rfl) ?_
    refine lv_bipush (v := 16) X.1 X.2.1 dX12_count_280 (by decide) ?_
    refine lv_icmp_ge (tgt := 308) X.1 X.2.1 dX12_count_282 (by decide) (fun c_282 => absurd c_282 (by decide)) (fun c_282 => ?_)
    refine lv_iload_n X.1 X.2.1 dX12_count_285 rfl (lv_at hl 1 rfl) ?_
    refine lv_aload_n X.1 X.2.1 dX12_count_286 rfl (lv_at hl 2 rfl) ?_
    refine r_getR (g := 1253) X hw hat_mo 53 rf_q1253 (by decide) rfl inn_X12_count_12 (by decide) (X.2.2.2.1 (.fieldLink RX12 125 "SilkMillModel" "isLaid" "[Z") (by decide +kernel)) rfl (gv_1253 _ _) dX12_count_287 ?_
    refine lv_iload_n X.1 X.2.1 dX12_count_290 rfl (lv_at hl 0 rfl) ?_
    refine r_zald X hw hat_q1253 (by rw [ln_q1253]; exact vp_in_iff.mpr (by decide +kernel)) dX12_count_291 ?_
    refine lv_topi (fun v_10 ev_10 => ?_)
    obtain rfl : v_10 = 0 := ev_10.trans (hz _)
    refine lv_if_eq (tgt := 299) X.1 X.2.1 dX12_count_292 (by decide) (fun c_292 => ?_) (fun c_292 => absurd c_292 (by decide))
    refine lv_iconst (v := 0) X.1 X.2.1 dX12_count_299 (by decide) ?_
    refine lv_iadd X.1 X.2.1 dX12_count_300 ?_
    refine lv_topi (fun v_11 ev_11 => ?_)
    obtain rfl : v_11 = 0 := ev_11.trans (by decide +kernel)
    refine lv_istore_n (lv' := [(2, .int 0), (3, .int 2), (0, .ref mo), (1, .int (a1))]) X.1 X.2.1 dX12_count_301 rfl hl (by decide) rfl (fun ls hl => ?_)
    refine lv_iinc (v := 3) (lv' := [(3, .int 3), (2, .int 0), (0, .ref mo), (1, .int (a1))]) X.1 X.2.1 dX12_count_302 hl (k := 1) rfl (by decide) (by decide) rfl (fun ls hl => ?_)
    refine lv_goto (tgt := 279) X.1 X.2.1 dX12_count_305 (by decide) ?_
    refine lv_iload_n X.1 X.2.1 dX12_count_279 rfl (lv_at hl 0 rfl) ?_
    refine lv_bipush (v := 16) X.1 X.2.1 dX12_count_280 (by decide) ?_
    refine lv_icmp_ge (tgt := 308) X.1 X.2.1 dX12_count_282 (by decide) (fun c_282 => absurd c_282 (by decide)) (fun c_282 => ?_)
    refine lv_iload_n X.1 X.2.1 dX12_count_285 rfl (lv_at hl 1 rfl) ?_
    refine lv_aload_n X.1 X.2.1 dX12_count_286 rfl (lv_at hl 2 rfl) ?_
    refine r_getR (g := 1253) X hw hat_mo 53 rf_q1253 (by decide) rfl inn_X12_count_12 (by decide) (X.2.2.2.1 (.fieldLink RX12 125 "SilkMillModel" "isLaid" "[Z") (by decide +kernel)) rfl (gv_1253 _ _) dX12_count_287 ?_
    refine lv_iload_n X.1 X.2.1 dX12_count_290 rfl (lv_at hl 0 rfl) ?_
    refine r_zald X hw hat_q1253 (by rw [ln_q1253]; exact vp_in_iff.mpr (by decide +kernel)) dX12_count_291 ?_
    refine lv_topi (fun v_12 ev_12 => ?_)
    obtain rfl : v_12 = 0 := ev_12.trans (hz _)
    refine lv_if_eq (tgt := 299) X.1 X.2.1 dX12_count_292 (by decide) (fun c_292 => ?_) (fun c_292 => absurd c_292 (by decide))
    refine lv_iconst (v := 0) X.1 X.2.1 dX12_count_299 (by decide) ?_
    refine lv_iadd X.1 X.2.1 dX12_count_300 ?_
    refine lv_topi (fun v_13 ev_13 => ?_)
    obtain rfl : v_13 = 0 := ev_13.trans (by decide +kernel)
    refine lv_istore_n (lv' := [(2, .int 0), (3, .int 3), (0, .ref mo), (1, .int (a1))]) X.1 X.2.1 dX12_count_301 rfl hl (by decide) rfl (fun ls hl => ?_)
    refine lv_iinc (v := 4) (lv' := [(3, .int 4), (2, .int 0), (0, .ref mo), (1, .int (a1))]) X.1 X.2.1 dX12_count_302 hl (k := 1) rfl (by decide) (by decide) rfl (fun ls hl => ?_)
    refine lv_goto (tgt := 279) X.1 X.2.1 dX12_count_305 (by decide) ?_
    refine lv_iload_n X.1 X.2.1 dX12_count_279 rfl (lv_at hl 0 rfl) ?_
    refine lv_bipush (v := 16) X.1 X.2.1 dX12_count_280 (by decide) ?_
    refine lv_icmp_ge (tgt := 308) X.1 X.2.1 dX12_count_282 (by decide) (fun c_282 => absurd c_282 (by decide)) (fun c_282 => ?_)
    refine lv_iload_n X.1 X.2.1 dX12_count_285 rfl (lv_at hl 1 rfl) ?_
    refine lv_aload_n X.1 X.2.1 dX12_count_286 rfl (lv_at hl 2 rfl) ?_
    refine r_getR (g := 1253) X hw hat_mo 53 rf_q1253 (by decide) rfl inn_X12_count_12 (by decide) (X.2.2.2.1 (.fieldLink RX12 125 "SilkMillModel" "isLaid" "[Z") (by decide +kernel)) rfl (gv_1253 _ _) dX12_count_287 ?_
    refine lv_iload_n X.1 X.2.1 dX12_count_290 rfl (lv_at hl 0 rfl) ?_
    refine r_zald X hw hat_q1253 (by rw [ln_q1253]; exact vp_in_iff.mpr (by decide +kernel)) dX12_count_291 ?_
    refine lv_topi (fun v_14 ev_14 => ?_)
    obtain rfl : v_14 = 0 := ev_14.trans (hz _)
    refine lv_if_eq (tgt := 299) X.1 X.2.1 dX12_count_292 (by decide) (fun c_292 => ?_) (fun c_292 => absurd c_292 (by decide))
    refine lv_iconst (v := 0) X.1 X.2.1 dX12_count_299 (by decide) ?_
    refine lv_iadd X.1 X.2.1 dX12_count_300 ?_
    refine lv_topi (fun v_15 ev_15 => ?_)
    obtain rfl : v_15 = 0 := ev_15.trans (by decide +kernel)
    refine lv_istore_n (lv' := [(2, .int 0), (3, .int 4), (0, .ref mo), (1, .int (a1))]) X.1 X.2.1 dX12_count_301 rfl hl (by decide) rfl (fun ls hl => ?_)
    refine lv_iinc (v := 5) (lv' := [(3, .int 5), (2, .int 0), (0, .ref mo), (1, .int (a1))]) X.1 X.2.1 dX12_count_302 hl (k := 1) rfl (by decide) (by decide) rfl (fun ls hl => ?_)
    refine lv_goto (tgt := 279) X.1 X.2.1 dX12_count_305 (by decide) ?_
    refine lv_iload_n X.1 X.2.1 dX12_count_279 rfl (lv_at hl 0 rfl) ?_
    refine lv_bipush (v := 16) X.1 X.2.1 dX12_count_280 (by decide) ?_
    refine lv_icmp_ge (tgt := 308) X.1 X.2.1 dX12_count_282 (by decide) (fun c_282 => absurd c_282 (by decide)) (fun c_282 => ?_)
    refine lv_iload_n X.1 X.2.1 dX12_count_285 rfl (lv_at hl 1 rfl) ?_
    refine lv_aload_n X.1 X.2.1 dX12_count_286 rfl (lv_at hl 2 rfl) ?_
    refine r_getR (g := 1253) X hw hat_mo 53 rf_q1253 (by decide) rfl inn_X12_count_12 (by decide) (X.2.2.2.1 (.fieldLink RX12 125 "SilkMillModel" "isLaid" "[Z") (by decide +kernel)) rfl (gv_1253 _ _) dX12_count_287 ?_
    refine lv_iload_n X.1 X.2.1 dX12_count_290 rfl (lv_at hl 0 rfl) ?_
    refine r_zald X hw hat_q1253 (by rw [ln_q1253]; exact vp_in_iff.mpr (by decide +kernel)) dX12_count_291 ?_
    refine lv_topi (fun v_16 ev_16 => ?_)
    obtain rfl : v_16 = 0 := ev_16.trans (hz _)
    refine lv_if_eq (tgt := 299) X.1 X.2.1 dX12_count_292 (by decide) (fun c_292 => ?_) (fun c_292 => absurd c_292 (by decide))
    refine lv_iconst (v := 0) X.1 X.2.1 dX12_count_299 (by decide) ?_
    refine lv_iadd X.1 X.2.1 dX12_count_300 ?_
    refine lv_topi (fun v_17 ev_17 => ?_)
    obtain rfl : v_17 = 0 := ev_17.trans (by decide +kernel)
    refine lv_istore_n (lv' := [(2, .int 0), (3, .int 5), (0, .ref mo), (1, .int (a1))]) X.1 X.2.1 dX12_count_301 rfl hl (by decide) rfl (fun ls hl => ?_)
    refine lv_iinc (v := 6) (lv' := [(3, .int 6), (2, .int 0), (0, .ref mo), (1, .int (a1))]) X.1 X.2.1 dX12_count_302 hl (k := 1) rfl (by decide) (by decide) rfl (fun ls hl => ?_)
    refine lv_goto (tgt := 279) X.1 X.2.1 dX12_count_305 (by decide) ?_
    refine lv_iload_n X.1 X.2.1 dX12_count_279 rfl (lv_at hl 0 rfl) ?_
    refine lv_bipush (v := 16) X.1 X.2.1 dX12_count_280 (by decide) ?_
    refine lv_icmp_ge (tgt := 308) X.1 X.2.1 dX12_count_282 (by decide) (fun c_282 => absurd c_282 (by decide)) (fun c_282 => ?_)
    refine lv_iload_n X.1 X.2.1 dX12_count_285 rfl (lv_at hl 1 rfl) ?_
    refine lv_aload_n X.1 X.2.1 dX12_count_286 rfl (lv_at hl 2 rfl) ?_
    refine r_getR (g := 1253) X hw hat_mo 53 rf_q1253 (by decide) rfl inn_X12_count_12 (by decide) (X.2.2.2.1 (.fieldLink RX12 125 "SilkMillModel" "isLaid" "[Z") (by decide +kernel)) rfl (gv_1253 _ _) dX12_count_287 ?_
    refine lv_iload_n X.1 X.2.1 dX12_count_290 rfl (lv_at hl 0 rfl) ?_
    refine r_zald X hw hat_q1253 (by rw [ln_q1253]; exact vp_in_iff.mpr (by decide +kernel)) dX12_count_291 ?_
    refine lv_topi (fun v_18 ev_18 => ?_)
    obtain rfl : v_18 = 0 := ev_18.trans (hz _)
    refine lv_if_eq (tgt := 299) X.1 X.2.1 dX12_count_292 (by decide) (fun c_292 => ?_) (fun c_292 => absurd c_292 (by decide))
    refine lv_iconst (v := 0) X.1 X.2.1 dX12_count_299 (by decide) ?_
    refine lv_iadd X.1 X.2.1 dX12_count_300 ?_
    refine lv_topi (fun v_19 ev_19 => ?_)
    obtain rfl : v_19 = 0 := ev_19.trans (by decide +kernel)
    refine lv_istore_n (lv' := [(2, .int 0), (3, .int 6), (0, .ref mo), (1, .int (a1))]) X.1 X.2.1 dX12_count_301 rfl hl (by decide) rfl (fun ls hl => ?_)
    refine lv_iinc (v := 7) (lv' := [(3, .int 7), (2, .int 0), (0, .ref mo), (1, .int (a1))]) X.1 X.2.1 dX12_count_302 hl (k := 1) rfl (by decide) (by decide) rfl (fun ls hl => ?_)
    refine lv_goto (tgt := 279) X.1 X.2.1 dX12_count_305 (by decide) ?_
    refine lv_iload_n X.1 X.2.1 dX12_count_279 rfl (lv_at hl 0 rfl) ?_
    refine lv_bipush (v := 16) X.1 X.2.1 dX12_count_280 (by decide) ?_
    refine lv_icmp_ge (tgt := 308) X.1 X.2.1 dX12_count_282 (by decide) (fun c_282 => absurd c_282 (by decide)) (fun c_282 => ?_)
    refine lv_iload_n X.1 X.2.1 dX12_count_285 rfl (lv_at hl 1 rfl) ?_
    refine lv_aload_n X.1 X.2.1 dX12_count_286 rfl (lv_at hl 2 rfl) ?_
    refine r_getR (g := 1253) X hw hat_mo 53 rf_q1253 (by decide) rfl inn_X12_count_12 (by decide) (X.2.2.2.1 (.fieldLink RX12 125 "SilkMillModel" "isLaid" "[Z") (by decide +kernel)) rfl (gv_1253 _ _) dX12_count_287 ?_
    refine lv_iload_n X.1 X.2.1 dX12_count_290 rfl (lv_at hl 0 rfl) ?_
    refine r_zald X hw hat_q1253 (by rw [ln_q1253]; exact vp_in_iff.mpr (by decide +kernel)) dX12_count_291 ?_
    refine lv_topi (fun v_20 ev_20 => ?_)
    obtain rfl : v_20 = 0 := ev_20.trans (hz _)
    refine lv_if_eq (tgt := 299) X.1 X.2.1 dX12_count_292 (by decide) (fun c_292 => ?_) (fun c_292 => absurd c_292 (by decide))
    refine lv_iconst (v := 0) X.1 X.2.1 dX12_count_299 (by decide) ?_
    refine lv_iadd X.1 X.2.1 dX12_count_300 ?_
    refine lv_topi (fun v_21 ev_21 => ?_)
    obtain rfl : v_21 = 0 := ev_21.trans (by decide +kernel)
    refine lv_istore_n (lv' := [(2, .int 0), (3, .int 7), (0, .ref mo), (1, .int (a1))]) X.1 X.2.1 dX12_count_301 rfl hl (by decide) rfl (fun ls hl => ?_)
    refine lv_iinc (v := 8) (lv' := [(3, .int 8), (2, .int 0), (0, .ref mo), (1, .int (a1))]) X.1 X.2.1 dX12_count_302 hl (k := 1) rfl (by decide) (by decide) rfl (fun ls hl => ?_)
    refine lv_goto (tgt := 279) X.1 X.2.1 dX12_count_305 (by decide) ?_
    refine lv_iload_n X.1 X.2.1 dX12_count_279 rfl (lv_at hl 0 rfl) ?_
    refine lv_bipush (v := 16) X.1 X.2.1 dX12_count_280 (by decide) ?_
    refine lv_icmp_ge (tgt := 308) X.1 X.2.1 dX12_count_282 (by decide) (fun c_282 => absurd c_282 (by decide)) (fun c_282 => ?_)
    refine lv_iload_n X.1 X.2.1 dX12_count_285 rfl (lv_at hl 1 rfl) ?_
    refine lv_aload_n X.1 X.2.1 dX12_count_286 rfl (lv_at hl 2 rfl) ?_
    refine r_getR (g := 1253) X hw hat_mo 53 rf_q1253 (by decide) rfl inn_X12_count_12 (by decide) (X.2.2.2.1 (.fieldLink RX12 125 "SilkMillModel" "isLaid" "[Z") (by decide +kernel)) rfl (gv_1253 _ _) dX12_count_287 ?_
    refine lv_iload_n X.1 X.2.1 dX12_count_290 rfl (lv_at hl 0 rfl) ?_
    refine r_zald X hw hat_q1253 (by rw [ln_q1253]; exact vp_in_iff.mpr (by decide +kernel)) dX12_count_291 ?_
    refine lv_topi (fun v_22 ev_22 => ?_)
    obtain rfl : v_22 = 0 := ev_22.trans (hz _)
    refine lv_if_eq (tgt := 299) X.1 X.2.1 dX12_count_292 (by decide) (fun c_292 => ?_) (fun c_292 => absurd c_292 (by decide))
    refine lv_iconst (v := 0) X.1 X.2.1 dX12_count_299 (by decide) ?_
    refine lv_iadd X.1 X.2.1 dX12_count_300 ?_
    refine lv_topi (fun v_23 ev_23 => ?_)
    obtain rfl : v_23 = 0 := ev_23.trans (by decide +kernel)
    refine lv_istore_n (lv' := [(2, .int 0), (3, .int 8), (0, .ref mo), (1, .int (a1))]) X.1 X.2.1 dX12_count_301 rfl hl (by decide) rfl (fun ls hl => ?_)
    refine lv_iinc (v := 9) (lv' := [(3, .int 9), (2, .int 0), (0, .ref mo), (1, .int (a1))]) X.1 X.2.1 dX12_count_302 hl (k := 1) rfl (by decide) (by decide) rfl (fun ls hl => ?_)
    refine lv_goto (tgt := 279) X.1 X.2.1 dX12_count_305 (by decide) ?_
    refine lv_iload_n X.1 X.2.1 dX12_count_279 rfl (lv_at hl 0 rfl) ?_
    refine lv_bipush (v := 16) X.1 X.2.1 dX12_count_280 (by decide) ?_
    refine lv_icmp_ge (tgt := 308) X.1 X.2.1 dX12_count_282 (by decide) (fun c_282 => absurd c_282 (by decide)) (fun c_282 => ?_)
    refine lv_iload_n X.1 X.2.1 dX12_count_285 rfl (lv_at hl 1 rfl) ?_
    refine lv_aload_n X.1 X.2.1 dX12_count_286 rfl (lv_at hl 2 rfl) ?_
    refine r_getR (g := 1253) X hw hat_mo 53 rf_q1253 (by decide) rfl inn_X12_count_12 (by decide) (X.2.2.2.1 (.fieldLink RX12 125 "SilkMillModel" "isLaid" "[Z") (by decide +kernel)) rfl (gv_1253 _ _) dX12_count_287 ?_
    refine lv_iload_n X.1 X.2.1 dX12_count_290 rfl (lv_at hl 0 rfl) ?_
    refine r_zald X hw hat_q1253 (by rw [ln_q1253]; exact vp_in_iff.mpr (by decide +kernel)) dX12_count_291 ?_
    refine lv_topi (fun v_24 ev_24 => ?_)
    obtain rfl : v_24 = 0 := ev_24.trans (hz _)
    refine lv_if_eq (tgt := 299) X.1 X.2.1 dX12_count_292 (by decide) (fun c_292 => ?_) (fun c_292 => absurd c_292 (by decide))
    refine lv_iconst (v := 0) X.1 X.2.1 dX12_count_299 (by decide) ?_
    refine lv_iadd X.1 X.2.1 dX12_count_300 ?_
    refine lv_topi (fun v_25 ev_25 => ?_)
    obtain rfl : v_25 = 0 := ev_25.trans (by decide +kernel)
    refine lv_istore_n (lv' := [(2, .int 0), (3, .int 9), (0, .ref mo), (1, .int (a1))]) X.1 X.2.1 dX12_count_301 rfl hl (by decide) rfl (fun ls hl => ?_)
    refine lv_iinc (v := 10) (lv' := [(3, .int 10), (2, .int 0), (0, .ref mo), (1, .int (a1))]) X.1 X.2.1 dX12_count_302 hl (k := 1) rfl (by decide) (by decide) rfl (fun ls hl => ?_)
    refine lv_goto (tgt := 279) X.1 X.2.1 dX12_count_305 (by decide) ?_
    refine lv_iload_n X.1 X.2.1 dX12_count_279 rfl (lv_at hl 0 rfl) ?_
    refine lv_bipush (v := 16) X.1 X.2.1 dX12_count_280 (by decide) ?_
    refine lv_icmp_ge (tgt := 308) X.1 X.2.1 dX12_count_282 (by decide) (fun c_282 => absurd c_282 (by decide)) (fun c_282 => ?_)
    refine lv_iload_n X.1 X.2.1 dX12_count_285 rfl (lv_at hl 1 rfl) ?_
    refine lv_aload_n X.1 X.2.1 dX12_count_286 rfl (lv_at hl 2 rfl) ?_
    refine r_getR (g := 1253) X hw hat_mo 53 rf_q1253 (by decide) rfl inn_X12_count_12 (by decide) (X.2.2.2.1 (.fieldLink RX12 125 "SilkMillModel" "isLaid" "[Z") (by decide +kernel)) rfl (gv_1253 _ _) dX12_count_287 ?_
    refine lv_iload_n X.1 X.2.1 dX12_count_290 rfl (lv_at hl 0 rfl) ?_
    refine r_zald X hw hat_q1253 (by rw [ln_q1253]; exact vp_in_iff.mpr (by decide +kernel)) dX12_count_291 ?_
    refine lv_topi (fun v_26 ev_26 => ?_)
    obtain rfl : v_26 = 0 := ev_26.trans (hz _)
    refine lv_if_eq (tgt := 299) X.1 X.2.1 dX12_count_292 (by decide) (fun c_292 => ?_) (fun c_292 => absurd c_292 (by decide))
    refine lv_iconst (v := 0) X.1 X.2.1 dX12_count_299 (by decide) ?_
    refine lv_iadd X.1 X.2.1 dX12_count_300 ?_
    refine lv_topi (fun v_27 ev_27 => ?_)
    obtain rfl : v_27 = 0 := ev_27.trans (by decide +kernel)
    refine lv_istore_n (lv' := [(2, .int 0), (3, .int 10), (0, .ref mo), (1, .int (a1))]) X.1 X.2.1 dX12_count_301 rfl hl (by decide) rfl (fun ls hl => ?_)
    refine lv_iinc (v := 11) (lv' := [(3, .int 11), (2, .int 0), (0, .ref mo), (1, .int (a1))]) X.1 X.2.1 dX12_count_302 hl (k := 1) rfl (by decide) (by decide) rfl (fun ls hl => ?_)
    refine lv_goto (tgt := 279) X.1 X.2.1 dX12_count_305 (by decide) ?_
    refine lv_iload_n X.1 X.2.1 dX12_count_279 rfl (lv_at hl 0 rfl) ?_
    refine lv_bipush (v := 16) X.1 X.2.1 dX12_count_280 (by decide) ?_
    refine lv_icmp_ge (tgt := 308) X.1 X.2.1 dX12_count_282 (by decide) (fun c_282 => absurd c_282 (by decide)) (fun c_282 => ?_)
    refine lv_iload_n X.1 X.2.1 dX12_count_285 rfl (lv_at hl 1 rfl) ?_
    refine lv_aload_n X.1 X.2.1 dX12_count_286 rfl (lv_at hl 2 rfl) ?_
    refine r_getR (g := 1253) X hw hat_mo 53 rf_q1253 (by decide) rfl inn_X12_count_12 (by decide) (X.2.2.2.1 (.fieldLink RX12 125 "SilkMillModel" "isLaid" "[Z") (by decide +kernel)) rfl (gv_1253 _ _) dX12_count_287 ?_
    refine lv_iload_n X.1 X.2.1 dX12_count_290 rfl (lv_at hl 0 rfl) ?_
    refine r_zald X hw hat_q1253 (by rw [ln_q1253]; exact vp_in_iff.mpr (by decide +kernel)) dX12_count_291 ?_
    refine lv_topi (fun v_28 ev_28 => ?_)
    obtain rfl : v_28 = 0 := ev_28.trans (hz _)
    refine lv_if_eq (tgt := 299) X.1 X.2.1 dX12_count_292 (by decide) (fun c_292 => ?_) (fun c_292 => absurd c_292 (by decide))
    refine lv_iconst (v := 0) X.1 X.2.1 dX12_count_299 (by decide) ?_
    refine lv_iadd X.1 X.2.1 dX12_count_300 ?_
    refine lv_topi (fun v_29 ev_29 => ?_)
    obtain rfl : v_29 = 0 := ev_29.trans (by decide +kernel)
    refine lv_istore_n (lv' := [(2, .int 0), (3, .int 11), (0, .ref mo), (1, .int (a1))]) X.1 X.2.1 dX12_count_301 rfl hl (by decide) rfl (fun ls hl => ?_)
    refine lv_iinc (v := 12) (lv' := [(3, .int 12), (2, .int 0), (0, .ref mo), (1, .int (a1))]) X.1 X.2.1 dX12_count_302 hl (k := 1) rfl (by decide) (by decide) rfl (fun ls hl => ?_)
    refine lv_goto (tgt := 279) X.1 X.2.1 dX12_count_305 (by decide) ?_
    refine lv_iload_n X.1 X.2.1 dX12_count_279 rfl (lv_at hl 0 rfl) ?_
    refine lv_bipush (v := 16) X.1 X.2.1 dX12_count_280 (by decide) ?_
    refine lv_icmp_ge (tgt := 308) X.1 X.2.1 dX12_count_282 (by decide) (fun c_282 => absurd c_282 (by decide)) (fun c_282 => ?_)
    refine lv_iload_n X.1 X.2.1 dX12_count_285 rfl (lv_at hl 1 rfl) ?_
    refine lv_aload_n X.1 X.2.1 dX12_count_286 rfl (lv_at hl 2 rfl) ?_
    refine r_getR (g := 1253) X hw hat_mo 53 rf_q1253 (by decide) rfl inn_X12_count_12 (by decide) (X.2.2.2.1 (.fieldLink RX12 125 "SilkMillModel" "isLaid" "[Z") (by decide +kernel)) rfl (gv_1253 _ _) dX12_count_287 ?_
    refine lv_iload_n X.1 X.2.1 dX12_count_290 rfl (lv_at hl 0 rfl) ?_
    refine r_zald X hw hat_q1253 (by rw [ln_q1253]; exact vp_in_iff.mpr (by decide +kernel)) dX12_count_291 ?_
    refine lv_topi (fun v_30 ev_30 => ?_)
    obtain rfl : v_30 = 0 := ev_30.trans (hz _)
    refine lv_if_eq (tgt := 299) X.1 X.2.1 dX12_count_292 (by decide) (fun c_292 => ?_) (fun c_292 => absurd c_292 (by decide))
    refine lv_iconst (v := 0) X.1 X.2.1 dX12_count_299 (by decide) ?_
    refine lv_iadd X.1 X.2.1 dX12_count_300 ?_
    refine lv_topi (fun v_31 ev_31 => ?_)
    obtain rfl : v_31 = 0 := ev_31.trans (by decide +kernel)
    refine lv_istore_n (lv' := [(2, .int 0), (3, .int 12), (0, .ref mo), (1, .int (a1))]) X.1 X.2.1 dX12_count_301 rfl hl (by decide) rfl (fun ls hl => ?_)
    refine lv_iinc (v := 13) (lv' := [(3, .int 13), (2, .int 0), (0, .ref mo), (1, .int (a1))]) X.1 X.2.1 dX12_count_302 hl (k := 1) rfl (by decide) (by decide) rfl (fun ls hl => ?_)
    refine lv_goto (tgt := 279) X.1 X.2.1 dX12_count_305 (by decide) ?_
    refine lv_iload_n X.1 X.2.1 dX12_count_279 rfl (lv_at hl 0 rfl) ?_
    refine lv_bipush (v := 16) X.1 X.2.1 dX12_count_280 (by decide) ?_
    refine lv_icmp_ge (tgt := 308) X.1 X.2.1 dX12_count_282 (by decide) (fun c_282 => absurd c_282 (by decide)) (fun c_282 => ?_)
    refine lv_iload_n X.1 X.2.1 dX12_count_285 rfl (lv_at hl 1 rfl) ?_
    refine lv_aload_n X.1 X.2.1 dX12_count_286 rfl (lv_at hl 2 rfl) ?_
    refine r_getR (g := 1253) X hw hat_mo 53 rf_q1253 (by decide) rfl inn_X12_count_12 (by decide) (X.2.2.2.1 (.fieldLink RX12 125 "SilkMillModel" "isLaid" "[Z") (by decide +kernel)) rfl (gv_1253 _ _) dX12_count_287 ?_
    refine lv_iload_n X.1 X.2.1 dX12_count_290 rfl (lv_at hl 0 rfl) ?_
    refine r_zald X hw hat_q1253 (by rw [ln_q1253]; exact vp_in_iff.mpr (by decide +kernel)) dX12_count_291 ?_
    refine lv_topi (fun v_32 ev_32 => ?_)
    obtain rfl : v_32 = 0 := ev_32.trans (hz _)
    refine lv_if_eq (tgt := 299) X.1 X.2.1 dX12_count_292 (by decide) (fun c_292 => ?_) (fun c_292 => absurd c_292 (by decide))
    refine lv_iconst (v := 0) X.1 X.2.1 dX12_count_299 (by decide) ?_
    refine lv_iadd X.1 X.2.1 dX12_count_300 ?_
    refine lv_topi (fun v_33 ev_33 => ?_)
    obtain rfl : v_33 = 0 := ev_33.trans (by decide +kernel)
    refine lv_istore_n (lv' := [(2, .int 0), (3, .int 13), (0, .ref mo), (1, .int (a1))]) X.1 X.2.1 dX12_count_301 rfl hl (by decide) rfl (fun ls hl => ?_)
    refine lv_iinc (v := 14) (lv' := [(3, .int 14), (2, .int 0), (0, .ref mo), (1, .int (a1))]) X.1 X.2.1 dX12_count_302 hl (k := 1) rfl (by decide) (by decide) rfl (fun ls hl => ?_)
    refine lv_goto (tgt := 279) X.1 X.2.1 dX12_count_305 (by decide) ?_
    refine lv_iload_n X.1 X.2.1 dX12_count_279 rfl (lv_at hl 0 rfl) ?_
    refine lv_bipush (v := 16) X.1 X.2.1 dX12_count_280 (by decide) ?_
    refine lv_icmp_ge (tgt := 308) X.1 X.2.1 dX12_count_282 (by decide) (fun c_282 => absurd c_282 (by decide)) (fun c_282 => ?_)
    refine lv_iload_n X.1 X.2.1 dX12_count_285 rfl (lv_at hl 1 rfl) ?_
    refine lv_aload_n X.1 X.2.1 dX12_count_286 rfl (lv_at hl 2 rfl) ?_
    refine r_getR (g := 1253) X hw hat_mo 53 rf_q1253 (by decide) rfl inn_X12_count_12 (by decide) (X.2.2.2.1 (.fieldLink RX12 125 "SilkMillModel" "isLaid" "[Z") (by decide +kernel)) rfl (gv_1253 _ _) dX12_count_287 ?_
    refine lv_iload_n X.1 X.2.1 dX12_count_290 rfl (lv_at hl 0 rfl) ?_
    refine r_zald X hw hat_q1253 (by rw [ln_q1253]; exact vp_in_iff.mpr (by decide +kernel)) dX12_count_291 ?_
    refine lv_topi (fun v_34 ev_34 => ?_)
    obtain rfl : v_34 = 0 := ev_34.trans (hz _)
    refine lv_if_eq (tgt := 299) X.1 X.2.1 dX12_count_292 (by decide) (fun c_292 => ?_) (fun c_292 => absurd c_292 (by decide))
    refine lv_iconst (v := 0) X.1 X.2.1 dX12_count_299 (by decide) ?_
    refine lv_iadd X.1 X.2.1 dX12_count_300 ?_
    refine lv_topi (fun v_35 ev_35 => ?_)
    obtain rfl : v_35 = 0 := ev_35.trans (by decide +kernel)
    refine lv_istore_n (lv' := [(2, .int 0), (3, .int 14), (0, .ref mo), (1, .int (a1))]) X.1 X.2.1 dX12_count_301 rfl hl (by decide) rfl (fun ls hl => ?_)
    refine lv_iinc (v := 15) (lv' := [(3, .int 15), (2, .int 0), (0, .ref mo), (1, .int (a1))]) X.1 X.2.1 dX12_count_302 hl (k := 1) rfl (by decide) (by decide) rfl (fun ls hl => ?_)
    refine lv_goto (tgt := 279) X.1 X.2.1 dX12_count_305 (by decide) ?_
    refine lv_iload_n X.1 X.2.1 dX12_count_279 rfl (lv_at hl 0 rfl) ?_
    refine lv_bipush (v := 16) X.1 X.2.1 dX12_count_280 (by decide) ?_
    refine lv_icmp_ge (tgt := 308) X.1 X.2.1 dX12_count_282 (by decide) (fun c_282 => absurd c_282 (by decide)) (fun c_282 => ?_)
    refine lv_iload_n X.1 X.2.1 dX12_count_285 rfl (lv_at hl 1 rfl) ?_
    refine lv_aload_n X.1 X.2.1 dX12_count_286 rfl (lv_at hl 2 rfl) ?_
    refine r_getR (g := 1253) X hw hat_mo 53 rf_q1253 (by decide) rfl inn_X12_count_12 (by decide) (X.2.2.2.1 (.fieldLink RX12 125 "SilkMillModel" "isLaid" "[Z") (by decide +kernel)) rfl (gv_1253 _ _) dX12_count_287 ?_
    refine lv_iload_n X.1 X.2.1 dX12_count_290 rfl (lv_at hl 0 rfl) ?_
    refine r_zald X hw hat_q1253 (by rw [ln_q1253]; exact vp_in_iff.mpr (by decide +kernel)) dX12_count_291 ?_
    refine lv_topi (fun v_36 ev_36 => ?_)
    obtain rfl : v_36 = 0 := ev_36.trans (hz _)
    refine lv_if_eq (tgt := 299) X.1 X.2.1 dX12_count_292 (by decide) (fun c_292 => ?_) (fun c_292 => absurd c_292 (by decide))
    refine lv_iconst (v := 0) X.1 X.2.1 dX12_count_299 (by decide) ?_
    refine lv_iadd X.1 X.2.1 dX12_count_300 ?_
    refine lv_topi (fun v_37 ev_37 => ?_)
    obtain rfl : v_37 = 0 := ev_37.trans (by decide +kernel)
    refine lv_istore_n (lv' := [(2, .int 0), (3, .int 15), (0, .ref mo), (1, .int (a1))]) X.1 X.2.1 dX12_count_301 rfl hl (by decide) rfl (fun ls hl => ?_)
    refine lv_iinc (v := 16) (lv' := [(3, .int 16), (2, .int 0), (0, .ref mo), (1, .int (a1))]) X.1 X.2.1 dX12_count_302 hl (k := 1) rfl (by decide) (by decide) rfl (fun ls hl => ?_)
    refine lv_goto (tgt := 279) X.1 X.2.1 dX12_count_305 (by decide) ?_
    refine lv_iload_n X.1 X.2.1 dX12_count_279 rfl (lv_at hl 0 rfl) ?_
    refine lv_bipush (v := 16) X.1 X.2.1 dX12_count_280 (by decide) ?_
    refine lv_icmp_ge (tgt := 308) X.1 X.2.1 dX12_count_282 (by decide) (fun c_282 => ?_) (fun c_282 => absurd c_282 (by decide))
    refine lv_iload_n X.1 X.2.1 dX12_count_308 rfl (lv_at hl 1 rfl) ?_
    exact ret_i X hw hr hlocks (Nat.le_of_ble_eq_true rfl) (Nat.le_of_ble_eq_true rfl) (by unfold cntV; first | rw [if_pos (by omega)] | rw [if_neg (by omega)]) dX12_count_309
