set_option maxHeartbeats 4000000 in
set_option maxRecDepth 100000 in
theorem c_X12_feed (l : Launch) (G : va_G) (cy : Nat → ClassId) (S : PS) (sz : Nat) (mo : Nat) (a1 : Int32) (a2 : Int32) (a3 : Int32) (a4 : Int32) (a5 : Int32) (hF : FM S mo) : Ci l yX12_feed wsX12_feed ({ frames := 5, cells := 0, slots := 0, locals := 200 }) G cy S sz [.ref mo, .int (a1), .int (a2), .int (a3), .int (a4), .int (a5)] (fun (r : Int32) (S9 : PS) => r = 20) := by
  refine ent_m (cc := cX12_feed) (maxL := 8) (ret := (some .int)) (by decide) rfl (Nat.le_of_ble_eq_true rfl) ?_
  intro p e s m below meth c ls X hr hlocks hin hw hl hsz
  subst hsz
  have X : Cx p c cX12_feed 8 s [.ref mo, .int (a1), .int (a2), .int (a3), .int (a4), .int (a5)].toArray wsX12_feed RX12 m G cy (AS S s.heap.size) := X
  have hl : lv_has ls 8 [(0, .ref mo), (1, .int (a1)), (2, .int (a2)), (3, .int (a3)), (4, .int (a4)), (5, .int (a5))] := hl
  obtain ⟨hat_mo, hci, ci_1229, hars, hz53, hz39⟩ := hF
  have ci_1228 := hci 1228 (by decide)
  obtain ⟨q1227, rf_q1227, hat_q1227, ln_q1227⟩ := hars (1227, 13, 400) (by decide)
  have rf_q1227 : pR S 1227 mo = some q1227 := rf_q1227
  have hat_q1227 : At S q1227 13 := hat_q1227
  have ln_q1227 : pN S q1227 = 400 := ln_q1227
  refine lv_aload_n X.1 X.2.1 dX12_feed_0 rfl (lv_at hl 0 rfl) ?_
  refine lv_iconst (v := 0) X.1 X.2.1 dX12_feed_1 (by decide) ?_
  refine r_putI (v := 0) X hw hat_mo 0 1200 tyX12 (by decide) rfl inn_X12_feed_12 tyX12_ok nmX12 (by decide) (X.2.2.2.1 (.fieldLink RX12 161 "SilkMillModel" "thrown" "I") (by decide +kernel)) rfl (Or.inl rfl) rfl rfl (Nat.le_of_ble_eq_true rfl) (st_1200 _ _) dX12_feed_2 (fun H locs hw => ?_)
  generalize eS_1 : sI S 1200 mo 0 = S_1 at hw
  have hat_mo : At S_1 mo 12 := by rw [← eS_1]; exact hat_mo
  have hat_q1227 : At S_1 q1227 13 := by rw [← eS_1]; exact hat_q1227
  have rf_q1227 : pR S_1 1227 mo = some q1227 := by rw [← eS_1]; exact rf_q1227
  have ci_1228 : pI S_1 1228 mo = 0 := by rw [← eS_1]; exact (pI_sI_nf (by decide)).trans ci_1228
  have ln_q1227 : pN S_1 q1227 = 400 := by rw [← eS_1]; exact ln_q1227
  have hc_2 : pI S_1 1200 mo = 0 := by rw [← eS_1]; exact pI_sI_same
  refine lv_aload_n X.1 X.2.1 dX12_feed_5 rfl (lv_at hl 0 rfl) ?_
  refine r_get (v := .int 0) X hw hat_mo 28 (by decide) rfl inn_X12_feed_12 (by decide) (X.2.2.2.1 (.fieldLink RX12 211 "SilkMillModel" "taped" "I") (by decide +kernel)) rfl (congrArg (fun z => some (Value.int z)) ci_1228) dX12_feed_6 ?_
  refine lv_sipush (v := 380) X.1 X.2.1 dX12_feed_9 (by decide) ?_
  refine lv_icmp_le (tgt := 17) X.1 X.2.1 dX12_feed_12 (by decide) (fun c_12 => ?_) (fun c_12 => absurd c_12 (by decide))
  refine lv_iconst (v := 0) X.1 X.2.1 dX12_feed_17 (by decide) ?_
  refine lv_istore (lv' := [(6, .int 0), (0, .ref mo), (1, .int (a1)), (2, .int (a2)), (3, .int (a3)), (4, .int (a4)), (5, .int (a5))]) X.1 X.2.1 dX12_feed_18 hl (by decide) rfl (fun ls hl => ?_)
  refine lv_iload X.1 X.2.1 dX12_feed_20 (lv_at hl 0 rfl) ?_
  refine lv_bipush (v := 20) X.1 X.2.1 dX12_feed_22 (by decide) ?_
  refine lv_icmp_ge (tgt := 114) X.1 X.2.1 dX12_feed_24 (by decide) (fun c_24 => absurd c_24 (by decide)) (fun c_24 => ?_)
  refine lv_iload X.1 X.2.1 dX12_feed_27 (lv_at hl 0 rfl) ?_
  refine lv_iconst (v := 4) X.1 X.2.1 dX12_feed_29 (by decide) ?_
  refine lv_icmp_ge (tgt := 37) X.1 X.2.1 dX12_feed_30 (by decide) (fun c_30 => absurd c_30 (by decide)) (fun c_30 => ?_)
  refine lv_iload_n X.1 X.2.1 dX12_feed_33 rfl (lv_at hl 2 rfl) ?_
  refine lv_goto (tgt := 73) X.1 X.2.1 dX12_feed_34 (by decide) ?_
  refine lv_istore (lv' := [(7, .int (a1)), (6, .int 0), (0, .ref mo), (1, .int (a1)), (2, .int (a2)), (3, .int (a3)), (4, .int (a4)), (5, .int (a5))]) X.1 X.2.1 dX12_feed_73 hl (by decide) rfl (fun ls hl => ?_)
  refine lv_aload_n X.1 X.2.1 dX12_feed_75 rfl (lv_at hl 2 rfl) ?_
  refine r_getR (g := 1227) X hw hat_mo 27 rf_q1227 (by decide) rfl inn_X12_feed_12 (by decide) (X.2.2.2.1 (.fieldLink RX12 82 "SilkMillModel" "tape" "[B") (by decide +kernel)) rfl rfl dX12_feed_76 ?_
  refine lv_aload_n X.1 X.2.1 dX12_feed_79 rfl (lv_at hl 2 rfl) ?_
  refine r_get (v := .int 0) X hw hat_mo 28 (by decide) rfl inn_X12_feed_12 (by decide) (X.2.2.2.1 (.fieldLink RX12 211 "SilkMillModel" "taped" "I") (by decide +kernel)) rfl (congrArg (fun z => some (Value.int z)) ci_1228) dX12_feed_80 ?_
  refine lv_iload X.1 X.2.1 dX12_feed_83 (lv_at hl 0 rfl) ?_
  refine lv_bipush (v := 24) X.1 X.2.1 dX12_feed_85 (by decide) ?_
  refine lv_bipush (v := 8) X.1 X.2.1 dX12_feed_87 (by decide) ?_
  refine lv_iload X.1 X.2.1 dX12_feed_89 (lv_at hl 1 rfl) ?_
  refine lv_iconst (v := 4) X.1 X.2.1 dX12_feed_91 (by decide) ?_
  refine lv_irem X.1 X.2.1 dX12_feed_92 (by decide) ?_
  refine lv_topi (fun v_3 ev_3 => ?_)
  obtain rfl : v_3 = 0 := ev_3.trans (by decide)
  refine lv_imul X.1 X.2.1 dX12_feed_93 ?_
  refine lv_topi (fun v_4 ev_4 => ?_)
  obtain rfl : v_4 = 0 := ev_4.trans (by decide)
  refine lv_isub X.1 X.2.1 dX12_feed_94 ?_
  refine lv_topi (fun v_5 ev_5 => ?_)
  obtain rfl : v_5 = 24 := ev_5.trans (by decide)
  refine lv_ishr X.1 X.2.1 dX12_feed_95 ?_
  refine lv_topi (fun v_6 ev_6 => ?_)
  refine lv_i2b X.1 X.2.1 dX12_feed_96 rfl ?_
  refine lv_topi (fun v_7 ev_7 => ?_)
  refine r_bast X hw hat_q1227 (by rw [ln_q1227]; exact vp_in_iff.mpr (by decide)) dX12_feed_97 (fun H locs hw => ?_)
  generalize eS_8 : sA S_1 q1227 (upd (pA S_1 q1227) (Int32.toNatClampNeg 0) (vp_nar .byte v_7)) = S_8 at hw
  have hat_mo : At S_8 mo 12 := by rw [← eS_8]; exact hat_mo
  have hat_q1227 : At S_8 q1227 13 := by rw [← eS_8]; exact hat_q1227
  have rf_q1227 : pR S_8 1227 mo = some q1227 := by rw [← eS_8]; exact rf_q1227
  have ci_1228 : pI S_8 1228 mo = 0 := by rw [← eS_8]; exact ci_1228
  have hc_2 : pI S_8 1200 mo = 0 := by rw [← eS_8]; exact hc_2
  have ln_q1227 : pN S_8 q1227 = 400 := by rw [← eS_8]; exact ln_q1227
  refine lv_aload_n X.1 X.2.1 dX12_feed_98 rfl (lv_at hl 2 rfl) ?_
  refine lv_dup X.1 X.2.1 dX12_feed_99 rfl ?_
  refine r_get (v := .int 0) X hw hat_mo 28 (by decide) rfl inn_X12_feed_12 (by decide) (X.2.2.2.1 (.fieldLink RX12 211 "SilkMillModel" "taped" "I") (by decide +kernel)) rfl (congrArg (fun z => some (Value.int z)) ci_1228) dX12_feed_100 ?_
  refine lv_iconst (v := 1) X.1 X.2.1 dX12_feed_103 (by decide) ?_
  refine lv_iadd X.1 X.2.1 dX12_feed_104 ?_
  refine lv_topi (fun v_9 ev_9 => ?_)
  obtain rfl : v_9 = 1 := ev_9.trans (by decide)
  refine r_putI (v := 1) X hw hat_mo 28 1228 tyX12 (by decide) rfl inn_X12_feed_12 tyX12_ok nmX12 (by decide) (X.2.2.2.1 (.fieldLink RX12 211 "SilkMillModel" "taped" "I") (by decide +kernel)) rfl (Or.inl rfl) rfl rfl (Nat.le_of_ble_eq_true rfl) (st_1228 _ _) dX12_feed_105 (fun H locs hw => ?_)
  generalize eS_10 : sI S_8 1228 mo 1 = S_10 at hw
  have hat_mo : At S_10 mo 12 := by rw [← eS_10]; exact hat_mo
  have hat_q1227 : At S_10 q1227 13 := by rw [← eS_10]; exact hat_q1227
  have rf_q1227 : pR S_10 1227 mo = some q1227 := by rw [← eS_10]; exact rf_q1227
  have hc_2 : pI S_10 1200 mo = 0 := by rw [← eS_10]; exact (pI_sI_nf (by decide)).trans hc_2
  have ln_q1227 : pN S_10 q1227 = 400 := by rw [← eS_10]; exact ln_q1227
  have hc_11 : pI S_10 1228 mo = 1 := by rw [← eS_10]; exact pI_sI_same
  refine lv_iinc (v := 1) (lv' := [(6, .int 1), (7, .int (a1)), (0, .ref mo), (1, .int (a1)), (2, .int (a2)), (3, .int (a3)), (4, .int (a4)), (5, .int (a5))]) X.1 X.2.1 dX12_feed_108 hl (k := 1) rfl (by decide) (by decide) rfl (fun ls hl => ?_)
  refine lv_goto (tgt := 20) X.1 X.2.1 dX12_feed_111 (by decide) ?_
  refine lv_iload X.1 X.2.1 dX12_feed_20 (lv_at hl 0 rfl) ?_
  refine lv_bipush (v := 20) X.1 X.2.1 dX12_feed_22 (by decide) ?_
  refine lv_icmp_ge (tgt := 114) X.1 X.2.1 dX12_feed_24 (by decide) (fun c_24 => absurd c_24 (by decide)) (fun c_24 => ?_)
  refine lv_iload X.1 X.2.1 dX12_feed_27 (lv_at hl 0 rfl) ?_
  refine lv_iconst (v := 4) X.1 X.2.1 dX12_feed_29 (by decide) ?_
  refine lv_icmp_ge (tgt := 37) X.1 X.2.1 dX12_feed_30 (by decide) (fun c_30 => absurd c_30 (by decide)) (fun c_30 => ?_)
  refine lv_iload_n X.1 X.2.1 dX12_feed_33 rfl (lv_at hl 3 rfl) ?_
  refine lv_goto (tgt := 73) X.1 X.2.1 dX12_feed_34 (by decide) ?_
  refine lv_istore (lv' := [(7, .int (a1)), (6, .int 1), (0, .ref mo), (1, .int (a1)), (2, .int (a2)), (3, .int (a3)), (4, .int (a4)), (5, .int (a5))]) X.1 X.2.1 dX12_feed_73 hl (by decide) rfl (fun ls hl => ?_)
  refine lv_aload_n X.1 X.2.1 dX12_feed_75 rfl (lv_at hl 2 rfl) ?_
  refine r_getR (g := 1227) X hw hat_mo 27 rf_q1227 (by decide) rfl inn_X12_feed_12 (by decide) (X.2.2.2.1 (.fieldLink RX12 82 "SilkMillModel" "tape" "[B") (by decide +kernel)) rfl rfl dX12_feed_76 ?_
  refine lv_aload_n X.1 X.2.1 dX12_feed_79 rfl (lv_at hl 2 rfl) ?_
  refine r_get (v := .int 1) X hw hat_mo 28 (by decide) rfl inn_X12_feed_12 (by decide) (X.2.2.2.1 (.fieldLink RX12 211 "SilkMillModel" "taped" "I") (by decide +kernel)) rfl (congrArg (fun z => some (Value.int z)) hc_11) dX12_feed_80 ?_
  refine lv_iload X.1 X.2.1 dX12_feed_83 (lv_at hl 0 rfl) ?_
  refine lv_bipush (v := 24) X.1 X.2.1 dX12_feed_85 (by decide) ?_
  refine lv_bipush (v := 8) X.1 X.2.1 dX12_feed_87 (by decide) ?_
  refine lv_iload X.1 X.2.1 dX12_feed_89 (lv_at hl 1 rfl) ?_
  refine lv_iconst (v := 4) X.1 X.2.1 dX12_feed_91 (by decide) ?_
  refine lv_irem X.1 X.2.1 dX12_feed_92 (by decide) ?_
  refine lv_topi (fun v_12 ev_12 => ?_)
  obtain rfl : v_12 = 1 := ev_12.trans (by decide)
  refine lv_imul X.1 X.2.1 dX12_feed_93 ?_
  refine lv_topi (fun v_13 ev_13 => ?_)
  obtain rfl : v_13 = 8 := ev_13.trans (by decide)
  refine lv_isub X.1 X.2.1 dX12_feed_94 ?_
  refine lv_topi (fun v_14 ev_14 => ?_)
  obtain rfl : v_14 = 16 := ev_14.trans (by decide)
  refine lv_ishr X.1 X.2.1 dX12_feed_95 ?_
  refine lv_topi (fun v_15 ev_15 => ?_)
  refine lv_i2b X.1 X.2.1 dX12_feed_96 rfl ?_
  refine lv_topi (fun v_16 ev_16 => ?_)
  refine r_bast X hw hat_q1227 (by rw [ln_q1227]; exact vp_in_iff.mpr (by decide)) dX12_feed_97 (fun H locs hw => ?_)
  generalize eS_17 : sA S_10 q1227 (upd (pA S_10 q1227) (Int32.toNatClampNeg 1) (vp_nar .byte v_16)) = S_17 at hw
  have hat_mo : At S_17 mo 12 := by rw [← eS_17]; exact hat_mo
  have hat_q1227 : At S_17 q1227 13 := by rw [← eS_17]; exact hat_q1227
  have rf_q1227 : pR S_17 1227 mo = some q1227 := by rw [← eS_17]; exact rf_q1227
  have hc_2 : pI S_17 1200 mo = 0 := by rw [← eS_17]; exact hc_2
  have hc_11 : pI S_17 1228 mo = 1 := by rw [← eS_17]; exact hc_11
  have ln_q1227 : pN S_17 q1227 = 400 := by rw [← eS_17]; exact ln_q1227
  refine lv_aload_n X.1 X.2.1 dX12_feed_98 rfl (lv_at hl 2 rfl) ?_
  refine lv_dup X.1 X.2.1 dX12_feed_99 rfl ?_
  refine r_get (v := .int 1) X hw hat_mo 28 (by decide) rfl inn_X12_feed_12 (by decide) (X.2.2.2.1 (.fieldLink RX12 211 "SilkMillModel" "taped" "I") (by decide +kernel)) rfl (congrArg (fun z => some (Value.int z)) hc_11) dX12_feed_100 ?_
  refine lv_iconst (v := 1) X.1 X.2.1 dX12_feed_103 (by decide) ?_
  refine lv_iadd X.1 X.2.1 dX12_feed_104 ?_
  refine lv_topi (fun v_18 ev_18 => ?_)
  obtain rfl : v_18 = 2 := ev_18.trans (by decide)
  refine r_putI (v := 2) X hw hat_mo 28 1228 tyX12 (by decide) rfl inn_X12_feed_12 tyX12_ok nmX12 (by decide) (X.2.2.2.1 (.fieldLink RX12 211 "SilkMillModel" "taped" "I") (by decide +kernel)) rfl (Or.inl rfl) rfl rfl (Nat.le_of_ble_eq_true rfl) (st_1228 _ _) dX12_feed_105 (fun H locs hw => ?_)
  generalize eS_19 : sI S_17 1228 mo 2 = S_19 at hw
  have hat_mo : At S_19 mo 12 := by rw [← eS_19]; exact hat_mo
  have hat_q1227 : At S_19 q1227 13 := by rw [← eS_19]; exact hat_q1227
  have rf_q1227 : pR S_19 1227 mo = some q1227 := by rw [← eS_19]; exact rf_q1227
  have hc_2 : pI S_19 1200 mo = 0 := by rw [← eS_19]; exact (pI_sI_nf (by decide)).trans hc_2
  have ln_q1227 : pN S_19 q1227 = 400 := by rw [← eS_19]; exact ln_q1227
  have hc_20 : pI S_19 1228 mo = 2 := by rw [← eS_19]; exact pI_sI_same
  refine lv_iinc (v := 2) (lv' := [(6, .int 2), (7, .int (a1)), (0, .ref mo), (1, .int (a1)), (2, .int (a2)), (3, .int (a3)), (4, .int (a4)), (5, .int (a5))]) X.1 X.2.1 dX12_feed_108 hl (k := 1) rfl (by decide) (by decide) rfl (fun ls hl => ?_)
  refine lv_goto (tgt := 20) X.1 X.2.1 dX12_feed_111 (by decide) ?_
  refine lv_iload X.1 X.2.1 dX12_feed_20 (lv_at hl 0 rfl) ?_
  refine lv_bipush (v := 20) X.1 X.2.1 dX12_feed_22 (by decide) ?_
  refine lv_icmp_ge (tgt := 114) X.1 X.2.1 dX12_feed_24 (by decide) (fun c_24 => absurd c_24 (by decide)) (fun c_24 => ?_)
  refine lv_iload X.1 X.2.1 dX12_feed_27 (lv_at hl 0 rfl) ?_
  refine lv_iconst (v := 4) X.1 X.2.1 dX12_feed_29 (by decide) ?_
  refine lv_icmp_ge (tgt := 37) X.1 X.2.1 dX12_feed_30 (by decide) (fun c_30 => absurd c_30 (by decide)) (fun c_30 => ?_)
  refine lv_iload_n X.1 X.2.1 dX12_feed_33 rfl (lv_at hl 3 rfl) ?_
  refine lv_goto (tgt := 73) X.1 X.2.1 dX12_feed_34 (by decide) ?_
  refine lv_istore (lv' := [(7, .int (a1)), (6, .int 2), (0, .ref mo), (1, .int (a1)), (2, .int (a2)), (3, .int (a3)), (4, .int (a4)), (5, .int (a5))]) X.1 X.2.1 dX12_feed_73 hl (by decide) rfl (fun ls hl => ?_)
  refine lv_aload_n X.1 X.2.1 dX12_feed_75 rfl (lv_at hl 2 rfl) ?_
  refine r_getR (g := 1227) X hw hat_mo 27 rf_q1227 (by decide) rfl inn_X12_feed_12 (by decide) (X.2.2.2.1 (.fieldLink RX12 82 "SilkMillModel" "tape" "[B") (by decide +kernel)) rfl rfl dX12_feed_76 ?_
  refine lv_aload_n X.1 X.2.1 dX12_feed_79 rfl (lv_at hl 2 rfl) ?_
  refine r_get (v := .int 2) X hw hat_mo 28 (by decide) rfl inn_X12_feed_12 (by decide) (X.2.2.2.1 (.fieldLink RX12 211 "SilkMillModel" "taped" "I") (by decide +kernel)) rfl (congrArg (fun z => some (Value.int z)) hc_20) dX12_feed_80 ?_
  refine lv_iload X.1 X.2.1 dX12_feed_83 (lv_at hl 0 rfl) ?_
  refine lv_bipush (v := 24) X.1 X.2.1 dX12_feed_85 (by decide) ?_
  refine lv_bipush (v := 8) X.1 X.2.1 dX12_feed_87 (by decide) ?_
  refine lv_iload X.1 X.2.1 dX12_feed_89 (lv_at hl 1 rfl) ?_
  refine lv_iconst (v := 4) X.1 X.2.1 dX12_feed_91 (by decide) ?_
  refine lv_irem X.1 X.2.1 dX12_feed_92 (by decide) ?_
  refine lv_topi (fun v_21 ev_21 => ?_)
  obtain rfl : v_21 = 2 := ev_21.trans (by decide)
  refine lv_imul X.1 X.2.1 dX12_feed_93 ?_
  refine lv_topi (fun v_22 ev_22 => ?_)
  obtain rfl : v_22 = 16 := ev_22.trans (by decide)
  refine lv_isub X.1 X.2.1 dX12_feed_94 ?_
  refine lv_topi (fun v_23 ev_23 => ?_)
  obtain rfl : v_23 = 8 := ev_23.trans (by decide)
  refine lv_ishr X.1 X.2.1 dX12_feed_95 ?_
  refine lv_topi (fun v_24 ev_24 => ?_)
  refine lv_i2b X.1 X.2.1 dX12_feed_96 rfl ?_
  refine lv_topi (fun v_25 ev_25 => ?_)
  refine r_bast X hw hat_q1227 (by rw [ln_q1227]; exact vp_in_iff.mpr (by decide)) dX12_feed_97 (fun H locs hw => ?_)
  generalize eS_26 : sA S_19 q1227 (upd (pA S_19 q1227) (Int32.toNatClampNeg 2) (vp_nar .byte v_25)) = S_26 at hw
  have hat_mo : At S_26 mo 12 := by rw [← eS_26]; exact hat_mo
  have hat_q1227 : At S_26 q1227 13 := by rw [← eS_26]; exact hat_q1227
  have rf_q1227 : pR S_26 1227 mo = some q1227 := by rw [← eS_26]; exact rf_q1227
  have hc_2 : pI S_26 1200 mo = 0 := by rw [← eS_26]; exact hc_2
  have hc_20 : pI S_26 1228 mo = 2 := by rw [← eS_26]; exact hc_20
  have ln_q1227 : pN S_26 q1227 = 400 := by rw [← eS_26]; exact ln_q1227
  refine lv_aload_n X.1 X.2.1 dX12_feed_98 rfl (lv_at hl 2 rfl) ?_
  refine lv_dup X.1 X.2.1 dX12_feed_99 rfl ?_
  refine r_get (v := .int 2) X hw hat_mo 28 (by decide) rfl inn_X12_feed_12 (by decide) (X.2.2.2.1 (.fieldLink RX12 211 "SilkMillModel" "taped" "I") (by decide +kernel)) rfl (congrArg (fun z => some (Value.int z)) hc_20) dX12_feed_100 ?_
  refine lv_iconst (v := 1) X.1 X.2.1 dX12_feed_103 (by decide) ?_
  refine lv_iadd X.1 X.2.1 dX12_feed_104 ?_
  refine lv_topi (fun v_27 ev_27 => ?_)
  obtain rfl : v_27 = 3 := ev_27.trans (by decide)
  refine r_putI (v := 3) X hw hat_mo 28 1228 tyX12 (by decide) rfl inn_X12_feed_12 tyX12_ok nmX12 (by decide) (X.2.2.2.1 (.fieldLink RX12 211 "SilkMillModel" "taped" "I") (by decide +kernel)) rfl (Or.inl rfl) rfl rfl (Nat.le_of_ble_eq_true rfl) (st_1228 _ _) dX12_feed_105 (fun H locs hw => ?_)
  generalize eS_28 : sI S_26 1228 mo 3 = S_28 at hw
  have hat_mo : At S_28 mo 12 := by rw [← eS_28]; exact hat_mo
  have hat_q1227 : At S_28 q1227 13 := by rw [← eS_28]; exact hat_q1227
  have rf_q1227 : pR S_28 1227 mo = some q1227 := by rw [← eS_28]; exact rf_q1227
  have hc_2 : pI S_28 1200 mo = 0 := by rw [← eS_28]; exact (pI_sI_nf (by decide)).trans hc_2
  have ln_q1227 : pN S_28 q1227 = 400 := by rw [← eS_28]; exact ln_q1227
  have hc_29 : pI S_28 1228 mo = 3 := by rw [← eS_28]; exact pI_sI_same
  refine lv_iinc (v := 3) (lv' := [(6, .int 3), (7, .int (a1)), (0, .ref mo), (1, .int (a1)), (2, .int (a2)), (3, .int (a3)), (4, .int (a4)), (5, .int (a5))]) X.1 X.2.1 dX12_feed_108 hl (k := 1) rfl (by decide) (by decide) rfl (fun ls hl => ?_)
  refine lv_goto (tgt := 20) X.1 X.2.1 dX12_feed_111 (by decide) ?_
  refine lv_iload X.1 X.2.1 dX12_feed_20 (lv_at hl 0 rfl) ?_
  refine lv_bipush (v := 20) X.1 X.2.1 dX12_feed_22 (by decide) ?_
  refine lv_icmp_ge (tgt := 114) X.1 X.2.1 dX12_feed_24 (by decide) (fun c_24 => absurd c_24 (by decide)) (fun c_24 => ?_)
  refine lv_iload X.1 X.2.1 dX12_feed_27 (lv_at hl 0 rfl) ?_
  refine lv_iconst (v := 4) X.1 X.2.1 dX12_feed_29 (by decide) ?_
  refine lv_icmp_ge (tgt := 37) X.1 X.2.1 dX12_feed_30 (by decide) (fun c_30 => absurd c_30 (by decide)) (fun c_30 => ?_)
  refine lv_iload_n X.1 X.2.1 dX12_feed_33 rfl (lv_at hl 3 rfl) ?_
  refine lv_goto (tgt := 73) X.1 X.2.1 dX12_feed_34 (by decide) ?_
  refine lv_istore (lv' := [(7, .int (a1)), (6, .int 3), (0, .ref mo), (1, .int (a1)), (2, .int (a2)), (3, .int (a3)), (4, .int (a4)), (5, .int (a5))]) X.1 X.2.1 dX12_feed_73 hl (by decide) rfl (fun ls hl => ?_)
  refine lv_aload_n X.1 X.2.1 dX12_feed_75 rfl (lv_at hl 2 rfl) ?_
  refine r_getR (g := 1227) X hw hat_mo 27 rf_q1227 (by decide) rfl inn_X12_feed_12 (by decide) (X.2.2.2.1 (.fieldLink RX12 82 "SilkMillModel" "tape" "[B") (by decide +kernel)) rfl rfl dX12_feed_76 ?_
  refine lv_aload_n X.1 X.2.1 dX12_feed_79 rfl (lv_at hl 2 rfl) ?_
  refine r_get (v := .int 3) X hw hat_mo 28 (by decide) rfl inn_X12_feed_12 (by decide) (X.2.2.2.1 (.fieldLink RX12 211 "SilkMillModel" "taped" "I") (by decide +kernel)) rfl (congrArg (fun z => some (Value.int z)) hc_29) dX12_feed_80 ?_
  refine lv_iload X.1 X.2.1 dX12_feed_83 (lv_at hl 0 rfl) ?_
  refine lv_bipush (v := 24) X.1 X.2.1 dX12_feed_85 (by decide) ?_
  refine lv_bipush (v := 8) X.1 X.2.1 dX12_feed_87 (by decide) ?_
  refine lv_iload X.1 X.2.1 dX12_feed_89 (lv_at hl 1 rfl) ?_
  refine lv_iconst (v := 4) X.1 X.2.1 dX12_feed_91 (by decide) ?_
  refine lv_irem X.1 X.2.1 dX12_feed_92 (by decide) ?_
  refine lv_topi (fun v_30 ev_30 => ?_)
  obtain rfl : v_30 = 3 := ev_30.trans (by decide)
  refine lv_imul X.1 X.2.1 dX12_feed_93 ?_
  refine lv_topi (fun v_31 ev_31 => ?_)
  obtain rfl : v_31 = 24 := ev_31.trans (by decide)
  refine lv_isub X.1 X.2.1 dX12_feed_94 ?_
  refine lv_topi (fun v_32 ev_32 => ?_)
  obtain rfl : v_32 = 0 := ev_32.trans (by decide)
  refine lv_ishr X.1 X.2.1 dX12_feed_95 ?_
  refine lv_topi (fun v_33 ev_33 => ?_)
  refine lv_i2b X.1 X.2.1 dX12_feed_96 rfl ?_
  refine lv_topi (fun v_34 ev_34 => ?_)
  refine r_bast X hw hat_q1227 (by rw [ln_q1227]; exact vp_in_iff.mpr (by decide)) dX12_feed_97 (fun H locs hw => ?_)
  generalize eS_35 : sA S_28 q1227 (upd (pA S_28 q1227) (Int32.toNatClampNeg 3) (vp_nar .byte v_34)) = S_35 at hw
  have hat_mo : At S_35 mo 12 := by rw [← eS_35]; exact hat_mo
  have hat_q1227 : At S_35 q1227 13 := by rw [← eS_35]; exact hat_q1227
  have rf_q1227 : pR S_35 1227 mo = some q1227 := by rw [← eS_35]; exact rf_q1227
  have hc_2 : pI S_35 1200 mo = 0 := by rw [← eS_35]; exact hc_2
  have hc_29 : pI S_35 1228 mo = 3 := by rw [← eS_35]; exact hc_29
  have ln_q1227 : pN S_35 q1227 = 400 := by rw [← eS_35]; exact ln_q1227
  refine lv_aload_n X.1 X.2.1 dX12_feed_98 rfl (lv_at hl 2 rfl) ?_
  refine lv_dup X.1 X.2.1 dX12_feed_99 rfl ?_
  refine r_get (v := .int 3) X hw hat_mo 28 (by decide) rfl inn_X12_feed_12 (by decide) (X.2.2.2.1 (.fieldLink RX12 211 "SilkMillModel" "taped" "I") (by decide +kernel)) rfl (congrArg (fun z => some (Value.int z)) hc_29) dX12_feed_100 ?_
  refine lv_iconst (v := 1) X.1 X.2.1 dX12_feed_103 (by decide) ?_
  refine lv_iadd X.1 X.2.1 dX12_feed_104 ?_
  refine lv_topi (fun v_36 ev_36 => ?_)
  obtain rfl : v_36 = 4 := ev_36.trans (by decide)
  refine r_putI (v := 4) X hw hat_mo 28 1228 tyX12 (by decide) rfl inn_X12_feed_12 tyX12_ok nmX12 (by decide) (X.2.2.2.1 (.fieldLink RX12 211 "SilkMillModel" "taped" "I") (by decide +kernel)) rfl (Or.inl rfl) rfl rfl (Nat.le_of_ble_eq_true rfl) (st_1228 _ _) dX12_feed_105 (fun H locs hw => ?_)
  generalize eS_37 : sI S_35 1228 mo 4 = S_37 at hw
  have hat_mo : At S_37 mo 12 := by rw [← eS_37]; exact hat_mo
  have hat_q1227 : At S_37 q1227 13 := by rw [← eS_37]; exact hat_q1227
  have rf_q1227 : pR S_37 1227 mo = some q1227 := by rw [← eS_37]; exact rf_q1227
  have hc_2 : pI S_37 1200 mo = 0 := by rw [← eS_37]; exact (pI_sI_nf (by decide)).trans hc_2
  have ln_q1227 : pN S_37 q1227 = 400 := by rw [← eS_37]; exact ln_q1227
  have hc_38 : pI S_37 1228 mo = 4 := by rw [← eS_37]; exact pI_sI_same
  refine lv_iinc (v := 4) (lv' := [(6, .int 4), (7, .int (a1)), (0, .ref mo), (1, .int (a1)), (2, .int (a2)), (3, .int (a3)), (4, .int (a4)), (5, .int (a5))]) X.1 X.2.1 dX12_feed_108 hl (k := 1) rfl (by decide) (by decide) rfl (fun ls hl => ?_)
  refine lv_goto (tgt := 20) X.1 X.2.1 dX12_feed_111 (by decide) ?_
  refine lv_iload X.1 X.2.1 dX12_feed_20 (lv_at hl 0 rfl) ?_
  refine lv_bipush (v := 20) X.1 X.2.1 dX12_feed_22 (by decide) ?_
  refine lv_icmp_ge (tgt := 114) X.1 X.2.1 dX12_feed_24 (by decide) (fun c_24 => absurd c_24 (by decide)) (fun c_24 => ?_)
  refine lv_iload X.1 X.2.1 dX12_feed_27 (lv_at hl 0 rfl) ?_
  refine lv_iconst (v := 4) X.1 X.2.1 dX12_feed_29 (by decide) ?_
  refine lv_icmp_ge (tgt := 37) X.1 X.2.1 dX12_feed_30 (by decide) (fun c_30 => ?_) (fun c_30 => absurd c_30 (by decide))
  refine lv_iload X.1 X.2.1 dX12_feed_37 (lv_at hl 0 rfl) ?_
  refine lv_bipush (v := 8) X.1 X.2.1 dX12_feed_39 (by decide) ?_
  refine lv_icmp_ge (tgt := 48) X.1 X.2.1 dX12_feed_41 (by decide) (fun c_41 => absurd c_41 (by decide)) (fun c_41 => ?_)
  refine lv_iload_n X.1 X.2.1 dX12_feed_44 rfl (lv_at hl 4 rfl) ?_
  refine lv_goto (tgt := 73) X.1 X.2.1 dX12_feed_45 (by decide) ?_
  refine lv_istore (lv' := [(7, .int (a2)), (6, .int 4), (0, .ref mo), (1, .int (a1)), (2, .int (a2)), (3, .int (a3)), (4, .int (a4)), (5, .int (a5))]) X.1 X.2.1 dX12_feed_73 hl (by decide) rfl (fun ls hl => ?_)
  refine lv_aload_n X.1 X.2.1 dX12_feed_75 rfl (lv_at hl 2 rfl) ?_
  refine r_getR (g := 1227) X hw hat_mo 27 rf_q1227 (by decide) rfl inn_X12_feed_12 (by decide) (X.2.2.2.1 (.fieldLink RX12 82 "SilkMillModel" "tape" "[B") (by decide +kernel)) rfl rfl dX12_feed_76 ?_
  refine lv_aload_n X.1 X.2.1 dX12_feed_79 rfl (lv_at hl 2 rfl) ?_
  refine r_get (v := .int 4) X hw hat_mo 28 (by decide) rfl inn_X12_feed_12 (by decide) (X.2.2.2.1 (.fieldLink RX12 211 "SilkMillModel" "taped" "I") (by decide +kernel)) rfl (congrArg (fun z => some (Value.int z)) hc_38) dX12_feed_80 ?_
  refine lv_iload X.1 X.2.1 dX12_feed_83 (lv_at hl 0 rfl) ?_
  refine lv_bipush (v := 24) X.1 X.2.1 dX12_feed_85 (by decide) ?_
  refine lv_bipush (v := 8) X.1 X.2.1 dX12_feed_87 (by decide) ?_
  refine lv_iload X.1 X.2.1 dX12_feed_89 (lv_at hl 1 rfl) ?_
  refine lv_iconst (v := 4) X.1 X.2.1 dX12_feed_91 (by decide) ?_
  refine lv_irem X.1 X.2.1 dX12_feed_92 (by decide) ?_
  refine lv_topi (fun v_39 ev_39 => ?_)
  obtain rfl : v_39 = 0 := ev_39.trans (by decide)
  refine lv_imul X.1 X.2.1 dX12_feed_93 ?_
  refine lv_topi (fun v_40 ev_40 => ?_)
  obtain rfl : v_40 = 0 := ev_40.trans (by decide)
  refine lv_isub X.1 X.2.1 dX12_feed_94 ?_
  refine lv_topi (fun v_41 ev_41 => ?_)
  obtain rfl : v_41 = 24 := ev_41.trans (by decide)
  refine lv_ishr X.1 X.2.1 dX12_feed_95 ?_
  refine lv_topi (fun v_42 ev_42 => ?_)
  refine lv_i2b X.1 X.2.1 dX12_feed_96 rfl ?_
  refine lv_topi (fun v_43 ev_43 => ?_)
  refine r_bast X hw hat_q1227 (by rw [ln_q1227]; exact vp_in_iff.mpr (by decide)) dX12_feed_97 (fun H locs hw => ?_)
  generalize eS_44 : sA S_37 q1227 (upd (pA S_37 q1227) (Int32.toNatClampNeg 4) (vp_nar .byte v_43)) = S_44 at hw
  have hat_mo : At S_44 mo 12 := by rw [← eS_44]; exact hat_mo
  have hat_q1227 : At S_44 q1227 13 := by rw [← eS_44]; exact hat_q1227
  have rf_q1227 : pR S_44 1227 mo = some q1227 := by rw [← eS_44]; exact rf_q1227
  have hc_2 : pI S_44 1200 mo = 0 := by rw [← eS_44]; exact hc_2
  have hc_38 : pI S_44 1228 mo = 4 := by rw [← eS_44]; exact hc_38
  have ln_q1227 : pN S_44 q1227 = 400 := by rw [← eS_44]; exact ln_q1227
  refine lv_aload_n X.1 X.2.1 dX12_feed_98 rfl (lv_at hl 2 rfl) ?_
  refine lv_dup X.1 X.2.1 dX12_feed_99 rfl ?_
  refine r_get (v := .int 4) X hw hat_mo 28 (by decide) rfl inn_X12_feed_12 (by decide) (X.2.2.2.1 (.fieldLink RX12 211 "SilkMillModel" "taped" "I") (by decide +kernel)) rfl (congrArg (fun z => some (Value.int z)) hc_38) dX12_feed_100 ?_
  refine lv_iconst (v := 1) X.1 X.2.1 dX12_feed_103 (by decide) ?_
  refine lv_iadd X.1 X.2.1 dX12_feed_104 ?_
  refine lv_topi (fun v_45 ev_45 => ?_)
  obtain rfl : v_45 = 5 := ev_45.trans (by decide)
  refine r_putI (v := 5) X hw hat_mo 28 1228 tyX12 (by decide) rfl inn_X12_feed_12 tyX12_ok nmX12 (by decide) (X.2.2.2.1 (.fieldLink RX12 211 "SilkMillModel" "taped" "I") (by decide +kernel)) rfl (Or.inl rfl) rfl rfl (Nat.le_of_ble_eq_true rfl) (st_1228 _ _) dX12_feed_105 (fun H locs hw => ?_)
  generalize eS_46 : sI S_44 1228 mo 5 = S_46 at hw
  have hat_mo : At S_46 mo 12 := by rw [← eS_46]; exact hat_mo
  have hat_q1227 : At S_46 q1227 13 := by rw [← eS_46]; exact hat_q1227
  have rf_q1227 : pR S_46 1227 mo = some q1227 := by rw [← eS_46]; exact rf_q1227
  have hc_2 : pI S_46 1200 mo = 0 := by rw [← eS_46]; exact (pI_sI_nf (by decide)).trans hc_2
  have ln_q1227 : pN S_46 q1227 = 400 := by rw [← eS_46]; exact ln_q1227
  have hc_47 : pI S_46 1228 mo = 5 := by rw [← eS_46]; exact pI_sI_same
  refine lv_iinc (v := 5) (lv' := [(6, .int 5), (7, .int (a2)), (0, .ref mo), (1, .int (a1)), (2, .int (a2)), (3, .int (a3)), (4, .int (a4)), (5, .int (a5))]) X.1 X.2.1 dX12_feed_108 hl (k := 1) rfl (by decide) (by decide) rfl (fun ls hl => ?_)
  refine lv_goto (tgt := 20) X.1 X.2.1 dX12_feed_111 (by decide) ?_
  refine lv_iload X.1 X.2.1 dX12_feed_20 (lv_at hl 0 rfl) ?_
  refine lv_bipush (v := 20) X.1 X.2.1 dX12_feed_22 (by decide) ?_
  refine lv_icmp_ge (tgt := 114) X.1 X.2.1 dX12_feed_24 (by decide) (fun c_24 => absurd c_24 (by decide)) (fun c_24 => ?_)
  refine lv_iload X.1 X.2.1 dX12_feed_27 (lv_at hl 0 rfl) ?_
  refine lv_iconst (v := 4) X.1 X.2.1 dX12_feed_29 (by decide) ?_
  refine lv_icmp_ge (tgt := 37) X.1 X.2.1 dX12_feed_30 (by decide) (fun c_30 => ?_) (fun c_30 => absurd c_30 (by decide))
  refine lv_iload X.1 X.2.1 dX12_feed_37 (lv_at hl 0 rfl) ?_
  refine lv_bipush (v := 8) X.1 X.2.1 dX12_feed_39 (by decide) ?_
  refine lv_icmp_ge (tgt := 48) X.1 X.2.1 dX12_feed_41 (by decide) (fun c_41 => absurd c_41 (by decide)) (fun c_41 => ?_)
  refine lv_iload_n X.1 X.2.1 dX12_feed_44 rfl (lv_at hl 4 rfl) ?_
  refine lv_goto (tgt := 73) X.1 X.2.1 dX12_feed_45 (by decide) ?_
  refine lv_istore (lv' := [(7, .int (a2)), (6, .int 5), (0, .ref mo), (1, .int (a1)), (2, .int (a2)), (3, .int (a3)), (4, .int (a4)), (5, .int (a5))]) X.1 X.2.1 dX12_feed_73 hl (by decide) rfl (fun ls hl => ?_)
  refine lv_aload_n X.1 X.2.1 dX12_feed_75 rfl (lv_at hl 2 rfl) ?_
  refine r_getR (g := 1227) X hw hat_mo 27 rf_q1227 (by decide) rfl inn_X12_feed_12 (by decide) (X.2.2.2.1 (.fieldLink RX12 82 "SilkMillModel" "tape" "[B") (by decide +kernel)) rfl rfl dX12_feed_76 ?_
  refine lv_aload_n X.1 X.2.1 dX12_feed_79 rfl (lv_at hl 2 rfl) ?_
  refine r_get (v := .int 5) X hw hat_mo 28 (by decide) rfl inn_X12_feed_12 (by decide) (X.2.2.2.1 (.fieldLink RX12 211 "SilkMillModel" "taped" "I") (by decide +kernel)) rfl (congrArg (fun z => some (Value.int z)) hc_47) dX12_feed_80 ?_
  refine lv_iload X.1 X.2.1 dX12_feed_83 (lv_at hl 0 rfl) ?_
  refine lv_bipush (v := 24) X.1 X.2.1 dX12_feed_85 (by decide) ?_
  refine lv_bipush (v := 8) X.1 X.2.1 dX12_feed_87 (by decide) ?_
  refine lv_iload X.1 X.2.1 dX12_feed_89 (lv_at hl 1 rfl) ?_
  refine lv_iconst (v := 4) X.1 X.2.1 dX12_feed_91 (by decide) ?_
  refine lv_irem X.1 X.2.1 dX12_feed_92 (by decide) ?_
  refine lv_topi (fun v_48 ev_48 => ?_)
  obtain rfl : v_48 = 1 := ev_48.trans (by decide)
  refine lv_imul X.1 X.2.1 dX12_feed_93 ?_
  refine lv_topi (fun v_49 ev_49 => ?_)
  obtain rfl : v_49 = 8 := ev_49.trans (by decide)
  refine lv_isub X.1 X.2.1 dX12_feed_94 ?_
  refine lv_topi (fun v_50 ev_50 => ?_)
  obtain rfl : v_50 = 16 := ev_50.trans (by decide)
  refine lv_ishr X.1 X.2.1 dX12_feed_95 ?_
  refine lv_topi (fun v_51 ev_51 => ?_)
  refine lv_i2b X.1 X.2.1 dX12_feed_96 rfl ?_
  refine lv_topi (fun v_52 ev_52 => ?_)
  refine r_bast X hw hat_q1227 (by rw [ln_q1227]; exact vp_in_iff.mpr (by decide)) dX12_feed_97 (fun H locs hw => ?_)
  generalize eS_53 : sA S_46 q1227 (upd (pA S_46 q1227) (Int32.toNatClampNeg 5) (vp_nar .byte v_52)) = S_53 at hw
  have hat_mo : At S_53 mo 12 := by rw [← eS_53]; exact hat_mo
  have hat_q1227 : At S_53 q1227 13 := by rw [← eS_53]; exact hat_q1227
  have rf_q1227 : pR S_53 1227 mo = some q1227 := by rw [← eS_53]; exact rf_q1227
  have hc_2 : pI S_53 1200 mo = 0 := by rw [← eS_53]; exact hc_2
  have hc_47 : pI S_53 1228 mo = 5 := by rw [← eS_53]; exact hc_47
  have ln_q1227 : pN S_53 q1227 = 400 := by rw [← eS_53]; exact ln_q1227
  refine lv_aload_n X.1 X.2.1 dX12_feed_98 rfl (lv_at hl 2 rfl) ?_
  refine lv_dup X.1 X.2.1 dX12_feed_99 rfl ?_
  refine r_get (v := .int 5) X hw hat_mo 28 (by decide) rfl inn_X12_feed_12 (by decide) (X.2.2.2.1 (.fieldLink RX12 211 "SilkMillModel" "taped" "I") (by decide +kernel)) rfl (congrArg (fun z => some (Value.int z)) hc_47) dX12_feed_100 ?_
  refine lv_iconst (v := 1) X.1 X.2.1 dX12_feed_103 (by decide) ?_
  refine lv_iadd X.1 X.2.1 dX12_feed_104 ?_
  refine lv_topi (fun v_54 ev_54 => ?_)
  obtain rfl : v_54 = 6 := ev_54.trans (by decide)
  refine r_putI (v := 6) X hw hat_mo 28 1228 tyX12 (by decide) rfl inn_X12_feed_12 tyX12_ok nmX12 (by decide) (X.2.2.2.1 (.fieldLink RX12 211 "SilkMillModel" "taped" "I") (by decide +kernel)) rfl (Or.inl rfl) rfl rfl (Nat.le_of_ble_eq_true rfl) (st_1228 _ _) dX12_feed_105 (fun H locs hw => ?_)
  generalize eS_55 : sI S_53 1228 mo 6 = S_55 at hw
  have hat_mo : At S_55 mo 12 := by rw [← eS_55]; exact hat_mo
  have hat_q1227 : At S_55 q1227 13 := by rw [← eS_55]; exact hat_q1227
  have rf_q1227 : pR S_55 1227 mo = some q1227 := by rw [← eS_55]; exact rf_q1227
  have hc_2 : pI S_55 1200 mo = 0 := by rw [← eS_55]; exact (pI_sI_nf (by decide)).trans hc_2
  have ln_q1227 : pN S_55 q1227 = 400 := by rw [← eS_55]; exact ln_q1227
  have hc_56 : pI S_55 1228 mo = 6 := by rw [← eS_55]; exact pI_sI_same
  refine lv_iinc (v := 6) (lv' := [(6, .int 6), (7, .int (a2)), (0, .ref mo), (1, .int (a1)), (2, .int (a2)), (3, .int (a3)), (4, .int (a4)), (5, .int (a5))]) X.1 X.2.1 dX12_feed_108 hl (k := 1) rfl (by decide) (by decide) rfl (fun ls hl => ?_)
  refine lv_goto (tgt := 20) X.1 X.2.1 dX12_feed_111 (by decide) ?_
  refine lv_iload X.1 X.2.1 dX12_feed_20 (lv_at hl 0 rfl) ?_
  refine lv_bipush (v := 20) X.1 X.2.1 dX12_feed_22 (by decide) ?_
  refine lv_icmp_ge (tgt := 114) X.1 X.2.1 dX12_feed_24 (by decide) (fun c_24 => absurd c_24 (by decide)) (fun c_24 => ?_)
  refine lv_iload X.1 X.2.1 dX12_feed_27 (lv_at hl 0 rfl) ?_
  refine lv_iconst (v := 4) X.1 X.2.1 dX12_feed_29 (by decide) ?_
  refine lv_icmp_ge (tgt := 37) X.1 X.2.1 dX12_feed_30 (by decide) (fun c_30 => ?_) (fun c_30 => absurd c_30 (by decide))
  refine lv_iload X.1 X.2.1 dX12_feed_37 (lv_at hl 0 rfl) ?_
  refine lv_bipush (v := 8) X.1 X.2.1 dX12_feed_39 (by decide) ?_
  refine lv_icmp_ge (tgt := 48) X.1 X.2.1 dX12_feed_41 (by decide) (fun c_41 => absurd c_41 (by decide)) (fun c_41 => ?_)
  refine lv_iload_n X.1 X.2.1 dX12_feed_44 rfl (lv_at hl 4 rfl) ?_
  refine lv_goto (tgt := 73) X.1 X.2.1 dX12_feed_45 (by decide) ?_
  refine lv_istore (lv' := [(7, .int (a2)), (6, .int 6), (0, .ref mo), (1, .int (a1)), (2, .int (a2)), (3, .int (a3)), (4, .int (a4)), (5, .int (a5))]) X.1 X.2.1 dX12_feed_73 hl (by decide) rfl (fun ls hl => ?_)
  refine lv_aload_n X.1 X.2.1 dX12_feed_75 rfl (lv_at hl 2 rfl) ?_
  refine r_getR (g := 1227) X hw hat_mo 27 rf_q1227 (by decide) rfl inn_X12_feed_12 (by decide) (X.2.2.2.1 (.fieldLink RX12 82 "SilkMillModel" "tape" "[B") (by decide +kernel)) rfl rfl dX12_feed_76 ?_
  refine lv_aload_n X.1 X.2.1 dX12_feed_79 rfl (lv_at hl 2 rfl) ?_
  refine r_get (v := .int 6) X hw hat_mo 28 (by decide) rfl inn_X12_feed_12 (by decide) (X.2.2.2.1 (.fieldLink RX12 211 "SilkMillModel" "taped" "I") (by decide +kernel)) rfl (congrArg (fun z => some (Value.int z)) hc_56) dX12_feed_80 ?_
  refine lv_iload X.1 X.2.1 dX12_feed_83 (lv_at hl 0 rfl) ?_
  refine lv_bipush (v := 24) X.1 X.2.1 dX12_feed_85 (by decide) ?_
  refine lv_bipush (v := 8) X.1 X.2.1 dX12_feed_87 (by decide) ?_
  refine lv_iload X.1 X.2.1 dX12_feed_89 (lv_at hl 1 rfl) ?_
  refine lv_iconst (v := 4) X.1 X.2.1 dX12_feed_91 (by decide) ?_
  refine lv_irem X.1 X.2.1 dX12_feed_92 (by decide) ?_
  refine lv_topi (fun v_57 ev_57 => ?_)
  obtain rfl : v_57 = 2 := ev_57.trans (by decide)
  refine lv_imul X.1 X.2.1 dX12_feed_93 ?_
  refine lv_topi (fun v_58 ev_58 => ?_)
  obtain rfl : v_58 = 16 := ev_58.trans (by decide)
  refine lv_isub X.1 X.2.1 dX12_feed_94 ?_
  refine lv_topi (fun v_59 ev_59 => ?_)
  obtain rfl : v_59 = 8 := ev_59.trans (by decide)
  refine lv_ishr X.1 X.2.1 dX12_feed_95 ?_
  refine lv_topi (fun v_60 ev_60 => ?_)
  refine lv_i2b X.1 X.2.1 dX12_feed_96 rfl ?_
  refine lv_topi (fun v_61 ev_61 => ?_)
  refine r_bast X hw hat_q1227 (by rw [ln_q1227]; exact vp_in_iff.mpr (by decide)) dX12_feed_97 (fun H locs hw => ?_)
  generalize eS_62 : sA S_55 q1227 (upd (pA S_55 q1227) (Int32.toNatClampNeg 6) (vp_nar .byte v_61)) = S_62 at hw
  have hat_mo : At S_62 mo 12 := by rw [← eS_62]; exact hat_mo
  have hat_q1227 : At S_62 q1227 13 := by rw [← eS_62]; exact hat_q1227
  have rf_q1227 : pR S_62 1227 mo = some q1227 := by rw [← eS_62]; exact rf_q1227
  have hc_2 : pI S_62 1200 mo = 0 := by rw [← eS_62]; exact hc_2
  have hc_56 : pI S_62 1228 mo = 6 := by rw [← eS_62]; exact hc_56
  have ln_q1227 : pN S_62 q1227 = 400 := by rw [← eS_62]; exact ln_q1227
  refine lv_aload_n X.1 X.2.1 dX12_feed_98 rfl (lv_at hl 2 rfl) ?_
  refine lv_dup X.1 X.2.1 dX12_feed_99 rfl ?_
  refine r_get (v := .int 6) X hw hat_mo 28 (by decide) rfl inn_X12_feed_12 (by decide) (X.2.2.2.1 (.fieldLink RX12 211 "SilkMillModel" "taped" "I") (by decide +kernel)) rfl (congrArg (fun z => some (Value.int z)) hc_56) dX12_feed_100 ?_
  refine lv_iconst (v := 1) X.1 X.2.1 dX12_feed_103 (by decide) ?_
  refine lv_iadd X.1 X.2.1 dX12_feed_104 ?_
  refine lv_topi (fun v_63 ev_63 => ?_)
  obtain rfl : v_63 = 7 := ev_63.trans (by decide)
  refine r_putI (v := 7) X hw hat_mo 28 1228 tyX12 (by decide) rfl inn_X12_feed_12 tyX12_ok nmX12 (by decide) (X.2.2.2.1 (.fieldLink RX12 211 "SilkMillModel" "taped" "I") (by decide +kernel)) rfl (Or.inl rfl) rfl rfl (Nat.le_of_ble_eq_true rfl) (st_1228 _ _) dX12_feed_105 (fun H locs hw => ?_)
  generalize eS_64 : sI S_62 1228 mo 7 = S_64 at hw
  have hat_mo : At S_64 mo 12 := by rw [← eS_64]; exact hat_mo
  have hat_q1227 : At S_64 q1227 13 := by rw [← eS_64]; exact hat_q1227
  have rf_q1227 : pR S_64 1227 mo = some q1227 := by rw [← eS_64]; exact rf_q1227
  have hc_2 : pI S_64 1200 mo = 0 := by rw [← eS_64]; exact (pI_sI_nf (by decide)).trans hc_2
  have ln_q1227 : pN S_64 q1227 = 400 := by rw [← eS_64]; exact ln_q1227
  have hc_65 : pI S_64 1228 mo = 7 := by rw [← eS_64]; exact pI_sI_same
  refine lv_iinc (v := 7) (lv' := [(6, .int 7), (7, .int (a2)), (0, .ref mo), (1, .int (a1)), (2, .int (a2)), (3, .int (a3)), (4, .int (a4)), (5, .int (a5))]) X.1 X.2.1 dX12_feed_108 hl (k := 1) rfl (by decide) (by decide) rfl (fun ls hl => ?_)
  refine lv_goto (tgt := 20) X.1 X.2.1 dX12_feed_111 (by decide) ?_
  refine lv_iload X.1 X.2.1 dX12_feed_20 (lv_at hl 0 rfl) ?_
  refine lv_bipush (v := 20) X.1 X.2.1 dX12_feed_22 (by decide) ?_
  refine lv_icmp_ge (tgt := 114) X.1 X.2.1 dX12_feed_24 (by decide) (fun c_24 => absurd c_24 (by decide)) (fun c_24 => ?_)
  refine lv_iload X.1 X.2.1 dX12_feed_27 (lv_at hl 0 rfl) ?_
  refine lv_iconst (v := 4) X.1 X.2.1 dX12_feed_29 (by decide) ?_
  refine lv_icmp_ge (tgt := 37) X.1 X.2.1 dX12_feed_30 (by decide) (fun c_30 => ?_) (fun c_30 => absurd c_30 (by decide))
  refine lv_iload X.1 X.2.1 dX12_feed_37 (lv_at hl 0 rfl) ?_
  refine lv_bipush (v := 8) X.1 X.2.1 dX12_feed_39 (by decide) ?_
  refine lv_icmp_ge (tgt := 48) X.1 X.2.1 dX12_feed_41 (by decide) (fun c_41 => absurd c_41 (by decide)) (fun c_41 => ?_)
  refine lv_iload_n X.1 X.2.1 dX12_feed_44 rfl (lv_at hl 4 rfl) ?_
  refine lv_goto (tgt := 73) X.1 X.2.1 dX12_feed_45 (by decide) ?_
  refine lv_istore (lv' := [(7, .int (a2)), (6, .int 7), (0, .ref mo), (1, .int (a1)), (2, .int (a2)), (3, .int (a3)), (4, .int (a4)), (5, .int (a5))]) X.1 X.2.1 dX12_feed_73 hl (by decide) rfl (fun ls hl => ?_)
  refine lv_aload_n X.1 X.2.1 dX12_feed_75 rfl (lv_at hl 2 rfl) ?_
  refine r_getR (g := 1227) X hw hat_mo 27 rf_q1227 (by decide) rfl inn_X12_feed_12 (by decide) (X.2.2.2.1 (.fieldLink RX12 82 "SilkMillModel" "tape" "[B") (by decide +kernel)) rfl rfl dX12_feed_76 ?_
  refine lv_aload_n X.1 X.2.1 dX12_feed_79 rfl (lv_at hl 2 rfl) ?_
  refine r_get (v := .int 7) X hw hat_mo 28 (by decide) rfl inn_X12_feed_12 (by decide) (X.2.2.2.1 (.fieldLink RX12 211 "SilkMillModel" "taped" "I") (by decide +kernel)) rfl (congrArg (fun z => some (Value.int z)) hc_65) dX12_feed_80 ?_
  refine lv_iload X.1 X.2.1 dX12_feed_83 (lv_at hl 0 rfl) ?_
  refine lv_bipush (v := 24) X.1 X.2.1 dX12_feed_85 (by decide) ?_
  refine lv_bipush (v := 8) X.1 X.2.1 dX12_feed_87 (by decide) ?_
  refine lv_iload X.1 X.2.1 dX12_feed_89 (lv_at hl 1 rfl) ?_
  refine lv_iconst (v := 4) X.1 X.2.1 dX12_feed_91 (by decide) ?_
  refine lv_irem X.1 X.2.1 dX12_feed_92 (by decide) ?_
  refine lv_topi (fun v_66 ev_66 => ?_)
  obtain rfl : v_66 = 3 := ev_66.trans (by decide)
  refine lv_imul X.1 X.2.1 dX12_feed_93 ?_
  refine lv_topi (fun v_67 ev_67 => ?_)
  obtain rfl : v_67 = 24 := ev_67.trans (by decide)
  refine lv_isub X.1 X.2.1 dX12_feed_94 ?_
  refine lv_topi (fun v_68 ev_68 => ?_)
  obtain rfl : v_68 = 0 := ev_68.trans (by decide)
  refine lv_ishr X.1 X.2.1 dX12_feed_95 ?_
  refine lv_topi (fun v_69 ev_69 => ?_)
  refine lv_i2b X.1 X.2.1 dX12_feed_96 rfl ?_
  refine lv_topi (fun v_70 ev_70 => ?_)
  refine r_bast X hw hat_q1227 (by rw [ln_q1227]; exact vp_in_iff.mpr (by decide)) dX12_feed_97 (fun H locs hw => ?_)
  generalize eS_71 : sA S_64 q1227 (upd (pA S_64 q1227) (Int32.toNatClampNeg 7) (vp_nar .byte v_70)) = S_71 at hw
  have hat_mo : At S_71 mo 12 := by rw [← eS_71]; exact hat_mo
  have hat_q1227 : At S_71 q1227 13 := by rw [← eS_71]; exact hat_q1227
  have rf_q1227 : pR S_71 1227 mo = some q1227 := by rw [← eS_71]; exact rf_q1227
  have hc_2 : pI S_71 1200 mo = 0 := by rw [← eS_71]; exact hc_2
  have hc_65 : pI S_71 1228 mo = 7 := by rw [← eS_71]; exact hc_65
  have ln_q1227 : pN S_71 q1227 = 400 := by rw [← eS_71]; exact ln_q1227
  refine lv_aload_n X.1 X.2.1 dX12_feed_98 rfl (lv_at hl 2 rfl) ?_
  refine lv_dup X.1 X.2.1 dX12_feed_99 rfl ?_
  refine r_get (v := .int 7) X hw hat_mo 28 (by decide) rfl inn_X12_feed_12 (by decide) (X.2.2.2.1 (.fieldLink RX12 211 "SilkMillModel" "taped" "I") (by decide +kernel)) rfl (congrArg (fun z => some (Value.int z)) hc_65) dX12_feed_100 ?_
  refine lv_iconst (v := 1) X.1 X.2.1 dX12_feed_103 (by decide) ?_
  refine lv_iadd X.1 X.2.1 dX12_feed_104 ?_
  refine lv_topi (fun v_72 ev_72 => ?_)
  obtain rfl : v_72 = 8 := ev_72.trans (by decide)
  refine r_putI (v := 8) X hw hat_mo 28 1228 tyX12 (by decide) rfl inn_X12_feed_12 tyX12_ok nmX12 (by decide) (X.2.2.2.1 (.fieldLink RX12 211 "SilkMillModel" "taped" "I") (by decide +kernel)) rfl (Or.inl rfl) rfl rfl (Nat.le_of_ble_eq_true rfl) (st_1228 _ _) dX12_feed_105 (fun H locs hw => ?_)
  generalize eS_73 : sI S_71 1228 mo 8 = S_73 at hw
  have hat_mo : At S_73 mo 12 := by rw [← eS_73]; exact hat_mo
  have hat_q1227 : At S_73 q1227 13 := by rw [← eS_73]; exact hat_q1227
  have rf_q1227 : pR S_73 1227 mo = some q1227 := by rw [← eS_73]; exact rf_q1227
  have hc_2 : pI S_73 1200 mo = 0 := by rw [← eS_73]; exact (pI_sI_nf (by decide)).trans hc_2
  have ln_q1227 : pN S_73 q1227 = 400 := by rw [← eS_73]; exact ln_q1227
  have hc_74 : pI S_73 1228 mo = 8 := by rw [← eS_73]; exact pI_sI_same
  refine lv_iinc (v := 8) (lv' := [(6, .int 8), (7, .int (a2)), (0, .ref mo), (1, .int (a1)), (2, .int (a2)), (3, .int (a3)), (4, .int (a4)), (5, .int (a5))]) X.1 X.2.1 dX12_feed_108 hl (k := 1) rfl (by decide) (by decide) rfl (fun ls hl => ?_)
  refine lv_goto (tgt := 20) X.1 X.2.1 dX12_feed_111 (by decide) ?_
  refine lv_iload X.1 X.2.1 dX12_feed_20 (lv_at hl 0 rfl) ?_
  refine lv_bipush (v := 20) X.1 X.2.1 dX12_feed_22 (by decide) ?_
  refine lv_icmp_ge (tgt := 114) X.1 X.2.1 dX12_feed_24 (by decide) (fun c_24 => absurd c_24 (by decide)) (fun c_24 => ?_)
  refine lv_iload X.1 X.2.1 dX12_feed_27 (lv_at hl 0 rfl) ?_
  refine lv_iconst (v := 4) X.1 X.2.1 dX12_feed_29 (by decide) ?_
  refine lv_icmp_ge (tgt := 37) X.1 X.2.1 dX12_feed_30 (by decide) (fun c_30 => ?_) (fun c_30 => absurd c_30 (by decide))
  refine lv_iload X.1 X.2.1 dX12_feed_37 (lv_at hl 0 rfl) ?_
  refine lv_bipush (v := 8) X.1 X.2.1 dX12_feed_39 (by decide) ?_
  refine lv_icmp_ge (tgt := 48) X.1 X.2.1 dX12_feed_41 (by decide) (fun c_41 => ?_) (fun c_41 => absurd c_41 (by decide))
  refine lv_iload X.1 X.2.1 dX12_feed_48 (lv_at hl 0 rfl) ?_
  refine lv_bipush (v := 12) X.1 X.2.1 dX12_feed_50 (by decide) ?_
  refine lv_icmp_ge (tgt := 59) X.1 X.2.1 dX12_feed_52 (by decide) (fun c_52 => absurd c_52 (by decide)) (fun c_52 => ?_)
  refine lv_iload_n X.1 X.2.1 dX12_feed_55 rfl (lv_at hl 5 rfl) ?_
  refine lv_goto (tgt := 73) X.1 X.2.1 dX12_feed_56 (by decide) ?_
  refine lv_istore (lv' := [(7, .int (a3)), (6, .int 8), (0, .ref mo), (1, .int (a1)), (2, .int (a2)), (3, .int (a3)), (4, .int (a4)), (5, .int (a5))]) X.1 X.2.1 dX12_feed_73 hl (by decide) rfl (fun ls hl => ?_)
  refine lv_aload_n X.1 X.2.1 dX12_feed_75 rfl (lv_at hl 2 rfl) ?_
  refine r_getR (g := 1227) X hw hat_mo 27 rf_q1227 (by decide) rfl inn_X12_feed_12 (by decide) (X.2.2.2.1 (.fieldLink RX12 82 "SilkMillModel" "tape" "[B") (by decide +kernel)) rfl rfl dX12_feed_76 ?_
  refine lv_aload_n X.1 X.2.1 dX12_feed_79 rfl (lv_at hl 2 rfl) ?_
  refine r_get (v := .int 8) X hw hat_mo 28 (by decide) rfl inn_X12_feed_12 (by decide) (X.2.2.2.1 (.fieldLink RX12 211 "SilkMillModel" "taped" "I") (by decide +kernel)) rfl (congrArg (fun z => some (Value.int z)) hc_74) dX12_feed_80 ?_
  refine lv_iload X.1 X.2.1 dX12_feed_83 (lv_at hl 0 rfl) ?_
  refine lv_bipush (v := 24) X.1 X.2.1 dX12_feed_85 (by decide) ?_
  refine lv_bipush (v := 8) X.1 X.2.1 dX12_feed_87 (by decide) ?_
  refine lv_iload X.1 X.2.1 dX12_feed_89 (lv_at hl 1 rfl) ?_
  refine lv_iconst (v := 4) X.1 X.2.1 dX12_feed_91 (by decide) ?_
  refine lv_irem X.1 X.2.1 dX12_feed_92 (by decide) ?_
  refine lv_topi (fun v_75 ev_75 => ?_)
  obtain rfl : v_75 = 0 := ev_75.trans (by decide)
  refine lv_imul X.1 X.2.1 dX12_feed_93 ?_
  refine lv_topi (fun v_76 ev_76 => ?_)
  obtain rfl : v_76 = 0 := ev_76.trans (by decide)
  refine lv_isub X.1 X.2.1 dX12_feed_94 ?_
  refine lv_topi (fun v_77 ev_77 => ?_)
  obtain rfl : v_77 = 24 := ev_77.trans (by decide)
  refine lv_ishr X.1 X.2.1 dX12_feed_95 ?_
  refine lv_topi (fun v_78 ev_78 => ?_)
  refine lv_i2b X.1 X.2.1 dX12_feed_96 rfl ?_
  refine lv_topi (fun v_79 ev_79 => ?_)
  refine r_bast X hw hat_q1227 (by rw [ln_q1227]; exact vp_in_iff.mpr (by decide)) dX12_feed_97 (fun H locs hw => ?_)
  generalize eS_80 : sA S_73 q1227 (upd (pA S_73 q1227) (Int32.toNatClampNeg 8) (vp_nar .byte v_79)) = S_80 at hw
  have hat_mo : At S_80 mo 12 := by rw [← eS_80]; exact hat_mo
  have hat_q1227 : At S_80 q1227 13 := by rw [← eS_80]; exact hat_q1227
  have rf_q1227 : pR S_80 1227 mo = some q1227 := by rw [← eS_80]; exact rf_q1227
  have hc_2 : pI S_80 1200 mo = 0 := by rw [← eS_80]; exact hc_2
  have hc_74 : pI S_80 1228 mo = 8 := by rw [← eS_80]; exact hc_74
  have ln_q1227 : pN S_80 q1227 = 400 := by rw [← eS_80]; exact ln_q1227
  refine lv_aload_n X.1 X.2.1 dX12_feed_98 rfl (lv_at hl 2 rfl) ?_
  refine lv_dup X.1 X.2.1 dX12_feed_99 rfl ?_
  refine r_get (v := .int 8) X hw hat_mo 28 (by decide) rfl inn_X12_feed_12 (by decide) (X.2.2.2.1 (.fieldLink RX12 211 "SilkMillModel" "taped" "I") (by decide +kernel)) rfl (congrArg (fun z => some (Value.int z)) hc_74) dX12_feed_100 ?_
  refine lv_iconst (v := 1) X.1 X.2.1 dX12_feed_103 (by decide) ?_
  refine lv_iadd X.1 X.2.1 dX12_feed_104 ?_
  refine lv_topi (fun v_81 ev_81 => ?_)
  obtain rfl : v_81 = 9 := ev_81.trans (by decide)
  refine r_putI (v := 9) X hw hat_mo 28 1228 tyX12 (by decide) rfl inn_X12_feed_12 tyX12_ok nmX12 (by decide) (X.2.2.2.1 (.fieldLink RX12 211 "SilkMillModel" "taped" "I") (by decide +kernel)) rfl (Or.inl rfl) rfl rfl (Nat.le_of_ble_eq_true rfl) (st_1228 _ _) dX12_feed_105 (fun H locs hw => ?_)
  generalize eS_82 : sI S_80 1228 mo 9 = S_82 at hw
  have hat_mo : At S_82 mo 12 := by rw [← eS_82]; exact hat_mo
  have hat_q1227 : At S_82 q1227 13 := by rw [← eS_82]; exact hat_q1227
  have rf_q1227 : pR S_82 1227 mo = some q1227 := by rw [← eS_82]; exact rf_q1227
  have hc_2 : pI S_82 1200 mo = 0 := by rw [← eS_82]; exact (pI_sI_nf (by decide)).trans hc_2
  have ln_q1227 : pN S_82 q1227 = 400 := by rw [← eS_82]; exact ln_q1227
  have hc_83 : pI S_82 1228 mo = 9 := by rw [← eS_82]; exact pI_sI_same
  refine lv_iinc (v := 9) (lv' := [(6, .int 9), (7, .int (a3)), (0, .ref mo), (1, .int (a1)), (2, .int (a2)), (3, .int (a3)), (4, .int (a4)), (5, .int (a5))]) X.1 X.2.1 dX12_feed_108 hl (k := 1) rfl (by decide) (by decide) rfl (fun ls hl => ?_)
  refine lv_goto (tgt := 20) X.1 X.2.1 dX12_feed_111 (by decide) ?_
  refine lv_iload X.1 X.2.1 dX12_feed_20 (lv_at hl 0 rfl) ?_
  refine lv_bipush (v := 20) X.1 X.2.1 dX12_feed_22 (by decide) ?_
  refine lv_icmp_ge (tgt := 114) X.1 X.2.1 dX12_feed_24 (by decide) (fun c_24 => absurd c_24 (by decide)) (fun c_24 => ?_)
  refine lv_iload X.1 X.2.1 dX12_feed_27 (lv_at hl 0 rfl) ?_
  refine lv_iconst (v := 4) X.1 X.2.1 dX12_feed_29 (by decide) ?_
  refine lv_icmp_ge (tgt := 37) X.1 X.2.1 dX12_feed_30 (by decide) (fun c_30 => ?_) (fun c_30 => absurd c_30 (by decide))
  refine lv_iload X.1 X.2.1 dX12_feed_37 (lv_at hl 0 rfl) ?_
  refine lv_bipush (v := 8) X.1 X.2.1 dX12_feed_39 (by decide) ?_
  refine lv_icmp_ge (tgt := 48) X.1 X.2.1 dX12_feed_41 (by decide) (fun c_41 => ?_) (fun c_41 => absurd c_41 (by decide))
  refine lv_iload X.1 X.2.1 dX12_feed_48 (lv_at hl 0 rfl) ?_
  refine lv_bipush (v := 12) X.1 X.2.1 dX12_feed_50 (by decide) ?_
  refine lv_icmp_ge (tgt := 59) X.1 X.2.1 dX12_feed_52 (by decide) (fun c_52 => absurd c_52 (by decide)) (fun c_52 => ?_)
  refine lv_iload_n X.1 X.2.1 dX12_feed_55 rfl (lv_at hl 5 rfl) ?_
  refine lv_goto (tgt := 73) X.1 X.2.1 dX12_feed_56 (by decide) ?_
  refine lv_istore (lv' := [(7, .int (a3)), (6, .int 9), (0, .ref mo), (1, .int (a1)), (2, .int (a2)), (3, .int (a3)), (4, .int (a4)), (5, .int (a5))]) X.1 X.2.1 dX12_feed_73 hl (by decide) rfl (fun ls hl => ?_)
  refine lv_aload_n X.1 X.2.1 dX12_feed_75 rfl (lv_at hl 2 rfl) ?_
  refine r_getR (g := 1227) X hw hat_mo 27 rf_q1227 (by decide) rfl inn_X12_feed_12 (by decide) (X.2.2.2.1 (.fieldLink RX12 82 "SilkMillModel" "tape" "[B") (by decide +kernel)) rfl rfl dX12_feed_76 ?_
  refine lv_aload_n X.1 X.2.1 dX12_feed_79 rfl (lv_at hl 2 rfl) ?_
  refine r_get (v := .int 9) X hw hat_mo 28 (by decide) rfl inn_X12_feed_12 (by decide) (X.2.2.2.1 (.fieldLink RX12 211 "SilkMillModel" "taped" "I") (by decide +kernel)) rfl (congrArg (fun z => some (Value.int z)) hc_83) dX12_feed_80 ?_
  refine lv_iload X.1 X.2.1 dX12_feed_83 (lv_at hl 0 rfl) ?_
  refine lv_bipush (v := 24) X.1 X.2.1 dX12_feed_85 (by decide) ?_
  refine lv_bipush (v := 8) X.1 X.2.1 dX12_feed_87 (by decide) ?_
  refine lv_iload X.1 X.2.1 dX12_feed_89 (lv_at hl 1 rfl) ?_
  refine lv_iconst (v := 4) X.1 X.2.1 dX12_feed_91 (by decide) ?_
  refine lv_irem X.1 X.2.1 dX12_feed_92 (by decide) ?_
  refine lv_topi (fun v_84 ev_84 => ?_)
  obtain rfl : v_84 = 1 := ev_84.trans (by decide)
  refine lv_imul X.1 X.2.1 dX12_feed_93 ?_
  refine lv_topi (fun v_85 ev_85 => ?_)
  obtain rfl : v_85 = 8 := ev_85.trans (by decide)
  refine lv_isub X.1 X.2.1 dX12_feed_94 ?_
  refine lv_topi (fun v_86 ev_86 => ?_)
  obtain rfl : v_86 = 16 := ev_86.trans (by decide)
  refine lv_ishr X.1 X.2.1 dX12_feed_95 ?_
  refine lv_topi (fun v_87 ev_87 => ?_)
  refine lv_i2b X.1 X.2.1 dX12_feed_96 rfl ?_
  refine lv_topi (fun v_88 ev_88 => ?_)
  refine r_bast X hw hat_q1227 (by rw [ln_q1227]; exact vp_in_iff.mpr (by decide)) dX12_feed_97 (fun H locs hw => ?_)
  generalize eS_89 : sA S_82 q1227 (upd (pA S_82 q1227) (Int32.toNatClampNeg 9) (vp_nar .byte v_88)) = S_89 at hw
  have hat_mo : At S_89 mo 12 := by rw [← eS_89]; exact hat_mo
  have hat_q1227 : At S_89 q1227 13 := by rw [← eS_89]; exact hat_q1227
  have rf_q1227 : pR S_89 1227 mo = some q1227 := by rw [← eS_89]; exact rf_q1227
  have hc_2 : pI S_89 1200 mo = 0 := by rw [← eS_89]; exact hc_2
  have hc_83 : pI S_89 1228 mo = 9 := by rw [← eS_89]; exact hc_83
  have ln_q1227 : pN S_89 q1227 = 400 := by rw [← eS_89]; exact ln_q1227
  refine lv_aload_n X.1 X.2.1 dX12_feed_98 rfl (lv_at hl 2 rfl) ?_
  refine lv_dup X.1 X.2.1 dX12_feed_99 rfl ?_
  refine r_get (v := .int 9) X hw hat_mo 28 (by decide) rfl inn_X12_feed_12 (by decide) (X.2.2.2.1 (.fieldLink RX12 211 "SilkMillModel" "taped" "I") (by decide +kernel)) rfl (congrArg (fun z => some (Value.int z)) hc_83) dX12_feed_100 ?_
  refine lv_iconst (v := 1) X.1 X.2.1 dX12_feed_103 (by decide) ?_
  refine lv_iadd X.1 X.2.1 dX12_feed_104 ?_
  refine lv_topi (fun v_90 ev_90 => ?_)
  obtain rfl : v_90 = 10 := ev_90.trans (by decide)
  refine r_putI (v := 10) X hw hat_mo 28 1228 tyX12 (by decide) rfl inn_X12_feed_12 tyX12_ok nmX12 (by decide) (X.2.2.2.1 (.fieldLink RX12 211 "SilkMillModel" "taped" "I") (by decide +kernel)) rfl (Or.inl rfl) rfl rfl (Nat.le_of_ble_eq_true rfl) (st_1228 _ _) dX12_feed_105 (fun H locs hw => ?_)
  generalize eS_91 : sI S_89 1228 mo 10 = S_91 at hw
  have hat_mo : At S_91 mo 12 := by rw [← eS_91]; exact hat_mo
  have hat_q1227 : At S_91 q1227 13 := by rw [← eS_91]; exact hat_q1227
  have rf_q1227 : pR S_91 1227 mo = some q1227 := by rw [← eS_91]; exact rf_q1227
  have hc_2 : pI S_91 1200 mo = 0 := by rw [← eS_91]; exact (pI_sI_nf (by decide)).trans hc_2
  have ln_q1227 : pN S_91 q1227 = 400 := by rw [← eS_91]; exact ln_q1227
  have hc_92 : pI S_91 1228 mo = 10 := by rw [← eS_91]; exact pI_sI_same
  refine lv_iinc (v := 10) (lv' := [(6, .int 10), (7, .int (a3)), (0, .ref mo), (1, .int (a1)), (2, .int (a2)), (3, .int (a3)), (4, .int (a4)), (5, .int (a5))]) X.1 X.2.1 dX12_feed_108 hl (k := 1) rfl (by decide) (by decide) rfl (fun ls hl => ?_)
  refine lv_goto (tgt := 20) X.1 X.2.1 dX12_feed_111 (by decide) ?_
  refine lv_iload X.1 X.2.1 dX12_feed_20 (lv_at hl 0 rfl) ?_
  refine lv_bipush (v := 20) X.1 X.2.1 dX12_feed_22 (by decide) ?_
  refine lv_icmp_ge (tgt := 114) X.1 X.2.1 dX12_feed_24 (by decide) (fun c_24 => absurd c_24 (by decide)) (fun c_24 => ?_)
  refine lv_iload X.1 X.2.1 dX12_feed_27 (lv_at hl 0 rfl) ?_
  refine lv_iconst (v := 4) X.1 X.2.1 dX12_feed_29 (by decide) ?_
  refine lv_icmp_ge (tgt := 37) X.1 X.2.1 dX12_feed_30 (by decide) (fun c_30 => ?_) (fun c_30 => absurd c_30 (by decide))
  refine lv_iload X.1 X.2.1 dX12_feed_37 (lv_at hl 0 rfl) ?_
  refine lv_bipush (v := 8) X.1 X.2.1 dX12_feed_39 (by decide) ?_
  refine lv_icmp_ge (tgt := 48) X.1 X.2.1 dX12_feed_41 (by decide) (fun c_41 => ?_) (fun c_41 => absurd c_41 (by decide))
  refine lv_iload X.1 X.2.1 dX12_feed_48 (lv_at hl 0 rfl) ?_
  refine lv_bipush (v := 12) X.1 X.2.1 dX12_feed_50 (by decide) ?_
  refine lv_icmp_ge (tgt := 59) X.1 X.2.1 dX12_feed_52 (by decide) (fun c_52 => absurd c_52 (by decide)) (fun c_52 => ?_)
  refine lv_iload_n X.1 X.2.1 dX12_feed_55 rfl (lv_at hl 5 rfl) ?_
  refine lv_goto (tgt := 73) X.1 X.2.1 dX12_feed_56 (by decide) ?_
  refine lv_istore (lv' := [(7, .int (a3)), (6, .int 10), (0, .ref mo), (1, .int (a1)), (2, .int (a2)), (3, .int (a3)), (4, .int (a4)), (5, .int (a5))]) X.1 X.2.1 dX12_feed_73 hl (by decide) rfl (fun ls hl => ?_)
  refine lv_aload_n X.1 X.2.1 dX12_feed_75 rfl (lv_at hl 2 rfl) ?_
  refine r_getR (g := 1227) X hw hat_mo 27 rf_q1227 (by decide) rfl inn_X12_feed_12 (by decide) (X.2.2.2.1 (.fieldLink RX12 82 "SilkMillModel" "tape" "[B") (by decide +kernel)) rfl rfl dX12_feed_76 ?_
  refine lv_aload_n X.1 X.2.1 dX12_feed_79 rfl (lv_at hl 2 rfl) ?_
  refine r_get (v := .int 10) X hw hat_mo 28 (by decide) rfl inn_X12_feed_12 (by decide) (X.2.2.2.1 (.fieldLink RX12 211 "SilkMillModel" "taped" "I") (by decide +kernel)) rfl (congrArg (fun z => some (Value.int z)) hc_92) dX12_feed_80 ?_
  refine lv_iload X.1 X.2.1 dX12_feed_83 (lv_at hl 0 rfl) ?_
  refine lv_bipush (v := 24) X.1 X.2.1 dX12_feed_85 (by decide) ?_
  refine lv_bipush (v := 8) X.1 X.2.1 dX12_feed_87 (by decide) ?_
  refine lv_iload X.1 X.2.1 dX12_feed_89 (lv_at hl 1 rfl) ?_
  refine lv_iconst (v := 4) X.1 X.2.1 dX12_feed_91 (by decide) ?_
  refine lv_irem X.1 X.2.1 dX12_feed_92 (by decide) ?_
  refine lv_topi (fun v_93 ev_93 => ?_)
  obtain rfl : v_93 = 2 := ev_93.trans (by decide)
  refine lv_imul X.1 X.2.1 dX12_feed_93 ?_
  refine lv_topi (fun v_94 ev_94 => ?_)
  obtain rfl : v_94 = 16 := ev_94.trans (by decide)
  refine lv_isub X.1 X.2.1 dX12_feed_94 ?_
  refine lv_topi (fun v_95 ev_95 => ?_)
  obtain rfl : v_95 = 8 := ev_95.trans (by decide)
  refine lv_ishr X.1 X.2.1 dX12_feed_95 ?_
  refine lv_topi (fun v_96 ev_96 => ?_)
  refine lv_i2b X.1 X.2.1 dX12_feed_96 rfl ?_
  refine lv_topi (fun v_97 ev_97 => ?_)
  refine r_bast X hw hat_q1227 (by rw [ln_q1227]; exact vp_in_iff.mpr (by decide)) dX12_feed_97 (fun H locs hw => ?_)
  generalize eS_98 : sA S_91 q1227 (upd (pA S_91 q1227) (Int32.toNatClampNeg 10) (vp_nar .byte v_97)) = S_98 at hw
  have hat_mo : At S_98 mo 12 := by rw [← eS_98]; exact hat_mo
  have hat_q1227 : At S_98 q1227 13 := by rw [← eS_98]; exact hat_q1227
  have rf_q1227 : pR S_98 1227 mo = some q1227 := by rw [← eS_98]; exact rf_q1227
  have hc_2 : pI S_98 1200 mo = 0 := by rw [← eS_98]; exact hc_2
  have hc_92 : pI S_98 1228 mo = 10 := by rw [← eS_98]; exact hc_92
  have ln_q1227 : pN S_98 q1227 = 400 := by rw [← eS_98]; exact ln_q1227
  refine lv_aload_n X.1 X.2.1 dX12_feed_98 rfl (lv_at hl 2 rfl) ?_
  refine lv_dup X.1 X.2.1 dX12_feed_99 rfl ?_
  refine r_get (v := .int 10) X hw hat_mo 28 (by decide) rfl inn_X12_feed_12 (by decide) (X.2.2.2.1 (.fieldLink RX12 211 "SilkMillModel" "taped" "I") (by decide +kernel)) rfl (congrArg (fun z => some (Value.int z)) hc_92) dX12_feed_100 ?_
  refine lv_iconst (v := 1) X.1 X.2.1 dX12_feed_103 (by decide) ?_
  refine lv_iadd X.1 X.2.1 dX12_feed_104 ?_
  refine lv_topi (fun v_99 ev_99 => ?_)
  obtain rfl : v_99 = 11 := ev_99.trans (by decide)
  refine r_putI (v := 11) X hw hat_mo 28 1228 tyX12 (by decide) rfl inn_X12_feed_12 tyX12_ok nmX12 (by decide) (X.2.2.2.1 (.fieldLink RX12 211 "SilkMillModel" "taped" "I") (by decide +kernel)) rfl (Or.inl rfl) rfl rfl (Nat.le_of_ble_eq_true rfl) (st_1228 _ _) dX12_feed_105 (fun H locs hw => ?_)
  generalize eS_100 : sI S_98 1228 mo 11 = S_100 at hw
  have hat_mo : At S_100 mo 12 := by rw [← eS_100]; exact hat_mo
  have hat_q1227 : At S_100 q1227 13 := by rw [← eS_100]; exact hat_q1227
  have rf_q1227 : pR S_100 1227 mo = some q1227 := by rw [← eS_100]; exact rf_q1227
  have hc_2 : pI S_100 1200 mo = 0 := by rw [← eS_100]; exact (pI_sI_nf (by decide)).trans hc_2
  have ln_q1227 : pN S_100 q1227 = 400 := by rw [← eS_100]; exact ln_q1227
  have hc_101 : pI S_100 1228 mo = 11 := by rw [← eS_100]; exact pI_sI_same
  refine lv_iinc (v := 11) (lv' := [(6, .int 11), (7, .int (a3)), (0, .ref mo), (1, .int (a1)), (2, .int (a2)), (3, .int (a3)), (4, .int (a4)), (5, .int (a5))]) X.1 X.2.1 dX12_feed_108 hl (k := 1) rfl (by decide) (by decide) rfl (fun ls hl => ?_)
  refine lv_goto (tgt := 20) X.1 X.2.1 dX12_feed_111 (by decide) ?_
  refine lv_iload X.1 X.2.1 dX12_feed_20 (lv_at hl 0 rfl) ?_
  refine lv_bipush (v := 20) X.1 X.2.1 dX12_feed_22 (by decide) ?_
  refine lv_icmp_ge (tgt := 114) X.1 X.2.1 dX12_feed_24 (by decide) (fun c_24 => absurd c_24 (by decide)) (fun c_24 => ?_)
  refine lv_iload X.1 X.2.1 dX12_feed_27 (lv_at hl 0 rfl) ?_
  refine lv_iconst (v := 4) X.1 X.2.1 dX12_feed_29 (by decide) ?_
  refine lv_icmp_ge (tgt := 37) X.1 X.2.1 dX12_feed_30 (by decide) (fun c_30 => ?_) (fun c_30 => absurd c_30 (by decide))
  refine lv_iload X.1 X.2.1 dX12_feed_37 (lv_at hl 0 rfl) ?_
  refine lv_bipush (v := 8) X.1 X.2.1 dX12_feed_39 (by decide) ?_
  refine lv_icmp_ge (tgt := 48) X.1 X.2.1 dX12_feed_41 (by decide) (fun c_41 => ?_) (fun c_41 => absurd c_41 (by decide))
  refine lv_iload X.1 X.2.1 dX12_feed_48 (lv_at hl 0 rfl) ?_
  refine lv_bipush (v := 12) X.1 X.2.1 dX12_feed_50 (by decide) ?_
  refine lv_icmp_ge (tgt := 59) X.1 X.2.1 dX12_feed_52 (by decide) (fun c_52 => absurd c_52 (by decide)) (fun c_52 => ?_)
  refine lv_iload_n X.1 X.2.1 dX12_feed_55 rfl (lv_at hl 5 rfl) ?_
  refine lv_goto (tgt := 73) X.1 X.2.1 dX12_feed_56 (by decide) ?_
  refine lv_istore (lv' := [(7, .int (a3)), (6, .int 11), (0, .ref mo), (1, .int (a1)), (2, .int (a2)), (3, .int (a3)), (4, .int (a4)), (5, .int (a5))]) X.1 X.2.1 dX12_feed_73 hl (by decide) rfl (fun ls hl => ?_)
  refine lv_aload_n X.1 X.2.1 dX12_feed_75 rfl (lv_at hl 2 rfl) ?_
  refine r_getR (g := 1227) X hw hat_mo 27 rf_q1227 (by decide) rfl inn_X12_feed_12 (by decide) (X.2.2.2.1 (.fieldLink RX12 82 "SilkMillModel" "tape" "[B") (by decide +kernel)) rfl rfl dX12_feed_76 ?_
  refine lv_aload_n X.1 X.2.1 dX12_feed_79 rfl (lv_at hl 2 rfl) ?_
  refine r_get (v := .int 11) X hw hat_mo 28 (by decide) rfl inn_X12_feed_12 (by decide) (X.2.2.2.1 (.fieldLink RX12 211 "SilkMillModel" "taped" "I") (by decide +kernel)) rfl (congrArg (fun z => some (Value.int z)) hc_101) dX12_feed_80 ?_
  refine lv_iload X.1 X.2.1 dX12_feed_83 (lv_at hl 0 rfl) ?_
  refine lv_bipush (v := 24) X.1 X.2.1 dX12_feed_85 (by decide) ?_
  refine lv_bipush (v := 8) X.1 X.2.1 dX12_feed_87 (by decide) ?_
  refine lv_iload X.1 X.2.1 dX12_feed_89 (lv_at hl 1 rfl) ?_
  refine lv_iconst (v := 4) X.1 X.2.1 dX12_feed_91 (by decide) ?_
  refine lv_irem X.1 X.2.1 dX12_feed_92 (by decide) ?_
  refine lv_topi (fun v_102 ev_102 => ?_)
  obtain rfl : v_102 = 3 := ev_102.trans (by decide)
  refine lv_imul X.1 X.2.1 dX12_feed_93 ?_
  refine lv_topi (fun v_103 ev_103 => ?_)
  obtain rfl : v_103 = 24 := ev_103.trans (by decide)
  refine lv_isub X.1 X.2.1 dX12_feed_94 ?_
  refine lv_topi (fun v_104 ev_104 => ?_)
  obtain rfl : v_104 = 0 := ev_104.trans (by decide)
  refine lv_ishr X.1 X.2.1 dX12_feed_95 ?_
  refine lv_topi (fun v_105 ev_105 => ?_)
  refine lv_i2b X.1 X.2.1 dX12_feed_96 rfl ?_
  refine lv_topi (fun v_106 ev_106 => ?_)
  refine r_bast X hw hat_q1227 (by rw [ln_q1227]; exact vp_in_iff.mpr (by decide)) dX12_feed_97 (fun H locs hw => ?_)
  generalize eS_107 : sA S_100 q1227 (upd (pA S_100 q1227) (Int32.toNatClampNeg 11) (vp_nar .byte v_106)) = S_107 at hw
  have hat_mo : At S_107 mo 12 := by rw [← eS_107]; exact hat_mo
  have hat_q1227 : At S_107 q1227 13 := by rw [← eS_107]; exact hat_q1227
  have rf_q1227 : pR S_107 1227 mo = some q1227 := by rw [← eS_107]; exact rf_q1227
  have hc_2 : pI S_107 1200 mo = 0 := by rw [← eS_107]; exact hc_2
  have hc_101 : pI S_107 1228 mo = 11 := by rw [← eS_107]; exact hc_101
  have ln_q1227 : pN S_107 q1227 = 400 := by rw [← eS_107]; exact ln_q1227
  refine lv_aload_n X.1 X.2.1 dX12_feed_98 rfl (lv_at hl 2 rfl) ?_
  refine lv_dup X.1 X.2.1 dX12_feed_99 rfl ?_
  refine r_get (v := .int 11) X hw hat_mo 28 (by decide) rfl inn_X12_feed_12 (by decide) (X.2.2.2.1 (.fieldLink RX12 211 "SilkMillModel" "taped" "I") (by decide +kernel)) rfl (congrArg (fun z => some (Value.int z)) hc_101) dX12_feed_100 ?_
  refine lv_iconst (v := 1) X.1 X.2.1 dX12_feed_103 (by decide) ?_
  refine lv_iadd X.1 X.2.1 dX12_feed_104 ?_
  refine lv_topi (fun v_108 ev_108 => ?_)
  obtain rfl : v_108 = 12 := ev_108.trans (by decide)
  refine r_putI (v := 12) X hw hat_mo 28 1228 tyX12 (by decide) rfl inn_X12_feed_12 tyX12_ok nmX12 (by decide) (X.2.2.2.1 (.fieldLink RX12 211 "SilkMillModel" "taped" "I") (by decide +kernel)) rfl (Or.inl rfl) rfl rfl (Nat.le_of_ble_eq_true rfl) (st_1228 _ _) dX12_feed_105 (fun H locs hw => ?_)
  generalize eS_109 : sI S_107 1228 mo 12 = S_109 at hw
  have hat_mo : At S_109 mo 12 := by rw [← eS_109]; exact hat_mo
  have hat_q1227 : At S_109 q1227 13 := by rw [← eS_109]; exact hat_q1227
  have rf_q1227 : pR S_109 1227 mo = some q1227 := by rw [← eS_109]; exact rf_q1227
  have hc_2 : pI S_109 1200 mo = 0 := by rw [← eS_109]; exact (pI_sI_nf (by decide)).trans hc_2
  have ln_q1227 : pN S_109 q1227 = 400 := by rw [← eS_109]; exact ln_q1227
  have hc_110 : pI S_109 1228 mo = 12 := by rw [← eS_109]; exact pI_sI_same
  refine lv_iinc (v := 12) (lv' := [(6, .int 12), (7, .int (a3)), (0, .ref mo), (1, .int (a1)), (2, .int (a2)), (3, .int (a3)), (4, .int (a4)), (5, .int (a5))]) X.1 X.2.1 dX12_feed_108 hl (k := 1) rfl (by decide) (by decide) rfl (fun ls hl => ?_)
  refine lv_goto (tgt := 20) X.1 X.2.1 dX12_feed_111 (by decide) ?_
  refine lv_iload X.1 X.2.1 dX12_feed_20 (lv_at hl 0 rfl) ?_
  refine lv_bipush (v := 20) X.1 X.2.1 dX12_feed_22 (by decide) ?_
  refine lv_icmp_ge (tgt := 114) X.1 X.2.1 dX12_feed_24 (by decide) (fun c_24 => absurd c_24 (by decide)) (fun c_24 => ?_)
  refine lv_iload X.1 X.2.1 dX12_feed_27 (lv_at hl 0 rfl) ?_
  refine lv_iconst (v := 4) X.1 X.2.1 dX12_feed_29 (by decide) ?_
  refine lv_icmp_ge (tgt := 37) X.1 X.2.1 dX12_feed_30 (by decide) (fun c_30 => ?_) (fun c_30 => absurd c_30 (by decide))
  refine lv_iload X.1 X.2.1 dX12_feed_37 (lv_at hl 0 rfl) ?_
  refine lv_bipush (v := 8) X.1 X.2.1 dX12_feed_39 (by decide) ?_
  refine lv_icmp_ge (tgt := 48) X.1 X.2.1 dX12_feed_41 (by decide) (fun c_41 => ?_) (fun c_41 => absurd c_41 (by decide))
  refine lv_iload X.1 X.2.1 dX12_feed_48 (lv_at hl 0 rfl) ?_
  refine lv_bipush (v := 12) X.1 X.2.1 dX12_feed_50 (by decide) ?_
  refine lv_icmp_ge (tgt := 59) X.1 X.2.1 dX12_feed_52 (by decide) (fun c_52 => ?_) (fun c_52 => absurd c_52 (by decide))
  refine lv_iload X.1 X.2.1 dX12_feed_59 (lv_at hl 0 rfl) ?_
  refine lv_bipush (v := 16) X.1 X.2.1 dX12_feed_61 (by decide) ?_
  refine lv_icmp_ge (tgt := 71) X.1 X.2.1 dX12_feed_63 (by decide) (fun c_63 => absurd c_63 (by decide)) (fun c_63 => ?_)
  refine lv_iload X.1 X.2.1 dX12_feed_66 (lv_at hl 6 rfl) ?_
  refine lv_goto (tgt := 73) X.1 X.2.1 dX12_feed_68 (by decide) ?_
  refine lv_istore (lv' := [(7, .int (a4)), (6, .int 12), (0, .ref mo), (1, .int (a1)), (2, .int (a2)), (3, .int (a3)), (4, .int (a4)), (5, .int (a5))]) X.1 X.2.1 dX12_feed_73 hl (by decide) rfl (fun ls hl => ?_)
  refine lv_aload_n X.1 X.2.1 dX12_feed_75 rfl (lv_at hl 2 rfl) ?_
  refine r_getR (g := 1227) X hw hat_mo 27 rf_q1227 (by decide) rfl inn_X12_feed_12 (by decide) (X.2.2.2.1 (.fieldLink RX12 82 "SilkMillModel" "tape" "[B") (by decide +kernel)) rfl rfl dX12_feed_76 ?_
  refine lv_aload_n X.1 X.2.1 dX12_feed_79 rfl (lv_at hl 2 rfl) ?_
  refine r_get (v := .int 12) X hw hat_mo 28 (by decide) rfl inn_X12_feed_12 (by decide) (X.2.2.2.1 (.fieldLink RX12 211 "SilkMillModel" "taped" "I") (by decide +kernel)) rfl (congrArg (fun z => some (Value.int z)) hc_110) dX12_feed_80 ?_
  refine lv_iload X.1 X.2.1 dX12_feed_83 (lv_at hl 0 rfl) ?_
  refine lv_bipush (v := 24) X.1 X.2.1 dX12_feed_85 (by decide) ?_
  refine lv_bipush (v := 8) X.1 X.2.1 dX12_feed_87 (by decide) ?_
  refine lv_iload X.1 X.2.1 dX12_feed_89 (lv_at hl 1 rfl) ?_
  refine lv_iconst (v := 4) X.1 X.2.1 dX12_feed_91 (by decide) ?_
  refine lv_irem X.1 X.2.1 dX12_feed_92 (by decide) ?_
  refine lv_topi (fun v_111 ev_111 => ?_)
  obtain rfl : v_111 = 0 := ev_111.trans (by decide)
  refine lv_imul X.1 X.2.1 dX12_feed_93 ?_
  refine lv_topi (fun v_112 ev_112 => ?_)
  obtain rfl : v_112 = 0 := ev_112.trans (by decide)
  refine lv_isub X.1 X.2.1 dX12_feed_94 ?_
  refine lv_topi (fun v_113 ev_113 => ?_)
  obtain rfl : v_113 = 24 := ev_113.trans (by decide)
  refine lv_ishr X.1 X.2.1 dX12_feed_95 ?_
  refine lv_topi (fun v_114 ev_114 => ?_)
  refine lv_i2b X.1 X.2.1 dX12_feed_96 rfl ?_
  refine lv_topi (fun v_115 ev_115 => ?_)
  refine r_bast X hw hat_q1227 (by rw [ln_q1227]; exact vp_in_iff.mpr (by decide)) dX12_feed_97 (fun H locs hw => ?_)
  generalize eS_116 : sA S_109 q1227 (upd (pA S_109 q1227) (Int32.toNatClampNeg 12) (vp_nar .byte v_115)) = S_116 at hw
  have hat_mo : At S_116 mo 12 := by rw [← eS_116]; exact hat_mo
  have hat_q1227 : At S_116 q1227 13 := by rw [← eS_116]; exact hat_q1227
  have rf_q1227 : pR S_116 1227 mo = some q1227 := by rw [← eS_116]; exact rf_q1227
  have hc_2 : pI S_116 1200 mo = 0 := by rw [← eS_116]; exact hc_2
  have hc_110 : pI S_116 1228 mo = 12 := by rw [← eS_116]; exact hc_110
  have ln_q1227 : pN S_116 q1227 = 400 := by rw [← eS_116]; exact ln_q1227
  refine lv_aload_n X.1 X.2.1 dX12_feed_98 rfl (lv_at hl 2 rfl) ?_
  refine lv_dup X.1 X.2.1 dX12_feed_99 rfl ?_
  refine r_get (v := .int 12) X hw hat_mo 28 (by decide) rfl inn_X12_feed_12 (by decide) (X.2.2.2.1 (.fieldLink RX12 211 "SilkMillModel" "taped" "I") (by decide +kernel)) rfl (congrArg (fun z => some (Value.int z)) hc_110) dX12_feed_100 ?_
  refine lv_iconst (v := 1) X.1 X.2.1 dX12_feed_103 (by decide) ?_
  refine lv_iadd X.1 X.2.1 dX12_feed_104 ?_
  refine lv_topi (fun v_117 ev_117 => ?_)
  obtain rfl : v_117 = 13 := ev_117.trans (by decide)
  refine r_putI (v := 13) X hw hat_mo 28 1228 tyX12 (by decide) rfl inn_X12_feed_12 tyX12_ok nmX12 (by decide) (X.2.2.2.1 (.fieldLink RX12 211 "SilkMillModel" "taped" "I") (by decide +kernel)) rfl (Or.inl rfl) rfl rfl (Nat.le_of_ble_eq_true rfl) (st_1228 _ _) dX12_feed_105 (fun H locs hw => ?_)
  generalize eS_118 : sI S_116 1228 mo 13 = S_118 at hw
  have hat_mo : At S_118 mo 12 := by rw [← eS_118]; exact hat_mo
  have hat_q1227 : At S_118 q1227 13 := by rw [← eS_118]; exact hat_q1227
  have rf_q1227 : pR S_118 1227 mo = some q1227 := by rw [← eS_118]; exact rf_q1227
  have hc_2 : pI S_118 1200 mo = 0 := by rw [← eS_118]; exact (pI_sI_nf (by decide)).trans hc_2
  have ln_q1227 : pN S_118 q1227 = 400 := by rw [← eS_118]; exact ln_q1227
  have hc_119 : pI S_118 1228 mo = 13 := by rw [← eS_118]; exact pI_sI_same
  refine lv_iinc (v := 13) (lv' := [(6, .int 13), (7, .int (a4)), (0, .ref mo), (1, .int (a1)), (2, .int (a2)), (3, .int (a3)), (4, .int (a4)), (5, .int (a5))]) X.1 X.2.1 dX12_feed_108 hl (k := 1) rfl (by decide) (by decide) rfl (fun ls hl => ?_)
  refine lv_goto (tgt := 20) X.1 X.2.1 dX12_feed_111 (by decide) ?_
  refine lv_iload X.1 X.2.1 dX12_feed_20 (lv_at hl 0 rfl) ?_
  refine lv_bipush (v := 20) X.1 X.2.1 dX12_feed_22 (by decide) ?_
  refine lv_icmp_ge (tgt := 114) X.1 X.2.1 dX12_feed_24 (by decide) (fun c_24 => absurd c_24 (by decide)) (fun c_24 => ?_)
  refine lv_iload X.1 X.2.1 dX12_feed_27 (lv_at hl 0 rfl) ?_
  refine lv_iconst (v := 4) X.1 X.2.1 dX12_feed_29 (by decide) ?_
  refine lv_icmp_ge (tgt := 37) X.1 X.2.1 dX12_feed_30 (by decide) (fun c_30 => ?_) (fun c_30 => absurd c_30 (by decide))
  refine lv_iload X.1 X.2.1 dX12_feed_37 (lv_at hl 0 rfl) ?_
  refine lv_bipush (v := 8) X.1 X.2.1 dX12_feed_39 (by decide) ?_
  refine lv_icmp_ge (tgt := 48) X.1 X.2.1 dX12_feed_41 (by decide) (fun c_41 => ?_) (fun c_41 => absurd c_41 (by decide))
  refine lv_iload X.1 X.2.1 dX12_feed_48 (lv_at hl 0 rfl) ?_
  refine lv_bipush (v := 12) X.1 X.2.1 dX12_feed_50 (by decide) ?_
  refine lv_icmp_ge (tgt := 59) X.1 X.2.1 dX12_feed_52 (by decide) (fun c_52 => ?_) (fun c_52 => absurd c_52 (by decide))
  refine lv_iload X.1 X.2.1 dX12_feed_59 (lv_at hl 0 rfl) ?_
  refine lv_bipush (v := 16) X.1 X.2.1 dX12_feed_61 (by decide) ?_
  refine lv_icmp_ge (tgt := 71) X.1 X.2.1 dX12_feed_63 (by decide) (fun c_63 => absurd c_63 (by decide)) (fun c_63 => ?_)
  refine lv_iload X.1 X.2.1 dX12_feed_66 (lv_at hl 6 rfl) ?_
  refine lv_goto (tgt := 73) X.1 X.2.1 dX12_feed_68 (by decide) ?_
  refine lv_istore (lv' := [(7, .int (a4)), (6, .int 13), (0, .ref mo), (1, .int (a1)), (2, .int (a2)), (3, .int (a3)), (4, .int (a4)), (5, .int (a5))]) X.1 X.2.1 dX12_feed_73 hl (by decide) rfl (fun ls hl => ?_)
  refine lv_aload_n X.1 X.2.1 dX12_feed_75 rfl (lv_at hl 2 rfl) ?_
  refine r_getR (g := 1227) X hw hat_mo 27 rf_q1227 (by decide) rfl inn_X12_feed_12 (by decide) (X.2.2.2.1 (.fieldLink RX12 82 "SilkMillModel" "tape" "[B") (by decide +kernel)) rfl rfl dX12_feed_76 ?_
  refine lv_aload_n X.1 X.2.1 dX12_feed_79 rfl (lv_at hl 2 rfl) ?_
  refine r_get (v := .int 13) X hw hat_mo 28 (by decide) rfl inn_X12_feed_12 (by decide) (X.2.2.2.1 (.fieldLink RX12 211 "SilkMillModel" "taped" "I") (by decide +kernel)) rfl (congrArg (fun z => some (Value.int z)) hc_119) dX12_feed_80 ?_
  refine lv_iload X.1 X.2.1 dX12_feed_83 (lv_at hl 0 rfl) ?_
  refine lv_bipush (v := 24) X.1 X.2.1 dX12_feed_85 (by decide) ?_
  refine lv_bipush (v := 8) X.1 X.2.1 dX12_feed_87 (by decide) ?_
  refine lv_iload X.1 X.2.1 dX12_feed_89 (lv_at hl 1 rfl) ?_
  refine lv_iconst (v := 4) X.1 X.2.1 dX12_feed_91 (by decide) ?_
  refine lv_irem X.1 X.2.1 dX12_feed_92 (by decide) ?_
  refine lv_topi (fun v_120 ev_120 => ?_)
  obtain rfl : v_120 = 1 := ev_120.trans (by decide)
  refine lv_imul X.1 X.2.1 dX12_feed_93 ?_
  refine lv_topi (fun v_121 ev_121 => ?_)
  obtain rfl : v_121 = 8 := ev_121.trans (by decide)
  refine lv_isub X.1 X.2.1 dX12_feed_94 ?_
  refine lv_topi (fun v_122 ev_122 => ?_)
  obtain rfl : v_122 = 16 := ev_122.trans (by decide)
  refine lv_ishr X.1 X.2.1 dX12_feed_95 ?_
  refine lv_topi (fun v_123 ev_123 => ?_)
  refine lv_i2b X.1 X.2.1 dX12_feed_96 rfl ?_
  refine lv_topi (fun v_124 ev_124 => ?_)
  refine r_bast X hw hat_q1227 (by rw [ln_q1227]; exact vp_in_iff.mpr (by decide)) dX12_feed_97 (fun H locs hw => ?_)
  generalize eS_125 : sA S_118 q1227 (upd (pA S_118 q1227) (Int32.toNatClampNeg 13) (vp_nar .byte v_124)) = S_125 at hw
  have hat_mo : At S_125 mo 12 := by rw [← eS_125]; exact hat_mo
  have hat_q1227 : At S_125 q1227 13 := by rw [← eS_125]; exact hat_q1227
  have rf_q1227 : pR S_125 1227 mo = some q1227 := by rw [← eS_125]; exact rf_q1227
  have hc_2 : pI S_125 1200 mo = 0 := by rw [← eS_125]; exact hc_2
  have hc_119 : pI S_125 1228 mo = 13 := by rw [← eS_125]; exact hc_119
  have ln_q1227 : pN S_125 q1227 = 400 := by rw [← eS_125]; exact ln_q1227
  refine lv_aload_n X.1 X.2.1 dX12_feed_98 rfl (lv_at hl 2 rfl) ?_
  refine lv_dup X.1 X.2.1 dX12_feed_99 rfl ?_
  refine r_get (v := .int 13) X hw hat_mo 28 (by decide) rfl inn_X12_feed_12 (by decide) (X.2.2.2.1 (.fieldLink RX12 211 "SilkMillModel" "taped" "I") (by decide +kernel)) rfl (congrArg (fun z => some (Value.int z)) hc_119) dX12_feed_100 ?_
  refine lv_iconst (v := 1) X.1 X.2.1 dX12_feed_103 (by decide) ?_
  refine lv_iadd X.1 X.2.1 dX12_feed_104 ?_
  refine lv_topi (fun v_126 ev_126 => ?_)
  obtain rfl : v_126 = 14 := ev_126.trans (by decide)
  refine r_putI (v := 14) X hw hat_mo 28 1228 tyX12 (by decide) rfl inn_X12_feed_12 tyX12_ok nmX12 (by decide) (X.2.2.2.1 (.fieldLink RX12 211 "SilkMillModel" "taped" "I") (by decide +kernel)) rfl (Or.inl rfl) rfl rfl (Nat.le_of_ble_eq_true rfl) (st_1228 _ _) dX12_feed_105 (fun H locs hw => ?_)
  generalize eS_127 : sI S_125 1228 mo 14 = S_127 at hw
  have hat_mo : At S_127 mo 12 := by rw [← eS_127]; exact hat_mo
  have hat_q1227 : At S_127 q1227 13 := by rw [← eS_127]; exact hat_q1227
  have rf_q1227 : pR S_127 1227 mo = some q1227 := by rw [← eS_127]; exact rf_q1227
  have hc_2 : pI S_127 1200 mo = 0 := by rw [← eS_127]; exact (pI_sI_nf (by decide)).trans hc_2
  have ln_q1227 : pN S_127 q1227 = 400 := by rw [← eS_127]; exact ln_q1227
  have hc_128 : pI S_127 1228 mo = 14 := by rw [← eS_127]; exact pI_sI_same
  refine lv_iinc (v := 14) (lv' := [(6, .int 14), (7, .int (a4)), (0, .ref mo), (1, .int (a1)), (2, .int (a2)), (3, .int (a3)), (4, .int (a4)), (5, .int (a5))]) X.1 X.2.1 dX12_feed_108 hl (k := 1) rfl (by decide) (by decide) rfl (fun ls hl => ?_)
  refine lv_goto (tgt := 20) X.1 X.2.1 dX12_feed_111 (by decide) ?_
  refine lv_iload X.1 X.2.1 dX12_feed_20 (lv_at hl 0 rfl) ?_
  refine lv_bipush (v := 20) X.1 X.2.1 dX12_feed_22 (by decide) ?_
  refine lv_icmp_ge (tgt := 114) X.1 X.2.1 dX12_feed_24 (by decide) (fun c_24 => absurd c_24 (by decide)) (fun c_24 => ?_)
  refine lv_iload X.1 X.2.1 dX12_feed_27 (lv_at hl 0 rfl) ?_
  refine lv_iconst (v := 4) X.1 X.2.1 dX12_feed_29 (by decide) ?_
  refine lv_icmp_ge (tgt := 37) X.1 X.2.1 dX12_feed_30 (by decide) (fun c_30 => ?_) (fun c_30 => absurd c_30 (by decide))
  refine lv_iload X.1 X.2.1 dX12_feed_37 (lv_at hl 0 rfl) ?_
  refine lv_bipush (v := 8) X.1 X.2.1 dX12_feed_39 (by decide) ?_
  refine lv_icmp_ge (tgt := 48) X.1 X.2.1 dX12_feed_41 (by decide) (fun c_41 => ?_) (fun c_41 => absurd c_41 (by decide))
  refine lv_iload X.1 X.2.1 dX12_feed_48 (lv_at hl 0 rfl) ?_
  refine lv_bipush (v := 12) X.1 X.2.1 dX12_feed_50 (by decide) ?_
  refine lv_icmp_ge (tgt := 59) X.1 X.2.1 dX12_feed_52 (by decide) (fun c_52 => ?_) (fun c_52 => absurd c_52 (by decide))
  refine lv_iload X.1 X.2.1 dX12_feed_59 (lv_at hl 0 rfl) ?_
  refine lv_bipush (v := 16) X.1 X.2.1 dX12_feed_61 (by decide) ?_
  refine lv_icmp_ge (tgt := 71) X.1 X.2.1 dX12_feed_63 (by decide) (fun c_63 => absurd c_63 (by decide)) (fun c_63 => ?_)
  refine lv_iload X.1 X.2.1 dX12_feed_66 (lv_at hl 6 rfl) ?_
  refine lv_goto (tgt := 73) X.1 X.2.1 dX12_feed_68 (by decide) ?_
  refine lv_istore (lv' := [(7, .int (a4)), (6, .int 14), (0, .ref mo), (1, .int (a1)), (2, .int (a2)), (3, .int (a3)), (4, .int (a4)), (5, .int (a5))]) X.1 X.2.1 dX12_feed_73 hl (by decide) rfl (fun ls hl => ?_)
  refine lv_aload_n X.1 X.2.1 dX12_feed_75 rfl (lv_at hl 2 rfl) ?_
  refine r_getR (g := 1227) X hw hat_mo 27 rf_q1227 (by decide) rfl inn_X12_feed_12 (by decide) (X.2.2.2.1 (.fieldLink RX12 82 "SilkMillModel" "tape" "[B") (by decide +kernel)) rfl rfl dX12_feed_76 ?_
  refine lv_aload_n X.1 X.2.1 dX12_feed_79 rfl (lv_at hl 2 rfl) ?_
  refine r_get (v := .int 14) X hw hat_mo 28 (by decide) rfl inn_X12_feed_12 (by decide) (X.2.2.2.1 (.fieldLink RX12 211 "SilkMillModel" "taped" "I") (by decide +kernel)) rfl (congrArg (fun z => some (Value.int z)) hc_128) dX12_feed_80 ?_
  refine lv_iload X.1 X.2.1 dX12_feed_83 (lv_at hl 0 rfl) ?_
  refine lv_bipush (v := 24) X.1 X.2.1 dX12_feed_85 (by decide) ?_
  refine lv_bipush (v := 8) X.1 X.2.1 dX12_feed_87 (by decide) ?_
  refine lv_iload X.1 X.2.1 dX12_feed_89 (lv_at hl 1 rfl) ?_
  refine lv_iconst (v := 4) X.1 X.2.1 dX12_feed_91 (by decide) ?_
  refine lv_irem X.1 X.2.1 dX12_feed_92 (by decide) ?_
  refine lv_topi (fun v_129 ev_129 => ?_)
  obtain rfl : v_129 = 2 := ev_129.trans (by decide)
  refine lv_imul X.1 X.2.1 dX12_feed_93 ?_
  refine lv_topi (fun v_130 ev_130 => ?_)
  obtain rfl : v_130 = 16 := ev_130.trans (by decide)
  refine lv_isub X.1 X.2.1 dX12_feed_94 ?_
  refine lv_topi (fun v_131 ev_131 => ?_)
  obtain rfl : v_131 = 8 := ev_131.trans (by decide)
  refine lv_ishr X.1 X.2.1 dX12_feed_95 ?_
  refine lv_topi (fun v_132 ev_132 => ?_)
  refine lv_i2b X.1 X.2.1 dX12_feed_96 rfl ?_
  refine lv_topi (fun v_133 ev_133 => ?_)
  refine r_bast X hw hat_q1227 (by rw [ln_q1227]; exact vp_in_iff.mpr (by decide)) dX12_feed_97 (fun H locs hw => ?_)
  generalize eS_134 : sA S_127 q1227 (upd (pA S_127 q1227) (Int32.toNatClampNeg 14) (vp_nar .byte v_133)) = S_134 at hw
  have hat_mo : At S_134 mo 12 := by rw [← eS_134]; exact hat_mo
  have hat_q1227 : At S_134 q1227 13 := by rw [← eS_134]; exact hat_q1227
  have rf_q1227 : pR S_134 1227 mo = some q1227 := by rw [← eS_134]; exact rf_q1227
  have hc_2 : pI S_134 1200 mo = 0 := by rw [← eS_134]; exact hc_2
  have hc_128 : pI S_134 1228 mo = 14 := by rw [← eS_134]; exact hc_128
  have ln_q1227 : pN S_134 q1227 = 400 := by rw [← eS_134]; exact ln_q1227
  refine lv_aload_n X.1 X.2.1 dX12_feed_98 rfl (lv_at hl 2 rfl) ?_
  refine lv_dup X.1 X.2.1 dX12_feed_99 rfl ?_
  refine r_get (v := .int 14) X hw hat_mo 28 (by decide) rfl inn_X12_feed_12 (by decide) (X.2.2.2.1 (.fieldLink RX12 211 "SilkMillModel" "taped" "I") (by decide +kernel)) rfl (congrArg (fun z => some (Value.int z)) hc_128) dX12_feed_100 ?_
  refine lv_iconst (v := 1) X.1 X.2.1 dX12_feed_103 (by decide) ?_
  refine lv_iadd X.1 X.2.1 dX12_feed_104 ?_
  refine lv_topi (fun v_135 ev_135 => ?_)
  obtain rfl : v_135 = 15 := ev_135.trans (by decide)
  refine r_putI (v := 15) X hw hat_mo 28 1228 tyX12 (by decide) rfl inn_X12_feed_12 tyX12_ok nmX12 (by decide) (X.2.2.2.1 (.fieldLink RX12 211 "SilkMillModel" "taped" "I") (by decide +kernel)) rfl (Or.inl rfl) rfl rfl (Nat.le_of_ble_eq_true rfl) (st_1228 _ _) dX12_feed_105 (fun H locs hw => ?_)
  generalize eS_136 : sI S_134 1228 mo 15 = S_136 at hw
  have hat_mo : At S_136 mo 12 := by rw [← eS_136]; exact hat_mo
  have hat_q1227 : At S_136 q1227 13 := by rw [← eS_136]; exact hat_q1227
  have rf_q1227 : pR S_136 1227 mo = some q1227 := by rw [← eS_136]; exact rf_q1227
  have hc_2 : pI S_136 1200 mo = 0 := by rw [← eS_136]; exact (pI_sI_nf (by decide)).trans hc_2
  have ln_q1227 : pN S_136 q1227 = 400 := by rw [← eS_136]; exact ln_q1227
  have hc_137 : pI S_136 1228 mo = 15 := by rw [← eS_136]; exact pI_sI_same
  refine lv_iinc (v := 15) (lv' := [(6, .int 15), (7, .int (a4)), (0, .ref mo), (1, .int (a1)), (2, .int (a2)), (3, .int (a3)), (4, .int (a4)), (5, .int (a5))]) X.1 X.2.1 dX12_feed_108 hl (k := 1) rfl (by decide) (by decide) rfl (fun ls hl => ?_)
  refine lv_goto (tgt := 20) X.1 X.2.1 dX12_feed_111 (by decide) ?_
  refine lv_iload X.1 X.2.1 dX12_feed_20 (lv_at hl 0 rfl) ?_
  refine lv_bipush (v := 20) X.1 X.2.1 dX12_feed_22 (by decide) ?_
  refine lv_icmp_ge (tgt := 114) X.1 X.2.1 dX12_feed_24 (by decide) (fun c_24 => absurd c_24 (by decide)) (fun c_24 => ?_)
  refine lv_iload X.1 X.2.1 dX12_feed_27 (lv_at hl 0 rfl) ?_
  refine lv_iconst (v := 4) X.1 X.2.1 dX12_feed_29 (by decide) ?_
  refine lv_icmp_ge (tgt := 37) X.1 X.2.1 dX12_feed_30 (by decide) (fun c_30 => ?_) (fun c_30 => absurd c_30 (by decide))
  refine lv_iload X.1 X.2.1 dX12_feed_37 (lv_at hl 0 rfl) ?_
  refine lv_bipush (v := 8) X.1 X.2.1 dX12_feed_39 (by decide) ?_
  refine lv_icmp_ge (tgt := 48) X.1 X.2.1 dX12_feed_41 (by decide) (fun c_41 => ?_) (fun c_41 => absurd c_41 (by decide))
  refine lv_iload X.1 X.2.1 dX12_feed_48 (lv_at hl 0 rfl) ?_
  refine lv_bipush (v := 12) X.1 X.2.1 dX12_feed_50 (by decide) ?_
  refine lv_icmp_ge (tgt := 59) X.1 X.2.1 dX12_feed_52 (by decide) (fun c_52 => ?_) (fun c_52 => absurd c_52 (by decide))
  refine lv_iload X.1 X.2.1 dX12_feed_59 (lv_at hl 0 rfl) ?_
  refine lv_bipush (v := 16) X.1 X.2.1 dX12_feed_61 (by decide) ?_
  refine lv_icmp_ge (tgt := 71) X.1 X.2.1 dX12_feed_63 (by decide) (fun c_63 => absurd c_63 (by decide)) (fun c_63 => ?_)
  refine lv_iload X.1 X.2.1 dX12_feed_66 (lv_at hl 6 rfl) ?_
  refine lv_goto (tgt := 73) X.1 X.2.1 dX12_feed_68 (by decide) ?_
  refine lv_istore (lv' := [(7, .int (a4)), (6, .int 15), (0, .ref mo), (1, .int (a1)), (2, .int (a2)), (3, .int (a3)), (4, .int (a4)), (5, .int (a5))]) X.1 X.2.1 dX12_feed_73 hl (by decide) rfl (fun ls hl => ?_)
  refine lv_aload_n X.1 X.2.1 dX12_feed_75 rfl (lv_at hl 2 rfl) ?_
  refine r_getR (g := 1227) X hw hat_mo 27 rf_q1227 (by decide) rfl inn_X12_feed_12 (by decide) (X.2.2.2.1 (.fieldLink RX12 82 "SilkMillModel" "tape" "[B") (by decide +kernel)) rfl rfl dX12_feed_76 ?_
  refine lv_aload_n X.1 X.2.1 dX12_feed_79 rfl (lv_at hl 2 rfl) ?_
  refine r_get (v := .int 15) X hw hat_mo 28 (by decide) rfl inn_X12_feed_12 (by decide) (X.2.2.2.1 (.fieldLink RX12 211 "SilkMillModel" "taped" "I") (by decide +kernel)) rfl (congrArg (fun z => some (Value.int z)) hc_137) dX12_feed_80 ?_
  refine lv_iload X.1 X.2.1 dX12_feed_83 (lv_at hl 0 rfl) ?_
  refine lv_bipush (v := 24) X.1 X.2.1 dX12_feed_85 (by decide) ?_
  refine lv_bipush (v := 8) X.1 X.2.1 dX12_feed_87 (by decide) ?_
  refine lv_iload X.1 X.2.1 dX12_feed_89 (lv_at hl 1 rfl) ?_
  refine lv_iconst (v := 4) X.1 X.2.1 dX12_feed_91 (by decide) ?_
  refine lv_irem X.1 X.2.1 dX12_feed_92 (by decide) ?_
  refine lv_topi (fun v_138 ev_138 => ?_)
  obtain rfl : v_138 = 3 := ev_138.trans (by decide)
  refine lv_imul X.1 X.2.1 dX12_feed_93 ?_
  refine lv_topi (fun v_139 ev_139 => ?_)
  obtain rfl : v_139 = 24 := ev_139.trans (by decide)
  refine lv_isub X.1 X.2.1 dX12_feed_94 ?_
  refine lv_topi (fun v_140 ev_140 => ?_)
  obtain rfl : v_140 = 0 := ev_140.trans (by decide)
  refine lv_ishr X.1 X.2.1 dX12_feed_95 ?_
  refine lv_topi (fun v_141 ev_141 => ?_)
  refine lv_i2b X.1 X.2.1 dX12_feed_96 rfl ?_
  refine lv_topi (fun v_142 ev_142 => ?_)
  refine r_bast X hw hat_q1227 (by rw [ln_q1227]; exact vp_in_iff.mpr (by decide)) dX12_feed_97 (fun H locs hw => ?_)
  generalize eS_143 : sA S_136 q1227 (upd (pA S_136 q1227) (Int32.toNatClampNeg 15) (vp_nar .byte v_142)) = S_143 at hw
  have hat_mo : At S_143 mo 12 := by rw [← eS_143]; exact hat_mo
  have hat_q1227 : At S_143 q1227 13 := by rw [← eS_143]; exact hat_q1227
  have rf_q1227 : pR S_143 1227 mo = some q1227 := by rw [← eS_143]; exact rf_q1227
  have hc_2 : pI S_143 1200 mo = 0 := by rw [← eS_143]; exact hc_2
  have hc_137 : pI S_143 1228 mo = 15 := by rw [← eS_143]; exact hc_137
  have ln_q1227 : pN S_143 q1227 = 400 := by rw [← eS_143]; exact ln_q1227
  refine lv_aload_n X.1 X.2.1 dX12_feed_98 rfl (lv_at hl 2 rfl) ?_
  refine lv_dup X.1 X.2.1 dX12_feed_99 rfl ?_
  refine r_get (v := .int 15) X hw hat_mo 28 (by decide) rfl inn_X12_feed_12 (by decide) (X.2.2.2.1 (.fieldLink RX12 211 "SilkMillModel" "taped" "I") (by decide +kernel)) rfl (congrArg (fun z => some (Value.int z)) hc_137) dX12_feed_100 ?_
  refine lv_iconst (v := 1) X.1 X.2.1 dX12_feed_103 (by decide) ?_
  refine lv_iadd X.1 X.2.1 dX12_feed_104 ?_
  refine lv_topi (fun v_144 ev_144 => ?_)
  obtain rfl : v_144 = 16 := ev_144.trans (by decide)
  refine r_putI (v := 16) X hw hat_mo 28 1228 tyX12 (by decide) rfl inn_X12_feed_12 tyX12_ok nmX12 (by decide) (X.2.2.2.1 (.fieldLink RX12 211 "SilkMillModel" "taped" "I") (by decide +kernel)) rfl (Or.inl rfl) rfl rfl (Nat.le_of_ble_eq_true rfl) (st_1228 _ _) dX12_feed_105 (fun H locs hw => ?_)
  generalize eS_145 : sI S_143 1228 mo 16 = S_145 at hw
  have hat_mo : At S_145 mo 12 := by rw [← eS_145]; exact hat_mo
  have hat_q1227 : At S_145 q1227 13 := by rw [← eS_145]; exact hat_q1227
  have rf_q1227 : pR S_145 1227 mo = some q1227 := by rw [← eS_145]; exact rf_q1227
  have hc_2 : pI S_145 1200 mo = 0 := by rw [← eS_145]; exact (pI_sI_nf (by decide)).trans hc_2
  have ln_q1227 : pN S_145 q1227 = 400 := by rw [← eS_145]; exact ln_q1227
  have hc_146 : pI S_145 1228 mo = 16 := by rw [← eS_145]; exact pI_sI_same
  refine lv_iinc (v := 16) (lv' := [(6, .int 16), (7, .int (a4)), (0, .ref mo), (1, .int (a1)), (2, .int (a2)), (3, .int (a3)), (4, .int (a4)), (5, .int (a5))]) X.1 X.2.1 dX12_feed_108 hl (k := 1) rfl (by decide) (by decide) rfl (fun ls hl => ?_)
  refine lv_goto (tgt := 20) X.1 X.2.1 dX12_feed_111 (by decide) ?_
  refine lv_iload X.1 X.2.1 dX12_feed_20 (lv_at hl 0 rfl) ?_
  refine lv_bipush (v := 20) X.1 X.2.1 dX12_feed_22 (by decide) ?_
  refine lv_icmp_ge (tgt := 114) X.1 X.2.1 dX12_feed_24 (by decide) (fun c_24 => absurd c_24 (by decide)) (fun c_24 => ?_)
  refine lv_iload X.1 X.2.1 dX12_feed_27 (lv_at hl 0 rfl) ?_
  refine lv_iconst (v := 4) X.1 X.2.1 dX12_feed_29 (by decide) ?_
  refine lv_icmp_ge (tgt := 37) X.1 X.2.1 dX12_feed_30 (by decide) (fun c_30 => ?_) (fun c_30 => absurd c_30 (by decide))
  refine lv_iload X.1 X.2.1 dX12_feed_37 (lv_at hl 0 rfl) ?_
  refine lv_bipush (v := 8) X.1 X.2.1 dX12_feed_39 (by decide) ?_
  refine lv_icmp_ge (tgt := 48) X.1 X.2.1 dX12_feed_41 (by decide) (fun c_41 => ?_) (fun c_41 => absurd c_41 (by decide))
  refine lv_iload X.1 X.2.1 dX12_feed_48 (lv_at hl 0 rfl) ?_
  refine lv_bipush (v := 12) X.1 X.2.1 dX12_feed_50 (by decide) ?_
  refine lv_icmp_ge (tgt := 59) X.1 X.2.1 dX12_feed_52 (by decide) (fun c_52 => ?_) (fun c_52 => absurd c_52 (by decide))
  refine lv_iload X.1 X.2.1 dX12_feed_59 (lv_at hl 0 rfl) ?_
  refine lv_bipush (v := 16) X.1 X.2.1 dX12_feed_61 (by decide) ?_
  refine lv_icmp_ge (tgt := 71) X.1 X.2.1 dX12_feed_63 (by decide) (fun c_63 => ?_) (fun c_63 => absurd c_63 (by decide))
  refine lv_iload X.1 X.2.1 dX12_feed_71 (lv_at hl 7 rfl) ?_
  refine lv_istore (lv' := [(7, .int (a5)), (6, .int 16), (0, .ref mo), (1, .int (a1)), (2, .int (a2)), (3, .int (a3)), (4, .int (a4)), (5, .int (a5))]) X.1 X.2.1 dX12_feed_73 hl (by decide) rfl (fun ls hl => ?_)
  refine lv_aload_n X.1 X.2.1 dX12_feed_75 rfl (lv_at hl 2 rfl) ?_
  refine r_getR (g := 1227) X hw hat_mo 27 rf_q1227 (by decide) rfl inn_X12_feed_12 (by decide) (X.2.2.2.1 (.fieldLink RX12 82 "SilkMillModel" "tape" "[B") (by decide +kernel)) rfl rfl dX12_feed_76 ?_
  refine lv_aload_n X.1 X.2.1 dX12_feed_79 rfl (lv_at hl 2 rfl) ?_
  refine r_get (v := .int 16) X hw hat_mo 28 (by decide) rfl inn_X12_feed_12 (by decide) (X.2.2.2.1 (.fieldLink RX12 211 "SilkMillModel" "taped" "I") (by decide +kernel)) rfl (congrArg (fun z => some (Value.int z)) hc_146) dX12_feed_80 ?_
  refine lv_iload X.1 X.2.1 dX12_feed_83 (lv_at hl 0 rfl) ?_
  refine lv_bipush (v := 24) X.1 X.2.1 dX12_feed_85 (by decide) ?_
  refine lv_bipush (v := 8) X.1 X.2.1 dX12_feed_87 (by decide) ?_
  refine lv_iload X.1 X.2.1 dX12_feed_89 (lv_at hl 1 rfl) ?_
  refine lv_iconst (v := 4) X.1 X.2.1 dX12_feed_91 (by decide) ?_
  refine lv_irem X.1 X.2.1 dX12_feed_92 (by decide) ?_
  refine lv_topi (fun v_147 ev_147 => ?_)
  obtain rfl : v_147 = 0 := ev_147.trans (by decide)
  refine lv_imul X.1 X.2.1 dX12_feed_93 ?_
  refine lv_topi (fun v_148 ev_148 => ?_)
  obtain rfl : v_148 = 0 := ev_148.trans (by decide)
  refine lv_isub X.1 X.2.1 dX12_feed_94 ?_
  refine lv_topi (fun v_149 ev_149 => ?_)
  obtain rfl : v_149 = 24 := ev_149.trans (by decide)
  refine lv_ishr X.1 X.2.1 dX12_feed_95 ?_
  refine lv_topi (fun v_150 ev_150 => ?_)
  refine lv_i2b X.1 X.2.1 dX12_feed_96 rfl ?_
  refine lv_topi (fun v_151 ev_151 => ?_)
  refine r_bast X hw hat_q1227 (by rw [ln_q1227]; exact vp_in_iff.mpr (by decide)) dX12_feed_97 (fun H locs hw => ?_)
  generalize eS_152 : sA S_145 q1227 (upd (pA S_145 q1227) (Int32.toNatClampNeg 16) (vp_nar .byte v_151)) = S_152 at hw
  have hat_mo : At S_152 mo 12 := by rw [← eS_152]; exact hat_mo
  have hat_q1227 : At S_152 q1227 13 := by rw [← eS_152]; exact hat_q1227
  have rf_q1227 : pR S_152 1227 mo = some q1227 := by rw [← eS_152]; exact rf_q1227
  have hc_2 : pI S_152 1200 mo = 0 := by rw [← eS_152]; exact hc_2
  have hc_146 : pI S_152 1228 mo = 16 := by rw [← eS_152]; exact hc_146
  have ln_q1227 : pN S_152 q1227 = 400 := by rw [← eS_152]; exact ln_q1227
  refine lv_aload_n X.1 X.2.1 dX12_feed_98 rfl (lv_at hl 2 rfl) ?_
  refine lv_dup X.1 X.2.1 dX12_feed_99 rfl ?_
  refine r_get (v := .int 16) X hw hat_mo 28 (by decide) rfl inn_X12_feed_12 (by decide) (X.2.2.2.1 (.fieldLink RX12 211 "SilkMillModel" "taped" "I") (by decide +kernel)) rfl (congrArg (fun z => some (Value.int z)) hc_146) dX12_feed_100 ?_
  refine lv_iconst (v := 1) X.1 X.2.1 dX12_feed_103 (by decide) ?_
  refine lv_iadd X.1 X.2.1 dX12_feed_104 ?_
  refine lv_topi (fun v_153 ev_153 => ?_)
  obtain rfl : v_153 = 17 := ev_153.trans (by decide)
  refine r_putI (v := 17) X hw hat_mo 28 1228 tyX12 (by decide) rfl inn_X12_feed_12 tyX12_ok nmX12 (by decide) (X.2.2.2.1 (.fieldLink RX12 211 "SilkMillModel" "taped" "I") (by decide +kernel)) rfl (Or.inl rfl) rfl rfl (Nat.le_of_ble_eq_true rfl) (st_1228 _ _) dX12_feed_105 (fun H locs hw => ?_)
  generalize eS_154 : sI S_152 1228 mo 17 = S_154 at hw
  have hat_mo : At S_154 mo 12 := by rw [← eS_154]; exact hat_mo
  have hat_q1227 : At S_154 q1227 13 := by rw [← eS_154]; exact hat_q1227
  have rf_q1227 : pR S_154 1227 mo = some q1227 := by rw [← eS_154]; exact rf_q1227
  have hc_2 : pI S_154 1200 mo = 0 := by rw [← eS_154]; exact (pI_sI_nf (by decide)).trans hc_2
  have ln_q1227 : pN S_154 q1227 = 400 := by rw [← eS_154]; exact ln_q1227
  have hc_155 : pI S_154 1228 mo = 17 := by rw [← eS_154]; exact pI_sI_same
  refine lv_iinc (v := 17) (lv' := [(6, .int 17), (7, .int (a5)), (0, .ref mo), (1, .int (a1)), (2, .int (a2)), (3, .int (a3)), (4, .int (a4)), (5, .int (a5))]) X.1 X.2.1 dX12_feed_108 hl (k := 1) rfl (by decide) (by decide) rfl (fun ls hl => ?_)
  refine lv_goto (tgt := 20) X.1 X.2.1 dX12_feed_111 (by decide) ?_
  refine lv_iload X.1 X.2.1 dX12_feed_20 (lv_at hl 0 rfl) ?_
  refine lv_bipush (v := 20) X.1 X.2.1 dX12_feed_22 (by decide) ?_
  refine lv_icmp_ge (tgt := 114) X.1 X.2.1 dX12_feed_24 (by decide) (fun c_24 => absurd c_24 (by decide)) (fun c_24 => ?_)
  refine lv_iload X.1 X.2.1 dX12_feed_27 (lv_at hl 0 rfl) ?_
  refine lv_iconst (v := 4) X.1 X.2.1 dX12_feed_29 (by decide) ?_
  refine lv_icmp_ge (tgt := 37) X.1 X.2.1 dX12_feed_30 (by decide) (fun c_30 => ?_) (fun c_30 => absurd c_30 (by decide))
  refine lv_iload X.1 X.2.1 dX12_feed_37 (lv_at hl 0 rfl) ?_
  refine lv_bipush (v := 8) X.1 X.2.1 dX12_feed_39 (by decide) ?_
  refine lv_icmp_ge (tgt := 48) X.1 X.2.1 dX12_feed_41 (by decide) (fun c_41 => ?_) (fun c_41 => absurd c_41 (by decide))
  refine lv_iload X.1 X.2.1 dX12_feed_48 (lv_at hl 0 rfl) ?_
  refine lv_bipush (v := 12) X.1 X.2.1 dX12_feed_50 (by decide) ?_
  refine lv_icmp_ge (tgt := 59) X.1 X.2.1 dX12_feed_52 (by decide) (fun c_52 => ?_) (fun c_52 => absurd c_52 (by decide))
  refine lv_iload X.1 X.2.1 dX12_feed_59 (lv_at hl 0 rfl) ?_
  refine lv_bipush (v := 16) X.1 X.2.1 dX12_feed_61 (by decide) ?_
  refine lv_icmp_ge (tgt := 71) X.1 X.2.1 dX12_feed_63 (by decide) (fun c_63 => ?_) (fun c_63 => absurd c_63 (by decide))
  refine lv_iload X.1 X.2.1 dX12_feed_71 (lv_at hl 7 rfl) ?_
  refine lv_istore (lv' := [(7, .int (a5)), (6, .int 17), (0, .ref mo), (1, .int (a1)), (2, .int (a2)), (3, .int (a3)), (4, .int (a4)), (5, .int (a5))]) X.1 X.2.1 dX12_feed_73 hl (by decide) rfl (fun ls hl => ?_)
  refine lv_aload_n X.1 X.2.1 dX12_feed_75 rfl (lv_at hl 2 rfl) ?_
  refine r_getR (g := 1227) X hw hat_mo 27 rf_q1227 (by decide) rfl inn_X12_feed_12 (by decide) (X.2.2.2.1 (.fieldLink RX12 82 "SilkMillModel" "tape" "[B") (by decide +kernel)) rfl rfl dX12_feed_76 ?_
  refine lv_aload_n X.1 X.2.1 dX12_feed_79 rfl (lv_at hl 2 rfl) ?_
  refine r_get (v := .int 17) X hw hat_mo 28 (by decide) rfl inn_X12_feed_12 (by decide) (X.2.2.2.1 (.fieldLink RX12 211 "SilkMillModel" "taped" "I") (by decide +kernel)) rfl (congrArg (fun z => some (Value.int z)) hc_155) dX12_feed_80 ?_
  refine lv_iload X.1 X.2.1 dX12_feed_83 (lv_at hl 0 rfl) ?_
  refine lv_bipush (v := 24) X.1 X.2.1 dX12_feed_85 (by decide) ?_
  refine lv_bipush (v := 8) X.1 X.2.1 dX12_feed_87 (by decide) ?_
  refine lv_iload X.1 X.2.1 dX12_feed_89 (lv_at hl 1 rfl) ?_
  refine lv_iconst (v := 4) X.1 X.2.1 dX12_feed_91 (by decide) ?_
  refine lv_irem X.1 X.2.1 dX12_feed_92 (by decide) ?_
  refine lv_topi (fun v_156 ev_156 => ?_)
  obtain rfl : v_156 = 1 := ev_156.trans (by decide)
  refine lv_imul X.1 X.2.1 dX12_feed_93 ?_
  refine lv_topi (fun v_157 ev_157 => ?_)
  obtain rfl : v_157 = 8 := ev_157.trans (by decide)
  refine lv_isub X.1 X.2.1 dX12_feed_94 ?_
  refine lv_topi (fun v_158 ev_158 => ?_)
  obtain rfl : v_158 = 16 := ev_158.trans (by decide)
  refine lv_ishr X.1 X.2.1 dX12_feed_95 ?_
  refine lv_topi (fun v_159 ev_159 => ?_)
  refine lv_i2b X.1 X.2.1 dX12_feed_96 rfl ?_
  refine lv_topi (fun v_160 ev_160 => ?_)
  refine r_bast X hw hat_q1227 (by rw [ln_q1227]; exact vp_in_iff.mpr (by decide)) dX12_feed_97 (fun H locs hw => ?_)
  generalize eS_161 : sA S_154 q1227 (upd (pA S_154 q1227) (Int32.toNatClampNeg 17) (vp_nar .byte v_160)) = S_161 at hw
  have hat_mo : At S_161 mo 12 := by rw [← eS_161]; exact hat_mo
  have hat_q1227 : At S_161 q1227 13 := by rw [← eS_161]; exact hat_q1227
  have rf_q1227 : pR S_161 1227 mo = some q1227 := by rw [← eS_161]; exact rf_q1227
  have hc_2 : pI S_161 1200 mo = 0 := by rw [← eS_161]; exact hc_2
  have hc_155 : pI S_161 1228 mo = 17 := by rw [← eS_161]; exact hc_155
  have ln_q1227 : pN S_161 q1227 = 400 := by rw [← eS_161]; exact ln_q1227
  refine lv_aload_n X.1 X.2.1 dX12_feed_98 rfl (lv_at hl 2 rfl) ?_
  refine lv_dup X.1 X.2.1 dX12_feed_99 rfl ?_
  refine r_get (v := .int 17) X hw hat_mo 28 (by decide) rfl inn_X12_feed_12 (by decide) (X.2.2.2.1 (.fieldLink RX12 211 "SilkMillModel" "taped" "I") (by decide +kernel)) rfl (congrArg (fun z => some (Value.int z)) hc_155) dX12_feed_100 ?_
  refine lv_iconst (v := 1) X.1 X.2.1 dX12_feed_103 (by decide) ?_
  refine lv_iadd X.1 X.2.1 dX12_feed_104 ?_
  refine lv_topi (fun v_162 ev_162 => ?_)
  obtain rfl : v_162 = 18 := ev_162.trans (by decide)
  refine r_putI (v := 18) X hw hat_mo 28 1228 tyX12 (by decide) rfl inn_X12_feed_12 tyX12_ok nmX12 (by decide) (X.2.2.2.1 (.fieldLink RX12 211 "SilkMillModel" "taped" "I") (by decide +kernel)) rfl (Or.inl rfl) rfl rfl (Nat.le_of_ble_eq_true rfl) (st_1228 _ _) dX12_feed_105 (fun H locs hw => ?_)
  generalize eS_163 : sI S_161 1228 mo 18 = S_163 at hw
  have hat_mo : At S_163 mo 12 := by rw [← eS_163]; exact hat_mo
  have hat_q1227 : At S_163 q1227 13 := by rw [← eS_163]; exact hat_q1227
  have rf_q1227 : pR S_163 1227 mo = some q1227 := by rw [← eS_163]; exact rf_q1227
  have hc_2 : pI S_163 1200 mo = 0 := by rw [← eS_163]; exact (pI_sI_nf (by decide)).trans hc_2
  have ln_q1227 : pN S_163 q1227 = 400 := by rw [← eS_163]; exact ln_q1227
  have hc_164 : pI S_163 1228 mo = 18 := by rw [← eS_163]; exact pI_sI_same
  refine lv_iinc (v := 18) (lv' := [(6, .int 18), (7, .int (a5)), (0, .ref mo), (1, .int (a1)), (2, .int (a2)), (3, .int (a3)), (4, .int (a4)), (5, .int (a5))]) X.1 X.2.1 dX12_feed_108 hl (k := 1) rfl (by decide) (by decide) rfl (fun ls hl => ?_)
  refine lv_goto (tgt := 20) X.1 X.2.1 dX12_feed_111 (by decide) ?_
  refine lv_iload X.1 X.2.1 dX12_feed_20 (lv_at hl 0 rfl) ?_
  refine lv_bipush (v := 20) X.1 X.2.1 dX12_feed_22 (by decide) ?_
  refine lv_icmp_ge (tgt := 114) X.1 X.2.1 dX12_feed_24 (by decide) (fun c_24 => absurd c_24 (by decide)) (fun c_24 => ?_)
  refine lv_iload X.1 X.2.1 dX12_feed_27 (lv_at hl 0 rfl) ?_
  refine lv_iconst (v := 4) X.1 X.2.1 dX12_feed_29 (by decide) ?_
  refine lv_icmp_ge (tgt := 37) X.1 X.2.1 dX12_feed_30 (by decide) (fun c_30 => ?_) (fun c_30 => absurd c_30 (by decide))
  refine lv_iload X.1 X.2.1 dX12_feed_37 (lv_at hl 0 rfl) ?_
  refine lv_bipush (v := 8) X.1 X.2.1 dX12_feed_39 (by decide) ?_
  refine lv_icmp_ge (tgt := 48) X.1 X.2.1 dX12_feed_41 (by decide) (fun c_41 => ?_) (fun c_41 => absurd c_41 (by decide))
  refine lv_iload X.1 X.2.1 dX12_feed_48 (lv_at hl 0 rfl) ?_
  refine lv_bipush (v := 12) X.1 X.2.1 dX12_feed_50 (by decide) ?_
  refine lv_icmp_ge (tgt := 59) X.1 X.2.1 dX12_feed_52 (by decide) (fun c_52 => ?_) (fun c_52 => absurd c_52 (by decide))
  refine lv_iload X.1 X.2.1 dX12_feed_59 (lv_at hl 0 rfl) ?_
  refine lv_bipush (v := 16) X.1 X.2.1 dX12_feed_61 (by decide) ?_
  refine lv_icmp_ge (tgt := 71) X.1 X.2.1 dX12_feed_63 (by decide) (fun c_63 => ?_) (fun c_63 => absurd c_63 (by decide))
  refine lv_iload X.1 X.2.1 dX12_feed_71 (lv_at hl 7 rfl) ?_
  refine lv_istore (lv' := [(7, .int (a5)), (6, .int 18), (0, .ref mo), (1, .int (a1)), (2, .int (a2)), (3, .int (a3)), (4, .int (a4)), (5, .int (a5))]) X.1 X.2.1 dX12_feed_73 hl (by decide) rfl (fun ls hl => ?_)
  refine lv_aload_n X.1 X.2.1 dX12_feed_75 rfl (lv_at hl 2 rfl) ?_
  refine r_getR (g := 1227) X hw hat_mo 27 rf_q1227 (by decide) rfl inn_X12_feed_12 (by decide) (X.2.2.2.1 (.fieldLink RX12 82 "SilkMillModel" "tape" "[B") (by decide +kernel)) rfl rfl dX12_feed_76 ?_
  refine lv_aload_n X.1 X.2.1 dX12_feed_79 rfl (lv_at hl 2 rfl) ?_
  refine r_get (v := .int 18) X hw hat_mo 28 (by decide) rfl inn_X12_feed_12 (by decide) (X.2.2.2.1 (.fieldLink RX12 211 "SilkMillModel" "taped" "I") (by decide +kernel)) rfl (congrArg (fun z => some (Value.int z)) hc_164) dX12_feed_80 ?_
  refine lv_iload X.1 X.2.1 dX12_feed_83 (lv_at hl 0 rfl) ?_
  refine lv_bipush (v := 24) X.1 X.2.1 dX12_feed_85 (by decide) ?_
  refine lv_bipush (v := 8) X.1 X.2.1 dX12_feed_87 (by decide) ?_
  refine lv_iload X.1 X.2.1 dX12_feed_89 (lv_at hl 1 rfl) ?_
  refine lv_iconst (v := 4) X.1 X.2.1 dX12_feed_91 (by decide) ?_
  refine lv_irem X.1 X.2.1 dX12_feed_92 (by decide) ?_
  refine lv_topi (fun v_165 ev_165 => ?_)
  obtain rfl : v_165 = 2 := ev_165.trans (by decide)
  refine lv_imul X.1 X.2.1 dX12_feed_93 ?_
  refine lv_topi (fun v_166 ev_166 => ?_)
  obtain rfl : v_166 = 16 := ev_166.trans (by decide)
  refine lv_isub X.1 X.2.1 dX12_feed_94 ?_
  refine lv_topi (fun v_167 ev_167 => ?_)
  obtain rfl : v_167 = 8 := ev_167.trans (by decide)
  refine lv_ishr X.1 X.2.1 dX12_feed_95 ?_
  refine lv_topi (fun v_168 ev_168 => ?_)
  refine lv_i2b X.1 X.2.1 dX12_feed_96 rfl ?_
  refine lv_topi (fun v_169 ev_169 => ?_)
  refine r_bast X hw hat_q1227 (by rw [ln_q1227]; exact vp_in_iff.mpr (by decide)) dX12_feed_97 (fun H locs hw => ?_)
  generalize eS_170 : sA S_163 q1227 (upd (pA S_163 q1227) (Int32.toNatClampNeg 18) (vp_nar .byte v_169)) = S_170 at hw
  have hat_mo : At S_170 mo 12 := by rw [← eS_170]; exact hat_mo
  have hat_q1227 : At S_170 q1227 13 := by rw [← eS_170]; exact hat_q1227
  have rf_q1227 : pR S_170 1227 mo = some q1227 := by rw [← eS_170]; exact rf_q1227
  have hc_2 : pI S_170 1200 mo = 0 := by rw [← eS_170]; exact hc_2
  have hc_164 : pI S_170 1228 mo = 18 := by rw [← eS_170]; exact hc_164
  have ln_q1227 : pN S_170 q1227 = 400 := by rw [← eS_170]; exact ln_q1227
  refine lv_aload_n X.1 X.2.1 dX12_feed_98 rfl (lv_at hl 2 rfl) ?_
  refine lv_dup X.1 X.2.1 dX12_feed_99 rfl ?_
  refine r_get (v := .int 18) X hw hat_mo 28 (by decide) rfl inn_X12_feed_12 (by decide) (X.2.2.2.1 (.fieldLink RX12 211 "SilkMillModel" "taped" "I") (by decide +kernel)) rfl (congrArg (fun z => some (Value.int z)) hc_164) dX12_feed_100 ?_
  refine lv_iconst (v := 1) X.1 X.2.1 dX12_feed_103 (by decide) ?_
  refine lv_iadd X.1 X.2.1 dX12_feed_104 ?_
  refine lv_topi (fun v_171 ev_171 => ?_)
  obtain rfl : v_171 = 19 := ev_171.trans (by decide)
  refine r_putI (v := 19) X hw hat_mo 28 1228 tyX12 (by decide) rfl inn_X12_feed_12 tyX12_ok nmX12 (by decide) (X.2.2.2.1 (.fieldLink RX12 211 "SilkMillModel" "taped" "I") (by decide +kernel)) rfl (Or.inl rfl) rfl rfl (Nat.le_of_ble_eq_true rfl) (st_1228 _ _) dX12_feed_105 (fun H locs hw => ?_)
  generalize eS_172 : sI S_170 1228 mo 19 = S_172 at hw
  have hat_mo : At S_172 mo 12 := by rw [← eS_172]; exact hat_mo
  have hat_q1227 : At S_172 q1227 13 := by rw [← eS_172]; exact hat_q1227
  have rf_q1227 : pR S_172 1227 mo = some q1227 := by rw [← eS_172]; exact rf_q1227
  have hc_2 : pI S_172 1200 mo = 0 := by rw [← eS_172]; exact (pI_sI_nf (by decide)).trans hc_2
  have ln_q1227 : pN S_172 q1227 = 400 := by rw [← eS_172]; exact ln_q1227
  have hc_173 : pI S_172 1228 mo = 19 := by rw [← eS_172]; exact pI_sI_same
  refine lv_iinc (v := 19) (lv' := [(6, .int 19), (7, .int (a5)), (0, .ref mo), (1, .int (a1)), (2, .int (a2)), (3, .int (a3)), (4, .int (a4)), (5, .int (a5))]) X.1 X.2.1 dX12_feed_108 hl (k := 1) rfl (by decide) (by decide) rfl (fun ls hl => ?_)
  refine lv_goto (tgt := 20) X.1 X.2.1 dX12_feed_111 (by decide) ?_
  refine lv_iload X.1 X.2.1 dX12_feed_20 (lv_at hl 0 rfl) ?_
  refine lv_bipush (v := 20) X.1 X.2.1 dX12_feed_22 (by decide) ?_
  refine lv_icmp_ge (tgt := 114) X.1 X.2.1 dX12_feed_24 (by decide) (fun c_24 => absurd c_24 (by decide)) (fun c_24 => ?_)
  refine lv_iload X.1 X.2.1 dX12_feed_27 (lv_at hl 0 rfl) ?_
  refine lv_iconst (v := 4) X.1 X.2.1 dX12_feed_29 (by decide) ?_
  refine lv_icmp_ge (tgt := 37) X.1 X.2.1 dX12_feed_30 (by decide) (fun c_30 => ?_) (fun c_30 => absurd c_30 (by decide))
  refine lv_iload X.1 X.2.1 dX12_feed_37 (lv_at hl 0 rfl) ?_
  refine lv_bipush (v := 8) X.1 X.2.1 dX12_feed_39 (by decide) ?_
  refine lv_icmp_ge (tgt := 48) X.1 X.2.1 dX12_feed_41 (by decide) (fun c_41 => ?_) (fun c_41 => absurd c_41 (by decide))
  refine lv_iload X.1 X.2.1 dX12_feed_48 (lv_at hl 0 rfl) ?_
  refine lv_bipush (v := 12) X.1 X.2.1 dX12_feed_50 (by decide) ?_
  refine lv_icmp_ge (tgt := 59) X.1 X.2.1 dX12_feed_52 (by decide) (fun c_52 => ?_) (fun c_52 => absurd c_52 (by decide))
  refine lv_iload X.1 X.2.1 dX12_feed_59 (lv_at hl 0 rfl) ?_
  refine lv_bipush (v := 16) X.1 X.2.1 dX12_feed_61 (by decide) ?_
  refine lv_icmp_ge (tgt := 71) X.1 X.2.1 dX12_feed_63 (by decide) (fun c_63 => ?_) (fun c_63 => absurd c_63 (by decide))
  refine lv_iload X.1 X.2.1 dX12_feed_71 (lv_at hl 7 rfl) ?_
  refine lv_istore (lv' := [(7, .int (a5)), (6, .int 19), (0, .ref mo), (1, .int (a1)), (2, .int (a2)), (3, .int (a3)), (4, .int (a4)), (5, .int (a5))]) X.1 X.2.1 dX12_feed_73 hl (by decide) rfl (fun ls hl => ?_)
  refine lv_aload_n X.1 X.2.1 dX12_feed_75 rfl (lv_at hl 2 rfl) ?_
  refine r_getR (g := 1227) X hw hat_mo 27 rf_q1227 (by decide) rfl inn_X12_feed_12 (by decide) (X.2.2.2.1 (.fieldLink RX12 82 "SilkMillModel" "tape" "[B") (by decide +kernel)) rfl rfl dX12_feed_76 ?_
  refine lv_aload_n X.1 X.2.1 dX12_feed_79 rfl (lv_at hl 2 rfl) ?_
  refine r_get (v := .int 19) X hw hat_mo 28 (by decide) rfl inn_X12_feed_12 (by decide) (X.2.2.2.1 (.fieldLink RX12 211 "SilkMillModel" "taped" "I") (by decide +kernel)) rfl (congrArg (fun z => some (Value.int z)) hc_173) dX12_feed_80 ?_
  refine lv_iload X.1 X.2.1 dX12_feed_83 (lv_at hl 0 rfl) ?_
  refine lv_bipush (v := 24) X.1 X.2.1 dX12_feed_85 (by decide) ?_
  refine lv_bipush (v := 8) X.1 X.2.1 dX12_feed_87 (by decide) ?_
  refine lv_iload X.1 X.2.1 dX12_feed_89 (lv_at hl 1 rfl) ?_
  refine lv_iconst (v := 4) X.1 X.2.1 dX12_feed_91 (by decide) ?_
  refine lv_irem X.1 X.2.1 dX12_feed_92 (by decide) ?_
  refine lv_topi (fun v_174 ev_174 => ?_)
  obtain rfl : v_174 = 3 := ev_174.trans (by decide)
  refine lv_imul X.1 X.2.1 dX12_feed_93 ?_
  refine lv_topi (fun v_175 ev_175 => ?_)
  obtain rfl : v_175 = 24 := ev_175.trans (by decide)
  refine lv_isub X.1 X.2.1 dX12_feed_94 ?_
  refine lv_topi (fun v_176 ev_176 => ?_)
  obtain rfl : v_176 = 0 := ev_176.trans (by decide)
  refine lv_ishr X.1 X.2.1 dX12_feed_95 ?_
  refine lv_topi (fun v_177 ev_177 => ?_)
  refine lv_i2b X.1 X.2.1 dX12_feed_96 rfl ?_
  refine lv_topi (fun v_178 ev_178 => ?_)
  refine r_bast X hw hat_q1227 (by rw [ln_q1227]; exact vp_in_iff.mpr (by decide)) dX12_feed_97 (fun H locs hw => ?_)
  generalize eS_179 : sA S_172 q1227 (upd (pA S_172 q1227) (Int32.toNatClampNeg 19) (vp_nar .byte v_178)) = S_179 at hw
  have hat_mo : At S_179 mo 12 := by rw [← eS_179]; exact hat_mo
  have hat_q1227 : At S_179 q1227 13 := by rw [← eS_179]; exact hat_q1227
  have rf_q1227 : pR S_179 1227 mo = some q1227 := by rw [← eS_179]; exact rf_q1227
  have hc_2 : pI S_179 1200 mo = 0 := by rw [← eS_179]; exact hc_2
  have hc_173 : pI S_179 1228 mo = 19 := by rw [← eS_179]; exact hc_173
  have ln_q1227 : pN S_179 q1227 = 400 := by rw [← eS_179]; exact ln_q1227
  refine lv_aload_n X.1 X.2.1 dX12_feed_98 rfl (lv_at hl 2 rfl) ?_
  refine lv_dup X.1 X.2.1 dX12_feed_99 rfl ?_
  refine r_get (v := .int 19) X hw hat_mo 28 (by decide) rfl inn_X12_feed_12 (by decide) (X.2.2.2.1 (.fieldLink RX12 211 "SilkMillModel" "taped" "I") (by decide +kernel)) rfl (congrArg (fun z => some (Value.int z)) hc_173) dX12_feed_100 ?_
  refine lv_iconst (v := 1) X.1 X.2.1 dX12_feed_103 (by decide) ?_
  refine lv_iadd X.1 X.2.1 dX12_feed_104 ?_
  refine lv_topi (fun v_180 ev_180 => ?_)
  obtain rfl : v_180 = 20 := ev_180.trans (by decide)
  refine r_putI (v := 20) X hw hat_mo 28 1228 tyX12 (by decide) rfl inn_X12_feed_12 tyX12_ok nmX12 (by decide) (X.2.2.2.1 (.fieldLink RX12 211 "SilkMillModel" "taped" "I") (by decide +kernel)) rfl (Or.inl rfl) rfl rfl (Nat.le_of_ble_eq_true rfl) (st_1228 _ _) dX12_feed_105 (fun H locs hw => ?_)
  generalize eS_181 : sI S_179 1228 mo 20 = S_181 at hw
  have hat_mo : At S_181 mo 12 := by rw [← eS_181]; exact hat_mo
  have hat_q1227 : At S_181 q1227 13 := by rw [← eS_181]; exact hat_q1227
  have rf_q1227 : pR S_181 1227 mo = some q1227 := by rw [← eS_181]; exact rf_q1227
  have hc_2 : pI S_181 1200 mo = 0 := by rw [← eS_181]; exact (pI_sI_nf (by decide)).trans hc_2
  have ln_q1227 : pN S_181 q1227 = 400 := by rw [← eS_181]; exact ln_q1227
  have hc_182 : pI S_181 1228 mo = 20 := by rw [← eS_181]; exact pI_sI_same
  refine lv_iinc (v := 20) (lv' := [(6, .int 20), (7, .int (a5)), (0, .ref mo), (1, .int (a1)), (2, .int (a2)), (3, .int (a3)), (4, .int (a4)), (5, .int (a5))]) X.1 X.2.1 dX12_feed_108 hl (k := 1) rfl (by decide) (by decide) rfl (fun ls hl => ?_)
  refine lv_goto (tgt := 20) X.1 X.2.1 dX12_feed_111 (by decide) ?_
  refine lv_iload X.1 X.2.1 dX12_feed_20 (lv_at hl 0 rfl) ?_
  refine lv_bipush (v := 20) X.1 X.2.1 dX12_feed_22 (by decide) ?_
  refine lv_icmp_ge (tgt := 114) X.1 X.2.1 dX12_feed_24 (by decide) (fun c_24 => ?_) (fun c_24 => absurd c_24 (by decide))
  refine lv_aload_n X.1 X.2.1 dX12_feed_114 rfl (lv_at hl 2 rfl) ?_
  refine r_get (v := .int 20) X hw hat_mo 28 (by decide) rfl inn_X12_feed_12 (by decide) (X.2.2.2.1 (.fieldLink RX12 211 "SilkMillModel" "taped" "I") (by decide +kernel)) rfl (congrArg (fun z => some (Value.int z)) hc_182) dX12_feed_115 ?_
  exact ret_i X hw hr hlocks (Nat.le_of_ble_eq_true rfl) (Nat.le_of_ble_eq_true rfl) rfl dX12_feed_118
