set_option maxHeartbeats 4000000 in
set_option maxRecDepth 100000 in
theorem c_X12_feed (l : Launch) (G : va_G) (cy : Nat → ClassId) (S : PS) (sz : Nat) (mo : Nat) (a1 : Int32) (a2 : Int32) (a3 : Int32) (a4 : Int32) (a5 : Int32) (hF : FM S mo) : Ci l yX12_feed wsX12_feed ({ frames := 5, cells := 0, slots := 0, locals := 200 }) G cy S sz [.ref mo, .int (a1), .int (a2), .int (a3), .int (a4), .int (a5)] (fun (r : Int32) (S9 : PS) => r = 20) := by
  refine ent_m (cc := cX12_feed) (maxL := 8) (ret := (some .int)) (by decide) rfl (Nat.le_of_ble_eq_true rfl) ?_
  intro p e s m below meth c ls X hr hlocks hin hw hl hsz
  subst hsz
  have X : Cx p c cX12_feed 8 s [.ref mo, .int (a1), .int (a2), .int (a3), .int (a4), .int (a5)].toArray wsX12_feed RX12 m G cy (AS S s.heap.size) := X
  have hl : lv_has ls 8 [(0, .ref mo), (1, .int (a1)), (2, .int (a2)), (3, .int (a3)), (4, .int (a4)), (5, .int (a5))] := hl
  obtain ⟨hat_mo, hci, ci_1229, hars, hz53, hz39⟩ := hF
  have ci_1228 := hci 1228 (by decide)
  obtain ⟨q1227, rf_q1227, hat_q1227, ln_q1227⟩ := hars (1227, 13, 400) (by decide +kernel)
  have rf_q1227 : pR S 1227 mo = some q1227 := rf_q1227
  have hat_q1227 : At S q1227 13 := hat_q1227
  have ln_q1227 : pN S q1227 = 400 := ln_q1227
  refine lv_aload_n X.1 X.2.1 dX12_feed_0 rfl (lv_at hl 0 rfl) ?_
  refine lv_iconst (v := 0) X.1 X.2.1 dX12_feed_1 (by decide) ?_
  refine r_putI (v := 0) X hw hat_mo 0 1200 tyX12 (by decide) rfl inn_X12_feed_12 tyX12_ok nmX12 (by decide) (X.2.2.2.1 (.fieldLink RX12 161 "SilkMillModel" "thrown" "I") (by decide +kernel)) rfl (Or.inl rfl) rfl rfl (Nat.le_of_ble_eq_true rfl) (st_1200 _ _) dX12_feed_2 (fun H locs hw => ?_)
  generalize eS_1 : sI S 1200 mo 0 = S_1 at hw
  have hat_mo : At S_1 mo 12 := by rw [← eS_1]; exact At_sI hat_mo
  have hat_q1227 : At S_1 q1227 13 := by rw [← eS_1]; exact At_sI hat_q1227
  have rf_q1227 : pR S_1 1227 mo = some q1227 := by rw [← eS_1, pR_sI]; exact rf_q1227
  have ci_1228 : pI S_1 1228 mo = 0 := by rw [← eS_1]; exact (pI_sI_nf (by decide)).trans ci_1228
  have ln_q1227 : pN S_1 q1227 = 400 := by rw [← eS_1, pN_sI]; exact ln_q1227
  have hc_2 : pI S_1 1200 mo = 0 := by rw [← eS_1]; exact pI_sI_same
  refine lv_aload_n X.1 X.2.1 dX12_feed_5 rfl (lv_at hl 0 rfl) ?_
  refine r_get (v := .int 0) X hw hat_mo 28 (by decide) rfl inn_X12_feed_12 (by decide) (X.2.2.2.1 (.fieldLink RX12 211 "SilkMillModel" "taped" "I") (by decide +kernel)) rfl ((gv_1228 _ _).trans (congrArg (fun z => some (Value.int z)) ci_1228)) dX12_feed_6 ?_
  refine lv_sipush (v := 380) X.1 X.2.1 dX12_feed_9 (by decide) ?_
  refine lv_icmp_le (tgt := 17) X.1 X.2.1 dX12_feed_12 (by decide) (fun c_12 => ?_) (fun c_12 => absurd c_12 (by decide))
  refine lv_iconst (v := 0) X.1 X.2.1 dX12_feed_17 (by decide) ?_
  refine lv_istore (lv' := [(6, .int 0), (0, .ref mo), (1, .int (a1)), (2, .int (a2)), (3, .int (a3)), (4, .int (a4)), (5, .int (a5))]) X.1 X.2.1 dX12_feed_18 hl (by decide) rfl (fun ls hl => ?_)
  have loop : ∀ (d i : Nat) (T : PS) (H : Heap) (locs : List Loc) (ls : Array Slot), i + d = 20 → At T mo 12 → pR T 1227 mo = some q1227 → At T q1227 13 → pN T q1227 = 400 → pI T 1228 mo = nI i → Wd G cy (AS S s.heap.size) s.heap T H locs → lv_has ls 8 [(6, .int (nI i)), (0, .ref mo), (1, .int (a1)), (2, .int (a2)), (3, .int (a3)), (4, .int (a4)), (5, .int (a5))] → W p l e ({ frames := 5, cells := 0, slots := 0, locals := 200 }) s m [.ref mo, .int (a1), .int (a2), .int (a3), .int (a4), .int (a5)].toArray below meth c H locs 0 0 (MQ below (va_Qi (fun (r : Int32) (S9 : PS) => r = 20) (Bw G cy S s.heap.size) (AS S s.heap.size)) [.ref mo, .int (a1), .int (a2), .int (a3), .int (a4), .int (a5)].toArray s 0 0 (AS S s.heap.size)) (F0 m 20 ls []) := by
    intro d
    induction d with
    | zero =>
      intro i T H locs ls hi hat_mo rf_q1227 hat_q1227 ln_q1227 ci_1228 hw hl
      obtain rfl : i = 20 := by omega
      refine lv_iload X.1 X.2.1 dX12_feed_20 (lv_at hl 0 rfl) ?_
      refine lv_bipush (v := 20) X.1 X.2.1 dX12_feed_22 (by decide) ?_
      refine lv_icmp_ge (tgt := 114) X.1 X.2.1 dX12_feed_24 (by decide) (fun c_24 => ?_) (fun c_24 => absurd (by decide +kernel) c_24)
      refine lv_aload_n X.1 X.2.1 dX12_feed_114 rfl (lv_at hl 1 rfl) ?_
      refine r_get (v := .int (nI 20)) X hw hat_mo 28 (by decide) rfl inn_X12_feed_12 (by decide) (X.2.2.2.1 (.fieldLink RX12 211 "SilkMillModel" "taped" "I") (by decide +kernel)) rfl ((gv_1228 _ _).trans (congrArg (fun z => some (Value.int z)) ci_1228)) dX12_feed_115 ?_
      exact ret_i X hw hr hlocks (Nat.le_of_ble_eq_true rfl) (Nat.le_of_ble_eq_true rfl) (by decide +kernel) dX12_feed_118
    | succ d ih =>
      intro i T H locs ls hi hat_mo rf_q1227 hat_q1227 ln_q1227 ci_1228 hw hl
      refine lv_iload X.1 X.2.1 dX12_feed_20 (lv_at hl 0 rfl) ?_
      refine lv_bipush (v := 20) X.1 X.2.1 dX12_feed_22 (by decide) ?_
      refine lv_icmp_ge (tgt := 114) X.1 X.2.1 dX12_feed_24 (by decide) (fun c_24 => absurd c_24 (nI_ge (a := i) (b := 20) (by omega) (by omega))) (fun c_24 => ?_)
      refine lv_iload X.1 X.2.1 dX12_feed_27 (lv_at hl 0 rfl) ?_
      refine lv_iconst (v := 4) X.1 X.2.1 dX12_feed_29 (by decide) ?_
      refine lv_icmp_ge (tgt := 37) X.1 X.2.1 dX12_feed_30 (by decide) (fun c_30 => ?_) (fun c_30 => ?_)
      · have z_30 := trivial
        refine lv_iload X.1 X.2.1 dX12_feed_37 (lv_at hl 0 rfl) ?_
        refine lv_bipush (v := 8) X.1 X.2.1 dX12_feed_39 (by decide) ?_
        refine lv_icmp_ge (tgt := 48) X.1 X.2.1 dX12_feed_41 (by decide) (fun c_41 => ?_) (fun c_41 => ?_)
        · have z_41 := trivial
          refine lv_iload X.1 X.2.1 dX12_feed_48 (lv_at hl 0 rfl) ?_
          refine lv_bipush (v := 12) X.1 X.2.1 dX12_feed_50 (by decide) ?_
          refine lv_icmp_ge (tgt := 59) X.1 X.2.1 dX12_feed_52 (by decide) (fun c_52 => ?_) (fun c_52 => ?_)
          · have z_52 := trivial
            refine lv_iload X.1 X.2.1 dX12_feed_59 (lv_at hl 0 rfl) ?_
            refine lv_bipush (v := 16) X.1 X.2.1 dX12_feed_61 (by decide) ?_
            refine lv_icmp_ge (tgt := 71) X.1 X.2.1 dX12_feed_63 (by decide) (fun c_63 => ?_) (fun c_63 => ?_)
            · have z_63 := trivial
              refine lv_iload X.1 X.2.1 dX12_feed_71 (lv_at hl 6 rfl) ?_
              refine lv_istore (lv' := [(7, .int (a5)), (6, .int (nI i)), (0, .ref mo), (1, .int (a1)), (2, .int (a2)), (3, .int (a3)), (4, .int (a4)), (5, .int (a5))]) X.1 X.2.1 dX12_feed_73 hl (by decide) rfl (fun ls hl => ?_)
              refine lv_aload_n X.1 X.2.1 dX12_feed_75 rfl (lv_at hl 2 rfl) ?_
              refine r_getR (g := 1227) X hw hat_mo 27 rf_q1227 (by decide) rfl inn_X12_feed_12 (by decide) (X.2.2.2.1 (.fieldLink RX12 82 "SilkMillModel" "tape" "[B") (by decide +kernel)) rfl (gv_1227 _ _) dX12_feed_76 ?_
              refine lv_aload_n X.1 X.2.1 dX12_feed_79 rfl (lv_at hl 2 rfl) ?_
              refine r_get (v := .int (nI i)) X hw hat_mo 28 (by decide) rfl inn_X12_feed_12 (by decide) (X.2.2.2.1 (.fieldLink RX12 211 "SilkMillModel" "taped" "I") (by decide +kernel)) rfl ((gv_1228 _ _).trans (congrArg (fun z => some (Value.int z)) ci_1228)) dX12_feed_80 ?_
              refine lv_iload X.1 X.2.1 dX12_feed_83 (lv_at hl 0 rfl) ?_
              refine lv_bipush (v := 24) X.1 X.2.1 dX12_feed_85 (by decide) ?_
              refine lv_bipush (v := 8) X.1 X.2.1 dX12_feed_87 (by decide) ?_
              refine lv_iload X.1 X.2.1 dX12_feed_89 (lv_at hl 1 rfl) ?_
              refine lv_iconst (v := 4) X.1 X.2.1 dX12_feed_91 (by decide) ?_
              refine lv_irem X.1 X.2.1 dX12_feed_92 (by decide) ?_
              refine lv_topi (fun v_3 ev_3 => ?_)
              refine lv_imul X.1 X.2.1 dX12_feed_93 ?_
              refine lv_topi (fun v_4 ev_4 => ?_)
              refine lv_isub X.1 X.2.1 dX12_feed_94 ?_
              refine lv_topi (fun v_5 ev_5 => ?_)
              refine lv_ishr X.1 X.2.1 dX12_feed_95 ?_
              refine lv_topi (fun v_6 ev_6 => ?_)
              refine lv_i2b X.1 X.2.1 dX12_feed_96 rfl ?_
              refine lv_topi (fun v_7 ev_7 => ?_)
              refine r_bast X hw hat_q1227 (by rw [ln_q1227]; exact vp_in_nI (by omega) (by omega)) dX12_feed_97 (fun H locs hw => ?_)
              generalize eS_8 : sA T q1227 (upd (pA T q1227) (Int32.toNatClampNeg (nI i)) (vp_nar .byte v_7)) = S_8 at hw
              have hat_mo : At S_8 mo 12 := by rw [← eS_8]; exact At_sA hat_mo
              have hat_q1227 : At S_8 q1227 13 := by rw [← eS_8]; exact At_sA hat_q1227
              have rf_q1227 : pR S_8 1227 mo = some q1227 := by rw [← eS_8, pR_sA]; exact rf_q1227
              have ci_1228 : pI S_8 1228 mo = nI i := by rw [← eS_8, pI_sA]; exact ci_1228
              have ln_q1227 : pN S_8 q1227 = 400 := by rw [← eS_8, pN_sA]; exact ln_q1227
              refine lv_aload_n X.1 X.2.1 dX12_feed_98 rfl (lv_at hl 2 rfl) ?_
              refine lv_dup X.1 X.2.1 dX12_feed_99 rfl ?_
              refine r_get (v := .int (nI i)) X hw hat_mo 28 (by decide) rfl inn_X12_feed_12 (by decide) (X.2.2.2.1 (.fieldLink RX12 211 "SilkMillModel" "taped" "I") (by decide +kernel)) rfl ((gv_1228 _ _).trans (congrArg (fun z => some (Value.int z)) ci_1228)) dX12_feed_100 ?_
              refine lv_iconst (v := 1) X.1 X.2.1 dX12_feed_103 (by decide) ?_
              refine lv_iadd X.1 X.2.1 dX12_feed_104 ?_
              refine lv_topi (fun v_9 ev_9 => ?_)
              refine r_putI (v := v_9) X hw hat_mo 28 1228 tyX12 (by decide) rfl inn_X12_feed_12 tyX12_ok nmX12 (by decide) (X.2.2.2.1 (.fieldLink RX12 211 "SilkMillModel" "taped" "I") (by decide +kernel)) rfl (Or.inl rfl) rfl rfl (Nat.le_of_ble_eq_true rfl) (st_1228 _ _) dX12_feed_105 (fun H locs hw => ?_)
              generalize eS_10 : sI S_8 1228 mo v_9 = S_10 at hw
              have hat_mo : At S_10 mo 12 := by rw [← eS_10]; exact At_sI hat_mo
              have hat_q1227 : At S_10 q1227 13 := by rw [← eS_10]; exact At_sI hat_q1227
              have rf_q1227 : pR S_10 1227 mo = some q1227 := by rw [← eS_10, pR_sI]; exact rf_q1227
              have ln_q1227 : pN S_10 q1227 = 400 := by rw [← eS_10, pN_sI]; exact ln_q1227
              have hc_11 : pI S_10 1228 mo = v_9 := by rw [← eS_10]; exact pI_sI_same
              obtain ⟨x_12, ex_12⟩ : ∃ y : Int32, y = nI i + 1 := ⟨_, rfl⟩
              refine lv_iinc (v := x_12) (lv' := [(6, .int (x_12)), (7, .int (a5)), (0, .ref mo), (1, .int (a1)), (2, .int (a2)), (3, .int (a3)), (4, .int (a4)), (5, .int (a5))]) X.1 X.2.1 dX12_feed_108 hl (k := 1) rfl (by rw [ex_12]; rfl) (by decide) rfl (fun ls hl => ?_)
              refine lv_goto (tgt := 20) X.1 X.2.1 dX12_feed_111 (by decide) ?_
              exact ih (i + 1) _ _ _ _ (by omega) hat_mo rf_q1227 hat_q1227 ln_q1227 (hc_11.trans (ev_9.trans (nI_1 i))) hw (by rw [show nI (i + 1) = x_12 from by rw [ex_12]; exact (nI_1 i).symm]; exact lv_sub hl [0, 2, 3, 4, 5, 6, 7] rfl)
            · have z_63 := trivial
              refine lv_iload X.1 X.2.1 dX12_feed_66 (lv_at hl 5 rfl) ?_
              refine lv_goto (tgt := 73) X.1 X.2.1 dX12_feed_68 (by decide) ?_
              refine lv_istore (lv' := [(7, .int (a4)), (6, .int (nI i)), (0, .ref mo), (1, .int (a1)), (2, .int (a2)), (3, .int (a3)), (4, .int (a4)), (5, .int (a5))]) X.1 X.2.1 dX12_feed_73 hl (by decide) rfl (fun ls hl => ?_)
              refine lv_aload_n X.1 X.2.1 dX12_feed_75 rfl (lv_at hl 2 rfl) ?_
              refine r_getR (g := 1227) X hw hat_mo 27 rf_q1227 (by decide) rfl inn_X12_feed_12 (by decide) (X.2.2.2.1 (.fieldLink RX12 82 "SilkMillModel" "tape" "[B") (by decide +kernel)) rfl (gv_1227 _ _) dX12_feed_76 ?_
              refine lv_aload_n X.1 X.2.1 dX12_feed_79 rfl (lv_at hl 2 rfl) ?_
              refine r_get (v := .int (nI i)) X hw hat_mo 28 (by decide) rfl inn_X12_feed_12 (by decide) (X.2.2.2.1 (.fieldLink RX12 211 "SilkMillModel" "taped" "I") (by decide +kernel)) rfl ((gv_1228 _ _).trans (congrArg (fun z => some (Value.int z)) ci_1228)) dX12_feed_80 ?_
              refine lv_iload X.1 X.2.1 dX12_feed_83 (lv_at hl 0 rfl) ?_
              refine lv_bipush (v := 24) X.1 X.2.1 dX12_feed_85 (by decide) ?_
              refine lv_bipush (v := 8) X.1 X.2.1 dX12_feed_87 (by decide) ?_
              refine lv_iload X.1 X.2.1 dX12_feed_89 (lv_at hl 1 rfl) ?_
              refine lv_iconst (v := 4) X.1 X.2.1 dX12_feed_91 (by decide) ?_
              refine lv_irem X.1 X.2.1 dX12_feed_92 (by decide) ?_
              refine lv_topi (fun v_13 ev_13 => ?_)
              refine lv_imul X.1 X.2.1 dX12_feed_93 ?_
              refine lv_topi (fun v_14 ev_14 => ?_)
              refine lv_isub X.1 X.2.1 dX12_feed_94 ?_
              refine lv_topi (fun v_15 ev_15 => ?_)
              refine lv_ishr X.1 X.2.1 dX12_feed_95 ?_
              refine lv_topi (fun v_16 ev_16 => ?_)
              refine lv_i2b X.1 X.2.1 dX12_feed_96 rfl ?_
              refine lv_topi (fun v_17 ev_17 => ?_)
              refine r_bast X hw hat_q1227 (by rw [ln_q1227]; exact vp_in_nI (by omega) (by omega)) dX12_feed_97 (fun H locs hw => ?_)
              generalize eS_18 : sA T q1227 (upd (pA T q1227) (Int32.toNatClampNeg (nI i)) (vp_nar .byte v_17)) = S_18 at hw
              have hat_mo : At S_18 mo 12 := by rw [← eS_18]; exact At_sA hat_mo
              have hat_q1227 : At S_18 q1227 13 := by rw [← eS_18]; exact At_sA hat_q1227
              have rf_q1227 : pR S_18 1227 mo = some q1227 := by rw [← eS_18, pR_sA]; exact rf_q1227
              have ci_1228 : pI S_18 1228 mo = nI i := by rw [← eS_18, pI_sA]; exact ci_1228
              have ln_q1227 : pN S_18 q1227 = 400 := by rw [← eS_18, pN_sA]; exact ln_q1227
              refine lv_aload_n X.1 X.2.1 dX12_feed_98 rfl (lv_at hl 2 rfl) ?_
              refine lv_dup X.1 X.2.1 dX12_feed_99 rfl ?_
              refine r_get (v := .int (nI i)) X hw hat_mo 28 (by decide) rfl inn_X12_feed_12 (by decide) (X.2.2.2.1 (.fieldLink RX12 211 "SilkMillModel" "taped" "I") (by decide +kernel)) rfl ((gv_1228 _ _).trans (congrArg (fun z => some (Value.int z)) ci_1228)) dX12_feed_100 ?_
              refine lv_iconst (v := 1) X.1 X.2.1 dX12_feed_103 (by decide) ?_
              refine lv_iadd X.1 X.2.1 dX12_feed_104 ?_
              refine lv_topi (fun v_19 ev_19 => ?_)
              refine r_putI (v := v_19) X hw hat_mo 28 1228 tyX12 (by decide) rfl inn_X12_feed_12 tyX12_ok nmX12 (by decide) (X.2.2.2.1 (.fieldLink RX12 211 "SilkMillModel" "taped" "I") (by decide +kernel)) rfl (Or.inl rfl) rfl rfl (Nat.le_of_ble_eq_true rfl) (st_1228 _ _) dX12_feed_105 (fun H locs hw => ?_)
              generalize eS_20 : sI S_18 1228 mo v_19 = S_20 at hw
              have hat_mo : At S_20 mo 12 := by rw [← eS_20]; exact At_sI hat_mo
              have hat_q1227 : At S_20 q1227 13 := by rw [← eS_20]; exact At_sI hat_q1227
              have rf_q1227 : pR S_20 1227 mo = some q1227 := by rw [← eS_20, pR_sI]; exact rf_q1227
              have ln_q1227 : pN S_20 q1227 = 400 := by rw [← eS_20, pN_sI]; exact ln_q1227
              have hc_21 : pI S_20 1228 mo = v_19 := by rw [← eS_20]; exact pI_sI_same
              obtain ⟨x_22, ex_22⟩ : ∃ y : Int32, y = nI i + 1 := ⟨_, rfl⟩
              refine lv_iinc (v := x_22) (lv' := [(6, .int (x_22)), (7, .int (a4)), (0, .ref mo), (1, .int (a1)), (2, .int (a2)), (3, .int (a3)), (4, .int (a4)), (5, .int (a5))]) X.1 X.2.1 dX12_feed_108 hl (k := 1) rfl (by rw [ex_22]; rfl) (by decide) rfl (fun ls hl => ?_)
              refine lv_goto (tgt := 20) X.1 X.2.1 dX12_feed_111 (by decide) ?_
              exact ih (i + 1) _ _ _ _ (by omega) hat_mo rf_q1227 hat_q1227 ln_q1227 (hc_21.trans (ev_19.trans (nI_1 i))) hw (by rw [show nI (i + 1) = x_22 from by rw [ex_22]; exact (nI_1 i).symm]; exact lv_sub hl [0, 2, 3, 4, 5, 6, 7] rfl)
          · have z_52 := trivial
            refine lv_iload_n X.1 X.2.1 dX12_feed_55 rfl (lv_at hl 4 rfl) ?_
            refine lv_goto (tgt := 73) X.1 X.2.1 dX12_feed_56 (by decide) ?_
            refine lv_istore (lv' := [(7, .int (a3)), (6, .int (nI i)), (0, .ref mo), (1, .int (a1)), (2, .int (a2)), (3, .int (a3)), (4, .int (a4)), (5, .int (a5))]) X.1 X.2.1 dX12_feed_73 hl (by decide) rfl (fun ls hl => ?_)
            refine lv_aload_n X.1 X.2.1 dX12_feed_75 rfl (lv_at hl 2 rfl) ?_
            refine r_getR (g := 1227) X hw hat_mo 27 rf_q1227 (by decide) rfl inn_X12_feed_12 (by decide) (X.2.2.2.1 (.fieldLink RX12 82 "SilkMillModel" "tape" "[B") (by decide +kernel)) rfl (gv_1227 _ _) dX12_feed_76 ?_
            refine lv_aload_n X.1 X.2.1 dX12_feed_79 rfl (lv_at hl 2 rfl) ?_
            refine r_get (v := .int (nI i)) X hw hat_mo 28 (by decide) rfl inn_X12_feed_12 (by decide) (X.2.2.2.1 (.fieldLink RX12 211 "SilkMillModel" "taped" "I") (by decide +kernel)) rfl ((gv_1228 _ _).trans (congrArg (fun z => some (Value.int z)) ci_1228)) dX12_feed_80 ?_
            refine lv_iload X.1 X.2.1 dX12_feed_83 (lv_at hl 0 rfl) ?_
            refine lv_bipush (v := 24) X.1 X.2.1 dX12_feed_85 (by decide) ?_
            refine lv_bipush (v := 8) X.1 X.2.1 dX12_feed_87 (by decide) ?_
            refine lv_iload X.1 X.2.1 dX12_feed_89 (lv_at hl 1 rfl) ?_
            refine lv_iconst (v := 4) X.1 X.2.1 dX12_feed_91 (by decide) ?_
            refine lv_irem X.1 X.2.1 dX12_feed_92 (by decide) ?_
            refine lv_topi (fun v_23 ev_23 => ?_)
            refine lv_imul X.1 X.2.1 dX12_feed_93 ?_
            refine lv_topi (fun v_24 ev_24 => ?_)
            refine lv_isub X.1 X.2.1 dX12_feed_94 ?_
            refine lv_topi (fun v_25 ev_25 => ?_)
            refine lv_ishr X.1 X.2.1 dX12_feed_95 ?_
            refine lv_topi (fun v_26 ev_26 => ?_)
            refine lv_i2b X.1 X.2.1 dX12_feed_96 rfl ?_
            refine lv_topi (fun v_27 ev_27 => ?_)
            refine r_bast X hw hat_q1227 (by rw [ln_q1227]; exact vp_in_nI (by omega) (by omega)) dX12_feed_97 (fun H locs hw => ?_)
            generalize eS_28 : sA T q1227 (upd (pA T q1227) (Int32.toNatClampNeg (nI i)) (vp_nar .byte v_27)) = S_28 at hw
            have hat_mo : At S_28 mo 12 := by rw [← eS_28]; exact At_sA hat_mo
            have hat_q1227 : At S_28 q1227 13 := by rw [← eS_28]; exact At_sA hat_q1227
            have rf_q1227 : pR S_28 1227 mo = some q1227 := by rw [← eS_28, pR_sA]; exact rf_q1227
            have ci_1228 : pI S_28 1228 mo = nI i := by rw [← eS_28, pI_sA]; exact ci_1228
            have ln_q1227 : pN S_28 q1227 = 400 := by rw [← eS_28, pN_sA]; exact ln_q1227
            refine lv_aload_n X.1 X.2.1 dX12_feed_98 rfl (lv_at hl 2 rfl) ?_
            refine lv_dup X.1 X.2.1 dX12_feed_99 rfl ?_
            refine r_get (v := .int (nI i)) X hw hat_mo 28 (by decide) rfl inn_X12_feed_12 (by decide) (X.2.2.2.1 (.fieldLink RX12 211 "SilkMillModel" "taped" "I") (by decide +kernel)) rfl ((gv_1228 _ _).trans (congrArg (fun z => some (Value.int z)) ci_1228)) dX12_feed_100 ?_
            refine lv_iconst (v := 1) X.1 X.2.1 dX12_feed_103 (by decide) ?_
            refine lv_iadd X.1 X.2.1 dX12_feed_104 ?_
            refine lv_topi (fun v_29 ev_29 => ?_)
            refine r_putI (v := v_29) X hw hat_mo 28 1228 tyX12 (by decide) rfl inn_X12_feed_12 tyX12_ok nmX12 (by decide) (X.2.2.2.1 (.fieldLink RX12 211 "SilkMillModel" "taped" "I") (by decide +kernel)) rfl (Or.inl rfl) rfl rfl (Nat.le_of_ble_eq_true rfl) (st_1228 _ _) dX12_feed_105 (fun H locs hw => ?_)
            generalize eS_30 : sI S_28 1228 mo v_29 = S_30 at hw
            have hat_mo : At S_30 mo 12 := by rw [← eS_30]; exact At_sI hat_mo
            have hat_q1227 : At S_30 q1227 13 := by rw [← eS_30]; exact At_sI hat_q1227
            have rf_q1227 : pR S_30 1227 mo = some q1227 := by rw [← eS_30, pR_sI]; exact rf_q1227
            have ln_q1227 : pN S_30 q1227 = 400 := by rw [← eS_30, pN_sI]; exact ln_q1227
            have hc_31 : pI S_30 1228 mo = v_29 := by rw [← eS_30]; exact pI_sI_same
            obtain ⟨x_32, ex_32⟩ : ∃ y : Int32, y = nI i + 1 := ⟨_, rfl⟩
            refine lv_iinc (v := x_32) (lv' := [(6, .int (x_32)), (7, .int (a3)), (0, .ref mo), (1, .int (a1)), (2, .int (a2)), (3, .int (a3)), (4, .int (a4)), (5, .int (a5))]) X.1 X.2.1 dX12_feed_108 hl (k := 1) rfl (by rw [ex_32]; rfl) (by decide) rfl (fun ls hl => ?_)
            refine lv_goto (tgt := 20) X.1 X.2.1 dX12_feed_111 (by decide) ?_
            exact ih (i + 1) _ _ _ _ (by omega) hat_mo rf_q1227 hat_q1227 ln_q1227 (hc_31.trans (ev_29.trans (nI_1 i))) hw (by rw [show nI (i + 1) = x_32 from by rw [ex_32]; exact (nI_1 i).symm]; exact lv_sub hl [0, 2, 3, 4, 5, 6, 7] rfl)
        · have z_41 := trivial
          refine lv_iload_n X.1 X.2.1 dX12_feed_44 rfl (lv_at hl 3 rfl) ?_
          refine lv_goto (tgt := 73) X.1 X.2.1 dX12_feed_45 (by decide) ?_
          refine lv_istore (lv' := [(7, .int (a2)), (6, .int (nI i)), (0, .ref mo), (1, .int (a1)), (2, .int (a2)), (3, .int (a3)), (4, .int (a4)), (5, .int (a5))]) X.1 X.2.1 dX12_feed_73 hl (by decide) rfl (fun ls hl => ?_)
          refine lv_aload_n X.1 X.2.1 dX12_feed_75 rfl (lv_at hl 2 rfl) ?_
          refine r_getR (g := 1227) X hw hat_mo 27 rf_q1227 (by decide) rfl inn_X12_feed_12 (by decide) (X.2.2.2.1 (.fieldLink RX12 82 "SilkMillModel" "tape" "[B") (by decide +kernel)) rfl (gv_1227 _ _) dX12_feed_76 ?_
          refine lv_aload_n X.1 X.2.1 dX12_feed_79 rfl (lv_at hl 2 rfl) ?_
          refine r_get (v := .int (nI i)) X hw hat_mo 28 (by decide) rfl inn_X12_feed_12 (by decide) (X.2.2.2.1 (.fieldLink RX12 211 "SilkMillModel" "taped" "I") (by decide +kernel)) rfl ((gv_1228 _ _).trans (congrArg (fun z => some (Value.int z)) ci_1228)) dX12_feed_80 ?_
          refine lv_iload X.1 X.2.1 dX12_feed_83 (lv_at hl 0 rfl) ?_
          refine lv_bipush (v := 24) X.1 X.2.1 dX12_feed_85 (by decide) ?_
          refine lv_bipush (v := 8) X.1 X.2.1 dX12_feed_87 (by decide) ?_
          refine lv_iload X.1 X.2.1 dX12_feed_89 (lv_at hl 1 rfl) ?_
          refine lv_iconst (v := 4) X.1 X.2.1 dX12_feed_91 (by decide) ?_
          refine lv_irem X.1 X.2.1 dX12_feed_92 (by decide) ?_
          refine lv_topi (fun v_33 ev_33 => ?_)
          refine lv_imul X.1 X.2.1 dX12_feed_93 ?_
          refine lv_topi (fun v_34 ev_34 => ?_)
          refine lv_isub X.1 X.2.1 dX12_feed_94 ?_
          refine lv_topi (fun v_35 ev_35 => ?_)
          refine lv_ishr X.1 X.2.1 dX12_feed_95 ?_
          refine lv_topi (fun v_36 ev_36 => ?_)
          refine lv_i2b X.1 X.2.1 dX12_feed_96 rfl ?_
          refine lv_topi (fun v_37 ev_37 => ?_)
          refine r_bast X hw hat_q1227 (by rw [ln_q1227]; exact vp_in_nI (by omega) (by omega)) dX12_feed_97 (fun H locs hw => ?_)
          generalize eS_38 : sA T q1227 (upd (pA T q1227) (Int32.toNatClampNeg (nI i)) (vp_nar .byte v_37)) = S_38 at hw
          have hat_mo : At S_38 mo 12 := by rw [← eS_38]; exact At_sA hat_mo
          have hat_q1227 : At S_38 q1227 13 := by rw [← eS_38]; exact At_sA hat_q1227
          have rf_q1227 : pR S_38 1227 mo = some q1227 := by rw [← eS_38, pR_sA]; exact rf_q1227
          have ci_1228 : pI S_38 1228 mo = nI i := by rw [← eS_38, pI_sA]; exact ci_1228
          have ln_q1227 : pN S_38 q1227 = 400 := by rw [← eS_38, pN_sA]; exact ln_q1227
          refine lv_aload_n X.1 X.2.1 dX12_feed_98 rfl (lv_at hl 2 rfl) ?_
          refine lv_dup X.1 X.2.1 dX12_feed_99 rfl ?_
          refine r_get (v := .int (nI i)) X hw hat_mo 28 (by decide) rfl inn_X12_feed_12 (by decide) (X.2.2.2.1 (.fieldLink RX12 211 "SilkMillModel" "taped" "I") (by decide +kernel)) rfl ((gv_1228 _ _).trans (congrArg (fun z => some (Value.int z)) ci_1228)) dX12_feed_100 ?_
          refine lv_iconst (v := 1) X.1 X.2.1 dX12_feed_103 (by decide) ?_
          refine lv_iadd X.1 X.2.1 dX12_feed_104 ?_
          refine lv_topi (fun v_39 ev_39 => ?_)
          refine r_putI (v := v_39) X hw hat_mo 28 1228 tyX12 (by decide) rfl inn_X12_feed_12 tyX12_ok nmX12 (by decide) (X.2.2.2.1 (.fieldLink RX12 211 "SilkMillModel" "taped" "I") (by decide +kernel)) rfl (Or.inl rfl) rfl rfl (Nat.le_of_ble_eq_true rfl) (st_1228 _ _) dX12_feed_105 (fun H locs hw => ?_)
          generalize eS_40 : sI S_38 1228 mo v_39 = S_40 at hw
          have hat_mo : At S_40 mo 12 := by rw [← eS_40]; exact At_sI hat_mo
          have hat_q1227 : At S_40 q1227 13 := by rw [← eS_40]; exact At_sI hat_q1227
          have rf_q1227 : pR S_40 1227 mo = some q1227 := by rw [← eS_40, pR_sI]; exact rf_q1227
          have ln_q1227 : pN S_40 q1227 = 400 := by rw [← eS_40, pN_sI]; exact ln_q1227
          have hc_41 : pI S_40 1228 mo = v_39 := by rw [← eS_40]; exact pI_sI_same
          obtain ⟨x_42, ex_42⟩ : ∃ y : Int32, y = nI i + 1 := ⟨_, rfl⟩
          refine lv_iinc (v := x_42) (lv' := [(6, .int (x_42)), (7, .int (a2)), (0, .ref mo), (1, .int (a1)), (2, .int (a2)), (3, .int (a3)), (4, .int (a4)), (5, .int (a5))]) X.1 X.2.1 dX12_feed_108 hl (k := 1) rfl (by rw [ex_42]; rfl) (by decide) rfl (fun ls hl => ?_)
          refine lv_goto (tgt := 20) X.1 X.2.1 dX12_feed_111 (by decide) ?_
          exact ih (i + 1) _ _ _ _ (by omega) hat_mo rf_q1227 hat_q1227 ln_q1227 (hc_41.trans (ev_39.trans (nI_1 i))) hw (by rw [show nI (i + 1) = x_42 from by rw [ex_42]; exact (nI_1 i).symm]; exact lv_sub hl [0, 2, 3, 4, 5, 6, 7] rfl)
      · have z_30 := trivial
        refine lv_iload_n X.1 X.2.1 dX12_feed_33 rfl (lv_at hl 2 rfl) ?_
        refine lv_goto (tgt := 73) X.1 X.2.1 dX12_feed_34 (by decide) ?_
        refine lv_istore (lv' := [(7, .int (a1)), (6, .int (nI i)), (0, .ref mo), (1, .int (a1)), (2, .int (a2)), (3, .int (a3)), (4, .int (a4)), (5, .int (a5))]) X.1 X.2.1 dX12_feed_73 hl (by decide) rfl (fun ls hl => ?_)
        refine lv_aload_n X.1 X.2.1 dX12_feed_75 rfl (lv_at hl 2 rfl) ?_
        refine r_getR (g := 1227) X hw hat_mo 27 rf_q1227 (by decide) rfl inn_X12_feed_12 (by decide) (X.2.2.2.1 (.fieldLink RX12 82 "SilkMillModel" "tape" "[B") (by decide +kernel)) rfl (gv_1227 _ _) dX12_feed_76 ?_
        refine lv_aload_n X.1 X.2.1 dX12_feed_79 rfl (lv_at hl 2 rfl) ?_
        refine r_get (v := .int (nI i)) X hw hat_mo 28 (by decide) rfl inn_X12_feed_12 (by decide) (X.2.2.2.1 (.fieldLink RX12 211 "SilkMillModel" "taped" "I") (by decide +kernel)) rfl ((gv_1228 _ _).trans (congrArg (fun z => some (Value.int z)) ci_1228)) dX12_feed_80 ?_
        refine lv_iload X.1 X.2.1 dX12_feed_83 (lv_at hl 0 rfl) ?_
        refine lv_bipush (v := 24) X.1 X.2.1 dX12_feed_85 (by decide) ?_
        refine lv_bipush (v := 8) X.1 X.2.1 dX12_feed_87 (by decide) ?_
        refine lv_iload X.1 X.2.1 dX12_feed_89 (lv_at hl 1 rfl) ?_
        refine lv_iconst (v := 4) X.1 X.2.1 dX12_feed_91 (by decide) ?_
        refine lv_irem X.1 X.2.1 dX12_feed_92 (by decide) ?_
        refine lv_topi (fun v_43 ev_43 => ?_)
        refine lv_imul X.1 X.2.1 dX12_feed_93 ?_
        refine lv_topi (fun v_44 ev_44 => ?_)
        refine lv_isub X.1 X.2.1 dX12_feed_94 ?_
        refine lv_topi (fun v_45 ev_45 => ?_)
        refine lv_ishr X.1 X.2.1 dX12_feed_95 ?_
        refine lv_topi (fun v_46 ev_46 => ?_)
        refine lv_i2b X.1 X.2.1 dX12_feed_96 rfl ?_
        refine lv_topi (fun v_47 ev_47 => ?_)
        refine r_bast X hw hat_q1227 (by rw [ln_q1227]; exact vp_in_nI (by omega) (by omega)) dX12_feed_97 (fun H locs hw => ?_)
        generalize eS_48 : sA T q1227 (upd (pA T q1227) (Int32.toNatClampNeg (nI i)) (vp_nar .byte v_47)) = S_48 at hw
        have hat_mo : At S_48 mo 12 := by rw [← eS_48]; exact At_sA hat_mo
        have hat_q1227 : At S_48 q1227 13 := by rw [← eS_48]; exact At_sA hat_q1227
        have rf_q1227 : pR S_48 1227 mo = some q1227 := by rw [← eS_48, pR_sA]; exact rf_q1227
        have ci_1228 : pI S_48 1228 mo = nI i := by rw [← eS_48, pI_sA]; exact ci_1228
        have ln_q1227 : pN S_48 q1227 = 400 := by rw [← eS_48, pN_sA]; exact ln_q1227
        refine lv_aload_n X.1 X.2.1 dX12_feed_98 rfl (lv_at hl 2 rfl) ?_
        refine lv_dup X.1 X.2.1 dX12_feed_99 rfl ?_
        refine r_get (v := .int (nI i)) X hw hat_mo 28 (by decide) rfl inn_X12_feed_12 (by decide) (X.2.2.2.1 (.fieldLink RX12 211 "SilkMillModel" "taped" "I") (by decide +kernel)) rfl ((gv_1228 _ _).trans (congrArg (fun z => some (Value.int z)) ci_1228)) dX12_feed_100 ?_
        refine lv_iconst (v := 1) X.1 X.2.1 dX12_feed_103 (by decide) ?_
        refine lv_iadd X.1 X.2.1 dX12_feed_104 ?_
        refine lv_topi (fun v_49 ev_49 => ?_)
        refine r_putI (v := v_49) X hw hat_mo 28 1228 tyX12 (by decide) rfl inn_X12_feed_12 tyX12_ok nmX12 (by decide) (X.2.2.2.1 (.fieldLink RX12 211 "SilkMillModel" "taped" "I") (by decide +kernel)) rfl (Or.inl rfl) rfl rfl (Nat.le_of_ble_eq_true rfl) (st_1228 _ _) dX12_feed_105 (fun H locs hw => ?_)
        generalize eS_50 : sI S_48 1228 mo v_49 = S_50 at hw
        have hat_mo : At S_50 mo 12 := by rw [← eS_50]; exact At_sI hat_mo
        have hat_q1227 : At S_50 q1227 13 := by rw [← eS_50]; exact At_sI hat_q1227
        have rf_q1227 : pR S_50 1227 mo = some q1227 := by rw [← eS_50, pR_sI]; exact rf_q1227
        have ln_q1227 : pN S_50 q1227 = 400 := by rw [← eS_50, pN_sI]; exact ln_q1227
        have hc_51 : pI S_50 1228 mo = v_49 := by rw [← eS_50]; exact pI_sI_same
        obtain ⟨x_52, ex_52⟩ : ∃ y : Int32, y = nI i + 1 := ⟨_, rfl⟩
        refine lv_iinc (v := x_52) (lv' := [(6, .int (x_52)), (7, .int (a1)), (0, .ref mo), (1, .int (a1)), (2, .int (a2)), (3, .int (a3)), (4, .int (a4)), (5, .int (a5))]) X.1 X.2.1 dX12_feed_108 hl (k := 1) rfl (by rw [ex_52]; rfl) (by decide) rfl (fun ls hl => ?_)
        refine lv_goto (tgt := 20) X.1 X.2.1 dX12_feed_111 (by decide) ?_
        exact ih (i + 1) _ _ _ _ (by omega) hat_mo rf_q1227 hat_q1227 ln_q1227 (hc_51.trans (ev_49.trans (nI_1 i))) hw (by rw [show nI (i + 1) = x_52 from by rw [ex_52]; exact (nI_1 i).symm]; exact lv_sub hl [0, 2, 3, 4, 5, 6, 7] rfl)
  exact loop 20 0 _ _ _ _ (by omega) hat_mo rf_q1227 hat_q1227 ln_q1227 (by rw [show nI 0 = 0 from rfl]; exact ci_1228) hw (by rw [show nI 0 = 0 from rfl]; exact hl)
