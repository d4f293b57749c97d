set_option maxHeartbeats 4000000 in
set_option maxRecDepth 100000 in
theorem c_X11_end (l : Launch) (G : va_G) (cy : Nat → ClassId) (S : PS) (sz : Nat) (x : Nat) (a1 : Int32) (hF : FX S x) : Ci l yX11_end wsX11_end ({ frames := 4, cells := 0, slots := 0, locals := 160 }) G cy S sz [.ref x, .int (a1)] (fun (r : Int32) (S9 : PS) => r = endV a1) := by
  refine ent_m (cc := cX11_end) (maxL := 2) (ret := (some .int)) (by decide) rfl (Nat.le_of_ble_eq_true rfl) ?_
  intro p e s m below meth c ls X hr hlocks hin hw hl hsz
  subst hsz
  have X : Cx p c cX11_end 2 s [.ref x, .int (a1)].toArray wsX11_end RX11 m G cy (AS S s.heap.size) := X
  have hl : lv_has ls 2 [(0, .ref x), (1, .int (a1))] := hl
  have hF0 := hF
  obtain ⟨hat_x, ci_lots, ci_pots, ci_shv, ⟨cs, rf_cs, hat_cs, ln_cs⟩, ⟨lz, rf_lz, hat_lz, ln_lz⟩, ⟨ps, rf_ps, hat_ps, ln_ps⟩, ⟨tp, rf_tp, hat_tp, ci_tsz, ci_tfp, ⟨tb, rf_tb, hat_tb, ln_tb⟩⟩, ⟨st, rf_st, hat_st, ci_st, ⟨pr, rf_pr, hat_pr, ln_pr⟩, ⟨mx, rf_mx, hat_mx⟩⟩, ⟨dr, rf_dr, hat_dr, ci_dsz⟩, sh, rf_sh, hat_sh, ln_sh, hpl⟩ := hF
  have hF := hF0
  refine lv_iload_n X.1 X.2.1 dX11_end_0 rfl (lv_at hl 1 rfl) ?_
  refine lv_if_lt (tgt := 15) X.1 X.2.1 dX11_end_1 (by decide) (fun c_1 => ?_) (fun c_1 => ?_)
  · have z_1 := trivial
    refine lv_iconst (v := (-1)) X.1 X.2.1 dX11_end_15 (by decide) ?_
    exact ret_i X hw hr hlocks (Nat.le_of_ble_eq_true rfl) (Nat.le_of_ble_eq_true rfl) (by unfold endV; rw [if_neg (fun h => by first | exact absurd h.1 (Int32.not_le.mpr ‹_›) | exact absurd h.2 ‹_›)]) dX11_end_16
  · have z_1 := trivial
    refine lv_iload_n X.1 X.2.1 dX11_end_4 rfl (lv_at hl 1 rfl) ?_
    refine lv_aload_n X.1 X.2.1 dX11_end_5 rfl (lv_at hl 0 rfl) ?_
    refine r_getR (g := 1105) X hw hat_x 5 rf_tp (by decide) rfl inn_X11_end_11 (by decide) (X.2.2.2.1 (.fieldLink RX11 28 "SilkMill" "tape" "LSilkMill$Tape;") (by decide +kernel)) rfl (gv_1105 _ _) dX11_end_6 ?_
    refine r_get (v := .int 0) X hw hat_tp 0 (by decide) rfl inn_X11_end_10 (by decide) (X.2.2.2.1 (.fieldLink RX11 145 "SilkMill$Tape" "size" "I") (by decide +kernel)) rfl ((gv_1000 _ _).trans (congrArg (fun z => some (Value.int z)) ci_tsz)) dX11_end_9 ?_
    refine lv_icmp_le (tgt := 17) X.1 X.2.1 dX11_end_12 (by decide) (fun c_12 => ?_) (fun c_12 => ?_)
    · have z_12 := trivial
      refine lv_aload_n X.1 X.2.1 dX11_end_17 rfl (lv_at hl 0 rfl) ?_
      refine r_getR (g := 1105) X hw hat_x 5 rf_tp (by decide) rfl inn_X11_end_11 (by decide) (X.2.2.2.1 (.fieldLink RX11 28 "SilkMill" "tape" "LSilkMill$Tape;") (by decide +kernel)) rfl (gv_1105 _ _) dX11_end_18 ?_
      refine lv_iload_n X.1 X.2.1 dX11_end_21 rfl (lv_at hl 1 rfl) ?_
      refine r_putI (v := a1) X hw hat_tp 0 1000 tyX10 (by decide) rfl inn_X11_end_10 tyX10_ok nmX10 (by decide) (X.2.2.2.1 (.fieldLink RX11 145 "SilkMill$Tape" "size" "I") (by decide +kernel)) rfl (Or.inl rfl) rfl rfl (Nat.le_of_ble_eq_true rfl) (st_1000 _ _) dX11_end_22 (fun H locs hw => ?_)
      generalize eS_1 : sI S 1000 tp a1 = S_1 at hw
      have hat_x : At S_1 x 11 := by rw [← eS_1]; exact At_sI hat_x
      have hat_tp : At S_1 tp 10 := by rw [← eS_1]; exact At_sI hat_tp
      have rf_tp : pR S_1 1105 x = some tp := by rw [← eS_1, pR_sI]; exact rf_tp
      have ci_lots : pI S_1 1102 x = 0 := by rw [← eS_1]; exact (pI_sI_nf (by decide)).trans ci_lots
      have ci_pots : pI S_1 1104 x = 0 := by rw [← eS_1]; exact (pI_sI_nf (by decide)).trans ci_pots
      have ci_shv : pI S_1 1110 x = 0 := by rw [← eS_1]; exact (pI_sI_nf (by decide)).trans ci_shv
      have ci_tfp : pI S_1 1002 tp = (-1) := by rw [← eS_1]; exact (pI_sI_nf (by decide)).trans ci_tfp
      have hc_2 : pI S_1 1000 tp = a1 := by rw [← eS_1]; exact pI_sI_same
      refine lv_iload_n X.1 X.2.1 dX11_end_25 rfl (lv_at hl 1 rfl) ?_
      exact ret_i X hw hr hlocks (Nat.le_of_ble_eq_true rfl) (Nat.le_of_ble_eq_true rfl) (if_pos ⟨Int32.not_lt.mp c_1, c_12⟩).symm dX11_end_26
    · have z_12 := trivial
      refine lv_iconst (v := (-1)) X.1 X.2.1 dX11_end_15 (by decide) ?_
      exact ret_i X hw hr hlocks (Nat.le_of_ble_eq_true rfl) (Nat.le_of_ble_eq_true rfl) (by unfold endV; rw [if_neg (fun h => by first | exact absurd h.1 (Int32.not_le.mpr ‹_›) | exact absurd h.2 ‹_›)]) dX11_end_16
set_option maxHeartbeats 4000000 in
set_option maxRecDepth 100000 in
theorem c_X10_append_0 (l : Launch) (G : va_G) (cy : Nat → ClassId) (S : PS) (sz : Nat) (tp : Nat) (v : Int32) (tb : Nat) (hat_tp : At S tp 10) (ci_tsz : pI S 1000 tp = 0) (rf_tb : pR S 1003 tp = some tb) (hat_tb : At S tb 13) (ln_tb : pN S tb = 400) : Cv l yX10_append wsX10_append ({ frames := 1, cells := 0, slots := 0, locals := 40 }) G cy S sz [.ref tp, .int (v)] (fun (S9 : PS) => pL S9 = pL S ∧ pK S9 = pK S ∧ pR S9 = pR S ∧ pN S9 = pN S ∧ pI S9 1000 tp = 4) := by
  refine ent_m (cc := cX10_append) (maxL := 2) (ret := none) (by decide) rfl (Nat.le_of_ble_eq_true rfl) ?_
  intro p e s m below meth c ls X hr hlocks hin hw hl hsz
  subst hsz
  have X : Cx p c cX10_append 2 s [.ref tp, .int (v)].toArray wsX10_append RX10 m G cy (AS S s.heap.size) := X
  have hl : lv_has ls 2 [(0, .ref tp), (1, .int (v))] := hl
  refine lv_aload_n X.1 X.2.1 dX10_append_0 rfl (lv_at hl 0 rfl) ?_
  refine r_get (v := .int 0) X hw hat_tp 0 (by decide) rfl inn_X10_append_10 (by decide) (X.2.2.2.1 (.fieldLink RX10 19 "SilkMill$Tape" "size" "I") (by decide +kernel)) rfl ((gv_1000 _ _).trans (congrArg (fun z => some (Value.int z)) ci_tsz)) dX10_append_1 ?_
  refine lv_iconst (v := 4) X.1 X.2.1 dX10_append_4 (by decide) ?_
  refine lv_iadd X.1 X.2.1 dX10_append_5 ?_
  refine lv_topi (fun v_1 ev_1 => ?_)
  obtain rfl : v_1 = 4 := ev_1.trans (by decide +kernel)
  refine lv_sipush (v := 400) X.1 X.2.1 dX10_append_6 (by decide) ?_
  refine lv_icmp_gt (tgt := 81) X.1 X.2.1 dX10_append_9 (by decide) (fun c_9 => absurd c_9 (by decide)) (fun c_9 => ?_)
  refine lv_aload_n X.1 X.2.1 dX10_append_12 rfl (lv_at hl 0 rfl) ?_
  refine r_getR (g := 1003) X hw hat_tp 3 rf_tb (by decide) rfl inn_X10_append_10 (by decide) (X.2.2.2.1 (.fieldLink RX10 15 "SilkMill$Tape" "bytes" "[B") (by decide +kernel)) rfl (gv_1003 _ _) dX10_append_13 ?_
  refine lv_aload_n X.1 X.2.1 dX10_append_16 rfl (lv_at hl 0 rfl) ?_
  refine r_get (v := .int 0) X hw hat_tp 0 (by decide) rfl inn_X10_append_10 (by decide) (X.2.2.2.1 (.fieldLink RX10 19 "SilkMill$Tape" "size" "I") (by decide +kernel)) rfl ((gv_1000 _ _).trans (congrArg (fun z => some (Value.int z)) ci_tsz)) dX10_append_17 ?_
  refine lv_iload_n X.1 X.2.1 dX10_append_20 rfl (lv_at hl 1 rfl) ?_
  refine lv_bipush (v := 24) X.1 X.2.1 dX10_append_21 (by decide) ?_
  refine lv_iushr X.1 X.2.1 dX10_append_23 rfl ?_
  refine lv_topi (fun v_2 ev_2 => ?_)
  refine lv_i2b X.1 X.2.1 dX10_append_24 rfl ?_
  refine lv_topi (fun v_3 ev_3 => ?_)
  refine r_bast X hw hat_tb (by rw [ln_tb]; exact vp_in_iff.mpr (by decide +kernel)) dX10_append_25 (fun H locs hw => ?_)
  generalize eS_4 : sA S tb (upd (pA S tb) (Int32.toNatClampNeg (0)) (vp_nar .byte v_3)) = S_4 at hw
  have hat_tp : At S_4 tp 10 := by rw [← eS_4]; exact At_sA hat_tp
  have hat_tb : At S_4 tb 13 := by rw [← eS_4]; exact At_sA hat_tb
  have rf_tb : pR S_4 1003 tp = some tb := by rw [← eS_4, pR_sA]; exact rf_tb
  have ci_tsz : pI S_4 1000 tp = 0 := by rw [← eS_4, pI_sA]; exact ci_tsz
  have ln_tb : pN S_4 tb = 400 := by rw [← eS_4, pN_sA]; exact ln_tb
  refine lv_aload_n X.1 X.2.1 dX10_append_26 rfl (lv_at hl 0 rfl) ?_
  refine r_getR (g := 1003) X hw hat_tp 3 rf_tb (by decide) rfl inn_X10_append_10 (by decide) (X.2.2.2.1 (.fieldLink RX10 15 "SilkMill$Tape" "bytes" "[B") (by decide +kernel)) rfl (gv_1003 _ _) dX10_append_27 ?_
  refine lv_aload_n X.1 X.2.1 dX10_append_30 rfl (lv_at hl 0 rfl) ?_
  refine r_get (v := .int 0) X hw hat_tp 0 (by decide) rfl inn_X10_append_10 (by decide) (X.2.2.2.1 (.fieldLink RX10 19 "SilkMill$Tape" "size" "I") (by decide +kernel)) rfl ((gv_1000 _ _).trans (congrArg (fun z => some (Value.int z)) ci_tsz)) dX10_append_31 ?_
  refine lv_iconst (v := 1) X.1 X.2.1 dX10_append_34 (by decide) ?_
  refine lv_iadd X.1 X.2.1 dX10_append_35 ?_
  refine lv_topi (fun v_5 ev_5 => ?_)
  obtain rfl : v_5 = 1 := ev_5.trans (by decide +kernel)
  refine lv_iload_n X.1 X.2.1 dX10_append_36 rfl (lv_at hl 1 rfl) ?_
  refine lv_bipush (v := 16) X.1 X.2.1 dX10_append_37 (by decide) ?_
  refine lv_iushr X.1 X.2.1 dX10_append_39 rfl ?_
  refine lv_topi (fun v_6 ev_6 => ?_)
  refine lv_i2b X.1 X.2.1 dX10_append_40 rfl ?_
  refine lv_topi (fun v_7 ev_7 => ?_)
  refine r_bast X hw hat_tb (by rw [ln_tb]; exact vp_in_iff.mpr (by decide +kernel)) dX10_append_41 (fun H locs hw => ?_)
  generalize eS_8 : sA S_4 tb (upd (pA S_4 tb) (Int32.toNatClampNeg (1)) (vp_nar .byte v_7)) = S_8 at hw
  have hat_tp : At S_8 tp 10 := by rw [← eS_8]; exact At_sA hat_tp
  have hat_tb : At S_8 tb 13 := by rw [← eS_8]; exact At_sA hat_tb
  have rf_tb : pR S_8 1003 tp = some tb := by rw [← eS_8, pR_sA]; exact rf_tb
  have ci_tsz : pI S_8 1000 tp = 0 := by rw [← eS_8, pI_sA]; exact ci_tsz
  have ln_tb : pN S_8 tb = 400 := by rw [← eS_8, pN_sA]; exact ln_tb
  refine lv_aload_n X.1 X.2.1 dX10_append_42 rfl (lv_at hl 0 rfl) ?_
  refine r_getR (g := 1003) X hw hat_tp 3 rf_tb (by decide) rfl inn_X10_append_10 (by decide) (X.2.2.2.1 (.fieldLink RX10 15 "SilkMill$Tape" "bytes" "[B") (by decide +kernel)) rfl (gv_1003 _ _) dX10_append_43 ?_
  refine lv_aload_n X.1 X.2.1 dX10_append_46 rfl (lv_at hl 0 rfl) ?_
  refine r_get (v := .int 0) X hw hat_tp 0 (by decide) rfl inn_X10_append_10 (by decide) (X.2.2.2.1 (.fieldLink RX10 19 "SilkMill$Tape" "size" "I") (by decide +kernel)) rfl ((gv_1000 _ _).trans (congrArg (fun z => some (Value.int z)) ci_tsz)) dX10_append_47 ?_
  refine lv_iconst (v := 2) X.1 X.2.1 dX10_append_50 (by decide) ?_
  refine lv_iadd X.1 X.2.1 dX10_append_51 ?_
  refine lv_topi (fun v_9 ev_9 => ?_)
  obtain rfl : v_9 = 2 := ev_9.trans (by decide +kernel)
  refine lv_iload_n X.1 X.2.1 dX10_append_52 rfl (lv_at hl 1 rfl) ?_
  refine lv_bipush (v := 8) X.1 X.2.1 dX10_append_53 (by decide) ?_
  refine lv_iushr X.1 X.2.1 dX10_append_55 rfl ?_
  refine lv_topi (fun v_10 ev_10 => ?_)
  refine lv_i2b X.1 X.2.1 dX10_append_56 rfl ?_
  refine lv_topi (fun v_11 ev_11 => ?_)
  refine r_bast X hw hat_tb (by rw [ln_tb]; exact vp_in_iff.mpr (by decide +kernel)) dX10_append_57 (fun H locs hw => ?_)
  generalize eS_12 : sA S_8 tb (upd (pA S_8 tb) (Int32.toNatClampNeg (2)) (vp_nar .byte v_11)) = S_12 at hw
  have hat_tp : At S_12 tp 10 := by rw [← eS_12]; exact At_sA hat_tp
  have hat_tb : At S_12 tb 13 := by rw [← eS_12]; exact At_sA hat_tb
  have rf_tb : pR S_12 1003 tp = some tb := by rw [← eS_12, pR_sA]; exact rf_tb
  have ci_tsz : pI S_12 1000 tp = 0 := by rw [← eS_12, pI_sA]; exact ci_tsz
  have ln_tb : pN S_12 tb = 400 := by rw [← eS_12, pN_sA]; exact ln_tb
  refine lv_aload_n X.1 X.2.1 dX10_append_58 rfl (lv_at hl 0 rfl) ?_
  refine r_getR (g := 1003) X hw hat_tp 3 rf_tb (by decide) rfl inn_X10_append_10 (by decide) (X.2.2.2.1 (.fieldLink RX10 15 "SilkMill$Tape" "bytes" "[B") (by decide +kernel)) rfl (gv_1003 _ _) dX10_append_59 ?_
  refine lv_aload_n X.1 X.2.1 dX10_append_62 rfl (lv_at hl 0 rfl) ?_
  refine r_get (v := .int 0) X hw hat_tp 0 (by decide) rfl inn_X10_append_10 (by decide) (X.2.2.2.1 (.fieldLink RX10 19 "SilkMill$Tape" "size" "I") (by decide +kernel)) rfl ((gv_1000 _ _).trans (congrArg (fun z => some (Value.int z)) ci_tsz)) dX10_append_63 ?_
  refine lv_iconst (v := 3) X.1 X.2.1 dX10_append_66 (by decide) ?_
  refine lv_iadd X.1 X.2.1 dX10_append_67 ?_
  refine lv_topi (fun v_13 ev_13 => ?_)
  obtain rfl : v_13 = 3 := ev_13.trans (by decide +kernel)
  refine lv_iload_n X.1 X.2.1 dX10_append_68 rfl (lv_at hl 1 rfl) ?_
  refine lv_i2b X.1 X.2.1 dX10_append_69 rfl ?_
  refine lv_topi (fun v_14 ev_14 => ?_)
  refine r_bast X hw hat_tb (by rw [ln_tb]; exact vp_in_iff.mpr (by decide +kernel)) dX10_append_70 (fun H locs hw => ?_)
  generalize eS_15 : sA S_12 tb (upd (pA S_12 tb) (Int32.toNatClampNeg (3)) (vp_nar .byte v_14)) = S_15 at hw
  have hat_tp : At S_15 tp 10 := by rw [← eS_15]; exact At_sA hat_tp
  have hat_tb : At S_15 tb 13 := by rw [← eS_15]; exact At_sA hat_tb
  have rf_tb : pR S_15 1003 tp = some tb := by rw [← eS_15, pR_sA]; exact rf_tb
  have ci_tsz : pI S_15 1000 tp = 0 := by rw [← eS_15, pI_sA]; exact ci_tsz
  have ln_tb : pN S_15 tb = 400 := by rw [← eS_15, pN_sA]; exact ln_tb
  refine lv_aload_n X.1 X.2.1 dX10_append_71 rfl (lv_at hl 0 rfl) ?_
  refine lv_dup X.1 X.2.1 dX10_append_72 rfl ?_
  refine r_get (v := .int 0) X hw hat_tp 0 (by decide) rfl inn_X10_append_10 (by decide) (X.2.2.2.1 (.fieldLink RX10 19 "SilkMill$Tape" "size" "I") (by decide +kernel)) rfl ((gv_1000 _ _).trans (congrArg (fun z => some (Value.int z)) ci_tsz)) dX10_append_73 ?_
  refine lv_iconst (v := 4) X.1 X.2.1 dX10_append_76 (by decide) ?_
  refine lv_iadd X.1 X.2.1 dX10_append_77 ?_
  refine lv_topi (fun v_16 ev_16 => ?_)
  obtain rfl : v_16 = 4 := ev_16.trans (by decide +kernel)
  refine r_putI (v := 4) X hw hat_tp 0 1000 tyX10 (by decide) rfl inn_X10_append_10 tyX10_ok nmX10 (by decide) (X.2.2.2.1 (.fieldLink RX10 19 "SilkMill$Tape" "size" "I") (by decide +kernel)) rfl (Or.inl rfl) rfl rfl (Nat.le_of_ble_eq_true rfl) (st_1000 _ _) dX10_append_78 (fun H locs hw => ?_)
  generalize eS_17 : sI S_15 1000 tp 4 = S_17 at hw
  have hat_tp : At S_17 tp 10 := by rw [← eS_17]; exact At_sI hat_tp
  have hat_tb : At S_17 tb 13 := by rw [← eS_17]; exact At_sI hat_tb
  have rf_tb : pR S_17 1003 tp = some tb := by rw [← eS_17, pR_sI]; exact rf_tb
  have ln_tb : pN S_17 tb = 400 := by rw [← eS_17, pN_sI]; exact ln_tb
  have hc_18 : pI S_17 1000 tp = 4 := by rw [← eS_17]; exact pI_sI_same
  exact ret_v X hw hr hlocks (Nat.le_of_ble_eq_true rfl) (Nat.le_of_ble_eq_true rfl) (by refine ⟨?_, ?_, ?_, ?_, hc_18⟩ <;> (subst eS_17 eS_15 eS_12 eS_8 eS_4; simp only [pL_sI, pL_sA, pK_sI, pK_sA, pR_sI, pR_sA, pN_sI, pN_sA])) dX10_append_81
set_option maxHeartbeats 4000000 in
set_option maxRecDepth 100000 in
theorem c_X10_append_4 (l : Launch) (G : va_G) (cy : Nat → ClassId) (S : PS) (sz : Nat) (tp : Nat) (v : Int32) (tb : Nat) (hat_tp : At S tp 10) (ci_tsz : pI S 1000 tp = 4) (rf_tb : pR S 1003 tp = some tb) (hat_tb : At S tb 13) (ln_tb : pN S tb = 400) : Cv l yX10_append wsX10_append ({ frames := 1, cells := 0, slots := 0, locals := 40 }) G cy S sz [.ref tp, .int (v)] (fun (S9 : PS) => pL S9 = pL S ∧ pK S9 = pK S ∧ pR S9 = pR S ∧ pN S9 = pN S ∧ pI S9 1000 tp = 8) := by
  refine ent_m (cc := cX10_append) (maxL := 2) (ret := none) (by decide) rfl (Nat.le_of_ble_eq_true rfl) ?_
  intro p e s m below meth c ls X hr hlocks hin hw hl hsz
  subst hsz
  have X : Cx p c cX10_append 2 s [.ref tp, .int (v)].toArray wsX10_append RX10 m G cy (AS S s.heap.size) := X
  have hl : lv_has ls 2 [(0, .ref tp), (1, .int (v))] := hl
  refine lv_aload_n X.1 X.2.1 dX10_append_0 rfl (lv_at hl 0 rfl) ?_
  refine r_get (v := .int 4) X hw hat_tp 0 (by decide) rfl inn_X10_append_10 (by decide) (X.2.2.2.1 (.fieldLink RX10 19 "SilkMill$Tape" "size" "I") (by decide +kernel)) rfl ((gv_1000 _ _).trans (congrArg (fun z => some (Value.int z)) ci_tsz)) dX10_append_1 ?_
  refine lv_iconst (v := 4) X.1 X.2.1 dX10_append_4 (by decide) ?_
  refine lv_iadd X.1 X.2.1 dX10_append_5 ?_
  refine lv_topi (fun v_1 ev_1 => ?_)
  obtain rfl : v_1 = 8 := ev_1.trans (by decide +kernel)
  refine lv_sipush (v := 400) X.1 X.2.1 dX10_append_6 (by decide) ?_
  refine lv_icmp_gt (tgt := 81) X.1 X.2.1 dX10_append_9 (by decide) (fun c_9 => absurd c_9 (by decide)) (fun c_9 => ?_)
  refine lv_aload_n X.1 X.2.1 dX10_append_12 rfl (lv_at hl 0 rfl) ?_
  refine r_getR (g := 1003) X hw hat_tp 3 rf_tb (by decide) rfl inn_X10_append_10 (by decide) (X.2.2.2.1 (.fieldLink RX10 15 "SilkMill$Tape" "bytes" "[B") (by decide +kernel)) rfl (gv_1003 _ _) dX10_append_13 ?_
  refine lv_aload_n X.1 X.2.1 dX10_append_16 rfl (lv_at hl 0 rfl) ?_
  refine r_get (v := .int 4) X hw hat_tp 0 (by decide) rfl inn_X10_append_10 (by decide) (X.2.2.2.1 (.fieldLink RX10 19 "SilkMill$Tape" "size" "I") (by decide +kernel)) rfl ((gv_1000 _ _).trans (congrArg (fun z => some (Value.int z)) ci_tsz)) dX10_append_17 ?_
  refine lv_iload_n X.1 X.2.1 dX10_append_20 rfl (lv_at hl 1 rfl) ?_
  refine lv_bipush (v := 24) X.1 X.2.1 dX10_append_21 (by decide) ?_
  refine lv_iushr X.1 X.2.1 dX10_append_23 rfl ?_
  refine lv_topi (fun v_2 ev_2 => ?_)
  refine lv_i2b X.1 X.2.1 dX10_append_24 rfl ?_
  refine lv_topi (fun v_3 ev_3 => ?_)
  refine r_bast X hw hat_tb (by rw [ln_tb]; exact vp_in_iff.mpr (by decide +kernel)) dX10_append_25 (fun H locs hw => ?_)
  generalize eS_4 : sA S tb (upd (pA S tb) (Int32.toNatClampNeg (4)) (vp_nar .byte v_3)) = S_4 at hw
  have hat_tp : At S_4 tp 10 := by rw [← eS_4]; exact At_sA hat_tp
  have hat_tb : At S_4 tb 13 := by rw [← eS_4]; exact At_sA hat_tb
  have rf_tb : pR S_4 1003 tp = some tb := by rw [← eS_4, pR_sA]; exact rf_tb
  have ci_tsz : pI S_4 1000 tp = 4 := by rw [← eS_4, pI_sA]; exact ci_tsz
  have ln_tb : pN S_4 tb = 400 := by rw [← eS_4, pN_sA]; exact ln_tb
  refine lv_aload_n X.1 X.2.1 dX10_append_26 rfl (lv_at hl 0 rfl) ?_
  refine r_getR (g := 1003) X hw hat_tp 3 rf_tb (by decide) rfl inn_X10_append_10 (by decide) (X.2.2.2.1 (.fieldLink RX10 15 "SilkMill$Tape" "bytes" "[B") (by decide +kernel)) rfl (gv_1003 _ _) dX10_append_27 ?_
  refine lv_aload_n X.1 X.2.1 dX10_append_30 rfl (lv_at hl 0 rfl) ?_
  refine r_get (v := .int 4) X hw hat_tp 0 (by decide) rfl inn_X10_append_10 (by decide) (X.2.2.2.1 (.fieldLink RX10 19 "SilkMill$Tape" "size" "I") (by decide +kernel)) rfl ((gv_1000 _ _).trans (congrArg (fun z => some (Value.int z)) ci_tsz)) dX10_append_31 ?_
  refine lv_iconst (v := 1) X.1 X.2.1 dX10_append_34 (by decide) ?_
  refine lv_iadd X.1 X.2.1 dX10_append_35 ?_
  refine lv_topi (fun v_5 ev_5 => ?_)
  obtain rfl : v_5 = 5 := ev_5.trans (by decide +kernel)
  refine lv_iload_n X.1 X.2.1 dX10_append_36 rfl (lv_at hl 1 rfl) ?_
  refine lv_bipush (v := 16) X.1 X.2.1 dX10_append_37 (by decide) ?_
  refine lv_iushr X.1 X.2.1 dX10_append_39 rfl ?_
  refine lv_topi (fun v_6 ev_6 => ?_)
  refine lv_i2b X.1 X.2.1 dX10_append_40 rfl ?_
  refine lv_topi (fun v_7 ev_7 => ?_)
  refine r_bast X hw hat_tb (by rw [ln_tb]; exact vp_in_iff.mpr (by decide +kernel)) dX10_append_41 (fun H locs hw => ?_)
  generalize eS_8 : sA S_4 tb (upd (pA S_4 tb) (Int32.toNatClampNeg (5)) (vp_nar .byte v_7)) = S_8 at hw
  have hat_tp : At S_8 tp 10 := by rw [← eS_8]; exact At_sA hat_tp
  have hat_tb : At S_8 tb 13 := by rw [← eS_8]; exact At_sA hat_tb
  have rf_tb : pR S_8 1003 tp = some tb := by rw [← eS_8, pR_sA]; exact rf_tb
  have ci_tsz : pI S_8 1000 tp = 4 := by rw [← eS_8, pI_sA]; exact ci_tsz
  have ln_tb : pN S_8 tb = 400 := by rw [← eS_8, pN_sA]; exact ln_tb
  refine lv_aload_n X.1 X.2.1 dX10_append_42 rfl (lv_at hl 0 rfl) ?_
  refine r_getR (g := 1003) X hw hat_tp 3 rf_tb (by decide) rfl inn_X10_append_10 (by decide) (X.2.2.2.1 (.fieldLink RX10 15 "SilkMill$Tape" "bytes" "[B") (by decide +kernel)) rfl (gv_1003 _ _) dX10_append_43 ?_
  refine lv_aload_n X.1 X.2.1 dX10_append_46 rfl (lv_at hl 0 rfl) ?_
  refine r_get (v := .int 4) X hw hat_tp 0 (by decide) rfl inn_X10_append_10 (by decide) (X.2.2.2.1 (.fieldLink RX10 19 "SilkMill$Tape" "size" "I") (by decide +kernel)) rfl ((gv_1000 _ _).trans (congrArg (fun z => some (Value.int z)) ci_tsz)) dX10_append_47 ?_
  refine lv_iconst (v := 2) X.1 X.2.1 dX10_append_50 (by decide) ?_
  refine lv_iadd X.1 X.2.1 dX10_append_51 ?_
  refine lv_topi (fun v_9 ev_9 => ?_)
  obtain rfl : v_9 = 6 := ev_9.trans (by decide +kernel)
  refine lv_iload_n X.1 X.2.1 dX10_append_52 rfl (lv_at hl 1 rfl) ?_
  refine lv_bipush (v := 8) X.1 X.2.1 dX10_append_53 (by decide) ?_
  refine lv_iushr X.1 X.2.1 dX10_append_55 rfl ?_
  refine lv_topi (fun v_10 ev_10 => ?_)
  refine lv_i2b X.1 X.2.1 dX10_append_56 rfl ?_
  refine lv_topi (fun v_11 ev_11 => ?_)
  refine r_bast X hw hat_tb (by rw [ln_tb]; exact vp_in_iff.mpr (by decide +kernel)) dX10_append_57 (fun H locs hw => ?_)
  generalize eS_12 : sA S_8 tb (upd (pA S_8 tb) (Int32.toNatClampNeg (6)) (vp_nar .byte v_11)) = S_12 at hw
  have hat_tp : At S_12 tp 10 := by rw [← eS_12]; exact At_sA hat_tp
  have hat_tb : At S_12 tb 13 := by rw [← eS_12]; exact At_sA hat_tb
  have rf_tb : pR S_12 1003 tp = some tb := by rw [← eS_12, pR_sA]; exact rf_tb
  have ci_tsz : pI S_12 1000 tp = 4 := by rw [← eS_12, pI_sA]; exact ci_tsz
  have ln_tb : pN S_12 tb = 400 := by rw [← eS_12, pN_sA]; exact ln_tb
  refine lv_aload_n X.1 X.2.1 dX10_append_58 rfl (lv_at hl 0 rfl) ?_
  refine r_getR (g := 1003) X hw hat_tp 3 rf_tb (by decide) rfl inn_X10_append_10 (by decide) (X.2.2.2.1 (.fieldLink RX10 15 "SilkMill$Tape" "bytes" "[B") (by decide +kernel)) rfl (gv_1003 _ _) dX10_append_59 ?_
  refine lv_aload_n X.1 X.2.1 dX10_append_62 rfl (lv_at hl 0 rfl) ?_
  refine r_get (v := .int 4) X hw hat_tp 0 (by decide) rfl inn_X10_append_10 (by decide) (X.2.2.2.1 (.fieldLink RX10 19 "SilkMill$Tape" "size" "I") (by decide +kernel)) rfl ((gv_1000 _ _).trans (congrArg (fun z => some (Value.int z)) ci_tsz)) dX10_append_63 ?_
  refine lv_iconst (v := 3) X.1 X.2.1 dX10_append_66 (by decide) ?_
  refine lv_iadd X.1 X.2.1 dX10_append_67 ?_
  refine lv_topi (fun v_13 ev_13 => ?_)
  obtain rfl : v_13 = 7 := ev_13.trans (by decide +kernel)
  refine lv_iload_n X.1 X.2.1 dX10_append_68 rfl (lv_at hl 1 rfl) ?_
  refine lv_i2b X.1 X.2.1 dX10_append_69 rfl ?_
  refine lv_topi (fun v_14 ev_14 => ?_)
  refine r_bast X hw hat_tb (by rw [ln_tb]; exact vp_in_iff.mpr (by decide +kernel)) dX10_append_70 (fun H locs hw => ?_)
  generalize eS_15 : sA S_12 tb (upd (pA S_12 tb) (Int32.toNatClampNeg (7)) (vp_nar .byte v_14)) = S_15 at hw
  have hat_tp : At S_15 tp 10 := by rw [← eS_15]; exact At_sA hat_tp
  have hat_tb : At S_15 tb 13 := by rw [← eS_15]; exact At_sA hat_tb
  have rf_tb : pR S_15 1003 tp = some tb := by rw [← eS_15, pR_sA]; exact rf_tb
  have ci_tsz : pI S_15 1000 tp = 4 := by rw [← eS_15, pI_sA]; exact ci_tsz
  have ln_tb : pN S_15 tb = 400 := by rw [← eS_15, pN_sA]; exact ln_tb
  refine lv_aload_n X.1 X.2.1 dX10_append_71 rfl (lv_at hl 0 rfl) ?_
  refine lv_dup X.1 X.2.1 dX10_append_72 rfl ?_
  refine r_get (v := .int 4) X hw hat_tp 0 (by decide) rfl inn_X10_append_10 (by decide) (X.2.2.2.1 (.fieldLink RX10 19 "SilkMill$Tape" "size" "I") (by decide +kernel)) rfl ((gv_1000 _ _).trans (congrArg (fun z => some (Value.int z)) ci_tsz)) dX10_append_73 ?_
  refine lv_iconst (v := 4) X.1 X.2.1 dX10_append_76 (by decide) ?_
  refine lv_iadd X.1 X.2.1 dX10_append_77 ?_
  refine lv_topi (fun v_16 ev_16 => ?_)
  obtain rfl : v_16 = 8 := ev_16.trans (by decide +kernel)
  refine r_putI (v := 8) X hw hat_tp 0 1000 tyX10 (by decide) rfl inn_X10_append_10 tyX10_ok nmX10 (by decide) (X.2.2.2.1 (.fieldLink RX10 19 "SilkMill$Tape" "size" "I") (by decide +kernel)) rfl (Or.inl rfl) rfl rfl (Nat.le_of_ble_eq_true rfl) (st_1000 _ _) dX10_append_78 (fun H locs hw => ?_)
  generalize eS_17 : sI S_15 1000 tp 8 = S_17 at hw
  have hat_tp : At S_17 tp 10 := by rw [← eS_17]; exact At_sI hat_tp
  have hat_tb : At S_17 tb 13 := by rw [← eS_17]; exact At_sI hat_tb
  have rf_tb : pR S_17 1003 tp = some tb := by rw [← eS_17, pR_sI]; exact rf_tb
  have ln_tb : pN S_17 tb = 400 := by rw [← eS_17, pN_sI]; exact ln_tb
  have hc_18 : pI S_17 1000 tp = 8 := by rw [← eS_17]; exact pI_sI_same
  exact ret_v X hw hr hlocks (Nat.le_of_ble_eq_true rfl) (Nat.le_of_ble_eq_true rfl) (by refine ⟨?_, ?_, ?_, ?_, hc_18⟩ <;> (subst eS_17 eS_15 eS_12 eS_8 eS_4; simp only [pL_sI, pL_sA, pK_sI, pK_sA, pR_sI, pR_sA, pN_sI, pN_sA])) dX10_append_81
set_option maxHeartbeats 4000000 in
set_option maxRecDepth 100000 in
theorem c_X10_append_8 (l : Launch) (G : va_G) (cy : Nat → ClassId) (S : PS) (sz : Nat) (tp : Nat) (v : Int32) (tb : Nat) (hat_tp : At S tp 10) (ci_tsz : pI S 1000 tp = 8) (rf_tb : pR S 1003 tp = some tb) (hat_tb : At S tb 13) (ln_tb : pN S tb = 400) : Cv l yX10_append wsX10_append ({ frames := 1, cells := 0, slots := 0, locals := 40 }) G cy S sz [.ref tp, .int (v)] (fun (S9 : PS) => pL S9 = pL S ∧ pK S9 = pK S ∧ pR S9 = pR S ∧ pN S9 = pN S ∧ pI S9 1000 tp = 12) := by
  refine ent_m (cc := cX10_append) (maxL := 2) (ret := none) (by decide) rfl (Nat.le_of_ble_eq_true rfl) ?_
  intro p e s m below meth c ls X hr hlocks hin hw hl hsz
  subst hsz
  have X : Cx p c cX10_append 2 s [.ref tp, .int (v)].toArray wsX10_append RX10 m G cy (AS S s.heap.size) := X
  have hl : lv_has ls 2 [(0, .ref tp), (1, .int (v))] := hl
  refine lv_aload_n X.1 X.2.1 dX10_append_0 rfl (lv_at hl 0 rfl) ?_
  refine r_get (v := .int 8) X hw hat_tp 0 (by decide) rfl inn_X10_append_10 (by decide) (X.2.2.2.1 (.fieldLink RX10 19 "SilkMill$Tape" "size" "I") (by decide +kernel)) rfl ((gv_1000 _ _).trans (congrArg (fun z => some (Value.int z)) ci_tsz)) dX10_append_1 ?_
  refine lv_iconst (v := 4) X.1 X.2.1 dX10_append_4 (by decide) ?_
  refine lv_iadd X.1 X.2.1 dX10_append_5 ?_
  refine lv_topi (fun v_1 ev_1 => ?_)
  obtain rfl : v_1 = 12 := ev_1.trans (by decide +kernel)
  refine lv_sipush (v := 400) X.1 X.2.1 dX10_append_6 (by decide) ?_
  refine lv_icmp_gt (tgt := 81) X.1 X.2.1 dX10_append_9 (by decide) (fun c_9 => absurd c_9 (by decide)) (fun c_9 => ?_)
  refine lv_aload_n X.1 X.2.1 dX10_append_12 rfl (lv_at hl 0 rfl) ?_
  refine r_getR (g := 1003) X hw hat_tp 3 rf_tb (by decide) rfl inn_X10_append_10 (by decide) (X.2.2.2.1 (.fieldLink RX10 15 "SilkMill$Tape" "bytes" "[B") (by decide +kernel)) rfl (gv_1003 _ _) dX10_append_13 ?_
  refine lv_aload_n X.1 X.2.1 dX10_append_16 rfl (lv_at hl 0 rfl) ?_
  refine r_get (v := .int 8) X hw hat_tp 0 (by decide) rfl inn_X10_append_10 (by decide) (X.2.2.2.1 (.fieldLink RX10 19 "SilkMill$Tape" "size" "I") (by decide +kernel)) rfl ((gv_1000 _ _).trans (congrArg (fun z => some (Value.int z)) ci_tsz)) dX10_append_17 ?_
  refine lv_iload_n X.1 X.2.1 dX10_append_20 rfl (lv_at hl 1 rfl) ?_
  refine lv_bipush (v := 24) X.1 X.2.1 dX10_append_21 (by decide) ?_
  refine lv_iushr X.1 X.2.1 dX10_append_23 rfl ?_
  refine lv_topi (fun v_2 ev_2 => ?_)
  refine lv_i2b X.1 X.2.1 dX10_append_24 rfl ?_
  refine lv_topi (fun v_3 ev_3 => ?_)
  refine r_bast X hw hat_tb (by rw [ln_tb]; exact vp_in_iff.mpr (by decide +kernel)) dX10_append_25 (fun H locs hw => ?_)
  generalize eS_4 : sA S tb (upd (pA S tb) (Int32.toNatClampNeg (8)) (vp_nar .byte v_3)) = S_4 at hw
  have hat_tp : At S_4 tp 10 := by rw [← eS_4]; exact At_sA hat_tp
  have hat_tb : At S_4 tb 13 := by rw [← eS_4]; exact At_sA hat_tb
  have rf_tb : pR S_4 1003 tp = some tb := by rw [← eS_4, pR_sA]; exact rf_tb
  have ci_tsz : pI S_4 1000 tp = 8 := by rw [← eS_4, pI_sA]; exact ci_tsz
  have ln_tb : pN S_4 tb = 400 := by rw [← eS_4, pN_sA]; exact ln_tb
  refine lv_aload_n X.1 X.2.1 dX10_append_26 rfl (lv_at hl 0 rfl) ?_
  refine r_getR (g := 1003) X hw hat_tp 3 rf_tb (by decide) rfl inn_X10_append_10 (by decide) (X.2.2.2.1 (.fieldLink RX10 15 "SilkMill$Tape" "bytes" "[B") (by decide +kernel)) rfl (gv_1003 _ _) dX10_append_27 ?_
  refine lv_aload_n X.1 X.2.1 dX10_append_30 rfl (lv_at hl 0 rfl) ?_
  refine r_get (v := .int 8) X hw hat_tp 0 (by decide) rfl inn_X10_append_10 (by decide) (X.2.2.2.1 (.fieldLink RX10 19 "SilkMill$Tape" "size" "I") (by decide +kernel)) rfl ((gv_1000 _ _).trans (congrArg (fun z => some (Value.int z)) ci_tsz)) dX10_append_31 ?_
  refine lv_iconst (v := 1) X.1 X.2.1 dX10_append_34 (by decide) ?_
  refine lv_iadd X.1 X.2.1 dX10_append_35 ?_
  refine lv_topi (fun v_5 ev_5 => ?_)
  obtain rfl : v_5 = 9 := ev_5.trans (by decide +kernel)
  refine lv_iload_n X.1 X.2.1 dX10_append_36 rfl (lv_at hl 1 rfl) ?_
  refine lv_bipush (v := 16) X.1 X.2.1 dX10_append_37 (by decide) ?_
  refine lv_iushr X.1 X.2.1 dX10_append_39 rfl ?_
  refine lv_topi (fun v_6 ev_6 => ?_)
  refine lv_i2b X.1 X.2.1 dX10_append_40 rfl ?_
  refine lv_topi (fun v_7 ev_7 => ?_)
  refine r_bast X hw hat_tb (by rw [ln_tb]; exact vp_in_iff.mpr (by decide +kernel)) dX10_append_41 (fun H locs hw => ?_)
  generalize eS_8 : sA S_4 tb (upd (pA S_4 tb) (Int32.toNatClampNeg (9)) (vp_nar .byte v_7)) = S_8 at hw
  have hat_tp : At S_8 tp 10 := by rw [← eS_8]; exact At_sA hat_tp
  have hat_tb : At S_8 tb 13 := by rw [← eS_8]; exact At_sA hat_tb
  have rf_tb : pR S_8 1003 tp = some tb := by rw [← eS_8, pR_sA]; exact rf_tb
  have ci_tsz : pI S_8 1000 tp = 8 := by rw [← eS_8, pI_sA]; exact ci_tsz
  have ln_tb : pN S_8 tb = 400 := by rw [← eS_8, pN_sA]; exact ln_tb
  refine lv_aload_n X.1 X.2.1 dX10_append_42 rfl (lv_at hl 0 rfl) ?_
  refine r_getR (g := 1003) X hw hat_tp 3 rf_tb (by decide) rfl inn_X10_append_10 (by decide) (X.2.2.2.1 (.fieldLink RX10 15 "SilkMill$Tape" "bytes" "[B") (by decide +kernel)) rfl (gv_1003 _ _) dX10_append_43 ?_
  refine lv_aload_n X.1 X.2.1 dX10_append_46 rfl (lv_at hl 0 rfl) ?_
  refine r_get (v := .int 8) X hw hat_tp 0 (by decide) rfl inn_X10_append_10 (by decide) (X.2.2.2.1 (.fieldLink RX10 19 "SilkMill$Tape" "size" "I") (by decide +kernel)) rfl ((gv_1000 _ _).trans (congrArg (fun z => some (Value.int z)) ci_tsz)) dX10_append_47 ?_
  refine lv_iconst (v := 2) X.1 X.2.1 dX10_append_50 (by decide) ?_
  refine lv_iadd X.1 X.2.1 dX10_append_51 ?_
  refine lv_topi (fun v_9 ev_9 => ?_)
  obtain rfl : v_9 = 10 := ev_9.trans (by decide +kernel)
  refine lv_iload_n X.1 X.2.1 dX10_append_52 rfl (lv_at hl 1 rfl) ?_
  refine lv_bipush (v := 8) X.1 X.2.1 dX10_append_53 (by decide) ?_
  refine lv_iushr X.1 X.2.1 dX10_append_55 rfl ?_
  refine lv_topi (fun v_10 ev_10 => ?_)
  refine lv_i2b X.1 X.2.1 dX10_append_56 rfl ?_
  refine lv_topi (fun v_11 ev_11 => ?_)
  refine r_bast X hw hat_tb (by rw [ln_tb]; exact vp_in_iff.mpr (by decide +kernel)) dX10_append_57 (fun H locs hw => ?_)
  generalize eS_12 : sA S_8 tb (upd (pA S_8 tb) (Int32.toNatClampNeg (10)) (vp_nar .byte v_11)) = S_12 at hw
  have hat_tp : At S_12 tp 10 := by rw [← eS_12]; exact At_sA hat_tp
  have hat_tb : At S_12 tb 13 := by rw [← eS_12]; exact At_sA hat_tb
  have rf_tb : pR S_12 1003 tp = some tb := by rw [← eS_12, pR_sA]; exact rf_tb
  have ci_tsz : pI S_12 1000 tp = 8 := by rw [← eS_12, pI_sA]; exact ci_tsz
  have ln_tb : pN S_12 tb = 400 := by rw [← eS_12, pN_sA]; exact ln_tb
  refine lv_aload_n X.1 X.2.1 dX10_append_58 rfl (lv_at hl 0 rfl) ?_
  refine r_getR (g := 1003) X hw hat_tp 3 rf_tb (by decide) rfl inn_X10_append_10 (by decide) (X.2.2.2.1 (.fieldLink RX10 15 "SilkMill$Tape" "bytes" "[B") (by decide +kernel)) rfl (gv_1003 _ _) dX10_append_59 ?_
  refine lv_aload_n X.1 X.2.1 dX10_append_62 rfl (lv_at hl 0 rfl) ?_
  refine r_get (v := .int 8) X hw hat_tp 0 (by decide) rfl inn_X10_append_10 (by decide) (X.2.2.2.1 (.fieldLink RX10 19 "SilkMill$Tape" "size" "I") (by decide +kernel)) rfl ((gv_1000 _ _).trans (congrArg (fun z => some (Value.int z)) ci_tsz)) dX10_append_63 ?_
  refine lv_iconst (v := 3) X.1 X.2.1 dX10_append_66 (by decide) ?_
  refine lv_iadd X.1 X.2.1 dX10_append_67 ?_
  refine lv_topi (fun v_13 ev_13 => ?_)
  obtain rfl : v_13 = 11 := ev_13.trans (by decide +kernel)
  refine lv_iload_n X.1 X.2.1 dX10_append_68 rfl (lv_at hl 1 rfl) ?_
  refine lv_i2b X.1 X.2.1 dX10_append_69 rfl ?_
  refine lv_topi (fun v_14 ev_14 => ?_)
  refine r_bast X hw hat_tb (by rw [ln_tb]; exact vp_in_iff.mpr (by decide +kernel)) dX10_append_70 (fun H locs hw => ?_)
  generalize eS_15 : sA S_12 tb (upd (pA S_12 tb) (Int32.toNatClampNeg (11)) (vp_nar .byte v_14)) = S_15 at hw
  have hat_tp : At S_15 tp 10 := by rw [← eS_15]; exact At_sA hat_tp
  have hat_tb : At S_15 tb 13 := by rw [← eS_15]; exact At_sA hat_tb
  have rf_tb : pR S_15 1003 tp = some tb := by rw [← eS_15, pR_sA]; exact rf_tb
  have ci_tsz : pI S_15 1000 tp = 8 := by rw [← eS_15, pI_sA]; exact ci_tsz
  have ln_tb : pN S_15 tb = 400 := by rw [← eS_15, pN_sA]; exact ln_tb
  refine lv_aload_n X.1 X.2.1 dX10_append_71 rfl (lv_at hl 0 rfl) ?_
  refine lv_dup X.1 X.2.1 dX10_append_72 rfl ?_
  refine r_get (v := .int 8) X hw hat_tp 0 (by decide) rfl inn_X10_append_10 (by decide) (X.2.2.2.1 (.fieldLink RX10 19 "SilkMill$Tape" "size" "I") (by decide +kernel)) rfl ((gv_1000 _ _).trans (congrArg (fun z => some (Value.int z)) ci_tsz)) dX10_append_73 ?_
  refine lv_iconst (v := 4) X.1 X.2.1 dX10_append_76 (by decide) ?_
  refine lv_iadd X.1 X.2.1 dX10_append_77 ?_
  refine lv_topi (fun v_16 ev_16 => ?_)
  obtain rfl : v_16 = 12 := ev_16.trans (by decide +kernel)
  refine r_putI (v := 12) X hw hat_tp 0 1000 tyX10 (by decide) rfl inn_X10_append_10 tyX10_ok nmX10 (by decide) (X.2.2.2.1 (.fieldLink RX10 19 "SilkMill$Tape" "size" "I") (by decide +kernel)) rfl (Or.inl rfl) rfl rfl (Nat.le_of_ble_eq_true rfl) (st_1000 _ _) dX10_append_78 (fun H locs hw => ?_)
  generalize eS_17 : sI S_15 1000 tp 12 = S_17 at hw
  have hat_tp : At S_17 tp 10 := by rw [← eS_17]; exact At_sI hat_tp
  have hat_tb : At S_17 tb 13 := by rw [← eS_17]; exact At_sI hat_tb
  have rf_tb : pR S_17 1003 tp = some tb := by rw [← eS_17, pR_sI]; exact rf_tb
  have ln_tb : pN S_17 tb = 400 := by rw [← eS_17, pN_sI]; exact ln_tb
  have hc_18 : pI S_17 1000 tp = 12 := by rw [← eS_17]; exact pI_sI_same
  exact ret_v X hw hr hlocks (Nat.le_of_ble_eq_true rfl) (Nat.le_of_ble_eq_true rfl) (by refine ⟨?_, ?_, ?_, ?_, hc_18⟩ <;> (subst eS_17 eS_15 eS_12 eS_8 eS_4; simp only [pL_sI, pL_sA, pK_sI, pK_sA, pR_sI, pR_sA, pN_sI, pN_sA])) dX10_append_81
set_option maxHeartbeats 4000000 in
set_option maxRecDepth 100000 in
theorem c_X10_append_12 (l : Launch) (G : va_G) (cy : Nat → ClassId) (S : PS) (sz : Nat) (tp : Nat) (v : Int32) (tb : Nat) (hat_tp : At S tp 10) (ci_tsz : pI S 1000 tp = 12) (rf_tb : pR S 1003 tp = some tb) (hat_tb : At S tb 13) (ln_tb : pN S tb = 400) : Cv l yX10_append wsX10_append ({ frames := 1, cells := 0, slots := 0, locals := 40 }) G cy S sz [.ref tp, .int (v)] (fun (S9 : PS) => pL S9 = pL S ∧ pK S9 = pK S ∧ pR S9 = pR S ∧ pN S9 = pN S ∧ pI S9 1000 tp = 16) := by
  refine ent_m (cc := cX10_append) (maxL := 2) (ret := none) (by decide) rfl (Nat.le_of_ble_eq_true rfl) ?_
  intro p e s m below meth c ls X hr hlocks hin hw hl hsz
  subst hsz
  have X : Cx p c cX10_append 2 s [.ref tp, .int (v)].toArray wsX10_append RX10 m G cy (AS S s.heap.size) := X
  have hl : lv_has ls 2 [(0, .ref tp), (1, .int (v))] := hl
  refine lv_aload_n X.1 X.2.1 dX10_append_0 rfl (lv_at hl 0 rfl) ?_
  refine r_get (v := .int 12) X hw hat_tp 0 (by decide) rfl inn_X10_append_10 (by decide) (X.2.2.2.1 (.fieldLink RX10 19 "SilkMill$Tape" "size" "I") (by decide +kernel)) rfl ((gv_1000 _ _).trans (congrArg (fun z => some (Value.int z)) ci_tsz)) dX10_append_1 ?_
  refine lv_iconst (v := 4) X.1 X.2.1 dX10_append_4 (by decide) ?_
  refine lv_iadd X.1 X.2.1 dX10_append_5 ?_
  refine lv_topi (fun v_1 ev_1 => ?_)
  obtain rfl : v_1 = 16 := ev_1.trans (by decide +kernel)
  refine lv_sipush (v := 400) X.1 X.2.1 dX10_append_6 (by decide) ?_
  refine lv_icmp_gt (tgt := 81) X.1 X.2.1 dX10_append_9 (by decide) (fun c_9 => absurd c_9 (by decide)) (fun c_9 => ?_)
  refine lv_aload_n X.1 X.2.1 dX10_append_12 rfl (lv_at hl 0 rfl) ?_
  refine r_getR (g := 1003) X hw hat_tp 3 rf_tb (by decide) rfl inn_X10_append_10 (by decide) (X.2.2.2.1 (.fieldLink RX10 15 "SilkMill$Tape" "bytes" "[B") (by decide +kernel)) rfl (gv_1003 _ _) dX10_append_13 ?_
  refine lv_aload_n X.1 X.2.1 dX10_append_16 rfl (lv_at hl 0 rfl) ?_
  refine r_get (v := .int 12) X hw hat_tp 0 (by decide) rfl inn_X10_append_10 (by decide) (X.2.2.2.1 (.fieldLink RX10 19 "SilkMill$Tape" "size" "I") (by decide +kernel)) rfl ((gv_1000 _ _).trans (congrArg (fun z => some (Value.int z)) ci_tsz)) dX10_append_17 ?_
  refine lv_iload_n X.1 X.2.1 dX10_append_20 rfl (lv_at hl 1 rfl) ?_
  refine lv_bipush (v := 24) X.1 X.2.1 dX10_append_21 (by decide) ?_
  refine lv_iushr X.1 X.2.1 dX10_append_23 rfl ?_
  refine lv_topi (fun v_2 ev_2 => ?_)
  refine lv_i2b X.1 X.2.1 dX10_append_24 rfl ?_
  refine lv_topi (fun v_3 ev_3 => ?_)
  refine r_bast X hw hat_tb (by rw [ln_tb]; exact vp_in_iff.mpr (by decide +kernel)) dX10_append_25 (fun H locs hw => ?_)
  generalize eS_4 : sA S tb (upd (pA S tb) (Int32.toNatClampNeg (12)) (vp_nar .byte v_3)) = S_4 at hw
  have hat_tp : At S_4 tp 10 := by rw [← eS_4]; exact At_sA hat_tp
  have hat_tb : At S_4 tb 13 := by rw [← eS_4]; exact At_sA hat_tb
  have rf_tb : pR S_4 1003 tp = some tb := by rw [← eS_4, pR_sA]; exact rf_tb
  have ci_tsz : pI S_4 1000 tp = 12 := by rw [← eS_4, pI_sA]; exact ci_tsz
  have ln_tb : pN S_4 tb = 400 := by rw [← eS_4, pN_sA]; exact ln_tb
  refine lv_aload_n X.1 X.2.1 dX10_append_26 rfl (lv_at hl 0 rfl) ?_
  refine r_getR (g := 1003) X hw hat_tp 3 rf_tb (by decide) rfl inn_X10_append_10 (by decide) (X.2.2.2.1 (.fieldLink RX10 15 "SilkMill$Tape" "bytes" "[B") (by decide +kernel)) rfl (gv_1003 _ _) dX10_append_27 ?_
  refine lv_aload_n X.1 X.2.1 dX10_append_30 rfl (lv_at hl 0 rfl) ?_
  refine r_get (v := .int 12) X hw hat_tp 0 (by decide) rfl inn_X10_append_10 (by decide) (X.2.2.2.1 (.fieldLink RX10 19 "SilkMill$Tape" "size" "I") (by decide +kernel)) rfl ((gv_1000 _ _).trans (congrArg (fun z => some (Value.int z)) ci_tsz)) dX10_append_31 ?_
  refine lv_iconst (v := 1) X.1 X.2.1 dX10_append_34 (by decide) ?_
  refine lv_iadd X.1 X.2.1 dX10_append_35 ?_
  refine lv_topi (fun v_5 ev_5 => ?_)
  obtain rfl : v_5 = 13 := ev_5.trans (by decide +kernel)
  refine lv_iload_n X.1 X.2.1 dX10_append_36 rfl (lv_at hl 1 rfl) ?_
  refine lv_bipush (v := 16) X.1 X.2.1 dX10_append_37 (by decide) ?_
  refine lv_iushr X.1 X.2.1 dX10_append_39 rfl ?_
  refine lv_topi (fun v_6 ev_6 => ?_)
  refine lv_i2b X.1 X.2.1 dX10_append_40 rfl ?_
  refine lv_topi (fun v_7 ev_7 => ?_)
  refine r_bast X hw hat_tb (by rw [ln_tb]; exact vp_in_iff.mpr (by decide +kernel)) dX10_append_41 (fun H locs hw => ?_)
  generalize eS_8 : sA S_4 tb (upd (pA S_4 tb) (Int32.toNatClampNeg (13)) (vp_nar .byte v_7)) = S_8 at hw
  have hat_tp : At S_8 tp 10 := by rw [← eS_8]; exact At_sA hat_tp
  have hat_tb : At S_8 tb 13 := by rw [← eS_8]; exact At_sA hat_tb
  have rf_tb : pR S_8 1003 tp = some tb := by rw [← eS_8, pR_sA]; exact rf_tb
  have ci_tsz : pI S_8 1000 tp = 12 := by rw [← eS_8, pI_sA]; exact ci_tsz
  have ln_tb : pN S_8 tb = 400 := by rw [← eS_8, pN_sA]; exact ln_tb
  refine lv_aload_n X.1 X.2.1 dX10_append_42 rfl (lv_at hl 0 rfl) ?_
  refine r_getR (g := 1003) X hw hat_tp 3 rf_tb (by decide) rfl inn_X10_append_10 (by decide) (X.2.2.2.1 (.fieldLink RX10 15 "SilkMill$Tape" "bytes" "[B") (by decide +kernel)) rfl (gv_1003 _ _) dX10_append_43 ?_
  refine lv_aload_n X.1 X.2.1 dX10_append_46 rfl (lv_at hl 0 rfl) ?_
  refine r_get (v := .int 12) X hw hat_tp 0 (by decide) rfl inn_X10_append_10 (by decide) (X.2.2.2.1 (.fieldLink RX10 19 "SilkMill$Tape" "size" "I") (by decide +kernel)) rfl ((gv_1000 _ _).trans (congrArg (fun z => some (Value.int z)) ci_tsz)) dX10_append_47 ?_
  refine lv_iconst (v := 2) X.1 X.2.1 dX10_append_50 (by decide) ?_
  refine lv_iadd X.1 X.2.1 dX10_append_51 ?_
  refine lv_topi (fun v_9 ev_9 => ?_)
  obtain rfl : v_9 = 14 := ev_9.trans (by decide +kernel)
  refine lv_iload_n X.1 X.2.1 dX10_append_52 rfl (lv_at hl 1 rfl) ?_
  refine lv_bipush (v := 8) X.1 X.2.1 dX10_append_53 (by decide) ?_
  refine lv_iushr X.1 X.2.1 dX10_append_55 rfl ?_
  refine lv_topi (fun v_10 ev_10 => ?_)
  refine lv_i2b X.1 X.2.1 dX10_append_56 rfl ?_
  refine lv_topi (fun v_11 ev_11 => ?_)
  refine r_bast X hw hat_tb (by rw [ln_tb]; exact vp_in_iff.mpr (by decide +kernel)) dX10_append_57 (fun H locs hw => ?_)
  generalize eS_12 : sA S_8 tb (upd (pA S_8 tb) (Int32.toNatClampNeg (14)) (vp_nar .byte v_11)) = S_12 at hw
  have hat_tp : At S_12 tp 10 := by rw [← eS_12]; exact At_sA hat_tp
  have hat_tb : At S_12 tb 13 := by rw [← eS_12]; exact At_sA hat_tb
  have rf_tb : pR S_12 1003 tp = some tb := by rw [← eS_12, pR_sA]; exact rf_tb
  have ci_tsz : pI S_12 1000 tp = 12 := by rw [← eS_12, pI_sA]; exact ci_tsz
  have ln_tb : pN S_12 tb = 400 := by rw [← eS_12, pN_sA]; exact ln_tb
  refine lv_aload_n X.1 X.2.1 dX10_append_58 rfl (lv_at hl 0 rfl) ?_
  refine r_getR (g := 1003) X hw hat_tp 3 rf_tb (by decide) rfl inn_X10_append_10 (by decide) (X.2.2.2.1 (.fieldLink RX10 15 "SilkMill$Tape" "bytes" "[B") (by decide +kernel)) rfl (gv_1003 _ _) dX10_append_59 ?_
  refine lv_aload_n X.1 X.2.1 dX10_append_62 rfl (lv_at hl 0 rfl) ?_
  refine r_get (v := .int 12) X hw hat_tp 0 (by decide) rfl inn_X10_append_10 (by decide) (X.2.2.2.1 (.fieldLink RX10 19 "SilkMill$Tape" "size" "I") (by decide +kernel)) rfl ((gv_1000 _ _).trans (congrArg (fun z => some (Value.int z)) ci_tsz)) dX10_append_63 ?_
  refine lv_iconst (v := 3) X.1 X.2.1 dX10_append_66 (by decide) ?_
  refine lv_iadd X.1 X.2.1 dX10_append_67 ?_
  refine lv_topi (fun v_13 ev_13 => ?_)
  obtain rfl : v_13 = 15 := ev_13.trans (by decide +kernel)
  refine lv_iload_n X.1 X.2.1 dX10_append_68 rfl (lv_at hl 1 rfl) ?_
  refine lv_i2b X.1 X.2.1 dX10_append_69 rfl ?_
  refine lv_topi (fun v_14 ev_14 => ?_)
  refine r_bast X hw hat_tb (by rw [ln_tb]; exact vp_in_iff.mpr (by decide +kernel)) dX10_append_70 (fun H locs hw => ?_)
  generalize eS_15 : sA S_12 tb (upd (pA S_12 tb) (Int32.toNatClampNeg (15)) (vp_nar .byte v_14)) = S_15 at hw
  have hat_tp : At S_15 tp 10 := by rw [← eS_15]; exact At_sA hat_tp
  have hat_tb : At S_15 tb 13 := by rw [← eS_15]; exact At_sA hat_tb
  have rf_tb : pR S_15 1003 tp = some tb := by rw [← eS_15, pR_sA]; exact rf_tb
  have ci_tsz : pI S_15 1000 tp = 12 := by rw [← eS_15, pI_sA]; exact ci_tsz
  have ln_tb : pN S_15 tb = 400 := by rw [← eS_15, pN_sA]; exact ln_tb
  refine lv_aload_n X.1 X.2.1 dX10_append_71 rfl (lv_at hl 0 rfl) ?_
  refine lv_dup X.1 X.2.1 dX10_append_72 rfl ?_
  refine r_get (v := .int 12) X hw hat_tp 0 (by decide) rfl inn_X10_append_10 (by decide) (X.2.2.2.1 (.fieldLink RX10 19 "SilkMill$Tape" "size" "I") (by decide +kernel)) rfl ((gv_1000 _ _).trans (congrArg (fun z => some (Value.int z)) ci_tsz)) dX10_append_73 ?_
  refine lv_iconst (v := 4) X.1 X.2.1 dX10_append_76 (by decide) ?_
  refine lv_iadd X.1 X.2.1 dX10_append_77 ?_
  refine lv_topi (fun v_16 ev_16 => ?_)
  obtain rfl : v_16 = 16 := ev_16.trans (by decide +kernel)
  refine r_putI (v := 16) X hw hat_tp 0 1000 tyX10 (by decide) rfl inn_X10_append_10 tyX10_ok nmX10 (by decide) (X.2.2.2.1 (.fieldLink RX10 19 "SilkMill$Tape" "size" "I") (by decide +kernel)) rfl (Or.inl rfl) rfl rfl (Nat.le_of_ble_eq_true rfl) (st_1000 _ _) dX10_append_78 (fun H locs hw => ?_)
  generalize eS_17 : sI S_15 1000 tp 16 = S_17 at hw
  have hat_tp : At S_17 tp 10 := by rw [← eS_17]; exact At_sI hat_tp
  have hat_tb : At S_17 tb 13 := by rw [← eS_17]; exact At_sI hat_tb
  have rf_tb : pR S_17 1003 tp = some tb := by rw [← eS_17, pR_sI]; exact rf_tb
  have ln_tb : pN S_17 tb = 400 := by rw [← eS_17, pN_sI]; exact ln_tb
  have hc_18 : pI S_17 1000 tp = 16 := by rw [← eS_17]; exact pI_sI_same
  exact ret_v X hw hr hlocks (Nat.le_of_ble_eq_true rfl) (Nat.le_of_ble_eq_true rfl) (by refine ⟨?_, ?_, ?_, ?_, hc_18⟩ <;> (subst eS_17 eS_15 eS_12 eS_8 eS_4; simp only [pL_sI, pL_sA, pK_sI, pK_sA, pR_sI, pR_sA, pN_sI, pN_sA])) dX10_append_81
set_option maxHeartbeats 4000000 in
set_option maxRecDepth 100000 in
theorem c_X10_append_16 (l : Launch) (G : va_G) (cy : Nat → ClassId) (S : PS) (sz : Nat) (tp : Nat) (v : Int32) (tb : Nat) (hat_tp : At S tp 10) (ci_tsz : pI S 1000 tp = 16) (rf_tb : pR S 1003 tp = some tb) (hat_tb : At S tb 13) (ln_tb : pN S tb = 400) : Cv l yX10_append wsX10_append ({ frames := 1, cells := 0, slots := 0, locals := 40 }) G cy S sz [.ref tp, .int (v)] (fun (S9 : PS) => pL S9 = pL S ∧ pK S9 = pK S ∧ pR S9 = pR S ∧ pN S9 = pN S ∧ pI S9 1000 tp = 20) := by
  refine ent_m (cc := cX10_append) (maxL := 2) (ret := none) (by decide) rfl (Nat.le_of_ble_eq_true rfl) ?_
  intro p e s m below meth c ls X hr hlocks hin hw hl hsz
  subst hsz
  have X : Cx p c cX10_append 2 s [.ref tp, .int (v)].toArray wsX10_append RX10 m G cy (AS S s.heap.size) := X
  have hl : lv_has ls 2 [(0, .ref tp), (1, .int (v))] := hl
  refine lv_aload_n X.1 X.2.1 dX10_append_0 rfl (lv_at hl 0 rfl) ?_
  refine r_get (v := .int 16) X hw hat_tp 0 (by decide) rfl inn_X10_append_10 (by decide) (X.2.2.2.1 (.fieldLink RX10 19 "SilkMill$Tape" "size" "I") (by decide +kernel)) rfl ((gv_1000 _ _).trans (congrArg (fun z => some (Value.int z)) ci_tsz)) dX10_append_1 ?_
  refine lv_iconst (v := 4) X.1 X.2.1 dX10_append_4 (by decide) ?_
  refine lv_iadd X.1 X.2.1 dX10_append_5 ?_
  refine lv_topi (fun v_1 ev_1 => ?_)
  obtain rfl : v_1 = 20 := ev_1.trans (by decide +kernel)
  refine lv_sipush (v := 400) X.1 X.2.1 dX10_append_6 (by decide) ?_
  refine lv_icmp_gt (tgt := 81) X.1 X.2.1 dX10_append_9 (by decide) (fun c_9 => absurd c_9 (by decide)) (fun c_9 => ?_)
  refine lv_aload_n X.1 X.2.1 dX10_append_12 rfl (lv_at hl 0 rfl) ?_
  refine r_getR (g := 1003) X hw hat_tp 3 rf_tb (by decide) rfl inn_X10_append_10 (by decide) (X.2.2.2.1 (.fieldLink RX10 15 "SilkMill$Tape" "bytes" "[B") (by decide +kernel)) rfl (gv_1003 _ _) dX10_append_13 ?_
  refine lv_aload_n X.1 X.2.1 dX10_append_16 rfl (lv_at hl 0 rfl) ?_
  refine r_get (v := .int 16) X hw hat_tp 0 (by decide) rfl inn_X10_append_10 (by decide) (X.2.2.2.1 (.fieldLink RX10 19 "SilkMill$Tape" "size" "I") (by decide +kernel)) rfl ((gv_1000 _ _).trans (congrArg (fun z => some (Value.int z)) ci_tsz)) dX10_append_17 ?_
  refine lv_iload_n X.1 X.2.1 dX10_append_20 rfl (lv_at hl 1 rfl) ?_
  refine lv_bipush (v := 24) X.1 X.2.1 dX10_append_21 (by decide) ?_
  refine lv_iushr X.1 X.2.1 dX10_append_23 rfl ?_
  refine lv_topi (fun v_2 ev_2 => ?_)
  refine lv_i2b X.1 X.2.1 dX10_append_24 rfl ?_
  refine lv_topi (fun v_3 ev_3 => ?_)
  refine r_bast X hw hat_tb (by rw [ln_tb]; exact vp_in_iff.mpr (by decide +kernel)) dX10_append_25 (fun H locs hw => ?_)
  generalize eS_4 : sA S tb (upd (pA S tb) (Int32.toNatClampNeg (16)) (vp_nar .byte v_3)) = S_4 at hw
  have hat_tp : At S_4 tp 10 := by rw [← eS_4]; exact At_sA hat_tp
  have hat_tb : At S_4 tb 13 := by rw [← eS_4]; exact At_sA hat_tb
  have rf_tb : pR S_4 1003 tp = some tb := by rw [← eS_4, pR_sA]; exact rf_tb
  have ci_tsz : pI S_4 1000 tp = 16 := by rw [← eS_4, pI_sA]; exact ci_tsz
  have ln_tb : pN S_4 tb = 400 := by rw [← eS_4, pN_sA]; exact ln_tb
  refine lv_aload_n X.1 X.2.1 dX10_append_26 rfl (lv_at hl 0 rfl) ?_
  refine r_getR (g := 1003) X hw hat_tp 3 rf_tb (by decide) rfl inn_X10_append_10 (by decide) (X.2.2.2.1 (.fieldLink RX10 15 "SilkMill$Tape" "bytes" "[B") (by decide +kernel)) rfl (gv_1003 _ _) dX10_append_27 ?_
  refine lv_aload_n X.1 X.2.1 dX10_append_30 rfl (lv_at hl 0 rfl) ?_
  refine r_get (v := .int 16) X hw hat_tp 0 (by decide) rfl inn_X10_append_10 (by decide) (X.2.2.2.1 (.fieldLink RX10 19 "SilkMill$Tape" "size" "I") (by decide +kernel)) rfl ((gv_1000 _ _).trans (congrArg (fun z => some (Value.int z)) ci_tsz)) dX10_append_31 ?_
  refine lv_iconst (v := 1) X.1 X.2.1 dX10_append_34 (by decide) ?_
  refine lv_iadd X.1 X.2.1 dX10_append_35 ?_
  refine lv_topi (fun v_5 ev_5 => ?_)
  obtain rfl : v_5 = 17 := ev_5.trans (by decide +kernel)
  refine lv_iload_n X.1 X.2.1 dX10_append_36 rfl (lv_at hl 1 rfl) ?_
  refine lv_bipush (v := 16) X.1 X.2.1 dX10_append_37 (by decide) ?_
  refine lv_iushr X.1 X.2.1 dX10_append_39 rfl ?_
  refine lv_topi (fun v_6 ev_6 => ?_)
  refine lv_i2b X.1 X.2.1 dX10_append_40 rfl ?_
  refine lv_topi (fun v_7 ev_7 => ?_)
  refine r_bast X hw hat_tb (by rw [ln_tb]; exact vp_in_iff.mpr (by decide +kernel)) dX10_append_41 (fun H locs hw => ?_)
  generalize eS_8 : sA S_4 tb (upd (pA S_4 tb) (Int32.toNatClampNeg (17)) (vp_nar .byte v_7)) = S_8 at hw
  have hat_tp : At S_8 tp 10 := by rw [← eS_8]; exact At_sA hat_tp
  have hat_tb : At S_8 tb 13 := by rw [← eS_8]; exact At_sA hat_tb
  have rf_tb : pR S_8 1003 tp = some tb := by rw [← eS_8, pR_sA]; exact rf_tb
  have ci_tsz : pI S_8 1000 tp = 16 := by rw [← eS_8, pI_sA]; exact ci_tsz
  have ln_tb : pN S_8 tb = 400 := by rw [← eS_8, pN_sA]; exact ln_tb
  refine lv_aload_n X.1 X.2.1 dX10_append_42 rfl (lv_at hl 0 rfl) ?_
  refine r_getR (g := 1003) X hw hat_tp 3 rf_tb (by decide) rfl inn_X10_append_10 (by decide) (X.2.2.2.1 (.fieldLink RX10 15 "SilkMill$Tape" "bytes" "[B") (by decide +kernel)) rfl (gv_1003 _ _) dX10_append_43 ?_
  refine lv_aload_n X.1 X.2.1 dX10_append_46 rfl (lv_at hl 0 rfl) ?_
  refine r_get (v := .int 16) X hw hat_tp 0 (by decide) rfl inn_X10_append_10 (by decide) (X.2.2.2.1 (.fieldLink RX10 19 "SilkMill$Tape" "size" "I") (by decide +kernel)) rfl ((gv_1000 _ _).trans (congrArg (fun z => some (Value.int z)) ci_tsz)) dX10_append_47 ?_
  refine lv_iconst (v := 2) X.1 X.2.1 dX10_append_50 (by decide) ?_
  refine lv_iadd X.1 X.2.1 dX10_append_51 ?_
  refine lv_topi (fun v_9 ev_9 => ?_)
  obtain rfl : v_9 = 18 := ev_9.trans (by decide +kernel)
  refine lv_iload_n X.1 X.2.1 dX10_append_52 rfl (lv_at hl 1 rfl) ?_
  refine lv_bipush (v := 8) X.1 X.2.1 dX10_append_53 (by decide) ?_
  refine lv_iushr X.1 X.2.1 dX10_append_55 rfl ?_
  refine lv_topi (fun v_10 ev_10 => ?_)
  refine lv_i2b X.1 X.2.1 dX10_append_56 rfl ?_
  refine lv_topi (fun v_11 ev_11 => ?_)
  refine r_bast X hw hat_tb (by rw [ln_tb]; exact vp_in_iff.mpr (by decide +kernel)) dX10_append_57 (fun H locs hw => ?_)
  generalize eS_12 : sA S_8 tb (upd (pA S_8 tb) (Int32.toNatClampNeg (18)) (vp_nar .byte v_11)) = S_12 at hw
  have hat_tp : At S_12 tp 10 := by rw [← eS_12]; exact At_sA hat_tp
  have hat_tb : At S_12 tb 13 := by rw [← eS_12]; exact At_sA hat_tb
  have rf_tb : pR S_12 1003 tp = some tb := by rw [← eS_12, pR_sA]; exact rf_tb
  have ci_tsz : pI S_12 1000 tp = 16 := by rw [← eS_12, pI_sA]; exact ci_tsz
  have ln_tb : pN S_12 tb = 400 := by rw [← eS_12, pN_sA]; exact ln_tb
  refine lv_aload_n X.1 X.2.1 dX10_append_58 rfl (lv_at hl 0 rfl) ?_
  refine r_getR (g := 1003) X hw hat_tp 3 rf_tb (by decide) rfl inn_X10_append_10 (by decide) (X.2.2.2.1 (.fieldLink RX10 15 "SilkMill$Tape" "bytes" "[B") (by decide +kernel)) rfl (gv_1003 _ _) dX10_append_59 ?_
  refine lv_aload_n X.1 X.2.1 dX10_append_62 rfl (lv_at hl 0 rfl) ?_
  refine r_get (v := .int 16) X hw hat_tp 0 (by decide) rfl inn_X10_append_10 (by decide) (X.2.2.2.1 (.fieldLink RX10 19 "SilkMill$Tape" "size" "I") (by decide +kernel)) rfl ((gv_1000 _ _).trans (congrArg (fun z => some (Value.int z)) ci_tsz)) dX10_append_63 ?_
  refine lv_iconst (v := 3) X.1 X.2.1 dX10_append_66 (by decide) ?_
  refine lv_iadd X.1 X.2.1 dX10_append_67 ?_
  refine lv_topi (fun v_13 ev_13 => ?_)
  obtain rfl : v_13 = 19 := ev_13.trans (by decide +kernel)
  refine lv_iload_n X.1 X.2.1 dX10_append_68 rfl (lv_at hl 1 rfl) ?_
  refine lv_i2b X.1 X.2.1 dX10_append_69 rfl ?_
  refine lv_topi (fun v_14 ev_14 => ?_)
  refine r_bast X hw hat_tb (by rw [ln_tb]; exact vp_in_iff.mpr (by decide +kernel)) dX10_append_70 (fun H locs hw => ?_)
  generalize eS_15 : sA S_12 tb (upd (pA S_12 tb) (Int32.toNatClampNeg (19)) (vp_nar .byte v_14)) = S_15 at hw
  have hat_tp : At S_15 tp 10 := by rw [← eS_15]; exact At_sA hat_tp
  have hat_tb : At S_15 tb 13 := by rw [← eS_15]; exact At_sA hat_tb
  have rf_tb : pR S_15 1003 tp = some tb := by rw [← eS_15, pR_sA]; exact rf_tb
  have ci_tsz : pI S_15 1000 tp = 16 := by rw [← eS_15, pI_sA]; exact ci_tsz
  have ln_tb : pN S_15 tb = 400 := by rw [← eS_15, pN_sA]; exact ln_tb
  refine lv_aload_n X.1 X.2.1 dX10_append_71 rfl (lv_at hl 0 rfl) ?_
  refine lv_dup X.1 X.2.1 dX10_append_72 rfl ?_
  refine r_get (v := .int 16) X hw hat_tp 0 (by decide) rfl inn_X10_append_10 (by decide) (X.2.2.2.1 (.fieldLink RX10 19 "SilkMill$Tape" "size" "I") (by decide +kernel)) rfl ((gv_1000 _ _).trans (congrArg (fun z => some (Value.int z)) ci_tsz)) dX10_append_73 ?_
  refine lv_iconst (v := 4) X.1 X.2.1 dX10_append_76 (by decide) ?_
  refine lv_iadd X.1 X.2.1 dX10_append_77 ?_
  refine lv_topi (fun v_16 ev_16 => ?_)
  obtain rfl : v_16 = 20 := ev_16.trans (by decide +kernel)
  refine r_putI (v := 20) X hw hat_tp 0 1000 tyX10 (by decide) rfl inn_X10_append_10 tyX10_ok nmX10 (by decide) (X.2.2.2.1 (.fieldLink RX10 19 "SilkMill$Tape" "size" "I") (by decide +kernel)) rfl (Or.inl rfl) rfl rfl (Nat.le_of_ble_eq_true rfl) (st_1000 _ _) dX10_append_78 (fun H locs hw => ?_)
  generalize eS_17 : sI S_15 1000 tp 20 = S_17 at hw
  have hat_tp : At S_17 tp 10 := by rw [← eS_17]; exact At_sI hat_tp
  have hat_tb : At S_17 tb 13 := by rw [← eS_17]; exact At_sI hat_tb
  have rf_tb : pR S_17 1003 tp = some tb := by rw [← eS_17, pR_sI]; exact rf_tb
  have ln_tb : pN S_17 tb = 400 := by rw [← eS_17, pN_sI]; exact ln_tb
  have hc_18 : pI S_17 1000 tp = 20 := by rw [← eS_17]; exact pI_sI_same
  exact ret_v X hw hr hlocks (Nat.le_of_ble_eq_true rfl) (Nat.le_of_ble_eq_true rfl) (by refine ⟨?_, ?_, ?_, ?_, hc_18⟩ <;> (subst eS_17 eS_15 eS_12 eS_8 eS_4; simp only [pL_sI, pL_sA, pK_sI, pK_sA, pR_sI, pR_sA, pN_sI, pN_sA])) dX10_append_81
set_option maxHeartbeats 4000000 in
set_option maxRecDepth 100000 in
theorem c_X11_feed (l : Launch) (G : va_G) (cy : Nat → ClassId) (S : PS) (sz : Nat) (x : Nat) (a1 : Int32) (a2 : Int32) (a3 : Int32) (a4 : Int32) (a5 : Int32) (hF : FX S x) : Ci l yX11_feed wsX11_feed ({ frames := 4, cells := 0, slots := 0, locals := 160 }) G cy S sz [.ref x, .int (a1), .int (a2), .int (a3), .int (a4), .int (a5)] (fun (r : Int32) (S9 : PS) => r = 20) := by
  refine ent_m (cc := cX11_feed) (maxL := 6) (ret := (some .int)) (by decide) rfl (Nat.le_of_ble_eq_true rfl) ?_
  intro p e s m below meth c ls X hr hlocks hin hw hl hsz
  subst hsz
  have X : Cx p c cX11_feed 6 s [.ref x, .int (a1), .int (a2), .int (a3), .int (a4), .int (a5)].toArray wsX11_feed RX11 m G cy (AS S s.heap.size) := X
  have hl : lv_has ls 6 [(0, .ref x), (1, .int (a1)), (2, .int (a2)), (3, .int (a3)), (4, .int (a4)), (5, .int (a5))] := hl
  have hF0 := hF
  obtain ⟨hat_x, ci_lots, ci_pots, ci_shv, ⟨cs, rf_cs, hat_cs, ln_cs⟩, ⟨lz, rf_lz, hat_lz, ln_lz⟩, ⟨ps, rf_ps, hat_ps, ln_ps⟩, ⟨tp, rf_tp, hat_tp, ci_tsz, ci_tfp, ⟨tb, rf_tb, hat_tb, ln_tb⟩⟩, ⟨st, rf_st, hat_st, ci_st, ⟨pr, rf_pr, hat_pr, ln_pr⟩, ⟨mx, rf_mx, hat_mx⟩⟩, ⟨dr, rf_dr, hat_dr, ci_dsz⟩, sh, rf_sh, hat_sh, ln_sh, hpl⟩ := hF
  have hF := hF0
  refine lv_aload_n X.1 X.2.1 dX11_feed_0 rfl (lv_at hl 0 rfl) ?_
  refine r_getR (g := 1105) X hw hat_x 5 rf_tp (by decide) rfl inn_X11_feed_11 (by decide) (X.2.2.2.1 (.fieldLink RX11 28 "SilkMill" "tape" "LSilkMill$Tape;") (by decide +kernel)) rfl (gv_1105 _ _) dX11_feed_1 ?_
  refine r_get (v := .int 0) X hw hat_tp 0 (by decide) rfl inn_X11_feed_10 (by decide) (X.2.2.2.1 (.fieldLink RX11 145 "SilkMill$Tape" "size" "I") (by decide +kernel)) rfl ((gv_1000 _ _).trans (congrArg (fun z => some (Value.int z)) ci_tsz)) dX11_feed_4 ?_
  refine lv_bipush (v := 20) X.1 X.2.1 dX11_feed_7 (by decide) ?_
  refine lv_iadd X.1 X.2.1 dX11_feed_9 ?_
  refine lv_topi (fun v_1 ev_1 => ?_)
  obtain rfl : v_1 = 20 := ev_1.trans (by decide +kernel)
  refine lv_sipush (v := 400) X.1 X.2.1 dX11_feed_10 (by decide) ?_
  refine lv_icmp_le (tgt := 18) X.1 X.2.1 dX11_feed_13 (by decide) (fun c_13 => ?_) (fun c_13 => absurd c_13 (by decide))
  refine lv_aload_n X.1 X.2.1 dX11_feed_18 rfl (lv_at hl 0 rfl) ?_
  refine r_getR (g := 1105) X hw hat_x 5 rf_tp (by decide) rfl inn_X11_feed_11 (by decide) (X.2.2.2.1 (.fieldLink RX11 28 "SilkMill" "tape" "LSilkMill$Tape;") (by decide +kernel)) rfl (gv_1105 _ _) dX11_feed_19 ?_
  refine lv_iload_n X.1 X.2.1 dX11_feed_22 rfl (lv_at hl 1 rfl) ?_
  refine k_v (rm := { frames := 1, cells := 0, slots := 0, locals := 40 }) (av := [.ref tp, .int (a1)]) X hw (va_runV (As := [.int (a1)]) (rest := []) (cfix X) (c_X10_append_0 l G cy S _ tp (a1) tb hat_tp ci_tsz rf_tb hat_tb ln_tb) (cwV 1 X.2.2.2.1 gX11_feed_X10_append rfl rfl rfl (by decide +kernel) ⟨Nat.le_of_ble_eq_true rfl, Nat.le_of_ble_eq_true rfl⟩) (pre_V X hw _ hat_tp (by decide) rfl) rfl rfl hl.1 rfl (lv_room (Nat.le_of_ble_eq_true rfl)) dX11_feed_23 ⟨Nat.le_of_ble_eq_true rfl, Nat.le_of_ble_eq_true rfl⟩) 0 0 (Nat.le_of_ble_eq_true rfl) (Nat.le_of_ble_eq_true rfl) (fun S2 H locs hp hw hfr hnw => ?_)
  obtain ⟨j1, j2, j3, j4, ci_tsz⟩ := hp
  generalize eq_Sp_23_2 : S2 = Sp_23_2 at j1 j2 j3 j4 ci_tsz hw
  have hat_x : At Sp_23_2 x 11 := ⟨by rw [j1]; exact hat_x.1, by rw [j2]; exact hat_x.2⟩
  have hat_tp : At Sp_23_2 tp 10 := ⟨by rw [j1]; exact hat_tp.1, by rw [j2]; exact hat_tp.2⟩
  have hat_tb : At Sp_23_2 tb 13 := ⟨by rw [j1]; exact hat_tb.1, by rw [j2]; exact hat_tb.2⟩
  have rf_tp : pR Sp_23_2 1105 x = some tp := by rw [j3]; exact rf_tp
  have rf_tb : pR Sp_23_2 1003 tp = some tb := by rw [j3]; exact rf_tb
  have ln_tb : pN Sp_23_2 tb = 400 := by rw [j4]; exact ln_tb
  refine lv_aload_n X.1 X.2.1 dX11_feed_26 rfl (lv_at hl 0 rfl) ?_
  refine r_getR (g := 1105) X hw hat_x 5 rf_tp (by decide) rfl inn_X11_feed_11 (by decide) (X.2.2.2.1 (.fieldLink RX11 28 "SilkMill" "tape" "LSilkMill$Tape;") (by decide +kernel)) rfl (gv_1105 _ _) dX11_feed_27 ?_
  refine lv_iload_n X.1 X.2.1 dX11_feed_30 rfl (lv_at hl 2 rfl) ?_
  refine k_v (rm := { frames := 1, cells := 0, slots := 0, locals := 40 }) (av := [.ref tp, .int (a2)]) X hw (va_runV (As := [.int (a2)]) (rest := []) (cfix X) (c_X10_append_4 l G cy Sp_23_2 _ tp (a2) tb hat_tp ci_tsz rf_tb hat_tb ln_tb) (cwV 1 X.2.2.2.1 gX11_feed_X10_append rfl rfl rfl (by decide +kernel) ⟨Nat.le_of_ble_eq_true rfl, Nat.le_of_ble_eq_true rfl⟩) (pre_V X hw _ hat_tp (by decide) rfl) rfl rfl hl.1 rfl (lv_room (Nat.le_of_ble_eq_true rfl)) dX11_feed_31 ⟨Nat.le_of_ble_eq_true rfl, Nat.le_of_ble_eq_true rfl⟩) 0 0 (Nat.le_of_ble_eq_true rfl) (Nat.le_of_ble_eq_true rfl) (fun S2 H locs hp hw hfr hnw => ?_)
  obtain ⟨j1, j2, j3, j4, ci_tsz⟩ := hp
  generalize eq_Sp_31_3 : S2 = Sp_31_3 at j1 j2 j3 j4 ci_tsz hw
  have hat_x : At Sp_31_3 x 11 := ⟨by rw [j1]; exact hat_x.1, by rw [j2]; exact hat_x.2⟩
  have hat_tp : At Sp_31_3 tp 10 := ⟨by rw [j1]; exact hat_tp.1, by rw [j2]; exact hat_tp.2⟩
  have hat_tb : At Sp_31_3 tb 13 := ⟨by rw [j1]; exact hat_tb.1, by rw [j2]; exact hat_tb.2⟩
  have rf_tp : pR Sp_31_3 1105 x = some tp := by rw [j3]; exact rf_tp
  have rf_tb : pR Sp_31_3 1003 tp = some tb := by rw [j3]; exact rf_tb
  have ln_tb : pN Sp_31_3 tb = 400 := by rw [j4]; exact ln_tb
  refine lv_aload_n X.1 X.2.1 dX11_feed_34 rfl (lv_at hl 0 rfl) ?_
  refine r_getR (g := 1105) X hw hat_x 5 rf_tp (by decide) rfl inn_X11_feed_11 (by decide) (X.2.2.2.1 (.fieldLink RX11 28 "SilkMill" "tape" "LSilkMill$Tape;") (by decide +kernel)) rfl (gv_1105 _ _) dX11_feed_35 ?_
  refine lv_iload_n X.1 X.2.1 dX11_feed_38 rfl (lv_at hl 3 rfl) ?_
  refine k_v (rm := { frames := 1, cells := 0, slots := 0, locals := 40 }) (av := [.ref tp, .int (a3)]) X hw (va_runV (As := [.int (a3)]) (rest := []) (cfix X) (c_X10_append_8 l G cy Sp_31_3 _ tp (a3) tb hat_tp ci_tsz rf_tb hat_tb ln_tb) (cwV 1 X.2.2.2.1 gX11_feed_X10_append rfl rfl rfl (by decide +kernel) ⟨Nat.le_of_ble_eq_true rfl, Nat.le_of_ble_eq_true rfl⟩) (pre_V X hw _ hat_tp (by decide) rfl) rfl rfl hl.1 rfl (lv_room (Nat.le_of_ble_eq_true rfl)) dX11_feed_39 ⟨Nat.le_of_ble_eq_true rfl, Nat.le_of_ble_eq_true rfl⟩) 0 0 (Nat.le_of_ble_eq_true rfl) (Nat.le_of_ble_eq_true rfl) (fun S2 H locs hp hw hfr hnw => ?_)
  obtain ⟨j1, j2, j3, j4, ci_tsz⟩ := hp
  generalize eq_Sp_39_4 : S2 = Sp_39_4 at j1 j2 j3 j4 ci_tsz hw
  have hat_x : At Sp_39_4 x 11 := ⟨by rw [j1]; exact hat_x.1, by rw [j2]; exact hat_x.2⟩
  have hat_tp : At Sp_39_4 tp 10 := ⟨by rw [j1]; exact hat_tp.1, by rw [j2]; exact hat_tp.2⟩
  have hat_tb : At Sp_39_4 tb 13 := ⟨by rw [j1]; exact hat_tb.1, by rw [j2]; exact hat_tb.2⟩
  have rf_tp : pR Sp_39_4 1105 x = some tp := by rw [j3]; exact rf_tp
  have rf_tb : pR Sp_39_4 1003 tp = some tb := by rw [j3]; exact rf_tb
  have ln_tb : pN Sp_39_4 tb = 400 := by rw [j4]; exact ln_tb
  refine lv_aload_n X.1 X.2.1 dX11_feed_42 rfl (lv_at hl 0 rfl) ?_
  refine r_getR (g := 1105) X hw hat_x 5 rf_tp (by decide) rfl inn_X11_feed_11 (by decide) (X.2.2.2.1 (.fieldLink RX11 28 "SilkMill" "tape" "LSilkMill$Tape;") (by decide +kernel)) rfl (gv_1105 _ _) dX11_feed_43 ?_
  refine lv_iload X.1 X.2.1 dX11_feed_46 (lv_at hl 4 rfl) ?_
  refine k_v (rm := { frames := 1, cells := 0, slots := 0, locals := 40 }) (av := [.ref tp, .int (a4)]) X hw (va_runV (As := [.int (a4)]) (rest := []) (cfix X) (c_X10_append_12 l G cy Sp_39_4 _ tp (a4) tb hat_tp ci_tsz rf_tb hat_tb ln_tb) (cwV 1 X.2.2.2.1 gX11_feed_X10_append rfl rfl rfl (by decide +kernel) ⟨Nat.le_of_ble_eq_true rfl, Nat.le_of_ble_eq_true rfl⟩) (pre_V X hw _ hat_tp (by decide) rfl) rfl rfl hl.1 rfl (lv_room (Nat.le_of_ble_eq_true rfl)) dX11_feed_48 ⟨Nat.le_of_ble_eq_true rfl, Nat.le_of_ble_eq_true rfl⟩) 0 0 (Nat.le_of_ble_eq_true rfl) (Nat.le_of_ble_eq_true rfl) (fun S2 H locs hp hw hfr hnw => ?_)
  obtain ⟨j1, j2, j3, j4, ci_tsz⟩ := hp
  generalize eq_Sp_48_5 : S2 = Sp_48_5 at j1 j2 j3 j4 ci_tsz hw
  have hat_x : At Sp_48_5 x 11 := ⟨by rw [j1]; exact hat_x.1, by rw [j2]; exact hat_x.2⟩
  have hat_tp : At Sp_48_5 tp 10 := ⟨by rw [j1]; exact hat_tp.1, by rw [j2]; exact hat_tp.2⟩
  have hat_tb : At Sp_48_5 tb 13 := ⟨by rw [j1]; exact hat_tb.1, by rw [j2]; exact hat_tb.2⟩
  have rf_tp : pR Sp_48_5 1105 x = some tp := by rw [j3]; exact rf_tp
  have rf_tb : pR Sp_48_5 1003 tp = some tb := by rw [j3]; exact rf_tb
  have ln_tb : pN Sp_48_5 tb = 400 := by rw [j4]; exact ln_tb
  refine lv_aload_n X.1 X.2.1 dX11_feed_51 rfl (lv_at hl 0 rfl) ?_
  refine r_getR (g := 1105) X hw hat_x 5 rf_tp (by decide) rfl inn_X11_feed_11 (by decide) (X.2.2.2.1 (.fieldLink RX11 28 "SilkMill" "tape" "LSilkMill$Tape;") (by decide +kernel)) rfl (gv_1105 _ _) dX11_feed_52 ?_
  refine lv_iload X.1 X.2.1 dX11_feed_55 (lv_at hl 5 rfl) ?_
  refine k_v (rm := { frames := 1, cells := 0, slots := 0, locals := 40 }) (av := [.ref tp, .int (a5)]) X hw (va_runV (As := [.int (a5)]) (rest := []) (cfix X) (c_X10_append_16 l G cy Sp_48_5 _ tp (a5) tb hat_tp ci_tsz rf_tb hat_tb ln_tb) (cwV 1 X.2.2.2.1 gX11_feed_X10_append rfl rfl rfl (by decide +kernel) ⟨Nat.le_of_ble_eq_true rfl, Nat.le_of_ble_eq_true rfl⟩) (pre_V X hw _ hat_tp (by decide) rfl) rfl rfl hl.1 rfl (lv_room (Nat.le_of_ble_eq_true rfl)) dX11_feed_57 ⟨Nat.le_of_ble_eq_true rfl, Nat.le_of_ble_eq_true rfl⟩) 0 0 (Nat.le_of_ble_eq_true rfl) (Nat.le_of_ble_eq_true rfl) (fun S2 H locs hp hw hfr hnw => ?_)
  obtain ⟨j1, j2, j3, j4, ci_tsz⟩ := hp
  generalize eq_Sp_57_6 : S2 = Sp_57_6 at j1 j2 j3 j4 ci_tsz hw
  have hat_x : At Sp_57_6 x 11 := ⟨by rw [j1]; exact hat_x.1, by rw [j2]; exact hat_x.2⟩
  have hat_tp : At Sp_57_6 tp 10 := ⟨by rw [j1]; exact hat_tp.1, by rw [j2]; exact hat_tp.2⟩
  have hat_tb : At Sp_57_6 tb 13 := ⟨by rw [j1]; exact hat_tb.1, by rw [j2]; exact hat_tb.2⟩
  have rf_tp : pR Sp_57_6 1105 x = some tp := by rw [j3]; exact rf_tp
  have rf_tb : pR Sp_57_6 1003 tp = some tb := by rw [j3]; exact rf_tb
  have ln_tb : pN Sp_57_6 tb = 400 := by rw [j4]; exact ln_tb
  refine lv_aload_n X.1 X.2.1 dX11_feed_60 rfl (lv_at hl 0 rfl) ?_
  refine r_getR (g := 1105) X hw hat_x 5 rf_tp (by decide) rfl inn_X11_feed_11 (by decide) (X.2.2.2.1 (.fieldLink RX11 28 "SilkMill" "tape" "LSilkMill$Tape;") (by decide +kernel)) rfl (gv_1105 _ _) dX11_feed_61 ?_
  refine r_get (v := .int 20) X hw hat_tp 0 (by decide) rfl inn_X11_feed_10 (by decide) (X.2.2.2.1 (.fieldLink RX11 145 "SilkMill$Tape" "size" "I") (by decide +kernel)) rfl ((gv_1000 _ _).trans (congrArg (fun z => some (Value.int z)) ci_tsz)) dX11_feed_64 ?_
  exact ret_i X hw hr hlocks (Nat.le_of_ble_eq_true rfl) (Nat.le_of_ble_eq_true rfl) rfl dX11_feed_67
