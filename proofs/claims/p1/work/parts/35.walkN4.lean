set_option maxHeartbeats 4000000 in
set_option maxRecDepth 100000 in
theorem c_X11_end (l : Launch) (G : va_G) (cy : Nat → ClassId) (S : PS) (sz : Nat) (x : Nat) (a1 : Int32) (hF : FX S x) : Ci l yX11_end wsX11_end ({ frames := 4, cells := 0, slots := 0, locals := 160 }) G cy S sz [.ref x, .int (a1)] (fun (r : Int32) (S9 : PS) => r = endV a1) := by
  refine ent_m (cc := cX11_end) (maxL := 2) (ret := (some .int)) (by decide) rfl (Nat.le_of_ble_eq_true rfl) ?_
  intro p e s m below meth c ls X hr hlocks hin hw hl hsz
  subst hsz
  have X : Cx p c cX11_end 2 s [.ref x, .int (a1)].toArray wsX11_end RX11 m G cy (AS S s.heap.size) := X
  have hl : lv_has ls 2 [(0, .ref x), (1, .int (a1))] := hl
  have hF0 := hF
  obtain ⟨hat_x, ci_lots, ci_pots, ci_shv, ⟨cs, rf_cs, hat_cs, ln_cs⟩, ⟨lz, rf_lz, hat_lz, ln_lz⟩, ⟨ps, rf_ps, hat_ps, ln_ps⟩, ⟨tp, rf_tp, hat_tp, ci_tsz, ci_tfp, ⟨tb, rf_tb, hat_tb, ln_tb⟩⟩, ⟨st, rf_st, hat_st, ci_st, ⟨pr, rf_pr, hat_pr, ln_pr⟩, ⟨mx, rf_mx, hat_mx⟩⟩, ⟨dr, rf_dr, hat_dr, ci_dsz⟩, sh, rf_sh, hat_sh, ln_sh, hpl⟩ := hF
  have hF := hF0
  refine lv_iload_n X.1 X.2.1 dX11_end_0 rfl (lv_at hl 1 rfl) ?_
  refine lv_if_lt (tgt := 15) X.1 X.2.1 dX11_end_1 (by decide) (fun c_1 => ?_) (fun c_1 => ?_)
  · have z_1 := trivial
    refine lv_iconst (v := (-1)) X.1 X.2.1 dX11_end_15 (by decide) ?_
    exact ret_i X hw hr hlocks (Nat.le_of_ble_eq_true rfl) (Nat.le_of_ble_eq_true rfl) (by unfold endV; rw [if_neg (fun h => by first | exact absurd h.1 (Int32.not_le.mpr ‹_›) | exact absurd h.2 ‹_›)]) dX11_end_16
  · have z_1 := trivial
    refine lv_iload_n X.1 X.2.1 dX11_end_4 rfl (lv_at hl 1 rfl) ?_
    refine lv_aload_n X.1 X.2.1 dX11_end_5 rfl (lv_at hl 0 rfl) ?_
    refine r_getR (g := 1105) X hw hat_x 5 rf_tp (by decide) rfl inn_X11_end_11 (by decide) (X.2.2.2.1 (.fieldLink RX11 28 "SilkMill" "tape" "LSilkMill$Tape;") (by decide +kernel)) rfl (gv_1105 _ _) dX11_end_6 ?_
    refine r_get (v := .int 0) X hw hat_tp 0 (by decide) rfl inn_X11_end_10 (by decide) (X.2.2.2.1 (.fieldLink RX11 145 "SilkMill$Tape" "size" "I") (by decide +kernel)) rfl ((gv_1000 _ _).trans (congrArg (fun z => some (Value.int z)) ci_tsz)) dX11_end_9 ?_
    refine lv_icmp_le (tgt := 17) X.1 X.2.1 dX11_end_12 (by decide) (fun c_12 => ?_) (fun c_12 => ?_)
    · have z_12 := trivial
      refine lv_aload_n X.1 X.2.1 dX11_end_17 rfl (lv_at hl 0 rfl) ?_
      refine r_getR (g := 1105) X hw hat_x 5 rf_tp (by decide) rfl inn_X11_end_11 (by decide) (X.2.2.2.1 (.fieldLink RX11 28 "SilkMill" "tape" "LSilkMill$Tape;") (by decide +kernel)) rfl (gv_1105 _ _) dX11_end_18 ?_
      refine lv_iload_n X.1 X.2.1 dX11_end_21 rfl (lv_at hl 1 rfl) ?_
      refine r_putI (v := a1) X hw hat_tp 0 1000 tyX10 (by decide) rfl inn_X11_end_10 tyX10_ok nmX10 (by decide) (X.2.2.2.1 (.fieldLink RX11 145 "SilkMill$Tape" "size" "I") (by decide +kernel)) rfl (Or.inl rfl) rfl rfl (Nat.le_of_ble_eq_true rfl) (st_1000 _ _) dX11_end_22 (fun H locs hw => ?_)
      generalize eS_1 : sI S 1000 tp a1 = S_1 at hw
      have hat_x : At S_1 x 11 := by rw [← eS_1]; exact At_sI hat_x
      have hat_tp : At S_1 tp 10 := by rw [← eS_1]; exact At_sI hat_tp
      have rf_tp : pR S_1 1105 x = some tp := by rw [← eS_1, pR_sI]; exact rf_tp
      have ci_lots : pI S_1 1102 x = 0 := by rw [← eS_1]; exact (pI_sI_nf (by decide)).trans ci_lots
      have ci_pots : pI S_1 1104 x = 0 := by rw [← eS_1]; exact (pI_sI_nf (by decide)).trans ci_pots
      have ci_shv : pI S_1 1110 x = 0 := by rw [← eS_1]; exact (pI_sI_nf (by decide)).trans ci_shv
      have ci_tfp : pI S_1 1002 tp = (-1) := by rw [← eS_1]; exact (pI_sI_nf (by decide)).trans ci_tfp
      have hc_2 : pI S_1 1000 tp = a1 := by rw [← eS_1]; exact pI_sI_same
      refine lv_iload_n X.1 X.2.1 dX11_end_25 rfl (lv_at hl 1 rfl) ?_
      exact ret_i X hw hr hlocks (Nat.le_of_ble_eq_true rfl) (Nat.le_of_ble_eq_true rfl) (if_pos ⟨Int32.not_lt.mp c_1, c_12⟩).symm dX11_end_26
    · have z_12 := trivial
      refine lv_iconst (v := (-1)) X.1 X.2.1 dX11_end_15 (by decide) ?_
      exact ret_i X hw hr hlocks (Nat.le_of_ble_eq_true rfl) (Nat.le_of_ble_eq_true rfl) (by unfold endV; rw [if_neg (fun h => by first | exact absurd h.1 (Int32.not_le.mpr ‹_›) | exact absurd h.2 ‹_›)]) dX11_end_16
set_option maxHeartbeats 4000000 in
set_option maxRecDepth 100000 in
theorem c_X10_append_0 (l : Launch) (G : va_G) (cy : Nat → ClassId) (S : PS) (sz : Nat) (tp : Nat) (v : Int32) (tb : Nat) (hat_tp : At S tp 10) (ci_tsz : pI S 1000 tp = 0) (rf_tb : pR S 1003 tp = some tb) (hat_tb : At S tb 13) (ln_tb : pN S tb = 400) : Cv l yX10_append wsX10_append ({ frames := 1, cells := 0, slots := 0, locals := 40 }) G cy S sz [.ref tp, .int (v)] (fun (S9 : PS) => pL S9 = pL S ∧ pK S9 = pK S ∧ pR S9 = pR S ∧ pN S9 = pN S ∧ pI S9 1000 tp = 4) := by
  refine ent_m (cc := cX10_append) (maxL := 2) (ret := none) (by decide) rfl (Nat.le_of_ble_eq_true rfl) ?_
  intro p e s m below meth c ls X hr hlocks hin hw hl hsz
  subst hsz
  have X : Cx p c cX10_append 2 s [.ref tp, .int (v)].toArray wsX10_append RX10 m G cy (AS S s.heap.size) := X
  have hl : lv_has ls 2 [(0, .ref tp), (1, .int (v))] := hl
  refine lv_aload_n X.1 X.2.1 dX10_append_0 rfl (lv_at hl 0 rfl) ?_
  refine r_get (v := .int 0) X hw hat_tp 0 (by decide) rfl inn_X10_append_10 (by decide) (X.2.2.2.1 (.fieldLink RX10 19 "SilkMill$Tape" "size" "I") (by decide +kernel)) rfl ((gv_1000 _ _).trans (congrArg (fun z => some (Value.int z)) ci_tsz)) dX10_append_1 ?_
  refine lv_iconst (v := 4) X.1 X.2.1 dX10_append_4 (by decide) ?_
  refine lv_iadd X.1 X.2.1 dX10_append_5 ?_
  refine lv_topi (fun v_1 ev_1 => ?_)
  obtain rfl : v_1 = 4 := ev_1.trans (by decide +kernel)
  refine lv_sipush (v := 400) X.1 X.2.1 dX10_append_6 (by decide) ?_
  refine lv_icmp_gt (tgt := 81) X.1 X.2.1 dX10_append_9 (by decide) (fun c_9 => absurd c_9 (by decide)) (fun c_9 => ?_)
  refine lv_aload_n X.1 X.2.1 dX10_append_12 rfl (lv_at hl 0 rfl) ?_
  refine r_getR (g := 1003) X hw hat_tp 3 rf_tb (by decide) rfl inn_X10_append_10 (by decide) (X.2.2.2.1 (.fieldLink RX10 15 "SilkMill$Tape" "bytes" "[B") (by decide +kernel)) rfl (gv_1003 _ _) dX10_append_13 ?_
  refine lv_aload_n X.1 X.2.1 dX10_append_16 rfl (lv_at hl 0 rfl) ?_
  refine r_get (v := .int 0) X hw hat_tp 0 (by decide) rfl inn_X10_append_10 (by decide) (X.2.2.2.1 (.fieldLink RX10 19 "SilkMill$Tape" "size" "I") (by decide +kernel)) rfl ((gv_1000 _ _).trans (congrArg (fun z => some (Value.int z)) ci_tsz)) dX10_append_17 ?_
  refine lv_iload_n X.1 X.2.1 dX10_append_20 rfl (lv_at hl 1 rfl) ?_
  refine lv_bipush (v := 24) X.1 X.2.1 dX10_append_21 (by decide) ?_
  refine lv_iushr X.1 X.2.1 dX10_append_23 rfl ?_
  refine lv_topi (fun v_2 ev_2 => ?_)
  refine lv_i2b X.1 X.2.1 dX10_append_24 rfl ?_
  refine lv_topi (fun v_3 ev_3 => ?_)
  refine r_bast X hw hat_tb (by rw [ln_tb]; exact vp_in_iff.mpr (by decide +kernel)) dX10_append_25 (fun H locs hw => ?_)
  generalize eS_4 : sA S tb (upd (pA S tb) (Int32.toNatClampNeg (0)) (vp_nar .byte v_3)) = S_4 at hw
  have hat_tp : At S_4 tp 10 := by rw [← eS_4]; exact At_sA hat_tp
  have hat_tb : At S_4 tb 13 := by rw [← eS_4]; exact At_sA hat_tb
  have rf_tb : pR S_4 1003 tp = some tb := by rw [← eS_4, pR_sA]; exact rf_tb
  have ci_tsz : pI S_4 1000 tp = 0 := by rw [← eS_4, pI_sA]; exact ci_tsz
  have ln_tb : pN S_4 tb = 400 := by rw [← eS_4, pN_sA]; exact ln_tb
  refine lv_aload_n X.1 X.2.1 dX10_append_26 rfl (lv_at hl 0 rfl) ?_
  refine r_getR (g := 1003) X hw hat_tp 3 rf_tb (by decide) rfl inn_X10_append_10 (by decide) (X.2.2.2.1 (.fieldLink RX10 15 "SilkMill$Tape" "bytes" "[B") (by decide +kernel)) rfl (gv_1003 _ _) dX10_append_27 ?_
  refine lv_aload_n X.1 X.2.1 dX10_append_30 rfl (lv_at hl 0 rfl) ?_
  refine r_get (v := .int 0) X hw hat_tp 0 (by decide) rfl inn_X10_append_10 (by decide) (X.2.2.2.1 (.fieldLink RX10 19 "SilkMill$Tape" "size" "I") (by decide +kernel)) rfl ((gv_1000 _ _).trans (congrArg (fun z => some (Value.int z)) ci_tsz)) dX10_append_31 ?_
  refine lv_iconst (v := 1) X.1 X.2.1 dX10_append_34 (by decide) ?_
  refine lv_iadd X.1 X.2.1 dX10_append_35 ?_
  refine lv_topi (fun v_5 ev_5 => ?_)
  obtain rfl : v_5 = 1 := ev_5.trans (by decide +kernel)
  refine lv_iload_n X.1 X.2.1 dX10_append_36 rfl (lv_at hl 1 rfl) ?_
  refine lv_bipush (v := 16) X.1 X.2.1 dX10_append_37 (by decide) ?_
  refine lv_iushr X.1 X.2.1 dX10_append_39 rfl ?_
  refine lv_topi (fun v_6 ev_6 => ?_)
  refine lv_i2b X.1 X.2.1 dX10_append_40 rfl ?_
  refine lv_topi (fun v_7 ev_7 => ?_)
  refine r_bast X hw hat_tb (by rw [ln_tb]; exact vp_in_iff.mpr (by decide +kernel)) dX10_append_41 (fun H locs hw => ?_)
  generalize eS_8 : sA S_4 tb (upd (pA S_4 tb) (Int32.toNatClampNeg (1)) (vp_nar .byte v_7)) = S_8 at hw
  have hat_tp : At S_8 tp 10 := by rw [← eS_8]; exact At_sA hat_tp
  have hat_tb : At S_8 tb 13 := by rw [← eS_8]; exact At_sA hat_tb
  have rf_tb : pR S_8 1003 tp = some tb := by rw [← eS_8, pR_sA]; exact rf_tb
  have ci_tsz : pI S_8 1000 tp = 0 := by rw [← eS_8, pI_sA]; exact ci_tsz
  have ln_tb : pN S_8 tb = 400 := by rw [← eS_8, pN_sA]; exact ln_tb
  refine lv_aload_n X.1 X.2.1 dX10_append_42 rfl (lv_at hl 0 rfl) ?_
  refine r_getR (g := 1003) X hw hat_tp 3 rf_tb (by decide) rfl inn_X10_append_10 (by decide) (X.2.2.2.1 (.fieldLink RX10 15 "SilkMill$Tape" "bytes" "[B") (by decide +kernel)) rfl (gv_1003 _ _) dX10_append_43 ?_
  refine lv_aload_n X.1 X.2.1 dX10_append_46 rfl (lv_at hl 0 rfl) ?_
  refine r_get (v := .int 0) X hw hat_tp 0 (by decide) rfl inn_X10_append_10 (by decide) (X.2.2.2.1 (.fieldLink RX10 19 "SilkMill$Tape" "size" "I") (by decide +kernel)) rfl ((gv_1000 _ _).trans (congrArg (fun z => some (Value.int z)) ci_tsz)) dX10_append_47 ?_
  refine lv_iconst (v := 2) X.1 X.2.1 dX10_append_50 (by decide) ?_
  refine lv_iadd X.1 X.2.1 dX10_append_51 ?_
  refine lv_topi (fun v_9 ev_9 => ?_)
  obtain rfl : v_9 = 2 := ev_9.trans (by decide +kernel)
  refine lv_iload_n X.1 X.2.1 dX10_append_52 rfl (lv_at hl 1 rfl) ?_
  refine lv_bipush (v := 8) X.1 X.2.1 dX10_append_53 (by decide) ?_
  refine lv_iushr X.1 X.2.1 dX10_append_55 rfl ?_
  refine lv_topi (fun v_10 ev_10 => ?_)
  refine lv_i2b X.1 X.2.1 dX10_append_56 rfl ?_
  refine lv_topi (fun v_11 ev_11 => ?_)
  refine r_bast X hw hat_tb (by rw [ln_tb]; exact vp_in_iff.mpr (by decide +kernel)) dX10_append_57 (fun H locs hw => ?_)
  generalize eS_12 : sA S_8 tb (upd (pA S_8 tb) (Int32.toNatClampNeg (2)) (vp_nar .byte v_11)) = S_12 at hw
  have hat_tp : At S_12 tp 10 := by rw [← eS_12]; exact At_sA hat_tp
  have hat_tb : At S_12 tb 13 := by rw [← eS_12]; exact At_sA hat_tb
  have rf_tb : pR S_12 1003 tp = some tb := by rw [← eS_12, pR_sA]; exact rf_tb
  have ci_tsz : pI S_12 1000 tp = 0 := by rw [← eS_12, pI_sA]; exact ci_tsz
  have ln_tb : pN S_12 tb = 400 := by rw [← eS_12, pN_sA]; exact ln_tb
  refine lv_aload_n X.1 X.2.1 dX10_append_58 rfl (lv_at hl 0 rfl) ?_
  refine r_getR (g := 1003) X hw hat_tp 3 rf_tb (by decide) rfl inn_X10_append_10 (by decide) (X.2.2.2.1 (.fieldLink RX10 15 "SilkMill$Tape" "bytes" "[B") (by decide +kernel)) rfl (gv_1003 _ _) dX10_append_59 ?_
  refine lv_aload_n X.1 X.2.1 dX10_append_62 rfl (lv_at hl 0 rfl) ?_
  refine r_get (v := .int 0) X hw hat_tp 0 (by decide) rfl inn_X10_append_10 (by decide) (X.2.2.2.1 (.fieldLink RX10 19 "SilkMill$Tape" "size" "I") (by decide +kernel)) rfl ((gv_1000 _ _).trans (congrArg (fun z => some (Value.int z)) ci_tsz)) dX10_append_63 ?_
  refine lv_iconst (v := 3) X.1 X.2.1 dX10_append_66 (by decide) ?_
  refine lv_iadd X.1 X.2.1 dX10_append_67 ?_
  refine lv_topi (fun v_13 ev_13 => ?_)
  obtain rfl : v_13 = 3 := ev_13.trans (by decide +kernel)
  refine lv_iload_n X.1 X.2.1 dX10_append_68 rfl (lv_at hl 1 rfl) ?_
  refine lv_i2b X.1 X.2.1 dX10_append_69 rfl ?_
  refine lv_topi (fun v_14 ev_14 => ?_)
  refine r_bast X hw hat_tb (by rw [ln_tb]; exact vp_in_iff.mpr (by decide +kernel)) dX10_append_70 (fun H locs hw => ?_)
  generalize eS_15 : sA S_12 tb (upd (pA S_12 tb) (Int32.toNatClampNeg (3)) (vp_nar .byte v_14)) = S_15 at hw
  have hat_tp : At S_15 tp 10 := by rw [← eS_15]; exact At_sA hat_tp
  have hat_tb : At S_15 tb 13 := by rw [← eS_15]; exact At_sA hat_tb
  have rf_tb : pR S_15 1003 tp = some tb := by rw [← eS_15, pR_sA]; exact rf_tb
  have ci_tsz : pI S_15 1000 tp = 0 := by rw [← eS_15, pI_sA]; exact ci_tsz
  have ln_tb : pN S_15 tb = 400 := by rw [← eS_15, pN_sA]; exact ln_tb
  refine lv_aload_n X.1 X.2.1 dX10_append_71 rfl (lv_at hl 0 rfl) ?_
  refine lv_dup X.1 X.2.1 dX10_append_72 rfl ?_
  refine r_get (v := .int 0) X hw hat_tp 0 (by decide) rfl inn_X10_append_10 (by decide) (X.2.2.2.1 (.fieldLink RX10 19 "SilkMill$Tape" "size" "I") (by decide +kernel)) rfl ((gv_1000 _ _).trans (congrArg (fun z => some (Value.int z)) ci_tsz)) dX10_append_73 ?_
  refine lv_iconst (v := 4) X.1 X.2.1 dX10_append_76 (by decide) ?_
  refine lv_iadd X.1 X.2.1 dX10_append_77 ?_
  refine lv_topi (fun v_16 ev_16 => ?_)
  obtain rfl : v_16 = 4 := ev_16.trans (by decide +kernel)
  refine r_putI (v := 4) X hw hat_tp 0 1000 tyX10 (by decide) rfl inn_X10_append_10 tyX10_ok nmX10 (by decide) (X.2.2.2.1 (.fieldLink RX10 19 "SilkMill$Tape" "size" "I") (by decide +kernel)) rfl (Or.inl rfl) rfl rfl (Nat.le_of_ble_eq_true rfl) (st_1000 _ _) dX10_append_78 (fun H locs hw => ?_)
  generalize eS_17 : sI S_15 1000 tp 4 = S_17 at hw
  have hat_tp : At S_17 tp 10 := by rw [← eS_17]; exact At_sI hat_tp
  have hat_tb : At S_17 tb 13 := by rw [← eS_17]; exact At_sI hat_tb
  have rf_tb : pR S_17 1003 tp = some tb := by rw [← eS_17, pR_sI]; exact rf_tb
  have ln_tb : pN S_17 tb = 400 := by rw [← eS_17, pN_sI]; exact ln_tb
  have hc_18 : pI S_17 1000 tp = 4 := by rw [← eS_17]; exact pI_sI_same
  exact ret_v X hw hr hlocks (Nat.le_of_ble_eq_true rfl) (Nat.le_of_ble_eq_true rfl) (by refine ⟨?_, ?_, ?_, ?_, hc_18⟩ <;> (subst eS_17 eS_15 eS_12 eS_8 eS_4; rfl)) dX10_append_81
set_option maxHeartbeats 4000000 in
set_option maxRecDepth 100000 in
theorem c_X10_append_4 (l : Launch) (G : va_G) (cy : Nat → ClassId) (S : PS) (sz : Nat) (tp : Nat) (v : Int32) (tb : Nat) (hat_tp : At S tp 10) (ci_tsz : pI S 1000 tp = 4) (rf_tb : pR S 1003 tp = some tb) (hat_tb : At S tb 13) (ln_tb : pN S tb = 400) : Cv l yX10_append wsX10_append ({ frames := 1, cells := 0, slots := 0, locals := 40 }) G cy S sz [.ref tp, .int (v)] (fun (S9 : PS) => pL S9 = pL S ∧ pK S9 = pK S ∧ pR S9 = pR S ∧ pN S9 = pN S ∧ pI S9 1000 tp = 8) := by
  refine ent_m (cc := cX10_append) (maxL := 2) (ret := none) (by decide) rfl (Nat.le_of_ble_eq_true rfl) ?_
  intro p e s m below meth c ls X hr hlocks hin hw hl hsz
  subst hsz
  have X : Cx p c cX10_append 2 s [.ref tp, .int (v)].toArray wsX10_append RX10 m G cy (AS S s.heap.size) := X
  have hl : lv_has ls 2 [(0, .ref tp), (1, .int (v))] := hl
  refine lv_aload_n X.1 X.2.1 dX10_append_0 rfl (lv_at hl 0 rfl) ?_
  refine r_get (v := .int 4) X hw hat_tp 0 (by decide) rfl inn_X10_append_10 (by decide) (X.2.2.2.1 (.fieldLink RX10 19 "SilkMill$Tape" "size" "I") (by decide +kernel)) rfl ((gv_1000 _ _).trans (congrArg (fun z => some (Value.int z)) ci_tsz)) dX10_append_1 ?_
  refine lv_iconst (v := 4) X.1 X.2.1 dX10_append_4 (by decide) ?_
  refine lv_iadd X.1 X.2.1 dX10_append_5 ?_
  refine lv_topi (fun v_1 ev_1 => ?_)
  obtain rfl : v_1 = 8 := ev_1.trans (by decide +kernel)
  refine lv_sipush (v := 400) X.1 X.2.1 dX10_append_6 (by decide) ?_
  refine lv_icmp_gt (tgt := 81) X.1 X.2.1 dX10_append_9 (by decide) (fun c_9 => absurd c_9 (by decide)) (fun c_9 => ?_)
  refine lv_aload_n X.1 X.2.1 dX10_append_12 rfl (lv_at hl 0 rfl) ?_
  refine r_getR (g := 1003) X hw hat_tp 3 rf_tb (by decide) rfl inn_X10_append_10 (by decide) (X.2.2.2.1 (.fieldLink RX10 15 "SilkMill$Tape" "bytes" "[B") (by decide +kernel)) rfl (gv_1003 _ _) dX10_append_13 ?_
  refine lv_aload_n X.1 X.2.1 dX10_append_16 rfl (lv_at hl 0 rfl) ?_
  refine r_get (v := .int 4) X hw hat_tp 0 (by decide) rfl inn_X10_append_10 (by decide) (X.2.2.2.1 (.fieldLink RX10 19 "SilkMill$Tape" "size" "I") (by decide +kernel)) rfl ((gv_1000 _ _).trans (congrArg (fun z => some (Value.int z)) ci_tsz)) dX10_append_17 ?_
  refine lv_iload_n X.1 X.2.1 dX10_append_20 rfl (lv_at hl 1 rfl) ?_
  refine lv_bipush (v := 24) X.1 X.2.1 dX10_append_21 (by decide) ?_
  refine lv_iushr X.1 X.2.1 dX10_append_23 rfl ?_
  refine lv_topi (fun v_2 ev_2 => ?_)
  refine lv_i2b X.1 X.2.1 dX10_append_24 rfl ?_
  refine lv_topi (fun v_3 ev_3 => ?_)
  refine r_bast X hw hat_tb (by rw [ln_tb]; exact vp_in_iff.mpr (by decide +kernel)) dX10_append_25 (fun H locs hw => ?_)
  generalize eS_4 : sA S tb (upd (pA S tb) (Int32.toNatClampNeg (4)) (vp_nar .byte v_3)) = S_4 at hw
  have hat_tp : At S_4 tp 10 := by rw [← eS_4]; exact At_sA hat_tp
  have hat_tb : At S_4 tb 13 := by rw [← eS_4]; exact At_sA hat_tb
  have rf_tb : pR S_4 1003 tp = some tb := by rw [← eS_4, pR_sA]; exact rf_tb
  have ci_tsz : pI S_4 1000 tp = 4 := by rw [← eS_4, pI_sA]; exact ci_tsz
  have ln_tb : pN S_4 tb = 400 := by rw [← eS_4, pN_sA]; exact ln_tb
  refine lv_aload_n X.1 X.2.1 dX10_append_26 rfl (lv_at hl 0 rfl) ?_
  refine r_getR (g := 1003) X hw hat_tp 3 rf_tb (by decide) rfl inn_X10_append_10 (by decide) (X.2.2.2.1 (.fieldLink RX10 15 "SilkMill$Tape" "bytes" "[B") (by decide +kernel)) rfl (gv_1003 _ _) dX10_append_27 ?_
  refine lv_aload_n X.1 X.2.1 dX10_append_30 rfl (lv_at hl 0 rfl) ?_
  refine r_get (v := .int 4) X hw hat_tp 0 (by decide) rfl inn_X10_append_10 (by decide) (X.2.2.2.1 (.fieldLink RX10 19 "SilkMill$Tape" "size" "I") (by decide +kernel)) rfl ((gv_1000 _ _).trans (congrArg (fun z => some (Value.int z)) ci_tsz)) dX10_append_31 ?_
  refine lv_iconst (v := 1) X.1 X.2.1 dX10_append_34 (by decide) ?_
  refine lv_iadd X.1 X.2.1 dX10_append_35 ?_
  refine lv_topi (fun v_5 ev_5 => ?_)
  obtain rfl : v_5 = 5 := ev_5.trans (by decide +kernel)
  refine lv_iload_n X.1 X.2.1 dX10_append_36 rfl (lv_at hl 1 rfl) ?_
  refine lv_bipush (v := 16) X.1 X.2.1 dX10_append_37 (by decide) ?_
  refine lv_iushr X.1 X.2.1 dX10_append_39 rfl ?_
  refine lv_topi (fun v_6 ev_6 => ?_)
  refine lv_i2b X.1 X.2.1 dX10_append_40 rfl ?_
  refine lv_topi (fun v_7 ev_7 => ?_)
  refine r_bast X hw hat_tb (by rw [ln_tb]; exact vp_in_iff.mpr (by decide +kernel)) dX10_append_41 (fun H locs hw => ?_)
  generalize eS_8 : sA S_4 tb (upd (pA S_4 tb) (Int32.toNatClampNeg (5)) (vp_nar .byte v_7)) = S_8 at hw
  have hat_tp : At S_8 tp 10 := by rw [← eS_8]; exact At_sA hat_tp
  have hat_tb : At S_8 tb 13 := by rw [← eS_8]; exact At_sA hat_tb
  have rf_tb : pR S_8 1003 tp = some tb := by rw [← eS_8, pR_sA]; exact rf_tb
  have ci_tsz : pI S_8 1000 tp = 4 := by rw [← eS_8, pI_sA]; exact ci_tsz
  have ln_tb : pN S_8 tb = 400 := by rw [← eS_8, pN_sA]; exact ln_tb
  refine lv_aload_n X.1 X.2.1 dX10_append_42 rfl (lv_at hl 0 rfl) ?_
  refine r_getR (g := 1003) X hw hat_tp 3 rf_tb (by decide) rfl inn_X10_append_10 (by decide) (X.2.2.2.1 (.fieldLink RX10 15 "SilkMill$Tape" "bytes" "[B") (by decide +kernel)) rfl (gv_1003 _ _) dX10_append_43 ?_
  refine lv_aload_n X.1 X.2.1 dX10_append_46 rfl (lv_at hl 0 rfl) ?_
  refine r_get (v := .int 4) X hw hat_tp 0 (by decide) rfl inn_X10_append_10 (by decide) (X.2.2.2.1 (.fieldLink RX10 19 "SilkMill$Tape" "size" "I") (by decide +kernel)) rfl ((gv_1000 _ _).trans (congrArg (fun z => some (Value.int z)) ci_tsz)) dX10_append_47 ?_
  refine lv_iconst (v := 2) X.1 X.2.1 dX10_append_50 (by decide) ?_
  refine lv_iadd X.1 X.2.1 dX10_append_51 ?_
  refine lv_topi (fun v_9 ev_9 => ?_)
  obtain rfl : v_9 = 6 := ev_9.trans (by decide +kernel)
  refine lv_iload_n X.1 X.2.1 dX10_append_52 rfl (lv_at hl 1 rfl) ?_
  refine lv_bipush (v := 8) X.1 X.2.1 dX10_append_53 (by decide) ?_
  refine lv_iushr X.1 X.2.1 dX10_append_55 rfl ?_
  refine lv_topi (fun v_10 ev_10 => ?_)
  refine lv_i2b X.1 X.2.1 dX10_append_56 rfl ?_
  refine lv_topi (fun v_11 ev_11 => ?_)
  refine r_bast X hw hat_tb (by rw [ln_tb]; exact vp_in_iff.mpr (by decide +kernel)) dX10_append_57 (fun H locs hw => ?_)
  generalize eS_12 : sA S_8 tb (upd (pA S_8 tb) (Int32.toNatClampNeg (6)) (vp_nar .byte v_11)) = S_12 at hw
  have hat_tp : At S_12 tp 10 := by rw [← eS_12]; exact At_sA hat_tp
  have hat_tb : At S_12 tb 13 := by rw [← eS_12]; exact At_sA hat_tb
  have rf_tb : pR S_12 1003 tp = some tb := by rw [← eS_12, pR_sA]; exact rf_tb
  have ci_tsz : pI S_12 1000 tp = 4 := by rw [← eS_12, pI_sA]; exact ci_tsz
  have ln_tb : pN S_12 tb = 400 := by rw [← eS_12, pN_sA]; exact ln_tb
  refine lv_aload_n X.1 X.2.1 dX10_append_58 rfl (lv_at hl 0 rfl) ?_
  refine r_getR (g := 1003) X hw hat_tp 3 rf_tb (by decide) rfl inn_X10_append_10 (by decide) (X.2.2.2.1 (.fieldLink RX10 15 "SilkMill$Tape" "bytes" "[B") (by decide +kernel)) rfl (gv_1003 _ _) dX10_append_59 ?_
  refine lv_aload_n X.1 X.2.1 dX10_append_62 rfl (lv_at hl 0 rfl) ?_
  refine r_get (v := .int 4) X hw hat_tp 0 (by decide) rfl inn_X10_append_10 (by decide) (X.2.2.2.1 (.fieldLink RX10 19 "SilkMill$Tape" "size" "I") (by decide +kernel)) rfl ((gv_1000 _ _).trans (congrArg (fun z => some (Value.int z)) ci_tsz)) dX10_append_63 ?_
  refine lv_iconst (v := 3) X.1 X.2.1 dX10_append_66 (by decide) ?_
  refine lv_iadd X.1 X.2.1 dX10_append_67 ?_
  refine lv_topi (fun v_13 ev_13 => ?_)
  obtain rfl : v_13 = 7 := ev_13.trans (by decide +kernel)
  refine lv_iload_n X.1 X.2.1 dX10_append_68 rfl (lv_at hl 1 rfl) ?_
  refine lv_i2b X.1 X.2.1 dX10_append_69 rfl ?_
  refine lv_topi (fun v_14 ev_14 => ?_)
  refine r_bast X hw hat_tb (by rw [ln_tb]; exact vp_in_iff.mpr (by decide +kernel)) dX10_append_70 (fun H locs hw => ?_)
  generalize eS_15 : sA S_12 tb (upd (pA S_12 tb) (Int32.toNatClampNeg (7)) (vp_nar .byte v_14)) = S_15 at hw
  have hat_tp : At S_15 tp 10 := by rw [← eS_15]; exact At_sA hat_tp
  have hat_tb : At S_15 tb 13 := by rw [← eS_15]; exact At_sA hat_tb
  have rf_tb : pR S_15 1003 tp = some tb := by rw [← eS_15, pR_sA]; exact rf_tb
  have ci_tsz : pI S_15 1000 tp = 4 := by rw [← eS_15, pI_sA]; exact ci_tsz
  have ln_tb : pN S_15 tb = 400 := by rw [← eS_15, pN_sA]; exact ln_tb
  refine lv_aload_n X.1 X.2.1 dX10_append_71 rfl (lv_at hl 0 rfl) ?_
  refine lv_dup X.1 X.2.1 dX10_append_72 rfl ?_
  refine r_get (v := .int 4) X hw hat_tp 0 (by decide) rfl inn_X10_append_10 (by decide) (X.2.2.2.1 (.fieldLink RX10 19 "SilkMill$Tape" "size" "I") (by decide +kernel)) rfl ((gv_1000 _ _).trans (congrArg (fun z => some (Value.int z)) ci_tsz)) dX10_append_73 ?_
  refine lv_iconst (v := 4) X.1 X.2.1 dX10_append_76 (by decide) ?_
  refine lv_iadd X.1 X.2.1 dX10_append_77 ?_
  refine lv_topi (fun v_16 ev_16 => ?_)
  obtain rfl : v_16 = 8 := ev_16.trans (by decide +kernel)
  refine r_putI (v := 8) X hw hat_tp 0 1000 tyX10 (by decide) rfl inn_X10_append_10 tyX10_ok nmX10 (by decide) (X.2.2.2.1 (.fieldLink RX10 19 "SilkMill$Tape" "size" "I") (by decide +kernel)) rfl (Or.inl rfl) rfl rfl (Nat.le_of_ble_eq_true rfl) (st_1000 _ _) dX10_append_78 (fun H locs hw => ?_)
  generalize eS_17 : sI S_15 1000 tp 8 = S_17 at hw
  have hat_tp : At S_17 tp 10 := by rw [← eS_17]; exact At_sI hat_tp
  have hat_tb : At S_17 tb 13 := by rw [← eS_17]; exact At_sI hat_tb
  have rf_tb : pR S_17 1003 tp = some tb := by rw [← eS_17, pR_sI]; exact rf_tb
  have ln_tb : pN S_17 tb = 400 := by rw [← eS_17, pN_sI]; exact ln_tb
  have hc_18 : pI S_17 1000 tp = 8 := by rw [← eS_17]; exact pI_sI_same
  exact ret_v X hw hr hlocks (Nat.le_of_ble_eq_true rfl) (Nat.le_of_ble_eq_true rfl) (by refine ⟨?_, ?_, ?_, ?_, hc_18⟩ <;> (subst eS_17 eS_15 eS_12 eS_8 eS_4; rfl)) dX10_append_81
set_option maxHeartbeats 4000000 in
set_option maxRecDepth 100000 in
theorem c_X10_append_8 (l : Launch) (G : va_G) (cy : Nat → ClassId) (S : PS) (sz : Nat) (tp : Nat) (v : Int32) (tb : Nat) (hat_tp : At S tp 10) (ci_tsz : pI S 1000 tp = 8) (rf_tb : pR S 1003 tp = some tb) (hat_tb : At S tb 13) (ln_tb : pN S tb = 400) : Cv l yX10_append wsX10_append ({ frames := 1, cells := 0, slots := 0, locals := 40 }) G cy S sz [.ref tp, .int (v)] (fun (S9 : PS) => pL S9 = pL S ∧ pK S9 = pK S ∧ pR S9 = pR S ∧ pN S9 = pN S ∧ pI S9 1000 tp = 12) := by
  refine ent_m (cc := cX10_append) (maxL := 2) (ret := none) (by decide) rfl (Nat.le_of_ble_eq_true rfl) ?_
  intro p e s m below meth c ls X hr hlocks hin hw hl hsz
  subst hsz
  have X : Cx p c cX10_append 2 s [.ref tp, .int (v)].toArray wsX10_append RX10 m G cy (AS S s.heap.size) := X
  have hl : lv_has ls 2 [(0, .ref tp), (1, .int (v))] := hl
  refine lv_aload_n X.1 X.2.1 dX10_append_0 rfl (lv_at hl 0 rfl) ?_
  refine r_get (v := .int 8) X hw hat_tp 0 (by decide) rfl inn_X10_append_10 (by decide) (X.2.2.2.1 (.fieldLink RX10 19 "SilkMill$Tape" "size" "I") (by decide +kernel)) rfl ((gv_1000 _ _).trans (congrArg (fun z => some (Value.int z)) ci_tsz)) dX10_append_1 ?_
  refine lv_iconst (v := 4) X.1 X.2.1 dX10_append_4 (by decide) ?_
  refine lv_iadd X.1 X.2.1 dX10_append_5 ?_
  refine lv_topi (fun v_1 ev_1 => ?_)
  obtain rfl : v_1 = 12 := ev_1.trans (by decide +kernel)
  refine lv_sipush (v := 400) X.1 X.2.1 dX10_append_6 (by decide) ?_
  refine lv_icmp_gt (tgt := 81) X.1 X.2.1 dX10_append_9 (by decide) (fun c_9 => absurd c_9 (by decide)) (fun c_9 => ?_)
  refine lv_aload_n X.1 X.2.1 dX10_append_12 rfl (lv_at hl 0 rfl) ?_
  refine r_getR (g := 1003) X hw hat_tp 3 rf_tb (by decide) rfl inn_X10_append_10 (by decide) (X.2.2.2.1 (.fieldLink RX10 15 "SilkMill$Tape" "bytes" "[B") (by decide +kernel)) rfl (gv_1003 _ _) dX10_append_13 ?_
  refine lv_aload_n X.1 X.2.1 dX10_append_16 rfl (lv_at hl 0 rfl) ?_
  refine r_get (v := .int 8) X hw hat_tp 0 (by decide) rfl inn_X10_append_10 (by decide) (X.2.2.2.1 (.fieldLink RX10 19 "SilkMill$Tape" "size" "I") (by decide +kernel)) rfl ((gv_1000 _ _).trans (congrArg (fun z => some (Value.int z)) ci_tsz)) dX10_append_17 ?_
  refine lv_iload_n X.1 X.2.1 dX10_append_20 rfl (lv_at hl 1 rfl) ?_
  refine lv_bipush (v := 24) X.1 X.2.1 dX10_append_21 (by decide) ?_
  refine lv_iushr X.1 X.2.1 dX10_append_23 rfl ?_
  refine lv_topi (fun v_2 ev_2 => ?_)
  refine lv_i2b X.1 X.2.1 dX10_append_24 rfl ?_
  refine lv_topi (fun v_3 ev_3 => ?_)
  refine r_bast X hw hat_tb (by rw [ln_tb]; exact vp_in_iff.mpr (by decide +kernel)) dX10_append_25 (fun H locs hw => ?_)
  generalize eS_4 : sA S tb (upd (pA S tb) (Int32.toNatClampNeg (8)) (vp_nar .byte v_3)) = S_4 at hw
  have hat_tp : At S_4 tp 10 := by rw [← eS_4]; exact At_sA hat_tp
  have hat_tb : At S_4 tb 13 := by rw [← eS_4]; exact At_sA hat_tb
  have rf_tb : pR S_4 1003 tp = some tb := by rw [← eS_4, pR_sA]; exact rf_tb
  have ci_tsz : pI S_4 1000 tp = 8 := by rw [← eS_4, pI_sA]; exact ci_tsz
  have ln_tb : pN S_4 tb = 400 := by rw [← eS_4, pN_sA]; exact ln_tb
  refine lv_aload_n X.1 X.2.1 dX10_append_26 rfl (lv_at hl 0 rfl) ?_
  refine r_getR (g := 1003) X hw hat_tp 3 rf_tb (by decide) rfl inn_X10_append_10 (by decide) (X.2.2.2.1 (.fieldLink RX10 15 "SilkMill$Tape" "bytes" "[B") (by decide +kernel)) rfl (gv_1003 _ _) dX10_append_27 ?_
  refine lv_aload_n X.1 X.2.1 dX10_append_30 rfl (lv_at hl 0 rfl) ?_
  refine r_get (v := .int 8) X hw hat_tp 0 (by decide) rfl inn_X10_append_10 (by decide) (X.2.2.2.1 (.fieldLink RX10 19 "SilkMill$Tape" "size" "I") (by decide +kernel)) rfl ((gv_1000 _ _).trans (congrArg (fun z => some (Value.int z)) ci_tsz)) dX10_append_31 ?_
  refine lv_iconst (v := 1) X.1 X.2.1 dX10_append_34 (by decide) ?_
  refine lv_iadd X.1 X.2.1 dX10_append_35 ?_
  refine lv_topi (fun v_5 ev_5 => ?_)
  obtain rfl : v_5 = 9 := ev_5.trans (by decide +kernel)
  refine lv_iload_n X.1 X.2.1 dX10_append_36 rfl (lv_at hl 1 rfl) ?_
  refine lv_bipush (v := 16) X.1 X.2.1 dX10_append_37 (by decide) ?_
  refine lv_iushr X.1 X.2.1 dX10_append_39 rfl ?_
  refine lv_topi (fun v_6 ev_6 => ?_)
  refine lv_i2b X.1 X.2.1 dX10_append_40 rfl ?_
  refine lv_topi (fun v_7 ev_7 => ?_)
  refine r_bast X hw hat_tb (by rw [ln_tb]; exact vp_in_iff.mpr (by decide +kernel)) dX10_append_41 (fun H locs hw => ?_)
  generalize eS_8 : sA S_4 tb (upd (pA S_4 tb) (Int32.toNatClampNeg (9)) (vp_nar .byte v_7)) = S_8 at hw
  have hat_tp : At S_8 tp 10 := by rw [← eS_8]; exact At_sA hat_tp
  have hat_tb : At S_8 tb 13 := by rw [← eS_8]; exact At_sA hat_tb
  have rf_tb : pR S_8 1003 tp = some tb := by rw [← eS_8, pR_sA]; exact rf_tb
  have ci_tsz : pI S_8 1000 tp = 8 := by rw [← eS_8, pI_sA]; exact ci_tsz
  have ln_tb : pN S_8 tb = 400 := by rw [← eS_8, pN_sA]; exact ln_tb
  refine lv_aload_n X.1 X.2.1 dX10_append_42 rfl (lv_at hl 0 rfl) ?_
  refine r_getR (g := 1003) X hw hat_tp 3 rf_tb (by decide) rfl inn_X10_append_10 (by decide) (X.2.2.2.1 (.fieldLink RX10 15 "SilkMill$Tape" "bytes" "[B") (by decide +kernel)) rfl (gv_1003 _ _) dX10_append_43 ?_
  refine lv_aload_n X.1 X.2.1 dX10_append_46 rfl (lv_at hl 0 rfl) ?_
  refine r_get (v := .int 8) X hw hat_tp 0 (by decide) rfl inn_X10_append_10 (by decide) (X.2.2.2.1 (.fieldLink RX10 19 "SilkMill$Tape" "size" "I") (by decide +kernel)) rfl ((gv_1000 _ _).trans (congrArg (fun z => some (Value.int z)) ci_tsz)) dX10_append_47 ?_
  refine lv_iconst (v := 2) X.1 X.2.1 dX10_append_50 (by decide) ?_
  refine lv_iadd X.1 X.2.1 dX10_append_51 ?_
  refine lv_topi (fun v_9 ev_9 => ?_)
  obtain rfl : v_9 = 10 := ev_9.trans (by decide +kernel)
  refine lv_iload_n X.1 X.2.1 dX10_append_52 rfl (lv_at hl 1 rfl) ?_
  refine lv_bipush (v := 8) X.1 X.2.1 dX10_append_53 (by decide) ?_
  refine lv_iushr X.1 X.2.1 dX10_append_55 rfl ?_
  refine lv_topi (fun v_10 ev_10 => ?_)
  refine lv_i2b X.1 X.2.1 dX10_append_56 rfl ?_
  refine lv_topi (fun v_11 ev_11 => ?_)
  refine r_bast X hw hat_tb (by rw [ln_tb]; exact vp_in_iff.mpr (by decide +kernel)) dX10_append_57 (fun H locs hw => ?_)
  generalize eS_12 : sA S_8 tb (upd (pA S_8 tb) (Int32.toNatClampNeg (10)) (vp_nar .byte v_11)) = S_12 at hw
  have hat_tp : At S_12 tp 10 := by rw [← eS_12]; exact At_sA hat_tp
  have hat_tb : At S_12 tb 13 := by rw [← eS_12]; exact At_sA hat_tb
  have rf_tb : pR S_12 1003 tp = some tb := by rw [← eS_12, pR_sA]; exact rf_tb
  have ci_tsz : pI S_12 1000 tp = 8 := by rw [← eS_12, pI_sA]; exact ci_tsz
  have ln_tb : pN S_12 tb = 400 := by rw [← eS_12, pN_sA]; exact ln_tb
  refine lv_aload_n X.1 X.2.1 dX10_append_58 rfl (lv_at hl 0 rfl) ?_
  refine r_getR (g := 1003) X hw hat_tp 3 rf_tb (by decide) rfl inn_X10_append_10 (by decide) (X.2.2.2.1 (.fieldLink RX10 15 "SilkMill$Tape" "bytes" "[B") (by decide +kernel)) rfl (gv_1003 _ _) dX10_append_59 ?_
  refine lv_aload_n X.1 X.2.1 dX10_append_62 rfl (lv_at hl 0 rfl) ?_
  refine r_get (v := .int 8) X hw hat_tp 0 (by decide) rfl inn_X10_append_10 (by decide) (X.2.2.2.1 (.fieldLink RX10 19 "SilkMill$Tape" "size" "I") (by decide +kernel)) rfl ((gv_1000 _ _).trans (congrArg (fun z => some (Value.int z)) ci_tsz)) dX10_append_63 ?_
  refine lv_iconst (v := 3) X.1 X.2.1 dX10_append_66 (by decide) ?_
  refine lv_iadd X.1 X.2.1 dX10_append_67 ?_
  refine lv_topi (fun v_13 ev_13 => ?_)
  obtain rfl : v_13 = 11 := ev_13.trans (by decide +kernel)
  refine lv_iload_n X.1 X.2.1 dX10_append_68 rfl (lv_at hl 1 rfl) ?_
  refine lv_i2b X.1 X.2.1 dX10_append_69 rfl ?_
  refine lv_topi (fun v_14 ev_14 => ?_)
  refine r_bast X hw hat_tb (by rw [ln_tb]; exact vp_in_iff.mpr (by decide +kernel)) dX10_append_70 (fun H locs hw => ?_)
  generalize eS_15 : sA S_12 tb (upd (pA S_12 tb) (Int32.toNatClampNeg (11)) (vp_nar .byte v_14)) = S_15 at hw
  have hat_tp : At S_15 tp 10 := by rw [← eS_15]; exact At_sA hat_tp
  have hat_tb : At S_15 tb 13 := by rw [← eS_15]; exact At_sA hat_tb
  have rf_tb : pR S_15 1003 tp = some tb := by rw [← eS_15, pR_sA]; exact rf_tb
  have ci_tsz : pI S_15 1000 tp = 8 := by rw [← eS_15, pI_sA]; exact ci_tsz
  have ln_tb : pN S_15 tb = 400 := by rw [← eS_15, pN_sA]; exact ln_tb
  refine lv_aload_n X.1 X.2.1 dX10_append_71 rfl (lv_at hl 0 rfl) ?_
  refine lv_dup X.1 X.2.1 dX10_append_72 rfl ?_
  refine r_get (v := .int 8) X hw hat_tp 0 (by decide) rfl inn_X10_append_10 (by decide) (X.2.2.2.1 (.fieldLink RX10 19 "SilkMill$Tape" "size" "I") (by decide +kernel)) rfl ((gv_1000 _ _).trans (congrArg (fun z => some (Value.int z)) ci_tsz)) dX10_append_73 ?_
  refine lv_iconst (v := 4) X.1 X.2.1 dX10_append_76 (by decide) ?_
  refine lv_iadd X.1 X.2.1 dX10_append_77 ?_
  refine lv_topi (fun v_16 ev_16 => ?_)
  obtain rfl : v_16 = 12 := ev_16.trans (by decide +kernel)
  refine r_putI (v := 12) X hw hat_tp 0 1000 tyX10 (by decide) rfl inn_X10_append_10 tyX10_ok nmX10 (by decide) (X.2.2.2.1 (.fieldLink RX10 19 "SilkMill$Tape" "size" "I") (by decide +kernel)) rfl (Or.inl rfl) rfl rfl (Nat.le_of_ble_eq_true rfl) (st_1000 _ _) dX10_append_78 (fun H locs hw => ?_)
  generalize eS_17 : sI S_15 1000 tp 12 = S_17 at hw
  have hat_tp : At S_17 tp 10 := by rw [← eS_17]; exact At_sI hat_tp
  have hat_tb : At S_17 tb 13 := by rw [← eS_17]; exact At_sI hat_tb
  have rf_tb : pR S_17 1003 tp = some tb := by rw [← eS_17, pR_sI]; exact rf_tb
  have ln_tb : pN S_17 tb = 400 := by rw [← eS_17, pN_sI]; exact ln_tb
  have hc_18 : pI S_17 1000 tp = 12 := by rw [← eS_17]; exact pI_sI_same
  exact ret_v X hw hr hlocks (Nat.le_of_ble_eq_true rfl) (Nat.le_of_ble_eq_true rfl) (by refine ⟨?_, ?_, ?_, ?_, hc_18⟩ <;> (subst eS_17 eS_15 eS_12 eS_8 eS_4; rfl)) dX10_append_81
set_option maxHeartbeats 4000000 in
set_option maxRecDepth 100000 in
theorem c_X10_append_12 (l : Launch) (G : va_G) (cy : Nat → ClassId) (S : PS) (sz : Nat) (tp : Nat) (v : Int32) (tb : Nat) (hat_tp : At S tp 10) (ci_tsz : pI S 1000 tp = 12) (rf_tb : pR S 1003 tp = some tb) (hat_tb : At S tb 13) (ln_tb : pN S tb = 400) : Cv l yX10_append wsX10_append ({ frames := 1, cells := 0, slots := 0, locals := 40 }) G cy S sz [.ref tp, .int (v)] (fun (S9 : PS) => pL S9 = pL S ∧ pK S9 = pK S ∧ pR S9 = pR S ∧ pN S9 = pN S ∧ pI S9 1000 tp = 16) := by
  refine ent_m (cc := cX10_append) (maxL := 2) (ret := none) (by decide) rfl (Nat.le_of_ble_eq_true rfl) ?_
  intro p e s m below meth c ls X hr hlocks hin hw hl hsz
  subst hsz
  have X : Cx p c cX10_append 2 s [.ref tp, .int (v)].toArray wsX10_append RX10 m G cy (AS S s.heap.size) := X
  have hl : lv_has ls 2 [(0, .ref tp), (1, .int (v))] := hl
  refine lv_aload_n X.1 X.2.1 dX10_append_0 rfl (lv_at hl 0 rfl) ?_
  refine r_get (v := .int 12) X hw hat_tp 0 (by decide) rfl inn_X10_append_10 (by decide) (X.2.2.2.1 (.fieldLink RX10 19 "SilkMill$Tape" "size" "I") (by decide +kernel)) rfl ((gv_1000 _ _).trans (congrArg (fun z => some (Value.int z)) ci_tsz)) dX10_append_1 ?_
  refine lv_iconst (v := 4) X.1 X.2.1 dX10_append_4 (by decide) ?_
  refine lv_iadd X.1 X.2.1 dX10_append_5 ?_
  refine lv_topi (fun v_1 ev_1 => ?_)
  obtain rfl : v_1 = 16 := ev_1.trans (by decide +kernel)
  refine lv_sipush (v := 400) X.1 X.2.1 dX10_append_6 (by decide) ?_
  refine lv_icmp_gt (tgt := 81) X.1 X.2.1 dX10_append_9 (by decide) (fun c_9 => absurd c_9 (by decide)) (fun c_9 => ?_)
  refine lv_aload_n X.1 X.2.1 dX10_append_12 rfl (lv_at hl 0 rfl) ?_
  refine r_getR (g := 1003) X hw hat_tp 3 rf_tb (by decide) rfl inn_X10_append_10 (by decide) (X.2.2.2.1 (.fieldLink RX10 15 "SilkMill$Tape" "bytes" "[B") (by decide +kernel)) rfl (gv_1003 _ _) dX10_append_13 ?_
  refine lv_aload_n X.1 X.2.1 dX10_append_16 rfl (lv_at hl 0 rfl) ?_
  refine r_get (v := .int 12) X hw hat_tp 0 (by decide) rfl inn_X10_append_10 (by decide) (X.2.2.2.1 (.fieldLink RX10 19 "SilkMill$Tape" "size" "I") (by decide +kernel)) rfl ((gv_1000 _ _).trans (congrArg (fun z => some (Value.int z)) ci_tsz)) dX10_append_17 ?_
  refine lv_iload_n X.1 X.2.1 dX10_append_20 rfl (lv_at hl 1 rfl) ?_
  refine lv_bipush (v := 24) X.1 X.2.1 dX10_append_21 (by decide) ?_
  refine lv_iushr X.1 X.2.1 dX10_append_23 rfl ?_
  refine lv_topi (fun v_2 ev_2 => ?_)
  refine lv_i2b X.1 X.2.1 dX10_append_24 rfl ?_
  refine lv_topi (fun v_3 ev_3 => ?_)
  refine r_bast X hw hat_tb (by rw [ln_tb]; exact vp_in_iff.mpr (by decide +kernel)) dX10_append_25 (fun H locs hw => ?_)
  generalize eS_4 : sA S tb (upd (pA S tb) (Int32.toNatClampNeg (12)) (vp_nar .byte v_3)) = S_4 at hw
  have hat_tp : At S_4 tp 10 := by rw [← eS_4]; exact At_sA hat_tp
  have hat_tb : At S_4 tb 13 := by rw [← eS_4]; exact At_sA hat_tb
  have rf_tb : pR S_4 1003 tp = some tb := by rw [← eS_4, pR_sA]; exact rf_tb
  have ci_tsz : pI S_4 1000 tp = 12 := by rw [← eS_4, pI_sA]; exact ci_tsz
  have ln_tb : pN S_4 tb = 400 := by rw [← eS_4, pN_sA]; exact ln_tb
  refine lv_aload_n X.1 X.2.1 dX10_append_26 rfl (lv_at hl 0 rfl) ?_
  refine r_getR (g := 1003) X hw hat_tp 3 rf_tb (by decide) rfl inn_X10_append_10 (by decide) (X.2.2.2.1 (.fieldLink RX10 15 "SilkMill$Tape" "bytes" "[B") (by decide +kernel)) rfl (gv_1003 _ _) dX10_append_27 ?_
  refine lv_aload_n X.1 X.2.1 dX10_append_30 rfl (lv_at hl 0 rfl) ?_
  refine r_get (v := .int 12) X hw hat_tp 0 (by decide) rfl inn_X10_append_10 (by decide) (X.2.2.2.1 (.fieldLink RX10 19 "SilkMill$Tape" "size" "I") (by decide +kernel)) rfl ((gv_1000 _ _).trans (congrArg (fun z => some (Value.int z)) ci_tsz)) dX10_append_31 ?_
  refine lv_iconst (v := 1) X.1 X.2.1 dX10_append_34 (by decide) ?_
  refine lv_iadd X.1 X.2.1 dX10_append_35 ?_
  refine lv_topi (fun v_5 ev_5 => ?_)
  obtain rfl : v_5 = 13 := ev_5.trans (by decide +kernel)
  refine lv_iload_n X.1 X.2.1 dX10_append_36 rfl (lv_at hl 1 rfl) ?_
  refine lv_bipush (v := 16) X.1 X.2.1 dX10_append_37 (by decide) ?_
  refine lv_iushr X.1 X.2.1 dX10_append_39 rfl ?_
  refine lv_topi (fun v_6 ev_6 => ?_)
  refine lv_i2b X.1 X.2.1 dX10_append_40 rfl ?_
  refine lv_topi (fun v_7 ev_7 => ?_)
  refine r_bast X hw hat_tb (by rw [ln_tb]; exact vp_in_iff.mpr (by decide +kernel)) dX10_append_41 (fun H locs hw => ?_)
  generalize eS_8 : sA S_4 tb (upd (pA S_4 tb) (Int32.toNatClampNeg (13)) (vp_nar .byte v_7)) = S_8 at hw
  have hat_tp : At S_8 tp 10 := by rw [← eS_8]; exact At_sA hat_tp
  have hat_tb : At S_8 tb 13 := by rw [← eS_8]; exact At_sA hat_tb
  have rf_tb : pR S_8 1003 tp = some tb := by rw [← eS_8, pR_sA]; exact rf_tb
  have ci_tsz : pI S_8 1000 tp = 12 := by rw [← eS_8, pI_sA]; exact ci_tsz
  have ln_tb : pN S_8 tb = 400 := by rw [← eS_8, pN_sA]; exact ln_tb
  refine lv_aload_n X.1 X.2.1 dX10_append_42 rfl (lv_at hl 0 rfl) ?_
  refine r_getR (g := 1003) X hw hat_tp 3 rf_tb (by decide) rfl inn_X10_append_10 (by decide) (X.2.2.2.1 (.fieldLink RX10 15 "SilkMill$Tape" "bytes" "[B") (by decide +kernel)) rfl (gv_1003 _ _) dX10_append_43 ?_
  refine lv_aload_n X.1 X.2.1 dX10_append_46 rfl (lv_at hl 0 rfl) ?_
  refine r_get (v := .int 12) X hw hat_tp 0 (by decide) rfl inn_X10_append_10 (by decide) (X.2.2.2.1 (.fieldLink RX10 19 "SilkMill$Tape" "size" "I") (by decide +kernel)) rfl ((gv_1000 _ _).trans (congrArg (fun z => some (Value.int z)) ci_tsz)) dX10_append_47 ?_
  refine lv_iconst (v := 2) X.1 X.2.1 dX10_append_50 (by decide) ?_
  refine lv_iadd X.1 X.2.1 dX10_append_51 ?_
  refine lv_topi (fun v_9 ev_9 => ?_)
  obtain rfl : v_9 = 14 := ev_9.trans (by decide +kernel)
  refine lv_iload_n X.1 X.2.1 dX10_append_52 rfl (lv_at hl 1 rfl) ?_
  refine lv_bipush (v := 8) X.1 X.2.1 dX10_append_53 (by decide) ?_
  refine lv_iushr X.1 X.2.1 dX10_append_55 rfl ?_
  refine lv_topi (fun v_10 ev_10 => ?_)
  refine lv_i2b X.1 X.2.1 dX10_append_56 rfl ?_
  refine lv_topi (fun v_11 ev_11 => ?_)
  refine r_bast X hw hat_tb (by rw [ln_tb]; exact vp_in_iff.mpr (by decide +kernel)) dX10_append_57 (fun H locs hw => ?_)
  generalize eS_12 : sA S_8 tb (upd (pA S_8 tb) (Int32.toNatClampNeg (14)) (vp_nar .byte v_11)) = S_12 at hw
  have hat_tp : At S_12 tp 10 := by rw [← eS_12]; exact At_sA hat_tp
  have hat_tb : At S_12 tb 13 := by rw [← eS_12]; exact At_sA hat_tb
  have rf_tb : pR S_12 1003 tp = some tb := by rw [← eS_12, pR_sA]; exact rf_tb
  have ci_tsz : pI S_12 1000 tp = 12 := by rw [← eS_12, pI_sA]; exact ci_tsz
  have ln_tb : pN S_12 tb = 400 := by rw [← eS_12, pN_sA]; exact ln_tb
  refine lv_aload_n X.1 X.2.1 dX10_append_58 rfl (lv_at hl 0 rfl) ?_
  refine r_getR (g := 1003) X hw hat_tp 3 rf_tb (by decide) rfl inn_X10_append_10 (by decide) (X.2.2.2.1 (.fieldLink RX10 15 "SilkMill$Tape" "bytes" "[B") (by decide +kernel)) rfl (gv_1003 _ _) dX10_append_59 ?_
  refine lv_aload_n X.1 X.2.1 dX10_append_62 rfl (lv_at hl 0 rfl) ?_
  refine r_get (v := .int 12) X hw hat_tp 0 (by decide) rfl inn_X10_append_10 (by decide) (X.2.2.2.1 (.fieldLink RX10 19 "SilkMill$Tape" "size" "I") (by decide +kernel)) rfl ((gv_1000 _ _).trans (congrArg (fun z => some (Value.int z)) ci_tsz)) dX10_append_63 ?_
  refine lv_iconst (v := 3) X.1 X.2.1 dX10_append_66 (by decide) ?_
  refine lv_iadd X.1 X.2.1 dX10_append_67 ?_
  refine lv_topi (fun v_13 ev_13 => ?_)
  obtain rfl : v_13 = 15 := ev_13.trans (by decide +kernel)
  refine lv_iload_n X.1 X.2.1 dX10_append_68 rfl (lv_at hl 1 rfl) ?_
  refine lv_i2b X.1 X.2.1 dX10_append_69 rfl ?_
  refine lv_topi (fun v_14 ev_14 => ?_)
  refine r_bast X hw hat_tb (by rw [ln_tb]; exact vp_in_iff.mpr (by decide +kernel)) dX10_append_70 (fun H locs hw => ?_)
  generalize eS_15 : sA S_12 tb (upd (pA S_12 tb) (Int32.toNatClampNeg (15)) (vp_nar .byte v_14)) = S_15 at hw
  have hat_tp : At S_15 tp 10 := by rw [← eS_15]; exact At_sA hat_tp
  have hat_tb : At S_15 tb 13 := by rw [← eS_15]; exact At_sA hat_tb
  have rf_tb : pR S_15 1003 tp = some tb := by rw [← eS_15, pR_sA]; exact rf_tb
  have ci_tsz : pI S_15 1000 tp = 12 := by rw [← eS_15, pI_sA]; exact ci_tsz
  have ln_tb : pN S_15 tb = 400 := by rw [← eS_15, pN_sA]; exact ln_tb
  refine lv_aload_n X.1 X.2.1 dX10_append_71 rfl (lv_at hl 0 rfl) ?_
  refine lv_dup X.1 X.2.1 dX10_append_72 rfl ?_
  refine r_get (v := .int 12) X hw hat_tp 0 (by decide) rfl inn_X10_append_10 (by decide) (X.2.2.2.1 (.fieldLink RX10 19 "SilkMill$Tape" "size" "I") (by decide +kernel)) rfl ((gv_1000 _ _).trans (congrArg (fun z => some (Value.int z)) ci_tsz)) dX10_append_73 ?_
  refine lv_iconst (v := 4) X.1 X.2.1 dX10_append_76 (by decide) ?_
  refine lv_iadd X.1 X.2.1 dX10_append_77 ?_
  refine lv_topi (fun v_16 ev_16 => ?_)
  obtain rfl : v_16 = 16 := ev_16.trans (by decide +kernel)
  refine r_putI (v := 16) X hw hat_tp 0 1000 tyX10 (by decide) rfl inn_X10_append_10 tyX10_ok nmX10 (by decide) (X.2.2.2.1 (.fieldLink RX10 19 "SilkMill$Tape" "size" "I") (by decide +kernel)) rfl (Or.inl rfl) rfl rfl (Nat.le_of_ble_eq_true rfl) (st_1000 _ _) dX10_append_78 (fun H locs hw => ?_)
  generalize eS_17 : sI S_15 1000 tp 16 = S_17 at hw
  have hat_tp : At S_17 tp 10 := by rw [← eS_17]; exact At_sI hat_tp
  have hat_tb : At S_17 tb 13 := by rw [← eS_17]; exact At_sI hat_tb
  have rf_tb : pR S_17 1003 tp = some tb := by rw [← eS_17, pR_sI]; exact rf_tb
  have ln_tb : pN S_17 tb = 400 := by rw [← eS_17, pN_sI]; exact ln_tb
  have hc_18 : pI S_17 1000 tp = 16 := by rw [← eS_17]; exact pI_sI_same
  exact ret_v X hw hr hlocks (Nat.le_of_ble_eq_true rfl) (Nat.le_of_ble_eq_true rfl) (by refine ⟨?_, ?_, ?_, ?_, hc_18⟩ <;> (subst eS_17 eS_15 eS_12 eS_8 eS_4; rfl)) dX10_append_81
set_option maxHeartbeats 4000000 in
set_option maxRecDepth 100000 in
theorem c_X10_append_16 (l : Launch) (G : va_G) (cy : Nat → ClassId) (S : PS) (sz : Nat) (tp : Nat) (v : Int32) (tb : Nat) (hat_tp : At S tp 10) (ci_tsz : pI S 1000 tp = 16) (rf_tb : pR S 1003 tp = some tb) (hat_tb : At S tb 13) (ln_tb : pN S tb = 400) : Cv l yX10_append wsX10_append ({ frames := 1, cells := 0, slots := 0, locals := 40 }) G cy S sz [.ref tp, .int (v)] (fun (S9 : PS) => pL S9 = pL S ∧ pK S9 = pK S ∧ pR S9 = pR S ∧ pN S9 = pN S ∧ pI S9 1000 tp = 20) := by
  refine ent_m (cc := cX10_append) (maxL := 2) (ret := none) (by decide) rfl (Nat.le_of_ble_eq_true rfl) ?_
  intro p e s m below meth c ls X hr hlocks hin hw hl hsz
  subst hsz
  have X : Cx p c cX10_append 2 s [.ref tp, .int (v)].toArray wsX10_append RX10 m G cy (AS S s.heap.size) := X
  have hl : lv_has ls 2 [(0, .ref tp), (1, .int (v))] := hl
  refine lv_aload_n X.1 X.2.1 dX10_append_0 rfl (lv_at hl 0 rfl) ?_
  refine r_get (v := .int 16) X hw hat_tp 0 (by decide) rfl inn_X10_append_10 (by decide) (X.2.2.2.1 (.fieldLink RX10 19 "SilkMill$Tape" "size" "I") (by decide +kernel)) rfl ((gv_1000 _ _).trans (congrArg (fun z => some (Value.int z)) ci_tsz)) dX10_append_1 ?_
  refine lv_iconst (v := 4) X.1 X.2.1 dX10_append_4 (by decide) ?_
  refine lv_iadd X.1 X.2.1 dX10_append_5 ?_
  refine lv_topi (fun v_1 ev_1 => ?_)
  obtain rfl : v_1 = 20 := ev_1.trans (by decide +kernel)
  refine lv_sipush (v := 400) X.1 X.2.1 dX10_append_6 (by decide) ?_
  refine lv_icmp_gt (tgt := 81) X.1 X.2.1 dX10_append_9 (by decide) (fun c_9 => absurd c_9 (by decide)) (fun c_9 => ?_)
  refine lv_aload_n X.1 X.2.1 dX10_append_12 rfl (lv_at hl 0 rfl) ?_
  refine r_getR (g := 1003) X hw hat_tp 3 rf_tb (by decide) rfl inn_X10_append_10 (by decide) (X.2.2.2.1 (.fieldLink RX10 15 "SilkMill$Tape" "bytes" "[B") (by decide +kernel)) rfl (gv_1003 _ _) dX10_append_13 ?_
  refine lv_aload_n X.1 X.2.1 dX10_append_16 rfl (lv_at hl 0 rfl) ?_
  refine r_get (v := .int 16) X hw hat_tp 0 (by decide) rfl inn_X10_append_10 (by decide) (X.2.2.2.1 (.fieldLink RX10 19 "SilkMill$Tape" "size" "I") (by decide +kernel)) rfl ((gv_1000 _ _).trans (congrArg (fun z => some (Value.int z)) ci_tsz)) dX10_append_17 ?_
  refine lv_iload_n X.1 X.2.1 dX10_append_20 rfl (lv_at hl 1 rfl) ?_
  refine lv_bipush (v := 24) X.1 X.2.1 dX10_append_21 (by decide) ?_
  refine lv_iushr X.1 X.2.1 dX10_append_23 rfl ?_
  refine lv_topi (fun v_2 ev_2 => ?_)
  refine lv_i2b X.1 X.2.1 dX10_append_24 rfl ?_
  refine lv_topi (fun v_3 ev_3 => ?_)
  refine r_bast X hw hat_tb (by rw [ln_tb]; exact vp_in_iff.mpr (by decide +kernel)) dX10_append_25 (fun H locs hw => ?_)
  generalize eS_4 : sA S tb (upd (pA S tb) (Int32.toNatClampNeg (16)) (vp_nar .byte v_3)) = S_4 at hw
  have hat_tp : At S_4 tp 10 := by rw [← eS_4]; exact At_sA hat_tp
  have hat_tb : At S_4 tb 13 := by rw [← eS_4]; exact At_sA hat_tb
  have rf_tb : pR S_4 1003 tp = some tb := by rw [← eS_4, pR_sA]; exact rf_tb
  have ci_tsz : pI S_4 1000 tp = 16 := by rw [← eS_4, pI_sA]; exact ci_tsz
  have ln_tb : pN S_4 tb = 400 := by rw [← eS_4, pN_sA]; exact ln_tb
  refine lv_aload_n X.1 X.2.1 dX10_append_26 rfl (lv_at hl 0 rfl) ?_
  refine r_getR (g := 1003) X hw hat_tp 3 rf_tb (by decide) rfl inn_X10_append_10 (by decide) (X.2.2.2.1 (.fieldLink RX10 15 "SilkMill$Tape" "bytes" "[B") (by decide +kernel)) rfl (gv_1003 _ _) dX10_append_27 ?_
  refine lv_aload_n X.1 X.2.1 dX10_append_30 rfl (lv_at hl 0 rfl) ?_
  refine r_get (v := .int 16) X hw hat_tp 0 (by decide) rfl inn_X10_append_10 (by decide) (X.2.2.2.1 (.fieldLink RX10 19 "SilkMill$Tape" "size" "I") (by decide +kernel)) rfl ((gv_1000 _ _).trans (congrArg (fun z => some (Value.int z)) ci_tsz)) dX10_append_31 ?_
  refine lv_iconst (v := 1) X.1 X.2.1 dX10_append_34 (by decide) ?_
  refine lv_iadd X.1 X.2.1 dX10_append_35 ?_
  refine lv_topi (fun v_5 ev_5 => ?_)
  obtain rfl : v_5 = 17 := ev_5.trans (by decide +kernel)
  refine lv_iload_n X.1 X.2.1 dX10_append_36 rfl (lv_at hl 1 rfl) ?_
  refine lv_bipush (v := 16) X.1 X.2.1 dX10_append_37 (by decide) ?_
  refine lv_iushr X.1 X.2.1 dX10_append_39 rfl ?_
  refine lv_topi (fun v_6 ev_6 => ?_)
  refine lv_i2b X.1 X.2.1 dX10_append_40 rfl ?_
  refine lv_topi (fun v_7 ev_7 => ?_)
  refine r_bast X hw hat_tb (by rw [ln_tb]; exact vp_in_iff.mpr (by decide +kernel)) dX10_append_41 (fun H locs hw => ?_)
  generalize eS_8 : sA S_4 tb (upd (pA S_4 tb) (Int32.toNatClampNeg (17)) (vp_nar .byte v_7)) = S_8 at hw
  have hat_tp : At S_8 tp 10 := by rw [← eS_8]; exact At_sA hat_tp
  have hat_tb : At S_8 tb 13 := by rw [← eS_8]; exact At_sA hat_tb
  have rf_tb : pR S_8 1003 tp = some tb := by rw [← eS_8, pR_sA]; exact rf_tb
  have ci_tsz : pI S_8 1000 tp = 16 := by rw [← eS_8, pI_sA]; exact ci_tsz
  have ln_tb : pN S_8 tb = 400 := by rw [← eS_8, pN_sA]; exact ln_tb
  refine lv_aload_n X.1 X.2.1 dX10_append_42 rfl (lv_at hl 0 rfl) ?_
  refine r_getR (g := 1003) X hw hat_tp 3 rf_tb (by decide) rfl inn_X10_append_10 (by decide) (X.2.2.2.1 (.fieldLink RX10 15 "SilkMill$Tape" "bytes" "[B") (by decide +kernel)) rfl (gv_1003 _ _) dX10_append_43 ?_
  refine lv_aload_n X.1 X.2.1 dX10_append_46 rfl (lv_at hl 0 rfl) ?_
  refine r_get (v := .int 16) X hw hat_tp 0 (by decide) rfl inn_X10_append_10 (by decide) (X.2.2.2.1 (.fieldLink RX10 19 "SilkMill$Tape" "size" "I") (by decide +kernel)) rfl ((gv_1000 _ _).trans (congrArg (fun z => some (Value.int z)) ci_tsz)) dX10_append_47 ?_
  refine lv_iconst (v := 2) X.1 X.2.1 dX10_append_50 (by decide) ?_
  refine lv_iadd X.1 X.2.1 dX10_append_51 ?_
  refine lv_topi (fun v_9 ev_9 => ?_)
  obtain rfl : v_9 = 18 := ev_9.trans (by decide +kernel)
  refine lv_iload_n X.1 X.2.1 dX10_append_52 rfl (lv_at hl 1 rfl) ?_
  refine lv_bipush (v := 8) X.1 X.2.1 dX10_append_53 (by decide) ?_
  refine lv_iushr X.1 X.2.1 dX10_append_55 rfl ?_
  refine lv_topi (fun v_10 ev_10 => ?_)
  refine lv_i2b X.1 X.2.1 dX10_append_56 rfl ?_
  refine lv_topi (fun v_11 ev_11 => ?_)
  refine r_bast X hw hat_tb (by rw [ln_tb]; exact vp_in_iff.mpr (by decide +kernel)) dX10_append_57 (fun H locs hw => ?_)
  generalize eS_12 : sA S_8 tb (upd (pA S_8 tb) (Int32.toNatClampNeg (18)) (vp_nar .byte v_11)) = S_12 at hw
  have hat_tp : At S_12 tp 10 := by rw [← eS_12]; exact At_sA hat_tp
  have hat_tb : At S_12 tb 13 := by rw [← eS_12]; exact At_sA hat_tb
  have rf_tb : pR S_12 1003 tp = some tb := by rw [← eS_12, pR_sA]; exact rf_tb
  have ci_tsz : pI S_12 1000 tp = 16 := by rw [← eS_12, pI_sA]; exact ci_tsz
  have ln_tb : pN S_12 tb = 400 := by rw [← eS_12, pN_sA]; exact ln_tb
  refine lv_aload_n X.1 X.2.1 dX10_append_58 rfl (lv_at hl 0 rfl) ?_
  refine r_getR (g := 1003) X hw hat_tp 3 rf_tb (by decide) rfl inn_X10_append_10 (by decide) (X.2.2.2.1 (.fieldLink RX10 15 "SilkMill$Tape" "bytes" "[B") (by decide +kernel)) rfl (gv_1003 _ _) dX10_append_59 ?_
  refine lv_aload_n X.1 X.2.1 dX10_append_62 rfl (lv_at hl 0 rfl) ?_
  refine r_get (v := .int 16) X hw hat_tp 0 (by decide) rfl inn_X10_append_10 (by decide) (X.2.2.2.1 (.fieldLink RX10 19 "SilkMill$Tape" "size" "I") (by decide +kernel)) rfl ((gv_1000 _ _).trans (congrArg (fun z => some (Value.int z)) ci_tsz)) dX10_append_63 ?_
  refine lv_iconst (v := 3) X.1 X.2.1 dX10_append_66 (by decide) ?_
  refine lv_iadd X.1 X.2.1 dX10_append_67 ?_
  refine lv_topi (fun v_13 ev_13 => ?_)
  obtain rfl : v_13 = 19 := ev_13.trans (by decide +kernel)
  refine lv_iload_n X.1 X.2.1 dX10_append_68 rfl (lv_at hl 1 rfl) ?_
  refine lv_i2b X.1 X.2.1 dX10_append_69 rfl ?_
  refine lv_topi (fun v_14 ev_14 => ?_)
  refine r_bast X hw hat_tb (by rw [ln_tb]; exact vp_in_iff.mpr (by decide +kernel)) dX10_append_70 (fun H locs hw => ?_)
  generalize eS_15 : sA S_12 tb (upd (pA S_12 tb) (Int32.toNatClampNeg (19)) (vp_nar .byte v_14)) = S_15 at hw
  have hat_tp : At S_15 tp 10 := by rw [← eS_15]; exact At_sA hat_tp
  have hat_tb : At S_15 tb 13 := by rw [← eS_15]; exact At_sA hat_tb
  have rf_tb : pR S_15 1003 tp = some tb := by rw [← eS_15, pR_sA]; exact rf_tb
  have ci_tsz : pI S_15 1000 tp = 16 := by rw [← eS_15, pI_sA]; exact ci_tsz
  have ln_tb : pN S_15 tb = 400 := by rw [← eS_15, pN_sA]; exact ln_tb
  refine lv_aload_n X.1 X.2.1 dX10_append_71 rfl (lv_at hl 0 rfl) ?_
  refine lv_dup X.1 X.2.1 dX10_append_72 rfl ?_
  refine r_get (v := .int 16) X hw hat_tp 0 (by decide) rfl inn_X10_append_10 (by decide) (X.2.2.2.1 (.fieldLink RX10 19 "SilkMill$Tape" "size" "I") (by decide +kernel)) rfl ((gv_1000 _ _).trans (congrArg (fun z => some (Value.int z)) ci_tsz)) dX10_append_73 ?_
  refine lv_iconst (v := 4) X.1 X.2.1 dX10_append_76 (by decide) ?_
  refine lv_iadd X.1 X.2.1 dX10_append_77 ?_
  refine lv_topi (fun v_16 ev_16 => ?_)
  obtain rfl : v_16 = 20 := ev_16.trans (by decide +kernel)
  refine r_putI (v := 20) X hw hat_tp 0 1000 tyX10 (by decide) rfl inn_X10_append_10 tyX10_ok nmX10 (by decide) (X.2.2.2.1 (.fieldLink RX10 19 "SilkMill$Tape" "size" "I") (by decide +kernel)) rfl (Or.inl rfl) rfl rfl (Nat.le_of_ble_eq_true rfl) (st_1000 _ _) dX10_append_78 (fun H locs hw => ?_)
  generalize eS_17 : sI S_15 1000 tp 20 = S_17 at hw
  have hat_tp : At S_17 tp 10 := by rw [← eS_17]; exact At_sI hat_tp
  have hat_tb : At S_17 tb 13 := by rw [← eS_17]; exact At_sI hat_tb
  have rf_tb : pR S_17 1003 tp = some tb := by rw [← eS_17, pR_sI]; exact rf_tb
  have ln_tb : pN S_17 tb = 400 := by rw [← eS_17, pN_sI]; exact ln_tb
  have hc_18 : pI S_17 1000 tp = 20 := by rw [← eS_17]; exact pI_sI_same
  exact ret_v X hw hr hlocks (Nat.le_of_ble_eq_true rfl) (Nat.le_of_ble_eq_true rfl) (by refine ⟨?_, ?_, ?_, ?_, hc_18⟩ <;> (subst eS_17 eS_15 eS_12 eS_8 eS_4; rfl)) dX10_append_81
set_option maxHeartbeats 4000000 in
set_option maxRecDepth 100000 in
theorem c_X11_feed (l : Launch) (G : va_G) (cy : Nat → ClassId) (S : PS) (sz : Nat) (x : Nat) (a1 : Int32) (a2 : Int32) (a3 : Int32) (a4 : Int32) (a5 : Int32) (hF : FX S x) : Ci l yX11_feed wsX11_feed ({ frames := 4, cells := 0, slots := 0, locals := 160 }) G cy S sz [.ref x, .int (a1), .int (a2), .int (a3), .int (a4), .int (a5)] (fun (r : Int32) (S9 : PS) => r = 20) := by
  refine ent_m (cc := cX11_feed) (maxL := 6) (ret := (some .int)) (by decide) rfl (Nat.le_of_ble_eq_true rfl) ?_
  intro p e s m below meth c ls X hr hlocks hin hw hl hsz
  subst hsz
  have X : Cx p c cX11_feed 6 s [.ref x, .int (a1), .int (a2), .int (a3), .int (a4), .int (a5)].toArray wsX11_feed RX11 m G cy (AS S s.heap.size) := X
  have hl : lv_has ls 6 [(0, .ref x), (1, .int (a1)), (2, .int (a2)), (3, .int (a3)), (4, .int (a4)), (5, .int (a5))] := hl
  have hF0 := hF
  obtain ⟨hat_x, ci_lots, ci_pots, ci_shv, ⟨cs, rf_cs, hat_cs, ln_cs⟩, ⟨lz, rf_lz, hat_lz, ln_lz⟩, ⟨ps, rf_ps, hat_ps, ln_ps⟩, ⟨tp, rf_tp, hat_tp, ci_tsz, ci_tfp, ⟨tb, rf_tb, hat_tb, ln_tb⟩⟩, ⟨st, rf_st, hat_st, ci_st, ⟨pr, rf_pr, hat_pr, ln_pr⟩, ⟨mx, rf_mx, hat_mx⟩⟩, ⟨dr, rf_dr, hat_dr, ci_dsz⟩, sh, rf_sh, hat_sh, ln_sh, hpl⟩ := hF
  have hF := hF0
  refine lv_aload_n X.1 X.2.1 dX11_feed_0 rfl (lv_at hl 0 rfl) ?_
  refine r_getR (g := 1105) X hw hat_x 5 rf_tp (by decide) rfl inn_X11_feed_11 (by decide) (X.2.2.2.1 (.fieldLink RX11 28 "SilkMill" "tape" "LSilkMill$Tape;") (by decide +kernel)) rfl (gv_1105 _ _) dX11_feed_1 ?_
  refine r_get (v := .int 0) X hw hat_tp 0 (by decide) rfl inn_X11_feed_10 (by decide) (X.2.2.2.1 (.fieldLink RX11 145 "SilkMill$Tape" "size" "I") (by decide +kernel)) rfl ((gv_1000 _ _).trans (congrArg (fun z => some (Value.int z)) ci_tsz)) dX11_feed_4 ?_
  refine lv_bipush (v := 20) X.1 X.2.1 dX11_feed_7 (by decide) ?_
  refine lv_iadd X.1 X.2.1 dX11_feed_9 ?_
  refine lv_topi (fun v_1 ev_1 => ?_)
  obtain rfl : v_1 = 20 := ev_1.trans (by decide +kernel)
  refine lv_sipush (v := 400) X.1 X.2.1 dX11_feed_10 (by decide) ?_
  refine lv_icmp_le (tgt := 18) X.1 X.2.1 dX11_feed_13 (by decide) (fun c_13 => ?_) (fun c_13 => absurd c_13 (by decide))
  refine lv_aload_n X.1 X.2.1 dX11_feed_18 rfl (lv_at hl 0 rfl) ?_
  refine r_getR (g := 1105) X hw hat_x 5 rf_tp (by decide) rfl inn_X11_feed_11 (by decide) (X.2.2.2.1 (.fieldLink RX11 28 "SilkMill" "tape" "LSilkMill$Tape;") (by decide +kernel)) rfl (gv_1105 _ _) dX11_feed_19 ?_
  refine lv_iload_n X.1 X.2.1 dX11_feed_22 rfl (lv_at hl 1 rfl) ?_
  refine k_v (rm := { frames := 1, cells := 0, slots := 0, locals := 40 }) (av := [.ref tp, .int (a1)]) X hw (va_runV (As := [.int (a1)]) (rest := []) (cfix X) (c_X10_append_0 l G cy S _ tp (a1) tb hat_tp ci_tsz rf_tb hat_tb ln_tb) (cwV 1 X.2.2.2.1 gX11_feed_X10_append rfl rfl rfl (by decide +kernel) ⟨Nat.le_of_ble_eq_true rfl, Nat.le_of_ble_eq_true rfl⟩) (pre_V X hw _ hat_tp (by decide) rfl) rfl rfl hl.1 rfl (lv_room (Nat.le_of_ble_eq_true rfl)) dX11_feed_23 ⟨Nat.le_of_ble_eq_true rfl, Nat.le_of_ble_eq_true rfl⟩) 0 0 (Nat.le_of_ble_eq_true rfl) (Nat.le_of_ble_eq_true rfl) (fun S2 H locs hp hw hfr hnw => ?_)
  obtain ⟨j1, j2, j3, j4, ci_tsz⟩ := hp
  generalize eq_Sp_23_2 : S2 = Sp_23_2 at j1 j2 j3 j4 ci_tsz hw
  have hat_x : At Sp_23_2 x 11 := ⟨by rw [j1]; exact hat_x.1, by rw [j2]; exact hat_x.2⟩
  have hat_tp : At Sp_23_2 tp 10 := ⟨by rw [j1]; exact hat_tp.1, by rw [j2]; exact hat_tp.2⟩
  have hat_tb : At Sp_23_2 tb 13 := ⟨by rw [j1]; exact hat_tb.1, by rw [j2]; exact hat_tb.2⟩
  have rf_tp : pR Sp_23_2 1105 x = some tp := by rw [j3]; exact rf_tp
  have rf_tb : pR Sp_23_2 1003 tp = some tb := by rw [j3]; exact rf_tb
  have ln_tb : pN Sp_23_2 tb = 400 := by rw [j4]; exact ln_tb
  refine lv_aload_n X.1 X.2.1 dX11_feed_26 rfl (lv_at hl 0 rfl) ?_
  refine r_getR (g := 1105) X hw hat_x 5 rf_tp (by decide) rfl inn_X11_feed_11 (by decide) (X.2.2.2.1 (.fieldLink RX11 28 "SilkMill" "tape" "LSilkMill$Tape;") (by decide +kernel)) rfl (gv_1105 _ _) dX11_feed_27 ?_
  refine lv_iload_n X.1 X.2.1 dX11_feed_30 rfl (lv_at hl 2 rfl) ?_
  refine k_v (rm := { frames := 1, cells := 0, slots := 0, locals := 40 }) (av := [.ref tp, .int (a2)]) X hw (va_runV (As := [.int (a2)]) (rest := []) (cfix X) (c_X10_append_4 l G cy Sp_23_2 _ tp (a2) tb hat_tp ci_tsz rf_tb hat_tb ln_tb) (cwV 1 X.2.2.2.1 gX11_feed_X10_append rfl rfl rfl (by decide +kernel) ⟨Nat.le_of_ble_eq_true rfl, Nat.le_of_ble_eq_true rfl⟩) (pre_V X hw _ hat_tp (by decide) rfl) rfl rfl hl.1 rfl (lv_room (Nat.le_of_ble_eq_true rfl)) dX11_feed_31 ⟨Nat.le_of_ble_eq_true rfl, Nat.le_of_ble_eq_true rfl⟩) 0 0 (Nat.le_of_ble_eq_true rfl) (Nat.le_of_ble_eq_true rfl) (fun S2 H locs hp hw hfr hnw => ?_)
  obtain ⟨j1, j2, j3, j4, ci_tsz⟩ := hp
  generalize eq_Sp_31_3 : S2 = Sp_31_3 at j1 j2 j3 j4 ci_tsz hw
  have hat_x : At Sp_31_3 x 11 := ⟨by rw [j1]; exact hat_x.1, by rw [j2]; exact hat_x.2⟩
  have hat_tp : At Sp_31_3 tp 10 := ⟨by rw [j1]; exact hat_tp.1, by rw [j2]; exact hat_tp.2⟩
  have hat_tb : At Sp_31_3 tb 13 := ⟨by rw [j1]; exact hat_tb.1, by rw [j2]; exact hat_tb.2⟩
  have rf_tp : pR Sp_31_3 1105 x = some tp := by rw [j3]; exact rf_tp
  have rf_tb : pR Sp_31_3 1003 tp = some tb := by rw [j3]; exact rf_tb
  have ln_tb : pN Sp_31_3 tb = 400 := by rw [j4]; exact ln_tb
  refine lv_aload_n X.1 X.2.1 dX11_feed_34 rfl (lv_at hl 0 rfl) ?_
  refine r_getR (g := 1105) X hw hat_x 5 rf_tp (by decide) rfl inn_X11_feed_11 (by decide) (X.2.2.2.1 (.fieldLink RX11 28 "SilkMill" "tape" "LSilkMill$Tape;") (by decide +kernel)) rfl (gv_1105 _ _) dX11_feed_35 ?_
  refine lv_iload_n X.1 X.2.1 dX11_feed_38 rfl (lv_at hl 3 rfl) ?_
  refine k_v (rm := { frames := 1, cells := 0, slots := 0, locals := 40 }) (av := [.ref tp, .int (a3)]) X hw (va_runV (As := [.int (a3)]) (rest := []) (cfix X) (c_X10_append_8 l G cy Sp_31_3 _ tp (a3) tb hat_tp ci_tsz rf_tb hat_tb ln_tb) (cwV 1 X.2.2.2.1 gX11_feed_X10_append rfl rfl rfl (by decide +kernel) ⟨Nat.le_of_ble_eq_true rfl, Nat.le_of_ble_eq_true rfl⟩) (pre_V X hw _ hat_tp (by decide) rfl) rfl rfl hl.1 rfl (lv_room (Nat.le_of_ble_eq_true rfl)) dX11_feed_39 ⟨Nat.le_of_ble_eq_true rfl, Nat.le_of_ble_eq_true rfl⟩) 0 0 (Nat.le_of_ble_eq_true rfl) (Nat.le_of_ble_eq_true rfl) (fun S2 H locs hp hw hfr hnw => ?_)
  obtain ⟨j1, j2, j3, j4, ci_tsz⟩ := hp
  generalize eq_Sp_39_4 : S2 = Sp_39_4 at j1 j2 j3 j4 ci_tsz hw
  have hat_x : At Sp_39_4 x 11 := ⟨by rw [j1]; exact hat_x.1, by rw [j2]; exact hat_x.2⟩
  have hat_tp : At Sp_39_4 tp 10 := ⟨by rw [j1]; exact hat_tp.1, by rw [j2]; exact hat_tp.2⟩
  have hat_tb : At Sp_39_4 tb 13 := ⟨by rw [j1]; exact hat_tb.1, by rw [j2]; exact hat_tb.2⟩
  have rf_tp : pR Sp_39_4 1105 x = some tp := by rw [j3]; exact rf_tp
  have rf_tb : pR Sp_39_4 1003 tp = some tb := by rw [j3]; exact rf_tb
  have ln_tb : pN Sp_39_4 tb = 400 := by rw [j4]; exact ln_tb
  refine lv_aload_n X.1 X.2.1 dX11_feed_42 rfl (lv_at hl 0 rfl) ?_
  refine r_getR (g := 1105) X hw hat_x 5 rf_tp (by decide) rfl inn_X11_feed_11 (by decide) (X.2.2.2.1 (.fieldLink RX11 28 "SilkMill" "tape" "LSilkMill$Tape;") (by decide +kernel)) rfl (gv_1105 _ _) dX11_feed_43 ?_
  refine lv_iload X.1 X.2.1 dX11_feed_46 (lv_at hl 4 rfl) ?_
  refine k_v (rm := { frames := 1, cells := 0, slots := 0, locals := 40 }) (av := [.ref tp, .int (a4)]) X hw (va_runV (As := [.int (a4)]) (rest := []) (cfix X) (c_X10_append_12 l G cy Sp_39_4 _ tp (a4) tb hat_tp ci_tsz rf_tb hat_tb ln_tb) (cwV 1 X.2.2.2.1 gX11_feed_X10_append rfl rfl rfl (by decide +kernel) ⟨Nat.le_of_ble_eq_true rfl, Nat.le_of_ble_eq_true rfl⟩) (pre_V X hw _ hat_tp (by decide) rfl) rfl rfl hl.1 rfl (lv_room (Nat.le_of_ble_eq_true rfl)) dX11_feed_48 ⟨Nat.le_of_ble_eq_true rfl, Nat.le_of_ble_eq_true rfl⟩) 0 0 (Nat.le_of_ble_eq_true rfl) (Nat.le_of_ble_eq_true rfl) (fun S2 H locs hp hw hfr hnw => ?_)
  obtain ⟨j1, j2, j3, j4, ci_tsz⟩ := hp
  generalize eq_Sp_48_5 : S2 = Sp_48_5 at j1 j2 j3 j4 ci_tsz hw
  have hat_x : At Sp_48_5 x 11 := ⟨by rw [j1]; exact hat_x.1, by rw [j2]; exact hat_x.2⟩
  have hat_tp : At Sp_48_5 tp 10 := ⟨by rw [j1]; exact hat_tp.1, by rw [j2]; exact hat_tp.2⟩
  have hat_tb : At Sp_48_5 tb 13 := ⟨by rw [j1]; exact hat_tb.1, by rw [j2]; exact hat_tb.2⟩
  have rf_tp : pR Sp_48_5 1105 x = some tp := by rw [j3]; exact rf_tp
  have rf_tb : pR Sp_48_5 1003 tp = some tb := by rw [j3]; exact rf_tb
  have ln_tb : pN Sp_48_5 tb = 400 := by rw [j4]; exact ln_tb
  refine lv_aload_n X.1 X.2.1 dX11_feed_51 rfl (lv_at hl 0 rfl) ?_
  refine r_getR (g := 1105) X hw hat_x 5 rf_tp (by decide) rfl inn_X11_feed_11 (by decide) (X.2.2.2.1 (.fieldLink RX11 28 "SilkMill" "tape" "LSilkMill$Tape;") (by decide +kernel)) rfl (gv_1105 _ _) dX11_feed_52 ?_
  refine lv_iload X.1 X.2.1 dX11_feed_55 (lv_at hl 5 rfl) ?_
  refine k_v (rm := { frames := 1, cells := 0, slots := 0, locals := 40 }) (av := [.ref tp, .int (a5)]) X hw (va_runV (As := [.int (a5)]) (rest := []) (cfix X) (c_X10_append_16 l G cy Sp_48_5 _ tp (a5) tb hat_tp ci_tsz rf_tb hat_tb ln_tb) (cwV 1 X.2.2.2.1 gX11_feed_X10_append rfl rfl rfl (by decide +kernel) ⟨Nat.le_of_ble_eq_true rfl, Nat.le_of_ble_eq_true rfl⟩) (pre_V X hw _ hat_tp (by decide) rfl) rfl rfl hl.1 rfl (lv_room (Nat.le_of_ble_eq_true rfl)) dX11_feed_57 ⟨Nat.le_of_ble_eq_true rfl, Nat.le_of_ble_eq_true rfl⟩) 0 0 (Nat.le_of_ble_eq_true rfl) (Nat.le_of_ble_eq_true rfl) (fun S2 H locs hp hw hfr hnw => ?_)
  obtain ⟨j1, j2, j3, j4, ci_tsz⟩ := hp
  generalize eq_Sp_57_6 : S2 = Sp_57_6 at j1 j2 j3 j4 ci_tsz hw
  have hat_x : At Sp_57_6 x 11 := ⟨by rw [j1]; exact hat_x.1, by rw [j2]; exact hat_x.2⟩
  have hat_tp : At Sp_57_6 tp 10 := ⟨by rw [j1]; exact hat_tp.1, by rw [j2]; exact hat_tp.2⟩
  have hat_tb : At Sp_57_6 tb 13 := ⟨by rw [j1]; exact hat_tb.1, by rw [j2]; exact hat_tb.2⟩
  have rf_tp : pR Sp_57_6 1105 x = some tp := by rw [j3]; exact rf_tp
  have rf_tb : pR Sp_57_6 1003 tp = some tb := by rw [j3]; exact rf_tb
  have ln_tb : pN Sp_57_6 tb = 400 := by rw [j4]; exact ln_tb
  refine lv_aload_n X.1 X.2.1 dX11_feed_60 rfl (lv_at hl 0 rfl) ?_
  refine r_getR (g := 1105) X hw hat_x 5 rf_tp (by decide) rfl inn_X11_feed_11 (by decide) (X.2.2.2.1 (.fieldLink RX11 28 "SilkMill" "tape" "LSilkMill$Tape;") (by decide +kernel)) rfl (gv_1105 _ _) dX11_feed_61 ?_
  refine r_get (v := .int 20) X hw hat_tp 0 (by decide) rfl inn_X11_feed_10 (by decide) (X.2.2.2.1 (.fieldLink RX11 145 "SilkMill$Tape" "size" "I") (by decide +kernel)) rfl ((gv_1000 _ _).trans (congrArg (fun z => some (Value.int z)) ci_tsz)) dX11_feed_64 ?_
  exact ret_i X hw hr hlocks (Nat.le_of_ble_eq_true rfl) (Nat.le_of_ble_eq_true rfl) rfl dX11_feed_67
set_option maxHeartbeats 4000000 in
set_option maxRecDepth 100000 in
theorem c_X10_forgetFault (l : Launch) (G : va_G) (cy : Nat → ClassId) (S : PS) (sz : Nat) (tp : Nat) (hat_tp : At S tp 10) : Cv l yX10_forgetFault wsX10_forgetFault ({ frames := 1, cells := 0, slots := 0, locals := 40 }) G cy S sz [.ref tp] (fun (S9 : PS) => True) := by
  refine ent_m (cc := cX10_forgetFault) (maxL := 1) (ret := none) (by decide) rfl (Nat.le_of_ble_eq_true rfl) ?_
  intro p e s m below meth c ls X hr hlocks hin hw hl hsz
  subst hsz
  have X : Cx p c cX10_forgetFault 1 s [.ref tp].toArray wsX10_forgetFault RX10 m G cy (AS S s.heap.size) := X
  have hl : lv_has ls 1 [(0, .ref tp)] := hl
  refine lv_aload_n X.1 X.2.1 dX10_forgetFault_0 rfl (lv_at hl 0 rfl) ?_
  refine lv_iconst (v := 0) X.1 X.2.1 dX10_forgetFault_1 (by decide) ?_
  refine r_putI (v := 0) X hw hat_tp 1 1001 tyX10 (by decide) rfl inn_X10_forgetFault_10 tyX10_ok nmX10 (by decide) (X.2.2.2.1 (.fieldLink RX10 22 "SilkMill$Tape" "faultKind" "I") (by decide +kernel)) rfl (Or.inl rfl) rfl rfl (Nat.le_of_ble_eq_true rfl) (st_1001 _ _) dX10_forgetFault_2 (fun H locs hw => ?_)
  generalize eS_1 : sI S 1001 tp 0 = S_1 at hw
  have hat_tp : At S_1 tp 10 := by rw [← eS_1]; exact At_sI hat_tp
  have hc_2 : pI S_1 1001 tp = 0 := by rw [← eS_1]; exact pI_sI_same
  refine lv_aload_n X.1 X.2.1 dX10_forgetFault_5 rfl (lv_at hl 0 rfl) ?_
  refine lv_iconst (v := (-1)) X.1 X.2.1 dX10_forgetFault_6 (by decide) ?_
  refine r_putI (v := (-1)) X hw hat_tp 2 1002 tyX10 (by decide) rfl inn_X10_forgetFault_10 tyX10_ok nmX10 (by decide) (X.2.2.2.1 (.fieldLink RX10 9 "SilkMill$Tape" "faultPlace" "I") (by decide +kernel)) rfl (Or.inl rfl) rfl rfl (Nat.le_of_ble_eq_true rfl) (st_1002 _ _) dX10_forgetFault_7 (fun H locs hw => ?_)
  generalize eS_3 : sI S_1 1002 tp (-1) = S_3 at hw
  have hat_tp : At S_3 tp 10 := by rw [← eS_3]; exact At_sI hat_tp
  have hc_2 : pI S_3 1001 tp = 0 := by rw [← eS_3]; exact (pI_sI_nf (by decide)).trans hc_2
  have hc_4 : pI S_3 1002 tp = (-1) := by rw [← eS_3]; exact pI_sI_same
  exact ret_v X hw hr hlocks (Nat.le_of_ble_eq_true rfl) (Nat.le_of_ble_eq_true rfl) trivial dX10_forgetFault_10
set_option maxHeartbeats 4000000 in
set_option maxRecDepth 100000 in
theorem c_X11_program (l : Launch) (G : va_G) (cy : Nat → ClassId) (S : PS) (sz : Nat) (x : Nat) (a1 : Int32) (hF : FX S x) : Ci l yX11_program wsX11_program ({ frames := 4, cells := 0, slots := 0, locals := 160 }) G cy S sz [.ref x, .int (a1)] (fun (r : Int32) (S9 : PS) => r = -1) := by
  refine ent_m (cc := cX11_program) (maxL := 5) (ret := (some .int)) (by decide) rfl (Nat.le_of_ble_eq_true rfl) ?_
  intro p e s m below meth c ls X hr hlocks hin hw hl hsz
  subst hsz
  have X : Cx p c cX11_program 5 s [.ref x, .int (a1)].toArray wsX11_program RX11 m G cy (AS S s.heap.size) := X
  have hl : lv_has ls 5 [(0, .ref x), (1, .int (a1))] := hl
  have hF0 := hF
  obtain ⟨hat_x, ci_lots, ci_pots, ci_shv, ⟨cs, rf_cs, hat_cs, ln_cs⟩, ⟨lz, rf_lz, hat_lz, ln_lz⟩, ⟨ps, rf_ps, hat_ps, ln_ps⟩, ⟨tp, rf_tp, hat_tp, ci_tsz, ci_tfp, ⟨tb, rf_tb, hat_tb, ln_tb⟩⟩, ⟨st, rf_st, hat_st, ci_st, ⟨pr, rf_pr, hat_pr, ln_pr⟩, ⟨mx, rf_mx, hat_mx⟩⟩, ⟨dr, rf_dr, hat_dr, ci_dsz⟩, sh, rf_sh, hat_sh, ln_sh, hpl⟩ := hF
  have hF := hF0
  refine lv_aload_n X.1 X.2.1 dX11_program_0 rfl (lv_at hl 0 rfl) ?_
  refine lv_iload_n X.1 X.2.1 dX11_program_1 rfl (lv_at hl 1 rfl) ?_
  refine k_q (rm := { frames := 1, cells := 0, slots := 0, locals := 40 }) (av := [.ref x, .int (a1)]) X hw (va_runV (As := [.int (a1)]) (rest := []) (cfix X) (c_X11_potAt l G cy S _ x (a1) hF) (cwV 1 X.2.2.2.1 gX11_program_X11_potAt rfl rfl rfl (by decide +kernel) ⟨Nat.le_of_ble_eq_true rfl, Nat.le_of_ble_eq_true rfl⟩) (pre_V X hw _ hat_x (by decide) rfl) rfl rfl hl.1 rfl (lv_room (Nat.le_of_ble_eq_true rfl)) dX11_program_2 ⟨Nat.le_of_ble_eq_true rfl, Nat.le_of_ble_eq_true rfl⟩) 0 0 (Nat.le_of_ble_eq_true rfl) (Nat.le_of_ble_eq_true rfl) (fun rr_2 S2 H locs hp hw hfr hnw => ?_)
  obtain ⟨e2_2, er_2⟩ := hp
  subst e2_2
  subst er_2
  refine W.eq (g2 := F0 m 5 ls (.null :: [])) rfl ?_
  refine lv_astore_nN (lv' := [(2, .null), (0, .ref x), (1, .int (a1))]) X.1 X.2.1 dX11_program_5 rfl hl (by decide) rfl (fun ls hl => ?_)
  refine lv_aload_nN X.1 X.2.1 dX11_program_6 rfl (lv_at hl 0 rfl) ?_
  refine lv_ifnonnullN X.1 X.2.1 dX11_program_7 ?_
  refine lv_aload_n X.1 X.2.1 dX11_program_10 rfl (lv_at hl 1 rfl) ?_
  refine r_getR (g := 1105) X hw hat_x 5 rf_tp (by decide) rfl inn_X11_program_11 (by decide) (X.2.2.2.1 (.fieldLink RX11 28 "SilkMill" "tape" "LSilkMill$Tape;") (by decide +kernel)) rfl (gv_1105 _ _) dX11_program_11 ?_
  refine k_v (rm := { frames := 1, cells := 0, slots := 0, locals := 40 }) (av := [.ref tp]) X hw (va_runV (As := []) (rest := []) (cfix X) (c_X10_forgetFault l G cy S _ tp hat_tp) (cwV 0 X.2.2.2.1 gX11_program_X10_forgetFault rfl rfl rfl (by decide +kernel) ⟨Nat.le_of_ble_eq_true rfl, Nat.le_of_ble_eq_true rfl⟩) (pre_V X hw _ hat_tp (by decide) rfl) rfl rfl hl.1 rfl (lv_room (Nat.le_of_ble_eq_true rfl)) dX11_program_14 ⟨Nat.le_of_ble_eq_true rfl, Nat.le_of_ble_eq_true rfl⟩) 0 0 (Nat.le_of_ble_eq_true rfl) (Nat.le_of_ble_eq_true rfl) (fun S2 H locs hp hw hfr hnw => ?_)
  refine lv_iconst (v := (-1)) X.1 X.2.1 dX11_program_17 (by decide) ?_
  exact ret_i X hw hr hlocks (Nat.le_of_ble_eq_true rfl) (Nat.le_of_ble_eq_true rfl) rfl dX11_program_18
set_option maxHeartbeats 4000000 in
set_option maxRecDepth 100000 in
theorem c_X11_shelfAt (l : Launch) (G : va_G) (cy : Nat → ClassId) (S : PS) (sz : Nat) (x : Nat) (a1 : Int32) (hF : FX S x) : Cq l yX11_shelfAt wsX11_shelfAt ({ frames := 1, cells := 0, slots := 0, locals := 40 }) G cy S sz [.ref x, .int (a1)] (fun (r : Option Nat) (S9 : PS) => S = S9 ∧ ((wi a1 0 15 ∧ ∃ pl, r = some pl ∧ PlF S pl) ∨ (¬ wi a1 0 15 ∧ r = none))) := by
  refine ent_m (cc := cX11_shelfAt) (maxL := 2) (ret := (some (.object "SilkMill$Place"))) (by decide) rfl (Nat.le_of_ble_eq_true rfl) ?_
  intro p e s m below meth c ls X hr hlocks hin hw hl hsz
  subst hsz
  have X : Cx p c cX11_shelfAt 2 s [.ref x, .int (a1)].toArray wsX11_shelfAt RX11 m G cy (AS S s.heap.size) := X
  have hl : lv_has ls 2 [(0, .ref x), (1, .int (a1))] := hl
  have hF0 := hF
  obtain ⟨hat_x, ci_lots, ci_pots, ci_shv, ⟨cs, rf_cs, hat_cs, ln_cs⟩, ⟨lz, rf_lz, hat_lz, ln_lz⟩, ⟨ps, rf_ps, hat_ps, ln_ps⟩, ⟨tp, rf_tp, hat_tp, ci_tsz, ci_tfp, ⟨tb, rf_tb, hat_tb, ln_tb⟩⟩, ⟨st, rf_st, hat_st, ci_st, ⟨pr, rf_pr, hat_pr, ln_pr⟩, ⟨mx, rf_mx, hat_mx⟩⟩, ⟨dr, rf_dr, hat_dr, ci_dsz⟩, sh, rf_sh, hat_sh, ln_sh, hpl⟩ := hF
  have hF := hF0
  refine lv_iload_n X.1 X.2.1 dX11_shelfAt_0 rfl (lv_at hl 1 rfl) ?_
  refine lv_if_lt (tgt := 10) X.1 X.2.1 dX11_shelfAt_1 (by decide) (fun c_1 => ?_) (fun c_1 => ?_)
  · have z_1 := trivial
    refine lv_null X.1 X.2.1 dX11_shelfAt_10 ?_
    refine lv_goto (tgt := 20) X.1 X.2.1 dX11_shelfAt_11 (by decide) ?_
    exact ret_q none rfl X hw hr hlocks (Nat.le_of_ble_eq_true rfl) (Nat.le_of_ble_eq_true rfl) ⟨rfl, Or.inr ⟨fun h => by first | exact absurd h.1 (Int32.not_le.mpr c_1) | exact absurd (le15_lt h.2) c_7, rfl⟩⟩ dX11_shelfAt_20
  · have z_1 := trivial
    refine lv_iload_n X.1 X.2.1 dX11_shelfAt_4 rfl (lv_at hl 1 rfl) ?_
    refine lv_bipush (v := 16) X.1 X.2.1 dX11_shelfAt_5 (by decide) ?_
    refine lv_icmp_lt (tgt := 14) X.1 X.2.1 dX11_shelfAt_7 (by decide) (fun c_7 => ?_) (fun c_7 => ?_)
    · have z_7 := trivial
      refine lv_aload_n X.1 X.2.1 dX11_shelfAt_14 rfl (lv_at hl 0 rfl) ?_
      refine r_getR (g := 1109) X hw hat_x 9 rf_sh (by decide) rfl inn_X11_shelfAt_11 (by decide) (X.2.2.2.1 (.fieldLink RX11 55 "SilkMill" "shelf" "[LSilkMill$Place;") (by decide +kernel)) rfl (gv_1109 _ _) dX11_shelfAt_15 ?_
      refine lv_iload_n X.1 X.2.1 dX11_shelfAt_18 rfl (lv_at hl 1 rfl) ?_
      refine r_aald X hw hat_sh (by decide) rfl (by rw [ln_sh]; exact wi_vp (hi := 15) ⟨Int32.not_lt.mp c_1, lt16_le c_7⟩ (by decide)) dX11_shelfAt_19 ?_
      obtain ⟨pl, hpl1, hpl2⟩ := hpl _ (vp_lt16 (wi_vp (hi := 15) ⟨Int32.not_lt.mp c_1, lt16_le c_7⟩ (by decide)))
      rw [hpl1]
      exact ret_q (some pl) rfl X hw hr hlocks (Nat.le_of_ble_eq_true rfl) (Nat.le_of_ble_eq_true rfl) ⟨rfl, Or.inl ⟨⟨Int32.not_lt.mp c_1, lt16_le c_7⟩, _, rfl, hpl2⟩⟩ dX11_shelfAt_20
    · have z_7 := trivial
      refine lv_null X.1 X.2.1 dX11_shelfAt_10 ?_
      refine lv_goto (tgt := 20) X.1 X.2.1 dX11_shelfAt_11 (by decide) ?_
      exact ret_q none rfl X hw hr hlocks (Nat.le_of_ble_eq_true rfl) (Nat.le_of_ble_eq_true rfl) ⟨rfl, Or.inr ⟨fun h => by first | exact absurd h.1 (Int32.not_le.mpr c_1) | exact absurd (le15_lt h.2) c_7, rfl⟩⟩ dX11_shelfAt_20
set_option maxHeartbeats 4000000 in
set_option maxRecDepth 100000 in
theorem c_X3_hasRow (l : Launch) (G : va_G) (cy : Nat → ClassId) (S : PS) (sz : Nat) (pl : Nat) (hF : PlF S pl) : Ci l yX3_hasRow wsX3_hasRow ({ frames := 1, cells := 0, slots := 0, locals := 40 }) G cy S sz [.ref pl] (fun (r : Int32) (S9 : PS) => S = S9 ∧ r = 0) := by
  refine ent_m (cc := cX3_hasRow) (maxL := 1) (ret := (some .boolean)) (by decide) rfl (Nat.le_of_ble_eq_true rfl) ?_
  intro p e s m below meth c ls X hr hlocks hin hw hl hsz
  subst hsz
  have X : Cx p c cX3_hasRow 1 s [.ref pl].toArray wsX3_hasRow RX3 m G cy (AS S s.heap.size) := X
  have hl : lv_has ls 1 [(0, .ref pl)] := hl
  obtain ⟨hat_pl, ci_300, ci_301, ⟨wd, rf_wd, hat_wd, ln_wd⟩⟩ := hF
  refine lv_aload_n X.1 X.2.1 dX3_hasRow_0 rfl (lv_at hl 0 rfl) ?_
  refine r_get (v := .int (-1)) X hw hat_pl 0 (by decide) rfl inn_X3_hasRow_3 (by decide) (X.2.2.2.1 (.fieldLink RX3 9 "SilkMill$Place" "kind" "I") (by decide +kernel)) rfl ((gv_300 _ _).trans (congrArg (fun z => some (Value.int z)) ci_300)) dX3_hasRow_1 ?_
  refine lv_iconst (v := 2) X.1 X.2.1 dX3_hasRow_4 (by decide) ?_
  refine lv_icmp_ne (tgt := 19) X.1 X.2.1 dX3_hasRow_5 (by decide) (fun c_5 => ?_) (fun c_5 => absurd c_5 (by decide))
  refine lv_iconst (v := 0) X.1 X.2.1 dX3_hasRow_19 (by decide) ?_
  exact ret_z X hw hr hlocks (Nat.le_of_ble_eq_true rfl) (Nat.le_of_ble_eq_true rfl) (by decide) ⟨rfl, rfl⟩ dX3_hasRow_20
set_option maxHeartbeats 4000000 in
set_option maxRecDepth 100000 in
theorem c_X11_take (l : Launch) (G : va_G) (cy : Nat → ClassId) (S : PS) (sz : Nat) (x : Nat) (a1 : Int32) (a2 : Int32) (hF : FX S x) : Ci l yX11_take wsX11_take ({ frames := 4, cells := 0, slots := 0, locals := 160 }) G cy S sz [.ref x, .int (a1), .int (a2)] (fun (r : Int32) (S9 : PS) => r = takV a1 a2) := by
  refine ent_m (cc := cX11_take) (maxL := 4) (ret := (some .int)) (by decide) rfl (Nat.le_of_ble_eq_true rfl) ?_
  intro p e s m below meth c ls X hr hlocks hin hw hl hsz
  subst hsz
  have X : Cx p c cX11_take 4 s [.ref x, .int (a1), .int (a2)].toArray wsX11_take RX11 m G cy (AS S s.heap.size) := X
  have hl : lv_has ls 4 [(0, .ref x), (1, .int (a1)), (2, .int (a2))] := hl
  have hF0 := hF
  obtain ⟨hat_x, ci_lots, ci_pots, ci_shv, ⟨cs, rf_cs, hat_cs, ln_cs⟩, ⟨lz, rf_lz, hat_lz, ln_lz⟩, ⟨ps, rf_ps, hat_ps, ln_ps⟩, ⟨tp, rf_tp, hat_tp, ci_tsz, ci_tfp, ⟨tb, rf_tb, hat_tb, ln_tb⟩⟩, ⟨st, rf_st, hat_st, ci_st, ⟨pr, rf_pr, hat_pr, ln_pr⟩, ⟨mx, rf_mx, hat_mx⟩⟩, ⟨dr, rf_dr, hat_dr, ci_dsz⟩, sh, rf_sh, hat_sh, ln_sh, hpl⟩ := hF
  have hF := hF0
  refine lv_aload_n X.1 X.2.1 dX11_take_0 rfl (lv_at hl 0 rfl) ?_
  refine lv_iload_n X.1 X.2.1 dX11_take_1 rfl (lv_at hl 1 rfl) ?_
  refine k_q (rm := { frames := 1, cells := 0, slots := 0, locals := 40 }) (av := [.ref x, .int (a1)]) X hw (va_runV (As := [.int (a1)]) (rest := []) (cfix X) (c_X11_shelfAt l G cy S _ x (a1) hF) (cwV 1 X.2.2.2.1 gX11_take_X11_shelfAt rfl rfl rfl (by decide +kernel) ⟨Nat.le_of_ble_eq_true rfl, Nat.le_of_ble_eq_true rfl⟩) (pre_V X hw _ hat_x (by decide) rfl) rfl rfl hl.1 rfl (lv_room (Nat.le_of_ble_eq_true rfl)) dX11_take_2 ⟨Nat.le_of_ble_eq_true rfl, Nat.le_of_ble_eq_true rfl⟩) 0 0 (Nat.le_of_ble_eq_true rfl) (Nat.le_of_ble_eq_true rfl) (fun rr_2 S2 H locs hp hw hfr hnw => ?_)
  obtain ⟨e2_2, hp⟩ := hp
  subst e2_2
  rcases hp with ⟨b_2, pl_2, er_2, hf_pl_2⟩ | ⟨b_2, er_2⟩ <;> subst er_2
  · have z_2 := trivial
    have hfo_pl_2 := hf_pl_2
    obtain ⟨hat_pl_2, ci300_pl_2, ci301_pl_2, ⟨wd_pl_2, rf_wd_pl_2, hat_wd_pl_2, ln_wd_pl_2⟩⟩ := hf_pl_2
    refine W.eq (g2 := F0 m 5 ls (.ref pl_2 :: [])) rfl ?_
    refine lv_astore_n (lv' := [(3, .ref pl_2), (0, .ref x), (1, .int (a1)), (2, .int (a2))]) X.1 X.2.1 dX11_take_5 rfl hl (by decide) rfl (fun ls hl => ?_)
    refine lv_aload_n X.1 X.2.1 dX11_take_6 rfl (lv_at hl 0 rfl) ?_
    refine lv_ifnull X.1 X.2.1 dX11_take_7 ?_
    refine lv_iload_n X.1 X.2.1 dX11_take_10 rfl (lv_at hl 3 rfl) ?_
    refine lv_iconst (v := 0) X.1 X.2.1 dX11_take_11 (by decide) ?_
    refine lv_iconst (v := 2) X.1 X.2.1 dX11_take_12 (by decide) ?_
    refine k_i (rm := { frames := 1, cells := 0, slots := 0, locals := 40 }) (av := [.int (a2), .int 0, .int 2]) X hw (va_runS (As := [.int (a2), .int 0, .int 2]) (rest := []) (cfix X) (c_X11_isWithin l G cy S _ (a2) (0) (2)) (cwS 3 X.2.2.2.1 gX11_take_X11_isWithin rfl rfl rfl (by decide +kernel) ⟨Nat.le_of_ble_eq_true rfl, Nat.le_of_ble_eq_true rfl⟩) (pre_S X hw _) rfl rfl hl.1 rfl (lv_room (Nat.le_of_ble_eq_true rfl)) dX11_take_13 ⟨Nat.le_of_ble_eq_true rfl, Nat.le_of_ble_eq_true rfl⟩) 0 0 (Nat.le_of_ble_eq_true rfl) (Nat.le_of_ble_eq_true rfl) (fun rr_13 S2 H locs hp hw hfr hnw => ?_)
    obtain ⟨e2_13, hp⟩ := hp
    subst e2_13
    rcases hp with ⟨b_13, er_13⟩ | ⟨b_13, er_13⟩ <;> subst er_13
    · have z_13 := trivial
      refine lv_if_ne (tgt := 21) X.1 X.2.1 dX11_take_16 (by decide) (fun c_16 => ?_) (fun c_16 => absurd c_16 (by decide))
      refine lv_aload_n X.1 X.2.1 dX11_take_21 rfl (lv_at hl 0 rfl) ?_
      refine r_get (v := .int (-1)) X hw hat_pl_2 0 (by decide) rfl inn_X11_take_3 (by decide) (X.2.2.2.1 (.fieldLink RX11 307 "SilkMill$Place" "kind" "I") (by decide +kernel)) rfl ((gv_300 _ _).trans (congrArg (fun z => some (Value.int z)) ci300_pl_2)) dX11_take_22 ?_
      refine lv_iconst (v := (-1)) X.1 X.2.1 dX11_take_25 (by decide) ?_
      refine lv_icmp_ne (tgt := 32) X.1 X.2.1 dX11_take_26 (by decide) (fun c_26 => absurd c_26 (by decide)) (fun c_26 => ?_)
      refine lv_bipush (v := (-2)) X.1 X.2.1 dX11_take_29 (by decide) ?_
      exact ret_i X hw hr hlocks (Nat.le_of_ble_eq_true rfl) (Nat.le_of_ble_eq_true rfl) (if_pos ⟨b_2, b_13⟩).symm dX11_take_31
    · have z_13 := trivial
      refine lv_if_ne (tgt := 21) X.1 X.2.1 dX11_take_16 (by decide) (fun c_16 => absurd c_16 (by decide)) (fun c_16 => ?_)
      refine lv_iconst (v := (-1)) X.1 X.2.1 dX11_take_19 (by decide) ?_
      exact ret_i X hw hr hlocks (Nat.le_of_ble_eq_true rfl) (Nat.le_of_ble_eq_true rfl) (if_neg (fun h => b_13 h.2)).symm dX11_take_20
  · have z_2 := trivial
    refine W.eq (g2 := F0 m 5 ls (.null :: [])) rfl ?_
    refine lv_astore_nN (lv' := [(3, .null), (0, .ref x), (1, .int (a1)), (2, .int (a2))]) X.1 X.2.1 dX11_take_5 rfl hl (by decide) rfl (fun ls hl => ?_)
    refine lv_aload_nN X.1 X.2.1 dX11_take_6 rfl (lv_at hl 0 rfl) ?_
    refine lv_ifnullN (tgt := 19) X.1 X.2.1 dX11_take_7 (by decide) ?_
    refine lv_iconst (v := (-1)) X.1 X.2.1 dX11_take_19 (by decide) ?_
    exact ret_i X hw hr hlocks (Nat.le_of_ble_eq_true rfl) (Nat.le_of_ble_eq_true rfl) (if_neg (fun h => b_2 h.1)).symm dX11_take_20
set_option maxHeartbeats 4000000 in
set_option maxRecDepth 100000 in
theorem c_X11_copy (l : Launch) (G : va_G) (cy : Nat → ClassId) (S : PS) (sz : Nat) (x : Nat) (a1 : Int32) (a2 : Int32) (a3 : Int32) (a4 : Int32) (a5 : Int32) (hF : FX S x) : Ci l yX11_copy wsX11_copy ({ frames := 4, cells := 0, slots := 0, locals := 160 }) G cy S sz [.ref x, .int (a1), .int (a2), .int (a3), .int (a4), .int (a5)] (fun (r : Int32) (S9 : PS) => r = 0) := by
  refine ent_m (cc := cX11_copy) (maxL := 8) (ret := (some .boolean)) (by decide) rfl (Nat.le_of_ble_eq_true rfl) ?_
  intro p e s m below meth c ls X hr hlocks hin hw hl hsz
  subst hsz
  have X : Cx p c cX11_copy 8 s [.ref x, .int (a1), .int (a2), .int (a3), .int (a4), .int (a5)].toArray wsX11_copy RX11 m G cy (AS S s.heap.size) := X
  have hl : lv_has ls 8 [(0, .ref x), (1, .int (a1)), (2, .int (a2)), (3, .int (a3)), (4, .int (a4)), (5, .int (a5))] := hl
  have hF0 := hF
  obtain ⟨hat_x, ci_lots, ci_pots, ci_shv, ⟨cs, rf_cs, hat_cs, ln_cs⟩, ⟨lz, rf_lz, hat_lz, ln_lz⟩, ⟨ps, rf_ps, hat_ps, ln_ps⟩, ⟨tp, rf_tp, hat_tp, ci_tsz, ci_tfp, ⟨tb, rf_tb, hat_tb, ln_tb⟩⟩, ⟨st, rf_st, hat_st, ci_st, ⟨pr, rf_pr, hat_pr, ln_pr⟩, ⟨mx, rf_mx, hat_mx⟩⟩, ⟨dr, rf_dr, hat_dr, ci_dsz⟩, sh, rf_sh, hat_sh, ln_sh, hpl⟩ := hF
  have hF := hF0
  refine lv_aload_n X.1 X.2.1 dX11_copy_0 rfl (lv_at hl 0 rfl) ?_
  refine lv_iload_n X.1 X.2.1 dX11_copy_1 rfl (lv_at hl 1 rfl) ?_
  refine k_q (rm := { frames := 1, cells := 0, slots := 0, locals := 40 }) (av := [.ref x, .int (a1)]) X hw (va_runV (As := [.int (a1)]) (rest := []) (cfix X) (c_X11_shelfAt l G cy S _ x (a1) hF) (cwV 1 X.2.2.2.1 gX11_copy_X11_shelfAt rfl rfl rfl (by decide +kernel) ⟨Nat.le_of_ble_eq_true rfl, Nat.le_of_ble_eq_true rfl⟩) (pre_V X hw _ hat_x (by decide) rfl) rfl rfl hl.1 rfl (lv_room (Nat.le_of_ble_eq_true rfl)) dX11_copy_2 ⟨Nat.le_of_ble_eq_true rfl, Nat.le_of_ble_eq_true rfl⟩) 0 0 (Nat.le_of_ble_eq_true rfl) (Nat.le_of_ble_eq_true rfl) (fun rr_2 S2 H locs hp hw hfr hnw => ?_)
  obtain ⟨e2_2, hp⟩ := hp
  subst e2_2
  rcases hp with ⟨b_2, pl_2, er_2, hf_pl_2⟩ | ⟨b_2, er_2⟩ <;> subst er_2
  · have z_2 := trivial
    have hfo_pl_2 := hf_pl_2
    obtain ⟨hat_pl_2, ci300_pl_2, ci301_pl_2, ⟨wd_pl_2, rf_wd_pl_2, hat_wd_pl_2, ln_wd_pl_2⟩⟩ := hf_pl_2
    refine W.eq (g2 := F0 m 5 ls (.ref pl_2 :: [])) rfl ?_
    refine lv_astore (lv' := [(6, .ref pl_2), (0, .ref x), (1, .int (a1)), (2, .int (a2)), (3, .int (a3)), (4, .int (a4)), (5, .int (a5))]) X.1 X.2.1 dX11_copy_5 hl (by decide) rfl (fun ls hl => ?_)
    refine lv_aload_n X.1 X.2.1 dX11_copy_7 rfl (lv_at hl 1 rfl) ?_
    refine lv_iload_n X.1 X.2.1 dX11_copy_8 rfl (lv_at hl 4 rfl) ?_
    refine k_q (rm := { frames := 1, cells := 0, slots := 0, locals := 40 }) (av := [.ref x, .int (a3)]) X hw (va_runV (As := [.int (a3)]) (rest := []) (cfix X) (c_X11_shelfAt l G cy S _ x (a3) hF) (cwV 1 X.2.2.2.1 gX11_copy_X11_shelfAt rfl rfl rfl (by decide +kernel) ⟨Nat.le_of_ble_eq_true rfl, Nat.le_of_ble_eq_true rfl⟩) (pre_V X hw _ hat_x (by decide) rfl) rfl rfl hl.1 rfl (lv_room (Nat.le_of_ble_eq_true rfl)) dX11_copy_9 ⟨Nat.le_of_ble_eq_true rfl, Nat.le_of_ble_eq_true rfl⟩) 0 0 (Nat.le_of_ble_eq_true rfl) (Nat.le_of_ble_eq_true rfl) (fun rr_9 S2 H locs hp hw hfr hnw => ?_)
    obtain ⟨e2_9, hp⟩ := hp
    subst e2_9
    rcases hp with ⟨b_9, pl_9, er_9, hf_pl_9⟩ | ⟨b_9, er_9⟩ <;> subst er_9
    · have z_9 := trivial
      have hfo_pl_9 := hf_pl_9
      obtain ⟨hat_pl_9, ci300_pl_9, ci301_pl_9, ⟨wd_pl_9, rf_wd_pl_9, hat_wd_pl_9, ln_wd_pl_9⟩⟩ := hf_pl_9
      refine W.eq (g2 := F0 m 12 ls (.ref pl_9 :: [])) rfl ?_
      refine lv_astore (lv' := [(7, .ref pl_9), (6, .ref pl_2), (0, .ref x), (1, .int (a1)), (2, .int (a2)), (3, .int (a3)), (4, .int (a4)), (5, .int (a5))]) X.1 X.2.1 dX11_copy_12 hl (by decide) rfl (fun ls hl => ?_)
      refine lv_aload X.1 X.2.1 dX11_copy_14 (lv_at hl 1 rfl) ?_
      refine lv_ifnull X.1 X.2.1 dX11_copy_16 ?_
      refine lv_aload X.1 X.2.1 dX11_copy_19 (lv_at hl 0 rfl) ?_
      refine lv_ifnull X.1 X.2.1 dX11_copy_21 ?_
      refine lv_aload X.1 X.2.1 dX11_copy_24 (lv_at hl 1 rfl) ?_
      refine k_i (rm := { frames := 1, cells := 0, slots := 0, locals := 40 }) (av := [.ref pl_2]) X hw (va_runV (As := []) (rest := []) (cfix X) (c_X3_hasRow l G cy S _ pl_2 hfo_pl_2) (cwV 0 X.2.2.2.1 gX11_copy_X3_hasRow rfl rfl rfl (by decide +kernel) ⟨Nat.le_of_ble_eq_true rfl, Nat.le_of_ble_eq_true rfl⟩) (pre_V X hw _ hat_pl_2 (by decide) rfl) rfl rfl hl.1 rfl (lv_room (Nat.le_of_ble_eq_true rfl)) dX11_copy_26 ⟨Nat.le_of_ble_eq_true rfl, Nat.le_of_ble_eq_true rfl⟩) 0 0 (Nat.le_of_ble_eq_true rfl) (Nat.le_of_ble_eq_true rfl) (fun rr_26 S2 H locs hp hw hfr hnw => ?_)
      obtain ⟨e2_26, er_26⟩ := hp
      subst e2_26
      subst er_26
      refine lv_if_eq (tgt := 40) X.1 X.2.1 dX11_copy_29 (by decide) (fun c_29 => ?_) (fun c_29 => absurd c_29 (by decide))
      refine lv_iconst (v := 0) X.1 X.2.1 dX11_copy_40 (by decide) ?_
      exact ret_z X hw hr hlocks (Nat.le_of_ble_eq_true rfl) (Nat.le_of_ble_eq_true rfl) (by decide) rfl dX11_copy_41
    · have z_9 := trivial
      refine W.eq (g2 := F0 m 12 ls (.null :: [])) rfl ?_
      refine lv_astoreN (lv' := [(7, .null), (6, .ref pl_2), (0, .ref x), (1, .int (a1)), (2, .int (a2)), (3, .int (a3)), (4, .int (a4)), (5, .int (a5))]) X.1 X.2.1 dX11_copy_12 hl (by decide) rfl (fun ls hl => ?_)
      refine lv_aload X.1 X.2.1 dX11_copy_14 (lv_at hl 1 rfl) ?_
      refine lv_ifnull X.1 X.2.1 dX11_copy_16 ?_
      refine lv_aloadN X.1 X.2.1 dX11_copy_19 (lv_at hl 0 rfl) ?_
      refine lv_ifnullN (tgt := 40) X.1 X.2.1 dX11_copy_21 (by decide) ?_
      refine lv_iconst (v := 0) X.1 X.2.1 dX11_copy_40 (by decide) ?_
      exact ret_z X hw hr hlocks (Nat.le_of_ble_eq_true rfl) (Nat.le_of_ble_eq_true rfl) (by decide) rfl dX11_copy_41
  · have z_2 := trivial
    refine W.eq (g2 := F0 m 5 ls (.null :: [])) rfl ?_
    refine lv_astoreN (lv' := [(6, .null), (0, .ref x), (1, .int (a1)), (2, .int (a2)), (3, .int (a3)), (4, .int (a4)), (5, .int (a5))]) X.1 X.2.1 dX11_copy_5 hl (by decide) rfl (fun ls hl => ?_)
    refine lv_aload_n X.1 X.2.1 dX11_copy_7 rfl (lv_at hl 1 rfl) ?_
    refine lv_iload_n X.1 X.2.1 dX11_copy_8 rfl (lv_at hl 4 rfl) ?_
    refine k_q (rm := { frames := 1, cells := 0, slots := 0, locals := 40 }) (av := [.ref x, .int (a3)]) X hw (va_runV (As := [.int (a3)]) (rest := []) (cfix X) (c_X11_shelfAt l G cy S _ x (a3) hF) (cwV 1 X.2.2.2.1 gX11_copy_X11_shelfAt rfl rfl rfl (by decide +kernel) ⟨Nat.le_of_ble_eq_true rfl, Nat.le_of_ble_eq_true rfl⟩) (pre_V X hw _ hat_x (by decide) rfl) rfl rfl hl.1 rfl (lv_room (Nat.le_of_ble_eq_true rfl)) dX11_copy_9 ⟨Nat.le_of_ble_eq_true rfl, Nat.le_of_ble_eq_true rfl⟩) 0 0 (Nat.le_of_ble_eq_true rfl) (Nat.le_of_ble_eq_true rfl) (fun rr_9 S2 H locs hp hw hfr hnw => ?_)
    obtain ⟨e2_9, hp⟩ := hp
    subst e2_9
    rcases hp with ⟨b_9, pl_9, er_9, hf_pl_9⟩ | ⟨b_9, er_9⟩ <;> subst er_9
    · have z_9 := trivial
      have hfo_pl_9 := hf_pl_9
      obtain ⟨hat_pl_9, ci300_pl_9, ci301_pl_9, ⟨wd_pl_9, rf_wd_pl_9, hat_wd_pl_9, ln_wd_pl_9⟩⟩ := hf_pl_9
      refine W.eq (g2 := F0 m 12 ls (.ref pl_9 :: [])) rfl ?_
      refine lv_astore (lv' := [(7, .ref pl_9), (6, .null), (0, .ref x), (1, .int (a1)), (2, .int (a2)), (3, .int (a3)), (4, .int (a4)), (5, .int (a5))]) X.1 X.2.1 dX11_copy_12 hl (by decide) rfl (fun ls hl => ?_)
      refine lv_aloadN X.1 X.2.1 dX11_copy_14 (lv_at hl 1 rfl) ?_
      refine lv_ifnullN (tgt := 40) X.1 X.2.1 dX11_copy_16 (by decide) ?_
      refine lv_iconst (v := 0) X.1 X.2.1 dX11_copy_40 (by decide) ?_
      exact ret_z X hw hr hlocks (Nat.le_of_ble_eq_true rfl) (Nat.le_of_ble_eq_true rfl) (by decide) rfl dX11_copy_41
    · have z_9 := trivial
      refine W.eq (g2 := F0 m 12 ls (.null :: [])) rfl ?_
      refine lv_astoreN (lv' := [(7, .null), (6, .null), (0, .ref x), (1, .int (a1)), (2, .int (a2)), (3, .int (a3)), (4, .int (a4)), (5, .int (a5))]) X.1 X.2.1 dX11_copy_12 hl (by decide) rfl (fun ls hl => ?_)
      refine lv_aloadN X.1 X.2.1 dX11_copy_14 (lv_at hl 1 rfl) ?_
      refine lv_ifnullN (tgt := 40) X.1 X.2.1 dX11_copy_16 (by decide) ?_
      refine lv_iconst (v := 0) X.1 X.2.1 dX11_copy_40 (by decide) ?_
      exact ret_z X hw hr hlocks (Nat.le_of_ble_eq_true rfl) (Nat.le_of_ble_eq_true rfl) (by decide) rfl dX11_copy_41
set_option maxHeartbeats 4000000 in
set_option maxRecDepth 100000 in
theorem c_X11_number (l : Launch) (G : va_G) (cy : Nat → ClassId) (S : PS) (sz : Nat) (x : Nat) (a1 : Int32) (a2 : Int32) (hF : FX S x) : Ci l yX11_number wsX11_number ({ frames := 4, cells := 0, slots := 0, locals := 160 }) G cy S sz [.ref x, .int (a1), .int (a2)] (fun (r : Int32) (S9 : PS) => r = -1) := by
  refine ent_m (cc := cX11_number) (maxL := 4) (ret := (some .int)) (by decide) rfl (Nat.le_of_ble_eq_true rfl) ?_
  intro p e s m below meth c ls X hr hlocks hin hw hl hsz
  subst hsz
  have X : Cx p c cX11_number 4 s [.ref x, .int (a1), .int (a2)].toArray wsX11_number RX11 m G cy (AS S s.heap.size) := X
  have hl : lv_has ls 4 [(0, .ref x), (1, .int (a1)), (2, .int (a2))] := hl
  have hF0 := hF
  obtain ⟨hat_x, ci_lots, ci_pots, ci_shv, ⟨cs, rf_cs, hat_cs, ln_cs⟩, ⟨lz, rf_lz, hat_lz, ln_lz⟩, ⟨ps, rf_ps, hat_ps, ln_ps⟩, ⟨tp, rf_tp, hat_tp, ci_tsz, ci_tfp, ⟨tb, rf_tb, hat_tb, ln_tb⟩⟩, ⟨st, rf_st, hat_st, ci_st, ⟨pr, rf_pr, hat_pr, ln_pr⟩, ⟨mx, rf_mx, hat_mx⟩⟩, ⟨dr, rf_dr, hat_dr, ci_dsz⟩, sh, rf_sh, hat_sh, ln_sh, hpl⟩ := hF
  have hF := hF0
  refine lv_aload_n X.1 X.2.1 dX11_number_0 rfl (lv_at hl 0 rfl) ?_
  refine lv_iload_n X.1 X.2.1 dX11_number_1 rfl (lv_at hl 1 rfl) ?_
  refine k_q (rm := { frames := 1, cells := 0, slots := 0, locals := 40 }) (av := [.ref x, .int (a1)]) X hw (va_runV (As := [.int (a1)]) (rest := []) (cfix X) (c_X11_shelfAt l G cy S _ x (a1) hF) (cwV 1 X.2.2.2.1 gX11_number_X11_shelfAt rfl rfl rfl (by decide +kernel) ⟨Nat.le_of_ble_eq_true rfl, Nat.le_of_ble_eq_true rfl⟩) (pre_V X hw _ hat_x (by decide) rfl) rfl rfl hl.1 rfl (lv_room (Nat.le_of_ble_eq_true rfl)) dX11_number_2 ⟨Nat.le_of_ble_eq_true rfl, Nat.le_of_ble_eq_true rfl⟩) 0 0 (Nat.le_of_ble_eq_true rfl) (Nat.le_of_ble_eq_true rfl) (fun rr_2 S2 H locs hp hw hfr hnw => ?_)
  obtain ⟨e2_2, hp⟩ := hp
  subst e2_2
  rcases hp with ⟨b_2, pl_2, er_2, hf_pl_2⟩ | ⟨b_2, er_2⟩ <;> subst er_2
  · have z_2 := trivial
    have hfo_pl_2 := hf_pl_2
    obtain ⟨hat_pl_2, ci300_pl_2, ci301_pl_2, ⟨wd_pl_2, rf_wd_pl_2, hat_wd_pl_2, ln_wd_pl_2⟩⟩ := hf_pl_2
    refine W.eq (g2 := F0 m 5 ls (.ref pl_2 :: [])) rfl ?_
    refine lv_astore_n (lv' := [(3, .ref pl_2), (0, .ref x), (1, .int (a1)), (2, .int (a2))]) X.1 X.2.1 dX11_number_5 rfl hl (by decide) rfl (fun ls hl => ?_)
    refine lv_aload_n X.1 X.2.1 dX11_number_6 rfl (lv_at hl 0 rfl) ?_
    refine lv_ifnull X.1 X.2.1 dX11_number_7 ?_
    refine lv_aload_n X.1 X.2.1 dX11_number_10 rfl (lv_at hl 0 rfl) ?_
    refine k_i (rm := { frames := 1, cells := 0, slots := 0, locals := 40 }) (av := [.ref pl_2]) X hw (va_runV (As := []) (rest := []) (cfix X) (c_X3_hasRow l G cy S _ pl_2 hfo_pl_2) (cwV 0 X.2.2.2.1 gX11_number_X3_hasRow rfl rfl rfl (by decide +kernel) ⟨Nat.le_of_ble_eq_true rfl, Nat.le_of_ble_eq_true rfl⟩) (pre_V X hw _ hat_pl_2 (by decide) rfl) rfl rfl hl.1 rfl (lv_room (Nat.le_of_ble_eq_true rfl)) dX11_number_11 ⟨Nat.le_of_ble_eq_true rfl, Nat.le_of_ble_eq_true rfl⟩) 0 0 (Nat.le_of_ble_eq_true rfl) (Nat.le_of_ble_eq_true rfl) (fun rr_11 S2 H locs hp hw hfr hnw => ?_)
    obtain ⟨e2_11, er_11⟩ := hp
    subst e2_11
    subst er_11
    refine lv_if_eq (tgt := 29) X.1 X.2.1 dX11_number_14 (by decide) (fun c_14 => ?_) (fun c_14 => absurd c_14 (by decide))
    refine lv_iconst (v := (-1)) X.1 X.2.1 dX11_number_29 (by decide) ?_
    exact ret_i X hw hr hlocks (Nat.le_of_ble_eq_true rfl) (Nat.le_of_ble_eq_true rfl) rfl dX11_number_30
  · have z_2 := trivial
    refine W.eq (g2 := F0 m 5 ls (.null :: [])) rfl ?_
    refine lv_astore_nN (lv' := [(3, .null), (0, .ref x), (1, .int (a1)), (2, .int (a2))]) X.1 X.2.1 dX11_number_5 rfl hl (by decide) rfl (fun ls hl => ?_)
    refine lv_aload_nN X.1 X.2.1 dX11_number_6 rfl (lv_at hl 0 rfl) ?_
    refine lv_ifnullN (tgt := 29) X.1 X.2.1 dX11_number_7 (by decide) ?_
    refine lv_iconst (v := (-1)) X.1 X.2.1 dX11_number_29 (by decide) ?_
    exact ret_i X hw hr hlocks (Nat.le_of_ble_eq_true rfl) (Nat.le_of_ble_eq_true rfl) rfl dX11_number_30
set_option maxHeartbeats 4000000 in
set_option maxRecDepth 100000 in
theorem c_X11_price (l : Launch) (G : va_G) (cy : Nat → ClassId) (S : PS) (sz : Nat) (x : Nat) (a1 : Int32) (a2 : Int32) (hF : FX S x) : Ci l yX11_price wsX11_price ({ frames := 4, cells := 0, slots := 0, locals := 160 }) G cy S sz [.ref x, .int (a1), .int (a2)] (fun (r : Int32) (S9 : PS) => r = priV a1 a2) := by
  refine ent_m (cc := cX11_price) (maxL := 3) (ret := (some .boolean)) (by decide) rfl (Nat.le_of_ble_eq_true rfl) ?_
  intro p e s m below meth c ls X hr hlocks hin hw hl hsz
  subst hsz
  have X : Cx p c cX11_price 3 s [.ref x, .int (a1), .int (a2)].toArray wsX11_price RX11 m G cy (AS S s.heap.size) := X
  have hl : lv_has ls 3 [(0, .ref x), (1, .int (a1)), (2, .int (a2))] := hl
  have hF0 := hF
  obtain ⟨hat_x, ci_lots, ci_pots, ci_shv, ⟨cs, rf_cs, hat_cs, ln_cs⟩, ⟨lz, rf_lz, hat_lz, ln_lz⟩, ⟨ps, rf_ps, hat_ps, ln_ps⟩, ⟨tp, rf_tp, hat_tp, ci_tsz, ci_tfp, ⟨tb, rf_tb, hat_tb, ln_tb⟩⟩, ⟨st, rf_st, hat_st, ci_st, ⟨pr, rf_pr, hat_pr, ln_pr⟩, ⟨mx, rf_mx, hat_mx⟩⟩, ⟨dr, rf_dr, hat_dr, ci_dsz⟩, sh, rf_sh, hat_sh, ln_sh, hpl⟩ := hF
  have ci_800 := ci_st 800 (by decide)
  have ci_801 := ci_st 801 (by decide)
  have ci_802 := ci_st 802 (by decide)
  have ci_803 := ci_st 803 (by decide)
  have ci_804 := ci_st 804 (by decide)
  have ci_805 := ci_st 805 (by decide)
  have ci_806 := ci_st 806 (by decide)
  have hF := hF0
  have hFst : StF S st := by obtain ⟨-, -, -, -, -, -, -, -, ⟨t9, h8, h9⟩, -⟩ := hF; rw [h8] at rf_st; cases rf_st; exact h9
  refine lv_iload_n X.1 X.2.1 dX11_price_0 rfl (lv_at hl 1 rfl) ?_
  refine lv_iconst (v := 0) X.1 X.2.1 dX11_price_1 (by decide) ?_
  refine lv_iconst (v := 3) X.1 X.2.1 dX11_price_2 (by decide) ?_
  refine k_i (rm := { frames := 1, cells := 0, slots := 0, locals := 40 }) (av := [.int (a1), .int 0, .int 3]) X hw (va_runS (As := [.int (a1), .int 0, .int 3]) (rest := []) (cfix X) (c_X11_isWithin l G cy S _ (a1) (0) (3)) (cwS 3 X.2.2.2.1 gX11_price_X11_isWithin rfl rfl rfl (by decide +kernel) ⟨Nat.le_of_ble_eq_true rfl, Nat.le_of_ble_eq_true rfl⟩) (pre_S X hw _) rfl rfl hl.1 rfl (lv_room (Nat.le_of_ble_eq_true rfl)) dX11_price_3 ⟨Nat.le_of_ble_eq_true rfl, Nat.le_of_ble_eq_true rfl⟩) 0 0 (Nat.le_of_ble_eq_true rfl) (Nat.le_of_ble_eq_true rfl) (fun rr_3 S2 H locs hp hw hfr hnw => ?_)
  obtain ⟨e2_3, hp⟩ := hp
  subst e2_3
  rcases hp with ⟨b_3, er_3⟩ | ⟨b_3, er_3⟩ <;> subst er_3
  · have z_3 := trivial
    refine lv_if_eq (tgt := 20) X.1 X.2.1 dX11_price_6 (by decide) (fun c_6 => absurd c_6 (by decide)) (fun c_6 => ?_)
    refine lv_iload_n X.1 X.2.1 dX11_price_9 rfl (lv_at hl 2 rfl) ?_
    refine lv_iconst (v := 0) X.1 X.2.1 dX11_price_10 (by decide) ?_
    refine lv_sipush (v := 1000) X.1 X.2.1 dX11_price_11 (by decide) ?_
    refine k_i (rm := { frames := 1, cells := 0, slots := 0, locals := 40 }) (av := [.int (a2), .int 0, .int 1000]) X hw (va_runS (As := [.int (a2), .int 0, .int 1000]) (rest := []) (cfix X) (c_X11_isWithin l G cy S _ (a2) (0) (1000)) (cwS 3 X.2.2.2.1 gX11_price_X11_isWithin rfl rfl rfl (by decide +kernel) ⟨Nat.le_of_ble_eq_true rfl, Nat.le_of_ble_eq_true rfl⟩) (pre_S X hw _) rfl rfl hl.1 rfl (lv_room (Nat.le_of_ble_eq_true rfl)) dX11_price_14 ⟨Nat.le_of_ble_eq_true rfl, Nat.le_of_ble_eq_true rfl⟩) 0 0 (Nat.le_of_ble_eq_true rfl) (Nat.le_of_ble_eq_true rfl) (fun rr_14 S2 H locs hp hw hfr hnw => ?_)
    obtain ⟨e2_14, hp⟩ := hp
    subst e2_14
    rcases hp with ⟨b_14, er_14⟩ | ⟨b_14, er_14⟩ <;> subst er_14
    · have z_14 := trivial
      refine lv_if_ne (tgt := 22) X.1 X.2.1 dX11_price_17 (by decide) (fun c_17 => ?_) (fun c_17 => absurd c_17 (by decide))
      refine lv_aload_n X.1 X.2.1 dX11_price_22 rfl (lv_at hl 0 rfl) ?_
      refine r_getR (g := 1107) X hw hat_x 7 rf_st (by decide) rfl inn_X11_price_11 (by decide) (X.2.2.2.1 (.fieldLink RX11 42 "SilkMill" "store" "LSilkMill$Store;") (by decide +kernel)) rfl (gv_1107 _ _) dX11_price_23 ?_
      refine r_getR (g := 807) X hw hat_st 7 rf_pr (by decide) rfl inn_X11_price_8 (by decide) (X.2.2.2.1 (.fieldLink RX11 339 "SilkMill$Store" "prices" "[I") (by decide +kernel)) rfl (gv_807 _ _) dX11_price_26 ?_
      refine lv_iload_n X.1 X.2.1 dX11_price_29 rfl (lv_at hl 1 rfl) ?_
      refine lv_iload_n X.1 X.2.1 dX11_price_30 rfl (lv_at hl 2 rfl) ?_
      refine r_iast X hw hat_pr (by rw [ln_pr]; exact wi_vp b_3 (by decide)) dX11_price_31 (fun H locs hw => ?_)
      generalize eS_1 : sA S pr (upd (pA S pr) (Int32.toNatClampNeg (a1)) a2) = S_1 at hw
      have hat_x : At S_1 x 11 := by rw [← eS_1]; exact At_sA hat_x
      have hat_st : At S_1 st 8 := by rw [← eS_1]; exact At_sA hat_st
      have hat_pr : At S_1 pr 14 := by rw [← eS_1]; exact At_sA hat_pr
      have rf_st : pR S_1 1107 x = some st := by rw [← eS_1, pR_sA]; exact rf_st
      have rf_pr : pR S_1 807 st = some pr := by rw [← eS_1, pR_sA]; exact rf_pr
      have ci_lots : pI S_1 1102 x = 0 := by rw [← eS_1, pI_sA]; exact ci_lots
      have ci_pots : pI S_1 1104 x = 0 := by rw [← eS_1, pI_sA]; exact ci_pots
      have ci_shv : pI S_1 1110 x = 0 := by rw [← eS_1, pI_sA]; exact ci_shv
      have ci_800 : pI S_1 800 st = 0 := by rw [← eS_1, pI_sA]; exact ci_800
      have ci_801 : pI S_1 801 st = 0 := by rw [← eS_1, pI_sA]; exact ci_801
      have ci_802 : pI S_1 802 st = 0 := by rw [← eS_1, pI_sA]; exact ci_802
      have ci_803 : pI S_1 803 st = 0 := by rw [← eS_1, pI_sA]; exact ci_803
      have ci_804 : pI S_1 804 st = 0 := by rw [← eS_1, pI_sA]; exact ci_804
      have ci_805 : pI S_1 805 st = 0 := by rw [← eS_1, pI_sA]; exact ci_805
      have ci_806 : pI S_1 806 st = 0 := by rw [← eS_1, pI_sA]; exact ci_806
      have ln_pr : pN S_1 pr = 4 := by rw [← eS_1, pN_sA]; exact ln_pr
      refine lv_iconst (v := 1) X.1 X.2.1 dX11_price_32 (by decide) ?_
      exact ret_z X hw hr hlocks (Nat.le_of_ble_eq_true rfl) (Nat.le_of_ble_eq_true rfl) (by decide) (if_pos ⟨b_3, b_14⟩).symm dX11_price_33
    · have z_14 := trivial
      refine lv_if_ne (tgt := 22) X.1 X.2.1 dX11_price_17 (by decide) (fun c_17 => absurd c_17 (by decide)) (fun c_17 => ?_)
      refine lv_iconst (v := 0) X.1 X.2.1 dX11_price_20 (by decide) ?_
      exact ret_z X hw hr hlocks (Nat.le_of_ble_eq_true rfl) (Nat.le_of_ble_eq_true rfl) (by decide) (if_neg (fun h => b_14 h.2)).symm dX11_price_21
  · have z_3 := trivial
    refine lv_if_eq (tgt := 20) X.1 X.2.1 dX11_price_6 (by decide) (fun c_6 => ?_) (fun c_6 => absurd c_6 (by decide))
    refine lv_iconst (v := 0) X.1 X.2.1 dX11_price_20 (by decide) ?_
    exact ret_z X hw hr hlocks (Nat.le_of_ble_eq_true rfl) (Nat.le_of_ble_eq_true rfl) (by decide) (if_neg (fun h => b_3 h.1)).symm dX11_price_21
set_option maxHeartbeats 4000000 in
set_option maxRecDepth 100000 in
theorem c_X2_beginFor (l : Launch) (G : va_G) (cy : Nat → ClassId) (S : PS) (sz : Nat) (mx : Nat) (v : Int32) (hat_mx : At S mx 2) : Cv l yX2_beginFor wsX2_beginFor ({ frames := 1, cells := 0, slots := 0, locals := 40 }) G cy S sz [.ref mx, .int (v)] (fun (S9 : PS) => pL S9 = pL S ∧ pK S9 = pK S ∧ pR S9 = pR S ∧ (∀ g a, a ≠ mx → pI S9 g a = pI S g a) ∧ pI S9 204 mx = 0 ∧ pI S9 205 mx = v ∧ pI S9 207 mx = 0) := by
  refine ent_m (cc := cX2_beginFor) (maxL := 2) (ret := none) (by decide) rfl (Nat.le_of_ble_eq_true rfl) ?_
  intro p e s m below meth c ls X hr hlocks hin hw hl hsz
  subst hsz
  have X : Cx p c cX2_beginFor 2 s [.ref mx, .int (v)].toArray wsX2_beginFor RX2 m G cy (AS S s.heap.size) := X
  have hl : lv_has ls 2 [(0, .ref mx), (1, .int (v))] := hl
  refine lv_aload_n X.1 X.2.1 dX2_beginFor_0 rfl (lv_at hl 0 rfl) ?_
  refine lv_iconst (v := 0) X.1 X.2.1 dX2_beginFor_1 (by decide) ?_
  refine r_putI (v := 0) X hw hat_mx 3 203 tyX2 (by decide) rfl inn_X2_beginFor_2 tyX2_ok nmX2 (by decide) (X.2.2.2.1 (.fieldLink RX2 21 "SilkMill$Mixer" "size" "I") (by decide +kernel)) rfl (Or.inl rfl) rfl rfl (Nat.le_of_ble_eq_true rfl) (st_203 _ _) dX2_beginFor_2 (fun H locs hw => ?_)
  generalize eS_1 : sI S 203 mx 0 = S_1 at hw
  have hat_mx : At S_1 mx 2 := by rw [← eS_1]; exact At_sI hat_mx
  have hc_2 : pI S_1 203 mx = 0 := by rw [← eS_1]; exact pI_sI_same
  refine lv_aload_n X.1 X.2.1 dX2_beginFor_5 rfl (lv_at hl 0 rfl) ?_
  refine lv_iconst (v := 0) X.1 X.2.1 dX2_beginFor_6 (by decide) ?_
  refine r_putI (v := 0) X hw hat_mx 4 204 tyX2 (by decide) rfl inn_X2_beginFor_2 tyX2_ok nmX2 (by decide) (X.2.2.2.1 (.fieldLink RX2 25 "SilkMill$Mixer" "offered" "I") (by decide +kernel)) rfl (Or.inl rfl) rfl rfl (Nat.le_of_ble_eq_true rfl) (st_204 _ _) dX2_beginFor_7 (fun H locs hw => ?_)
  generalize eS_3 : sI S_1 204 mx 0 = S_3 at hw
  have hat_mx : At S_3 mx 2 := by rw [← eS_3]; exact At_sI hat_mx
  have hc_2 : pI S_3 203 mx = 0 := by rw [← eS_3]; exact (pI_sI_nf (by decide)).trans hc_2
  have hc_4 : pI S_3 204 mx = 0 := by rw [← eS_3]; exact pI_sI_same
  refine lv_aload_n X.1 X.2.1 dX2_beginFor_10 rfl (lv_at hl 0 rfl) ?_
  refine lv_iload_n X.1 X.2.1 dX2_beginFor_11 rfl (lv_at hl 1 rfl) ?_
  refine r_putI (v := v) X hw hat_mx 5 205 tyX2 (by decide) rfl inn_X2_beginFor_2 tyX2_ok nmX2 (by decide) (X.2.2.2.1 (.fieldLink RX2 28 "SilkMill$Mixer" "wanted" "I") (by decide +kernel)) rfl (Or.inl rfl) rfl rfl (Nat.le_of_ble_eq_true rfl) (st_205 _ _) dX2_beginFor_12 (fun H locs hw => ?_)
  generalize eS_5 : sI S_3 205 mx v = S_5 at hw
  have hat_mx : At S_5 mx 2 := by rw [← eS_5]; exact At_sI hat_mx
  have hc_2 : pI S_5 203 mx = 0 := by rw [← eS_5]; exact (pI_sI_nf (by decide)).trans hc_2
  have hc_4 : pI S_5 204 mx = 0 := by rw [← eS_5]; exact (pI_sI_nf (by decide)).trans hc_4
  have hc_6 : pI S_5 205 mx = v := by rw [← eS_5]; exact pI_sI_same
  refine lv_aload_n X.1 X.2.1 dX2_beginFor_15 rfl (lv_at hl 0 rfl) ?_
  refine lv_ldc (v := 2147483647) X.1 X.2.1 X.2.2.2.2.1 (X.2.2.2.1 (.constant RX2 33 2147483647) (by decide +kernel)) dX2_beginFor_16 ?_
  refine r_putI (v := 2147483647) X hw hat_mx 6 206 tyX2 (by decide) rfl inn_X2_beginFor_2 tyX2_ok nmX2 (by decide) (X.2.2.2.1 (.fieldLink RX2 34 "SilkMill$Mixer" "bestPrice" "I") (by decide +kernel)) rfl (Or.inl rfl) rfl rfl (Nat.le_of_ble_eq_true rfl) (st_206 _ _) dX2_beginFor_18 (fun H locs hw => ?_)
  generalize eS_7 : sI S_5 206 mx 2147483647 = S_7 at hw
  have hat_mx : At S_7 mx 2 := by rw [← eS_7]; exact At_sI hat_mx
  have hc_2 : pI S_7 203 mx = 0 := by rw [← eS_7]; exact (pI_sI_nf (by decide)).trans hc_2
  have hc_4 : pI S_7 204 mx = 0 := by rw [← eS_7]; exact (pI_sI_nf (by decide)).trans hc_4
  have hc_6 : pI S_7 205 mx = v := by rw [← eS_7]; exact (pI_sI_nf (by decide)).trans hc_6
  have hc_8 : pI S_7 206 mx = 2147483647 := by rw [← eS_7]; exact pI_sI_same
  refine lv_aload_n X.1 X.2.1 dX2_beginFor_21 rfl (lv_at hl 0 rfl) ?_
  refine lv_iconst (v := 0) X.1 X.2.1 dX2_beginFor_22 (by decide) ?_
  refine r_putI (v := 0) X hw hat_mx 7 207 tyX2 (by decide) rfl inn_X2_beginFor_2 tyX2_ok nmX2 (by decide) (X.2.2.2.1 (.fieldLink RX2 37 "SilkMill$Mixer" "bestSet" "I") (by decide +kernel)) rfl (Or.inl rfl) rfl rfl (Nat.le_of_ble_eq_true rfl) (st_207 _ _) dX2_beginFor_23 (fun H locs hw => ?_)
  generalize eS_9 : sI S_7 207 mx 0 = S_9 at hw
  have hat_mx : At S_9 mx 2 := by rw [← eS_9]; exact At_sI hat_mx
  have hc_2 : pI S_9 203 mx = 0 := by rw [← eS_9]; exact (pI_sI_nf (by decide)).trans hc_2
  have hc_4 : pI S_9 204 mx = 0 := by rw [← eS_9]; exact (pI_sI_nf (by decide)).trans hc_4
  have hc_6 : pI S_9 205 mx = v := by rw [← eS_9]; exact (pI_sI_nf (by decide)).trans hc_6
  have hc_8 : pI S_9 206 mx = 2147483647 := by rw [← eS_9]; exact (pI_sI_nf (by decide)).trans hc_8
  have hc_10 : pI S_9 207 mx = 0 := by rw [← eS_9]; exact pI_sI_same
  exact ret_v X hw hr hlocks (Nat.le_of_ble_eq_true rfl) (Nat.le_of_ble_eq_true rfl) (by refine ⟨?_, ?_, ?_, fun g a h => ?_, hc_4, hc_6, hc_10⟩ <;> subst eS_9 eS_7 eS_5 eS_3 eS_1 <;> first | rfl | simp [pI, sI, u2, h]) dX2_beginFor_26
set_option maxHeartbeats 4000000 in
set_option maxRecDepth 100000 in
theorem c_X2_seek (l : Launch) (G : va_G) (cy : Nat → ClassId) (S : PS) (sz : Nat) (mx : Nat) (wv : Int32) (hat_mx : At S mx 2) (ci_205 : pI S 205 mx = wv) (hpos : 0 < wv) : Cv l yX2_seek wsX2_seek ({ frames := 1, cells := 0, slots := 0, locals := 40 }) G cy S sz [.ref mx, .int 0, .int 0, .int 0, .int 0] (fun (S9 : PS) => S = S9) := by
  refine ent_m (cc := cX2_seek) (maxL := 5) (ret := none) (by decide) rfl (Nat.le_of_ble_eq_true rfl) ?_
  intro p e s m below meth c ls X hr hlocks hin hw hl hsz
  subst hsz
  have X : Cx p c cX2_seek 5 s [.ref mx, .int 0, .int 0, .int 0, .int 0].toArray wsX2_seek RX2 m G cy (AS S s.heap.size) := X
  have hl : lv_has ls 5 [(0, .ref mx), (1, .int 0), (2, .int 0), (3, .int 0), (4, .int 0)] := hl
  refine lv_iload_n X.1 X.2.1 dX2_seek_0 rfl (lv_at hl 3 rfl) ?_
  refine lv_aload_n X.1 X.2.1 dX2_seek_1 rfl (lv_at hl 0 rfl) ?_
  refine r_get (v := .int (wv)) X hw hat_mx 5 (by decide) rfl inn_X2_seek_2 (by decide) (X.2.2.2.1 (.fieldLink RX2 28 "SilkMill$Mixer" "wanted" "I") (by decide +kernel)) rfl ((gv_205 _ _).trans (congrArg (fun z => some (Value.int z)) ci_205)) dX2_seek_2 ?_
  refine lv_icmp_lt (tgt := 17) X.1 X.2.1 dX2_seek_5 (by decide) (fun c_5 => ?_) (fun c_5 => absurd hpos c_5)
  exact ret_v X hw hr hlocks (Nat.le_of_ble_eq_true rfl) (Nat.le_of_ble_eq_true rfl) rfl dX2_seek_17
set_option maxHeartbeats 4000000 in
set_option maxRecDepth 100000 in
theorem c_X2_leastPrice (l : Launch) (G : va_G) (cy : Nat → ClassId) (S : PS) (sz : Nat) (mx : Nat) (wv : Int32) (hat_mx : At S mx 2) (ci_204 : pI S 204 mx = 0) (ci_205 : pI S 205 mx = wv) (ci_207 : pI S 207 mx = 0) (hpos : 0 < wv) : Ci l yX2_leastPrice wsX2_leastPrice ({ frames := 2, cells := 0, slots := 0, locals := 80 }) G cy S sz [.ref mx] (fun (r : Int32) (S9 : PS) => S = S9 ∧ r = -1) := by
  refine ent_m (cc := cX2_leastPrice) (maxL := 1) (ret := (some .int)) (by decide) rfl (Nat.le_of_ble_eq_true rfl) ?_
  intro p e s m below meth c ls X hr hlocks hin hw hl hsz
  subst hsz
  have X : Cx p c cX2_leastPrice 1 s [.ref mx].toArray wsX2_leastPrice RX2 m G cy (AS S s.heap.size) := X
  have hl : lv_has ls 1 [(0, .ref mx)] := hl
  refine lv_aload_n X.1 X.2.1 dX2_leastPrice_0 rfl (lv_at hl 0 rfl) ?_
  refine lv_iconst (v := 0) X.1 X.2.1 dX2_leastPrice_1 (by decide) ?_
  refine lv_iconst (v := 0) X.1 X.2.1 dX2_leastPrice_2 (by decide) ?_
  refine lv_aload_n X.1 X.2.1 dX2_leastPrice_3 rfl (lv_at hl 0 rfl) ?_
  refine r_get (v := .int 0) X hw hat_mx 4 (by decide) rfl inn_X2_leastPrice_2 (by decide) (X.2.2.2.1 (.fieldLink RX2 25 "SilkMill$Mixer" "offered" "I") (by decide +kernel)) rfl ((gv_204 _ _).trans (congrArg (fun z => some (Value.int z)) ci_204)) dX2_leastPrice_4 ?_
  refine lv_iconst (v := 0) X.1 X.2.1 dX2_leastPrice_7 (by decide) ?_
  refine k_v (rm := { frames := 1, cells := 0, slots := 0, locals := 40 }) (av := [.ref mx, .int 0, .int 0, .int 0, .int 0]) X hw (va_runS (As := [.ref mx, .int 0, .int 0, .int 0, .int 0]) (rest := []) (cfix X) (c_X2_seek l G cy S _ mx wv hat_mx ci_205 hpos) (cwS 5 X.2.2.2.1 gX2_leastPrice_X2_seek rfl rfl rfl (by decide +kernel) ⟨Nat.le_of_ble_eq_true rfl, Nat.le_of_ble_eq_true rfl⟩) (pre_S X hw _) rfl rfl hl.1 rfl (lv_room (Nat.le_of_ble_eq_true rfl)) dX2_leastPrice_8 ⟨Nat.le_of_ble_eq_true rfl, Nat.le_of_ble_eq_true rfl⟩) 0 0 (Nat.le_of_ble_eq_true rfl) (Nat.le_of_ble_eq_true rfl) (fun S2 H locs hp hw hfr hnw => ?_)
  subst hp
  refine lv_aload_n X.1 X.2.1 dX2_leastPrice_11 rfl (lv_at hl 0 rfl) ?_
  refine r_get (v := .int 0) X hw hat_mx 7 (by decide) rfl inn_X2_leastPrice_2 (by decide) (X.2.2.2.1 (.fieldLink RX2 37 "SilkMill$Mixer" "bestSet" "I") (by decide +kernel)) rfl ((gv_207 _ _).trans (congrArg (fun z => some (Value.int z)) ci_207)) dX2_leastPrice_12 ?_
  refine lv_if_ne (tgt := 22) X.1 X.2.1 dX2_leastPrice_15 (by decide) (fun c_15 => absurd c_15 (by decide)) (fun c_15 => ?_)
  refine lv_iconst (v := (-1)) X.1 X.2.1 dX2_leastPrice_18 (by decide) ?_
  refine lv_goto (tgt := 26) X.1 X.2.1 dX2_leastPrice_19 (by decide) ?_
  exact ret_i X hw hr hlocks (Nat.le_of_ble_eq_true rfl) (Nat.le_of_ble_eq_true rfl) ⟨rfl, rfl⟩ dX2_leastPrice_26
set_option maxHeartbeats 4000000 in
set_option maxRecDepth 100000 in
theorem c_X8_mixFor (l : Launch) (G : va_G) (cy : Nat → ClassId) (S : PS) (sz : Nat) (st : Nat) (a1 : Int32) (a2 : Int32) (a3 : Int32) (a4 : Int32) (hF : StF S st) (hpos : 0 < a1) : Ci l yX8_mixFor wsX8_mixFor ({ frames := 3, cells := 0, slots := 0, locals := 120 }) G cy S sz [.ref st, .int (a1), .int (a2), .int (a3), .int (a4)] (fun (r : Int32) (S9 : PS) => r = -1) := by
  refine ent_m (cc := cX8_mixFor) (maxL := 7) (ret := (some .int)) (by decide) rfl (Nat.le_of_ble_eq_true rfl) ?_
  intro p e s m below meth c ls X hr hlocks hin hw hl hsz
  subst hsz
  have X : Cx p c cX8_mixFor 7 s [.ref st, .int (a1), .int (a2), .int (a3), .int (a4)].toArray wsX8_mixFor RX8 m G cy (AS S s.heap.size) := X
  have hl : lv_has ls 7 [(0, .ref st), (1, .int (a1)), (2, .int (a2)), (3, .int (a3)), (4, .int (a4))] := hl
  obtain ⟨hat_st, ci_st, -, mx, rf_mx, hat_mx⟩ := hF
  have hat_mx : At S mx 2 := hat_mx
  have ci_800 := ci_st 800 (by decide)
  refine lv_aload_n X.1 X.2.1 dX8_mixFor_0 rfl (lv_at hl 0 rfl) ?_
  refine r_getR (g := 812) X hw hat_st 12 rf_mx (by decide) rfl inn_X8_mixFor_8 (by decide) (X.2.2.2.1 (.fieldLink RX8 33 "SilkMill$Store" "mixer" "LSilkMill$Mixer;") (by decide +kernel)) rfl (gv_812 _ _) dX8_mixFor_1 ?_
  refine lv_iload_n X.1 X.2.1 dX8_mixFor_4 rfl (lv_at hl 1 rfl) ?_
  refine k_v (rm := { frames := 1, cells := 0, slots := 0, locals := 40 }) (av := [.ref mx, .int (a1)]) X hw (va_runV (As := [.int (a1)]) (rest := []) (cfix X) (c_X2_beginFor l G cy S _ mx a1 hat_mx) (cwV 1 X.2.2.2.1 gX8_mixFor_X2_beginFor rfl rfl rfl (by decide +kernel) ⟨Nat.le_of_ble_eq_true rfl, Nat.le_of_ble_eq_true rfl⟩) (pre_V X hw _ hat_mx (by decide) rfl) rfl rfl hl.1 rfl (lv_room (Nat.le_of_ble_eq_true rfl)) dX8_mixFor_5 ⟨Nat.le_of_ble_eq_true rfl, Nat.le_of_ble_eq_true rfl⟩) 0 0 (Nat.le_of_ble_eq_true rfl) (Nat.le_of_ble_eq_true rfl) (fun S2 H locs hp hw hfr hnw => ?_)
  obtain ⟨j1, j2, j3, j4, ci_204, ci_205, ci_207⟩ := hp
  have nesm : st ≠ mx := At_ne hat_st hat_mx (by decide)
  generalize eSb : S2 = Sb at j1 j2 j3 j4 ci_204 ci_205 ci_207 hw
  have hat_st : At Sb st 8 := ⟨by rw [j1]; exact hat_st.1, by rw [j2]; exact hat_st.2⟩
  have hat_mx : At Sb mx 2 := ⟨by rw [j1]; exact hat_mx.1, by rw [j2]; exact hat_mx.2⟩
  have rf_mx : pR Sb 812 st = some mx := by rw [j3]; exact rf_mx
  have ci_800 : pI Sb 800 st = 0 := (j4 800 st nesm).trans ci_800
  refine lv_iconst (v := 0) X.1 X.2.1 dX8_mixFor_8 (by decide) ?_
  refine lv_istore (lv' := [(5, .int 0), (0, .ref st), (1, .int (a1)), (2, .int (a2)), (3, .int (a3)), (4, .int (a4))]) X.1 X.2.1 dX8_mixFor_9 hl (by decide) rfl (fun ls hl => ?_)
  refine lv_iload X.1 X.2.1 dX8_mixFor_11 (lv_at hl 0 rfl) ?_
  refine lv_aload_n X.1 X.2.1 dX8_mixFor_13 rfl (lv_at hl 1 rfl) ?_
  refine r_get (v := .int 0) X hw hat_st 0 (by decide) rfl inn_X8_mixFor_8 (by decide) (X.2.2.2.1 (.fieldLink RX8 37 "SilkMill$Store" "kept" "I") (by decide +kernel)) rfl ((gv_800 _ _).trans (congrArg (fun z => some (Value.int z)) ci_800)) dX8_mixFor_14 ?_
  refine lv_icmp_ge (tgt := 88) X.1 X.2.1 dX8_mixFor_17 (by decide) (fun c_17 => ?_) (fun c_17 => absurd c_17 (by decide))
  refine lv_aload_n X.1 X.2.1 dX8_mixFor_88 rfl (lv_at hl 1 rfl) ?_
  refine r_getR (g := 812) X hw hat_st 12 rf_mx (by decide) rfl inn_X8_mixFor_8 (by decide) (X.2.2.2.1 (.fieldLink RX8 33 "SilkMill$Store" "mixer" "LSilkMill$Mixer;") (by decide +kernel)) rfl (gv_812 _ _) dX8_mixFor_89 ?_
  refine k_i (rm := { frames := 2, cells := 0, slots := 0, locals := 80 }) (av := [.ref mx]) X hw (va_runV (As := []) (rest := []) (cfix X) (c_X2_leastPrice l G cy Sb _ mx a1 hat_mx ci_204 ci_205 ci_207 hpos) (cwV 0 X.2.2.2.1 gX8_mixFor_X2_leastPrice rfl rfl rfl (by decide +kernel) ⟨Nat.le_of_ble_eq_true rfl, Nat.le_of_ble_eq_true rfl⟩) (pre_V X hw _ hat_mx (by decide) rfl) rfl rfl hl.1 rfl (lv_room (Nat.le_of_ble_eq_true rfl)) dX8_mixFor_92 ⟨Nat.le_of_ble_eq_true rfl, Nat.le_of_ble_eq_true rfl⟩) 0 0 (Nat.le_of_ble_eq_true rfl) (Nat.le_of_ble_eq_true rfl) (fun rr_92 S2 H locs hp hw hfr hnw => ?_)
  obtain ⟨e2_92, er_92⟩ := hp
  subst e2_92
  subst er_92
  refine lv_istore (lv' := [(5, .int (-1)), (0, .ref st), (1, .int (a1)), (2, .int (a2)), (3, .int (a3)), (4, .int (a4))]) X.1 X.2.1 dX8_mixFor_95 hl (by decide) rfl (fun ls hl => ?_)
  refine lv_iload X.1 X.2.1 dX8_mixFor_97 (lv_at hl 0 rfl) ?_
  refine lv_iconst (v := (-1)) X.1 X.2.1 dX8_mixFor_99 (by decide) ?_
  refine lv_icmp_eq (tgt := 109) X.1 X.2.1 dX8_mixFor_100 (by decide) (fun c_100 => ?_) (fun c_100 => absurd c_100 (by decide))
  refine lv_iload X.1 X.2.1 dX8_mixFor_109 (lv_at hl 0 rfl) ?_
  exact ret_i X hw hr hlocks (Nat.le_of_ble_eq_true rfl) (Nat.le_of_ble_eq_true rfl) rfl dX8_mixFor_111
set_option maxHeartbeats 4000000 in
set_option maxRecDepth 100000 in
theorem c_X11_mix (l : Launch) (G : va_G) (cy : Nat → ClassId) (S : PS) (sz : Nat) (x : Nat) (a1 : Int32) (a2 : Int32) (a3 : Int32) (a4 : Int32) (hF : FX S x) : Ci l yX11_mix wsX11_mix ({ frames := 4, cells := 0, slots := 0, locals := 160 }) G cy S sz [.ref x, .int (a1), .int (a2), .int (a3), .int (a4)] (fun (r : Int32) (S9 : PS) => r = -1) := by
  refine ent_m (cc := cX11_mix) (maxL := 5) (ret := (some .int)) (by decide) rfl (Nat.le_of_ble_eq_true rfl) ?_
  intro p e s m below meth c ls X hr hlocks hin hw hl hsz
  subst hsz
  have X : Cx p c cX11_mix 5 s [.ref x, .int (a1), .int (a2), .int (a3), .int (a4)].toArray wsX11_mix RX11 m G cy (AS S s.heap.size) := X
  have hl : lv_has ls 5 [(0, .ref x), (1, .int (a1)), (2, .int (a2)), (3, .int (a3)), (4, .int (a4))] := hl
  have hF0 := hF
  obtain ⟨hat_x, ci_lots, ci_pots, ci_shv, ⟨cs, rf_cs, hat_cs, ln_cs⟩, ⟨lz, rf_lz, hat_lz, ln_lz⟩, ⟨ps, rf_ps, hat_ps, ln_ps⟩, ⟨tp, rf_tp, hat_tp, ci_tsz, ci_tfp, ⟨tb, rf_tb, hat_tb, ln_tb⟩⟩, ⟨st, rf_st, hat_st, ci_st, ⟨pr, rf_pr, hat_pr, ln_pr⟩, ⟨mx, rf_mx, hat_mx⟩⟩, ⟨dr, rf_dr, hat_dr, ci_dsz⟩, sh, rf_sh, hat_sh, ln_sh, hpl⟩ := hF
  have ci_800 := ci_st 800 (by decide)
  have ci_801 := ci_st 801 (by decide)
  have ci_802 := ci_st 802 (by decide)
  have ci_803 := ci_st 803 (by decide)
  have ci_804 := ci_st 804 (by decide)
  have ci_805 := ci_st 805 (by decide)
  have ci_806 := ci_st 806 (by decide)
  have hF := hF0
  have hFst : StF S st := by obtain ⟨-, -, -, -, -, -, -, -, ⟨t9, h8, h9⟩, -⟩ := hF; rw [h8] at rf_st; cases rf_st; exact h9
  refine lv_iload_n X.1 X.2.1 dX11_mix_0 rfl (lv_at hl 1 rfl) ?_
  refine lv_iconst (v := 1) X.1 X.2.1 dX11_mix_1 (by decide) ?_
  refine lv_icmp_ge (tgt := 9) X.1 X.2.1 dX11_mix_2 (by decide) (fun c_2 => ?_) (fun c_2 => ?_)
  · have z_2 := trivial
    refine lv_aload_n X.1 X.2.1 dX11_mix_9 rfl (lv_at hl 0 rfl) ?_
    refine r_getR (g := 1107) X hw hat_x 7 rf_st (by decide) rfl inn_X11_mix_11 (by decide) (X.2.2.2.1 (.fieldLink RX11 42 "SilkMill" "store" "LSilkMill$Store;") (by decide +kernel)) rfl (gv_1107 _ _) dX11_mix_10 ?_
    refine lv_iload_n X.1 X.2.1 dX11_mix_13 rfl (lv_at hl 1 rfl) ?_
    refine lv_iload_n X.1 X.2.1 dX11_mix_14 rfl (lv_at hl 2 rfl) ?_
    refine lv_iload_n X.1 X.2.1 dX11_mix_15 rfl (lv_at hl 3 rfl) ?_
    refine lv_iload X.1 X.2.1 dX11_mix_16 (lv_at hl 4 rfl) ?_
    refine k_i (rm := { frames := 3, cells := 0, slots := 0, locals := 120 }) (av := [.ref st, .int (a1), .int (a2), .int (a3), .int (a4)]) X hw (va_runV (As := [.int (a1), .int (a2), .int (a3), .int (a4)]) (rest := []) (cfix X) (c_X8_mixFor l G cy S _ st a1 a2 a3 a4 hFst (pos_of c_2)) (cwV 4 X.2.2.2.1 gX11_mix_X8_mixFor rfl rfl rfl (by decide +kernel) ⟨Nat.le_of_ble_eq_true rfl, Nat.le_of_ble_eq_true rfl⟩) (pre_V X hw _ hat_st (by decide) rfl) rfl rfl hl.1 rfl (lv_room (Nat.le_of_ble_eq_true rfl)) dX11_mix_18 ⟨Nat.le_of_ble_eq_true rfl, Nat.le_of_ble_eq_true rfl⟩) 0 0 (Nat.le_of_ble_eq_true rfl) (Nat.le_of_ble_eq_true rfl) (fun rr_18 S2 H locs hp hw hfr hnw => ?_)
    subst hp
    exact ret_i X hw hr hlocks (Nat.le_of_ble_eq_true rfl) (Nat.le_of_ble_eq_true rfl) rfl dX11_mix_21
  · have z_2 := trivial
    refine lv_iconst (v := (-1)) X.1 X.2.1 dX11_mix_5 (by decide) ?_
    refine lv_goto (tgt := 21) X.1 X.2.1 dX11_mix_6 (by decide) ?_
    exact ret_i X hw hr hlocks (Nat.le_of_ble_eq_true rfl) (Nat.le_of_ble_eq_true rfl) rfl dX11_mix_21
set_option maxHeartbeats 4000000 in
set_option maxRecDepth 100000 in
theorem c_X11_silkThatGrows (l : Launch) (G : va_G) (cy : Nat → ClassId) (S : PS) (sz : Nat) (x : Nat) (hF : FX S x) : Ci l yX11_silkThatGrows wsX11_silkThatGrows ({ frames := 4, cells := 0, slots := 0, locals := 160 }) G cy S sz [.ref x] (fun (r : Int32) (S9 : PS) => S = S9 ∧ r = 0) := by
  refine ent_m (cc := cX11_silkThatGrows) (maxL := 4) (ret := (some .int)) (by decide) rfl (Nat.le_of_ble_eq_true rfl) ?_
  intro p e s m below meth c ls X hr hlocks hin hw hl hsz
  subst hsz
  have X : Cx p c cX11_silkThatGrows 4 s [.ref x].toArray wsX11_silkThatGrows RX11 m G cy (AS S s.heap.size) := X
  have hl : lv_has ls 4 [(0, .ref x)] := hl
  have hF0 := hF
  obtain ⟨hat_x, ci_lots, ci_pots, ci_shv, ⟨cs, rf_cs, hat_cs, ln_cs⟩, ⟨lz, rf_lz, hat_lz, ln_lz⟩, ⟨ps, rf_ps, hat_ps, ln_ps⟩, ⟨tp, rf_tp, hat_tp, ci_tsz, ci_tfp, ⟨tb, rf_tb, hat_tb, ln_tb⟩⟩, ⟨st, rf_st, hat_st, ci_st, ⟨pr, rf_pr, hat_pr, ln_pr⟩, ⟨mx, rf_mx, hat_mx⟩⟩, ⟨dr, rf_dr, hat_dr, ci_dsz⟩, sh, rf_sh, hat_sh, ln_sh, hpl⟩ := hF
  have hF := hF0
  refine lv_iconst (v := 0) X.1 X.2.1 dX11_silkThatGrows_0 (by decide) ?_
  refine lv_istore_n (lv' := [(1, .int 0), (0, .ref x)]) X.1 X.2.1 dX11_silkThatGrows_1 rfl hl (by decide) rfl (fun ls hl => ?_)
  refine lv_iconst (v := 0) X.1 X.2.1 dX11_silkThatGrows_2 (by decide) ?_
  refine lv_istore_n (lv' := [(2, .int 0), (1, .int 0), (0, .ref x)]) X.1 X.2.1 dX11_silkThatGrows_3 rfl hl (by decide) rfl (fun ls hl => ?_)
  refine lv_iload_n X.1 X.2.1 dX11_silkThatGrows_4 rfl (lv_at hl 0 rfl) ?_
  refine lv_aload_n X.1 X.2.1 dX11_silkThatGrows_5 rfl (lv_at hl 2 rfl) ?_
  refine r_get (v := .int 0) X hw hat_x 4 (by decide) rfl inn_X11_silkThatGrows_11 (by decide) (X.2.2.2.1 (.fieldLink RX11 124 "SilkMill" "potsMade" "I") (by decide +kernel)) rfl ((gv_1104 _ _).trans (congrArg (fun z => some (Value.int z)) ci_pots)) dX11_silkThatGrows_6 ?_
  refine lv_icmp_ge (tgt := 42) X.1 X.2.1 dX11_silkThatGrows_9 (by decide) (fun c_9 => ?_) (fun c_9 => absurd c_9 (by decide))
  refine lv_iload_n X.1 X.2.1 dX11_silkThatGrows_42 rfl (lv_at hl 1 rfl) ?_
  exact ret_i X hw hr hlocks (Nat.le_of_ble_eq_true rfl) (Nat.le_of_ble_eq_true rfl) ⟨rfl, rfl⟩ dX11_silkThatGrows_43
set_option maxHeartbeats 4000000 in
set_option maxRecDepth 100000 in
theorem c_X11_count (l : Launch) (G : va_G) (cy : Nat → ClassId) (S : PS) (sz : Nat) (x : Nat) (a1 : Int32) (hF : FX S x) : Ci l yX11_count wsX11_count ({ frames := 5, cells := 0, slots := 0, locals := 200 }) G cy S sz [.ref x, .int (a1)] (fun (r : Int32) (S9 : PS) => r = cntV a1) := by
  refine ent_m (cc := cX11_count) (maxL := 2) (ret := (some .int)) (by decide) rfl (Nat.le_of_ble_eq_true rfl) ?_
  intro p e s m below meth c ls X hr hlocks hin hw hl hsz
  subst hsz
  have X : Cx p c cX11_count 2 s [.ref x, .int (a1)].toArray wsX11_count RX11 m G cy (AS S s.heap.size) := X
  have hl : lv_has ls 2 [(0, .ref x), (1, .int (a1))] := hl
  have hF0 := hF
  obtain ⟨hat_x, ci_lots, ci_pots, ci_shv, ⟨cs, rf_cs, hat_cs, ln_cs⟩, ⟨lz, rf_lz, hat_lz, ln_lz⟩, ⟨ps, rf_ps, hat_ps, ln_ps⟩, ⟨tp, rf_tp, hat_tp, ci_tsz, ci_tfp, ⟨tb, rf_tb, hat_tb, ln_tb⟩⟩, ⟨st, rf_st, hat_st, ci_st, ⟨pr, rf_pr, hat_pr, ln_pr⟩, ⟨mx, rf_mx, hat_mx⟩⟩, ⟨dr, rf_dr, hat_dr, ci_dsz⟩, sh, rf_sh, hat_sh, ln_sh, hpl⟩ := hF
  have ci_800 := ci_st 800 (by decide)
  have ci_801 := ci_st 801 (by decide)
  have ci_802 := ci_st 802 (by decide)
  have ci_803 := ci_st 803 (by decide)
  have ci_804 := ci_st 804 (by decide)
  have ci_805 := ci_st 805 (by decide)
  have ci_806 := ci_st 806 (by decide)
  have hF := hF0
  have hFst : StF S st := by obtain ⟨-, -, -, -, -, -, -, -, ⟨t9, h8, h9⟩, -⟩ := hF; rw [h8] at rf_st; cases rf_st; exact h9
  refine lv_iload_n X.1 X.2.1 dX11_count_0 rfl (lv_at hl 1 rfl) ?_
  by_cases w_1 : (a1).toInt < 0 ∨ 11 < (a1).toInt
  · refine lv_tableOut (tgt := 148) X.1 X.2.1 dX11_count_1 w_1 (by decide) ?_
    refine lv_iconst (v := (-1)) X.1 X.2.1 dX11_count_148 (by decide) ?_
    exact ret_i X hw hr hlocks (Nat.le_of_ble_eq_true rfl) (Nat.le_of_ble_eq_true rfl) (by unfold cntV; first | rw [if_pos (by omega)] | rw [if_neg (by omega)]) dX11_count_149
  have w2_1 : (a1).toInt = 0 ∨ (a1).toInt = 1 ∨ (a1).toInt = 2 ∨ (a1).toInt = 3 ∨ (a1).toInt = 4 ∨ (a1).toInt = 5 ∨ (a1).toInt = 6 ∨ (a1).toInt = 7 ∨ (a1).toInt = 8 ∨ (a1).toInt = 9 ∨ (a1).toInt = 10 ∨ (a1).toInt = 11 := by omega
  rcases w2_1 with w3_1 | w3_1 | w3_1 | w3_1 | w3_1 | w3_1 | w3_1 | w3_1 | w3_1 | w3_1 | w3_1 | w3_1
  · refine lv_tableIn (tgt := 64) X.1 X.2.1 dX11_count_1 (by omega) (by omega) (by rw [w3_1]; rfl) (by decide) ?_
    refine lv_aload_n X.1 X.2.1 dX11_count_64 rfl (lv_at hl 0 rfl) ?_
    refine r_get (v := .int 0) X hw hat_x 2 (by decide) rfl inn_X11_count_11 (by decide) (X.2.2.2.1 (.fieldLink RX11 63 "SilkMill" "lots" "I") (by decide +kernel)) rfl ((gv_1102 _ _).trans (congrArg (fun z => some (Value.int z)) ci_lots)) dX11_count_65 ?_
    exact ret_i X hw hr hlocks (Nat.le_of_ble_eq_true rfl) (Nat.le_of_ble_eq_true rfl) (by unfold cntV; first | rw [if_pos (by omega)] | rw [if_neg (by omega)]) dX11_count_68
  · refine lv_tableIn (tgt := 69) X.1 X.2.1 dX11_count_1 (by omega) (by omega) (by rw [w3_1]; rfl) (by decide) ?_
    refine lv_aload_n X.1 X.2.1 dX11_count_69 rfl (lv_at hl 0 rfl) ?_
    refine r_get (v := .int 0) X hw hat_x 4 (by decide) rfl inn_X11_count_11 (by decide) (X.2.2.2.1 (.fieldLink RX11 124 "SilkMill" "potsMade" "I") (by decide +kernel)) rfl ((gv_1104 _ _).trans (congrArg (fun z => some (Value.int z)) ci_pots)) dX11_count_70 ?_
    exact ret_i X hw hr hlocks (Nat.le_of_ble_eq_true rfl) (Nat.le_of_ble_eq_true rfl) (by unfold cntV; first | rw [if_pos (by omega)] | rw [if_neg (by omega)]) dX11_count_73
  · refine lv_tableIn (tgt := 74) X.1 X.2.1 dX11_count_1 (by omega) (by omega) (by rw [w3_1]; rfl) (by decide) ?_
    refine lv_aload_n X.1 X.2.1 dX11_count_74 rfl (lv_at hl 0 rfl) ?_
    refine r_getR (g := 1107) X hw hat_x 7 rf_st (by decide) rfl inn_X11_count_11 (by decide) (X.2.2.2.1 (.fieldLink RX11 42 "SilkMill" "store" "LSilkMill$Store;") (by decide +kernel)) rfl (gv_1107 _ _) dX11_count_75 ?_
    refine r_get (v := .int 0) X hw hat_st 0 (by decide) rfl inn_X11_count_8 (by decide) (X.2.2.2.1 (.fieldLink RX11 359 "SilkMill$Store" "kept" "I") (by decide +kernel)) rfl ((gv_800 _ _).trans (congrArg (fun z => some (Value.int z)) ci_800)) dX11_count_78 ?_
    exact ret_i X hw hr hlocks (Nat.le_of_ble_eq_true rfl) (Nat.le_of_ble_eq_true rfl) (by unfold cntV; first | rw [if_pos (by omega)] | rw [if_neg (by omega)]) dX11_count_81
  · refine lv_tableIn (tgt := 82) X.1 X.2.1 dX11_count_1 (by omega) (by omega) (by rw [w3_1]; rfl) (by decide) ?_
    refine lv_aload_n X.1 X.2.1 dX11_count_82 rfl (lv_at hl 0 rfl) ?_
    refine r_getR (g := 1107) X hw hat_x 7 rf_st (by decide) rfl inn_X11_count_11 (by decide) (X.2.2.2.1 (.fieldLink RX11 42 "SilkMill" "store" "LSilkMill$Store;") (by decide +kernel)) rfl (gv_1107 _ _) dX11_count_83 ?_
    refine r_get (v := .int 0) X hw hat_st 1 (by decide) rfl inn_X11_count_8 (by decide) (X.2.2.2.1 (.fieldLink RX11 349 "SilkMill$Store" "today" "I") (by decide +kernel)) rfl ((gv_801 _ _).trans (congrArg (fun z => some (Value.int z)) ci_801)) dX11_count_86 ?_
    exact ret_i X hw hr hlocks (Nat.le_of_ble_eq_true rfl) (Nat.le_of_ble_eq_true rfl) (by unfold cntV; first | rw [if_pos (by omega)] | rw [if_neg (by omega)]) dX11_count_89
  · refine lv_tableIn (tgt := 90) X.1 X.2.1 dX11_count_1 (by omega) (by omega) (by rw [w3_1]; rfl) (by decide) ?_
    refine lv_aload_n X.1 X.2.1 dX11_count_90 rfl (lv_at hl 0 rfl) ?_
    refine r_getR (g := 1105) X hw hat_x 5 rf_tp (by decide) rfl inn_X11_count_11 (by decide) (X.2.2.2.1 (.fieldLink RX11 28 "SilkMill" "tape" "LSilkMill$Tape;") (by decide +kernel)) rfl (gv_1105 _ _) dX11_count_91 ?_
    refine r_get (v := .int 0) X hw hat_tp 0 (by decide) rfl inn_X11_count_10 (by decide) (X.2.2.2.1 (.fieldLink RX11 145 "SilkMill$Tape" "size" "I") (by decide +kernel)) rfl ((gv_1000 _ _).trans (congrArg (fun z => some (Value.int z)) ci_tsz)) dX11_count_94 ?_
    exact ret_i X hw hr hlocks (Nat.le_of_ble_eq_true rfl) (Nat.le_of_ble_eq_true rfl) (by unfold cntV; first | rw [if_pos (by omega)] | rw [if_neg (by omega)]) dX11_count_97
  · refine lv_tableIn (tgt := 98) X.1 X.2.1 dX11_count_1 (by omega) (by omega) (by rw [w3_1]; rfl) (by decide) ?_
    refine lv_aload_n X.1 X.2.1 dX11_count_98 rfl (lv_at hl 0 rfl) ?_
    refine r_getR (g := 1107) X hw hat_x 7 rf_st (by decide) rfl inn_X11_count_11 (by decide) (X.2.2.2.1 (.fieldLink RX11 42 "SilkMill" "store" "LSilkMill$Store;") (by decide +kernel)) rfl (gv_1107 _ _) dX11_count_99 ?_
    refine r_get (v := .int 0) X hw hat_st 6 (by decide) rfl inn_X11_count_8 (by decide) (X.2.2.2.1 (.fieldLink RX11 362 "SilkMill$Store" "faults" "I") (by decide +kernel)) rfl ((gv_806 _ _).trans (congrArg (fun z => some (Value.int z)) ci_806)) dX11_count_102 ?_
    exact ret_i X hw hr hlocks (Nat.le_of_ble_eq_true rfl) (Nat.le_of_ble_eq_true rfl) (by unfold cntV; first | rw [if_pos (by omega)] | rw [if_neg (by omega)]) dX11_count_105
  · refine lv_tableIn (tgt := 106) X.1 X.2.1 dX11_count_1 (by omega) (by omega) (by rw [w3_1]; rfl) (by decide) ?_
    refine lv_aload_n X.1 X.2.1 dX11_count_106 rfl (lv_at hl 0 rfl) ?_
    refine r_getR (g := 1107) X hw hat_x 7 rf_st (by decide) rfl inn_X11_count_11 (by decide) (X.2.2.2.1 (.fieldLink RX11 42 "SilkMill" "store" "LSilkMill$Store;") (by decide +kernel)) rfl (gv_1107 _ _) dX11_count_107 ?_
    refine r_get (v := .int 0) X hw hat_st 2 (by decide) rfl inn_X11_count_8 (by decide) (X.2.2.2.1 (.fieldLink RX11 365 "SilkMill$Store" "silkDrawn" "I") (by decide +kernel)) rfl ((gv_802 _ _).trans (congrArg (fun z => some (Value.int z)) ci_802)) dX11_count_110 ?_
    exact ret_i X hw hr hlocks (Nat.le_of_ble_eq_true rfl) (Nat.le_of_ble_eq_true rfl) (by unfold cntV; first | rw [if_pos (by omega)] | rw [if_neg (by omega)]) dX11_count_113
  · refine lv_tableIn (tgt := 114) X.1 X.2.1 dX11_count_1 (by omega) (by omega) (by rw [w3_1]; rfl) (by decide) ?_
    refine lv_aload_n X.1 X.2.1 dX11_count_114 rfl (lv_at hl 0 rfl) ?_
    refine r_getR (g := 1107) X hw hat_x 7 rf_st (by decide) rfl inn_X11_count_11 (by decide) (X.2.2.2.1 (.fieldLink RX11 42 "SilkMill" "store" "LSilkMill$Store;") (by decide +kernel)) rfl (gv_1107 _ _) dX11_count_115 ?_
    refine r_get (v := .int 0) X hw hat_st 3 (by decide) rfl inn_X11_count_8 (by decide) (X.2.2.2.1 (.fieldLink RX11 368 "SilkMill$Store" "silkKept" "I") (by decide +kernel)) rfl ((gv_803 _ _).trans (congrArg (fun z => some (Value.int z)) ci_803)) dX11_count_118 ?_
    exact ret_i X hw hr hlocks (Nat.le_of_ble_eq_true rfl) (Nat.le_of_ble_eq_true rfl) (by unfold cntV; first | rw [if_pos (by omega)] | rw [if_neg (by omega)]) dX11_count_121
  · refine lv_tableIn (tgt := 122) X.1 X.2.1 dX11_count_1 (by omega) (by omega) (by rw [w3_1]; rfl) (by decide) ?_
    refine lv_aload_n X.1 X.2.1 dX11_count_122 rfl (lv_at hl 0 rfl) ?_
    refine k_i (rm := { frames := 4, cells := 0, slots := 0, locals := 160 }) (av := [.ref x]) X hw (va_runV (As := []) (rest := []) (cfix X) (c_X11_silkThatGrows l G cy S _ x hF) (cwV 0 X.2.2.2.1 gX11_count_X11_silkThatGrows rfl rfl rfl (by decide +kernel) ⟨Nat.le_of_ble_eq_true rfl, Nat.le_of_ble_eq_true rfl⟩) (pre_V X hw _ hat_x (by decide) rfl) rfl rfl hl.1 rfl (lv_room (Nat.le_of_ble_eq_true rfl)) dX11_count_123 ⟨Nat.le_of_ble_eq_true rfl, Nat.le_of_ble_eq_true rfl⟩) 0 0 (Nat.le_of_ble_eq_true rfl) (Nat.le_of_ble_eq_true rfl) (fun rr_123 S2 H locs hp hw hfr hnw => ?_)
    obtain ⟨e2_123, er_123⟩ := hp
    subst e2_123
    subst er_123
    exact ret_i X hw hr hlocks (Nat.le_of_ble_eq_true rfl) (Nat.le_of_ble_eq_true rfl) (by unfold cntV; first | rw [if_pos (by omega)] | rw [if_neg (by omega)]) dX11_count_126
  · refine lv_tableIn (tgt := 127) X.1 X.2.1 dX11_count_1 (by omega) (by omega) (by rw [w3_1]; rfl) (by decide) ?_
    refine lv_aload_n X.1 X.2.1 dX11_count_127 rfl (lv_at hl 0 rfl) ?_
    refine r_getR (g := 1107) X hw hat_x 7 rf_st (by decide) rfl inn_X11_count_11 (by decide) (X.2.2.2.1 (.fieldLink RX11 42 "SilkMill" "store" "LSilkMill$Store;") (by decide +kernel)) rfl (gv_1107 _ _) dX11_count_128 ?_
    refine r_get (v := .int 0) X hw hat_st 5 (by decide) rfl inn_X11_count_8 (by decide) (X.2.2.2.1 (.fieldLink RX11 374 "SilkMill$Store" "waste" "I") (by decide +kernel)) rfl ((gv_805 _ _).trans (congrArg (fun z => some (Value.int z)) ci_805)) dX11_count_131 ?_
    exact ret_i X hw hr hlocks (Nat.le_of_ble_eq_true rfl) (Nat.le_of_ble_eq_true rfl) (by unfold cntV; first | rw [if_pos (by omega)] | rw [if_neg (by omega)]) dX11_count_134
  · refine lv_tableIn (tgt := 135) X.1 X.2.1 dX11_count_1 (by omega) (by omega) (by rw [w3_1]; rfl) (by decide) ?_
    refine lv_aload_n X.1 X.2.1 dX11_count_135 rfl (lv_at hl 0 rfl) ?_
    refine r_getR (g := 1107) X hw hat_x 7 rf_st (by decide) rfl inn_X11_count_11 (by decide) (X.2.2.2.1 (.fieldLink RX11 42 "SilkMill" "store" "LSilkMill$Store;") (by decide +kernel)) rfl (gv_1107 _ _) dX11_count_136 ?_
    refine r_get (v := .int 0) X hw hat_st 4 (by decide) rfl inn_X11_count_8 (by decide) (X.2.2.2.1 (.fieldLink RX11 377 "SilkMill$Store" "silkThrown" "I") (by decide +kernel)) rfl ((gv_804 _ _).trans (congrArg (fun z => some (Value.int z)) ci_804)) dX11_count_139 ?_
    exact ret_i X hw hr hlocks (Nat.le_of_ble_eq_true rfl) (Nat.le_of_ble_eq_true rfl) (by unfold cntV; first | rw [if_pos (by omega)] | rw [if_neg (by omega)]) dX11_count_142
  · refine lv_tableIn (tgt := 143) X.1 X.2.1 dX11_count_1 (by omega) (by omega) (by rw [w3_1]; rfl) (by decide) ?_
    refine lv_aload_n X.1 X.2.1 dX11_count_143 rfl (lv_at hl 0 rfl) ?_
    refine r_get (v := .int 0) X hw hat_x 10 (by decide) rfl inn_X11_count_11 (by decide) (X.2.2.2.1 (.fieldLink RX11 321 "SilkMill" "shelved" "I") (by decide +kernel)) rfl ((gv_1110 _ _).trans (congrArg (fun z => some (Value.int z)) ci_shv)) dX11_count_144 ?_
    exact ret_i X hw hr hlocks (Nat.le_of_ble_eq_true rfl) (Nat.le_of_ble_eq_true rfl) (by unfold cntV; first | rw [if_pos (by omega)] | rw [if_neg (by omega)]) dX11_count_147
set_option maxHeartbeats 4000000 in
set_option maxRecDepth 100000 in
theorem c_X11_pot (l : Launch) (G : va_G) (cy : Nat → ClassId) (S : PS) (sz : Nat) (x : Nat) (a1 : Int32) (a2 : Int32) (hF : FX S x) : Ci l yX11_pot wsX11_pot ({ frames := 6, cells := 60, slots := 6000, locals := 240 }) G cy S sz [.ref x, .int (a1), .int (a2)] (fun (r : Int32) (S9 : PS) => r = potV a1 a2) := by
  refine ent_m (cc := cX11_pot) (maxL := 3) (ret := (some .int)) (by decide) rfl (Nat.le_of_ble_eq_true rfl) ?_
  intro p e s m below meth c ls X hr hlocks hin hw hl hsz
  subst hsz
  have X : Cx p c cX11_pot 3 s [.ref x, .int (a1), .int (a2)].toArray wsX11_pot RX11 m G cy (AS S s.heap.size) := X
  have hl : lv_has ls 3 [(0, .ref x), (1, .int (a1)), (2, .int (a2))] := hl
  have hF0 := hF
  obtain ⟨hat_x, ci_lots, ci_pots, ci_shv, ⟨cs, rf_cs, hat_cs, ln_cs⟩, ⟨lz, rf_lz, hat_lz, ln_lz⟩, ⟨ps, rf_ps, hat_ps, ln_ps⟩, ⟨tp, rf_tp, hat_tp, ci_tsz, ci_tfp, ⟨tb, rf_tb, hat_tb, ln_tb⟩⟩, ⟨st, rf_st, hat_st, ci_st, ⟨pr, rf_pr, hat_pr, ln_pr⟩, ⟨mx, rf_mx, hat_mx⟩⟩, ⟨dr, rf_dr, hat_dr, ci_dsz⟩, sh, rf_sh, hat_sh, ln_sh, hpl⟩ := hF
  have hF := hF0
  refine lv_aload_n X.1 X.2.1 dX11_pot_0 rfl (lv_at hl 0 rfl) ?_
  refine r_get (v := .int 0) X hw hat_x 4 (by decide) rfl inn_X11_pot_11 (by decide) (X.2.2.2.1 (.fieldLink RX11 124 "SilkMill" "potsMade" "I") (by decide +kernel)) rfl ((gv_1104 _ _).trans (congrArg (fun z => some (Value.int z)) ci_pots)) dX11_pot_1 ?_
  refine lv_iconst (v := 4) X.1 X.2.1 dX11_pot_4 (by decide) ?_
  refine lv_icmp_ge (tgt := 25) X.1 X.2.1 dX11_pot_5 (by decide) (fun c_5 => absurd c_5 (by decide)) (fun c_5 => ?_)
  refine lv_iload_n X.1 X.2.1 dX11_pot_8 rfl (lv_at hl 1 rfl) ?_
  refine k_i (rm := { frames := 2, cells := 0, slots := 0, locals := 80 }) (av := [.int (a1)]) X hw (va_runS (As := [.int (a1)]) (rest := []) (cfix X) (c_X11_isTarget l G cy S _ (a1)) (cwS 1 X.2.2.2.1 gX11_pot_X11_isTarget rfl rfl rfl (by decide +kernel) ⟨Nat.le_of_ble_eq_true rfl, Nat.le_of_ble_eq_true rfl⟩) (pre_S X hw _) rfl rfl hl.1 rfl (lv_room (Nat.le_of_ble_eq_true rfl)) dX11_pot_9 ⟨Nat.le_of_ble_eq_true rfl, Nat.le_of_ble_eq_true rfl⟩) 0 0 (Nat.le_of_ble_eq_true rfl) (Nat.le_of_ble_eq_true rfl) (fun rr_9 S2 H locs hp hw hfr hnw => ?_)
  obtain ⟨e2_9, hp⟩ := hp
  subst e2_9
  rcases hp with ⟨b_9, er_9⟩ | ⟨b_9, er_9⟩ <;> subst er_9
  · have z_9 := trivial
    refine lv_if_eq (tgt := 25) X.1 X.2.1 dX11_pot_12 (by decide) (fun c_12 => absurd c_12 (by decide)) (fun c_12 => ?_)
    refine lv_iload_n X.1 X.2.1 dX11_pot_15 rfl (lv_at hl 2 rfl) ?_
    refine lv_iconst (v := 1) X.1 X.2.1 dX11_pot_16 (by decide) ?_
    refine lv_bipush (v := 50) X.1 X.2.1 dX11_pot_17 (by decide) ?_
    refine k_i (rm := { frames := 1, cells := 0, slots := 0, locals := 40 }) (av := [.int (a2), .int 1, .int 50]) X hw (va_runS (As := [.int (a2), .int 1, .int 50]) (rest := []) (cfix X) (c_X11_isWithin l G cy S _ (a2) (1) (50)) (cwS 3 X.2.2.2.1 gX11_pot_X11_isWithin rfl rfl rfl (by decide +kernel) ⟨Nat.le_of_ble_eq_true rfl, Nat.le_of_ble_eq_true rfl⟩) (pre_S X hw _) rfl rfl hl.1 rfl (lv_room (Nat.le_of_ble_eq_true rfl)) dX11_pot_19 ⟨Nat.le_of_ble_eq_true rfl, Nat.le_of_ble_eq_true rfl⟩) 0 0 (Nat.le_of_ble_eq_true rfl) (Nat.le_of_ble_eq_true rfl) (fun rr_19 S2 H locs hp hw hfr hnw => ?_)
    obtain ⟨e2_19, hp⟩ := hp
    subst e2_19
    rcases hp with ⟨b_19, er_19⟩ | ⟨b_19, er_19⟩ <;> subst er_19
    · have z_19 := trivial
      refine lv_if_ne (tgt := 27) X.1 X.2.1 dX11_pot_22 (by decide) (fun c_22 => ?_) (fun c_22 => absurd c_22 (by decide))
      refine lv_aload_n X.1 X.2.1 dX11_pot_27 rfl (lv_at hl 0 rfl) ?_
      refine r_getR (g := 1103) X hw hat_x 3 rf_ps (by decide) rfl inn_X11_pot_11 (by decide) (X.2.2.2.1 (.fieldLink RX11 21 "SilkMill" "pots" "[LSilkMill$Pot;") (by decide +kernel)) rfl (gv_1103 _ _) dX11_pot_28 ?_
      refine lv_aload_n X.1 X.2.1 dX11_pot_31 rfl (lv_at hl 0 rfl) ?_
      refine r_get (v := .int 0) X hw hat_x 4 (by decide) rfl inn_X11_pot_11 (by decide) (X.2.2.2.1 (.fieldLink RX11 124 "SilkMill" "potsMade" "I") (by decide +kernel)) rfl ((gv_1104 _ _).trans (congrArg (fun z => some (Value.int z)) ci_pots)) dX11_pot_32 ?_
      have hat_x_o := hat_x
      have hat_ps_o := hat_ps
      refine r_new X hw 4 12 1 tyX4 (by decide) rfl inn_X11_pot_4 tyX4_ok (X.2.2.2.1 (.classLink RX11 19 RX4) (by decide +kernel)) (X.2.2.2.1 (.instantiable RX4 12) (by decide +kernel)) (X.2.2.2.1 (.initialized RX4) (by decide +kernel)) zo_4 zd_4 (Nat.le_of_ble_eq_true rfl) (Nat.le_of_ble_eq_true rfl) (Nat.le_of_ble_eq_true rfl) (Nat.le_of_ble_eq_true rfl) dX11_pot_35 (fun q_1 H hq_1 hw => ?_)
      have ne_x_q_1 : x ≠ q_1 := At_old hat_x_o hq_1
      have ne_ps_q_1 : ps ≠ q_1 := At_old hat_ps_o hq_1
      generalize eS_2 : sO S q_1 4 = S_2 at hw
      have hat_x : At S_2 x 11 := by rw [← eS_2]; exact At_sO hat_x hq_1
      have hat_ps : At S_2 ps 18 := by rw [← eS_2]; exact At_sO hat_ps hq_1
      have rf_ps : pR S_2 1103 x = some ps := by rw [← eS_2]; exact (pR_sO_ne (At_old hat_x_o hq_1)).trans rf_ps
      have ci_lots : pI S_2 1102 x = 0 := by rw [← eS_2]; exact (pI_sO_ne (At_old hat_x_o hq_1)).trans ci_lots
      have ci_pots : pI S_2 1104 x = 0 := by rw [← eS_2]; exact (pI_sO_ne (At_old hat_x_o hq_1)).trans ci_pots
      have ci_shv : pI S_2 1110 x = 0 := by rw [← eS_2]; exact (pI_sO_ne (At_old hat_x_o hq_1)).trans ci_shv
      have ln_ps : pN S_2 ps = 4 := by rw [← eS_2, pN_sO]; exact ln_ps
      have ha_3 : At S_2 q_1 4 := by rw [← eS_2]; exact At_nO _ _ _
      have hz_4 : ∀ g, pI S_2 g q_1 = 0 := fun g => by rw [← eS_2]; exact pI_sO_new
      refine lv_dup X.1 X.2.1 dX11_pot_38 rfl ?_
      refine lv_aload_n X.1 X.2.1 dX11_pot_39 rfl (lv_at hl 0 rfl) ?_
      refine r_get (v := .int 0) X hw hat_x 4 (by decide) rfl inn_X11_pot_11 (by decide) (X.2.2.2.1 (.fieldLink RX11 124 "SilkMill" "potsMade" "I") (by decide +kernel)) rfl ((gv_1104 _ _).trans (congrArg (fun z => some (Value.int z)) ci_pots)) dX11_pot_40 ?_
      refine lv_iload_n X.1 X.2.1 dX11_pot_43 rfl (lv_at hl 1 rfl) ?_
      refine lv_iload_n X.1 X.2.1 dX11_pot_44 rfl (lv_at hl 2 rfl) ?_
      refine k_v (rm := { frames := 4, cells := 40, slots := 4000, locals := 160 }) (av := [.ref q_1, .int 0, .int (a1), .int (a2)]) X hw (va_runI (As := [.int 0, .int (a1), .int (a2)]) (rest := [.ref q_1, .int 0, .ref ps]) (cfix X) (c_X4_init l G cy S_2 _ q_1 (0) (a1) (a2) ha_3 hz_4) (cwI 3 X.2.2.2.1 gX11_pot_X4_init rfl rfl rfl (X.2.2.2.1 (.initialized RX4) (by decide +kernel)) (X.2.2.2.1 (.methodLink RX11 131 yX4_init) (by decide +kernel)) (X.2.2.2.1 (.instanceMethod yX4_init) (by decide +kernel)) rfl (by decide +kernel) ⟨Nat.le_of_ble_eq_true rfl, Nat.le_of_ble_eq_true rfl⟩) (pre_S X hw _) rfl rfl hl.1 rfl (lv_room (Nat.le_of_ble_eq_true rfl)) dX11_pot_45 ⟨Nat.le_of_ble_eq_true rfl, Nat.le_of_ble_eq_true rfl⟩) 41 4012 (Nat.le_of_ble_eq_true rfl) (Nat.le_of_ble_eq_true rfl) (fun S2 H locs hp hw hfr hnw => ?_)
      obtain ⟨hk2, hf_q_1⟩ := hp
      generalize eq_Sc_45_5 : S2 = Sc_45_5 at hk2 hf_q_1 hw
      have hat_x_c := hat_x
      have hat_ps_c := hat_ps
      have ha_3_c := ha_3
      have hat_x : At Sc_45_5 x 11 := Kp_at hk2 hat_x_c
      have hat_ps : At Sc_45_5 ps 18 := Kp_at hk2 hat_ps_c
      have ha_3 : At Sc_45_5 q_1 4 := Kp_at hk2 ha_3_c
      have rf_ps : pR Sc_45_5 1103 x = some ps := ((hk2.2 x hat_x_c.1 ne_x_q_1).2.1 1103).trans rf_ps
      have ci_lots : pI Sc_45_5 1102 x = 0 := ((hk2.2 x hat_x_c.1 ne_x_q_1).1 1102).trans ci_lots
      have ci_pots : pI Sc_45_5 1104 x = 0 := ((hk2.2 x hat_x_c.1 ne_x_q_1).1 1104).trans ci_pots
      have ci_shv : pI Sc_45_5 1110 x = 0 := ((hk2.2 x hat_x_c.1 ne_x_q_1).1 1110).trans ci_shv
      have ln_ps : pN Sc_45_5 ps = 4 := ((hk2.2 ps hat_ps_c.1 ne_ps_q_1).2.2.1).trans ln_ps
      refine r_aast X hw hat_ps ha_3 (by decide) (by decide) rfl rfl (by rw [ln_ps]; exact vp_in_iff.mpr (by decide +kernel)) dX11_pot_48 (fun H locs hw => ?_)
      generalize eS_6 : sB Sc_45_5 ps (va_up (pB Sc_45_5 ps) (Int32.toNatClampNeg (0)) (some q_1)) = S_6 at hw
      have hat_x : At S_6 x 11 := by rw [← eS_6]; exact At_sB hat_x
      have hat_ps : At S_6 ps 18 := by rw [← eS_6]; exact At_sB hat_ps
      have ha_3 : At S_6 q_1 4 := by rw [← eS_6]; exact At_sB ha_3
      have rf_ps : pR S_6 1103 x = some ps := by rw [← eS_6, pR_sB]; exact rf_ps
      have ci_lots : pI S_6 1102 x = 0 := by rw [← eS_6, pI_sB]; exact ci_lots
      have ci_pots : pI S_6 1104 x = 0 := by rw [← eS_6, pI_sB]; exact ci_pots
      have ci_shv : pI S_6 1110 x = 0 := by rw [← eS_6, pI_sB]; exact ci_shv
      have ln_ps : pN S_6 ps = 4 := by rw [← eS_6, pN_sB]; exact ln_ps
      refine lv_aload_n X.1 X.2.1 dX11_pot_49 rfl (lv_at hl 0 rfl) ?_
      refine lv_dup X.1 X.2.1 dX11_pot_50 rfl ?_
      refine r_get (v := .int 0) X hw hat_x 4 (by decide) rfl inn_X11_pot_11 (by decide) (X.2.2.2.1 (.fieldLink RX11 124 "SilkMill" "potsMade" "I") (by decide +kernel)) rfl ((gv_1104 _ _).trans (congrArg (fun z => some (Value.int z)) ci_pots)) dX11_pot_51 ?_
      refine lv_iconst (v := 1) X.1 X.2.1 dX11_pot_54 (by decide) ?_
      refine lv_iadd X.1 X.2.1 dX11_pot_55 ?_
      refine lv_topi (fun v_7 ev_7 => ?_)
      obtain rfl : v_7 = 1 := ev_7.trans (by decide +kernel)
      refine r_putI (v := 1) X hw hat_x 4 1104 tyX11 (by decide) rfl inn_X11_pot_11 tyX11_ok nmX11 (by decide) (X.2.2.2.1 (.fieldLink RX11 124 "SilkMill" "potsMade" "I") (by decide +kernel)) rfl (Or.inl rfl) rfl rfl (Nat.le_of_ble_eq_true rfl) (st_1104 _ _) dX11_pot_56 (fun H locs hw => ?_)
      generalize eS_8 : sI S_6 1104 x 1 = S_8 at hw
      have hat_x : At S_8 x 11 := by rw [← eS_8]; exact At_sI hat_x
      have hat_ps : At S_8 ps 18 := by rw [← eS_8]; exact At_sI hat_ps
      have ha_3 : At S_8 q_1 4 := by rw [← eS_8]; exact At_sI ha_3
      have rf_ps : pR S_8 1103 x = some ps := by rw [← eS_8, pR_sI]; exact rf_ps
      have ci_lots : pI S_8 1102 x = 0 := by rw [← eS_8]; exact (pI_sI_nf (by decide)).trans ci_lots
      have ci_shv : pI S_8 1110 x = 0 := by rw [← eS_8]; exact (pI_sI_nf (by decide)).trans ci_shv
      have ln_ps : pN S_8 ps = 4 := by rw [← eS_8, pN_sI]; exact ln_ps
      have hc_9 : pI S_8 1104 x = 1 := by rw [← eS_8]; exact pI_sI_same
      refine lv_aload_n X.1 X.2.1 dX11_pot_59 rfl (lv_at hl 0 rfl) ?_
      refine r_get (v := .int 1) X hw hat_x 4 (by decide) rfl inn_X11_pot_11 (by decide) (X.2.2.2.1 (.fieldLink RX11 124 "SilkMill" "potsMade" "I") (by decide +kernel)) rfl ((gv_1104 _ _).trans (congrArg (fun z => some (Value.int z)) hc_9)) dX11_pot_60 ?_
      refine lv_iconst (v := 1) X.1 X.2.1 dX11_pot_63 (by decide) ?_
      refine lv_isub X.1 X.2.1 dX11_pot_64 ?_
      refine lv_topi (fun v_10 ev_10 => ?_)
      obtain rfl : v_10 = 0 := ev_10.trans (by decide +kernel)
      exact ret_i X hw hr hlocks (Nat.le_of_ble_eq_true rfl) (Nat.le_of_ble_eq_true rfl) (if_pos ⟨b_9, b_19⟩).symm dX11_pot_65
    · have z_19 := trivial
      refine lv_if_ne (tgt := 27) X.1 X.2.1 dX11_pot_22 (by decide) (fun c_22 => absurd c_22 (by decide)) (fun c_22 => ?_)
      refine lv_iconst (v := (-1)) X.1 X.2.1 dX11_pot_25 (by decide) ?_
      exact ret_i X hw hr hlocks (Nat.le_of_ble_eq_true rfl) (Nat.le_of_ble_eq_true rfl) (if_neg (fun h => b_19 h.2)).symm dX11_pot_26
  · have z_9 := trivial
    refine lv_if_eq (tgt := 25) X.1 X.2.1 dX11_pot_12 (by decide) (fun c_12 => ?_) (fun c_12 => absurd c_12 (by decide))
    refine lv_iconst (v := (-1)) X.1 X.2.1 dX11_pot_25 (by decide) ?_
    exact ret_i X hw hr hlocks (Nat.le_of_ble_eq_true rfl) (Nat.le_of_ble_eq_true rfl) (if_neg (fun h => b_9 h.1)).symm dX11_pot_26
set_option maxHeartbeats 4000000 in
set_option maxRecDepth 100000 in
theorem c_X3_putNumber (l : Launch) (G : va_G) (cy : Nat → ClassId) (S : PS) (sz : Nat) (pl : Nat) (a1 : Int32) (hat_pl : At S pl 3) : Ci l yX3_putNumber wsX3_putNumber ({ frames := 1, cells := 0, slots := 0, locals := 40 }) G cy S sz [.ref pl, .int (a1)] (fun (r : Int32) (S9 : PS) => r = 1 ∧ (∀ a k, At S a k → At S9 a k) ∧ (∀ g a, a ≠ pl → pI S9 g a = pI S g a)) := by
  refine ent_m (cc := cX3_putNumber) (maxL := 2) (ret := (some .boolean)) (by decide) rfl (Nat.le_of_ble_eq_true rfl) ?_
  intro p e s m below meth c ls X hr hlocks hin hw hl hsz
  subst hsz
  have X : Cx p c cX3_putNumber 2 s [.ref pl, .int (a1)].toArray wsX3_putNumber RX3 m G cy (AS S s.heap.size) := X
  have hl : lv_has ls 2 [(0, .ref pl), (1, .int (a1))] := hl
  refine lv_aload_n X.1 X.2.1 dX3_putNumber_0 rfl (lv_at hl 0 rfl) ?_
  refine lv_iload_n X.1 X.2.1 dX3_putNumber_1 rfl (lv_at hl 1 rfl) ?_
  refine r_putI (v := a1) X hw hat_pl 4 304 tyX3 (by decide) rfl inn_X3_putNumber_3 tyX3_ok nmX3 (by decide) (X.2.2.2.1 (.fieldLink RX3 31 "SilkMill$Place" "number" "I") (by decide +kernel)) rfl (Or.inl rfl) rfl rfl (Nat.le_of_ble_eq_true rfl) (st_304 _ _) dX3_putNumber_2 (fun H locs hw => ?_)
  generalize eS_1 : sI S 304 pl a1 = S_1 at hw
  have hat_pl : At S_1 pl 3 := by rw [← eS_1]; exact At_sI hat_pl
  have hc_2 : pI S_1 304 pl = a1 := by rw [← eS_1]; exact pI_sI_same
  refine lv_aload_n X.1 X.2.1 dX3_putNumber_5 rfl (lv_at hl 0 rfl) ?_
  refine lv_iconst (v := 1) X.1 X.2.1 dX3_putNumber_6 (by decide) ?_
  refine r_putI (v := 1) X hw hat_pl 0 300 tyX3 (by decide) rfl inn_X3_putNumber_3 tyX3_ok nmX3 (by decide) (X.2.2.2.1 (.fieldLink RX3 9 "SilkMill$Place" "kind" "I") (by decide +kernel)) rfl (Or.inl rfl) rfl rfl (Nat.le_of_ble_eq_true rfl) (st_300 _ _) dX3_putNumber_7 (fun H locs hw => ?_)
  generalize eS_3 : sI S_1 300 pl 1 = S_3 at hw
  have hat_pl : At S_3 pl 3 := by rw [← eS_3]; exact At_sI hat_pl
  have hc_2 : pI S_3 304 pl = a1 := by rw [← eS_3]; exact (pI_sI_nf (by decide)).trans hc_2
  have hc_4 : pI S_3 300 pl = 1 := by rw [← eS_3]; exact pI_sI_same
  refine lv_iconst (v := 1) X.1 X.2.1 dX3_putNumber_10 (by decide) ?_
  exact ret_z X hw hr hlocks (Nat.le_of_ble_eq_true rfl) (Nat.le_of_ble_eq_true rfl) (by decide) ⟨rfl, by subst eS_3 eS_1; exact fun _ _ h => h, fun g a h => by subst eS_3 eS_1; simp [pI, sI, u2, h]⟩ dX3_putNumber_11
set_option maxHeartbeats 4000000 in
set_option maxRecDepth 100000 in
theorem c_X3_putCocoon (l : Launch) (G : va_G) (cy : Nat → ClassId) (S : PS) (sz : Nat) (pl : Nat) (hat_pl : At S pl 3) : Ci l yX3_putCocoon wsX3_putCocoon ({ frames := 1, cells := 0, slots := 0, locals := 40 }) G cy S sz [.ref pl, .null] (fun (r : Int32) (S9 : PS) => S = S9 ∧ r = 0) := by
  refine ent_m (cc := cX3_putCocoon) (maxL := 2) (ret := (some .boolean)) (by decide) rfl (Nat.le_of_ble_eq_true rfl) ?_
  intro p e s m below meth c ls X hr hlocks hin hw hl hsz
  subst hsz
  have X : Cx p c cX3_putCocoon 2 s [.ref pl, .null].toArray wsX3_putCocoon RX3 m G cy (AS S s.heap.size) := X
  have hl : lv_has ls 2 [(0, .ref pl), (1, .null)] := hl
  refine lv_aload_nN X.1 X.2.1 dX3_putCocoon_0 rfl (lv_at hl 1 rfl) ?_
  refine lv_ifnullN (tgt := 11) X.1 X.2.1 dX3_putCocoon_1 (by decide) ?_
  refine lv_iconst (v := 0) X.1 X.2.1 dX3_putCocoon_11 (by decide) ?_
  exact ret_z X hw hr hlocks (Nat.le_of_ble_eq_true rfl) (Nat.le_of_ble_eq_true rfl) (by decide) ⟨rfl, rfl⟩ dX3_putCocoon_12
set_option maxHeartbeats 4000000 in
set_option maxRecDepth 100000 in
theorem c_J7_fill_53178 (l : Launch) (G : va_G) (cy : Nat → ClassId) (S : PS) (sz : Nat) (wd : Nat) (v : Int32) (hat_wd : At S wd 14) (ln_wd : pN S wd = 8) : Cv l yJ7_fill_53178 wsJ7_fill_53178 ({ frames := 1, cells := 0, slots := 0, locals := 40 }) G cy S sz [.ref wd, .int (v)] (fun (S9 : PS) => (∀ a k, At S a k → At S9 a k) ∧ pI S9 = pI S ∧ pR S9 = pR S) := by
  refine ent_m (cc := cJ7_fill_53178) (maxL := 4) (ret := none) (by decide) rfl (Nat.le_of_ble_eq_true rfl) ?_
  intro p e s m below meth c ls X hr hlocks hin hw hl hsz
  subst hsz
  have X : Cx p c cJ7_fill_53178 4 s [.ref wd, .int (v)].toArray wsJ7_fill_53178 RJ7 m G cy (AS S s.heap.size) := X
  have hl : lv_has ls 4 [(0, .ref wd), (1, .int (v))] := hl
  refine lv_iconst (v := 0) X.1 X.2.1 dJ7_fill_53178_0 (by decide) ?_
  refine lv_istore_n (lv' := [(2, .int 0), (0, .ref wd), (1, .int (v))]) X.1 X.2.1 dJ7_fill_53178_1 rfl hl (by decide) rfl (fun ls hl => ?_)
  refine lv_aload_n X.1 X.2.1 dJ7_fill_53178_2 rfl (lv_at hl 1 rfl) ?_
  refine r_alen X hw hat_wd (by decide) rfl dJ7_fill_53178_3 ?_
  rw [ln_wd]
  refine W.eq (g2 := F0 m 4 ls (.int 8 :: [])) rfl ?_
  refine lv_istore_n (lv' := [(3, .int 8), (2, .int 0), (0, .ref wd), (1, .int (v))]) X.1 X.2.1 dJ7_fill_53178_4 rfl hl (by decide) rfl (fun ls hl => ?_)
  refine lv_iload_n X.1 X.2.1 dJ7_fill_53178_5 rfl (lv_at hl 1 rfl) ?_
  refine lv_iload_n X.1 X.2.1 dJ7_fill_53178_6 rfl (lv_at hl 0 rfl) ?_
  refine lv_icmp_ge (tgt := 20) X.1 X.2.1 dJ7_fill_53178_7 (by decide) (fun c_7 => absurd c_7 (by decide)) (fun c_7 => ?_)
  refine lv_aload_n X.1 X.2.1 dJ7_fill_53178_10 rfl (lv_at hl 2 rfl) ?_
  refine lv_iload_n X.1 X.2.1 dJ7_fill_53178_11 rfl (lv_at hl 1 rfl) ?_
  refine lv_iload_n X.1 X.2.1 dJ7_fill_53178_12 rfl (lv_at hl 3 rfl) ?_
  refine r_iast X hw hat_wd (by rw [ln_wd]; exact vp_in_iff.mpr (by decide +kernel)) dJ7_fill_53178_13 (fun H locs hw => ?_)
  generalize eS_1 : sA S wd (upd (pA S wd) (Int32.toNatClampNeg (0)) v) = S_1 at hw
  have hat_wd : At S_1 wd 14 := by rw [← eS_1]; exact At_sA hat_wd
  have ln_wd : pN S_1 wd = 8 := by rw [← eS_1, pN_sA]; exact ln_wd
  refine lv_iinc (v := 1) (lv' := [(2, .int 1), (3, .int 8), (0, .ref wd), (1, .int (v))]) X.1 X.2.1 dJ7_fill_53178_14 hl (k := 1) rfl (by decide) (by decide) rfl (fun ls hl => ?_)
  refine lv_goto (tgt := 5) X.1 X.2.1 dJ7_fill_53178_17 (by decide) ?_
  refine lv_iload_n X.1 X.2.1 dJ7_fill_53178_5 rfl (lv_at hl 0 rfl) ?_
  refine lv_iload_n X.1 X.2.1 dJ7_fill_53178_6 rfl (lv_at hl 1 rfl) ?_
  refine lv_icmp_ge (tgt := 20) X.1 X.2.1 dJ7_fill_53178_7 (by decide) (fun c_7 => absurd c_7 (by decide)) (fun c_7 => ?_)
  refine lv_aload_n X.1 X.2.1 dJ7_fill_53178_10 rfl (lv_at hl 2 rfl) ?_
  refine lv_iload_n X.1 X.2.1 dJ7_fill_53178_11 rfl (lv_at hl 0 rfl) ?_
  refine lv_iload_n X.1 X.2.1 dJ7_fill_53178_12 rfl (lv_at hl 3 rfl) ?_
  refine r_iast X hw hat_wd (by rw [ln_wd]; exact vp_in_iff.mpr (by decide +kernel)) dJ7_fill_53178_13 (fun H locs hw => ?_)
  generalize eS_2 : sA S_1 wd (upd (pA S_1 wd) (Int32.toNatClampNeg (1)) v) = S_2 at hw
  have hat_wd : At S_2 wd 14 := by rw [← eS_2]; exact At_sA hat_wd
  have ln_wd : pN S_2 wd = 8 := by rw [← eS_2, pN_sA]; exact ln_wd
  refine lv_iinc (v := 2) (lv' := [(2, .int 2), (3, .int 8), (0, .ref wd), (1, .int (v))]) X.1 X.2.1 dJ7_fill_53178_14 hl (k := 0) rfl (by decide) (by decide) rfl (fun ls hl => ?_)
  refine lv_goto (tgt := 5) X.1 X.2.1 dJ7_fill_53178_17 (by decide) ?_
  refine lv_iload_n X.1 X.2.1 dJ7_fill_53178_5 rfl (lv_at hl 0 rfl) ?_
  refine lv_iload_n X.1 X.2.1 dJ7_fill_53178_6 rfl (lv_at hl 1 rfl) ?_
  refine lv_icmp_ge (tgt := 20) X.1 X.2.1 dJ7_fill_53178_7 (by decide) (fun c_7 => absurd c_7 (by decide)) (fun c_7 => ?_)
  refine lv_aload_n X.1 X.2.1 dJ7_fill_53178_10 rfl (lv_at hl 2 rfl) ?_
  refine lv_iload_n X.1 X.2.1 dJ7_fill_53178_11 rfl (lv_at hl 0 rfl) ?_
  refine lv_iload_n X.1 X.2.1 dJ7_fill_53178_12 rfl (lv_at hl 3 rfl) ?_
  refine r_iast X hw hat_wd (by rw [ln_wd]; exact vp_in_iff.mpr (by decide +kernel)) dJ7_fill_53178_13 (fun H locs hw => ?_)
  generalize eS_3 : sA S_2 wd (upd (pA S_2 wd) (Int32.toNatClampNeg (2)) v) = S_3 at hw
  have hat_wd : At S_3 wd 14 := by rw [← eS_3]; exact At_sA hat_wd
  have ln_wd : pN S_3 wd = 8 := by rw [← eS_3, pN_sA]; exact ln_wd
  refine lv_iinc (v := 3) (lv' := [(2, .int 3), (3, .int 8), (0, .ref wd), (1, .int (v))]) X.1 X.2.1 dJ7_fill_53178_14 hl (k := 0) rfl (by decide) (by decide) rfl (fun ls hl => ?_)
  refine lv_goto (tgt := 5) X.1 X.2.1 dJ7_fill_53178_17 (by decide) ?_
  refine lv_iload_n X.1 X.2.1 dJ7_fill_53178_5 rfl (lv_at hl 0 rfl) ?_
  refine lv_iload_n X.1 X.2.1 dJ7_fill_53178_6 rfl (lv_at hl 1 rfl) ?_
  refine lv_icmp_ge (tgt := 20) X.1 X.2.1 dJ7_fill_53178_7 (by decide) (fun c_7 => absurd c_7 (by decide)) (fun c_7 => ?_)
  refine lv_aload_n X.1 X.2.1 dJ7_fill_53178_10 rfl (lv_at hl 2 rfl) ?_
  refine lv_iload_n X.1 X.2.1 dJ7_fill_53178_11 rfl (lv_at hl 0 rfl) ?_
  refine lv_iload_n X.1 X.2.1 dJ7_fill_53178_12 rfl (lv_at hl 3 rfl) ?_
  refine r_iast X hw hat_wd (by rw [ln_wd]; exact vp_in_iff.mpr (by decide +kernel)) dJ7_fill_53178_13 (fun H locs hw => ?_)
  generalize eS_4 : sA S_3 wd (upd (pA S_3 wd) (Int32.toNatClampNeg (3)) v) = S_4 at hw
  have hat_wd : At S_4 wd 14 := by rw [← eS_4]; exact At_sA hat_wd
  have ln_wd : pN S_4 wd = 8 := by rw [← eS_4, pN_sA]; exact ln_wd
  refine lv_iinc (v := 4) (lv' := [(2, .int 4), (3, .int 8), (0, .ref wd), (1, .int (v))]) X.1 X.2.1 dJ7_fill_53178_14 hl (k := 0) rfl (by decide) (by decide) rfl (fun ls hl => ?_)
  refine lv_goto (tgt := 5) X.1 X.2.1 dJ7_fill_53178_17 (by decide) ?_
  refine lv_iload_n X.1 X.2.1 dJ7_fill_53178_5 rfl (lv_at hl 0 rfl) ?_
  refine lv_iload_n X.1 X.2.1 dJ7_fill_53178_6 rfl (lv_at hl 1 rfl) ?_
  refine lv_icmp_ge (tgt := 20) X.1 X.2.1 dJ7_fill_53178_7 (by decide) (fun c_7 => absurd c_7 (by decide)) (fun c_7 => ?_)
  refine lv_aload_n X.1 X.2.1 dJ7_fill_53178_10 rfl (lv_at hl 2 rfl) ?_
  refine lv_iload_n X.1 X.2.1 dJ7_fill_53178_11 rfl (lv_at hl 0 rfl) ?_
  refine lv_iload_n X.1 X.2.1 dJ7_fill_53178_12 rfl (lv_at hl 3 rfl) ?_
  refine r_iast X hw hat_wd (by rw [ln_wd]; exact vp_in_iff.mpr (by decide +kernel)) dJ7_fill_53178_13 (fun H locs hw => ?_)
  generalize eS_5 : sA S_4 wd (upd (pA S_4 wd) (Int32.toNatClampNeg (4)) v) = S_5 at hw
  have hat_wd : At S_5 wd 14 := by rw [← eS_5]; exact At_sA hat_wd
  have ln_wd : pN S_5 wd = 8 := by rw [← eS_5, pN_sA]; exact ln_wd
  refine lv_iinc (v := 5) (lv' := [(2, .int 5), (3, .int 8), (0, .ref wd), (1, .int (v))]) X.1 X.2.1 dJ7_fill_53178_14 hl (k := 0) rfl (by decide) (by decide) rfl (fun ls hl => ?_)
  refine lv_goto (tgt := 5) X.1 X.2.1 dJ7_fill_53178_17 (by decide) ?_
  refine lv_iload_n X.1 X.2.1 dJ7_fill_53178_5 rfl (lv_at hl 0 rfl) ?_
  refine lv_iload_n X.1 X.2.1 dJ7_fill_53178_6 rfl (lv_at hl 1 rfl) ?_
  refine lv_icmp_ge (tgt := 20) X.1 X.2.1 dJ7_fill_53178_7 (by decide) (fun c_7 => absurd c_7 (by decide)) (fun c_7 => ?_)
  refine lv_aload_n X.1 X.2.1 dJ7_fill_53178_10 rfl (lv_at hl 2 rfl) ?_
  refine lv_iload_n X.1 X.2.1 dJ7_fill_53178_11 rfl (lv_at hl 0 rfl) ?_
  refine lv_iload_n X.1 X.2.1 dJ7_fill_53178_12 rfl (lv_at hl 3 rfl) ?_
  refine r_iast X hw hat_wd (by rw [ln_wd]; exact vp_in_iff.mpr (by decide +kernel)) dJ7_fill_53178_13 (fun H locs hw => ?_)
  generalize eS_6 : sA S_5 wd (upd (pA S_5 wd) (Int32.toNatClampNeg (5)) v) = S_6 at hw
  have hat_wd : At S_6 wd 14 := by rw [← eS_6]; exact At_sA hat_wd
  have ln_wd : pN S_6 wd = 8 := by rw [← eS_6, pN_sA]; exact ln_wd
  refine lv_iinc (v := 6) (lv' := [(2, .int 6), (3, .int 8), (0, .ref wd), (1, .int (v))]) X.1 X.2.1 dJ7_fill_53178_14 hl (k := 0) rfl (by decide) (by decide) rfl (fun ls hl => ?_)
  refine lv_goto (tgt := 5) X.1 X.2.1 dJ7_fill_53178_17 (by decide) ?_
  refine lv_iload_n X.1 X.2.1 dJ7_fill_53178_5 rfl (lv_at hl 0 rfl) ?_
  refine lv_iload_n X.1 X.2.1 dJ7_fill_53178_6 rfl (lv_at hl 1 rfl) ?_
  refine lv_icmp_ge (tgt := 20) X.1 X.2.1 dJ7_fill_53178_7 (by decide) (fun c_7 => absurd c_7 (by decide)) (fun c_7 => ?_)
  refine lv_aload_n X.1 X.2.1 dJ7_fill_53178_10 rfl (lv_at hl 2 rfl) ?_
  refine lv_iload_n X.1 X.2.1 dJ7_fill_53178_11 rfl (lv_at hl 0 rfl) ?_
  refine lv_iload_n X.1 X.2.1 dJ7_fill_53178_12 rfl (lv_at hl 3 rfl) ?_
  refine r_iast X hw hat_wd (by rw [ln_wd]; exact vp_in_iff.mpr (by decide +kernel)) dJ7_fill_53178_13 (fun H locs hw => ?_)
  generalize eS_7 : sA S_6 wd (upd (pA S_6 wd) (Int32.toNatClampNeg (6)) v) = S_7 at hw
  have hat_wd : At S_7 wd 14 := by rw [← eS_7]; exact At_sA hat_wd
  have ln_wd : pN S_7 wd = 8 := by rw [← eS_7, pN_sA]; exact ln_wd
  refine lv_iinc (v := 7) (lv' := [(2, .int 7), (3, .int 8), (0, .ref wd), (1, .int (v))]) X.1 X.2.1 dJ7_fill_53178_14 hl (k := 0) rfl (by decide) (by decide) rfl (fun ls hl => ?_)
  refine lv_goto (tgt := 5) X.1 X.2.1 dJ7_fill_53178_17 (by decide) ?_
  refine lv_iload_n X.1 X.2.1 dJ7_fill_53178_5 rfl (lv_at hl 0 rfl) ?_
  refine lv_iload_n X.1 X.2.1 dJ7_fill_53178_6 rfl (lv_at hl 1 rfl) ?_
  refine lv_icmp_ge (tgt := 20) X.1 X.2.1 dJ7_fill_53178_7 (by decide) (fun c_7 => absurd c_7 (by decide)) (fun c_7 => ?_)
  refine lv_aload_n X.1 X.2.1 dJ7_fill_53178_10 rfl (lv_at hl 2 rfl) ?_
  refine lv_iload_n X.1 X.2.1 dJ7_fill_53178_11 rfl (lv_at hl 0 rfl) ?_
  refine lv_iload_n X.1 X.2.1 dJ7_fill_53178_12 rfl (lv_at hl 3 rfl) ?_
  refine r_iast X hw hat_wd (by rw [ln_wd]; exact vp_in_iff.mpr (by decide +kernel)) dJ7_fill_53178_13 (fun H locs hw => ?_)
  generalize eS_8 : sA S_7 wd (upd (pA S_7 wd) (Int32.toNatClampNeg (7)) v) = S_8 at hw
  have hat_wd : At S_8 wd 14 := by rw [← eS_8]; exact At_sA hat_wd
  have ln_wd : pN S_8 wd = 8 := by rw [← eS_8, pN_sA]; exact ln_wd
  refine lv_iinc (v := 8) (lv' := [(2, .int 8), (3, .int 8), (0, .ref wd), (1, .int (v))]) X.1 X.2.1 dJ7_fill_53178_14 hl (k := 0) rfl (by decide) (by decide) rfl (fun ls hl => ?_)
  refine lv_goto (tgt := 5) X.1 X.2.1 dJ7_fill_53178_17 (by decide) ?_
  refine lv_iload_n X.1 X.2.1 dJ7_fill_53178_5 rfl (lv_at hl 0 rfl) ?_
  refine lv_iload_n X.1 X.2.1 dJ7_fill_53178_6 rfl (lv_at hl 1 rfl) ?_
  refine lv_icmp_ge (tgt := 20) X.1 X.2.1 dJ7_fill_53178_7 (by decide) (fun c_7 => ?_) (fun c_7 => absurd c_7 (by decide))
  exact ret_v X hw hr hlocks (Nat.le_of_ble_eq_true rfl) (Nat.le_of_ble_eq_true rfl) (by refine ⟨?_, ?_, ?_⟩ <;> subst eS_8 eS_7 eS_6 eS_5 eS_4 eS_3 eS_2 eS_1 <;> first | exact fun _ _ h => h | rfl) dJ7_fill_53178_20
set_option maxHeartbeats 4000000 in
set_option maxRecDepth 100000 in
theorem c_X3_putWord (l : Launch) (G : va_G) (cy : Nat → ClassId) (S : PS) (sz : Nat) (pl : Nat) (a1 : Int32) (a2 : Int32) (hF : PlF S pl) : Ci l yX3_putWord wsX3_putWord ({ frames := 3, cells := 0, slots := 0, locals := 120 }) G cy S sz [.ref pl, .int (a1), .int (a2)] (fun (r : Int32) (S9 : PS) => ((wi a1 0 8 ∧ r = 1) ∨ (¬ wi a1 0 8 ∧ r = 0)) ∧ (∀ a k, At S a k → At S9 a k) ∧ (∀ g a, a ≠ pl → pI S9 g a = pI S g a)) := by
  refine ent_m (cc := cX3_putWord) (maxL := 3) (ret := (some .boolean)) (by decide) rfl (Nat.le_of_ble_eq_true rfl) ?_
  intro p e s m below meth c ls X hr hlocks hin hw hl hsz
  subst hsz
  have X : Cx p c cX3_putWord 3 s [.ref pl, .int (a1), .int (a2)].toArray wsX3_putWord RX3 m G cy (AS S s.heap.size) := X
  have hl : lv_has ls 3 [(0, .ref pl), (1, .int (a1)), (2, .int (a2))] := hl
  obtain ⟨hat_pl, ci_300, ci_301, ⟨wd, rf_wd, hat_wd, ln_wd⟩⟩ := hF
  refine lv_iload_n X.1 X.2.1 dX3_putWord_0 rfl (lv_at hl 1 rfl) ?_
  refine lv_iconst (v := 0) X.1 X.2.1 dX3_putWord_1 (by decide) ?_
  refine lv_bipush (v := 8) X.1 X.2.1 dX3_putWord_2 (by decide) ?_
  refine k_i (rm := { frames := 1, cells := 0, slots := 0, locals := 40 }) (av := [.int (a1), .int 0, .int 8]) X hw (va_runSN (As := [.int (a1), .int 0, .int 8]) (rest := []) (cfix X) (c_X11_isWithin l G cy S _ (a1) (0) (8)) ⟨(va_cnB (host := RX11) 3 X.2.2.2.1 gX3_putWord_X11_isWithin_n34 rfl rfl rfl (X.2.2.2.2.2.2.2.2.1 (RX3, 34, yX11_isWithin) (by decide +kernel)) (X.2.2.2.1 (.initialized RX11) (by decide +kernel)) (by decide +kernel) ⟨Nat.le_of_ble_eq_true rfl, Nat.le_of_ble_eq_true rfl⟩), X.2.2.2.1 (.static yX11_isWithin) (by decide +kernel), trivial⟩ (pre_S X hw _) rfl rfl hl.1 rfl (lv_room (Nat.le_of_ble_eq_true rfl)) dX3_putWord_4 ⟨Nat.le_of_ble_eq_true rfl, Nat.le_of_ble_eq_true rfl⟩) 0 0 (Nat.le_of_ble_eq_true rfl) (Nat.le_of_ble_eq_true rfl) (fun rr_4 S2 H locs hp hw hfr hnw => ?_)
  obtain ⟨e2_4, hp⟩ := hp
  subst e2_4
  rcases hp with ⟨b_4, er_4⟩ | ⟨b_4, er_4⟩ <;> subst er_4
  · have z_4 := trivial
    refine lv_if_ne (tgt := 12) X.1 X.2.1 dX3_putWord_7 (by decide) (fun c_7 => ?_) (fun c_7 => absurd c_7 (by decide))
    refine lv_aload_n X.1 X.2.1 dX3_putWord_12 rfl (lv_at hl 0 rfl) ?_
    refine r_getR (g := 302) X hw hat_pl 2 rf_wd (by decide) rfl inn_X3_putWord_3 (by decide) (X.2.2.2.1 (.fieldLink RX3 15 "SilkMill$Place" "word" "[I") (by decide +kernel)) rfl (gv_302 _ _) dX3_putWord_13 ?_
    refine lv_iload_n X.1 X.2.1 dX3_putWord_16 rfl (lv_at hl 2 rfl) ?_
    refine k_v (rm := { frames := 1, cells := 0, slots := 0, locals := 40 }) (av := [.ref wd, .int (a2)]) X hw (va_runS (As := [.ref wd, .int (a2)]) (rest := []) (cfix X) (c_J7_fill_53178 l G cy S _ wd (a2) hat_wd ln_wd) (cwS 2 X.2.2.2.1 gX3_putWord_J7_fill_53178 rfl rfl rfl (by decide +kernel) ⟨Nat.le_of_ble_eq_true rfl, Nat.le_of_ble_eq_true rfl⟩) (pre_S X hw _) rfl rfl hl.1 rfl (lv_room (Nat.le_of_ble_eq_true rfl)) dX3_putWord_17 ⟨Nat.le_of_ble_eq_true rfl, Nat.le_of_ble_eq_true rfl⟩) 0 0 (Nat.le_of_ble_eq_true rfl) (Nat.le_of_ble_eq_true rfl) (fun S2 H locs hp hw hfr hnw => ?_)
    obtain ⟨ja, ji, jr⟩ := hp
    generalize eSf : S2 = Sf at ja ji jr hw
    have hat_pl : At Sf pl 3 := ja _ _ hat_pl
    have hat_wd : At Sf wd 14 := ja _ _ hat_wd
    refine lv_aload_n X.1 X.2.1 dX3_putWord_20 rfl (lv_at hl 0 rfl) ?_
    refine lv_iload_n X.1 X.2.1 dX3_putWord_21 rfl (lv_at hl 1 rfl) ?_
    refine r_putI (v := a1) X hw hat_pl 1 301 tyX3 (by decide) rfl inn_X3_putWord_3 tyX3_ok nmX3 (by decide) (X.2.2.2.1 (.fieldLink RX3 19 "SilkMill$Place" "wordSize" "I") (by decide +kernel)) rfl (Or.inl rfl) rfl rfl (Nat.le_of_ble_eq_true rfl) (st_301 _ _) dX3_putWord_22 (fun H locs hw => ?_)
    generalize eS_1 : sI Sf 301 pl a1 = S_1 at hw
    have hat_pl : At S_1 pl 3 := by rw [← eS_1]; exact At_sI hat_pl
    have hat_wd : At S_1 wd 14 := by rw [← eS_1]; exact At_sI hat_wd
    have hc_2 : pI S_1 301 pl = a1 := by rw [← eS_1]; exact pI_sI_same
    refine lv_aload_n X.1 X.2.1 dX3_putWord_25 rfl (lv_at hl 0 rfl) ?_
    refine lv_iconst (v := 2) X.1 X.2.1 dX3_putWord_26 (by decide) ?_
    refine r_putI (v := 2) X hw hat_pl 0 300 tyX3 (by decide) rfl inn_X3_putWord_3 tyX3_ok nmX3 (by decide) (X.2.2.2.1 (.fieldLink RX3 9 "SilkMill$Place" "kind" "I") (by decide +kernel)) rfl (Or.inl rfl) rfl rfl (Nat.le_of_ble_eq_true rfl) (st_300 _ _) dX3_putWord_27 (fun H locs hw => ?_)
    generalize eS_3 : sI S_1 300 pl 2 = S_3 at hw
    have hat_pl : At S_3 pl 3 := by rw [← eS_3]; exact At_sI hat_pl
    have hat_wd : At S_3 wd 14 := by rw [← eS_3]; exact At_sI hat_wd
    have hc_2 : pI S_3 301 pl = a1 := by rw [← eS_3]; exact (pI_sI_nf (by decide)).trans hc_2
    have hc_4 : pI S_3 300 pl = 2 := by rw [← eS_3]; exact pI_sI_same
    refine lv_iconst (v := 1) X.1 X.2.1 dX3_putWord_30 (by decide) ?_
    exact ret_z X hw hr hlocks (Nat.le_of_ble_eq_true rfl) (Nat.le_of_ble_eq_true rfl) (by decide) ⟨Or.inl ⟨b_4, rfl⟩, fun a k h => by subst eS_3 eS_1; exact ja a k h, fun g a h => by subst eS_3 eS_1; have := congrFun (congrFun ji g) a; simp only [pI, sI, u2, h, if_false, ite_self] at this ⊢; exact this⟩ dX3_putWord_31
  · have z_4 := trivial
    refine lv_if_ne (tgt := 12) X.1 X.2.1 dX3_putWord_7 (by decide) (fun c_7 => absurd c_7 (by decide)) (fun c_7 => ?_)
    refine lv_iconst (v := 0) X.1 X.2.1 dX3_putWord_10 (by decide) ?_
    exact ret_z X hw hr hlocks (Nat.le_of_ble_eq_true rfl) (Nat.le_of_ble_eq_true rfl) (by decide) ⟨Or.inr ⟨b_4, rfl⟩, fun _ _ h => h, fun _ _ _ => rfl⟩ dX3_putWord_11
set_option maxHeartbeats 4000000 in
set_option maxRecDepth 100000 in
theorem c_X11_shelve (l : Launch) (G : va_G) (cy : Nat → ClassId) (S : PS) (sz : Nat) (x : Nat) (a1 : Int32) (a2 : Int32) (a3 : Int32) (a4 : Int32) (hF : FX S x) : Ci l yX11_shelve wsX11_shelve ({ frames := 6, cells := 0, slots := 0, locals := 240 }) G cy S sz [.ref x, .int (a1), .int (a2), .int (a3), .int (a4)] (fun (r : Int32) (S9 : PS) => r = shvV a1 a2 a3) := by
  refine ent_m (cc := cX11_shelve) (maxL := 7) (ret := (some .boolean)) (by decide) rfl (Nat.le_of_ble_eq_true rfl) ?_
  intro p e s m below meth c ls X hr hlocks hin hw hl hsz
  subst hsz
  have X : Cx p c cX11_shelve 7 s [.ref x, .int (a1), .int (a2), .int (a3), .int (a4)].toArray wsX11_shelve RX11 m G cy (AS S s.heap.size) := X
  have hl : lv_has ls 7 [(0, .ref x), (1, .int (a1)), (2, .int (a2)), (3, .int (a3)), (4, .int (a4))] := hl
  have hF0 := hF
  obtain ⟨hat_x, ci_lots, ci_pots, ci_shv, ⟨cs, rf_cs, hat_cs, ln_cs⟩, ⟨lz, rf_lz, hat_lz, ln_lz⟩, ⟨ps, rf_ps, hat_ps, ln_ps⟩, ⟨tp, rf_tp, hat_tp, ci_tsz, ci_tfp, ⟨tb, rf_tb, hat_tb, ln_tb⟩⟩, ⟨st, rf_st, hat_st, ci_st, ⟨pr, rf_pr, hat_pr, ln_pr⟩, ⟨mx, rf_mx, hat_mx⟩⟩, ⟨dr, rf_dr, hat_dr, ci_dsz⟩, sh, rf_sh, hat_sh, ln_sh, hpl⟩ := hF
  have hF := hF0
  refine lv_aload_n X.1 X.2.1 dX11_shelve_0 rfl (lv_at hl 0 rfl) ?_
  refine lv_iload_n X.1 X.2.1 dX11_shelve_1 rfl (lv_at hl 1 rfl) ?_
  refine k_q (rm := { frames := 1, cells := 0, slots := 0, locals := 40 }) (av := [.ref x, .int (a1)]) X hw (va_runV (As := [.int (a1)]) (rest := []) (cfix X) (c_X11_shelfAt l G cy S _ x (a1) hF) (cwV 1 X.2.2.2.1 gX11_shelve_X11_shelfAt rfl rfl rfl (by decide +kernel) ⟨Nat.le_of_ble_eq_true rfl, Nat.le_of_ble_eq_true rfl⟩) (pre_V X hw _ hat_x (by decide) rfl) rfl rfl hl.1 rfl (lv_room (Nat.le_of_ble_eq_true rfl)) dX11_shelve_2 ⟨Nat.le_of_ble_eq_true rfl, Nat.le_of_ble_eq_true rfl⟩) 0 0 (Nat.le_of_ble_eq_true rfl) (Nat.le_of_ble_eq_true rfl) (fun rr_2 S2 H locs hp hw hfr hnw => ?_)
  obtain ⟨e2_2, hp⟩ := hp
  subst e2_2
  rcases hp with ⟨b_2, pl_2, er_2, hf_pl_2⟩ | ⟨b_2, er_2⟩ <;> subst er_2
  · have z_2 := trivial
    have hfo_pl_2 := hf_pl_2
    obtain ⟨hat_pl_2, ci300_pl_2, ci301_pl_2, ⟨wd_pl_2, rf_wd_pl_2, hat_wd_pl_2, ln_wd_pl_2⟩⟩ := hf_pl_2
    refine W.eq (g2 := F0 m 5 ls (.ref pl_2 :: [])) rfl ?_
    refine lv_astore (lv' := [(5, .ref pl_2), (0, .ref x), (1, .int (a1)), (2, .int (a2)), (3, .int (a3)), (4, .int (a4))]) X.1 X.2.1 dX11_shelve_5 hl (by decide) rfl (fun ls hl => ?_)
    refine lv_aload X.1 X.2.1 dX11_shelve_7 (lv_at hl 0 rfl) ?_
    refine lv_ifnull X.1 X.2.1 dX11_shelve_9 ?_
    refine lv_aload X.1 X.2.1 dX11_shelve_12 (lv_at hl 0 rfl) ?_
    refine r_get (v := .int (-1)) X hw hat_pl_2 0 (by decide) rfl inn_X11_shelve_3 (by decide) (X.2.2.2.1 (.fieldLink RX11 307 "SilkMill$Place" "kind" "I") (by decide +kernel)) rfl ((gv_300 _ _).trans (congrArg (fun z => some (Value.int z)) ci300_pl_2)) dX11_shelve_14 ?_
    refine lv_iconst (v := (-1)) X.1 X.2.1 dX11_shelve_17 (by decide) ?_
    refine lv_icmp_eq (tgt := 23) X.1 X.2.1 dX11_shelve_18 (by decide) (fun c_18 => ?_) (fun c_18 => absurd c_18 (by decide))
    refine lv_iload_n X.1 X.2.1 dX11_shelve_23 rfl (lv_at hl 3 rfl) ?_
    by_cases w_24 : (a2).toInt < 0 ∨ 2 < (a2).toInt
    · refine lv_tableOut (tgt := 93) X.1 X.2.1 dX11_shelve_24 w_24 (by decide) ?_
      refine lv_iconst (v := 0) X.1 X.2.1 dX11_shelve_93 (by decide) ?_
      refine lv_istore (lv' := [(6, .int 0), (5, .ref pl_2), (0, .ref x), (1, .int (a1)), (2, .int (a2)), (3, .int (a3)), (4, .int (a4))]) X.1 X.2.1 dX11_shelve_94 hl (by decide) rfl (fun ls hl => ?_)
      refine lv_iload X.1 X.2.1 dX11_shelve_96 (lv_at hl 0 rfl) ?_
      refine lv_if_eq (tgt := 111) X.1 X.2.1 dX11_shelve_98 (by decide) (fun c_98 => ?_) (fun c_98 => absurd c_98 (by decide))
      refine lv_iload X.1 X.2.1 dX11_shelve_111 (lv_at hl 0 rfl) ?_
      exact ret_z X hw hr hlocks (Nat.le_of_ble_eq_true rfl) (Nat.le_of_ble_eq_true rfl) (by decide) (if_neg (fun h => by rcases h.2 with e | e; · rw [e] at w_24; revert w_24; decide; · rw [e.1] at w_24; revert w_24; decide)).symm dX11_shelve_113
    have w2_24 : (a2).toInt = 0 ∨ (a2).toInt = 1 ∨ (a2).toInt = 2 := by omega
    rcases w2_24 with w3_24 | w3_24 | w3_24
    · refine lv_tableIn (tgt := 52) X.1 X.2.1 dX11_shelve_24 (by omega) (by omega) (by rw [w3_24]; rfl) (by decide) ?_
      refine lv_aload X.1 X.2.1 dX11_shelve_52 (lv_at hl 0 rfl) ?_
      refine lv_aload_n X.1 X.2.1 dX11_shelve_54 rfl (lv_at hl 1 rfl) ?_
      refine lv_iload_n X.1 X.2.1 dX11_shelve_55 rfl (lv_at hl 4 rfl) ?_
      refine lv_iload X.1 X.2.1 dX11_shelve_56 (lv_at hl 5 rfl) ?_
      refine k_q (rm := { frames := 1, cells := 0, slots := 0, locals := 40 }) (av := [.ref x, .int (a3), .int (a4)]) X hw (va_runV (As := [.int (a3), .int (a4)]) (rest := [.ref pl_2]) (cfix X) (c_X11_cocoonAt l G cy S _ x (a3) (a4) hF) (cwV 2 X.2.2.2.1 gX11_shelve_X11_cocoonAt rfl rfl rfl (by decide +kernel) ⟨Nat.le_of_ble_eq_true rfl, Nat.le_of_ble_eq_true rfl⟩) (pre_V X hw _ hat_x (by decide) rfl) rfl rfl hl.1 rfl (lv_room (Nat.le_of_ble_eq_true rfl)) dX11_shelve_58 ⟨Nat.le_of_ble_eq_true rfl, Nat.le_of_ble_eq_true rfl⟩) 0 0 (Nat.le_of_ble_eq_true rfl) (Nat.le_of_ble_eq_true rfl) (fun rr_58 S2 H locs hp hw hfr hnw => ?_)
      obtain ⟨e2_58, er_58⟩ := hp
      subst e2_58
      subst er_58
      refine W.eq (g2 := F0 m 61 ls (.null :: .ref pl_2 :: [])) rfl ?_
      refine k_i (rm := { frames := 1, cells := 0, slots := 0, locals := 40 }) (av := [.ref pl_2, .null]) X hw (va_runV (As := [.null]) (rest := []) (cfix X) (c_X3_putCocoon l G cy S _ pl_2 hat_pl_2) (cwV 1 X.2.2.2.1 gX11_shelve_X3_putCocoon rfl rfl rfl (by decide +kernel) ⟨Nat.le_of_ble_eq_true rfl, Nat.le_of_ble_eq_true rfl⟩) (pre_V X hw _ hat_pl_2 (by decide) rfl) rfl rfl hl.1 rfl (lv_room (Nat.le_of_ble_eq_true rfl)) dX11_shelve_61 ⟨Nat.le_of_ble_eq_true rfl, Nat.le_of_ble_eq_true rfl⟩) 0 0 (Nat.le_of_ble_eq_true rfl) (Nat.le_of_ble_eq_true rfl) (fun rr_61 S2 H locs hp hw hfr hnw => ?_)
      obtain ⟨e2_61, er_61⟩ := hp
      subst e2_61
      subst er_61
      refine lv_istore (lv' := [(6, .int 0), (5, .ref pl_2), (0, .ref x), (1, .int (a1)), (2, .int (a2)), (3, .int (a3)), (4, .int (a4))]) X.1 X.2.1 dX11_shelve_64 hl (by decide) rfl (fun ls hl => ?_)
      refine lv_goto (tgt := 96) X.1 X.2.1 dX11_shelve_66 (by decide) ?_
      refine lv_iload X.1 X.2.1 dX11_shelve_96 (lv_at hl 0 rfl) ?_
      refine lv_if_eq (tgt := 111) X.1 X.2.1 dX11_shelve_98 (by decide) (fun c_98 => ?_) (fun c_98 => absurd c_98 (by decide))
      refine lv_iload X.1 X.2.1 dX11_shelve_111 (lv_at hl 0 rfl) ?_
      exact ret_z X hw hr hlocks (Nat.le_of_ble_eq_true rfl) (Nat.le_of_ble_eq_true rfl) (by decide) (if_neg (fun h => by rcases h.2 with e | e; · rw [e] at w3_24; revert w3_24; decide; · rw [e.1] at w3_24; revert w3_24; decide)).symm dX11_shelve_113
    · refine lv_tableIn (tgt := 69) X.1 X.2.1 dX11_shelve_24 (by omega) (by omega) (by rw [w3_24]; rfl) (by decide) ?_
      refine lv_aload X.1 X.2.1 dX11_shelve_69 (lv_at hl 0 rfl) ?_
      refine lv_iload_n X.1 X.2.1 dX11_shelve_71 rfl (lv_at hl 4 rfl) ?_
      refine k_i (rm := { frames := 1, cells := 0, slots := 0, locals := 40 }) (av := [.ref pl_2, .int (a3)]) X hw (va_runV (As := [.int (a3)]) (rest := []) (cfix X) (c_X3_putNumber l G cy S _ pl_2 (a3) hat_pl_2) (cwV 1 X.2.2.2.1 gX11_shelve_X3_putNumber rfl rfl rfl (by decide +kernel) ⟨Nat.le_of_ble_eq_true rfl, Nat.le_of_ble_eq_true rfl⟩) (pre_V X hw _ hat_pl_2 (by decide) rfl) rfl rfl hl.1 rfl (lv_room (Nat.le_of_ble_eq_true rfl)) dX11_shelve_72 ⟨Nat.le_of_ble_eq_true rfl, Nat.le_of_ble_eq_true rfl⟩) 0 0 (Nat.le_of_ble_eq_true rfl) (Nat.le_of_ble_eq_true rfl) (fun rr_72 S2 H locs hp hw hfr hnw => ?_)
      obtain ⟨er, ja, ji⟩ := hp
      subst er
      generalize eSg : S2 = Sg at ja ji hw
      have hat_x : At Sg x 11 := ja _ _ hat_x
      refine lv_istore (lv' := [(6, .int 1), (5, .ref pl_2), (0, .ref x), (1, .int (a1)), (2, .int (a2)), (3, .int (a3)), (4, .int (a4))]) X.1 X.2.1 dX11_shelve_75 hl (by decide) rfl (fun ls hl => ?_)
      refine lv_goto (tgt := 96) X.1 X.2.1 dX11_shelve_77 (by decide) ?_
      refine lv_iload X.1 X.2.1 dX11_shelve_96 (lv_at hl 0 rfl) ?_
      refine lv_if_eq (tgt := 111) X.1 X.2.1 dX11_shelve_98 (by decide) (fun c_98 => absurd c_98 (by decide)) (fun c_98 => ?_)
      refine lv_aload_n X.1 X.2.1 dX11_shelve_101 rfl (lv_at hl 2 rfl) ?_
      refine lv_dup X.1 X.2.1 dX11_shelve_102 rfl ?_
      refine r_get (v := .int (pI Sg 1110 x)) X hw hat_x 10 (by decide) rfl inn_X11_shelve_11 (by decide) (X.2.2.2.1 (.fieldLink RX11 321 "SilkMill" "shelved" "I") (by decide +kernel)) rfl (gv_1110 _ _) dX11_shelve_103 ?_
      refine lv_topi (fun v_1 ev_1 => ?_)
      refine lv_iconst (v := 1) X.1 X.2.1 dX11_shelve_106 (by decide) ?_
      refine lv_iadd X.1 X.2.1 dX11_shelve_107 ?_
      refine lv_topi (fun v_2 ev_2 => ?_)
      refine r_putI (v := v_2) X hw hat_x 10 1110 tyX11 (by decide) rfl inn_X11_shelve_11 tyX11_ok nmX11 (by decide) (X.2.2.2.1 (.fieldLink RX11 321 "SilkMill" "shelved" "I") (by decide +kernel)) rfl (Or.inl rfl) rfl rfl (Nat.le_of_ble_eq_true rfl) (st_1110 _ _) dX11_shelve_108 (fun H locs hw => ?_)
      generalize eS_3 : sI Sg 1110 x v_2 = S_3 at hw
      have hat_x : At S_3 x 11 := by rw [← eS_3]; exact At_sI hat_x
      have hc_4 : pI S_3 1110 x = v_2 := by rw [← eS_3]; exact pI_sI_same
      refine lv_iload X.1 X.2.1 dX11_shelve_111 (lv_at hl 0 rfl) ?_
      exact ret_z X hw hr hlocks (Nat.le_of_ble_eq_true rfl) (Nat.le_of_ble_eq_true rfl) (by decide) (if_pos ⟨b_2, Or.inl (Int32.toInt_inj.mp (w3_24.trans (by decide)))⟩).symm dX11_shelve_113
    · refine lv_tableIn (tgt := 80) X.1 X.2.1 dX11_shelve_24 (by omega) (by omega) (by rw [w3_24]; rfl) (by decide) ?_
      refine lv_aload X.1 X.2.1 dX11_shelve_80 (lv_at hl 0 rfl) ?_
      refine lv_iload_n X.1 X.2.1 dX11_shelve_82 rfl (lv_at hl 4 rfl) ?_
      refine lv_iload X.1 X.2.1 dX11_shelve_83 (lv_at hl 5 rfl) ?_
      refine k_i (rm := { frames := 3, cells := 0, slots := 0, locals := 120 }) (av := [.ref pl_2, .int (a3), .int (a4)]) X hw (va_runV (As := [.int (a3), .int (a4)]) (rest := []) (cfix X) (c_X3_putWord l G cy S _ pl_2 (a3) (a4) hfo_pl_2) (cwV 2 X.2.2.2.1 gX11_shelve_X3_putWord rfl rfl rfl (by decide +kernel) ⟨Nat.le_of_ble_eq_true rfl, Nat.le_of_ble_eq_true rfl⟩) (pre_V X hw _ hat_pl_2 (by decide) rfl) rfl rfl hl.1 rfl (lv_room (Nat.le_of_ble_eq_true rfl)) dX11_shelve_85 ⟨Nat.le_of_ble_eq_true rfl, Nat.le_of_ble_eq_true rfl⟩) 0 0 (Nat.le_of_ble_eq_true rfl) (Nat.le_of_ble_eq_true rfl) (fun rr_85 S2 H locs hp hw hfr hnw => ?_)
      obtain ⟨hr9, ja, ji⟩ := hp
      generalize eSg : S2 = Sg at ja ji hw
      have hat_x : At Sg x 11 := ja _ _ hat_x
      rcases hr9 with ⟨b_85, er_85⟩ | ⟨b_85, er_85⟩ <;> subst er_85
      · have z_85 := trivial
        refine lv_istore (lv' := [(6, .int 1), (5, .ref pl_2), (0, .ref x), (1, .int (a1)), (2, .int (a2)), (3, .int (a3)), (4, .int (a4))]) X.1 X.2.1 dX11_shelve_88 hl (by decide) rfl (fun ls hl => ?_)
        refine lv_goto (tgt := 96) X.1 X.2.1 dX11_shelve_90 (by decide) ?_
        refine lv_iload X.1 X.2.1 dX11_shelve_96 (lv_at hl 0 rfl) ?_
        refine lv_if_eq (tgt := 111) X.1 X.2.1 dX11_shelve_98 (by decide) (fun c_98 => absurd c_98 (by decide)) (fun c_98 => ?_)
        refine lv_aload_n X.1 X.2.1 dX11_shelve_101 rfl (lv_at hl 2 rfl) ?_
        refine lv_dup X.1 X.2.1 dX11_shelve_102 rfl ?_
        refine r_get (v := .int (pI Sg 1110 x)) X hw hat_x 10 (by decide) rfl inn_X11_shelve_11 (by decide) (X.2.2.2.1 (.fieldLink RX11 321 "SilkMill" "shelved" "I") (by decide +kernel)) rfl (gv_1110 _ _) dX11_shelve_103 ?_
        refine lv_topi (fun v_5 ev_5 => ?_)
        refine lv_iconst (v := 1) X.1 X.2.1 dX11_shelve_106 (by decide) ?_
        refine lv_iadd X.1 X.2.1 dX11_shelve_107 ?_
        refine lv_topi (fun v_6 ev_6 => ?_)
        refine r_putI (v := v_6) X hw hat_x 10 1110 tyX11 (by decide) rfl inn_X11_shelve_11 tyX11_ok nmX11 (by decide) (X.2.2.2.1 (.fieldLink RX11 321 "SilkMill" "shelved" "I") (by decide +kernel)) rfl (Or.inl rfl) rfl rfl (Nat.le_of_ble_eq_true rfl) (st_1110 _ _) dX11_shelve_108 (fun H locs hw => ?_)
        generalize eS_7 : sI Sg 1110 x v_6 = S_7 at hw
        have hat_x : At S_7 x 11 := by rw [← eS_7]; exact At_sI hat_x
        have hc_8 : pI S_7 1110 x = v_6 := by rw [← eS_7]; exact pI_sI_same
        refine lv_iload X.1 X.2.1 dX11_shelve_111 (lv_at hl 0 rfl) ?_
        exact ret_z X hw hr hlocks (Nat.le_of_ble_eq_true rfl) (Nat.le_of_ble_eq_true rfl) (by decide) (if_pos ⟨b_2, Or.inr ⟨Int32.toInt_inj.mp (w3_24.trans (by decide)), b_85⟩⟩).symm dX11_shelve_113
      · have z_85 := trivial
        refine lv_istore (lv' := [(6, .int 0), (5, .ref pl_2), (0, .ref x), (1, .int (a1)), (2, .int (a2)), (3, .int (a3)), (4, .int (a4))]) X.1 X.2.1 dX11_shelve_88 hl (by decide) rfl (fun ls hl => ?_)
        refine lv_goto (tgt := 96) X.1 X.2.1 dX11_shelve_90 (by decide) ?_
        refine lv_iload X.1 X.2.1 dX11_shelve_96 (lv_at hl 0 rfl) ?_
        refine lv_if_eq (tgt := 111) X.1 X.2.1 dX11_shelve_98 (by decide) (fun c_98 => ?_) (fun c_98 => absurd c_98 (by decide))
        refine lv_iload X.1 X.2.1 dX11_shelve_111 (lv_at hl 0 rfl) ?_
        exact ret_z X hw hr hlocks (Nat.le_of_ble_eq_true rfl) (Nat.le_of_ble_eq_true rfl) (by decide) (if_neg (fun h => by rcases h.2 with e | e; · rw [e] at w3_24; revert w3_24; decide; · exact b_85 e.2)).symm dX11_shelve_113
  · have z_2 := trivial
    refine W.eq (g2 := F0 m 5 ls (.null :: [])) rfl ?_
    refine lv_astoreN (lv' := [(5, .null), (0, .ref x), (1, .int (a1)), (2, .int (a2)), (3, .int (a3)), (4, .int (a4))]) X.1 X.2.1 dX11_shelve_5 hl (by decide) rfl (fun ls hl => ?_)
    refine lv_aloadN X.1 X.2.1 dX11_shelve_7 (lv_at hl 0 rfl) ?_
    refine lv_ifnullN (tgt := 21) X.1 X.2.1 dX11_shelve_9 (by decide) ?_
    refine lv_iconst (v := 0) X.1 X.2.1 dX11_shelve_21 (by decide) ?_
    exact ret_z X hw hr hlocks (Nat.le_of_ble_eq_true rfl) (Nat.le_of_ble_eq_true rfl) (by decide) (if_neg (fun h => b_2 h.1)).symm dX11_shelve_22
set_option maxHeartbeats 4000000 in
set_option maxRecDepth 100000 in
theorem c_X11_next (l : Launch) (G : va_G) (cy : Nat → ClassId) (S : PS) (sz : Nat) (v : Int32)  : Ci l yX11_next wsX11_next ({ frames := 1, cells := 0, slots := 0, locals := 40 }) G cy S sz [.int (v)] (fun (r : Int32) (S9 : PS) => S = S9) := by
  refine ent_m (cc := cX11_next) (maxL := 1) (ret := (some .int)) (by decide) rfl (Nat.le_of_ble_eq_true rfl) ?_
  intro p e s m below meth c ls X hr hlocks hin hw hl hsz
  subst hsz
  have X : Cx p c cX11_next 1 s [.int (v)].toArray wsX11_next RX11 m G cy (AS S s.heap.size) := X
  have hl : lv_has ls 1 [(0, .int (v))] := hl
  refine lv_iload_n X.1 X.2.1 dX11_next_0 rfl (lv_at hl 0 rfl) ?_
  refine lv_ldcw (v := 1103515245) X.1 X.2.1 X.2.2.2.2.1 (X.2.2.2.1 (.constant RX11 380 1103515245) (by decide +kernel)) dX11_next_1 ?_
  refine lv_imul X.1 X.2.1 dX11_next_4 ?_
  refine lv_topi (fun v_1 ev_1 => ?_)
  refine lv_sipush (v := 12345) X.1 X.2.1 dX11_next_5 (by decide) ?_
  refine lv_iadd X.1 X.2.1 dX11_next_8 ?_
  refine lv_topi (fun v_2 ev_2 => ?_)
  exact ret_i X hw hr hlocks (Nat.le_of_ble_eq_true rfl) (Nat.le_of_ble_eq_true rfl) rfl dX11_next_9
set_option maxHeartbeats 4000000 in
set_option maxRecDepth 100000 in
theorem c_X0_init (l : Launch) (G : va_G) (cy : Nat → ClassId) (S : PS) (sz : Nat) (o : Nat) (a1 : Int32) (a2 : Int32) (a3 : Int32) (a4 : Int32) (a5 : Int32) (a6 : Int32) (hat_o : At S o 0) (hz : ∀ g, pI S g o = 0) : Cv l yX0_init wsX0_init ({ frames := 2, cells := 0, slots := 0, locals := 80 }) G cy S sz [.ref o, .int (a1), .int (a2), .int (a3), .int (a4), .int (a5), .int (a6)] (fun (S9 : PS) => Kp S S9 (fun a => a = o) ∧ At S9 o 0) := by
  refine ent_m (cc := cX0_init) (maxL := 8) (ret := none) (by decide) rfl (Nat.le_of_ble_eq_true rfl) ?_
  intro p e s m below meth c ls X hr hlocks hin hw hl hsz
  subst hsz
  have X : Cx p c cX0_init 8 s [.ref o, .int (a1), .int (a2), .int (a3), .int (a4), .int (a5), .int (a6)].toArray wsX0_init RX0 m G cy (AS S s.heap.size) := X
  have hl : lv_has ls 8 [(0, .ref o), (1, .int (a1)), (2, .int (a2)), (3, .int (a3)), (4, .int (a4)), (5, .int (a5)), (6, .int (a6))] := hl
  have hkp : Kp S S (fun a => a = o) := Kp_rf S _
  refine lv_aload_n X.1 X.2.1 dX0_init_0 rfl (lv_at hl 0 rfl) ?_
  refine W.objInit X.1 X.2.1 X.2.2.2.2.1 (X.2.2.2.1 (.methodLink RX0 3 objectInit) (by decide +kernel)) (X.2.2.2.1 (.instanceMethod objectInit) (by decide +kernel)) (X.2.2.2.1 (.code objectInit ⟨#[0xb1]⟩ 1 none) (by decide +kernel)) rfl (hl.1.trans X.2.2.1.symm) rfl dX0_init_1 (Nat.le_of_ble_eq_true rfl) (Nat.le_of_ble_eq_true rfl) ?_
  refine W.eq (g2 := F0 m 4 ls ([])) rfl ?_
  refine lv_aload_n X.1 X.2.1 dX0_init_4 rfl (lv_at hl 0 rfl) ?_
  refine lv_iconst (v := 0) X.1 X.2.1 dX0_init_5 (by decide) ?_
  refine r_putI (v := 0) X hw hat_o 3 3 tyX0 (by decide) rfl inn_X0_init_0 tyX0_ok nmX0 (by decide) (X.2.2.2.1 (.fieldLink RX0 9 "SilkMill$Cocoon" "stand" "I") (by decide +kernel)) rfl (Or.inl rfl) rfl rfl (Nat.le_of_ble_eq_true rfl) (st_3 _ _) dX0_init_6 (fun H locs hw => ?_)
  generalize eS_1 : sI S 3 o 0 = S_1 at hw
  have hat_o : At S_1 o 0 := by rw [← eS_1]; exact At_sI hat_o
  have hkp : Kp S S_1 (fun a => a = o) := by rw [← eS_1]; exact Kp_sI hkp (Or.inl rfl)
  have hc_2 : pI S_1 3 o = 0 := by rw [← eS_1]; exact pI_sI_same
  refine lv_aload_n X.1 X.2.1 dX0_init_9 rfl (lv_at hl 0 rfl) ?_
  refine lv_iconst (v := (-1)) X.1 X.2.1 dX0_init_10 (by decide) ?_
  refine r_putI (v := (-1)) X hw hat_o 5 5 tyX0 (by decide) rfl inn_X0_init_0 tyX0_ok nmX0 (by decide) (X.2.2.2.1 (.fieldLink RX0 15 "SilkMill$Cocoon" "potNumber" "I") (by decide +kernel)) rfl (Or.inl rfl) rfl rfl (Nat.le_of_ble_eq_true rfl) (st_5 _ _) dX0_init_11 (fun H locs hw => ?_)
  generalize eS_3 : sI S_1 5 o (-1) = S_3 at hw
  have hat_o : At S_3 o 0 := by rw [← eS_3]; exact At_sI hat_o
  have hc_2 : pI S_3 3 o = 0 := by rw [← eS_3]; exact (pI_sI_nf (by decide)).trans hc_2
  have hkp : Kp S S_3 (fun a => a = o) := by rw [← eS_3]; exact Kp_sI hkp (Or.inl rfl)
  have hc_4 : pI S_3 5 o = (-1) := by rw [← eS_3]; exact pI_sI_same
  refine lv_aload_n X.1 X.2.1 dX0_init_14 rfl (lv_at hl 0 rfl) ?_
  refine lv_iload_n X.1 X.2.1 dX0_init_15 rfl (lv_at hl 1 rfl) ?_
  refine r_putI (v := a1) X hw hat_o 0 0 tyX0 (by decide) rfl inn_X0_init_0 tyX0_ok nmX0 (by decide) (X.2.2.2.1 (.fieldLink RX0 18 "SilkMill$Cocoon" "lotNumber" "I") (by decide +kernel)) rfl (Or.inr ⟨rfl, hin, rfl⟩) rfl rfl (Nat.le_of_ble_eq_true rfl) (st_0 _ _) dX0_init_16 (fun H locs hw => ?_)
  generalize eS_5 : sI S_3 0 o a1 = S_5 at hw
  have hat_o : At S_5 o 0 := by rw [← eS_5]; exact At_sI hat_o
  have hc_2 : pI S_5 3 o = 0 := by rw [← eS_5]; exact (pI_sI_nf (by decide)).trans hc_2
  have hc_4 : pI S_5 5 o = (-1) := by rw [← eS_5]; exact (pI_sI_nf (by decide)).trans hc_4
  have hkp : Kp S S_5 (fun a => a = o) := by rw [← eS_5]; exact Kp_sI hkp (Or.inl rfl)
  have hc_6 : pI S_5 0 o = a1 := by rw [← eS_5]; exact pI_sI_same
  refine lv_aload_n X.1 X.2.1 dX0_init_19 rfl (lv_at hl 0 rfl) ?_
  refine lv_iload_n X.1 X.2.1 dX0_init_20 rfl (lv_at hl 2 rfl) ?_
  refine r_putI (v := a2) X hw hat_o 1 1 tyX0 (by decide) rfl inn_X0_init_0 tyX0_ok nmX0 (by decide) (X.2.2.2.1 (.fieldLink RX0 21 "SilkMill$Cocoon" "index" "I") (by decide +kernel)) rfl (Or.inr ⟨rfl, hin, rfl⟩) rfl rfl (Nat.le_of_ble_eq_true rfl) (st_1 _ _) dX0_init_21 (fun H locs hw => ?_)
  generalize eS_7 : sI S_5 1 o a2 = S_7 at hw
  have hat_o : At S_7 o 0 := by rw [← eS_7]; exact At_sI hat_o
  have hc_2 : pI S_7 3 o = 0 := by rw [← eS_7]; exact (pI_sI_nf (by decide)).trans hc_2
  have hc_4 : pI S_7 5 o = (-1) := by rw [← eS_7]; exact (pI_sI_nf (by decide)).trans hc_4
  have hc_6 : pI S_7 0 o = a1 := by rw [← eS_7]; exact (pI_sI_nf (by decide)).trans hc_6
  have hkp : Kp S S_7 (fun a => a = o) := by rw [← eS_7]; exact Kp_sI hkp (Or.inl rfl)
  have hc_8 : pI S_7 1 o = a2 := by rw [← eS_7]; exact pI_sI_same
  refine lv_aload_n X.1 X.2.1 dX0_init_24 rfl (lv_at hl 0 rfl) ?_
  refine lv_iload_n X.1 X.2.1 dX0_init_25 rfl (lv_at hl 3 rfl) ?_
  refine r_putI (v := a3) X hw hat_o 7 7 tyX0 (by decide) rfl inn_X0_init_0 tyX0_ok nmX0 (by decide) (X.2.2.2.1 (.fieldLink RX0 24 "SilkMill$Cocoon" "seed" "I") (by decide +kernel)) rfl (Or.inr ⟨rfl, hin, rfl⟩) rfl rfl (Nat.le_of_ble_eq_true rfl) (st_7 _ _) dX0_init_26 (fun H locs hw => ?_)
  generalize eS_9 : sI S_7 7 o a3 = S_9 at hw
  have hat_o : At S_9 o 0 := by rw [← eS_9]; exact At_sI hat_o
  have hc_2 : pI S_9 3 o = 0 := by rw [← eS_9]; exact (pI_sI_nf (by decide)).trans hc_2
  have hc_4 : pI S_9 5 o = (-1) := by rw [← eS_9]; exact (pI_sI_nf (by decide)).trans hc_4
  have hc_6 : pI S_9 0 o = a1 := by rw [← eS_9]; exact (pI_sI_nf (by decide)).trans hc_6
  have hc_8 : pI S_9 1 o = a2 := by rw [← eS_9]; exact (pI_sI_nf (by decide)).trans hc_8
  have hkp : Kp S S_9 (fun a => a = o) := by rw [← eS_9]; exact Kp_sI hkp (Or.inl rfl)
  have hc_10 : pI S_9 7 o = a3 := by rw [← eS_9]; exact pI_sI_same
  refine lv_aload_n X.1 X.2.1 dX0_init_29 rfl (lv_at hl 0 rfl) ?_
  refine lv_iload X.1 X.2.1 dX0_init_30 (lv_at hl 6 rfl) ?_
  refine r_putI (v := a6) X hw hat_o 9 9 tyX0 (by decide) rfl inn_X0_init_0 tyX0_ok nmX0 (by decide) (X.2.2.2.1 (.fieldLink RX0 27 "SilkMill$Cocoon" "frail" "I") (by decide +kernel)) rfl (Or.inr ⟨rfl, hin, rfl⟩) rfl rfl (Nat.le_of_ble_eq_true rfl) (st_9 _ _) dX0_init_32 (fun H locs hw => ?_)
  generalize eS_11 : sI S_9 9 o a6 = S_11 at hw
  have hat_o : At S_11 o 0 := by rw [← eS_11]; exact At_sI hat_o
  have hc_2 : pI S_11 3 o = 0 := by rw [← eS_11]; exact (pI_sI_nf (by decide)).trans hc_2
  have hc_4 : pI S_11 5 o = (-1) := by rw [← eS_11]; exact (pI_sI_nf (by decide)).trans hc_4
  have hc_6 : pI S_11 0 o = a1 := by rw [← eS_11]; exact (pI_sI_nf (by decide)).trans hc_6
  have hc_8 : pI S_11 1 o = a2 := by rw [← eS_11]; exact (pI_sI_nf (by decide)).trans hc_8
  have hc_10 : pI S_11 7 o = a3 := by rw [← eS_11]; exact (pI_sI_nf (by decide)).trans hc_10
  have hkp : Kp S S_11 (fun a => a = o) := by rw [← eS_11]; exact Kp_sI hkp (Or.inl rfl)
  have hc_12 : pI S_11 9 o = a6 := by rw [← eS_11]; exact pI_sI_same
  refine lv_iload_n X.1 X.2.1 dX0_init_35 rfl (lv_at hl 3 rfl) ?_
  refine lv_sipush (v := 7919) X.1 X.2.1 dX0_init_36 (by decide) ?_
  refine lv_iload_n X.1 X.2.1 dX0_init_39 rfl (lv_at hl 2 rfl) ?_
  refine lv_imul X.1 X.2.1 dX0_init_40 ?_
  refine lv_topi (fun v_13 ev_13 => ?_)
  refine lv_iadd X.1 X.2.1 dX0_init_41 ?_
  refine lv_topi (fun v_14 ev_14 => ?_)
  refine k_i (rm := { frames := 1, cells := 0, slots := 0, locals := 40 }) (av := [.int (v_14)]) X hw (va_runSN (As := [.int (v_14)]) (rest := []) (cfix X) (c_X11_next l G cy S_11 _ (v_14)) ⟨(va_cnB (host := RX11) 1 X.2.2.2.1 gX0_init_X11_next_n30 rfl rfl rfl (X.2.2.2.2.2.2.2.2.1 (RX0, 30, yX11_next) (by decide +kernel)) (X.2.2.2.1 (.initialized RX11) (by decide +kernel)) (by decide +kernel) ⟨Nat.le_of_ble_eq_true rfl, Nat.le_of_ble_eq_true rfl⟩), X.2.2.2.1 (.static yX11_next) (by decide +kernel), trivial⟩ (pre_S X hw _) rfl rfl hl.1 rfl (lv_room (Nat.le_of_ble_eq_true rfl)) dX0_init_42 ⟨Nat.le_of_ble_eq_true rfl, Nat.le_of_ble_eq_true rfl⟩) 0 0 (Nat.le_of_ble_eq_true rfl) (Nat.le_of_ble_eq_true rfl) (fun rr_42 S2 H locs hp hw hfr hnw => ?_)
  subst hp
  refine lv_istore (lv' := [(7, .int (rr_42)), (0, .ref o), (1, .int (a1)), (2, .int (a2)), (3, .int (a3)), (4, .int (a4)), (5, .int (a5)), (6, .int (a6))]) X.1 X.2.1 dX0_init_45 hl (by decide) rfl (fun ls hl => ?_)
  refine lv_aload_n X.1 X.2.1 dX0_init_47 rfl (lv_at hl 1 rfl) ?_
  refine lv_bipush (v := 20) X.1 X.2.1 dX0_init_48 (by decide) ?_
  refine lv_iload X.1 X.2.1 dX0_init_50 (lv_at hl 6 rfl) ?_
  refine lv_iload X.1 X.2.1 dX0_init_52 (lv_at hl 0 rfl) ?_
  refine lv_bipush (v := 16) X.1 X.2.1 dX0_init_54 (by decide) ?_
  refine lv_iushr X.1 X.2.1 dX0_init_56 rfl ?_
  refine lv_topi (fun v_15 ev_15 => ?_)
  refine lv_bipush (v := 41) X.1 X.2.1 dX0_init_57 (by decide) ?_
  refine lv_irem X.1 X.2.1 dX0_init_59 (by decide) ?_
  refine lv_topi (fun v_16 ev_16 => ?_)
  refine lv_iadd X.1 X.2.1 dX0_init_60 ?_
  refine lv_topi (fun v_17 ev_17 => ?_)
  refine lv_bipush (v := 20) X.1 X.2.1 dX0_init_61 (by decide) ?_
  refine lv_isub X.1 X.2.1 dX0_init_63 ?_
  refine lv_topi (fun v_18 ev_18 => ?_)
  refine va_mmax X.1 X.2.1 (X.2.2.1.trans hl.1.symm) X.2.2.2.2.1 (X.2.2.2.1 (.methodLink RX0 34 Lib.Math.max.name) (by decide +kernel)) (X.2.2.2.1 (.static Lib.Math.max.name) (by decide +kernel)) (X.2.2.2.1 (.initialized "java/lang/Math") (by decide +kernel)) (X.2.2.2.1 (.code Lib.Math.max.name Lib.Math.max.code 2 (some .int)) (by decide +kernel)) (Nat.le_of_ble_eq_true rfl) (Nat.le_of_ble_eq_true rfl) (Nat.le_of_ble_eq_true rfl) (Nat.le_of_ble_eq_true rfl) dX0_init_64 ?_
  refine lv_topi (fun v_19 ev_19 => ?_)
  refine r_putI (v := v_19) X hw hat_o 2 2 tyX0 (by decide) rfl inn_X0_init_0 tyX0_ok nmX0 (by decide) (X.2.2.2.1 (.fieldLink RX0 40 "SilkMill$Cocoon" "length" "I") (by decide +kernel)) rfl (Or.inr ⟨rfl, hin, rfl⟩) rfl rfl (Nat.le_of_ble_eq_true rfl) (st_2 _ _) dX0_init_67 (fun H locs hw => ?_)
  generalize eS_20 : sI S_11 2 o v_19 = S_20 at hw
  have hat_o : At S_20 o 0 := by rw [← eS_20]; exact At_sI hat_o
  have hc_2 : pI S_20 3 o = 0 := by rw [← eS_20]; exact (pI_sI_nf (by decide)).trans hc_2
  have hc_4 : pI S_20 5 o = (-1) := by rw [← eS_20]; exact (pI_sI_nf (by decide)).trans hc_4
  have hc_6 : pI S_20 0 o = a1 := by rw [← eS_20]; exact (pI_sI_nf (by decide)).trans hc_6
  have hc_8 : pI S_20 1 o = a2 := by rw [← eS_20]; exact (pI_sI_nf (by decide)).trans hc_8
  have hc_10 : pI S_20 7 o = a3 := by rw [← eS_20]; exact (pI_sI_nf (by decide)).trans hc_10
  have hc_12 : pI S_20 9 o = a6 := by rw [← eS_20]; exact (pI_sI_nf (by decide)).trans hc_12
  have hkp : Kp S S_20 (fun a => a = o) := by rw [← eS_20]; exact Kp_sI hkp (Or.inl rfl)
  have hc_21 : pI S_20 2 o = v_19 := by rw [← eS_20]; exact pI_sI_same
  refine lv_iload X.1 X.2.1 dX0_init_70 (lv_at hl 0 rfl) ?_
  refine k_i (rm := { frames := 1, cells := 0, slots := 0, locals := 40 }) (av := [.int (rr_42)]) X hw (va_runSN (As := [.int (rr_42)]) (rest := []) (cfix X) (c_X11_next l G cy S_20 _ (rr_42)) ⟨(va_cnB (host := RX11) 1 X.2.2.2.1 gX0_init_X11_next_n30 rfl rfl rfl (X.2.2.2.2.2.2.2.2.1 (RX0, 30, yX11_next) (by decide +kernel)) (X.2.2.2.1 (.initialized RX11) (by decide +kernel)) (by decide +kernel) ⟨Nat.le_of_ble_eq_true rfl, Nat.le_of_ble_eq_true rfl⟩), X.2.2.2.1 (.static yX11_next) (by decide +kernel), trivial⟩ (pre_S X hw _) rfl rfl hl.1 rfl (lv_room (Nat.le_of_ble_eq_true rfl)) dX0_init_72 ⟨Nat.le_of_ble_eq_true rfl, Nat.le_of_ble_eq_true rfl⟩) 0 0 (Nat.le_of_ble_eq_true rfl) (Nat.le_of_ble_eq_true rfl) (fun rr_72 S2 H locs hp hw hfr hnw => ?_)
  subst hp
  refine lv_istore (lv' := [(7, .int (rr_72)), (0, .ref o), (1, .int (a1)), (2, .int (a2)), (3, .int (a3)), (4, .int (a4)), (5, .int (a5)), (6, .int (a6))]) X.1 X.2.1 dX0_init_75 hl (by decide) rfl (fun ls hl => ?_)
  refine lv_aload_n X.1 X.2.1 dX0_init_77 rfl (lv_at hl 1 rfl) ?_
  refine lv_iload X.1 X.2.1 dX0_init_78 (lv_at hl 5 rfl) ?_
  refine lv_iload X.1 X.2.1 dX0_init_80 (lv_at hl 0 rfl) ?_
  refine lv_bipush (v := 16) X.1 X.2.1 dX0_init_82 (by decide) ?_
  refine lv_iushr X.1 X.2.1 dX0_init_84 rfl ?_
  refine lv_topi (fun v_22 ev_22 => ?_)
  refine lv_bipush (v := 9) X.1 X.2.1 dX0_init_85 (by decide) ?_
  refine lv_irem X.1 X.2.1 dX0_init_87 (by decide) ?_
  refine lv_topi (fun v_23 ev_23 => ?_)
  refine lv_iadd X.1 X.2.1 dX0_init_88 ?_
  refine lv_topi (fun v_24 ev_24 => ?_)
  refine lv_iconst (v := 4) X.1 X.2.1 dX0_init_89 (by decide) ?_
  refine lv_isub X.1 X.2.1 dX0_init_90 ?_
  refine lv_topi (fun v_25 ev_25 => ?_)
  refine r_putI (v := v_25) X hw hat_o 8 8 tyX0 (by decide) rfl inn_X0_init_0 tyX0_ok nmX0 (by decide) (X.2.2.2.1 (.fieldLink RX0 43 "SilkMill$Cocoon" "base" "I") (by decide +kernel)) rfl (Or.inr ⟨rfl, hin, rfl⟩) rfl rfl (Nat.le_of_ble_eq_true rfl) (st_8 _ _) dX0_init_91 (fun H locs hw => ?_)
  generalize eS_26 : sI S_20 8 o v_25 = S_26 at hw
  have hat_o : At S_26 o 0 := by rw [← eS_26]; exact At_sI hat_o
  have hc_2 : pI S_26 3 o = 0 := by rw [← eS_26]; exact (pI_sI_nf (by decide)).trans hc_2
  have hc_4 : pI S_26 5 o = (-1) := by rw [← eS_26]; exact (pI_sI_nf (by decide)).trans hc_4
  have hc_6 : pI S_26 0 o = a1 := by rw [← eS_26]; exact (pI_sI_nf (by decide)).trans hc_6
  have hc_8 : pI S_26 1 o = a2 := by rw [← eS_26]; exact (pI_sI_nf (by decide)).trans hc_8
  have hc_10 : pI S_26 7 o = a3 := by rw [← eS_26]; exact (pI_sI_nf (by decide)).trans hc_10
  have hc_12 : pI S_26 9 o = a6 := by rw [← eS_26]; exact (pI_sI_nf (by decide)).trans hc_12
  have hc_21 : pI S_26 2 o = v_19 := by rw [← eS_26]; exact (pI_sI_nf (by decide)).trans hc_21
  have hkp : Kp S S_26 (fun a => a = o) := by rw [← eS_26]; exact Kp_sI hkp (Or.inl rfl)
  have hc_27 : pI S_26 8 o = v_25 := by rw [← eS_26]; exact pI_sI_same
  exact ret_v X hw hr hlocks (Nat.le_of_ble_eq_true rfl) (Nat.le_of_ble_eq_true rfl) ⟨hkp, hat_o⟩ dX0_init_94
set_option maxHeartbeats 4000000 in
set_option maxRecDepth 100000 in
theorem c_X11_lot (l : Launch) (G : va_G) (cy : Nat → ClassId) (S : PS) (sz : Nat) (x : Nat) (a1 : Int32) (a2 : Int32) (a3 : Int32) (a4 : Int32) (a5 : Int32) (hF : FX S x) : Ci l yX11_lot wsX11_lot ({ frames := 4, cells := 60, slots := 600, locals := 160 }) G cy S sz [.ref x, .int (a1), .int (a2), .int (a3), .int (a4), .int (a5)] (fun (r : Int32) (S9 : PS) => r = lotV a1 a3 a4 a5) := by
  refine ent_m (cc := cX11_lot) (maxL := 7) (ret := (some .int)) (by decide) rfl (Nat.le_of_ble_eq_true rfl) ?_
  intro p e s m below meth c ls X hr hlocks hin hw hl hsz
  subst hsz
  have X : Cx p c cX11_lot 7 s [.ref x, .int (a1), .int (a2), .int (a3), .int (a4), .int (a5)].toArray wsX11_lot RX11 m G cy (AS S s.heap.size) := X
  have hl : lv_has ls 7 [(0, .ref x), (1, .int (a1)), (2, .int (a2)), (3, .int (a3)), (4, .int (a4)), (5, .int (a5))] := hl
  have hF0 := hF
  obtain ⟨hat_x, ci_lots, ci_pots, ci_shv, ⟨cs, rf_cs, hat_cs, ln_cs⟩, ⟨lz, rf_lz, hat_lz, ln_lz⟩, ⟨ps, rf_ps, hat_ps, ln_ps⟩, ⟨tp, rf_tp, hat_tp, ci_tsz, ci_tfp, ⟨tb, rf_tb, hat_tb, ln_tb⟩⟩, ⟨st, rf_st, hat_st, ci_st, ⟨pr, rf_pr, hat_pr, ln_pr⟩, ⟨mx, rf_mx, hat_mx⟩⟩, ⟨dr, rf_dr, hat_dr, ci_dsz⟩, sh, rf_sh, hat_sh, ln_sh, hpl⟩ := hF
  have hF := hF0
  refine lv_aload_n X.1 X.2.1 dX11_lot_0 rfl (lv_at hl 0 rfl) ?_
  refine r_get (v := .int 0) X hw hat_x 2 (by decide) rfl inn_X11_lot_11 (by decide) (X.2.2.2.1 (.fieldLink RX11 63 "SilkMill" "lots" "I") (by decide +kernel)) rfl ((gv_1102 _ _).trans (congrArg (fun z => some (Value.int z)) ci_lots)) dX11_lot_1 ?_
  refine lv_bipush (v := 10) X.1 X.2.1 dX11_lot_4 (by decide) ?_
  refine lv_icmp_ge (tgt := 55) X.1 X.2.1 dX11_lot_6 (by decide) (fun c_6 => absurd c_6 (by decide)) (fun c_6 => ?_)
  refine lv_iload_n X.1 X.2.1 dX11_lot_9 rfl (lv_at hl 1 rfl) ?_
  refine lv_iconst (v := 1) X.1 X.2.1 dX11_lot_10 (by decide) ?_
  refine lv_bipush (v := 60) X.1 X.2.1 dX11_lot_11 (by decide) ?_
  refine k_i (rm := { frames := 1, cells := 0, slots := 0, locals := 40 }) (av := [.int (a1), .int 1, .int 60]) X hw (va_runS (As := [.int (a1), .int 1, .int 60]) (rest := []) (cfix X) (c_X11_isWithin l G cy S _ (a1) (1) (60)) (cwS 3 X.2.2.2.1 gX11_lot_X11_isWithin rfl rfl rfl (by decide +kernel) ⟨Nat.le_of_ble_eq_true rfl, Nat.le_of_ble_eq_true rfl⟩) (pre_S X hw _) rfl rfl hl.1 rfl (lv_room (Nat.le_of_ble_eq_true rfl)) dX11_lot_13 ⟨Nat.le_of_ble_eq_true rfl, Nat.le_of_ble_eq_true rfl⟩) 0 0 (Nat.le_of_ble_eq_true rfl) (Nat.le_of_ble_eq_true rfl) (fun rr_13 S2 H locs hp hw hfr hnw => ?_)
  obtain ⟨e2_13, hp⟩ := hp
  subst e2_13
  rcases hp with ⟨b_13, er_13⟩ | ⟨b_13, er_13⟩ <;> subst er_13
  · have z_13 := trivial
    refine lv_if_eq (tgt := 55) X.1 X.2.1 dX11_lot_16 (by decide) (fun c_16 => absurd c_16 (by decide)) (fun c_16 => ?_)
    refine lv_iload_n X.1 X.2.1 dX11_lot_19 rfl (lv_at hl 3 rfl) ?_
    refine lv_bipush (v := 20) X.1 X.2.1 dX11_lot_20 (by decide) ?_
    refine lv_bipush (v := 60) X.1 X.2.1 dX11_lot_22 (by decide) ?_
    refine k_i (rm := { frames := 1, cells := 0, slots := 0, locals := 40 }) (av := [.int (a3), .int 20, .int 60]) X hw (va_runS (As := [.int (a3), .int 20, .int 60]) (rest := []) (cfix X) (c_X11_isWithin l G cy S _ (a3) (20) (60)) (cwS 3 X.2.2.2.1 gX11_lot_X11_isWithin rfl rfl rfl (by decide +kernel) ⟨Nat.le_of_ble_eq_true rfl, Nat.le_of_ble_eq_true rfl⟩) (pre_S X hw _) rfl rfl hl.1 rfl (lv_room (Nat.le_of_ble_eq_true rfl)) dX11_lot_24 ⟨Nat.le_of_ble_eq_true rfl, Nat.le_of_ble_eq_true rfl⟩) 0 0 (Nat.le_of_ble_eq_true rfl) (Nat.le_of_ble_eq_true rfl) (fun rr_24 S2 H locs hp hw hfr hnw => ?_)
    obtain ⟨e2_24, hp⟩ := hp
    subst e2_24
    rcases hp with ⟨b_24, er_24⟩ | ⟨b_24, er_24⟩ <;> subst er_24
    · have z_24 := trivial
      refine lv_if_eq (tgt := 55) X.1 X.2.1 dX11_lot_27 (by decide) (fun c_27 => absurd c_27 (by decide)) (fun c_27 => ?_)
      refine lv_iload X.1 X.2.1 dX11_lot_30 (lv_at hl 4 rfl) ?_
      refine lv_bipush (v := 40) X.1 X.2.1 dX11_lot_32 (by decide) ?_
      refine lv_sipush (v := 200) X.1 X.2.1 dX11_lot_34 (by decide) ?_
      refine k_i (rm := { frames := 1, cells := 0, slots := 0, locals := 40 }) (av := [.int (a4), .int 40, .int 200]) X hw (va_runS (As := [.int (a4), .int 40, .int 200]) (rest := []) (cfix X) (c_X11_isWithin l G cy S _ (a4) (40) (200)) (cwS 3 X.2.2.2.1 gX11_lot_X11_isWithin rfl rfl rfl (by decide +kernel) ⟨Nat.le_of_ble_eq_true rfl, Nat.le_of_ble_eq_true rfl⟩) (pre_S X hw _) rfl rfl hl.1 rfl (lv_room (Nat.le_of_ble_eq_true rfl)) dX11_lot_37 ⟨Nat.le_of_ble_eq_true rfl, Nat.le_of_ble_eq_true rfl⟩) 0 0 (Nat.le_of_ble_eq_true rfl) (Nat.le_of_ble_eq_true rfl) (fun rr_37 S2 H locs hp hw hfr hnw => ?_)
      obtain ⟨e2_37, hp⟩ := hp
      subst e2_37
      rcases hp with ⟨b_37, er_37⟩ | ⟨b_37, er_37⟩ <;> subst er_37
      · have z_37 := trivial
        refine lv_if_eq (tgt := 55) X.1 X.2.1 dX11_lot_40 (by decide) (fun c_40 => absurd c_40 (by decide)) (fun c_40 => ?_)
        refine lv_iload X.1 X.2.1 dX11_lot_43 (lv_at hl 5 rfl) ?_
        refine lv_iconst (v := 0) X.1 X.2.1 dX11_lot_45 (by decide) ?_
        refine lv_sipush (v := 200) X.1 X.2.1 dX11_lot_46 (by decide) ?_
        refine k_i (rm := { frames := 1, cells := 0, slots := 0, locals := 40 }) (av := [.int (a5), .int 0, .int 200]) X hw (va_runS (As := [.int (a5), .int 0, .int 200]) (rest := []) (cfix X) (c_X11_isWithin l G cy S _ (a5) (0) (200)) (cwS 3 X.2.2.2.1 gX11_lot_X11_isWithin rfl rfl rfl (by decide +kernel) ⟨Nat.le_of_ble_eq_true rfl, Nat.le_of_ble_eq_true rfl⟩) (pre_S X hw _) rfl rfl hl.1 rfl (lv_room (Nat.le_of_ble_eq_true rfl)) dX11_lot_49 ⟨Nat.le_of_ble_eq_true rfl, Nat.le_of_ble_eq_true rfl⟩) 0 0 (Nat.le_of_ble_eq_true rfl) (Nat.le_of_ble_eq_true rfl) (fun rr_49 S2 H locs hp hw hfr hnw => ?_)
        obtain ⟨e2_49, hp⟩ := hp
        subst e2_49
        rcases hp with ⟨b_49, er_49⟩ | ⟨b_49, er_49⟩ <;> subst er_49
        · have z_49 := trivial
          refine lv_if_ne (tgt := 57) X.1 X.2.1 dX11_lot_52 (by decide) (fun c_52 => ?_) (fun c_52 => absurd c_52 (by decide))
          refine lv_iconst (v := 0) X.1 X.2.1 dX11_lot_57 (by decide) ?_
          refine lv_istore (lv' := [(6, .int 0), (0, .ref x), (1, .int (a1)), (2, .int (a2)), (3, .int (a3)), (4, .int (a4)), (5, .int (a5))]) X.1 X.2.1 dX11_lot_58 hl (by decide) rfl (fun ls hl => ?_)
          obtain ⟨N, hN60, ea1⟩ := wi_nat b_13
          have loop : ∀ (d i : Nat) (T : PS) (H : Heap) (locs : List Loc) (ls : Array Slot), i + d = N → At T x 11 → pI T 1102 x = 0 → pR T 1100 x = some cs → At T cs 16 → pN T cs = 600 → pR T 1101 x = some lz → At T lz 14 → pN T lz = 10 → Wd G cy (AS S s.heap.size) s.heap T H locs → lv_has ls 7 [(6, .int (nI i)), (0, .ref x), (1, .int (a1)), (2, .int (a2)), (3, .int (a3)), (4, .int (a4)), (5, .int (a5))] → W p l e ({ frames := 4, cells := 60, slots := 600, locals := 160 }) s m [.ref x, .int (a1), .int (a2), .int (a3), .int (a4), .int (a5)].toArray below meth c H locs i (10 * i) (MQ below (va_Qi (fun (r : Int32) (S9 : PS) => r = lotV a1 a3 a4 a5) (Bw G cy S s.heap.size) (AS S s.heap.size)) [.ref x, .int (a1), .int (a2), .int (a3), .int (a4), .int (a5)].toArray s 60 600 (AS S s.heap.size)) (F0 m 60 ls []) := by
            intro d
            induction d with
            | zero =>
              intro i T H locs ls hi hat_x ci_lots rf_cs hat_cs ln_cs rf_lz hat_lz ln_lz hw hl
              refine lv_iload X.1 X.2.1 dX11_lot_60 (lv_at hl 0 rfl) ?_
              refine lv_iload_n X.1 X.2.1 dX11_lot_62 rfl (lv_at hl 2 rfl) ?_
              refine lv_icmp_ge (tgt := 106) X.1 X.2.1 dX11_lot_63 (by decide) (fun c_63 => ?_) (fun c_63 => absurd (by rw [ea1]; exact nI_le (by omega) (by omega)) c_63)
              refine lv_aload_n X.1 X.2.1 dX11_lot_106 rfl (lv_at hl 1 rfl) ?_
              refine r_getR (g := 1101) X hw hat_x 1 rf_lz (by decide) rfl inn_X11_lot_11 (by decide) (X.2.2.2.1 (.fieldLink RX11 15 "SilkMill" "lotSizes" "[I") (by decide +kernel)) rfl (gv_1101 _ _) dX11_lot_107 ?_
              refine lv_aload_n X.1 X.2.1 dX11_lot_110 rfl (lv_at hl 1 rfl) ?_
              refine r_get (v := .int 0) X hw hat_x 2 (by decide) rfl inn_X11_lot_11 (by decide) (X.2.2.2.1 (.fieldLink RX11 63 "SilkMill" "lots" "I") (by decide +kernel)) rfl ((gv_1102 _ _).trans (congrArg (fun z => some (Value.int z)) ci_lots)) dX11_lot_111 ?_
              refine lv_iload_n X.1 X.2.1 dX11_lot_114 rfl (lv_at hl 2 rfl) ?_
              refine r_iast X hw hat_lz (by rw [ln_lz]; exact vp_in_iff.mpr (by decide +kernel)) dX11_lot_115 (fun H locs hw => ?_)
              generalize eS_1 : sA T lz (upd (pA T lz) (Int32.toNatClampNeg (0)) a1) = S_1 at hw
              have hat_x : At S_1 x 11 := by rw [← eS_1]; exact At_sA hat_x
              have hat_cs : At S_1 cs 16 := by rw [← eS_1]; exact At_sA hat_cs
              have hat_lz : At S_1 lz 14 := by rw [← eS_1]; exact At_sA hat_lz
              have rf_cs : pR S_1 1100 x = some cs := by rw [← eS_1, pR_sA]; exact rf_cs
              have rf_lz : pR S_1 1101 x = some lz := by rw [← eS_1, pR_sA]; exact rf_lz
              have ci_lots : pI S_1 1102 x = 0 := by rw [← eS_1, pI_sA]; exact ci_lots
              have ln_cs : pN S_1 cs = 600 := by rw [← eS_1, pN_sA]; exact ln_cs
              have ln_lz : pN S_1 lz = 10 := by rw [← eS_1, pN_sA]; exact ln_lz
              refine lv_aload_n X.1 X.2.1 dX11_lot_116 rfl (lv_at hl 1 rfl) ?_
              refine lv_dup X.1 X.2.1 dX11_lot_117 rfl ?_
              refine r_get (v := .int 0) X hw hat_x 2 (by decide) rfl inn_X11_lot_11 (by decide) (X.2.2.2.1 (.fieldLink RX11 63 "SilkMill" "lots" "I") (by decide +kernel)) rfl ((gv_1102 _ _).trans (congrArg (fun z => some (Value.int z)) ci_lots)) dX11_lot_118 ?_
              refine lv_iconst (v := 1) X.1 X.2.1 dX11_lot_121 (by decide) ?_
              refine lv_iadd X.1 X.2.1 dX11_lot_122 ?_
              refine lv_topi (fun v_2 ev_2 => ?_)
              obtain rfl : v_2 = 1 := ev_2.trans (by decide +kernel)
              refine r_putI (v := 1) X hw hat_x 2 1102 tyX11 (by decide) rfl inn_X11_lot_11 tyX11_ok nmX11 (by decide) (X.2.2.2.1 (.fieldLink RX11 63 "SilkMill" "lots" "I") (by decide +kernel)) rfl (Or.inl rfl) rfl rfl (Nat.le_of_ble_eq_true rfl) (st_1102 _ _) dX11_lot_123 (fun H locs hw => ?_)
              generalize eS_3 : sI S_1 1102 x 1 = S_3 at hw
              have hat_x : At S_3 x 11 := by rw [← eS_3]; exact At_sI hat_x
              have hat_cs : At S_3 cs 16 := by rw [← eS_3]; exact At_sI hat_cs
              have hat_lz : At S_3 lz 14 := by rw [← eS_3]; exact At_sI hat_lz
              have rf_cs : pR S_3 1100 x = some cs := by rw [← eS_3, pR_sI]; exact rf_cs
              have rf_lz : pR S_3 1101 x = some lz := by rw [← eS_3, pR_sI]; exact rf_lz
              have ln_cs : pN S_3 cs = 600 := by rw [← eS_3, pN_sI]; exact ln_cs
              have ln_lz : pN S_3 lz = 10 := by rw [← eS_3, pN_sI]; exact ln_lz
              have hc_4 : pI S_3 1102 x = 1 := by rw [← eS_3]; exact pI_sI_same
              refine lv_aload_n X.1 X.2.1 dX11_lot_126 rfl (lv_at hl 1 rfl) ?_
              refine r_get (v := .int 1) X hw hat_x 2 (by decide) rfl inn_X11_lot_11 (by decide) (X.2.2.2.1 (.fieldLink RX11 63 "SilkMill" "lots" "I") (by decide +kernel)) rfl ((gv_1102 _ _).trans (congrArg (fun z => some (Value.int z)) hc_4)) dX11_lot_127 ?_
              refine lv_iconst (v := 1) X.1 X.2.1 dX11_lot_130 (by decide) ?_
              refine lv_isub X.1 X.2.1 dX11_lot_131 ?_
              refine lv_topi (fun v_5 ev_5 => ?_)
              obtain rfl : v_5 = 0 := ev_5.trans (by decide +kernel)
              exact ret_i X hw hr hlocks (by show i ≤ 60; omega) (by show 10 * i ≤ 600; omega) (if_pos ⟨b_13, b_24, b_37, b_49⟩).symm dX11_lot_132
            | succ d ih =>
              intro i T H locs ls hi hat_x ci_lots rf_cs hat_cs ln_cs rf_lz hat_lz ln_lz hw hl
              refine lv_iload X.1 X.2.1 dX11_lot_60 (lv_at hl 0 rfl) ?_
              refine lv_iload_n X.1 X.2.1 dX11_lot_62 rfl (lv_at hl 2 rfl) ?_
              refine lv_icmp_ge (tgt := 106) X.1 X.2.1 dX11_lot_63 (by decide) (fun c_63 => absurd c_63 (by rw [ea1]; exact nI_ge (by omega) (by omega))) (fun c_63 => ?_)
              refine lv_aload_n X.1 X.2.1 dX11_lot_66 rfl (lv_at hl 1 rfl) ?_
              refine r_getR (g := 1100) X hw hat_x 0 rf_cs (by decide) rfl inn_X11_lot_11 (by decide) (X.2.2.2.1 (.fieldLink RX11 11 "SilkMill" "cocoons" "[LSilkMill$Cocoon;") (by decide +kernel)) rfl (gv_1100 _ _) dX11_lot_67 ?_
              refine lv_aload_n X.1 X.2.1 dX11_lot_70 rfl (lv_at hl 1 rfl) ?_
              refine r_get (v := .int 0) X hw hat_x 2 (by decide) rfl inn_X11_lot_11 (by decide) (X.2.2.2.1 (.fieldLink RX11 63 "SilkMill" "lots" "I") (by decide +kernel)) rfl ((gv_1102 _ _).trans (congrArg (fun z => some (Value.int z)) ci_lots)) dX11_lot_71 ?_
              refine lv_bipush (v := 60) X.1 X.2.1 dX11_lot_74 (by decide) ?_
              refine lv_imul X.1 X.2.1 dX11_lot_76 ?_
              refine lv_topi (fun v_6 ev_6 => ?_)
              obtain rfl : v_6 = 0 := ev_6.trans (by decide +kernel)
              refine lv_iload X.1 X.2.1 dX11_lot_77 (lv_at hl 0 rfl) ?_
              refine lv_iadd X.1 X.2.1 dX11_lot_79 ?_
              refine lv_topi (fun v_7 ev_7 => ?_)
              have hat_x_o := hat_x
              have hat_cs_o := hat_cs
              have hat_lz_o := hat_lz
              refine r_new X hw 0 (10 * i + 10) (i + 1) tyX0 (by decide) rfl inn_X11_lot_0 tyX0_ok (X.2.2.2.1 (.classLink RX11 9 RX0) (by decide +kernel)) (X.2.2.2.1 (.instantiable RX0 10) (by decide +kernel)) (X.2.2.2.1 (.initialized RX0) (by decide +kernel)) zo_0 zd_0 (by show i + 1 ≤ i + 1; omega) (by show 10 * i + 10 ≤ 10 * i + 10; omega) (by show i + 1 ≤ 60; omega) (by show 10 * i + 10 ≤ 600; omega) dX11_lot_80 (fun q_8 H hq_8 hw => ?_)
              have ne_x_q_8 : x ≠ q_8 := At_old hat_x_o hq_8
              have ne_cs_q_8 : cs ≠ q_8 := At_old hat_cs_o hq_8
              have ne_lz_q_8 : lz ≠ q_8 := At_old hat_lz_o hq_8
              generalize eS_9 : sO T q_8 0 = S_9 at hw
              have hat_x : At S_9 x 11 := by rw [← eS_9]; exact At_sO hat_x hq_8
              have hat_cs : At S_9 cs 16 := by rw [← eS_9]; exact At_sO hat_cs hq_8
              have hat_lz : At S_9 lz 14 := by rw [← eS_9]; exact At_sO hat_lz hq_8
              have rf_cs : pR S_9 1100 x = some cs := by rw [← eS_9]; exact (pR_sO_ne (At_old hat_x_o hq_8)).trans rf_cs
              have rf_lz : pR S_9 1101 x = some lz := by rw [← eS_9]; exact (pR_sO_ne (At_old hat_x_o hq_8)).trans rf_lz
              have ci_lots : pI S_9 1102 x = 0 := by rw [← eS_9]; exact (pI_sO_ne (At_old hat_x_o hq_8)).trans ci_lots
              have ln_cs : pN S_9 cs = 600 := by rw [← eS_9, pN_sO]; exact ln_cs
              have ln_lz : pN S_9 lz = 10 := by rw [← eS_9, pN_sO]; exact ln_lz
              have ha_10 : At S_9 q_8 0 := by rw [← eS_9]; exact At_nO _ _ _
              have hz_11 : ∀ g, pI S_9 g q_8 = 0 := fun g => by rw [← eS_9]; exact pI_sO_new
              refine lv_dup X.1 X.2.1 dX11_lot_83 rfl ?_
              refine lv_aload_n X.1 X.2.1 dX11_lot_84 rfl (lv_at hl 1 rfl) ?_
              refine r_get (v := .int 0) X hw hat_x 2 (by decide) rfl inn_X11_lot_11 (by decide) (X.2.2.2.1 (.fieldLink RX11 63 "SilkMill" "lots" "I") (by decide +kernel)) rfl ((gv_1102 _ _).trans (congrArg (fun z => some (Value.int z)) ci_lots)) dX11_lot_85 ?_
              refine lv_iload X.1 X.2.1 dX11_lot_88 (lv_at hl 0 rfl) ?_
              refine lv_iload_n X.1 X.2.1 dX11_lot_90 rfl (lv_at hl 3 rfl) ?_
              refine lv_iload_n X.1 X.2.1 dX11_lot_91 rfl (lv_at hl 4 rfl) ?_
              refine lv_iload X.1 X.2.1 dX11_lot_92 (lv_at hl 5 rfl) ?_
              refine lv_iload X.1 X.2.1 dX11_lot_94 (lv_at hl 6 rfl) ?_
              refine k_v (rm := { frames := 2, cells := 0, slots := 0, locals := 80 }) (av := [.ref q_8, .int 0, .int (nI i), .int (a2), .int (a3), .int (a4), .int (a5)]) X hw (va_runI (As := [.int 0, .int (nI i), .int (a2), .int (a3), .int (a4), .int (a5)]) (rest := [.ref q_8, .int (v_7), .ref cs]) (cfix X) (c_X0_init l G cy S_9 _ q_8 (0) (nI i) (a2) (a3) (a4) (a5) ha_10 hz_11) (cwI 6 X.2.2.2.1 gX11_lot_X0_init rfl rfl rfl (X.2.2.2.1 (.initialized RX0) (by decide +kernel)) (X.2.2.2.1 (.methodLink RX11 71 yX0_init) (by decide +kernel)) (X.2.2.2.1 (.instanceMethod yX0_init) (by decide +kernel)) rfl (by decide +kernel) ⟨Nat.le_of_ble_eq_true rfl, Nat.le_of_ble_eq_true rfl⟩) (pre_S X hw _) rfl rfl hl.1 rfl (lv_room (Nat.le_of_ble_eq_true rfl)) dX11_lot_96 ⟨(by show i + 1 + 0 ≤ 60; omega), (by show 10 * i + 10 + 0 ≤ 600; omega)⟩) (i + 1) (10 * i + 10) (by show i + 1 + 0 ≤ i + 1; omega) (by show 10 * i + 10 + 0 ≤ 10 * i + 10; omega) (fun S2 H locs hp hw hfr hnw => ?_)
              obtain ⟨hk2, hf_q_8⟩ := hp
              generalize eq_Sc_96_12 : S2 = Sc_96_12 at hk2 hf_q_8 hw
              have hat_x_c := hat_x
              have hat_cs_c := hat_cs
              have hat_lz_c := hat_lz
              have ha_10_c := ha_10
              have hat_x : At Sc_96_12 x 11 := Kp_at hk2 hat_x_c
              have hat_cs : At Sc_96_12 cs 16 := Kp_at hk2 hat_cs_c
              have hat_lz : At Sc_96_12 lz 14 := Kp_at hk2 hat_lz_c
              have ha_10 : At Sc_96_12 q_8 0 := Kp_at hk2 ha_10_c
              have rf_cs : pR Sc_96_12 1100 x = some cs := ((hk2.2 x hat_x_c.1 ne_x_q_8).2.1 1100).trans rf_cs
              have rf_lz : pR Sc_96_12 1101 x = some lz := ((hk2.2 x hat_x_c.1 ne_x_q_8).2.1 1101).trans rf_lz
              have ci_lots : pI Sc_96_12 1102 x = 0 := ((hk2.2 x hat_x_c.1 ne_x_q_8).1 1102).trans ci_lots
              have ln_cs : pN Sc_96_12 cs = 600 := ((hk2.2 cs hat_cs_c.1 ne_cs_q_8).2.2.1).trans ln_cs
              have ln_lz : pN Sc_96_12 lz = 10 := ((hk2.2 lz hat_lz_c.1 ne_lz_q_8).2.2.1).trans ln_lz
              refine r_aast X hw hat_cs ha_10 (by decide) (by decide) rfl rfl (by rw [ln_cs]; exact vp_lot (by assumption) (by omega)) dX11_lot_99 (fun H locs hw => ?_)
              generalize eS_13 : sB Sc_96_12 cs (va_up (pB Sc_96_12 cs) (Int32.toNatClampNeg (v_7)) (some q_8)) = S_13 at hw
              have hat_x : At S_13 x 11 := by rw [← eS_13]; exact At_sB hat_x
              have hat_cs : At S_13 cs 16 := by rw [← eS_13]; exact At_sB hat_cs
              have hat_lz : At S_13 lz 14 := by rw [← eS_13]; exact At_sB hat_lz
              have ha_10 : At S_13 q_8 0 := by rw [← eS_13]; exact At_sB ha_10
              have rf_cs : pR S_13 1100 x = some cs := by rw [← eS_13, pR_sB]; exact rf_cs
              have rf_lz : pR S_13 1101 x = some lz := by rw [← eS_13, pR_sB]; exact rf_lz
              have ci_lots : pI S_13 1102 x = 0 := by rw [← eS_13, pI_sB]; exact ci_lots
              have ln_cs : pN S_13 cs = 600 := by rw [← eS_13, pN_sB]; exact ln_cs
              have ln_lz : pN S_13 lz = 10 := by rw [← eS_13, pN_sB]; exact ln_lz
              obtain ⟨x_14, ex_14⟩ : ∃ y : Int32, y = nI i + 1 := ⟨_, rfl⟩
              refine lv_iinc (v := x_14) (lv' := [(6, .int (x_14)), (0, .ref x), (1, .int (a1)), (2, .int (a2)), (3, .int (a3)), (4, .int (a4)), (5, .int (a5))]) X.1 X.2.1 dX11_lot_100 hl (k := 0) rfl (by rw [ex_14]; rfl) (by decide) rfl (fun ls hl => ?_)
              refine lv_goto (tgt := 60) X.1 X.2.1 dX11_lot_103 (by decide) ?_
              refine W.widen (k := i + 1) (n := 10 * (i + 1)) (by omega) (by omega) ?_
              exact ih (i + 1) _ _ _ _ (by omega) hat_x ci_lots rf_cs hat_cs ln_cs rf_lz hat_lz ln_lz hw (by rw [show nI (i + 1) = x_14 from by rw [ex_14]; exact (nI_1 i).symm]; exact lv_sub hl [0, 1, 2, 3, 4, 5, 6] rfl)
          exact loop N 0 _ _ _ _ (by omega) hat_x ci_lots rf_cs hat_cs ln_cs rf_lz hat_lz ln_lz hw (by rw [show nI 0 = 0 from rfl]; exact hl)
        · have z_49 := trivial
          refine lv_if_ne (tgt := 57) X.1 X.2.1 dX11_lot_52 (by decide) (fun c_52 => absurd c_52 (by decide)) (fun c_52 => ?_)
          refine lv_iconst (v := (-1)) X.1 X.2.1 dX11_lot_55 (by decide) ?_
          exact ret_i X hw hr hlocks (Nat.le_of_ble_eq_true rfl) (Nat.le_of_ble_eq_true rfl) (if_neg (fun h => b_49 h.2.2.2)).symm dX11_lot_56
      · have z_37 := trivial
        refine lv_if_eq (tgt := 55) X.1 X.2.1 dX11_lot_40 (by decide) (fun c_40 => ?_) (fun c_40 => absurd c_40 (by decide))
        refine lv_iconst (v := (-1)) X.1 X.2.1 dX11_lot_55 (by decide) ?_
        exact ret_i X hw hr hlocks (Nat.le_of_ble_eq_true rfl) (Nat.le_of_ble_eq_true rfl) (if_neg (fun h => b_37 h.2.2.1)).symm dX11_lot_56
    · have z_24 := trivial
      refine lv_if_eq (tgt := 55) X.1 X.2.1 dX11_lot_27 (by decide) (fun c_27 => ?_) (fun c_27 => absurd c_27 (by decide))
      refine lv_iconst (v := (-1)) X.1 X.2.1 dX11_lot_55 (by decide) ?_
      exact ret_i X hw hr hlocks (Nat.le_of_ble_eq_true rfl) (Nat.le_of_ble_eq_true rfl) (if_neg (fun h => b_24 h.2.1)).symm dX11_lot_56
  · have z_13 := trivial
    refine lv_if_eq (tgt := 55) X.1 X.2.1 dX11_lot_16 (by decide) (fun c_16 => ?_) (fun c_16 => absurd c_16 (by decide))
    refine lv_iconst (v := (-1)) X.1 X.2.1 dX11_lot_55 (by decide) ?_
    exact ret_i X hw hr hlocks (Nat.le_of_ble_eq_true rfl) (Nat.le_of_ble_eq_true rfl) (if_neg (fun h => b_13 h.1)).symm dX11_lot_56
set_option maxHeartbeats 4000000 in
set_option maxRecDepth 100000 in
theorem c_X12_shelve (l : Launch) (G : va_G) (cy : Nat → ClassId) (S : PS) (sz : Nat) (mo : Nat) (a1 : Int32) (a2 : Int32) (a3 : Int32) (a4 : Int32) (hF : FM S mo) : Ci l yX12_shelve wsX12_shelve ({ frames := 5, cells := 0, slots := 0, locals := 200 }) G cy S sz [.ref mo, .int (a1), .int (a2), .int (a3), .int (a4)] (fun (r : Int32) (S9 : PS) => r = shvV a1 a2 a3) := by
  refine ent_m (cc := cX12_shelve) (maxL := 6) (ret := (some .boolean)) (by decide) rfl (Nat.le_of_ble_eq_true rfl) ?_
  intro p e s m below meth c ls X hr hlocks hin hw hl hsz
  subst hsz
  have X : Cx p c cX12_shelve 6 s [.ref mo, .int (a1), .int (a2), .int (a3), .int (a4)].toArray wsX12_shelve RX12 m G cy (AS S s.heap.size) := X
  have hl : lv_has ls 6 [(0, .ref mo), (1, .int (a1)), (2, .int (a2)), (3, .int (a3)), (4, .int (a4))] := hl
  obtain ⟨hat_mo, hci, ci_1229, hars, hz53, hz39⟩ := hF
  have ci_1201 := hci 1201 (by decide)
  obtain ⟨q1253, rf_q1253, hat_q1253, ln_q1253⟩ := hars (1253, 15, 16) (by decide +kernel)
  have rf_q1253 : pR S 1253 mo = some q1253 := rf_q1253
  have hat_q1253 : At S q1253 15 := hat_q1253
  have ln_q1253 : pN S q1253 = 16 := ln_q1253
  obtain ⟨q1254, rf_q1254, hat_q1254, ln_q1254⟩ := hars (1254, 14, 16) (by decide +kernel)
  have rf_q1254 : pR S 1254 mo = some q1254 := rf_q1254
  have hat_q1254 : At S q1254 14 := hat_q1254
  have ln_q1254 : pN S q1254 = 16 := ln_q1254
  obtain ⟨q1255, rf_q1255, hat_q1255, ln_q1255⟩ := hars (1255, 14, 16) (by decide +kernel)
  have rf_q1255 : pR S 1255 mo = some q1255 := rf_q1255
  have hat_q1255 : At S q1255 14 := hat_q1255
  have ln_q1255 : pN S q1255 = 16 := ln_q1255
  obtain ⟨q1256, rf_q1256, hat_q1256, ln_q1256⟩ := hars (1256, 14, 16) (by decide +kernel)
  have rf_q1256 : pR S 1256 mo = some q1256 := rf_q1256
  have hat_q1256 : At S q1256 14 := hat_q1256
  have ln_q1256 : pN S q1256 = 16 := ln_q1256
  obtain ⟨q1257, rf_q1257, hat_q1257, ln_q1257⟩ := hars (1257, 14, 128) (by decide +kernel)
  have rf_q1257 : pR S 1257 mo = some q1257 := rf_q1257
  have hat_q1257 : At S q1257 14 := hat_q1257
  have ln_q1257 : pN S q1257 = 128 := ln_q1257
  have hz := hz53 _ rf_q1253
  refine lv_aload_n X.1 X.2.1 dX12_shelve_0 rfl (lv_at hl 0 rfl) ?_
  refine lv_iconst (v := 0) X.1 X.2.1 dX12_shelve_1 (by decide) ?_
  refine r_putI (v := 0) X hw hat_mo 0 1200 tyX12 (by decide) rfl inn_X12_shelve_12 tyX12_ok nmX12 (by decide) (X.2.2.2.1 (.fieldLink RX12 161 "SilkMillModel" "thrown" "I") (by decide +kernel)) rfl (Or.inl rfl) rfl rfl (Nat.le_of_ble_eq_true rfl) (st_1200 _ _) dX12_shelve_2 (fun H locs hw => ?_)
  generalize eS_1 : sI S 1200 mo 0 = S_1 at hw
  have hat_mo : At S_1 mo 12 := by rw [← eS_1]; exact At_sI hat_mo
  have hat_q1253 : At S_1 q1253 15 := by rw [← eS_1]; exact At_sI hat_q1253
  have hat_q1254 : At S_1 q1254 14 := by rw [← eS_1]; exact At_sI hat_q1254
  have hat_q1255 : At S_1 q1255 14 := by rw [← eS_1]; exact At_sI hat_q1255
  have hat_q1256 : At S_1 q1256 14 := by rw [← eS_1]; exact At_sI hat_q1256
  have hat_q1257 : At S_1 q1257 14 := by rw [← eS_1]; exact At_sI hat_q1257
  have rf_q1253 : pR S_1 1253 mo = some q1253 := by rw [← eS_1, pR_sI]; exact rf_q1253
  have rf_q1254 : pR S_1 1254 mo = some q1254 := by rw [← eS_1, pR_sI]; exact rf_q1254
  have rf_q1255 : pR S_1 1255 mo = some q1255 := by rw [← eS_1, pR_sI]; exact rf_q1255
  have rf_q1256 : pR S_1 1256 mo = some q1256 := by rw [← eS_1, pR_sI]; exact rf_q1256
  have rf_q1257 : pR S_1 1257 mo = some q1257 := by rw [← eS_1, pR_sI]; exact rf_q1257
  have ci_1201 : pI S_1 1201 mo = 0 := by rw [← eS_1]; exact (pI_sI_nf (by decide)).trans ci_1201
  have ln_q1253 : pN S_1 q1253 = 16 := by rw [← eS_1, pN_sI]; exact ln_q1253
  have ln_q1254 : pN S_1 q1254 = 16 := by rw [← eS_1, pN_sI]; exact ln_q1254
  have ln_q1255 : pN S_1 q1255 = 16 := by rw [← eS_1, pN_sI]; exact ln_q1255
  have ln_q1256 : pN S_1 q1256 = 16 := by rw [← eS_1, pN_sI]; exact ln_q1256
  have ln_q1257 : pN S_1 q1257 = 128 := by rw [← eS_1, pN_sI]; exact ln_q1257
  have hz : ∀ j, pA S_1 q1253 j = 0 := by rw [← eS_1, pA_sI]; exact hz
  have hc_2 : pI S_1 1200 mo = 0 := by rw [← eS_1]; exact pI_sI_same
  refine lv_iload_n X.1 X.2.1 dX12_shelve_5 rfl (lv_at hl 1 rfl) ?_
  refine lv_iconst (v := 0) X.1 X.2.1 dX12_shelve_6 (by decide) ?_
  refine lv_bipush (v := 15) X.1 X.2.1 dX12_shelve_7 (by decide) ?_
  refine k_i (rm := { frames := 1, cells := 0, slots := 0, locals := 40 }) (av := [.int (a1), .int 0, .int 15]) X hw (va_runS (As := [.int (a1), .int 0, .int 15]) (rest := []) (cfix X) (c_X12_within l G cy S_1 _ (a1) (0) (15)) (cwS 3 X.2.2.2.1 gX12_shelve_X12_within rfl rfl rfl (by decide +kernel) ⟨Nat.le_of_ble_eq_true rfl, Nat.le_of_ble_eq_true rfl⟩) (pre_S X hw _) rfl rfl hl.1 rfl (lv_room (Nat.le_of_ble_eq_true rfl)) dX12_shelve_9 ⟨Nat.le_of_ble_eq_true rfl, Nat.le_of_ble_eq_true rfl⟩) 0 0 (Nat.le_of_ble_eq_true rfl) (Nat.le_of_ble_eq_true rfl) (fun rr_9 S2 H locs hp hw hfr hnw => ?_)
  obtain ⟨e2_9, hp⟩ := hp
  subst e2_9
  rcases hp with ⟨b_9, er_9⟩ | ⟨b_9, er_9⟩ <;> subst er_9
  · have z_9 := trivial
    refine lv_if_eq (tgt := 33) X.1 X.2.1 dX12_shelve_12 (by decide) (fun c_12 => absurd c_12 (by decide)) (fun c_12 => ?_)
    refine lv_aload_n X.1 X.2.1 dX12_shelve_15 rfl (lv_at hl 0 rfl) ?_
    refine r_getR (g := 1253) X hw hat_mo 53 rf_q1253 (by decide) rfl inn_X12_shelve_12 (by decide) (X.2.2.2.1 (.fieldLink RX12 125 "SilkMillModel" "isLaid" "[Z") (by decide +kernel)) rfl (gv_1253 _ _) dX12_shelve_16 ?_
    refine lv_iload_n X.1 X.2.1 dX12_shelve_19 rfl (lv_at hl 1 rfl) ?_
    refine r_zald X hw hat_q1253 (by rw [ln_q1253]; exact wi_vp b_9 (by decide)) dX12_shelve_20 ?_
    refine lv_topi (fun v_3 ev_3 => ?_)
    obtain rfl : v_3 = 0 := ev_3.trans (hz _)
    refine lv_if_ne (tgt := 33) X.1 X.2.1 dX12_shelve_21 (by decide) (fun c_21 => absurd c_21 (by decide)) (fun c_21 => ?_)
    refine lv_iload_n X.1 X.2.1 dX12_shelve_24 rfl (lv_at hl 2 rfl) ?_
    refine lv_iconst (v := 0) X.1 X.2.1 dX12_shelve_25 (by decide) ?_
    refine lv_iconst (v := 2) X.1 X.2.1 dX12_shelve_26 (by decide) ?_
    refine k_i (rm := { frames := 1, cells := 0, slots := 0, locals := 40 }) (av := [.int (a2), .int 0, .int 2]) X hw (va_runS (As := [.int (a2), .int 0, .int 2]) (rest := []) (cfix X) (c_X12_within l G cy S_1 _ (a2) (0) (2)) (cwS 3 X.2.2.2.1 gX12_shelve_X12_within rfl rfl rfl (by decide +kernel) ⟨Nat.le_of_ble_eq_true rfl, Nat.le_of_ble_eq_true rfl⟩) (pre_S X hw _) rfl rfl hl.1 rfl (lv_room (Nat.le_of_ble_eq_true rfl)) dX12_shelve_27 ⟨Nat.le_of_ble_eq_true rfl, Nat.le_of_ble_eq_true rfl⟩) 0 0 (Nat.le_of_ble_eq_true rfl) (Nat.le_of_ble_eq_true rfl) (fun rr_27 S2 H locs hp hw hfr hnw => ?_)
    obtain ⟨e2_27, hp⟩ := hp
    subst e2_27
    rcases hp with ⟨b_27, er_27⟩ | ⟨b_27, er_27⟩ <;> subst er_27
    · have z_27 := trivial
      refine lv_if_ne (tgt := 35) X.1 X.2.1 dX12_shelve_30 (by decide) (fun c_30 => ?_) (fun c_30 => absurd c_30 (by decide))
      refine lv_iload_n X.1 X.2.1 dX12_shelve_35 rfl (lv_at hl 2 rfl) ?_
      refine lv_if_ne (tgt := 64) X.1 X.2.1 dX12_shelve_36 (by decide) (fun c_36 => ?_) (fun c_36 => ?_)
      · have z_36 := trivial
        refine lv_iload_n X.1 X.2.1 dX12_shelve_64 rfl (lv_at hl 2 rfl) ?_
        refine lv_iconst (v := 2) X.1 X.2.1 dX12_shelve_65 (by decide) ?_
        refine lv_icmp_ne (tgt := 81) X.1 X.2.1 dX12_shelve_66 (by decide) (fun c_66 => ?_) (fun c_66 => ?_)
        · have z_66 := trivial
          refine lv_aload_n X.1 X.2.1 dX12_shelve_81 rfl (lv_at hl 0 rfl) ?_
          refine r_getR (g := 1253) X hw hat_mo 53 rf_q1253 (by decide) rfl inn_X12_shelve_12 (by decide) (X.2.2.2.1 (.fieldLink RX12 125 "SilkMillModel" "isLaid" "[Z") (by decide +kernel)) rfl (gv_1253 _ _) dX12_shelve_82 ?_
          refine lv_iload_n X.1 X.2.1 dX12_shelve_85 rfl (lv_at hl 1 rfl) ?_
          refine lv_iconst (v := 1) X.1 X.2.1 dX12_shelve_86 (by decide) ?_
          refine r_zast X hw hat_q1253 (by rw [ln_q1253]; exact wi_vp b_9 (by decide)) dX12_shelve_87 (fun H locs hw => ?_)
          generalize eS_4 : sA S_1 q1253 (upd (pA S_1 q1253) (Int32.toNatClampNeg (a1)) (vp_nar .boolean 1)) = S_4 at hw
          have hat_mo : At S_4 mo 12 := by rw [← eS_4]; exact At_sA hat_mo
          have hat_q1253 : At S_4 q1253 15 := by rw [← eS_4]; exact At_sA hat_q1253
          have hat_q1254 : At S_4 q1254 14 := by rw [← eS_4]; exact At_sA hat_q1254
          have hat_q1255 : At S_4 q1255 14 := by rw [← eS_4]; exact At_sA hat_q1255
          have hat_q1256 : At S_4 q1256 14 := by rw [← eS_4]; exact At_sA hat_q1256
          have hat_q1257 : At S_4 q1257 14 := by rw [← eS_4]; exact At_sA hat_q1257
          have rf_q1253 : pR S_4 1253 mo = some q1253 := by rw [← eS_4, pR_sA]; exact rf_q1253
          have rf_q1254 : pR S_4 1254 mo = some q1254 := by rw [← eS_4, pR_sA]; exact rf_q1254
          have rf_q1255 : pR S_4 1255 mo = some q1255 := by rw [← eS_4, pR_sA]; exact rf_q1255
          have rf_q1256 : pR S_4 1256 mo = some q1256 := by rw [← eS_4, pR_sA]; exact rf_q1256
          have rf_q1257 : pR S_4 1257 mo = some q1257 := by rw [← eS_4, pR_sA]; exact rf_q1257
          have ci_1201 : pI S_4 1201 mo = 0 := by rw [← eS_4, pI_sA]; exact ci_1201
          have hc_2 : pI S_4 1200 mo = 0 := by rw [← eS_4, pI_sA]; exact hc_2
          have ln_q1253 : pN S_4 q1253 = 16 := by rw [← eS_4, pN_sA]; exact ln_q1253
          have ln_q1254 : pN S_4 q1254 = 16 := by rw [← eS_4, pN_sA]; exact ln_q1254
          have ln_q1255 : pN S_4 q1255 = 16 := by rw [← eS_4, pN_sA]; exact ln_q1255
          have ln_q1256 : pN S_4 q1256 = 16 := by rw [← eS_4, pN_sA]; exact ln_q1256
          have ln_q1257 : pN S_4 q1257 = 128 := by rw [← eS_4, pN_sA]; exact ln_q1257
          refine lv_aload_n X.1 X.2.1 dX12_shelve_88 rfl (lv_at hl 0 rfl) ?_
          refine r_getR (g := 1254) X hw hat_mo 54 rf_q1254 (by decide) rfl inn_X12_shelve_12 (by decide) (X.2.2.2.1 (.fieldLink RX12 128 "SilkMillModel" "laid" "[I") (by decide +kernel)) rfl (gv_1254 _ _) dX12_shelve_89 ?_
          refine lv_iload_n X.1 X.2.1 dX12_shelve_92 rfl (lv_at hl 1 rfl) ?_
          refine lv_iload_n X.1 X.2.1 dX12_shelve_93 rfl (lv_at hl 2 rfl) ?_
          refine r_iast X hw hat_q1254 (by rw [ln_q1254]; exact wi_vp b_9 (by decide)) dX12_shelve_94 (fun H locs hw => ?_)
          generalize eS_5 : sA S_4 q1254 (upd (pA S_4 q1254) (Int32.toNatClampNeg (a1)) a2) = S_5 at hw
          have hat_mo : At S_5 mo 12 := by rw [← eS_5]; exact At_sA hat_mo
          have hat_q1253 : At S_5 q1253 15 := by rw [← eS_5]; exact At_sA hat_q1253
          have hat_q1254 : At S_5 q1254 14 := by rw [← eS_5]; exact At_sA hat_q1254
          have hat_q1255 : At S_5 q1255 14 := by rw [← eS_5]; exact At_sA hat_q1255
          have hat_q1256 : At S_5 q1256 14 := by rw [← eS_5]; exact At_sA hat_q1256
          have hat_q1257 : At S_5 q1257 14 := by rw [← eS_5]; exact At_sA hat_q1257
          have rf_q1253 : pR S_5 1253 mo = some q1253 := by rw [← eS_5, pR_sA]; exact rf_q1253
          have rf_q1254 : pR S_5 1254 mo = some q1254 := by rw [← eS_5, pR_sA]; exact rf_q1254
          have rf_q1255 : pR S_5 1255 mo = some q1255 := by rw [← eS_5, pR_sA]; exact rf_q1255
          have rf_q1256 : pR S_5 1256 mo = some q1256 := by rw [← eS_5, pR_sA]; exact rf_q1256
          have rf_q1257 : pR S_5 1257 mo = some q1257 := by rw [← eS_5, pR_sA]; exact rf_q1257
          have ci_1201 : pI S_5 1201 mo = 0 := by rw [← eS_5, pI_sA]; exact ci_1201
          have hc_2 : pI S_5 1200 mo = 0 := by rw [← eS_5, pI_sA]; exact hc_2
          have ln_q1253 : pN S_5 q1253 = 16 := by rw [← eS_5, pN_sA]; exact ln_q1253
          have ln_q1254 : pN S_5 q1254 = 16 := by rw [← eS_5, pN_sA]; exact ln_q1254
          have ln_q1255 : pN S_5 q1255 = 16 := by rw [← eS_5, pN_sA]; exact ln_q1255
          have ln_q1256 : pN S_5 q1256 = 16 := by rw [← eS_5, pN_sA]; exact ln_q1256
          have ln_q1257 : pN S_5 q1257 = 128 := by rw [← eS_5, pN_sA]; exact ln_q1257
          refine lv_aload_n X.1 X.2.1 dX12_shelve_95 rfl (lv_at hl 0 rfl) ?_
          refine r_getR (g := 1255) X hw hat_mo 55 rf_q1255 (by decide) rfl inn_X12_shelve_12 (by decide) (X.2.2.2.1 (.fieldLink RX12 131 "SilkMillModel" "laidValue" "[I") (by decide +kernel)) rfl (gv_1255 _ _) dX12_shelve_96 ?_
          refine lv_iload_n X.1 X.2.1 dX12_shelve_99 rfl (lv_at hl 1 rfl) ?_
          refine lv_iload_n X.1 X.2.1 dX12_shelve_100 rfl (lv_at hl 2 rfl) ?_
          refine lv_if_ne (tgt := 114) X.1 X.2.1 dX12_shelve_101 (by decide) (fun c_101 => ?_) (fun c_101 => absurd c_101 c_36)
          refine lv_iload_n X.1 X.2.1 dX12_shelve_114 rfl (lv_at hl 3 rfl) ?_
          refine r_iast X hw hat_q1255 (by rw [ln_q1255]; exact wi_vp b_9 (by decide)) dX12_shelve_115 (fun H locs hw => ?_)
          generalize eS_6 : sA S_5 q1255 (upd (pA S_5 q1255) (Int32.toNatClampNeg (a1)) a3) = S_6 at hw
          have hat_mo : At S_6 mo 12 := by rw [← eS_6]; exact At_sA hat_mo
          have hat_q1253 : At S_6 q1253 15 := by rw [← eS_6]; exact At_sA hat_q1253
          have hat_q1254 : At S_6 q1254 14 := by rw [← eS_6]; exact At_sA hat_q1254
          have hat_q1255 : At S_6 q1255 14 := by rw [← eS_6]; exact At_sA hat_q1255
          have hat_q1256 : At S_6 q1256 14 := by rw [← eS_6]; exact At_sA hat_q1256
          have hat_q1257 : At S_6 q1257 14 := by rw [← eS_6]; exact At_sA hat_q1257
          have rf_q1253 : pR S_6 1253 mo = some q1253 := by rw [← eS_6, pR_sA]; exact rf_q1253
          have rf_q1254 : pR S_6 1254 mo = some q1254 := by rw [← eS_6, pR_sA]; exact rf_q1254
          have rf_q1255 : pR S_6 1255 mo = some q1255 := by rw [← eS_6, pR_sA]; exact rf_q1255
          have rf_q1256 : pR S_6 1256 mo = some q1256 := by rw [← eS_6, pR_sA]; exact rf_q1256
          have rf_q1257 : pR S_6 1257 mo = some q1257 := by rw [← eS_6, pR_sA]; exact rf_q1257
          have ci_1201 : pI S_6 1201 mo = 0 := by rw [← eS_6, pI_sA]; exact ci_1201
          have hc_2 : pI S_6 1200 mo = 0 := by rw [← eS_6, pI_sA]; exact hc_2
          have ln_q1253 : pN S_6 q1253 = 16 := by rw [← eS_6, pN_sA]; exact ln_q1253
          have ln_q1254 : pN S_6 q1254 = 16 := by rw [← eS_6, pN_sA]; exact ln_q1254
          have ln_q1255 : pN S_6 q1255 = 16 := by rw [← eS_6, pN_sA]; exact ln_q1255
          have ln_q1256 : pN S_6 q1256 = 16 := by rw [← eS_6, pN_sA]; exact ln_q1256
          have ln_q1257 : pN S_6 q1257 = 128 := by rw [← eS_6, pN_sA]; exact ln_q1257
          refine lv_iload_n X.1 X.2.1 dX12_shelve_116 rfl (lv_at hl 2 rfl) ?_
          refine lv_if_ne (tgt := 133) X.1 X.2.1 dX12_shelve_117 (by decide) (fun c_117 => ?_) (fun c_117 => absurd c_117 c_36)
          refine lv_iload_n X.1 X.2.1 dX12_shelve_133 rfl (lv_at hl 2 rfl) ?_
          refine lv_iconst (v := 2) X.1 X.2.1 dX12_shelve_134 (by decide) ?_
          refine lv_icmp_ne (tgt := 174) X.1 X.2.1 dX12_shelve_135 (by decide) (fun c_135 => ?_) (fun c_135 => absurd c_135 c_66)
          refine lv_iconst (v := 1) X.1 X.2.1 dX12_shelve_174 (by decide) ?_
          exact ret_z X hw hr hlocks (Nat.le_of_ble_eq_true rfl) (Nat.le_of_ble_eq_true rfl) (by decide) (if_pos ⟨b_9, Or.inl (one_of b_27 c_36 c_66)⟩).symm dX12_shelve_175
        · have z_66 := trivial
          refine lv_iload_n X.1 X.2.1 dX12_shelve_69 rfl (lv_at hl 3 rfl) ?_
          refine lv_iconst (v := 0) X.1 X.2.1 dX12_shelve_70 (by decide) ?_
          refine lv_bipush (v := 8) X.1 X.2.1 dX12_shelve_71 (by decide) ?_
          refine k_i (rm := { frames := 1, cells := 0, slots := 0, locals := 40 }) (av := [.int (a3), .int 0, .int 8]) X hw (va_runS (As := [.int (a3), .int 0, .int 8]) (rest := []) (cfix X) (c_X12_within l G cy S_1 _ (a3) (0) (8)) (cwS 3 X.2.2.2.1 gX12_shelve_X12_within rfl rfl rfl (by decide +kernel) ⟨Nat.le_of_ble_eq_true rfl, Nat.le_of_ble_eq_true rfl⟩) (pre_S X hw _) rfl rfl hl.1 rfl (lv_room (Nat.le_of_ble_eq_true rfl)) dX12_shelve_73 ⟨Nat.le_of_ble_eq_true rfl, Nat.le_of_ble_eq_true rfl⟩) 0 0 (Nat.le_of_ble_eq_true rfl) (Nat.le_of_ble_eq_true rfl) (fun rr_73 S2 H locs hp hw hfr hnw => ?_)
          obtain ⟨e2_73, hp⟩ := hp
          subst e2_73
          rcases hp with ⟨b_73, er_73⟩ | ⟨b_73, er_73⟩ <;> subst er_73
          · have z_73 := trivial
            refine lv_if_ne (tgt := 81) X.1 X.2.1 dX12_shelve_76 (by decide) (fun c_76 => ?_) (fun c_76 => absurd c_76 (by decide))
            refine lv_aload_n X.1 X.2.1 dX12_shelve_81 rfl (lv_at hl 0 rfl) ?_
            refine r_getR (g := 1253) X hw hat_mo 53 rf_q1253 (by decide) rfl inn_X12_shelve_12 (by decide) (X.2.2.2.1 (.fieldLink RX12 125 "SilkMillModel" "isLaid" "[Z") (by decide +kernel)) rfl (gv_1253 _ _) dX12_shelve_82 ?_
            refine lv_iload_n X.1 X.2.1 dX12_shelve_85 rfl (lv_at hl 1 rfl) ?_
            refine lv_iconst (v := 1) X.1 X.2.1 dX12_shelve_86 (by decide) ?_
            refine r_zast X hw hat_q1253 (by rw [ln_q1253]; exact wi_vp b_9 (by decide)) dX12_shelve_87 (fun H locs hw => ?_)
            generalize eS_7 : sA S_1 q1253 (upd (pA S_1 q1253) (Int32.toNatClampNeg (a1)) (vp_nar .boolean 1)) = S_7 at hw
            have hat_mo : At S_7 mo 12 := by rw [← eS_7]; exact At_sA hat_mo
            have hat_q1253 : At S_7 q1253 15 := by rw [← eS_7]; exact At_sA hat_q1253
            have hat_q1254 : At S_7 q1254 14 := by rw [← eS_7]; exact At_sA hat_q1254
            have hat_q1255 : At S_7 q1255 14 := by rw [← eS_7]; exact At_sA hat_q1255
            have hat_q1256 : At S_7 q1256 14 := by rw [← eS_7]; exact At_sA hat_q1256
            have hat_q1257 : At S_7 q1257 14 := by rw [← eS_7]; exact At_sA hat_q1257
            have rf_q1253 : pR S_7 1253 mo = some q1253 := by rw [← eS_7, pR_sA]; exact rf_q1253
            have rf_q1254 : pR S_7 1254 mo = some q1254 := by rw [← eS_7, pR_sA]; exact rf_q1254
            have rf_q1255 : pR S_7 1255 mo = some q1255 := by rw [← eS_7, pR_sA]; exact rf_q1255
            have rf_q1256 : pR S_7 1256 mo = some q1256 := by rw [← eS_7, pR_sA]; exact rf_q1256
            have rf_q1257 : pR S_7 1257 mo = some q1257 := by rw [← eS_7, pR_sA]; exact rf_q1257
            have ci_1201 : pI S_7 1201 mo = 0 := by rw [← eS_7, pI_sA]; exact ci_1201
            have hc_2 : pI S_7 1200 mo = 0 := by rw [← eS_7, pI_sA]; exact hc_2
            have ln_q1253 : pN S_7 q1253 = 16 := by rw [← eS_7, pN_sA]; exact ln_q1253
            have ln_q1254 : pN S_7 q1254 = 16 := by rw [← eS_7, pN_sA]; exact ln_q1254
            have ln_q1255 : pN S_7 q1255 = 16 := by rw [← eS_7, pN_sA]; exact ln_q1255
            have ln_q1256 : pN S_7 q1256 = 16 := by rw [← eS_7, pN_sA]; exact ln_q1256
            have ln_q1257 : pN S_7 q1257 = 128 := by rw [← eS_7, pN_sA]; exact ln_q1257
            refine lv_aload_n X.1 X.2.1 dX12_shelve_88 rfl (lv_at hl 0 rfl) ?_
            refine r_getR (g := 1254) X hw hat_mo 54 rf_q1254 (by decide) rfl inn_X12_shelve_12 (by decide) (X.2.2.2.1 (.fieldLink RX12 128 "SilkMillModel" "laid" "[I") (by decide +kernel)) rfl (gv_1254 _ _) dX12_shelve_89 ?_
            refine lv_iload_n X.1 X.2.1 dX12_shelve_92 rfl (lv_at hl 1 rfl) ?_
            refine lv_iload_n X.1 X.2.1 dX12_shelve_93 rfl (lv_at hl 2 rfl) ?_
            refine r_iast X hw hat_q1254 (by rw [ln_q1254]; exact wi_vp b_9 (by decide)) dX12_shelve_94 (fun H locs hw => ?_)
            generalize eS_8 : sA S_7 q1254 (upd (pA S_7 q1254) (Int32.toNatClampNeg (a1)) a2) = S_8 at hw
            have hat_mo : At S_8 mo 12 := by rw [← eS_8]; exact At_sA hat_mo
            have hat_q1253 : At S_8 q1253 15 := by rw [← eS_8]; exact At_sA hat_q1253
            have hat_q1254 : At S_8 q1254 14 := by rw [← eS_8]; exact At_sA hat_q1254
            have hat_q1255 : At S_8 q1255 14 := by rw [← eS_8]; exact At_sA hat_q1255
            have hat_q1256 : At S_8 q1256 14 := by rw [← eS_8]; exact At_sA hat_q1256
            have hat_q1257 : At S_8 q1257 14 := by rw [← eS_8]; exact At_sA hat_q1257
            have rf_q1253 : pR S_8 1253 mo = some q1253 := by rw [← eS_8, pR_sA]; exact rf_q1253
            have rf_q1254 : pR S_8 1254 mo = some q1254 := by rw [← eS_8, pR_sA]; exact rf_q1254
            have rf_q1255 : pR S_8 1255 mo = some q1255 := by rw [← eS_8, pR_sA]; exact rf_q1255
            have rf_q1256 : pR S_8 1256 mo = some q1256 := by rw [← eS_8, pR_sA]; exact rf_q1256
            have rf_q1257 : pR S_8 1257 mo = some q1257 := by rw [← eS_8, pR_sA]; exact rf_q1257
            have ci_1201 : pI S_8 1201 mo = 0 := by rw [← eS_8, pI_sA]; exact ci_1201
            have hc_2 : pI S_8 1200 mo = 0 := by rw [← eS_8, pI_sA]; exact hc_2
            have ln_q1253 : pN S_8 q1253 = 16 := by rw [← eS_8, pN_sA]; exact ln_q1253
            have ln_q1254 : pN S_8 q1254 = 16 := by rw [← eS_8, pN_sA]; exact ln_q1254
            have ln_q1255 : pN S_8 q1255 = 16 := by rw [← eS_8, pN_sA]; exact ln_q1255
            have ln_q1256 : pN S_8 q1256 = 16 := by rw [← eS_8, pN_sA]; exact ln_q1256
            have ln_q1257 : pN S_8 q1257 = 128 := by rw [← eS_8, pN_sA]; exact ln_q1257
            refine lv_aload_n X.1 X.2.1 dX12_shelve_95 rfl (lv_at hl 0 rfl) ?_
            refine r_getR (g := 1255) X hw hat_mo 55 rf_q1255 (by decide) rfl inn_X12_shelve_12 (by decide) (X.2.2.2.1 (.fieldLink RX12 131 "SilkMillModel" "laidValue" "[I") (by decide +kernel)) rfl (gv_1255 _ _) dX12_shelve_96 ?_
            refine lv_iload_n X.1 X.2.1 dX12_shelve_99 rfl (lv_at hl 1 rfl) ?_
            refine lv_iload_n X.1 X.2.1 dX12_shelve_100 rfl (lv_at hl 2 rfl) ?_
            refine lv_if_ne (tgt := 114) X.1 X.2.1 dX12_shelve_101 (by decide) (fun c_101 => ?_) (fun c_101 => absurd c_101 c_36)
            refine lv_iload_n X.1 X.2.1 dX12_shelve_114 rfl (lv_at hl 3 rfl) ?_
            refine r_iast X hw hat_q1255 (by rw [ln_q1255]; exact wi_vp b_9 (by decide)) dX12_shelve_115 (fun H locs hw => ?_)
            generalize eS_9 : sA S_8 q1255 (upd (pA S_8 q1255) (Int32.toNatClampNeg (a1)) a3) = S_9 at hw
            have hat_mo : At S_9 mo 12 := by rw [← eS_9]; exact At_sA hat_mo
            have hat_q1253 : At S_9 q1253 15 := by rw [← eS_9]; exact At_sA hat_q1253
            have hat_q1254 : At S_9 q1254 14 := by rw [← eS_9]; exact At_sA hat_q1254
            have hat_q1255 : At S_9 q1255 14 := by rw [← eS_9]; exact At_sA hat_q1255
            have hat_q1256 : At S_9 q1256 14 := by rw [← eS_9]; exact At_sA hat_q1256
            have hat_q1257 : At S_9 q1257 14 := by rw [← eS_9]; exact At_sA hat_q1257
            have rf_q1253 : pR S_9 1253 mo = some q1253 := by rw [← eS_9, pR_sA]; exact rf_q1253
            have rf_q1254 : pR S_9 1254 mo = some q1254 := by rw [← eS_9, pR_sA]; exact rf_q1254
            have rf_q1255 : pR S_9 1255 mo = some q1255 := by rw [← eS_9, pR_sA]; exact rf_q1255
            have rf_q1256 : pR S_9 1256 mo = some q1256 := by rw [← eS_9, pR_sA]; exact rf_q1256
            have rf_q1257 : pR S_9 1257 mo = some q1257 := by rw [← eS_9, pR_sA]; exact rf_q1257
            have ci_1201 : pI S_9 1201 mo = 0 := by rw [← eS_9, pI_sA]; exact ci_1201
            have hc_2 : pI S_9 1200 mo = 0 := by rw [← eS_9, pI_sA]; exact hc_2
            have ln_q1253 : pN S_9 q1253 = 16 := by rw [← eS_9, pN_sA]; exact ln_q1253
            have ln_q1254 : pN S_9 q1254 = 16 := by rw [← eS_9, pN_sA]; exact ln_q1254
            have ln_q1255 : pN S_9 q1255 = 16 := by rw [← eS_9, pN_sA]; exact ln_q1255
            have ln_q1256 : pN S_9 q1256 = 16 := by rw [← eS_9, pN_sA]; exact ln_q1256
            have ln_q1257 : pN S_9 q1257 = 128 := by rw [← eS_9, pN_sA]; exact ln_q1257
            refine lv_iload_n X.1 X.2.1 dX12_shelve_116 rfl (lv_at hl 2 rfl) ?_
            refine lv_if_ne (tgt := 133) X.1 X.2.1 dX12_shelve_117 (by decide) (fun c_117 => ?_) (fun c_117 => absurd c_117 c_36)
            refine lv_iload_n X.1 X.2.1 dX12_shelve_133 rfl (lv_at hl 2 rfl) ?_
            refine lv_iconst (v := 2) X.1 X.2.1 dX12_shelve_134 (by decide) ?_
            refine lv_icmp_ne (tgt := 174) X.1 X.2.1 dX12_shelve_135 (by decide) (fun c_135 => absurd c_66 c_135) (fun c_135 => ?_)
            refine lv_aload_n X.1 X.2.1 dX12_shelve_138 rfl (lv_at hl 0 rfl) ?_
            refine r_getR (g := 1256) X hw hat_mo 56 rf_q1256 (by decide) rfl inn_X12_shelve_12 (by decide) (X.2.2.2.1 (.fieldLink RX12 134 "SilkMillModel" "wordMany" "[I") (by decide +kernel)) rfl (gv_1256 _ _) dX12_shelve_139 ?_
            refine lv_iload_n X.1 X.2.1 dX12_shelve_142 rfl (lv_at hl 1 rfl) ?_
            refine lv_iload_n X.1 X.2.1 dX12_shelve_143 rfl (lv_at hl 3 rfl) ?_
            refine r_iast X hw hat_q1256 (by rw [ln_q1256]; exact wi_vp b_9 (by decide)) dX12_shelve_144 (fun H locs hw => ?_)
            generalize eS_10 : sA S_9 q1256 (upd (pA S_9 q1256) (Int32.toNatClampNeg (a1)) a3) = S_10 at hw
            have hat_mo : At S_10 mo 12 := by rw [← eS_10]; exact At_sA hat_mo
            have hat_q1253 : At S_10 q1253 15 := by rw [← eS_10]; exact At_sA hat_q1253
            have hat_q1254 : At S_10 q1254 14 := by rw [← eS_10]; exact At_sA hat_q1254
            have hat_q1255 : At S_10 q1255 14 := by rw [← eS_10]; exact At_sA hat_q1255
            have hat_q1256 : At S_10 q1256 14 := by rw [← eS_10]; exact At_sA hat_q1256
            have hat_q1257 : At S_10 q1257 14 := by rw [← eS_10]; exact At_sA hat_q1257
            have rf_q1253 : pR S_10 1253 mo = some q1253 := by rw [← eS_10, pR_sA]; exact rf_q1253
            have rf_q1254 : pR S_10 1254 mo = some q1254 := by rw [← eS_10, pR_sA]; exact rf_q1254
            have rf_q1255 : pR S_10 1255 mo = some q1255 := by rw [← eS_10, pR_sA]; exact rf_q1255
            have rf_q1256 : pR S_10 1256 mo = some q1256 := by rw [← eS_10, pR_sA]; exact rf_q1256
            have rf_q1257 : pR S_10 1257 mo = some q1257 := by rw [← eS_10, pR_sA]; exact rf_q1257
            have ci_1201 : pI S_10 1201 mo = 0 := by rw [← eS_10, pI_sA]; exact ci_1201
            have hc_2 : pI S_10 1200 mo = 0 := by rw [← eS_10, pI_sA]; exact hc_2
            have ln_q1253 : pN S_10 q1253 = 16 := by rw [← eS_10, pN_sA]; exact ln_q1253
            have ln_q1254 : pN S_10 q1254 = 16 := by rw [← eS_10, pN_sA]; exact ln_q1254
            have ln_q1255 : pN S_10 q1255 = 16 := by rw [← eS_10, pN_sA]; exact ln_q1255
            have ln_q1256 : pN S_10 q1256 = 16 := by rw [← eS_10, pN_sA]; exact ln_q1256
            have ln_q1257 : pN S_10 q1257 = 128 := by rw [← eS_10, pN_sA]; exact ln_q1257
            refine lv_iconst (v := 0) X.1 X.2.1 dX12_shelve_145 (by decide) ?_
            refine lv_istore (lv' := [(5, .int 0), (0, .ref mo), (1, .int (a1)), (2, .int (a2)), (3, .int (a3)), (4, .int (a4))]) X.1 X.2.1 dX12_shelve_146 hl (by decide) rfl (fun ls hl => ?_)
            obtain ⟨N, hN8, ea3⟩ := wi_nat8 b_73
            have loop : ∀ (d i : Nat) (T : PS) (H : Heap) (locs : List Loc) (ls : Array Slot), i + d = N → At T mo 12 → pR T 1257 mo = some q1257 → At T q1257 14 → pN T q1257 = 128 → Wd G cy (AS S s.heap.size) s.heap T H locs → lv_has ls 6 [(5, .int (nI i)), (0, .ref mo), (1, .int (a1)), (2, .int (a2)), (3, .int (a3)), (4, .int (a4))] → W p l e ({ frames := 5, cells := 0, slots := 0, locals := 200 }) s m [.ref mo, .int (a1), .int (a2), .int (a3), .int (a4)].toArray below meth c H locs 0 0 (MQ below (va_Qi (fun (r : Int32) (S9 : PS) => r = shvV a1 a2 a3) (Bw G cy S s.heap.size) (AS S s.heap.size)) [.ref mo, .int (a1), .int (a2), .int (a3), .int (a4)].toArray s 0 0 (AS S s.heap.size)) (F0 m 148 ls []) := by
              intro d
              induction d with
              | zero =>
                intro i T H locs ls hi hat_mo rf_q1257 hat_q1257 ln_q1257 hw hl
                refine lv_iload X.1 X.2.1 dX12_shelve_148 (lv_at hl 0 rfl) ?_
                refine lv_iload_n X.1 X.2.1 dX12_shelve_150 rfl (lv_at hl 4 rfl) ?_
                refine lv_icmp_ge (tgt := 174) X.1 X.2.1 dX12_shelve_151 (by decide) (fun c_151 => ?_) (fun c_151 => absurd (by rw [ea3]; exact nI_le (by omega) (by omega)) c_151)
                refine lv_iconst (v := 1) X.1 X.2.1 dX12_shelve_174 (by decide) ?_
                exact ret_z X hw hr hlocks (Nat.le_of_ble_eq_true rfl) (Nat.le_of_ble_eq_true rfl) (by decide) (if_pos ⟨b_9, Or.inr ⟨c_66, b_73⟩⟩).symm dX12_shelve_175
              | succ d ih =>
                intro i T H locs ls hi hat_mo rf_q1257 hat_q1257 ln_q1257 hw hl
                refine lv_iload X.1 X.2.1 dX12_shelve_148 (lv_at hl 0 rfl) ?_
                refine lv_iload_n X.1 X.2.1 dX12_shelve_150 rfl (lv_at hl 4 rfl) ?_
                refine lv_icmp_ge (tgt := 174) X.1 X.2.1 dX12_shelve_151 (by decide) (fun c_151 => absurd c_151 (by rw [ea3]; exact nI_ge (by omega) (by omega))) (fun c_151 => ?_)
                refine lv_aload_n X.1 X.2.1 dX12_shelve_154 rfl (lv_at hl 1 rfl) ?_
                refine r_getR (g := 1257) X hw hat_mo 57 rf_q1257 (by decide) rfl inn_X12_shelve_12 (by decide) (X.2.2.2.1 (.fieldLink RX12 137 "SilkMillModel" "wordOf" "[I") (by decide +kernel)) rfl (gv_1257 _ _) dX12_shelve_155 ?_
                refine lv_bipush (v := 8) X.1 X.2.1 dX12_shelve_158 (by decide) ?_
                refine lv_iload_n X.1 X.2.1 dX12_shelve_160 rfl (lv_at hl 2 rfl) ?_
                refine lv_imul X.1 X.2.1 dX12_shelve_161 ?_
                refine lv_topi (fun v_11 ev_11 => ?_)
                refine lv_iload X.1 X.2.1 dX12_shelve_162 (lv_at hl 0 rfl) ?_
                refine lv_iadd X.1 X.2.1 dX12_shelve_164 ?_
                refine lv_topi (fun v_12 ev_12 => ?_)
                refine lv_iload X.1 X.2.1 dX12_shelve_165 (lv_at hl 5 rfl) ?_
                refine r_iast X hw hat_q1257 (by rw [ln_q1257]; exact vp_w128 b_9 (by omega) (by assumption) (by assumption)) dX12_shelve_167 (fun H locs hw => ?_)
                generalize eS_13 : sA T q1257 (upd (pA T q1257) (Int32.toNatClampNeg (v_12)) a4) = S_13 at hw
                have hat_mo : At S_13 mo 12 := by rw [← eS_13]; exact At_sA hat_mo
                have hat_q1257 : At S_13 q1257 14 := by rw [← eS_13]; exact At_sA hat_q1257
                have rf_q1257 : pR S_13 1257 mo = some q1257 := by rw [← eS_13, pR_sA]; exact rf_q1257
                have ln_q1257 : pN S_13 q1257 = 128 := by rw [← eS_13, pN_sA]; exact ln_q1257
                obtain ⟨x_14, ex_14⟩ : ∃ y : Int32, y = nI i + 1 := ⟨_, rfl⟩
                refine lv_iinc (v := x_14) (lv' := [(5, .int (x_14)), (0, .ref mo), (1, .int (a1)), (2, .int (a2)), (3, .int (a3)), (4, .int (a4))]) X.1 X.2.1 dX12_shelve_168 hl (k := 0) rfl (by rw [ex_14]; rfl) (by decide) rfl (fun ls hl => ?_)
                refine lv_goto (tgt := 148) X.1 X.2.1 dX12_shelve_171 (by decide) ?_
                exact ih (i + 1) _ _ _ _ (by omega) hat_mo rf_q1257 hat_q1257 ln_q1257 hw (by rw [show nI (i + 1) = x_14 from by rw [ex_14]; exact (nI_1 i).symm]; exact lv_sub hl [0, 1, 2, 3, 4, 5] rfl)
            exact loop N 0 _ _ _ _ (by omega) hat_mo rf_q1257 hat_q1257 ln_q1257 hw (by rw [show nI 0 = 0 from rfl]; exact hl)
          · have z_73 := trivial
            refine lv_if_ne (tgt := 81) X.1 X.2.1 dX12_shelve_76 (by decide) (fun c_76 => absurd c_76 (by decide)) (fun c_76 => ?_)
            refine lv_iconst (v := 0) X.1 X.2.1 dX12_shelve_79 (by decide) ?_
            exact ret_z X hw hr hlocks (Nat.le_of_ble_eq_true rfl) (Nat.le_of_ble_eq_true rfl) (by decide) (if_neg (fun h => by rcases h.2 with e | e; · rw [e] at c_66; revert c_66; decide; · exact b_73 e.2)).symm dX12_shelve_80
      · have z_36 := trivial
        refine lv_aload_n X.1 X.2.1 dX12_shelve_39 rfl (lv_at hl 0 rfl) ?_
        refine lv_iload_n X.1 X.2.1 dX12_shelve_40 rfl (lv_at hl 3 rfl) ?_
        refine lv_iload X.1 X.2.1 dX12_shelve_41 (lv_at hl 4 rfl) ?_
        refine k_i (rm := { frames := 3, cells := 0, slots := 0, locals := 120 }) (av := [.ref mo, .int (a3), .int (a4)]) X hw (va_runV (As := [.int (a3), .int (a4)]) (rest := []) (cfix X) (c_X12_isCocoon l G cy S_1 _ mo (a3) (a4) hat_mo ci_1201) (cwV 2 X.2.2.2.1 gX12_shelve_X12_isCocoon rfl rfl rfl (by decide +kernel) ⟨Nat.le_of_ble_eq_true rfl, Nat.le_of_ble_eq_true rfl⟩) (pre_V X hw _ hat_mo (by decide) rfl) rfl rfl hl.1 rfl (lv_room (Nat.le_of_ble_eq_true rfl)) dX12_shelve_43 ⟨Nat.le_of_ble_eq_true rfl, Nat.le_of_ble_eq_true rfl⟩) 0 0 (Nat.le_of_ble_eq_true rfl) (Nat.le_of_ble_eq_true rfl) (fun rr_43 S2 H locs hp hw hfr hnw => ?_)
        obtain ⟨e2_43, er_43⟩ := hp
        subst e2_43
        subst er_43
        refine lv_if_eq (tgt := 79) X.1 X.2.1 dX12_shelve_46 (by decide) (fun c_46 => ?_) (fun c_46 => absurd c_46 (by decide))
        refine lv_iconst (v := 0) X.1 X.2.1 dX12_shelve_79 (by decide) ?_
        exact ret_z X hw hr hlocks (Nat.le_of_ble_eq_true rfl) (Nat.le_of_ble_eq_true rfl) (by decide) (if_neg (fun h => by rcases h.2 with e | e; · rw [e] at c_36; revert c_36; decide; · rw [e.1] at c_36; revert c_36; decide)).symm dX12_shelve_80
    · have z_27 := trivial
      refine lv_if_ne (tgt := 35) X.1 X.2.1 dX12_shelve_30 (by decide) (fun c_30 => absurd c_30 (by decide)) (fun c_30 => ?_)
      refine lv_iconst (v := 0) X.1 X.2.1 dX12_shelve_33 (by decide) ?_
      exact ret_z X hw hr hlocks (Nat.le_of_ble_eq_true rfl) (Nat.le_of_ble_eq_true rfl) (by decide) (if_neg (fun h => b_27 (by rcases h.2 with e | e; · rw [e]; decide; · rw [e.1]; decide))).symm dX12_shelve_34
  · have z_9 := trivial
    refine lv_if_eq (tgt := 33) X.1 X.2.1 dX12_shelve_12 (by decide) (fun c_12 => ?_) (fun c_12 => absurd c_12 (by decide))
    refine lv_iconst (v := 0) X.1 X.2.1 dX12_shelve_33 (by decide) ?_
    exact ret_z X hw hr hlocks (Nat.le_of_ble_eq_true rfl) (Nat.le_of_ble_eq_true rfl) (by decide) (if_neg (fun h => b_9 h.1)).symm dX12_shelve_34
