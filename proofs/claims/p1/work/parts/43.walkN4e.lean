set_option maxHeartbeats 4000000 in
set_option maxRecDepth 100000 in
theorem c_X11_silkThatGrows (l : Launch) (G : va_G) (cy : Nat → ClassId) (S : PS) (sz : Nat) (x : Nat) (hF : FX S x) : Ci l yX11_silkThatGrows wsX11_silkThatGrows ({ frames := 4, cells := 0, slots := 0, locals := 160 }) G cy S sz [.ref x] (fun (r : Int32) (S9 : PS) => S = S9 ∧ r = 0) := by
  refine ent_m (cc := cX11_silkThatGrows) (maxL := 4) (ret := (some .int)) (by decide) rfl (Nat.le_of_ble_eq_true rfl) ?_
  intro p e s m below meth c ls X hr hlocks hin hw hl hsz
  subst hsz
  have X : Cx p c cX11_silkThatGrows 4 s [.ref x].toArray wsX11_silkThatGrows RX11 m G cy (AS S s.heap.size) := X
  have hl : lv_has ls 4 [(0, .ref x)] := hl
  have hF0 := hF
  obtain ⟨hat_x, ci_lots, ci_pots, ci_shv, ⟨cs, rf_cs, hat_cs, ln_cs⟩, ⟨lz, rf_lz, hat_lz, ln_lz⟩, ⟨ps, rf_ps, hat_ps, ln_ps⟩, ⟨tp, rf_tp, hat_tp, ci_tsz, ci_tfp, ⟨tb, rf_tb, hat_tb, ln_tb⟩⟩, ⟨st, rf_st, hat_st, ci_st, ⟨pr, rf_pr, hat_pr, ln_pr⟩, ⟨mx, rf_mx, hat_mx⟩⟩, ⟨dr, rf_dr, hat_dr, ci_dsz⟩, sh, rf_sh, hat_sh, ln_sh, hpl⟩ := hF
  have hF := hF0
  refine lv_iconst (v := 0) X.1 X.2.1 dX11_silkThatGrows_0 (by decide) ?_
  refine lv_istore_n (lv' := [(1, .int 0), (0, .ref x)]) X.1 X.2.1 dX11_silkThatGrows_1 rfl hl (by decide) rfl (fun ls hl => ?_)
  refine lv_iconst (v := 0) X.1 X.2.1 dX11_silkThatGrows_2 (by decide) ?_
  refine lv_istore_n (lv' := [(2, .int 0), (1, .int 0), (0, .ref x)]) X.1 X.2.1 dX11_silkThatGrows_3 rfl hl (by decide) rfl (fun ls hl => ?_)
  refine lv_iload_n X.1 X.2.1 dX11_silkThatGrows_4 rfl (lv_at hl 0 rfl) ?_
  refine lv_aload_n X.1 X.2.1 dX11_silkThatGrows_5 rfl (lv_at hl 2 rfl) ?_
  refine r_get (v := .int 0) X hw hat_x 4 (by decide) rfl inn_X11_silkThatGrows_11 (by decide) (X.2.2.2.1 (.fieldLink RX11 124 "SilkMill" "potsMade" "I") (by decide +kernel)) rfl ((gv_1104 _ _).trans (congrArg (fun z => some (Value.int z)) ci_pots)) dX11_silkThatGrows_6 ?_
  refine lv_icmp_ge (tgt := 42) X.1 X.2.1 dX11_silkThatGrows_9 (by decide) (fun c_9 => ?_) (fun c_9 => absurd c_9 (by decide))
  refine lv_iload_n X.1 X.2.1 dX11_silkThatGrows_42 rfl (lv_at hl 1 rfl) ?_
  exact ret_i X hw hr hlocks (Nat.le_of_ble_eq_true rfl) (Nat.le_of_ble_eq_true rfl) ⟨rfl, rfl⟩ dX11_silkThatGrows_43
set_option maxHeartbeats 4000000 in
set_option maxRecDepth 100000 in
theorem c_X11_count (l : Launch) (G : va_G) (cy : Nat → ClassId) (S : PS) (sz : Nat) (x : Nat) (a1 : Int32) (hF : FX S x) : Ci l yX11_count wsX11_count ({ frames := 5, cells := 0, slots := 0, locals := 200 }) G cy S sz [.ref x, .int (a1)] (fun (r : Int32) (S9 : PS) => r = cntV a1) := by
  refine ent_m (cc := cX11_count) (maxL := 2) (ret := (some .int)) (by decide) rfl (Nat.le_of_ble_eq_true rfl) ?_
  intro p e s m below meth c ls X hr hlocks hin hw hl hsz
  subst hsz
  have X : Cx p c cX11_count 2 s [.ref x, .int (a1)].toArray wsX11_count RX11 m G cy (AS S s.heap.size) := X
  have hl : lv_has ls 2 [(0, .ref x), (1, .int (a1))] := hl
  have hF0 := hF
  obtain ⟨hat_x, ci_lots, ci_pots, ci_shv, ⟨cs, rf_cs, hat_cs, ln_cs⟩, ⟨lz, rf_lz, hat_lz, ln_lz⟩, ⟨ps, rf_ps, hat_ps, ln_ps⟩, ⟨tp, rf_tp, hat_tp, ci_tsz, ci_tfp, ⟨tb, rf_tb, hat_tb, ln_tb⟩⟩, ⟨st, rf_st, hat_st, ci_st, ⟨pr, rf_pr, hat_pr, ln_pr⟩, ⟨mx, rf_mx, hat_mx⟩⟩, ⟨dr, rf_dr, hat_dr, ci_dsz⟩, sh, rf_sh, hat_sh, ln_sh, hpl⟩ := hF
  have ci_800 := ci_st 800 (by decide)
  have ci_801 := ci_st 801 (by decide)
  have ci_802 := ci_st 802 (by decide)
  have ci_803 := ci_st 803 (by decide)
  have ci_804 := ci_st 804 (by decide)
  have ci_805 := ci_st 805 (by decide)
  have ci_806 := ci_st 806 (by decide)
  have hF := hF0
  have hFst : StF S st := by obtain ⟨-, -, -, -, -, -, -, -, ⟨t9, h8, h9⟩, -⟩ := hF; rw [h8] at rf_st; cases rf_st; exact h9
  refine lv_iload_n X.1 X.2.1 dX11_count_0 rfl (lv_at hl 1 rfl) ?_
  by_cases w_1 : (a1).toInt < 0 ∨ 11 < (a1).toInt
  · refine lv_tableOut (tgt := 148) X.1 X.2.1 dX11_count_1 w_1 (by decide) ?_
    refine lv_iconst (v := (-1)) X.1 X.2.1 dX11_count_148 (by decide) ?_
    exact ret_i X hw hr hlocks (Nat.le_of_ble_eq_true rfl) (Nat.le_of_ble_eq_true rfl) (by unfold cntV; first | rw [if_pos (by omega)] | rw [if_neg (by omega)]) dX11_count_149
  have w2_1 : (a1).toInt = 0 ∨ (a1).toInt = 1 ∨ (a1).toInt = 2 ∨ (a1).toInt = 3 ∨ (a1).toInt = 4 ∨ (a1).toInt = 5 ∨ (a1).toInt = 6 ∨ (a1).toInt = 7 ∨ (a1).toInt = 8 ∨ (a1).toInt = 9 ∨ (a1).toInt = 10 ∨ (a1).toInt = 11 := by omega
  rcases w2_1 with w3_1 | w3_1 | w3_1 | w3_1 | w3_1 | w3_1 | w3_1 | w3_1 | w3_1 | w3_1 | w3_1 | w3_1
  · refine lv_tableIn (tgt := 64) X.1 X.2.1 dX11_count_1 (by omega) (by omega) (by rw [w3_1]; rfl) (by decide) ?_
    refine lv_aload_n X.1 X.2.1 dX11_count_64 rfl (lv_at hl 0 rfl) ?_
    refine r_get (v := .int 0) X hw hat_x 2 (by decide) rfl inn_X11_count_11 (by decide) (X.2.2.2.1 (.fieldLink RX11 63 "SilkMill" "lots" "I") (by decide +kernel)) rfl ((gv_1102 _ _).trans (congrArg (fun z => some (Value.int z)) ci_lots)) dX11_count_65 ?_
    exact ret_i X hw hr hlocks (Nat.le_of_ble_eq_true rfl) (Nat.le_of_ble_eq_true rfl) (by unfold cntV; first | rw [if_pos (by omega)] | rw [if_neg (by omega)]) dX11_count_68
  · refine lv_tableIn (tgt := 69) X.1 X.2.1 dX11_count_1 (by omega) (by omega) (by rw [w3_1]; rfl) (by decide) ?_
    refine lv_aload_n X.1 X.2.1 dX11_count_69 rfl (lv_at hl 0 rfl) ?_
    refine r_get (v := .int 0) X hw hat_x 4 (by decide) rfl inn_X11_count_11 (by decide) (X.2.2.2.1 (.fieldLink RX11 124 "SilkMill" "potsMade" "I") (by decide +kernel)) rfl ((gv_1104 _ _).trans (congrArg (fun z => some (Value.int z)) ci_pots)) dX11_count_70 ?_
    exact ret_i X hw hr hlocks (Nat.le_of_ble_eq_true rfl) (Nat.le_of_ble_eq_true rfl) (by unfold cntV; first | rw [if_pos (by omega)] | rw [if_neg (by omega)]) dX11_count_73
  · refine lv_tableIn (tgt := 74) X.1 X.2.1 dX11_count_1 (by omega) (by omega) (by rw [w3_1]; rfl) (by decide) ?_
    refine lv_aload_n X.1 X.2.1 dX11_count_74 rfl (lv_at hl 0 rfl) ?_
    refine r_getR (g := 1107) X hw hat_x 7 rf_st (by decide) rfl inn_X11_count_11 (by decide) (X.2.2.2.1 (.fieldLink RX11 42 "SilkMill" "store" "LSilkMill$Store;") (by decide +kernel)) rfl (gv_1107 _ _) dX11_count_75 ?_
    refine r_get (v := .int 0) X hw hat_st 0 (by decide) rfl inn_X11_count_8 (by decide) (X.2.2.2.1 (.fieldLink RX11 359 "SilkMill$Store" "kept" "I") (by decide +kernel)) rfl ((gv_800 _ _).trans (congrArg (fun z => some (Value.int z)) ci_800)) dX11_count_78 ?_
    exact ret_i X hw hr hlocks (Nat.le_of_ble_eq_true rfl) (Nat.le_of_ble_eq_true rfl) (by unfold cntV; first | rw [if_pos (by omega)] | rw [if_neg (by omega)]) dX11_count_81
  · refine lv_tableIn (tgt := 82) X.1 X.2.1 dX11_count_1 (by omega) (by omega) (by rw [w3_1]; rfl) (by decide) ?_
    refine lv_aload_n X.1 X.2.1 dX11_count_82 rfl (lv_at hl 0 rfl) ?_
    refine r_getR (g := 1107) X hw hat_x 7 rf_st (by decide) rfl inn_X11_count_11 (by decide) (X.2.2.2.1 (.fieldLink RX11 42 "SilkMill" "store" "LSilkMill$Store;") (by decide +kernel)) rfl (gv_1107 _ _) dX11_count_83 ?_
    refine r_get (v := .int 0) X hw hat_st 1 (by decide) rfl inn_X11_count_8 (by decide) (X.2.2.2.1 (.fieldLink RX11 349 "SilkMill$Store" "today" "I") (by decide +kernel)) rfl ((gv_801 _ _).trans (congrArg (fun z => some (Value.int z)) ci_801)) dX11_count_86 ?_
    exact ret_i X hw hr hlocks (Nat.le_of_ble_eq_true rfl) (Nat.le_of_ble_eq_true rfl) (by unfold cntV; first | rw [if_pos (by omega)] | rw [if_neg (by omega)]) dX11_count_89
  · refine lv_tableIn (tgt := 90) X.1 X.2.1 dX11_count_1 (by omega) (by omega) (by rw [w3_1]; rfl) (by decide) ?_
    refine lv_aload_n X.1 X.2.1 dX11_count_90 rfl (lv_at hl 0 rfl) ?_
    refine r_getR (g := 1105) X hw hat_x 5 rf_tp (by decide) rfl inn_X11_count_11 (by decide) (X.2.2.2.1 (.fieldLink RX11 28 "SilkMill" "tape" "LSilkMill$Tape;") (by decide +kernel)) rfl (gv_1105 _ _) dX11_count_91 ?_
    refine r_get (v := .int 0) X hw hat_tp 0 (by decide) rfl inn_X11_count_10 (by decide) (X.2.2.2.1 (.fieldLink RX11 145 "SilkMill$Tape" "size" "I") (by decide +kernel)) rfl ((gv_1000 _ _).trans (congrArg (fun z => some (Value.int z)) ci_tsz)) dX11_count_94 ?_
    exact ret_i X hw hr hlocks (Nat.le_of_ble_eq_true rfl) (Nat.le_of_ble_eq_true rfl) (by unfold cntV; first | rw [if_pos (by omega)] | rw [if_neg (by omega)]) dX11_count_97
  · refine lv_tableIn (tgt := 98) X.1 X.2.1 dX11_count_1 (by omega) (by omega) (by rw [w3_1]; rfl) (by decide) ?_
    refine lv_aload_n X.1 X.2.1 dX11_count_98 rfl (lv_at hl 0 rfl) ?_
    refine r_getR (g := 1107) X hw hat_x 7 rf_st (by decide) rfl inn_X11_count_11 (by decide) (X.2.2.2.1 (.fieldLink RX11 42 "SilkMill" "store" "LSilkMill$Store;") (by decide +kernel)) rfl (gv_1107 _ _) dX11_count_99 ?_
    refine r_get (v := .int 0) X hw hat_st 6 (by decide) rfl inn_X11_count_8 (by decide) (X.2.2.2.1 (.fieldLink RX11 362 "SilkMill$Store" "faults" "I") (by decide +kernel)) rfl ((gv_806 _ _).trans (congrArg (fun z => some (Value.int z)) ci_806)) dX11_count_102 ?_
    exact ret_i X hw hr hlocks (Nat.le_of_ble_eq_true rfl) (Nat.le_of_ble_eq_true rfl) (by unfold cntV; first | rw [if_pos (by omega)] | rw [if_neg (by omega)]) dX11_count_105
  · refine lv_tableIn (tgt := 106) X.1 X.2.1 dX11_count_1 (by omega) (by omega) (by rw [w3_1]; rfl) (by decide) ?_
    refine lv_aload_n X.1 X.2.1 dX11_count_106 rfl (lv_at hl 0 rfl) ?_
    refine r_getR (g := 1107) X hw hat_x 7 rf_st (by decide) rfl inn_X11_count_11 (by decide) (X.2.2.2.1 (.fieldLink RX11 42 "SilkMill" "store" "LSilkMill$Store;") (by decide +kernel)) rfl (gv_1107 _ _) dX11_count_107 ?_
    refine r_get (v := .int 0) X hw hat_st 2 (by decide) rfl inn_X11_count_8 (by decide) (X.2.2.2.1 (.fieldLink RX11 365 "SilkMill$Store" "silkDrawn" "I") (by decide +kernel)) rfl ((gv_802 _ _).trans (congrArg (fun z => some (Value.int z)) ci_802)) dX11_count_110 ?_
    exact ret_i X hw hr hlocks (Nat.le_of_ble_eq_true rfl) (Nat.le_of_ble_eq_true rfl) (by unfold cntV; first | rw [if_pos (by omega)] | rw [if_neg (by omega)]) dX11_count_113
  · refine lv_tableIn (tgt := 114) X.1 X.2.1 dX11_count_1 (by omega) (by omega) (by rw [w3_1]; rfl) (by decide) ?_
    refine lv_aload_n X.1 X.2.1 dX11_count_114 rfl (lv_at hl 0 rfl) ?_
    refine r_getR (g := 1107) X hw hat_x 7 rf_st (by decide) rfl inn_X11_count_11 (by decide) (X.2.2.2.1 (.fieldLink RX11 42 "SilkMill" "store" "LSilkMill$Store;") (by decide +kernel)) rfl (gv_1107 _ _) dX11_count_115 ?_
    refine r_get (v := .int 0) X hw hat_st 3 (by decide) rfl inn_X11_count_8 (by decide) (X.2.2.2.1 (.fieldLink RX11 368 "SilkMill$Store" "silkKept" "I") (by decide +kernel)) rfl ((gv_803 _ _).trans (congrArg (fun z => some (Value.int z)) ci_803)) dX11_count_118 ?_
    exact ret_i X hw hr hlocks (Nat.le_of_ble_eq_true rfl) (Nat.le_of_ble_eq_true rfl) (by unfold cntV; first | rw [if_pos (by omega)] | rw [if_neg (by omega)]) dX11_count_121
  · refine lv_tableIn (tgt := 122) X.1 X.2.1 dX11_count_1 (by omega) (by omega) (by rw [w3_1]; rfl) (by decide) ?_
    refine lv_aload_n X.1 X.2.1 dX11_count_122 rfl (lv_at hl 0 rfl) ?_
    refine k_i (rm := { frames := 4, cells := 0, slots := 0, locals := 160 }) (av := [.ref x]) X hw (va_runV (As := []) (rest := []) (cfix X) (c_X11_silkThatGrows l G cy S _ x hF) (cwV 0 X.2.2.2.1 gX11_count_X11_silkThatGrows rfl rfl rfl (by decide +kernel) ⟨Nat.le_of_ble_eq_true rfl, Nat.le_of_ble_eq_true rfl⟩) (pre_V X hw _ hat_x (by decide) rfl) rfl rfl hl.1 rfl (lv_room (Nat.le_of_ble_eq_true rfl)) dX11_count_123 ⟨Nat.le_of_ble_eq_true rfl, Nat.le_of_ble_eq_true rfl⟩) 0 0 (Nat.le_of_ble_eq_true rfl) (Nat.le_of_ble_eq_true rfl) (fun rr_123 S2 H locs hp hw hfr hnw => ?_)
    obtain ⟨e2_123, er_123⟩ := hp
    subst e2_123
    subst er_123
    exact ret_i X hw hr hlocks (Nat.le_of_ble_eq_true rfl) (Nat.le_of_ble_eq_true rfl) (by unfold cntV; first | rw [if_pos (by omega)] | rw [if_neg (by omega)]) dX11_count_126
  · refine lv_tableIn (tgt := 127) X.1 X.2.1 dX11_count_1 (by omega) (by omega) (by rw [w3_1]; rfl) (by decide) ?_
    refine lv_aload_n X.1 X.2.1 dX11_count_127 rfl (lv_at hl 0 rfl) ?_
    refine r_getR (g := 1107) X hw hat_x 7 rf_st (by decide) rfl inn_X11_count_11 (by decide) (X.2.2.2.1 (.fieldLink RX11 42 "SilkMill" "store" "LSilkMill$Store;") (by decide +kernel)) rfl (gv_1107 _ _) dX11_count_128 ?_
    refine r_get (v := .int 0) X hw hat_st 5 (by decide) rfl inn_X11_count_8 (by decide) (X.2.2.2.1 (.fieldLink RX11 374 "SilkMill$Store" "waste" "I") (by decide +kernel)) rfl ((gv_805 _ _).trans (congrArg (fun z => some (Value.int z)) ci_805)) dX11_count_131 ?_
    exact ret_i X hw hr hlocks (Nat.le_of_ble_eq_true rfl) (Nat.le_of_ble_eq_true rfl) (by unfold cntV; first | rw [if_pos (by omega)] | rw [if_neg (by omega)]) dX11_count_134
  · refine lv_tableIn (tgt := 135) X.1 X.2.1 dX11_count_1 (by omega) (by omega) (by rw [w3_1]; rfl) (by decide) ?_
    refine lv_aload_n X.1 X.2.1 dX11_count_135 rfl (lv_at hl 0 rfl) ?_
    refine r_getR (g := 1107) X hw hat_x 7 rf_st (by decide) rfl inn_X11_count_11 (by decide) (X.2.2.2.1 (.fieldLink RX11 42 "SilkMill" "store" "LSilkMill$Store;") (by decide +kernel)) rfl (gv_1107 _ _) dX11_count_136 ?_
    refine r_get (v := .int 0) X hw hat_st 4 (by decide) rfl inn_X11_count_8 (by decide) (X.2.2.2.1 (.fieldLink RX11 377 "SilkMill$Store" "silkThrown" "I") (by decide +kernel)) rfl ((gv_804 _ _).trans (congrArg (fun z => some (Value.int z)) ci_804)) dX11_count_139 ?_
    exact ret_i X hw hr hlocks (Nat.le_of_ble_eq_true rfl) (Nat.le_of_ble_eq_true rfl) (by unfold cntV; first | rw [if_pos (by omega)] | rw [if_neg (by omega)]) dX11_count_142
  · refine lv_tableIn (tgt := 143) X.1 X.2.1 dX11_count_1 (by omega) (by omega) (by rw [w3_1]; rfl) (by decide) ?_
    refine lv_aload_n X.1 X.2.1 dX11_count_143 rfl (lv_at hl 0 rfl) ?_
    refine r_get (v := .int 0) X hw hat_x 10 (by decide) rfl inn_X11_count_11 (by decide) (X.2.2.2.1 (.fieldLink RX11 321 "SilkMill" "shelved" "I") (by decide +kernel)) rfl ((gv_1110 _ _).trans (congrArg (fun z => some (Value.int z)) ci_shv)) dX11_count_144 ?_
    exact ret_i X hw hr hlocks (Nat.le_of_ble_eq_true rfl) (Nat.le_of_ble_eq_true rfl) (by unfold cntV; first | rw [if_pos (by omega)] | rw [if_neg (by omega)]) dX11_count_147
set_option maxHeartbeats 4000000 in
set_option maxRecDepth 100000 in
theorem c_X11_pot (l : Launch) (G : va_G) (cy : Nat → ClassId) (S : PS) (sz : Nat) (x : Nat) (a1 : Int32) (a2 : Int32) (hF : FX S x) : Ci l yX11_pot wsX11_pot ({ frames := 6, cells := 60, slots := 6000, locals := 240 }) G cy S sz [.ref x, .int (a1), .int (a2)] (fun (r : Int32) (S9 : PS) => r = potV a1 a2) := by
  refine ent_m (cc := cX11_pot) (maxL := 3) (ret := (some .int)) (by decide) rfl (Nat.le_of_ble_eq_true rfl) ?_
  intro p e s m below meth c ls X hr hlocks hin hw hl hsz
  subst hsz
  have X : Cx p c cX11_pot 3 s [.ref x, .int (a1), .int (a2)].toArray wsX11_pot RX11 m G cy (AS S s.heap.size) := X
  have hl : lv_has ls 3 [(0, .ref x), (1, .int (a1)), (2, .int (a2))] := hl
  have hF0 := hF
  obtain ⟨hat_x, ci_lots, ci_pots, ci_shv, ⟨cs, rf_cs, hat_cs, ln_cs⟩, ⟨lz, rf_lz, hat_lz, ln_lz⟩, ⟨ps, rf_ps, hat_ps, ln_ps⟩, ⟨tp, rf_tp, hat_tp, ci_tsz, ci_tfp, ⟨tb, rf_tb, hat_tb, ln_tb⟩⟩, ⟨st, rf_st, hat_st, ci_st, ⟨pr, rf_pr, hat_pr, ln_pr⟩, ⟨mx, rf_mx, hat_mx⟩⟩, ⟨dr, rf_dr, hat_dr, ci_dsz⟩, sh, rf_sh, hat_sh, ln_sh, hpl⟩ := hF
  have hF := hF0
  refine lv_aload_n X.1 X.2.1 dX11_pot_0 rfl (lv_at hl 0 rfl) ?_
  refine r_get (v := .int 0) X hw hat_x 4 (by decide) rfl inn_X11_pot_11 (by decide) (X.2.2.2.1 (.fieldLink RX11 124 "SilkMill" "potsMade" "I") (by decide +kernel)) rfl ((gv_1104 _ _).trans (congrArg (fun z => some (Value.int z)) ci_pots)) dX11_pot_1 ?_
  refine lv_iconst (v := 4) X.1 X.2.1 dX11_pot_4 (by decide) ?_
  refine lv_icmp_ge (tgt := 25) X.1 X.2.1 dX11_pot_5 (by decide) (fun c_5 => absurd c_5 (by decide)) (fun c_5 => ?_)
  refine lv_iload_n X.1 X.2.1 dX11_pot_8 rfl (lv_at hl 1 rfl) ?_
  refine k_i (rm := { frames := 2, cells := 0, slots := 0, locals := 80 }) (av := [.int (a1)]) X hw (va_runS (As := [.int (a1)]) (rest := []) (cfix X) (c_X11_isTarget l G cy S _ (a1)) (cwS 1 X.2.2.2.1 gX11_pot_X11_isTarget rfl rfl rfl (by decide +kernel) ⟨Nat.le_of_ble_eq_true rfl, Nat.le_of_ble_eq_true rfl⟩) (pre_S X hw _) rfl rfl hl.1 rfl (lv_room (Nat.le_of_ble_eq_true rfl)) dX11_pot_9 ⟨Nat.le_of_ble_eq_true rfl, Nat.le_of_ble_eq_true rfl⟩) 0 0 (Nat.le_of_ble_eq_true rfl) (Nat.le_of_ble_eq_true rfl) (fun rr_9 S2 H locs hp hw hfr hnw => ?_)
  obtain ⟨e2_9, hp⟩ := hp
  subst e2_9
  rcases hp with ⟨b_9, er_9⟩ | ⟨b_9, er_9⟩ <;> subst er_9
  · have z_9 := trivial
    refine lv_if_eq (tgt := 25) X.1 X.2.1 dX11_pot_12 (by decide) (fun c_12 => absurd c_12 (by decide)) (fun c_12 => ?_)
    refine lv_iload_n X.1 X.2.1 dX11_pot_15 rfl (lv_at hl 2 rfl) ?_
    refine lv_iconst (v := 1) X.1 X.2.1 dX11_pot_16 (by decide) ?_
    refine lv_bipush (v := 50) X.1 X.2.1 dX11_pot_17 (by decide) ?_
    refine k_i (rm := { frames := 1, cells := 0, slots := 0, locals := 40 }) (av := [.int (a2), .int 1, .int 50]) X hw (va_runS (As := [.int (a2), .int 1, .int 50]) (rest := []) (cfix X) (c_X11_isWithin l G cy S _ (a2) (1) (50)) (cwS 3 X.2.2.2.1 gX11_pot_X11_isWithin rfl rfl rfl (by decide +kernel) ⟨Nat.le_of_ble_eq_true rfl, Nat.le_of_ble_eq_true rfl⟩) (pre_S X hw _) rfl rfl hl.1 rfl (lv_room (Nat.le_of_ble_eq_true rfl)) dX11_pot_19 ⟨Nat.le_of_ble_eq_true rfl, Nat.le_of_ble_eq_true rfl⟩) 0 0 (Nat.le_of_ble_eq_true rfl) (Nat.le_of_ble_eq_true rfl) (fun rr_19 S2 H locs hp hw hfr hnw => ?_)
    obtain ⟨e2_19, hp⟩ := hp
    subst e2_19
    rcases hp with ⟨b_19, er_19⟩ | ⟨b_19, er_19⟩ <;> subst er_19
    · have z_19 := trivial
      refine lv_if_ne (tgt := 27) X.1 X.2.1 dX11_pot_22 (by decide) (fun c_22 => ?_) (fun c_22 => absurd c_22 (by decide))
      refine lv_aload_n X.1 X.2.1 dX11_pot_27 rfl (lv_at hl 0 rfl) ?_
      refine r_getR (g := 1103) X hw hat_x 3 rf_ps (by decide) rfl inn_X11_pot_11 (by decide) (X.2.2.2.1 (.fieldLink RX11 21 "SilkMill" "pots" "[LSilkMill$Pot;") (by decide +kernel)) rfl (gv_1103 _ _) dX11_pot_28 ?_
      refine lv_aload_n X.1 X.2.1 dX11_pot_31 rfl (lv_at hl 0 rfl) ?_
      refine r_get (v := .int 0) X hw hat_x 4 (by decide) rfl inn_X11_pot_11 (by decide) (X.2.2.2.1 (.fieldLink RX11 124 "SilkMill" "potsMade" "I") (by decide +kernel)) rfl ((gv_1104 _ _).trans (congrArg (fun z => some (Value.int z)) ci_pots)) dX11_pot_32 ?_
      have hat_x_o := hat_x
      have hat_ps_o := hat_ps
      refine r_new X hw 4 12 1 tyX4 (by decide) rfl inn_X11_pot_4 tyX4_ok (X.2.2.2.1 (.classLink RX11 19 RX4) (by decide +kernel)) (X.2.2.2.1 (.instantiable RX4 12) (by decide +kernel)) (X.2.2.2.1 (.initialized RX4) (by decide +kernel)) zo_4 zd_4 (Nat.le_of_ble_eq_true rfl) (Nat.le_of_ble_eq_true rfl) (Nat.le_of_ble_eq_true rfl) (Nat.le_of_ble_eq_true rfl) dX11_pot_35 (fun q_1 H hq_1 hw => ?_)
      have ne_x_q_1 : x ≠ q_1 := At_old hat_x_o hq_1
      have ne_ps_q_1 : ps ≠ q_1 := At_old hat_ps_o hq_1
      generalize eS_2 : sO S q_1 4 = S_2 at hw
      have hat_x : At S_2 x 11 := by rw [← eS_2]; exact At_sO hat_x hq_1
      have hat_ps : At S_2 ps 18 := by rw [← eS_2]; exact At_sO hat_ps hq_1
      have rf_ps : pR S_2 1103 x = some ps := by rw [← eS_2]; exact (pR_sO_ne (At_old hat_x_o hq_1)).trans rf_ps
      have ci_lots : pI S_2 1102 x = 0 := by rw [← eS_2]; exact (pI_sO_ne (At_old hat_x_o hq_1)).trans ci_lots
      have ci_pots : pI S_2 1104 x = 0 := by rw [← eS_2]; exact (pI_sO_ne (At_old hat_x_o hq_1)).trans ci_pots
      have ci_shv : pI S_2 1110 x = 0 := by rw [← eS_2]; exact (pI_sO_ne (At_old hat_x_o hq_1)).trans ci_shv
      have ln_ps : pN S_2 ps = 4 := by rw [← eS_2, pN_sO]; exact ln_ps
      have ha_3 : At S_2 q_1 4 := by rw [← eS_2]; exact At_nO _ _ _
      have hz_4 : ∀ g, pI S_2 g q_1 = 0 := fun g => by rw [← eS_2]; exact pI_sO_new
      refine lv_dup X.1 X.2.1 dX11_pot_38 rfl ?_
      refine lv_aload_n X.1 X.2.1 dX11_pot_39 rfl (lv_at hl 0 rfl) ?_
      refine r_get (v := .int 0) X hw hat_x 4 (by decide) rfl inn_X11_pot_11 (by decide) (X.2.2.2.1 (.fieldLink RX11 124 "SilkMill" "potsMade" "I") (by decide +kernel)) rfl ((gv_1104 _ _).trans (congrArg (fun z => some (Value.int z)) ci_pots)) dX11_pot_40 ?_
      refine lv_iload_n X.1 X.2.1 dX11_pot_43 rfl (lv_at hl 1 rfl) ?_
      refine lv_iload_n X.1 X.2.1 dX11_pot_44 rfl (lv_at hl 2 rfl) ?_
      refine k_v (rm := { frames := 4, cells := 40, slots := 4000, locals := 160 }) (av := [.ref q_1, .int 0, .int (a1), .int (a2)]) X hw (va_runI (As := [.int 0, .int (a1), .int (a2)]) (rest := [.ref q_1, .int 0, .ref ps]) (cfix X) (c_X4_init l G cy S_2 _ q_1 (0) (a1) (a2) ha_3 hz_4) (cwI 3 X.2.2.2.1 gX11_pot_X4_init rfl rfl rfl (X.2.2.2.1 (.initialized RX4) (by decide +kernel)) (X.2.2.2.1 (.methodLink RX11 131 yX4_init) (by decide +kernel)) (X.2.2.2.1 (.instanceMethod yX4_init) (by decide +kernel)) rfl (by decide +kernel) ⟨Nat.le_of_ble_eq_true rfl, Nat.le_of_ble_eq_true rfl⟩) (pre_S X hw _) rfl rfl hl.1 rfl (lv_room (Nat.le_of_ble_eq_true rfl)) dX11_pot_45 ⟨Nat.le_of_ble_eq_true rfl, Nat.le_of_ble_eq_true rfl⟩) 41 4012 (Nat.le_of_ble_eq_true rfl) (Nat.le_of_ble_eq_true rfl) (fun S2 H locs hp hw hfr hnw => ?_)
      obtain ⟨hk2, hf_q_1⟩ := hp
      generalize eq_Sc_45_5 : S2 = Sc_45_5 at hk2 hf_q_1 hw
      have hat_x_c := hat_x
      have hat_ps_c := hat_ps
      have ha_3_c := ha_3
      have hat_x : At Sc_45_5 x 11 := Kp_at hk2 hat_x_c
      have hat_ps : At Sc_45_5 ps 18 := Kp_at hk2 hat_ps_c
      have ha_3 : At Sc_45_5 q_1 4 := Kp_at hk2 ha_3_c
      have rf_ps : pR Sc_45_5 1103 x = some ps := ((hk2.2 x hat_x_c.1 ne_x_q_1).2.1 1103).trans rf_ps
      have ci_lots : pI Sc_45_5 1102 x = 0 := ((hk2.2 x hat_x_c.1 ne_x_q_1).1 1102).trans ci_lots
      have ci_pots : pI Sc_45_5 1104 x = 0 := ((hk2.2 x hat_x_c.1 ne_x_q_1).1 1104).trans ci_pots
      have ci_shv : pI Sc_45_5 1110 x = 0 := ((hk2.2 x hat_x_c.1 ne_x_q_1).1 1110).trans ci_shv
      have ln_ps : pN Sc_45_5 ps = 4 := ((hk2.2 ps hat_ps_c.1 ne_ps_q_1).2.2.1).trans ln_ps
      refine r_aast X hw hat_ps ha_3 (by decide) (by decide) rfl rfl (by rw [ln_ps]; exact vp_in_iff.mpr (by decide +kernel)) dX11_pot_48 (fun H locs hw => ?_)
      generalize eS_6 : sB Sc_45_5 ps (va_up (pB Sc_45_5 ps) (Int32.toNatClampNeg (0)) (some q_1)) = S_6 at hw
      have hat_x : At S_6 x 11 := by rw [← eS_6]; exact At_sB hat_x
      have hat_ps : At S_6 ps 18 := by rw [← eS_6]; exact At_sB hat_ps
      have ha_3 : At S_6 q_1 4 := by rw [← eS_6]; exact At_sB ha_3
      have rf_ps : pR S_6 1103 x = some ps := by rw [← eS_6, pR_sB]; exact rf_ps
      have ci_lots : pI S_6 1102 x = 0 := by rw [← eS_6, pI_sB]; exact ci_lots
      have ci_pots : pI S_6 1104 x = 0 := by rw [← eS_6, pI_sB]; exact ci_pots
      have ci_shv : pI S_6 1110 x = 0 := by rw [← eS_6, pI_sB]; exact ci_shv
      have ln_ps : pN S_6 ps = 4 := by rw [← eS_6, pN_sB]; exact ln_ps
      refine lv_aload_n X.1 X.2.1 dX11_pot_49 rfl (lv_at hl 0 rfl) ?_
      refine lv_dup X.1 X.2.1 dX11_pot_50 rfl ?_
      refine r_get (v := .int 0) X hw hat_x 4 (by decide) rfl inn_X11_pot_11 (by decide) (X.2.2.2.1 (.fieldLink RX11 124 "SilkMill" "potsMade" "I") (by decide +kernel)) rfl ((gv_1104 _ _).trans (congrArg (fun z => some (Value.int z)) ci_pots)) dX11_pot_51 ?_
      refine lv_iconst (v := 1) X.1 X.2.1 dX11_pot_54 (by decide) ?_
      refine lv_iadd X.1 X.2.1 dX11_pot_55 ?_
      refine lv_topi (fun v_7 ev_7 => ?_)
      obtain rfl : v_7 = 1 := ev_7.trans (by decide +kernel)
      refine r_putI (v := 1) X hw hat_x 4 1104 tyX11 (by decide) rfl inn_X11_pot_11 tyX11_ok nmX11 (by decide) (X.2.2.2.1 (.fieldLink RX11 124 "SilkMill" "potsMade" "I") (by decide +kernel)) rfl (Or.inl rfl) rfl rfl (Nat.le_of_ble_eq_true rfl) (st_1104 _ _) dX11_pot_56 (fun H locs hw => ?_)
      generalize eS_8 : sI S_6 1104 x 1 = S_8 at hw
      have hat_x : At S_8 x 11 := by rw [← eS_8]; exact At_sI hat_x
      have hat_ps : At S_8 ps 18 := by rw [← eS_8]; exact At_sI hat_ps
      have ha_3 : At S_8 q_1 4 := by rw [← eS_8]; exact At_sI ha_3
      have rf_ps : pR S_8 1103 x = some ps := by rw [← eS_8, pR_sI]; exact rf_ps
      have ci_lots : pI S_8 1102 x = 0 := by rw [← eS_8]; exact (pI_sI_nf (by decide)).trans ci_lots
      have ci_shv : pI S_8 1110 x = 0 := by rw [← eS_8]; exact (pI_sI_nf (by decide)).trans ci_shv
      have ln_ps : pN S_8 ps = 4 := by rw [← eS_8, pN_sI]; exact ln_ps
      have hc_9 : pI S_8 1104 x = 1 := by rw [← eS_8]; exact pI_sI_same
      refine lv_aload_n X.1 X.2.1 dX11_pot_59 rfl (lv_at hl 0 rfl) ?_
      refine r_get (v := .int 1) X hw hat_x 4 (by decide) rfl inn_X11_pot_11 (by decide) (X.2.2.2.1 (.fieldLink RX11 124 "SilkMill" "potsMade" "I") (by decide +kernel)) rfl ((gv_1104 _ _).trans (congrArg (fun z => some (Value.int z)) hc_9)) dX11_pot_60 ?_
      refine lv_iconst (v := 1) X.1 X.2.1 dX11_pot_63 (by decide) ?_
      refine lv_isub X.1 X.2.1 dX11_pot_64 ?_
      refine lv_topi (fun v_10 ev_10 => ?_)
      obtain rfl : v_10 = 0 := ev_10.trans (by decide +kernel)
      exact ret_i X hw hr hlocks (Nat.le_of_ble_eq_true rfl) (Nat.le_of_ble_eq_true rfl) (if_pos ⟨b_9, b_19⟩).symm dX11_pot_65
    · have z_19 := trivial
      refine lv_if_ne (tgt := 27) X.1 X.2.1 dX11_pot_22 (by decide) (fun c_22 => absurd c_22 (by decide)) (fun c_22 => ?_)
      refine lv_iconst (v := (-1)) X.1 X.2.1 dX11_pot_25 (by decide) ?_
      exact ret_i X hw hr hlocks (Nat.le_of_ble_eq_true rfl) (Nat.le_of_ble_eq_true rfl) (if_neg (fun h => b_19 h.2)).symm dX11_pot_26
  · have z_9 := trivial
    refine lv_if_eq (tgt := 25) X.1 X.2.1 dX11_pot_12 (by decide) (fun c_12 => ?_) (fun c_12 => absurd c_12 (by decide))
    refine lv_iconst (v := (-1)) X.1 X.2.1 dX11_pot_25 (by decide) ?_
    exact ret_i X hw hr hlocks (Nat.le_of_ble_eq_true rfl) (Nat.le_of_ble_eq_true rfl) (if_neg (fun h => b_9 h.1)).symm dX11_pot_26
