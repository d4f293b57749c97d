set_option maxHeartbeats 4000000 in
set_option maxRecDepth 100000 in
theorem c_X10_forgetFault (l : Launch) (G : va_G) (cy : Nat → ClassId) (S : PS) (sz : Nat) (tp : Nat) (hat_tp : At S tp 10) : Cv l yX10_forgetFault wsX10_forgetFault ({ frames := 1, cells := 0, slots := 0, locals := 40 }) G cy S sz [.ref tp] (fun (S9 : PS) => True) := by
  refine ent_m (cc := cX10_forgetFault) (maxL := 1) (ret := none) (by decide) rfl (Nat.le_of_ble_eq_true rfl) ?_
  intro p e s m below meth c ls X hr hlocks hin hw hl hsz
  subst hsz
  have X : Cx p c cX10_forgetFault 1 s [.ref tp].toArray wsX10_forgetFault RX10 m G cy (AS S s.heap.size) := X
  have hl : lv_has ls 1 [(0, .ref tp)] := hl
  refine lv_aload_n X.1 X.2.1 dX10_forgetFault_0 rfl (lv_at hl 0 rfl) ?_
  refine lv_iconst (v := 0) X.1 X.2.1 dX10_forgetFault_1 (by decide) ?_
  refine r_putI (v := 0) X hw hat_tp 1 1001 tyX10 (by decide) rfl inn_X10_forgetFault_10 tyX10_ok nmX10 (by decide) (X.2.2.2.1 (.fieldLink RX10 22 "SilkMill$Tape" "faultKind" "I") (by decide +kernel)) rfl (Or.inl rfl) rfl rfl (Nat.le_of_ble_eq_true rfl) (st_1001 _ _) dX10_forgetFault_2 (fun H locs hw => ?_)
  generalize eS_1 : sI S 1001 tp 0 = S_1 at hw
  have hat_tp : At S_1 tp 10 := by rw [← eS_1]; exact At_sI hat_tp
  have hc_2 : pI S_1 1001 tp = 0 := by rw [← eS_1]; exact pI_sI_same
  refine lv_aload_n X.1 X.2.1 dX10_forgetFault_5 rfl (lv_at hl 0 rfl) ?_
  refine lv_iconst (v := (-1)) X.1 X.2.1 dX10_forgetFault_6 (by decide) ?_
  refine r_putI (v := (-1)) X hw hat_tp 2 1002 tyX10 (by decide) rfl inn_X10_forgetFault_10 tyX10_ok nmX10 (by decide) (X.2.2.2.1 (.fieldLink RX10 9 "SilkMill$Tape" "faultPlace" "I") (by decide +kernel)) rfl (Or.inl rfl) rfl rfl (Nat.le_of_ble_eq_true rfl) (st_1002 _ _) dX10_forgetFault_7 (fun H locs hw => ?_)
  generalize eS_3 : sI S_1 1002 tp (-1) = S_3 at hw
  have hat_tp : At S_3 tp 10 := by rw [← eS_3]; exact At_sI hat_tp
  have hc_2 : pI S_3 1001 tp = 0 := by rw [← eS_3]; exact (pI_sI_nf (by decide)).trans hc_2
  have hc_4 : pI S_3 1002 tp = (-1) := by rw [← eS_3]; exact pI_sI_same
  exact ret_v X hw hr hlocks (Nat.le_of_ble_eq_true rfl) (Nat.le_of_ble_eq_true rfl) trivial dX10_forgetFault_10
set_option maxHeartbeats 4000000 in
set_option maxRecDepth 100000 in
theorem c_X11_program (l : Launch) (G : va_G) (cy : Nat → ClassId) (S : PS) (sz : Nat) (x : Nat) (a1 : Int32) (hF : FX S x) : Ci l yX11_program wsX11_program ({ frames := 4, cells := 0, slots := 0, locals := 160 }) G cy S sz [.ref x, .int (a1)] (fun (r : Int32) (S9 : PS) => r = -1) := by
  refine ent_m (cc := cX11_program) (maxL := 5) (ret := (some .int)) (by decide) rfl (Nat.le_of_ble_eq_true rfl) ?_
  intro p e s m below meth c ls X hr hlocks hin hw hl hsz
  subst hsz
  have X : Cx p c cX11_program 5 s [.ref x, .int (a1)].toArray wsX11_program RX11 m G cy (AS S s.heap.size) := X
  have hl : lv_has ls 5 [(0, .ref x), (1, .int (a1))] := hl
  have hF0 := hF
  obtain ⟨hat_x, ci_lots, ci_pots, ci_shv, ⟨cs, rf_cs, hat_cs, ln_cs⟩, ⟨lz, rf_lz, hat_lz, ln_lz⟩, ⟨ps, rf_ps, hat_ps, ln_ps⟩, ⟨tp, rf_tp, hat_tp, ci_tsz, ci_tfp, ⟨tb, rf_tb, hat_tb, ln_tb⟩⟩, ⟨st, rf_st, hat_st, ci_st, ⟨pr, rf_pr, hat_pr, ln_pr⟩, ⟨mx, rf_mx, hat_mx⟩⟩, ⟨dr, rf_dr, hat_dr, ci_dsz⟩, sh, rf_sh, hat_sh, ln_sh, hpl⟩ := hF
  have hF := hF0
  refine lv_aload_n X.1 X.2.1 dX11_program_0 rfl (lv_at hl 0 rfl) ?_
  refine lv_iload_n X.1 X.2.1 dX11_program_1 rfl (lv_at hl 1 rfl) ?_
  refine k_q (rm := { frames := 1, cells := 0, slots := 0, locals := 40 }) (av := [.ref x, .int (a1)]) X hw (va_runV (As := [.int (a1)]) (rest := []) (cfix X) (c_X11_potAt l G cy S _ x (a1) hF) (cwV 1 X.2.2.2.1 gX11_program_X11_potAt rfl rfl rfl (by decide +kernel) ⟨Nat.le_of_ble_eq_true rfl, Nat.le_of_ble_eq_true rfl⟩) (pre_V X hw _ hat_x (by decide) rfl) rfl rfl hl.1 rfl (lv_room (Nat.le_of_ble_eq_true rfl)) dX11_program_2 ⟨Nat.le_of_ble_eq_true rfl, Nat.le_of_ble_eq_true rfl⟩) 0 0 (Nat.le_of_ble_eq_true rfl) (Nat.le_of_ble_eq_true rfl) (fun rr_2 S2 H locs hp hw hfr hnw => ?_)
  obtain ⟨e2_2, er_2⟩ := hp
  subst e2_2
  subst er_2
  refine W.eq (g2 := F0 m 5 ls (.null :: [])) rfl ?_
  refine lv_astore_nN (lv' := [(2, .null), (0, .ref x), (1, .int (a1))]) X.1 X.2.1 dX11_program_5 rfl hl (by decide) rfl (fun ls hl => ?_)
  refine lv_aload_nN X.1 X.2.1 dX11_program_6 rfl (lv_at hl 0 rfl) ?_
  refine lv_ifnonnullN X.1 X.2.1 dX11_program_7 ?_
  refine lv_aload_n X.1 X.2.1 dX11_program_10 rfl (lv_at hl 1 rfl) ?_
  refine r_getR (g := 1105) X hw hat_x 5 rf_tp (by decide) rfl inn_X11_program_11 (by decide) (X.2.2.2.1 (.fieldLink RX11 28 "SilkMill" "tape" "LSilkMill$Tape;") (by decide +kernel)) rfl (gv_1105 _ _) dX11_program_11 ?_
  refine k_v (rm := { frames := 1, cells := 0, slots := 0, locals := 40 }) (av := [.ref tp]) X hw (va_runV (As := []) (rest := []) (cfix X) (c_X10_forgetFault l G cy S _ tp hat_tp) (cwV 0 X.2.2.2.1 gX11_program_X10_forgetFault rfl rfl rfl (by decide +kernel) ⟨Nat.le_of_ble_eq_true rfl, Nat.le_of_ble_eq_true rfl⟩) (pre_V X hw _ hat_tp (by decide) rfl) rfl rfl hl.1 rfl (lv_room (Nat.le_of_ble_eq_true rfl)) dX11_program_14 ⟨Nat.le_of_ble_eq_true rfl, Nat.le_of_ble_eq_true rfl⟩) 0 0 (Nat.le_of_ble_eq_true rfl) (Nat.le_of_ble_eq_true rfl) (fun S2 H locs hp hw hfr hnw => ?_)
  refine lv_iconst (v := (-1)) X.1 X.2.1 dX11_program_17 (by decide) ?_
  exact ret_i X hw hr hlocks (Nat.le_of_ble_eq_true rfl) (Nat.le_of_ble_eq_true rfl) rfl dX11_program_18
