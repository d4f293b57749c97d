set_option maxHeartbeats 4000000 in
set_option maxRecDepth 100000 in
theorem c_X11_next (l : Launch) (G : va_G) (cy : Nat → ClassId) (S : PS) (sz : Nat) (v : Int32)  : Ci l yX11_next wsX11_next ({ frames := 1, cells := 0, slots := 0, locals := 40 }) G cy S sz [.int (v)] (fun (r : Int32) (S9 : PS) => S = S9) := by
  refine ent_m (cc := cX11_next) (maxL := 1) (ret := (some .int)) (by decide) rfl (Nat.le_of_ble_eq_true rfl) ?_
  intro p e s m below meth c ls X hr hlocks hin hw hl hsz
  subst hsz
  have X : Cx p c cX11_next 1 s [.int (v)].toArray wsX11_next RX11 m G cy (AS S s.heap.size) := X
  have hl : lv_has ls 1 [(0, .int (v))] := hl
  refine lv_iload_n X.1 X.2.1 dX11_next_0 rfl (lv_at hl 0 rfl) ?_
  refine lv_ldcw (v := 1103515245) X.1 X.2.1 X.2.2.2.2.1 (X.2.2.2.1 (.constant RX11 380 1103515245) (by decide +kernel)) dX11_next_1 ?_
  refine lv_imul X.1 X.2.1 dX11_next_4 ?_
  refine lv_topi (fun v_1 ev_1 => ?_)
  refine lv_sipush (v := 12345) X.1 X.2.1 dX11_next_5 (by decide) ?_
  refine lv_iadd X.1 X.2.1 dX11_next_8 ?_
  refine lv_topi (fun v_2 ev_2 => ?_)
  exact ret_i X hw hr hlocks (Nat.le_of_ble_eq_true rfl) (Nat.le_of_ble_eq_true rfl) rfl dX11_next_9
set_option maxHeartbeats 4000000 in
set_option maxRecDepth 100000 in
theorem c_X0_init (l : Launch) (G : va_G) (cy : Nat → ClassId) (S : PS) (sz : Nat) (o : Nat) (a1 : Int32) (a2 : Int32) (a3 : Int32) (a4 : Int32) (a5 : Int32) (a6 : Int32) (hat_o : At S o 0) (hz : ∀ g, pI S g o = 0) : Cv l yX0_init wsX0_init ({ frames := 2, cells := 0, slots := 0, locals := 80 }) G cy S sz [.ref o, .int (a1), .int (a2), .int (a3), .int (a4), .int (a5), .int (a6)] (fun (S9 : PS) => Kp S S9 (fun a => a = o) ∧ At S9 o 0) := by
  refine ent_m (cc := cX0_init) (maxL := 8) (ret := none) (by decide) rfl (Nat.le_of_ble_eq_true rfl) ?_
  intro p e s m below meth c ls X hr hlocks hin hw hl hsz
  subst hsz
  have X : Cx p c cX0_init 8 s [.ref o, .int (a1), .int (a2), .int (a3), .int (a4), .int (a5), .int (a6)].toArray wsX0_init RX0 m G cy (AS S s.heap.size) := X
  have hl : lv_has ls 8 [(0, .ref o), (1, .int (a1)), (2, .int (a2)), (3, .int (a3)), (4, .int (a4)), (5, .int (a5)), (6, .int (a6))] := hl
  have hkp : Kp S S (fun a => a = o) := Kp_rf S _
  refine lv_aload_n X.1 X.2.1 dX0_init_0 rfl (lv_at hl 0 rfl) ?_
  refine W.objInit X.1 X.2.1 X.2.2.2.2.1 (X.2.2.2.1 (.methodLink RX0 3 objectInit) (by decide +kernel)) (X.2.2.2.1 (.instanceMethod objectInit) (by decide +kernel)) (X.2.2.2.1 (.code objectInit ⟨#[0xb1]⟩ 1 none) (by decide +kernel)) rfl (hl.1.trans X.2.2.1.symm) rfl dX0_init_1 (Nat.le_of_ble_eq_true rfl) (Nat.le_of_ble_eq_true rfl) ?_
  refine W.eq (g2 := F0 m 4 ls ([])) rfl ?_
  refine lv_aload_n X.1 X.2.1 dX0_init_4 rfl (lv_at hl 0 rfl) ?_
  refine lv_iconst (v := 0) X.1 X.2.1 dX0_init_5 (by decide) ?_
  refine r_putI (v := 0) X hw hat_o 3 3 tyX0 (by decide) rfl inn_X0_init_0 tyX0_ok nmX0 (by decide) (X.2.2.2.1 (.fieldLink RX0 9 "SilkMill$Cocoon" "stand" "I") (by decide +kernel)) rfl (Or.inl rfl) rfl rfl (Nat.le_of_ble_eq_true rfl) (st_3 _ _) dX0_init_6 (fun H locs hw => ?_)
  generalize eS_1 : sI S 3 o 0 = S_1 at hw
  have hat_o : At S_1 o 0 := by rw [← eS_1]; exact At_sI hat_o
  have hkp : Kp S S_1 (fun a => a = o) := by rw [← eS_1]; exact Kp_sI hkp (Or.inl rfl)
  have hc_2 : pI S_1 3 o = 0 := by rw [← eS_1]; exact pI_sI_same
  refine lv_aload_n X.1 X.2.1 dX0_init_9 rfl (lv_at hl 0 rfl) ?_
  refine lv_iconst (v := (-1)) X.1 X.2.1 dX0_init_10 (by decide) ?_
  refine r_putI (v := (-1)) X hw hat_o 5 5 tyX0 (by decide) rfl inn_X0_init_0 tyX0_ok nmX0 (by decide) (X.2.2.2.1 (.fieldLink RX0 15 "SilkMill$Cocoon" "potNumber" "I") (by decide +kernel)) rfl (Or.inl rfl) rfl rfl (Nat.le_of_ble_eq_true rfl) (st_5 _ _) dX0_init_11 (fun H locs hw => ?_)
  generalize eS_3 : sI S_1 5 o (-1) = S_3 at hw
  have hat_o : At S_3 o 0 := by rw [← eS_3]; exact At_sI hat_o
  have hc_2 : pI S_3 3 o = 0 := by rw [← eS_3]; exact (pI_sI_nf (by decide)).trans hc_2
  have hkp : Kp S S_3 (fun a => a = o) := by rw [← eS_3]; exact Kp_sI hkp (Or.inl rfl)
  have hc_4 : pI S_3 5 o = (-1) := by rw [← eS_3]; exact pI_sI_same
  refine lv_aload_n X.1 X.2.1 dX0_init_14 rfl (lv_at hl 0 rfl) ?_
  refine lv_iload_n X.1 X.2.1 dX0_init_15 rfl (lv_at hl 1 rfl) ?_
  refine r_putI (v := a1) X hw hat_o 0 0 tyX0 (by decide) rfl inn_X0_init_0 tyX0_ok nmX0 (by decide) (X.2.2.2.1 (.fieldLink RX0 18 "SilkMill$Cocoon" "lotNumber" "I") (by decide +kernel)) rfl (Or.inr ⟨rfl, hin, rfl⟩) rfl rfl (Nat.le_of_ble_eq_true rfl) (st_0 _ _) dX0_init_16 (fun H locs hw => ?_)
  generalize eS_5 : sI S_3 0 o a1 = S_5 at hw
  have hat_o : At S_5 o 0 := by rw [← eS_5]; exact At_sI hat_o
  have hc_2 : pI S_5 3 o = 0 := by rw [← eS_5]; exact (pI_sI_nf (by decide)).trans hc_2
  have hc_4 : pI S_5 5 o = (-1) := by rw [← eS_5]; exact (pI_sI_nf (by decide)).trans hc_4
  have hkp : Kp S S_5 (fun a => a = o) := by rw [← eS_5]; exact Kp_sI hkp (Or.inl rfl)
  have hc_6 : pI S_5 0 o = a1 := by rw [← eS_5]; exact pI_sI_same
  refine lv_aload_n X.1 X.2.1 dX0_init_19 rfl (lv_at hl 0 rfl) ?_
  refine lv_iload_n X.1 X.2.1 dX0_init_20 rfl (lv_at hl 2 rfl) ?_
  refine r_putI (v := a2) X hw hat_o 1 1 tyX0 (by decide) rfl inn_X0_init_0 tyX0_ok nmX0 (by decide) (X.2.2.2.1 (.fieldLink RX0 21 "SilkMill$Cocoon" "index" "I") (by decide +kernel)) rfl (Or.inr ⟨rfl, hin, rfl⟩) rfl rfl (Nat.le_of_ble_eq_true rfl) (st_1 _ _) dX0_init_21 (fun H locs hw => ?_)
  generalize eS_7 : sI S_5 1 o a2 = S_7 at hw
  have hat_o : At S_7 o 0 := by rw [← eS_7]; exact At_sI hat_o
  have hc_2 : pI S_7 3 o = 0 := by rw [← eS_7]; exact (pI_sI_nf (by decide)).trans hc_2
  have hc_4 : pI S_7 5 o = (-1) := by rw [← eS_7]; exact (pI_sI_nf (by decide)).trans hc_4
  have hc_6 : pI S_7 0 o = a1 := by rw [← eS_7]; exact (pI_sI_nf (by decide)).trans hc_6
  have hkp : Kp S S_7 (fun a => a = o) := by rw [← eS_7]; exact Kp_sI hkp (Or.inl rfl)
  have hc_8 : pI S_7 1 o = a2 := by rw [← eS_7]; exact pI_sI_same
  refine lv_aload_n X.1 X.2.1 dX0_init_24 rfl (lv_at hl 0 rfl) ?_
  refine lv_iload_n X.1 X.2.1 dX0_init_25 rfl (lv_at hl 3 rfl) ?_
  refine r_putI (v := a3) X hw hat_o 7 7 tyX0 (by decide) rfl inn_X0_init_0 tyX0_ok nmX0 (by decide) (X.2.2.2.1 (.fieldLink RX0 24 "SilkMill$Cocoon" "seed" "I") (by decide +kernel)) rfl (Or.inr ⟨rfl, hin, rfl⟩) rfl rfl (Nat.le_of_ble_eq_true rfl) (st_7 _ _) dX0_init_26 (fun H locs hw => ?_)
  generalize eS_9 : sI S_7 7 o a3 = S_9 at hw
  have hat_o : At S_9 o 0 := by rw [← eS_9]; exact At_sI hat_o
  have hc_2 : pI S_9 3 o = 0 := by rw [← eS_9]; exact (pI_sI_nf (by decide)).trans hc_2
  have hc_4 : pI S_9 5 o = (-1) := by rw [← eS_9]; exact (pI_sI_nf (by decide)).trans hc_4
  have hc_6 : pI S_9 0 o = a1 := by rw [← eS_9]; exact (pI_sI_nf (by decide)).trans hc_6
  have hc_8 : pI S_9 1 o = a2 := by rw [← eS_9]; exact (pI_sI_nf (by decide)).trans hc_8
  have hkp : Kp S S_9 (fun a => a = o) := by rw [← eS_9]; exact Kp_sI hkp (Or.inl rfl)
  have hc_10 : pI S_9 7 o = a3 := by rw [← eS_9]; exact pI_sI_same
  refine lv_aload_n X.1 X.2.1 dX0_init_29 rfl (lv_at hl 0 rfl) ?_
  refine lv_iload X.1 X.2.1 dX0_init_30 (lv_at hl 6 rfl) ?_
  refine r_putI (v := a6) X hw hat_o 9 9 tyX0 (by decide) rfl inn_X0_init_0 tyX0_ok nmX0 (by decide) (X.2.2.2.1 (.fieldLink RX0 27 "SilkMill$Cocoon" "frail" "I") (by decide +kernel)) rfl (Or.inr ⟨rfl, hin, rfl⟩) rfl rfl (Nat.le_of_ble_eq_true rfl) (st_9 _ _) dX0_init_32 (fun H locs hw => ?_)
  generalize eS_11 : sI S_9 9 o a6 = S_11 at hw
  have hat_o : At S_11 o 0 := by rw [← eS_11]; exact At_sI hat_o
  have hc_2 : pI S_11 3 o = 0 := by rw [← eS_11]; exact (pI_sI_nf (by decide)).trans hc_2
  have hc_4 : pI S_11 5 o = (-1) := by rw [← eS_11]; exact (pI_sI_nf (by decide)).trans hc_4
  have hc_6 : pI S_11 0 o = a1 := by rw [← eS_11]; exact (pI_sI_nf (by decide)).trans hc_6
  have hc_8 : pI S_11 1 o = a2 := by rw [← eS_11]; exact (pI_sI_nf (by decide)).trans hc_8
  have hc_10 : pI S_11 7 o = a3 := by rw [← eS_11]; exact (pI_sI_nf (by decide)).trans hc_10
  have hkp : Kp S S_11 (fun a => a = o) := by rw [← eS_11]; exact Kp_sI hkp (Or.inl rfl)
  have hc_12 : pI S_11 9 o = a6 := by rw [← eS_11]; exact pI_sI_same
  refine lv_iload_n X.1 X.2.1 dX0_init_35 rfl (lv_at hl 3 rfl) ?_
  refine lv_sipush (v := 7919) X.1 X.2.1 dX0_init_36 (by decide) ?_
  refine lv_iload_n X.1 X.2.1 dX0_init_39 rfl (lv_at hl 2 rfl) ?_
  refine lv_imul X.1 X.2.1 dX0_init_40 ?_
  refine lv_topi (fun v_13 ev_13 => ?_)
  refine lv_iadd X.1 X.2.1 dX0_init_41 ?_
  refine lv_topi (fun v_14 ev_14 => ?_)
  refine k_i (rm := { frames := 1, cells := 0, slots := 0, locals := 40 }) (av := [.int (v_14)]) X hw (va_runSN (As := [.int (v_14)]) (rest := []) (cfix X) (c_X11_next l G cy S_11 _ (v_14)) ⟨(va_cnB (host := RX11) 1 X.2.2.2.1 gX0_init_X11_next_n30 rfl rfl rfl (X.2.2.2.2.2.2.2.2.1 (RX0, 30, yX11_next) (by decide +kernel)) (X.2.2.2.1 (.initialized RX11) (by decide +kernel)) (by decide +kernel) ⟨Nat.le_of_ble_eq_true rfl, Nat.le_of_ble_eq_true rfl⟩), X.2.2.2.1 (.static yX11_next) (by decide +kernel), trivial⟩ (pre_S X hw _) rfl rfl hl.1 rfl (lv_room (Nat.le_of_ble_eq_true rfl)) dX0_init_42 ⟨Nat.le_of_ble_eq_true rfl, Nat.le_of_ble_eq_true rfl⟩) 0 0 (Nat.le_of_ble_eq_true rfl) (Nat.le_of_ble_eq_true rfl) (fun rr_42 S2 H locs hp hw hfr hnw => ?_)
  subst hp
  refine lv_istore (lv' := [(7, .int (rr_42)), (0, .ref o), (1, .int (a1)), (2, .int (a2)), (3, .int (a3)), (4, .int (a4)), (5, .int (a5)), (6, .int (a6))]) X.1 X.2.1 dX0_init_45 hl (by decide) rfl (fun ls hl => ?_)
  refine lv_aload_n X.1 X.2.1 dX0_init_47 rfl (lv_at hl 1 rfl) ?_
  refine lv_bipush (v := 20) X.1 X.2.1 dX0_init_48 (by decide) ?_
  refine lv_iload X.1 X.2.1 dX0_init_50 (lv_at hl 6 rfl) ?_
  refine lv_iload X.1 X.2.1 dX0_init_52 (lv_at hl 0 rfl) ?_
  refine lv_bipush (v := 16) X.1 X.2.1 dX0_init_54 (by decide) ?_
  refine lv_iushr X.1 X.2.1 dX0_init_56 rfl ?_
  refine lv_topi (fun v_15 ev_15 => ?_)
  refine lv_bipush (v := 41) X.1 X.2.1 dX0_init_57 (by decide) ?_
  refine lv_irem X.1 X.2.1 dX0_init_59 (by decide) ?_
  refine lv_topi (fun v_16 ev_16 => ?_)
  refine lv_iadd X.1 X.2.1 dX0_init_60 ?_
  refine lv_topi (fun v_17 ev_17 => ?_)
  refine lv_bipush (v := 20) X.1 X.2.1 dX0_init_61 (by decide) ?_
  refine lv_isub X.1 X.2.1 dX0_init_63 ?_
  refine lv_topi (fun v_18 ev_18 => ?_)
  refine va_mmax X.1 X.2.1 (X.2.2.1.trans hl.1.symm) X.2.2.2.2.1 (X.2.2.2.1 (.methodLink RX0 34 Lib.Math.max.name) (by decide +kernel)) (X.2.2.2.1 (.static Lib.Math.max.name) (by decide +kernel)) (X.2.2.2.1 (.initialized "java/lang/Math") (by decide +kernel)) (X.2.2.2.1 (.code Lib.Math.max.name Lib.Math.max.code 2 (some .int)) (by decide +kernel)) (Nat.le_of_ble_eq_true rfl) (Nat.le_of_ble_eq_true rfl) (Nat.le_of_ble_eq_true rfl) (Nat.le_of_ble_eq_true rfl) dX0_init_64 ?_
  refine lv_topi (fun v_19 ev_19 => ?_)
  refine r_putI (v := v_19) X hw hat_o 2 2 tyX0 (by decide) rfl inn_X0_init_0 tyX0_ok nmX0 (by decide) (X.2.2.2.1 (.fieldLink RX0 40 "SilkMill$Cocoon" "length" "I") (by decide +kernel)) rfl (Or.inr ⟨rfl, hin, rfl⟩) rfl rfl (Nat.le_of_ble_eq_true rfl) (st_2 _ _) dX0_init_67 (fun H locs hw => ?_)
  generalize eS_20 : sI S_11 2 o v_19 = S_20 at hw
  have hat_o : At S_20 o 0 := by rw [← eS_20]; exact At_sI hat_o
  have hc_2 : pI S_20 3 o = 0 := by rw [← eS_20]; exact (pI_sI_nf (by decide)).trans hc_2
  have hc_4 : pI S_20 5 o = (-1) := by rw [← eS_20]; exact (pI_sI_nf (by decide)).trans hc_4
  have hc_6 : pI S_20 0 o = a1 := by rw [← eS_20]; exact (pI_sI_nf (by decide)).trans hc_6
  have hc_8 : pI S_20 1 o = a2 := by rw [← eS_20]; exact (pI_sI_nf (by decide)).trans hc_8
  have hc_10 : pI S_20 7 o = a3 := by rw [← eS_20]; exact (pI_sI_nf (by decide)).trans hc_10
  have hc_12 : pI S_20 9 o = a6 := by rw [← eS_20]; exact (pI_sI_nf (by decide)).trans hc_12
  have hkp : Kp S S_20 (fun a => a = o) := by rw [← eS_20]; exact Kp_sI hkp (Or.inl rfl)
  have hc_21 : pI S_20 2 o = v_19 := by rw [← eS_20]; exact pI_sI_same
  refine lv_iload X.1 X.2.1 dX0_init_70 (lv_at hl 0 rfl) ?_
  refine k_i (rm := { frames := 1, cells := 0, slots := 0, locals := 40 }) (av := [.int (rr_42)]) X hw (va_runSN (As := [.int (rr_42)]) (rest := []) (cfix X) (c_X11_next l G cy S_20 _ (rr_42)) ⟨(va_cnB (host := RX11) 1 X.2.2.2.1 gX0_init_X11_next_n30 rfl rfl rfl (X.2.2.2.2.2.2.2.2.1 (RX0, 30, yX11_next) (by decide +kernel)) (X.2.2.2.1 (.initialized RX11) (by decide +kernel)) (by decide +kernel) ⟨Nat.le_of_ble_eq_true rfl, Nat.le_of_ble_eq_true rfl⟩), X.2.2.2.1 (.static yX11_next) (by decide +kernel), trivial⟩ (pre_S X hw _) rfl rfl hl.1 rfl (lv_room (Nat.le_of_ble_eq_true rfl)) dX0_init_72 ⟨Nat.le_of_ble_eq_true rfl, Nat.le_of_ble_eq_true rfl⟩) 0 0 (Nat.le_of_ble_eq_true rfl) (Nat.le_of_ble_eq_true rfl) (fun rr_72 S2 H locs hp hw hfr hnw => ?_)
  subst hp
  refine lv_istore (lv' := [(7, .int (rr_72)), (0, .ref o), (1, .int (a1)), (2, .int (a2)), (3, .int (a3)), (4, .int (a4)), (5, .int (a5)), (6, .int (a6))]) X.1 X.2.1 dX0_init_75 hl (by decide) rfl (fun ls hl => ?_)
  refine lv_aload_n X.1 X.2.1 dX0_init_77 rfl (lv_at hl 1 rfl) ?_
  refine lv_iload X.1 X.2.1 dX0_init_78 (lv_at hl 5 rfl) ?_
  refine lv_iload X.1 X.2.1 dX0_init_80 (lv_at hl 0 rfl) ?_
  refine lv_bipush (v := 16) X.1 X.2.1 dX0_init_82 (by decide) ?_
  refine lv_iushr X.1 X.2.1 dX0_init_84 rfl ?_
  refine lv_topi (fun v_22 ev_22 => ?_)
  refine lv_bipush (v := 9) X.1 X.2.1 dX0_init_85 (by decide) ?_
  refine lv_irem X.1 X.2.1 dX0_init_87 (by decide) ?_
  refine lv_topi (fun v_23 ev_23 => ?_)
  refine lv_iadd X.1 X.2.1 dX0_init_88 ?_
  refine lv_topi (fun v_24 ev_24 => ?_)
  refine lv_iconst (v := 4) X.1 X.2.1 dX0_init_89 (by decide) ?_
  refine lv_isub X.1 X.2.1 dX0_init_90 ?_
  refine lv_topi (fun v_25 ev_25 => ?_)
  refine r_putI (v := v_25) X hw hat_o 8 8 tyX0 (by decide) rfl inn_X0_init_0 tyX0_ok nmX0 (by decide) (X.2.2.2.1 (.fieldLink RX0 43 "SilkMill$Cocoon" "base" "I") (by decide +kernel)) rfl (Or.inr ⟨rfl, hin, rfl⟩) rfl rfl (Nat.le_of_ble_eq_true rfl) (st_8 _ _) dX0_init_91 (fun H locs hw => ?_)
  generalize eS_26 : sI S_20 8 o v_25 = S_26 at hw
  have hat_o : At S_26 o 0 := by rw [← eS_26]; exact At_sI hat_o
  have hc_2 : pI S_26 3 o = 0 := by rw [← eS_26]; exact (pI_sI_nf (by decide)).trans hc_2
  have hc_4 : pI S_26 5 o = (-1) := by rw [← eS_26]; exact (pI_sI_nf (by decide)).trans hc_4
  have hc_6 : pI S_26 0 o = a1 := by rw [← eS_26]; exact (pI_sI_nf (by decide)).trans hc_6
  have hc_8 : pI S_26 1 o = a2 := by rw [← eS_26]; exact (pI_sI_nf (by decide)).trans hc_8
  have hc_10 : pI S_26 7 o = a3 := by rw [← eS_26]; exact (pI_sI_nf (by decide)).trans hc_10
  have hc_12 : pI S_26 9 o = a6 := by rw [← eS_26]; exact (pI_sI_nf (by decide)).trans hc_12
  have hc_21 : pI S_26 2 o = v_19 := by rw [← eS_26]; exact (pI_sI_nf (by decide)).trans hc_21
  have hkp : Kp S S_26 (fun a => a = o) := by rw [← eS_26]; exact Kp_sI hkp (Or.inl rfl)
  have hc_27 : pI S_26 8 o = v_25 := by rw [← eS_26]; exact pI_sI_same
  exact ret_v X hw hr hlocks (Nat.le_of_ble_eq_true rfl) (Nat.le_of_ble_eq_true rfl) ⟨hkp, hat_o⟩ dX0_init_94
set_option maxHeartbeats 4000000 in
set_option maxRecDepth 100000 in
theorem c_X11_lot (l : Launch) (G : va_G) (cy : Nat → ClassId) (S : PS) (sz : Nat) (x : Nat) (a1 : Int32) (a2 : Int32) (a3 : Int32) (a4 : Int32) (a5 : Int32) (hF : FX S x) : Ci l yX11_lot wsX11_lot ({ frames := 4, cells := 60, slots := 600, locals := 160 }) G cy S sz [.ref x, .int (a1), .int (a2), .int (a3), .int (a4), .int (a5)] (fun (r : Int32) (S9 : PS) => r = lotV a1 a3 a4 a5) := by
  refine ent_m (cc := cX11_lot) (maxL := 7) (ret := (some .int)) (by decide) rfl (Nat.le_of_ble_eq_true rfl) ?_
  intro p e s m below meth c ls X hr hlocks hin hw hl hsz
  subst hsz
  have X : Cx p c cX11_lot 7 s [.ref x, .int (a1), .int (a2), .int (a3), .int (a4), .int (a5)].toArray wsX11_lot RX11 m G cy (AS S s.heap.size) := X
  have hl : lv_has ls 7 [(0, .ref x), (1, .int (a1)), (2, .int (a2)), (3, .int (a3)), (4, .int (a4)), (5, .int (a5))] := hl
  have hF0 := hF
  obtain ⟨hat_x, ci_lots, ci_pots, ci_shv, ⟨cs, rf_cs, hat_cs, ln_cs⟩, ⟨lz, rf_lz, hat_lz, ln_lz⟩, ⟨ps, rf_ps, hat_ps, ln_ps⟩, ⟨tp, rf_tp, hat_tp, ci_tsz, ci_tfp, ⟨tb, rf_tb, hat_tb, ln_tb⟩⟩, ⟨st, rf_st, hat_st, ci_st, ⟨pr, rf_pr, hat_pr, ln_pr⟩, ⟨mx, rf_mx, hat_mx⟩⟩, ⟨dr, rf_dr, hat_dr, ci_dsz⟩, sh, rf_sh, hat_sh, ln_sh, hpl⟩ := hF
  have hF := hF0
  refine lv_aload_n X.1 X.2.1 dX11_lot_0 rfl (lv_at hl 0 rfl) ?_
  refine r_get (v := .int 0) X hw hat_x 2 (by decide) rfl inn_X11_lot_11 (by decide) (X.2.2.2.1 (.fieldLink RX11 63 "SilkMill" "lots" "I") (by decide +kernel)) rfl ((gv_1102 _ _).trans (congrArg (fun z => some (Value.int z)) ci_lots)) dX11_lot_1 ?_
  refine lv_bipush (v := 10) X.1 X.2.1 dX11_lot_4 (by decide) ?_
  refine lv_icmp_ge (tgt := 55) X.1 X.2.1 dX11_lot_6 (by decide) (fun c_6 => absurd c_6 (by decide)) (fun c_6 => ?_)
  refine lv_iload_n X.1 X.2.1 dX11_lot_9 rfl (lv_at hl 1 rfl) ?_
  refine lv_iconst (v := 1) X.1 X.2.1 dX11_lot_10 (by decide) ?_
  refine lv_bipush (v := 60) X.1 X.2.1 dX11_lot_11 (by decide) ?_
  refine k_i (rm := { frames := 1, cells := 0, slots := 0, locals := 40 }) (av := [.int (a1), .int 1, .int 60]) X hw (va_runS (As := [.int (a1), .int 1, .int 60]) (rest := []) (cfix X) (c_X11_isWithin l G cy S _ (a1) (1) (60)) (cwS 3 X.2.2.2.1 gX11_lot_X11_isWithin rfl rfl rfl (by decide +kernel) ⟨Nat.le_of_ble_eq_true rfl, Nat.le_of_ble_eq_true rfl⟩) (pre_S X hw _) rfl rfl hl.1 rfl (lv_room (Nat.le_of_ble_eq_true rfl)) dX11_lot_13 ⟨Nat.le_of_ble_eq_true rfl, Nat.le_of_ble_eq_true rfl⟩) 0 0 (Nat.le_of_ble_eq_true rfl) (Nat.le_of_ble_eq_true rfl) (fun rr_13 S2 H locs hp hw hfr hnw => ?_)
  obtain ⟨e2_13, hp⟩ := hp
  subst e2_13
  rcases hp with ⟨b_13, er_13⟩ | ⟨b_13, er_13⟩ <;> subst er_13
  · have z_13 := trivial
    refine lv_if_eq (tgt := 55) X.1 X.2.1 dX11_lot_16 (by decide) (fun c_16 => absurd c_16 (by decide)) (fun c_16 => ?_)
    refine lv_iload_n X.1 X.2.1 dX11_lot_19 rfl (lv_at hl 3 rfl) ?_
    refine lv_bipush (v := 20) X.1 X.2.1 dX11_lot_20 (by decide) ?_
    refine lv_bipush (v := 60) X.1 X.2.1 dX11_lot_22 (by decide) ?_
    refine k_i (rm := { frames := 1, cells := 0, slots := 0, locals := 40 }) (av := [.int (a3), .int 20, .int 60]) X hw (va_runS (As := [.int (a3), .int 20, .int 60]) (rest := []) (cfix X) (c_X11_isWithin l G cy S _ (a3) (20) (60)) (cwS 3 X.2.2.2.1 gX11_lot_X11_isWithin rfl rfl rfl (by decide +kernel) ⟨Nat.le_of_ble_eq_true rfl, Nat.le_of_ble_eq_true rfl⟩) (pre_S X hw _) rfl rfl hl.1 rfl (lv_room (Nat.le_of_ble_eq_true rfl)) dX11_lot_24 ⟨Nat.le_of_ble_eq_true rfl, Nat.le_of_ble_eq_true rfl⟩) 0 0 (Nat.le_of_ble_eq_true rfl) (Nat.le_of_ble_eq_true rfl) (fun rr_24 S2 H locs hp hw hfr hnw => ?_)
    obtain ⟨e2_24, hp⟩ := hp
    subst e2_24
    rcases hp with ⟨b_24, er_24⟩ | ⟨b_24, er_24⟩ <;> subst er_24
    · have z_24 := trivial
      refine lv_if_eq (tgt := 55) X.1 X.2.1 dX11_lot_27 (by decide) (fun c_27 => absurd c_27 (by decide)) (fun c_27 => ?_)
      refine lv_iload X.1 X.2.1 dX11_lot_30 (lv_at hl 4 rfl) ?_
      refine lv_bipush (v := 40) X.1 X.2.1 dX11_lot_32 (by decide) ?_
      refine lv_sipush (v := 200) X.1 X.2.1 dX11_lot_34 (by decide) ?_
      refine k_i (rm := { frames := 1, cells := 0, slots := 0, locals := 40 }) (av := [.int (a4), .int 40, .int 200]) X hw (va_runS (As := [.int (a4), .int 40, .int 200]) (rest := []) (cfix X) (c_X11_isWithin l G cy S _ (a4) (40) (200)) (cwS 3 X.2.2.2.1 gX11_lot_X11_isWithin rfl rfl rfl (by decide +kernel) ⟨Nat.le_of_ble_eq_true rfl, Nat.le_of_ble_eq_true rfl⟩) (pre_S X hw _) rfl rfl hl.1 rfl (lv_room (Nat.le_of_ble_eq_true rfl)) dX11_lot_37 ⟨Nat.le_of_ble_eq_true rfl, Nat.le_of_ble_eq_true rfl⟩) 0 0 (Nat.le_of_ble_eq_true rfl) (Nat.le_of_ble_eq_true rfl) (fun rr_37 S2 H locs hp hw hfr hnw => ?_)
      obtain ⟨e2_37, hp⟩ := hp
      subst e2_37
      rcases hp with ⟨b_37, er_37⟩ | ⟨b_37, er_37⟩ <;> subst er_37
      · have z_37 := trivial
        refine lv_if_eq (tgt := 55) X.1 X.2.1 dX11_lot_40 (by decide) (fun c_40 => absurd c_40 (by decide)) (fun c_40 => ?_)
        refine lv_iload X.1 X.2.1 dX11_lot_43 (lv_at hl 5 rfl) ?_
        refine lv_iconst (v := 0) X.1 X.2.1 dX11_lot_45 (by decide) ?_
        refine lv_sipush (v := 200) X.1 X.2.1 dX11_lot_46 (by decide) ?_
        refine k_i (rm := { frames := 1, cells := 0, slots := 0, locals := 40 }) (av := [.int (a5), .int 0, .int 200]) X hw (va_runS (As := [.int (a5), .int 0, .int 200]) (rest := []) (cfix X) (c_X11_isWithin l G cy S _ (a5) (0) (200)) (cwS 3 X.2.2.2.1 gX11_lot_X11_isWithin rfl rfl rfl (by decide +kernel) ⟨Nat.le_of_ble_eq_true rfl, Nat.le_of_ble_eq_true rfl⟩) (pre_S X hw _) rfl rfl hl.1 rfl (lv_room (Nat.le_of_ble_eq_true rfl)) dX11_lot_49 ⟨Nat.le_of_ble_eq_true rfl, Nat.le_of_ble_eq_true rfl⟩) 0 0 (Nat.le_of_ble_eq_true rfl) (Nat.le_of_ble_eq_true rfl) (fun rr_49 S2 H locs hp hw hfr hnw => ?_)
        obtain ⟨e2_49, hp⟩ := hp
        subst e2_49
        rcases hp with ⟨b_49, er_49⟩ | ⟨b_49, er_49⟩ <;> subst er_49
        · have z_49 := trivial
          refine lv_if_ne (tgt := 57) X.1 X.2.1 dX11_lot_52 (by decide) (fun c_52 => ?_) (fun c_52 => absurd c_52 (by decide))
          refine lv_iconst (v := 0) X.1 X.2.1 dX11_lot_57 (by decide) ?_
          refine lv_istore (lv' := [(6, .int 0), (0, .ref x), (1, .int (a1)), (2, .int (a2)), (3, .int (a3)), (4, .int (a4)), (5, .int (a5))]) X.1 X.2.1 dX11_lot_58 hl (by decide) rfl (fun ls hl => ?_)
          obtain ⟨N, hN60, ea1⟩ := wi_nat b_13
          have loop : ∀ (d i : Nat) (T : PS) (H : Heap) (locs : List Loc) (ls : Array Slot), i + d = N → At T x 11 → pI T 1102 x = 0 → pR T 1100 x = some cs → At T cs 16 → pN T cs = 600 → pR T 1101 x = some lz → At T lz 14 → pN T lz = 10 → Wd G cy (AS S s.heap.size) s.heap T H locs → lv_has ls 7 [(6, .int (nI i)), (0, .ref x), (1, .int (a1)), (2, .int (a2)), (3, .int (a3)), (4, .int (a4)), (5, .int (a5))] → W p l e ({ frames := 4, cells := 60, slots := 600, locals := 160 }) s m [.ref x, .int (a1), .int (a2), .int (a3), .int (a4), .int (a5)].toArray below meth c H locs i (10 * i) (MQ below (va_Qi (fun (r : Int32) (S9 : PS) => r = lotV a1 a3 a4 a5) (Bw G cy S s.heap.size) (AS S s.heap.size)) [.ref x, .int (a1), .int (a2), .int (a3), .int (a4), .int (a5)].toArray s 60 600 (AS S s.heap.size)) (F0 m 60 ls []) := by
            intro d
            induction d with
            | zero =>
              intro i T H locs ls hi hat_x ci_lots rf_cs hat_cs ln_cs rf_lz hat_lz ln_lz hw hl
              refine lv_iload X.1 X.2.1 dX11_lot_60 (lv_at hl 0 rfl) ?_
              refine lv_iload_n X.1 X.2.1 dX11_lot_62 rfl (lv_at hl 2 rfl) ?_
              refine lv_icmp_ge (tgt := 106) X.1 X.2.1 dX11_lot_63 (by decide) (fun c_63 => ?_) (fun c_63 => absurd (by rw [ea1]; exact nI_le (by omega) (by omega)) c_63)
              refine lv_aload_n X.1 X.2.1 dX11_lot_106 rfl (lv_at hl 1 rfl) ?_
              refine r_getR (g := 1101) X hw hat_x 1 rf_lz (by decide) rfl inn_X11_lot_11 (by decide) (X.2.2.2.1 (.fieldLink RX11 15 "SilkMill" "lotSizes" "[I") (by decide +kernel)) rfl (gv_1101 _ _) dX11_lot_107 ?_
              refine lv_aload_n X.1 X.2.1 dX11_lot_110 rfl (lv_at hl 1 rfl) ?_
              refine r_get (v := .int 0) X hw hat_x 2 (by decide) rfl inn_X11_lot_11 (by decide) (X.2.2.2.1 (.fieldLink RX11 63 "SilkMill" "lots" "I") (by decide +kernel)) rfl ((gv_1102 _ _).trans (congrArg (fun z => some (Value.int z)) ci_lots)) dX11_lot_111 ?_
              refine lv_iload_n X.1 X.2.1 dX11_lot_114 rfl (lv_at hl 2 rfl) ?_
              refine r_iast X hw hat_lz (by rw [ln_lz]; exact vp_in_iff.mpr (by decide +kernel)) dX11_lot_115 (fun H locs hw => ?_)
              generalize eS_1 : sA T lz (upd (pA T lz) (Int32.toNatClampNeg (0)) a1) = S_1 at hw
              have hat_x : At S_1 x 11 := by rw [← eS_1]; exact At_sA hat_x
              have hat_cs : At S_1 cs 16 := by rw [← eS_1]; exact At_sA hat_cs
              have hat_lz : At S_1 lz 14 := by rw [← eS_1]; exact At_sA hat_lz
              have rf_cs : pR S_1 1100 x = some cs := by rw [← eS_1, pR_sA]; exact rf_cs
              have rf_lz : pR S_1 1101 x = some lz := by rw [← eS_1, pR_sA]; exact rf_lz
              have ci_lots : pI S_1 1102 x = 0 := by rw [← eS_1, pI_sA]; exact ci_lots
              have ln_cs : pN S_1 cs = 600 := by rw [← eS_1, pN_sA]; exact ln_cs
              have ln_lz : pN S_1 lz = 10 := by rw [← eS_1, pN_sA]; exact ln_lz
              refine lv_aload_n X.1 X.2.1 dX11_lot_116 rfl (lv_at hl 1 rfl) ?_
              refine lv_dup X.1 X.2.1 dX11_lot_117 rfl ?_
              refine r_get (v := .int 0) X hw hat_x 2 (by decide) rfl inn_X11_lot_11 (by decide) (X.2.2.2.1 (.fieldLink RX11 63 "SilkMill" "lots" "I") (by decide +kernel)) rfl ((gv_1102 _ _).trans (congrArg (fun z => some (Value.int z)) ci_lots)) dX11_lot_118 ?_
              refine lv_iconst (v := 1) X.1 X.2.1 dX11_lot_121 (by decide) ?_
              refine lv_iadd X.1 X.2.1 dX11_lot_122 ?_
              refine lv_topi (fun v_2 ev_2 => ?_)
              obtain rfl : v_2 = 1 := ev_2.trans (by decide +kernel)
              refine r_putI (v := 1) X hw hat_x 2 1102 tyX11 (by decide) rfl inn_X11_lot_11 tyX11_ok nmX11 (by decide) (X.2.2.2.1 (.fieldLink RX11 63 "SilkMill" "lots" "I") (by decide +kernel)) rfl (Or.inl rfl) rfl rfl (Nat.le_of_ble_eq_true rfl) (st_1102 _ _) dX11_lot_123 (fun H locs hw => ?_)
              generalize eS_3 : sI S_1 1102 x 1 = S_3 at hw
              have hat_x : At S_3 x 11 := by rw [← eS_3]; exact At_sI hat_x
              have hat_cs : At S_3 cs 16 := by rw [← eS_3]; exact At_sI hat_cs
              have hat_lz : At S_3 lz 14 := by rw [← eS_3]; exact At_sI hat_lz
              have rf_cs : pR S_3 1100 x = some cs := by rw [← eS_3, pR_sI]; exact rf_cs
              have rf_lz : pR S_3 1101 x = some lz := by rw [← eS_3, pR_sI]; exact rf_lz
              have ln_cs : pN S_3 cs = 600 := by rw [← eS_3, pN_sI]; exact ln_cs
              have ln_lz : pN S_3 lz = 10 := by rw [← eS_3, pN_sI]; exact ln_lz
              have hc_4 : pI S_3 1102 x = 1 := by rw [← eS_3]; exact pI_sI_same
              refine lv_aload_n X.1 X.2.1 dX11_lot_126 rfl (lv_at hl 1 rfl) ?_
              refine r_get (v := .int 1) X hw hat_x 2 (by decide) rfl inn_X11_lot_11 (by decide) (X.2.2.2.1 (.fieldLink RX11 63 "SilkMill" "lots" "I") (by decide +kernel)) rfl ((gv_1102 _ _).trans (congrArg (fun z => some (Value.int z)) hc_4)) dX11_lot_127 ?_
              refine lv_iconst (v := 1) X.1 X.2.1 dX11_lot_130 (by decide) ?_
              refine lv_isub X.1 X.2.1 dX11_lot_131 ?_
              refine lv_topi (fun v_5 ev_5 => ?_)
              obtain rfl : v_5 = 0 := ev_5.trans (by decide +kernel)
              exact ret_i X hw hr hlocks (by show i ≤ 60; omega) (by show 10 * i ≤ 600; omega) (if_pos ⟨b_13, b_24, b_37, b_49⟩).symm dX11_lot_132
            | succ d ih =>
              intro i T H locs ls hi hat_x ci_lots rf_cs hat_cs ln_cs rf_lz hat_lz ln_lz hw hl
              refine lv_iload X.1 X.2.1 dX11_lot_60 (lv_at hl 0 rfl) ?_
              refine lv_iload_n X.1 X.2.1 dX11_lot_62 rfl (lv_at hl 2 rfl) ?_
              refine lv_icmp_ge (tgt := 106) X.1 X.2.1 dX11_lot_63 (by decide) (fun c_63 => absurd c_63 (by rw [ea1]; exact nI_ge (by omega) (by omega))) (fun c_63 => ?_)
              refine lv_aload_n X.1 X.2.1 dX11_lot_66 rfl (lv_at hl 1 rfl) ?_
              refine r_getR (g := 1100) X hw hat_x 0 rf_cs (by decide) rfl inn_X11_lot_11 (by decide) (X.2.2.2.1 (.fieldLink RX11 11 "SilkMill" "cocoons" "[LSilkMill$Cocoon;") (by decide +kernel)) rfl (gv_1100 _ _) dX11_lot_67 ?_
              refine lv_aload_n X.1 X.2.1 dX11_lot_70 rfl (lv_at hl 1 rfl) ?_
              refine r_get (v := .int 0) X hw hat_x 2 (by decide) rfl inn_X11_lot_11 (by decide) (X.2.2.2.1 (.fieldLink RX11 63 "SilkMill" "lots" "I") (by decide +kernel)) rfl ((gv_1102 _ _).trans (congrArg (fun z => some (Value.int z)) ci_lots)) dX11_lot_71 ?_
              refine lv_bipush (v := 60) X.1 X.2.1 dX11_lot_74 (by decide) ?_
              refine lv_imul X.1 X.2.1 dX11_lot_76 ?_
              refine lv_topi (fun v_6 ev_6 => ?_)
              obtain rfl : v_6 = 0 := ev_6.trans (by decide +kernel)
              refine lv_iload X.1 X.2.1 dX11_lot_77 (lv_at hl 0 rfl) ?_
              refine lv_iadd X.1 X.2.1 dX11_lot_79 ?_
              refine lv_topi (fun v_7 ev_7 => ?_)
              have hat_x_o := hat_x
              have hat_cs_o := hat_cs
              have hat_lz_o := hat_lz
              refine r_new X hw 0 (10 * i + 10) (i + 1) tyX0 (by decide) rfl inn_X11_lot_0 tyX0_ok (X.2.2.2.1 (.classLink RX11 9 RX0) (by decide +kernel)) (X.2.2.2.1 (.instantiable RX0 10) (by decide +kernel)) (X.2.2.2.1 (.initialized RX0) (by decide +kernel)) zo_0 zd_0 (by show i + 1 ≤ i + 1; omega) (by show 10 * i + 10 ≤ 10 * i + 10; omega) (by show i + 1 ≤ 60; omega) (by show 10 * i + 10 ≤ 600; omega) dX11_lot_80 (fun q_8 H hq_8 hw => ?_)
              have ne_x_q_8 : x ≠ q_8 := At_old hat_x_o hq_8
              have ne_cs_q_8 : cs ≠ q_8 := At_old hat_cs_o hq_8
              have ne_lz_q_8 : lz ≠ q_8 := At_old hat_lz_o hq_8
              generalize eS_9 : sO T q_8 0 = S_9 at hw
              have hat_x : At S_9 x 11 := by rw [← eS_9]; exact At_sO hat_x hq_8
              have hat_cs : At S_9 cs 16 := by rw [← eS_9]; exact At_sO hat_cs hq_8
              have hat_lz : At S_9 lz 14 := by rw [← eS_9]; exact At_sO hat_lz hq_8
              have rf_cs : pR S_9 1100 x = some cs := by rw [← eS_9]; exact (pR_sO_ne (At_old hat_x_o hq_8)).trans rf_cs
              have rf_lz : pR S_9 1101 x = some lz := by rw [← eS_9]; exact (pR_sO_ne (At_old hat_x_o hq_8)).trans rf_lz
              have ci_lots : pI S_9 1102 x = 0 := by rw [← eS_9]; exact (pI_sO_ne (At_old hat_x_o hq_8)).trans ci_lots
              have ln_cs : pN S_9 cs = 600 := by rw [← eS_9, pN_sO]; exact ln_cs
              have ln_lz : pN S_9 lz = 10 := by rw [← eS_9, pN_sO]; exact ln_lz
              have ha_10 : At S_9 q_8 0 := by rw [← eS_9]; exact At_nO _ _ _
              have hz_11 : ∀ g, pI S_9 g q_8 = 0 := fun g => by rw [← eS_9]; exact pI_sO_new
              refine lv_dup X.1 X.2.1 dX11_lot_83 rfl ?_
              refine lv_aload_n X.1 X.2.1 dX11_lot_84 rfl (lv_at hl 1 rfl) ?_
              refine r_get (v := .int 0) X hw hat_x 2 (by decide) rfl inn_X11_lot_11 (by decide) (X.2.2.2.1 (.fieldLink RX11 63 "SilkMill" "lots" "I") (by decide +kernel)) rfl ((gv_1102 _ _).trans (congrArg (fun z => some (Value.int z)) ci_lots)) dX11_lot_85 ?_
              refine lv_iload X.1 X.2.1 dX11_lot_88 (lv_at hl 0 rfl) ?_
              refine lv_iload_n X.1 X.2.1 dX11_lot_90 rfl (lv_at hl 3 rfl) ?_
              refine lv_iload_n X.1 X.2.1 dX11_lot_91 rfl (lv_at hl 4 rfl) ?_
              refine lv_iload X.1 X.2.1 dX11_lot_92 (lv_at hl 5 rfl) ?_
              refine lv_iload X.1 X.2.1 dX11_lot_94 (lv_at hl 6 rfl) ?_
              refine k_v (rm := { frames := 2, cells := 0, slots := 0, locals := 80 }) (av := [.ref q_8, .int 0, .int (nI i), .int (a2), .int (a3), .int (a4), .int (a5)]) X hw (va_runI (As := [.int 0, .int (nI i), .int (a2), .int (a3), .int (a4), .int (a5)]) (rest := [.ref q_8, .int (v_7), .ref cs]) (cfix X) (c_X0_init l G cy S_9 _ q_8 (0) (nI i) (a2) (a3) (a4) (a5) ha_10 hz_11) (cwI 6 X.2.2.2.1 gX11_lot_X0_init rfl rfl rfl (X.2.2.2.1 (.initialized RX0) (by decide +kernel)) (X.2.2.2.1 (.methodLink RX11 71 yX0_init) (by decide +kernel)) (X.2.2.2.1 (.instanceMethod yX0_init) (by decide +kernel)) rfl (by decide +kernel) ⟨Nat.le_of_ble_eq_true rfl, Nat.le_of_ble_eq_true rfl⟩) (pre_S X hw _) rfl rfl hl.1 rfl (lv_room (Nat.le_of_ble_eq_true rfl)) dX11_lot_96 ⟨(by show i + 1 + 0 ≤ 60; omega), (by show 10 * i + 10 + 0 ≤ 600; omega)⟩) (i + 1) (10 * i + 10) (by show i + 1 + 0 ≤ i + 1; omega) (by show 10 * i + 10 + 0 ≤ 10 * i + 10; omega) (fun S2 H locs hp hw hfr hnw => ?_)
              obtain ⟨hk2, hf_q_8⟩ := hp
              generalize eq_Sc_96_12 : S2 = Sc_96_12 at hk2 hf_q_8 hw
              have hat_x_c := hat_x
              have hat_cs_c := hat_cs
              have hat_lz_c := hat_lz
              have ha_10_c := ha_10
              have hat_x : At Sc_96_12 x 11 := Kp_at hk2 hat_x_c
              have hat_cs : At Sc_96_12 cs 16 := Kp_at hk2 hat_cs_c
              have hat_lz : At Sc_96_12 lz 14 := Kp_at hk2 hat_lz_c
              have ha_10 : At Sc_96_12 q_8 0 := Kp_at hk2 ha_10_c
              have rf_cs : pR Sc_96_12 1100 x = some cs := ((hk2.2 x hat_x_c.1 ne_x_q_8).2.1 1100).trans rf_cs
              have rf_lz : pR Sc_96_12 1101 x = some lz := ((hk2.2 x hat_x_c.1 ne_x_q_8).2.1 1101).trans rf_lz
              have ci_lots : pI Sc_96_12 1102 x = 0 := ((hk2.2 x hat_x_c.1 ne_x_q_8).1 1102).trans ci_lots
              have ln_cs : pN Sc_96_12 cs = 600 := ((hk2.2 cs hat_cs_c.1 ne_cs_q_8).2.2.1).trans ln_cs
              have ln_lz : pN Sc_96_12 lz = 10 := ((hk2.2 lz hat_lz_c.1 ne_lz_q_8).2.2.1).trans ln_lz
              refine r_aast X hw hat_cs ha_10 (by decide) (by decide) rfl rfl (by rw [ln_cs]; exact vp_lot (by assumption) (by omega)) dX11_lot_99 (fun H locs hw => ?_)
              generalize eS_13 : sB Sc_96_12 cs (va_up (pB Sc_96_12 cs) (Int32.toNatClampNeg (v_7)) (some q_8)) = S_13 at hw
              have hat_x : At S_13 x 11 := by rw [← eS_13]; exact At_sB hat_x
              have hat_cs : At S_13 cs 16 := by rw [← eS_13]; exact At_sB hat_cs
              have hat_lz : At S_13 lz 14 := by rw [← eS_13]; exact At_sB hat_lz
              have ha_10 : At S_13 q_8 0 := by rw [← eS_13]; exact At_sB ha_10
              have rf_cs : pR S_13 1100 x = some cs := by rw [← eS_13, pR_sB]; exact rf_cs
              have rf_lz : pR S_13 1101 x = some lz := by rw [← eS_13, pR_sB]; exact rf_lz
              have ci_lots : pI S_13 1102 x = 0 := by rw [← eS_13, pI_sB]; exact ci_lots
              have ln_cs : pN S_13 cs = 600 := by rw [← eS_13, pN_sB]; exact ln_cs
              have ln_lz : pN S_13 lz = 10 := by rw [← eS_13, pN_sB]; exact ln_lz
              obtain ⟨x_14, ex_14⟩ : ∃ y : Int32, y = nI i + 1 := ⟨_, rfl⟩
              refine lv_iinc (v := x_14) (lv' := [(6, .int (x_14)), (0, .ref x), (1, .int (a1)), (2, .int (a2)), (3, .int (a3)), (4, .int (a4)), (5, .int (a5))]) X.1 X.2.1 dX11_lot_100 hl (k := 0) rfl (by rw [ex_14]; rfl) (by decide) rfl (fun ls hl => ?_)
              refine lv_goto (tgt := 60) X.1 X.2.1 dX11_lot_103 (by decide) ?_
              refine W.widen (k := i + 1) (n := 10 * (i + 1)) (by omega) (by omega) ?_
              exact ih (i + 1) _ _ _ _ (by omega) hat_x ci_lots rf_cs hat_cs ln_cs rf_lz hat_lz ln_lz hw (by rw [show nI (i + 1) = x_14 from by rw [ex_14]; exact (nI_1 i).symm]; exact lv_sub hl [0, 1, 2, 3, 4, 5, 6] rfl)
          exact loop N 0 _ _ _ _ (by omega) hat_x ci_lots rf_cs hat_cs ln_cs rf_lz hat_lz ln_lz hw (by rw [show nI 0 = 0 from rfl]; exact hl)
        · have z_49 := trivial
          refine lv_if_ne (tgt := 57) X.1 X.2.1 dX11_lot_52 (by decide) (fun c_52 => absurd c_52 (by decide)) (fun c_52 => ?_)
          refine lv_iconst (v := (-1)) X.1 X.2.1 dX11_lot_55 (by decide) ?_
          exact ret_i X hw hr hlocks (Nat.le_of_ble_eq_true rfl) (Nat.le_of_ble_eq_true rfl) (if_neg (fun h => b_49 h.2.2.2)).symm dX11_lot_56
      · have z_37 := trivial
        refine lv_if_eq (tgt := 55) X.1 X.2.1 dX11_lot_40 (by decide) (fun c_40 => ?_) (fun c_40 => absurd c_40 (by decide))
        refine lv_iconst (v := (-1)) X.1 X.2.1 dX11_lot_55 (by decide) ?_
        exact ret_i X hw hr hlocks (Nat.le_of_ble_eq_true rfl) (Nat.le_of_ble_eq_true rfl) (if_neg (fun h => b_37 h.2.2.1)).symm dX11_lot_56
    · have z_24 := trivial
      refine lv_if_eq (tgt := 55) X.1 X.2.1 dX11_lot_27 (by decide) (fun c_27 => ?_) (fun c_27 => absurd c_27 (by decide))
      refine lv_iconst (v := (-1)) X.1 X.2.1 dX11_lot_55 (by decide) ?_
      exact ret_i X hw hr hlocks (Nat.le_of_ble_eq_true rfl) (Nat.le_of_ble_eq_true rfl) (if_neg (fun h => b_24 h.2.1)).symm dX11_lot_56
  · have z_13 := trivial
    refine lv_if_eq (tgt := 55) X.1 X.2.1 dX11_lot_16 (by decide) (fun c_16 => ?_) (fun c_16 => absurd c_16 (by decide))
    refine lv_iconst (v := (-1)) X.1 X.2.1 dX11_lot_55 (by decide) ?_
    exact ret_i X hw hr hlocks (Nat.le_of_ble_eq_true rfl) (Nat.le_of_ble_eq_true rfl) (if_neg (fun h => b_13 h.1)).symm dX11_lot_56
