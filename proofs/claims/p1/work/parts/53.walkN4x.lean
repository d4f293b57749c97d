set_option maxHeartbeats 4000000 in
set_option maxRecDepth 100000 in
theorem c_X11_fineness (l : Launch) (hst : l.stackTraces = false) (G : va_G) (cy : Nat → ClassId) (S : PS) (sz sa : Nat) (x : Nat) (a1 : Int32) (a2 : Int32) (a3 : Int32) (hF : FX S x) : vx_Met l yX11_fineness wsX11_fineness ({ frames := 8, cells := 1, slots := 6, locals := 320 }) (va_Pc [.ref x, .int (a1), .int (a2), .int (a3)] (Qx G cy S sz 104 "there is no such place of a cocoon" sa)) (va_Qi (fun (r : Int32) (S9 : PS) => False) (Bw G cy S sz) (AS S sz)) (vx_X (fun S9 : PS => S = S9) (fun E S9 t => E = "java/lang/IndexOutOfBoundsException" ∧ Bw G cy S sz S9 t) (AS S sz)) 1 6 (AS S sz) := by
  refine vx_ofW (cc := cX11_fineness) (maxL := 5) (ret := (some .int)) (by decide) rfl ?_
  intro p e s m args below meth c s₁ B hml hnt hv
  obtain ⟨rfl, ⟨hsz, hP, hK, hD, hNG⟩, hZ, hstr, hdc⟩ := hv
  subst hsz
  have hl := lv_entry ([.ref x, .int (a1), .int (a2), .int (a3)]) (n := 5) (Nat.le_of_ble_eq_true rfl)
  rw [lg_entry_eq]
  generalize (lg_sl ([.ref x, .int (a1), .int (a2), .int (a3)]) ++ List.replicate (5 - (lg_sl ([.ref x, .int (a1), .int (a2), .int (a3)])).length) Slot.unset).toArray = ls at hl ⊢
  have hl : lv_has ls 5 [(0, .ref x), (1, .int (a1)), (2, .int (a2)), (3, .int (a3))] := hl
  have X : Cx p c cX11_fineness 5 s [.ref x, .int (a1), .int (a2), .int (a3)].toArray wsX11_fineness RX11 m G cy (AS S s.heap.size) := ⟨B.exec, B.bytes, hml, atoms_spec (ws := wsX11_fineness) B.pre, findClass_of_methodNamed B.named, hK, fun q h => Or.inr h, hNG⟩
  have hw : Wd G cy (AS S s.heap.size) s.heap S s.heap [] := ⟨hP, hD.weaken (fun k q hk _ => Or.inl (pl_mem hk)), va_S.rf⟩
  have hlocks := B.notSynchronized
  have hF0 := hF
  obtain ⟨hat_x, ci_lots, ci_pots, ci_shv, ⟨cs, rf_cs, hat_cs, ln_cs⟩, ⟨lz, rf_lz, hat_lz, ln_lz⟩, ⟨ps, rf_ps, hat_ps, ln_ps⟩, ⟨tp, rf_tp, hat_tp, ci_tsz, ci_tfp, ⟨tb, rf_tb, hat_tb, ln_tb⟩⟩, ⟨st, rf_st, hat_st, ci_st, ⟨pr, rf_pr, hat_pr, ln_pr⟩, ⟨mx, rf_mx, hat_mx⟩⟩, ⟨dr, rf_dr, hat_dr, ci_dsz⟩, sh, rf_sh, hat_sh, ln_sh, hpl⟩ := hF
  have hF := hF0
  refine lv_aload_n X.1 X.2.1 dX11_fineness_0 rfl (lv_at hl 0 rfl) ?_
  refine lv_iload_n X.1 X.2.1 dX11_fineness_1 rfl (lv_at hl 1 rfl) ?_
  refine lv_iload_n X.1 X.2.1 dX11_fineness_2 rfl (lv_at hl 2 rfl) ?_
  refine k_q (rm := { frames := 1, cells := 0, slots := 0, locals := 40 }) (av := [.ref x, .int (a1), .int (a2)]) X hw (va_runV (As := [.int (a1), .int (a2)]) (rest := []) (cfix X) (c_X11_cocoonAt l G cy S _ x (a1) (a2) hF) (cwV 2 X.2.2.2.1 gX11_fineness_X11_cocoonAt rfl rfl rfl (by decide +kernel) ⟨Nat.le_of_ble_eq_true rfl, Nat.le_of_ble_eq_true rfl⟩) (pre_V X hw _ hat_x (by decide) rfl) rfl rfl hl.1 rfl (lv_room (Nat.le_of_ble_eq_true rfl)) dX11_fineness_3 ⟨Nat.le_of_ble_eq_true rfl, Nat.le_of_ble_eq_true rfl⟩) 0 0 (Nat.le_of_ble_eq_true rfl) (Nat.le_of_ble_eq_true rfl) (fun rr_3 S2 H locs hp hw hfr hnw => ?_)
  obtain ⟨e2_3, er_3⟩ := hp
  subst e2_3
  subst er_3
  refine W.eq (g2 := F0 m 6 ls (.null :: [])) rfl ?_
  refine lv_astoreN (lv' := [(4, .null), (0, .ref x), (1, .int (a1)), (2, .int (a2)), (3, .int (a3))]) X.1 X.2.1 dX11_fineness_6 hl (by decide) rfl (fun ls hl => ?_)
  refine lv_aloadN X.1 X.2.1 dX11_fineness_8 (lv_at hl 0 rfl) ?_
  refine lv_ifnullN (tgt := 26) X.1 X.2.1 dX11_fineness_10 (by decide) ?_
  refine vx_throwS (names := ["java/lang/RuntimeException", "java/lang/Exception"]) X.1 X.2.1 hst X.2.2.2.2.1 (by decide +kernel) (by decide +kernel) (X.2.2.2.1 (.classLink RX11 102 "java/lang/IndexOutOfBoundsException") (by decide +kernel)) (X.2.2.2.1 (.initialized "java/lang/IndexOutOfBoundsException") (by decide +kernel)) hstr (vx_hat (B := [.castable "java/lang/IndexOutOfBoundsException" "java/lang/IndexOutOfBoundsException", .declares (Bundle.initS "java/lang/RuntimeException"), .declares (Bundle.initS "java/lang/Exception"), .declares (Bundle.initS Bundle.tN)]) (fun w h => X.2.2.2.1 w (List.mem_cons_of_mem _ (List.mem_append_right _ h))) (by decide +kernel) (vx_c (va_Nw.use rfl X.2.2.2.2.2.2.2.2.2.1) (vx_c (va_Nw.use rfl (hdc _ (List.mem_of_getElem? (i := 0) rfl))) (vx_c (va_Nw.use rfl (hdc _ (List.mem_of_getElem? (i := 1) rfl))) (vx_c (va_Nw.use rfl (hdc _ (List.mem_of_getElem? (i := 2) rfl))) vx_n))))) (by decide +kernel) hZ.1 hZ.2 hw.2.2 (hl.1.trans hml.symm) dX11_fineness_26 dX11_fineness_29 dX11_fineness_30 dX11_fineness_32 dX11_fineness_35 (fun x hx => (hnt x hx).elim) (by decide) (Nat.le_of_ble_eq_true rfl) (Nat.le_of_ble_eq_true rfl) (Nat.le_of_ble_eq_true rfl) hlocks ?_ hw.2.2.2.2 (Nat.le_of_ble_eq_true rfl) (Nat.le_of_ble_eq_true rfl)
  intro t hvm hsz hq
  exact ⟨S, rfl, ⟨rfl, hw.1.kept (fun k q hk => hq q.1 (hw.lt (pl_mem hk))), hw.2.1⟩, ⟨Nat.le_trans hw.2.2.1 hsz, fun q h1 h2 => (hq q (Nat.lt_of_lt_of_le h1 hw.2.2.1)).trans (hw.2.2.2.1 q h1 h2)⟩⟩
set_option maxHeartbeats 4000000 in
set_option maxRecDepth 100000 in
theorem c_X11_in (l : Launch) (hst : l.stackTraces = false) (G : va_G) (cy : Nat → ClassId) (S : PS) (sz sa : Nat) (x : Nat) (a1 : Int32) (a2 : Int32) (a3 : Int32) (hF : FX S x) : vx_Met l yX11_in wiX11_in ({ frames := 8, cells := 1, slots := 6, locals := 320 }) (va_Pc [.ref x, .int (a1), .int (a2), .int (a3)] (Qx G cy S sz 221 "there is no such cocoon in a pot" sa)) (va_Qi (fun (r : Int32) (S9 : PS) => False) (Bw G cy S sz) (AS S sz)) (vx_X (fun S9 : PS => S = S9) (fun E S9 t => E = "java/util/NoSuchElementException" ∧ Bw G cy S sz S9 t) (AS S sz)) 1 6 (AS S sz) := by
  refine vx_ofW (cc := cX11_in) (maxL := 7) (ret := (some .int)) (by decide) rfl ?_
  intro p e s m args below meth c s₁ B hml hnt hv
  obtain ⟨rfl, ⟨hsz, hP, hK, hD, hNG⟩, hZ, hstr, hdc⟩ := hv
  subst hsz
  have hl := lv_entry ([.ref x, .int (a1), .int (a2), .int (a3)]) (n := 7) (Nat.le_of_ble_eq_true rfl)
  rw [lg_entry_eq]
  generalize (lg_sl ([.ref x, .int (a1), .int (a2), .int (a3)]) ++ List.replicate (7 - (lg_sl ([.ref x, .int (a1), .int (a2), .int (a3)])).length) Slot.unset).toArray = ls at hl ⊢
  have hl : lv_has ls 7 [(0, .ref x), (1, .int (a1)), (2, .int (a2)), (3, .int (a3))] := hl
  have X : Cx p c cX11_in 7 s [.ref x, .int (a1), .int (a2), .int (a3)].toArray wiX11_in RX11 m G cy (AS S s.heap.size) := ⟨B.exec, B.bytes, hml, atoms_spec (ws := wiX11_in) B.pre, findClass_of_methodNamed B.named, hK, fun q h => Or.inr h, hNG⟩
  have hw : Wd G cy (AS S s.heap.size) s.heap S s.heap [] := ⟨hP, hD.weaken (fun k q hk _ => Or.inl (pl_mem hk)), va_S.rf⟩
  have hlocks := B.notSynchronized
  have hF0 := hF
  obtain ⟨hat_x, ci_lots, ci_pots, ci_shv, ⟨cs, rf_cs, hat_cs, ln_cs⟩, ⟨lz, rf_lz, hat_lz, ln_lz⟩, ⟨ps, rf_ps, hat_ps, ln_ps⟩, ⟨tp, rf_tp, hat_tp, ci_tsz, ci_tfp, ⟨tb, rf_tb, hat_tb, ln_tb⟩⟩, ⟨st, rf_st, hat_st, ci_st, ⟨pr, rf_pr, hat_pr, ln_pr⟩, ⟨mx, rf_mx, hat_mx⟩⟩, ⟨dr, rf_dr, hat_dr, ci_dsz⟩, sh, rf_sh, hat_sh, ln_sh, hpl⟩ := hF
  have hF := hF0
  refine lv_aload_n X.1 X.2.1 dX11_in_0 rfl (lv_at hl 0 rfl) ?_
  refine lv_iload_n X.1 X.2.1 dX11_in_1 rfl (lv_at hl 1 rfl) ?_
  refine k_q (rm := { frames := 1, cells := 0, slots := 0, locals := 40 }) (av := [.ref x, .int (a1)]) X hw (va_runV (As := [.int (a1)]) (rest := []) (cfix X) (c_X11_potAt l G cy S _ x (a1) hF) (cwV 1 X.2.2.2.1 gX11_in_X11_potAt rfl rfl rfl (by decide +kernel) ⟨Nat.le_of_ble_eq_true rfl, Nat.le_of_ble_eq_true rfl⟩) (pre_V X hw _ hat_x (by decide) rfl) rfl rfl hl.1 rfl (lv_room (Nat.le_of_ble_eq_true rfl)) dX11_in_2 ⟨Nat.le_of_ble_eq_true rfl, Nat.le_of_ble_eq_true rfl⟩) 0 0 (Nat.le_of_ble_eq_true rfl) (Nat.le_of_ble_eq_true rfl) (fun rr_2 S2 H locs hp hw hfr hnw => ?_)
  obtain ⟨e2_2, er_2⟩ := hp
  subst e2_2
  subst er_2
  refine W.eq (g2 := F0 m 5 ls (.null :: [])) rfl ?_
  refine lv_astoreN (lv' := [(4, .null), (0, .ref x), (1, .int (a1)), (2, .int (a2)), (3, .int (a3))]) X.1 X.2.1 dX11_in_5 hl (by decide) rfl (fun ls hl => ?_)
  refine lv_aloadN X.1 X.2.1 dX11_in_7 (lv_at hl 0 rfl) ?_
  refine lv_ifnonnullN X.1 X.2.1 dX11_in_9 ?_
  refine lv_null X.1 X.2.1 dX11_in_12 ?_
  refine lv_goto (tgt := 22) X.1 X.2.1 dX11_in_13 (by decide) ?_
  refine lv_astoreN (lv' := [(5, .null), (4, .null), (0, .ref x), (1, .int (a1)), (2, .int (a2)), (3, .int (a3))]) X.1 X.2.1 dX11_in_22 hl (by decide) rfl (fun ls hl => ?_)
  refine lv_aloadN X.1 X.2.1 dX11_in_24 (lv_at hl 0 rfl) ?_
  refine lv_ifnonnullN X.1 X.2.1 dX11_in_26 ?_
  refine lv_null X.1 X.2.1 dX11_in_29 ?_
  refine lv_goto (tgt := 39) X.1 X.2.1 dX11_in_30 (by decide) ?_
  refine lv_astoreN (lv' := [(6, .null), (5, .null), (4, .null), (0, .ref x), (1, .int (a1)), (2, .int (a2)), (3, .int (a3))]) X.1 X.2.1 dX11_in_39 hl (by decide) rfl (fun ls hl => ?_)
  refine lv_aloadN X.1 X.2.1 dX11_in_41 (lv_at hl 0 rfl) ?_
  refine lv_ifnonnullN X.1 X.2.1 dX11_in_43 ?_
  refine ox_throwS (ix := 13) (rx := prog_26_method_4_code) (names := ["java/lang/RuntimeException", "java/lang/Exception"]) X.1 X.2.1 hst (by decide +kernel) (by decide +kernel) (by decide +kernel) (by decide +kernel) X.2.2.2.2.1 (by decide +kernel) (by decide +kernel) (X.2.2.2.1 (.classLink RX11 219 "java/util/NoSuchElementException") (by decide +kernel)) (X.2.2.2.1 (.initialized "java/util/NoSuchElementException") (by decide +kernel)) hstr (vx_hat (B := [.castable "java/util/NoSuchElementException" "java/util/NoSuchElementException", .declares (Bundle.initS "java/lang/RuntimeException"), .declares (Bundle.initS "java/lang/Exception"), .declares (Bundle.initS Bundle.tN)]) (fun w h => X.2.2.2.1 w (List.mem_cons_of_mem _ (List.mem_append_right _ h))) (by decide +kernel) (vx_c (va_Nw.use rfl X.2.2.2.2.2.2.2.2.2.2) (vx_c (va_Nw.use rfl (hdc _ (List.mem_of_getElem? (i := 0) rfl))) (vx_c (va_Nw.use rfl (hdc _ (List.mem_of_getElem? (i := 1) rfl))) (vx_c (va_Nw.use rfl (hdc _ (List.mem_of_getElem? (i := 2) rfl))) vx_n))))) (by decide +kernel) hZ.1 hZ.2 hw.2.2 (hl.1.trans hml.symm) dX11_in_46 dX11_in_49 dX11_in_50 dX11_in_52 dX11_in_55 (fun x hx => (hnt x hx).elim) (by decide) (Nat.le_of_ble_eq_true rfl) (Nat.le_of_ble_eq_true rfl) (Nat.le_of_ble_eq_true rfl) hlocks ?_ hw.2.2.2.2 (Nat.le_of_ble_eq_true rfl) (Nat.le_of_ble_eq_true rfl)
  intro t hvm hsz hq
  exact ⟨S, rfl, ⟨rfl, hw.1.kept (fun k q hk => hq q.1 (hw.lt (pl_mem hk))), hw.2.1⟩, ⟨Nat.le_trans hw.2.2.1 hsz, fun q h1 h2 => (hq q (Nat.lt_of_lt_of_le h1 hw.2.2.1)).trans (hw.2.2.2.1 q h1 h2)⟩⟩
