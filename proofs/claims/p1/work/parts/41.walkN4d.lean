set_option maxHeartbeats 4000000 in
set_option maxRecDepth 100000 in
theorem c_X2_beginFor (l : Launch) (G : va_G) (cy : Nat → ClassId) (S : PS) (sz : Nat) (mx : Nat) (v : Int32) (hat_mx : At S mx 2) : Cv l yX2_beginFor wsX2_beginFor ({ frames := 1, cells := 0, slots := 0, locals := 40 }) G cy S sz [.ref mx, .int (v)] (fun (S9 : PS) => pL S9 = pL S ∧ pK S9 = pK S ∧ pR S9 = pR S ∧ (∀ g a, a ≠ mx → pI S9 g a = pI S g a) ∧ pI S9 204 mx = 0 ∧ pI S9 205 mx = v ∧ pI S9 207 mx = 0) := by
  refine ent_m (cc := cX2_beginFor) (maxL := 2) (ret := none) (by decide) rfl (Nat.le_of_ble_eq_true rfl) ?_
  intro p e s m below meth c ls X hr hlocks hin hw hl hsz
  subst hsz
  have X : Cx p c cX2_beginFor 2 s [.ref mx, .int (v)].toArray wsX2_beginFor RX2 m G cy (AS S s.heap.size) := X
  have hl : lv_has ls 2 [(0, .ref mx), (1, .int (v))] := hl
  refine lv_aload_n X.1 X.2.1 dX2_beginFor_0 rfl (lv_at hl 0 rfl) ?_
  refine lv_iconst (v := 0) X.1 X.2.1 dX2_beginFor_1 (by decide) ?_
  refine r_putI (v := 0) X hw hat_mx 3 203 tyX2 (by decide) rfl inn_X2_beginFor_2 tyX2_ok nmX2 (by decide) (X.2.2.2.1 (.fieldLink RX2 21 "SilkMill$Mixer" "size" "I") (by decide +kernel)) rfl (Or.inl rfl) rfl rfl (Nat.le_of_ble_eq_true rfl) (st_203 _ _) dX2_beginFor_2 (fun H locs hw => ?_)
  generalize eS_1 : sI S 203 mx 0 = S_1 at hw
  have hat_mx : At S_1 mx 2 := by rw [← eS_1]; exact At_sI hat_mx
  have hc_2 : pI S_1 203 mx = 0 := by rw [← eS_1]; exact pI_sI_same
  refine lv_aload_n X.1 X.2.1 dX2_beginFor_5 rfl (lv_at hl 0 rfl) ?_
  refine lv_iconst (v := 0) X.1 X.2.1 dX2_beginFor_6 (by decide) ?_
  refine r_putI (v := 0) X hw hat_mx 4 204 tyX2 (by decide) rfl inn_X2_beginFor_2 tyX2_ok nmX2 (by decide) (X.2.2.2.1 (.fieldLink RX2 25 "SilkMill$Mixer" "offered" "I") (by decide +kernel)) rfl (Or.inl rfl) rfl rfl (Nat.le_of_ble_eq_true rfl) (st_204 _ _) dX2_beginFor_7 (fun H locs hw => ?_)
  generalize eS_3 : sI S_1 204 mx 0 = S_3 at hw
  have hat_mx : At S_3 mx 2 := by rw [← eS_3]; exact At_sI hat_mx
  have hc_2 : pI S_3 203 mx = 0 := by rw [← eS_3]; exact (pI_sI_nf (by decide)).trans hc_2
  have hc_4 : pI S_3 204 mx = 0 := by rw [← eS_3]; exact pI_sI_same
  refine lv_aload_n X.1 X.2.1 dX2_beginFor_10 rfl (lv_at hl 0 rfl) ?_
  refine lv_iload_n X.1 X.2.1 dX2_beginFor_11 rfl (lv_at hl 1 rfl) ?_
  refine r_putI (v := v) X hw hat_mx 5 205 tyX2 (by decide) rfl inn_X2_beginFor_2 tyX2_ok nmX2 (by decide) (X.2.2.2.1 (.fieldLink RX2 28 "SilkMill$Mixer" "wanted" "I") (by decide +kernel)) rfl (Or.inl rfl) rfl rfl (Nat.le_of_ble_eq_true rfl) (st_205 _ _) dX2_beginFor_12 (fun H locs hw => ?_)
  generalize eS_5 : sI S_3 205 mx v = S_5 at hw
  have hat_mx : At S_5 mx 2 := by rw [← eS_5]; exact At_sI hat_mx
  have hc_2 : pI S_5 203 mx = 0 := by rw [← eS_5]; exact (pI_sI_nf (by decide)).trans hc_2
  have hc_4 : pI S_5 204 mx = 0 := by rw [← eS_5]; exact (pI_sI_nf (by decide)).trans hc_4
  have hc_6 : pI S_5 205 mx = v := by rw [← eS_5]; exact pI_sI_same
  refine lv_aload_n X.1 X.2.1 dX2_beginFor_15 rfl (lv_at hl 0 rfl) ?_
  refine lv_ldc (v := 2147483647) X.1 X.2.1 X.2.2.2.2.1 (X.2.2.2.1 (.constant RX2 33 2147483647) (by decide +kernel)) dX2_beginFor_16 ?_
  refine r_putI (v := 2147483647) X hw hat_mx 6 206 tyX2 (by decide) rfl inn_X2_beginFor_2 tyX2_ok nmX2 (by decide) (X.2.2.2.1 (.fieldLink RX2 34 "SilkMill$Mixer" "bestPrice" "I") (by decide +kernel)) rfl (Or.inl rfl) rfl rfl (Nat.le_of_ble_eq_true rfl) (st_206 _ _) dX2_beginFor_18 (fun H locs hw => ?_)
  generalize eS_7 : sI S_5 206 mx 2147483647 = S_7 at hw
  have hat_mx : At S_7 mx 2 := by rw [← eS_7]; exact At_sI hat_mx
  have hc_2 : pI S_7 203 mx = 0 := by rw [← eS_7]; exact (pI_sI_nf (by decide)).trans hc_2
  have hc_4 : pI S_7 204 mx = 0 := by rw [← eS_7]; exact (pI_sI_nf (by decide)).trans hc_4
  have hc_6 : pI S_7 205 mx = v := by rw [← eS_7]; exact (pI_sI_nf (by decide)).trans hc_6
  have hc_8 : pI S_7 206 mx = 2147483647 := by rw [← eS_7]; exact pI_sI_same
  refine lv_aload_n X.1 X.2.1 dX2_beginFor_21 rfl (lv_at hl 0 rfl) ?_
  refine lv_iconst (v := 0) X.1 X.2.1 dX2_beginFor_22 (by decide) ?_
  refine r_putI (v := 0) X hw hat_mx 7 207 tyX2 (by decide) rfl inn_X2_beginFor_2 tyX2_ok nmX2 (by decide) (X.2.2.2.1 (.fieldLink RX2 37 "SilkMill$Mixer" "bestSet" "I") (by decide +kernel)) rfl (Or.inl rfl) rfl rfl (Nat.le_of_ble_eq_true rfl) (st_207 _ _) dX2_beginFor_23 (fun H locs hw => ?_)
  generalize eS_9 : sI S_7 207 mx 0 = S_9 at hw
  have hat_mx : At S_9 mx 2 := by rw [← eS_9]; exact At_sI hat_mx
  have hc_2 : pI S_9 203 mx = 0 := by rw [← eS_9]; exact (pI_sI_nf (by decide)).trans hc_2
  have hc_4 : pI S_9 204 mx = 0 := by rw [← eS_9]; exact (pI_sI_nf (by decide)).trans hc_4
  have hc_6 : pI S_9 205 mx = v := by rw [← eS_9]; exact (pI_sI_nf (by decide)).trans hc_6
  have hc_8 : pI S_9 206 mx = 2147483647 := by rw [← eS_9]; exact (pI_sI_nf (by decide)).trans hc_8
  have hc_10 : pI S_9 207 mx = 0 := by rw [← eS_9]; exact pI_sI_same
  exact ret_v X hw hr hlocks (Nat.le_of_ble_eq_true rfl) (Nat.le_of_ble_eq_true rfl) (by refine ⟨?_, ?_, ?_, fun g a h => ?_, hc_4, hc_6, hc_10⟩ <;> subst eS_9 eS_7 eS_5 eS_3 eS_1 <;> first | (simp only [pL_sI, pK_sI, pR_sI]; done) | exact (pI_sI_ne h).trans ((pI_sI_ne h).trans ((pI_sI_ne h).trans ((pI_sI_ne h).trans (pI_sI_ne h))))) dX2_beginFor_26
set_option maxHeartbeats 4000000 in
set_option maxRecDepth 100000 in
theorem c_X2_seek (l : Launch) (G : va_G) (cy : Nat → ClassId) (S : PS) (sz : Nat) (mx : Nat) (wv : Int32) (hat_mx : At S mx 2) (ci_205 : pI S 205 mx = wv) (hpos : 0 < wv) : Cv l yX2_seek wsX2_seek ({ frames := 1, cells := 0, slots := 0, locals := 40 }) G cy S sz [.ref mx, .int 0, .int 0, .int 0, .int 0] (fun (S9 : PS) => S = S9) := by
  refine ent_m (cc := cX2_seek) (maxL := 5) (ret := none) (by decide) rfl (Nat.le_of_ble_eq_true rfl) ?_
  intro p e s m below meth c ls X hr hlocks hin hw hl hsz
  subst hsz
  have X : Cx p c cX2_seek 5 s [.ref mx, .int 0, .int 0, .int 0, .int 0].toArray wsX2_seek RX2 m G cy (AS S s.heap.size) := X
  have hl : lv_has ls 5 [(0, .ref mx), (1, .int 0), (2, .int 0), (3, .int 0), (4, .int 0)] := hl
  refine lv_iload_n X.1 X.2.1 dX2_seek_0 rfl (lv_at hl 3 rfl) ?_
  refine lv_aload_n X.1 X.2.1 dX2_seek_1 rfl (lv_at hl 0 rfl) ?_
  refine r_get (v := .int (wv)) X hw hat_mx 5 (by decide) rfl inn_X2_seek_2 (by decide) (X.2.2.2.1 (.fieldLink RX2 28 "SilkMill$Mixer" "wanted" "I") (by decide +kernel)) rfl ((gv_205 _ _).trans (congrArg (fun z => some (Value.int z)) ci_205)) dX2_seek_2 ?_
  refine lv_icmp_lt (tgt := 17) X.1 X.2.1 dX2_seek_5 (by decide) (fun c_5 => ?_) (fun c_5 => absurd hpos c_5)
  exact ret_v X hw hr hlocks (Nat.le_of_ble_eq_true rfl) (Nat.le_of_ble_eq_true rfl) rfl dX2_seek_17
set_option maxHeartbeats 4000000 in
set_option maxRecDepth 100000 in
theorem c_X2_leastPrice (l : Launch) (G : va_G) (cy : Nat → ClassId) (S : PS) (sz : Nat) (mx : Nat) (wv : Int32) (hat_mx : At S mx 2) (ci_204 : pI S 204 mx = 0) (ci_205 : pI S 205 mx = wv) (ci_207 : pI S 207 mx = 0) (hpos : 0 < wv) : Ci l yX2_leastPrice wsX2_leastPrice ({ frames := 2, cells := 0, slots := 0, locals := 80 }) G cy S sz [.ref mx] (fun (r : Int32) (S9 : PS) => S = S9 ∧ r = -1) := by
  refine ent_m (cc := cX2_leastPrice) (maxL := 1) (ret := (some .int)) (by decide) rfl (Nat.le_of_ble_eq_true rfl) ?_
  intro p e s m below meth c ls X hr hlocks hin hw hl hsz
  subst hsz
  have X : Cx p c cX2_leastPrice 1 s [.ref mx].toArray wsX2_leastPrice RX2 m G cy (AS S s.heap.size) := X
  have hl : lv_has ls 1 [(0, .ref mx)] := hl
  refine lv_aload_n X.1 X.2.1 dX2_leastPrice_0 rfl (lv_at hl 0 rfl) ?_
  refine lv_iconst (v := 0) X.1 X.2.1 dX2_leastPrice_1 (by decide) ?_
  refine lv_iconst (v := 0) X.1 X.2.1 dX2_leastPrice_2 (by decide) ?_
  refine lv_aload_n X.1 X.2.1 dX2_leastPrice_3 rfl (lv_at hl 0 rfl) ?_
  refine r_get (v := .int 0) X hw hat_mx 4 (by decide) rfl inn_X2_leastPrice_2 (by decide) (X.2.2.2.1 (.fieldLink RX2 25 "SilkMill$Mixer" "offered" "I") (by decide +kernel)) rfl ((gv_204 _ _).trans (congrArg (fun z => some (Value.int z)) ci_204)) dX2_leastPrice_4 ?_
  refine lv_iconst (v := 0) X.1 X.2.1 dX2_leastPrice_7 (by decide) ?_
  refine k_v (rm := { frames := 1, cells := 0, slots := 0, locals := 40 }) (av := [.ref mx, .int 0, .int 0, .int 0, .int 0]) X hw (va_runS (As := [.ref mx, .int 0, .int 0, .int 0, .int 0]) (rest := []) (cfix X) (c_X2_seek l G cy S _ mx wv hat_mx ci_205 hpos) (cwS 5 X.2.2.2.1 gX2_leastPrice_X2_seek rfl rfl rfl (by decide +kernel) ⟨Nat.le_of_ble_eq_true rfl, Nat.le_of_ble_eq_true rfl⟩) (pre_S X hw _) rfl rfl hl.1 rfl (lv_room (Nat.le_of_ble_eq_true rfl)) dX2_leastPrice_8 ⟨Nat.le_of_ble_eq_true rfl, Nat.le_of_ble_eq_true rfl⟩) 0 0 (Nat.le_of_ble_eq_true rfl) (Nat.le_of_ble_eq_true rfl) (fun S2 H locs hp hw hfr hnw => ?_)
  subst hp
  refine lv_aload_n X.1 X.2.1 dX2_leastPrice_11 rfl (lv_at hl 0 rfl) ?_
  refine r_get (v := .int 0) X hw hat_mx 7 (by decide) rfl inn_X2_leastPrice_2 (by decide) (X.2.2.2.1 (.fieldLink RX2 37 "SilkMill$Mixer" "bestSet" "I") (by decide +kernel)) rfl ((gv_207 _ _).trans (congrArg (fun z => some (Value.int z)) ci_207)) dX2_leastPrice_12 ?_
  refine lv_if_ne (tgt := 22) X.1 X.2.1 dX2_leastPrice_15 (by decide) (fun c_15 => absurd c_15 (by decide)) (fun c_15 => ?_)
  refine lv_iconst (v := (-1)) X.1 X.2.1 dX2_leastPrice_18 (by decide) ?_
  refine lv_goto (tgt := 26) X.1 X.2.1 dX2_leastPrice_19 (by decide) ?_
  exact ret_i X hw hr hlocks (Nat.le_of_ble_eq_true rfl) (Nat.le_of_ble_eq_true rfl) ⟨rfl, rfl⟩ dX2_leastPrice_26
set_option maxHeartbeats 4000000 in
set_option maxRecDepth 100000 in
theorem c_X8_mixFor (l : Launch) (G : va_G) (cy : Nat → ClassId) (S : PS) (sz : Nat) (st : Nat) (a1 : Int32) (a2 : Int32) (a3 : Int32) (a4 : Int32) (hF : StF S st) (hpos : 0 < a1) : Ci l yX8_mixFor wsX8_mixFor ({ frames := 3, cells := 0, slots := 0, locals := 120 }) G cy S sz [.ref st, .int (a1), .int (a2), .int (a3), .int (a4)] (fun (r : Int32) (S9 : PS) => r = -1) := by
  refine ent_m (cc := cX8_mixFor) (maxL := 7) (ret := (some .int)) (by decide) rfl (Nat.le_of_ble_eq_true rfl) ?_
  intro p e s m below meth c ls X hr hlocks hin hw hl hsz
  subst hsz
  have X : Cx p c cX8_mixFor 7 s [.ref st, .int (a1), .int (a2), .int (a3), .int (a4)].toArray wsX8_mixFor RX8 m G cy (AS S s.heap.size) := X
  have hl : lv_has ls 7 [(0, .ref st), (1, .int (a1)), (2, .int (a2)), (3, .int (a3)), (4, .int (a4))] := hl
  obtain ⟨hat_st, ci_st, -, mx, rf_mx, hat_mx⟩ := hF
  have hat_mx : At S mx 2 := hat_mx
  have ci_800 := ci_st 800 (by decide)
  refine lv_aload_n X.1 X.2.1 dX8_mixFor_0 rfl (lv_at hl 0 rfl) ?_
  refine r_getR (g := 812) X hw hat_st 12 rf_mx (by decide) rfl inn_X8_mixFor_8 (by decide) (X.2.2.2.1 (.fieldLink RX8 33 "SilkMill$Store" "mixer" "LSilkMill$Mixer;") (by decide +kernel)) rfl (gv_812 _ _) dX8_mixFor_1 ?_
  refine lv_iload_n X.1 X.2.1 dX8_mixFor_4 rfl (lv_at hl 1 rfl) ?_
  refine k_v (rm := { frames := 1, cells := 0, slots := 0, locals := 40 }) (av := [.ref mx, .int (a1)]) X hw (va_runV (As := [.int (a1)]) (rest := []) (cfix X) (c_X2_beginFor l G cy S _ mx a1 hat_mx) (cwV 1 X.2.2.2.1 gX8_mixFor_X2_beginFor rfl rfl rfl (by decide +kernel) ⟨Nat.le_of_ble_eq_true rfl, Nat.le_of_ble_eq_true rfl⟩) (pre_V X hw _ hat_mx (by decide) rfl) rfl rfl hl.1 rfl (lv_room (Nat.le_of_ble_eq_true rfl)) dX8_mixFor_5 ⟨Nat.le_of_ble_eq_true rfl, Nat.le_of_ble_eq_true rfl⟩) 0 0 (Nat.le_of_ble_eq_true rfl) (Nat.le_of_ble_eq_true rfl) (fun S2 H locs hp hw hfr hnw => ?_)
  obtain ⟨j1, j2, j3, j4, ci_204, ci_205, ci_207⟩ := hp
  have nesm : st ≠ mx := At_ne hat_st hat_mx (by decide)
  generalize eSb : S2 = Sb at j1 j2 j3 j4 ci_204 ci_205 ci_207 hw
  have hat_st : At Sb st 8 := ⟨by rw [j1]; exact hat_st.1, by rw [j2]; exact hat_st.2⟩
  have hat_mx : At Sb mx 2 := ⟨by rw [j1]; exact hat_mx.1, by rw [j2]; exact hat_mx.2⟩
  have rf_mx : pR Sb 812 st = some mx := by rw [j3]; exact rf_mx
  have ci_800 : pI Sb 800 st = 0 := (j4 800 st nesm).trans ci_800
  refine lv_iconst (v := 0) X.1 X.2.1 dX8_mixFor_8 (by decide) ?_
  refine lv_istore (lv' := [(5, .int 0), (0, .ref st), (1, .int (a1)), (2, .int (a2)), (3, .int (a3)), (4, .int (a4))]) X.1 X.2.1 dX8_mixFor_9 hl (by decide) rfl (fun ls hl => ?_)
  refine lv_iload X.1 X.2.1 dX8_mixFor_11 (lv_at hl 0 rfl) ?_
  refine lv_aload_n X.1 X.2.1 dX8_mixFor_13 rfl (lv_at hl 1 rfl) ?_
  refine r_get (v := .int 0) X hw hat_st 0 (by decide) rfl inn_X8_mixFor_8 (by decide) (X.2.2.2.1 (.fieldLink RX8 37 "SilkMill$Store" "kept" "I") (by decide +kernel)) rfl ((gv_800 _ _).trans (congrArg (fun z => some (Value.int z)) ci_800)) dX8_mixFor_14 ?_
  refine lv_icmp_ge (tgt := 88) X.1 X.2.1 dX8_mixFor_17 (by decide) (fun c_17 => ?_) (fun c_17 => absurd c_17 (by decide))
  refine lv_aload_n X.1 X.2.1 dX8_mixFor_88 rfl (lv_at hl 1 rfl) ?_
  refine r_getR (g := 812) X hw hat_st 12 rf_mx (by decide) rfl inn_X8_mixFor_8 (by decide) (X.2.2.2.1 (.fieldLink RX8 33 "SilkMill$Store" "mixer" "LSilkMill$Mixer;") (by decide +kernel)) rfl (gv_812 _ _) dX8_mixFor_89 ?_
  refine k_i (rm := { frames := 2, cells := 0, slots := 0, locals := 80 }) (av := [.ref mx]) X hw (va_runV (As := []) (rest := []) (cfix X) (c_X2_leastPrice l G cy Sb _ mx a1 hat_mx ci_204 ci_205 ci_207 hpos) (cwV 0 X.2.2.2.1 gX8_mixFor_X2_leastPrice rfl rfl rfl (by decide +kernel) ⟨Nat.le_of_ble_eq_true rfl, Nat.le_of_ble_eq_true rfl⟩) (pre_V X hw _ hat_mx (by decide) rfl) rfl rfl hl.1 rfl (lv_room (Nat.le_of_ble_eq_true rfl)) dX8_mixFor_92 ⟨Nat.le_of_ble_eq_true rfl, Nat.le_of_ble_eq_true rfl⟩) 0 0 (Nat.le_of_ble_eq_true rfl) (Nat.le_of_ble_eq_true rfl) (fun rr_92 S2 H locs hp hw hfr hnw => ?_)
  obtain ⟨e2_92, er_92⟩ := hp
  subst e2_92
  subst er_92
  refine lv_istore (lv' := [(5, .int (-1)), (0, .ref st), (1, .int (a1)), (2, .int (a2)), (3, .int (a3)), (4, .int (a4))]) X.1 X.2.1 dX8_mixFor_95 hl (by decide) rfl (fun ls hl => ?_)
  refine lv_iload X.1 X.2.1 dX8_mixFor_97 (lv_at hl 0 rfl) ?_
  refine lv_iconst (v := (-1)) X.1 X.2.1 dX8_mixFor_99 (by decide) ?_
  refine lv_icmp_eq (tgt := 109) X.1 X.2.1 dX8_mixFor_100 (by decide) (fun c_100 => ?_) (fun c_100 => absurd c_100 (by decide))
  refine lv_iload X.1 X.2.1 dX8_mixFor_109 (lv_at hl 0 rfl) ?_
  exact ret_i X hw hr hlocks (Nat.le_of_ble_eq_true rfl) (Nat.le_of_ble_eq_true rfl) rfl dX8_mixFor_111
set_option maxHeartbeats 4000000 in
set_option maxRecDepth 100000 in
theorem c_X11_mix (l : Launch) (G : va_G) (cy : Nat → ClassId) (S : PS) (sz : Nat) (x : Nat) (a1 : Int32) (a2 : Int32) (a3 : Int32) (a4 : Int32) (hF : FX S x) : Ci l yX11_mix wsX11_mix ({ frames := 4, cells := 0, slots := 0, locals := 160 }) G cy S sz [.ref x, .int (a1), .int (a2), .int (a3), .int (a4)] (fun (r : Int32) (S9 : PS) => r = -1) := by
  refine ent_m (cc := cX11_mix) (maxL := 5) (ret := (some .int)) (by decide) rfl (Nat.le_of_ble_eq_true rfl) ?_
  intro p e s m below meth c ls X hr hlocks hin hw hl hsz
  subst hsz
  have X : Cx p c cX11_mix 5 s [.ref x, .int (a1), .int (a2), .int (a3), .int (a4)].toArray wsX11_mix RX11 m G cy (AS S s.heap.size) := X
  have hl : lv_has ls 5 [(0, .ref x), (1, .int (a1)), (2, .int (a2)), (3, .int (a3)), (4, .int (a4))] := hl
  have hF0 := hF
  obtain ⟨hat_x, ci_lots, ci_pots, ci_shv, ⟨cs, rf_cs, hat_cs, ln_cs⟩, ⟨lz, rf_lz, hat_lz, ln_lz⟩, ⟨ps, rf_ps, hat_ps, ln_ps⟩, ⟨tp, rf_tp, hat_tp, ci_tsz, ci_tfp, ⟨tb, rf_tb, hat_tb, ln_tb⟩⟩, ⟨st, rf_st, hat_st, ci_st, ⟨pr, rf_pr, hat_pr, ln_pr⟩, ⟨mx, rf_mx, hat_mx⟩⟩, ⟨dr, rf_dr, hat_dr, ci_dsz⟩, sh, rf_sh, hat_sh, ln_sh, hpl⟩ := hF
  have ci_800 := ci_st 800 (by decide)
  have ci_801 := ci_st 801 (by decide)
  have ci_802 := ci_st 802 (by decide)
  have ci_803 := ci_st 803 (by decide)
  have ci_804 := ci_st 804 (by decide)
  have ci_805 := ci_st 805 (by decide)
  have ci_806 := ci_st 806 (by decide)
  have hF := hF0
  have hFst : StF S st := by obtain ⟨-, -, -, -, -, -, -, -, ⟨t9, h8, h9⟩, -⟩ := hF; rw [h8] at rf_st; cases rf_st; exact h9
  refine lv_iload_n X.1 X.2.1 dX11_mix_0 rfl (lv_at hl 1 rfl) ?_
  refine lv_iconst (v := 1) X.1 X.2.1 dX11_mix_1 (by decide) ?_
  refine lv_icmp_ge (tgt := 9) X.1 X.2.1 dX11_mix_2 (by decide) (fun c_2 => ?_) (fun c_2 => ?_)
  · have z_2 := trivial
    refine lv_aload_n X.1 X.2.1 dX11_mix_9 rfl (lv_at hl 0 rfl) ?_
    refine r_getR (g := 1107) X hw hat_x 7 rf_st (by decide) rfl inn_X11_mix_11 (by decide) (X.2.2.2.1 (.fieldLink RX11 42 "SilkMill" "store" "LSilkMill$Store;") (by decide +kernel)) rfl (gv_1107 _ _) dX11_mix_10 ?_
    refine lv_iload_n X.1 X.2.1 dX11_mix_13 rfl (lv_at hl 1 rfl) ?_
    refine lv_iload_n X.1 X.2.1 dX11_mix_14 rfl (lv_at hl 2 rfl) ?_
    refine lv_iload_n X.1 X.2.1 dX11_mix_15 rfl (lv_at hl 3 rfl) ?_
    refine lv_iload X.1 X.2.1 dX11_mix_16 (lv_at hl 4 rfl) ?_
    refine k_i (rm := { frames := 3, cells := 0, slots := 0, locals := 120 }) (av := [.ref st, .int (a1), .int (a2), .int (a3), .int (a4)]) X hw (va_runV (As := [.int (a1), .int (a2), .int (a3), .int (a4)]) (rest := []) (cfix X) (c_X8_mixFor l G cy S _ st a1 a2 a3 a4 hFst (pos_of c_2)) (cwV 4 X.2.2.2.1 gX11_mix_X8_mixFor rfl rfl rfl (by decide +kernel) ⟨Nat.le_of_ble_eq_true rfl, Nat.le_of_ble_eq_true rfl⟩) (pre_V X hw _ hat_st (by decide) rfl) rfl rfl hl.1 rfl (lv_room (Nat.le_of_ble_eq_true rfl)) dX11_mix_18 ⟨Nat.le_of_ble_eq_true rfl, Nat.le_of_ble_eq_true rfl⟩) 0 0 (Nat.le_of_ble_eq_true rfl) (Nat.le_of_ble_eq_true rfl) (fun rr_18 S2 H locs hp hw hfr hnw => ?_)
    subst hp
    exact ret_i X hw hr hlocks (Nat.le_of_ble_eq_true rfl) (Nat.le_of_ble_eq_true rfl) rfl dX11_mix_21
  · have z_2 := trivial
    refine lv_iconst (v := (-1)) X.1 X.2.1 dX11_mix_5 (by decide) ?_
    refine lv_goto (tgt := 21) X.1 X.2.1 dX11_mix_6 (by decide) ?_
    exact ret_i X hw hr hlocks (Nat.le_of_ble_eq_true rfl) (Nat.le_of_ble_eq_true rfl) rfl dX11_mix_21
