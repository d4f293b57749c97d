set_option maxHeartbeats 4000000 in
set_option maxRecDepth 100000 in
theorem c_X11_shelfAt (l : Launch) (G : va_G) (cy : Nat → ClassId) (S : PS) (sz : Nat) (x : Nat) (a1 : Int32) (hF : FX S x) : Cq l yX11_shelfAt wsX11_shelfAt ({ frames := 1, cells := 0, slots := 0, locals := 40 }) G cy S sz [.ref x, .int (a1)] (fun (r : Option Nat) (S9 : PS) => S = S9 ∧ ((wi a1 0 15 ∧ ∃ pl, r = some pl ∧ PlF S pl) ∨ (¬ wi a1 0 15 ∧ r = none))) := by
  refine ent_m (cc := cX11_shelfAt) (maxL := 2) (ret := (some (.object "SilkMill$Place"))) (by decide) rfl (Nat.le_of_ble_eq_true rfl) ?_
  intro p e s m below meth c ls X hr hlocks hin hw hl hsz
  subst hsz
  have X : Cx p c cX11_shelfAt 2 s [.ref x, .int (a1)].toArray wsX11_shelfAt RX11 m G cy (AS S s.heap.size) := X
  have hl : lv_has ls 2 [(0, .ref x), (1, .int (a1))] := hl
  have hF0 := hF
  obtain ⟨hat_x, ci_lots, ci_pots, ci_shv, ⟨cs, rf_cs, hat_cs, ln_cs⟩, ⟨lz, rf_lz, hat_lz, ln_lz⟩, ⟨ps, rf_ps, hat_ps, ln_ps⟩, ⟨tp, rf_tp, hat_tp, ci_tsz, ci_tfp, ⟨tb, rf_tb, hat_tb, ln_tb⟩⟩, ⟨st, rf_st, hat_st, ci_st, ⟨pr, rf_pr, hat_pr, ln_pr⟩, ⟨mx, rf_mx, hat_mx⟩⟩, ⟨dr, rf_dr, hat_dr, ci_dsz⟩, sh, rf_sh, hat_sh, ln_sh, hpl⟩ := hF
  have hF := hF0
  refine lv_iload_n X.1 X.2.1 dX11_shelfAt_0 rfl (lv_at hl 1 rfl) ?_
  refine lv_if_lt (tgt := 10) X.1 X.2.1 dX11_shelfAt_1 (by decide) (fun c_1 => ?_) (fun c_1 => ?_)
  · have z_1 := trivial
    refine lv_null X.1 X.2.1 dX11_shelfAt_10 ?_
    refine lv_goto (tgt := 20) X.1 X.2.1 dX11_shelfAt_11 (by decide) ?_
    exact ret_q none rfl X hw hr hlocks (Nat.le_of_ble_eq_true rfl) (Nat.le_of_ble_eq_true rfl) ⟨rfl, Or.inr ⟨fun h => by first | exact absurd h.1 (Int32.not_le.mpr c_1) | exact absurd (le15_lt h.2) c_7, rfl⟩⟩ dX11_shelfAt_20
  · have z_1 := trivial
    refine lv_iload_n X.1 X.2.1 dX11_shelfAt_4 rfl (lv_at hl 1 rfl) ?_
    refine lv_bipush (v := 16) X.1 X.2.1 dX11_shelfAt_5 (by decide) ?_
    refine lv_icmp_lt (tgt := 14) X.1 X.2.1 dX11_shelfAt_7 (by decide) (fun c_7 => ?_) (fun c_7 => ?_)
    · have z_7 := trivial
      refine lv_aload_n X.1 X.2.1 dX11_shelfAt_14 rfl (lv_at hl 0 rfl) ?_
      refine r_getR (g := 1109) X hw hat_x 9 rf_sh (by decide) rfl inn_X11_shelfAt_11 (by decide) (X.2.2.2.1 (.fieldLink RX11 55 "SilkMill" "shelf" "[LSilkMill$Place;") (by decide +kernel)) rfl (gv_1109 _ _) dX11_shelfAt_15 ?_
      refine lv_iload_n X.1 X.2.1 dX11_shelfAt_18 rfl (lv_at hl 1 rfl) ?_
      refine r_aald X hw hat_sh (by decide) rfl (by rw [ln_sh]; exact wi_vp (hi := 15) ⟨Int32.not_lt.mp c_1, lt16_le c_7⟩ (by decide)) dX11_shelfAt_19 ?_
      obtain ⟨pl, hpl1, hpl2⟩ := hpl _ (vp_lt16 (wi_vp (hi := 15) ⟨Int32.not_lt.mp c_1, lt16_le c_7⟩ (by decide)))
      rw [hpl1]
      exact ret_q (some pl) rfl X hw hr hlocks (Nat.le_of_ble_eq_true rfl) (Nat.le_of_ble_eq_true rfl) ⟨rfl, Or.inl ⟨⟨Int32.not_lt.mp c_1, lt16_le c_7⟩, _, rfl, hpl2⟩⟩ dX11_shelfAt_20
    · have z_7 := trivial
      refine lv_null X.1 X.2.1 dX11_shelfAt_10 ?_
      refine lv_goto (tgt := 20) X.1 X.2.1 dX11_shelfAt_11 (by decide) ?_
      exact ret_q none rfl X hw hr hlocks (Nat.le_of_ble_eq_true rfl) (Nat.le_of_ble_eq_true rfl) ⟨rfl, Or.inr ⟨fun h => by first | exact absurd h.1 (Int32.not_le.mpr c_1) | exact absurd (le15_lt h.2) c_7, rfl⟩⟩ dX11_shelfAt_20
set_option maxHeartbeats 4000000 in
set_option maxRecDepth 100000 in
theorem c_X3_hasRow (l : Launch) (G : va_G) (cy : Nat → ClassId) (S : PS) (sz : Nat) (pl : Nat) (hF : PlF S pl) : Ci l yX3_hasRow wsX3_hasRow ({ frames := 1, cells := 0, slots := 0, locals := 40 }) G cy S sz [.ref pl] (fun (r : Int32) (S9 : PS) => S = S9 ∧ r = 0) := by
  refine ent_m (cc := cX3_hasRow) (maxL := 1) (ret := (some .boolean)) (by decide) rfl (Nat.le_of_ble_eq_true rfl) ?_
  intro p e s m below meth c ls X hr hlocks hin hw hl hsz
  subst hsz
  have X : Cx p c cX3_hasRow 1 s [.ref pl].toArray wsX3_hasRow RX3 m G cy (AS S s.heap.size) := X
  have hl : lv_has ls 1 [(0, .ref pl)] := hl
  obtain ⟨hat_pl, ci_300, ci_301, ⟨wd, rf_wd, hat_wd, ln_wd⟩⟩ := hF
  refine lv_aload_n X.1 X.2.1 dX3_hasRow_0 rfl (lv_at hl 0 rfl) ?_
  refine r_get (v := .int (-1)) X hw hat_pl 0 (by decide) rfl inn_X3_hasRow_3 (by decide) (X.2.2.2.1 (.fieldLink RX3 9 "SilkMill$Place" "kind" "I") (by decide +kernel)) rfl ((gv_300 _ _).trans (congrArg (fun z => some (Value.int z)) ci_300)) dX3_hasRow_1 ?_
  refine lv_iconst (v := 2) X.1 X.2.1 dX3_hasRow_4 (by decide) ?_
  refine lv_icmp_ne (tgt := 19) X.1 X.2.1 dX3_hasRow_5 (by decide) (fun c_5 => ?_) (fun c_5 => absurd c_5 (by decide))
  refine lv_iconst (v := 0) X.1 X.2.1 dX3_hasRow_19 (by decide) ?_
  exact ret_z X hw hr hlocks (Nat.le_of_ble_eq_true rfl) (Nat.le_of_ble_eq_true rfl) (by decide) ⟨rfl, rfl⟩ dX3_hasRow_20
set_option maxHeartbeats 4000000 in
set_option maxRecDepth 100000 in
theorem c_X11_take (l : Launch) (G : va_G) (cy : Nat → ClassId) (S : PS) (sz : Nat) (x : Nat) (a1 : Int32) (a2 : Int32) (hF : FX S x) : Ci l yX11_take wsX11_take ({ frames := 4, cells := 0, slots := 0, locals := 160 }) G cy S sz [.ref x, .int (a1), .int (a2)] (fun (r : Int32) (S9 : PS) => r = takV a1 a2) := by
  refine ent_m (cc := cX11_take) (maxL := 4) (ret := (some .int)) (by decide) rfl (Nat.le_of_ble_eq_true rfl) ?_
  intro p e s m below meth c ls X hr hlocks hin hw hl hsz
  subst hsz
  have X : Cx p c cX11_take 4 s [.ref x, .int (a1), .int (a2)].toArray wsX11_take RX11 m G cy (AS S s.heap.size) := X
  have hl : lv_has ls 4 [(0, .ref x), (1, .int (a1)), (2, .int (a2))] := hl
  have hF0 := hF
  obtain ⟨hat_x, ci_lots, ci_pots, ci_shv, ⟨cs, rf_cs, hat_cs, ln_cs⟩, ⟨lz, rf_lz, hat_lz, ln_lz⟩, ⟨ps, rf_ps, hat_ps, ln_ps⟩, ⟨tp, rf_tp, hat_tp, ci_tsz, ci_tfp, ⟨tb, rf_tb, hat_tb, ln_tb⟩⟩, ⟨st, rf_st, hat_st, ci_st, ⟨pr, rf_pr, hat_pr, ln_pr⟩, ⟨mx, rf_mx, hat_mx⟩⟩, ⟨dr, rf_dr, hat_dr, ci_dsz⟩, sh, rf_sh, hat_sh, ln_sh, hpl⟩ := hF
  have hF := hF0
  refine lv_aload_n X.1 X.2.1 dX11_take_0 rfl (lv_at hl 0 rfl) ?_
  refine lv_iload_n X.1 X.2.1 dX11_take_1 rfl (lv_at hl 1 rfl) ?_
  refine k_q (rm := { frames := 1, cells := 0, slots := 0, locals := 40 }) (av := [.ref x, .int (a1)]) X hw (va_runV (As := [.int (a1)]) (rest := []) (cfix X) (c_X11_shelfAt l G cy S _ x (a1) hF) (cwV 1 X.2.2.2.1 gX11_take_X11_shelfAt rfl rfl rfl (by decide +kernel) ⟨Nat.le_of_ble_eq_true rfl, Nat.le_of_ble_eq_true rfl⟩) (pre_V X hw _ hat_x (by decide) rfl) rfl rfl hl.1 rfl (lv_room (Nat.le_of_ble_eq_true rfl)) dX11_take_2 ⟨Nat.le_of_ble_eq_true rfl, Nat.le_of_ble_eq_true rfl⟩) 0 0 (Nat.le_of_ble_eq_true rfl) (Nat.le_of_ble_eq_true rfl) (fun rr_2 S2 H locs hp hw hfr hnw => ?_)
  obtain ⟨e2_2, hp⟩ := hp
  subst e2_2
  rcases hp with ⟨b_2, pl_2, er_2, hf_pl_2⟩ | ⟨b_2, er_2⟩ <;> subst er_2
  · have z_2 := trivial
    have hfo_pl_2 := hf_pl_2
    obtain ⟨hat_pl_2, ci300_pl_2, ci301_pl_2, ⟨wd_pl_2, rf_wd_pl_2, hat_wd_pl_2, ln_wd_pl_2⟩⟩ := hf_pl_2
    refine W.eq (g2 := F0 m 5 ls (.ref pl_2 :: [])) rfl ?_
    refine lv_astore_n (lv' := [(3, .ref pl_2), (0, .ref x), (1, .int (a1)), (2, .int (a2))]) X.1 X.2.1 dX11_take_5 rfl hl (by decide) rfl (fun ls hl => ?_)
    refine lv_aload_n X.1 X.2.1 dX11_take_6 rfl (lv_at hl 0 rfl) ?_
    refine lv_ifnull X.1 X.2.1 dX11_take_7 ?_
    refine lv_iload_n X.1 X.2.1 dX11_take_10 rfl (lv_at hl 3 rfl) ?_
    refine lv_iconst (v := 0) X.1 X.2.1 dX11_take_11 (by decide) ?_
    refine lv_iconst (v := 2) X.1 X.2.1 dX11_take_12 (by decide) ?_
    refine k_i (rm := { frames := 1, cells := 0, slots := 0, locals := 40 }) (av := [.int (a2), .int 0, .int 2]) X hw (va_runS (As := [.int (a2), .int 0, .int 2]) (rest := []) (cfix X) (c_X11_isWithin l G cy S _ (a2) (0) (2)) (cwS 3 X.2.2.2.1 gX11_take_X11_isWithin rfl rfl rfl (by decide +kernel) ⟨Nat.le_of_ble_eq_true rfl, Nat.le_of_ble_eq_true rfl⟩) (pre_S X hw _) rfl rfl hl.1 rfl (lv_room (Nat.le_of_ble_eq_true rfl)) dX11_take_13 ⟨Nat.le_of_ble_eq_true rfl, Nat.le_of_ble_eq_true rfl⟩) 0 0 (Nat.le_of_ble_eq_true rfl) (Nat.le_of_ble_eq_true rfl) (fun rr_13 S2 H locs hp hw hfr hnw => ?_)
    obtain ⟨e2_13, hp⟩ := hp
    subst e2_13
    rcases hp with ⟨b_13, er_13⟩ | ⟨b_13, er_13⟩ <;> subst er_13
    · have z_13 := trivial
      refine lv_if_ne (tgt := 21) X.1 X.2.1 dX11_take_16 (by decide) (fun c_16 => ?_) (fun c_16 => absurd c_16 (by decide))
      refine lv_aload_n X.1 X.2.1 dX11_take_21 rfl (lv_at hl 0 rfl) ?_
      refine r_get (v := .int (-1)) X hw hat_pl_2 0 (by decide) rfl inn_X11_take_3 (by decide) (X.2.2.2.1 (.fieldLink RX11 307 "SilkMill$Place" "kind" "I") (by decide +kernel)) rfl ((gv_300 _ _).trans (congrArg (fun z => some (Value.int z)) ci300_pl_2)) dX11_take_22 ?_
      refine lv_iconst (v := (-1)) X.1 X.2.1 dX11_take_25 (by decide) ?_
      refine lv_icmp_ne (tgt := 32) X.1 X.2.1 dX11_take_26 (by decide) (fun c_26 => absurd c_26 (by decide)) (fun c_26 => ?_)
      refine lv_bipush (v := (-2)) X.1 X.2.1 dX11_take_29 (by decide) ?_
      exact ret_i X hw hr hlocks (Nat.le_of_ble_eq_true rfl) (Nat.le_of_ble_eq_true rfl) (if_pos ⟨b_2, b_13⟩).symm dX11_take_31
    · have z_13 := trivial
      refine lv_if_ne (tgt := 21) X.1 X.2.1 dX11_take_16 (by decide) (fun c_16 => absurd c_16 (by decide)) (fun c_16 => ?_)
      refine lv_iconst (v := (-1)) X.1 X.2.1 dX11_take_19 (by decide) ?_
      exact ret_i X hw hr hlocks (Nat.le_of_ble_eq_true rfl) (Nat.le_of_ble_eq_true rfl) (if_neg (fun h => b_13 h.2)).symm dX11_take_20
  · have z_2 := trivial
    refine W.eq (g2 := F0 m 5 ls (.null :: [])) rfl ?_
    refine lv_astore_nN (lv' := [(3, .null), (0, .ref x), (1, .int (a1)), (2, .int (a2))]) X.1 X.2.1 dX11_take_5 rfl hl (by decide) rfl (fun ls hl => ?_)
    refine lv_aload_nN X.1 X.2.1 dX11_take_6 rfl (lv_at hl 0 rfl) ?_
    refine lv_ifnullN (tgt := 19) X.1 X.2.1 dX11_take_7 (by decide) ?_
    refine lv_iconst (v := (-1)) X.1 X.2.1 dX11_take_19 (by decide) ?_
    exact ret_i X hw hr hlocks (Nat.le_of_ble_eq_true rfl) (Nat.le_of_ble_eq_true rfl) (if_neg (fun h => b_2 h.1)).symm dX11_take_20
set_option maxHeartbeats 4000000 in
set_option maxRecDepth 100000 in
theorem c_X11_copy (l : Launch) (G : va_G) (cy : Nat → ClassId) (S : PS) (sz : Nat) (x : Nat) (a1 : Int32) (a2 : Int32) (a3 : Int32) (a4 : Int32) (a5 : Int32) (hF : FX S x) : Ci l yX11_copy wsX11_copy ({ frames := 4, cells := 0, slots := 0, locals := 160 }) G cy S sz [.ref x, .int (a1), .int (a2), .int (a3), .int (a4), .int (a5)] (fun (r : Int32) (S9 : PS) => r = 0) := by
  refine ent_m (cc := cX11_copy) (maxL := 8) (ret := (some .boolean)) (by decide) rfl (Nat.le_of_ble_eq_true rfl) ?_
  intro p e s m below meth c ls X hr hlocks hin hw hl hsz
  subst hsz
  have X : Cx p c cX11_copy 8 s [.ref x, .int (a1), .int (a2), .int (a3), .int (a4), .int (a5)].toArray wsX11_copy RX11 m G cy (AS S s.heap.size) := X
  have hl : lv_has ls 8 [(0, .ref x), (1, .int (a1)), (2, .int (a2)), (3, .int (a3)), (4, .int (a4)), (5, .int (a5))] := hl
  have hF0 := hF
  obtain ⟨hat_x, ci_lots, ci_pots, ci_shv, ⟨cs, rf_cs, hat_cs, ln_cs⟩, ⟨lz, rf_lz, hat_lz, ln_lz⟩, ⟨ps, rf_ps, hat_ps, ln_ps⟩, ⟨tp, rf_tp, hat_tp, ci_tsz, ci_tfp, ⟨tb, rf_tb, hat_tb, ln_tb⟩⟩, ⟨st, rf_st, hat_st, ci_st, ⟨pr, rf_pr, hat_pr, ln_pr⟩, ⟨mx, rf_mx, hat_mx⟩⟩, ⟨dr, rf_dr, hat_dr, ci_dsz⟩, sh, rf_sh, hat_sh, ln_sh, hpl⟩ := hF
  have hF := hF0
  refine lv_aload_n X.1 X.2.1 dX11_copy_0 rfl (lv_at hl 0 rfl) ?_
  refine lv_iload_n X.1 X.2.1 dX11_copy_1 rfl (lv_at hl 1 rfl) ?_
  refine k_q (rm := { frames := 1, cells := 0, slots := 0, locals := 40 }) (av := [.ref x, .int (a1)]) X hw (va_runV (As := [.int (a1)]) (rest := []) (cfix X) (c_X11_shelfAt l G cy S _ x (a1) hF) (cwV 1 X.2.2.2.1 gX11_copy_X11_shelfAt rfl rfl rfl (by decide +kernel) ⟨Nat.le_of_ble_eq_true rfl, Nat.le_of_ble_eq_true rfl⟩) (pre_V X hw _ hat_x (by decide) rfl) rfl rfl hl.1 rfl (lv_room (Nat.le_of_ble_eq_true rfl)) dX11_copy_2 ⟨Nat.le_of_ble_eq_true rfl, Nat.le_of_ble_eq_true rfl⟩) 0 0 (Nat.le_of_ble_eq_true rfl) (Nat.le_of_ble_eq_true rfl) (fun rr_2 S2 H locs hp hw hfr hnw => ?_)
  obtain ⟨e2_2, hp⟩ := hp
  subst e2_2
  rcases hp with ⟨b_2, pl_2, er_2, hf_pl_2⟩ | ⟨b_2, er_2⟩ <;> subst er_2
  · have z_2 := trivial
    have hfo_pl_2 := hf_pl_2
    obtain ⟨hat_pl_2, ci300_pl_2, ci301_pl_2, ⟨wd_pl_2, rf_wd_pl_2, hat_wd_pl_2, ln_wd_pl_2⟩⟩ := hf_pl_2
    refine W.eq (g2 := F0 m 5 ls (.ref pl_2 :: [])) rfl ?_
    refine lv_astore (lv' := [(6, .ref pl_2), (0, .ref x), (1, .int (a1)), (2, .int (a2)), (3, .int (a3)), (4, .int (a4)), (5, .int (a5))]) X.1 X.2.1 dX11_copy_5 hl (by decide) rfl (fun ls hl => ?_)
    refine lv_aload_n X.1 X.2.1 dX11_copy_7 rfl (lv_at hl 1 rfl) ?_
    refine lv_iload_n X.1 X.2.1 dX11_copy_8 rfl (lv_at hl 4 rfl) ?_
    refine k_q (rm := { frames := 1, cells := 0, slots := 0, locals := 40 }) (av := [.ref x, .int (a3)]) X hw (va_runV (As := [.int (a3)]) (rest := []) (cfix X) (c_X11_shelfAt l G cy S _ x (a3) hF) (cwV 1 X.2.2.2.1 gX11_copy_X11_shelfAt rfl rfl rfl (by decide +kernel) ⟨Nat.le_of_ble_eq_true rfl, Nat.le_of_ble_eq_true rfl⟩) (pre_V X hw _ hat_x (by decide) rfl) rfl rfl hl.1 rfl (lv_room (Nat.le_of_ble_eq_true rfl)) dX11_copy_9 ⟨Nat.le_of_ble_eq_true rfl, Nat.le_of_ble_eq_true rfl⟩) 0 0 (Nat.le_of_ble_eq_true rfl) (Nat.le_of_ble_eq_true rfl) (fun rr_9 S2 H locs hp hw hfr hnw => ?_)
    obtain ⟨e2_9, hp⟩ := hp
    subst e2_9
    rcases hp with ⟨b_9, pl_9, er_9, hf_pl_9⟩ | ⟨b_9, er_9⟩ <;> subst er_9
    · have z_9 := trivial
      have hfo_pl_9 := hf_pl_9
      obtain ⟨hat_pl_9, ci300_pl_9, ci301_pl_9, ⟨wd_pl_9, rf_wd_pl_9, hat_wd_pl_9, ln_wd_pl_9⟩⟩ := hf_pl_9
      refine W.eq (g2 := F0 m 12 ls (.ref pl_9 :: [])) rfl ?_
      refine lv_astore (lv' := [(7, .ref pl_9), (6, .ref pl_2), (0, .ref x), (1, .int (a1)), (2, .int (a2)), (3, .int (a3)), (4, .int (a4)), (5, .int (a5))]) X.1 X.2.1 dX11_copy_12 hl (by decide) rfl (fun ls hl => ?_)
      refine lv_aload X.1 X.2.1 dX11_copy_14 (lv_at hl 1 rfl) ?_
      refine lv_ifnull X.1 X.2.1 dX11_copy_16 ?_
      refine lv_aload X.1 X.2.1 dX11_copy_19 (lv_at hl 0 rfl) ?_
      refine lv_ifnull X.1 X.2.1 dX11_copy_21 ?_
      refine lv_aload X.1 X.2.1 dX11_copy_24 (lv_at hl 1 rfl) ?_
      refine k_i (rm := { frames := 1, cells := 0, slots := 0, locals := 40 }) (av := [.ref pl_2]) X hw (va_runV (As := []) (rest := []) (cfix X) (c_X3_hasRow l G cy S _ pl_2 hfo_pl_2) (cwV 0 X.2.2.2.1 gX11_copy_X3_hasRow rfl rfl rfl (by decide +kernel) ⟨Nat.le_of_ble_eq_true rfl, Nat.le_of_ble_eq_true rfl⟩) (pre_V X hw _ hat_pl_2 (by decide) rfl) rfl rfl hl.1 rfl (lv_room (Nat.le_of_ble_eq_true rfl)) dX11_copy_26 ⟨Nat.le_of_ble_eq_true rfl, Nat.le_of_ble_eq_true rfl⟩) 0 0 (Nat.le_of_ble_eq_true rfl) (Nat.le_of_ble_eq_true rfl) (fun rr_26 S2 H locs hp hw hfr hnw => ?_)
      obtain ⟨e2_26, er_26⟩ := hp
      subst e2_26
      subst er_26
      refine lv_if_eq (tgt := 40) X.1 X.2.1 dX11_copy_29 (by decide) (fun c_29 => ?_) (fun c_29 => absurd c_29 (by decide))
      refine lv_iconst (v := 0) X.1 X.2.1 dX11_copy_40 (by decide) ?_
      exact ret_z X hw hr hlocks (Nat.le_of_ble_eq_true rfl) (Nat.le_of_ble_eq_true rfl) (by decide) rfl dX11_copy_41
    · have z_9 := trivial
      refine W.eq (g2 := F0 m 12 ls (.null :: [])) rfl ?_
      refine lv_astoreN (lv' := [(7, .null), (6, .ref pl_2), (0, .ref x), (1, .int (a1)), (2, .int (a2)), (3, .int (a3)), (4, .int (a4)), (5, .int (a5))]) X.1 X.2.1 dX11_copy_12 hl (by decide) rfl (fun ls hl => ?_)
      refine lv_aload X.1 X.2.1 dX11_copy_14 (lv_at hl 1 rfl) ?_
      refine lv_ifnull X.1 X.2.1 dX11_copy_16 ?_
      refine lv_aloadN X.1 X.2.1 dX11_copy_19 (lv_at hl 0 rfl) ?_
      refine lv_ifnullN (tgt := 40) X.1 X.2.1 dX11_copy_21 (by decide) ?_
      refine lv_iconst (v := 0) X.1 X.2.1 dX11_copy_40 (by decide) ?_
      exact ret_z X hw hr hlocks (Nat.le_of_ble_eq_true rfl) (Nat.le_of_ble_eq_true rfl) (by decide) rfl dX11_copy_41
  · have z_2 := trivial
    refine W.eq (g2 := F0 m 5 ls (.null :: [])) rfl ?_
    refine lv_astoreN (lv' := [(6, .null), (0, .ref x), (1, .int (a1)), (2, .int (a2)), (3, .int (a3)), (4, .int (a4)), (5, .int (a5))]) X.1 X.2.1 dX11_copy_5 hl (by decide) rfl (fun ls hl => ?_)
    refine lv_aload_n X.1 X.2.1 dX11_copy_7 rfl (lv_at hl 1 rfl) ?_
    refine lv_iload_n X.1 X.2.1 dX11_copy_8 rfl (lv_at hl 4 rfl) ?_
    refine k_q (rm := { frames := 1, cells := 0, slots := 0, locals := 40 }) (av := [.ref x, .int (a3)]) X hw (va_runV (As := [.int (a3)]) (rest := []) (cfix X) (c_X11_shelfAt l G cy S _ x (a3) hF) (cwV 1 X.2.2.2.1 gX11_copy_X11_shelfAt rfl rfl rfl (by decide +kernel) ⟨Nat.le_of_ble_eq_true rfl, Nat.le_of_ble_eq_true rfl⟩) (pre_V X hw _ hat_x (by decide) rfl) rfl rfl hl.1 rfl (lv_room (Nat.le_of_ble_eq_true rfl)) dX11_copy_9 ⟨Nat.le_of_ble_eq_true rfl, Nat.le_of_ble_eq_true rfl⟩) 0 0 (Nat.le_of_ble_eq_true rfl) (Nat.le_of_ble_eq_true rfl) (fun rr_9 S2 H locs hp hw hfr hnw => ?_)
    obtain ⟨e2_9, hp⟩ := hp
    subst e2_9
    rcases hp with ⟨b_9, pl_9, er_9, hf_pl_9⟩ | ⟨b_9, er_9⟩ <;> subst er_9
    · have z_9 := trivial
      have hfo_pl_9 := hf_pl_9
      obtain ⟨hat_pl_9, ci300_pl_9, ci301_pl_9, ⟨wd_pl_9, rf_wd_pl_9, hat_wd_pl_9, ln_wd_pl_9⟩⟩ := hf_pl_9
      refine W.eq (g2 := F0 m 12 ls (.ref pl_9 :: [])) rfl ?_
      refine lv_astore (lv' := [(7, .ref pl_9), (6, .null), (0, .ref x), (1, .int (a1)), (2, .int (a2)), (3, .int (a3)), (4, .int (a4)), (5, .int (a5))]) X.1 X.2.1 dX11_copy_12 hl (by decide) rfl (fun ls hl => ?_)
      refine lv_aloadN X.1 X.2.1 dX11_copy_14 (lv_at hl 1 rfl) ?_
      refine lv_ifnullN (tgt := 40) X.1 X.2.1 dX11_copy_16 (by decide) ?_
      refine lv_iconst (v := 0) X.1 X.2.1 dX11_copy_40 (by decide) ?_
      exact ret_z X hw hr hlocks (Nat.le_of_ble_eq_true rfl) (Nat.le_of_ble_eq_true rfl) (by decide) rfl dX11_copy_41
    · have z_9 := trivial
      refine W.eq (g2 := F0 m 12 ls (.null :: [])) rfl ?_
      refine lv_astoreN (lv' := [(7, .null), (6, .null), (0, .ref x), (1, .int (a1)), (2, .int (a2)), (3, .int (a3)), (4, .int (a4)), (5, .int (a5))]) X.1 X.2.1 dX11_copy_12 hl (by decide) rfl (fun ls hl => ?_)
      refine lv_aloadN X.1 X.2.1 dX11_copy_14 (lv_at hl 1 rfl) ?_
      refine lv_ifnullN (tgt := 40) X.1 X.2.1 dX11_copy_16 (by decide) ?_
      refine lv_iconst (v := 0) X.1 X.2.1 dX11_copy_40 (by decide) ?_
      exact ret_z X hw hr hlocks (Nat.le_of_ble_eq_true rfl) (Nat.le_of_ble_eq_true rfl) (by decide) rfl dX11_copy_41
set_option maxHeartbeats 4000000 in
set_option maxRecDepth 100000 in
theorem c_X11_number (l : Launch) (G : va_G) (cy : Nat → ClassId) (S : PS) (sz : Nat) (x : Nat) (a1 : Int32) (a2 : Int32) (hF : FX S x) : Ci l yX11_number wsX11_number ({ frames := 4, cells := 0, slots := 0, locals := 160 }) G cy S sz [.ref x, .int (a1), .int (a2)] (fun (r : Int32) (S9 : PS) => r = -1) := by
  refine ent_m (cc := cX11_number) (maxL := 4) (ret := (some .int)) (by decide) rfl (Nat.le_of_ble_eq_true rfl) ?_
  intro p e s m below meth c ls X hr hlocks hin hw hl hsz
  subst hsz
  have X : Cx p c cX11_number 4 s [.ref x, .int (a1), .int (a2)].toArray wsX11_number RX11 m G cy (AS S s.heap.size) := X
  have hl : lv_has ls 4 [(0, .ref x), (1, .int (a1)), (2, .int (a2))] := hl
  have hF0 := hF
  obtain ⟨hat_x, ci_lots, ci_pots, ci_shv, ⟨cs, rf_cs, hat_cs, ln_cs⟩, ⟨lz, rf_lz, hat_lz, ln_lz⟩, ⟨ps, rf_ps, hat_ps, ln_ps⟩, ⟨tp, rf_tp, hat_tp, ci_tsz, ci_tfp, ⟨tb, rf_tb, hat_tb, ln_tb⟩⟩, ⟨st, rf_st, hat_st, ci_st, ⟨pr, rf_pr, hat_pr, ln_pr⟩, ⟨mx, rf_mx, hat_mx⟩⟩, ⟨dr, rf_dr, hat_dr, ci_dsz⟩, sh, rf_sh, hat_sh, ln_sh, hpl⟩ := hF
  have hF := hF0
  refine lv_aload_n X.1 X.2.1 dX11_number_0 rfl (lv_at hl 0 rfl) ?_
  refine lv_iload_n X.1 X.2.1 dX11_number_1 rfl (lv_at hl 1 rfl) ?_
  refine k_q (rm := { frames := 1, cells := 0, slots := 0, locals := 40 }) (av := [.ref x, .int (a1)]) X hw (va_runV (As := [.int (a1)]) (rest := []) (cfix X) (c_X11_shelfAt l G cy S _ x (a1) hF) (cwV 1 X.2.2.2.1 gX11_number_X11_shelfAt rfl rfl rfl (by decide +kernel) ⟨Nat.le_of_ble_eq_true rfl, Nat.le_of_ble_eq_true rfl⟩) (pre_V X hw _ hat_x (by decide) rfl) rfl rfl hl.1 rfl (lv_room (Nat.le_of_ble_eq_true rfl)) dX11_number_2 ⟨Nat.le_of_ble_eq_true rfl, Nat.le_of_ble_eq_true rfl⟩) 0 0 (Nat.le_of_ble_eq_true rfl) (Nat.le_of_ble_eq_true rfl) (fun rr_2 S2 H locs hp hw hfr hnw => ?_)
  obtain ⟨e2_2, hp⟩ := hp
  subst e2_2
  rcases hp with ⟨b_2, pl_2, er_2, hf_pl_2⟩ | ⟨b_2, er_2⟩ <;> subst er_2
  · have z_2 := trivial
    have hfo_pl_2 := hf_pl_2
    obtain ⟨hat_pl_2, ci300_pl_2, ci301_pl_2, ⟨wd_pl_2, rf_wd_pl_2, hat_wd_pl_2, ln_wd_pl_2⟩⟩ := hf_pl_2
    refine W.eq (g2 := F0 m 5 ls (.ref pl_2 :: [])) rfl ?_
    refine lv_astore_n (lv' := [(3, .ref pl_2), (0, .ref x), (1, .int (a1)), (2, .int (a2))]) X.1 X.2.1 dX11_number_5 rfl hl (by decide) rfl (fun ls hl => ?_)
    refine lv_aload_n X.1 X.2.1 dX11_number_6 rfl (lv_at hl 0 rfl) ?_
    refine lv_ifnull X.1 X.2.1 dX11_number_7 ?_
    refine lv_aload_n X.1 X.2.1 dX11_number_10 rfl (lv_at hl 0 rfl) ?_
    refine k_i (rm := { frames := 1, cells := 0, slots := 0, locals := 40 }) (av := [.ref pl_2]) X hw (va_runV (As := []) (rest := []) (cfix X) (c_X3_hasRow l G cy S _ pl_2 hfo_pl_2) (cwV 0 X.2.2.2.1 gX11_number_X3_hasRow rfl rfl rfl (by decide +kernel) ⟨Nat.le_of_ble_eq_true rfl, Nat.le_of_ble_eq_true rfl⟩) (pre_V X hw _ hat_pl_2 (by decide) rfl) rfl rfl hl.1 rfl (lv_room (Nat.le_of_ble_eq_true rfl)) dX11_number_11 ⟨Nat.le_of_ble_eq_true rfl, Nat.le_of_ble_eq_true rfl⟩) 0 0 (Nat.le_of_ble_eq_true rfl) (Nat.le_of_ble_eq_true rfl) (fun rr_11 S2 H locs hp hw hfr hnw => ?_)
    obtain ⟨e2_11, er_11⟩ := hp
    subst e2_11
    subst er_11
    refine lv_if_eq (tgt := 29) X.1 X.2.1 dX11_number_14 (by decide) (fun c_14 => ?_) (fun c_14 => absurd c_14 (by decide))
    refine lv_iconst (v := (-1)) X.1 X.2.1 dX11_number_29 (by decide) ?_
    exact ret_i X hw hr hlocks (Nat.le_of_ble_eq_true rfl) (Nat.le_of_ble_eq_true rfl) rfl dX11_number_30
  · have z_2 := trivial
    refine W.eq (g2 := F0 m 5 ls (.null :: [])) rfl ?_
    refine lv_astore_nN (lv' := [(3, .null), (0, .ref x), (1, .int (a1)), (2, .int (a2))]) X.1 X.2.1 dX11_number_5 rfl hl (by decide) rfl (fun ls hl => ?_)
    refine lv_aload_nN X.1 X.2.1 dX11_number_6 rfl (lv_at hl 0 rfl) ?_
    refine lv_ifnullN (tgt := 29) X.1 X.2.1 dX11_number_7 (by decide) ?_
    refine lv_iconst (v := (-1)) X.1 X.2.1 dX11_number_29 (by decide) ?_
    exact ret_i X hw hr hlocks (Nat.le_of_ble_eq_true rfl) (Nat.le_of_ble_eq_true rfl) rfl dX11_number_30
set_option maxHeartbeats 4000000 in
set_option maxRecDepth 100000 in
theorem c_X11_price (l : Launch) (G : va_G) (cy : Nat → ClassId) (S : PS) (sz : Nat) (x : Nat) (a1 : Int32) (a2 : Int32) (hF : FX S x) : Ci l yX11_price wsX11_price ({ frames := 4, cells := 0, slots := 0, locals := 160 }) G cy S sz [.ref x, .int (a1), .int (a2)] (fun (r : Int32) (S9 : PS) => r = priV a1 a2) := by
  refine ent_m (cc := cX11_price) (maxL := 3) (ret := (some .boolean)) (by decide) rfl (Nat.le_of_ble_eq_true rfl) ?_
  intro p e s m below meth c ls X hr hlocks hin hw hl hsz
  subst hsz
  have X : Cx p c cX11_price 3 s [.ref x, .int (a1), .int (a2)].toArray wsX11_price RX11 m G cy (AS S s.heap.size) := X
  have hl : lv_has ls 3 [(0, .ref x), (1, .int (a1)), (2, .int (a2))] := hl
  have hF0 := hF
  obtain ⟨hat_x, ci_lots, ci_pots, ci_shv, ⟨cs, rf_cs, hat_cs, ln_cs⟩, ⟨lz, rf_lz, hat_lz, ln_lz⟩, ⟨ps, rf_ps, hat_ps, ln_ps⟩, ⟨tp, rf_tp, hat_tp, ci_tsz, ci_tfp, ⟨tb, rf_tb, hat_tb, ln_tb⟩⟩, ⟨st, rf_st, hat_st, ci_st, ⟨pr, rf_pr, hat_pr, ln_pr⟩, ⟨mx, rf_mx, hat_mx⟩⟩, ⟨dr, rf_dr, hat_dr, ci_dsz⟩, sh, rf_sh, hat_sh, ln_sh, hpl⟩ := hF
  have ci_800 := ci_st 800 (by decide)
  have ci_801 := ci_st 801 (by decide)
  have ci_802 := ci_st 802 (by decide)
  have ci_803 := ci_st 803 (by decide)
  have ci_804 := ci_st 804 (by decide)
  have ci_805 := ci_st 805 (by decide)
  have ci_806 := ci_st 806 (by decide)
  have hF := hF0
  have hFst : StF S st := by obtain ⟨-, -, -, -, -, -, -, -, ⟨t9, h8, h9⟩, -⟩ := hF; rw [h8] at rf_st; cases rf_st; exact h9
  refine lv_iload_n X.1 X.2.1 dX11_price_0 rfl (lv_at hl 1 rfl) ?_
  refine lv_iconst (v := 0) X.1 X.2.1 dX11_price_1 (by decide) ?_
  refine lv_iconst (v := 3) X.1 X.2.1 dX11_price_2 (by decide) ?_
  refine k_i (rm := { frames := 1, cells := 0, slots := 0, locals := 40 }) (av := [.int (a1), .int 0, .int 3]) X hw (va_runS (As := [.int (a1), .int 0, .int 3]) (rest := []) (cfix X) (c_X11_isWithin l G cy S _ (a1) (0) (3)) (cwS 3 X.2.2.2.1 gX11_price_X11_isWithin rfl rfl rfl (by decide +kernel) ⟨Nat.le_of_ble_eq_true rfl, Nat.le_of_ble_eq_true rfl⟩) (pre_S X hw _) rfl rfl hl.1 rfl (lv_room (Nat.le_of_ble_eq_true rfl)) dX11_price_3 ⟨Nat.le_of_ble_eq_true rfl, Nat.le_of_ble_eq_true rfl⟩) 0 0 (Nat.le_of_ble_eq_true rfl) (Nat.le_of_ble_eq_true rfl) (fun rr_3 S2 H locs hp hw hfr hnw => ?_)
  obtain ⟨e2_3, hp⟩ := hp
  subst e2_3
  rcases hp with ⟨b_3, er_3⟩ | ⟨b_3, er_3⟩ <;> subst er_3
  · have z_3 := trivial
    refine lv_if_eq (tgt := 20) X.1 X.2.1 dX11_price_6 (by decide) (fun c_6 => absurd c_6 (by decide)) (fun c_6 => ?_)
    refine lv_iload_n X.1 X.2.1 dX11_price_9 rfl (lv_at hl 2 rfl) ?_
    refine lv_iconst (v := 0) X.1 X.2.1 dX11_price_10 (by decide) ?_
    refine lv_sipush (v := 1000) X.1 X.2.1 dX11_price_11 (by decide) ?_
    refine k_i (rm := { frames := 1, cells := 0, slots := 0, locals := 40 }) (av := [.int (a2), .int 0, .int 1000]) X hw (va_runS (As := [.int (a2), .int 0, .int 1000]) (rest := []) (cfix X) (c_X11_isWithin l G cy S _ (a2) (0) (1000)) (cwS 3 X.2.2.2.1 gX11_price_X11_isWithin rfl rfl rfl (by decide +kernel) ⟨Nat.le_of_ble_eq_true rfl, Nat.le_of_ble_eq_true rfl⟩) (pre_S X hw _) rfl rfl hl.1 rfl (lv_room (Nat.le_of_ble_eq_true rfl)) dX11_price_14 ⟨Nat.le_of_ble_eq_true rfl, Nat.le_of_ble_eq_true rfl⟩) 0 0 (Nat.le_of_ble_eq_true rfl) (Nat.le_of_ble_eq_true rfl) (fun rr_14 S2 H locs hp hw hfr hnw => ?_)
    obtain ⟨e2_14, hp⟩ := hp
    subst e2_14
    rcases hp with ⟨b_14, er_14⟩ | ⟨b_14, er_14⟩ <;> subst er_14
    · have z_14 := trivial
      refine lv_if_ne (tgt := 22) X.1 X.2.1 dX11_price_17 (by decide) (fun c_17 => ?_) (fun c_17 => absurd c_17 (by decide))
      refine lv_aload_n X.1 X.2.1 dX11_price_22 rfl (lv_at hl 0 rfl) ?_
      refine r_getR (g := 1107) X hw hat_x 7 rf_st (by decide) rfl inn_X11_price_11 (by decide) (X.2.2.2.1 (.fieldLink RX11 42 "SilkMill" "store" "LSilkMill$Store;") (by decide +kernel)) rfl (gv_1107 _ _) dX11_price_23 ?_
      refine r_getR (g := 807) X hw hat_st 7 rf_pr (by decide) rfl inn_X11_price_8 (by decide) (X.2.2.2.1 (.fieldLink RX11 339 "SilkMill$Store" "prices" "[I") (by decide +kernel)) rfl (gv_807 _ _) dX11_price_26 ?_
      refine lv_iload_n X.1 X.2.1 dX11_price_29 rfl (lv_at hl 1 rfl) ?_
      refine lv_iload_n X.1 X.2.1 dX11_price_30 rfl (lv_at hl 2 rfl) ?_
      refine r_iast X hw hat_pr (by rw [ln_pr]; exact wi_vp b_3 (by decide)) dX11_price_31 (fun H locs hw => ?_)
      generalize eS_1 : sA S pr (upd (pA S pr) (Int32.toNatClampNeg (a1)) a2) = S_1 at hw
      have hat_x : At S_1 x 11 := by rw [← eS_1]; exact At_sA hat_x
      have hat_st : At S_1 st 8 := by rw [← eS_1]; exact At_sA hat_st
      have hat_pr : At S_1 pr 14 := by rw [← eS_1]; exact At_sA hat_pr
      have rf_st : pR S_1 1107 x = some st := by rw [← eS_1, pR_sA]; exact rf_st
      have rf_pr : pR S_1 807 st = some pr := by rw [← eS_1, pR_sA]; exact rf_pr
      have ci_lots : pI S_1 1102 x = 0 := by rw [← eS_1, pI_sA]; exact ci_lots
      have ci_pots : pI S_1 1104 x = 0 := by rw [← eS_1, pI_sA]; exact ci_pots
      have ci_shv : pI S_1 1110 x = 0 := by rw [← eS_1, pI_sA]; exact ci_shv
      have ci_800 : pI S_1 800 st = 0 := by rw [← eS_1, pI_sA]; exact ci_800
      have ci_801 : pI S_1 801 st = 0 := by rw [← eS_1, pI_sA]; exact ci_801
      have ci_802 : pI S_1 802 st = 0 := by rw [← eS_1, pI_sA]; exact ci_802
      have ci_803 : pI S_1 803 st = 0 := by rw [← eS_1, pI_sA]; exact ci_803
      have ci_804 : pI S_1 804 st = 0 := by rw [← eS_1, pI_sA]; exact ci_804
      have ci_805 : pI S_1 805 st = 0 := by rw [← eS_1, pI_sA]; exact ci_805
      have ci_806 : pI S_1 806 st = 0 := by rw [← eS_1, pI_sA]; exact ci_806
      have ln_pr : pN S_1 pr = 4 := by rw [← eS_1, pN_sA]; exact ln_pr
      refine lv_iconst (v := 1) X.1 X.2.1 dX11_price_32 (by decide) ?_
      exact ret_z X hw hr hlocks (Nat.le_of_ble_eq_true rfl) (Nat.le_of_ble_eq_true rfl) (by decide) (if_pos ⟨b_3, b_14⟩).symm dX11_price_33
    · have z_14 := trivial
      refine lv_if_ne (tgt := 22) X.1 X.2.1 dX11_price_17 (by decide) (fun c_17 => absurd c_17 (by decide)) (fun c_17 => ?_)
      refine lv_iconst (v := 0) X.1 X.2.1 dX11_price_20 (by decide) ?_
      exact ret_z X hw hr hlocks (Nat.le_of_ble_eq_true rfl) (Nat.le_of_ble_eq_true rfl) (by decide) (if_neg (fun h => b_14 h.2)).symm dX11_price_21
  · have z_3 := trivial
    refine lv_if_eq (tgt := 20) X.1 X.2.1 dX11_price_6 (by decide) (fun c_6 => ?_) (fun c_6 => absurd c_6 (by decide))
    refine lv_iconst (v := 0) X.1 X.2.1 dX11_price_20 (by decide) ?_
    exact ret_z X hw hr hlocks (Nat.le_of_ble_eq_true rfl) (Nat.le_of_ble_eq_true rfl) (by decide) (if_neg (fun h => b_3 h.1)).symm dX11_price_21
