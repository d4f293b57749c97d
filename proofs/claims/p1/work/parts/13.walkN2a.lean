set_option maxHeartbeats 4000000 in
set_option maxRecDepth 100000 in
theorem c_X12_isCocoon (l : Launch) (G : va_G) (cy : Nat → ClassId) (S : PS) (sz : Nat) (mo : Nat) (a1 : Int32) (a2 : Int32) (hat_mo : At S mo 12) (ci_1201 : pI S 1201 mo = 0) : Ci l yX12_isCocoon wsX12_isCocoon ({ frames := 3, cells := 0, slots := 0, locals := 120 }) G cy S sz [.ref mo, .int (a1), .int (a2)] (fun (r : Int32) (S9 : PS) => S = S9 ∧ r = 0) := by
  refine ent_m (cc := cX12_isCocoon) (maxL := 3) (ret := (some .boolean)) (by decide) rfl (Nat.le_of_ble_eq_true rfl) ?_
  intro p e s m below meth c ls X hr hlocks hin hw hl hsz
  subst hsz
  have X : Cx p c cX12_isCocoon 3 s [.ref mo, .int (a1), .int (a2)].toArray wsX12_isCocoon RX12 m G cy (AS S s.heap.size) := X
  have hl : lv_has ls 3 [(0, .ref mo), (1, .int (a1)), (2, .int (a2))] := hl
  refine lv_iload_n X.1 X.2.1 dX12_isCocoon_0 rfl (lv_at hl 1 rfl) ?_
  refine lv_iconst (v := 0) X.1 X.2.1 dX12_isCocoon_1 (by decide) ?_
  refine lv_aload_n X.1 X.2.1 dX12_isCocoon_2 rfl (lv_at hl 0 rfl) ?_
  refine r_get (v := .int 0) X hw hat_mo 1 (by decide) rfl inn_X12_isCocoon_12 (by decide) (X.2.2.2.1 (.fieldLink RX12 165 "SilkMillModel" "lots" "I") (by decide +kernel)) rfl ((gv_1201 _ _).trans (congrArg (fun z => some (Value.int z)) ci_1201)) dX12_isCocoon_3 ?_
  refine lv_iconst (v := 1) X.1 X.2.1 dX12_isCocoon_6 (by decide) ?_
  refine lv_isub X.1 X.2.1 dX12_isCocoon_7 ?_
  refine lv_topi (fun v_1 ev_1 => ?_)
  obtain rfl : v_1 = (-1) := ev_1.trans (by decide +kernel)
  refine k_i (rm := { frames := 1, cells := 0, slots := 0, locals := 40 }) (av := [.int (a1), .int 0, .int (-1)]) X hw (va_runS (As := [.int (a1), .int 0, .int (-1)]) (rest := []) (cfix X) (c_X12_within l G cy S _ (a1) (0) ((-1))) (cwS 3 X.2.2.2.1 gX12_isCocoon_X12_within rfl rfl rfl (by decide +kernel) ⟨Nat.le_of_ble_eq_true rfl, Nat.le_of_ble_eq_true rfl⟩) (pre_S X hw _) rfl rfl hl.1 rfl (lv_room (Nat.le_of_ble_eq_true rfl)) dX12_isCocoon_8 ⟨Nat.le_of_ble_eq_true rfl, Nat.le_of_ble_eq_true rfl⟩) 0 0 (Nat.le_of_ble_eq_true rfl) (Nat.le_of_ble_eq_true rfl) (fun rr_8 S2 H locs hp hw hfr hnw => ?_)
  obtain ⟨e2_8, hp⟩ := hp
  subst e2_8
  rcases hp with ⟨b_8, er_8⟩ | ⟨b_8, er_8⟩
  · exact absurd b_8 (wi_nn _)
  subst er_8
  refine lv_if_eq (tgt := 34) X.1 X.2.1 dX12_isCocoon_11 (by decide) (fun c_11 => ?_) (fun c_11 => absurd c_11 (by decide))
  refine lv_iconst (v := 0) X.1 X.2.1 dX12_isCocoon_34 (by decide) ?_
  exact ret_z X hw hr hlocks (Nat.le_of_ble_eq_true rfl) (Nat.le_of_ble_eq_true rfl) (by decide) ⟨rfl, rfl⟩ dX12_isCocoon_35
set_option maxHeartbeats 4000000 in
set_option maxRecDepth 100000 in
theorem c_X12_isPot (l : Launch) (G : va_G) (cy : Nat → ClassId) (S : PS) (sz : Nat) (mo : Nat) (a1 : Int32) (hat_mo : At S mo 12) (ci_1211 : pI S 1211 mo = 0) : Ci l yX12_isPot wsX12_isPot ({ frames := 3, cells := 0, slots := 0, locals := 120 }) G cy S sz [.ref mo, .int (a1)] (fun (r : Int32) (S9 : PS) => S = S9 ∧ r = 0) := by
  refine ent_m (cc := cX12_isPot) (maxL := 2) (ret := (some .boolean)) (by decide) rfl (Nat.le_of_ble_eq_true rfl) ?_
  intro p e s m below meth c ls X hr hlocks hin hw hl hsz
  subst hsz
  have X : Cx p c cX12_isPot 2 s [.ref mo, .int (a1)].toArray wsX12_isPot RX12 m G cy (AS S s.heap.size) := X
  have hl : lv_has ls 2 [(0, .ref mo), (1, .int (a1))] := hl
  refine lv_iload_n X.1 X.2.1 dX12_isPot_0 rfl (lv_at hl 1 rfl) ?_
  refine lv_iconst (v := 0) X.1 X.2.1 dX12_isPot_1 (by decide) ?_
  refine lv_aload_n X.1 X.2.1 dX12_isPot_2 rfl (lv_at hl 0 rfl) ?_
  refine r_get (v := .int 0) X hw hat_mo 11 (by decide) rfl inn_X12_isPot_12 (by decide) (X.2.2.2.1 (.fieldLink RX12 197 "SilkMillModel" "pots" "I") (by decide +kernel)) rfl ((gv_1211 _ _).trans (congrArg (fun z => some (Value.int z)) ci_1211)) dX12_isPot_3 ?_
  refine lv_iconst (v := 1) X.1 X.2.1 dX12_isPot_6 (by decide) ?_
  refine lv_isub X.1 X.2.1 dX12_isPot_7 ?_
  refine lv_topi (fun v_1 ev_1 => ?_)
  obtain rfl : v_1 = (-1) := ev_1.trans (by decide +kernel)
  refine k_i (rm := { frames := 1, cells := 0, slots := 0, locals := 40 }) (av := [.int (a1), .int 0, .int (-1)]) X hw (va_runS (As := [.int (a1), .int 0, .int (-1)]) (rest := []) (cfix X) (c_X12_within l G cy S _ (a1) (0) ((-1))) (cwS 3 X.2.2.2.1 gX12_isPot_X12_within rfl rfl rfl (by decide +kernel) ⟨Nat.le_of_ble_eq_true rfl, Nat.le_of_ble_eq_true rfl⟩) (pre_S X hw _) rfl rfl hl.1 rfl (lv_room (Nat.le_of_ble_eq_true rfl)) dX12_isPot_8 ⟨Nat.le_of_ble_eq_true rfl, Nat.le_of_ble_eq_true rfl⟩) 0 0 (Nat.le_of_ble_eq_true rfl) (Nat.le_of_ble_eq_true rfl) (fun rr_8 S2 H locs hp hw hfr hnw => ?_)
  obtain ⟨e2_8, hp⟩ := hp
  subst e2_8
  rcases hp with ⟨b_8, er_8⟩ | ⟨b_8, er_8⟩
  · exact absurd b_8 (wi_nn _)
  subst er_8
  exact ret_z X hw hr hlocks (Nat.le_of_ble_eq_true rfl) (Nat.le_of_ble_eq_true rfl) (by decide) ⟨rfl, rfl⟩ dX12_isPot_11
set_option maxHeartbeats 4000000 in
set_option maxRecDepth 100000 in
theorem c_X12_isSkein (l : Launch) (G : va_G) (cy : Nat → ClassId) (S : PS) (sz : Nat) (mo : Nat) (a1 : Int32) (hat_mo : At S mo 12) (ci_1238 : pI S 1238 mo = 0) : Ci l yX12_isSkein wsX12_isSkein ({ frames := 3, cells := 0, slots := 0, locals := 120 }) G cy S sz [.ref mo, .int (a1)] (fun (r : Int32) (S9 : PS) => S = S9 ∧ r = 0) := by
  refine ent_m (cc := cX12_isSkein) (maxL := 2) (ret := (some .boolean)) (by decide) rfl (Nat.le_of_ble_eq_true rfl) ?_
  intro p e s m below meth c ls X hr hlocks hin hw hl hsz
  subst hsz
  have X : Cx p c cX12_isSkein 2 s [.ref mo, .int (a1)].toArray wsX12_isSkein RX12 m G cy (AS S s.heap.size) := X
  have hl : lv_has ls 2 [(0, .ref mo), (1, .int (a1))] := hl
  refine lv_iload_n X.1 X.2.1 dX12_isSkein_0 rfl (lv_at hl 1 rfl) ?_
  refine lv_iconst (v := 0) X.1 X.2.1 dX12_isSkein_1 (by decide) ?_
  refine lv_aload_n X.1 X.2.1 dX12_isSkein_2 rfl (lv_at hl 0 rfl) ?_
  refine r_get (v := .int 0) X hw hat_mo 38 (by decide) rfl inn_X12_isSkein_12 (by decide) (X.2.2.2.1 (.fieldLink RX12 290 "SilkMillModel" "skeins" "I") (by decide +kernel)) rfl ((gv_1238 _ _).trans (congrArg (fun z => some (Value.int z)) ci_1238)) dX12_isSkein_3 ?_
  refine lv_iconst (v := 1) X.1 X.2.1 dX12_isSkein_6 (by decide) ?_
  refine lv_isub X.1 X.2.1 dX12_isSkein_7 ?_
  refine lv_topi (fun v_1 ev_1 => ?_)
  obtain rfl : v_1 = (-1) := ev_1.trans (by decide +kernel)
  refine k_i (rm := { frames := 1, cells := 0, slots := 0, locals := 40 }) (av := [.int (a1), .int 0, .int (-1)]) X hw (va_runS (As := [.int (a1), .int 0, .int (-1)]) (rest := []) (cfix X) (c_X12_within l G cy S _ (a1) (0) ((-1))) (cwS 3 X.2.2.2.1 gX12_isSkein_X12_within rfl rfl rfl (by decide +kernel) ⟨Nat.le_of_ble_eq_true rfl, Nat.le_of_ble_eq_true rfl⟩) (pre_S X hw _) rfl rfl hl.1 rfl (lv_room (Nat.le_of_ble_eq_true rfl)) dX12_isSkein_8 ⟨Nat.le_of_ble_eq_true rfl, Nat.le_of_ble_eq_true rfl⟩) 0 0 (Nat.le_of_ble_eq_true rfl) (Nat.le_of_ble_eq_true rfl) (fun rr_8 S2 H locs hp hw hfr hnw => ?_)
  obtain ⟨e2_8, hp⟩ := hp
  subst e2_8
  rcases hp with ⟨b_8, er_8⟩ | ⟨b_8, er_8⟩
  · exact absurd b_8 (wi_nn _)
  subst er_8
  exact ret_z X hw hr hlocks (Nat.le_of_ble_eq_true rfl) (Nat.le_of_ble_eq_true rfl) (by decide) ⟨rfl, rfl⟩ dX12_isSkein_11
set_option maxHeartbeats 4000000 in
set_option maxRecDepth 100000 in
theorem c_X12_isWord (l : Launch) (G : va_G) (cy : Nat → ClassId) (S : PS) (sz : Nat) (mo : Nat) (a1 : Int32) (hat_mo : At S mo 12)  (il : Nat) (rf_il : pR S 1253 mo = some il) (hat_il : At S il 15) (ln_il : pN S il = 16) (hz : ∀ j, pA S il j = 0) : Ci l yX12_isWord wsX12_isWord ({ frames := 3, cells := 0, slots := 0, locals := 120 }) G cy S sz [.ref mo, .int (a1)] (fun (r : Int32) (S9 : PS) => S = S9 ∧ r = 0) := by
  refine ent_m (cc := cX12_isWord) (maxL := 2) (ret := (some .boolean)) (by decide) rfl (Nat.le_of_ble_eq_true rfl) ?_
  intro p e s m below meth c ls X hr hlocks hin hw hl hsz
  subst hsz
  have X : Cx p c cX12_isWord 2 s [.ref mo, .int (a1)].toArray wsX12_isWord RX12 m G cy (AS S s.heap.size) := X
  have hl : lv_has ls 2 [(0, .ref mo), (1, .int (a1))] := hl
  refine lv_iload_n X.1 X.2.1 dX12_isWord_0 rfl (lv_at hl 1 rfl) ?_
  refine lv_iconst (v := 0) X.1 X.2.1 dX12_isWord_1 (by decide) ?_
  refine lv_bipush (v := 15) X.1 X.2.1 dX12_isWord_2 (by decide) ?_
  refine k_i (rm := { frames := 1, cells := 0, slots := 0, locals := 40 }) (av := [.int (a1), .int 0, .int 15]) X hw (va_runS (As := [.int (a1), .int 0, .int 15]) (rest := []) (cfix X) (c_X12_within l G cy S _ (a1) (0) (15)) (cwS 3 X.2.2.2.1 gX12_isWord_X12_within rfl rfl rfl (by decide +kernel) ⟨Nat.le_of_ble_eq_true rfl, Nat.le_of_ble_eq_true rfl⟩) (pre_S X hw _) rfl rfl hl.1 rfl (lv_room (Nat.le_of_ble_eq_true rfl)) dX12_isWord_4 ⟨Nat.le_of_ble_eq_true rfl, Nat.le_of_ble_eq_true rfl⟩) 0 0 (Nat.le_of_ble_eq_true rfl) (Nat.le_of_ble_eq_true rfl) (fun rr_4 S2 H locs hp hw hfr hnw => ?_)
  obtain ⟨e2_4, hp⟩ := hp
  subst e2_4
  rcases hp with ⟨b_4, er_4⟩ | ⟨b_4, er_4⟩ <;> subst er_4
  · have z_4 := trivial
    refine lv_if_eq (tgt := 42) X.1 X.2.1 dX12_isWord_7 (by decide) (fun c_7 => absurd c_7 (by decide)) (fun c_7 => ?_)
    refine lv_aload_n X.1 X.2.1 dX12_isWord_10 rfl (lv_at hl 0 rfl) ?_
    refine r_getR (g := 1253) X hw hat_mo 53 rf_il (by decide) rfl inn_X12_isWord_12 (by decide) (X.2.2.2.1 (.fieldLink RX12 125 "SilkMillModel" "isLaid" "[Z") (by decide +kernel)) rfl (gv_1253 _ _) dX12_isWord_11 ?_
    refine lv_iload_n X.1 X.2.1 dX12_isWord_14 rfl (lv_at hl 1 rfl) ?_
    refine r_zald X hw hat_il (by rw [ln_il]; exact wi_vp b_4 (by decide)) dX12_isWord_15 ?_
    refine lv_topi (fun v_1 ev_1 => ?_)
    obtain rfl : v_1 = 0 := ev_1.trans (hz _)
    refine lv_if_eq (tgt := 42) X.1 X.2.1 dX12_isWord_16 (by decide) (fun c_16 => ?_) (fun c_16 => absurd c_16 (by decide))
    refine lv_iconst (v := 0) X.1 X.2.1 dX12_isWord_42 (by decide) ?_
    exact ret_z X hw hr hlocks (Nat.le_of_ble_eq_true rfl) (Nat.le_of_ble_eq_true rfl) (by decide) ⟨rfl, rfl⟩ dX12_isWord_43
  · have z_4 := trivial
    refine lv_if_eq (tgt := 42) X.1 X.2.1 dX12_isWord_7 (by decide) (fun c_7 => ?_) (fun c_7 => absurd c_7 (by decide))
    refine lv_iconst (v := 0) X.1 X.2.1 dX12_isWord_42 (by decide) ?_
    exact ret_z X hw hr hlocks (Nat.le_of_ble_eq_true rfl) (Nat.le_of_ble_eq_true rfl) (by decide) ⟨rfl, rfl⟩ dX12_isWord_43
set_option maxHeartbeats 4000000 in
set_option maxRecDepth 100000 in
theorem c_X12_cocoon (l : Launch) (G : va_G) (cy : Nat → ClassId) (S : PS) (sz : Nat) (mo : Nat) (a1 : Int32) (a2 : Int32) (a3 : Int32) (hF : FM S mo) : Ci l yX12_cocoon wsX12_cocoon ({ frames := 5, cells := 0, slots := 0, locals := 200 }) G cy S sz [.ref mo, .int (a1), .int (a2), .int (a3)] (fun (r : Int32) (S9 : PS) => r = -1) := by
  refine ent_m (cc := cX12_cocoon) (maxL := 5) (ret := (some .int)) (by decide) rfl (Nat.le_of_ble_eq_true rfl) ?_
  intro p e s m below meth c ls X hr hlocks hin hw hl hsz
  subst hsz
  have X : Cx p c cX12_cocoon 5 s [.ref mo, .int (a1), .int (a2), .int (a3)].toArray wsX12_cocoon RX12 m G cy (AS S s.heap.size) := X
  have hl : lv_has ls 5 [(0, .ref mo), (1, .int (a1)), (2, .int (a2)), (3, .int (a3))] := hl
  obtain ⟨hat_mo, hci, ci_1229, hars, hz53, hz39⟩ := hF
  have ci_1201 := hci 1201 (by decide)
  refine lv_aload_n X.1 X.2.1 dX12_cocoon_0 rfl (lv_at hl 0 rfl) ?_
  refine lv_iconst (v := 0) X.1 X.2.1 dX12_cocoon_1 (by decide) ?_
  refine r_putI (v := 0) X hw hat_mo 0 1200 tyX12 (by decide) rfl inn_X12_cocoon_12 tyX12_ok nmX12 (by decide) (X.2.2.2.1 (.fieldLink RX12 161 "SilkMillModel" "thrown" "I") (by decide +kernel)) rfl (Or.inl rfl) rfl rfl (Nat.le_of_ble_eq_true rfl) (st_1200 _ _) dX12_cocoon_2 (fun H locs hw => ?_)
  generalize eS_1 : sI S 1200 mo 0 = S_1 at hw
  have hat_mo : At S_1 mo 12 := by rw [← eS_1]; exact At_sI hat_mo
  have ci_1201 : pI S_1 1201 mo = 0 := by rw [← eS_1]; exact (pI_sI_nf (by decide)).trans ci_1201
  have hc_2 : pI S_1 1200 mo = 0 := by rw [← eS_1]; exact pI_sI_same
  refine lv_aload_n X.1 X.2.1 dX12_cocoon_5 rfl (lv_at hl 0 rfl) ?_
  refine lv_iload_n X.1 X.2.1 dX12_cocoon_6 rfl (lv_at hl 1 rfl) ?_
  refine lv_iload_n X.1 X.2.1 dX12_cocoon_7 rfl (lv_at hl 2 rfl) ?_
  refine k_i (rm := { frames := 3, cells := 0, slots := 0, locals := 120 }) (av := [.ref mo, .int (a1), .int (a2)]) X hw (va_runV (As := [.int (a1), .int (a2)]) (rest := []) (cfix X) (c_X12_isCocoon l G cy S_1 _ mo (a1) (a2) hat_mo ci_1201) (cwV 2 X.2.2.2.1 gX12_cocoon_X12_isCocoon rfl rfl rfl (by decide +kernel) ⟨Nat.le_of_ble_eq_true rfl, Nat.le_of_ble_eq_true rfl⟩) (pre_V X hw _ hat_mo (by decide) rfl) rfl rfl hl.1 rfl (lv_room (Nat.le_of_ble_eq_true rfl)) dX12_cocoon_8 ⟨Nat.le_of_ble_eq_true rfl, Nat.le_of_ble_eq_true rfl⟩) 0 0 (Nat.le_of_ble_eq_true rfl) (Nat.le_of_ble_eq_true rfl) (fun rr_8 S2 H locs hp hw hfr hnw => ?_)
  obtain ⟨e2_8, er_8⟩ := hp
  subst e2_8
  subst er_8
  refine lv_if_ne (tgt := 16) X.1 X.2.1 dX12_cocoon_11 (by decide) (fun c_11 => absurd c_11 (by decide)) (fun c_11 => ?_)
  refine lv_iconst (v := (-1)) X.1 X.2.1 dX12_cocoon_14 (by decide) ?_
  exact ret_i X hw hr hlocks (Nat.le_of_ble_eq_true rfl) (Nat.le_of_ble_eq_true rfl) rfl dX12_cocoon_15
set_option maxHeartbeats 4000000 in
set_option maxRecDepth 100000 in
theorem c_X12_fineness (l : Launch) (G : va_G) (cy : Nat → ClassId) (S : PS) (sz : Nat) (mo : Nat) (a1 : Int32) (a2 : Int32) (a3 : Int32) (hF : FM S mo) : Ci l yX12_fineness wsX12_fineness ({ frames := 5, cells := 0, slots := 0, locals := 200 }) G cy S sz [.ref mo, .int (a1), .int (a2), .int (a3)] (fun (r : Int32) (S9 : PS) => r = 0 ∧ At S9 mo 12 ∧ pI S9 1200 mo = 1) := by
  refine ent_m (cc := cX12_fineness) (maxL := 5) (ret := (some .int)) (by decide) rfl (Nat.le_of_ble_eq_true rfl) ?_
  intro p e s m below meth c ls X hr hlocks hin hw hl hsz
  subst hsz
  have X : Cx p c cX12_fineness 5 s [.ref mo, .int (a1), .int (a2), .int (a3)].toArray wsX12_fineness RX12 m G cy (AS S s.heap.size) := X
  have hl : lv_has ls 5 [(0, .ref mo), (1, .int (a1)), (2, .int (a2)), (3, .int (a3))] := hl
  obtain ⟨hat_mo, hci, ci_1229, hars, hz53, hz39⟩ := hF
  have ci_1201 := hci 1201 (by decide)
  refine lv_aload_n X.1 X.2.1 dX12_fineness_0 rfl (lv_at hl 0 rfl) ?_
  refine lv_iload_n X.1 X.2.1 dX12_fineness_1 rfl (lv_at hl 1 rfl) ?_
  refine lv_iload_n X.1 X.2.1 dX12_fineness_2 rfl (lv_at hl 2 rfl) ?_
  refine k_i (rm := { frames := 3, cells := 0, slots := 0, locals := 120 }) (av := [.ref mo, .int (a1), .int (a2)]) X hw (va_runV (As := [.int (a1), .int (a2)]) (rest := []) (cfix X) (c_X12_isCocoon l G cy S _ mo (a1) (a2) hat_mo ci_1201) (cwV 2 X.2.2.2.1 gX12_fineness_X12_isCocoon rfl rfl rfl (by decide +kernel) ⟨Nat.le_of_ble_eq_true rfl, Nat.le_of_ble_eq_true rfl⟩) (pre_V X hw _ hat_mo (by decide) rfl) rfl rfl hl.1 rfl (lv_room (Nat.le_of_ble_eq_true rfl)) dX12_fineness_3 ⟨Nat.le_of_ble_eq_true rfl, Nat.le_of_ble_eq_true rfl⟩) 0 0 (Nat.le_of_ble_eq_true rfl) (Nat.le_of_ble_eq_true rfl) (fun rr_3 S2 H locs hp hw hfr hnw => ?_)
  obtain ⟨e2_3, er_3⟩ := hp
  subst e2_3
  subst er_3
  refine lv_if_eq (tgt := 33) X.1 X.2.1 dX12_fineness_6 (by decide) (fun c_6 => ?_) (fun c_6 => absurd c_6 (by decide))
  refine lv_iconst (v := 0) X.1 X.2.1 dX12_fineness_33 (by decide) ?_
  refine lv_istore (lv' := [(4, .int 0), (0, .ref mo), (1, .int (a1)), (2, .int (a2)), (3, .int (a3))]) X.1 X.2.1 dX12_fineness_34 hl (by decide) rfl (fun ls hl => ?_)
  refine lv_aload_n X.1 X.2.1 dX12_fineness_36 rfl (lv_at hl 1 rfl) ?_
  refine lv_iload X.1 X.2.1 dX12_fineness_37 (lv_at hl 0 rfl) ?_
  refine lv_if_eq (tgt := 46) X.1 X.2.1 dX12_fineness_39 (by decide) (fun c_39 => ?_) (fun c_39 => absurd c_39 (by decide))
  refine lv_iconst (v := 1) X.1 X.2.1 dX12_fineness_46 (by decide) ?_
  refine r_putI (v := 1) X hw hat_mo 0 1200 tyX12 (by decide) rfl inn_X12_fineness_12 tyX12_ok nmX12 (by decide) (X.2.2.2.1 (.fieldLink RX12 161 "SilkMillModel" "thrown" "I") (by decide +kernel)) rfl (Or.inl rfl) rfl rfl (Nat.le_of_ble_eq_true rfl) (st_1200 _ _) dX12_fineness_47 (fun H locs hw => ?_)
  generalize eS_1 : sI S 1200 mo 1 = S_1 at hw
  have hat_mo : At S_1 mo 12 := by rw [← eS_1]; exact At_sI hat_mo
  have ci_1201 : pI S_1 1201 mo = 0 := by rw [← eS_1]; exact (pI_sI_nf (by decide)).trans ci_1201
  have hc_2 : pI S_1 1200 mo = 1 := by rw [← eS_1]; exact pI_sI_same
  refine lv_iload X.1 X.2.1 dX12_fineness_50 (lv_at hl 0 rfl) ?_
  refine lv_if_eq (tgt := 69) X.1 X.2.1 dX12_fineness_52 (by decide) (fun c_52 => ?_) (fun c_52 => absurd c_52 (by decide))
  refine lv_iconst (v := 0) X.1 X.2.1 dX12_fineness_69 (by decide) ?_
  exact ret_i X hw hr hlocks (Nat.le_of_ble_eq_true rfl) (Nat.le_of_ble_eq_true rfl) ⟨rfl, hat_mo, hc_2⟩ dX12_fineness_70
set_option maxHeartbeats 4000000 in
set_option maxRecDepth 100000 in
theorem c_X12_in (l : Launch) (G : va_G) (cy : Nat → ClassId) (S : PS) (sz : Nat) (mo : Nat) (a1 : Int32) (a2 : Int32) (a3 : Int32) (hF : FM S mo) : Ci l yX12_in wsX12_in ({ frames := 5, cells := 0, slots := 0, locals := 200 }) G cy S sz [.ref mo, .int (a1), .int (a2), .int (a3)] (fun (r : Int32) (S9 : PS) => r = 0 ∧ At S9 mo 12 ∧ pI S9 1200 mo = 1) := by
  refine ent_m (cc := cX12_in) (maxL := 5) (ret := (some .int)) (by decide) rfl (Nat.le_of_ble_eq_true rfl) ?_
  intro p e s m below meth c ls X hr hlocks hin hw hl hsz
  subst hsz
  have X : Cx p c cX12_in 5 s [.ref mo, .int (a1), .int (a2), .int (a3)].toArray wsX12_in RX12 m G cy (AS S s.heap.size) := X
  have hl : lv_has ls 5 [(0, .ref mo), (1, .int (a1)), (2, .int (a2)), (3, .int (a3))] := hl
  obtain ⟨hat_mo, hci, ci_1229, hars, hz53, hz39⟩ := hF
  have ci_1211 := hci 1211 (by decide)
  refine lv_aload_n X.1 X.2.1 dX12_in_0 rfl (lv_at hl 0 rfl) ?_
  refine lv_iload_n X.1 X.2.1 dX12_in_1 rfl (lv_at hl 1 rfl) ?_
  refine k_i (rm := { frames := 3, cells := 0, slots := 0, locals := 120 }) (av := [.ref mo, .int (a1)]) X hw (va_runV (As := [.int (a1)]) (rest := []) (cfix X) (c_X12_isPot l G cy S _ mo (a1) hat_mo ci_1211) (cwV 1 X.2.2.2.1 gX12_in_X12_isPot rfl rfl rfl (by decide +kernel) ⟨Nat.le_of_ble_eq_true rfl, Nat.le_of_ble_eq_true rfl⟩) (pre_V X hw _ hat_mo (by decide) rfl) rfl rfl hl.1 rfl (lv_room (Nat.le_of_ble_eq_true rfl)) dX12_in_2 ⟨Nat.le_of_ble_eq_true rfl, Nat.le_of_ble_eq_true rfl⟩) 0 0 (Nat.le_of_ble_eq_true rfl) (Nat.le_of_ble_eq_true rfl) (fun rr_2 S2 H locs hp hw hfr hnw => ?_)
  obtain ⟨e2_2, er_2⟩ := hp
  subst e2_2
  subst er_2
  refine lv_if_eq (tgt := 37) X.1 X.2.1 dX12_in_5 (by decide) (fun c_5 => ?_) (fun c_5 => absurd c_5 (by decide))
  refine lv_iconst (v := 0) X.1 X.2.1 dX12_in_37 (by decide) ?_
  refine lv_istore (lv' := [(4, .int 0), (0, .ref mo), (1, .int (a1)), (2, .int (a2)), (3, .int (a3))]) X.1 X.2.1 dX12_in_38 hl (by decide) rfl (fun ls hl => ?_)
  refine lv_aload_n X.1 X.2.1 dX12_in_40 rfl (lv_at hl 1 rfl) ?_
  refine lv_iload X.1 X.2.1 dX12_in_41 (lv_at hl 0 rfl) ?_
  refine lv_if_eq (tgt := 50) X.1 X.2.1 dX12_in_43 (by decide) (fun c_43 => ?_) (fun c_43 => absurd c_43 (by decide))
  refine lv_iconst (v := 1) X.1 X.2.1 dX12_in_50 (by decide) ?_
  refine r_putI (v := 1) X hw hat_mo 0 1200 tyX12 (by decide) rfl inn_X12_in_12 tyX12_ok nmX12 (by decide) (X.2.2.2.1 (.fieldLink RX12 161 "SilkMillModel" "thrown" "I") (by decide +kernel)) rfl (Or.inl rfl) rfl rfl (Nat.le_of_ble_eq_true rfl) (st_1200 _ _) dX12_in_51 (fun H locs hw => ?_)
  generalize eS_1 : sI S 1200 mo 1 = S_1 at hw
  have hat_mo : At S_1 mo 12 := by rw [← eS_1]; exact At_sI hat_mo
  have ci_1211 : pI S_1 1211 mo = 0 := by rw [← eS_1]; exact (pI_sI_nf (by decide)).trans ci_1211
  have hc_2 : pI S_1 1200 mo = 1 := by rw [← eS_1]; exact pI_sI_same
  refine lv_iload X.1 X.2.1 dX12_in_54 (lv_at hl 0 rfl) ?_
  refine lv_if_eq (tgt := 86) X.1 X.2.1 dX12_in_56 (by decide) (fun c_56 => ?_) (fun c_56 => absurd c_56 (by decide))
  refine lv_iconst (v := 0) X.1 X.2.1 dX12_in_86 (by decide) ?_
  exact ret_i X hw hr hlocks (Nat.le_of_ble_eq_true rfl) (Nat.le_of_ble_eq_true rfl) ⟨rfl, hat_mo, hc_2⟩ dX12_in_87
set_option maxHeartbeats 4000000 in
set_option maxRecDepth 100000 in
theorem c_X12_test (l : Launch) (G : va_G) (cy : Nat → ClassId) (S : PS) (sz : Nat) (mo : Nat) (a1 : Int32) (a2 : Int32) (a3 : Int32) (hF : FM S mo) : Ci l yX12_test wsX12_test ({ frames := 5, cells := 0, slots := 0, locals := 200 }) G cy S sz [.ref mo, .int (a1), .int (a2), .int (a3)] (fun (r : Int32) (S9 : PS) => r = -1) := by
  refine ent_m (cc := cX12_test) (maxL := 13) (ret := (some .int)) (by decide) rfl (Nat.le_of_ble_eq_true rfl) ?_
  intro p e s m below meth c ls X hr hlocks hin hw hl hsz
  subst hsz
  have X : Cx p c cX12_test 13 s [.ref mo, .int (a1), .int (a2), .int (a3)].toArray wsX12_test RX12 m G cy (AS S s.heap.size) := X
  have hl : lv_has ls 13 [(0, .ref mo), (1, .int (a1)), (2, .int (a2)), (3, .int (a3))] := hl
  obtain ⟨hat_mo, hci, ci_1229, hars, hz53, hz39⟩ := hF
  have ci_1201 := hci 1201 (by decide)
  refine lv_aload_n X.1 X.2.1 dX12_test_0 rfl (lv_at hl 0 rfl) ?_
  refine lv_iconst (v := 0) X.1 X.2.1 dX12_test_1 (by decide) ?_
  refine r_putI (v := 0) X hw hat_mo 0 1200 tyX12 (by decide) rfl inn_X12_test_12 tyX12_ok nmX12 (by decide) (X.2.2.2.1 (.fieldLink RX12 161 "SilkMillModel" "thrown" "I") (by decide +kernel)) rfl (Or.inl rfl) rfl rfl (Nat.le_of_ble_eq_true rfl) (st_1200 _ _) dX12_test_2 (fun H locs hw => ?_)
  generalize eS_1 : sI S 1200 mo 0 = S_1 at hw
  have hat_mo : At S_1 mo 12 := by rw [← eS_1]; exact At_sI hat_mo
  have ci_1201 : pI S_1 1201 mo = 0 := by rw [← eS_1]; exact (pI_sI_nf (by decide)).trans ci_1201
  have hc_2 : pI S_1 1200 mo = 0 := by rw [← eS_1]; exact pI_sI_same
  refine lv_iload_n X.1 X.2.1 dX12_test_5 rfl (lv_at hl 1 rfl) ?_
  refine lv_iconst (v := 0) X.1 X.2.1 dX12_test_6 (by decide) ?_
  refine lv_aload_n X.1 X.2.1 dX12_test_7 rfl (lv_at hl 0 rfl) ?_
  refine r_get (v := .int 0) X hw hat_mo 1 (by decide) rfl inn_X12_test_12 (by decide) (X.2.2.2.1 (.fieldLink RX12 165 "SilkMillModel" "lots" "I") (by decide +kernel)) rfl ((gv_1201 _ _).trans (congrArg (fun z => some (Value.int z)) ci_1201)) dX12_test_8 ?_
  refine lv_iconst (v := 1) X.1 X.2.1 dX12_test_11 (by decide) ?_
  refine lv_isub X.1 X.2.1 dX12_test_12 ?_
  refine lv_topi (fun v_3 ev_3 => ?_)
  obtain rfl : v_3 = (-1) := ev_3.trans (by decide +kernel)
  refine k_i (rm := { frames := 1, cells := 0, slots := 0, locals := 40 }) (av := [.int (a1), .int 0, .int (-1)]) X hw (va_runS (As := [.int (a1), .int 0, .int (-1)]) (rest := []) (cfix X) (c_X12_within l G cy S_1 _ (a1) (0) ((-1))) (cwS 3 X.2.2.2.1 gX12_test_X12_within rfl rfl rfl (by decide +kernel) ⟨Nat.le_of_ble_eq_true rfl, Nat.le_of_ble_eq_true rfl⟩) (pre_S X hw _) rfl rfl hl.1 rfl (lv_room (Nat.le_of_ble_eq_true rfl)) dX12_test_13 ⟨Nat.le_of_ble_eq_true rfl, Nat.le_of_ble_eq_true rfl⟩) 0 0 (Nat.le_of_ble_eq_true rfl) (Nat.le_of_ble_eq_true rfl) (fun rr_13 S2 H locs hp hw hfr hnw => ?_)
  obtain ⟨e2_13, hp⟩ := hp
  subst e2_13
  rcases hp with ⟨b_13, er_13⟩ | ⟨b_13, er_13⟩
  · exact absurd b_13 (wi_nn _)
  subst er_13
  refine lv_if_ne (tgt := 21) X.1 X.2.1 dX12_test_16 (by decide) (fun c_16 => absurd c_16 (by decide)) (fun c_16 => ?_)
  refine lv_iconst (v := (-1)) X.1 X.2.1 dX12_test_19 (by decide) ?_
  exact ret_i X hw hr hlocks (Nat.le_of_ble_eq_true rfl) (Nat.le_of_ble_eq_true rfl) rfl dX12_test_20
set_option maxHeartbeats 4000000 in
set_option maxRecDepth 100000 in
theorem c_X12_target (l : Launch) (G : va_G) (cy : Nat → ClassId) (S : PS) (sz : Nat) (mo : Nat) (a1 : Int32) (a2 : Int32) (hF : FM S mo) : Ci l yX12_target wsX12_target ({ frames := 5, cells := 0, slots := 0, locals := 200 }) G cy S sz [.ref mo, .int (a1), .int (a2)] (fun (r : Int32) (S9 : PS) => r = 0) := by
  refine ent_m (cc := cX12_target) (maxL := 3) (ret := (some .boolean)) (by decide) rfl (Nat.le_of_ble_eq_true rfl) ?_
  intro p e s m below meth c ls X hr hlocks hin hw hl hsz
  subst hsz
  have X : Cx p c cX12_target 3 s [.ref mo, .int (a1), .int (a2)].toArray wsX12_target RX12 m G cy (AS S s.heap.size) := X
  have hl : lv_has ls 3 [(0, .ref mo), (1, .int (a1)), (2, .int (a2))] := hl
  obtain ⟨hat_mo, hci, ci_1229, hars, hz53, hz39⟩ := hF
  have ci_1211 := hci 1211 (by decide)
  refine lv_aload_n X.1 X.2.1 dX12_target_0 rfl (lv_at hl 0 rfl) ?_
  refine lv_iconst (v := 0) X.1 X.2.1 dX12_target_1 (by decide) ?_
  refine r_putI (v := 0) X hw hat_mo 0 1200 tyX12 (by decide) rfl inn_X12_target_12 tyX12_ok nmX12 (by decide) (X.2.2.2.1 (.fieldLink RX12 161 "SilkMillModel" "thrown" "I") (by decide +kernel)) rfl (Or.inl rfl) rfl rfl (Nat.le_of_ble_eq_true rfl) (st_1200 _ _) dX12_target_2 (fun H locs hw => ?_)
  generalize eS_1 : sI S 1200 mo 0 = S_1 at hw
  have hat_mo : At S_1 mo 12 := by rw [← eS_1]; exact At_sI hat_mo
  have ci_1211 : pI S_1 1211 mo = 0 := by rw [← eS_1]; exact (pI_sI_nf (by decide)).trans ci_1211
  have hc_2 : pI S_1 1200 mo = 0 := by rw [← eS_1]; exact pI_sI_same
  refine lv_aload_n X.1 X.2.1 dX12_target_5 rfl (lv_at hl 0 rfl) ?_
  refine lv_iload_n X.1 X.2.1 dX12_target_6 rfl (lv_at hl 1 rfl) ?_
  refine k_i (rm := { frames := 3, cells := 0, slots := 0, locals := 120 }) (av := [.ref mo, .int (a1)]) X hw (va_runV (As := [.int (a1)]) (rest := []) (cfix X) (c_X12_isPot l G cy S_1 _ mo (a1) hat_mo ci_1211) (cwV 1 X.2.2.2.1 gX12_target_X12_isPot rfl rfl rfl (by decide +kernel) ⟨Nat.le_of_ble_eq_true rfl, Nat.le_of_ble_eq_true rfl⟩) (pre_V X hw _ hat_mo (by decide) rfl) rfl rfl hl.1 rfl (lv_room (Nat.le_of_ble_eq_true rfl)) dX12_target_7 ⟨Nat.le_of_ble_eq_true rfl, Nat.le_of_ble_eq_true rfl⟩) 0 0 (Nat.le_of_ble_eq_true rfl) (Nat.le_of_ble_eq_true rfl) (fun rr_7 S2 H locs hp hw hfr hnw => ?_)
  obtain ⟨e2_7, er_7⟩ := hp
  subst e2_7
  subst er_7
  refine lv_if_eq (tgt := 25) X.1 X.2.1 dX12_target_10 (by decide) (fun c_10 => ?_) (fun c_10 => absurd c_10 (by decide))
  refine lv_iconst (v := 0) X.1 X.2.1 dX12_target_25 (by decide) ?_
  exact ret_z X hw hr hlocks (Nat.le_of_ble_eq_true rfl) (Nat.le_of_ble_eq_true rfl) (by decide) rfl dX12_target_26
set_option maxHeartbeats 4000000 in
set_option maxRecDepth 100000 in
theorem c_X12_fill (l : Launch) (G : va_G) (cy : Nat → ClassId) (S : PS) (sz : Nat) (mo : Nat) (a1 : Int32) (a2 : Int32) (a3 : Int32) (a4 : Int32) (hF : FM S mo) : Ci l yX12_fill wsX12_fill ({ frames := 5, cells := 0, slots := 0, locals := 200 }) G cy S sz [.ref mo, .int (a1), .int (a2), .int (a3), .int (a4)] (fun (r : Int32) (S9 : PS) => r = 0) := by
  refine ent_m (cc := cX12_fill) (maxL := 6) (ret := (some .boolean)) (by decide) rfl (Nat.le_of_ble_eq_true rfl) ?_
  intro p e s m below meth c ls X hr hlocks hin hw hl hsz
  subst hsz
  have X : Cx p c cX12_fill 6 s [.ref mo, .int (a1), .int (a2), .int (a3), .int (a4)].toArray wsX12_fill RX12 m G cy (AS S s.heap.size) := X
  have hl : lv_has ls 6 [(0, .ref mo), (1, .int (a1)), (2, .int (a2)), (3, .int (a3)), (4, .int (a4))] := hl
  obtain ⟨hat_mo, hci, ci_1229, hars, hz53, hz39⟩ := hF
  have ci_1211 := hci 1211 (by decide)
  refine lv_aload_n X.1 X.2.1 dX12_fill_0 rfl (lv_at hl 0 rfl) ?_
  refine lv_iconst (v := 0) X.1 X.2.1 dX12_fill_1 (by decide) ?_
  refine r_putI (v := 0) X hw hat_mo 0 1200 tyX12 (by decide) rfl inn_X12_fill_12 tyX12_ok nmX12 (by decide) (X.2.2.2.1 (.fieldLink RX12 161 "SilkMillModel" "thrown" "I") (by decide +kernel)) rfl (Or.inl rfl) rfl rfl (Nat.le_of_ble_eq_true rfl) (st_1200 _ _) dX12_fill_2 (fun H locs hw => ?_)
  generalize eS_1 : sI S 1200 mo 0 = S_1 at hw
  have hat_mo : At S_1 mo 12 := by rw [← eS_1]; exact At_sI hat_mo
  have ci_1211 : pI S_1 1211 mo = 0 := by rw [← eS_1]; exact (pI_sI_nf (by decide)).trans ci_1211
  have hc_2 : pI S_1 1200 mo = 0 := by rw [← eS_1]; exact pI_sI_same
  refine lv_aload_n X.1 X.2.1 dX12_fill_5 rfl (lv_at hl 0 rfl) ?_
  refine lv_iload_n X.1 X.2.1 dX12_fill_6 rfl (lv_at hl 1 rfl) ?_
  refine k_i (rm := { frames := 3, cells := 0, slots := 0, locals := 120 }) (av := [.ref mo, .int (a1)]) X hw (va_runV (As := [.int (a1)]) (rest := []) (cfix X) (c_X12_isPot l G cy S_1 _ mo (a1) hat_mo ci_1211) (cwV 1 X.2.2.2.1 gX12_fill_X12_isPot rfl rfl rfl (by decide +kernel) ⟨Nat.le_of_ble_eq_true rfl, Nat.le_of_ble_eq_true rfl⟩) (pre_V X hw _ hat_mo (by decide) rfl) rfl rfl hl.1 rfl (lv_room (Nat.le_of_ble_eq_true rfl)) dX12_fill_7 ⟨Nat.le_of_ble_eq_true rfl, Nat.le_of_ble_eq_true rfl⟩) 0 0 (Nat.le_of_ble_eq_true rfl) (Nat.le_of_ble_eq_true rfl) (fun rr_7 S2 H locs hp hw hfr hnw => ?_)
  obtain ⟨e2_7, er_7⟩ := hp
  subst e2_7
  subst er_7
  refine lv_if_eq (tgt := 55) X.1 X.2.1 dX12_fill_10 (by decide) (fun c_10 => ?_) (fun c_10 => absurd c_10 (by decide))
  refine lv_iconst (v := 0) X.1 X.2.1 dX12_fill_55 (by decide) ?_
  exact ret_z X hw hr hlocks (Nat.le_of_ble_eq_true rfl) (Nat.le_of_ble_eq_true rfl) (by decide) rfl dX12_fill_56
set_option maxHeartbeats 4000000 in
set_option maxRecDepth 100000 in
theorem c_X12_program (l : Launch) (G : va_G) (cy : Nat → ClassId) (S : PS) (sz : Nat) (mo : Nat) (a1 : Int32) (hF : FM S mo) : Ci l yX12_program wsX12_program ({ frames := 5, cells := 0, slots := 0, locals := 200 }) G cy S sz [.ref mo, .int (a1)] (fun (r : Int32) (S9 : PS) => r = -1) := by
  refine ent_m (cc := cX12_program) (maxL := 5) (ret := (some .int)) (by decide) rfl (Nat.le_of_ble_eq_true rfl) ?_
  intro p e s m below meth c ls X hr hlocks hin hw hl hsz
  subst hsz
  have X : Cx p c cX12_program 5 s [.ref mo, .int (a1)].toArray wsX12_program RX12 m G cy (AS S s.heap.size) := X
  have hl : lv_has ls 5 [(0, .ref mo), (1, .int (a1))] := hl
  obtain ⟨hat_mo, hci, ci_1229, hars, hz53, hz39⟩ := hF
  have ci_1211 := hci 1211 (by decide)
  refine lv_aload_n X.1 X.2.1 dX12_program_0 rfl (lv_at hl 0 rfl) ?_
  refine lv_iconst (v := 0) X.1 X.2.1 dX12_program_1 (by decide) ?_
  refine r_putI (v := 0) X hw hat_mo 0 1200 tyX12 (by decide) rfl inn_X12_program_12 tyX12_ok nmX12 (by decide) (X.2.2.2.1 (.fieldLink RX12 161 "SilkMillModel" "thrown" "I") (by decide +kernel)) rfl (Or.inl rfl) rfl rfl (Nat.le_of_ble_eq_true rfl) (st_1200 _ _) dX12_program_2 (fun H locs hw => ?_)
  generalize eS_1 : sI S 1200 mo 0 = S_1 at hw
  have hat_mo : At S_1 mo 12 := by rw [← eS_1]; exact At_sI hat_mo
  have ci_1211 : pI S_1 1211 mo = 0 := by rw [← eS_1]; exact (pI_sI_nf (by decide)).trans ci_1211
  have hc_2 : pI S_1 1200 mo = 0 := by rw [← eS_1]; exact pI_sI_same
  refine lv_aload_n X.1 X.2.1 dX12_program_5 rfl (lv_at hl 0 rfl) ?_
  refine lv_iload_n X.1 X.2.1 dX12_program_6 rfl (lv_at hl 1 rfl) ?_
  refine k_i (rm := { frames := 3, cells := 0, slots := 0, locals := 120 }) (av := [.ref mo, .int (a1)]) X hw (va_runV (As := [.int (a1)]) (rest := []) (cfix X) (c_X12_isPot l G cy S_1 _ mo (a1) hat_mo ci_1211) (cwV 1 X.2.2.2.1 gX12_program_X12_isPot rfl rfl rfl (by decide +kernel) ⟨Nat.le_of_ble_eq_true rfl, Nat.le_of_ble_eq_true rfl⟩) (pre_V X hw _ hat_mo (by decide) rfl) rfl rfl hl.1 rfl (lv_room (Nat.le_of_ble_eq_true rfl)) dX12_program_7 ⟨Nat.le_of_ble_eq_true rfl, Nat.le_of_ble_eq_true rfl⟩) 0 0 (Nat.le_of_ble_eq_true rfl) (Nat.le_of_ble_eq_true rfl) (fun rr_7 S2 H locs hp hw hfr hnw => ?_)
  obtain ⟨e2_7, er_7⟩ := hp
  subst e2_7
  subst er_7
  refine lv_if_ne (tgt := 15) X.1 X.2.1 dX12_program_10 (by decide) (fun c_10 => absurd c_10 (by decide)) (fun c_10 => ?_)
  refine lv_iconst (v := (-1)) X.1 X.2.1 dX12_program_13 (by decide) ?_
  exact ret_i X hw hr hlocks (Nat.le_of_ble_eq_true rfl) (Nat.le_of_ble_eq_true rfl) rfl dX12_program_14
set_option maxHeartbeats 4000000 in
set_option maxRecDepth 100000 in
theorem c_X12_place (l : Launch) (G : va_G) (cy : Nat → ClassId) (S : PS) (sz : Nat) (mo : Nat) (hF : FM S mo) : Ci l yX12_place wsX12_place ({ frames := 5, cells := 0, slots := 0, locals := 200 }) G cy S sz [.ref mo] (fun (r : Int32) (S9 : PS) => r = -1) := by
  refine ent_m (cc := cX12_place) (maxL := 1) (ret := (some .int)) (by decide) rfl (Nat.le_of_ble_eq_true rfl) ?_
  intro p e s m below meth c ls X hr hlocks hin hw hl hsz
  subst hsz
  have X : Cx p c cX12_place 1 s [.ref mo].toArray wsX12_place RX12 m G cy (AS S s.heap.size) := X
  have hl : lv_has ls 1 [(0, .ref mo)] := hl
  obtain ⟨hat_mo, hci, ci_1229, hars, hz53, hz39⟩ := hF
  refine lv_aload_n X.1 X.2.1 dX12_place_0 rfl (lv_at hl 0 rfl) ?_
  refine lv_iconst (v := 0) X.1 X.2.1 dX12_place_1 (by decide) ?_
  refine r_putI (v := 0) X hw hat_mo 0 1200 tyX12 (by decide) rfl inn_X12_place_12 tyX12_ok nmX12 (by decide) (X.2.2.2.1 (.fieldLink RX12 161 "SilkMillModel" "thrown" "I") (by decide +kernel)) rfl (Or.inl rfl) rfl rfl (Nat.le_of_ble_eq_true rfl) (st_1200 _ _) dX12_place_2 (fun H locs hw => ?_)
  generalize eS_1 : sI S 1200 mo 0 = S_1 at hw
  have hat_mo : At S_1 mo 12 := by rw [← eS_1]; exact At_sI hat_mo
  have ci_1229 : pI S_1 1229 mo = (-1) := by rw [← eS_1]; exact (pI_sI_nf (by decide)).trans ci_1229
  have hc_2 : pI S_1 1200 mo = 0 := by rw [← eS_1]; exact pI_sI_same
  refine lv_aload_n X.1 X.2.1 dX12_place_5 rfl (lv_at hl 0 rfl) ?_
  refine r_get (v := .int (-1)) X hw hat_mo 29 (by decide) rfl inn_X12_place_12 (by decide) (X.2.2.2.1 (.fieldLink RX12 86 "SilkMillModel" "faultPlace" "I") (by decide +kernel)) rfl ((gv_1229 _ _).trans (congrArg (fun z => some (Value.int z)) ci_1229)) dX12_place_6 ?_
  exact ret_i X hw hr hlocks (Nat.le_of_ble_eq_true rfl) (Nat.le_of_ble_eq_true rfl) rfl dX12_place_9
set_option maxHeartbeats 4000000 in
set_option maxRecDepth 100000 in
theorem c_X12_run (l : Launch) (G : va_G) (cy : Nat → ClassId) (S : PS) (sz : Nat) (mo : Nat) (a1 : Int32) (a2 : Int32) (hF : FM S mo) : Ci l yX12_run wsX12_run ({ frames := 5, cells := 0, slots := 0, locals := 200 }) G cy S sz [.ref mo, .int (a1), .int (a2)] (fun (r : Int32) (S9 : PS) => r = -1) := by
  refine ent_m (cc := cX12_run) (maxL := 5) (ret := (some .int)) (by decide) rfl (Nat.le_of_ble_eq_true rfl) ?_
  intro p e s m below meth c ls X hr hlocks hin hw hl hsz
  subst hsz
  have X : Cx p c cX12_run 5 s [.ref mo, .int (a1), .int (a2)].toArray wsX12_run RX12 m G cy (AS S s.heap.size) := X
  have hl : lv_has ls 5 [(0, .ref mo), (1, .int (a1)), (2, .int (a2))] := hl
  obtain ⟨hat_mo, hci, ci_1229, hars, hz53, hz39⟩ := hF
  have ci_1211 := hci 1211 (by decide)
  refine lv_aload_n X.1 X.2.1 dX12_run_0 rfl (lv_at hl 0 rfl) ?_
  refine lv_iconst (v := 0) X.1 X.2.1 dX12_run_1 (by decide) ?_
  refine r_putI (v := 0) X hw hat_mo 0 1200 tyX12 (by decide) rfl inn_X12_run_12 tyX12_ok nmX12 (by decide) (X.2.2.2.1 (.fieldLink RX12 161 "SilkMillModel" "thrown" "I") (by decide +kernel)) rfl (Or.inl rfl) rfl rfl (Nat.le_of_ble_eq_true rfl) (st_1200 _ _) dX12_run_2 (fun H locs hw => ?_)
  generalize eS_1 : sI S 1200 mo 0 = S_1 at hw
  have hat_mo : At S_1 mo 12 := by rw [← eS_1]; exact At_sI hat_mo
  have ci_1211 : pI S_1 1211 mo = 0 := by rw [← eS_1]; exact (pI_sI_nf (by decide)).trans ci_1211
  have hc_2 : pI S_1 1200 mo = 0 := by rw [← eS_1]; exact pI_sI_same
  refine lv_aload_n X.1 X.2.1 dX12_run_5 rfl (lv_at hl 0 rfl) ?_
  refine lv_iload_n X.1 X.2.1 dX12_run_6 rfl (lv_at hl 1 rfl) ?_
  refine k_i (rm := { frames := 3, cells := 0, slots := 0, locals := 120 }) (av := [.ref mo, .int (a1)]) X hw (va_runV (As := [.int (a1)]) (rest := []) (cfix X) (c_X12_isPot l G cy S_1 _ mo (a1) hat_mo ci_1211) (cwV 1 X.2.2.2.1 gX12_run_X12_isPot rfl rfl rfl (by decide +kernel) ⟨Nat.le_of_ble_eq_true rfl, Nat.le_of_ble_eq_true rfl⟩) (pre_V X hw _ hat_mo (by decide) rfl) rfl rfl hl.1 rfl (lv_room (Nat.le_of_ble_eq_true rfl)) dX12_run_7 ⟨Nat.le_of_ble_eq_true rfl, Nat.le_of_ble_eq_true rfl⟩) 0 0 (Nat.le_of_ble_eq_true rfl) (Nat.le_of_ble_eq_true rfl) (fun rr_7 S2 H locs hp hw hfr hnw => ?_)
  obtain ⟨e2_7, er_7⟩ := hp
  subst e2_7
  subst er_7
  refine lv_if_eq (tgt := 24) X.1 X.2.1 dX12_run_10 (by decide) (fun c_10 => ?_) (fun c_10 => absurd c_10 (by decide))
  refine lv_iconst (v := (-1)) X.1 X.2.1 dX12_run_24 (by decide) ?_
  exact ret_i X hw hr hlocks (Nat.le_of_ble_eq_true rfl) (Nat.le_of_ble_eq_true rfl) rfl dX12_run_25
set_option maxHeartbeats 4000000 in
set_option maxRecDepth 100000 in
theorem c_X12_about (l : Launch) (G : va_G) (cy : Nat → ClassId) (S : PS) (sz : Nat) (mo : Nat) (a1 : Int32) (a2 : Int32) (hF : FM S mo) : Ci l yX12_about wsX12_about ({ frames := 5, cells := 0, slots := 0, locals := 200 }) G cy S sz [.ref mo, .int (a1), .int (a2)] (fun (r : Int32) (S9 : PS) => r = -1) := by
  refine ent_m (cc := cX12_about) (maxL := 3) (ret := (some .int)) (by decide) rfl (Nat.le_of_ble_eq_true rfl) ?_
  intro p e s m below meth c ls X hr hlocks hin hw hl hsz
  subst hsz
  have X : Cx p c cX12_about 3 s [.ref mo, .int (a1), .int (a2)].toArray wsX12_about RX12 m G cy (AS S s.heap.size) := X
  have hl : lv_has ls 3 [(0, .ref mo), (1, .int (a1)), (2, .int (a2))] := hl
  obtain ⟨hat_mo, hci, ci_1229, hars, hz53, hz39⟩ := hF
  have ci_1211 := hci 1211 (by decide)
  refine lv_aload_n X.1 X.2.1 dX12_about_0 rfl (lv_at hl 0 rfl) ?_
  refine lv_iconst (v := 0) X.1 X.2.1 dX12_about_1 (by decide) ?_
  refine r_putI (v := 0) X hw hat_mo 0 1200 tyX12 (by decide) rfl inn_X12_about_12 tyX12_ok nmX12 (by decide) (X.2.2.2.1 (.fieldLink RX12 161 "SilkMillModel" "thrown" "I") (by decide +kernel)) rfl (Or.inl rfl) rfl rfl (Nat.le_of_ble_eq_true rfl) (st_1200 _ _) dX12_about_2 (fun H locs hw => ?_)
  generalize eS_1 : sI S 1200 mo 0 = S_1 at hw
  have hat_mo : At S_1 mo 12 := by rw [← eS_1]; exact At_sI hat_mo
  have ci_1211 : pI S_1 1211 mo = 0 := by rw [← eS_1]; exact (pI_sI_nf (by decide)).trans ci_1211
  have hc_2 : pI S_1 1200 mo = 0 := by rw [← eS_1]; exact pI_sI_same
  refine lv_aload_n X.1 X.2.1 dX12_about_5 rfl (lv_at hl 0 rfl) ?_
  refine lv_iload_n X.1 X.2.1 dX12_about_6 rfl (lv_at hl 1 rfl) ?_
  refine k_i (rm := { frames := 3, cells := 0, slots := 0, locals := 120 }) (av := [.ref mo, .int (a1)]) X hw (va_runV (As := [.int (a1)]) (rest := []) (cfix X) (c_X12_isPot l G cy S_1 _ mo (a1) hat_mo ci_1211) (cwV 1 X.2.2.2.1 gX12_about_X12_isPot rfl rfl rfl (by decide +kernel) ⟨Nat.le_of_ble_eq_true rfl, Nat.le_of_ble_eq_true rfl⟩) (pre_V X hw _ hat_mo (by decide) rfl) rfl rfl hl.1 rfl (lv_room (Nat.le_of_ble_eq_true rfl)) dX12_about_7 ⟨Nat.le_of_ble_eq_true rfl, Nat.le_of_ble_eq_true rfl⟩) 0 0 (Nat.le_of_ble_eq_true rfl) (Nat.le_of_ble_eq_true rfl) (fun rr_7 S2 H locs hp hw hfr hnw => ?_)
  obtain ⟨e2_7, er_7⟩ := hp
  subst e2_7
  subst er_7
  refine lv_if_ne (tgt := 15) X.1 X.2.1 dX12_about_10 (by decide) (fun c_10 => absurd c_10 (by decide)) (fun c_10 => ?_)
  refine lv_iconst (v := (-1)) X.1 X.2.1 dX12_about_13 (by decide) ?_
  exact ret_i X hw hr hlocks (Nat.le_of_ble_eq_true rfl) (Nat.le_of_ble_eq_true rfl) rfl dX12_about_14
set_option maxHeartbeats 4000000 in
set_option maxRecDepth 100000 in
theorem c_X12_cut (l : Launch) (G : va_G) (cy : Nat → ClassId) (S : PS) (sz : Nat) (mo : Nat) (a1 : Int32) (hF : FM S mo) : Ci l yX12_cut wsX12_cut ({ frames := 5, cells := 0, slots := 0, locals := 200 }) G cy S sz [.ref mo, .int (a1)] (fun (r : Int32) (S9 : PS) => r = -1) := by
  refine ent_m (cc := cX12_cut) (maxL := 2) (ret := (some .int)) (by decide) rfl (Nat.le_of_ble_eq_true rfl) ?_
  intro p e s m below meth c ls X hr hlocks hin hw hl hsz
  subst hsz
  have X : Cx p c cX12_cut 2 s [.ref mo, .int (a1)].toArray wsX12_cut RX12 m G cy (AS S s.heap.size) := X
  have hl : lv_has ls 2 [(0, .ref mo), (1, .int (a1))] := hl
  obtain ⟨hat_mo, hci, ci_1229, hars, hz53, hz39⟩ := hF
  have ci_1211 := hci 1211 (by decide)
  refine lv_aload_n X.1 X.2.1 dX12_cut_0 rfl (lv_at hl 0 rfl) ?_
  refine lv_iconst (v := 0) X.1 X.2.1 dX12_cut_1 (by decide) ?_
  refine r_putI (v := 0) X hw hat_mo 0 1200 tyX12 (by decide) rfl inn_X12_cut_12 tyX12_ok nmX12 (by decide) (X.2.2.2.1 (.fieldLink RX12 161 "SilkMillModel" "thrown" "I") (by decide +kernel)) rfl (Or.inl rfl) rfl rfl (Nat.le_of_ble_eq_true rfl) (st_1200 _ _) dX12_cut_2 (fun H locs hw => ?_)
  generalize eS_1 : sI S 1200 mo 0 = S_1 at hw
  have hat_mo : At S_1 mo 12 := by rw [← eS_1]; exact At_sI hat_mo
  have ci_1211 : pI S_1 1211 mo = 0 := by rw [← eS_1]; exact (pI_sI_nf (by decide)).trans ci_1211
  have hc_2 : pI S_1 1200 mo = 0 := by rw [← eS_1]; exact pI_sI_same
  refine lv_aload_n X.1 X.2.1 dX12_cut_5 rfl (lv_at hl 0 rfl) ?_
  refine lv_iload_n X.1 X.2.1 dX12_cut_6 rfl (lv_at hl 1 rfl) ?_
  refine k_i (rm := { frames := 3, cells := 0, slots := 0, locals := 120 }) (av := [.ref mo, .int (a1)]) X hw (va_runV (As := [.int (a1)]) (rest := []) (cfix X) (c_X12_isPot l G cy S_1 _ mo (a1) hat_mo ci_1211) (cwV 1 X.2.2.2.1 gX12_cut_X12_isPot rfl rfl rfl (by decide +kernel) ⟨Nat.le_of_ble_eq_true rfl, Nat.le_of_ble_eq_true rfl⟩) (pre_V X hw _ hat_mo (by decide) rfl) rfl rfl hl.1 rfl (lv_room (Nat.le_of_ble_eq_true rfl)) dX12_cut_7 ⟨Nat.le_of_ble_eq_true rfl, Nat.le_of_ble_eq_true rfl⟩) 0 0 (Nat.le_of_ble_eq_true rfl) (Nat.le_of_ble_eq_true rfl) (fun rr_7 S2 H locs hp hw hfr hnw => ?_)
  obtain ⟨e2_7, er_7⟩ := hp
  subst e2_7
  subst er_7
  refine lv_if_eq (tgt := 21) X.1 X.2.1 dX12_cut_10 (by decide) (fun c_10 => ?_) (fun c_10 => absurd c_10 (by decide))
  refine lv_iconst (v := (-1)) X.1 X.2.1 dX12_cut_21 (by decide) ?_
  exact ret_i X hw hr hlocks (Nat.le_of_ble_eq_true rfl) (Nat.le_of_ble_eq_true rfl) rfl dX12_cut_22
set_option maxHeartbeats 4000000 in
set_option maxRecDepth 100000 in
theorem c_X12_skein (l : Launch) (G : va_G) (cy : Nat → ClassId) (S : PS) (sz : Nat) (mo : Nat) (a1 : Int32) (a2 : Int32) (hF : FM S mo) : Ci l yX12_skein wsX12_skein ({ frames := 5, cells := 0, slots := 0, locals := 200 }) G cy S sz [.ref mo, .int (a1), .int (a2)] (fun (r : Int32) (S9 : PS) => r = -1) := by
  refine ent_m (cc := cX12_skein) (maxL := 3) (ret := (some .int)) (by decide) rfl (Nat.le_of_ble_eq_true rfl) ?_
  intro p e s m below meth c ls X hr hlocks hin hw hl hsz
  subst hsz
  have X : Cx p c cX12_skein 3 s [.ref mo, .int (a1), .int (a2)].toArray wsX12_skein RX12 m G cy (AS S s.heap.size) := X
  have hl : lv_has ls 3 [(0, .ref mo), (1, .int (a1)), (2, .int (a2))] := hl
  obtain ⟨hat_mo, hci, ci_1229, hars, hz53, hz39⟩ := hF
  have ci_1238 := hci 1238 (by decide)
  refine lv_aload_n X.1 X.2.1 dX12_skein_0 rfl (lv_at hl 0 rfl) ?_
  refine lv_iconst (v := 0) X.1 X.2.1 dX12_skein_1 (by decide) ?_
  refine r_putI (v := 0) X hw hat_mo 0 1200 tyX12 (by decide) rfl inn_X12_skein_12 tyX12_ok nmX12 (by decide) (X.2.2.2.1 (.fieldLink RX12 161 "SilkMillModel" "thrown" "I") (by decide +kernel)) rfl (Or.inl rfl) rfl rfl (Nat.le_of_ble_eq_true rfl) (st_1200 _ _) dX12_skein_2 (fun H locs hw => ?_)
  generalize eS_1 : sI S 1200 mo 0 = S_1 at hw
  have hat_mo : At S_1 mo 12 := by rw [← eS_1]; exact At_sI hat_mo
  have ci_1238 : pI S_1 1238 mo = 0 := by rw [← eS_1]; exact (pI_sI_nf (by decide)).trans ci_1238
  have hc_2 : pI S_1 1200 mo = 0 := by rw [← eS_1]; exact pI_sI_same
  refine lv_aload_n X.1 X.2.1 dX12_skein_5 rfl (lv_at hl 0 rfl) ?_
  refine lv_iload_n X.1 X.2.1 dX12_skein_6 rfl (lv_at hl 1 rfl) ?_
  refine k_i (rm := { frames := 3, cells := 0, slots := 0, locals := 120 }) (av := [.ref mo, .int (a1)]) X hw (va_runV (As := [.int (a1)]) (rest := []) (cfix X) (c_X12_isSkein l G cy S_1 _ mo (a1) hat_mo ci_1238) (cwV 1 X.2.2.2.1 gX12_skein_X12_isSkein rfl rfl rfl (by decide +kernel) ⟨Nat.le_of_ble_eq_true rfl, Nat.le_of_ble_eq_true rfl⟩) (pre_V X hw _ hat_mo (by decide) rfl) rfl rfl hl.1 rfl (lv_room (Nat.le_of_ble_eq_true rfl)) dX12_skein_7 ⟨Nat.le_of_ble_eq_true rfl, Nat.le_of_ble_eq_true rfl⟩) 0 0 (Nat.le_of_ble_eq_true rfl) (Nat.le_of_ble_eq_true rfl) (fun rr_7 S2 H locs hp hw hfr hnw => ?_)
  obtain ⟨e2_7, er_7⟩ := hp
  subst e2_7
  subst er_7
  refine lv_if_ne (tgt := 15) X.1 X.2.1 dX12_skein_10 (by decide) (fun c_10 => absurd c_10 (by decide)) (fun c_10 => ?_)
  refine lv_iconst (v := (-1)) X.1 X.2.1 dX12_skein_13 (by decide) ?_
  exact ret_i X hw hr hlocks (Nat.le_of_ble_eq_true rfl) (Nat.le_of_ble_eq_true rfl) rfl dX12_skein_14
set_option maxHeartbeats 4000000 in
set_option maxRecDepth 100000 in
theorem c_X12_metre (l : Launch) (G : va_G) (cy : Nat → ClassId) (S : PS) (sz : Nat) (mo : Nat) (a1 : Int32) (a2 : Int32) (a3 : Int32) (hF : FM S mo) : Ci l yX12_metre wsX12_metre ({ frames := 5, cells := 0, slots := 0, locals := 200 }) G cy S sz [.ref mo, .int (a1), .int (a2), .int (a3)] (fun (r : Int32) (S9 : PS) => r = -1) := by
  refine ent_m (cc := cX12_metre) (maxL := 4) (ret := (some .int)) (by decide) rfl (Nat.le_of_ble_eq_true rfl) ?_
  intro p e s m below meth c ls X hr hlocks hin hw hl hsz
  subst hsz
  have X : Cx p c cX12_metre 4 s [.ref mo, .int (a1), .int (a2), .int (a3)].toArray wsX12_metre RX12 m G cy (AS S s.heap.size) := X
  have hl : lv_has ls 4 [(0, .ref mo), (1, .int (a1)), (2, .int (a2)), (3, .int (a3))] := hl
  obtain ⟨hat_mo, hci, ci_1229, hars, hz53, hz39⟩ := hF
  have ci_1238 := hci 1238 (by decide)
  refine lv_aload_n X.1 X.2.1 dX12_metre_0 rfl (lv_at hl 0 rfl) ?_
  refine lv_iconst (v := 0) X.1 X.2.1 dX12_metre_1 (by decide) ?_
  refine r_putI (v := 0) X hw hat_mo 0 1200 tyX12 (by decide) rfl inn_X12_metre_12 tyX12_ok nmX12 (by decide) (X.2.2.2.1 (.fieldLink RX12 161 "SilkMillModel" "thrown" "I") (by decide +kernel)) rfl (Or.inl rfl) rfl rfl (Nat.le_of_ble_eq_true rfl) (st_1200 _ _) dX12_metre_2 (fun H locs hw => ?_)
  generalize eS_1 : sI S 1200 mo 0 = S_1 at hw
  have hat_mo : At S_1 mo 12 := by rw [← eS_1]; exact At_sI hat_mo
  have ci_1238 : pI S_1 1238 mo = 0 := by rw [← eS_1]; exact (pI_sI_nf (by decide)).trans ci_1238
  have hc_2 : pI S_1 1200 mo = 0 := by rw [← eS_1]; exact pI_sI_same
  refine lv_aload_n X.1 X.2.1 dX12_metre_5 rfl (lv_at hl 0 rfl) ?_
  refine lv_iload_n X.1 X.2.1 dX12_metre_6 rfl (lv_at hl 1 rfl) ?_
  refine k_i (rm := { frames := 3, cells := 0, slots := 0, locals := 120 }) (av := [.ref mo, .int (a1)]) X hw (va_runV (As := [.int (a1)]) (rest := []) (cfix X) (c_X12_isSkein l G cy S_1 _ mo (a1) hat_mo ci_1238) (cwV 1 X.2.2.2.1 gX12_metre_X12_isSkein rfl rfl rfl (by decide +kernel) ⟨Nat.le_of_ble_eq_true rfl, Nat.le_of_ble_eq_true rfl⟩) (pre_V X hw _ hat_mo (by decide) rfl) rfl rfl hl.1 rfl (lv_room (Nat.le_of_ble_eq_true rfl)) dX12_metre_7 ⟨Nat.le_of_ble_eq_true rfl, Nat.le_of_ble_eq_true rfl⟩) 0 0 (Nat.le_of_ble_eq_true rfl) (Nat.le_of_ble_eq_true rfl) (fun rr_7 S2 H locs hp hw hfr hnw => ?_)
  obtain ⟨e2_7, er_7⟩ := hp
  subst e2_7
  subst er_7
  refine lv_if_eq (tgt := 28) X.1 X.2.1 dX12_metre_10 (by decide) (fun c_10 => ?_) (fun c_10 => absurd c_10 (by decide))
  refine lv_iconst (v := (-1)) X.1 X.2.1 dX12_metre_28 (by decide) ?_
  exact ret_i X hw hr hlocks (Nat.le_of_ble_eq_true rfl) (Nat.le_of_ble_eq_true rfl) rfl dX12_metre_29
set_option maxHeartbeats 4000000 in
set_option maxRecDepth 100000 in
theorem c_X12_piece (l : Launch) (G : va_G) (cy : Nat → ClassId) (S : PS) (sz : Nat) (mo : Nat) (a1 : Int32) (a2 : Int32) (a3 : Int32) (hF : FM S mo) : Ci l yX12_piece wsX12_piece ({ frames := 5, cells := 0, slots := 0, locals := 200 }) G cy S sz [.ref mo, .int (a1), .int (a2), .int (a3)] (fun (r : Int32) (S9 : PS) => r = -1) := by
  refine ent_m (cc := cX12_piece) (maxL := 7) (ret := (some .int)) (by decide) rfl (Nat.le_of_ble_eq_true rfl) ?_
  intro p e s m below meth c ls X hr hlocks hin hw hl hsz
  subst hsz
  have X : Cx p c cX12_piece 7 s [.ref mo, .int (a1), .int (a2), .int (a3)].toArray wsX12_piece RX12 m G cy (AS S s.heap.size) := X
  have hl : lv_has ls 7 [(0, .ref mo), (1, .int (a1)), (2, .int (a2)), (3, .int (a3))] := hl
  obtain ⟨hat_mo, hci, ci_1229, hars, hz53, hz39⟩ := hF
  have ci_1238 := hci 1238 (by decide)
  refine lv_aload_n X.1 X.2.1 dX12_piece_0 rfl (lv_at hl 0 rfl) ?_
  refine lv_iconst (v := 0) X.1 X.2.1 dX12_piece_1 (by decide) ?_
  refine r_putI (v := 0) X hw hat_mo 0 1200 tyX12 (by decide) rfl inn_X12_piece_12 tyX12_ok nmX12 (by decide) (X.2.2.2.1 (.fieldLink RX12 161 "SilkMillModel" "thrown" "I") (by decide +kernel)) rfl (Or.inl rfl) rfl rfl (Nat.le_of_ble_eq_true rfl) (st_1200 _ _) dX12_piece_2 (fun H locs hw => ?_)
  generalize eS_1 : sI S 1200 mo 0 = S_1 at hw
  have hat_mo : At S_1 mo 12 := by rw [← eS_1]; exact At_sI hat_mo
  have ci_1238 : pI S_1 1238 mo = 0 := by rw [← eS_1]; exact (pI_sI_nf (by decide)).trans ci_1238
  have hc_2 : pI S_1 1200 mo = 0 := by rw [← eS_1]; exact pI_sI_same
  refine lv_aload_n X.1 X.2.1 dX12_piece_5 rfl (lv_at hl 0 rfl) ?_
  refine lv_iload_n X.1 X.2.1 dX12_piece_6 rfl (lv_at hl 1 rfl) ?_
  refine k_i (rm := { frames := 3, cells := 0, slots := 0, locals := 120 }) (av := [.ref mo, .int (a1)]) X hw (va_runV (As := [.int (a1)]) (rest := []) (cfix X) (c_X12_isSkein l G cy S_1 _ mo (a1) hat_mo ci_1238) (cwV 1 X.2.2.2.1 gX12_piece_X12_isSkein rfl rfl rfl (by decide +kernel) ⟨Nat.le_of_ble_eq_true rfl, Nat.le_of_ble_eq_true rfl⟩) (pre_V X hw _ hat_mo (by decide) rfl) rfl rfl hl.1 rfl (lv_room (Nat.le_of_ble_eq_true rfl)) dX12_piece_7 ⟨Nat.le_of_ble_eq_true rfl, Nat.le_of_ble_eq_true rfl⟩) 0 0 (Nat.le_of_ble_eq_true rfl) (Nat.le_of_ble_eq_true rfl) (fun rr_7 S2 H locs hp hw hfr hnw => ?_)
  obtain ⟨e2_7, er_7⟩ := hp
  subst e2_7
  subst er_7
  refine lv_if_eq (tgt := 26) X.1 X.2.1 dX12_piece_10 (by decide) (fun c_10 => ?_) (fun c_10 => absurd c_10 (by decide))
  refine lv_iconst (v := (-1)) X.1 X.2.1 dX12_piece_26 (by decide) ?_
  exact ret_i X hw hr hlocks (Nat.le_of_ble_eq_true rfl) (Nat.le_of_ble_eq_true rfl) rfl dX12_piece_27
set_option maxHeartbeats 4000000 in
set_option maxRecDepth 100000 in
theorem c_X12_grade (l : Launch) (G : va_G) (cy : Nat → ClassId) (S : PS) (sz : Nat) (mo : Nat) (a1 : Int32) (a2 : Int32) (a3 : Int32) (hF : FM S mo) : Ci l yX12_grade wsX12_grade ({ frames := 5, cells := 0, slots := 0, locals := 200 }) G cy S sz [.ref mo, .int (a1), .int (a2), .int (a3)] (fun (r : Int32) (S9 : PS) => r = -1) := by
  refine ent_m (cc := cX12_grade) (maxL := 8) (ret := (some .int)) (by decide) rfl (Nat.le_of_ble_eq_true rfl) ?_
  intro p e s m below meth c ls X hr hlocks hin hw hl hsz
  subst hsz
  have X : Cx p c cX12_grade 8 s [.ref mo, .int (a1), .int (a2), .int (a3)].toArray wsX12_grade RX12 m G cy (AS S s.heap.size) := X
  have hl : lv_has ls 8 [(0, .ref mo), (1, .int (a1)), (2, .int (a2)), (3, .int (a3))] := hl
  obtain ⟨hat_mo, hci, ci_1229, hars, hz53, hz39⟩ := hF
  have ci_1238 := hci 1238 (by decide)
  refine lv_aload_n X.1 X.2.1 dX12_grade_0 rfl (lv_at hl 0 rfl) ?_
  refine lv_iconst (v := 0) X.1 X.2.1 dX12_grade_1 (by decide) ?_
  refine r_putI (v := 0) X hw hat_mo 0 1200 tyX12 (by decide) rfl inn_X12_grade_12 tyX12_ok nmX12 (by decide) (X.2.2.2.1 (.fieldLink RX12 161 "SilkMillModel" "thrown" "I") (by decide +kernel)) rfl (Or.inl rfl) rfl rfl (Nat.le_of_ble_eq_true rfl) (st_1200 _ _) dX12_grade_2 (fun H locs hw => ?_)
  generalize eS_1 : sI S 1200 mo 0 = S_1 at hw
  have hat_mo : At S_1 mo 12 := by rw [← eS_1]; exact At_sI hat_mo
  have ci_1238 : pI S_1 1238 mo = 0 := by rw [← eS_1]; exact (pI_sI_nf (by decide)).trans ci_1238
  have hc_2 : pI S_1 1200 mo = 0 := by rw [← eS_1]; exact pI_sI_same
  refine lv_aload_n X.1 X.2.1 dX12_grade_5 rfl (lv_at hl 0 rfl) ?_
  refine lv_iload_n X.1 X.2.1 dX12_grade_6 rfl (lv_at hl 1 rfl) ?_
  refine k_i (rm := { frames := 3, cells := 0, slots := 0, locals := 120 }) (av := [.ref mo, .int (a1)]) X hw (va_runV (As := [.int (a1)]) (rest := []) (cfix X) (c_X12_isSkein l G cy S_1 _ mo (a1) hat_mo ci_1238) (cwV 1 X.2.2.2.1 gX12_grade_X12_isSkein rfl rfl rfl (by decide +kernel) ⟨Nat.le_of_ble_eq_true rfl, Nat.le_of_ble_eq_true rfl⟩) (pre_V X hw _ hat_mo (by decide) rfl) rfl rfl hl.1 rfl (lv_room (Nat.le_of_ble_eq_true rfl)) dX12_grade_7 ⟨Nat.le_of_ble_eq_true rfl, Nat.le_of_ble_eq_true rfl⟩) 0 0 (Nat.le_of_ble_eq_true rfl) (Nat.le_of_ble_eq_true rfl) (fun rr_7 S2 H locs hp hw hfr hnw => ?_)
  obtain ⟨e2_7, er_7⟩ := hp
  subst e2_7
  subst er_7
  refine lv_if_eq (tgt := 31) X.1 X.2.1 dX12_grade_10 (by decide) (fun c_10 => ?_) (fun c_10 => absurd c_10 (by decide))
  refine lv_iconst (v := (-1)) X.1 X.2.1 dX12_grade_31 (by decide) ?_
  exact ret_i X hw hr hlocks (Nat.le_of_ble_eq_true rfl) (Nat.le_of_ble_eq_true rfl) rfl dX12_grade_32
set_option maxHeartbeats 4000000 in
set_option maxRecDepth 100000 in
theorem c_X12_drawn (l : Launch) (G : va_G) (cy : Nat → ClassId) (S : PS) (sz : Nat) (mo : Nat) (a1 : Int32) (hF : FM S mo) : Ci l yX12_drawn wsX12_drawn ({ frames := 5, cells := 0, slots := 0, locals := 200 }) G cy S sz [.ref mo, .int (a1)] (fun (r : Int32) (S9 : PS) => r = -1) := by
  refine ent_m (cc := cX12_drawn) (maxL := 2) (ret := (some .int)) (by decide) rfl (Nat.le_of_ble_eq_true rfl) ?_
  intro p e s m below meth c ls X hr hlocks hin hw hl hsz
  subst hsz
  have X : Cx p c cX12_drawn 2 s [.ref mo, .int (a1)].toArray wsX12_drawn RX12 m G cy (AS S s.heap.size) := X
  have hl : lv_has ls 2 [(0, .ref mo), (1, .int (a1))] := hl
  obtain ⟨hat_mo, hci, ci_1229, hars, hz53, hz39⟩ := hF
  have ci_1251 := hci 1251 (by decide)
  refine lv_aload_n X.1 X.2.1 dX12_drawn_0 rfl (lv_at hl 0 rfl) ?_
  refine lv_iconst (v := 0) X.1 X.2.1 dX12_drawn_1 (by decide) ?_
  refine r_putI (v := 0) X hw hat_mo 0 1200 tyX12 (by decide) rfl inn_X12_drawn_12 tyX12_ok nmX12 (by decide) (X.2.2.2.1 (.fieldLink RX12 161 "SilkMillModel" "thrown" "I") (by decide +kernel)) rfl (Or.inl rfl) rfl rfl (Nat.le_of_ble_eq_true rfl) (st_1200 _ _) dX12_drawn_2 (fun H locs hw => ?_)
  generalize eS_1 : sI S 1200 mo 0 = S_1 at hw
  have hat_mo : At S_1 mo 12 := by rw [← eS_1]; exact At_sI hat_mo
  have ci_1251 : pI S_1 1251 mo = 0 := by rw [← eS_1]; exact (pI_sI_nf (by decide)).trans ci_1251
  have hc_2 : pI S_1 1200 mo = 0 := by rw [← eS_1]; exact pI_sI_same
  refine lv_aload_n X.1 X.2.1 dX12_drawn_5 rfl (lv_at hl 0 rfl) ?_
  refine r_get (v := .int 0) X hw hat_mo 51 (by decide) rfl inn_X12_drawn_12 (by decide) (X.2.2.2.1 (.fieldLink RX12 388 "SilkMillModel" "draws" "I") (by decide +kernel)) rfl ((gv_1251 _ _).trans (congrArg (fun z => some (Value.int z)) ci_1251)) dX12_drawn_6 ?_
  refine lv_if_eq (tgt := 26) X.1 X.2.1 dX12_drawn_9 (by decide) (fun c_9 => ?_) (fun c_9 => absurd c_9 (by decide))
  refine lv_iconst (v := (-1)) X.1 X.2.1 dX12_drawn_26 (by decide) ?_
  exact ret_i X hw hr hlocks (Nat.le_of_ble_eq_true rfl) (Nat.le_of_ble_eq_true rfl) rfl dX12_drawn_27
set_option maxHeartbeats 4000000 in
set_option maxRecDepth 100000 in
theorem c_X12_mixed (l : Launch) (G : va_G) (cy : Nat → ClassId) (S : PS) (sz : Nat) (mo : Nat) (a1 : Int32) (hF : FM S mo) : Ci l yX12_mixed wsX12_mixed ({ frames := 5, cells := 0, slots := 0, locals := 200 }) G cy S sz [.ref mo, .int (a1)] (fun (r : Int32) (S9 : PS) => r = 0) := by
  refine ent_m (cc := cX12_mixed) (maxL := 2) (ret := (some .boolean)) (by decide) rfl (Nat.le_of_ble_eq_true rfl) ?_
  intro p e s m below meth c ls X hr hlocks hin hw hl hsz
  subst hsz
  have X : Cx p c cX12_mixed 2 s [.ref mo, .int (a1)].toArray wsX12_mixed RX12 m G cy (AS S s.heap.size) := X
  have hl : lv_has ls 2 [(0, .ref mo), (1, .int (a1))] := hl
  obtain ⟨hat_mo, hci, ci_1229, hars, hz53, hz39⟩ := hF
  have ci_1238 := hci 1238 (by decide)
  refine lv_aload_n X.1 X.2.1 dX12_mixed_0 rfl (lv_at hl 0 rfl) ?_
  refine lv_iconst (v := 0) X.1 X.2.1 dX12_mixed_1 (by decide) ?_
  refine r_putI (v := 0) X hw hat_mo 0 1200 tyX12 (by decide) rfl inn_X12_mixed_12 tyX12_ok nmX12 (by decide) (X.2.2.2.1 (.fieldLink RX12 161 "SilkMillModel" "thrown" "I") (by decide +kernel)) rfl (Or.inl rfl) rfl rfl (Nat.le_of_ble_eq_true rfl) (st_1200 _ _) dX12_mixed_2 (fun H locs hw => ?_)
  generalize eS_1 : sI S 1200 mo 0 = S_1 at hw
  have hat_mo : At S_1 mo 12 := by rw [← eS_1]; exact At_sI hat_mo
  have ci_1238 : pI S_1 1238 mo = 0 := by rw [← eS_1]; exact (pI_sI_nf (by decide)).trans ci_1238
  have hc_2 : pI S_1 1200 mo = 0 := by rw [← eS_1]; exact pI_sI_same
  refine lv_aload_n X.1 X.2.1 dX12_mixed_5 rfl (lv_at hl 0 rfl) ?_
  refine lv_iload_n X.1 X.2.1 dX12_mixed_6 rfl (lv_at hl 1 rfl) ?_
  refine k_i (rm := { frames := 3, cells := 0, slots := 0, locals := 120 }) (av := [.ref mo, .int (a1)]) X hw (va_runV (As := [.int (a1)]) (rest := []) (cfix X) (c_X12_isSkein l G cy S_1 _ mo (a1) hat_mo ci_1238) (cwV 1 X.2.2.2.1 gX12_mixed_X12_isSkein rfl rfl rfl (by decide +kernel) ⟨Nat.le_of_ble_eq_true rfl, Nat.le_of_ble_eq_true rfl⟩) (pre_V X hw _ hat_mo (by decide) rfl) rfl rfl hl.1 rfl (lv_room (Nat.le_of_ble_eq_true rfl)) dX12_mixed_7 ⟨Nat.le_of_ble_eq_true rfl, Nat.le_of_ble_eq_true rfl⟩) 0 0 (Nat.le_of_ble_eq_true rfl) (Nat.le_of_ble_eq_true rfl) (fun rr_7 S2 H locs hp hw hfr hnw => ?_)
  obtain ⟨e2_7, er_7⟩ := hp
  subst e2_7
  subst er_7
  refine lv_if_eq (tgt := 26) X.1 X.2.1 dX12_mixed_10 (by decide) (fun c_10 => ?_) (fun c_10 => absurd c_10 (by decide))
  refine lv_iconst (v := 0) X.1 X.2.1 dX12_mixed_26 (by decide) ?_
  exact ret_z X hw hr hlocks (Nat.le_of_ble_eq_true rfl) (Nat.le_of_ble_eq_true rfl) (by decide) rfl dX12_mixed_27
set_option maxHeartbeats 4000000 in
set_option maxRecDepth 100000 in
theorem c_X12_fault (l : Launch) (G : va_G) (cy : Nat → ClassId) (S : PS) (sz : Nat) (mo : Nat) (a1 : Int32) (a2 : Int32) (hF : FM S mo) : Ci l yX12_fault wsX12_fault ({ frames := 5, cells := 0, slots := 0, locals := 200 }) G cy S sz [.ref mo, .int (a1), .int (a2)] (fun (r : Int32) (S9 : PS) => r = 0) := by
  refine ent_m (cc := cX12_fault) (maxL := 3) (ret := (some .boolean)) (by decide) rfl (Nat.le_of_ble_eq_true rfl) ?_
  intro p e s m below meth c ls X hr hlocks hin hw hl hsz
  subst hsz
  have X : Cx p c cX12_fault 3 s [.ref mo, .int (a1), .int (a2)].toArray wsX12_fault RX12 m G cy (AS S s.heap.size) := X
  have hl : lv_has ls 3 [(0, .ref mo), (1, .int (a1)), (2, .int (a2))] := hl
  obtain ⟨hat_mo, hci, ci_1229, hars, hz53, hz39⟩ := hF
  have ci_1238 := hci 1238 (by decide)
  refine lv_aload_n X.1 X.2.1 dX12_fault_0 rfl (lv_at hl 0 rfl) ?_
  refine lv_iconst (v := 0) X.1 X.2.1 dX12_fault_1 (by decide) ?_
  refine r_putI (v := 0) X hw hat_mo 0 1200 tyX12 (by decide) rfl inn_X12_fault_12 tyX12_ok nmX12 (by decide) (X.2.2.2.1 (.fieldLink RX12 161 "SilkMillModel" "thrown" "I") (by decide +kernel)) rfl (Or.inl rfl) rfl rfl (Nat.le_of_ble_eq_true rfl) (st_1200 _ _) dX12_fault_2 (fun H locs hw => ?_)
  generalize eS_1 : sI S 1200 mo 0 = S_1 at hw
  have hat_mo : At S_1 mo 12 := by rw [← eS_1]; exact At_sI hat_mo
  have ci_1238 : pI S_1 1238 mo = 0 := by rw [← eS_1]; exact (pI_sI_nf (by decide)).trans ci_1238
  have hc_2 : pI S_1 1200 mo = 0 := by rw [← eS_1]; exact pI_sI_same
  refine lv_aload_n X.1 X.2.1 dX12_fault_5 rfl (lv_at hl 0 rfl) ?_
  refine lv_iload_n X.1 X.2.1 dX12_fault_6 rfl (lv_at hl 1 rfl) ?_
  refine k_i (rm := { frames := 3, cells := 0, slots := 0, locals := 120 }) (av := [.ref mo, .int (a1)]) X hw (va_runV (As := [.int (a1)]) (rest := []) (cfix X) (c_X12_isSkein l G cy S_1 _ mo (a1) hat_mo ci_1238) (cwV 1 X.2.2.2.1 gX12_fault_X12_isSkein rfl rfl rfl (by decide +kernel) ⟨Nat.le_of_ble_eq_true rfl, Nat.le_of_ble_eq_true rfl⟩) (pre_V X hw _ hat_mo (by decide) rfl) rfl rfl hl.1 rfl (lv_room (Nat.le_of_ble_eq_true rfl)) dX12_fault_7 ⟨Nat.le_of_ble_eq_true rfl, Nat.le_of_ble_eq_true rfl⟩) 0 0 (Nat.le_of_ble_eq_true rfl) (Nat.le_of_ble_eq_true rfl) (fun rr_7 S2 H locs hp hw hfr hnw => ?_)
  obtain ⟨e2_7, er_7⟩ := hp
  subst e2_7
  subst er_7
  refine lv_if_eq (tgt := 33) X.1 X.2.1 dX12_fault_10 (by decide) (fun c_10 => ?_) (fun c_10 => absurd c_10 (by decide))
  refine lv_iconst (v := 0) X.1 X.2.1 dX12_fault_33 (by decide) ?_
  exact ret_z X hw hr hlocks (Nat.le_of_ble_eq_true rfl) (Nat.le_of_ble_eq_true rfl) (by decide) rfl dX12_fault_34
set_option maxHeartbeats 4000000 in
set_option maxRecDepth 100000 in
theorem c_X12_pay (l : Launch) (G : va_G) (cy : Nat → ClassId) (S : PS) (sz : Nat) (mo : Nat) (a1 : Int32) (a2 : Int32) (a3 : Int32) (hF : FM S mo) : Ci l yX12_pay wsX12_pay ({ frames := 5, cells := 0, slots := 0, locals := 200 }) G cy S sz [.ref mo, .int (a1), .int (a2), .int (a3)] (fun (r : Int32) (S9 : PS) => r = 0) := by
  refine ent_m (cc := cX12_pay) (maxL := 6) (ret := (some .int)) (by decide) rfl (Nat.le_of_ble_eq_true rfl) ?_
  intro p e s m below meth c ls X hr hlocks hin hw hl hsz
  subst hsz
  have X : Cx p c cX12_pay 6 s [.ref mo, .int (a1), .int (a2), .int (a3)].toArray wsX12_pay RX12 m G cy (AS S s.heap.size) := X
  have hl : lv_has ls 6 [(0, .ref mo), (1, .int (a1)), (2, .int (a2)), (3, .int (a3))] := hl
  obtain ⟨hat_mo, hci, ci_1229, hars, hz53, hz39⟩ := hF
  have ci_1211 := hci 1211 (by decide)
  refine lv_aload_n X.1 X.2.1 dX12_pay_0 rfl (lv_at hl 0 rfl) ?_
  refine lv_iconst (v := 0) X.1 X.2.1 dX12_pay_1 (by decide) ?_
  refine r_putI (v := 0) X hw hat_mo 0 1200 tyX12 (by decide) rfl inn_X12_pay_12 tyX12_ok nmX12 (by decide) (X.2.2.2.1 (.fieldLink RX12 161 "SilkMillModel" "thrown" "I") (by decide +kernel)) rfl (Or.inl rfl) rfl rfl (Nat.le_of_ble_eq_true rfl) (st_1200 _ _) dX12_pay_2 (fun H locs hw => ?_)
  generalize eS_1 : sI S 1200 mo 0 = S_1 at hw
  have hat_mo : At S_1 mo 12 := by rw [← eS_1]; exact At_sI hat_mo
  have ci_1211 : pI S_1 1211 mo = 0 := by rw [← eS_1]; exact (pI_sI_nf (by decide)).trans ci_1211
  have hc_2 : pI S_1 1200 mo = 0 := by rw [← eS_1]; exact pI_sI_same
  refine lv_aload_n X.1 X.2.1 dX12_pay_5 rfl (lv_at hl 0 rfl) ?_
  refine lv_iload_n X.1 X.2.1 dX12_pay_6 rfl (lv_at hl 1 rfl) ?_
  refine k_i (rm := { frames := 3, cells := 0, slots := 0, locals := 120 }) (av := [.ref mo, .int (a1)]) X hw (va_runV (As := [.int (a1)]) (rest := []) (cfix X) (c_X12_isPot l G cy S_1 _ mo (a1) hat_mo ci_1211) (cwV 1 X.2.2.2.1 gX12_pay_X12_isPot rfl rfl rfl (by decide +kernel) ⟨Nat.le_of_ble_eq_true rfl, Nat.le_of_ble_eq_true rfl⟩) (pre_V X hw _ hat_mo (by decide) rfl) rfl rfl hl.1 rfl (lv_room (Nat.le_of_ble_eq_true rfl)) dX12_pay_7 ⟨Nat.le_of_ble_eq_true rfl, Nat.le_of_ble_eq_true rfl⟩) 0 0 (Nat.le_of_ble_eq_true rfl) (Nat.le_of_ble_eq_true rfl) (fun rr_7 S2 H locs hp hw hfr hnw => ?_)
  obtain ⟨e2_7, er_7⟩ := hp
  subst e2_7
  subst er_7
  refine lv_if_eq (tgt := 37) X.1 X.2.1 dX12_pay_10 (by decide) (fun c_10 => ?_) (fun c_10 => absurd c_10 (by decide))
  refine lv_iconst (v := 0) X.1 X.2.1 dX12_pay_37 (by decide) ?_
  exact ret_i X hw hr hlocks (Nat.le_of_ble_eq_true rfl) (Nat.le_of_ble_eq_true rfl) rfl dX12_pay_38
set_option maxHeartbeats 4000000 in
set_option maxRecDepth 100000 in
theorem c_X12_day (l : Launch) (G : va_G) (cy : Nat → ClassId) (S : PS) (sz : Nat) (mo : Nat) (hF : FM S mo) : Ci l yX12_day wsX12_day ({ frames := 5, cells := 0, slots := 0, locals := 200 }) G cy S sz [.ref mo] (fun (r : Int32) (S9 : PS) => r = 1) := by
  refine ent_m (cc := cX12_day) (maxL := 1) (ret := (some .int)) (by decide) rfl (Nat.le_of_ble_eq_true rfl) ?_
  intro p e s m below meth c ls X hr hlocks hin hw hl hsz
  subst hsz
  have X : Cx p c cX12_day 1 s [.ref mo].toArray wsX12_day RX12 m G cy (AS S s.heap.size) := X
  have hl : lv_has ls 1 [(0, .ref mo)] := hl
  obtain ⟨hat_mo, hci, ci_1229, hars, hz53, hz39⟩ := hF
  have ci_1245 := hci 1245 (by decide)
  refine lv_aload_n X.1 X.2.1 dX12_day_0 rfl (lv_at hl 0 rfl) ?_
  refine lv_iconst (v := 0) X.1 X.2.1 dX12_day_1 (by decide) ?_
  refine r_putI (v := 0) X hw hat_mo 0 1200 tyX12 (by decide) rfl inn_X12_day_12 tyX12_ok nmX12 (by decide) (X.2.2.2.1 (.fieldLink RX12 161 "SilkMillModel" "thrown" "I") (by decide +kernel)) rfl (Or.inl rfl) rfl rfl (Nat.le_of_ble_eq_true rfl) (st_1200 _ _) dX12_day_2 (fun H locs hw => ?_)
  generalize eS_1 : sI S 1200 mo 0 = S_1 at hw
  have hat_mo : At S_1 mo 12 := by rw [← eS_1]; exact At_sI hat_mo
  have ci_1245 : pI S_1 1245 mo = 0 := by rw [← eS_1]; exact (pI_sI_nf (by decide)).trans ci_1245
  have hc_2 : pI S_1 1200 mo = 0 := by rw [← eS_1]; exact pI_sI_same
  refine lv_aload_n X.1 X.2.1 dX12_day_5 rfl (lv_at hl 0 rfl) ?_
  refine lv_dup X.1 X.2.1 dX12_day_6 rfl ?_
  refine r_get (v := .int 0) X hw hat_mo 45 (by decide) rfl inn_X12_day_12 (by decide) (X.2.2.2.1 (.fieldLink RX12 302 "SilkMillModel" "today" "I") (by decide +kernel)) rfl ((gv_1245 _ _).trans (congrArg (fun z => some (Value.int z)) ci_1245)) dX12_day_7 ?_
  refine lv_iconst (v := 1) X.1 X.2.1 dX12_day_10 (by decide) ?_
  refine lv_iadd X.1 X.2.1 dX12_day_11 ?_
  refine lv_topi (fun v_3 ev_3 => ?_)
  obtain rfl : v_3 = 1 := ev_3.trans (by decide +kernel)
  refine r_putI (v := 1) X hw hat_mo 45 1245 tyX12 (by decide) rfl inn_X12_day_12 tyX12_ok nmX12 (by decide) (X.2.2.2.1 (.fieldLink RX12 302 "SilkMillModel" "today" "I") (by decide +kernel)) rfl (Or.inl rfl) rfl rfl (Nat.le_of_ble_eq_true rfl) (st_1245 _ _) dX12_day_12 (fun H locs hw => ?_)
  generalize eS_4 : sI S_1 1245 mo 1 = S_4 at hw
  have hat_mo : At S_4 mo 12 := by rw [← eS_4]; exact At_sI hat_mo
  have hc_2 : pI S_4 1200 mo = 0 := by rw [← eS_4]; exact (pI_sI_nf (by decide)).trans hc_2
  have hc_5 : pI S_4 1245 mo = 1 := by rw [← eS_4]; exact pI_sI_same
  refine lv_aload_n X.1 X.2.1 dX12_day_15 rfl (lv_at hl 0 rfl) ?_
  refine r_get (v := .int 1) X hw hat_mo 45 (by decide) rfl inn_X12_day_12 (by decide) (X.2.2.2.1 (.fieldLink RX12 302 "SilkMillModel" "today" "I") (by decide +kernel)) rfl ((gv_1245 _ _).trans (congrArg (fun z => some (Value.int z)) hc_5)) dX12_day_16 ?_
  exact ret_i X hw hr hlocks (Nat.le_of_ble_eq_true rfl) (Nat.le_of_ble_eq_true rfl) rfl dX12_day_19
set_option maxHeartbeats 4000000 in
set_option maxRecDepth 100000 in
theorem c_X12_end (l : Launch) (G : va_G) (cy : Nat → ClassId) (S : PS) (sz : Nat) (mo : Nat) (a1 : Int32) (hF : FM S mo) : Ci l yX12_end wsX12_end ({ frames := 5, cells := 0, slots := 0, locals := 200 }) G cy S sz [.ref mo, .int (a1)] (fun (r : Int32) (S9 : PS) => r = endV a1) := by
  refine ent_m (cc := cX12_end) (maxL := 2) (ret := (some .int)) (by decide) rfl (Nat.le_of_ble_eq_true rfl) ?_
  intro p e s m below meth c ls X hr hlocks hin hw hl hsz
  subst hsz
  have X : Cx p c cX12_end 2 s [.ref mo, .int (a1)].toArray wsX12_end RX12 m G cy (AS S s.heap.size) := X
  have hl : lv_has ls 2 [(0, .ref mo), (1, .int (a1))] := hl
  obtain ⟨hat_mo, hci, ci_1229, hars, hz53, hz39⟩ := hF
  have ci_1228 := hci 1228 (by decide)
  refine lv_aload_n X.1 X.2.1 dX12_end_0 rfl (lv_at hl 0 rfl) ?_
  refine lv_iconst (v := 0) X.1 X.2.1 dX12_end_1 (by decide) ?_
  refine r_putI (v := 0) X hw hat_mo 0 1200 tyX12 (by decide) rfl inn_X12_end_12 tyX12_ok nmX12 (by decide) (X.2.2.2.1 (.fieldLink RX12 161 "SilkMillModel" "thrown" "I") (by decide +kernel)) rfl (Or.inl rfl) rfl rfl (Nat.le_of_ble_eq_true rfl) (st_1200 _ _) dX12_end_2 (fun H locs hw => ?_)
  generalize eS_1 : sI S 1200 mo 0 = S_1 at hw
  have hat_mo : At S_1 mo 12 := by rw [← eS_1]; exact At_sI hat_mo
  have ci_1228 : pI S_1 1228 mo = 0 := by rw [← eS_1]; exact (pI_sI_nf (by decide)).trans ci_1228
  have hc_2 : pI S_1 1200 mo = 0 := by rw [← eS_1]; exact pI_sI_same
  refine lv_iload_n X.1 X.2.1 dX12_end_5 rfl (lv_at hl 1 rfl) ?_
  refine lv_iconst (v := 0) X.1 X.2.1 dX12_end_6 (by decide) ?_
  refine lv_aload_n X.1 X.2.1 dX12_end_7 rfl (lv_at hl 0 rfl) ?_
  refine r_get (v := .int 0) X hw hat_mo 28 (by decide) rfl inn_X12_end_12 (by decide) (X.2.2.2.1 (.fieldLink RX12 211 "SilkMillModel" "taped" "I") (by decide +kernel)) rfl ((gv_1228 _ _).trans (congrArg (fun z => some (Value.int z)) ci_1228)) dX12_end_8 ?_
  refine k_i (rm := { frames := 1, cells := 0, slots := 0, locals := 40 }) (av := [.int (a1), .int 0, .int 0]) X hw (va_runS (As := [.int (a1), .int 0, .int 0]) (rest := []) (cfix X) (c_X12_within l G cy S_1 _ (a1) (0) (0)) (cwS 3 X.2.2.2.1 gX12_end_X12_within rfl rfl rfl (by decide +kernel) ⟨Nat.le_of_ble_eq_true rfl, Nat.le_of_ble_eq_true rfl⟩) (pre_S X hw _) rfl rfl hl.1 rfl (lv_room (Nat.le_of_ble_eq_true rfl)) dX12_end_11 ⟨Nat.le_of_ble_eq_true rfl, Nat.le_of_ble_eq_true rfl⟩) 0 0 (Nat.le_of_ble_eq_true rfl) (Nat.le_of_ble_eq_true rfl) (fun rr_11 S2 H locs hp hw hfr hnw => ?_)
  obtain ⟨e2_11, hp⟩ := hp
  subst e2_11
  rcases hp with ⟨b_11, er_11⟩ | ⟨b_11, er_11⟩ <;> subst er_11
  · have z_11 := trivial
    refine lv_if_ne (tgt := 19) X.1 X.2.1 dX12_end_14 (by decide) (fun c_14 => ?_) (fun c_14 => absurd c_14 (by decide))
    refine lv_aload_n X.1 X.2.1 dX12_end_19 rfl (lv_at hl 0 rfl) ?_
    refine lv_iload_n X.1 X.2.1 dX12_end_20 rfl (lv_at hl 1 rfl) ?_
    refine r_putI (v := a1) X hw hat_mo 28 1228 tyX12 (by decide) rfl inn_X12_end_12 tyX12_ok nmX12 (by decide) (X.2.2.2.1 (.fieldLink RX12 211 "SilkMillModel" "taped" "I") (by decide +kernel)) rfl (Or.inl rfl) rfl rfl (Nat.le_of_ble_eq_true rfl) (st_1228 _ _) dX12_end_21 (fun H locs hw => ?_)
    generalize eS_3 : sI S_1 1228 mo a1 = S_3 at hw
    have hat_mo : At S_3 mo 12 := by rw [← eS_3]; exact At_sI hat_mo
    have hc_2 : pI S_3 1200 mo = 0 := by rw [← eS_3]; exact (pI_sI_nf (by decide)).trans hc_2
    have hc_4 : pI S_3 1228 mo = a1 := by rw [← eS_3]; exact pI_sI_same
    refine lv_iload_n X.1 X.2.1 dX12_end_24 rfl (lv_at hl 1 rfl) ?_
    exact ret_i X hw hr hlocks (Nat.le_of_ble_eq_true rfl) (Nat.le_of_ble_eq_true rfl) (if_pos b_11).symm dX12_end_25
  · have z_11 := trivial
    refine lv_if_ne (tgt := 19) X.1 X.2.1 dX12_end_14 (by decide) (fun c_14 => absurd c_14 (by decide)) (fun c_14 => ?_)
    refine lv_iconst (v := (-1)) X.1 X.2.1 dX12_end_17 (by decide) ?_
    exact ret_i X hw hr hlocks (Nat.le_of_ble_eq_true rfl) (Nat.le_of_ble_eq_true rfl) (if_neg (fun h => b_11 h)).symm dX12_end_18
set_option maxHeartbeats 4000000 in
set_option maxRecDepth 100000 in
theorem c_X12_price (l : Launch) (G : va_G) (cy : Nat → ClassId) (S : PS) (sz : Nat) (mo : Nat) (a1 : Int32) (a2 : Int32) (hF : FM S mo) : Ci l yX12_price wsX12_price ({ frames := 5, cells := 0, slots := 0, locals := 200 }) G cy S sz [.ref mo, .int (a1), .int (a2)] (fun (r : Int32) (S9 : PS) => r = priV a1 a2) := by
  refine ent_m (cc := cX12_price) (maxL := 3) (ret := (some .boolean)) (by decide) rfl (Nat.le_of_ble_eq_true rfl) ?_
  intro p e s m below meth c ls X hr hlocks hin hw hl hsz
  subst hsz
  have X : Cx p c cX12_price 3 s [.ref mo, .int (a1), .int (a2)].toArray wsX12_price RX12 m G cy (AS S s.heap.size) := X
  have hl : lv_has ls 3 [(0, .ref mo), (1, .int (a1)), (2, .int (a2))] := hl
  obtain ⟨hat_mo, hci, ci_1229, hars, hz53, hz39⟩ := hF
  obtain ⟨q1248, rf_q1248, hat_q1248, ln_q1248⟩ := hars (1248, 14, 4) (by decide +kernel)
  have rf_q1248 : pR S 1248 mo = some q1248 := rf_q1248
  have hat_q1248 : At S q1248 14 := hat_q1248
  have ln_q1248 : pN S q1248 = 4 := ln_q1248
  refine lv_aload_n X.1 X.2.1 dX12_price_0 rfl (lv_at hl 0 rfl) ?_
  refine lv_iconst (v := 0) X.1 X.2.1 dX12_price_1 (by decide) ?_
  refine r_putI (v := 0) X hw hat_mo 0 1200 tyX12 (by decide) rfl inn_X12_price_12 tyX12_ok nmX12 (by decide) (X.2.2.2.1 (.fieldLink RX12 161 "SilkMillModel" "thrown" "I") (by decide +kernel)) rfl (Or.inl rfl) rfl rfl (Nat.le_of_ble_eq_true rfl) (st_1200 _ _) dX12_price_2 (fun H locs hw => ?_)
  generalize eS_1 : sI S 1200 mo 0 = S_1 at hw
  have hat_mo : At S_1 mo 12 := by rw [← eS_1]; exact At_sI hat_mo
  have hat_q1248 : At S_1 q1248 14 := by rw [← eS_1]; exact At_sI hat_q1248
  have rf_q1248 : pR S_1 1248 mo = some q1248 := by rw [← eS_1, pR_sI]; exact rf_q1248
  have ln_q1248 : pN S_1 q1248 = 4 := by rw [← eS_1, pN_sI]; exact ln_q1248
  have hc_2 : pI S_1 1200 mo = 0 := by rw [← eS_1]; exact pI_sI_same
  refine lv_iload_n X.1 X.2.1 dX12_price_5 rfl (lv_at hl 1 rfl) ?_
  refine lv_iconst (v := 0) X.1 X.2.1 dX12_price_6 (by decide) ?_
  refine lv_iconst (v := 3) X.1 X.2.1 dX12_price_7 (by decide) ?_
  refine k_i (rm := { frames := 1, cells := 0, slots := 0, locals := 40 }) (av := [.int (a1), .int 0, .int 3]) X hw (va_runS (As := [.int (a1), .int 0, .int 3]) (rest := []) (cfix X) (c_X12_within l G cy S_1 _ (a1) (0) (3)) (cwS 3 X.2.2.2.1 gX12_price_X12_within rfl rfl rfl (by decide +kernel) ⟨Nat.le_of_ble_eq_true rfl, Nat.le_of_ble_eq_true rfl⟩) (pre_S X hw _) rfl rfl hl.1 rfl (lv_room (Nat.le_of_ble_eq_true rfl)) dX12_price_8 ⟨Nat.le_of_ble_eq_true rfl, Nat.le_of_ble_eq_true rfl⟩) 0 0 (Nat.le_of_ble_eq_true rfl) (Nat.le_of_ble_eq_true rfl) (fun rr_8 S2 H locs hp hw hfr hnw => ?_)
  obtain ⟨e2_8, hp⟩ := hp
  subst e2_8
  rcases hp with ⟨b_8, er_8⟩ | ⟨b_8, er_8⟩ <;> subst er_8
  · have z_8 := trivial
    refine lv_if_eq (tgt := 25) X.1 X.2.1 dX12_price_11 (by decide) (fun c_11 => absurd c_11 (by decide)) (fun c_11 => ?_)
    refine lv_iload_n X.1 X.2.1 dX12_price_14 rfl (lv_at hl 2 rfl) ?_
    refine lv_iconst (v := 0) X.1 X.2.1 dX12_price_15 (by decide) ?_
    refine lv_sipush (v := 1000) X.1 X.2.1 dX12_price_16 (by decide) ?_
    refine k_i (rm := { frames := 1, cells := 0, slots := 0, locals := 40 }) (av := [.int (a2), .int 0, .int 1000]) X hw (va_runS (As := [.int (a2), .int 0, .int 1000]) (rest := []) (cfix X) (c_X12_within l G cy S_1 _ (a2) (0) (1000)) (cwS 3 X.2.2.2.1 gX12_price_X12_within rfl rfl rfl (by decide +kernel) ⟨Nat.le_of_ble_eq_true rfl, Nat.le_of_ble_eq_true rfl⟩) (pre_S X hw _) rfl rfl hl.1 rfl (lv_room (Nat.le_of_ble_eq_true rfl)) dX12_price_19 ⟨Nat.le_of_ble_eq_true rfl, Nat.le_of_ble_eq_true rfl⟩) 0 0 (Nat.le_of_ble_eq_true rfl) (Nat.le_of_ble_eq_true rfl) (fun rr_19 S2 H locs hp hw hfr hnw => ?_)
    obtain ⟨e2_19, hp⟩ := hp
    subst e2_19
    rcases hp with ⟨b_19, er_19⟩ | ⟨b_19, er_19⟩ <;> subst er_19
    · have z_19 := trivial
      refine lv_if_ne (tgt := 27) X.1 X.2.1 dX12_price_22 (by decide) (fun c_22 => ?_) (fun c_22 => absurd c_22 (by decide))
      refine lv_aload_n X.1 X.2.1 dX12_price_27 rfl (lv_at hl 0 rfl) ?_
      refine r_getR (g := 1248) X hw hat_mo 48 rf_q1248 (by decide) rfl inn_X12_price_12 (by decide) (X.2.2.2.1 (.fieldLink RX12 119 "SilkMillModel" "price" "[I") (by decide +kernel)) rfl (gv_1248 _ _) dX12_price_28 ?_
      refine lv_iload_n X.1 X.2.1 dX12_price_31 rfl (lv_at hl 1 rfl) ?_
      refine lv_iload_n X.1 X.2.1 dX12_price_32 rfl (lv_at hl 2 rfl) ?_
      refine r_iast X hw hat_q1248 (by rw [ln_q1248]; exact wi_vp b_8 (by decide)) dX12_price_33 (fun H locs hw => ?_)
      generalize eS_3 : sA S_1 q1248 (upd (pA S_1 q1248) (Int32.toNatClampNeg (a1)) a2) = S_3 at hw
      have hat_mo : At S_3 mo 12 := by rw [← eS_3]; exact At_sA hat_mo
      have hat_q1248 : At S_3 q1248 14 := by rw [← eS_3]; exact At_sA hat_q1248
      have rf_q1248 : pR S_3 1248 mo = some q1248 := by rw [← eS_3, pR_sA]; exact rf_q1248
      have hc_2 : pI S_3 1200 mo = 0 := by rw [← eS_3, pI_sA]; exact hc_2
      have ln_q1248 : pN S_3 q1248 = 4 := by rw [← eS_3, pN_sA]; exact ln_q1248
      refine lv_iconst (v := 1) X.1 X.2.1 dX12_price_34 (by decide) ?_
      exact ret_z X hw hr hlocks (Nat.le_of_ble_eq_true rfl) (Nat.le_of_ble_eq_true rfl) (by decide) (if_pos ⟨b_8, b_19⟩).symm dX12_price_35
    · have z_19 := trivial
      refine lv_if_ne (tgt := 27) X.1 X.2.1 dX12_price_22 (by decide) (fun c_22 => absurd c_22 (by decide)) (fun c_22 => ?_)
      refine lv_iconst (v := 0) X.1 X.2.1 dX12_price_25 (by decide) ?_
      exact ret_z X hw hr hlocks (Nat.le_of_ble_eq_true rfl) (Nat.le_of_ble_eq_true rfl) (by decide) (if_neg (fun h => b_19 h.2)).symm dX12_price_26
  · have z_8 := trivial
    refine lv_if_eq (tgt := 25) X.1 X.2.1 dX12_price_11 (by decide) (fun c_11 => ?_) (fun c_11 => absurd c_11 (by decide))
    refine lv_iconst (v := 0) X.1 X.2.1 dX12_price_25 (by decide) ?_
    exact ret_z X hw hr hlocks (Nat.le_of_ble_eq_true rfl) (Nat.le_of_ble_eq_true rfl) (by decide) (if_neg (fun h => b_8 h.1)).symm dX12_price_26
