set_option maxHeartbeats 4000000 in
set_option maxRecDepth 100000 in
theorem c_X11_isWithin (l : Launch) (G : va_G) (cy : Nat → ClassId) (S : PS) (sz : Nat) (v : Int32) (lo : Int32) (hi : Int32)  : Ci l yX11_isWithin wsX11_isWithin ({ frames := 1, cells := 0, slots := 0, locals := 40 }) G cy S sz [.int (v), .int (lo), .int (hi)] (fun (r : Int32) (S9 : PS) => S = S9 ∧ ((wi v lo hi ∧ r = 1) ∨ (¬ wi v lo hi ∧ r = 0))) := by
  refine ent_m (cc := cX11_isWithin) (maxL := 3) (ret := (some .boolean)) (by decide) rfl (Nat.le_of_ble_eq_true rfl) ?_
  intro p e s m below meth c ls X hr hlocks hin hw hl hsz
  subst hsz
  have X : Cx p c cX11_isWithin 3 s [.int (v), .int (lo), .int (hi)].toArray wsX11_isWithin RX11 m G cy (AS S s.heap.size) := X
  have hl : lv_has ls 3 [(0, .int (v)), (1, .int (lo)), (2, .int (hi))] := hl
  refine lv_iload_n X.1 X.2.1 dX11_isWithin_0 rfl (lv_at hl 0 rfl) ?_
  refine lv_iload_n X.1 X.2.1 dX11_isWithin_1 rfl (lv_at hl 1 rfl) ?_
  refine lv_icmp_lt (tgt := 14) X.1 X.2.1 dX11_isWithin_2 (by decide) (fun c_2 => ?_) (fun c_2 => ?_)
  · have z_2 := trivial
    refine lv_iconst (v := 0) X.1 X.2.1 dX11_isWithin_14 (by decide) ?_
    exact ret_z X hw hr hlocks (Nat.le_of_ble_eq_true rfl) (Nat.le_of_ble_eq_true rfl) (by decide) ⟨rfl, Or.inr ⟨by first | exact wi_f1 ‹_› | exact wi_f2 ‹_›, rfl⟩⟩ dX11_isWithin_15
  · have z_2 := trivial
    refine lv_iload_n X.1 X.2.1 dX11_isWithin_5 rfl (lv_at hl 0 rfl) ?_
    refine lv_iload_n X.1 X.2.1 dX11_isWithin_6 rfl (lv_at hl 2 rfl) ?_
    refine lv_icmp_gt (tgt := 14) X.1 X.2.1 dX11_isWithin_7 (by decide) (fun c_7 => ?_) (fun c_7 => ?_)
    · have z_7 := trivial
      refine lv_iconst (v := 0) X.1 X.2.1 dX11_isWithin_14 (by decide) ?_
      exact ret_z X hw hr hlocks (Nat.le_of_ble_eq_true rfl) (Nat.le_of_ble_eq_true rfl) (by decide) ⟨rfl, Or.inr ⟨by first | exact wi_f1 ‹_› | exact wi_f2 ‹_›, rfl⟩⟩ dX11_isWithin_15
    · have z_7 := trivial
      refine lv_iconst (v := 1) X.1 X.2.1 dX11_isWithin_10 (by decide) ?_
      refine lv_goto (tgt := 15) X.1 X.2.1 dX11_isWithin_11 (by decide) ?_
      exact ret_z X hw hr hlocks (Nat.le_of_ble_eq_true rfl) (Nat.le_of_ble_eq_true rfl) (by decide) ⟨rfl, Or.inl ⟨wi_t c_2 c_7, rfl⟩⟩ dX11_isWithin_15
set_option maxHeartbeats 4000000 in
set_option maxRecDepth 100000 in
theorem c_X12_within (l : Launch) (G : va_G) (cy : Nat → ClassId) (S : PS) (sz : Nat) (v : Int32) (lo : Int32) (hi : Int32)  : Ci l yX12_within wsX12_within ({ frames := 1, cells := 0, slots := 0, locals := 40 }) G cy S sz [.int (v), .int (lo), .int (hi)] (fun (r : Int32) (S9 : PS) => S = S9 ∧ ((wi v lo hi ∧ r = 1) ∨ (¬ wi v lo hi ∧ r = 0))) := by
  refine ent_m (cc := cX12_within) (maxL := 3) (ret := (some .boolean)) (by decide) rfl (Nat.le_of_ble_eq_true rfl) ?_
  intro p e s m below meth c ls X hr hlocks hin hw hl hsz
  subst hsz
  have X : Cx p c cX12_within 3 s [.int (v), .int (lo), .int (hi)].toArray wsX12_within RX12 m G cy (AS S s.heap.size) := X
  have hl : lv_has ls 3 [(0, .int (v)), (1, .int (lo)), (2, .int (hi))] := hl
  refine lv_iload_n X.1 X.2.1 dX12_within_0 rfl (lv_at hl 0 rfl) ?_
  refine lv_iload_n X.1 X.2.1 dX12_within_1 rfl (lv_at hl 1 rfl) ?_
  refine lv_icmp_lt (tgt := 14) X.1 X.2.1 dX12_within_2 (by decide) (fun c_2 => ?_) (fun c_2 => ?_)
  · have z_2 := trivial
    refine lv_iconst (v := 0) X.1 X.2.1 dX12_within_14 (by decide) ?_
    exact ret_z X hw hr hlocks (Nat.le_of_ble_eq_true rfl) (Nat.le_of_ble_eq_true rfl) (by decide) ⟨rfl, Or.inr ⟨by first | exact wi_f1 ‹_› | exact wi_f2 ‹_›, rfl⟩⟩ dX12_within_15
  · have z_2 := trivial
    refine lv_iload_n X.1 X.2.1 dX12_within_5 rfl (lv_at hl 0 rfl) ?_
    refine lv_iload_n X.1 X.2.1 dX12_within_6 rfl (lv_at hl 2 rfl) ?_
    refine lv_icmp_gt (tgt := 14) X.1 X.2.1 dX12_within_7 (by decide) (fun c_7 => ?_) (fun c_7 => ?_)
    · have z_7 := trivial
      refine lv_iconst (v := 0) X.1 X.2.1 dX12_within_14 (by decide) ?_
      exact ret_z X hw hr hlocks (Nat.le_of_ble_eq_true rfl) (Nat.le_of_ble_eq_true rfl) (by decide) ⟨rfl, Or.inr ⟨by first | exact wi_f1 ‹_› | exact wi_f2 ‹_›, rfl⟩⟩ dX12_within_15
    · have z_7 := trivial
      refine lv_iconst (v := 1) X.1 X.2.1 dX12_within_10 (by decide) ?_
      refine lv_goto (tgt := 15) X.1 X.2.1 dX12_within_11 (by decide) ?_
      exact ret_z X hw hr hlocks (Nat.le_of_ble_eq_true rfl) (Nat.le_of_ble_eq_true rfl) (by decide) ⟨rfl, Or.inl ⟨wi_t c_2 c_7, rfl⟩⟩ dX12_within_15
set_option maxHeartbeats 4000000 in
set_option maxRecDepth 100000 in
theorem c_X11_isTarget (l : Launch) (G : va_G) (cy : Nat → ClassId) (S : PS) (sz : Nat) (v : Int32)  : Ci l yX11_isTarget wsX11_isTarget ({ frames := 2, cells := 0, slots := 0, locals := 80 }) G cy S sz [.int (v)] (fun (r : Int32) (S9 : PS) => S = S9 ∧ ((wi v 10 2000 ∧ r = 1) ∨ (¬ wi v 10 2000 ∧ r = 0))) := by
  refine ent_m (cc := cX11_isTarget) (maxL := 1) (ret := (some .boolean)) (by decide) rfl (Nat.le_of_ble_eq_true rfl) ?_
  intro p e s m below meth c ls X hr hlocks hin hw hl hsz
  subst hsz
  have X : Cx p c cX11_isTarget 1 s [.int (v)].toArray wsX11_isTarget RX11 m G cy (AS S s.heap.size) := X
  have hl : lv_has ls 1 [(0, .int (v))] := hl
  refine lv_iload_n X.1 X.2.1 dX11_isTarget_0 rfl (lv_at hl 0 rfl) ?_
  refine lv_bipush (v := 10) X.1 X.2.1 dX11_isTarget_1 (by decide) ?_
  refine lv_sipush (v := 2000) X.1 X.2.1 dX11_isTarget_3 (by decide) ?_
  refine k_i (rm := { frames := 1, cells := 0, slots := 0, locals := 40 }) (av := [.int (v), .int 10, .int 2000]) X hw (va_runS (As := [.int (v), .int 10, .int 2000]) (rest := []) (cfix X) (c_X11_isWithin l G cy S _ (v) (10) (2000)) (cwS 3 X.2.2.2.1 gX11_isTarget_X11_isWithin rfl rfl rfl (by decide +kernel) ⟨Nat.le_of_ble_eq_true rfl, Nat.le_of_ble_eq_true rfl⟩) (pre_S X hw _) rfl rfl hl.1 rfl (lv_room (Nat.le_of_ble_eq_true rfl)) dX11_isTarget_6 ⟨Nat.le_of_ble_eq_true rfl, Nat.le_of_ble_eq_true rfl⟩) 0 0 (Nat.le_of_ble_eq_true rfl) (Nat.le_of_ble_eq_true rfl) (fun rr_6 S2 H locs hp hw hfr hnw => ?_)
  obtain ⟨e2_6, hp⟩ := hp
  subst e2_6
  rcases hp with ⟨b_6, er_6⟩ | ⟨b_6, er_6⟩ <;> subst er_6
  · have z_6 := trivial
    exact ret_z X hw hr hlocks (Nat.le_of_ble_eq_true rfl) (Nat.le_of_ble_eq_true rfl) (by decide) ⟨rfl, Or.inl ⟨b_6, rfl⟩⟩ dX11_isTarget_9
  · have z_6 := trivial
    exact ret_z X hw hr hlocks (Nat.le_of_ble_eq_true rfl) (Nat.le_of_ble_eq_true rfl) (by decide) ⟨rfl, Or.inr ⟨b_6, rfl⟩⟩ dX11_isTarget_9
set_option maxHeartbeats 4000000 in
set_option maxRecDepth 100000 in
theorem c_X11_cocoonAt (l : Launch) (G : va_G) (cy : Nat → ClassId) (S : PS) (sz : Nat) (x : Nat) (a1 : Int32) (a2 : Int32) (hF : FX S x) : Cq l yX11_cocoonAt wsX11_cocoonAt ({ frames := 1, cells := 0, slots := 0, locals := 40 }) G cy S sz [.ref x, .int (a1), .int (a2)] (fun (r : Option Nat) (S9 : PS) => S = S9 ∧ r = none) := by
  refine ent_m (cc := cX11_cocoonAt) (maxL := 3) (ret := (some (.object "SilkMill$Cocoon"))) (by decide) rfl (Nat.le_of_ble_eq_true rfl) ?_
  intro p e s m below meth c ls X hr hlocks hin hw hl hsz
  subst hsz
  have X : Cx p c cX11_cocoonAt 3 s [.ref x, .int (a1), .int (a2)].toArray wsX11_cocoonAt RX11 m G cy (AS S s.heap.size) := X
  have hl : lv_has ls 3 [(0, .ref x), (1, .int (a1)), (2, .int (a2))] := hl
  obtain ⟨hat_x, ci_lots, ci_pots, ci_shv, ⟨cs, rf_cs, hat_cs, ln_cs⟩, ⟨lz, rf_lz, hat_lz, ln_lz⟩, ⟨ps, rf_ps, hat_ps, ln_ps⟩, ⟨tp, rf_tp, hat_tp, ci_tsz, ci_tfp, ⟨tb, rf_tb, hat_tb, ln_tb⟩⟩, ⟨st, rf_st, hat_st, ci_st, ⟨pr, rf_pr, hat_pr, ln_pr⟩, ⟨mx, rf_mx, hat_mx⟩⟩, ⟨dr, rf_dr, hat_dr, ci_dsz⟩, sh, rf_sh, hat_sh, ln_sh, hpl⟩ := hF
  refine lv_iload_n X.1 X.2.1 dX11_cocoonAt_0 rfl (lv_at hl 1 rfl) ?_
  refine lv_if_lt (tgt := 26) X.1 X.2.1 dX11_cocoonAt_1 (by decide) (fun c_1 => ?_) (fun c_1 => ?_)
  · have z_1 := trivial
    refine lv_null X.1 X.2.1 dX11_cocoonAt_26 ?_
    exact ret_q none rfl X hw hr hlocks (Nat.le_of_ble_eq_true rfl) (Nat.le_of_ble_eq_true rfl) ⟨rfl, rfl⟩ dX11_cocoonAt_27
  · have z_1 := trivial
    refine lv_iload_n X.1 X.2.1 dX11_cocoonAt_4 rfl (lv_at hl 1 rfl) ?_
    refine lv_aload_n X.1 X.2.1 dX11_cocoonAt_5 rfl (lv_at hl 0 rfl) ?_
    refine r_get (v := .int 0) X hw hat_x 2 (by decide) rfl inn_X11_cocoonAt_11 (by decide) (X.2.2.2.1 (.fieldLink RX11 63 "SilkMill" "lots" "I") (by decide +kernel)) rfl ((gv_1102 _ _).trans (congrArg (fun z => some (Value.int z)) ci_lots)) dX11_cocoonAt_6 ?_
    refine lv_icmp_ge (tgt := 26) X.1 X.2.1 dX11_cocoonAt_9 (by decide) (fun c_9 => ?_) (fun c_9 => absurd (Int32.not_lt.mp c_1) c_9)
    refine lv_null X.1 X.2.1 dX11_cocoonAt_26 ?_
    exact ret_q none rfl X hw hr hlocks (Nat.le_of_ble_eq_true rfl) (Nat.le_of_ble_eq_true rfl) ⟨rfl, rfl⟩ dX11_cocoonAt_27
set_option maxHeartbeats 4000000 in
set_option maxRecDepth 100000 in
theorem c_X11_potAt (l : Launch) (G : va_G) (cy : Nat → ClassId) (S : PS) (sz : Nat) (x : Nat) (a1 : Int32) (hF : FX S x) : Cq l yX11_potAt wsX11_potAt ({ frames := 1, cells := 0, slots := 0, locals := 40 }) G cy S sz [.ref x, .int (a1)] (fun (r : Option Nat) (S9 : PS) => S = S9 ∧ r = none) := by
  refine ent_m (cc := cX11_potAt) (maxL := 2) (ret := (some (.object "SilkMill$Pot"))) (by decide) rfl (Nat.le_of_ble_eq_true rfl) ?_
  intro p e s m below meth c ls X hr hlocks hin hw hl hsz
  subst hsz
  have X : Cx p c cX11_potAt 2 s [.ref x, .int (a1)].toArray wsX11_potAt RX11 m G cy (AS S s.heap.size) := X
  have hl : lv_has ls 2 [(0, .ref x), (1, .int (a1))] := hl
  obtain ⟨hat_x, ci_lots, ci_pots, ci_shv, ⟨cs, rf_cs, hat_cs, ln_cs⟩, ⟨lz, rf_lz, hat_lz, ln_lz⟩, ⟨ps, rf_ps, hat_ps, ln_ps⟩, ⟨tp, rf_tp, hat_tp, ci_tsz, ci_tfp, ⟨tb, rf_tb, hat_tb, ln_tb⟩⟩, ⟨st, rf_st, hat_st, ci_st, ⟨pr, rf_pr, hat_pr, ln_pr⟩, ⟨mx, rf_mx, hat_mx⟩⟩, ⟨dr, rf_dr, hat_dr, ci_dsz⟩, sh, rf_sh, hat_sh, ln_sh, hpl⟩ := hF
  refine lv_iload_n X.1 X.2.1 dX11_potAt_0 rfl (lv_at hl 1 rfl) ?_
  refine lv_if_lt (tgt := 12) X.1 X.2.1 dX11_potAt_1 (by decide) (fun c_1 => ?_) (fun c_1 => ?_)
  · have z_1 := trivial
    refine lv_null X.1 X.2.1 dX11_potAt_12 ?_
    refine lv_goto (tgt := 22) X.1 X.2.1 dX11_potAt_13 (by decide) ?_
    exact ret_q none rfl X hw hr hlocks (Nat.le_of_ble_eq_true rfl) (Nat.le_of_ble_eq_true rfl) ⟨rfl, rfl⟩ dX11_potAt_22
  · have z_1 := trivial
    refine lv_iload_n X.1 X.2.1 dX11_potAt_4 rfl (lv_at hl 1 rfl) ?_
    refine lv_aload_n X.1 X.2.1 dX11_potAt_5 rfl (lv_at hl 0 rfl) ?_
    refine r_get (v := .int 0) X hw hat_x 4 (by decide) rfl inn_X11_potAt_11 (by decide) (X.2.2.2.1 (.fieldLink RX11 124 "SilkMill" "potsMade" "I") (by decide +kernel)) rfl ((gv_1104 _ _).trans (congrArg (fun z => some (Value.int z)) ci_pots)) dX11_potAt_6 ?_
    refine lv_icmp_lt (tgt := 16) X.1 X.2.1 dX11_potAt_9 (by decide) (fun c_9 => absurd c_9 c_1) (fun c_9 => ?_)
    refine lv_null X.1 X.2.1 dX11_potAt_12 ?_
    refine lv_goto (tgt := 22) X.1 X.2.1 dX11_potAt_13 (by decide) ?_
    exact ret_q none rfl X hw hr hlocks (Nat.le_of_ble_eq_true rfl) (Nat.le_of_ble_eq_true rfl) ⟨rfl, rfl⟩ dX11_potAt_22
set_option maxHeartbeats 4000000 in
set_option maxRecDepth 100000 in
theorem c_X8_skeinAt (l : Launch) (G : va_G) (cy : Nat → ClassId) (S : PS) (sz : Nat) (st : Nat) (a1 : Int32) (hF : StF S st) : Cq l yX8_skeinAt wsX8_skeinAt ({ frames := 1, cells := 0, slots := 0, locals := 40 }) G cy S sz [.ref st, .int (a1)] (fun (r : Option Nat) (S9 : PS) => S = S9 ∧ r = none) := by
  refine ent_m (cc := cX8_skeinAt) (maxL := 2) (ret := (some (.object "SilkMill$Skein"))) (by decide) rfl (Nat.le_of_ble_eq_true rfl) ?_
  intro p e s m below meth c ls X hr hlocks hin hw hl hsz
  subst hsz
  have X : Cx p c cX8_skeinAt 2 s [.ref st, .int (a1)].toArray wsX8_skeinAt RX8 m G cy (AS S s.heap.size) := X
  have hl : lv_has ls 2 [(0, .ref st), (1, .int (a1))] := hl
  obtain ⟨hat_st, ci_st, -⟩ := hF
  have ci_800 := ci_st 800 (by decide)
  refine lv_iload_n X.1 X.2.1 dX8_skeinAt_0 rfl (lv_at hl 1 rfl) ?_
  refine lv_if_lt (tgt := 12) X.1 X.2.1 dX8_skeinAt_1 (by decide) (fun c_1 => ?_) (fun c_1 => ?_)
  · have z_1 := trivial
    refine lv_null X.1 X.2.1 dX8_skeinAt_12 ?_
    refine lv_goto (tgt := 22) X.1 X.2.1 dX8_skeinAt_13 (by decide) ?_
    exact ret_q none rfl X hw hr hlocks (Nat.le_of_ble_eq_true rfl) (Nat.le_of_ble_eq_true rfl) ⟨rfl, rfl⟩ dX8_skeinAt_22
  · have z_1 := trivial
    refine lv_iload_n X.1 X.2.1 dX8_skeinAt_4 rfl (lv_at hl 1 rfl) ?_
    refine lv_aload_n X.1 X.2.1 dX8_skeinAt_5 rfl (lv_at hl 0 rfl) ?_
    refine r_get (v := .int 0) X hw hat_st 0 (by decide) rfl inn_X8_skeinAt_8 (by decide) (X.2.2.2.1 (.fieldLink RX8 37 "SilkMill$Store" "kept" "I") (by decide +kernel)) rfl ((gv_800 _ _).trans (congrArg (fun z => some (Value.int z)) ci_800)) dX8_skeinAt_6 ?_
    refine lv_icmp_lt (tgt := 16) X.1 X.2.1 dX8_skeinAt_9 (by decide) (fun c_9 => absurd c_9 c_1) (fun c_9 => ?_)
    refine lv_null X.1 X.2.1 dX8_skeinAt_12 ?_
    refine lv_goto (tgt := 22) X.1 X.2.1 dX8_skeinAt_13 (by decide) ?_
    exact ret_q none rfl X hw hr hlocks (Nat.le_of_ble_eq_true rfl) (Nat.le_of_ble_eq_true rfl) ⟨rfl, rfl⟩ dX8_skeinAt_22
set_option maxHeartbeats 4000000 in
set_option maxRecDepth 100000 in
theorem c_X11_cocoon (l : Launch) (G : va_G) (cy : Nat → ClassId) (S : PS) (sz : Nat) (x : Nat) (a1 : Int32) (a2 : Int32) (a3 : Int32) (hF : FX S x) : Ci l yX11_cocoon wsX11_cocoon ({ frames := 4, cells := 0, slots := 0, locals := 160 }) G cy S sz [.ref x, .int (a1), .int (a2), .int (a3)] (fun (r : Int32) (S9 : PS) => r = -1) := by
  refine ent_m (cc := cX11_cocoon) (maxL := 5) (ret := (some .int)) (by decide) rfl (Nat.le_of_ble_eq_true rfl) ?_
  intro p e s m below meth c ls X hr hlocks hin hw hl hsz
  subst hsz
  have X : Cx p c cX11_cocoon 5 s [.ref x, .int (a1), .int (a2), .int (a3)].toArray wsX11_cocoon RX11 m G cy (AS S s.heap.size) := X
  have hl : lv_has ls 5 [(0, .ref x), (1, .int (a1)), (2, .int (a2)), (3, .int (a3))] := hl
  have hF0 := hF
  obtain ⟨hat_x, ci_lots, ci_pots, ci_shv, ⟨cs, rf_cs, hat_cs, ln_cs⟩, ⟨lz, rf_lz, hat_lz, ln_lz⟩, ⟨ps, rf_ps, hat_ps, ln_ps⟩, ⟨tp, rf_tp, hat_tp, ci_tsz, ci_tfp, ⟨tb, rf_tb, hat_tb, ln_tb⟩⟩, ⟨st, rf_st, hat_st, ci_st, ⟨pr, rf_pr, hat_pr, ln_pr⟩, ⟨mx, rf_mx, hat_mx⟩⟩, ⟨dr, rf_dr, hat_dr, ci_dsz⟩, sh, rf_sh, hat_sh, ln_sh, hpl⟩ := hF
  have hF := hF0
  refine lv_aload_n X.1 X.2.1 dX11_cocoon_0 rfl (lv_at hl 0 rfl) ?_
  refine lv_iload_n X.1 X.2.1 dX11_cocoon_1 rfl (lv_at hl 1 rfl) ?_
  refine lv_iload_n X.1 X.2.1 dX11_cocoon_2 rfl (lv_at hl 2 rfl) ?_
  refine k_q (rm := { frames := 1, cells := 0, slots := 0, locals := 40 }) (av := [.ref x, .int (a1), .int (a2)]) X hw (va_runV (As := [.int (a1), .int (a2)]) (rest := []) (cfix X) (c_X11_cocoonAt l G cy S _ x (a1) (a2) hF) (cwV 2 X.2.2.2.1 gX11_cocoon_X11_cocoonAt rfl rfl rfl (by decide +kernel) ⟨Nat.le_of_ble_eq_true rfl, Nat.le_of_ble_eq_true rfl⟩) (pre_V X hw _ hat_x (by decide) rfl) rfl rfl hl.1 rfl (lv_room (Nat.le_of_ble_eq_true rfl)) dX11_cocoon_3 ⟨Nat.le_of_ble_eq_true rfl, Nat.le_of_ble_eq_true rfl⟩) 0 0 (Nat.le_of_ble_eq_true rfl) (Nat.le_of_ble_eq_true rfl) (fun rr_3 S2 H locs hp hw hfr hnw => ?_)
  obtain ⟨e2_3, er_3⟩ := hp
  subst e2_3
  subst er_3
  refine W.eq (g2 := F0 m 6 ls (.null :: [])) rfl ?_
  refine lv_astoreN (lv' := [(4, .null), (0, .ref x), (1, .int (a1)), (2, .int (a2)), (3, .int (a3))]) X.1 X.2.1 dX11_cocoon_6 hl (by decide) rfl (fun ls hl => ?_)
  refine lv_aloadN X.1 X.2.1 dX11_cocoon_8 (lv_at hl 0 rfl) ?_
  refine lv_ifnonnullN X.1 X.2.1 dX11_cocoon_10 ?_
  refine lv_iconst (v := (-1)) X.1 X.2.1 dX11_cocoon_13 (by decide) ?_
  exact ret_i X hw hr hlocks (Nat.le_of_ble_eq_true rfl) (Nat.le_of_ble_eq_true rfl) rfl dX11_cocoon_14
set_option maxHeartbeats 4000000 in
set_option maxRecDepth 100000 in
theorem c_X11_test (l : Launch) (G : va_G) (cy : Nat → ClassId) (S : PS) (sz : Nat) (x : Nat) (a1 : Int32) (a2 : Int32) (a3 : Int32) (hF : FX S x) : Ci l yX11_test wsX11_test ({ frames := 4, cells := 0, slots := 0, locals := 160 }) G cy S sz [.ref x, .int (a1), .int (a2), .int (a3)] (fun (r : Int32) (S9 : PS) => r = -1) := by
  refine ent_m (cc := cX11_test) (maxL := 10) (ret := (some .int)) (by decide) rfl (Nat.le_of_ble_eq_true rfl) ?_
  intro p e s m below meth c ls X hr hlocks hin hw hl hsz
  subst hsz
  have X : Cx p c cX11_test 10 s [.ref x, .int (a1), .int (a2), .int (a3)].toArray wsX11_test RX11 m G cy (AS S s.heap.size) := X
  have hl : lv_has ls 10 [(0, .ref x), (1, .int (a1)), (2, .int (a2)), (3, .int (a3))] := hl
  have hF0 := hF
  obtain ⟨hat_x, ci_lots, ci_pots, ci_shv, ⟨cs, rf_cs, hat_cs, ln_cs⟩, ⟨lz, rf_lz, hat_lz, ln_lz⟩, ⟨ps, rf_ps, hat_ps, ln_ps⟩, ⟨tp, rf_tp, hat_tp, ci_tsz, ci_tfp, ⟨tb, rf_tb, hat_tb, ln_tb⟩⟩, ⟨st, rf_st, hat_st, ci_st, ⟨pr, rf_pr, hat_pr, ln_pr⟩, ⟨mx, rf_mx, hat_mx⟩⟩, ⟨dr, rf_dr, hat_dr, ci_dsz⟩, sh, rf_sh, hat_sh, ln_sh, hpl⟩ := hF
  have hF := hF0
  refine lv_iload_n X.1 X.2.1 dX11_test_0 rfl (lv_at hl 1 rfl) ?_
  refine lv_if_lt (tgt := 16) X.1 X.2.1 dX11_test_1 (by decide) (fun c_1 => ?_) (fun c_1 => ?_)
  · have z_1 := trivial
    refine lv_iconst (v := (-1)) X.1 X.2.1 dX11_test_16 (by decide) ?_
    exact ret_i X hw hr hlocks (Nat.le_of_ble_eq_true rfl) (Nat.le_of_ble_eq_true rfl) rfl dX11_test_17
  · have z_1 := trivial
    refine lv_iload_n X.1 X.2.1 dX11_test_4 rfl (lv_at hl 1 rfl) ?_
    refine lv_aload_n X.1 X.2.1 dX11_test_5 rfl (lv_at hl 0 rfl) ?_
    refine r_get (v := .int 0) X hw hat_x 2 (by decide) rfl inn_X11_test_11 (by decide) (X.2.2.2.1 (.fieldLink RX11 63 "SilkMill" "lots" "I") (by decide +kernel)) rfl ((gv_1102 _ _).trans (congrArg (fun z => some (Value.int z)) ci_lots)) dX11_test_6 ?_
    refine lv_icmp_ge (tgt := 16) X.1 X.2.1 dX11_test_9 (by decide) (fun c_9 => ?_) (fun c_9 => absurd (Int32.not_lt.mp c_1) c_9)
    refine lv_iconst (v := (-1)) X.1 X.2.1 dX11_test_16 (by decide) ?_
    exact ret_i X hw hr hlocks (Nat.le_of_ble_eq_true rfl) (Nat.le_of_ble_eq_true rfl) rfl dX11_test_17
set_option maxHeartbeats 4000000 in
set_option maxRecDepth 100000 in
theorem c_X11_target (l : Launch) (G : va_G) (cy : Nat → ClassId) (S : PS) (sz : Nat) (x : Nat) (a1 : Int32) (a2 : Int32) (hF : FX S x) : Ci l yX11_target wsX11_target ({ frames := 4, cells := 0, slots := 0, locals := 160 }) G cy S sz [.ref x, .int (a1), .int (a2)] (fun (r : Int32) (S9 : PS) => r = 0) := by
  refine ent_m (cc := cX11_target) (maxL := 4) (ret := (some .boolean)) (by decide) rfl (Nat.le_of_ble_eq_true rfl) ?_
  intro p e s m below meth c ls X hr hlocks hin hw hl hsz
  subst hsz
  have X : Cx p c cX11_target 4 s [.ref x, .int (a1), .int (a2)].toArray wsX11_target RX11 m G cy (AS S s.heap.size) := X
  have hl : lv_has ls 4 [(0, .ref x), (1, .int (a1)), (2, .int (a2))] := hl
  have hF0 := hF
  obtain ⟨hat_x, ci_lots, ci_pots, ci_shv, ⟨cs, rf_cs, hat_cs, ln_cs⟩, ⟨lz, rf_lz, hat_lz, ln_lz⟩, ⟨ps, rf_ps, hat_ps, ln_ps⟩, ⟨tp, rf_tp, hat_tp, ci_tsz, ci_tfp, ⟨tb, rf_tb, hat_tb, ln_tb⟩⟩, ⟨st, rf_st, hat_st, ci_st, ⟨pr, rf_pr, hat_pr, ln_pr⟩, ⟨mx, rf_mx, hat_mx⟩⟩, ⟨dr, rf_dr, hat_dr, ci_dsz⟩, sh, rf_sh, hat_sh, ln_sh, hpl⟩ := hF
  have hF := hF0
  refine lv_aload_n X.1 X.2.1 dX11_target_0 rfl (lv_at hl 0 rfl) ?_
  refine lv_iload_n X.1 X.2.1 dX11_target_1 rfl (lv_at hl 1 rfl) ?_
  refine k_q (rm := { frames := 1, cells := 0, slots := 0, locals := 40 }) (av := [.ref x, .int (a1)]) X hw (va_runV (As := [.int (a1)]) (rest := []) (cfix X) (c_X11_potAt l G cy S _ x (a1) hF) (cwV 1 X.2.2.2.1 gX11_target_X11_potAt rfl rfl rfl (by decide +kernel) ⟨Nat.le_of_ble_eq_true rfl, Nat.le_of_ble_eq_true rfl⟩) (pre_V X hw _ hat_x (by decide) rfl) rfl rfl hl.1 rfl (lv_room (Nat.le_of_ble_eq_true rfl)) dX11_target_2 ⟨Nat.le_of_ble_eq_true rfl, Nat.le_of_ble_eq_true rfl⟩) 0 0 (Nat.le_of_ble_eq_true rfl) (Nat.le_of_ble_eq_true rfl) (fun rr_2 S2 H locs hp hw hfr hnw => ?_)
  obtain ⟨e2_2, er_2⟩ := hp
  subst e2_2
  subst er_2
  refine W.eq (g2 := F0 m 5 ls (.null :: [])) rfl ?_
  refine lv_astore_nN (lv' := [(3, .null), (0, .ref x), (1, .int (a1)), (2, .int (a2))]) X.1 X.2.1 dX11_target_5 rfl hl (by decide) rfl (fun ls hl => ?_)
  refine lv_aload_nN X.1 X.2.1 dX11_target_6 rfl (lv_at hl 0 rfl) ?_
  refine lv_ifnullN (tgt := 17) X.1 X.2.1 dX11_target_7 (by decide) ?_
  refine lv_iconst (v := 0) X.1 X.2.1 dX11_target_17 (by decide) ?_
  exact ret_z X hw hr hlocks (Nat.le_of_ble_eq_true rfl) (Nat.le_of_ble_eq_true rfl) (by decide) rfl dX11_target_18
set_option maxHeartbeats 4000000 in
set_option maxRecDepth 100000 in
theorem c_X11_fill (l : Launch) (G : va_G) (cy : Nat → ClassId) (S : PS) (sz : Nat) (x : Nat) (a1 : Int32) (a2 : Int32) (a3 : Int32) (a4 : Int32) (hF : FX S x) : Ci l yX11_fill wsX11_fill ({ frames := 4, cells := 0, slots := 0, locals := 160 }) G cy S sz [.ref x, .int (a1), .int (a2), .int (a3), .int (a4)] (fun (r : Int32) (S9 : PS) => r = 0) := by
  refine ent_m (cc := cX11_fill) (maxL := 8) (ret := (some .boolean)) (by decide) rfl (Nat.le_of_ble_eq_true rfl) ?_
  intro p e s m below meth c ls X hr hlocks hin hw hl hsz
  subst hsz
  have X : Cx p c cX11_fill 8 s [.ref x, .int (a1), .int (a2), .int (a3), .int (a4)].toArray wsX11_fill RX11 m G cy (AS S s.heap.size) := X
  have hl : lv_has ls 8 [(0, .ref x), (1, .int (a1)), (2, .int (a2)), (3, .int (a3)), (4, .int (a4))] := hl
  have hF0 := hF
  obtain ⟨hat_x, ci_lots, ci_pots, ci_shv, ⟨cs, rf_cs, hat_cs, ln_cs⟩, ⟨lz, rf_lz, hat_lz, ln_lz⟩, ⟨ps, rf_ps, hat_ps, ln_ps⟩, ⟨tp, rf_tp, hat_tp, ci_tsz, ci_tfp, ⟨tb, rf_tb, hat_tb, ln_tb⟩⟩, ⟨st, rf_st, hat_st, ci_st, ⟨pr, rf_pr, hat_pr, ln_pr⟩, ⟨mx, rf_mx, hat_mx⟩⟩, ⟨dr, rf_dr, hat_dr, ci_dsz⟩, sh, rf_sh, hat_sh, ln_sh, hpl⟩ := hF
  have hF := hF0
  refine lv_aload_n X.1 X.2.1 dX11_fill_0 rfl (lv_at hl 0 rfl) ?_
  refine lv_iload_n X.1 X.2.1 dX11_fill_1 rfl (lv_at hl 1 rfl) ?_
  refine k_q (rm := { frames := 1, cells := 0, slots := 0, locals := 40 }) (av := [.ref x, .int (a1)]) X hw (va_runV (As := [.int (a1)]) (rest := []) (cfix X) (c_X11_potAt l G cy S _ x (a1) hF) (cwV 1 X.2.2.2.1 gX11_fill_X11_potAt rfl rfl rfl (by decide +kernel) ⟨Nat.le_of_ble_eq_true rfl, Nat.le_of_ble_eq_true rfl⟩) (pre_V X hw _ hat_x (by decide) rfl) rfl rfl hl.1 rfl (lv_room (Nat.le_of_ble_eq_true rfl)) dX11_fill_2 ⟨Nat.le_of_ble_eq_true rfl, Nat.le_of_ble_eq_true rfl⟩) 0 0 (Nat.le_of_ble_eq_true rfl) (Nat.le_of_ble_eq_true rfl) (fun rr_2 S2 H locs hp hw hfr hnw => ?_)
  obtain ⟨e2_2, er_2⟩ := hp
  subst e2_2
  subst er_2
  refine W.eq (g2 := F0 m 5 ls (.null :: [])) rfl ?_
  refine lv_astoreN (lv' := [(5, .null), (0, .ref x), (1, .int (a1)), (2, .int (a2)), (3, .int (a3)), (4, .int (a4))]) X.1 X.2.1 dX11_fill_5 hl (by decide) rfl (fun ls hl => ?_)
  refine lv_aloadN X.1 X.2.1 dX11_fill_7 (lv_at hl 0 rfl) ?_
  refine lv_ifnullN (tgt := 33) X.1 X.2.1 dX11_fill_9 (by decide) ?_
  refine lv_iconst (v := 0) X.1 X.2.1 dX11_fill_33 (by decide) ?_
  exact ret_z X hw hr hlocks (Nat.le_of_ble_eq_true rfl) (Nat.le_of_ble_eq_true rfl) (by decide) rfl dX11_fill_34
set_option maxHeartbeats 4000000 in
set_option maxRecDepth 100000 in
theorem c_X11_place (l : Launch) (G : va_G) (cy : Nat → ClassId) (S : PS) (sz : Nat) (x : Nat) (hF : FX S x) : Ci l yX11_place wsX11_place ({ frames := 4, cells := 0, slots := 0, locals := 160 }) G cy S sz [.ref x] (fun (r : Int32) (S9 : PS) => r = -1) := by
  refine ent_m (cc := cX11_place) (maxL := 1) (ret := (some .int)) (by decide) rfl (Nat.le_of_ble_eq_true rfl) ?_
  intro p e s m below meth c ls X hr hlocks hin hw hl hsz
  subst hsz
  have X : Cx p c cX11_place 1 s [.ref x].toArray wsX11_place RX11 m G cy (AS S s.heap.size) := X
  have hl : lv_has ls 1 [(0, .ref x)] := hl
  have hF0 := hF
  obtain ⟨hat_x, ci_lots, ci_pots, ci_shv, ⟨cs, rf_cs, hat_cs, ln_cs⟩, ⟨lz, rf_lz, hat_lz, ln_lz⟩, ⟨ps, rf_ps, hat_ps, ln_ps⟩, ⟨tp, rf_tp, hat_tp, ci_tsz, ci_tfp, ⟨tb, rf_tb, hat_tb, ln_tb⟩⟩, ⟨st, rf_st, hat_st, ci_st, ⟨pr, rf_pr, hat_pr, ln_pr⟩, ⟨mx, rf_mx, hat_mx⟩⟩, ⟨dr, rf_dr, hat_dr, ci_dsz⟩, sh, rf_sh, hat_sh, ln_sh, hpl⟩ := hF
  have hF := hF0
  refine lv_aload_n X.1 X.2.1 dX11_place_0 rfl (lv_at hl 0 rfl) ?_
  refine r_getR (g := 1105) X hw hat_x 5 rf_tp (by decide) rfl inn_X11_place_11 (by decide) (X.2.2.2.1 (.fieldLink RX11 28 "SilkMill" "tape" "LSilkMill$Tape;") (by decide +kernel)) rfl (gv_1105 _ _) dX11_place_1 ?_
  refine r_get (v := .int (-1)) X hw hat_tp 2 (by decide) rfl inn_X11_place_10 (by decide) (X.2.2.2.1 (.fieldLink RX11 166 "SilkMill$Tape" "faultPlace" "I") (by decide +kernel)) rfl ((gv_1002 _ _).trans (congrArg (fun z => some (Value.int z)) ci_tfp)) dX11_place_4 ?_
  exact ret_i X hw hr hlocks (Nat.le_of_ble_eq_true rfl) (Nat.le_of_ble_eq_true rfl) rfl dX11_place_7
set_option maxHeartbeats 4000000 in
set_option maxRecDepth 100000 in
theorem c_X11_run (l : Launch) (G : va_G) (cy : Nat → ClassId) (S : PS) (sz : Nat) (x : Nat) (a1 : Int32) (a2 : Int32) (hF : FX S x) : Ci l yX11_run wsX11_run ({ frames := 4, cells := 0, slots := 0, locals := 160 }) G cy S sz [.ref x, .int (a1), .int (a2)] (fun (r : Int32) (S9 : PS) => r = -1) := by
  refine ent_m (cc := cX11_run) (maxL := 6) (ret := (some .int)) (by decide) rfl (Nat.le_of_ble_eq_true rfl) ?_
  intro p e s m below meth c ls X hr hlocks hin hw hl hsz
  subst hsz
  have X : Cx p c cX11_run 6 s [.ref x, .int (a1), .int (a2)].toArray wsX11_run RX11 m G cy (AS S s.heap.size) := X
  have hl : lv_has ls 6 [(0, .ref x), (1, .int (a1)), (2, .int (a2))] := hl
  have hF0 := hF
  obtain ⟨hat_x, ci_lots, ci_pots, ci_shv, ⟨cs, rf_cs, hat_cs, ln_cs⟩, ⟨lz, rf_lz, hat_lz, ln_lz⟩, ⟨ps, rf_ps, hat_ps, ln_ps⟩, ⟨tp, rf_tp, hat_tp, ci_tsz, ci_tfp, ⟨tb, rf_tb, hat_tb, ln_tb⟩⟩, ⟨st, rf_st, hat_st, ci_st, ⟨pr, rf_pr, hat_pr, ln_pr⟩, ⟨mx, rf_mx, hat_mx⟩⟩, ⟨dr, rf_dr, hat_dr, ci_dsz⟩, sh, rf_sh, hat_sh, ln_sh, hpl⟩ := hF
  have hF := hF0
  refine lv_aload_n X.1 X.2.1 dX11_run_0 rfl (lv_at hl 0 rfl) ?_
  refine lv_iload_n X.1 X.2.1 dX11_run_1 rfl (lv_at hl 1 rfl) ?_
  refine k_q (rm := { frames := 1, cells := 0, slots := 0, locals := 40 }) (av := [.ref x, .int (a1)]) X hw (va_runV (As := [.int (a1)]) (rest := []) (cfix X) (c_X11_potAt l G cy S _ x (a1) hF) (cwV 1 X.2.2.2.1 gX11_run_X11_potAt rfl rfl rfl (by decide +kernel) ⟨Nat.le_of_ble_eq_true rfl, Nat.le_of_ble_eq_true rfl⟩) (pre_V X hw _ hat_x (by decide) rfl) rfl rfl hl.1 rfl (lv_room (Nat.le_of_ble_eq_true rfl)) dX11_run_2 ⟨Nat.le_of_ble_eq_true rfl, Nat.le_of_ble_eq_true rfl⟩) 0 0 (Nat.le_of_ble_eq_true rfl) (Nat.le_of_ble_eq_true rfl) (fun rr_2 S2 H locs hp hw hfr hnw => ?_)
  obtain ⟨e2_2, er_2⟩ := hp
  subst e2_2
  subst er_2
  refine W.eq (g2 := F0 m 5 ls (.null :: [])) rfl ?_
  refine lv_astore_nN (lv' := [(3, .null), (0, .ref x), (1, .int (a1)), (2, .int (a2))]) X.1 X.2.1 dX11_run_5 rfl hl (by decide) rfl (fun ls hl => ?_)
  refine lv_aload_nN X.1 X.2.1 dX11_run_6 rfl (lv_at hl 0 rfl) ?_
  refine lv_ifnullN (tgt := 21) X.1 X.2.1 dX11_run_7 (by decide) ?_
  refine lv_iconst (v := (-1)) X.1 X.2.1 dX11_run_21 (by decide) ?_
  exact ret_i X hw hr hlocks (Nat.le_of_ble_eq_true rfl) (Nat.le_of_ble_eq_true rfl) rfl dX11_run_22
set_option maxHeartbeats 4000000 in
set_option maxRecDepth 100000 in
theorem c_X11_about (l : Launch) (G : va_G) (cy : Nat → ClassId) (S : PS) (sz : Nat) (x : Nat) (a1 : Int32) (a2 : Int32) (hF : FX S x) : Ci l yX11_about wsX11_about ({ frames := 4, cells := 0, slots := 0, locals := 160 }) G cy S sz [.ref x, .int (a1), .int (a2)] (fun (r : Int32) (S9 : PS) => r = -1) := by
  refine ent_m (cc := cX11_about) (maxL := 4) (ret := (some .int)) (by decide) rfl (Nat.le_of_ble_eq_true rfl) ?_
  intro p e s m below meth c ls X hr hlocks hin hw hl hsz
  subst hsz
  have X : Cx p c cX11_about 4 s [.ref x, .int (a1), .int (a2)].toArray wsX11_about RX11 m G cy (AS S s.heap.size) := X
  have hl : lv_has ls 4 [(0, .ref x), (1, .int (a1)), (2, .int (a2))] := hl
  have hF0 := hF
  obtain ⟨hat_x, ci_lots, ci_pots, ci_shv, ⟨cs, rf_cs, hat_cs, ln_cs⟩, ⟨lz, rf_lz, hat_lz, ln_lz⟩, ⟨ps, rf_ps, hat_ps, ln_ps⟩, ⟨tp, rf_tp, hat_tp, ci_tsz, ci_tfp, ⟨tb, rf_tb, hat_tb, ln_tb⟩⟩, ⟨st, rf_st, hat_st, ci_st, ⟨pr, rf_pr, hat_pr, ln_pr⟩, ⟨mx, rf_mx, hat_mx⟩⟩, ⟨dr, rf_dr, hat_dr, ci_dsz⟩, sh, rf_sh, hat_sh, ln_sh, hpl⟩ := hF
  have hF := hF0
  refine lv_aload_n X.1 X.2.1 dX11_about_0 rfl (lv_at hl 0 rfl) ?_
  refine lv_iload_n X.1 X.2.1 dX11_about_1 rfl (lv_at hl 1 rfl) ?_
  refine k_q (rm := { frames := 1, cells := 0, slots := 0, locals := 40 }) (av := [.ref x, .int (a1)]) X hw (va_runV (As := [.int (a1)]) (rest := []) (cfix X) (c_X11_potAt l G cy S _ x (a1) hF) (cwV 1 X.2.2.2.1 gX11_about_X11_potAt rfl rfl rfl (by decide +kernel) ⟨Nat.le_of_ble_eq_true rfl, Nat.le_of_ble_eq_true rfl⟩) (pre_V X hw _ hat_x (by decide) rfl) rfl rfl hl.1 rfl (lv_room (Nat.le_of_ble_eq_true rfl)) dX11_about_2 ⟨Nat.le_of_ble_eq_true rfl, Nat.le_of_ble_eq_true rfl⟩) 0 0 (Nat.le_of_ble_eq_true rfl) (Nat.le_of_ble_eq_true rfl) (fun rr_2 S2 H locs hp hw hfr hnw => ?_)
  obtain ⟨e2_2, er_2⟩ := hp
  subst e2_2
  subst er_2
  refine W.eq (g2 := F0 m 5 ls (.null :: [])) rfl ?_
  refine lv_astore_nN (lv' := [(3, .null), (0, .ref x), (1, .int (a1)), (2, .int (a2))]) X.1 X.2.1 dX11_about_5 rfl hl (by decide) rfl (fun ls hl => ?_)
  refine lv_aload_nN X.1 X.2.1 dX11_about_6 rfl (lv_at hl 0 rfl) ?_
  refine lv_ifnonnullN X.1 X.2.1 dX11_about_7 ?_
  refine lv_iconst (v := (-1)) X.1 X.2.1 dX11_about_10 (by decide) ?_
  exact ret_i X hw hr hlocks (Nat.le_of_ble_eq_true rfl) (Nat.le_of_ble_eq_true rfl) rfl dX11_about_11
set_option maxHeartbeats 4000000 in
set_option maxRecDepth 100000 in
theorem c_X11_cut (l : Launch) (G : va_G) (cy : Nat → ClassId) (S : PS) (sz : Nat) (x : Nat) (a1 : Int32) (hF : FX S x) : Ci l yX11_cut wsX11_cut ({ frames := 4, cells := 0, slots := 0, locals := 160 }) G cy S sz [.ref x, .int (a1)] (fun (r : Int32) (S9 : PS) => r = -1) := by
  refine ent_m (cc := cX11_cut) (maxL := 3) (ret := (some .int)) (by decide) rfl (Nat.le_of_ble_eq_true rfl) ?_
  intro p e s m below meth c ls X hr hlocks hin hw hl hsz
  subst hsz
  have X : Cx p c cX11_cut 3 s [.ref x, .int (a1)].toArray wsX11_cut RX11 m G cy (AS S s.heap.size) := X
  have hl : lv_has ls 3 [(0, .ref x), (1, .int (a1))] := hl
  have hF0 := hF
  obtain ⟨hat_x, ci_lots, ci_pots, ci_shv, ⟨cs, rf_cs, hat_cs, ln_cs⟩, ⟨lz, rf_lz, hat_lz, ln_lz⟩, ⟨ps, rf_ps, hat_ps, ln_ps⟩, ⟨tp, rf_tp, hat_tp, ci_tsz, ci_tfp, ⟨tb, rf_tb, hat_tb, ln_tb⟩⟩, ⟨st, rf_st, hat_st, ci_st, ⟨pr, rf_pr, hat_pr, ln_pr⟩, ⟨mx, rf_mx, hat_mx⟩⟩, ⟨dr, rf_dr, hat_dr, ci_dsz⟩, sh, rf_sh, hat_sh, ln_sh, hpl⟩ := hF
  have hF := hF0
  refine lv_aload_n X.1 X.2.1 dX11_cut_0 rfl (lv_at hl 0 rfl) ?_
  refine lv_iload_n X.1 X.2.1 dX11_cut_1 rfl (lv_at hl 1 rfl) ?_
  refine k_q (rm := { frames := 1, cells := 0, slots := 0, locals := 40 }) (av := [.ref x, .int (a1)]) X hw (va_runV (As := [.int (a1)]) (rest := []) (cfix X) (c_X11_potAt l G cy S _ x (a1) hF) (cwV 1 X.2.2.2.1 gX11_cut_X11_potAt rfl rfl rfl (by decide +kernel) ⟨Nat.le_of_ble_eq_true rfl, Nat.le_of_ble_eq_true rfl⟩) (pre_V X hw _ hat_x (by decide) rfl) rfl rfl hl.1 rfl (lv_room (Nat.le_of_ble_eq_true rfl)) dX11_cut_2 ⟨Nat.le_of_ble_eq_true rfl, Nat.le_of_ble_eq_true rfl⟩) 0 0 (Nat.le_of_ble_eq_true rfl) (Nat.le_of_ble_eq_true rfl) (fun rr_2 S2 H locs hp hw hfr hnw => ?_)
  obtain ⟨e2_2, er_2⟩ := hp
  subst e2_2
  subst er_2
  refine W.eq (g2 := F0 m 5 ls (.null :: [])) rfl ?_
  refine lv_astore_nN (lv' := [(2, .null), (0, .ref x), (1, .int (a1))]) X.1 X.2.1 dX11_cut_5 rfl hl (by decide) rfl (fun ls hl => ?_)
  refine lv_aload_nN X.1 X.2.1 dX11_cut_6 rfl (lv_at hl 0 rfl) ?_
  refine lv_ifnonnullN X.1 X.2.1 dX11_cut_7 ?_
  refine lv_iconst (v := (-1)) X.1 X.2.1 dX11_cut_10 (by decide) ?_
  refine lv_goto (tgt := 22) X.1 X.2.1 dX11_cut_11 (by decide) ?_
  exact ret_i X hw hr hlocks (Nat.le_of_ble_eq_true rfl) (Nat.le_of_ble_eq_true rfl) rfl dX11_cut_22
set_option maxHeartbeats 4000000 in
set_option maxRecDepth 100000 in
theorem c_X11_skein (l : Launch) (G : va_G) (cy : Nat → ClassId) (S : PS) (sz : Nat) (x : Nat) (a1 : Int32) (a2 : Int32) (hF : FX S x) : Ci l yX11_skein wsX11_skein ({ frames := 4, cells := 0, slots := 0, locals := 160 }) G cy S sz [.ref x, .int (a1), .int (a2)] (fun (r : Int32) (S9 : PS) => r = -1) := by
  refine ent_m (cc := cX11_skein) (maxL := 4) (ret := (some .int)) (by decide) rfl (Nat.le_of_ble_eq_true rfl) ?_
  intro p e s m below meth c ls X hr hlocks hin hw hl hsz
  subst hsz
  have X : Cx p c cX11_skein 4 s [.ref x, .int (a1), .int (a2)].toArray wsX11_skein RX11 m G cy (AS S s.heap.size) := X
  have hl : lv_has ls 4 [(0, .ref x), (1, .int (a1)), (2, .int (a2))] := hl
  have hF0 := hF
  obtain ⟨hat_x, ci_lots, ci_pots, ci_shv, ⟨cs, rf_cs, hat_cs, ln_cs⟩, ⟨lz, rf_lz, hat_lz, ln_lz⟩, ⟨ps, rf_ps, hat_ps, ln_ps⟩, ⟨tp, rf_tp, hat_tp, ci_tsz, ci_tfp, ⟨tb, rf_tb, hat_tb, ln_tb⟩⟩, ⟨st, rf_st, hat_st, ci_st, ⟨pr, rf_pr, hat_pr, ln_pr⟩, ⟨mx, rf_mx, hat_mx⟩⟩, ⟨dr, rf_dr, hat_dr, ci_dsz⟩, sh, rf_sh, hat_sh, ln_sh, hpl⟩ := hF
  have ci_800 := ci_st 800 (by decide)
  have ci_801 := ci_st 801 (by decide)
  have ci_802 := ci_st 802 (by decide)
  have ci_803 := ci_st 803 (by decide)
  have ci_804 := ci_st 804 (by decide)
  have ci_805 := ci_st 805 (by decide)
  have ci_806 := ci_st 806 (by decide)
  have hF := hF0
  have hFst : StF S st := by obtain ⟨-, -, -, -, -, -, -, -, ⟨t9, h8, h9⟩, -⟩ := hF; rw [h8] at rf_st; cases rf_st; exact h9
  refine lv_aload_n X.1 X.2.1 dX11_skein_0 rfl (lv_at hl 0 rfl) ?_
  refine r_getR (g := 1107) X hw hat_x 7 rf_st (by decide) rfl inn_X11_skein_11 (by decide) (X.2.2.2.1 (.fieldLink RX11 42 "SilkMill" "store" "LSilkMill$Store;") (by decide +kernel)) rfl (gv_1107 _ _) dX11_skein_1 ?_
  refine lv_iload_n X.1 X.2.1 dX11_skein_4 rfl (lv_at hl 1 rfl) ?_
  refine k_q (rm := { frames := 1, cells := 0, slots := 0, locals := 40 }) (av := [.ref st, .int (a1)]) X hw (va_runV (As := [.int (a1)]) (rest := []) (cfix X) (c_X8_skeinAt l G cy S _ st (a1) hFst) (cwV 1 X.2.2.2.1 gX11_skein_X8_skeinAt rfl rfl rfl (by decide +kernel) ⟨Nat.le_of_ble_eq_true rfl, Nat.le_of_ble_eq_true rfl⟩) (pre_V X hw _ hat_st (by decide) rfl) rfl rfl hl.1 rfl (lv_room (Nat.le_of_ble_eq_true rfl)) dX11_skein_5 ⟨Nat.le_of_ble_eq_true rfl, Nat.le_of_ble_eq_true rfl⟩) 0 0 (Nat.le_of_ble_eq_true rfl) (Nat.le_of_ble_eq_true rfl) (fun rr_5 S2 H locs hp hw hfr hnw => ?_)
  obtain ⟨e2_5, er_5⟩ := hp
  subst e2_5
  subst er_5
  refine W.eq (g2 := F0 m 8 ls (.null :: [])) rfl ?_
  refine lv_astore_nN (lv' := [(3, .null), (0, .ref x), (1, .int (a1)), (2, .int (a2))]) X.1 X.2.1 dX11_skein_8 rfl hl (by decide) rfl (fun ls hl => ?_)
  refine lv_aload_nN X.1 X.2.1 dX11_skein_9 rfl (lv_at hl 0 rfl) ?_
  refine lv_ifnonnullN X.1 X.2.1 dX11_skein_10 ?_
  refine lv_iconst (v := (-1)) X.1 X.2.1 dX11_skein_13 (by decide) ?_
  exact ret_i X hw hr hlocks (Nat.le_of_ble_eq_true rfl) (Nat.le_of_ble_eq_true rfl) rfl dX11_skein_14
set_option maxHeartbeats 4000000 in
set_option maxRecDepth 100000 in
theorem c_X11_metre (l : Launch) (G : va_G) (cy : Nat → ClassId) (S : PS) (sz : Nat) (x : Nat) (a1 : Int32) (a2 : Int32) (a3 : Int32) (hF : FX S x) : Ci l yX11_metre wsX11_metre ({ frames := 4, cells := 0, slots := 0, locals := 160 }) G cy S sz [.ref x, .int (a1), .int (a2), .int (a3)] (fun (r : Int32) (S9 : PS) => r = -1) := by
  refine ent_m (cc := cX11_metre) (maxL := 5) (ret := (some .int)) (by decide) rfl (Nat.le_of_ble_eq_true rfl) ?_
  intro p e s m below meth c ls X hr hlocks hin hw hl hsz
  subst hsz
  have X : Cx p c cX11_metre 5 s [.ref x, .int (a1), .int (a2), .int (a3)].toArray wsX11_metre RX11 m G cy (AS S s.heap.size) := X
  have hl : lv_has ls 5 [(0, .ref x), (1, .int (a1)), (2, .int (a2)), (3, .int (a3))] := hl
  have hF0 := hF
  obtain ⟨hat_x, ci_lots, ci_pots, ci_shv, ⟨cs, rf_cs, hat_cs, ln_cs⟩, ⟨lz, rf_lz, hat_lz, ln_lz⟩, ⟨ps, rf_ps, hat_ps, ln_ps⟩, ⟨tp, rf_tp, hat_tp, ci_tsz, ci_tfp, ⟨tb, rf_tb, hat_tb, ln_tb⟩⟩, ⟨st, rf_st, hat_st, ci_st, ⟨pr, rf_pr, hat_pr, ln_pr⟩, ⟨mx, rf_mx, hat_mx⟩⟩, ⟨dr, rf_dr, hat_dr, ci_dsz⟩, sh, rf_sh, hat_sh, ln_sh, hpl⟩ := hF
  have ci_800 := ci_st 800 (by decide)
  have ci_801 := ci_st 801 (by decide)
  have ci_802 := ci_st 802 (by decide)
  have ci_803 := ci_st 803 (by decide)
  have ci_804 := ci_st 804 (by decide)
  have ci_805 := ci_st 805 (by decide)
  have ci_806 := ci_st 806 (by decide)
  have hF := hF0
  have hFst : StF S st := by obtain ⟨-, -, -, -, -, -, -, -, ⟨t9, h8, h9⟩, -⟩ := hF; rw [h8] at rf_st; cases rf_st; exact h9
  refine lv_aload_n X.1 X.2.1 dX11_metre_0 rfl (lv_at hl 0 rfl) ?_
  refine r_getR (g := 1107) X hw hat_x 7 rf_st (by decide) rfl inn_X11_metre_11 (by decide) (X.2.2.2.1 (.fieldLink RX11 42 "SilkMill" "store" "LSilkMill$Store;") (by decide +kernel)) rfl (gv_1107 _ _) dX11_metre_1 ?_
  refine lv_iload_n X.1 X.2.1 dX11_metre_4 rfl (lv_at hl 1 rfl) ?_
  refine k_q (rm := { frames := 1, cells := 0, slots := 0, locals := 40 }) (av := [.ref st, .int (a1)]) X hw (va_runV (As := [.int (a1)]) (rest := []) (cfix X) (c_X8_skeinAt l G cy S _ st (a1) hFst) (cwV 1 X.2.2.2.1 gX11_metre_X8_skeinAt rfl rfl rfl (by decide +kernel) ⟨Nat.le_of_ble_eq_true rfl, Nat.le_of_ble_eq_true rfl⟩) (pre_V X hw _ hat_st (by decide) rfl) rfl rfl hl.1 rfl (lv_room (Nat.le_of_ble_eq_true rfl)) dX11_metre_5 ⟨Nat.le_of_ble_eq_true rfl, Nat.le_of_ble_eq_true rfl⟩) 0 0 (Nat.le_of_ble_eq_true rfl) (Nat.le_of_ble_eq_true rfl) (fun rr_5 S2 H locs hp hw hfr hnw => ?_)
  obtain ⟨e2_5, er_5⟩ := hp
  subst e2_5
  subst er_5
  refine W.eq (g2 := F0 m 8 ls (.null :: [])) rfl ?_
  refine lv_astoreN (lv' := [(4, .null), (0, .ref x), (1, .int (a1)), (2, .int (a2)), (3, .int (a3))]) X.1 X.2.1 dX11_metre_8 hl (by decide) rfl (fun ls hl => ?_)
  refine lv_aloadN X.1 X.2.1 dX11_metre_10 (lv_at hl 0 rfl) ?_
  refine lv_ifnullN (tgt := 31) X.1 X.2.1 dX11_metre_12 (by decide) ?_
  refine lv_iconst (v := (-1)) X.1 X.2.1 dX11_metre_31 (by decide) ?_
  exact ret_i X hw hr hlocks (Nat.le_of_ble_eq_true rfl) (Nat.le_of_ble_eq_true rfl) rfl dX11_metre_32
set_option maxHeartbeats 4000000 in
set_option maxRecDepth 100000 in
theorem c_X11_piece (l : Launch) (G : va_G) (cy : Nat → ClassId) (S : PS) (sz : Nat) (x : Nat) (a1 : Int32) (a2 : Int32) (a3 : Int32) (hF : FX S x) : Ci l yX11_piece wsX11_piece ({ frames := 4, cells := 0, slots := 0, locals := 160 }) G cy S sz [.ref x, .int (a1), .int (a2), .int (a3)] (fun (r : Int32) (S9 : PS) => r = -1) := by
  refine ent_m (cc := cX11_piece) (maxL := 5) (ret := (some .int)) (by decide) rfl (Nat.le_of_ble_eq_true rfl) ?_
  intro p e s m below meth c ls X hr hlocks hin hw hl hsz
  subst hsz
  have X : Cx p c cX11_piece 5 s [.ref x, .int (a1), .int (a2), .int (a3)].toArray wsX11_piece RX11 m G cy (AS S s.heap.size) := X
  have hl : lv_has ls 5 [(0, .ref x), (1, .int (a1)), (2, .int (a2)), (3, .int (a3))] := hl
  have hF0 := hF
  obtain ⟨hat_x, ci_lots, ci_pots, ci_shv, ⟨cs, rf_cs, hat_cs, ln_cs⟩, ⟨lz, rf_lz, hat_lz, ln_lz⟩, ⟨ps, rf_ps, hat_ps, ln_ps⟩, ⟨tp, rf_tp, hat_tp, ci_tsz, ci_tfp, ⟨tb, rf_tb, hat_tb, ln_tb⟩⟩, ⟨st, rf_st, hat_st, ci_st, ⟨pr, rf_pr, hat_pr, ln_pr⟩, ⟨mx, rf_mx, hat_mx⟩⟩, ⟨dr, rf_dr, hat_dr, ci_dsz⟩, sh, rf_sh, hat_sh, ln_sh, hpl⟩ := hF
  have ci_800 := ci_st 800 (by decide)
  have ci_801 := ci_st 801 (by decide)
  have ci_802 := ci_st 802 (by decide)
  have ci_803 := ci_st 803 (by decide)
  have ci_804 := ci_st 804 (by decide)
  have ci_805 := ci_st 805 (by decide)
  have ci_806 := ci_st 806 (by decide)
  have hF := hF0
  have hFst : StF S st := by obtain ⟨-, -, -, -, -, -, -, -, ⟨t9, h8, h9⟩, -⟩ := hF; rw [h8] at rf_st; cases rf_st; exact h9
  refine lv_aload_n X.1 X.2.1 dX11_piece_0 rfl (lv_at hl 0 rfl) ?_
  refine r_getR (g := 1107) X hw hat_x 7 rf_st (by decide) rfl inn_X11_piece_11 (by decide) (X.2.2.2.1 (.fieldLink RX11 42 "SilkMill" "store" "LSilkMill$Store;") (by decide +kernel)) rfl (gv_1107 _ _) dX11_piece_1 ?_
  refine lv_iload_n X.1 X.2.1 dX11_piece_4 rfl (lv_at hl 1 rfl) ?_
  refine k_q (rm := { frames := 1, cells := 0, slots := 0, locals := 40 }) (av := [.ref st, .int (a1)]) X hw (va_runV (As := [.int (a1)]) (rest := []) (cfix X) (c_X8_skeinAt l G cy S _ st (a1) hFst) (cwV 1 X.2.2.2.1 gX11_piece_X8_skeinAt rfl rfl rfl (by decide +kernel) ⟨Nat.le_of_ble_eq_true rfl, Nat.le_of_ble_eq_true rfl⟩) (pre_V X hw _ hat_st (by decide) rfl) rfl rfl hl.1 rfl (lv_room (Nat.le_of_ble_eq_true rfl)) dX11_piece_5 ⟨Nat.le_of_ble_eq_true rfl, Nat.le_of_ble_eq_true rfl⟩) 0 0 (Nat.le_of_ble_eq_true rfl) (Nat.le_of_ble_eq_true rfl) (fun rr_5 S2 H locs hp hw hfr hnw => ?_)
  obtain ⟨e2_5, er_5⟩ := hp
  subst e2_5
  subst er_5
  refine W.eq (g2 := F0 m 8 ls (.null :: [])) rfl ?_
  refine lv_astoreN (lv' := [(4, .null), (0, .ref x), (1, .int (a1)), (2, .int (a2)), (3, .int (a3))]) X.1 X.2.1 dX11_piece_8 hl (by decide) rfl (fun ls hl => ?_)
  refine lv_aloadN X.1 X.2.1 dX11_piece_10 (lv_at hl 0 rfl) ?_
  refine lv_ifnullN (tgt := 31) X.1 X.2.1 dX11_piece_12 (by decide) ?_
  refine lv_iconst (v := (-1)) X.1 X.2.1 dX11_piece_31 (by decide) ?_
  exact ret_i X hw hr hlocks (Nat.le_of_ble_eq_true rfl) (Nat.le_of_ble_eq_true rfl) rfl dX11_piece_32
set_option maxHeartbeats 4000000 in
set_option maxRecDepth 100000 in
theorem c_X11_grade (l : Launch) (G : va_G) (cy : Nat → ClassId) (S : PS) (sz : Nat) (x : Nat) (a1 : Int32) (a2 : Int32) (a3 : Int32) (hF : FX S x) : Ci l yX11_grade wsX11_grade ({ frames := 4, cells := 0, slots := 0, locals := 160 }) G cy S sz [.ref x, .int (a1), .int (a2), .int (a3)] (fun (r : Int32) (S9 : PS) => r = -1) := by
  refine ent_m (cc := cX11_grade) (maxL := 5) (ret := (some .int)) (by decide) rfl (Nat.le_of_ble_eq_true rfl) ?_
  intro p e s m below meth c ls X hr hlocks hin hw hl hsz
  subst hsz
  have X : Cx p c cX11_grade 5 s [.ref x, .int (a1), .int (a2), .int (a3)].toArray wsX11_grade RX11 m G cy (AS S s.heap.size) := X
  have hl : lv_has ls 5 [(0, .ref x), (1, .int (a1)), (2, .int (a2)), (3, .int (a3))] := hl
  have hF0 := hF
  obtain ⟨hat_x, ci_lots, ci_pots, ci_shv, ⟨cs, rf_cs, hat_cs, ln_cs⟩, ⟨lz, rf_lz, hat_lz, ln_lz⟩, ⟨ps, rf_ps, hat_ps, ln_ps⟩, ⟨tp, rf_tp, hat_tp, ci_tsz, ci_tfp, ⟨tb, rf_tb, hat_tb, ln_tb⟩⟩, ⟨st, rf_st, hat_st, ci_st, ⟨pr, rf_pr, hat_pr, ln_pr⟩, ⟨mx, rf_mx, hat_mx⟩⟩, ⟨dr, rf_dr, hat_dr, ci_dsz⟩, sh, rf_sh, hat_sh, ln_sh, hpl⟩ := hF
  have ci_800 := ci_st 800 (by decide)
  have ci_801 := ci_st 801 (by decide)
  have ci_802 := ci_st 802 (by decide)
  have ci_803 := ci_st 803 (by decide)
  have ci_804 := ci_st 804 (by decide)
  have ci_805 := ci_st 805 (by decide)
  have ci_806 := ci_st 806 (by decide)
  have hF := hF0
  have hFst : StF S st := by obtain ⟨-, -, -, -, -, -, -, -, ⟨t9, h8, h9⟩, -⟩ := hF; rw [h8] at rf_st; cases rf_st; exact h9
  refine lv_aload_n X.1 X.2.1 dX11_grade_0 rfl (lv_at hl 0 rfl) ?_
  refine r_getR (g := 1107) X hw hat_x 7 rf_st (by decide) rfl inn_X11_grade_11 (by decide) (X.2.2.2.1 (.fieldLink RX11 42 "SilkMill" "store" "LSilkMill$Store;") (by decide +kernel)) rfl (gv_1107 _ _) dX11_grade_1 ?_
  refine lv_iload_n X.1 X.2.1 dX11_grade_4 rfl (lv_at hl 1 rfl) ?_
  refine k_q (rm := { frames := 1, cells := 0, slots := 0, locals := 40 }) (av := [.ref st, .int (a1)]) X hw (va_runV (As := [.int (a1)]) (rest := []) (cfix X) (c_X8_skeinAt l G cy S _ st (a1) hFst) (cwV 1 X.2.2.2.1 gX11_grade_X8_skeinAt rfl rfl rfl (by decide +kernel) ⟨Nat.le_of_ble_eq_true rfl, Nat.le_of_ble_eq_true rfl⟩) (pre_V X hw _ hat_st (by decide) rfl) rfl rfl hl.1 rfl (lv_room (Nat.le_of_ble_eq_true rfl)) dX11_grade_5 ⟨Nat.le_of_ble_eq_true rfl, Nat.le_of_ble_eq_true rfl⟩) 0 0 (Nat.le_of_ble_eq_true rfl) (Nat.le_of_ble_eq_true rfl) (fun rr_5 S2 H locs hp hw hfr hnw => ?_)
  obtain ⟨e2_5, er_5⟩ := hp
  subst e2_5
  subst er_5
  refine W.eq (g2 := F0 m 8 ls (.null :: [])) rfl ?_
  refine lv_astoreN (lv' := [(4, .null), (0, .ref x), (1, .int (a1)), (2, .int (a2)), (3, .int (a3))]) X.1 X.2.1 dX11_grade_8 hl (by decide) rfl (fun ls hl => ?_)
  refine lv_aloadN X.1 X.2.1 dX11_grade_10 (lv_at hl 0 rfl) ?_
  refine lv_ifnullN (tgt := 36) X.1 X.2.1 dX11_grade_12 (by decide) ?_
  refine lv_iconst (v := (-1)) X.1 X.2.1 dX11_grade_36 (by decide) ?_
  exact ret_i X hw hr hlocks (Nat.le_of_ble_eq_true rfl) (Nat.le_of_ble_eq_true rfl) rfl dX11_grade_37
set_option maxHeartbeats 4000000 in
set_option maxRecDepth 100000 in
theorem c_X11_drawn (l : Launch) (G : va_G) (cy : Nat → ClassId) (S : PS) (sz : Nat) (x : Nat) (a1 : Int32) (hF : FX S x) : Ci l yX11_drawn wsX11_drawn ({ frames := 4, cells := 0, slots := 0, locals := 160 }) G cy S sz [.ref x, .int (a1)] (fun (r : Int32) (S9 : PS) => r = -1) := by
  refine ent_m (cc := cX11_drawn) (maxL := 2) (ret := (some .int)) (by decide) rfl (Nat.le_of_ble_eq_true rfl) ?_
  intro p e s m below meth c ls X hr hlocks hin hw hl hsz
  subst hsz
  have X : Cx p c cX11_drawn 2 s [.ref x, .int (a1)].toArray wsX11_drawn RX11 m G cy (AS S s.heap.size) := X
  have hl : lv_has ls 2 [(0, .ref x), (1, .int (a1))] := hl
  have hF0 := hF
  obtain ⟨hat_x, ci_lots, ci_pots, ci_shv, ⟨cs, rf_cs, hat_cs, ln_cs⟩, ⟨lz, rf_lz, hat_lz, ln_lz⟩, ⟨ps, rf_ps, hat_ps, ln_ps⟩, ⟨tp, rf_tp, hat_tp, ci_tsz, ci_tfp, ⟨tb, rf_tb, hat_tb, ln_tb⟩⟩, ⟨st, rf_st, hat_st, ci_st, ⟨pr, rf_pr, hat_pr, ln_pr⟩, ⟨mx, rf_mx, hat_mx⟩⟩, ⟨dr, rf_dr, hat_dr, ci_dsz⟩, sh, rf_sh, hat_sh, ln_sh, hpl⟩ := hF
  have hF := hF0
  refine lv_aload_n X.1 X.2.1 dX11_drawn_0 rfl (lv_at hl 0 rfl) ?_
  refine r_getR (g := 1108) X hw hat_x 8 rf_dr (by decide) rfl inn_X11_drawn_11 (by decide) (X.2.2.2.1 (.fieldLink RX11 49 "SilkMill" "latestDraw" "LSilkMill$Draw;") (by decide +kernel)) rfl (gv_1108 _ _) dX11_drawn_1 ?_
  refine r_get (v := .int 0) X hw hat_dr 1 (by decide) rfl inn_X11_drawn_1 (by decide) (X.2.2.2.1 (.fieldLink RX11 294 "SilkMill$Draw" "size" "I") (by decide +kernel)) rfl ((gv_101 _ _).trans (congrArg (fun z => some (Value.int z)) ci_dsz)) dX11_drawn_4 ?_
  refine lv_if_eq (tgt := 14) X.1 X.2.1 dX11_drawn_7 (by decide) (fun c_7 => ?_) (fun c_7 => absurd c_7 (by decide))
  refine lv_iconst (v := (-1)) X.1 X.2.1 dX11_drawn_14 (by decide) ?_
  exact ret_i X hw hr hlocks (Nat.le_of_ble_eq_true rfl) (Nat.le_of_ble_eq_true rfl) rfl dX11_drawn_15
set_option maxHeartbeats 4000000 in
set_option maxRecDepth 100000 in
theorem c_X11_mixed (l : Launch) (G : va_G) (cy : Nat → ClassId) (S : PS) (sz : Nat) (x : Nat) (a1 : Int32) (hF : FX S x) : Ci l yX11_mixed wsX11_mixed ({ frames := 4, cells := 0, slots := 0, locals := 160 }) G cy S sz [.ref x, .int (a1)] (fun (r : Int32) (S9 : PS) => r = 0) := by
  refine ent_m (cc := cX11_mixed) (maxL := 3) (ret := (some .boolean)) (by decide) rfl (Nat.le_of_ble_eq_true rfl) ?_
  intro p e s m below meth c ls X hr hlocks hin hw hl hsz
  subst hsz
  have X : Cx p c cX11_mixed 3 s [.ref x, .int (a1)].toArray wsX11_mixed RX11 m G cy (AS S s.heap.size) := X
  have hl : lv_has ls 3 [(0, .ref x), (1, .int (a1))] := hl
  have hF0 := hF
  obtain ⟨hat_x, ci_lots, ci_pots, ci_shv, ⟨cs, rf_cs, hat_cs, ln_cs⟩, ⟨lz, rf_lz, hat_lz, ln_lz⟩, ⟨ps, rf_ps, hat_ps, ln_ps⟩, ⟨tp, rf_tp, hat_tp, ci_tsz, ci_tfp, ⟨tb, rf_tb, hat_tb, ln_tb⟩⟩, ⟨st, rf_st, hat_st, ci_st, ⟨pr, rf_pr, hat_pr, ln_pr⟩, ⟨mx, rf_mx, hat_mx⟩⟩, ⟨dr, rf_dr, hat_dr, ci_dsz⟩, sh, rf_sh, hat_sh, ln_sh, hpl⟩ := hF
  have ci_800 := ci_st 800 (by decide)
  have ci_801 := ci_st 801 (by decide)
  have ci_802 := ci_st 802 (by decide)
  have ci_803 := ci_st 803 (by decide)
  have ci_804 := ci_st 804 (by decide)
  have ci_805 := ci_st 805 (by decide)
  have ci_806 := ci_st 806 (by decide)
  have hF := hF0
  have hFst : StF S st := by obtain ⟨-, -, -, -, -, -, -, -, ⟨t9, h8, h9⟩, -⟩ := hF; rw [h8] at rf_st; cases rf_st; exact h9
  refine lv_aload_n X.1 X.2.1 dX11_mixed_0 rfl (lv_at hl 0 rfl) ?_
  refine r_getR (g := 1107) X hw hat_x 7 rf_st (by decide) rfl inn_X11_mixed_11 (by decide) (X.2.2.2.1 (.fieldLink RX11 42 "SilkMill" "store" "LSilkMill$Store;") (by decide +kernel)) rfl (gv_1107 _ _) dX11_mixed_1 ?_
  refine lv_iload_n X.1 X.2.1 dX11_mixed_4 rfl (lv_at hl 1 rfl) ?_
  refine k_q (rm := { frames := 1, cells := 0, slots := 0, locals := 40 }) (av := [.ref st, .int (a1)]) X hw (va_runV (As := [.int (a1)]) (rest := []) (cfix X) (c_X8_skeinAt l G cy S _ st (a1) hFst) (cwV 1 X.2.2.2.1 gX11_mixed_X8_skeinAt rfl rfl rfl (by decide +kernel) ⟨Nat.le_of_ble_eq_true rfl, Nat.le_of_ble_eq_true rfl⟩) (pre_V X hw _ hat_st (by decide) rfl) rfl rfl hl.1 rfl (lv_room (Nat.le_of_ble_eq_true rfl)) dX11_mixed_5 ⟨Nat.le_of_ble_eq_true rfl, Nat.le_of_ble_eq_true rfl⟩) 0 0 (Nat.le_of_ble_eq_true rfl) (Nat.le_of_ble_eq_true rfl) (fun rr_5 S2 H locs hp hw hfr hnw => ?_)
  obtain ⟨e2_5, er_5⟩ := hp
  subst e2_5
  subst er_5
  refine W.eq (g2 := F0 m 8 ls (.null :: [])) rfl ?_
  refine lv_astore_nN (lv' := [(2, .null), (0, .ref x), (1, .int (a1))]) X.1 X.2.1 dX11_mixed_8 rfl hl (by decide) rfl (fun ls hl => ?_)
  refine lv_aload_nN X.1 X.2.1 dX11_mixed_9 rfl (lv_at hl 0 rfl) ?_
  refine lv_ifnullN (tgt := 24) X.1 X.2.1 dX11_mixed_10 (by decide) ?_
  refine lv_iconst (v := 0) X.1 X.2.1 dX11_mixed_24 (by decide) ?_
  exact ret_z X hw hr hlocks (Nat.le_of_ble_eq_true rfl) (Nat.le_of_ble_eq_true rfl) (by decide) rfl dX11_mixed_25
set_option maxHeartbeats 4000000 in
set_option maxRecDepth 100000 in
theorem c_X11_fault (l : Launch) (G : va_G) (cy : Nat → ClassId) (S : PS) (sz : Nat) (x : Nat) (a1 : Int32) (a2 : Int32) (hF : FX S x) : Ci l yX11_fault wsX11_fault ({ frames := 4, cells := 0, slots := 0, locals := 160 }) G cy S sz [.ref x, .int (a1), .int (a2)] (fun (r : Int32) (S9 : PS) => r = 0) := by
  refine ent_m (cc := cX11_fault) (maxL := 3) (ret := (some .boolean)) (by decide) rfl (Nat.le_of_ble_eq_true rfl) ?_
  intro p e s m below meth c ls X hr hlocks hin hw hl hsz
  subst hsz
  have X : Cx p c cX11_fault 3 s [.ref x, .int (a1), .int (a2)].toArray wsX11_fault RX11 m G cy (AS S s.heap.size) := X
  have hl : lv_has ls 3 [(0, .ref x), (1, .int (a1)), (2, .int (a2))] := hl
  have hF0 := hF
  obtain ⟨hat_x, ci_lots, ci_pots, ci_shv, ⟨cs, rf_cs, hat_cs, ln_cs⟩, ⟨lz, rf_lz, hat_lz, ln_lz⟩, ⟨ps, rf_ps, hat_ps, ln_ps⟩, ⟨tp, rf_tp, hat_tp, ci_tsz, ci_tfp, ⟨tb, rf_tb, hat_tb, ln_tb⟩⟩, ⟨st, rf_st, hat_st, ci_st, ⟨pr, rf_pr, hat_pr, ln_pr⟩, ⟨mx, rf_mx, hat_mx⟩⟩, ⟨dr, rf_dr, hat_dr, ci_dsz⟩, sh, rf_sh, hat_sh, ln_sh, hpl⟩ := hF
  have ci_800 := ci_st 800 (by decide)
  have ci_801 := ci_st 801 (by decide)
  have ci_802 := ci_st 802 (by decide)
  have ci_803 := ci_st 803 (by decide)
  have ci_804 := ci_st 804 (by decide)
  have ci_805 := ci_st 805 (by decide)
  have ci_806 := ci_st 806 (by decide)
  have hF := hF0
  have hFst : StF S st := by obtain ⟨-, -, -, -, -, -, -, -, ⟨t9, h8, h9⟩, -⟩ := hF; rw [h8] at rf_st; cases rf_st; exact h9
  refine lv_aload_n X.1 X.2.1 dX11_fault_0 rfl (lv_at hl 0 rfl) ?_
  refine r_getR (g := 1107) X hw hat_x 7 rf_st (by decide) rfl inn_X11_fault_11 (by decide) (X.2.2.2.1 (.fieldLink RX11 42 "SilkMill" "store" "LSilkMill$Store;") (by decide +kernel)) rfl (gv_1107 _ _) dX11_fault_1 ?_
  refine lv_iload_n X.1 X.2.1 dX11_fault_4 rfl (lv_at hl 1 rfl) ?_
  refine k_q (rm := { frames := 1, cells := 0, slots := 0, locals := 40 }) (av := [.ref st, .int (a1)]) X hw (va_runV (As := [.int (a1)]) (rest := []) (cfix X) (c_X8_skeinAt l G cy S _ st (a1) hFst) (cwV 1 X.2.2.2.1 gX11_fault_X8_skeinAt rfl rfl rfl (by decide +kernel) ⟨Nat.le_of_ble_eq_true rfl, Nat.le_of_ble_eq_true rfl⟩) (pre_V X hw _ hat_st (by decide) rfl) rfl rfl hl.1 rfl (lv_room (Nat.le_of_ble_eq_true rfl)) dX11_fault_5 ⟨Nat.le_of_ble_eq_true rfl, Nat.le_of_ble_eq_true rfl⟩) 0 0 (Nat.le_of_ble_eq_true rfl) (Nat.le_of_ble_eq_true rfl) (fun rr_5 S2 H locs hp hw hfr hnw => ?_)
  obtain ⟨e2_5, er_5⟩ := hp
  subst e2_5
  subst er_5
  refine W.eq (g2 := F0 m 8 ls (.null :: [])) rfl ?_
  refine lv_ifnullN (tgt := 38) X.1 X.2.1 dX11_fault_8 (by decide) ?_
  refine lv_iconst (v := 0) X.1 X.2.1 dX11_fault_38 (by decide) ?_
  exact ret_z X hw hr hlocks (Nat.le_of_ble_eq_true rfl) (Nat.le_of_ble_eq_true rfl) (by decide) rfl dX11_fault_39
set_option maxHeartbeats 4000000 in
set_option maxRecDepth 100000 in
theorem c_X11_pay (l : Launch) (G : va_G) (cy : Nat → ClassId) (S : PS) (sz : Nat) (x : Nat) (a1 : Int32) (a2 : Int32) (a3 : Int32) (hF : FX S x) : Ci l yX11_pay wsX11_pay ({ frames := 4, cells := 0, slots := 0, locals := 160 }) G cy S sz [.ref x, .int (a1), .int (a2), .int (a3)] (fun (r : Int32) (S9 : PS) => r = 0) := by
  refine ent_m (cc := cX11_pay) (maxL := 4) (ret := (some .int)) (by decide) rfl (Nat.le_of_ble_eq_true rfl) ?_
  intro p e s m below meth c ls X hr hlocks hin hw hl hsz
  subst hsz
  have X : Cx p c cX11_pay 4 s [.ref x, .int (a1), .int (a2), .int (a3)].toArray wsX11_pay RX11 m G cy (AS S s.heap.size) := X
  have hl : lv_has ls 4 [(0, .ref x), (1, .int (a1)), (2, .int (a2)), (3, .int (a3))] := hl
  have hF0 := hF
  obtain ⟨hat_x, ci_lots, ci_pots, ci_shv, ⟨cs, rf_cs, hat_cs, ln_cs⟩, ⟨lz, rf_lz, hat_lz, ln_lz⟩, ⟨ps, rf_ps, hat_ps, ln_ps⟩, ⟨tp, rf_tp, hat_tp, ci_tsz, ci_tfp, ⟨tb, rf_tb, hat_tb, ln_tb⟩⟩, ⟨st, rf_st, hat_st, ci_st, ⟨pr, rf_pr, hat_pr, ln_pr⟩, ⟨mx, rf_mx, hat_mx⟩⟩, ⟨dr, rf_dr, hat_dr, ci_dsz⟩, sh, rf_sh, hat_sh, ln_sh, hpl⟩ := hF
  have ci_800 := ci_st 800 (by decide)
  have ci_801 := ci_st 801 (by decide)
  have ci_802 := ci_st 802 (by decide)
  have ci_803 := ci_st 803 (by decide)
  have ci_804 := ci_st 804 (by decide)
  have ci_805 := ci_st 805 (by decide)
  have ci_806 := ci_st 806 (by decide)
  have hF := hF0
  have hFst : StF S st := by obtain ⟨-, -, -, -, -, -, -, -, ⟨t9, h8, h9⟩, -⟩ := hF; rw [h8] at rf_st; cases rf_st; exact h9
  refine lv_aload_n X.1 X.2.1 dX11_pay_0 rfl (lv_at hl 0 rfl) ?_
  refine lv_iload_n X.1 X.2.1 dX11_pay_1 rfl (lv_at hl 1 rfl) ?_
  refine k_q (rm := { frames := 1, cells := 0, slots := 0, locals := 40 }) (av := [.ref x, .int (a1)]) X hw (va_runV (As := [.int (a1)]) (rest := []) (cfix X) (c_X11_potAt l G cy S _ x (a1) hF) (cwV 1 X.2.2.2.1 gX11_pay_X11_potAt rfl rfl rfl (by decide +kernel) ⟨Nat.le_of_ble_eq_true rfl, Nat.le_of_ble_eq_true rfl⟩) (pre_V X hw _ hat_x (by decide) rfl) rfl rfl hl.1 rfl (lv_room (Nat.le_of_ble_eq_true rfl)) dX11_pay_2 ⟨Nat.le_of_ble_eq_true rfl, Nat.le_of_ble_eq_true rfl⟩) 0 0 (Nat.le_of_ble_eq_true rfl) (Nat.le_of_ble_eq_true rfl) (fun rr_2 S2 H locs hp hw hfr hnw => ?_)
  obtain ⟨e2_2, er_2⟩ := hp
  subst e2_2
  subst er_2
  refine W.eq (g2 := F0 m 5 ls (.null :: [])) rfl ?_
  refine lv_ifnullN (tgt := 38) X.1 X.2.1 dX11_pay_5 (by decide) ?_
  refine lv_iconst (v := 0) X.1 X.2.1 dX11_pay_38 (by decide) ?_
  exact ret_i X hw hr hlocks (Nat.le_of_ble_eq_true rfl) (Nat.le_of_ble_eq_true rfl) rfl dX11_pay_39
set_option maxHeartbeats 4000000 in
set_option maxRecDepth 100000 in
theorem c_X11_day (l : Launch) (G : va_G) (cy : Nat → ClassId) (S : PS) (sz : Nat) (x : Nat) (hF : FX S x) : Ci l yX11_day wsX11_day ({ frames := 4, cells := 0, slots := 0, locals := 160 }) G cy S sz [.ref x] (fun (r : Int32) (S9 : PS) => r = 1) := by
  refine ent_m (cc := cX11_day) (maxL := 1) (ret := (some .int)) (by decide) rfl (Nat.le_of_ble_eq_true rfl) ?_
  intro p e s m below meth c ls X hr hlocks hin hw hl hsz
  subst hsz
  have X : Cx p c cX11_day 1 s [.ref x].toArray wsX11_day RX11 m G cy (AS S s.heap.size) := X
  have hl : lv_has ls 1 [(0, .ref x)] := hl
  have hF0 := hF
  obtain ⟨hat_x, ci_lots, ci_pots, ci_shv, ⟨cs, rf_cs, hat_cs, ln_cs⟩, ⟨lz, rf_lz, hat_lz, ln_lz⟩, ⟨ps, rf_ps, hat_ps, ln_ps⟩, ⟨tp, rf_tp, hat_tp, ci_tsz, ci_tfp, ⟨tb, rf_tb, hat_tb, ln_tb⟩⟩, ⟨st, rf_st, hat_st, ci_st, ⟨pr, rf_pr, hat_pr, ln_pr⟩, ⟨mx, rf_mx, hat_mx⟩⟩, ⟨dr, rf_dr, hat_dr, ci_dsz⟩, sh, rf_sh, hat_sh, ln_sh, hpl⟩ := hF
  have ci_800 := ci_st 800 (by decide)
  have ci_801 := ci_st 801 (by decide)
  have ci_802 := ci_st 802 (by decide)
  have ci_803 := ci_st 803 (by decide)
  have ci_804 := ci_st 804 (by decide)
  have ci_805 := ci_st 805 (by decide)
  have ci_806 := ci_st 806 (by decide)
  have hF := hF0
  have hFst : StF S st := by obtain ⟨-, -, -, -, -, -, -, -, ⟨t9, h8, h9⟩, -⟩ := hF; rw [h8] at rf_st; cases rf_st; exact h9
  refine lv_aload_n X.1 X.2.1 dX11_day_0 rfl (lv_at hl 0 rfl) ?_
  refine r_getR (g := 1107) X hw hat_x 7 rf_st (by decide) rfl inn_X11_day_11 (by decide) (X.2.2.2.1 (.fieldLink RX11 42 "SilkMill" "store" "LSilkMill$Store;") (by decide +kernel)) rfl (gv_1107 _ _) dX11_day_1 ?_
  refine lv_dup X.1 X.2.1 dX11_day_4 rfl ?_
  refine r_get (v := .int 0) X hw hat_st 1 (by decide) rfl inn_X11_day_8 (by decide) (X.2.2.2.1 (.fieldLink RX11 349 "SilkMill$Store" "today" "I") (by decide +kernel)) rfl ((gv_801 _ _).trans (congrArg (fun z => some (Value.int z)) ci_801)) dX11_day_5 ?_
  refine lv_iconst (v := 1) X.1 X.2.1 dX11_day_8 (by decide) ?_
  refine lv_iadd X.1 X.2.1 dX11_day_9 ?_
  refine lv_topi (fun v_1 ev_1 => ?_)
  obtain rfl : v_1 = 1 := ev_1.trans (by decide +kernel)
  refine r_putI (v := 1) X hw hat_st 1 801 tyX8 (by decide) rfl inn_X11_day_8 tyX8_ok nmX8 (by decide) (X.2.2.2.1 (.fieldLink RX11 349 "SilkMill$Store" "today" "I") (by decide +kernel)) rfl (Or.inl rfl) rfl rfl (Nat.le_of_ble_eq_true rfl) (st_801 _ _) dX11_day_10 (fun H locs hw => ?_)
  generalize eS_2 : sI S 801 st 1 = S_2 at hw
  have hat_x : At S_2 x 11 := by rw [← eS_2]; exact At_sI hat_x
  have hat_st : At S_2 st 8 := by rw [← eS_2]; exact At_sI hat_st
  have rf_st : pR S_2 1107 x = some st := by rw [← eS_2, pR_sI]; exact rf_st
  have ci_lots : pI S_2 1102 x = 0 := by rw [← eS_2]; exact (pI_sI_nf (by decide)).trans ci_lots
  have ci_pots : pI S_2 1104 x = 0 := by rw [← eS_2]; exact (pI_sI_nf (by decide)).trans ci_pots
  have ci_shv : pI S_2 1110 x = 0 := by rw [← eS_2]; exact (pI_sI_nf (by decide)).trans ci_shv
  have ci_800 : pI S_2 800 st = 0 := by rw [← eS_2]; exact (pI_sI_nf (by decide)).trans ci_800
  have ci_802 : pI S_2 802 st = 0 := by rw [← eS_2]; exact (pI_sI_nf (by decide)).trans ci_802
  have ci_803 : pI S_2 803 st = 0 := by rw [← eS_2]; exact (pI_sI_nf (by decide)).trans ci_803
  have ci_804 : pI S_2 804 st = 0 := by rw [← eS_2]; exact (pI_sI_nf (by decide)).trans ci_804
  have ci_805 : pI S_2 805 st = 0 := by rw [← eS_2]; exact (pI_sI_nf (by decide)).trans ci_805
  have ci_806 : pI S_2 806 st = 0 := by rw [← eS_2]; exact (pI_sI_nf (by decide)).trans ci_806
  have hc_3 : pI S_2 801 st = 1 := by rw [← eS_2]; exact pI_sI_same
  refine lv_aload_n X.1 X.2.1 dX11_day_13 rfl (lv_at hl 0 rfl) ?_
  refine r_getR (g := 1107) X hw hat_x 7 rf_st (by decide) rfl inn_X11_day_11 (by decide) (X.2.2.2.1 (.fieldLink RX11 42 "SilkMill" "store" "LSilkMill$Store;") (by decide +kernel)) rfl (gv_1107 _ _) dX11_day_14 ?_
  refine r_get (v := .int 1) X hw hat_st 1 (by decide) rfl inn_X11_day_8 (by decide) (X.2.2.2.1 (.fieldLink RX11 349 "SilkMill$Store" "today" "I") (by decide +kernel)) rfl ((gv_801 _ _).trans (congrArg (fun z => some (Value.int z)) hc_3)) dX11_day_17 ?_
  exact ret_i X hw hr hlocks (Nat.le_of_ble_eq_true rfl) (Nat.le_of_ble_eq_true rfl) rfl dX11_day_20
