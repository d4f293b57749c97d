set_option maxHeartbeats 4000000 in
set_option maxRecDepth 100000 in
theorem c_J7_fill_53178 (l : Launch) (G : va_G) (cy : Nat → ClassId) (S : PS) (sz : Nat) (wd : Nat) (v : Int32) (hat_wd : At S wd 14) (ln_wd : pN S wd = 8) : Cv l yJ7_fill_53178 wsJ7_fill_53178 ({ frames := 1, cells := 0, slots := 0, locals := 40 }) G cy S sz [.ref wd, .int (v)] (fun (S9 : PS) => (∀ a k, At S a k → At S9 a k) ∧ pI S9 = pI S ∧ pR S9 = pR S) := by
  refine ent_m (cc := cJ7_fill_53178) (maxL := 4) (ret := none) (by decide) rfl (Nat.le_of_ble_eq_true rfl) ?_
  intro p e s m below meth c ls X hr hlocks hin hw hl hsz
  subst hsz
  have X : Cx p c cJ7_fill_53178 4 s [.ref wd, .int (v)].toArray wsJ7_fill_53178 RJ7 m G cy (AS S s.heap.size) := X
  have hl : lv_has ls 4 [(0, .ref wd), (1, .int (v))] := hl
  refine lv_iconst (v := 0) X.1 X.2.1 dJ7_fill_53178_0 (by decide) ?_
  refine lv_istore_n (lv' := [(2, .int 0), (0, .ref wd), (1, .int (v))]) X.1 X.2.1 dJ7_fill_53178_1 rfl hl (by decide) rfl (fun ls hl => ?_)
  refine lv_aload_n X.1 X.2.1 dJ7_fill_53178_2 rfl (lv_at hl 1 rfl) ?_
  refine r_alen X hw hat_wd (by decide) rfl dJ7_fill_53178_3 ?_
  rw [ln_wd]
  refine W.eq (g2 := F0 m 4 ls (.int 8 :: [])) rfl ?_
  refine lv_istore_n (lv' := [(3, .int 8), (2, .int 0), (0, .ref wd), (1, .int (v))]) X.1 X.2.1 dJ7_fill_53178_4 rfl hl (by decide) rfl (fun ls hl => ?_)
  refine lv_iload_n X.1 X.2.1 dJ7_fill_53178_5 rfl (lv_at hl 1 rfl) ?_
  refine lv_iload_n X.1 X.2.1 dJ7_fill_53178_6 rfl (lv_at hl 0 rfl) ?_
  refine lv_icmp_ge (tgt := 20) X.1 X.2.1 dJ7_fill_53178_7 (by decide) (fun c_7 => absurd c_7 (by decide)) (fun c_7 => ?_)
  refine lv_aload_n X.1 X.2.1 dJ7_fill_53178_10 rfl (lv_at hl 2 rfl) ?_
  refine lv_iload_n X.1 X.2.1 dJ7_fill_53178_11 rfl (lv_at hl 1 rfl) ?_
  refine lv_iload_n X.1 X.2.1 dJ7_fill_53178_12 rfl (lv_at hl 3 rfl) ?_
  refine r_iast X hw hat_wd (by rw [ln_wd]; exact vp_in_iff.mpr (by decide +kernel)) dJ7_fill_53178_13 (fun H locs hw => ?_)
  generalize eS_1 : sA S wd (upd (pA S wd) (Int32.toNatClampNeg (0)) v) = S_1 at hw
  have hat_wd : At S_1 wd 14 := by rw [← eS_1]; exact At_sA hat_wd
  have ln_wd : pN S_1 wd = 8 := by rw [← eS_1, pN_sA]; exact ln_wd
  refine lv_iinc (v := 1) (lv' := [(2, .int 1), (3, .int 8), (0, .ref wd), (1, .int (v))]) X.1 X.2.1 dJ7_fill_53178_14 hl (k := 1) rfl (by decide) (by decide) rfl (fun ls hl => ?_)
  refine lv_goto (tgt := 5) X.1 X.2.1 dJ7_fill_53178_17 (by decide) ?_
  refine lv_iload_n X.1 X.2.1 dJ7_fill_53178_5 rfl (lv_at hl 0 rfl) ?_
  refine lv_iload_n X.1 X.2.1 dJ7_fill_53178_6 rfl (lv_at hl 1 rfl) ?_
  refine lv_icmp_ge (tgt := 20) X.1 X.2.1 dJ7_fill_53178_7 (by decide) (fun c_7 => absurd c_7 (by decide)) (fun c_7 => ?_)
  refine lv_aload_n X.1 X.2.1 dJ7_fill_53178_10 rfl (lv_at hl 2 rfl) ?_
  refine lv_iload_n X.1 X.2.1 dJ7_fill_53178_11 rfl (lv_at hl 0 rfl) ?_
  refine lv_iload_n X.1 X.2.1 dJ7_fill_53178_12 rfl (lv_at hl 3 rfl) ?_
  refine r_iast X hw hat_wd (by rw [ln_wd]; exact vp_in_iff.mpr (by decide +kernel)) dJ7_fill_53178_13 (fun H locs hw => ?_)
  generalize eS_2 : sA S_1 wd (upd (pA S_1 wd) (Int32.toNatClampNeg (1)) v) = S_2 at hw
  have hat_wd : At S_2 wd 14 := by rw [← eS_2]; exact At_sA hat_wd
  have ln_wd : pN S_2 wd = 8 := by rw [← eS_2, pN_sA]; exact ln_wd
  refine lv_iinc (v := 2) (lv' := [(2, .int 2), (3, .int 8), (0, .ref wd), (1, .int (v))]) X.1 X.2.1 dJ7_fill_53178_14 hl (k := 0) rfl (by decide) (by decide) rfl (fun ls hl => ?_)
  refine lv_goto (tgt := 5) X.1 X.2.1 dJ7_fill_53178_17 (by decide) ?_
  refine lv_iload_n X.1 X.2.1 dJ7_fill_53178_5 rfl (lv_at hl 0 rfl) ?_
  refine lv_iload_n X.1 X.2.1 dJ7_fill_53178_6 rfl (lv_at hl 1 rfl) ?_
  refine lv_icmp_ge (tgt := 20) X.1 X.2.1 dJ7_fill_53178_7 (by decide) (fun c_7 => absurd c_7 (by decide)) (fun c_7 => ?_)
  refine lv_aload_n X.1 X.2.1 dJ7_fill_53178_10 rfl (lv_at hl 2 rfl) ?_
  refine lv_iload_n X.1 X.2.1 dJ7_fill_53178_11 rfl (lv_at hl 0 rfl) ?_
  refine lv_iload_n X.1 X.2.1 dJ7_fill_53178_12 rfl (lv_at hl 3 rfl) ?_
  refine r_iast X hw hat_wd (by rw [ln_wd]; exact vp_in_iff.mpr (by decide +kernel)) dJ7_fill_53178_13 (fun H locs hw => ?_)
  generalize eS_3 : sA S_2 wd (upd (pA S_2 wd) (Int32.toNatClampNeg (2)) v) = S_3 at hw
  have hat_wd : At S_3 wd 14 := by rw [← eS_3]; exact At_sA hat_wd
  have ln_wd : pN S_3 wd = 8 := by rw [← eS_3, pN_sA]; exact ln_wd
  refine lv_iinc (v := 3) (lv' := [(2, .int 3), (3, .int 8), (0, .ref wd), (1, .int (v))]) X.1 X.2.1 dJ7_fill_53178_14 hl (k := 0) rfl (by decide) (by decide) rfl (fun ls hl => ?_)
  refine lv_goto (tgt := 5) X.1 X.2.1 dJ7_fill_53178_17 (by decide) ?_
  refine lv_iload_n X.1 X.2.1 dJ7_fill_53178_5 rfl (lv_at hl 0 rfl) ?_
  refine lv_iload_n X.1 X.2.1 dJ7_fill_53178_6 rfl (lv_at hl 1 rfl) ?_
  refine lv_icmp_ge (tgt := 20) X.1 X.2.1 dJ7_fill_53178_7 (by decide) (fun c_7 => absurd c_7 (by decide)) (fun c_7 => ?_)
  refine lv_aload_n X.1 X.2.1 dJ7_fill_53178_10 rfl (lv_at hl 2 rfl) ?_
  refine lv_iload_n X.1 X.2.1 dJ7_fill_53178_11 rfl (lv_at hl 0 rfl) ?_
  refine lv_iload_n X.1 X.2.1 dJ7_fill_53178_12 rfl (lv_at hl 3 rfl) ?_
  refine r_iast X hw hat_wd (by rw [ln_wd]; exact vp_in_iff.mpr (by decide +kernel)) dJ7_fill_53178_13 (fun H locs hw => ?_)
  generalize eS_4 : sA S_3 wd (upd (pA S_3 wd) (Int32.toNatClampNeg (3)) v) = S_4 at hw
  have hat_wd : At S_4 wd 14 := by rw [← eS_4]; exact At_sA hat_wd
  have ln_wd : pN S_4 wd = 8 := by rw [← eS_4, pN_sA]; exact ln_wd
  refine lv_iinc (v := 4) (lv' := [(2, .int 4), (3, .int 8), (0, .ref wd), (1, .int (v))]) X.1 X.2.1 dJ7_fill_53178_14 hl (k := 0) rfl (by decide) (by decide) rfl (fun ls hl => ?_)
  refine lv_goto (tgt := 5) X.1 X.2.1 dJ7_fill_53178_17 (by decide) ?_
  refine lv_iload_n X.1 X.2.1 dJ7_fill_53178_5 rfl (lv_at hl 0 rfl) ?_
  refine lv_iload_n X.1 X.2.1 dJ7_fill_53178_6 rfl (lv_at hl 1 rfl) ?_
  refine lv_icmp_ge (tgt := 20) X.1 X.2.1 dJ7_fill_53178_7 (by decide) (fun c_7 => absurd c_7 (by decide)) (fun c_7 => ?_)
  refine lv_aload_n X.1 X.2.1 dJ7_fill_53178_10 rfl (lv_at hl 2 rfl) ?_
  refine lv_iload_n X.1 X.2.1 dJ7_fill_53178_11 rfl (lv_at hl 0 rfl) ?_
  refine lv_iload_n X.1 X.2.1 dJ7_fill_53178_12 rfl (lv_at hl 3 rfl) ?_
  refine r_iast X hw hat_wd (by rw [ln_wd]; exact vp_in_iff.mpr (by decide +kernel)) dJ7_fill_53178_13 (fun H locs hw => ?_)
  generalize eS_5 : sA S_4 wd (upd (pA S_4 wd) (Int32.toNatClampNeg (4)) v) = S_5 at hw
  have hat_wd : At S_5 wd 14 := by rw [← eS_5]; exact At_sA hat_wd
  have ln_wd : pN S_5 wd = 8 := by rw [← eS_5, pN_sA]; exact ln_wd
  refine lv_iinc (v := 5) (lv' := [(2, .int 5), (3, .int 8), (0, .ref wd), (1, .int (v))]) X.1 X.2.1 dJ7_fill_53178_14 hl (k := 0) rfl (by decide) (by decide) rfl (fun ls hl => ?_)
  refine lv_goto (tgt := 5) X.1 X.2.1 dJ7_fill_53178_17 (by decide) ?_
  refine lv_iload_n X.1 X.2.1 dJ7_fill_53178_5 rfl (lv_at hl 0 rfl) ?_
  refine lv_iload_n X.1 X.2.1 dJ7_fill_53178_6 rfl (lv_at hl 1 rfl) ?_
  refine lv_icmp_ge (tgt := 20) X.1 X.2.1 dJ7_fill_53178_7 (by decide) (fun c_7 => absurd c_7 (by decide)) (fun c_7 => ?_)
  refine lv_aload_n X.1 X.2.1 dJ7_fill_53178_10 rfl (lv_at hl 2 rfl) ?_
  refine lv_iload_n X.1 X.2.1 dJ7_fill_53178_11 rfl (lv_at hl 0 rfl) ?_
  refine lv_iload_n X.1 X.2.1 dJ7_fill_53178_12 rfl (lv_at hl 3 rfl) ?_
  refine r_iast X hw hat_wd (by rw [ln_wd]; exact vp_in_iff.mpr (by decide +kernel)) dJ7_fill_53178_13 (fun H locs hw => ?_)
  generalize eS_6 : sA S_5 wd (upd (pA S_5 wd) (Int32.toNatClampNeg (5)) v) = S_6 at hw
  have hat_wd : At S_6 wd 14 := by rw [← eS_6]; exact At_sA hat_wd
  have ln_wd : pN S_6 wd = 8 := by rw [← eS_6, pN_sA]; exact ln_wd
  refine lv_iinc (v := 6) (lv' := [(2, .int 6), (3, .int 8), (0, .ref wd), (1, .int (v))]) X.1 X.2.1 dJ7_fill_53178_14 hl (k := 0) rfl (by decide) (by decide) rfl (fun ls hl => ?_)
  refine lv_goto (tgt := 5) X.1 X.2.1 dJ7_fill_53178_17 (by decide) ?_
  refine lv_iload_n X.1 X.2.1 dJ7_fill_53178_5 rfl (lv_at hl 0 rfl) ?_
  refine lv_iload_n X.1 X.2.1 dJ7_fill_53178_6 rfl (lv_at hl 1 rfl) ?_
  refine lv_icmp_ge (tgt := 20) X.1 X.2.1 dJ7_fill_53178_7 (by decide) (fun c_7 => absurd c_7 (by decide)) (fun c_7 => ?_)
  refine lv_aload_n X.1 X.2.1 dJ7_fill_53178_10 rfl (lv_at hl 2 rfl) ?_
  refine lv_iload_n X.1 X.2.1 dJ7_fill_53178_11 rfl (lv_at hl 0 rfl) ?_
  refine lv_iload_n X.1 X.2.1 dJ7_fill_53178_12 rfl (lv_at hl 3 rfl) ?_
  refine r_iast X hw hat_wd (by rw [ln_wd]; exact vp_in_iff.mpr (by decide +kernel)) dJ7_fill_53178_13 (fun H locs hw => ?_)
  generalize eS_7 : sA S_6 wd (upd (pA S_6 wd) (Int32.toNatClampNeg (6)) v) = S_7 at hw
  have hat_wd : At S_7 wd 14 := by rw [← eS_7]; exact At_sA hat_wd
  have ln_wd : pN S_7 wd = 8 := by rw [← eS_7, pN_sA]; exact ln_wd
  refine lv_iinc (v := 7) (lv' := [(2, .int 7), (3, .int 8), (0, .ref wd), (1, .int (v))]) X.1 X.2.1 dJ7_fill_53178_14 hl (k := 0) rfl (by decide) (by decide) rfl (fun ls hl => ?_)
  refine lv_goto (tgt := 5) X.1 X.2.1 dJ7_fill_53178_17 (by decide) ?_
  refine lv_iload_n X.1 X.2.1 dJ7_fill_53178_5 rfl (lv_at hl 0 rfl) ?_
  refine lv_iload_n X.1 X.2.1 dJ7_fill_53178_6 rfl (lv_at hl 1 rfl) ?_
  refine lv_icmp_ge (tgt := 20) X.1 X.2.1 dJ7_fill_53178_7 (by decide) (fun c_7 => absurd c_7 (by decide)) (fun c_7 => ?_)
  refine lv_aload_n X.1 X.2.1 dJ7_fill_53178_10 rfl (lv_at hl 2 rfl) ?_
  refine lv_iload_n X.1 X.2.1 dJ7_fill_53178_11 rfl (lv_at hl 0 rfl) ?_
  refine lv_iload_n X.1 X.2.1 dJ7_fill_53178_12 rfl (lv_at hl 3 rfl) ?_
  refine r_iast X hw hat_wd (by rw [ln_wd]; exact vp_in_iff.mpr (by decide +kernel)) dJ7_fill_53178_13 (fun H locs hw => ?_)
  generalize eS_8 : sA S_7 wd (upd (pA S_7 wd) (Int32.toNatClampNeg (7)) v) = S_8 at hw
  have hat_wd : At S_8 wd 14 := by rw [← eS_8]; exact At_sA hat_wd
  have ln_wd : pN S_8 wd = 8 := by rw [← eS_8, pN_sA]; exact ln_wd
  refine lv_iinc (v := 8) (lv' := [(2, .int 8), (3, .int 8), (0, .ref wd), (1, .int (v))]) X.1 X.2.1 dJ7_fill_53178_14 hl (k := 0) rfl (by decide) (by decide) rfl (fun ls hl => ?_)
  refine lv_goto (tgt := 5) X.1 X.2.1 dJ7_fill_53178_17 (by decide) ?_
  refine lv_iload_n X.1 X.2.1 dJ7_fill_53178_5 rfl (lv_at hl 0 rfl) ?_
  refine lv_iload_n X.1 X.2.1 dJ7_fill_53178_6 rfl (lv_at hl 1 rfl) ?_
  refine lv_icmp_ge (tgt := 20) X.1 X.2.1 dJ7_fill_53178_7 (by decide) (fun c_7 => ?_) (fun c_7 => absurd c_7 (by decide))
  exact ret_v X hw hr hlocks (Nat.le_of_ble_eq_true rfl) (Nat.le_of_ble_eq_true rfl) (by refine ⟨fun _ _ h => ?_, ?_, ?_⟩ <;> subst eS_8 eS_7 eS_6 eS_5 eS_4 eS_3 eS_2 eS_1 <;> first | exact At_sA (At_sA (At_sA (At_sA (At_sA (At_sA (At_sA (At_sA h))))))) | (simp only [pI_sA, pR_sA]; done)) dJ7_fill_53178_20
set_option maxHeartbeats 4000000 in
set_option maxRecDepth 100000 in
theorem c_X3_putWord (l : Launch) (G : va_G) (cy : Nat → ClassId) (S : PS) (sz : Nat) (pl : Nat) (a1 : Int32) (a2 : Int32) (hF : PlF S pl) : Ci l yX3_putWord wsX3_putWord ({ frames := 3, cells := 0, slots := 0, locals := 120 }) G cy S sz [.ref pl, .int (a1), .int (a2)] (fun (r : Int32) (S9 : PS) => ((wi a1 0 8 ∧ r = 1) ∨ (¬ wi a1 0 8 ∧ r = 0)) ∧ (∀ a k, At S a k → At S9 a k) ∧ (∀ g a, a ≠ pl → pI S9 g a = pI S g a)) := by
  refine ent_m (cc := cX3_putWord) (maxL := 3) (ret := (some .boolean)) (by decide) rfl (Nat.le_of_ble_eq_true rfl) ?_
  intro p e s m below meth c ls X hr hlocks hin hw hl hsz
  subst hsz
  have X : Cx p c cX3_putWord 3 s [.ref pl, .int (a1), .int (a2)].toArray wsX3_putWord RX3 m G cy (AS S s.heap.size) := X
  have hl : lv_has ls 3 [(0, .ref pl), (1, .int (a1)), (2, .int (a2))] := hl
  obtain ⟨hat_pl, ci_300, ci_301, ⟨wd, rf_wd, hat_wd, ln_wd⟩⟩ := hF
  refine lv_iload_n X.1 X.2.1 dX3_putWord_0 rfl (lv_at hl 1 rfl) ?_
  refine lv_iconst (v := 0) X.1 X.2.1 dX3_putWord_1 (by decide) ?_
  refine lv_bipush (v := 8) X.1 X.2.1 dX3_putWord_2 (by decide) ?_
  refine k_i (rm := { frames := 1, cells := 0, slots := 0, locals := 40 }) (av := [.int (a1), .int 0, .int 8]) X hw (va_runSN (As := [.int (a1), .int 0, .int 8]) (rest := []) (cfix X) (c_X11_isWithin l G cy S _ (a1) (0) (8)) ⟨(va_cnB (host := RX11) 3 X.2.2.2.1 gX3_putWord_X11_isWithin_n34 rfl rfl rfl (X.2.2.2.2.2.2.2.2.1 (RX3, 34, yX11_isWithin) (by decide +kernel)) (X.2.2.2.1 (.initialized RX11) (by decide +kernel)) (by decide +kernel) ⟨Nat.le_of_ble_eq_true rfl, Nat.le_of_ble_eq_true rfl⟩), X.2.2.2.1 (.static yX11_isWithin) (by decide +kernel), trivial⟩ (pre_S X hw _) rfl rfl hl.1 rfl (lv_room (Nat.le_of_ble_eq_true rfl)) dX3_putWord_4 ⟨Nat.le_of_ble_eq_true rfl, Nat.le_of_ble_eq_true rfl⟩) 0 0 (Nat.le_of_ble_eq_true rfl) (Nat.le_of_ble_eq_true rfl) (fun rr_4 S2 H locs hp hw hfr hnw => ?_)
  obtain ⟨e2_4, hp⟩ := hp
  subst e2_4
  rcases hp with ⟨b_4, er_4⟩ | ⟨b_4, er_4⟩ <;> subst er_4
  · have z_4 := trivial
    refine lv_if_ne (tgt := 12) X.1 X.2.1 dX3_putWord_7 (by decide) (fun c_7 => ?_) (fun c_7 => absurd c_7 (by decide))
    refine lv_aload_n X.1 X.2.1 dX3_putWord_12 rfl (lv_at hl 0 rfl) ?_
    refine r_getR (g := 302) X hw hat_pl 2 rf_wd (by decide) rfl inn_X3_putWord_3 (by decide) (X.2.2.2.1 (.fieldLink RX3 15 "SilkMill$Place" "word" "[I") (by decide +kernel)) rfl (gv_302 _ _) dX3_putWord_13 ?_
    refine lv_iload_n X.1 X.2.1 dX3_putWord_16 rfl (lv_at hl 2 rfl) ?_
    refine k_v (rm := { frames := 1, cells := 0, slots := 0, locals := 40 }) (av := [.ref wd, .int (a2)]) X hw (va_runS (As := [.ref wd, .int (a2)]) (rest := []) (cfix X) (c_J7_fill_53178 l G cy S _ wd (a2) hat_wd ln_wd) (va_cwS 2 X.2.2.2.1 gX3_putWord_J7_fill_53178 rfl rfl rfl (by decide +kernel) ⟨Nat.le_of_ble_eq_true rfl, Nat.le_of_ble_eq_true rfl⟩) (pre_S X hw _) rfl rfl hl.1 rfl (lv_room (Nat.le_of_ble_eq_true rfl)) dX3_putWord_17 ⟨Nat.le_of_ble_eq_true rfl, Nat.le_of_ble_eq_true rfl⟩) 0 0 (Nat.le_of_ble_eq_true rfl) (Nat.le_of_ble_eq_true rfl) (fun S2 H locs hp hw hfr hnw => ?_)
    obtain ⟨ja, ji, jr⟩ := hp
    generalize eSf : S2 = Sf at ja ji jr hw
    have hat_pl : At Sf pl 3 := ja _ _ hat_pl
    have hat_wd : At Sf wd 14 := ja _ _ hat_wd
    refine lv_aload_n X.1 X.2.1 dX3_putWord_20 rfl (lv_at hl 0 rfl) ?_
    refine lv_iload_n X.1 X.2.1 dX3_putWord_21 rfl (lv_at hl 1 rfl) ?_
    refine r_putI (v := a1) X hw hat_pl 1 301 tyX3 (by decide) rfl inn_X3_putWord_3 tyX3_ok nmX3 (by decide) (X.2.2.2.1 (.fieldLink RX3 19 "SilkMill$Place" "wordSize" "I") (by decide +kernel)) rfl (Or.inl rfl) rfl rfl (Nat.le_of_ble_eq_true rfl) (st_301 _ _) dX3_putWord_22 (fun H locs hw => ?_)
    generalize eS_1 : sI Sf 301 pl a1 = S_1 at hw
    have hat_pl : At S_1 pl 3 := by rw [← eS_1]; exact At_sI hat_pl
    have hat_wd : At S_1 wd 14 := by rw [← eS_1]; exact At_sI hat_wd
    have hc_2 : pI S_1 301 pl = a1 := by rw [← eS_1]; exact pI_sI_same
    refine lv_aload_n X.1 X.2.1 dX3_putWord_25 rfl (lv_at hl 0 rfl) ?_
    refine lv_iconst (v := 2) X.1 X.2.1 dX3_putWord_26 (by decide) ?_
    refine r_putI (v := 2) X hw hat_pl 0 300 tyX3 (by decide) rfl inn_X3_putWord_3 tyX3_ok nmX3 (by decide) (X.2.2.2.1 (.fieldLink RX3 9 "SilkMill$Place" "kind" "I") (by decide +kernel)) rfl (Or.inl rfl) rfl rfl (Nat.le_of_ble_eq_true rfl) (st_300 _ _) dX3_putWord_27 (fun H locs hw => ?_)
    generalize eS_3 : sI S_1 300 pl 2 = S_3 at hw
    have hat_pl : At S_3 pl 3 := by rw [← eS_3]; exact At_sI hat_pl
    have hat_wd : At S_3 wd 14 := by rw [← eS_3]; exact At_sI hat_wd
    have hc_2 : pI S_3 301 pl = a1 := by rw [← eS_3]; exact (pI_sI_nf (by decide)).trans hc_2
    have hc_4 : pI S_3 300 pl = 2 := by rw [← eS_3]; exact pI_sI_same
    refine lv_iconst (v := 1) X.1 X.2.1 dX3_putWord_30 (by decide) ?_
    exact ret_z X hw hr hlocks (Nat.le_of_ble_eq_true rfl) (Nat.le_of_ble_eq_true rfl) (by decide) ⟨Or.inl ⟨b_4, rfl⟩, fun a k h => by subst eS_3 eS_1; exact At_sI (At_sI (ja a k h)), fun g a h => by subst eS_3 eS_1; exact (pI_sI_ne h).trans ((pI_sI_ne h).trans (congrFun (congrFun ji g) a))⟩ dX3_putWord_31
  · have z_4 := trivial
    refine lv_if_ne (tgt := 12) X.1 X.2.1 dX3_putWord_7 (by decide) (fun c_7 => absurd c_7 (by decide)) (fun c_7 => ?_)
    refine lv_iconst (v := 0) X.1 X.2.1 dX3_putWord_10 (by decide) ?_
    exact ret_z X hw hr hlocks (Nat.le_of_ble_eq_true rfl) (Nat.le_of_ble_eq_true rfl) (by decide) ⟨Or.inr ⟨b_4, rfl⟩, fun _ _ h => h, fun _ _ _ => rfl⟩ dX3_putWord_11
set_option maxHeartbeats 4000000 in
set_option maxRecDepth 100000 in
theorem c_X11_shelve (l : Launch) (G : va_G) (cy : Nat → ClassId) (S : PS) (sz : Nat) (x : Nat) (a1 : Int32) (a2 : Int32) (a3 : Int32) (a4 : Int32) (hF : FX S x) : Ci l yX11_shelve wsX11_shelve ({ frames := 6, cells := 0, slots := 0, locals := 240 }) G cy S sz [.ref x, .int (a1), .int (a2), .int (a3), .int (a4)] (fun (r : Int32) (S9 : PS) => r = shvV a1 a2 a3) := by
  refine ent_m (cc := cX11_shelve) (maxL := 7) (ret := (some .boolean)) (by decide) rfl (Nat.le_of_ble_eq_true rfl) ?_
  intro p e s m below meth c ls X hr hlocks hin hw hl hsz
  subst hsz
  have X : Cx p c cX11_shelve 7 s [.ref x, .int (a1), .int (a2), .int (a3), .int (a4)].toArray wsX11_shelve RX11 m G cy (AS S s.heap.size) := X
  have hl : lv_has ls 7 [(0, .ref x), (1, .int (a1)), (2, .int (a2)), (3, .int (a3)), (4, .int (a4))] := hl
  have hF0 := hF
  obtain ⟨hat_x, ci_lots, ci_pots, ci_shv, ⟨cs, rf_cs, hat_cs, ln_cs⟩, ⟨lz, rf_lz, hat_lz, ln_lz⟩, ⟨ps, rf_ps, hat_ps, ln_ps⟩, ⟨tp, rf_tp, hat_tp, ci_tsz, ci_tfp, ⟨tb, rf_tb, hat_tb, ln_tb⟩⟩, ⟨st, rf_st, hat_st, ci_st, ⟨pr, rf_pr, hat_pr, ln_pr⟩, ⟨mx, rf_mx, hat_mx⟩⟩, ⟨dr, rf_dr, hat_dr, ci_dsz⟩, sh, rf_sh, hat_sh, ln_sh, hpl⟩ := hF
  have hF := hF0
  refine lv_aload_n X.1 X.2.1 dX11_shelve_0 rfl (lv_at hl 0 rfl) ?_
  refine lv_iload_n X.1 X.2.1 dX11_shelve_1 rfl (lv_at hl 1 rfl) ?_
  refine k_q (rm := { frames := 1, cells := 0, slots := 0, locals := 40 }) (av := [.ref x, .int (a1)]) X hw (va_runV (As := [.int (a1)]) (rest := []) (cfix X) (c_X11_shelfAt l G cy S _ x (a1) hF) (cwV 1 X.2.2.2.1 gX11_shelve_X11_shelfAt rfl rfl rfl (by decide +kernel) ⟨Nat.le_of_ble_eq_true rfl, Nat.le_of_ble_eq_true rfl⟩) (pre_V X hw _ hat_x (by decide) rfl) rfl rfl hl.1 rfl (lv_room (Nat.le_of_ble_eq_true rfl)) dX11_shelve_2 ⟨Nat.le_of_ble_eq_true rfl, Nat.le_of_ble_eq_true rfl⟩) 0 0 (Nat.le_of_ble_eq_true rfl) (Nat.le_of_ble_eq_true rfl) (fun rr_2 S2 H locs hp hw hfr hnw => ?_)
  obtain ⟨e2_2, hp⟩ := hp
  subst e2_2
  rcases hp with ⟨b_2, pl_2, er_2, hf_pl_2⟩ | ⟨b_2, er_2⟩ <;> subst er_2
  · have z_2 := trivial
    have hfo_pl_2 := hf_pl_2
    obtain ⟨hat_pl_2, ci300_pl_2, ci301_pl_2, ⟨wd_pl_2, rf_wd_pl_2, hat_wd_pl_2, ln_wd_pl_2⟩⟩ := hf_pl_2
    refine W.eq (g2 := F0 m 5 ls (.ref pl_2 :: [])) rfl ?_
    refine lv_astore (lv' := [(5, .ref pl_2), (0, .ref x), (1, .int (a1)), (2, .int (a2)), (3, .int (a3)), (4, .int (a4))]) X.1 X.2.1 dX11_shelve_5 hl (by decide) rfl (fun ls hl => ?_)
    refine lv_aload X.1 X.2.1 dX11_shelve_7 (lv_at hl 0 rfl) ?_
    refine lv_ifnull X.1 X.2.1 dX11_shelve_9 ?_
    refine lv_aload X.1 X.2.1 dX11_shelve_12 (lv_at hl 0 rfl) ?_
    refine r_get (v := .int (-1)) X hw hat_pl_2 0 (by decide) rfl inn_X11_shelve_3 (by decide) (X.2.2.2.1 (.fieldLink RX11 307 "SilkMill$Place" "kind" "I") (by decide +kernel)) rfl ((gv_300 _ _).trans (congrArg (fun z => some (Value.int z)) ci300_pl_2)) dX11_shelve_14 ?_
    refine lv_iconst (v := (-1)) X.1 X.2.1 dX11_shelve_17 (by decide) ?_
    refine lv_icmp_eq (tgt := 23) X.1 X.2.1 dX11_shelve_18 (by decide) (fun c_18 => ?_) (fun c_18 => absurd c_18 (by decide))
    refine lv_iload_n X.1 X.2.1 dX11_shelve_23 rfl (lv_at hl 3 rfl) ?_
    by_cases w_24 : (a2).toInt < 0 ∨ 2 < (a2).toInt
    · refine lv_tableOut (tgt := 93) X.1 X.2.1 dX11_shelve_24 w_24 (by decide) ?_
      refine lv_iconst (v := 0) X.1 X.2.1 dX11_shelve_93 (by decide) ?_
      refine lv_istore (lv' := [(6, .int 0), (5, .ref pl_2), (0, .ref x), (1, .int (a1)), (2, .int (a2)), (3, .int (a3)), (4, .int (a4))]) X.1 X.2.1 dX11_shelve_94 hl (by decide) rfl (fun ls hl => ?_)
      refine lv_iload X.1 X.2.1 dX11_shelve_96 (lv_at hl 0 rfl) ?_
      refine lv_if_eq (tgt := 111) X.1 X.2.1 dX11_shelve_98 (by decide) (fun c_98 => ?_) (fun c_98 => absurd c_98 (by decide))
      refine lv_iload X.1 X.2.1 dX11_shelve_111 (lv_at hl 0 rfl) ?_
      exact ret_z X hw hr hlocks (Nat.le_of_ble_eq_true rfl) (Nat.le_of_ble_eq_true rfl) (by decide) (if_neg (fun h => h.2.elim (fun e => by rw [e] at w_24; revert w_24; decide) (fun e => by rw [e.1] at w_24; revert w_24; decide))).symm dX11_shelve_113
    have w2_24 : (a2).toInt = 0 ∨ (a2).toInt = 1 ∨ (a2).toInt = 2 := by omega
    rcases w2_24 with w3_24 | w3_24 | w3_24
    · refine lv_tableIn (tgt := 52) X.1 X.2.1 dX11_shelve_24 (by omega) (by omega) (by rw [w3_24]; rfl) (by decide) ?_
      refine lv_aload X.1 X.2.1 dX11_shelve_52 (lv_at hl 0 rfl) ?_
      refine lv_aload_n X.1 X.2.1 dX11_shelve_54 rfl (lv_at hl 1 rfl) ?_
      refine lv_iload_n X.1 X.2.1 dX11_shelve_55 rfl (lv_at hl 4 rfl) ?_
      refine lv_iload X.1 X.2.1 dX11_shelve_56 (lv_at hl 5 rfl) ?_
      refine k_q (rm := { frames := 1, cells := 0, slots := 0, locals := 40 }) (av := [.ref x, .int (a3), .int (a4)]) X hw (va_runV (As := [.int (a3), .int (a4)]) (rest := [.ref pl_2]) (cfix X) (c_X11_cocoonAt l G cy S _ x (a3) (a4) hF) (cwV 2 X.2.2.2.1 gX11_shelve_X11_cocoonAt rfl rfl rfl (by decide +kernel) ⟨Nat.le_of_ble_eq_true rfl, Nat.le_of_ble_eq_true rfl⟩) (pre_V X hw _ hat_x (by decide) rfl) rfl rfl hl.1 rfl (lv_room (Nat.le_of_ble_eq_true rfl)) dX11_shelve_58 ⟨Nat.le_of_ble_eq_true rfl, Nat.le_of_ble_eq_true rfl⟩) 0 0 (Nat.le_of_ble_eq_true rfl) (Nat.le_of_ble_eq_true rfl) (fun rr_58 S2 H locs hp hw hfr hnw => ?_)
      obtain ⟨e2_58, er_58⟩ := hp
      subst e2_58
      subst er_58
      refine W.eq (g2 := F0 m 61 ls (.null :: .ref pl_2 :: [])) rfl ?_
      refine k_i (rm := { frames := 1, cells := 0, slots := 0, locals := 40 }) (av := [.ref pl_2, .null]) X hw (va_runV (As := [.null]) (rest := []) (cfix X) (c_X3_putCocoon l G cy S _ pl_2 hat_pl_2) (cwV 1 X.2.2.2.1 gX11_shelve_X3_putCocoon rfl rfl rfl (by decide +kernel) ⟨Nat.le_of_ble_eq_true rfl, Nat.le_of_ble_eq_true rfl⟩) (pre_V X hw _ hat_pl_2 (by decide) rfl) rfl rfl hl.1 rfl (lv_room (Nat.le_of_ble_eq_true rfl)) dX11_shelve_61 ⟨Nat.le_of_ble_eq_true rfl, Nat.le_of_ble_eq_true rfl⟩) 0 0 (Nat.le_of_ble_eq_true rfl) (Nat.le_of_ble_eq_true rfl) (fun rr_61 S2 H locs hp hw hfr hnw => ?_)
      obtain ⟨e2_61, er_61⟩ := hp
      subst e2_61
      subst er_61
      refine lv_istore (lv' := [(6, .int 0), (5, .ref pl_2), (0, .ref x), (1, .int (a1)), (2, .int (a2)), (3, .int (a3)), (4, .int (a4))]) X.1 X.2.1 dX11_shelve_64 hl (by decide) rfl (fun ls hl => ?_)
      refine lv_goto (tgt := 96) X.1 X.2.1 dX11_shelve_66 (by decide) ?_
      refine lv_iload X.1 X.2.1 dX11_shelve_96 (lv_at hl 0 rfl) ?_
      refine lv_if_eq (tgt := 111) X.1 X.2.1 dX11_shelve_98 (by decide) (fun c_98 => ?_) (fun c_98 => absurd c_98 (by decide))
      refine lv_iload X.1 X.2.1 dX11_shelve_111 (lv_at hl 0 rfl) ?_
      exact ret_z X hw hr hlocks (Nat.le_of_ble_eq_true rfl) (Nat.le_of_ble_eq_true rfl) (by decide) (if_neg (fun h => h.2.elim (fun e => by rw [e] at w3_24; revert w3_24; decide) (fun e => by rw [e.1] at w3_24; revert w3_24; decide))).symm dX11_shelve_113
    · refine lv_tableIn (tgt := 69) X.1 X.2.1 dX11_shelve_24 (by omega) (by omega) (by rw [w3_24]; rfl) (by decide) ?_
      refine lv_aload X.1 X.2.1 dX11_shelve_69 (lv_at hl 0 rfl) ?_
      refine lv_iload_n X.1 X.2.1 dX11_shelve_71 rfl (lv_at hl 4 rfl) ?_
      refine k_i (rm := { frames := 1, cells := 0, slots := 0, locals := 40 }) (av := [.ref pl_2, .int (a3)]) X hw (va_runV (As := [.int (a3)]) (rest := []) (cfix X) (c_X3_putNumber l G cy S _ pl_2 (a3) hat_pl_2) (cwV 1 X.2.2.2.1 gX11_shelve_X3_putNumber rfl rfl rfl (by decide +kernel) ⟨Nat.le_of_ble_eq_true rfl, Nat.le_of_ble_eq_true rfl⟩) (pre_V X hw _ hat_pl_2 (by decide) rfl) rfl rfl hl.1 rfl (lv_room (Nat.le_of_ble_eq_true rfl)) dX11_shelve_72 ⟨Nat.le_of_ble_eq_true rfl, Nat.le_of_ble_eq_true rfl⟩) 0 0 (Nat.le_of_ble_eq_true rfl) (Nat.le_of_ble_eq_true rfl) (fun rr_72 S2 H locs hp hw hfr hnw => ?_)
      obtain ⟨er, ja, ji⟩ := hp
      subst er
      generalize eSg : S2 = Sg at ja ji hw
      have hat_x : At Sg x 11 := ja _ _ hat_x
      refine lv_istore (lv' := [(6, .int 1), (5, .ref pl_2), (0, .ref x), (1, .int (a1)), (2, .int (a2)), (3, .int (a3)), (4, .int (a4))]) X.1 X.2.1 dX11_shelve_75 hl (by decide) rfl (fun ls hl => ?_)
      refine lv_goto (tgt := 96) X.1 X.2.1 dX11_shelve_77 (by decide) ?_
      refine lv_iload X.1 X.2.1 dX11_shelve_96 (lv_at hl 0 rfl) ?_
      refine lv_if_eq (tgt := 111) X.1 X.2.1 dX11_shelve_98 (by decide) (fun c_98 => absurd c_98 (by decide)) (fun c_98 => ?_)
      refine lv_aload_n X.1 X.2.1 dX11_shelve_101 rfl (lv_at hl 2 rfl) ?_
      refine lv_dup X.1 X.2.1 dX11_shelve_102 rfl ?_
      refine r_get (v := .int (pI Sg 1110 x)) X hw hat_x 10 (by decide) rfl inn_X11_shelve_11 (by decide) (X.2.2.2.1 (.fieldLink RX11 321 "SilkMill" "shelved" "I") (by decide +kernel)) rfl (gv_1110 _ _) dX11_shelve_103 ?_
      refine lv_topi (fun v_1 ev_1 => ?_)
      refine lv_iconst (v := 1) X.1 X.2.1 dX11_shelve_106 (by decide) ?_
      refine lv_iadd X.1 X.2.1 dX11_shelve_107 ?_
      refine lv_topi (fun v_2 ev_2 => ?_)
      refine r_putI (v := v_2) X hw hat_x 10 1110 tyX11 (by decide) rfl inn_X11_shelve_11 tyX11_ok nmX11 (by decide) (X.2.2.2.1 (.fieldLink RX11 321 "SilkMill" "shelved" "I") (by decide +kernel)) rfl (Or.inl rfl) rfl rfl (Nat.le_of_ble_eq_true rfl) (st_1110 _ _) dX11_shelve_108 (fun H locs hw => ?_)
      generalize eS_3 : sI Sg 1110 x v_2 = S_3 at hw
      have hat_x : At S_3 x 11 := by rw [← eS_3]; exact At_sI hat_x
      have hc_4 : pI S_3 1110 x = v_2 := by rw [← eS_3]; exact pI_sI_same
      refine lv_iload X.1 X.2.1 dX11_shelve_111 (lv_at hl 0 rfl) ?_
      exact ret_z X hw hr hlocks (Nat.le_of_ble_eq_true rfl) (Nat.le_of_ble_eq_true rfl) (by decide) (if_pos ⟨b_2, Or.inl (Int32.toInt_inj.mp (w3_24.trans (by decide)))⟩).symm dX11_shelve_113
    · refine lv_tableIn (tgt := 80) X.1 X.2.1 dX11_shelve_24 (by omega) (by omega) (by rw [w3_24]; rfl) (by decide) ?_
      refine lv_aload X.1 X.2.1 dX11_shelve_80 (lv_at hl 0 rfl) ?_
      refine lv_iload_n X.1 X.2.1 dX11_shelve_82 rfl (lv_at hl 4 rfl) ?_
      refine lv_iload X.1 X.2.1 dX11_shelve_83 (lv_at hl 5 rfl) ?_
      refine k_i (rm := { frames := 3, cells := 0, slots := 0, locals := 120 }) (av := [.ref pl_2, .int (a3), .int (a4)]) X hw (va_runV (As := [.int (a3), .int (a4)]) (rest := []) (cfix X) (c_X3_putWord l G cy S _ pl_2 (a3) (a4) hfo_pl_2) (cwV 2 X.2.2.2.1 gX11_shelve_X3_putWord rfl rfl rfl (by decide +kernel) ⟨Nat.le_of_ble_eq_true rfl, Nat.le_of_ble_eq_true rfl⟩) (pre_V X hw _ hat_pl_2 (by decide) rfl) rfl rfl hl.1 rfl (lv_room (Nat.le_of_ble_eq_true rfl)) dX11_shelve_85 ⟨Nat.le_of_ble_eq_true rfl, Nat.le_of_ble_eq_true rfl⟩) 0 0 (Nat.le_of_ble_eq_true rfl) (Nat.le_of_ble_eq_true rfl) (fun rr_85 S2 H locs hp hw hfr hnw => ?_)
      obtain ⟨hr9, ja, ji⟩ := hp
      generalize eSg : S2 = Sg at ja ji hw
      have hat_x : At Sg x 11 := ja _ _ hat_x
      rcases hr9 with ⟨b_85, er_85⟩ | ⟨b_85, er_85⟩ <;> subst er_85
      · have z_85 := trivial
        refine lv_istore (lv' := [(6, .int 1), (5, .ref pl_2), (0, .ref x), (1, .int (a1)), (2, .int (a2)), (3, .int (a3)), (4, .int (a4))]) X.1 X.2.1 dX11_shelve_88 hl (by decide) rfl (fun ls hl => ?_)
        refine lv_goto (tgt := 96) X.1 X.2.1 dX11_shelve_90 (by decide) ?_
        refine lv_iload X.1 X.2.1 dX11_shelve_96 (lv_at hl 0 rfl) ?_
        refine lv_if_eq (tgt := 111) X.1 X.2.1 dX11_shelve_98 (by decide) (fun c_98 => absurd c_98 (by decide)) (fun c_98 => ?_)
        refine lv_aload_n X.1 X.2.1 dX11_shelve_101 rfl (lv_at hl 2 rfl) ?_
        refine lv_dup X.1 X.2.1 dX11_shelve_102 rfl ?_
        refine r_get (v := .int (pI Sg 1110 x)) X hw hat_x 10 (by decide) rfl inn_X11_shelve_11 (by decide) (X.2.2.2.1 (.fieldLink RX11 321 "SilkMill" "shelved" "I") (by decide +kernel)) rfl (gv_1110 _ _) dX11_shelve_103 ?_
        refine lv_topi (fun v_5 ev_5 => ?_)
        refine lv_iconst (v := 1) X.1 X.2.1 dX11_shelve_106 (by decide) ?_
        refine lv_iadd X.1 X.2.1 dX11_shelve_107 ?_
        refine lv_topi (fun v_6 ev_6 => ?_)
        refine r_putI (v := v_6) X hw hat_x 10 1110 tyX11 (by decide) rfl inn_X11_shelve_11 tyX11_ok nmX11 (by decide) (X.2.2.2.1 (.fieldLink RX11 321 "SilkMill" "shelved" "I") (by decide +kernel)) rfl (Or.inl rfl) rfl rfl (Nat.le_of_ble_eq_true rfl) (st_1110 _ _) dX11_shelve_108 (fun H locs hw => ?_)
        generalize eS_7 : sI Sg 1110 x v_6 = S_7 at hw
        have hat_x : At S_7 x 11 := by rw [← eS_7]; exact At_sI hat_x
        have hc_8 : pI S_7 1110 x = v_6 := by rw [← eS_7]; exact pI_sI_same
        refine lv_iload X.1 X.2.1 dX11_shelve_111 (lv_at hl 0 rfl) ?_
        exact ret_z X hw hr hlocks (Nat.le_of_ble_eq_true rfl) (Nat.le_of_ble_eq_true rfl) (by decide) (if_pos ⟨b_2, Or.inr ⟨Int32.toInt_inj.mp (w3_24.trans (by decide)), b_85⟩⟩).symm dX11_shelve_113
      · have z_85 := trivial
        refine lv_istore (lv' := [(6, .int 0), (5, .ref pl_2), (0, .ref x), (1, .int (a1)), (2, .int (a2)), (3, .int (a3)), (4, .int (a4))]) X.1 X.2.1 dX11_shelve_88 hl (by decide) rfl (fun ls hl => ?_)
        refine lv_goto (tgt := 96) X.1 X.2.1 dX11_shelve_90 (by decide) ?_
        refine lv_iload X.1 X.2.1 dX11_shelve_96 (lv_at hl 0 rfl) ?_
        refine lv_if_eq (tgt := 111) X.1 X.2.1 dX11_shelve_98 (by decide) (fun c_98 => ?_) (fun c_98 => absurd c_98 (by decide))
        refine lv_iload X.1 X.2.1 dX11_shelve_111 (lv_at hl 0 rfl) ?_
        exact ret_z X hw hr hlocks (Nat.le_of_ble_eq_true rfl) (Nat.le_of_ble_eq_true rfl) (by decide) (if_neg (fun h => h.2.elim (fun e => by rw [e] at w3_24; revert w3_24; decide) (fun e => by exact b_85 e.2))).symm dX11_shelve_113
  · have z_2 := trivial
    refine W.eq (g2 := F0 m 5 ls (.null :: [])) rfl ?_
    refine lv_astoreN (lv' := [(5, .null), (0, .ref x), (1, .int (a1)), (2, .int (a2)), (3, .int (a3)), (4, .int (a4))]) X.1 X.2.1 dX11_shelve_5 hl (by decide) rfl (fun ls hl => ?_)
    refine lv_aloadN X.1 X.2.1 dX11_shelve_7 (lv_at hl 0 rfl) ?_
    refine lv_ifnullN (tgt := 21) X.1 X.2.1 dX11_shelve_9 (by decide) ?_
    refine lv_iconst (v := 0) X.1 X.2.1 dX11_shelve_21 (by decide) ?_
    exact ret_z X hw hr hlocks (Nat.le_of_ble_eq_true rfl) (Nat.le_of_ble_eq_true rfl) (by decide) (if_neg (fun h => b_2 h.1)).symm dX11_shelve_22
