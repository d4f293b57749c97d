set_option maxHeartbeats 4000000 in
set_option maxRecDepth 100000 in
theorem c_X3_init (l : Launch) (G : va_G) (cy : Nat → ClassId) (S : PS) (sz : Nat) (o : Nat) (hat_o : At S o 3) (hz : ∀ g, pI S g o = 0) : Cv l yX3_init wsX3_init ({ frames := 1, cells := 1, slots := 8, locals := 40 }) G cy S sz [.ref o] (fun (S9 : PS) => Kp S S9 (fun a => a = o) ∧ PlF S9 o) := by
  refine ent_m (cc := cX3_init) (maxL := 1) (ret := none) (by decide) rfl (Nat.le_of_ble_eq_true rfl) ?_
  intro p e s m below meth c ls X hr hlocks hin hw hl hsz
  subst hsz
  have X : Cx p c cX3_init 1 s [.ref o].toArray wsX3_init RX3 m G cy (AS S s.heap.size) := X
  have hl : lv_has ls 1 [(0, .ref o)] := hl
  have hkp : Kp S S (fun a => a = o) := Kp_rf S _
  have ci_301 := hz 301
  refine lv_aload_n X.1 X.2.1 dX3_init_0 rfl (lv_at hl 0 rfl) ?_
  refine W.objInit X.1 X.2.1 X.2.2.2.2.1 (X.2.2.2.1 (.methodLink RX3 3 objectInit) (by decide +kernel)) (X.2.2.2.1 (.instanceMethod objectInit) (by decide +kernel)) (X.2.2.2.1 (.code objectInit ⟨#[0xb1]⟩ 1 none) (by decide +kernel)) rfl (hl.1.trans X.2.2.1.symm) rfl dX3_init_1 (Nat.le_of_ble_eq_true rfl) (Nat.le_of_ble_eq_true rfl) ?_
  refine W.eq (g2 := F0 m 4 ls ([])) rfl ?_
  refine lv_aload_n X.1 X.2.1 dX3_init_4 rfl (lv_at hl 0 rfl) ?_
  refine lv_iconst (v := (-1)) X.1 X.2.1 dX3_init_5 (by decide) ?_
  refine r_putI (v := (-1)) X hw hat_o 0 300 tyX3 (by decide) rfl inn_X3_init_3 tyX3_ok nmX3 (by decide) (X.2.2.2.1 (.fieldLink RX3 9 "SilkMill$Place" "kind" "I") (by decide +kernel)) rfl (Or.inl rfl) rfl rfl (Nat.le_of_ble_eq_true rfl) (st_300 _ _) dX3_init_6 (fun H locs hw => ?_)
  generalize eS_1 : sI S 300 o (-1) = S_1 at hw
  have hat_o : At S_1 o 3 := by rw [← eS_1]; exact At_sI hat_o
  have ci_301 : pI S_1 301 o = 0 := by rw [← eS_1]; exact (pI_sI_nf (by decide)).trans ci_301
  have hkp : Kp S S_1 (fun a => a = o) := by rw [← eS_1]; exact Kp_sI hkp (Or.inl rfl)
  have hc_2 : pI S_1 300 o = (-1) := by rw [← eS_1]; exact pI_sI_same
  refine lv_aload_n X.1 X.2.1 dX3_init_9 rfl (lv_at hl 0 rfl) ?_
  refine lv_bipush (v := 8) X.1 X.2.1 dX3_init_10 (by decide) ?_
  have hat_o_o := hat_o
  refine r_newI (N := 8) X hw 8 1 (X.2.2.2.1 (.arrayClass .int) (by decide +kernel)) (by decide) (by decide) (by decide) (Nat.le_of_ble_eq_true rfl) (Nat.le_of_ble_eq_true rfl) (Nat.le_of_ble_eq_true rfl) (Nat.le_of_ble_eq_true rfl) dX3_init_12 (fun q_3 H hq_3 hw => ?_)
  generalize eS_4 : sN S_1 q_3 14 8 = S_4 at hw
  have hat_o : At S_4 o 3 := by rw [← eS_4]; exact At_sN hat_o hq_3
  have ci_301 : pI S_4 301 o = 0 := by rw [← eS_4, pI_sN]; exact ci_301
  have hc_2 : pI S_4 300 o = (-1) := by rw [← eS_4, pI_sN]; exact hc_2
  have nw_q_3 : q_3 ∉ pL S := Kp_new hkp hq_3
  have hkp : Kp S S_4 (fun a => a = o) := by rw [← eS_4]; exact Kp_sN hkp hq_3
  have ha_5 : At S_4 q_3 14 := by rw [← eS_4]; exact At_nN _ _ _ _
  have hn_6 : pN S_4 q_3 = 8 := by rw [← eS_4]; exact pN_sN_new
  refine r_putR X hw hat_o 2 302 (some q_3) rfl tyX3 (by decide) rfl inn_X3_init_3 tyX3_ok nmX3 (by decide) (X.2.2.2.1 (.fieldLink RX3 15 "SilkMill$Place" "word" "[I") (by decide +kernel)) rfl (Or.inr ⟨rfl, hin, rfl⟩) (fun _ => rfl) rfl (fun _ => rfl) rfl (Nat.le_of_ble_eq_true rfl) (st_302 _ _) dX3_init_14 (fun H locs hw => ?_)
  generalize eS_7 : sR S_4 302 o (some q_3) = S_7 at hw
  have hat_o : At S_7 o 3 := by rw [← eS_7]; exact At_sR hat_o
  have ha_5 : At S_7 q_3 14 := by rw [← eS_7]; exact At_sR ha_5
  have ci_301 : pI S_7 301 o = 0 := by rw [← eS_7, pI_sR]; exact ci_301
  have hc_2 : pI S_7 300 o = (-1) := by rw [← eS_7, pI_sR]; exact hc_2
  have hn_6 : pN S_7 q_3 = 8 := by rw [← eS_7, pN_sR]; exact hn_6
  have hkp : Kp S S_7 (fun a => a = o) := by rw [← eS_7]; exact Kp_sR hkp (Or.inl rfl)
  have hr_8 : pR S_7 302 o = some q_3 := by rw [← eS_7]; exact pR_sR_same
  exact ret_v X hw hr hlocks (Nat.le_of_ble_eq_true rfl) (Nat.le_of_ble_eq_true rfl) ⟨hkp, hat_o, hc_2, ci_301, ⟨_, hr_8, ha_5, hn_6⟩⟩ dX3_init_17
set_option maxHeartbeats 4000000 in
set_option maxRecDepth 100000 in
theorem c_X10_init (l : Launch) (G : va_G) (cy : Nat → ClassId) (S : PS) (sz : Nat) (o : Nat) (hat_o : At S o 10) (hz : ∀ g, pI S g o = 0) : Cv l yX10_init wsX10_init ({ frames := 1, cells := 1, slots := 400, locals := 40 }) G cy S sz [.ref o] (fun (S9 : PS) => Kp S S9 (fun a => a = o) ∧ TpF S9 o) := by
  refine ent_m (cc := cX10_init) (maxL := 1) (ret := none) (by decide) rfl (Nat.le_of_ble_eq_true rfl) ?_
  intro p e s m below meth c ls X hr hlocks hin hw hl hsz
  subst hsz
  have X : Cx p c cX10_init 1 s [.ref o].toArray wsX10_init RX10 m G cy (AS S s.heap.size) := X
  have hl : lv_has ls 1 [(0, .ref o)] := hl
  have hkp : Kp S S (fun a => a = o) := Kp_rf S _
  have ci_1000 := hz 1000
  refine lv_aload_n X.1 X.2.1 dX10_init_0 rfl (lv_at hl 0 rfl) ?_
  refine W.objInit X.1 X.2.1 X.2.2.2.2.1 (X.2.2.2.1 (.methodLink RX10 3 objectInit) (by decide +kernel)) (X.2.2.2.1 (.instanceMethod objectInit) (by decide +kernel)) (X.2.2.2.1 (.code objectInit ⟨#[0xb1]⟩ 1 none) (by decide +kernel)) rfl (hl.1.trans X.2.2.1.symm) rfl dX10_init_1 (Nat.le_of_ble_eq_true rfl) (Nat.le_of_ble_eq_true rfl) ?_
  refine W.eq (g2 := F0 m 4 ls ([])) rfl ?_
  refine lv_aload_n X.1 X.2.1 dX10_init_4 rfl (lv_at hl 0 rfl) ?_
  refine lv_iconst (v := (-1)) X.1 X.2.1 dX10_init_5 (by decide) ?_
  refine r_putI (v := (-1)) X hw hat_o 2 1002 tyX10 (by decide) rfl inn_X10_init_10 tyX10_ok nmX10 (by decide) (X.2.2.2.1 (.fieldLink RX10 9 "SilkMill$Tape" "faultPlace" "I") (by decide +kernel)) rfl (Or.inl rfl) rfl rfl (Nat.le_of_ble_eq_true rfl) (st_1002 _ _) dX10_init_6 (fun H locs hw => ?_)
  generalize eS_1 : sI S 1002 o (-1) = S_1 at hw
  have hat_o : At S_1 o 10 := by rw [← eS_1]; exact At_sI hat_o
  have ci_1000 : pI S_1 1000 o = 0 := by rw [← eS_1]; exact (pI_sI_nf (by decide)).trans ci_1000
  have hkp : Kp S S_1 (fun a => a = o) := by rw [← eS_1]; exact Kp_sI hkp (Or.inl rfl)
  have hc_2 : pI S_1 1002 o = (-1) := by rw [← eS_1]; exact pI_sI_same
  refine lv_aload_n X.1 X.2.1 dX10_init_9 rfl (lv_at hl 0 rfl) ?_
  refine lv_sipush (v := 400) X.1 X.2.1 dX10_init_10 (by decide) ?_
  have hat_o_o := hat_o
  refine r_newB (N := 400) X hw 400 1 (X.2.2.2.1 (.arrayClass .byte) (by decide +kernel)) (by decide) (by decide) (by decide) (Nat.le_of_ble_eq_true rfl) (Nat.le_of_ble_eq_true rfl) (Nat.le_of_ble_eq_true rfl) (Nat.le_of_ble_eq_true rfl) dX10_init_13 (fun q_3 H hq_3 hw => ?_)
  generalize eS_4 : sN S_1 q_3 13 400 = S_4 at hw
  have hat_o : At S_4 o 10 := by rw [← eS_4]; exact At_sN hat_o hq_3
  have ci_1000 : pI S_4 1000 o = 0 := by rw [← eS_4, pI_sN]; exact ci_1000
  have hc_2 : pI S_4 1002 o = (-1) := by rw [← eS_4, pI_sN]; exact hc_2
  have nw_q_3 : q_3 ∉ pL S := Kp_new hkp hq_3
  have hkp : Kp S S_4 (fun a => a = o) := by rw [← eS_4]; exact Kp_sN hkp hq_3
  have ha_5 : At S_4 q_3 13 := by rw [← eS_4]; exact At_nN _ _ _ _
  have hn_6 : pN S_4 q_3 = 400 := by rw [← eS_4]; exact pN_sN_new
  refine r_putR X hw hat_o 3 1003 (some q_3) rfl tyX10 (by decide) rfl inn_X10_init_10 tyX10_ok nmX10 (by decide) (X.2.2.2.1 (.fieldLink RX10 15 "SilkMill$Tape" "bytes" "[B") (by decide +kernel)) rfl (Or.inr ⟨rfl, hin, rfl⟩) (fun _ => rfl) rfl (fun _ => rfl) rfl (Nat.le_of_ble_eq_true rfl) (st_1003 _ _) dX10_init_15 (fun H locs hw => ?_)
  generalize eS_7 : sR S_4 1003 o (some q_3) = S_7 at hw
  have hat_o : At S_7 o 10 := by rw [← eS_7]; exact At_sR hat_o
  have ha_5 : At S_7 q_3 13 := by rw [← eS_7]; exact At_sR ha_5
  have ci_1000 : pI S_7 1000 o = 0 := by rw [← eS_7, pI_sR]; exact ci_1000
  have hc_2 : pI S_7 1002 o = (-1) := by rw [← eS_7, pI_sR]; exact hc_2
  have hn_6 : pN S_7 q_3 = 400 := by rw [← eS_7, pN_sR]; exact hn_6
  have hkp : Kp S S_7 (fun a => a = o) := by rw [← eS_7]; exact Kp_sR hkp (Or.inl rfl)
  have hr_8 : pR S_7 1003 o = some q_3 := by rw [← eS_7]; exact pR_sR_same
  exact ret_v X hw hr hlocks (Nat.le_of_ble_eq_true rfl) (Nat.le_of_ble_eq_true rfl) ⟨hkp, hat_o, ci_1000, hc_2, ⟨_, hr_8, ha_5, hn_6⟩⟩ dX10_init_18
set_option maxHeartbeats 4000000 in
set_option maxRecDepth 100000 in
theorem c_X6_init (l : Launch) (G : va_G) (cy : Nat → ClassId) (S : PS) (sz : Nat) (o : Nat) (hat_o : At S o 6) (hz : ∀ g, pI S g o = 0) : Cv l yX6_init wsX6_init ({ frames := 1, cells := 6, slots := 180, locals := 40 }) G cy S sz [.ref o] (fun (S9 : PS) => Kp S S9 (fun a => a = o) ∧ At S9 o 6) := by
  refine ent_m (cc := cX6_init) (maxL := 1) (ret := none) (by decide) rfl (Nat.le_of_ble_eq_true rfl) ?_
  intro p e s m below meth c ls X hr hlocks hin hw hl hsz
  subst hsz
  have X : Cx p c cX6_init 1 s [.ref o].toArray wsX6_init RX6 m G cy (AS S s.heap.size) := X
  have hl : lv_has ls 1 [(0, .ref o)] := hl
  have hkp : Kp S S (fun a => a = o) := Kp_rf S _
  refine lv_aload_n X.1 X.2.1 dX6_init_0 rfl (lv_at hl 0 rfl) ?_
  refine W.objInit X.1 X.2.1 X.2.2.2.2.1 (X.2.2.2.1 (.methodLink RX6 3 objectInit) (by decide +kernel)) (X.2.2.2.1 (.instanceMethod objectInit) (by decide +kernel)) (X.2.2.2.1 (.code objectInit ⟨#[0xb1]⟩ 1 none) (by decide +kernel)) rfl (hl.1.trans X.2.2.1.symm) rfl dX6_init_1 (Nat.le_of_ble_eq_true rfl) (Nat.le_of_ble_eq_true rfl) ?_
  refine W.eq (g2 := F0 m 4 ls ([])) rfl ?_
  refine lv_aload_n X.1 X.2.1 dX6_init_4 rfl (lv_at hl 0 rfl) ?_
  refine lv_bipush (v := 12) X.1 X.2.1 dX6_init_5 (by decide) ?_
  have hat_o_o := hat_o
  refine r_newI (N := 12) X hw 12 1 (X.2.2.2.1 (.arrayClass .int) (by decide +kernel)) (by decide) (by decide) (by decide) (Nat.le_of_ble_eq_true rfl) (Nat.le_of_ble_eq_true rfl) (Nat.le_of_ble_eq_true rfl) (Nat.le_of_ble_eq_true rfl) dX6_init_7 (fun q_1 H hq_1 hw => ?_)
  generalize eS_2 : sN S q_1 14 12 = S_2 at hw
  have hat_o : At S_2 o 6 := by rw [← eS_2]; exact At_sN hat_o hq_1
  have nw_q_1 : q_1 ∉ pL S := Kp_new hkp hq_1
  have hkp : Kp S S_2 (fun a => a = o) := by rw [← eS_2]; exact Kp_sN hkp hq_1
  have ha_3 : At S_2 q_1 14 := by rw [← eS_2]; exact At_nN _ _ _ _
  have hn_4 : pN S_2 q_1 = 12 := by rw [← eS_2]; exact pN_sN_new
  refine r_putR X hw hat_o 1 601 (some q_1) rfl tyX6 (by decide) rfl inn_X6_init_6 tyX6_ok nmX6 (by decide) (X.2.2.2.1 (.fieldLink RX6 9 "SilkMill$Rules" "acts" "[I") (by decide +kernel)) rfl (Or.inr ⟨rfl, hin, rfl⟩) (fun _ => rfl) rfl (fun _ => rfl) rfl (Nat.le_of_ble_eq_true rfl) (st_601 _ _) dX6_init_9 (fun H locs hw => ?_)
  generalize eS_5 : sR S_2 601 o (some q_1) = S_5 at hw
  have hat_o : At S_5 o 6 := by rw [← eS_5]; exact At_sR hat_o
  have ha_3 : At S_5 q_1 14 := by rw [← eS_5]; exact At_sR ha_3
  have hn_4 : pN S_5 q_1 = 12 := by rw [← eS_5, pN_sR]; exact hn_4
  have hkp : Kp S S_5 (fun a => a = o) := by rw [← eS_5]; exact Kp_sR hkp (Or.inl rfl)
  have hr_6 : pR S_5 601 o = some q_1 := by rw [← eS_5]; exact pR_sR_same
  refine lv_aload_n X.1 X.2.1 dX6_init_12 rfl (lv_at hl 0 rfl) ?_
  refine lv_bipush (v := 12) X.1 X.2.1 dX6_init_13 (by decide) ?_
  have hat_o_o := hat_o
  have ha_3_o := ha_3
  refine r_newI (N := 12) X hw 24 2 (X.2.2.2.1 (.arrayClass .int) (by decide +kernel)) (by decide) (by decide) (by decide) (Nat.le_of_ble_eq_true rfl) (Nat.le_of_ble_eq_true rfl) (Nat.le_of_ble_eq_true rfl) (Nat.le_of_ble_eq_true rfl) dX6_init_15 (fun q_7 H hq_7 hw => ?_)
  generalize eS_8 : sN S_5 q_7 14 12 = S_8 at hw
  have hat_o : At S_8 o 6 := by rw [← eS_8]; exact At_sN hat_o hq_7
  have ha_3 : At S_8 q_1 14 := by rw [← eS_8]; exact At_sN ha_3 hq_7
  have hr_6 : pR S_8 601 o = some q_1 := by rw [← eS_8, pR_sN]; exact hr_6
  have hn_4 : pN S_8 q_1 = 12 := by rw [← eS_8]; exact (pN_sN_ne (At_old ha_3_o hq_7)).trans hn_4
  have nw_q_7 : q_7 ∉ pL S := Kp_new hkp hq_7
  have hkp : Kp S S_8 (fun a => a = o) := by rw [← eS_8]; exact Kp_sN hkp hq_7
  have ha_9 : At S_8 q_7 14 := by rw [← eS_8]; exact At_nN _ _ _ _
  have hn_10 : pN S_8 q_7 = 12 := by rw [← eS_8]; exact pN_sN_new
  refine r_putR X hw hat_o 2 602 (some q_7) rfl tyX6 (by decide) rfl inn_X6_init_6 tyX6_ok nmX6 (by decide) (X.2.2.2.1 (.fieldLink RX6 15 "SilkMill$Rules" "amounts" "[I") (by decide +kernel)) rfl (Or.inr ⟨rfl, hin, rfl⟩) (fun _ => rfl) rfl (fun _ => rfl) rfl (Nat.le_of_ble_eq_true rfl) (st_602 _ _) dX6_init_17 (fun H locs hw => ?_)
  generalize eS_11 : sR S_8 602 o (some q_7) = S_11 at hw
  have hat_o : At S_11 o 6 := by rw [← eS_11]; exact At_sR hat_o
  have ha_3 : At S_11 q_1 14 := by rw [← eS_11]; exact At_sR ha_3
  have ha_9 : At S_11 q_7 14 := by rw [← eS_11]; exact At_sR ha_9
  have hr_6 : pR S_11 601 o = some q_1 := by rw [← eS_11]; exact (pR_sR_nf (by decide)).trans hr_6
  have hn_4 : pN S_11 q_1 = 12 := by rw [← eS_11, pN_sR]; exact hn_4
  have hn_10 : pN S_11 q_7 = 12 := by rw [← eS_11, pN_sR]; exact hn_10
  have hkp : Kp S S_11 (fun a => a = o) := by rw [← eS_11]; exact Kp_sR hkp (Or.inl rfl)
  have hr_12 : pR S_11 602 o = some q_7 := by rw [← eS_11]; exact pR_sR_same
  refine lv_aload_n X.1 X.2.1 dX6_init_20 rfl (lv_at hl 0 rfl) ?_
  refine lv_bipush (v := 12) X.1 X.2.1 dX6_init_21 (by decide) ?_
  have hat_o_o := hat_o
  have ha_3_o := ha_3
  have ha_9_o := ha_9
  refine r_newI (N := 12) X hw 36 3 (X.2.2.2.1 (.arrayClass .int) (by decide +kernel)) (by decide) (by decide) (by decide) (Nat.le_of_ble_eq_true rfl) (Nat.le_of_ble_eq_true rfl) (Nat.le_of_ble_eq_true rfl) (Nat.le_of_ble_eq_true rfl) dX6_init_23 (fun q_13 H hq_13 hw => ?_)
  generalize eS_14 : sN S_11 q_13 14 12 = S_14 at hw
  have hat_o : At S_14 o 6 := by rw [← eS_14]; exact At_sN hat_o hq_13
  have ha_3 : At S_14 q_1 14 := by rw [← eS_14]; exact At_sN ha_3 hq_13
  have ha_9 : At S_14 q_7 14 := by rw [← eS_14]; exact At_sN ha_9 hq_13
  have hr_6 : pR S_14 601 o = some q_1 := by rw [← eS_14, pR_sN]; exact hr_6
  have hr_12 : pR S_14 602 o = some q_7 := by rw [← eS_14, pR_sN]; exact hr_12
  have hn_4 : pN S_14 q_1 = 12 := by rw [← eS_14]; exact (pN_sN_ne (At_old ha_3_o hq_13)).trans hn_4
  have hn_10 : pN S_14 q_7 = 12 := by rw [← eS_14]; exact (pN_sN_ne (At_old ha_9_o hq_13)).trans hn_10
  have nw_q_13 : q_13 ∉ pL S := Kp_new hkp hq_13
  have hkp : Kp S S_14 (fun a => a = o) := by rw [← eS_14]; exact Kp_sN hkp hq_13
  have ha_15 : At S_14 q_13 14 := by rw [← eS_14]; exact At_nN _ _ _ _
  have hn_16 : pN S_14 q_13 = 12 := by rw [← eS_14]; exact pN_sN_new
  refine r_putR X hw hat_o 3 603 (some q_13) rfl tyX6 (by decide) rfl inn_X6_init_6 tyX6_ok nmX6 (by decide) (X.2.2.2.1 (.fieldLink RX6 18 "SilkMill$Rules" "conditions" "[I") (by decide +kernel)) rfl (Or.inr ⟨rfl, hin, rfl⟩) (fun _ => rfl) rfl (fun _ => rfl) rfl (Nat.le_of_ble_eq_true rfl) (st_603 _ _) dX6_init_25 (fun H locs hw => ?_)
  generalize eS_17 : sR S_14 603 o (some q_13) = S_17 at hw
  have hat_o : At S_17 o 6 := by rw [← eS_17]; exact At_sR hat_o
  have ha_3 : At S_17 q_1 14 := by rw [← eS_17]; exact At_sR ha_3
  have ha_9 : At S_17 q_7 14 := by rw [← eS_17]; exact At_sR ha_9
  have ha_15 : At S_17 q_13 14 := by rw [← eS_17]; exact At_sR ha_15
  have hr_6 : pR S_17 601 o = some q_1 := by rw [← eS_17]; exact (pR_sR_nf (by decide)).trans hr_6
  have hr_12 : pR S_17 602 o = some q_7 := by rw [← eS_17]; exact (pR_sR_nf (by decide)).trans hr_12
  have hn_4 : pN S_17 q_1 = 12 := by rw [← eS_17, pN_sR]; exact hn_4
  have hn_10 : pN S_17 q_7 = 12 := by rw [← eS_17, pN_sR]; exact hn_10
  have hn_16 : pN S_17 q_13 = 12 := by rw [← eS_17, pN_sR]; exact hn_16
  have hkp : Kp S S_17 (fun a => a = o) := by rw [← eS_17]; exact Kp_sR hkp (Or.inl rfl)
  have hr_18 : pR S_17 603 o = some q_13 := by rw [← eS_17]; exact pR_sR_same
  refine lv_aload_n X.1 X.2.1 dX6_init_28 rfl (lv_at hl 0 rfl) ?_
  refine lv_bipush (v := 48) X.1 X.2.1 dX6_init_29 (by decide) ?_
  have hat_o_o := hat_o
  have ha_3_o := ha_3
  have ha_9_o := ha_9
  have ha_15_o := ha_15
  refine r_newI (N := 48) X hw 84 4 (X.2.2.2.1 (.arrayClass .int) (by decide +kernel)) (by decide) (by decide) (by decide) (Nat.le_of_ble_eq_true rfl) (Nat.le_of_ble_eq_true rfl) (Nat.le_of_ble_eq_true rfl) (Nat.le_of_ble_eq_true rfl) dX6_init_31 (fun q_19 H hq_19 hw => ?_)
  generalize eS_20 : sN S_17 q_19 14 48 = S_20 at hw
  have hat_o : At S_20 o 6 := by rw [← eS_20]; exact At_sN hat_o hq_19
  have ha_3 : At S_20 q_1 14 := by rw [← eS_20]; exact At_sN ha_3 hq_19
  have ha_9 : At S_20 q_7 14 := by rw [← eS_20]; exact At_sN ha_9 hq_19
  have ha_15 : At S_20 q_13 14 := by rw [← eS_20]; exact At_sN ha_15 hq_19
  have hr_6 : pR S_20 601 o = some q_1 := by rw [← eS_20, pR_sN]; exact hr_6
  have hr_12 : pR S_20 602 o = some q_7 := by rw [← eS_20, pR_sN]; exact hr_12
  have hr_18 : pR S_20 603 o = some q_13 := by rw [← eS_20, pR_sN]; exact hr_18
  have hn_4 : pN S_20 q_1 = 12 := by rw [← eS_20]; exact (pN_sN_ne (At_old ha_3_o hq_19)).trans hn_4
  have hn_10 : pN S_20 q_7 = 12 := by rw [← eS_20]; exact (pN_sN_ne (At_old ha_9_o hq_19)).trans hn_10
  have hn_16 : pN S_20 q_13 = 12 := by rw [← eS_20]; exact (pN_sN_ne (At_old ha_15_o hq_19)).trans hn_16
  have nw_q_19 : q_19 ∉ pL S := Kp_new hkp hq_19
  have hkp : Kp S S_20 (fun a => a = o) := by rw [← eS_20]; exact Kp_sN hkp hq_19
  have ha_21 : At S_20 q_19 14 := by rw [← eS_20]; exact At_nN _ _ _ _
  have hn_22 : pN S_20 q_19 = 48 := by rw [← eS_20]; exact pN_sN_new
  refine r_putR X hw hat_o 4 604 (some q_19) rfl tyX6 (by decide) rfl inn_X6_init_6 tyX6_ok nmX6 (by decide) (X.2.2.2.1 (.fieldLink RX6 21 "SilkMill$Rules" "fields" "[I") (by decide +kernel)) rfl (Or.inr ⟨rfl, hin, rfl⟩) (fun _ => rfl) rfl (fun _ => rfl) rfl (Nat.le_of_ble_eq_true rfl) (st_604 _ _) dX6_init_33 (fun H locs hw => ?_)
  generalize eS_23 : sR S_20 604 o (some q_19) = S_23 at hw
  have hat_o : At S_23 o 6 := by rw [← eS_23]; exact At_sR hat_o
  have ha_3 : At S_23 q_1 14 := by rw [← eS_23]; exact At_sR ha_3
  have ha_9 : At S_23 q_7 14 := by rw [← eS_23]; exact At_sR ha_9
  have ha_15 : At S_23 q_13 14 := by rw [← eS_23]; exact At_sR ha_15
  have ha_21 : At S_23 q_19 14 := by rw [← eS_23]; exact At_sR ha_21
  have hr_6 : pR S_23 601 o = some q_1 := by rw [← eS_23]; exact (pR_sR_nf (by decide)).trans hr_6
  have hr_12 : pR S_23 602 o = some q_7 := by rw [← eS_23]; exact (pR_sR_nf (by decide)).trans hr_12
  have hr_18 : pR S_23 603 o = some q_13 := by rw [← eS_23]; exact (pR_sR_nf (by decide)).trans hr_18
  have hn_4 : pN S_23 q_1 = 12 := by rw [← eS_23, pN_sR]; exact hn_4
  have hn_10 : pN S_23 q_7 = 12 := by rw [← eS_23, pN_sR]; exact hn_10
  have hn_16 : pN S_23 q_13 = 12 := by rw [← eS_23, pN_sR]; exact hn_16
  have hn_22 : pN S_23 q_19 = 48 := by rw [← eS_23, pN_sR]; exact hn_22
  have hkp : Kp S S_23 (fun a => a = o) := by rw [← eS_23]; exact Kp_sR hkp (Or.inl rfl)
  have hr_24 : pR S_23 604 o = some q_19 := by rw [← eS_23]; exact pR_sR_same
  refine lv_aload_n X.1 X.2.1 dX6_init_36 rfl (lv_at hl 0 rfl) ?_
  refine lv_bipush (v := 48) X.1 X.2.1 dX6_init_37 (by decide) ?_
  have hat_o_o := hat_o
  have ha_3_o := ha_3
  have ha_9_o := ha_9
  have ha_15_o := ha_15
  have ha_21_o := ha_21
  refine r_newI (N := 48) X hw 132 5 (X.2.2.2.1 (.arrayClass .int) (by decide +kernel)) (by decide) (by decide) (by decide) (Nat.le_of_ble_eq_true rfl) (Nat.le_of_ble_eq_true rfl) (Nat.le_of_ble_eq_true rfl) (Nat.le_of_ble_eq_true rfl) dX6_init_39 (fun q_25 H hq_25 hw => ?_)
  generalize eS_26 : sN S_23 q_25 14 48 = S_26 at hw
  have hat_o : At S_26 o 6 := by rw [← eS_26]; exact At_sN hat_o hq_25
  have ha_3 : At S_26 q_1 14 := by rw [← eS_26]; exact At_sN ha_3 hq_25
  have ha_9 : At S_26 q_7 14 := by rw [← eS_26]; exact At_sN ha_9 hq_25
  have ha_15 : At S_26 q_13 14 := by rw [← eS_26]; exact At_sN ha_15 hq_25
  have ha_21 : At S_26 q_19 14 := by rw [← eS_26]; exact At_sN ha_21 hq_25
  have hr_6 : pR S_26 601 o = some q_1 := by rw [← eS_26, pR_sN]; exact hr_6
  have hr_12 : pR S_26 602 o = some q_7 := by rw [← eS_26, pR_sN]; exact hr_12
  have hr_18 : pR S_26 603 o = some q_13 := by rw [← eS_26, pR_sN]; exact hr_18
  have hr_24 : pR S_26 604 o = some q_19 := by rw [← eS_26, pR_sN]; exact hr_24
  have hn_4 : pN S_26 q_1 = 12 := by rw [← eS_26]; exact (pN_sN_ne (At_old ha_3_o hq_25)).trans hn_4
  have hn_10 : pN S_26 q_7 = 12 := by rw [← eS_26]; exact (pN_sN_ne (At_old ha_9_o hq_25)).trans hn_10
  have hn_16 : pN S_26 q_13 = 12 := by rw [← eS_26]; exact (pN_sN_ne (At_old ha_15_o hq_25)).trans hn_16
  have hn_22 : pN S_26 q_19 = 48 := by rw [← eS_26]; exact (pN_sN_ne (At_old ha_21_o hq_25)).trans hn_22
  have nw_q_25 : q_25 ∉ pL S := Kp_new hkp hq_25
  have hkp : Kp S S_26 (fun a => a = o) := by rw [← eS_26]; exact Kp_sN hkp hq_25
  have ha_27 : At S_26 q_25 14 := by rw [← eS_26]; exact At_nN _ _ _ _
  have hn_28 : pN S_26 q_25 = 48 := by rw [← eS_26]; exact pN_sN_new
  refine r_putR X hw hat_o 5 605 (some q_25) rfl tyX6 (by decide) rfl inn_X6_init_6 tyX6_ok nmX6 (by decide) (X.2.2.2.1 (.fieldLink RX6 24 "SilkMill$Rules" "relations" "[I") (by decide +kernel)) rfl (Or.inr ⟨rfl, hin, rfl⟩) (fun _ => rfl) rfl (fun _ => rfl) rfl (Nat.le_of_ble_eq_true rfl) (st_605 _ _) dX6_init_41 (fun H locs hw => ?_)
  generalize eS_29 : sR S_26 605 o (some q_25) = S_29 at hw
  have hat_o : At S_29 o 6 := by rw [← eS_29]; exact At_sR hat_o
  have ha_3 : At S_29 q_1 14 := by rw [← eS_29]; exact At_sR ha_3
  have ha_9 : At S_29 q_7 14 := by rw [← eS_29]; exact At_sR ha_9
  have ha_15 : At S_29 q_13 14 := by rw [← eS_29]; exact At_sR ha_15
  have ha_21 : At S_29 q_19 14 := by rw [← eS_29]; exact At_sR ha_21
  have ha_27 : At S_29 q_25 14 := by rw [← eS_29]; exact At_sR ha_27
  have hr_6 : pR S_29 601 o = some q_1 := by rw [← eS_29]; exact (pR_sR_nf (by decide)).trans hr_6
  have hr_12 : pR S_29 602 o = some q_7 := by rw [← eS_29]; exact (pR_sR_nf (by decide)).trans hr_12
  have hr_18 : pR S_29 603 o = some q_13 := by rw [← eS_29]; exact (pR_sR_nf (by decide)).trans hr_18
  have hr_24 : pR S_29 604 o = some q_19 := by rw [← eS_29]; exact (pR_sR_nf (by decide)).trans hr_24
  have hn_4 : pN S_29 q_1 = 12 := by rw [← eS_29, pN_sR]; exact hn_4
  have hn_10 : pN S_29 q_7 = 12 := by rw [← eS_29, pN_sR]; exact hn_10
  have hn_16 : pN S_29 q_13 = 12 := by rw [← eS_29, pN_sR]; exact hn_16
  have hn_22 : pN S_29 q_19 = 48 := by rw [← eS_29, pN_sR]; exact hn_22
  have hn_28 : pN S_29 q_25 = 48 := by rw [← eS_29, pN_sR]; exact hn_28
  have hkp : Kp S S_29 (fun a => a = o) := by rw [← eS_29]; exact Kp_sR hkp (Or.inl rfl)
  have hr_30 : pR S_29 605 o = some q_25 := by rw [← eS_29]; exact pR_sR_same
  refine lv_aload_n X.1 X.2.1 dX6_init_44 rfl (lv_at hl 0 rfl) ?_
  refine lv_bipush (v := 48) X.1 X.2.1 dX6_init_45 (by decide) ?_
  have hat_o_o := hat_o
  have ha_3_o := ha_3
  have ha_9_o := ha_9
  have ha_15_o := ha_15
  have ha_21_o := ha_21
  have ha_27_o := ha_27
  refine r_newI (N := 48) X hw 180 6 (X.2.2.2.1 (.arrayClass .int) (by decide +kernel)) (by decide) (by decide) (by decide) (Nat.le_of_ble_eq_true rfl) (Nat.le_of_ble_eq_true rfl) (Nat.le_of_ble_eq_true rfl) (Nat.le_of_ble_eq_true rfl) dX6_init_47 (fun q_31 H hq_31 hw => ?_)
  generalize eS_32 : sN S_29 q_31 14 48 = S_32 at hw
  have hat_o : At S_32 o 6 := by rw [← eS_32]; exact At_sN hat_o hq_31
  have ha_3 : At S_32 q_1 14 := by rw [← eS_32]; exact At_sN ha_3 hq_31
  have ha_9 : At S_32 q_7 14 := by rw [← eS_32]; exact At_sN ha_9 hq_31
  have ha_15 : At S_32 q_13 14 := by rw [← eS_32]; exact At_sN ha_15 hq_31
  have ha_21 : At S_32 q_19 14 := by rw [← eS_32]; exact At_sN ha_21 hq_31
  have ha_27 : At S_32 q_25 14 := by rw [← eS_32]; exact At_sN ha_27 hq_31
  have hr_6 : pR S_32 601 o = some q_1 := by rw [← eS_32, pR_sN]; exact hr_6
  have hr_12 : pR S_32 602 o = some q_7 := by rw [← eS_32, pR_sN]; exact hr_12
  have hr_18 : pR S_32 603 o = some q_13 := by rw [← eS_32, pR_sN]; exact hr_18
  have hr_24 : pR S_32 604 o = some q_19 := by rw [← eS_32, pR_sN]; exact hr_24
  have hr_30 : pR S_32 605 o = some q_25 := by rw [← eS_32, pR_sN]; exact hr_30
  have hn_4 : pN S_32 q_1 = 12 := by rw [← eS_32]; exact (pN_sN_ne (At_old ha_3_o hq_31)).trans hn_4
  have hn_10 : pN S_32 q_7 = 12 := by rw [← eS_32]; exact (pN_sN_ne (At_old ha_9_o hq_31)).trans hn_10
  have hn_16 : pN S_32 q_13 = 12 := by rw [← eS_32]; exact (pN_sN_ne (At_old ha_15_o hq_31)).trans hn_16
  have hn_22 : pN S_32 q_19 = 48 := by rw [← eS_32]; exact (pN_sN_ne (At_old ha_21_o hq_31)).trans hn_22
  have hn_28 : pN S_32 q_25 = 48 := by rw [← eS_32]; exact (pN_sN_ne (At_old ha_27_o hq_31)).trans hn_28
  have nw_q_31 : q_31 ∉ pL S := Kp_new hkp hq_31
  have hkp : Kp S S_32 (fun a => a = o) := by rw [← eS_32]; exact Kp_sN hkp hq_31
  have ha_33 : At S_32 q_31 14 := by rw [← eS_32]; exact At_nN _ _ _ _
  have hn_34 : pN S_32 q_31 = 48 := by rw [← eS_32]; exact pN_sN_new
  refine r_putR X hw hat_o 6 606 (some q_31) rfl tyX6 (by decide) rfl inn_X6_init_6 tyX6_ok nmX6 (by decide) (X.2.2.2.1 (.fieldLink RX6 27 "SilkMill$Rules" "numbers" "[I") (by decide +kernel)) rfl (Or.inr ⟨rfl, hin, rfl⟩) (fun _ => rfl) rfl (fun _ => rfl) rfl (Nat.le_of_ble_eq_true rfl) (st_606 _ _) dX6_init_49 (fun H locs hw => ?_)
  generalize eS_35 : sR S_32 606 o (some q_31) = S_35 at hw
  have hat_o : At S_35 o 6 := by rw [← eS_35]; exact At_sR hat_o
  have ha_3 : At S_35 q_1 14 := by rw [← eS_35]; exact At_sR ha_3
  have ha_9 : At S_35 q_7 14 := by rw [← eS_35]; exact At_sR ha_9
  have ha_15 : At S_35 q_13 14 := by rw [← eS_35]; exact At_sR ha_15
  have ha_21 : At S_35 q_19 14 := by rw [← eS_35]; exact At_sR ha_21
  have ha_27 : At S_35 q_25 14 := by rw [← eS_35]; exact At_sR ha_27
  have ha_33 : At S_35 q_31 14 := by rw [← eS_35]; exact At_sR ha_33
  have hr_6 : pR S_35 601 o = some q_1 := by rw [← eS_35]; exact (pR_sR_nf (by decide)).trans hr_6
  have hr_12 : pR S_35 602 o = some q_7 := by rw [← eS_35]; exact (pR_sR_nf (by decide)).trans hr_12
  have hr_18 : pR S_35 603 o = some q_13 := by rw [← eS_35]; exact (pR_sR_nf (by decide)).trans hr_18
  have hr_24 : pR S_35 604 o = some q_19 := by rw [← eS_35]; exact (pR_sR_nf (by decide)).trans hr_24
  have hr_30 : pR S_35 605 o = some q_25 := by rw [← eS_35]; exact (pR_sR_nf (by decide)).trans hr_30
  have hn_4 : pN S_35 q_1 = 12 := by rw [← eS_35, pN_sR]; exact hn_4
  have hn_10 : pN S_35 q_7 = 12 := by rw [← eS_35, pN_sR]; exact hn_10
  have hn_16 : pN S_35 q_13 = 12 := by rw [← eS_35, pN_sR]; exact hn_16
  have hn_22 : pN S_35 q_19 = 48 := by rw [← eS_35, pN_sR]; exact hn_22
  have hn_28 : pN S_35 q_25 = 48 := by rw [← eS_35, pN_sR]; exact hn_28
  have hn_34 : pN S_35 q_31 = 48 := by rw [← eS_35, pN_sR]; exact hn_34
  have hkp : Kp S S_35 (fun a => a = o) := by rw [← eS_35]; exact Kp_sR hkp (Or.inl rfl)
  have hr_36 : pR S_35 606 o = some q_31 := by rw [← eS_35]; exact pR_sR_same
  exact ret_v X hw hr hlocks (Nat.le_of_ble_eq_true rfl) (Nat.le_of_ble_eq_true rfl) ⟨hkp, hat_o⟩ dX6_init_52
set_option maxHeartbeats 4000000 in
set_option maxRecDepth 100000 in
theorem c_X2_init (l : Launch) (G : va_G) (cy : Nat → ClassId) (S : PS) (sz : Nat) (o : Nat) (hat_o : At S o 2) (hz : ∀ g, pI S g o = 0) : Cv l yX2_init wsX2_init ({ frames := 1, cells := 3, slots := 42, locals := 40 }) G cy S sz [.ref o] (fun (S9 : PS) => Kp S S9 (fun a => a = o) ∧ At S9 o 2) := by
  refine ent_m (cc := cX2_init) (maxL := 1) (ret := none) (by decide) rfl (Nat.le_of_ble_eq_true rfl) ?_
  intro p e s m below meth c ls X hr hlocks hin hw hl hsz
  subst hsz
  have X : Cx p c cX2_init 1 s [.ref o].toArray wsX2_init RX2 m G cy (AS S s.heap.size) := X
  have hl : lv_has ls 1 [(0, .ref o)] := hl
  have hkp : Kp S S (fun a => a = o) := Kp_rf S _
  refine lv_aload_n X.1 X.2.1 dX2_init_0 rfl (lv_at hl 0 rfl) ?_
  refine W.objInit X.1 X.2.1 X.2.2.2.2.1 (X.2.2.2.1 (.methodLink RX2 3 objectInit) (by decide +kernel)) (X.2.2.2.1 (.instanceMethod objectInit) (by decide +kernel)) (X.2.2.2.1 (.code objectInit ⟨#[0xb1]⟩ 1 none) (by decide +kernel)) rfl (hl.1.trans X.2.2.1.symm) rfl dX2_init_1 (Nat.le_of_ble_eq_true rfl) (Nat.le_of_ble_eq_true rfl) ?_
  refine W.eq (g2 := F0 m 4 ls ([])) rfl ?_
  refine lv_aload_n X.1 X.2.1 dX2_init_4 rfl (lv_at hl 0 rfl) ?_
  refine lv_bipush (v := 14) X.1 X.2.1 dX2_init_5 (by decide) ?_
  have hat_o_o := hat_o
  refine r_newI (N := 14) X hw 14 1 (X.2.2.2.1 (.arrayClass .int) (by decide +kernel)) (by decide) (by decide) (by decide) (Nat.le_of_ble_eq_true rfl) (Nat.le_of_ble_eq_true rfl) (Nat.le_of_ble_eq_true rfl) (Nat.le_of_ble_eq_true rfl) dX2_init_7 (fun q_1 H hq_1 hw => ?_)
  generalize eS_2 : sN S q_1 14 14 = S_2 at hw
  have hat_o : At S_2 o 2 := by rw [← eS_2]; exact At_sN hat_o hq_1
  have nw_q_1 : q_1 ∉ pL S := Kp_new hkp hq_1
  have hkp : Kp S S_2 (fun a => a = o) := by rw [← eS_2]; exact Kp_sN hkp hq_1
  have ha_3 : At S_2 q_1 14 := by rw [← eS_2]; exact At_nN _ _ _ _
  have hn_4 : pN S_2 q_1 = 14 := by rw [← eS_2]; exact pN_sN_new
  refine r_putR X hw hat_o 0 200 (some q_1) rfl tyX2 (by decide) rfl inn_X2_init_2 tyX2_ok nmX2 (by decide) (X.2.2.2.1 (.fieldLink RX2 9 "SilkMill$Mixer" "numbers" "[I") (by decide +kernel)) rfl (Or.inr ⟨rfl, hin, rfl⟩) (fun _ => rfl) rfl (fun _ => rfl) rfl (Nat.le_of_ble_eq_true rfl) (st_200 _ _) dX2_init_9 (fun H locs hw => ?_)
  generalize eS_5 : sR S_2 200 o (some q_1) = S_5 at hw
  have hat_o : At S_5 o 2 := by rw [← eS_5]; exact At_sR hat_o
  have ha_3 : At S_5 q_1 14 := by rw [← eS_5]; exact At_sR ha_3
  have hn_4 : pN S_5 q_1 = 14 := by rw [← eS_5, pN_sR]; exact hn_4
  have hkp : Kp S S_5 (fun a => a = o) := by rw [← eS_5]; exact Kp_sR hkp (Or.inl rfl)
  have hr_6 : pR S_5 200 o = some q_1 := by rw [← eS_5]; exact pR_sR_same
  refine lv_aload_n X.1 X.2.1 dX2_init_12 rfl (lv_at hl 0 rfl) ?_
  refine lv_bipush (v := 14) X.1 X.2.1 dX2_init_13 (by decide) ?_
  have hat_o_o := hat_o
  have ha_3_o := ha_3
  refine r_newI (N := 14) X hw 28 2 (X.2.2.2.1 (.arrayClass .int) (by decide +kernel)) (by decide) (by decide) (by decide) (Nat.le_of_ble_eq_true rfl) (Nat.le_of_ble_eq_true rfl) (Nat.le_of_ble_eq_true rfl) (Nat.le_of_ble_eq_true rfl) dX2_init_15 (fun q_7 H hq_7 hw => ?_)
  generalize eS_8 : sN S_5 q_7 14 14 = S_8 at hw
  have hat_o : At S_8 o 2 := by rw [← eS_8]; exact At_sN hat_o hq_7
  have ha_3 : At S_8 q_1 14 := by rw [← eS_8]; exact At_sN ha_3 hq_7
  have hr_6 : pR S_8 200 o = some q_1 := by rw [← eS_8, pR_sN]; exact hr_6
  have hn_4 : pN S_8 q_1 = 14 := by rw [← eS_8]; exact (pN_sN_ne (At_old ha_3_o hq_7)).trans hn_4
  have nw_q_7 : q_7 ∉ pL S := Kp_new hkp hq_7
  have hkp : Kp S S_8 (fun a => a = o) := by rw [← eS_8]; exact Kp_sN hkp hq_7
  have ha_9 : At S_8 q_7 14 := by rw [← eS_8]; exact At_nN _ _ _ _
  have hn_10 : pN S_8 q_7 = 14 := by rw [← eS_8]; exact pN_sN_new
  refine r_putR X hw hat_o 1 201 (some q_7) rfl tyX2 (by decide) rfl inn_X2_init_2 tyX2_ok nmX2 (by decide) (X.2.2.2.1 (.fieldLink RX2 15 "SilkMill$Mixer" "weights" "[I") (by decide +kernel)) rfl (Or.inr ⟨rfl, hin, rfl⟩) (fun _ => rfl) rfl (fun _ => rfl) rfl (Nat.le_of_ble_eq_true rfl) (st_201 _ _) dX2_init_17 (fun H locs hw => ?_)
  generalize eS_11 : sR S_8 201 o (some q_7) = S_11 at hw
  have hat_o : At S_11 o 2 := by rw [← eS_11]; exact At_sR hat_o
  have ha_3 : At S_11 q_1 14 := by rw [← eS_11]; exact At_sR ha_3
  have ha_9 : At S_11 q_7 14 := by rw [← eS_11]; exact At_sR ha_9
  have hr_6 : pR S_11 200 o = some q_1 := by rw [← eS_11]; exact (pR_sR_nf (by decide)).trans hr_6
  have hn_4 : pN S_11 q_1 = 14 := by rw [← eS_11, pN_sR]; exact hn_4
  have hn_10 : pN S_11 q_7 = 14 := by rw [← eS_11, pN_sR]; exact hn_10
  have hkp : Kp S S_11 (fun a => a = o) := by rw [← eS_11]; exact Kp_sR hkp (Or.inl rfl)
  have hr_12 : pR S_11 201 o = some q_7 := by rw [← eS_11]; exact pR_sR_same
  refine lv_aload_n X.1 X.2.1 dX2_init_20 rfl (lv_at hl 0 rfl) ?_
  refine lv_bipush (v := 14) X.1 X.2.1 dX2_init_21 (by decide) ?_
  have hat_o_o := hat_o
  have ha_3_o := ha_3
  have ha_9_o := ha_9
  refine r_newI (N := 14) X hw 42 3 (X.2.2.2.1 (.arrayClass .int) (by decide +kernel)) (by decide) (by decide) (by decide) (Nat.le_of_ble_eq_true rfl) (Nat.le_of_ble_eq_true rfl) (Nat.le_of_ble_eq_true rfl) (Nat.le_of_ble_eq_true rfl) dX2_init_23 (fun q_13 H hq_13 hw => ?_)
  generalize eS_14 : sN S_11 q_13 14 14 = S_14 at hw
  have hat_o : At S_14 o 2 := by rw [← eS_14]; exact At_sN hat_o hq_13
  have ha_3 : At S_14 q_1 14 := by rw [← eS_14]; exact At_sN ha_3 hq_13
  have ha_9 : At S_14 q_7 14 := by rw [← eS_14]; exact At_sN ha_9 hq_13
  have hr_6 : pR S_14 200 o = some q_1 := by rw [← eS_14, pR_sN]; exact hr_6
  have hr_12 : pR S_14 201 o = some q_7 := by rw [← eS_14, pR_sN]; exact hr_12
  have hn_4 : pN S_14 q_1 = 14 := by rw [← eS_14]; exact (pN_sN_ne (At_old ha_3_o hq_13)).trans hn_4
  have hn_10 : pN S_14 q_7 = 14 := by rw [← eS_14]; exact (pN_sN_ne (At_old ha_9_o hq_13)).trans hn_10
  have nw_q_13 : q_13 ∉ pL S := Kp_new hkp hq_13
  have hkp : Kp S S_14 (fun a => a = o) := by rw [← eS_14]; exact Kp_sN hkp hq_13
  have ha_15 : At S_14 q_13 14 := by rw [← eS_14]; exact At_nN _ _ _ _
  have hn_16 : pN S_14 q_13 = 14 := by rw [← eS_14]; exact pN_sN_new
  refine r_putR X hw hat_o 2 202 (some q_13) rfl tyX2 (by decide) rfl inn_X2_init_2 tyX2_ok nmX2 (by decide) (X.2.2.2.1 (.fieldLink RX2 18 "SilkMill$Mixer" "prices" "[I") (by decide +kernel)) rfl (Or.inr ⟨rfl, hin, rfl⟩) (fun _ => rfl) rfl (fun _ => rfl) rfl (Nat.le_of_ble_eq_true rfl) (st_202 _ _) dX2_init_25 (fun H locs hw => ?_)
  generalize eS_17 : sR S_14 202 o (some q_13) = S_17 at hw
  have hat_o : At S_17 o 2 := by rw [← eS_17]; exact At_sR hat_o
  have ha_3 : At S_17 q_1 14 := by rw [← eS_17]; exact At_sR ha_3
  have ha_9 : At S_17 q_7 14 := by rw [← eS_17]; exact At_sR ha_9
  have ha_15 : At S_17 q_13 14 := by rw [← eS_17]; exact At_sR ha_15
  have hr_6 : pR S_17 200 o = some q_1 := by rw [← eS_17]; exact (pR_sR_nf (by decide)).trans hr_6
  have hr_12 : pR S_17 201 o = some q_7 := by rw [← eS_17]; exact (pR_sR_nf (by decide)).trans hr_12
  have hn_4 : pN S_17 q_1 = 14 := by rw [← eS_17, pN_sR]; exact hn_4
  have hn_10 : pN S_17 q_7 = 14 := by rw [← eS_17, pN_sR]; exact hn_10
  have hn_16 : pN S_17 q_13 = 14 := by rw [← eS_17, pN_sR]; exact hn_16
  have hkp : Kp S S_17 (fun a => a = o) := by rw [← eS_17]; exact Kp_sR hkp (Or.inl rfl)
  have hr_18 : pR S_17 202 o = some q_13 := by rw [← eS_17]; exact pR_sR_same
  exact ret_v X hw hr hlocks (Nat.le_of_ble_eq_true rfl) (Nat.le_of_ble_eq_true rfl) ⟨hkp, hat_o⟩ dX2_init_28
set_option maxHeartbeats 4000000 in
set_option maxRecDepth 100000 in
theorem c_X1_init (l : Launch) (G : va_G) (cy : Nat → ClassId) (S : PS) (sz : Nat) (o : Nat) (hat_o : At S o 1) (hz : ∀ g, pI S g o = 0) : Cv l yX1_init wsX1_init ({ frames := 1, cells := 1, slots := 5, locals := 40 }) G cy S sz [.ref o] (fun (S9 : PS) => Kp S S9 (fun a => a = o) ∧ DrF S9 o) := by
  refine ent_m (cc := cX1_init) (maxL := 1) (ret := none) (by decide) rfl (Nat.le_of_ble_eq_true rfl) ?_
  intro p e s m below meth c ls X hr hlocks hin hw hl hsz
  subst hsz
  have X : Cx p c cX1_init 1 s [.ref o].toArray wsX1_init RX1 m G cy (AS S s.heap.size) := X
  have hl : lv_has ls 1 [(0, .ref o)] := hl
  have hkp : Kp S S (fun a => a = o) := Kp_rf S _
  have ci_101 := hz 101
  refine lv_aload_n X.1 X.2.1 dX1_init_0 rfl (lv_at hl 0 rfl) ?_
  refine W.objInit X.1 X.2.1 X.2.2.2.2.1 (X.2.2.2.1 (.methodLink RX1 3 objectInit) (by decide +kernel)) (X.2.2.2.1 (.instanceMethod objectInit) (by decide +kernel)) (X.2.2.2.1 (.code objectInit ⟨#[0xb1]⟩ 1 none) (by decide +kernel)) rfl (hl.1.trans X.2.2.1.symm) rfl dX1_init_1 (Nat.le_of_ble_eq_true rfl) (Nat.le_of_ble_eq_true rfl) ?_
  refine W.eq (g2 := F0 m 4 ls ([])) rfl ?_
  refine lv_aload_n X.1 X.2.1 dX1_init_4 rfl (lv_at hl 0 rfl) ?_
  refine lv_iconst (v := 5) X.1 X.2.1 dX1_init_5 (by decide) ?_
  have hat_o_o := hat_o
  refine r_newI (N := 5) X hw 5 1 (X.2.2.2.1 (.arrayClass .int) (by decide +kernel)) (by decide) (by decide) (by decide) (Nat.le_of_ble_eq_true rfl) (Nat.le_of_ble_eq_true rfl) (Nat.le_of_ble_eq_true rfl) (Nat.le_of_ble_eq_true rfl) dX1_init_6 (fun q_1 H hq_1 hw => ?_)
  generalize eS_2 : sN S q_1 14 5 = S_2 at hw
  have hat_o : At S_2 o 1 := by rw [← eS_2]; exact At_sN hat_o hq_1
  have ci_101 : pI S_2 101 o = 0 := by rw [← eS_2, pI_sN]; exact ci_101
  have nw_q_1 : q_1 ∉ pL S := Kp_new hkp hq_1
  have hkp : Kp S S_2 (fun a => a = o) := by rw [← eS_2]; exact Kp_sN hkp hq_1
  have ha_3 : At S_2 q_1 14 := by rw [← eS_2]; exact At_nN _ _ _ _
  have hn_4 : pN S_2 q_1 = 5 := by rw [← eS_2]; exact pN_sN_new
  refine r_putR X hw hat_o 0 100 (some q_1) rfl tyX1 (by decide) rfl inn_X1_init_1 tyX1_ok nmX1 (by decide) (X.2.2.2.1 (.fieldLink RX1 9 "SilkMill$Draw" "metres" "[I") (by decide +kernel)) rfl (Or.inr ⟨rfl, hin, rfl⟩) (fun _ => rfl) rfl (fun _ => rfl) rfl (Nat.le_of_ble_eq_true rfl) (st_100 _ _) dX1_init_8 (fun H locs hw => ?_)
  generalize eS_5 : sR S_2 100 o (some q_1) = S_5 at hw
  have hat_o : At S_5 o 1 := by rw [← eS_5]; exact At_sR hat_o
  have ha_3 : At S_5 q_1 14 := by rw [← eS_5]; exact At_sR ha_3
  have ci_101 : pI S_5 101 o = 0 := by rw [← eS_5, pI_sR]; exact ci_101
  have hn_4 : pN S_5 q_1 = 5 := by rw [← eS_5, pN_sR]; exact hn_4
  have hkp : Kp S S_5 (fun a => a = o) := by rw [← eS_5]; exact Kp_sR hkp (Or.inl rfl)
  have hr_6 : pR S_5 100 o = some q_1 := by rw [← eS_5]; exact pR_sR_same
  exact ret_v X hw hr hlocks (Nat.le_of_ble_eq_true rfl) (Nat.le_of_ble_eq_true rfl) ⟨hkp, hat_o, ci_101⟩ dX1_init_11
set_option maxHeartbeats 4000000 in
set_option maxRecDepth 100000 in
theorem c_X9_init (l : Launch) (G : va_G) (cy : Nat → ClassId) (S : PS) (sz : Nat) (o : Nat) (hat_o : At S o 9) (hz : ∀ g, pI S g o = 0) : Cv l yX9_init wsX9_init ({ frames := 1, cells := 6, slots := 728, locals := 40 }) G cy S sz [.ref o] (fun (S9 : PS) => Kp S S9 (fun a => a = o) ∧ At S9 o 9) := by
  refine ent_m (cc := cX9_init) (maxL := 1) (ret := none) (by decide) rfl (Nat.le_of_ble_eq_true rfl) ?_
  intro p e s m below meth c ls X hr hlocks hin hw hl hsz
  subst hsz
  have X : Cx p c cX9_init 1 s [.ref o].toArray wsX9_init RX9 m G cy (AS S s.heap.size) := X
  have hl : lv_has ls 1 [(0, .ref o)] := hl
  have hkp : Kp S S (fun a => a = o) := Kp_rf S _
  refine lv_aload_n X.1 X.2.1 dX9_init_0 rfl (lv_at hl 0 rfl) ?_
  refine W.objInit X.1 X.2.1 X.2.2.2.2.1 (X.2.2.2.1 (.methodLink RX9 3 objectInit) (by decide +kernel)) (X.2.2.2.1 (.instanceMethod objectInit) (by decide +kernel)) (X.2.2.2.1 (.code objectInit ⟨#[0xb1]⟩ 1 none) (by decide +kernel)) rfl (hl.1.trans X.2.2.1.symm) rfl dX9_init_1 (Nat.le_of_ble_eq_true rfl) (Nat.le_of_ble_eq_true rfl) ?_
  refine W.eq (g2 := F0 m 4 ls ([])) rfl ?_
  refine lv_aload_n X.1 X.2.1 dX9_init_4 rfl (lv_at hl 0 rfl) ?_
  refine lv_sipush (v := 300) X.1 X.2.1 dX9_init_5 (by decide) ?_
  have hat_o_o := hat_o
  refine r_newI (N := 300) X hw 300 1 (X.2.2.2.1 (.arrayClass .int) (by decide +kernel)) (by decide) (by decide) (by decide) (Nat.le_of_ble_eq_true rfl) (Nat.le_of_ble_eq_true rfl) (Nat.le_of_ble_eq_true rfl) (Nat.le_of_ble_eq_true rfl) dX9_init_8 (fun q_1 H hq_1 hw => ?_)
  generalize eS_2 : sN S q_1 14 300 = S_2 at hw
  have hat_o : At S_2 o 9 := by rw [← eS_2]; exact At_sN hat_o hq_1
  have nw_q_1 : q_1 ∉ pL S := Kp_new hkp hq_1
  have hkp : Kp S S_2 (fun a => a = o) := by rw [← eS_2]; exact Kp_sN hkp hq_1
  have ha_3 : At S_2 q_1 14 := by rw [← eS_2]; exact At_nN _ _ _ _
  have hn_4 : pN S_2 q_1 = 300 := by rw [← eS_2]; exact pN_sN_new
  refine r_putR X hw hat_o 0 900 (some q_1) rfl tyX9 (by decide) rfl inn_X9_init_9 tyX9_ok nmX9 (by decide) (X.2.2.2.1 (.fieldLink RX9 9 "SilkMill$Strand" "fineness" "[I") (by decide +kernel)) rfl (Or.inr ⟨rfl, hin, rfl⟩) (fun _ => rfl) rfl (fun _ => rfl) rfl (Nat.le_of_ble_eq_true rfl) (st_900 _ _) dX9_init_10 (fun H locs hw => ?_)
  generalize eS_5 : sR S_2 900 o (some q_1) = S_5 at hw
  have hat_o : At S_5 o 9 := by rw [← eS_5]; exact At_sR hat_o
  have ha_3 : At S_5 q_1 14 := by rw [← eS_5]; exact At_sR ha_3
  have hn_4 : pN S_5 q_1 = 300 := by rw [← eS_5, pN_sR]; exact hn_4
  have hkp : Kp S S_5 (fun a => a = o) := by rw [← eS_5]; exact Kp_sR hkp (Or.inl rfl)
  have hr_6 : pR S_5 900 o = some q_1 := by rw [← eS_5]; exact pR_sR_same
  refine lv_aload_n X.1 X.2.1 dX9_init_13 rfl (lv_at hl 0 rfl) ?_
  refine lv_sipush (v := 300) X.1 X.2.1 dX9_init_14 (by decide) ?_
  have hat_o_o := hat_o
  have ha_3_o := ha_3
  refine r_newI (N := 300) X hw 600 2 (X.2.2.2.1 (.arrayClass .int) (by decide +kernel)) (by decide) (by decide) (by decide) (Nat.le_of_ble_eq_true rfl) (Nat.le_of_ble_eq_true rfl) (Nat.le_of_ble_eq_true rfl) (Nat.le_of_ble_eq_true rfl) dX9_init_17 (fun q_7 H hq_7 hw => ?_)
  generalize eS_8 : sN S_5 q_7 14 300 = S_8 at hw
  have hat_o : At S_8 o 9 := by rw [← eS_8]; exact At_sN hat_o hq_7
  have ha_3 : At S_8 q_1 14 := by rw [← eS_8]; exact At_sN ha_3 hq_7
  have hr_6 : pR S_8 900 o = some q_1 := by rw [← eS_8, pR_sN]; exact hr_6
  have hn_4 : pN S_8 q_1 = 300 := by rw [← eS_8]; exact (pN_sN_ne (At_old ha_3_o hq_7)).trans hn_4
  have nw_q_7 : q_7 ∉ pL S := Kp_new hkp hq_7
  have hkp : Kp S S_8 (fun a => a = o) := by rw [← eS_8]; exact Kp_sN hkp hq_7
  have ha_9 : At S_8 q_7 14 := by rw [← eS_8]; exact At_nN _ _ _ _
  have hn_10 : pN S_8 q_7 = 300 := by rw [← eS_8]; exact pN_sN_new
  refine r_putR X hw hat_o 1 901 (some q_7) rfl tyX9 (by decide) rfl inn_X9_init_9 tyX9_ok nmX9 (by decide) (X.2.2.2.1 (.fieldLink RX9 15 "SilkMill$Strand" "endCounts" "[I") (by decide +kernel)) rfl (Or.inr ⟨rfl, hin, rfl⟩) (fun _ => rfl) rfl (fun _ => rfl) rfl (Nat.le_of_ble_eq_true rfl) (st_901 _ _) dX9_init_19 (fun H locs hw => ?_)
  generalize eS_11 : sR S_8 901 o (some q_7) = S_11 at hw
  have hat_o : At S_11 o 9 := by rw [← eS_11]; exact At_sR hat_o
  have ha_3 : At S_11 q_1 14 := by rw [← eS_11]; exact At_sR ha_3
  have ha_9 : At S_11 q_7 14 := by rw [← eS_11]; exact At_sR ha_9
  have hr_6 : pR S_11 900 o = some q_1 := by rw [← eS_11]; exact (pR_sR_nf (by decide)).trans hr_6
  have hn_4 : pN S_11 q_1 = 300 := by rw [← eS_11, pN_sR]; exact hn_4
  have hn_10 : pN S_11 q_7 = 300 := by rw [← eS_11, pN_sR]; exact hn_10
  have hkp : Kp S S_11 (fun a => a = o) := by rw [← eS_11]; exact Kp_sR hkp (Or.inl rfl)
  have hr_12 : pR S_11 901 o = some q_7 := by rw [← eS_11]; exact pR_sR_same
  refine lv_aload_n X.1 X.2.1 dX9_init_22 rfl (lv_at hl 0 rfl) ?_
  refine lv_bipush (v := 32) X.1 X.2.1 dX9_init_23 (by decide) ?_
  have hat_o_o := hat_o
  have ha_3_o := ha_3
  have ha_9_o := ha_9
  refine r_newI (N := 32) X hw 632 3 (X.2.2.2.1 (.arrayClass .int) (by decide +kernel)) (by decide) (by decide) (by decide) (Nat.le_of_ble_eq_true rfl) (Nat.le_of_ble_eq_true rfl) (Nat.le_of_ble_eq_true rfl) (Nat.le_of_ble_eq_true rfl) dX9_init_25 (fun q_13 H hq_13 hw => ?_)
  generalize eS_14 : sN S_11 q_13 14 32 = S_14 at hw
  have hat_o : At S_14 o 9 := by rw [← eS_14]; exact At_sN hat_o hq_13
  have ha_3 : At S_14 q_1 14 := by rw [← eS_14]; exact At_sN ha_3 hq_13
  have ha_9 : At S_14 q_7 14 := by rw [← eS_14]; exact At_sN ha_9 hq_13
  have hr_6 : pR S_14 900 o = some q_1 := by rw [← eS_14, pR_sN]; exact hr_6
  have hr_12 : pR S_14 901 o = some q_7 := by rw [← eS_14, pR_sN]; exact hr_12
  have hn_4 : pN S_14 q_1 = 300 := by rw [← eS_14]; exact (pN_sN_ne (At_old ha_3_o hq_13)).trans hn_4
  have hn_10 : pN S_14 q_7 = 300 := by rw [← eS_14]; exact (pN_sN_ne (At_old ha_9_o hq_13)).trans hn_10
  have nw_q_13 : q_13 ∉ pL S := Kp_new hkp hq_13
  have hkp : Kp S S_14 (fun a => a = o) := by rw [← eS_14]; exact Kp_sN hkp hq_13
  have ha_15 : At S_14 q_13 14 := by rw [← eS_14]; exact At_nN _ _ _ _
  have hn_16 : pN S_14 q_13 = 32 := by rw [← eS_14]; exact pN_sN_new
  refine r_putR X hw hat_o 5 905 (some q_13) rfl tyX9 (by decide) rfl inn_X9_init_9 tyX9_ok nmX9 (by decide) (X.2.2.2.1 (.fieldLink RX9 18 "SilkMill$Strand" "codes" "[I") (by decide +kernel)) rfl (Or.inl rfl) (fun _ => rfl) rfl (fun _ => rfl) rfl (Nat.le_of_ble_eq_true rfl) (st_905 _ _) dX9_init_27 (fun H locs hw => ?_)
  generalize eS_17 : sR S_14 905 o (some q_13) = S_17 at hw
  have hat_o : At S_17 o 9 := by rw [← eS_17]; exact At_sR hat_o
  have ha_3 : At S_17 q_1 14 := by rw [← eS_17]; exact At_sR ha_3
  have ha_9 : At S_17 q_7 14 := by rw [← eS_17]; exact At_sR ha_9
  have ha_15 : At S_17 q_13 14 := by rw [← eS_17]; exact At_sR ha_15
  have hr_6 : pR S_17 900 o = some q_1 := by rw [← eS_17]; exact (pR_sR_nf (by decide)).trans hr_6
  have hr_12 : pR S_17 901 o = some q_7 := by rw [← eS_17]; exact (pR_sR_nf (by decide)).trans hr_12
  have hn_4 : pN S_17 q_1 = 300 := by rw [← eS_17, pN_sR]; exact hn_4
  have hn_10 : pN S_17 q_7 = 300 := by rw [← eS_17, pN_sR]; exact hn_10
  have hn_16 : pN S_17 q_13 = 32 := by rw [← eS_17, pN_sR]; exact hn_16
  have hkp : Kp S S_17 (fun a => a = o) := by rw [← eS_17]; exact Kp_sR hkp (Or.inl rfl)
  have hr_18 : pR S_17 905 o = some q_13 := by rw [← eS_17]; exact pR_sR_same
  refine lv_aload_n X.1 X.2.1 dX9_init_30 rfl (lv_at hl 0 rfl) ?_
  refine lv_bipush (v := 32) X.1 X.2.1 dX9_init_31 (by decide) ?_
  have hat_o_o := hat_o
  have ha_3_o := ha_3
  have ha_9_o := ha_9
  have ha_15_o := ha_15
  refine r_newI (N := 32) X hw 664 4 (X.2.2.2.1 (.arrayClass .int) (by decide +kernel)) (by decide) (by decide) (by decide) (Nat.le_of_ble_eq_true rfl) (Nat.le_of_ble_eq_true rfl) (Nat.le_of_ble_eq_true rfl) (Nat.le_of_ble_eq_true rfl) dX9_init_33 (fun q_19 H hq_19 hw => ?_)
  generalize eS_20 : sN S_17 q_19 14 32 = S_20 at hw
  have hat_o : At S_20 o 9 := by rw [← eS_20]; exact At_sN hat_o hq_19
  have ha_3 : At S_20 q_1 14 := by rw [← eS_20]; exact At_sN ha_3 hq_19
  have ha_9 : At S_20 q_7 14 := by rw [← eS_20]; exact At_sN ha_9 hq_19
  have ha_15 : At S_20 q_13 14 := by rw [← eS_20]; exact At_sN ha_15 hq_19
  have hr_6 : pR S_20 900 o = some q_1 := by rw [← eS_20, pR_sN]; exact hr_6
  have hr_12 : pR S_20 901 o = some q_7 := by rw [← eS_20, pR_sN]; exact hr_12
  have hr_18 : pR S_20 905 o = some q_13 := by rw [← eS_20, pR_sN]; exact hr_18
  have hn_4 : pN S_20 q_1 = 300 := by rw [← eS_20]; exact (pN_sN_ne (At_old ha_3_o hq_19)).trans hn_4
  have hn_10 : pN S_20 q_7 = 300 := by rw [← eS_20]; exact (pN_sN_ne (At_old ha_9_o hq_19)).trans hn_10
  have hn_16 : pN S_20 q_13 = 32 := by rw [← eS_20]; exact (pN_sN_ne (At_old ha_15_o hq_19)).trans hn_16
  have nw_q_19 : q_19 ∉ pL S := Kp_new hkp hq_19
  have hkp : Kp S S_20 (fun a => a = o) := by rw [← eS_20]; exact Kp_sN hkp hq_19
  have ha_21 : At S_20 q_19 14 := by rw [← eS_20]; exact At_nN _ _ _ _
  have hn_22 : pN S_20 q_19 = 32 := by rw [← eS_20]; exact pN_sN_new
  refine r_putR X hw hat_o 6 906 (some q_19) rfl tyX9 (by decide) rfl inn_X9_init_9 tyX9_ok nmX9 (by decide) (X.2.2.2.1 (.fieldLink RX9 21 "SilkMill$Strand" "firsts" "[I") (by decide +kernel)) rfl (Or.inl rfl) (fun _ => rfl) rfl (fun _ => rfl) rfl (Nat.le_of_ble_eq_true rfl) (st_906 _ _) dX9_init_35 (fun H locs hw => ?_)
  generalize eS_23 : sR S_20 906 o (some q_19) = S_23 at hw
  have hat_o : At S_23 o 9 := by rw [← eS_23]; exact At_sR hat_o
  have ha_3 : At S_23 q_1 14 := by rw [← eS_23]; exact At_sR ha_3
  have ha_9 : At S_23 q_7 14 := by rw [← eS_23]; exact At_sR ha_9
  have ha_15 : At S_23 q_13 14 := by rw [← eS_23]; exact At_sR ha_15
  have ha_21 : At S_23 q_19 14 := by rw [← eS_23]; exact At_sR ha_21
  have hr_6 : pR S_23 900 o = some q_1 := by rw [← eS_23]; exact (pR_sR_nf (by decide)).trans hr_6
  have hr_12 : pR S_23 901 o = some q_7 := by rw [← eS_23]; exact (pR_sR_nf (by decide)).trans hr_12
  have hr_18 : pR S_23 905 o = some q_13 := by rw [← eS_23]; exact (pR_sR_nf (by decide)).trans hr_18
  have hn_4 : pN S_23 q_1 = 300 := by rw [← eS_23, pN_sR]; exact hn_4
  have hn_10 : pN S_23 q_7 = 300 := by rw [← eS_23, pN_sR]; exact hn_10
  have hn_16 : pN S_23 q_13 = 32 := by rw [← eS_23, pN_sR]; exact hn_16
  have hn_22 : pN S_23 q_19 = 32 := by rw [← eS_23, pN_sR]; exact hn_22
  have hkp : Kp S S_23 (fun a => a = o) := by rw [← eS_23]; exact Kp_sR hkp (Or.inl rfl)
  have hr_24 : pR S_23 906 o = some q_19 := by rw [← eS_23]; exact pR_sR_same
  refine lv_aload_n X.1 X.2.1 dX9_init_38 rfl (lv_at hl 0 rfl) ?_
  refine lv_bipush (v := 32) X.1 X.2.1 dX9_init_39 (by decide) ?_
  have hat_o_o := hat_o
  have ha_3_o := ha_3
  have ha_9_o := ha_9
  have ha_15_o := ha_15
  have ha_21_o := ha_21
  refine r_newI (N := 32) X hw 696 5 (X.2.2.2.1 (.arrayClass .int) (by decide +kernel)) (by decide) (by decide) (by decide) (Nat.le_of_ble_eq_true rfl) (Nat.le_of_ble_eq_true rfl) (Nat.le_of_ble_eq_true rfl) (Nat.le_of_ble_eq_true rfl) dX9_init_41 (fun q_25 H hq_25 hw => ?_)
  generalize eS_26 : sN S_23 q_25 14 32 = S_26 at hw
  have hat_o : At S_26 o 9 := by rw [← eS_26]; exact At_sN hat_o hq_25
  have ha_3 : At S_26 q_1 14 := by rw [← eS_26]; exact At_sN ha_3 hq_25
  have ha_9 : At S_26 q_7 14 := by rw [← eS_26]; exact At_sN ha_9 hq_25
  have ha_15 : At S_26 q_13 14 := by rw [← eS_26]; exact At_sN ha_15 hq_25
  have ha_21 : At S_26 q_19 14 := by rw [← eS_26]; exact At_sN ha_21 hq_25
  have hr_6 : pR S_26 900 o = some q_1 := by rw [← eS_26, pR_sN]; exact hr_6
  have hr_12 : pR S_26 901 o = some q_7 := by rw [← eS_26, pR_sN]; exact hr_12
  have hr_18 : pR S_26 905 o = some q_13 := by rw [← eS_26, pR_sN]; exact hr_18
  have hr_24 : pR S_26 906 o = some q_19 := by rw [← eS_26, pR_sN]; exact hr_24
  have hn_4 : pN S_26 q_1 = 300 := by rw [← eS_26]; exact (pN_sN_ne (At_old ha_3_o hq_25)).trans hn_4
  have hn_10 : pN S_26 q_7 = 300 := by rw [← eS_26]; exact (pN_sN_ne (At_old ha_9_o hq_25)).trans hn_10
  have hn_16 : pN S_26 q_13 = 32 := by rw [← eS_26]; exact (pN_sN_ne (At_old ha_15_o hq_25)).trans hn_16
  have hn_22 : pN S_26 q_19 = 32 := by rw [← eS_26]; exact (pN_sN_ne (At_old ha_21_o hq_25)).trans hn_22
  have nw_q_25 : q_25 ∉ pL S := Kp_new hkp hq_25
  have hkp : Kp S S_26 (fun a => a = o) := by rw [← eS_26]; exact Kp_sN hkp hq_25
  have ha_27 : At S_26 q_25 14 := by rw [← eS_26]; exact At_nN _ _ _ _
  have hn_28 : pN S_26 q_25 = 32 := by rw [← eS_26]; exact pN_sN_new
  refine r_putR X hw hat_o 7 907 (some q_25) rfl tyX9 (by decide) rfl inn_X9_init_9 tyX9_ok nmX9 (by decide) (X.2.2.2.1 (.fieldLink RX9 24 "SilkMill$Strand" "lengths" "[I") (by decide +kernel)) rfl (Or.inl rfl) (fun _ => rfl) rfl (fun _ => rfl) rfl (Nat.le_of_ble_eq_true rfl) (st_907 _ _) dX9_init_43 (fun H locs hw => ?_)
  generalize eS_29 : sR S_26 907 o (some q_25) = S_29 at hw
  have hat_o : At S_29 o 9 := by rw [← eS_29]; exact At_sR hat_o
  have ha_3 : At S_29 q_1 14 := by rw [← eS_29]; exact At_sR ha_3
  have ha_9 : At S_29 q_7 14 := by rw [← eS_29]; exact At_sR ha_9
  have ha_15 : At S_29 q_13 14 := by rw [← eS_29]; exact At_sR ha_15
  have ha_21 : At S_29 q_19 14 := by rw [← eS_29]; exact At_sR ha_21
  have ha_27 : At S_29 q_25 14 := by rw [← eS_29]; exact At_sR ha_27
  have hr_6 : pR S_29 900 o = some q_1 := by rw [← eS_29]; exact (pR_sR_nf (by decide)).trans hr_6
  have hr_12 : pR S_29 901 o = some q_7 := by rw [← eS_29]; exact (pR_sR_nf (by decide)).trans hr_12
  have hr_18 : pR S_29 905 o = some q_13 := by rw [← eS_29]; exact (pR_sR_nf (by decide)).trans hr_18
  have hr_24 : pR S_29 906 o = some q_19 := by rw [← eS_29]; exact (pR_sR_nf (by decide)).trans hr_24
  have hn_4 : pN S_29 q_1 = 300 := by rw [← eS_29, pN_sR]; exact hn_4
  have hn_10 : pN S_29 q_7 = 300 := by rw [← eS_29, pN_sR]; exact hn_10
  have hn_16 : pN S_29 q_13 = 32 := by rw [← eS_29, pN_sR]; exact hn_16
  have hn_22 : pN S_29 q_19 = 32 := by rw [← eS_29, pN_sR]; exact hn_22
  have hn_28 : pN S_29 q_25 = 32 := by rw [← eS_29, pN_sR]; exact hn_28
  have hkp : Kp S S_29 (fun a => a = o) := by rw [← eS_29]; exact Kp_sR hkp (Or.inl rfl)
  have hr_30 : pR S_29 907 o = some q_25 := by rw [← eS_29]; exact pR_sR_same
  refine lv_aload_n X.1 X.2.1 dX9_init_46 rfl (lv_at hl 0 rfl) ?_
  refine lv_bipush (v := 32) X.1 X.2.1 dX9_init_47 (by decide) ?_
  have hat_o_o := hat_o
  have ha_3_o := ha_3
  have ha_9_o := ha_9
  have ha_15_o := ha_15
  have ha_21_o := ha_21
  have ha_27_o := ha_27
  refine r_newI (N := 32) X hw 728 6 (X.2.2.2.1 (.arrayClass .int) (by decide +kernel)) (by decide) (by decide) (by decide) (Nat.le_of_ble_eq_true rfl) (Nat.le_of_ble_eq_true rfl) (Nat.le_of_ble_eq_true rfl) (Nat.le_of_ble_eq_true rfl) dX9_init_49 (fun q_31 H hq_31 hw => ?_)
  generalize eS_32 : sN S_29 q_31 14 32 = S_32 at hw
  have hat_o : At S_32 o 9 := by rw [← eS_32]; exact At_sN hat_o hq_31
  have ha_3 : At S_32 q_1 14 := by rw [← eS_32]; exact At_sN ha_3 hq_31
  have ha_9 : At S_32 q_7 14 := by rw [← eS_32]; exact At_sN ha_9 hq_31
  have ha_15 : At S_32 q_13 14 := by rw [← eS_32]; exact At_sN ha_15 hq_31
  have ha_21 : At S_32 q_19 14 := by rw [← eS_32]; exact At_sN ha_21 hq_31
  have ha_27 : At S_32 q_25 14 := by rw [← eS_32]; exact At_sN ha_27 hq_31
  have hr_6 : pR S_32 900 o = some q_1 := by rw [← eS_32, pR_sN]; exact hr_6
  have hr_12 : pR S_32 901 o = some q_7 := by rw [← eS_32, pR_sN]; exact hr_12
  have hr_18 : pR S_32 905 o = some q_13 := by rw [← eS_32, pR_sN]; exact hr_18
  have hr_24 : pR S_32 906 o = some q_19 := by rw [← eS_32, pR_sN]; exact hr_24
  have hr_30 : pR S_32 907 o = some q_25 := by rw [← eS_32, pR_sN]; exact hr_30
  have hn_4 : pN S_32 q_1 = 300 := by rw [← eS_32]; exact (pN_sN_ne (At_old ha_3_o hq_31)).trans hn_4
  have hn_10 : pN S_32 q_7 = 300 := by rw [← eS_32]; exact (pN_sN_ne (At_old ha_9_o hq_31)).trans hn_10
  have hn_16 : pN S_32 q_13 = 32 := by rw [← eS_32]; exact (pN_sN_ne (At_old ha_15_o hq_31)).trans hn_16
  have hn_22 : pN S_32 q_19 = 32 := by rw [← eS_32]; exact (pN_sN_ne (At_old ha_21_o hq_31)).trans hn_22
  have hn_28 : pN S_32 q_25 = 32 := by rw [← eS_32]; exact (pN_sN_ne (At_old ha_27_o hq_31)).trans hn_28
  have nw_q_31 : q_31 ∉ pL S := Kp_new hkp hq_31
  have hkp : Kp S S_32 (fun a => a = o) := by rw [← eS_32]; exact Kp_sN hkp hq_31
  have ha_33 : At S_32 q_31 14 := by rw [← eS_32]; exact At_nN _ _ _ _
  have hn_34 : pN S_32 q_31 = 32 := by rw [← eS_32]; exact pN_sN_new
  refine r_putR X hw hat_o 8 908 (some q_31) rfl tyX9 (by decide) rfl inn_X9_init_9 tyX9_ok nmX9 (by decide) (X.2.2.2.1 (.fieldLink RX9 27 "SilkMill$Strand" "places" "[I") (by decide +kernel)) rfl (Or.inl rfl) (fun _ => rfl) rfl (fun _ => rfl) rfl (Nat.le_of_ble_eq_true rfl) (st_908 _ _) dX9_init_51 (fun H locs hw => ?_)
  generalize eS_35 : sR S_32 908 o (some q_31) = S_35 at hw
  have hat_o : At S_35 o 9 := by rw [← eS_35]; exact At_sR hat_o
  have ha_3 : At S_35 q_1 14 := by rw [← eS_35]; exact At_sR ha_3
  have ha_9 : At S_35 q_7 14 := by rw [← eS_35]; exact At_sR ha_9
  have ha_15 : At S_35 q_13 14 := by rw [← eS_35]; exact At_sR ha_15
  have ha_21 : At S_35 q_19 14 := by rw [← eS_35]; exact At_sR ha_21
  have ha_27 : At S_35 q_25 14 := by rw [← eS_35]; exact At_sR ha_27
  have ha_33 : At S_35 q_31 14 := by rw [← eS_35]; exact At_sR ha_33
  have hr_6 : pR S_35 900 o = some q_1 := by rw [← eS_35]; exact (pR_sR_nf (by decide)).trans hr_6
  have hr_12 : pR S_35 901 o = some q_7 := by rw [← eS_35]; exact (pR_sR_nf (by decide)).trans hr_12
  have hr_18 : pR S_35 905 o = some q_13 := by rw [← eS_35]; exact (pR_sR_nf (by decide)).trans hr_18
  have hr_24 : pR S_35 906 o = some q_19 := by rw [← eS_35]; exact (pR_sR_nf (by decide)).trans hr_24
  have hr_30 : pR S_35 907 o = some q_25 := by rw [← eS_35]; exact (pR_sR_nf (by decide)).trans hr_30
  have hn_4 : pN S_35 q_1 = 300 := by rw [← eS_35, pN_sR]; exact hn_4
  have hn_10 : pN S_35 q_7 = 300 := by rw [← eS_35, pN_sR]; exact hn_10
  have hn_16 : pN S_35 q_13 = 32 := by rw [← eS_35, pN_sR]; exact hn_16
  have hn_22 : pN S_35 q_19 = 32 := by rw [← eS_35, pN_sR]; exact hn_22
  have hn_28 : pN S_35 q_25 = 32 := by rw [← eS_35, pN_sR]; exact hn_28
  have hn_34 : pN S_35 q_31 = 32 := by rw [← eS_35, pN_sR]; exact hn_34
  have hkp : Kp S S_35 (fun a => a = o) := by rw [← eS_35]; exact Kp_sR hkp (Or.inl rfl)
  have hr_36 : pR S_35 908 o = some q_31 := by rw [← eS_35]; exact pR_sR_same
  exact ret_v X hw hr hlocks (Nat.le_of_ble_eq_true rfl) (Nat.le_of_ble_eq_true rfl) ⟨hkp, hat_o⟩ dX9_init_54
set_option maxHeartbeats 4000000 in
set_option maxRecDepth 100000 in
theorem c_X5_init_600 (l : Launch) (G : va_G) (cy : Nat → ClassId) (S : PS) (sz : Nat) (o : Nat) (hat_o : At S o 5) (hz : ∀ g, pI S g o = 0) : Cv l yX5_init wsX5_init ({ frames := 2, cells := 1, slots := 600, locals := 80 }) G cy S sz [.ref o, .int 600] (fun (S9 : PS) => Kp S S9 (fun a => a = o) ∧ At S9 o 5) := by
  refine ent_m (cc := cX5_init) (maxL := 2) (ret := none) (by decide) rfl (Nat.le_of_ble_eq_true rfl) ?_
  intro p e s m below meth c ls X hr hlocks hin hw hl hsz
  subst hsz
  have X : Cx p c cX5_init 2 s [.ref o, .int 600].toArray wsX5_init RX5 m G cy (AS S s.heap.size) := X
  have hl : lv_has ls 2 [(0, .ref o), (1, .int 600)] := hl
  have hkp : Kp S S (fun a => a = o) := Kp_rf S _
  refine lv_aload_n X.1 X.2.1 dX5_init_0 rfl (lv_at hl 0 rfl) ?_
  refine W.objInit X.1 X.2.1 X.2.2.2.2.1 (X.2.2.2.1 (.methodLink RX5 3 objectInit) (by decide +kernel)) (X.2.2.2.1 (.instanceMethod objectInit) (by decide +kernel)) (X.2.2.2.1 (.code objectInit ⟨#[0xb1]⟩ 1 none) (by decide +kernel)) rfl (hl.1.trans X.2.2.1.symm) rfl dX5_init_1 (Nat.le_of_ble_eq_true rfl) (Nat.le_of_ble_eq_true rfl) ?_
  refine W.eq (g2 := F0 m 4 ls ([])) rfl ?_
  refine lv_aload_n X.1 X.2.1 dX5_init_4 rfl (lv_at hl 0 rfl) ?_
  refine lv_iconst (v := 1) X.1 X.2.1 dX5_init_5 (by decide) ?_
  refine lv_iload_n X.1 X.2.1 dX5_init_6 rfl (lv_at hl 1 rfl) ?_
  refine va_mmax X.1 X.2.1 (X.2.2.1.trans hl.1.symm) X.2.2.2.2.1 (X.2.2.2.1 (.methodLink RX5 9 Lib.Math.max.name) (by decide +kernel)) (X.2.2.2.1 (.static Lib.Math.max.name) (by decide +kernel)) (X.2.2.2.1 (.initialized "java/lang/Math") (by decide +kernel)) (X.2.2.2.1 (.code Lib.Math.max.name Lib.Math.max.code 2 (some .int)) (by decide +kernel)) (Nat.le_of_ble_eq_true rfl) (Nat.le_of_ble_eq_true rfl) (Nat.le_of_ble_eq_true rfl) (Nat.le_of_ble_eq_true rfl) dX5_init_7 ?_
  refine lv_topi (fun v_1 ev_1 => ?_)
  obtain rfl : v_1 = 600 := ev_1.trans (by decide +kernel)
  have hat_o_o := hat_o
  refine r_newQ (N := 600) (C := RX0) X hw 16 600 1 (by decide) rfl (X.2.2.2.1 (.classLink RX5 15 RX0) (by decide +kernel)) X.2.2.2.2.2.2.2.1.1 (by decide) (by decide) (by decide) (Nat.le_of_ble_eq_true rfl) (Nat.le_of_ble_eq_true rfl) (Nat.le_of_ble_eq_true rfl) (Nat.le_of_ble_eq_true rfl) dX5_init_10 (fun q_2 H hq_2 hw => ?_)
  generalize eS_3 : sN S q_2 16 600 = S_3 at hw
  have hat_o : At S_3 o 5 := by rw [← eS_3]; exact At_sN hat_o hq_2
  have nw_q_2 : q_2 ∉ pL S := Kp_new hkp hq_2
  have hkp : Kp S S_3 (fun a => a = o) := by rw [← eS_3]; exact Kp_sN hkp hq_2
  have ha_4 : At S_3 q_2 16 := by rw [← eS_3]; exact At_nN _ _ _ _
  have hn_5 : pN S_3 q_2 = 600 := by rw [← eS_3]; exact pN_sN_new
  refine r_putR X hw hat_o 1 501 (some q_2) rfl tyX5 (by decide) rfl inn_X5_init_5 tyX5_ok nmX5 (by decide) (X.2.2.2.1 (.fieldLink RX5 17 "SilkMill$Row" "cells" "[LSilkMill$Cocoon;") (by decide +kernel)) rfl (Or.inr ⟨rfl, hin, rfl⟩) (fun _ => rfl) rfl (fun _ => rfl) rfl (Nat.le_of_ble_eq_true rfl) (st_501 _ _) dX5_init_13 (fun H locs hw => ?_)
  generalize eS_6 : sR S_3 501 o (some q_2) = S_6 at hw
  have hat_o : At S_6 o 5 := by rw [← eS_6]; exact At_sR hat_o
  have ha_4 : At S_6 q_2 16 := by rw [← eS_6]; exact At_sR ha_4
  have hn_5 : pN S_6 q_2 = 600 := by rw [← eS_6, pN_sR]; exact hn_5
  have hkp : Kp S S_6 (fun a => a = o) := by rw [← eS_6]; exact Kp_sR hkp (Or.inl rfl)
  have hr_7 : pR S_6 501 o = some q_2 := by rw [← eS_6]; exact pR_sR_same
  exact ret_v X hw hr hlocks (Nat.le_of_ble_eq_true rfl) (Nat.le_of_ble_eq_true rfl) ⟨hkp, hat_o⟩ dX5_init_16
set_option maxHeartbeats 4000000 in
set_option maxRecDepth 100000 in
theorem c_X5_init_12 (l : Launch) (G : va_G) (cy : Nat → ClassId) (S : PS) (sz : Nat) (o : Nat) (hat_o : At S o 5) (hz : ∀ g, pI S g o = 0) : Cv l yX5_init wsX5_init ({ frames := 2, cells := 1, slots := 600, locals := 80 }) G cy S sz [.ref o, .int 12] (fun (S9 : PS) => Kp S S9 (fun a => a = o) ∧ At S9 o 5) := by
  refine ent_m (cc := cX5_init) (maxL := 2) (ret := none) (by decide) rfl (Nat.le_of_ble_eq_true rfl) ?_
  intro p e s m below meth c ls X hr hlocks hin hw hl hsz
  subst hsz
  have X : Cx p c cX5_init 2 s [.ref o, .int 12].toArray wsX5_init RX5 m G cy (AS S s.heap.size) := X
  have hl : lv_has ls 2 [(0, .ref o), (1, .int 12)] := hl
  have hkp : Kp S S (fun a => a = o) := Kp_rf S _
  refine lv_aload_n X.1 X.2.1 dX5_init_0 rfl (lv_at hl 0 rfl) ?_
  refine W.objInit X.1 X.2.1 X.2.2.2.2.1 (X.2.2.2.1 (.methodLink RX5 3 objectInit) (by decide +kernel)) (X.2.2.2.1 (.instanceMethod objectInit) (by decide +kernel)) (X.2.2.2.1 (.code objectInit ⟨#[0xb1]⟩ 1 none) (by decide +kernel)) rfl (hl.1.trans X.2.2.1.symm) rfl dX5_init_1 (Nat.le_of_ble_eq_true rfl) (Nat.le_of_ble_eq_true rfl) ?_
  refine W.eq (g2 := F0 m 4 ls ([])) rfl ?_
  refine lv_aload_n X.1 X.2.1 dX5_init_4 rfl (lv_at hl 0 rfl) ?_
  refine lv_iconst (v := 1) X.1 X.2.1 dX5_init_5 (by decide) ?_
  refine lv_iload_n X.1 X.2.1 dX5_init_6 rfl (lv_at hl 1 rfl) ?_
  refine va_mmax X.1 X.2.1 (X.2.2.1.trans hl.1.symm) X.2.2.2.2.1 (X.2.2.2.1 (.methodLink RX5 9 Lib.Math.max.name) (by decide +kernel)) (X.2.2.2.1 (.static Lib.Math.max.name) (by decide +kernel)) (X.2.2.2.1 (.initialized "java/lang/Math") (by decide +kernel)) (X.2.2.2.1 (.code Lib.Math.max.name Lib.Math.max.code 2 (some .int)) (by decide +kernel)) (Nat.le_of_ble_eq_true rfl) (Nat.le_of_ble_eq_true rfl) (Nat.le_of_ble_eq_true rfl) (Nat.le_of_ble_eq_true rfl) dX5_init_7 ?_
  refine lv_topi (fun v_1 ev_1 => ?_)
  obtain rfl : v_1 = 12 := ev_1.trans (by decide +kernel)
  have hat_o_o := hat_o
  refine r_newQ (N := 12) (C := RX0) X hw 16 12 1 (by decide) rfl (X.2.2.2.1 (.classLink RX5 15 RX0) (by decide +kernel)) X.2.2.2.2.2.2.2.1.1 (by decide) (by decide) (by decide) (Nat.le_of_ble_eq_true rfl) (Nat.le_of_ble_eq_true rfl) (Nat.le_of_ble_eq_true rfl) (Nat.le_of_ble_eq_true rfl) dX5_init_10 (fun q_2 H hq_2 hw => ?_)
  generalize eS_3 : sN S q_2 16 12 = S_3 at hw
  have hat_o : At S_3 o 5 := by rw [← eS_3]; exact At_sN hat_o hq_2
  have nw_q_2 : q_2 ∉ pL S := Kp_new hkp hq_2
  have hkp : Kp S S_3 (fun a => a = o) := by rw [← eS_3]; exact Kp_sN hkp hq_2
  have ha_4 : At S_3 q_2 16 := by rw [← eS_3]; exact At_nN _ _ _ _
  have hn_5 : pN S_3 q_2 = 12 := by rw [← eS_3]; exact pN_sN_new
  refine r_putR X hw hat_o 1 501 (some q_2) rfl tyX5 (by decide) rfl inn_X5_init_5 tyX5_ok nmX5 (by decide) (X.2.2.2.1 (.fieldLink RX5 17 "SilkMill$Row" "cells" "[LSilkMill$Cocoon;") (by decide +kernel)) rfl (Or.inr ⟨rfl, hin, rfl⟩) (fun _ => rfl) rfl (fun _ => rfl) rfl (Nat.le_of_ble_eq_true rfl) (st_501 _ _) dX5_init_13 (fun H locs hw => ?_)
  generalize eS_6 : sR S_3 501 o (some q_2) = S_6 at hw
  have hat_o : At S_6 o 5 := by rw [← eS_6]; exact At_sR hat_o
  have ha_4 : At S_6 q_2 16 := by rw [← eS_6]; exact At_sR ha_4
  have hn_5 : pN S_6 q_2 = 12 := by rw [← eS_6, pN_sR]; exact hn_5
  have hkp : Kp S S_6 (fun a => a = o) := by rw [← eS_6]; exact Kp_sR hkp (Or.inl rfl)
  have hr_7 : pR S_6 501 o = some q_2 := by rw [← eS_6]; exact pR_sR_same
  exact ret_v X hw hr hlocks (Nat.le_of_ble_eq_true rfl) (Nat.le_of_ble_eq_true rfl) ⟨hkp, hat_o⟩ dX5_init_16
set_option maxHeartbeats 4000000 in
set_option maxRecDepth 100000 in
theorem c_X8_init (l : Launch) (G : va_G) (cy : Nat → ClassId) (S : PS) (sz : Nat) (o : Nat) (hat_o : At S o 8) (hz : ∀ g, pI S g o = 0) : Cv l yX8_init wsX8_init ({ frames := 3, cells := 12, slots := 500, locals := 120 }) G cy S sz [.ref o] (fun (S9 : PS) => Kp S S9 (fun a => a = o) ∧ StF S9 o) := by
  refine ent_m (cc := cX8_init) (maxL := 1) (ret := none) (by decide) rfl (Nat.le_of_ble_eq_true rfl) ?_
  intro p e s m below meth c ls X hr hlocks hin hw hl hsz
  subst hsz
  have X : Cx p c cX8_init 1 s [.ref o].toArray wsX8_init RX8 m G cy (AS S s.heap.size) := X
  have hl : lv_has ls 1 [(0, .ref o)] := hl
  have hkp : Kp S S (fun a => a = o) := Kp_rf S _
  refine lv_aload_n X.1 X.2.1 dX8_init_0 rfl (lv_at hl 0 rfl) ?_
  refine W.objInit X.1 X.2.1 X.2.2.2.2.1 (X.2.2.2.1 (.methodLink RX8 3 objectInit) (by decide +kernel)) (X.2.2.2.1 (.instanceMethod objectInit) (by decide +kernel)) (X.2.2.2.1 (.code objectInit ⟨#[0xb1]⟩ 1 none) (by decide +kernel)) rfl (hl.1.trans X.2.2.1.symm) rfl dX8_init_1 (Nat.le_of_ble_eq_true rfl) (Nat.le_of_ble_eq_true rfl) ?_
  refine W.eq (g2 := F0 m 4 ls ([])) rfl ?_
  refine lv_aload_n X.1 X.2.1 dX8_init_4 rfl (lv_at hl 0 rfl) ?_
  refine lv_iconst (v := 4) X.1 X.2.1 dX8_init_5 (by decide) ?_
  have hat_o_o := hat_o
  refine r_newI (N := 4) X hw 4 1 (X.2.2.2.1 (.arrayClass .int) (by decide +kernel)) (by decide) (by decide) (by decide) (Nat.le_of_ble_eq_true rfl) (Nat.le_of_ble_eq_true rfl) (Nat.le_of_ble_eq_true rfl) (Nat.le_of_ble_eq_true rfl) dX8_init_6 (fun q_1 H hq_1 hw => ?_)
  generalize eS_2 : sN S q_1 14 4 = S_2 at hw
  have hat_o : At S_2 o 8 := by rw [← eS_2]; exact At_sN hat_o hq_1
  have nw_q_1 : q_1 ∉ pL S := Kp_new hkp hq_1
  have hkp : Kp S S_2 (fun a => a = o) := by rw [← eS_2]; exact Kp_sN hkp hq_1
  have hz : ∀ g, pI S_2 g o = 0 := by rw [← eS_2, pI_sN]; exact hz
  have ha_3 : At S_2 q_1 14 := by rw [← eS_2]; exact At_nN _ _ _ _
  have hn_4 : pN S_2 q_1 = 4 := by rw [← eS_2]; exact pN_sN_new
  refine lv_dup X.1 X.2.1 dX8_init_8 rfl ?_
  refine lv_iconst (v := 0) X.1 X.2.1 dX8_init_9 (by decide) ?_
  refine lv_bipush (v := 100) X.1 X.2.1 dX8_init_10 (by decide) ?_
  refine r_iast X hw ha_3 (by rw [hn_4]; exact vp_in_iff.mpr (by decide +kernel)) dX8_init_12 (fun H locs hw => ?_)
  generalize eS_5 : sA S_2 q_1 (upd (pA S_2 q_1) (Int32.toNatClampNeg (0)) 100) = S_5 at hw
  have hat_o : At S_5 o 8 := by rw [← eS_5]; exact At_sA hat_o
  have ha_3 : At S_5 q_1 14 := by rw [← eS_5]; exact At_sA ha_3
  have hn_4 : pN S_5 q_1 = 4 := by rw [← eS_5, pN_sA]; exact hn_4
  have hkp : Kp S S_5 (fun a => a = o) := by rw [← eS_5]; exact Kp_sA hkp (Or.inr nw_q_1)
  have hz : ∀ g, pI S_5 g o = 0 := by rw [← eS_5, pI_sA]; exact hz
  refine lv_dup X.1 X.2.1 dX8_init_13 rfl ?_
  refine lv_iconst (v := 1) X.1 X.2.1 dX8_init_14 (by decide) ?_
  refine lv_bipush (v := 80) X.1 X.2.1 dX8_init_15 (by decide) ?_
  refine r_iast X hw ha_3 (by rw [hn_4]; exact vp_in_iff.mpr (by decide +kernel)) dX8_init_17 (fun H locs hw => ?_)
  generalize eS_6 : sA S_5 q_1 (upd (pA S_5 q_1) (Int32.toNatClampNeg (1)) 80) = S_6 at hw
  have hat_o : At S_6 o 8 := by rw [← eS_6]; exact At_sA hat_o
  have ha_3 : At S_6 q_1 14 := by rw [← eS_6]; exact At_sA ha_3
  have hn_4 : pN S_6 q_1 = 4 := by rw [← eS_6, pN_sA]; exact hn_4
  have hkp : Kp S S_6 (fun a => a = o) := by rw [← eS_6]; exact Kp_sA hkp (Or.inr nw_q_1)
  have hz : ∀ g, pI S_6 g o = 0 := by rw [← eS_6, pI_sA]; exact hz
  refine lv_dup X.1 X.2.1 dX8_init_18 rfl ?_
  refine lv_iconst (v := 2) X.1 X.2.1 dX8_init_19 (by decide) ?_
  refine lv_bipush (v := 50) X.1 X.2.1 dX8_init_20 (by decide) ?_
  refine r_iast X hw ha_3 (by rw [hn_4]; exact vp_in_iff.mpr (by decide +kernel)) dX8_init_22 (fun H locs hw => ?_)
  generalize eS_7 : sA S_6 q_1 (upd (pA S_6 q_1) (Int32.toNatClampNeg (2)) 50) = S_7 at hw
  have hat_o : At S_7 o 8 := by rw [← eS_7]; exact At_sA hat_o
  have ha_3 : At S_7 q_1 14 := by rw [← eS_7]; exact At_sA ha_3
  have hn_4 : pN S_7 q_1 = 4 := by rw [← eS_7, pN_sA]; exact hn_4
  have hkp : Kp S S_7 (fun a => a = o) := by rw [← eS_7]; exact Kp_sA hkp (Or.inr nw_q_1)
  have hz : ∀ g, pI S_7 g o = 0 := by rw [← eS_7, pI_sA]; exact hz
  refine lv_dup X.1 X.2.1 dX8_init_23 rfl ?_
  refine lv_iconst (v := 3) X.1 X.2.1 dX8_init_24 (by decide) ?_
  refine lv_bipush (v := 20) X.1 X.2.1 dX8_init_25 (by decide) ?_
  refine r_iast X hw ha_3 (by rw [hn_4]; exact vp_in_iff.mpr (by decide +kernel)) dX8_init_27 (fun H locs hw => ?_)
  generalize eS_8 : sA S_7 q_1 (upd (pA S_7 q_1) (Int32.toNatClampNeg (3)) 20) = S_8 at hw
  have hat_o : At S_8 o 8 := by rw [← eS_8]; exact At_sA hat_o
  have ha_3 : At S_8 q_1 14 := by rw [← eS_8]; exact At_sA ha_3
  have hn_4 : pN S_8 q_1 = 4 := by rw [← eS_8, pN_sA]; exact hn_4
  have hkp : Kp S S_8 (fun a => a = o) := by rw [← eS_8]; exact Kp_sA hkp (Or.inr nw_q_1)
  have hz : ∀ g, pI S_8 g o = 0 := by rw [← eS_8, pI_sA]; exact hz
  refine r_putR X hw hat_o 7 807 (some q_1) rfl tyX8 (by decide) rfl inn_X8_init_8 tyX8_ok nmX8 (by decide) (X.2.2.2.1 (.fieldLink RX8 9 "SilkMill$Store" "prices" "[I") (by decide +kernel)) rfl (Or.inr ⟨rfl, hin, rfl⟩) (fun _ => rfl) rfl (fun _ => rfl) rfl (Nat.le_of_ble_eq_true rfl) (st_807 _ _) dX8_init_28 (fun H locs hw => ?_)
  generalize eS_9 : sR S_8 807 o (some q_1) = S_9 at hw
  have hat_o : At S_9 o 8 := by rw [← eS_9]; exact At_sR hat_o
  have ha_3 : At S_9 q_1 14 := by rw [← eS_9]; exact At_sR ha_3
  have hn_4 : pN S_9 q_1 = 4 := by rw [← eS_9, pN_sR]; exact hn_4
  have hkp : Kp S S_9 (fun a => a = o) := by rw [← eS_9]; exact Kp_sR hkp (Or.inl rfl)
  have hz : ∀ g, pI S_9 g o = 0 := by rw [← eS_9, pI_sR]; exact hz
  have hr_10 : pR S_9 807 o = some q_1 := by rw [← eS_9]; exact pR_sR_same
  refine lv_aload_n X.1 X.2.1 dX8_init_31 rfl (lv_at hl 0 rfl) ?_
  refine lv_bipush (v := 40) X.1 X.2.1 dX8_init_32 (by decide) ?_
  have hat_o_o := hat_o
  have ha_3_o := ha_3
  refine r_newQ (N := 40) (C := RX7) X hw 19 44 2 (by decide) rfl (X.2.2.2.1 (.classLink RX8 15 RX7) (by decide +kernel)) X.2.2.2.2.2.2.2.1.2.2.2 (by decide) (by decide) (by decide) (Nat.le_of_ble_eq_true rfl) (Nat.le_of_ble_eq_true rfl) (Nat.le_of_ble_eq_true rfl) (Nat.le_of_ble_eq_true rfl) dX8_init_34 (fun q_11 H hq_11 hw => ?_)
  generalize eS_12 : sN S_9 q_11 19 40 = S_12 at hw
  have hat_o : At S_12 o 8 := by rw [← eS_12]; exact At_sN hat_o hq_11
  have ha_3 : At S_12 q_1 14 := by rw [← eS_12]; exact At_sN ha_3 hq_11
  have hr_10 : pR S_12 807 o = some q_1 := by rw [← eS_12, pR_sN]; exact hr_10
  have hn_4 : pN S_12 q_1 = 4 := by rw [← eS_12]; exact (pN_sN_ne (At_old ha_3_o hq_11)).trans hn_4
  have nw_q_11 : q_11 ∉ pL S := Kp_new hkp hq_11
  have hkp : Kp S S_12 (fun a => a = o) := by rw [← eS_12]; exact Kp_sN hkp hq_11
  have hz : ∀ g, pI S_12 g o = 0 := by rw [← eS_12, pI_sN]; exact hz
  have ha_13 : At S_12 q_11 19 := by rw [← eS_12]; exact At_nN _ _ _ _
  have hn_14 : pN S_12 q_11 = 40 := by rw [← eS_12]; exact pN_sN_new
  refine r_putR X hw hat_o 8 808 (some q_11) rfl tyX8 (by decide) rfl inn_X8_init_8 tyX8_ok nmX8 (by decide) (X.2.2.2.1 (.fieldLink RX8 17 "SilkMill$Store" "skeins" "[LSilkMill$Skein;") (by decide +kernel)) rfl (Or.inr ⟨rfl, hin, rfl⟩) (fun _ => rfl) rfl (fun _ => rfl) rfl (Nat.le_of_ble_eq_true rfl) (st_808 _ _) dX8_init_37 (fun H locs hw => ?_)
  generalize eS_15 : sR S_12 808 o (some q_11) = S_15 at hw
  have hat_o : At S_15 o 8 := by rw [← eS_15]; exact At_sR hat_o
  have ha_3 : At S_15 q_1 14 := by rw [← eS_15]; exact At_sR ha_3
  have ha_13 : At S_15 q_11 19 := by rw [← eS_15]; exact At_sR ha_13
  have hr_10 : pR S_15 807 o = some q_1 := by rw [← eS_15]; exact (pR_sR_nf (by decide)).trans hr_10
  have hn_4 : pN S_15 q_1 = 4 := by rw [← eS_15, pN_sR]; exact hn_4
  have hn_14 : pN S_15 q_11 = 40 := by rw [← eS_15, pN_sR]; exact hn_14
  have hkp : Kp S S_15 (fun a => a = o) := by rw [← eS_15]; exact Kp_sR hkp (Or.inl rfl)
  have hz : ∀ g, pI S_15 g o = 0 := by rw [← eS_15, pI_sR]; exact hz
  have hr_16 : pR S_15 808 o = some q_11 := by rw [← eS_15]; exact pR_sR_same
  refine lv_aload_n X.1 X.2.1 dX8_init_40 rfl (lv_at hl 0 rfl) ?_
  refine lv_bipush (v := 40) X.1 X.2.1 dX8_init_41 (by decide) ?_
  have hat_o_o := hat_o
  have ha_3_o := ha_3
  have ha_13_o := ha_13
  refine r_newI (N := 40) X hw 84 3 (X.2.2.2.1 (.arrayClass .int) (by decide +kernel)) (by decide) (by decide) (by decide) (Nat.le_of_ble_eq_true rfl) (Nat.le_of_ble_eq_true rfl) (Nat.le_of_ble_eq_true rfl) (Nat.le_of_ble_eq_true rfl) dX8_init_43 (fun q_17 H hq_17 hw => ?_)
  generalize eS_18 : sN S_15 q_17 14 40 = S_18 at hw
  have hat_o : At S_18 o 8 := by rw [← eS_18]; exact At_sN hat_o hq_17
  have ha_3 : At S_18 q_1 14 := by rw [← eS_18]; exact At_sN ha_3 hq_17
  have ha_13 : At S_18 q_11 19 := by rw [← eS_18]; exact At_sN ha_13 hq_17
  have hr_10 : pR S_18 807 o = some q_1 := by rw [← eS_18, pR_sN]; exact hr_10
  have hr_16 : pR S_18 808 o = some q_11 := by rw [← eS_18, pR_sN]; exact hr_16
  have hn_4 : pN S_18 q_1 = 4 := by rw [← eS_18]; exact (pN_sN_ne (At_old ha_3_o hq_17)).trans hn_4
  have hn_14 : pN S_18 q_11 = 40 := by rw [← eS_18]; exact (pN_sN_ne (At_old ha_13_o hq_17)).trans hn_14
  have nw_q_17 : q_17 ∉ pL S := Kp_new hkp hq_17
  have hkp : Kp S S_18 (fun a => a = o) := by rw [← eS_18]; exact Kp_sN hkp hq_17
  have hz : ∀ g, pI S_18 g o = 0 := by rw [← eS_18, pI_sN]; exact hz
  have ha_19 : At S_18 q_17 14 := by rw [← eS_18]; exact At_nN _ _ _ _
  have hn_20 : pN S_18 q_17 = 40 := by rw [← eS_18]; exact pN_sN_new
  refine r_putR X hw hat_o 9 809 (some q_17) rfl tyX8 (by decide) rfl inn_X8_init_8 tyX8_ok nmX8 (by decide) (X.2.2.2.1 (.fieldLink RX8 21 "SilkMill$Store" "faultSkeins" "[I") (by decide +kernel)) rfl (Or.inr ⟨rfl, hin, rfl⟩) (fun _ => rfl) rfl (fun _ => rfl) rfl (Nat.le_of_ble_eq_true rfl) (st_809 _ _) dX8_init_45 (fun H locs hw => ?_)
  generalize eS_21 : sR S_18 809 o (some q_17) = S_21 at hw
  have hat_o : At S_21 o 8 := by rw [← eS_21]; exact At_sR hat_o
  have ha_3 : At S_21 q_1 14 := by rw [← eS_21]; exact At_sR ha_3
  have ha_13 : At S_21 q_11 19 := by rw [← eS_21]; exact At_sR ha_13
  have ha_19 : At S_21 q_17 14 := by rw [← eS_21]; exact At_sR ha_19
  have hr_10 : pR S_21 807 o = some q_1 := by rw [← eS_21]; exact (pR_sR_nf (by decide)).trans hr_10
  have hr_16 : pR S_21 808 o = some q_11 := by rw [← eS_21]; exact (pR_sR_nf (by decide)).trans hr_16
  have hn_4 : pN S_21 q_1 = 4 := by rw [← eS_21, pN_sR]; exact hn_4
  have hn_14 : pN S_21 q_11 = 40 := by rw [← eS_21, pN_sR]; exact hn_14
  have hn_20 : pN S_21 q_17 = 40 := by rw [← eS_21, pN_sR]; exact hn_20
  have hkp : Kp S S_21 (fun a => a = o) := by rw [← eS_21]; exact Kp_sR hkp (Or.inl rfl)
  have hz : ∀ g, pI S_21 g o = 0 := by rw [← eS_21, pI_sR]; exact hz
  have hr_22 : pR S_21 809 o = some q_17 := by rw [← eS_21]; exact pR_sR_same
  refine lv_aload_n X.1 X.2.1 dX8_init_48 rfl (lv_at hl 0 rfl) ?_
  refine lv_bipush (v := 40) X.1 X.2.1 dX8_init_49 (by decide) ?_
  have hat_o_o := hat_o
  have ha_3_o := ha_3
  have ha_13_o := ha_13
  have ha_19_o := ha_19
  refine r_newI (N := 40) X hw 124 4 (X.2.2.2.1 (.arrayClass .int) (by decide +kernel)) (by decide) (by decide) (by decide) (Nat.le_of_ble_eq_true rfl) (Nat.le_of_ble_eq_true rfl) (Nat.le_of_ble_eq_true rfl) (Nat.le_of_ble_eq_true rfl) dX8_init_51 (fun q_23 H hq_23 hw => ?_)
  generalize eS_24 : sN S_21 q_23 14 40 = S_24 at hw
  have hat_o : At S_24 o 8 := by rw [← eS_24]; exact At_sN hat_o hq_23
  have ha_3 : At S_24 q_1 14 := by rw [← eS_24]; exact At_sN ha_3 hq_23
  have ha_13 : At S_24 q_11 19 := by rw [← eS_24]; exact At_sN ha_13 hq_23
  have ha_19 : At S_24 q_17 14 := by rw [← eS_24]; exact At_sN ha_19 hq_23
  have hr_10 : pR S_24 807 o = some q_1 := by rw [← eS_24, pR_sN]; exact hr_10
  have hr_16 : pR S_24 808 o = some q_11 := by rw [← eS_24, pR_sN]; exact hr_16
  have hr_22 : pR S_24 809 o = some q_17 := by rw [← eS_24, pR_sN]; exact hr_22
  have hn_4 : pN S_24 q_1 = 4 := by rw [← eS_24]; exact (pN_sN_ne (At_old ha_3_o hq_23)).trans hn_4
  have hn_14 : pN S_24 q_11 = 40 := by rw [← eS_24]; exact (pN_sN_ne (At_old ha_13_o hq_23)).trans hn_14
  have hn_20 : pN S_24 q_17 = 40 := by rw [← eS_24]; exact (pN_sN_ne (At_old ha_19_o hq_23)).trans hn_20
  have nw_q_23 : q_23 ∉ pL S := Kp_new hkp hq_23
  have hkp : Kp S S_24 (fun a => a = o) := by rw [← eS_24]; exact Kp_sN hkp hq_23
  have hz : ∀ g, pI S_24 g o = 0 := by rw [← eS_24, pI_sN]; exact hz
  have ha_25 : At S_24 q_23 14 := by rw [← eS_24]; exact At_nN _ _ _ _
  have hn_26 : pN S_24 q_23 = 40 := by rw [← eS_24]; exact pN_sN_new
  refine r_putR X hw hat_o 10 810 (some q_23) rfl tyX8 (by decide) rfl inn_X8_init_8 tyX8_ok nmX8 (by decide) (X.2.2.2.1 (.fieldLink RX8 24 "SilkMill$Store" "faultDays" "[I") (by decide +kernel)) rfl (Or.inr ⟨rfl, hin, rfl⟩) (fun _ => rfl) rfl (fun _ => rfl) rfl (Nat.le_of_ble_eq_true rfl) (st_810 _ _) dX8_init_53 (fun H locs hw => ?_)
  generalize eS_27 : sR S_24 810 o (some q_23) = S_27 at hw
  have hat_o : At S_27 o 8 := by rw [← eS_27]; exact At_sR hat_o
  have ha_3 : At S_27 q_1 14 := by rw [← eS_27]; exact At_sR ha_3
  have ha_13 : At S_27 q_11 19 := by rw [← eS_27]; exact At_sR ha_13
  have ha_19 : At S_27 q_17 14 := by rw [← eS_27]; exact At_sR ha_19
  have ha_25 : At S_27 q_23 14 := by rw [← eS_27]; exact At_sR ha_25
  have hr_10 : pR S_27 807 o = some q_1 := by rw [← eS_27]; exact (pR_sR_nf (by decide)).trans hr_10
  have hr_16 : pR S_27 808 o = some q_11 := by rw [← eS_27]; exact (pR_sR_nf (by decide)).trans hr_16
  have hr_22 : pR S_27 809 o = some q_17 := by rw [← eS_27]; exact (pR_sR_nf (by decide)).trans hr_22
  have hn_4 : pN S_27 q_1 = 4 := by rw [← eS_27, pN_sR]; exact hn_4
  have hn_14 : pN S_27 q_11 = 40 := by rw [← eS_27, pN_sR]; exact hn_14
  have hn_20 : pN S_27 q_17 = 40 := by rw [← eS_27, pN_sR]; exact hn_20
  have hn_26 : pN S_27 q_23 = 40 := by rw [← eS_27, pN_sR]; exact hn_26
  have hkp : Kp S S_27 (fun a => a = o) := by rw [← eS_27]; exact Kp_sR hkp (Or.inl rfl)
  have hz : ∀ g, pI S_27 g o = 0 := by rw [← eS_27, pI_sR]; exact hz
  have hr_28 : pR S_27 810 o = some q_23 := by rw [← eS_27]; exact pR_sR_same
  refine lv_aload_n X.1 X.2.1 dX8_init_56 rfl (lv_at hl 0 rfl) ?_
  refine lv_bipush (v := 40) X.1 X.2.1 dX8_init_57 (by decide) ?_
  have hat_o_o := hat_o
  have ha_3_o := ha_3
  have ha_13_o := ha_13
  have ha_19_o := ha_19
  have ha_25_o := ha_25
  refine r_newI (N := 40) X hw 164 5 (X.2.2.2.1 (.arrayClass .int) (by decide +kernel)) (by decide) (by decide) (by decide) (Nat.le_of_ble_eq_true rfl) (Nat.le_of_ble_eq_true rfl) (Nat.le_of_ble_eq_true rfl) (Nat.le_of_ble_eq_true rfl) dX8_init_59 (fun q_29 H hq_29 hw => ?_)
  generalize eS_30 : sN S_27 q_29 14 40 = S_30 at hw
  have hat_o : At S_30 o 8 := by rw [← eS_30]; exact At_sN hat_o hq_29
  have ha_3 : At S_30 q_1 14 := by rw [← eS_30]; exact At_sN ha_3 hq_29
  have ha_13 : At S_30 q_11 19 := by rw [← eS_30]; exact At_sN ha_13 hq_29
  have ha_19 : At S_30 q_17 14 := by rw [← eS_30]; exact At_sN ha_19 hq_29
  have ha_25 : At S_30 q_23 14 := by rw [← eS_30]; exact At_sN ha_25 hq_29
  have hr_10 : pR S_30 807 o = some q_1 := by rw [← eS_30, pR_sN]; exact hr_10
  have hr_16 : pR S_30 808 o = some q_11 := by rw [← eS_30, pR_sN]; exact hr_16
  have hr_22 : pR S_30 809 o = some q_17 := by rw [← eS_30, pR_sN]; exact hr_22
  have hr_28 : pR S_30 810 o = some q_23 := by rw [← eS_30, pR_sN]; exact hr_28
  have hn_4 : pN S_30 q_1 = 4 := by rw [← eS_30]; exact (pN_sN_ne (At_old ha_3_o hq_29)).trans hn_4
  have hn_14 : pN S_30 q_11 = 40 := by rw [← eS_30]; exact (pN_sN_ne (At_old ha_13_o hq_29)).trans hn_14
  have hn_20 : pN S_30 q_17 = 40 := by rw [← eS_30]; exact (pN_sN_ne (At_old ha_19_o hq_29)).trans hn_20
  have hn_26 : pN S_30 q_23 = 40 := by rw [← eS_30]; exact (pN_sN_ne (At_old ha_25_o hq_29)).trans hn_26
  have nw_q_29 : q_29 ∉ pL S := Kp_new hkp hq_29
  have hkp : Kp S S_30 (fun a => a = o) := by rw [← eS_30]; exact Kp_sN hkp hq_29
  have hz : ∀ g, pI S_30 g o = 0 := by rw [← eS_30, pI_sN]; exact hz
  have ha_31 : At S_30 q_29 14 := by rw [← eS_30]; exact At_nN _ _ _ _
  have hn_32 : pN S_30 q_29 = 40 := by rw [← eS_30]; exact pN_sN_new
  refine r_putR X hw hat_o 11 811 (some q_29) rfl tyX8 (by decide) rfl inn_X8_init_8 tyX8_ok nmX8 (by decide) (X.2.2.2.1 (.fieldLink RX8 27 "SilkMill$Store" "faultAmounts" "[I") (by decide +kernel)) rfl (Or.inr ⟨rfl, hin, rfl⟩) (fun _ => rfl) rfl (fun _ => rfl) rfl (Nat.le_of_ble_eq_true rfl) (st_811 _ _) dX8_init_61 (fun H locs hw => ?_)
  generalize eS_33 : sR S_30 811 o (some q_29) = S_33 at hw
  have hat_o : At S_33 o 8 := by rw [← eS_33]; exact At_sR hat_o
  have ha_3 : At S_33 q_1 14 := by rw [← eS_33]; exact At_sR ha_3
  have ha_13 : At S_33 q_11 19 := by rw [← eS_33]; exact At_sR ha_13
  have ha_19 : At S_33 q_17 14 := by rw [← eS_33]; exact At_sR ha_19
  have ha_25 : At S_33 q_23 14 := by rw [← eS_33]; exact At_sR ha_25
  have ha_31 : At S_33 q_29 14 := by rw [← eS_33]; exact At_sR ha_31
  have hr_10 : pR S_33 807 o = some q_1 := by rw [← eS_33]; exact (pR_sR_nf (by decide)).trans hr_10
  have hr_16 : pR S_33 808 o = some q_11 := by rw [← eS_33]; exact (pR_sR_nf (by decide)).trans hr_16
  have hr_22 : pR S_33 809 o = some q_17 := by rw [← eS_33]; exact (pR_sR_nf (by decide)).trans hr_22
  have hr_28 : pR S_33 810 o = some q_23 := by rw [← eS_33]; exact (pR_sR_nf (by decide)).trans hr_28
  have hn_4 : pN S_33 q_1 = 4 := by rw [← eS_33, pN_sR]; exact hn_4
  have hn_14 : pN S_33 q_11 = 40 := by rw [← eS_33, pN_sR]; exact hn_14
  have hn_20 : pN S_33 q_17 = 40 := by rw [← eS_33, pN_sR]; exact hn_20
  have hn_26 : pN S_33 q_23 = 40 := by rw [← eS_33, pN_sR]; exact hn_26
  have hn_32 : pN S_33 q_29 = 40 := by rw [← eS_33, pN_sR]; exact hn_32
  have hkp : Kp S S_33 (fun a => a = o) := by rw [← eS_33]; exact Kp_sR hkp (Or.inl rfl)
  have hz : ∀ g, pI S_33 g o = 0 := by rw [← eS_33, pI_sR]; exact hz
  have hr_34 : pR S_33 811 o = some q_29 := by rw [← eS_33]; exact pR_sR_same
  refine lv_aload_n X.1 X.2.1 dX8_init_64 rfl (lv_at hl 0 rfl) ?_
  have hat_o_o := hat_o
  have ha_3_o := ha_3
  have ha_13_o := ha_13
  have ha_19_o := ha_19
  have ha_25_o := ha_25
  have ha_31_o := ha_31
  refine r_new X hw 2 172 6 tyX2 (by decide) rfl inn_X8_init_2 tyX2_ok (X.2.2.2.1 (.classLink RX8 30 RX2) (by decide +kernel)) (X.2.2.2.1 (.instantiable RX2 8) (by decide +kernel)) (X.2.2.2.1 (.initialized RX2) (by decide +kernel)) zo_2 zd_2 (Nat.le_of_ble_eq_true rfl) (Nat.le_of_ble_eq_true rfl) (Nat.le_of_ble_eq_true rfl) (Nat.le_of_ble_eq_true rfl) dX8_init_65 (fun q_35 H hq_35 hw => ?_)
  have ne_o_q_35 : o ≠ q_35 := At_old hat_o_o hq_35
  have ne_q_1_q_35 : q_1 ≠ q_35 := At_old ha_3_o hq_35
  have ne_q_11_q_35 : q_11 ≠ q_35 := At_old ha_13_o hq_35
  have ne_q_17_q_35 : q_17 ≠ q_35 := At_old ha_19_o hq_35
  have ne_q_23_q_35 : q_23 ≠ q_35 := At_old ha_25_o hq_35
  have ne_q_29_q_35 : q_29 ≠ q_35 := At_old ha_31_o hq_35
  generalize eS_36 : sO S_33 q_35 2 = S_36 at hw
  have hat_o : At S_36 o 8 := by rw [← eS_36]; exact At_sO hat_o hq_35
  have ha_3 : At S_36 q_1 14 := by rw [← eS_36]; exact At_sO ha_3 hq_35
  have ha_13 : At S_36 q_11 19 := by rw [← eS_36]; exact At_sO ha_13 hq_35
  have ha_19 : At S_36 q_17 14 := by rw [← eS_36]; exact At_sO ha_19 hq_35
  have ha_25 : At S_36 q_23 14 := by rw [← eS_36]; exact At_sO ha_25 hq_35
  have ha_31 : At S_36 q_29 14 := by rw [← eS_36]; exact At_sO ha_31 hq_35
  have hr_10 : pR S_36 807 o = some q_1 := by rw [← eS_36]; exact (pR_sO_ne (At_old hat_o_o hq_35)).trans hr_10
  have hr_16 : pR S_36 808 o = some q_11 := by rw [← eS_36]; exact (pR_sO_ne (At_old hat_o_o hq_35)).trans hr_16
  have hr_22 : pR S_36 809 o = some q_17 := by rw [← eS_36]; exact (pR_sO_ne (At_old hat_o_o hq_35)).trans hr_22
  have hr_28 : pR S_36 810 o = some q_23 := by rw [← eS_36]; exact (pR_sO_ne (At_old hat_o_o hq_35)).trans hr_28
  have hr_34 : pR S_36 811 o = some q_29 := by rw [← eS_36]; exact (pR_sO_ne (At_old hat_o_o hq_35)).trans hr_34
  have hn_4 : pN S_36 q_1 = 4 := by rw [← eS_36, pN_sO]; exact hn_4
  have hn_14 : pN S_36 q_11 = 40 := by rw [← eS_36, pN_sO]; exact hn_14
  have hn_20 : pN S_36 q_17 = 40 := by rw [← eS_36, pN_sO]; exact hn_20
  have hn_26 : pN S_36 q_23 = 40 := by rw [← eS_36, pN_sO]; exact hn_26
  have hn_32 : pN S_36 q_29 = 40 := by rw [← eS_36, pN_sO]; exact hn_32
  have nw_q_35 : q_35 ∉ pL S := Kp_new hkp hq_35
  have hkp : Kp S S_36 (fun a => a = o) := by rw [← eS_36]; exact Kp_sO hkp hq_35
  have hz : ∀ g, pI S_36 g o = 0 := fun g => by rw [← eS_36]; exact (pI_sO_ne (At_old hat_o_o hq_35)).trans (hz g)
  have ha_37 : At S_36 q_35 2 := by rw [← eS_36]; exact At_nO _ _ _
  have hz_38 : ∀ g, pI S_36 g q_35 = 0 := fun g => by rw [← eS_36]; exact pI_sO_new
  refine lv_dup X.1 X.2.1 dX8_init_68 rfl ?_
  refine k_v (rm := { frames := 1, cells := 3, slots := 42, locals := 40 }) (av := [.ref q_35]) X hw (va_runIN (As := []) (rest := [.ref q_35, .ref o]) (cfix X) (c_X2_init l G cy S_36 _ q_35  ha_37 hz_38) ⟨(va_cnB (host := RX11) 0 X.2.2.2.1 gX8_init_X2_init_n32 rfl rfl rfl (X.2.2.2.2.2.2.2.2.1 (RX8, 32, yX2_init) (by decide +kernel)) (X.2.2.2.1 (.initialized RX2) (by decide +kernel)) (by decide +kernel) ⟨Nat.le_of_ble_eq_true rfl, Nat.le_of_ble_eq_true rfl⟩), rfl, X.2.2.2.1 (.instanceMethod yX2_init) (by decide +kernel)⟩ (pre_S X hw _) rfl rfl hl.1 rfl (lv_room (Nat.le_of_ble_eq_true rfl)) dX8_init_69 ⟨Nat.le_of_ble_eq_true rfl, Nat.le_of_ble_eq_true rfl⟩) 9 214 (Nat.le_of_ble_eq_true rfl) (Nat.le_of_ble_eq_true rfl) (fun S2 H locs hp hw hfr hnw => ?_)
  obtain ⟨hk2, hf_q_35⟩ := hp
  generalize eq_Sc_69_39 : S2 = Sc_69_39 at hk2 hf_q_35 hw
  have hat_o_c := hat_o
  have ha_3_c := ha_3
  have ha_13_c := ha_13
  have ha_19_c := ha_19
  have ha_25_c := ha_25
  have ha_31_c := ha_31
  have ha_37_c := ha_37
  have hat_o : At Sc_69_39 o 8 := Kp_at hk2 hat_o_c
  have ha_3 : At Sc_69_39 q_1 14 := Kp_at hk2 ha_3_c
  have ha_13 : At Sc_69_39 q_11 19 := Kp_at hk2 ha_13_c
  have ha_19 : At Sc_69_39 q_17 14 := Kp_at hk2 ha_19_c
  have ha_25 : At Sc_69_39 q_23 14 := Kp_at hk2 ha_25_c
  have ha_31 : At Sc_69_39 q_29 14 := Kp_at hk2 ha_31_c
  have ha_37 : At Sc_69_39 q_35 2 := Kp_at hk2 ha_37_c
  have hr_10 : pR Sc_69_39 807 o = some q_1 := ((hk2.2 o hat_o_c.1 ne_o_q_35).2.1 807).trans hr_10
  have hr_16 : pR Sc_69_39 808 o = some q_11 := ((hk2.2 o hat_o_c.1 ne_o_q_35).2.1 808).trans hr_16
  have hr_22 : pR Sc_69_39 809 o = some q_17 := ((hk2.2 o hat_o_c.1 ne_o_q_35).2.1 809).trans hr_22
  have hr_28 : pR Sc_69_39 810 o = some q_23 := ((hk2.2 o hat_o_c.1 ne_o_q_35).2.1 810).trans hr_28
  have hr_34 : pR Sc_69_39 811 o = some q_29 := ((hk2.2 o hat_o_c.1 ne_o_q_35).2.1 811).trans hr_34
  have hn_4 : pN Sc_69_39 q_1 = 4 := ((hk2.2 q_1 ha_3_c.1 ne_q_1_q_35).2.2.1).trans hn_4
  have hn_14 : pN Sc_69_39 q_11 = 40 := ((hk2.2 q_11 ha_13_c.1 ne_q_11_q_35).2.2.1).trans hn_14
  have hn_20 : pN Sc_69_39 q_17 = 40 := ((hk2.2 q_17 ha_19_c.1 ne_q_17_q_35).2.2.1).trans hn_20
  have hn_26 : pN Sc_69_39 q_23 = 40 := ((hk2.2 q_23 ha_25_c.1 ne_q_23_q_35).2.2.1).trans hn_26
  have hn_32 : pN Sc_69_39 q_29 = 40 := ((hk2.2 q_29 ha_31_c.1 ne_q_29_q_35).2.2.1).trans hn_32
  have hz : ∀ g, pI Sc_69_39 g o = 0 := fun g => ((hk2.2 o hat_o_c.1 ne_o_q_35).1 g).trans (hz g)
  have hkp : Kp S Sc_69_39 (fun a => a = o) := Kp_call hkp hk2 (Or.inr nw_q_35)
  refine r_putR X hw hat_o 12 812 (some q_35) rfl tyX8 (by decide) rfl inn_X8_init_8 tyX8_ok nmX8 (by decide) (X.2.2.2.1 (.fieldLink RX8 33 "SilkMill$Store" "mixer" "LSilkMill$Mixer;") (by decide +kernel)) rfl (Or.inr ⟨rfl, hin, rfl⟩) (fun _ => rfl) rfl (fun _ => rfl) rfl (Nat.le_of_ble_eq_true rfl) (st_812 _ _) dX8_init_72 (fun H locs hw => ?_)
  generalize eS_40 : sR Sc_69_39 812 o (some q_35) = S_40 at hw
  have hat_o : At S_40 o 8 := by rw [← eS_40]; exact At_sR hat_o
  have ha_3 : At S_40 q_1 14 := by rw [← eS_40]; exact At_sR ha_3
  have ha_13 : At S_40 q_11 19 := by rw [← eS_40]; exact At_sR ha_13
  have ha_19 : At S_40 q_17 14 := by rw [← eS_40]; exact At_sR ha_19
  have ha_25 : At S_40 q_23 14 := by rw [← eS_40]; exact At_sR ha_25
  have ha_31 : At S_40 q_29 14 := by rw [← eS_40]; exact At_sR ha_31
  have ha_37 : At S_40 q_35 2 := by rw [← eS_40]; exact At_sR ha_37
  have hr_10 : pR S_40 807 o = some q_1 := by rw [← eS_40]; exact (pR_sR_nf (by decide)).trans hr_10
  have hr_16 : pR S_40 808 o = some q_11 := by rw [← eS_40]; exact (pR_sR_nf (by decide)).trans hr_16
  have hr_22 : pR S_40 809 o = some q_17 := by rw [← eS_40]; exact (pR_sR_nf (by decide)).trans hr_22
  have hr_28 : pR S_40 810 o = some q_23 := by rw [← eS_40]; exact (pR_sR_nf (by decide)).trans hr_28
  have hr_34 : pR S_40 811 o = some q_29 := by rw [← eS_40]; exact (pR_sR_nf (by decide)).trans hr_34
  have hn_4 : pN S_40 q_1 = 4 := by rw [← eS_40, pN_sR]; exact hn_4
  have hn_14 : pN S_40 q_11 = 40 := by rw [← eS_40, pN_sR]; exact hn_14
  have hn_20 : pN S_40 q_17 = 40 := by rw [← eS_40, pN_sR]; exact hn_20
  have hn_26 : pN S_40 q_23 = 40 := by rw [← eS_40, pN_sR]; exact hn_26
  have hn_32 : pN S_40 q_29 = 40 := by rw [← eS_40, pN_sR]; exact hn_32
  have hkp : Kp S S_40 (fun a => a = o) := by rw [← eS_40]; exact Kp_sR hkp (Or.inl rfl)
  have hz : ∀ g, pI S_40 g o = 0 := by rw [← eS_40, pI_sR]; exact hz
  have hr_41 : pR S_40 812 o = some q_35 := by rw [← eS_40]; exact pR_sR_same
  exact ret_v X hw hr hlocks (Nat.le_of_ble_eq_true rfl) (Nat.le_of_ble_eq_true rfl) ⟨hkp, hat_o, fun g _ => hz g, ⟨_, hr_10, ha_3, hn_4⟩, _, hr_41, ha_37⟩ dX8_init_75
set_option maxHeartbeats 4000000 in
set_option maxRecDepth 100000 in
theorem c_X4_init (l : Launch) (G : va_G) (cy : Nat → ClassId) (S : PS) (sz : Nat) (o : Nat) (a1 : Int32) (a2 : Int32) (a3 : Int32) (hat_o : At S o 4) (hz : ∀ g, pI S g o = 0) : Cv l yX4_init wsX4_init ({ frames := 4, cells := 40, slots := 4000, locals := 160 }) G cy S sz [.ref o, .int (a1), .int (a2), .int (a3)] (fun (S9 : PS) => Kp S S9 (fun a => a = o) ∧ At S9 o 4) := by
  refine ent_m (cc := cX4_init) (maxL := 4) (ret := none) (by decide) rfl (Nat.le_of_ble_eq_true rfl) ?_
  intro p e s m below meth c ls X hr hlocks hin hw hl hsz
  subst hsz
  have X : Cx p c cX4_init 4 s [.ref o, .int (a1), .int (a2), .int (a3)].toArray wsX4_init RX4 m G cy (AS S s.heap.size) := X
  have hl : lv_has ls 4 [(0, .ref o), (1, .int (a1)), (2, .int (a2)), (3, .int (a3))] := hl
  have hkp : Kp S S (fun a => a = o) := Kp_rf S _
  refine lv_aload_n X.1 X.2.1 dX4_init_0 rfl (lv_at hl 0 rfl) ?_
  refine W.objInit X.1 X.2.1 X.2.2.2.2.1 (X.2.2.2.1 (.methodLink RX4 3 objectInit) (by decide +kernel)) (X.2.2.2.1 (.instanceMethod objectInit) (by decide +kernel)) (X.2.2.2.1 (.code objectInit ⟨#[0xb1]⟩ 1 none) (by decide +kernel)) rfl (hl.1.trans X.2.2.1.symm) rfl dX4_init_1 (Nat.le_of_ble_eq_true rfl) (Nat.le_of_ble_eq_true rfl) ?_
  refine W.eq (g2 := F0 m 4 ls ([])) rfl ?_
  refine lv_aload_n X.1 X.2.1 dX4_init_4 rfl (lv_at hl 0 rfl) ?_
  have hat_o_o := hat_o
  refine r_new X hw 5 3 1 tyX5 (by decide) rfl inn_X4_init_5 tyX5_ok (X.2.2.2.1 (.classLink RX4 9 RX5) (by decide +kernel)) (X.2.2.2.1 (.instantiable RX5 3) (by decide +kernel)) (X.2.2.2.1 (.initialized RX5) (by decide +kernel)) zo_5 zd_5 (Nat.le_of_ble_eq_true rfl) (Nat.le_of_ble_eq_true rfl) (Nat.le_of_ble_eq_true rfl) (Nat.le_of_ble_eq_true rfl) dX4_init_5 (fun q_1 H hq_1 hw => ?_)
  have ne_o_q_1 : o ≠ q_1 := At_old hat_o_o hq_1
  generalize eS_2 : sO S q_1 5 = S_2 at hw
  have hat_o : At S_2 o 4 := by rw [← eS_2]; exact At_sO hat_o hq_1
  have nw_q_1 : q_1 ∉ pL S := Kp_new hkp hq_1
  have hkp : Kp S S_2 (fun a => a = o) := by rw [← eS_2]; exact Kp_sO hkp hq_1
  have ha_3 : At S_2 q_1 5 := by rw [← eS_2]; exact At_nO _ _ _
  have hz_4 : ∀ g, pI S_2 g q_1 = 0 := fun g => by rw [← eS_2]; exact pI_sO_new
  refine lv_dup X.1 X.2.1 dX4_init_8 rfl ?_
  refine lv_sipush (v := 600) X.1 X.2.1 dX4_init_9 (by decide) ?_
  refine k_v (rm := { frames := 2, cells := 1, slots := 600, locals := 80 }) (av := [.ref q_1, .int 600]) X hw (va_runI (As := [.int 600]) (rest := [.ref q_1, .ref o]) (cfix X) (c_X5_init_600 l G cy S_2 _ q_1  ha_3 hz_4) (cwI 1 X.2.2.2.1 gX4_init_X5_init rfl rfl rfl (X.2.2.2.1 (.initialized RX5) (by decide +kernel)) (X.2.2.2.1 (.methodLink RX4 11 yX5_init) (by decide +kernel)) (X.2.2.2.1 (.instanceMethod yX5_init) (by decide +kernel)) rfl (by decide +kernel) ⟨Nat.le_of_ble_eq_true rfl, Nat.le_of_ble_eq_true rfl⟩) (pre_S X hw _) rfl rfl hl.1 rfl (lv_room (Nat.le_of_ble_eq_true rfl)) dX4_init_12 ⟨Nat.le_of_ble_eq_true rfl, Nat.le_of_ble_eq_true rfl⟩) 2 603 (Nat.le_of_ble_eq_true rfl) (Nat.le_of_ble_eq_true rfl) (fun S2 H locs hp hw hfr hnw => ?_)
  obtain ⟨hk2, hf_q_1⟩ := hp
  generalize eq_Sc_12_5 : S2 = Sc_12_5 at hk2 hf_q_1 hw
  have hat_o_c := hat_o
  have ha_3_c := ha_3
  have hat_o : At Sc_12_5 o 4 := Kp_at hk2 hat_o_c
  have ha_3 : At Sc_12_5 q_1 5 := Kp_at hk2 ha_3_c
  have hkp : Kp S Sc_12_5 (fun a => a = o) := Kp_call hkp hk2 (Or.inr nw_q_1)
  refine r_putR X hw hat_o 0 400 (some q_1) rfl tyX4 (by decide) rfl inn_X4_init_4 tyX4_ok nmX4 (by decide) (X.2.2.2.1 (.fieldLink RX4 14 "SilkMill$Pot" "basket" "LSilkMill$Row;") (by decide +kernel)) rfl (Or.inr ⟨rfl, hin, rfl⟩) (fun _ => rfl) rfl (fun _ => rfl) rfl (Nat.le_of_ble_eq_true rfl) (st_400 _ _) dX4_init_15 (fun H locs hw => ?_)
  generalize eS_6 : sR Sc_12_5 400 o (some q_1) = S_6 at hw
  have hat_o : At S_6 o 4 := by rw [← eS_6]; exact At_sR hat_o
  have ha_3 : At S_6 q_1 5 := by rw [← eS_6]; exact At_sR ha_3
  have hkp : Kp S S_6 (fun a => a = o) := by rw [← eS_6]; exact Kp_sR hkp (Or.inl rfl)
  have hr_7 : pR S_6 400 o = some q_1 := by rw [← eS_6]; exact pR_sR_same
  refine lv_aload_n X.1 X.2.1 dX4_init_18 rfl (lv_at hl 0 rfl) ?_
  have hat_o_o := hat_o
  have ha_3_o := ha_3
  refine r_new X hw 5 606 3 tyX5 (by decide) rfl inn_X4_init_5 tyX5_ok (X.2.2.2.1 (.classLink RX4 9 RX5) (by decide +kernel)) (X.2.2.2.1 (.instantiable RX5 3) (by decide +kernel)) (X.2.2.2.1 (.initialized RX5) (by decide +kernel)) zo_5 zd_5 (Nat.le_of_ble_eq_true rfl) (Nat.le_of_ble_eq_true rfl) (Nat.le_of_ble_eq_true rfl) (Nat.le_of_ble_eq_true rfl) dX4_init_19 (fun q_8 H hq_8 hw => ?_)
  have ne_o_q_8 : o ≠ q_8 := At_old hat_o_o hq_8
  have ne_q_1_q_8 : q_1 ≠ q_8 := At_old ha_3_o hq_8
  generalize eS_9 : sO S_6 q_8 5 = S_9 at hw
  have hat_o : At S_9 o 4 := by rw [← eS_9]; exact At_sO hat_o hq_8
  have ha_3 : At S_9 q_1 5 := by rw [← eS_9]; exact At_sO ha_3 hq_8
  have hr_7 : pR S_9 400 o = some q_1 := by rw [← eS_9]; exact (pR_sO_ne (At_old hat_o_o hq_8)).trans hr_7
  have nw_q_8 : q_8 ∉ pL S := Kp_new hkp hq_8
  have hkp : Kp S S_9 (fun a => a = o) := by rw [← eS_9]; exact Kp_sO hkp hq_8
  have ha_10 : At S_9 q_8 5 := by rw [← eS_9]; exact At_nO _ _ _
  have hz_11 : ∀ g, pI S_9 g q_8 = 0 := fun g => by rw [← eS_9]; exact pI_sO_new
  refine lv_dup X.1 X.2.1 dX4_init_22 rfl ?_
  refine lv_bipush (v := 12) X.1 X.2.1 dX4_init_23 (by decide) ?_
  refine k_v (rm := { frames := 2, cells := 1, slots := 600, locals := 80 }) (av := [.ref q_8, .int 12]) X hw (va_runI (As := [.int 12]) (rest := [.ref q_8, .ref o]) (cfix X) (c_X5_init_12 l G cy S_9 _ q_8  ha_10 hz_11) (cwI 1 X.2.2.2.1 gX4_init_X5_init rfl rfl rfl (X.2.2.2.1 (.initialized RX5) (by decide +kernel)) (X.2.2.2.1 (.methodLink RX4 11 yX5_init) (by decide +kernel)) (X.2.2.2.1 (.instanceMethod yX5_init) (by decide +kernel)) rfl (by decide +kernel) ⟨Nat.le_of_ble_eq_true rfl, Nat.le_of_ble_eq_true rfl⟩) (pre_S X hw _) rfl rfl hl.1 rfl (lv_room (Nat.le_of_ble_eq_true rfl)) dX4_init_25 ⟨Nat.le_of_ble_eq_true rfl, Nat.le_of_ble_eq_true rfl⟩) 4 1206 (Nat.le_of_ble_eq_true rfl) (Nat.le_of_ble_eq_true rfl) (fun S2 H locs hp hw hfr hnw => ?_)
  obtain ⟨hk2, hf_q_8⟩ := hp
  generalize eq_Sc_25_12 : S2 = Sc_25_12 at hk2 hf_q_8 hw
  have hat_o_c := hat_o
  have ha_3_c := ha_3
  have ha_10_c := ha_10
  have hat_o : At Sc_25_12 o 4 := Kp_at hk2 hat_o_c
  have ha_3 : At Sc_25_12 q_1 5 := Kp_at hk2 ha_3_c
  have ha_10 : At Sc_25_12 q_8 5 := Kp_at hk2 ha_10_c
  have hr_7 : pR Sc_25_12 400 o = some q_1 := ((hk2.2 o hat_o_c.1 ne_o_q_8).2.1 400).trans hr_7
  have hkp : Kp S Sc_25_12 (fun a => a = o) := Kp_call hkp hk2 (Or.inr nw_q_8)
  refine r_putR X hw hat_o 1 401 (some q_8) rfl tyX4 (by decide) rfl inn_X4_init_4 tyX4_ok nmX4 (by decide) (X.2.2.2.1 (.fieldLink RX4 20 "SilkMill$Pot" "ends" "LSilkMill$Row;") (by decide +kernel)) rfl (Or.inr ⟨rfl, hin, rfl⟩) (fun _ => rfl) rfl (fun _ => rfl) rfl (Nat.le_of_ble_eq_true rfl) (st_401 _ _) dX4_init_28 (fun H locs hw => ?_)
  generalize eS_13 : sR Sc_25_12 401 o (some q_8) = S_13 at hw
  have hat_o : At S_13 o 4 := by rw [← eS_13]; exact At_sR hat_o
  have ha_3 : At S_13 q_1 5 := by rw [← eS_13]; exact At_sR ha_3
  have ha_10 : At S_13 q_8 5 := by rw [← eS_13]; exact At_sR ha_10
  have hr_7 : pR S_13 400 o = some q_1 := by rw [← eS_13]; exact (pR_sR_nf (by decide)).trans hr_7
  have hkp : Kp S S_13 (fun a => a = o) := by rw [← eS_13]; exact Kp_sR hkp (Or.inl rfl)
  have hr_14 : pR S_13 401 o = some q_8 := by rw [← eS_13]; exact pR_sR_same
  refine lv_aload_n X.1 X.2.1 dX4_init_31 rfl (lv_at hl 0 rfl) ?_
  have hat_o_o := hat_o
  have ha_3_o := ha_3
  have ha_10_o := ha_10
  refine r_new X hw 5 1209 5 tyX5 (by decide) rfl inn_X4_init_5 tyX5_ok (X.2.2.2.1 (.classLink RX4 9 RX5) (by decide +kernel)) (X.2.2.2.1 (.instantiable RX5 3) (by decide +kernel)) (X.2.2.2.1 (.initialized RX5) (by decide +kernel)) zo_5 zd_5 (Nat.le_of_ble_eq_true rfl) (Nat.le_of_ble_eq_true rfl) (Nat.le_of_ble_eq_true rfl) (Nat.le_of_ble_eq_true rfl) dX4_init_32 (fun q_15 H hq_15 hw => ?_)
  have ne_o_q_15 : o ≠ q_15 := At_old hat_o_o hq_15
  have ne_q_1_q_15 : q_1 ≠ q_15 := At_old ha_3_o hq_15
  have ne_q_8_q_15 : q_8 ≠ q_15 := At_old ha_10_o hq_15
  generalize eS_16 : sO S_13 q_15 5 = S_16 at hw
  have hat_o : At S_16 o 4 := by rw [← eS_16]; exact At_sO hat_o hq_15
  have ha_3 : At S_16 q_1 5 := by rw [← eS_16]; exact At_sO ha_3 hq_15
  have ha_10 : At S_16 q_8 5 := by rw [← eS_16]; exact At_sO ha_10 hq_15
  have hr_7 : pR S_16 400 o = some q_1 := by rw [← eS_16]; exact (pR_sO_ne (At_old hat_o_o hq_15)).trans hr_7
  have hr_14 : pR S_16 401 o = some q_8 := by rw [← eS_16]; exact (pR_sO_ne (At_old hat_o_o hq_15)).trans hr_14
  have nw_q_15 : q_15 ∉ pL S := Kp_new hkp hq_15
  have hkp : Kp S S_16 (fun a => a = o) := by rw [← eS_16]; exact Kp_sO hkp hq_15
  have ha_17 : At S_16 q_15 5 := by rw [← eS_16]; exact At_nO _ _ _
  have hz_18 : ∀ g, pI S_16 g q_15 = 0 := fun g => by rw [← eS_16]; exact pI_sO_new
  refine lv_dup X.1 X.2.1 dX4_init_35 rfl ?_
  refine lv_sipush (v := 600) X.1 X.2.1 dX4_init_36 (by decide) ?_
  refine k_v (rm := { frames := 2, cells := 1, slots := 600, locals := 80 }) (av := [.ref q_15, .int 600]) X hw (va_runI (As := [.int 600]) (rest := [.ref q_15, .ref o]) (cfix X) (c_X5_init_600 l G cy S_16 _ q_15  ha_17 hz_18) (cwI 1 X.2.2.2.1 gX4_init_X5_init rfl rfl rfl (X.2.2.2.1 (.initialized RX5) (by decide +kernel)) (X.2.2.2.1 (.methodLink RX4 11 yX5_init) (by decide +kernel)) (X.2.2.2.1 (.instanceMethod yX5_init) (by decide +kernel)) rfl (by decide +kernel) ⟨Nat.le_of_ble_eq_true rfl, Nat.le_of_ble_eq_true rfl⟩) (pre_S X hw _) rfl rfl hl.1 rfl (lv_room (Nat.le_of_ble_eq_true rfl)) dX4_init_39 ⟨Nat.le_of_ble_eq_true rfl, Nat.le_of_ble_eq_true rfl⟩) 6 1809 (Nat.le_of_ble_eq_true rfl) (Nat.le_of_ble_eq_true rfl) (fun S2 H locs hp hw hfr hnw => ?_)
  obtain ⟨hk2, hf_q_15⟩ := hp
  generalize eq_Sc_39_19 : S2 = Sc_39_19 at hk2 hf_q_15 hw
  have hat_o_c := hat_o
  have ha_3_c := ha_3
  have ha_10_c := ha_10
  have ha_17_c := ha_17
  have hat_o : At Sc_39_19 o 4 := Kp_at hk2 hat_o_c
  have ha_3 : At Sc_39_19 q_1 5 := Kp_at hk2 ha_3_c
  have ha_10 : At Sc_39_19 q_8 5 := Kp_at hk2 ha_10_c
  have ha_17 : At Sc_39_19 q_15 5 := Kp_at hk2 ha_17_c
  have hr_7 : pR Sc_39_19 400 o = some q_1 := ((hk2.2 o hat_o_c.1 ne_o_q_15).2.1 400).trans hr_7
  have hr_14 : pR Sc_39_19 401 o = some q_8 := ((hk2.2 o hat_o_c.1 ne_o_q_15).2.1 401).trans hr_14
  have hkp : Kp S Sc_39_19 (fun a => a = o) := Kp_call hkp hk2 (Or.inr nw_q_15)
  refine r_putR X hw hat_o 2 402 (some q_15) rfl tyX4 (by decide) rfl inn_X4_init_4 tyX4_ok nmX4 (by decide) (X.2.2.2.1 (.fieldLink RX4 23 "SilkMill$Pot" "lost" "LSilkMill$Row;") (by decide +kernel)) rfl (Or.inr ⟨rfl, hin, rfl⟩) (fun _ => rfl) rfl (fun _ => rfl) rfl (Nat.le_of_ble_eq_true rfl) (st_402 _ _) dX4_init_42 (fun H locs hw => ?_)
  generalize eS_20 : sR Sc_39_19 402 o (some q_15) = S_20 at hw
  have hat_o : At S_20 o 4 := by rw [← eS_20]; exact At_sR hat_o
  have ha_3 : At S_20 q_1 5 := by rw [← eS_20]; exact At_sR ha_3
  have ha_10 : At S_20 q_8 5 := by rw [← eS_20]; exact At_sR ha_10
  have ha_17 : At S_20 q_15 5 := by rw [← eS_20]; exact At_sR ha_17
  have hr_7 : pR S_20 400 o = some q_1 := by rw [← eS_20]; exact (pR_sR_nf (by decide)).trans hr_7
  have hr_14 : pR S_20 401 o = some q_8 := by rw [← eS_20]; exact (pR_sR_nf (by decide)).trans hr_14
  have hkp : Kp S S_20 (fun a => a = o) := by rw [← eS_20]; exact Kp_sR hkp (Or.inl rfl)
  have hr_21 : pR S_20 402 o = some q_15 := by rw [← eS_20]; exact pR_sR_same
  refine lv_aload_n X.1 X.2.1 dX4_init_45 rfl (lv_at hl 0 rfl) ?_
  have hat_o_o := hat_o
  have ha_3_o := ha_3
  have ha_10_o := ha_10
  have ha_17_o := ha_17
  refine r_new X hw 9 1818 7 tyX9 (by decide) rfl inn_X4_init_9 tyX9_ok (X.2.2.2.1 (.classLink RX4 26 RX9) (by decide +kernel)) (X.2.2.2.1 (.instantiable RX9 9) (by decide +kernel)) (X.2.2.2.1 (.initialized RX9) (by decide +kernel)) zo_9 zd_9 (Nat.le_of_ble_eq_true rfl) (Nat.le_of_ble_eq_true rfl) (Nat.le_of_ble_eq_true rfl) (Nat.le_of_ble_eq_true rfl) dX4_init_46 (fun q_22 H hq_22 hw => ?_)
  have ne_o_q_22 : o ≠ q_22 := At_old hat_o_o hq_22
  have ne_q_1_q_22 : q_1 ≠ q_22 := At_old ha_3_o hq_22
  have ne_q_8_q_22 : q_8 ≠ q_22 := At_old ha_10_o hq_22
  have ne_q_15_q_22 : q_15 ≠ q_22 := At_old ha_17_o hq_22
  generalize eS_23 : sO S_20 q_22 9 = S_23 at hw
  have hat_o : At S_23 o 4 := by rw [← eS_23]; exact At_sO hat_o hq_22
  have ha_3 : At S_23 q_1 5 := by rw [← eS_23]; exact At_sO ha_3 hq_22
  have ha_10 : At S_23 q_8 5 := by rw [← eS_23]; exact At_sO ha_10 hq_22
  have ha_17 : At S_23 q_15 5 := by rw [← eS_23]; exact At_sO ha_17 hq_22
  have hr_7 : pR S_23 400 o = some q_1 := by rw [← eS_23]; exact (pR_sO_ne (At_old hat_o_o hq_22)).trans hr_7
  have hr_14 : pR S_23 401 o = some q_8 := by rw [← eS_23]; exact (pR_sO_ne (At_old hat_o_o hq_22)).trans hr_14
  have hr_21 : pR S_23 402 o = some q_15 := by rw [← eS_23]; exact (pR_sO_ne (At_old hat_o_o hq_22)).trans hr_21
  have nw_q_22 : q_22 ∉ pL S := Kp_new hkp hq_22
  have hkp : Kp S S_23 (fun a => a = o) := by rw [← eS_23]; exact Kp_sO hkp hq_22
  have ha_24 : At S_23 q_22 9 := by rw [← eS_23]; exact At_nO _ _ _
  have hz_25 : ∀ g, pI S_23 g q_22 = 0 := fun g => by rw [← eS_23]; exact pI_sO_new
  refine lv_dup X.1 X.2.1 dX4_init_49 rfl ?_
  refine k_v (rm := { frames := 1, cells := 6, slots := 728, locals := 40 }) (av := [.ref q_22]) X hw (va_runI (As := []) (rest := [.ref q_22, .ref o]) (cfix X) (c_X9_init l G cy S_23 _ q_22  ha_24 hz_25) (cwI 0 X.2.2.2.1 gX4_init_X9_init rfl rfl rfl (X.2.2.2.1 (.initialized RX9) (by decide +kernel)) (X.2.2.2.1 (.methodLink RX4 28 yX9_init) (by decide +kernel)) (X.2.2.2.1 (.instanceMethod yX9_init) (by decide +kernel)) rfl (by decide +kernel) ⟨Nat.le_of_ble_eq_true rfl, Nat.le_of_ble_eq_true rfl⟩) (pre_S X hw _) rfl rfl hl.1 rfl (lv_room (Nat.le_of_ble_eq_true rfl)) dX4_init_50 ⟨Nat.le_of_ble_eq_true rfl, Nat.le_of_ble_eq_true rfl⟩) 13 2546 (Nat.le_of_ble_eq_true rfl) (Nat.le_of_ble_eq_true rfl) (fun S2 H locs hp hw hfr hnw => ?_)
  obtain ⟨hk2, hf_q_22⟩ := hp
  generalize eq_Sc_50_26 : S2 = Sc_50_26 at hk2 hf_q_22 hw
  have hat_o_c := hat_o
  have ha_3_c := ha_3
  have ha_10_c := ha_10
  have ha_17_c := ha_17
  have ha_24_c := ha_24
  have hat_o : At Sc_50_26 o 4 := Kp_at hk2 hat_o_c
  have ha_3 : At Sc_50_26 q_1 5 := Kp_at hk2 ha_3_c
  have ha_10 : At Sc_50_26 q_8 5 := Kp_at hk2 ha_10_c
  have ha_17 : At Sc_50_26 q_15 5 := Kp_at hk2 ha_17_c
  have ha_24 : At Sc_50_26 q_22 9 := Kp_at hk2 ha_24_c
  have hr_7 : pR Sc_50_26 400 o = some q_1 := ((hk2.2 o hat_o_c.1 ne_o_q_22).2.1 400).trans hr_7
  have hr_14 : pR Sc_50_26 401 o = some q_8 := ((hk2.2 o hat_o_c.1 ne_o_q_22).2.1 401).trans hr_14
  have hr_21 : pR Sc_50_26 402 o = some q_15 := ((hk2.2 o hat_o_c.1 ne_o_q_22).2.1 402).trans hr_21
  have hkp : Kp S Sc_50_26 (fun a => a = o) := Kp_call hkp hk2 (Or.inr nw_q_22)
  refine r_putR X hw hat_o 3 403 (some q_22) rfl tyX4 (by decide) rfl inn_X4_init_4 tyX4_ok nmX4 (by decide) (X.2.2.2.1 (.fieldLink RX4 29 "SilkMill$Pot" "strand" "LSilkMill$Strand;") (by decide +kernel)) rfl (Or.inr ⟨rfl, hin, rfl⟩) (fun _ => rfl) rfl (fun _ => rfl) rfl (Nat.le_of_ble_eq_true rfl) (st_403 _ _) dX4_init_53 (fun H locs hw => ?_)
  generalize eS_27 : sR Sc_50_26 403 o (some q_22) = S_27 at hw
  have hat_o : At S_27 o 4 := by rw [← eS_27]; exact At_sR hat_o
  have ha_3 : At S_27 q_1 5 := by rw [← eS_27]; exact At_sR ha_3
  have ha_10 : At S_27 q_8 5 := by rw [← eS_27]; exact At_sR ha_10
  have ha_17 : At S_27 q_15 5 := by rw [← eS_27]; exact At_sR ha_17
  have ha_24 : At S_27 q_22 9 := by rw [← eS_27]; exact At_sR ha_24
  have hr_7 : pR S_27 400 o = some q_1 := by rw [← eS_27]; exact (pR_sR_nf (by decide)).trans hr_7
  have hr_14 : pR S_27 401 o = some q_8 := by rw [← eS_27]; exact (pR_sR_nf (by decide)).trans hr_14
  have hr_21 : pR S_27 402 o = some q_15 := by rw [← eS_27]; exact (pR_sR_nf (by decide)).trans hr_21
  have hkp : Kp S S_27 (fun a => a = o) := by rw [← eS_27]; exact Kp_sR hkp (Or.inl rfl)
  have hr_28 : pR S_27 403 o = some q_22 := by rw [← eS_27]; exact pR_sR_same
  refine lv_aload_n X.1 X.2.1 dX4_init_56 rfl (lv_at hl 0 rfl) ?_
  have hat_o_o := hat_o
  have ha_3_o := ha_3
  have ha_10_o := ha_10
  have ha_17_o := ha_17
  have ha_24_o := ha_24
  refine r_new X hw 6 2553 14 tyX6 (by decide) rfl inn_X4_init_6 tyX6_ok (X.2.2.2.1 (.classLink RX4 33 RX6) (by decide +kernel)) (X.2.2.2.1 (.instantiable RX6 7) (by decide +kernel)) (X.2.2.2.1 (.initialized RX6) (by decide +kernel)) zo_6 zd_6 (Nat.le_of_ble_eq_true rfl) (Nat.le_of_ble_eq_true rfl) (Nat.le_of_ble_eq_true rfl) (Nat.le_of_ble_eq_true rfl) dX4_init_57 (fun q_29 H hq_29 hw => ?_)
  have ne_o_q_29 : o ≠ q_29 := At_old hat_o_o hq_29
  have ne_q_1_q_29 : q_1 ≠ q_29 := At_old ha_3_o hq_29
  have ne_q_8_q_29 : q_8 ≠ q_29 := At_old ha_10_o hq_29
  have ne_q_15_q_29 : q_15 ≠ q_29 := At_old ha_17_o hq_29
  have ne_q_22_q_29 : q_22 ≠ q_29 := At_old ha_24_o hq_29
  generalize eS_30 : sO S_27 q_29 6 = S_30 at hw
  have hat_o : At S_30 o 4 := by rw [← eS_30]; exact At_sO hat_o hq_29
  have ha_3 : At S_30 q_1 5 := by rw [← eS_30]; exact At_sO ha_3 hq_29
  have ha_10 : At S_30 q_8 5 := by rw [← eS_30]; exact At_sO ha_10 hq_29
  have ha_17 : At S_30 q_15 5 := by rw [← eS_30]; exact At_sO ha_17 hq_29
  have ha_24 : At S_30 q_22 9 := by rw [← eS_30]; exact At_sO ha_24 hq_29
  have hr_7 : pR S_30 400 o = some q_1 := by rw [← eS_30]; exact (pR_sO_ne (At_old hat_o_o hq_29)).trans hr_7
  have hr_14 : pR S_30 401 o = some q_8 := by rw [← eS_30]; exact (pR_sO_ne (At_old hat_o_o hq_29)).trans hr_14
  have hr_21 : pR S_30 402 o = some q_15 := by rw [← eS_30]; exact (pR_sO_ne (At_old hat_o_o hq_29)).trans hr_21
  have hr_28 : pR S_30 403 o = some q_22 := by rw [← eS_30]; exact (pR_sO_ne (At_old hat_o_o hq_29)).trans hr_28
  have nw_q_29 : q_29 ∉ pL S := Kp_new hkp hq_29
  have hkp : Kp S S_30 (fun a => a = o) := by rw [← eS_30]; exact Kp_sO hkp hq_29
  have ha_31 : At S_30 q_29 6 := by rw [← eS_30]; exact At_nO _ _ _
  have hz_32 : ∀ g, pI S_30 g q_29 = 0 := fun g => by rw [← eS_30]; exact pI_sO_new
  refine lv_dup X.1 X.2.1 dX4_init_60 rfl ?_
  refine k_v (rm := { frames := 1, cells := 6, slots := 180, locals := 40 }) (av := [.ref q_29]) X hw (va_runIN (As := []) (rest := [.ref q_29, .ref o]) (cfix X) (c_X6_init l G cy S_30 _ q_29  ha_31 hz_32) ⟨(va_cnB (host := RX11) 0 X.2.2.2.1 gX4_init_X6_init_n35 rfl rfl rfl (X.2.2.2.2.2.2.2.2.1 (RX4, 35, yX6_init) (by decide +kernel)) (X.2.2.2.1 (.initialized RX6) (by decide +kernel)) (by decide +kernel) ⟨Nat.le_of_ble_eq_true rfl, Nat.le_of_ble_eq_true rfl⟩), rfl, X.2.2.2.1 (.instanceMethod yX6_init) (by decide +kernel)⟩ (pre_S X hw _) rfl rfl hl.1 rfl (lv_room (Nat.le_of_ble_eq_true rfl)) dX4_init_61 ⟨Nat.le_of_ble_eq_true rfl, Nat.le_of_ble_eq_true rfl⟩) 20 2733 (Nat.le_of_ble_eq_true rfl) (Nat.le_of_ble_eq_true rfl) (fun S2 H locs hp hw hfr hnw => ?_)
  obtain ⟨hk2, hf_q_29⟩ := hp
  generalize eq_Sc_61_33 : S2 = Sc_61_33 at hk2 hf_q_29 hw
  have hat_o_c := hat_o
  have ha_3_c := ha_3
  have ha_10_c := ha_10
  have ha_17_c := ha_17
  have ha_24_c := ha_24
  have ha_31_c := ha_31
  have hat_o : At Sc_61_33 o 4 := Kp_at hk2 hat_o_c
  have ha_3 : At Sc_61_33 q_1 5 := Kp_at hk2 ha_3_c
  have ha_10 : At Sc_61_33 q_8 5 := Kp_at hk2 ha_10_c
  have ha_17 : At Sc_61_33 q_15 5 := Kp_at hk2 ha_17_c
  have ha_24 : At Sc_61_33 q_22 9 := Kp_at hk2 ha_24_c
  have ha_31 : At Sc_61_33 q_29 6 := Kp_at hk2 ha_31_c
  have hr_7 : pR Sc_61_33 400 o = some q_1 := ((hk2.2 o hat_o_c.1 ne_o_q_29).2.1 400).trans hr_7
  have hr_14 : pR Sc_61_33 401 o = some q_8 := ((hk2.2 o hat_o_c.1 ne_o_q_29).2.1 401).trans hr_14
  have hr_21 : pR Sc_61_33 402 o = some q_15 := ((hk2.2 o hat_o_c.1 ne_o_q_29).2.1 402).trans hr_21
  have hr_28 : pR Sc_61_33 403 o = some q_22 := ((hk2.2 o hat_o_c.1 ne_o_q_29).2.1 403).trans hr_28
  have hkp : Kp S Sc_61_33 (fun a => a = o) := Kp_call hkp hk2 (Or.inr nw_q_29)
  refine r_putR X hw hat_o 9 409 (some q_29) rfl tyX4 (by decide) rfl inn_X4_init_4 tyX4_ok nmX4 (by decide) (X.2.2.2.1 (.fieldLink RX4 36 "SilkMill$Pot" "rules" "LSilkMill$Rules;") (by decide +kernel)) rfl (Or.inl rfl) (fun _ => rfl) rfl (fun _ => rfl) rfl (Nat.le_of_ble_eq_true rfl) (st_409 _ _) dX4_init_64 (fun H locs hw => ?_)
  generalize eS_34 : sR Sc_61_33 409 o (some q_29) = S_34 at hw
  have hat_o : At S_34 o 4 := by rw [← eS_34]; exact At_sR hat_o
  have ha_3 : At S_34 q_1 5 := by rw [← eS_34]; exact At_sR ha_3
  have ha_10 : At S_34 q_8 5 := by rw [← eS_34]; exact At_sR ha_10
  have ha_17 : At S_34 q_15 5 := by rw [← eS_34]; exact At_sR ha_17
  have ha_24 : At S_34 q_22 9 := by rw [← eS_34]; exact At_sR ha_24
  have ha_31 : At S_34 q_29 6 := by rw [← eS_34]; exact At_sR ha_31
  have hr_7 : pR S_34 400 o = some q_1 := by rw [← eS_34]; exact (pR_sR_nf (by decide)).trans hr_7
  have hr_14 : pR S_34 401 o = some q_8 := by rw [← eS_34]; exact (pR_sR_nf (by decide)).trans hr_14
  have hr_21 : pR S_34 402 o = some q_15 := by rw [← eS_34]; exact (pR_sR_nf (by decide)).trans hr_21
  have hr_28 : pR S_34 403 o = some q_22 := by rw [← eS_34]; exact (pR_sR_nf (by decide)).trans hr_28
  have hkp : Kp S S_34 (fun a => a = o) := by rw [← eS_34]; exact Kp_sR hkp (Or.inl rfl)
  have hr_35 : pR S_34 409 o = some q_29 := by rw [← eS_34]; exact pR_sR_same
  refine lv_aload_n X.1 X.2.1 dX4_init_67 rfl (lv_at hl 0 rfl) ?_
  refine lv_iload_n X.1 X.2.1 dX4_init_68 rfl (lv_at hl 1 rfl) ?_
  refine r_putI (v := a1) X hw hat_o 10 410 tyX4 (by decide) rfl inn_X4_init_4 tyX4_ok nmX4 (by decide) (X.2.2.2.1 (.fieldLink RX4 40 "SilkMill$Pot" "potNumber" "I") (by decide +kernel)) rfl (Or.inr ⟨rfl, hin, rfl⟩) rfl rfl (Nat.le_of_ble_eq_true rfl) (st_410 _ _) dX4_init_69 (fun H locs hw => ?_)
  generalize eS_36 : sI S_34 410 o a1 = S_36 at hw
  have hat_o : At S_36 o 4 := by rw [← eS_36]; exact At_sI hat_o
  have ha_3 : At S_36 q_1 5 := by rw [← eS_36]; exact At_sI ha_3
  have ha_10 : At S_36 q_8 5 := by rw [← eS_36]; exact At_sI ha_10
  have ha_17 : At S_36 q_15 5 := by rw [← eS_36]; exact At_sI ha_17
  have ha_24 : At S_36 q_22 9 := by rw [← eS_36]; exact At_sI ha_24
  have ha_31 : At S_36 q_29 6 := by rw [← eS_36]; exact At_sI ha_31
  have hr_7 : pR S_36 400 o = some q_1 := by rw [← eS_36, pR_sI]; exact hr_7
  have hr_14 : pR S_36 401 o = some q_8 := by rw [← eS_36, pR_sI]; exact hr_14
  have hr_21 : pR S_36 402 o = some q_15 := by rw [← eS_36, pR_sI]; exact hr_21
  have hr_28 : pR S_36 403 o = some q_22 := by rw [← eS_36, pR_sI]; exact hr_28
  have hr_35 : pR S_36 409 o = some q_29 := by rw [← eS_36, pR_sI]; exact hr_35
  have hkp : Kp S S_36 (fun a => a = o) := by rw [← eS_36]; exact Kp_sI hkp (Or.inl rfl)
  have hc_37 : pI S_36 410 o = a1 := by rw [← eS_36]; exact pI_sI_same
  refine lv_aload_n X.1 X.2.1 dX4_init_72 rfl (lv_at hl 0 rfl) ?_
  refine lv_iload_n X.1 X.2.1 dX4_init_73 rfl (lv_at hl 2 rfl) ?_
  refine r_putI (v := a2) X hw hat_o 4 404 tyX4 (by decide) rfl inn_X4_init_4 tyX4_ok nmX4 (by decide) (X.2.2.2.1 (.fieldLink RX4 44 "SilkMill$Pot" "aim" "I") (by decide +kernel)) rfl (Or.inl rfl) rfl rfl (Nat.le_of_ble_eq_true rfl) (st_404 _ _) dX4_init_74 (fun H locs hw => ?_)
  generalize eS_38 : sI S_36 404 o a2 = S_38 at hw
  have hat_o : At S_38 o 4 := by rw [← eS_38]; exact At_sI hat_o
  have ha_3 : At S_38 q_1 5 := by rw [← eS_38]; exact At_sI ha_3
  have ha_10 : At S_38 q_8 5 := by rw [← eS_38]; exact At_sI ha_10
  have ha_17 : At S_38 q_15 5 := by rw [← eS_38]; exact At_sI ha_17
  have ha_24 : At S_38 q_22 9 := by rw [← eS_38]; exact At_sI ha_24
  have ha_31 : At S_38 q_29 6 := by rw [← eS_38]; exact At_sI ha_31
  have hr_7 : pR S_38 400 o = some q_1 := by rw [← eS_38, pR_sI]; exact hr_7
  have hr_14 : pR S_38 401 o = some q_8 := by rw [← eS_38, pR_sI]; exact hr_14
  have hr_21 : pR S_38 402 o = some q_15 := by rw [← eS_38, pR_sI]; exact hr_21
  have hr_28 : pR S_38 403 o = some q_22 := by rw [← eS_38, pR_sI]; exact hr_28
  have hr_35 : pR S_38 409 o = some q_29 := by rw [← eS_38, pR_sI]; exact hr_35
  have hc_37 : pI S_38 410 o = a1 := by rw [← eS_38]; exact (pI_sI_nf (by decide)).trans hc_37
  have hkp : Kp S S_38 (fun a => a = o) := by rw [← eS_38]; exact Kp_sI hkp (Or.inl rfl)
  have hc_39 : pI S_38 404 o = a2 := by rw [← eS_38]; exact pI_sI_same
  refine lv_aload_n X.1 X.2.1 dX4_init_77 rfl (lv_at hl 0 rfl) ?_
  refine lv_iload_n X.1 X.2.1 dX4_init_78 rfl (lv_at hl 3 rfl) ?_
  refine r_putI (v := a3) X hw hat_o 11 411 tyX4 (by decide) rfl inn_X4_init_4 tyX4_ok nmX4 (by decide) (X.2.2.2.1 (.fieldLink RX4 47 "SilkMill$Pot" "find" "I") (by decide +kernel)) rfl (Or.inr ⟨rfl, hin, rfl⟩) rfl rfl (Nat.le_of_ble_eq_true rfl) (st_411 _ _) dX4_init_79 (fun H locs hw => ?_)
  generalize eS_40 : sI S_38 411 o a3 = S_40 at hw
  have hat_o : At S_40 o 4 := by rw [← eS_40]; exact At_sI hat_o
  have ha_3 : At S_40 q_1 5 := by rw [← eS_40]; exact At_sI ha_3
  have ha_10 : At S_40 q_8 5 := by rw [← eS_40]; exact At_sI ha_10
  have ha_17 : At S_40 q_15 5 := by rw [← eS_40]; exact At_sI ha_17
  have ha_24 : At S_40 q_22 9 := by rw [← eS_40]; exact At_sI ha_24
  have ha_31 : At S_40 q_29 6 := by rw [← eS_40]; exact At_sI ha_31
  have hr_7 : pR S_40 400 o = some q_1 := by rw [← eS_40, pR_sI]; exact hr_7
  have hr_14 : pR S_40 401 o = some q_8 := by rw [← eS_40, pR_sI]; exact hr_14
  have hr_21 : pR S_40 402 o = some q_15 := by rw [← eS_40, pR_sI]; exact hr_21
  have hr_28 : pR S_40 403 o = some q_22 := by rw [← eS_40, pR_sI]; exact hr_28
  have hr_35 : pR S_40 409 o = some q_29 := by rw [← eS_40, pR_sI]; exact hr_35
  have hc_37 : pI S_40 410 o = a1 := by rw [← eS_40]; exact (pI_sI_nf (by decide)).trans hc_37
  have hc_39 : pI S_40 404 o = a2 := by rw [← eS_40]; exact (pI_sI_nf (by decide)).trans hc_39
  have hkp : Kp S S_40 (fun a => a = o) := by rw [← eS_40]; exact Kp_sI hkp (Or.inl rfl)
  have hc_41 : pI S_40 411 o = a3 := by rw [← eS_40]; exact pI_sI_same
  exact ret_v X hw hr hlocks (Nat.le_of_ble_eq_true rfl) (Nat.le_of_ble_eq_true rfl) ⟨hkp, hat_o⟩ dX4_init_82
