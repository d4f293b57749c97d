set_option maxHeartbeats 4000000 in
set_option maxRecDepth 100000 in
theorem c_X3_putNumber (l : Launch) (G : va_G) (cy : Nat → ClassId) (S : PS) (sz : Nat) (pl : Nat) (a1 : Int32) (hat_pl : At S pl 3) : Ci l yX3_putNumber wsX3_putNumber ({ frames := 1, cells := 0, slots := 0, locals := 40 }) G cy S sz [.ref pl, .int (a1)] (fun (r : Int32) (S9 : PS) => r = 1 ∧ (∀ a k, At S a k → At S9 a k) ∧ (∀ g a, a ≠ pl → pI S9 g a = pI S g a)) := by
  refine ent_m (cc := cX3_putNumber) (maxL := 2) (ret := (some .boolean)) (by decide) rfl (Nat.le_of_ble_eq_true rfl) ?_
  intro p e s m below meth c ls X hr hlocks hin hw hl hsz
  subst hsz
  have X : Cx p c cX3_putNumber 2 s [.ref pl, .int (a1)].toArray wsX3_putNumber RX3 m G cy (AS S s.heap.size) := X
  have hl : lv_has ls 2 [(0, .ref pl), (1, .int (a1))] := hl
  refine lv_aload_n X.1 X.2.1 dX3_putNumber_0 rfl (lv_at hl 0 rfl) ?_
  refine lv_iload_n X.1 X.2.1 dX3_putNumber_1 rfl (lv_at hl 1 rfl) ?_
  refine r_putI (v := a1) X hw hat_pl 4 304 tyX3 (by decide) rfl inn_X3_putNumber_3 tyX3_ok nmX3 (by decide) (X.2.2.2.1 (.fieldLink RX3 31 "SilkMill$Place" "number" "I") (by decide +kernel)) rfl (Or.inl rfl) rfl rfl (Nat.le_of_ble_eq_true rfl) (st_304 _ _) dX3_putNumber_2 (fun H locs hw => ?_)
  generalize eS_1 : sI S 304 pl a1 = S_1 at hw
  have hat_pl : At S_1 pl 3 := by rw [← eS_1]; exact At_sI hat_pl
  have hc_2 : pI S_1 304 pl = a1 := by rw [← eS_1]; exact pI_sI_same
  refine lv_aload_n X.1 X.2.1 dX3_putNumber_5 rfl (lv_at hl 0 rfl) ?_
  refine lv_iconst (v := 1) X.1 X.2.1 dX3_putNumber_6 (by decide) ?_
  refine r_putI (v := 1) X hw hat_pl 0 300 tyX3 (by decide) rfl inn_X3_putNumber_3 tyX3_ok nmX3 (by decide) (X.2.2.2.1 (.fieldLink RX3 9 "SilkMill$Place" "kind" "I") (by decide +kernel)) rfl (Or.inl rfl) rfl rfl (Nat.le_of_ble_eq_true rfl) (st_300 _ _) dX3_putNumber_7 (fun H locs hw => ?_)
  generalize eS_3 : sI S_1 300 pl 1 = S_3 at hw
  have hat_pl : At S_3 pl 3 := by rw [← eS_3]; exact At_sI hat_pl
  have hc_2 : pI S_3 304 pl = a1 := by rw [← eS_3]; exact (pI_sI_nf (by decide)).trans hc_2
  have hc_4 : pI S_3 300 pl = 1 := by rw [← eS_3]; exact pI_sI_same
  refine lv_iconst (v := 1) X.1 X.2.1 dX3_putNumber_10 (by decide) ?_
  exact ret_z X hw hr hlocks (Nat.le_of_ble_eq_true rfl) (Nat.le_of_ble_eq_true rfl) (by decide) ⟨rfl, by subst eS_3 eS_1; exact fun _ _ h => At_sI (At_sI h), fun g a h => by subst eS_3 eS_1; exact (pI_sI_ne h).trans (pI_sI_ne h)⟩ dX3_putNumber_11
set_option maxHeartbeats 4000000 in
set_option maxRecDepth 100000 in
theorem c_X3_putCocoon (l : Launch) (G : va_G) (cy : Nat → ClassId) (S : PS) (sz : Nat) (pl : Nat) (hat_pl : At S pl 3) : Ci l yX3_putCocoon wsX3_putCocoon ({ frames := 1, cells := 0, slots := 0, locals := 40 }) G cy S sz [.ref pl, .null] (fun (r : Int32) (S9 : PS) => S = S9 ∧ r = 0) := by
  refine ent_m (cc := cX3_putCocoon) (maxL := 2) (ret := (some .boolean)) (by decide) rfl (Nat.le_of_ble_eq_true rfl) ?_
  intro p e s m below meth c ls X hr hlocks hin hw hl hsz
  subst hsz
  have X : Cx p c cX3_putCocoon 2 s [.ref pl, .null].toArray wsX3_putCocoon RX3 m G cy (AS S s.heap.size) := X
  have hl : lv_has ls 2 [(0, .ref pl), (1, .null)] := hl
  refine lv_aload_nN X.1 X.2.1 dX3_putCocoon_0 rfl (lv_at hl 1 rfl) ?_
  refine lv_ifnullN (tgt := 11) X.1 X.2.1 dX3_putCocoon_1 (by decide) ?_
  refine lv_iconst (v := 0) X.1 X.2.1 dX3_putCocoon_11 (by decide) ?_
  exact ret_z X hw hr hlocks (Nat.le_of_ble_eq_true rfl) (Nat.le_of_ble_eq_true rfl) (by decide) ⟨rfl, rfl⟩ dX3_putCocoon_12
