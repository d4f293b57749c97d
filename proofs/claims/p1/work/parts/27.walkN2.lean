set_option maxHeartbeats 4000000 in
set_option maxRecDepth 100000 in
theorem c_X12_thrown (l : Launch) (G : va_G) (cy : Nat → ClassId) (S : PS) (sz : Nat) (mo : Nat) (hat_mo : At S mo 12) : Ci l yX12_thrown wsX12_thrown ({ frames := 1, cells := 0, slots := 0, locals := 40 }) G cy S sz [.ref mo] (fun (r : Int32) (S9 : PS) => r = pI S 1200 mo) := by
  refine ent_m (cc := cX12_thrown) (maxL := 1) (ret := (some .int)) (by decide) rfl (Nat.le_of_ble_eq_true rfl) ?_
  intro p e s m below meth c ls X hr hlocks hin hw hl hsz
  subst hsz
  have X : Cx p c cX12_thrown 1 s [.ref mo].toArray wsX12_thrown RX12 m G cy (AS S s.heap.size) := X
  have hl : lv_has ls 1 [(0, .ref mo)] := hl
  refine lv_aload_n X.1 X.2.1 dX12_thrown_0 rfl (lv_at hl 0 rfl) ?_
  refine r_get (v := .int (pI S 1200 mo)) X hw hat_mo 0 (by decide) rfl inn_X12_thrown_12 (by decide) (X.2.2.2.1 (.fieldLink RX12 161 "SilkMillModel" "thrown" "I") (by decide +kernel)) rfl (gv_1200 _ _) dX12_thrown_1 ?_
  refine lv_topi (fun v_1 ev_1 => ?_)
  exact ret_i X hw hr hlocks (Nat.le_of_ble_eq_true rfl) (Nat.le_of_ble_eq_true rfl) ev_1 dX12_thrown_4
