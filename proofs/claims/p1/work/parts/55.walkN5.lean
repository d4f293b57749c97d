set_option maxHeartbeats 4000000 in
set_option maxRecDepth 100000 in
theorem c_L_fineness (l : Launch) (hst : l.stackTraces = false) (G : va_G) (cy : Nat → ClassId) (S : PS) (sz sa : Nat) (x : Nat) (a1 a2 a3 : Int32) (outq : Nat) (hF : FX S x) : Met l yL_fineness wsL_fineness ({ frames := 9, cells := 1, slots := 6, locals := 360 }) (va_Pc [.ref x, .int (a1), .int (a2), .int (a3), .ref outq] (Qx G cy S sz 104 "there is no such place of a cocoon" sa)) (va_Qi (fun (r : Int32) (S9 : PS) => r = 1) (Bw G cy S sz) (AS S sz)) 1 6 (AS S sz) := by
  refine va_MetW (cc := cL_fineness) (maxL := 6) (ret := (some .int)) (hh := [(0, 12, 15, 13)]) (by decide) rfl ?_
  intro p e s m args below meth c s₁ B hml hv
  obtain ⟨rfl, ⟨hsz, hP, hK, hD, hNG⟩, hZ, hstr, hdc⟩ := hv
  subst hsz
  have hts := atoms_spec (ws := wsL_fineness) B.pre
  have htab : c.exceptionTable.toList = tableOf [(0, 12, 15, 13)] := vx_table (x := yL_fineness) B (hts _ List.mem_cons_self)
  have hl := lv_entry ([.ref x, .int (a1), .int (a2), .int (a3), .ref outq]) (n := 6) (Nat.le_of_ble_eq_true rfl)
  rw [lg_entry_eq]
  generalize (lg_sl ([.ref x, .int (a1), .int (a2), .int (a3), .ref outq]) ++ List.replicate (6 - (lg_sl ([.ref x, .int (a1), .int (a2), .int (a3), .ref outq])).length) Slot.unset).toArray = ls at hl ⊢
  have hl : lv_has ls 6 [(0, .ref x), (1, .int (a1)), (2, .int (a2)), (3, .int (a3)), (4, .ref outq)] := hl
  have X : Cx p c cL_fineness 6 s [.ref x, .int (a1), .int (a2), .int (a3), .ref outq].toArray wsL_fineness RL m G cy (AS S s.heap.size) := ⟨B.exec, B.bytes, hml, hts, findClass_of_methodNamed B.named, hK, fun q h => Or.inr h, hNG⟩
  have hw : Wd G cy (AS S s.heap.size) s.heap S s.heap [] := ⟨hP, hD.weaken (fun k q hk _ => Or.inl (pl_mem hk)), va_S.rf⟩
  have hlocks := B.notSynchronized
  have hr := B.returns
  have hat_x := hF.1
  refine lv_aload X.1 X.2.1 dL_fineness_0 (lv_at hl 4 rfl) ?_
  refine lv_iconst (v := 0) X.1 X.2.1 dL_fineness_2 (by decide) ?_
  refine lv_aload_n X.1 X.2.1 dL_fineness_3 rfl (lv_at hl 0 rfl) ?_
  refine lv_iload_n X.1 X.2.1 dL_fineness_4 rfl (lv_at hl 1 rfl) ?_
  refine lv_iload_n X.1 X.2.1 dL_fineness_5 rfl (lv_at hl 2 rfl) ?_
  refine lv_iload_n X.1 X.2.1 dL_fineness_6 rfl (lv_at hl 3 rfl) ?_
  refine vx_calli (vx_runV (As := [.int (a1), .int (a2), .int (a3)]) (rest := [.int 0, .ref outq]) (cfix X) (c_X11_fineness l hst G cy S _ sa x a1 a2 a3 hF) (cwV 3 X.2.2.2.1 gL_fineness_X11_fineness rfl rfl rfl (by decide +kernel) ⟨Nat.le_of_ble_eq_true rfl, Nat.le_of_ble_eq_true rfl⟩) (pre_VQ X hw hZ hstr hdc _ hat_x (by decide) rfl) rfl rfl hl.1 rfl (lv_room (Nat.le_of_ble_eq_true rfl)) dL_fineness_7 ⟨Nat.le_of_ble_eq_true rfl, Nat.le_of_ble_eq_true rfl⟩) hw.2.2 (fun q _ h => as_in X hw q h) (as_in X hw) (fun q _ h => as_in X hw q h) (fun E ce q9 S2 t H1 locs1 ht hvm hpx hBX hz hk hS hc1 hc2 hc3 => ?_) (fun r u t H1 locs1 ht hvm hp _ _ _ _ => hp.elim)
  obtain ⟨rfl, hB⟩ := hBX
  have hw2 := bw_of X hw ht hB hS
  refine vx_catch (own := RL) (name := "java/lang/IndexOutOfBoundsException") X.2.2.2.2.1 [] ⟨0, 12, 15, 13⟩ [] (by rw [htab]; rfl) (fun z h => by cases h) (by decide) (by decide) (X.2.2.2.1 (.classLink RL 13 "java/lang/IndexOutOfBoundsException") (by decide +kernel)) (va_Nw.use rfl X.2.2.2.2.2.2.2.2.2.1) hc1 hc2 hc3 ?_
  refine lv_astore (lv' := [(5, .ref q9), (0, .ref x), (1, .int (a1)), (2, .int (a2)), (3, .int (a3)), (4, .ref outq)]) X.1 X.2.1 dL_fineness_15 hl (by decide) rfl (fun ls hl => ?_)
  refine lv_iconst (v := 1) X.1 X.2.1 dL_fineness_17 (by decide) ?_
  exact ret_i X hw2 hr hlocks (Nat.le_of_ble_eq_true rfl) (Nat.le_of_ble_eq_true rfl) rfl dL_fineness_18
set_option maxHeartbeats 4000000 in
set_option maxRecDepth 100000 in
theorem c_L_in (l : Launch) (hst : l.stackTraces = false) (G : va_G) (cy : Nat → ClassId) (S : PS) (sz sa : Nat) (x : Nat) (a1 a2 a3 : Int32) (outq : Nat) (hF : FX S x) : Met l yL_in wiL_in ({ frames := 9, cells := 1, slots := 6, locals := 360 }) (va_Pc [.ref x, .int (a1), .int (a2), .int (a3), .ref outq] (Qx G cy S sz 221 "there is no such cocoon in a pot" sa)) (va_Qi (fun (r : Int32) (S9 : PS) => r = 1) (Bw G cy S sz) (AS S sz)) 1 6 (AS S sz) := by
  refine va_MetW (cc := cL_in) (maxL := 6) (ret := (some .int)) (hh := [(0, 12, 15, 18)]) (by decide) rfl ?_
  intro p e s m args below meth c s₁ B hml hv
  obtain ⟨rfl, ⟨hsz, hP, hK, hD, hNG⟩, hZ, hstr, hdc⟩ := hv
  subst hsz
  have hts := atoms_spec (ws := wiL_in) B.pre
  have htab : c.exceptionTable.toList = tableOf [(0, 12, 15, 18)] := vx_table (x := yL_in) B (hts _ List.mem_cons_self)
  have hl := lv_entry ([.ref x, .int (a1), .int (a2), .int (a3), .ref outq]) (n := 6) (Nat.le_of_ble_eq_true rfl)
  rw [lg_entry_eq]
  generalize (lg_sl ([.ref x, .int (a1), .int (a2), .int (a3), .ref outq]) ++ List.replicate (6 - (lg_sl ([.ref x, .int (a1), .int (a2), .int (a3), .ref outq])).length) Slot.unset).toArray = ls at hl ⊢
  have hl : lv_has ls 6 [(0, .ref x), (1, .int (a1)), (2, .int (a2)), (3, .int (a3)), (4, .ref outq)] := hl
  have X : Cx p c cL_in 6 s [.ref x, .int (a1), .int (a2), .int (a3), .ref outq].toArray wiL_in RL m G cy (AS S s.heap.size) := ⟨B.exec, B.bytes, hml, hts, findClass_of_methodNamed B.named, hK, fun q h => Or.inr h, hNG⟩
  have hw : Wd G cy (AS S s.heap.size) s.heap S s.heap [] := ⟨hP, hD.weaken (fun k q hk _ => Or.inl (pl_mem hk)), va_S.rf⟩
  have hlocks := B.notSynchronized
  have hr := B.returns
  have hat_x := hF.1
  refine lv_aload X.1 X.2.1 dL_in_0 (lv_at hl 4 rfl) ?_
  refine lv_iconst (v := 0) X.1 X.2.1 dL_in_2 (by decide) ?_
  refine lv_aload_n X.1 X.2.1 dL_in_3 rfl (lv_at hl 0 rfl) ?_
  refine lv_iload_n X.1 X.2.1 dL_in_4 rfl (lv_at hl 1 rfl) ?_
  refine lv_iload_n X.1 X.2.1 dL_in_5 rfl (lv_at hl 2 rfl) ?_
  refine lv_iload_n X.1 X.2.1 dL_in_6 rfl (lv_at hl 3 rfl) ?_
  refine vx_calli (vx_runV (As := [.int (a1), .int (a2), .int (a3)]) (rest := [.int 0, .ref outq]) (cfix X) (c_X11_in l hst G cy S _ sa x a1 a2 a3 hF) (cwV 3 X.2.2.2.1 gL_in_X11_in rfl rfl rfl (by decide +kernel) ⟨Nat.le_of_ble_eq_true rfl, Nat.le_of_ble_eq_true rfl⟩) (pre_VQ X hw hZ hstr hdc _ hat_x (by decide) rfl) rfl rfl hl.1 rfl (lv_room (Nat.le_of_ble_eq_true rfl)) dL_in_7 ⟨Nat.le_of_ble_eq_true rfl, Nat.le_of_ble_eq_true rfl⟩) hw.2.2 (fun q _ h => as_in X hw q h) (as_in X hw) (fun q _ h => as_in X hw q h) (fun E ce q9 S2 t H1 locs1 ht hvm hpx hBX hz hk hS hc1 hc2 hc3 => ?_) (fun r u t H1 locs1 ht hvm hp _ _ _ _ => hp.elim)
  obtain ⟨rfl, hB⟩ := hBX
  have hw2 := bw_of X hw ht hB hS
  refine vx_catch (own := RL) (name := "java/util/NoSuchElementException") X.2.2.2.2.1 [] ⟨0, 12, 15, 18⟩ [] (by rw [htab]; rfl) (fun z h => by cases h) (by decide) (by decide) (X.2.2.2.1 (.classLink RL 18 "java/util/NoSuchElementException") (by decide +kernel)) (va_Nw.use rfl X.2.2.2.2.2.2.2.2.2.2) hc1 hc2 hc3 ?_
  refine lv_astore (lv' := [(5, .ref q9), (0, .ref x), (1, .int (a1)), (2, .int (a2)), (3, .int (a3)), (4, .ref outq)]) X.1 X.2.1 dL_in_15 hl (by decide) rfl (fun ls hl => ?_)
  refine lv_iconst (v := 1) X.1 X.2.1 dL_in_17 (by decide) ?_
  exact ret_i X hw2 hr hlocks (Nat.le_of_ble_eq_true rfl) (Nat.le_of_ble_eq_true rfl) rfl dL_in_18
