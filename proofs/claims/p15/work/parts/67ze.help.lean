
set_option maxHeartbeats 4000000 in
set_option maxRecDepth 100000 in
theorem k_L_in2 (l : Launch) (hst : l.stackTraces = false) (G : va_G) (cy : Nat → ClassId) (κ : Nat → Nat) (S : PS) (sz : Nat) (x : Nat) (a1 a2 a3 : Int32) (oq : Nat) (cL : ClassId) (hG : GX S) (ha_x : At S x 11) (hoq : oq ∉ pL S) (D : Nat → Prop) (R0 : Nat) (R1 : Nat) (R2 : Nat) (Gs : Nat) (Ks : Nat) (A : Pt) (Ev : En) (Rl : List Ru) (hp_0 : (∀ c, D c → At S c 0)) (hp_1 : (∀ P, 0 ≤ a1.toInt → a1.toInt < (pI S 1104 x).toInt → mB S x 1103 a1.toInt.toNat = some P → PotA S D P R0 R1 R2 Gs Ks A Ev Rl)) (hp_2 : pR S 1107 x = some Ks) : Met l yL_in wiL_in ({ frames := 13, cells := 1, slots := 6, locals := 624 }) (va_Pc [.ref x, .int (a1), .int (a2), .int (a3), .ref oq] (Qo G cy κ S sz oq cL)) (va_Qi (fun (r : Int32) (u : PS × Int64) => S = u.1 ∧ ((r = 1 ∧ (PN S x → ¬ InX S x A a1.toInt a2.toInt a3.toInt)) ∨ (r = 0 ∧ ∃ v : Int32, (InX S x A a1.toInt a2.toInt a3.toInt ∧ InV S A a2.toInt a3.toInt v) ∧ u.2 = v.toInt64))) (Bo2 G cy S sz oq cL) (AS2 S sz oq)) 1 6 (AS2 S sz oq) := by
  refine va_MetW (cc := cL_in) (maxL := 6) (ret := (some .int)) (hh := [(0, 12, 15, 18)]) (by decide) rfl ?_
  intro p e s m args below meth c s₁ B hml hv
  obtain ⟨rfl, hsz, hP, hK, hD, hNG, hCs, hdc, hkl, hLA⟩ := hv
  subst hsz
  have hts := atoms_spec (ws := wiL_in) B.pre
  have htab : c.exceptionTable.toList = tableOf [(0, 12, 15, 18)] := vx_table (x := yL_in) B (hts _ List.mem_cons_self)
  have hl := lv_entry ([.ref x, .int (a1), .int (a2), .int (a3), .ref oq]) (n := 6) (Nat.le_of_ble_eq_true rfl)
  rw [lg_entry_eq]
  generalize (lg_sl ([.ref x, .int (a1), .int (a2), .int (a3), .ref oq]) ++ List.replicate (6 - (lg_sl ([.ref x, .int (a1), .int (a2), .int (a3), .ref oq])).length) Slot.unset).toArray = ls at hl ⊢
  have hl : lv_has ls 6 [(0, .ref x), (1, .int (a1)), (2, .int (a2)), (3, .int (a3)), (4, .ref oq)] := hl
  have X : Cx p c cL_in 6 s [.ref x, .int (a1), .int (a2), .int (a3), .ref oq].toArray wiL_in RL m G cy κ (AS2 S s.heap.size oq) := ⟨B.exec, B.bytes, hml, hts, findClass_of_methodNamed B.named, hK, fun q h => Or.inr (Or.inl h), hNG, hCs⟩
  have hw : Wd G cy (AS2 S s.heap.size oq) s.heap S s.heap [] := ⟨hP, hD.weaken (fun k q hk _ => Or.inl (pl_mem hk)), va_S.rf⟩
  have hlocks := B.notSynchronized
  have hr := B.returns
  have hlt : oq < s.heap.size := by obtain ⟨f, hf⟩ := hLA; exact (Array.getElem?_eq_some_iff.mp hf).1
  have hna : ¬ AS S s.heap.size oq := fun h => h.elim hoq (fun h => absurd hlt (Nat.not_lt.mpr h))
  refine lv_aload X.1 X.2.1 dL_in_0 (lv_at hl 4 rfl) ?_
  refine lv_iconst (v := 0) X.1 X.2.1 dL_in_2 (by decide) ?_
  refine lv_aload_n X.1 X.2.1 dL_in_3 rfl (lv_at hl 0 rfl) ?_
  refine lv_iload_n X.1 X.2.1 dL_in_4 rfl (lv_at hl 1 rfl) ?_
  refine lv_iload_n X.1 X.2.1 dL_in_5 rfl (lv_at hl 2 rfl) ?_
  refine lv_iload_n X.1 X.2.1 dL_in_6 rfl (lv_at hl 3 rfl) ?_
  refine vx_calli (vx_runV (As := [.int (a1), .int (a2), .int (a3)]) (rest := [.int 0, .ref oq]) (cfix X) (k_X11_in6 l hst G cy κ S _ x a1 _ a2 _ a3 _ D R0 R1 R2 Gs Ks A Ev Rl hG ha_x rfl rfl rfl hp_0 hp_1 hp_2) (cwV 3 X.2.2.2.1 gL_in_X11_in rfl rfl rfl (by decide +kernel) ⟨Nat.le_of_ble_eq_true rfl, Nat.le_of_ble_eq_true rfl⟩) (pre_VE X hw hdc _ ha_x rfl (by decide) rfl) rfl rfl hl.1 rfl (lv_room (Nat.le_of_ble_eq_true rfl)) dL_in_7 ⟨Nat.le_of_ble_eq_true rfl, Nat.le_of_ble_eq_true rfl⟩) hw.2.2 (fun q _ h => as_in X hw q h) (as_in X hw) (fun q _ h => as_in X hw q h) (fun E ce q9 S2 t H1 locs1 ht hvm hpx hBX hz hk hS hc1 hc2 hc3 => ?_) (fun r u t H1 locs1 ht hvm hp hB hz hk hS => ?_)
  · have hb_0 := trivial
    obtain ⟨rfl, hB⟩ := hBX
    obtain ⟨rfl, hex⟩ := hpx
    have hw2 := bw_of X hw ht hB hS
    have hLA2 : LA cL oq H1 := by obtain ⟨f, hf⟩ := hLA; exact ⟨f, (hk oq hlt hna).trans hf⟩
    refine vx_catch (own := RL) (name := "java/util/NoSuchElementException") X.2.2.2.2.1 [] ⟨0, 12, 15, 18⟩ [] (by rw [htab]; rfl) (fun z h => by cases h) (by decide) (by decide) (X.2.2.2.1 (.classLink RL 18 "java/util/NoSuchElementException") (by decide +kernel)) (va_Nw.use rfl X.2.2.2.2.2.2.2.1.2.2.2.1) hc1 hc2 hc3 ?_
    refine lv_astore (lv' := [(5, .ref q9), (0, .ref x), (1, .int (a1)), (2, .int (a2)), (3, .int (a3)), (4, .ref oq)]) X.1 X.2.1 dL_in_15 hl (by decide) rfl (fun ls hl => ?_)
    refine lv_iconst (v := 1) X.1 X.2.1 dL_in_17 (by decide) ?_
    obtain ⟨f2, hf2⟩ := hLA2
    refine W.widen (k := 1) (n := 6) (Nat.le_of_ble_eq_true rfl) (Nat.le_of_ble_eq_true rfl) ?_
    exact W.iret X.1 X.2.1 hr (fun t ht hW => ⟨⟨1, (S, f2 0), rfl, ⟨rfl, Or.inl ⟨rfl, hex⟩⟩, ⟨by rw [ht]; exact hw2.1, hw2.2.1⟩, by rw [ht]; exact ⟨f2, rfl, hf2⟩⟩, hw2.2.2.F ht⟩) hw2.2.2.2.2 dL_in_18 hlocks
  · have hb_1 := trivial
    obtain ⟨rfl, hnv⟩ := hp
    have hw2 := bw_of X hw ht hB hS
    have hLA2 : LA cL oq H1 := by obtain ⟨f, hf⟩ := hLA; exact ⟨f, (hk oq hlt hna).trans hf⟩
    refine lv_i2l X.1 X.2.1 dL_in_10 rfl ?_
    refine lv_topl (fun v ev => ?_)
    refine r_last2 X hw2 hkl hLA2 hoq (Or.inr (Or.inr rfl)) dL_in_11 (fun H1 locs1 hw2 hLA2 => ?_)
    refine lv_goto (tgt := 19) X.1 X.2.1 dL_in_12 (by decide) ?_
    refine lv_iconst (v := 0) X.1 X.2.1 dL_in_19 (by decide) ?_
    refine W.widen (k := 1) (n := 6) (Nat.le_of_ble_eq_true rfl) (Nat.le_of_ble_eq_true rfl) ?_
    exact W.iret X.1 X.2.1 hr (fun t ht hW => ⟨⟨0, (S, v), rfl, ⟨rfl, Or.inr ⟨rfl, _, hnv, ev⟩⟩, ⟨by rw [ht]; exact hw2.1, hw2.2.1⟩, by rw [ht]; exact hLA2⟩, hw2.2.2.F ht⟩) hw2.2.2.2.2 dL_in_20 hlocks
