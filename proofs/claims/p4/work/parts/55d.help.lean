/-! ===== the helper's row of one long, with what lies in it ===== -/
def LAv (cL : ClassId) (oq : Nat) (v : Int64) (H : Heap) : Prop := ∃ f : Nat → Int64, f 0 = v ∧ H[oq]? = some (vp_cell cL (1, .inr (.inl f)))
theorem LAv.la {cL : ClassId} {oq : Nat} {v : Int64} {H : Heap} (h : LAv cL oq v H) : LA cL oq H := by
  obtain ⟨f, -, hf⟩ := h
  exact ⟨f, hf⟩
def Bo2 (G : va_G) (cy : Nat → ClassId) (S : PS) (sz oq : Nat) (cL : ClassId) : PS × Int64 → State → Prop := fun u t => (va_P G vwCl (pool cy u.1) t.heap ∧ va_D (AS2 S sz oq) (pool cy u.1)) ∧ LAv cL oq u.2 t.heap
section LROWS6
variable {p : Program} {l : Launch} {e : Env} {R : Room} {s : State} {m : MethodId} {args : Array Value} {below : List Frame} {meth : Method} {c : Code} {H : Heap} {locs : List Loc} {cells slots : Nat} {Q : State → Prop}
variable {cc : ByteArray} {pc nL : Nat} {ls : Array Slot} {rest : List Value} {Ts : List Cond} {own ref : String} {G : va_G} {cy : Nat → ClassId} {κ : Nat → Nat} {A : Nat → Prop} {S : PS} {a k0 k index oq : Nat} {cL : ClassId}
theorem r_last2 (X : Cx p c cc nL s args Ts own m G cy κ A) (hw : Wd G cy A s.heap S H locs) (hkl : Kl cL s) (hLA : LA cL oq H) (hoq : oq ∉ pL S) (hAo : A oq) {v : Int64} (hdg : decode cc pc = .ok (.lastore, 1))
    (kk : ∀ (H1 : Heap) (locs1 : List Loc), Wd G cy A s.heap S H1 locs1 → LAv cL oq v H1 → W p l e R s m args below meth c H1 locs1 cells slots Q (F0 m (pc + 1) ls rest)) : W p l e R s m args below meth c H locs cells slots Q (F0 m pc ls (.long v :: .int 0 :: .ref oq :: rest)) := by
  obtain ⟨f, hf⟩ := hLA
  obtain ⟨hx, hb, -, hts, hown, hK, -⟩ := X
  obtain ⟨hP, hD, hS⟩ := hw
  have hP2 : va_P G vwCl [(oq, .inl (cL, 1, .inr (.inl f)))] H := fun k q hk => by
    obtain ⟨-, rfl⟩ := one_get hk
    exact hf
  have hD2 : va_D A [(oq, (.inl (cL, 1, .inr (.inl f)) : va_E))] := ⟨fun i j p q hi hj e => (one_get hi).1.trans (one_get hj).1.symm, fun k q hk => by
    obtain ⟨-, rfl⟩ := one_get hk
    exact hAo⟩
  have hK2 : va_K G vwCl [(cL, .long)] s := ⟨hK.1, fun k q hk => by
    obtain ⟨-, rfl⟩ := one_get hk
    exact hkl⟩
  refine va_last (D := G) hx hb hK2 (hP.app hP2) (hD.app hD2 (fun i j p q hi hj e => hoq (by
    have h1 := pl_mem hi
    obtain ⟨-, rfl⟩ := one_get hj
    rw [e] at h1
    exact h1))) hS (pool cy S).length 0 (cA := cL) (n := 1) (f := f) (by simp) rfl (vp_in_iff.mpr (by decide +kernel)) hdg (fun H1 locs1 hP1 hD1 hS1 => ?_)
  rw [show ((pool cy S) ++ [(oq, (.inl (cL, 1, .inr (.inl f)) : va_E))]).set (pool cy S).length (oq, .inl (cL, 1, .inr (.inl (vp_updL f (Int32.toNatClampNeg 0) v)))) = (pool cy S) ++ [(oq, .inl (cL, 1, .inr (.inl (vp_updL f (Int32.toNatClampNeg 0) v))))] by simp] at hP1 hD1
  exact kk H1 locs1 ⟨va_P_l hP1, va_D_l hD1, hS1⟩ ⟨_, if_pos (by decide), va_P_r hP1 0 _ rfl⟩
theorem r_lald (X : Cx p c cc nL s args Ts own m G cy κ A) (hw : Wd G cy A s.heap S H locs) (hkl : Kl cL s) {v : Int64} (hLA : LAv cL oq v H) (hdg : decode cc pc = .ok (.laload, 1))
    (kk : W p l e R s m args below meth c H locs cells slots Q (F0 m (pc + 1) ls (.long v :: rest))) : W p l e R s m args below meth c H locs cells slots Q (F0 m pc ls (.int 0 :: .ref oq :: rest)) := by
  obtain ⟨f, hv, hf⟩ := hLA
  obtain ⟨hx, hb, -, hts, hown, hK, -⟩ := X
  have hP2 : va_P G vwCl [(oq, .inl (cL, 1, .inr (.inl f)))] H := fun k q hk => by
    obtain ⟨-, rfl⟩ := one_get hk
    exact hf
  have hK2 : va_K G vwCl [(cL, .long)] s := ⟨hK.1, fun k q hk => by
    obtain ⟨-, rfl⟩ := one_get hk
    exact hkl⟩
  refine va_lald (D := G) hx hb hK2 hP2 0 0 (cA := cL) (n := 1) (f := f) rfl rfl (vp_in_iff.mpr (by decide +kernel)) hdg ?_
  rw [show f (Int32.toNatClampNeg 0) = v from (congrArg f (by decide)).trans hv]
  exact kk
end LROWS6
theorem LAv_keep {cL : ClassId} {oq : Nat} {v : Int64} {H H1 : Heap} {S : PS} (h : LAv cL oq v H) (ho : oq ∉ pL S) (hfr : ∀ q, q < H.size → q ∉ pL S → H1[q]? = H[q]?) : LAv cL oq v H1 := by
  obtain ⟨f, hv, hf⟩ := h
  exact ⟨f, hv, (hfr oq (Array.getElem?_eq_some_iff.mp hf).1 ho).trans hf⟩
theorem cmp_eq {x y : Int64} {v : Int32} (e : v = lg_cmp x y) (h : x = y) : v = 0 := by
  subst h
  rw [e]
  simp [lg_cmp]

set_option maxHeartbeats 4000000 in
set_option maxRecDepth 100000 in
theorem k_L_fineness2 (l : Launch) (hst : l.stackTraces = false) (G : va_G) (cy : Nat → ClassId) (κ : Nat → Nat) (S : PS) (sz : Nat) (x : Nat) (a1 a2 a3 : Int32) (oq : Nat) (cL : ClassId) (hG : GX S) (ha_x : At S x 11) (hoq : oq ∉ pL S) : Met l yL_fineness wsL_fineness ({ frames := 13, cells := 1, slots := 6, locals := 624 }) (va_Pc [.ref x, .int (a1), .int (a2), .int (a3), .ref oq] (Qo G cy κ S sz oq cL)) (va_Qi (fun (r : Int32) (u : PS × Int64) => S = u.1 ∧ ((r = 1 ∧ (CN S x → ¬ FC S x a1.toInt a2.toInt a3.toInt)) ∨ (r = 0 ∧ ∃ v : Int32, (FC S x a1.toInt a2.toInt a3.toInt ∧ FV S x a1.toInt a2.toInt a3 v) ∧ u.2 = v.toInt64))) (Bo2 G cy S sz oq cL) (AS2 S sz oq)) 1 6 (AS2 S sz oq) := by
  refine va_MetW (cc := cL_fineness) (maxL := 6) (ret := (some .int)) (hh := [(0, 12, 15, 13)]) (by decide) rfl ?_
  intro p e s m args below meth c s₁ B hml hv
  obtain ⟨rfl, hsz, hP, hK, hD, hNG, hCs, hdc, hkl, hLA⟩ := hv
  subst hsz
  have hts := atoms_spec (ws := wsL_fineness) B.pre
  have htab : c.exceptionTable.toList = tableOf [(0, 12, 15, 13)] := vx_table (x := yL_fineness) B (hts _ List.mem_cons_self)
  have hl := lv_entry ([.ref x, .int (a1), .int (a2), .int (a3), .ref oq]) (n := 6) (Nat.le_of_ble_eq_true rfl)
  rw [lg_entry_eq]
  generalize (lg_sl ([.ref x, .int (a1), .int (a2), .int (a3), .ref oq]) ++ List.replicate (6 - (lg_sl ([.ref x, .int (a1), .int (a2), .int (a3), .ref oq])).length) Slot.unset).toArray = ls at hl ⊢
  have hl : lv_has ls 6 [(0, .ref x), (1, .int (a1)), (2, .int (a2)), (3, .int (a3)), (4, .ref oq)] := hl
  have X : Cx p c cL_fineness 6 s [.ref x, .int (a1), .int (a2), .int (a3), .ref oq].toArray wsL_fineness RL m G cy κ (AS2 S s.heap.size oq) := ⟨B.exec, B.bytes, hml, hts, findClass_of_methodNamed B.named, hK, fun q h => Or.inr (Or.inl h), hNG, hCs⟩
  have hw : Wd G cy (AS2 S s.heap.size oq) s.heap S s.heap [] := ⟨hP, hD.weaken (fun k q hk _ => Or.inl (pl_mem hk)), va_S.rf⟩
  have hlocks := B.notSynchronized
  have hr := B.returns
  have hlt : oq < s.heap.size := by obtain ⟨f, hf⟩ := hLA; exact (Array.getElem?_eq_some_iff.mp hf).1
  have hna : ¬ AS S s.heap.size oq := fun h => h.elim hoq (fun h => absurd hlt (Nat.not_lt.mpr h))
  refine lv_aload X.1 X.2.1 dL_fineness_0 (lv_at hl 4 rfl) ?_
  refine lv_iconst (v := 0) X.1 X.2.1 dL_fineness_2 (by decide) ?_
  refine lv_aload_n X.1 X.2.1 dL_fineness_3 rfl (lv_at hl 0 rfl) ?_
  refine lv_iload_n X.1 X.2.1 dL_fineness_4 rfl (lv_at hl 1 rfl) ?_
  refine lv_iload_n X.1 X.2.1 dL_fineness_5 rfl (lv_at hl 2 rfl) ?_
  refine lv_iload_n X.1 X.2.1 dL_fineness_6 rfl (lv_at hl 3 rfl) ?_
  refine vx_calli (vx_runV (As := [.int (a1), .int (a2), .int (a3)]) (rest := [.int 0, .ref oq]) (cfix X) (k_X11_fineness2 l hst G cy κ S _ x a1 _ a2 _ a3 _ hG ha_x rfl rfl rfl) (cwV 3 X.2.2.2.1 gL_fineness_X11_fineness rfl rfl rfl (by decide +kernel) ⟨Nat.le_of_ble_eq_true rfl, Nat.le_of_ble_eq_true rfl⟩) (pre_VE X hw hdc _ ha_x rfl (by decide) rfl) rfl rfl hl.1 rfl (lv_room (Nat.le_of_ble_eq_true rfl)) dL_fineness_7 ⟨Nat.le_of_ble_eq_true rfl, Nat.le_of_ble_eq_true rfl⟩) hw.2.2 (fun q _ h => as_in X hw q h) (as_in X hw) (fun q _ h => as_in X hw q h) (fun E ce q9 S2 t H1 locs1 ht hvm hpx hBX hz hk hS hc1 hc2 hc3 => ?_) (fun r u t H1 locs1 ht hvm hp hB hz hk hS => ?_)
  · have hb_0 := trivial
    obtain ⟨rfl, hB⟩ := hBX
    obtain ⟨rfl, hex⟩ := hpx
    have hw2 := bw_of X hw ht hB hS
    have hLA2 : LA cL oq H1 := by obtain ⟨f, hf⟩ := hLA; exact ⟨f, (hk oq hlt hna).trans hf⟩
    refine vx_catch (own := RL) (name := "java/lang/IndexOutOfBoundsException") X.2.2.2.2.1 [] ⟨0, 12, 15, 13⟩ [] (by rw [htab]; rfl) (fun z h => by cases h) (by decide) (by decide) (X.2.2.2.1 (.classLink RL 13 "java/lang/IndexOutOfBoundsException") (by decide +kernel)) (va_Nw.use rfl X.2.2.2.2.2.2.2.1.2.2.1) hc1 hc2 hc3 ?_
    refine lv_astore (lv' := [(5, .ref q9), (0, .ref x), (1, .int (a1)), (2, .int (a2)), (3, .int (a3)), (4, .ref oq)]) X.1 X.2.1 dL_fineness_15 hl (by decide) rfl (fun ls hl => ?_)
    refine lv_iconst (v := 1) X.1 X.2.1 dL_fineness_17 (by decide) ?_
    obtain ⟨f2, hf2⟩ := hLA2
    refine W.widen (k := 1) (n := 6) (Nat.le_of_ble_eq_true rfl) (Nat.le_of_ble_eq_true rfl) ?_
    exact W.iret X.1 X.2.1 hr (fun t ht hW => ⟨⟨1, (S, f2 0), rfl, ⟨rfl, Or.inl ⟨rfl, hex⟩⟩, ⟨by rw [ht]; exact hw2.1, hw2.2.1⟩, by rw [ht]; exact ⟨f2, rfl, hf2⟩⟩, hw2.2.2.F ht⟩) hw2.2.2.2.2 dL_fineness_18 hlocks
  · have hb_1 := trivial
    obtain ⟨rfl, hnv⟩ := hp
    have hw2 := bw_of X hw ht hB hS
    have hLA2 : LA cL oq H1 := by obtain ⟨f, hf⟩ := hLA; exact ⟨f, (hk oq hlt hna).trans hf⟩
    refine lv_i2l X.1 X.2.1 dL_fineness_10 rfl ?_
    refine lv_topl (fun v ev => ?_)
    refine r_last2 X hw2 hkl hLA2 hoq (Or.inr (Or.inr rfl)) dL_fineness_11 (fun H1 locs1 hw2 hLA2 => ?_)
    refine lv_goto (tgt := 19) X.1 X.2.1 dL_fineness_12 (by decide) ?_
    refine lv_iconst (v := 0) X.1 X.2.1 dL_fineness_19 (by decide) ?_
    refine W.widen (k := 1) (n := 6) (Nat.le_of_ble_eq_true rfl) (Nat.le_of_ble_eq_true rfl) ?_
    exact W.iret X.1 X.2.1 hr (fun t ht hW => ⟨⟨0, (S, v), rfl, ⟨rfl, Or.inr ⟨rfl, _, hnv, ev⟩⟩, ⟨by rw [ht]; exact hw2.1, hw2.2.1⟩, by rw [ht]; exact hLA2⟩, hw2.2.2.F ht⟩) hw2.2.2.2.2 dL_fineness_20 hlocks
