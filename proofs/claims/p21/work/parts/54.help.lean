/-! ===== the law's helpers that catch; the row of one long that they write ===== -/
def LA (cL : ClassId) (oq : Nat) (H : Heap) : Prop := ∃ f : Nat → Int64, H[oq]? = some (vp_cell cL (1, .inr (.inl f)))
def AS2 (S : PS) (sz oq : Nat) : Nat → Prop := fun q => q ∈ pL S ∨ sz ≤ q ∨ q = oq
def Kl (cL : ClassId) (U : State) : Prop := ArrOfT U cL .long ∧ va_RA U cL .long
def Qo (G : va_G) (cy : Nat → ClassId) (κ : Nat → Nat) (S : PS) (sz oq : Nat) (cL : ClassId) : State → Prop := fun U => U.heap.size = sz ∧ va_P G vwCl (pool cy S) U.heap ∧ va_K G vwCl (tysL cy) U ∧ va_D (fun _ => True) (pool cy S) ∧ NG U ∧ Cst κ (AS2 S sz oq) U U.heap ∧ (∀ Y ∈ DcL, va_Nw (.declares (Bundle.initS Y)) U) ∧ Kl cL U ∧ LA cL oq U.heap
def Bo (G : va_G) (cy : Nat → ClassId) (S : PS) (sz oq : Nat) (cL : ClassId) : PS → State → Prop := fun S' t => (va_P G vwCl (pool cy S') t.heap ∧ va_D (AS2 S sz oq) (pool cy S')) ∧ LA cL oq t.heap
theorem va_P_l {D : va_G} {cl : List vw_C} {w1 w2 : va_W} {H : Heap} (h : va_P D cl (w1 ++ w2) H) : va_P D cl w1 H := fun k q hk => h k q (by rw [List.getElem?_append_left (List.getElem?_eq_some_iff.mp hk).1]; exact hk)
theorem va_P_r {D : va_G} {cl : List vw_C} {w1 w2 : va_W} {H : Heap} (h : va_P D cl (w1 ++ w2) H) : va_P D cl w2 H := fun k q hk => h (w1.length + k) q (by rw [List.getElem?_append_right (by omega), show w1.length + k - w1.length = k by omega]; exact hk)
theorem va_D_l {A : Nat → Prop} {w1 w2 : va_W} (h : va_D A (w1 ++ w2)) : va_D A w1 := ⟨fun i j p q hi hj e => h.1 i j p q (by rw [List.getElem?_append_left (List.getElem?_eq_some_iff.mp hi).1]; exact hi) (by rw [List.getElem?_append_left (List.getElem?_eq_some_iff.mp hj).1]; exact hj) e, fun k q hk => h.2 k q (by rw [List.getElem?_append_left (List.getElem?_eq_some_iff.mp hk).1]; exact hk)⟩
theorem one_get {α : Type} {a q : α} {k : Nat} (h : ([a] : List α)[k]? = some q) : k = 0 ∧ q = a := by
  cases k with
  | zero => exact ⟨rfl, (Option.some.inj h).symm⟩
  | succ n => exact absurd h (by simp)
section LROWS3
variable {p : Program} {l : Launch} {e : Env} {R : Room} {s : State} {m : MethodId} {args : Array Value} {below : List Frame} {meth : Method} {c : Code} {H : Heap} {locs : List Loc} {cells slots : Nat} {Q : State → Prop}
variable {cc : ByteArray} {pc nL : Nat} {ls : Array Slot} {rest : List Value} {Ts : List Cond} {own ref : String} {G : va_G} {cy : Nat → ClassId} {κ : Nat → Nat} {A : Nat → Prop} {S : PS} {a k0 k index oq : Nat} {cL : ClassId}
theorem r_last (X : Cx p c cc nL s args Ts own m G cy κ A) (hw : Wd G cy A s.heap S H locs) (hkl : Kl cL s) (hLA : LA cL oq H) (hoq : oq ∉ pL S) (hAo : A oq) {v : Int64} (hdg : decode cc pc = .ok (.lastore, 1))
    (kk : ∀ (H1 : Heap) (locs1 : List Loc), Wd G cy A s.heap S H1 locs1 → LA cL oq H1 → W p l e R s m args below meth c H1 locs1 cells slots Q (F0 m (pc + 1) ls rest)) : W p l e R s m args below meth c H locs cells slots Q (F0 m pc ls (.long v :: .int 0 :: .ref oq :: rest)) := by
  obtain ⟨f, hf⟩ := hLA
  obtain ⟨hx, hb, -, hts, hown, hK, -⟩ := X
  obtain ⟨hP, hD, hS⟩ := hw
  have hP2 : va_P G vwCl [(oq, .inl (cL, 1, .inr (.inl f)))] H := fun k q hk => by
    obtain ⟨-, rfl⟩ := one_get hk
    exact hf
  have hD2 : va_D A [(oq, (.inl (cL, 1, .inr (.inl f)) : va_E))] := ⟨fun i j p q hi hj e => (one_get hi).1.trans (one_get hj).1.symm, fun k q hk => by
    obtain ⟨-, rfl⟩ := one_get hk
    exact hAo⟩
  have hK2 : va_K G vwCl [(cL, .long)] s := ⟨hK.1, fun k q hk => by
    obtain ⟨-, rfl⟩ := one_get hk
    exact hkl⟩
  refine va_last (D := G) hx hb hK2 (hP.app hP2) (hD.app hD2 (fun i j p q hi hj e => hoq (by
    have h1 := pl_mem hi
    obtain ⟨-, rfl⟩ := one_get hj
    rw [e] at h1
    exact h1))) hS (pool cy S).length 0 (cA := cL) (n := 1) (f := f) (by simp) rfl (vp_in_iff.mpr (by decide +kernel)) hdg (fun H1 locs1 hP1 hD1 hS1 => ?_)
  rw [show ((pool cy S) ++ [(oq, (.inl (cL, 1, .inr (.inl f)) : va_E))]).set (pool cy S).length (oq, .inl (cL, 1, .inr (.inl (vp_updL f (Int32.toNatClampNeg 0) v)))) = (pool cy S) ++ [(oq, .inl (cL, 1, .inr (.inl (vp_updL f (Int32.toNatClampNeg 0) v))))] by simp] at hP1 hD1
  exact kk H1 locs1 ⟨va_P_l hP1, va_D_l hD1, hS1⟩ ⟨_, va_P_r hP1 0 _ rfl⟩
end LROWS3
set_option maxRecDepth 20000 in
theorem ggL_fineness_X11_fineness : GoodIn wsL_fineness wsX11_fineness := goodIn_ca (goodIn_r _ [6, 7, 8, 9, 10, 11, 12, 5, 13, 14, 15, 16, 17, 18, 19, 20, 21, 22, 23, 24, 25, 26, 27, 28, 29, 30, 31, 32, 33, 34, 35, 36, 37, 38, 39, 40, 41, 42, 43, 44, 45] (by decide +kernel) (by decide +kernel)) (goodIn_sub (fun _ h => List.mem_cons_of_mem _ (List.mem_append_right _ h)) (by decide +kernel))
set_option maxRecDepth 20000 in
theorem gL_fineness_X11_fineness : GoodIn wsL_fineness (wsV RL 7 RX11 yX11_fineness wsX11_fineness) := goodIn_app (goodIn_of _ (by decide +kernel)) ggL_fineness_X11_fineness
theorem dL_fineness_0 : decode cL_fineness 0 = .ok (.aload 4, 2) := by decide +kernel
theorem dL_fineness_2 : decode cL_fineness 2 = .ok (.iconst 0, 1) := by decide +kernel
theorem dL_fineness_3 : decode cL_fineness 3 = .ok (.aload_n 0, 1) := by decide +kernel
theorem dL_fineness_4 : decode cL_fineness 4 = .ok (.iload_n 1, 1) := by decide +kernel
theorem dL_fineness_5 : decode cL_fineness 5 = .ok (.iload_n 2, 1) := by decide +kernel
theorem dL_fineness_6 : decode cL_fineness 6 = .ok (.iload_n 3, 1) := by decide +kernel
theorem dL_fineness_7 : decode cL_fineness 7 = .ok (.invokevirtual 7, 3) := by decide +kernel
theorem dL_fineness_10 : decode cL_fineness 10 = .ok (.i2l, 1) := by decide +kernel
theorem dL_fineness_11 : decode cL_fineness 11 = .ok (.lastore, 1) := by decide +kernel
theorem dL_fineness_12 : decode cL_fineness 12 = .ok (.goto 7, 3) := by decide +kernel
theorem dL_fineness_15 : decode cL_fineness 15 = .ok (.astore 5, 2) := by decide +kernel
theorem dL_fineness_17 : decode cL_fineness 17 = .ok (.iconst 1, 1) := by decide +kernel
theorem dL_fineness_18 : decode cL_fineness 18 = .ok (.ireturn, 1) := by decide +kernel
theorem dL_fineness_19 : decode cL_fineness 19 = .ok (.iconst 0, 1) := by decide +kernel
theorem dL_fineness_20 : decode cL_fineness 20 = .ok (.ireturn, 1) := by decide +kernel
set_option maxRecDepth 20000 in
theorem ggL_in_X11_in : GoodIn wiL_in wiX11_in := goodIn_ca (goodIn_r _ [6, 7, 8, 9, 10, 11, 5, 12, 13, 14, 15, 16, 17, 18, 19, 20, 21, 22, 23, 24, 25, 26, 27, 28, 29, 30, 31, 32, 33, 34, 35, 36, 37, 38, 39, 40, 41, 42, 43, 44, 45, 46, 47, 48, 49, 50, 51, 52, 53, 54, 55, 56, 57, 58, 59, 60, 61, 62, 63, 64, 65, 66, 67, 68, 69, 70, 71, 72, 73, 74, 75, 76, 77, 78] (by decide +kernel) (by decide +kernel)) (goodIn_sub (fun _ h => List.mem_cons_of_mem _ (List.mem_append_right _ h)) (by decide +kernel))
set_option maxRecDepth 20000 in
theorem gL_in_X11_in : GoodIn wiL_in (wsV RL 15 RX11 yX11_in wiX11_in) := goodIn_app (goodIn_of _ (by decide +kernel)) ggL_in_X11_in
theorem dL_in_0 : decode cL_in 0 = .ok (.aload 4, 2) := by decide +kernel
theorem dL_in_2 : decode cL_in 2 = .ok (.iconst 0, 1) := by decide +kernel
theorem dL_in_3 : decode cL_in 3 = .ok (.aload_n 0, 1) := by decide +kernel
theorem dL_in_4 : decode cL_in 4 = .ok (.iload_n 1, 1) := by decide +kernel
theorem dL_in_5 : decode cL_in 5 = .ok (.iload_n 2, 1) := by decide +kernel
theorem dL_in_6 : decode cL_in 6 = .ok (.iload_n 3, 1) := by decide +kernel
theorem dL_in_7 : decode cL_in 7 = .ok (.invokevirtual 15, 3) := by decide +kernel
theorem dL_in_10 : decode cL_in 10 = .ok (.i2l, 1) := by decide +kernel
theorem dL_in_11 : decode cL_in 11 = .ok (.lastore, 1) := by decide +kernel
theorem dL_in_12 : decode cL_in 12 = .ok (.goto 7, 3) := by decide +kernel
theorem dL_in_15 : decode cL_in 15 = .ok (.astore 5, 2) := by decide +kernel
theorem dL_in_17 : decode cL_in 17 = .ok (.iconst 1, 1) := by decide +kernel
theorem dL_in_18 : decode cL_in 18 = .ok (.ireturn, 1) := by decide +kernel
theorem dL_in_19 : decode cL_in 19 = .ok (.iconst 0, 1) := by decide +kernel
theorem dL_in_20 : decode cL_in 20 = .ok (.ireturn, 1) := by decide +kernel
set_option maxHeartbeats 4000000 in
set_option maxRecDepth 100000 in
theorem k_L_fineness (l : Launch) (hst : l.stackTraces = false) (G : va_G) (cy : Nat → ClassId) (κ : Nat → Nat) (S : PS) (sz : Nat) (x : Nat) (a1 a2 a3 : Int32) (oq : Nat) (cL : ClassId) (hG : GX S) (ha_x : At S x 11) (hoq : oq ∉ pL S) : Met l yL_fineness wsL_fineness ({ frames := 13, cells := 1, slots := 6, locals := 624 }) (va_Pc [.ref x, .int (a1), .int (a2), .int (a3), .ref oq] (Qo G cy κ S sz oq cL)) (va_Qi (fun (r : Int32) (S9 : PS) => S = S9) (Bo G cy S sz oq cL) (AS2 S sz oq)) 1 6 (AS2 S sz oq) := by
  refine va_MetW (cc := cL_fineness) (maxL := 6) (ret := (some .int)) (hh := [(0, 12, 15, 13)]) (by decide) rfl ?_
  intro p e s m args below meth c s₁ B hml hv
  obtain ⟨rfl, hsz, hP, hK, hD, hNG, hCs, hdc, hkl, hLA⟩ := hv
  subst hsz
  have hts := atoms_spec (ws := wsL_fineness) B.pre
  have htab : c.exceptionTable.toList = tableOf [(0, 12, 15, 13)] := vx_table (x := yL_fineness) B (hts _ List.mem_cons_self)
  have hl := lv_entry ([.ref x, .int (a1), .int (a2), .int (a3), .ref oq]) (n := 6) (Nat.le_of_ble_eq_true rfl)
  rw [lg_entry_eq]
  generalize (lg_sl ([.ref x, .int (a1), .int (a2), .int (a3), .ref oq]) ++ List.replicate (6 - (lg_sl ([.ref x, .int (a1), .int (a2), .int (a3), .ref oq])).length) Slot.unset).toArray = ls at hl ⊢
  have hl : lv_has ls 6 [(0, .ref x), (1, .int (a1)), (2, .int (a2)), (3, .int (a3)), (4, .ref oq)] := hl
  have X : Cx p c cL_fineness 6 s [.ref x, .int (a1), .int (a2), .int (a3), .ref oq].toArray wsL_fineness RL m G cy κ (AS2 S s.heap.size oq) := ⟨B.exec, B.bytes, hml, hts, findClass_of_methodNamed B.named, hK, fun q h => Or.inr (Or.inl h), hNG, hCs⟩
  have hw : Wd G cy (AS2 S s.heap.size oq) s.heap S s.heap [] := ⟨hP, hD.weaken (fun k q hk _ => Or.inl (pl_mem hk)), va_S.rf⟩
  have hlocks := B.notSynchronized
  have hr := B.returns
  have hlt : oq < s.heap.size := by obtain ⟨f, hf⟩ := hLA; exact (Array.getElem?_eq_some_iff.mp hf).1
  have hna : ¬ AS S s.heap.size oq := fun h => h.elim hoq (fun h => absurd hlt (Nat.not_lt.mpr h))
  refine lv_aload X.1 X.2.1 dL_fineness_0 (lv_at hl 4 rfl) ?_
  refine lv_iconst (v := 0) X.1 X.2.1 dL_fineness_2 (by decide) ?_
  refine lv_aload_n X.1 X.2.1 dL_fineness_3 rfl (lv_at hl 0 rfl) ?_
  refine lv_iload_n X.1 X.2.1 dL_fineness_4 rfl (lv_at hl 1 rfl) ?_
  refine lv_iload_n X.1 X.2.1 dL_fineness_5 rfl (lv_at hl 2 rfl) ?_
  refine lv_iload_n X.1 X.2.1 dL_fineness_6 rfl (lv_at hl 3 rfl) ?_
  refine vx_calli (vx_runV (As := [.int (a1), .int (a2), .int (a3)]) (rest := [.int 0, .ref oq]) (cfix X) (k_X11_fineness l hst G cy κ S _ x a1 _ a2 _ a3 _ hG ha_x rfl rfl rfl) (cwV 3 X.2.2.2.1 gL_fineness_X11_fineness rfl rfl rfl (by decide +kernel) ⟨Nat.le_of_ble_eq_true rfl, Nat.le_of_ble_eq_true rfl⟩) (pre_VE X hw hdc _ ha_x rfl (by decide) rfl) rfl rfl hl.1 rfl (lv_room (Nat.le_of_ble_eq_true rfl)) dL_fineness_7 ⟨Nat.le_of_ble_eq_true rfl, Nat.le_of_ble_eq_true rfl⟩) hw.2.2 (fun q _ h => as_in X hw q h) (as_in X hw) (fun q _ h => as_in X hw q h) (fun E ce q9 S2 t H1 locs1 ht hvm hpx hBX hz hk hS hc1 hc2 hc3 => ?_) (fun r u t H1 locs1 ht hvm hp hB hz hk hS => ?_)
  · have hb_0 := trivial
    obtain ⟨rfl, hB⟩ := hBX
    subst hpx
    have hw2 := bw_of X hw ht hB hS
    have hLA2 : LA cL oq H1 := by obtain ⟨f, hf⟩ := hLA; exact ⟨f, (hk oq hlt hna).trans hf⟩
    refine vx_catch (own := RL) (name := "java/lang/IndexOutOfBoundsException") X.2.2.2.2.1 [] ⟨0, 12, 15, 13⟩ [] (by rw [htab]; rfl) (fun z h => by cases h) (by decide) (by decide) (X.2.2.2.1 (.classLink RL 13 "java/lang/IndexOutOfBoundsException") (by decide +kernel)) (va_Nw.use rfl X.2.2.2.2.2.2.2.1.2.2.1) hc1 hc2 hc3 ?_
    refine lv_astore (lv' := [(5, .ref q9), (0, .ref x), (1, .int (a1)), (2, .int (a2)), (3, .int (a3)), (4, .ref oq)]) X.1 X.2.1 dL_fineness_15 hl (by decide) rfl (fun ls hl => ?_)
    refine lv_iconst (v := 1) X.1 X.2.1 dL_fineness_17 (by decide) ?_
    refine W.widen (k := 1) (n := 6) (Nat.le_of_ble_eq_true rfl) (Nat.le_of_ble_eq_true rfl) ?_
    exact W.iret X.1 X.2.1 hr (fun t ht hW => ⟨⟨1, S, rfl, rfl, ⟨by rw [ht]; exact hw2.1, hw2.2.1⟩, by rw [ht]; exact hLA2⟩, hw2.2.2.F ht⟩) hw2.2.2.2.2 dL_fineness_18 hlocks
  · have hb_1 := trivial
    obtain ⟨rfl, -⟩ := hp
    have hw2 := bw_of X hw ht hB hS
    have hLA2 : LA cL oq H1 := by obtain ⟨f, hf⟩ := hLA; exact ⟨f, (hk oq hlt hna).trans hf⟩
    refine lv_i2l X.1 X.2.1 dL_fineness_10 rfl ?_
    refine lv_topl (fun v ev => ?_)
    refine r_last X hw2 hkl hLA2 hoq (Or.inr (Or.inr rfl)) dL_fineness_11 (fun H1 locs1 hw2 hLA2 => ?_)
    refine lv_goto (tgt := 19) X.1 X.2.1 dL_fineness_12 (by decide) ?_
    refine lv_iconst (v := 0) X.1 X.2.1 dL_fineness_19 (by decide) ?_
    refine W.widen (k := 1) (n := 6) (Nat.le_of_ble_eq_true rfl) (Nat.le_of_ble_eq_true rfl) ?_
    exact W.iret X.1 X.2.1 hr (fun t ht hW => ⟨⟨0, S, rfl, rfl, ⟨by rw [ht]; exact hw2.1, hw2.2.1⟩, by rw [ht]; exact hLA2⟩, hw2.2.2.F ht⟩) hw2.2.2.2.2 dL_fineness_20 hlocks
set_option maxHeartbeats 4000000 in
set_option maxRecDepth 100000 in
theorem k_L_in (l : Launch) (hst : l.stackTraces = false) (G : va_G) (cy : Nat → ClassId) (κ : Nat → Nat) (S : PS) (sz : Nat) (x : Nat) (a1 a2 a3 : Int32) (oq : Nat) (cL : ClassId) (hG : GX S) (ha_x : At S x 11) (hoq : oq ∉ pL S) : Met l yL_in wiL_in ({ frames := 13, cells := 1, slots := 6, locals := 624 }) (va_Pc [.ref x, .int (a1), .int (a2), .int (a3), .ref oq] (Qo G cy κ S sz oq cL)) (va_Qi (fun (r : Int32) (S9 : PS) => S = S9) (Bo G cy S sz oq cL) (AS2 S sz oq)) 1 6 (AS2 S sz oq) := by
  refine va_MetW (cc := cL_in) (maxL := 6) (ret := (some .int)) (hh := [(0, 12, 15, 18)]) (by decide) rfl ?_
  intro p e s m args below meth c s₁ B hml hv
  obtain ⟨rfl, hsz, hP, hK, hD, hNG, hCs, hdc, hkl, hLA⟩ := hv
  subst hsz
  have hts := atoms_spec (ws := wiL_in) B.pre
  have htab : c.exceptionTable.toList = tableOf [(0, 12, 15, 18)] := vx_table (x := yL_in) B (hts _ List.mem_cons_self)
  have hl := lv_entry ([.ref x, .int (a1), .int (a2), .int (a3), .ref oq]) (n := 6) (Nat.le_of_ble_eq_true rfl)
  rw [lg_entry_eq]
  generalize (lg_sl ([.ref x, .int (a1), .int (a2), .int (a3), .ref oq]) ++ List.replicate (6 - (lg_sl ([.ref x, .int (a1), .int (a2), .int (a3), .ref oq])).length) Slot.unset).toArray = ls at hl ⊢
  have hl : lv_has ls 6 [(0, .ref x), (1, .int (a1)), (2, .int (a2)), (3, .int (a3)), (4, .ref oq)] := hl
  have X : Cx p c cL_in 6 s [.ref x, .int (a1), .int (a2), .int (a3), .ref oq].toArray wiL_in RL m G cy κ (AS2 S s.heap.size oq) := ⟨B.exec, B.bytes, hml, hts, findClass_of_methodNamed B.named, hK, fun q h => Or.inr (Or.inl h), hNG, hCs⟩
  have hw : Wd G cy (AS2 S s.heap.size oq) s.heap S s.heap [] := ⟨hP, hD.weaken (fun k q hk _ => Or.inl (pl_mem hk)), va_S.rf⟩
  have hlocks := B.notSynchronized
  have hr := B.returns
  have hlt : oq < s.heap.size := by obtain ⟨f, hf⟩ := hLA; exact (Array.getElem?_eq_some_iff.mp hf).1
  have hna : ¬ AS S s.heap.size oq := fun h => h.elim hoq (fun h => absurd hlt (Nat.not_lt.mpr h))
  refine lv_aload X.1 X.2.1 dL_in_0 (lv_at hl 4 rfl) ?_
  refine lv_iconst (v := 0) X.1 X.2.1 dL_in_2 (by decide) ?_
  refine lv_aload_n X.1 X.2.1 dL_in_3 rfl (lv_at hl 0 rfl) ?_
  refine lv_iload_n X.1 X.2.1 dL_in_4 rfl (lv_at hl 1 rfl) ?_
  refine lv_iload_n X.1 X.2.1 dL_in_5 rfl (lv_at hl 2 rfl) ?_
  refine lv_iload_n X.1 X.2.1 dL_in_6 rfl (lv_at hl 3 rfl) ?_
  refine vx_calli (vx_runV (As := [.int (a1), .int (a2), .int (a3)]) (rest := [.int 0, .ref oq]) (cfix X) (k_X11_in l hst G cy κ S _ x a1 _ a2 _ a3 _ hG ha_x rfl rfl rfl) (cwV 3 X.2.2.2.1 gL_in_X11_in rfl rfl rfl (by decide +kernel) ⟨Nat.le_of_ble_eq_true rfl, Nat.le_of_ble_eq_true rfl⟩) (pre_VE X hw hdc _ ha_x rfl (by decide) rfl) rfl rfl hl.1 rfl (lv_room (Nat.le_of_ble_eq_true rfl)) dL_in_7 ⟨Nat.le_of_ble_eq_true rfl, Nat.le_of_ble_eq_true rfl⟩) hw.2.2 (fun q _ h => as_in X hw q h) (as_in X hw) (fun q _ h => as_in X hw q h) (fun E ce q9 S2 t H1 locs1 ht hvm hpx hBX hz hk hS hc1 hc2 hc3 => ?_) (fun r u t H1 locs1 ht hvm hp hB hz hk hS => ?_)
  · have hb_0 := trivial
    obtain ⟨rfl, hB⟩ := hBX
    subst hpx
    have hw2 := bw_of X hw ht hB hS
    have hLA2 : LA cL oq H1 := by obtain ⟨f, hf⟩ := hLA; exact ⟨f, (hk oq hlt hna).trans hf⟩
    refine vx_catch (own := RL) (name := "java/util/NoSuchElementException") X.2.2.2.2.1 [] ⟨0, 12, 15, 18⟩ [] (by rw [htab]; rfl) (fun z h => by cases h) (by decide) (by decide) (X.2.2.2.1 (.classLink RL 18 "java/util/NoSuchElementException") (by decide +kernel)) (va_Nw.use rfl X.2.2.2.2.2.2.2.1.2.2.2.1) hc1 hc2 hc3 ?_
    refine lv_astore (lv' := [(5, .ref q9), (0, .ref x), (1, .int (a1)), (2, .int (a2)), (3, .int (a3)), (4, .ref oq)]) X.1 X.2.1 dL_in_15 hl (by decide) rfl (fun ls hl => ?_)
    refine lv_iconst (v := 1) X.1 X.2.1 dL_in_17 (by decide) ?_
    refine W.widen (k := 1) (n := 6) (Nat.le_of_ble_eq_true rfl) (Nat.le_of_ble_eq_true rfl) ?_
    exact W.iret X.1 X.2.1 hr (fun t ht hW => ⟨⟨1, S, rfl, rfl, ⟨by rw [ht]; exact hw2.1, hw2.2.1⟩, by rw [ht]; exact hLA2⟩, hw2.2.2.F ht⟩) hw2.2.2.2.2 dL_in_18 hlocks
  · have hb_1 := trivial
    obtain ⟨rfl, -⟩ := hp
    have hw2 := bw_of X hw ht hB hS
    have hLA2 : LA cL oq H1 := by obtain ⟨f, hf⟩ := hLA; exact ⟨f, (hk oq hlt hna).trans hf⟩
    refine lv_i2l X.1 X.2.1 dL_in_10 rfl ?_
    refine lv_topl (fun v ev => ?_)
    refine r_last X hw2 hkl hLA2 hoq (Or.inr (Or.inr rfl)) dL_in_11 (fun H1 locs1 hw2 hLA2 => ?_)
    refine lv_goto (tgt := 19) X.1 X.2.1 dL_in_12 (by decide) ?_
    refine lv_iconst (v := 0) X.1 X.2.1 dL_in_19 (by decide) ?_
    refine W.widen (k := 1) (n := 6) (Nat.le_of_ble_eq_true rfl) (Nat.le_of_ble_eq_true rfl) ?_
    exact W.iret X.1 X.2.1 hr (fun t ht hW => ⟨⟨0, S, rfl, rfl, ⟨by rw [ht]; exact hw2.1, hw2.2.1⟩, by rw [ht]; exact hLA2⟩, hw2.2.2.F ht⟩) hw2.2.2.2.2 dL_in_20 hlocks
