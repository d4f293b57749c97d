/-! ===== the helper's row of one long, with what lies in it ===== -/
def LAv (cL : ClassId) (oq : Nat) (v : Int64) (H : Heap) : Prop := ∃ f : Nat → Int64, f 0 = v ∧ H[oq]? = some (vp_cell cL (1, .inr (.inl f)))
theorem LAv.la {cL : ClassId} {oq : Nat} {v : Int64} {H : Heap} (h : LAv cL oq v H) : LA cL oq H := by
  obtain ⟨f, -, hf⟩ := h
  exact ⟨f, hf⟩
def Bo2 (G : va_G) (cy : Nat → ClassId) (S : PS) (sz oq : Nat) (cL : ClassId) : PS × Int64 → State → Prop := fun u t => (va_P G vwCl (pool cy u.1) t.heap ∧ va_D (AS2 S sz oq) (pool cy u.1)) ∧ LAv cL oq u.2 t.heap
section LROWS6
variable {p : Program} {l : Launch} {e : Env} {R : Room} {s : State} {m : MethodId} {args : Array Value} {below : List Frame} {meth : Method} {c : Code} {H : Heap} {locs : List Loc} {cells slots : Nat} {Q : State → Prop}
variable {cc : ByteArray} {pc nL : Nat} {ls : Array Slot} {rest : List Value} {Ts : List Cond} {own ref : String} {G : va_G} {cy : Nat → ClassId} {κ : Nat → Nat} {A : Nat → Prop} {S : PS} {a k0 k index oq : Nat} {cL : ClassId}
theorem r_last2 (X : Cx p c cc nL s args Ts own m G cy κ A) (hw : Wd G cy A s.heap S H locs) (hkl : Kl cL s) (hLA : LA cL oq H) (hoq : oq ∉ pL S) (hAo : A oq) {v : Int64} (hdg : decode cc pc = .ok (.lastore, 1))
    (kk : ∀ (H1 : Heap) (locs1 : List Loc), Wd G cy A s.heap S H1 locs1 → LAv cL oq v H1 → W p l e R s m args below meth c H1 locs1 cells slots Q (F0 m (pc + 1) ls rest)) : W p l e R s m args below meth c H locs cells slots Q (F0 m pc ls (.long v :: .int 0 :: .ref oq :: rest)) := by
  obtain ⟨f, hf⟩ := hLA
  obtain ⟨hx, hb, -, hts, hown, hK, -⟩ := X
  obtain ⟨hP, hD, hS⟩ := hw
  have hP2 : va_P G vwCl [(oq, .inl (cL, 1, .inr (.inl f)))] H := fun k q hk => by
    obtain ⟨-, rfl⟩ := one_get hk
    exact hf
  have hD2 : va_D A [(oq, (.inl (cL, 1, .inr (.inl f)) : va_E))] := ⟨fun i j p q hi hj e => (one_get hi).1.trans (one_get hj).1.symm, fun k q hk => by
    obtain ⟨-, rfl⟩ := one_get hk
    exact hAo⟩
  have hK2 : va_K G vwCl [(cL, .long)] s := ⟨hK.1, fun k q hk => by
    obtain ⟨-, rfl⟩ := one_get hk
    exact hkl⟩
  refine va_last (D := G) hx hb hK2 (hP.app hP2) (hD.app hD2 (fun i j p q hi hj e => hoq (by
    have h1 := pl_mem hi
    obtain ⟨-, rfl⟩ := one_get hj
    rw [e] at h1
    exact h1))) hS (pool cy S).length 0 (cA := cL) (n := 1) (f := f) (by simp) rfl (vp_in_iff.mpr (by decide +kernel)) hdg (fun H1 locs1 hP1 hD1 hS1 => ?_)
  rw [show ((pool cy S) ++ [(oq, (.inl (cL, 1, .inr (.inl f)) : va_E))]).set (pool cy S).length (oq, .inl (cL, 1, .inr (.inl (vp_updL f (Int32.toNatClampNeg 0) v)))) = (pool cy S) ++ [(oq, .inl (cL, 1, .inr (.inl (vp_updL f (Int32.toNatClampNeg 0) v))))] by simp] at hP1 hD1
  exact kk H1 locs1 ⟨va_P_l hP1, va_D_l hD1, hS1⟩ ⟨_, if_pos (by decide), va_P_r hP1 0 _ rfl⟩
theorem r_lald (X : Cx p c cc nL s args Ts own m G cy κ A) (hw : Wd G cy A s.heap S H locs) (hkl : Kl cL s) {v : Int64} (hLA : LAv cL oq v H) (hdg : decode cc pc = .ok (.laload, 1))
    (kk : W p l e R s m args below meth c H locs cells slots Q (F0 m (pc + 1) ls (.long v :: rest))) : W p l e R s m args below meth c H locs cells slots Q (F0 m pc ls (.int 0 :: .ref oq :: rest)) := by
  obtain ⟨f, hv, hf⟩ := hLA
  obtain ⟨hx, hb, -, hts, hown, hK, -⟩ := X
  have hP2 : va_P G vwCl [(oq, .inl (cL, 1, .inr (.inl f)))] H := fun k q hk => by
    obtain ⟨-, rfl⟩ := one_get hk
    exact hf
  have hK2 : va_K G vwCl [(cL, .long)] s := ⟨hK.1, fun k q hk => by
    obtain ⟨-, rfl⟩ := one_get hk
    exact hkl⟩
  refine va_lald (D := G) hx hb hK2 hP2 0 0 (cA := cL) (n := 1) (f := f) rfl rfl (vp_in_iff.mpr (by decide +kernel)) hdg ?_
  rw [show f (Int32.toNatClampNeg 0) = v from (congrArg f (by decide)).trans hv]
  exact kk
end LROWS6
theorem LAv_keep {cL : ClassId} {oq : Nat} {v : Int64} {H H1 : Heap} {S : PS} (h : LAv cL oq v H) (ho : oq ∉ pL S) (hfr : ∀ q, q < H.size → q ∉ pL S → H1[q]? = H[q]?) : LAv cL oq v H1 := by
  obtain ⟨f, hv, hf⟩ := h
  exact ⟨f, hv, (hfr oq (Array.getElem?_eq_some_iff.mp hf).1 ho).trans hf⟩
theorem cmp_eq {x y : Int64} {v : Int32} (e : v = lg_cmp x y) (h : x = y) : v = 0 := by
  subst h
  rw [e]
  simp [lg_cmp]
theorem dX12_thrown_0 : decode cX12_thrown 0 = .ok (.aload_n 0, 1) := by decide +kernel
theorem dX12_thrown_1 : decode cX12_thrown 1 = .ok (.getfield 161, 3) := by decide +kernel
theorem dX12_thrown_4 : decode cX12_thrown 4 = .ok (.ireturn, 1) := by decide +kernel
theorem inn_X12_thrown_12 : ∀ w ∈ u_ws RX12 TX12 66, w ∈ wsX12_thrown := fun w h => List.mem_cons_of_mem _ (List.mem_append_right _ h)
set_option maxHeartbeats 4000000 in
set_option maxRecDepth 100000 in
theorem k_X12_thrown (l : Launch) (G : va_G) (cy : Nat → ClassId) (κ : Nat → Nat) (S : PS) (sz : Nat) (x : Nat) (hG : GX S) (ha_x : At S x 12) : Ci l yX12_thrown wsX12_thrown ({ frames := 1, cells := 0, slots := 0, locals := 48 }) G cy κ S sz [.ref x] (fun (r : Int32) (S9 : PS) => S = S9 ∧ (r = pI S 1200 x)) := by
  refine ent_m (cc := cX12_thrown) (maxL := 1) (ret := (some .int)) (by decide) rfl (Nat.le_of_ble_eq_true rfl) ?_
  intro p e s m below meth c ls X hr hlocks hin hw hl hsz
  subst hsz
  have X : Cx p c cX12_thrown 1 s [.ref x].toArray wsX12_thrown RX12 m G cy κ (AS S s.heap.size) := X
  have hl : lv_has ls 1 [(0, .ref x)] := hl
  refine lv_aload_n X.1 X.2.1 dX12_thrown_0 rfl (lv_at hl 0 rfl) ?_
  obtain ⟨v_1, ev_1⟩ : ∃ v, pI S 1200 x = v := ⟨_, rfl⟩
  have rg_3 := And.intro (z_lo v_1) (z_hi v_1)
  refine r_getI (g := 1200) (x := v_1) X hw ha_x rfl 0 ev_1 (by decide) rfl inn_X12_thrown_12 (by decide) (X.2.2.2.1 (.fieldLink RX12 161 "SilkMillModel" "thrown" "I") (by decide +kernel)) rfl (gv_1200 _ _) dX12_thrown_1 ?_
  exact ret_i X hw hr hlocks (Nat.le_of_ble_eq_true rfl) (Nat.le_of_ble_eq_true rfl) ⟨rfl, ev_1.symm⟩ dX12_thrown_4
