/-! ===== what is made: the heap's cells and slots, and what may still be made ===== -/
def hs (H : Heap) : Nat := (H.toList.map (fun c => c.slots.size)).sum
theorem sum_take_drop (l : List Nat) (n : Nat) : l.sum = (l.take n).sum + (l.drop n).sum := by
  conv => lhs; rw [← List.take_append_drop n l]
  rw [List.sum_append]
theorem hs_new {s s' : State} {locs : List Loc} {cells slots : Nat} (h : s.sameButNew s' locs cells slots) : hs s'.heap = hs s.heap + ((s'.heap.toList.drop s.heap.size).map (·.slots.size)).sum := by
  unfold hs
  rw [sum_take_drop (s'.heap.toList.map fun c => c.slots.size) s.heap.size, ← List.map_drop, ← List.map_take]
  congr 2
  apply List.ext_getElem?
  intro i
  rw [List.getElem?_map, List.getElem?_map, List.getElem?_take]
  by_cases hi : i < s.heap.size
  · rw [if_pos hi, Array.getElem?_toList, Array.getElem?_toList]
    have e1 : s.heap[i]? = some (s.heap[i]) := Array.getElem?_eq_getElem hi
    obtain ⟨c', h1, -, h2, -⟩ := h.2.2.2.2.2 i _ e1
    rw [h1, e1]
    simp [h2]
  · rw [if_neg hi, Array.getElem?_toList, Array.getElem?_eq_none (Nat.not_lt.mp hi)]
section KNOW
variable {p : Program} {l : Launch} {e : Env} {R : Room} {s : State} {m : MethodId} {args : Array Value} {below : List Frame} {meth : Method} {c : Code} {H : Heap} {locs : List Loc} {cells slots : Nat} {Q : State → Prop} {g : JFrame}
theorem W.know (kk : s.heap.size ≤ H.size → H.size ≤ s.heap.size + cells → hs s.heap ≤ hs H → hs H ≤ hs s.heap + slots → W p l e R s m args below meth c H locs cells slots Q g) : W p l e R s m args below meth c H locs cells slots Q g := by
  intro T hT X
  have hn := hs_new X.same
  have h1 : (T.setVm s.vm).heap = H := hT
  rw [h1] at hn
  have h2 := X.same.2.2.2.2.1
  rw [h1] at h2
  have h3 := X.same.2.2.1
  rw [h1] at h3
  have h4 := X.same.2.1
  rw [h1] at h4
  exact kk h4 h3 (by omega) (by omega) T hT X
theorem W.narrow {k n : Nat} (h1 : H.size ≤ s.heap.size + k) (h2 : hs H ≤ hs s.heap + n) (kk : W p l e R s m args below meth c H locs k n Q g) : W p l e R s m args below meth c H locs cells slots Q g := by
  intro T hT X
  have hn := hs_new X.same
  have e1 : (T.setVm s.vm).heap = H := hT
  rw [e1] at hn
  refine kk T hT { X with same := ⟨X.same.1, X.same.2.1, ?_, X.same.2.2.2.1, ?_, X.same.2.2.2.2.2⟩ }
  · rw [e1]; exact h1
  · rw [e1]; omega
end KNOW
def fS (n : Nat) : Nat := if n < 3600 then 43200 - 8 * n else 0
def fC (n : Nat) : Nat := 4 * (3600 - n)
/-- what an object may still have made: a strand that grows, the store, the mill -/
def ph (f : Nat → Nat) (c8 c11 : Nat) (S : PS) (a : Nat) : Nat := if pK S a = 29 then (match pR S 905 a with | some q => f (pN S q) | none => 0) else if pK S a = 8 then (40 - (pI S 800 a).toInt.toNat) * c8 else if pK S a = 11 then (4 - (pI S 1104 a).toInt.toNat) * c11 else 0
def Ph (f : Nat → Nat) (c8 c11 : Nat) (S : PS) : Nat := ((pL S).map (ph f c8 c11 S)).sum
def Phc (S : PS) : Nat := Ph fC 8 14400 S
def Phs (S : PS) : Nat := Ph fS 15100 46000 S
section PHI
variable {f : Nat → Nat} {c8 c11 : Nat}
theorem Ph_congr {S S' : PS} (hL : pL S' = pL S) (h : ∀ a ∈ pL S, ph f c8 c11 S' a = ph f c8 c11 S a) : Ph f c8 c11 S' = Ph f c8 c11 S := by
  unfold Ph; rw [hL, List.map_congr_left h]
theorem Ph_push {S S' : PS} {q : Nat} (hL : pL S' = pL S ++ [q]) (h : ∀ a ∈ pL S, ph f c8 c11 S' a = ph f c8 c11 S a) : Ph f c8 c11 S' = Ph f c8 c11 S + ph f c8 c11 S' q := by
  unfold Ph; rw [hL, List.map_append, List.sum_append, List.map_congr_left h]; simp
theorem sum_one {l : List Nat} (hd : l.Nodup) {a : Nat} (ha : a ∈ l) {x y : Nat → Nat} (h : ∀ b ∈ l, b ≠ a → x b = y b) : (l.map x).sum + y a = (l.map y).sum + x a := by
  induction l with
  | nil => cases ha
  | cons b l ih =>
    rw [List.nodup_cons] at hd
    simp only [List.map_cons, List.sum_cons]
    by_cases hb : b = a
    · subst hb
      rw [List.map_congr_left (fun c hc => h c (List.mem_cons_of_mem _ hc) (fun e => hd.1 (e ▸ hc)))]
      omega
    · have h1 : a ∈ l := by
        rcases List.mem_cons.mp ha with e | e
        · exact absurd e.symm hb
        · exact e
      have h2 := ih hd.2 h1 (fun c hc => h c (List.mem_cons_of_mem _ hc))
      have h3 := h b List.mem_cons_self hb
      omega
theorem Ph_one {S S' : PS} {a : Nat} (hd : (pL S).Nodup) (ha : a ∈ pL S) (hL : pL S' = pL S) (h : ∀ b ∈ pL S, b ≠ a → ph f c8 c11 S' b = ph f c8 c11 S b) : Ph f c8 c11 S' + ph f c8 c11 S a = Ph f c8 c11 S + ph f c8 c11 S' a := by
  unfold Ph; rw [hL]; exact sum_one hd ha h
theorem ph_congr {S S' : PS} {a : Nat} (hK : pK S' a = pK S a) (h8 : pI S' 800 a = pI S 800 a) (h11 : pI S' 1104 a = pI S 1104 a) (hR : pR S' 905 a = pR S 905 a) (hN : ∀ q, pK S a = 29 → pR S 905 a = some q → pN S' q = pN S q) : ph f c8 c11 S' a = ph f c8 c11 S a := by
  unfold ph
  rw [hK, h8, h11, hR]
  by_cases h : pK S a = 29
  · rw [if_pos h, if_pos h]
    cases hq : pR S 905 a with
    | none => rfl
    | some q => show f (pN S' q) = f (pN S q); rw [hN q h hq]
  · rw [if_neg h, if_neg h]
theorem Ph_sI {S S1 : PS} {g a : Nat} {v : Int32} (e : S1 = sI S g a v) (h1 : Nat.beq 800 g = false) (h2 : Nat.beq 1104 g = false) : Ph f c8 c11 S1 = Ph f c8 c11 S := by
  subst e
  exact Ph_congr rfl (fun b _ => ph_congr rfl (pI_sI_nf (Nat.ne_of_beq_eq_false h1)) (pI_sI_nf (Nat.ne_of_beq_eq_false h2)) (by rw [pR_sI]) (fun _ _ _ => by rw [pN_sI]))
theorem Ph_sR {S S1 : PS} {g a : Nat} {v : Option Nat} (e : S1 = sR S g a v) (h1 : Nat.beq 905 g = false) : Ph f c8 c11 S1 = Ph f c8 c11 S := by
  subst e
  exact Ph_congr rfl (fun b _ => ph_congr rfl (by rw [pI_sR]) (by rw [pI_sR]) (pR_sR_nf (Nat.ne_of_beq_eq_false h1)) (fun _ _ _ => by rw [pN_sR]))
theorem Ph_sA {S S1 : PS} {a : Nat} {g : Nat → Int32} (e : S1 = sA S a g) : Ph f c8 c11 S1 = Ph f c8 c11 S := by
  subst e
  exact Ph_congr rfl (fun b _ => ph_congr rfl (by rw [pI_sA]) (by rw [pI_sA]) (by rw [pR_sA]) (fun _ _ _ => by rw [pN_sA]))
theorem Ph_sB {S S1 : PS} {a : Nat} {g : Nat → Option Nat} (e : S1 = sB S a g) : Ph f c8 c11 S1 = Ph f c8 c11 S := by
  subst e
  exact Ph_congr rfl (fun b _ => ph_congr rfl (by rw [pI_sB]) (by rw [pI_sB]) (by rw [pR_sB]) (fun _ _ _ => by rw [pN_sB]))
theorem codes_in {S : PS} (hG : GX S) {b q : Nat} (hb : b ∈ pL S) (hk : pK S b = 29) (hq : pR S 905 b = some q) : q ∈ pL S := by
  obtain ⟨q1, q2, q3, q4, n, a1, a2, a3, a4, b1, r⟩ := gGrw hG ⟨hb, hk⟩
  rw [hq] at a1; cases a1; exact b1.1
theorem Ph_sO {S S1 : PS} {q k : Nat} (hG : GX S) (hq : q ∉ pL S) (e : S1 = sO S q k) (hk : Nat.beq k 29 = false ∧ Nat.beq k 8 = false ∧ Nat.beq k 11 = false) : Ph f c8 c11 S1 = Ph f c8 c11 S := by
  subst e
  have h1 := Ph_push (f := f) (c8 := c8) (c11 := c11) (S := S) (S' := sO S q k) rfl (fun b hb => by
    have hne := ne_of_new hq hb
    exact ph_congr (if_neg hne) (pI_sO_ne hne) (pI_sO_ne hne) (pR_sO_ne hne) (fun _ _ _ => by rw [pN_sO]))
  rw [h1]
  have e2 : pK (sO S q k) q = k := if_pos rfl
  have : ph f c8 c11 (sO S q k) q = 0 := by
    unfold ph
    rw [e2, if_neg (Nat.ne_of_beq_eq_false hk.1), if_neg (Nat.ne_of_beq_eq_false hk.2.1), if_neg (Nat.ne_of_beq_eq_false hk.2.2)]
  omega
theorem Ph_sN {S S1 : PS} {q k n : Nat} (hG : GX S) (hq : q ∉ pL S) (e : S1 = sN S q k n) (hk : Nat.beq k 29 = false ∧ Nat.beq k 8 = false ∧ Nat.beq k 11 = false) : Ph f c8 c11 S1 = Ph f c8 c11 S := by
  subst e
  have h1 := Ph_push (f := f) (c8 := c8) (c11 := c11) (S := S) (S' := sN S q k n) rfl (fun b hb => by
    have hne := ne_of_new hq hb
    exact ph_congr (if_neg hne) (by rw [pI_sN]) (by rw [pI_sN]) (by rw [pR_sN]) (fun c hc hr => pN_sN_ne (ne_of_new hq (codes_in hG hb hc hr))))
  rw [h1]
  have e2 : pK (sN S q k n) q = k := if_pos rfl
  have : ph f c8 c11 (sN S q k n) q = 0 := by
    unfold ph
    rw [e2, if_neg (Nat.ne_of_beq_eq_false hk.1), if_neg (Nat.ne_of_beq_eq_false hk.2.1), if_neg (Nat.ne_of_beq_eq_false hk.2.2)]
  omega
theorem Ph_ok {M : List Nat} {S S' : PS} (hG : GX S) (h : Ok M S S') (h1 : M.contains 800 = false) (h2 : M.contains 1104 = false) (h3 : M.contains 905 = false) : Ph f c8 c11 S' = Ph f c8 c11 S := by
  refine Ph_congr h.2.2 (fun b hb => ?_)
  have hb' : At S b (pK S b) := ⟨hb, rfl⟩
  exact ph_congr (h.2.1.1 b hb).2.1 (h.2.1.I' h1 hb' rfl) (h.2.1.I' h2 hb' rfl) (h.2.1.R' h3 hb' rfl) (fun q hk hr => (h.2.1.1 q (codes_in hG hb hk hr)).2.2)
theorem Ph_800 {S S1 : PS} {a : Nat} {v : Int32} (hd : (pL S).Nodup) (ha : At S a 8) (e : S1 = sI S 800 a v) : Ph f c8 c11 S1 + (40 - (pI S 800 a).toInt.toNat) * c8 = Ph f c8 c11 S + (40 - v.toInt.toNat) * c8 := by
  subst e
  have h := Ph_one (f := f) (c8 := c8) (c11 := c11) (S := S) (S' := sI S 800 a v) hd ha.1 rfl (fun b hb hne => ph_congr rfl (pI_sI_ne hne) (pI_sI_ne hne) (by rw [pR_sI]) (fun _ _ _ => by rw [pN_sI]))
  have e1 : ph f c8 c11 S a = (40 - (pI S 800 a).toInt.toNat) * c8 := by
    unfold ph; rw [ha.2, if_neg (by decide), if_pos rfl]
  have e2 : ph f c8 c11 (sI S 800 a v) a = (40 - v.toInt.toNat) * c8 := by
    unfold ph; rw [show pK (sI S 800 a v) a = 8 from ha.2, if_neg (by decide), if_pos rfl, pI_sI_same]
  rw [e1, e2] at h; exact h
theorem Ph_1104 {S S1 : PS} {a : Nat} {v : Int32} (hd : (pL S).Nodup) (ha : At S a 11) (e : S1 = sI S 1104 a v) : Ph f c8 c11 S1 + (4 - (pI S 1104 a).toInt.toNat) * c11 = Ph f c8 c11 S + (4 - v.toInt.toNat) * c11 := by
  subst e
  have h := Ph_one (f := f) (c8 := c8) (c11 := c11) (S := S) (S' := sI S 1104 a v) hd ha.1 rfl (fun b hb hne => ph_congr rfl (pI_sI_ne hne) (pI_sI_ne hne) (by rw [pR_sI]) (fun _ _ _ => by rw [pN_sI]))
  have e1 : ph f c8 c11 S a = (4 - (pI S 1104 a).toInt.toNat) * c11 := by
    unfold ph; rw [ha.2, if_neg (by decide), if_neg (by decide), if_pos rfl]
  have e2 : ph f c8 c11 (sI S 1104 a v) a = (4 - v.toInt.toNat) * c11 := by
    unfold ph; rw [show pK (sI S 1104 a v) a = 11 from ha.2, if_neg (by decide), if_neg (by decide), if_pos rfl, pI_sI_same]
  rw [e1, e2] at h; exact h
end PHI
theorem nodup_of {G : va_G} {cy : Nat → ClassId} {A : Nat → Prop} {H0 H : Heap} {S : PS} {locs : List Loc} (hw : Wd G cy A H0 S H locs) : (pL S).Nodup := by
  have h := hw.2.1.1
  rw [List.nodup_iff_pairwise_ne, List.pairwise_iff_getElem]
  intro i j hi hj hij e
  have e1 : (pool cy S)[i]? = some ((pL S)[i], PF cy S (pL S)[i]) := by
    unfold pool va_pl; rw [List.getElem?_map, List.getElem?_eq_getElem hi]; rfl
  have e2 : (pool cy S)[j]? = some ((pL S)[j], PF cy S (pL S)[j]) := by
    unfold pool va_pl; rw [List.getElem?_map, List.getElem?_eq_getElem hj]; rfl
  have := h i _ _ _ e1 e2 e
  omega
/-! ===== contracts of calls that make something, by what may still be made ===== -/
def Pg (G : va_G) (cy : Nat → ClassId) (κ : Nat → Nat) (S : PS) (sz hz : Nat) : State → Prop := fun U => Pw G cy κ S sz U ∧ hs U.heap = hz
def Bg (G : va_G) (cy : Nat → ClassId) (S : PS) (sz hz kc ks : Nat) : PS → State → Prop := fun S' t => Bw G cy S sz S' t ∧ t.heap.size + Phc S' ≤ sz + Phc S + kc ∧ hs t.heap + Phs S' ≤ hz + Phs S + ks
def Gi (l : Launch) (y : MethodName) (ws : List Cond) (rm : Room) (G : va_G) (cy : Nat → ClassId) (κ : Nat → Nat) (S : PS) (sz hz kc ks : Nat) (av : List Value) (post : Int32 → PS → Prop) : Prop := Met l y ws rm (va_Pc av (Pg G cy κ S sz hz)) (va_Qi post (Bg G cy S sz hz kc ks) (AS S sz)) rm.cells rm.slots (AS S sz)
def Gv (l : Launch) (y : MethodName) (ws : List Cond) (rm : Room) (G : va_G) (cy : Nat → ClassId) (κ : Nat → Nat) (S : PS) (sz hz kc ks : Nat) (av : List Value) (post : PS → Prop) : Prop := Met l y ws rm (va_Pc av (Pg G cy κ S sz hz)) (va_Qv post (Bg G cy S sz hz kc ks) (AS S sz)) rm.cells rm.slots (AS S sz)
def Gq (l : Launch) (y : MethodName) (ws : List Cond) (rm : Room) (G : va_G) (cy : Nat → ClassId) (κ : Nat → Nat) (S : PS) (sz hz kc ks : Nat) (av : List Value) (post : Option Nat → PS → Prop) : Prop := Met l y ws rm (va_Pc av (Pg G cy κ S sz hz)) (va_Qq post (Bg G cy S sz hz kc ks) (AS S sz)) rm.cells rm.slots (AS S sz)
theorem ent_g {l : Launch} {y : MethodName} {ws ws' : List Cond} {rm : Room} {G : va_G} {cy : Nat → ClassId} {κ : Nat → Nat} {S : PS} {sz hz : Nat} {av : List Value} {Qc : Array Value → State → Outcome → State → Prop} {cc : ByteArray} {maxL : Nat} {ret : Option FieldType} (hy : plainName y.cls = true) (hw : ws = Cond.code y cc maxL ret :: ws') (hlen : (lg_sl av).length ≤ maxL)
    (body : ∀ (p : Program) (e : Env) (s : State) (m : MethodId) (below : List Frame) (meth : Method) (c : Code) (ls : Array Slot), Cx p c cc maxL s av.toArray ws y.cls m G cy κ (AS S s.heap.size) → meth.sig.returnType = ret → meth.locks = false → meth.name = y.name → Wd G cy (AS S s.heap.size) s.heap S s.heap [] → lv_has ls maxL (lv_args 0 av) → sz = s.heap.size → hz = hs s.heap → W p l e rm s m av.toArray below meth c s.heap [] 0 0 (MQ below Qc av.toArray s rm.cells rm.slots (AS S sz)) (F0 m 0 ls [])) : Met l y ws rm (va_Pc av (Pg G cy κ S sz hz)) Qc rm.cells rm.slots (AS S sz) := by
  refine Met.ofW (cc := cc) (maxL := maxL) (ret := ret) hy hw ?_
  intro p e s m args below meth c s₁ B hml hv
  obtain ⟨rfl, ⟨hsz, hP, hK, hD, hNG, hCs⟩, hhz⟩ := hv
  subst hsz
  have hl := lv_entry av (n := maxL) hlen
  rw [lg_entry_eq]
  refine body p e s m below meth c _ ⟨B.exec, B.bytes, hml, atoms_spec (ws := ws) B.pre, findClass_of_methodNamed B.named, hK, fun q h => Or.inr h, hNG, hCs⟩ B.returns B.notSynchronized (name_of_methodNamed B.named B.method).1 ⟨hP, ?_, va_S.rf⟩ hl rfl hhz.symm
  exact hD.weaken (fun k q hk _ => Or.inl (pl_mem hk))
section GCALLS
variable {p : Program} {l : Launch} {e : Env} {R : Room} {s : State} {m : MethodId} {args : Array Value} {below : List Frame} {meth : Method} {c : Code} {H : Heap} {locs : List Loc} {cells slots : Nat} {Q : State → Prop}
variable {cc : ByteArray} {pc nL : Nat} {ls : Array Slot} {rest : List Value} {Ts : List Cond} {own ref : String} {G : va_G} {cy : Nat → ClassId} {κ : Nat → Nat} {A : Nat → Prop} {S : PS} {a k0 k index kc ks : Nat}
theorem ret_gi {S0 S' : PS} {post : Int32 → PS → Prop} {v : Int32} {mc ms : Nat} (X : Cx p c cc nL s args Ts own m G cy κ (AS S0 s.heap.size)) (hw : Wd G cy (AS S0 s.heap.size) s.heap S' H locs) (hr : meth.sig.returnType = some .int) (hlocks : meth.locks = false) (h1 : cells ≤ mc) (h2 : slots ≤ ms) (g1 : cells + Phc S' ≤ Phc S0 + kc) (g2 : slots + Phs S' ≤ Phs S0 + ks) (hp : post v S') (hdg : decode cc pc = .ok (.ireturn, 1)) : W p l e R s m args below meth c H locs cells slots (MQ below (va_Qi post (Bg G cy S0 s.heap.size (hs s.heap) kc ks) (AS S0 s.heap.size)) args s mc ms (AS S0 s.heap.size)) (F0 m pc ls [.int v]) := by
  refine W.know (fun k0 k1 k2 k3 => ?_)
  refine W.widen h1 h2 ?_
  exact W.iret X.1 X.2.1 hr (fun t ht hW => ⟨⟨v, S', rfl, hp, ⟨by rw [ht]; exact hw.1, hw.2.1⟩, by rw [ht]; omega, by rw [ht]; omega⟩, hw.2.2.F ht⟩) hw.2.2.2.2 hdg hlocks
theorem ret_gz {S0 S' : PS} {post : Int32 → PS → Prop} {v : Int32} {mc ms : Nat} (X : Cx p c cc nL s args Ts own m G cy κ (AS S0 s.heap.size)) (hw : Wd G cy (AS S0 s.heap.size) s.heap S' H locs) (hr : meth.sig.returnType = some .boolean) (hlocks : meth.locks = false) (h1 : cells ≤ mc) (h2 : slots ≤ ms) (g1 : cells + Phc S' ≤ Phc S0 + kc) (g2 : slots + Phs S' ≤ Phs S0 + ks) (hv : v = 0 ∨ v = 1) (hp : post v S') (hdg : decode cc pc = .ok (.ireturn, 1)) : W p l e R s m args below meth c H locs cells slots (MQ below (va_Qi post (Bg G cy S0 s.heap.size (hs s.heap) kc ks) (AS S0 s.heap.size)) args s mc ms (AS S0 s.heap.size)) (F0 m pc ls [.int v]) := by
  refine W.know (fun k0 k1 k2 k3 => ?_)
  refine W.widen h1 h2 ?_
  exact W.zret X.1 X.2.1 hr (by rcases hv with h | h <;> (rw [h]; decide +kernel)) (fun t ht hW => ⟨⟨v, S', rfl, hp, ⟨by rw [ht]; exact hw.1, hw.2.1⟩, by rw [ht]; omega, by rw [ht]; omega⟩, hw.2.2.F ht⟩) hw.2.2.2.2 hdg hlocks
theorem ret_gv {S0 S' : PS} {post : PS → Prop} {mc ms : Nat} (X : Cx p c cc nL s args Ts own m G cy κ (AS S0 s.heap.size)) (hw : Wd G cy (AS S0 s.heap.size) s.heap S' H locs) (hr : meth.sig.returnType = none) (hlocks : meth.locks = false) (h1 : cells ≤ mc) (h2 : slots ≤ ms) (g1 : cells + Phc S' ≤ Phc S0 + kc) (g2 : slots + Phs S' ≤ Phs S0 + ks) (hp : post S') (hdg : decode cc pc = .ok (.return_, 1)) : W p l e R s m args below meth c H locs cells slots (MQ below (va_Qv post (Bg G cy S0 s.heap.size (hs s.heap) kc ks) (AS S0 s.heap.size)) args s mc ms (AS S0 s.heap.size)) (F0 m pc ls []) := by
  refine W.know (fun k0 k1 k2 k3 => ?_)
  refine W.widen h1 h2 ?_
  exact W.vret X.1 X.2.1 hr (fun t ht hW => ⟨⟨S', rfl, hp, ⟨by rw [ht]; exact hw.1, hw.2.1⟩, by rw [ht]; omega, by rw [ht]; omega⟩, hw.2.2.F ht⟩) hw.2.2.2.2 hdg hlocks
theorem ret_gqA {S0 S' : PS} {post : Option Nat → PS → Prop} {v : Value} {mc ms : Nat} {ty : FieldType} (r : Option Nat) (hv : va_rf r = v) (X : Cx p c cc nL s args Ts own m G cy κ (AS S0 s.heap.size)) (hw : Wd G cy (AS S0 s.heap.size) s.heap S' H locs) (hr : meth.sig.returnType = some (.array ty)) (hlocks : meth.locks = false) (h1 : cells ≤ mc) (h2 : slots ≤ ms) (g1 : cells + Phc S' ≤ Phc S0 + kc) (g2 : slots + Phs S' ≤ Phs S0 + ks) (hp : post r S') (hdg : decode cc pc = .ok (.areturn, 1)) : W p l e R s m args below meth c H locs cells slots (MQ below (va_Qq post (Bg G cy S0 s.heap.size (hs s.heap) kc ks) (AS S0 s.heap.size)) args s mc ms (AS S0 s.heap.size)) (F0 m pc ls [v]) := by
  refine W.know (fun k0 k1 k2 k3 => ?_)
  refine W.widen h1 h2 ?_
  subst hv
  exact W.aret X.1 X.2.1 hr (Or.inr ⟨ty, rfl⟩) (va_rf_or r) (fun t ht hW => ⟨⟨r, S', rfl, hp, ⟨by rw [ht]; exact hw.1, hw.2.1⟩, by rw [ht]; omega, by rw [ht]; omega⟩, hw.2.2.F ht⟩) hw.2.2.2.2 hdg hlocks
theorem pg_blind {av : List Value} {sz hz : Nat} : FrameBlind (va_Pc av (Pg G cy κ S sz hz)) := fun a U g mk q => by
  obtain ⟨q0, q1, q2⟩ := q
  exact ⟨q0, (pw_blind (G := G) (cy := cy) (κ := κ) (S := S) (av := av) (sz := sz) a U g mk ⟨q0, q1⟩).2, q2⟩
theorem pre_gS (X : Cx p c cc nL s args Ts own m G cy κ A) (hw : Wd G cy A s.heap S H locs) (av : List Value) : PreS s H (va_Pc av (Pg G cy κ S H.size (hs H))) av := ⟨pg_blind, fun U hU hW => ⟨rfl, pw_of X hw hU hW, by rw [hU]⟩⟩
theorem pre_gV (X : Cx p c cc nL s args Ts own m G cy κ A) (hw : Wd G cy A s.heap S H locs) (av : List Value) {b : Nat} (ha : At S b k0) (hm : k0 % 20 = k) (hk : k < 13) {q : vw_C} (hc : vwCl[k]? = some q) : PreV s H q.1 b (va_Pc (.ref b :: av) (Pg G cy κ S H.size (hs H))) av := by
  obtain ⟨n, hn⟩ := pl_get (cy := cy) ha.1
  rw [PF_O ha.2 hm hk] at hn
  exact ⟨pg_blind, va_recv X.2.2.2.2.2.1 hw.1 hc hn, fun U hU hW => ⟨rfl, pw_of X hw hU hW, by rw [hU]⟩⟩
theorem k_gi {rm : Room} {av : List Value} {post : Int32 → PS → Prop} {st0 : List Value} (X : Cx p c cc nL s args Ts own m G cy κ A) (hw : Wd G cy A s.heap S H locs) (hrun : va_Run p l e R s m args below meth c H locs cells slots rm.cells rm.slots (F0 m pc ls st0) rest (va_Qi post (Bg G cy S H.size (hs H) kc ks) (AS S H.size) av.toArray) (AS S H.size))
    (kk : ∀ (r : Int32) (S' : PS) (H1 : Heap) (locs1 : List Loc) (c2 n2 : Nat), c2 + Phc S' = cells + Phc S + kc → n2 + Phs S' = slots + Phs S + ks → post r S' → Wd G cy A s.heap S' H1 locs1 → W p l e R s m args below meth c H1 locs1 c2 n2 Q (F0 m (pc + 3) ls (.int r :: rest))) : W p l e R s m args below meth c H locs cells slots Q (F0 m pc ls st0) := by
  refine W.know (fun a0 a1 a2 a3 => ?_)
  refine va_calli hrun hw.2.2 (fun q _ h => as_in X hw q h) (as_in X hw) (fun r S' t H1 locs1 ht hvm hp hB hz hk hS => ?_)
  obtain ⟨hB1, hB2, hB3⟩ := hB
  rw [ht] at hB2 hB3
  refine W.know (fun b0 b1 b2 b3 => ?_)
  exact W.narrow (k := cells + Phc S + kc - Phc S') (n := slots + Phs S + ks - Phs S') (by omega) (by omega) (kk r S' H1 locs1 _ _ (by omega) (by omega) hp (bw_of X hw ht hB1 hS))
theorem k_gv {rm : Room} {av : List Value} {post : PS → Prop} {st0 : List Value} (X : Cx p c cc nL s args Ts own m G cy κ A) (hw : Wd G cy A s.heap S H locs) (hrun : va_Run p l e R s m args below meth c H locs cells slots rm.cells rm.slots (F0 m pc ls st0) rest (va_Qv post (Bg G cy S H.size (hs H) kc ks) (AS S H.size) av.toArray) (AS S H.size))
    (kk : ∀ (S' : PS) (H1 : Heap) (locs1 : List Loc) (c2 n2 : Nat), c2 + Phc S' = cells + Phc S + kc → n2 + Phs S' = slots + Phs S + ks → post S' → Wd G cy A s.heap S' H1 locs1 → W p l e R s m args below meth c H1 locs1 c2 n2 Q (F0 m (pc + 3) ls rest)) : W p l e R s m args below meth c H locs cells slots Q (F0 m pc ls st0) := by
  refine W.know (fun a0 a1 a2 a3 => ?_)
  refine va_callv hrun hw.2.2 (fun q _ h => as_in X hw q h) (as_in X hw) (fun S' t H1 locs1 ht hvm hp hB hz hk hS => ?_)
  obtain ⟨hB1, hB2, hB3⟩ := hB
  rw [ht] at hB2 hB3
  refine W.know (fun b0 b1 b2 b3 => ?_)
  exact W.narrow (k := cells + Phc S + kc - Phc S') (n := slots + Phs S + ks - Phs S') (by omega) (by omega) (kk S' H1 locs1 _ _ (by omega) (by omega) hp (bw_of X hw ht hB1 hS))
theorem k_gq {rm : Room} {av : List Value} {post : Option Nat → PS → Prop} {st0 : List Value} (X : Cx p c cc nL s args Ts own m G cy κ A) (hw : Wd G cy A s.heap S H locs) (hrun : va_Run p l e R s m args below meth c H locs cells slots rm.cells rm.slots (F0 m pc ls st0) rest (va_Qq post (Bg G cy S H.size (hs H) kc ks) (AS S H.size) av.toArray) (AS S H.size))
    (kk : ∀ (r : Option Nat) (S' : PS) (H1 : Heap) (locs1 : List Loc) (c2 n2 : Nat), c2 + Phc S' = cells + Phc S + kc → n2 + Phs S' = slots + Phs S + ks → post r S' → Wd G cy A s.heap S' H1 locs1 → W p l e R s m args below meth c H1 locs1 c2 n2 Q (F0 m (pc + 3) ls (va_rf r :: rest))) : W p l e R s m args below meth c H locs cells slots Q (F0 m pc ls st0) := by
  refine W.know (fun a0 a1 a2 a3 => ?_)
  refine va_callq hrun hw.2.2 (fun q _ h => as_in X hw q h) (as_in X hw) (fun r S' t H1 locs1 ht hvm hp hB hz hk hS => ?_)
  obtain ⟨hB1, hB2, hB3⟩ := hB
  rw [ht] at hB2 hB3
  refine W.know (fun b0 b1 b2 b3 => ?_)
  exact W.narrow (k := cells + Phc S + kc - Phc S') (n := slots + Phs S + ks - Phs S') (by omega) (by omega) (kk r S' H1 locs1 _ _ (by omega) (by omega) hp (bw_of X hw ht hB1 hS))
end GCALLS
/-! ===== constructors: all but q is as it was ===== -/
def Kq (S S' : PS) (q : Nat) : Prop := ∀ a ∈ pL S, a ∈ pL S' ∧ (a ≠ q → pK S' a = pK S a ∧ (∀ g, pI S' g a = pI S g a) ∧ (∀ g, pR S' g a = pR S g a) ∧ pN S' a = pN S a ∧ pA S' a = pA S a ∧ pB S' a = pB S a)
theorem Kq.rf (S : PS) (q : Nat) : Kq S S q := fun _ h => ⟨h, fun _ => ⟨rfl, fun _ => rfl, fun _ => rfl, rfl, rfl, rfl⟩⟩
theorem Kq.trans {S S1 S2 : PS} {q : Nat} (h : Kq S S1 q) (h' : Kq S1 S2 q) : Kq S S2 q := fun a ha => ⟨(h' a (h a ha).1).1, fun hn => by
  obtain ⟨a1, a2, a3, a4, a5, a6⟩ := (h a ha).2 hn
  obtain ⟨b1, b2, b3, b4, b5, b6⟩ := (h' a (h a ha).1).2 hn
  exact ⟨b1.trans a1, fun g => (b2 g).trans (a2 g), fun g => (b3 g).trans (a3 g), b4.trans a4, b5.trans a5, b6.trans a6⟩⟩
theorem Kq.sI {S0 S S1 : PS} {q g : Nat} {v : Int32} (h : Kq S0 S q) (e : S1 = sI S g q v) : Kq S0 S1 q := h.trans (fun a ha => by
  subst e
  exact ⟨ha, fun hn => ⟨rfl, fun _ => pI_sI_ne hn, fun _ => by rw [pR_sI], by rw [pN_sI], by rw [pA_sI], by rw [pB_sI]⟩⟩)
theorem Kq.sR {S0 S S1 : PS} {q g : Nat} {v : Option Nat} (h : Kq S0 S q) (e : S1 = sR S g q v) : Kq S0 S1 q := h.trans (fun a ha => by
  subst e
  exact ⟨ha, fun hn => ⟨rfl, fun _ => by rw [pI_sR], fun _ => u2_ne _ _ hn, by rw [pN_sR], by rw [pA_sR], by rw [pB_sR]⟩⟩)
theorem Kq.new {S0 S : PS} {q r : Nat} (h : Kq S0 S q) (hr : r ∉ pL S) : r ∉ pL S0 := fun z => hr (h r z).1
theorem Kq.sN {S0 S S1 : PS} {q r k n : Nat} (h : Kq S0 S q) (hr : r ∉ pL S) (e : S1 = sN S r k n) : Kq S0 S1 q := h.trans (fun a ha => by
  subst e
  have hne := ne_of_new hr ha
  exact ⟨List.mem_append_left _ ha, fun _ => ⟨if_neg hne, fun _ => by rw [pI_sN], fun _ => by rw [pR_sN], pN_sN_ne hne, pA_sN_ne hne, if_neg hne⟩⟩)
theorem Kq.sO {S0 S S1 : PS} {q r k : Nat} (h : Kq S0 S q) (hr : r ∉ pL S) (e : S1 = sO S r k) : Kq S0 S1 q := h.trans (fun a ha => by
  subst e
  have hne := ne_of_new hr ha
  exact ⟨List.mem_append_left _ ha, fun _ => ⟨if_neg hne, fun _ => pI_sO_ne hne, fun _ => pR_sO_ne hne, by rw [pN_sO], by rw [pA_sO], by rw [pB_sO]⟩⟩)
/-- a row or an object that is not of the first pool may change -/
theorem Kq.sA {S0 S S1 : PS} {q r : Nat} {f : Nat → Int32} (h : Kq S0 S q) (hr : r ∉ pL S0) (e : S1 = sA S r f) : Kq S0 S1 q := fun a ha => ⟨by subst e; exact (h a ha).1, fun hn => by
  subst e
  obtain ⟨a1, a2, a3, a4, a5, a6⟩ := (h a ha).2 hn
  exact ⟨a1, fun g => by rw [pI_sA]; exact a2 g, fun g => by rw [pR_sA]; exact a3 g, by rw [pN_sA]; exact a4, (pA_sA_ne (ne_of_new hr ha)).trans a5, by rw [pB_sA]; exact a6⟩⟩
theorem Kq.sB {S0 S S1 : PS} {q r : Nat} {f : Nat → Option Nat} (h : Kq S0 S q) (hr : r ∉ pL S0) (e : S1 = sB S r f) : Kq S0 S1 q := fun a ha => ⟨by subst e; exact (h a ha).1, fun hn => by
  subst e
  obtain ⟨a1, a2, a3, a4, a5, a6⟩ := (h a ha).2 hn
  exact ⟨a1, fun g => by rw [pI_sB]; exact a2 g, fun g => by rw [pR_sB]; exact a3 g, by rw [pN_sB]; exact a4, by rw [pA_sB]; exact a5, (if_neg (ne_of_new hr ha)).trans a6⟩⟩
/-- another's constructor, of an object that is not of the first pool -/
theorem Kq.sub {S0 S S1 : PS} {q r : Nat} (h : Kq S0 S q) (hr : r ∉ pL S0) (h' : Kq S S1 r) : Kq S0 S1 q := fun a ha => ⟨(h' a (h a ha).1).1, fun hn => by
  obtain ⟨a1, a2, a3, a4, a5, a6⟩ := (h a ha).2 hn
  obtain ⟨b1, b2, b3, b4, b5, b6⟩ := (h' a (h a ha).1).2 (ne_of_new hr ha)
  exact ⟨b1.trans a1, fun g => (b2 g).trans (a2 g), fun g => (b3 g).trans (a3 g), b4.trans a4, b5.trans a5, b6.trans a6⟩⟩
theorem Kq.sK {S0 S S1 : PS} {q k : Nat} (h : Kq S0 S q) (e : S1 = sK S q k) : Kq S0 S1 q := h.trans (fun a ha => by
  subst e
  exact ⟨ha, fun hn => ⟨if_neg hn, fun _ => rfl, fun _ => rfl, rfl, rfl, rfl⟩⟩)
theorem Kq.at {S S' : PS} {q a k k' : Nat} (h : Kq S S' q) (hq : At S q k') (ha : At S a k) (hn : k ≠ k') : At S' a k := ⟨(h a ha.1).1, ((h a ha.1).2 (At_ne ha hq hn)).1.trans ha.2⟩
theorem Kq_fr {S S' : PS} {q k : Nat} {S1 : PS} (hq : q ∉ pL S) (e : S1 = sO S q k) (h : Kq S1 S' q) (M : List Nat) : Fr M S S' := by
  subst e
  have z : ∀ a ∈ pL S, a ∈ pL (sO S q k) ∧ a ≠ q := fun a ha => ⟨List.mem_append_left _ ha, ne_of_new hq ha⟩
  refine ⟨fun a ha => ?_, fun g _ a ha => ?_, fun k' _ a ha _ => ?_⟩
  · obtain ⟨h1, h2⟩ := h a (z a ha).1
    obtain ⟨a1, a2, a3, a4, a5, a6⟩ := h2 (z a ha).2
    exact ⟨h1, a1.trans (if_neg (z a ha).2), a4⟩
  · obtain ⟨h1, h2⟩ := h a (z a ha).1
    obtain ⟨a1, a2, a3, a4, a5, a6⟩ := h2 (z a ha).2
    exact ⟨(a2 g).trans (pI_sO_ne (z a ha).2), (a3 g).trans (pR_sO_ne (z a ha).2)⟩
  · obtain ⟨h1, h2⟩ := h a (z a ha).1
    obtain ⟨a1, a2, a3, a4, a5, a6⟩ := h2 (z a ha).2
    exact ⟨a5, a6⟩
def noK (t : aTy) (k : Nat) : Bool := match t.1 with
  | 0 => true
  | 4 => true
  | 7 => !(14 == k)
  | 8 => !(16 == k)
  | _ => !(t.2.2.1 == k)
theorem aT_sK {S : PS} {a q k k0 : Nat} (hq : At S q k0) (hne : a ≠ q) : {t : aTy} → (hn : noK t k0 = true) → (ht : aT S a t) → aT (sK S q k) a t
  | (0, _, _, _, _), _, ht => ht
  | (1, _, _, _, _), hn, ht => by obtain ⟨r, h1, h2, h3⟩ := ht; exact ⟨r, h1, At_sK hq h2 (nbeq hn), h3⟩
  | (2, _, _, _, _), hn, ht => by obtain ⟨r, h1, h2⟩ := ht; exact ⟨r, h1, At_sK hq h2 (nbeq hn)⟩
  | (3, _, _, _, _), hn, ht => fun r hr => At_sK hq (ht r hr) (nbeq hn)
  | (4, _, _, _, _), _, ht => ht
  | (5, _, _, _, _), hn, ht => fun i r hr => At_sK hq (ht i r hr) (nbeq hn)
  | (6, _, _, _, _), hn, ht => by obtain ⟨r, h1, h2, h3⟩ := ht; exact ⟨r, h1, At_sK hq h2 (nbeq hn), h3⟩
  | (7, _, _, _, _), hn, ht => by
    have hn : 14 ≠ k0 := nbeq hn
    obtain ⟨q1, q2, q3, q4, n, a1, a2, a3, a4, b1, b2, b3, b4, r⟩ := ht
    exact ⟨q1, q2, q3, q4, n, a1, a2, a3, a4, At_sK hq b1 hn, At_sK hq b2 hn, At_sK hq b3 hn, At_sK hq b4 hn, r⟩
  | (8, _, _, _, _), hn, ht => by
    have hn : 16 ≠ k0 := nbeq hn
    obtain ⟨r, n, a1, b1, z⟩ := ht
    exact ⟨r, n, a1, At_sK hq b1 hn, z⟩
  | (_ + 9, _, _, _, _), _, _ => trivial
theorem GX_sK {S : PS} {q k k0 : Nat} (hG : GX S) (hq : At S q k0) (hn : ∀ t ∈ TL, noK t.2 k0 = true) (ho : OK (sK S q k) q k) : GX (sK S q k) := fun b hb => by
  by_cases e : b = q
  · subst e; rw [show pK (sK S b k) b = k from if_pos rfl]; exact ho
  · rw [show pK (sK S q k) b = pK S b from if_neg e]
    exact fun t ht e2 => aT_sK hq e (hn t ht) (hG b hb t ht e2)
theorem Og.sO {M : List Nat} {S0 S S1 : PS} {q k : Nat} (h : Og M S0 S) (hq : q ∉ pL S) (e : S1 = sO S q k) (hn : ∀ t ∈ TL, ¬ t.1 = k) : Og M S0 S1 := by subst e; exact ⟨GX_O h.1 hq hn, h.2.trans (Fr_sO hq)⟩
theorem Og_ctor {M : List Nat} {S0 S S1 S2 : PS} {q k : Nat} (h : Og M S0 S) (hq : q ∉ pL S) (e : S1 = sO S q k) (hk : Kq S1 S2 q) (hg : GX S2) : Og M S0 S2 := ⟨hg, h.2.trans (Kq_fr hq e hk M)⟩
theorem ph_sK0 {f : Nat → Nat} {c8 c11 : Nat} {S : PS} {q k b : Nat} (hne : b ≠ q) : ph f c8 c11 (sK S q k) b = ph f c8 c11 S b := ph_congr (if_neg hne) rfl rfl rfl (fun _ _ _ => rfl)
theorem Ph_sK {f : Nat → Nat} {c8 c11 : Nat} {S S1 : PS} {q k k0 : Nat} (hd : (pL S).Nodup) (hq : At S q k0) (hk : Nat.beq k0 29 = false ∧ Nat.beq k0 8 = false ∧ Nat.beq k0 11 = false) (e : S1 = sK S q k) : Ph f c8 c11 S1 = Ph f c8 c11 S + ph f c8 c11 S1 q := by
  subst e
  have h := Ph_one (f := f) (c8 := c8) (c11 := c11) (S := S) (S' := sK S q k) hd hq.1 rfl (fun b _ hne => ph_sK0 hne)
  have : ph f c8 c11 S q = 0 := by
    unfold ph
    rw [hq.2, if_neg (Nat.ne_of_beq_eq_false hk.1), if_neg (Nat.ne_of_beq_eq_false hk.2.1), if_neg (Nat.ne_of_beq_eq_false hk.2.2)]
  omega
theorem ph_0 {f : Nat → Nat} {c8 c11 : Nat} {S : PS} {q k : Nat} (h : At S q k) (hk : Nat.beq k 29 = false ∧ Nat.beq k 8 = false ∧ Nat.beq k 11 = false) : ph f c8 c11 S q = 0 := by
  unfold ph
  rw [h.2, if_neg (Nat.ne_of_beq_eq_false hk.1), if_neg (Nat.ne_of_beq_eq_false hk.2.1), if_neg (Nat.ne_of_beq_eq_false hk.2.2)]
theorem ph_29 {f : Nat → Nat} {c8 c11 : Nat} {S : PS} {q c n : Nat} (h : At S q 29) (hc : pR S 905 q = some c) (hn : pN S c = n) : ph f c8 c11 S q = f n := by
  unfold ph; rw [h.2, if_pos rfl, hc]; show f (pN S c) = f n; rw [hn]
