theorem pl_fresh {A : Nat → Prop} {cy : Nat → ClassId} {S : PS} {q : Nat} {e : va_E} (hD : va_D A (pool cy S ++ [(q, e)])) : q ∉ pL S := by
  intro hm
  obtain ⟨n, hn⟩ := pl_get (cy := cy) hm
  have hlt : n < (pool cy S).length := (List.getElem?_eq_some_iff.mp hn).1
  have e1 : (pool cy S ++ [(q, e)])[n]? = some (q, PF cy S q) := by rw [List.getElem?_append_left hlt]; exact hn
  have e2 : (pool cy S ++ [(q, e)])[(pool cy S).length]? = some (q, e) := by simp
  have := hD.1 n _ _ _ e1 e2 rfl
  omega
section PROWS
variable {p : Program} {l : Launch} {e : Env} {R : Room} {s : State} {m : MethodId} {args : Array Value} {below : List Frame} {meth : Method} {c : Code} {H : Heap} {locs : List Loc} {cells slots : Nat} {Q : State → Prop}
variable {cc : ByteArray} {pc nL : Nat} {ls : Array Slot} {rest : List Value} {Ts : List Cond} {own ref : String} {G : va_G} {cy : Nat → ClassId} {κ : Nat → Nat} {A : Nat → Prop} {S : PS} {a k0 k index : Nat}
theorem r_get (X : Cx p c cc nL s args Ts own m G cy κ A) (hw : Wd G cy A s.heap S H locs) (ha : At S a k0) (hm : k0 % 20 = k) (j : Nat) {C : String} {T : u_T} {N : Nat} {v : Value} (hk : k < 13) (hc : vwCl[k]? = some (C, T, N)) (hin : ∀ w ∈ u_ws C T N, w ∈ Ts) (hj : j < N) (hlink : (Cond.fieldLink own index ref (T j).2.1 (T j).2.2.1).before args s = true) (hsame : (T j).1 = ref) (hv : (vals S a k)[j]? = some v) (hdg : decode cc pc = .ok (.getfield index, 3))
    (kk : W p l e R s m args below meth c H locs cells slots Q (F0 m (pc + 3) ls (v :: rest))) : W p l e R s m args below meth c H locs cells slots Q (F0 m pc ls (.ref a :: rest)) := by
  obtain ⟨hx, hb, -, hts, hown, hK, -, -, -⟩ := X
  obtain ⟨n, hn⟩ := pl_get (cy := cy) ha.1
  rw [PF_O ha.2 hm hk] at hn
  exact va_get (D := G) (ci := k) (C := C) (T := T) (N := N) hx hb hts hin hown hK hw.1 n hn hc j hj hlink (fun x h => by rw [hsame] at h; exact h) hv hdg kk
theorem r_getR (X : Cx p c cc nL s args Ts own m G cy κ A) (hw : Wd G cy A s.heap S H locs) (ha : At S a k0) (hm : k0 % 20 = k) (j : Nat) {C : String} {T : u_T} {N g q : Nat} (hq : pR S g a = some q) (hk : k < 13) (hc : vwCl[k]? = some (C, T, N)) (hin : ∀ w ∈ u_ws C T N, w ∈ Ts) (hj : j < N) (hlink : (Cond.fieldLink own index ref (T j).2.1 (T j).2.2.1).before args s = true) (hsame : (T j).1 = ref) (hv : (vals S a k)[j]? = some (va_rf (pR S g a))) (hdg : decode cc pc = .ok (.getfield index, 3))
    (kk : W p l e R s m args below meth c H locs cells slots Q (F0 m (pc + 3) ls (.ref q :: rest))) : W p l e R s m args below meth c H locs cells slots Q (F0 m pc ls (.ref a :: rest)) := by
  refine r_get X hw ha hm j hk hc hin hj hlink hsame (v := .ref q) ?_ hdg kk
  rw [hv, hq]; rfl
theorem r_getI (X : Cx p c cc nL s args Ts own m G cy κ A) (hw : Wd G cy A s.heap S H locs) (ha : At S a k0) (hm : k0 % 20 = k) (j : Nat) {C : String} {T : u_T} {N g : Nat} {x : Int32} (hq : pI S g a = x) (hk : k < 13) (hc : vwCl[k]? = some (C, T, N)) (hin : ∀ w ∈ u_ws C T N, w ∈ Ts) (hj : j < N) (hlink : (Cond.fieldLink own index ref (T j).2.1 (T j).2.2.1).before args s = true) (hsame : (T j).1 = ref) (hv : (vals S a k)[j]? = some (.int (pI S g a))) (hdg : decode cc pc = .ok (.getfield index, 3))
    (kk : W p l e R s m args below meth c H locs cells slots Q (F0 m (pc + 3) ls (.int x :: rest))) : W p l e R s m args below meth c H locs cells slots Q (F0 m pc ls (.ref a :: rest)) := by
  refine r_get X hw ha hm j hk hc hin hj hlink hsame (v := .int x) ?_ hdg kk
  rw [hv, hq]
theorem r_getQ (X : Cx p c cc nL s args Ts own m G cy κ A) (hw : Wd G cy A s.heap S H locs) (ha : At S a k0) (hm : k0 % 20 = k) (j : Nat) {C : String} {T : u_T} {N g : Nat} {o : Option Nat} (hq : pR S g a = o) (hk : k < 13) (hc : vwCl[k]? = some (C, T, N)) (hin : ∀ w ∈ u_ws C T N, w ∈ Ts) (hj : j < N) (hlink : (Cond.fieldLink own index ref (T j).2.1 (T j).2.2.1).before args s = true) (hsame : (T j).1 = ref) (hv : (vals S a k)[j]? = some (va_rf (pR S g a))) (hdg : decode cc pc = .ok (.getfield index, 3))
    (kk : W p l e R s m args below meth c H locs cells slots Q (F0 m (pc + 3) ls (va_rf o :: rest))) : W p l e R s m args below meth c H locs cells slots Q (F0 m pc ls (.ref a :: rest)) := by
  refine r_get X hw ha hm j hk hc hin hj hlink hsame (v := va_rf o) ?_ hdg kk
  rw [hv, hq]
theorem r_putI (X : Cx p c cc nL s args Ts own m G cy κ A) (hw : Wd G cy A s.heap S H locs) (ha : At S a k0) (hm : k0 % 20 = k) (j g : Nat) {C : String} {T : u_T} {N : Nat} {v : Int32} (ty0 : Nat → FieldType) (hk : k < 13) (hc : vwCl[k]? = some (C, T, N)) (hin : ∀ w ∈ u_ws C T N, w ∈ Ts) (hty : ∀ k, k < N → parseFieldDescriptor (T k).2.2.1 = some (ty0 k)) (hnm : ∀ a, a < N → ∀ b, b < N → a ≠ b → (T a).2.1 ≠ (T b).2.1) (hj : j < N) (hlink : (Cond.fieldLink own index ref (T j).2.1 (T j).2.2.1).before args s = true) (hsame : (T j).1 = ref) (hfin : (T j).2.2.2 = false ∨ ((T j).2.2.2 = true ∧ meth.name = "<init>" ∧ (T j).1 = own)) (hn : narrow (ty0 j) (.int v) = .int v) (hfit : fits (ty0 j) (.int v) = true) (hlen : j < (vals S a k).length) (hset : ∀ v, vals (sI S g a v) a k = (vals S a k).set j (.int v)) (hdg : decode cc pc = .ok (.putfield index, 3))
    (kk : ∀ (H1 : Heap) (locs1 : List Loc), Wd G cy A s.heap (sI S g a v) H1 locs1 → W p l e R s m args below meth c H1 locs1 cells slots Q (F0 m (pc + 3) ls rest)) : W p l e R s m args below meth c H locs cells slots Q (F0 m pc ls (.int v :: .ref a :: rest)) := by
  obtain ⟨hx, hb, -, hts, hown, hK, -, -, -⟩ := X
  obtain ⟨hP, hD, hS⟩ := hw
  obtain ⟨n, hn0⟩ := pl_get (cy := cy) ha.1
  have hn1 := hn0
  rw [PF_O ha.2 hm hk] at hn0
  have e1 : (pool cy S).set n (a, .inr (k, (vals S a k).set j (.int v))) = pool cy (sI S g a v) := pl_set hD ha.1 hn1 rfl (PF_sI ha.2 hm hk (hset v))
  rcases hfin with hf | ⟨hf, hi, ho⟩
  · refine va_put (D := G) (ci := k) (v := .int v) (ty := ty0 j) (C := C) (T := T) (N := N) hx hb hts hin ty0 hty hnm hown hK hP hD hS n hn0 hc j hj hlink (fun x h => by rw [hsame] at h; exact h) hf (hty j hj) hn hfit hlen hdg (fun H1 locs1 hP1 hD1 hS1 => ?_)
    rw [e1] at hP1 hD1
    exact kk H1 locs1 ⟨hP1, hD1, hS1⟩
  · refine va_putF (D := G) (ci := k) (v := .int v) (ty := ty0 j) (C := C) (T := T) (N := N) hx hb hts hin ty0 hty hnm hown hK hP hD hS n hn0 hc j hj hlink (fun x h => by rw [hsame] at h; exact h) hf hi ho (hty j hj) hn hfit hlen hdg (fun H1 locs1 hP1 hD1 hS1 => ?_)
    rw [e1] at hP1 hD1
    exact kk H1 locs1 ⟨hP1, hD1, hS1⟩
theorem r_putR (X : Cx p c cc nL s args Ts own m G cy κ A) (hw : Wd G cy A s.heap S H locs) (ha : At S a k0) (hm : k0 % 20 = k) (j g : Nat) {C : String} {T : u_T} {N : Nat} {w : Value} (v : Option Nat) (hwv : va_rf v = w) (ty0 : Nat → FieldType) (hk : k < 13) (hc : vwCl[k]? = some (C, T, N)) (hin : ∀ w ∈ u_ws C T N, w ∈ Ts) (hty : ∀ k, k < N → parseFieldDescriptor (T k).2.2.1 = some (ty0 k)) (hnm : ∀ a, a < N → ∀ b, b < N → a ≠ b → (T a).2.1 ≠ (T b).2.1) (hj : j < N) (hlink : (Cond.fieldLink own index ref (T j).2.1 (T j).2.2.1).before args s = true) (hsame : (T j).1 = ref) (hfin : (T j).2.2.2 = false ∨ ((T j).2.2.2 = true ∧ meth.name = "<init>" ∧ (T j).1 = own)) (hn : ∀ q, narrow (ty0 j) (.ref q) = .ref q) (hn0 : narrow (ty0 j) .null = .null) (hfit : ∀ q, fits (ty0 j) (.ref q) = true) (hfit0 : fits (ty0 j) .null = true) (hlen : j < (vals S a k).length) (hset : ∀ v, vals (sR S g a v) a k = (vals S a k).set j (va_rf v)) (hdg : decode cc pc = .ok (.putfield index, 3))
    (kk : ∀ (H1 : Heap) (locs1 : List Loc), Wd G cy A s.heap (sR S g a v) H1 locs1 → W p l e R s m args below meth c H1 locs1 cells slots Q (F0 m (pc + 3) ls rest)) : W p l e R s m args below meth c H locs cells slots Q (F0 m pc ls (w :: .ref a :: rest)) := by
  obtain ⟨hx, hb, -, hts, hown, hK, -, -, -⟩ := X
  obtain ⟨hP, hD, hS⟩ := hw
  obtain ⟨n, hn2⟩ := pl_get (cy := cy) ha.1
  have hn1 := hn2
  rw [PF_O ha.2 hm hk] at hn2
  subst hwv
  have f1 : narrow (ty0 j) (va_rf v) = va_rf v := by
    cases v with
    | none => exact hn0
    | some q => exact hn q
  have f2 : fits (ty0 j) (va_rf v) = true := by
    cases v with
    | none => exact hfit0
    | some q => exact hfit q
  have e1 : (pool cy S).set n (a, .inr (k, (vals S a k).set j (va_rf v))) = pool cy (sR S g a v) := pl_set hD ha.1 hn1 rfl (PF_sR ha.2 hm hk (hset v))
  rcases hfin with hf | ⟨hf, hi, ho⟩
  · refine va_put (D := G) (ci := k) (v := va_rf v) (ty := ty0 j) (C := C) (T := T) (N := N) hx hb hts hin ty0 hty hnm hown hK hP hD hS n hn2 hc j hj hlink (fun x h => by rw [hsame] at h; exact h) hf (hty j hj) f1 f2 hlen hdg (fun H1 locs1 hP1 hD1 hS1 => ?_)
    rw [e1] at hP1 hD1
    exact kk H1 locs1 ⟨hP1, hD1, hS1⟩
  · refine va_putF (D := G) (ci := k) (v := va_rf v) (ty := ty0 j) (C := C) (T := T) (N := N) hx hb hts hin ty0 hty hnm hown hK hP hD hS n hn2 hc j hj hlink (fun x h => by rw [hsame] at h; exact h) hf hi ho (hty j hj) f1 f2 hlen hdg (fun H1 locs1 hP1 hD1 hS1 => ?_)
    rw [e1] at hP1 hD1
    exact kk H1 locs1 ⟨hP1, hD1, hS1⟩
theorem r_iald (X : Cx p c cc nL s args Ts own m G cy κ A) (hw : Wd G cy A s.heap S H locs) (ha : At S a k0) (hm : k0 % 20 = 14) {i : Int32} (hi : vp_in i (pN S a)) (hdg : decode cc pc = .ok (.iaload, 1))
    (kk : W p l e R s m args below meth c H locs cells slots Q (F0 m (pc + 1) ls (.int (pA S a i.toNatClampNeg) :: rest))) : W p l e R s m args below meth c H locs cells slots Q (F0 m pc ls (.int i :: .ref a :: rest)) := by
  obtain ⟨hx, hb, -, hts, hown, hK, -, -, -⟩ := X
  obtain ⟨n, hn⟩ := pl_get (cy := cy) ha.1
  rw [PF_A ha.2 hm (by decide) (by decide)] at hn
  exact va_iald (D := G) hx hb hK hw.1 n 1 hn rfl hi hdg kk
theorem r_bald (X : Cx p c cc nL s args Ts own m G cy κ A) (hw : Wd G cy A s.heap S H locs) (ha : At S a k0) (hm : k0 % 20 = 13) {i : Int32} (hi : vp_in i (pN S a)) (hdg : decode cc pc = .ok (.baload, 1))
    (kk : W p l e R s m args below meth c H locs cells slots Q (F0 m (pc + 1) ls (.int (pA S a i.toNatClampNeg) :: rest))) : W p l e R s m args below meth c H locs cells slots Q (F0 m pc ls (.int i :: .ref a :: rest)) := by
  obtain ⟨hx, hb, -, hts, hown, hK, -, -, -⟩ := X
  obtain ⟨n, hn⟩ := pl_get (cy := cy) ha.1
  rw [PF_A ha.2 hm (by decide) (by decide)] at hn
  exact va_bald (D := G) hx hb hK hw.1 n 0 hn rfl hi hdg kk
theorem r_zald (X : Cx p c cc nL s args Ts own m G cy κ A) (hw : Wd G cy A s.heap S H locs) (ha : At S a k0) (hm : k0 % 20 = 15) {i : Int32} (hi : vp_in i (pN S a)) (hdg : decode cc pc = .ok (.baload, 1))
    (kk : W p l e R s m args below meth c H locs cells slots Q (F0 m (pc + 1) ls (.int (pA S a i.toNatClampNeg) :: rest))) : W p l e R s m args below meth c H locs cells slots Q (F0 m pc ls (.int i :: .ref a :: rest)) := by
  obtain ⟨hx, hb, -, hts, hown, hK, -, -, -⟩ := X
  obtain ⟨n, hn⟩ := pl_get (cy := cy) ha.1
  rw [PF_A ha.2 hm (by decide) (by decide)] at hn
  exact va_zald (D := G) hx hb hK hw.1 n 2 hn rfl hi hdg kk
theorem r_aald (X : Cx p c cc nL s args Ts own m G cy κ A) (hw : Wd G cy A s.heap S H locs) (ha : At S a k0) (hm : k0 % 20 = k) {C : String} (hk : 16 ≤ k) (ht : (tysL cy)[k - 13]? = some (cy (k - 13), .object C)) {i : Int32} (hi : vp_in i (pN S a)) (hdg : decode cc pc = .ok (.aaload, 1))
    (kk : W p l e R s m args below meth c H locs cells slots Q (F0 m (pc + 1) ls (va_rf (pB S a i.toNatClampNeg) :: rest))) : W p l e R s m args below meth c H locs cells slots Q (F0 m pc ls (.int i :: .ref a :: rest)) := by
  obtain ⟨hx, hb, -, hts, hown, hK, -, -, -⟩ := X
  obtain ⟨n, hn⟩ := pl_get (cy := cy) ha.1
  rw [PF_B ha.2 hm hk] at hn
  exact va_aldq (D := G) (C := C) hx hb hK hw.1 n (k - 13) hn ht hi hdg kk
theorem r_iast (X : Cx p c cc nL s args Ts own m G cy κ A) (hw : Wd G cy A s.heap S H locs) (ha : At S a k0) (hm : k0 % 20 = 14) {i x : Int32} (hi : vp_in i (pN S a)) (hdg : decode cc pc = .ok (.iastore, 1))
    (kk : ∀ (H1 : Heap) (locs1 : List Loc), Wd G cy A s.heap (sA S a (upd (pA S a) i.toNatClampNeg x)) H1 locs1 → W p l e R s m args below meth c H1 locs1 cells slots Q (F0 m (pc + 1) ls rest)) : W p l e R s m args below meth c H locs cells slots Q (F0 m pc ls (.int x :: .int i :: .ref a :: rest)) := by
  obtain ⟨hx, hb, -, hts, hown, hK, -, -, -⟩ := X
  obtain ⟨hP, hD, hS⟩ := hw
  obtain ⟨n, hn⟩ := pl_get (cy := cy) ha.1
  have hn1 := hn
  rw [PF_A ha.2 hm (by decide) (by decide)] at hn
  refine va_iast (D := G) hx hb hK hP hD hS n 1 hn rfl hi hdg (fun H1 locs1 hP1 hD1 hS1 => ?_)
  rw [pl_set (S' := sA S a (upd (pA S a) i.toNatClampNeg x)) hD ha.1 hn1 rfl (PF_sA ha.2 hm (by decide) (by decide))] at hP1 hD1
  exact kk H1 locs1 ⟨hP1, hD1, hS1⟩
theorem r_bast (X : Cx p c cc nL s args Ts own m G cy κ A) (hw : Wd G cy A s.heap S H locs) (ha : At S a k0) (hm : k0 % 20 = 13) {i x : Int32} (hi : vp_in i (pN S a)) (hdg : decode cc pc = .ok (.bastore, 1))
    (kk : ∀ (H1 : Heap) (locs1 : List Loc), Wd G cy A s.heap (sA S a (upd (pA S a) i.toNatClampNeg (vp_nar .byte x))) H1 locs1 → W p l e R s m args below meth c H1 locs1 cells slots Q (F0 m (pc + 1) ls rest)) : W p l e R s m args below meth c H locs cells slots Q (F0 m pc ls (.int x :: .int i :: .ref a :: rest)) := by
  obtain ⟨hx, hb, -, hts, hown, hK, -, -, -⟩ := X
  obtain ⟨hP, hD, hS⟩ := hw
  obtain ⟨n, hn⟩ := pl_get (cy := cy) ha.1
  have hn1 := hn
  rw [PF_A ha.2 hm (by decide) (by decide)] at hn
  refine va_bast (D := G) hx hb hK hP hD hS n 0 hn rfl hi hdg (fun H1 locs1 hP1 hD1 hS1 => ?_)
  rw [pl_set (S' := sA S a (upd (pA S a) i.toNatClampNeg (vp_nar .byte x))) hD ha.1 hn1 rfl (PF_sA ha.2 hm (by decide) (by decide))] at hP1 hD1
  exact kk H1 locs1 ⟨hP1, hD1, hS1⟩
theorem r_zast (X : Cx p c cc nL s args Ts own m G cy κ A) (hw : Wd G cy A s.heap S H locs) (ha : At S a k0) (hm : k0 % 20 = 15) {i x : Int32} (hi : vp_in i (pN S a)) (hdg : decode cc pc = .ok (.bastore, 1))
    (kk : ∀ (H1 : Heap) (locs1 : List Loc), Wd G cy A s.heap (sA S a (upd (pA S a) i.toNatClampNeg (vp_nar .boolean x))) H1 locs1 → W p l e R s m args below meth c H1 locs1 cells slots Q (F0 m (pc + 1) ls rest)) : W p l e R s m args below meth c H locs cells slots Q (F0 m pc ls (.int x :: .int i :: .ref a :: rest)) := by
  obtain ⟨hx, hb, -, hts, hown, hK, -, -, -⟩ := X
  obtain ⟨hP, hD, hS⟩ := hw
  obtain ⟨n, hn⟩ := pl_get (cy := cy) ha.1
  have hn1 := hn
  rw [PF_A ha.2 hm (by decide) (by decide)] at hn
  refine va_zast (D := G) hx hb hK hP hD hS n 2 hn rfl hi hdg (fun H1 locs1 hP1 hD1 hS1 => ?_)
  rw [pl_set (S' := sA S a (upd (pA S a) i.toNatClampNeg (vp_nar .boolean x))) hD ha.1 hn1 rfl (PF_sA ha.2 hm (by decide) (by decide))] at hP1 hD1
  exact kk H1 locs1 ⟨hP1, hD1, hS1⟩
theorem r_aast (X : Cx p c cc nL s args Ts own m G cy κ A) (hw : Wd G cy A s.heap S H locs) (ha : At S a k0) (hm : k0 % 20 = k) {v k0' k' : Nat} (hv : At S v k0') (hm' : k0' % 20 = k') {r : vw_C} (hk : 16 ≤ k) (hk' : k' < 13) (hc : vwCl[k']? = some r) (ht : (tysL cy)[k - 13]? = some (cy (k - 13), .object r.1)) {i : Int32} (hi : vp_in i (pN S a)) (hdg : decode cc pc = .ok (.aastore, 1))
    (kk : ∀ (H1 : Heap) (locs1 : List Loc), Wd G cy A s.heap (sB S a (va_up (pB S a) i.toNatClampNeg (some v))) H1 locs1 → W p l e R s m args below meth c H1 locs1 cells slots Q (F0 m (pc + 1) ls rest)) : W p l e R s m args below meth c H locs cells slots Q (F0 m pc ls (.ref v :: .int i :: .ref a :: rest)) := by
  obtain ⟨hx, hb, -, hts, hown, hK, -, -, -⟩ := X
  obtain ⟨hP, hD, hS⟩ := hw
  obtain ⟨n, hn⟩ := pl_get (cy := cy) ha.1
  have hn1 := hn
  rw [PF_B ha.2 hm hk] at hn
  obtain ⟨n', hn'⟩ := pl_get (cy := cy) hv.1
  rw [PF_O hv.2 hm' hk'] at hn'
  refine va_astq (D := G) (r := r) hx hb hK hP hD hS n (k - 13) n' k' hn ht hn' hc hi hdg (fun H1 locs1 hP1 hD1 hS1 => ?_)
  rw [pl_set (S' := sB S a (va_up (pB S a) i.toNatClampNeg (some v))) hD ha.1 hn1 rfl (PF_sB ha.2 hm hk)] at hP1 hD1
  exact kk H1 locs1 ⟨hP1, hD1, hS1⟩
theorem r_alen (X : Cx p c cc nL s args Ts own m G cy κ A) (hw : Wd G cy A s.heap S H locs) (ha : At S a k0) (hm : k0 % 20 = k) {ty : FieldType} (hk : 13 ≤ k) (ht : (tysL cy)[k - 13]? = some (cy (k - 13), ty)) (hdg : decode cc pc = .ok (.arraylength, 1))
    (kk : W p l e R s m args below meth c H locs cells slots Q (F0 m (pc + 1) ls (.int (nI (pN S a)) :: rest))) : W p l e R s m args below meth c H locs cells slots Q (F0 m pc ls (.ref a :: rest)) := by
  obtain ⟨hx, hb, -, hts, hown, hK, -, -, -⟩ := X
  obtain ⟨n, hn⟩ := pl_get (cy := cy) ha.1
  by_cases h2 : k < 16
  · rw [PF_A ha.2 hm hk h2] at hn
    exact va_alen (D := G) hx hb hK hw.1 n (k - 13) hn ht rfl hdg kk
  · rw [PF_B ha.2 hm (Nat.not_lt.mp h2)] at hn
    exact va_alen (D := G) hx hb hK hw.1 n (k - 13) hn ht rfl hdg kk
theorem r_new (X : Cx p c cc nL s args Ts own m G cy κ A) (hw : Wd G cy A s.heap S H locs) (k0 k n2 c2 : Nat) (hm : k0 % 20 = k) {C : String} {T : u_T} {N : Nat} {z : List Value} (ty : Nat → FieldType) (hk : k < 13) (hc : vwCl[k]? = some (C, T, N)) (hin : ∀ w ∈ u_ws C T N, w ∈ Ts) (hty : ∀ k, k < N → parseFieldDescriptor (T k).2.2.1 = some (ty k)) (hcl : (Cond.classLink own index C).before args s = true) (hinst : (Cond.instantiable C N).before args s = true) (hini : (Cond.initialized C).before args s = true) (hz : ∀ S q, vals (sO S q k0) q k = z) (hfs : ∀ j, j < N → defaultValue (ty j) = vp_V z j) (h1 : cells + 1 ≤ c2) (h2 : slots + N ≤ n2) (h3 : c2 ≤ R.cells) (h4 : n2 ≤ R.slots) (hdg : decode cc pc = .ok (.new index, 3))
    (kk : ∀ (q : Nat) (H1 : Heap), q ∉ pL S → Wd G cy A s.heap (sO S q k0) H1 locs → W p l e R s m args below meth c H1 locs c2 n2 Q (F0 m (pc + 3) ls (.ref q :: rest))) : W p l e R s m args below meth c H locs cells slots Q (F0 m pc ls rest) := by
  obtain ⟨hx, hb, -, hts, hown, hK, hA, -, -⟩ := X
  obtain ⟨hP, hD, hS⟩ := hw
  refine va_new (ci := k) (fs := z) (C := C) (T := T) (N := N) hx hb hts hin ty hty hown hcl hinst hini hK hP hD hS hA hc hfs (Nat.le_trans h1 h3) (Nat.le_trans h2 h4) hdg (fun q H1 hP1 hD1 hS1 => ?_)
  have hq : q ∉ pL S := pl_fresh hD1
  rw [pl_push (S' := sO S q k0) hq rfl (PF_sO hm hk (hz S q))] at hP1 hD1
  exact W.widen h1 h2 (kk q H1 hq ⟨hP1, hD1, hS1⟩)
theorem r_newI (X : Cx p c cc nL s args Ts own m G cy κ A) (hw : Wd G cy A s.heap S H locs) (k0 n2 c2 : Nat) (hm : k0 % 20 = 14) {n : Int32} {N : Nat} (harr : (Cond.arrayClass .int).before args s = true) (hn : ¬ n < 0) (hN : n.toNatClampNeg = N) (hbytes : N ≤ 1000000) (h1 : cells + 1 ≤ c2) (h2 : slots + N ≤ n2) (h3 : c2 ≤ R.cells) (h4 : n2 ≤ R.slots) (hdg : decode cc pc = .ok (.newarray .int, 2))
    (kk : ∀ (q : Nat) (H1 : Heap), q ∉ pL S → Wd G cy A s.heap (sN S q k0 N) H1 locs → W p l e R s m args below meth c H1 locs c2 n2 Q (F0 m (pc + 2) ls (.ref q :: rest))) : W p l e R s m args below meth c H locs cells slots Q (F0 m pc ls (.int n :: rest)) := by
  obtain ⟨hx, hb, -, hts, hown, hK, hA, -, -⟩ := X
  obtain ⟨hP, hD, hS⟩ := hw
  refine va_newa (atype := .int) (ty := .int) (a0 := (N, .inl (fun _ => 0))) hx hb harr rfl hK hP hD hS hA (fun cA => rfl) hn hN (Nat.le_trans (Nat.mul_le_mul_right 4 hbytes) (by decide)) (Nat.le_trans h1 h3) (Nat.le_trans h2 h4) hdg (fun q cA H1 hK1 hP1 hD1 hS1 => ?_)
  have ec : cA = cy 1 := Option.some.inj ((hK1.2 7 (cA, .int) rfl).2.symm.trans (hK1.2 1 (cy 1, .int) rfl).2)
  subst ec
  have hq : q ∉ pL S := pl_fresh hD1
  rw [pl_push (S' := sN S q k0 N) hq rfl (PF_sNA (k := 14) hm (by decide) (by decide))] at hP1 hD1
  exact W.widen h1 h2 (kk q H1 hq ⟨hP1, hD1, hS1⟩)
theorem r_newB (X : Cx p c cc nL s args Ts own m G cy κ A) (hw : Wd G cy A s.heap S H locs) (k0 n2 c2 : Nat) (hm : k0 % 20 = 13) {n : Int32} {N : Nat} (harr : (Cond.arrayClass .byte).before args s = true) (hn : ¬ n < 0) (hN : n.toNatClampNeg = N) (hbytes : N ≤ 1000000) (h1 : cells + 1 ≤ c2) (h2 : slots + N ≤ n2) (h3 : c2 ≤ R.cells) (h4 : n2 ≤ R.slots) (hdg : decode cc pc = .ok (.newarray .byte, 2))
    (kk : ∀ (q : Nat) (H1 : Heap), q ∉ pL S → Wd G cy A s.heap (sN S q k0 N) H1 locs → W p l e R s m args below meth c H1 locs c2 n2 Q (F0 m (pc + 2) ls (.ref q :: rest))) : W p l e R s m args below meth c H locs cells slots Q (F0 m pc ls (.int n :: rest)) := by
  obtain ⟨hx, hb, -, hts, hown, hK, hA, -, -⟩ := X
  obtain ⟨hP, hD, hS⟩ := hw
  refine va_newa (atype := .byte) (ty := .byte) (a0 := (N, .inl (fun _ => 0))) hx hb harr rfl hK hP hD hS hA (fun cA => rfl) hn hN (Nat.le_trans (Nat.mul_le_mul_right 1 hbytes) (by decide)) (Nat.le_trans h1 h3) (Nat.le_trans h2 h4) hdg (fun q cA H1 hK1 hP1 hD1 hS1 => ?_)
  have ec : cA = cy 0 := Option.some.inj ((hK1.2 7 (cA, .byte) rfl).2.symm.trans (hK1.2 0 (cy 0, .byte) rfl).2)
  subst ec
  have hq : q ∉ pL S := pl_fresh hD1
  rw [pl_push (S' := sN S q k0 N) hq rfl (PF_sNA (k := 13) hm (by decide) (by decide))] at hP1 hD1
  exact W.widen h1 h2 (kk q H1 hq ⟨hP1, hD1, hS1⟩)
theorem r_newZ (X : Cx p c cc nL s args Ts own m G cy κ A) (hw : Wd G cy A s.heap S H locs) (k0 n2 c2 : Nat) (hm : k0 % 20 = 15) {n : Int32} {N : Nat} (harr : (Cond.arrayClass .boolean).before args s = true) (hn : ¬ n < 0) (hN : n.toNatClampNeg = N) (hbytes : N ≤ 1000000) (h1 : cells + 1 ≤ c2) (h2 : slots + N ≤ n2) (h3 : c2 ≤ R.cells) (h4 : n2 ≤ R.slots) (hdg : decode cc pc = .ok (.newarray .boolean, 2))
    (kk : ∀ (q : Nat) (H1 : Heap), q ∉ pL S → Wd G cy A s.heap (sN S q k0 N) H1 locs → W p l e R s m args below meth c H1 locs c2 n2 Q (F0 m (pc + 2) ls (.ref q :: rest))) : W p l e R s m args below meth c H locs cells slots Q (F0 m pc ls (.int n :: rest)) := by
  obtain ⟨hx, hb, -, hts, hown, hK, hA, -, -⟩ := X
  obtain ⟨hP, hD, hS⟩ := hw
  refine va_newa (atype := .boolean) (ty := .boolean) (a0 := (N, .inl (fun _ => 0))) hx hb harr rfl hK hP hD hS hA (fun cA => rfl) hn hN (Nat.le_trans (Nat.mul_le_mul_right 1 hbytes) (by decide)) (Nat.le_trans h1 h3) (Nat.le_trans h2 h4) hdg (fun q cA H1 hK1 hP1 hD1 hS1 => ?_)
  have ec : cA = cy 2 := Option.some.inj ((hK1.2 7 (cA, .boolean) rfl).2.symm.trans (hK1.2 2 (cy 2, .boolean) rfl).2)
  subst ec
  have hq : q ∉ pL S := pl_fresh hD1
  rw [pl_push (S' := sN S q k0 N) hq rfl (PF_sNA (k := 15) hm (by decide) (by decide))] at hP1 hD1
  exact W.widen h1 h2 (kk q H1 hq ⟨hP1, hD1, hS1⟩)
theorem r_newQ (X : Cx p c cc nL s args Ts own m G cy κ A) (hw : Wd G cy A s.heap S H locs) (k0 k n2 c2 : Nat) (hm : k0 % 20 = k) {C : String} {n : Int32} {N : Nat} (hk : 16 ≤ k) (ht : (tysL cy)[k - 13]? = some (cy (k - 13), .object C)) (hclink : (Cond.classLink own index C).before args s = true) (hover : va_AO C s) (hn : ¬ n < 0) (hN : n.toNatClampNeg = N) (hbytes : N ≤ 1000000) (h1 : cells + 1 ≤ c2) (h2 : slots + N ≤ n2) (h3 : c2 ≤ R.cells) (h4 : n2 ≤ R.slots) (hdg : decode cc pc = .ok (.anewarray index, 3))
    (kk : ∀ (q : Nat) (H1 : Heap), q ∉ pL S → Wd G cy A s.heap (sN S q k0 N) H1 locs → W p l e R s m args below meth c H1 locs c2 n2 Q (F0 m (pc + 3) ls (.ref q :: rest))) : W p l e R s m args below meth c H locs cells slots Q (F0 m pc ls (.int n :: rest)) := by
  obtain ⟨hx, hb, -, hts, hown, hK, hA, -, -⟩ := X
  obtain ⟨hP, hD, hS⟩ := hw
  refine va_newq (C := C) hx hb hown hclink hover hK hP hD hS hA hn hN (by omega) (Nat.le_trans h1 h3) (Nat.le_trans h2 h4) hdg (fun q cA H1 hK1 hP1 hD1 hS1 => ?_)
  have r1 := (hK1.2 7 (cA, .object C) rfl).2
  have r2 := (hK.2 (k - 13) (cy (k - 13), .object C) ht).2
  obtain ⟨_, _, _, _, _, f1⟩ := r1
  obtain ⟨_, _, _, _, _, f2⟩ := r2
  have ec : cA = cy (k - 13) := Option.some.inj (f1.symm.trans f2)
  subst ec
  have hq : q ∉ pL S := pl_fresh hD1
  rw [pl_push (S' := sN S q k0 N) hq rfl (PF_sNB hm hk)] at hP1 hD1
  exact W.widen h1 h2 (kk q H1 hq ⟨hP1, hD1, hS1⟩)
end PROWS
/-! ===== contracts over the pool ===== -/
def Pw (G : va_G) (cy : Nat → ClassId) (κ : Nat → Nat) (S : PS) (sz : Nat) : State → Prop := fun U => U.heap.size = sz ∧ va_P G vwCl (pool cy S) U.heap ∧ va_K G vwCl (tysL cy) U ∧ va_D (fun _ => True) (pool cy S) ∧ NG U ∧ Cst κ (AS S sz) U U.heap
def Bw (G : va_G) (cy : Nat → ClassId) (S : PS) (sz : Nat) : PS → State → Prop := fun S' t => va_P G vwCl (pool cy S') t.heap ∧ va_D (AS S sz) (pool cy S')
def Ci (l : Launch) (y : MethodName) (ws : List Cond) (rm : Room) (G : va_G) (cy : Nat → ClassId) (κ : Nat → Nat) (S : PS) (sz : Nat) (av : List Value) (post : Int32 → PS → Prop) : Prop := Met l y ws rm (va_Pc av (Pw G cy κ S sz)) (va_Qi post (Bw G cy S sz) (AS S sz)) rm.cells rm.slots (AS S sz)
def Cv (l : Launch) (y : MethodName) (ws : List Cond) (rm : Room) (G : va_G) (cy : Nat → ClassId) (κ : Nat → Nat) (S : PS) (sz : Nat) (av : List Value) (post : PS → Prop) : Prop := Met l y ws rm (va_Pc av (Pw G cy κ S sz)) (va_Qv post (Bw G cy S sz) (AS S sz)) rm.cells rm.slots (AS S sz)
def Cq (l : Launch) (y : MethodName) (ws : List Cond) (rm : Room) (G : va_G) (cy : Nat → ClassId) (κ : Nat → Nat) (S : PS) (sz : Nat) (av : List Value) (post : Option Nat → PS → Prop) : Prop := Met l y ws rm (va_Pc av (Pw G cy κ S sz)) (va_Qq post (Bw G cy S sz) (AS S sz)) rm.cells rm.slots (AS S sz)
theorem ent_m {l : Launch} {y : MethodName} {ws ws' : List Cond} {rm : Room} {G : va_G} {cy : Nat → ClassId} {κ : Nat → Nat} {S : PS} {sz : Nat} {av : List Value} {Qc : Array Value → State → Outcome → State → Prop} {cc : ByteArray} {maxL : Nat} {ret : Option FieldType} (hy : plainName y.cls = true) (hw : ws = Cond.code y cc maxL ret :: ws') (hlen : (lg_sl av).length ≤ maxL)
    (body : ∀ (p : Program) (e : Env) (s : State) (m : MethodId) (below : List Frame) (meth : Method) (c : Code) (ls : Array Slot), Cx p c cc maxL s av.toArray ws y.cls m G cy κ (AS S s.heap.size) → meth.sig.returnType = ret → meth.locks = false → meth.name = y.name → Wd G cy (AS S s.heap.size) s.heap S s.heap [] → lv_has ls maxL (lv_args 0 av) → sz = s.heap.size → W p l e rm s m av.toArray below meth c s.heap [] 0 0 (MQ below Qc av.toArray s rm.cells rm.slots (AS S sz)) (F0 m 0 ls [])) : Met l y ws rm (va_Pc av (Pw G cy κ S sz)) Qc rm.cells rm.slots (AS S sz) := by
  refine Met.ofW (cc := cc) (maxL := maxL) (ret := ret) hy hw ?_
  intro p e s m args below meth c s₁ B hml hv
  obtain ⟨rfl, hsz, hP, hK, hD, hNG, hCs⟩ := hv
  subst hsz
  have hl := lv_entry av (n := maxL) hlen
  rw [lg_entry_eq]
  refine body p e s m below meth c _ ⟨B.exec, B.bytes, hml, atoms_spec (ws := ws) B.pre, findClass_of_methodNamed B.named, hK, fun q h => Or.inr h, hNG, hCs⟩ B.returns B.notSynchronized (name_of_methodNamed B.named B.method).1 ⟨hP, ?_, va_S.rf⟩ hl rfl
  exact hD.weaken (fun k q hk _ => Or.inl (pl_mem hk))
section PCALLS
variable {p : Program} {l : Launch} {e : Env} {R : Room} {s : State} {m : MethodId} {args : Array Value} {below : List Frame} {meth : Method} {c : Code} {H : Heap} {locs : List Loc} {cells slots : Nat} {Q : State → Prop}
variable {cc : ByteArray} {pc nL : Nat} {ls : Array Slot} {rest : List Value} {Ts : List Cond} {own ref : String} {G : va_G} {cy : Nat → ClassId} {κ : Nat → Nat} {A : Nat → Prop} {S : PS} {a k0 k index : Nat}
theorem ret_i {S0 S' : PS} {post : Int32 → PS → Prop} {v : Int32} {mc ms : Nat} (X : Cx p c cc nL s args Ts own m G cy κ (AS S0 s.heap.size)) (hw : Wd G cy (AS S0 s.heap.size) s.heap S' H locs) (hr : meth.sig.returnType = some .int) (hlocks : meth.locks = false) (h1 : cells ≤ mc) (h2 : slots ≤ ms) (hp : post v S') (hdg : decode cc pc = .ok (.ireturn, 1)) : W p l e R s m args below meth c H locs cells slots (MQ below (va_Qi post (Bw G cy S0 s.heap.size) (AS S0 s.heap.size)) args s mc ms (AS S0 s.heap.size)) (F0 m pc ls [.int v]) := by
  refine W.widen h1 h2 ?_
  exact W.iret X.1 X.2.1 hr (fun t ht hW => ⟨⟨v, S', rfl, hp, by rw [ht]; exact hw.1, hw.2.1⟩, hw.2.2.F ht⟩) hw.2.2.2.2 hdg hlocks
theorem ret_z {S0 S' : PS} {post : Int32 → PS → Prop} {v : Int32} {mc ms : Nat} (X : Cx p c cc nL s args Ts own m G cy κ (AS S0 s.heap.size)) (hw : Wd G cy (AS S0 s.heap.size) s.heap S' H locs) (hr : meth.sig.returnType = some .boolean) (hlocks : meth.locks = false) (h1 : cells ≤ mc) (h2 : slots ≤ ms) (hv : v = 0 ∨ v = 1) (hp : post v S') (hdg : decode cc pc = .ok (.ireturn, 1)) : W p l e R s m args below meth c H locs cells slots (MQ below (va_Qi post (Bw G cy S0 s.heap.size) (AS S0 s.heap.size)) args s mc ms (AS S0 s.heap.size)) (F0 m pc ls [.int v]) := by
  refine W.widen h1 h2 ?_
  exact W.zret X.1 X.2.1 hr (by rcases hv with h | h <;> (rw [h]; decide +kernel)) (fun t ht hW => ⟨⟨v, S', rfl, hp, by rw [ht]; exact hw.1, hw.2.1⟩, hw.2.2.F ht⟩) hw.2.2.2.2 hdg hlocks
theorem ret_v {S0 S' : PS} {post : PS → Prop} {mc ms : Nat} (X : Cx p c cc nL s args Ts own m G cy κ (AS S0 s.heap.size)) (hw : Wd G cy (AS S0 s.heap.size) s.heap S' H locs) (hr : meth.sig.returnType = none) (hlocks : meth.locks = false) (h1 : cells ≤ mc) (h2 : slots ≤ ms) (hp : post S') (hdg : decode cc pc = .ok (.return_, 1)) : W p l e R s m args below meth c H locs cells slots (MQ below (va_Qv post (Bw G cy S0 s.heap.size) (AS S0 s.heap.size)) args s mc ms (AS S0 s.heap.size)) (F0 m pc ls []) := by
  refine W.widen h1 h2 ?_
  exact W.vret X.1 X.2.1 hr (fun t ht hW => ⟨⟨S', rfl, hp, by rw [ht]; exact hw.1, hw.2.1⟩, hw.2.2.F ht⟩) hw.2.2.2.2 hdg hlocks
theorem ret_q {S0 S' : PS} {post : Option Nat → PS → Prop} {v : Value} {mc ms : Nat} {C : String} (r : Option Nat) (hv : va_rf r = v) (X : Cx p c cc nL s args Ts own m G cy κ (AS S0 s.heap.size)) (hw : Wd G cy (AS S0 s.heap.size) s.heap S' H locs) (hr : meth.sig.returnType = some (.object C)) (hlocks : meth.locks = false) (h1 : cells ≤ mc) (h2 : slots ≤ ms) (hp : post r S') (hdg : decode cc pc = .ok (.areturn, 1)) : W p l e R s m args below meth c H locs cells slots (MQ below (va_Qq post (Bw G cy S0 s.heap.size) (AS S0 s.heap.size)) args s mc ms (AS S0 s.heap.size)) (F0 m pc ls [v]) := by
  refine W.widen h1 h2 ?_
  subst hv
  exact W.aret X.1 X.2.1 hr (Or.inl ⟨C, rfl⟩) (va_rf_or r) (fun t ht hW => ⟨⟨r, S', rfl, hp, by rw [ht]; exact hw.1, hw.2.1⟩, hw.2.2.F ht⟩) hw.2.2.2.2 hdg hlocks
theorem cfix (X : Cx p c cc nL s args Ts own m G cy κ A) : CallFix p m c cc nL s args Ts own := ⟨X.1, X.2.1, X.2.2.1, X.2.2.2.2.1, X.2.2.2.1⟩
theorem as_in (X : Cx p c cc nL s args Ts own m G cy κ A) (hw : Wd G cy A s.heap S H locs) : ∀ q, AS S H.size q → A q := by
  intro q h
  rcases h with h | h
  · obtain ⟨n, hn⟩ := pl_get (cy := cy) h
    exact hw.2.1.2 n _ hn
  · exact X.2.2.2.2.2.2.1 q (Nat.le_trans hw.2.2.1 h)
theorem cst_at (X : Cx p c cc nL s args Ts own m G cy κ A) (hw : Wd G cy A s.heap S H locs) {U : State} (hU : U.heap = H) (hW : s.WarmedH U.vm) : Cst κ (AS S H.size) U U.heap := by
  rw [hU]
  exact ((X.2.2.2.2.2.2.2.2.kept hw.2.2.2.1).narrow (as_in X hw)).warm hW
theorem pw_of (X : Cx p c cc nL s args Ts own m G cy κ A) (hw : Wd G cy A s.heap S H locs) {U : State} (hU : U.heap = H) (hW : s.WarmedH U.vm) : Pw G cy κ S H.size U := ⟨by rw [hU], by rw [hU]; exact hw.1, va_K.moved hW.alike X.2.2.2.2.2.1, hw.2.1.weaken (fun _ _ _ _ => trivial), NG_warm hW X.2.2.2.2.2.2.2.1, cst_at X hw hU hW⟩
theorem pw_blind {av : List Value} {sz : Nat} : FrameBlind (va_Pc av (Pw G cy κ S sz)) := fun a U g mk q => by
  obtain ⟨q0, q1, qP, qK, qD, qN, qC⟩ := q
  exact ⟨q0, q1, qP, va_K.moved (u := U) (U := U.calling g mk a) (Vm.Alike.refl U.vm) qK, qD, NG_same (s := U) rfl qN, Cst.same (u := U) (U := U.calling g mk a) rfl qC⟩
theorem pre_S (X : Cx p c cc nL s args Ts own m G cy κ A) (hw : Wd G cy A s.heap S H locs) (av : List Value) : PreS s H (va_Pc av (Pw G cy κ S H.size)) av := ⟨pw_blind, fun U hU hW => ⟨rfl, pw_of X hw hU hW⟩⟩
theorem pre_V (X : Cx p c cc nL s args Ts own m G cy κ A) (hw : Wd G cy A s.heap S H locs) (av : List Value) {b : Nat} (ha : At S b k0) (hm : k0 % 20 = k) (hk : k < 13) {q : vw_C} (hc : vwCl[k]? = some q) : PreV s H q.1 b (va_Pc (.ref b :: av) (Pw G cy κ S H.size)) av := by
  obtain ⟨n, hn⟩ := pl_get (cy := cy) ha.1
  rw [PF_O ha.2 hm hk] at hn
  exact ⟨pw_blind, va_recv X.2.2.2.2.2.1 hw.1 hc hn, fun U hU hW => ⟨rfl, pw_of X hw hU hW⟩⟩
theorem bw_of {S' : PS} {t : State} {H1 : Heap} {locs1 : List Loc} (X : Cx p c cc nL s args Ts own m G cy κ A) (hw : Wd G cy A s.heap S H locs) (ht : t.heap = H1) (hB : Bw G cy S H.size S' t) (hS : va_S A s.heap H1 locs1) : Wd G cy A s.heap S' H1 locs1 := ⟨by rw [← ht]; exact hB.1, hB.2.weaken (fun _ q _ h => as_in X hw q.1 h), hS⟩
theorem bw_new {S' : PS} {t : State} {sz : Nat} (hB : Bw G cy S sz S' t) : ∀ q ∈ pL S', q ∈ pL S ∨ sz ≤ q := fun q hq => by
  obtain ⟨n, hn⟩ := pl_get (cy := cy) hq
  exact hB.2.2 n _ hn
theorem k_i {rm : Room} {av : List Value} {post : Int32 → PS → Prop} {st0 : List Value} (X : Cx p c cc nL s args Ts own m G cy κ A) (hw : Wd G cy A s.heap S H locs) (hrun : va_Run p l e R s m args below meth c H locs cells slots rm.cells rm.slots (F0 m pc ls st0) rest (va_Qi post (Bw G cy S H.size) (AS S H.size) av.toArray) (AS S H.size)) (c2 n2 : Nat) (h1 : cells + rm.cells ≤ c2) (h2 : slots + rm.slots ≤ n2)
    (kk : ∀ (r : Int32) (S' : PS) (H1 : Heap) (locs1 : List Loc), post r S' → Wd G cy A s.heap S' H1 locs1 → (∀ q, q < H.size → q ∉ pL S → H1[q]? = H[q]?) → (∀ q ∈ pL S', q ∈ pL S ∨ H.size ≤ q) → W p l e R s m args below meth c H1 locs1 c2 n2 Q (F0 m (pc + 3) ls (.int r :: rest))) : W p l e R s m args below meth c H locs cells slots Q (F0 m pc ls st0) := by
  refine va_calli hrun hw.2.2 (fun q _ h => as_in X hw q h) (as_in X hw) (fun r S' t H1 locs1 ht hvm hp hB hz hk hS => ?_)
  exact W.widen h1 h2 (kk r S' H1 locs1 hp (bw_of X hw ht hB hS) (fun q hq hn => hk q hq (fun h => h.elim hn (fun h => absurd hq (Nat.not_lt.mpr h)))) (bw_new hB))
theorem k_v {rm : Room} {av : List Value} {post : PS → Prop} {st0 : List Value} (X : Cx p c cc nL s args Ts own m G cy κ A) (hw : Wd G cy A s.heap S H locs) (hrun : va_Run p l e R s m args below meth c H locs cells slots rm.cells rm.slots (F0 m pc ls st0) rest (va_Qv post (Bw G cy S H.size) (AS S H.size) av.toArray) (AS S H.size)) (c2 n2 : Nat) (h1 : cells + rm.cells ≤ c2) (h2 : slots + rm.slots ≤ n2)
    (kk : ∀ (S' : PS) (H1 : Heap) (locs1 : List Loc), post S' → Wd G cy A s.heap S' H1 locs1 → (∀ q, q < H.size → q ∉ pL S → H1[q]? = H[q]?) → (∀ q ∈ pL S', q ∈ pL S ∨ H.size ≤ q) → W p l e R s m args below meth c H1 locs1 c2 n2 Q (F0 m (pc + 3) ls rest)) : W p l e R s m args below meth c H locs cells slots Q (F0 m pc ls st0) := by
  refine va_callv hrun hw.2.2 (fun q _ h => as_in X hw q h) (as_in X hw) (fun S' t H1 locs1 ht hvm hp hB hz hk hS => ?_)
  exact W.widen h1 h2 (kk S' H1 locs1 hp (bw_of X hw ht hB hS) (fun q hq hn => hk q hq (fun h => h.elim hn (fun h => absurd hq (Nat.not_lt.mpr h)))) (bw_new hB))
theorem k_q {rm : Room} {av : List Value} {post : Option Nat → PS → Prop} {st0 : List Value} (X : Cx p c cc nL s args Ts own m G cy κ A) (hw : Wd G cy A s.heap S H locs) (hrun : va_Run p l e R s m args below meth c H locs cells slots rm.cells rm.slots (F0 m pc ls st0) rest (va_Qq post (Bw G cy S H.size) (AS S H.size) av.toArray) (AS S H.size)) (c2 n2 : Nat) (h1 : cells + rm.cells ≤ c2) (h2 : slots + rm.slots ≤ n2)
    (kk : ∀ (r : Option Nat) (S' : PS) (H1 : Heap) (locs1 : List Loc), post r S' → Wd G cy A s.heap S' H1 locs1 → (∀ q, q < H.size → q ∉ pL S → H1[q]? = H[q]?) → (∀ q ∈ pL S', q ∈ pL S ∨ H.size ≤ q) → W p l e R s m args below meth c H1 locs1 c2 n2 Q (F0 m (pc + 3) ls (va_rf r :: rest))) : W p l e R s m args below meth c H locs cells slots Q (F0 m pc ls st0) := by
  refine va_callq hrun hw.2.2 (fun q _ h => as_in X hw q h) (as_in X hw) (fun r S' t H1 locs1 ht hvm hp hB hz hk hS => ?_)
  exact W.widen h1 h2 (kk r S' H1 locs1 hp (bw_of X hw ht hB hS) (fun q hq hn => hk q hq (fun h => h.elim hn (fun h => absurd hq (Nat.not_lt.mpr h)))) (bw_new hB))
end PCALLS
