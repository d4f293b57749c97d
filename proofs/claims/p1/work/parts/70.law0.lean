def R_law : String := "SilkMillLaw"
def lw_P (b : Addr) (xs : List Int32) (args : Array Value) (s : State) : Prop := args = #[.ref b] ∧ s.IntsAt b xs ∧ xs.length ≤ 6 ∧ (Jvm.Cond.and given_1 narrow_1).before args s = true
def lw_Q (_ : Array Value) (s : State) (o : Outcome) (t : State) : Prop := o = .returned (some (.int 1)) ∧ Framed s o t [] 600002 7302232
def lw_Z (below : List Frame) (a : Array Value) (s : State) : State → Prop := fun t => ∃ o, t.status = .running ∧ Ended t below o ∧ lw_Q a s o t
/-- the law's own end, with 1 on the stack, nothing written that was there before, its room as the claim has it -/
theorem lw_ret {p : Program} {l : Launch} {e : Env} {s : State} {m : MethodId} {below : List Frame} {meth : Method} {c : Code} {b : Nat} (hx : p.tables.exec = Jvm.exec) (hb : c.code = code) (hr : meth.sig.returnType = ret) (hlocks : meth.locks = false) {pc : Nat} {H : Heap} {ls : Array Slot} (hdg : decode code pc = .ok (.ireturn, 1)) : W p l e room_1 s m #[Value.ref b] below meth c H [] 600002 7302232 (lw_Z below #[Value.ref b] s) (F0 m pc ls [.int 1]) := by
  intro T hT X
  obtain ⟨fs, hret, hrun, hended, hW, hframe⟩ := X.leave (v := some (.int 1)) (hlocks := hlocks) (fun h => by rw [hr] at h; cases h)
  have hmeth' : T.vm.method? m = some meth := X.method'
  refine ⟨T.setFrames fs, ?_, .returned (some (.int 1)), hrun, hended, rfl, ⟨_, rfl⟩, hW, hframe⟩
  jvm_step X.here [X.here.top, hx, hb, hdg, hmeth', hr, ret, narrow_b1]
  (try refine ⟨rfl, ?_⟩); (try refine ⟨rfl, ?_⟩)
  first | (intro acts; rw [hret _ acts rfl rfl rfl]) | rw [hret _ _ rfl rfl rfl]
  exact Steps.refl _
/-- what holds at the law's entry: the machine, the code, the tables' words (any of lw_tbl by 'hts w (by decide +kernel)'), the script of L ints xs at the cell b, what the Statement gives of the start (any of its parts by flat_of_before) -/
def lw_At (p : Program) (s : State) (m : MethodId) (meth : Method) (c : Code) (b L : Nat) (xs : Nat → Int32) : Prop :=
  p.tables.exec = Jvm.exec ∧ c.code = code ∧ meth.sig.returnType = ret ∧ c.maxLocals = 7 ∧ s.vm.findClass R_law = some m.cls ∧ (∀ w ∈ lw_tbl, w.before #[Value.ref b] s = true) ∧ va_X b L xs s s.heap ∧ b < s.heap.size ∧ meth.locks = false ∧ (Jvm.Cond.and given_1 narrow_1).before #[Value.ref b] s = true
theorem ka_prim {args : Array Value} {s : State} {ty : FieldType} (h : (Cond.arrayClass ty).before args s = true) (hp : ∀ cA, s.vm.findClass ("[" ++ ty.toString) = some cA → va_RA s cA ty) : ∃ cA, ArrOfT s cA ty ∧ va_RA s cA ty := by
  obtain ⟨cA, kA, comp, h1, h2, h3⟩ := Cond.arrayClass_spec h
  exact ⟨cA, fun n z => ⟨fun k h => (by cases h), kA, h2, comp, h3⟩, hp cA h1⟩
theorem ka_obj {args : Array Value} {s : State} {C : String} (h : (Cond.arrayOver (.object C)).before args s = true) : ∃ cA, ArrOfT s cA (.object C) ∧ va_RA s cA (.object C) := by
  obtain ⟨comp, cA, kA, h1, h2, h3, h4, h5⟩ := Cond.arrayOver_spec h
  exact ⟨cA, fun n z => ⟨fun k h => (by cases h), kA, h3, comp, h4⟩, kA, comp, h3, h4, h1, h5⟩
def PS0 : PS := ([], (fun _ => 0), (fun _ _ => 0), (fun _ _ => none), (fun _ => 0), (fun _ _ => 0), (fun _ _ => none))
theorem Wd_0 {G : va_G} {cy : Nat → ClassId} {A : Nat → Prop} {H : Heap} : Wd G cy A H PS0 H [] := ⟨fun k q h => by simp [pool, va_pl, pL, PS0] at h, ⟨fun i j p q h => by simp [pool, va_pl, pL, PS0] at h, fun k q h => by simp [pool, va_pl, pL, PS0] at h⟩, va_S.rf⟩
theorem va_P_l {D : va_G} {cl : List vw_C} {w1 w2 : va_W} {H : Heap} (h : va_P D cl (w1 ++ w2) H) : va_P D cl w1 H := fun k q hk => h k q (by rw [List.getElem?_append_left (List.getElem?_eq_some_iff.mp hk).1]; exact hk)
theorem va_P_r {D : va_G} {cl : List vw_C} {w1 w2 : va_W} {H : Heap} (h : va_P D cl (w1 ++ w2) H) : va_P D cl w2 H := fun k q hk => h (w1.length + k) q (by rw [List.getElem?_append_right (by omega), show w1.length + k - w1.length = k by omega]; exact hk)
theorem va_D_l {A : Nat → Prop} {w1 w2 : va_W} (h : va_D A (w1 ++ w2)) : va_D A w1 := ⟨fun i j p q hi hj e => h.1 i j p q (by rw [List.getElem?_append_left (List.getElem?_eq_some_iff.mp hi).1]; exact hi) (by rw [List.getElem?_append_left (List.getElem?_eq_some_iff.mp hj).1]; exact hj) e, fun k q hk => h.2 k q (by rw [List.getElem?_append_left (List.getElem?_eq_some_iff.mp hk).1]; exact hk)⟩
theorem va_D_r {A : Nat → Prop} {w1 w2 : va_W} (h : va_D A (w1 ++ w2)) : va_D A w2 := ⟨fun i j p q hi hj e => by
  have := h.1 (w1.length + i) (w1.length + j) p q (by rw [List.getElem?_append_right (by omega), show w1.length + i - w1.length = i by omega]; exact hi) (by rw [List.getElem?_append_right (by omega), show w1.length + j - w1.length = j by omega]; exact hj) e
  omega, fun k q hk => h.2 (w1.length + k) q (by rw [List.getElem?_append_right (by omega), show w1.length + k - w1.length = k by omega]; exact hk)⟩
theorem Wd_keep {G : va_G} {cy : Nat → ClassId} {A : Nat → Prop} {H0 H H1 : Heap} {S S1 : PS} {locs locs1 : List Loc} (hw : Wd G cy A H0 S H locs) (hfr : ∀ q, q < H.size → q ∉ pL S1 → H1[q]? = H[q]?) (hd : ∀ q ∈ pL S, q ∉ pL S1) (hS : va_S A H0 H1 locs1) : Wd G cy A H0 S H1 locs1 := ⟨hw.1.kept (fun k q hk => hfr q.1 (hw.lt (pl_mem hk)) (hd _ (pl_mem hk))), hw.2.1, hS⟩
theorem dj_keep {S S1 S2 : PS} {n : Nat} (hd : ∀ q ∈ pL S, q ∉ pL S1) (hn : ∀ q ∈ pL S2, q ∈ pL S1 ∨ n ≤ q) (hl : ∀ q ∈ pL S, q < n) : ∀ q ∈ pL S, q ∉ pL S2 := fun q hq h => (hn q h).elim (hd q hq) (fun z => absurd (hl q hq) (Nat.not_lt.mpr z))
theorem dj_keep2 {S S1 S2 : PS} {n : Nat} (hd : ∀ q ∈ pL S1, q ∉ pL S) (hn : ∀ q ∈ pL S2, q ∈ pL S1 ∨ n ≤ q) (hl : ∀ q ∈ pL S, q < n) : ∀ q ∈ pL S2, q ∉ pL S := fun q hq h => (hn q hq).elim (fun z => hd q z h) (fun z => absurd (hl q h) (Nat.not_lt.mpr z))
section LROWS
variable {p : Program} {l : Launch} {e : Env} {R : Room} {s : State} {m : MethodId} {args : Array Value} {below : List Frame} {meth : Method} {c : Code} {H : Heap} {locs : List Loc} {cells slots : Nat} {Q : State → Prop}
variable {cc : ByteArray} {pc nL : Nat} {ls : Array Slot} {rest : List Value} {Ts : List Cond} {own ref : String} {G : va_G} {cy : Nat → ClassId} {A : Nat → Prop} {SX SM : PS} {a k index : Nat}
theorem r_new2 (X : Cx p c cc nL s args Ts own m G cy A) (hw : Wd G cy A s.heap SX H locs) (k n2 c2 : Nat) {C : String} {T : u_T} {N : Nat} {z : List Value} (ty : Nat → FieldType) (hk : k < 13) (hc : vwCl[k]? = some (C, T, N)) (hin : ∀ w ∈ u_ws C T N, w ∈ Ts) (hty : ∀ k, k < N → parseFieldDescriptor (T k).2.2.1 = some (ty k)) (hcl : (Cond.classLink own index C).before args s = true) (hinst : (Cond.instantiable C N).before args s = true) (hini : (Cond.initialized C).before args s = true) (hz : ∀ S q, vals (sO S q k) q k = z) (hfs : ∀ j, j < N → defaultValue (ty j) = vp_V z j) (h1 : cells + 1 ≤ c2) (h2 : slots + N ≤ n2) (h3 : c2 ≤ R.cells) (h4 : n2 ≤ R.slots) (hdg : decode cc pc = .ok (.new index, 3))
    (kk : ∀ (q : Nat) (H1 : Heap), q ∉ pL SX → Wd G cy A s.heap SX H1 locs → Wd G cy A s.heap (sO PS0 q k) H1 locs → W p l e R s m args below meth c H1 locs c2 n2 Q (F0 m (pc + 3) ls (.ref q :: rest))) : W p l e R s m args below meth c H locs cells slots Q (F0 m pc ls rest) := by
  obtain ⟨hx, hb, -, hts, hown, hK, hA, -⟩ := X
  obtain ⟨hP, hD, hS⟩ := hw
  refine va_new (ci := k) (fs := z) (C := C) (T := T) (N := N) hx hb hts hin ty hty hown hcl hinst hini hK hP hD hS hA hc hfs (Nat.le_trans h1 h3) (Nat.le_trans h2 h4) hdg (fun q H1 hP1 hD1 hS1 => ?_)
  have hq : q ∉ pL SX := pl_fresh hD1
  have e0 : pool cy PS0 ++ [(q, (.inr (k, z) : va_E))] = pool cy (sO PS0 q k) := pl_push (S' := sO PS0 q k) (fun h => by cases h) rfl (PF_sO hk (hz PS0 q))
  have e1 : [(q, (.inr (k, z) : va_E))] = pool cy (sO PS0 q k) := e0
  refine W.widen h1 h2 (kk q H1 hq ⟨va_P_l hP1, va_D_l hD1, hS1⟩ ⟨?_, ?_, hS1⟩)
  · rw [← e1]; exact va_P_r hP1
  · rw [← e1]; exact va_D_r hD1
theorem r_newL (X : Cx p c cc nL s args Ts own m G cy A) (hwX : Wd G cy A s.heap SX H locs) (hwM : Wd G cy A s.heap SM H locs) (hd : ∀ q ∈ pL SX, q ∉ pL SM) (n2 c2 : Nat) (harr : (Cond.arrayClass .long).before args s = true) (h1 : cells + 1 ≤ c2) (h2 : slots + 1 ≤ n2) (h3 : c2 ≤ R.cells) (h4 : n2 ≤ R.slots) (hdg : decode cc pc = .ok (.newarray .long, 2))
    (kk : ∀ (q : Nat) (H1 : Heap), Wd G cy A s.heap SX H1 locs → Wd G cy A s.heap SM H1 locs → W p l e R s m args below meth c H1 locs c2 n2 Q (F0 m (pc + 2) ls (.ref q :: rest))) : W p l e R s m args below meth c H locs cells slots Q (F0 m pc ls (.int 1 :: rest)) := by
  obtain ⟨hx, hb, -, hts, hown, hK, hA, -⟩ := X
  obtain ⟨hP, hD, hS⟩ := hwX
  obtain ⟨hP2, hD2, -⟩ := hwM
  refine va_newa (atype := .long) (ty := .long) (a0 := (1, .inr (.inl (fun _ => 0)))) (N' := 1) hx hb harr rfl hK (hP.app hP2) (hD.app hD2 (fun i j p q hi hj e => hd _ (pl_mem hi) (e ▸ pl_mem hj))) hS hA (fun cA => rfl) (by decide) (by decide) (by decide) (Nat.le_trans h1 h3) (Nat.le_trans h2 h4) hdg (fun q cA H1 hK1 hP1 hD1 hS1 => ?_)
  have a1 := va_P_l hP1
  have a2 := va_D_l hD1
  exact W.widen h1 h2 (kk q H1 ⟨va_P_l a1, va_D_l a2, hS1⟩ ⟨va_P_r a1, va_D_r a2, hS1⟩)
end LROWS
theorem len6 {L : Nat} (h : L ≤ 6) (c : ¬ (Int32.ofNat L - 6 < 0)) : L = 6 := by
  rcases Nat.lt_or_ge L 6 with q | q
  · exact absurd (pk_sneg (a := L) (b := 6) (by decide) q) c
  · omega
theorem law_known {args : Array Value} {s : State} (hts : ∀ w ∈ lw_tbl, w.before args s = true) : ∃ (G : va_G) (cy : Nat → ClassId), va_K G vwCl (tysL cy) s := by
  obtain ⟨c0, iS0, hK0⟩ := u_known (C := RX0) (T := TX0) (N := 10) (n := 10) hts glx_0 (hts (.instantiable RX0 10) (by decide +kernel))
  obtain ⟨c1, iS1, hK1⟩ := u_known (C := RX1) (T := TX1) (N := 4) (n := 4) hts glx_1 (hts (.instantiable RX1 4) (by decide +kernel))
  obtain ⟨c2, iS2, hK2⟩ := u_known (C := RX2) (T := TX2) (N := 8) (n := 8) hts glx_2 (hts (.instantiable RX2 8) (by decide +kernel))
  obtain ⟨c3, iS3, hK3⟩ := u_known (C := RX3) (T := TX3) (N := 5) (n := 5) hts glx_3 (hts (.instantiable RX3 5) (by decide +kernel))
  obtain ⟨c4, iS4, hK4⟩ := u_known (C := RX4) (T := TX4) (N := 12) (n := 12) hts glx_4 (hts (.instantiable RX4 12) (by decide +kernel))
  obtain ⟨c5, iS5, hK5⟩ := u_known (C := RX5) (T := TX5) (N := 3) (n := 3) hts glx_5 (hts (.instantiable RX5 3) (by decide +kernel))
  obtain ⟨c6, iS6, hK6⟩ := u_known (C := RX6) (T := TX6) (N := 7) (n := 7) hts glx_6 (hts (.instantiable RX6 7) (by decide +kernel))
  obtain ⟨c7, iS7, hK7⟩ := u_known (C := RX7) (T := TX7) (N := 10) (n := 10) hts glx_7 (hts (.instantiable RX7 10) (by decide +kernel))
  obtain ⟨c8, iS8, hK8⟩ := u_known (C := RX8) (T := TX8) (N := 13) (n := 13) hts glx_8 (hts (.instantiable RX8 13) (by decide +kernel))
  obtain ⟨c9, iS9, hK9⟩ := u_known (C := RX9) (T := TX9) (N := 9) (n := 9) hts glx_9 (hts (.instantiable RX9 9) (by decide +kernel))
  obtain ⟨c10, iS10, hK10⟩ := u_known (C := RX10) (T := TX10) (N := 7) (n := 7) hts glx_10 (hts (.instantiable RX10 7) (by decide +kernel))
  obtain ⟨c11, iS11, hK11⟩ := u_known (C := RX11) (T := TX11) (N := 12) (n := 12) hts glx_11 (hts (.instantiable RX11 12) (by decide +kernel))
  obtain ⟨c12, iS12, hK12⟩ := u_known (C := RX12) (T := TX12) (N := 66) (n := 66) hts glx_12 (hts (.instantiable RX12 66) (by decide +kernel))
  obtain ⟨a0, ha0⟩ := ka_prim (ty := .byte) (hts (.arrayClass .byte) (by decide +kernel)) (fun _ h => h)
  obtain ⟨a1, ha1⟩ := ka_prim (ty := .int) (hts (.arrayClass .int) (by decide +kernel)) (fun _ h => h)
  obtain ⟨a2, ha2⟩ := ka_prim (ty := .boolean) (hts (.arrayClass .boolean) (by decide +kernel)) (fun _ h => h)
  obtain ⟨a3, ha3⟩ := ka_obj (C := "SilkMill$Cocoon") (hts (.arrayOver (.object "SilkMill$Cocoon")) (by decide +kernel))
  obtain ⟨a4, ha4⟩ := ka_obj (C := "SilkMill$Place") (hts (.arrayOver (.object "SilkMill$Place")) (by decide +kernel))
  obtain ⟨a5, ha5⟩ := ka_obj (C := "SilkMill$Pot") (hts (.arrayOver (.object "SilkMill$Pot")) (by decide +kernel))
  obtain ⟨a6, ha6⟩ := ka_obj (C := "SilkMill$Skein") (hts (.arrayOver (.object "SilkMill$Skein")) (by decide +kernel))
  refine ⟨(fun k => match k with | 0 => c0 | 1 => c1 | 2 => c2 | 3 => c3 | 4 => c4 | 5 => c5 | 6 => c6 | 7 => c7 | 8 => c8 | 9 => c9 | 10 => c10 | 11 => c11 | _ => c12, fun k => match k with | 0 => iS0 | 1 => iS1 | 2 => iS2 | 3 => iS3 | 4 => iS4 | 5 => iS5 | 6 => iS6 | 7 => iS7 | 8 => iS8 | 9 => iS9 | 10 => iS10 | 11 => iS11 | _ => iS12), fun k => match k with | 0 => a0 | 1 => a1 | 2 => a2 | 3 => a3 | 4 => a4 | 5 => a5 | _ => a6, ?_, ?_⟩
  · intro k q hq
    match k, hq with
    | 0, hq => cases hq; exact hK0
    | 1, hq => cases hq; exact hK1
    | 2, hq => cases hq; exact hK2
    | 3, hq => cases hq; exact hK3
    | 4, hq => cases hq; exact hK4
    | 5, hq => cases hq; exact hK5
    | 6, hq => cases hq; exact hK6
    | 7, hq => cases hq; exact hK7
    | 8, hq => cases hq; exact hK8
    | 9, hq => cases hq; exact hK9
    | 10, hq => cases hq; exact hK10
    | 11, hq => cases hq; exact hK11
    | 12, hq => cases hq; exact hK12
    | k + 13, hq => simp [vwCl] at hq
  · intro k q hq
    match k, hq with
    | 0, hq => cases hq; exact ha0
    | 1, hq => cases hq; exact ha1
    | 2, hq => cases hq; exact ha2
    | 3, hq => cases hq; exact ha3
    | 4, hq => cases hq; exact ha4
    | 5, hq => cases hq; exact ha5
    | 6, hq => cases hq; exact ha6
    | k + 7, hq => simp [tysL] at hq
theorem law_NG {args : Array Value} {s : State} (hts : ∀ w ∈ lw_tbl, w.before args s = true) : NG s := ⟨⟨va_AO.of (hts (.arrayOver (.object RX0)) (by decide +kernel)), va_AO.of (hts (.arrayOver (.object RX3)) (by decide +kernel)), va_AO.of (hts (.arrayOver (.object RX4)) (by decide +kernel)), va_AO.of (hts (.arrayOver (.object RX7)) (by decide +kernel))⟩, fun q hq => va_Nw.of rfl (hts _ ((by decide +kernel : ∀ q ∈ nestL, Cond.methodLinkNest q.1 q.2.1 q.2.2 RX11 ∈ lw_tbl) q hq)), va_Nw.of rfl (hts (.castable "java/lang/IndexOutOfBoundsException" "java/lang/IndexOutOfBoundsException") (by decide +kernel)), va_Nw.of rfl (hts (.castable "java/util/NoSuchElementException" "java/util/NoSuchElementException") (by decide +kernel))⟩
