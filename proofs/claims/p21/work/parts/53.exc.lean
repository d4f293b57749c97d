/-! ===== calls that throw: their entry, their calls ===== -/
def DcL : List String := ["java/lang/RuntimeException", "java/lang/Exception", Bundle.tN]
def Qe (G : va_G) (cy : Nat → ClassId) (κ : Nat → Nat) (S : PS) (sz : Nat) : State → Prop := fun U => Pw G cy κ S sz U ∧ ∀ Y ∈ DcL, va_Nw (.declares (Bundle.initS Y)) U
theorem qe_blind {G : va_G} {cy : Nat → ClassId} {κ : Nat → Nat} {S : PS} {av : List Value} {sz : Nat} : FrameBlind (va_Pc av (Qe G cy κ S sz)) := fun a U g mk q => by
  obtain ⟨q0, q1, q4⟩ := q
  have b := (pw_blind (G := G) (cy := cy) (κ := κ) (S := S) (av := av) (sz := sz)) a U g mk ⟨q0, q1⟩
  exact ⟨b.1, b.2, fun Y hY => va_Nw.same (u := U) (U := U.calling g mk a) rfl rfl (q4 Y hY)⟩
theorem ent_e {l : Launch} {y : MethodName} {ws ws' : List Cond} {rm : Room} {G : va_G} {cy : Nat → ClassId} {κ : Nat → Nat} {S : PS} {sz : Nat} {av : List Value} {Qc : Array Value → State → Outcome → State → Prop} {XC : String → State → State → Prop} {cc : ByteArray} {maxL : Nat} {ret : Option FieldType} (hy : plainName y.cls = true) (hw : ws = Cond.code y cc maxL ret :: ws') (hlen : (lg_sl av).length ≤ maxL)
    (body : ∀ (p : Program) (e : Env) (s : State) (m : MethodId) (below : List Frame) (meth : Method) (c : Code) (ls : Array Slot), Cx p c cc maxL s av.toArray ws y.cls m G cy κ (AS S s.heap.size) → meth.sig.returnType = ret → meth.locks = false → Wd G cy (AS S s.heap.size) s.heap S s.heap [] → lv_has ls maxL (lv_args 0 av) → sz = s.heap.size → (∀ Y ∈ DcL, va_Nw (.declares (Bundle.initS Y)) s) → (∀ x ∈ c.exceptionTable.toList, False) → c.maxLocals = maxL → W p l e rm s m av.toArray below meth c s.heap [] 0 0 (vx_MQ below Qc XC av.toArray s rm.cells rm.slots (AS S sz)) (F0 m 0 ls [])) : vx_Met l y ws rm (va_Pc av (Qe G cy κ S sz)) Qc XC rm.cells rm.slots (AS S sz) := by
  refine vx_ofW (cc := cc) (maxL := maxL) (ret := ret) hy hw ?_
  intro p e s m args below meth c s₁ B hml hnt hv
  obtain ⟨rfl, ⟨hsz, hP, hK, hD, hNG, hCs⟩, hd⟩ := hv
  subst hsz
  have hl := lv_entry av (n := maxL) hlen
  rw [lg_entry_eq]
  refine body p e s m below meth c _ ⟨B.exec, B.bytes, hml, atoms_spec (ws := ws) B.pre, findClass_of_methodNamed B.named, hK, fun q h => Or.inr h, hNG, hCs⟩ B.returns B.notSynchronized ⟨hP, ?_, va_S.rf⟩ hl rfl hd hnt hml
  exact hD.weaken (fun k q hk _ => Or.inl (pl_mem hk))
section XROWS3
variable {p : Program} {l : Launch} {e : Env} {R : Room} {s : State} {m : MethodId} {args : Array Value} {below : List Frame} {meth : Method} {c : Code} {H : Heap} {locs : List Loc} {cells slots : Nat} {Q : State → Prop}
variable {cc : ByteArray} {pc nL : Nat} {ls : Array Slot} {rest : List Value} {Ts : List Cond} {own ref : String} {G : va_G} {cy : Nat → ClassId} {κ : Nat → Nat} {A : Nat → Prop} {S : PS} {a k0 k index : Nat}
theorem qe_of (X : Cx p c cc nL s args Ts own m G cy κ A) (hw : Wd G cy A s.heap S H locs) (hd : ∀ Y ∈ DcL, va_Nw (.declares (Bundle.initS Y)) s) {U : State} (hU : U.heap = H) (hW : s.WarmedH U.vm) : Qe G cy κ S H.size U := ⟨pw_of X hw hU hW, fun Y hY => va_Nw.warmD hW (hd Y hY)⟩
theorem pre_VE (X : Cx p c cc nL s args Ts own m G cy κ A) (hw : Wd G cy A s.heap S H locs) (hd : ∀ Y ∈ DcL, va_Nw (.declares (Bundle.initS Y)) s) (av : List Value) {b : Nat} (ha : At S b k0) (hm : k0 % 20 = k) (hk : k < 13) {q : vw_C} (hc : vwCl[k]? = some q) : PreV s H q.1 b (va_Pc (.ref b :: av) (Qe G cy κ S H.size)) av := by
  obtain ⟨n, hn⟩ := pl_get (cy := cy) ha.1
  rw [PF_O ha.2 hm hk] at hn
  exact ⟨qe_blind, va_recv X.2.2.2.2.2.1 hw.1 hc hn, fun U hU hW => ⟨rfl, qe_of X hw hd hU hW⟩⟩
end XROWS3
/-! ===== 'throw new E("text")' where E's constructor calls its super's by an index of its own (NoSuchElementException: 13) ===== -/
section OXS
variable {p : Program} {l : Launch} {e : Env} {R : Room} {s : State} {m : MethodId} {args : Array Value} {below : List Frame} {meth : Method} {c : Code} {H : Heap} {locs : List Loc} {cells slots : Nat} {Q : State → Prop}
variable {mc ms : Nat} {free : Addr → Prop} {ls : Array Slot} {rest : List Value} {WS : State}
variable {Qc : Array Value → State → Outcome → State → Prop} {XC : String → State → State → Prop}
def ox_at (own : String) (ic : Nat) (X : String) (ix : Nat) (rx : ByteArray) (names : List String) : List Cond := (Bundle.ownAtomsX own ic X ix rx names).filter vx_no
theorem ox_sel (X : Stand p l e R s m args below meth c WS locs cells slots) {y : MethodName} {mk : MethodId} {cls : String} {c1 : ClassId} (hc : s.vm.findClass cls = some c1) (hn : s.methodNamed? y = some mk) (hy : y.cls ≠ "java/lang/invoke/MethodHandle" ∧ y.cls ≠ "java/lang/invoke/VarHandle") (h : (Cond.selects cls y y).before args s = true) : selectMethod e.platform s.vm c1 mk = .method mk := by
  obtain ⟨c2, r2, m2, h1, h2, h3, h4, -⟩ := Cond.selects_spec h
  rw [hc] at h1
  rw [State.methodFound?_of_named hn hy] at h2
  rw [hn] at h3
  cases h1; cases h2; cases h3
  rw [Launch.admits_selectMethod X.admits]; exact h4
/-- the whole way from the constructor's call to the frame below: the cell of the class, nothing else written -/
theorem ox_ctor (X : Stand p l e R s m args below meth c WS locs cells slots) (hexec : p.tables.exec = Jvm.exec) (htr : e.platform.stackTraces = false) {own cls : String} {names : List String} {ic ix : Nat} {rx : ByteArray}
    (x0 : decode rx 0 = .ok (.aload_n 0, 1)) (x1 : decode rx 1 = .ok (.aload_n 1, 1)) (x2 : decode rx 2 = .ok (.invokespecial ix, 3)) (x5 : decode rx 5 = .ok (.return_, 1))
    (hown : s.vm.findClass own = some m.cls) (hcls : Bundle.fit cls = true) (hnames : ∀ n ∈ names, Bundle.fit n = true) (hl0 : locs = [])
    (ok : ∀ w ∈ Bundle.ownAtomsX own ic cls ix rx names, w.before args s = true) {a sa : Nat} {cX : ClassId} {kX : Class} (hfX : s.vm.findClass cls = some cX) (hkX : s.vm.classes[cX]? = some kX) (hcell : WS.heap[a]? = some (freshCell cX kX)) (hnew : s.heap.size ≤ a)
    {g : JFrame} (hg : g.method = m) (hsize : g.locals.size = c.maxLocals) (hlk : g.locked = none) (hen : g.entered = []) (hstack : g.stack = .ref sa :: .ref a :: .ref a :: rest)
    (d1 : decode c.code g.pc = .ok (.invokespecial ic, 3)) (d2 : decode c.code (g.pc + 3) = .ok (.athrow, 1)) (hout : ∀ x ∈ c.exceptionTable.toList, covers x (g.pc + 3) = false)
    (hF : names.length + 3 < R.frames) (hL : 2 * g.monitorRoom + ((Value.ref a :: rest).map fun v => v.category).sum + (13 * (names.length + 1) + 42) ≤ R.locals) (hlocks : meth.locks = false) :
    ∃ U : State, Steps p.tables e below (WS.setTop g) U ∧ U.status = .running ∧ Ended U below (.threw a) ∧ s.WarmedH U.vm ∧ s.sameButNew ({ U with vm := s.vm } : State) locs cells slots ∧ ∃ ce, U.heap[a]? = some ce ∧ s.vm.findClass cls = some ce.cls ∧ ce.vm = .none := by
  have hpl : e.platform.magicAccessors = ({} : Platform).magicAccessors := by rw [X.admits.platform]
  have k1 : ∀ w ∈ Bundle.throwableAtoms, w.before args s = true := fun w hw => ok w (by simp only [Bundle.ownAtomsX, List.mem_append]; exact Or.inl (Or.inl (Or.inl hw)))
  have k2 : ∀ w ∈ Bundle.throwableSAtoms, w.before args s = true := fun w hw => ok w (by simp only [Bundle.ownAtomsX, List.mem_append]; exact Or.inl (Or.inl (Or.inr hw)))
  have k3 : ∀ w ∈ Bundle.chainSAtomsX cls ix rx names, w.before args s = true := fun w hw => ok w (by simp only [Bundle.ownAtomsX, List.mem_append]; exact Or.inl (Or.inr hw))
  have k4 : ∀ w, w ∈ Bundle.ownAtomsX own ic cls ix rx names → w.holds args s none s [] = true := ok
  obtain ⟨T, Z0, L, -, Y⟩ := ThrowableC.of_atoms (args := args) (by rw [X.admits.platform]) (by rw [X.admits.platform]) hpl k1
  obtain ⟨Z, M, LZ, LM, hnZ⟩ := Init0T.ofS_atoms (args := args) hpl L Y k2
  obtain ⟨P, Ps, hlen, LP, LPs, hPm, e1, e2⟩ := Bundle.chainSX (args := args) hpl hnZ x0 x1 x2 x5 names cls hcls hnames k3
  have hfP : s.vm.findClass cls = some P.m.cls := findClass_of_methodNamed hPm
  have hPc : cX = P.m.cls := Option.some.inj (hfX.symm.trans hfP)
  subst hPc
  obtain ⟨c1, k0, hc1, hk0, hord, -, -, -⟩ := Cond.instantiable_spec (k4 (.instantiable cls 6) (by simp [Bundle.ownAtomsX]))
  have hk1 : k0 = kX := by
    rw [hfP] at hc1; cases hc1
    exact Option.some.inj (hk0.symm.trans hkX)
  subst hk1
  -- Throwable's statics
  obtain ⟨cS0, hcS0, hiss⟩ := Y.statics
  obtain ⟨u0, hu0⟩ := Cond.staticRefV Y.unassigned L.unassignedStatic L.statics hcS0 hiss (k4 (.isRef (.static Bundle.tN "UNASSIGNED_STACK" Bundle.steD)) (by simp [Bundle.ownAtomsX]))
  obtain ⟨se, hse⟩ := Cond.staticRefV Y.sentinel L.sentinelStatic L.statics hcS0 hiss (k4 (.isRef (.static Bundle.tN "SUPPRESSED_SENTINEL" Bundle.listD)) (by simp [Bundle.ownAtomsX]))
  obtain ⟨cS, hcS, hvS, -, hkp⟩ := X.same.2.2.2.2.2 T.aS cS0 hcS0
  subst hl0
  have hno : ∀ i, (⟨T.aS, i⟩ : Loc) ∉ ([] : List Loc) := fun i h => nomatch h
  have hkn : cS.vm ≠ .unknown := fun h => by
    rw [hvS] at h
    rw [h] at hiss
    exact absurd hiss (by decide)
  have hneS : T.aS ≠ a := fun h => absurd hnew (Nat.not_le.mpr (h ▸ (Array.getElem?_eq_some_iff.mp hcS0).1))
  -- the five fields
  obtain ⟨iM, hM⟩ := Y.msg
  obtain ⟨ci, i1, fB, hB1, hB2, hB3, hB4, -, hB5, hB6, hB7⟩ := Cond.ownField (t := .object "java/lang/Object") Y.found L.cls (by decide +kernel) (k4 (.fieldLink Bundle.tN 198 Bundle.tN "backtrace" "Ljava/lang/Object;") (by simp [Bundle.ownAtomsX])) (k4 (.lays Bundle.tN Bundle.tN "backtrace" "Ljava/lang/Object;") (by simp [Bundle.ownAtomsX])) e.platform hpl
  obtain ⟨tC, dC, jC, nC⟩ := Cond.laysAt hfP hkX Y.cause (k4 (.lays cls Bundle.tN "cause" "Ljava/lang/Throwable;") (by simp [Bundle.ownAtomsX]))
  obtain ⟨tS, dS, jS, nS⟩ := Cond.laysAt hfP hkX Y.stack (k4 (.lays cls Bundle.tN "stackTrace" Bundle.steD) (by simp [Bundle.ownAtomsX]))
  obtain ⟨tP, dP, jP, nP⟩ := Cond.laysAt hfP hkX Y.supp (k4 (.lays cls Bundle.tN "suppressedExceptions" Bundle.listD) (by simp [Bundle.ownAtomsX]))
  obtain ⟨tM, dM, jM, nM⟩ := Cond.laysAt hfP hkX hM (k4 (.lays cls Bundle.tN "detailMessage" "Ljava/lang/String;") (by simp [Bundle.ownAtomsX]))
  obtain ⟨tB, dB, jB, nB⟩ := Cond.laysAt hfP hkX hB7 (k4 (.lays cls Bundle.tN "backtrace" "Ljava/lang/Object;") (by simp [Bundle.ownAtomsX]))
  have q1 := Cond.laysApart jB jC nB nC (by rw [hB5, Y.causeName]; decide)
  have q2 := Cond.laysApart jB jS nB nS (by rw [hB5, Y.stackName]; decide)
  have q3 := Cond.laysApart jB jP nB nP (by rw [hB5, Y.suppName]; decide)
  have hskip : SkipFacts T e.platform s (fun u => u) u0 ((preparedCellV T.toThrowableT (freshCell P.m.cls k0) a u0 se).withEntry WS.cur) := by
    refine ⟨{ ci198 := ci, i198 := i1, fBack := fB }, ⟨hB1, hB2, hB3, hB4⟩, ?_, fun _ _ => rfl⟩
    have hz := fresh_default (c := P.m.cls) tB
    rw [hB6] at hz
    simpa [preparedCellV, Cell.setSlot, Cell.withEntry, Array.getElem?_setIfInBounds, q1, q2, q3, q1.symm, q2.symm, q3.symm, defaultValue] using hz
  -- the call, the chain, the throw
  have w1 : (Cond.instanceMethod (Bundle.initS cls)).before args s = true := k3 _ (by cases names <;> simp [Bundle.chainSAtomsX, Bundle.passSAtoms])
  have w2 : (Cond.code (Bundle.initS cls) rx 2 none).before args s = true := k3 _ (by cases names <;> simp [Bundle.chainSAtomsX, Bundle.passSAtoms])
  obtain ⟨tm, -, -, -, vm₁, ht, -, -, -, -, -, -, -, hW, st1⟩ := Steps.initColdS (tb := p.tables) (e := e) (below := below) (s := s) (U := WS) X.here hexec X.warmed hpl hown (t := Bundle.initS cls) rfl rfl (Bundle.fit_spec hcls).2 (k4 (.methodLink own ic (Bundle.initS cls)) (by simp [Bundle.ownAtomsX])) w1 (bytes := rx) (maxL := 2) w2 (f := g) hg (a := a) (msg := .ref sa) (rest := .ref a :: rest) hstack d1
  have htm : tm = P.m := Option.some.inj (ht.symm.trans hPm)
  subst htm
  have hall : ∀ q, q ∈ P :: Ps → q.LinksS e.platform s := fun q hq => (List.mem_cons.mp hq).elim (fun h => h ▸ LP) (LPs q)
  obtain ⟨vm₂, X2, st2⟩ := (X.noted hW).ctorMessageOffV hexec (g := { g with stack := .ref a :: rest }) hg hsize T L Z LZ M LM (P :: Ps) hall ⟨e1, e2⟩ (u0 := u0) (sen := se) (self := a) (msg := .ref sa) rfl (cell := freshCell P.m.cls k0) (cellS := cS) hcell (fun _ => by simp) (by simp) rfl rfl
    (ox_sel X hfP Y.fill0 (by decide) (k4 (.selects cls Bundle.tFill0 Bundle.tFill0) (by simp [Bundle.ownAtomsX]))) (ox_sel X hfP Y.fill (by decide) (k4 (.selects cls Bundle.tFill Bundle.tFill) (by simp [Bundle.ownAtomsX]))) hcS hneS hkn ((hkp _ (hno _)).trans hu0) ((hkp _ (hno _)).trans hse)
    (Takes.of_laid hkX hord tC (by rw [Y.causeType]; rfl)) (Takes.of_laid hkX hord tS (by rw [Y.stackType]; exact fits_refV_array _ u0)) (Takes.of_laid hkX hord tP (by rw [Y.suppType]; exact fits_refV_object _ se)) (Takes.of_laid hkX hord tM (by rw [Y.msgType]; exact fits_refV_object _ ⟨.ref sa, rfl⟩)) Y.objLocals hskip htr [] d1
    (by simp only [List.length_cons, hlen]; omega) (by simp only [List.length_cons, hlen]; exact hL)
  obtain ⟨st3, hrun, hend, hWU, hsm⟩ := X2.athrowLeaves hexec (g := { g with stack := .ref a :: rest, pc := g.pc + 3 }) hg hlk hen hout (a := a) (rest := rest) rfl d2
  have hU := heapAt_setCell_self (s := (WS.setVm vm₁).setVm vm₂) (plainBareV T.toThrowableT (freshCell P.m.cls k0) a u0 se (.ref sa)) (Array.getElem?_eq_some_iff.mp hcell).1
  refine ⟨_, st1 _ (fun acts => by rw [doInvoke_state]; exact st2 _ st3), hrun, hend, hWU, hsm.weaken (fun y hy hlt => ?_) (Nat.le_refl _) (Nat.le_refl _), _, hU, hfP, rfl⟩
  rw [List.nil_append] at hy
  have hb : y.base = a := by
    simp only [List.mem_cons, List.not_mem_nil, or_false] at hy
    rcases hy with rfl | rfl | rfl | rfl | rfl <;> rfl
  exact absurd hnew (Nat.not_le.mpr (hb ▸ hlt))
theorem ox_throwS {cc : ByteArray} {pc : Nat} (hexec : p.tables.exec = Jvm.exec) (hb : c.code = cc) (hl : l.stackTraces = false) {own cls text : String} {names : List String} {ik is ic mc ms sa ix : Nat} {rx : ByteArray} {A : Nat → Prop} (x0 : decode rx 0 = .ok (.aload_n 0, 1)) (x1 : decode rx 1 = .ok (.aload_n 1, 1)) (x2 : decode rx 2 = .ok (.invokespecial ix, 3)) (x5 : decode rx 5 = .ok (.return_, 1))
    (hown : s.vm.findClass own = some m.cls) (hcls : Bundle.fit cls = true) (hnames : ∀ n ∈ names, Bundle.fit n = true)
    (hk : (Cond.classLink own ik cls).before args s = true) (hini : (Cond.initialized cls).before args s = true) (hstr : vk_R own is text sa s) (hat : ∀ w ∈ ox_at own ic cls ix rx names, w.before args s = true)
    (hgood : ∀ w ∈ Cond.classLink own ik cls :: Cond.initialized cls :: ox_at own ic cls ix rx names, vx_ot w = true)
    (hU : vx_Zq Bundle.tN "UNASSIGNED_STACK" Bundle.steD A s s.heap) (hN : vx_Zq Bundle.tN "SUPPRESSED_SENTINEL" Bundle.listD A s s.heap) (hS : va_S A s.heap H locs) (hsize : ls.size = c.maxLocals)
    (d0 : decode cc pc = .ok (.new ik, 3)) (d3 : decode cc (pc + 3) = .ok (.dup, 1)) (d4 : decode cc (pc + 4) = .ok (.ldc is, 2)) (d6 : decode cc (pc + 6) = .ok (.invokespecial ic, 3)) (d9 : decode cc (pc + 9) = .ok (.athrow, 1))
    (hout : ∀ x ∈ c.exceptionTable.toList, covers x (pc + 9) = false)
    (hRframes : names.length + 3 < R.frames) (hRlocals : (rest.map fun v => v.category).sum + (13 * (names.length + 1) + 43) ≤ R.locals) (hRcells : cells + 1 ≤ R.cells) (hRslots : slots + 6 ≤ R.slots) (hlocks : meth.locks = false)
    (hx : ∀ t : State, s.vm.Alike t.vm → H.size ≤ t.heap.size → (∀ q : Nat, q < H.size → t.heap[q]? = H[q]?) → XC cls s t)
    (hf : ∀ z ∈ locs, free z.base) (hc : cells + 1 ≤ mc) (hs : slots + 6 ≤ ms) :
    W p l e R s m args below meth c H locs cells slots (vx_MQ below Qc XC args s mc ms free) (F0 m pc ls rest) := by
  intro T hT X
  have htr : e.platform.stackTraces = false := (show e.platform.stackTraces = l.stackTraces by rw [X.admits.platform]).trans hl
  have Y := vx_rebase X (R' := { frames := R.frames, locals := R.locals, cells := 1, slots := 6 }) (Nat.le_refl _) (Nat.le_refl _) hRcells hRslots
  obtain ⟨s', hA⟩ : ∃ z, z = (T.setVm s.vm).setFrames (.invoking m args :: below) := ⟨_, rfl⟩
  rw [← hA] at Y
  have hvm : s'.vm = s.vm := by rw [hA]; rfl
  have hhp : s'.heap = H := by rw [hA]; exact hT
  have hW0 : s.WarmedH s'.vm := by rw [hvm]; exact State.WarmedH.refl s
  have hat' : ∀ w ∈ ox_at own ic cls ix rx names, w.before args s' = true := fun w hw => vx_ot_at hW0 hvm.symm (hgood w (List.mem_cons_of_mem _ (List.mem_cons_of_mem _ hw))) (hat w hw)
  have hk' : (Cond.classLink own ik cls).before args s' = true := vx_ot_at hW0 hvm.symm (hgood _ List.mem_cons_self) hk
  have hini' : (Cond.initialized cls).before args s' = true := vx_ot_at hW0 hvm.symm (hgood _ (List.mem_cons_of_mem _ List.mem_cons_self)) hini
  have hU' : vx_Zq Bundle.tN "UNASSIGNED_STACK" Bundle.steD A s' s'.heap := by rw [hhp]; exact vx_Zq.moved hW0.alike (hU.kept hS.2.1)
  have hN' : vx_Zq Bundle.tN "SUPPRESSED_SENTINEL" Bundle.listD A s' s'.heap := by rw [hhp]; exact vx_Zq.moved hW0.alike (hN.kept hS.2.1)
  have h : ∀ w ∈ Bundle.ownAtomsX own ic cls ix rx names, w.before args s' = true := vx_own hat' (vx_isRefq hU'.1) (vx_isRefq hN'.1) hU'.2.word hN'.2.word
  have hown' : s'.vm.findClass own = some m.cls := by rw [hvm]; exact hown
  have hins : (Cond.instantiable cls 6).before args s' = true := h _ (by simp [Bundle.ownAtomsX])
  obtain ⟨vm₁, cX, kX, hfX, hkX, -, -, X₁, st1⟩ := Y.newCold hexec (own := own) (C := cls) (index := ik) (n := 6) hown' hk' hins hini'
    (g := F0 m pc ls rest) rfl (by rw [hb]; exact d0) (Nat.le_refl _) (Nat.le_refl _)
  generalize hT1 : (T.setVm vm₁).pushCell { cls := cX, slots := kX.instanceTypes.map defaultValue, vm := .none } = T1 at X₁ st1
  have hcat : (Value.ref T.heap.size).category = 1 := rfl
  have hcellA : T1.heap[T.heap.size]? = some (freshCell cX kX) := by rw [← hT1]; exact State.heap_pushCell_size _ _
  have d3' : decode c.code (pc + 3) = .ok (.dup, 1) := by rw [hb]; exact d3
  have d4' : decode c.code (pc + 4) = .ok (.ldc is, 2) := by rw [hb]; exact d4
  have hstr' : vk_R own is text sa s' := vk_R.warm hW0 hstr
  obtain ⟨U, hsteps, hrun, hend, hW, hsame, ce, hce, hO1, hO2⟩ := ox_ctor X₁ hexec htr x0 x1 x2 x5 (own := own) (cls := cls) (names := names) (ic := ic) hown' hcls hnames rfl h hfX hkX hcellA (by rw [hhp, hT]; exact Nat.le_refl _) (sa := sa)
    (g := { method := m, pc := pc + 6, locals := ls, stack := .ref sa :: .ref T.heap.size :: .ref T.heap.size :: rest, locked := none }) rfl hsize rfl rfl (rest := rest) rfl
    (by rw [hb]; exact d6) (by rw [hb]; exact d9) hout hRframes (by simp only [List.map_cons, List.sum_cons, hcat]; omega) hlocks
  obtain ⟨f1, f2⟩ := vx_frame hsame
  rw [hhp] at f1 f2
  have hWs : s.WarmedH U.vm := State.WarmedH.trans hW0 hW
  have hcl : s.vm.findClass cls = some ce.cls := by
    have h9 := hO1
    rw [hvm] at h9
    exact h9
  have hall : s.sameButNew ({ U with vm := s.vm } : State) locs mc ms := by
    subst hA
    obtain ⟨e1, e2⟩ := hsame
    rw [State.setFrames_setFrames] at e1
    have h2 : (T.setVm s.vm).sameButNew ({ U with vm := s.vm } : State) [] (0 + 1) (0 + 6) := ⟨e1, e2⟩
    have h3 := X.same.trans h2
    rw [List.append_nil] at h3
    exact h3.mono hc hs
  refine ⟨U, ?_, .threw T.heap.size, hrun, hend, Or.inr ⟨T.heap.size, rfl, cls, ce, locs, hx U hWs.alike f1 (fun q hq => f2 q hq (fun z hz => nomatch hz)), hce, hO2, hcl, hWs, hall, hf⟩⟩
  refine st1 _ ?_
  show Steps p.tables e below (T1.setTop { method := m, pc := pc + 3, locals := ls, stack := .ref T.heap.size :: rest, locked := none }) _
  jvm_step X₁.here [X₁.here.top, hexec, d3', Value.category]
  exact X₁.ldcString hexec (own := own) (text := text) (index := is) (a := sa) hown' hstr'.1 hstr'.2
    (g := { method := m, pc := pc + 4, locals := ls, stack := .ref T.heap.size :: .ref T.heap.size :: rest, locked := none }) rfl d4' _ hsteps
end OXS
noncomputable def wiX11_in : List Cond := .code yX11_in cX11_in 7 (some .int) :: ((wsX11_in_r1 ++ wsX11_in_r2) ++ wsX110 ++ wsX40 ++ wsX50 ++ wsX00 ++ (ox_at RX11 223 "java/util/NoSuchElementException" 13 prog_26_method_4_code ["java/lang/RuntimeException", "java/lang/Exception"]).filter goodWord)
noncomputable def wiL_in : List Cond := .codeWith yL_in cL_in 6 (some .int) [(0, 12, 15, 18)] :: ((wsL_in_r1 ++ wsL_in_r2) ++ wsX110 ++ wsX40 ++ wsX50 ++ wsX00 ++ (ox_at RX11 223 "java/util/NoSuchElementException" 13 prog_26_method_4_code ["java/lang/RuntimeException", "java/lang/Exception"]).filter goodWord)
set_option maxRecDepth 20000 in
theorem ggX11_fineness_X11_cocoonAt : GoodIn wsX11_fineness wsX11_cocoonAt := goodIn_h _ [8, 0, 0, 0, 17, 0, 0, 0, 0, 0, 0, 0, 0, 0, 0, 0] [0, 1, 2, 3, 4, 5, 6, 7, 8, 9, 10, 11, 12, 13, 14, 15] (by decide +kernel) (by decide +kernel)
set_option maxRecDepth 20000 in
theorem gX11_fineness_X11_cocoonAt : GoodIn wsX11_fineness (wsV RX11 74 RX11 yX11_cocoonAt wsX11_cocoonAt) := goodIn_app (goodIn_of _ (by decide +kernel)) ggX11_fineness_X11_cocoonAt
set_option maxRecDepth 20000 in
theorem ggX11_fineness_X0_finenessAt : GoodIn wsX11_fineness wsX0_finenessAt := goodIn_h _ [16, 0, 0, 0, 0, 0, 0, 0, 0, 0, 0, 0, 0] [0, 1, 2, 3, 4, 5, 6, 7, 8, 9, 10, 11, 12] (by decide +kernel) (by decide +kernel)
set_option maxRecDepth 20000 in
theorem gX11_fineness_X0_finenessAt : GoodIn wsX11_fineness (wsV RX11 87 RX0 yX0_finenessAt wsX0_finenessAt) := goodIn_app (goodIn_of _ (by decide +kernel)) ggX11_fineness_X0_finenessAt
theorem dX11_fineness_0 : decode cX11_fineness 0 = .ok (.aload_n 0, 1) := by decide +kernel
theorem dX11_fineness_1 : decode cX11_fineness 1 = .ok (.iload_n 1, 1) := by decide +kernel
theorem dX11_fineness_2 : decode cX11_fineness 2 = .ok (.iload_n 2, 1) := by decide +kernel
theorem dX11_fineness_3 : decode cX11_fineness 3 = .ok (.invokevirtual 74, 3) := by decide +kernel
theorem dX11_fineness_6 : decode cX11_fineness 6 = .ok (.astore 4, 2) := by decide +kernel
theorem dX11_fineness_8 : decode cX11_fineness 8 = .ok (.aload 4, 2) := by decide +kernel
theorem dX11_fineness_10 : decode cX11_fineness 10 = .ok (.ifnull 16, 3) := by decide +kernel
theorem dX11_fineness_13 : decode cX11_fineness 13 = .ok (.iload_n 3, 1) := by decide +kernel
theorem dX11_fineness_14 : decode cX11_fineness 14 = .ok (.ifCond .lt 12, 3) := by decide +kernel
theorem dX11_fineness_17 : decode cX11_fineness 17 = .ok (.iload_n 3, 1) := by decide +kernel
theorem dX11_fineness_18 : decode cX11_fineness 18 = .ok (.aload 4, 2) := by decide +kernel
theorem dX11_fineness_20 : decode cX11_fineness 20 = .ok (.getfield 78, 3) := by decide +kernel
theorem dX11_fineness_23 : decode cX11_fineness 23 = .ok (.if_icmp .lt 13, 3) := by decide +kernel
theorem dX11_fineness_26 : decode cX11_fineness 26 = .ok (.new 102, 3) := by decide +kernel
theorem dX11_fineness_29 : decode cX11_fineness 29 = .ok (.dup, 1) := by decide +kernel
theorem dX11_fineness_30 : decode cX11_fineness 30 = .ok (.ldc 104, 2) := by decide +kernel
theorem dX11_fineness_32 : decode cX11_fineness 32 = .ok (.invokespecial 106, 3) := by decide +kernel
theorem dX11_fineness_35 : decode cX11_fineness 35 = .ok (.athrow, 1) := by decide +kernel
theorem dX11_fineness_36 : decode cX11_fineness 36 = .ok (.aload 4, 2) := by decide +kernel
theorem dX11_fineness_38 : decode cX11_fineness 38 = .ok (.iload_n 3, 1) := by decide +kernel
theorem dX11_fineness_39 : decode cX11_fineness 39 = .ok (.invokevirtual 87, 3) := by decide +kernel
theorem dX11_fineness_42 : decode cX11_fineness 42 = .ok (.ireturn, 1) := by decide +kernel
set_option maxRecDepth 20000 in
theorem ggX11_in_X11_potAt : GoodIn wiX11_in wsX11_potAt := goodIn_h _ [7, 0, 0, 27, 0, 0, 0, 0, 0, 0, 0, 0, 0, 0, 0] [0, 1, 2, 3, 4, 5, 6, 7, 8, 9, 10, 11, 12, 13, 14] (by decide +kernel) (by decide +kernel)
set_option maxRecDepth 20000 in
theorem gX11_in_X11_potAt : GoodIn wiX11_in (wsV RX11 134 RX11 yX11_potAt wsX11_potAt) := goodIn_app (goodIn_of _ (by decide +kernel)) ggX11_in_X11_potAt
set_option maxRecDepth 20000 in
theorem ggX11_in_X4_rowNumbered : GoodIn wiX11_in wsX4_rowNumbered := goodIn_h _ [14, 0, 0, 0, 31, 0, 0, 0, 0, 0, 0, 0, 0, 0, 0, 0] [0, 1, 2, 3, 4, 5, 6, 7, 8, 9, 10, 11, 12, 13, 14, 15] (by decide +kernel) (by decide +kernel)
set_option maxRecDepth 20000 in
theorem gX11_in_X4_rowNumbered : GoodIn wiX11_in (wsV RX11 211 RX4 yX4_rowNumbered wsX4_rowNumbered) := goodIn_app (goodIn_of _ (by decide +kernel)) ggX11_in_X4_rowNumbered
set_option maxRecDepth 20000 in
theorem ggX11_in_X5_at : GoodIn wiX11_in wsX5_at := goodIn_h _ [21, 0, 0, 0, 0, 0, 0, 0, 0, 31, 0, 0] [1, 2, 3, 4, 5, 6, 0, 7, 8, 9, 10, 11] (by decide +kernel) (by decide +kernel)
set_option maxRecDepth 20000 in
theorem gX11_in_X5_at : GoodIn wiX11_in (wsV RX11 215 RX5 yX5_at wsX5_at) := goodIn_app (goodIn_of _ (by decide +kernel)) ggX11_in_X5_at
set_option maxRecDepth 20000 in
theorem ggX11_in_X0_code : GoodIn wiX11_in wsX0_code := goodIn_h _ [34, 0, 0, 27, 0, 0, 0, 0, 0, 0, 0, 0, 0] [0, 1, 2, 3, 4, 5, 6, 7, 8, 9, 10, 11, 12] (by decide +kernel) (by decide +kernel)
set_option maxRecDepth 20000 in
theorem gX11_in_X0_code : GoodIn wiX11_in (wsV RX11 224 RX0 yX0_code wsX0_code) := goodIn_app (goodIn_of _ (by decide +kernel)) ggX11_in_X0_code
theorem dX11_in_0 : decode cX11_in 0 = .ok (.aload_n 0, 1) := by decide +kernel
theorem dX11_in_1 : decode cX11_in 1 = .ok (.iload_n 1, 1) := by decide +kernel
theorem dX11_in_2 : decode cX11_in 2 = .ok (.invokevirtual 134, 3) := by decide +kernel
theorem dX11_in_5 : decode cX11_in 5 = .ok (.astore 4, 2) := by decide +kernel
theorem dX11_in_7 : decode cX11_in 7 = .ok (.aload 4, 2) := by decide +kernel
theorem dX11_in_9 : decode cX11_in 9 = .ok (.ifnonnull 7, 3) := by decide +kernel
theorem dX11_in_12 : decode cX11_in 12 = .ok (.aconst_null, 1) := by decide +kernel
theorem dX11_in_13 : decode cX11_in 13 = .ok (.goto 9, 3) := by decide +kernel
theorem dX11_in_16 : decode cX11_in 16 = .ok (.aload 4, 2) := by decide +kernel
theorem dX11_in_18 : decode cX11_in 18 = .ok (.iload_n 2, 1) := by decide +kernel
theorem dX11_in_19 : decode cX11_in 19 = .ok (.invokevirtual 211, 3) := by decide +kernel
theorem dX11_in_22 : decode cX11_in 22 = .ok (.astore 5, 2) := by decide +kernel
theorem dX11_in_24 : decode cX11_in 24 = .ok (.aload 5, 2) := by decide +kernel
theorem dX11_in_26 : decode cX11_in 26 = .ok (.ifnonnull 7, 3) := by decide +kernel
theorem dX11_in_29 : decode cX11_in 29 = .ok (.aconst_null, 1) := by decide +kernel
theorem dX11_in_30 : decode cX11_in 30 = .ok (.goto 9, 3) := by decide +kernel
theorem dX11_in_33 : decode cX11_in 33 = .ok (.aload 5, 2) := by decide +kernel
theorem dX11_in_35 : decode cX11_in 35 = .ok (.iload_n 3, 1) := by decide +kernel
theorem dX11_in_36 : decode cX11_in 36 = .ok (.invokevirtual 215, 3) := by decide +kernel
theorem dX11_in_39 : decode cX11_in 39 = .ok (.astore 6, 2) := by decide +kernel
theorem dX11_in_41 : decode cX11_in 41 = .ok (.aload 6, 2) := by decide +kernel
theorem dX11_in_43 : decode cX11_in 43 = .ok (.ifnonnull 13, 3) := by decide +kernel
theorem dX11_in_46 : decode cX11_in 46 = .ok (.new 219, 3) := by decide +kernel
theorem dX11_in_49 : decode cX11_in 49 = .ok (.dup, 1) := by decide +kernel
theorem dX11_in_50 : decode cX11_in 50 = .ok (.ldc 221, 2) := by decide +kernel
theorem dX11_in_52 : decode cX11_in 52 = .ok (.invokespecial 223, 3) := by decide +kernel
theorem dX11_in_55 : decode cX11_in 55 = .ok (.athrow, 1) := by decide +kernel
theorem dX11_in_56 : decode cX11_in 56 = .ok (.aload 6, 2) := by decide +kernel
theorem dX11_in_58 : decode cX11_in 58 = .ok (.invokevirtual 224, 3) := by decide +kernel
theorem dX11_in_61 : decode cX11_in 61 = .ok (.ireturn, 1) := by decide +kernel
theorem inn_X11_fineness_0 : ∀ w ∈ u_ws RX0 TX0 10, w ∈ wsX11_fineness := fun w h => List.mem_cons_of_mem _ (List.mem_append_left _ (List.mem_append_left _ (List.mem_append_right _ h)))
set_option maxHeartbeats 4000000 in
set_option maxRecDepth 100000 in
theorem k_X11_fineness (l : Launch) (hst : l.stackTraces = false) (G : va_G) (cy : Nat → ClassId) (κ : Nat → Nat) (S : PS) (sz : Nat) (x : Nat) (a1 : Int32) (a1_z : Int) (a2 : Int32) (a2_z : Int) (a3 : Int32) (a3_z : Int) (hG : GX S) (ha_x : At S x 11) (hz_a1 : a1.toInt = a1_z) (hz_a2 : a2.toInt = a2_z) (hz_a3 : a3.toInt = a3_z) : vx_Met l yX11_fineness wsX11_fineness ({ frames := 12, cells := 1, slots := 6, locals := 576 }) (va_Pc [.ref x, .int (a1), .int (a2), .int (a3)] (Qe G cy κ S sz)) (va_Qi (fun (r : Int32) (S9 : PS) => S = S9 ∧ (True)) (Bw G cy S sz) (AS S sz)) (vx_X (fun S9 : PS => S = S9) (fun E S9 t => E = "java/lang/IndexOutOfBoundsException" ∧ Bw G cy S sz S9 t) (AS S sz)) 1 6 (AS S sz) := by
  refine ent_e (cc := cX11_fineness) (maxL := 5) (ret := (some .int)) (by decide) rfl (Nat.le_of_ble_eq_true rfl) ?_
  intro p e s m below meth c ls X hr hlocks hw hl hsz hdc hnt hml
  subst hsz
  have X : Cx p c cX11_fineness 5 s [.ref x, .int (a1), .int (a2), .int (a3)].toArray wsX11_fineness RX11 m G cy κ (AS S s.heap.size) := X
  have hl : lv_has ls 5 [(0, .ref x), (1, .int (a1)), (2, .int (a2)), (3, .int (a3))] := hl
  have rg_a1 : (-2147483648) ≤ a1_z ∧ a1_z ≤ 2147483647 := by rw [← hz_a1]; exact ⟨z_lo _, z_hi _⟩
  have rg_a2 : (-2147483648) ≤ a2_z ∧ a2_z ≤ 2147483647 := by rw [← hz_a2]; exact ⟨z_lo _, z_hi _⟩
  have rg_a3 : (-2147483648) ≤ a3_z ∧ a3_z ≤ 2147483647 := by rw [← hz_a3]; exact ⟨z_lo _, z_hi _⟩
  refine lv_aload_n X.1 X.2.1 dX11_fineness_0 rfl (lv_at hl 0 rfl) ?_
  refine lv_iload_n X.1 X.2.1 dX11_fineness_1 rfl (lv_at hl 1 rfl) ?_
  refine lv_iload_n X.1 X.2.1 dX11_fineness_2 rfl (lv_at hl 2 rfl) ?_
  refine k_q (rm := { frames := 1, cells := 0, slots := 0, locals := 48 }) (av := [.ref x, .int (a1), .int (a2)]) X hw (va_runV (As := [.int (a1), .int (a2)]) (rest := []) (cfix X) (k_X11_cocoonAt l G cy κ S _ x (a1) (a1_z) (a2) (a2_z) hG ha_x hz_a1 hz_a2) (cwV 2 X.2.2.2.1 gX11_fineness_X11_cocoonAt rfl rfl rfl (by decide +kernel) ⟨Nat.le_of_ble_eq_true rfl, Nat.le_of_ble_eq_true rfl⟩) (pre_V X hw _ ha_x rfl (by decide) rfl) rfl rfl hl.1 rfl (lv_room (Nat.le_of_ble_eq_true rfl)) dX11_fineness_3 ⟨Nat.le_of_ble_eq_true rfl, Nat.le_of_ble_eq_true rfl⟩) 0 0 (Nat.le_of_ble_eq_true rfl) (Nat.le_of_ble_eq_true rfl) (fun rr_1 S_2 H locs hp hw hfr hnw => ?_)
  obtain ⟨e2, hp⟩ := hp
  subst e2
  have hq_3 := hp
  rcases rr_1 with _ | q_4
  · refine W.eq (g2 := F0 m 6 ls (.null :: [])) rfl ?_
    refine lv_astoreN (lv' := [(4, .null), (0, .ref x), (1, .int (a1)), (2, .int (a2)), (3, .int (a3))]) X.1 X.2.1 dX11_fineness_6 hl (by decide) rfl (fun ls hl => ?_)
    refine lv_aloadN X.1 X.2.1 dX11_fineness_8 (lv_at hl 0 rfl) ?_
    refine lv_ifnullN (tgt := 26) X.1 X.2.1 dX11_fineness_10 (by decide) ?_
    refine vx_throwS (names := ["java/lang/RuntimeException", "java/lang/Exception"]) X.1 X.2.1 hst X.2.2.2.2.1 (by decide +kernel) (by decide +kernel) (X.2.2.2.1 (.classLink RX11 102 "java/lang/IndexOutOfBoundsException") (by decide +kernel)) (X.2.2.2.1 (.initialized "java/lang/IndexOutOfBoundsException") (by decide +kernel)) (show vk_R RX11 104 "there is no such place of a cocoon" (κ (100 + 0)) s from (X.2.2.2.2.2.2.2.2.2.2.2.2.2.2 0 (by decide)).1) (vx_hat (B := [.castable "java/lang/IndexOutOfBoundsException" "java/lang/IndexOutOfBoundsException", .declares (Bundle.initS "java/lang/RuntimeException"), .declares (Bundle.initS "java/lang/Exception"), .declares (Bundle.initS Bundle.tN)]) (fun w h => X.2.2.2.1 w (List.mem_cons_of_mem _ (List.mem_append_right _ h))) (by decide +kernel) (vx_c (va_Nw.use rfl X.2.2.2.2.2.2.2.1.2.2.1) (vx_c (va_Nw.use rfl (hdc _ (List.mem_of_getElem? (i := 0) rfl))) (vx_c (va_Nw.use rfl (hdc _ (List.mem_of_getElem? (i := 1) rfl))) (vx_c (va_Nw.use rfl (hdc _ (List.mem_of_getElem? (i := 2) rfl))) vx_n))))) (by decide +kernel) X.2.2.2.2.2.2.2.2.2.2.1 X.2.2.2.2.2.2.2.2.2.2.2.1 hw.2.2 (hl.1.trans hml.symm) dX11_fineness_26 dX11_fineness_29 dX11_fineness_30 dX11_fineness_32 dX11_fineness_35 (fun x hx => (hnt x hx).elim) (by decide) (Nat.le_of_ble_eq_true rfl) (Nat.le_of_ble_eq_true rfl) (Nat.le_of_ble_eq_true rfl) hlocks ?_ hw.2.2.2.2 (Nat.le_of_ble_eq_true rfl) (Nat.le_of_ble_eq_true rfl)
    intro t hvm hsz hq
    exact ⟨S, rfl, ⟨rfl, hw.1.kept (fun k q hk => hq q.1 (hw.lt (pl_mem hk))), hw.2.1⟩, ⟨Nat.le_trans hw.2.2.1 hsz, fun q h1 h2 => (hq q (Nat.lt_of_lt_of_le h1 hw.2.2.1)).trans (hw.2.2.2.1 q h1 h2)⟩⟩
  · refine W.eq (g2 := F0 m 6 ls (.ref q_4 :: [])) rfl ?_
    have ha_5 : At S q_4 0 := hq_3 _ rfl
    refine lv_astore (lv' := [(4, .ref q_4), (0, .ref x), (1, .int (a1)), (2, .int (a2)), (3, .int (a3))]) X.1 X.2.1 dX11_fineness_6 hl (by decide) rfl (fun ls hl => ?_)
    refine lv_aload X.1 X.2.1 dX11_fineness_8 (lv_at hl 0 rfl) ?_
    refine lv_ifnull X.1 X.2.1 dX11_fineness_10 ?_
    refine lv_iload_n X.1 X.2.1 dX11_fineness_13 rfl (lv_at hl 4 rfl) ?_
    refine lv_if_lt (tgt := 26) X.1 X.2.1 dX11_fineness_14 (by decide) (fun c_6 => ?_) (fun c_6 => ?_)
    · have z_b_7 := trivial
      have k_8 : a3_z < 0 := z_lt hz_a3 ti_0 c_6
      refine vx_throwS (names := ["java/lang/RuntimeException", "java/lang/Exception"]) X.1 X.2.1 hst X.2.2.2.2.1 (by decide +kernel) (by decide +kernel) (X.2.2.2.1 (.classLink RX11 102 "java/lang/IndexOutOfBoundsException") (by decide +kernel)) (X.2.2.2.1 (.initialized "java/lang/IndexOutOfBoundsException") (by decide +kernel)) (show vk_R RX11 104 "there is no such place of a cocoon" (κ (100 + 0)) s from (X.2.2.2.2.2.2.2.2.2.2.2.2.2.2 0 (by decide)).1) (vx_hat (B := [.castable "java/lang/IndexOutOfBoundsException" "java/lang/IndexOutOfBoundsException", .declares (Bundle.initS "java/lang/RuntimeException"), .declares (Bundle.initS "java/lang/Exception"), .declares (Bundle.initS Bundle.tN)]) (fun w h => X.2.2.2.1 w (List.mem_cons_of_mem _ (List.mem_append_right _ h))) (by decide +kernel) (vx_c (va_Nw.use rfl X.2.2.2.2.2.2.2.1.2.2.1) (vx_c (va_Nw.use rfl (hdc _ (List.mem_of_getElem? (i := 0) rfl))) (vx_c (va_Nw.use rfl (hdc _ (List.mem_of_getElem? (i := 1) rfl))) (vx_c (va_Nw.use rfl (hdc _ (List.mem_of_getElem? (i := 2) rfl))) vx_n))))) (by decide +kernel) X.2.2.2.2.2.2.2.2.2.2.1 X.2.2.2.2.2.2.2.2.2.2.2.1 hw.2.2 (hl.1.trans hml.symm) dX11_fineness_26 dX11_fineness_29 dX11_fineness_30 dX11_fineness_32 dX11_fineness_35 (fun x hx => (hnt x hx).elim) (by decide) (Nat.le_of_ble_eq_true rfl) (Nat.le_of_ble_eq_true rfl) (Nat.le_of_ble_eq_true rfl) hlocks ?_ hw.2.2.2.2 (Nat.le_of_ble_eq_true rfl) (Nat.le_of_ble_eq_true rfl)
      intro t hvm hsz hq
      exact ⟨S, rfl, ⟨rfl, hw.1.kept (fun k q hk => hq q.1 (hw.lt (pl_mem hk))), hw.2.1⟩, ⟨Nat.le_trans hw.2.2.1 hsz, fun q h1 h2 => (hq q (Nat.lt_of_lt_of_le h1 hw.2.2.1)).trans (hw.2.2.2.1 q h1 h2)⟩⟩
    · have z_b_9 := trivial
      have k_10 : a3_z ≥ 0 := z_nlt hz_a3 ti_0 c_6
      refine lv_iload_n X.1 X.2.1 dX11_fineness_17 rfl (lv_at hl 4 rfl) ?_
      refine lv_aload X.1 X.2.1 dX11_fineness_18 (lv_at hl 0 rfl) ?_
      obtain ⟨v_11, ev_11⟩ : ∃ v, pI S 2 q_4 = v := ⟨_, rfl⟩
      have rg_12 := gI_0_2 hG ha_5; rw [ev_11] at rg_12
      refine r_getI (g := 2) (x := v_11) X hw ha_5 rfl 2 ev_11 (by decide) rfl inn_X11_fineness_0 (by decide) (X.2.2.2.1 (.fieldLink RX11 78 "SilkMill$Cocoon" "length" "I") (by decide +kernel)) rfl (gv_2 _ _) dX11_fineness_20 ?_
      refine lv_icmp_lt (tgt := 36) X.1 X.2.1 dX11_fineness_23 (by decide) (fun c_13 => ?_) (fun c_13 => ?_)
      · have z_b_14 := trivial
        have k_15 : a3_z < v_11.toInt := z_lt hz_a3 rfl c_13
        refine lv_aload X.1 X.2.1 dX11_fineness_36 (lv_at hl 0 rfl) ?_
        refine lv_iload_n X.1 X.2.1 dX11_fineness_38 rfl (lv_at hl 4 rfl) ?_
        refine k_i (rm := { frames := 1, cells := 0, slots := 0, locals := 48 }) (av := [.ref q_4, .int (a3)]) X hw (va_runV (As := [.int (a3)]) (rest := []) (cfix X) (k_X0_finenessAt l G cy κ S _ q_4 (a3) (a3_z) hG ha_5 hz_a3) (cwV 1 X.2.2.2.1 gX11_fineness_X0_finenessAt rfl rfl rfl (by decide +kernel) ⟨Nat.le_of_ble_eq_true rfl, Nat.le_of_ble_eq_true rfl⟩) (pre_V X hw _ ha_5 rfl (by decide) rfl) rfl rfl hl.1 rfl (lv_room (Nat.le_of_ble_eq_true rfl)) dX11_fineness_39 ⟨Nat.le_of_ble_eq_true rfl, Nat.le_of_ble_eq_true rfl⟩) 0 0 (Nat.le_of_ble_eq_true rfl) (Nat.le_of_ble_eq_true rfl) (fun rr_16 S_17 H locs hp hw hfr hnw => ?_)
        obtain ⟨e2, hp⟩ := hp
        subst e2
        have rg_18 := And.intro (z_lo rr_16) (z_hi rr_16)
        exact vx_ret (ret_i X hw hr hlocks (Nat.le_of_ble_eq_true rfl) (Nat.le_of_ble_eq_true rfl) ⟨rfl, trivial⟩ dX11_fineness_42)
      · have z_b_19 := trivial
        have k_20 : a3_z ≥ v_11.toInt := z_nlt hz_a3 rfl c_13
        refine vx_throwS (names := ["java/lang/RuntimeException", "java/lang/Exception"]) X.1 X.2.1 hst X.2.2.2.2.1 (by decide +kernel) (by decide +kernel) (X.2.2.2.1 (.classLink RX11 102 "java/lang/IndexOutOfBoundsException") (by decide +kernel)) (X.2.2.2.1 (.initialized "java/lang/IndexOutOfBoundsException") (by decide +kernel)) (show vk_R RX11 104 "there is no such place of a cocoon" (κ (100 + 0)) s from (X.2.2.2.2.2.2.2.2.2.2.2.2.2.2 0 (by decide)).1) (vx_hat (B := [.castable "java/lang/IndexOutOfBoundsException" "java/lang/IndexOutOfBoundsException", .declares (Bundle.initS "java/lang/RuntimeException"), .declares (Bundle.initS "java/lang/Exception"), .declares (Bundle.initS Bundle.tN)]) (fun w h => X.2.2.2.1 w (List.mem_cons_of_mem _ (List.mem_append_right _ h))) (by decide +kernel) (vx_c (va_Nw.use rfl X.2.2.2.2.2.2.2.1.2.2.1) (vx_c (va_Nw.use rfl (hdc _ (List.mem_of_getElem? (i := 0) rfl))) (vx_c (va_Nw.use rfl (hdc _ (List.mem_of_getElem? (i := 1) rfl))) (vx_c (va_Nw.use rfl (hdc _ (List.mem_of_getElem? (i := 2) rfl))) vx_n))))) (by decide +kernel) X.2.2.2.2.2.2.2.2.2.2.1 X.2.2.2.2.2.2.2.2.2.2.2.1 hw.2.2 (hl.1.trans hml.symm) dX11_fineness_26 dX11_fineness_29 dX11_fineness_30 dX11_fineness_32 dX11_fineness_35 (fun x hx => (hnt x hx).elim) (by decide) (Nat.le_of_ble_eq_true rfl) (Nat.le_of_ble_eq_true rfl) (Nat.le_of_ble_eq_true rfl) hlocks ?_ hw.2.2.2.2 (Nat.le_of_ble_eq_true rfl) (Nat.le_of_ble_eq_true rfl)
        intro t hvm hsz hq
        exact ⟨S, rfl, ⟨rfl, hw.1.kept (fun k q hk => hq q.1 (hw.lt (pl_mem hk))), hw.2.1⟩, ⟨Nat.le_trans hw.2.2.1 hsz, fun q h1 h2 => (hq q (Nat.lt_of_lt_of_le h1 hw.2.2.1)).trans (hw.2.2.2.1 q h1 h2)⟩⟩
set_option maxHeartbeats 4000000 in
set_option maxRecDepth 100000 in
theorem k_X11_in (l : Launch) (hst : l.stackTraces = false) (G : va_G) (cy : Nat → ClassId) (κ : Nat → Nat) (S : PS) (sz : Nat) (x : Nat) (a1 : Int32) (a1_z : Int) (a2 : Int32) (a2_z : Int) (a3 : Int32) (a3_z : Int) (hG : GX S) (ha_x : At S x 11) (hz_a1 : a1.toInt = a1_z) (hz_a2 : a2.toInt = a2_z) (hz_a3 : a3.toInt = a3_z) : vx_Met l yX11_in wiX11_in ({ frames := 12, cells := 1, slots := 6, locals := 576 }) (va_Pc [.ref x, .int (a1), .int (a2), .int (a3)] (Qe G cy κ S sz)) (va_Qi (fun (r : Int32) (S9 : PS) => S = S9 ∧ (True)) (Bw G cy S sz) (AS S sz)) (vx_X (fun S9 : PS => S = S9) (fun E S9 t => E = "java/util/NoSuchElementException" ∧ Bw G cy S sz S9 t) (AS S sz)) 1 6 (AS S sz) := by
  refine ent_e (cc := cX11_in) (maxL := 7) (ret := (some .int)) (by decide) rfl (Nat.le_of_ble_eq_true rfl) ?_
  intro p e s m below meth c ls X hr hlocks hw hl hsz hdc hnt hml
  subst hsz
  have X : Cx p c cX11_in 7 s [.ref x, .int (a1), .int (a2), .int (a3)].toArray wiX11_in RX11 m G cy κ (AS S s.heap.size) := X
  have hl : lv_has ls 7 [(0, .ref x), (1, .int (a1)), (2, .int (a2)), (3, .int (a3))] := hl
  have rg_a1 : (-2147483648) ≤ a1_z ∧ a1_z ≤ 2147483647 := by rw [← hz_a1]; exact ⟨z_lo _, z_hi _⟩
  have rg_a2 : (-2147483648) ≤ a2_z ∧ a2_z ≤ 2147483647 := by rw [← hz_a2]; exact ⟨z_lo _, z_hi _⟩
  have rg_a3 : (-2147483648) ≤ a3_z ∧ a3_z ≤ 2147483647 := by rw [← hz_a3]; exact ⟨z_lo _, z_hi _⟩
  refine lv_aload_n X.1 X.2.1 dX11_in_0 rfl (lv_at hl 0 rfl) ?_
  refine lv_iload_n X.1 X.2.1 dX11_in_1 rfl (lv_at hl 1 rfl) ?_
  refine k_q (rm := { frames := 1, cells := 0, slots := 0, locals := 48 }) (av := [.ref x, .int (a1)]) X hw (va_runV (As := [.int (a1)]) (rest := []) (cfix X) (k_X11_potAt l G cy κ S _ x (a1) (a1_z) hG ha_x hz_a1) (cwV 1 X.2.2.2.1 gX11_in_X11_potAt rfl rfl rfl (by decide +kernel) ⟨Nat.le_of_ble_eq_true rfl, Nat.le_of_ble_eq_true rfl⟩) (pre_V X hw _ ha_x rfl (by decide) rfl) rfl rfl hl.1 rfl (lv_room (Nat.le_of_ble_eq_true rfl)) dX11_in_2 ⟨Nat.le_of_ble_eq_true rfl, Nat.le_of_ble_eq_true rfl⟩) 0 0 (Nat.le_of_ble_eq_true rfl) (Nat.le_of_ble_eq_true rfl) (fun rr_1 S_2 H locs hp hw hfr hnw => ?_)
  obtain ⟨e2, hp⟩ := hp
  subst e2
  obtain ⟨hq_3, hnf_4⟩ := hp
  rcases rr_1 with _ | q_5
  · refine W.eq (g2 := F0 m 5 ls (.null :: [])) rfl ?_
    have nf_6 := hnf_4 rfl
    refine lv_astoreN (lv' := [(4, .null), (0, .ref x), (1, .int (a1)), (2, .int (a2)), (3, .int (a3))]) X.1 X.2.1 dX11_in_5 hl (by decide) rfl (fun ls hl => ?_)
    refine lv_aloadN X.1 X.2.1 dX11_in_7 (lv_at hl 0 rfl) ?_
    refine lv_ifnonnullN X.1 X.2.1 dX11_in_9 ?_
    refine lv_null X.1 X.2.1 dX11_in_12 ?_
    refine lv_goto (tgt := 22) X.1 X.2.1 dX11_in_13 (by decide) ?_
    refine lv_astoreN (lv' := [(5, .null), (4, .null), (0, .ref x), (1, .int (a1)), (2, .int (a2)), (3, .int (a3))]) X.1 X.2.1 dX11_in_22 hl (by decide) rfl (fun ls hl => ?_)
    refine lv_aloadN X.1 X.2.1 dX11_in_24 (lv_at hl 0 rfl) ?_
    refine lv_ifnonnullN X.1 X.2.1 dX11_in_26 ?_
    refine lv_null X.1 X.2.1 dX11_in_29 ?_
    refine lv_goto (tgt := 39) X.1 X.2.1 dX11_in_30 (by decide) ?_
    refine lv_astoreN (lv' := [(6, .null), (5, .null), (4, .null), (0, .ref x), (1, .int (a1)), (2, .int (a2)), (3, .int (a3))]) X.1 X.2.1 dX11_in_39 hl (by decide) rfl (fun ls hl => ?_)
    refine lv_aloadN X.1 X.2.1 dX11_in_41 (lv_at hl 0 rfl) ?_
    refine lv_ifnonnullN X.1 X.2.1 dX11_in_43 ?_
    refine ox_throwS (ix := 13) (rx := prog_26_method_4_code) (names := ["java/lang/RuntimeException", "java/lang/Exception"]) X.1 X.2.1 hst (by decide +kernel) (by decide +kernel) (by decide +kernel) (by decide +kernel) X.2.2.2.2.1 (by decide +kernel) (by decide +kernel) (X.2.2.2.1 (.classLink RX11 219 "java/util/NoSuchElementException") (by decide +kernel)) (X.2.2.2.1 (.initialized "java/util/NoSuchElementException") (by decide +kernel)) (show vk_R RX11 221 "there is no such cocoon in a pot" (κ (100 + 1)) s from (X.2.2.2.2.2.2.2.2.2.2.2.2.2.2 1 (by decide)).1) (vx_hat (B := [.castable "java/util/NoSuchElementException" "java/util/NoSuchElementException", .declares (Bundle.initS "java/lang/RuntimeException"), .declares (Bundle.initS "java/lang/Exception"), .declares (Bundle.initS Bundle.tN)]) (fun w h => X.2.2.2.1 w (List.mem_cons_of_mem _ (List.mem_append_right _ h))) (by decide +kernel) (vx_c (va_Nw.use rfl X.2.2.2.2.2.2.2.1.2.2.2.1) (vx_c (va_Nw.use rfl (hdc _ (List.mem_of_getElem? (i := 0) rfl))) (vx_c (va_Nw.use rfl (hdc _ (List.mem_of_getElem? (i := 1) rfl))) (vx_c (va_Nw.use rfl (hdc _ (List.mem_of_getElem? (i := 2) rfl))) vx_n))))) (by decide +kernel) X.2.2.2.2.2.2.2.2.2.2.1 X.2.2.2.2.2.2.2.2.2.2.2.1 hw.2.2 (hl.1.trans hml.symm) dX11_in_46 dX11_in_49 dX11_in_50 dX11_in_52 dX11_in_55 (fun x hx => (hnt x hx).elim) (by decide) (Nat.le_of_ble_eq_true rfl) (Nat.le_of_ble_eq_true rfl) (Nat.le_of_ble_eq_true rfl) hlocks ?_ hw.2.2.2.2 (Nat.le_of_ble_eq_true rfl) (Nat.le_of_ble_eq_true rfl)
    intro t hvm hsz hq
    exact ⟨S, rfl, ⟨rfl, hw.1.kept (fun k q hk => hq q.1 (hw.lt (pl_mem hk))), hw.2.1⟩, ⟨Nat.le_trans hw.2.2.1 hsz, fun q h1 h2 => (hq q (Nat.lt_of_lt_of_le h1 hw.2.2.1)).trans (hw.2.2.2.1 q h1 h2)⟩⟩
  · refine W.eq (g2 := F0 m 5 ls (.ref q_5 :: [])) rfl ?_
    obtain ⟨ha_7, f_8, f_9⟩ := hq_3 _ rfl
    refine lv_astore (lv' := [(4, .ref q_5), (0, .ref x), (1, .int (a1)), (2, .int (a2)), (3, .int (a3))]) X.1 X.2.1 dX11_in_5 hl (by decide) rfl (fun ls hl => ?_)
    refine lv_aload X.1 X.2.1 dX11_in_7 (lv_at hl 0 rfl) ?_
    refine lv_ifnonnull (tgt := 16) X.1 X.2.1 dX11_in_9 (by decide) ?_
    refine lv_aload X.1 X.2.1 dX11_in_16 (lv_at hl 0 rfl) ?_
    refine lv_iload_n X.1 X.2.1 dX11_in_18 rfl (lv_at hl 3 rfl) ?_
    refine k_q (rm := { frames := 1, cells := 0, slots := 0, locals := 48 }) (av := [.ref q_5, .int (a2)]) X hw (va_runV (As := [.int (a2)]) (rest := []) (cfix X) (k_X4_rowNumbered l G cy κ S _ q_5 (a2) (a2_z) hG ha_7 hz_a2) (cwV 1 X.2.2.2.1 gX11_in_X4_rowNumbered rfl rfl rfl (by decide +kernel) ⟨Nat.le_of_ble_eq_true rfl, Nat.le_of_ble_eq_true rfl⟩) (pre_V X hw _ ha_7 rfl (by decide) rfl) rfl rfl hl.1 rfl (lv_room (Nat.le_of_ble_eq_true rfl)) dX11_in_19 ⟨Nat.le_of_ble_eq_true rfl, Nat.le_of_ble_eq_true rfl⟩) 0 0 (Nat.le_of_ble_eq_true rfl) (Nat.le_of_ble_eq_true rfl) (fun rr_10 S_11 H locs hp hw hfr hnw => ?_)
    obtain ⟨e2, hp⟩ := hp
    subst e2
    have hq_12 := hp
    rcases rr_10 with _ | q_13
    · refine W.eq (g2 := F0 m 22 ls (.null :: [])) rfl ?_
      refine lv_astoreN (lv' := [(5, .null), (4, .ref q_5), (0, .ref x), (1, .int (a1)), (2, .int (a2)), (3, .int (a3))]) X.1 X.2.1 dX11_in_22 hl (by decide) rfl (fun ls hl => ?_)
      refine lv_aloadN X.1 X.2.1 dX11_in_24 (lv_at hl 0 rfl) ?_
      refine lv_ifnonnullN X.1 X.2.1 dX11_in_26 ?_
      refine lv_null X.1 X.2.1 dX11_in_29 ?_
      refine lv_goto (tgt := 39) X.1 X.2.1 dX11_in_30 (by decide) ?_
      refine lv_astoreN (lv' := [(6, .null), (5, .null), (4, .ref q_5), (0, .ref x), (1, .int (a1)), (2, .int (a2)), (3, .int (a3))]) X.1 X.2.1 dX11_in_39 hl (by decide) rfl (fun ls hl => ?_)
      refine lv_aloadN X.1 X.2.1 dX11_in_41 (lv_at hl 0 rfl) ?_
      refine lv_ifnonnullN X.1 X.2.1 dX11_in_43 ?_
      refine ox_throwS (ix := 13) (rx := prog_26_method_4_code) (names := ["java/lang/RuntimeException", "java/lang/Exception"]) X.1 X.2.1 hst (by decide +kernel) (by decide +kernel) (by decide +kernel) (by decide +kernel) X.2.2.2.2.1 (by decide +kernel) (by decide +kernel) (X.2.2.2.1 (.classLink RX11 219 "java/util/NoSuchElementException") (by decide +kernel)) (X.2.2.2.1 (.initialized "java/util/NoSuchElementException") (by decide +kernel)) (show vk_R RX11 221 "there is no such cocoon in a pot" (κ (100 + 1)) s from (X.2.2.2.2.2.2.2.2.2.2.2.2.2.2 1 (by decide)).1) (vx_hat (B := [.castable "java/util/NoSuchElementException" "java/util/NoSuchElementException", .declares (Bundle.initS "java/lang/RuntimeException"), .declares (Bundle.initS "java/lang/Exception"), .declares (Bundle.initS Bundle.tN)]) (fun w h => X.2.2.2.1 w (List.mem_cons_of_mem _ (List.mem_append_right _ h))) (by decide +kernel) (vx_c (va_Nw.use rfl X.2.2.2.2.2.2.2.1.2.2.2.1) (vx_c (va_Nw.use rfl (hdc _ (List.mem_of_getElem? (i := 0) rfl))) (vx_c (va_Nw.use rfl (hdc _ (List.mem_of_getElem? (i := 1) rfl))) (vx_c (va_Nw.use rfl (hdc _ (List.mem_of_getElem? (i := 2) rfl))) vx_n))))) (by decide +kernel) X.2.2.2.2.2.2.2.2.2.2.1 X.2.2.2.2.2.2.2.2.2.2.2.1 hw.2.2 (hl.1.trans hml.symm) dX11_in_46 dX11_in_49 dX11_in_50 dX11_in_52 dX11_in_55 (fun x hx => (hnt x hx).elim) (by decide) (Nat.le_of_ble_eq_true rfl) (Nat.le_of_ble_eq_true rfl) (Nat.le_of_ble_eq_true rfl) hlocks ?_ hw.2.2.2.2 (Nat.le_of_ble_eq_true rfl) (Nat.le_of_ble_eq_true rfl)
      intro t hvm hsz hq
      exact ⟨S, rfl, ⟨rfl, hw.1.kept (fun k q hk => hq q.1 (hw.lt (pl_mem hk))), hw.2.1⟩, ⟨Nat.le_trans hw.2.2.1 hsz, fun q h1 h2 => (hq q (Nat.lt_of_lt_of_le h1 hw.2.2.1)).trans (hw.2.2.2.1 q h1 h2)⟩⟩
    · refine W.eq (g2 := F0 m 22 ls (.ref q_13 :: [])) rfl ?_
      have ha_14 : At S q_13 5 := hq_12 _ rfl
      refine lv_astore (lv' := [(5, .ref q_13), (4, .ref q_5), (0, .ref x), (1, .int (a1)), (2, .int (a2)), (3, .int (a3))]) X.1 X.2.1 dX11_in_22 hl (by decide) rfl (fun ls hl => ?_)
      refine lv_aload X.1 X.2.1 dX11_in_24 (lv_at hl 0 rfl) ?_
      refine lv_ifnonnull (tgt := 33) X.1 X.2.1 dX11_in_26 (by decide) ?_
      refine lv_aload X.1 X.2.1 dX11_in_33 (lv_at hl 0 rfl) ?_
      refine lv_iload_n X.1 X.2.1 dX11_in_35 rfl (lv_at hl 5 rfl) ?_
      refine k_q (rm := { frames := 2, cells := 0, slots := 0, locals := 96 }) (av := [.ref q_13, .int (a3)]) X hw (va_runV (As := [.int (a3)]) (rest := []) (cfix X) (k_X5_at l G cy κ S _ q_13 (a3) (a3_z) hG ha_14 hz_a3) (cwV 1 X.2.2.2.1 gX11_in_X5_at rfl rfl rfl (by decide +kernel) ⟨Nat.le_of_ble_eq_true rfl, Nat.le_of_ble_eq_true rfl⟩) (pre_V X hw _ ha_14 rfl (by decide) rfl) rfl rfl hl.1 rfl (lv_room (Nat.le_of_ble_eq_true rfl)) dX11_in_36 ⟨Nat.le_of_ble_eq_true rfl, Nat.le_of_ble_eq_true rfl⟩) 0 0 (Nat.le_of_ble_eq_true rfl) (Nat.le_of_ble_eq_true rfl) (fun rr_15 S_16 H locs hp hw hfr hnw => ?_)
      obtain ⟨e2, hp⟩ := hp
      subst e2
      have hq_17 := hp
      rcases rr_15 with _ | q_18
      · refine W.eq (g2 := F0 m 39 ls (.null :: [])) rfl ?_
        refine lv_astoreN (lv' := [(6, .null), (5, .ref q_13), (4, .ref q_5), (0, .ref x), (1, .int (a1)), (2, .int (a2)), (3, .int (a3))]) X.1 X.2.1 dX11_in_39 hl (by decide) rfl (fun ls hl => ?_)
        refine lv_aloadN X.1 X.2.1 dX11_in_41 (lv_at hl 0 rfl) ?_
        refine lv_ifnonnullN X.1 X.2.1 dX11_in_43 ?_
        refine ox_throwS (ix := 13) (rx := prog_26_method_4_code) (names := ["java/lang/RuntimeException", "java/lang/Exception"]) X.1 X.2.1 hst (by decide +kernel) (by decide +kernel) (by decide +kernel) (by decide +kernel) X.2.2.2.2.1 (by decide +kernel) (by decide +kernel) (X.2.2.2.1 (.classLink RX11 219 "java/util/NoSuchElementException") (by decide +kernel)) (X.2.2.2.1 (.initialized "java/util/NoSuchElementException") (by decide +kernel)) (show vk_R RX11 221 "there is no such cocoon in a pot" (κ (100 + 1)) s from (X.2.2.2.2.2.2.2.2.2.2.2.2.2.2 1 (by decide)).1) (vx_hat (B := [.castable "java/util/NoSuchElementException" "java/util/NoSuchElementException", .declares (Bundle.initS "java/lang/RuntimeException"), .declares (Bundle.initS "java/lang/Exception"), .declares (Bundle.initS Bundle.tN)]) (fun w h => X.2.2.2.1 w (List.mem_cons_of_mem _ (List.mem_append_right _ h))) (by decide +kernel) (vx_c (va_Nw.use rfl X.2.2.2.2.2.2.2.1.2.2.2.1) (vx_c (va_Nw.use rfl (hdc _ (List.mem_of_getElem? (i := 0) rfl))) (vx_c (va_Nw.use rfl (hdc _ (List.mem_of_getElem? (i := 1) rfl))) (vx_c (va_Nw.use rfl (hdc _ (List.mem_of_getElem? (i := 2) rfl))) vx_n))))) (by decide +kernel) X.2.2.2.2.2.2.2.2.2.2.1 X.2.2.2.2.2.2.2.2.2.2.2.1 hw.2.2 (hl.1.trans hml.symm) dX11_in_46 dX11_in_49 dX11_in_50 dX11_in_52 dX11_in_55 (fun x hx => (hnt x hx).elim) (by decide) (Nat.le_of_ble_eq_true rfl) (Nat.le_of_ble_eq_true rfl) (Nat.le_of_ble_eq_true rfl) hlocks ?_ hw.2.2.2.2 (Nat.le_of_ble_eq_true rfl) (Nat.le_of_ble_eq_true rfl)
        intro t hvm hsz hq
        exact ⟨S, rfl, ⟨rfl, hw.1.kept (fun k q hk => hq q.1 (hw.lt (pl_mem hk))), hw.2.1⟩, ⟨Nat.le_trans hw.2.2.1 hsz, fun q h1 h2 => (hq q (Nat.lt_of_lt_of_le h1 hw.2.2.1)).trans (hw.2.2.2.1 q h1 h2)⟩⟩
      · refine W.eq (g2 := F0 m 39 ls (.ref q_18 :: [])) rfl ?_
        obtain ⟨ha_19, f_20, f_21⟩ := hq_17 _ rfl
        refine lv_astore (lv' := [(6, .ref q_18), (5, .ref q_13), (4, .ref q_5), (0, .ref x), (1, .int (a1)), (2, .int (a2)), (3, .int (a3))]) X.1 X.2.1 dX11_in_39 hl (by decide) rfl (fun ls hl => ?_)
        refine lv_aload X.1 X.2.1 dX11_in_41 (lv_at hl 0 rfl) ?_
        refine lv_ifnonnull (tgt := 56) X.1 X.2.1 dX11_in_43 (by decide) ?_
        refine lv_aload X.1 X.2.1 dX11_in_56 (lv_at hl 0 rfl) ?_
        refine k_i (rm := { frames := 1, cells := 0, slots := 0, locals := 48 }) (av := [.ref q_18]) X hw (va_runV (As := []) (rest := []) (cfix X) (k_X0_code l G cy κ S _ q_18 hG ha_19) (cwV 0 X.2.2.2.1 gX11_in_X0_code rfl rfl rfl (by decide +kernel) ⟨Nat.le_of_ble_eq_true rfl, Nat.le_of_ble_eq_true rfl⟩) (pre_V X hw _ ha_19 rfl (by decide) rfl) rfl rfl hl.1 rfl (lv_room (Nat.le_of_ble_eq_true rfl)) dX11_in_58 ⟨Nat.le_of_ble_eq_true rfl, Nat.le_of_ble_eq_true rfl⟩) 0 0 (Nat.le_of_ble_eq_true rfl) (Nat.le_of_ble_eq_true rfl) (fun rr_22 S_23 H locs hp hw hfr hnw => ?_)
        obtain ⟨e2, hp⟩ := hp
        subst e2
        have rg_24 := And.intro (z_lo rr_22) (z_hi rr_22)
        exact vx_ret (ret_i X hw hr hlocks (Nat.le_of_ble_eq_true rfl) (Nat.le_of_ble_eq_true rfl) ⟨rfl, trivial⟩ dX11_in_61)
