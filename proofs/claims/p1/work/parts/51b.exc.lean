/-! ===== the same with the words that a chain of constructors needs ===== -/
def DcL : List String := ["java/lang/RuntimeException", "java/lang/Exception", Bundle.tN]
def Qx (G : va_G) (cy : Nat → ClassId) (S : PS) (sz : Nat) (k : Nat) (tx : String) (sa : Nat) : State → Prop := fun U => Pw G cy S sz U ∧ Zs (AS S sz) U U.heap ∧ vk_R RX11 k tx sa U ∧ ∀ Y ∈ DcL, va_Nw (.declares (Bundle.initS Y)) U
theorem qx_blind {G : va_G} {cy : Nat → ClassId} {S : PS} {av : List Value} {sz k sa : Nat} {tx : String} : FrameBlind (va_Pc av (Qx G cy S sz k tx sa)) := fun a U g mk q => by
  obtain ⟨q0, q1, ⟨z1, z2⟩, q3, q4⟩ := q
  have b := (pw_blind (G := G) (cy := cy) (S := S) (av := av) (sz := sz)) a U g mk ⟨q0, q1⟩
  exact ⟨b.1, b.2, ⟨vx_Zq.moved (u := U) (U := U.calling g mk a) (Vm.Alike.refl U.vm) z1, vx_Zq.moved (u := U) (U := U.calling g mk a) (Vm.Alike.refl U.vm) z2⟩, vk_R.same (u := U) (U := U.calling g mk a) rfl q3, fun Y hY => va_Nw.same (u := U) (U := U.calling g mk a) rfl rfl (q4 Y hY)⟩
section XROWS2
variable {p : Program} {l : Launch} {e : Env} {R : Room} {s : State} {m : MethodId} {args : Array Value} {below : List Frame} {meth : Method} {c : Code} {H : Heap} {locs : List Loc} {cells slots : Nat} {Q : State → Prop}
variable {cc : ByteArray} {pc nL : Nat} {ls : Array Slot} {rest : List Value} {Ts : List Cond} {own ref : String} {G : va_G} {cy : Nat → ClassId} {A : Nat → Prop} {S : PS} {a k index sa : Nat} {tx : String}
theorem zs_at2 (X : Cx p c cc nL s args Ts own m G cy A) (hw : Wd G cy A s.heap S H locs) (hZ : Zs A s s.heap) {U : State} (hU : U.heap = H) (hW : s.WarmedH U.vm) : Zs (AS S H.size) U U.heap := by
  rw [hU]
  exact ⟨((hZ.1.kept (fun a h1 h2 => hw.2.2.2.1 a h1 h2)).narrow (as_in X hw)).moved hW.alike, ((hZ.2.kept (fun a h1 h2 => hw.2.2.2.1 a h1 h2)).narrow (as_in X hw)).moved hW.alike⟩
theorem qx_of (X : Cx p c cc nL s args Ts own m G cy A) (hw : Wd G cy A s.heap S H locs) (hZ : Zs A s s.heap) (hR : vk_R RX11 k tx sa s) (hd : ∀ Y ∈ DcL, va_Nw (.declares (Bundle.initS Y)) s) {U : State} (hU : U.heap = H) (hW : s.WarmedH U.vm) : Qx G cy S H.size k tx sa U := ⟨pw_of X hw hU hW, zs_at2 X hw hZ hU hW, vk_R.warm hW hR, fun Y hY => va_Nw.warmD hW (hd Y hY)⟩
theorem pre_SQ (X : Cx p c cc nL s args Ts own m G cy A) (hw : Wd G cy A s.heap S H locs) (hZ : Zs A s s.heap) (hR : vk_R RX11 k tx sa s) (hd : ∀ Y ∈ DcL, va_Nw (.declares (Bundle.initS Y)) s) (av : List Value) : PreS s H (va_Pc av (Qx G cy S H.size k tx sa)) av := ⟨qx_blind, fun U hU hW => ⟨rfl, qx_of X hw hZ hR hd hU hW⟩⟩
theorem pre_VQ (X : Cx p c cc nL s args Ts own m G cy A) (hw : Wd G cy A s.heap S H locs) (hZ : Zs A s s.heap) (hR : vk_R RX11 k tx sa s) (hd : ∀ Y ∈ DcL, va_Nw (.declares (Bundle.initS Y)) s) (av : List Value) {b k' : Nat} (ha : At S b k') (hk : k' < 13) {q : vw_C} (hc : vwCl[k']? = some q) : PreV s H q.1 b (va_Pc (.ref b :: av) (Qx G cy S H.size k tx sa)) av := by
  obtain ⟨n, hn⟩ := pl_get (cy := cy) ha.1
  rw [PF_O ha.2 hk] at hn
  exact ⟨qx_blind, va_recv X.2.2.2.2.2.1 hw.1 hc hn, fun U hU hW => ⟨rfl, qx_of X hw hZ hR hd hU hW⟩⟩
end XROWS2
/-! ===== 'throw new E("text")' where E's constructor calls its super's by an index of its own (NoSuchElementException: 13) ===== -/
section OXS
variable {p : Program} {l : Launch} {e : Env} {R : Room} {s : State} {m : MethodId} {args : Array Value} {below : List Frame} {meth : Method} {c : Code} {H : Heap} {locs : List Loc} {cells slots : Nat} {Q : State → Prop}
variable {mc ms : Nat} {free : Addr → Prop} {ls : Array Slot} {rest : List Value} {WS : State}
variable {Qc : Array Value → State → Outcome → State → Prop} {XC : String → State → State → Prop}
def ox_at (own : String) (ic : Nat) (X : String) (ix : Nat) (rx : ByteArray) (names : List String) : List Cond := (Bundle.ownAtomsX own ic X ix rx names).filter vx_no
theorem ox_sel (X : Stand p l e R s m args below meth c WS locs cells slots) {y : MethodName} {mk : MethodId} {cls : String} {c1 : ClassId} (hc : s.vm.findClass cls = some c1) (hn : s.methodNamed? y = some mk) (hy : y.cls ≠ "java/lang/invoke/MethodHandle" ∧ y.cls ≠ "java/lang/invoke/VarHandle") (h : (Cond.selects cls y y).before args s = true) : selectMethod e.platform s.vm c1 mk = .method mk := by
  obtain ⟨c2, r2, m2, h1, h2, h3, h4, -⟩ := Cond.selects_spec h
  rw [hc] at h1
  rw [State.methodFound?_of_named hn hy] at h2
  rw [hn] at h3
  cases h1; cases h2; cases h3
  rw [Launch.admits_selectMethod X.admits]; exact h4
/-- the whole way from the constructor's call to the frame below: the cell of the class, nothing else written -/
theorem ox_ctor (X : Stand p l e R s m args below meth c WS locs cells slots) (hexec : p.tables.exec = Jvm.exec) (htr : e.platform.stackTraces = false) {own cls : String} {names : List String} {ic ix : Nat} {rx : ByteArray}
    (x0 : decode rx 0 = .ok (.aload_n 0, 1)) (x1 : decode rx 1 = .ok (.aload_n 1, 1)) (x2 : decode rx 2 = .ok (.invokespecial ix, 3)) (x5 : decode rx 5 = .ok (.return_, 1))
    (hown : s.vm.findClass own = some m.cls) (hcls : Bundle.fit cls = true) (hnames : ∀ n ∈ names, Bundle.fit n = true) (hl0 : locs = [])
    (ok : ∀ w ∈ Bundle.ownAtomsX own ic cls ix rx names, w.before args s = true) {a sa : Nat} {cX : ClassId} {kX : Class} (hfX : s.vm.findClass cls = some cX) (hkX : s.vm.classes[cX]? = some kX) (hcell : WS.heap[a]? = some (freshCell cX kX)) (hnew : s.heap.size ≤ a)
    {g : JFrame} (hg : g.method = m) (hsize : g.locals.size = c.maxLocals) (hlk : g.locked = none) (hen : g.entered = []) (hstack : g.stack = .ref sa :: .ref a :: .ref a :: rest)
    (d1 : decode c.code g.pc = .ok (.invokespecial ic, 3)) (d2 : decode c.code (g.pc + 3) = .ok (.athrow, 1)) (hout : ∀ x ∈ c.exceptionTable.toList, covers x (g.pc + 3) = false)
    (hF : names.length + 3 < R.frames) (hL : 2 * g.monitorRoom + ((Value.ref a :: rest).map fun v => v.category).sum + (13 * (names.length + 1) + 42) ≤ R.locals) (hlocks : meth.locks = false) :
    ∃ U : State, Steps p.tables e below (WS.setTop g) U ∧ U.status = .running ∧ Ended U below (.threw a) ∧ s.WarmedH U.vm ∧ s.sameButNew ({ U with vm := s.vm } : State) locs cells slots ∧ ∃ ce, U.heap[a]? = some ce ∧ s.vm.findClass cls = some ce.cls ∧ ce.vm = .none := by
  have hpl : e.platform.magicAccessors = ({} : Platform).magicAccessors := by rw [X.admits.platform]
  have k1 : ∀ w ∈ Bundle.throwableAtoms, w.before args s = true := fun w hw => ok w (by simp only [Bundle.ownAtomsX, List.mem_append]; exact Or.inl (Or.inl (Or.inl hw)))
  have k2 : ∀ w ∈ Bundle.throwableSAtoms, w.before args s = true := fun w hw => ok w (by simp only [Bundle.ownAtomsX, List.mem_append]; exact Or.inl (Or.inl (Or.inr hw)))
  have k3 : ∀ w ∈ Bundle.chainSAtomsX cls ix rx names, w.before args s = true := fun w hw => ok w (by simp only [Bundle.ownAtomsX, List.mem_append]; exact Or.inl (Or.inr hw))
  have k4 : ∀ w, w ∈ Bundle.ownAtomsX own ic cls ix rx names → w.holds args s none s [] = true := ok
  obtain ⟨T, Z0, L, -, Y⟩ := ThrowableC.of_atoms (args := args) (by rw [X.admits.platform]) (by rw [X.admits.platform]) hpl k1
  obtain ⟨Z, M, LZ, LM, hnZ⟩ := Init0T.ofS_atoms (args := args) hpl L Y k2
  obtain ⟨P, Ps, hlen, LP, LPs, hPm, e1, e2⟩ := Bundle.chainSX (args := args) hpl hnZ x0 x1 x2 x5 names cls hcls hnames k3
  have hfP : s.vm.findClass cls = some P.m.cls := findClass_of_methodNamed hPm
  have hPc : cX = P.m.cls := Option.some.inj (hfX.symm.trans hfP)
  subst hPc
  obtain ⟨c1, k0, hc1, hk0, hord, -, -, -⟩ := Cond.instantiable_spec (k4 (.instantiable cls 6) (by simp [Bundle.ownAtomsX]))
  have hk1 : k0 = kX := by
    rw [hfP] at hc1; cases hc1
    exact Option.some.inj (hk0.symm.trans hkX)
  subst hk1
  -- Throwable's statics
  obtain ⟨cS0, hcS0, hiss⟩ := Y.statics
  obtain ⟨u0, hu0⟩ := Cond.staticRefV Y.unassigned L.unassignedStatic L.statics hcS0 hiss (k4 (.isRef (.static Bundle.tN "UNASSIGNED_STACK" Bundle.steD)) (by simp [Bundle.ownAtomsX]))
  obtain ⟨se, hse⟩ := Cond.staticRefV Y.sentinel L.sentinelStatic L.statics hcS0 hiss (k4 (.isRef (.static Bundle.tN "SUPPRESSED_SENTINEL" Bundle.listD)) (by simp [Bundle.ownAtomsX]))
  obtain ⟨cS, hcS, hvS, -, hkp⟩ := X.same.2.2.2.2.2 T.aS cS0 hcS0
  subst hl0
  have hno : ∀ i, (⟨T.aS, i⟩ : Loc) ∉ ([] : List Loc) := fun i h => nomatch h
  have hkn : cS.vm ≠ .unknown := fun h => by
    rw [hvS] at h
    rw [h] at hiss
    exact absurd hiss (by decide)
  have hneS : T.aS ≠ a := fun h => absurd hnew (Nat.not_le.mpr (h ▸ (Array.getElem?_eq_some_iff.mp hcS0).1))
  -- the five fields
  obtain ⟨iM, hM⟩ := Y.msg
  obtain ⟨ci, i1, fB, hB1, hB2, hB3, hB4, -, hB5, hB6, hB7⟩ := Cond.ownField (t := .object "java/lang/Object") Y.found L.cls (by decide +kernel) (k4 (.fieldLink Bundle.tN 198 Bundle.tN "backtrace" "Ljava/lang/Object;") (by simp [Bundle.ownAtomsX])) (k4 (.lays Bundle.tN Bundle.tN "backtrace" "Ljava/lang/Object;") (by simp [Bundle.ownAtomsX])) e.platform hpl
  obtain ⟨tC, dC, jC, nC⟩ := Cond.laysAt hfP hkX Y.cause (k4 (.lays cls Bundle.tN "cause" "Ljava/lang/Throwable;") (by simp [Bundle.ownAtomsX]))
  obtain ⟨tS, dS, jS, nS⟩ := Cond.laysAt hfP hkX Y.stack (k4 (.lays cls Bundle.tN "stackTrace" Bundle.steD) (by simp [Bundle.ownAtomsX]))
  obtain ⟨tP, dP, jP, nP⟩ := Cond.laysAt hfP hkX Y.supp (k4 (.lays cls Bundle.tN "suppressedExceptions" Bundle.listD) (by simp [Bundle.ownAtomsX]))
  obtain ⟨tM, dM, jM, nM⟩ := Cond.laysAt hfP hkX hM (k4 (.lays cls Bundle.tN "detailMessage" "Ljava/lang/String;") (by simp [Bundle.ownAtomsX]))
  obtain ⟨tB, dB, jB, nB⟩ := Cond.laysAt hfP hkX hB7 (k4 (.lays cls Bundle.tN "backtrace" "Ljava/lang/Object;") (by simp [Bundle.ownAtomsX]))
  have q1 := Cond.laysApart jB jC nB nC (by rw [hB5, Y.causeName]; decide)
  have q2 := Cond.laysApart jB jS nB nS (by rw [hB5, Y.stackName]; decide)
  have q3 := Cond.laysApart jB jP nB nP (by rw [hB5, Y.suppName]; decide)
  have hskip : SkipFacts T e.platform s (fun u => u) u0 ((preparedCellV T.toThrowableT (freshCell P.m.cls k0) a u0 se).withEntry WS.cur) := by
    refine ⟨{ ci198 := ci, i198 := i1, fBack := fB }, ⟨hB1, hB2, hB3, hB4⟩, ?_, fun _ _ => rfl⟩
    have hz := fresh_default (c := P.m.cls) tB
    rw [hB6] at hz
    simpa [preparedCellV, Cell.setSlot, Cell.withEntry, Array.getElem?_setIfInBounds, q1, q2, q3, q1.symm, q2.symm, q3.symm, defaultValue] using hz
  -- the call, the chain, the throw
  have w1 : (Cond.instanceMethod (Bundle.initS cls)).before args s = true := k3 _ (by cases names <;> simp [Bundle.chainSAtomsX, Bundle.passSAtoms])
  have w2 : (Cond.code (Bundle.initS cls) rx 2 none).before args s = true := k3 _ (by cases names <;> simp [Bundle.chainSAtomsX, Bundle.passSAtoms])
  obtain ⟨tm, -, -, -, vm₁, ht, -, -, -, -, -, -, -, hW, st1⟩ := Steps.initColdS (tb := p.tables) (e := e) (below := below) (s := s) (U := WS) X.here hexec X.warmed hpl hown (t := Bundle.initS cls) rfl rfl (Bundle.fit_spec hcls).2 (k4 (.methodLink own ic (Bundle.initS cls)) (by simp [Bundle.ownAtomsX])) w1 (bytes := rx) (maxL := 2) w2 (f := g) hg (a := a) (msg := .ref sa) (rest := .ref a :: rest) hstack d1
  have htm : tm = P.m := Option.some.inj (ht.symm.trans hPm)
  subst htm
  have hall : ∀ q, q ∈ P :: Ps → q.LinksS e.platform s := fun q hq => (List.mem_cons.mp hq).elim (fun h => h ▸ LP) (LPs q)
  obtain ⟨vm₂, X2, st2⟩ := (X.noted hW).ctorMessageOffV hexec (g := { g with stack := .ref a :: rest }) hg hsize T L Z LZ M LM (P :: Ps) hall ⟨e1, e2⟩ (u0 := u0) (sen := se) (self := a) (msg := .ref sa) rfl (cell := freshCell P.m.cls k0) (cellS := cS) hcell (fun _ => by simp) (by simp) rfl rfl
    (ox_sel X hfP Y.fill0 (by decide) (k4 (.selects cls Bundle.tFill0 Bundle.tFill0) (by simp [Bundle.ownAtomsX]))) (ox_sel X hfP Y.fill (by decide) (k4 (.selects cls Bundle.tFill Bundle.tFill) (by simp [Bundle.ownAtomsX]))) hcS hneS hkn ((hkp _ (hno _)).trans hu0) ((hkp _ (hno _)).trans hse)
    (Takes.of_laid hkX hord tC (by rw [Y.causeType]; rfl)) (Takes.of_laid hkX hord tS (by rw [Y.stackType]; exact fits_refV_array _ u0)) (Takes.of_laid hkX hord tP (by rw [Y.suppType]; exact fits_refV_object _ se)) (Takes.of_laid hkX hord tM (by rw [Y.msgType]; exact fits_refV_object _ ⟨.ref sa, rfl⟩)) Y.objLocals hskip htr [] d1
    (by simp only [List.length_cons, hlen]; omega) (by simp only [List.length_cons, hlen]; exact hL)
  obtain ⟨st3, hrun, hend, hWU, hsm⟩ := X2.athrowLeaves hexec (g := { g with stack := .ref a :: rest, pc := g.pc + 3 }) hg hlk hen hout (a := a) (rest := rest) rfl d2
  have hU := heapAt_setCell_self (s := (WS.setVm vm₁).setVm vm₂) (plainBareV T.toThrowableT (freshCell P.m.cls k0) a u0 se (.ref sa)) (Array.getElem?_eq_some_iff.mp hcell).1
  refine ⟨_, st1 _ (fun acts => by rw [doInvoke_state]; exact st2 _ st3), hrun, hend, hWU, hsm.weaken (fun y hy hlt => ?_) (Nat.le_refl _) (Nat.le_refl _), _, hU, hfP, rfl⟩
  rw [List.nil_append] at hy
  have hb : y.base = a := by
    simp only [List.mem_cons, List.not_mem_nil, or_false] at hy
    rcases hy with rfl | rfl | rfl | rfl | rfl <;> rfl
  exact absurd hnew (Nat.not_le.mpr (hb ▸ hlt))
theorem ox_throwS {cc : ByteArray} {pc : Nat} (hexec : p.tables.exec = Jvm.exec) (hb : c.code = cc) (hl : l.stackTraces = false) {own cls text : String} {names : List String} {ik is ic mc ms sa ix : Nat} {rx : ByteArray} {A : Nat → Prop} (x0 : decode rx 0 = .ok (.aload_n 0, 1)) (x1 : decode rx 1 = .ok (.aload_n 1, 1)) (x2 : decode rx 2 = .ok (.invokespecial ix, 3)) (x5 : decode rx 5 = .ok (.return_, 1))
    (hown : s.vm.findClass own = some m.cls) (hcls : Bundle.fit cls = true) (hnames : ∀ n ∈ names, Bundle.fit n = true)
    (hk : (Cond.classLink own ik cls).before args s = true) (hini : (Cond.initialized cls).before args s = true) (hstr : vk_R own is text sa s) (hat : ∀ w ∈ ox_at own ic cls ix rx names, w.before args s = true)
    (hgood : ∀ w ∈ Cond.classLink own ik cls :: Cond.initialized cls :: ox_at own ic cls ix rx names, vx_ot w = true)
    (hU : vx_Zq Bundle.tN "UNASSIGNED_STACK" Bundle.steD A s s.heap) (hN : vx_Zq Bundle.tN "SUPPRESSED_SENTINEL" Bundle.listD A s s.heap) (hS : va_S A s.heap H locs) (hsize : ls.size = c.maxLocals)
    (d0 : decode cc pc = .ok (.new ik, 3)) (d3 : decode cc (pc + 3) = .ok (.dup, 1)) (d4 : decode cc (pc + 4) = .ok (.ldc is, 2)) (d6 : decode cc (pc + 6) = .ok (.invokespecial ic, 3)) (d9 : decode cc (pc + 9) = .ok (.athrow, 1))
    (hout : ∀ x ∈ c.exceptionTable.toList, covers x (pc + 9) = false)
    (hRframes : names.length + 3 < R.frames) (hRlocals : (rest.map fun v => v.category).sum + (13 * (names.length + 1) + 43) ≤ R.locals) (hRcells : cells + 1 ≤ R.cells) (hRslots : slots + 6 ≤ R.slots) (hlocks : meth.locks = false)
    (hx : ∀ t : State, s.vm.Alike t.vm → H.size ≤ t.heap.size → (∀ q : Nat, q < H.size → t.heap[q]? = H[q]?) → XC cls s t)
    (hf : ∀ z ∈ locs, free z.base) (hc : cells + 1 ≤ mc) (hs : slots + 6 ≤ ms) :
    W p l e R s m args below meth c H locs cells slots (vx_MQ below Qc XC args s mc ms free) (F0 m pc ls rest) := by
  intro T hT X
  have htr : e.platform.stackTraces = false := (show e.platform.stackTraces = l.stackTraces by rw [X.admits.platform]).trans hl
  have Y := vx_rebase X (R' := { frames := R.frames, locals := R.locals, cells := 1, slots := 6 }) (Nat.le_refl _) (Nat.le_refl _) hRcells hRslots
  obtain ⟨s', hA⟩ : ∃ z, z = (T.setVm s.vm).setFrames (.invoking m args :: below) := ⟨_, rfl⟩
  rw [← hA] at Y
  have hvm : s'.vm = s.vm := by rw [hA]; rfl
  have hhp : s'.heap = H := by rw [hA]; exact hT
  have hW0 : s.WarmedH s'.vm := by rw [hvm]; exact State.WarmedH.refl s
  have hat' : ∀ w ∈ ox_at own ic cls ix rx names, w.before args s' = true := fun w hw => vx_ot_at hW0 hvm.symm (hgood w (List.mem_cons_of_mem _ (List.mem_cons_of_mem _ hw))) (hat w hw)
  have hk' : (Cond.classLink own ik cls).before args s' = true := vx_ot_at hW0 hvm.symm (hgood _ List.mem_cons_self) hk
  have hini' : (Cond.initialized cls).before args s' = true := vx_ot_at hW0 hvm.symm (hgood _ (List.mem_cons_of_mem _ List.mem_cons_self)) hini
  have hU' : vx_Zq Bundle.tN "UNASSIGNED_STACK" Bundle.steD A s' s'.heap := by rw [hhp]; exact vx_Zq.moved hW0.alike (hU.kept hS.2.1)
  have hN' : vx_Zq Bundle.tN "SUPPRESSED_SENTINEL" Bundle.listD A s' s'.heap := by rw [hhp]; exact vx_Zq.moved hW0.alike (hN.kept hS.2.1)
  have h : ∀ w ∈ Bundle.ownAtomsX own ic cls ix rx names, w.before args s' = true := vx_own hat' (vx_isRefq hU'.1) (vx_isRefq hN'.1) hU'.2.word hN'.2.word
  have hown' : s'.vm.findClass own = some m.cls := by rw [hvm]; exact hown
  have hins : (Cond.instantiable cls 6).before args s' = true := h _ (by simp [Bundle.ownAtomsX])
  obtain ⟨vm₁, cX, kX, hfX, hkX, -, -, X₁, st1⟩ := Y.newCold hexec (own := own) (C := cls) (index := ik) (n := 6) hown' hk' hins hini'
    (g := F0 m pc ls rest) rfl (by rw [hb]; exact d0) (Nat.le_refl _) (Nat.le_refl _)
  generalize hT1 : (T.setVm vm₁).pushCell { cls := cX, slots := kX.instanceTypes.map defaultValue, vm := .none } = T1 at X₁ st1
  have hcat : (Value.ref T.heap.size).category = 1 := rfl
  have hcellA : T1.heap[T.heap.size]? = some (freshCell cX kX) := by rw [← hT1]; exact State.heap_pushCell_size _ _
  have d3' : decode c.code (pc + 3) = .ok (.dup, 1) := by rw [hb]; exact d3
  have d4' : decode c.code (pc + 4) = .ok (.ldc is, 2) := by rw [hb]; exact d4
  have hstr' : vk_R own is text sa s' := vk_R.warm hW0 hstr
  obtain ⟨U, hsteps, hrun, hend, hW, hsame, ce, hce, hO1, hO2⟩ := ox_ctor X₁ hexec htr x0 x1 x2 x5 (own := own) (cls := cls) (names := names) (ic := ic) hown' hcls hnames rfl h hfX hkX hcellA (by rw [hhp, hT]; exact Nat.le_refl _) (sa := sa)
    (g := { method := m, pc := pc + 6, locals := ls, stack := .ref sa :: .ref T.heap.size :: .ref T.heap.size :: rest, locked := none }) rfl hsize rfl rfl (rest := rest) rfl
    (by rw [hb]; exact d6) (by rw [hb]; exact d9) hout hRframes (by simp only [List.map_cons, List.sum_cons, hcat]; omega) hlocks
  obtain ⟨f1, f2⟩ := vx_frame hsame
  rw [hhp] at f1 f2
  have hWs : s.WarmedH U.vm := State.WarmedH.trans hW0 hW
  have hcl : s.vm.findClass cls = some ce.cls := by
    have h9 := hO1
    rw [hvm] at h9
    exact h9
  have hall : s.sameButNew ({ U with vm := s.vm } : State) locs mc ms := by
    subst hA
    obtain ⟨e1, e2⟩ := hsame
    rw [State.setFrames_setFrames] at e1
    have h2 : (T.setVm s.vm).sameButNew ({ U with vm := s.vm } : State) [] (0 + 1) (0 + 6) := ⟨e1, e2⟩
    have h3 := X.same.trans h2
    rw [List.append_nil] at h3
    exact h3.mono hc hs
  refine ⟨U, ?_, .threw T.heap.size, hrun, hend, Or.inr ⟨T.heap.size, rfl, cls, ce, locs, hx U hWs.alike f1 (fun q hq => f2 q hq (fun z hz => nomatch hz)), hce, hO2, hcl, hWs, hall, hf⟩⟩
  refine st1 _ ?_
  show Steps p.tables e below (T1.setTop { method := m, pc := pc + 3, locals := ls, stack := .ref T.heap.size :: rest, locked := none }) _
  jvm_step X₁.here [X₁.here.top, hexec, d3', Value.category]
  exact X₁.ldcString hexec (own := own) (text := text) (index := is) (a := sa) hown' hstr'.1 hstr'.2
    (g := { method := m, pc := pc + 4, locals := ls, stack := .ref T.heap.size :: .ref T.heap.size :: rest, locked := none }) rfl d4' _ hsteps
end OXS
def wiX11_in : List Cond := .code yX11_in cX11_in 7 (some .int) :: ((wsX11_in_r1 ++ wsX11_in_r2) ++ wsX110 ++ wsX40 ++ wsX50 ++ wsX00 ++ (ox_at RX11 223 "java/util/NoSuchElementException" 13 prog_26_method_4_code ["java/lang/RuntimeException", "java/lang/Exception"]).filter goodWord)
def wiL_in : List Cond := .codeWith yL_in cL_in 6 (some .int) [(0, 12, 15, 18)] :: ((wsL_in_r1 ++ wsL_in_r2) ++ wsX110 ++ wsX40 ++ wsX50 ++ wsX00 ++ (ox_at RX11 223 "java/util/NoSuchElementException" 13 prog_26_method_4_code ["java/lang/RuntimeException", "java/lang/Exception"]).filter goodWord)
