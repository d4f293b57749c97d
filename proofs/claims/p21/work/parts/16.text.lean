theorem strN_le (i : Nat) : strN i ≤ 64 := by
  by_cases h : i < 26
  · have : ∀ j : Fin 26, strN j ≤ 64 := by decide +kernel
    exact this ⟨i, h⟩
  · unfold strN strT
    rw [List.getD_eq_getElem?_getD, List.getElem?_eq_none (by simpa [strs] using h)]; decide
theorem z_shr0 {x v : Int32} {a : Int} (e : v = x >>> ((0 : Int32) &&& 31)) (hx : x.toInt = a) : v.toInt = a := by
  subst hx e
  have h0 : ((0 : Int32) &&& 31) = 0 := by decide
  rw [h0]
  have : x >>> (0 : Int32) = x := by
    apply Int32.toBitVec_inj.mp
    simp
  rw [this]
theorem z_i2c {x v : Int32} (e : v = (x.toUInt32 % 65536).toInt32) : 0 ≤ v.toInt ∧ v.toInt ≤ 65535 := by
  subst e
  have h2 : (x.toUInt32 % 65536).toNat = x.toUInt32.toNat % 65536 := UInt32.toNat_mod _ _
  have h4 : (x.toUInt32 % 65536).toInt32.toInt = ((x.toUInt32 % 65536).toNat : Int).bmod (2 ^ 32) := BitVec.toInt_eq_toNat_bmod _
  rw [h4, h2, bm_id (by omega) (by omega)]
  omega
theorem nar_char {v : Int32} (h0 : 0 ≤ v.toInt) (h1 : v.toInt ≤ 65535) : narrow .char (.int v) = .int v := by
  have e : v.toUInt32.toUInt16.toUInt32.toInt32 = v := by
    have hn : v.toUInt32.toNat < 65536 := by
      have h4 : v.toInt = (v.toUInt32.toNat : Int).bmod (2 ^ 32) := BitVec.toInt_eq_toNat_bmod _
      have h5 := v.toUInt32.toNat_lt
      rw [Int.bmod_def] at h4
      split at h4 <;> omega
    have e2 : v.toUInt32.toUInt16.toUInt32 = v.toUInt32 := by
      apply UInt32.toNat_inj.mp
      rw [UInt16.toNat_toUInt32, UInt32.toNat_toUInt16]
      omega
    rw [e2]; exact Int32.toInt32_toUInt32 v
  show Value.int (v.toUInt32.toUInt16.toUInt32.toInt32) = Value.int v
  rw [e]
section SROWS
variable {p : Program} {l : Launch} {e : Env} {R : Room} {s : State} {m : MethodId} {args : Array Value} {below : List Frame} {meth : Method} {c : Code} {H : Heap} {locs : List Loc} {cells slots : Nat} {Q : State → Prop}
variable {cc : ByteArray} {pc nL : Nat} {ls : Array Slot} {rest : List Value} {Ts : List Cond} {own ref : String} {G : va_G} {cy : Nat → ClassId} {κ : Nat → Nat} {A : Nat → Prop} {S : PS} {a k0 k index : Nat}
theorem ldcwS0 {T : State} (X : Stand p l e R s m args below meth c T locs cells slots) (hexec : p.tables.exec = Jvm.exec) {own text : String} {index : Nat} {a : Addr} (hown : s.vm.findClass own = some m.cls)
    (hconst : (Cond.stringRef own index text).before args s = true) (hev : (Term.string own index).eval args s none [] s = some (.ref a)) {g : JFrame} (hg : g.method = m) (hdg : decode c.code g.pc = .ok (.ldc_w index, 3)) :
    ∀ target, Steps p.tables e below (T.setTop { g with pc := g.pc + 3, stack := .ref a :: g.stack }) target → Steps p.tables e below (T.setTop g) target := by
  obtain ⟨k, cf, i, a', hk, hcf, hcp, -, hr, hev'⟩ := Cond.stringRef_spec hown hconst
  cases hev.symm.trans hev'
  obtain ⟨k', hk', he⟩ := X.warmed.alike.2.2 _ _ hk
  have hr' : k'.resolved[index]? = some (some (.string a)) := by
    rcases X.warmed.entry hk hk' index with h | ⟨h, -⟩
    · rw [h]; exact hr
    · rw [hr] at h; cases h
  intro target hrest
  subst hg
  jvm_step X.here [hexec, hdg, ldc_w.wp_string (e := e) (s := T) (f := g) X.here.top hk' (by rw [he]; exact hcf) hcp hr']
  exact hrest
theorem lv_ldcwS (hexec : p.tables.exec = Jvm.exec) (hb : c.code = cc) {own tx : String} {index q : Nat} (hown : s.vm.findClass own = some m.cls) (hZ : vk_R own index tx q s) (hdg : decode cc pc = .ok (.ldc_w index, 3))
    (k : W p l e R s m args below meth c H locs cells slots Q (F0 m (pc + 3) ls (.ref q :: rest))) : W p l e R s m args below meth c H locs cells slots Q (F0 m pc ls rest) := by
  intro T hT X
  obtain ⟨t, a1, b1⟩ := k T hT X
  exact ⟨t, ldcwS0 X hexec hown (text := tx) (a := q) hZ.1 hZ.2 (g := F0 m pc ls rest) rfl (by rw [hb]; exact hdg) t a1, b1⟩
theorem pre_VS (X : Cx p c cc nL s args Ts own m G cy κ A) (hw : Wd G cy A s.heap S H locs) (av : List Value) (i : Nat) (hi : i < 26) : PreV s H "java/lang/String" (κ (100 + i)) (va_Pc (.ref (κ (100 + i)) :: av) (Pw G cy κ S H.size)) av := by
  refine ⟨pw_blind, ?_, fun U hU hW => ⟨rfl, pw_of X hw hU hW⟩⟩
  obtain ⟨cell, h1, h2, h3, -⟩ := (X.2.2.2.2.2.2.2.2.2.2.2.2.2.2 i hi).2.1.kept hw.2.2.2.1
  exact ⟨cell, h1, h2, h3⟩
theorem ret_n {S0 S' : PS} {post : Int32 → PS → Prop} {v : Int32} {mc ms : Nat} {ty : FieldType} (X : Cx p c cc nL s args Ts own m G cy κ (AS S0 s.heap.size)) (hw : Wd G cy (AS S0 s.heap.size) s.heap S' H locs) (hr : meth.sig.returnType = some ty) (hlocks : meth.locks = false) (h1 : cells ≤ mc) (h2 : slots ≤ ms) (hv : narrow ty (.int v) = .int v) (hp : post v S') (hdg : decode cc pc = .ok (.ireturn, 1)) : W p l e R s m args below meth c H locs cells slots (MQ below (va_Qi post (Bw G cy S0 s.heap.size) (AS S0 s.heap.size)) args s mc ms (AS S0 s.heap.size)) (F0 m pc ls [.int v]) := by
  refine W.widen h1 h2 ?_
  exact W.zret X.1 X.2.1 hr hv (fun t ht hW => ⟨⟨v, S', rfl, hp, by rw [ht]; exact hw.1, hw.2.1⟩, hw.2.2.F ht⟩) hw.2.2.2.2 hdg hlocks
end SROWS
set_option maxRecDepth 20000 in
theorem ggX10_readInto_X10_forgetFault : GoodIn wsX10_readInto wsX10_forgetFault := goodIn_h _ [8, 0, 0, 139, 0, 0, 0, 0, 0, 0] [0, 1, 2, 3, 4, 5, 6, 7, 8, 9] (by decide +kernel) (by decide +kernel)
set_option maxRecDepth 20000 in
theorem gX10_readInto_X10_forgetFault : GoodIn wsX10_readInto (wsV RX10 25 RX10 yX10_forgetFault wsX10_forgetFault) := goodIn_app (goodIn_of _ (by decide +kernel)) ggX10_readInto_X10_forgetFault
set_option maxRecDepth 20000 in
theorem ggX10_readInto_X10_advance : GoodIn wsX10_readInto wsX10_advance := goodIn_h _ [2, 0, 3, 6, 0, 0, 0, 0, 0, 0, 0, 0, 0, 0, 0, 0, 0, 0, 0, 0, 0, 0, 0, 116, 0, 0, 0, 0, 0, 0] [3, 0, 4, 5, 1, 6, 7, 8, 2, 9, 10, 11, 12, 13, 14, 15, 16, 17, 18, 19, 20, 21, 22, 23, 24, 25, 26, 27, 28, 29] (by decide +kernel) (by decide +kernel)
set_option maxRecDepth 20000 in
theorem gX10_readInto_X10_advance : GoodIn wsX10_readInto (wsV RX10 34 RX10 yX10_advance wsX10_advance) := goodIn_app (goodIn_of _ (by decide +kernel)) ggX10_readInto_X10_advance
set_option maxRecDepth 20000 in
theorem ggX10_readInto_X10_readRule : GoodIn wsX10_readInto wsX10_readRule := goodIn_h _ [1, 0, 0, 3, 1, 0, 0, 0, 0, 0, 0, 0, 0, 0, 0, 0, 0, 0, 0, 0, 0, 0, 0, 0, 0, 0, 0, 0, 0, 3, 0, 0, 0, 0, 0, 0, 0, 0, 0, 0, 0, 0, 0, 0, 0, 0, 0, 0, 0, 0, 0, 0, 0, 0, 0, 0, 0, 0, 0, 0, 0, 0, 0, 0, 0, 0, 0, 0, 0, 0, 0, 0, 0, 0, 0, 0, 0, 0, 0, 0, 0, 0, 0, 0, 0, 0, 0, 0, 0, 0, 0, 0, 0, 0, 0, 0, 0, 0, 0, 0, 0, 0, 0, 0, 0, 0, 0, 0, 0, 0, 0, 0, 0, 0, 0, 0, 0, 0, 0, 0, 0, 0, 0, 0, 0, 0, 0, 0, 0, 0, 0, 0, 0, 0, 0, 0, 0, 0, 0, 0, 0, 0, 0, 0, 0, 0, 0, 0, 0] [29, 0, 30, 31, 32, 3, 33, 2, 1, 10, 34, 35, 36, 37, 38, 39, 40, 41, 42, 43, 44, 45, 12, 13, 14, 15, 11, 16, 46, 47, 48, 49, 50, 51, 52, 53, 54, 55, 56, 57, 58, 59, 60, 61, 62, 63, 64, 65, 66, 67, 68, 69, 70, 71, 72, 73, 74, 75, 76, 77, 78, 79, 80, 81, 82, 83, 84, 85, 86, 87, 88, 89, 90, 4, 5, 91, 92, 93, 94, 95, 96, 97, 6, 7, 8, 9, 17, 18, 19, 20, 21, 22, 23, 24, 25, 26, 27, 28, 98, 99, 100, 101, 102, 103, 104, 105, 106, 107, 108, 109, 110, 111, 112, 113, 114, 115, 116, 117, 118, 119, 120, 121, 122, 123, 124, 125, 126, 127, 128, 129, 130, 131, 132, 133, 134, 135, 136, 137, 138, 139, 140, 141, 142, 143, 144, 145, 146, 147, 148] (by decide +kernel) (by decide +kernel)
set_option maxRecDepth 20000 in
theorem gX10_readInto_X10_readRule : GoodIn wsX10_readInto (wsV RX10 40 RX10 yX10_readRule wsX10_readRule) := goodIn_app (goodIn_of _ (by decide +kernel)) ggX10_readInto_X10_readRule
theorem dX10_readInto_0 : decode cX10_readInto 0 = .ok (.aload_n 0, 1) := by decide +kernel
theorem dX10_readInto_1 : decode cX10_readInto 1 = .ok (.invokevirtual 25, 3) := by decide +kernel
theorem dX10_readInto_4 : decode cX10_readInto 4 = .ok (.aload_n 1, 1) := by decide +kernel
theorem dX10_readInto_5 : decode cX10_readInto 5 = .ok (.iconst 0, 1) := by decide +kernel
theorem dX10_readInto_6 : decode cX10_readInto 6 = .ok (.putfield 28, 3) := by decide +kernel
theorem dX10_readInto_9 : decode cX10_readInto 9 = .ok (.aload_n 0, 1) := by decide +kernel
theorem dX10_readInto_10 : decode cX10_readInto 10 = .ok (.iconst 0, 1) := by decide +kernel
theorem dX10_readInto_11 : decode cX10_readInto 11 = .ok (.putfield 31, 3) := by decide +kernel
theorem dX10_readInto_14 : decode cX10_readInto 14 = .ok (.aload_n 0, 1) := by decide +kernel
theorem dX10_readInto_15 : decode cX10_readInto 15 = .ok (.invokevirtual 34, 3) := by decide +kernel
theorem dX10_readInto_18 : decode cX10_readInto 18 = .ok (.iconst 0, 1) := by decide +kernel
theorem dX10_readInto_19 : decode cX10_readInto 19 = .ok (.istore_n 2, 1) := by decide +kernel
theorem dX10_readInto_20 : decode cX10_readInto 20 = .ok (.iload_n 2, 1) := by decide +kernel
theorem dX10_readInto_21 : decode cX10_readInto 21 = .ok (.bipush 12, 2) := by decide +kernel
theorem dX10_readInto_23 : decode cX10_readInto 23 = .ok (.if_icmp .gt 26, 3) := by decide +kernel
theorem dX10_readInto_26 : decode cX10_readInto 26 = .ok (.aload_n 0, 1) := by decide +kernel
theorem dX10_readInto_27 : decode cX10_readInto 27 = .ok (.getfield 37, 3) := by decide +kernel
theorem dX10_readInto_30 : decode cX10_readInto 30 = .ok (.ifCond .eq 19, 3) := by decide +kernel
theorem dX10_readInto_33 : decode cX10_readInto 33 = .ok (.aload_n 0, 1) := by decide +kernel
theorem dX10_readInto_34 : decode cX10_readInto 34 = .ok (.aload_n 1, 1) := by decide +kernel
theorem dX10_readInto_35 : decode cX10_readInto 35 = .ok (.invokevirtual 40, 3) := by decide +kernel
theorem dX10_readInto_38 : decode cX10_readInto 38 = .ok (.ifCond .ne 5, 3) := by decide +kernel
theorem dX10_readInto_41 : decode cX10_readInto 41 = .ok (.iconst 0, 1) := by decide +kernel
theorem dX10_readInto_42 : decode cX10_readInto 42 = .ok (.ireturn, 1) := by decide +kernel
theorem dX10_readInto_43 : decode cX10_readInto 43 = .ok (.iinc 2 1, 3) := by decide +kernel
theorem dX10_readInto_46 : decode cX10_readInto 46 = .ok (.goto (-26), 3) := by decide +kernel
theorem dX10_readInto_49 : decode cX10_readInto 49 = .ok (.iconst 1, 1) := by decide +kernel
theorem dX10_readInto_50 : decode cX10_readInto 50 = .ok (.ireturn, 1) := by decide +kernel
set_option maxRecDepth 20000 in
theorem ggX10_readRule_X10_isWord : GoodIn wsX10_readRule wsX10_isWord := goodIn_h _ [5, 0, 0, 0, 0, 0, 0, 0, 0, 0, 0, 0, 0, 0, 0, 0, 0, 0, 0, 0, 0, 0, 0, 0, 0, 0, 0, 0, 0, 0, 0, 0, 0, 0, 0, 0, 0, 0, 0, 0, 0, 0, 0, 0, 0, 0, 0, 0, 0, 0, 0, 0, 0, 0, 0, 0, 0, 0, 0, 0, 77, 0, 0, 0, 0, 0, 0] [1, 2, 3, 4, 5, 6, 7, 8, 9, 10, 11, 12, 13, 14, 15, 16, 17, 18, 19, 0, 20, 21, 22, 23, 24, 25, 26, 27, 28, 29, 30, 31, 32, 33, 34, 35, 36, 37, 38, 39, 40, 41, 42, 43, 44, 45, 46, 47, 48, 49, 50, 51, 52, 53, 54, 55, 56, 57, 58, 59, 60, 61, 62, 63, 64, 65, 66] (by decide +kernel) (by decide +kernel)
set_option maxRecDepth 20000 in
theorem gX10_readRule_X10_isWord : GoodIn wsX10_readRule (wsV RX10 46 RX10 yX10_isWord wsX10_isWord) := goodIn_app (goodIn_of _ (by decide +kernel)) ggX10_readRule_X10_isWord
set_option maxRecDepth 20000 in
theorem ggX10_readRule_X10_actAtHand : GoodIn wsX10_readRule wsX10_actAtHand := goodIn_h _ [2, 0, 0, 0, 0, 0, 0, 0, 0, 0, 0, 0, 0, 0, 0, 0, 0, 0, 0, 0, 0, 0, 0, 0, 0, 0, 0, 0, 0, 0, 0, 0, 0, 0, 0, 0, 0, 0, 0, 0, 0, 0, 0, 0, 0, 0, 0, 0, 0, 0, 0, 0, 0, 0, 0, 0, 0, 0, 0, 0, 0, 0, 0, 3, 73, 0, 0, 0, 0, 0, 0] [63, 0, 1, 2, 3, 4, 5, 6, 7, 8, 9, 10, 11, 12, 13, 14, 15, 16, 17, 18, 19, 20, 21, 22, 23, 24, 25, 26, 27, 28, 29, 30, 31, 32, 33, 34, 35, 36, 37, 38, 39, 40, 41, 42, 43, 44, 45, 46, 47, 48, 49, 50, 51, 52, 53, 54, 55, 56, 57, 58, 59, 60, 61, 62, 64, 65, 66, 67, 68, 69, 70] (by decide +kernel) (by decide +kernel)
set_option maxRecDepth 20000 in
theorem gX10_readRule_X10_actAtHand : GoodIn wsX10_readRule (wsV RX10 50 RX10 yX10_actAtHand wsX10_actAtHand) := goodIn_app (goodIn_of _ (by decide +kernel)) ggX10_readRule_X10_actAtHand
set_option maxRecDepth 20000 in
theorem ggX10_readRule_X10_fail : GoodIn wsX10_readRule wsX10_fail := goodIn_h _ [9, 62, 0, 0, 67, 0, 0, 0, 0, 0, 0] [1, 2, 0, 3, 4, 5, 6, 7, 8, 9, 10] (by decide +kernel) (by decide +kernel)
set_option maxRecDepth 20000 in
theorem gX10_readRule_X10_fail : GoodIn wsX10_readRule (wsV RX10 54 RX10 yX10_fail wsX10_fail) := goodIn_app (goodIn_of _ (by decide +kernel)) ggX10_readRule_X10_fail
set_option maxRecDepth 20000 in
theorem ggX10_readRule_X6_openRule : GoodIn wsX10_readRule wsX6_openRule := goodIn_h _ [79, 0, 0, 53, 0, 0, 0, 0, 0, 0] [0, 1, 2, 3, 4, 5, 6, 7, 8, 9] (by decide +kernel) (by decide +kernel)
set_option maxRecDepth 20000 in
theorem gX10_readRule_X6_openRule : GoodIn wsX10_readRule (wsV RX10 58 RX6 yX6_openRule wsX6_openRule) := goodIn_app (goodIn_of _ (by decide +kernel)) ggX10_readRule_X6_openRule
set_option maxRecDepth 20000 in
theorem ggX10_readRule_X10_advance : GoodIn wsX10_readRule wsX10_advance := goodIn_h _ [5, 1, 0, 0, 12, 0, 0, 0, 0, 0, 57, 0, 0, 0, 0, 0, 0, 0, 0, 0, 0, 0, 0, 44, 0, 0, 0, 0, 0, 0] [10, 2, 3, 8, 1, 4, 5, 6, 0, 7, 9, 11, 12, 13, 14, 15, 16, 17, 18, 19, 20, 21, 22, 23, 24, 25, 26, 27, 28, 29] (by decide +kernel) (by decide +kernel)
set_option maxRecDepth 20000 in
theorem gX10_readRule_X10_advance : GoodIn wsX10_readRule (wsV RX10 34 RX10 yX10_advance wsX10_advance) := goodIn_app (goodIn_of _ (by decide +kernel)) ggX10_readRule_X10_advance
set_option maxRecDepth 20000 in
theorem ggX10_readRule_X10_readConditions : GoodIn wsX10_readRule wsX10_readConditions := goodIn_h _ [2, 0, 0, 0, 0, 0, 0, 0, 0, 0, 0, 0, 0, 0, 0, 0, 0, 0, 0, 0, 0, 0, 0, 0, 0, 0, 0, 0, 0, 0, 0, 0, 0, 0, 0, 0, 0, 0, 0, 0, 0, 0, 0, 0, 0, 0, 0, 0, 0, 0, 0, 0, 0, 0, 0, 0, 0, 0, 0, 0, 0, 0, 0, 4, 0, 0, 0, 0, 0, 3, 1, 0, 0, 0, 0, 0, 0, 0, 0, 0, 0, 0, 0, 0, 0, 0, 0, 0, 3, 0, 0, 0, 0, 0, 0, 0, 0, 0, 0, 0, 0, 0, 0, 0, 0, 0, 0, 0, 0, 0, 0, 0, 10, 0, 0, 0, 0, 0, 0, 0, 0, 0, 0, 0, 0, 0] [88, 89, 90, 91, 3, 92, 7, 5, 93, 94, 95, 96, 0, 1, 2, 4, 6, 8, 9, 10, 11, 12, 13, 14, 15, 16, 17, 18, 19, 20, 21, 22, 23, 24, 25, 26, 27, 28, 29, 30, 31, 32, 33, 34, 35, 36, 37, 38, 39, 40, 41, 42, 43, 44, 45, 46, 47, 48, 49, 50, 51, 52, 53, 54, 55, 56, 57, 58, 59, 60, 61, 62, 63, 64, 65, 66, 67, 68, 72, 73, 74, 75, 76, 77, 78, 79, 80, 81, 82, 83, 84, 85, 86, 87, 97, 98, 99, 100, 101, 102, 103, 104, 105, 106, 107, 69, 108, 70, 71, 109, 110, 111, 119, 120, 121, 122, 123, 124, 125, 112, 113, 114, 115, 116, 117, 118] (by decide +kernel) (by decide +kernel)
set_option maxRecDepth 20000 in
theorem gX10_readRule_X10_readConditions : GoodIn wsX10_readRule (wsV RX10 61 RX10 yX10_readConditions wsX10_readConditions) := goodIn_app (goodIn_of _ (by decide +kernel)) ggX10_readRule_X10_readConditions
set_option maxRecDepth 20000 in
theorem ggX10_readRule_X10_readAct : GoodIn wsX10_readRule wsX10_readAct := goodIn_h _ [2, 0, 0, 0, 0, 0, 0, 0, 0, 0, 0, 0, 0, 0, 0, 0, 0, 0, 0, 0, 0, 0, 0, 0, 0, 0, 0, 0, 0, 0, 0, 0, 0, 0, 0, 0, 0, 0, 0, 0, 0, 0, 0, 0, 0, 0, 0, 0, 0, 0, 0, 0, 0, 0, 0, 0, 0, 0, 0, 0, 0, 0, 0, 0, 0, 0, 0, 0, 0, 0, 0, 0, 0, 3, 1, 1, 0, 0, 0, 0, 0, 0, 0, 0, 0, 0, 0, 0, 0, 0, 0, 12, 0, 0, 0, 0, 0, 0, 0, 10, 0, 0, 0, 0, 0, 0, 0, 0, 0, 0, 0, 0, 0, 0, 0, 0, 0, 0, 0, 0] [99, 5, 63, 64, 65, 3, 66, 0, 1, 2, 4, 6, 7, 8, 9, 10, 11, 12, 13, 14, 15, 16, 17, 18, 19, 20, 21, 22, 23, 24, 25, 26, 27, 28, 29, 30, 31, 32, 33, 34, 35, 36, 37, 38, 39, 40, 41, 42, 43, 44, 45, 46, 47, 48, 49, 50, 51, 52, 53, 54, 55, 56, 57, 58, 59, 60, 61, 62, 67, 68, 69, 70, 71, 72, 75, 76, 77, 78, 79, 80, 81, 82, 83, 84, 85, 86, 87, 88, 89, 90, 95, 96, 97, 98, 91, 92, 93, 94, 100, 101, 102, 73, 103, 74, 104, 105, 113, 114, 115, 116, 117, 118, 119, 106, 107, 108, 109, 110, 111, 112] (by decide +kernel) (by decide +kernel)
set_option maxRecDepth 20000 in
theorem gX10_readRule_X10_readAct : GoodIn wsX10_readRule (wsV RX10 64 RX10 yX10_readAct wsX10_readAct) := goodIn_app (goodIn_of _ (by decide +kernel)) ggX10_readRule_X10_readAct
theorem dX10_readRule_0 : decode cX10_readRule 0 = .ok (.aload_n 0, 1) := by decide +kernel
theorem dX10_readRule_1 : decode cX10_readRule 1 = .ok (.ldc 44, 2) := by decide +kernel
theorem dX10_readRule_3 : decode cX10_readRule 3 = .ok (.invokevirtual 46, 3) := by decide +kernel
theorem dX10_readRule_6 : decode cX10_readRule 6 = .ok (.istore_n 2, 1) := by decide +kernel
theorem dX10_readRule_7 : decode cX10_readRule 7 = .ok (.iload_n 2, 1) := by decide +kernel
theorem dX10_readRule_8 : decode cX10_readRule 8 = .ok (.ifCond .ne 17, 3) := by decide +kernel
theorem dX10_readRule_11 : decode cX10_readRule 11 = .ok (.aload_n 0, 1) := by decide +kernel
theorem dX10_readRule_12 : decode cX10_readRule 12 = .ok (.invokevirtual 50, 3) := by decide +kernel
theorem dX10_readRule_15 : decode cX10_readRule 15 = .ok (.iconst (-1), 1) := by decide +kernel
theorem dX10_readRule_16 : decode cX10_readRule 16 = .ok (.if_icmp .ne 9, 3) := by decide +kernel
theorem dX10_readRule_19 : decode cX10_readRule 19 = .ok (.aload_n 0, 1) := by decide +kernel
theorem dX10_readRule_20 : decode cX10_readRule 20 = .ok (.iconst 1, 1) := by decide +kernel
theorem dX10_readRule_21 : decode cX10_readRule 21 = .ok (.invokevirtual 54, 3) := by decide +kernel
theorem dX10_readRule_24 : decode cX10_readRule 24 = .ok (.ireturn, 1) := by decide +kernel
theorem dX10_readRule_25 : decode cX10_readRule 25 = .ok (.aload_n 1, 1) := by decide +kernel
theorem dX10_readRule_26 : decode cX10_readRule 26 = .ok (.getfield 28, 3) := by decide +kernel
theorem dX10_readRule_29 : decode cX10_readRule 29 = .ok (.bipush 12, 2) := by decide +kernel
theorem dX10_readRule_31 : decode cX10_readRule 31 = .ok (.if_icmp .lt 9, 3) := by decide +kernel
theorem dX10_readRule_34 : decode cX10_readRule 34 = .ok (.aload_n 0, 1) := by decide +kernel
theorem dX10_readRule_35 : decode cX10_readRule 35 = .ok (.iconst 2, 1) := by decide +kernel
theorem dX10_readRule_36 : decode cX10_readRule 36 = .ok (.invokevirtual 54, 3) := by decide +kernel
theorem dX10_readRule_39 : decode cX10_readRule 39 = .ok (.ireturn, 1) := by decide +kernel
theorem dX10_readRule_40 : decode cX10_readRule 40 = .ok (.aload_n 1, 1) := by decide +kernel
theorem dX10_readRule_41 : decode cX10_readRule 41 = .ok (.invokevirtual 58, 3) := by decide +kernel
theorem dX10_readRule_44 : decode cX10_readRule 44 = .ok (.iload_n 2, 1) := by decide +kernel
theorem dX10_readRule_45 : decode cX10_readRule 45 = .ok (.ifCond .eq 17, 3) := by decide +kernel
theorem dX10_readRule_48 : decode cX10_readRule 48 = .ok (.aload_n 0, 1) := by decide +kernel
theorem dX10_readRule_49 : decode cX10_readRule 49 = .ok (.invokevirtual 34, 3) := by decide +kernel
theorem dX10_readRule_52 : decode cX10_readRule 52 = .ok (.aload_n 0, 1) := by decide +kernel
theorem dX10_readRule_53 : decode cX10_readRule 53 = .ok (.aload_n 1, 1) := by decide +kernel
theorem dX10_readRule_54 : decode cX10_readRule 54 = .ok (.invokevirtual 61, 3) := by decide +kernel
theorem dX10_readRule_57 : decode cX10_readRule 57 = .ok (.ifCond .ne 5, 3) := by decide +kernel
theorem dX10_readRule_60 : decode cX10_readRule 60 = .ok (.iconst 0, 1) := by decide +kernel
theorem dX10_readRule_61 : decode cX10_readRule 61 = .ok (.ireturn, 1) := by decide +kernel
theorem dX10_readRule_62 : decode cX10_readRule 62 = .ok (.aload_n 0, 1) := by decide +kernel
theorem dX10_readRule_63 : decode cX10_readRule 63 = .ok (.aload_n 1, 1) := by decide +kernel
theorem dX10_readRule_64 : decode cX10_readRule 64 = .ok (.invokevirtual 64, 3) := by decide +kernel
theorem dX10_readRule_67 : decode cX10_readRule 67 = .ok (.ireturn, 1) := by decide +kernel
set_option maxRecDepth 20000 in
theorem ggX10_readConditions_X10_readCondition : GoodIn wsX10_readConditions wsX10_readCondition := goodIn_h _ [4, 0, 0, 0, 0, 0, 0, 0, 0, 0, 0, 0, 0, 0, 0, 0, 0, 0, 0, 0, 0, 0, 0, 0, 0, 0, 0, 0, 0, 0, 0, 0, 0, 0, 0, 0, 0, 0, 0, 0, 0, 0, 0, 0, 0, 0, 0, 0, 0, 0, 0, 0, 0, 0, 0, 0, 0, 0, 0, 0, 0, 0, 0, 0, 0, 0, 0, 0, 0, 0, 0, 0, 0, 0, 0, 0, 0, 0, 0, 0, 0, 0, 0, 0, 0, 0, 0, 0, 0, 0, 0, 0, 0, 0, 0, 0, 0, 0, 0, 0, 0, 0, 0, 0, 0, 0, 0, 0, 0, 0, 0, 0, 0, 0, 0, 0, 0, 0, 0, 0, 0, 0] [1, 2, 3, 4, 5, 6, 0, 7, 8, 9, 10, 11, 12, 13, 14, 15, 16, 17, 18, 19, 20, 21, 22, 23, 24, 25, 26, 27, 28, 29, 30, 31, 32, 33, 34, 35, 36, 37, 38, 39, 40, 41, 42, 43, 44, 45, 46, 47, 48, 49, 50, 51, 52, 53, 54, 55, 56, 57, 58, 59, 60, 61, 62, 63, 64, 65, 66, 67, 68, 69, 70, 71, 72, 73, 74, 75, 76, 77, 78, 79, 80, 81, 82, 83, 84, 85, 86, 87, 88, 89, 90, 91, 92, 93, 94, 95, 96, 97, 98, 99, 100, 101, 102, 103, 104, 105, 106, 107, 108, 109, 110, 111, 112, 113, 114, 115, 116, 117, 118, 119, 120, 121] (by decide +kernel) (by decide +kernel)
set_option maxRecDepth 20000 in
theorem gX10_readConditions_X10_readCondition : GoodIn wsX10_readConditions (wsV RX10 67 RX10 yX10_readCondition wsX10_readCondition) := goodIn_app (goodIn_of _ (by decide +kernel)) ggX10_readConditions_X10_readCondition
set_option maxRecDepth 20000 in
theorem ggX10_readConditions_X10_isSign : GoodIn wsX10_readConditions wsX10_isSign := goodIn_h _ [4, 1, 0, 21, 0, 0, 0, 0, 0, 62, 14, 0, 0, 0, 0, 0, 0] [9, 2, 1, 3, 4, 5, 0, 6, 7, 8, 10, 11, 12, 13, 14, 15, 16] (by decide +kernel) (by decide +kernel)
set_option maxRecDepth 20000 in
theorem gX10_readConditions_X10_isSign : GoodIn wsX10_readConditions (wsV RX10 70 RX10 yX10_isSign wsX10_isSign) := goodIn_app (goodIn_of _ (by decide +kernel)) ggX10_readConditions_X10_isSign
set_option maxRecDepth 20000 in
theorem ggX10_readConditions_X10_advance : GoodIn wsX10_readConditions wsX10_advance := goodIn_h _ [4, 1, 0, 8, 12, 0, 0, 0, 0, 0, 46, 0, 0, 0, 0, 0, 0, 0, 0, 0, 0, 0, 0, 18, 0, 0, 0, 0, 0, 0] [10, 3, 1, 8, 2, 4, 5, 6, 0, 7, 9, 11, 12, 13, 14, 15, 16, 17, 18, 19, 20, 21, 22, 23, 24, 25, 26, 27, 28, 29] (by decide +kernel) (by decide +kernel)
set_option maxRecDepth 20000 in
theorem gX10_readConditions_X10_advance : GoodIn wsX10_readConditions (wsV RX10 34 RX10 yX10_advance wsX10_advance) := goodIn_app (goodIn_of _ (by decide +kernel)) ggX10_readConditions_X10_advance
set_option maxRecDepth 20000 in
theorem ggX10_readConditions_X10_isWord : GoodIn wsX10_readConditions wsX10_isWord := goodIn_h _ [4, 1, 0, 7, 0, 0, 0, 0, 0, 0, 0, 0, 0, 0, 0, 0, 0, 0, 0, 0, 0, 0, 0, 0, 0, 0, 0, 0, 0, 0, 0, 0, 0, 0, 0, 0, 0, 0, 0, 0, 0, 0, 0, 0, 0, 0, 0, 0, 0, 0, 0, 0, 0, 0, 0, 0, 0, 0, 0, 0, 40, 0, 0, 0, 0, 0, 0] [3, 2, 4, 1, 5, 6, 7, 8, 9, 10, 11, 12, 13, 14, 15, 16, 17, 18, 19, 0, 20, 21, 22, 23, 24, 25, 26, 27, 28, 29, 30, 31, 32, 33, 34, 35, 36, 37, 38, 39, 40, 41, 42, 43, 44, 45, 46, 47, 48, 49, 50, 51, 52, 53, 54, 55, 56, 57, 58, 59, 60, 61, 62, 63, 64, 65, 66] (by decide +kernel) (by decide +kernel)
set_option maxRecDepth 20000 in
theorem gX10_readConditions_X10_isWord : GoodIn wsX10_readConditions (wsV RX10 46 RX10 yX10_isWord wsX10_isWord) := goodIn_app (goodIn_of _ (by decide +kernel)) ggX10_readConditions_X10_isWord
set_option maxRecDepth 20000 in
theorem ggX10_readConditions_X10_fail : GoodIn wsX10_readConditions wsX10_fail := goodIn_h _ [6, 68, 0, 0, 34, 0, 0, 0, 0, 0, 0] [1, 2, 0, 3, 4, 5, 6, 7, 8, 9, 10] (by decide +kernel) (by decide +kernel)
set_option maxRecDepth 20000 in
theorem gX10_readConditions_X10_fail : GoodIn wsX10_readConditions (wsV RX10 54 RX10 yX10_fail wsX10_fail) := goodIn_app (goodIn_of _ (by decide +kernel)) ggX10_readConditions_X10_fail
set_option maxRecDepth 20000 in
theorem ggX10_readConditions_X10_fieldAtHand : GoodIn wsX10_readConditions wsX10_fieldAtHand := goodIn_h _ [4, 1, 0, 3, 0, 0, 0, 0, 0, 0, 0, 0, 0, 0, 0, 0, 0, 0, 0, 0, 0, 0, 0, 0, 0, 0, 0, 0, 0, 0, 0, 0, 0, 0, 0, 0, 0, 0, 0, 0, 0, 0, 0, 0, 0, 0, 0, 0, 0, 0, 0, 0, 0, 0, 0, 0, 0, 0, 0, 0, 0, 0, 0, 0, 40, 0, 0, 0, 0, 0, 0] [3, 4, 5, 6, 0, 7, 2, 8, 1, 9, 10, 11, 12, 13, 14, 15, 16, 17, 18, 19, 20, 21, 22, 23, 24, 25, 26, 27, 28, 29, 30, 31, 32, 33, 34, 35, 36, 37, 38, 39, 40, 41, 42, 43, 44, 45, 46, 47, 48, 49, 50, 51, 52, 53, 54, 55, 56, 57, 58, 59, 60, 61, 62, 63, 64, 65, 66, 67, 68, 69, 70] (by decide +kernel) (by decide +kernel)
set_option maxRecDepth 20000 in
theorem gX10_readConditions_X10_fieldAtHand : GoodIn wsX10_readConditions (wsV RX10 76 RX10 yX10_fieldAtHand wsX10_fieldAtHand) := goodIn_app (goodIn_of _ (by decide +kernel)) ggX10_readConditions_X10_fieldAtHand
theorem dX10_readConditions_0 : decode cX10_readConditions 0 = .ok (.iconst 0, 1) := by decide +kernel
theorem dX10_readConditions_1 : decode cX10_readConditions 1 = .ok (.istore_n 2, 1) := by decide +kernel
theorem dX10_readConditions_2 : decode cX10_readConditions 2 = .ok (.iload_n 2, 1) := by decide +kernel
theorem dX10_readConditions_3 : decode cX10_readConditions 3 = .ok (.iconst 4, 1) := by decide +kernel
theorem dX10_readConditions_4 : decode cX10_readConditions 4 = .ok (.if_icmp .ge 53, 3) := by decide +kernel
theorem dX10_readConditions_7 : decode cX10_readConditions 7 = .ok (.aload_n 0, 1) := by decide +kernel
theorem dX10_readConditions_8 : decode cX10_readConditions 8 = .ok (.aload_n 1, 1) := by decide +kernel
theorem dX10_readConditions_9 : decode cX10_readConditions 9 = .ok (.invokevirtual 67, 3) := by decide +kernel
theorem dX10_readConditions_12 : decode cX10_readConditions 12 = .ok (.ifCond .ne 5, 3) := by decide +kernel
theorem dX10_readConditions_15 : decode cX10_readConditions 15 = .ok (.iconst 0, 1) := by decide +kernel
theorem dX10_readConditions_16 : decode cX10_readConditions 16 = .ok (.ireturn, 1) := by decide +kernel
theorem dX10_readConditions_17 : decode cX10_readConditions 17 = .ok (.aload_n 0, 1) := by decide +kernel
theorem dX10_readConditions_18 : decode cX10_readConditions 18 = .ok (.bipush 58, 2) := by decide +kernel
theorem dX10_readConditions_20 : decode cX10_readConditions 20 = .ok (.invokevirtual 70, 3) := by decide +kernel
theorem dX10_readConditions_23 : decode cX10_readConditions 23 = .ok (.ifCond .eq 9, 3) := by decide +kernel
theorem dX10_readConditions_26 : decode cX10_readConditions 26 = .ok (.aload_n 0, 1) := by decide +kernel
theorem dX10_readConditions_27 : decode cX10_readConditions 27 = .ok (.invokevirtual 34, 3) := by decide +kernel
theorem dX10_readConditions_30 : decode cX10_readConditions 30 = .ok (.iconst 1, 1) := by decide +kernel
theorem dX10_readConditions_31 : decode cX10_readConditions 31 = .ok (.ireturn, 1) := by decide +kernel
theorem dX10_readConditions_32 : decode cX10_readConditions 32 = .ok (.aload_n 0, 1) := by decide +kernel
theorem dX10_readConditions_33 : decode cX10_readConditions 33 = .ok (.ldc 74, 2) := by decide +kernel
theorem dX10_readConditions_35 : decode cX10_readConditions 35 = .ok (.invokevirtual 46, 3) := by decide +kernel
theorem dX10_readConditions_38 : decode cX10_readConditions 38 = .ok (.ifCond .ne 9, 3) := by decide +kernel
theorem dX10_readConditions_41 : decode cX10_readConditions 41 = .ok (.aload_n 0, 1) := by decide +kernel
theorem dX10_readConditions_42 : decode cX10_readConditions 42 = .ok (.iconst 1, 1) := by decide +kernel
theorem dX10_readConditions_43 : decode cX10_readConditions 43 = .ok (.invokevirtual 54, 3) := by decide +kernel
theorem dX10_readConditions_46 : decode cX10_readConditions 46 = .ok (.ireturn, 1) := by decide +kernel
theorem dX10_readConditions_47 : decode cX10_readConditions 47 = .ok (.aload_n 0, 1) := by decide +kernel
theorem dX10_readConditions_48 : decode cX10_readConditions 48 = .ok (.invokevirtual 34, 3) := by decide +kernel
theorem dX10_readConditions_51 : decode cX10_readConditions 51 = .ok (.iinc 2 1, 3) := by decide +kernel
theorem dX10_readConditions_54 : decode cX10_readConditions 54 = .ok (.goto (-52), 3) := by decide +kernel
theorem dX10_readConditions_57 : decode cX10_readConditions 57 = .ok (.aload_n 0, 1) := by decide +kernel
theorem dX10_readConditions_58 : decode cX10_readConditions 58 = .ok (.aload_n 0, 1) := by decide +kernel
theorem dX10_readConditions_59 : decode cX10_readConditions 59 = .ok (.invokevirtual 76, 3) := by decide +kernel
theorem dX10_readConditions_62 : decode cX10_readConditions 62 = .ok (.iconst (-1), 1) := by decide +kernel
theorem dX10_readConditions_63 : decode cX10_readConditions 63 = .ok (.if_icmp .ne 7, 3) := by decide +kernel
theorem dX10_readConditions_66 : decode cX10_readConditions 66 = .ok (.iconst 1, 1) := by decide +kernel
theorem dX10_readConditions_67 : decode cX10_readConditions 67 = .ok (.goto 4, 3) := by decide +kernel
theorem dX10_readConditions_70 : decode cX10_readConditions 70 = .ok (.iconst 2, 1) := by decide +kernel
theorem dX10_readConditions_71 : decode cX10_readConditions 71 = .ok (.invokevirtual 54, 3) := by decide +kernel
theorem dX10_readConditions_74 : decode cX10_readConditions 74 = .ok (.ireturn, 1) := by decide +kernel
set_option maxRecDepth 20000 in
theorem ggX10_readCondition_X10_fieldAtHand : GoodIn wsX10_readCondition wsX10_fieldAtHand := goodIn_h _ [1, 0, 3, 0, 0, 0, 0, 0, 0, 0, 0, 0, 0, 0, 0, 0, 0, 0, 0, 0, 0, 0, 0, 0, 0, 0, 0, 0, 0, 0, 0, 0, 0, 0, 0, 0, 0, 0, 0, 0, 0, 0, 0, 0, 0, 0, 0, 0, 0, 0, 0, 0, 0, 0, 0, 0, 0, 0, 0, 0, 0, 0, 0, 0, 40, 0, 0, 0, 0, 0, 0] [3, 4, 5, 6, 2, 7, 1, 8, 0, 9, 10, 11, 12, 13, 14, 15, 16, 17, 18, 19, 20, 21, 22, 23, 24, 25, 26, 27, 28, 29, 30, 31, 32, 33, 34, 35, 36, 37, 38, 39, 40, 41, 42, 43, 44, 45, 46, 47, 48, 49, 50, 51, 52, 53, 54, 55, 56, 57, 58, 59, 60, 61, 62, 63, 64, 65, 66, 67, 68, 69, 70] (by decide +kernel) (by decide +kernel)
set_option maxRecDepth 20000 in
theorem gX10_readCondition_X10_fieldAtHand : GoodIn wsX10_readCondition (wsV RX10 76 RX10 yX10_fieldAtHand wsX10_fieldAtHand) := goodIn_app (goodIn_of _ (by decide +kernel)) ggX10_readCondition_X10_fieldAtHand
set_option maxRecDepth 20000 in
theorem ggX10_readCondition_X10_fail : GoodIn wsX10_readCondition wsX10_fail := goodIn_h _ [1, 69, 0, 0, 34, 0, 0, 0, 0, 0, 0] [1, 2, 0, 3, 4, 5, 6, 7, 8, 9, 10] (by decide +kernel) (by decide +kernel)
set_option maxRecDepth 20000 in
theorem gX10_readCondition_X10_fail : GoodIn wsX10_readCondition (wsV RX10 54 RX10 yX10_fail wsX10_fail) := goodIn_app (goodIn_of _ (by decide +kernel)) ggX10_readCondition_X10_fail
set_option maxRecDepth 20000 in
theorem ggX10_readCondition_X10_advance : GoodIn wsX10_readCondition wsX10_advance := goodIn_h _ [1, 0, 3, 5, 12, 0, 0, 0, 0, 0, 46, 0, 0, 0, 0, 0, 0, 0, 0, 0, 0, 0, 0, 18, 0, 0, 0, 0, 0, 0] [10, 3, 0, 8, 1, 4, 5, 6, 2, 7, 9, 11, 12, 13, 14, 15, 16, 17, 18, 19, 20, 21, 22, 23, 24, 25, 26, 27, 28, 29] (by decide +kernel) (by decide +kernel)
set_option maxRecDepth 20000 in
theorem gX10_readCondition_X10_advance : GoodIn wsX10_readCondition (wsV RX10 34 RX10 yX10_advance wsX10_advance) := goodIn_app (goodIn_of _ (by decide +kernel)) ggX10_readCondition_X10_advance
set_option maxRecDepth 20000 in
theorem ggX10_readCondition_X10_isSign : GoodIn wsX10_readCondition wsX10_isSign := goodIn_h _ [1, 0, 3, 18, 0, 0, 0, 0, 0, 62, 14, 0, 0, 0, 0, 0, 0] [9, 1, 0, 3, 4, 5, 2, 6, 7, 8, 10, 11, 12, 13, 14, 15, 16] (by decide +kernel) (by decide +kernel)
set_option maxRecDepth 20000 in
theorem gX10_readCondition_X10_isSign : GoodIn wsX10_readCondition (wsV RX10 70 RX10 yX10_isSign wsX10_isSign) := goodIn_app (goodIn_of _ (by decide +kernel)) ggX10_readCondition_X10_isSign
set_option maxRecDepth 20000 in
theorem ggX10_readCondition_X10_byteAt : GoodIn wsX10_readCondition wsX10_byteAt := goodIn_h _ [28, 0, 0, 77, 0, 0, 0, 0, 0, 0] [0, 1, 2, 3, 4, 5, 6, 7, 8, 9] (by decide +kernel) (by decide +kernel)
set_option maxRecDepth 20000 in
theorem gX10_readCondition_X10_byteAt : GoodIn wsX10_readCondition (wsV RX10 82 RX10 yX10_byteAt wsX10_byteAt) := goodIn_app (goodIn_of _ (by decide +kernel)) ggX10_readCondition_X10_byteAt
set_option maxRecDepth 20000 in
theorem ggX10_readCondition_X10_numberAtHand : GoodIn wsX10_readCondition wsX10_numberAtHand := goodIn_h _ [1, 4, 5, 12, 0, 0, 0, 0, 0, 66, 10, 0, 0, 0, 0, 0, 0] [9, 0, 2, 3, 4, 5, 1, 6, 7, 8, 10, 11, 12, 13, 14, 15, 16] (by decide +kernel) (by decide +kernel)
set_option maxRecDepth 20000 in
theorem gX10_readCondition_X10_numberAtHand : GoodIn wsX10_readCondition (wsV RX10 86 RX10 yX10_numberAtHand wsX10_numberAtHand) := goodIn_app (goodIn_of _ (by decide +kernel)) ggX10_readCondition_X10_numberAtHand
set_option maxRecDepth 20000 in
theorem ggX10_readCondition_X6_addCondition : GoodIn wsX10_readCondition wsX6_addCondition := goodIn_h _ [102, 0, 0, 0, 0, 0, 7, 0, 0, 0, 0, 0, 0] [0, 1, 2, 3, 4, 5, 6, 7, 8, 9, 10, 11, 12] (by decide +kernel) (by decide +kernel)
set_option maxRecDepth 20000 in
theorem gX10_readCondition_X6_addCondition : GoodIn wsX10_readCondition (wsV RX10 89 RX6 yX6_addCondition wsX6_addCondition) := goodIn_app (goodIn_of _ (by decide +kernel)) ggX10_readCondition_X6_addCondition
theorem dX10_readCondition_0 : decode cX10_readCondition 0 = .ok (.aload_n 0, 1) := by decide +kernel
theorem dX10_readCondition_1 : decode cX10_readCondition 1 = .ok (.invokevirtual 76, 3) := by decide +kernel
theorem dX10_readCondition_4 : decode cX10_readCondition 4 = .ok (.istore_n 2, 1) := by decide +kernel
theorem dX10_readCondition_5 : decode cX10_readCondition 5 = .ok (.iload_n 2, 1) := by decide +kernel
theorem dX10_readCondition_6 : decode cX10_readCondition 6 = .ok (.iconst (-1), 1) := by decide +kernel
theorem dX10_readCondition_7 : decode cX10_readCondition 7 = .ok (.if_icmp .ne 9, 3) := by decide +kernel
theorem dX10_readCondition_10 : decode cX10_readCondition 10 = .ok (.aload_n 0, 1) := by decide +kernel
theorem dX10_readCondition_11 : decode cX10_readCondition 11 = .ok (.iconst 1, 1) := by decide +kernel
theorem dX10_readCondition_12 : decode cX10_readCondition 12 = .ok (.invokevirtual 54, 3) := by decide +kernel
theorem dX10_readCondition_15 : decode cX10_readCondition 15 = .ok (.ireturn, 1) := by decide +kernel
theorem dX10_readCondition_16 : decode cX10_readCondition 16 = .ok (.aload_n 0, 1) := by decide +kernel
theorem dX10_readCondition_17 : decode cX10_readCondition 17 = .ok (.invokevirtual 34, 3) := by decide +kernel
theorem dX10_readCondition_20 : decode cX10_readCondition 20 = .ok (.aload_n 0, 1) := by decide +kernel
theorem dX10_readCondition_21 : decode cX10_readCondition 21 = .ok (.bipush 60, 2) := by decide +kernel
theorem dX10_readCondition_23 : decode cX10_readCondition 23 = .ok (.invokevirtual 70, 3) := by decide +kernel
theorem dX10_readCondition_26 : decode cX10_readCondition 26 = .ok (.ifCond .ne 27, 3) := by decide +kernel
theorem dX10_readCondition_29 : decode cX10_readCondition 29 = .ok (.aload_n 0, 1) := by decide +kernel
theorem dX10_readCondition_30 : decode cX10_readCondition 30 = .ok (.bipush 61, 2) := by decide +kernel
theorem dX10_readCondition_32 : decode cX10_readCondition 32 = .ok (.invokevirtual 70, 3) := by decide +kernel
theorem dX10_readCondition_35 : decode cX10_readCondition 35 = .ok (.ifCond .ne 18, 3) := by decide +kernel
theorem dX10_readCondition_38 : decode cX10_readCondition 38 = .ok (.aload_n 0, 1) := by decide +kernel
theorem dX10_readCondition_39 : decode cX10_readCondition 39 = .ok (.bipush 62, 2) := by decide +kernel
theorem dX10_readCondition_41 : decode cX10_readCondition 41 = .ok (.invokevirtual 70, 3) := by decide +kernel
theorem dX10_readCondition_44 : decode cX10_readCondition 44 = .ok (.ifCond .ne 9, 3) := by decide +kernel
theorem dX10_readCondition_47 : decode cX10_readCondition 47 = .ok (.aload_n 0, 1) := by decide +kernel
theorem dX10_readCondition_48 : decode cX10_readCondition 48 = .ok (.iconst 1, 1) := by decide +kernel
theorem dX10_readCondition_49 : decode cX10_readCondition 49 = .ok (.invokevirtual 54, 3) := by decide +kernel
theorem dX10_readCondition_52 : decode cX10_readCondition 52 = .ok (.ireturn, 1) := by decide +kernel
theorem dX10_readCondition_53 : decode cX10_readCondition 53 = .ok (.aload_n 0, 1) := by decide +kernel
theorem dX10_readCondition_54 : decode cX10_readCondition 54 = .ok (.aload_n 0, 1) := by decide +kernel
theorem dX10_readCondition_55 : decode cX10_readCondition 55 = .ok (.getfield 79, 3) := by decide +kernel
theorem dX10_readCondition_58 : decode cX10_readCondition 58 = .ok (.invokevirtual 82, 3) := by decide +kernel
theorem dX10_readCondition_61 : decode cX10_readCondition 61 = .ok (.istore_n 3, 1) := by decide +kernel
theorem dX10_readCondition_62 : decode cX10_readCondition 62 = .ok (.aload_n 0, 1) := by decide +kernel
theorem dX10_readCondition_63 : decode cX10_readCondition 63 = .ok (.invokevirtual 34, 3) := by decide +kernel
theorem dX10_readCondition_66 : decode cX10_readCondition 66 = .ok (.aload_n 0, 1) := by decide +kernel
theorem dX10_readCondition_67 : decode cX10_readCondition 67 = .ok (.getfield 37, 3) := by decide +kernel
theorem dX10_readCondition_70 : decode cX10_readCondition 70 = .ok (.iconst 2, 1) := by decide +kernel
theorem dX10_readCondition_71 : decode cX10_readCondition 71 = .ok (.if_icmp .eq 9, 3) := by decide +kernel
theorem dX10_readCondition_74 : decode cX10_readCondition 74 = .ok (.aload_n 0, 1) := by decide +kernel
theorem dX10_readCondition_75 : decode cX10_readCondition 75 = .ok (.iconst 1, 1) := by decide +kernel
theorem dX10_readCondition_76 : decode cX10_readCondition 76 = .ok (.invokevirtual 54, 3) := by decide +kernel
theorem dX10_readCondition_79 : decode cX10_readCondition 79 = .ok (.ireturn, 1) := by decide +kernel
theorem dX10_readCondition_80 : decode cX10_readCondition 80 = .ok (.aload_n 1, 1) := by decide +kernel
theorem dX10_readCondition_81 : decode cX10_readCondition 81 = .ok (.iload_n 2, 1) := by decide +kernel
theorem dX10_readCondition_82 : decode cX10_readCondition 82 = .ok (.iload_n 3, 1) := by decide +kernel
theorem dX10_readCondition_83 : decode cX10_readCondition 83 = .ok (.aload_n 0, 1) := by decide +kernel
theorem dX10_readCondition_84 : decode cX10_readCondition 84 = .ok (.invokevirtual 86, 3) := by decide +kernel
theorem dX10_readCondition_87 : decode cX10_readCondition 87 = .ok (.invokevirtual 89, 3) := by decide +kernel
theorem dX10_readCondition_90 : decode cX10_readCondition 90 = .ok (.aload_n 0, 1) := by decide +kernel
theorem dX10_readCondition_91 : decode cX10_readCondition 91 = .ok (.invokevirtual 34, 3) := by decide +kernel
theorem dX10_readCondition_94 : decode cX10_readCondition 94 = .ok (.iconst 1, 1) := by decide +kernel
theorem dX10_readCondition_95 : decode cX10_readCondition 95 = .ok (.ireturn, 1) := by decide +kernel
set_option maxRecDepth 20000 in
theorem ggX10_readAct_X10_actAtHand : GoodIn wsX10_readAct wsX10_actAtHand := goodIn_h _ [1, 3, 0, 0, 0, 0, 0, 0, 0, 0, 0, 0, 0, 0, 0, 0, 0, 0, 0, 0, 0, 0, 0, 0, 0, 0, 0, 0, 0, 0, 0, 0, 0, 0, 0, 0, 0, 0, 0, 0, 0, 0, 0, 0, 0, 0, 0, 0, 0, 0, 0, 0, 0, 0, 0, 0, 0, 0, 0, 0, 0, 0, 0, 0, 38, 0, 0, 0, 0, 0, 0] [2, 3, 4, 5, 1, 6, 0, 7, 8, 9, 10, 11, 12, 13, 14, 15, 16, 17, 18, 19, 20, 21, 22, 23, 24, 25, 26, 27, 28, 29, 30, 31, 32, 33, 34, 35, 36, 37, 38, 39, 40, 41, 42, 43, 44, 45, 46, 47, 48, 49, 50, 51, 52, 53, 54, 55, 56, 57, 58, 59, 60, 61, 62, 63, 64, 65, 66, 67, 68, 69, 70] (by decide +kernel) (by decide +kernel)
set_option maxRecDepth 20000 in
theorem gX10_readAct_X10_actAtHand : GoodIn wsX10_readAct (wsV RX10 50 RX10 yX10_actAtHand wsX10_actAtHand) := goodIn_app (goodIn_of _ (by decide +kernel)) ggX10_readAct_X10_actAtHand
set_option maxRecDepth 20000 in
theorem ggX10_readAct_X10_fail : GoodIn wsX10_readAct wsX10_fail := goodIn_h _ [12, 58, 0, 0, 32, 0, 0, 0, 0, 0, 0] [1, 2, 0, 3, 4, 5, 6, 7, 8, 9, 10] (by decide +kernel) (by decide +kernel)
set_option maxRecDepth 20000 in
theorem gX10_readAct_X10_fail : GoodIn wsX10_readAct (wsV RX10 54 RX10 yX10_fail wsX10_fail) := goodIn_app (goodIn_of _ (by decide +kernel)) ggX10_readAct_X10_fail
set_option maxRecDepth 20000 in
theorem ggX10_readAct_X10_advance : GoodIn wsX10_readAct wsX10_advance := goodIn_h _ [1, 3, 5, 0, 12, 0, 0, 0, 0, 0, 46, 0, 0, 0, 0, 0, 0, 0, 0, 0, 0, 0, 0, 16, 0, 0, 0, 0, 0, 0] [10, 2, 3, 8, 0, 4, 5, 6, 1, 7, 9, 11, 12, 13, 14, 15, 16, 17, 18, 19, 20, 21, 22, 23, 24, 25, 26, 27, 28, 29] (by decide +kernel) (by decide +kernel)
set_option maxRecDepth 20000 in
theorem gX10_readAct_X10_advance : GoodIn wsX10_readAct (wsV RX10 34 RX10 yX10_advance wsX10_advance) := goodIn_app (goodIn_of _ (by decide +kernel)) ggX10_readAct_X10_advance
set_option maxRecDepth 20000 in
theorem ggX10_readAct_X10_numberAtHand : GoodIn wsX10_readAct wsX10_numberAtHand := goodIn_h _ [5, 5, 0, 12, 0, 0, 0, 0, 0, 62, 12, 0, 0, 0, 0, 0, 0] [9, 2, 1, 3, 4, 5, 0, 6, 7, 8, 10, 11, 12, 13, 14, 15, 16] (by decide +kernel) (by decide +kernel)
set_option maxRecDepth 20000 in
theorem gX10_readAct_X10_numberAtHand : GoodIn wsX10_readAct (wsV RX10 86 RX10 yX10_numberAtHand wsX10_numberAtHand) := goodIn_app (goodIn_of _ (by decide +kernel)) ggX10_readAct_X10_numberAtHand
set_option maxRecDepth 20000 in
theorem ggX10_readAct_X10_isSign : GoodIn wsX10_readAct wsX10_isSign := goodIn_h _ [1, 3, 6, 12, 0, 0, 0, 0, 0, 66, 8, 0, 0, 0, 0, 0, 0] [9, 0, 2, 3, 4, 5, 1, 6, 7, 8, 10, 11, 12, 13, 14, 15, 16] (by decide +kernel) (by decide +kernel)
set_option maxRecDepth 20000 in
theorem gX10_readAct_X10_isSign : GoodIn wsX10_readAct (wsV RX10 70 RX10 yX10_isSign wsX10_isSign) := goodIn_app (goodIn_of _ (by decide +kernel)) ggX10_readAct_X10_isSign
set_option maxRecDepth 20000 in
theorem ggX10_readAct_X6_closeRule : GoodIn wsX10_readAct wsX6_closeRule := goodIn_h _ [102, 0, 0, 0, 7, 0, 0, 0, 0, 0, 0] [0, 1, 2, 3, 4, 5, 6, 7, 8, 9, 10] (by decide +kernel) (by decide +kernel)
set_option maxRecDepth 20000 in
theorem gX10_readAct_X6_closeRule : GoodIn wsX10_readAct (wsV RX10 93 RX6 yX6_closeRule wsX6_closeRule) := goodIn_app (goodIn_of _ (by decide +kernel)) ggX10_readAct_X6_closeRule
theorem dX10_readAct_0 : decode cX10_readAct 0 = .ok (.aload_n 0, 1) := by decide +kernel
theorem dX10_readAct_1 : decode cX10_readAct 1 = .ok (.invokevirtual 50, 3) := by decide +kernel
theorem dX10_readAct_4 : decode cX10_readAct 4 = .ok (.istore_n 2, 1) := by decide +kernel
theorem dX10_readAct_5 : decode cX10_readAct 5 = .ok (.iload_n 2, 1) := by decide +kernel
theorem dX10_readAct_6 : decode cX10_readAct 6 = .ok (.iconst (-1), 1) := by decide +kernel
theorem dX10_readAct_7 : decode cX10_readAct 7 = .ok (.if_icmp .ne 9, 3) := by decide +kernel
theorem dX10_readAct_10 : decode cX10_readAct 10 = .ok (.aload_n 0, 1) := by decide +kernel
theorem dX10_readAct_11 : decode cX10_readAct 11 = .ok (.iconst 1, 1) := by decide +kernel
theorem dX10_readAct_12 : decode cX10_readAct 12 = .ok (.invokevirtual 54, 3) := by decide +kernel
theorem dX10_readAct_15 : decode cX10_readAct 15 = .ok (.ireturn, 1) := by decide +kernel
theorem dX10_readAct_16 : decode cX10_readAct 16 = .ok (.aload_n 0, 1) := by decide +kernel
theorem dX10_readAct_17 : decode cX10_readAct 17 = .ok (.invokevirtual 34, 3) := by decide +kernel
theorem dX10_readAct_20 : decode cX10_readAct 20 = .ok (.iconst 0, 1) := by decide +kernel
theorem dX10_readAct_21 : decode cX10_readAct 21 = .ok (.istore_n 3, 1) := by decide +kernel
theorem dX10_readAct_22 : decode cX10_readAct 22 = .ok (.iload_n 2, 1) := by decide +kernel
theorem dX10_readAct_23 : decode cX10_readAct 23 = .ok (.iconst 5, 1) := by decide +kernel
theorem dX10_readAct_24 : decode cX10_readAct 24 = .ok (.if_icmp .ne 26, 3) := by decide +kernel
theorem dX10_readAct_27 : decode cX10_readAct 27 = .ok (.aload_n 0, 1) := by decide +kernel
theorem dX10_readAct_28 : decode cX10_readAct 28 = .ok (.getfield 37, 3) := by decide +kernel
theorem dX10_readAct_31 : decode cX10_readAct 31 = .ok (.iconst 2, 1) := by decide +kernel
theorem dX10_readAct_32 : decode cX10_readAct 32 = .ok (.if_icmp .eq 9, 3) := by decide +kernel
theorem dX10_readAct_35 : decode cX10_readAct 35 = .ok (.aload_n 0, 1) := by decide +kernel
theorem dX10_readAct_36 : decode cX10_readAct 36 = .ok (.iconst 1, 1) := by decide +kernel
theorem dX10_readAct_37 : decode cX10_readAct 37 = .ok (.invokevirtual 54, 3) := by decide +kernel
theorem dX10_readAct_40 : decode cX10_readAct 40 = .ok (.ireturn, 1) := by decide +kernel
theorem dX10_readAct_41 : decode cX10_readAct 41 = .ok (.aload_n 0, 1) := by decide +kernel
theorem dX10_readAct_42 : decode cX10_readAct 42 = .ok (.invokevirtual 86, 3) := by decide +kernel
theorem dX10_readAct_45 : decode cX10_readAct 45 = .ok (.istore_n 3, 1) := by decide +kernel
theorem dX10_readAct_46 : decode cX10_readAct 46 = .ok (.aload_n 0, 1) := by decide +kernel
theorem dX10_readAct_47 : decode cX10_readAct 47 = .ok (.invokevirtual 34, 3) := by decide +kernel
theorem dX10_readAct_50 : decode cX10_readAct 50 = .ok (.aload_n 0, 1) := by decide +kernel
theorem dX10_readAct_51 : decode cX10_readAct 51 = .ok (.bipush 59, 2) := by decide +kernel
theorem dX10_readAct_53 : decode cX10_readAct 53 = .ok (.invokevirtual 70, 3) := by decide +kernel
theorem dX10_readAct_56 : decode cX10_readAct 56 = .ok (.ifCond .ne 9, 3) := by decide +kernel
theorem dX10_readAct_59 : decode cX10_readAct 59 = .ok (.aload_n 0, 1) := by decide +kernel
theorem dX10_readAct_60 : decode cX10_readAct 60 = .ok (.iconst 1, 1) := by decide +kernel
theorem dX10_readAct_61 : decode cX10_readAct 61 = .ok (.invokevirtual 54, 3) := by decide +kernel
theorem dX10_readAct_64 : decode cX10_readAct 64 = .ok (.ireturn, 1) := by decide +kernel
theorem dX10_readAct_65 : decode cX10_readAct 65 = .ok (.aload_n 0, 1) := by decide +kernel
theorem dX10_readAct_66 : decode cX10_readAct 66 = .ok (.invokevirtual 34, 3) := by decide +kernel
theorem dX10_readAct_69 : decode cX10_readAct 69 = .ok (.aload_n 1, 1) := by decide +kernel
theorem dX10_readAct_70 : decode cX10_readAct 70 = .ok (.iload_n 2, 1) := by decide +kernel
theorem dX10_readAct_71 : decode cX10_readAct 71 = .ok (.iload_n 3, 1) := by decide +kernel
theorem dX10_readAct_72 : decode cX10_readAct 72 = .ok (.invokevirtual 93, 3) := by decide +kernel
theorem dX10_readAct_75 : decode cX10_readAct 75 = .ok (.iconst 1, 1) := by decide +kernel
theorem dX10_readAct_76 : decode cX10_readAct 76 = .ok (.ireturn, 1) := by decide +kernel
set_option maxRecDepth 20000 in
theorem ggX10_fieldAtHand_X10_isWord : GoodIn wsX10_fieldAtHand wsX10_isWord := goodIn_h _ [4, 0, 0, 0, 0, 0, 0, 0, 0, 0, 0, 0, 0, 0, 0, 0, 0, 0, 0, 0, 0, 0, 0, 0, 0, 0, 0, 0, 0, 0, 0, 0, 0, 0, 0, 0, 0, 0, 0, 0, 0, 0, 0, 0, 0, 0, 0, 0, 0, 0, 0, 0, 0, 0, 0, 0, 0, 0, 0, 0, 0, 0, 0, 0, 0, 0, 0] [1, 2, 3, 4, 5, 6, 7, 8, 9, 10, 11, 12, 13, 14, 15, 16, 17, 18, 19, 0, 20, 21, 22, 23, 24, 25, 26, 27, 28, 29, 30, 31, 32, 33, 34, 35, 36, 37, 38, 39, 40, 41, 42, 43, 44, 45, 46, 47, 48, 49, 50, 51, 52, 53, 54, 55, 56, 57, 58, 59, 60, 61, 62, 63, 64, 65, 66] (by decide +kernel) (by decide +kernel)
set_option maxRecDepth 20000 in
theorem gX10_fieldAtHand_X10_isWord : GoodIn wsX10_fieldAtHand (wsV RX10 46 RX10 yX10_isWord wsX10_isWord) := goodIn_app (goodIn_of _ (by decide +kernel)) ggX10_fieldAtHand_X10_isWord
theorem dX10_fieldAtHand_0 : decode cX10_fieldAtHand 0 = .ok (.aload_n 0, 1) := by decide +kernel
theorem dX10_fieldAtHand_1 : decode cX10_fieldAtHand 1 = .ok (.ldc 97, 2) := by decide +kernel
theorem dX10_fieldAtHand_3 : decode cX10_fieldAtHand 3 = .ok (.invokevirtual 46, 3) := by decide +kernel
theorem dX10_fieldAtHand_6 : decode cX10_fieldAtHand 6 = .ok (.ifCond .eq 5, 3) := by decide +kernel
theorem dX10_fieldAtHand_9 : decode cX10_fieldAtHand 9 = .ok (.iconst 0, 1) := by decide +kernel
theorem dX10_fieldAtHand_10 : decode cX10_fieldAtHand 10 = .ok (.ireturn, 1) := by decide +kernel
theorem dX10_fieldAtHand_11 : decode cX10_fieldAtHand 11 = .ok (.aload_n 0, 1) := by decide +kernel
theorem dX10_fieldAtHand_12 : decode cX10_fieldAtHand 12 = .ok (.ldc 99, 2) := by decide +kernel
theorem dX10_fieldAtHand_14 : decode cX10_fieldAtHand 14 = .ok (.invokevirtual 46, 3) := by decide +kernel
theorem dX10_fieldAtHand_17 : decode cX10_fieldAtHand 17 = .ok (.ifCond .eq 5, 3) := by decide +kernel
theorem dX10_fieldAtHand_20 : decode cX10_fieldAtHand 20 = .ok (.iconst 1, 1) := by decide +kernel
theorem dX10_fieldAtHand_21 : decode cX10_fieldAtHand 21 = .ok (.ireturn, 1) := by decide +kernel
theorem dX10_fieldAtHand_22 : decode cX10_fieldAtHand 22 = .ok (.aload_n 0, 1) := by decide +kernel
theorem dX10_fieldAtHand_23 : decode cX10_fieldAtHand 23 = .ok (.ldc 101, 2) := by decide +kernel
theorem dX10_fieldAtHand_25 : decode cX10_fieldAtHand 25 = .ok (.invokevirtual 46, 3) := by decide +kernel
theorem dX10_fieldAtHand_28 : decode cX10_fieldAtHand 28 = .ok (.ifCond .eq 5, 3) := by decide +kernel
theorem dX10_fieldAtHand_31 : decode cX10_fieldAtHand 31 = .ok (.iconst 2, 1) := by decide +kernel
theorem dX10_fieldAtHand_32 : decode cX10_fieldAtHand 32 = .ok (.ireturn, 1) := by decide +kernel
theorem dX10_fieldAtHand_33 : decode cX10_fieldAtHand 33 = .ok (.aload_n 0, 1) := by decide +kernel
theorem dX10_fieldAtHand_34 : decode cX10_fieldAtHand 34 = .ok (.ldc 103, 2) := by decide +kernel
theorem dX10_fieldAtHand_36 : decode cX10_fieldAtHand 36 = .ok (.invokevirtual 46, 3) := by decide +kernel
theorem dX10_fieldAtHand_39 : decode cX10_fieldAtHand 39 = .ok (.ifCond .eq 5, 3) := by decide +kernel
theorem dX10_fieldAtHand_42 : decode cX10_fieldAtHand 42 = .ok (.iconst 3, 1) := by decide +kernel
theorem dX10_fieldAtHand_43 : decode cX10_fieldAtHand 43 = .ok (.ireturn, 1) := by decide +kernel
theorem dX10_fieldAtHand_44 : decode cX10_fieldAtHand 44 = .ok (.aload_n 0, 1) := by decide +kernel
theorem dX10_fieldAtHand_45 : decode cX10_fieldAtHand 45 = .ok (.ldc 105, 2) := by decide +kernel
theorem dX10_fieldAtHand_47 : decode cX10_fieldAtHand 47 = .ok (.invokevirtual 46, 3) := by decide +kernel
theorem dX10_fieldAtHand_50 : decode cX10_fieldAtHand 50 = .ok (.ifCond .eq 5, 3) := by decide +kernel
theorem dX10_fieldAtHand_53 : decode cX10_fieldAtHand 53 = .ok (.iconst 4, 1) := by decide +kernel
theorem dX10_fieldAtHand_54 : decode cX10_fieldAtHand 54 = .ok (.ireturn, 1) := by decide +kernel
theorem dX10_fieldAtHand_55 : decode cX10_fieldAtHand 55 = .ok (.aload_n 0, 1) := by decide +kernel
theorem dX10_fieldAtHand_56 : decode cX10_fieldAtHand 56 = .ok (.ldc 107, 2) := by decide +kernel
theorem dX10_fieldAtHand_58 : decode cX10_fieldAtHand 58 = .ok (.invokevirtual 46, 3) := by decide +kernel
theorem dX10_fieldAtHand_61 : decode cX10_fieldAtHand 61 = .ok (.ifCond .eq 5, 3) := by decide +kernel
theorem dX10_fieldAtHand_64 : decode cX10_fieldAtHand 64 = .ok (.iconst 5, 1) := by decide +kernel
theorem dX10_fieldAtHand_65 : decode cX10_fieldAtHand 65 = .ok (.ireturn, 1) := by decide +kernel
theorem dX10_fieldAtHand_66 : decode cX10_fieldAtHand 66 = .ok (.aload_n 0, 1) := by decide +kernel
theorem dX10_fieldAtHand_67 : decode cX10_fieldAtHand 67 = .ok (.ldc 109, 2) := by decide +kernel
theorem dX10_fieldAtHand_69 : decode cX10_fieldAtHand 69 = .ok (.invokevirtual 46, 3) := by decide +kernel
theorem dX10_fieldAtHand_72 : decode cX10_fieldAtHand 72 = .ok (.ifCond .eq 8, 3) := by decide +kernel
theorem dX10_fieldAtHand_75 : decode cX10_fieldAtHand 75 = .ok (.bipush 6, 2) := by decide +kernel
theorem dX10_fieldAtHand_77 : decode cX10_fieldAtHand 77 = .ok (.goto 4, 3) := by decide +kernel
theorem dX10_fieldAtHand_80 : decode cX10_fieldAtHand 80 = .ok (.iconst (-1), 1) := by decide +kernel
theorem dX10_fieldAtHand_81 : decode cX10_fieldAtHand 81 = .ok (.ireturn, 1) := by decide +kernel
set_option maxRecDepth 20000 in
theorem ggX10_actAtHand_X10_isWord : GoodIn wsX10_actAtHand wsX10_isWord := goodIn_h _ [4, 0, 0, 0, 0, 0, 0, 0, 0, 0, 0, 0, 0, 0, 0, 0, 0, 0, 0, 0, 0, 0, 0, 0, 0, 0, 0, 0, 0, 0, 0, 0, 0, 0, 0, 0, 0, 0, 0, 0, 0, 0, 0, 0, 0, 0, 0, 0, 0, 0, 0, 0, 0, 0, 0, 0, 0, 0, 0, 0, 0, 0, 0, 0, 0, 0, 0] [1, 2, 3, 4, 5, 6, 7, 8, 9, 10, 11, 12, 13, 14, 15, 16, 17, 18, 19, 0, 20, 21, 22, 23, 24, 25, 26, 27, 28, 29, 30, 31, 32, 33, 34, 35, 36, 37, 38, 39, 40, 41, 42, 43, 44, 45, 46, 47, 48, 49, 50, 51, 52, 53, 54, 55, 56, 57, 58, 59, 60, 61, 62, 63, 64, 65, 66] (by decide +kernel) (by decide +kernel)
set_option maxRecDepth 20000 in
theorem gX10_actAtHand_X10_isWord : GoodIn wsX10_actAtHand (wsV RX10 46 RX10 yX10_isWord wsX10_isWord) := goodIn_app (goodIn_of _ (by decide +kernel)) ggX10_actAtHand_X10_isWord
theorem dX10_actAtHand_0 : decode cX10_actAtHand 0 = .ok (.aload_n 0, 1) := by decide +kernel
theorem dX10_actAtHand_1 : decode cX10_actAtHand 1 = .ok (.ldc 111, 2) := by decide +kernel
theorem dX10_actAtHand_3 : decode cX10_actAtHand 3 = .ok (.invokevirtual 46, 3) := by decide +kernel
theorem dX10_actAtHand_6 : decode cX10_actAtHand 6 = .ok (.ifCond .eq 5, 3) := by decide +kernel
theorem dX10_actAtHand_9 : decode cX10_actAtHand 9 = .ok (.iconst 0, 1) := by decide +kernel
theorem dX10_actAtHand_10 : decode cX10_actAtHand 10 = .ok (.ireturn, 1) := by decide +kernel
theorem dX10_actAtHand_11 : decode cX10_actAtHand 11 = .ok (.aload_n 0, 1) := by decide +kernel
theorem dX10_actAtHand_12 : decode cX10_actAtHand 12 = .ok (.ldc 113, 2) := by decide +kernel
theorem dX10_actAtHand_14 : decode cX10_actAtHand 14 = .ok (.invokevirtual 46, 3) := by decide +kernel
theorem dX10_actAtHand_17 : decode cX10_actAtHand 17 = .ok (.ifCond .eq 5, 3) := by decide +kernel
theorem dX10_actAtHand_20 : decode cX10_actAtHand 20 = .ok (.iconst 1, 1) := by decide +kernel
theorem dX10_actAtHand_21 : decode cX10_actAtHand 21 = .ok (.ireturn, 1) := by decide +kernel
theorem dX10_actAtHand_22 : decode cX10_actAtHand 22 = .ok (.aload_n 0, 1) := by decide +kernel
theorem dX10_actAtHand_23 : decode cX10_actAtHand 23 = .ok (.ldc 115, 2) := by decide +kernel
theorem dX10_actAtHand_25 : decode cX10_actAtHand 25 = .ok (.invokevirtual 46, 3) := by decide +kernel
theorem dX10_actAtHand_28 : decode cX10_actAtHand 28 = .ok (.ifCond .eq 5, 3) := by decide +kernel
theorem dX10_actAtHand_31 : decode cX10_actAtHand 31 = .ok (.iconst 2, 1) := by decide +kernel
theorem dX10_actAtHand_32 : decode cX10_actAtHand 32 = .ok (.ireturn, 1) := by decide +kernel
theorem dX10_actAtHand_33 : decode cX10_actAtHand 33 = .ok (.aload_n 0, 1) := by decide +kernel
theorem dX10_actAtHand_34 : decode cX10_actAtHand 34 = .ok (.ldc 117, 2) := by decide +kernel
theorem dX10_actAtHand_36 : decode cX10_actAtHand 36 = .ok (.invokevirtual 46, 3) := by decide +kernel
theorem dX10_actAtHand_39 : decode cX10_actAtHand 39 = .ok (.ifCond .eq 5, 3) := by decide +kernel
theorem dX10_actAtHand_42 : decode cX10_actAtHand 42 = .ok (.iconst 3, 1) := by decide +kernel
theorem dX10_actAtHand_43 : decode cX10_actAtHand 43 = .ok (.ireturn, 1) := by decide +kernel
theorem dX10_actAtHand_44 : decode cX10_actAtHand 44 = .ok (.aload_n 0, 1) := by decide +kernel
theorem dX10_actAtHand_45 : decode cX10_actAtHand 45 = .ok (.ldc 119, 2) := by decide +kernel
theorem dX10_actAtHand_47 : decode cX10_actAtHand 47 = .ok (.invokevirtual 46, 3) := by decide +kernel
theorem dX10_actAtHand_50 : decode cX10_actAtHand 50 = .ok (.ifCond .eq 5, 3) := by decide +kernel
theorem dX10_actAtHand_53 : decode cX10_actAtHand 53 = .ok (.iconst 4, 1) := by decide +kernel
theorem dX10_actAtHand_54 : decode cX10_actAtHand 54 = .ok (.ireturn, 1) := by decide +kernel
theorem dX10_actAtHand_55 : decode cX10_actAtHand 55 = .ok (.aload_n 0, 1) := by decide +kernel
theorem dX10_actAtHand_56 : decode cX10_actAtHand 56 = .ok (.ldc 121, 2) := by decide +kernel
theorem dX10_actAtHand_58 : decode cX10_actAtHand 58 = .ok (.invokevirtual 46, 3) := by decide +kernel
theorem dX10_actAtHand_61 : decode cX10_actAtHand 61 = .ok (.ifCond .eq 7, 3) := by decide +kernel
theorem dX10_actAtHand_64 : decode cX10_actAtHand 64 = .ok (.iconst 5, 1) := by decide +kernel
theorem dX10_actAtHand_65 : decode cX10_actAtHand 65 = .ok (.goto 4, 3) := by decide +kernel
theorem dX10_actAtHand_68 : decode cX10_actAtHand 68 = .ok (.iconst (-1), 1) := by decide +kernel
theorem dX10_actAtHand_69 : decode cX10_actAtHand 69 = .ok (.ireturn, 1) := by decide +kernel
set_option maxRecDepth 20000 in
theorem ggX10_isWord_J0_length_8abf5 : GoodIn wsX10_isWord wsJ0_length_8abf5 := goodIn_h _ [7, 0, 0, 0, 0, 0, 0, 0, 0] [1, 2, 3, 4, 5, 0, 6, 7, 8] (by decide +kernel) (by decide +kernel)
set_option maxRecDepth 20000 in
theorem gX10_isWord_J0_length_8abf5 : GoodIn wsX10_isWord (wsV RX10 123 RJ0 yJ0_length_8abf5 wsJ0_length_8abf5) := goodIn_app (goodIn_of _ (by decide +kernel)) ggX10_isWord_J0_length_8abf5
set_option maxRecDepth 20000 in
theorem ggX10_isWord_X10_byteAt : GoodIn wsX10_isWord wsX10_byteAt := goodIn_h _ [20, 0, 0, 37, 0, 0, 0, 0, 0, 0] [0, 1, 2, 3, 4, 5, 6, 7, 8, 9] (by decide +kernel) (by decide +kernel)
set_option maxRecDepth 20000 in
theorem gX10_isWord_X10_byteAt : GoodIn wsX10_isWord (wsV RX10 82 RX10 yX10_byteAt wsX10_byteAt) := goodIn_app (goodIn_of _ (by decide +kernel)) ggX10_isWord_X10_byteAt
set_option maxRecDepth 20000 in
theorem ggX10_isWord_J0_charAt_5068e : GoodIn wsX10_isWord wsJ0_charAt_5068e := goodIn_h _ [7, 1, 4, 0, 10, 0, 0, 0, 0, 0, 0, 0, 0, 0, 0, 0, 0, 0, 0, 0, 0, 0, 0, 0, 0, 0, 0, 0, 0, 0, 0, 0, 0, 0, 0, 0, 0, 0] [4, 1, 5, 6, 7, 0, 8, 2, 3, 9, 10, 11, 12, 13, 14, 15, 16, 17, 18, 19, 20, 21, 22, 23, 24, 25, 26, 27, 28, 29, 30, 31, 32, 33, 34, 35, 36, 37] (by decide +kernel) (by decide +kernel)
set_option maxRecDepth 20000 in
theorem gX10_isWord_J0_charAt_5068e : GoodIn wsX10_isWord (wsV RX10 128 RJ0 yJ0_charAt_5068e wsJ0_charAt_5068e) := goodIn_app (goodIn_of _ (by decide +kernel)) ggX10_isWord_J0_charAt_5068e
theorem dX10_isWord_0 : decode cX10_isWord 0 = .ok (.aload_n 0, 1) := by decide +kernel
theorem dX10_isWord_1 : decode cX10_isWord 1 = .ok (.getfield 37, 3) := by decide +kernel
theorem dX10_isWord_4 : decode cX10_isWord 4 = .ok (.iconst 1, 1) := by decide +kernel
theorem dX10_isWord_5 : decode cX10_isWord 5 = .ok (.if_icmp .ne 19, 3) := by decide +kernel
theorem dX10_isWord_8 : decode cX10_isWord 8 = .ok (.aload_n 0, 1) := by decide +kernel
theorem dX10_isWord_9 : decode cX10_isWord 9 = .ok (.getfield 31, 3) := by decide +kernel
theorem dX10_isWord_12 : decode cX10_isWord 12 = .ok (.aload_n 0, 1) := by decide +kernel
theorem dX10_isWord_13 : decode cX10_isWord 13 = .ok (.getfield 79, 3) := by decide +kernel
theorem dX10_isWord_16 : decode cX10_isWord 16 = .ok (.isub, 1) := by decide +kernel
theorem dX10_isWord_17 : decode cX10_isWord 17 = .ok (.aload_n 1, 1) := by decide +kernel
theorem dX10_isWord_18 : decode cX10_isWord 18 = .ok (.invokevirtual 123, 3) := by decide +kernel
theorem dX10_isWord_21 : decode cX10_isWord 21 = .ok (.if_icmp .eq 5, 3) := by decide +kernel
theorem dX10_isWord_24 : decode cX10_isWord 24 = .ok (.iconst 0, 1) := by decide +kernel
theorem dX10_isWord_25 : decode cX10_isWord 25 = .ok (.ireturn, 1) := by decide +kernel
theorem dX10_isWord_26 : decode cX10_isWord 26 = .ok (.iconst 0, 1) := by decide +kernel
theorem dX10_isWord_27 : decode cX10_isWord 27 = .ok (.istore_n 2, 1) := by decide +kernel
theorem dX10_isWord_28 : decode cX10_isWord 28 = .ok (.iload_n 2, 1) := by decide +kernel
theorem dX10_isWord_29 : decode cX10_isWord 29 = .ok (.aload_n 1, 1) := by decide +kernel
theorem dX10_isWord_30 : decode cX10_isWord 30 = .ok (.invokevirtual 123, 3) := by decide +kernel
theorem dX10_isWord_33 : decode cX10_isWord 33 = .ok (.if_icmp .ge 29, 3) := by decide +kernel
theorem dX10_isWord_36 : decode cX10_isWord 36 = .ok (.aload_n 0, 1) := by decide +kernel
theorem dX10_isWord_37 : decode cX10_isWord 37 = .ok (.aload_n 0, 1) := by decide +kernel
theorem dX10_isWord_38 : decode cX10_isWord 38 = .ok (.getfield 79, 3) := by decide +kernel
theorem dX10_isWord_41 : decode cX10_isWord 41 = .ok (.iload_n 2, 1) := by decide +kernel
theorem dX10_isWord_42 : decode cX10_isWord 42 = .ok (.iadd, 1) := by decide +kernel
theorem dX10_isWord_43 : decode cX10_isWord 43 = .ok (.invokevirtual 82, 3) := by decide +kernel
theorem dX10_isWord_46 : decode cX10_isWord 46 = .ok (.aload_n 1, 1) := by decide +kernel
theorem dX10_isWord_47 : decode cX10_isWord 47 = .ok (.iload_n 2, 1) := by decide +kernel
theorem dX10_isWord_48 : decode cX10_isWord 48 = .ok (.invokevirtual 128, 3) := by decide +kernel
theorem dX10_isWord_51 : decode cX10_isWord 51 = .ok (.if_icmp .eq 5, 3) := by decide +kernel
theorem dX10_isWord_54 : decode cX10_isWord 54 = .ok (.iconst 0, 1) := by decide +kernel
theorem dX10_isWord_55 : decode cX10_isWord 55 = .ok (.ireturn, 1) := by decide +kernel
theorem dX10_isWord_56 : decode cX10_isWord 56 = .ok (.iinc 2 1, 3) := by decide +kernel
theorem dX10_isWord_59 : decode cX10_isWord 59 = .ok (.goto (-31), 3) := by decide +kernel
theorem dX10_isWord_62 : decode cX10_isWord 62 = .ok (.iconst 1, 1) := by decide +kernel
theorem dX10_isWord_63 : decode cX10_isWord 63 = .ok (.ireturn, 1) := by decide +kernel
set_option maxRecDepth 20000 in
theorem ggX11_program_X11_potAt : GoodIn wsX11_program wsX11_potAt := goodIn_h _ [11, 0, 0, 147, 0, 0, 0, 0, 0, 0, 0, 0, 0, 0, 0] [0, 1, 2, 3, 4, 5, 6, 7, 8, 9, 10, 11, 12, 13, 14] (by decide +kernel) (by decide +kernel)
set_option maxRecDepth 20000 in
theorem gX11_program_X11_potAt : GoodIn wsX11_program (wsV RX11 134 RX11 yX11_potAt wsX11_potAt) := goodIn_app (goodIn_of _ (by decide +kernel)) ggX11_program_X11_potAt
set_option maxRecDepth 20000 in
theorem ggX11_program_X10_forgetFault : GoodIn wsX11_program wsX10_forgetFault := goodIn_h _ [18, 0, 0, 152, 0, 0, 0, 0, 0, 0] [0, 1, 2, 3, 4, 5, 6, 7, 8, 9] (by decide +kernel) (by decide +kernel)
set_option maxRecDepth 20000 in
theorem gX11_program_X10_forgetFault : GoodIn wsX11_program (wsV RX11 152 RX10 yX10_forgetFault wsX10_forgetFault) := goodIn_app (goodIn_of _ (by decide +kernel)) ggX11_program_X10_forgetFault
set_option maxRecDepth 20000 in
theorem ggX11_program_X10_readInto : GoodIn wsX11_program wsX10_readInto := goodIn_h _ [15, 0, 0, 0, 0, 0, 3, 0, 0, 0, 0, 0, 0, 0, 0, 0, 0, 0, 0, 0, 0, 0, 0, 0, 0, 0, 0, 0, 0, 0, 0, 0, 0, 0, 0, 0, 0, 0, 0, 0, 0, 0, 0, 0, 0, 0, 0, 0, 0, 0, 0, 0, 0, 0, 0, 0, 0, 0, 0, 0, 0, 0, 0, 0, 0, 0, 0, 0, 0, 0, 0, 0, 0, 0, 0, 0, 0, 0, 0, 0, 0, 0, 0, 0, 0, 0, 0, 0, 0, 0, 0, 0, 0, 0, 0, 0, 0, 0, 0, 0, 0, 0, 0, 0, 0, 0, 0, 0, 0, 0, 0, 0, 0, 0, 0, 0, 0, 0, 0, 0, 0, 0, 0, 0, 0, 0, 0, 0, 0, 0, 0, 0, 0, 0, 0, 0, 0, 0, 0, 0, 0, 0, 0, 12, 0, 0, 0, 0, 0, 0, 12, 0, 0, 0, 0, 0, 0] [6, 7, 8, 9, 10, 0, 1, 2, 3, 4, 5, 11, 12, 13, 14, 15, 16, 17, 18, 19, 20, 21, 22, 23, 24, 25, 26, 27, 28, 29, 30, 31, 32, 33, 34, 35, 36, 37, 38, 39, 40, 41, 42, 43, 44, 45, 46, 47, 48, 49, 50, 51, 52, 53, 54, 55, 56, 57, 58, 59, 60, 61, 62, 63, 64, 65, 66, 67, 68, 69, 70, 71, 72, 73, 74, 75, 76, 77, 78, 79, 80, 81, 82, 83, 84, 85, 86, 87, 88, 89, 90, 91, 92, 93, 94, 95, 96, 97, 98, 99, 100, 101, 102, 103, 104, 105, 106, 107, 108, 109, 110, 111, 112, 113, 114, 115, 116, 117, 118, 119, 120, 121, 122, 123, 124, 125, 126, 127, 128, 129, 130, 131, 132, 133, 134, 135, 136, 137, 138, 139, 140, 141, 142, 150, 151, 152, 153, 154, 155, 156, 143, 144, 145, 146, 147, 148, 149] (by decide +kernel) (by decide +kernel)
set_option maxRecDepth 20000 in
theorem gX11_program_X10_readInto : GoodIn wsX11_program (wsV RX11 155 RX10 yX10_readInto wsX10_readInto) := goodIn_app (goodIn_of _ (by decide +kernel)) ggX11_program_X10_readInto
theorem dX11_program_0 : decode cX11_program 0 = .ok (.aload_n 0, 1) := by decide +kernel
theorem dX11_program_1 : decode cX11_program 1 = .ok (.iload_n 1, 1) := by decide +kernel
theorem dX11_program_2 : decode cX11_program 2 = .ok (.invokevirtual 134, 3) := by decide +kernel
theorem dX11_program_5 : decode cX11_program 5 = .ok (.astore_n 2, 1) := by decide +kernel
theorem dX11_program_6 : decode cX11_program 6 = .ok (.aload_n 2, 1) := by decide +kernel
theorem dX11_program_7 : decode cX11_program 7 = .ok (.ifnonnull 12, 3) := by decide +kernel
theorem dX11_program_10 : decode cX11_program 10 = .ok (.aload_n 0, 1) := by decide +kernel
theorem dX11_program_11 : decode cX11_program 11 = .ok (.getfield 28, 3) := by decide +kernel
theorem dX11_program_14 : decode cX11_program 14 = .ok (.invokevirtual 152, 3) := by decide +kernel
theorem dX11_program_17 : decode cX11_program 17 = .ok (.iconst (-1), 1) := by decide +kernel
theorem dX11_program_18 : decode cX11_program 18 = .ok (.ireturn, 1) := by decide +kernel
theorem dX11_program_19 : decode cX11_program 19 = .ok (.aload_n 0, 1) := by decide +kernel
theorem dX11_program_20 : decode cX11_program 20 = .ok (.getfield 28, 3) := by decide +kernel
theorem dX11_program_23 : decode cX11_program 23 = .ok (.aload_n 0, 1) := by decide +kernel
theorem dX11_program_24 : decode cX11_program 24 = .ok (.getfield 35, 3) := by decide +kernel
theorem dX11_program_27 : decode cX11_program 27 = .ok (.invokevirtual 155, 3) := by decide +kernel
theorem dX11_program_30 : decode cX11_program 30 = .ok (.istore_n 3, 1) := by decide +kernel
theorem dX11_program_31 : decode cX11_program 31 = .ok (.aload_n 0, 1) := by decide +kernel
theorem dX11_program_32 : decode cX11_program 32 = .ok (.getfield 28, 3) := by decide +kernel
theorem dX11_program_35 : decode cX11_program 35 = .ok (.iconst 0, 1) := by decide +kernel
theorem dX11_program_36 : decode cX11_program 36 = .ok (.putfield 145, 3) := by decide +kernel
theorem dX11_program_39 : decode cX11_program 39 = .ok (.iload_n 3, 1) := by decide +kernel
theorem dX11_program_40 : decode cX11_program 40 = .ok (.ifCond .ne 14, 3) := by decide +kernel
theorem dX11_program_43 : decode cX11_program 43 = .ok (.aload_n 0, 1) := by decide +kernel
theorem dX11_program_44 : decode cX11_program 44 = .ok (.getfield 28, 3) := by decide +kernel
theorem dX11_program_47 : decode cX11_program 47 = .ok (.getfield 159, 3) := by decide +kernel
theorem dX11_program_50 : decode cX11_program 50 = .ok (.bipush 10, 2) := by decide +kernel
theorem dX11_program_52 : decode cX11_program 52 = .ok (.isub, 1) := by decide +kernel
theorem dX11_program_53 : decode cX11_program 53 = .ok (.ireturn, 1) := by decide +kernel
theorem dX11_program_54 : decode cX11_program 54 = .ok (.aload_n 2, 1) := by decide +kernel
theorem dX11_program_55 : decode cX11_program 55 = .ok (.getfield 162, 3) := by decide +kernel
theorem dX11_program_58 : decode cX11_program 58 = .ok (.astore 4, 2) := by decide +kernel
theorem dX11_program_60 : decode cX11_program 60 = .ok (.aload_n 2, 1) := by decide +kernel
theorem dX11_program_61 : decode cX11_program 61 = .ok (.aload_n 0, 1) := by decide +kernel
theorem dX11_program_62 : decode cX11_program 62 = .ok (.getfield 35, 3) := by decide +kernel
theorem dX11_program_65 : decode cX11_program 65 = .ok (.putfield 162, 3) := by decide +kernel
theorem dX11_program_68 : decode cX11_program 68 = .ok (.aload_n 0, 1) := by decide +kernel
theorem dX11_program_69 : decode cX11_program 69 = .ok (.aload 4, 2) := by decide +kernel
theorem dX11_program_71 : decode cX11_program 71 = .ok (.putfield 35, 3) := by decide +kernel
theorem dX11_program_74 : decode cX11_program 74 = .ok (.aload_n 2, 1) := by decide +kernel
theorem dX11_program_75 : decode cX11_program 75 = .ok (.getfield 162, 3) := by decide +kernel
theorem dX11_program_78 : decode cX11_program 78 = .ok (.getfield 165, 3) := by decide +kernel
theorem dX11_program_81 : decode cX11_program 81 = .ok (.ireturn, 1) := by decide +kernel
set_option maxRecDepth 20000 in
theorem ggJ0_length_8abf5_J0_coder_7d493 : GoodIn wsJ0_length_8abf5 wsJ0_coder_7d493 := goodIn_h _ [6, 0, 0] [0, 1, 2] (by decide +kernel) (by decide +kernel)
set_option maxRecDepth 20000 in
theorem gJ0_length_8abf5_J0_coder_7d493 : GoodIn wsJ0_length_8abf5 (wsV RJ0 335 RJ0 yJ0_coder_7d493 wsJ0_coder_7d493) := goodIn_app (goodIn_of _ (by decide +kernel)) ggJ0_length_8abf5_J0_coder_7d493
theorem dJ0_length_8abf5_0 : decode cJ0_length_8abf5 0 = .ok (.aload_n 0, 1) := by decide +kernel
theorem dJ0_length_8abf5_1 : decode cJ0_length_8abf5 1 = .ok (.getfield 9, 3) := by decide +kernel
theorem dJ0_length_8abf5_4 : decode cJ0_length_8abf5 4 = .ok (.arraylength, 1) := by decide +kernel
theorem dJ0_length_8abf5_5 : decode cJ0_length_8abf5 5 = .ok (.aload_n 0, 1) := by decide +kernel
theorem dJ0_length_8abf5_6 : decode cJ0_length_8abf5 6 = .ok (.invokevirtual 335, 3) := by decide +kernel
theorem dJ0_length_8abf5_9 : decode cJ0_length_8abf5 9 = .ok (.ishr, 1) := by decide +kernel
theorem dJ0_length_8abf5_10 : decode cJ0_length_8abf5 10 = .ok (.ireturn, 1) := by decide +kernel
set_option maxRecDepth 20000 in
theorem ggJ0_charAt_5068e_J0_isLatin1_aae02 : GoodIn wsJ0_charAt_5068e wsJ0_isLatin1_aae02 := goodIn_h _ [6, 0, 0] [0, 1, 2] (by decide +kernel) (by decide +kernel)
set_option maxRecDepth 20000 in
theorem gJ0_charAt_5068e_J0_isLatin1_aae02 : GoodIn wsJ0_charAt_5068e (wsV RJ0 492 RJ0 yJ0_isLatin1_aae02 wsJ0_isLatin1_aae02) := goodIn_app (goodIn_of _ (by decide +kernel)) ggJ0_charAt_5068e_J0_isLatin1_aae02
set_option maxRecDepth 20000 in
theorem ggJ0_charAt_5068e_J1_charAt_3b067 : GoodIn wsJ0_charAt_5068e wsJ1_charAt_3b067 := goodIn_h _ [5, 6, 0, 0, 0, 0, 0, 0, 0, 0] [1, 2, 3, 0, 4, 5, 6, 7, 8, 9] (by decide +kernel) (by decide +kernel)
set_option maxRecDepth 20000 in
theorem gJ0_charAt_5068e_J1_charAt_3b067 : GoodIn wsJ0_charAt_5068e (va_wsS RJ0 495 yJ1_charAt_3b067 wsJ1_charAt_3b067) := goodIn_app (goodIn_of _ (by decide +kernel)) ggJ0_charAt_5068e_J1_charAt_3b067
theorem dJ0_charAt_5068e_0 : decode cJ0_charAt_5068e 0 = .ok (.aload_n 0, 1) := by decide +kernel
theorem dJ0_charAt_5068e_1 : decode cJ0_charAt_5068e 1 = .ok (.invokevirtual 492, 3) := by decide +kernel
theorem dJ0_charAt_5068e_4 : decode cJ0_charAt_5068e 4 = .ok (.ifCond .eq 12, 3) := by decide +kernel
theorem dJ0_charAt_5068e_7 : decode cJ0_charAt_5068e 7 = .ok (.aload_n 0, 1) := by decide +kernel
theorem dJ0_charAt_5068e_8 : decode cJ0_charAt_5068e 8 = .ok (.getfield 9, 3) := by decide +kernel
theorem dJ0_charAt_5068e_11 : decode cJ0_charAt_5068e 11 = .ok (.iload_n 1, 1) := by decide +kernel
theorem dJ0_charAt_5068e_12 : decode cJ0_charAt_5068e 12 = .ok (.invokestatic 495, 3) := by decide +kernel
theorem dJ0_charAt_5068e_15 : decode cJ0_charAt_5068e 15 = .ok (.ireturn, 1) := by decide +kernel
theorem dJ0_coder_7d493_0 : decode cJ0_coder_7d493 0 = .ok (.getstatic 38, 3) := by decide +kernel
theorem dJ0_coder_7d493_3 : decode cJ0_coder_7d493 3 = .ok (.ifCond .eq 10, 3) := by decide +kernel
theorem dJ0_coder_7d493_6 : decode cJ0_coder_7d493 6 = .ok (.aload_n 0, 1) := by decide +kernel
theorem dJ0_coder_7d493_7 : decode cJ0_coder_7d493 7 = .ok (.getfield 15, 3) := by decide +kernel
theorem dJ0_coder_7d493_10 : decode cJ0_coder_7d493 10 = .ok (.goto 4, 3) := by decide +kernel
theorem dJ0_coder_7d493_14 : decode cJ0_coder_7d493 14 = .ok (.ireturn, 1) := by decide +kernel
theorem dJ0_isLatin1_aae02_0 : decode cJ0_isLatin1_aae02 0 = .ok (.getstatic 38, 3) := by decide +kernel
theorem dJ0_isLatin1_aae02_3 : decode cJ0_isLatin1_aae02 3 = .ok (.ifCond .eq 14, 3) := by decide +kernel
theorem dJ0_isLatin1_aae02_6 : decode cJ0_isLatin1_aae02 6 = .ok (.aload_n 0, 1) := by decide +kernel
theorem dJ0_isLatin1_aae02_7 : decode cJ0_isLatin1_aae02 7 = .ok (.getfield 15, 3) := by decide +kernel
theorem dJ0_isLatin1_aae02_10 : decode cJ0_isLatin1_aae02 10 = .ok (.ifCond .ne 7, 3) := by decide +kernel
theorem dJ0_isLatin1_aae02_13 : decode cJ0_isLatin1_aae02 13 = .ok (.iconst 1, 1) := by decide +kernel
theorem dJ0_isLatin1_aae02_14 : decode cJ0_isLatin1_aae02 14 = .ok (.goto 4, 3) := by decide +kernel
theorem dJ0_isLatin1_aae02_18 : decode cJ0_isLatin1_aae02 18 = .ok (.ireturn, 1) := by decide +kernel
set_option maxRecDepth 20000 in
theorem ggJ0_checkIndex_df160_J3_checkIndex_8e157 : GoodIn wsJ0_checkIndex_df160 wsJ3_checkIndex_8e157 := goodIn_h _ [5] [0] (by decide +kernel) (by decide +kernel)
set_option maxRecDepth 20000 in
theorem gJ0_checkIndex_df160_J3_checkIndex_8e157 : GoodIn wsJ0_checkIndex_df160 (va_wsS RJ0 1059 yJ3_checkIndex_8e157 wsJ3_checkIndex_8e157) := goodIn_app (goodIn_of _ (by decide +kernel)) ggJ0_checkIndex_df160_J3_checkIndex_8e157
theorem dJ0_checkIndex_df160_0 : decode cJ0_checkIndex_df160 0 = .ok (.iload_n 0, 1) := by decide +kernel
theorem dJ0_checkIndex_df160_1 : decode cJ0_checkIndex_df160 1 = .ok (.iload_n 1, 1) := by decide +kernel
theorem dJ0_checkIndex_df160_2 : decode cJ0_checkIndex_df160 2 = .ok (.getstatic 1053, 3) := by decide +kernel
theorem dJ0_checkIndex_df160_5 : decode cJ0_checkIndex_df160 5 = .ok (.invokestatic 1059, 3) := by decide +kernel
theorem dJ0_checkIndex_df160_8 : decode cJ0_checkIndex_df160 8 = .ok (.pop, 1) := by decide +kernel
theorem dJ0_checkIndex_df160_9 : decode cJ0_checkIndex_df160 9 = .ok (.return_, 1) := by decide +kernel
set_option maxRecDepth 20000 in
theorem ggJ1_charAt_3b067_J0_checkIndex_df160 : GoodIn wsJ1_charAt_3b067 wsJ0_checkIndex_df160 := goodIn_h _ [4, 0, 0, 0, 0, 0] [0, 1, 2, 3, 4, 5] (by decide +kernel) (by decide +kernel)
set_option maxRecDepth 20000 in
theorem gJ1_charAt_3b067_J0_checkIndex_df160 : GoodIn wsJ1_charAt_3b067 (va_wsS RJ1 9 yJ0_checkIndex_df160 wsJ0_checkIndex_df160) := goodIn_app (goodIn_of _ (by decide +kernel)) ggJ1_charAt_3b067_J0_checkIndex_df160
theorem dJ1_charAt_3b067_0 : decode cJ1_charAt_3b067 0 = .ok (.iload_n 1, 1) := by decide +kernel
theorem dJ1_charAt_3b067_1 : decode cJ1_charAt_3b067 1 = .ok (.aload_n 0, 1) := by decide +kernel
theorem dJ1_charAt_3b067_2 : decode cJ1_charAt_3b067 2 = .ok (.arraylength, 1) := by decide +kernel
theorem dJ1_charAt_3b067_3 : decode cJ1_charAt_3b067 3 = .ok (.invokestatic 9, 3) := by decide +kernel
theorem dJ1_charAt_3b067_6 : decode cJ1_charAt_3b067 6 = .ok (.aload_n 0, 1) := by decide +kernel
theorem dJ1_charAt_3b067_7 : decode cJ1_charAt_3b067 7 = .ok (.iload_n 1, 1) := by decide +kernel
theorem dJ1_charAt_3b067_8 : decode cJ1_charAt_3b067 8 = .ok (.baload, 1) := by decide +kernel
theorem dJ1_charAt_3b067_9 : decode cJ1_charAt_3b067 9 = .ok (.sipush 255, 3) := by decide +kernel
theorem dJ1_charAt_3b067_12 : decode cJ1_charAt_3b067 12 = .ok (.iand, 1) := by decide +kernel
theorem dJ1_charAt_3b067_13 : decode cJ1_charAt_3b067 13 = .ok (.i2c, 1) := by decide +kernel
theorem dJ1_charAt_3b067_14 : decode cJ1_charAt_3b067 14 = .ok (.ireturn, 1) := by decide +kernel
theorem dJ3_checkIndex_8e157_0 : decode cJ3_checkIndex_8e157 0 = .ok (.iload_n 0, 1) := by decide +kernel
theorem dJ3_checkIndex_8e157_1 : decode cJ3_checkIndex_8e157 1 = .ok (.ifCond .lt 8, 3) := by decide +kernel
theorem dJ3_checkIndex_8e157_4 : decode cJ3_checkIndex_8e157 4 = .ok (.iload_n 0, 1) := by decide +kernel
theorem dJ3_checkIndex_8e157_5 : decode cJ3_checkIndex_8e157 5 = .ok (.iload_n 1, 1) := by decide +kernel
theorem dJ3_checkIndex_8e157_6 : decode cJ3_checkIndex_8e157 6 = .ok (.if_icmp .lt 10, 3) := by decide +kernel
theorem dJ3_checkIndex_8e157_16 : decode cJ3_checkIndex_8e157 16 = .ok (.iload_n 0, 1) := by decide +kernel
theorem dJ3_checkIndex_8e157_17 : decode cJ3_checkIndex_8e157 17 = .ok (.ireturn, 1) := by decide +kernel
theorem inn_X10_isWord_10 : ∀ w ∈ u_ws RX10 TX10 7, w ∈ wsX10_isWord := fun w h => List.mem_cons_of_mem _ (List.mem_append_right _ h)
theorem inn_X10_readAct_10 : ∀ w ∈ u_ws RX10 TX10 7, w ∈ wsX10_readAct := fun w h => List.mem_cons_of_mem _ (List.mem_append_left _ (List.mem_append_right _ h))
theorem inn_X10_readCondition_10 : ∀ w ∈ u_ws RX10 TX10 7, w ∈ wsX10_readCondition := fun w h => List.mem_cons_of_mem _ (List.mem_append_left _ (List.mem_append_right _ h))
theorem inn_X10_readInto_10 : ∀ w ∈ u_ws RX10 TX10 7, w ∈ wsX10_readInto := fun w h => List.mem_cons_of_mem _ (List.mem_append_right _ h)
theorem inn_X10_readInto_6 : ∀ w ∈ u_ws RX6 TX6 7, w ∈ wsX10_readInto := fun w h => List.mem_cons_of_mem _ (List.mem_append_left _ (List.mem_append_right _ h))
theorem inn_X10_readRule_6 : ∀ w ∈ u_ws RX6 TX6 7, w ∈ wsX10_readRule := fun w h => List.mem_cons_of_mem _ (List.mem_append_left _ (List.mem_append_right _ h))
theorem inn_X11_program_10 : ∀ w ∈ u_ws RX10 TX10 7, w ∈ wsX11_program := fun w h => List.mem_cons_of_mem _ (List.mem_append_left _ (List.mem_append_left _ (List.mem_append_right _ h)))
theorem inn_X11_program_11 : ∀ w ∈ u_ws RX11 TX11 12, w ∈ wsX11_program := fun w h => List.mem_cons_of_mem _ (List.mem_append_left _ (List.mem_append_left _ (List.mem_append_left _ (List.mem_append_right _ h))))
theorem inn_X11_program_4 : ∀ w ∈ u_ws RX4 TX4 12, w ∈ wsX11_program := fun w h => List.mem_cons_of_mem _ (List.mem_append_left _ (List.mem_append_right _ h))
theorem inn_X11_program_6 : ∀ w ∈ u_ws RX6 TX6 7, w ∈ wsX11_program := fun w h => List.mem_cons_of_mem _ (List.mem_append_right _ h)
set_option maxHeartbeats 4000000 in
set_option maxRecDepth 100000 in
theorem k_J0_coder_7d493 (l : Launch) (G : va_G) (cy : Nat → ClassId) (κ : Nat → Nat) (S : PS) (sz : Nat) (i : Nat) (hG : GX S) (hi_i : i < 26) : Ci l yJ0_coder_7d493 wsJ0_coder_7d493 ({ frames := 1, cells := 0, slots := 0, locals := 48 }) G cy κ S sz [.ref (κ (100 + i))] (fun (r : Int32) (S9 : PS) => S = S9 ∧ (r = 0)) := by
  refine ent_m (cc := cJ0_coder_7d493) (maxL := 1) (ret := (some .byte)) (by decide) rfl (Nat.le_of_ble_eq_true rfl) ?_
  intro p e s m below meth c ls X hr hlocks hin hw hl hsz
  subst hsz
  have X : Cx p c cJ0_coder_7d493 1 s [.ref (κ (100 + i))].toArray wsJ0_coder_7d493 RJ0 m G cy κ (AS S s.heap.size) := X
  have hl : lv_has ls 1 [(0, .ref (κ (100 + i)))] := hl
  refine va_gets X.1 X.2.1 X.2.2.2.2.2.2.2.2.2.2.2.2.1 hw.2.2 X.2.2.2.2.1 (X.2.2.2.1 (.fieldLink RJ0 38 "java/lang/String" "COMPACT_STRINGS" "Z") (by decide +kernel)) (fun x h => h) dJ0_coder_7d493_0 ?_
  refine lv_if_eq (tgt := 13) X.1 X.2.1 dJ0_coder_7d493_3 (by decide) (fun c_1 => absurd c_1 (by decide)) (fun c_1 => ?_)
  refine lv_aload_n X.1 X.2.1 dJ0_coder_7d493_6 rfl (lv_at hl 0 rfl) ?_
  refine vk_getf X.1 X.2.1 (X.2.2.2.2.2.2.2.2.2.2.2.2.2.2 i hi_i).2.2.1 hw.2.2 X.2.2.2.2.1 (X.2.2.2.1 (.fieldLink RJ0 15 "java/lang/String" "coder" "B") (by decide +kernel)) (fun x h => h) dJ0_coder_7d493_7 ?_
  refine lv_goto (tgt := 14) X.1 X.2.1 dJ0_coder_7d493_10 (by decide) ?_
  exact ret_n X hw hr hlocks (Nat.le_of_ble_eq_true rfl) (Nat.le_of_ble_eq_true rfl) (by decide +kernel) ⟨rfl, rfl⟩ dJ0_coder_7d493_14
set_option maxHeartbeats 4000000 in
set_option maxRecDepth 100000 in
theorem k_J0_isLatin1_aae02 (l : Launch) (G : va_G) (cy : Nat → ClassId) (κ : Nat → Nat) (S : PS) (sz : Nat) (i : Nat) (hG : GX S) (hi_i : i < 26) : Ci l yJ0_isLatin1_aae02 wsJ0_isLatin1_aae02 ({ frames := 1, cells := 0, slots := 0, locals := 48 }) G cy κ S sz [.ref (κ (100 + i))] (fun (r : Int32) (S9 : PS) => S = S9 ∧ (r = 1)) := by
  refine ent_m (cc := cJ0_isLatin1_aae02) (maxL := 1) (ret := (some .boolean)) (by decide) rfl (Nat.le_of_ble_eq_true rfl) ?_
  intro p e s m below meth c ls X hr hlocks hin hw hl hsz
  subst hsz
  have X : Cx p c cJ0_isLatin1_aae02 1 s [.ref (κ (100 + i))].toArray wsJ0_isLatin1_aae02 RJ0 m G cy κ (AS S s.heap.size) := X
  have hl : lv_has ls 1 [(0, .ref (κ (100 + i)))] := hl
  refine va_gets X.1 X.2.1 X.2.2.2.2.2.2.2.2.2.2.2.2.1 hw.2.2 X.2.2.2.2.1 (X.2.2.2.1 (.fieldLink RJ0 38 "java/lang/String" "COMPACT_STRINGS" "Z") (by decide +kernel)) (fun x h => h) dJ0_isLatin1_aae02_0 ?_
  refine lv_if_eq (tgt := 17) X.1 X.2.1 dJ0_isLatin1_aae02_3 (by decide) (fun c_1 => absurd c_1 (by decide)) (fun c_1 => ?_)
  refine lv_aload_n X.1 X.2.1 dJ0_isLatin1_aae02_6 rfl (lv_at hl 0 rfl) ?_
  refine vk_getf X.1 X.2.1 (X.2.2.2.2.2.2.2.2.2.2.2.2.2.2 i hi_i).2.2.1 hw.2.2 X.2.2.2.2.1 (X.2.2.2.1 (.fieldLink RJ0 15 "java/lang/String" "coder" "B") (by decide +kernel)) (fun x h => h) dJ0_isLatin1_aae02_7 ?_
  refine lv_if_ne (tgt := 17) X.1 X.2.1 dJ0_isLatin1_aae02_10 (by decide) (fun c_2 => absurd c_2 (by decide)) (fun c_2 => ?_)
  refine lv_iconst (v := 1) X.1 X.2.1 dJ0_isLatin1_aae02_13 (by decide) ?_
  refine lv_goto (tgt := 18) X.1 X.2.1 dJ0_isLatin1_aae02_14 (by decide) ?_
  exact ret_z X hw hr hlocks (Nat.le_of_ble_eq_true rfl) (Nat.le_of_ble_eq_true rfl) (by decide) ⟨rfl, rfl⟩ dJ0_isLatin1_aae02_18
set_option maxHeartbeats 4000000 in
set_option maxRecDepth 100000 in
theorem k_J0_length_8abf5 (l : Launch) (G : va_G) (cy : Nat → ClassId) (κ : Nat → Nat) (S : PS) (sz : Nat) (i : Nat) (hG : GX S) (hi_i : i < 26) : Ci l yJ0_length_8abf5 wsJ0_length_8abf5 ({ frames := 2, cells := 0, slots := 0, locals := 96 }) G cy κ S sz [.ref (κ (100 + i))] (fun (r : Int32) (S9 : PS) => S = S9 ∧ (r.toInt = (strN i : Int) ∧ r.toInt ≤ 64)) := by
  refine ent_m (cc := cJ0_length_8abf5) (maxL := 1) (ret := (some .int)) (by decide) rfl (Nat.le_of_ble_eq_true rfl) ?_
  intro p e s m below meth c ls X hr hlocks hin hw hl hsz
  subst hsz
  have X : Cx p c cJ0_length_8abf5 1 s [.ref (κ (100 + i))].toArray wsJ0_length_8abf5 RJ0 m G cy κ (AS S s.heap.size) := X
  have hl : lv_has ls 1 [(0, .ref (κ (100 + i)))] := hl
  refine lv_aload_n X.1 X.2.1 dJ0_length_8abf5_0 rfl (lv_at hl 0 rfl) ?_
  refine vk_getf X.1 X.2.1 (X.2.2.2.2.2.2.2.2.2.2.2.2.2.2 i hi_i).2.2.2.1 hw.2.2 X.2.2.2.2.1 (X.2.2.2.1 (.fieldLink RJ0 9 "java/lang/String" "value" "[B") (by decide +kernel)) (fun x h => h) dJ0_length_8abf5_1 ?_
  refine va_tlen (v := nI (strN i)) X.1 X.2.1 (X.2.2.2.2.2.2.2.2.2.2.2.2.2.2 i hi_i).2.2.2.2 hw.2.2 rfl dJ0_length_8abf5_4 ?_
  refine lv_topi (fun v_1 ev_1 => ?_)
  have z_2 : v_1.toInt = (strN i : Int) := z_len ev_1 (by have := strN_le i; omega)
  have z_3 := strN_le i
  refine lv_aload_n X.1 X.2.1 dJ0_length_8abf5_5 rfl (lv_at hl 0 rfl) ?_
  refine k_i (rm := { frames := 1, cells := 0, slots := 0, locals := 48 }) (av := [.ref (κ (100 + i))]) X hw (va_runV (As := []) (rest := [.int (v_1)]) (cfix X) (k_J0_coder_7d493 l G cy κ S _ i hG hi_i) (cwV 0 X.2.2.2.1 gJ0_length_8abf5_J0_coder_7d493 rfl rfl rfl (by decide +kernel) ⟨Nat.le_of_ble_eq_true rfl, Nat.le_of_ble_eq_true rfl⟩) (pre_VS X hw _ i hi_i) rfl rfl hl.1 rfl (lv_room (Nat.le_of_ble_eq_true rfl)) dJ0_length_8abf5_6 ⟨Nat.le_of_ble_eq_true rfl, Nat.le_of_ble_eq_true rfl⟩) 0 0 (Nat.le_of_ble_eq_true rfl) (Nat.le_of_ble_eq_true rfl) (fun rr_4 S_5 H locs hp hw hfr hnw => ?_)
  obtain ⟨e2, hp⟩ := hp
  subst e2
  subst hp
  refine lv_ishr X.1 X.2.1 dJ0_length_8abf5_9 ?_
  refine lv_topi (fun v_6 ev_6 => ?_)
  have z_7 : v_6.toInt = v_1.toInt := z_shr0 ev_6 rfl
  exact ret_i X hw hr hlocks (Nat.le_of_ble_eq_true rfl) (Nat.le_of_ble_eq_true rfl) ⟨rfl, ⟨by omega, by omega⟩⟩ dJ0_length_8abf5_10
set_option maxHeartbeats 4000000 in
set_option maxRecDepth 100000 in
theorem k_J3_checkIndex_8e157 (l : Launch) (G : va_G) (cy : Nat → ClassId) (κ : Nat → Nat) (S : PS) (sz : Nat) (a1 : Int32) (a1_z : Int) (a2 : Int32) (a2_z : Int) (o : Option Nat) (hG : GX S) (hz_a1 : a1.toInt = a1_z) (hz_a2 : a2.toInt = a2_z) (hp_0 : 0 ≤ a1_z) (hp_1 : a1_z < a2_z) : Ci l yJ3_checkIndex_8e157 wsJ3_checkIndex_8e157 ({ frames := 1, cells := 0, slots := 0, locals := 48 }) G cy κ S sz [.int (a1), .int (a2), va_rf o] (fun (r : Int32) (S9 : PS) => S = S9 ∧ (True)) := by
  rcases o with _ | q_o
  · have z_b_1 := trivial
    refine ent_m (cc := cJ3_checkIndex_8e157) (maxL := 3) (ret := (some .int)) (by decide) rfl (Nat.le_of_ble_eq_true rfl) ?_
    intro p e s m below meth c ls X hr hlocks hin hw hl hsz
    subst hsz
    have X : Cx p c cJ3_checkIndex_8e157 3 s [.int (a1), .int (a2), .null].toArray wsJ3_checkIndex_8e157 RJ3 m G cy κ (AS S s.heap.size) := X
    have hl : lv_has ls 3 [(0, .int (a1)), (1, .int (a2)), (2, .null)] := hl
    have rg_a1 : (-2147483648) ≤ a1_z ∧ a1_z ≤ 2147483647 := by rw [← hz_a1]; exact ⟨z_lo _, z_hi _⟩
    have rg_a2 : (-2147483648) ≤ a2_z ∧ a2_z ≤ 2147483647 := by rw [← hz_a2]; exact ⟨z_lo _, z_hi _⟩
    refine lv_iload_n X.1 X.2.1 dJ3_checkIndex_8e157_0 rfl (lv_at hl 0 rfl) ?_
    refine lv_if_lt (tgt := 9) X.1 X.2.1 dJ3_checkIndex_8e157_1 (by decide) (fun c_2 => ?_) (fun c_2 => ?_)
    · exfalso
      have k_3 : a1_z < 0 := z_lt hz_a1 ti_0 c_2
      omega
    have k_4 : a1_z ≥ 0 := z_nlt hz_a1 ti_0 c_2
    refine lv_iload_n X.1 X.2.1 dJ3_checkIndex_8e157_4 rfl (lv_at hl 0 rfl) ?_
    refine lv_iload_n X.1 X.2.1 dJ3_checkIndex_8e157_5 rfl (lv_at hl 1 rfl) ?_
    refine lv_icmp_lt (tgt := 16) X.1 X.2.1 dJ3_checkIndex_8e157_6 (by decide) (fun c_5 => ?_) (fun c_5 => ?_)
    rotate_left
    · exfalso
      have k_6 : a1_z ≥ a2_z := z_nlt hz_a1 hz_a2 c_5
      omega
    have k_7 : a1_z < a2_z := z_lt hz_a1 hz_a2 c_5
    refine lv_iload_n X.1 X.2.1 dJ3_checkIndex_8e157_16 rfl (lv_at hl 0 rfl) ?_
    exact ret_i X hw hr hlocks (Nat.le_of_ble_eq_true rfl) (Nat.le_of_ble_eq_true rfl) ⟨rfl, trivial⟩ dJ3_checkIndex_8e157_17
  · have z_b_8 := trivial
    refine ent_m (cc := cJ3_checkIndex_8e157) (maxL := 3) (ret := (some .int)) (by decide) rfl (Nat.le_of_ble_eq_true rfl) ?_
    intro p e s m below meth c ls X hr hlocks hin hw hl hsz
    subst hsz
    have X : Cx p c cJ3_checkIndex_8e157 3 s [.int (a1), .int (a2), .ref q_o].toArray wsJ3_checkIndex_8e157 RJ3 m G cy κ (AS S s.heap.size) := X
    have hl : lv_has ls 3 [(0, .int (a1)), (1, .int (a2)), (2, .ref q_o)] := hl
    have rg_a1 : (-2147483648) ≤ a1_z ∧ a1_z ≤ 2147483647 := by rw [← hz_a1]; exact ⟨z_lo _, z_hi _⟩
    have rg_a2 : (-2147483648) ≤ a2_z ∧ a2_z ≤ 2147483647 := by rw [← hz_a2]; exact ⟨z_lo _, z_hi _⟩
    refine lv_iload_n X.1 X.2.1 dJ3_checkIndex_8e157_0 rfl (lv_at hl 0 rfl) ?_
    refine lv_if_lt (tgt := 9) X.1 X.2.1 dJ3_checkIndex_8e157_1 (by decide) (fun c_9 => ?_) (fun c_9 => ?_)
    · exfalso
      have k_10 : a1_z < 0 := z_lt hz_a1 ti_0 c_9
      omega
    have k_11 : a1_z ≥ 0 := z_nlt hz_a1 ti_0 c_9
    refine lv_iload_n X.1 X.2.1 dJ3_checkIndex_8e157_4 rfl (lv_at hl 0 rfl) ?_
    refine lv_iload_n X.1 X.2.1 dJ3_checkIndex_8e157_5 rfl (lv_at hl 1 rfl) ?_
    refine lv_icmp_lt (tgt := 16) X.1 X.2.1 dJ3_checkIndex_8e157_6 (by decide) (fun c_12 => ?_) (fun c_12 => ?_)
    rotate_left
    · exfalso
      have k_13 : a1_z ≥ a2_z := z_nlt hz_a1 hz_a2 c_12
      omega
    have k_14 : a1_z < a2_z := z_lt hz_a1 hz_a2 c_12
    refine lv_iload_n X.1 X.2.1 dJ3_checkIndex_8e157_16 rfl (lv_at hl 0 rfl) ?_
    exact ret_i X hw hr hlocks (Nat.le_of_ble_eq_true rfl) (Nat.le_of_ble_eq_true rfl) ⟨rfl, trivial⟩ dJ3_checkIndex_8e157_17
set_option maxHeartbeats 4000000 in
set_option maxRecDepth 100000 in
theorem k_J0_checkIndex_df160 (l : Launch) (G : va_G) (cy : Nat → ClassId) (κ : Nat → Nat) (S : PS) (sz : Nat) (a1 : Int32) (a1_z : Int) (a2 : Int32) (a2_z : Int) (hG : GX S) (hz_a1 : a1.toInt = a1_z) (hz_a2 : a2.toInt = a2_z) (hp_0 : 0 ≤ a1_z) (hp_1 : a1_z < a2_z) : Cv l yJ0_checkIndex_df160 wsJ0_checkIndex_df160 ({ frames := 2, cells := 0, slots := 0, locals := 96 }) G cy κ S sz [.int (a1), .int (a2)] (fun (S9 : PS) => S = S9 ∧ (True)) := by
  refine ent_m (cc := cJ0_checkIndex_df160) (maxL := 2) (ret := none) (by decide) rfl (Nat.le_of_ble_eq_true rfl) ?_
  intro p e s m below meth c ls X hr hlocks hin hw hl hsz
  subst hsz
  have X : Cx p c cJ0_checkIndex_df160 2 s [.int (a1), .int (a2)].toArray wsJ0_checkIndex_df160 RJ0 m G cy κ (AS S s.heap.size) := X
  have hl : lv_has ls 2 [(0, .int (a1)), (1, .int (a2))] := hl
  have rg_a1 : (-2147483648) ≤ a1_z ∧ a1_z ≤ 2147483647 := by rw [← hz_a1]; exact ⟨z_lo _, z_hi _⟩
  have rg_a2 : (-2147483648) ≤ a2_z ∧ a2_z ≤ 2147483647 := by rw [← hz_a2]; exact ⟨z_lo _, z_hi _⟩
  refine lv_iload_n X.1 X.2.1 dJ0_checkIndex_df160_0 rfl (lv_at hl 0 rfl) ?_
  refine lv_iload_n X.1 X.2.1 dJ0_checkIndex_df160_1 rfl (lv_at hl 1 rfl) ?_
  rcases X.2.2.2.2.2.2.2.2.2.2.2.2.2.1 with h_2 | ⟨q_1, h_2⟩
  · refine va_gets X.1 X.2.1 h_2 hw.2.2 X.2.2.2.2.1 (X.2.2.2.1 (.fieldLink RJ0 1053 "jdk/internal/util/Preconditions" "SIOOBE_FORMATTER" "Ljava/util/function/BiFunction;") (by decide +kernel)) (fun x h => h) dJ0_checkIndex_df160_2 ?_
    refine k_i (rm := { frames := 1, cells := 0, slots := 0, locals := 48 }) (av := [.int (a1), .int (a2), .null]) X hw (va_runS (As := [.int (a1), .int (a2), .null]) (rest := []) (cfix X) (k_J3_checkIndex_8e157 l G cy κ S _ (a1) (a1_z) (a2) (a2_z) none hG hz_a1 hz_a2 (by omega) (by omega)) (va_cwS 3 X.2.2.2.1 gJ0_checkIndex_df160_J3_checkIndex_8e157 rfl rfl rfl (by decide +kernel) ⟨Nat.le_of_ble_eq_true rfl, Nat.le_of_ble_eq_true rfl⟩) (pre_S X hw _) rfl rfl hl.1 rfl (lv_room (Nat.le_of_ble_eq_true rfl)) dJ0_checkIndex_df160_5 ⟨Nat.le_of_ble_eq_true rfl, Nat.le_of_ble_eq_true rfl⟩) 0 0 (Nat.le_of_ble_eq_true rfl) (Nat.le_of_ble_eq_true rfl) (fun rr_3 S_4 H locs hp hw hfr hnw => ?_)
    obtain ⟨e2, hp⟩ := hp
    subst e2
    have rg_5 := And.intro (z_lo rr_3) (z_hi rr_3)
    refine lv_pop X.1 X.2.1 dJ0_checkIndex_df160_8 rfl ?_
    exact ret_v X hw hr hlocks (Nat.le_of_ble_eq_true rfl) (Nat.le_of_ble_eq_true rfl) ⟨rfl, trivial⟩ dJ0_checkIndex_df160_9
  · refine va_gets X.1 X.2.1 h_2 hw.2.2 X.2.2.2.2.1 (X.2.2.2.1 (.fieldLink RJ0 1053 "jdk/internal/util/Preconditions" "SIOOBE_FORMATTER" "Ljava/util/function/BiFunction;") (by decide +kernel)) (fun x h => h) dJ0_checkIndex_df160_2 ?_
    refine k_i (rm := { frames := 1, cells := 0, slots := 0, locals := 48 }) (av := [.int (a1), .int (a2), .ref q_1]) X hw (va_runS (As := [.int (a1), .int (a2), .ref q_1]) (rest := []) (cfix X) (k_J3_checkIndex_8e157 l G cy κ S _ (a1) (a1_z) (a2) (a2_z) (some q_1) hG hz_a1 hz_a2 (by omega) (by omega)) (va_cwS 3 X.2.2.2.1 gJ0_checkIndex_df160_J3_checkIndex_8e157 rfl rfl rfl (by decide +kernel) ⟨Nat.le_of_ble_eq_true rfl, Nat.le_of_ble_eq_true rfl⟩) (pre_S X hw _) rfl rfl hl.1 rfl (lv_room (Nat.le_of_ble_eq_true rfl)) dJ0_checkIndex_df160_5 ⟨Nat.le_of_ble_eq_true rfl, Nat.le_of_ble_eq_true rfl⟩) 0 0 (Nat.le_of_ble_eq_true rfl) (Nat.le_of_ble_eq_true rfl) (fun rr_6 S_7 H locs hp hw hfr hnw => ?_)
    obtain ⟨e2, hp⟩ := hp
    subst e2
    have rg_8 := And.intro (z_lo rr_6) (z_hi rr_6)
    refine lv_pop X.1 X.2.1 dJ0_checkIndex_df160_8 rfl ?_
    exact ret_v X hw hr hlocks (Nat.le_of_ble_eq_true rfl) (Nat.le_of_ble_eq_true rfl) ⟨rfl, trivial⟩ dJ0_checkIndex_df160_9
