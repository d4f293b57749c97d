theorem strN_le (i : Nat) : strN i ≤ 64 := by
  by_cases h : i < 26
  · have : ∀ j : Fin 26, strN j ≤ 64 := by decide +kernel
    exact this ⟨i, h⟩
  · unfold strN strT
    rw [List.getD_eq_getElem?_getD, List.getElem?_eq_none (by simpa [strs] using h)]; decide
theorem z_shr0 {x v : Int32} {a : Int} (e : v = x >>> ((0 : Int32) &&& 31)) (hx : x.toInt = a) : v.toInt = a := by
  subst hx e
  have h0 : ((0 : Int32) &&& 31) = 0 := by decide
  rw [h0]
  have : x >>> (0 : Int32) = x := by
    apply Int32.toBitVec_inj.mp
    simp
  rw [this]
theorem z_i2c {x v : Int32} (e : v = (x.toUInt32 % 65536).toInt32) : 0 ≤ v.toInt ∧ v.toInt ≤ 65535 := by
  subst e
  have h2 : (x.toUInt32 % 65536).toNat = x.toUInt32.toNat % 65536 := UInt32.toNat_mod _ _
  have h4 : (x.toUInt32 % 65536).toInt32.toInt = ((x.toUInt32 % 65536).toNat : Int).bmod (2 ^ 32) := BitVec.toInt_eq_toNat_bmod _
  rw [h4, h2, bm_id (by omega) (by omega)]
  omega
theorem nar_char {v : Int32} (h0 : 0 ≤ v.toInt) (h1 : v.toInt ≤ 65535) : narrow .char (.int v) = .int v := by
  have e : v.toUInt32.toUInt16.toUInt32.toInt32 = v := by
    have hn : v.toUInt32.toNat < 65536 := by
      have h4 : v.toInt = (v.toUInt32.toNat : Int).bmod (2 ^ 32) := BitVec.toInt_eq_toNat_bmod _
      have h5 := v.toUInt32.toNat_lt
      rw [Int.bmod_def] at h4
      split at h4 <;> omega
    have e2 : v.toUInt32.toUInt16.toUInt32 = v.toUInt32 := by
      apply UInt32.toNat_inj.mp
      rw [UInt16.toNat_toUInt32, UInt32.toNat_toUInt16]
      omega
    rw [e2]; exact Int32.toInt32_toUInt32 v
  show Value.int (v.toUInt32.toUInt16.toUInt32.toInt32) = Value.int v
  rw [e]
section SROWS
variable {p : Program} {l : Launch} {e : Env} {R : Room} {s : State} {m : MethodId} {args : Array Value} {below : List Frame} {meth : Method} {c : Code} {H : Heap} {locs : List Loc} {cells slots : Nat} {Q : State → Prop}
variable {cc : ByteArray} {pc nL : Nat} {ls : Array Slot} {rest : List Value} {Ts : List Cond} {own ref : String} {G : va_G} {cy : Nat → ClassId} {κ : Nat → Nat} {A : Nat → Prop} {S : PS} {a k0 k index : Nat}
theorem ldcwS0 {T : State} (X : Stand p l e R s m args below meth c T locs cells slots) (hexec : p.tables.exec = Jvm.exec) {own text : String} {index : Nat} {a : Addr} (hown : s.vm.findClass own = some m.cls)
    (hconst : (Cond.stringRef own index text).before args s = true) (hev : (Term.string own index).eval args s none [] s = some (.ref a)) {g : JFrame} (hg : g.method = m) (hdg : decode c.code g.pc = .ok (.ldc_w index, 3)) :
    ∀ target, Steps p.tables e below (T.setTop { g with pc := g.pc + 3, stack := .ref a :: g.stack }) target → Steps p.tables e below (T.setTop g) target := by
  obtain ⟨k, cf, i, a', hk, hcf, hcp, -, hr, hev'⟩ := Cond.stringRef_spec hown hconst
  cases hev.symm.trans hev'
  obtain ⟨k', hk', he⟩ := X.warmed.alike.2.2 _ _ hk
  have hr' : k'.resolved[index]? = some (some (.string a)) := by
    rcases X.warmed.entry hk hk' index with h | ⟨h, -⟩
    · rw [h]; exact hr
    · rw [hr] at h; cases h
  intro target hrest
  subst hg
  jvm_step X.here [hexec, hdg, ldc_w.wp_string (e := e) (s := T) (f := g) X.here.top hk' (by rw [he]; exact hcf) hcp hr']
  exact hrest
theorem lv_ldcwS (hexec : p.tables.exec = Jvm.exec) (hb : c.code = cc) {own tx : String} {index q : Nat} (hown : s.vm.findClass own = some m.cls) (hZ : vk_R own index tx q s) (hdg : decode cc pc = .ok (.ldc_w index, 3))
    (k : W p l e R s m args below meth c H locs cells slots Q (F0 m (pc + 3) ls (.ref q :: rest))) : W p l e R s m args below meth c H locs cells slots Q (F0 m pc ls rest) := by
  intro T hT X
  obtain ⟨t, a1, b1⟩ := k T hT X
  exact ⟨t, ldcwS0 X hexec hown (text := tx) (a := q) hZ.1 hZ.2 (g := F0 m pc ls rest) rfl (by rw [hb]; exact hdg) t a1, b1⟩
theorem pre_VS (X : Cx p c cc nL s args Ts own m G cy κ A) (hw : Wd G cy A s.heap S H locs) (av : List Value) (i : Nat) (hi : i < 26) : PreV s H "java/lang/String" (κ (100 + i)) (va_Pc (.ref (κ (100 + i)) :: av) (Pw G cy κ S H.size)) av := by
  refine ⟨pw_blind, ?_, fun U hU hW => ⟨rfl, pw_of X hw hU hW⟩⟩
  obtain ⟨cell, h1, h2, h3, -⟩ := (X.2.2.2.2.2.2.2.2.2.2.2.2.2.2 i hi).2.1.kept hw.2.2.2.1
  exact ⟨cell, h1, h2, h3⟩
theorem ret_n {S0 S' : PS} {post : Int32 → PS → Prop} {v : Int32} {mc ms : Nat} {ty : FieldType} (X : Cx p c cc nL s args Ts own m G cy κ (AS S0 s.heap.size)) (hw : Wd G cy (AS S0 s.heap.size) s.heap S' H locs) (hr : meth.sig.returnType = some ty) (hlocks : meth.locks = false) (h1 : cells ≤ mc) (h2 : slots ≤ ms) (hv : narrow ty (.int v) = .int v) (hp : post v S') (hdg : decode cc pc = .ok (.ireturn, 1)) : W p l e R s m args below meth c H locs cells slots (MQ below (va_Qi post (Bw G cy S0 s.heap.size) (AS S0 s.heap.size)) args s mc ms (AS S0 s.heap.size)) (F0 m pc ls [.int v]) := by
  refine W.widen h1 h2 ?_
  exact W.zret X.1 X.2.1 hr hv (fun t ht hW => ⟨⟨v, S', rfl, hp, by rw [ht]; exact hw.1, hw.2.1⟩, hw.2.2.F ht⟩) hw.2.2.2.2 hdg hlocks
end SROWS
set_option maxRecDepth 20000 in
theorem ggX10_readInto_X10_forgetFault : GoodIn wsX10_readInto wsX10_forgetFault := goodIn_h _ [8, 0, 0, 139, 0, 0, 0, 0, 0, 0] [0, 1, 2, 3, 4, 5, 6, 7, 8, 9] (by decide +kernel) (by decide +kernel)
set_option maxRecDepth 20000 in
theorem gX10_readInto_X10_forgetFault : GoodIn wsX10_readInto (wsV RX10 25 RX10 yX10_forgetFault wsX10_forgetFault) := goodIn_app (goodIn_of _ (by decide +kernel)) ggX10_readInto_X10_forgetFault
set_option maxRecDepth 20000 in
theorem ggX10_readInto_X10_advance : GoodIn wsX10_readInto wsX10_advance := goodIn_h _ [2, 0, 3, 6, 0, 0, 0, 0, 0, 0, 0, 0, 0, 0, 0, 0, 0, 0, 0, 0, 0, 0, 0, 116, 0, 0, 0, 0, 0, 0] [3, 0, 4, 5, 1, 6, 7, 8, 2, 9, 10, 11, 12, 13, 14, 15, 16, 17, 18, 19, 20, 21, 22, 23, 24, 25, 26, 27, 28, 29] (by decide +kernel) (by decide +kernel)
set_option maxRecDepth 20000 in
theorem gX10_readInto_X10_advance : GoodIn wsX10_readInto (wsV RX10 34 RX10 yX10_advance wsX10_advance) := goodIn_app (goodIn_of _ (by decide +kernel)) ggX10_readInto_X10_advance
set_option maxRecDepth 20000 in
theorem ggX10_readInto_X10_readRule : GoodIn wsX10_readInto wsX10_readRule := goodIn_h _ [1, 0, 0, 3, 1, 0, 0, 0, 0, 0, 0, 0, 0, 0, 0, 0, 0, 0, 0, 0, 0, 0, 0, 0, 0, 0, 0, 0, 0, 3, 0, 0, 0, 0, 0, 0, 0, 0, 0, 0, 0, 0, 0, 0, 0, 0, 0, 0, 0, 0, 0, 0, 0, 0, 0, 0, 0, 0, 0, 0, 0, 0, 0, 0, 0, 0, 0, 0, 0, 0, 0, 0, 0, 0, 0, 0, 0, 0, 0, 0, 0, 0, 0, 0, 0, 0, 0, 0, 0, 0, 0, 0, 0, 0, 0, 0, 0, 0, 0, 0, 0, 0, 0, 0, 0, 0, 0, 0, 0, 0, 0, 0, 0, 0, 0, 0, 0, 0, 0, 0, 0, 0, 0, 0, 0, 0, 0, 0, 0, 0, 0, 0, 0, 0, 0, 0, 0, 0, 0, 0, 0, 0, 0, 0, 0, 0, 0, 0, 0] [29, 0, 30, 31, 32, 3, 33, 2, 1, 10, 34, 35, 36, 37, 38, 39, 40, 41, 42, 43, 44, 45, 12, 13, 14, 15, 11, 16, 46, 47, 48, 49, 50, 51, 52, 53, 54, 55, 56, 57, 58, 59, 60, 61, 62, 63, 64, 65, 66, 67, 68, 69, 70, 71, 72, 73, 74, 75, 76, 77, 78, 79, 80, 81, 82, 83, 84, 85, 86, 87, 88, 89, 90, 4, 5, 91, 92, 93, 94, 95, 96, 97, 6, 7, 8, 9, 17, 18, 19, 20, 21, 22, 23, 24, 25, 26, 27, 28, 98, 99, 100, 101, 102, 103, 104, 105, 106, 107, 108, 109, 110, 111, 112, 113, 114, 115, 116, 117, 118, 119, 120, 121, 122, 123, 124, 125, 126, 127, 128, 129, 130, 131, 132, 133, 134, 135, 136, 137, 138, 139, 140, 141, 142, 143, 144, 145, 146, 147, 148] (by decide +kernel) (by decide +kernel)
set_option maxRecDepth 20000 in
theorem gX10_readInto_X10_readRule : GoodIn wsX10_readInto (wsV RX10 40 RX10 yX10_readRule wsX10_readRule) := goodIn_app (goodIn_of _ (by decide +kernel)) ggX10_readInto_X10_readRule
theorem dX10_readInto_0 : decode cX10_readInto 0 = .ok (.aload_n 0, 1) := by decide +kernel
theorem dX10_readInto_1 : decode cX10_readInto 1 = .ok (.invokevirtual 25, 3) := by decide +kernel
theorem dX10_readInto_4 : decode cX10_readInto 4 = .ok (.aload_n 1, 1) := by decide +kernel
theorem dX10_readInto_5 : decode cX10_readInto 5 = .ok (.iconst 0, 1) := by decide +kernel
theorem dX10_readInto_6 : decode cX10_readInto 6 = .ok (.putfield 28, 3) := by decide +kernel
theorem dX10_readInto_9 : decode cX10_readInto 9 = .ok (.aload_n 0, 1) := by decide +kernel
theorem dX10_readInto_10 : decode cX10_readInto 10 = .ok (.iconst 0, 1) := by decide +kernel
theorem dX10_readInto_11 : decode cX10_readInto 11 = .ok (.putfield 31, 3) := by decide +kernel
theorem dX10_readInto_14 : decode cX10_readInto 14 = .ok (.aload_n 0, 1) := by decide +kernel
theorem dX10_readInto_15 : decode cX10_readInto 15 = .ok (.invokevirtual 34, 3) := by decide +kernel
theorem dX10_readInto_18 : decode cX10_readInto 18 = .ok (.iconst 0, 1) := by decide +kernel
theorem dX10_readInto_19 : decode cX10_readInto 19 = .ok (.istore_n 2, 1) := by decide +kernel
theorem dX10_readInto_20 : decode cX10_readInto 20 = .ok (.iload_n 2, 1) := by decide +kernel
theorem dX10_readInto_21 : decode cX10_readInto 21 = .ok (.bipush 12, 2) := by decide +kernel
theorem dX10_readInto_23 : decode cX10_readInto 23 = .ok (.if_icmp .gt 26, 3) := by decide +kernel
theorem dX10_readInto_26 : decode cX10_readInto 26 = .ok (.aload_n 0, 1) := by decide +kernel
theorem dX10_readInto_27 : decode cX10_readInto 27 = .ok (.getfield 37, 3) := by decide +kernel
theorem dX10_readInto_30 : decode cX10_readInto 30 = .ok (.ifCond .eq 19, 3) := by decide +kernel
theorem dX10_readInto_33 : decode cX10_readInto 33 = .ok (.aload_n 0, 1) := by decide +kernel
theorem dX10_readInto_34 : decode cX10_readInto 34 = .ok (.aload_n 1, 1) := by decide +kernel
theorem dX10_readInto_35 : decode cX10_readInto 35 = .ok (.invokevirtual 40, 3) := by decide +kernel
theorem dX10_readInto_38 : decode cX10_readInto 38 = .ok (.ifCond .ne 5, 3) := by decide +kernel
theorem dX10_readInto_41 : decode cX10_readInto 41 = .ok (.iconst 0, 1) := by decide +kernel
theorem dX10_readInto_42 : decode cX10_readInto 42 = .ok (.ireturn, 1) := by decide +kernel
theorem dX10_readInto_43 : decode cX10_readInto 43 = .ok (.iinc 2 1, 3) := by decide +kernel
theorem dX10_readInto_46 : decode cX10_readInto 46 = .ok (.goto (-26), 3) := by decide +kernel
theorem dX10_readInto_49 : decode cX10_readInto 49 = .ok (.iconst 1, 1) := by decide +kernel
theorem dX10_readInto_50 : decode cX10_readInto 50 = .ok (.ireturn, 1) := by decide +kernel
set_option maxRecDepth 20000 in
theorem ggX10_readRule_X10_isWord : GoodIn wsX10_readRule wsX10_isWord := goodIn_h _ [5, 0, 0, 0, 0, 0, 0, 0, 0, 0, 0, 0, 0, 0, 0, 0, 0, 0, 0, 0, 0, 0, 0, 0, 0, 0, 0, 0, 0, 0, 0, 0, 0, 0, 0, 0, 0, 0, 0, 0, 0, 0, 0, 0, 0, 0, 0, 0, 0, 0, 0, 0, 0, 0, 0, 0, 0, 0, 0, 0, 77, 0, 0, 0, 0, 0, 0] [1, 2, 3, 4, 5, 6, 7, 8, 9, 10, 11, 12, 13, 14, 15, 16, 17, 18, 19, 0, 20, 21, 22, 23, 24, 25, 26, 27, 28, 29, 30, 31, 32, 33, 34, 35, 36, 37, 38, 39, 40, 41, 42, 43, 44, 45, 46, 47, 48, 49, 50, 51, 52, 53, 54, 55, 56, 57, 58, 59, 60, 61, 62, 63, 64, 65, 66] (by decide +kernel) (by decide +kernel)
set_option maxRecDepth 20000 in
theorem gX10_readRule_X10_isWord : GoodIn wsX10_readRule (wsV RX10 46 RX10 yX10_isWord wsX10_isWord) := goodIn_app (goodIn_of _ (by decide +kernel)) ggX10_readRule_X10_isWord
set_option maxRecDepth 20000 in
theorem ggX10_readRule_X10_actAtHand : GoodIn wsX10_readRule wsX10_actAtHand := goodIn_h _ [2, 0, 0, 0, 0, 0, 0, 0, 0, 0, 0, 0, 0, 0, 0, 0, 0, 0, 0, 0, 0, 0, 0, 0, 0, 0, 0, 0, 0, 0, 0, 0, 0, 0, 0, 0, 0, 0, 0, 0, 0, 0, 0, 0, 0, 0, 0, 0, 0, 0, 0, 0, 0, 0, 0, 0, 0, 0, 0, 0, 0, 0, 0, 3, 73, 0, 0, 0, 0, 0, 0] [63, 0, 1, 2, 3, 4, 5, 6, 7, 8, 9, 10, 11, 12, 13, 14, 15, 16, 17, 18, 19, 20, 21, 22, 23, 24, 25, 26, 27, 28, 29, 30, 31, 32, 33, 34, 35, 36, 37, 38, 39, 40, 41, 42, 43, 44, 45, 46, 47, 48, 49, 50, 51, 52, 53, 54, 55, 56, 57, 58, 59, 60, 61, 62, 64, 65, 66, 67, 68, 69, 70] (by decide +kernel) (by decide +kernel)
set_option maxRecDepth 20000 in
theorem gX10_readRule_X10_actAtHand : GoodIn wsX10_readRule (wsV RX10 50 RX10 yX10_actAtHand wsX10_actAtHand) := goodIn_app (goodIn_of _ (by decide +kernel)) ggX10_readRule_X10_actAtHand
set_option maxRecDepth 20000 in
theorem ggX10_readRule_X10_fail : GoodIn wsX10_readRule wsX10_fail := goodIn_h _ [9, 62, 0, 0, 67, 0, 0, 0, 0, 0, 0] [1, 2, 0, 3, 4, 5, 6, 7, 8, 9, 10] (by decide +kernel) (by decide +kernel)
set_option maxRecDepth 20000 in
theorem gX10_readRule_X10_fail : GoodIn wsX10_readRule (wsV RX10 54 RX10 yX10_fail wsX10_fail) := goodIn_app (goodIn_of _ (by decide +kernel)) ggX10_readRule_X10_fail
set_option maxRecDepth 20000 in
theorem ggX10_readRule_X6_openRule : GoodIn wsX10_readRule wsX6_openRule := goodIn_h _ [79, 0, 0, 53, 0, 0, 0, 0, 0, 0] [0, 1, 2, 3, 4, 5, 6, 7, 8, 9] (by decide +kernel) (by decide +kernel)
set_option maxRecDepth 20000 in
theorem gX10_readRule_X6_openRule : GoodIn wsX10_readRule (wsV RX10 58 RX6 yX6_openRule wsX6_openRule) := goodIn_app (goodIn_of _ (by decide +kernel)) ggX10_readRule_X6_openRule
set_option maxRecDepth 20000 in
theorem ggX10_readRule_X10_advance : GoodIn wsX10_readRule wsX10_advance := goodIn_h _ [5, 1, 0, 0, 12, 0, 0, 0, 0, 0, 57, 0, 0, 0, 0, 0, 0, 0, 0, 0, 0, 0, 0, 44, 0, 0, 0, 0, 0, 0] [10, 2, 3, 8, 1, 4, 5, 6, 0, 7, 9, 11, 12, 13, 14, 15, 16, 17, 18, 19, 20, 21, 22, 23, 24, 25, 26, 27, 28, 29] (by decide +kernel) (by decide +kernel)
set_option maxRecDepth 20000 in
theorem gX10_readRule_X10_advance : GoodIn wsX10_readRule (wsV RX10 34 RX10 yX10_advance wsX10_advance) := goodIn_app (goodIn_of _ (by decide +kernel)) ggX10_readRule_X10_advance
set_option maxRecDepth 20000 in
theorem ggX10_readRule_X10_readConditions : GoodIn wsX10_readRule wsX10_readConditions := goodIn_h _ [2, 0, 0, 0, 0, 0, 0, 0, 0, 0, 0, 0, 0, 0, 0, 0, 0, 0, 0, 0, 0, 0, 0, 0, 0, 0, 0, 0, 0, 0, 0, 0, 0, 0, 0, 0, 0, 0, 0, 0, 0, 0, 0, 0, 0, 0, 0, 0, 0, 0, 0, 0, 0, 0, 0, 0, 0, 0, 0, 0, 0, 0, 0, 4, 0, 0, 0, 0, 0, 3, 1, 0, 0, 0, 0, 0, 0, 0, 0, 0, 0, 0, 0, 0, 0, 0, 0, 0, 3, 0, 0, 0, 0, 0, 0, 0, 0, 0, 0, 0, 0, 0, 0, 0, 0, 0, 0, 0, 0, 0, 0, 0, 10, 0, 0, 0, 0, 0, 0, 0, 0, 0, 0, 0, 0, 0] [88, 89, 90, 91, 3, 92, 7, 5, 93, 94, 95, 96, 0, 1, 2, 4, 6, 8, 9, 10, 11, 12, 13, 14, 15, 16, 17, 18, 19, 20, 21, 22, 23, 24, 25, 26, 27, 28, 29, 30, 31, 32, 33, 34, 35, 36, 37, 38, 39, 40, 41, 42, 43, 44, 45, 46, 47, 48, 49, 50, 51, 52, 53, 54, 55, 56, 57, 58, 59, 60, 61, 62, 63, 64, 65, 66, 67, 68, 72, 73, 74, 75, 76, 77, 78, 79, 80, 81, 82, 83, 84, 85, 86, 87, 97, 98, 99, 100, 101, 102, 103, 104, 105, 106, 107, 69, 108, 70, 71, 109, 110, 111, 119, 120, 121, 122, 123, 124, 125, 112, 113, 114, 115, 116, 117, 118] (by decide +kernel) (by decide +kernel)
set_option maxRecDepth 20000 in
theorem gX10_readRule_X10_readConditions : GoodIn wsX10_readRule (wsV RX10 61 RX10 yX10_readConditions wsX10_readConditions) := goodIn_app (goodIn_of _ (by decide +kernel)) ggX10_readRule_X10_readConditions
set_option maxRecDepth 20000 in
theorem ggX10_readRule_X10_readAct : GoodIn wsX10_readRule wsX10_readAct := goodIn_h _ [2, 0, 0, 0, 0, 0, 0, 0, 0, 0, 0, 0, 0, 0, 0, 0, 0, 0, 0, 0, 0, 0, 0, 0, 0, 0, 0, 0, 0, 0, 0, 0, 0, 0, 0, 0, 0, 0, 0, 0, 0, 0, 0, 0, 0, 0, 0, 0, 0, 0, 0, 0, 0, 0, 0, 0, 0, 0, 0, 0, 0, 0, 0, 0, 0, 0, 0, 0, 0, 0, 0, 0, 0, 3, 1, 1, 0, 0, 0, 0, 0, 0, 0, 0, 0, 0, 0, 0, 0, 0, 0, 12, 0, 0, 0, 0, 0, 0, 0, 10, 0, 0, 0, 0, 0, 0, 0, 0, 0, 0, 0, 0, 0, 0, 0, 0, 0, 0, 0, 0] [99, 5, 63, 64, 65, 3, 66, 0, 1, 2, 4, 6, 7, 8, 9, 10, 11, 12, 13, 14, 15, 16, 17, 18, 19, 20, 21, 22, 23, 24, 25, 26, 27, 28, 29, 30, 31, 32, 33, 34, 35, 36, 37, 38, 39, 40, 41, 42, 43, 44, 45, 46, 47, 48, 49, 50, 51, 52, 53, 54, 55, 56, 57, 58, 59, 60, 61, 62, 67, 68, 69, 70, 71, 72, 75, 76, 77, 78, 79, 80, 81, 82, 83, 84, 85, 86, 87, 88, 89, 90, 95, 96, 97, 98, 91, 92, 93, 94, 100, 101, 102, 73, 103, 74, 104, 105, 113, 114, 115, 116, 117, 118, 119, 106, 107, 108, 109, 110, 111, 112] (by decide +kernel) (by decide +kernel)
set_option maxRecDepth 20000 in
theorem gX10_readRule_X10_readAct : GoodIn wsX10_readRule (wsV RX10 64 RX10 yX10_readAct wsX10_readAct) := goodIn_app (goodIn_of _ (by decide +kernel)) ggX10_readRule_X10_readAct
theorem dX10_readRule_0 : decode cX10_readRule 0 = .ok (.aload_n 0, 1) := by decide +kernel
theorem dX10_readRule_1 : decode cX10_readRule 1 = .ok (.ldc 44, 2) := by decide +kernel
theorem dX10_readRule_3 : decode cX10_readRule 3 = .ok (.invokevirtual 46, 3) := by decide +kernel
theorem dX10_readRule_6 : decode cX10_readRule 6 = .ok (.istore_n 2, 1) := by decide +kernel
theorem dX10_readRule_7 : decode cX10_readRule 7 = .ok (.iload_n 2, 1) := by decide +kernel
theorem dX10_readRule_8 : decode cX10_readRule 8 = .ok (.ifCond .ne 17, 3) := by decide +kernel
theorem dX10_readRule_11 : decode cX10_readRule 11 = .ok (.aload_n 0, 1) := by decide +kernel
theorem dX10_readRule_12 : decode cX10_readRule 12 = .ok (.invokevirtual 50, 3) := by decide +kernel
theorem dX10_readRule_15 : decode cX10_readRule 15 = .ok (.iconst (-1), 1) := by decide +kernel
theorem dX10_readRule_16 : decode cX10_readRule 16 = .ok (.if_icmp .ne 9, 3) := by decide +kernel
theorem dX10_readRule_19 : decode cX10_readRule 19 = .ok (.aload_n 0, 1) := by decide +kernel
theorem dX10_readRule_20 : decode cX10_readRule 20 = .ok (.iconst 1, 1) := by decide +kernel
theorem dX10_readRule_21 : decode cX10_readRule 21 = .ok (.invokevirtual 54, 3) := by decide +kernel
theorem dX10_readRule_24 : decode cX10_readRule 24 = .ok (.ireturn, 1) := by decide +kernel
theorem dX10_readRule_25 : decode cX10_readRule 25 = .ok (.aload_n 1, 1) := by decide +kernel
theorem dX10_readRule_26 : decode cX10_readRule 26 = .ok (.getfield 28, 3) := by decide +kernel
theorem dX10_readRule_29 : decode cX10_readRule 29 = .ok (.bipush 12, 2) := by decide +kernel
theorem dX10_readRule_31 : decode cX10_readRule 31 = .ok (.if_icmp .lt 9, 3) := by decide +kernel
theorem dX10_readRule_34 : decode cX10_readRule 34 = .ok (.aload_n 0, 1) := by decide +kernel
theorem dX10_readRule_35 : decode cX10_readRule 35 = .ok (.iconst 2, 1) := by decide +kernel
theorem dX10_readRule_36 : decode cX10_readRule 36 = .ok (.invokevirtual 54, 3) := by decide +kernel
theorem dX10_readRule_39 : decode cX10_readRule 39 = .ok (.ireturn, 1) := by decide +kernel
theorem dX10_readRule_40 : decode cX10_readRule 40 = .ok (.aload_n 1, 1) := by decide +kernel
theorem dX10_readRule_41 : decode cX10_readRule 41 = .ok (.invokevirtual 58, 3) := by decide +kernel
theorem dX10_readRule_44 : decode cX10_readRule 44 = .ok (.iload_n 2, 1) := by decide +kernel
theorem dX10_readRule_45 : decode cX10_readRule 45 = .ok (.ifCond .eq 17, 3) := by decide +kernel
theorem dX10_readRule_48 : decode cX10_readRule 48 = .ok (.aload_n 0, 1) := by decide +kernel
theorem dX10_readRule_49 : decode cX10_readRule 49 = .ok (.invokevirtual 34, 3) := by decide +kernel
theorem dX10_readRule_52 : decode cX10_readRule 52 = .ok (.aload_n 0, 1) := by decide +kernel
theorem dX10_readRule_53 : decode cX10_readRule 53 = .ok (.aload_n 1, 1) := by decide +kernel
theorem dX10_readRule_54 : decode cX10_readRule 54 = .ok (.invokevirtual 61, 3) := by decide +kernel
theorem dX10_readRule_57 : decode cX10_readRule 57 = .ok (.ifCond .ne 5, 3) := by decide +kernel
theorem dX10_readRule_60 : decode cX10_readRule 60 = .ok (.iconst 0, 1) := by decide +kernel
theorem dX10_readRule_61 : decode cX10_readRule 61 = .ok (.ireturn, 1) := by decide +kernel
theorem dX10_readRule_62 : decode cX10_readRule 62 = .ok (.aload_n 0, 1) := by decide +kernel
theorem dX10_readRule_63 : decode cX10_readRule 63 = .ok (.aload_n 1, 1) := by decide +kernel
theorem dX10_readRule_64 : decode cX10_readRule 64 = .ok (.invokevirtual 64, 3) := by decide +kernel
theorem dX10_readRule_67 : decode cX10_readRule 67 = .ok (.ireturn, 1) := by decide +kernel
set_option maxRecDepth 20000 in
theorem ggX10_readConditions_X10_readCondition : GoodIn wsX10_readConditions wsX10_readCondition := goodIn_h _ [4, 0, 0, 0, 0, 0, 0, 0, 0, 0, 0, 0, 0, 0, 0, 0, 0, 0, 0, 0, 0, 0, 0, 0, 0, 0, 0, 0, 0, 0, 0, 0, 0, 0, 0, 0, 0, 0, 0, 0, 0, 0, 0, 0, 0, 0, 0, 0, 0, 0, 0, 0, 0, 0, 0, 0, 0, 0, 0, 0, 0, 0, 0, 0, 0, 0, 0, 0, 0, 0, 0, 0, 0, 0, 0, 0, 0, 0, 0, 0, 0, 0, 0, 0, 0, 0, 0, 0, 0, 0, 0, 0, 0, 0, 0, 0, 0, 0, 0, 0, 0, 0, 0, 0, 0, 0, 0, 0, 0, 0, 0, 0, 0, 0, 0, 0, 0, 0, 0, 0, 0, 0] [1, 2, 3, 4, 5, 6, 0, 7, 8, 9, 10, 11, 12, 13, 14, 15, 16, 17, 18, 19, 20, 21, 22, 23, 24, 25, 26, 27, 28, 29, 30, 31, 32, 33, 34, 35, 36, 37, 38, 39, 40, 41, 42, 43, 44, 45, 46, 47, 48, 49, 50, 51, 52, 53, 54, 55, 56, 57, 58, 59, 60, 61, 62, 63, 64, 65, 66, 67, 68, 69, 70, 71, 72, 73, 74, 75, 76, 77, 78, 79, 80, 81, 82, 83, 84, 85, 86, 87, 88, 89, 90, 91, 92, 93, 94, 95, 96, 97, 98, 99, 100, 101, 102, 103, 104, 105, 106, 107, 108, 109, 110, 111, 112, 113, 114, 115, 116, 117, 118, 119, 120, 121] (by decide +kernel) (by decide +kernel)
set_option maxRecDepth 20000 in
theorem gX10_readConditions_X10_readCondition : GoodIn wsX10_readConditions (wsV RX10 67 RX10 yX10_readCondition wsX10_readCondition) := goodIn_app (goodIn_of _ (by decide +kernel)) ggX10_readConditions_X10_readCondition
set_option maxRecDepth 20000 in
theorem ggX10_readConditions_X10_isSign : GoodIn wsX10_readConditions wsX10_isSign := goodIn_h _ [4, 1, 0, 21, 0, 0, 0, 0, 0, 62, 14, 0, 0, 0, 0, 0, 0] [9, 2, 1, 3, 4, 5, 0, 6, 7, 8, 10, 11, 12, 13, 14, 15, 16] (by decide +kernel) (by decide +kernel)
set_option maxRecDepth 20000 in
theorem gX10_readConditions_X10_isSign : GoodIn wsX10_readConditions (wsV RX10 70 RX10 yX10_isSign wsX10_isSign) := goodIn_app (goodIn_of _ (by decide +kernel)) ggX10_readConditions_X10_isSign
set_option maxRecDepth 20000 in
theorem ggX10_readConditions_X10_advance : GoodIn wsX10_readConditions wsX10_advance := goodIn_h _ [4, 1, 0, 8, 12, 0, 0, 0, 0, 0, 46, 0, 0, 0, 0, 0, 0, 0, 0, 0, 0, 0, 0, 18, 0, 0, 0, 0, 0, 0] [10, 3, 1, 8, 2, 4, 5, 6, 0, 7, 9, 11, 12, 13, 14, 15, 16, 17, 18, 19, 20, 21, 22, 23, 24, 25, 26, 27, 28, 29] (by decide +kernel) (by decide +kernel)
set_option maxRecDepth 20000 in
theorem gX10_readConditions_X10_advance : GoodIn wsX10_readConditions (wsV RX10 34 RX10 yX10_advance wsX10_advance) := goodIn_app (goodIn_of _ (by decide +kernel)) ggX10_readConditions_X10_advance
set_option maxRecDepth 20000 in
theorem ggX10_readConditions_X10_isWord : GoodIn wsX10_readConditions wsX10_isWord := goodIn_h _ [4, 1, 0, 7, 0, 0, 0, 0, 0, 0, 0, 0, 0, 0, 0, 0, 0, 0, 0, 0, 0, 0, 0, 0, 0, 0, 0, 0, 0, 0, 0, 0, 0, 0, 0, 0, 0, 0, 0, 0, 0, 0, 0, 0, 0, 0, 0, 0, 0, 0, 0, 0, 0, 0, 0, 0, 0, 0, 0, 0, 40, 0, 0, 0, 0, 0, 0] [3, 2, 4, 1, 5, 6, 7, 8, 9, 10, 11, 12, 13, 14, 15, 16, 17, 18, 19, 0, 20, 21, 22, 23, 24, 25, 26, 27, 28, 29, 30, 31, 32, 33, 34, 35, 36, 37, 38, 39, 40, 41, 42, 43, 44, 45, 46, 47, 48, 49, 50, 51, 52, 53, 54, 55, 56, 57, 58, 59, 60, 61, 62, 63, 64, 65, 66] (by decide +kernel) (by decide +kernel)
set_option maxRecDepth 20000 in
theorem gX10_readConditions_X10_isWord : GoodIn wsX10_readConditions (wsV RX10 46 RX10 yX10_isWord wsX10_isWord) := goodIn_app (goodIn_of _ (by decide +kernel)) ggX10_readConditions_X10_isWord
set_option maxRecDepth 20000 in
theorem ggX10_readConditions_X10_fail : GoodIn wsX10_readConditions wsX10_fail := goodIn_h _ [6, 68, 0, 0, 34, 0, 0, 0, 0, 0, 0] [1, 2, 0, 3, 4, 5, 6, 7, 8, 9, 10] (by decide +kernel) (by decide +kernel)
set_option maxRecDepth 20000 in
theorem gX10_readConditions_X10_fail : GoodIn wsX10_readConditions (wsV RX10 54 RX10 yX10_fail wsX10_fail) := goodIn_app (goodIn_of _ (by decide +kernel)) ggX10_readConditions_X10_fail
set_option maxRecDepth 20000 in
theorem ggX10_readConditions_X10_fieldAtHand : GoodIn wsX10_readConditions wsX10_fieldAtHand := goodIn_h _ [4, 1, 0, 3, 0, 0, 0, 0, 0, 0, 0, 0, 0, 0, 0, 0, 0, 0, 0, 0, 0, 0, 0, 0, 0, 0, 0, 0, 0, 0, 0, 0, 0, 0, 0, 0, 0, 0, 0, 0, 0, 0, 0, 0, 0, 0, 0, 0, 0, 0, 0, 0, 0, 0, 0, 0, 0, 0, 0, 0, 0, 0, 0, 0, 40, 0, 0, 0, 0, 0, 0] [3, 4, 5, 6, 0, 7, 2, 8, 1, 9, 10, 11, 12, 13, 14, 15, 16, 17, 18, 19, 20, 21, 22, 23, 24, 25, 26, 27, 28, 29, 30, 31, 32, 33, 34, 35, 36, 37, 38, 39, 40, 41, 42, 43, 44, 45, 46, 47, 48, 49, 50, 51, 52, 53, 54, 55, 56, 57, 58, 59, 60, 61, 62, 63, 64, 65, 66, 67, 68, 69, 70] (by decide +kernel) (by decide +kernel)
set_option maxRecDepth 20000 in
theorem gX10_readConditions_X10_fieldAtHand : GoodIn wsX10_readConditions (wsV RX10 76 RX10 yX10_fieldAtHand wsX10_fieldAtHand) := goodIn_app (goodIn_of _ (by decide +kernel)) ggX10_readConditions_X10_fieldAtHand
theorem dX10_readConditions_0 : decode cX10_readConditions 0 = .ok (.iconst 0, 1) := by decide +kernel
theorem dX10_readConditions_1 : decode cX10_readConditions 1 = .ok (.istore_n 2, 1) := by decide +kernel
theorem dX10_readConditions_2 : decode cX10_readConditions 2 = .ok (.iload_n 2, 1) := by decide +kernel
theorem dX10_readConditions_3 : decode cX10_readConditions 3 = .ok (.iconst 4, 1) := by decide +kernel
theorem dX10_readConditions_4 : decode cX10_readConditions 4 = .ok (.if_icmp .ge 53, 3) := by decide +kernel
theorem dX10_readConditions_7 : decode cX10_readConditions 7 = .ok (.aload_n 0, 1) := by decide +kernel
theorem dX10_readConditions_8 : decode cX10_readConditions 8 = .ok (.aload_n 1, 1) := by decide +kernel
theorem dX10_readConditions_9 : decode cX10_readConditions 9 = .ok (.invokevirtual 67, 3) := by decide +kernel
theorem dX10_readConditions_12 : decode cX10_readConditions 12 = .ok (.ifCond .ne 5, 3) := by decide +kernel
theorem dX10_readConditions_15 : decode cX10_readConditions 15 = .ok (.iconst 0, 1) := by decide +kernel
theorem dX10_readConditions_16 : decode cX10_readConditions 16 = .ok (.ireturn, 1) := by decide +kernel
theorem dX10_readConditions_17 : decode cX10_readConditions 17 = .ok (.aload_n 0, 1) := by decide +kernel
theorem dX10_readConditions_18 : decode cX10_readConditions 18 = .ok (.bipush 58, 2) := by decide +kernel
theorem dX10_readConditions_20 : decode cX10_readConditions 20 = .ok (.invokevirtual 70, 3) := by decide +kernel
theorem dX10_readConditions_23 : decode cX10_readConditions 23 = .ok (.ifCond .eq 9, 3) := by decide +kernel
theorem dX10_readConditions_26 : decode cX10_readConditions 26 = .ok (.aload_n 0, 1) := by decide +kernel
theorem dX10_readConditions_27 : decode cX10_readConditions 27 = .ok (.invokevirtual 34, 3) := by decide +kernel
theorem dX10_readConditions_30 : decode cX10_readConditions 30 = .ok (.iconst 1, 1) := by decide +kernel
theorem dX10_readConditions_31 : decode cX10_readConditions 31 = .ok (.ireturn, 1) := by decide +kernel
theorem dX10_readConditions_32 : decode cX10_readConditions 32 = .ok (.aload_n 0, 1) := by decide +kernel
theorem dX10_readConditions_33 : decode cX10_readConditions 33 = .ok (.ldc 74, 2) := by decide +kernel
theorem dX10_readConditions_35 : decode cX10_readConditions 35 = .ok (.invokevirtual 46, 3) := by decide +kernel
theorem dX10_readConditions_38 : decode cX10_readConditions 38 = .ok (.ifCond .ne 9, 3) := by decide +kernel
theorem dX10_readConditions_41 : decode cX10_readConditions 41 = .ok (.aload_n 0, 1) := by decide +kernel
theorem dX10_readConditions_42 : decode cX10_readConditions 42 = .ok (.iconst 1, 1) := by decide +kernel
theorem dX10_readConditions_43 : decode cX10_readConditions 43 = .ok (.invokevirtual 54, 3) := by decide +kernel
theorem dX10_readConditions_46 : decode cX10_readConditions 46 = .ok (.ireturn, 1) := by decide +kernel
theorem dX10_readConditions_47 : decode cX10_readConditions 47 = .ok (.aload_n 0, 1) := by decide +kernel
theorem dX10_readConditions_48 : decode cX10_readConditions 48 = .ok (.invokevirtual 34, 3) := by decide +kernel
theorem dX10_readConditions_51 : decode cX10_readConditions 51 = .ok (.iinc 2 1, 3) := by decide +kernel
theorem dX10_readConditions_54 : decode cX10_readConditions 54 = .ok (.goto (-52), 3) := by decide +kernel
theorem dX10_readConditions_57 : decode cX10_readConditions 57 = .ok (.aload_n 0, 1) := by decide +kernel
theorem dX10_readConditions_58 : decode cX10_readConditions 58 = .ok (.aload_n 0, 1) := by decide +kernel
theorem dX10_readConditions_59 : decode cX10_readConditions 59 = .ok (.invokevirtual 76, 3) := by decide +kernel
theorem dX10_readConditions_62 : decode cX10_readConditions 62 = .ok (.iconst (-1), 1) := by decide +kernel
theorem dX10_readConditions_63 : decode cX10_readConditions 63 = .ok (.if_icmp .ne 7, 3) := by decide +kernel
theorem dX10_readConditions_66 : decode cX10_readConditions 66 = .ok (.iconst 1, 1) := by decide +kernel
theorem dX10_readConditions_67 : decode cX10_readConditions 67 = .ok (.goto 4, 3) := by decide +kernel
theorem dX10_readConditions_70 : decode cX10_readConditions 70 = .ok (.iconst 2, 1) := by decide +kernel
theorem dX10_readConditions_71 : decode cX10_readConditions 71 = .ok (.invokevirtual 54, 3) := by decide +kernel
theorem dX10_readConditions_74 : decode cX10_readConditions 74 = .ok (.ireturn, 1) := by decide +kernel
set_option maxRecDepth 20000 in
theorem ggX10_readCondition_X10_fieldAtHand : GoodIn wsX10_readCondition wsX10_fieldAtHand := goodIn_h _ [1, 0, 3, 0, 0, 0, 0, 0, 0, 0, 0, 0, 0, 0, 0, 0, 0, 0, 0, 0, 0, 0, 0, 0, 0, 0, 0, 0, 0, 0, 0, 0, 0, 0, 0, 0, 0, 0, 0, 0, 0, 0, 0, 0, 0, 0, 0, 0, 0, 0, 0, 0, 0, 0, 0, 0, 0, 0, 0, 0, 0, 0, 0, 0, 40, 0, 0, 0, 0, 0, 0] [3, 4, 5, 6, 2, 7, 1, 8, 0, 9, 10, 11, 12, 13, 14, 15, 16, 17, 18, 19, 20, 21, 22, 23, 24, 25, 26, 27, 28, 29, 30, 31, 32, 33, 34, 35, 36, 37, 38, 39, 40, 41, 42, 43, 44, 45, 46, 47, 48, 49, 50, 51, 52, 53, 54, 55, 56, 57, 58, 59, 60, 61, 62, 63, 64, 65, 66, 67, 68, 69, 70] (by decide +kernel) (by decide +kernel)
set_option maxRecDepth 20000 in
theorem gX10_readCondition_X10_fieldAtHand : GoodIn wsX10_readCondition (wsV RX10 76 RX10 yX10_fieldAtHand wsX10_fieldAtHand) := goodIn_app (goodIn_of _ (by decide +kernel)) ggX10_readCondition_X10_fieldAtHand
set_option maxRecDepth 20000 in
theorem ggX10_readCondition_X10_fail : GoodIn wsX10_readCondition wsX10_fail := goodIn_h _ [1, 69, 0, 0, 34, 0, 0, 0, 0, 0, 0] [1, 2, 0, 3, 4, 5, 6, 7, 8, 9, 10] (by decide +kernel) (by decide +kernel)
set_option maxRecDepth 20000 in
theorem gX10_readCondition_X10_fail : GoodIn wsX10_readCondition (wsV RX10 54 RX10 yX10_fail wsX10_fail) := goodIn_app (goodIn_of _ (by decide +kernel)) ggX10_readCondition_X10_fail
set_option maxRecDepth 20000 in
theorem ggX10_readCondition_X10_advance : GoodIn wsX10_readCondition wsX10_advance := goodIn_h _ [1, 0, 3, 5, 12, 0, 0, 0, 0, 0, 46, 0, 0, 0, 0, 0, 0, 0, 0, 0, 0, 0, 0, 18, 0, 0, 0, 0, 0, 0] [10, 3, 0, 8, 1, 4, 5, 6, 2, 7, 9, 11, 12, 13, 14, 15, 16, 17, 18, 19, 20, 21, 22, 23, 24, 25, 26, 27, 28, 29] (by decide +kernel) (by decide +kernel)
set_option maxRecDepth 20000 in
theorem gX10_readCondition_X10_advance : GoodIn wsX10_readCondition (wsV RX10 34 RX10 yX10_advance wsX10_advance) := goodIn_app (goodIn_of _ (by decide +kernel)) ggX10_readCondition_X10_advance
set_option maxRecDepth 20000 in
theorem ggX10_readCondition_X10_isSign : GoodIn wsX10_readCondition wsX10_isSign := goodIn_h _ [1, 0, 3, 18, 0, 0, 0, 0, 0, 62, 14, 0, 0, 0, 0, 0, 0] [9, 1, 0, 3, 4, 5, 2, 6, 7, 8, 10, 11, 12, 13, 14, 15, 16] (by decide +kernel) (by decide +kernel)
set_option maxRecDepth 20000 in
theorem gX10_readCondition_X10_isSign : GoodIn wsX10_readCondition (wsV RX10 70 RX10 yX10_isSign wsX10_isSign) := goodIn_app (goodIn_of _ (by decide +kernel)) ggX10_readCondition_X10_isSign
set_option maxRecDepth 20000 in
theorem ggX10_readCondition_X10_byteAt : GoodIn wsX10_readCondition wsX10_byteAt := goodIn_h _ [28, 0, 0, 77, 0, 0, 0, 0, 0, 0] [0, 1, 2, 3, 4, 5, 6, 7, 8, 9] (by decide +kernel) (by decide +kernel)
set_option maxRecDepth 20000 in
theorem gX10_readCondition_X10_byteAt : GoodIn wsX10_readCondition (wsV RX10 82 RX10 yX10_byteAt wsX10_byteAt) := goodIn_app (goodIn_of _ (by decide +kernel)) ggX10_readCondition_X10_byteAt
set_option maxRecDepth 20000 in
theorem ggX10_readCondition_X10_numberAtHand : GoodIn wsX10_readCondition wsX10_numberAtHand := goodIn_h _ [1, 4, 5, 12, 0, 0, 0, 0, 0, 66, 10, 0, 0, 0, 0, 0, 0] [9, 0, 2, 3, 4, 5, 1, 6, 7, 8, 10, 11, 12, 13, 14, 15, 16] (by decide +kernel) (by decide +kernel)
set_option maxRecDepth 20000 in
theorem gX10_readCondition_X10_numberAtHand : GoodIn wsX10_readCondition (wsV RX10 86 RX10 yX10_numberAtHand wsX10_numberAtHand) := goodIn_app (goodIn_of _ (by decide +kernel)) ggX10_readCondition_X10_numberAtHand
set_option maxRecDepth 20000 in
theorem ggX10_readCondition_X6_addCondition : GoodIn wsX10_readCondition wsX6_addCondition := goodIn_h _ [102, 0, 0, 0, 0, 0, 7, 0, 0, 0, 0, 0, 0] [0, 1, 2, 3, 4, 5, 6, 7, 8, 9, 10, 11, 12] (by decide +kernel) (by decide +kernel)
set_option maxRecDepth 20000 in
theorem gX10_readCondition_X6_addCondition : GoodIn wsX10_readCondition (wsV RX10 89 RX6 yX6_addCondition wsX6_addCondition) := goodIn_app (goodIn_of _ (by decide +kernel)) ggX10_readCondition_X6_addCondition
theorem dX10_readCondition_0 : decode cX10_readCondition 0 = .ok (.aload_n 0, 1) := by decide +kernel
theorem dX10_readCondition_1 : decode cX10_readCondition 1 = .ok (.invokevirtual 76, 3) := by decide +kernel
theorem dX10_readCondition_4 : decode cX10_readCondition 4 = .ok (.istore_n 2, 1) := by decide +kernel
theorem dX10_readCondition_5 : decode cX10_readCondition 5 = .ok (.iload_n 2, 1) := by decide +kernel
theorem dX10_readCondition_6 : decode cX10_readCondition 6 = .ok (.iconst (-1), 1) := by decide +kernel
theorem dX10_readCondition_7 : decode cX10_readCondition 7 = .ok (.if_icmp .ne 9, 3) := by decide +kernel
theorem dX10_readCondition_10 : decode cX10_readCondition 10 = .ok (.aload_n 0, 1) := by decide +kernel
theorem dX10_readCondition_11 : decode cX10_readCondition 11 = .ok (.iconst 1, 1) := by decide +kernel
theorem dX10_readCondition_12 : decode cX10_readCondition 12 = .ok (.invokevirtual 54, 3) := by decide +kernel
theorem dX10_readCondition_15 : decode cX10_readCondition 15 = .ok (.ireturn, 1) := by decide +kernel
theorem dX10_readCondition_16 : decode cX10_readCondition 16 = .ok (.aload_n 0, 1) := by decide +kernel
theorem dX10_readCondition_17 : decode cX10_readCondition 17 = .ok (.invokevirtual 34, 3) := by decide +kernel
theorem dX10_readCondition_20 : decode cX10_readCondition 20 = .ok (.aload_n 0, 1) := by decide +kernel
theorem dX10_readCondition_21 : decode cX10_readCondition 21 = .ok (.bipush 60, 2) := by decide +kernel
theorem dX10_readCondition_23 : decode cX10_readCondition 23 = .ok (.invokevirtual 70, 3) := by decide +kernel
theorem dX10_readCondition_26 : decode cX10_readCondition 26 = .ok (.ifCond .ne 27, 3) := by decide +kernel
theorem dX10_readCondition_29 : decode cX10_readCondition 29 = .ok (.aload_n 0, 1) := by decide +kernel
theorem dX10_readCondition_30 : decode cX10_readCondition 30 = .ok (.bipush 61, 2) := by decide +kernel
theorem dX10_readCondition_32 : decode cX10_readCondition 32 = .ok (.invokevirtual 70, 3) := by decide +kernel
theorem dX10_readCondition_35 : decode cX10_readCondition 35 = .ok (.ifCond .ne 18, 3) := by decide +kernel
theorem dX10_readCondition_38 : decode cX10_readCondition 38 = .ok (.aload_n 0, 1) := by decide +kernel
theorem dX10_readCondition_39 : decode cX10_readCondition 39 = .ok (.bipush 62, 2) := by decide +kernel
theorem dX10_readCondition_41 : decode cX10_readCondition 41 = .ok (.invokevirtual 70, 3) := by decide +kernel
theorem dX10_readCondition_44 : decode cX10_readCondition 44 = .ok (.ifCond .ne 9, 3) := by decide +kernel
theorem dX10_readCondition_47 : decode cX10_readCondition 47 = .ok (.aload_n 0, 1) := by decide +kernel
theorem dX10_readCondition_48 : decode cX10_readCondition 48 = .ok (.iconst 1, 1) := by decide +kernel
theorem dX10_readCondition_49 : decode cX10_readCondition 49 = .ok (.invokevirtual 54, 3) := by decide +kernel
theorem dX10_readCondition_52 : decode cX10_readCondition 52 = .ok (.ireturn, 1) := by decide +kernel
theorem dX10_readCondition_53 : decode cX10_readCondition 53 = .ok (.aload_n 0, 1) := by decide +kernel
theorem dX10_readCondition_54 : decode cX10_readCondition 54 = .ok (.aload_n 0, 1) := by decide +kernel
theorem dX10_readCondition_55 : decode cX10_readCondition 55 = .ok (.getfield 79, 3) := by decide +kernel
theorem dX10_readCondition_58 : decode cX10_readCondition 58 = .ok (.invokevirtual 82, 3) := by decide +kernel
theorem dX10_readCondition_61 : decode cX10_readCondition 61 = .ok (.istore_n 3, 1) := by decide +kernel
theorem dX10_readCondition_62 : decode cX10_readCondition 62 = .ok (.aload_n 0, 1) := by decide +kernel
theorem dX10_readCondition_63 : decode cX10_readCondition 63 = .ok (.invokevirtual 34, 3) := by decide +kernel
theorem dX10_readCondition_66 : decode cX10_readCondition 66 = .ok (.aload_n 0, 1) := by decide +kernel
theorem dX10_readCondition_67 : decode cX10_readCondition 67 = .ok (.getfield 37, 3) := by decide +kernel
theorem dX10_readCondition_70 : decode cX10_readCondition 70 = .ok (.iconst 2, 1) := by decide +kernel
theorem dX10_readCondition_71 : decode cX10_readCondition 71 = .ok (.if_icmp .eq 9, 3) := by decide +kernel
theorem dX10_readCondition_74 : decode cX10_readCondition 74 = .ok (.aload_n 0, 1) := by decide +kernel
theorem dX10_readCondition_75 : decode cX10_readCondition 75 = .ok (.iconst 1, 1) := by decide +kernel
theorem dX10_readCondition_76 : decode cX10_readCondition 76 = .ok (.invokevirtual 54, 3) := by decide +kernel
theorem dX10_readCondition_79 : decode cX10_readCondition 79 = .ok (.ireturn, 1) := by decide +kernel
theorem dX10_readCondition_80 : decode cX10_readCondition 80 = .ok (.aload_n 1, 1) := by decide +kernel
theorem dX10_readCondition_81 : decode cX10_readCondition 81 = .ok (.iload_n 2, 1) := by decide +kernel
theorem dX10_readCondition_82 : decode cX10_readCondition 82 = .ok (.iload_n 3, 1) := by decide +kernel
theorem dX10_readCondition_83 : decode cX10_readCondition 83 = .ok (.aload_n 0, 1) := by decide +kernel
theorem dX10_readCondition_84 : decode cX10_readCondition 84 = .ok (.invokevirtual 86, 3) := by decide +kernel
theorem dX10_readCondition_87 : decode cX10_readCondition 87 = .ok (.invokevirtual 89, 3) := by decide +kernel
theorem dX10_readCondition_90 : decode cX10_readCondition 90 = .ok (.aload_n 0, 1) := by decide +kernel
theorem dX10_readCondition_91 : decode cX10_readCondition 91 = .ok (.invokevirtual 34, 3) := by decide +kernel
theorem dX10_readCondition_94 : decode cX10_readCondition 94 = .ok (.iconst 1, 1) := by decide +kernel
theorem dX10_readCondition_95 : decode cX10_readCondition 95 = .ok (.ireturn, 1) := by decide +kernel
set_option maxRecDepth 20000 in
theorem ggX10_readAct_X10_actAtHand : GoodIn wsX10_readAct wsX10_actAtHand := goodIn_h _ [1, 3, 0, 0, 0, 0, 0, 0, 0, 0, 0, 0, 0, 0, 0, 0, 0, 0, 0, 0, 0, 0, 0, 0, 0, 0, 0, 0, 0, 0, 0, 0, 0, 0, 0, 0, 0, 0, 0, 0, 0, 0, 0, 0, 0, 0, 0, 0, 0, 0, 0, 0, 0, 0, 0, 0, 0, 0, 0, 0, 0, 0, 0, 0, 38, 0, 0, 0, 0, 0, 0] [2, 3, 4, 5, 1, 6, 0, 7, 8, 9, 10, 11, 12, 13, 14, 15, 16, 17, 18, 19, 20, 21, 22, 23, 24, 25, 26, 27, 28, 29, 30, 31, 32, 33, 34, 35, 36, 37, 38, 39, 40, 41, 42, 43, 44, 45, 46, 47, 48, 49, 50, 51, 52, 53, 54, 55, 56, 57, 58, 59, 60, 61, 62, 63, 64, 65, 66, 67, 68, 69, 70] (by decide +kernel) (by decide +kernel)
set_option maxRecDepth 20000 in
theorem gX10_readAct_X10_actAtHand : GoodIn wsX10_readAct (wsV RX10 50 RX10 yX10_actAtHand wsX10_actAtHand) := goodIn_app (goodIn_of _ (by decide +kernel)) ggX10_readAct_X10_actAtHand
set_option maxRecDepth 20000 in
theorem ggX10_readAct_X10_fail : GoodIn wsX10_readAct wsX10_fail := goodIn_h _ [12, 58, 0, 0, 32, 0, 0, 0, 0, 0, 0] [1, 2, 0, 3, 4, 5, 6, 7, 8, 9, 10] (by decide +kernel) (by decide +kernel)
set_option maxRecDepth 20000 in
theorem gX10_readAct_X10_fail : GoodIn wsX10_readAct (wsV RX10 54 RX10 yX10_fail wsX10_fail) := goodIn_app (goodIn_of _ (by decide +kernel)) ggX10_readAct_X10_fail
set_option maxRecDepth 20000 in
theorem ggX10_readAct_X10_advance : GoodIn wsX10_readAct wsX10_advance := goodIn_h _ [1, 3, 5, 0, 12, 0, 0, 0, 0, 0, 46, 0, 0, 0, 0, 0, 0, 0, 0, 0, 0, 0, 0, 16, 0, 0, 0, 0, 0, 0] [10, 2, 3, 8, 0, 4, 5, 6, 1, 7, 9, 11, 12, 13, 14, 15, 16, 17, 18, 19, 20, 21, 22, 23, 24, 25, 26, 27, 28, 29] (by decide +kernel) (by decide +kernel)
set_option maxRecDepth 20000 in
theorem gX10_readAct_X10_advance : GoodIn wsX10_readAct (wsV RX10 34 RX10 yX10_advance wsX10_advance) := goodIn_app (goodIn_of _ (by decide +kernel)) ggX10_readAct_X10_advance
set_option maxRecDepth 20000 in
theorem ggX10_readAct_X10_numberAtHand : GoodIn wsX10_readAct wsX10_numberAtHand := goodIn_h _ [5, 5, 0, 12, 0, 0, 0, 0, 0, 62, 12, 0, 0, 0, 0, 0, 0] [9, 2, 1, 3, 4, 5, 0, 6, 7, 8, 10, 11, 12, 13, 14, 15, 16] (by decide +kernel) (by decide +kernel)
set_option maxRecDepth 20000 in
theorem gX10_readAct_X10_numberAtHand : GoodIn wsX10_readAct (wsV RX10 86 RX10 yX10_numberAtHand wsX10_numberAtHand) := goodIn_app (goodIn_of _ (by decide +kernel)) ggX10_readAct_X10_numberAtHand
set_option maxRecDepth 20000 in
theorem ggX10_readAct_X10_isSign : GoodIn wsX10_readAct wsX10_isSign := goodIn_h _ [1, 3, 6, 12, 0, 0, 0, 0, 0, 66, 8, 0, 0, 0, 0, 0, 0] [9, 0, 2, 3, 4, 5, 1, 6, 7, 8, 10, 11, 12, 13, 14, 15, 16] (by decide +kernel) (by decide +kernel)
set_option maxRecDepth 20000 in
theorem gX10_readAct_X10_isSign : GoodIn wsX10_readAct (wsV RX10 70 RX10 yX10_isSign wsX10_isSign) := goodIn_app (goodIn_of _ (by decide +kernel)) ggX10_readAct_X10_isSign
set_option maxRecDepth 20000 in
theorem ggX10_readAct_X6_closeRule : GoodIn wsX10_readAct wsX6_closeRule := goodIn_h _ [102, 0, 0, 0, 7, 0, 0, 0, 0, 0, 0] [0, 1, 2, 3, 4, 5, 6, 7, 8, 9, 10] (by decide +kernel) (by decide +kernel)
set_option maxRecDepth 20000 in
theorem gX10_readAct_X6_closeRule : GoodIn wsX10_readAct (wsV RX10 93 RX6 yX6_closeRule wsX6_closeRule) := goodIn_app (goodIn_of _ (by decide +kernel)) ggX10_readAct_X6_closeRule
theorem dX10_readAct_0 : decode cX10_readAct 0 = .ok (.aload_n 0, 1) := by decide +kernel
theorem dX10_readAct_1 : decode cX10_readAct 1 = .ok (.invokevirtual 50, 3) := by decide +kernel
theorem dX10_readAct_4 : decode cX10_readAct 4 = .ok (.istore_n 2, 1) := by decide +kernel
theorem dX10_readAct_5 : decode cX10_readAct 5 = .ok (.iload_n 2, 1) := by decide +kernel
theorem dX10_readAct_6 : decode cX10_readAct 6 = .ok (.iconst (-1), 1) := by decide +kernel
theorem dX10_readAct_7 : decode cX10_readAct 7 = .ok (.if_icmp .ne 9, 3) := by decide +kernel
theorem dX10_readAct_10 : decode cX10_readAct 10 = .ok (.aload_n 0, 1) := by decide +kernel
theorem dX10_readAct_11 : decode cX10_readAct 11 = .ok (.iconst 1, 1) := by decide +kernel
theorem dX10_readAct_12 : decode cX10_readAct 12 = .ok (.invokevirtual 54, 3) := by decide +kernel
theorem dX10_readAct_15 : decode cX10_readAct 15 = .ok (.ireturn, 1) := by decide +kernel
theorem dX10_readAct_16 : decode cX10_readAct 16 = .ok (.aload_n 0, 1) := by decide +kernel
theorem dX10_readAct_17 : decode cX10_readAct 17 = .ok (.invokevirtual 34, 3) := by decide +kernel
theorem dX10_readAct_20 : decode cX10_readAct 20 = .ok (.iconst 0, 1) := by decide +kernel
theorem dX10_readAct_21 : decode cX10_readAct 21 = .ok (.istore_n 3, 1) := by decide +kernel
theorem dX10_readAct_22 : decode cX10_readAct 22 = .ok (.iload_n 2, 1) := by decide +kernel
theorem dX10_readAct_23 : decode cX10_readAct 23 = .ok (.iconst 5, 1) := by decide +kernel
theorem dX10_readAct_24 : decode cX10_readAct 24 = .ok (.if_icmp .ne 26, 3) := by decide +kernel
theorem dX10_readAct_27 : decode cX10_readAct 27 = .ok (.aload_n 0, 1) := by decide +kernel
theorem dX10_readAct_28 : decode cX10_readAct 28 = .ok (.getfield 37, 3) := by decide +kernel
theorem dX10_readAct_31 : decode cX10_readAct 31 = .ok (.iconst 2, 1) := by decide +kernel
theorem dX10_readAct_32 : decode cX10_readAct 32 = .ok (.if_icmp .eq 9, 3) := by decide +kernel
theorem dX10_readAct_35 : decode cX10_readAct 35 = .ok (.aload_n 0, 1) := by decide +kernel
theorem dX10_readAct_36 : decode cX10_readAct 36 = .ok (.iconst 1, 1) := by decide +kernel
theorem dX10_readAct_37 : decode cX10_readAct 37 = .ok (.invokevirtual 54, 3) := by decide +kernel
theorem dX10_readAct_40 : decode cX10_readAct 40 = .ok (.ireturn, 1) := by decide +kernel
theorem dX10_readAct_41 : decode cX10_readAct 41 = .ok (.aload_n 0, 1) := by decide +kernel
theorem dX10_readAct_42 : decode cX10_readAct 42 = .ok (.invokevirtual 86, 3) := by decide +kernel
theorem dX10_readAct_45 : decode cX10_readAct 45 = .ok (.istore_n 3, 1) := by decide +kernel
theorem dX10_readAct_46 : decode cX10_readAct 46 = .ok (.aload_n 0, 1) := by decide +kernel
theorem dX10_readAct_47 : decode cX10_readAct 47 = .ok (.invokevirtual 34, 3) := by decide +kernel
theorem dX10_readAct_50 : decode cX10_readAct 50 = .ok (.aload_n 0, 1) := by decide +kernel
theorem dX10_readAct_51 : decode cX10_readAct 51 = .ok (.bipush 59, 2) := by decide +kernel
theorem dX10_readAct_53 : decode cX10_readAct 53 = .ok (.invokevirtual 70, 3) := by decide +kernel
theorem dX10_readAct_56 : decode cX10_readAct 56 = .ok (.ifCond .ne 9, 3) := by decide +kernel
theorem dX10_readAct_59 : decode cX10_readAct 59 = .ok (.aload_n 0, 1) := by decide +kernel
theorem dX10_readAct_60 : decode cX10_readAct 60 = .ok (.iconst 1, 1) := by decide +kernel
theorem dX10_readAct_61 : decode cX10_readAct 61 = .ok (.invokevirtual 54, 3) := by decide +kernel
theorem dX10_readAct_64 : decode cX10_readAct 64 = .ok (.ireturn, 1) := by decide +kernel
theorem dX10_readAct_65 : decode cX10_readAct 65 = .ok (.aload_n 0, 1) := by decide +kernel
theorem dX10_readAct_66 : decode cX10_readAct 66 = .ok (.invokevirtual 34, 3) := by decide +kernel
theorem dX10_readAct_69 : decode cX10_readAct 69 = .ok (.aload_n 1, 1) := by decide +kernel
theorem dX10_readAct_70 : decode cX10_readAct 70 = .ok (.iload_n 2, 1) := by decide +kernel
theorem dX10_readAct_71 : decode cX10_readAct 71 = .ok (.iload_n 3, 1) := by decide +kernel
theorem dX10_readAct_72 : decode cX10_readAct 72 = .ok (.invokevirtual 93, 3) := by decide +kernel
theorem dX10_readAct_75 : decode cX10_readAct 75 = .ok (.iconst 1, 1) := by decide +kernel
theorem dX10_readAct_76 : decode cX10_readAct 76 = .ok (.ireturn, 1) := by decide +kernel
set_option maxRecDepth 20000 in
theorem ggX10_fieldAtHand_X10_isWord : GoodIn wsX10_fieldAtHand wsX10_isWord := goodIn_h _ [4, 0, 0, 0, 0, 0, 0, 0, 0, 0, 0, 0, 0, 0, 0, 0, 0, 0, 0, 0, 0, 0, 0, 0, 0, 0, 0, 0, 0, 0, 0, 0, 0, 0, 0, 0, 0, 0, 0, 0, 0, 0, 0, 0, 0, 0, 0, 0, 0, 0, 0, 0, 0, 0, 0, 0, 0, 0, 0, 0, 0, 0, 0, 0, 0, 0, 0] [1, 2, 3, 4, 5, 6, 7, 8, 9, 10, 11, 12, 13, 14, 15, 16, 17, 18, 19, 0, 20, 21, 22, 23, 24, 25, 26, 27, 28, 29, 30, 31, 32, 33, 34, 35, 36, 37, 38, 39, 40, 41, 42, 43, 44, 45, 46, 47, 48, 49, 50, 51, 52, 53, 54, 55, 56, 57, 58, 59, 60, 61, 62, 63, 64, 65, 66] (by decide +kernel) (by decide +kernel)
set_option maxRecDepth 20000 in
theorem gX10_fieldAtHand_X10_isWord : GoodIn wsX10_fieldAtHand (wsV RX10 46 RX10 yX10_isWord wsX10_isWord) := goodIn_app (goodIn_of _ (by decide +kernel)) ggX10_fieldAtHand_X10_isWord
theorem dX10_fieldAtHand_0 : decode cX10_fieldAtHand 0 = .ok (.aload_n 0, 1) := by decide +kernel
theorem dX10_fieldAtHand_1 : decode cX10_fieldAtHand 1 = .ok (.ldc 97, 2) := by decide +kernel
theorem dX10_fieldAtHand_3 : decode cX10_fieldAtHand 3 = .ok (.invokevirtual 46, 3) := by decide +kernel
theorem dX10_fieldAtHand_6 : decode cX10_fieldAtHand 6 = .ok (.ifCond .eq 5, 3) := by decide +kernel
theorem dX10_fieldAtHand_9 : decode cX10_fieldAtHand 9 = .ok (.iconst 0, 1) := by decide +kernel
theorem dX10_fieldAtHand_10 : decode cX10_fieldAtHand 10 = .ok (.ireturn, 1) := by decide +kernel
theorem dX10_fieldAtHand_11 : decode cX10_fieldAtHand 11 = .ok (.aload_n 0, 1) := by decide +kernel
theorem dX10_fieldAtHand_12 : decode cX10_fieldAtHand 12 = .ok (.ldc 99, 2) := by decide +kernel
theorem dX10_fieldAtHand_14 : decode cX10_fieldAtHand 14 = .ok (.invokevirtual 46, 3) := by decide +kernel
theorem dX10_fieldAtHand_17 : decode cX10_fieldAtHand 17 = .ok (.ifCond .eq 5, 3) := by decide +kernel
theorem dX10_fieldAtHand_20 : decode cX10_fieldAtHand 20 = .ok (.iconst 1, 1) := by decide +kernel
theorem dX10_fieldAtHand_21 : decode cX10_fieldAtHand 21 = .ok (.ireturn, 1) := by decide +kernel
theorem dX10_fieldAtHand_22 : decode cX10_fieldAtHand 22 = .ok (.aload_n 0, 1) := by decide +kernel
theorem dX10_fieldAtHand_23 : decode cX10_fieldAtHand 23 = .ok (.ldc 101, 2) := by decide +kernel
theorem dX10_fieldAtHand_25 : decode cX10_fieldAtHand 25 = .ok (.invokevirtual 46, 3) := by decide +kernel
theorem dX10_fieldAtHand_28 : decode cX10_fieldAtHand 28 = .ok (.ifCond .eq 5, 3) := by decide +kernel
theorem dX10_fieldAtHand_31 : decode cX10_fieldAtHand 31 = .ok (.iconst 2, 1) := by decide +kernel
theorem dX10_fieldAtHand_32 : decode cX10_fieldAtHand 32 = .ok (.ireturn, 1) := by decide +kernel
theorem dX10_fieldAtHand_33 : decode cX10_fieldAtHand 33 = .ok (.aload_n 0, 1) := by decide +kernel
theorem dX10_fieldAtHand_34 : decode cX10_fieldAtHand 34 = .ok (.ldc 103, 2) := by decide +kernel
theorem dX10_fieldAtHand_36 : decode cX10_fieldAtHand 36 = .ok (.invokevirtual 46, 3) := by decide +kernel
theorem dX10_fieldAtHand_39 : decode cX10_fieldAtHand 39 = .ok (.ifCond .eq 5, 3) := by decide +kernel
theorem dX10_fieldAtHand_42 : decode cX10_fieldAtHand 42 = .ok (.iconst 3, 1) := by decide +kernel
theorem dX10_fieldAtHand_43 : decode cX10_fieldAtHand 43 = .ok (.ireturn, 1) := by decide +kernel
theorem dX10_fieldAtHand_44 : decode cX10_fieldAtHand 44 = .ok (.aload_n 0, 1) := by decide +kernel
theorem dX10_fieldAtHand_45 : decode cX10_fieldAtHand 45 = .ok (.ldc 105, 2) := by decide +kernel
theorem dX10_fieldAtHand_47 : decode cX10_fieldAtHand 47 = .ok (.invokevirtual 46, 3) := by decide +kernel
theorem dX10_fieldAtHand_50 : decode cX10_fieldAtHand 50 = .ok (.ifCond .eq 5, 3) := by decide +kernel
theorem dX10_fieldAtHand_53 : decode cX10_fieldAtHand 53 = .ok (.iconst 4, 1) := by decide +kernel
theorem dX10_fieldAtHand_54 : decode cX10_fieldAtHand 54 = .ok (.ireturn, 1) := by decide +kernel
theorem dX10_fieldAtHand_55 : decode cX10_fieldAtHand 55 = .ok (.aload_n 0, 1) := by decide +kernel
theorem dX10_fieldAtHand_56 : decode cX10_fieldAtHand 56 = .ok (.ldc 107, 2) := by decide +kernel
theorem dX10_fieldAtHand_58 : decode cX10_fieldAtHand 58 = .ok (.invokevirtual 46, 3) := by decide +kernel
theorem dX10_fieldAtHand_61 : decode cX10_fieldAtHand 61 = .ok (.ifCond .eq 5, 3) := by decide +kernel
theorem dX10_fieldAtHand_64 : decode cX10_fieldAtHand 64 = .ok (.iconst 5, 1) := by decide +kernel
theorem dX10_fieldAtHand_65 : decode cX10_fieldAtHand 65 = .ok (.ireturn, 1) := by decide +kernel
theorem dX10_fieldAtHand_66 : decode cX10_fieldAtHand 66 = .ok (.aload_n 0, 1) := by decide +kernel
theorem dX10_fieldAtHand_67 : decode cX10_fieldAtHand 67 = .ok (.ldc 109, 2) := by decide +kernel
theorem dX10_fieldAtHand_69 : decode cX10_fieldAtHand 69 = .ok (.invokevirtual 46, 3) := by decide +kernel
theorem dX10_fieldAtHand_72 : decode cX10_fieldAtHand 72 = .ok (.ifCond .eq 8, 3) := by decide +kernel
theorem dX10_fieldAtHand_75 : decode cX10_fieldAtHand 75 = .ok (.bipush 6, 2) := by decide +kernel
theorem dX10_fieldAtHand_77 : decode cX10_fieldAtHand 77 = .ok (.goto 4, 3) := by decide +kernel
theorem dX10_fieldAtHand_80 : decode cX10_fieldAtHand 80 = .ok (.iconst (-1), 1) := by decide +kernel
theorem dX10_fieldAtHand_81 : decode cX10_fieldAtHand 81 = .ok (.ireturn, 1) := by decide +kernel
set_option maxRecDepth 20000 in
theorem ggX10_actAtHand_X10_isWord : GoodIn wsX10_actAtHand wsX10_isWord := goodIn_h _ [4, 0, 0, 0, 0, 0, 0, 0, 0, 0, 0, 0, 0, 0, 0, 0, 0, 0, 0, 0, 0, 0, 0, 0, 0, 0, 0, 0, 0, 0, 0, 0, 0, 0, 0, 0, 0, 0, 0, 0, 0, 0, 0, 0, 0, 0, 0, 0, 0, 0, 0, 0, 0, 0, 0, 0, 0, 0, 0, 0, 0, 0, 0, 0, 0, 0, 0] [1, 2, 3, 4, 5, 6, 7, 8, 9, 10, 11, 12, 13, 14, 15, 16, 17, 18, 19, 0, 20, 21, 22, 23, 24, 25, 26, 27, 28, 29, 30, 31, 32, 33, 34, 35, 36, 37, 38, 39, 40, 41, 42, 43, 44, 45, 46, 47, 48, 49, 50, 51, 52, 53, 54, 55, 56, 57, 58, 59, 60, 61, 62, 63, 64, 65, 66] (by decide +kernel) (by decide +kernel)
set_option maxRecDepth 20000 in
theorem gX10_actAtHand_X10_isWord : GoodIn wsX10_actAtHand (wsV RX10 46 RX10 yX10_isWord wsX10_isWord) := goodIn_app (goodIn_of _ (by decide +kernel)) ggX10_actAtHand_X10_isWord
theorem dX10_actAtHand_0 : decode cX10_actAtHand 0 = .ok (.aload_n 0, 1) := by decide +kernel
theorem dX10_actAtHand_1 : decode cX10_actAtHand 1 = .ok (.ldc 111, 2) := by decide +kernel
theorem dX10_actAtHand_3 : decode cX10_actAtHand 3 = .ok (.invokevirtual 46, 3) := by decide +kernel
theorem dX10_actAtHand_6 : decode cX10_actAtHand 6 = .ok (.ifCond .eq 5, 3) := by decide +kernel
theorem dX10_actAtHand_9 : decode cX10_actAtHand 9 = .ok (.iconst 0, 1) := by decide +kernel
theorem dX10_actAtHand_10 : decode cX10_actAtHand 10 = .ok (.ireturn, 1) := by decide +kernel
theorem dX10_actAtHand_11 : decode cX10_actAtHand 11 = .ok (.aload_n 0, 1) := by decide +kernel
theorem dX10_actAtHand_12 : decode cX10_actAtHand 12 = .ok (.ldc 113, 2) := by decide +kernel
theorem dX10_actAtHand_14 : decode cX10_actAtHand 14 = .ok (.invokevirtual 46, 3) := by decide +kernel
theorem dX10_actAtHand_17 : decode cX10_actAtHand 17 = .ok (.ifCond .eq 5, 3) := by decide +kernel
theorem dX10_actAtHand_20 : decode cX10_actAtHand 20 = .ok (.iconst 1, 1) := by decide +kernel
theorem dX10_actAtHand_21 : decode cX10_actAtHand 21 = .ok (.ireturn, 1) := by decide +kernel
theorem dX10_actAtHand_22 : decode cX10_actAtHand 22 = .ok (.aload_n 0, 1) := by decide +kernel
theorem dX10_actAtHand_23 : decode cX10_actAtHand 23 = .ok (.ldc 115, 2) := by decide +kernel
theorem dX10_actAtHand_25 : decode cX10_actAtHand 25 = .ok (.invokevirtual 46, 3) := by decide +kernel
theorem dX10_actAtHand_28 : decode cX10_actAtHand 28 = .ok (.ifCond .eq 5, 3) := by decide +kernel
theorem dX10_actAtHand_31 : decode cX10_actAtHand 31 = .ok (.iconst 2, 1) := by decide +kernel
theorem dX10_actAtHand_32 : decode cX10_actAtHand 32 = .ok (.ireturn, 1) := by decide +kernel
theorem dX10_actAtHand_33 : decode cX10_actAtHand 33 = .ok (.aload_n 0, 1) := by decide +kernel
theorem dX10_actAtHand_34 : decode cX10_actAtHand 34 = .ok (.ldc 117, 2) := by decide +kernel
theorem dX10_actAtHand_36 : decode cX10_actAtHand 36 = .ok (.invokevirtual 46, 3) := by decide +kernel
theorem dX10_actAtHand_39 : decode cX10_actAtHand 39 = .ok (.ifCond .eq 5, 3) := by decide +kernel
theorem dX10_actAtHand_42 : decode cX10_actAtHand 42 = .ok (.iconst 3, 1) := by decide +kernel
theorem dX10_actAtHand_43 : decode cX10_actAtHand 43 = .ok (.ireturn, 1) := by decide +kernel
theorem dX10_actAtHand_44 : decode cX10_actAtHand 44 = .ok (.aload_n 0, 1) := by decide +kernel
theorem dX10_actAtHand_45 : decode cX10_actAtHand 45 = .ok (.ldc 119, 2) := by decide +kernel
theorem dX10_actAtHand_47 : decode cX10_actAtHand 47 = .ok (.invokevirtual 46, 3) := by decide +kernel
theorem dX10_actAtHand_50 : decode cX10_actAtHand 50 = .ok (.ifCond .eq 5, 3) := by decide +kernel
theorem dX10_actAtHand_53 : decode cX10_actAtHand 53 = .ok (.iconst 4, 1) := by decide +kernel
theorem dX10_actAtHand_54 : decode cX10_actAtHand 54 = .ok (.ireturn, 1) := by decide +kernel
theorem dX10_actAtHand_55 : decode cX10_actAtHand 55 = .ok (.aload_n 0, 1) := by decide +kernel
theorem dX10_actAtHand_56 : decode cX10_actAtHand 56 = .ok (.ldc 121, 2) := by decide +kernel
theorem dX10_actAtHand_58 : decode cX10_actAtHand 58 = .ok (.invokevirtual 46, 3) := by decide +kernel
theorem dX10_actAtHand_61 : decode cX10_actAtHand 61 = .ok (.ifCond .eq 7, 3) := by decide +kernel
theorem dX10_actAtHand_64 : decode cX10_actAtHand 64 = .ok (.iconst 5, 1) := by decide +kernel
theorem dX10_actAtHand_65 : decode cX10_actAtHand 65 = .ok (.goto 4, 3) := by decide +kernel
theorem dX10_actAtHand_68 : decode cX10_actAtHand 68 = .ok (.iconst (-1), 1) := by decide +kernel
theorem dX10_actAtHand_69 : decode cX10_actAtHand 69 = .ok (.ireturn, 1) := by decide +kernel
set_option maxRecDepth 20000 in
theorem ggX10_isWord_J0_length_8abf5 : GoodIn wsX10_isWord wsJ0_length_8abf5 := goodIn_h _ [7, 0, 0, 0, 0, 0, 0, 0, 0] [1, 2, 3, 4, 5, 0, 6, 7, 8] (by decide +kernel) (by decide +kernel)
set_option maxRecDepth 20000 in
theorem gX10_isWord_J0_length_8abf5 : GoodIn wsX10_isWord (wsV RX10 123 RJ0 yJ0_length_8abf5 wsJ0_length_8abf5) := goodIn_app (goodIn_of _ (by decide +kernel)) ggX10_isWord_J0_length_8abf5
set_option maxRecDepth 20000 in
theorem ggX10_isWord_X10_byteAt : GoodIn wsX10_isWord wsX10_byteAt := goodIn_h _ [20, 0, 0, 37, 0, 0, 0, 0, 0, 0] [0, 1, 2, 3, 4, 5, 6, 7, 8, 9] (by decide +kernel) (by decide +kernel)
set_option maxRecDepth 20000 in
theorem gX10_isWord_X10_byteAt : GoodIn wsX10_isWord (wsV RX10 82 RX10 yX10_byteAt wsX10_byteAt) := goodIn_app (goodIn_of _ (by decide +kernel)) ggX10_isWord_X10_byteAt
set_option maxRecDepth 20000 in
theorem ggX10_isWord_J0_charAt_5068e : GoodIn wsX10_isWord wsJ0_charAt_5068e := goodIn_h _ [7, 1, 4, 0, 10, 0, 0, 0, 0, 0, 0, 0, 0, 0, 0, 0, 0, 0, 0, 0, 0, 0, 0, 0, 0, 0, 0, 0, 0, 0, 0, 0, 0, 0, 0, 0, 0, 0] [4, 1, 5, 6, 7, 0, 8, 2, 3, 9, 10, 11, 12, 13, 14, 15, 16, 17, 18, 19, 20, 21, 22, 23, 24, 25, 26, 27, 28, 29, 30, 31, 32, 33, 34, 35, 36, 37] (by decide +kernel) (by decide +kernel)
set_option maxRecDepth 20000 in
theorem gX10_isWord_J0_charAt_5068e : GoodIn wsX10_isWord (wsV RX10 128 RJ0 yJ0_charAt_5068e wsJ0_charAt_5068e) := goodIn_app (goodIn_of _ (by decide +kernel)) ggX10_isWord_J0_charAt_5068e
theorem dX10_isWord_0 : decode cX10_isWord 0 = .ok (.aload_n 0, 1) := by decide +kernel
theorem dX10_isWord_1 : decode cX10_isWord 1 = .ok (.getfield 37, 3) := by decide +kernel
theorem dX10_isWord_4 : decode cX10_isWord 4 = .ok (.iconst 1, 1) := by decide +kernel
theorem dX10_isWord_5 : decode cX10_isWord 5 = .ok (.if_icmp .ne 19, 3) := by decide +kernel
theorem dX10_isWord_8 : decode cX10_isWord 8 = .ok (.aload_n 0, 1) := by decide +kernel
theorem dX10_isWord_9 : decode cX10_isWord 9 = .ok (.getfield 31, 3) := by decide +kernel
theorem dX10_isWord_12 : decode cX10_isWord 12 = .ok (.aload_n 0, 1) := by decide +kernel
theorem dX10_isWord_13 : decode cX10_isWord 13 = .ok (.getfield 79, 3) := by decide +kernel
theorem dX10_isWord_16 : decode cX10_isWord 16 = .ok (.isub, 1) := by decide +kernel
theorem dX10_isWord_17 : decode cX10_isWord 17 = .ok (.aload_n 1, 1) := by decide +kernel
theorem dX10_isWord_18 : decode cX10_isWord 18 = .ok (.invokevirtual 123, 3) := by decide +kernel
theorem dX10_isWord_21 : decode cX10_isWord 21 = .ok (.if_icmp .eq 5, 3) := by decide +kernel
theorem dX10_isWord_24 : decode cX10_isWord 24 = .ok (.iconst 0, 1) := by decide +kernel
theorem dX10_isWord_25 : decode cX10_isWord 25 = .ok (.ireturn, 1) := by decide +kernel
theorem dX10_isWord_26 : decode cX10_isWord 26 = .ok (.iconst 0, 1) := by decide +kernel
theorem dX10_isWord_27 : decode cX10_isWord 27 = .ok (.istore_n 2, 1) := by decide +kernel
theorem dX10_isWord_28 : decode cX10_isWord 28 = .ok (.iload_n 2, 1) := by decide +kernel
theorem dX10_isWord_29 : decode cX10_isWord 29 = .ok (.aload_n 1, 1) := by decide +kernel
theorem dX10_isWord_30 : decode cX10_isWord 30 = .ok (.invokevirtual 123, 3) := by decide +kernel
theorem dX10_isWord_33 : decode cX10_isWord 33 = .ok (.if_icmp .ge 29, 3) := by decide +kernel
theorem dX10_isWord_36 : decode cX10_isWord 36 = .ok (.aload_n 0, 1) := by decide +kernel
theorem dX10_isWord_37 : decode cX10_isWord 37 = .ok (.aload_n 0, 1) := by decide +kernel
theorem dX10_isWord_38 : decode cX10_isWord 38 = .ok (.getfield 79, 3) := by decide +kernel
theorem dX10_isWord_41 : decode cX10_isWord 41 = .ok (.iload_n 2, 1) := by decide +kernel
theorem dX10_isWord_42 : decode cX10_isWord 42 = .ok (.iadd, 1) := by decide +kernel
theorem dX10_isWord_43 : decode cX10_isWord 43 = .ok (.invokevirtual 82, 3) := by decide +kernel
theorem dX10_isWord_46 : decode cX10_isWord 46 = .ok (.aload_n 1, 1) := by decide +kernel
theorem dX10_isWord_47 : decode cX10_isWord 47 = .ok (.iload_n 2, 1) := by decide +kernel
theorem dX10_isWord_48 : decode cX10_isWord 48 = .ok (.invokevirtual 128, 3) := by decide +kernel
theorem dX10_isWord_51 : decode cX10_isWord 51 = .ok (.if_icmp .eq 5, 3) := by decide +kernel
theorem dX10_isWord_54 : decode cX10_isWord 54 = .ok (.iconst 0, 1) := by decide +kernel
theorem dX10_isWord_55 : decode cX10_isWord 55 = .ok (.ireturn, 1) := by decide +kernel
theorem dX10_isWord_56 : decode cX10_isWord 56 = .ok (.iinc 2 1, 3) := by decide +kernel
theorem dX10_isWord_59 : decode cX10_isWord 59 = .ok (.goto (-31), 3) := by decide +kernel
theorem dX10_isWord_62 : decode cX10_isWord 62 = .ok (.iconst 1, 1) := by decide +kernel
theorem dX10_isWord_63 : decode cX10_isWord 63 = .ok (.ireturn, 1) := by decide +kernel
set_option maxRecDepth 20000 in
theorem ggX11_program_X11_potAt : GoodIn wsX11_program wsX11_potAt := goodIn_h _ [11, 0, 0, 147, 0, 0, 0, 0, 0, 0, 0, 0, 0, 0, 0] [0, 1, 2, 3, 4, 5, 6, 7, 8, 9, 10, 11, 12, 13, 14] (by decide +kernel) (by decide +kernel)
set_option maxRecDepth 20000 in
theorem gX11_program_X11_potAt : GoodIn wsX11_program (wsV RX11 134 RX11 yX11_potAt wsX11_potAt) := goodIn_app (goodIn_of _ (by decide +kernel)) ggX11_program_X11_potAt
set_option maxRecDepth 20000 in
theorem ggX11_program_X10_forgetFault : GoodIn wsX11_program wsX10_forgetFault := goodIn_h _ [18, 0, 0, 152, 0, 0, 0, 0, 0, 0] [0, 1, 2, 3, 4, 5, 6, 7, 8, 9] (by decide +kernel) (by decide +kernel)
set_option maxRecDepth 20000 in
theorem gX11_program_X10_forgetFault : GoodIn wsX11_program (wsV RX11 152 RX10 yX10_forgetFault wsX10_forgetFault) := goodIn_app (goodIn_of _ (by decide +kernel)) ggX11_program_X10_forgetFault
set_option maxRecDepth 20000 in
theorem ggX11_program_X10_readInto : GoodIn wsX11_program wsX10_readInto := goodIn_h _ [15, 0, 0, 0, 0, 0, 3, 0, 0, 0, 0, 0, 0, 0, 0, 0, 0, 0, 0, 0, 0, 0, 0, 0, 0, 0, 0, 0, 0, 0, 0, 0, 0, 0, 0, 0, 0, 0, 0, 0, 0, 0, 0, 0, 0, 0, 0, 0, 0, 0, 0, 0, 0, 0, 0, 0, 0, 0, 0, 0, 0, 0, 0, 0, 0, 0, 0, 0, 0, 0, 0, 0, 0, 0, 0, 0, 0, 0, 0, 0, 0, 0, 0, 0, 0, 0, 0, 0, 0, 0, 0, 0, 0, 0, 0, 0, 0, 0, 0, 0, 0, 0, 0, 0, 0, 0, 0, 0, 0, 0, 0, 0, 0, 0, 0, 0, 0, 0, 0, 0, 0, 0, 0, 0, 0, 0, 0, 0, 0, 0, 0, 0, 0, 0, 0, 0, 0, 0, 0, 0, 0, 0, 0, 12, 0, 0, 0, 0, 0, 0, 12, 0, 0, 0, 0, 0, 0] [6, 7, 8, 9, 10, 0, 1, 2, 3, 4, 5, 11, 12, 13, 14, 15, 16, 17, 18, 19, 20, 21, 22, 23, 24, 25, 26, 27, 28, 29, 30, 31, 32, 33, 34, 35, 36, 37, 38, 39, 40, 41, 42, 43, 44, 45, 46, 47, 48, 49, 50, 51, 52, 53, 54, 55, 56, 57, 58, 59, 60, 61, 62, 63, 64, 65, 66, 67, 68, 69, 70, 71, 72, 73, 74, 75, 76, 77, 78, 79, 80, 81, 82, 83, 84, 85, 86, 87, 88, 89, 90, 91, 92, 93, 94, 95, 96, 97, 98, 99, 100, 101, 102, 103, 104, 105, 106, 107, 108, 109, 110, 111, 112, 113, 114, 115, 116, 117, 118, 119, 120, 121, 122, 123, 124, 125, 126, 127, 128, 129, 130, 131, 132, 133, 134, 135, 136, 137, 138, 139, 140, 141, 142, 150, 151, 152, 153, 154, 155, 156, 143, 144, 145, 146, 147, 148, 149] (by decide +kernel) (by decide +kernel)
set_option maxRecDepth 20000 in
theorem gX11_program_X10_readInto : GoodIn wsX11_program (wsV RX11 155 RX10 yX10_readInto wsX10_readInto) := goodIn_app (goodIn_of _ (by decide +kernel)) ggX11_program_X10_readInto
theorem dX11_program_0 : decode cX11_program 0 = .ok (.aload_n 0, 1) := by decide +kernel
theorem dX11_program_1 : decode cX11_program 1 = .ok (.iload_n 1, 1) := by decide +kernel
theorem dX11_program_2 : decode cX11_program 2 = .ok (.invokevirtual 134, 3) := by decide +kernel
theorem dX11_program_5 : decode cX11_program 5 = .ok (.astore_n 2, 1) := by decide +kernel
theorem dX11_program_6 : decode cX11_program 6 = .ok (.aload_n 2, 1) := by decide +kernel
theorem dX11_program_7 : decode cX11_program 7 = .ok (.ifnonnull 12, 3) := by decide +kernel
theorem dX11_program_10 : decode cX11_program 10 = .ok (.aload_n 0, 1) := by decide +kernel
theorem dX11_program_11 : decode cX11_program 11 = .ok (.getfield 28, 3) := by decide +kernel
theorem dX11_program_14 : decode cX11_program 14 = .ok (.invokevirtual 152, 3) := by decide +kernel
theorem dX11_program_17 : decode cX11_program 17 = .ok (.iconst (-1), 1) := by decide +kernel
theorem dX11_program_18 : decode cX11_program 18 = .ok (.ireturn, 1) := by decide +kernel
theorem dX11_program_19 : decode cX11_program 19 = .ok (.aload_n 0, 1) := by decide +kernel
theorem dX11_program_20 : decode cX11_program 20 = .ok (.getfield 28, 3) := by decide +kernel
theorem dX11_program_23 : decode cX11_program 23 = .ok (.aload_n 0, 1) := by decide +kernel
theorem dX11_program_24 : decode cX11_program 24 = .ok (.getfield 35, 3) := by decide +kernel
theorem dX11_program_27 : decode cX11_program 27 = .ok (.invokevirtual 155, 3) := by decide +kernel
theorem dX11_program_30 : decode cX11_program 30 = .ok (.istore_n 3, 1) := by decide +kernel
theorem dX11_program_31 : decode cX11_program 31 = .ok (.aload_n 0, 1) := by decide +kernel
theorem dX11_program_32 : decode cX11_program 32 = .ok (.getfield 28, 3) := by decide +kernel
theorem dX11_program_35 : decode cX11_program 35 = .ok (.iconst 0, 1) := by decide +kernel
theorem dX11_program_36 : decode cX11_program 36 = .ok (.putfield 145, 3) := by decide +kernel
theorem dX11_program_39 : decode cX11_program 39 = .ok (.iload_n 3, 1) := by decide +kernel
theorem dX11_program_40 : decode cX11_program 40 = .ok (.ifCond .ne 14, 3) := by decide +kernel
theorem dX11_program_43 : decode cX11_program 43 = .ok (.aload_n 0, 1) := by decide +kernel
theorem dX11_program_44 : decode cX11_program 44 = .ok (.getfield 28, 3) := by decide +kernel
theorem dX11_program_47 : decode cX11_program 47 = .ok (.getfield 159, 3) := by decide +kernel
theorem dX11_program_50 : decode cX11_program 50 = .ok (.bipush 10, 2) := by decide +kernel
theorem dX11_program_52 : decode cX11_program 52 = .ok (.isub, 1) := by decide +kernel
theorem dX11_program_53 : decode cX11_program 53 = .ok (.ireturn, 1) := by decide +kernel
theorem dX11_program_54 : decode cX11_program 54 = .ok (.aload_n 2, 1) := by decide +kernel
theorem dX11_program_55 : decode cX11_program 55 = .ok (.getfield 162, 3) := by decide +kernel
theorem dX11_program_58 : decode cX11_program 58 = .ok (.astore 4, 2) := by decide +kernel
theorem dX11_program_60 : decode cX11_program 60 = .ok (.aload_n 2, 1) := by decide +kernel
theorem dX11_program_61 : decode cX11_program 61 = .ok (.aload_n 0, 1) := by decide +kernel
theorem dX11_program_62 : decode cX11_program 62 = .ok (.getfield 35, 3) := by decide +kernel
theorem dX11_program_65 : decode cX11_program 65 = .ok (.putfield 162, 3) := by decide +kernel
theorem dX11_program_68 : decode cX11_program 68 = .ok (.aload_n 0, 1) := by decide +kernel
theorem dX11_program_69 : decode cX11_program 69 = .ok (.aload 4, 2) := by decide +kernel
theorem dX11_program_71 : decode cX11_program 71 = .ok (.putfield 35, 3) := by decide +kernel
theorem dX11_program_74 : decode cX11_program 74 = .ok (.aload_n 2, 1) := by decide +kernel
theorem dX11_program_75 : decode cX11_program 75 = .ok (.getfield 162, 3) := by decide +kernel
theorem dX11_program_78 : decode cX11_program 78 = .ok (.getfield 165, 3) := by decide +kernel
theorem dX11_program_81 : decode cX11_program 81 = .ok (.ireturn, 1) := by decide +kernel
set_option maxRecDepth 20000 in
theorem ggJ0_length_8abf5_J0_coder_7d493 : GoodIn wsJ0_length_8abf5 wsJ0_coder_7d493 := goodIn_h _ [6, 0, 0] [0, 1, 2] (by decide +kernel) (by decide +kernel)
set_option maxRecDepth 20000 in
theorem gJ0_length_8abf5_J0_coder_7d493 : GoodIn wsJ0_length_8abf5 (wsV RJ0 335 RJ0 yJ0_coder_7d493 wsJ0_coder_7d493) := goodIn_app (goodIn_of _ (by decide +kernel)) ggJ0_length_8abf5_J0_coder_7d493
theorem dJ0_length_8abf5_0 : decode cJ0_length_8abf5 0 = .ok (.aload_n 0, 1) := by decide +kernel
theorem dJ0_length_8abf5_1 : decode cJ0_length_8abf5 1 = .ok (.getfield 9, 3) := by decide +kernel
theorem dJ0_length_8abf5_4 : decode cJ0_length_8abf5 4 = .ok (.arraylength, 1) := by decide +kernel
theorem dJ0_length_8abf5_5 : decode cJ0_length_8abf5 5 = .ok (.aload_n 0, 1) := by decide +kernel
theorem dJ0_length_8abf5_6 : decode cJ0_length_8abf5 6 = .ok (.invokevirtual 335, 3) := by decide +kernel
theorem dJ0_length_8abf5_9 : decode cJ0_length_8abf5 9 = .ok (.ishr, 1) := by decide +kernel
theorem dJ0_length_8abf5_10 : decode cJ0_length_8abf5 10 = .ok (.ireturn, 1) := by decide +kernel
set_option maxRecDepth 20000 in
theorem ggJ0_charAt_5068e_J0_isLatin1_aae02 : GoodIn wsJ0_charAt_5068e wsJ0_isLatin1_aae02 := goodIn_h _ [6, 0, 0] [0, 1, 2] (by decide +kernel) (by decide +kernel)
set_option maxRecDepth 20000 in
theorem gJ0_charAt_5068e_J0_isLatin1_aae02 : GoodIn wsJ0_charAt_5068e (wsV RJ0 492 RJ0 yJ0_isLatin1_aae02 wsJ0_isLatin1_aae02) := goodIn_app (goodIn_of _ (by decide +kernel)) ggJ0_charAt_5068e_J0_isLatin1_aae02
set_option maxRecDepth 20000 in
theorem ggJ0_charAt_5068e_J1_charAt_3b067 : GoodIn wsJ0_charAt_5068e wsJ1_charAt_3b067 := goodIn_h _ [5, 6, 0, 0, 0, 0, 0, 0, 0, 0] [1, 2, 3, 0, 4, 5, 6, 7, 8, 9] (by decide +kernel) (by decide +kernel)
set_option maxRecDepth 20000 in
theorem gJ0_charAt_5068e_J1_charAt_3b067 : GoodIn wsJ0_charAt_5068e (va_wsS RJ0 495 yJ1_charAt_3b067 wsJ1_charAt_3b067) := goodIn_app (goodIn_of _ (by decide +kernel)) ggJ0_charAt_5068e_J1_charAt_3b067
theorem dJ0_charAt_5068e_0 : decode cJ0_charAt_5068e 0 = .ok (.aload_n 0, 1) := by decide +kernel
theorem dJ0_charAt_5068e_1 : decode cJ0_charAt_5068e 1 = .ok (.invokevirtual 492, 3) := by decide +kernel
theorem dJ0_charAt_5068e_4 : decode cJ0_charAt_5068e 4 = .ok (.ifCond .eq 12, 3) := by decide +kernel
theorem dJ0_charAt_5068e_7 : decode cJ0_charAt_5068e 7 = .ok (.aload_n 0, 1) := by decide +kernel
theorem dJ0_charAt_5068e_8 : decode cJ0_charAt_5068e 8 = .ok (.getfield 9, 3) := by decide +kernel
theorem dJ0_charAt_5068e_11 : decode cJ0_charAt_5068e 11 = .ok (.iload_n 1, 1) := by decide +kernel
theorem dJ0_charAt_5068e_12 : decode cJ0_charAt_5068e 12 = .ok (.invokestatic 495, 3) := by decide +kernel
theorem dJ0_charAt_5068e_15 : decode cJ0_charAt_5068e 15 = .ok (.ireturn, 1) := by decide +kernel
theorem dJ0_coder_7d493_0 : decode cJ0_coder_7d493 0 = .ok (.getstatic 38, 3) := by decide +kernel
theorem dJ0_coder_7d493_3 : decode cJ0_coder_7d493 3 = .ok (.ifCond .eq 10, 3) := by decide +kernel
theorem dJ0_coder_7d493_6 : decode cJ0_coder_7d493 6 = .ok (.aload_n 0, 1) := by decide +kernel
theorem dJ0_coder_7d493_7 : decode cJ0_coder_7d493 7 = .ok (.getfield 15, 3) := by decide +kernel
theorem dJ0_coder_7d493_10 : decode cJ0_coder_7d493 10 = .ok (.goto 4, 3) := by decide +kernel
theorem dJ0_coder_7d493_14 : decode cJ0_coder_7d493 14 = .ok (.ireturn, 1) := by decide +kernel
theorem dJ0_isLatin1_aae02_0 : decode cJ0_isLatin1_aae02 0 = .ok (.getstatic 38, 3) := by decide +kernel
theorem dJ0_isLatin1_aae02_3 : decode cJ0_isLatin1_aae02 3 = .ok (.ifCond .eq 14, 3) := by decide +kernel
theorem dJ0_isLatin1_aae02_6 : decode cJ0_isLatin1_aae02 6 = .ok (.aload_n 0, 1) := by decide +kernel
theorem dJ0_isLatin1_aae02_7 : decode cJ0_isLatin1_aae02 7 = .ok (.getfield 15, 3) := by decide +kernel
theorem dJ0_isLatin1_aae02_10 : decode cJ0_isLatin1_aae02 10 = .ok (.ifCond .ne 7, 3) := by decide +kernel
theorem dJ0_isLatin1_aae02_13 : decode cJ0_isLatin1_aae02 13 = .ok (.iconst 1, 1) := by decide +kernel
theorem dJ0_isLatin1_aae02_14 : decode cJ0_isLatin1_aae02 14 = .ok (.goto 4, 3) := by decide +kernel
theorem dJ0_isLatin1_aae02_18 : decode cJ0_isLatin1_aae02 18 = .ok (.ireturn, 1) := by decide +kernel
set_option maxRecDepth 20000 in
theorem ggJ0_checkIndex_df160_J3_checkIndex_8e157 : GoodIn wsJ0_checkIndex_df160 wsJ3_checkIndex_8e157 := goodIn_h _ [5] [0] (by decide +kernel) (by decide +kernel)
set_option maxRecDepth 20000 in
theorem gJ0_checkIndex_df160_J3_checkIndex_8e157 : GoodIn wsJ0_checkIndex_df160 (va_wsS RJ0 1059 yJ3_checkIndex_8e157 wsJ3_checkIndex_8e157) := goodIn_app (goodIn_of _ (by decide +kernel)) ggJ0_checkIndex_df160_J3_checkIndex_8e157
theorem dJ0_checkIndex_df160_0 : decode cJ0_checkIndex_df160 0 = .ok (.iload_n 0, 1) := by decide +kernel
theorem dJ0_checkIndex_df160_1 : decode cJ0_checkIndex_df160 1 = .ok (.iload_n 1, 1) := by decide +kernel
theorem dJ0_checkIndex_df160_2 : decode cJ0_checkIndex_df160 2 = .ok (.getstatic 1053, 3) := by decide +kernel
theorem dJ0_checkIndex_df160_5 : decode cJ0_checkIndex_df160 5 = .ok (.invokestatic 1059, 3) := by decide +kernel
theorem dJ0_checkIndex_df160_8 : decode cJ0_checkIndex_df160 8 = .ok (.pop, 1) := by decide +kernel
theorem dJ0_checkIndex_df160_9 : decode cJ0_checkIndex_df160 9 = .ok (.return_, 1) := by decide +kernel
set_option maxRecDepth 20000 in
theorem ggJ1_charAt_3b067_J0_checkIndex_df160 : GoodIn wsJ1_charAt_3b067 wsJ0_checkIndex_df160 := goodIn_h _ [4, 0, 0, 0, 0, 0] [0, 1, 2, 3, 4, 5] (by decide +kernel) (by decide +kernel)
set_option maxRecDepth 20000 in
theorem gJ1_charAt_3b067_J0_checkIndex_df160 : GoodIn wsJ1_charAt_3b067 (va_wsS RJ1 9 yJ0_checkIndex_df160 wsJ0_checkIndex_df160) := goodIn_app (goodIn_of _ (by decide +kernel)) ggJ1_charAt_3b067_J0_checkIndex_df160
theorem dJ1_charAt_3b067_0 : decode cJ1_charAt_3b067 0 = .ok (.iload_n 1, 1) := by decide +kernel
theorem dJ1_charAt_3b067_1 : decode cJ1_charAt_3b067 1 = .ok (.aload_n 0, 1) := by decide +kernel
theorem dJ1_charAt_3b067_2 : decode cJ1_charAt_3b067 2 = .ok (.arraylength, 1) := by decide +kernel
theorem dJ1_charAt_3b067_3 : decode cJ1_charAt_3b067 3 = .ok (.invokestatic 9, 3) := by decide +kernel
theorem dJ1_charAt_3b067_6 : decode cJ1_charAt_3b067 6 = .ok (.aload_n 0, 1) := by decide +kernel
theorem dJ1_charAt_3b067_7 : decode cJ1_charAt_3b067 7 = .ok (.iload_n 1, 1) := by decide +kernel
theorem dJ1_charAt_3b067_8 : decode cJ1_charAt_3b067 8 = .ok (.baload, 1) := by decide +kernel
theorem dJ1_charAt_3b067_9 : decode cJ1_charAt_3b067 9 = .ok (.sipush 255, 3) := by decide +kernel
theorem dJ1_charAt_3b067_12 : decode cJ1_charAt_3b067 12 = .ok (.iand, 1) := by decide +kernel
theorem dJ1_charAt_3b067_13 : decode cJ1_charAt_3b067 13 = .ok (.i2c, 1) := by decide +kernel
theorem dJ1_charAt_3b067_14 : decode cJ1_charAt_3b067 14 = .ok (.ireturn, 1) := by decide +kernel
theorem dJ3_checkIndex_8e157_0 : decode cJ3_checkIndex_8e157 0 = .ok (.iload_n 0, 1) := by decide +kernel
theorem dJ3_checkIndex_8e157_1 : decode cJ3_checkIndex_8e157 1 = .ok (.ifCond .lt 8, 3) := by decide +kernel
theorem dJ3_checkIndex_8e157_4 : decode cJ3_checkIndex_8e157 4 = .ok (.iload_n 0, 1) := by decide +kernel
theorem dJ3_checkIndex_8e157_5 : decode cJ3_checkIndex_8e157 5 = .ok (.iload_n 1, 1) := by decide +kernel
theorem dJ3_checkIndex_8e157_6 : decode cJ3_checkIndex_8e157 6 = .ok (.if_icmp .lt 10, 3) := by decide +kernel
theorem dJ3_checkIndex_8e157_16 : decode cJ3_checkIndex_8e157 16 = .ok (.iload_n 0, 1) := by decide +kernel
theorem dJ3_checkIndex_8e157_17 : decode cJ3_checkIndex_8e157 17 = .ok (.ireturn, 1) := by decide +kernel
theorem inn_X10_isWord_10 : ∀ w ∈ u_ws RX10 TX10 7, w ∈ wsX10_isWord := fun w h => List.mem_cons_of_mem _ (List.mem_append_right _ h)
theorem inn_X10_readAct_10 : ∀ w ∈ u_ws RX10 TX10 7, w ∈ wsX10_readAct := fun w h => List.mem_cons_of_mem _ (List.mem_append_left _ (List.mem_append_right _ h))
theorem inn_X10_readCondition_10 : ∀ w ∈ u_ws RX10 TX10 7, w ∈ wsX10_readCondition := fun w h => List.mem_cons_of_mem _ (List.mem_append_left _ (List.mem_append_right _ h))
theorem inn_X10_readInto_10 : ∀ w ∈ u_ws RX10 TX10 7, w ∈ wsX10_readInto := fun w h => List.mem_cons_of_mem _ (List.mem_append_right _ h)
theorem inn_X10_readInto_6 : ∀ w ∈ u_ws RX6 TX6 7, w ∈ wsX10_readInto := fun w h => List.mem_cons_of_mem _ (List.mem_append_left _ (List.mem_append_right _ h))
theorem inn_X10_readRule_6 : ∀ w ∈ u_ws RX6 TX6 7, w ∈ wsX10_readRule := fun w h => List.mem_cons_of_mem _ (List.mem_append_left _ (List.mem_append_right _ h))
theorem inn_X11_program_10 : ∀ w ∈ u_ws RX10 TX10 7, w ∈ wsX11_program := fun w h => List.mem_cons_of_mem _ (List.mem_append_left _ (List.mem_append_left _ (List.mem_append_right _ h)))
theorem inn_X11_program_11 : ∀ w ∈ u_ws RX11 TX11 12, w ∈ wsX11_program := fun w h => List.mem_cons_of_mem _ (List.mem_append_left _ (List.mem_append_left _ (List.mem_append_left _ (List.mem_append_right _ h))))
theorem inn_X11_program_4 : ∀ w ∈ u_ws RX4 TX4 12, w ∈ wsX11_program := fun w h => List.mem_cons_of_mem _ (List.mem_append_left _ (List.mem_append_right _ h))
theorem inn_X11_program_6 : ∀ w ∈ u_ws RX6 TX6 7, w ∈ wsX11_program := fun w h => List.mem_cons_of_mem _ (List.mem_append_right _ h)
set_option maxHeartbeats 4000000 in
set_option maxRecDepth 100000 in
theorem k_J0_coder_7d493 (l : Launch) (G : va_G) (cy : Nat → ClassId) (κ : Nat → Nat) (S : PS) (sz : Nat) (i : Nat) (hG : GX S) (hi_i : i < 26) : Ci l yJ0_coder_7d493 wsJ0_coder_7d493 ({ frames := 1, cells := 0, slots := 0, locals := 48 }) G cy κ S sz [.ref (κ (100 + i))] (fun (r : Int32) (S9 : PS) => S = S9 ∧ (r = 0)) := by
  refine ent_m (cc := cJ0_coder_7d493) (maxL := 1) (ret := (some .byte)) (by decide) rfl (Nat.le_of_ble_eq_true rfl) ?_
  intro p e s m below meth c ls X hr hlocks hin hw hl hsz
  subst hsz
  have X : Cx p c cJ0_coder_7d493 1 s [.ref (κ (100 + i))].toArray wsJ0_coder_7d493 RJ0 m G cy κ (AS S s.heap.size) := X
  have hl : lv_has ls 1 [(0, .ref (κ (100 + i)))] := hl
  refine va_gets X.1 X.2.1 X.2.2.2.2.2.2.2.2.2.2.2.2.1 hw.2.2 X.2.2.2.2.1 (X.2.2.2.1 (.fieldLink RJ0 38 "java/lang/String" "COMPACT_STRINGS" "Z") (by decide +kernel)) (fun x h => h) dJ0_coder_7d493_0 ?_
  refine lv_if_eq (tgt := 13) X.1 X.2.1 dJ0_coder_7d493_3 (by decide) (fun c_1 => absurd c_1 (by decide)) (fun c_1 => ?_)
  refine lv_aload_n X.1 X.2.1 dJ0_coder_7d493_6 rfl (lv_at hl 0 rfl) ?_
  refine vk_getf X.1 X.2.1 (X.2.2.2.2.2.2.2.2.2.2.2.2.2.2 i hi_i).2.2.1 hw.2.2 X.2.2.2.2.1 (X.2.2.2.1 (.fieldLink RJ0 15 "java/lang/String" "coder" "B") (by decide +kernel)) (fun x h => h) dJ0_coder_7d493_7 ?_
  refine lv_goto (tgt := 14) X.1 X.2.1 dJ0_coder_7d493_10 (by decide) ?_
  exact ret_n X hw hr hlocks (Nat.le_of_ble_eq_true rfl) (Nat.le_of_ble_eq_true rfl) (by decide +kernel) ⟨rfl, rfl⟩ dJ0_coder_7d493_14
set_option maxHeartbeats 4000000 in
set_option maxRecDepth 100000 in
theorem k_J0_isLatin1_aae02 (l : Launch) (G : va_G) (cy : Nat → ClassId) (κ : Nat → Nat) (S : PS) (sz : Nat) (i : Nat) (hG : GX S) (hi_i : i < 26) : Ci l yJ0_isLatin1_aae02 wsJ0_isLatin1_aae02 ({ frames := 1, cells := 0, slots := 0, locals := 48 }) G cy κ S sz [.ref (κ (100 + i))] (fun (r : Int32) (S9 : PS) => S = S9 ∧ (r = 1)) := by
  refine ent_m (cc := cJ0_isLatin1_aae02) (maxL := 1) (ret := (some .boolean)) (by decide) rfl (Nat.le_of_ble_eq_true rfl) ?_
  intro p e s m below meth c ls X hr hlocks hin hw hl hsz
  subst hsz
  have X : Cx p c cJ0_isLatin1_aae02 1 s [.ref (κ (100 + i))].toArray wsJ0_isLatin1_aae02 RJ0 m G cy κ (AS S s.heap.size) := X
  have hl : lv_has ls 1 [(0, .ref (κ (100 + i)))] := hl
  refine va_gets X.1 X.2.1 X.2.2.2.2.2.2.2.2.2.2.2.2.1 hw.2.2 X.2.2.2.2.1 (X.2.2.2.1 (.fieldLink RJ0 38 "java/lang/String" "COMPACT_STRINGS" "Z") (by decide +kernel)) (fun x h => h) dJ0_isLatin1_aae02_0 ?_
  refine lv_if_eq (tgt := 17) X.1 X.2.1 dJ0_isLatin1_aae02_3 (by decide) (fun c_1 => absurd c_1 (by decide)) (fun c_1 => ?_)
  refine lv_aload_n X.1 X.2.1 dJ0_isLatin1_aae02_6 rfl (lv_at hl 0 rfl) ?_
  refine vk_getf X.1 X.2.1 (X.2.2.2.2.2.2.2.2.2.2.2.2.2.2 i hi_i).2.2.1 hw.2.2 X.2.2.2.2.1 (X.2.2.2.1 (.fieldLink RJ0 15 "java/lang/String" "coder" "B") (by decide +kernel)) (fun x h => h) dJ0_isLatin1_aae02_7 ?_
  refine lv_if_ne (tgt := 17) X.1 X.2.1 dJ0_isLatin1_aae02_10 (by decide) (fun c_2 => absurd c_2 (by decide)) (fun c_2 => ?_)
  refine lv_iconst (v := 1) X.1 X.2.1 dJ0_isLatin1_aae02_13 (by decide) ?_
  refine lv_goto (tgt := 18) X.1 X.2.1 dJ0_isLatin1_aae02_14 (by decide) ?_
  exact ret_z X hw hr hlocks (Nat.le_of_ble_eq_true rfl) (Nat.le_of_ble_eq_true rfl) (by decide) ⟨rfl, rfl⟩ dJ0_isLatin1_aae02_18
set_option maxHeartbeats 4000000 in
set_option maxRecDepth 100000 in
theorem k_J0_length_8abf5 (l : Launch) (G : va_G) (cy : Nat → ClassId) (κ : Nat → Nat) (S : PS) (sz : Nat) (i : Nat) (hG : GX S) (hi_i : i < 26) : Ci l yJ0_length_8abf5 wsJ0_length_8abf5 ({ frames := 2, cells := 0, slots := 0, locals := 96 }) G cy κ S sz [.ref (κ (100 + i))] (fun (r : Int32) (S9 : PS) => S = S9 ∧ (r.toInt = (strN i : Int) ∧ r.toInt ≤ 64)) := by
  refine ent_m (cc := cJ0_length_8abf5) (maxL := 1) (ret := (some .int)) (by decide) rfl (Nat.le_of_ble_eq_true rfl) ?_
  intro p e s m below meth c ls X hr hlocks hin hw hl hsz
  subst hsz
  have X : Cx p c cJ0_length_8abf5 1 s [.ref (κ (100 + i))].toArray wsJ0_length_8abf5 RJ0 m G cy κ (AS S s.heap.size) := X
  have hl : lv_has ls 1 [(0, .ref (κ (100 + i)))] := hl
  refine lv_aload_n X.1 X.2.1 dJ0_length_8abf5_0 rfl (lv_at hl 0 rfl) ?_
  refine vk_getf X.1 X.2.1 (X.2.2.2.2.2.2.2.2.2.2.2.2.2.2 i hi_i).2.2.2.1 hw.2.2 X.2.2.2.2.1 (X.2.2.2.1 (.fieldLink RJ0 9 "java/lang/String" "value" "[B") (by decide +kernel)) (fun x h => h) dJ0_length_8abf5_1 ?_
  refine va_tlen (v := nI (strN i)) X.1 X.2.1 (X.2.2.2.2.2.2.2.2.2.2.2.2.2.2 i hi_i).2.2.2.2 hw.2.2 rfl dJ0_length_8abf5_4 ?_
  refine lv_topi (fun v_1 ev_1 => ?_)
  have z_2 : v_1.toInt = (strN i : Int) := z_len ev_1 (by have := strN_le i; omega)
  have z_3 := strN_le i
  refine lv_aload_n X.1 X.2.1 dJ0_length_8abf5_5 rfl (lv_at hl 0 rfl) ?_
  refine k_i (rm := { frames := 1, cells := 0, slots := 0, locals := 48 }) (av := [.ref (κ (100 + i))]) X hw (va_runV (As := []) (rest := [.int (v_1)]) (cfix X) (k_J0_coder_7d493 l G cy κ S _ i hG hi_i) (cwV 0 X.2.2.2.1 gJ0_length_8abf5_J0_coder_7d493 rfl rfl rfl (by decide +kernel) ⟨Nat.le_of_ble_eq_true rfl, Nat.le_of_ble_eq_true rfl⟩) (pre_VS X hw _ i hi_i) rfl rfl hl.1 rfl (lv_room (Nat.le_of_ble_eq_true rfl)) dJ0_length_8abf5_6 ⟨Nat.le_of_ble_eq_true rfl, Nat.le_of_ble_eq_true rfl⟩) 0 0 (Nat.le_of_ble_eq_true rfl) (Nat.le_of_ble_eq_true rfl) (fun rr_4 S_5 H locs hp hw hfr hnw => ?_)
  obtain ⟨e2, hp⟩ := hp
  subst e2
  subst hp
  refine lv_ishr X.1 X.2.1 dJ0_length_8abf5_9 ?_
  refine lv_topi (fun v_6 ev_6 => ?_)
  have z_7 : v_6.toInt = v_1.toInt := z_shr0 ev_6 rfl
  exact ret_i X hw hr hlocks (Nat.le_of_ble_eq_true rfl) (Nat.le_of_ble_eq_true rfl) ⟨rfl, ⟨by omega, by omega⟩⟩ dJ0_length_8abf5_10
set_option maxHeartbeats 4000000 in
set_option maxRecDepth 100000 in
theorem k_J3_checkIndex_8e157 (l : Launch) (G : va_G) (cy : Nat → ClassId) (κ : Nat → Nat) (S : PS) (sz : Nat) (a1 : Int32) (a1_z : Int) (a2 : Int32) (a2_z : Int) (o : Option Nat) (hG : GX S) (hz_a1 : a1.toInt = a1_z) (hz_a2 : a2.toInt = a2_z) (hp_0 : 0 ≤ a1_z) (hp_1 : a1_z < a2_z) : Ci l yJ3_checkIndex_8e157 wsJ3_checkIndex_8e157 ({ frames := 1, cells := 0, slots := 0, locals := 48 }) G cy κ S sz [.int (a1), .int (a2), va_rf o] (fun (r : Int32) (S9 : PS) => S = S9 ∧ (True)) := by
  rcases o with _ | q_o
  · have z_b_1 := trivial
    refine ent_m (cc := cJ3_checkIndex_8e157) (maxL := 3) (ret := (some .int)) (by decide) rfl (Nat.le_of_ble_eq_true rfl) ?_
    intro p e s m below meth c ls X hr hlocks hin hw hl hsz
    subst hsz
    have X : Cx p c cJ3_checkIndex_8e157 3 s [.int (a1), .int (a2), .null].toArray wsJ3_checkIndex_8e157 RJ3 m G cy κ (AS S s.heap.size) := X
    have hl : lv_has ls 3 [(0, .int (a1)), (1, .int (a2)), (2, .null)] := hl
    have rg_a1 : (-2147483648) ≤ a1_z ∧ a1_z ≤ 2147483647 := by rw [← hz_a1]; exact ⟨z_lo _, z_hi _⟩
    have rg_a2 : (-2147483648) ≤ a2_z ∧ a2_z ≤ 2147483647 := by rw [← hz_a2]; exact ⟨z_lo _, z_hi _⟩
    refine lv_iload_n X.1 X.2.1 dJ3_checkIndex_8e157_0 rfl (lv_at hl 0 rfl) ?_
    refine lv_if_lt (tgt := 9) X.1 X.2.1 dJ3_checkIndex_8e157_1 (by decide) (fun c_2 => ?_) (fun c_2 => ?_)
    · exfalso
      have k_3 : a1_z < 0 := z_lt hz_a1 ti_0 c_2
      omega
    have k_4 : a1_z ≥ 0 := z_nlt hz_a1 ti_0 c_2
    refine lv_iload_n X.1 X.2.1 dJ3_checkIndex_8e157_4 rfl (lv_at hl 0 rfl) ?_
    refine lv_iload_n X.1 X.2.1 dJ3_checkIndex_8e157_5 rfl (lv_at hl 1 rfl) ?_
    refine lv_icmp_lt (tgt := 16) X.1 X.2.1 dJ3_checkIndex_8e157_6 (by decide) (fun c_5 => ?_) (fun c_5 => ?_)
    rotate_left
    · exfalso
      have k_6 : a1_z ≥ a2_z := z_nlt hz_a1 hz_a2 c_5
      omega
    have k_7 : a1_z < a2_z := z_lt hz_a1 hz_a2 c_5
    refine lv_iload_n X.1 X.2.1 dJ3_checkIndex_8e157_16 rfl (lv_at hl 0 rfl) ?_
    exact ret_i X hw hr hlocks (Nat.le_of_ble_eq_true rfl) (Nat.le_of_ble_eq_true rfl) ⟨rfl, trivial⟩ dJ3_checkIndex_8e157_17
  · have z_b_8 := trivial
    refine ent_m (cc := cJ3_checkIndex_8e157) (maxL := 3) (ret := (some .int)) (by decide) rfl (Nat.le_of_ble_eq_true rfl) ?_
    intro p e s m below meth c ls X hr hlocks hin hw hl hsz
    subst hsz
    have X : Cx p c cJ3_checkIndex_8e157 3 s [.int (a1), .int (a2), .ref q_o].toArray wsJ3_checkIndex_8e157 RJ3 m G cy κ (AS S s.heap.size) := X
    have hl : lv_has ls 3 [(0, .int (a1)), (1, .int (a2)), (2, .ref q_o)] := hl
    have rg_a1 : (-2147483648) ≤ a1_z ∧ a1_z ≤ 2147483647 := by rw [← hz_a1]; exact ⟨z_lo _, z_hi _⟩
    have rg_a2 : (-2147483648) ≤ a2_z ∧ a2_z ≤ 2147483647 := by rw [← hz_a2]; exact ⟨z_lo _, z_hi _⟩
    refine lv_iload_n X.1 X.2.1 dJ3_checkIndex_8e157_0 rfl (lv_at hl 0 rfl) ?_
    refine lv_if_lt (tgt := 9) X.1 X.2.1 dJ3_checkIndex_8e157_1 (by decide) (fun c_9 => ?_) (fun c_9 => ?_)
    · exfalso
      have k_10 : a1_z < 0 := z_lt hz_a1 ti_0 c_9
      omega
    have k_11 : a1_z ≥ 0 := z_nlt hz_a1 ti_0 c_9
    refine lv_iload_n X.1 X.2.1 dJ3_checkIndex_8e157_4 rfl (lv_at hl 0 rfl) ?_
    refine lv_iload_n X.1 X.2.1 dJ3_checkIndex_8e157_5 rfl (lv_at hl 1 rfl) ?_
    refine lv_icmp_lt (tgt := 16) X.1 X.2.1 dJ3_checkIndex_8e157_6 (by decide) (fun c_12 => ?_) (fun c_12 => ?_)
    rotate_left
    · exfalso
      have k_13 : a1_z ≥ a2_z := z_nlt hz_a1 hz_a2 c_12
      omega
    have k_14 : a1_z < a2_z := z_lt hz_a1 hz_a2 c_12
    refine lv_iload_n X.1 X.2.1 dJ3_checkIndex_8e157_16 rfl (lv_at hl 0 rfl) ?_
    exact ret_i X hw hr hlocks (Nat.le_of_ble_eq_true rfl) (Nat.le_of_ble_eq_true rfl) ⟨rfl, trivial⟩ dJ3_checkIndex_8e157_17
set_option maxHeartbeats 4000000 in
set_option maxRecDepth 100000 in
theorem k_J0_checkIndex_df160 (l : Launch) (G : va_G) (cy : Nat → ClassId) (κ : Nat → Nat) (S : PS) (sz : Nat) (a1 : Int32) (a1_z : Int) (a2 : Int32) (a2_z : Int) (hG : GX S) (hz_a1 : a1.toInt = a1_z) (hz_a2 : a2.toInt = a2_z) (hp_0 : 0 ≤ a1_z) (hp_1 : a1_z < a2_z) : Cv l yJ0_checkIndex_df160 wsJ0_checkIndex_df160 ({ frames := 2, cells := 0, slots := 0, locals := 96 }) G cy κ S sz [.int (a1), .int (a2)] (fun (S9 : PS) => S = S9 ∧ (True)) := by
  refine ent_m (cc := cJ0_checkIndex_df160) (maxL := 2) (ret := none) (by decide) rfl (Nat.le_of_ble_eq_true rfl) ?_
  intro p e s m below meth c ls X hr hlocks hin hw hl hsz
  subst hsz
  have X : Cx p c cJ0_checkIndex_df160 2 s [.int (a1), .int (a2)].toArray wsJ0_checkIndex_df160 RJ0 m G cy κ (AS S s.heap.size) := X
  have hl : lv_has ls 2 [(0, .int (a1)), (1, .int (a2))] := hl
  have rg_a1 : (-2147483648) ≤ a1_z ∧ a1_z ≤ 2147483647 := by rw [← hz_a1]; exact ⟨z_lo _, z_hi _⟩
  have rg_a2 : (-2147483648) ≤ a2_z ∧ a2_z ≤ 2147483647 := by rw [← hz_a2]; exact ⟨z_lo _, z_hi _⟩
  refine lv_iload_n X.1 X.2.1 dJ0_checkIndex_df160_0 rfl (lv_at hl 0 rfl) ?_
  refine lv_iload_n X.1 X.2.1 dJ0_checkIndex_df160_1 rfl (lv_at hl 1 rfl) ?_
  rcases X.2.2.2.2.2.2.2.2.2.2.2.2.2.1 with h_2 | ⟨q_1, h_2⟩
  · refine va_gets X.1 X.2.1 h_2 hw.2.2 X.2.2.2.2.1 (X.2.2.2.1 (.fieldLink RJ0 1053 "jdk/internal/util/Preconditions" "SIOOBE_FORMATTER" "Ljava/util/function/BiFunction;") (by decide +kernel)) (fun x h => h) dJ0_checkIndex_df160_2 ?_
    refine k_i (rm := { frames := 1, cells := 0, slots := 0, locals := 48 }) (av := [.int (a1), .int (a2), .null]) X hw (va_runS (As := [.int (a1), .int (a2), .null]) (rest := []) (cfix X) (k_J3_checkIndex_8e157 l G cy κ S _ (a1) (a1_z) (a2) (a2_z) none hG hz_a1 hz_a2 (by omega) (by omega)) (va_cwS 3 X.2.2.2.1 gJ0_checkIndex_df160_J3_checkIndex_8e157 rfl rfl rfl (by decide +kernel) ⟨Nat.le_of_ble_eq_true rfl, Nat.le_of_ble_eq_true rfl⟩) (pre_S X hw _) rfl rfl hl.1 rfl (lv_room (Nat.le_of_ble_eq_true rfl)) dJ0_checkIndex_df160_5 ⟨Nat.le_of_ble_eq_true rfl, Nat.le_of_ble_eq_true rfl⟩) 0 0 (Nat.le_of_ble_eq_true rfl) (Nat.le_of_ble_eq_true rfl) (fun rr_3 S_4 H locs hp hw hfr hnw => ?_)
    obtain ⟨e2, hp⟩ := hp
    subst e2
    have rg_5 := And.intro (z_lo rr_3) (z_hi rr_3)
    refine lv_pop X.1 X.2.1 dJ0_checkIndex_df160_8 rfl ?_
    exact ret_v X hw hr hlocks (Nat.le_of_ble_eq_true rfl) (Nat.le_of_ble_eq_true rfl) ⟨rfl, trivial⟩ dJ0_checkIndex_df160_9
  · refine va_gets X.1 X.2.1 h_2 hw.2.2 X.2.2.2.2.1 (X.2.2.2.1 (.fieldLink RJ0 1053 "jdk/internal/util/Preconditions" "SIOOBE_FORMATTER" "Ljava/util/function/BiFunction;") (by decide +kernel)) (fun x h => h) dJ0_checkIndex_df160_2 ?_
    refine k_i (rm := { frames := 1, cells := 0, slots := 0, locals := 48 }) (av := [.int (a1), .int (a2), .ref q_1]) X hw (va_runS (As := [.int (a1), .int (a2), .ref q_1]) (rest := []) (cfix X) (k_J3_checkIndex_8e157 l G cy κ S _ (a1) (a1_z) (a2) (a2_z) (some q_1) hG hz_a1 hz_a2 (by omega) (by omega)) (va_cwS 3 X.2.2.2.1 gJ0_checkIndex_df160_J3_checkIndex_8e157 rfl rfl rfl (by decide +kernel) ⟨Nat.le_of_ble_eq_true rfl, Nat.le_of_ble_eq_true rfl⟩) (pre_S X hw _) rfl rfl hl.1 rfl (lv_room (Nat.le_of_ble_eq_true rfl)) dJ0_checkIndex_df160_5 ⟨Nat.le_of_ble_eq_true rfl, Nat.le_of_ble_eq_true rfl⟩) 0 0 (Nat.le_of_ble_eq_true rfl) (Nat.le_of_ble_eq_true rfl) (fun rr_6 S_7 H locs hp hw hfr hnw => ?_)
    obtain ⟨e2, hp⟩ := hp
    subst e2
    have rg_8 := And.intro (z_lo rr_6) (z_hi rr_6)
    refine lv_pop X.1 X.2.1 dJ0_checkIndex_df160_8 rfl ?_
    exact ret_v X hw hr hlocks (Nat.le_of_ble_eq_true rfl) (Nat.le_of_ble_eq_true rfl) ⟨rfl, trivial⟩ dJ0_checkIndex_df160_9
set_option maxHeartbeats 4000000 in
set_option maxRecDepth 100000 in
theorem k_J1_charAt_3b067 (l : Launch) (G : va_G) (cy : Nat → ClassId) (κ : Nat → Nat) (S : PS) (sz : Nat) (i : Nat) (a1 : Int32) (a1_z : Int) (hG : GX S) (hi_i : i < 26) (hz_a1 : a1.toInt = a1_z) (hp_0 : 0 ≤ a1_z) (hp_1 : a1_z < (strN i : Int)) : Ci l yJ1_charAt_3b067 wsJ1_charAt_3b067 ({ frames := 3, cells := 0, slots := 0, locals := 144 }) G cy κ S sz [.ref (κ (200 + i)), .int (a1)] (fun (r : Int32) (S9 : PS) => S = S9 ∧ (0 ≤ r.toInt ∧ r.toInt ≤ 65535)) := by
  refine ent_m (cc := cJ1_charAt_3b067) (maxL := 2) (ret := (some .char)) (by decide) rfl (Nat.le_of_ble_eq_true rfl) ?_
  intro p e s m below meth c ls X hr hlocks hin hw hl hsz
  subst hsz
  have X : Cx p c cJ1_charAt_3b067 2 s [.ref (κ (200 + i)), .int (a1)].toArray wsJ1_charAt_3b067 RJ1 m G cy κ (AS S s.heap.size) := X
  have hl : lv_has ls 2 [(0, .ref (κ (200 + i))), (1, .int (a1))] := hl
  have rg_a1 : (-2147483648) ≤ a1_z ∧ a1_z ≤ 2147483647 := by rw [← hz_a1]; exact ⟨z_lo _, z_hi _⟩
  refine lv_iload_n X.1 X.2.1 dJ1_charAt_3b067_0 rfl (lv_at hl 1 rfl) ?_
  refine lv_aload_n X.1 X.2.1 dJ1_charAt_3b067_1 rfl (lv_at hl 0 rfl) ?_
  refine va_tlen (v := nI (strN i)) X.1 X.2.1 (X.2.2.2.2.2.2.2.2.2.2.2.2.2.2 i hi_i).2.2.2.2 hw.2.2 rfl dJ1_charAt_3b067_2 ?_
  refine lv_topi (fun v_1 ev_1 => ?_)
  have z_2 : v_1.toInt = (strN i : Int) := z_len ev_1 (by have := strN_le i; omega)
  have z_3 := strN_le i
  refine k_v (rm := { frames := 2, cells := 0, slots := 0, locals := 96 }) (av := [.int (a1), .int (v_1)]) X hw (va_runS (As := [.int (a1), .int (v_1)]) (rest := []) (cfix X) (k_J0_checkIndex_df160 l G cy κ S _ (a1) (a1_z) (v_1) (v_1.toInt) hG hz_a1 rfl (by omega) (by omega)) (va_cwS 2 X.2.2.2.1 gJ1_charAt_3b067_J0_checkIndex_df160 rfl rfl rfl (by decide +kernel) ⟨Nat.le_of_ble_eq_true rfl, Nat.le_of_ble_eq_true rfl⟩) (pre_S X hw _) rfl rfl hl.1 rfl (lv_room (Nat.le_of_ble_eq_true rfl)) dJ1_charAt_3b067_3 ⟨Nat.le_of_ble_eq_true rfl, Nat.le_of_ble_eq_true rfl⟩) 0 0 (Nat.le_of_ble_eq_true rfl) (Nat.le_of_ble_eq_true rfl) (fun S_5 H locs hp hw hfr hnw => ?_)
  obtain ⟨e2, hp⟩ := hp
  subst e2
  refine lv_aload_n X.1 X.2.1 dJ1_charAt_3b067_6 rfl (lv_at hl 0 rfl) ?_
  refine lv_iload_n X.1 X.2.1 dJ1_charAt_3b067_7 rfl (lv_at hl 1 rfl) ?_
  refine va_tb X.1 X.2.1 (X.2.2.2.2.2.2.2.2.2.2.2.2.2.2 i hi_i).2.2.2.2 hw.2.2 (v := .int (strB i (Int32.toNatClampNeg (a1)))) (z_ix hz_a1 (by omega) (by omega)) rfl dJ1_charAt_3b067_8 ?_
  refine lv_topi (fun v_6 ev_6 => ?_)
  have rg_7 := And.intro (z_lo v_6) (z_hi v_6)
  refine lv_sipush (v := 255) X.1 X.2.1 dJ1_charAt_3b067_9 (by decide) ?_
  refine lv_iand X.1 X.2.1 dJ1_charAt_3b067_12 ?_
  refine lv_topi (fun v_8 ev_8 => ?_)
  have rg_9 := And.intro (z_lo v_8) (z_hi v_8)
  refine lv_i2c X.1 X.2.1 dJ1_charAt_3b067_13 rfl ?_
  refine lv_topi (fun v_10 ev_10 => ?_)
  have rg_11 := And.intro (z_lo v_10) (z_hi v_10)
  have z_12 : 0 ≤ v_10.toInt ∧ v_10.toInt ≤ 65535 := z_i2c ev_10
  exact ret_n X hw hr hlocks (Nat.le_of_ble_eq_true rfl) (Nat.le_of_ble_eq_true rfl) (nar_char (by omega) (by omega)) ⟨rfl, ⟨by omega, by omega⟩⟩ dJ1_charAt_3b067_14
set_option maxHeartbeats 4000000 in
set_option maxRecDepth 100000 in
theorem k_J0_charAt_5068e (l : Launch) (G : va_G) (cy : Nat → ClassId) (κ : Nat → Nat) (S : PS) (sz : Nat) (i : Nat) (a1 : Int32) (a1_z : Int) (hG : GX S) (hi_i : i < 26) (hz_a1 : a1.toInt = a1_z) (hp_0 : 0 ≤ a1_z) (hp_1 : a1_z < (strN i : Int)) : Ci l yJ0_charAt_5068e wsJ0_charAt_5068e ({ frames := 4, cells := 0, slots := 0, locals := 192 }) G cy κ S sz [.ref (κ (100 + i)), .int (a1)] (fun (r : Int32) (S9 : PS) => S = S9 ∧ (0 ≤ r.toInt ∧ r.toInt ≤ 65535)) := by
  refine ent_m (cc := cJ0_charAt_5068e) (maxL := 2) (ret := (some .char)) (by decide) rfl (Nat.le_of_ble_eq_true rfl) ?_
  intro p e s m below meth c ls X hr hlocks hin hw hl hsz
  subst hsz
  have X : Cx p c cJ0_charAt_5068e 2 s [.ref (κ (100 + i)), .int (a1)].toArray wsJ0_charAt_5068e RJ0 m G cy κ (AS S s.heap.size) := X
  have hl : lv_has ls 2 [(0, .ref (κ (100 + i))), (1, .int (a1))] := hl
  have rg_a1 : (-2147483648) ≤ a1_z ∧ a1_z ≤ 2147483647 := by rw [← hz_a1]; exact ⟨z_lo _, z_hi _⟩
  refine lv_aload_n X.1 X.2.1 dJ0_charAt_5068e_0 rfl (lv_at hl 0 rfl) ?_
  refine k_i (rm := { frames := 1, cells := 0, slots := 0, locals := 48 }) (av := [.ref (κ (100 + i))]) X hw (va_runV (As := []) (rest := []) (cfix X) (k_J0_isLatin1_aae02 l G cy κ S _ i hG hi_i) (cwV 0 X.2.2.2.1 gJ0_charAt_5068e_J0_isLatin1_aae02 rfl rfl rfl (by decide +kernel) ⟨Nat.le_of_ble_eq_true rfl, Nat.le_of_ble_eq_true rfl⟩) (pre_VS X hw _ i hi_i) rfl rfl hl.1 rfl (lv_room (Nat.le_of_ble_eq_true rfl)) dJ0_charAt_5068e_1 ⟨Nat.le_of_ble_eq_true rfl, Nat.le_of_ble_eq_true rfl⟩) 0 0 (Nat.le_of_ble_eq_true rfl) (Nat.le_of_ble_eq_true rfl) (fun rr_1 S_2 H locs hp hw hfr hnw => ?_)
  obtain ⟨e2, hp⟩ := hp
  subst e2
  subst hp
  refine lv_if_eq (tgt := 16) X.1 X.2.1 dJ0_charAt_5068e_4 (by decide) (fun c_3 => absurd c_3 (by decide)) (fun c_3 => ?_)
  refine lv_aload_n X.1 X.2.1 dJ0_charAt_5068e_7 rfl (lv_at hl 0 rfl) ?_
  refine vk_getf X.1 X.2.1 (X.2.2.2.2.2.2.2.2.2.2.2.2.2.2 i hi_i).2.2.2.1 hw.2.2 X.2.2.2.2.1 (X.2.2.2.1 (.fieldLink RJ0 9 "java/lang/String" "value" "[B") (by decide +kernel)) (fun x h => h) dJ0_charAt_5068e_8 ?_
  refine lv_iload_n X.1 X.2.1 dJ0_charAt_5068e_11 rfl (lv_at hl 1 rfl) ?_
  refine k_i (rm := { frames := 3, cells := 0, slots := 0, locals := 144 }) (av := [.ref (κ (200 + i)), .int (a1)]) X hw (va_runS (As := [.ref (κ (200 + i)), .int (a1)]) (rest := []) (cfix X) (k_J1_charAt_3b067 l G cy κ S _ i (a1) (a1_z) hG hi_i hz_a1 (by omega) (by omega)) (va_cwS 2 X.2.2.2.1 gJ0_charAt_5068e_J1_charAt_3b067 rfl rfl rfl (by decide +kernel) ⟨Nat.le_of_ble_eq_true rfl, Nat.le_of_ble_eq_true rfl⟩) (pre_S X hw _) rfl rfl hl.1 rfl (lv_room (Nat.le_of_ble_eq_true rfl)) dJ0_charAt_5068e_12 ⟨Nat.le_of_ble_eq_true rfl, Nat.le_of_ble_eq_true rfl⟩) 0 0 (Nat.le_of_ble_eq_true rfl) (Nat.le_of_ble_eq_true rfl) (fun rr_4 S_5 H locs hp hw hfr hnw => ?_)
  obtain ⟨e2, hp⟩ := hp
  subst e2
  obtain ⟨f_6, f_7⟩ := hp
  exact ret_n X hw hr hlocks (Nat.le_of_ble_eq_true rfl) (Nat.le_of_ble_eq_true rfl) (nar_char (by omega) (by omega)) ⟨rfl, ⟨by omega, by omega⟩⟩ dJ0_charAt_5068e_15
set_option maxHeartbeats 4000000 in
set_option maxRecDepth 100000 in
theorem k_X10_isWord (l : Launch) (G : va_G) (cy : Nat → ClassId) (κ : Nat → Nat) (S : PS) (sz : Nat) (x : Nat) (i : Nat) (hG : GX S) (ha_x : At S x 10) (hi_i : i < 26) : Ci l yX10_isWord wsX10_isWord ({ frames := 5, cells := 0, slots := 0, locals := 240 }) G cy κ S sz [.ref x, .ref (κ (100 + i))] (fun (r : Int32) (S9 : PS) => S = S9 ∧ (((True) ∧ r = 1) ∨ ((True) ∧ r = 0))) := by
  refine ent_m (cc := cX10_isWord) (maxL := 3) (ret := (some .boolean)) (by decide) rfl (Nat.le_of_ble_eq_true rfl) ?_
  intro p e s m below meth c ls X hr hlocks hin hw hl hsz
  subst hsz
  have X : Cx p c cX10_isWord 3 s [.ref x, .ref (κ (100 + i))].toArray wsX10_isWord RX10 m G cy κ (AS S s.heap.size) := X
  have hl : lv_has ls 3 [(0, .ref x), (1, .ref (κ (100 + i)))] := hl
  generalize hQQ : MQ below _ _ _ _ _ _ = QQ
  replace hQQ := hQQ.symm
  refine lv_aload_n X.1 X.2.1 dX10_isWord_0 rfl (lv_at hl 0 rfl) ?_
  obtain ⟨v_1, ev_1⟩ : ∃ v, pI S 1004 x = v := ⟨_, rfl⟩
  have rg_3 := And.intro (z_lo v_1) (z_hi v_1)
  refine r_getI (g := 1004) (x := v_1) X hw ha_x rfl 4 ev_1 (by decide) rfl inn_X10_isWord_10 (by decide) (X.2.2.2.1 (.fieldLink RX10 37 "SilkMill$Tape" "token" "I") (by decide +kernel)) rfl (gv_1004 _ _) dX10_isWord_1 ?_
  refine lv_iconst (v := 1) X.1 X.2.1 dX10_isWord_4 (by decide) ?_
  refine lv_icmp_ne (tgt := 24) X.1 X.2.1 dX10_isWord_5 (by decide) (fun c_4 => ?_) (fun c_4 => ?_)
  · have z_b_5 := trivial
    have k_6 : v_1.toInt ≠ 1 := z_ne rfl ti_1 c_4
    refine lv_iconst (v := 0) X.1 X.2.1 dX10_isWord_24 (by decide) ?_
    rw [hQQ]
    exact ret_z X hw hr hlocks (Nat.le_of_ble_eq_true rfl) (Nat.le_of_ble_eq_true rfl) (by decide) ⟨rfl, Or.inr ⟨trivial, rfl⟩⟩ dX10_isWord_25
  · have z_b_7 := trivial
    have k_8 : v_1.toInt = 1 := z_eq rfl ti_1 c_4
    refine lv_aload_n X.1 X.2.1 dX10_isWord_8 rfl (lv_at hl 0 rfl) ?_
    obtain ⟨v_9, ev_9⟩ : ∃ v, pI S 1006 x = v := ⟨_, rfl⟩
    have rg_11 := And.intro (z_lo v_9) (z_hi v_9)
    refine r_getI (g := 1006) (x := v_9) X hw ha_x rfl 6 ev_9 (by decide) rfl inn_X10_isWord_10 (by decide) (X.2.2.2.1 (.fieldLink RX10 31 "SilkMill$Tape" "behind" "I") (by decide +kernel)) rfl (gv_1006 _ _) dX10_isWord_9 ?_
    refine lv_aload_n X.1 X.2.1 dX10_isWord_12 rfl (lv_at hl 0 rfl) ?_
    obtain ⟨v_12, ev_12⟩ : ∃ v, pI S 1005 x = v := ⟨_, rfl⟩
    have rg_14 := And.intro (z_lo v_12) (z_hi v_12)
    refine r_getI (g := 1005) (x := v_12) X hw ha_x rfl 5 ev_12 (by decide) rfl inn_X10_isWord_10 (by decide) (X.2.2.2.1 (.fieldLink RX10 79 "SilkMill$Tape" "start" "I") (by decide +kernel)) rfl (gv_1005 _ _) dX10_isWord_13 ?_
    refine lv_isub X.1 X.2.1 dX10_isWord_16 ?_
    refine lv_topi (fun v_15 ev_15 => ?_)
    have rg_16 := And.intro (z_lo v_15) (z_hi v_15)
    refine lv_aload_n X.1 X.2.1 dX10_isWord_17 rfl (lv_at hl 1 rfl) ?_
    refine k_i (rm := { frames := 2, cells := 0, slots := 0, locals := 96 }) (av := [.ref (κ (100 + i))]) X hw (va_runV (As := []) (rest := [.int (v_15)]) (cfix X) (k_J0_length_8abf5 l G cy κ S _ i hG hi_i) (cwV 0 X.2.2.2.1 gX10_isWord_J0_length_8abf5 rfl rfl rfl (by decide +kernel) ⟨Nat.le_of_ble_eq_true rfl, Nat.le_of_ble_eq_true rfl⟩) (pre_VS X hw _ i hi_i) rfl rfl hl.1 rfl (lv_room (Nat.le_of_ble_eq_true rfl)) dX10_isWord_18 ⟨Nat.le_of_ble_eq_true rfl, Nat.le_of_ble_eq_true rfl⟩) 0 0 (Nat.le_of_ble_eq_true rfl) (Nat.le_of_ble_eq_true rfl) (fun rr_17 S_18 H locs hp hw hfr hnw => ?_)
    obtain ⟨e2, hp⟩ := hp
    subst e2
    obtain ⟨f_19, f_20⟩ := hp
    refine lv_icmp_eq (tgt := 26) X.1 X.2.1 dX10_isWord_21 (by decide) (fun c_21 => ?_) (fun c_21 => ?_)
    · have z_b_22 := trivial
      have k_23 : v_15.toInt = rr_17.toInt := z_eq rfl rfl c_21
      refine lv_iconst (v := 0) X.1 X.2.1 dX10_isWord_26 (by decide) ?_
      refine lv_istore_n (lv' := [(2, .int 0), (0, .ref x), (1, .ref (κ (100 + i)))]) X.1 X.2.1 dX10_isWord_27 rfl hl (by decide) rfl (fun ls hl => ?_)
      have L_24 : ∀ (n : Nat) (H : Heap) (locs : List Loc) (ls : Array Slot) (i2_25 : Int32) (i2_25_z : Int), ((64 - i2_25_z).toNat = n) → (Wd G cy (AS S s.heap.size) s.heap S H locs) → (i2_25.toInt = i2_25_z) → (0 ≤ i2_25_z ∧ i2_25_z ≤ 64) → (lv_has ls 3 [(2, .int (i2_25)), (0, .ref x), (1, .ref (κ (100 + i)))]) → W p l e ({ frames := 5, cells := 0, slots := 0, locals := 240 }) s m [.ref x, .ref (κ (100 + i))].toArray below meth c H locs 0 0 QQ (F0 m 28 ls []) := by
        intro n
        induction n using Nat.strongRecOn with
        | ind n ih =>
        intro H locs ls i2_25 i2_25_z hn hw hz_i2_25 hr_i2_25 hl
        have rg_26 : (-2147483648) ≤ i2_25_z ∧ i2_25_z ≤ 2147483647 := by rw [← hz_i2_25]; exact ⟨z_lo _, z_hi _⟩
        refine lv_iload_n X.1 X.2.1 dX10_isWord_28 rfl (lv_at hl 0 rfl) ?_
        refine lv_aload_n X.1 X.2.1 dX10_isWord_29 rfl (lv_at hl 2 rfl) ?_
        refine k_i (rm := { frames := 2, cells := 0, slots := 0, locals := 96 }) (av := [.ref (κ (100 + i))]) X hw (va_runV (As := []) (rest := [.int (i2_25)]) (cfix X) (k_J0_length_8abf5 l G cy κ S _ i hG hi_i) (cwV 0 X.2.2.2.1 gX10_isWord_J0_length_8abf5 rfl rfl rfl (by decide +kernel) ⟨Nat.le_of_ble_eq_true rfl, Nat.le_of_ble_eq_true rfl⟩) (pre_VS X hw _ i hi_i) rfl rfl hl.1 rfl (lv_room (Nat.le_of_ble_eq_true rfl)) dX10_isWord_30 ⟨Nat.le_of_ble_eq_true rfl, Nat.le_of_ble_eq_true rfl⟩) 0 0 (Nat.le_of_ble_eq_true rfl) (Nat.le_of_ble_eq_true rfl) (fun rr_27 S_28 H locs hp hw hfr hnw => ?_)
        obtain ⟨e2, hp⟩ := hp
        subst e2
        obtain ⟨f_29, f_30⟩ := hp
        refine lv_icmp_ge (tgt := 62) X.1 X.2.1 dX10_isWord_33 (by decide) (fun c_31 => ?_) (fun c_31 => ?_)
        · have z_b_32 := trivial
          have k_33 : i2_25_z ≥ rr_27.toInt := z_le rfl hz_i2_25 c_31
          refine lv_iconst (v := 1) X.1 X.2.1 dX10_isWord_62 (by decide) ?_
          rw [hQQ]
          exact ret_z X hw hr hlocks (Nat.le_of_ble_eq_true rfl) (Nat.le_of_ble_eq_true rfl) (by decide) ⟨rfl, Or.inl ⟨trivial, rfl⟩⟩ dX10_isWord_63
        · have z_b_34 := trivial
          have k_35 : i2_25_z < rr_27.toInt := z_nle rfl hz_i2_25 c_31
          refine lv_aload_n X.1 X.2.1 dX10_isWord_36 rfl (lv_at hl 1 rfl) ?_
          refine lv_aload_n X.1 X.2.1 dX10_isWord_37 rfl (lv_at hl 1 rfl) ?_
          refine r_getI (g := 1005) (x := v_12) X hw ha_x rfl 5 ev_12 (by decide) rfl inn_X10_isWord_10 (by decide) (X.2.2.2.1 (.fieldLink RX10 79 "SilkMill$Tape" "start" "I") (by decide +kernel)) rfl (gv_1005 _ _) dX10_isWord_38 ?_
          refine lv_iload_n X.1 X.2.1 dX10_isWord_41 rfl (lv_at hl 0 rfl) ?_
          refine lv_iadd X.1 X.2.1 dX10_isWord_42 ?_
          refine lv_topi (fun v_36 ev_36 => ?_)
          have rg_37 := And.intro (z_lo v_36) (z_hi v_36)
          refine k_i (rm := { frames := 1, cells := 0, slots := 0, locals := 48 }) (av := [.ref x, .int (v_36)]) X hw (va_runV (As := [.int (v_36)]) (rest := []) (cfix X) (k_X10_byteAt l G cy κ S _ x (v_36) (v_36.toInt) hG ha_x rfl) (cwV 1 X.2.2.2.1 gX10_isWord_X10_byteAt rfl rfl rfl (by decide +kernel) ⟨Nat.le_of_ble_eq_true rfl, Nat.le_of_ble_eq_true rfl⟩) (pre_V X hw _ ha_x rfl (by decide) rfl) rfl rfl hl.1 rfl (lv_room (Nat.le_of_ble_eq_true rfl)) dX10_isWord_43 ⟨Nat.le_of_ble_eq_true rfl, Nat.le_of_ble_eq_true rfl⟩) 0 0 (Nat.le_of_ble_eq_true rfl) (Nat.le_of_ble_eq_true rfl) (fun rr_38 S_39 H locs hp hw hfr hnw => ?_)
          obtain ⟨e2, hp⟩ := hp
          subst e2
          have rg_40 := And.intro (z_lo rr_38) (z_hi rr_38)
          refine lv_aload_n X.1 X.2.1 dX10_isWord_46 rfl (lv_at hl 2 rfl) ?_
          refine lv_iload_n X.1 X.2.1 dX10_isWord_47 rfl (lv_at hl 0 rfl) ?_
          refine k_i (rm := { frames := 4, cells := 0, slots := 0, locals := 192 }) (av := [.ref (κ (100 + i)), .int (i2_25)]) X hw (va_runV (As := [.int (i2_25)]) (rest := [.int (rr_38)]) (cfix X) (k_J0_charAt_5068e l G cy κ S _ i (i2_25) (i2_25_z) hG hi_i hz_i2_25 (by omega) (by omega)) (cwV 1 X.2.2.2.1 gX10_isWord_J0_charAt_5068e rfl rfl rfl (by decide +kernel) ⟨Nat.le_of_ble_eq_true rfl, Nat.le_of_ble_eq_true rfl⟩) (pre_VS X hw _ i hi_i) rfl rfl hl.1 rfl (lv_room (Nat.le_of_ble_eq_true rfl)) dX10_isWord_48 ⟨Nat.le_of_ble_eq_true rfl, Nat.le_of_ble_eq_true rfl⟩) 0 0 (Nat.le_of_ble_eq_true rfl) (Nat.le_of_ble_eq_true rfl) (fun rr_41 S_42 H locs hp hw hfr hnw => ?_)
          obtain ⟨e2, hp⟩ := hp
          subst e2
          obtain ⟨f_43, f_44⟩ := hp
          refine lv_icmp_eq (tgt := 56) X.1 X.2.1 dX10_isWord_51 (by decide) (fun c_45 => ?_) (fun c_45 => ?_)
          · have z_b_46 := trivial
            have k_47 : rr_38.toInt = rr_41.toInt := z_eq rfl rfl c_45
            obtain ⟨x_48, ex_48⟩ : ∃ y : Int32, y = i2_25 + 1 := ⟨_, rfl⟩
            have z_49 : x_48.toInt = i2_25_z + 1 := z_add ex_48 hz_i2_25 ti_1 (by omega) (by omega)
            refine lv_iinc (v := x_48) (lv' := [(2, .int (x_48)), (0, .ref x), (1, .ref (κ (100 + i)))]) X.1 X.2.1 dX10_isWord_56 hl (k := 0) rfl (by rw [ex_48]; rfl) (by decide) rfl (fun ls hl => ?_)
            refine lv_goto (tgt := 28) X.1 X.2.1 dX10_isWord_59 (by decide) ?_
            exact ih _ (by omega) _ _ _ (x_48) (x_48.toInt) rfl hw rfl (by omega) (lv_sub hl [0, 1, 2] rfl)
          · have z_b_50 := trivial
            have k_51 : rr_38.toInt ≠ rr_41.toInt := z_ne rfl rfl c_45
            refine lv_iconst (v := 0) X.1 X.2.1 dX10_isWord_54 (by decide) ?_
            rw [hQQ]
            exact ret_z X hw hr hlocks (Nat.le_of_ble_eq_true rfl) (Nat.le_of_ble_eq_true rfl) (by decide) ⟨rfl, Or.inr ⟨trivial, rfl⟩⟩ dX10_isWord_55
      exact L_24 _ _ _ _ (0) (0) rfl hw ti_0 (by omega) (lv_sub hl [0, 1, 2] rfl)
    · have z_b_52 := trivial
      have k_53 : v_15.toInt ≠ rr_17.toInt := z_ne rfl rfl c_21
      refine lv_iconst (v := 0) X.1 X.2.1 dX10_isWord_24 (by decide) ?_
      rw [hQQ]
      exact ret_z X hw hr hlocks (Nat.le_of_ble_eq_true rfl) (Nat.le_of_ble_eq_true rfl) (by decide) ⟨rfl, Or.inr ⟨trivial, rfl⟩⟩ dX10_isWord_25
set_option maxHeartbeats 4000000 in
set_option maxRecDepth 100000 in
theorem k_X10_fieldAtHand (l : Launch) (G : va_G) (cy : Nat → ClassId) (κ : Nat → Nat) (S : PS) (sz : Nat) (x : Nat) (hG : GX S) (ha_x : At S x 10) : Ci l yX10_fieldAtHand wsX10_fieldAtHand ({ frames := 6, cells := 0, slots := 0, locals := 288 }) G cy κ S sz [.ref x] (fun (r : Int32) (S9 : PS) => S = S9 ∧ (True)) := by
  refine ent_m (cc := cX10_fieldAtHand) (maxL := 1) (ret := (some .int)) (by decide) rfl (Nat.le_of_ble_eq_true rfl) ?_
  intro p e s m below meth c ls X hr hlocks hin hw hl hsz
  subst hsz
  have X : Cx p c cX10_fieldAtHand 1 s [.ref x].toArray wsX10_fieldAtHand RX10 m G cy κ (AS S s.heap.size) := X
  have hl : lv_has ls 1 [(0, .ref x)] := hl
  refine lv_aload_n X.1 X.2.1 dX10_fieldAtHand_0 rfl (lv_at hl 0 rfl) ?_
  refine va_ldcS (q := κ (100 + 4)) X.1 X.2.1 X.2.2.2.2.1 (show vk_R RX10 97 "fine" (κ (100 + 4)) s from (X.2.2.2.2.2.2.2.2.2.2.2.2.2.2 4 (by decide)).1) dX10_fieldAtHand_1 ?_
  refine k_i (rm := { frames := 5, cells := 0, slots := 0, locals := 240 }) (av := [.ref x, .ref (κ (100 + 4))]) X hw (va_runV (As := [.ref (κ (100 + 4))]) (rest := []) (cfix X) (k_X10_isWord l G cy κ S _ x 4 hG ha_x (by decide)) (cwV 1 X.2.2.2.1 gX10_fieldAtHand_X10_isWord rfl rfl rfl (by decide +kernel) ⟨Nat.le_of_ble_eq_true rfl, Nat.le_of_ble_eq_true rfl⟩) (pre_V X hw _ ha_x rfl (by decide) rfl) rfl rfl hl.1 rfl (lv_room (Nat.le_of_ble_eq_true rfl)) dX10_fieldAtHand_3 ⟨Nat.le_of_ble_eq_true rfl, Nat.le_of_ble_eq_true rfl⟩) 0 0 (Nat.le_of_ble_eq_true rfl) (Nat.le_of_ble_eq_true rfl) (fun rr_1 S_2 H locs hp hw hfr hnw => ?_)
  obtain ⟨e2, hp⟩ := hp
  subst e2
  rcases hp with ⟨f_3, er_4⟩ | ⟨f_3, er_4⟩ <;> subst er_4
  · have z_b_5 := trivial
    refine lv_if_eq (tgt := 11) X.1 X.2.1 dX10_fieldAtHand_6 (by decide) (fun c_6 => absurd c_6 (by decide)) (fun c_6 => ?_)
    refine lv_iconst (v := 0) X.1 X.2.1 dX10_fieldAtHand_9 (by decide) ?_
    exact ret_i X hw hr hlocks (Nat.le_of_ble_eq_true rfl) (Nat.le_of_ble_eq_true rfl) ⟨rfl, trivial⟩ dX10_fieldAtHand_10
  · have z_b_7 := trivial
    refine lv_if_eq (tgt := 11) X.1 X.2.1 dX10_fieldAtHand_6 (by decide) (fun c_8 => ?_) (fun c_8 => absurd c_8 (by decide))
    refine lv_aload_n X.1 X.2.1 dX10_fieldAtHand_11 rfl (lv_at hl 0 rfl) ?_
    refine va_ldcS (q := κ (100 + 5)) X.1 X.2.1 X.2.2.2.2.1 (show vk_R RX10 99 "ends" (κ (100 + 5)) s from (X.2.2.2.2.2.2.2.2.2.2.2.2.2.2 5 (by decide)).1) dX10_fieldAtHand_12 ?_
    refine k_i (rm := { frames := 5, cells := 0, slots := 0, locals := 240 }) (av := [.ref x, .ref (κ (100 + 5))]) X hw (va_runV (As := [.ref (κ (100 + 5))]) (rest := []) (cfix X) (k_X10_isWord l G cy κ S _ x 5 hG ha_x (by decide)) (cwV 1 X.2.2.2.1 gX10_fieldAtHand_X10_isWord rfl rfl rfl (by decide +kernel) ⟨Nat.le_of_ble_eq_true rfl, Nat.le_of_ble_eq_true rfl⟩) (pre_V X hw _ ha_x rfl (by decide) rfl) rfl rfl hl.1 rfl (lv_room (Nat.le_of_ble_eq_true rfl)) dX10_fieldAtHand_14 ⟨Nat.le_of_ble_eq_true rfl, Nat.le_of_ble_eq_true rfl⟩) 0 0 (Nat.le_of_ble_eq_true rfl) (Nat.le_of_ble_eq_true rfl) (fun rr_9 S_10 H locs hp hw hfr hnw => ?_)
    obtain ⟨e2, hp⟩ := hp
    subst e2
    rcases hp with ⟨f_11, er_12⟩ | ⟨f_11, er_12⟩ <;> subst er_12
    · have z_b_13 := trivial
      refine lv_if_eq (tgt := 22) X.1 X.2.1 dX10_fieldAtHand_17 (by decide) (fun c_14 => absurd c_14 (by decide)) (fun c_14 => ?_)
      refine lv_iconst (v := 1) X.1 X.2.1 dX10_fieldAtHand_20 (by decide) ?_
      exact ret_i X hw hr hlocks (Nat.le_of_ble_eq_true rfl) (Nat.le_of_ble_eq_true rfl) ⟨rfl, trivial⟩ dX10_fieldAtHand_21
    · have z_b_15 := trivial
      refine lv_if_eq (tgt := 22) X.1 X.2.1 dX10_fieldAtHand_17 (by decide) (fun c_16 => ?_) (fun c_16 => absurd c_16 (by decide))
      refine lv_aload_n X.1 X.2.1 dX10_fieldAtHand_22 rfl (lv_at hl 0 rfl) ?_
      refine va_ldcS (q := κ (100 + 6)) X.1 X.2.1 X.2.2.2.2.1 (show vk_R RX10 101 "basket" (κ (100 + 6)) s from (X.2.2.2.2.2.2.2.2.2.2.2.2.2.2 6 (by decide)).1) dX10_fieldAtHand_23 ?_
      refine k_i (rm := { frames := 5, cells := 0, slots := 0, locals := 240 }) (av := [.ref x, .ref (κ (100 + 6))]) X hw (va_runV (As := [.ref (κ (100 + 6))]) (rest := []) (cfix X) (k_X10_isWord l G cy κ S _ x 6 hG ha_x (by decide)) (cwV 1 X.2.2.2.1 gX10_fieldAtHand_X10_isWord rfl rfl rfl (by decide +kernel) ⟨Nat.le_of_ble_eq_true rfl, Nat.le_of_ble_eq_true rfl⟩) (pre_V X hw _ ha_x rfl (by decide) rfl) rfl rfl hl.1 rfl (lv_room (Nat.le_of_ble_eq_true rfl)) dX10_fieldAtHand_25 ⟨Nat.le_of_ble_eq_true rfl, Nat.le_of_ble_eq_true rfl⟩) 0 0 (Nat.le_of_ble_eq_true rfl) (Nat.le_of_ble_eq_true rfl) (fun rr_17 S_18 H locs hp hw hfr hnw => ?_)
      obtain ⟨e2, hp⟩ := hp
      subst e2
      rcases hp with ⟨f_19, er_20⟩ | ⟨f_19, er_20⟩ <;> subst er_20
      · have z_b_21 := trivial
        refine lv_if_eq (tgt := 33) X.1 X.2.1 dX10_fieldAtHand_28 (by decide) (fun c_22 => absurd c_22 (by decide)) (fun c_22 => ?_)
        refine lv_iconst (v := 2) X.1 X.2.1 dX10_fieldAtHand_31 (by decide) ?_
        exact ret_i X hw hr hlocks (Nat.le_of_ble_eq_true rfl) (Nat.le_of_ble_eq_true rfl) ⟨rfl, trivial⟩ dX10_fieldAtHand_32
      · have z_b_23 := trivial
        refine lv_if_eq (tgt := 33) X.1 X.2.1 dX10_fieldAtHand_28 (by decide) (fun c_24 => ?_) (fun c_24 => absurd c_24 (by decide))
        refine lv_aload_n X.1 X.2.1 dX10_fieldAtHand_33 rfl (lv_at hl 0 rfl) ?_
        refine va_ldcS (q := κ (100 + 7)) X.1 X.2.1 X.2.2.2.2.1 (show vk_R RX10 103 "lost" (κ (100 + 7)) s from (X.2.2.2.2.2.2.2.2.2.2.2.2.2.2 7 (by decide)).1) dX10_fieldAtHand_34 ?_
        refine k_i (rm := { frames := 5, cells := 0, slots := 0, locals := 240 }) (av := [.ref x, .ref (κ (100 + 7))]) X hw (va_runV (As := [.ref (κ (100 + 7))]) (rest := []) (cfix X) (k_X10_isWord l G cy κ S _ x 7 hG ha_x (by decide)) (cwV 1 X.2.2.2.1 gX10_fieldAtHand_X10_isWord rfl rfl rfl (by decide +kernel) ⟨Nat.le_of_ble_eq_true rfl, Nat.le_of_ble_eq_true rfl⟩) (pre_V X hw _ ha_x rfl (by decide) rfl) rfl rfl hl.1 rfl (lv_room (Nat.le_of_ble_eq_true rfl)) dX10_fieldAtHand_36 ⟨Nat.le_of_ble_eq_true rfl, Nat.le_of_ble_eq_true rfl⟩) 0 0 (Nat.le_of_ble_eq_true rfl) (Nat.le_of_ble_eq_true rfl) (fun rr_25 S_26 H locs hp hw hfr hnw => ?_)
        obtain ⟨e2, hp⟩ := hp
        subst e2
        rcases hp with ⟨f_27, er_28⟩ | ⟨f_27, er_28⟩ <;> subst er_28
        · have z_b_29 := trivial
          refine lv_if_eq (tgt := 44) X.1 X.2.1 dX10_fieldAtHand_39 (by decide) (fun c_30 => absurd c_30 (by decide)) (fun c_30 => ?_)
          refine lv_iconst (v := 3) X.1 X.2.1 dX10_fieldAtHand_42 (by decide) ?_
          exact ret_i X hw hr hlocks (Nat.le_of_ble_eq_true rfl) (Nat.le_of_ble_eq_true rfl) ⟨rfl, trivial⟩ dX10_fieldAtHand_43
        · have z_b_31 := trivial
          refine lv_if_eq (tgt := 44) X.1 X.2.1 dX10_fieldAtHand_39 (by decide) (fun c_32 => ?_) (fun c_32 => absurd c_32 (by decide))
          refine lv_aload_n X.1 X.2.1 dX10_fieldAtHand_44 rfl (lv_at hl 0 rfl) ?_
          refine va_ldcS (q := κ (100 + 8)) X.1 X.2.1 X.2.2.2.2.1 (show vk_R RX10 105 "made" (κ (100 + 8)) s from (X.2.2.2.2.2.2.2.2.2.2.2.2.2.2 8 (by decide)).1) dX10_fieldAtHand_45 ?_
          refine k_i (rm := { frames := 5, cells := 0, slots := 0, locals := 240 }) (av := [.ref x, .ref (κ (100 + 8))]) X hw (va_runV (As := [.ref (κ (100 + 8))]) (rest := []) (cfix X) (k_X10_isWord l G cy κ S _ x 8 hG ha_x (by decide)) (cwV 1 X.2.2.2.1 gX10_fieldAtHand_X10_isWord rfl rfl rfl (by decide +kernel) ⟨Nat.le_of_ble_eq_true rfl, Nat.le_of_ble_eq_true rfl⟩) (pre_V X hw _ ha_x rfl (by decide) rfl) rfl rfl hl.1 rfl (lv_room (Nat.le_of_ble_eq_true rfl)) dX10_fieldAtHand_47 ⟨Nat.le_of_ble_eq_true rfl, Nat.le_of_ble_eq_true rfl⟩) 0 0 (Nat.le_of_ble_eq_true rfl) (Nat.le_of_ble_eq_true rfl) (fun rr_33 S_34 H locs hp hw hfr hnw => ?_)
          obtain ⟨e2, hp⟩ := hp
          subst e2
          rcases hp with ⟨f_35, er_36⟩ | ⟨f_35, er_36⟩ <;> subst er_36
          · have z_b_37 := trivial
            refine lv_if_eq (tgt := 55) X.1 X.2.1 dX10_fieldAtHand_50 (by decide) (fun c_38 => absurd c_38 (by decide)) (fun c_38 => ?_)
            refine lv_iconst (v := 4) X.1 X.2.1 dX10_fieldAtHand_53 (by decide) ?_
            exact ret_i X hw hr hlocks (Nat.le_of_ble_eq_true rfl) (Nat.le_of_ble_eq_true rfl) ⟨rfl, trivial⟩ dX10_fieldAtHand_54
          · have z_b_39 := trivial
            refine lv_if_eq (tgt := 55) X.1 X.2.1 dX10_fieldAtHand_50 (by decide) (fun c_40 => ?_) (fun c_40 => absurd c_40 (by decide))
            refine lv_aload_n X.1 X.2.1 dX10_fieldAtHand_55 rfl (lv_at hl 0 rfl) ?_
            refine va_ldcS (q := κ (100 + 9)) X.1 X.2.1 X.2.2.2.2.1 (show vk_R RX10 107 "thin" (κ (100 + 9)) s from (X.2.2.2.2.2.2.2.2.2.2.2.2.2.2 9 (by decide)).1) dX10_fieldAtHand_56 ?_
            refine k_i (rm := { frames := 5, cells := 0, slots := 0, locals := 240 }) (av := [.ref x, .ref (κ (100 + 9))]) X hw (va_runV (As := [.ref (κ (100 + 9))]) (rest := []) (cfix X) (k_X10_isWord l G cy κ S _ x 9 hG ha_x (by decide)) (cwV 1 X.2.2.2.1 gX10_fieldAtHand_X10_isWord rfl rfl rfl (by decide +kernel) ⟨Nat.le_of_ble_eq_true rfl, Nat.le_of_ble_eq_true rfl⟩) (pre_V X hw _ ha_x rfl (by decide) rfl) rfl rfl hl.1 rfl (lv_room (Nat.le_of_ble_eq_true rfl)) dX10_fieldAtHand_58 ⟨Nat.le_of_ble_eq_true rfl, Nat.le_of_ble_eq_true rfl⟩) 0 0 (Nat.le_of_ble_eq_true rfl) (Nat.le_of_ble_eq_true rfl) (fun rr_41 S_42 H locs hp hw hfr hnw => ?_)
            obtain ⟨e2, hp⟩ := hp
            subst e2
            rcases hp with ⟨f_43, er_44⟩ | ⟨f_43, er_44⟩ <;> subst er_44
            · have z_b_45 := trivial
              refine lv_if_eq (tgt := 66) X.1 X.2.1 dX10_fieldAtHand_61 (by decide) (fun c_46 => absurd c_46 (by decide)) (fun c_46 => ?_)
              refine lv_iconst (v := 5) X.1 X.2.1 dX10_fieldAtHand_64 (by decide) ?_
              exact ret_i X hw hr hlocks (Nat.le_of_ble_eq_true rfl) (Nat.le_of_ble_eq_true rfl) ⟨rfl, trivial⟩ dX10_fieldAtHand_65
            · have z_b_47 := trivial
              refine lv_if_eq (tgt := 66) X.1 X.2.1 dX10_fieldAtHand_61 (by decide) (fun c_48 => ?_) (fun c_48 => absurd c_48 (by decide))
              refine lv_aload_n X.1 X.2.1 dX10_fieldAtHand_66 rfl (lv_at hl 0 rfl) ?_
              refine va_ldcS (q := κ (100 + 10)) X.1 X.2.1 X.2.2.2.2.1 (show vk_R RX10 109 "day" (κ (100 + 10)) s from (X.2.2.2.2.2.2.2.2.2.2.2.2.2.2 10 (by decide)).1) dX10_fieldAtHand_67 ?_
              refine k_i (rm := { frames := 5, cells := 0, slots := 0, locals := 240 }) (av := [.ref x, .ref (κ (100 + 10))]) X hw (va_runV (As := [.ref (κ (100 + 10))]) (rest := []) (cfix X) (k_X10_isWord l G cy κ S _ x 10 hG ha_x (by decide)) (cwV 1 X.2.2.2.1 gX10_fieldAtHand_X10_isWord rfl rfl rfl (by decide +kernel) ⟨Nat.le_of_ble_eq_true rfl, Nat.le_of_ble_eq_true rfl⟩) (pre_V X hw _ ha_x rfl (by decide) rfl) rfl rfl hl.1 rfl (lv_room (Nat.le_of_ble_eq_true rfl)) dX10_fieldAtHand_69 ⟨Nat.le_of_ble_eq_true rfl, Nat.le_of_ble_eq_true rfl⟩) 0 0 (Nat.le_of_ble_eq_true rfl) (Nat.le_of_ble_eq_true rfl) (fun rr_49 S_50 H locs hp hw hfr hnw => ?_)
              obtain ⟨e2, hp⟩ := hp
              subst e2
              rcases hp with ⟨f_51, er_52⟩ | ⟨f_51, er_52⟩ <;> subst er_52
              · have z_b_53 := trivial
                refine lv_if_eq (tgt := 80) X.1 X.2.1 dX10_fieldAtHand_72 (by decide) (fun c_54 => absurd c_54 (by decide)) (fun c_54 => ?_)
                refine lv_bipush (v := 6) X.1 X.2.1 dX10_fieldAtHand_75 (by decide) ?_
                refine lv_goto (tgt := 81) X.1 X.2.1 dX10_fieldAtHand_77 (by decide) ?_
                exact ret_i X hw hr hlocks (Nat.le_of_ble_eq_true rfl) (Nat.le_of_ble_eq_true rfl) ⟨rfl, trivial⟩ dX10_fieldAtHand_81
              · have z_b_55 := trivial
                refine lv_if_eq (tgt := 80) X.1 X.2.1 dX10_fieldAtHand_72 (by decide) (fun c_56 => ?_) (fun c_56 => absurd c_56 (by decide))
                refine lv_iconst (v := (-1)) X.1 X.2.1 dX10_fieldAtHand_80 (by decide) ?_
                exact ret_i X hw hr hlocks (Nat.le_of_ble_eq_true rfl) (Nat.le_of_ble_eq_true rfl) ⟨rfl, trivial⟩ dX10_fieldAtHand_81
set_option maxHeartbeats 4000000 in
set_option maxRecDepth 100000 in
theorem k_X10_actAtHand (l : Launch) (G : va_G) (cy : Nat → ClassId) (κ : Nat → Nat) (S : PS) (sz : Nat) (x : Nat) (hG : GX S) (ha_x : At S x 10) : Ci l yX10_actAtHand wsX10_actAtHand ({ frames := 6, cells := 0, slots := 0, locals := 288 }) G cy κ S sz [.ref x] (fun (r : Int32) (S9 : PS) => S = S9 ∧ (True)) := by
  refine ent_m (cc := cX10_actAtHand) (maxL := 1) (ret := (some .int)) (by decide) rfl (Nat.le_of_ble_eq_true rfl) ?_
  intro p e s m below meth c ls X hr hlocks hin hw hl hsz
  subst hsz
  have X : Cx p c cX10_actAtHand 1 s [.ref x].toArray wsX10_actAtHand RX10 m G cy κ (AS S s.heap.size) := X
  have hl : lv_has ls 1 [(0, .ref x)] := hl
  refine lv_aload_n X.1 X.2.1 dX10_actAtHand_0 rfl (lv_at hl 0 rfl) ?_
  refine va_ldcS (q := κ (100 + 11)) X.1 X.2.1 X.2.2.2.2.1 (show vk_R RX10 111 "cast" (κ (100 + 11)) s from (X.2.2.2.2.2.2.2.2.2.2.2.2.2.2 11 (by decide)).1) dX10_actAtHand_1 ?_
  refine k_i (rm := { frames := 5, cells := 0, slots := 0, locals := 240 }) (av := [.ref x, .ref (κ (100 + 11))]) X hw (va_runV (As := [.ref (κ (100 + 11))]) (rest := []) (cfix X) (k_X10_isWord l G cy κ S _ x 11 hG ha_x (by decide)) (cwV 1 X.2.2.2.1 gX10_actAtHand_X10_isWord rfl rfl rfl (by decide +kernel) ⟨Nat.le_of_ble_eq_true rfl, Nat.le_of_ble_eq_true rfl⟩) (pre_V X hw _ ha_x rfl (by decide) rfl) rfl rfl hl.1 rfl (lv_room (Nat.le_of_ble_eq_true rfl)) dX10_actAtHand_3 ⟨Nat.le_of_ble_eq_true rfl, Nat.le_of_ble_eq_true rfl⟩) 0 0 (Nat.le_of_ble_eq_true rfl) (Nat.le_of_ble_eq_true rfl) (fun rr_1 S_2 H locs hp hw hfr hnw => ?_)
  obtain ⟨e2, hp⟩ := hp
  subst e2
  rcases hp with ⟨f_3, er_4⟩ | ⟨f_3, er_4⟩ <;> subst er_4
  · have z_b_5 := trivial
    refine lv_if_eq (tgt := 11) X.1 X.2.1 dX10_actAtHand_6 (by decide) (fun c_6 => absurd c_6 (by decide)) (fun c_6 => ?_)
    refine lv_iconst (v := 0) X.1 X.2.1 dX10_actAtHand_9 (by decide) ?_
    exact ret_i X hw hr hlocks (Nat.le_of_ble_eq_true rfl) (Nat.le_of_ble_eq_true rfl) ⟨rfl, trivial⟩ dX10_actAtHand_10
  · have z_b_7 := trivial
    refine lv_if_eq (tgt := 11) X.1 X.2.1 dX10_actAtHand_6 (by decide) (fun c_8 => ?_) (fun c_8 => absurd c_8 (by decide))
    refine lv_aload_n X.1 X.2.1 dX10_actAtHand_11 rfl (lv_at hl 0 rfl) ?_
    refine va_ldcS (q := κ (100 + 12)) X.1 X.2.1 X.2.2.2.2.1 (show vk_R RX10 113 "drop" (κ (100 + 12)) s from (X.2.2.2.2.2.2.2.2.2.2.2.2.2.2 12 (by decide)).1) dX10_actAtHand_12 ?_
    refine k_i (rm := { frames := 5, cells := 0, slots := 0, locals := 240 }) (av := [.ref x, .ref (κ (100 + 12))]) X hw (va_runV (As := [.ref (κ (100 + 12))]) (rest := []) (cfix X) (k_X10_isWord l G cy κ S _ x 12 hG ha_x (by decide)) (cwV 1 X.2.2.2.1 gX10_actAtHand_X10_isWord rfl rfl rfl (by decide +kernel) ⟨Nat.le_of_ble_eq_true rfl, Nat.le_of_ble_eq_true rfl⟩) (pre_V X hw _ ha_x rfl (by decide) rfl) rfl rfl hl.1 rfl (lv_room (Nat.le_of_ble_eq_true rfl)) dX10_actAtHand_14 ⟨Nat.le_of_ble_eq_true rfl, Nat.le_of_ble_eq_true rfl⟩) 0 0 (Nat.le_of_ble_eq_true rfl) (Nat.le_of_ble_eq_true rfl) (fun rr_9 S_10 H locs hp hw hfr hnw => ?_)
    obtain ⟨e2, hp⟩ := hp
    subst e2
    rcases hp with ⟨f_11, er_12⟩ | ⟨f_11, er_12⟩ <;> subst er_12
    · have z_b_13 := trivial
      refine lv_if_eq (tgt := 22) X.1 X.2.1 dX10_actAtHand_17 (by decide) (fun c_14 => absurd c_14 (by decide)) (fun c_14 => ?_)
      refine lv_iconst (v := 1) X.1 X.2.1 dX10_actAtHand_20 (by decide) ?_
      exact ret_i X hw hr hlocks (Nat.le_of_ble_eq_true rfl) (Nat.le_of_ble_eq_true rfl) ⟨rfl, trivial⟩ dX10_actAtHand_21
    · have z_b_15 := trivial
      refine lv_if_eq (tgt := 22) X.1 X.2.1 dX10_actAtHand_17 (by decide) (fun c_16 => ?_) (fun c_16 => absurd c_16 (by decide))
      refine lv_aload_n X.1 X.2.1 dX10_actAtHand_22 rfl (lv_at hl 0 rfl) ?_
      refine va_ldcS (q := κ (100 + 13)) X.1 X.2.1 X.2.2.2.2.1 (show vk_R RX10 115 "find" (κ (100 + 13)) s from (X.2.2.2.2.2.2.2.2.2.2.2.2.2.2 13 (by decide)).1) dX10_actAtHand_23 ?_
      refine k_i (rm := { frames := 5, cells := 0, slots := 0, locals := 240 }) (av := [.ref x, .ref (κ (100 + 13))]) X hw (va_runV (As := [.ref (κ (100 + 13))]) (rest := []) (cfix X) (k_X10_isWord l G cy κ S _ x 13 hG ha_x (by decide)) (cwV 1 X.2.2.2.1 gX10_actAtHand_X10_isWord rfl rfl rfl (by decide +kernel) ⟨Nat.le_of_ble_eq_true rfl, Nat.le_of_ble_eq_true rfl⟩) (pre_V X hw _ ha_x rfl (by decide) rfl) rfl rfl hl.1 rfl (lv_room (Nat.le_of_ble_eq_true rfl)) dX10_actAtHand_25 ⟨Nat.le_of_ble_eq_true rfl, Nat.le_of_ble_eq_true rfl⟩) 0 0 (Nat.le_of_ble_eq_true rfl) (Nat.le_of_ble_eq_true rfl) (fun rr_17 S_18 H locs hp hw hfr hnw => ?_)
      obtain ⟨e2, hp⟩ := hp
      subst e2
      rcases hp with ⟨f_19, er_20⟩ | ⟨f_19, er_20⟩ <;> subst er_20
      · have z_b_21 := trivial
        refine lv_if_eq (tgt := 33) X.1 X.2.1 dX10_actAtHand_28 (by decide) (fun c_22 => absurd c_22 (by decide)) (fun c_22 => ?_)
        refine lv_iconst (v := 2) X.1 X.2.1 dX10_actAtHand_31 (by decide) ?_
        exact ret_i X hw hr hlocks (Nat.le_of_ble_eq_true rfl) (Nat.le_of_ble_eq_true rfl) ⟨rfl, trivial⟩ dX10_actAtHand_32
      · have z_b_23 := trivial
        refine lv_if_eq (tgt := 33) X.1 X.2.1 dX10_actAtHand_28 (by decide) (fun c_24 => ?_) (fun c_24 => absurd c_24 (by decide))
        refine lv_aload_n X.1 X.2.1 dX10_actAtHand_33 rfl (lv_at hl 0 rfl) ?_
        refine va_ldcS (q := κ (100 + 14)) X.1 X.2.1 X.2.2.2.2.1 (show vk_R RX10 117 "throw" (κ (100 + 14)) s from (X.2.2.2.2.2.2.2.2.2.2.2.2.2.2 14 (by decide)).1) dX10_actAtHand_34 ?_
        refine k_i (rm := { frames := 5, cells := 0, slots := 0, locals := 240 }) (av := [.ref x, .ref (κ (100 + 14))]) X hw (va_runV (As := [.ref (κ (100 + 14))]) (rest := []) (cfix X) (k_X10_isWord l G cy κ S _ x 14 hG ha_x (by decide)) (cwV 1 X.2.2.2.1 gX10_actAtHand_X10_isWord rfl rfl rfl (by decide +kernel) ⟨Nat.le_of_ble_eq_true rfl, Nat.le_of_ble_eq_true rfl⟩) (pre_V X hw _ ha_x rfl (by decide) rfl) rfl rfl hl.1 rfl (lv_room (Nat.le_of_ble_eq_true rfl)) dX10_actAtHand_36 ⟨Nat.le_of_ble_eq_true rfl, Nat.le_of_ble_eq_true rfl⟩) 0 0 (Nat.le_of_ble_eq_true rfl) (Nat.le_of_ble_eq_true rfl) (fun rr_25 S_26 H locs hp hw hfr hnw => ?_)
        obtain ⟨e2, hp⟩ := hp
        subst e2
        rcases hp with ⟨f_27, er_28⟩ | ⟨f_27, er_28⟩ <;> subst er_28
        · have z_b_29 := trivial
          refine lv_if_eq (tgt := 44) X.1 X.2.1 dX10_actAtHand_39 (by decide) (fun c_30 => absurd c_30 (by decide)) (fun c_30 => ?_)
          refine lv_iconst (v := 3) X.1 X.2.1 dX10_actAtHand_42 (by decide) ?_
          exact ret_i X hw hr hlocks (Nat.le_of_ble_eq_true rfl) (Nat.le_of_ble_eq_true rfl) ⟨rfl, trivial⟩ dX10_actAtHand_43
        · have z_b_31 := trivial
          refine lv_if_eq (tgt := 44) X.1 X.2.1 dX10_actAtHand_39 (by decide) (fun c_32 => ?_) (fun c_32 => absurd c_32 (by decide))
          refine lv_aload_n X.1 X.2.1 dX10_actAtHand_44 rfl (lv_at hl 0 rfl) ?_
          refine va_ldcS (q := κ (100 + 15)) X.1 X.2.1 X.2.2.2.2.1 (show vk_R RX10 119 "cut" (κ (100 + 15)) s from (X.2.2.2.2.2.2.2.2.2.2.2.2.2.2 15 (by decide)).1) dX10_actAtHand_45 ?_
          refine k_i (rm := { frames := 5, cells := 0, slots := 0, locals := 240 }) (av := [.ref x, .ref (κ (100 + 15))]) X hw (va_runV (As := [.ref (κ (100 + 15))]) (rest := []) (cfix X) (k_X10_isWord l G cy κ S _ x 15 hG ha_x (by decide)) (cwV 1 X.2.2.2.1 gX10_actAtHand_X10_isWord rfl rfl rfl (by decide +kernel) ⟨Nat.le_of_ble_eq_true rfl, Nat.le_of_ble_eq_true rfl⟩) (pre_V X hw _ ha_x rfl (by decide) rfl) rfl rfl hl.1 rfl (lv_room (Nat.le_of_ble_eq_true rfl)) dX10_actAtHand_47 ⟨Nat.le_of_ble_eq_true rfl, Nat.le_of_ble_eq_true rfl⟩) 0 0 (Nat.le_of_ble_eq_true rfl) (Nat.le_of_ble_eq_true rfl) (fun rr_33 S_34 H locs hp hw hfr hnw => ?_)
          obtain ⟨e2, hp⟩ := hp
          subst e2
          rcases hp with ⟨f_35, er_36⟩ | ⟨f_35, er_36⟩ <;> subst er_36
          · have z_b_37 := trivial
            refine lv_if_eq (tgt := 55) X.1 X.2.1 dX10_actAtHand_50 (by decide) (fun c_38 => absurd c_38 (by decide)) (fun c_38 => ?_)
            refine lv_iconst (v := 4) X.1 X.2.1 dX10_actAtHand_53 (by decide) ?_
            exact ret_i X hw hr hlocks (Nat.le_of_ble_eq_true rfl) (Nat.le_of_ble_eq_true rfl) ⟨rfl, trivial⟩ dX10_actAtHand_54
          · have z_b_39 := trivial
            refine lv_if_eq (tgt := 55) X.1 X.2.1 dX10_actAtHand_50 (by decide) (fun c_40 => ?_) (fun c_40 => absurd c_40 (by decide))
            refine lv_aload_n X.1 X.2.1 dX10_actAtHand_55 rfl (lv_at hl 0 rfl) ?_
            refine va_ldcS (q := κ (100 + 16)) X.1 X.2.1 X.2.2.2.2.1 (show vk_R RX10 121 "stop" (κ (100 + 16)) s from (X.2.2.2.2.2.2.2.2.2.2.2.2.2.2 16 (by decide)).1) dX10_actAtHand_56 ?_
            refine k_i (rm := { frames := 5, cells := 0, slots := 0, locals := 240 }) (av := [.ref x, .ref (κ (100 + 16))]) X hw (va_runV (As := [.ref (κ (100 + 16))]) (rest := []) (cfix X) (k_X10_isWord l G cy κ S _ x 16 hG ha_x (by decide)) (cwV 1 X.2.2.2.1 gX10_actAtHand_X10_isWord rfl rfl rfl (by decide +kernel) ⟨Nat.le_of_ble_eq_true rfl, Nat.le_of_ble_eq_true rfl⟩) (pre_V X hw _ ha_x rfl (by decide) rfl) rfl rfl hl.1 rfl (lv_room (Nat.le_of_ble_eq_true rfl)) dX10_actAtHand_58 ⟨Nat.le_of_ble_eq_true rfl, Nat.le_of_ble_eq_true rfl⟩) 0 0 (Nat.le_of_ble_eq_true rfl) (Nat.le_of_ble_eq_true rfl) (fun rr_41 S_42 H locs hp hw hfr hnw => ?_)
            obtain ⟨e2, hp⟩ := hp
            subst e2
            rcases hp with ⟨f_43, er_44⟩ | ⟨f_43, er_44⟩ <;> subst er_44
            · have z_b_45 := trivial
              refine lv_if_eq (tgt := 68) X.1 X.2.1 dX10_actAtHand_61 (by decide) (fun c_46 => absurd c_46 (by decide)) (fun c_46 => ?_)
              refine lv_iconst (v := 5) X.1 X.2.1 dX10_actAtHand_64 (by decide) ?_
              refine lv_goto (tgt := 69) X.1 X.2.1 dX10_actAtHand_65 (by decide) ?_
              exact ret_i X hw hr hlocks (Nat.le_of_ble_eq_true rfl) (Nat.le_of_ble_eq_true rfl) ⟨rfl, trivial⟩ dX10_actAtHand_69
            · have z_b_47 := trivial
              refine lv_if_eq (tgt := 68) X.1 X.2.1 dX10_actAtHand_61 (by decide) (fun c_48 => ?_) (fun c_48 => absurd c_48 (by decide))
              refine lv_iconst (v := (-1)) X.1 X.2.1 dX10_actAtHand_68 (by decide) ?_
              exact ret_i X hw hr hlocks (Nat.le_of_ble_eq_true rfl) (Nat.le_of_ble_eq_true rfl) ⟨rfl, trivial⟩ dX10_actAtHand_69
set_option maxHeartbeats 4000000 in
set_option maxRecDepth 100000 in
theorem k_X10_readAct (l : Launch) (G : va_G) (cy : Nat → ClassId) (κ : Nat → Nat) (S : PS) (sz : Nat) (x : Nat) (r1 : Nat) (hG : GX S) (ha_x : At S x 10) (ha_r1 : At S r1 6) : Ci l yX10_readAct wsX10_readAct ({ frames := 7, cells := 0, slots := 0, locals := 336 }) G cy κ S sz [.ref x, .ref r1] (fun (r : Int32) (S9 : PS) => Ok eTX S S9 ∧ (((True) ∧ r = 1) ∨ ((True) ∧ r = 0))) := by
  refine ent_m (cc := cX10_readAct) (maxL := 4) (ret := (some .boolean)) (by decide) rfl (Nat.le_of_ble_eq_true rfl) ?_
  intro p e s m below meth c ls X hr hlocks hin hw hl hsz
  subst hsz
  have X : Cx p c cX10_readAct 4 s [.ref x, .ref r1].toArray wsX10_readAct RX10 m G cy κ (AS S s.heap.size) := X
  have hl : lv_has ls 4 [(0, .ref x), (1, .ref r1)] := hl
  have hO : Ok eTX S S := Ok.rf hG
  refine lv_aload_n X.1 X.2.1 dX10_readAct_0 rfl (lv_at hl 0 rfl) ?_
  refine k_i (rm := { frames := 6, cells := 0, slots := 0, locals := 288 }) (av := [.ref x]) X hw (va_runV (As := []) (rest := []) (cfix X) (k_X10_actAtHand l G cy κ S _ x hO.1 ha_x) (cwV 0 X.2.2.2.1 gX10_readAct_X10_actAtHand rfl rfl rfl (by decide +kernel) ⟨Nat.le_of_ble_eq_true rfl, Nat.le_of_ble_eq_true rfl⟩) (pre_V X hw _ ha_x rfl (by decide) rfl) rfl rfl hl.1 rfl (lv_room (Nat.le_of_ble_eq_true rfl)) dX10_readAct_1 ⟨Nat.le_of_ble_eq_true rfl, Nat.le_of_ble_eq_true rfl⟩) 0 0 (Nat.le_of_ble_eq_true rfl) (Nat.le_of_ble_eq_true rfl) (fun rr_1 S_2 H locs hp hw hfr hnw => ?_)
  obtain ⟨e2, hp⟩ := hp
  subst e2
  have rg_3 := And.intro (z_lo rr_1) (z_hi rr_1)
  refine lv_istore_n (lv' := [(2, .int (rr_1)), (0, .ref x), (1, .ref r1)]) X.1 X.2.1 dX10_readAct_4 rfl hl (by decide) rfl (fun ls hl => ?_)
  refine lv_iload_n X.1 X.2.1 dX10_readAct_5 rfl (lv_at hl 0 rfl) ?_
  refine lv_iconst (v := (-1)) X.1 X.2.1 dX10_readAct_6 (by decide) ?_
  refine lv_icmp_ne (tgt := 16) X.1 X.2.1 dX10_readAct_7 (by decide) (fun c_4 => ?_) (fun c_4 => ?_)
  · have z_b_5 := trivial
    have k_6 : rr_1.toInt ≠ (-1) := z_ne rfl ti_m1 c_4
    refine lv_aload_n X.1 X.2.1 dX10_readAct_16 rfl (lv_at hl 1 rfl) ?_
    refine k_v (rm := { frames := 2, cells := 0, slots := 0, locals := 96 }) (av := [.ref x]) X hw (va_runV (As := []) (rest := []) (cfix X) (k_X10_advance l G cy κ S _ x hO.1 ha_x) (cwV 0 X.2.2.2.1 gX10_readAct_X10_advance rfl rfl rfl (by decide +kernel) ⟨Nat.le_of_ble_eq_true rfl, Nat.le_of_ble_eq_true rfl⟩) (pre_V X hw _ ha_x rfl (by decide) rfl) rfl rfl hl.1 rfl (lv_room (Nat.le_of_ble_eq_true rfl)) dX10_readAct_17 ⟨Nat.le_of_ble_eq_true rfl, Nat.le_of_ble_eq_true rfl⟩) 0 0 (Nat.le_of_ble_eq_true rfl) (Nat.le_of_ble_eq_true rfl) (fun S_8 H locs hp hw hfr hnw => ?_)
    obtain ⟨hk_9, hp⟩ := hp
    have hO_10 : Ok eTX S S_8 := hO.call hk_9 (by decide +kernel)
    refine lv_iconst (v := 0) X.1 X.2.1 dX10_readAct_20 (by decide) ?_
    refine lv_istore_n (lv' := [(3, .int 0), (2, .int (rr_1)), (0, .ref x), (1, .ref r1)]) X.1 X.2.1 dX10_readAct_21 rfl hl (by decide) rfl (fun ls hl => ?_)
    refine lv_iload_n X.1 X.2.1 dX10_readAct_22 rfl (lv_at hl 1 rfl) ?_
    refine lv_iconst (v := 5) X.1 X.2.1 dX10_readAct_23 (by decide) ?_
    refine lv_icmp_ne (tgt := 50) X.1 X.2.1 dX10_readAct_24 (by decide) (fun c_11 => ?_) (fun c_11 => ?_)
    · have z_b_12 := trivial
      have k_13 : rr_1.toInt ≠ 5 := z_ne rfl ti_5 c_11
      refine lv_aload_n X.1 X.2.1 dX10_readAct_50 rfl (lv_at hl 2 rfl) ?_
      refine lv_bipush (v := 59) X.1 X.2.1 dX10_readAct_51 (by decide) ?_
      have t_14 : At S_8 x 10 := hk_9.fr.at ha_x
      refine k_i (rm := { frames := 2, cells := 0, slots := 0, locals := 96 }) (av := [.ref x, .int 59]) X hw (va_runV (As := [.int 59]) (rest := []) (cfix X) (k_X10_isSign l G cy κ S_8 _ x (59) (59) hO_10.1 t_14 ti_59) (cwV 1 X.2.2.2.1 gX10_readAct_X10_isSign rfl rfl rfl (by decide +kernel) ⟨Nat.le_of_ble_eq_true rfl, Nat.le_of_ble_eq_true rfl⟩) (pre_V X hw _ t_14 rfl (by decide) rfl) rfl rfl hl.1 rfl (lv_room (Nat.le_of_ble_eq_true rfl)) dX10_readAct_53 ⟨Nat.le_of_ble_eq_true rfl, Nat.le_of_ble_eq_true rfl⟩) 0 0 (Nat.le_of_ble_eq_true rfl) (Nat.le_of_ble_eq_true rfl) (fun rr_15 S_16 H locs hp hw hfr hnw => ?_)
      obtain ⟨e2, hp⟩ := hp
      subst e2
      rcases hp with ⟨f_17, er_18⟩ | ⟨f_17, er_18⟩ <;> subst er_18
      · have z_b_19 := trivial
        refine lv_if_ne (tgt := 65) X.1 X.2.1 dX10_readAct_56 (by decide) (fun c_20 => ?_) (fun c_20 => absurd c_20 (by decide))
        refine lv_aload_n X.1 X.2.1 dX10_readAct_65 rfl (lv_at hl 2 rfl) ?_
        refine k_v (rm := { frames := 2, cells := 0, slots := 0, locals := 96 }) (av := [.ref x]) X hw (va_runV (As := []) (rest := []) (cfix X) (k_X10_advance l G cy κ S_8 _ x hO_10.1 t_14) (cwV 0 X.2.2.2.1 gX10_readAct_X10_advance rfl rfl rfl (by decide +kernel) ⟨Nat.le_of_ble_eq_true rfl, Nat.le_of_ble_eq_true rfl⟩) (pre_V X hw _ t_14 rfl (by decide) rfl) rfl rfl hl.1 rfl (lv_room (Nat.le_of_ble_eq_true rfl)) dX10_readAct_66 ⟨Nat.le_of_ble_eq_true rfl, Nat.le_of_ble_eq_true rfl⟩) 0 0 (Nat.le_of_ble_eq_true rfl) (Nat.le_of_ble_eq_true rfl) (fun S_22 H locs hp hw hfr hnw => ?_)
        obtain ⟨hk_23, hp⟩ := hp
        have hO_24 : Ok eTX S S_22 := hO_10.call hk_23 (by decide +kernel)
        refine lv_aload_n X.1 X.2.1 dX10_readAct_69 rfl (lv_at hl 3 rfl) ?_
        refine lv_iload_n X.1 X.2.1 dX10_readAct_70 rfl (lv_at hl 1 rfl) ?_
        refine lv_iload_n X.1 X.2.1 dX10_readAct_71 rfl (lv_at hl 0 rfl) ?_
        have t_25 : At S_8 r1 6 := hk_9.fr.at ha_r1
        have t_26 : At S_22 r1 6 := hk_23.fr.at t_25
        refine k_v (rm := { frames := 1, cells := 0, slots := 0, locals := 48 }) (av := [.ref r1, .int (rr_1), .int 0]) X hw (va_runV (As := [.int (rr_1), .int 0]) (rest := []) (cfix X) (k_X6_closeRule l G cy κ S_22 _ r1 (rr_1) (rr_1.toInt) (0) (0) hO_24.1 t_26 rfl ti_0) (cwV 2 X.2.2.2.1 gX10_readAct_X6_closeRule rfl rfl rfl (by decide +kernel) ⟨Nat.le_of_ble_eq_true rfl, Nat.le_of_ble_eq_true rfl⟩) (pre_V X hw _ t_26 rfl (by decide) rfl) rfl rfl hl.1 rfl (lv_room (Nat.le_of_ble_eq_true rfl)) dX10_readAct_72 ⟨Nat.le_of_ble_eq_true rfl, Nat.le_of_ble_eq_true rfl⟩) 0 0 (Nat.le_of_ble_eq_true rfl) (Nat.le_of_ble_eq_true rfl) (fun S_28 H locs hp hw hfr hnw => ?_)
        obtain ⟨hk_29, hp⟩ := hp
        have hO_30 : Ok eTX S S_28 := hO_24.call hk_29 (by decide +kernel)
        refine lv_iconst (v := 1) X.1 X.2.1 dX10_readAct_75 (by decide) ?_
        exact ret_z X hw hr hlocks (Nat.le_of_ble_eq_true rfl) (Nat.le_of_ble_eq_true rfl) (by decide) ⟨hO_30, Or.inl ⟨trivial, rfl⟩⟩ dX10_readAct_76
      · have z_b_31 := trivial
        refine lv_if_ne (tgt := 65) X.1 X.2.1 dX10_readAct_56 (by decide) (fun c_32 => absurd c_32 (by decide)) (fun c_32 => ?_)
        refine lv_aload_n X.1 X.2.1 dX10_readAct_59 rfl (lv_at hl 2 rfl) ?_
        refine lv_iconst (v := 1) X.1 X.2.1 dX10_readAct_60 (by decide) ?_
        refine k_i (rm := { frames := 1, cells := 0, slots := 0, locals := 48 }) (av := [.ref x, .int 1]) X hw (va_runV (As := [.int 1]) (rest := []) (cfix X) (k_X10_fail l G cy κ S_8 _ x (1) (1) hO_10.1 t_14 ti_1) (cwV 1 X.2.2.2.1 gX10_readAct_X10_fail rfl rfl rfl (by decide +kernel) ⟨Nat.le_of_ble_eq_true rfl, Nat.le_of_ble_eq_true rfl⟩) (pre_V X hw _ t_14 rfl (by decide) rfl) rfl rfl hl.1 rfl (lv_room (Nat.le_of_ble_eq_true rfl)) dX10_readAct_61 ⟨Nat.le_of_ble_eq_true rfl, Nat.le_of_ble_eq_true rfl⟩) 0 0 (Nat.le_of_ble_eq_true rfl) (Nat.le_of_ble_eq_true rfl) (fun rr_33 S_34 H locs hp hw hfr hnw => ?_)
        obtain ⟨hk_35, hp⟩ := hp
        have hO_36 : Ok eTX S S_34 := hO_10.call hk_35 (by decide +kernel)
        rcases hp with ⟨f_37, er_38⟩ | ⟨f_37, er_38⟩ <;> subst er_38
        · have z_b_39 := trivial
          exact ret_z X hw hr hlocks (Nat.le_of_ble_eq_true rfl) (Nat.le_of_ble_eq_true rfl) (by decide) ⟨hO_36, Or.inl ⟨trivial, rfl⟩⟩ dX10_readAct_64
        · have z_b_40 := trivial
          exact ret_z X hw hr hlocks (Nat.le_of_ble_eq_true rfl) (Nat.le_of_ble_eq_true rfl) (by decide) ⟨hO_36, Or.inr ⟨trivial, rfl⟩⟩ dX10_readAct_64
    · have z_b_41 := trivial
      have k_42 : rr_1.toInt = 5 := z_eq rfl ti_5 c_11
      refine lv_aload_n X.1 X.2.1 dX10_readAct_27 rfl (lv_at hl 2 rfl) ?_
      have t_43 : At S_8 x 10 := hk_9.fr.at ha_x
      obtain ⟨v_44, ev_44⟩ : ∃ v, pI S_8 1004 x = v := ⟨_, rfl⟩
      have rg_46 := And.intro (z_lo v_44) (z_hi v_44)
      refine r_getI (g := 1004) (x := v_44) X hw t_43 rfl 4 ev_44 (by decide) rfl inn_X10_readAct_10 (by decide) (X.2.2.2.1 (.fieldLink RX10 37 "SilkMill$Tape" "token" "I") (by decide +kernel)) rfl (gv_1004 _ _) dX10_readAct_28 ?_
      refine lv_iconst (v := 2) X.1 X.2.1 dX10_readAct_31 (by decide) ?_
      refine lv_icmp_eq (tgt := 41) X.1 X.2.1 dX10_readAct_32 (by decide) (fun c_47 => ?_) (fun c_47 => ?_)
      · have z_b_48 := trivial
        have k_49 : v_44.toInt = 2 := z_eq rfl ti_2 c_47
        refine lv_aload_n X.1 X.2.1 dX10_readAct_41 rfl (lv_at hl 2 rfl) ?_
        refine k_i (rm := { frames := 2, cells := 0, slots := 0, locals := 96 }) (av := [.ref x]) X hw (va_runV (As := []) (rest := []) (cfix X) (k_X10_numberAtHand l G cy κ S_8 _ x hO_10.1 t_43) (cwV 0 X.2.2.2.1 gX10_readAct_X10_numberAtHand rfl rfl rfl (by decide +kernel) ⟨Nat.le_of_ble_eq_true rfl, Nat.le_of_ble_eq_true rfl⟩) (pre_V X hw _ t_43 rfl (by decide) rfl) rfl rfl hl.1 rfl (lv_room (Nat.le_of_ble_eq_true rfl)) dX10_readAct_42 ⟨Nat.le_of_ble_eq_true rfl, Nat.le_of_ble_eq_true rfl⟩) 0 0 (Nat.le_of_ble_eq_true rfl) (Nat.le_of_ble_eq_true rfl) (fun rr_50 S_51 H locs hp hw hfr hnw => ?_)
        obtain ⟨e2, hp⟩ := hp
        subst e2
        have rg_52 := And.intro (z_lo rr_50) (z_hi rr_50)
        refine lv_istore_n (lv' := [(3, .int (rr_50)), (2, .int (rr_1)), (0, .ref x), (1, .ref r1)]) X.1 X.2.1 dX10_readAct_45 rfl hl (by decide) rfl (fun ls hl => ?_)
        refine lv_aload_n X.1 X.2.1 dX10_readAct_46 rfl (lv_at hl 2 rfl) ?_
        refine k_v (rm := { frames := 2, cells := 0, slots := 0, locals := 96 }) (av := [.ref x]) X hw (va_runV (As := []) (rest := []) (cfix X) (k_X10_advance l G cy κ S_8 _ x hO_10.1 t_43) (cwV 0 X.2.2.2.1 gX10_readAct_X10_advance rfl rfl rfl (by decide +kernel) ⟨Nat.le_of_ble_eq_true rfl, Nat.le_of_ble_eq_true rfl⟩) (pre_V X hw _ t_43 rfl (by decide) rfl) rfl rfl hl.1 rfl (lv_room (Nat.le_of_ble_eq_true rfl)) dX10_readAct_47 ⟨Nat.le_of_ble_eq_true rfl, Nat.le_of_ble_eq_true rfl⟩) 0 0 (Nat.le_of_ble_eq_true rfl) (Nat.le_of_ble_eq_true rfl) (fun S_54 H locs hp hw hfr hnw => ?_)
        obtain ⟨hk_55, hp⟩ := hp
        have hO_56 : Ok eTX S S_54 := hO_10.call hk_55 (by decide +kernel)
        refine lv_aload_n X.1 X.2.1 dX10_readAct_50 rfl (lv_at hl 2 rfl) ?_
        refine lv_bipush (v := 59) X.1 X.2.1 dX10_readAct_51 (by decide) ?_
        have t_57 : At S_54 x 10 := hk_55.fr.at t_43
        refine k_i (rm := { frames := 2, cells := 0, slots := 0, locals := 96 }) (av := [.ref x, .int 59]) X hw (va_runV (As := [.int 59]) (rest := []) (cfix X) (k_X10_isSign l G cy κ S_54 _ x (59) (59) hO_56.1 t_57 ti_59) (cwV 1 X.2.2.2.1 gX10_readAct_X10_isSign rfl rfl rfl (by decide +kernel) ⟨Nat.le_of_ble_eq_true rfl, Nat.le_of_ble_eq_true rfl⟩) (pre_V X hw _ t_57 rfl (by decide) rfl) rfl rfl hl.1 rfl (lv_room (Nat.le_of_ble_eq_true rfl)) dX10_readAct_53 ⟨Nat.le_of_ble_eq_true rfl, Nat.le_of_ble_eq_true rfl⟩) 0 0 (Nat.le_of_ble_eq_true rfl) (Nat.le_of_ble_eq_true rfl) (fun rr_58 S_59 H locs hp hw hfr hnw => ?_)
        obtain ⟨e2, hp⟩ := hp
        subst e2
        rcases hp with ⟨f_60, er_61⟩ | ⟨f_60, er_61⟩ <;> subst er_61
        · have z_b_62 := trivial
          refine lv_if_ne (tgt := 65) X.1 X.2.1 dX10_readAct_56 (by decide) (fun c_63 => ?_) (fun c_63 => absurd c_63 (by decide))
          refine lv_aload_n X.1 X.2.1 dX10_readAct_65 rfl (lv_at hl 2 rfl) ?_
          refine k_v (rm := { frames := 2, cells := 0, slots := 0, locals := 96 }) (av := [.ref x]) X hw (va_runV (As := []) (rest := []) (cfix X) (k_X10_advance l G cy κ S_54 _ x hO_56.1 t_57) (cwV 0 X.2.2.2.1 gX10_readAct_X10_advance rfl rfl rfl (by decide +kernel) ⟨Nat.le_of_ble_eq_true rfl, Nat.le_of_ble_eq_true rfl⟩) (pre_V X hw _ t_57 rfl (by decide) rfl) rfl rfl hl.1 rfl (lv_room (Nat.le_of_ble_eq_true rfl)) dX10_readAct_66 ⟨Nat.le_of_ble_eq_true rfl, Nat.le_of_ble_eq_true rfl⟩) 0 0 (Nat.le_of_ble_eq_true rfl) (Nat.le_of_ble_eq_true rfl) (fun S_65 H locs hp hw hfr hnw => ?_)
          obtain ⟨hk_66, hp⟩ := hp
          have hO_67 : Ok eTX S S_65 := hO_56.call hk_66 (by decide +kernel)
          refine lv_aload_n X.1 X.2.1 dX10_readAct_69 rfl (lv_at hl 3 rfl) ?_
          refine lv_iload_n X.1 X.2.1 dX10_readAct_70 rfl (lv_at hl 1 rfl) ?_
          refine lv_iload_n X.1 X.2.1 dX10_readAct_71 rfl (lv_at hl 0 rfl) ?_
          have t_68 : At S_8 r1 6 := hk_9.fr.at ha_r1
          have t_69 : At S_54 r1 6 := hk_55.fr.at t_68
          have t_70 : At S_65 r1 6 := hk_66.fr.at t_69
          refine k_v (rm := { frames := 1, cells := 0, slots := 0, locals := 48 }) (av := [.ref r1, .int (rr_1), .int (rr_50)]) X hw (va_runV (As := [.int (rr_1), .int (rr_50)]) (rest := []) (cfix X) (k_X6_closeRule l G cy κ S_65 _ r1 (rr_1) (rr_1.toInt) (rr_50) (rr_50.toInt) hO_67.1 t_70 rfl rfl) (cwV 2 X.2.2.2.1 gX10_readAct_X6_closeRule rfl rfl rfl (by decide +kernel) ⟨Nat.le_of_ble_eq_true rfl, Nat.le_of_ble_eq_true rfl⟩) (pre_V X hw _ t_70 rfl (by decide) rfl) rfl rfl hl.1 rfl (lv_room (Nat.le_of_ble_eq_true rfl)) dX10_readAct_72 ⟨Nat.le_of_ble_eq_true rfl, Nat.le_of_ble_eq_true rfl⟩) 0 0 (Nat.le_of_ble_eq_true rfl) (Nat.le_of_ble_eq_true rfl) (fun S_72 H locs hp hw hfr hnw => ?_)
          obtain ⟨hk_73, hp⟩ := hp
          have hO_74 : Ok eTX S S_72 := hO_67.call hk_73 (by decide +kernel)
          refine lv_iconst (v := 1) X.1 X.2.1 dX10_readAct_75 (by decide) ?_
          exact ret_z X hw hr hlocks (Nat.le_of_ble_eq_true rfl) (Nat.le_of_ble_eq_true rfl) (by decide) ⟨hO_74, Or.inl ⟨trivial, rfl⟩⟩ dX10_readAct_76
        · have z_b_75 := trivial
          refine lv_if_ne (tgt := 65) X.1 X.2.1 dX10_readAct_56 (by decide) (fun c_76 => absurd c_76 (by decide)) (fun c_76 => ?_)
          refine lv_aload_n X.1 X.2.1 dX10_readAct_59 rfl (lv_at hl 2 rfl) ?_
          refine lv_iconst (v := 1) X.1 X.2.1 dX10_readAct_60 (by decide) ?_
          refine k_i (rm := { frames := 1, cells := 0, slots := 0, locals := 48 }) (av := [.ref x, .int 1]) X hw (va_runV (As := [.int 1]) (rest := []) (cfix X) (k_X10_fail l G cy κ S_54 _ x (1) (1) hO_56.1 t_57 ti_1) (cwV 1 X.2.2.2.1 gX10_readAct_X10_fail rfl rfl rfl (by decide +kernel) ⟨Nat.le_of_ble_eq_true rfl, Nat.le_of_ble_eq_true rfl⟩) (pre_V X hw _ t_57 rfl (by decide) rfl) rfl rfl hl.1 rfl (lv_room (Nat.le_of_ble_eq_true rfl)) dX10_readAct_61 ⟨Nat.le_of_ble_eq_true rfl, Nat.le_of_ble_eq_true rfl⟩) 0 0 (Nat.le_of_ble_eq_true rfl) (Nat.le_of_ble_eq_true rfl) (fun rr_77 S_78 H locs hp hw hfr hnw => ?_)
          obtain ⟨hk_79, hp⟩ := hp
          have hO_80 : Ok eTX S S_78 := hO_56.call hk_79 (by decide +kernel)
          rcases hp with ⟨f_81, er_82⟩ | ⟨f_81, er_82⟩ <;> subst er_82
          · have z_b_83 := trivial
            exact ret_z X hw hr hlocks (Nat.le_of_ble_eq_true rfl) (Nat.le_of_ble_eq_true rfl) (by decide) ⟨hO_80, Or.inl ⟨trivial, rfl⟩⟩ dX10_readAct_64
          · have z_b_84 := trivial
            exact ret_z X hw hr hlocks (Nat.le_of_ble_eq_true rfl) (Nat.le_of_ble_eq_true rfl) (by decide) ⟨hO_80, Or.inr ⟨trivial, rfl⟩⟩ dX10_readAct_64
      · have z_b_85 := trivial
        have k_86 : v_44.toInt ≠ 2 := z_ne rfl ti_2 c_47
        refine lv_aload_n X.1 X.2.1 dX10_readAct_35 rfl (lv_at hl 2 rfl) ?_
        refine lv_iconst (v := 1) X.1 X.2.1 dX10_readAct_36 (by decide) ?_
        refine k_i (rm := { frames := 1, cells := 0, slots := 0, locals := 48 }) (av := [.ref x, .int 1]) X hw (va_runV (As := [.int 1]) (rest := []) (cfix X) (k_X10_fail l G cy κ S_8 _ x (1) (1) hO_10.1 t_43 ti_1) (cwV 1 X.2.2.2.1 gX10_readAct_X10_fail rfl rfl rfl (by decide +kernel) ⟨Nat.le_of_ble_eq_true rfl, Nat.le_of_ble_eq_true rfl⟩) (pre_V X hw _ t_43 rfl (by decide) rfl) rfl rfl hl.1 rfl (lv_room (Nat.le_of_ble_eq_true rfl)) dX10_readAct_37 ⟨Nat.le_of_ble_eq_true rfl, Nat.le_of_ble_eq_true rfl⟩) 0 0 (Nat.le_of_ble_eq_true rfl) (Nat.le_of_ble_eq_true rfl) (fun rr_87 S_88 H locs hp hw hfr hnw => ?_)
        obtain ⟨hk_89, hp⟩ := hp
        have hO_90 : Ok eTX S S_88 := hO_10.call hk_89 (by decide +kernel)
        rcases hp with ⟨f_91, er_92⟩ | ⟨f_91, er_92⟩ <;> subst er_92
        · have z_b_93 := trivial
          exact ret_z X hw hr hlocks (Nat.le_of_ble_eq_true rfl) (Nat.le_of_ble_eq_true rfl) (by decide) ⟨hO_90, Or.inl ⟨trivial, rfl⟩⟩ dX10_readAct_40
        · have z_b_94 := trivial
          exact ret_z X hw hr hlocks (Nat.le_of_ble_eq_true rfl) (Nat.le_of_ble_eq_true rfl) (by decide) ⟨hO_90, Or.inr ⟨trivial, rfl⟩⟩ dX10_readAct_40
  · have z_b_95 := trivial
    have k_96 : rr_1.toInt = (-1) := z_eq rfl ti_m1 c_4
    refine lv_aload_n X.1 X.2.1 dX10_readAct_10 rfl (lv_at hl 1 rfl) ?_
    refine lv_iconst (v := 1) X.1 X.2.1 dX10_readAct_11 (by decide) ?_
    refine k_i (rm := { frames := 1, cells := 0, slots := 0, locals := 48 }) (av := [.ref x, .int 1]) X hw (va_runV (As := [.int 1]) (rest := []) (cfix X) (k_X10_fail l G cy κ S _ x (1) (1) hO.1 ha_x ti_1) (cwV 1 X.2.2.2.1 gX10_readAct_X10_fail rfl rfl rfl (by decide +kernel) ⟨Nat.le_of_ble_eq_true rfl, Nat.le_of_ble_eq_true rfl⟩) (pre_V X hw _ ha_x rfl (by decide) rfl) rfl rfl hl.1 rfl (lv_room (Nat.le_of_ble_eq_true rfl)) dX10_readAct_12 ⟨Nat.le_of_ble_eq_true rfl, Nat.le_of_ble_eq_true rfl⟩) 0 0 (Nat.le_of_ble_eq_true rfl) (Nat.le_of_ble_eq_true rfl) (fun rr_97 S_98 H locs hp hw hfr hnw => ?_)
    obtain ⟨hk_99, hp⟩ := hp
    have hO_100 : Ok eTX S S_98 := hO.call hk_99 (by decide +kernel)
    rcases hp with ⟨f_101, er_102⟩ | ⟨f_101, er_102⟩ <;> subst er_102
    · have z_b_103 := trivial
      exact ret_z X hw hr hlocks (Nat.le_of_ble_eq_true rfl) (Nat.le_of_ble_eq_true rfl) (by decide) ⟨hO_100, Or.inl ⟨trivial, rfl⟩⟩ dX10_readAct_15
    · have z_b_104 := trivial
      exact ret_z X hw hr hlocks (Nat.le_of_ble_eq_true rfl) (Nat.le_of_ble_eq_true rfl) (by decide) ⟨hO_100, Or.inr ⟨trivial, rfl⟩⟩ dX10_readAct_15
set_option maxHeartbeats 4000000 in
set_option maxRecDepth 100000 in
theorem k_X10_readCondition (l : Launch) (G : va_G) (cy : Nat → ClassId) (κ : Nat → Nat) (S : PS) (sz : Nat) (x : Nat) (r1 : Nat) (hG : GX S) (ha_x : At S x 10) (ha_r1 : At S r1 6) : Ci l yX10_readCondition wsX10_readCondition ({ frames := 7, cells := 0, slots := 0, locals := 336 }) G cy κ S sz [.ref x, .ref r1] (fun (r : Int32) (S9 : PS) => Ok eTX S S9 ∧ (((True) ∧ r = 1) ∨ ((True) ∧ r = 0))) := by
  refine ent_m (cc := cX10_readCondition) (maxL := 4) (ret := (some .boolean)) (by decide) rfl (Nat.le_of_ble_eq_true rfl) ?_
  intro p e s m below meth c ls X hr hlocks hin hw hl hsz
  subst hsz
  have X : Cx p c cX10_readCondition 4 s [.ref x, .ref r1].toArray wsX10_readCondition RX10 m G cy κ (AS S s.heap.size) := X
  have hl : lv_has ls 4 [(0, .ref x), (1, .ref r1)] := hl
  have hO : Ok eTX S S := Ok.rf hG
  refine lv_aload_n X.1 X.2.1 dX10_readCondition_0 rfl (lv_at hl 0 rfl) ?_
  refine k_i (rm := { frames := 6, cells := 0, slots := 0, locals := 288 }) (av := [.ref x]) X hw (va_runV (As := []) (rest := []) (cfix X) (k_X10_fieldAtHand l G cy κ S _ x hO.1 ha_x) (cwV 0 X.2.2.2.1 gX10_readCondition_X10_fieldAtHand rfl rfl rfl (by decide +kernel) ⟨Nat.le_of_ble_eq_true rfl, Nat.le_of_ble_eq_true rfl⟩) (pre_V X hw _ ha_x rfl (by decide) rfl) rfl rfl hl.1 rfl (lv_room (Nat.le_of_ble_eq_true rfl)) dX10_readCondition_1 ⟨Nat.le_of_ble_eq_true rfl, Nat.le_of_ble_eq_true rfl⟩) 0 0 (Nat.le_of_ble_eq_true rfl) (Nat.le_of_ble_eq_true rfl) (fun rr_1 S_2 H locs hp hw hfr hnw => ?_)
  obtain ⟨e2, hp⟩ := hp
  subst e2
  have rg_3 := And.intro (z_lo rr_1) (z_hi rr_1)
  refine lv_istore_n (lv' := [(2, .int (rr_1)), (0, .ref x), (1, .ref r1)]) X.1 X.2.1 dX10_readCondition_4 rfl hl (by decide) rfl (fun ls hl => ?_)
  refine lv_iload_n X.1 X.2.1 dX10_readCondition_5 rfl (lv_at hl 0 rfl) ?_
  refine lv_iconst (v := (-1)) X.1 X.2.1 dX10_readCondition_6 (by decide) ?_
  refine lv_icmp_ne (tgt := 16) X.1 X.2.1 dX10_readCondition_7 (by decide) (fun c_4 => ?_) (fun c_4 => ?_)
  · have z_b_5 := trivial
    have k_6 : rr_1.toInt ≠ (-1) := z_ne rfl ti_m1 c_4
    refine lv_aload_n X.1 X.2.1 dX10_readCondition_16 rfl (lv_at hl 1 rfl) ?_
    refine k_v (rm := { frames := 2, cells := 0, slots := 0, locals := 96 }) (av := [.ref x]) X hw (va_runV (As := []) (rest := []) (cfix X) (k_X10_advance l G cy κ S _ x hO.1 ha_x) (cwV 0 X.2.2.2.1 gX10_readCondition_X10_advance rfl rfl rfl (by decide +kernel) ⟨Nat.le_of_ble_eq_true rfl, Nat.le_of_ble_eq_true rfl⟩) (pre_V X hw _ ha_x rfl (by decide) rfl) rfl rfl hl.1 rfl (lv_room (Nat.le_of_ble_eq_true rfl)) dX10_readCondition_17 ⟨Nat.le_of_ble_eq_true rfl, Nat.le_of_ble_eq_true rfl⟩) 0 0 (Nat.le_of_ble_eq_true rfl) (Nat.le_of_ble_eq_true rfl) (fun S_8 H locs hp hw hfr hnw => ?_)
    obtain ⟨hk_9, hp⟩ := hp
    have hO_10 : Ok eTX S S_8 := hO.call hk_9 (by decide +kernel)
    refine lv_aload_n X.1 X.2.1 dX10_readCondition_20 rfl (lv_at hl 1 rfl) ?_
    refine lv_bipush (v := 60) X.1 X.2.1 dX10_readCondition_21 (by decide) ?_
    have t_11 : At S_8 x 10 := hk_9.fr.at ha_x
    refine k_i (rm := { frames := 2, cells := 0, slots := 0, locals := 96 }) (av := [.ref x, .int 60]) X hw (va_runV (As := [.int 60]) (rest := []) (cfix X) (k_X10_isSign l G cy κ S_8 _ x (60) (60) hO_10.1 t_11 ti_60) (cwV 1 X.2.2.2.1 gX10_readCondition_X10_isSign rfl rfl rfl (by decide +kernel) ⟨Nat.le_of_ble_eq_true rfl, Nat.le_of_ble_eq_true rfl⟩) (pre_V X hw _ t_11 rfl (by decide) rfl) rfl rfl hl.1 rfl (lv_room (Nat.le_of_ble_eq_true rfl)) dX10_readCondition_23 ⟨Nat.le_of_ble_eq_true rfl, Nat.le_of_ble_eq_true rfl⟩) 0 0 (Nat.le_of_ble_eq_true rfl) (Nat.le_of_ble_eq_true rfl) (fun rr_12 S_13 H locs hp hw hfr hnw => ?_)
    obtain ⟨e2, hp⟩ := hp
    subst e2
    rcases hp with ⟨f_14, er_15⟩ | ⟨f_14, er_15⟩ <;> subst er_15
    · have z_b_16 := trivial
      refine lv_if_ne (tgt := 53) X.1 X.2.1 dX10_readCondition_26 (by decide) (fun c_17 => ?_) (fun c_17 => absurd c_17 (by decide))
      refine lv_aload_n X.1 X.2.1 dX10_readCondition_53 rfl (lv_at hl 1 rfl) ?_
      refine lv_aload_n X.1 X.2.1 dX10_readCondition_54 rfl (lv_at hl 1 rfl) ?_
      obtain ⟨v_18, ev_18⟩ : ∃ v, pI S_8 1005 x = v := ⟨_, rfl⟩
      have rg_20 := And.intro (z_lo v_18) (z_hi v_18)
      refine r_getI (g := 1005) (x := v_18) X hw t_11 rfl 5 ev_18 (by decide) rfl inn_X10_readCondition_10 (by decide) (X.2.2.2.1 (.fieldLink RX10 79 "SilkMill$Tape" "start" "I") (by decide +kernel)) rfl (gv_1005 _ _) dX10_readCondition_55 ?_
      refine k_i (rm := { frames := 1, cells := 0, slots := 0, locals := 48 }) (av := [.ref x, .int (v_18)]) X hw (va_runV (As := [.int (v_18)]) (rest := []) (cfix X) (k_X10_byteAt l G cy κ S_8 _ x (v_18) (v_18.toInt) hO_10.1 t_11 rfl) (cwV 1 X.2.2.2.1 gX10_readCondition_X10_byteAt rfl rfl rfl (by decide +kernel) ⟨Nat.le_of_ble_eq_true rfl, Nat.le_of_ble_eq_true rfl⟩) (pre_V X hw _ t_11 rfl (by decide) rfl) rfl rfl hl.1 rfl (lv_room (Nat.le_of_ble_eq_true rfl)) dX10_readCondition_58 ⟨Nat.le_of_ble_eq_true rfl, Nat.le_of_ble_eq_true rfl⟩) 0 0 (Nat.le_of_ble_eq_true rfl) (Nat.le_of_ble_eq_true rfl) (fun rr_21 S_22 H locs hp hw hfr hnw => ?_)
      obtain ⟨e2, hp⟩ := hp
      subst e2
      have rg_23 := And.intro (z_lo rr_21) (z_hi rr_21)
      refine lv_istore_n (lv' := [(3, .int (rr_21)), (2, .int (rr_1)), (0, .ref x), (1, .ref r1)]) X.1 X.2.1 dX10_readCondition_61 rfl hl (by decide) rfl (fun ls hl => ?_)
      refine lv_aload_n X.1 X.2.1 dX10_readCondition_62 rfl (lv_at hl 2 rfl) ?_
      refine k_v (rm := { frames := 2, cells := 0, slots := 0, locals := 96 }) (av := [.ref x]) X hw (va_runV (As := []) (rest := []) (cfix X) (k_X10_advance l G cy κ S_8 _ x hO_10.1 t_11) (cwV 0 X.2.2.2.1 gX10_readCondition_X10_advance rfl rfl rfl (by decide +kernel) ⟨Nat.le_of_ble_eq_true rfl, Nat.le_of_ble_eq_true rfl⟩) (pre_V X hw _ t_11 rfl (by decide) rfl) rfl rfl hl.1 rfl (lv_room (Nat.le_of_ble_eq_true rfl)) dX10_readCondition_63 ⟨Nat.le_of_ble_eq_true rfl, Nat.le_of_ble_eq_true rfl⟩) 0 0 (Nat.le_of_ble_eq_true rfl) (Nat.le_of_ble_eq_true rfl) (fun S_25 H locs hp hw hfr hnw => ?_)
      obtain ⟨hk_26, hp⟩ := hp
      have hO_27 : Ok eTX S S_25 := hO_10.call hk_26 (by decide +kernel)
      refine lv_aload_n X.1 X.2.1 dX10_readCondition_66 rfl (lv_at hl 2 rfl) ?_
      have t_28 : At S_25 x 10 := hk_26.fr.at t_11
      obtain ⟨v_29, ev_29⟩ : ∃ v, pI S_25 1004 x = v := ⟨_, rfl⟩
      have rg_31 := And.intro (z_lo v_29) (z_hi v_29)
      refine r_getI (g := 1004) (x := v_29) X hw t_28 rfl 4 ev_29 (by decide) rfl inn_X10_readCondition_10 (by decide) (X.2.2.2.1 (.fieldLink RX10 37 "SilkMill$Tape" "token" "I") (by decide +kernel)) rfl (gv_1004 _ _) dX10_readCondition_67 ?_
      refine lv_iconst (v := 2) X.1 X.2.1 dX10_readCondition_70 (by decide) ?_
      refine lv_icmp_eq (tgt := 80) X.1 X.2.1 dX10_readCondition_71 (by decide) (fun c_32 => ?_) (fun c_32 => ?_)
      · have z_b_33 := trivial
        have k_34 : v_29.toInt = 2 := z_eq rfl ti_2 c_32
        refine lv_aload_n X.1 X.2.1 dX10_readCondition_80 rfl (lv_at hl 3 rfl) ?_
        refine lv_iload_n X.1 X.2.1 dX10_readCondition_81 rfl (lv_at hl 1 rfl) ?_
        refine lv_iload_n X.1 X.2.1 dX10_readCondition_82 rfl (lv_at hl 0 rfl) ?_
        refine lv_aload_n X.1 X.2.1 dX10_readCondition_83 rfl (lv_at hl 2 rfl) ?_
        refine k_i (rm := { frames := 2, cells := 0, slots := 0, locals := 96 }) (av := [.ref x]) X hw (va_runV (As := []) (rest := [.int (rr_21), .int (rr_1), .ref r1]) (cfix X) (k_X10_numberAtHand l G cy κ S_25 _ x hO_27.1 t_28) (cwV 0 X.2.2.2.1 gX10_readCondition_X10_numberAtHand rfl rfl rfl (by decide +kernel) ⟨Nat.le_of_ble_eq_true rfl, Nat.le_of_ble_eq_true rfl⟩) (pre_V X hw _ t_28 rfl (by decide) rfl) rfl rfl hl.1 rfl (lv_room (Nat.le_of_ble_eq_true rfl)) dX10_readCondition_84 ⟨Nat.le_of_ble_eq_true rfl, Nat.le_of_ble_eq_true rfl⟩) 0 0 (Nat.le_of_ble_eq_true rfl) (Nat.le_of_ble_eq_true rfl) (fun rr_35 S_36 H locs hp hw hfr hnw => ?_)
        obtain ⟨e2, hp⟩ := hp
        subst e2
        have rg_37 := And.intro (z_lo rr_35) (z_hi rr_35)
        have t_38 : At S_8 r1 6 := hk_9.fr.at ha_r1
        have t_39 : At S_25 r1 6 := hk_26.fr.at t_38
        refine k_v (rm := { frames := 1, cells := 0, slots := 0, locals := 48 }) (av := [.ref r1, .int (rr_1), .int (rr_21), .int (rr_35)]) X hw (va_runV (As := [.int (rr_1), .int (rr_21), .int (rr_35)]) (rest := []) (cfix X) (k_X6_addCondition l G cy κ S_25 _ r1 (rr_1) (rr_1.toInt) (rr_21) (rr_21.toInt) (rr_35) (rr_35.toInt) hO_27.1 t_39 rfl rfl rfl) (cwV 3 X.2.2.2.1 gX10_readCondition_X6_addCondition rfl rfl rfl (by decide +kernel) ⟨Nat.le_of_ble_eq_true rfl, Nat.le_of_ble_eq_true rfl⟩) (pre_V X hw _ t_39 rfl (by decide) rfl) rfl rfl hl.1 rfl (lv_room (Nat.le_of_ble_eq_true rfl)) dX10_readCondition_87 ⟨Nat.le_of_ble_eq_true rfl, Nat.le_of_ble_eq_true rfl⟩) 0 0 (Nat.le_of_ble_eq_true rfl) (Nat.le_of_ble_eq_true rfl) (fun S_41 H locs hp hw hfr hnw => ?_)
        obtain ⟨hk_42, hp⟩ := hp
        have hO_43 : Ok eTX S S_41 := hO_27.call hk_42 (by decide +kernel)
        refine lv_aload_n X.1 X.2.1 dX10_readCondition_90 rfl (lv_at hl 2 rfl) ?_
        have t_44 : At S_41 x 10 := hk_42.fr.at t_28
        refine k_v (rm := { frames := 2, cells := 0, slots := 0, locals := 96 }) (av := [.ref x]) X hw (va_runV (As := []) (rest := []) (cfix X) (k_X10_advance l G cy κ S_41 _ x hO_43.1 t_44) (cwV 0 X.2.2.2.1 gX10_readCondition_X10_advance rfl rfl rfl (by decide +kernel) ⟨Nat.le_of_ble_eq_true rfl, Nat.le_of_ble_eq_true rfl⟩) (pre_V X hw _ t_44 rfl (by decide) rfl) rfl rfl hl.1 rfl (lv_room (Nat.le_of_ble_eq_true rfl)) dX10_readCondition_91 ⟨Nat.le_of_ble_eq_true rfl, Nat.le_of_ble_eq_true rfl⟩) 0 0 (Nat.le_of_ble_eq_true rfl) (Nat.le_of_ble_eq_true rfl) (fun S_46 H locs hp hw hfr hnw => ?_)
        obtain ⟨hk_47, hp⟩ := hp
        have hO_48 : Ok eTX S S_46 := hO_43.call hk_47 (by decide +kernel)
        refine lv_iconst (v := 1) X.1 X.2.1 dX10_readCondition_94 (by decide) ?_
        exact ret_z X hw hr hlocks (Nat.le_of_ble_eq_true rfl) (Nat.le_of_ble_eq_true rfl) (by decide) ⟨hO_48, Or.inl ⟨trivial, rfl⟩⟩ dX10_readCondition_95
      · have z_b_49 := trivial
        have k_50 : v_29.toInt ≠ 2 := z_ne rfl ti_2 c_32
        refine lv_aload_n X.1 X.2.1 dX10_readCondition_74 rfl (lv_at hl 2 rfl) ?_
        refine lv_iconst (v := 1) X.1 X.2.1 dX10_readCondition_75 (by decide) ?_
        refine k_i (rm := { frames := 1, cells := 0, slots := 0, locals := 48 }) (av := [.ref x, .int 1]) X hw (va_runV (As := [.int 1]) (rest := []) (cfix X) (k_X10_fail l G cy κ S_25 _ x (1) (1) hO_27.1 t_28 ti_1) (cwV 1 X.2.2.2.1 gX10_readCondition_X10_fail rfl rfl rfl (by decide +kernel) ⟨Nat.le_of_ble_eq_true rfl, Nat.le_of_ble_eq_true rfl⟩) (pre_V X hw _ t_28 rfl (by decide) rfl) rfl rfl hl.1 rfl (lv_room (Nat.le_of_ble_eq_true rfl)) dX10_readCondition_76 ⟨Nat.le_of_ble_eq_true rfl, Nat.le_of_ble_eq_true rfl⟩) 0 0 (Nat.le_of_ble_eq_true rfl) (Nat.le_of_ble_eq_true rfl) (fun rr_51 S_52 H locs hp hw hfr hnw => ?_)
        obtain ⟨hk_53, hp⟩ := hp
        have hO_54 : Ok eTX S S_52 := hO_27.call hk_53 (by decide +kernel)
        rcases hp with ⟨f_55, er_56⟩ | ⟨f_55, er_56⟩ <;> subst er_56
        · have z_b_57 := trivial
          exact ret_z X hw hr hlocks (Nat.le_of_ble_eq_true rfl) (Nat.le_of_ble_eq_true rfl) (by decide) ⟨hO_54, Or.inl ⟨trivial, rfl⟩⟩ dX10_readCondition_79
        · have z_b_58 := trivial
          exact ret_z X hw hr hlocks (Nat.le_of_ble_eq_true rfl) (Nat.le_of_ble_eq_true rfl) (by decide) ⟨hO_54, Or.inr ⟨trivial, rfl⟩⟩ dX10_readCondition_79
    · have z_b_59 := trivial
      refine lv_if_ne (tgt := 53) X.1 X.2.1 dX10_readCondition_26 (by decide) (fun c_60 => absurd c_60 (by decide)) (fun c_60 => ?_)
      refine lv_aload_n X.1 X.2.1 dX10_readCondition_29 rfl (lv_at hl 1 rfl) ?_
      refine lv_bipush (v := 61) X.1 X.2.1 dX10_readCondition_30 (by decide) ?_
      refine k_i (rm := { frames := 2, cells := 0, slots := 0, locals := 96 }) (av := [.ref x, .int 61]) X hw (va_runV (As := [.int 61]) (rest := []) (cfix X) (k_X10_isSign l G cy κ S_8 _ x (61) (61) hO_10.1 t_11 ti_61) (cwV 1 X.2.2.2.1 gX10_readCondition_X10_isSign rfl rfl rfl (by decide +kernel) ⟨Nat.le_of_ble_eq_true rfl, Nat.le_of_ble_eq_true rfl⟩) (pre_V X hw _ t_11 rfl (by decide) rfl) rfl rfl hl.1 rfl (lv_room (Nat.le_of_ble_eq_true rfl)) dX10_readCondition_32 ⟨Nat.le_of_ble_eq_true rfl, Nat.le_of_ble_eq_true rfl⟩) 0 0 (Nat.le_of_ble_eq_true rfl) (Nat.le_of_ble_eq_true rfl) (fun rr_61 S_62 H locs hp hw hfr hnw => ?_)
      obtain ⟨e2, hp⟩ := hp
      subst e2
      rcases hp with ⟨f_63, er_64⟩ | ⟨f_63, er_64⟩ <;> subst er_64
      · have z_b_65 := trivial
        refine lv_if_ne (tgt := 53) X.1 X.2.1 dX10_readCondition_35 (by decide) (fun c_66 => ?_) (fun c_66 => absurd c_66 (by decide))
        refine lv_aload_n X.1 X.2.1 dX10_readCondition_53 rfl (lv_at hl 1 rfl) ?_
        refine lv_aload_n X.1 X.2.1 dX10_readCondition_54 rfl (lv_at hl 1 rfl) ?_
        obtain ⟨v_67, ev_67⟩ : ∃ v, pI S_8 1005 x = v := ⟨_, rfl⟩
        have rg_69 := And.intro (z_lo v_67) (z_hi v_67)
        refine r_getI (g := 1005) (x := v_67) X hw t_11 rfl 5 ev_67 (by decide) rfl inn_X10_readCondition_10 (by decide) (X.2.2.2.1 (.fieldLink RX10 79 "SilkMill$Tape" "start" "I") (by decide +kernel)) rfl (gv_1005 _ _) dX10_readCondition_55 ?_
        refine k_i (rm := { frames := 1, cells := 0, slots := 0, locals := 48 }) (av := [.ref x, .int (v_67)]) X hw (va_runV (As := [.int (v_67)]) (rest := []) (cfix X) (k_X10_byteAt l G cy κ S_8 _ x (v_67) (v_67.toInt) hO_10.1 t_11 rfl) (cwV 1 X.2.2.2.1 gX10_readCondition_X10_byteAt rfl rfl rfl (by decide +kernel) ⟨Nat.le_of_ble_eq_true rfl, Nat.le_of_ble_eq_true rfl⟩) (pre_V X hw _ t_11 rfl (by decide) rfl) rfl rfl hl.1 rfl (lv_room (Nat.le_of_ble_eq_true rfl)) dX10_readCondition_58 ⟨Nat.le_of_ble_eq_true rfl, Nat.le_of_ble_eq_true rfl⟩) 0 0 (Nat.le_of_ble_eq_true rfl) (Nat.le_of_ble_eq_true rfl) (fun rr_70 S_71 H locs hp hw hfr hnw => ?_)
        obtain ⟨e2, hp⟩ := hp
        subst e2
        have rg_72 := And.intro (z_lo rr_70) (z_hi rr_70)
        refine lv_istore_n (lv' := [(3, .int (rr_70)), (2, .int (rr_1)), (0, .ref x), (1, .ref r1)]) X.1 X.2.1 dX10_readCondition_61 rfl hl (by decide) rfl (fun ls hl => ?_)
        refine lv_aload_n X.1 X.2.1 dX10_readCondition_62 rfl (lv_at hl 2 rfl) ?_
        refine k_v (rm := { frames := 2, cells := 0, slots := 0, locals := 96 }) (av := [.ref x]) X hw (va_runV (As := []) (rest := []) (cfix X) (k_X10_advance l G cy κ S_8 _ x hO_10.1 t_11) (cwV 0 X.2.2.2.1 gX10_readCondition_X10_advance rfl rfl rfl (by decide +kernel) ⟨Nat.le_of_ble_eq_true rfl, Nat.le_of_ble_eq_true rfl⟩) (pre_V X hw _ t_11 rfl (by decide) rfl) rfl rfl hl.1 rfl (lv_room (Nat.le_of_ble_eq_true rfl)) dX10_readCondition_63 ⟨Nat.le_of_ble_eq_true rfl, Nat.le_of_ble_eq_true rfl⟩) 0 0 (Nat.le_of_ble_eq_true rfl) (Nat.le_of_ble_eq_true rfl) (fun S_74 H locs hp hw hfr hnw => ?_)
        obtain ⟨hk_75, hp⟩ := hp
        have hO_76 : Ok eTX S S_74 := hO_10.call hk_75 (by decide +kernel)
        refine lv_aload_n X.1 X.2.1 dX10_readCondition_66 rfl (lv_at hl 2 rfl) ?_
        have t_77 : At S_74 x 10 := hk_75.fr.at t_11
        obtain ⟨v_78, ev_78⟩ : ∃ v, pI S_74 1004 x = v := ⟨_, rfl⟩
        have rg_80 := And.intro (z_lo v_78) (z_hi v_78)
        refine r_getI (g := 1004) (x := v_78) X hw t_77 rfl 4 ev_78 (by decide) rfl inn_X10_readCondition_10 (by decide) (X.2.2.2.1 (.fieldLink RX10 37 "SilkMill$Tape" "token" "I") (by decide +kernel)) rfl (gv_1004 _ _) dX10_readCondition_67 ?_
        refine lv_iconst (v := 2) X.1 X.2.1 dX10_readCondition_70 (by decide) ?_
        refine lv_icmp_eq (tgt := 80) X.1 X.2.1 dX10_readCondition_71 (by decide) (fun c_81 => ?_) (fun c_81 => ?_)
        · have z_b_82 := trivial
          have k_83 : v_78.toInt = 2 := z_eq rfl ti_2 c_81
          refine lv_aload_n X.1 X.2.1 dX10_readCondition_80 rfl (lv_at hl 3 rfl) ?_
          refine lv_iload_n X.1 X.2.1 dX10_readCondition_81 rfl (lv_at hl 1 rfl) ?_
          refine lv_iload_n X.1 X.2.1 dX10_readCondition_82 rfl (lv_at hl 0 rfl) ?_
          refine lv_aload_n X.1 X.2.1 dX10_readCondition_83 rfl (lv_at hl 2 rfl) ?_
          refine k_i (rm := { frames := 2, cells := 0, slots := 0, locals := 96 }) (av := [.ref x]) X hw (va_runV (As := []) (rest := [.int (rr_70), .int (rr_1), .ref r1]) (cfix X) (k_X10_numberAtHand l G cy κ S_74 _ x hO_76.1 t_77) (cwV 0 X.2.2.2.1 gX10_readCondition_X10_numberAtHand rfl rfl rfl (by decide +kernel) ⟨Nat.le_of_ble_eq_true rfl, Nat.le_of_ble_eq_true rfl⟩) (pre_V X hw _ t_77 rfl (by decide) rfl) rfl rfl hl.1 rfl (lv_room (Nat.le_of_ble_eq_true rfl)) dX10_readCondition_84 ⟨Nat.le_of_ble_eq_true rfl, Nat.le_of_ble_eq_true rfl⟩) 0 0 (Nat.le_of_ble_eq_true rfl) (Nat.le_of_ble_eq_true rfl) (fun rr_84 S_85 H locs hp hw hfr hnw => ?_)
          obtain ⟨e2, hp⟩ := hp
          subst e2
          have rg_86 := And.intro (z_lo rr_84) (z_hi rr_84)
          have t_87 : At S_8 r1 6 := hk_9.fr.at ha_r1
          have t_88 : At S_74 r1 6 := hk_75.fr.at t_87
          refine k_v (rm := { frames := 1, cells := 0, slots := 0, locals := 48 }) (av := [.ref r1, .int (rr_1), .int (rr_70), .int (rr_84)]) X hw (va_runV (As := [.int (rr_1), .int (rr_70), .int (rr_84)]) (rest := []) (cfix X) (k_X6_addCondition l G cy κ S_74 _ r1 (rr_1) (rr_1.toInt) (rr_70) (rr_70.toInt) (rr_84) (rr_84.toInt) hO_76.1 t_88 rfl rfl rfl) (cwV 3 X.2.2.2.1 gX10_readCondition_X6_addCondition rfl rfl rfl (by decide +kernel) ⟨Nat.le_of_ble_eq_true rfl, Nat.le_of_ble_eq_true rfl⟩) (pre_V X hw _ t_88 rfl (by decide) rfl) rfl rfl hl.1 rfl (lv_room (Nat.le_of_ble_eq_true rfl)) dX10_readCondition_87 ⟨Nat.le_of_ble_eq_true rfl, Nat.le_of_ble_eq_true rfl⟩) 0 0 (Nat.le_of_ble_eq_true rfl) (Nat.le_of_ble_eq_true rfl) (fun S_90 H locs hp hw hfr hnw => ?_)
          obtain ⟨hk_91, hp⟩ := hp
          have hO_92 : Ok eTX S S_90 := hO_76.call hk_91 (by decide +kernel)
          refine lv_aload_n X.1 X.2.1 dX10_readCondition_90 rfl (lv_at hl 2 rfl) ?_
          have t_93 : At S_90 x 10 := hk_91.fr.at t_77
          refine k_v (rm := { frames := 2, cells := 0, slots := 0, locals := 96 }) (av := [.ref x]) X hw (va_runV (As := []) (rest := []) (cfix X) (k_X10_advance l G cy κ S_90 _ x hO_92.1 t_93) (cwV 0 X.2.2.2.1 gX10_readCondition_X10_advance rfl rfl rfl (by decide +kernel) ⟨Nat.le_of_ble_eq_true rfl, Nat.le_of_ble_eq_true rfl⟩) (pre_V X hw _ t_93 rfl (by decide) rfl) rfl rfl hl.1 rfl (lv_room (Nat.le_of_ble_eq_true rfl)) dX10_readCondition_91 ⟨Nat.le_of_ble_eq_true rfl, Nat.le_of_ble_eq_true rfl⟩) 0 0 (Nat.le_of_ble_eq_true rfl) (Nat.le_of_ble_eq_true rfl) (fun S_95 H locs hp hw hfr hnw => ?_)
          obtain ⟨hk_96, hp⟩ := hp
          have hO_97 : Ok eTX S S_95 := hO_92.call hk_96 (by decide +kernel)
          refine lv_iconst (v := 1) X.1 X.2.1 dX10_readCondition_94 (by decide) ?_
          exact ret_z X hw hr hlocks (Nat.le_of_ble_eq_true rfl) (Nat.le_of_ble_eq_true rfl) (by decide) ⟨hO_97, Or.inl ⟨trivial, rfl⟩⟩ dX10_readCondition_95
        · have z_b_98 := trivial
          have k_99 : v_78.toInt ≠ 2 := z_ne rfl ti_2 c_81
          refine lv_aload_n X.1 X.2.1 dX10_readCondition_74 rfl (lv_at hl 2 rfl) ?_
          refine lv_iconst (v := 1) X.1 X.2.1 dX10_readCondition_75 (by decide) ?_
          refine k_i (rm := { frames := 1, cells := 0, slots := 0, locals := 48 }) (av := [.ref x, .int 1]) X hw (va_runV (As := [.int 1]) (rest := []) (cfix X) (k_X10_fail l G cy κ S_74 _ x (1) (1) hO_76.1 t_77 ti_1) (cwV 1 X.2.2.2.1 gX10_readCondition_X10_fail rfl rfl rfl (by decide +kernel) ⟨Nat.le_of_ble_eq_true rfl, Nat.le_of_ble_eq_true rfl⟩) (pre_V X hw _ t_77 rfl (by decide) rfl) rfl rfl hl.1 rfl (lv_room (Nat.le_of_ble_eq_true rfl)) dX10_readCondition_76 ⟨Nat.le_of_ble_eq_true rfl, Nat.le_of_ble_eq_true rfl⟩) 0 0 (Nat.le_of_ble_eq_true rfl) (Nat.le_of_ble_eq_true rfl) (fun rr_100 S_101 H locs hp hw hfr hnw => ?_)
          obtain ⟨hk_102, hp⟩ := hp
          have hO_103 : Ok eTX S S_101 := hO_76.call hk_102 (by decide +kernel)
          rcases hp with ⟨f_104, er_105⟩ | ⟨f_104, er_105⟩ <;> subst er_105
          · have z_b_106 := trivial
            exact ret_z X hw hr hlocks (Nat.le_of_ble_eq_true rfl) (Nat.le_of_ble_eq_true rfl) (by decide) ⟨hO_103, Or.inl ⟨trivial, rfl⟩⟩ dX10_readCondition_79
          · have z_b_107 := trivial
            exact ret_z X hw hr hlocks (Nat.le_of_ble_eq_true rfl) (Nat.le_of_ble_eq_true rfl) (by decide) ⟨hO_103, Or.inr ⟨trivial, rfl⟩⟩ dX10_readCondition_79
      · have z_b_108 := trivial
        refine lv_if_ne (tgt := 53) X.1 X.2.1 dX10_readCondition_35 (by decide) (fun c_109 => absurd c_109 (by decide)) (fun c_109 => ?_)
        refine lv_aload_n X.1 X.2.1 dX10_readCondition_38 rfl (lv_at hl 1 rfl) ?_
        refine lv_bipush (v := 62) X.1 X.2.1 dX10_readCondition_39 (by decide) ?_
        refine k_i (rm := { frames := 2, cells := 0, slots := 0, locals := 96 }) (av := [.ref x, .int 62]) X hw (va_runV (As := [.int 62]) (rest := []) (cfix X) (k_X10_isSign l G cy κ S_8 _ x (62) (62) hO_10.1 t_11 ti_62) (cwV 1 X.2.2.2.1 gX10_readCondition_X10_isSign rfl rfl rfl (by decide +kernel) ⟨Nat.le_of_ble_eq_true rfl, Nat.le_of_ble_eq_true rfl⟩) (pre_V X hw _ t_11 rfl (by decide) rfl) rfl rfl hl.1 rfl (lv_room (Nat.le_of_ble_eq_true rfl)) dX10_readCondition_41 ⟨Nat.le_of_ble_eq_true rfl, Nat.le_of_ble_eq_true rfl⟩) 0 0 (Nat.le_of_ble_eq_true rfl) (Nat.le_of_ble_eq_true rfl) (fun rr_110 S_111 H locs hp hw hfr hnw => ?_)
        obtain ⟨e2, hp⟩ := hp
        subst e2
        rcases hp with ⟨f_112, er_113⟩ | ⟨f_112, er_113⟩ <;> subst er_113
        · have z_b_114 := trivial
          refine lv_if_ne (tgt := 53) X.1 X.2.1 dX10_readCondition_44 (by decide) (fun c_115 => ?_) (fun c_115 => absurd c_115 (by decide))
          refine lv_aload_n X.1 X.2.1 dX10_readCondition_53 rfl (lv_at hl 1 rfl) ?_
          refine lv_aload_n X.1 X.2.1 dX10_readCondition_54 rfl (lv_at hl 1 rfl) ?_
          obtain ⟨v_116, ev_116⟩ : ∃ v, pI S_8 1005 x = v := ⟨_, rfl⟩
          have rg_118 := And.intro (z_lo v_116) (z_hi v_116)
          refine r_getI (g := 1005) (x := v_116) X hw t_11 rfl 5 ev_116 (by decide) rfl inn_X10_readCondition_10 (by decide) (X.2.2.2.1 (.fieldLink RX10 79 "SilkMill$Tape" "start" "I") (by decide +kernel)) rfl (gv_1005 _ _) dX10_readCondition_55 ?_
          refine k_i (rm := { frames := 1, cells := 0, slots := 0, locals := 48 }) (av := [.ref x, .int (v_116)]) X hw (va_runV (As := [.int (v_116)]) (rest := []) (cfix X) (k_X10_byteAt l G cy κ S_8 _ x (v_116) (v_116.toInt) hO_10.1 t_11 rfl) (cwV 1 X.2.2.2.1 gX10_readCondition_X10_byteAt rfl rfl rfl (by decide +kernel) ⟨Nat.le_of_ble_eq_true rfl, Nat.le_of_ble_eq_true rfl⟩) (pre_V X hw _ t_11 rfl (by decide) rfl) rfl rfl hl.1 rfl (lv_room (Nat.le_of_ble_eq_true rfl)) dX10_readCondition_58 ⟨Nat.le_of_ble_eq_true rfl, Nat.le_of_ble_eq_true rfl⟩) 0 0 (Nat.le_of_ble_eq_true rfl) (Nat.le_of_ble_eq_true rfl) (fun rr_119 S_120 H locs hp hw hfr hnw => ?_)
          obtain ⟨e2, hp⟩ := hp
          subst e2
          have rg_121 := And.intro (z_lo rr_119) (z_hi rr_119)
          refine lv_istore_n (lv' := [(3, .int (rr_119)), (2, .int (rr_1)), (0, .ref x), (1, .ref r1)]) X.1 X.2.1 dX10_readCondition_61 rfl hl (by decide) rfl (fun ls hl => ?_)
          refine lv_aload_n X.1 X.2.1 dX10_readCondition_62 rfl (lv_at hl 2 rfl) ?_
          refine k_v (rm := { frames := 2, cells := 0, slots := 0, locals := 96 }) (av := [.ref x]) X hw (va_runV (As := []) (rest := []) (cfix X) (k_X10_advance l G cy κ S_8 _ x hO_10.1 t_11) (cwV 0 X.2.2.2.1 gX10_readCondition_X10_advance rfl rfl rfl (by decide +kernel) ⟨Nat.le_of_ble_eq_true rfl, Nat.le_of_ble_eq_true rfl⟩) (pre_V X hw _ t_11 rfl (by decide) rfl) rfl rfl hl.1 rfl (lv_room (Nat.le_of_ble_eq_true rfl)) dX10_readCondition_63 ⟨Nat.le_of_ble_eq_true rfl, Nat.le_of_ble_eq_true rfl⟩) 0 0 (Nat.le_of_ble_eq_true rfl) (Nat.le_of_ble_eq_true rfl) (fun S_123 H locs hp hw hfr hnw => ?_)
          obtain ⟨hk_124, hp⟩ := hp
          have hO_125 : Ok eTX S S_123 := hO_10.call hk_124 (by decide +kernel)
          refine lv_aload_n X.1 X.2.1 dX10_readCondition_66 rfl (lv_at hl 2 rfl) ?_
          have t_126 : At S_123 x 10 := hk_124.fr.at t_11
          obtain ⟨v_127, ev_127⟩ : ∃ v, pI S_123 1004 x = v := ⟨_, rfl⟩
          have rg_129 := And.intro (z_lo v_127) (z_hi v_127)
          refine r_getI (g := 1004) (x := v_127) X hw t_126 rfl 4 ev_127 (by decide) rfl inn_X10_readCondition_10 (by decide) (X.2.2.2.1 (.fieldLink RX10 37 "SilkMill$Tape" "token" "I") (by decide +kernel)) rfl (gv_1004 _ _) dX10_readCondition_67 ?_
          refine lv_iconst (v := 2) X.1 X.2.1 dX10_readCondition_70 (by decide) ?_
          refine lv_icmp_eq (tgt := 80) X.1 X.2.1 dX10_readCondition_71 (by decide) (fun c_130 => ?_) (fun c_130 => ?_)
          · have z_b_131 := trivial
            have k_132 : v_127.toInt = 2 := z_eq rfl ti_2 c_130
            refine lv_aload_n X.1 X.2.1 dX10_readCondition_80 rfl (lv_at hl 3 rfl) ?_
            refine lv_iload_n X.1 X.2.1 dX10_readCondition_81 rfl (lv_at hl 1 rfl) ?_
            refine lv_iload_n X.1 X.2.1 dX10_readCondition_82 rfl (lv_at hl 0 rfl) ?_
            refine lv_aload_n X.1 X.2.1 dX10_readCondition_83 rfl (lv_at hl 2 rfl) ?_
            refine k_i (rm := { frames := 2, cells := 0, slots := 0, locals := 96 }) (av := [.ref x]) X hw (va_runV (As := []) (rest := [.int (rr_119), .int (rr_1), .ref r1]) (cfix X) (k_X10_numberAtHand l G cy κ S_123 _ x hO_125.1 t_126) (cwV 0 X.2.2.2.1 gX10_readCondition_X10_numberAtHand rfl rfl rfl (by decide +kernel) ⟨Nat.le_of_ble_eq_true rfl, Nat.le_of_ble_eq_true rfl⟩) (pre_V X hw _ t_126 rfl (by decide) rfl) rfl rfl hl.1 rfl (lv_room (Nat.le_of_ble_eq_true rfl)) dX10_readCondition_84 ⟨Nat.le_of_ble_eq_true rfl, Nat.le_of_ble_eq_true rfl⟩) 0 0 (Nat.le_of_ble_eq_true rfl) (Nat.le_of_ble_eq_true rfl) (fun rr_133 S_134 H locs hp hw hfr hnw => ?_)
            obtain ⟨e2, hp⟩ := hp
            subst e2
            have rg_135 := And.intro (z_lo rr_133) (z_hi rr_133)
            have t_136 : At S_8 r1 6 := hk_9.fr.at ha_r1
            have t_137 : At S_123 r1 6 := hk_124.fr.at t_136
            refine k_v (rm := { frames := 1, cells := 0, slots := 0, locals := 48 }) (av := [.ref r1, .int (rr_1), .int (rr_119), .int (rr_133)]) X hw (va_runV (As := [.int (rr_1), .int (rr_119), .int (rr_133)]) (rest := []) (cfix X) (k_X6_addCondition l G cy κ S_123 _ r1 (rr_1) (rr_1.toInt) (rr_119) (rr_119.toInt) (rr_133) (rr_133.toInt) hO_125.1 t_137 rfl rfl rfl) (cwV 3 X.2.2.2.1 gX10_readCondition_X6_addCondition rfl rfl rfl (by decide +kernel) ⟨Nat.le_of_ble_eq_true rfl, Nat.le_of_ble_eq_true rfl⟩) (pre_V X hw _ t_137 rfl (by decide) rfl) rfl rfl hl.1 rfl (lv_room (Nat.le_of_ble_eq_true rfl)) dX10_readCondition_87 ⟨Nat.le_of_ble_eq_true rfl, Nat.le_of_ble_eq_true rfl⟩) 0 0 (Nat.le_of_ble_eq_true rfl) (Nat.le_of_ble_eq_true rfl) (fun S_139 H locs hp hw hfr hnw => ?_)
            obtain ⟨hk_140, hp⟩ := hp
            have hO_141 : Ok eTX S S_139 := hO_125.call hk_140 (by decide +kernel)
            refine lv_aload_n X.1 X.2.1 dX10_readCondition_90 rfl (lv_at hl 2 rfl) ?_
            have t_142 : At S_139 x 10 := hk_140.fr.at t_126
            refine k_v (rm := { frames := 2, cells := 0, slots := 0, locals := 96 }) (av := [.ref x]) X hw (va_runV (As := []) (rest := []) (cfix X) (k_X10_advance l G cy κ S_139 _ x hO_141.1 t_142) (cwV 0 X.2.2.2.1 gX10_readCondition_X10_advance rfl rfl rfl (by decide +kernel) ⟨Nat.le_of_ble_eq_true rfl, Nat.le_of_ble_eq_true rfl⟩) (pre_V X hw _ t_142 rfl (by decide) rfl) rfl rfl hl.1 rfl (lv_room (Nat.le_of_ble_eq_true rfl)) dX10_readCondition_91 ⟨Nat.le_of_ble_eq_true rfl, Nat.le_of_ble_eq_true rfl⟩) 0 0 (Nat.le_of_ble_eq_true rfl) (Nat.le_of_ble_eq_true rfl) (fun S_144 H locs hp hw hfr hnw => ?_)
            obtain ⟨hk_145, hp⟩ := hp
            have hO_146 : Ok eTX S S_144 := hO_141.call hk_145 (by decide +kernel)
            refine lv_iconst (v := 1) X.1 X.2.1 dX10_readCondition_94 (by decide) ?_
            exact ret_z X hw hr hlocks (Nat.le_of_ble_eq_true rfl) (Nat.le_of_ble_eq_true rfl) (by decide) ⟨hO_146, Or.inl ⟨trivial, rfl⟩⟩ dX10_readCondition_95
          · have z_b_147 := trivial
            have k_148 : v_127.toInt ≠ 2 := z_ne rfl ti_2 c_130
            refine lv_aload_n X.1 X.2.1 dX10_readCondition_74 rfl (lv_at hl 2 rfl) ?_
            refine lv_iconst (v := 1) X.1 X.2.1 dX10_readCondition_75 (by decide) ?_
            refine k_i (rm := { frames := 1, cells := 0, slots := 0, locals := 48 }) (av := [.ref x, .int 1]) X hw (va_runV (As := [.int 1]) (rest := []) (cfix X) (k_X10_fail l G cy κ S_123 _ x (1) (1) hO_125.1 t_126 ti_1) (cwV 1 X.2.2.2.1 gX10_readCondition_X10_fail rfl rfl rfl (by decide +kernel) ⟨Nat.le_of_ble_eq_true rfl, Nat.le_of_ble_eq_true rfl⟩) (pre_V X hw _ t_126 rfl (by decide) rfl) rfl rfl hl.1 rfl (lv_room (Nat.le_of_ble_eq_true rfl)) dX10_readCondition_76 ⟨Nat.le_of_ble_eq_true rfl, Nat.le_of_ble_eq_true rfl⟩) 0 0 (Nat.le_of_ble_eq_true rfl) (Nat.le_of_ble_eq_true rfl) (fun rr_149 S_150 H locs hp hw hfr hnw => ?_)
            obtain ⟨hk_151, hp⟩ := hp
            have hO_152 : Ok eTX S S_150 := hO_125.call hk_151 (by decide +kernel)
            rcases hp with ⟨f_153, er_154⟩ | ⟨f_153, er_154⟩ <;> subst er_154
            · have z_b_155 := trivial
              exact ret_z X hw hr hlocks (Nat.le_of_ble_eq_true rfl) (Nat.le_of_ble_eq_true rfl) (by decide) ⟨hO_152, Or.inl ⟨trivial, rfl⟩⟩ dX10_readCondition_79
            · have z_b_156 := trivial
              exact ret_z X hw hr hlocks (Nat.le_of_ble_eq_true rfl) (Nat.le_of_ble_eq_true rfl) (by decide) ⟨hO_152, Or.inr ⟨trivial, rfl⟩⟩ dX10_readCondition_79
        · have z_b_157 := trivial
          refine lv_if_ne (tgt := 53) X.1 X.2.1 dX10_readCondition_44 (by decide) (fun c_158 => absurd c_158 (by decide)) (fun c_158 => ?_)
          refine lv_aload_n X.1 X.2.1 dX10_readCondition_47 rfl (lv_at hl 1 rfl) ?_
          refine lv_iconst (v := 1) X.1 X.2.1 dX10_readCondition_48 (by decide) ?_
          refine k_i (rm := { frames := 1, cells := 0, slots := 0, locals := 48 }) (av := [.ref x, .int 1]) X hw (va_runV (As := [.int 1]) (rest := []) (cfix X) (k_X10_fail l G cy κ S_8 _ x (1) (1) hO_10.1 t_11 ti_1) (cwV 1 X.2.2.2.1 gX10_readCondition_X10_fail rfl rfl rfl (by decide +kernel) ⟨Nat.le_of_ble_eq_true rfl, Nat.le_of_ble_eq_true rfl⟩) (pre_V X hw _ t_11 rfl (by decide) rfl) rfl rfl hl.1 rfl (lv_room (Nat.le_of_ble_eq_true rfl)) dX10_readCondition_49 ⟨Nat.le_of_ble_eq_true rfl, Nat.le_of_ble_eq_true rfl⟩) 0 0 (Nat.le_of_ble_eq_true rfl) (Nat.le_of_ble_eq_true rfl) (fun rr_159 S_160 H locs hp hw hfr hnw => ?_)
          obtain ⟨hk_161, hp⟩ := hp
          have hO_162 : Ok eTX S S_160 := hO_10.call hk_161 (by decide +kernel)
          rcases hp with ⟨f_163, er_164⟩ | ⟨f_163, er_164⟩ <;> subst er_164
          · have z_b_165 := trivial
            exact ret_z X hw hr hlocks (Nat.le_of_ble_eq_true rfl) (Nat.le_of_ble_eq_true rfl) (by decide) ⟨hO_162, Or.inl ⟨trivial, rfl⟩⟩ dX10_readCondition_52
          · have z_b_166 := trivial
            exact ret_z X hw hr hlocks (Nat.le_of_ble_eq_true rfl) (Nat.le_of_ble_eq_true rfl) (by decide) ⟨hO_162, Or.inr ⟨trivial, rfl⟩⟩ dX10_readCondition_52
  · have z_b_167 := trivial
    have k_168 : rr_1.toInt = (-1) := z_eq rfl ti_m1 c_4
    refine lv_aload_n X.1 X.2.1 dX10_readCondition_10 rfl (lv_at hl 1 rfl) ?_
    refine lv_iconst (v := 1) X.1 X.2.1 dX10_readCondition_11 (by decide) ?_
    refine k_i (rm := { frames := 1, cells := 0, slots := 0, locals := 48 }) (av := [.ref x, .int 1]) X hw (va_runV (As := [.int 1]) (rest := []) (cfix X) (k_X10_fail l G cy κ S _ x (1) (1) hO.1 ha_x ti_1) (cwV 1 X.2.2.2.1 gX10_readCondition_X10_fail rfl rfl rfl (by decide +kernel) ⟨Nat.le_of_ble_eq_true rfl, Nat.le_of_ble_eq_true rfl⟩) (pre_V X hw _ ha_x rfl (by decide) rfl) rfl rfl hl.1 rfl (lv_room (Nat.le_of_ble_eq_true rfl)) dX10_readCondition_12 ⟨Nat.le_of_ble_eq_true rfl, Nat.le_of_ble_eq_true rfl⟩) 0 0 (Nat.le_of_ble_eq_true rfl) (Nat.le_of_ble_eq_true rfl) (fun rr_169 S_170 H locs hp hw hfr hnw => ?_)
    obtain ⟨hk_171, hp⟩ := hp
    have hO_172 : Ok eTX S S_170 := hO.call hk_171 (by decide +kernel)
    rcases hp with ⟨f_173, er_174⟩ | ⟨f_173, er_174⟩ <;> subst er_174
    · have z_b_175 := trivial
      exact ret_z X hw hr hlocks (Nat.le_of_ble_eq_true rfl) (Nat.le_of_ble_eq_true rfl) (by decide) ⟨hO_172, Or.inl ⟨trivial, rfl⟩⟩ dX10_readCondition_15
    · have z_b_176 := trivial
      exact ret_z X hw hr hlocks (Nat.le_of_ble_eq_true rfl) (Nat.le_of_ble_eq_true rfl) (by decide) ⟨hO_172, Or.inr ⟨trivial, rfl⟩⟩ dX10_readCondition_15
set_option maxHeartbeats 4000000 in
set_option maxRecDepth 100000 in
theorem k_X10_readConditions (l : Launch) (G : va_G) (cy : Nat → ClassId) (κ : Nat → Nat) (S : PS) (sz : Nat) (x : Nat) (r1 : Nat) (hG : GX S) (ha_x : At S x 10) (ha_r1 : At S r1 6) : Ci l yX10_readConditions wsX10_readConditions ({ frames := 8, cells := 0, slots := 0, locals := 384 }) G cy κ S sz [.ref x, .ref r1] (fun (r : Int32) (S9 : PS) => Ok eTX S S9 ∧ (((True) ∧ r = 1) ∨ ((True) ∧ r = 0))) := by
  refine ent_m (cc := cX10_readConditions) (maxL := 3) (ret := (some .boolean)) (by decide) rfl (Nat.le_of_ble_eq_true rfl) ?_
  intro p e s m below meth c ls X hr hlocks hin hw hl hsz
  subst hsz
  have X : Cx p c cX10_readConditions 3 s [.ref x, .ref r1].toArray wsX10_readConditions RX10 m G cy κ (AS S s.heap.size) := X
  have hl : lv_has ls 3 [(0, .ref x), (1, .ref r1)] := hl
  have hO : Ok eTX S S := Ok.rf hG
  generalize hQQ : MQ below _ _ _ _ _ _ = QQ
  replace hQQ := hQQ.symm
  refine lv_iconst (v := 0) X.1 X.2.1 dX10_readConditions_0 (by decide) ?_
  refine lv_istore_n (lv' := [(2, .int 0), (0, .ref x), (1, .ref r1)]) X.1 X.2.1 dX10_readConditions_1 rfl hl (by decide) rfl (fun ls hl => ?_)
  have L_1 : ∀ (n : Nat) (T_3 : PS) (H : Heap) (locs : List Loc) (ls : Array Slot) (i2_2 : Int32) (i2_2_z : Int), ((4 - i2_2_z).toNat = n) → (Wd G cy (AS S s.heap.size) s.heap T_3 H locs) → (i2_2.toInt = i2_2_z) → (0 ≤ i2_2_z ∧ i2_2_z ≤ 4) → (At T_3 r1 6) → (At T_3 x 10) → (Ok eTX S T_3) → (lv_has ls 3 [(2, .int (i2_2)), (0, .ref x), (1, .ref r1)]) → W p l e ({ frames := 8, cells := 0, slots := 0, locals := 384 }) s m [.ref x, .ref r1].toArray below meth c H locs 0 0 QQ (F0 m 2 ls []) := by
    intro n
    induction n using Nat.strongRecOn with
    | ind n ih =>
    intro T_3 H locs ls i2_2 i2_2_z hn hw hz_i2_2 hr_i2_2 ha_r1_L_4 ha_x_L_5 hO_T_3 hl
    have rg_6 : (-2147483648) ≤ i2_2_z ∧ i2_2_z ≤ 2147483647 := by rw [← hz_i2_2]; exact ⟨z_lo _, z_hi _⟩
    refine lv_iload_n X.1 X.2.1 dX10_readConditions_2 rfl (lv_at hl 0 rfl) ?_
    refine lv_iconst (v := 4) X.1 X.2.1 dX10_readConditions_3 (by decide) ?_
    refine lv_icmp_ge (tgt := 57) X.1 X.2.1 dX10_readConditions_4 (by decide) (fun c_7 => ?_) (fun c_7 => ?_)
    · have z_b_8 := trivial
      have k_9 : i2_2_z ≥ 4 := z_le ti_4 hz_i2_2 c_7
      refine lv_aload_n X.1 X.2.1 dX10_readConditions_57 rfl (lv_at hl 1 rfl) ?_
      refine lv_aload_n X.1 X.2.1 dX10_readConditions_58 rfl (lv_at hl 1 rfl) ?_
      refine k_i (rm := { frames := 6, cells := 0, slots := 0, locals := 288 }) (av := [.ref x]) X hw (va_runV (As := []) (rest := [.ref x]) (cfix X) (k_X10_fieldAtHand l G cy κ T_3 _ x hO_T_3.1 ha_x_L_5) (cwV 0 X.2.2.2.1 gX10_readConditions_X10_fieldAtHand rfl rfl rfl (by decide +kernel) ⟨Nat.le_of_ble_eq_true rfl, Nat.le_of_ble_eq_true rfl⟩) (pre_V X hw _ ha_x_L_5 rfl (by decide) rfl) rfl rfl hl.1 rfl (lv_room (Nat.le_of_ble_eq_true rfl)) dX10_readConditions_59 ⟨Nat.le_of_ble_eq_true rfl, Nat.le_of_ble_eq_true rfl⟩) 0 0 (Nat.le_of_ble_eq_true rfl) (Nat.le_of_ble_eq_true rfl) (fun rr_10 S_11 H locs hp hw hfr hnw => ?_)
      obtain ⟨e2, hp⟩ := hp
      subst e2
      have rg_12 := And.intro (z_lo rr_10) (z_hi rr_10)
      refine lv_iconst (v := (-1)) X.1 X.2.1 dX10_readConditions_62 (by decide) ?_
      refine lv_icmp_ne (tgt := 70) X.1 X.2.1 dX10_readConditions_63 (by decide) (fun c_13 => ?_) (fun c_13 => ?_)
      · have z_b_14 := trivial
        have k_15 : rr_10.toInt ≠ (-1) := z_ne rfl ti_m1 c_13
        refine lv_iconst (v := 2) X.1 X.2.1 dX10_readConditions_70 (by decide) ?_
        refine k_i (rm := { frames := 1, cells := 0, slots := 0, locals := 48 }) (av := [.ref x, .int 2]) X hw (va_runV (As := [.int 2]) (rest := []) (cfix X) (k_X10_fail l G cy κ T_3 _ x (2) (2) hO_T_3.1 ha_x_L_5 ti_2) (cwV 1 X.2.2.2.1 gX10_readConditions_X10_fail rfl rfl rfl (by decide +kernel) ⟨Nat.le_of_ble_eq_true rfl, Nat.le_of_ble_eq_true rfl⟩) (pre_V X hw _ ha_x_L_5 rfl (by decide) rfl) rfl rfl hl.1 rfl (lv_room (Nat.le_of_ble_eq_true rfl)) dX10_readConditions_71 ⟨Nat.le_of_ble_eq_true rfl, Nat.le_of_ble_eq_true rfl⟩) 0 0 (Nat.le_of_ble_eq_true rfl) (Nat.le_of_ble_eq_true rfl) (fun rr_16 S_17 H locs hp hw hfr hnw => ?_)
        obtain ⟨hk_18, hp⟩ := hp
        have hO_19 : Ok eTX S S_17 := hO_T_3.call hk_18 (by decide +kernel)
        rcases hp with ⟨f_20, er_21⟩ | ⟨f_20, er_21⟩ <;> subst er_21
        · have z_b_22 := trivial
          rw [hQQ]
          exact ret_z X hw hr hlocks (Nat.le_of_ble_eq_true rfl) (Nat.le_of_ble_eq_true rfl) (by decide) ⟨hO_19, Or.inl ⟨trivial, rfl⟩⟩ dX10_readConditions_74
        · have z_b_23 := trivial
          rw [hQQ]
          exact ret_z X hw hr hlocks (Nat.le_of_ble_eq_true rfl) (Nat.le_of_ble_eq_true rfl) (by decide) ⟨hO_19, Or.inr ⟨trivial, rfl⟩⟩ dX10_readConditions_74
      · have z_b_24 := trivial
        have k_25 : rr_10.toInt = (-1) := z_eq rfl ti_m1 c_13
        refine lv_iconst (v := 1) X.1 X.2.1 dX10_readConditions_66 (by decide) ?_
        refine lv_goto (tgt := 71) X.1 X.2.1 dX10_readConditions_67 (by decide) ?_
        refine k_i (rm := { frames := 1, cells := 0, slots := 0, locals := 48 }) (av := [.ref x, .int 1]) X hw (va_runV (As := [.int 1]) (rest := []) (cfix X) (k_X10_fail l G cy κ T_3 _ x (1) (1) hO_T_3.1 ha_x_L_5 ti_1) (cwV 1 X.2.2.2.1 gX10_readConditions_X10_fail rfl rfl rfl (by decide +kernel) ⟨Nat.le_of_ble_eq_true rfl, Nat.le_of_ble_eq_true rfl⟩) (pre_V X hw _ ha_x_L_5 rfl (by decide) rfl) rfl rfl hl.1 rfl (lv_room (Nat.le_of_ble_eq_true rfl)) dX10_readConditions_71 ⟨Nat.le_of_ble_eq_true rfl, Nat.le_of_ble_eq_true rfl⟩) 0 0 (Nat.le_of_ble_eq_true rfl) (Nat.le_of_ble_eq_true rfl) (fun rr_26 S_27 H locs hp hw hfr hnw => ?_)
        obtain ⟨hk_28, hp⟩ := hp
        have hO_29 : Ok eTX S S_27 := hO_T_3.call hk_28 (by decide +kernel)
        rcases hp with ⟨f_30, er_31⟩ | ⟨f_30, er_31⟩ <;> subst er_31
        · have z_b_32 := trivial
          rw [hQQ]
          exact ret_z X hw hr hlocks (Nat.le_of_ble_eq_true rfl) (Nat.le_of_ble_eq_true rfl) (by decide) ⟨hO_29, Or.inl ⟨trivial, rfl⟩⟩ dX10_readConditions_74
        · have z_b_33 := trivial
          rw [hQQ]
          exact ret_z X hw hr hlocks (Nat.le_of_ble_eq_true rfl) (Nat.le_of_ble_eq_true rfl) (by decide) ⟨hO_29, Or.inr ⟨trivial, rfl⟩⟩ dX10_readConditions_74
    · have z_b_34 := trivial
      have k_35 : i2_2_z < 4 := z_nle ti_4 hz_i2_2 c_7
      refine lv_aload_n X.1 X.2.1 dX10_readConditions_7 rfl (lv_at hl 1 rfl) ?_
      refine lv_aload_n X.1 X.2.1 dX10_readConditions_8 rfl (lv_at hl 2 rfl) ?_
      refine k_i (rm := { frames := 7, cells := 0, slots := 0, locals := 336 }) (av := [.ref x, .ref r1]) X hw (va_runV (As := [.ref r1]) (rest := []) (cfix X) (k_X10_readCondition l G cy κ T_3 _ x r1 hO_T_3.1 ha_x_L_5 ha_r1_L_4) (cwV 1 X.2.2.2.1 gX10_readConditions_X10_readCondition rfl rfl rfl (by decide +kernel) ⟨Nat.le_of_ble_eq_true rfl, Nat.le_of_ble_eq_true rfl⟩) (pre_V X hw _ ha_x_L_5 rfl (by decide) rfl) rfl rfl hl.1 rfl (lv_room (Nat.le_of_ble_eq_true rfl)) dX10_readConditions_9 ⟨Nat.le_of_ble_eq_true rfl, Nat.le_of_ble_eq_true rfl⟩) 0 0 (Nat.le_of_ble_eq_true rfl) (Nat.le_of_ble_eq_true rfl) (fun rr_36 S_37 H locs hp hw hfr hnw => ?_)
      obtain ⟨hk_38, hp⟩ := hp
      have hO_39 : Ok eTX S S_37 := hO_T_3.call hk_38 (by decide +kernel)
      rcases hp with ⟨f_40, er_41⟩ | ⟨f_40, er_41⟩ <;> subst er_41
      · have z_b_42 := trivial
        refine lv_if_ne (tgt := 17) X.1 X.2.1 dX10_readConditions_12 (by decide) (fun c_43 => ?_) (fun c_43 => absurd c_43 (by decide))
        refine lv_aload_n X.1 X.2.1 dX10_readConditions_17 rfl (lv_at hl 1 rfl) ?_
        refine lv_bipush (v := 58) X.1 X.2.1 dX10_readConditions_18 (by decide) ?_
        have t_44 : At S_37 x 10 := hk_38.fr.at ha_x_L_5
        refine k_i (rm := { frames := 2, cells := 0, slots := 0, locals := 96 }) (av := [.ref x, .int 58]) X hw (va_runV (As := [.int 58]) (rest := []) (cfix X) (k_X10_isSign l G cy κ S_37 _ x (58) (58) hO_39.1 t_44 ti_58) (cwV 1 X.2.2.2.1 gX10_readConditions_X10_isSign rfl rfl rfl (by decide +kernel) ⟨Nat.le_of_ble_eq_true rfl, Nat.le_of_ble_eq_true rfl⟩) (pre_V X hw _ t_44 rfl (by decide) rfl) rfl rfl hl.1 rfl (lv_room (Nat.le_of_ble_eq_true rfl)) dX10_readConditions_20 ⟨Nat.le_of_ble_eq_true rfl, Nat.le_of_ble_eq_true rfl⟩) 0 0 (Nat.le_of_ble_eq_true rfl) (Nat.le_of_ble_eq_true rfl) (fun rr_45 S_46 H locs hp hw hfr hnw => ?_)
        obtain ⟨e2, hp⟩ := hp
        subst e2
        rcases hp with ⟨f_47, er_48⟩ | ⟨f_47, er_48⟩ <;> subst er_48
        · have z_b_49 := trivial
          refine lv_if_eq (tgt := 32) X.1 X.2.1 dX10_readConditions_23 (by decide) (fun c_50 => absurd c_50 (by decide)) (fun c_50 => ?_)
          refine lv_aload_n X.1 X.2.1 dX10_readConditions_26 rfl (lv_at hl 1 rfl) ?_
          refine k_v (rm := { frames := 2, cells := 0, slots := 0, locals := 96 }) (av := [.ref x]) X hw (va_runV (As := []) (rest := []) (cfix X) (k_X10_advance l G cy κ S_37 _ x hO_39.1 t_44) (cwV 0 X.2.2.2.1 gX10_readConditions_X10_advance rfl rfl rfl (by decide +kernel) ⟨Nat.le_of_ble_eq_true rfl, Nat.le_of_ble_eq_true rfl⟩) (pre_V X hw _ t_44 rfl (by decide) rfl) rfl rfl hl.1 rfl (lv_room (Nat.le_of_ble_eq_true rfl)) dX10_readConditions_27 ⟨Nat.le_of_ble_eq_true rfl, Nat.le_of_ble_eq_true rfl⟩) 0 0 (Nat.le_of_ble_eq_true rfl) (Nat.le_of_ble_eq_true rfl) (fun S_52 H locs hp hw hfr hnw => ?_)
          obtain ⟨hk_53, hp⟩ := hp
          have hO_54 : Ok eTX S S_52 := hO_39.call hk_53 (by decide +kernel)
          refine lv_iconst (v := 1) X.1 X.2.1 dX10_readConditions_30 (by decide) ?_
          rw [hQQ]
          exact ret_z X hw hr hlocks (Nat.le_of_ble_eq_true rfl) (Nat.le_of_ble_eq_true rfl) (by decide) ⟨hO_54, Or.inl ⟨trivial, rfl⟩⟩ dX10_readConditions_31
        · have z_b_55 := trivial
          refine lv_if_eq (tgt := 32) X.1 X.2.1 dX10_readConditions_23 (by decide) (fun c_56 => ?_) (fun c_56 => absurd c_56 (by decide))
          refine lv_aload_n X.1 X.2.1 dX10_readConditions_32 rfl (lv_at hl 1 rfl) ?_
          refine va_ldcS (q := κ (100 + 3)) X.1 X.2.1 X.2.2.2.2.1 (show vk_R RX10 74 "and" (κ (100 + 3)) s from (X.2.2.2.2.2.2.2.2.2.2.2.2.2.2 3 (by decide)).1) dX10_readConditions_33 ?_
          refine k_i (rm := { frames := 5, cells := 0, slots := 0, locals := 240 }) (av := [.ref x, .ref (κ (100 + 3))]) X hw (va_runV (As := [.ref (κ (100 + 3))]) (rest := []) (cfix X) (k_X10_isWord l G cy κ S_37 _ x 3 hO_39.1 t_44 (by decide)) (cwV 1 X.2.2.2.1 gX10_readConditions_X10_isWord rfl rfl rfl (by decide +kernel) ⟨Nat.le_of_ble_eq_true rfl, Nat.le_of_ble_eq_true rfl⟩) (pre_V X hw _ t_44 rfl (by decide) rfl) rfl rfl hl.1 rfl (lv_room (Nat.le_of_ble_eq_true rfl)) dX10_readConditions_35 ⟨Nat.le_of_ble_eq_true rfl, Nat.le_of_ble_eq_true rfl⟩) 0 0 (Nat.le_of_ble_eq_true rfl) (Nat.le_of_ble_eq_true rfl) (fun rr_57 S_58 H locs hp hw hfr hnw => ?_)
          obtain ⟨e2, hp⟩ := hp
          subst e2
          rcases hp with ⟨f_59, er_60⟩ | ⟨f_59, er_60⟩ <;> subst er_60
          · have z_b_61 := trivial
            refine lv_if_ne (tgt := 47) X.1 X.2.1 dX10_readConditions_38 (by decide) (fun c_62 => ?_) (fun c_62 => absurd c_62 (by decide))
            refine lv_aload_n X.1 X.2.1 dX10_readConditions_47 rfl (lv_at hl 1 rfl) ?_
            refine k_v (rm := { frames := 2, cells := 0, slots := 0, locals := 96 }) (av := [.ref x]) X hw (va_runV (As := []) (rest := []) (cfix X) (k_X10_advance l G cy κ S_37 _ x hO_39.1 t_44) (cwV 0 X.2.2.2.1 gX10_readConditions_X10_advance rfl rfl rfl (by decide +kernel) ⟨Nat.le_of_ble_eq_true rfl, Nat.le_of_ble_eq_true rfl⟩) (pre_V X hw _ t_44 rfl (by decide) rfl) rfl rfl hl.1 rfl (lv_room (Nat.le_of_ble_eq_true rfl)) dX10_readConditions_48 ⟨Nat.le_of_ble_eq_true rfl, Nat.le_of_ble_eq_true rfl⟩) 0 0 (Nat.le_of_ble_eq_true rfl) (Nat.le_of_ble_eq_true rfl) (fun S_64 H locs hp hw hfr hnw => ?_)
            obtain ⟨hk_65, hp⟩ := hp
            have hO_66 : Ok eTX S S_64 := hO_39.call hk_65 (by decide +kernel)
            obtain ⟨x_67, ex_67⟩ : ∃ y : Int32, y = i2_2 + 1 := ⟨_, rfl⟩
            have z_68 : x_67.toInt = i2_2_z + 1 := z_add ex_67 hz_i2_2 ti_1 (by omega) (by omega)
            refine lv_iinc (v := x_67) (lv' := [(2, .int (x_67)), (0, .ref x), (1, .ref r1)]) X.1 X.2.1 dX10_readConditions_51 hl (k := 0) rfl (by rw [ex_67]; rfl) (by decide) rfl (fun ls hl => ?_)
            refine lv_goto (tgt := 2) X.1 X.2.1 dX10_readConditions_54 (by decide) ?_
            have t_69 : At S_37 r1 6 := hk_38.fr.at ha_r1_L_4
            have t_70 : At S_64 r1 6 := hk_65.fr.at t_69
            have t_71 : At S_64 x 10 := hk_65.fr.at t_44
            exact ih _ (by omega) _ _ _ _ (x_67) (x_67.toInt) rfl hw rfl (by omega) t_70 t_71 hO_66 (lv_sub hl [0, 1, 2] rfl)
          · have z_b_72 := trivial
            refine lv_if_ne (tgt := 47) X.1 X.2.1 dX10_readConditions_38 (by decide) (fun c_73 => absurd c_73 (by decide)) (fun c_73 => ?_)
            refine lv_aload_n X.1 X.2.1 dX10_readConditions_41 rfl (lv_at hl 1 rfl) ?_
            refine lv_iconst (v := 1) X.1 X.2.1 dX10_readConditions_42 (by decide) ?_
            refine k_i (rm := { frames := 1, cells := 0, slots := 0, locals := 48 }) (av := [.ref x, .int 1]) X hw (va_runV (As := [.int 1]) (rest := []) (cfix X) (k_X10_fail l G cy κ S_37 _ x (1) (1) hO_39.1 t_44 ti_1) (cwV 1 X.2.2.2.1 gX10_readConditions_X10_fail rfl rfl rfl (by decide +kernel) ⟨Nat.le_of_ble_eq_true rfl, Nat.le_of_ble_eq_true rfl⟩) (pre_V X hw _ t_44 rfl (by decide) rfl) rfl rfl hl.1 rfl (lv_room (Nat.le_of_ble_eq_true rfl)) dX10_readConditions_43 ⟨Nat.le_of_ble_eq_true rfl, Nat.le_of_ble_eq_true rfl⟩) 0 0 (Nat.le_of_ble_eq_true rfl) (Nat.le_of_ble_eq_true rfl) (fun rr_74 S_75 H locs hp hw hfr hnw => ?_)
            obtain ⟨hk_76, hp⟩ := hp
            have hO_77 : Ok eTX S S_75 := hO_39.call hk_76 (by decide +kernel)
            rcases hp with ⟨f_78, er_79⟩ | ⟨f_78, er_79⟩ <;> subst er_79
            · have z_b_80 := trivial
              rw [hQQ]
              exact ret_z X hw hr hlocks (Nat.le_of_ble_eq_true rfl) (Nat.le_of_ble_eq_true rfl) (by decide) ⟨hO_77, Or.inl ⟨trivial, rfl⟩⟩ dX10_readConditions_46
            · have z_b_81 := trivial
              rw [hQQ]
              exact ret_z X hw hr hlocks (Nat.le_of_ble_eq_true rfl) (Nat.le_of_ble_eq_true rfl) (by decide) ⟨hO_77, Or.inr ⟨trivial, rfl⟩⟩ dX10_readConditions_46
      · have z_b_82 := trivial
        refine lv_if_ne (tgt := 17) X.1 X.2.1 dX10_readConditions_12 (by decide) (fun c_83 => absurd c_83 (by decide)) (fun c_83 => ?_)
        refine lv_iconst (v := 0) X.1 X.2.1 dX10_readConditions_15 (by decide) ?_
        rw [hQQ]
        exact ret_z X hw hr hlocks (Nat.le_of_ble_eq_true rfl) (Nat.le_of_ble_eq_true rfl) (by decide) ⟨hO_39, Or.inr ⟨trivial, rfl⟩⟩ dX10_readConditions_16
  exact L_1 _ _ _ _ _ (0) (0) rfl hw ti_0 (by omega) ha_r1 ha_x hO (lv_sub hl [0, 1, 2] rfl)
set_option maxHeartbeats 4000000 in
set_option maxRecDepth 100000 in
theorem k_X10_readRule (l : Launch) (G : va_G) (cy : Nat → ClassId) (κ : Nat → Nat) (S : PS) (sz : Nat) (x : Nat) (r1 : Nat) (hG : GX S) (ha_x : At S x 10) (ha_r1 : At S r1 6) : Ci l yX10_readRule wsX10_readRule ({ frames := 9, cells := 0, slots := 0, locals := 432 }) G cy κ S sz [.ref x, .ref r1] (fun (r : Int32) (S9 : PS) => Ok eTX S S9 ∧ (((True) ∧ r = 1) ∨ ((True) ∧ r = 0))) := by
  refine ent_m (cc := cX10_readRule) (maxL := 3) (ret := (some .boolean)) (by decide) rfl (Nat.le_of_ble_eq_true rfl) ?_
  intro p e s m below meth c ls X hr hlocks hin hw hl hsz
  subst hsz
  have X : Cx p c cX10_readRule 3 s [.ref x, .ref r1].toArray wsX10_readRule RX10 m G cy κ (AS S s.heap.size) := X
  have hl : lv_has ls 3 [(0, .ref x), (1, .ref r1)] := hl
  have hO : Ok eTX S S := Ok.rf hG
  refine lv_aload_n X.1 X.2.1 dX10_readRule_0 rfl (lv_at hl 0 rfl) ?_
  refine va_ldcS (q := κ (100 + 2)) X.1 X.2.1 X.2.2.2.2.1 (show vk_R RX10 44 "if" (κ (100 + 2)) s from (X.2.2.2.2.2.2.2.2.2.2.2.2.2.2 2 (by decide)).1) dX10_readRule_1 ?_
  refine k_i (rm := { frames := 5, cells := 0, slots := 0, locals := 240 }) (av := [.ref x, .ref (κ (100 + 2))]) X hw (va_runV (As := [.ref (κ (100 + 2))]) (rest := []) (cfix X) (k_X10_isWord l G cy κ S _ x 2 hO.1 ha_x (by decide)) (cwV 1 X.2.2.2.1 gX10_readRule_X10_isWord rfl rfl rfl (by decide +kernel) ⟨Nat.le_of_ble_eq_true rfl, Nat.le_of_ble_eq_true rfl⟩) (pre_V X hw _ ha_x rfl (by decide) rfl) rfl rfl hl.1 rfl (lv_room (Nat.le_of_ble_eq_true rfl)) dX10_readRule_3 ⟨Nat.le_of_ble_eq_true rfl, Nat.le_of_ble_eq_true rfl⟩) 0 0 (Nat.le_of_ble_eq_true rfl) (Nat.le_of_ble_eq_true rfl) (fun rr_1 S_2 H locs hp hw hfr hnw => ?_)
  obtain ⟨e2, hp⟩ := hp
  subst e2
  rcases hp with ⟨f_3, er_4⟩ | ⟨f_3, er_4⟩ <;> subst er_4
  · have z_b_5 := trivial
    refine lv_istore_n (lv' := [(2, .int 1), (0, .ref x), (1, .ref r1)]) X.1 X.2.1 dX10_readRule_6 rfl hl (by decide) rfl (fun ls hl => ?_)
    refine lv_iload_n X.1 X.2.1 dX10_readRule_7 rfl (lv_at hl 0 rfl) ?_
    refine lv_if_ne (tgt := 25) X.1 X.2.1 dX10_readRule_8 (by decide) (fun c_6 => ?_) (fun c_6 => absurd c_6 (by decide))
    refine lv_aload_n X.1 X.2.1 dX10_readRule_25 rfl (lv_at hl 2 rfl) ?_
    obtain ⟨v_7, ev_7⟩ : ∃ v, pI S 600 r1 = v := ⟨_, rfl⟩
    have rg_8 := gI_6_600 hO.1 ha_r1; rw [ev_7] at rg_8
    refine r_getI (g := 600) (x := v_7) X hw ha_r1 rfl 0 ev_7 (by decide) rfl inn_X10_readRule_6 (by decide) (X.2.2.2.1 (.fieldLink RX10 28 "SilkMill$Rules" "size" "I") (by decide +kernel)) rfl (gv_600 _ _) dX10_readRule_26 ?_
    refine lv_bipush (v := 12) X.1 X.2.1 dX10_readRule_29 (by decide) ?_
    refine lv_icmp_lt (tgt := 40) X.1 X.2.1 dX10_readRule_31 (by decide) (fun c_9 => ?_) (fun c_9 => ?_)
    · have z_b_10 := trivial
      have k_11 : v_7.toInt < 12 := z_lt rfl ti_12 c_9
      refine lv_aload_n X.1 X.2.1 dX10_readRule_40 rfl (lv_at hl 2 rfl) ?_
      refine k_v (rm := { frames := 1, cells := 0, slots := 0, locals := 48 }) (av := [.ref r1]) X hw (va_runV (As := []) (rest := []) (cfix X) (k_X6_openRule l G cy κ S _ r1 hO.1 ha_r1) (cwV 0 X.2.2.2.1 gX10_readRule_X6_openRule rfl rfl rfl (by decide +kernel) ⟨Nat.le_of_ble_eq_true rfl, Nat.le_of_ble_eq_true rfl⟩) (pre_V X hw _ ha_r1 rfl (by decide) rfl) rfl rfl hl.1 rfl (lv_room (Nat.le_of_ble_eq_true rfl)) dX10_readRule_41 ⟨Nat.le_of_ble_eq_true rfl, Nat.le_of_ble_eq_true rfl⟩) 0 0 (Nat.le_of_ble_eq_true rfl) (Nat.le_of_ble_eq_true rfl) (fun S_13 H locs hp hw hfr hnw => ?_)
      obtain ⟨hk_14, hp⟩ := hp
      have hO_15 : Ok eTX S S_13 := hO.call hk_14 (by decide +kernel)
      refine lv_iload_n X.1 X.2.1 dX10_readRule_44 rfl (lv_at hl 0 rfl) ?_
      refine lv_if_eq (tgt := 62) X.1 X.2.1 dX10_readRule_45 (by decide) (fun c_16 => absurd c_16 (by decide)) (fun c_16 => ?_)
      refine lv_aload_n X.1 X.2.1 dX10_readRule_48 rfl (lv_at hl 1 rfl) ?_
      have t_17 : At S_13 x 10 := hk_14.fr.at ha_x
      refine k_v (rm := { frames := 2, cells := 0, slots := 0, locals := 96 }) (av := [.ref x]) X hw (va_runV (As := []) (rest := []) (cfix X) (k_X10_advance l G cy κ S_13 _ x hO_15.1 t_17) (cwV 0 X.2.2.2.1 gX10_readRule_X10_advance rfl rfl rfl (by decide +kernel) ⟨Nat.le_of_ble_eq_true rfl, Nat.le_of_ble_eq_true rfl⟩) (pre_V X hw _ t_17 rfl (by decide) rfl) rfl rfl hl.1 rfl (lv_room (Nat.le_of_ble_eq_true rfl)) dX10_readRule_49 ⟨Nat.le_of_ble_eq_true rfl, Nat.le_of_ble_eq_true rfl⟩) 0 0 (Nat.le_of_ble_eq_true rfl) (Nat.le_of_ble_eq_true rfl) (fun S_19 H locs hp hw hfr hnw => ?_)
      obtain ⟨hk_20, hp⟩ := hp
      have hO_21 : Ok eTX S S_19 := hO_15.call hk_20 (by decide +kernel)
      refine lv_aload_n X.1 X.2.1 dX10_readRule_52 rfl (lv_at hl 1 rfl) ?_
      refine lv_aload_n X.1 X.2.1 dX10_readRule_53 rfl (lv_at hl 2 rfl) ?_
      have t_22 : At S_19 x 10 := hk_20.fr.at t_17
      have t_23 : At S_13 r1 6 := hk_14.fr.at ha_r1
      have t_24 : At S_19 r1 6 := hk_20.fr.at t_23
      refine k_i (rm := { frames := 8, cells := 0, slots := 0, locals := 384 }) (av := [.ref x, .ref r1]) X hw (va_runV (As := [.ref r1]) (rest := []) (cfix X) (k_X10_readConditions l G cy κ S_19 _ x r1 hO_21.1 t_22 t_24) (cwV 1 X.2.2.2.1 gX10_readRule_X10_readConditions rfl rfl rfl (by decide +kernel) ⟨Nat.le_of_ble_eq_true rfl, Nat.le_of_ble_eq_true rfl⟩) (pre_V X hw _ t_22 rfl (by decide) rfl) rfl rfl hl.1 rfl (lv_room (Nat.le_of_ble_eq_true rfl)) dX10_readRule_54 ⟨Nat.le_of_ble_eq_true rfl, Nat.le_of_ble_eq_true rfl⟩) 0 0 (Nat.le_of_ble_eq_true rfl) (Nat.le_of_ble_eq_true rfl) (fun rr_25 S_26 H locs hp hw hfr hnw => ?_)
      obtain ⟨hk_27, hp⟩ := hp
      have hO_28 : Ok eTX S S_26 := hO_21.call hk_27 (by decide +kernel)
      rcases hp with ⟨f_29, er_30⟩ | ⟨f_29, er_30⟩ <;> subst er_30
      · have z_b_31 := trivial
        refine lv_if_ne (tgt := 62) X.1 X.2.1 dX10_readRule_57 (by decide) (fun c_32 => ?_) (fun c_32 => absurd c_32 (by decide))
        refine lv_aload_n X.1 X.2.1 dX10_readRule_62 rfl (lv_at hl 1 rfl) ?_
        refine lv_aload_n X.1 X.2.1 dX10_readRule_63 rfl (lv_at hl 2 rfl) ?_
        have t_33 : At S_26 x 10 := hk_27.fr.at t_22
        have t_34 : At S_26 r1 6 := hk_27.fr.at t_24
        refine k_i (rm := { frames := 7, cells := 0, slots := 0, locals := 336 }) (av := [.ref x, .ref r1]) X hw (va_runV (As := [.ref r1]) (rest := []) (cfix X) (k_X10_readAct l G cy κ S_26 _ x r1 hO_28.1 t_33 t_34) (cwV 1 X.2.2.2.1 gX10_readRule_X10_readAct rfl rfl rfl (by decide +kernel) ⟨Nat.le_of_ble_eq_true rfl, Nat.le_of_ble_eq_true rfl⟩) (pre_V X hw _ t_33 rfl (by decide) rfl) rfl rfl hl.1 rfl (lv_room (Nat.le_of_ble_eq_true rfl)) dX10_readRule_64 ⟨Nat.le_of_ble_eq_true rfl, Nat.le_of_ble_eq_true rfl⟩) 0 0 (Nat.le_of_ble_eq_true rfl) (Nat.le_of_ble_eq_true rfl) (fun rr_35 S_36 H locs hp hw hfr hnw => ?_)
        obtain ⟨hk_37, hp⟩ := hp
        have hO_38 : Ok eTX S S_36 := hO_28.call hk_37 (by decide +kernel)
        rcases hp with ⟨f_39, er_40⟩ | ⟨f_39, er_40⟩ <;> subst er_40
        · have z_b_41 := trivial
          exact ret_z X hw hr hlocks (Nat.le_of_ble_eq_true rfl) (Nat.le_of_ble_eq_true rfl) (by decide) ⟨hO_38, Or.inl ⟨trivial, rfl⟩⟩ dX10_readRule_67
        · have z_b_42 := trivial
          exact ret_z X hw hr hlocks (Nat.le_of_ble_eq_true rfl) (Nat.le_of_ble_eq_true rfl) (by decide) ⟨hO_38, Or.inr ⟨trivial, rfl⟩⟩ dX10_readRule_67
      · have z_b_43 := trivial
        refine lv_if_ne (tgt := 62) X.1 X.2.1 dX10_readRule_57 (by decide) (fun c_44 => absurd c_44 (by decide)) (fun c_44 => ?_)
        refine lv_iconst (v := 0) X.1 X.2.1 dX10_readRule_60 (by decide) ?_
        exact ret_z X hw hr hlocks (Nat.le_of_ble_eq_true rfl) (Nat.le_of_ble_eq_true rfl) (by decide) ⟨hO_28, Or.inr ⟨trivial, rfl⟩⟩ dX10_readRule_61
    · have z_b_45 := trivial
      have k_46 : v_7.toInt ≥ 12 := z_nlt rfl ti_12 c_9
      refine lv_aload_n X.1 X.2.1 dX10_readRule_34 rfl (lv_at hl 1 rfl) ?_
      refine lv_iconst (v := 2) X.1 X.2.1 dX10_readRule_35 (by decide) ?_
      refine k_i (rm := { frames := 1, cells := 0, slots := 0, locals := 48 }) (av := [.ref x, .int 2]) X hw (va_runV (As := [.int 2]) (rest := []) (cfix X) (k_X10_fail l G cy κ S _ x (2) (2) hO.1 ha_x ti_2) (cwV 1 X.2.2.2.1 gX10_readRule_X10_fail rfl rfl rfl (by decide +kernel) ⟨Nat.le_of_ble_eq_true rfl, Nat.le_of_ble_eq_true rfl⟩) (pre_V X hw _ ha_x rfl (by decide) rfl) rfl rfl hl.1 rfl (lv_room (Nat.le_of_ble_eq_true rfl)) dX10_readRule_36 ⟨Nat.le_of_ble_eq_true rfl, Nat.le_of_ble_eq_true rfl⟩) 0 0 (Nat.le_of_ble_eq_true rfl) (Nat.le_of_ble_eq_true rfl) (fun rr_47 S_48 H locs hp hw hfr hnw => ?_)
      obtain ⟨hk_49, hp⟩ := hp
      have hO_50 : Ok eTX S S_48 := hO.call hk_49 (by decide +kernel)
      rcases hp with ⟨f_51, er_52⟩ | ⟨f_51, er_52⟩ <;> subst er_52
      · have z_b_53 := trivial
        exact ret_z X hw hr hlocks (Nat.le_of_ble_eq_true rfl) (Nat.le_of_ble_eq_true rfl) (by decide) ⟨hO_50, Or.inl ⟨trivial, rfl⟩⟩ dX10_readRule_39
      · have z_b_54 := trivial
        exact ret_z X hw hr hlocks (Nat.le_of_ble_eq_true rfl) (Nat.le_of_ble_eq_true rfl) (by decide) ⟨hO_50, Or.inr ⟨trivial, rfl⟩⟩ dX10_readRule_39
  · have z_b_55 := trivial
    refine lv_istore_n (lv' := [(2, .int 0), (0, .ref x), (1, .ref r1)]) X.1 X.2.1 dX10_readRule_6 rfl hl (by decide) rfl (fun ls hl => ?_)
    refine lv_iload_n X.1 X.2.1 dX10_readRule_7 rfl (lv_at hl 0 rfl) ?_
    refine lv_if_ne (tgt := 25) X.1 X.2.1 dX10_readRule_8 (by decide) (fun c_56 => absurd c_56 (by decide)) (fun c_56 => ?_)
    refine lv_aload_n X.1 X.2.1 dX10_readRule_11 rfl (lv_at hl 1 rfl) ?_
    refine k_i (rm := { frames := 6, cells := 0, slots := 0, locals := 288 }) (av := [.ref x]) X hw (va_runV (As := []) (rest := []) (cfix X) (k_X10_actAtHand l G cy κ S _ x hO.1 ha_x) (cwV 0 X.2.2.2.1 gX10_readRule_X10_actAtHand rfl rfl rfl (by decide +kernel) ⟨Nat.le_of_ble_eq_true rfl, Nat.le_of_ble_eq_true rfl⟩) (pre_V X hw _ ha_x rfl (by decide) rfl) rfl rfl hl.1 rfl (lv_room (Nat.le_of_ble_eq_true rfl)) dX10_readRule_12 ⟨Nat.le_of_ble_eq_true rfl, Nat.le_of_ble_eq_true rfl⟩) 0 0 (Nat.le_of_ble_eq_true rfl) (Nat.le_of_ble_eq_true rfl) (fun rr_57 S_58 H locs hp hw hfr hnw => ?_)
    obtain ⟨e2, hp⟩ := hp
    subst e2
    have rg_59 := And.intro (z_lo rr_57) (z_hi rr_57)
    refine lv_iconst (v := (-1)) X.1 X.2.1 dX10_readRule_15 (by decide) ?_
    refine lv_icmp_ne (tgt := 25) X.1 X.2.1 dX10_readRule_16 (by decide) (fun c_60 => ?_) (fun c_60 => ?_)
    · have z_b_61 := trivial
      have k_62 : rr_57.toInt ≠ (-1) := z_ne rfl ti_m1 c_60
      refine lv_aload_n X.1 X.2.1 dX10_readRule_25 rfl (lv_at hl 2 rfl) ?_
      obtain ⟨v_63, ev_63⟩ : ∃ v, pI S 600 r1 = v := ⟨_, rfl⟩
      have rg_64 := gI_6_600 hO.1 ha_r1; rw [ev_63] at rg_64
      refine r_getI (g := 600) (x := v_63) X hw ha_r1 rfl 0 ev_63 (by decide) rfl inn_X10_readRule_6 (by decide) (X.2.2.2.1 (.fieldLink RX10 28 "SilkMill$Rules" "size" "I") (by decide +kernel)) rfl (gv_600 _ _) dX10_readRule_26 ?_
      refine lv_bipush (v := 12) X.1 X.2.1 dX10_readRule_29 (by decide) ?_
      refine lv_icmp_lt (tgt := 40) X.1 X.2.1 dX10_readRule_31 (by decide) (fun c_65 => ?_) (fun c_65 => ?_)
      · have z_b_66 := trivial
        have k_67 : v_63.toInt < 12 := z_lt rfl ti_12 c_65
        refine lv_aload_n X.1 X.2.1 dX10_readRule_40 rfl (lv_at hl 2 rfl) ?_
        refine k_v (rm := { frames := 1, cells := 0, slots := 0, locals := 48 }) (av := [.ref r1]) X hw (va_runV (As := []) (rest := []) (cfix X) (k_X6_openRule l G cy κ S _ r1 hO.1 ha_r1) (cwV 0 X.2.2.2.1 gX10_readRule_X6_openRule rfl rfl rfl (by decide +kernel) ⟨Nat.le_of_ble_eq_true rfl, Nat.le_of_ble_eq_true rfl⟩) (pre_V X hw _ ha_r1 rfl (by decide) rfl) rfl rfl hl.1 rfl (lv_room (Nat.le_of_ble_eq_true rfl)) dX10_readRule_41 ⟨Nat.le_of_ble_eq_true rfl, Nat.le_of_ble_eq_true rfl⟩) 0 0 (Nat.le_of_ble_eq_true rfl) (Nat.le_of_ble_eq_true rfl) (fun S_69 H locs hp hw hfr hnw => ?_)
        obtain ⟨hk_70, hp⟩ := hp
        have hO_71 : Ok eTX S S_69 := hO.call hk_70 (by decide +kernel)
        refine lv_iload_n X.1 X.2.1 dX10_readRule_44 rfl (lv_at hl 0 rfl) ?_
        refine lv_if_eq (tgt := 62) X.1 X.2.1 dX10_readRule_45 (by decide) (fun c_72 => ?_) (fun c_72 => absurd c_72 (by decide))
        refine lv_aload_n X.1 X.2.1 dX10_readRule_62 rfl (lv_at hl 1 rfl) ?_
        refine lv_aload_n X.1 X.2.1 dX10_readRule_63 rfl (lv_at hl 2 rfl) ?_
        have t_73 : At S_69 x 10 := hk_70.fr.at ha_x
        have t_74 : At S_69 r1 6 := hk_70.fr.at ha_r1
        refine k_i (rm := { frames := 7, cells := 0, slots := 0, locals := 336 }) (av := [.ref x, .ref r1]) X hw (va_runV (As := [.ref r1]) (rest := []) (cfix X) (k_X10_readAct l G cy κ S_69 _ x r1 hO_71.1 t_73 t_74) (cwV 1 X.2.2.2.1 gX10_readRule_X10_readAct rfl rfl rfl (by decide +kernel) ⟨Nat.le_of_ble_eq_true rfl, Nat.le_of_ble_eq_true rfl⟩) (pre_V X hw _ t_73 rfl (by decide) rfl) rfl rfl hl.1 rfl (lv_room (Nat.le_of_ble_eq_true rfl)) dX10_readRule_64 ⟨Nat.le_of_ble_eq_true rfl, Nat.le_of_ble_eq_true rfl⟩) 0 0 (Nat.le_of_ble_eq_true rfl) (Nat.le_of_ble_eq_true rfl) (fun rr_75 S_76 H locs hp hw hfr hnw => ?_)
        obtain ⟨hk_77, hp⟩ := hp
        have hO_78 : Ok eTX S S_76 := hO_71.call hk_77 (by decide +kernel)
        rcases hp with ⟨f_79, er_80⟩ | ⟨f_79, er_80⟩ <;> subst er_80
        · have z_b_81 := trivial
          exact ret_z X hw hr hlocks (Nat.le_of_ble_eq_true rfl) (Nat.le_of_ble_eq_true rfl) (by decide) ⟨hO_78, Or.inl ⟨trivial, rfl⟩⟩ dX10_readRule_67
        · have z_b_82 := trivial
          exact ret_z X hw hr hlocks (Nat.le_of_ble_eq_true rfl) (Nat.le_of_ble_eq_true rfl) (by decide) ⟨hO_78, Or.inr ⟨trivial, rfl⟩⟩ dX10_readRule_67
      · have z_b_83 := trivial
        have k_84 : v_63.toInt ≥ 12 := z_nlt rfl ti_12 c_65
        refine lv_aload_n X.1 X.2.1 dX10_readRule_34 rfl (lv_at hl 1 rfl) ?_
        refine lv_iconst (v := 2) X.1 X.2.1 dX10_readRule_35 (by decide) ?_
        refine k_i (rm := { frames := 1, cells := 0, slots := 0, locals := 48 }) (av := [.ref x, .int 2]) X hw (va_runV (As := [.int 2]) (rest := []) (cfix X) (k_X10_fail l G cy κ S _ x (2) (2) hO.1 ha_x ti_2) (cwV 1 X.2.2.2.1 gX10_readRule_X10_fail rfl rfl rfl (by decide +kernel) ⟨Nat.le_of_ble_eq_true rfl, Nat.le_of_ble_eq_true rfl⟩) (pre_V X hw _ ha_x rfl (by decide) rfl) rfl rfl hl.1 rfl (lv_room (Nat.le_of_ble_eq_true rfl)) dX10_readRule_36 ⟨Nat.le_of_ble_eq_true rfl, Nat.le_of_ble_eq_true rfl⟩) 0 0 (Nat.le_of_ble_eq_true rfl) (Nat.le_of_ble_eq_true rfl) (fun rr_85 S_86 H locs hp hw hfr hnw => ?_)
        obtain ⟨hk_87, hp⟩ := hp
        have hO_88 : Ok eTX S S_86 := hO.call hk_87 (by decide +kernel)
        rcases hp with ⟨f_89, er_90⟩ | ⟨f_89, er_90⟩ <;> subst er_90
        · have z_b_91 := trivial
          exact ret_z X hw hr hlocks (Nat.le_of_ble_eq_true rfl) (Nat.le_of_ble_eq_true rfl) (by decide) ⟨hO_88, Or.inl ⟨trivial, rfl⟩⟩ dX10_readRule_39
        · have z_b_92 := trivial
          exact ret_z X hw hr hlocks (Nat.le_of_ble_eq_true rfl) (Nat.le_of_ble_eq_true rfl) (by decide) ⟨hO_88, Or.inr ⟨trivial, rfl⟩⟩ dX10_readRule_39
    · have z_b_93 := trivial
      have k_94 : rr_57.toInt = (-1) := z_eq rfl ti_m1 c_60
      refine lv_aload_n X.1 X.2.1 dX10_readRule_19 rfl (lv_at hl 1 rfl) ?_
      refine lv_iconst (v := 1) X.1 X.2.1 dX10_readRule_20 (by decide) ?_
      refine k_i (rm := { frames := 1, cells := 0, slots := 0, locals := 48 }) (av := [.ref x, .int 1]) X hw (va_runV (As := [.int 1]) (rest := []) (cfix X) (k_X10_fail l G cy κ S _ x (1) (1) hO.1 ha_x ti_1) (cwV 1 X.2.2.2.1 gX10_readRule_X10_fail rfl rfl rfl (by decide +kernel) ⟨Nat.le_of_ble_eq_true rfl, Nat.le_of_ble_eq_true rfl⟩) (pre_V X hw _ ha_x rfl (by decide) rfl) rfl rfl hl.1 rfl (lv_room (Nat.le_of_ble_eq_true rfl)) dX10_readRule_21 ⟨Nat.le_of_ble_eq_true rfl, Nat.le_of_ble_eq_true rfl⟩) 0 0 (Nat.le_of_ble_eq_true rfl) (Nat.le_of_ble_eq_true rfl) (fun rr_95 S_96 H locs hp hw hfr hnw => ?_)
      obtain ⟨hk_97, hp⟩ := hp
      have hO_98 : Ok eTX S S_96 := hO.call hk_97 (by decide +kernel)
      rcases hp with ⟨f_99, er_100⟩ | ⟨f_99, er_100⟩ <;> subst er_100
      · have z_b_101 := trivial
        exact ret_z X hw hr hlocks (Nat.le_of_ble_eq_true rfl) (Nat.le_of_ble_eq_true rfl) (by decide) ⟨hO_98, Or.inl ⟨trivial, rfl⟩⟩ dX10_readRule_24
      · have z_b_102 := trivial
        exact ret_z X hw hr hlocks (Nat.le_of_ble_eq_true rfl) (Nat.le_of_ble_eq_true rfl) (by decide) ⟨hO_98, Or.inr ⟨trivial, rfl⟩⟩ dX10_readRule_24
set_option maxHeartbeats 4000000 in
set_option maxRecDepth 100000 in
theorem k_X10_readInto (l : Launch) (G : va_G) (cy : Nat → ClassId) (κ : Nat → Nat) (S : PS) (sz : Nat) (x : Nat) (r1 : Nat) (hG : GX S) (ha_x : At S x 10) (ha_r1 : At S r1 6) : Ci l yX10_readInto wsX10_readInto ({ frames := 10, cells := 0, slots := 0, locals := 480 }) G cy κ S sz [.ref x, .ref r1] (fun (r : Int32) (S9 : PS) => Ok eTX S S9 ∧ (((True) ∧ r = 1) ∨ ((True) ∧ r = 0))) := by
  refine ent_m (cc := cX10_readInto) (maxL := 3) (ret := (some .boolean)) (by decide) rfl (Nat.le_of_ble_eq_true rfl) ?_
  intro p e s m below meth c ls X hr hlocks hin hw hl hsz
  subst hsz
  have X : Cx p c cX10_readInto 3 s [.ref x, .ref r1].toArray wsX10_readInto RX10 m G cy κ (AS S s.heap.size) := X
  have hl : lv_has ls 3 [(0, .ref x), (1, .ref r1)] := hl
  have hO : Ok eTX S S := Ok.rf hG
  generalize hQQ : MQ below _ _ _ _ _ _ = QQ
  replace hQQ := hQQ.symm
  refine lv_aload_n X.1 X.2.1 dX10_readInto_0 rfl (lv_at hl 0 rfl) ?_
  refine k_v (rm := { frames := 1, cells := 0, slots := 0, locals := 48 }) (av := [.ref x]) X hw (va_runV (As := []) (rest := []) (cfix X) (k_X10_forgetFault l G cy κ S _ x hO.1 ha_x) (cwV 0 X.2.2.2.1 gX10_readInto_X10_forgetFault rfl rfl rfl (by decide +kernel) ⟨Nat.le_of_ble_eq_true rfl, Nat.le_of_ble_eq_true rfl⟩) (pre_V X hw _ ha_x rfl (by decide) rfl) rfl rfl hl.1 rfl (lv_room (Nat.le_of_ble_eq_true rfl)) dX10_readInto_1 ⟨Nat.le_of_ble_eq_true rfl, Nat.le_of_ble_eq_true rfl⟩) 0 0 (Nat.le_of_ble_eq_true rfl) (Nat.le_of_ble_eq_true rfl) (fun S_2 H locs hp hw hfr hnw => ?_)
  obtain ⟨hk_3, hp⟩ := hp
  have hO_4 : Ok eTX S S_2 := hO.call hk_3 (by decide +kernel)
  refine lv_aload_n X.1 X.2.1 dX10_readInto_4 rfl (lv_at hl 1 rfl) ?_
  refine lv_iconst (v := 0) X.1 X.2.1 dX10_readInto_5 (by decide) ?_
  have t_5 : At S_2 r1 6 := hk_3.fr.at ha_r1
  refine r_putI (v := 0) X hw t_5 rfl 0 600 tyX6 (by decide) rfl inn_X10_readInto_6 tyX6_ok nmX6 (by decide) (X.2.2.2.1 (.fieldLink RX10 28 "SilkMill$Rules" "size" "I") (by decide +kernel)) rfl (Or.inl rfl) rfl rfl (Nat.le_of_ble_eq_true rfl) (st_600 _ _) dX10_readInto_6 (fun H locs hw => ?_)
  obtain ⟨S_6, eS_6⟩ : ∃ T, T = sI S_2 600 r1 (0) := ⟨_, rfl⟩
  rw [← eS_6] at hw
  have hO_7 : Ok eTX S S_6 := hO_4.sI eS_6 (by decide +kernel) (uI_6_600 hO_4.1 t_5 (by rw [ti_0]; omega) (by rw [ti_0]; omega))
  have h_8 : pI S_6 600 r1 = 0 := tI_sIs eS_6
  refine lv_aload_n X.1 X.2.1 dX10_readInto_9 rfl (lv_at hl 0 rfl) ?_
  refine lv_iconst (v := 0) X.1 X.2.1 dX10_readInto_10 (by decide) ?_
  have t_9 : At S_2 x 10 := hk_3.fr.at ha_x
  have t_10 : At S_6 x 10 := tAt_sI eS_6 t_9
  refine r_putI (v := 0) X hw t_10 rfl 6 1006 tyX10 (by decide) rfl inn_X10_readInto_10 tyX10_ok nmX10 (by decide) (X.2.2.2.1 (.fieldLink RX10 31 "SilkMill$Tape" "behind" "I") (by decide +kernel)) rfl (Or.inl rfl) rfl rfl (Nat.le_of_ble_eq_true rfl) (st_1006 _ _) dX10_readInto_11 (fun H locs hw => ?_)
  obtain ⟨S_11, eS_11⟩ : ∃ T, T = sI S_6 1006 x (0) := ⟨_, rfl⟩
  rw [← eS_11] at hw
  have hO_12 : Ok eTX S S_11 := hO_7.sI eS_11 (by decide +kernel) (uI_10_1006 hO_7.1 t_10)
  have h_13 : pI S_11 1006 x = 0 := tI_sIs eS_11
  refine lv_aload_n X.1 X.2.1 dX10_readInto_14 rfl (lv_at hl 0 rfl) ?_
  have t_14 : At S_11 x 10 := tAt_sI eS_11 t_10
  refine k_v (rm := { frames := 2, cells := 0, slots := 0, locals := 96 }) (av := [.ref x]) X hw (va_runV (As := []) (rest := []) (cfix X) (k_X10_advance l G cy κ S_11 _ x hO_12.1 t_14) (cwV 0 X.2.2.2.1 gX10_readInto_X10_advance rfl rfl rfl (by decide +kernel) ⟨Nat.le_of_ble_eq_true rfl, Nat.le_of_ble_eq_true rfl⟩) (pre_V X hw _ t_14 rfl (by decide) rfl) rfl rfl hl.1 rfl (lv_room (Nat.le_of_ble_eq_true rfl)) dX10_readInto_15 ⟨Nat.le_of_ble_eq_true rfl, Nat.le_of_ble_eq_true rfl⟩) 0 0 (Nat.le_of_ble_eq_true rfl) (Nat.le_of_ble_eq_true rfl) (fun S_16 H locs hp hw hfr hnw => ?_)
  obtain ⟨hk_17, hp⟩ := hp
  have hO_18 : Ok eTX S S_16 := hO_12.call hk_17 (by decide +kernel)
  refine lv_iconst (v := 0) X.1 X.2.1 dX10_readInto_18 (by decide) ?_
  refine lv_istore_n (lv' := [(2, .int 0), (0, .ref x), (1, .ref r1)]) X.1 X.2.1 dX10_readInto_19 rfl hl (by decide) rfl (fun ls hl => ?_)
  have L_19 : ∀ (n : Nat) (T_21 : PS) (H : Heap) (locs : List Loc) (ls : Array Slot) (i2_20 : Int32) (i2_20_z : Int), ((13 - i2_20_z).toNat = n) → (Wd G cy (AS S s.heap.size) s.heap T_21 H locs) → (i2_20.toInt = i2_20_z) → (0 ≤ i2_20_z ∧ i2_20_z ≤ 13) → (At T_21 r1 6) → (At T_21 x 10) → (Ok eTX S T_21) → (lv_has ls 3 [(2, .int (i2_20)), (0, .ref x), (1, .ref r1)]) → W p l e ({ frames := 10, cells := 0, slots := 0, locals := 480 }) s m [.ref x, .ref r1].toArray below meth c H locs 0 0 QQ (F0 m 20 ls []) := by
    intro n
    induction n using Nat.strongRecOn with
    | ind n ih =>
    intro T_21 H locs ls i2_20 i2_20_z hn hw hz_i2_20 hr_i2_20 ha_r1_L_22 ha_x_L_23 hO_T_21 hl
    have rg_24 : (-2147483648) ≤ i2_20_z ∧ i2_20_z ≤ 2147483647 := by rw [← hz_i2_20]; exact ⟨z_lo _, z_hi _⟩
    refine lv_iload_n X.1 X.2.1 dX10_readInto_20 rfl (lv_at hl 0 rfl) ?_
    refine lv_bipush (v := 12) X.1 X.2.1 dX10_readInto_21 (by decide) ?_
    refine lv_icmp_gt (tgt := 49) X.1 X.2.1 dX10_readInto_23 (by decide) (fun c_25 => ?_) (fun c_25 => ?_)
    · have z_b_26 := trivial
      have k_27 : i2_20_z > 12 := z_lt ti_12 hz_i2_20 c_25
      refine lv_iconst (v := 1) X.1 X.2.1 dX10_readInto_49 (by decide) ?_
      rw [hQQ]
      exact ret_z X hw hr hlocks (Nat.le_of_ble_eq_true rfl) (Nat.le_of_ble_eq_true rfl) (by decide) ⟨hO_T_21, Or.inl ⟨trivial, rfl⟩⟩ dX10_readInto_50
    · have z_b_28 := trivial
      have k_29 : i2_20_z ≤ 12 := z_nlt ti_12 hz_i2_20 c_25
      refine lv_aload_n X.1 X.2.1 dX10_readInto_26 rfl (lv_at hl 1 rfl) ?_
      obtain ⟨v_30, ev_30⟩ : ∃ v, pI T_21 1004 x = v := ⟨_, rfl⟩
      have rg_32 := And.intro (z_lo v_30) (z_hi v_30)
      refine r_getI (g := 1004) (x := v_30) X hw ha_x_L_23 rfl 4 ev_30 (by decide) rfl inn_X10_readInto_10 (by decide) (X.2.2.2.1 (.fieldLink RX10 37 "SilkMill$Tape" "token" "I") (by decide +kernel)) rfl (gv_1004 _ _) dX10_readInto_27 ?_
      refine lv_if_eq (tgt := 49) X.1 X.2.1 dX10_readInto_30 (by decide) (fun c_33 => ?_) (fun c_33 => ?_)
      · have z_b_34 := trivial
        have k_35 : v_30.toInt = 0 := z_eq rfl ti_0 c_33
        refine lv_iconst (v := 1) X.1 X.2.1 dX10_readInto_49 (by decide) ?_
        rw [hQQ]
        exact ret_z X hw hr hlocks (Nat.le_of_ble_eq_true rfl) (Nat.le_of_ble_eq_true rfl) (by decide) ⟨hO_T_21, Or.inl ⟨trivial, rfl⟩⟩ dX10_readInto_50
      · have z_b_36 := trivial
        have k_37 : v_30.toInt ≠ 0 := z_ne rfl ti_0 c_33
        refine lv_aload_n X.1 X.2.1 dX10_readInto_33 rfl (lv_at hl 1 rfl) ?_
        refine lv_aload_n X.1 X.2.1 dX10_readInto_34 rfl (lv_at hl 2 rfl) ?_
        refine k_i (rm := { frames := 9, cells := 0, slots := 0, locals := 432 }) (av := [.ref x, .ref r1]) X hw (va_runV (As := [.ref r1]) (rest := []) (cfix X) (k_X10_readRule l G cy κ T_21 _ x r1 hO_T_21.1 ha_x_L_23 ha_r1_L_22) (cwV 1 X.2.2.2.1 gX10_readInto_X10_readRule rfl rfl rfl (by decide +kernel) ⟨Nat.le_of_ble_eq_true rfl, Nat.le_of_ble_eq_true rfl⟩) (pre_V X hw _ ha_x_L_23 rfl (by decide) rfl) rfl rfl hl.1 rfl (lv_room (Nat.le_of_ble_eq_true rfl)) dX10_readInto_35 ⟨Nat.le_of_ble_eq_true rfl, Nat.le_of_ble_eq_true rfl⟩) 0 0 (Nat.le_of_ble_eq_true rfl) (Nat.le_of_ble_eq_true rfl) (fun rr_38 S_39 H locs hp hw hfr hnw => ?_)
        obtain ⟨hk_40, hp⟩ := hp
        have hO_41 : Ok eTX S S_39 := hO_T_21.call hk_40 (by decide +kernel)
        rcases hp with ⟨f_42, er_43⟩ | ⟨f_42, er_43⟩ <;> subst er_43
        · have z_b_44 := trivial
          refine lv_if_ne (tgt := 43) X.1 X.2.1 dX10_readInto_38 (by decide) (fun c_45 => ?_) (fun c_45 => absurd c_45 (by decide))
          obtain ⟨x_46, ex_46⟩ : ∃ y : Int32, y = i2_20 + 1 := ⟨_, rfl⟩
          have z_47 : x_46.toInt = i2_20_z + 1 := z_add ex_46 hz_i2_20 ti_1 (by omega) (by omega)
          refine lv_iinc (v := x_46) (lv' := [(2, .int (x_46)), (0, .ref x), (1, .ref r1)]) X.1 X.2.1 dX10_readInto_43 hl (k := 0) rfl (by rw [ex_46]; rfl) (by decide) rfl (fun ls hl => ?_)
          refine lv_goto (tgt := 20) X.1 X.2.1 dX10_readInto_46 (by decide) ?_
          have t_48 : At S_39 r1 6 := hk_40.fr.at ha_r1_L_22
          have t_49 : At S_39 x 10 := hk_40.fr.at ha_x_L_23
          exact ih _ (by omega) _ _ _ _ (x_46) (x_46.toInt) rfl hw rfl (by omega) t_48 t_49 hO_41 (lv_sub hl [0, 1, 2] rfl)
        · have z_b_50 := trivial
          refine lv_if_ne (tgt := 43) X.1 X.2.1 dX10_readInto_38 (by decide) (fun c_51 => absurd c_51 (by decide)) (fun c_51 => ?_)
          refine lv_iconst (v := 0) X.1 X.2.1 dX10_readInto_41 (by decide) ?_
          rw [hQQ]
          exact ret_z X hw hr hlocks (Nat.le_of_ble_eq_true rfl) (Nat.le_of_ble_eq_true rfl) (by decide) ⟨hO_41, Or.inr ⟨trivial, rfl⟩⟩ dX10_readInto_42
  have t_52 : At S_6 r1 6 := tAt_sI eS_6 t_5
  have t_53 : At S_11 r1 6 := tAt_sI eS_11 t_52
  have t_54 : At S_16 r1 6 := hk_17.fr.at t_53
  have t_55 : At S_16 x 10 := hk_17.fr.at t_14
  exact L_19 _ _ _ _ _ (0) (0) rfl hw ti_0 (by omega) t_54 t_55 hO_18 (lv_sub hl [0, 1, 2] rfl)
set_option maxHeartbeats 4000000 in
set_option maxRecDepth 100000 in
theorem k_X11_program (l : Launch) (G : va_G) (cy : Nat → ClassId) (κ : Nat → Nat) (S : PS) (sz : Nat) (x : Nat) (a1 : Int32) (a1_z : Int) (hG : GX S) (ha_x : At S x 11) (hz_a1 : a1.toInt = a1_z) : Ci l yX11_program wsX11_program ({ frames := 11, cells := 0, slots := 0, locals := 528 }) G cy κ S sz [.ref x, .int (a1)] (fun (r : Int32) (S9 : PS) => Ok ePG S S9 ∧ (-2147483648 ≤ r.toInt ∧ r.toInt ≤ 2147483647 ∧ (∀ q0, pR S 1105 x = some q0 → (PN S x → ((0 ≤ a1_z ∧ a1_z < (pI S 1104 x).toInt) ∧ (pI S9 1000 q0).toInt = 0) ∨ (¬ (0 ≤ a1_z ∧ a1_z < (pI S 1104 x).toInt) ∧ (pI S9 1000 q0).toInt = (pI S 1000 q0).toInt))))) := by
  refine ent_m (cc := cX11_program) (maxL := 5) (ret := (some .int)) (by decide) rfl (Nat.le_of_ble_eq_true rfl) ?_
  intro p e s m below meth c ls X hr hlocks hin hw hl hsz
  subst hsz
  have X : Cx p c cX11_program 5 s [.ref x, .int (a1)].toArray wsX11_program RX11 m G cy κ (AS S s.heap.size) := X
  have hl : lv_has ls 5 [(0, .ref x), (1, .int (a1))] := hl
  have rg_a1 : (-2147483648) ≤ a1_z ∧ a1_z ≤ 2147483647 := by rw [← hz_a1]; exact ⟨z_lo _, z_hi _⟩
  have hO : Ok ePG S S := Ok.rf hG
  obtain ⟨q_1, h_2, h_3⟩ := gQ_11_1105 hO.1 ha_x
  obtain ⟨v_5, ev_5⟩ : ∃ v, pI S 1000 q_1 = v := ⟨_, rfl⟩
  have rg_6 := gI_10_1000 hO.1 h_3; rw [ev_5] at rg_6
  have pz_7 : (pI S 1000 q_1).toInt = v_5.toInt := by rw [ev_5]
  have pz_8 : (pI S 1000 q_1).toInt = v_5.toInt := (congrArg Int32.toInt ev_5).trans rfl
  refine lv_aload_n X.1 X.2.1 dX11_program_0 rfl (lv_at hl 0 rfl) ?_
  refine lv_iload_n X.1 X.2.1 dX11_program_1 rfl (lv_at hl 1 rfl) ?_
  refine k_q (rm := { frames := 1, cells := 0, slots := 0, locals := 48 }) (av := [.ref x, .int (a1)]) X hw (va_runV (As := [.int (a1)]) (rest := []) (cfix X) (k_X11_potAt l G cy κ S _ x (a1) (a1_z) hO.1 ha_x hz_a1) (cwV 1 X.2.2.2.1 gX11_program_X11_potAt rfl rfl rfl (by decide +kernel) ⟨Nat.le_of_ble_eq_true rfl, Nat.le_of_ble_eq_true rfl⟩) (pre_V X hw _ ha_x rfl (by decide) rfl) rfl rfl hl.1 rfl (lv_room (Nat.le_of_ble_eq_true rfl)) dX11_program_2 ⟨Nat.le_of_ble_eq_true rfl, Nat.le_of_ble_eq_true rfl⟩) 0 0 (Nat.le_of_ble_eq_true rfl) (Nat.le_of_ble_eq_true rfl) (fun rr_9 S_10 H locs hp hw hfr hnw => ?_)
  obtain ⟨e2, hp⟩ := hp
  subst e2
  obtain ⟨hq_11, hnf_12⟩ := hp
  rcases rr_9 with _ | q_13
  · refine W.eq (g2 := F0 m 5 ls (.null :: [])) rfl ?_
    have nf_14 := hnf_12 rfl
    refine lv_astore_nN (lv' := [(2, .null), (0, .ref x), (1, .int (a1))]) X.1 X.2.1 dX11_program_5 rfl hl (by decide) rfl (fun ls hl => ?_)
    refine lv_aload_nN X.1 X.2.1 dX11_program_6 rfl (lv_at hl 0 rfl) ?_
    refine lv_ifnonnullN X.1 X.2.1 dX11_program_7 ?_
    refine lv_aload_n X.1 X.2.1 dX11_program_10 rfl (lv_at hl 1 rfl) ?_
    refine r_getR (g := 1105) X hw ha_x rfl 5 h_2 (by decide) rfl inn_X11_program_11 (by decide) (X.2.2.2.1 (.fieldLink RX11 28 "SilkMill" "tape" "LSilkMill$Tape;") (by decide +kernel)) rfl (gv_1105 _ _) dX11_program_11 ?_
    refine k_v (rm := { frames := 1, cells := 0, slots := 0, locals := 48 }) (av := [.ref q_1]) X hw (va_runV (As := []) (rest := []) (cfix X) (k_X10_forgetFault l G cy κ S _ q_1 hO.1 h_3) (cwV 0 X.2.2.2.1 gX11_program_X10_forgetFault rfl rfl rfl (by decide +kernel) ⟨Nat.le_of_ble_eq_true rfl, Nat.le_of_ble_eq_true rfl⟩) (pre_V X hw _ h_3 rfl (by decide) rfl) rfl rfl hl.1 rfl (lv_room (Nat.le_of_ble_eq_true rfl)) dX11_program_14 ⟨Nat.le_of_ble_eq_true rfl, Nat.le_of_ble_eq_true rfl⟩) 0 0 (Nat.le_of_ble_eq_true rfl) (Nat.le_of_ble_eq_true rfl) (fun S_16 H locs hp hw hfr hnw => ?_)
    obtain ⟨hk_17, hp⟩ := hp
    have hO_18 : Ok ePG S S_16 := hO.call hk_17 (by decide +kernel)
    refine lv_iconst (v := (-1)) X.1 X.2.1 dX11_program_17 (by decide) ?_
    have t_19 : pI S_16 1000 q_1 = v_5 := hk_17.fr.I' (by decide +kernel) h_3 ev_5
    have pz_20 : (pI S_16 1000 q_1).toInt = v_5.toInt := (congrArg Int32.toInt t_19).trans rfl
    exact ret_i X hw hr hlocks (Nat.le_of_ble_eq_true rfl) (Nat.le_of_ble_eq_true rfl) ⟨hO_18, ⟨z_lo _, z_hi _, fun q0 hq0 hPN => by rw [h_2] at hq0; cases hq0; have hnf := nf_14 hPN; have hzr := ti_m1; omega⟩⟩ dX11_program_18
  · refine W.eq (g2 := F0 m 5 ls (.ref q_13 :: [])) rfl ?_
    obtain ⟨ha_21, f_22, f_23⟩ := hq_11 _ rfl
    refine lv_astore_n (lv' := [(2, .ref q_13), (0, .ref x), (1, .int (a1))]) X.1 X.2.1 dX11_program_5 rfl hl (by decide) rfl (fun ls hl => ?_)
    refine lv_aload_n X.1 X.2.1 dX11_program_6 rfl (lv_at hl 0 rfl) ?_
    refine lv_ifnonnull (tgt := 19) X.1 X.2.1 dX11_program_7 (by decide) ?_
    refine lv_aload_n X.1 X.2.1 dX11_program_19 rfl (lv_at hl 1 rfl) ?_
    refine r_getR (g := 1105) X hw ha_x rfl 5 h_2 (by decide) rfl inn_X11_program_11 (by decide) (X.2.2.2.1 (.fieldLink RX11 28 "SilkMill" "tape" "LSilkMill$Tape;") (by decide +kernel)) rfl (gv_1105 _ _) dX11_program_20 ?_
    refine lv_aload_n X.1 X.2.1 dX11_program_23 rfl (lv_at hl 1 rfl) ?_
    obtain ⟨q_24, h_25, h_26⟩ := gQ_11_1106 hO.1 ha_x
    refine r_getR (g := 1106) X hw ha_x rfl 6 h_25 (by decide) rfl inn_X11_program_11 (by decide) (X.2.2.2.1 (.fieldLink RX11 35 "SilkMill" "spareRules" "LSilkMill$Rules;") (by decide +kernel)) rfl (gv_1106 _ _) dX11_program_24 ?_
    refine k_i (rm := { frames := 10, cells := 0, slots := 0, locals := 480 }) (av := [.ref q_1, .ref q_24]) X hw (va_runV (As := [.ref q_24]) (rest := []) (cfix X) (k_X10_readInto l G cy κ S _ q_1 q_24 hO.1 h_3 h_26) (cwV 1 X.2.2.2.1 gX11_program_X10_readInto rfl rfl rfl (by decide +kernel) ⟨Nat.le_of_ble_eq_true rfl, Nat.le_of_ble_eq_true rfl⟩) (pre_V X hw _ h_3 rfl (by decide) rfl) rfl rfl hl.1 rfl (lv_room (Nat.le_of_ble_eq_true rfl)) dX11_program_27 ⟨Nat.le_of_ble_eq_true rfl, Nat.le_of_ble_eq_true rfl⟩) 0 0 (Nat.le_of_ble_eq_true rfl) (Nat.le_of_ble_eq_true rfl) (fun rr_28 S_29 H locs hp hw hfr hnw => ?_)
    obtain ⟨hk_30, hp⟩ := hp
    have hO_31 : Ok ePG S S_29 := hO.call hk_30 (by decide +kernel)
    rcases hp with ⟨f_32, er_33⟩ | ⟨f_32, er_33⟩ <;> subst er_33
    · have z_b_34 := trivial
      refine lv_istore_n (lv' := [(3, .int 1), (2, .ref q_13), (0, .ref x), (1, .int (a1))]) X.1 X.2.1 dX11_program_30 rfl hl (by decide) rfl (fun ls hl => ?_)
      refine lv_aload_n X.1 X.2.1 dX11_program_31 rfl (lv_at hl 2 rfl) ?_
      have t_35 : At S_29 x 11 := hk_30.fr.at ha_x
      have t_36 : pR S_29 1105 x = some q_1 := hk_30.fr.R' (by decide +kernel) ha_x h_2
      refine r_getR (g := 1105) X hw t_35 rfl 5 t_36 (by decide) rfl inn_X11_program_11 (by decide) (X.2.2.2.1 (.fieldLink RX11 28 "SilkMill" "tape" "LSilkMill$Tape;") (by decide +kernel)) rfl (gv_1105 _ _) dX11_program_32 ?_
      refine lv_iconst (v := 0) X.1 X.2.1 dX11_program_35 (by decide) ?_
      have t_37 : At S_29 q_1 10 := hk_30.fr.at h_3
      refine r_putI (v := 0) X hw t_37 rfl 0 1000 tyX10 (by decide) rfl inn_X11_program_10 tyX10_ok nmX10 (by decide) (X.2.2.2.1 (.fieldLink RX11 145 "SilkMill$Tape" "size" "I") (by decide +kernel)) rfl (Or.inl rfl) rfl rfl (Nat.le_of_ble_eq_true rfl) (st_1000 _ _) dX11_program_36 (fun H locs hw => ?_)
      obtain ⟨S_38, eS_38⟩ : ∃ T, T = sI S_29 1000 q_1 (0) := ⟨_, rfl⟩
      rw [← eS_38] at hw
      have hO_39 : Ok ePG S S_38 := hO_31.sI eS_38 (by decide +kernel) (uI_10_1000 hO_31.1 t_37 (by rw [ti_0]; omega) (by rw [ti_0]; omega))
      have h_40 : pI S_38 1000 q_1 = 0 := tI_sIs eS_38
      refine lv_iload_n X.1 X.2.1 dX11_program_39 rfl (lv_at hl 0 rfl) ?_
      refine lv_if_ne (tgt := 54) X.1 X.2.1 dX11_program_40 (by decide) (fun c_41 => ?_) (fun c_41 => absurd c_41 (by decide))
      refine lv_aload_n X.1 X.2.1 dX11_program_54 rfl (lv_at hl 1 rfl) ?_
      have t_42 : At S_29 q_13 4 := hk_30.fr.at ha_21
      have t_43 : At S_38 q_13 4 := tAt_sI eS_38 t_42
      obtain ⟨q_44, h_45, h_46⟩ := gQ_4_409 hO_39.1 t_43
      refine r_getR (g := 409) X hw t_43 rfl 9 h_45 (by decide) rfl inn_X11_program_4 (by decide) (X.2.2.2.1 (.fieldLink RX11 162 "SilkMill$Pot" "rules" "LSilkMill$Rules;") (by decide +kernel)) rfl (gv_409 _ _) dX11_program_55 ?_
      refine lv_astore (lv' := [(4, .ref q_44), (3, .int 1), (2, .ref q_13), (0, .ref x), (1, .int (a1))]) X.1 X.2.1 dX11_program_58 hl (by decide) rfl (fun ls hl => ?_)
      refine lv_aload_n X.1 X.2.1 dX11_program_60 rfl (lv_at hl 2 rfl) ?_
      refine lv_aload_n X.1 X.2.1 dX11_program_61 rfl (lv_at hl 3 rfl) ?_
      have t_48 : At S_38 x 11 := tAt_sI eS_38 t_35
      have t_49 : pR S_29 1106 x = some q_24 := hk_30.fr.R' (by decide +kernel) ha_x h_25
      have t_50 : pR S_38 1106 x = some q_24 := tR_sI eS_38 t_49
      refine r_getR (g := 1106) X hw t_48 rfl 6 t_50 (by decide) rfl inn_X11_program_11 (by decide) (X.2.2.2.1 (.fieldLink RX11 35 "SilkMill" "spareRules" "LSilkMill$Rules;") (by decide +kernel)) rfl (gv_1106 _ _) dX11_program_62 ?_
      have t_51 : At S_29 q_24 6 := hk_30.fr.at h_26
      have t_52 : At S_38 q_24 6 := tAt_sI eS_38 t_51
      refine r_putR X hw t_43 rfl 9 409 (some q_24) rfl tyX4 (by decide) rfl inn_X11_program_4 tyX4_ok nmX4 (by decide) (X.2.2.2.1 (.fieldLink RX11 162 "SilkMill$Pot" "rules" "LSilkMill$Rules;") (by decide +kernel)) rfl (Or.inl rfl) (fun _ => rfl) rfl (fun _ => rfl) rfl (Nat.le_of_ble_eq_true rfl) (st_409 _ _) dX11_program_65 (fun H locs hw => ?_)
      obtain ⟨S_53, eS_53⟩ : ∃ T, T = sR S_38 409 q_13 (some q_24) := ⟨_, rfl⟩
      rw [← eS_53] at hw
      have hO_54 : Ok ePG S S_53 := hO_39.sR eS_53 (by decide +kernel) (uR_4_409 hO_39.1 t_43 t_52)
      have h_55 : pR S_53 409 q_13 = some q_24 := tR_sRs eS_53
      refine lv_aload_n X.1 X.2.1 dX11_program_68 rfl (lv_at hl 3 rfl) ?_
      refine lv_aload X.1 X.2.1 dX11_program_69 (lv_at hl 0 rfl) ?_
      have t_56 : At S_53 x 11 := tAt_sR eS_53 t_48
      have t_57 : At S_53 q_44 6 := tAt_sR eS_53 h_46
      refine r_putR X hw t_56 rfl 6 1106 (some q_44) rfl tyX11 (by decide) rfl inn_X11_program_11 tyX11_ok nmX11 (by decide) (X.2.2.2.1 (.fieldLink RX11 35 "SilkMill" "spareRules" "LSilkMill$Rules;") (by decide +kernel)) rfl (Or.inl rfl) (fun _ => rfl) rfl (fun _ => rfl) rfl (Nat.le_of_ble_eq_true rfl) (st_1106 _ _) dX11_program_71 (fun H locs hw => ?_)
      obtain ⟨S_58, eS_58⟩ : ∃ T, T = sR S_53 1106 x (some q_44) := ⟨_, rfl⟩
      rw [← eS_58] at hw
      have hO_59 : Ok ePG S S_58 := hO_54.sR eS_58 (by decide +kernel) (uR_11_1106 hO_54.1 t_56 t_57)
      have h_60 : pR S_58 1106 x = some q_44 := tR_sRs eS_58
      refine lv_aload_n X.1 X.2.1 dX11_program_74 rfl (lv_at hl 2 rfl) ?_
      have t_61 : At S_53 q_13 4 := tAt_sR eS_53 t_43
      have t_62 : At S_58 q_13 4 := tAt_sR eS_58 t_61
      have t_63 : pR S_58 409 q_13 = some q_24 := tR_sR eS_58 rfl h_55
      refine r_getR (g := 409) X hw t_62 rfl 9 t_63 (by decide) rfl inn_X11_program_4 (by decide) (X.2.2.2.1 (.fieldLink RX11 162 "SilkMill$Pot" "rules" "LSilkMill$Rules;") (by decide +kernel)) rfl (gv_409 _ _) dX11_program_75 ?_
      have t_64 : At S_53 q_24 6 := tAt_sR eS_53 t_52
      have t_65 : At S_58 q_24 6 := tAt_sR eS_58 t_64
      obtain ⟨v_66, ev_66⟩ : ∃ v, pI S_58 600 q_24 = v := ⟨_, rfl⟩
      have rg_67 := gI_6_600 hO_59.1 t_65; rw [ev_66] at rg_67
      have pz_68 : (pI S_58 600 q_24).toInt = v_66.toInt := by rw [ev_66]
      refine r_getI (g := 600) (x := v_66) X hw t_65 rfl 0 ev_66 (by decide) rfl inn_X11_program_6 (by decide) (X.2.2.2.1 (.fieldLink RX11 165 "SilkMill$Rules" "size" "I") (by decide +kernel)) rfl (gv_600 _ _) dX11_program_78 ?_
      have t_69 : pI S_53 1000 q_1 = 0 := tI_sR eS_53 h_40
      have t_70 : pI S_58 1000 q_1 = 0 := tI_sR eS_58 t_69
      have pz_71 : (pI S_58 1000 q_1).toInt = 0 := (congrArg Int32.toInt t_70).trans ti_0
      exact ret_i X hw hr hlocks (Nat.le_of_ble_eq_true rfl) (Nat.le_of_ble_eq_true rfl) ⟨hO_59, ⟨z_lo _, z_hi _, fun q0 hq0 hPN => by rw [h_2] at hq0; cases hq0; omega⟩⟩ dX11_program_81
    · have z_b_72 := trivial
      refine lv_istore_n (lv' := [(3, .int 0), (2, .ref q_13), (0, .ref x), (1, .int (a1))]) X.1 X.2.1 dX11_program_30 rfl hl (by decide) rfl (fun ls hl => ?_)
      refine lv_aload_n X.1 X.2.1 dX11_program_31 rfl (lv_at hl 2 rfl) ?_
      have t_73 : At S_29 x 11 := hk_30.fr.at ha_x
      have t_74 : pR S_29 1105 x = some q_1 := hk_30.fr.R' (by decide +kernel) ha_x h_2
      refine r_getR (g := 1105) X hw t_73 rfl 5 t_74 (by decide) rfl inn_X11_program_11 (by decide) (X.2.2.2.1 (.fieldLink RX11 28 "SilkMill" "tape" "LSilkMill$Tape;") (by decide +kernel)) rfl (gv_1105 _ _) dX11_program_32 ?_
      refine lv_iconst (v := 0) X.1 X.2.1 dX11_program_35 (by decide) ?_
      have t_75 : At S_29 q_1 10 := hk_30.fr.at h_3
      refine r_putI (v := 0) X hw t_75 rfl 0 1000 tyX10 (by decide) rfl inn_X11_program_10 tyX10_ok nmX10 (by decide) (X.2.2.2.1 (.fieldLink RX11 145 "SilkMill$Tape" "size" "I") (by decide +kernel)) rfl (Or.inl rfl) rfl rfl (Nat.le_of_ble_eq_true rfl) (st_1000 _ _) dX11_program_36 (fun H locs hw => ?_)
      obtain ⟨S_76, eS_76⟩ : ∃ T, T = sI S_29 1000 q_1 (0) := ⟨_, rfl⟩
      rw [← eS_76] at hw
      have hO_77 : Ok ePG S S_76 := hO_31.sI eS_76 (by decide +kernel) (uI_10_1000 hO_31.1 t_75 (by rw [ti_0]; omega) (by rw [ti_0]; omega))
      have h_78 : pI S_76 1000 q_1 = 0 := tI_sIs eS_76
      refine lv_iload_n X.1 X.2.1 dX11_program_39 rfl (lv_at hl 0 rfl) ?_
      refine lv_if_ne (tgt := 54) X.1 X.2.1 dX11_program_40 (by decide) (fun c_79 => absurd c_79 (by decide)) (fun c_79 => ?_)
      refine lv_aload_n X.1 X.2.1 dX11_program_43 rfl (lv_at hl 2 rfl) ?_
      have t_80 : At S_76 x 11 := tAt_sI eS_76 t_73
      have t_81 : pR S_76 1105 x = some q_1 := tR_sI eS_76 t_74
      refine r_getR (g := 1105) X hw t_80 rfl 5 t_81 (by decide) rfl inn_X11_program_11 (by decide) (X.2.2.2.1 (.fieldLink RX11 28 "SilkMill" "tape" "LSilkMill$Tape;") (by decide +kernel)) rfl (gv_1105 _ _) dX11_program_44 ?_
      have t_82 : At S_76 q_1 10 := tAt_sI eS_76 t_75
      obtain ⟨v_83, ev_83⟩ : ∃ v, pI S_76 1001 q_1 = v := ⟨_, rfl⟩
      have rg_85 := And.intro (z_lo v_83) (z_hi v_83)
      have pz_86 : (pI S_76 1001 q_1).toInt = v_83.toInt := by rw [ev_83]
      refine r_getI (g := 1001) (x := v_83) X hw t_82 rfl 1 ev_83 (by decide) rfl inn_X11_program_10 (by decide) (X.2.2.2.1 (.fieldLink RX11 159 "SilkMill$Tape" "faultKind" "I") (by decide +kernel)) rfl (gv_1001 _ _) dX11_program_47 ?_
      refine lv_bipush (v := 10) X.1 X.2.1 dX11_program_50 (by decide) ?_
      refine lv_isub X.1 X.2.1 dX11_program_52 ?_
      refine lv_topi (fun v_87 ev_87 => ?_)
      have rg_88 := And.intro (z_lo v_87) (z_hi v_87)
      have pz_89 : (pI S_76 1000 q_1).toInt = 0 := (congrArg Int32.toInt h_78).trans ti_0
      exact ret_i X hw hr hlocks (Nat.le_of_ble_eq_true rfl) (Nat.le_of_ble_eq_true rfl) ⟨hO_77, ⟨z_lo _, z_hi _, fun q0 hq0 hPN => by rw [h_2] at hq0; cases hq0; omega⟩⟩ dX11_program_53
