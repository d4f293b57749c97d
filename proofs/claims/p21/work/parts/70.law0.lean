def R_law : String := "SilkMillLaw"
def lw_P (b : Addr) (xs : List Int32) (args : Array Value) (s : State) : Prop := args = #[.ref b] ∧ s.IntsAt b xs ∧ xs.length ≤ 3072 ∧ (Jvm.Cond.and given_1 narrow_1).before args s = true
def lw_Q (_ : Array Value) (s : State) (o : Outcome) (t : State) : Prop := o = .returned (some (.int 1)) ∧ Framed s o t [] 601024 7293034
def lw_Z (below : List Frame) (a : Array Value) (s : State) : State → Prop := fun t => ∃ o, t.status = .running ∧ Ended t below o ∧ lw_Q a s o t
/-- the law's own end, with 1 on the stack, nothing written that was there before, its room as the claim has it -/
theorem lw_ret {p : Program} {l : Launch} {e : Env} {s : State} {m : MethodId} {below : List Frame} {meth : Method} {c : Code} {b : Nat} (hx : p.tables.exec = Jvm.exec) (hb : c.code = code) (hr : meth.sig.returnType = ret) (hlocks : meth.locks = false) {pc : Nat} {H : Heap} {ls : Array Slot} (hdg : decode code pc = .ok (.ireturn, 1)) : W p l e room_1 s m #[Value.ref b] below meth c H [] 601024 7293034 (lw_Z below #[Value.ref b] s) (F0 m pc ls [.int 1]) := by
  intro T hT X
  obtain ⟨fs, hret, hrun, hended, hW, hframe⟩ := X.leave (v := some (.int 1)) (hlocks := hlocks) (fun h => by rw [hr] at h; cases h)
  have hmeth' : T.vm.method? m = some meth := X.method'
  refine ⟨T.setFrames fs, ?_, .returned (some (.int 1)), hrun, hended, rfl, ⟨_, rfl⟩, hW, hframe⟩
  jvm_step X.here [X.here.top, hx, hb, hdg, hmeth', hr, ret, narrow_b1]
  (try refine ⟨rfl, ?_⟩); (try refine ⟨rfl, ?_⟩)
  first | (intro acts; rw [hret _ acts rfl rfl rfl]) | rw [hret _ _ rfl rfl rfl]
  exact Steps.refl _
/-- what holds at the law's entry: the machine, the code, the tables' words (any of lw_tbl by 'hts w (by decide +kernel)'), the script of L ints xs at the cell b, what the Statement gives of the start (any of its parts by flat_of_before) -/
def lw_At (p : Program) (s : State) (m : MethodId) (meth : Method) (c : Code) (b L : Nat) (xs : Nat → Int32) : Prop :=
  p.tables.exec = Jvm.exec ∧ c.code = code ∧ meth.sig.returnType = ret ∧ c.maxLocals = 7 ∧ s.vm.findClass R_law = some m.cls ∧ (∀ w ∈ lw_tbl, w.before #[Value.ref b] s = true) ∧ va_X b L xs s s.heap ∧ b < s.heap.size ∧ meth.locks = false ∧ (Jvm.Cond.and given_1 narrow_1).before #[Value.ref b] s = true
/-! ===== the law: what stands at its entry ===== -/
theorem ka_prim {args : Array Value} {s : State} {ty : FieldType} (h : (Cond.arrayClass ty).before args s = true) (hp : ∀ cA, s.vm.findClass ("[" ++ ty.toString) = some cA → va_RA s cA ty) : ∃ cA, ArrOfT s cA ty ∧ va_RA s cA ty := by
  obtain ⟨cA, kA, comp, h1, h2, h3⟩ := Cond.arrayClass_spec h
  exact ⟨cA, fun n z => ⟨fun k h => (by cases h), kA, h2, comp, h3⟩, hp cA h1⟩
theorem ka_obj {args : Array Value} {s : State} {C : String} (h : (Cond.arrayOver (.object C)).before args s = true) : ∃ cA, ArrOfT s cA (.object C) ∧ va_RA s cA (.object C) := by
  obtain ⟨comp, cA, kA, h1, h2, h3, h4, h5⟩ := Cond.arrayOver_spec h
  exact ⟨cA, fun n z => ⟨fun k h => (by cases h), kA, h3, comp, h4⟩, kA, comp, h3, h4, h1, h5⟩
def PS0 : PS := ([], (fun _ => 0), (fun _ _ => 0), (fun _ _ => none), (fun _ => 0), (fun _ _ => 0), (fun _ _ => none))
theorem Wd_0 {G : va_G} {cy : Nat → ClassId} {A : Nat → Prop} {H : Heap} : Wd G cy A H PS0 H [] := ⟨fun k q h => by simp [pool, va_pl, pL, PS0] at h, ⟨fun i j p q h => by simp [pool, va_pl, pL, PS0] at h, fun k q h => by simp [pool, va_pl, pL, PS0] at h⟩, va_S.rf⟩
theorem GX_0 : GX PS0 := fun a ha => by cases ha
theorem str_of {args : Array Value} {s : State} {A : Nat → Prop} {own tx : String} {k N : Nat} {f : Nat → Int32} (hN : N < 2 ^ 31) (h0 : (Cond.stringRef own k tx).before args s = true) (hex : (Cond.exactly (.string own k) "java/lang/String").before args s = true) (hco : (Cond.eq (.field (.string own k) "java/lang/String" "coder" "B") (.int 0)).before args s = true) (har : (Cond.arrayOf (.field (.string own k) "java/lang/String" "value" "[B") .byte).before args s = true) (hle : (Cond.eq (.length (.field (.string own k) "java/lang/String" "value" "[B")) (.int (Int32.ofNat N))).before args s = true) (hel : ∀ j : Nat, j < N → (Cond.eq (.elem (.field (.string own k) "java/lang/String" "value" "[B") (.int (Int32.ofNat j))) (.int (f j))).before args s = true) (hA : ∀ a : Nat, a < s.heap.size → ¬ A a) : ∃ a v : Nat, vk_R own k tx a s ∧ va_O "java/lang/String" a A s s.heap ∧ va_OF "java/lang/String" "coder" "B" (.int 0) a A s s.heap ∧ va_OF "java/lang/String" "value" "[B" (.ref v) a A s s.heap ∧ va_T .byte v N (fun j => .int (f j)) A s s.heap := by
  obtain ⟨a, _, _, _, ha, -⟩ := Cond.exactly_spec hex
  obtain ⟨v, hv, hT⟩ := va_Tof (f := fun j => .int (f j)) hN har (va_eqt hle) (fun j hj => va_eqt (hel j hj)) hA
  exact ⟨a, v, vk_R.of h0 ha, va_Oof hex ha hA, vk_OFof ha (va_eqt hco) hA, vk_OFof ha hv hA, hT⟩
theorem mem_h {big : List Cond} (ws : List Cond) (gs ps : List Nat) (hp : lEq ws (ps.filterMap (fun i => (pkG gs big)[i]?)) = true) : ∀ w ∈ ws, w ∈ big := by
  intro w hw
  rw [lEq_ok hp] at hw
  obtain ⟨i, -, hi⟩ := List.mem_filterMap.mp hw
  exact pkG_in _ _ _ (List.mem_of_getElem? hi)
def strV (i : Nat) : Term := .field (.string (strO i) (strX i)) "java/lang/String" "value" "[B"
def strE (i j : Nat) : Cond := .eq (.elem (strV i) (.int (Int32.ofNat j))) (.int (strB i j))
def strW (i : Nat) : List Cond := Cond.exactly (.string (strO i) (strX i)) "java/lang/String" :: Cond.eq (.field (.string (strO i) (strX i)) "java/lang/String" "coder" "B") (.int 0) :: Cond.arrayOf (strV i) .byte :: Cond.eq (.length (strV i)) (.int (Int32.ofNat (strN i))) :: (List.range (strN i)).map (strE i)
set_option maxRecDepth 100000 in
theorem law_W : ∀ w ∈ (List.range 26).flatMap strW, w ∈ flatC (Jvm.Cond.and given_1 narrow_1) := mem_h _ [50, 0, 0, 0, 0, 0, 0, 0, 0, 0, 0, 0, 0, 0, 0, 0, 0, 0, 0, 0, 0, 0, 0, 0, 0, 0, 0, 0, 0, 0, 0, 0, 0, 0, 0, 0, 0, 0, 0, 0, 0, 0, 0, 0, 0, 0, 0, 0, 0, 0, 0, 0, 0, 0, 0, 0, 0, 0, 0, 0, 0, 0, 0, 0, 0, 0, 0, 0, 0, 0, 0, 0, 0, 0, 0, 0, 0, 0, 0, 0, 0, 0, 0, 0, 0, 0, 0, 0, 0, 0, 0, 0, 0, 0, 0, 0, 0, 0, 0, 0, 0, 0, 0, 0, 0, 0, 0, 0, 0, 0, 0, 0, 0, 0, 0, 0, 0, 0, 0, 0, 0, 0, 0, 0, 0, 0, 0, 0, 0, 0, 0, 0, 0, 0, 0, 0, 0, 0, 0, 0, 0, 0, 0, 0, 0, 0, 0, 0, 0, 0, 0, 0, 0, 0, 0, 0, 0, 0, 0, 0, 0, 0, 0, 0, 0, 0, 0, 0, 0, 0, 0, 0, 0, 0, 0, 0, 0, 0, 0, 0, 0, 0, 0, 0, 0, 0, 0, 0, 0, 0, 0, 0, 0, 0, 0, 0, 0, 0, 1, 0, 0, 0, 0, 0, 0, 0, 0, 0, 0, 0, 0, 0, 0, 0, 0, 0, 0, 0, 0, 0, 0, 0, 0, 0, 0, 0, 0, 0, 0, 0, 0, 0, 0, 0, 0, 0, 0, 0, 0, 0, 0, 0, 0, 0, 0, 0, 0, 0, 0, 0, 0, 0, 0, 0, 0, 0, 0, 0, 0, 0, 0, 0, 0, 0, 0, 0, 0, 0, 0, 0, 0, 0, 0, 0, 0, 0, 0, 0, 0, 0, 0, 0, 0, 0, 0, 0, 0, 0, 0, 0, 0, 0, 0, 0, 1, 0, 0, 0, 0, 0, 0, 0, 0, 0] [118, 119, 120, 121, 122, 123, 124, 125, 126, 127, 128, 129, 130, 131, 132, 133, 134, 135, 136, 137, 138, 139, 140, 141, 142, 143, 144, 145, 146, 147, 148, 149, 150, 151, 152, 153, 154, 155, 156, 157, 158, 159, 160, 161, 162, 163, 164, 165, 166, 167, 168, 169, 170, 171, 172, 173, 174, 175, 176, 177, 178, 179, 180, 181, 182, 183, 184, 185, 186, 187, 188, 189, 190, 191, 0, 1, 2, 3, 4, 5, 111, 112, 113, 114, 115, 116, 117, 54, 55, 56, 57, 58, 59, 60, 61, 62, 63, 64, 65, 66, 67, 68, 69, 70, 71, 72, 73, 74, 75, 76, 77, 78, 79, 80, 81, 82, 83, 84, 85, 86, 87, 88, 89, 90, 91, 92, 93, 94, 95, 96, 97, 98, 99, 100, 101, 102, 103, 104, 105, 106, 107, 108, 109, 110, 6, 7, 8, 9, 10, 11, 12, 13, 14, 15, 16, 17, 18, 19, 20, 21, 22, 23, 24, 25, 26, 27, 28, 29, 30, 31, 32, 33, 34, 35, 36, 37, 38, 39, 40, 41, 42, 43, 44, 45, 46, 47, 48, 49, 50, 51, 52, 53, 232, 233, 234, 235, 236, 237, 238, 239, 240, 241, 242, 243, 244, 245, 246, 247, 248, 249, 250, 251, 252, 253, 254, 255, 256, 257, 258, 259, 260, 261, 262, 263, 264, 265, 266, 267, 268, 269, 270, 271, 272, 273, 274, 275, 276, 277, 278, 279, 280, 281, 282, 283, 284, 285, 286, 192, 193, 194, 195, 196, 197, 198, 199, 200, 201, 202, 203, 204, 205, 206, 207, 208, 209, 210, 211, 212, 213, 214, 215, 216, 217, 218, 219, 220, 221, 222, 223, 224, 225, 226, 227, 228, 229, 230, 231, 287, 288, 289, 290, 291, 292, 293, 294, 295, 296, 297, 298, 299, 300, 301, 302, 303] (by decide +kernel)
set_option maxRecDepth 100000 in
theorem law_R : ∀ w ∈ (List.range 26).map (fun i => Cond.stringRef (strO i) (strX i) (strT i)), w ∈ lw_tbl := mem_h _ [668, 56, 0, 0, 0, 0, 0, 20, 0, 0, 0, 0, 0, 0, 12, 456, 47, 308, 6, 12, 0, 0, 0, 4, 0, 4] [15, 16, 0, 14, 7, 8, 9, 10, 11, 12, 13, 1, 2, 3, 4, 5, 6, 19, 20, 21, 22, 17, 18, 23, 24, 25] (by decide +kernel)
theorem law_w1 {i : Nat} (hi : i < 26) {w : Cond} (h : w ∈ strW i) : w ∈ flatC (Jvm.Cond.and given_1 narrow_1) := law_W w (List.mem_flatMap.mpr ⟨i, List.mem_range.mpr hi, h⟩)
theorem law_str {args : Array Value} {s : State} {A : Nat → Prop} (hts : ∀ w ∈ lw_tbl, w.before args s = true) (hgv : (Jvm.Cond.and given_1 narrow_1).before args s = true) (hA : ∀ a : Nat, a < s.heap.size → ¬ A a) : ∀ i, i < 26 → ∃ a v : Nat, vk_R (strO i) (strX i) (strT i) a s ∧ va_O "java/lang/String" a A s s.heap ∧ va_OF "java/lang/String" "coder" "B" (.int 0) a A s s.heap ∧ va_OF "java/lang/String" "value" "[B" (.ref v) a A s s.heap ∧ va_T .byte v (strN i) (fun j => .int (strB i j)) A s s.heap := fun i hi => by
  have hf := flat_of_before _ hgv
  have hn : ∀ i, i < 26 → strN i < 64 := by decide +kernel
  exact str_of (Nat.lt_of_lt_of_le (hn i hi) (by decide)) (hts _ (law_R _ (List.mem_map.mpr ⟨i, List.mem_range.mpr hi, rfl⟩))) (hf _ (law_w1 hi List.mem_cons_self)) (hf _ (law_w1 hi (List.mem_cons_of_mem _ List.mem_cons_self))) (hf _ (law_w1 hi (List.mem_cons_of_mem _ (List.mem_cons_of_mem _ List.mem_cons_self)))) (hf _ (law_w1 hi (List.mem_cons_of_mem _ (List.mem_cons_of_mem _ (List.mem_cons_of_mem _ List.mem_cons_self))))) (fun j hj => hf _ (law_w1 hi (List.mem_cons_of_mem _ (List.mem_cons_of_mem _ (List.mem_cons_of_mem _ (List.mem_cons_of_mem _ (List.mem_map.mpr ⟨j, List.mem_range.mpr hj, rfl⟩))))))) hA
theorem ch1 {P : Nat → Nat → Prop} {N : Nat} (h : ∀ i, i < N → ∃ a, P i a) : ∃ f : Nat → Nat, ∀ i, i < N → P i (f i) := ⟨fun i => if h' : i < N then Classical.choose (h i h') else 0, fun i hi => by
  show P i (if h' : i < N then Classical.choose (h i h') else 0)
  rw [dif_pos hi]; exact Classical.choose_spec (h i hi)⟩
set_option maxRecDepth 100000 in
theorem law_T : ∀ w ∈ (List.range 8).map (fun j => Cond.eq (.elem (.static RX11 "THIN" "[I") (.int (Int32.ofNat j))) (.int (thinF j))), w ∈ flatC (Jvm.Cond.and given_1 narrow_1) := mem_h _ [7, 0, 0, 0, 0, 0, 0, 0] [0, 1, 2, 3, 4, 5, 6, 7] (by decide +kernel)
theorem law_Cst {args : Array Value} {s : State} (hts : ∀ w ∈ lw_tbl, w.before args s = true) (hgv : (Jvm.Cond.and given_1 narrow_1).before args s = true) : ∃ κ : Nat → Nat, Cst κ (fun q : Nat => s.heap.size ≤ q) s s.heap := by
  have hA : ∀ a : Nat, a < s.heap.size → ¬ (fun q : Nat => s.heap.size ≤ q) a := fun a h => Nat.not_le.mpr h
  have hf := flat_of_before _ hgv
  have hs := law_str hts hgv hA
  obtain ⟨fa, hfa⟩ := ch1 hs
  obtain ⟨fv, hfv⟩ := ch1 hfa
  obtain ⟨t0, ht0, hT0⟩ := va_Tof (tm := .static RX11 "THIN" "[I") (ty := .int) (N := 8) (f := fun j => .int (thinF j)) (by decide) (hf (.arrayOf (.static RX11 "THIN" "[I") .int) (by decide +kernel)) (va_eqt (hf (.eq (.length (.static RX11 "THIN" "[I")) (.int 8)) (by decide +kernel))) (fun j hj => va_eqt (hf _ (law_T _ (List.mem_map.mpr ⟨j, List.mem_range.mpr hj, rfl⟩)))) hA
  refine ⟨fun n => if n = 0 then t0 else if n < 200 then fa (n - 100) else fv (n - 200), ?_, hT0, vx_Zqof (hts (.laysStatic Bundle.tN "UNASSIGNED_STACK" Bundle.steD) (by decide +kernel)) (hts (.initialized Bundle.tN) (by decide +kernel)) (hf (.isRef (.static Bundle.tN "UNASSIGNED_STACK" Bundle.steD)) (by decide +kernel)) hA, vx_Zqof (hts (.laysStatic Bundle.tN "SUPPRESSED_SENTINEL" Bundle.listD) (by decide +kernel)) (hts (.initialized Bundle.tN) (by decide +kernel)) (hf (.isRef (.static Bundle.tN "SUPPRESSED_SENTINEL" Bundle.listD)) (by decide +kernel)) hA, va_Zof (hts (.laysStatic "java/lang/String" "COMPACT_STRINGS" "Z") (by decide +kernel)) (hts (.initialized "java/lang/String") (by decide +kernel)) (va_eqt (hf (.eq (.static "java/lang/String" "COMPACT_STRINGS" "Z") (.int 1)) (by decide +kernel))) hA, va_Zqof (hts (.laysStatic "jdk/internal/util/Preconditions" "SIOOBE_FORMATTER" "Ljava/util/function/BiFunction;") (by decide +kernel)) (hts (.initialized "jdk/internal/util/Preconditions") (by decide +kernel)) (hf (.isRef (.static "jdk/internal/util/Preconditions" "SIOOBE_FORMATTER" "Ljava/util/function/BiFunction;")) (by decide +kernel)) hA, fun i hi => ?_⟩
  · exact va_Zof (hts (.laysStatic RX11 "THIN" "[I") (by decide +kernel)) (hts (.initialized RX11) (by decide +kernel)) ht0 hA
  · have h := hfv i hi
    unfold StC
    show vk_R _ _ _ (if 100 + i = 0 then t0 else if 100 + i < 200 then fa (100 + i - 100) else fv (100 + i - 200)) s ∧ va_O _ (if 100 + i = 0 then t0 else if 100 + i < 200 then fa (100 + i - 100) else fv (100 + i - 200)) _ _ _ ∧ va_OF _ _ _ _ (if 100 + i = 0 then t0 else if 100 + i < 200 then fa (100 + i - 100) else fv (100 + i - 200)) _ _ _ ∧ va_OF _ _ _ (.ref (if 200 + i = 0 then t0 else if 200 + i < 200 then fa (200 + i - 100) else fv (200 + i - 200))) (if 100 + i = 0 then t0 else if 100 + i < 200 then fa (100 + i - 100) else fv (100 + i - 200)) _ _ _ ∧ va_T _ (if 200 + i = 0 then t0 else if 200 + i < 200 then fa (200 + i - 100) else fv (200 + i - 200)) _ _ _ _ _
    rw [if_neg (show ¬ 100 + i = 0 by omega), if_pos (show 100 + i < 200 by omega), if_neg (show ¬ 200 + i = 0 by omega), if_neg (show ¬ 200 + i < 200 by omega), show 100 + i - 100 = i by omega, show 200 + i - 200 = i by omega]
    exact h
section LROWS4
variable {p : Program} {l : Launch} {e : Env} {R : Room} {s : State} {m : MethodId} {args : Array Value} {below : List Frame} {meth : Method} {c : Code} {H : Heap} {locs : List Loc} {cells slots : Nat} {Q : State → Prop}
variable {cc : ByteArray} {pc nL : Nat} {ls : Array Slot} {rest : List Value} {Ts : List Cond} {own ref : String} {G : va_G} {cy : Nat → ClassId} {κ : Nat → Nat} {A : Nat → Prop} {S : PS} {a k0 k index kc ks oq : Nat} {cL : ClassId}
theorem r_newJ (X : Cx p c cc nL s args Ts own m G cy κ A) (hw : Wd G cy A s.heap S H locs) (n2 c2 : Nat) (harr : (Cond.arrayClass .long).before args s = true) (h1 : cells + 1 ≤ c2) (h2 : slots + 1 ≤ n2) (h3 : c2 ≤ R.cells) (h4 : n2 ≤ R.slots) (hdg : decode cc pc = .ok (.newarray .long, 2))
    (kk : ∀ (q : Nat) (H1 : Heap) (cL : ClassId), q ∉ pL S → A q → Kl cL s → LA cL q H1 → Wd G cy A s.heap S H1 locs → W p l e R s m args below meth c H1 locs c2 n2 Q (F0 m (pc + 2) ls (.ref q :: rest))) : W p l e R s m args below meth c H locs cells slots Q (F0 m pc ls (.int 1 :: rest)) := by
  obtain ⟨hx, hb, -, hts, hown, hK, hA, -⟩ := X
  obtain ⟨hP, hD, hS⟩ := hw
  refine va_newa (atype := .long) (ty := .long) (a0 := (1, .inr (.inl (fun _ => 0)))) (N' := 1) hx hb harr rfl hK hP hD hS hA (fun cA => rfl) (by decide) (by decide) (by decide) (Nat.le_trans h1 h3) (Nat.le_trans h2 h4) hdg (fun q cA H1 hK1 hP1 hD1 hS1 => ?_)
  exact W.widen h1 h2 (kk q H1 cA (pl_fresh hD1) (hD1.2 (pool cy S).length (q, .inl (cA, (1, .inr (.inl (fun _ => 0))))) (by simp)) (hK1.2 7 _ rfl) ⟨_, va_P_r hP1 0 _ rfl⟩ ⟨va_P_l hP1, va_D_l hD1, hS1⟩)
theorem k_gi2 {rm : Room} {av : List Value} {post : Int32 → PS → Prop} {st0 : List Value} (X : Cx p c cc nL s args Ts own m G cy κ A) (hw : Wd G cy A s.heap S H locs) (hrun : va_Run p l e R s m args below meth c H locs cells slots rm.cells rm.slots (F0 m pc ls st0) rest (va_Qi post (Bg G cy S H.size (hs H) kc ks) (AS S H.size) av.toArray) (AS S H.size))
    (kk : ∀ (r : Int32) (S' : PS) (H1 : Heap) (locs1 : List Loc) (c2 n2 : Nat), c2 + Phc S' = cells + Phc S + kc → n2 + Phs S' = slots + Phs S + ks → post r S' → Wd G cy A s.heap S' H1 locs1 → (∀ q, q < H.size → q ∉ pL S → H1[q]? = H[q]?) → (∀ q ∈ pL S', q ∈ pL S ∨ H.size ≤ q) → W p l e R s m args below meth c H1 locs1 c2 n2 Q (F0 m (pc + 3) ls (.int r :: rest))) : W p l e R s m args below meth c H locs cells slots Q (F0 m pc ls st0) := by
  refine W.know (fun a0 a1 a2 a3 => ?_)
  refine va_calli hrun hw.2.2 (fun q _ h => as_in X hw q h) (as_in X hw) (fun r S' t H1 locs1 ht hvm hp hB hz hk hS => ?_)
  obtain ⟨hB1, hB2, hB3⟩ := hB
  rw [ht] at hB2 hB3
  refine W.know (fun b0 b1 b2 b3 => ?_)
  exact W.narrow (k := cells + Phc S + kc - Phc S') (n := slots + Phs S + ks - Phs S') (by omega) (by omega) (kk r S' H1 locs1 _ _ (by omega) (by omega) hp (bw_of X hw ht hB1 hS) (fun q hq hn => hk q hq (fun h => h.elim hn (fun h => absurd hq (Nat.not_lt.mpr h)))) (bw_new hB1))
end LROWS4
theorem LA_keep {cL : ClassId} {oq : Nat} {H H1 : Heap} {S : PS} (h : LA cL oq H) (ho : oq ∉ pL S) (hfr : ∀ q, q < H.size → q ∉ pL S → H1[q]? = H[q]?) : LA cL oq H1 := by
  obtain ⟨f, hf⟩ := h
  exact ⟨f, (hfr oq (Array.getElem?_eq_some_iff.mp hf).1 ho).trans hf⟩
theorem oq_keep {cL : ClassId} {oq : Nat} {H : Heap} {S S' : PS} (h : LA cL oq H) (ho : oq ∉ pL S) (hnw : ∀ q ∈ pL S', q ∈ pL S ∨ H.size ≤ q) : oq ∉ pL S' := fun z => by
  obtain ⟨f, hf⟩ := h
  rcases hnw oq z with w | w
  · exact ho w
  · exact absurd (Array.getElem?_eq_some_iff.mp hf).1 (Nat.not_lt.mpr w)
theorem GR_fr {M : List Nat} {S S' : PS} {x : Nat} (hG : GX S) (ha : At S x 12) (hF : Fr M S S') (c1 : M.contains 1237 = false) (c2 : M.contains (10000 + 954) = false) (h : GR S x) : GR S' x := GR_eq (zA_fr hF ha (ex3 (gQ_12_1237 hG ha)) c1 c2) h
section LROWS5
variable {p : Program} {l : Launch} {e : Env} {R : Room} {s : State} {m : MethodId} {args : Array Value} {below : List Frame} {meth : Method} {c : Code} {H : Heap} {locs : List Loc} {cells slots : Nat} {Q : State → Prop}
variable {cc : ByteArray} {pc nL : Nat} {ls : Array Slot} {rest : List Value} {Ts : List Cond} {own ref : String} {G : va_G} {cy : Nat → ClassId} {κ : Nat → Nat} {A : Nat → Prop} {S : PS} {a k0 k index oq : Nat} {cL : ClassId}
theorem as2_in (X : Cx p c cc nL s args Ts own m G cy κ A) (hw : Wd G cy A s.heap S H locs) (hAo : A oq) : ∀ q, AS2 S H.size oq q → A q := fun q h => by
  rcases h with h | h | h
  · exact as_in X hw q (Or.inl h)
  · exact as_in X hw q (Or.inr h)
  · rw [h]; exact hAo
theorem qo_blind {av : List Value} {sz : Nat} : FrameBlind (va_Pc av (Qo G cy κ S sz oq cL)) := fun a U g mk q => by
  obtain ⟨q0, q1, qP, qK, qD, qN, qC, qd, qk, qL⟩ := q
  exact ⟨q0, q1, qP, va_K.moved (u := U) (U := U.calling g mk a) (Vm.Alike.refl U.vm) qK, qD, NG_same (s := U) rfl qN, Cst.same (u := U) (U := U.calling g mk a) rfl qC, fun Y hY => va_Nw.same (u := U) (U := U.calling g mk a) rfl rfl (qd Y hY), ⟨arrOfT_moved (show U.vm.Alike (U.calling g mk a).vm from Vm.Alike.refl U.vm) qk.1, qk.2.moved (u := U) (U := U.calling g mk a) (Vm.Alike.refl U.vm)⟩, qL⟩
theorem pre_SO (X : Cx p c cc nL s args Ts own m G cy κ A) (hw : Wd G cy A s.heap S H locs) (hd : ∀ Y ∈ DcL, va_Nw (.declares (Bundle.initS Y)) s) (hkl : Kl cL s) (hLA : LA cL oq H) (hAo : A oq) (av : List Value) : PreS s H (va_Pc av (Qo G cy κ S H.size oq cL)) av := ⟨qo_blind, fun U hU hW => ⟨rfl, by rw [hU], by rw [hU]; exact hw.1, va_K.moved hW.alike X.2.2.2.2.2.1, hw.2.1.weaken (fun _ _ _ _ => trivial), NG_warm hW X.2.2.2.2.2.2.2.1, by rw [hU]; exact ((X.2.2.2.2.2.2.2.2.kept hw.2.2.2.1).narrow (as2_in X hw hAo)).warm hW, fun Y hY => va_Nw.warmD hW (hd Y hY), ⟨arrOfT_moved hW.alike hkl.1, hkl.2.moved hW.alike⟩, by rw [hU]; exact hLA⟩⟩
theorem k_out {rm : Room} {av : List Value} {post : Int32 → PS → Prop} {st0 : List Value} (X : Cx p c cc nL s args Ts own m G cy κ A) (hw : Wd G cy A s.heap S H locs) (hAo : A oq) (hrun : va_Run p l e R s m args below meth c H locs cells slots rm.cells rm.slots (F0 m pc ls st0) rest (va_Qi post (Bo G cy S H.size oq cL) (AS2 S H.size oq) av.toArray) (AS2 S H.size oq)) (hpost : ∀ r S', post r S' → S = S') (c2 n2 : Nat) (h1 : cells + rm.cells ≤ c2) (h2 : slots + rm.slots ≤ n2)
    (kk : ∀ (r : Int32) (H1 : Heap) (locs1 : List Loc), Wd G cy A s.heap S H1 locs1 → LA cL oq H1 → W p l e R s m args below meth c H1 locs1 c2 n2 Q (F0 m (pc + 3) ls (.int r :: rest))) : W p l e R s m args below meth c H locs cells slots Q (F0 m pc ls st0) := by
  refine va_calli hrun hw.2.2 (fun q _ h => as2_in X hw hAo q h) (as2_in X hw hAo) (fun r S' t H1 locs1 ht hvm hp hB hz hk hS => ?_)
  have hS' := hpost r S' hp
  subst hS'
  exact W.widen h1 h2 (kk r H1 locs1 ⟨by rw [← ht]; exact hB.1.1, hB.1.2.weaken (fun _ q _ h => as2_in X hw hAo q.1 h), hS⟩ (by rw [← ht]; exact hB.2))
end LROWS5
def TDL : List Nat := [1107, 801, 1245, 1102, 1201, 1104, 1211, 1105, 1000, 1228, 1103, 10018]
theorem TDc {M : List Nat} (hM : TDL.all (fun g => !M.contains g) = true) {g : Nat} (hg : g ∈ TDL) : M.contains g = false := by
  have h := List.all_eq_true.mp hM g hg
  cases e : M.contains g
  · rfl
  · rw [e] at h; cases h
def thL : List Nat := [1210, 10414]
def Hid (p : Prop) : Prop := p
theorem mkhid {p : Prop} (h : p) : Hid p := h
theorem unhid {p : Prop} (h : Hid p) : p := h
theorem tieP {c1 : Prop} {r1 n1 m1 : Int} (hc : c1) (h1 : (c1 ∧ r1 = n1 ∧ m1 = n1 + 1) ∨ (¬ (c1) ∧ r1 = -1 ∧ m1 = n1)) : m1 = n1 + 1 := by
  rcases h1 with h | h
  · exact h.2.2
  · exact absurd hc h.1
theorem tie2 {c1 c2 : Prop} {r1 r2 n1 n2 m1 m2 : Int} (hc : c1 ↔ c2) (h1 : (c1 ∧ r1 = n1 ∧ m1 = n1 + 1) ∨ (¬ (c1) ∧ r1 = -1 ∧ m1 = n1)) (h2 : (c2 ∧ r2 = n2 ∧ m2 = n2 + 1) ∨ (¬ (c2) ∧ r2 = -1 ∧ m2 = n2)) (hn : n1 = n2) : m1 = m2 ∧ r1 = r2 := by
  rcases h1 with ⟨a, b, c⟩ | ⟨a, b, c⟩ <;> rcases h2 with ⟨d, e, f⟩ | ⟨d, e, f⟩
  · exact ⟨by rw [c, f, hn], by rw [b, e, hn]⟩
  · exact absurd (hc.mp a) d
  · exact absurd (hc.mpr d) a
  · exact ⟨by rw [c, f, hn], by rw [b, e]⟩
def TD (S : PS) (x mo : Nat) : Prop := (∃ q, pR S 1107 x = some q ∧ At S q 8 ∧ pI S 801 q = pI S 1245 mo) ∧ (pI S 1102 x).toInt = (pI S 1201 mo).toInt ∧ (pI S 1104 x).toInt = (pI S 1211 mo).toInt ∧ (∃ u, pR S 1105 x = some u ∧ At S u 10 ∧ (pI S 1000 u).toInt = (pI S 1228 mo).toInt) ∧ PN S x ∧ CT S x mo ∧ mA S mo 1210 = thinF ∧ TX S x mo
theorem TH_fr {M : List Nat} {S S' : PS} {mo : Nat} (hG : GX S) (hF : Fr M S S') (hm : At S mo 12) (hM : thL.all (fun g => !M.contains g) = true) (h : mA S mo 1210 = thinF) : mA S' mo 1210 = thinF := (mA_fr hF hm (ex3 (gQ_12_1210 hG hm)) (allc hM (by decide)) (allc hM (by decide))).trans h
theorem TD_fr {M : List Nat} {S S' : PS} {x mo : Nat} (hG : GX S) (hF : Fr M S S') (hx : At S x 11) (hm : At S mo 12) (hM : TDL.all (fun g => !M.contains g) = true) (m1 : ctC.all (fun g => !M.contains g) = true) (m2 : coL.all (fun g => !M.contains g) = true) (m3 : ctR.all (fun g => !M.contains g) = true) (m4 : thL.all (fun g => !M.contains g) = true) (m5 : txL.all (fun g => !M.contains g) = true) (h : TD S x mo) : TD S' x mo := by
  obtain ⟨⟨q, a, b, d⟩, h1, h2, ⟨u, u1, u2, u3⟩, h3, h4, h5, h6⟩ := h
  refine ⟨⟨q, hF.R' (TDc hM (by decide)) hx a, hF.at b, (hF.I' (TDc hM (by decide)) b rfl).trans (d.trans (hF.I' (TDc hM (by decide)) hm rfl).symm)⟩, ?_, ?_, ⟨u, hF.R' (TDc hM (by decide)) hx u1, hF.at u2, ?_⟩, PN_fr hG hx hF (TDc hM (by decide)) (TDc hM (by decide)) (TDc hM (by decide)) h3, CT_eq hG hF hx m1 m2 (S12_fr hG hF hm m3) h4, TH_fr hG hF hm m4 h5, TX_fr hG hF hx hm m5 h6⟩
  · rw [hF.I' (TDc hM (by decide)) hx rfl, hF.I' (TDc hM (by decide)) hm rfl]; exact h1
  · rw [hF.I' (TDc hM (by decide)) hx rfl, hF.I' (TDc hM (by decide)) hm rfl]; exact h2
  · rw [hF.I' (TDc hM (by decide)) u2 rfl, hF.I' (TDc hM (by decide)) hm rfl]; exact u3
theorem law_known {args : Array Value} {s : State} (hts : ∀ w ∈ lw_tbl, w.before args s = true) : ∃ (G : va_G) (cy : Nat → ClassId), va_K G vwCl (tysL cy) s := by
  obtain ⟨c0, iS0, hK0⟩ := u_known (C := RX0) (T := TX0) (N := 10) (n := 10) hts glx_0 (hts (.instantiable RX0 10) (by decide +kernel))
  obtain ⟨c1, iS1, hK1⟩ := u_known (C := RX1) (T := TX1) (N := 4) (n := 4) hts glx_1 (hts (.instantiable RX1 4) (by decide +kernel))
  obtain ⟨c2, iS2, hK2⟩ := u_known (C := RX2) (T := TX2) (N := 8) (n := 8) hts glx_2 (hts (.instantiable RX2 8) (by decide +kernel))
  obtain ⟨c3, iS3, hK3⟩ := u_known (C := RX3) (T := TX3) (N := 5) (n := 5) hts glx_3 (hts (.instantiable RX3 5) (by decide +kernel))
  obtain ⟨c4, iS4, hK4⟩ := u_known (C := RX4) (T := TX4) (N := 12) (n := 12) hts glx_4 (hts (.instantiable RX4 12) (by decide +kernel))
  obtain ⟨c5, iS5, hK5⟩ := u_known (C := RX5) (T := TX5) (N := 3) (n := 3) hts glx_5 (hts (.instantiable RX5 3) (by decide +kernel))
  obtain ⟨c6, iS6, hK6⟩ := u_known (C := RX6) (T := TX6) (N := 7) (n := 7) hts glx_6 (hts (.instantiable RX6 7) (by decide +kernel))
  obtain ⟨c7, iS7, hK7⟩ := u_known (C := RX7) (T := TX7) (N := 10) (n := 10) hts glx_7 (hts (.instantiable RX7 10) (by decide +kernel))
  obtain ⟨c8, iS8, hK8⟩ := u_known (C := RX8) (T := TX8) (N := 13) (n := 13) hts glx_8 (hts (.instantiable RX8 13) (by decide +kernel))
  obtain ⟨c9, iS9, hK9⟩ := u_known (C := RX9) (T := TX9) (N := 9) (n := 9) hts glx_9 (hts (.instantiable RX9 9) (by decide +kernel))
  obtain ⟨c10, iS10, hK10⟩ := u_known (C := RX10) (T := TX10) (N := 7) (n := 7) hts glx_10 (hts (.instantiable RX10 7) (by decide +kernel))
  obtain ⟨c11, iS11, hK11⟩ := u_known (C := RX11) (T := TX11) (N := 12) (n := 12) hts glx_11 (hts (.instantiable RX11 12) (by decide +kernel))
  obtain ⟨c12, iS12, hK12⟩ := u_known (C := RX12) (T := TX12) (N := 66) (n := 66) hts glx_12 (hts (.instantiable RX12 66) (by decide +kernel))
  obtain ⟨a0, ha0⟩ := ka_prim (ty := .byte) (hts (.arrayClass .byte) (by decide +kernel)) (fun _ h => h)
  obtain ⟨a1, ha1⟩ := ka_prim (ty := .int) (hts (.arrayClass .int) (by decide +kernel)) (fun _ h => h)
  obtain ⟨a2, ha2⟩ := ka_prim (ty := .boolean) (hts (.arrayClass .boolean) (by decide +kernel)) (fun _ h => h)
  obtain ⟨a3, ha3⟩ := ka_obj (C := "SilkMill$Cocoon") (hts (.arrayOver (.object "SilkMill$Cocoon")) (by decide +kernel))
  obtain ⟨a4, ha4⟩ := ka_obj (C := "SilkMill$Place") (hts (.arrayOver (.object "SilkMill$Place")) (by decide +kernel))
  obtain ⟨a5, ha5⟩ := ka_obj (C := "SilkMill$Pot") (hts (.arrayOver (.object "SilkMill$Pot")) (by decide +kernel))
  obtain ⟨a6, ha6⟩ := ka_obj (C := "SilkMill$Skein") (hts (.arrayOver (.object "SilkMill$Skein")) (by decide +kernel))
  refine ⟨(fun k => match k with | 0 => c0 | 1 => c1 | 2 => c2 | 3 => c3 | 4 => c4 | 5 => c5 | 6 => c6 | 7 => c7 | 8 => c8 | 9 => c9 | 10 => c10 | 11 => c11 | _ => c12, fun k => match k with | 0 => iS0 | 1 => iS1 | 2 => iS2 | 3 => iS3 | 4 => iS4 | 5 => iS5 | 6 => iS6 | 7 => iS7 | 8 => iS8 | 9 => iS9 | 10 => iS10 | 11 => iS11 | _ => iS12), fun k => match k with | 0 => a0 | 1 => a1 | 2 => a2 | 3 => a3 | 4 => a4 | 5 => a5 | _ => a6, ?_, ?_⟩
  · intro k q hq
    match k, hq with
    | 0, hq => cases hq; exact hK0
    | 1, hq => cases hq; exact hK1
    | 2, hq => cases hq; exact hK2
    | 3, hq => cases hq; exact hK3
    | 4, hq => cases hq; exact hK4
    | 5, hq => cases hq; exact hK5
    | 6, hq => cases hq; exact hK6
    | 7, hq => cases hq; exact hK7
    | 8, hq => cases hq; exact hK8
    | 9, hq => cases hq; exact hK9
    | 10, hq => cases hq; exact hK10
    | 11, hq => cases hq; exact hK11
    | 12, hq => cases hq; exact hK12
    | k + 13, hq => simp [vwCl] at hq
  · intro k q hq
    match k, hq with
    | 0, hq => cases hq; exact ha0
    | 1, hq => cases hq; exact ha1
    | 2, hq => cases hq; exact ha2
    | 3, hq => cases hq; exact ha3
    | 4, hq => cases hq; exact ha4
    | 5, hq => cases hq; exact ha5
    | 6, hq => cases hq; exact ha6
    | k + 7, hq => simp [tysL] at hq
theorem law_NG {args : Array Value} {s : State} (hts : ∀ w ∈ lw_tbl, w.before args s = true) : NG s := ⟨⟨va_AO.of (hts (.arrayOver (.object RX0)) (by decide +kernel)), va_AO.of (hts (.arrayOver (.object RX3)) (by decide +kernel)), va_AO.of (hts (.arrayOver (.object RX4)) (by decide +kernel)), va_AO.of (hts (.arrayOver (.object RX7)) (by decide +kernel))⟩, fun q hq => va_Nw.of rfl (hts _ ((by decide +kernel : ∀ q ∈ nestL, Cond.methodLinkNest q.1 q.2.1 q.2.2 RX11 ∈ lw_tbl) q hq)), va_Nw.of rfl (hts (.castable "java/lang/IndexOutOfBoundsException" "java/lang/IndexOutOfBoundsException") (by decide +kernel)), va_Nw.of rfl (hts (.castable "java/util/NoSuchElementException" "java/util/NoSuchElementException") (by decide +kernel)), va_Nw.of rfl (hts (.fieldLinkNest RX0 46 RX11 "THIN" "[I" RX11) (by decide +kernel)), va_Nw.of rfl (hts (.castable "[I" "java/lang/Cloneable") (by decide +kernel))⟩
