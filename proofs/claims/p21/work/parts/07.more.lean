theorem gRowQ {S : PS} {a : Nat} (hG : GX S) (ha : At S a 5) : ∃ q n, pR S 501 a = some q ∧ At S q 16 ∧ pN S q = n ∧ 1 ≤ n ∧ n ≤ 600 := by
  obtain ⟨q, n, a1, b1, c1, d1, d2, d3, d4, d5, d6⟩ := gRow hG ha
  exact ⟨q, n, a1, b1, c1, d1, d2⟩
theorem gRow_all {S : PS} {a q n : Nat} (hG : GX S) (ha : At S a 5) (hq : pR S 501 a = some q) (hn : pN S q = n) : At S q 16 ∧ (1 ≤ n ∧ n ≤ 600) ∧ (0 ≤ (pI S 500 a).toInt ∧ (pI S 500 a).toInt ≤ (n : Int)) ∧ (0 ≤ (pI S 502 a).toInt ∧ (pI S 502 a).toInt < (n : Int)) := by
  obtain ⟨q', n', a1, b1, c1, d1, d2, d3, d4, d5, d6⟩ := gRow hG ha
  rw [hq] at a1; cases a1
  rw [hn] at c1; subst c1
  exact ⟨b1, ⟨d1, d2⟩, ⟨d3, d4⟩, ⟨d5, d6⟩⟩
theorem gRow_500 {S : PS} {a q n : Nat} (hG : GX S) (ha : At S a 5) (hq : pR S 501 a = some q) (hn : pN S q = n) : 0 ≤ (pI S 500 a).toInt ∧ (pI S 500 a).toInt ≤ (n : Int) := (gRow_all hG ha hq hn).2.2.1
theorem gRow_502 {S : PS} {a q n : Nat} (hG : GX S) (ha : At S a 5) (hq : pR S 501 a = some q) (hn : pN S q = n) : 0 ≤ (pI S 502 a).toInt ∧ (pI S 502 a).toInt < (n : Int) := (gRow_all hG ha hq hn).2.2.2
theorem gGrwQ {S : PS} {a : Nat} (hG : GX S) (ha : At S a 29) : ∃ (q1 q2 q3 q4 n : Nat), pR S 905 a = some q1 ∧ pR S 906 a = some q2 ∧ pR S 907 a = some q3 ∧ pR S 908 a = some q4 ∧ At S q1 14 ∧ At S q2 14 ∧ At S q3 14 ∧ At S q4 14 ∧ pN S q1 = n ∧ pN S q2 = n ∧ pN S q3 = n ∧ pN S q4 = n ∧ n ≤ 3600 := by
  obtain ⟨q1, q2, q3, q4, n, a1, a2, a3, a4, b1, b2, b3, b4, c1, c2, c3, c4, d0, d1, d2⟩ := gGrw hG ha
  exact ⟨q1, q2, q3, q4, n, a1, a2, a3, a4, b1, b2, b3, b4, c1, c2, c3, c4, d2⟩
theorem gGrw_904 {S : PS} {a q n : Nat} (hG : GX S) (ha : At S a 29) (hq : pR S 905 a = some q) (hn : pN S q = n) : (0 ≤ (pI S 904 a).toInt ∧ (pI S 904 a).toInt ≤ (n : Int)) ∧ n ≤ 3600 := by
  obtain ⟨q1, q2, q3, q4, n', a1, a2, a3, a4, b1, b2, b3, b4, c1, c2, c3, c4, d0, d1, d2⟩ := gGrw hG ha
  rw [hq] at a1; cases a1
  rw [hn] at c1; subst c1
  exact ⟨⟨d0, d1⟩, d2⟩
theorem thin_rng {v : Int32} {j : Nat} (e : v = thinF j) : 0 ≤ v.toInt ∧ v.toInt ≤ 104 := by
  subst e
  have : ∀ x ∈ ([100, 104, 102, 97, 90, 81, 70, 58, 0] : List Int32), 0 ≤ x.toInt ∧ x.toInt ≤ 104 := by decide +kernel
  refine this _ ?_
  unfold thinF
  by_cases h : j < 8
  · have : ∀ i : Fin 8, ([100, 104, 102, 97, 90, 81, 70, 58] : List Int32).getD i 0 ∈ ([100, 104, 102, 97, 90, 81, 70, 58, 0] : List Int32) := by decide +kernel
    exact this ⟨j, h⟩
  · have h0 : ([100, 104, 102, 97, 90, 81, 70, 58] : List Int32)[j]? = none := List.getElem?_eq_none (by simpa using h)
    rw [List.getD_eq_getElem?_getD, h0]; decide
theorem z_max {x y v : Int32} {a b : Int} (e : v = if x < y then y else x) (hx : x.toInt = a) (hy : y.toInt = b) : a ≤ v.toInt ∧ b ≤ v.toInt ∧ (v.toInt = a ∨ v.toInt = b) := by
  subst hx hy e
  split
  · rename_i h; have := Int32.lt_iff_toInt_lt.mp h; omega
  · rename_i h; have := z_nlt rfl rfl h; omega
theorem z_min {x y v : Int32} {a b : Int} (e : v = if y < x then y else x) (hx : x.toInt = a) (hy : y.toInt = b) : v.toInt ≤ a ∧ v.toInt ≤ b ∧ (v.toInt = a ∨ v.toInt = b) := by
  subst hx hy e
  split
  · rename_i h; have := Int32.lt_iff_toInt_lt.mp h; omega
  · rename_i h; have := z_nlt rfl rfl h; omega
theorem z_and31 {x v : Int32} (e : v = x &&& 31) : 0 ≤ v.toInt ∧ v.toInt ≤ 31 := by
  subst e
  have h2 : (x &&& 31).toUInt32.toNat ≤ 31 := by
    show (x.toUInt32 &&& 31).toNat ≤ 31
    rw [UInt32.toNat_and]; exact Nat.and_le_right
  have h4 : (x &&& 31).toInt = ((x &&& 31).toUInt32.toNat : Int).bmod (2 ^ 32) := BitVec.toInt_eq_toNat_bmod _
  rw [h4, bm_id (by omega) (by omega)]
  omega
theorem z_abs {x v : Int32} {a : Int} (e : v = if 0 ≤ x then x else 0 - x) (hx : x.toInt = a) : v.toInt = a ∨ v.toInt = -a ∨ a = -2147483648 := by
  subst hx e
  split
  · exact Or.inl rfl
  · have h2 := Int32.toInt_lt x
    have h3 := Int32.le_toInt x
    by_cases h : x.toInt = -2147483648
    · exact Or.inr (Or.inr h)
    · right; left
      rw [Int32.toInt_sub, show (0 : Int32).toInt = 0 from by decide, bm_id (by omega) (by omega)]; omega
section PROWS2
variable {p : Program} {l : Launch} {e : Env} {R : Room} {s : State} {m : MethodId} {args : Array Value} {below : List Frame} {meth : Method} {c : Code} {H : Heap} {locs : List Loc} {cells slots : Nat} {Q : State → Prop}
variable {cc : ByteArray} {pc nL : Nat} {ls : Array Slot} {rest : List Value} {Ts : List Cond} {own ref : String} {G : va_G} {cy : Nat → ClassId} {κ : Nat → Nat} {A : Nat → Prop} {S : PS} {a k0 k index : Nat}
theorem r_aastN (X : Cx p c cc nL s args Ts own m G cy κ A) (hw : Wd G cy A s.heap S H locs) (ha : At S a k0) (hm : k0 % 20 = k) {C : String} (hk : 16 ≤ k) (ht : (tysL cy)[k - 13]? = some (cy (k - 13), .object C)) {i : Int32} (hi : vp_in i (pN S a)) (hdg : decode cc pc = .ok (.aastore, 1))
    (kk : ∀ (H1 : Heap) (locs1 : List Loc), Wd G cy A s.heap (sB S a (va_up (pB S a) i.toNatClampNeg none)) H1 locs1 → W p l e R s m args below meth c H1 locs1 cells slots Q (F0 m (pc + 1) ls rest)) : W p l e R s m args below meth c H locs cells slots Q (F0 m pc ls (.null :: .int i :: .ref a :: rest)) := by
  obtain ⟨hx, hb, -, hts, hown, hK, -, -, -⟩ := X
  obtain ⟨hP, hD, hS⟩ := hw
  obtain ⟨n, hn⟩ := pl_get (cy := cy) ha.1
  have hn1 := hn
  rw [PF_B ha.2 hm hk] at hn
  refine va_astqN (D := G) (C := C) hx hb hK hP hD hS n (k - 13) hn ht hi hdg (fun H1 locs1 hP1 hD1 hS1 => ?_)
  rw [pl_set (S' := sB S a (va_up (pB S a) i.toNatClampNeg none)) hD ha.1 hn1 rfl (PF_sB ha.2 hm hk)] at hP1 hD1
  exact kk H1 locs1 ⟨hP1, hD1, hS1⟩
theorem ret_l {S0 S' : PS} {post : Int64 → PS → Prop} {v : Int64} {mc ms : Nat} (X : Cx p c cc nL s args Ts own m G cy κ (AS S0 s.heap.size)) (hw : Wd G cy (AS S0 s.heap.size) s.heap S' H locs) (hr : meth.sig.returnType = some .long) (hlocks : meth.locks = false) (h1 : cells ≤ mc) (h2 : slots ≤ ms) (hp : post v S') (hdg : decode cc pc = .ok (.lreturn, 1)) : W p l e R s m args below meth c H locs cells slots (MQ below (va_Ql post (Bw G cy S0 s.heap.size) (AS S0 s.heap.size)) args s mc ms (AS S0 s.heap.size)) (F0 m pc ls [.long v]) := by
  refine W.widen h1 h2 ?_
  exact W.lret X.1 X.2.1 hr (fun t ht hW => ⟨⟨v, S', rfl, hp, by rw [ht]; exact hw.1, hw.2.1⟩, hw.2.2.F ht⟩) hw.2.2.2.2 hdg hlocks
theorem k_l {rm : Room} {av : List Value} {post : Int64 → PS → Prop} {st0 : List Value} (X : Cx p c cc nL s args Ts own m G cy κ A) (hw : Wd G cy A s.heap S H locs) (hrun : va_Run p l e R s m args below meth c H locs cells slots rm.cells rm.slots (F0 m pc ls st0) rest (va_Ql post (Bw G cy S H.size) (AS S H.size) av.toArray) (AS S H.size)) (c2 n2 : Nat) (h1 : cells + rm.cells ≤ c2) (h2 : slots + rm.slots ≤ n2)
    (kk : ∀ (r : Int64) (S' : PS) (H1 : Heap) (locs1 : List Loc), post r S' → Wd G cy A s.heap S' H1 locs1 → (∀ q, q < H.size → q ∉ pL S → H1[q]? = H[q]?) → (∀ q ∈ pL S', q ∈ pL S ∨ H.size ≤ q) → W p l e R s m args below meth c H1 locs1 c2 n2 Q (F0 m (pc + 3) ls (.long r :: rest))) : W p l e R s m args below meth c H locs cells slots Q (F0 m pc ls st0) := by
  refine va_calll hrun hw.2.2 (fun q _ h => as_in X hw q h) (as_in X hw) (fun r S' t H1 locs1 ht hvm hp hB hz hk hS => ?_)
  exact W.widen h1 h2 (kk r S' H1 locs1 hp (bw_of X hw ht hB hS) (fun q hq hn => hk q hq (fun h => h.elim hn (fun h => absurd hq (Nat.not_lt.mpr h)))) (bw_new hB))
end PROWS2
def Cl (l : Launch) (y : MethodName) (ws : List Cond) (rm : Room) (G : va_G) (cy : Nat → ClassId) (κ : Nat → Nat) (S : PS) (sz : Nat) (av : List Value) (post : Int64 → PS → Prop) : Prop := Met l y ws rm (va_Pc av (Pw G cy κ S sz)) (va_Ql post (Bw G cy S sz) (AS S sz)) rm.cells rm.slots (AS S sz)
theorem tA_sI {S S1 : PS} {g b a i : Nat} {v w : Int32} (e : S1 = sI S g b v) (h : pA S a i = w) : pA S1 a i = w := by subst e; exact h
theorem tA_sR {S S1 : PS} {g b a i : Nat} {v : Option Nat} {w : Int32} (e : S1 = sR S g b v) (h : pA S a i = w) : pA S1 a i = w := by subst e; exact h
theorem tA_sB {S S1 : PS} {b a i : Nat} {f : Nat → Option Nat} {w : Int32} (e : S1 = sB S b f) (h : pA S a i = w) : pA S1 a i = w := by subst e; exact h
theorem tA_sA {S S1 : PS} {b a i : Nat} {f : Nat → Int32} {w : Int32} (e : S1 = sA S b f) (hn : a ≠ b) (h : pA S a i = w) : pA S1 a i = w := by subst e; rw [pA_sA_ne hn]; exact h
theorem tA_sAs {S S1 : PS} {b i : Nat} {g : Nat → Int32} {v : Int32} (e : S1 = sA S b (upd g i v)) : pA S1 b i = v := by
  subst e
  have e2 : pA (sA S b (upd g i v)) b = upd g i v := if_pos rfl
  rw [e2]; unfold upd; simp
theorem z_nn {x : Int32} {a : Int} (hx : x.toInt = a) (h : 0 ≤ a) : ¬ x < 0 := by
  subst hx
  intro z
  have := Int32.lt_iff_toInt_lt.mp z
  rw [show (0 : Int32).toInt = 0 from by decide] at this
  omega
theorem z_nat {x : Int32} {a : Int} (hx : x.toInt = a) (h : 0 ≤ a) : (x.toNatClampNeg : Int) = a := by
  subst hx
  show ((x.toInt.toNat : Nat) : Int) = x.toInt
  omega
theorem z_cp {x y : Int32} {a b : Int} {n : Nat} (hx : x.toInt = a) (hy : y.toInt = b) (h1 : 0 ≤ a) (h2 : 0 ≤ b) (h3 : a + b ≤ (n : Int)) : x.toNatClampNeg + y.toNatClampNeg ≤ n := by
  have e1 := z_nat hx h1
  have e2 := z_nat hy h2
  omega
section PROWS3
variable {p : Program} {l : Launch} {e : Env} {R : Room} {s : State} {m : MethodId} {args : Array Value} {below : List Frame} {meth : Method} {c : Code} {H : Heap} {locs : List Loc} {cells slots : Nat} {Q : State → Prop}
variable {cc : ByteArray} {pc nL : Nat} {ls : Array Slot} {rest : List Value} {Ts : List Cond} {own ref : String} {G : va_G} {cy : Nat → ClassId} {κ : Nat → Nat} {A : Nat → Prop} {S : PS} {a k0 k index : Nat}
theorem r_copyI (X : Cx p c cc nL s args Ts own m G cy κ A) (hw : Wd G cy A s.heap S H locs) {lv : List (Nat × Value)} (hl : lv_has ls nL lv) {a0 k1 : Nat} (h0 : At S a0 k0) (hm0 : k0 % 20 = 14) (h1 : At S a k1) (hm1 : k1 % 20 = 14) (hlink : (Cond.methodLink own index arraycopyName).before args s = true) (hnat : (Cond.native arraycopyName).before args s = true) (hstat : (Cond.static arraycopyName).before args s = true) (hini : (Cond.initialized "java/lang/System").before args s = true) {sp dp n : Int32} (h4 : sp.toNatClampNeg + n.toNatClampNeg ≤ pN S a0) (h5 : dp.toNatClampNeg + n.toNatClampNeg ≤ pN S a) (z1 : ¬ sp < 0) (z2 : ¬ dp < 0) (z3 : ¬ n < 0) (hframes : 1 ≤ R.frames) (hlocals : (rest.map fun v => v.category).sum + (nativeFrameWords "java/lang/System" "arraycopy" 5 + 11) ≤ R.locals) (hdg : decode cc pc = .ok (.invokestatic index, 3))
    (kk : ∀ (H1 : Heap) (locs1 : List Loc), Wd G cy A s.heap (sA S a (va_cpy (pA S a0) (pA S a) sp.toNatClampNeg dp.toNatClampNeg n.toNatClampNeg)) H1 locs1 → W p l e R s m args below meth c H1 locs1 cells slots Q (F0 m (pc + 3) ls rest)) : W p l e R s m args below meth c H locs cells slots Q (F0 m pc ls (.int n :: .int dp :: .ref a :: .int sp :: .ref a0 :: rest)) := by
  obtain ⟨hx, hb, hml, hts, hown, hK, -, -, -⟩ := X
  obtain ⟨hP, hD, hS⟩ := hw
  obtain ⟨n0, hn0⟩ := pl_get (cy := cy) h0.1
  obtain ⟨n1, hn1⟩ := pl_get (cy := cy) h1.1
  have hn2 := hn1
  rw [PF_A h0.2 hm0 (by decide) (by decide)] at hn0
  rw [PF_A h1.2 hm1 (by decide) (by decide)] at hn1
  refine va_copyi (D := G) (ty := .int) hx hb (hml.trans hl.1.symm) hown hlink hnat hstat hini hK hP hD hS n0 n1 1 1 hn0 hn1 rfl rfl rfl z1 z2 z3 h4 h5 (fun _ _ => rfl) hframes hlocals hdg (fun H1 locs1 hP1 hD1 hS1 => ?_)
  rw [pl_set (S' := sA S a (va_cpy (pA S a0) (pA S a) sp.toNatClampNeg dp.toNatClampNeg n.toNatClampNeg)) hD h1.1 hn2 rfl (PF_sA h1.2 hm1 (by decide) (by decide))] at hP1 hD1
  exact kk H1 locs1 ⟨hP1, hD1, hS1⟩
end PROWS3
/-! ===== every pot that was made stands in its place ===== -/
def PN (S : PS) (x : Nat) : Prop := ∀ q, pR S 1103 x = some q → ∀ i : Nat, (i : Int) < (pI S 1104 x).toInt → pB S q i = none → False
theorem PN_fr {M : List Nat} {S S' : PS} {x : Nat} (hG : GX S) (hx : At S x 11) (hF : Fr M S S') (c1 : M.contains 1103 = false) (c2 : M.contains 1104 = false) (c3 : M.contains 10018 = false) (h : PN S x) : PN S' x := fun q hq i hi ho => by
  obtain ⟨q0, h0, a0, -⟩ := gQ_11_1103 hG hx
  rw [hF.R' c1 hx h0] at hq
  cases hq
  rw [hF.I' c2 hx rfl] at hi
  rw [hF.B' (k := 18) c3 a0] at ho
  exact h _ h0 i hi ho
theorem PN_0 {S : PS} {x : Nat} (h : pI S 1104 x = 0) : PN S x := fun q _ i hi _ => by
  rw [h] at hi
  have e : (0 : Int32).toInt = 0 := by decide
  omega
theorem PN_put {S S9 : PS} {x q n b : Nat} (hq : pR S 1103 x = some q) (hq9 : pR S9 1103 x = some q) (hB : pB S9 q = va_up (pB S q) n (some b)) (hn : (pI S 1104 x).toInt = (n : Int)) (h9 : (pI S9 1104 x).toInt = (n : Int) + 1) (hP : PN S x) : PN S9 x := fun q1 h1 i hi ho => by
  rw [hq9] at h1
  cases h1
  rw [hB] at ho
  unfold va_up at ho
  by_cases e : i = n
  · rw [if_pos e] at ho; cases ho
  · rw [if_neg e] at ho; exact hP _ hq i (by omega) ho
theorem nar_b (v : Int32) : -128 ≤ (vp_nar .byte v).toInt ∧ (vp_nar .byte v).toInt ≤ 127 := by
  show -128 ≤ (v.toInt8.toInt32).toInt ∧ (v.toInt8.toInt32).toInt ≤ 127
  rw [Int8.toInt_toInt32]
  have h1 := Int8.toInt_lt v.toInt8
  have h2 := Int8.le_toInt v.toInt8
  omega
def pkG : List Nat → List Cond → List Cond
  | [], _ => []
  | g :: gs, l => match l.drop g with
    | [] => []
    | x :: r => x :: pkG gs r
theorem pkG_in : ∀ (gs : List Nat) (l : List Cond) (w : Cond), w ∈ pkG gs l → w ∈ l := by
  intro gs
  induction gs with
  | nil => intro l w h; simp [pkG] at h
  | cons g gs ih =>
    intro l w h
    unfold pkG at h
    cases hd : l.drop g with
    | nil => rw [hd] at h; simp at h
    | cons x r =>
      rw [hd] at h
      have hm : w ∈ l.drop g := by
        rw [hd]
        rcases List.mem_cons.mp h with e | e
        · rw [e]; exact List.mem_cons_self
        · exact List.mem_cons_of_mem _ (ih r w e)
      exact List.mem_of_mem_drop hm
theorem goodIn_g {big : List Cond} (ws : List Cond) (gs ps : List Nat) (hp : ws = ps.filterMap (fun i => (pkG gs big)[i]?)) (h : ws.all goodWord = true) : GoodIn big ws := by
  intro w hw
  have h1 := List.all_eq_true.mp h w hw
  rw [hp] at hw
  obtain ⟨i, -, hi⟩ := List.mem_filterMap.mp hw
  exact ⟨pkG_in _ _ _ (List.mem_of_getElem? hi), good_of_word h1⟩
/-! ===== equality of words with codes compared as lists (the kernel's comparison of arrays is dear) ===== -/
def bEq : List UInt8 → List UInt8 → Bool
  | [], [] => true
  | a :: r, b :: t => Nat.beq a.toNat b.toNat && bEq r t
  | _, _ => false
theorem bEq_ok : ∀ {a b : List UInt8}, bEq a b = true → a = b := by
  intro a
  induction a with
  | nil => intro b h; cases b with
    | nil => rfl
    | cons y t => simp [bEq] at h
  | cons x r ih => intro b h; cases b with
    | nil => simp [bEq] at h
    | cons y t =>
      simp only [bEq, Bool.and_eq_true] at h
      rw [UInt8.toNat_inj.mp (Nat.eq_of_beq_eq_true h.1), ih h.2]
def cEq (a b : ByteArray) : Bool := bEq a.data.toList b.data.toList
theorem cEq_ok {a b : ByteArray} (h : cEq a b = true) : a = b := by
  have := bEq_ok h
  cases a with | mk a => cases b with | mk b => 
    congr
    exact Array.toList_inj.mp this
def wEq : Cond → Cond → Bool
  | .code y c n r, .code y' c' n' r' => decide (y = y') && cEq c c' && decide (n = n') && decide (r = r')
  | .code _ _ _ _, _ => false
  | a, b => decide (a = b)
theorem wEq_ok {a b : Cond} (h : wEq a b = true) : a = b := by
  unfold wEq at h
  split at h
  · simp only [Bool.and_eq_true, decide_eq_true_eq] at h
    rw [h.1.1.1, cEq_ok h.1.1.2, h.1.2, h.2]
  · cases h
  · exact of_decide_eq_true h
def lEq : List Cond → List Cond → Bool
  | [], [] => true
  | a :: r, b :: t => wEq a b && lEq r t
  | _, _ => false
theorem lEq_ok : ∀ {a b : List Cond}, lEq a b = true → a = b := by
  intro a
  induction a with
  | nil => intro b h; cases b with
    | nil => rfl
    | cons y t => simp [lEq] at h
  | cons x r ih => intro b h; cases b with
    | nil => simp [lEq] at h
    | cons y t =>
      simp only [lEq, Bool.and_eq_true] at h
      rw [wEq_ok h.1, ih h.2]
theorem goodIn_h {big : List Cond} (ws : List Cond) (gs ps : List Nat) (hp : lEq ws (ps.filterMap (fun i => (pkG gs big)[i]?)) = true) (h : ws.all goodWord = true) : GoodIn big ws := goodIn_g ws gs ps (lEq_ok hp) h
theorem ti_m4 : ((-4) : Int32).toInt = (-4) := by decide +kernel
theorem ti_m3 : ((-3) : Int32).toInt = (-3) := by decide +kernel
theorem ti_m2 : ((-2) : Int32).toInt = (-2) := by decide +kernel
theorem ti_m1 : ((-1) : Int32).toInt = (-1) := by decide +kernel
theorem ti_0 : (0 : Int32).toInt = 0 := by decide +kernel
theorem ti_1 : (1 : Int32).toInt = 1 := by decide +kernel
theorem ti_2 : (2 : Int32).toInt = 2 := by decide +kernel
theorem ti_3 : (3 : Int32).toInt = 3 := by decide +kernel
theorem ti_4 : (4 : Int32).toInt = 4 := by decide +kernel
theorem ti_5 : (5 : Int32).toInt = 5 := by decide +kernel
theorem ti_6 : (6 : Int32).toInt = 6 := by decide +kernel
theorem ti_7 : (7 : Int32).toInt = 7 := by decide +kernel
theorem ti_8 : (8 : Int32).toInt = 8 := by decide +kernel
theorem ti_9 : (9 : Int32).toInt = 9 := by decide +kernel
theorem ti_10 : (10 : Int32).toInt = 10 := by decide +kernel
theorem ti_12 : (12 : Int32).toInt = 12 := by decide +kernel
theorem ti_14 : (14 : Int32).toInt = 14 := by decide +kernel
theorem ti_15 : (15 : Int32).toInt = 15 := by decide +kernel
theorem ti_16 : (16 : Int32).toInt = 16 := by decide +kernel
theorem ti_17 : (17 : Int32).toInt = 17 := by decide +kernel
theorem ti_20 : (20 : Int32).toInt = 20 := by decide +kernel
theorem ti_24 : (24 : Int32).toInt = 24 := by decide +kernel
theorem ti_31 : (31 : Int32).toInt = 31 := by decide +kernel
theorem ti_32 : (32 : Int32).toInt = 32 := by decide +kernel
theorem ti_40 : (40 : Int32).toInt = 40 := by decide +kernel
theorem ti_41 : (41 : Int32).toInt = 41 := by decide +kernel
theorem ti_48 : (48 : Int32).toInt = 48 := by decide +kernel
theorem ti_50 : (50 : Int32).toInt = 50 := by decide +kernel
theorem ti_57 : (57 : Int32).toInt = 57 := by decide +kernel
theorem ti_58 : (58 : Int32).toInt = 58 := by decide +kernel
theorem ti_59 : (59 : Int32).toInt = 59 := by decide +kernel
theorem ti_60 : (60 : Int32).toInt = 60 := by decide +kernel
theorem ti_61 : (61 : Int32).toInt = 61 := by decide +kernel
theorem ti_62 : (62 : Int32).toInt = 62 := by decide +kernel
theorem ti_70 : (70 : Int32).toInt = 70 := by decide +kernel
theorem ti_80 : (80 : Int32).toInt = 80 := by decide +kernel
theorem ti_81 : (81 : Int32).toInt = 81 := by decide +kernel
theorem ti_90 : (90 : Int32).toInt = 90 := by decide +kernel
theorem ti_97 : (97 : Int32).toInt = 97 := by decide +kernel
theorem ti_100 : (100 : Int32).toInt = 100 := by decide +kernel
theorem ti_102 : (102 : Int32).toInt = 102 := by decide +kernel
theorem ti_104 : (104 : Int32).toInt = 104 := by decide +kernel
theorem ti_122 : (122 : Int32).toInt = 122 := by decide +kernel
theorem ti_128 : (128 : Int32).toInt = 128 := by decide +kernel
theorem ti_131 : (131 : Int32).toInt = 131 := by decide +kernel
theorem ti_200 : (200 : Int32).toInt = 200 := by decide +kernel
theorem ti_240 : (240 : Int32).toInt = 240 := by decide +kernel
theorem ti_255 : (255 : Int32).toInt = 255 := by decide +kernel
theorem ti_300 : (300 : Int32).toInt = 300 := by decide +kernel
theorem ti_380 : (380 : Int32).toInt = 380 := by decide +kernel
theorem ti_400 : (400 : Int32).toInt = 400 := by decide +kernel
theorem ti_600 : (600 : Int32).toInt = 600 := by decide +kernel
theorem ti_1000 : (1000 : Int32).toInt = 1000 := by decide +kernel
theorem ti_2000 : (2000 : Int32).toInt = 2000 := by decide +kernel
theorem ti_3600 : (3600 : Int32).toInt = 3600 := by decide +kernel
theorem ti_7200 : (7200 : Int32).toInt = 7200 := by decide +kernel
theorem ti_7919 : (7919 : Int32).toInt = 7919 := by decide +kernel
theorem ti_10000 : (10000 : Int32).toInt = 10000 := by decide +kernel
theorem ti_12000 : (12000 : Int32).toInt = 12000 := by decide +kernel
theorem ti_12345 : (12345 : Int32).toInt = 12345 := by decide +kernel
theorem ti_13200 : (13200 : Int32).toInt = 13200 := by decide +kernel
theorem ti_158400 : (158400 : Int32).toInt = 158400 := by decide +kernel
theorem ti_1103515245 : (1103515245 : Int32).toInt = 1103515245 := by decide +kernel
theorem ti_2147483647 : (2147483647 : Int32).toInt = 2147483647 := by decide +kernel
