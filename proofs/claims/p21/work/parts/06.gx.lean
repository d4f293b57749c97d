theorem pL_sI {S : PS} {g a : Nat} {v : Int32} : pL (sI S g a v) = pL S := rfl
theorem pK_sI {S : PS} {g a : Nat} {v : Int32} : pK (sI S g a v) = pK S := rfl
theorem pR_sI {S : PS} {g a : Nat} {v : Int32} : pR (sI S g a v) = pR S := rfl
theorem pN_sI {S : PS} {g a : Nat} {v : Int32} : pN (sI S g a v) = pN S := rfl
theorem pA_sI {S : PS} {g a : Nat} {v : Int32} : pA (sI S g a v) = pA S := rfl
theorem pB_sI {S : PS} {g a : Nat} {v : Int32} : pB (sI S g a v) = pB S := rfl
theorem pL_sR {S : PS} {g a : Nat} {v : Option Nat} : pL (sR S g a v) = pL S := rfl
theorem pK_sR {S : PS} {g a : Nat} {v : Option Nat} : pK (sR S g a v) = pK S := rfl
theorem pI_sR {S : PS} {g a : Nat} {v : Option Nat} : pI (sR S g a v) = pI S := rfl
theorem pN_sR {S : PS} {g a : Nat} {v : Option Nat} : pN (sR S g a v) = pN S := rfl
theorem pA_sR {S : PS} {g a : Nat} {v : Option Nat} : pA (sR S g a v) = pA S := rfl
theorem pB_sR {S : PS} {g a : Nat} {v : Option Nat} : pB (sR S g a v) = pB S := rfl
theorem pL_sA {S : PS} {a : Nat} {f : Nat → Int32} : pL (sA S a f) = pL S := rfl
theorem pK_sA {S : PS} {a : Nat} {f : Nat → Int32} : pK (sA S a f) = pK S := rfl
theorem pI_sA {S : PS} {a : Nat} {f : Nat → Int32} : pI (sA S a f) = pI S := rfl
theorem pR_sA {S : PS} {a : Nat} {f : Nat → Int32} : pR (sA S a f) = pR S := rfl
theorem pN_sA {S : PS} {a : Nat} {f : Nat → Int32} : pN (sA S a f) = pN S := rfl
theorem pB_sA {S : PS} {a : Nat} {f : Nat → Int32} : pB (sA S a f) = pB S := rfl
theorem pL_sB {S : PS} {a : Nat} {f : Nat → Option Nat} : pL (sB S a f) = pL S := rfl
theorem pK_sB {S : PS} {a : Nat} {f : Nat → Option Nat} : pK (sB S a f) = pK S := rfl
theorem pI_sB {S : PS} {a : Nat} {f : Nat → Option Nat} : pI (sB S a f) = pI S := rfl
theorem pR_sB {S : PS} {a : Nat} {f : Nat → Option Nat} : pR (sB S a f) = pR S := rfl
theorem pN_sB {S : PS} {a : Nat} {f : Nat → Option Nat} : pN (sB S a f) = pN S := rfl
theorem pA_sB {S : PS} {a : Nat} {f : Nat → Option Nat} : pA (sB S a f) = pA S := rfl
theorem pI_sN {S : PS} {q k n : Nat} : pI (sN S q k n) = pI S := rfl
theorem pR_sN {S : PS} {q k n : Nat} : pR (sN S q k n) = pR S := rfl
theorem pN_sO {S : PS} {q k : Nat} : pN (sO S q k) = pN S := rfl
theorem pA_sO {S : PS} {q k : Nat} : pA (sO S q k) = pA S := rfl
theorem pB_sO {S : PS} {q k : Nat} : pB (sO S q k) = pB S := rfl
theorem pI_sI_nf {S : PS} {g a x y : Nat} {v : Int32} (h : x ≠ g) : pI (sI S g a v) x y = pI S x y := u2_nf _ _ h
theorem pI_sI_same {S : PS} {g a : Nat} {v : Int32} : pI (sI S g a v) g a = v := u2_same _ _ _ _
theorem pR_sR_nf {S : PS} {g a x y : Nat} {v : Option Nat} (h : x ≠ g) : pR (sR S g a v) x y = pR S x y := u2_nf _ _ h
theorem pR_sR_same {S : PS} {g a : Nat} {v : Option Nat} : pR (sR S g a v) g a = v := u2_same _ _ _ _
theorem pI_sO_ne {S : PS} {q k g a : Nat} (h : a ≠ q) : pI (sO S q k) g a = pI S g a := if_neg h
theorem pR_sO_ne {S : PS} {q k g a : Nat} (h : a ≠ q) : pR (sO S q k) g a = pR S g a := if_neg h
theorem pI_sO_new {S : PS} {q k g : Nat} : pI (sO S q k) g q = 0 := if_pos rfl
theorem pN_sN_ne {S : PS} {q k n a : Nat} (h : a ≠ q) : pN (sN S q k n) a = pN S a := if_neg h
theorem pN_sN_new {S : PS} {q k n : Nat} : pN (sN S q k n) q = n := if_pos rfl
theorem pA_sN_ne {S : PS} {q k n a : Nat} (h : a ≠ q) : pA (sN S q k n) a = pA S a := if_neg h
theorem pA_sN_new {S : PS} {q k n : Nat} : pA (sN S q k n) q = fun _ => 0 := if_pos rfl
theorem pA_sA_ne {S : PS} {b a : Nat} {f : Nat → Int32} (h : a ≠ b) : pA (sA S b f) a = pA S a := if_neg h
theorem pI_sI_ne {S : PS} {g a x y : Nat} {v : Int32} (h : y ≠ a) : pI (sI S g a v) x y = pI S x y := u2_ne _ _ h

/-! ===== only these fields and rows change; kinds and lengths stay ===== -/
def Ext (S S' : PS) : Prop := ∀ a ∈ pL S, a ∈ pL S' ∧ pK S' a = pK S a ∧ pN S' a = pN S a
def Fr (M : List Nat) (S S' : PS) : Prop := Ext S S' ∧ (∀ g, g ∉ M → ∀ a ∈ pL S, pI S' g a = pI S g a ∧ pR S' g a = pR S g a) ∧ (∀ k, 10000 + k ∉ M → ∀ a ∈ pL S, pK S a = k → pA S' a = pA S a ∧ pB S' a = pB S a)
theorem Ext.rf (S : PS) : Ext S S := fun _ h => ⟨h, rfl, rfl⟩
theorem Ext.trans {S S1 S2 : PS} (h : Ext S S1) (h' : Ext S1 S2) : Ext S S2 := fun a ha => ⟨(h' a (h a ha).1).1, ((h' a (h a ha).1).2.1).trans (h a ha).2.1, ((h' a (h a ha).1).2.2).trans (h a ha).2.2⟩
theorem Ext.at {S S' : PS} {a k : Nat} (h : Ext S S') (ha : At S a k) : At S' a k := ⟨(h a ha.1).1, (h a ha.1).2.1.trans ha.2⟩
theorem Ext.N {S S' : PS} {a k n : Nat} (h : Ext S S') (ha : At S a k) (hn : pN S a = n) : pN S' a = n := (h a ha.1).2.2.trans hn
theorem Fr.rf (S : PS) : Fr [] S S := ⟨Ext.rf S, fun _ _ _ _ => ⟨rfl, rfl⟩, fun _ _ _ _ _ => ⟨rfl, rfl⟩⟩
theorem Fr.mono {M M' : List Nat} {S S' : PS} (h : Fr M S S') (hm : ∀ g ∈ M, g ∈ M') : Fr M' S S' := ⟨h.1, fun g hg => h.2.1 g (fun z => hg (hm _ z)), fun k hk => h.2.2 k (fun z => hk (hm _ z))⟩
theorem Fr.trans {M : List Nat} {S S1 S2 : PS} (h : Fr M S S1) (h' : Fr M S1 S2) : Fr M S S2 := by
  refine ⟨h.1.trans h'.1, fun g hg a ha => ?_, fun k hk a ha e => ?_⟩
  · have q := h.2.1 g hg a ha
    have q' := h'.2.1 g hg a (h.1 a ha).1
    exact ⟨q'.1.trans q.1, q'.2.trans q.2⟩
  · have q := h.2.2 k hk a ha e
    have q' := h'.2.2 k hk a (h.1 a ha).1 ((h.1 a ha).2.1.trans e)
    exact ⟨q'.1.trans q.1, q'.2.trans q.2⟩
theorem Fr.at {M : List Nat} {S S' : PS} {a k : Nat} (h : Fr M S S') (ha : At S a k) : At S' a k := h.1.at ha
theorem Fr.N {M : List Nat} {S S' : PS} {a k n : Nat} (h : Fr M S S') (ha : At S a k) (hn : pN S a = n) : pN S' a = n := h.1.N ha hn
theorem Fr.I {M : List Nat} {S S' : PS} {a k g : Nat} {v : Int32} (h : Fr M S S') (hg : g ∉ M) (ha : At S a k) (hv : pI S g a = v) : pI S' g a = v := (h.2.1 g hg a ha.1).1.trans hv
theorem Fr.R {M : List Nat} {S S' : PS} {a k g : Nat} {v : Option Nat} (h : Fr M S S') (hg : g ∉ M) (ha : At S a k) (hv : pR S g a = v) : pR S' g a = v := (h.2.1 g hg a ha.1).2.trans hv
theorem Fr_sI {M : List Nat} {S : PS} {g a : Nat} {v : Int32} (hg : g ∈ M) : Fr M S (sI S g a v) := ⟨Ext.rf S, fun x hx _ _ => ⟨pI_sI_nf (fun e => hx (e ▸ hg)), rfl⟩, fun _ _ _ _ _ => ⟨rfl, rfl⟩⟩
theorem Fr_sR {M : List Nat} {S : PS} {g a : Nat} {v : Option Nat} (hg : g ∈ M) : Fr M S (sR S g a v) := ⟨Ext.rf S, fun x hx _ _ => ⟨rfl, pR_sR_nf (fun e => hx (e ▸ hg))⟩, fun _ _ _ _ _ => ⟨rfl, rfl⟩⟩
theorem Fr_sA {M : List Nat} {S : PS} {a k : Nat} {f : Nat → Int32} (ha : At S a k) (hg : 10000 + k ∈ M) : Fr M S (sA S a f) := ⟨Ext.rf S, fun _ _ _ _ => ⟨rfl, rfl⟩, fun k' hk b _ e => ⟨if_neg (fun z => hk (by rw [← e, z, ha.2]; exact hg)), rfl⟩⟩
theorem Fr_sB {M : List Nat} {S : PS} {a k : Nat} {f : Nat → Option Nat} (ha : At S a k) (hg : 10000 + k ∈ M) : Fr M S (sB S a f) := ⟨Ext.rf S, fun _ _ _ _ => ⟨rfl, rfl⟩, fun k' hk b _ e => ⟨rfl, if_neg (fun z => hk (by rw [← e, z, ha.2]; exact hg))⟩⟩
theorem ne_of_new {S : PS} {q b : Nat} (hq : q ∉ pL S) (hb : b ∈ pL S) : b ≠ q := fun e => hq (e ▸ hb)
theorem Ext_sO {S : PS} {q k : Nat} (hq : q ∉ pL S) : Ext S (sO S q k) := fun b hb => ⟨List.mem_append_left _ hb, if_neg (ne_of_new hq hb), rfl⟩
theorem Ext_sN {S : PS} {q k n : Nat} (hq : q ∉ pL S) : Ext S (sN S q k n) := fun b hb => ⟨List.mem_append_left _ hb, if_neg (ne_of_new hq hb), if_neg (ne_of_new hq hb)⟩
theorem Fr_sO {M : List Nat} {S : PS} {q k : Nat} (hq : q ∉ pL S) : Fr M S (sO S q k) := ⟨Ext_sO hq, fun _ _ b hb => ⟨if_neg (ne_of_new hq hb), if_neg (ne_of_new hq hb)⟩, fun _ _ _ _ _ => ⟨rfl, rfl⟩⟩
theorem Fr_sN {M : List Nat} {S : PS} {q k n : Nat} (hq : q ∉ pL S) : Fr M S (sN S q k n) := ⟨Ext_sN hq, fun _ _ _ _ => ⟨rfl, rfl⟩, fun _ _ b hb _ => ⟨if_neg (ne_of_new hq hb), if_neg (ne_of_new hq hb)⟩⟩
/-! ===== what each kind of object keeps ===== -/
def aRng (S : PS) (a g : Nat) (lo hi : Int) : Prop := lo ≤ (pI S g a).toInt ∧ (pI S g a).toInt ≤ hi
def aRef (S : PS) (a g k n : Nat) : Prop := ∃ q, pR S g a = some q ∧ At S q k ∧ pN S q = n
def aRf (S : PS) (a g k : Nat) : Prop := ∃ q, pR S g a = some q ∧ At S q k
def aOpt (S : PS) (a g k : Nat) : Prop := ∀ q, pR S g a = some q → At S q k
def aElr (S : PS) (a : Nat) (lo hi : Int) : Prop := ∀ i, lo ≤ (pA S a i).toInt ∧ (pA S a i).toInt ≤ hi
def aElo (S : PS) (a k : Nat) : Prop := ∀ i q, pB S a i = some q → At S q k
def aCap (S : PS) (a g k f : Nat) : Prop := ∃ q, pR S g a = some q ∧ At S q k ∧ (pI S f a).toInt ≤ (pN S q : Int) ∧ pN S q ≤ 3600
def aGrw (S : PS) (a : Nat) : Prop := ∃ (q1 q2 q3 q4 n : Nat), pR S 905 a = some q1 ∧ pR S 906 a = some q2 ∧ pR S 907 a = some q3 ∧ pR S 908 a = some q4 ∧ At S q1 14 ∧ At S q2 14 ∧ At S q3 14 ∧ At S q4 14 ∧ pN S q1 = n ∧ pN S q2 = n ∧ pN S q3 = n ∧ pN S q4 = n ∧ 0 ≤ (pI S 904 a).toInt ∧ (pI S 904 a).toInt ≤ (n : Int) ∧ n ≤ 3600
def aRow (S : PS) (a : Nat) : Prop := ∃ (q n : Nat), pR S 501 a = some q ∧ At S q 16 ∧ pN S q = n ∧ 1 ≤ n ∧ n ≤ 600 ∧ 0 ≤ (pI S 500 a).toInt ∧ (pI S 500 a).toInt ≤ (n : Int) ∧ 0 ≤ (pI S 502 a).toInt ∧ (pI S 502 a).toInt < (n : Int)
/-- a condition: what it is, field, kind, two numbers -/
abbrev aTy : Type := Nat × Nat × Nat × Int × Int
def aT (S : PS) (a : Nat) (t : aTy) : Prop := match t.1 with
  | 0 => aRng S a t.2.1 t.2.2.2.1 t.2.2.2.2
  | 1 => aRef S a t.2.1 t.2.2.1 t.2.2.2.2.toNat
  | 2 => aRf S a t.2.1 t.2.2.1
  | 3 => aOpt S a t.2.1 t.2.2.1
  | 4 => aElr S a t.2.2.2.1 t.2.2.2.2
  | 5 => aElo S a t.2.2.1
  | 6 => aCap S a t.2.1 t.2.2.1 t.2.2.2.2.toNat
  | 7 => aGrw S a
  | 8 => aRow S a
  | _ => True
def Sm (S S' : PS) (a : Nat) : Prop := Ext S S' ∧ (∀ g, pI S' g a = pI S g a) ∧ (∀ g, pR S' g a = pR S g a) ∧ pA S' a = pA S a ∧ pB S' a = pB S a
theorem aT_sm {S S' : PS} {a : Nat} : {t : aTy} → (h : Sm S S' a) → (ht : aT S a t) → aT S' a t
  | (0, _, _, _, _), ⟨_, hI, _, _, _⟩, ht => by
    show aRng _ _ _ _ _
    have ht : aRng _ _ _ _ _ := ht
    unfold aRng at ht ⊢; rw [hI]; exact ht
  | (1, _, _, _, _), ⟨hE, _, hR, _, _⟩, ht => by obtain ⟨q, h1, h2, h3⟩ := ht; exact ⟨q, (hR _).trans h1, hE.at h2, hE.N h2 h3⟩
  | (2, _, _, _, _), ⟨hE, _, hR, _, _⟩, ht => by obtain ⟨q, h1, h2⟩ := ht; exact ⟨q, (hR _).trans h1, hE.at h2⟩
  | (3, _, _, _, _), ⟨hE, _, hR, _, _⟩, ht => fun q hq => hE.at (ht q ((hR _).symm.trans hq))
  | (4, _, _, _, _), ⟨_, _, _, hA, _⟩, ht => by
    show aElr _ _ _ _
    have ht : aElr _ _ _ _ := ht
    unfold aElr at ht ⊢; rw [hA]; exact ht
  | (5, _, _, _, _), ⟨hE, _, _, _, hB⟩, ht => fun i q hq => hE.at (ht i q ((congrFun hB i).symm.trans hq))
  | (6, _, _, _, _), ⟨hE, hI, hR, _, _⟩, ht => by obtain ⟨q, h1, h2, h3, h4⟩ := ht; exact ⟨q, (hR _).trans h1, hE.at h2, by rw [hI, hE.N h2 rfl]; exact h3, by rw [hE.N h2 rfl]; exact h4⟩
  | (7, _, _, _, _), ⟨hE, hI, hR, _, _⟩, ht => by
    obtain ⟨q1, q2, q3, q4, n, a1, a2, a3, a4, b1, b2, b3, b4, c1, c2, c3, c4, d0, d1, d2⟩ := ht
    exact ⟨q1, q2, q3, q4, n, (hR _).trans a1, (hR _).trans a2, (hR _).trans a3, (hR _).trans a4, hE.at b1, hE.at b2, hE.at b3, hE.at b4, hE.N b1 c1, hE.N b2 c2, hE.N b3 c3, hE.N b4 c4, by rw [hI]; exact d0, by rw [hI]; exact d1, d2⟩
  | (8, _, _, _, _), ⟨hE, hI, hR, _, _⟩, ht => by
    obtain ⟨q, n, a1, b1, c1, d1, d2, d3, d4, d5, d6⟩ := ht
    exact ⟨q, n, (hR _).trans a1, hE.at b1, hE.N b1 c1, d1, d2, by rw [hI]; exact d3, by rw [hI]; exact d4, by rw [hI]; exact d5, by rw [hI]; exact d6⟩
  | (_ + 9, _, _, _, _), _, _ => trivial
def TL : List (Nat × aTy) := [(0, (0, 2, 0, 20, 220)), (1, (1, 100, 74, 0, 5)), (1, (0, 101, 0, 0, 5)), (2, (1, 200, 1734, 0, 14)), (2, (1, 201, 1754, 0, 14)), (2, (1, 202, 1774, 0, 14)), (2, (0, 203, 0, 0, 14)), (3, (1, 302, 114, 0, 8)), (3, (0, 301, 0, 0, 8)), (3, (3, 303, 0, 0, 0)), (4, (2, 400, 5, 0, 0)), (4, (2, 401, 5, 0, 0)), (4, (2, 402, 5, 0, 0)), (4, (2, 403, 29, 0, 0)), (4, (2, 409, 6, 0, 0)), (5, (8, 0, 0, 0, 0)), (6, (0, 600, 0, 0, 12)), (6, (1, 601, 134, 0, 12)), (6, (1, 602, 134, 0, 12)), (6, (1, 603, 34, 0, 12)), (6, (1, 604, 134, 0, 48)), (6, (1, 605, 134, 0, 48)), (6, (1, 606, 134, 0, 48)), (7, (2, 703, 9, 0, 0)), (8, (0, 800, 0, 0, 40)), (8, (0, 806, 0, 0, 40)), (8, (1, 807, 154, 0, 4)), (8, (1, 808, 19, 0, 40)), (8, (1, 809, 1674, 0, 40)), (8, (1, 810, 1694, 0, 40)), (8, (1, 811, 1714, 0, 40)), (8, (2, 812, 2, 0, 0)), (9, (0, 902, 0, 0, 300)), (9, (0, 904, 0, 0, 3600)), (9, (6, 900, 1654, 0, 902)), (9, (6, 901, 1654, 0, 902)), (9, (6, 905, 1654, 0, 904)), (9, (6, 906, 1654, 0, 904)), (9, (6, 907, 1654, 0, 904)), (9, (6, 908, 1654, 0, 904)), (29, (0, 902, 0, 0, 300)), (29, (1, 900, 1614, 0, 300)), (29, (1, 901, 1634, 0, 300)), (29, (7, 0, 0, 0, 0)), (10, (0, 1000, 0, 0, 400)), (10, (1, 1003, 13, 0, 400)), (11, (1, 1100, 36, 0, 600)), (11, (1, 1101, 54, 0, 10)), (11, (0, 1102, 0, 0, 10)), (11, (1, 1103, 18, 0, 4)), (11, (0, 1104, 0, 0, 4)), (11, (2, 1105, 10, 0, 0)), (11, (2, 1106, 6, 0, 0)), (11, (2, 1107, 8, 0, 0)), (11, (2, 1108, 1, 0, 0)), (11, (1, 1109, 17, 0, 16)), (11, (1, 1111, 194, 0, 60)), (16, (5, 0, 0, 0, 0)), (36, (5, 0, 0, 0, 0)), (17, (5, 0, 3, 0, 0)), (18, (5, 0, 4, 0, 0)), (19, (5, 0, 7, 0, 0)), (34, (4, 0, 0, 0, 4)), (54, (4, 0, 0, 0, 60)), (12, (0, 1201, 0, 0, 10)), (12, (0, 1211, 0, 0, 4)), (12, (0, 1228, 0, 0, 400)), (12, (0, 1232, 0, 0, 400)), (12, (0, 1233, 0, 0, 400)), (12, (0, 1238, 0, 0, 40)), (12, (0, 1251, 0, 0, 5)), (12, (0, 1262, 0, 0, 40)), (12, (1, 1202, 254, 0, 10)), (254, (4, 0, 0, 0, 60)), (12, (1, 1203, 274, 0, 10)), (12, (1, 1204, 294, 0, 10)), (12, (1, 1205, 314, 0, 10)), (314, (4, 0, 0, 0, 200)), (12, (1, 1206, 334, 0, 10)), (12, (1, 1207, 354, 0, 600)), (12, (1, 1208, 374, 0, 600)), (374, (4, 0, 0, 0, 220)), (12, (1, 1209, 394, 0, 600)), (12, (1, 1210, 414, 0, 8)), (12, (1, 1212, 454, 0, 4)), (12, (1, 1213, 474, 0, 4)), (12, (1, 1214, 494, 0, 4)), (12, (1, 1215, 514, 0, 4)), (12, (1, 1216, 534, 0, 4)), (12, (1, 1217, 554, 0, 4)), (12, (1, 1218, 574, 0, 7200)), (574, (4, 0, 0, 0, 599)), (12, (1, 1219, 594, 0, 12)), (594, (4, 0, 0, 0, 600)), (12, (1, 1220, 614, 0, 5)), (614, (4, 0, 0, 0, 12)), (12, (1, 1221, 634, 0, 60)), (12, (1, 1222, 654, 0, 60)), (12, (1, 1223, 674, 0, 60)), (674, (4, 0, 0, 0, 4)), (12, (1, 1224, 694, 0, 240)), (12, (1, 1225, 714, 0, 240)), (12, (1, 1226, 734, 0, 240)), (12, (1, 1227, 753, 0, 400)), (753, (4, 0, 0, (Int.negSucc 127), 127)), (12, (1, 1235, 914, 0, 13200)), (914, (4, 0, 0, 0, 12)), (12, (1, 1236, 934, 0, 158400)), (934, (4, 0, 0, 0, 599999)), (12, (1, 1237, 954, 0, 4)), (954, (4, 0, 0, 0, 300)), (12, (1, 1239, 994, 0, 41)), (994, (4, 0, 0, 0, 12000)), (12, (1, 1240, 1014, 0, 40)), (12, (1, 1241, 1034, 0, 40)), (12, (1, 1242, 1054, 0, 40)), (12, (1, 1243, 1074, 0, 40)), (1074, (4, 0, 0, (Int.negSucc 0), 3)), (12, (1, 1244, 1095, 0, 40)), (12, (1, 1248, 1174, 0, 4)), (12, (1, 1252, 1254, 0, 5)), (12, (1, 1253, 1275, 0, 16)), (12, (1, 1254, 1294, 0, 16)), (12, (1, 1255, 1314, 0, 16)), (12, (1, 1256, 1334, 0, 16)), (1334, (4, 0, 0, 0, 8)), (12, (1, 1257, 1354, 0, 128)), (12, (1, 1258, 1374, 0, 14)), (1374, (4, 0, 0, 0, 39)), (12, (1, 1259, 1394, 0, 14)), (12, (1, 1260, 1414, 0, 14)), (12, (1, 1261, 1435, 0, 40)), (12, (1, 1263, 1474, 0, 40)), (1474, (4, 0, 0, 0, 39)), (12, (1, 1264, 1494, 0, 40)), (12, (1, 1265, 1514, 0, 40))]
def MLX : List Nat := [3, 4, 5, 6, 101, 102, 103, 203, 204, 205, 206, 207, 300, 301, 304, 404, 405, 406, 407, 408, 500, 502, 600, 707, 708, 709, 802, 803, 804, 805, 806, 902, 903, 904, 1001, 1002, 1004, 1005, 1006, 1110, 303, 409, 1106, 10014, 10016, 10017, 10019, 10034, 10074, 10094, 10114, 10134, 10154, 10174, 10194, 11614, 11634, 11674, 11694, 11714, 11734, 11754, 11774]
def MLM : List Nat := [1200, 1229, 1230, 1231, 1232, 1233, 1234, 1238, 1246, 1247, 1249, 1250, 1251, 1262, 10254, 10274, 10294, 10314, 10334, 10354, 10374, 10394, 10414, 10454, 10474, 10494, 10514, 10534, 10554, 10574, 10594, 10614, 10634, 10654, 10674, 10694, 10714, 10734, 10753, 10914, 10934, 10954, 10994, 11014, 11034, 11054, 11074, 11095, 11174, 11254, 11275, 11294, 11314, 11334, 11354, 11374, 11394, 11414, 11435, 11474, 11494, 11514]
def OK (S : PS) (a k : Nat) : Prop := ∀ t ∈ TL, t.1 = k → aT S a t.2
def GX (S : PS) : Prop := ∀ a ∈ pL S, OK S a (pK S a)
theorem GX.get {S : PS} {a k : Nat} (hG : GX S) (ha : At S a k) (t : aTy) (ht : (k, t) ∈ TL) : aT S a t := hG a ha.1 (k, t) ht ha.2.symm
theorem OK_sm {S S' : PS} {a k : Nat} (h : Sm S S' a) (ho : OK S a k) : OK S' a k := fun t ht e => aT_sm h (ho t ht e)
/-- a condition that doesn't look at int field g -/
def noI (t : aTy) (g : Nat) : Bool := match t.1 with
  | 0 => !(t.2.1 == g)
  | 6 => !(t.2.2.2.2.toNat == g)
  | 7 => !(g == 904)
  | 8 => !(g == 500) && !(g == 502)
  | _ => true
def noR (t : aTy) (g : Nat) : Bool := match t.1 with
  | 1 => !(t.2.1 == g)
  | 2 => !(t.2.1 == g)
  | 3 => !(t.2.1 == g)
  | 6 => !(t.2.1 == g)
  | 7 => !(g == 905) && !(g == 906) && !(g == 907) && !(g == 908)
  | 8 => !(g == 501)
  | _ => true
theorem nbeq {a b : Nat} (h : (!(a == b)) = true) : a ≠ b := by simpa using h
theorem nbeq2 {a b : Nat} (h : (!(b == a)) = true) : a ≠ b := fun e => nbeq h e.symm
theorem aRng_sI {S : PS} {a g f : Nat} {v : Int32} {lo hi : Int} (hn : f ≠ g) (ht : aRng S a f lo hi) : aRng (sI S g a v) a f lo hi := by
  unfold aRng at ht ⊢; rw [pI_sI_nf hn]; exact ht
theorem aCap_sI {S : PS} {a g f k c : Nat} {v : Int32} (hn : c ≠ g) (ht : aCap S a f k c) : aCap (sI S g a v) a f k c := by
  obtain ⟨q, h1, h2, h3, h4⟩ := ht
  exact ⟨q, by rw [pR_sI]; exact h1, At_sI h2, by rw [pI_sI_nf hn, pN_sI]; exact h3, by rw [pN_sI]; exact h4⟩
theorem aGrw_sI {S : PS} {a g : Nat} {v : Int32} (hn : 904 ≠ g) (ht : aGrw S a) : aGrw (sI S g a v) a := by
  obtain ⟨q1, q2, q3, q4, n, a1, a2, a3, a4, b1, b2, b3, b4, c1, c2, c3, c4, d0, d1, d2⟩ := ht
  exact ⟨q1, q2, q3, q4, n, by rw [pR_sI]; exact a1, by rw [pR_sI]; exact a2, by rw [pR_sI]; exact a3, by rw [pR_sI]; exact a4, At_sI b1, At_sI b2, At_sI b3, At_sI b4, by rw [pN_sI]; exact c1, by rw [pN_sI]; exact c2, by rw [pN_sI]; exact c3, by rw [pN_sI]; exact c4, by rw [pI_sI_nf hn]; exact d0, by rw [pI_sI_nf hn]; exact d1, d2⟩
theorem aRow_sI {S : PS} {a g : Nat} {v : Int32} (h5 : 500 ≠ g) (h6 : 502 ≠ g) (ht : aRow S a) : aRow (sI S g a v) a := by
  obtain ⟨q, n, a1, b1, c1, d1, d2, d3, d4, d5, d6⟩ := ht
  exact ⟨q, n, by rw [pR_sI]; exact a1, At_sI b1, by rw [pN_sI]; exact c1, d1, d2, by rw [pI_sI_nf h5]; exact d3, by rw [pI_sI_nf h5]; exact d4, by rw [pI_sI_nf h6]; exact d5, by rw [pI_sI_nf h6]; exact d6⟩
theorem aT_sI {S : PS} {a g : Nat} {v : Int32} : {t : aTy} → (hn : noI t g = true) → (ht : aT S a t) → aT (sI S g a v) a t
  | (0, f, _, lo, hi), hn, ht => aRng_sI (S := S) (a := a) (g := g) (f := f) (v := v) (lo := lo) (hi := hi) (nbeq hn) ht
  | (1, _, _, _, _), _, ht => by obtain ⟨q, h1, h2, h3⟩ := ht; exact ⟨q, by rw [pR_sI]; exact h1, At_sI h2, by rw [pN_sI]; exact h3⟩
  | (2, _, _, _, _), _, ht => by obtain ⟨q, h1, h2⟩ := ht; exact ⟨q, by rw [pR_sI]; exact h1, At_sI h2⟩
  | (3, _, _, _, _), _, ht => fun q hq => At_sI (ht q (by rw [pR_sI] at hq; exact hq))
  | (4, _, _, lo, hi), _, ht => by
    show aElr (sI S g a v) a lo hi
    have ht : aElr S a lo hi := ht
    unfold aElr at ht ⊢; rw [pA_sI]; exact ht
  | (5, _, _, _, _), _, ht => fun i q hq => At_sI (ht i q (by rw [pB_sI] at hq; exact hq))
  | (6, f, k, _, c), hn, ht => aCap_sI (S := S) (a := a) (g := g) (f := f) (k := k) (c := c.toNat) (v := v) (nbeq hn) ht
  | (7, _, _, _, _), hn, ht => aGrw_sI (S := S) (a := a) (g := g) (v := v) (nbeq2 (show (!(g == 904)) = true from hn)) ht
  | (8, _, _, _, _), hn, ht => aRow_sI (S := S) (a := a) (g := g) (v := v) (nbeq2 (Bool.and_eq_true _ _ ▸ (show (!(g == 500) && !(g == 502)) = true from hn)).1) (nbeq2 (Bool.and_eq_true _ _ ▸ (show (!(g == 500) && !(g == 502)) = true from hn)).2) ht
  | (_ + 9, _, _, _, _), _, _ => trivial
theorem Sm_sI {S : PS} {a b g : Nat} {v : Int32} (h : b ≠ a) : Sm S (sI S g a v) b := ⟨Ext.rf S, fun _ => pI_sI_ne h, fun _ => rfl, rfl, rfl⟩
theorem Sm_sR {S : PS} {a b g : Nat} {v : Option Nat} (h : b ≠ a) : Sm S (sR S g a v) b := ⟨Ext.rf S, fun _ => rfl, fun _ => u2_ne _ _ h, rfl, rfl⟩
theorem Sm_sA {S : PS} {a b : Nat} {f : Nat → Int32} (h : b ≠ a) : Sm S (sA S a f) b := ⟨Ext.rf S, fun _ => rfl, fun _ => rfl, if_neg h, rfl⟩
theorem Sm_sB {S : PS} {a b : Nat} {f : Nat → Option Nat} (h : b ≠ a) : Sm S (sB S a f) b := ⟨Ext.rf S, fun _ => rfl, fun _ => rfl, rfl, if_neg h⟩
theorem Sm_sO {S : PS} {q k b : Nat} (hq : q ∉ pL S) (h : b ∈ pL S) : Sm S (sO S q k) b := ⟨Ext_sO hq, fun _ => if_neg (ne_of_new hq h), fun _ => if_neg (ne_of_new hq h), rfl, rfl⟩
theorem Sm_sN {S : PS} {q k n b : Nat} (hq : q ∉ pL S) (h : b ∈ pL S) : Sm S (sN S q k n) b := ⟨Ext_sN hq, fun _ => rfl, fun _ => rfl, if_neg (ne_of_new hq h), if_neg (ne_of_new hq h)⟩
theorem GX_sI {S : PS} {a k g : Nat} {v : Int32} (hG : GX S) (ha : At S a k) (ho : OK (sI S g a v) a k) : GX (sI S g a v) := fun b hb => by
  by_cases e : b = a
  · subst e; rw [show pK (sI S g b v) b = k from ha.2]; exact ho
  · exact OK_sm (Sm_sI e) (hG b hb)
theorem GX_sR {S : PS} {a k g : Nat} {v : Option Nat} (hG : GX S) (ha : At S a k) (ho : OK (sR S g a v) a k) : GX (sR S g a v) := fun b hb => by
  by_cases e : b = a
  · subst e; rw [show pK (sR S g b v) b = k from ha.2]; exact ho
  · exact OK_sm (Sm_sR e) (hG b hb)
theorem GX_sA {S : PS} {a k : Nat} {f : Nat → Int32} (hG : GX S) (ha : At S a k) (ho : OK (sA S a f) a k) : GX (sA S a f) := fun b hb => by
  by_cases e : b = a
  · subst e; rw [show pK (sA S b f) b = k from ha.2]; exact ho
  · exact OK_sm (Sm_sA e) (hG b hb)
theorem GX_sB {S : PS} {a k : Nat} {f : Nat → Option Nat} (hG : GX S) (ha : At S a k) (ho : OK (sB S a f) a k) : GX (sB S a f) := fun b hb => by
  by_cases e : b = a
  · subst e; rw [show pK (sB S b f) b = k from ha.2]; exact ho
  · exact OK_sm (Sm_sB e) (hG b hb)
theorem GX_I0 {S : PS} {a k g : Nat} {v : Int32} (hG : GX S) (ha : At S a k) (hn : ∀ t ∈ TL, t.1 = k → noI t.2 g = true) : GX (sI S g a v) := GX_sI hG ha (fun t ht e => aT_sI (hn t ht e) (hG a ha.1 t ht (e.trans ha.2.symm)))
theorem GX_I1 {S : PS} {a k g : Nat} {v : Int32} (hG : GX S) (ha : At S a k) (lo hi : Int) (hn : ∀ t ∈ TL, t.1 = k → noI t.2 g = true ∨ t.2 = (0, g, 0, lo, hi)) (h1 : lo ≤ v.toInt) (h2 : v.toInt ≤ hi) : GX (sI S g a v) := GX_sI hG ha (fun t ht e => by
  rcases hn t ht e with h | h
  · exact aT_sI h (hG a ha.1 t ht (e.trans ha.2.symm))
  · rw [h]
    show aRng (sI S g a v) a g lo hi
    unfold aRng; rw [pI_sI_same]; exact ⟨h1, h2⟩)
theorem uI_5_500 {S : PS} {a q n : Nat} {v : Int32} (hG : GX S) (ha : At S a 5) (hq : pR S 501 a = some q) (hl : pN S q = n) (h1 : 0 ≤ v.toInt) (h2 : v.toInt ≤ (n : Int)) : GX (sI S 500 a v) := GX_sI hG ha (fun t ht e => by
  rcases (by decide +kernel : ∀ t ∈ TL, t.1 = 5 → noI t.2 500 = true ∨ t.2 = (8, 0, 0, 0, 0)) t ht e with h | h
  · exact aT_sI h (hG a ha.1 t ht (e.trans ha.2.symm))
  · have h0 := hG a ha.1 t ht (e.trans ha.2.symm)
    rw [h] at h0 ⊢
    obtain ⟨q', n', a1, b1, c1, d1, d2, d3, d4, d5, d6⟩ := (h0 : aRow S a)
    rw [hq] at a1; cases a1
    rw [hl] at c1; subst c1
    exact ⟨q, n, hq, b1, hl, d1, d2, by rw [pI_sI_same]; exact h1, by rw [pI_sI_same]; exact h2, by rw [pI_sI_nf (by decide)]; exact d5, by rw [pI_sI_nf (by decide)]; exact d6⟩)
theorem uI_5_502 {S : PS} {a q n : Nat} {v : Int32} (hG : GX S) (ha : At S a 5) (hq : pR S 501 a = some q) (hl : pN S q = n) (h1 : 0 ≤ v.toInt) (h2 : v.toInt < (n : Int)) : GX (sI S 502 a v) := GX_sI hG ha (fun t ht e => by
  rcases (by decide +kernel : ∀ t ∈ TL, t.1 = 5 → noI t.2 502 = true ∨ t.2 = (8, 0, 0, 0, 0)) t ht e with h | h
  · exact aT_sI h (hG a ha.1 t ht (e.trans ha.2.symm))
  · have h0 := hG a ha.1 t ht (e.trans ha.2.symm)
    rw [h] at h0 ⊢
    obtain ⟨q', n', a1, b1, c1, d1, d2, d3, d4, d5, d6⟩ := (h0 : aRow S a)
    rw [hq] at a1; cases a1
    rw [hl] at c1; subst c1
    exact ⟨q, n, hq, b1, hl, d1, d2, by rw [pI_sI_nf (by decide)]; exact d3, by rw [pI_sI_nf (by decide)]; exact d4, by rw [pI_sI_same]; exact h1, by rw [pI_sI_same]; exact h2⟩)
theorem uI_29_904 {S : PS} {a q n : Nat} {v : Int32} (hG : GX S) (ha : At S a 29) (hq : pR S 905 a = some q) (hl : pN S q = n) (h1 : 0 ≤ v.toInt) (h2 : v.toInt ≤ (n : Int)) : GX (sI S 904 a v) := GX_sI hG ha (fun t ht e => by
  rcases (by decide +kernel : ∀ t ∈ TL, t.1 = 29 → noI t.2 904 = true ∨ t.2 = (7, 0, 0, 0, 0)) t ht e with h | h
  · exact aT_sI h (hG a ha.1 t ht (e.trans ha.2.symm))
  · have h0 := hG a ha.1 t ht (e.trans ha.2.symm)
    rw [h] at h0 ⊢
    obtain ⟨q1, q2, q3, q4, n', a1, a2, a3, a4, b1, b2, b3, b4, c1, c2, c3, c4, d0, d1, d2⟩ := (h0 : aGrw S a)
    rw [hq] at a1; cases a1
    rw [hl] at c1; subst c1
    exact ⟨q, q2, q3, q4, n, hq, a2, a3, a4, b1, b2, b3, b4, hl, c2, c3, c4, by rw [pI_sI_same]; exact h1, by rw [pI_sI_same]; exact h2, d2⟩)
theorem aT_sR {S : PS} {a g : Nat} {v : Option Nat} : {t : aTy} → (hn : noR t g = true) → (ht : aT S a t) → aT (sR S g a v) a t
  | (0, _, _, _, _), _, ht => ht
  | (1, _, _, _, _), hn, ht => by obtain ⟨q, h1, h2⟩ := ht; exact ⟨q, (pR_sR_nf (nbeq hn)).trans h1, h2⟩
  | (2, _, _, _, _), hn, ht => by obtain ⟨q, h1, h2⟩ := ht; exact ⟨q, (pR_sR_nf (nbeq hn)).trans h1, h2⟩
  | (3, _, _, _, _), hn, ht => fun q hq => ht q ((pR_sR_nf (nbeq hn)).symm.trans hq)
  | (4, _, _, _, _), _, ht => ht
  | (5, _, _, _, _), _, ht => ht
  | (6, _, _, _, _), hn, ht => by obtain ⟨q, h1, h2⟩ := ht; exact ⟨q, (pR_sR_nf (nbeq hn)).trans h1, h2⟩
  | (7, _, _, _, _), hn, ht => by
    have hn : (!(g == 905) && !(g == 906) && !(g == 907) && !(g == 908)) = true := hn
    rw [Bool.and_eq_true, Bool.and_eq_true, Bool.and_eq_true] at hn
    obtain ⟨q1, q2, q3, q4, n, a1, a2, a3, a4, r⟩ := ht
    exact ⟨q1, q2, q3, q4, n, (pR_sR_nf (nbeq2 hn.1.1.1)).trans a1, (pR_sR_nf (nbeq2 hn.1.1.2)).trans a2, (pR_sR_nf (nbeq2 hn.1.2)).trans a3, (pR_sR_nf (nbeq2 hn.2)).trans a4, r⟩
  | (8, _, _, _, _), hn, ht => by obtain ⟨q, n, h1, h2⟩ := ht; exact ⟨q, n, (pR_sR_nf (nbeq2 hn)).trans h1, h2⟩
  | (_ + 9, _, _, _, _), _, _ => trivial
theorem GX_R {S : PS} {a k g q k' : Nat} (hG : GX S) (ha : At S a k) (hq : At S q k') (hn : ∀ t ∈ TL, t.1 = k → noR t.2 g = true ∨ t.2 = (2, g, k', 0, 0) ∨ t.2 = (3, g, k', 0, 0)) : GX (sR S g a (some q)) := GX_sR hG ha (fun t ht e => by
  rcases hn t ht e with h | h | h
  · exact aT_sR h (hG a ha.1 t ht (e.trans ha.2.symm))
  · rw [h]; exact ⟨q, pR_sR_same, hq⟩
  · rw [h]
    intro q' hq'
    rw [pR_sR_same] at hq'
    cases hq'; exact hq)
theorem GX_A0 {S : PS} {a k : Nat} {f : Nat → Int32} (hG : GX S) (ha : At S a k) (hn : ∀ t ∈ TL, ¬ t.1 = k) : GX (sA S a f) := GX_sA hG ha (fun t ht e => absurd e (hn t ht))
theorem GX_Ar {S : PS} {a k : Nat} {f : Nat → Int32} (hG : GX S) (ha : At S a k) (lo hi : Int) (hn : ∀ t ∈ TL, t.1 = k → t.2 = (4, 0, 0, lo, hi)) (hf : ∀ j, lo ≤ (f j).toInt ∧ (f j).toInt ≤ hi) : GX (sA S a f) := GX_sA hG ha (fun t ht e => by
  rw [hn t ht e]
  intro j
  have e2 : pA (sA S a f) a = f := if_pos rfl
  show lo ≤ (pA (sA S a f) a j).toInt ∧ (pA (sA S a f) a j).toInt ≤ hi
  rw [e2]; exact hf j)
theorem GX_A1 {S : PS} {a k i : Nat} {v : Int32} (hG : GX S) (ha : At S a k) (lo hi : Int) (hn : ∀ t ∈ TL, t.1 = k → t.2 = (4, 0, 0, lo, hi)) (h1 : lo ≤ v.toInt) (h2 : v.toInt ≤ hi) : GX (sA S a (upd (pA S a) i v)) := GX_sA hG ha (fun t ht e => by
  have h := hG a ha.1 t ht (e.trans ha.2.symm)
  rw [hn t ht e] at h ⊢
  intro j
  have hj : lo ≤ (pA S a j).toInt ∧ (pA S a j).toInt ≤ hi := h j
  show lo ≤ (pA (sA S a (upd (pA S a) i v)) a j).toInt ∧ (pA (sA S a (upd (pA S a) i v)) a j).toInt ≤ hi
  have e2 : pA (sA S a (upd (pA S a) i v)) a = upd (pA S a) i v := if_pos rfl
  rw [e2]
  unfold upd
  split
  · exact ⟨h1, h2⟩
  · exact hj)
theorem GX_B {S : PS} {a k i k' : Nat} {v : Option Nat} (hG : GX S) (ha : At S a k) (hv : ∀ q, v = some q → At S q k') (hn : ∀ t ∈ TL, t.1 = k → t.2 = (5, 0, k', 0, 0)) : GX (sB S a (va_up (pB S a) i v)) := GX_sB hG ha (fun t ht e => by
  have h := hG a ha.1 t ht (e.trans ha.2.symm)
  rw [hn t ht e] at h ⊢
  intro j q hq
  have e2 : pB (sB S a (va_up (pB S a) i v)) a = va_up (pB S a) i v := if_pos rfl
  rw [e2] at hq
  unfold va_up at hq
  split at hq
  · exact hv q hq
  · exact h j q hq)
theorem GX_O {S : PS} {q k : Nat} (hG : GX S) (hq : q ∉ pL S) (hn : ∀ t ∈ TL, ¬ t.1 = k) : GX (sO S q k) := fun b hb => by
  rcases List.mem_append.mp hb with h | h
  · rw [show pK (sO S q k) b = pK S b from if_neg (ne_of_new hq h)]; exact OK_sm (Sm_sO hq h) (hG b h)
  · have e : b = q := List.mem_singleton.mp h
    subst e
    rw [show pK (sO S b k) b = k from if_pos rfl]
    exact fun t ht e => absurd e (hn t ht)
theorem GX_N {S : PS} {q k n : Nat} (hG : GX S) (hq : q ∉ pL S) (hn : ∀ t ∈ TL, t.1 = k → (t.2.1 = 4 ∧ t.2.2.2.2.1 ≤ 0 ∧ 0 ≤ t.2.2.2.2.2) ∨ t.2.1 = 5) : GX (sN S q k n) := fun b hb => by
  rcases List.mem_append.mp hb with h | h
  · rw [show pK (sN S q k n) b = pK S b from if_neg (ne_of_new hq h)]; exact OK_sm (Sm_sN hq h) (hG b h)
  · have e : b = q := List.mem_singleton.mp h
    subst e
    rw [show pK (sN S b k n) b = k from if_pos rfl]
    intro t ht e
    obtain ⟨k1, t1, t2, t3, t4, t5⟩ := t
    rcases hn _ ht e with ⟨z1, z2, z3⟩ | z1
    · dsimp only at z1 z2 z3
      subst z1
      show aElr (sN S b k n) b t4 t5
      intro i
      rw [show pA (sN S b k n) b = fun _ => 0 from if_pos rfl]
      exact ⟨z2, z3⟩
    · dsimp only at z1
      subst z1
      show aElo (sN S b k n) b t3
      intro i r hr
      rw [show pB (sN S b k n) b = fun _ => none from if_pos rfl] at hr
      cases hr
/-! ===== a raw object gets its kind ===== -/
def sK (S : PS) (q k : Nat) : PS := (pL S, va_up (pK S) q k, pI S, pR S, pN S, pA S, pB S)
theorem pool_sK {cy : Nat → ClassId} {S : PS} {q k0 k : Nat} (hq : At S q k0) (hm : k % 20 = k0 % 20) : pool cy (sK S q k) = pool cy S := by
  unfold pool
  show va_pl (pL S) (PF cy (sK S q k)) = va_pl (pL S) (PF cy S)
  refine va_pl_congr (fun b => ?_)
  have e : pK (sK S q k) b % 20 = pK S b % 20 := by
    show va_up (pK S) q k b % 20 = pK S b % 20
    unfold va_up
    split
    · rename_i h; rw [h, hq.2, hm]
    · rfl
  unfold PF
  rw [e]
  rfl
theorem Wd_sK {G : va_G} {cy : Nat → ClassId} {A : Nat → Prop} {H0 H : Heap} {S : PS} {locs : List Loc} {q k0 k : Nat} (hw : Wd G cy A H0 S H locs) (hq : At S q k0) (hm : k % 20 = k0 % 20) : Wd G cy A H0 (sK S q k) H locs := by
  unfold Wd; rw [pool_sK hq hm]; exact hw
theorem At_sK {S : PS} {q k k0 a k' : Nat} (hq : At S q k0) (ha : At S a k') (hne : k' ≠ k0) : At (sK S q k) a k' := ⟨ha.1, (if_neg (fun e => hne (by rw [← ha.2, e, hq.2]))).trans ha.2⟩
theorem At_nK {S : PS} {q k k0 : Nat} (hq : At S q k0) : At (sK S q k) q k := ⟨hq.1, if_pos rfl⟩
/-! ===== a method's standing: everything kept, only M changed ===== -/
def Og (M : List Nat) (S0 S : PS) : Prop := GX S ∧ Fr M S0 S
def Ok (M : List Nat) (S0 S : PS) : Prop := GX S ∧ Fr M S0 S ∧ pL S = pL S0
theorem Fr.I' {M : List Nat} {S S' : PS} {a k g : Nat} {v : Int32} (h : Fr M S S') (hg : M.contains g = false) (ha : At S a k) (hv : pI S g a = v) : pI S' g a = v := h.I (fun z => by rw [List.contains_iff_mem.mpr z] at hg; cases hg) ha hv
theorem Fr.R' {M : List Nat} {S S' : PS} {a k g : Nat} {v : Option Nat} (h : Fr M S S') (hg : M.contains g = false) (ha : At S a k) (hv : pR S g a = v) : pR S' g a = v := h.R (fun z => by rw [List.contains_iff_mem.mpr z] at hg; cases hg) ha hv
theorem Fr.A' {M : List Nat} {S S' : PS} {a k : Nat} (h : Fr M S S') (hg : M.contains (10000 + k) = false) (ha : At S a k) : pA S' a = pA S a := (h.2.2 k (fun z => by rw [List.contains_iff_mem.mpr z] at hg; cases hg) a ha.1 ha.2).1
theorem Fr.B' {M : List Nat} {S S' : PS} {a k : Nat} (h : Fr M S S') (hg : M.contains (10000 + k) = false) (ha : At S a k) : pB S' a = pB S a := (h.2.2 k (fun z => by rw [List.contains_iff_mem.mpr z] at hg; cases hg) a ha.1 ha.2).2
theorem mem_of {M : List Nat} {g : Nat} (h : M.contains g = true) : g ∈ M := List.contains_iff_mem.mp h
theorem Ok.rf {M : List Nat} {S : PS} (h : GX S) : Ok M S S := ⟨h, (Fr.rf S).mono (fun _ z => by cases z), rfl⟩
theorem Og.rf {M : List Nat} {S : PS} (h : GX S) : Og M S S := ⟨h, (Fr.rf S).mono (fun _ z => by cases z)⟩
theorem Ok.sI {M : List Nat} {S0 S S1 : PS} {g a : Nat} {v : Int32} (h : Ok M S0 S) (e : S1 = sI S g a v) (hm : M.contains g = true) (hg : GX (sI S g a v)) : Ok M S0 S1 := by subst e; exact ⟨hg, h.2.1.trans (Fr_sI (mem_of hm)), h.2.2⟩
theorem Ok.sR {M : List Nat} {S0 S S1 : PS} {g a : Nat} {v : Option Nat} (h : Ok M S0 S) (e : S1 = sR S g a v) (hm : M.contains g = true) (hg : GX (sR S g a v)) : Ok M S0 S1 := by subst e; exact ⟨hg, h.2.1.trans (Fr_sR (mem_of hm)), h.2.2⟩
theorem Ok.sA {M : List Nat} {S0 S S1 : PS} {k a : Nat} {f : Nat → Int32} (h : Ok M S0 S) (e : S1 = sA S a f) (ha : At S a k) (hm : M.contains (10000 + k) = true) (hg : GX (sA S a f)) : Ok M S0 S1 := by subst e; exact ⟨hg, h.2.1.trans (Fr_sA ha (mem_of hm)), h.2.2⟩
theorem Ok.sB {M : List Nat} {S0 S S1 : PS} {k a : Nat} {f : Nat → Option Nat} (h : Ok M S0 S) (e : S1 = sB S a f) (ha : At S a k) (hm : M.contains (10000 + k) = true) (hg : GX (sB S a f)) : Ok M S0 S1 := by subst e; exact ⟨hg, h.2.1.trans (Fr_sB ha (mem_of hm)), h.2.2⟩
theorem Og.sI {M : List Nat} {S0 S S1 : PS} {g a : Nat} {v : Int32} (h : Og M S0 S) (e : S1 = sI S g a v) (hm : M.contains g = true) (hg : GX (sI S g a v)) : Og M S0 S1 := by subst e; exact ⟨hg, h.2.trans (Fr_sI (mem_of hm))⟩
theorem Og.sR {M : List Nat} {S0 S S1 : PS} {g a : Nat} {v : Option Nat} (h : Og M S0 S) (e : S1 = sR S g a v) (hm : M.contains g = true) (hg : GX (sR S g a v)) : Og M S0 S1 := by subst e; exact ⟨hg, h.2.trans (Fr_sR (mem_of hm))⟩
theorem Og.sA {M : List Nat} {S0 S S1 : PS} {k a : Nat} {f : Nat → Int32} (h : Og M S0 S) (e : S1 = sA S a f) (ha : At S a k) (hm : M.contains (10000 + k) = true) (hg : GX (sA S a f)) : Og M S0 S1 := by subst e; exact ⟨hg, h.2.trans (Fr_sA ha (mem_of hm))⟩
theorem Og.sB {M : List Nat} {S0 S S1 : PS} {k a : Nat} {f : Nat → Option Nat} (h : Og M S0 S) (e : S1 = sB S a f) (ha : At S a k) (hm : M.contains (10000 + k) = true) (hg : GX (sB S a f)) : Og M S0 S1 := by subst e; exact ⟨hg, h.2.trans (Fr_sB ha (mem_of hm))⟩
def subM (M M' : List Nat) : Bool := M.all (fun g => M'.contains g)
theorem subM_of {M M' : List Nat} (h : subM M M' = true) : ∀ g ∈ M, g ∈ M' := fun g hg => mem_of (List.all_eq_true.mp h g hg)
theorem Ok.call {M M' : List Nat} {S0 S S1 : PS} (h : Ok M S0 S) (h' : Ok M' S S1) (hm : subM M' M = true) : Ok M S0 S1 := ⟨h'.1, h.2.1.trans (h'.2.1.mono (subM_of hm)), h'.2.2.trans h.2.2⟩
theorem Og.call {M M' : List Nat} {S0 S S1 : PS} (h : Og M S0 S) (h' : Og M' S S1) (hm : subM M' M = true) : Og M S0 S1 := ⟨h'.1, h.2.trans (h'.2.mono (subM_of hm))⟩
theorem Ok.og {M : List Nat} {S0 S : PS} (h : Ok M S0 S) : Og M S0 S := ⟨h.1, h.2.1⟩
theorem Ok.fr {M : List Nat} {S0 S : PS} (h : Ok M S0 S) : Fr M S0 S := h.2.1
theorem Og.fr {M : List Nat} {S0 S : PS} (h : Og M S0 S) : Fr M S0 S := h.2
/-! ===== facts carried over a step S1 = .. ===== -/
theorem tAt_sI {S S1 : PS} {g b a k : Nat} {v : Int32} (e : S1 = sI S g b v) (h : At S a k) : At S1 a k := by subst e; exact h
theorem tAt_sR {S S1 : PS} {g b a k : Nat} {v : Option Nat} (e : S1 = sR S g b v) (h : At S a k) : At S1 a k := by subst e; exact h
theorem tAt_sA {S S1 : PS} {b a k : Nat} {f : Nat → Int32} (e : S1 = sA S b f) (h : At S a k) : At S1 a k := by subst e; exact h
theorem tAt_sB {S S1 : PS} {b a k : Nat} {f : Nat → Option Nat} (e : S1 = sB S b f) (h : At S a k) : At S1 a k := by subst e; exact h
theorem tN_sI {S S1 : PS} {g b a n : Nat} {v : Int32} (e : S1 = sI S g b v) (h : pN S a = n) : pN S1 a = n := by subst e; exact h
theorem tN_sR {S S1 : PS} {g b a n : Nat} {v : Option Nat} (e : S1 = sR S g b v) (h : pN S a = n) : pN S1 a = n := by subst e; exact h
theorem tN_sA {S S1 : PS} {b a n : Nat} {f : Nat → Int32} (e : S1 = sA S b f) (h : pN S a = n) : pN S1 a = n := by subst e; exact h
theorem tN_sB {S S1 : PS} {b a n : Nat} {f : Nat → Option Nat} (e : S1 = sB S b f) (h : pN S a = n) : pN S1 a = n := by subst e; exact h
theorem tI_sI {S S1 : PS} {g b a f : Nat} {v w : Int32} (e : S1 = sI S g b v) (hn : Nat.beq f g = false) (h : pI S f a = w) : pI S1 f a = w := by subst e; rw [pI_sI_nf (Nat.ne_of_beq_eq_false hn)]; exact h
theorem tI_sIs {S S1 : PS} {g b : Nat} {v : Int32} (e : S1 = sI S g b v) : pI S1 g b = v := by subst e; exact pI_sI_same
theorem tI_sR {S S1 : PS} {g b a f : Nat} {v : Option Nat} {w : Int32} (e : S1 = sR S g b v) (h : pI S f a = w) : pI S1 f a = w := by subst e; exact h
theorem tI_sA {S S1 : PS} {b a g : Nat} {f : Nat → Int32} {w : Int32} (e : S1 = sA S b f) (h : pI S g a = w) : pI S1 g a = w := by subst e; exact h
theorem tI_sB {S S1 : PS} {b a g : Nat} {f : Nat → Option Nat} {w : Int32} (e : S1 = sB S b f) (h : pI S g a = w) : pI S1 g a = w := by subst e; exact h
theorem tR_sI {S S1 : PS} {g b a f : Nat} {v : Int32} {w : Option Nat} (e : S1 = sI S g b v) (h : pR S f a = w) : pR S1 f a = w := by subst e; exact h
theorem tR_sR {S S1 : PS} {g b a f : Nat} {v w : Option Nat} (e : S1 = sR S g b v) (hn : Nat.beq f g = false) (h : pR S f a = w) : pR S1 f a = w := by subst e; rw [pR_sR_nf (Nat.ne_of_beq_eq_false hn)]; exact h
theorem tR_sRs {S S1 : PS} {g b : Nat} {v : Option Nat} (e : S1 = sR S g b v) : pR S1 g b = v := by subst e; exact pR_sR_same
theorem tR_sA {S S1 : PS} {b a g : Nat} {f : Nat → Int32} {w : Option Nat} (e : S1 = sA S b f) (h : pR S g a = w) : pR S1 g a = w := by subst e; exact h
theorem tR_sB {S S1 : PS} {b a g : Nat} {f : Nat → Option Nat} {w : Option Nat} (e : S1 = sB S b f) (h : pR S g a = w) : pR S1 g a = w := by subst e; exact h
/-! ===== ints ===== -/
theorem bm_id {x : Int} (h1 : -2147483648 ≤ x) (h2 : x ≤ 2147483647) : x.bmod (2 ^ 32) = x := by
  rw [Int.bmod_eq_of_le] <;> omega
theorem z_add {x y v : Int32} {a b : Int} (e : v = x + y) (hx : x.toInt = a) (hy : y.toInt = b) (h1 : -2147483648 ≤ a + b) (h2 : a + b ≤ 2147483647) : v.toInt = a + b := by
  subst e hx hy; rw [Int32.toInt_add]; exact bm_id h1 h2
theorem z_sub {x y v : Int32} {a b : Int} (e : v = x - y) (hx : x.toInt = a) (hy : y.toInt = b) (h1 : -2147483648 ≤ a - b) (h2 : a - b ≤ 2147483647) : v.toInt = a - b := by
  subst e hx hy; rw [Int32.toInt_sub]; exact bm_id h1 h2
theorem z_mul {x y v : Int32} {a b : Int} (e : v = x * y) (hx : x.toInt = a) (hy : y.toInt = b) (h1 : -2147483648 ≤ a * b) (h2 : a * b ≤ 2147483647) : v.toInt = a * b := by
  subst e hx hy; rw [Int32.toInt_mul]; exact bm_id h1 h2
theorem z_neg {x v : Int32} {a : Int} (e : v = -x) (hx : x.toInt = a) (h1 : -2147483647 ≤ a) : v.toInt = -a := by
  have h2 := Int32.toInt_lt x
  subst e hx; rw [Int32.toInt_neg]; exact bm_id (by omega) (by omega)
theorem z_div {x y v : Int32} {a b : Int} (e : v = x / y) (hx : x.toInt = a) (hy : y.toInt = b) (h1 : 0 ≤ a) (h2 : 0 < b) : v.toInt = a / b := by
  have h3 := Int32.toInt_lt x
  subst e hx hy
  rw [Int32.toInt_div, Int.tdiv_eq_ediv_of_nonneg h1]
  have h4 : 0 ≤ x.toInt / y.toInt := Int.ediv_nonneg h1 (by omega)
  have h5 : x.toInt / y.toInt ≤ x.toInt := Int.ediv_le_self _ h1
  exact bm_id (by omega) (by omega)
theorem z_rem {x y v : Int32} {a b : Int} (e : v = x - x / y * y) (hx : x.toInt = a) (hy : y.toInt = b) (h1 : 0 ≤ a) (h2 : 0 < b) : v.toInt = a % b := by
  have h3 := Int32.toInt_lt x
  have h4 : (x / y).toInt = a / b := z_div rfl hx hy h1 h2
  have h5 : 0 ≤ a / b := Int.ediv_nonneg h1 (by omega)
  have h6 : a / b * b ≤ a := Int.ediv_mul_le a (by omega)
  have h7 : 0 ≤ a / b * b := Int.mul_nonneg h5 (by omega)
  have h8 : (x / y * y).toInt = a / b * b := z_mul rfl h4 hy (by omega) (by omega)
  have h9 : v.toInt = a - a / b * b := z_sub e hx h8 (by omega) (by omega)
  rw [h9]
  have h10 := Int.emod_def a b
  rw [h10, Int.mul_comm b (a / b)]
theorem z_lt {x y : Int32} {a b : Int} (hx : x.toInt = a) (hy : y.toInt = b) (h : x < y) : a < b := by subst hx hy; exact Int32.lt_iff_toInt_lt.mp h
theorem z_nlt {x y : Int32} {a b : Int} (hx : x.toInt = a) (hy : y.toInt = b) (h : ¬ x < y) : b ≤ a := by subst hx hy; exact Int.not_lt.mp (fun z => h (Int32.lt_iff_toInt_lt.mpr z))
theorem z_le {x y : Int32} {a b : Int} (hx : x.toInt = a) (hy : y.toInt = b) (h : x ≤ y) : a ≤ b := by subst hx hy; exact Int32.le_iff_toInt_le.mp h
theorem z_nle {x y : Int32} {a b : Int} (hx : x.toInt = a) (hy : y.toInt = b) (h : ¬ x ≤ y) : b < a := by subst hx hy; exact Int.not_le.mp (fun z => h (Int32.le_iff_toInt_le.mpr z))
theorem z_eq {x y : Int32} {a b : Int} (hx : x.toInt = a) (hy : y.toInt = b) (h : x = y) : a = b := by subst hx hy h; rfl
theorem z_ne {x y : Int32} {a b : Int} (hx : x.toInt = a) (hy : y.toInt = b) (h : ¬ x = y) : a ≠ b := by subst hx hy; exact fun z => h (Int32.toInt_inj.mp z)
theorem z_nz {x : Int32} {a : Int} (hx : x.toInt = a) (h : a ≠ 0) : ¬ x = 0 := by subst hx; exact fun z => h (by rw [z]; decide)
theorem z_ix {x : Int32} {a : Int} {n : Nat} (hx : x.toInt = a) (h1 : 0 ≤ a) (h2 : a < (n : Int)) : vp_in x n := by subst hx; exact vp_in_iff.mpr ⟨by omega, by omega⟩
theorem z_lo (x : Int32) : -2147483648 ≤ x.toInt := Int32.le_toInt x
theorem z_hi (x : Int32) : x.toInt ≤ 2147483647 := by have := Int32.toInt_lt x; omega
theorem z_len {n : Nat} {v : Int32} (e : v = nI n) (h : n ≤ 2000000) : v.toInt = (n : Int) := by
  subst e
  exact nI_toInt (by omega)
theorem z_ushr16 {x v : Int32} (e : v = (x.toUInt32 >>> ((16 : Int32).toUInt32 &&& Int32.toUInt32 31)).toInt32) : 0 ≤ v.toInt ∧ v.toInt ≤ 65535 := by
  subst e
  have h1 : ((16 : Int32).toUInt32 &&& Int32.toUInt32 31) = 16 := by decide
  rw [h1]
  have h2 : (x.toUInt32 >>> 16).toNat = x.toUInt32.toNat / 65536 := by
    rw [UInt32.toNat_shiftRight]; simp [Nat.shiftRight_eq_div_pow]
  have h3 : x.toUInt32.toNat < 4294967296 := x.toUInt32.toNat_lt
  have h4 : (x.toUInt32 >>> 16).toInt32.toInt = ((x.toUInt32 >>> 16).toNat : Int).bmod (2 ^ 32) := BitVec.toInt_eq_toNat_bmod _
  rw [h4, h2, bm_id (by omega) (by omega)]
  omega

theorem gI_0_2 {S : PS} {a : Nat} (hG : GX S) (ha : At S a 0) : 20 ≤ (pI S 2 a).toInt ∧ (pI S 2 a).toInt ≤ 220 := hG.get ha (0, 2, 0, 20, 220) (by decide +kernel)
theorem uI_0_2 {S : PS} {a : Nat} {v : Int32} (hG : GX S) (ha : At S a 0) (h1 : 20 ≤ v.toInt) (h2 : v.toInt ≤ 220) : GX (sI S 2 a v) := GX_I1 hG ha 20 220 (by decide +kernel) h1 h2
theorem gI_1_101 {S : PS} {a : Nat} (hG : GX S) (ha : At S a 1) : 0 ≤ (pI S 101 a).toInt ∧ (pI S 101 a).toInt ≤ 5 := hG.get ha (0, 101, 0, 0, 5) (by decide +kernel)
theorem uI_1_101 {S : PS} {a : Nat} {v : Int32} (hG : GX S) (ha : At S a 1) (h1 : 0 ≤ v.toInt) (h2 : v.toInt ≤ 5) : GX (sI S 101 a v) := GX_I1 hG ha 0 5 (by decide +kernel) h1 h2
theorem gI_2_203 {S : PS} {a : Nat} (hG : GX S) (ha : At S a 2) : 0 ≤ (pI S 203 a).toInt ∧ (pI S 203 a).toInt ≤ 14 := hG.get ha (0, 203, 0, 0, 14) (by decide +kernel)
theorem uI_2_203 {S : PS} {a : Nat} {v : Int32} (hG : GX S) (ha : At S a 2) (h1 : 0 ≤ v.toInt) (h2 : v.toInt ≤ 14) : GX (sI S 203 a v) := GX_I1 hG ha 0 14 (by decide +kernel) h1 h2
theorem gI_3_301 {S : PS} {a : Nat} (hG : GX S) (ha : At S a 3) : 0 ≤ (pI S 301 a).toInt ∧ (pI S 301 a).toInt ≤ 8 := hG.get ha (0, 301, 0, 0, 8) (by decide +kernel)
theorem uI_3_301 {S : PS} {a : Nat} {v : Int32} (hG : GX S) (ha : At S a 3) (h1 : 0 ≤ v.toInt) (h2 : v.toInt ≤ 8) : GX (sI S 301 a v) := GX_I1 hG ha 0 8 (by decide +kernel) h1 h2
theorem gI_6_600 {S : PS} {a : Nat} (hG : GX S) (ha : At S a 6) : 0 ≤ (pI S 600 a).toInt ∧ (pI S 600 a).toInt ≤ 12 := hG.get ha (0, 600, 0, 0, 12) (by decide +kernel)
theorem uI_6_600 {S : PS} {a : Nat} {v : Int32} (hG : GX S) (ha : At S a 6) (h1 : 0 ≤ v.toInt) (h2 : v.toInt ≤ 12) : GX (sI S 600 a v) := GX_I1 hG ha 0 12 (by decide +kernel) h1 h2
theorem gI_8_800 {S : PS} {a : Nat} (hG : GX S) (ha : At S a 8) : 0 ≤ (pI S 800 a).toInt ∧ (pI S 800 a).toInt ≤ 40 := hG.get ha (0, 800, 0, 0, 40) (by decide +kernel)
theorem uI_8_800 {S : PS} {a : Nat} {v : Int32} (hG : GX S) (ha : At S a 8) (h1 : 0 ≤ v.toInt) (h2 : v.toInt ≤ 40) : GX (sI S 800 a v) := GX_I1 hG ha 0 40 (by decide +kernel) h1 h2
theorem gI_8_806 {S : PS} {a : Nat} (hG : GX S) (ha : At S a 8) : 0 ≤ (pI S 806 a).toInt ∧ (pI S 806 a).toInt ≤ 40 := hG.get ha (0, 806, 0, 0, 40) (by decide +kernel)
theorem uI_8_806 {S : PS} {a : Nat} {v : Int32} (hG : GX S) (ha : At S a 8) (h1 : 0 ≤ v.toInt) (h2 : v.toInt ≤ 40) : GX (sI S 806 a v) := GX_I1 hG ha 0 40 (by decide +kernel) h1 h2
theorem gI_9_902 {S : PS} {a : Nat} (hG : GX S) (ha : At S a 9) : 0 ≤ (pI S 902 a).toInt ∧ (pI S 902 a).toInt ≤ 300 := hG.get ha (0, 902, 0, 0, 300) (by decide +kernel)
theorem gI_9_904 {S : PS} {a : Nat} (hG : GX S) (ha : At S a 9) : 0 ≤ (pI S 904 a).toInt ∧ (pI S 904 a).toInt ≤ 3600 := hG.get ha (0, 904, 0, 0, 3600) (by decide +kernel)
theorem gI_29_902 {S : PS} {a : Nat} (hG : GX S) (ha : At S a 29) : 0 ≤ (pI S 902 a).toInt ∧ (pI S 902 a).toInt ≤ 300 := hG.get ha (0, 902, 0, 0, 300) (by decide +kernel)
theorem uI_29_902 {S : PS} {a : Nat} {v : Int32} (hG : GX S) (ha : At S a 29) (h1 : 0 ≤ v.toInt) (h2 : v.toInt ≤ 300) : GX (sI S 902 a v) := GX_I1 hG ha 0 300 (by decide +kernel) h1 h2
theorem gI_10_1000 {S : PS} {a : Nat} (hG : GX S) (ha : At S a 10) : 0 ≤ (pI S 1000 a).toInt ∧ (pI S 1000 a).toInt ≤ 400 := hG.get ha (0, 1000, 0, 0, 400) (by decide +kernel)
theorem uI_10_1000 {S : PS} {a : Nat} {v : Int32} (hG : GX S) (ha : At S a 10) (h1 : 0 ≤ v.toInt) (h2 : v.toInt ≤ 400) : GX (sI S 1000 a v) := GX_I1 hG ha 0 400 (by decide +kernel) h1 h2
theorem gI_11_1102 {S : PS} {a : Nat} (hG : GX S) (ha : At S a 11) : 0 ≤ (pI S 1102 a).toInt ∧ (pI S 1102 a).toInt ≤ 10 := hG.get ha (0, 1102, 0, 0, 10) (by decide +kernel)
theorem uI_11_1102 {S : PS} {a : Nat} {v : Int32} (hG : GX S) (ha : At S a 11) (h1 : 0 ≤ v.toInt) (h2 : v.toInt ≤ 10) : GX (sI S 1102 a v) := GX_I1 hG ha 0 10 (by decide +kernel) h1 h2
theorem gI_11_1104 {S : PS} {a : Nat} (hG : GX S) (ha : At S a 11) : 0 ≤ (pI S 1104 a).toInt ∧ (pI S 1104 a).toInt ≤ 4 := hG.get ha (0, 1104, 0, 0, 4) (by decide +kernel)
theorem uI_11_1104 {S : PS} {a : Nat} {v : Int32} (hG : GX S) (ha : At S a 11) (h1 : 0 ≤ v.toInt) (h2 : v.toInt ≤ 4) : GX (sI S 1104 a v) := GX_I1 hG ha 0 4 (by decide +kernel) h1 h2
theorem gI_12_1201 {S : PS} {a : Nat} (hG : GX S) (ha : At S a 12) : 0 ≤ (pI S 1201 a).toInt ∧ (pI S 1201 a).toInt ≤ 10 := hG.get ha (0, 1201, 0, 0, 10) (by decide +kernel)
theorem uI_12_1201 {S : PS} {a : Nat} {v : Int32} (hG : GX S) (ha : At S a 12) (h1 : 0 ≤ v.toInt) (h2 : v.toInt ≤ 10) : GX (sI S 1201 a v) := GX_I1 hG ha 0 10 (by decide +kernel) h1 h2
theorem gI_12_1211 {S : PS} {a : Nat} (hG : GX S) (ha : At S a 12) : 0 ≤ (pI S 1211 a).toInt ∧ (pI S 1211 a).toInt ≤ 4 := hG.get ha (0, 1211, 0, 0, 4) (by decide +kernel)
theorem uI_12_1211 {S : PS} {a : Nat} {v : Int32} (hG : GX S) (ha : At S a 12) (h1 : 0 ≤ v.toInt) (h2 : v.toInt ≤ 4) : GX (sI S 1211 a v) := GX_I1 hG ha 0 4 (by decide +kernel) h1 h2
theorem gI_12_1228 {S : PS} {a : Nat} (hG : GX S) (ha : At S a 12) : 0 ≤ (pI S 1228 a).toInt ∧ (pI S 1228 a).toInt ≤ 400 := hG.get ha (0, 1228, 0, 0, 400) (by decide +kernel)
theorem uI_12_1228 {S : PS} {a : Nat} {v : Int32} (hG : GX S) (ha : At S a 12) (h1 : 0 ≤ v.toInt) (h2 : v.toInt ≤ 400) : GX (sI S 1228 a v) := GX_I1 hG ha 0 400 (by decide +kernel) h1 h2
theorem gI_12_1232 {S : PS} {a : Nat} (hG : GX S) (ha : At S a 12) : 0 ≤ (pI S 1232 a).toInt ∧ (pI S 1232 a).toInt ≤ 400 := hG.get ha (0, 1232, 0, 0, 400) (by decide +kernel)
theorem uI_12_1232 {S : PS} {a : Nat} {v : Int32} (hG : GX S) (ha : At S a 12) (h1 : 0 ≤ v.toInt) (h2 : v.toInt ≤ 400) : GX (sI S 1232 a v) := GX_I1 hG ha 0 400 (by decide +kernel) h1 h2
theorem gI_12_1233 {S : PS} {a : Nat} (hG : GX S) (ha : At S a 12) : 0 ≤ (pI S 1233 a).toInt ∧ (pI S 1233 a).toInt ≤ 400 := hG.get ha (0, 1233, 0, 0, 400) (by decide +kernel)
theorem uI_12_1233 {S : PS} {a : Nat} {v : Int32} (hG : GX S) (ha : At S a 12) (h1 : 0 ≤ v.toInt) (h2 : v.toInt ≤ 400) : GX (sI S 1233 a v) := GX_I1 hG ha 0 400 (by decide +kernel) h1 h2
theorem gI_12_1238 {S : PS} {a : Nat} (hG : GX S) (ha : At S a 12) : 0 ≤ (pI S 1238 a).toInt ∧ (pI S 1238 a).toInt ≤ 40 := hG.get ha (0, 1238, 0, 0, 40) (by decide +kernel)
theorem uI_12_1238 {S : PS} {a : Nat} {v : Int32} (hG : GX S) (ha : At S a 12) (h1 : 0 ≤ v.toInt) (h2 : v.toInt ≤ 40) : GX (sI S 1238 a v) := GX_I1 hG ha 0 40 (by decide +kernel) h1 h2
theorem gI_12_1251 {S : PS} {a : Nat} (hG : GX S) (ha : At S a 12) : 0 ≤ (pI S 1251 a).toInt ∧ (pI S 1251 a).toInt ≤ 5 := hG.get ha (0, 1251, 0, 0, 5) (by decide +kernel)
theorem uI_12_1251 {S : PS} {a : Nat} {v : Int32} (hG : GX S) (ha : At S a 12) (h1 : 0 ≤ v.toInt) (h2 : v.toInt ≤ 5) : GX (sI S 1251 a v) := GX_I1 hG ha 0 5 (by decide +kernel) h1 h2
theorem gI_12_1262 {S : PS} {a : Nat} (hG : GX S) (ha : At S a 12) : 0 ≤ (pI S 1262 a).toInt ∧ (pI S 1262 a).toInt ≤ 40 := hG.get ha (0, 1262, 0, 0, 40) (by decide +kernel)
theorem uI_12_1262 {S : PS} {a : Nat} {v : Int32} (hG : GX S) (ha : At S a 12) (h1 : 0 ≤ v.toInt) (h2 : v.toInt ≤ 40) : GX (sI S 1262 a v) := GX_I1 hG ha 0 40 (by decide +kernel) h1 h2
theorem uI_0_0 {S : PS} {a : Nat} {v : Int32} (hG : GX S) (ha : At S a 0) : GX (sI S 0 a v) := GX_I0 hG ha (by decide +kernel)
theorem uI_0_1 {S : PS} {a : Nat} {v : Int32} (hG : GX S) (ha : At S a 0) : GX (sI S 1 a v) := GX_I0 hG ha (by decide +kernel)
theorem uI_0_3 {S : PS} {a : Nat} {v : Int32} (hG : GX S) (ha : At S a 0) : GX (sI S 3 a v) := GX_I0 hG ha (by decide +kernel)
theorem uI_0_4 {S : PS} {a : Nat} {v : Int32} (hG : GX S) (ha : At S a 0) : GX (sI S 4 a v) := GX_I0 hG ha (by decide +kernel)
theorem uI_0_5 {S : PS} {a : Nat} {v : Int32} (hG : GX S) (ha : At S a 0) : GX (sI S 5 a v) := GX_I0 hG ha (by decide +kernel)
theorem uI_0_6 {S : PS} {a : Nat} {v : Int32} (hG : GX S) (ha : At S a 0) : GX (sI S 6 a v) := GX_I0 hG ha (by decide +kernel)
theorem uI_0_7 {S : PS} {a : Nat} {v : Int32} (hG : GX S) (ha : At S a 0) : GX (sI S 7 a v) := GX_I0 hG ha (by decide +kernel)
theorem uI_0_8 {S : PS} {a : Nat} {v : Int32} (hG : GX S) (ha : At S a 0) : GX (sI S 8 a v) := GX_I0 hG ha (by decide +kernel)
theorem uI_0_9 {S : PS} {a : Nat} {v : Int32} (hG : GX S) (ha : At S a 0) : GX (sI S 9 a v) := GX_I0 hG ha (by decide +kernel)
theorem uI_1_102 {S : PS} {a : Nat} {v : Int32} (hG : GX S) (ha : At S a 1) : GX (sI S 102 a v) := GX_I0 hG ha (by decide +kernel)
theorem uI_1_103 {S : PS} {a : Nat} {v : Int32} (hG : GX S) (ha : At S a 1) : GX (sI S 103 a v) := GX_I0 hG ha (by decide +kernel)
theorem uI_2_204 {S : PS} {a : Nat} {v : Int32} (hG : GX S) (ha : At S a 2) : GX (sI S 204 a v) := GX_I0 hG ha (by decide +kernel)
theorem uI_2_205 {S : PS} {a : Nat} {v : Int32} (hG : GX S) (ha : At S a 2) : GX (sI S 205 a v) := GX_I0 hG ha (by decide +kernel)
theorem uI_2_206 {S : PS} {a : Nat} {v : Int32} (hG : GX S) (ha : At S a 2) : GX (sI S 206 a v) := GX_I0 hG ha (by decide +kernel)
theorem uI_2_207 {S : PS} {a : Nat} {v : Int32} (hG : GX S) (ha : At S a 2) : GX (sI S 207 a v) := GX_I0 hG ha (by decide +kernel)
theorem uI_3_300 {S : PS} {a : Nat} {v : Int32} (hG : GX S) (ha : At S a 3) : GX (sI S 300 a v) := GX_I0 hG ha (by decide +kernel)
theorem uI_3_304 {S : PS} {a : Nat} {v : Int32} (hG : GX S) (ha : At S a 3) : GX (sI S 304 a v) := GX_I0 hG ha (by decide +kernel)
theorem uI_4_404 {S : PS} {a : Nat} {v : Int32} (hG : GX S) (ha : At S a 4) : GX (sI S 404 a v) := GX_I0 hG ha (by decide +kernel)
theorem uI_4_405 {S : PS} {a : Nat} {v : Int32} (hG : GX S) (ha : At S a 4) : GX (sI S 405 a v) := GX_I0 hG ha (by decide +kernel)
theorem uI_4_406 {S : PS} {a : Nat} {v : Int32} (hG : GX S) (ha : At S a 4) : GX (sI S 406 a v) := GX_I0 hG ha (by decide +kernel)
theorem uI_4_407 {S : PS} {a : Nat} {v : Int32} (hG : GX S) (ha : At S a 4) : GX (sI S 407 a v) := GX_I0 hG ha (by decide +kernel)
theorem uI_4_408 {S : PS} {a : Nat} {v : Int32} (hG : GX S) (ha : At S a 4) : GX (sI S 408 a v) := GX_I0 hG ha (by decide +kernel)
theorem uI_4_410 {S : PS} {a : Nat} {v : Int32} (hG : GX S) (ha : At S a 4) : GX (sI S 410 a v) := GX_I0 hG ha (by decide +kernel)
theorem uI_4_411 {S : PS} {a : Nat} {v : Int32} (hG : GX S) (ha : At S a 4) : GX (sI S 411 a v) := GX_I0 hG ha (by decide +kernel)
theorem uI_7_700 {S : PS} {a : Nat} {v : Int32} (hG : GX S) (ha : At S a 7) : GX (sI S 700 a v) := GX_I0 hG ha (by decide +kernel)
theorem uI_7_701 {S : PS} {a : Nat} {v : Int32} (hG : GX S) (ha : At S a 7) : GX (sI S 701 a v) := GX_I0 hG ha (by decide +kernel)
theorem uI_7_702 {S : PS} {a : Nat} {v : Int32} (hG : GX S) (ha : At S a 7) : GX (sI S 702 a v) := GX_I0 hG ha (by decide +kernel)
theorem uI_7_704 {S : PS} {a : Nat} {v : Int32} (hG : GX S) (ha : At S a 7) : GX (sI S 704 a v) := GX_I0 hG ha (by decide +kernel)
theorem uI_7_705 {S : PS} {a : Nat} {v : Int32} (hG : GX S) (ha : At S a 7) : GX (sI S 705 a v) := GX_I0 hG ha (by decide +kernel)
theorem uI_7_706 {S : PS} {a : Nat} {v : Int32} (hG : GX S) (ha : At S a 7) : GX (sI S 706 a v) := GX_I0 hG ha (by decide +kernel)
theorem uI_7_707 {S : PS} {a : Nat} {v : Int32} (hG : GX S) (ha : At S a 7) : GX (sI S 707 a v) := GX_I0 hG ha (by decide +kernel)
theorem uI_7_708 {S : PS} {a : Nat} {v : Int32} (hG : GX S) (ha : At S a 7) : GX (sI S 708 a v) := GX_I0 hG ha (by decide +kernel)
theorem uI_7_709 {S : PS} {a : Nat} {v : Int32} (hG : GX S) (ha : At S a 7) : GX (sI S 709 a v) := GX_I0 hG ha (by decide +kernel)
theorem uI_8_801 {S : PS} {a : Nat} {v : Int32} (hG : GX S) (ha : At S a 8) : GX (sI S 801 a v) := GX_I0 hG ha (by decide +kernel)
theorem uI_8_802 {S : PS} {a : Nat} {v : Int32} (hG : GX S) (ha : At S a 8) : GX (sI S 802 a v) := GX_I0 hG ha (by decide +kernel)
theorem uI_8_803 {S : PS} {a : Nat} {v : Int32} (hG : GX S) (ha : At S a 8) : GX (sI S 803 a v) := GX_I0 hG ha (by decide +kernel)
theorem uI_8_804 {S : PS} {a : Nat} {v : Int32} (hG : GX S) (ha : At S a 8) : GX (sI S 804 a v) := GX_I0 hG ha (by decide +kernel)
theorem uI_8_805 {S : PS} {a : Nat} {v : Int32} (hG : GX S) (ha : At S a 8) : GX (sI S 805 a v) := GX_I0 hG ha (by decide +kernel)
theorem uI_9_903 {S : PS} {a : Nat} {v : Int32} (hG : GX S) (ha : At S a 9) : GX (sI S 903 a v) := GX_I0 hG ha (by decide +kernel)
theorem uI_10_1001 {S : PS} {a : Nat} {v : Int32} (hG : GX S) (ha : At S a 10) : GX (sI S 1001 a v) := GX_I0 hG ha (by decide +kernel)
theorem uI_10_1002 {S : PS} {a : Nat} {v : Int32} (hG : GX S) (ha : At S a 10) : GX (sI S 1002 a v) := GX_I0 hG ha (by decide +kernel)
theorem uI_10_1004 {S : PS} {a : Nat} {v : Int32} (hG : GX S) (ha : At S a 10) : GX (sI S 1004 a v) := GX_I0 hG ha (by decide +kernel)
theorem uI_10_1005 {S : PS} {a : Nat} {v : Int32} (hG : GX S) (ha : At S a 10) : GX (sI S 1005 a v) := GX_I0 hG ha (by decide +kernel)
theorem uI_10_1006 {S : PS} {a : Nat} {v : Int32} (hG : GX S) (ha : At S a 10) : GX (sI S 1006 a v) := GX_I0 hG ha (by decide +kernel)
theorem uI_11_1110 {S : PS} {a : Nat} {v : Int32} (hG : GX S) (ha : At S a 11) : GX (sI S 1110 a v) := GX_I0 hG ha (by decide +kernel)
theorem uI_12_1200 {S : PS} {a : Nat} {v : Int32} (hG : GX S) (ha : At S a 12) : GX (sI S 1200 a v) := GX_I0 hG ha (by decide +kernel)
theorem uI_12_1229 {S : PS} {a : Nat} {v : Int32} (hG : GX S) (ha : At S a 12) : GX (sI S 1229 a v) := GX_I0 hG ha (by decide +kernel)
theorem uI_12_1230 {S : PS} {a : Nat} {v : Int32} (hG : GX S) (ha : At S a 12) : GX (sI S 1230 a v) := GX_I0 hG ha (by decide +kernel)
theorem uI_12_1231 {S : PS} {a : Nat} {v : Int32} (hG : GX S) (ha : At S a 12) : GX (sI S 1231 a v) := GX_I0 hG ha (by decide +kernel)
theorem uI_12_1234 {S : PS} {a : Nat} {v : Int32} (hG : GX S) (ha : At S a 12) : GX (sI S 1234 a v) := GX_I0 hG ha (by decide +kernel)
theorem uI_12_1245 {S : PS} {a : Nat} {v : Int32} (hG : GX S) (ha : At S a 12) : GX (sI S 1245 a v) := GX_I0 hG ha (by decide +kernel)
theorem uI_12_1246 {S : PS} {a : Nat} {v : Int32} (hG : GX S) (ha : At S a 12) : GX (sI S 1246 a v) := GX_I0 hG ha (by decide +kernel)
theorem uI_12_1247 {S : PS} {a : Nat} {v : Int32} (hG : GX S) (ha : At S a 12) : GX (sI S 1247 a v) := GX_I0 hG ha (by decide +kernel)
theorem uI_12_1249 {S : PS} {a : Nat} {v : Int32} (hG : GX S) (ha : At S a 12) : GX (sI S 1249 a v) := GX_I0 hG ha (by decide +kernel)
theorem uI_12_1250 {S : PS} {a : Nat} {v : Int32} (hG : GX S) (ha : At S a 12) : GX (sI S 1250 a v) := GX_I0 hG ha (by decide +kernel)
theorem uI_29_903 {S : PS} {a : Nat} {v : Int32} (hG : GX S) (ha : At S a 29) : GX (sI S 903 a v) := GX_I0 hG ha (by decide +kernel)
theorem gQ_1_100 {S : PS} {a : Nat} (hG : GX S) (ha : At S a 1) : ∃ q, pR S 100 a = some q ∧ At S q 74 ∧ pN S q = 5 := hG.get ha (1, 100, 74, 0, 5) (by decide +kernel)
theorem gQ_2_200 {S : PS} {a : Nat} (hG : GX S) (ha : At S a 2) : ∃ q, pR S 200 a = some q ∧ At S q 1734 ∧ pN S q = 14 := hG.get ha (1, 200, 1734, 0, 14) (by decide +kernel)
theorem gQ_2_201 {S : PS} {a : Nat} (hG : GX S) (ha : At S a 2) : ∃ q, pR S 201 a = some q ∧ At S q 1754 ∧ pN S q = 14 := hG.get ha (1, 201, 1754, 0, 14) (by decide +kernel)
theorem gQ_2_202 {S : PS} {a : Nat} (hG : GX S) (ha : At S a 2) : ∃ q, pR S 202 a = some q ∧ At S q 1774 ∧ pN S q = 14 := hG.get ha (1, 202, 1774, 0, 14) (by decide +kernel)
theorem gQ_3_302 {S : PS} {a : Nat} (hG : GX S) (ha : At S a 3) : ∃ q, pR S 302 a = some q ∧ At S q 114 ∧ pN S q = 8 := hG.get ha (1, 302, 114, 0, 8) (by decide +kernel)
theorem gQ_4_400 {S : PS} {a : Nat} (hG : GX S) (ha : At S a 4) : ∃ q, pR S 400 a = some q ∧ At S q 5 := hG.get ha (2, 400, 5, 0, 0) (by decide +kernel)
theorem gQ_4_401 {S : PS} {a : Nat} (hG : GX S) (ha : At S a 4) : ∃ q, pR S 401 a = some q ∧ At S q 5 := hG.get ha (2, 401, 5, 0, 0) (by decide +kernel)
theorem gQ_4_402 {S : PS} {a : Nat} (hG : GX S) (ha : At S a 4) : ∃ q, pR S 402 a = some q ∧ At S q 5 := hG.get ha (2, 402, 5, 0, 0) (by decide +kernel)
theorem gQ_4_403 {S : PS} {a : Nat} (hG : GX S) (ha : At S a 4) : ∃ q, pR S 403 a = some q ∧ At S q 29 := hG.get ha (2, 403, 29, 0, 0) (by decide +kernel)
theorem gQ_4_409 {S : PS} {a : Nat} (hG : GX S) (ha : At S a 4) : ∃ q, pR S 409 a = some q ∧ At S q 6 := hG.get ha (2, 409, 6, 0, 0) (by decide +kernel)
theorem gQ_6_601 {S : PS} {a : Nat} (hG : GX S) (ha : At S a 6) : ∃ q, pR S 601 a = some q ∧ At S q 134 ∧ pN S q = 12 := hG.get ha (1, 601, 134, 0, 12) (by decide +kernel)
theorem gQ_6_602 {S : PS} {a : Nat} (hG : GX S) (ha : At S a 6) : ∃ q, pR S 602 a = some q ∧ At S q 134 ∧ pN S q = 12 := hG.get ha (1, 602, 134, 0, 12) (by decide +kernel)
theorem gQ_6_603 {S : PS} {a : Nat} (hG : GX S) (ha : At S a 6) : ∃ q, pR S 603 a = some q ∧ At S q 34 ∧ pN S q = 12 := hG.get ha (1, 603, 34, 0, 12) (by decide +kernel)
theorem gQ_6_604 {S : PS} {a : Nat} (hG : GX S) (ha : At S a 6) : ∃ q, pR S 604 a = some q ∧ At S q 134 ∧ pN S q = 48 := hG.get ha (1, 604, 134, 0, 48) (by decide +kernel)
theorem gQ_6_605 {S : PS} {a : Nat} (hG : GX S) (ha : At S a 6) : ∃ q, pR S 605 a = some q ∧ At S q 134 ∧ pN S q = 48 := hG.get ha (1, 605, 134, 0, 48) (by decide +kernel)
theorem gQ_6_606 {S : PS} {a : Nat} (hG : GX S) (ha : At S a 6) : ∃ q, pR S 606 a = some q ∧ At S q 134 ∧ pN S q = 48 := hG.get ha (1, 606, 134, 0, 48) (by decide +kernel)
theorem gQ_7_703 {S : PS} {a : Nat} (hG : GX S) (ha : At S a 7) : ∃ q, pR S 703 a = some q ∧ At S q 9 := hG.get ha (2, 703, 9, 0, 0) (by decide +kernel)
theorem gQ_8_807 {S : PS} {a : Nat} (hG : GX S) (ha : At S a 8) : ∃ q, pR S 807 a = some q ∧ At S q 154 ∧ pN S q = 4 := hG.get ha (1, 807, 154, 0, 4) (by decide +kernel)
theorem gQ_8_808 {S : PS} {a : Nat} (hG : GX S) (ha : At S a 8) : ∃ q, pR S 808 a = some q ∧ At S q 19 ∧ pN S q = 40 := hG.get ha (1, 808, 19, 0, 40) (by decide +kernel)
theorem gQ_8_809 {S : PS} {a : Nat} (hG : GX S) (ha : At S a 8) : ∃ q, pR S 809 a = some q ∧ At S q 1674 ∧ pN S q = 40 := hG.get ha (1, 809, 1674, 0, 40) (by decide +kernel)
theorem gQ_8_810 {S : PS} {a : Nat} (hG : GX S) (ha : At S a 8) : ∃ q, pR S 810 a = some q ∧ At S q 1694 ∧ pN S q = 40 := hG.get ha (1, 810, 1694, 0, 40) (by decide +kernel)
theorem gQ_8_811 {S : PS} {a : Nat} (hG : GX S) (ha : At S a 8) : ∃ q, pR S 811 a = some q ∧ At S q 1714 ∧ pN S q = 40 := hG.get ha (1, 811, 1714, 0, 40) (by decide +kernel)
theorem gQ_8_812 {S : PS} {a : Nat} (hG : GX S) (ha : At S a 8) : ∃ q, pR S 812 a = some q ∧ At S q 2 := hG.get ha (2, 812, 2, 0, 0) (by decide +kernel)
theorem gQ_29_900 {S : PS} {a : Nat} (hG : GX S) (ha : At S a 29) : ∃ q, pR S 900 a = some q ∧ At S q 1614 ∧ pN S q = 300 := hG.get ha (1, 900, 1614, 0, 300) (by decide +kernel)
theorem gQ_29_901 {S : PS} {a : Nat} (hG : GX S) (ha : At S a 29) : ∃ q, pR S 901 a = some q ∧ At S q 1634 ∧ pN S q = 300 := hG.get ha (1, 901, 1634, 0, 300) (by decide +kernel)
theorem gQ_10_1003 {S : PS} {a : Nat} (hG : GX S) (ha : At S a 10) : ∃ q, pR S 1003 a = some q ∧ At S q 13 ∧ pN S q = 400 := hG.get ha (1, 1003, 13, 0, 400) (by decide +kernel)
theorem gQ_11_1100 {S : PS} {a : Nat} (hG : GX S) (ha : At S a 11) : ∃ q, pR S 1100 a = some q ∧ At S q 36 ∧ pN S q = 600 := hG.get ha (1, 1100, 36, 0, 600) (by decide +kernel)
theorem gQ_11_1101 {S : PS} {a : Nat} (hG : GX S) (ha : At S a 11) : ∃ q, pR S 1101 a = some q ∧ At S q 54 ∧ pN S q = 10 := hG.get ha (1, 1101, 54, 0, 10) (by decide +kernel)
theorem gQ_11_1103 {S : PS} {a : Nat} (hG : GX S) (ha : At S a 11) : ∃ q, pR S 1103 a = some q ∧ At S q 18 ∧ pN S q = 4 := hG.get ha (1, 1103, 18, 0, 4) (by decide +kernel)
theorem gQ_11_1105 {S : PS} {a : Nat} (hG : GX S) (ha : At S a 11) : ∃ q, pR S 1105 a = some q ∧ At S q 10 := hG.get ha (2, 1105, 10, 0, 0) (by decide +kernel)
theorem gQ_11_1106 {S : PS} {a : Nat} (hG : GX S) (ha : At S a 11) : ∃ q, pR S 1106 a = some q ∧ At S q 6 := hG.get ha (2, 1106, 6, 0, 0) (by decide +kernel)
theorem gQ_11_1107 {S : PS} {a : Nat} (hG : GX S) (ha : At S a 11) : ∃ q, pR S 1107 a = some q ∧ At S q 8 := hG.get ha (2, 1107, 8, 0, 0) (by decide +kernel)
theorem gQ_11_1108 {S : PS} {a : Nat} (hG : GX S) (ha : At S a 11) : ∃ q, pR S 1108 a = some q ∧ At S q 1 := hG.get ha (2, 1108, 1, 0, 0) (by decide +kernel)
theorem gQ_11_1109 {S : PS} {a : Nat} (hG : GX S) (ha : At S a 11) : ∃ q, pR S 1109 a = some q ∧ At S q 17 ∧ pN S q = 16 := hG.get ha (1, 1109, 17, 0, 16) (by decide +kernel)
theorem gQ_11_1111 {S : PS} {a : Nat} (hG : GX S) (ha : At S a 11) : ∃ q, pR S 1111 a = some q ∧ At S q 194 ∧ pN S q = 60 := hG.get ha (1, 1111, 194, 0, 60) (by decide +kernel)
theorem gQ_12_1202 {S : PS} {a : Nat} (hG : GX S) (ha : At S a 12) : ∃ q, pR S 1202 a = some q ∧ At S q 254 ∧ pN S q = 10 := hG.get ha (1, 1202, 254, 0, 10) (by decide +kernel)
theorem gQ_12_1203 {S : PS} {a : Nat} (hG : GX S) (ha : At S a 12) : ∃ q, pR S 1203 a = some q ∧ At S q 274 ∧ pN S q = 10 := hG.get ha (1, 1203, 274, 0, 10) (by decide +kernel)
theorem gQ_12_1204 {S : PS} {a : Nat} (hG : GX S) (ha : At S a 12) : ∃ q, pR S 1204 a = some q ∧ At S q 294 ∧ pN S q = 10 := hG.get ha (1, 1204, 294, 0, 10) (by decide +kernel)
theorem gQ_12_1205 {S : PS} {a : Nat} (hG : GX S) (ha : At S a 12) : ∃ q, pR S 1205 a = some q ∧ At S q 314 ∧ pN S q = 10 := hG.get ha (1, 1205, 314, 0, 10) (by decide +kernel)
theorem gQ_12_1206 {S : PS} {a : Nat} (hG : GX S) (ha : At S a 12) : ∃ q, pR S 1206 a = some q ∧ At S q 334 ∧ pN S q = 10 := hG.get ha (1, 1206, 334, 0, 10) (by decide +kernel)
theorem gQ_12_1207 {S : PS} {a : Nat} (hG : GX S) (ha : At S a 12) : ∃ q, pR S 1207 a = some q ∧ At S q 354 ∧ pN S q = 600 := hG.get ha (1, 1207, 354, 0, 600) (by decide +kernel)
theorem gQ_12_1208 {S : PS} {a : Nat} (hG : GX S) (ha : At S a 12) : ∃ q, pR S 1208 a = some q ∧ At S q 374 ∧ pN S q = 600 := hG.get ha (1, 1208, 374, 0, 600) (by decide +kernel)
theorem gQ_12_1209 {S : PS} {a : Nat} (hG : GX S) (ha : At S a 12) : ∃ q, pR S 1209 a = some q ∧ At S q 394 ∧ pN S q = 600 := hG.get ha (1, 1209, 394, 0, 600) (by decide +kernel)
theorem gQ_12_1210 {S : PS} {a : Nat} (hG : GX S) (ha : At S a 12) : ∃ q, pR S 1210 a = some q ∧ At S q 414 ∧ pN S q = 8 := hG.get ha (1, 1210, 414, 0, 8) (by decide +kernel)
theorem gQ_12_1212 {S : PS} {a : Nat} (hG : GX S) (ha : At S a 12) : ∃ q, pR S 1212 a = some q ∧ At S q 454 ∧ pN S q = 4 := hG.get ha (1, 1212, 454, 0, 4) (by decide +kernel)
theorem gQ_12_1213 {S : PS} {a : Nat} (hG : GX S) (ha : At S a 12) : ∃ q, pR S 1213 a = some q ∧ At S q 474 ∧ pN S q = 4 := hG.get ha (1, 1213, 474, 0, 4) (by decide +kernel)
theorem gQ_12_1214 {S : PS} {a : Nat} (hG : GX S) (ha : At S a 12) : ∃ q, pR S 1214 a = some q ∧ At S q 494 ∧ pN S q = 4 := hG.get ha (1, 1214, 494, 0, 4) (by decide +kernel)
theorem gQ_12_1215 {S : PS} {a : Nat} (hG : GX S) (ha : At S a 12) : ∃ q, pR S 1215 a = some q ∧ At S q 514 ∧ pN S q = 4 := hG.get ha (1, 1215, 514, 0, 4) (by decide +kernel)
theorem gQ_12_1216 {S : PS} {a : Nat} (hG : GX S) (ha : At S a 12) : ∃ q, pR S 1216 a = some q ∧ At S q 534 ∧ pN S q = 4 := hG.get ha (1, 1216, 534, 0, 4) (by decide +kernel)
theorem gQ_12_1217 {S : PS} {a : Nat} (hG : GX S) (ha : At S a 12) : ∃ q, pR S 1217 a = some q ∧ At S q 554 ∧ pN S q = 4 := hG.get ha (1, 1217, 554, 0, 4) (by decide +kernel)
theorem gQ_12_1218 {S : PS} {a : Nat} (hG : GX S) (ha : At S a 12) : ∃ q, pR S 1218 a = some q ∧ At S q 574 ∧ pN S q = 7200 := hG.get ha (1, 1218, 574, 0, 7200) (by decide +kernel)
theorem gQ_12_1219 {S : PS} {a : Nat} (hG : GX S) (ha : At S a 12) : ∃ q, pR S 1219 a = some q ∧ At S q 594 ∧ pN S q = 12 := hG.get ha (1, 1219, 594, 0, 12) (by decide +kernel)
theorem gQ_12_1220 {S : PS} {a : Nat} (hG : GX S) (ha : At S a 12) : ∃ q, pR S 1220 a = some q ∧ At S q 614 ∧ pN S q = 5 := hG.get ha (1, 1220, 614, 0, 5) (by decide +kernel)
theorem gQ_12_1221 {S : PS} {a : Nat} (hG : GX S) (ha : At S a 12) : ∃ q, pR S 1221 a = some q ∧ At S q 634 ∧ pN S q = 60 := hG.get ha (1, 1221, 634, 0, 60) (by decide +kernel)
theorem gQ_12_1222 {S : PS} {a : Nat} (hG : GX S) (ha : At S a 12) : ∃ q, pR S 1222 a = some q ∧ At S q 654 ∧ pN S q = 60 := hG.get ha (1, 1222, 654, 0, 60) (by decide +kernel)
theorem gQ_12_1223 {S : PS} {a : Nat} (hG : GX S) (ha : At S a 12) : ∃ q, pR S 1223 a = some q ∧ At S q 674 ∧ pN S q = 60 := hG.get ha (1, 1223, 674, 0, 60) (by decide +kernel)
theorem gQ_12_1224 {S : PS} {a : Nat} (hG : GX S) (ha : At S a 12) : ∃ q, pR S 1224 a = some q ∧ At S q 694 ∧ pN S q = 240 := hG.get ha (1, 1224, 694, 0, 240) (by decide +kernel)
theorem gQ_12_1225 {S : PS} {a : Nat} (hG : GX S) (ha : At S a 12) : ∃ q, pR S 1225 a = some q ∧ At S q 714 ∧ pN S q = 240 := hG.get ha (1, 1225, 714, 0, 240) (by decide +kernel)
theorem gQ_12_1226 {S : PS} {a : Nat} (hG : GX S) (ha : At S a 12) : ∃ q, pR S 1226 a = some q ∧ At S q 734 ∧ pN S q = 240 := hG.get ha (1, 1226, 734, 0, 240) (by decide +kernel)
theorem gQ_12_1227 {S : PS} {a : Nat} (hG : GX S) (ha : At S a 12) : ∃ q, pR S 1227 a = some q ∧ At S q 753 ∧ pN S q = 400 := hG.get ha (1, 1227, 753, 0, 400) (by decide +kernel)
theorem gQ_12_1235 {S : PS} {a : Nat} (hG : GX S) (ha : At S a 12) : ∃ q, pR S 1235 a = some q ∧ At S q 914 ∧ pN S q = 13200 := hG.get ha (1, 1235, 914, 0, 13200) (by decide +kernel)
theorem gQ_12_1236 {S : PS} {a : Nat} (hG : GX S) (ha : At S a 12) : ∃ q, pR S 1236 a = some q ∧ At S q 934 ∧ pN S q = 158400 := hG.get ha (1, 1236, 934, 0, 158400) (by decide +kernel)
theorem gQ_12_1237 {S : PS} {a : Nat} (hG : GX S) (ha : At S a 12) : ∃ q, pR S 1237 a = some q ∧ At S q 954 ∧ pN S q = 4 := hG.get ha (1, 1237, 954, 0, 4) (by decide +kernel)
theorem gQ_12_1239 {S : PS} {a : Nat} (hG : GX S) (ha : At S a 12) : ∃ q, pR S 1239 a = some q ∧ At S q 994 ∧ pN S q = 41 := hG.get ha (1, 1239, 994, 0, 41) (by decide +kernel)
theorem gQ_12_1240 {S : PS} {a : Nat} (hG : GX S) (ha : At S a 12) : ∃ q, pR S 1240 a = some q ∧ At S q 1014 ∧ pN S q = 40 := hG.get ha (1, 1240, 1014, 0, 40) (by decide +kernel)
theorem gQ_12_1241 {S : PS} {a : Nat} (hG : GX S) (ha : At S a 12) : ∃ q, pR S 1241 a = some q ∧ At S q 1034 ∧ pN S q = 40 := hG.get ha (1, 1241, 1034, 0, 40) (by decide +kernel)
theorem gQ_12_1242 {S : PS} {a : Nat} (hG : GX S) (ha : At S a 12) : ∃ q, pR S 1242 a = some q ∧ At S q 1054 ∧ pN S q = 40 := hG.get ha (1, 1242, 1054, 0, 40) (by decide +kernel)
theorem gQ_12_1243 {S : PS} {a : Nat} (hG : GX S) (ha : At S a 12) : ∃ q, pR S 1243 a = some q ∧ At S q 1074 ∧ pN S q = 40 := hG.get ha (1, 1243, 1074, 0, 40) (by decide +kernel)
theorem gQ_12_1244 {S : PS} {a : Nat} (hG : GX S) (ha : At S a 12) : ∃ q, pR S 1244 a = some q ∧ At S q 1095 ∧ pN S q = 40 := hG.get ha (1, 1244, 1095, 0, 40) (by decide +kernel)
theorem gQ_12_1248 {S : PS} {a : Nat} (hG : GX S) (ha : At S a 12) : ∃ q, pR S 1248 a = some q ∧ At S q 1174 ∧ pN S q = 4 := hG.get ha (1, 1248, 1174, 0, 4) (by decide +kernel)
theorem gQ_12_1252 {S : PS} {a : Nat} (hG : GX S) (ha : At S a 12) : ∃ q, pR S 1252 a = some q ∧ At S q 1254 ∧ pN S q = 5 := hG.get ha (1, 1252, 1254, 0, 5) (by decide +kernel)
theorem gQ_12_1253 {S : PS} {a : Nat} (hG : GX S) (ha : At S a 12) : ∃ q, pR S 1253 a = some q ∧ At S q 1275 ∧ pN S q = 16 := hG.get ha (1, 1253, 1275, 0, 16) (by decide +kernel)
theorem gQ_12_1254 {S : PS} {a : Nat} (hG : GX S) (ha : At S a 12) : ∃ q, pR S 1254 a = some q ∧ At S q 1294 ∧ pN S q = 16 := hG.get ha (1, 1254, 1294, 0, 16) (by decide +kernel)
theorem gQ_12_1255 {S : PS} {a : Nat} (hG : GX S) (ha : At S a 12) : ∃ q, pR S 1255 a = some q ∧ At S q 1314 ∧ pN S q = 16 := hG.get ha (1, 1255, 1314, 0, 16) (by decide +kernel)
theorem gQ_12_1256 {S : PS} {a : Nat} (hG : GX S) (ha : At S a 12) : ∃ q, pR S 1256 a = some q ∧ At S q 1334 ∧ pN S q = 16 := hG.get ha (1, 1256, 1334, 0, 16) (by decide +kernel)
theorem gQ_12_1257 {S : PS} {a : Nat} (hG : GX S) (ha : At S a 12) : ∃ q, pR S 1257 a = some q ∧ At S q 1354 ∧ pN S q = 128 := hG.get ha (1, 1257, 1354, 0, 128) (by decide +kernel)
theorem gQ_12_1258 {S : PS} {a : Nat} (hG : GX S) (ha : At S a 12) : ∃ q, pR S 1258 a = some q ∧ At S q 1374 ∧ pN S q = 14 := hG.get ha (1, 1258, 1374, 0, 14) (by decide +kernel)
theorem gQ_12_1259 {S : PS} {a : Nat} (hG : GX S) (ha : At S a 12) : ∃ q, pR S 1259 a = some q ∧ At S q 1394 ∧ pN S q = 14 := hG.get ha (1, 1259, 1394, 0, 14) (by decide +kernel)
theorem gQ_12_1260 {S : PS} {a : Nat} (hG : GX S) (ha : At S a 12) : ∃ q, pR S 1260 a = some q ∧ At S q 1414 ∧ pN S q = 14 := hG.get ha (1, 1260, 1414, 0, 14) (by decide +kernel)
theorem gQ_12_1261 {S : PS} {a : Nat} (hG : GX S) (ha : At S a 12) : ∃ q, pR S 1261 a = some q ∧ At S q 1435 ∧ pN S q = 40 := hG.get ha (1, 1261, 1435, 0, 40) (by decide +kernel)
theorem gQ_12_1263 {S : PS} {a : Nat} (hG : GX S) (ha : At S a 12) : ∃ q, pR S 1263 a = some q ∧ At S q 1474 ∧ pN S q = 40 := hG.get ha (1, 1263, 1474, 0, 40) (by decide +kernel)
theorem gQ_12_1264 {S : PS} {a : Nat} (hG : GX S) (ha : At S a 12) : ∃ q, pR S 1264 a = some q ∧ At S q 1494 ∧ pN S q = 40 := hG.get ha (1, 1264, 1494, 0, 40) (by decide +kernel)
theorem gQ_12_1265 {S : PS} {a : Nat} (hG : GX S) (ha : At S a 12) : ∃ q, pR S 1265 a = some q ∧ At S q 1514 ∧ pN S q = 40 := hG.get ha (1, 1265, 1514, 0, 40) (by decide +kernel)
theorem gO_3_303 {S : PS} {a : Nat} (hG : GX S) (ha : At S a 3) : ∀ q, pR S 303 a = some q → At S q 0 := hG.get ha (3, 303, 0, 0, 0) (by decide +kernel)
theorem gC_9_900 {S : PS} {a : Nat} (hG : GX S) (ha : At S a 9) : ∃ q, pR S 900 a = some q ∧ At S q 1654 ∧ (pI S 902 a).toInt ≤ (pN S q : Int) ∧ pN S q ≤ 3600 := hG.get ha (6, 900, 1654, 0, 902) (by decide +kernel)
theorem gC_9_901 {S : PS} {a : Nat} (hG : GX S) (ha : At S a 9) : ∃ q, pR S 901 a = some q ∧ At S q 1654 ∧ (pI S 902 a).toInt ≤ (pN S q : Int) ∧ pN S q ≤ 3600 := hG.get ha (6, 901, 1654, 0, 902) (by decide +kernel)
theorem gC_9_905 {S : PS} {a : Nat} (hG : GX S) (ha : At S a 9) : ∃ q, pR S 905 a = some q ∧ At S q 1654 ∧ (pI S 904 a).toInt ≤ (pN S q : Int) ∧ pN S q ≤ 3600 := hG.get ha (6, 905, 1654, 0, 904) (by decide +kernel)
theorem gC_9_906 {S : PS} {a : Nat} (hG : GX S) (ha : At S a 9) : ∃ q, pR S 906 a = some q ∧ At S q 1654 ∧ (pI S 904 a).toInt ≤ (pN S q : Int) ∧ pN S q ≤ 3600 := hG.get ha (6, 906, 1654, 0, 904) (by decide +kernel)
theorem gC_9_907 {S : PS} {a : Nat} (hG : GX S) (ha : At S a 9) : ∃ q, pR S 907 a = some q ∧ At S q 1654 ∧ (pI S 904 a).toInt ≤ (pN S q : Int) ∧ pN S q ≤ 3600 := hG.get ha (6, 907, 1654, 0, 904) (by decide +kernel)
theorem gC_9_908 {S : PS} {a : Nat} (hG : GX S) (ha : At S a 9) : ∃ q, pR S 908 a = some q ∧ At S q 1654 ∧ (pI S 904 a).toInt ≤ (pN S q : Int) ∧ pN S q ≤ 3600 := hG.get ha (6, 908, 1654, 0, 904) (by decide +kernel)
theorem gRow {S : PS} {a : Nat} (hG : GX S) (ha : At S a 5) : aRow S a := hG.get ha (8, 0, 0, 0, 0) (by decide +kernel)
theorem gGrw {S : PS} {a : Nat} (hG : GX S) (ha : At S a 29) : aGrw S a := hG.get ha (7, 0, 0, 0, 0) (by decide +kernel)
theorem gE_34 {S : PS} {a : Nat} (hG : GX S) (ha : At S a 34) : ∀ i, 0 ≤ (pA S a i).toInt ∧ (pA S a i).toInt ≤ 4 := fun i => (show aElr S a 0 4 from hG.get ha (4, 0, 0, 0, 4) (by decide +kernel)) i
theorem uA_34 {S : PS} {a i : Nat} {v : Int32} (hG : GX S) (ha : At S a 34) (h1 : 0 ≤ v.toInt) (h2 : v.toInt ≤ 4) : GX (sA S a (upd (pA S a) i v)) := GX_A1 hG ha 0 4 (by decide +kernel) h1 h2
theorem gE_54 {S : PS} {a : Nat} (hG : GX S) (ha : At S a 54) : ∀ i, 0 ≤ (pA S a i).toInt ∧ (pA S a i).toInt ≤ 60 := fun i => (show aElr S a 0 60 from hG.get ha (4, 0, 0, 0, 60) (by decide +kernel)) i
theorem uA_54 {S : PS} {a i : Nat} {v : Int32} (hG : GX S) (ha : At S a 54) (h1 : 0 ≤ v.toInt) (h2 : v.toInt ≤ 60) : GX (sA S a (upd (pA S a) i v)) := GX_A1 hG ha 0 60 (by decide +kernel) h1 h2
theorem gE_254 {S : PS} {a : Nat} (hG : GX S) (ha : At S a 254) : ∀ i, 0 ≤ (pA S a i).toInt ∧ (pA S a i).toInt ≤ 60 := fun i => (show aElr S a 0 60 from hG.get ha (4, 0, 0, 0, 60) (by decide +kernel)) i
theorem uA_254 {S : PS} {a i : Nat} {v : Int32} (hG : GX S) (ha : At S a 254) (h1 : 0 ≤ v.toInt) (h2 : v.toInt ≤ 60) : GX (sA S a (upd (pA S a) i v)) := GX_A1 hG ha 0 60 (by decide +kernel) h1 h2
theorem gE_314 {S : PS} {a : Nat} (hG : GX S) (ha : At S a 314) : ∀ i, 0 ≤ (pA S a i).toInt ∧ (pA S a i).toInt ≤ 200 := fun i => (show aElr S a 0 200 from hG.get ha (4, 0, 0, 0, 200) (by decide +kernel)) i
theorem uA_314 {S : PS} {a i : Nat} {v : Int32} (hG : GX S) (ha : At S a 314) (h1 : 0 ≤ v.toInt) (h2 : v.toInt ≤ 200) : GX (sA S a (upd (pA S a) i v)) := GX_A1 hG ha 0 200 (by decide +kernel) h1 h2
theorem gE_374 {S : PS} {a : Nat} (hG : GX S) (ha : At S a 374) : ∀ i, 0 ≤ (pA S a i).toInt ∧ (pA S a i).toInt ≤ 220 := fun i => (show aElr S a 0 220 from hG.get ha (4, 0, 0, 0, 220) (by decide +kernel)) i
theorem uA_374 {S : PS} {a i : Nat} {v : Int32} (hG : GX S) (ha : At S a 374) (h1 : 0 ≤ v.toInt) (h2 : v.toInt ≤ 220) : GX (sA S a (upd (pA S a) i v)) := GX_A1 hG ha 0 220 (by decide +kernel) h1 h2
theorem gE_574 {S : PS} {a : Nat} (hG : GX S) (ha : At S a 574) : ∀ i, 0 ≤ (pA S a i).toInt ∧ (pA S a i).toInt ≤ 599 := fun i => (show aElr S a 0 599 from hG.get ha (4, 0, 0, 0, 599) (by decide +kernel)) i
theorem uA_574 {S : PS} {a i : Nat} {v : Int32} (hG : GX S) (ha : At S a 574) (h1 : 0 ≤ v.toInt) (h2 : v.toInt ≤ 599) : GX (sA S a (upd (pA S a) i v)) := GX_A1 hG ha 0 599 (by decide +kernel) h1 h2
theorem gE_594 {S : PS} {a : Nat} (hG : GX S) (ha : At S a 594) : ∀ i, 0 ≤ (pA S a i).toInt ∧ (pA S a i).toInt ≤ 600 := fun i => (show aElr S a 0 600 from hG.get ha (4, 0, 0, 0, 600) (by decide +kernel)) i
theorem uA_594 {S : PS} {a i : Nat} {v : Int32} (hG : GX S) (ha : At S a 594) (h1 : 0 ≤ v.toInt) (h2 : v.toInt ≤ 600) : GX (sA S a (upd (pA S a) i v)) := GX_A1 hG ha 0 600 (by decide +kernel) h1 h2
theorem gE_614 {S : PS} {a : Nat} (hG : GX S) (ha : At S a 614) : ∀ i, 0 ≤ (pA S a i).toInt ∧ (pA S a i).toInt ≤ 12 := fun i => (show aElr S a 0 12 from hG.get ha (4, 0, 0, 0, 12) (by decide +kernel)) i
theorem uA_614 {S : PS} {a i : Nat} {v : Int32} (hG : GX S) (ha : At S a 614) (h1 : 0 ≤ v.toInt) (h2 : v.toInt ≤ 12) : GX (sA S a (upd (pA S a) i v)) := GX_A1 hG ha 0 12 (by decide +kernel) h1 h2
theorem gE_674 {S : PS} {a : Nat} (hG : GX S) (ha : At S a 674) : ∀ i, 0 ≤ (pA S a i).toInt ∧ (pA S a i).toInt ≤ 4 := fun i => (show aElr S a 0 4 from hG.get ha (4, 0, 0, 0, 4) (by decide +kernel)) i
theorem uA_674 {S : PS} {a i : Nat} {v : Int32} (hG : GX S) (ha : At S a 674) (h1 : 0 ≤ v.toInt) (h2 : v.toInt ≤ 4) : GX (sA S a (upd (pA S a) i v)) := GX_A1 hG ha 0 4 (by decide +kernel) h1 h2
theorem gE_753 {S : PS} {a : Nat} (hG : GX S) (ha : At S a 753) : ∀ i, (-128) ≤ (pA S a i).toInt ∧ (pA S a i).toInt ≤ 127 := fun i => (show aElr S a (Int.negSucc 127) 127 from hG.get ha (4, 0, 0, (Int.negSucc 127), 127) (by decide +kernel)) i
theorem uA_753 {S : PS} {a i : Nat} {v : Int32} (hG : GX S) (ha : At S a 753) (h1 : (-128) ≤ v.toInt) (h2 : v.toInt ≤ 127) : GX (sA S a (upd (pA S a) i v)) := GX_A1 hG ha (Int.negSucc 127) 127 (by decide +kernel) h1 h2
theorem gE_914 {S : PS} {a : Nat} (hG : GX S) (ha : At S a 914) : ∀ i, 0 ≤ (pA S a i).toInt ∧ (pA S a i).toInt ≤ 12 := fun i => (show aElr S a 0 12 from hG.get ha (4, 0, 0, 0, 12) (by decide +kernel)) i
theorem uA_914 {S : PS} {a i : Nat} {v : Int32} (hG : GX S) (ha : At S a 914) (h1 : 0 ≤ v.toInt) (h2 : v.toInt ≤ 12) : GX (sA S a (upd (pA S a) i v)) := GX_A1 hG ha 0 12 (by decide +kernel) h1 h2
theorem gE_934 {S : PS} {a : Nat} (hG : GX S) (ha : At S a 934) : ∀ i, 0 ≤ (pA S a i).toInt ∧ (pA S a i).toInt ≤ 599999 := fun i => (show aElr S a 0 599999 from hG.get ha (4, 0, 0, 0, 599999) (by decide +kernel)) i
theorem uA_934 {S : PS} {a i : Nat} {v : Int32} (hG : GX S) (ha : At S a 934) (h1 : 0 ≤ v.toInt) (h2 : v.toInt ≤ 599999) : GX (sA S a (upd (pA S a) i v)) := GX_A1 hG ha 0 599999 (by decide +kernel) h1 h2
theorem gE_954 {S : PS} {a : Nat} (hG : GX S) (ha : At S a 954) : ∀ i, 0 ≤ (pA S a i).toInt ∧ (pA S a i).toInt ≤ 300 := fun i => (show aElr S a 0 300 from hG.get ha (4, 0, 0, 0, 300) (by decide +kernel)) i
theorem uA_954 {S : PS} {a i : Nat} {v : Int32} (hG : GX S) (ha : At S a 954) (h1 : 0 ≤ v.toInt) (h2 : v.toInt ≤ 300) : GX (sA S a (upd (pA S a) i v)) := GX_A1 hG ha 0 300 (by decide +kernel) h1 h2
theorem gE_994 {S : PS} {a : Nat} (hG : GX S) (ha : At S a 994) : ∀ i, 0 ≤ (pA S a i).toInt ∧ (pA S a i).toInt ≤ 12000 := fun i => (show aElr S a 0 12000 from hG.get ha (4, 0, 0, 0, 12000) (by decide +kernel)) i
theorem uA_994 {S : PS} {a i : Nat} {v : Int32} (hG : GX S) (ha : At S a 994) (h1 : 0 ≤ v.toInt) (h2 : v.toInt ≤ 12000) : GX (sA S a (upd (pA S a) i v)) := GX_A1 hG ha 0 12000 (by decide +kernel) h1 h2
theorem gE_1074 {S : PS} {a : Nat} (hG : GX S) (ha : At S a 1074) : ∀ i, (-1) ≤ (pA S a i).toInt ∧ (pA S a i).toInt ≤ 3 := fun i => (show aElr S a (Int.negSucc 0) 3 from hG.get ha (4, 0, 0, (Int.negSucc 0), 3) (by decide +kernel)) i
theorem uA_1074 {S : PS} {a i : Nat} {v : Int32} (hG : GX S) (ha : At S a 1074) (h1 : (-1) ≤ v.toInt) (h2 : v.toInt ≤ 3) : GX (sA S a (upd (pA S a) i v)) := GX_A1 hG ha (Int.negSucc 0) 3 (by decide +kernel) h1 h2
theorem gE_1334 {S : PS} {a : Nat} (hG : GX S) (ha : At S a 1334) : ∀ i, 0 ≤ (pA S a i).toInt ∧ (pA S a i).toInt ≤ 8 := fun i => (show aElr S a 0 8 from hG.get ha (4, 0, 0, 0, 8) (by decide +kernel)) i
theorem uA_1334 {S : PS} {a i : Nat} {v : Int32} (hG : GX S) (ha : At S a 1334) (h1 : 0 ≤ v.toInt) (h2 : v.toInt ≤ 8) : GX (sA S a (upd (pA S a) i v)) := GX_A1 hG ha 0 8 (by decide +kernel) h1 h2
theorem gE_1374 {S : PS} {a : Nat} (hG : GX S) (ha : At S a 1374) : ∀ i, 0 ≤ (pA S a i).toInt ∧ (pA S a i).toInt ≤ 39 := fun i => (show aElr S a 0 39 from hG.get ha (4, 0, 0, 0, 39) (by decide +kernel)) i
theorem uA_1374 {S : PS} {a i : Nat} {v : Int32} (hG : GX S) (ha : At S a 1374) (h1 : 0 ≤ v.toInt) (h2 : v.toInt ≤ 39) : GX (sA S a (upd (pA S a) i v)) := GX_A1 hG ha 0 39 (by decide +kernel) h1 h2
theorem gE_1474 {S : PS} {a : Nat} (hG : GX S) (ha : At S a 1474) : ∀ i, 0 ≤ (pA S a i).toInt ∧ (pA S a i).toInt ≤ 39 := fun i => (show aElr S a 0 39 from hG.get ha (4, 0, 0, 0, 39) (by decide +kernel)) i
theorem uA_1474 {S : PS} {a i : Nat} {v : Int32} (hG : GX S) (ha : At S a 1474) (h1 : 0 ≤ v.toInt) (h2 : v.toInt ≤ 39) : GX (sA S a (upd (pA S a) i v)) := GX_A1 hG ha 0 39 (by decide +kernel) h1 h2
theorem uA_13 {S : PS} {a : Nat} {f : Nat → Int32} (hG : GX S) (ha : At S a 13) : GX (sA S a f) := GX_A0 hG ha (by decide +kernel)
theorem uA_14 {S : PS} {a : Nat} {f : Nat → Int32} (hG : GX S) (ha : At S a 14) : GX (sA S a f) := GX_A0 hG ha (by decide +kernel)
theorem uA_74 {S : PS} {a : Nat} {f : Nat → Int32} (hG : GX S) (ha : At S a 74) : GX (sA S a f) := GX_A0 hG ha (by decide +kernel)
theorem uA_94 {S : PS} {a : Nat} {f : Nat → Int32} (hG : GX S) (ha : At S a 94) : GX (sA S a f) := GX_A0 hG ha (by decide +kernel)
theorem uA_114 {S : PS} {a : Nat} {f : Nat → Int32} (hG : GX S) (ha : At S a 114) : GX (sA S a f) := GX_A0 hG ha (by decide +kernel)
theorem uA_134 {S : PS} {a : Nat} {f : Nat → Int32} (hG : GX S) (ha : At S a 134) : GX (sA S a f) := GX_A0 hG ha (by decide +kernel)
theorem uA_154 {S : PS} {a : Nat} {f : Nat → Int32} (hG : GX S) (ha : At S a 154) : GX (sA S a f) := GX_A0 hG ha (by decide +kernel)
theorem uA_174 {S : PS} {a : Nat} {f : Nat → Int32} (hG : GX S) (ha : At S a 174) : GX (sA S a f) := GX_A0 hG ha (by decide +kernel)
theorem uA_194 {S : PS} {a : Nat} {f : Nat → Int32} (hG : GX S) (ha : At S a 194) : GX (sA S a f) := GX_A0 hG ha (by decide +kernel)
theorem uA_1614 {S : PS} {a : Nat} {f : Nat → Int32} (hG : GX S) (ha : At S a 1614) : GX (sA S a f) := GX_A0 hG ha (by decide +kernel)
theorem uA_1634 {S : PS} {a : Nat} {f : Nat → Int32} (hG : GX S) (ha : At S a 1634) : GX (sA S a f) := GX_A0 hG ha (by decide +kernel)
theorem uA_1654 {S : PS} {a : Nat} {f : Nat → Int32} (hG : GX S) (ha : At S a 1654) : GX (sA S a f) := GX_A0 hG ha (by decide +kernel)
theorem uA_1674 {S : PS} {a : Nat} {f : Nat → Int32} (hG : GX S) (ha : At S a 1674) : GX (sA S a f) := GX_A0 hG ha (by decide +kernel)
theorem uA_1694 {S : PS} {a : Nat} {f : Nat → Int32} (hG : GX S) (ha : At S a 1694) : GX (sA S a f) := GX_A0 hG ha (by decide +kernel)
theorem uA_1714 {S : PS} {a : Nat} {f : Nat → Int32} (hG : GX S) (ha : At S a 1714) : GX (sA S a f) := GX_A0 hG ha (by decide +kernel)
theorem uA_1734 {S : PS} {a : Nat} {f : Nat → Int32} (hG : GX S) (ha : At S a 1734) : GX (sA S a f) := GX_A0 hG ha (by decide +kernel)
theorem uA_1754 {S : PS} {a : Nat} {f : Nat → Int32} (hG : GX S) (ha : At S a 1754) : GX (sA S a f) := GX_A0 hG ha (by decide +kernel)
theorem uA_1774 {S : PS} {a : Nat} {f : Nat → Int32} (hG : GX S) (ha : At S a 1774) : GX (sA S a f) := GX_A0 hG ha (by decide +kernel)
theorem uA_274 {S : PS} {a : Nat} {f : Nat → Int32} (hG : GX S) (ha : At S a 274) : GX (sA S a f) := GX_A0 hG ha (by decide +kernel)
theorem uA_294 {S : PS} {a : Nat} {f : Nat → Int32} (hG : GX S) (ha : At S a 294) : GX (sA S a f) := GX_A0 hG ha (by decide +kernel)
theorem uA_334 {S : PS} {a : Nat} {f : Nat → Int32} (hG : GX S) (ha : At S a 334) : GX (sA S a f) := GX_A0 hG ha (by decide +kernel)
theorem uA_354 {S : PS} {a : Nat} {f : Nat → Int32} (hG : GX S) (ha : At S a 354) : GX (sA S a f) := GX_A0 hG ha (by decide +kernel)
theorem uA_394 {S : PS} {a : Nat} {f : Nat → Int32} (hG : GX S) (ha : At S a 394) : GX (sA S a f) := GX_A0 hG ha (by decide +kernel)
theorem uA_414 {S : PS} {a : Nat} {f : Nat → Int32} (hG : GX S) (ha : At S a 414) : GX (sA S a f) := GX_A0 hG ha (by decide +kernel)
theorem uA_454 {S : PS} {a : Nat} {f : Nat → Int32} (hG : GX S) (ha : At S a 454) : GX (sA S a f) := GX_A0 hG ha (by decide +kernel)
theorem uA_474 {S : PS} {a : Nat} {f : Nat → Int32} (hG : GX S) (ha : At S a 474) : GX (sA S a f) := GX_A0 hG ha (by decide +kernel)
theorem uA_494 {S : PS} {a : Nat} {f : Nat → Int32} (hG : GX S) (ha : At S a 494) : GX (sA S a f) := GX_A0 hG ha (by decide +kernel)
theorem uA_514 {S : PS} {a : Nat} {f : Nat → Int32} (hG : GX S) (ha : At S a 514) : GX (sA S a f) := GX_A0 hG ha (by decide +kernel)
theorem uA_534 {S : PS} {a : Nat} {f : Nat → Int32} (hG : GX S) (ha : At S a 534) : GX (sA S a f) := GX_A0 hG ha (by decide +kernel)
theorem uA_554 {S : PS} {a : Nat} {f : Nat → Int32} (hG : GX S) (ha : At S a 554) : GX (sA S a f) := GX_A0 hG ha (by decide +kernel)
theorem uA_634 {S : PS} {a : Nat} {f : Nat → Int32} (hG : GX S) (ha : At S a 634) : GX (sA S a f) := GX_A0 hG ha (by decide +kernel)
theorem uA_654 {S : PS} {a : Nat} {f : Nat → Int32} (hG : GX S) (ha : At S a 654) : GX (sA S a f) := GX_A0 hG ha (by decide +kernel)
theorem uA_694 {S : PS} {a : Nat} {f : Nat → Int32} (hG : GX S) (ha : At S a 694) : GX (sA S a f) := GX_A0 hG ha (by decide +kernel)
theorem uA_714 {S : PS} {a : Nat} {f : Nat → Int32} (hG : GX S) (ha : At S a 714) : GX (sA S a f) := GX_A0 hG ha (by decide +kernel)
theorem uA_734 {S : PS} {a : Nat} {f : Nat → Int32} (hG : GX S) (ha : At S a 734) : GX (sA S a f) := GX_A0 hG ha (by decide +kernel)
theorem uA_1014 {S : PS} {a : Nat} {f : Nat → Int32} (hG : GX S) (ha : At S a 1014) : GX (sA S a f) := GX_A0 hG ha (by decide +kernel)
theorem uA_1034 {S : PS} {a : Nat} {f : Nat → Int32} (hG : GX S) (ha : At S a 1034) : GX (sA S a f) := GX_A0 hG ha (by decide +kernel)
theorem uA_1054 {S : PS} {a : Nat} {f : Nat → Int32} (hG : GX S) (ha : At S a 1054) : GX (sA S a f) := GX_A0 hG ha (by decide +kernel)
theorem uA_1095 {S : PS} {a : Nat} {f : Nat → Int32} (hG : GX S) (ha : At S a 1095) : GX (sA S a f) := GX_A0 hG ha (by decide +kernel)
theorem uA_1174 {S : PS} {a : Nat} {f : Nat → Int32} (hG : GX S) (ha : At S a 1174) : GX (sA S a f) := GX_A0 hG ha (by decide +kernel)
theorem uA_1254 {S : PS} {a : Nat} {f : Nat → Int32} (hG : GX S) (ha : At S a 1254) : GX (sA S a f) := GX_A0 hG ha (by decide +kernel)
theorem uA_1275 {S : PS} {a : Nat} {f : Nat → Int32} (hG : GX S) (ha : At S a 1275) : GX (sA S a f) := GX_A0 hG ha (by decide +kernel)
theorem uA_1294 {S : PS} {a : Nat} {f : Nat → Int32} (hG : GX S) (ha : At S a 1294) : GX (sA S a f) := GX_A0 hG ha (by decide +kernel)
theorem uA_1314 {S : PS} {a : Nat} {f : Nat → Int32} (hG : GX S) (ha : At S a 1314) : GX (sA S a f) := GX_A0 hG ha (by decide +kernel)
theorem uA_1354 {S : PS} {a : Nat} {f : Nat → Int32} (hG : GX S) (ha : At S a 1354) : GX (sA S a f) := GX_A0 hG ha (by decide +kernel)
theorem uA_1394 {S : PS} {a : Nat} {f : Nat → Int32} (hG : GX S) (ha : At S a 1394) : GX (sA S a f) := GX_A0 hG ha (by decide +kernel)
theorem uA_1414 {S : PS} {a : Nat} {f : Nat → Int32} (hG : GX S) (ha : At S a 1414) : GX (sA S a f) := GX_A0 hG ha (by decide +kernel)
theorem uA_1435 {S : PS} {a : Nat} {f : Nat → Int32} (hG : GX S) (ha : At S a 1435) : GX (sA S a f) := GX_A0 hG ha (by decide +kernel)
theorem uA_1494 {S : PS} {a : Nat} {f : Nat → Int32} (hG : GX S) (ha : At S a 1494) : GX (sA S a f) := GX_A0 hG ha (by decide +kernel)
theorem uA_1514 {S : PS} {a : Nat} {f : Nat → Int32} (hG : GX S) (ha : At S a 1514) : GX (sA S a f) := GX_A0 hG ha (by decide +kernel)
theorem gEl_16 {S : PS} {a : Nat} (hG : GX S) (ha : At S a 16) : ∀ i q, pB S a i = some q → At S q 0 := hG.get ha (5, 0, 0, 0, 0) (by decide +kernel)
theorem uB_16 {S : PS} {a i : Nat} {v : Option Nat} (hG : GX S) (ha : At S a 16) (hv : ∀ q, v = some q → At S q 0) : GX (sB S a (va_up (pB S a) i v)) := GX_B hG ha hv (by decide +kernel)
theorem gEl_36 {S : PS} {a : Nat} (hG : GX S) (ha : At S a 36) : ∀ i q, pB S a i = some q → At S q 0 := hG.get ha (5, 0, 0, 0, 0) (by decide +kernel)
theorem uB_36 {S : PS} {a i : Nat} {v : Option Nat} (hG : GX S) (ha : At S a 36) (hv : ∀ q, v = some q → At S q 0) : GX (sB S a (va_up (pB S a) i v)) := GX_B hG ha hv (by decide +kernel)
theorem gEl_17 {S : PS} {a : Nat} (hG : GX S) (ha : At S a 17) : ∀ i q, pB S a i = some q → At S q 3 := hG.get ha (5, 0, 3, 0, 0) (by decide +kernel)
theorem uB_17 {S : PS} {a i : Nat} {v : Option Nat} (hG : GX S) (ha : At S a 17) (hv : ∀ q, v = some q → At S q 3) : GX (sB S a (va_up (pB S a) i v)) := GX_B hG ha hv (by decide +kernel)
theorem gEl_18 {S : PS} {a : Nat} (hG : GX S) (ha : At S a 18) : ∀ i q, pB S a i = some q → At S q 4 := hG.get ha (5, 0, 4, 0, 0) (by decide +kernel)
theorem uB_18 {S : PS} {a i : Nat} {v : Option Nat} (hG : GX S) (ha : At S a 18) (hv : ∀ q, v = some q → At S q 4) : GX (sB S a (va_up (pB S a) i v)) := GX_B hG ha hv (by decide +kernel)
theorem gEl_19 {S : PS} {a : Nat} (hG : GX S) (ha : At S a 19) : ∀ i q, pB S a i = some q → At S q 7 := hG.get ha (5, 0, 7, 0, 0) (by decide +kernel)
theorem uB_19 {S : PS} {a i : Nat} {v : Option Nat} (hG : GX S) (ha : At S a 19) (hv : ∀ q, v = some q → At S q 7) : GX (sB S a (va_up (pB S a) i v)) := GX_B hG ha hv (by decide +kernel)
theorem uR_4_409 {S : PS} {a q : Nat} (hG : GX S) (ha : At S a 4) (hq : At S q 6) : GX (sR S 409 a (some q)) := GX_R hG ha hq (by decide +kernel)
theorem uR_11_1106 {S : PS} {a q : Nat} (hG : GX S) (ha : At S a 11) (hq : At S q 6) : GX (sR S 1106 a (some q)) := GX_R hG ha hq (by decide +kernel)
theorem uR_3_303 {S : PS} {a q : Nat} (hG : GX S) (ha : At S a 3) (hq : At S q 0) : GX (sR S 303 a (some q)) := GX_R hG ha hq (by decide +kernel)
