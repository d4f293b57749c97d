theorem pL_sI {S : PS} {g a : Nat} {v : Int32} : pL (sI S g a v) = pL S := rfl
theorem pK_sI {S : PS} {g a : Nat} {v : Int32} : pK (sI S g a v) = pK S := rfl
theorem pR_sI {S : PS} {g a : Nat} {v : Int32} : pR (sI S g a v) = pR S := rfl
theorem pN_sI {S : PS} {g a : Nat} {v : Int32} : pN (sI S g a v) = pN S := rfl
theorem pA_sI {S : PS} {g a : Nat} {v : Int32} : pA (sI S g a v) = pA S := rfl
theorem pB_sI {S : PS} {g a : Nat} {v : Int32} : pB (sI S g a v) = pB S := rfl
theorem pL_sR {S : PS} {g a : Nat} {v : Option Nat} : pL (sR S g a v) = pL S := rfl
theorem pK_sR {S : PS} {g a : Nat} {v : Option Nat} : pK (sR S g a v) = pK S := rfl
theorem pI_sR {S : PS} {g a : Nat} {v : Option Nat} : pI (sR S g a v) = pI S := rfl
theorem pN_sR {S : PS} {g a : Nat} {v : Option Nat} : pN (sR S g a v) = pN S := rfl
theorem pA_sR {S : PS} {g a : Nat} {v : Option Nat} : pA (sR S g a v) = pA S := rfl
theorem pB_sR {S : PS} {g a : Nat} {v : Option Nat} : pB (sR S g a v) = pB S := rfl
theorem pL_sA {S : PS} {a : Nat} {f : Nat → Int32} : pL (sA S a f) = pL S := rfl
theorem pK_sA {S : PS} {a : Nat} {f : Nat → Int32} : pK (sA S a f) = pK S := rfl
theorem pI_sA {S : PS} {a : Nat} {f : Nat → Int32} : pI (sA S a f) = pI S := rfl
theorem pR_sA {S : PS} {a : Nat} {f : Nat → Int32} : pR (sA S a f) = pR S := rfl
theorem pN_sA {S : PS} {a : Nat} {f : Nat → Int32} : pN (sA S a f) = pN S := rfl
theorem pB_sA {S : PS} {a : Nat} {f : Nat → Int32} : pB (sA S a f) = pB S := rfl
theorem pL_sB {S : PS} {a : Nat} {f : Nat → Option Nat} : pL (sB S a f) = pL S := rfl
theorem pK_sB {S : PS} {a : Nat} {f : Nat → Option Nat} : pK (sB S a f) = pK S := rfl
theorem pI_sB {S : PS} {a : Nat} {f : Nat → Option Nat} : pI (sB S a f) = pI S := rfl
theorem pR_sB {S : PS} {a : Nat} {f : Nat → Option Nat} : pR (sB S a f) = pR S := rfl
theorem pN_sB {S : PS} {a : Nat} {f : Nat → Option Nat} : pN (sB S a f) = pN S := rfl
theorem pA_sB {S : PS} {a : Nat} {f : Nat → Option Nat} : pA (sB S a f) = pA S := rfl
theorem pI_sN {S : PS} {q k n : Nat} : pI (sN S q k n) = pI S := rfl
theorem pR_sN {S : PS} {q k n : Nat} : pR (sN S q k n) = pR S := rfl
theorem pN_sO {S : PS} {q k : Nat} : pN (sO S q k) = pN S := rfl
theorem pA_sO {S : PS} {q k : Nat} : pA (sO S q k) = pA S := rfl
theorem pB_sO {S : PS} {q k : Nat} : pB (sO S q k) = pB S := rfl
theorem pI_sI_nf {S : PS} {g a x y : Nat} {v : Int32} (h : x ≠ g) : pI (sI S g a v) x y = pI S x y := u2_nf _ _ h
theorem pI_sI_same {S : PS} {g a : Nat} {v : Int32} : pI (sI S g a v) g a = v := u2_same _ _ _ _
theorem pR_sR_nf {S : PS} {g a x y : Nat} {v : Option Nat} (h : x ≠ g) : pR (sR S g a v) x y = pR S x y := u2_nf _ _ h
theorem pR_sR_same {S : PS} {g a : Nat} {v : Option Nat} : pR (sR S g a v) g a = v := u2_same _ _ _ _
theorem pI_sO_ne {S : PS} {q k g a : Nat} (h : a ≠ q) : pI (sO S q k) g a = pI S g a := if_neg h
theorem pR_sO_ne {S : PS} {q k g a : Nat} (h : a ≠ q) : pR (sO S q k) g a = pR S g a := if_neg h
theorem pI_sO_new {S : PS} {q k g : Nat} : pI (sO S q k) g q = 0 := if_pos rfl
theorem pN_sN_ne {S : PS} {q k n a : Nat} (h : a ≠ q) : pN (sN S q k n) a = pN S a := if_neg h
theorem pN_sN_new {S : PS} {q k n : Nat} : pN (sN S q k n) q = n := if_pos rfl
theorem pA_sN_ne {S : PS} {q k n a : Nat} (h : a ≠ q) : pA (sN S q k n) a = pA S a := if_neg h
theorem pA_sN_new {S : PS} {q k n : Nat} : pA (sN S q k n) q = fun _ => 0 := if_pos rfl
theorem pA_sA_ne {S : PS} {b a : Nat} {f : Nat → Int32} (h : a ≠ b) : pA (sA S b f) a = pA S a := if_neg h
theorem pI_sI_ne {S : PS} {g a x y : Nat} {v : Int32} (h : y ≠ a) : pI (sI S g a v) x y = pI S x y := u2_ne _ _ h

/-! ===== only these fields and rows change; kinds and lengths stay ===== -/
def Ext (S S' : PS) : Prop := ∀ a ∈ pL S, a ∈ pL S' ∧ pK S' a = pK S a ∧ pN S' a = pN S a
def Fr (M : List Nat) (S S' : PS) : Prop := Ext S S' ∧ (∀ g, g ∉ M → ∀ a ∈ pL S, pI S' g a = pI S g a ∧ pR S' g a = pR S g a) ∧ (∀ k, 10000 + k ∉ M → ∀ a ∈ pL S, pK S a = k → pA S' a = pA S a ∧ pB S' a = pB S a)
theorem Ext.rf (S : PS) : Ext S S := fun _ h => ⟨h, rfl, rfl⟩
theorem Ext.trans {S S1 S2 : PS} (h : Ext S S1) (h' : Ext S1 S2) : Ext S S2 := fun a ha => ⟨(h' a (h a ha).1).1, ((h' a (h a ha).1).2.1).trans (h a ha).2.1, ((h' a (h a ha).1).2.2).trans (h a ha).2.2⟩
theorem Ext.at {S S' : PS} {a k : Nat} (h : Ext S S') (ha : At S a k) : At S' a k := ⟨(h a ha.1).1, (h a ha.1).2.1.trans ha.2⟩
theorem Ext.N {S S' : PS} {a k n : Nat} (h : Ext S S') (ha : At S a k) (hn : pN S a = n) : pN S' a = n := (h a ha.1).2.2.trans hn
theorem Fr.rf (S : PS) : Fr [] S S := ⟨Ext.rf S, fun _ _ _ _ => ⟨rfl, rfl⟩, fun _ _ _ _ _ => ⟨rfl, rfl⟩⟩
theorem Fr.mono {M M' : List Nat} {S S' : PS} (h : Fr M S S') (hm : ∀ g ∈ M, g ∈ M') : Fr M' S S' := ⟨h.1, fun g hg => h.2.1 g (fun z => hg (hm _ z)), fun k hk => h.2.2 k (fun z => hk (hm _ z))⟩
theorem Fr.trans {M : List Nat} {S S1 S2 : PS} (h : Fr M S S1) (h' : Fr M S1 S2) : Fr M S S2 := by
  refine ⟨h.1.trans h'.1, fun g hg a ha => ?_, fun k hk a ha e => ?_⟩
  · have q := h.2.1 g hg a ha
    have q' := h'.2.1 g hg a (h.1 a ha).1
    exact ⟨q'.1.trans q.1, q'.2.trans q.2⟩
  · have q := h.2.2 k hk a ha e
    have q' := h'.2.2 k hk a (h.1 a ha).1 ((h.1 a ha).2.1.trans e)
    exact ⟨q'.1.trans q.1, q'.2.trans q.2⟩
theorem Fr.at {M : List Nat} {S S' : PS} {a k : Nat} (h : Fr M S S') (ha : At S a k) : At S' a k := h.1.at ha
theorem Fr.N {M : List Nat} {S S' : PS} {a k n : Nat} (h : Fr M S S') (ha : At S a k) (hn : pN S a = n) : pN S' a = n := h.1.N ha hn
theorem Fr.I {M : List Nat} {S S' : PS} {a k g : Nat} {v : Int32} (h : Fr M S S') (hg : g ∉ M) (ha : At S a k) (hv : pI S g a = v) : pI S' g a = v := (h.2.1 g hg a ha.1).1.trans hv
theorem Fr.R {M : List Nat} {S S' : PS} {a k g : Nat} {v : Option Nat} (h : Fr M S S') (hg : g ∉ M) (ha : At S a k) (hv : pR S g a = v) : pR S' g a = v := (h.2.1 g hg a ha.1).2.trans hv
theorem Fr_sI {M : List Nat} {S : PS} {g a : Nat} {v : Int32} (hg : g ∈ M) : Fr M S (sI S g a v) := ⟨Ext.rf S, fun x hx _ _ => ⟨pI_sI_nf (fun e => hx (e ▸ hg)), rfl⟩, fun _ _ _ _ _ => ⟨rfl, rfl⟩⟩
theorem Fr_sR {M : List Nat} {S : PS} {g a : Nat} {v : Option Nat} (hg : g ∈ M) : Fr M S (sR S g a v) := ⟨Ext.rf S, fun x hx _ _ => ⟨rfl, pR_sR_nf (fun e => hx (e ▸ hg))⟩, fun _ _ _ _ _ => ⟨rfl, rfl⟩⟩
theorem Fr_sA {M : List Nat} {S : PS} {a k : Nat} {f : Nat → Int32} (ha : At S a k) (hg : 10000 + k ∈ M) : Fr M S (sA S a f) := ⟨Ext.rf S, fun _ _ _ _ => ⟨rfl, rfl⟩, fun k' hk b _ e => ⟨if_neg (fun z => hk (by rw [← e, z, ha.2]; exact hg)), rfl⟩⟩
theorem Fr_sB {M : List Nat} {S : PS} {a k : Nat} {f : Nat → Option Nat} (ha : At S a k) (hg : 10000 + k ∈ M) : Fr M S (sB S a f) := ⟨Ext.rf S, fun _ _ _ _ => ⟨rfl, rfl⟩, fun k' hk b _ e => ⟨rfl, if_neg (fun z => hk (by rw [← e, z, ha.2]; exact hg))⟩⟩
theorem ne_of_new {S : PS} {q b : Nat} (hq : q ∉ pL S) (hb : b ∈ pL S) : b ≠ q := fun e => hq (e ▸ hb)
theorem Ext_sO {S : PS} {q k : Nat} (hq : q ∉ pL S) : Ext S (sO S q k) := fun b hb => ⟨List.mem_append_left _ hb, if_neg (ne_of_new hq hb), rfl⟩
theorem Ext_sN {S : PS} {q k n : Nat} (hq : q ∉ pL S) : Ext S (sN S q k n) := fun b hb => ⟨List.mem_append_left _ hb, if_neg (ne_of_new hq hb), if_neg (ne_of_new hq hb)⟩
theorem Fr_sO {M : List Nat} {S : PS} {q k : Nat} (hq : q ∉ pL S) : Fr M S (sO S q k) := ⟨Ext_sO hq, fun _ _ b hb => ⟨if_neg (ne_of_new hq hb), if_neg (ne_of_new hq hb)⟩, fun _ _ _ _ _ => ⟨rfl, rfl⟩⟩
theorem Fr_sN {M : List Nat} {S : PS} {q k n : Nat} (hq : q ∉ pL S) : Fr M S (sN S q k n) := ⟨Ext_sN hq, fun _ _ _ _ => ⟨rfl, rfl⟩, fun _ _ b hb _ => ⟨if_neg (ne_of_new hq hb), if_neg (ne_of_new hq hb)⟩⟩
/-! ===== what each kind of object keeps ===== -/
def aRng (S : PS) (a g : Nat) (lo hi : Int) : Prop := lo ≤ (pI S g a).toInt ∧ (pI S g a).toInt ≤ hi
def aRef (S : PS) (a g k n : Nat) : Prop := ∃ q, pR S g a = some q ∧ At S q k ∧ pN S q = n
def aRf (S : PS) (a g k : Nat) : Prop := ∃ q, pR S g a = some q ∧ At S q k
def aOpt (S : PS) (a g k : Nat) : Prop := ∀ q, pR S g a = some q → At S q k
def aElr (S : PS) (a : Nat) (lo hi : Int) : Prop := ∀ i, lo ≤ (pA S a i).toInt ∧ (pA S a i).toInt ≤ hi
def aElo (S : PS) (a k : Nat) : Prop := ∀ i q, pB S a i = some q → At S q k
def aCap (S : PS) (a g k f : Nat) : Prop := ∃ q, pR S g a = some q ∧ At S q k ∧ (pI S f a).toInt ≤ (pN S q : Int)
def aGrw (S : PS) (a : Nat) : Prop := ∃ (q1 q2 q3 q4 n : Nat), pR S 905 a = some q1 ∧ pR S 906 a = some q2 ∧ pR S 907 a = some q3 ∧ pR S 908 a = some q4 ∧ At S q1 14 ∧ At S q2 14 ∧ At S q3 14 ∧ At S q4 14 ∧ pN S q1 = n ∧ pN S q2 = n ∧ pN S q3 = n ∧ pN S q4 = n ∧ (pI S 904 a).toInt ≤ (n : Int) ∧ n ≤ 3600
/-- a condition: what it is, field, kind, two numbers -/
abbrev aTy : Type := Nat × Nat × Nat × Int × Int
def aT (S : PS) (a : Nat) (t : aTy) : Prop := match t.1 with
  | 0 => aRng S a t.2.1 t.2.2.2.1 t.2.2.2.2
  | 1 => aRef S a t.2.1 t.2.2.1 t.2.2.2.2.toNat
  | 2 => aRf S a t.2.1 t.2.2.1
  | 3 => aOpt S a t.2.1 t.2.2.1
  | 4 => aElr S a t.2.2.2.1 t.2.2.2.2
  | 5 => aElo S a t.2.2.1
  | 6 => aCap S a t.2.1 t.2.2.1 t.2.2.2.2.toNat
  | _ => aGrw S a
def Sm (S S' : PS) (a : Nat) : Prop := Ext S S' ∧ (∀ g, pI S' g a = pI S g a) ∧ (∀ g, pR S' g a = pR S g a) ∧ pA S' a = pA S a ∧ pB S' a = pB S a
theorem aT_sm {S S' : PS} {a : Nat} {t : aTy} (h : Sm S S' a) (ht : aT S a t) : aT S' a t := by
  obtain ⟨hE, hI, hR, hA, hB⟩ := h
  unfold aT at ht ⊢
  split at ht
  · unfold aRng at ht ⊢; rw [hI]; exact ht
  · obtain ⟨q, h1, h2, h3⟩ := ht; exact ⟨q, (hR _).trans h1, hE.at h2, hE.N h2 h3⟩
  · obtain ⟨q, h1, h2⟩ := ht; exact ⟨q, (hR _).trans h1, hE.at h2⟩
  · exact fun q hq => hE.at (ht q ((hR _).symm.trans hq))
  · unfold aElr at ht ⊢; rw [hA]; exact ht
  · exact fun i q hq => hE.at (ht i q ((congrFun hB i).symm.trans hq))
  · obtain ⟨q, h1, h2, h3⟩ := ht; exact ⟨q, (hR _).trans h1, hE.at h2, by rw [hI, hE.N h2 rfl]; exact h3⟩
  · obtain ⟨q1, q2, q3, q4, n, a1, a2, a3, a4, b1, b2, b3, b4, c1, c2, c3, c4, d1, d2⟩ := ht
    exact ⟨q1, q2, q3, q4, n, (hR _).trans a1, (hR _).trans a2, (hR _).trans a3, (hR _).trans a4, hE.at b1, hE.at b2, hE.at b3, hE.at b4, hE.N b1 c1, hE.N b2 c2, hE.N b3 c3, hE.N b4 c4, by rw [hI]; exact d1, d2⟩
def TL : List (Nat × aTy) := [(0, (0, 2, 0, 20, 220)), (1, (1, 100, 14, 0, 5)), (1, (0, 101, 0, 0, 5)), (2, (1, 200, 14, 0, 14)), (2, (1, 201, 14, 0, 14)), (2, (1, 202, 14, 0, 14)), (2, (0, 203, 0, 0, 14)), (3, (1, 302, 14, 0, 8)), (3, (0, 301, 0, 0, 8)), (3, (3, 303, 0, 0, 0)), (4, (2, 400, 5, 0, 0)), (4, (2, 401, 25, 0, 0)), (4, (2, 402, 5, 0, 0)), (4, (2, 403, 29, 0, 0)), (4, (2, 409, 6, 0, 0)), (5, (0, 500, 0, 0, 600)), (5, (1, 501, 16, 0, 600)), (5, (0, 502, 0, 0, 599)), (25, (0, 500, 0, 0, 12)), (25, (1, 501, 16, 0, 12)), (25, (0, 502, 0, 0, 11)), (6, (0, 600, 0, 0, 12)), (6, (1, 601, 14, 0, 12)), (6, (1, 602, 14, 0, 12)), (6, (1, 603, 34, 0, 12)), (6, (1, 604, 14, 0, 48)), (6, (1, 605, 14, 0, 48)), (6, (1, 606, 14, 0, 48)), (7, (2, 703, 9, 0, 0)), (8, (0, 800, 0, 0, 40)), (8, (0, 806, 0, 0, 40)), (8, (1, 807, 14, 0, 4)), (8, (1, 808, 19, 0, 40)), (8, (1, 809, 14, 0, 40)), (8, (1, 810, 14, 0, 40)), (8, (1, 811, 14, 0, 40)), (8, (2, 812, 2, 0, 0)), (9, (0, 902, 0, 0, 300)), (9, (0, 904, 0, 0, 3600)), (9, (6, 900, 14, 0, 902)), (9, (6, 901, 14, 0, 902)), (9, (6, 905, 14, 0, 904)), (9, (6, 906, 14, 0, 904)), (9, (6, 907, 14, 0, 904)), (9, (6, 908, 14, 0, 904)), (29, (0, 902, 0, 0, 300)), (29, (0, 904, 0, 0, 3600)), (29, (1, 900, 14, 0, 300)), (29, (1, 901, 14, 0, 300)), (29, (7, 0, 0, 0, 0)), (10, (0, 1000, 0, 0, 400)), (10, (1, 1003, 13, 0, 400)), (11, (1, 1100, 16, 0, 600)), (11, (1, 1101, 54, 0, 10)), (11, (0, 1102, 0, 0, 10)), (11, (1, 1103, 18, 0, 4)), (11, (0, 1104, 0, 0, 4)), (11, (2, 1105, 10, 0, 0)), (11, (2, 1106, 6, 0, 0)), (11, (2, 1107, 8, 0, 0)), (11, (2, 1108, 1, 0, 0)), (11, (1, 1109, 17, 0, 16)), (11, (1, 1111, 14, 0, 60)), (16, (5, 0, 0, 0, 0)), (17, (5, 0, 3, 0, 0)), (18, (5, 0, 4, 0, 0)), (19, (5, 0, 7, 0, 0)), (34, (4, 0, 0, 0, 4)), (54, (4, 0, 0, 0, 60))]
def OK (S : PS) (a k : Nat) : Prop := ∀ t ∈ TL, t.1 = k → aT S a t.2
def GX (S : PS) : Prop := ∀ a ∈ pL S, OK S a (pK S a)
theorem GX.get {S : PS} {a k : Nat} (hG : GX S) (ha : At S a k) (t : aTy) (ht : (k, t) ∈ TL) : aT S a t := hG a ha.1 (k, t) ht ha.2.symm
theorem OK_sm {S S' : PS} {a k : Nat} (h : Sm S S' a) (ho : OK S a k) : OK S' a k := fun t ht e => aT_sm h (ho t ht e)
/-- a condition that doesn't look at int field g -/
def noI (t : aTy) (g : Nat) : Bool := match t.1 with
  | 0 => !(t.2.1 == g)
  | 6 => !(t.2.2.2.2.toNat == g)
  | 7 => !(g == 904)
  | _ => true
def noR (t : aTy) (g : Nat) : Bool := match t.1 with
  | 1 => !(t.2.1 == g)
  | 2 => !(t.2.1 == g)
  | 3 => !(t.2.1 == g)
  | 6 => !(t.2.1 == g)
  | 0 => true
  | 4 => true
  | 5 => true
  | _ => !(g == 905) && !(g == 906) && !(g == 907) && !(g == 908)
theorem aT_sI {S : PS} {a g : Nat} {v : Int32} {t : aTy} (hn : noI t g = true) (ht : aT S a t) (h8 : t.1 < 8) : aT (sI S g a v) a t := by
  obtain ⟨t1, t2, t3, t4, t5⟩ := t
  unfold aT at ht ⊢
  unfold noI at hn
  dsimp only at *
  split at ht
  · simp only [Bool.not_eq_true', beq_eq_false_iff_ne] at hn
    unfold aRng; rw [pI_sI_nf hn]; exact ht
  · exact ht
  · exact ht
  · exact ht
  · exact ht
  · exact ht
  · simp only [Bool.not_eq_true', beq_eq_false_iff_ne] at hn
    unfold aCap; rw [pI_sI_nf hn]; exact ht
  · rename_i h0 h1 h2 h3 h4 h5 h6
    have e : t1 = 7 := by omega
    subst e
    simp only [Bool.not_eq_true', beq_eq_false_iff_ne] at hn
    unfold aGrw; rw [pI_sI_nf (Ne.symm hn)]; exact ht
theorem TL8 : ∀ t ∈ TL, t.2.1 < 8 := by decide +kernel
theorem Sm_sI {S : PS} {a b g : Nat} {v : Int32} (h : b ≠ a) : Sm S (sI S g a v) b := ⟨Ext.rf S, fun _ => pI_sI_ne h, fun _ => rfl, rfl, rfl⟩
theorem Sm_sR {S : PS} {a b g : Nat} {v : Option Nat} (h : b ≠ a) : Sm S (sR S g a v) b := ⟨Ext.rf S, fun _ => rfl, fun _ => u2_ne _ _ h, rfl, rfl⟩
theorem Sm_sA {S : PS} {a b : Nat} {f : Nat → Int32} (h : b ≠ a) : Sm S (sA S a f) b := ⟨Ext.rf S, fun _ => rfl, fun _ => rfl, if_neg h, rfl⟩
theorem Sm_sB {S : PS} {a b : Nat} {f : Nat → Option Nat} (h : b ≠ a) : Sm S (sB S a f) b := ⟨Ext.rf S, fun _ => rfl, fun _ => rfl, rfl, if_neg h⟩
theorem Sm_sO {S : PS} {q k b : Nat} (hq : q ∉ pL S) (h : b ∈ pL S) : Sm S (sO S q k) b := ⟨Ext_sO hq, fun _ => if_neg (ne_of_new hq h), fun _ => if_neg (ne_of_new hq h), rfl, rfl⟩
theorem Sm_sN {S : PS} {q k n b : Nat} (hq : q ∉ pL S) (h : b ∈ pL S) : Sm S (sN S q k n) b := ⟨Ext_sN hq, fun _ => rfl, fun _ => rfl, if_neg (ne_of_new hq h), if_neg (ne_of_new hq h)⟩
theorem GX_sI {S : PS} {a k g : Nat} {v : Int32} (hG : GX S) (ha : At S a k) (ho : OK (sI S g a v) a k) : GX (sI S g a v) := fun b hb => by
  by_cases e : b = a
  · subst e; rw [show pK (sI S g b v) b = k from ha.2]; exact ho
  · exact OK_sm (Sm_sI e) (hG b hb)
theorem GX_sR {S : PS} {a k g : Nat} {v : Option Nat} (hG : GX S) (ha : At S a k) (ho : OK (sR S g a v) a k) : GX (sR S g a v) := fun b hb => by
  by_cases e : b = a
  · subst e; rw [show pK (sR S g b v) b = k from ha.2]; exact ho
  · exact OK_sm (Sm_sR e) (hG b hb)
theorem GX_sA {S : PS} {a k : Nat} {f : Nat → Int32} (hG : GX S) (ha : At S a k) (ho : OK (sA S a f) a k) : GX (sA S a f) := fun b hb => by
  by_cases e : b = a
  · subst e; rw [show pK (sA S b f) b = k from ha.2]; exact ho
  · exact OK_sm (Sm_sA e) (hG b hb)
theorem GX_sB {S : PS} {a k : Nat} {f : Nat → Option Nat} (hG : GX S) (ha : At S a k) (ho : OK (sB S a f) a k) : GX (sB S a f) := fun b hb => by
  by_cases e : b = a
  · subst e; rw [show pK (sB S b f) b = k from ha.2]; exact ho
  · exact OK_sm (Sm_sB e) (hG b hb)
/-- an int field of which nothing is said -/
theorem GX_I0 {S : PS} {a k g : Nat} {v : Int32} (hG : GX S) (ha : At S a k) (hn : ∀ t ∈ TL, t.1 = k → noI t.2 g = true) : GX (sI S g a v) := GX_sI hG ha (fun t ht e => aT_sI (hn t ht e) (hG a ha.1 t ht (e.trans ha.2.symm)) (TL8 t ht))
/-- an int field with a range -/
theorem GX_I1 {S : PS} {a k g : Nat} {v : Int32} (hG : GX S) (ha : At S a k) (lo hi : Int) (hn : ∀ t ∈ TL, t.1 = k → noI t.2 g = true ∨ t.2 = (0, g, 0, lo, hi)) (h1 : lo ≤ v.toInt) (h2 : v.toInt ≤ hi) : GX (sI S g a v) := GX_sI hG ha (fun t ht e => by
  rcases hn t ht e with h | h
  · exact aT_sI h (hG a ha.1 t ht (e.trans ha.2.symm)) (TL8 t ht)
  · rw [h]
    show aRng (sI S g a v) a g lo hi
    unfold aRng; rw [pI_sI_same]; exact ⟨h1, h2⟩)
/-- a reference field: of the kind, or maybe null -/
theorem aT_sR {S : PS} {a g : Nat} {v : Option Nat} {t : aTy} (hn : noR t g = true) (ht : aT S a t) : aT (sR S g a v) a t := by
  obtain ⟨t1, t2, t3, t4, t5⟩ := t
  unfold aT at ht ⊢
  unfold noR at hn
  dsimp only at *
  split at ht
  · exact ht
  · simp only [Bool.not_eq_true', beq_eq_false_iff_ne] at hn
    obtain ⟨q, h1, h2⟩ := ht; exact ⟨q, (pR_sR_nf hn).trans h1, h2⟩
  · simp only [Bool.not_eq_true', beq_eq_false_iff_ne] at hn
    obtain ⟨q, h1, h2⟩ := ht; exact ⟨q, (pR_sR_nf hn).trans h1, h2⟩
  · simp only [Bool.not_eq_true', beq_eq_false_iff_ne] at hn
    exact fun q hq => ht q ((pR_sR_nf hn).symm.trans hq)
  · exact ht
  · exact ht
  · simp only [Bool.not_eq_true', beq_eq_false_iff_ne] at hn
    obtain ⟨q, h1, h2⟩ := ht; exact ⟨q, (pR_sR_nf hn).trans h1, h2⟩
  · have hn' : ¬ g = 905 ∧ ¬ g = 906 ∧ ¬ g = 907 ∧ ¬ g = 908 := by
      rename_i h0 h1 h2 h3 h4 h5 h6
      split at hn <;> first | (exfalso; omega) | (simp only [Bool.and_eq_true, Bool.not_eq_true', beq_eq_false_iff_ne] at hn; exact ⟨hn.1.1.1, hn.1.1.2, hn.1.2, hn.2⟩)
    obtain ⟨q1, q2, q3, q4, n, a1, a2, a3, a4, r⟩ := ht
    exact ⟨q1, q2, q3, q4, n, (pR_sR_nf (Ne.symm hn'.1)).trans a1, (pR_sR_nf (Ne.symm hn'.2.1)).trans a2, (pR_sR_nf (Ne.symm hn'.2.2.1)).trans a3, (pR_sR_nf (Ne.symm hn'.2.2.2)).trans a4, r⟩
theorem GX_R {S : PS} {a k g q k' : Nat} (hG : GX S) (ha : At S a k) (hq : At S q k') (hn : ∀ t ∈ TL, t.1 = k → noR t.2 g = true ∨ t.2 = (2, g, k', 0, 0) ∨ t.2 = (3, g, k', 0, 0)) : GX (sR S g a (some q)) := GX_sR hG ha (fun t ht e => by
  rcases hn t ht e with h | h | h
  · exact aT_sR h (hG a ha.1 t ht (e.trans ha.2.symm))
  · rw [h]; exact ⟨q, pR_sR_same, hq⟩
  · rw [h]
    intro q' hq'
    rw [pR_sR_same] at hq'
    cases hq'; exact hq)
/-- a row of ints of which nothing is said; one with a range; a row of references -/
theorem GX_A0 {S : PS} {a k : Nat} {f : Nat → Int32} (hG : GX S) (ha : At S a k) (hn : ∀ t ∈ TL, ¬ t.1 = k) : GX (sA S a f) := GX_sA hG ha (fun t ht e => absurd e (hn t ht))
theorem GX_A1 {S : PS} {a k i : Nat} {v : Int32} (hG : GX S) (ha : At S a k) (lo hi : Int) (hn : ∀ t ∈ TL, t.1 = k → t.2 = (4, 0, 0, lo, hi)) (h1 : lo ≤ v.toInt) (h2 : v.toInt ≤ hi) : GX (sA S a (upd (pA S a) i v)) := GX_sA hG ha (fun t ht e => by
  have h := hG a ha.1 t ht (e.trans ha.2.symm)
  rw [hn t ht e] at h ⊢
  intro j
  have hj : lo ≤ (pA S a j).toInt ∧ (pA S a j).toInt ≤ hi := h j
  show lo ≤ (pA (sA S a (upd (pA S a) i v)) a j).toInt ∧ _ ≤ hi
  have e2 : pA (sA S a (upd (pA S a) i v)) a = upd (pA S a) i v := if_pos rfl
  rw [e2]
  unfold upd
  split
  · exact ⟨h1, h2⟩
  · exact hj)
theorem GX_B {S : PS} {a k i k' : Nat} {v : Option Nat} (hG : GX S) (ha : At S a k) (hv : ∀ q, v = some q → At S q k') (hn : ∀ t ∈ TL, t.1 = k → t.2 = (5, 0, k', 0, 0)) : GX (sB S a (va_up (pB S a) i v)) := GX_sB hG ha (fun t ht e => by
  have h := hG a ha.1 t ht (e.trans ha.2.symm)
  rw [hn t ht e] at h ⊢
  intro j q hq
  have e2 : pB (sB S a (va_up (pB S a) i v)) a = va_up (pB S a) i v := if_pos rfl
  rw [e2] at hq
  unfold va_up at hq
  split at hq
  · exact hv q hq
  · exact h j q hq)
theorem GX_O {S : PS} {q k : Nat} (hG : GX S) (hq : q ∉ pL S) (hn : ∀ t ∈ TL, ¬ t.1 = k) : GX (sO S q k) := fun b hb => by
  rcases List.mem_append.mp hb with h | h
  · rw [show pK (sO S q k) b = pK S b from if_neg (ne_of_new hq h)]; exact OK_sm (Sm_sO hq h) (hG b h)
  · have e : b = q := List.mem_singleton.mp h
    subst e
    rw [show pK (sO S b k) b = k from if_pos rfl]
    exact fun t ht e => absurd e (hn t ht)
theorem GX_N {S : PS} {q k n : Nat} (hG : GX S) (hq : q ∉ pL S) (hn : ∀ t ∈ TL, t.1 = k → (t.2.1 = 4 ∧ t.2.2.2.2.1 ≤ 0 ∧ 0 ≤ t.2.2.2.2.2) ∨ t.2.1 = 5) : GX (sN S q k n) := fun b hb => by
  rcases List.mem_append.mp hb with h | h
  · rw [show pK (sN S q k n) b = pK S b from if_neg (ne_of_new hq h)]; exact OK_sm (Sm_sN hq h) (hG b h)
  · have e : b = q := List.mem_singleton.mp h
    subst e
    rw [show pK (sN S b k n) b = k from if_pos rfl]
    intro t ht e
    obtain ⟨k1, t1, t2, t3, t4, t5⟩ := t
    rcases hn _ ht e with ⟨z1, z2, z3⟩ | z1
    · dsimp only at z1 z2 z3
      subst z1
      show aElr (sN S b k n) b t4 t5
      intro i
      rw [show pA (sN S b k n) b = fun _ => 0 from if_pos rfl]
      exact ⟨z2, z3⟩
    · dsimp only at z1
      subst z1
      show aElo (sN S b k n) b t3
      intro i r hr
      rw [show pB (sN S b k n) b = fun _ => none from if_pos rfl] at hr
      cases hr
/-! ===== a raw object gets its kind ===== -/
def sK (S : PS) (q k : Nat) : PS := (pL S, va_up (pK S) q k, pI S, pR S, pN S, pA S, pB S)
theorem pool_sK {cy : Nat → ClassId} {S : PS} {q k0 k : Nat} (hq : At S q k0) (hm : k % 20 = k0 % 20) : pool cy (sK S q k) = pool cy S := by
  unfold pool
  show va_pl (pL S) (PF cy (sK S q k)) = va_pl (pL S) (PF cy S)
  refine va_pl_congr (fun b => ?_)
  have e : pK (sK S q k) b % 20 = pK S b % 20 := by
    show va_up (pK S) q k b % 20 = pK S b % 20
    unfold va_up
    split
    · rename_i h; rw [h, hq.2, hm]
    · rfl
  unfold PF
  rw [e]
  rfl
theorem Wd_sK {G : va_G} {cy : Nat → ClassId} {A : Nat → Prop} {H0 H : Heap} {S : PS} {locs : List Loc} {q k0 k : Nat} (hw : Wd G cy A H0 S H locs) (hq : At S q k0) (hm : k % 20 = k0 % 20) : Wd G cy A H0 (sK S q k) H locs := by
  unfold Wd; rw [pool_sK hq hm]; exact hw
theorem At_sK {S : PS} {q k k0 a k' : Nat} (hq : At S q k0) (ha : At S a k') (hne : k' ≠ k0) : At (sK S q k) a k' := ⟨ha.1, (if_neg (fun e => hne (by rw [← ha.2, e, hq.2]))).trans ha.2⟩
theorem At_nK {S : PS} {q k k0 : Nat} (hq : At S q k0) : At (sK S q k) q k := ⟨hq.1, if_pos rfl⟩
