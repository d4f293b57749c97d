def MW : List Nat := [1229, 1230]
def MM : List Nat := [1229, 1230, 1231, 1232, 1233, 1234]
/-! ===== the reference's words ===== -/
def isR (B : Nat → Int) (t : Tk) (i : Nat) : Prop := t.2.2 - t.2.1 = strN i ∧ ∀ j, j < strN i → B (t.2.1 + j) = (strB i j).toInt
/-- where word n of the row of words i begins -/
def wS (i n : Nat) : Nat := if i = 17 then [0, 5, 10, 17, 22, 27, 32, 36].getD n 0 else [0, 5, 10, 15, 21, 25, 30].getD n 0
def wI (i : Nat) : List Nat := if i = 17 then FLs else ALs
def wW (i n : Nat) : Nat := (wI i).getD n 0
set_option maxRecDepth 100000 in
theorem w_tab : ∀ i, i = 17 ∨ i = 22 → wS i 0 = 0 ∧ strN i = wS i (wI i).length ∧ (1 ≤ (wI i).length ∧ (wI i).length ≤ 7 ∧ strN i ≤ 36) ∧ ∀ n, n < (wI i).length → wS i n + strN (wW i n) + 1 = wS i (n + 1) ∧ 1 ≤ strN (wW i n) ∧ strN (wW i n) ≤ 8 ∧ wS i (n + 1) ≤ strN i ∧ (strB i (wS i n + strN (wW i n))).toInt = 32 ∧ ∀ j, j < strN (wW i n) → strB i (wS i n + j) = strB (wW i n) j ∧ (strB (wW i n) j).toInt ≠ 32 := by
  intro i hi
  rcases hi with rfl | rfl <;> decide +kernel
theorem wh_y {B : Nat → Int} {t : Tk} {i n : Nat} (hn : n < (wI i).length) (h : isT1 B t (wW i n)) : whF B t ((wI i).drop n) (n : Int) = (n : Int) := by
  rw [List.drop_eq_getElem_cons hn]
  refine whF_y ?_
  rw [show (wI i)[n] = wW i n from (by unfold wW; rw [List.getD_eq_getElem?_getD, List.getElem?_eq_getElem hn]; rfl)]
  exact h
theorem wh_n {B : Nat → Int} {t : Tk} {i n : Nat} (hn : n < (wI i).length) (h : ¬ isT1 B t (wW i n)) : whF B t ((wI i).drop n) (n : Int) = whF B t ((wI i).drop (n + 1)) ((n : Int) + 1) := by
  rw [List.drop_eq_getElem_cons hn]
  refine whF_n ?_
  rw [show (wI i)[n] = wW i n from (by unfold wW; rw [List.getD_eq_getElem?_getD, List.getElem?_eq_getElem hn]; rfl)]
  exact h
theorem wh_e {B : Nat → Int} {t : Tk} {i : Nat} {k : Int} : whF B t ((wI i).drop (wI i).length) k = -1 := by
  rw [List.drop_length]
  exact whF_e
/-- the comparison with the word n, as the reference does it -/
theorem wh_same {B : Nat → Int} {t : Tk} {i n : Nat} (hi : i = 17 ∨ i = 22) (hn : n < (wI i).length) : (t.1 = 1 ∧ t.2.2 - t.2.1 = strN (wW i n) ∧ ∀ j, j < strN (wW i n) → B (t.2.1 + j) = (strB i (wS i n + j)).toInt) ↔ isT1 B t (wW i n) := by
  have h := (w_tab i hi).2.2.2 n hn
  constructor
  · intro q
    exact ⟨q.1, q.2.1, fun j hj => by rw [← (h.2.2.2.2.2 j hj).1]; exact q.2.2 j hj⟩
  · intro q
    exact ⟨q.1, q.2.1, fun j hj => by rw [(h.2.2.2.2.2 j hj).1]; exact q.2.2 j hj⟩
/-- a token of the reference, read from some place on, with its number -/
def RGB (B : Nat → Int) (n : Nat) (S : PS) (x : Nat) (t : Tk) : Prop := RTok S x t ∧ (∃ a, a ≤ 400 ∧ t = tokF B n a) ∧ (t.1 = 2 → (pI S 1234 x).toInt = numF B t.2.1 (t.2.2 - t.2.1))
theorem rB_0 {S : PS} {x : Nat} : ∀ j, (pI S 1228 x).toInt.toNat ≤ j → rB S x j = 0 := fun j hj => by rw [rB_eq, if_neg (by omega)]
theorem RGB_ok {S S1 : PS} {x : Nat} {t : Tk} (hG : GX S) (ha : At S x 12) (h : RGB (rB S x) (pI S 1228 x).toInt.toNat S1 x t) : t.2.1 ≤ t.2.2 ∧ t.2.2 ≤ 400 ∧ (t.1 = 2 → t.2.2 - t.2.1 ≤ 4 ∧ ∀ j, t.2.1 ≤ j → j < t.2.2 → digP (rB S x j) = true) ∧ (t.1 = 0 ∨ t.2.1 < (pI S 1228 x).toInt.toNat) := by
  obtain ⟨-, ⟨a, h1, h2⟩, -⟩ := h
  have hr := gI_12_1228 hG ha
  rw [h2]
  exact tok_ok rB_0 (by omega) h1
/-- a word that the reference finds is a word -/
theorem isR_T {S S1 : PS} {x i : Nat} {t : Tk} (h : RGB (rB S x) (pI S 1228 x).toInt.toNat S1 x t) (hi : i = 21 ∨ i = 23) : isR (rB S x) t i ↔ isT1 (rB S x) t (if i = 21 then 2 else 3) := by
  obtain ⟨-, ⟨a, h1, h2⟩, -⟩ := h
  have e : ∀ i, i = 21 ∨ i = 23 → strN i = strN (if i = 21 then 2 else 3) ∧ 1 ≤ strN i ∧ strN i ≤ 8 ∧ (∀ j, j < strN i → strB i j = strB (if i = 21 then 2 else 3) j) ∧ 97 ≤ (strB i 0).toInt ∧ (strB i 0).toInt ≤ 122 := by
    intro i hi
    rcases hi with rfl | rfl <;> decide +kernel
  obtain ⟨e1, e2, e3, e4, e5, e6⟩ := e i hi
  constructor
  · intro q
    refine ⟨?_, by rw [← e1]; exact q.1, fun j hj => by rw [← e4 j (by omega)]; exact q.2 j (by omega)⟩
    have q0 := q.2 0 (by omega)
    rw [Nat.add_zero] at q0
    have q1 := q.1
    rw [h2] at q0 q1 ⊢
    exact (tok_kind rB_0 (by omega)).1 (by rw [q0]; exact letP_t ⟨e5, e6⟩) (by omega)
  · intro q
    exact ⟨by rw [e1]; exact q.2.1, fun j hj => by rw [e4 j hj]; exact q.2.2 j (by omega)⟩
/-- a sign that the reference finds is a sign -/
theorem isR_S {S S1 : PS} {x i : Nat} {t : Tk} (h : RGB (rB S x) (pI S 1228 x).toInt.toNat S1 x t) (hi : i = 18 ∨ i = 19 ∨ i = 20 ∨ i = 24 ∨ i = 25) : isR (rB S x) t i ↔ sgT (rB S x) t (strB i 0).toInt := by
  obtain ⟨-, ⟨a, h1, h2⟩, -⟩ := h
  have e : ∀ i, i = 18 ∨ i = 19 ∨ i = 20 ∨ i = 24 ∨ i = 25 → strN i = 1 ∧ letP (strB i 0).toInt = false ∧ digP (strB i 0).toInt = false ∧ sgnP (strB i 0).toInt = true := by
    intro i hi
    rcases hi with rfl | rfl | rfl | rfl | rfl <;> decide +kernel
  obtain ⟨e1, e2, e3, e4⟩ := e i hi
  constructor
  · intro q
    have q0 := q.2 0 (by omega)
    rw [Nat.add_zero] at q0
    have q1 := q.1
    refine ⟨?_, q0⟩
    rw [h2] at q0 q1 ⊢
    exact (tok_kind rB_0 (by omega)).2 (by rw [q0]; exact e2) (by rw [q0]; exact e3) (by rw [q0]; exact e4)
  · intro q
    refine ⟨?_, fun j hj => by rw [show j = 0 by omega]; exact q.2⟩
    rw [e1, h2]
    rw [h2] at q
    exact tok_sg1 q.1
/-! ===== the search through a row of words ===== -/
def WhI (B : Nat → Int) (t : Tk) (i : Nat) (n a k : Int) : Prop := (0 ≤ n ∧ n ≤ ((wI i).length : Int)) ∧ a = (wS i n.toNat : Int) ∧ a ≤ k ∧ (n < ((wI i).length : Int) → k ≤ (wS i n.toNat : Int) + (strN (wW i n.toNat) : Int)) ∧ (n = ((wI i).length : Int) → k = (strN i : Int)) ∧ whF B t (wI i) 0 = whF B t ((wI i).drop n.toNat) n
theorem WhI_0 {B : Nat → Int} {t : Tk} {i : Nat} (hi : i = 17 ∨ i = 22) : WhI B t i 0 0 0 := by
  obtain ⟨h0, h1, h2, -⟩ := w_tab i hi
  refine ⟨⟨by omega, by omega⟩, ?_, by omega, fun _ => ?_, fun h => ?_, rfl⟩
  · show (0 : Int) = (wS i 0 : Int)
    rw [h0]; rfl
  · omega
  · omega
theorem WhI_rng {B : Nat → Int} {t : Tk} {i : Nat} {n a k : Int} (hi : i = 17 ∨ i = 22) (h : WhI B t i n a k) (hk : k < (strN i : Int)) : 0 ≤ n ∧ n ≤ 6 ∧ n.toNat < (wI i).length ∧ 0 ≤ a ∧ a ≤ k ∧ k ≤ 35 ∧ a = (wS i n.toNat : Int) ∧ k ≤ a + (strN (wW i n.toNat) : Int) ∧ (strN (wW i n.toNat) : Int) ≤ 8 := by
  obtain ⟨⟨a1, a2⟩, a3, a4, a5, a6, a7⟩ := h
  obtain ⟨h0, h1, h2, h3⟩ := w_tab i hi
  have hn : n < ((wI i).length : Int) := by
    rcases (show n < ((wI i).length : Int) ∨ n = ((wI i).length : Int) by omega) with e | e
    · exact e
    · have := a6 e; omega
  have hm : n.toNat < (wI i).length := by omega
  have h4 := h3 n.toNat hm
  have := a5 hn
  exact ⟨a1, by omega, hm, by omega, a4, by omega, a3, by omega, by omega⟩
theorem WhI_go {B : Nat → Int} {t : Tk} {i : Nat} {n a k : Int} (hi : i = 17 ∨ i = 22) (h : WhI B t i n a k) (hk : k < (strN i : Int)) (hs : (strB i k.toNat).toInt ≠ 32) : WhI B t i n a (k + 1) := by
  have hr := WhI_rng hi h hk
  obtain ⟨h0, h1, h2, h3⟩ := w_tab i hi
  have h4 := h3 n.toNat hr.2.2.1
  have hne : k ≠ a + (strN (wW i n.toNat) : Int) := fun e => hs (by
    rw [show k.toNat = wS i n.toNat + strN (wW i n.toNat) by omega]; exact h4.2.2.2.2.1)
  obtain ⟨a1, a3, a4, a5, a6, a7⟩ := h
  exact ⟨a1, a3, by omega, fun e => by omega, fun e => by omega, a7⟩
theorem WhI_sp {B : Nat → Int} {t : Tk} {i : Nat} {n a k : Int} (hi : i = 17 ∨ i = 22) (h : WhI B t i n a k) (hk : k < (strN i : Int)) (hs : (strB i k.toNat).toInt = 32) : k = a + (strN (wW i n.toNat) : Int) := by
  have hr := WhI_rng hi h hk
  obtain ⟨h0, h1, h2, h3⟩ := w_tab i hi
  have h4 := h3 n.toNat hr.2.2.1
  rcases (show k < a + (strN (wW i n.toNat) : Int) ∨ k = a + (strN (wW i n.toNat) : Int) by omega) with e | e
  · exfalso
    have h5 := h4.2.2.2.2.2 (k - a).toNat (by omega)
    rw [show wS i n.toNat + (k - a).toNat = k.toNat by omega] at h5
    rw [h5.1] at hs
    exact h5.2 hs
  · exact e
theorem WhI_nx {B : Nat → Int} {t : Tk} {i : Nat} {n a k : Int} (hi : i = 17 ∨ i = 22) (h : WhI B t i n a k) (hk : k < (strN i : Int)) (hs : (strB i k.toNat).toInt = 32) (hn : ¬ isT1 B t (wW i n.toNat)) : WhI B t i (n + 1) (k + 1) (k + 1) := by
  have hr := WhI_rng hi h hk
  have he := WhI_sp hi h hk hs
  obtain ⟨h0, h1, h2, h3⟩ := w_tab i hi
  have h4 := h3 n.toNat hr.2.2.1
  obtain ⟨a1, a3, a4, a5, a6, a7⟩ := h
  have en : (n + 1).toNat = n.toNat + 1 := by omega
  refine ⟨⟨by omega, by omega⟩, by rw [en]; omega, by omega, fun e => ?_, fun e => ?_, ?_⟩
  · rw [en]; omega
  · have e2 : n.toNat + 1 = (wI i).length := by omega
    rw [h1, ← e2]; omega
  · rw [a7, en]
    have h5 := wh_n hr.2.2.1 hn
    rw [show ((n.toNat : Nat) : Int) = n by omega] at h5
    exact h5
theorem WhI_yes {B : Nat → Int} {t : Tk} {i : Nat} {n a k : Int} (hi : i = 17 ∨ i = 22) (h : WhI B t i n a k) (hk : k < (strN i : Int)) (hy : isT1 B t (wW i n.toNat)) : n = whF B t (wI i) 0 := by
  have hr := WhI_rng hi h hk
  have h5 := wh_y hr.2.2.1 hy
  rw [show ((n.toNat : Nat) : Int) = n by omega] at h5
  rw [h.2.2.2.2.2, h5]
theorem WhI_end {B : Nat → Int} {t : Tk} {i : Nat} {n a k : Int} (hi : i = 17 ∨ i = 22) (h : WhI B t i n a k) (hk : (strN i : Int) ≤ k) : whF B t (wI i) 0 = -1 := by
  obtain ⟨⟨a1, a2⟩, a3, a4, a5, a6, a7⟩ := h
  obtain ⟨h0, h1, h2, h3⟩ := w_tab i hi
  rcases (show n < ((wI i).length : Int) ∨ n = ((wI i).length : Int) by omega) with e | e
  · exfalso
    have h4 := h3 n.toNat (by omega)
    have := a5 e
    omega
  · rw [a7, show n.toNat = (wI i).length by omega]
    exact wh_e
theorem RTok_eq {S S1 : PS} {x : Nat} {t : Tk} (h : RTok S x t) (h1 : pI S1 1231 x = pI S 1231 x) (h2 : pI S1 1232 x = pI S 1232 x) (h3 : pI S1 1233 x = pI S 1233 x) : RTok S1 x t := ⟨by rw [h1]; exact h.1, by rw [h2]; exact h.2.1, by rw [h3]; exact h.2.2⟩
theorem RGB_fr {B : Nat → Int} {n : Nat} {M : List Nat} {S S1 : PS} {x : Nat} {t : Tk} (h : RGB B n S x t) (ha : At S x 12) (hF : Fr M S S1) (hM : ([1231, 1232, 1233, 1234] : List Nat).all (fun g => !M.contains g) = true) : RGB B n S1 x t := ⟨RTok_eq h.1 (hF.I' (allc hM (by decide)) ha rfl) (hF.I' (allc hM (by decide)) ha rfl) (hF.I' (allc hM (by decide)) ha rfl), h.2.1, fun e => by rw [hF.I' (g := 1234) (allc hM (by decide)) ha rfl]; exact h.2.2 e⟩
theorem RGB_sI {B : Nat → Int} {n : Nat} {S S1 : PS} {x g a : Nat} {v : Int32} {t : Tk} (h : RGB B n S x t) (e : S1 = sI S g a v) (h1 : 1231 ≠ g) (h2 : 1232 ≠ g) (h3 : 1233 ≠ g) (h4 : 1234 ≠ g) : RGB B n S1 x t := ⟨RTok_eq h.1 (by rw [e]; exact pI_sI_nf h1) (by rw [e]; exact pI_sI_nf h2) (by rw [e]; exact pI_sI_nf h3), h.2.1, fun q => by rw [show pI S1 1234 x = pI S 1234 x from (by rw [e]; exact pI_sI_nf h4)]; exact h.2.2 q⟩
theorem RGB_sA {B : Nat → Int} {n : Nat} {S S1 : PS} {x a : Nat} {f : Nat → Int32} {t : Tk} (h : RGB B n S x t) (e : S1 = sA S a f) : RGB B n S1 x t := ⟨RTok_eq h.1 (by rw [e]; rfl) (by rw [e]; rfl) (by rw [e]; rfl), h.2.1, fun q => by rw [show pI S1 1234 x = pI S 1234 x from (by rw [e]; rfl)]; exact h.2.2 q⟩
theorem RGB_adv {B : Nat → Int} {n : Nat} {S1 S2 : PS} {x : Nat} {t : Tk} (h : RGB B n S1 x t) (hB : rB S1 x = B) (hn : (pI S1 1228 x).toInt.toNat = n) (ok : t.2.2 ≤ 400) (hp : RTok S2 x (tokF (rB S1 x) (pI S1 1228 x).toInt.toNat (pI S1 1233 x).toInt.toNat) ∧ ((tokF (rB S1 x) (pI S1 1228 x).toInt.toNat (pI S1 1233 x).toInt.toNat).1 = 2 → (pI S2 1234 x).toInt = numF (rB S1 x) (tokF (rB S1 x) (pI S1 1228 x).toInt.toNat (pI S1 1233 x).toInt.toNat).2.1 ((tokF (rB S1 x) (pI S1 1228 x).toInt.toNat (pI S1 1233 x).toInt.toNat).2.2 - (tokF (rB S1 x) (pI S1 1228 x).toInt.toNat (pI S1 1233 x).toInt.toNat).2.1))) : RGB B n S2 x (nxT B n t) := by
  rw [hB, hn, h.1.2.2, show ((t.2.2 : Nat) : Int).toNat = t.2.2 from Int.toNat_natCast _, ← nxT_eq] at hp
  exact ⟨hp.1, ⟨t.2.2, ok, nxT_eq B n t⟩, hp.2⟩
theorem RGB_0 {B : Nat → Int} {n : Nat} {S1 S2 : PS} {x : Nat} (hB : rB S1 x = B) (hn : (pI S1 1228 x).toInt.toNat = n) (h6 : (pI S1 1233 x).toInt = 0) (hp : RTok S2 x (tokF (rB S1 x) (pI S1 1228 x).toInt.toNat (pI S1 1233 x).toInt.toNat) ∧ ((tokF (rB S1 x) (pI S1 1228 x).toInt.toNat (pI S1 1233 x).toInt.toNat).1 = 2 → (pI S2 1234 x).toInt = numF (rB S1 x) (tokF (rB S1 x) (pI S1 1228 x).toInt.toNat (pI S1 1233 x).toInt.toNat).2.1 ((tokF (rB S1 x) (pI S1 1228 x).toInt.toNat (pI S1 1233 x).toInt.toNat).2.2 - (tokF (rB S1 x) (pI S1 1228 x).toInt.toNat (pI S1 1233 x).toInt.toNat).2.1))) : RGB B n S2 x (tokF B n 0) := by
  rw [hB, hn, h6] at hp
  exact ⟨hp.1, ⟨0, by omega, rfl⟩, hp.2⟩
theorem isR_lt {S S1 : PS} {x : Nat} {t : Tk} (h : RGB (rB S x) (pI S 1228 x).toInt.toNat S1 x t) : isR (rB S x) t 18 ↔ sgT (rB S x) t 60 := by
  have q := isR_S (i := 18) h (Or.inl rfl)
  rw [show (strB 18 0).toInt = 60 by decide +kernel] at q
  exact q
theorem isR_eq {S S1 : PS} {x : Nat} {t : Tk} (h : RGB (rB S x) (pI S 1228 x).toInt.toNat S1 x t) : isR (rB S x) t 19 ↔ sgT (rB S x) t 61 := by
  have q := isR_S (i := 19) h (Or.inr (Or.inl rfl))
  rw [show (strB 19 0).toInt = 61 by decide +kernel] at q
  exact q
theorem isR_gt {S S1 : PS} {x : Nat} {t : Tk} (h : RGB (rB S x) (pI S 1228 x).toInt.toNat S1 x t) : isR (rB S x) t 20 ↔ sgT (rB S x) t 62 := by
  have q := isR_S (i := 20) h (Or.inr (Or.inr (Or.inl rfl)))
  rw [show (strB 20 0).toInt = 62 by decide +kernel] at q
  exact q
theorem isR_co {S S1 : PS} {x : Nat} {t : Tk} (h : RGB (rB S x) (pI S 1228 x).toInt.toNat S1 x t) : isR (rB S x) t 24 ↔ sgT (rB S x) t 58 := by
  have q := isR_S (i := 24) h (Or.inr (Or.inr (Or.inr (Or.inl rfl))))
  rw [show (strB 24 0).toInt = 58 by decide +kernel] at q
  exact q
theorem isR_se {S S1 : PS} {x : Nat} {t : Tk} (h : RGB (rB S x) (pI S 1228 x).toInt.toNat S1 x t) : isR (rB S x) t 25 ↔ sgT (rB S x) t 59 := by
  have q := isR_S (i := 25) h (Or.inr (Or.inr (Or.inr (Or.inr rfl))))
  rw [show (strB 25 0).toInt = 59 by decide +kernel] at q
  exact q
theorem isR_if {S S1 : PS} {x : Nat} {t : Tk} (h : RGB (rB S x) (pI S 1228 x).toInt.toNat S1 x t) : isR (rB S x) t 21 ↔ isT1 (rB S x) t 2 := isR_T (i := 21) h (Or.inl rfl)
theorem isR_and {S S1 : PS} {x : Nat} {t : Tk} (h : RGB (rB S x) (pI S 1228 x).toInt.toNat S1 x t) : isR (rB S x) t 23 ↔ isT1 (rB S x) t 3 := isR_T (i := 23) h (Or.inr rfl)
/-- what conditions come to behind one that stands: t is the token behind it, j more may come -/
noncomputable def ceF (B : Nat → Int) (n j : Nat) (t : Tk) (u : Tk) : Int × Tk := cit (sgT B t 58) (0, nxT B n t) (cit (isT1 B t 3) (csF B n j (nxT B n t)) (1, u))
theorem csF_ce {B : Nat → Int} {n j : Nat} {t : Tk} (h : cOk B n t) : csF B n (j + 1) t = ceF B n j (nx3 B n t) t := cit_y h
theorem csF_bad {B : Nat → Int} {n : Nat} {c f : Int} {t : Tk} (h0 : 0 ≤ c) (h4 : c ≤ 4) (h : (whF B t FLs 0 = -1 ∧ f = 1) ∨ (whF B t FLs 0 ≠ -1 ∧ c = 4 ∧ f = 2) ∨ (c ≠ 4 ∧ ¬ cOk B n t ∧ f = 1)) : (csF B n (4 - c).toNat t).1 ≠ 0 ∧ f = (csF B n (4 - c).toNat t).1 := by
  rcases (show c = 4 ∨ c < 4 by omega) with e | e
  · rw [show (4 - c).toNat = 0 by omega]
    show cit (whF B t FLs 0 = -1) 1 2 ≠ 0 ∧ f = cit (whF B t FLs 0 = -1) 1 2
    rcases h with ⟨h1, h2⟩ | ⟨h1, -, h2⟩ | ⟨h1, -, -⟩
    · rw [cit_y h1]; exact ⟨by decide, h2⟩
    · rw [cit_n h1]; exact ⟨by decide, h2⟩
    · exact absurd e h1
  · rw [show (4 - c).toNat = (3 - c).toNat + 1 by omega]
    have hc : ¬ cOk B n t := by
      rcases h with ⟨h1, -⟩ | ⟨-, h1, -⟩ | ⟨-, h1, -⟩
      · exact fun q => q.1 h1
      · omega
      · exact h1
    have hf : f = 1 := by
      rcases h with ⟨-, h2⟩ | ⟨-, h1, -⟩ | ⟨-, -, h2⟩
      · exact h2
      · omega
      · exact h2
    rw [csF_c hc]
    exact ⟨(by decide : (1 : Int) ≠ 0), hf⟩
theorem t1_sg {B : Nat → Int} {t : Tk} {i : Nat} {c : Int} (h : isT1 B t i) : ¬ sgT B t c := fun q => by
  have h1 := h.1
  have h2 := q.1
  omega
theorem z1223 {S : PS} {x : Nat} (hG : GX S) (ha : At S x 12) (j : Nat) : 0 ≤ zA S x 1223 j ∧ zA S x 1223 j ≤ 4 := by
  obtain ⟨q, q1, q2, -⟩ := gQ_12_1223 hG ha
  rw [zA_eq, mA_eq q1]
  exact gE_674 hG q2 j
theorem z1220 {S : PS} {x : Nat} (hG : GX S) (ha : At S x 12) (j : Nat) : 0 ≤ zA S x 1220 j ∧ zA S x 1220 j ≤ 12 := by
  obtain ⟨q, q1, q2, -⟩ := gQ_12_1220 hG ha
  rw [zA_eq, mA_eq q1]
  exact gE_614 hG q2 j

set_option maxHeartbeats 4000000 in
set_option maxRecDepth 100000 in
theorem k_X12_is2 (l : Launch) (G : va_G) (cy : Nat → ClassId) (κ : Nat → Nat) (S : PS) (sz : Nat) (x : Nat) (i : Nat) (t0 : Tk) (hG : GX S) (ha_x : At S x 12) (hi_i : i < 26) (hp_0 : RTok S x t0) (hp_1 : t0.2.1 ≤ t0.2.2) (hp_2 : t0.2.2 ≤ 400) : Ci l yX12_is wsX12_is ({ frames := 5, cells := 0, slots := 0, locals := 240 }) G cy κ S sz [.ref x, .ref (κ (100 + i))] (fun (r : Int32) (S9 : PS) => S = S9 ∧ (((((pI S 1230 x).toInt = 0 ∧ isR (rB S x) t0 i)) ∧ r = 1) ∨ ((¬ ((pI S 1230 x).toInt = 0 ∧ isR (rB S x) t0 i)) ∧ r = 0))) := by
  refine ent_m (cc := cX12_is) (maxL := 4) (ret := (some .boolean)) (by decide) rfl (Nat.le_of_ble_eq_true rfl) ?_
  intro p e s m below meth c ls X hr hlocks hin hw hl hsz
  subst hsz
  have X : Cx p c cX12_is 4 s [.ref x, .ref (κ (100 + i))].toArray wsX12_is RX12 m G cy κ (AS S s.heap.size) := X
  have hl : lv_has ls 4 [(0, .ref x), (1, .ref (κ (100 + i)))] := hl
  generalize hQQ : MQ below _ _ _ _ _ _ = QQ
  replace hQQ := hQQ.symm
  have htk := hp_0
  have htk1 := htk.1
  have htk2 := htk.2.1
  have htk3 := htk.2.2
  obtain ⟨v_1, ev_1⟩ : ∃ v, pI S 1230 x = v := ⟨_, rfl⟩
  have rg_3 := And.intro (z_lo v_1) (z_hi v_1)
  have pz_4 : (pI S 1230 x).toInt = v_1.toInt := by rw [ev_1]
  have pz_5 : (pI S 1230 x).toInt = v_1.toInt := (congrArg Int32.toInt ev_1).trans rfl
  obtain ⟨v_6, ev_6⟩ : ∃ v, pI S 1231 x = v := ⟨_, rfl⟩
  have rg_8 := And.intro (z_lo v_6) (z_hi v_6)
  have pz_9 : (pI S 1231 x).toInt = v_6.toInt := by rw [ev_6]
  have pz_10 : (pI S 1231 x).toInt = v_6.toInt := (congrArg Int32.toInt ev_6).trans rfl
  obtain ⟨v_11, ev_11⟩ : ∃ v, pI S 1232 x = v := ⟨_, rfl⟩
  have rg_12 := gI_12_1232 hG ha_x; rw [ev_11] at rg_12
  have pz_13 : (pI S 1232 x).toInt = v_11.toInt := by rw [ev_11]
  have pz_14 : (pI S 1232 x).toInt = v_11.toInt := (congrArg Int32.toInt ev_11).trans rfl
  obtain ⟨v_15, ev_15⟩ : ∃ v, pI S 1233 x = v := ⟨_, rfl⟩
  have rg_16 := gI_12_1233 hG ha_x; rw [ev_15] at rg_16
  have pz_17 : (pI S 1233 x).toInt = v_15.toInt := by rw [ev_15]
  have pz_18 : (pI S 1233 x).toInt = v_15.toInt := (congrArg Int32.toInt ev_15).trans rfl
  refine lv_aload_n X.1 X.2.1 dX12_is_0 rfl (lv_at hl 0 rfl) ?_
  refine r_getI (g := 1230) (x := v_1) X hw ha_x rfl 30 ev_1 (by decide) rfl inn_X12_is_12 (by decide) (X.2.2.2.1 (.fieldLink RX12 229 "SilkMillModel" "faultKind" "I") (by decide +kernel)) rfl (gv_1230 _ _) dX12_is_1 ?_
  refine lv_if_ne (tgt := 27) X.1 X.2.1 dX12_is_4 (by decide) (fun c_19 => ?_) (fun c_19 => ?_)
  · have z_b_20 := trivial
    have k_21 : v_1.toInt ≠ 0 := z_ne rfl ti_0 c_19
    refine lv_iconst (v := 0) X.1 X.2.1 dX12_is_27 (by decide) ?_
    refine lv_istore_n (lv' := [(2, .int 0), (0, .ref x), (1, .ref (κ (100 + i)))]) X.1 X.2.1 dX12_is_28 rfl hl (by decide) rfl (fun ls hl => ?_)
    refine lv_iconst (v := 0) X.1 X.2.1 dX12_is_29 (by decide) ?_
    refine lv_istore_n (lv' := [(3, .int 0), (2, .int 0), (0, .ref x), (1, .ref (κ (100 + i)))]) X.1 X.2.1 dX12_is_30 rfl hl (by decide) rfl (fun ls hl => ?_)
    have L_22 : ∀ (n : Nat) (H : Heap) (locs : List Loc) (ls : Array Slot) (i2_23 : Int32) (i2_23_z : Int) (i3_24 : Int32) (i3_24_z : Int), ((64 - i3_24_z).toNat = n) → (Wd G cy (AS S s.heap.size) s.heap S H locs) → (i2_23.toInt = i2_23_z) → (0 ≤ i2_23_z ∧ i2_23_z ≤ 1) → (i3_24.toInt = i3_24_z) → (0 ≤ i3_24_z ∧ i3_24_z ≤ 64) → ((i2_23_z = 1 → (pI S 1230 x).toInt = 0 ∧ t0.2.2 - t0.2.1 = strN i ∧ ∀ j : Nat, (j : Int) < i3_24_z → rB S x (t0.2.1 + j) = (strB i j).toInt)) → ((i2_23_z = 0 → ¬ ((pI S 1230 x).toInt = 0 ∧ isR (rB S x) t0 i))) → (lv_has ls 4 [(2, .int (i2_23)), (3, .int (i3_24)), (0, .ref x), (1, .ref (κ (100 + i)))]) → W p l e ({ frames := 5, cells := 0, slots := 0, locals := 240 }) s m [.ref x, .ref (κ (100 + i))].toArray below meth c H locs 0 0 QQ (F0 m 31 ls []) := by
      intro n
      induction n using Nat.strongRecOn with
      | ind n ih_L_22 =>
      intro H locs ls i2_23 i2_23_z i3_24 i3_24_z hn hw hz_i2_23 hr_i2_23 hz_i3_24 hr_i3_24 iv_25 iv_26 hl
      have rg_27 : (-2147483648) ≤ i2_23_z ∧ i2_23_z ≤ 2147483647 := by rw [← hz_i2_23]; exact ⟨z_lo _, z_hi _⟩
      have rg_28 : (-2147483648) ≤ i3_24_z ∧ i3_24_z ≤ 2147483647 := by rw [← hz_i3_24]; exact ⟨z_lo _, z_hi _⟩
      refine lv_iload_n X.1 X.2.1 dX12_is_31 rfl (lv_at hl 1 rfl) ?_
      refine lv_aload_n X.1 X.2.1 dX12_is_32 rfl (lv_at hl 3 rfl) ?_
      refine k_i (rm := { frames := 2, cells := 0, slots := 0, locals := 96 }) (av := [.ref (κ (100 + i))]) X hw (va_runV (As := []) (rest := [.int (i3_24)]) (cfix X) (k_J0_length_8abf5 l G cy κ S _ i hG hi_i) (cwV 0 X.2.2.2.1 gX12_is_J0_length_8abf5 rfl rfl rfl (by decide +kernel) ⟨Nat.le_of_ble_eq_true rfl, Nat.le_of_ble_eq_true rfl⟩) (pre_VS X hw _ i hi_i) rfl rfl hl.1 rfl (lv_room (Nat.le_of_ble_eq_true rfl)) dX12_is_33 ⟨Nat.le_of_ble_eq_true rfl, Nat.le_of_ble_eq_true rfl⟩) 0 0 (Nat.le_of_ble_eq_true rfl) (Nat.le_of_ble_eq_true rfl) (fun rr_29 S_30 H locs hp hw hfr hnw => ?_)
      obtain ⟨e2, hp⟩ := hp
      subst e2
      obtain ⟨f_31, f_32⟩ := hp
      refine lv_icmp_ge (tgt := 73) X.1 X.2.1 dX12_is_36 (by decide) (fun c_33 => ?_) (fun c_33 => ?_)
      · have z_b_34 := trivial
        have k_35 : i3_24_z ≥ rr_29.toInt := z_le rfl hz_i3_24 c_33
        refine lv_iload_n X.1 X.2.1 dX12_is_73 rfl (lv_at hl 0 rfl) ?_
        have hb01 : i2_23 = 0 ∨ i2_23 = 1 := z_01 hz_i2_23 (by omega) (by omega)
        rw [hQQ]
        exact ret_z X hw hr hlocks (Nat.le_of_ble_eq_true rfl) (Nat.le_of_ble_eq_true rfl) (by assumption) ⟨rfl, (by rcases hb01 with h | h; exact Or.inr ⟨iv_26 (by have hq := hz_i2_23; rw [h, ti_0] at hq; omega), h⟩; have hz1 : i2_23_z = 1 := (by have hq := hz_i2_23; rw [h, ti_1] at hq; omega); first | exact Or.inl ⟨⟨(iv_25 hz1).1, (iv_25 hz1).2.1, fun j hj => (iv_25 hz1).2.2 j (by omega)⟩, h⟩ | (exfalso; omega))⟩ dX12_is_74
      · have z_b_36 := trivial
        have k_37 : i3_24_z < rr_29.toInt := z_nle rfl hz_i3_24 c_33
        refine lv_iload_n X.1 X.2.1 dX12_is_39 rfl (lv_at hl 0 rfl) ?_
        refine lv_if_eq (tgt := 73) X.1 X.2.1 dX12_is_40 (by decide) (fun c_38 => ?_) (fun c_38 => ?_)
        · have z_b_39 := trivial
          have k_40 : i2_23_z = 0 := z_eq hz_i2_23 ti_0 c_38
          refine lv_iload_n X.1 X.2.1 dX12_is_73 rfl (lv_at hl 0 rfl) ?_
          have hb01 : i2_23 = 0 ∨ i2_23 = 1 := z_01 hz_i2_23 (by omega) (by omega)
          rw [hQQ]
          exact ret_z X hw hr hlocks (Nat.le_of_ble_eq_true rfl) (Nat.le_of_ble_eq_true rfl) (by assumption) ⟨rfl, (by rcases hb01 with h | h; exact Or.inr ⟨iv_26 (by have hq := hz_i2_23; rw [h, ti_0] at hq; omega), h⟩; have hz1 : i2_23_z = 1 := (by have hq := hz_i2_23; rw [h, ti_1] at hq; omega); first | exact Or.inl ⟨⟨(iv_25 hz1).1, (iv_25 hz1).2.1, fun j hj => (iv_25 hz1).2.2 j (by omega)⟩, h⟩ | (exfalso; omega))⟩ dX12_is_74
        · have z_b_41 := trivial
          have k_42 : i2_23_z ≠ 0 := z_ne hz_i2_23 ti_0 c_38
          refine lv_aload_n X.1 X.2.1 dX12_is_43 rfl (lv_at hl 2 rfl) ?_
          refine lv_aload_n X.1 X.2.1 dX12_is_44 rfl (lv_at hl 2 rfl) ?_
          refine r_getI (g := 1232) (x := v_11) X hw ha_x rfl 32 ev_11 (by decide) rfl inn_X12_is_12 (by decide) (X.2.2.2.1 (.fieldLink RX12 217 "SilkMillModel" "from" "I") (by decide +kernel)) rfl (gv_1232 _ _) dX12_is_45 ?_
          refine lv_iload_n X.1 X.2.1 dX12_is_48 rfl (lv_at hl 1 rfl) ?_
          refine lv_iadd X.1 X.2.1 dX12_is_49 ?_
          refine lv_topi (fun v_43 ev_43 => ?_)
          have z_44 : v_43.toInt = v_11.toInt + i3_24_z := z_add ev_43 rfl hz_i3_24 (by omega) (by omega)
          refine k_i (rm := { frames := 1, cells := 0, slots := 0, locals := 48 }) (av := [.ref x, .int (v_43)]) X hw (va_runV (As := [.int (v_43)]) (rest := []) (cfix X) (k_X12_byteAt2 l G cy κ S _ x (v_43) ((v_11.toInt + i3_24_z)) hG ha_x z_44 (by first | assumption | omega)) (cwV 1 X.2.2.2.1 gX12_is_X12_byteAt rfl rfl rfl (by decide +kernel) ⟨Nat.le_of_ble_eq_true rfl, Nat.le_of_ble_eq_true rfl⟩) (pre_V X hw _ ha_x rfl (by decide) rfl) rfl rfl hl.1 rfl (lv_room (Nat.le_of_ble_eq_true rfl)) dX12_is_50 ⟨Nat.le_of_ble_eq_true rfl, Nat.le_of_ble_eq_true rfl⟩) 0 0 (Nat.le_of_ble_eq_true rfl) (Nat.le_of_ble_eq_true rfl) (fun rr_45 S_46 H locs hp hw hfr hnw => ?_)
          obtain ⟨e2, hp⟩ := hp
          subst e2
          obtain ⟨by_47, by_48, by_49, by_50, by_51⟩ := hp
          obtain ⟨v_52, ev_52⟩ : ∃ v, pI S 1228 x = v := ⟨_, rfl⟩
          have rg_53 := gI_12_1228 hG ha_x; rw [ev_52] at rg_53
          have pz_54 : (pI S 1228 x).toInt = v_52.toInt := by rw [ev_52]
          have pz_55 : (pI S 1228 x).toInt = v_52.toInt := (congrArg Int32.toInt ev_52).trans rfl
          refine lv_aload_n X.1 X.2.1 dX12_is_53 rfl (lv_at hl 3 rfl) ?_
          refine lv_iload_n X.1 X.2.1 dX12_is_54 rfl (lv_at hl 1 rfl) ?_
          refine k_i (rm := { frames := 4, cells := 0, slots := 0, locals := 192 }) (av := [.ref (κ (100 + i)), .int (i3_24)]) X hw (va_runV (As := [.int (i3_24)]) (rest := [.int (rr_45)]) (cfix X) (k_J0_charAt2 l G cy κ S _ i (i3_24) (i3_24_z) hG hi_i hz_i3_24 (by first | assumption | omega) (by first | assumption | omega)) (cwV 1 X.2.2.2.1 gX12_is_J0_charAt_5068e rfl rfl rfl (by decide +kernel) ⟨Nat.le_of_ble_eq_true rfl, Nat.le_of_ble_eq_true rfl⟩) (pre_VS X hw _ i hi_i) rfl rfl hl.1 rfl (lv_room (Nat.le_of_ble_eq_true rfl)) dX12_is_55 ⟨Nat.le_of_ble_eq_true rfl, Nat.le_of_ble_eq_true rfl⟩) 0 0 (Nat.le_of_ble_eq_true rfl) (Nat.le_of_ble_eq_true rfl) (fun rr_56 S_57 H locs hp hw hfr hnw => ?_)
          obtain ⟨e2, hp⟩ := hp
          subst e2
          obtain ⟨f_58, f_59, f_60⟩ := hp
          refine lv_icmp_ne (tgt := 65) X.1 X.2.1 dX12_is_58 (by decide) (fun c_61 => ?_) (fun c_61 => ?_)
          · have z_b_62 := trivial
            have k_63 : rr_45.toInt ≠ rr_56.toInt := z_ne rfl rfl c_61
            refine lv_iconst (v := 0) X.1 X.2.1 dX12_is_65 (by decide) ?_
            refine lv_istore_n (lv' := [(2, .int 0), (3, .int (i3_24)), (0, .ref x), (1, .ref (κ (100 + i)))]) X.1 X.2.1 dX12_is_66 rfl hl (by decide) rfl (fun ls hl => ?_)
            obtain ⟨x_64, ex_64⟩ : ∃ y : Int32, y = i3_24 + 1 := ⟨_, rfl⟩
            have z_65 : x_64.toInt = i3_24_z + 1 := z_add ex_64 hz_i3_24 ti_1 (by omega) (by omega)
            refine lv_iinc (v := x_64) (lv' := [(3, .int (x_64)), (2, .int 0), (0, .ref x), (1, .ref (κ (100 + i)))]) X.1 X.2.1 dX12_is_67 hl (k := 1) rfl (by rw [ex_64]; rfl) (by decide) rfl (fun ls hl => ?_)
            refine lv_goto (tgt := 31) X.1 X.2.1 dX12_is_70 (by decide) ?_
            exact ih_L_22 _ (by omega) _ _ _ (0) (0) (x_64) (x_64.toInt) rfl hw ti_0 (by omega) rfl (by omega) (fun h => absurd h (by decide)) (fun _ h => by have h2 := h.2.2 (i3_24_z).toNat (by omega); rw [show t0.2.1 + (i3_24_z).toNat = ((v_11.toInt + i3_24_z)).toNat by omega] at h2; omega) (lv_sub hl [1, 0, 2, 3] rfl)
          · have z_b_66 := trivial
            have k_67 : rr_45.toInt = rr_56.toInt := z_eq rfl rfl c_61
            refine lv_iconst (v := 1) X.1 X.2.1 dX12_is_61 (by decide) ?_
            refine lv_goto (tgt := 66) X.1 X.2.1 dX12_is_62 (by decide) ?_
            refine lv_istore_n (lv' := [(2, .int 1), (3, .int (i3_24)), (0, .ref x), (1, .ref (κ (100 + i)))]) X.1 X.2.1 dX12_is_66 rfl hl (by decide) rfl (fun ls hl => ?_)
            obtain ⟨x_68, ex_68⟩ : ∃ y : Int32, y = i3_24 + 1 := ⟨_, rfl⟩
            have z_69 : x_68.toInt = i3_24_z + 1 := z_add ex_68 hz_i3_24 ti_1 (by omega) (by omega)
            refine lv_iinc (v := x_68) (lv' := [(3, .int (x_68)), (2, .int 1), (0, .ref x), (1, .ref (κ (100 + i)))]) X.1 X.2.1 dX12_is_67 hl (k := 1) rfl (by rw [ex_68]; rfl) (by decide) rfl (fun ls hl => ?_)
            refine lv_goto (tgt := 31) X.1 X.2.1 dX12_is_70 (by decide) ?_
            have iq_70 := iv_25 (by omega)
            have sr_71 := strB_rng i (i3_24_z).toNat
            exact ih_L_22 _ (by omega) _ _ _ (1) (1) (x_68) (x_68.toInt) rfl hw ti_1 (by omega) rfl (by omega) (fun _ => ⟨iq_70.1, iq_70.2.1, fun j hj => by rcases (show (j : Int) < i3_24_z ∨ (j : Int) = i3_24_z by omega) with e | e; exact iq_70.2.2 j e; rw [show t0.2.1 + j = ((v_11.toInt + i3_24_z)).toNat by omega, show j = (i3_24_z).toNat by omega]; omega⟩) (fun h => absurd h (by decide)) (lv_sub hl [1, 0, 2, 3] rfl)
    exact L_22 _ _ _ _ (0) (0) (0) (0) rfl hw ti_0 (by omega) ti_0 (by omega) (fun h => absurd h (by decide)) (fun _ h => by have h1 := h.1; have h2 := h.2.1; omega) (lv_sub hl [1, 0, 2, 3] rfl)
  · have z_b_72 := trivial
    have k_73 : v_1.toInt = 0 := z_eq rfl ti_0 c_19
    refine lv_aload_n X.1 X.2.1 dX12_is_7 rfl (lv_at hl 0 rfl) ?_
    refine r_getI (g := 1233) (x := v_15) X hw ha_x rfl 33 ev_15 (by decide) rfl inn_X12_is_12 (by decide) (X.2.2.2.1 (.fieldLink RX12 214 "SilkMillModel" "to" "I") (by decide +kernel)) rfl (gv_1233 _ _) dX12_is_8 ?_
    refine lv_aload_n X.1 X.2.1 dX12_is_11 rfl (lv_at hl 0 rfl) ?_
    refine r_getI (g := 1232) (x := v_11) X hw ha_x rfl 32 ev_11 (by decide) rfl inn_X12_is_12 (by decide) (X.2.2.2.1 (.fieldLink RX12 217 "SilkMillModel" "from" "I") (by decide +kernel)) rfl (gv_1232 _ _) dX12_is_12 ?_
    refine lv_isub X.1 X.2.1 dX12_is_15 ?_
    refine lv_topi (fun v_74 ev_74 => ?_)
    have z_75 : v_74.toInt = v_15.toInt - v_11.toInt := z_sub ev_74 rfl rfl (by omega) (by omega)
    refine lv_aload_n X.1 X.2.1 dX12_is_16 rfl (lv_at hl 1 rfl) ?_
    refine k_i (rm := { frames := 2, cells := 0, slots := 0, locals := 96 }) (av := [.ref (κ (100 + i))]) X hw (va_runV (As := []) (rest := [.int (v_74)]) (cfix X) (k_J0_length_8abf5 l G cy κ S _ i hG hi_i) (cwV 0 X.2.2.2.1 gX12_is_J0_length_8abf5 rfl rfl rfl (by decide +kernel) ⟨Nat.le_of_ble_eq_true rfl, Nat.le_of_ble_eq_true rfl⟩) (pre_VS X hw _ i hi_i) rfl rfl hl.1 rfl (lv_room (Nat.le_of_ble_eq_true rfl)) dX12_is_17 ⟨Nat.le_of_ble_eq_true rfl, Nat.le_of_ble_eq_true rfl⟩) 0 0 (Nat.le_of_ble_eq_true rfl) (Nat.le_of_ble_eq_true rfl) (fun rr_76 S_77 H locs hp hw hfr hnw => ?_)
    obtain ⟨e2, hp⟩ := hp
    subst e2
    obtain ⟨f_78, f_79⟩ := hp
    refine lv_icmp_ne (tgt := 27) X.1 X.2.1 dX12_is_20 (by decide) (fun c_80 => ?_) (fun c_80 => ?_)
    · have z_b_81 := trivial
      have k_82 : (v_15.toInt - v_11.toInt) ≠ rr_76.toInt := z_ne z_75 rfl c_80
      refine lv_iconst (v := 0) X.1 X.2.1 dX12_is_27 (by decide) ?_
      refine lv_istore_n (lv' := [(2, .int 0), (0, .ref x), (1, .ref (κ (100 + i)))]) X.1 X.2.1 dX12_is_28 rfl hl (by decide) rfl (fun ls hl => ?_)
      refine lv_iconst (v := 0) X.1 X.2.1 dX12_is_29 (by decide) ?_
      refine lv_istore_n (lv' := [(3, .int 0), (2, .int 0), (0, .ref x), (1, .ref (κ (100 + i)))]) X.1 X.2.1 dX12_is_30 rfl hl (by decide) rfl (fun ls hl => ?_)
      have L_83 : ∀ (n : Nat) (H : Heap) (locs : List Loc) (ls : Array Slot) (i2_84 : Int32) (i2_84_z : Int) (i3_85 : Int32) (i3_85_z : Int), ((64 - i3_85_z).toNat = n) → (Wd G cy (AS S s.heap.size) s.heap S H locs) → (i2_84.toInt = i2_84_z) → (0 ≤ i2_84_z ∧ i2_84_z ≤ 1) → (i3_85.toInt = i3_85_z) → (0 ≤ i3_85_z ∧ i3_85_z ≤ 64) → ((i2_84_z = 1 → (pI S 1230 x).toInt = 0 ∧ t0.2.2 - t0.2.1 = strN i ∧ ∀ j : Nat, (j : Int) < i3_85_z → rB S x (t0.2.1 + j) = (strB i j).toInt)) → ((i2_84_z = 0 → ¬ ((pI S 1230 x).toInt = 0 ∧ isR (rB S x) t0 i))) → (lv_has ls 4 [(2, .int (i2_84)), (3, .int (i3_85)), (0, .ref x), (1, .ref (κ (100 + i)))]) → W p l e ({ frames := 5, cells := 0, slots := 0, locals := 240 }) s m [.ref x, .ref (κ (100 + i))].toArray below meth c H locs 0 0 QQ (F0 m 31 ls []) := by
        intro n
        induction n using Nat.strongRecOn with
        | ind n ih_L_83 =>
        intro H locs ls i2_84 i2_84_z i3_85 i3_85_z hn hw hz_i2_84 hr_i2_84 hz_i3_85 hr_i3_85 iv_86 iv_87 hl
        have rg_88 : (-2147483648) ≤ i2_84_z ∧ i2_84_z ≤ 2147483647 := by rw [← hz_i2_84]; exact ⟨z_lo _, z_hi _⟩
        have rg_89 : (-2147483648) ≤ i3_85_z ∧ i3_85_z ≤ 2147483647 := by rw [← hz_i3_85]; exact ⟨z_lo _, z_hi _⟩
        refine lv_iload_n X.1 X.2.1 dX12_is_31 rfl (lv_at hl 1 rfl) ?_
        refine lv_aload_n X.1 X.2.1 dX12_is_32 rfl (lv_at hl 3 rfl) ?_
        refine k_i (rm := { frames := 2, cells := 0, slots := 0, locals := 96 }) (av := [.ref (κ (100 + i))]) X hw (va_runV (As := []) (rest := [.int (i3_85)]) (cfix X) (k_J0_length_8abf5 l G cy κ S _ i hG hi_i) (cwV 0 X.2.2.2.1 gX12_is_J0_length_8abf5 rfl rfl rfl (by decide +kernel) ⟨Nat.le_of_ble_eq_true rfl, Nat.le_of_ble_eq_true rfl⟩) (pre_VS X hw _ i hi_i) rfl rfl hl.1 rfl (lv_room (Nat.le_of_ble_eq_true rfl)) dX12_is_33 ⟨Nat.le_of_ble_eq_true rfl, Nat.le_of_ble_eq_true rfl⟩) 0 0 (Nat.le_of_ble_eq_true rfl) (Nat.le_of_ble_eq_true rfl) (fun rr_90 S_91 H locs hp hw hfr hnw => ?_)
        obtain ⟨e2, hp⟩ := hp
        subst e2
        obtain ⟨f_92, f_93⟩ := hp
        refine lv_icmp_ge (tgt := 73) X.1 X.2.1 dX12_is_36 (by decide) (fun c_94 => ?_) (fun c_94 => ?_)
        · have z_b_95 := trivial
          have k_96 : i3_85_z ≥ rr_90.toInt := z_le rfl hz_i3_85 c_94
          refine lv_iload_n X.1 X.2.1 dX12_is_73 rfl (lv_at hl 0 rfl) ?_
          have hb01 : i2_84 = 0 ∨ i2_84 = 1 := z_01 hz_i2_84 (by omega) (by omega)
          rw [hQQ]
          exact ret_z X hw hr hlocks (Nat.le_of_ble_eq_true rfl) (Nat.le_of_ble_eq_true rfl) (by assumption) ⟨rfl, (by rcases hb01 with h | h; exact Or.inr ⟨iv_87 (by have hq := hz_i2_84; rw [h, ti_0] at hq; omega), h⟩; have hz1 : i2_84_z = 1 := (by have hq := hz_i2_84; rw [h, ti_1] at hq; omega); first | exact Or.inl ⟨⟨(iv_86 hz1).1, (iv_86 hz1).2.1, fun j hj => (iv_86 hz1).2.2 j (by omega)⟩, h⟩ | (exfalso; omega))⟩ dX12_is_74
        · have z_b_97 := trivial
          have k_98 : i3_85_z < rr_90.toInt := z_nle rfl hz_i3_85 c_94
          refine lv_iload_n X.1 X.2.1 dX12_is_39 rfl (lv_at hl 0 rfl) ?_
          refine lv_if_eq (tgt := 73) X.1 X.2.1 dX12_is_40 (by decide) (fun c_99 => ?_) (fun c_99 => ?_)
          · have z_b_100 := trivial
            have k_101 : i2_84_z = 0 := z_eq hz_i2_84 ti_0 c_99
            refine lv_iload_n X.1 X.2.1 dX12_is_73 rfl (lv_at hl 0 rfl) ?_
            have hb01 : i2_84 = 0 ∨ i2_84 = 1 := z_01 hz_i2_84 (by omega) (by omega)
            rw [hQQ]
            exact ret_z X hw hr hlocks (Nat.le_of_ble_eq_true rfl) (Nat.le_of_ble_eq_true rfl) (by assumption) ⟨rfl, (by rcases hb01 with h | h; exact Or.inr ⟨iv_87 (by have hq := hz_i2_84; rw [h, ti_0] at hq; omega), h⟩; have hz1 : i2_84_z = 1 := (by have hq := hz_i2_84; rw [h, ti_1] at hq; omega); first | exact Or.inl ⟨⟨(iv_86 hz1).1, (iv_86 hz1).2.1, fun j hj => (iv_86 hz1).2.2 j (by omega)⟩, h⟩ | (exfalso; omega))⟩ dX12_is_74
          · have z_b_102 := trivial
            have k_103 : i2_84_z ≠ 0 := z_ne hz_i2_84 ti_0 c_99
            refine lv_aload_n X.1 X.2.1 dX12_is_43 rfl (lv_at hl 2 rfl) ?_
            refine lv_aload_n X.1 X.2.1 dX12_is_44 rfl (lv_at hl 2 rfl) ?_
            refine r_getI (g := 1232) (x := v_11) X hw ha_x rfl 32 ev_11 (by decide) rfl inn_X12_is_12 (by decide) (X.2.2.2.1 (.fieldLink RX12 217 "SilkMillModel" "from" "I") (by decide +kernel)) rfl (gv_1232 _ _) dX12_is_45 ?_
            refine lv_iload_n X.1 X.2.1 dX12_is_48 rfl (lv_at hl 1 rfl) ?_
            refine lv_iadd X.1 X.2.1 dX12_is_49 ?_
            refine lv_topi (fun v_104 ev_104 => ?_)
            have z_105 : v_104.toInt = v_11.toInt + i3_85_z := z_add ev_104 rfl hz_i3_85 (by omega) (by omega)
            refine k_i (rm := { frames := 1, cells := 0, slots := 0, locals := 48 }) (av := [.ref x, .int (v_104)]) X hw (va_runV (As := [.int (v_104)]) (rest := []) (cfix X) (k_X12_byteAt2 l G cy κ S _ x (v_104) ((v_11.toInt + i3_85_z)) hG ha_x z_105 (by first | assumption | omega)) (cwV 1 X.2.2.2.1 gX12_is_X12_byteAt rfl rfl rfl (by decide +kernel) ⟨Nat.le_of_ble_eq_true rfl, Nat.le_of_ble_eq_true rfl⟩) (pre_V X hw _ ha_x rfl (by decide) rfl) rfl rfl hl.1 rfl (lv_room (Nat.le_of_ble_eq_true rfl)) dX12_is_50 ⟨Nat.le_of_ble_eq_true rfl, Nat.le_of_ble_eq_true rfl⟩) 0 0 (Nat.le_of_ble_eq_true rfl) (Nat.le_of_ble_eq_true rfl) (fun rr_106 S_107 H locs hp hw hfr hnw => ?_)
            obtain ⟨e2, hp⟩ := hp
            subst e2
            obtain ⟨by_108, by_109, by_110, by_111, by_112⟩ := hp
            obtain ⟨v_113, ev_113⟩ : ∃ v, pI S 1228 x = v := ⟨_, rfl⟩
            have rg_114 := gI_12_1228 hG ha_x; rw [ev_113] at rg_114
            have pz_115 : (pI S 1228 x).toInt = v_113.toInt := by rw [ev_113]
            have pz_116 : (pI S 1228 x).toInt = v_113.toInt := (congrArg Int32.toInt ev_113).trans rfl
            refine lv_aload_n X.1 X.2.1 dX12_is_53 rfl (lv_at hl 3 rfl) ?_
            refine lv_iload_n X.1 X.2.1 dX12_is_54 rfl (lv_at hl 1 rfl) ?_
            refine k_i (rm := { frames := 4, cells := 0, slots := 0, locals := 192 }) (av := [.ref (κ (100 + i)), .int (i3_85)]) X hw (va_runV (As := [.int (i3_85)]) (rest := [.int (rr_106)]) (cfix X) (k_J0_charAt2 l G cy κ S _ i (i3_85) (i3_85_z) hG hi_i hz_i3_85 (by first | assumption | omega) (by first | assumption | omega)) (cwV 1 X.2.2.2.1 gX12_is_J0_charAt_5068e rfl rfl rfl (by decide +kernel) ⟨Nat.le_of_ble_eq_true rfl, Nat.le_of_ble_eq_true rfl⟩) (pre_VS X hw _ i hi_i) rfl rfl hl.1 rfl (lv_room (Nat.le_of_ble_eq_true rfl)) dX12_is_55 ⟨Nat.le_of_ble_eq_true rfl, Nat.le_of_ble_eq_true rfl⟩) 0 0 (Nat.le_of_ble_eq_true rfl) (Nat.le_of_ble_eq_true rfl) (fun rr_117 S_118 H locs hp hw hfr hnw => ?_)
            obtain ⟨e2, hp⟩ := hp
            subst e2
            obtain ⟨f_119, f_120, f_121⟩ := hp
            refine lv_icmp_ne (tgt := 65) X.1 X.2.1 dX12_is_58 (by decide) (fun c_122 => ?_) (fun c_122 => ?_)
            · have z_b_123 := trivial
              have k_124 : rr_106.toInt ≠ rr_117.toInt := z_ne rfl rfl c_122
              refine lv_iconst (v := 0) X.1 X.2.1 dX12_is_65 (by decide) ?_
              refine lv_istore_n (lv' := [(2, .int 0), (3, .int (i3_85)), (0, .ref x), (1, .ref (κ (100 + i)))]) X.1 X.2.1 dX12_is_66 rfl hl (by decide) rfl (fun ls hl => ?_)
              obtain ⟨x_125, ex_125⟩ : ∃ y : Int32, y = i3_85 + 1 := ⟨_, rfl⟩
              have z_126 : x_125.toInt = i3_85_z + 1 := z_add ex_125 hz_i3_85 ti_1 (by omega) (by omega)
              refine lv_iinc (v := x_125) (lv' := [(3, .int (x_125)), (2, .int 0), (0, .ref x), (1, .ref (κ (100 + i)))]) X.1 X.2.1 dX12_is_67 hl (k := 1) rfl (by rw [ex_125]; rfl) (by decide) rfl (fun ls hl => ?_)
              refine lv_goto (tgt := 31) X.1 X.2.1 dX12_is_70 (by decide) ?_
              exact ih_L_83 _ (by omega) _ _ _ (0) (0) (x_125) (x_125.toInt) rfl hw ti_0 (by omega) rfl (by omega) (fun h => absurd h (by decide)) (fun _ h => by have h2 := h.2.2 (i3_85_z).toNat (by omega); rw [show t0.2.1 + (i3_85_z).toNat = ((v_11.toInt + i3_85_z)).toNat by omega] at h2; omega) (lv_sub hl [1, 0, 2, 3] rfl)
            · have z_b_127 := trivial
              have k_128 : rr_106.toInt = rr_117.toInt := z_eq rfl rfl c_122
              refine lv_iconst (v := 1) X.1 X.2.1 dX12_is_61 (by decide) ?_
              refine lv_goto (tgt := 66) X.1 X.2.1 dX12_is_62 (by decide) ?_
              refine lv_istore_n (lv' := [(2, .int 1), (3, .int (i3_85)), (0, .ref x), (1, .ref (κ (100 + i)))]) X.1 X.2.1 dX12_is_66 rfl hl (by decide) rfl (fun ls hl => ?_)
              obtain ⟨x_129, ex_129⟩ : ∃ y : Int32, y = i3_85 + 1 := ⟨_, rfl⟩
              have z_130 : x_129.toInt = i3_85_z + 1 := z_add ex_129 hz_i3_85 ti_1 (by omega) (by omega)
              refine lv_iinc (v := x_129) (lv' := [(3, .int (x_129)), (2, .int 1), (0, .ref x), (1, .ref (κ (100 + i)))]) X.1 X.2.1 dX12_is_67 hl (k := 1) rfl (by rw [ex_129]; rfl) (by decide) rfl (fun ls hl => ?_)
              refine lv_goto (tgt := 31) X.1 X.2.1 dX12_is_70 (by decide) ?_
              have iq_131 := iv_86 (by omega)
              have sr_132 := strB_rng i (i3_85_z).toNat
              exact ih_L_83 _ (by omega) _ _ _ (1) (1) (x_129) (x_129.toInt) rfl hw ti_1 (by omega) rfl (by omega) (fun _ => ⟨iq_131.1, iq_131.2.1, fun j hj => by rcases (show (j : Int) < i3_85_z ∨ (j : Int) = i3_85_z by omega) with e | e; exact iq_131.2.2 j e; rw [show t0.2.1 + j = ((v_11.toInt + i3_85_z)).toNat by omega, show j = (i3_85_z).toNat by omega]; omega⟩) (fun h => absurd h (by decide)) (lv_sub hl [1, 0, 2, 3] rfl)
      exact L_83 _ _ _ _ (0) (0) (0) (0) rfl hw ti_0 (by omega) ti_0 (by omega) (fun h => absurd h (by decide)) (fun _ h => by have h1 := h.1; have h2 := h.2.1; omega) (lv_sub hl [1, 0, 2, 3] rfl)
    · have z_b_133 := trivial
      have k_134 : (v_15.toInt - v_11.toInt) = rr_76.toInt := z_eq z_75 rfl c_80
      refine lv_iconst (v := 1) X.1 X.2.1 dX12_is_23 (by decide) ?_
      refine lv_goto (tgt := 28) X.1 X.2.1 dX12_is_24 (by decide) ?_
      refine lv_istore_n (lv' := [(2, .int 1), (0, .ref x), (1, .ref (κ (100 + i)))]) X.1 X.2.1 dX12_is_28 rfl hl (by decide) rfl (fun ls hl => ?_)
      refine lv_iconst (v := 0) X.1 X.2.1 dX12_is_29 (by decide) ?_
      refine lv_istore_n (lv' := [(3, .int 0), (2, .int 1), (0, .ref x), (1, .ref (κ (100 + i)))]) X.1 X.2.1 dX12_is_30 rfl hl (by decide) rfl (fun ls hl => ?_)
      have L_135 : ∀ (n : Nat) (H : Heap) (locs : List Loc) (ls : Array Slot) (i2_136 : Int32) (i2_136_z : Int) (i3_137 : Int32) (i3_137_z : Int), ((64 - i3_137_z).toNat = n) → (Wd G cy (AS S s.heap.size) s.heap S H locs) → (i2_136.toInt = i2_136_z) → (0 ≤ i2_136_z ∧ i2_136_z ≤ 1) → (i3_137.toInt = i3_137_z) → (0 ≤ i3_137_z ∧ i3_137_z ≤ 64) → ((i2_136_z = 1 → (pI S 1230 x).toInt = 0 ∧ t0.2.2 - t0.2.1 = strN i ∧ ∀ j : Nat, (j : Int) < i3_137_z → rB S x (t0.2.1 + j) = (strB i j).toInt)) → ((i2_136_z = 0 → ¬ ((pI S 1230 x).toInt = 0 ∧ isR (rB S x) t0 i))) → (lv_has ls 4 [(2, .int (i2_136)), (3, .int (i3_137)), (0, .ref x), (1, .ref (κ (100 + i)))]) → W p l e ({ frames := 5, cells := 0, slots := 0, locals := 240 }) s m [.ref x, .ref (κ (100 + i))].toArray below meth c H locs 0 0 QQ (F0 m 31 ls []) := by
        intro n
        induction n using Nat.strongRecOn with
        | ind n ih_L_135 =>
        intro H locs ls i2_136 i2_136_z i3_137 i3_137_z hn hw hz_i2_136 hr_i2_136 hz_i3_137 hr_i3_137 iv_138 iv_139 hl
        have rg_140 : (-2147483648) ≤ i2_136_z ∧ i2_136_z ≤ 2147483647 := by rw [← hz_i2_136]; exact ⟨z_lo _, z_hi _⟩
        have rg_141 : (-2147483648) ≤ i3_137_z ∧ i3_137_z ≤ 2147483647 := by rw [← hz_i3_137]; exact ⟨z_lo _, z_hi _⟩
        refine lv_iload_n X.1 X.2.1 dX12_is_31 rfl (lv_at hl 1 rfl) ?_
        refine lv_aload_n X.1 X.2.1 dX12_is_32 rfl (lv_at hl 3 rfl) ?_
        refine k_i (rm := { frames := 2, cells := 0, slots := 0, locals := 96 }) (av := [.ref (κ (100 + i))]) X hw (va_runV (As := []) (rest := [.int (i3_137)]) (cfix X) (k_J0_length_8abf5 l G cy κ S _ i hG hi_i) (cwV 0 X.2.2.2.1 gX12_is_J0_length_8abf5 rfl rfl rfl (by decide +kernel) ⟨Nat.le_of_ble_eq_true rfl, Nat.le_of_ble_eq_true rfl⟩) (pre_VS X hw _ i hi_i) rfl rfl hl.1 rfl (lv_room (Nat.le_of_ble_eq_true rfl)) dX12_is_33 ⟨Nat.le_of_ble_eq_true rfl, Nat.le_of_ble_eq_true rfl⟩) 0 0 (Nat.le_of_ble_eq_true rfl) (Nat.le_of_ble_eq_true rfl) (fun rr_142 S_143 H locs hp hw hfr hnw => ?_)
        obtain ⟨e2, hp⟩ := hp
        subst e2
        obtain ⟨f_144, f_145⟩ := hp
        refine lv_icmp_ge (tgt := 73) X.1 X.2.1 dX12_is_36 (by decide) (fun c_146 => ?_) (fun c_146 => ?_)
        · have z_b_147 := trivial
          have k_148 : i3_137_z ≥ rr_142.toInt := z_le rfl hz_i3_137 c_146
          refine lv_iload_n X.1 X.2.1 dX12_is_73 rfl (lv_at hl 0 rfl) ?_
          have hb01 : i2_136 = 0 ∨ i2_136 = 1 := z_01 hz_i2_136 (by omega) (by omega)
          rw [hQQ]
          exact ret_z X hw hr hlocks (Nat.le_of_ble_eq_true rfl) (Nat.le_of_ble_eq_true rfl) (by assumption) ⟨rfl, (by rcases hb01 with h | h; exact Or.inr ⟨iv_139 (by have hq := hz_i2_136; rw [h, ti_0] at hq; omega), h⟩; have hz1 : i2_136_z = 1 := (by have hq := hz_i2_136; rw [h, ti_1] at hq; omega); first | exact Or.inl ⟨⟨(iv_138 hz1).1, (iv_138 hz1).2.1, fun j hj => (iv_138 hz1).2.2 j (by omega)⟩, h⟩ | (exfalso; omega))⟩ dX12_is_74
        · have z_b_149 := trivial
          have k_150 : i3_137_z < rr_142.toInt := z_nle rfl hz_i3_137 c_146
          refine lv_iload_n X.1 X.2.1 dX12_is_39 rfl (lv_at hl 0 rfl) ?_
          refine lv_if_eq (tgt := 73) X.1 X.2.1 dX12_is_40 (by decide) (fun c_151 => ?_) (fun c_151 => ?_)
          · have z_b_152 := trivial
            have k_153 : i2_136_z = 0 := z_eq hz_i2_136 ti_0 c_151
            refine lv_iload_n X.1 X.2.1 dX12_is_73 rfl (lv_at hl 0 rfl) ?_
            have hb01 : i2_136 = 0 ∨ i2_136 = 1 := z_01 hz_i2_136 (by omega) (by omega)
            rw [hQQ]
            exact ret_z X hw hr hlocks (Nat.le_of_ble_eq_true rfl) (Nat.le_of_ble_eq_true rfl) (by assumption) ⟨rfl, (by rcases hb01 with h | h; exact Or.inr ⟨iv_139 (by have hq := hz_i2_136; rw [h, ti_0] at hq; omega), h⟩; have hz1 : i2_136_z = 1 := (by have hq := hz_i2_136; rw [h, ti_1] at hq; omega); first | exact Or.inl ⟨⟨(iv_138 hz1).1, (iv_138 hz1).2.1, fun j hj => (iv_138 hz1).2.2 j (by omega)⟩, h⟩ | (exfalso; omega))⟩ dX12_is_74
          · have z_b_154 := trivial
            have k_155 : i2_136_z ≠ 0 := z_ne hz_i2_136 ti_0 c_151
            refine lv_aload_n X.1 X.2.1 dX12_is_43 rfl (lv_at hl 2 rfl) ?_
            refine lv_aload_n X.1 X.2.1 dX12_is_44 rfl (lv_at hl 2 rfl) ?_
            refine r_getI (g := 1232) (x := v_11) X hw ha_x rfl 32 ev_11 (by decide) rfl inn_X12_is_12 (by decide) (X.2.2.2.1 (.fieldLink RX12 217 "SilkMillModel" "from" "I") (by decide +kernel)) rfl (gv_1232 _ _) dX12_is_45 ?_
            refine lv_iload_n X.1 X.2.1 dX12_is_48 rfl (lv_at hl 1 rfl) ?_
            refine lv_iadd X.1 X.2.1 dX12_is_49 ?_
            refine lv_topi (fun v_156 ev_156 => ?_)
            have z_157 : v_156.toInt = v_11.toInt + i3_137_z := z_add ev_156 rfl hz_i3_137 (by omega) (by omega)
            refine k_i (rm := { frames := 1, cells := 0, slots := 0, locals := 48 }) (av := [.ref x, .int (v_156)]) X hw (va_runV (As := [.int (v_156)]) (rest := []) (cfix X) (k_X12_byteAt2 l G cy κ S _ x (v_156) ((v_11.toInt + i3_137_z)) hG ha_x z_157 (by first | assumption | omega)) (cwV 1 X.2.2.2.1 gX12_is_X12_byteAt rfl rfl rfl (by decide +kernel) ⟨Nat.le_of_ble_eq_true rfl, Nat.le_of_ble_eq_true rfl⟩) (pre_V X hw _ ha_x rfl (by decide) rfl) rfl rfl hl.1 rfl (lv_room (Nat.le_of_ble_eq_true rfl)) dX12_is_50 ⟨Nat.le_of_ble_eq_true rfl, Nat.le_of_ble_eq_true rfl⟩) 0 0 (Nat.le_of_ble_eq_true rfl) (Nat.le_of_ble_eq_true rfl) (fun rr_158 S_159 H locs hp hw hfr hnw => ?_)
            obtain ⟨e2, hp⟩ := hp
            subst e2
            obtain ⟨by_160, by_161, by_162, by_163, by_164⟩ := hp
            obtain ⟨v_165, ev_165⟩ : ∃ v, pI S 1228 x = v := ⟨_, rfl⟩
            have rg_166 := gI_12_1228 hG ha_x; rw [ev_165] at rg_166
            have pz_167 : (pI S 1228 x).toInt = v_165.toInt := by rw [ev_165]
            have pz_168 : (pI S 1228 x).toInt = v_165.toInt := (congrArg Int32.toInt ev_165).trans rfl
            refine lv_aload_n X.1 X.2.1 dX12_is_53 rfl (lv_at hl 3 rfl) ?_
            refine lv_iload_n X.1 X.2.1 dX12_is_54 rfl (lv_at hl 1 rfl) ?_
            refine k_i (rm := { frames := 4, cells := 0, slots := 0, locals := 192 }) (av := [.ref (κ (100 + i)), .int (i3_137)]) X hw (va_runV (As := [.int (i3_137)]) (rest := [.int (rr_158)]) (cfix X) (k_J0_charAt2 l G cy κ S _ i (i3_137) (i3_137_z) hG hi_i hz_i3_137 (by first | assumption | omega) (by first | assumption | omega)) (cwV 1 X.2.2.2.1 gX12_is_J0_charAt_5068e rfl rfl rfl (by decide +kernel) ⟨Nat.le_of_ble_eq_true rfl, Nat.le_of_ble_eq_true rfl⟩) (pre_VS X hw _ i hi_i) rfl rfl hl.1 rfl (lv_room (Nat.le_of_ble_eq_true rfl)) dX12_is_55 ⟨Nat.le_of_ble_eq_true rfl, Nat.le_of_ble_eq_true rfl⟩) 0 0 (Nat.le_of_ble_eq_true rfl) (Nat.le_of_ble_eq_true rfl) (fun rr_169 S_170 H locs hp hw hfr hnw => ?_)
            obtain ⟨e2, hp⟩ := hp
            subst e2
            obtain ⟨f_171, f_172, f_173⟩ := hp
            refine lv_icmp_ne (tgt := 65) X.1 X.2.1 dX12_is_58 (by decide) (fun c_174 => ?_) (fun c_174 => ?_)
            · have z_b_175 := trivial
              have k_176 : rr_158.toInt ≠ rr_169.toInt := z_ne rfl rfl c_174
              refine lv_iconst (v := 0) X.1 X.2.1 dX12_is_65 (by decide) ?_
              refine lv_istore_n (lv' := [(2, .int 0), (3, .int (i3_137)), (0, .ref x), (1, .ref (κ (100 + i)))]) X.1 X.2.1 dX12_is_66 rfl hl (by decide) rfl (fun ls hl => ?_)
              obtain ⟨x_177, ex_177⟩ : ∃ y : Int32, y = i3_137 + 1 := ⟨_, rfl⟩
              have z_178 : x_177.toInt = i3_137_z + 1 := z_add ex_177 hz_i3_137 ti_1 (by omega) (by omega)
              refine lv_iinc (v := x_177) (lv' := [(3, .int (x_177)), (2, .int 0), (0, .ref x), (1, .ref (κ (100 + i)))]) X.1 X.2.1 dX12_is_67 hl (k := 1) rfl (by rw [ex_177]; rfl) (by decide) rfl (fun ls hl => ?_)
              refine lv_goto (tgt := 31) X.1 X.2.1 dX12_is_70 (by decide) ?_
              exact ih_L_135 _ (by omega) _ _ _ (0) (0) (x_177) (x_177.toInt) rfl hw ti_0 (by omega) rfl (by omega) (fun h => absurd h (by decide)) (fun _ h => by have h2 := h.2.2 (i3_137_z).toNat (by omega); rw [show t0.2.1 + (i3_137_z).toNat = ((v_11.toInt + i3_137_z)).toNat by omega] at h2; omega) (lv_sub hl [1, 0, 2, 3] rfl)
            · have z_b_179 := trivial
              have k_180 : rr_158.toInt = rr_169.toInt := z_eq rfl rfl c_174
              refine lv_iconst (v := 1) X.1 X.2.1 dX12_is_61 (by decide) ?_
              refine lv_goto (tgt := 66) X.1 X.2.1 dX12_is_62 (by decide) ?_
              refine lv_istore_n (lv' := [(2, .int 1), (3, .int (i3_137)), (0, .ref x), (1, .ref (κ (100 + i)))]) X.1 X.2.1 dX12_is_66 rfl hl (by decide) rfl (fun ls hl => ?_)
              obtain ⟨x_181, ex_181⟩ : ∃ y : Int32, y = i3_137 + 1 := ⟨_, rfl⟩
              have z_182 : x_181.toInt = i3_137_z + 1 := z_add ex_181 hz_i3_137 ti_1 (by omega) (by omega)
              refine lv_iinc (v := x_181) (lv' := [(3, .int (x_181)), (2, .int 1), (0, .ref x), (1, .ref (κ (100 + i)))]) X.1 X.2.1 dX12_is_67 hl (k := 1) rfl (by rw [ex_181]; rfl) (by decide) rfl (fun ls hl => ?_)
              refine lv_goto (tgt := 31) X.1 X.2.1 dX12_is_70 (by decide) ?_
              have iq_183 := iv_138 (by omega)
              have sr_184 := strB_rng i (i3_137_z).toNat
              exact ih_L_135 _ (by omega) _ _ _ (1) (1) (x_181) (x_181.toInt) rfl hw ti_1 (by omega) rfl (by omega) (fun _ => ⟨iq_183.1, iq_183.2.1, fun j hj => by rcases (show (j : Int) < i3_137_z ∨ (j : Int) = i3_137_z by omega) with e | e; exact iq_183.2.2 j e; rw [show t0.2.1 + j = ((v_11.toInt + i3_137_z)).toNat by omega, show j = (i3_137_z).toNat by omega]; omega⟩) (fun h => absurd h (by decide)) (lv_sub hl [1, 0, 2, 3] rfl)
      exact L_135 _ _ _ _ (1) (1) (0) (0) rfl hw ti_1 (by omega) ti_0 (by omega) (fun _ => ⟨by omega, by omega, fun j hj => absurd hj (by omega)⟩) (fun h => absurd h (by decide)) (lv_sub hl [1, 0, 2, 3] rfl)
set_option maxHeartbeats 4000000 in
set_option maxRecDepth 100000 in
theorem k_X12_which2 (l : Launch) (G : va_G) (cy : Nat → ClassId) (κ : Nat → Nat) (S : PS) (sz : Nat) (x : Nat) (i : Nat) (t0 : Tk) (hG : GX S) (ha_x : At S x 12) (hi_i : i < 26) (hp_0 : RTok S x t0) (hp_1 : t0.2.1 ≤ t0.2.2) (hp_2 : t0.2.2 ≤ 400) (hp_3 : (pI S 1230 x).toInt = 0) (hp_4 : (i = 17 ∨ i = 22)) : Ci l yX12_which wsX12_which ({ frames := 5, cells := 0, slots := 0, locals := 240 }) G cy κ S sz [.ref x, .ref (κ (100 + i))] (fun (r : Int32) (S9 : PS) => S = S9 ∧ (-1 ≤ r.toInt ∧ r.toInt ≤ 7 ∧ r.toInt = whF (rB S x) t0 (wI i) 0)) := by
  refine ent_m (cc := cX12_which) (maxL := 7) (ret := (some .int)) (by decide) rfl (Nat.le_of_ble_eq_true rfl) ?_
  intro p e s m below meth c ls X hr hlocks hin hw hl hsz
  subst hsz
  have X : Cx p c cX12_which 7 s [.ref x, .ref (κ (100 + i))].toArray wsX12_which RX12 m G cy κ (AS S s.heap.size) := X
  have hl : lv_has ls 7 [(0, .ref x), (1, .ref (κ (100 + i)))] := hl
  generalize hQQ : MQ below _ _ _ _ _ _ = QQ
  replace hQQ := hQQ.symm
  have htk := hp_0
  have htk1 := htk.1
  have htk2 := htk.2.1
  have htk3 := htk.2.2
  obtain ⟨v_1, ev_1⟩ : ∃ v, pI S 1230 x = v := ⟨_, rfl⟩
  have rg_3 := And.intro (z_lo v_1) (z_hi v_1)
  have pz_4 : (pI S 1230 x).toInt = v_1.toInt := by rw [ev_1]
  have pz_5 : (pI S 1230 x).toInt = v_1.toInt := (congrArg Int32.toInt ev_1).trans rfl
  obtain ⟨v_6, ev_6⟩ : ∃ v, pI S 1231 x = v := ⟨_, rfl⟩
  have rg_8 := And.intro (z_lo v_6) (z_hi v_6)
  have pz_9 : (pI S 1231 x).toInt = v_6.toInt := by rw [ev_6]
  have pz_10 : (pI S 1231 x).toInt = v_6.toInt := (congrArg Int32.toInt ev_6).trans rfl
  obtain ⟨v_11, ev_11⟩ : ∃ v, pI S 1232 x = v := ⟨_, rfl⟩
  have rg_12 := gI_12_1232 hG ha_x; rw [ev_11] at rg_12
  have pz_13 : (pI S 1232 x).toInt = v_11.toInt := by rw [ev_11]
  have pz_14 : (pI S 1232 x).toInt = v_11.toInt := (congrArg Int32.toInt ev_11).trans rfl
  obtain ⟨v_15, ev_15⟩ : ∃ v, pI S 1233 x = v := ⟨_, rfl⟩
  have rg_16 := gI_12_1233 hG ha_x; rw [ev_15] at rg_16
  have pz_17 : (pI S 1233 x).toInt = v_15.toInt := by rw [ev_15]
  have pz_18 : (pI S 1233 x).toInt = v_15.toInt := (congrArg Int32.toInt ev_15).trans rfl
  refine lv_iconst (v := 0) X.1 X.2.1 dX12_which_0 (by decide) ?_
  refine lv_istore_n (lv' := [(2, .int 0), (0, .ref x), (1, .ref (κ (100 + i)))]) X.1 X.2.1 dX12_which_1 rfl hl (by decide) rfl (fun ls hl => ?_)
  refine lv_iconst (v := 0) X.1 X.2.1 dX12_which_2 (by decide) ?_
  refine lv_istore_n (lv' := [(3, .int 0), (2, .int 0), (0, .ref x), (1, .ref (κ (100 + i)))]) X.1 X.2.1 dX12_which_3 rfl hl (by decide) rfl (fun ls hl => ?_)
  refine lv_iconst (v := 0) X.1 X.2.1 dX12_which_4 (by decide) ?_
  refine lv_istore (lv' := [(4, .int 0), (3, .int 0), (2, .int 0), (0, .ref x), (1, .ref (κ (100 + i)))]) X.1 X.2.1 dX12_which_5 hl (by decide) rfl (fun ls hl => ?_)
  have L_19 : ∀ (n : Nat) (H : Heap) (locs : List Loc) (ls : Array Slot) (i2_20 : Int32) (i2_20_z : Int) (i3_21 : Int32) (i3_21_z : Int) (i4_22 : Int32) (i4_22_z : Int), ((64 - i4_22_z).toNat = n) → (Wd G cy (AS S s.heap.size) s.heap S H locs) → (i2_20.toInt = i2_20_z) → (0 ≤ i2_20_z ∧ i2_20_z ≤ 64) → (i3_21.toInt = i3_21_z) → (0 ≤ i3_21_z ∧ i3_21_z ≤ 64) → (i4_22.toInt = i4_22_z) → (0 ≤ i4_22_z ∧ i4_22_z ≤ 64) → (WhI (rB S x) t0 i i2_20_z i3_21_z i4_22_z) → (lv_has ls 7 [(2, .int (i2_20)), (3, .int (i3_21)), (4, .int (i4_22)), (0, .ref x), (1, .ref (κ (100 + i)))]) → W p l e ({ frames := 5, cells := 0, slots := 0, locals := 240 }) s m [.ref x, .ref (κ (100 + i))].toArray below meth c H locs 0 0 QQ (F0 m 7 ls []) := by
    intro n
    induction n using Nat.strongRecOn with
    | ind n ih_L_19 =>
    intro H locs ls i2_20 i2_20_z i3_21 i3_21_z i4_22 i4_22_z hn hw hz_i2_20 hr_i2_20 hz_i3_21 hr_i3_21 hz_i4_22 hr_i4_22 iv_23 hl
    have rg_24 : (-2147483648) ≤ i2_20_z ∧ i2_20_z ≤ 2147483647 := by rw [← hz_i2_20]; exact ⟨z_lo _, z_hi _⟩
    have rg_25 : (-2147483648) ≤ i3_21_z ∧ i3_21_z ≤ 2147483647 := by rw [← hz_i3_21]; exact ⟨z_lo _, z_hi _⟩
    have rg_26 : (-2147483648) ≤ i4_22_z ∧ i4_22_z ≤ 2147483647 := by rw [← hz_i4_22]; exact ⟨z_lo _, z_hi _⟩
    refine lv_iload X.1 X.2.1 dX12_which_7 (lv_at hl 2 rfl) ?_
    refine lv_aload_n X.1 X.2.1 dX12_which_9 rfl (lv_at hl 4 rfl) ?_
    refine k_i (rm := { frames := 2, cells := 0, slots := 0, locals := 96 }) (av := [.ref (κ (100 + i))]) X hw (va_runV (As := []) (rest := [.int (i4_22)]) (cfix X) (k_J0_length_8abf5 l G cy κ S _ i hG hi_i) (cwV 0 X.2.2.2.1 gX12_which_J0_length_8abf5 rfl rfl rfl (by decide +kernel) ⟨Nat.le_of_ble_eq_true rfl, Nat.le_of_ble_eq_true rfl⟩) (pre_VS X hw _ i hi_i) rfl rfl hl.1 rfl (lv_room (Nat.le_of_ble_eq_true rfl)) dX12_which_10 ⟨Nat.le_of_ble_eq_true rfl, Nat.le_of_ble_eq_true rfl⟩) 0 0 (Nat.le_of_ble_eq_true rfl) (Nat.le_of_ble_eq_true rfl) (fun rr_27 S_28 H locs hp hw hfr hnw => ?_)
    obtain ⟨e2, hp⟩ := hp
    subst e2
    obtain ⟨f_29, f_30⟩ := hp
    refine lv_icmp_ge (tgt := 141) X.1 X.2.1 dX12_which_13 (by decide) (fun c_31 => ?_) (fun c_31 => ?_)
    · have z_b_32 := trivial
      have k_33 : i4_22_z ≥ rr_27.toInt := z_le rfl hz_i4_22 c_31
      refine lv_iconst (v := (-1)) X.1 X.2.1 dX12_which_141 (by decide) ?_
      rw [hQQ]
      exact ret_i X hw hr hlocks (Nat.le_of_ble_eq_true rfl) (Nat.le_of_ble_eq_true rfl) ⟨rfl, ⟨by decide, by decide, by rw [WhI_end hp_4 iv_23 (by omega)]; decide⟩⟩ dX12_which_142
    · have z_b_34 := trivial
      have k_35 : i4_22_z < rr_27.toInt := z_nle rfl hz_i4_22 c_31
      have wr_36 := WhI_rng hp_4 iv_23 (by omega)
      refine lv_aload_n X.1 X.2.1 dX12_which_16 rfl (lv_at hl 4 rfl) ?_
      refine lv_iload X.1 X.2.1 dX12_which_17 (lv_at hl 2 rfl) ?_
      refine k_i (rm := { frames := 4, cells := 0, slots := 0, locals := 192 }) (av := [.ref (κ (100 + i)), .int (i4_22)]) X hw (va_runV (As := [.int (i4_22)]) (rest := []) (cfix X) (k_J0_charAt2 l G cy κ S _ i (i4_22) (i4_22_z) hG hi_i hz_i4_22 (by first | assumption | omega) (by first | assumption | omega)) (cwV 1 X.2.2.2.1 gX12_which_J0_charAt_5068e rfl rfl rfl (by decide +kernel) ⟨Nat.le_of_ble_eq_true rfl, Nat.le_of_ble_eq_true rfl⟩) (pre_VS X hw _ i hi_i) rfl rfl hl.1 rfl (lv_room (Nat.le_of_ble_eq_true rfl)) dX12_which_19 ⟨Nat.le_of_ble_eq_true rfl, Nat.le_of_ble_eq_true rfl⟩) 0 0 (Nat.le_of_ble_eq_true rfl) (Nat.le_of_ble_eq_true rfl) (fun rr_37 S_38 H locs hp hw hfr hnw => ?_)
      obtain ⟨e2, hp⟩ := hp
      subst e2
      obtain ⟨f_39, f_40, f_41⟩ := hp
      refine lv_bipush (v := 32) X.1 X.2.1 dX12_which_22 (by decide) ?_
      refine lv_icmp_eq (tgt := 30) X.1 X.2.1 dX12_which_24 (by decide) (fun c_42 => ?_) (fun c_42 => ?_)
      · have z_b_43 := trivial
        have k_44 : rr_37.toInt = 32 := z_eq rfl ti_32 c_42
        have ws_45 : (strB i (i4_22_z).toNat).toInt = 32 := by omega
        have wk_46 := WhI_sp hp_4 iv_23 (by omega) ws_45
        refine lv_aload_n X.1 X.2.1 dX12_which_30 rfl (lv_at hl 3 rfl) ?_
        refine r_getI (g := 1231) (x := v_6) X hw ha_x rfl 31 ev_6 (by decide) rfl inn_X12_which_12 (by decide) (X.2.2.2.1 (.fieldLink RX12 223 "SilkMillModel" "kind" "I") (by decide +kernel)) rfl (gv_1231 _ _) dX12_which_31 ?_
        refine lv_iconst (v := 1) X.1 X.2.1 dX12_which_34 (by decide) ?_
        refine lv_icmp_ne (tgt := 65) X.1 X.2.1 dX12_which_35 (by decide) (fun c_47 => ?_) (fun c_47 => ?_)
        · have z_b_48 := trivial
          have k_49 : v_6.toInt ≠ 1 := z_ne rfl ti_1 c_47
          refine lv_iconst (v := 0) X.1 X.2.1 dX12_which_65 (by decide) ?_
          refine lv_istore (lv' := [(5, .int 0), (2, .int (i2_20)), (3, .int (i3_21)), (4, .int (i4_22)), (0, .ref x), (1, .ref (κ (100 + i)))]) X.1 X.2.1 dX12_which_66 hl (by decide) rfl (fun ls hl => ?_)
          refine lv_iconst (v := 0) X.1 X.2.1 dX12_which_68 (by decide) ?_
          refine lv_istore (lv' := [(6, .int 0), (5, .int 0), (2, .int (i2_20)), (3, .int (i3_21)), (4, .int (i4_22)), (0, .ref x), (1, .ref (κ (100 + i)))]) X.1 X.2.1 dX12_which_69 hl (by decide) rfl (fun ls hl => ?_)
          have L_50 : ∀ (n : Nat) (H : Heap) (locs : List Loc) (ls : Array Slot) (i5_51 : Int32) (i5_51_z : Int) (i6_52 : Int32) (i6_52_z : Int), ((64 - i6_52_z).toNat = n) → (Wd G cy (AS S s.heap.size) s.heap S H locs) → (i5_51.toInt = i5_51_z) → (0 ≤ i5_51_z ∧ i5_51_z ≤ 1) → (i6_52.toInt = i6_52_z) → (0 ≤ i6_52_z ∧ i6_52_z ≤ 64) → ((i5_51_z = 1 → (pI S 1231 x).toInt = 1 ∧ (t0.2.2 : Int) - (t0.2.1 : Int) = i4_22_z - i3_21_z ∧ ∀ j : Nat, (j : Int) < i6_52_z → rB S x (t0.2.1 + j) = (strB i ((i3_21_z).toNat + j)).toInt)) → ((i5_51_z = 0 → ¬ isT1 (rB S x) t0 (wW i (i2_20_z).toNat))) → (lv_has ls 7 [(5, .int (i5_51)), (6, .int (i6_52)), (2, .int (i2_20)), (3, .int (i3_21)), (4, .int (i4_22)), (0, .ref x), (1, .ref (κ (100 + i)))]) → W p l e ({ frames := 5, cells := 0, slots := 0, locals := 240 }) s m [.ref x, .ref (κ (100 + i))].toArray below meth c H locs 0 0 QQ (F0 m 71 ls []) := by
            intro n
            induction n using Nat.strongRecOn with
            | ind n ih_L_50 =>
            intro H locs ls i5_51 i5_51_z i6_52 i6_52_z hn hw hz_i5_51 hr_i5_51 hz_i6_52 hr_i6_52 iv_53 iv_54 hl
            have rg_55 : (-2147483648) ≤ i5_51_z ∧ i5_51_z ≤ 2147483647 := by rw [← hz_i5_51]; exact ⟨z_lo _, z_hi _⟩
            have rg_56 : (-2147483648) ≤ i6_52_z ∧ i6_52_z ≤ 2147483647 := by rw [← hz_i6_52]; exact ⟨z_lo _, z_hi _⟩
            refine lv_iload X.1 X.2.1 dX12_which_71 (lv_at hl 1 rfl) ?_
            refine lv_iload X.1 X.2.1 dX12_which_73 (lv_at hl 4 rfl) ?_
            refine lv_iload_n X.1 X.2.1 dX12_which_75 rfl (lv_at hl 3 rfl) ?_
            refine lv_isub X.1 X.2.1 dX12_which_76 ?_
            refine lv_topi (fun v_57 ev_57 => ?_)
            have z_58 : v_57.toInt = i4_22_z - i3_21_z := z_sub ev_57 hz_i4_22 hz_i3_21 (by omega) (by omega)
            refine lv_icmp_ge (tgt := 120) X.1 X.2.1 dX12_which_77 (by decide) (fun c_59 => ?_) (fun c_59 => ?_)
            · have z_b_60 := trivial
              have k_61 : i6_52_z ≥ (i4_22_z - i3_21_z) := z_le z_58 hz_i6_52 c_59
              refine lv_iload X.1 X.2.1 dX12_which_120 (lv_at hl 0 rfl) ?_
              refine lv_if_eq (tgt := 127) X.1 X.2.1 dX12_which_122 (by decide) (fun c_62 => ?_) (fun c_62 => ?_)
              · have z_b_63 := trivial
                have k_64 : i5_51_z = 0 := z_eq hz_i5_51 ti_0 c_62
                have wn_65 := WhI_nx hp_4 iv_23 (by omega) ws_45 (iv_54 (by omega))
                obtain ⟨x_66, ex_66⟩ : ∃ y : Int32, y = i2_20 + 1 := ⟨_, rfl⟩
                have z_67 : x_66.toInt = i2_20_z + 1 := z_add ex_66 hz_i2_20 ti_1 (by omega) (by omega)
                refine lv_iinc (v := x_66) (lv' := [(2, .int (x_66)), (5, .int (i5_51)), (6, .int (i6_52)), (3, .int (i3_21)), (4, .int (i4_22)), (0, .ref x), (1, .ref (κ (100 + i)))]) X.1 X.2.1 dX12_which_127 hl (k := 2) rfl (by rw [ex_66]; rfl) (by decide) rfl (fun ls hl => ?_)
                refine lv_iload X.1 X.2.1 dX12_which_130 (lv_at hl 4 rfl) ?_
                refine lv_iconst (v := 1) X.1 X.2.1 dX12_which_132 (by decide) ?_
                refine lv_iadd X.1 X.2.1 dX12_which_133 ?_
                refine lv_topi (fun v_68 ev_68 => ?_)
                have z_69 : v_68.toInt = i4_22_z + 1 := z_add ev_68 hz_i4_22 ti_1 (by omega) (by omega)
                refine lv_istore_n (lv' := [(3, .int (v_68)), (2, .int (x_66)), (5, .int (i5_51)), (6, .int (i6_52)), (4, .int (i4_22)), (0, .ref x), (1, .ref (κ (100 + i)))]) X.1 X.2.1 dX12_which_134 rfl hl (by decide) rfl (fun ls hl => ?_)
                obtain ⟨x_70, ex_70⟩ : ∃ y : Int32, y = i4_22 + 1 := ⟨_, rfl⟩
                have z_71 : x_70.toInt = i4_22_z + 1 := z_add ex_70 hz_i4_22 ti_1 (by omega) (by omega)
                refine lv_iinc (v := x_70) (lv' := [(4, .int (x_70)), (3, .int (v_68)), (2, .int (x_66)), (5, .int (i5_51)), (6, .int (i6_52)), (0, .ref x), (1, .ref (κ (100 + i)))]) X.1 X.2.1 dX12_which_135 hl (k := 4) rfl (by rw [ex_70]; rfl) (by decide) rfl (fun ls hl => ?_)
                refine lv_goto (tgt := 7) X.1 X.2.1 dX12_which_138 (by decide) ?_
                exact ih_L_19 _ (by omega) _ _ _ (x_66) (x_66.toInt) (v_68) ((i4_22_z + 1)) (x_70) (x_70.toInt) rfl hw rfl (by omega) z_69 (by omega) rfl (by omega) (by rw [show x_66.toInt = i2_20_z + 1 by omega, show (i4_22_z + 1) = i4_22_z + 1 by omega, show x_70.toInt = i4_22_z + 1 by omega]; exact wn_65) (lv_sub hl [2, 1, 0, 5, 6] rfl)
              · have z_b_72 := trivial
                have k_73 : i5_51_z ≠ 0 := z_ne hz_i5_51 ti_0 c_62
                refine lv_iload_n X.1 X.2.1 dX12_which_125 rfl (lv_at hl 2 rfl) ?_
                have iq_74 := iv_53 (by omega)
                have hy : isT1 (rB S x) t0 (wW i (i2_20_z).toNat) := (wh_same hp_4 wr_36.2.2.1).mp ⟨by omega, by omega, fun j hj => by rw [show wS i (i2_20_z).toNat = (i3_21_z).toNat by omega]; exact iq_74.2.2 j (by omega)⟩
                rw [hQQ]
                exact ret_i X hw hr hlocks (Nat.le_of_ble_eq_true rfl) (Nat.le_of_ble_eq_true rfl) ⟨rfl, ⟨by rw [hz_i2_20]; omega, by rw [hz_i2_20]; omega, by rw [hz_i2_20]; exact WhI_yes hp_4 iv_23 (by omega) hy⟩⟩ dX12_which_126
            · have z_b_75 := trivial
              have k_76 : i6_52_z < (i4_22_z - i3_21_z) := z_nle z_58 hz_i6_52 c_59
              refine lv_iload X.1 X.2.1 dX12_which_80 (lv_at hl 0 rfl) ?_
              refine lv_if_eq (tgt := 120) X.1 X.2.1 dX12_which_82 (by decide) (fun c_77 => ?_) (fun c_77 => ?_)
              · have z_b_78 := trivial
                have k_79 : i5_51_z = 0 := z_eq hz_i5_51 ti_0 c_77
                refine lv_iload X.1 X.2.1 dX12_which_120 (lv_at hl 0 rfl) ?_
                refine lv_if_eq (tgt := 127) X.1 X.2.1 dX12_which_122 (by decide) (fun c_80 => ?_) (fun c_80 => ?_)
                · have z_b_81 := trivial
                  have k_82 : i5_51_z = 0 := z_eq hz_i5_51 ti_0 c_80
                  have wn_83 := WhI_nx hp_4 iv_23 (by omega) ws_45 (iv_54 (by omega))
                  obtain ⟨x_84, ex_84⟩ : ∃ y : Int32, y = i2_20 + 1 := ⟨_, rfl⟩
                  have z_85 : x_84.toInt = i2_20_z + 1 := z_add ex_84 hz_i2_20 ti_1 (by omega) (by omega)
                  refine lv_iinc (v := x_84) (lv' := [(2, .int (x_84)), (5, .int (i5_51)), (6, .int (i6_52)), (3, .int (i3_21)), (4, .int (i4_22)), (0, .ref x), (1, .ref (κ (100 + i)))]) X.1 X.2.1 dX12_which_127 hl (k := 2) rfl (by rw [ex_84]; rfl) (by decide) rfl (fun ls hl => ?_)
                  refine lv_iload X.1 X.2.1 dX12_which_130 (lv_at hl 4 rfl) ?_
                  refine lv_iconst (v := 1) X.1 X.2.1 dX12_which_132 (by decide) ?_
                  refine lv_iadd X.1 X.2.1 dX12_which_133 ?_
                  refine lv_topi (fun v_86 ev_86 => ?_)
                  have z_87 : v_86.toInt = i4_22_z + 1 := z_add ev_86 hz_i4_22 ti_1 (by omega) (by omega)
                  refine lv_istore_n (lv' := [(3, .int (v_86)), (2, .int (x_84)), (5, .int (i5_51)), (6, .int (i6_52)), (4, .int (i4_22)), (0, .ref x), (1, .ref (κ (100 + i)))]) X.1 X.2.1 dX12_which_134 rfl hl (by decide) rfl (fun ls hl => ?_)
                  obtain ⟨x_88, ex_88⟩ : ∃ y : Int32, y = i4_22 + 1 := ⟨_, rfl⟩
                  have z_89 : x_88.toInt = i4_22_z + 1 := z_add ex_88 hz_i4_22 ti_1 (by omega) (by omega)
                  refine lv_iinc (v := x_88) (lv' := [(4, .int (x_88)), (3, .int (v_86)), (2, .int (x_84)), (5, .int (i5_51)), (6, .int (i6_52)), (0, .ref x), (1, .ref (κ (100 + i)))]) X.1 X.2.1 dX12_which_135 hl (k := 4) rfl (by rw [ex_88]; rfl) (by decide) rfl (fun ls hl => ?_)
                  refine lv_goto (tgt := 7) X.1 X.2.1 dX12_which_138 (by decide) ?_
                  exact ih_L_19 _ (by omega) _ _ _ (x_84) (x_84.toInt) (v_86) ((i4_22_z + 1)) (x_88) (x_88.toInt) rfl hw rfl (by omega) z_87 (by omega) rfl (by omega) (by rw [show x_84.toInt = i2_20_z + 1 by omega, show (i4_22_z + 1) = i4_22_z + 1 by omega, show x_88.toInt = i4_22_z + 1 by omega]; exact wn_83) (lv_sub hl [2, 1, 0, 5, 6] rfl)
                · have z_b_90 := trivial
                  have k_91 : i5_51_z ≠ 0 := z_ne hz_i5_51 ti_0 c_80
                  refine lv_iload_n X.1 X.2.1 dX12_which_125 rfl (lv_at hl 2 rfl) ?_
                  have iq_92 := iv_53 (by omega)
                  have hy : isT1 (rB S x) t0 (wW i (i2_20_z).toNat) := (wh_same hp_4 wr_36.2.2.1).mp ⟨by omega, by omega, fun j hj => by rw [show wS i (i2_20_z).toNat = (i3_21_z).toNat by omega]; exact iq_92.2.2 j (by omega)⟩
                  rw [hQQ]
                  exact ret_i X hw hr hlocks (Nat.le_of_ble_eq_true rfl) (Nat.le_of_ble_eq_true rfl) ⟨rfl, ⟨by rw [hz_i2_20]; omega, by rw [hz_i2_20]; omega, by rw [hz_i2_20]; exact WhI_yes hp_4 iv_23 (by omega) hy⟩⟩ dX12_which_126
              · have z_b_93 := trivial
                have k_94 : i5_51_z ≠ 0 := z_ne hz_i5_51 ti_0 c_77
                refine lv_aload_n X.1 X.2.1 dX12_which_85 rfl (lv_at hl 5 rfl) ?_
                refine lv_aload_n X.1 X.2.1 dX12_which_86 rfl (lv_at hl 5 rfl) ?_
                refine r_getI (g := 1232) (x := v_11) X hw ha_x rfl 32 ev_11 (by decide) rfl inn_X12_which_12 (by decide) (X.2.2.2.1 (.fieldLink RX12 217 "SilkMillModel" "from" "I") (by decide +kernel)) rfl (gv_1232 _ _) dX12_which_87 ?_
                refine lv_iload X.1 X.2.1 dX12_which_90 (lv_at hl 1 rfl) ?_
                refine lv_iadd X.1 X.2.1 dX12_which_92 ?_
                refine lv_topi (fun v_95 ev_95 => ?_)
                have z_96 : v_95.toInt = v_11.toInt + i6_52_z := z_add ev_95 rfl hz_i6_52 (by omega) (by omega)
                refine k_i (rm := { frames := 1, cells := 0, slots := 0, locals := 48 }) (av := [.ref x, .int (v_95)]) X hw (va_runV (As := [.int (v_95)]) (rest := []) (cfix X) (k_X12_byteAt2 l G cy κ S _ x (v_95) ((v_11.toInt + i6_52_z)) hG ha_x z_96 (by first | assumption | omega)) (cwV 1 X.2.2.2.1 gX12_which_X12_byteAt rfl rfl rfl (by decide +kernel) ⟨Nat.le_of_ble_eq_true rfl, Nat.le_of_ble_eq_true rfl⟩) (pre_V X hw _ ha_x rfl (by decide) rfl) rfl rfl hl.1 rfl (lv_room (Nat.le_of_ble_eq_true rfl)) dX12_which_93 ⟨Nat.le_of_ble_eq_true rfl, Nat.le_of_ble_eq_true rfl⟩) 0 0 (Nat.le_of_ble_eq_true rfl) (Nat.le_of_ble_eq_true rfl) (fun rr_97 S_98 H locs hp hw hfr hnw => ?_)
                obtain ⟨e2, hp⟩ := hp
                subst e2
                obtain ⟨by_99, by_100, by_101, by_102, by_103⟩ := hp
                obtain ⟨v_104, ev_104⟩ : ∃ v, pI S 1228 x = v := ⟨_, rfl⟩
                have rg_105 := gI_12_1228 hG ha_x; rw [ev_104] at rg_105
                have pz_106 : (pI S 1228 x).toInt = v_104.toInt := by rw [ev_104]
                have pz_107 : (pI S 1228 x).toInt = v_104.toInt := (congrArg Int32.toInt ev_104).trans rfl
                refine lv_aload_n X.1 X.2.1 dX12_which_96 rfl (lv_at hl 6 rfl) ?_
                refine lv_iload_n X.1 X.2.1 dX12_which_97 rfl (lv_at hl 3 rfl) ?_
                refine lv_iload X.1 X.2.1 dX12_which_98 (lv_at hl 1 rfl) ?_
                refine lv_iadd X.1 X.2.1 dX12_which_100 ?_
                refine lv_topi (fun v_108 ev_108 => ?_)
                have z_109 : v_108.toInt = i3_21_z + i6_52_z := z_add ev_108 hz_i3_21 hz_i6_52 (by omega) (by omega)
                refine k_i (rm := { frames := 4, cells := 0, slots := 0, locals := 192 }) (av := [.ref (κ (100 + i)), .int (v_108)]) X hw (va_runV (As := [.int (v_108)]) (rest := [.int (rr_97)]) (cfix X) (k_J0_charAt2 l G cy κ S _ i (v_108) ((i3_21_z + i6_52_z)) hG hi_i z_109 (by first | assumption | omega) (by first | assumption | omega)) (cwV 1 X.2.2.2.1 gX12_which_J0_charAt_5068e rfl rfl rfl (by decide +kernel) ⟨Nat.le_of_ble_eq_true rfl, Nat.le_of_ble_eq_true rfl⟩) (pre_VS X hw _ i hi_i) rfl rfl hl.1 rfl (lv_room (Nat.le_of_ble_eq_true rfl)) dX12_which_101 ⟨Nat.le_of_ble_eq_true rfl, Nat.le_of_ble_eq_true rfl⟩) 0 0 (Nat.le_of_ble_eq_true rfl) (Nat.le_of_ble_eq_true rfl) (fun rr_110 S_111 H locs hp hw hfr hnw => ?_)
                obtain ⟨e2, hp⟩ := hp
                subst e2
                obtain ⟨f_112, f_113, f_114⟩ := hp
                refine lv_icmp_ne (tgt := 111) X.1 X.2.1 dX12_which_104 (by decide) (fun c_115 => ?_) (fun c_115 => ?_)
                · have z_b_116 := trivial
                  have k_117 : rr_97.toInt ≠ rr_110.toInt := z_ne rfl rfl c_115
                  refine lv_iconst (v := 0) X.1 X.2.1 dX12_which_111 (by decide) ?_
                  refine lv_istore (lv' := [(5, .int 0), (6, .int (i6_52)), (2, .int (i2_20)), (3, .int (i3_21)), (4, .int (i4_22)), (0, .ref x), (1, .ref (κ (100 + i)))]) X.1 X.2.1 dX12_which_112 hl (by decide) rfl (fun ls hl => ?_)
                  obtain ⟨x_118, ex_118⟩ : ∃ y : Int32, y = i6_52 + 1 := ⟨_, rfl⟩
                  have z_119 : x_118.toInt = i6_52_z + 1 := z_add ex_118 hz_i6_52 ti_1 (by omega) (by omega)
                  refine lv_iinc (v := x_118) (lv' := [(6, .int (x_118)), (5, .int 0), (2, .int (i2_20)), (3, .int (i3_21)), (4, .int (i4_22)), (0, .ref x), (1, .ref (κ (100 + i)))]) X.1 X.2.1 dX12_which_114 hl (k := 1) rfl (by rw [ex_118]; rfl) (by decide) rfl (fun ls hl => ?_)
                  refine lv_goto (tgt := 71) X.1 X.2.1 dX12_which_117 (by decide) ?_
                  exact ih_L_50 _ (by omega) _ _ _ (0) (0) (x_118) (x_118.toInt) rfl hw ti_0 (by omega) rfl (by omega) (fun h => absurd h (by decide)) (fun _ h => by have h2 := ((wh_same hp_4 wr_36.2.2.1).mpr h).2.2 (i6_52_z).toNat (by omega); rw [show t0.2.1 + (i6_52_z).toNat = ((v_11.toInt + i6_52_z)).toNat by omega, show wS i (i2_20_z).toNat + (i6_52_z).toNat = ((i3_21_z + i6_52_z)).toNat by omega] at h2; omega) (lv_sub hl [1, 0, 2, 3, 4, 5, 6] rfl)
                · have z_b_120 := trivial
                  have k_121 : rr_97.toInt = rr_110.toInt := z_eq rfl rfl c_115
                  refine lv_iconst (v := 1) X.1 X.2.1 dX12_which_107 (by decide) ?_
                  refine lv_goto (tgt := 112) X.1 X.2.1 dX12_which_108 (by decide) ?_
                  refine lv_istore (lv' := [(5, .int 1), (6, .int (i6_52)), (2, .int (i2_20)), (3, .int (i3_21)), (4, .int (i4_22)), (0, .ref x), (1, .ref (κ (100 + i)))]) X.1 X.2.1 dX12_which_112 hl (by decide) rfl (fun ls hl => ?_)
                  obtain ⟨x_122, ex_122⟩ : ∃ y : Int32, y = i6_52 + 1 := ⟨_, rfl⟩
                  have z_123 : x_122.toInt = i6_52_z + 1 := z_add ex_122 hz_i6_52 ti_1 (by omega) (by omega)
                  refine lv_iinc (v := x_122) (lv' := [(6, .int (x_122)), (5, .int 1), (2, .int (i2_20)), (3, .int (i3_21)), (4, .int (i4_22)), (0, .ref x), (1, .ref (κ (100 + i)))]) X.1 X.2.1 dX12_which_114 hl (k := 1) rfl (by rw [ex_122]; rfl) (by decide) rfl (fun ls hl => ?_)
                  refine lv_goto (tgt := 71) X.1 X.2.1 dX12_which_117 (by decide) ?_
                  have iq_124 := iv_53 (by omega)
                  have sr_125 := strB_rng i ((i3_21_z + i6_52_z)).toNat
                  exact ih_L_50 _ (by omega) _ _ _ (1) (1) (x_122) (x_122.toInt) rfl hw ti_1 (by omega) rfl (by omega) (fun _ => ⟨iq_124.1, iq_124.2.1, fun j hj => by rcases (show (j : Int) < i6_52_z ∨ (j : Int) = i6_52_z by omega) with e | e; exact iq_124.2.2 j e; rw [show t0.2.1 + j = ((v_11.toInt + i6_52_z)).toNat by omega, show (i3_21_z).toNat + j = ((i3_21_z + i6_52_z)).toNat by omega]; omega⟩) (fun h => absurd h (by decide)) (lv_sub hl [1, 0, 2, 3, 4, 5, 6] rfl)
          exact L_50 _ _ _ _ (0) (0) (0) (0) rfl hw ti_0 (by omega) ti_0 (by omega) (fun h => absurd h (by decide)) (fun _ h => by have h1 := h.1; have h2 := h.2.1; omega) (lv_sub hl [1, 0, 2, 3, 4, 5, 6] rfl)
        · have z_b_126 := trivial
          have k_127 : v_6.toInt = 1 := z_eq rfl ti_1 c_47
          refine lv_aload_n X.1 X.2.1 dX12_which_38 rfl (lv_at hl 3 rfl) ?_
          refine r_getI (g := 1230) (x := v_1) X hw ha_x rfl 30 ev_1 (by decide) rfl inn_X12_which_12 (by decide) (X.2.2.2.1 (.fieldLink RX12 229 "SilkMillModel" "faultKind" "I") (by decide +kernel)) rfl (gv_1230 _ _) dX12_which_39 ?_
          refine lv_if_ne (tgt := 65) X.1 X.2.1 dX12_which_42 (by decide) (fun c_128 => ?_) (fun c_128 => ?_)
          · have z_b_129 := trivial
            have k_130 : v_1.toInt ≠ 0 := z_ne rfl ti_0 c_128
            refine lv_iconst (v := 0) X.1 X.2.1 dX12_which_65 (by decide) ?_
            refine lv_istore (lv' := [(5, .int 0), (2, .int (i2_20)), (3, .int (i3_21)), (4, .int (i4_22)), (0, .ref x), (1, .ref (κ (100 + i)))]) X.1 X.2.1 dX12_which_66 hl (by decide) rfl (fun ls hl => ?_)
            refine lv_iconst (v := 0) X.1 X.2.1 dX12_which_68 (by decide) ?_
            refine lv_istore (lv' := [(6, .int 0), (5, .int 0), (2, .int (i2_20)), (3, .int (i3_21)), (4, .int (i4_22)), (0, .ref x), (1, .ref (κ (100 + i)))]) X.1 X.2.1 dX12_which_69 hl (by decide) rfl (fun ls hl => ?_)
            have L_131 : ∀ (n : Nat) (H : Heap) (locs : List Loc) (ls : Array Slot) (i5_132 : Int32) (i5_132_z : Int) (i6_133 : Int32) (i6_133_z : Int), ((64 - i6_133_z).toNat = n) → (Wd G cy (AS S s.heap.size) s.heap S H locs) → (i5_132.toInt = i5_132_z) → (0 ≤ i5_132_z ∧ i5_132_z ≤ 1) → (i6_133.toInt = i6_133_z) → (0 ≤ i6_133_z ∧ i6_133_z ≤ 64) → ((i5_132_z = 1 → (pI S 1231 x).toInt = 1 ∧ (t0.2.2 : Int) - (t0.2.1 : Int) = i4_22_z - i3_21_z ∧ ∀ j : Nat, (j : Int) < i6_133_z → rB S x (t0.2.1 + j) = (strB i ((i3_21_z).toNat + j)).toInt)) → ((i5_132_z = 0 → ¬ isT1 (rB S x) t0 (wW i (i2_20_z).toNat))) → (lv_has ls 7 [(5, .int (i5_132)), (6, .int (i6_133)), (2, .int (i2_20)), (3, .int (i3_21)), (4, .int (i4_22)), (0, .ref x), (1, .ref (κ (100 + i)))]) → W p l e ({ frames := 5, cells := 0, slots := 0, locals := 240 }) s m [.ref x, .ref (κ (100 + i))].toArray below meth c H locs 0 0 QQ (F0 m 71 ls []) := by
              intro n
              induction n using Nat.strongRecOn with
              | ind n ih_L_131 =>
              intro H locs ls i5_132 i5_132_z i6_133 i6_133_z hn hw hz_i5_132 hr_i5_132 hz_i6_133 hr_i6_133 iv_134 iv_135 hl
              have rg_136 : (-2147483648) ≤ i5_132_z ∧ i5_132_z ≤ 2147483647 := by rw [← hz_i5_132]; exact ⟨z_lo _, z_hi _⟩
              have rg_137 : (-2147483648) ≤ i6_133_z ∧ i6_133_z ≤ 2147483647 := by rw [← hz_i6_133]; exact ⟨z_lo _, z_hi _⟩
              refine lv_iload X.1 X.2.1 dX12_which_71 (lv_at hl 1 rfl) ?_
              refine lv_iload X.1 X.2.1 dX12_which_73 (lv_at hl 4 rfl) ?_
              refine lv_iload_n X.1 X.2.1 dX12_which_75 rfl (lv_at hl 3 rfl) ?_
              refine lv_isub X.1 X.2.1 dX12_which_76 ?_
              refine lv_topi (fun v_138 ev_138 => ?_)
              have z_139 : v_138.toInt = i4_22_z - i3_21_z := z_sub ev_138 hz_i4_22 hz_i3_21 (by omega) (by omega)
              refine lv_icmp_ge (tgt := 120) X.1 X.2.1 dX12_which_77 (by decide) (fun c_140 => ?_) (fun c_140 => ?_)
              · have z_b_141 := trivial
                have k_142 : i6_133_z ≥ (i4_22_z - i3_21_z) := z_le z_139 hz_i6_133 c_140
                refine lv_iload X.1 X.2.1 dX12_which_120 (lv_at hl 0 rfl) ?_
                refine lv_if_eq (tgt := 127) X.1 X.2.1 dX12_which_122 (by decide) (fun c_143 => ?_) (fun c_143 => ?_)
                · have z_b_144 := trivial
                  have k_145 : i5_132_z = 0 := z_eq hz_i5_132 ti_0 c_143
                  have wn_146 := WhI_nx hp_4 iv_23 (by omega) ws_45 (iv_135 (by omega))
                  obtain ⟨x_147, ex_147⟩ : ∃ y : Int32, y = i2_20 + 1 := ⟨_, rfl⟩
                  have z_148 : x_147.toInt = i2_20_z + 1 := z_add ex_147 hz_i2_20 ti_1 (by omega) (by omega)
                  refine lv_iinc (v := x_147) (lv' := [(2, .int (x_147)), (5, .int (i5_132)), (6, .int (i6_133)), (3, .int (i3_21)), (4, .int (i4_22)), (0, .ref x), (1, .ref (κ (100 + i)))]) X.1 X.2.1 dX12_which_127 hl (k := 2) rfl (by rw [ex_147]; rfl) (by decide) rfl (fun ls hl => ?_)
                  refine lv_iload X.1 X.2.1 dX12_which_130 (lv_at hl 4 rfl) ?_
                  refine lv_iconst (v := 1) X.1 X.2.1 dX12_which_132 (by decide) ?_
                  refine lv_iadd X.1 X.2.1 dX12_which_133 ?_
                  refine lv_topi (fun v_149 ev_149 => ?_)
                  have z_150 : v_149.toInt = i4_22_z + 1 := z_add ev_149 hz_i4_22 ti_1 (by omega) (by omega)
                  refine lv_istore_n (lv' := [(3, .int (v_149)), (2, .int (x_147)), (5, .int (i5_132)), (6, .int (i6_133)), (4, .int (i4_22)), (0, .ref x), (1, .ref (κ (100 + i)))]) X.1 X.2.1 dX12_which_134 rfl hl (by decide) rfl (fun ls hl => ?_)
                  obtain ⟨x_151, ex_151⟩ : ∃ y : Int32, y = i4_22 + 1 := ⟨_, rfl⟩
                  have z_152 : x_151.toInt = i4_22_z + 1 := z_add ex_151 hz_i4_22 ti_1 (by omega) (by omega)
                  refine lv_iinc (v := x_151) (lv' := [(4, .int (x_151)), (3, .int (v_149)), (2, .int (x_147)), (5, .int (i5_132)), (6, .int (i6_133)), (0, .ref x), (1, .ref (κ (100 + i)))]) X.1 X.2.1 dX12_which_135 hl (k := 4) rfl (by rw [ex_151]; rfl) (by decide) rfl (fun ls hl => ?_)
                  refine lv_goto (tgt := 7) X.1 X.2.1 dX12_which_138 (by decide) ?_
                  exact ih_L_19 _ (by omega) _ _ _ (x_147) (x_147.toInt) (v_149) ((i4_22_z + 1)) (x_151) (x_151.toInt) rfl hw rfl (by omega) z_150 (by omega) rfl (by omega) (by rw [show x_147.toInt = i2_20_z + 1 by omega, show (i4_22_z + 1) = i4_22_z + 1 by omega, show x_151.toInt = i4_22_z + 1 by omega]; exact wn_146) (lv_sub hl [2, 1, 0, 5, 6] rfl)
                · have z_b_153 := trivial
                  have k_154 : i5_132_z ≠ 0 := z_ne hz_i5_132 ti_0 c_143
                  refine lv_iload_n X.1 X.2.1 dX12_which_125 rfl (lv_at hl 2 rfl) ?_
                  have iq_155 := iv_134 (by omega)
                  have hy : isT1 (rB S x) t0 (wW i (i2_20_z).toNat) := (wh_same hp_4 wr_36.2.2.1).mp ⟨by omega, by omega, fun j hj => by rw [show wS i (i2_20_z).toNat = (i3_21_z).toNat by omega]; exact iq_155.2.2 j (by omega)⟩
                  rw [hQQ]
                  exact ret_i X hw hr hlocks (Nat.le_of_ble_eq_true rfl) (Nat.le_of_ble_eq_true rfl) ⟨rfl, ⟨by rw [hz_i2_20]; omega, by rw [hz_i2_20]; omega, by rw [hz_i2_20]; exact WhI_yes hp_4 iv_23 (by omega) hy⟩⟩ dX12_which_126
              · have z_b_156 := trivial
                have k_157 : i6_133_z < (i4_22_z - i3_21_z) := z_nle z_139 hz_i6_133 c_140
                refine lv_iload X.1 X.2.1 dX12_which_80 (lv_at hl 0 rfl) ?_
                refine lv_if_eq (tgt := 120) X.1 X.2.1 dX12_which_82 (by decide) (fun c_158 => ?_) (fun c_158 => ?_)
                · have z_b_159 := trivial
                  have k_160 : i5_132_z = 0 := z_eq hz_i5_132 ti_0 c_158
                  refine lv_iload X.1 X.2.1 dX12_which_120 (lv_at hl 0 rfl) ?_
                  refine lv_if_eq (tgt := 127) X.1 X.2.1 dX12_which_122 (by decide) (fun c_161 => ?_) (fun c_161 => ?_)
                  · have z_b_162 := trivial
                    have k_163 : i5_132_z = 0 := z_eq hz_i5_132 ti_0 c_161
                    have wn_164 := WhI_nx hp_4 iv_23 (by omega) ws_45 (iv_135 (by omega))
                    obtain ⟨x_165, ex_165⟩ : ∃ y : Int32, y = i2_20 + 1 := ⟨_, rfl⟩
                    have z_166 : x_165.toInt = i2_20_z + 1 := z_add ex_165 hz_i2_20 ti_1 (by omega) (by omega)
                    refine lv_iinc (v := x_165) (lv' := [(2, .int (x_165)), (5, .int (i5_132)), (6, .int (i6_133)), (3, .int (i3_21)), (4, .int (i4_22)), (0, .ref x), (1, .ref (κ (100 + i)))]) X.1 X.2.1 dX12_which_127 hl (k := 2) rfl (by rw [ex_165]; rfl) (by decide) rfl (fun ls hl => ?_)
                    refine lv_iload X.1 X.2.1 dX12_which_130 (lv_at hl 4 rfl) ?_
                    refine lv_iconst (v := 1) X.1 X.2.1 dX12_which_132 (by decide) ?_
                    refine lv_iadd X.1 X.2.1 dX12_which_133 ?_
                    refine lv_topi (fun v_167 ev_167 => ?_)
                    have z_168 : v_167.toInt = i4_22_z + 1 := z_add ev_167 hz_i4_22 ti_1 (by omega) (by omega)
                    refine lv_istore_n (lv' := [(3, .int (v_167)), (2, .int (x_165)), (5, .int (i5_132)), (6, .int (i6_133)), (4, .int (i4_22)), (0, .ref x), (1, .ref (κ (100 + i)))]) X.1 X.2.1 dX12_which_134 rfl hl (by decide) rfl (fun ls hl => ?_)
                    obtain ⟨x_169, ex_169⟩ : ∃ y : Int32, y = i4_22 + 1 := ⟨_, rfl⟩
                    have z_170 : x_169.toInt = i4_22_z + 1 := z_add ex_169 hz_i4_22 ti_1 (by omega) (by omega)
                    refine lv_iinc (v := x_169) (lv' := [(4, .int (x_169)), (3, .int (v_167)), (2, .int (x_165)), (5, .int (i5_132)), (6, .int (i6_133)), (0, .ref x), (1, .ref (κ (100 + i)))]) X.1 X.2.1 dX12_which_135 hl (k := 4) rfl (by rw [ex_169]; rfl) (by decide) rfl (fun ls hl => ?_)
                    refine lv_goto (tgt := 7) X.1 X.2.1 dX12_which_138 (by decide) ?_
                    exact ih_L_19 _ (by omega) _ _ _ (x_165) (x_165.toInt) (v_167) ((i4_22_z + 1)) (x_169) (x_169.toInt) rfl hw rfl (by omega) z_168 (by omega) rfl (by omega) (by rw [show x_165.toInt = i2_20_z + 1 by omega, show (i4_22_z + 1) = i4_22_z + 1 by omega, show x_169.toInt = i4_22_z + 1 by omega]; exact wn_164) (lv_sub hl [2, 1, 0, 5, 6] rfl)
                  · have z_b_171 := trivial
                    have k_172 : i5_132_z ≠ 0 := z_ne hz_i5_132 ti_0 c_161
                    refine lv_iload_n X.1 X.2.1 dX12_which_125 rfl (lv_at hl 2 rfl) ?_
                    have iq_173 := iv_134 (by omega)
                    have hy : isT1 (rB S x) t0 (wW i (i2_20_z).toNat) := (wh_same hp_4 wr_36.2.2.1).mp ⟨by omega, by omega, fun j hj => by rw [show wS i (i2_20_z).toNat = (i3_21_z).toNat by omega]; exact iq_173.2.2 j (by omega)⟩
                    rw [hQQ]
                    exact ret_i X hw hr hlocks (Nat.le_of_ble_eq_true rfl) (Nat.le_of_ble_eq_true rfl) ⟨rfl, ⟨by rw [hz_i2_20]; omega, by rw [hz_i2_20]; omega, by rw [hz_i2_20]; exact WhI_yes hp_4 iv_23 (by omega) hy⟩⟩ dX12_which_126
                · have z_b_174 := trivial
                  have k_175 : i5_132_z ≠ 0 := z_ne hz_i5_132 ti_0 c_158
                  refine lv_aload_n X.1 X.2.1 dX12_which_85 rfl (lv_at hl 5 rfl) ?_
                  refine lv_aload_n X.1 X.2.1 dX12_which_86 rfl (lv_at hl 5 rfl) ?_
                  refine r_getI (g := 1232) (x := v_11) X hw ha_x rfl 32 ev_11 (by decide) rfl inn_X12_which_12 (by decide) (X.2.2.2.1 (.fieldLink RX12 217 "SilkMillModel" "from" "I") (by decide +kernel)) rfl (gv_1232 _ _) dX12_which_87 ?_
                  refine lv_iload X.1 X.2.1 dX12_which_90 (lv_at hl 1 rfl) ?_
                  refine lv_iadd X.1 X.2.1 dX12_which_92 ?_
                  refine lv_topi (fun v_176 ev_176 => ?_)
                  have z_177 : v_176.toInt = v_11.toInt + i6_133_z := z_add ev_176 rfl hz_i6_133 (by omega) (by omega)
                  refine k_i (rm := { frames := 1, cells := 0, slots := 0, locals := 48 }) (av := [.ref x, .int (v_176)]) X hw (va_runV (As := [.int (v_176)]) (rest := []) (cfix X) (k_X12_byteAt2 l G cy κ S _ x (v_176) ((v_11.toInt + i6_133_z)) hG ha_x z_177 (by first | assumption | omega)) (cwV 1 X.2.2.2.1 gX12_which_X12_byteAt rfl rfl rfl (by decide +kernel) ⟨Nat.le_of_ble_eq_true rfl, Nat.le_of_ble_eq_true rfl⟩) (pre_V X hw _ ha_x rfl (by decide) rfl) rfl rfl hl.1 rfl (lv_room (Nat.le_of_ble_eq_true rfl)) dX12_which_93 ⟨Nat.le_of_ble_eq_true rfl, Nat.le_of_ble_eq_true rfl⟩) 0 0 (Nat.le_of_ble_eq_true rfl) (Nat.le_of_ble_eq_true rfl) (fun rr_178 S_179 H locs hp hw hfr hnw => ?_)
                  obtain ⟨e2, hp⟩ := hp
                  subst e2
                  obtain ⟨by_180, by_181, by_182, by_183, by_184⟩ := hp
                  obtain ⟨v_185, ev_185⟩ : ∃ v, pI S 1228 x = v := ⟨_, rfl⟩
                  have rg_186 := gI_12_1228 hG ha_x; rw [ev_185] at rg_186
                  have pz_187 : (pI S 1228 x).toInt = v_185.toInt := by rw [ev_185]
                  have pz_188 : (pI S 1228 x).toInt = v_185.toInt := (congrArg Int32.toInt ev_185).trans rfl
                  refine lv_aload_n X.1 X.2.1 dX12_which_96 rfl (lv_at hl 6 rfl) ?_
                  refine lv_iload_n X.1 X.2.1 dX12_which_97 rfl (lv_at hl 3 rfl) ?_
                  refine lv_iload X.1 X.2.1 dX12_which_98 (lv_at hl 1 rfl) ?_
                  refine lv_iadd X.1 X.2.1 dX12_which_100 ?_
                  refine lv_topi (fun v_189 ev_189 => ?_)
                  have z_190 : v_189.toInt = i3_21_z + i6_133_z := z_add ev_189 hz_i3_21 hz_i6_133 (by omega) (by omega)
                  refine k_i (rm := { frames := 4, cells := 0, slots := 0, locals := 192 }) (av := [.ref (κ (100 + i)), .int (v_189)]) X hw (va_runV (As := [.int (v_189)]) (rest := [.int (rr_178)]) (cfix X) (k_J0_charAt2 l G cy κ S _ i (v_189) ((i3_21_z + i6_133_z)) hG hi_i z_190 (by first | assumption | omega) (by first | assumption | omega)) (cwV 1 X.2.2.2.1 gX12_which_J0_charAt_5068e rfl rfl rfl (by decide +kernel) ⟨Nat.le_of_ble_eq_true rfl, Nat.le_of_ble_eq_true rfl⟩) (pre_VS X hw _ i hi_i) rfl rfl hl.1 rfl (lv_room (Nat.le_of_ble_eq_true rfl)) dX12_which_101 ⟨Nat.le_of_ble_eq_true rfl, Nat.le_of_ble_eq_true rfl⟩) 0 0 (Nat.le_of_ble_eq_true rfl) (Nat.le_of_ble_eq_true rfl) (fun rr_191 S_192 H locs hp hw hfr hnw => ?_)
                  obtain ⟨e2, hp⟩ := hp
                  subst e2
                  obtain ⟨f_193, f_194, f_195⟩ := hp
                  refine lv_icmp_ne (tgt := 111) X.1 X.2.1 dX12_which_104 (by decide) (fun c_196 => ?_) (fun c_196 => ?_)
                  · have z_b_197 := trivial
                    have k_198 : rr_178.toInt ≠ rr_191.toInt := z_ne rfl rfl c_196
                    refine lv_iconst (v := 0) X.1 X.2.1 dX12_which_111 (by decide) ?_
                    refine lv_istore (lv' := [(5, .int 0), (6, .int (i6_133)), (2, .int (i2_20)), (3, .int (i3_21)), (4, .int (i4_22)), (0, .ref x), (1, .ref (κ (100 + i)))]) X.1 X.2.1 dX12_which_112 hl (by decide) rfl (fun ls hl => ?_)
                    obtain ⟨x_199, ex_199⟩ : ∃ y : Int32, y = i6_133 + 1 := ⟨_, rfl⟩
                    have z_200 : x_199.toInt = i6_133_z + 1 := z_add ex_199 hz_i6_133 ti_1 (by omega) (by omega)
                    refine lv_iinc (v := x_199) (lv' := [(6, .int (x_199)), (5, .int 0), (2, .int (i2_20)), (3, .int (i3_21)), (4, .int (i4_22)), (0, .ref x), (1, .ref (κ (100 + i)))]) X.1 X.2.1 dX12_which_114 hl (k := 1) rfl (by rw [ex_199]; rfl) (by decide) rfl (fun ls hl => ?_)
                    refine lv_goto (tgt := 71) X.1 X.2.1 dX12_which_117 (by decide) ?_
                    exact ih_L_131 _ (by omega) _ _ _ (0) (0) (x_199) (x_199.toInt) rfl hw ti_0 (by omega) rfl (by omega) (fun h => absurd h (by decide)) (fun _ h => by have h2 := ((wh_same hp_4 wr_36.2.2.1).mpr h).2.2 (i6_133_z).toNat (by omega); rw [show t0.2.1 + (i6_133_z).toNat = ((v_11.toInt + i6_133_z)).toNat by omega, show wS i (i2_20_z).toNat + (i6_133_z).toNat = ((i3_21_z + i6_133_z)).toNat by omega] at h2; omega) (lv_sub hl [1, 0, 2, 3, 4, 5, 6] rfl)
                  · have z_b_201 := trivial
                    have k_202 : rr_178.toInt = rr_191.toInt := z_eq rfl rfl c_196
                    refine lv_iconst (v := 1) X.1 X.2.1 dX12_which_107 (by decide) ?_
                    refine lv_goto (tgt := 112) X.1 X.2.1 dX12_which_108 (by decide) ?_
                    refine lv_istore (lv' := [(5, .int 1), (6, .int (i6_133)), (2, .int (i2_20)), (3, .int (i3_21)), (4, .int (i4_22)), (0, .ref x), (1, .ref (κ (100 + i)))]) X.1 X.2.1 dX12_which_112 hl (by decide) rfl (fun ls hl => ?_)
                    obtain ⟨x_203, ex_203⟩ : ∃ y : Int32, y = i6_133 + 1 := ⟨_, rfl⟩
                    have z_204 : x_203.toInt = i6_133_z + 1 := z_add ex_203 hz_i6_133 ti_1 (by omega) (by omega)
                    refine lv_iinc (v := x_203) (lv' := [(6, .int (x_203)), (5, .int 1), (2, .int (i2_20)), (3, .int (i3_21)), (4, .int (i4_22)), (0, .ref x), (1, .ref (κ (100 + i)))]) X.1 X.2.1 dX12_which_114 hl (k := 1) rfl (by rw [ex_203]; rfl) (by decide) rfl (fun ls hl => ?_)
                    refine lv_goto (tgt := 71) X.1 X.2.1 dX12_which_117 (by decide) ?_
                    have iq_205 := iv_134 (by omega)
                    have sr_206 := strB_rng i ((i3_21_z + i6_133_z)).toNat
                    exact ih_L_131 _ (by omega) _ _ _ (1) (1) (x_203) (x_203.toInt) rfl hw ti_1 (by omega) rfl (by omega) (fun _ => ⟨iq_205.1, iq_205.2.1, fun j hj => by rcases (show (j : Int) < i6_133_z ∨ (j : Int) = i6_133_z by omega) with e | e; exact iq_205.2.2 j e; rw [show t0.2.1 + j = ((v_11.toInt + i6_133_z)).toNat by omega, show (i3_21_z).toNat + j = ((i3_21_z + i6_133_z)).toNat by omega]; omega⟩) (fun h => absurd h (by decide)) (lv_sub hl [1, 0, 2, 3, 4, 5, 6] rfl)
            exact L_131 _ _ _ _ (0) (0) (0) (0) rfl hw ti_0 (by omega) ti_0 (by omega) (fun h => absurd h (by decide)) (fun _ h => by have h1 := h.1; have h2 := h.2.1; omega) (lv_sub hl [1, 0, 2, 3, 4, 5, 6] rfl)
          · have z_b_207 := trivial
            have k_208 : v_1.toInt = 0 := z_eq rfl ti_0 c_128
            refine lv_aload_n X.1 X.2.1 dX12_which_45 rfl (lv_at hl 3 rfl) ?_
            refine r_getI (g := 1233) (x := v_15) X hw ha_x rfl 33 ev_15 (by decide) rfl inn_X12_which_12 (by decide) (X.2.2.2.1 (.fieldLink RX12 214 "SilkMillModel" "to" "I") (by decide +kernel)) rfl (gv_1233 _ _) dX12_which_46 ?_
            refine lv_aload_n X.1 X.2.1 dX12_which_49 rfl (lv_at hl 3 rfl) ?_
            refine r_getI (g := 1232) (x := v_11) X hw ha_x rfl 32 ev_11 (by decide) rfl inn_X12_which_12 (by decide) (X.2.2.2.1 (.fieldLink RX12 217 "SilkMillModel" "from" "I") (by decide +kernel)) rfl (gv_1232 _ _) dX12_which_50 ?_
            refine lv_isub X.1 X.2.1 dX12_which_53 ?_
            refine lv_topi (fun v_209 ev_209 => ?_)
            have z_210 : v_209.toInt = v_15.toInt - v_11.toInt := z_sub ev_209 rfl rfl (by omega) (by omega)
            refine lv_iload X.1 X.2.1 dX12_which_54 (lv_at hl 2 rfl) ?_
            refine lv_iload_n X.1 X.2.1 dX12_which_56 rfl (lv_at hl 1 rfl) ?_
            refine lv_isub X.1 X.2.1 dX12_which_57 ?_
            refine lv_topi (fun v_211 ev_211 => ?_)
            have z_212 : v_211.toInt = i4_22_z - i3_21_z := z_sub ev_211 hz_i4_22 hz_i3_21 (by omega) (by omega)
            refine lv_icmp_ne (tgt := 65) X.1 X.2.1 dX12_which_58 (by decide) (fun c_213 => ?_) (fun c_213 => ?_)
            · have z_b_214 := trivial
              have k_215 : (v_15.toInt - v_11.toInt) ≠ (i4_22_z - i3_21_z) := z_ne z_210 z_212 c_213
              refine lv_iconst (v := 0) X.1 X.2.1 dX12_which_65 (by decide) ?_
              refine lv_istore (lv' := [(5, .int 0), (2, .int (i2_20)), (3, .int (i3_21)), (4, .int (i4_22)), (0, .ref x), (1, .ref (κ (100 + i)))]) X.1 X.2.1 dX12_which_66 hl (by decide) rfl (fun ls hl => ?_)
              refine lv_iconst (v := 0) X.1 X.2.1 dX12_which_68 (by decide) ?_
              refine lv_istore (lv' := [(6, .int 0), (5, .int 0), (2, .int (i2_20)), (3, .int (i3_21)), (4, .int (i4_22)), (0, .ref x), (1, .ref (κ (100 + i)))]) X.1 X.2.1 dX12_which_69 hl (by decide) rfl (fun ls hl => ?_)
              have L_216 : ∀ (n : Nat) (H : Heap) (locs : List Loc) (ls : Array Slot) (i5_217 : Int32) (i5_217_z : Int) (i6_218 : Int32) (i6_218_z : Int), ((64 - i6_218_z).toNat = n) → (Wd G cy (AS S s.heap.size) s.heap S H locs) → (i5_217.toInt = i5_217_z) → (0 ≤ i5_217_z ∧ i5_217_z ≤ 1) → (i6_218.toInt = i6_218_z) → (0 ≤ i6_218_z ∧ i6_218_z ≤ 64) → ((i5_217_z = 1 → (pI S 1231 x).toInt = 1 ∧ (t0.2.2 : Int) - (t0.2.1 : Int) = i4_22_z - i3_21_z ∧ ∀ j : Nat, (j : Int) < i6_218_z → rB S x (t0.2.1 + j) = (strB i ((i3_21_z).toNat + j)).toInt)) → ((i5_217_z = 0 → ¬ isT1 (rB S x) t0 (wW i (i2_20_z).toNat))) → (lv_has ls 7 [(5, .int (i5_217)), (6, .int (i6_218)), (2, .int (i2_20)), (3, .int (i3_21)), (4, .int (i4_22)), (0, .ref x), (1, .ref (κ (100 + i)))]) → W p l e ({ frames := 5, cells := 0, slots := 0, locals := 240 }) s m [.ref x, .ref (κ (100 + i))].toArray below meth c H locs 0 0 QQ (F0 m 71 ls []) := by
                intro n
                induction n using Nat.strongRecOn with
                | ind n ih_L_216 =>
                intro H locs ls i5_217 i5_217_z i6_218 i6_218_z hn hw hz_i5_217 hr_i5_217 hz_i6_218 hr_i6_218 iv_219 iv_220 hl
                have rg_221 : (-2147483648) ≤ i5_217_z ∧ i5_217_z ≤ 2147483647 := by rw [← hz_i5_217]; exact ⟨z_lo _, z_hi _⟩
                have rg_222 : (-2147483648) ≤ i6_218_z ∧ i6_218_z ≤ 2147483647 := by rw [← hz_i6_218]; exact ⟨z_lo _, z_hi _⟩
                refine lv_iload X.1 X.2.1 dX12_which_71 (lv_at hl 1 rfl) ?_
                refine lv_iload X.1 X.2.1 dX12_which_73 (lv_at hl 4 rfl) ?_
                refine lv_iload_n X.1 X.2.1 dX12_which_75 rfl (lv_at hl 3 rfl) ?_
                refine lv_isub X.1 X.2.1 dX12_which_76 ?_
                refine lv_topi (fun v_223 ev_223 => ?_)
                have z_224 : v_223.toInt = i4_22_z - i3_21_z := z_sub ev_223 hz_i4_22 hz_i3_21 (by omega) (by omega)
                refine lv_icmp_ge (tgt := 120) X.1 X.2.1 dX12_which_77 (by decide) (fun c_225 => ?_) (fun c_225 => ?_)
                · have z_b_226 := trivial
                  have k_227 : i6_218_z ≥ (i4_22_z - i3_21_z) := z_le z_224 hz_i6_218 c_225
                  refine lv_iload X.1 X.2.1 dX12_which_120 (lv_at hl 0 rfl) ?_
                  refine lv_if_eq (tgt := 127) X.1 X.2.1 dX12_which_122 (by decide) (fun c_228 => ?_) (fun c_228 => ?_)
                  · have z_b_229 := trivial
                    have k_230 : i5_217_z = 0 := z_eq hz_i5_217 ti_0 c_228
                    have wn_231 := WhI_nx hp_4 iv_23 (by omega) ws_45 (iv_220 (by omega))
                    obtain ⟨x_232, ex_232⟩ : ∃ y : Int32, y = i2_20 + 1 := ⟨_, rfl⟩
                    have z_233 : x_232.toInt = i2_20_z + 1 := z_add ex_232 hz_i2_20 ti_1 (by omega) (by omega)
                    refine lv_iinc (v := x_232) (lv' := [(2, .int (x_232)), (5, .int (i5_217)), (6, .int (i6_218)), (3, .int (i3_21)), (4, .int (i4_22)), (0, .ref x), (1, .ref (κ (100 + i)))]) X.1 X.2.1 dX12_which_127 hl (k := 2) rfl (by rw [ex_232]; rfl) (by decide) rfl (fun ls hl => ?_)
                    refine lv_iload X.1 X.2.1 dX12_which_130 (lv_at hl 4 rfl) ?_
                    refine lv_iconst (v := 1) X.1 X.2.1 dX12_which_132 (by decide) ?_
                    refine lv_iadd X.1 X.2.1 dX12_which_133 ?_
                    refine lv_topi (fun v_234 ev_234 => ?_)
                    have z_235 : v_234.toInt = i4_22_z + 1 := z_add ev_234 hz_i4_22 ti_1 (by omega) (by omega)
                    refine lv_istore_n (lv' := [(3, .int (v_234)), (2, .int (x_232)), (5, .int (i5_217)), (6, .int (i6_218)), (4, .int (i4_22)), (0, .ref x), (1, .ref (κ (100 + i)))]) X.1 X.2.1 dX12_which_134 rfl hl (by decide) rfl (fun ls hl => ?_)
                    obtain ⟨x_236, ex_236⟩ : ∃ y : Int32, y = i4_22 + 1 := ⟨_, rfl⟩
                    have z_237 : x_236.toInt = i4_22_z + 1 := z_add ex_236 hz_i4_22 ti_1 (by omega) (by omega)
                    refine lv_iinc (v := x_236) (lv' := [(4, .int (x_236)), (3, .int (v_234)), (2, .int (x_232)), (5, .int (i5_217)), (6, .int (i6_218)), (0, .ref x), (1, .ref (κ (100 + i)))]) X.1 X.2.1 dX12_which_135 hl (k := 4) rfl (by rw [ex_236]; rfl) (by decide) rfl (fun ls hl => ?_)
                    refine lv_goto (tgt := 7) X.1 X.2.1 dX12_which_138 (by decide) ?_
                    exact ih_L_19 _ (by omega) _ _ _ (x_232) (x_232.toInt) (v_234) ((i4_22_z + 1)) (x_236) (x_236.toInt) rfl hw rfl (by omega) z_235 (by omega) rfl (by omega) (by rw [show x_232.toInt = i2_20_z + 1 by omega, show (i4_22_z + 1) = i4_22_z + 1 by omega, show x_236.toInt = i4_22_z + 1 by omega]; exact wn_231) (lv_sub hl [2, 1, 0, 5, 6] rfl)
                  · have z_b_238 := trivial
                    have k_239 : i5_217_z ≠ 0 := z_ne hz_i5_217 ti_0 c_228
                    refine lv_iload_n X.1 X.2.1 dX12_which_125 rfl (lv_at hl 2 rfl) ?_
                    have iq_240 := iv_219 (by omega)
                    have hy : isT1 (rB S x) t0 (wW i (i2_20_z).toNat) := (wh_same hp_4 wr_36.2.2.1).mp ⟨by omega, by omega, fun j hj => by rw [show wS i (i2_20_z).toNat = (i3_21_z).toNat by omega]; exact iq_240.2.2 j (by omega)⟩
                    rw [hQQ]
                    exact ret_i X hw hr hlocks (Nat.le_of_ble_eq_true rfl) (Nat.le_of_ble_eq_true rfl) ⟨rfl, ⟨by rw [hz_i2_20]; omega, by rw [hz_i2_20]; omega, by rw [hz_i2_20]; exact WhI_yes hp_4 iv_23 (by omega) hy⟩⟩ dX12_which_126
                · have z_b_241 := trivial
                  have k_242 : i6_218_z < (i4_22_z - i3_21_z) := z_nle z_224 hz_i6_218 c_225
                  refine lv_iload X.1 X.2.1 dX12_which_80 (lv_at hl 0 rfl) ?_
                  refine lv_if_eq (tgt := 120) X.1 X.2.1 dX12_which_82 (by decide) (fun c_243 => ?_) (fun c_243 => ?_)
                  · have z_b_244 := trivial
                    have k_245 : i5_217_z = 0 := z_eq hz_i5_217 ti_0 c_243
                    refine lv_iload X.1 X.2.1 dX12_which_120 (lv_at hl 0 rfl) ?_
                    refine lv_if_eq (tgt := 127) X.1 X.2.1 dX12_which_122 (by decide) (fun c_246 => ?_) (fun c_246 => ?_)
                    · have z_b_247 := trivial
                      have k_248 : i5_217_z = 0 := z_eq hz_i5_217 ti_0 c_246
                      have wn_249 := WhI_nx hp_4 iv_23 (by omega) ws_45 (iv_220 (by omega))
                      obtain ⟨x_250, ex_250⟩ : ∃ y : Int32, y = i2_20 + 1 := ⟨_, rfl⟩
                      have z_251 : x_250.toInt = i2_20_z + 1 := z_add ex_250 hz_i2_20 ti_1 (by omega) (by omega)
                      refine lv_iinc (v := x_250) (lv' := [(2, .int (x_250)), (5, .int (i5_217)), (6, .int (i6_218)), (3, .int (i3_21)), (4, .int (i4_22)), (0, .ref x), (1, .ref (κ (100 + i)))]) X.1 X.2.1 dX12_which_127 hl (k := 2) rfl (by rw [ex_250]; rfl) (by decide) rfl (fun ls hl => ?_)
                      refine lv_iload X.1 X.2.1 dX12_which_130 (lv_at hl 4 rfl) ?_
                      refine lv_iconst (v := 1) X.1 X.2.1 dX12_which_132 (by decide) ?_
                      refine lv_iadd X.1 X.2.1 dX12_which_133 ?_
                      refine lv_topi (fun v_252 ev_252 => ?_)
                      have z_253 : v_252.toInt = i4_22_z + 1 := z_add ev_252 hz_i4_22 ti_1 (by omega) (by omega)
                      refine lv_istore_n (lv' := [(3, .int (v_252)), (2, .int (x_250)), (5, .int (i5_217)), (6, .int (i6_218)), (4, .int (i4_22)), (0, .ref x), (1, .ref (κ (100 + i)))]) X.1 X.2.1 dX12_which_134 rfl hl (by decide) rfl (fun ls hl => ?_)
                      obtain ⟨x_254, ex_254⟩ : ∃ y : Int32, y = i4_22 + 1 := ⟨_, rfl⟩
                      have z_255 : x_254.toInt = i4_22_z + 1 := z_add ex_254 hz_i4_22 ti_1 (by omega) (by omega)
                      refine lv_iinc (v := x_254) (lv' := [(4, .int (x_254)), (3, .int (v_252)), (2, .int (x_250)), (5, .int (i5_217)), (6, .int (i6_218)), (0, .ref x), (1, .ref (κ (100 + i)))]) X.1 X.2.1 dX12_which_135 hl (k := 4) rfl (by rw [ex_254]; rfl) (by decide) rfl (fun ls hl => ?_)
                      refine lv_goto (tgt := 7) X.1 X.2.1 dX12_which_138 (by decide) ?_
                      exact ih_L_19 _ (by omega) _ _ _ (x_250) (x_250.toInt) (v_252) ((i4_22_z + 1)) (x_254) (x_254.toInt) rfl hw rfl (by omega) z_253 (by omega) rfl (by omega) (by rw [show x_250.toInt = i2_20_z + 1 by omega, show (i4_22_z + 1) = i4_22_z + 1 by omega, show x_254.toInt = i4_22_z + 1 by omega]; exact wn_249) (lv_sub hl [2, 1, 0, 5, 6] rfl)
                    · have z_b_256 := trivial
                      have k_257 : i5_217_z ≠ 0 := z_ne hz_i5_217 ti_0 c_246
                      refine lv_iload_n X.1 X.2.1 dX12_which_125 rfl (lv_at hl 2 rfl) ?_
                      have iq_258 := iv_219 (by omega)
                      have hy : isT1 (rB S x) t0 (wW i (i2_20_z).toNat) := (wh_same hp_4 wr_36.2.2.1).mp ⟨by omega, by omega, fun j hj => by rw [show wS i (i2_20_z).toNat = (i3_21_z).toNat by omega]; exact iq_258.2.2 j (by omega)⟩
                      rw [hQQ]
                      exact ret_i X hw hr hlocks (Nat.le_of_ble_eq_true rfl) (Nat.le_of_ble_eq_true rfl) ⟨rfl, ⟨by rw [hz_i2_20]; omega, by rw [hz_i2_20]; omega, by rw [hz_i2_20]; exact WhI_yes hp_4 iv_23 (by omega) hy⟩⟩ dX12_which_126
                  · have z_b_259 := trivial
                    have k_260 : i5_217_z ≠ 0 := z_ne hz_i5_217 ti_0 c_243
                    refine lv_aload_n X.1 X.2.1 dX12_which_85 rfl (lv_at hl 5 rfl) ?_
                    refine lv_aload_n X.1 X.2.1 dX12_which_86 rfl (lv_at hl 5 rfl) ?_
                    refine r_getI (g := 1232) (x := v_11) X hw ha_x rfl 32 ev_11 (by decide) rfl inn_X12_which_12 (by decide) (X.2.2.2.1 (.fieldLink RX12 217 "SilkMillModel" "from" "I") (by decide +kernel)) rfl (gv_1232 _ _) dX12_which_87 ?_
                    refine lv_iload X.1 X.2.1 dX12_which_90 (lv_at hl 1 rfl) ?_
                    refine lv_iadd X.1 X.2.1 dX12_which_92 ?_
                    refine lv_topi (fun v_261 ev_261 => ?_)
                    have z_262 : v_261.toInt = v_11.toInt + i6_218_z := z_add ev_261 rfl hz_i6_218 (by omega) (by omega)
                    refine k_i (rm := { frames := 1, cells := 0, slots := 0, locals := 48 }) (av := [.ref x, .int (v_261)]) X hw (va_runV (As := [.int (v_261)]) (rest := []) (cfix X) (k_X12_byteAt2 l G cy κ S _ x (v_261) ((v_11.toInt + i6_218_z)) hG ha_x z_262 (by first | assumption | omega)) (cwV 1 X.2.2.2.1 gX12_which_X12_byteAt rfl rfl rfl (by decide +kernel) ⟨Nat.le_of_ble_eq_true rfl, Nat.le_of_ble_eq_true rfl⟩) (pre_V X hw _ ha_x rfl (by decide) rfl) rfl rfl hl.1 rfl (lv_room (Nat.le_of_ble_eq_true rfl)) dX12_which_93 ⟨Nat.le_of_ble_eq_true rfl, Nat.le_of_ble_eq_true rfl⟩) 0 0 (Nat.le_of_ble_eq_true rfl) (Nat.le_of_ble_eq_true rfl) (fun rr_263 S_264 H locs hp hw hfr hnw => ?_)
                    obtain ⟨e2, hp⟩ := hp
                    subst e2
                    obtain ⟨by_265, by_266, by_267, by_268, by_269⟩ := hp
                    obtain ⟨v_270, ev_270⟩ : ∃ v, pI S 1228 x = v := ⟨_, rfl⟩
                    have rg_271 := gI_12_1228 hG ha_x; rw [ev_270] at rg_271
                    have pz_272 : (pI S 1228 x).toInt = v_270.toInt := by rw [ev_270]
                    have pz_273 : (pI S 1228 x).toInt = v_270.toInt := (congrArg Int32.toInt ev_270).trans rfl
                    refine lv_aload_n X.1 X.2.1 dX12_which_96 rfl (lv_at hl 6 rfl) ?_
                    refine lv_iload_n X.1 X.2.1 dX12_which_97 rfl (lv_at hl 3 rfl) ?_
                    refine lv_iload X.1 X.2.1 dX12_which_98 (lv_at hl 1 rfl) ?_
                    refine lv_iadd X.1 X.2.1 dX12_which_100 ?_
                    refine lv_topi (fun v_274 ev_274 => ?_)
                    have z_275 : v_274.toInt = i3_21_z + i6_218_z := z_add ev_274 hz_i3_21 hz_i6_218 (by omega) (by omega)
                    refine k_i (rm := { frames := 4, cells := 0, slots := 0, locals := 192 }) (av := [.ref (κ (100 + i)), .int (v_274)]) X hw (va_runV (As := [.int (v_274)]) (rest := [.int (rr_263)]) (cfix X) (k_J0_charAt2 l G cy κ S _ i (v_274) ((i3_21_z + i6_218_z)) hG hi_i z_275 (by first | assumption | omega) (by first | assumption | omega)) (cwV 1 X.2.2.2.1 gX12_which_J0_charAt_5068e rfl rfl rfl (by decide +kernel) ⟨Nat.le_of_ble_eq_true rfl, Nat.le_of_ble_eq_true rfl⟩) (pre_VS X hw _ i hi_i) rfl rfl hl.1 rfl (lv_room (Nat.le_of_ble_eq_true rfl)) dX12_which_101 ⟨Nat.le_of_ble_eq_true rfl, Nat.le_of_ble_eq_true rfl⟩) 0 0 (Nat.le_of_ble_eq_true rfl) (Nat.le_of_ble_eq_true rfl) (fun rr_276 S_277 H locs hp hw hfr hnw => ?_)
                    obtain ⟨e2, hp⟩ := hp
                    subst e2
                    obtain ⟨f_278, f_279, f_280⟩ := hp
                    refine lv_icmp_ne (tgt := 111) X.1 X.2.1 dX12_which_104 (by decide) (fun c_281 => ?_) (fun c_281 => ?_)
                    · have z_b_282 := trivial
                      have k_283 : rr_263.toInt ≠ rr_276.toInt := z_ne rfl rfl c_281
                      refine lv_iconst (v := 0) X.1 X.2.1 dX12_which_111 (by decide) ?_
                      refine lv_istore (lv' := [(5, .int 0), (6, .int (i6_218)), (2, .int (i2_20)), (3, .int (i3_21)), (4, .int (i4_22)), (0, .ref x), (1, .ref (κ (100 + i)))]) X.1 X.2.1 dX12_which_112 hl (by decide) rfl (fun ls hl => ?_)
                      obtain ⟨x_284, ex_284⟩ : ∃ y : Int32, y = i6_218 + 1 := ⟨_, rfl⟩
                      have z_285 : x_284.toInt = i6_218_z + 1 := z_add ex_284 hz_i6_218 ti_1 (by omega) (by omega)
                      refine lv_iinc (v := x_284) (lv' := [(6, .int (x_284)), (5, .int 0), (2, .int (i2_20)), (3, .int (i3_21)), (4, .int (i4_22)), (0, .ref x), (1, .ref (κ (100 + i)))]) X.1 X.2.1 dX12_which_114 hl (k := 1) rfl (by rw [ex_284]; rfl) (by decide) rfl (fun ls hl => ?_)
                      refine lv_goto (tgt := 71) X.1 X.2.1 dX12_which_117 (by decide) ?_
                      exact ih_L_216 _ (by omega) _ _ _ (0) (0) (x_284) (x_284.toInt) rfl hw ti_0 (by omega) rfl (by omega) (fun h => absurd h (by decide)) (fun _ h => by have h2 := ((wh_same hp_4 wr_36.2.2.1).mpr h).2.2 (i6_218_z).toNat (by omega); rw [show t0.2.1 + (i6_218_z).toNat = ((v_11.toInt + i6_218_z)).toNat by omega, show wS i (i2_20_z).toNat + (i6_218_z).toNat = ((i3_21_z + i6_218_z)).toNat by omega] at h2; omega) (lv_sub hl [1, 0, 2, 3, 4, 5, 6] rfl)
                    · have z_b_286 := trivial
                      have k_287 : rr_263.toInt = rr_276.toInt := z_eq rfl rfl c_281
                      refine lv_iconst (v := 1) X.1 X.2.1 dX12_which_107 (by decide) ?_
                      refine lv_goto (tgt := 112) X.1 X.2.1 dX12_which_108 (by decide) ?_
                      refine lv_istore (lv' := [(5, .int 1), (6, .int (i6_218)), (2, .int (i2_20)), (3, .int (i3_21)), (4, .int (i4_22)), (0, .ref x), (1, .ref (κ (100 + i)))]) X.1 X.2.1 dX12_which_112 hl (by decide) rfl (fun ls hl => ?_)
                      obtain ⟨x_288, ex_288⟩ : ∃ y : Int32, y = i6_218 + 1 := ⟨_, rfl⟩
                      have z_289 : x_288.toInt = i6_218_z + 1 := z_add ex_288 hz_i6_218 ti_1 (by omega) (by omega)
                      refine lv_iinc (v := x_288) (lv' := [(6, .int (x_288)), (5, .int 1), (2, .int (i2_20)), (3, .int (i3_21)), (4, .int (i4_22)), (0, .ref x), (1, .ref (κ (100 + i)))]) X.1 X.2.1 dX12_which_114 hl (k := 1) rfl (by rw [ex_288]; rfl) (by decide) rfl (fun ls hl => ?_)
                      refine lv_goto (tgt := 71) X.1 X.2.1 dX12_which_117 (by decide) ?_
                      have iq_290 := iv_219 (by omega)
                      have sr_291 := strB_rng i ((i3_21_z + i6_218_z)).toNat
                      exact ih_L_216 _ (by omega) _ _ _ (1) (1) (x_288) (x_288.toInt) rfl hw ti_1 (by omega) rfl (by omega) (fun _ => ⟨iq_290.1, iq_290.2.1, fun j hj => by rcases (show (j : Int) < i6_218_z ∨ (j : Int) = i6_218_z by omega) with e | e; exact iq_290.2.2 j e; rw [show t0.2.1 + j = ((v_11.toInt + i6_218_z)).toNat by omega, show (i3_21_z).toNat + j = ((i3_21_z + i6_218_z)).toNat by omega]; omega⟩) (fun h => absurd h (by decide)) (lv_sub hl [1, 0, 2, 3, 4, 5, 6] rfl)
              exact L_216 _ _ _ _ (0) (0) (0) (0) rfl hw ti_0 (by omega) ti_0 (by omega) (fun h => absurd h (by decide)) (fun _ h => by have h1 := h.1; have h2 := h.2.1; omega) (lv_sub hl [1, 0, 2, 3, 4, 5, 6] rfl)
            · have z_b_292 := trivial
              have k_293 : (v_15.toInt - v_11.toInt) = (i4_22_z - i3_21_z) := z_eq z_210 z_212 c_213
              refine lv_iconst (v := 1) X.1 X.2.1 dX12_which_61 (by decide) ?_
              refine lv_goto (tgt := 66) X.1 X.2.1 dX12_which_62 (by decide) ?_
              refine lv_istore (lv' := [(5, .int 1), (2, .int (i2_20)), (3, .int (i3_21)), (4, .int (i4_22)), (0, .ref x), (1, .ref (κ (100 + i)))]) X.1 X.2.1 dX12_which_66 hl (by decide) rfl (fun ls hl => ?_)
              refine lv_iconst (v := 0) X.1 X.2.1 dX12_which_68 (by decide) ?_
              refine lv_istore (lv' := [(6, .int 0), (5, .int 1), (2, .int (i2_20)), (3, .int (i3_21)), (4, .int (i4_22)), (0, .ref x), (1, .ref (κ (100 + i)))]) X.1 X.2.1 dX12_which_69 hl (by decide) rfl (fun ls hl => ?_)
              have L_294 : ∀ (n : Nat) (H : Heap) (locs : List Loc) (ls : Array Slot) (i5_295 : Int32) (i5_295_z : Int) (i6_296 : Int32) (i6_296_z : Int), ((64 - i6_296_z).toNat = n) → (Wd G cy (AS S s.heap.size) s.heap S H locs) → (i5_295.toInt = i5_295_z) → (0 ≤ i5_295_z ∧ i5_295_z ≤ 1) → (i6_296.toInt = i6_296_z) → (0 ≤ i6_296_z ∧ i6_296_z ≤ 64) → ((i5_295_z = 1 → (pI S 1231 x).toInt = 1 ∧ (t0.2.2 : Int) - (t0.2.1 : Int) = i4_22_z - i3_21_z ∧ ∀ j : Nat, (j : Int) < i6_296_z → rB S x (t0.2.1 + j) = (strB i ((i3_21_z).toNat + j)).toInt)) → ((i5_295_z = 0 → ¬ isT1 (rB S x) t0 (wW i (i2_20_z).toNat))) → (lv_has ls 7 [(5, .int (i5_295)), (6, .int (i6_296)), (2, .int (i2_20)), (3, .int (i3_21)), (4, .int (i4_22)), (0, .ref x), (1, .ref (κ (100 + i)))]) → W p l e ({ frames := 5, cells := 0, slots := 0, locals := 240 }) s m [.ref x, .ref (κ (100 + i))].toArray below meth c H locs 0 0 QQ (F0 m 71 ls []) := by
                intro n
                induction n using Nat.strongRecOn with
                | ind n ih_L_294 =>
                intro H locs ls i5_295 i5_295_z i6_296 i6_296_z hn hw hz_i5_295 hr_i5_295 hz_i6_296 hr_i6_296 iv_297 iv_298 hl
                have rg_299 : (-2147483648) ≤ i5_295_z ∧ i5_295_z ≤ 2147483647 := by rw [← hz_i5_295]; exact ⟨z_lo _, z_hi _⟩
                have rg_300 : (-2147483648) ≤ i6_296_z ∧ i6_296_z ≤ 2147483647 := by rw [← hz_i6_296]; exact ⟨z_lo _, z_hi _⟩
                refine lv_iload X.1 X.2.1 dX12_which_71 (lv_at hl 1 rfl) ?_
                refine lv_iload X.1 X.2.1 dX12_which_73 (lv_at hl 4 rfl) ?_
                refine lv_iload_n X.1 X.2.1 dX12_which_75 rfl (lv_at hl 3 rfl) ?_
                refine lv_isub X.1 X.2.1 dX12_which_76 ?_
                refine lv_topi (fun v_301 ev_301 => ?_)
                have z_302 : v_301.toInt = i4_22_z - i3_21_z := z_sub ev_301 hz_i4_22 hz_i3_21 (by omega) (by omega)
                refine lv_icmp_ge (tgt := 120) X.1 X.2.1 dX12_which_77 (by decide) (fun c_303 => ?_) (fun c_303 => ?_)
                · have z_b_304 := trivial
                  have k_305 : i6_296_z ≥ (i4_22_z - i3_21_z) := z_le z_302 hz_i6_296 c_303
                  refine lv_iload X.1 X.2.1 dX12_which_120 (lv_at hl 0 rfl) ?_
                  refine lv_if_eq (tgt := 127) X.1 X.2.1 dX12_which_122 (by decide) (fun c_306 => ?_) (fun c_306 => ?_)
                  · have z_b_307 := trivial
                    have k_308 : i5_295_z = 0 := z_eq hz_i5_295 ti_0 c_306
                    have wn_309 := WhI_nx hp_4 iv_23 (by omega) ws_45 (iv_298 (by omega))
                    obtain ⟨x_310, ex_310⟩ : ∃ y : Int32, y = i2_20 + 1 := ⟨_, rfl⟩
                    have z_311 : x_310.toInt = i2_20_z + 1 := z_add ex_310 hz_i2_20 ti_1 (by omega) (by omega)
                    refine lv_iinc (v := x_310) (lv' := [(2, .int (x_310)), (5, .int (i5_295)), (6, .int (i6_296)), (3, .int (i3_21)), (4, .int (i4_22)), (0, .ref x), (1, .ref (κ (100 + i)))]) X.1 X.2.1 dX12_which_127 hl (k := 2) rfl (by rw [ex_310]; rfl) (by decide) rfl (fun ls hl => ?_)
                    refine lv_iload X.1 X.2.1 dX12_which_130 (lv_at hl 4 rfl) ?_
                    refine lv_iconst (v := 1) X.1 X.2.1 dX12_which_132 (by decide) ?_
                    refine lv_iadd X.1 X.2.1 dX12_which_133 ?_
                    refine lv_topi (fun v_312 ev_312 => ?_)
                    have z_313 : v_312.toInt = i4_22_z + 1 := z_add ev_312 hz_i4_22 ti_1 (by omega) (by omega)
                    refine lv_istore_n (lv' := [(3, .int (v_312)), (2, .int (x_310)), (5, .int (i5_295)), (6, .int (i6_296)), (4, .int (i4_22)), (0, .ref x), (1, .ref (κ (100 + i)))]) X.1 X.2.1 dX12_which_134 rfl hl (by decide) rfl (fun ls hl => ?_)
                    obtain ⟨x_314, ex_314⟩ : ∃ y : Int32, y = i4_22 + 1 := ⟨_, rfl⟩
                    have z_315 : x_314.toInt = i4_22_z + 1 := z_add ex_314 hz_i4_22 ti_1 (by omega) (by omega)
                    refine lv_iinc (v := x_314) (lv' := [(4, .int (x_314)), (3, .int (v_312)), (2, .int (x_310)), (5, .int (i5_295)), (6, .int (i6_296)), (0, .ref x), (1, .ref (κ (100 + i)))]) X.1 X.2.1 dX12_which_135 hl (k := 4) rfl (by rw [ex_314]; rfl) (by decide) rfl (fun ls hl => ?_)
                    refine lv_goto (tgt := 7) X.1 X.2.1 dX12_which_138 (by decide) ?_
                    exact ih_L_19 _ (by omega) _ _ _ (x_310) (x_310.toInt) (v_312) ((i4_22_z + 1)) (x_314) (x_314.toInt) rfl hw rfl (by omega) z_313 (by omega) rfl (by omega) (by rw [show x_310.toInt = i2_20_z + 1 by omega, show (i4_22_z + 1) = i4_22_z + 1 by omega, show x_314.toInt = i4_22_z + 1 by omega]; exact wn_309) (lv_sub hl [2, 1, 0, 5, 6] rfl)
                  · have z_b_316 := trivial
                    have k_317 : i5_295_z ≠ 0 := z_ne hz_i5_295 ti_0 c_306
                    refine lv_iload_n X.1 X.2.1 dX12_which_125 rfl (lv_at hl 2 rfl) ?_
                    have iq_318 := iv_297 (by omega)
                    have hy : isT1 (rB S x) t0 (wW i (i2_20_z).toNat) := (wh_same hp_4 wr_36.2.2.1).mp ⟨by omega, by omega, fun j hj => by rw [show wS i (i2_20_z).toNat = (i3_21_z).toNat by omega]; exact iq_318.2.2 j (by omega)⟩
                    rw [hQQ]
                    exact ret_i X hw hr hlocks (Nat.le_of_ble_eq_true rfl) (Nat.le_of_ble_eq_true rfl) ⟨rfl, ⟨by rw [hz_i2_20]; omega, by rw [hz_i2_20]; omega, by rw [hz_i2_20]; exact WhI_yes hp_4 iv_23 (by omega) hy⟩⟩ dX12_which_126
                · have z_b_319 := trivial
                  have k_320 : i6_296_z < (i4_22_z - i3_21_z) := z_nle z_302 hz_i6_296 c_303
                  refine lv_iload X.1 X.2.1 dX12_which_80 (lv_at hl 0 rfl) ?_
                  refine lv_if_eq (tgt := 120) X.1 X.2.1 dX12_which_82 (by decide) (fun c_321 => ?_) (fun c_321 => ?_)
                  · have z_b_322 := trivial
                    have k_323 : i5_295_z = 0 := z_eq hz_i5_295 ti_0 c_321
                    refine lv_iload X.1 X.2.1 dX12_which_120 (lv_at hl 0 rfl) ?_
                    refine lv_if_eq (tgt := 127) X.1 X.2.1 dX12_which_122 (by decide) (fun c_324 => ?_) (fun c_324 => ?_)
                    · have z_b_325 := trivial
                      have k_326 : i5_295_z = 0 := z_eq hz_i5_295 ti_0 c_324
                      have wn_327 := WhI_nx hp_4 iv_23 (by omega) ws_45 (iv_298 (by omega))
                      obtain ⟨x_328, ex_328⟩ : ∃ y : Int32, y = i2_20 + 1 := ⟨_, rfl⟩
                      have z_329 : x_328.toInt = i2_20_z + 1 := z_add ex_328 hz_i2_20 ti_1 (by omega) (by omega)
                      refine lv_iinc (v := x_328) (lv' := [(2, .int (x_328)), (5, .int (i5_295)), (6, .int (i6_296)), (3, .int (i3_21)), (4, .int (i4_22)), (0, .ref x), (1, .ref (κ (100 + i)))]) X.1 X.2.1 dX12_which_127 hl (k := 2) rfl (by rw [ex_328]; rfl) (by decide) rfl (fun ls hl => ?_)
                      refine lv_iload X.1 X.2.1 dX12_which_130 (lv_at hl 4 rfl) ?_
                      refine lv_iconst (v := 1) X.1 X.2.1 dX12_which_132 (by decide) ?_
                      refine lv_iadd X.1 X.2.1 dX12_which_133 ?_
                      refine lv_topi (fun v_330 ev_330 => ?_)
                      have z_331 : v_330.toInt = i4_22_z + 1 := z_add ev_330 hz_i4_22 ti_1 (by omega) (by omega)
                      refine lv_istore_n (lv' := [(3, .int (v_330)), (2, .int (x_328)), (5, .int (i5_295)), (6, .int (i6_296)), (4, .int (i4_22)), (0, .ref x), (1, .ref (κ (100 + i)))]) X.1 X.2.1 dX12_which_134 rfl hl (by decide) rfl (fun ls hl => ?_)
                      obtain ⟨x_332, ex_332⟩ : ∃ y : Int32, y = i4_22 + 1 := ⟨_, rfl⟩
                      have z_333 : x_332.toInt = i4_22_z + 1 := z_add ex_332 hz_i4_22 ti_1 (by omega) (by omega)
                      refine lv_iinc (v := x_332) (lv' := [(4, .int (x_332)), (3, .int (v_330)), (2, .int (x_328)), (5, .int (i5_295)), (6, .int (i6_296)), (0, .ref x), (1, .ref (κ (100 + i)))]) X.1 X.2.1 dX12_which_135 hl (k := 4) rfl (by rw [ex_332]; rfl) (by decide) rfl (fun ls hl => ?_)
                      refine lv_goto (tgt := 7) X.1 X.2.1 dX12_which_138 (by decide) ?_
                      exact ih_L_19 _ (by omega) _ _ _ (x_328) (x_328.toInt) (v_330) ((i4_22_z + 1)) (x_332) (x_332.toInt) rfl hw rfl (by omega) z_331 (by omega) rfl (by omega) (by rw [show x_328.toInt = i2_20_z + 1 by omega, show (i4_22_z + 1) = i4_22_z + 1 by omega, show x_332.toInt = i4_22_z + 1 by omega]; exact wn_327) (lv_sub hl [2, 1, 0, 5, 6] rfl)
                    · have z_b_334 := trivial
                      have k_335 : i5_295_z ≠ 0 := z_ne hz_i5_295 ti_0 c_324
                      refine lv_iload_n X.1 X.2.1 dX12_which_125 rfl (lv_at hl 2 rfl) ?_
                      have iq_336 := iv_297 (by omega)
                      have hy : isT1 (rB S x) t0 (wW i (i2_20_z).toNat) := (wh_same hp_4 wr_36.2.2.1).mp ⟨by omega, by omega, fun j hj => by rw [show wS i (i2_20_z).toNat = (i3_21_z).toNat by omega]; exact iq_336.2.2 j (by omega)⟩
                      rw [hQQ]
                      exact ret_i X hw hr hlocks (Nat.le_of_ble_eq_true rfl) (Nat.le_of_ble_eq_true rfl) ⟨rfl, ⟨by rw [hz_i2_20]; omega, by rw [hz_i2_20]; omega, by rw [hz_i2_20]; exact WhI_yes hp_4 iv_23 (by omega) hy⟩⟩ dX12_which_126
                  · have z_b_337 := trivial
                    have k_338 : i5_295_z ≠ 0 := z_ne hz_i5_295 ti_0 c_321
                    refine lv_aload_n X.1 X.2.1 dX12_which_85 rfl (lv_at hl 5 rfl) ?_
                    refine lv_aload_n X.1 X.2.1 dX12_which_86 rfl (lv_at hl 5 rfl) ?_
                    refine r_getI (g := 1232) (x := v_11) X hw ha_x rfl 32 ev_11 (by decide) rfl inn_X12_which_12 (by decide) (X.2.2.2.1 (.fieldLink RX12 217 "SilkMillModel" "from" "I") (by decide +kernel)) rfl (gv_1232 _ _) dX12_which_87 ?_
                    refine lv_iload X.1 X.2.1 dX12_which_90 (lv_at hl 1 rfl) ?_
                    refine lv_iadd X.1 X.2.1 dX12_which_92 ?_
                    refine lv_topi (fun v_339 ev_339 => ?_)
                    have z_340 : v_339.toInt = v_11.toInt + i6_296_z := z_add ev_339 rfl hz_i6_296 (by omega) (by omega)
                    refine k_i (rm := { frames := 1, cells := 0, slots := 0, locals := 48 }) (av := [.ref x, .int (v_339)]) X hw (va_runV (As := [.int (v_339)]) (rest := []) (cfix X) (k_X12_byteAt2 l G cy κ S _ x (v_339) ((v_11.toInt + i6_296_z)) hG ha_x z_340 (by first | assumption | omega)) (cwV 1 X.2.2.2.1 gX12_which_X12_byteAt rfl rfl rfl (by decide +kernel) ⟨Nat.le_of_ble_eq_true rfl, Nat.le_of_ble_eq_true rfl⟩) (pre_V X hw _ ha_x rfl (by decide) rfl) rfl rfl hl.1 rfl (lv_room (Nat.le_of_ble_eq_true rfl)) dX12_which_93 ⟨Nat.le_of_ble_eq_true rfl, Nat.le_of_ble_eq_true rfl⟩) 0 0 (Nat.le_of_ble_eq_true rfl) (Nat.le_of_ble_eq_true rfl) (fun rr_341 S_342 H locs hp hw hfr hnw => ?_)
                    obtain ⟨e2, hp⟩ := hp
                    subst e2
                    obtain ⟨by_343, by_344, by_345, by_346, by_347⟩ := hp
                    obtain ⟨v_348, ev_348⟩ : ∃ v, pI S 1228 x = v := ⟨_, rfl⟩
                    have rg_349 := gI_12_1228 hG ha_x; rw [ev_348] at rg_349
                    have pz_350 : (pI S 1228 x).toInt = v_348.toInt := by rw [ev_348]
                    have pz_351 : (pI S 1228 x).toInt = v_348.toInt := (congrArg Int32.toInt ev_348).trans rfl
                    refine lv_aload_n X.1 X.2.1 dX12_which_96 rfl (lv_at hl 6 rfl) ?_
                    refine lv_iload_n X.1 X.2.1 dX12_which_97 rfl (lv_at hl 3 rfl) ?_
                    refine lv_iload X.1 X.2.1 dX12_which_98 (lv_at hl 1 rfl) ?_
                    refine lv_iadd X.1 X.2.1 dX12_which_100 ?_
                    refine lv_topi (fun v_352 ev_352 => ?_)
                    have z_353 : v_352.toInt = i3_21_z + i6_296_z := z_add ev_352 hz_i3_21 hz_i6_296 (by omega) (by omega)
                    refine k_i (rm := { frames := 4, cells := 0, slots := 0, locals := 192 }) (av := [.ref (κ (100 + i)), .int (v_352)]) X hw (va_runV (As := [.int (v_352)]) (rest := [.int (rr_341)]) (cfix X) (k_J0_charAt2 l G cy κ S _ i (v_352) ((i3_21_z + i6_296_z)) hG hi_i z_353 (by first | assumption | omega) (by first | assumption | omega)) (cwV 1 X.2.2.2.1 gX12_which_J0_charAt_5068e rfl rfl rfl (by decide +kernel) ⟨Nat.le_of_ble_eq_true rfl, Nat.le_of_ble_eq_true rfl⟩) (pre_VS X hw _ i hi_i) rfl rfl hl.1 rfl (lv_room (Nat.le_of_ble_eq_true rfl)) dX12_which_101 ⟨Nat.le_of_ble_eq_true rfl, Nat.le_of_ble_eq_true rfl⟩) 0 0 (Nat.le_of_ble_eq_true rfl) (Nat.le_of_ble_eq_true rfl) (fun rr_354 S_355 H locs hp hw hfr hnw => ?_)
                    obtain ⟨e2, hp⟩ := hp
                    subst e2
                    obtain ⟨f_356, f_357, f_358⟩ := hp
                    refine lv_icmp_ne (tgt := 111) X.1 X.2.1 dX12_which_104 (by decide) (fun c_359 => ?_) (fun c_359 => ?_)
                    · have z_b_360 := trivial
                      have k_361 : rr_341.toInt ≠ rr_354.toInt := z_ne rfl rfl c_359
                      refine lv_iconst (v := 0) X.1 X.2.1 dX12_which_111 (by decide) ?_
                      refine lv_istore (lv' := [(5, .int 0), (6, .int (i6_296)), (2, .int (i2_20)), (3, .int (i3_21)), (4, .int (i4_22)), (0, .ref x), (1, .ref (κ (100 + i)))]) X.1 X.2.1 dX12_which_112 hl (by decide) rfl (fun ls hl => ?_)
                      obtain ⟨x_362, ex_362⟩ : ∃ y : Int32, y = i6_296 + 1 := ⟨_, rfl⟩
                      have z_363 : x_362.toInt = i6_296_z + 1 := z_add ex_362 hz_i6_296 ti_1 (by omega) (by omega)
                      refine lv_iinc (v := x_362) (lv' := [(6, .int (x_362)), (5, .int 0), (2, .int (i2_20)), (3, .int (i3_21)), (4, .int (i4_22)), (0, .ref x), (1, .ref (κ (100 + i)))]) X.1 X.2.1 dX12_which_114 hl (k := 1) rfl (by rw [ex_362]; rfl) (by decide) rfl (fun ls hl => ?_)
                      refine lv_goto (tgt := 71) X.1 X.2.1 dX12_which_117 (by decide) ?_
                      exact ih_L_294 _ (by omega) _ _ _ (0) (0) (x_362) (x_362.toInt) rfl hw ti_0 (by omega) rfl (by omega) (fun h => absurd h (by decide)) (fun _ h => by have h2 := ((wh_same hp_4 wr_36.2.2.1).mpr h).2.2 (i6_296_z).toNat (by omega); rw [show t0.2.1 + (i6_296_z).toNat = ((v_11.toInt + i6_296_z)).toNat by omega, show wS i (i2_20_z).toNat + (i6_296_z).toNat = ((i3_21_z + i6_296_z)).toNat by omega] at h2; omega) (lv_sub hl [1, 0, 2, 3, 4, 5, 6] rfl)
                    · have z_b_364 := trivial
                      have k_365 : rr_341.toInt = rr_354.toInt := z_eq rfl rfl c_359
                      refine lv_iconst (v := 1) X.1 X.2.1 dX12_which_107 (by decide) ?_
                      refine lv_goto (tgt := 112) X.1 X.2.1 dX12_which_108 (by decide) ?_
                      refine lv_istore (lv' := [(5, .int 1), (6, .int (i6_296)), (2, .int (i2_20)), (3, .int (i3_21)), (4, .int (i4_22)), (0, .ref x), (1, .ref (κ (100 + i)))]) X.1 X.2.1 dX12_which_112 hl (by decide) rfl (fun ls hl => ?_)
                      obtain ⟨x_366, ex_366⟩ : ∃ y : Int32, y = i6_296 + 1 := ⟨_, rfl⟩
                      have z_367 : x_366.toInt = i6_296_z + 1 := z_add ex_366 hz_i6_296 ti_1 (by omega) (by omega)
                      refine lv_iinc (v := x_366) (lv' := [(6, .int (x_366)), (5, .int 1), (2, .int (i2_20)), (3, .int (i3_21)), (4, .int (i4_22)), (0, .ref x), (1, .ref (κ (100 + i)))]) X.1 X.2.1 dX12_which_114 hl (k := 1) rfl (by rw [ex_366]; rfl) (by decide) rfl (fun ls hl => ?_)
                      refine lv_goto (tgt := 71) X.1 X.2.1 dX12_which_117 (by decide) ?_
                      have iq_368 := iv_297 (by omega)
                      have sr_369 := strB_rng i ((i3_21_z + i6_296_z)).toNat
                      exact ih_L_294 _ (by omega) _ _ _ (1) (1) (x_366) (x_366.toInt) rfl hw ti_1 (by omega) rfl (by omega) (fun _ => ⟨iq_368.1, iq_368.2.1, fun j hj => by rcases (show (j : Int) < i6_296_z ∨ (j : Int) = i6_296_z by omega) with e | e; exact iq_368.2.2 j e; rw [show t0.2.1 + j = ((v_11.toInt + i6_296_z)).toNat by omega, show (i3_21_z).toNat + j = ((i3_21_z + i6_296_z)).toNat by omega]; omega⟩) (fun h => absurd h (by decide)) (lv_sub hl [1, 0, 2, 3, 4, 5, 6] rfl)
              exact L_294 _ _ _ _ (1) (1) (0) (0) rfl hw ti_1 (by omega) ti_0 (by omega) (fun _ => ⟨by omega, by omega, fun j hj => absurd hj (by omega)⟩) (fun h => absurd h (by decide)) (lv_sub hl [1, 0, 2, 3, 4, 5, 6] rfl)
      · have z_b_370 := trivial
        have k_371 : rr_37.toInt ≠ 32 := z_ne rfl ti_32 c_42
        have wn_372 := WhI_go hp_4 iv_23 (by omega) (by omega)
        refine lv_goto (tgt := 135) X.1 X.2.1 dX12_which_27 (by decide) ?_
        obtain ⟨x_373, ex_373⟩ : ∃ y : Int32, y = i4_22 + 1 := ⟨_, rfl⟩
        have z_374 : x_373.toInt = i4_22_z + 1 := z_add ex_373 hz_i4_22 ti_1 (by omega) (by omega)
        refine lv_iinc (v := x_373) (lv' := [(4, .int (x_373)), (2, .int (i2_20)), (3, .int (i3_21)), (0, .ref x), (1, .ref (κ (100 + i)))]) X.1 X.2.1 dX12_which_135 hl (k := 2) rfl (by rw [ex_373]; rfl) (by decide) rfl (fun ls hl => ?_)
        refine lv_goto (tgt := 7) X.1 X.2.1 dX12_which_138 (by decide) ?_
        exact ih_L_19 _ (by omega) _ _ _ (i2_20) (i2_20_z) (i3_21) (i3_21_z) (x_373) (x_373.toInt) rfl hw hz_i2_20 (by omega) hz_i3_21 (by omega) rfl (by omega) (by rw [show x_373.toInt = i4_22_z + 1 by omega]; exact wn_372) (lv_sub hl [1, 2, 0, 3, 4] rfl)
  exact L_19 _ _ _ _ (0) (0) (0) (0) (0) (0) rfl hw ti_0 (by omega) ti_0 (by omega) ti_0 (by omega) (WhI_0 hp_4) (lv_sub hl [2, 1, 0, 3, 4] rfl)
set_option maxHeartbeats 4000000 in
set_option maxRecDepth 100000 in
theorem k_X12_wrong2 (l : Launch) (G : va_G) (cy : Nat → ClassId) (κ : Nat → Nat) (S : PS) (sz : Nat) (x : Nat) (a1 : Int32) (a1_z : Int) (hG : GX S) (ha_x : At S x 12) (hz_a1 : a1.toInt = a1_z) : Ci l yX12_wrong wsX12_wrong ({ frames := 1, cells := 0, slots := 0, locals := 48 }) G cy κ S sz [.ref x, .int (a1)] (fun (r : Int32) (S9 : PS) => Ok MW S S9 ∧ (((False) ∧ r = 1) ∨ (((((pI S 1230 x).toInt = 0 → (pI S9 1230 x).toInt = a1_z) ∧ ((pI S 1230 x).toInt ≠ 0 → (pI S9 1230 x).toInt = (pI S 1230 x).toInt))) ∧ r = 0))) := by
  refine ent_m (cc := cX12_wrong) (maxL := 2) (ret := (some .boolean)) (by decide) rfl (Nat.le_of_ble_eq_true rfl) ?_
  intro p e s m below meth c ls X hr hlocks hin hw hl hsz
  subst hsz
  have X : Cx p c cX12_wrong 2 s [.ref x, .int (a1)].toArray wsX12_wrong RX12 m G cy κ (AS S s.heap.size) := X
  have hl : lv_has ls 2 [(0, .ref x), (1, .int (a1))] := hl
  have rg_a1 : (-2147483648) ≤ a1_z ∧ a1_z ≤ 2147483647 := by rw [← hz_a1]; exact ⟨z_lo _, z_hi _⟩
  have hO : Ok MW S S := Ok.rf hG
  obtain ⟨v_1, ev_1⟩ : ∃ v, pI S 1230 x = v := ⟨_, rfl⟩
  have rg_3 := And.intro (z_lo v_1) (z_hi v_1)
  have pz_4 : (pI S 1230 x).toInt = v_1.toInt := by rw [ev_1]
  have pz_5 : (pI S 1230 x).toInt = v_1.toInt := (congrArg Int32.toInt ev_1).trans rfl
  refine lv_aload_n X.1 X.2.1 dX12_wrong_0 rfl (lv_at hl 0 rfl) ?_
  refine r_getI (g := 1230) (x := v_1) X hw ha_x rfl 30 ev_1 (by decide) rfl inn_X12_wrong_12 (by decide) (X.2.2.2.1 (.fieldLink RX12 229 "SilkMillModel" "faultKind" "I") (by decide +kernel)) rfl (gv_1230 _ _) dX12_wrong_1 ?_
  refine lv_if_ne (tgt := 20) X.1 X.2.1 dX12_wrong_4 (by decide) (fun c_6 => ?_) (fun c_6 => ?_)
  · have z_b_7 := trivial
    have k_8 : v_1.toInt ≠ 0 := z_ne rfl ti_0 c_6
    refine lv_iconst (v := 0) X.1 X.2.1 dX12_wrong_20 (by decide) ?_
    have pz_9 : (pI S 1230 x).toInt = v_1.toInt := (congrArg Int32.toInt ev_1).trans rfl
    exact ret_z X hw hr hlocks (Nat.le_of_ble_eq_true rfl) (Nat.le_of_ble_eq_true rfl) (by decide) ⟨hO, Or.inr ⟨⟨fun h => by omega, fun h => by omega⟩, rfl⟩⟩ dX12_wrong_21
  · have z_b_10 := trivial
    have k_11 : v_1.toInt = 0 := z_eq rfl ti_0 c_6
    refine lv_aload_n X.1 X.2.1 dX12_wrong_7 rfl (lv_at hl 0 rfl) ?_
    refine lv_iload_n X.1 X.2.1 dX12_wrong_8 rfl (lv_at hl 1 rfl) ?_
    refine r_putI (v := a1) X hw ha_x rfl 30 1230 tyX12 (by decide) rfl inn_X12_wrong_12 tyX12_ok nmX12 (by decide) (X.2.2.2.1 (.fieldLink RX12 229 "SilkMillModel" "faultKind" "I") (by decide +kernel)) rfl (Or.inl rfl) rfl rfl (Nat.le_of_ble_eq_true rfl) (st_1230 _ _) dX12_wrong_9 (fun H locs hw => ?_)
    obtain ⟨S_12, eS_12⟩ : ∃ T, T = sI S 1230 x (a1) := ⟨_, rfl⟩
    rw [← eS_12] at hw
    have hO_13 : Ok MW S S_12 := hO.sI eS_12 (by decide +kernel) (uI_12_1230 hO.1 ha_x)
    have h_14 : pI S_12 1230 x = a1 := tI_sIs eS_12
    refine lv_aload_n X.1 X.2.1 dX12_wrong_12 rfl (lv_at hl 0 rfl) ?_
    refine lv_aload_n X.1 X.2.1 dX12_wrong_13 rfl (lv_at hl 0 rfl) ?_
    have t_15 : At S_12 x 12 := tAt_sI eS_12 ha_x
    obtain ⟨v_16, ev_16⟩ : ∃ v, pI S_12 1232 x = v := ⟨_, rfl⟩
    have rg_17 := gI_12_1232 hO_13.1 t_15; rw [ev_16] at rg_17
    have pz_18 : (pI S_12 1232 x).toInt = v_16.toInt := by rw [ev_16]
    refine r_getI (g := 1232) (x := v_16) X hw t_15 rfl 32 ev_16 (by decide) rfl inn_X12_wrong_12 (by decide) (X.2.2.2.1 (.fieldLink RX12 217 "SilkMillModel" "from" "I") (by decide +kernel)) rfl (gv_1232 _ _) dX12_wrong_14 ?_
    refine r_putI (v := v_16) X hw t_15 rfl 29 1229 tyX12 (by decide) rfl inn_X12_wrong_12 tyX12_ok nmX12 (by decide) (X.2.2.2.1 (.fieldLink RX12 86 "SilkMillModel" "faultPlace" "I") (by decide +kernel)) rfl (Or.inl rfl) rfl rfl (Nat.le_of_ble_eq_true rfl) (st_1229 _ _) dX12_wrong_17 (fun H locs hw => ?_)
    obtain ⟨S_19, eS_19⟩ : ∃ T, T = sI S_12 1229 x (v_16) := ⟨_, rfl⟩
    rw [← eS_19] at hw
    have hO_20 : Ok MW S S_19 := hO_13.sI eS_19 (by decide +kernel) (uI_12_1229 hO_13.1 t_15)
    have h_21 : pI S_19 1229 x = v_16 := tI_sIs eS_19
    refine lv_iconst (v := 0) X.1 X.2.1 dX12_wrong_20 (by decide) ?_
    have t_22 : pI S_19 1230 x = a1 := tI_sI eS_19 rfl h_14
    have pz_23 : (pI S_19 1230 x).toInt = a1_z := (congrArg Int32.toInt t_22).trans hz_a1
    exact ret_z X hw hr hlocks (Nat.le_of_ble_eq_true rfl) (Nat.le_of_ble_eq_true rfl) (by decide) ⟨hO_20, Or.inr ⟨⟨fun h => by omega, fun h => by omega⟩, rfl⟩⟩ dX12_wrong_21
set_option maxHeartbeats 4000000 in
set_option maxRecDepth 100000 in
theorem k_X12_must2 (l : Launch) (G : va_G) (cy : Nat → ClassId) (κ : Nat → Nat) (S : PS) (sz : Nat) (x : Nat) (i : Nat) (t0 : Tk) (hG : GX S) (ha_x : At S x 12) (hi_i : i < 26) (hp_0 : RGB (rB S x) (pI S 1228 x).toInt.toNat S x t0) : Ci l yX12_must wsX12_must ({ frames := 6, cells := 0, slots := 0, locals := 288 }) G cy κ S sz [.ref x, .ref (κ (100 + i))] (fun (r : Int32) (S9 : PS) => Ok MM S S9 ∧ (((((pI S 1230 x).toInt = 0 ∧ isR (rB S x) t0 i) ∧ RGB (rB S x) (pI S 1228 x).toInt.toNat S9 x (nxT (rB S x) (pI S 1228 x).toInt.toNat t0) ∧ (pI S9 1230 x).toInt = 0) ∧ r = 1) ∨ (((¬ ((pI S 1230 x).toInt = 0 ∧ isR (rB S x) t0 i)) ∧ (((pI S 1230 x).toInt = 0 → (pI S9 1230 x).toInt = 1) ∧ ((pI S 1230 x).toInt ≠ 0 → (pI S9 1230 x).toInt = (pI S 1230 x).toInt))) ∧ r = 0))) := by
  refine ent_m (cc := cX12_must) (maxL := 2) (ret := (some .boolean)) (by decide) rfl (Nat.le_of_ble_eq_true rfl) ?_
  intro p e s m below meth c ls X hr hlocks hin hw hl hsz
  subst hsz
  have X : Cx p c cX12_must 2 s [.ref x, .ref (κ (100 + i))].toArray wsX12_must RX12 m G cy κ (AS S s.heap.size) := X
  have hl : lv_has ls 2 [(0, .ref x), (1, .ref (κ (100 + i)))] := hl
  have hO : Ok MM S S := Ok.rf hG
  have hok := hdI (RGB_ok hG ha_x hp_0)
  have hok1 : t0.2.1 ≤ t0.2.2 ∧ t0.2.2 ≤ 400 := ⟨(hdE hok).1, (hdE hok).2.1⟩
  obtain ⟨v_1, ev_1⟩ : ∃ v, pI S 1230 x = v := ⟨_, rfl⟩
  have rg_3 := And.intro (z_lo v_1) (z_hi v_1)
  have pz_4 : (pI S 1230 x).toInt = v_1.toInt := by rw [ev_1]
  have pz_5 : (pI S 1230 x).toInt = v_1.toInt := (congrArg Int32.toInt ev_1).trans rfl
  obtain ⟨v_6, ev_6⟩ : ∃ v, pI S 1231 x = v := ⟨_, rfl⟩
  have rg_8 := And.intro (z_lo v_6) (z_hi v_6)
  have pz_9 : (pI S 1231 x).toInt = v_6.toInt := by rw [ev_6]
  have pz_10 : (pI S 1231 x).toInt = v_6.toInt := (congrArg Int32.toInt ev_6).trans rfl
  have htk1 := hp_0.1.1
  refine lv_aload_n X.1 X.2.1 dX12_must_0 rfl (lv_at hl 0 rfl) ?_
  refine lv_aload_n X.1 X.2.1 dX12_must_1 rfl (lv_at hl 1 rfl) ?_
  have pz_11 : (pI S 1230 x).toInt = v_1.toInt := (congrArg Int32.toInt ev_1).trans rfl
  refine k_i (rm := { frames := 5, cells := 0, slots := 0, locals := 240 }) (av := [.ref x, .ref (κ (100 + i))]) X hw (va_runV (As := [.ref (κ (100 + i))]) (rest := []) (cfix X) (k_X12_is2 l G cy κ S _ x i t0 hO.1 ha_x hi_i hp_0.1 (by first | assumption | omega) (by first | assumption | omega)) (cwV 1 X.2.2.2.1 gX12_must_X12_is rfl rfl rfl (by decide +kernel) ⟨Nat.le_of_ble_eq_true rfl, Nat.le_of_ble_eq_true rfl⟩) (pre_V X hw _ ha_x rfl (by decide) rfl) rfl rfl hl.1 rfl (lv_room (Nat.le_of_ble_eq_true rfl)) dX12_must_2 ⟨Nat.le_of_ble_eq_true rfl, Nat.le_of_ble_eq_true rfl⟩) 0 0 (Nat.le_of_ble_eq_true rfl) (Nat.le_of_ble_eq_true rfl) (fun rr_12 S_13 H locs hp hw hfr hnw => ?_)
  obtain ⟨e2, hp⟩ := hp
  subst e2
  rcases hp with ⟨f_14, er_15⟩ | ⟨f_14, er_15⟩ <;> subst er_15
  · have z_b_16 := trivial
    refine lv_if_ne (tgt := 14) X.1 X.2.1 dX12_must_5 (by decide) (fun c_17 => ?_) (fun c_17 => absurd c_17 (by decide))
    refine lv_aload_n X.1 X.2.1 dX12_must_14 rfl (lv_at hl 0 rfl) ?_
    have ok_18 := hdI (RGB_ok hG ha_x hp_0)
    have ok_19 : (t0).2.1 ≤ (t0).2.2 ∧ (t0).2.2 ≤ 400 := ⟨(hdE ok_18).1, (hdE ok_18).2.1⟩
    obtain ⟨v_20, ev_20⟩ : ∃ v, pI S 1233 x = v := ⟨_, rfl⟩
    have rg_21 := gI_12_1233 hO.1 ha_x; rw [ev_20] at rg_21
    have pz_22 : (pI S 1233 x).toInt = v_20.toInt := by rw [ev_20]
    have pz_23 : (pI S 1233 x).toInt = v_20.toInt := (congrArg Int32.toInt ev_20).trans rfl
    refine k_v (rm := { frames := 2, cells := 0, slots := 0, locals := 96 }) (av := [.ref x]) X hw (va_runV (As := []) (rest := []) (cfix X) (k_X12_token2 l G cy κ S _ x hO.1 ha_x) (cwV 0 X.2.2.2.1 gX12_must_X12_token rfl rfl rfl (by decide +kernel) ⟨Nat.le_of_ble_eq_true rfl, Nat.le_of_ble_eq_true rfl⟩) (pre_V X hw _ ha_x rfl (by decide) rfl) rfl rfl hl.1 rfl (lv_room (Nat.le_of_ble_eq_true rfl)) dX12_must_15 ⟨Nat.le_of_ble_eq_true rfl, Nat.le_of_ble_eq_true rfl⟩) 0 0 (Nat.le_of_ble_eq_true rfl) (Nat.le_of_ble_eq_true rfl) (fun S_25 H locs hp hw hfr hnw => ?_)
    obtain ⟨hk_26, hp⟩ := hp
    have hO_27 : Ok MM S S_25 := hO.call hk_26 (by decide +kernel)
    have rg_28 : RGB (rB S x) (pI S 1228 x).toInt.toNat S_25 x (nxT (rB S x) (pI S 1228 x).toInt.toNat t0) := RGB_adv hp_0 rfl rfl (by omega) hp
    have ok_29 := hdI (RGB_ok hG ha_x rg_28)
    have ok_30 : ((nxT (rB S x) (pI S 1228 x).toInt.toNat t0)).2.1 ≤ ((nxT (rB S x) (pI S 1228 x).toInt.toNat t0)).2.2 ∧ ((nxT (rB S x) (pI S 1228 x).toInt.toNat t0)).2.2 ≤ 400 := ⟨(hdE ok_29).1, (hdE ok_29).2.1⟩
    refine lv_iconst (v := 1) X.1 X.2.1 dX12_must_18 (by decide) ?_
    have t_31 : pI S_25 1230 x = v_1 := hk_26.fr.I' (by decide +kernel) ha_x ev_1
    have pz_32 : (pI S_25 1230 x).toInt = v_1.toInt := (congrArg Int32.toInt t_31).trans rfl
    exact ret_z X hw hr hlocks (Nat.le_of_ble_eq_true rfl) (Nat.le_of_ble_eq_true rfl) (by decide) ⟨hO_27, Or.inl ⟨⟨f_14, rg_28, by have h := f_14.1; omega⟩, rfl⟩⟩ dX12_must_19
  · have z_b_33 := trivial
    refine lv_if_ne (tgt := 14) X.1 X.2.1 dX12_must_5 (by decide) (fun c_34 => absurd c_34 (by decide)) (fun c_34 => ?_)
    refine lv_aload_n X.1 X.2.1 dX12_must_8 rfl (lv_at hl 0 rfl) ?_
    refine lv_iconst (v := 1) X.1 X.2.1 dX12_must_9 (by decide) ?_
    refine k_i (rm := { frames := 1, cells := 0, slots := 0, locals := 48 }) (av := [.ref x, .int 1]) X hw (va_runV (As := [.int 1]) (rest := []) (cfix X) (k_X12_wrong2 l G cy κ S _ x (1) (1) hO.1 ha_x ti_1) (cwV 1 X.2.2.2.1 gX12_must_X12_wrong rfl rfl rfl (by decide +kernel) ⟨Nat.le_of_ble_eq_true rfl, Nat.le_of_ble_eq_true rfl⟩) (pre_V X hw _ ha_x rfl (by decide) rfl) rfl rfl hl.1 rfl (lv_room (Nat.le_of_ble_eq_true rfl)) dX12_must_10 ⟨Nat.le_of_ble_eq_true rfl, Nat.le_of_ble_eq_true rfl⟩) 0 0 (Nat.le_of_ble_eq_true rfl) (Nat.le_of_ble_eq_true rfl) (fun rr_35 S_36 H locs hp hw hfr hnw => ?_)
    obtain ⟨hk_37, hp⟩ := hp
    have hO_38 : Ok MM S S_36 := hO.call hk_37 (by decide +kernel)
    rcases hp with ⟨f_39, er_40⟩ | ⟨f_39, er_40⟩ <;> subst er_40
    · have z_b_41 := trivial
      exact f_39.elim
    · have z_b_42 := trivial
      exact ret_z X hw hr hlocks (Nat.le_of_ble_eq_true rfl) (Nat.le_of_ble_eq_true rfl) (by decide) ⟨hO_38, Or.inr ⟨⟨f_14, f_39⟩, rfl⟩⟩ dX12_must_13
set_option maxHeartbeats 4000000 in
set_option maxRecDepth 100000 in
theorem k_X12_number2 (l : Launch) (G : va_G) (cy : Nat → ClassId) (κ : Nat → Nat) (S : PS) (sz : Nat) (x : Nat) (t0 : Tk) (hG : GX S) (ha_x : At S x 12) (hp_0 : RGB (rB S x) (pI S 1228 x).toInt.toNat S x t0) : Ci l yX12_number wsX12_number ({ frames := 3, cells := 0, slots := 0, locals := 144 }) G cy κ S sz [.ref x] (fun (r : Int32) (S9 : PS) => Ok MM S S9 ∧ (0 ≤ r.toInt ∧ r.toInt ≤ 9999 ∧ (t0.1 = 2 → r.toInt = numF (rB S x) t0.2.1 (t0.2.2 - t0.2.1) ∧ RGB (rB S x) (pI S 1228 x).toInt.toNat S9 x (nxT (rB S x) (pI S 1228 x).toInt.toNat t0) ∧ (pI S9 1230 x).toInt = (pI S 1230 x).toInt) ∧ (t0.1 ≠ 2 → RGB (rB S x) (pI S 1228 x).toInt.toNat S9 x t0 ∧ (((pI S 1230 x).toInt = 0 → (pI S9 1230 x).toInt = 1) ∧ ((pI S 1230 x).toInt ≠ 0 → (pI S9 1230 x).toInt = (pI S 1230 x).toInt))))) := by
  refine ent_m (cc := cX12_number) (maxL := 2) (ret := (some .int)) (by decide) rfl (Nat.le_of_ble_eq_true rfl) ?_
  intro p e s m below meth c ls X hr hlocks hin hw hl hsz
  subst hsz
  have X : Cx p c cX12_number 2 s [.ref x].toArray wsX12_number RX12 m G cy κ (AS S s.heap.size) := X
  have hl : lv_has ls 2 [(0, .ref x)] := hl
  have hO : Ok MM S S := Ok.rf hG
  have hok := hdI (RGB_ok hG ha_x hp_0)
  have hok1 : t0.2.1 ≤ t0.2.2 ∧ t0.2.2 ≤ 400 := ⟨(hdE hok).1, (hdE hok).2.1⟩
  obtain ⟨v_1, ev_1⟩ : ∃ v, pI S 1230 x = v := ⟨_, rfl⟩
  have rg_3 := And.intro (z_lo v_1) (z_hi v_1)
  have pz_4 : (pI S 1230 x).toInt = v_1.toInt := by rw [ev_1]
  have pz_5 : (pI S 1230 x).toInt = v_1.toInt := (congrArg Int32.toInt ev_1).trans rfl
  obtain ⟨v_6, ev_6⟩ : ∃ v, pI S 1231 x = v := ⟨_, rfl⟩
  have rg_8 := And.intro (z_lo v_6) (z_hi v_6)
  have pz_9 : (pI S 1231 x).toInt = v_6.toInt := by rw [ev_6]
  have pz_10 : (pI S 1231 x).toInt = v_6.toInt := (congrArg Int32.toInt ev_6).trans rfl
  have htk1 := hp_0.1.1
  refine lv_aload_n X.1 X.2.1 dX12_number_0 rfl (lv_at hl 0 rfl) ?_
  refine r_getI (g := 1231) (x := v_6) X hw ha_x rfl 31 ev_6 (by decide) rfl inn_X12_number_12 (by decide) (X.2.2.2.1 (.fieldLink RX12 223 "SilkMillModel" "kind" "I") (by decide +kernel)) rfl (gv_1231 _ _) dX12_number_1 ?_
  refine lv_iconst (v := 2) X.1 X.2.1 dX12_number_4 (by decide) ?_
  refine lv_icmp_eq (tgt := 16) X.1 X.2.1 dX12_number_5 (by decide) (fun c_11 => ?_) (fun c_11 => ?_)
  · have z_b_12 := trivial
    have k_13 : v_6.toInt = 2 := z_eq rfl ti_2 c_11
    refine lv_aload_n X.1 X.2.1 dX12_number_16 rfl (lv_at hl 0 rfl) ?_
    obtain ⟨v_14, ev_14⟩ : ∃ v, pI S 1234 x = v := ⟨_, rfl⟩
    have rg_16 := And.intro (z_lo v_14) (z_hi v_14)
    have pz_17 : (pI S 1234 x).toInt = v_14.toInt := by rw [ev_14]
    have pz_18 : (pI S 1234 x).toInt = v_14.toInt := (congrArg Int32.toInt ev_14).trans rfl
    have k2_20 := (hdE hok).2.2.1 (by omega)
    have vr_19 := numF_rng (B := rB S x) (s := t0.2.1) (k := t0.2.2 - t0.2.1) (fun j hj => of_decide_eq_true (k2_20.2 (t0.2.1 + j) (by omega) (by omega))) k2_20.1
    have vv_21 := hp_0.2.2 (by omega)
    refine r_getI (g := 1234) (x := v_14) X hw ha_x rfl 34 ev_14 (by decide) rfl inn_X12_number_12 (by decide) (X.2.2.2.1 (.fieldLink RX12 226 "SilkMillModel" "value" "I") (by decide +kernel)) rfl (gv_1234 _ _) dX12_number_17 ?_
    refine lv_istore_n (lv' := [(1, .int (v_14)), (0, .ref x)]) X.1 X.2.1 dX12_number_20 rfl hl (by decide) rfl (fun ls hl => ?_)
    refine lv_aload_n X.1 X.2.1 dX12_number_21 rfl (lv_at hl 1 rfl) ?_
    have ok_22 := hdI (RGB_ok hG ha_x hp_0)
    have ok_23 : (t0).2.1 ≤ (t0).2.2 ∧ (t0).2.2 ≤ 400 := ⟨(hdE ok_22).1, (hdE ok_22).2.1⟩
    obtain ⟨v_24, ev_24⟩ : ∃ v, pI S 1233 x = v := ⟨_, rfl⟩
    have rg_25 := gI_12_1233 hO.1 ha_x; rw [ev_24] at rg_25
    have pz_26 : (pI S 1233 x).toInt = v_24.toInt := by rw [ev_24]
    have pz_27 : (pI S 1233 x).toInt = v_24.toInt := (congrArg Int32.toInt ev_24).trans rfl
    refine k_v (rm := { frames := 2, cells := 0, slots := 0, locals := 96 }) (av := [.ref x]) X hw (va_runV (As := []) (rest := []) (cfix X) (k_X12_token2 l G cy κ S _ x hO.1 ha_x) (cwV 0 X.2.2.2.1 gX12_number_X12_token rfl rfl rfl (by decide +kernel) ⟨Nat.le_of_ble_eq_true rfl, Nat.le_of_ble_eq_true rfl⟩) (pre_V X hw _ ha_x rfl (by decide) rfl) rfl rfl hl.1 rfl (lv_room (Nat.le_of_ble_eq_true rfl)) dX12_number_22 ⟨Nat.le_of_ble_eq_true rfl, Nat.le_of_ble_eq_true rfl⟩) 0 0 (Nat.le_of_ble_eq_true rfl) (Nat.le_of_ble_eq_true rfl) (fun S_29 H locs hp hw hfr hnw => ?_)
    obtain ⟨hk_30, hp⟩ := hp
    have hO_31 : Ok MM S S_29 := hO.call hk_30 (by decide +kernel)
    have rg_32 : RGB (rB S x) (pI S 1228 x).toInt.toNat S_29 x (nxT (rB S x) (pI S 1228 x).toInt.toNat t0) := RGB_adv hp_0 rfl rfl (by omega) hp
    have ok_33 := hdI (RGB_ok hG ha_x rg_32)
    have ok_34 : ((nxT (rB S x) (pI S 1228 x).toInt.toNat t0)).2.1 ≤ ((nxT (rB S x) (pI S 1228 x).toInt.toNat t0)).2.2 ∧ ((nxT (rB S x) (pI S 1228 x).toInt.toNat t0)).2.2 ≤ 400 := ⟨(hdE ok_33).1, (hdE ok_33).2.1⟩
    refine lv_iload_n X.1 X.2.1 dX12_number_25 rfl (lv_at hl 0 rfl) ?_
    have t_35 : pI S_29 1230 x = v_1 := hk_30.fr.I' (by decide +kernel) ha_x ev_1
    have pz_36 : (pI S_29 1230 x).toInt = v_1.toInt := (congrArg Int32.toInt t_35).trans rfl
    exact ret_i X hw hr hlocks (Nat.le_of_ble_eq_true rfl) (Nat.le_of_ble_eq_true rfl) ⟨hO_31, ⟨by omega, by omega, fun _ => ⟨by omega, rg_32, by omega⟩, fun h => absurd (by omega) h⟩⟩ dX12_number_26
  · have z_b_37 := trivial
    have k_38 : v_6.toInt ≠ 2 := z_ne rfl ti_2 c_11
    refine lv_aload_n X.1 X.2.1 dX12_number_8 rfl (lv_at hl 0 rfl) ?_
    refine lv_iconst (v := 1) X.1 X.2.1 dX12_number_9 (by decide) ?_
    refine k_i (rm := { frames := 1, cells := 0, slots := 0, locals := 48 }) (av := [.ref x, .int 1]) X hw (va_runV (As := [.int 1]) (rest := []) (cfix X) (k_X12_wrong2 l G cy κ S _ x (1) (1) hO.1 ha_x ti_1) (cwV 1 X.2.2.2.1 gX12_number_X12_wrong rfl rfl rfl (by decide +kernel) ⟨Nat.le_of_ble_eq_true rfl, Nat.le_of_ble_eq_true rfl⟩) (pre_V X hw _ ha_x rfl (by decide) rfl) rfl rfl hl.1 rfl (lv_room (Nat.le_of_ble_eq_true rfl)) dX12_number_10 ⟨Nat.le_of_ble_eq_true rfl, Nat.le_of_ble_eq_true rfl⟩) 0 0 (Nat.le_of_ble_eq_true rfl) (Nat.le_of_ble_eq_true rfl) (fun rr_39 S_40 H locs hp hw hfr hnw => ?_)
    obtain ⟨hk_41, hp⟩ := hp
    have hO_42 : Ok MM S S_40 := hO.call hk_41 (by decide +kernel)
    rcases hp with ⟨f_43, er_44⟩ | ⟨f_43, er_44⟩ <;> subst er_44
    · have z_b_45 := trivial
      exact f_43.elim
    · have z_b_46 := trivial
      refine lv_istore_n (lv' := [(1, .int 0), (0, .ref x)]) X.1 X.2.1 dX12_number_13 rfl hl (by decide) rfl (fun ls hl => ?_)
      refine lv_iconst (v := 0) X.1 X.2.1 dX12_number_14 (by decide) ?_
      obtain ⟨v_48, ev_48⟩ : ∃ v, pI S_40 1230 x = v := ⟨_, rfl⟩
      have rg_50 := And.intro (z_lo v_48) (z_hi v_48)
      have pz_51 : (pI S_40 1230 x).toInt = v_48.toInt := by rw [ev_48]
      have pz_52 : (pI S_40 1230 x).toInt = v_48.toInt := (congrArg Int32.toInt ev_48).trans rfl
      have rg_53 := RGB_fr hp_0 ha_x hk_41.fr (by decide +kernel)
      exact ret_i X hw hr hlocks (Nat.le_of_ble_eq_true rfl) (Nat.le_of_ble_eq_true rfl) ⟨hO_42, ⟨by decide, by decide, fun h => absurd h (by omega), fun _ => ⟨rg_53, f_43⟩⟩⟩ dX12_number_15
