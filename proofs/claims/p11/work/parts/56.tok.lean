/-! ===== tokens: what class and reference read alike ===== -/
def Hd (p : Prop) : Prop := p
theorem hdI {p : Prop} (h : p) : Hd p := h
theorem hdE {p : Prop} (h : Hd p) : p := h
def runP (P : Int → Bool) (B : Nat → Int) : Nat → Nat → Nat
  | 0, p => p
  | f + 1, p => if P (B p) = true then runP P B f (p + 1) else p
theorem runP_sp {P : Int → Bool} {B : Nat → Int} : ∀ (f : Nat) {a q : Nat}, a ≤ q → q ≤ a + f → (∀ j, a ≤ j → j < q → P (B j) = true) → P (B q) = false → runP P B f a = q
  | 0, a, q, h1, h2, _, _ => by
    unfold runP
    omega
  | f + 1, a, q, h1, h2, h3, h4 => by
    unfold runP
    by_cases e : a = q
    · subst e; rw [if_neg (by rw [h4]; decide)]
    · rw [if_pos (h3 a (Nat.le_refl a) (by omega))]
      exact runP_sp f (by omega) (by omega) (fun j hj hq => h3 j (by omega) hq) h4
def blaP (v : Int) : Bool := decide (v = 32 ∨ v = 10)
def letP (v : Int) : Bool := decide (97 ≤ v ∧ v ≤ 122)
def digP (v : Int) : Bool := decide (48 ≤ v ∧ v ≤ 57)
def sgnP (v : Int) : Bool := decide (v = 60 ∨ v = 61 ∨ v = 62 ∨ v = 58 ∨ v = 59)
abbrev Tk : Type := Nat × Nat × Nat
def tokS (B : Nat → Int) (n s : Nat) : Tk := if n ≤ s then (0, s, s) else if letP (B s) = true then ((if runP letP B 400 s - s ≤ 8 then 1 else 4), s, runP letP B 400 s) else if digP (B s) = true then ((if runP digP B 400 s - s ≤ 4 then 2 else 4), s, runP digP B 400 s) else ((if sgnP (B s) = true then 3 else 4), s, s + 1)
/-- the token that begins at or behind a: its kind, where it begins, what is behind it -/
def tokF (B : Nat → Int) (n a : Nat) : Tk := tokS B n (runP blaP B 400 a)
theorem tokF_at {B : Nat → Int} {n a s : Nat} (h1 : a ≤ s) (h2 : s ≤ a + 400) (h3 : ∀ j, a ≤ j → j < s → blaP (B j) = true) (h4 : blaP (B s) = false) : tokF B n a = tokS B n s := by
  unfold tokF
  rw [runP_sp 400 h1 h2 h3 h4]
theorem tokS_end {B : Nat → Int} {n s : Nat} (h : n ≤ s) : tokS B n s = (0, s, s) := by unfold tokS; rw [if_pos h]
theorem tokS_let {B : Nat → Int} {n s e : Nat} (h : s < n) (hl : letP (B s) = true) (h1 : s ≤ e) (h2 : e ≤ s + 400) (h3 : ∀ j, s ≤ j → j < e → letP (B j) = true) (h4 : letP (B e) = false) : tokS B n s = ((if e - s ≤ 8 then 1 else 4), s, e) := by
  unfold tokS
  rw [if_neg (by omega), if_pos hl, runP_sp 400 h1 h2 h3 h4]
theorem tokS_dig {B : Nat → Int} {n s e : Nat} (h : s < n) (hl : letP (B s) = false) (hd : digP (B s) = true) (h1 : s ≤ e) (h2 : e ≤ s + 400) (h3 : ∀ j, s ≤ j → j < e → digP (B j) = true) (h4 : digP (B e) = false) : tokS B n s = ((if e - s ≤ 4 then 2 else 4), s, e) := by
  unfold tokS
  rw [if_neg (by omega), if_neg (by rw [hl]; decide), if_pos hd, runP_sp 400 h1 h2 h3 h4]
theorem tokS_sgn {B : Nat → Int} {n s : Nat} (h : s < n) (hl : letP (B s) = false) (hd : digP (B s) = false) : tokS B n s = ((if sgnP (B s) = true then 3 else 4), s, s + 1) := by
  unfold tokS
  rw [if_neg (by omega), if_neg (by rw [hl]; decide), if_neg (by rw [hd]; decide)]
/-- the number that k digits from s on tell -/
def numF (B : Nat → Int) (s : Nat) : Nat → Int
  | 0 => 0
  | k + 1 => 10 * numF B s k + (B (s + k) - 48)
theorem nxT_ex (B : Nat → Int) (n : Nat) : ∃ f : Tk → Tk, f = fun t => tokF B n t.2.2 := ⟨_, rfl⟩
noncomputable def nxT (B : Nat → Int) (n : Nat) : Tk → Tk := Classical.choose (nxT_ex B n)
theorem nxT_eq (B : Nat → Int) (n : Nat) (t : Tk) : nxT B n t = tokF B n t.2.2 := congrFun (Classical.choose_spec (nxT_ex B n)) t
theorem numF_s {B : Nat → Int} {s k : Nat} : numF B s (k + 1) = 10 * numF B s k + (B (s + k) - 48) := rfl
theorem numF_rng {B : Nat → Int} {s : Nat} : ∀ {k : Nat}, (∀ j, j < k → 48 ≤ B (s + j) ∧ B (s + j) ≤ 57) → k ≤ 4 → 0 ≤ numF B s k ∧ numF B s k ≤ 9999 := by
  intro k h hk
  have h1 : ∀ m : Nat, m ≤ k → 0 ≤ numF B s m := by
    intro m
    induction m with
    | zero => intro _; unfold numF; omega
    | succ m ih => intro hm; rw [numF_s]; have := ih (by omega); have := h m (by omega); omega
  refine ⟨h1 k (Nat.le_refl k), ?_⟩
  rcases (show k = 0 ∨ k = 1 ∨ k = 2 ∨ k = 3 ∨ k = 4 by omega) with e | e | e | e | e
  · subst e; unfold numF; omega
  · subst e; rw [numF_s]; have := h 0 (by omega); show 10 * 0 + _ ≤ _; omega
  · subst e; rw [numF_s, numF_s]; have := h 0 (by omega); have := h 1 (by omega); show 10 * (10 * 0 + _) + _ ≤ _; omega
  · subst e; rw [numF_s, numF_s, numF_s]; have := h 0 (by omega); have := h 1 (by omega); have := h 2 (by omega); show 10 * (10 * (10 * 0 + _) + _) + _ ≤ _; omega
  · subst e; rw [numF_s, numF_s, numF_s, numF_s]; have := h 0 (by omega); have := h 1 (by omega); have := h 2 (by omega); have := h 3 (by omega); show 10 * (10 * (10 * (10 * 0 + _) + _) + _) + _ ≤ _; omega
/-- the token t is the word i -/
def isT1 (B : Nat → Int) (t : Tk) (i : Nat) : Prop := t.1 = 1 ∧ t.2.2 - t.2.1 = strN i ∧ ∀ j, j < strN i → B (t.2.1 + j) = (strB i j).toInt
/-- the first word of a row that the token is; -1 without any -/
noncomputable def whG (B : Nat → Int) (t : Tk) : List Nat → Int → Int
  | [], _ => -1
  | i :: L, k => @ite Int (isT1 B t i) (Classical.propDecidable _) k (whG B t L (k + 1))
theorem whF_ex (B : Nat → Int) (t : Tk) : ∃ f : List Nat → Int → Int, f = whG B t := ⟨_, rfl⟩
noncomputable def whF (B : Nat → Int) (t : Tk) : List Nat → Int → Int := Classical.choose (whF_ex B t)
theorem whF_eq (B : Nat → Int) (t : Tk) : whF B t = whG B t := Classical.choose_spec (whF_ex B t)
theorem whF_y {B : Nat → Int} {t : Tk} {i : Nat} {L : List Nat} {k : Int} (h : isT1 B t i) : whF B t (i :: L) k = k := by
  rw [whF_eq]
  show @ite Int (isT1 B t i) (Classical.propDecidable _) k (whG B t L (k + 1)) = k
  exact if_pos h
theorem whF_n {B : Nat → Int} {t : Tk} {i : Nat} {L : List Nat} {k : Int} (h : ¬ isT1 B t i) : whF B t (i :: L) k = whF B t L (k + 1) := by
  rw [whF_eq]
  show @ite Int (isT1 B t i) (Classical.propDecidable _) k (whG B t L (k + 1)) = _
  exact if_neg h
theorem whF_e {B : Nat → Int} {t : Tk} {k : Int} : whF B t [] k = -1 := by rw [whF_eq]; rfl
theorem runP_ge {P : Int → Bool} {B : Nat → Int} : ∀ (f a : Nat), a ≤ runP P B f a
  | 0, a => Nat.le_refl a
  | f + 1, a => by
    unfold runP
    split
    · have := runP_ge (P := P) (B := B) f (a + 1); omega
    · exact Nat.le_refl a
theorem runP_all {P : Int → Bool} {B : Nat → Int} : ∀ (f a j : Nat), a ≤ j → j < runP P B f a → P (B j) = true
  | 0, a, j, h1, h2 => by unfold runP at h2; omega
  | f + 1, a, j, h1, h2 => by
    unfold runP at h2
    by_cases e : P (B a) = true
    · rw [if_pos e] at h2
      by_cases e2 : j = a
      · rw [e2]; exact e
      · exact runP_all f (a + 1) j (by omega) h2
    · rw [if_neg e] at h2; omega
theorem runP_le {P : Int → Bool} {B : Nat → Int} {N : Nat} (h : ∀ j, N ≤ j → P (B j) = false) : ∀ (f a : Nat), a ≤ N → runP P B f a ≤ N
  | 0, a, ha => ha
  | f + 1, a, ha => by
    unfold runP
    by_cases e : P (B a) = true
    · rw [if_pos e]
      refine runP_le h f (a + 1) ?_
      by_cases e2 : N ≤ a
      · rw [h a e2] at e; cases e
      · omega
    · rw [if_neg e]; exact ha
theorem tok_ok {B : Nat → Int} {n a : Nat} (hB : ∀ j, n ≤ j → B j = 0) (hn : n ≤ 400) (ha : a ≤ 400) : (tokF B n a).2.1 ≤ (tokF B n a).2.2 ∧ (tokF B n a).2.2 ≤ 400 ∧ ((tokF B n a).1 = 2 → (tokF B n a).2.2 - (tokF B n a).2.1 ≤ 4 ∧ ∀ j, (tokF B n a).2.1 ≤ j → j < (tokF B n a).2.2 → digP (B j) = true) ∧ ((tokF B n a).1 = 0 ∨ (tokF B n a).2.1 < n) := by
  have h0 : ∀ (P : Int → Bool), P 0 = false → ∀ j, 400 ≤ j → P (B j) = false := fun P hP j hj => by rw [hB j (by omega)]; exact hP
  have hs := runP_le (h0 blaP rfl) 400 a ha
  unfold tokF
  generalize runP blaP B 400 a = s at hs ⊢
  unfold tokS
  by_cases e1 : n ≤ s
  · rw [if_pos e1]
    exact ⟨Nat.le_refl s, hs, fun h => absurd (show (0 : Nat) = 2 from h) (by decide), Or.inl rfl⟩
  rw [if_neg e1]
  by_cases e2 : letP (B s) = true
  · rw [if_pos e2]
    refine ⟨runP_ge _ _, runP_le (h0 letP rfl) 400 s hs, fun h => ?_, Or.inr (by show s < n; omega)⟩
    exfalso
    have h : (if runP letP B 400 s - s ≤ 8 then 1 else 4) = 2 := h
    split at h <;> omega
  rw [if_neg e2]
  by_cases e3 : digP (B s) = true
  · rw [if_pos e3]
    refine ⟨runP_ge _ _, runP_le (h0 digP rfl) 400 s hs, fun h => ?_, Or.inr (by show s < n; omega)⟩
    have h : (if runP digP B 400 s - s ≤ 4 then 2 else 4) = 2 := h
    refine ⟨?_, fun j h1 h2 => runP_all 400 s j h1 h2⟩
    show runP digP B 400 s - s ≤ 4
    split at h
    · assumption
    · omega
  rw [if_neg e3]
  refine ⟨by show s ≤ s + 1; omega, by show s + 1 ≤ 400; omega, fun h => ?_, Or.inr (by show s < n; omega)⟩
  exfalso
  have h : (if sgnP (B s) = true then 3 else 4) = 2 := h
  split at h <;> omega
/-! ===== the tape of the class ===== -/
theorem tB_ex (S : PS) (x : Nat) : ∃ f : Nat → Int, f = fun (i : Nat) => if (i : Int) < (pI S 1000 x).toInt then (mA S x 1003 i).toInt else 0 := ⟨_, rfl⟩
noncomputable def tB (S : PS) (x : Nat) : Nat → Int := Classical.choose (tB_ex S x)
theorem tB_eq (S : PS) (x i : Nat) : tB S x i = if (i : Int) < (pI S 1000 x).toInt then (mA S x 1003 i).toInt else 0 := congrFun (Classical.choose_spec (tB_ex S x)) i
theorem tB_in {S : PS} {x q : Nat} {i u : Int32} {z : Int} (hR : pR S 1003 x = some q) (zp : i.toInt = z) (h0 : 0 ≤ z) (h1 : z < (pI S 1000 x).toInt) (ha : pA S q i.toNatClampNeg = u) : tB S x z.toNat = u.toInt := by
  rw [tB_eq, if_pos (by omega), mA_eq hR, ← z_nc zp h0, ha]
theorem tB_out {S : PS} {x : Nat} {z : Int} (h0 : 0 ≤ z) (h1 : (pI S 1000 x).toInt ≤ z) : tB S x z.toNat = 0 := by
  rw [tB_eq, if_neg (by omega)]
theorem tB_fr {M : List Nat} {S S' : PS} {x : Nat} (hG : GX S) (ha : At S x 10) (hF : Fr M S S') (hM : ([1000, 1003, 10013] : List Nat).all (fun g => !M.contains g) = true) : tB S' x = tB S x := by
  funext i
  rw [tB_eq, tB_eq, hF.I' (allc hM (by decide)) ha rfl, mA_frc hF ha (ex3 (gQ_10_1003 hG ha)) (allc hM (by decide)) (allc hM (by decide))]
/-- a token stands in the tape of the class -/
def TokAt (S : PS) (x : Nat) (t : Tk) : Prop := (pI S 1004 x).toInt = (t.1 : Int) ∧ (pI S 1005 x).toInt = (t.2.1 : Int) ∧ (pI S 1006 x).toInt = (t.2.2 : Int)
theorem all_ext {P : Int → Bool} {B : Nat → Int} {a q : Int} (h : ∀ j : Nat, a ≤ (j : Int) → (j : Int) < q → P (B j) = true) (hq : P (B q.toNat) = true) (h0 : 0 ≤ q) : ∀ j : Nat, a ≤ (j : Int) → (j : Int) < q + 1 → P (B j) = true := fun j h1 h2 => by
  rcases (show (j : Int) < q ∨ (j : Int) = q by omega) with e | e
  · exact h j h1 e
  · rw [show j = q.toNat by omega]; exact hq
theorem all_nat {P : Int → Bool} {B : Nat → Int} {a q : Int} (h : ∀ j : Nat, a ≤ (j : Int) → (j : Int) < q → P (B j) = true) (h0 : 0 ≤ a) : ∀ j : Nat, a.toNat ≤ j → j < q.toNat → P (B j) = true := fun j h1 h2 => h j (by omega) (by omega)
theorem blaP_t {v : Int} (h : v = 32 ∨ v = 10) : blaP v = true := decide_eq_true h
theorem blaP_f {v : Int} (h : ¬ (v = 32 ∨ v = 10)) : blaP v = false := decide_eq_false h
theorem letP_t {v : Int} (h : 97 ≤ v ∧ v ≤ 122) : letP v = true := decide_eq_true h
theorem letP_f {v : Int} (h : ¬ (97 ≤ v ∧ v ≤ 122)) : letP v = false := decide_eq_false h
theorem digP_t {v : Int} (h : 48 ≤ v ∧ v ≤ 57) : digP v = true := decide_eq_true h
theorem digP_f {v : Int} (h : ¬ (48 ≤ v ∧ v ≤ 57)) : digP v = false := decide_eq_false h
theorem sgnP_t {v : Int} (h : v = 60 ∨ v = 61 ∨ v = 62 ∨ v = 58 ∨ v = 59) : sgnP v = true := decide_eq_true h
theorem sgnP_f {v : Int} (h : ¬ (v = 60 ∨ v = 61 ∨ v = 62 ∨ v = 58 ∨ v = 59)) : sgnP v = false := decide_eq_false h
theorem TokAt_mk {S : PS} {x k s e : Nat} (h1 : (pI S 1004 x).toInt = (k : Int)) (h2 : (pI S 1005 x).toInt = (s : Int)) (h3 : (pI S 1006 x).toInt = (e : Int)) : TokAt S x (k, s, e) := ⟨h1, h2, h3⟩
/-- a token stands in the tape; it was read from some place on -/
def GB (B : Nat → Int) (n : Nat) (S : PS) (x : Nat) (t : Tk) : Prop := TokAt S x t ∧ ∃ a, a ≤ 400 ∧ t = tokF B n a
theorem tB_0 {S : PS} {x : Nat} : ∀ j, (pI S 1000 x).toInt.toNat ≤ j → tB S x j = 0 := fun j hj => by rw [tB_eq, if_neg (by omega)]
theorem GB_ok {S S1 : PS} {x : Nat} {t : Tk} (hG : GX S) (ha : At S x 10) (h : GB (tB S x) (pI S 1000 x).toInt.toNat S1 x t) : t.2.1 ≤ t.2.2 ∧ t.2.2 ≤ 400 ∧ (t.1 = 2 → t.2.2 - t.2.1 ≤ 4 ∧ ∀ j, t.2.1 ≤ j → j < t.2.2 → digP (tB S x j) = true) ∧ (t.1 = 0 ∨ t.2.1 < (pI S 1000 x).toInt.toNat) := by
  obtain ⟨-, a, h1, h2⟩ := h
  have hr := gI_10_1000 hG ha
  rw [h2]
  exact tok_ok tB_0 (by omega) h1
theorem GB_adv {B : Nat → Int} {n : Nat} {S1 S2 : PS} {x : Nat} {t : Tk} (h : GB B n S1 x t) (hB : tB S1 x = B) (hn : (pI S1 1000 x).toInt.toNat = n) (ok : t.2.2 ≤ 400) (hp : TokAt S2 x (tokF (tB S1 x) (pI S1 1000 x).toInt.toNat (pI S1 1006 x).toInt.toNat)) : GB B n S2 x (nxT B n t) := by
  rw [hB, hn, h.1.2.2, show ((t.2.2 : Nat) : Int).toNat = t.2.2 from Int.toNat_natCast _] at hp
  exact ⟨by rw [nxT_eq]; exact hp, t.2.2, ok, nxT_eq B n t⟩
theorem TokAt_eq {S S1 : PS} {x : Nat} {t : Tk} (h : TokAt S x t) (h4 : pI S1 1004 x = pI S 1004 x) (h5 : pI S1 1005 x = pI S 1005 x) (h6 : pI S1 1006 x = pI S 1006 x) : TokAt S1 x t := ⟨by rw [h4]; exact h.1, by rw [h5]; exact h.2.1, by rw [h6]; exact h.2.2⟩
theorem GB_fr {B : Nat → Int} {n : Nat} {M : List Nat} {S S1 : PS} {x : Nat} {t : Tk} (h : GB B n S x t) (ha : At S x 10) (hF : Fr M S S1) (hM : ([1004, 1005, 1006] : List Nat).all (fun g => !M.contains g) = true) : GB B n S1 x t := ⟨TokAt_eq h.1 (hF.I' (allc hM (by decide)) ha rfl) (hF.I' (allc hM (by decide)) ha rfl) (hF.I' (allc hM (by decide)) ha rfl), h.2⟩
theorem GB_sI {B : Nat → Int} {n : Nat} {S S1 : PS} {x g a : Nat} {v : Int32} {t : Tk} (h : GB B n S x t) (e : S1 = sI S g a v) (h4 : 1004 ≠ g) (h5 : 1005 ≠ g) (h6 : 1006 ≠ g) : GB B n S1 x t := ⟨TokAt_eq h.1 (by rw [e]; exact pI_sI_nf h4) (by rw [e]; exact pI_sI_nf h5) (by rw [e]; exact pI_sI_nf h6), h.2⟩
theorem GB_sA {B : Nat → Int} {n : Nat} {S S1 : PS} {x a : Nat} {f : Nat → Int32} {t : Tk} (h : GB B n S x t) (e : S1 = sA S a f) : GB B n S1 x t := ⟨TokAt_eq h.1 (by rw [e]; rfl) (by rw [e]; rfl) (by rw [e]; rfl), h.2⟩
/-! ===== texts ===== -/
theorem strB_rng (i j : Nat) : 0 ≤ (strB i j).toInt ∧ (strB i j).toInt ≤ 127 := by
  unfold strB
  have h : ∀ c ∈ (strT i).toList, c.toNat < 128 := by
    by_cases hi : i < 26
    · have : ∀ j : Fin 26, ∀ c ∈ (strT j).toList, c.toNat < 128 := by decide +kernel
      exact this ⟨i, hi⟩
    · unfold strT
      rw [List.getD_eq_getElem?_getD, List.getElem?_eq_none (by simpa [strs] using hi)]
      intro c hc
      cases hc
  rw [List.getD_eq_getElem?_getD, List.getElem?_map]
  cases e : (strT i).toList[j]? with
  | none => exact ⟨by decide, by decide⟩
  | some c =>
    have hc := h c (List.mem_of_getElem? e)
    show 0 ≤ (Int32.ofNat c.toNat).toInt ∧ (Int32.ofNat c.toNat).toInt ≤ 127
    rw [Int32.toInt_ofNat_of_lt (by omega)]
    omega
theorem z_and255e {x v : Int32} (e : v = x &&& 255) : v.toInt = x.toInt % 256 := by
  subst e
  have h2 : (x &&& 255).toUInt32.toNat = x.toUInt32.toNat % 256 := by
    show (x.toUInt32 &&& 255).toNat = _
    rw [UInt32.toNat_and]
    exact Nat.and_two_pow_sub_one_eq_mod _ 8
  have h4 : (x &&& 255).toInt = ((x &&& 255).toUInt32.toNat : Int).bmod (2 ^ 32) := BitVec.toInt_eq_toNat_bmod _
  have h5 : x.toInt = (x.toUInt32.toNat : Int).bmod (2 ^ 32) := BitVec.toInt_eq_toNat_bmod _
  rw [h4, h2, bm_id (by omega) (by omega), h5, Int.bmod_def]
  split <;> omega
theorem z_i2ce {x v : Int32} (e : v = (x.toUInt32 % 65536).toInt32) (h0 : 0 ≤ x.toInt) (h1 : x.toInt ≤ 65535) : v.toInt = x.toInt := by
  subst e
  have h2 : (x.toUInt32 % 65536).toNat = x.toUInt32.toNat % 65536 := UInt32.toNat_mod _ _
  have h4 : (x.toUInt32 % 65536).toInt32.toInt = ((x.toUInt32 % 65536).toNat : Int).bmod (2 ^ 32) := BitVec.toInt_eq_toNat_bmod _
  have h5 : x.toInt = (x.toUInt32.toNat : Int).bmod (2 ^ 32) := BitVec.toInt_eq_toNat_bmod _
  have h6 := x.toUInt32.toNat_lt
  rw [h4, h2, bm_id (by omega) (by omega)]
  rw [Int.bmod_def] at h5
  split at h5 <;> omega
theorem GB_0 {B : Nat → Int} {n : Nat} {S1 S2 : PS} {x : Nat} (hB : tB S1 x = B) (hn : (pI S1 1000 x).toInt.toNat = n) (h6 : (pI S1 1006 x).toInt = 0) (hp : TokAt S2 x (tokF (tB S1 x) (pI S1 1000 x).toInt.toNat (pI S1 1006 x).toInt.toNat)) : GB B n S2 x (tokF B n 0) := by
  rw [hB, hn, h6] at hp
  exact ⟨hp, 0, by omega, rfl⟩
/-! ===== the grammar: what follows from a token ===== -/
def sgT (B : Nat → Int) (t : Tk) (c : Int) : Prop := t.1 = 3 ∧ B t.2.1 = c
noncomputable def cit {α : Type} (p : Prop) (a b : α) : α := @ite α p (Classical.propDecidable p) a b
theorem cit_y {α : Type} {p : Prop} {a b : α} (h : p) : cit p a b = a := if_pos h
theorem cit_n {α : Type} {p : Prop} {a b : α} (h : ¬ p) : cit p a b = b := if_neg h
def FLs : List Nat := [4, 5, 6, 7, 8, 9, 10]
def ALs : List Nat := [11, 12, 13, 14, 15, 16]
def cOk (B : Nat → Int) (n : Nat) (t : Tk) : Prop := whF B t FLs 0 ≠ -1 ∧ (sgT B (nxT B n t) 60 ∨ sgT B (nxT B n t) 61 ∨ sgT B (nxT B n t) 62) ∧ (nxT B n (nxT B n t)).1 = 2
noncomputable def nx3 (B : Nat → Int) (n : Nat) (t : Tk) : Tk := nxT B n (nxT B n (nxT B n t))
/-- conditions: j more may come; a fault (0: none) and the token behind -/
noncomputable def csF (B : Nat → Int) (n : Nat) : Nat → Tk → Int × Tk
  | 0, t => (cit (whF B t FLs 0 = -1) 1 2, t)
  | j + 1, t => cit (cOk B n t) (cit (sgT B (nx3 B n t) 58) (0, nxT B n (nx3 B n t)) (cit (isT1 B (nx3 B n t) 3) (csF B n j (nxT B n (nx3 B n t))) (1, t))) (1, t)
theorem csF_c {B : Nat → Int} {n j : Nat} {t : Tk} (h : ¬ cOk B n t) : csF B n (j + 1) t = (1, t) := cit_n h
theorem csF_e {B : Nat → Int} {n j : Nat} {t : Tk} (h : cOk B n t) (h2 : sgT B (nx3 B n t) 58) : csF B n (j + 1) t = (0, nxT B n (nx3 B n t)) := (cit_y h).trans (cit_y h2)
theorem csF_a {B : Nat → Int} {n j : Nat} {t : Tk} (h : cOk B n t) (h2 : ¬ sgT B (nx3 B n t) 58) (h3 : isT1 B (nx3 B n t) 3) : csF B n (j + 1) t = csF B n j (nxT B n (nx3 B n t)) := (cit_y h).trans ((cit_n h2).trans (cit_y h3))
theorem csF_n {B : Nat → Int} {n j : Nat} {t : Tk} (h : cOk B n t) (h2 : ¬ sgT B (nx3 B n t) 58) (h3 : ¬ isT1 B (nx3 B n t) 3) : csF B n (j + 1) t = (1, t) := (cit_y h).trans ((cit_n h2).trans (cit_n h3))
noncomputable def enF (B : Nat → Int) (n : Nat) (u : Tk) : Int × Tk := cit (sgT B u 59) (0, nxT B n u) (1, u)
noncomputable def acF (B : Nat → Int) (n : Nat) (t : Tk) : Int × Tk := cit (whF B t ALs 0 = -1) (1, t) (cit (whF B t ALs 0 = 5) (cit ((nxT B n t).1 = 2) (enF B n (nxT B n (nxT B n t))) (1, t)) (enF B n (nxT B n t)))
noncomputable def rueF (B : Nat → Int) (n m : Nat) (t : Tk) : Int × Tk := cit (¬ isT1 B t 2 ∧ whF B t ALs 0 = -1) (1, t) (cit (12 ≤ m) (2, t) (cit (isT1 B t 2) (cit ((csF B n 4 (nxT B n t)).1 = 0) (acF B n (csF B n 4 (nxT B n t)).2) ((csF B n 4 (nxT B n t)).1, t)) (acF B n t)))
noncomputable def prF (B : Nat → Int) (n : Nat) : Nat → Nat → Tk → Int × Nat
  | 0, m, _ => (0, m)
  | k + 1, m, t => cit (t.1 = 0) (0, m) (cit ((rueF B n m t).1 = 0) (prF B n k (m + 1) (rueF B n m t).2) ((rueF B n m t).1, m))
theorem prF_e {B : Nat → Int} {n k m : Nat} {t : Tk} (h : t.1 = 0) : prF B n (k + 1) m t = (0, m) := cit_y h
theorem prF_r {B : Nat → Int} {n k m : Nat} {t : Tk} (h : t.1 ≠ 0) (h2 : (rueF B n m t).1 = 0) : prF B n (k + 1) m t = prF B n k (m + 1) (rueF B n m t).2 := (cit_n h).trans (cit_y h2)
theorem prF_f {B : Nat → Int} {n k m : Nat} {t : Tk} (h : t.1 ≠ 0) (h2 : (rueF B n m t).1 ≠ 0) : prF B n (k + 1) m t = ((rueF B n m t).1, m) := (cit_n h).trans (cit_n h2)
def okR (z : Int) : Prop := z = 0 ∨ z = 1 ∨ z = 2
theorem cit_ok {α : Type} {p : Prop} {a b : Int × α} (ha : okR a.1) (hb : okR b.1) : okR (cit p a b).1 := by
  by_cases h : p
  · rw [cit_y h]; exact ha
  · rw [cit_n h]; exact hb
theorem csF_ok {B : Nat → Int} {n : Nat} : ∀ (j : Nat) (t : Tk), okR (csF B n j t).1
  | 0, t => by
    show okR (cit (whF B t FLs 0 = -1) 1 2)
    by_cases h : whF B t FLs 0 = -1
    · rw [cit_y h]; exact Or.inr (Or.inl rfl)
    · rw [cit_n h]; exact Or.inr (Or.inr rfl)
  | j + 1, t => cit_ok (cit_ok (Or.inl rfl) (cit_ok (csF_ok j _) (Or.inr (Or.inl rfl)))) (Or.inr (Or.inl rfl))
theorem enF_ok {B : Nat → Int} {n : Nat} (u : Tk) : okR (enF B n u).1 := cit_ok (Or.inl rfl) (Or.inr (Or.inl rfl))
theorem acF_ok {B : Nat → Int} {n : Nat} (t : Tk) : okR (acF B n t).1 := cit_ok (Or.inr (Or.inl rfl)) (cit_ok (cit_ok (enF_ok _) (Or.inr (Or.inl rfl))) (enF_ok _))
theorem rueF_ok {B : Nat → Int} {n m : Nat} (t : Tk) : okR (rueF B n m t).1 := cit_ok (Or.inr (Or.inl rfl)) (cit_ok (Or.inr (Or.inr rfl)) (cit_ok (cit_ok (acF_ok _) (csF_ok 4 _)) (acF_ok _)))
theorem prF_ok {B : Nat → Int} {n : Nat} : ∀ (k m : Nat) (t : Tk), okR (prF B n k m t).1
  | 0, _, _ => Or.inl rfl
  | k + 1, m, t => cit_ok (Or.inl rfl) (cit_ok (prF_ok k (m + 1) _) (rueF_ok t))
noncomputable def prR (B : Nat → Int) (n : Nat) : Int := cit ((prF B n 13 0 (tokF B n 0)).1 = 0) ((prF B n 13 0 (tokF B n 0)).2 : Int) ((prF B n 13 0 (tokF B n 0)).1 - 10)

set_option maxHeartbeats 4000000 in
set_option maxRecDepth 100000 in
theorem k_X10_byteAt2 (l : Launch) (G : va_G) (cy : Nat → ClassId) (κ : Nat → Nat) (S : PS) (sz : Nat) (x : Nat) (a1 : Int32) (a1_z : Int) (hG : GX S) (ha_x : At S x 10) (hz_a1 : a1.toInt = a1_z) : Ci l yX10_byteAt wsX10_byteAt ({ frames := 1, cells := 0, slots := 0, locals := 48 }) G cy κ S sz [.ref x, .int (a1)] (fun (r : Int32) (S9 : PS) => S = S9 ∧ ((0 ≤ a1_z → r.toInt = tB S x a1_z.toNat))) := by
  refine ent_m (cc := cX10_byteAt) (maxL := 2) (ret := (some .int)) (by decide) rfl (Nat.le_of_ble_eq_true rfl) ?_
  intro p e s m below meth c ls X hr hlocks hin hw hl hsz
  subst hsz
  have X : Cx p c cX10_byteAt 2 s [.ref x, .int (a1)].toArray wsX10_byteAt RX10 m G cy κ (AS S s.heap.size) := X
  have hl : lv_has ls 2 [(0, .ref x), (1, .int (a1))] := hl
  have rg_a1 : (-2147483648) ≤ a1_z ∧ a1_z ≤ 2147483647 := by rw [← hz_a1]; exact ⟨z_lo _, z_hi _⟩
  refine lv_iload_n X.1 X.2.1 dX10_byteAt_0 rfl (lv_at hl 1 rfl) ?_
  refine lv_if_lt (tgt := 19) X.1 X.2.1 dX10_byteAt_1 (by decide) (fun c_1 => ?_) (fun c_1 => ?_)
  · have z_b_2 := trivial
    have k_3 : a1_z < 0 := z_lt hz_a1 ti_0 c_1
    refine lv_iconst (v := 0) X.1 X.2.1 dX10_byteAt_19 (by decide) ?_
    refine lv_goto (tgt := 29) X.1 X.2.1 dX10_byteAt_20 (by decide) ?_
    exact ret_i X hw hr hlocks (Nat.le_of_ble_eq_true rfl) (Nat.le_of_ble_eq_true rfl) ⟨rfl, (fun h0 => (tB_out (S := S) (x := x) h0 (by omega)).symm)⟩ dX10_byteAt_29
  · have z_b_4 := trivial
    have k_5 : a1_z ≥ 0 := z_nlt hz_a1 ti_0 c_1
    refine lv_iload_n X.1 X.2.1 dX10_byteAt_4 rfl (lv_at hl 1 rfl) ?_
    refine lv_aload_n X.1 X.2.1 dX10_byteAt_5 rfl (lv_at hl 0 rfl) ?_
    obtain ⟨v_6, ev_6⟩ : ∃ v, pI S 1000 x = v := ⟨_, rfl⟩
    have rg_7 := gI_10_1000 hG ha_x; rw [ev_6] at rg_7
    have pz_8 : (pI S 1000 x).toInt = v_6.toInt := by rw [ev_6]
    refine r_getI (g := 1000) (x := v_6) X hw ha_x rfl 0 ev_6 (by decide) rfl inn_X10_byteAt_10 (by decide) (X.2.2.2.1 (.fieldLink RX10 19 "SilkMill$Tape" "size" "I") (by decide +kernel)) rfl (gv_1000 _ _) dX10_byteAt_6 ?_
    refine lv_icmp_ge (tgt := 19) X.1 X.2.1 dX10_byteAt_9 (by decide) (fun c_9 => ?_) (fun c_9 => ?_)
    · have z_b_10 := trivial
      have k_11 : a1_z ≥ v_6.toInt := z_le rfl hz_a1 c_9
      refine lv_iconst (v := 0) X.1 X.2.1 dX10_byteAt_19 (by decide) ?_
      refine lv_goto (tgt := 29) X.1 X.2.1 dX10_byteAt_20 (by decide) ?_
      exact ret_i X hw hr hlocks (Nat.le_of_ble_eq_true rfl) (Nat.le_of_ble_eq_true rfl) ⟨rfl, (fun h0 => (tB_out (S := S) (x := x) h0 (by omega)).symm)⟩ dX10_byteAt_29
    · have z_b_12 := trivial
      have k_13 : a1_z < v_6.toInt := z_nle rfl hz_a1 c_9
      refine lv_iload_n X.1 X.2.1 dX10_byteAt_12 rfl (lv_at hl 1 rfl) ?_
      refine lv_sipush (v := 400) X.1 X.2.1 dX10_byteAt_13 (by decide) ?_
      refine lv_icmp_lt (tgt := 23) X.1 X.2.1 dX10_byteAt_16 (by decide) (fun c_14 => ?_) (fun c_14 => ?_)
      · have z_b_15 := trivial
        have k_16 : a1_z < 400 := z_lt hz_a1 ti_400 c_14
        refine lv_aload_n X.1 X.2.1 dX10_byteAt_23 rfl (lv_at hl 0 rfl) ?_
        obtain ⟨q_17, h_18, h_19, h_20⟩ := gQ_10_1003 hG ha_x
        refine r_getR (g := 1003) X hw ha_x rfl 3 h_18 (by decide) rfl inn_X10_byteAt_10 (by decide) (X.2.2.2.1 (.fieldLink RX10 15 "SilkMill$Tape" "bytes" "[B") (by decide +kernel)) rfl (gv_1003 _ _) dX10_byteAt_24 ?_
        refine lv_iload_n X.1 X.2.1 dX10_byteAt_27 rfl (lv_at hl 1 rfl) ?_
        refine r_bald X hw h_19 rfl (by rw [h_20]; exact z_ix hz_a1 (by omega) (by omega)) dX10_byteAt_28 ?_
        refine lv_topi (fun v_21 ev_21 => ?_)
        have rg_22 := And.intro (z_lo v_21) (z_hi v_21)
        have ev_21 := ev_21.symm
        exact ret_i X hw hr hlocks (Nat.le_of_ble_eq_true rfl) (Nat.le_of_ble_eq_true rfl) ⟨rfl, (fun h0 => (tB_in h_18 hz_a1 h0 (by omega) ev_21).symm)⟩ dX10_byteAt_29
      · have z_b_23 := trivial
        have k_24 : a1_z ≥ 400 := z_nlt hz_a1 ti_400 c_14
        refine lv_iconst (v := 0) X.1 X.2.1 dX10_byteAt_19 (by decide) ?_
        refine lv_goto (tgt := 29) X.1 X.2.1 dX10_byteAt_20 (by decide) ?_
        exact ret_i X hw hr hlocks (Nat.le_of_ble_eq_true rfl) (Nat.le_of_ble_eq_true rfl) ⟨rfl, (fun h0 => (tB_out (S := S) (x := x) h0 (by omega)).symm)⟩ dX10_byteAt_29
set_option maxHeartbeats 4000000 in
set_option maxRecDepth 100000 in
theorem k_X10_isBlank2 (l : Launch) (G : va_G) (cy : Nat → ClassId) (κ : Nat → Nat) (S : PS) (sz : Nat) (a1 : Int32) (a1_z : Int) (hG : GX S) (hz_a1 : a1.toInt = a1_z) : Ci l yX10_isBlank wsX10_isBlank ({ frames := 1, cells := 0, slots := 0, locals := 48 }) G cy κ S sz [.int (a1)] (fun (r : Int32) (S9 : PS) => S = S9 ∧ (((a1_z = 32 ∨ a1_z = 10) ∧ r = 1) ∨ ((¬ (a1_z = 32 ∨ a1_z = 10)) ∧ r = 0))) := by
  refine ent_m (cc := cX10_isBlank) (maxL := 1) (ret := (some .boolean)) (by decide) rfl (Nat.le_of_ble_eq_true rfl) ?_
  intro p e s m below meth c ls X hr hlocks hin hw hl hsz
  subst hsz
  have X : Cx p c cX10_isBlank 1 s [.int (a1)].toArray wsX10_isBlank RX10 m G cy κ (AS S s.heap.size) := X
  have hl : lv_has ls 1 [(0, .int (a1))] := hl
  have rg_a1 : (-2147483648) ≤ a1_z ∧ a1_z ≤ 2147483647 := by rw [← hz_a1]; exact ⟨z_lo _, z_hi _⟩
  refine lv_iload_n X.1 X.2.1 dX10_isBlank_0 rfl (lv_at hl 0 rfl) ?_
  refine lv_bipush (v := 32) X.1 X.2.1 dX10_isBlank_1 (by decide) ?_
  refine lv_icmp_eq (tgt := 12) X.1 X.2.1 dX10_isBlank_3 (by decide) (fun c_1 => ?_) (fun c_1 => ?_)
  · have z_b_2 := trivial
    have k_3 : a1_z = 32 := z_eq hz_a1 ti_32 c_1
    refine lv_iconst (v := 1) X.1 X.2.1 dX10_isBlank_12 (by decide) ?_
    refine lv_goto (tgt := 17) X.1 X.2.1 dX10_isBlank_13 (by decide) ?_
    exact ret_z X hw hr hlocks (Nat.le_of_ble_eq_true rfl) (Nat.le_of_ble_eq_true rfl) (by decide) ⟨rfl, Or.inl ⟨by omega, rfl⟩⟩ dX10_isBlank_17
  · have z_b_4 := trivial
    have k_5 : a1_z ≠ 32 := z_ne hz_a1 ti_32 c_1
    refine lv_iload_n X.1 X.2.1 dX10_isBlank_6 rfl (lv_at hl 0 rfl) ?_
    refine lv_bipush (v := 10) X.1 X.2.1 dX10_isBlank_7 (by decide) ?_
    refine lv_icmp_ne (tgt := 16) X.1 X.2.1 dX10_isBlank_9 (by decide) (fun c_6 => ?_) (fun c_6 => ?_)
    · have z_b_7 := trivial
      have k_8 : a1_z ≠ 10 := z_ne hz_a1 ti_10 c_6
      refine lv_iconst (v := 0) X.1 X.2.1 dX10_isBlank_16 (by decide) ?_
      exact ret_z X hw hr hlocks (Nat.le_of_ble_eq_true rfl) (Nat.le_of_ble_eq_true rfl) (by decide) ⟨rfl, Or.inr ⟨by omega, rfl⟩⟩ dX10_isBlank_17
    · have z_b_9 := trivial
      have k_10 : a1_z = 10 := z_eq hz_a1 ti_10 c_6
      refine lv_iconst (v := 1) X.1 X.2.1 dX10_isBlank_12 (by decide) ?_
      refine lv_goto (tgt := 17) X.1 X.2.1 dX10_isBlank_13 (by decide) ?_
      exact ret_z X hw hr hlocks (Nat.le_of_ble_eq_true rfl) (Nat.le_of_ble_eq_true rfl) (by decide) ⟨rfl, Or.inl ⟨by omega, rfl⟩⟩ dX10_isBlank_17
set_option maxHeartbeats 4000000 in
set_option maxRecDepth 100000 in
theorem k_X10_isLetter2 (l : Launch) (G : va_G) (cy : Nat → ClassId) (κ : Nat → Nat) (S : PS) (sz : Nat) (a1 : Int32) (a1_z : Int) (hG : GX S) (hz_a1 : a1.toInt = a1_z) : Ci l yX10_isLetter wsX10_isLetter ({ frames := 1, cells := 0, slots := 0, locals := 48 }) G cy κ S sz [.int (a1)] (fun (r : Int32) (S9 : PS) => S = S9 ∧ (((97 ≤ a1_z ∧ a1_z ≤ 122) ∧ r = 1) ∨ ((¬ (97 ≤ a1_z ∧ a1_z ≤ 122)) ∧ r = 0))) := by
  refine ent_m (cc := cX10_isLetter) (maxL := 1) (ret := (some .boolean)) (by decide) rfl (Nat.le_of_ble_eq_true rfl) ?_
  intro p e s m below meth c ls X hr hlocks hin hw hl hsz
  subst hsz
  have X : Cx p c cX10_isLetter 1 s [.int (a1)].toArray wsX10_isLetter RX10 m G cy κ (AS S s.heap.size) := X
  have hl : lv_has ls 1 [(0, .int (a1))] := hl
  have rg_a1 : (-2147483648) ≤ a1_z ∧ a1_z ≤ 2147483647 := by rw [← hz_a1]; exact ⟨z_lo _, z_hi _⟩
  refine lv_iload_n X.1 X.2.1 dX10_isLetter_0 rfl (lv_at hl 0 rfl) ?_
  refine lv_bipush (v := 97) X.1 X.2.1 dX10_isLetter_1 (by decide) ?_
  refine lv_icmp_lt (tgt := 16) X.1 X.2.1 dX10_isLetter_3 (by decide) (fun c_1 => ?_) (fun c_1 => ?_)
  · have z_b_2 := trivial
    have k_3 : a1_z < 97 := z_lt hz_a1 ti_97 c_1
    refine lv_iconst (v := 0) X.1 X.2.1 dX10_isLetter_16 (by decide) ?_
    exact ret_z X hw hr hlocks (Nat.le_of_ble_eq_true rfl) (Nat.le_of_ble_eq_true rfl) (by decide) ⟨rfl, Or.inr ⟨by omega, rfl⟩⟩ dX10_isLetter_17
  · have z_b_4 := trivial
    have k_5 : a1_z ≥ 97 := z_nlt hz_a1 ti_97 c_1
    refine lv_iload_n X.1 X.2.1 dX10_isLetter_6 rfl (lv_at hl 0 rfl) ?_
    refine lv_bipush (v := 122) X.1 X.2.1 dX10_isLetter_7 (by decide) ?_
    refine lv_icmp_gt (tgt := 16) X.1 X.2.1 dX10_isLetter_9 (by decide) (fun c_6 => ?_) (fun c_6 => ?_)
    · have z_b_7 := trivial
      have k_8 : a1_z > 122 := z_lt ti_122 hz_a1 c_6
      refine lv_iconst (v := 0) X.1 X.2.1 dX10_isLetter_16 (by decide) ?_
      exact ret_z X hw hr hlocks (Nat.le_of_ble_eq_true rfl) (Nat.le_of_ble_eq_true rfl) (by decide) ⟨rfl, Or.inr ⟨by omega, rfl⟩⟩ dX10_isLetter_17
    · have z_b_9 := trivial
      have k_10 : a1_z ≤ 122 := z_nlt ti_122 hz_a1 c_6
      refine lv_iconst (v := 1) X.1 X.2.1 dX10_isLetter_12 (by decide) ?_
      refine lv_goto (tgt := 17) X.1 X.2.1 dX10_isLetter_13 (by decide) ?_
      exact ret_z X hw hr hlocks (Nat.le_of_ble_eq_true rfl) (Nat.le_of_ble_eq_true rfl) (by decide) ⟨rfl, Or.inl ⟨by omega, rfl⟩⟩ dX10_isLetter_17
set_option maxHeartbeats 4000000 in
set_option maxRecDepth 100000 in
theorem k_X10_isDigit2 (l : Launch) (G : va_G) (cy : Nat → ClassId) (κ : Nat → Nat) (S : PS) (sz : Nat) (a1 : Int32) (a1_z : Int) (hG : GX S) (hz_a1 : a1.toInt = a1_z) : Ci l yX10_isDigit wsX10_isDigit ({ frames := 1, cells := 0, slots := 0, locals := 48 }) G cy κ S sz [.int (a1)] (fun (r : Int32) (S9 : PS) => S = S9 ∧ (((48 ≤ a1_z ∧ a1_z ≤ 57) ∧ r = 1) ∨ ((¬ (48 ≤ a1_z ∧ a1_z ≤ 57)) ∧ r = 0))) := by
  refine ent_m (cc := cX10_isDigit) (maxL := 1) (ret := (some .boolean)) (by decide) rfl (Nat.le_of_ble_eq_true rfl) ?_
  intro p e s m below meth c ls X hr hlocks hin hw hl hsz
  subst hsz
  have X : Cx p c cX10_isDigit 1 s [.int (a1)].toArray wsX10_isDigit RX10 m G cy κ (AS S s.heap.size) := X
  have hl : lv_has ls 1 [(0, .int (a1))] := hl
  have rg_a1 : (-2147483648) ≤ a1_z ∧ a1_z ≤ 2147483647 := by rw [← hz_a1]; exact ⟨z_lo _, z_hi _⟩
  refine lv_iload_n X.1 X.2.1 dX10_isDigit_0 rfl (lv_at hl 0 rfl) ?_
  refine lv_bipush (v := 48) X.1 X.2.1 dX10_isDigit_1 (by decide) ?_
  refine lv_icmp_lt (tgt := 16) X.1 X.2.1 dX10_isDigit_3 (by decide) (fun c_1 => ?_) (fun c_1 => ?_)
  · have z_b_2 := trivial
    have k_3 : a1_z < 48 := z_lt hz_a1 ti_48 c_1
    refine lv_iconst (v := 0) X.1 X.2.1 dX10_isDigit_16 (by decide) ?_
    exact ret_z X hw hr hlocks (Nat.le_of_ble_eq_true rfl) (Nat.le_of_ble_eq_true rfl) (by decide) ⟨rfl, Or.inr ⟨by omega, rfl⟩⟩ dX10_isDigit_17
  · have z_b_4 := trivial
    have k_5 : a1_z ≥ 48 := z_nlt hz_a1 ti_48 c_1
    refine lv_iload_n X.1 X.2.1 dX10_isDigit_6 rfl (lv_at hl 0 rfl) ?_
    refine lv_bipush (v := 57) X.1 X.2.1 dX10_isDigit_7 (by decide) ?_
    refine lv_icmp_gt (tgt := 16) X.1 X.2.1 dX10_isDigit_9 (by decide) (fun c_6 => ?_) (fun c_6 => ?_)
    · have z_b_7 := trivial
      have k_8 : a1_z > 57 := z_lt ti_57 hz_a1 c_6
      refine lv_iconst (v := 0) X.1 X.2.1 dX10_isDigit_16 (by decide) ?_
      exact ret_z X hw hr hlocks (Nat.le_of_ble_eq_true rfl) (Nat.le_of_ble_eq_true rfl) (by decide) ⟨rfl, Or.inr ⟨by omega, rfl⟩⟩ dX10_isDigit_17
    · have z_b_9 := trivial
      have k_10 : a1_z ≤ 57 := z_nlt ti_57 hz_a1 c_6
      refine lv_iconst (v := 1) X.1 X.2.1 dX10_isDigit_12 (by decide) ?_
      refine lv_goto (tgt := 17) X.1 X.2.1 dX10_isDigit_13 (by decide) ?_
      exact ret_z X hw hr hlocks (Nat.le_of_ble_eq_true rfl) (Nat.le_of_ble_eq_true rfl) (by decide) ⟨rfl, Or.inl ⟨by omega, rfl⟩⟩ dX10_isDigit_17
set_option maxHeartbeats 4000000 in
set_option maxRecDepth 100000 in
theorem k_X10_isSignByte2 (l : Launch) (G : va_G) (cy : Nat → ClassId) (κ : Nat → Nat) (S : PS) (sz : Nat) (a1 : Int32) (a1_z : Int) (hG : GX S) (hz_a1 : a1.toInt = a1_z) : Ci l yX10_isSignByte wsX10_isSignByte ({ frames := 1, cells := 0, slots := 0, locals := 48 }) G cy κ S sz [.int (a1)] (fun (r : Int32) (S9 : PS) => S = S9 ∧ (((a1_z = 60 ∨ a1_z = 61 ∨ a1_z = 62 ∨ a1_z = 58 ∨ a1_z = 59) ∧ r = 1) ∨ ((¬ (a1_z = 60 ∨ a1_z = 61 ∨ a1_z = 62 ∨ a1_z = 58 ∨ a1_z = 59)) ∧ r = 0))) := by
  refine ent_m (cc := cX10_isSignByte) (maxL := 1) (ret := (some .boolean)) (by decide) rfl (Nat.le_of_ble_eq_true rfl) ?_
  intro p e s m below meth c ls X hr hlocks hin hw hl hsz
  subst hsz
  have X : Cx p c cX10_isSignByte 1 s [.int (a1)].toArray wsX10_isSignByte RX10 m G cy κ (AS S s.heap.size) := X
  have hl : lv_has ls 1 [(0, .int (a1))] := hl
  have rg_a1 : (-2147483648) ≤ a1_z ∧ a1_z ≤ 2147483647 := by rw [← hz_a1]; exact ⟨z_lo _, z_hi _⟩
  refine lv_iload_n X.1 X.2.1 dX10_isSignByte_0 rfl (lv_at hl 0 rfl) ?_
  refine lv_bipush (v := 60) X.1 X.2.1 dX10_isSignByte_1 (by decide) ?_
  refine lv_icmp_eq (tgt := 30) X.1 X.2.1 dX10_isSignByte_3 (by decide) (fun c_1 => ?_) (fun c_1 => ?_)
  · have z_b_2 := trivial
    have k_3 : a1_z = 60 := z_eq hz_a1 ti_60 c_1
    refine lv_iconst (v := 1) X.1 X.2.1 dX10_isSignByte_30 (by decide) ?_
    refine lv_goto (tgt := 35) X.1 X.2.1 dX10_isSignByte_31 (by decide) ?_
    exact ret_z X hw hr hlocks (Nat.le_of_ble_eq_true rfl) (Nat.le_of_ble_eq_true rfl) (by decide) ⟨rfl, Or.inl ⟨by omega, rfl⟩⟩ dX10_isSignByte_35
  · have z_b_4 := trivial
    have k_5 : a1_z ≠ 60 := z_ne hz_a1 ti_60 c_1
    refine lv_iload_n X.1 X.2.1 dX10_isSignByte_6 rfl (lv_at hl 0 rfl) ?_
    refine lv_bipush (v := 61) X.1 X.2.1 dX10_isSignByte_7 (by decide) ?_
    refine lv_icmp_eq (tgt := 30) X.1 X.2.1 dX10_isSignByte_9 (by decide) (fun c_6 => ?_) (fun c_6 => ?_)
    · have z_b_7 := trivial
      have k_8 : a1_z = 61 := z_eq hz_a1 ti_61 c_6
      refine lv_iconst (v := 1) X.1 X.2.1 dX10_isSignByte_30 (by decide) ?_
      refine lv_goto (tgt := 35) X.1 X.2.1 dX10_isSignByte_31 (by decide) ?_
      exact ret_z X hw hr hlocks (Nat.le_of_ble_eq_true rfl) (Nat.le_of_ble_eq_true rfl) (by decide) ⟨rfl, Or.inl ⟨by omega, rfl⟩⟩ dX10_isSignByte_35
    · have z_b_9 := trivial
      have k_10 : a1_z ≠ 61 := z_ne hz_a1 ti_61 c_6
      refine lv_iload_n X.1 X.2.1 dX10_isSignByte_12 rfl (lv_at hl 0 rfl) ?_
      refine lv_bipush (v := 62) X.1 X.2.1 dX10_isSignByte_13 (by decide) ?_
      refine lv_icmp_eq (tgt := 30) X.1 X.2.1 dX10_isSignByte_15 (by decide) (fun c_11 => ?_) (fun c_11 => ?_)
      · have z_b_12 := trivial
        have k_13 : a1_z = 62 := z_eq hz_a1 ti_62 c_11
        refine lv_iconst (v := 1) X.1 X.2.1 dX10_isSignByte_30 (by decide) ?_
        refine lv_goto (tgt := 35) X.1 X.2.1 dX10_isSignByte_31 (by decide) ?_
        exact ret_z X hw hr hlocks (Nat.le_of_ble_eq_true rfl) (Nat.le_of_ble_eq_true rfl) (by decide) ⟨rfl, Or.inl ⟨by omega, rfl⟩⟩ dX10_isSignByte_35
      · have z_b_14 := trivial
        have k_15 : a1_z ≠ 62 := z_ne hz_a1 ti_62 c_11
        refine lv_iload_n X.1 X.2.1 dX10_isSignByte_18 rfl (lv_at hl 0 rfl) ?_
        refine lv_bipush (v := 58) X.1 X.2.1 dX10_isSignByte_19 (by decide) ?_
        refine lv_icmp_eq (tgt := 30) X.1 X.2.1 dX10_isSignByte_21 (by decide) (fun c_16 => ?_) (fun c_16 => ?_)
        · have z_b_17 := trivial
          have k_18 : a1_z = 58 := z_eq hz_a1 ti_58 c_16
          refine lv_iconst (v := 1) X.1 X.2.1 dX10_isSignByte_30 (by decide) ?_
          refine lv_goto (tgt := 35) X.1 X.2.1 dX10_isSignByte_31 (by decide) ?_
          exact ret_z X hw hr hlocks (Nat.le_of_ble_eq_true rfl) (Nat.le_of_ble_eq_true rfl) (by decide) ⟨rfl, Or.inl ⟨by omega, rfl⟩⟩ dX10_isSignByte_35
        · have z_b_19 := trivial
          have k_20 : a1_z ≠ 58 := z_ne hz_a1 ti_58 c_16
          refine lv_iload_n X.1 X.2.1 dX10_isSignByte_24 rfl (lv_at hl 0 rfl) ?_
          refine lv_bipush (v := 59) X.1 X.2.1 dX10_isSignByte_25 (by decide) ?_
          refine lv_icmp_ne (tgt := 34) X.1 X.2.1 dX10_isSignByte_27 (by decide) (fun c_21 => ?_) (fun c_21 => ?_)
          · have z_b_22 := trivial
            have k_23 : a1_z ≠ 59 := z_ne hz_a1 ti_59 c_21
            refine lv_iconst (v := 0) X.1 X.2.1 dX10_isSignByte_34 (by decide) ?_
            exact ret_z X hw hr hlocks (Nat.le_of_ble_eq_true rfl) (Nat.le_of_ble_eq_true rfl) (by decide) ⟨rfl, Or.inr ⟨by omega, rfl⟩⟩ dX10_isSignByte_35
          · have z_b_24 := trivial
            have k_25 : a1_z = 59 := z_eq hz_a1 ti_59 c_21
            refine lv_iconst (v := 1) X.1 X.2.1 dX10_isSignByte_30 (by decide) ?_
            refine lv_goto (tgt := 35) X.1 X.2.1 dX10_isSignByte_31 (by decide) ?_
            exact ret_z X hw hr hlocks (Nat.le_of_ble_eq_true rfl) (Nat.le_of_ble_eq_true rfl) (by decide) ⟨rfl, Or.inl ⟨by omega, rfl⟩⟩ dX10_isSignByte_35
