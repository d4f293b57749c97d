/-! ===== tokens: what class and reference read alike ===== -/
def Hd (p : Prop) : Prop := p
theorem hdI {p : Prop} (h : p) : Hd p := h
theorem hdE {p : Prop} (h : Hd p) : p := h
def runP (P : Int → Bool) (B : Nat → Int) : Nat → Nat → Nat
  | 0, p => p
  | f + 1, p => if P (B p) = true then runP P B f (p + 1) else p
theorem runP_sp {P : Int → Bool} {B : Nat → Int} : ∀ (f : Nat) {a q : Nat}, a ≤ q → q ≤ a + f → (∀ j, a ≤ j → j < q → P (B j) = true) → P (B q) = false → runP P B f a = q
  | 0, a, q, h1, h2, _, _ => by
    unfold runP
    omega
  | f + 1, a, q, h1, h2, h3, h4 => by
    unfold runP
    by_cases e : a = q
    · subst e; rw [if_neg (by rw [h4]; decide)]
    · rw [if_pos (h3 a (Nat.le_refl a) (by omega))]
      exact runP_sp f (by omega) (by omega) (fun j hj hq => h3 j (by omega) hq) h4
def blaP (v : Int) : Bool := decide (v = 32 ∨ v = 10)
def letP (v : Int) : Bool := decide (97 ≤ v ∧ v ≤ 122)
def digP (v : Int) : Bool := decide (48 ≤ v ∧ v ≤ 57)
def sgnP (v : Int) : Bool := decide (v = 60 ∨ v = 61 ∨ v = 62 ∨ v = 58 ∨ v = 59)
abbrev Tk : Type := Nat × Nat × Nat
def tokS (B : Nat → Int) (n s : Nat) : Tk := if n ≤ s then (0, s, s) else if letP (B s) = true then ((if runP letP B 400 s - s ≤ 8 then 1 else 4), s, runP letP B 400 s) else if digP (B s) = true then ((if runP digP B 400 s - s ≤ 4 then 2 else 4), s, runP digP B 400 s) else ((if sgnP (B s) = true then 3 else 4), s, s + 1)
/-- the token that begins at or behind a: its kind, where it begins, what is behind it -/
def tokF (B : Nat → Int) (n a : Nat) : Tk := tokS B n (runP blaP B 400 a)
theorem tokF_at {B : Nat → Int} {n a s : Nat} (h1 : a ≤ s) (h2 : s ≤ a + 400) (h3 : ∀ j, a ≤ j → j < s → blaP (B j) = true) (h4 : blaP (B s) = false) : tokF B n a = tokS B n s := by
  unfold tokF
  rw [runP_sp 400 h1 h2 h3 h4]
theorem tokS_end {B : Nat → Int} {n s : Nat} (h : n ≤ s) : tokS B n s = (0, s, s) := by unfold tokS; rw [if_pos h]
theorem tokS_let {B : Nat → Int} {n s e : Nat} (h : s < n) (hl : letP (B s) = true) (h1 : s ≤ e) (h2 : e ≤ s + 400) (h3 : ∀ j, s ≤ j → j < e → letP (B j) = true) (h4 : letP (B e) = false) : tokS B n s = ((if e - s ≤ 8 then 1 else 4), s, e) := by
  unfold tokS
  rw [if_neg (by omega), if_pos hl, runP_sp 400 h1 h2 h3 h4]
theorem tokS_dig {B : Nat → Int} {n s e : Nat} (h : s < n) (hl : letP (B s) = false) (hd : digP (B s) = true) (h1 : s ≤ e) (h2 : e ≤ s + 400) (h3 : ∀ j, s ≤ j → j < e → digP (B j) = true) (h4 : digP (B e) = false) : tokS B n s = ((if e - s ≤ 4 then 2 else 4), s, e) := by
  unfold tokS
  rw [if_neg (by omega), if_neg (by rw [hl]; decide), if_pos hd, runP_sp 400 h1 h2 h3 h4]
theorem tokS_sgn {B : Nat → Int} {n s : Nat} (h : s < n) (hl : letP (B s) = false) (hd : digP (B s) = false) : tokS B n s = ((if sgnP (B s) = true then 3 else 4), s, s + 1) := by
  unfold tokS
  rw [if_neg (by omega), if_neg (by rw [hl]; decide), if_neg (by rw [hd]; decide)]
/-- the number that k digits from s on tell -/
def numF (B : Nat → Int) (s : Nat) : Nat → Int
  | 0 => 0
  | k + 1 => 10 * numF B s k + (B (s + k) - 48)
theorem nxT_ex (B : Nat → Int) (n : Nat) : ∃ f : Tk → Tk, f = fun t => tokF B n t.2.2 := ⟨_, rfl⟩
noncomputable def nxT (B : Nat → Int) (n : Nat) : Tk → Tk := Classical.choose (nxT_ex B n)
theorem nxT_eq (B : Nat → Int) (n : Nat) (t : Tk) : nxT B n t = tokF B n t.2.2 := congrFun (Classical.choose_spec (nxT_ex B n)) t
theorem numF_s {B : Nat → Int} {s k : Nat} : numF B s (k + 1) = 10 * numF B s k + (B (s + k) - 48) := rfl
theorem numF_rng {B : Nat → Int} {s : Nat} : ∀ {k : Nat}, (∀ j, j < k → 48 ≤ B (s + j) ∧ B (s + j) ≤ 57) → k ≤ 4 → 0 ≤ numF B s k ∧ numF B s k ≤ 9999 := by
  intro k h hk
  have h1 : ∀ m : Nat, m ≤ k → 0 ≤ numF B s m := by
    intro m
    induction m with
    | zero => intro _; unfold numF; omega
    | succ m ih => intro hm; rw [numF_s]; have := ih (by omega); have := h m (by omega); omega
  refine ⟨h1 k (Nat.le_refl k), ?_⟩
  rcases (show k = 0 ∨ k = 1 ∨ k = 2 ∨ k = 3 ∨ k = 4 by omega) with e | e | e | e | e
  · subst e; unfold numF; omega
  · subst e; rw [numF_s]; have := h 0 (by omega); show 10 * 0 + _ ≤ _; omega
  · subst e; rw [numF_s, numF_s]; have := h 0 (by omega); have := h 1 (by omega); show 10 * (10 * 0 + _) + _ ≤ _; omega
  · subst e; rw [numF_s, numF_s, numF_s]; have := h 0 (by omega); have := h 1 (by omega); have := h 2 (by omega); show 10 * (10 * (10 * 0 + _) + _) + _ ≤ _; omega
  · subst e; rw [numF_s, numF_s, numF_s, numF_s]; have := h 0 (by omega); have := h 1 (by omega); have := h 2 (by omega); have := h 3 (by omega); show 10 * (10 * (10 * (10 * 0 + _) + _) + _) + _ ≤ _; omega
/-- the token t is the word i -/
def isT1 (B : Nat → Int) (t : Tk) (i : Nat) : Prop := t.1 = 1 ∧ t.2.2 - t.2.1 = strN i ∧ ∀ j, j < strN i → B (t.2.1 + j) = (strB i j).toInt
/-- the first word of a row that the token is; -1 without any -/
noncomputable def whG (B : Nat → Int) (t : Tk) : List Nat → Int → Int
  | [], _ => -1
  | i :: L, k => @ite Int (isT1 B t i) (Classical.propDecidable _) k (whG B t L (k + 1))
theorem whF_ex (B : Nat → Int) (t : Tk) : ∃ f : List Nat → Int → Int, f = whG B t := ⟨_, rfl⟩
noncomputable def whF (B : Nat → Int) (t : Tk) : List Nat → Int → Int := Classical.choose (whF_ex B t)
theorem whF_eq (B : Nat → Int) (t : Tk) : whF B t = whG B t := Classical.choose_spec (whF_ex B t)
theorem whF_y {B : Nat → Int} {t : Tk} {i : Nat} {L : List Nat} {k : Int} (h : isT1 B t i) : whF B t (i :: L) k = k := by
  rw [whF_eq]
  show @ite Int (isT1 B t i) (Classical.propDecidable _) k (whG B t L (k + 1)) = k
  exact if_pos h
theorem whF_n {B : Nat → Int} {t : Tk} {i : Nat} {L : List Nat} {k : Int} (h : ¬ isT1 B t i) : whF B t (i :: L) k = whF B t L (k + 1) := by
  rw [whF_eq]
  show @ite Int (isT1 B t i) (Classical.propDecidable _) k (whG B t L (k + 1)) = _
  exact if_neg h
theorem whF_e {B : Nat → Int} {t : Tk} {k : Int} : whF B t [] k = -1 := by rw [whF_eq]; rfl
theorem runP_ge {P : Int → Bool} {B : Nat → Int} : ∀ (f a : Nat), a ≤ runP P B f a
  | 0, a => Nat.le_refl a
  | f + 1, a => by
    unfold runP
    split
    · have := runP_ge (P := P) (B := B) f (a + 1); omega
    · exact Nat.le_refl a
theorem runP_all {P : Int → Bool} {B : Nat → Int} : ∀ (f a j : Nat), a ≤ j → j < runP P B f a → P (B j) = true
  | 0, a, j, h1, h2 => by unfold runP at h2; omega
  | f + 1, a, j, h1, h2 => by
    unfold runP at h2
    by_cases e : P (B a) = true
    · rw [if_pos e] at h2
      by_cases e2 : j = a
      · rw [e2]; exact e
      · exact runP_all f (a + 1) j (by omega) h2
    · rw [if_neg e] at h2; omega
theorem runP_le {P : Int → Bool} {B : Nat → Int} {N : Nat} (h : ∀ j, N ≤ j → P (B j) = false) : ∀ (f a : Nat), a ≤ N → runP P B f a ≤ N
  | 0, a, ha => ha
  | f + 1, a, ha => by
    unfold runP
    by_cases e : P (B a) = true
    · rw [if_pos e]
      refine runP_le h f (a + 1) ?_
      by_cases e2 : N ≤ a
      · rw [h a e2] at e; cases e
      · omega
    · rw [if_neg e]; exact ha
theorem tok_ok {B : Nat → Int} {n a : Nat} (hB : ∀ j, n ≤ j → B j = 0) (hn : n ≤ 400) (ha : a ≤ 400) : (tokF B n a).2.1 ≤ (tokF B n a).2.2 ∧ (tokF B n a).2.2 ≤ 400 ∧ ((tokF B n a).1 = 2 → (tokF B n a).2.2 - (tokF B n a).2.1 ≤ 4 ∧ ∀ j, (tokF B n a).2.1 ≤ j → j < (tokF B n a).2.2 → digP (B j) = true) ∧ ((tokF B n a).1 = 0 ∨ (tokF B n a).2.1 < n) := by
  have h0 : ∀ (P : Int → Bool), P 0 = false → ∀ j, 400 ≤ j → P (B j) = false := fun P hP j hj => by rw [hB j (by omega)]; exact hP
  have hs := runP_le (h0 blaP rfl) 400 a ha
  unfold tokF
  generalize runP blaP B 400 a = s at hs ⊢
  unfold tokS
  by_cases e1 : n ≤ s
  · rw [if_pos e1]
    exact ⟨Nat.le_refl s, hs, fun h => absurd (show (0 : Nat) = 2 from h) (by decide), Or.inl rfl⟩
  rw [if_neg e1]
  by_cases e2 : letP (B s) = true
  · rw [if_pos e2]
    refine ⟨runP_ge _ _, runP_le (h0 letP rfl) 400 s hs, fun h => ?_, Or.inr (by show s < n; omega)⟩
    exfalso
    have h : (if runP letP B 400 s - s ≤ 8 then 1 else 4) = 2 := h
    split at h <;> omega
  rw [if_neg e2]
  by_cases e3 : digP (B s) = true
  · rw [if_pos e3]
    refine ⟨runP_ge _ _, runP_le (h0 digP rfl) 400 s hs, fun h => ?_, Or.inr (by show s < n; omega)⟩
    have h : (if runP digP B 400 s - s ≤ 4 then 2 else 4) = 2 := h
    refine ⟨?_, fun j h1 h2 => runP_all 400 s j h1 h2⟩
    show runP digP B 400 s - s ≤ 4
    split at h
    · assumption
    · omega
  rw [if_neg e3]
  refine ⟨by show s ≤ s + 1; omega, by show s + 1 ≤ 400; omega, fun h => ?_, Or.inr (by show s < n; omega)⟩
  exfalso
  have h : (if sgnP (B s) = true then 3 else 4) = 2 := h
  split at h <;> omega
/-! ===== the tape of the class ===== -/
theorem tB_ex (S : PS) (x : Nat) : ∃ f : Nat → Int, f = fun (i : Nat) => if (i : Int) < (pI S 1000 x).toInt then (mA S x 1003 i).toInt else 0 := ⟨_, rfl⟩
noncomputable def tB (S : PS) (x : Nat) : Nat → Int := Classical.choose (tB_ex S x)
theorem tB_eq (S : PS) (x i : Nat) : tB S x i = if (i : Int) < (pI S 1000 x).toInt then (mA S x 1003 i).toInt else 0 := congrFun (Classical.choose_spec (tB_ex S x)) i
theorem tB_in {S : PS} {x q : Nat} {i u : Int32} {z : Int} (hR : pR S 1003 x = some q) (zp : i.toInt = z) (h0 : 0 ≤ z) (h1 : z < (pI S 1000 x).toInt) (ha : pA S q i.toNatClampNeg = u) : tB S x z.toNat = u.toInt := by
  rw [tB_eq, if_pos (by omega), mA_eq hR, ← z_nc zp h0, ha]
theorem tB_out {S : PS} {x : Nat} {z : Int} (h0 : 0 ≤ z) (h1 : (pI S 1000 x).toInt ≤ z) : tB S x z.toNat = 0 := by
  rw [tB_eq, if_neg (by omega)]
theorem tB_fr {M : List Nat} {S S' : PS} {x : Nat} (hG : GX S) (ha : At S x 10) (hF : Fr M S S') (hM : ([1000, 1003, 10013] : List Nat).all (fun g => !M.contains g) = true) : tB S' x = tB S x := by
  funext i
  rw [tB_eq, tB_eq, hF.I' (allc hM (by decide)) ha rfl, mA_frc hF ha (ex3 (gQ_10_1003 hG ha)) (allc hM (by decide)) (allc hM (by decide))]
/-- a token stands in the tape of the class -/
def TokAt (S : PS) (x : Nat) (t : Tk) : Prop := (pI S 1004 x).toInt = (t.1 : Int) ∧ (pI S 1005 x).toInt = (t.2.1 : Int) ∧ (pI S 1006 x).toInt = (t.2.2 : Int)
theorem all_ext {P : Int → Bool} {B : Nat → Int} {a q : Int} (h : ∀ j : Nat, a ≤ (j : Int) → (j : Int) < q → P (B j) = true) (hq : P (B q.toNat) = true) (h0 : 0 ≤ q) : ∀ j : Nat, a ≤ (j : Int) → (j : Int) < q + 1 → P (B j) = true := fun j h1 h2 => by
  rcases (show (j : Int) < q ∨ (j : Int) = q by omega) with e | e
  · exact h j h1 e
  · rw [show j = q.toNat by omega]; exact hq
theorem all_nat {P : Int → Bool} {B : Nat → Int} {a q : Int} (h : ∀ j : Nat, a ≤ (j : Int) → (j : Int) < q → P (B j) = true) (h0 : 0 ≤ a) : ∀ j : Nat, a.toNat ≤ j → j < q.toNat → P (B j) = true := fun j h1 h2 => h j (by omega) (by omega)
theorem blaP_t {v : Int} (h : v = 32 ∨ v = 10) : blaP v = true := decide_eq_true h
theorem blaP_f {v : Int} (h : ¬ (v = 32 ∨ v = 10)) : blaP v = false := decide_eq_false h
theorem letP_t {v : Int} (h : 97 ≤ v ∧ v ≤ 122) : letP v = true := decide_eq_true h
theorem letP_f {v : Int} (h : ¬ (97 ≤ v ∧ v ≤ 122)) : letP v = false := decide_eq_false h
theorem digP_t {v : Int} (h : 48 ≤ v ∧ v ≤ 57) : digP v = true := decide_eq_true h
theorem digP_f {v : Int} (h : ¬ (48 ≤ v ∧ v ≤ 57)) : digP v = false := decide_eq_false h
theorem sgnP_t {v : Int} (h : v = 60 ∨ v = 61 ∨ v = 62 ∨ v = 58 ∨ v = 59) : sgnP v = true := decide_eq_true h
theorem sgnP_f {v : Int} (h : ¬ (v = 60 ∨ v = 61 ∨ v = 62 ∨ v = 58 ∨ v = 59)) : sgnP v = false := decide_eq_false h
theorem TokAt_mk {S : PS} {x k s e : Nat} (h1 : (pI S 1004 x).toInt = (k : Int)) (h2 : (pI S 1005 x).toInt = (s : Int)) (h3 : (pI S 1006 x).toInt = (e : Int)) : TokAt S x (k, s, e) := ⟨h1, h2, h3⟩
/-- a token stands in the tape; it was read from some place on -/
def GB (B : Nat → Int) (n : Nat) (S : PS) (x : Nat) (t : Tk) : Prop := TokAt S x t ∧ ∃ a, a ≤ 400 ∧ t = tokF B n a
theorem tB_0 {S : PS} {x : Nat} : ∀ j, (pI S 1000 x).toInt.toNat ≤ j → tB S x j = 0 := fun j hj => by rw [tB_eq, if_neg (by omega)]
theorem GB_ok {S S1 : PS} {x : Nat} {t : Tk} (hG : GX S) (ha : At S x 10) (h : GB (tB S x) (pI S 1000 x).toInt.toNat S1 x t) : t.2.1 ≤ t.2.2 ∧ t.2.2 ≤ 400 ∧ (t.1 = 2 → t.2.2 - t.2.1 ≤ 4 ∧ ∀ j, t.2.1 ≤ j → j < t.2.2 → digP (tB S x j) = true) ∧ (t.1 = 0 ∨ t.2.1 < (pI S 1000 x).toInt.toNat) := by
  obtain ⟨-, a, h1, h2⟩ := h
  have hr := gI_10_1000 hG ha
  rw [h2]
  exact tok_ok tB_0 (by omega) h1
theorem GB_adv {B : Nat → Int} {n : Nat} {S1 S2 : PS} {x : Nat} {t : Tk} (h : GB B n S1 x t) (hB : tB S1 x = B) (hn : (pI S1 1000 x).toInt.toNat = n) (ok : t.2.2 ≤ 400) (hp : TokAt S2 x (tokF (tB S1 x) (pI S1 1000 x).toInt.toNat (pI S1 1006 x).toInt.toNat)) : GB B n S2 x (nxT B n t) := by
  rw [hB, hn, h.1.2.2, show ((t.2.2 : Nat) : Int).toNat = t.2.2 from Int.toNat_natCast _] at hp
  exact ⟨by rw [nxT_eq]; exact hp, t.2.2, ok, nxT_eq B n t⟩
theorem TokAt_eq {S S1 : PS} {x : Nat} {t : Tk} (h : TokAt S x t) (h4 : pI S1 1004 x = pI S 1004 x) (h5 : pI S1 1005 x = pI S 1005 x) (h6 : pI S1 1006 x = pI S 1006 x) : TokAt S1 x t := ⟨by rw [h4]; exact h.1, by rw [h5]; exact h.2.1, by rw [h6]; exact h.2.2⟩
theorem GB_fr {B : Nat → Int} {n : Nat} {M : List Nat} {S S1 : PS} {x : Nat} {t : Tk} (h : GB B n S x t) (ha : At S x 10) (hF : Fr M S S1) (hM : ([1004, 1005, 1006] : List Nat).all (fun g => !M.contains g) = true) : GB B n S1 x t := ⟨TokAt_eq h.1 (hF.I' (allc hM (by decide)) ha rfl) (hF.I' (allc hM (by decide)) ha rfl) (hF.I' (allc hM (by decide)) ha rfl), h.2⟩
theorem GB_sI {B : Nat → Int} {n : Nat} {S S1 : PS} {x g a : Nat} {v : Int32} {t : Tk} (h : GB B n S x t) (e : S1 = sI S g a v) (h4 : 1004 ≠ g) (h5 : 1005 ≠ g) (h6 : 1006 ≠ g) : GB B n S1 x t := ⟨TokAt_eq h.1 (by rw [e]; exact pI_sI_nf h4) (by rw [e]; exact pI_sI_nf h5) (by rw [e]; exact pI_sI_nf h6), h.2⟩
theorem GB_sA {B : Nat → Int} {n : Nat} {S S1 : PS} {x a : Nat} {f : Nat → Int32} {t : Tk} (h : GB B n S x t) (e : S1 = sA S a f) : GB B n S1 x t := ⟨TokAt_eq h.1 (by rw [e]; rfl) (by rw [e]; rfl) (by rw [e]; rfl), h.2⟩
/-! ===== texts ===== -/
theorem strB_rng (i j : Nat) : 0 ≤ (strB i j).toInt ∧ (strB i j).toInt ≤ 127 := by
  unfold strB
  have h : ∀ c ∈ (strT i).toList, c.toNat < 128 := by
    by_cases hi : i < 26
    · have : ∀ j : Fin 26, ∀ c ∈ (strT j).toList, c.toNat < 128 := by decide +kernel
      exact this ⟨i, hi⟩
    · unfold strT
      rw [List.getD_eq_getElem?_getD, List.getElem?_eq_none (by simpa [strs] using hi)]
      intro c hc
      cases hc
  rw [List.getD_eq_getElem?_getD, List.getElem?_map]
  cases e : (strT i).toList[j]? with
  | none => exact ⟨by decide, by decide⟩
  | some c =>
    have hc := h c (List.mem_of_getElem? e)
    show 0 ≤ (Int32.ofNat c.toNat).toInt ∧ (Int32.ofNat c.toNat).toInt ≤ 127
    rw [Int32.toInt_ofNat_of_lt (by omega)]
    omega
theorem z_and255e {x v : Int32} (e : v = x &&& 255) : v.toInt = x.toInt % 256 := by
  subst e
  have h2 : (x &&& 255).toUInt32.toNat = x.toUInt32.toNat % 256 := by
    show (x.toUInt32 &&& 255).toNat = _
    rw [UInt32.toNat_and]
    exact Nat.and_two_pow_sub_one_eq_mod _ 8
  have h4 : (x &&& 255).toInt = ((x &&& 255).toUInt32.toNat : Int).bmod (2 ^ 32) := BitVec.toInt_eq_toNat_bmod _
  have h5 : x.toInt = (x.toUInt32.toNat : Int).bmod (2 ^ 32) := BitVec.toInt_eq_toNat_bmod _
  rw [h4, h2, bm_id (by omega) (by omega), h5, Int.bmod_def]
  split <;> omega
theorem z_i2ce {x v : Int32} (e : v = (x.toUInt32 % 65536).toInt32) (h0 : 0 ≤ x.toInt) (h1 : x.toInt ≤ 65535) : v.toInt = x.toInt := by
  subst e
  have h2 : (x.toUInt32 % 65536).toNat = x.toUInt32.toNat % 65536 := UInt32.toNat_mod _ _
  have h4 : (x.toUInt32 % 65536).toInt32.toInt = ((x.toUInt32 % 65536).toNat : Int).bmod (2 ^ 32) := BitVec.toInt_eq_toNat_bmod _
  have h5 : x.toInt = (x.toUInt32.toNat : Int).bmod (2 ^ 32) := BitVec.toInt_eq_toNat_bmod _
  have h6 := x.toUInt32.toNat_lt
  rw [h4, h2, bm_id (by omega) (by omega)]
  rw [Int.bmod_def] at h5
  split at h5 <;> omega
theorem GB_0 {B : Nat → Int} {n : Nat} {S1 S2 : PS} {x : Nat} (hB : tB S1 x = B) (hn : (pI S1 1000 x).toInt.toNat = n) (h6 : (pI S1 1006 x).toInt = 0) (hp : TokAt S2 x (tokF (tB S1 x) (pI S1 1000 x).toInt.toNat (pI S1 1006 x).toInt.toNat)) : GB B n S2 x (tokF B n 0) := by
  rw [hB, hn, h6] at hp
  exact ⟨hp, 0, by omega, rfl⟩
/-! ===== the grammar: what follows from a token ===== -/
def sgT (B : Nat → Int) (t : Tk) (c : Int) : Prop := t.1 = 3 ∧ B t.2.1 = c
noncomputable def cit {α : Type} (p : Prop) (a b : α) : α := @ite α p (Classical.propDecidable p) a b
theorem cit_y {α : Type} {p : Prop} {a b : α} (h : p) : cit p a b = a := if_pos h
theorem cit_n {α : Type} {p : Prop} {a b : α} (h : ¬ p) : cit p a b = b := if_neg h
def FLs : List Nat := [4, 5, 6, 7, 8, 9, 10]
def ALs : List Nat := [11, 12, 13, 14, 15, 16]
def cOk (B : Nat → Int) (n : Nat) (t : Tk) : Prop := whF B t FLs 0 ≠ -1 ∧ (sgT B (nxT B n t) 60 ∨ sgT B (nxT B n t) 61 ∨ sgT B (nxT B n t) 62) ∧ (nxT B n (nxT B n t)).1 = 2
noncomputable def nx3 (B : Nat → Int) (n : Nat) (t : Tk) : Tk := nxT B n (nxT B n (nxT B n t))
/-- conditions: j more may come; a fault (0: none) and the token behind -/
noncomputable def csF (B : Nat → Int) (n : Nat) : Nat → Tk → Int × Tk
  | 0, t => (cit (whF B t FLs 0 = -1) 1 2, t)
  | j + 1, t => cit (cOk B n t) (cit (sgT B (nx3 B n t) 58) (0, nxT B n (nx3 B n t)) (cit (isT1 B (nx3 B n t) 3) (csF B n j (nxT B n (nx3 B n t))) (1, t))) (1, t)
theorem csF_c {B : Nat → Int} {n j : Nat} {t : Tk} (h : ¬ cOk B n t) : csF B n (j + 1) t = (1, t) := cit_n h
theorem csF_e {B : Nat → Int} {n j : Nat} {t : Tk} (h : cOk B n t) (h2 : sgT B (nx3 B n t) 58) : csF B n (j + 1) t = (0, nxT B n (nx3 B n t)) := (cit_y h).trans (cit_y h2)
theorem csF_a {B : Nat → Int} {n j : Nat} {t : Tk} (h : cOk B n t) (h2 : ¬ sgT B (nx3 B n t) 58) (h3 : isT1 B (nx3 B n t) 3) : csF B n (j + 1) t = csF B n j (nxT B n (nx3 B n t)) := (cit_y h).trans ((cit_n h2).trans (cit_y h3))
theorem csF_n {B : Nat → Int} {n j : Nat} {t : Tk} (h : cOk B n t) (h2 : ¬ sgT B (nx3 B n t) 58) (h3 : ¬ isT1 B (nx3 B n t) 3) : csF B n (j + 1) t = (1, t) := (cit_y h).trans ((cit_n h2).trans (cit_n h3))
noncomputable def enF (B : Nat → Int) (n : Nat) (u : Tk) : Int × Tk := cit (sgT B u 59) (0, nxT B n u) (1, u)
noncomputable def acF (B : Nat → Int) (n : Nat) (t : Tk) : Int × Tk := cit (whF B t ALs 0 = -1) (1, t) (cit (whF B t ALs 0 = 5) (cit ((nxT B n t).1 = 2) (enF B n (nxT B n (nxT B n t))) (1, t)) (enF B n (nxT B n t)))
noncomputable def rueF (B : Nat → Int) (n m : Nat) (t : Tk) : Int × Tk := cit (¬ isT1 B t 2 ∧ whF B t ALs 0 = -1) (1, t) (cit (12 ≤ m) (2, t) (cit (isT1 B t 2) (cit ((csF B n 4 (nxT B n t)).1 = 0) (acF B n (csF B n 4 (nxT B n t)).2) ((csF B n 4 (nxT B n t)).1, t)) (acF B n t)))
noncomputable def prF (B : Nat → Int) (n : Nat) : Nat → Nat → Tk → Int × Nat
  | 0, m, _ => (0, m)
  | k + 1, m, t => cit (t.1 = 0) (0, m) (cit ((rueF B n m t).1 = 0) (prF B n k (m + 1) (rueF B n m t).2) ((rueF B n m t).1, m))
theorem prF_e {B : Nat → Int} {n k m : Nat} {t : Tk} (h : t.1 = 0) : prF B n (k + 1) m t = (0, m) := cit_y h
theorem prF_r {B : Nat → Int} {n k m : Nat} {t : Tk} (h : t.1 ≠ 0) (h2 : (rueF B n m t).1 = 0) : prF B n (k + 1) m t = prF B n k (m + 1) (rueF B n m t).2 := (cit_n h).trans (cit_y h2)
theorem prF_f {B : Nat → Int} {n k m : Nat} {t : Tk} (h : t.1 ≠ 0) (h2 : (rueF B n m t).1 ≠ 0) : prF B n (k + 1) m t = ((rueF B n m t).1, m) := (cit_n h).trans (cit_n h2)
def okR (z : Int) : Prop := z = 0 ∨ z = 1 ∨ z = 2
theorem cit_ok {α : Type} {p : Prop} {a b : Int × α} (ha : okR a.1) (hb : okR b.1) : okR (cit p a b).1 := by
  by_cases h : p
  · rw [cit_y h]; exact ha
  · rw [cit_n h]; exact hb
theorem csF_ok {B : Nat → Int} {n : Nat} : ∀ (j : Nat) (t : Tk), okR (csF B n j t).1
  | 0, t => by
    show okR (cit (whF B t FLs 0 = -1) 1 2)
    by_cases h : whF B t FLs 0 = -1
    · rw [cit_y h]; exact Or.inr (Or.inl rfl)
    · rw [cit_n h]; exact Or.inr (Or.inr rfl)
  | j + 1, t => cit_ok (cit_ok (Or.inl rfl) (cit_ok (csF_ok j _) (Or.inr (Or.inl rfl)))) (Or.inr (Or.inl rfl))
theorem enF_ok {B : Nat → Int} {n : Nat} (u : Tk) : okR (enF B n u).1 := cit_ok (Or.inl rfl) (Or.inr (Or.inl rfl))
theorem acF_ok {B : Nat → Int} {n : Nat} (t : Tk) : okR (acF B n t).1 := cit_ok (Or.inr (Or.inl rfl)) (cit_ok (cit_ok (enF_ok _) (Or.inr (Or.inl rfl))) (enF_ok _))
theorem rueF_ok {B : Nat → Int} {n m : Nat} (t : Tk) : okR (rueF B n m t).1 := cit_ok (Or.inr (Or.inl rfl)) (cit_ok (Or.inr (Or.inr rfl)) (cit_ok (cit_ok (acF_ok _) (csF_ok 4 _)) (acF_ok _)))
theorem prF_ok {B : Nat → Int} {n : Nat} : ∀ (k m : Nat) (t : Tk), okR (prF B n k m t).1
  | 0, _, _ => Or.inl rfl
  | k + 1, m, t => cit_ok (Or.inl rfl) (cit_ok (prF_ok k (m + 1) _) (rueF_ok t))
noncomputable def prR (B : Nat → Int) (n : Nat) : Int := cit ((prF B n 13 0 (tokF B n 0)).1 = 0) ((prF B n 13 0 (tokF B n 0)).2 : Int) ((prF B n 13 0 (tokF B n 0)).1 - 10)
/-! ===== the contents of rules ===== -/
abbrev Cn : Type := Int32 × Int32 × Int32
abbrev Ru : Type := Int32 × Int32 × List (Int32 × Int32 × Int32)
theorem mA_sAy {S T : PS} {x g q : Nat} {f : Nat → Int32} (hR : pR S g x = some q) (e : T = sA S q f) : mA T x g = f := by
  subst e
  rw [mA_eq (show pR (sA S q f) g x = some q from hR)]
  exact if_pos rfl
theorem mA_sAx {S T : PS} {x g q : Nat} {f : Nat → Int32} (hR : pR S g x ≠ some q) (e : T = sA S q f) : mA T x g = mA S x g := by
  subst e
  unfold mA
  rw [show pR (sA S q f) g x = pR S g x from rfl]
  cases h : pR S g x with
  | none => rfl
  | some p => exact pA_sA_ne (fun z => hR (by rw [h, z]))
theorem mA_sIx {S T : PS} {x g k a : Nat} {v : Int32} (e : T = sI S k a v) : mA T x g = mA S x g := by
  subst e
  rfl
def ruG : List Nat := [601, 602, 603, 604, 605, 606]
/-- the rows of a program are its own, each another -/
def RuD (S : PS) (ρ : Nat) : Prop := ∃ q1 q2 q4 q5 q6, (pR S 601 ρ = some q1 ∧ pR S 602 ρ = some q2 ∧ pR S 604 ρ = some q4 ∧ pR S 605 ρ = some q5 ∧ pR S 606 ρ = some q6) ∧ (q1 ≠ q2 ∧ q1 ≠ q4 ∧ q1 ≠ q5 ∧ q1 ≠ q6 ∧ q2 ≠ q4 ∧ q2 ≠ q5 ∧ q2 ≠ q6 ∧ q4 ≠ q5 ∧ q4 ≠ q6 ∧ q5 ≠ q6)
theorem RuD_to {S T : PS} {ρ : Nat} (hR : ∀ g, g ∈ ruG → pR T g ρ = pR S g ρ) (h : RuD S ρ) : RuD T ρ := by
  obtain ⟨q1, q2, q4, q5, q6, ⟨h1, h2, h4, h5, h6⟩, hn⟩ := h
  exact ⟨q1, q2, q4, q5, q6, ⟨(hR 601 (by decide)).trans h1, (hR 602 (by decide)).trans h2, (hR 604 (by decide)).trans h4, (hR 605 (by decide)).trans h5, (hR 606 (by decide)).trans h6⟩, hn⟩
theorem ru_pR {M : List Nat} {S T : PS} {ρ : Nat} (hF : Fr M S T) (hr : At S ρ 6) (hM : ruG.all (fun g => !M.contains g) = true) : ∀ g, g ∈ ruG → pR T g ρ = pR S g ρ := fun g hg => (hF.2.1 g (fun z => by
  have h := List.all_eq_true.mp hM g hg
  rw [List.contains_iff_mem.mpr z] at h
  cases h) ρ hr.1).2
theorem RuD_fr {M : List Nat} {S T : PS} {ρ : Nat} (hF : Fr M S T) (hr : At S ρ 6) (hM : ruG.all (fun g => !M.contains g) = true) (h : RuD S ρ) : RuD T ρ := RuD_to (ru_pR hF hr hM) h
/-- the conditions of rule k -/
def CnA (S : PS) (ρ k : Nat) (C : List Cn) : Prop := (mA S ρ 603 k).toInt = (C.length : Int) ∧ ∀ j c, C[j]? = some c → mA S ρ 604 (4 * k + j) = c.1 ∧ mA S ρ 605 (4 * k + j) = c.2.1 ∧ mA S ρ 606 (4 * k + j) = c.2.2
def RuIs (S : PS) (ρ : Nat) (R : List Ru) : Prop := (pI S 600 ρ).toInt = (R.length : Int) ∧ ∀ k r, R[k]? = some r → mA S ρ 601 k = r.1 ∧ mA S ρ 602 k = r.2.1 ∧ CnA S ρ k r.2.2
def RuC (S : PS) (ρ : Nat) (R : List Ru) (C : List Cn) : Prop := RuIs S ρ R ∧ CnA S ρ R.length C
theorem CnA_to {S T : PS} {ρ k : Nat} {C : List Cn} (hA : ∀ g, g ∈ ruG → mA T ρ g = mA S ρ g) (h : CnA S ρ k C) : CnA T ρ k C := by
  unfold CnA
  rw [hA 603 (by decide), hA 604 (by decide), hA 605 (by decide), hA 606 (by decide)]
  exact h
theorem RuIs_to {S T : PS} {ρ : Nat} {R : List Ru} (hI : pI T 600 ρ = pI S 600 ρ) (hA : ∀ g, g ∈ ruG → mA T ρ g = mA S ρ g) (h : RuIs S ρ R) : RuIs T ρ R := by
  refine ⟨by rw [hI]; exact h.1, fun k r hk => ?_⟩
  rw [hA 601 (by decide), hA 602 (by decide)]
  exact ⟨(h.2 k r hk).1, (h.2 k r hk).2.1, CnA_to hA (h.2 k r hk).2.2⟩
theorem RuC_to {S T : PS} {ρ : Nat} {R : List Ru} {C : List Cn} (hI : pI T 600 ρ = pI S 600 ρ) (hA : ∀ g, g ∈ ruG → mA T ρ g = mA S ρ g) (h : RuC S ρ R C) : RuC T ρ R C := ⟨RuIs_to hI hA h.1, CnA_to hA h.2⟩
theorem ru_mA {M : List Nat} {S T : PS} {ρ : Nat} (hG : GX S) (hr : At S ρ 6) (hF : Fr M S T) (hM : ([601, 602, 603, 604, 605, 606, 10034, 10134] : List Nat).all (fun g => !M.contains g) = true) : ∀ g, g ∈ ruG → mA T ρ g = mA S ρ g := fun g hg => by
  have hg2 : g = 601 ∨ g = 602 ∨ g = 603 ∨ g = 604 ∨ g = 605 ∨ g = 606 := by
    revert hg
    simp only [ruG, List.mem_cons, List.not_mem_nil, or_false]
    exact fun h => h
  rcases hg2 with z | z | z | z | z | z <;> subst z
  · exact mA_frc hF hr (ex3 (gQ_6_601 hG hr)) (allc hM (by decide)) (allc hM (by decide))
  · exact mA_frc hF hr (ex3 (gQ_6_602 hG hr)) (allc hM (by decide)) (allc hM (by decide))
  · exact mA_frc hF hr (ex3 (gQ_6_603 hG hr)) (allc hM (by decide)) (allc hM (by decide))
  · exact mA_frc hF hr (ex3 (gQ_6_604 hG hr)) (allc hM (by decide)) (allc hM (by decide))
  · exact mA_frc hF hr (ex3 (gQ_6_605 hG hr)) (allc hM (by decide)) (allc hM (by decide))
  · exact mA_frc hF hr (ex3 (gQ_6_606 hG hr)) (allc hM (by decide)) (allc hM (by decide))
def ruM : List Nat := [600, 601, 602, 603, 604, 605, 606, 10034, 10134]
theorem RuC_fr {M : List Nat} {S T : PS} {ρ : Nat} {R : List Ru} {C : List Cn} (hG : GX S) (hr : At S ρ 6) (hF : Fr M S T) (hM : ruM.all (fun g => !M.contains g) = true) (h : RuC S ρ R C) : RuC T ρ R C := RuC_to (hF.I' (g := 600) (allc hM (by decide)) hr rfl) (ru_mA hG hr hF (List.all_eq_true.mpr (fun g hg => List.all_eq_true.mp hM g (List.mem_cons_of_mem _ hg)))) h
theorem RuIs_fr {M : List Nat} {S T : PS} {ρ : Nat} {R : List Ru} (hG : GX S) (hr : At S ρ 6) (hF : Fr M S T) (hM : ruM.all (fun g => !M.contains g) = true) (h : RuIs S ρ R) : RuIs T ρ R := RuIs_to (hF.I' (g := 600) (allc hM (by decide)) hr rfl) (ru_mA hG hr hF (List.all_eq_true.mpr (fun g hg => List.all_eq_true.mp hM g (List.mem_cons_of_mem _ hg)))) h
theorem RuC_sI {S T : PS} {ρ g a : Nat} {v : Int32} {R : List Ru} {C : List Cn} (h : RuC S ρ R C) (e : T = sI S g a v) (hg : 600 ≠ g) : RuC T ρ R C := by
  subst e
  exact RuC_to (pI_sI_nf hg) (fun _ _ => rfl) h
theorem RuIs_sI {S T : PS} {ρ g a : Nat} {v : Int32} {R : List Ru} (h : RuIs S ρ R) (e : T = sI S g a v) (hg : 600 ≠ g) : RuIs T ρ R := by
  subst e
  exact RuIs_to (pI_sI_nf hg) (fun _ _ => rfl) h
theorem RuIs_0 {S : PS} {ρ : Nat} (h : (pI S 600 ρ).toInt = 0) : RuIs S ρ [] := ⟨h, fun k r hk => by cases hk⟩
theorem z603 {S : PS} {ρ : Nat} (hG : GX S) (hr : At S ρ 6) (k : Nat) : 0 ≤ (mA S ρ 603 k).toInt ∧ (mA S ρ 603 k).toInt ≤ 4 := by
  obtain ⟨q, k1, k2, -⟩ := gQ_6_603 hG hr
  rw [mA_eq k1]
  exact gE_34 hG k2 k
/-- what the reading of a program leaves of other programs -/
def RuK (S T : PS) (ρ : Nat) : Prop := (∀ b, At S b 6 → b ≠ ρ → pI T 600 b = pI S 600 b) ∧ ∀ a, At S a 34 ∨ At S a 134 → (∀ g, g ∈ ruG → pR S g ρ ≠ some a) → pA T a = pA S a
theorem RuK_rf (S : PS) (ρ : Nat) : RuK S S ρ := ⟨fun _ _ _ => rfl, fun _ _ _ => rfl⟩
theorem RuK_sA {S T U : PS} {ρ q g : Nat} {f : Nat → Int32} (h : RuK S T ρ) (e : U = sA T q f) (hg : g ∈ ruG) (hq : pR S g ρ = some q) : RuK S U ρ := by
  subst e
  exact ⟨fun b hb hn => h.1 b hb hn, fun a ha hn => (pA_sA_ne (fun z => hn g hg (by rw [hq, z]))).trans (h.2 a ha hn)⟩
theorem RuK_sI {S T U : PS} {ρ g a : Nat} {v : Int32} (h : RuK S T ρ) (e : U = sI T g a v) (hg : 600 ≠ g) : RuK S U ρ := by
  subst e
  exact ⟨fun b hb hn => (pI_sI_nf hg).trans (h.1 b hb hn), h.2⟩
theorem RuK_s6 {S T U : PS} {ρ : Nat} {v : Int32} (h : RuK S T ρ) (e : U = sI T 600 ρ v) : RuK S U ρ := by
  subst e
  exact ⟨fun b hb hn => (pI_sI_ne hn).trans (h.1 b hb hn), h.2⟩
theorem RuK_fr {M : List Nat} {S T U : PS} {ρ : Nat} (h : RuK S T ρ) (hE : ∀ a k, At S a k → At T a k) (hF : Fr M T U) (hM : ([600, 10034, 10134] : List Nat).all (fun g => !M.contains g) = true) : RuK S U ρ := by
  refine ⟨fun b hb hn => (hF.I' (g := 600) (allc hM (by decide)) (hE _ _ hb) rfl).trans (h.1 b hb hn), fun a ha hn => ?_⟩
  rcases ha with z | z
  · exact (hF.A' (k := 34) (allc hM (by decide)) (hE _ _ z)).trans (h.2 a (Or.inl z) hn)
  · exact (hF.A' (k := 134) (allc hM (by decide)) (hE _ _ z)).trans (h.2 a (Or.inr z) hn)
theorem RuK_tr {S T U : PS} {ρ : Nat} (h : RuK S T ρ) (hE : ∀ a k, At S a k → At T a k) (hR : ∀ g, g ∈ ruG → pR T g ρ = pR S g ρ) (h' : RuK T U ρ) : RuK S U ρ := by
  refine ⟨fun b hb hn => (h'.1 b (hE _ _ hb) hn).trans (h.1 b hb hn), fun a ha hn => (h'.2 a (ha.elim (fun z => Or.inl (hE _ _ z)) (fun z => Or.inr (hE _ _ z))) (fun g hg => by rw [hR g hg]; exact hn g hg)).trans (h.2 a ha hn)⟩
/-- another program is left as it is -/
theorem RuIs_oth {S T : PS} {ρ ρ' : Nat} {R : List Ru} (hG : GX S) (hr : At S ρ' 6) (hn : ρ' ≠ ρ) (hq : ∀ g g', g ∈ ruG → g' ∈ ruG → ∀ a, pR S g' ρ' = some a → pR S g ρ ≠ some a) (hR : ∀ g, g ∈ ruG → pR T g ρ' = pR S g ρ') (hK : RuK S T ρ) (h : RuIs S ρ' R) : RuIs T ρ' R := by
  have key : ∀ g k, g ∈ ruG → (∃ q, pR S g ρ' = some q ∧ At S q k) → k = 34 ∨ k = 134 → mA T ρ' g = mA S ρ' g := fun g k hg hx hk => by
    obtain ⟨q, k1, k2⟩ := hx
    rw [mA_eq k1, mA_eq ((hR g hg).trans k1)]
    exact hK.2 q (by rcases hk with z | z <;> subst z; exact Or.inl k2; exact Or.inr k2) (fun g2 hg2 => hq g2 g hg2 hg q k1)
  refine RuIs_to (hK.1 ρ' hr hn) (fun g hg => ?_) h
  have hg2 : g = 601 ∨ g = 602 ∨ g = 603 ∨ g = 604 ∨ g = 605 ∨ g = 606 := by
    revert hg
    simp only [ruG, List.mem_cons, List.not_mem_nil, or_false]
    exact fun h => h
  rcases hg2 with z | z | z | z | z | z <;> subst z
  · exact key 601 134 (by decide) (ex3 (gQ_6_601 hG hr)) (Or.inr rfl)
  · exact key 602 134 (by decide) (ex3 (gQ_6_602 hG hr)) (Or.inr rfl)
  · exact key 603 34 (by decide) (ex3 (gQ_6_603 hG hr)) (Or.inl rfl)
  · exact key 604 134 (by decide) (ex3 (gQ_6_604 hG hr)) (Or.inr rfl)
  · exact key 605 134 (by decide) (ex3 (gQ_6_605 hG hr)) (Or.inr rfl)
  · exact key 606 134 (by decide) (ex3 (gQ_6_606 hG hr)) (Or.inr rfl)
/-! ===== a rule is opened, gets a condition, is closed ===== -/
def OpP (S T : PS) (ρ : Nat) : Prop := ∃ q k : Nat, pR S 603 ρ = some q ∧ (k : Int) = (pI S 600 ρ).toInt ∧ T = sA S q (upd (pA S q) k 0)
def AdP (S T : PS) (ρ : Nat) (a b c : Int32) : Prop := ∃ (q3 q4 q5 q6 i k : Nat) (v : Int32) (S1 S2 S3 : PS), (pR S 603 ρ = some q3 ∧ pR S 604 ρ = some q4 ∧ pR S 605 ρ = some q5 ∧ pR S 606 ρ = some q6) ∧ (k : Int) = (pI S 600 ρ).toInt ∧ (i : Int) = 4 * (pI S 600 ρ).toInt + (pA S q3 k).toInt ∧ v.toInt = (pA S q3 k).toInt + 1 ∧ S1 = sA S q4 (upd (pA S q4) i a) ∧ S2 = sA S1 q5 (upd (pA S1 q5) i b) ∧ S3 = sA S2 q6 (upd (pA S2 q6) i c) ∧ T = sA S3 q3 (upd (pA S3 q3) k v)
def ClP (S T : PS) (ρ : Nat) (a m : Int32) : Prop := ∃ (q1 q2 k : Nat) (v : Int32) (S1 S2 : PS), (pR S 601 ρ = some q1 ∧ pR S 602 ρ = some q2) ∧ (k : Int) = (pI S 600 ρ).toInt ∧ v.toInt = (pI S 600 ρ).toInt + 1 ∧ S1 = sA S q1 (upd (pA S q1) k a) ∧ S2 = sA S1 q2 (upd (pA S1 q2) k m) ∧ T = sI S2 600 ρ v
theorem q3_ne {S : PS} {ρ q3 g : Nat} (hG : GX S) (hr : At S ρ 6) (h3 : pR S 603 ρ = some q3) (hg : g = 601 ∨ g = 602 ∨ g = 604 ∨ g = 605 ∨ g = 606) : pR S g ρ ≠ some q3 := by
  obtain ⟨q, k1, k2, -⟩ := gQ_6_603 hG hr
  rw [h3] at k1
  cases k1
  have key : ∀ g, (∃ q, pR S g ρ = some q ∧ At S q 134) → pR S g ρ ≠ some q3 := fun g hx z => by
    obtain ⟨q, j1, j2⟩ := hx
    rw [j1] at z
    cases z
    exact At_ne j2 k2 (by decide) rfl
  rcases hg with z | z | z | z | z <;> subst z
  · exact key _ (ex3 (gQ_6_601 hG hr))
  · exact key _ (ex3 (gQ_6_602 hG hr))
  · exact key _ (ex3 (gQ_6_604 hG hr))
  · exact key _ (ex3 (gQ_6_605 hG hr))
  · exact key _ (ex3 (gQ_6_606 hG hr))
theorem RuC_open {S T : PS} {ρ : Nat} {R : List Ru} (hG : GX S) (hr : At S ρ 6) (h : RuIs S ρ R) (hp : OpP S T ρ) : RuC T ρ R [] ∧ RuK S T ρ := by
  obtain ⟨q, k, hq, hk, e⟩ := hp
  have hkl : k = R.length := by have := h.1; omega
  have a3 : mA T ρ 603 = upd (mA S ρ 603) k 0 := by rw [mA_sAy hq e, mA_eq hq]
  have ax : ∀ g, g = 601 ∨ g = 602 ∨ g = 604 ∨ g = 605 ∨ g = 606 → mA T ρ g = mA S ρ g := fun g hg => mA_sAx (q3_ne hG hr hq hg) e
  have hI : pI T 600 ρ = pI S 600 ρ := by rw [e]; rfl
  refine ⟨⟨⟨by rw [hI]; exact h.1, fun j r hj => ?_⟩, ?_, fun j c hc => by cases hc⟩, RuK_sA (RuK_rf S ρ) e (g := 603) (by decide) hq⟩
  · obtain ⟨h1, h2, h3, h4⟩ := h.2 j r hj
    have hjl := (List.getElem?_eq_some_iff.mp hj).1
    refine ⟨by rw [ax 601 (Or.inl rfl)]; exact h1, by rw [ax 602 (Or.inr (Or.inl rfl))]; exact h2, by rw [a3, upd_n (by omega)]; exact h3, ?_⟩
    rw [ax 604 (by decide), ax 605 (by decide), ax 606 (by decide)]
    exact h4
  · rw [a3, ← hkl, upd_s]
    decide
theorem RuC_add {S T : PS} {ρ : Nat} {R : List Ru} {C : List Cn} {a b c : Int32} (hG : GX S) (hr : At S ρ 6) (hD : RuD S ρ) (h : RuC S ρ R C) (hp : AdP S T ρ a b c) : RuC T ρ R (C ++ [(a, b, c)]) ∧ RuK S T ρ := by
  obtain ⟨q3, q4, q5, q6, i, k, v, S1, S2, S3, ⟨r3, r4, r5, r6⟩, hk, hi, hv, e1, e2, e3, e4⟩ := hp
  obtain ⟨p1, p2, p4, p5, p6, ⟨d1, d2, d4, d5, d6⟩, n12, n14, n15, n16, n24, n25, n26, n45, n46, n56⟩ := hD
  rw [r4] at d4
  cases d4
  rw [r5] at d5
  cases d5
  rw [r6] at d6
  cases d6
  have hkl : k = R.length := by have := h.1.1; omega
  have m3 : ∀ g, g = 601 ∨ g = 602 ∨ g = 604 ∨ g = 605 ∨ g = 606 → pR S g ρ ≠ some q3 := fun g hg => q3_ne hG hr r3 hg
  have x4 : q4 ≠ q3 := fun z => m3 604 (by decide) (by rw [r4, z])
  have x5 : q5 ≠ q3 := fun z => m3 605 (by decide) (by rw [r5, z])
  have x6 : q6 ≠ q3 := fun z => m3 606 (by decide) (by rw [r6, z])
  have pr : ∀ g b, pR S3 g b = pR S g b := fun g b => by rw [e3, e2, e1]; rfl
  have pr2 : ∀ g b, pR S2 g b = pR S g b := fun g b => by rw [e2, e1]; rfl
  have pr1 : ∀ g b, pR S1 g b = pR S g b := fun g b => by rw [e1]; rfl
  have c3 : (pA S q3 k).toInt = (C.length : Int) := by
    have := h.2.1
    rw [mA_eq r3, ← hkl] at this
    exact this
  have a3 : mA T ρ 603 = upd (mA S ρ 603) k v := by
    rw [mA_sAy ((pr 603 ρ).trans r3) e4, mA_eq r3, e3, pA_sA_ne x6.symm, e2, pA_sA_ne x5.symm, e1, pA_sA_ne x4.symm]
  have a4 : mA T ρ 604 = upd (mA S ρ 604) i a := by
    rw [mA_sAx (by rw [pr, r4]; exact fun z => x4 (Option.some.inj z)) e4, mA_sAx (by rw [pr2, r4]; exact fun z => n46 (Option.some.inj z)) e3, mA_sAx (by rw [pr1, r4]; exact fun z => n45 (Option.some.inj z)) e2, mA_sAy r4 e1, mA_eq r4]
  have a5 : mA T ρ 605 = upd (mA S ρ 605) i b := by
    rw [mA_sAx (by rw [pr, r5]; exact fun z => x5 (Option.some.inj z)) e4, mA_sAx (by rw [pr2, r5]; exact fun z => n56 (Option.some.inj z)) e3, mA_sAy ((pr1 605 ρ).trans r5) e2, mA_eq r5, e1, pA_sA_ne n45.symm]
  have a6 : mA T ρ 606 = upd (mA S ρ 606) i c := by
    rw [mA_sAx (by rw [pr, r6]; exact fun z => x6 (Option.some.inj z)) e4, mA_sAy ((pr2 606 ρ).trans r6) e3, mA_eq r6, e2, pA_sA_ne n56.symm, e1, pA_sA_ne n46.symm]
  have a1 : mA T ρ 601 = mA S ρ 601 := by
    rw [mA_sAx (by rw [pr]; exact m3 _ (by decide)) e4, mA_sAx (by rw [pr2, d1]; exact fun z => n16 (Option.some.inj z)) e3, mA_sAx (by rw [pr1, d1]; exact fun z => n15 (Option.some.inj z)) e2, mA_sAx (by rw [d1]; exact fun z => n14 (Option.some.inj z)) e1]
  have a2 : mA T ρ 602 = mA S ρ 602 := by
    rw [mA_sAx (by rw [pr]; exact m3 _ (by decide)) e4, mA_sAx (by rw [pr2, d2]; exact fun z => n26 (Option.some.inj z)) e3, mA_sAx (by rw [pr1, d2]; exact fun z => n25 (Option.some.inj z)) e2, mA_sAx (by rw [d2]; exact fun z => n24 (Option.some.inj z)) e1]
  have hI : pI T 600 ρ = pI S 600 ρ := by rw [e4, e3, e2, e1]; rfl
  have hK : RuK S T ρ := RuK_sA (RuK_sA (RuK_sA (RuK_sA (RuK_rf S ρ) e1 (g := 604) (by decide) r4) e2 (g := 605) (by decide) r5) e3 (g := 606) (by decide) r6) e4 (g := 603) (by decide) r3
  have hil : i = 4 * R.length + C.length := by omega
  refine ⟨⟨⟨by rw [hI]; exact h.1.1, fun j r hj => ?_⟩, ?_, fun j d hd => ?_⟩, hK⟩
  · obtain ⟨h1, h2, h3, h4⟩ := h.1.2 j r hj
    have hjl := (List.getElem?_eq_some_iff.mp hj).1
    refine ⟨by rw [a1]; exact h1, by rw [a2]; exact h2, by rw [a3, upd_n (by omega)]; exact h3, fun l d hd => ?_⟩
    have hl := (List.getElem?_eq_some_iff.mp hd).1
    have h4l := (z603 hG hr j).2
    rw [a4, a5, a6, upd_n (by omega), upd_n (by omega), upd_n (by omega)]
    exact h4 l d hd
  · rw [a3, ← hkl, upd_s, hv, c3, List.length_append]
    rfl
  · rw [a4, a5, a6]
    by_cases z : j = C.length
    · subst z
      rw [List.getElem?_append_right (Nat.le_refl _), Nat.sub_self] at hd
      cases hd
      rw [← hil, upd_s, upd_s, upd_s]
      exact ⟨rfl, rfl, rfl⟩
    · have hjl : j < C.length := by
        have := (List.getElem?_eq_some_iff.mp hd).1
        rw [List.length_append] at this
        have h3 : j < C.length + 1 := this
        omega
      rw [List.getElem?_append_left hjl] at hd
      rw [upd_n (by omega), upd_n (by omega), upd_n (by omega)]
      exact h.2.2 j d hd
theorem RuC_close {S T : PS} {ρ : Nat} {R : List Ru} {C : List Cn} {a m : Int32} (hG : GX S) (hr : At S ρ 6) (hD : RuD S ρ) (h : RuC S ρ R C) (hp : ClP S T ρ a m) : RuIs T ρ (R ++ [(a, m, C)]) ∧ RuK S T ρ := by
  obtain ⟨q1, q2, k, v, S1, S2, ⟨r1, r2⟩, hk, hv, e1, e2, e3⟩ := hp
  obtain ⟨p1, p2, p4, p5, p6, ⟨d1, d2, d4, d5, d6⟩, n12, n14, n15, n16, n24, n25, n26, n45, n46, n56⟩ := hD
  rw [r1] at d1
  cases d1
  rw [r2] at d2
  cases d2
  have hkl : k = R.length := by have := h.1.1; omega
  obtain ⟨q3, r3, -, -⟩ := gQ_6_603 hG hr
  have m3 : ∀ g, g = 601 ∨ g = 602 ∨ g = 604 ∨ g = 605 ∨ g = 606 → pR S g ρ ≠ some q3 := fun g hg => q3_ne hG hr r3 hg
  have pr1 : ∀ g b, pR S1 g b = pR S g b := fun g b => by rw [e1]; rfl
  have b1 : mA T ρ 601 = upd (mA S ρ 601) k a := by
    rw [mA_sIx e3, mA_sAx (by rw [pr1, r1]; exact fun z => n12 (Option.some.inj z)) e2, mA_sAy r1 e1, mA_eq r1]
  have b2 : mA T ρ 602 = upd (mA S ρ 602) k m := by
    rw [mA_sIx e3, mA_sAy ((pr1 602 ρ).trans r2) e2, mA_eq r2, e1, pA_sA_ne n12.symm]
  have bx : ∀ g p, pR S g ρ = some p → p ≠ q1 → p ≠ q2 → mA T ρ g = mA S ρ g := fun g p hp z1 z2 => by
    rw [mA_sIx e3, mA_sAx (by rw [pr1, hp]; exact fun z => z2 (Option.some.inj z)) e2, mA_sAx (by rw [hp]; exact fun z => z1 (Option.some.inj z)) e1]
  have b3 : mA T ρ 603 = mA S ρ 603 := bx 603 q3 r3 (fun z => m3 601 (by decide) (by rw [r1, z])) (fun z => m3 602 (by decide) (by rw [r2, z]))
  have b4 : mA T ρ 604 = mA S ρ 604 := bx 604 p4 d4 n14.symm n24.symm
  have b5 : mA T ρ 605 = mA S ρ 605 := bx 605 p5 d5 n15.symm n25.symm
  have b6 : mA T ρ 606 = mA S ρ 606 := bx 606 p6 d6 n16.symm n26.symm
  have hc : ∀ j L, CnA S ρ j L → CnA T ρ j L := fun j L hL => by
    unfold CnA
    rw [b3, b4, b5, b6]
    exact hL
  refine ⟨⟨?_, fun j r hj => ?_⟩, RuK_s6 (RuK_sA (RuK_sA (RuK_rf S ρ) e1 (g := 601) (by decide) r1) e2 (g := 602) (by decide) r2) e3⟩
  · rw [e3, pI_sI_same, hv, h.1.1, List.length_append]
    rfl
  · by_cases z : j = R.length
    · subst z
      rw [List.getElem?_append_right (Nat.le_refl _), Nat.sub_self] at hj
      cases hj
      rw [b1, b2, hkl, upd_s, upd_s]
      exact ⟨rfl, rfl, hc _ _ h.2⟩
    · have hjl : j < R.length := by
        have := (List.getElem?_eq_some_iff.mp hj).1
        rw [List.length_append] at this
        have h3 : j < R.length + 1 := this
        omega
      rw [List.getElem?_append_left hjl] at hj
      rw [b1, b2, upd_n (by omega), upd_n (by omega)]
      exact ⟨(h.1.2 j r hj).1, (h.1.2 j r hj).2.1, hc _ _ (h.1.2 j r hj).2.2⟩
/-! ===== what the grammar's rules say ===== -/
theorem ofI {r : Int32} {z : Int} (h : r.toInt = z) : r = Int32.ofInt z := by
  rw [← h, Int32.ofInt_toInt]
noncomputable def nuV (B : Nat → Int) (t : Tk) : Int32 := Int32.ofInt (numF B t.2.1 (t.2.2 - t.2.1))
/-- the condition that begins at t -/
noncomputable def cdV (B : Nat → Int) (n : Nat) (t : Tk) : Cn := (Int32.ofInt (whF B t FLs 0), Int32.ofInt (B (nxT B n t).2.1), nuV B (nxT B n (nxT B n t)))
theorem cdV_eq {B : Nat → Int} {n : Nat} {t : Tk} {a b c : Int32} (h1 : a.toInt = whF B t FLs 0) (h2 : b.toInt = B (nxT B n t).2.1) (h3 : c.toInt = numF B (nxT B n (nxT B n t)).2.1 ((nxT B n (nxT B n t)).2.2 - (nxT B n (nxT B n t)).2.1)) : cdV B n t = (a, b, c) := by
  unfold cdV nuV
  rw [← h1, ← h2, ← h3, Int32.ofInt_toInt, Int32.ofInt_toInt, Int32.ofInt_toInt]
/-- the conditions from t on, where they stand: at most j -/
noncomputable def csL (B : Nat → Int) (n : Nat) : Nat → Tk → List Cn
  | 0, _ => []
  | j + 1, t => cdV B n t :: cit (sgT B (nx3 B n t) 58) [] (csL B n j (nxT B n (nx3 B n t)))
theorem csL_e {B : Nat → Int} {n j : Nat} {t : Tk} (h : sgT B (nx3 B n t) 58) : csL B n (j + 1) t = [cdV B n t] := by
  show cdV B n t :: cit (sgT B (nx3 B n t) 58) [] (csL B n j (nxT B n (nx3 B n t))) = _
  rw [cit_y h]
theorem csL_a {B : Nat → Int} {n j : Nat} {t : Tk} (h : ¬ sgT B (nx3 B n t) 58) : csL B n (j + 1) t = cdV B n t :: csL B n j (nxT B n (nx3 B n t)) := by
  show cdV B n t :: cit (sgT B (nx3 B n t) 58) [] (csL B n j (nxT B n (nx3 B n t))) = _
  rw [cit_n h]
/-- the act at t, its amount -/
noncomputable def acV (B : Nat → Int) (n : Nat) (t : Tk) : Int32 × Int32 := (Int32.ofInt (whF B t ALs 0), cit (whF B t ALs 0 = 5) (nuV B (nxT B n t)) 0)
theorem acV_s {B : Nat → Int} {n : Nat} {t : Tk} {a m : Int32} (h1 : a.toInt = whF B t ALs 0) (h5 : whF B t ALs 0 = 5) (h2 : m.toInt = numF B (nxT B n t).2.1 ((nxT B n t).2.2 - (nxT B n t).2.1)) : acV B n t = (a, m) := by
  unfold acV nuV
  rw [cit_y h5, ← h1, ← h2, Int32.ofInt_toInt, Int32.ofInt_toInt]
theorem acV_n {B : Nat → Int} {n : Nat} {t : Tk} {a : Int32} (h1 : a.toInt = whF B t ALs 0) (h5 : whF B t ALs 0 ≠ 5) : acV B n t = (a, 0) := by
  unfold acV
  rw [cit_n h5, ← h1, Int32.ofInt_toInt]
/-- the rule that begins at t -/
noncomputable def ruV (B : Nat → Int) (n : Nat) (t : Tk) : Ru := cit (isT1 B t 2) ((acV B n (csF B n 4 (nxT B n t)).2).1, (acV B n (csF B n 4 (nxT B n t)).2).2, csL B n 4 (nxT B n t)) ((acV B n t).1, (acV B n t).2, [])
theorem ruV_i {B : Nat → Int} {n : Nat} {t : Tk} (h : isT1 B t 2) : ruV B n t = ((acV B n (csF B n 4 (nxT B n t)).2).1, (acV B n (csF B n 4 (nxT B n t)).2).2, csL B n 4 (nxT B n t)) := cit_y h
theorem ruV_n {B : Nat → Int} {n : Nat} {t : Tk} (h : ¬ isT1 B t 2) : ruV B n t = ((acV B n t).1, (acV B n t).2, []) := cit_n h
/-- all rules from t on -/
noncomputable def prL (B : Nat → Int) (n : Nat) : Nat → Nat → Tk → List Ru
  | 0, _, _ => []
  | k + 1, m, t => cit (t.1 = 0) [] (ruV B n t :: prL B n k (m + 1) (rueF B n m t).2)
theorem prL_e {B : Nat → Int} {n k m : Nat} {t : Tk} (h : t.1 = 0) : prL B n (k + 1) m t = [] := cit_y h
theorem prL_r {B : Nat → Int} {n k m : Nat} {t : Tk} (h : t.1 ≠ 0) : prL B n (k + 1) m t = ruV B n t :: prL B n k (m + 1) (rueF B n m t).2 := cit_n h
noncomputable def prA (B : Nat → Int) (n : Nat) : List Ru := prL B n 13 0 (tokF B n 0)
theorem app_c {α : Type} {L M N : List α} {a : α} (h : L ++ (a :: M) = N) : (L ++ [a]) ++ M = N := by
  rw [List.append_assoc]
  exact h

set_option maxHeartbeats 4000000 in
set_option maxRecDepth 100000 in
theorem k_X10_byteAt2 (l : Launch) (G : va_G) (cy : Nat → ClassId) (κ : Nat → Nat) (S : PS) (sz : Nat) (x : Nat) (a1 : Int32) (a1_z : Int) (hG : GX S) (ha_x : At S x 10) (hz_a1 : a1.toInt = a1_z) : Ci l yX10_byteAt wsX10_byteAt ({ frames := 1, cells := 0, slots := 0, locals := 48 }) G cy κ S sz [.ref x, .int (a1)] (fun (r : Int32) (S9 : PS) => S = S9 ∧ ((0 ≤ a1_z → r.toInt = tB S x a1_z.toNat))) := by
  refine ent_m (cc := cX10_byteAt) (maxL := 2) (ret := (some .int)) (by decide) rfl (Nat.le_of_ble_eq_true rfl) ?_
  intro p e s m below meth c ls X hr hlocks hin hw hl hsz
  subst hsz
  have X : Cx p c cX10_byteAt 2 s [.ref x, .int (a1)].toArray wsX10_byteAt RX10 m G cy κ (AS S s.heap.size) := X
  have hl : lv_has ls 2 [(0, .ref x), (1, .int (a1))] := hl
  have rg_a1 : (-2147483648) ≤ a1_z ∧ a1_z ≤ 2147483647 := by rw [← hz_a1]; exact ⟨z_lo _, z_hi _⟩
  refine lv_iload_n X.1 X.2.1 dX10_byteAt_0 rfl (lv_at hl 1 rfl) ?_
  refine lv_if_lt (tgt := 19) X.1 X.2.1 dX10_byteAt_1 (by decide) (fun c_1 => ?_) (fun c_1 => ?_)
  · have z_b_2 := trivial
    have k_3 : a1_z < 0 := z_lt hz_a1 ti_0 c_1
    refine lv_iconst (v := 0) X.1 X.2.1 dX10_byteAt_19 (by decide) ?_
    refine lv_goto (tgt := 29) X.1 X.2.1 dX10_byteAt_20 (by decide) ?_
    exact ret_i X hw hr hlocks (Nat.le_of_ble_eq_true rfl) (Nat.le_of_ble_eq_true rfl) ⟨rfl, (fun h0 => (tB_out (S := S) (x := x) h0 (by omega)).symm)⟩ dX10_byteAt_29
  · have z_b_4 := trivial
    have k_5 : a1_z ≥ 0 := z_nlt hz_a1 ti_0 c_1
    refine lv_iload_n X.1 X.2.1 dX10_byteAt_4 rfl (lv_at hl 1 rfl) ?_
    refine lv_aload_n X.1 X.2.1 dX10_byteAt_5 rfl (lv_at hl 0 rfl) ?_
    obtain ⟨v_6, ev_6⟩ : ∃ v, pI S 1000 x = v := ⟨_, rfl⟩
    have rg_7 := gI_10_1000 hG ha_x; rw [ev_6] at rg_7
    have pz_8 : (pI S 1000 x).toInt = v_6.toInt := by rw [ev_6]
    refine r_getI (g := 1000) (x := v_6) X hw ha_x rfl 0 ev_6 (by decide) rfl inn_X10_byteAt_10 (by decide) (X.2.2.2.1 (.fieldLink RX10 19 "SilkMill$Tape" "size" "I") (by decide +kernel)) rfl (gv_1000 _ _) dX10_byteAt_6 ?_
    refine lv_icmp_ge (tgt := 19) X.1 X.2.1 dX10_byteAt_9 (by decide) (fun c_9 => ?_) (fun c_9 => ?_)
    · have z_b_10 := trivial
      have k_11 : a1_z ≥ v_6.toInt := z_le rfl hz_a1 c_9
      refine lv_iconst (v := 0) X.1 X.2.1 dX10_byteAt_19 (by decide) ?_
      refine lv_goto (tgt := 29) X.1 X.2.1 dX10_byteAt_20 (by decide) ?_
      exact ret_i X hw hr hlocks (Nat.le_of_ble_eq_true rfl) (Nat.le_of_ble_eq_true rfl) ⟨rfl, (fun h0 => (tB_out (S := S) (x := x) h0 (by omega)).symm)⟩ dX10_byteAt_29
    · have z_b_12 := trivial
      have k_13 : a1_z < v_6.toInt := z_nle rfl hz_a1 c_9
      refine lv_iload_n X.1 X.2.1 dX10_byteAt_12 rfl (lv_at hl 1 rfl) ?_
      refine lv_sipush (v := 400) X.1 X.2.1 dX10_byteAt_13 (by decide) ?_
      refine lv_icmp_lt (tgt := 23) X.1 X.2.1 dX10_byteAt_16 (by decide) (fun c_14 => ?_) (fun c_14 => ?_)
      · have z_b_15 := trivial
        have k_16 : a1_z < 400 := z_lt hz_a1 ti_400 c_14
        refine lv_aload_n X.1 X.2.1 dX10_byteAt_23 rfl (lv_at hl 0 rfl) ?_
        obtain ⟨q_17, h_18, h_19, h_20⟩ := gQ_10_1003 hG ha_x
        refine r_getR (g := 1003) X hw ha_x rfl 3 h_18 (by decide) rfl inn_X10_byteAt_10 (by decide) (X.2.2.2.1 (.fieldLink RX10 15 "SilkMill$Tape" "bytes" "[B") (by decide +kernel)) rfl (gv_1003 _ _) dX10_byteAt_24 ?_
        refine lv_iload_n X.1 X.2.1 dX10_byteAt_27 rfl (lv_at hl 1 rfl) ?_
        refine r_bald X hw h_19 rfl (by rw [h_20]; exact z_ix hz_a1 (by omega) (by omega)) dX10_byteAt_28 ?_
        refine lv_topi (fun v_21 ev_21 => ?_)
        have rg_22 := And.intro (z_lo v_21) (z_hi v_21)
        have ev_21 := ev_21.symm
        exact ret_i X hw hr hlocks (Nat.le_of_ble_eq_true rfl) (Nat.le_of_ble_eq_true rfl) ⟨rfl, (fun h0 => (tB_in h_18 hz_a1 h0 (by omega) ev_21).symm)⟩ dX10_byteAt_29
      · have z_b_23 := trivial
        have k_24 : a1_z ≥ 400 := z_nlt hz_a1 ti_400 c_14
        refine lv_iconst (v := 0) X.1 X.2.1 dX10_byteAt_19 (by decide) ?_
        refine lv_goto (tgt := 29) X.1 X.2.1 dX10_byteAt_20 (by decide) ?_
        exact ret_i X hw hr hlocks (Nat.le_of_ble_eq_true rfl) (Nat.le_of_ble_eq_true rfl) ⟨rfl, (fun h0 => (tB_out (S := S) (x := x) h0 (by omega)).symm)⟩ dX10_byteAt_29
set_option maxHeartbeats 4000000 in
set_option maxRecDepth 100000 in
theorem k_X10_isBlank2 (l : Launch) (G : va_G) (cy : Nat → ClassId) (κ : Nat → Nat) (S : PS) (sz : Nat) (a1 : Int32) (a1_z : Int) (hG : GX S) (hz_a1 : a1.toInt = a1_z) : Ci l yX10_isBlank wsX10_isBlank ({ frames := 1, cells := 0, slots := 0, locals := 48 }) G cy κ S sz [.int (a1)] (fun (r : Int32) (S9 : PS) => S = S9 ∧ (((a1_z = 32 ∨ a1_z = 10) ∧ r = 1) ∨ ((¬ (a1_z = 32 ∨ a1_z = 10)) ∧ r = 0))) := by
  refine ent_m (cc := cX10_isBlank) (maxL := 1) (ret := (some .boolean)) (by decide) rfl (Nat.le_of_ble_eq_true rfl) ?_
  intro p e s m below meth c ls X hr hlocks hin hw hl hsz
  subst hsz
  have X : Cx p c cX10_isBlank 1 s [.int (a1)].toArray wsX10_isBlank RX10 m G cy κ (AS S s.heap.size) := X
  have hl : lv_has ls 1 [(0, .int (a1))] := hl
  have rg_a1 : (-2147483648) ≤ a1_z ∧ a1_z ≤ 2147483647 := by rw [← hz_a1]; exact ⟨z_lo _, z_hi _⟩
  refine lv_iload_n X.1 X.2.1 dX10_isBlank_0 rfl (lv_at hl 0 rfl) ?_
  refine lv_bipush (v := 32) X.1 X.2.1 dX10_isBlank_1 (by decide) ?_
  refine lv_icmp_eq (tgt := 12) X.1 X.2.1 dX10_isBlank_3 (by decide) (fun c_1 => ?_) (fun c_1 => ?_)
  · have z_b_2 := trivial
    have k_3 : a1_z = 32 := z_eq hz_a1 ti_32 c_1
    refine lv_iconst (v := 1) X.1 X.2.1 dX10_isBlank_12 (by decide) ?_
    refine lv_goto (tgt := 17) X.1 X.2.1 dX10_isBlank_13 (by decide) ?_
    exact ret_z X hw hr hlocks (Nat.le_of_ble_eq_true rfl) (Nat.le_of_ble_eq_true rfl) (by decide) ⟨rfl, Or.inl ⟨by omega, rfl⟩⟩ dX10_isBlank_17
  · have z_b_4 := trivial
    have k_5 : a1_z ≠ 32 := z_ne hz_a1 ti_32 c_1
    refine lv_iload_n X.1 X.2.1 dX10_isBlank_6 rfl (lv_at hl 0 rfl) ?_
    refine lv_bipush (v := 10) X.1 X.2.1 dX10_isBlank_7 (by decide) ?_
    refine lv_icmp_ne (tgt := 16) X.1 X.2.1 dX10_isBlank_9 (by decide) (fun c_6 => ?_) (fun c_6 => ?_)
    · have z_b_7 := trivial
      have k_8 : a1_z ≠ 10 := z_ne hz_a1 ti_10 c_6
      refine lv_iconst (v := 0) X.1 X.2.1 dX10_isBlank_16 (by decide) ?_
      exact ret_z X hw hr hlocks (Nat.le_of_ble_eq_true rfl) (Nat.le_of_ble_eq_true rfl) (by decide) ⟨rfl, Or.inr ⟨by omega, rfl⟩⟩ dX10_isBlank_17
    · have z_b_9 := trivial
      have k_10 : a1_z = 10 := z_eq hz_a1 ti_10 c_6
      refine lv_iconst (v := 1) X.1 X.2.1 dX10_isBlank_12 (by decide) ?_
      refine lv_goto (tgt := 17) X.1 X.2.1 dX10_isBlank_13 (by decide) ?_
      exact ret_z X hw hr hlocks (Nat.le_of_ble_eq_true rfl) (Nat.le_of_ble_eq_true rfl) (by decide) ⟨rfl, Or.inl ⟨by omega, rfl⟩⟩ dX10_isBlank_17
set_option maxHeartbeats 4000000 in
set_option maxRecDepth 100000 in
theorem k_X10_isLetter2 (l : Launch) (G : va_G) (cy : Nat → ClassId) (κ : Nat → Nat) (S : PS) (sz : Nat) (a1 : Int32) (a1_z : Int) (hG : GX S) (hz_a1 : a1.toInt = a1_z) : Ci l yX10_isLetter wsX10_isLetter ({ frames := 1, cells := 0, slots := 0, locals := 48 }) G cy κ S sz [.int (a1)] (fun (r : Int32) (S9 : PS) => S = S9 ∧ (((97 ≤ a1_z ∧ a1_z ≤ 122) ∧ r = 1) ∨ ((¬ (97 ≤ a1_z ∧ a1_z ≤ 122)) ∧ r = 0))) := by
  refine ent_m (cc := cX10_isLetter) (maxL := 1) (ret := (some .boolean)) (by decide) rfl (Nat.le_of_ble_eq_true rfl) ?_
  intro p e s m below meth c ls X hr hlocks hin hw hl hsz
  subst hsz
  have X : Cx p c cX10_isLetter 1 s [.int (a1)].toArray wsX10_isLetter RX10 m G cy κ (AS S s.heap.size) := X
  have hl : lv_has ls 1 [(0, .int (a1))] := hl
  have rg_a1 : (-2147483648) ≤ a1_z ∧ a1_z ≤ 2147483647 := by rw [← hz_a1]; exact ⟨z_lo _, z_hi _⟩
  refine lv_iload_n X.1 X.2.1 dX10_isLetter_0 rfl (lv_at hl 0 rfl) ?_
  refine lv_bipush (v := 97) X.1 X.2.1 dX10_isLetter_1 (by decide) ?_
  refine lv_icmp_lt (tgt := 16) X.1 X.2.1 dX10_isLetter_3 (by decide) (fun c_1 => ?_) (fun c_1 => ?_)
  · have z_b_2 := trivial
    have k_3 : a1_z < 97 := z_lt hz_a1 ti_97 c_1
    refine lv_iconst (v := 0) X.1 X.2.1 dX10_isLetter_16 (by decide) ?_
    exact ret_z X hw hr hlocks (Nat.le_of_ble_eq_true rfl) (Nat.le_of_ble_eq_true rfl) (by decide) ⟨rfl, Or.inr ⟨by omega, rfl⟩⟩ dX10_isLetter_17
  · have z_b_4 := trivial
    have k_5 : a1_z ≥ 97 := z_nlt hz_a1 ti_97 c_1
    refine lv_iload_n X.1 X.2.1 dX10_isLetter_6 rfl (lv_at hl 0 rfl) ?_
    refine lv_bipush (v := 122) X.1 X.2.1 dX10_isLetter_7 (by decide) ?_
    refine lv_icmp_gt (tgt := 16) X.1 X.2.1 dX10_isLetter_9 (by decide) (fun c_6 => ?_) (fun c_6 => ?_)
    · have z_b_7 := trivial
      have k_8 : a1_z > 122 := z_lt ti_122 hz_a1 c_6
      refine lv_iconst (v := 0) X.1 X.2.1 dX10_isLetter_16 (by decide) ?_
      exact ret_z X hw hr hlocks (Nat.le_of_ble_eq_true rfl) (Nat.le_of_ble_eq_true rfl) (by decide) ⟨rfl, Or.inr ⟨by omega, rfl⟩⟩ dX10_isLetter_17
    · have z_b_9 := trivial
      have k_10 : a1_z ≤ 122 := z_nlt ti_122 hz_a1 c_6
      refine lv_iconst (v := 1) X.1 X.2.1 dX10_isLetter_12 (by decide) ?_
      refine lv_goto (tgt := 17) X.1 X.2.1 dX10_isLetter_13 (by decide) ?_
      exact ret_z X hw hr hlocks (Nat.le_of_ble_eq_true rfl) (Nat.le_of_ble_eq_true rfl) (by decide) ⟨rfl, Or.inl ⟨by omega, rfl⟩⟩ dX10_isLetter_17
set_option maxHeartbeats 4000000 in
set_option maxRecDepth 100000 in
theorem k_X10_isDigit2 (l : Launch) (G : va_G) (cy : Nat → ClassId) (κ : Nat → Nat) (S : PS) (sz : Nat) (a1 : Int32) (a1_z : Int) (hG : GX S) (hz_a1 : a1.toInt = a1_z) : Ci l yX10_isDigit wsX10_isDigit ({ frames := 1, cells := 0, slots := 0, locals := 48 }) G cy κ S sz [.int (a1)] (fun (r : Int32) (S9 : PS) => S = S9 ∧ (((48 ≤ a1_z ∧ a1_z ≤ 57) ∧ r = 1) ∨ ((¬ (48 ≤ a1_z ∧ a1_z ≤ 57)) ∧ r = 0))) := by
  refine ent_m (cc := cX10_isDigit) (maxL := 1) (ret := (some .boolean)) (by decide) rfl (Nat.le_of_ble_eq_true rfl) ?_
  intro p e s m below meth c ls X hr hlocks hin hw hl hsz
  subst hsz
  have X : Cx p c cX10_isDigit 1 s [.int (a1)].toArray wsX10_isDigit RX10 m G cy κ (AS S s.heap.size) := X
  have hl : lv_has ls 1 [(0, .int (a1))] := hl
  have rg_a1 : (-2147483648) ≤ a1_z ∧ a1_z ≤ 2147483647 := by rw [← hz_a1]; exact ⟨z_lo _, z_hi _⟩
  refine lv_iload_n X.1 X.2.1 dX10_isDigit_0 rfl (lv_at hl 0 rfl) ?_
  refine lv_bipush (v := 48) X.1 X.2.1 dX10_isDigit_1 (by decide) ?_
  refine lv_icmp_lt (tgt := 16) X.1 X.2.1 dX10_isDigit_3 (by decide) (fun c_1 => ?_) (fun c_1 => ?_)
  · have z_b_2 := trivial
    have k_3 : a1_z < 48 := z_lt hz_a1 ti_48 c_1
    refine lv_iconst (v := 0) X.1 X.2.1 dX10_isDigit_16 (by decide) ?_
    exact ret_z X hw hr hlocks (Nat.le_of_ble_eq_true rfl) (Nat.le_of_ble_eq_true rfl) (by decide) ⟨rfl, Or.inr ⟨by omega, rfl⟩⟩ dX10_isDigit_17
  · have z_b_4 := trivial
    have k_5 : a1_z ≥ 48 := z_nlt hz_a1 ti_48 c_1
    refine lv_iload_n X.1 X.2.1 dX10_isDigit_6 rfl (lv_at hl 0 rfl) ?_
    refine lv_bipush (v := 57) X.1 X.2.1 dX10_isDigit_7 (by decide) ?_
    refine lv_icmp_gt (tgt := 16) X.1 X.2.1 dX10_isDigit_9 (by decide) (fun c_6 => ?_) (fun c_6 => ?_)
    · have z_b_7 := trivial
      have k_8 : a1_z > 57 := z_lt ti_57 hz_a1 c_6
      refine lv_iconst (v := 0) X.1 X.2.1 dX10_isDigit_16 (by decide) ?_
      exact ret_z X hw hr hlocks (Nat.le_of_ble_eq_true rfl) (Nat.le_of_ble_eq_true rfl) (by decide) ⟨rfl, Or.inr ⟨by omega, rfl⟩⟩ dX10_isDigit_17
    · have z_b_9 := trivial
      have k_10 : a1_z ≤ 57 := z_nlt ti_57 hz_a1 c_6
      refine lv_iconst (v := 1) X.1 X.2.1 dX10_isDigit_12 (by decide) ?_
      refine lv_goto (tgt := 17) X.1 X.2.1 dX10_isDigit_13 (by decide) ?_
      exact ret_z X hw hr hlocks (Nat.le_of_ble_eq_true rfl) (Nat.le_of_ble_eq_true rfl) (by decide) ⟨rfl, Or.inl ⟨by omega, rfl⟩⟩ dX10_isDigit_17
set_option maxHeartbeats 4000000 in
set_option maxRecDepth 100000 in
theorem k_X10_isSignByte2 (l : Launch) (G : va_G) (cy : Nat → ClassId) (κ : Nat → Nat) (S : PS) (sz : Nat) (a1 : Int32) (a1_z : Int) (hG : GX S) (hz_a1 : a1.toInt = a1_z) : Ci l yX10_isSignByte wsX10_isSignByte ({ frames := 1, cells := 0, slots := 0, locals := 48 }) G cy κ S sz [.int (a1)] (fun (r : Int32) (S9 : PS) => S = S9 ∧ (((a1_z = 60 ∨ a1_z = 61 ∨ a1_z = 62 ∨ a1_z = 58 ∨ a1_z = 59) ∧ r = 1) ∨ ((¬ (a1_z = 60 ∨ a1_z = 61 ∨ a1_z = 62 ∨ a1_z = 58 ∨ a1_z = 59)) ∧ r = 0))) := by
  refine ent_m (cc := cX10_isSignByte) (maxL := 1) (ret := (some .boolean)) (by decide) rfl (Nat.le_of_ble_eq_true rfl) ?_
  intro p e s m below meth c ls X hr hlocks hin hw hl hsz
  subst hsz
  have X : Cx p c cX10_isSignByte 1 s [.int (a1)].toArray wsX10_isSignByte RX10 m G cy κ (AS S s.heap.size) := X
  have hl : lv_has ls 1 [(0, .int (a1))] := hl
  have rg_a1 : (-2147483648) ≤ a1_z ∧ a1_z ≤ 2147483647 := by rw [← hz_a1]; exact ⟨z_lo _, z_hi _⟩
  refine lv_iload_n X.1 X.2.1 dX10_isSignByte_0 rfl (lv_at hl 0 rfl) ?_
  refine lv_bipush (v := 60) X.1 X.2.1 dX10_isSignByte_1 (by decide) ?_
  refine lv_icmp_eq (tgt := 30) X.1 X.2.1 dX10_isSignByte_3 (by decide) (fun c_1 => ?_) (fun c_1 => ?_)
  · have z_b_2 := trivial
    have k_3 : a1_z = 60 := z_eq hz_a1 ti_60 c_1
    refine lv_iconst (v := 1) X.1 X.2.1 dX10_isSignByte_30 (by decide) ?_
    refine lv_goto (tgt := 35) X.1 X.2.1 dX10_isSignByte_31 (by decide) ?_
    exact ret_z X hw hr hlocks (Nat.le_of_ble_eq_true rfl) (Nat.le_of_ble_eq_true rfl) (by decide) ⟨rfl, Or.inl ⟨by omega, rfl⟩⟩ dX10_isSignByte_35
  · have z_b_4 := trivial
    have k_5 : a1_z ≠ 60 := z_ne hz_a1 ti_60 c_1
    refine lv_iload_n X.1 X.2.1 dX10_isSignByte_6 rfl (lv_at hl 0 rfl) ?_
    refine lv_bipush (v := 61) X.1 X.2.1 dX10_isSignByte_7 (by decide) ?_
    refine lv_icmp_eq (tgt := 30) X.1 X.2.1 dX10_isSignByte_9 (by decide) (fun c_6 => ?_) (fun c_6 => ?_)
    · have z_b_7 := trivial
      have k_8 : a1_z = 61 := z_eq hz_a1 ti_61 c_6
      refine lv_iconst (v := 1) X.1 X.2.1 dX10_isSignByte_30 (by decide) ?_
      refine lv_goto (tgt := 35) X.1 X.2.1 dX10_isSignByte_31 (by decide) ?_
      exact ret_z X hw hr hlocks (Nat.le_of_ble_eq_true rfl) (Nat.le_of_ble_eq_true rfl) (by decide) ⟨rfl, Or.inl ⟨by omega, rfl⟩⟩ dX10_isSignByte_35
    · have z_b_9 := trivial
      have k_10 : a1_z ≠ 61 := z_ne hz_a1 ti_61 c_6
      refine lv_iload_n X.1 X.2.1 dX10_isSignByte_12 rfl (lv_at hl 0 rfl) ?_
      refine lv_bipush (v := 62) X.1 X.2.1 dX10_isSignByte_13 (by decide) ?_
      refine lv_icmp_eq (tgt := 30) X.1 X.2.1 dX10_isSignByte_15 (by decide) (fun c_11 => ?_) (fun c_11 => ?_)
      · have z_b_12 := trivial
        have k_13 : a1_z = 62 := z_eq hz_a1 ti_62 c_11
        refine lv_iconst (v := 1) X.1 X.2.1 dX10_isSignByte_30 (by decide) ?_
        refine lv_goto (tgt := 35) X.1 X.2.1 dX10_isSignByte_31 (by decide) ?_
        exact ret_z X hw hr hlocks (Nat.le_of_ble_eq_true rfl) (Nat.le_of_ble_eq_true rfl) (by decide) ⟨rfl, Or.inl ⟨by omega, rfl⟩⟩ dX10_isSignByte_35
      · have z_b_14 := trivial
        have k_15 : a1_z ≠ 62 := z_ne hz_a1 ti_62 c_11
        refine lv_iload_n X.1 X.2.1 dX10_isSignByte_18 rfl (lv_at hl 0 rfl) ?_
        refine lv_bipush (v := 58) X.1 X.2.1 dX10_isSignByte_19 (by decide) ?_
        refine lv_icmp_eq (tgt := 30) X.1 X.2.1 dX10_isSignByte_21 (by decide) (fun c_16 => ?_) (fun c_16 => ?_)
        · have z_b_17 := trivial
          have k_18 : a1_z = 58 := z_eq hz_a1 ti_58 c_16
          refine lv_iconst (v := 1) X.1 X.2.1 dX10_isSignByte_30 (by decide) ?_
          refine lv_goto (tgt := 35) X.1 X.2.1 dX10_isSignByte_31 (by decide) ?_
          exact ret_z X hw hr hlocks (Nat.le_of_ble_eq_true rfl) (Nat.le_of_ble_eq_true rfl) (by decide) ⟨rfl, Or.inl ⟨by omega, rfl⟩⟩ dX10_isSignByte_35
        · have z_b_19 := trivial
          have k_20 : a1_z ≠ 58 := z_ne hz_a1 ti_58 c_16
          refine lv_iload_n X.1 X.2.1 dX10_isSignByte_24 rfl (lv_at hl 0 rfl) ?_
          refine lv_bipush (v := 59) X.1 X.2.1 dX10_isSignByte_25 (by decide) ?_
          refine lv_icmp_ne (tgt := 34) X.1 X.2.1 dX10_isSignByte_27 (by decide) (fun c_21 => ?_) (fun c_21 => ?_)
          · have z_b_22 := trivial
            have k_23 : a1_z ≠ 59 := z_ne hz_a1 ti_59 c_21
            refine lv_iconst (v := 0) X.1 X.2.1 dX10_isSignByte_34 (by decide) ?_
            exact ret_z X hw hr hlocks (Nat.le_of_ble_eq_true rfl) (Nat.le_of_ble_eq_true rfl) (by decide) ⟨rfl, Or.inr ⟨by omega, rfl⟩⟩ dX10_isSignByte_35
          · have z_b_24 := trivial
            have k_25 : a1_z = 59 := z_eq hz_a1 ti_59 c_21
            refine lv_iconst (v := 1) X.1 X.2.1 dX10_isSignByte_30 (by decide) ?_
            refine lv_goto (tgt := 35) X.1 X.2.1 dX10_isSignByte_31 (by decide) ?_
            exact ret_z X hw hr hlocks (Nat.le_of_ble_eq_true rfl) (Nat.le_of_ble_eq_true rfl) (by decide) ⟨rfl, Or.inl ⟨by omega, rfl⟩⟩ dX10_isSignByte_35
