/-! ===== sets: the cheapest, then the first ===== -/
abbrev It : Type := Int × Int
def wIt (a : It) : Int := a.1
def pIt (a : It) : Int := a.2
/-- what the members of a set make together; the lowest bit is the head of the list -/
def sumB (f : It → Int) : List It → Nat → Int
  | [], _ => 0
  | a :: r, s => (if s % 2 = 1 then f a else 0) + sumB f r (s / 2)
def totB (f : It → Int) : List It → Int
  | [] => 0
  | a :: r => f a + totB f r
/-- of two sets the first: the lowest number that lies in one alone lies in it -/
def lexB : Nat → Nat → Nat → Prop
  | 0, _, _ => False
  | n + 1, s, t => (s % 2 = t % 2 ∧ lexB n (s / 2) (t / 2)) ∨ (s % 2 = 1 ∧ t % 2 = 0)
def optM (a : It) : Option (Int × Nat) → Option (Int × Nat) → Option (Int × Nat)
  | some y, some n => if y.1 + a.2 ≤ n.1 then some (y.1 + a.2, 2 * y.2 + 1) else some (n.1, 2 * n.2)
  | some y, none => some (y.1 + a.2, 2 * y.2 + 1)
  | none, some n => some (n.1, 2 * n.2)
  | none, none => none
def opt : List It → Int → Option (Int × Nat)
  | [], d => if d ≤ 0 then some (0, 0) else none
  | a :: r, d => optM a (opt r (d - a.1)) (opt r d)
def NnB (L : List It) : Prop := ∀ a, a ∈ L → 0 ≤ a.1 ∧ 0 ≤ a.2
theorem opt_n {d : Int} : opt [] d = if d ≤ 0 then some (0, 0) else none := rfl
theorem opt_c {a : It} {r : List It} {d : Int} : opt (a :: r) d = optM a (opt r (d - a.1)) (opt r d) := rfl
theorem sumB_c {f : It → Int} {a : It} {r : List It} {s : Nat} : sumB f (a :: r) s = (if s % 2 = 1 then f a else 0) + sumB f r (s / 2) := rfl
theorem totB_c {f : It → Int} {a : It} {r : List It} : totB f (a :: r) = f a + totB f r := rfl
theorem sumB_1 {f : It → Int} {a : It} {r : List It} {s : Nat} (h : s % 2 = 1) : sumB f (a :: r) s = f a + sumB f r (s / 2) := by rw [sumB_c, if_pos h]
theorem sumB_e {f : It → Int} {a : It} {r : List It} {s : Nat} (h : s % 2 = 0) : sumB f (a :: r) s = sumB f r (s / 2) := by
  rw [sumB_c, if_neg (by omega)]
  omega
theorem sumB_0 {f : It → Int} : ∀ L : List It, sumB f L 0 = 0
  | [] => rfl
  | a :: r => by
    rw [sumB_e (by omega), show (0 : Nat) / 2 = 0 by omega]
    exact sumB_0 r
theorem nn_t {a : It} {r : List It} (h : NnB (a :: r)) : NnB r := fun b hb => h b (List.mem_cons_of_mem _ hb)
theorem nn_h {a : It} {r : List It} (h : NnB (a :: r)) : 0 ≤ a.1 ∧ 0 ≤ a.2 := h a (List.mem_cons_self ..)
theorem opt_far : ∀ (L : List It) (d : Int), NnB L → totB wIt L < d → opt L d = none
  | [], d, _, h => by
    have h' : (0 : Int) < d := h
    rw [opt_n, if_neg (by omega)]
  | a :: r, d, hn, h => by
    have h' : a.1 + totB wIt r < d := h
    have ha := nn_h hn
    rw [opt_c, opt_far r (d - a.1) (nn_t hn) (by omega), opt_far r d (nn_t hn) (by omega)]
    rfl
theorem tot_0 : ∀ (L : List It), NnB L → 0 ≤ totB wIt L ∧ 0 ≤ totB pIt L
  | [], _ => ⟨Int.le_refl _, Int.le_refl _⟩
  | a :: r, hn => by
    have ha := nn_h hn
    have h := tot_0 r (nn_t hn)
    have e1 : totB wIt (a :: r) = a.1 + totB wIt r := rfl
    have e2 : totB pIt (a :: r) = a.2 + totB pIt r := rfl
    omega
theorem opt_le : ∀ (L : List It) (d : Int) (y : Int × Nat), NnB L → opt L d = some y → 0 ≤ y.1 ∧ y.1 ≤ totB pIt L
  | [], d, y, _, h => by
    rw [opt_n] at h
    by_cases c : d ≤ 0
    · rw [if_pos c] at h
      cases h
      exact ⟨Int.le_refl _, Int.le_refl _⟩
    · rw [if_neg c] at h
      cases h
  | a :: r, d, y, hn, h => by
    have ha := nn_h hn
    have e2 : totB pIt (a :: r) = a.2 + totB pIt r := rfl
    rw [opt_c] at h
    cases h1 : opt r (d - a.1) with
    | none =>
      cases h2 : opt r d with
      | none =>
        rw [h1, h2] at h
        cases h
      | some n =>
        rw [h1, h2] at h
        have b := opt_le r d n (nn_t hn) h2
        cases h
        exact ⟨b.1, by show n.1 ≤ _; omega⟩
    | some z =>
      have b1 := opt_le r (d - a.1) z (nn_t hn) h1
      cases h2 : opt r d with
      | none =>
        rw [h1, h2] at h
        cases h
        exact ⟨by show 0 ≤ z.1 + a.2; omega, by show z.1 + a.2 ≤ _; omega⟩
      | some n =>
        have b := opt_le r d n (nn_t hn) h2
        rw [h1, h2] at h
        have h' : (if z.1 + a.2 ≤ n.1 then some (z.1 + a.2, 2 * z.2 + 1) else some (n.1, 2 * n.2)) = some y := h
        by_cases c : z.1 + a.2 ≤ n.1
        · rw [if_pos c] at h'
          cases h'
          exact ⟨by show 0 ≤ z.1 + a.2; omega, by show z.1 + a.2 ≤ _; omega⟩
        · rw [if_neg c] at h'
          cases h'
          exact ⟨b.1, by show n.1 ≤ _; omega⟩
/-- the cheapest of those that are heavy enough, of like ones the first -/
def Bst (L : List It) (d : Int) (c : Int) (u : Nat) : Prop := u < 2 ^ L.length ∧ d ≤ sumB wIt L u ∧ c = sumB pIt L u ∧ ∀ t, t < 2 ^ L.length → d ≤ sumB wIt L t → c < sumB pIt L t ∨ (c = sumB pIt L t ∧ (t = u ∨ lexB L.length u t))
def Non (L : List It) (d : Int) : Prop := ∀ t, t < 2 ^ L.length → sumB wIt L t < d
theorem pw_s {n : Nat} : 2 ^ (n + 1) = 2 * 2 ^ n := by rw [Nat.pow_succ]; omega
theorem half_lt {n t : Nat} (h : t < 2 ^ (n + 1)) : t / 2 < 2 ^ n := by
  rw [pw_s] at h
  omega
theorem lexB_s {n s t : Nat} : lexB (n + 1) s t ↔ (s % 2 = t % 2 ∧ lexB n (s / 2) (t / 2)) ∨ (s % 2 = 1 ∧ t % 2 = 0) := Iff.rfl
theorem bst_y {a : It} {r : List It} {d c : Int} {u : Nat} (h : Bst r (d - a.1) c u) (he : ∀ t, t < 2 ^ r.length → d ≤ sumB wIt r t → c + a.2 ≤ sumB pIt r t) : Bst (a :: r) d (c + a.2) (2 * u + 1) := by
  obtain ⟨h1, h2, h3, h4⟩ := h
  have m1 : (2 * u + 1) % 2 = 1 := by omega
  have m2 : (2 * u + 1) / 2 = u := by omega
  have hl : (a :: r).length = r.length + 1 := rfl
  refine ⟨?_, ?_, ?_, fun t ht hd => ?_⟩
  · rw [hl, pw_s]; omega
  · rw [sumB_1 m1, m2]
    show d ≤ a.1 + _
    omega
  · rw [sumB_1 m1, m2]
    show c + a.2 = a.2 + _
    omega
  · rw [hl] at ht ⊢
    have ht2 := half_lt ht
    by_cases m : t % 2 = 1
    · rw [sumB_1 m] at hd ⊢
      have hd' : d ≤ a.1 + sumB wIt r (t / 2) := hd
      show c + a.2 < a.2 + _ ∨ (c + a.2 = a.2 + _ ∧ _)
      rcases h4 (t / 2) ht2 (by omega) with k | ⟨k1, k2⟩
      · exact Or.inl (by omega)
      · refine Or.inr ⟨by omega, ?_⟩
        rcases k2 with k2 | k2
        · exact Or.inl (by omega)
        · exact Or.inr (lexB_s.mpr (Or.inl ⟨by omega, by rw [m2]; exact k2⟩))
    · rw [sumB_e (by omega)] at hd ⊢
      have k := he (t / 2) ht2 hd
      rcases Int.lt_or_eq_of_le k with k | k
      · exact Or.inl k
      · exact Or.inr ⟨k, Or.inr (lexB_s.mpr (Or.inr ⟨by omega, by omega⟩))⟩
theorem bst_e {a : It} {r : List It} {d c : Int} {u : Nat} (h : Bst r d c u) (he : ∀ t, t < 2 ^ r.length → d - a.1 ≤ sumB wIt r t → c < a.2 + sumB pIt r t) : Bst (a :: r) d c (2 * u) := by
  obtain ⟨h1, h2, h3, h4⟩ := h
  have m1 : (2 * u) % 2 = 0 := by omega
  have m2 : (2 * u) / 2 = u := by omega
  have hl : (a :: r).length = r.length + 1 := rfl
  refine ⟨?_, ?_, ?_, fun t ht hd => ?_⟩
  · rw [hl, pw_s]; omega
  · rw [sumB_e m1, m2]; exact h2
  · rw [sumB_e m1, m2]; exact h3
  · rw [hl] at ht ⊢
    have ht2 := half_lt ht
    by_cases m : t % 2 = 1
    · rw [sumB_1 m] at hd ⊢
      have hd' : d ≤ a.1 + sumB wIt r (t / 2) := hd
      exact Or.inl (he (t / 2) ht2 (by omega))
    · rw [sumB_e (by omega)] at hd ⊢
      rcases h4 (t / 2) ht2 hd with k | ⟨k1, k2⟩
      · exact Or.inl k
      · refine Or.inr ⟨k1, ?_⟩
        rcases k2 with k2 | k2
        · exact Or.inl (by omega)
        · exact Or.inr (lexB_s.mpr (Or.inl ⟨by omega, by rw [m2]; exact k2⟩))
theorem bst_lo {L : List It} {d c : Int} {u t : Nat} (h : Bst L d c u) (ht : t < 2 ^ L.length) (hd : d ≤ sumB wIt L t) : c ≤ sumB pIt L t := by
  rcases h.2.2.2 t ht hd with k | ⟨k, -⟩ <;> omega
theorem opt_bs : ∀ (L : List It) (d : Int), (∀ y, opt L d = some y → Bst L d y.1 y.2) ∧ (opt L d = none → Non L d)
  | [], d => by
    by_cases c : d ≤ 0
    · rw [opt_n, if_pos c]
      refine ⟨fun y hy => ?_, fun h => by cases h⟩
      cases hy
      refine ⟨by show 0 < 1; omega, c, rfl, fun t ht _ => Or.inr ⟨rfl, Or.inl ?_⟩⟩
      have ht' : t < 1 := ht
      show t = 0
      omega
    · rw [opt_n, if_neg c]
      refine ⟨fun y hy => (by cases hy), fun _ t _ => ?_⟩
      show (0 : Int) < d
      omega
  | a :: r, d => by
    obtain ⟨y1, y2⟩ := opt_bs r (d - a.1)
    obtain ⟨n1, n2⟩ := opt_bs r d
    rw [opt_c]
    cases h1 : opt r (d - a.1) with
    | none =>
      have hy := y2 h1
      cases h2 : opt r d with
      | none =>
        have hn := n2 h2
        refine ⟨fun y h => (by cases h), fun _ t ht => ?_⟩
        have ht2 := half_lt (n := r.length) ht
        by_cases m : t % 2 = 1
        · rw [sumB_1 m]
          have := hy (t / 2) ht2
          show a.1 + _ < d
          omega
        · rw [sumB_e (by omega)]
          exact hn (t / 2) ht2
      | some n =>
        have hn := n1 n h2
        refine ⟨fun y h => ?_, fun h => by cases h⟩
        cases h
        exact bst_e hn (fun t ht hd => by have := hy t ht; omega)
    | some z =>
      have hz := y1 z h1
      cases h2 : opt r d with
      | none =>
        have hn := n2 h2
        refine ⟨fun y h => ?_, fun h => by cases h⟩
        cases h
        exact bst_y hz (fun t ht hd => by have := hn t ht; omega)
      | some n =>
        have hn := n1 n h2
        by_cases c : z.1 + a.2 ≤ n.1
        · have e : optM a (some z) (some n) = some (z.1 + a.2, 2 * z.2 + 1) := if_pos c
          rw [e]
          refine ⟨fun y h => ?_, fun h => by cases h⟩
          cases h
          exact bst_y hz (fun t ht hd => by have := bst_lo hn ht hd; omega)
        · have e : optM a (some z) (some n) = some (n.1, 2 * n.2) := if_neg c
          rw [e]
          refine ⟨fun y h => ?_, fun h => by cases h⟩
          cases h
          exact bst_e hn (fun t ht hd => by have := bst_lo hz ht hd; omega)
theorem lexB_as : ∀ (n s t : Nat), lexB n s t → lexB n t s → False
  | 0, _, _, h, _ => h
  | n + 1, s, t, h, k => by
    rcases h with ⟨h1, h2⟩ | ⟨h1, h2⟩ <;> rcases k with ⟨k1, k2⟩ | ⟨k1, k2⟩
    · exact lexB_as n _ _ h2 k2
    · omega
    · omega
    · omega
theorem lexB_tr : ∀ (n s t u : Nat), lexB n s t → lexB n t u → lexB n s u
  | 0, _, _, _, h, _ => h
  | n + 1, s, t, u, h, k => by
    rcases h with ⟨h1, h2⟩ | ⟨h1, h2⟩ <;> rcases k with ⟨k1, k2⟩ | ⟨k1, k2⟩
    · exact Or.inl ⟨by omega, lexB_tr n _ _ _ h2 k2⟩
    · exact Or.inr ⟨by omega, by omega⟩
    · exact Or.inr ⟨by omega, by omega⟩
    · exact Or.inr ⟨by omega, by omega⟩
theorem lexB_to : ∀ (n s t : Nat), s < 2 ^ n → t < 2 ^ n → s ≠ t → lexB n s t ∨ lexB n t s
  | 0, s, t, hs, ht, h => by
    have hs' : s < 1 := hs
    have ht' : t < 1 := ht
    omega
  | n + 1, s, t, hs, ht, h => by
    by_cases e : s % 2 = t % 2
    · rcases lexB_to n (s / 2) (t / 2) (half_lt hs) (half_lt ht) (by omega) with k | k
      · exact Or.inl (Or.inl ⟨e, k⟩)
      · exact Or.inr (Or.inl ⟨e.symm, k⟩)
    · by_cases c : s % 2 = 1
      · exact Or.inl (Or.inr ⟨c, by omega⟩)
      · exact Or.inr (Or.inr ⟨by omega, by omega⟩)
theorem lexB_no : ∀ (n s : Nat), ¬ lexB n s s
  | 0, _, h => h
  | n + 1, s, h => by
    rcases h with ⟨-, h⟩ | ⟨h1, h2⟩
    · exact lexB_no n _ h
    · omega
theorem lexB_up : ∀ (n m s t : Nat), s < 2 ^ n → t < 2 ^ n → n ≤ m → (lexB m s t ↔ lexB n s t)
  | 0, m, s, t, hs, ht, _ => by
    have hs' : s < 1 := hs
    have ht' : t < 1 := ht
    obtain rfl : s = t := by omega
    exact ⟨fun h => absurd h (lexB_no _ _), fun h => absurd h (lexB_no _ _)⟩
  | n + 1, m, s, t, hs, ht, hm => by
    obtain ⟨k, rfl⟩ : ∃ k, m = k + 1 := ⟨m - 1, by omega⟩
    have ih := lexB_up n k (s / 2) (t / 2) (half_lt hs) (half_lt ht) (by omega)
    rw [lexB_s, lexB_s, ih]
theorem bst_un {L : List It} {d c c' : Int} {u u' : Nat} (h : Bst L d c u) (k : Bst L d c' u') : c = c' ∧ u = u' := by
  have h1 := bst_lo h k.1 k.2.1
  have k1 := bst_lo k h.1 h.2.1
  have e1 := h.2.2.1
  have e2 := k.2.2.1
  have e : c = c' := by omega
  refine ⟨e, ?_⟩
  rcases h.2.2.2 u' k.1 k.2.1 with z | ⟨-, z⟩
  · omega
  rcases z with z | z
  · exact z.symm
  rcases k.2.2.2 u h.1 h.2.1 with y | ⟨-, y⟩
  · omega
  rcases y with y | y
  · exact y
  · exact absurd y (fun y => lexB_as _ _ _ z y)
/-- while the sets are gone through by their numbers -/
def Enm (L : List It) (d : Int) (s : Nat) (c : Int) (u : Nat) : Prop := (c = -1 ∧ u = 0 ∧ ∀ t, t < s → sumB wIt L t < d) ∨ (0 ≤ c ∧ u < s ∧ d ≤ sumB wIt L u ∧ c = sumB pIt L u ∧ ∀ t, t < s → d ≤ sumB wIt L t → c < sumB pIt L t ∨ (c = sumB pIt L t ∧ (t = u ∨ lexB L.length u t)))
theorem enm_0 {L : List It} {d : Int} (hd : 1 ≤ d) : Enm L d 1 (-1) 0 := Or.inl ⟨rfl, rfl, fun t ht => by
  obtain rfl : t = 0 := by omega
  rw [sumB_0]
  omega⟩
theorem enm_no {L : List It} {d c : Int} {s u : Nat} (h : Enm L d s c u) (hs : sumB wIt L s < d) : Enm L d (s + 1) c u := by
  rcases h with ⟨h1, h2, h3⟩ | ⟨h0, h1, h2, h3, h4⟩
  · refine Or.inl ⟨h1, h2, fun t ht => ?_⟩
    by_cases e : t = s
    · rw [e]; exact hs
    · exact h3 t (by omega)
  · refine Or.inr ⟨h0, by omega, h2, h3, fun t ht hd => ?_⟩
    by_cases e : t = s
    · rw [e] at hd; omega
    · exact h4 t (by omega) hd
theorem enm_ke {L : List It} {d c : Int} {s u : Nat} (hs : s < 2 ^ L.length) (h : Enm L d s c u) (hc : c ≠ -1) (hk : c < sumB pIt L s ∨ (sumB pIt L s = c ∧ ¬ lexB L.length s u)) : Enm L d (s + 1) c u := by
  rcases h with ⟨h1, -⟩ | ⟨h0, h1, h2, h3, h4⟩
  · exact absurd h1 hc
  · refine Or.inr ⟨h0, by omega, h2, h3, fun t ht hd => ?_⟩
    by_cases e : t = s
    · rw [e]
      rcases hk with k | ⟨k1, k2⟩
      · exact Or.inl k
      · refine Or.inr ⟨k1.symm, Or.inr ?_⟩
        rcases lexB_to L.length s u hs (by omega) (by omega) with z | z
        · exact absurd z k2
        · exact z
    · exact h4 t (by omega) hd
theorem sum_nn : ∀ (L : List It) (s : Nat), NnB L → 0 ≤ sumB pIt L s ∧ sumB pIt L s ≤ totB pIt L ∧ 0 ≤ sumB wIt L s ∧ sumB wIt L s ≤ totB wIt L
  | [], _, _ => ⟨Int.le_refl _, Int.le_refl _, Int.le_refl _, Int.le_refl _⟩
  | a :: r, s, hn => by
    have ha := nn_h hn
    have ih := sum_nn r (s / 2) (nn_t hn)
    have e1 : totB wIt (a :: r) = a.1 + totB wIt r := rfl
    have e2 : totB pIt (a :: r) = a.2 + totB pIt r := rfl
    by_cases m : s % 2 = 1
    · rw [sumB_1 m, sumB_1 m]
      have f1 : wIt a = a.1 := rfl
      have f2 : pIt a = a.2 := rfl
      omega
    · rw [sumB_e (by omega), sumB_e (by omega)]
      omega
theorem enm_ta {L : List It} {d c : Int} {s u : Nat} (hn : NnB L) (h : Enm L d s c u) (hs : d ≤ sumB wIt L s) (hk : c = -1 ∨ sumB pIt L s < c ∨ (sumB pIt L s = c ∧ lexB L.length s u)) : Enm L d (s + 1) (sumB pIt L s) s := by
  have h0 := sum_nn L s hn
  refine Or.inr ⟨h0.1, by omega, hs, rfl, fun t ht hd => ?_⟩
  by_cases e : t = s
  · rw [e]
    exact Or.inr ⟨rfl, Or.inl rfl⟩
  · rcases h with ⟨h1, h2, h3⟩ | ⟨h1, h2, h3, h4, h5⟩
    · have := h3 t (by omega)
      omega
    · rcases hk with k | k | ⟨k1, k2⟩
      · omega
      · rcases h5 t (by omega) hd with z | ⟨z, -⟩
        · exact Or.inl (by omega)
        · exact Or.inl (by omega)
      · rcases h5 t (by omega) hd with z | ⟨z1, z2⟩
        · exact Or.inl (by omega)
        · refine Or.inr ⟨by omega, Or.inr ?_⟩
          rcases z2 with z2 | z2
          · rw [z2]; exact k2
          · exact lexB_tr _ _ _ _ k2 z2
theorem enm_end {L : List It} {d c : Int} {u : Nat} (h : Enm L d (2 ^ L.length) c u) : (c = -1 ∧ opt L d = none) ∨ (0 ≤ c ∧ opt L d = some (c, u)) := by
  obtain ⟨b1, b2⟩ := opt_bs L d
  rcases h with ⟨h1, -, h3⟩ | ⟨h0, h1, h2, h3, h4⟩
  · refine Or.inl ⟨h1, ?_⟩
    cases e : opt L d with
    | none => rfl
    | some y =>
      have k := b1 y e
      have := h3 y.2 k.1
      have := k.2.1
      omega
  · refine Or.inr ⟨h0, ?_⟩
    cases e : opt L d with
    | none =>
      have := b2 e u h1
      omega
    | some y =>
      obtain ⟨e1, e2⟩ := bst_un (b1 y e) (⟨h1, h2, h3, h4⟩ : Bst L d c u)
      rw [← e1, ← e2]
/-- a part of the sum -/
theorem sumB_t (f : It → Int) : ∀ (L : List It) (i s : Nat) (a : It), L[i]? = some a → sumB f (L.take (i + 1)) s = sumB f (L.take i) s + (if s / 2 ^ i % 2 = 1 then f a else 0)
  | [], i, s, a, h => by
    rw [List.getElem?_nil] at h
    cases h
  | b :: r, 0, s, a, h => by
    have h' : some b = some a := h
    cases h'
    show (if s % 2 = 1 then f b else 0) + 0 = 0 + (if s / 1 % 2 = 1 then f b else 0)
    rw [Nat.div_one]
    omega
  | b :: r, i + 1, s, a, h => by
    have h' : r[i]? = some a := h
    have ih := sumB_t f r i (s / 2) a h'
    show (if s % 2 = 1 then f b else 0) + sumB f (r.take (i + 1)) (s / 2) = (if s % 2 = 1 then f b else 0) + sumB f (r.take i) (s / 2) + _
    rw [ih, Nat.div_div_eq_div_mul, show 2 * 2 ^ i = 2 ^ (i + 1) from pw_s.symm]
    omega
/-! bits -/
theorem and_par {a b : Nat} : (a &&& b) % 2 = 1 ↔ a % 2 = 1 ∧ b % 2 = 1 := Nat.and_mod_two_eq_one
theorem xor_par {a b : Nat} : (a ^^^ b) % 2 = (a + b) % 2 := by
  have h := Nat.testBit_xor a b 0
  rw [Nat.testBit_zero, Nat.testBit_zero, Nat.testBit_zero] at h
  have m1 : a % 2 = 0 ∨ a % 2 = 1 := by omega
  have m2 : b % 2 = 0 ∨ b % 2 = 1 := by omega
  have m3 : (a ^^^ b) % 2 = 0 ∨ (a ^^^ b) % 2 = 1 := by omega
  rcases m1 with m1 | m1 <;> rcases m2 with m2 | m2 <;> rcases m3 with m3 | m3 <;> rw [m1, m2, m3] at h <;> first | omega | exact absurd h (by decide)
theorem and_com {m a : Nat} (h : a < 2 ^ m) : a &&& (2 ^ m - (a + 1)) = 0 := by
  apply Nat.eq_of_testBit_eq
  intro i
  rw [Nat.testBit_and, Nat.testBit_two_pow_sub_succ h, Nat.zero_testBit]
  cases a.testBit i <;> simp
theorem fst_lex : ∀ (m s u : Nat), s < 2 ^ m → u < 2 ^ m → ((s &&& (s ^^^ u)) &&& (2 ^ m - (s ^^^ u)) ≠ 0 ↔ lexB m s u)
  | 0, s, u, hs, hu => by
    have hs' : s < 1 := hs
    obtain rfl : s = 0 := by omega
    rw [Nat.zero_and, Nat.zero_and]
    exact ⟨fun h => absurd rfl h, fun h => absurd h id⟩
  | m + 1, s, u, hs, hu => by
    have hx : s ^^^ u < 2 ^ (m + 1) := Nat.xor_lt_two_pow hs hu
    have hs2 := half_lt hs
    have hu2 := half_lt hu
    have hx2 : (s ^^^ u) / 2 = s / 2 ^^^ u / 2 := Nat.xor_div_two
    have hxl : s / 2 ^^^ u / 2 < 2 ^ m := Nat.xor_lt_two_pow hs2 hu2
    have px := xor_par (a := s) (b := u)
    have hc : (s / 2 ^^^ u / 2) &&& (2 ^ m - ((s / 2 ^^^ u / 2) + 1)) = 0 := and_com hxl
    have ih := fst_lex m (s / 2) (u / 2) hs2 hu2
    have hd : ((s &&& (s ^^^ u)) &&& (2 ^ (m + 1) - (s ^^^ u))) / 2 = (s / 2 &&& (s / 2 ^^^ u / 2)) &&& ((2 ^ (m + 1) - (s ^^^ u)) / 2) := by
      rw [Nat.and_div_two, Nat.and_div_two, hx2]
    have hp : ((s &&& (s ^^^ u)) &&& (2 ^ (m + 1) - (s ^^^ u))) % 2 = 1 ↔ (s % 2 = 1 ∧ (s ^^^ u) % 2 = 1) ∧ (2 ^ (m + 1) - (s ^^^ u)) % 2 = 1 := by
      rw [and_par, and_par]
    rw [pw_s] at hd hp hx ⊢
    generalize ((s &&& (s ^^^ u)) &&& (2 * 2 ^ m - (s ^^^ u))) = X at hd hp ⊢
    generalize s ^^^ u = a at hx hx2 px hd hp
    generalize s / 2 ^^^ u / 2 = a' at hx2 hxl ih hd hc
    generalize 2 ^ m = M at hx hxl ih hd hp hc
    rw [lexB_s]
    by_cases e : s % 2 = u % 2
    · have ea : (2 * M - a) / 2 = M - a' := by omega
      rw [ea] at hd
      have hX : X % 2 = 0 := by
        have : ¬ X % 2 = 1 := fun h => by have := (hp.mp h).1.2; omega
        omega
      constructor
      · intro h
        exact Or.inl ⟨e, ih.mp (by rw [← hd]; omega)⟩
      · intro h
        rcases h with ⟨-, h⟩ | ⟨h1, h2⟩
        · have := ih.mpr h
          rw [← hd] at this
          intro z
          rw [z] at this
          exact this rfl
        · omega
    · by_cases c : s % 2 = 1
      · have : X % 2 = 1 := hp.mpr ⟨⟨c, by omega⟩, by omega⟩
        exact ⟨fun _ => Or.inr ⟨c, by omega⟩, fun _ z => by rw [z] at this; cases this⟩
      · have hX : X % 2 = 0 := by
          have : ¬ X % 2 = 1 := fun h => c (hp.mp h).1.1
          omega
        have ea : (2 * M - a) / 2 = M - (a' + 1) := by omega
        rw [ea, Nat.and_assoc, hc, Nat.and_zero] at hd
        constructor
        · intro h
          exact absurd (show X = 0 by omega) h
        · intro h
          rcases h with ⟨h1, -⟩ | ⟨h1, -⟩
          · exact absurd h1 e
          · exact absurd h1 c
/-! Int32 -/
theorem tN_of {x : Int32} {n : Nat} (h : x.toInt = (n : Int)) : x.toBitVec.toNat = n := by
  have h5 : x.toInt = (x.toBitVec.toNat : Int).bmod (2 ^ 32) := BitVec.toInt_eq_toNat_bmod _
  have h6 : x.toBitVec.toNat < 4294967296 := x.toBitVec.isLt
  rw [h5, Int.bmod_def] at h
  split at h <;> omega
theorem tN_to {x : Int32} {n : Nat} (h : x.toBitVec.toNat = n) (hn : n < 2147483648) : x.toInt = (n : Int) := by
  have h5 : x.toInt = (x.toBitVec.toNat : Int).bmod (2 ^ 32) := BitVec.toInt_eq_toNat_bmod _
  rw [h5, h, Int.bmod_def]
  split <;> omega
theorem tN_0 {x : Int32} : x = 0 ↔ x.toBitVec.toNat = 0 := ⟨fun h => by rw [h]; rfl, fun h => Int32.toBitVec_inj.mp (BitVec.eq_of_toNat_eq h)⟩
/-- whether a set comes first -/
theorem i_first {v b : Int32} {s u n : Nat} (hv : v.toInt = (s : Int)) (hb : b.toInt = (u : Int)) (hs : s < 2 ^ n) (hu : u < 2 ^ n) (hn : n ≤ 32) : ((v &&& (v ^^^ b)) &&& -(v ^^^ b)) ≠ 0 ↔ lexB n s u := by
  have hm : 2 ^ n ≤ 2 ^ 32 := Nat.pow_le_pow_right (by omega) hn
  have hs3 : s < 2 ^ 32 := Nat.lt_of_lt_of_le hs hm
  have hu3 : u < 2 ^ 32 := Nat.lt_of_lt_of_le hu hm
  have hx : s ^^^ u < 2 ^ 32 := Nat.xor_lt_two_pow hs3 hu3
  have e : ((v &&& (v ^^^ b)) &&& -(v ^^^ b)).toBitVec.toNat = (s &&& (s ^^^ u)) &&& (2 ^ 32 - (s ^^^ u)) := by
    rw [Int32.toBitVec_and, Int32.toBitVec_and, Int32.toBitVec_neg, Int32.toBitVec_xor, BitVec.toNat_and, BitVec.toNat_and, BitVec.toNat_neg, BitVec.toNat_xor, tN_of hv, tN_of hb]
    by_cases z : s ^^^ u = 0
    · rw [z]
      simp only [Nat.and_zero, Nat.zero_and]
    · rw [Nat.mod_eq_of_lt (by omega)]
  rw [← lexB_up n 32 s u hs hu hn, ← fst_lex 32 s u hs3 hu3, ← e]
  exact not_congr tN_0
theorem sm_of {i : Int32} {k : Nat} (h : i.toInt = (k : Int)) (hk : k < 15) : ((i &&& 31).toBitVec.smod 32).toNat = k := by
  have c : k = 0 ∨ k = 1 ∨ k = 2 ∨ k = 3 ∨ k = 4 ∨ k = 5 ∨ k = 6 ∨ k = 7 ∨ k = 8 ∨ k = 9 ∨ k = 10 ∨ k = 11 ∨ k = 12 ∨ k = 13 ∨ k = 14 := by omega
  rcases c with c | c | c | c | c | c | c | c | c | c | c | c | c | c | c
  · obtain rfl : i = 0 := Int32.toInt_inj.mp (h.trans (by rw [c]; decide))
    rw [c]
    decide
  · obtain rfl : i = 1 := Int32.toInt_inj.mp (h.trans (by rw [c]; decide))
    rw [c]
    decide
  · obtain rfl : i = 2 := Int32.toInt_inj.mp (h.trans (by rw [c]; decide))
    rw [c]
    decide
  · obtain rfl : i = 3 := Int32.toInt_inj.mp (h.trans (by rw [c]; decide))
    rw [c]
    decide
  · obtain rfl : i = 4 := Int32.toInt_inj.mp (h.trans (by rw [c]; decide))
    rw [c]
    decide
  · obtain rfl : i = 5 := Int32.toInt_inj.mp (h.trans (by rw [c]; decide))
    rw [c]
    decide
  · obtain rfl : i = 6 := Int32.toInt_inj.mp (h.trans (by rw [c]; decide))
    rw [c]
    decide
  · obtain rfl : i = 7 := Int32.toInt_inj.mp (h.trans (by rw [c]; decide))
    rw [c]
    decide
  · obtain rfl : i = 8 := Int32.toInt_inj.mp (h.trans (by rw [c]; decide))
    rw [c]
    decide
  · obtain rfl : i = 9 := Int32.toInt_inj.mp (h.trans (by rw [c]; decide))
    rw [c]
    decide
  · obtain rfl : i = 10 := Int32.toInt_inj.mp (h.trans (by rw [c]; decide))
    rw [c]
    decide
  · obtain rfl : i = 11 := Int32.toInt_inj.mp (h.trans (by rw [c]; decide))
    rw [c]
    decide
  · obtain rfl : i = 12 := Int32.toInt_inj.mp (h.trans (by rw [c]; decide))
    rw [c]
    decide
  · obtain rfl : i = 13 := Int32.toInt_inj.mp (h.trans (by rw [c]; decide))
    rw [c]
    decide
  · obtain rfl : i = 14 := Int32.toInt_inj.mp (h.trans (by rw [c]; decide))
    rw [c]
    decide
theorem z_shr {v i w : Int32} {s k : Nat} (e : w = v >>> (i &&& 31)) (hv : v.toInt = (s : Int)) (hi : i.toInt = (k : Int)) (hk : k < 15) : w.toInt = ((s / 2 ^ k : Nat) : Int) := by
  subst e
  have h1 : (v >>> (i &&& 31)).toInt = v.toInt >>> ((i &&& 31).toBitVec.smod 32).toNat := BitVec.toInt_sshiftRight
  rw [h1, sm_of hi hk, hv, Int.shiftRight_eq_div_pow]
  rfl
theorem z_and1e {x v : Int32} (e : v = x &&& 1) : v.toInt = x.toInt % 2 := by
  subst e
  have h2 : (x &&& 1).toUInt32.toNat = x.toUInt32.toNat % 2 := by
    show (x.toUInt32 &&& 1).toNat = _
    rw [UInt32.toNat_and]
    exact Nat.and_two_pow_sub_one_eq_mod _ 1
  have h4 : (x &&& 1).toInt = ((x &&& 1).toUInt32.toNat : Int).bmod (2 ^ 32) := BitVec.toInt_eq_toNat_bmod _
  have h5 : x.toInt = (x.toUInt32.toNat : Int).bmod (2 ^ 32) := BitVec.toInt_eq_toNat_bmod _
  rw [h4, h2, bm_id (by omega) (by omega), h5, Int.bmod_def]
  split <;> omega
/-- a bit of a set -/
theorem z_bit {v i w x : Int32} {s k : Nat} (e : w = v >>> (i &&& 31)) (e2 : x = w &&& 1) (hv : v.toInt = (s : Int)) (hi : i.toInt = (k : Int)) (hk : k < 15) : x.toInt = ((s / 2 ^ k % 2 : Nat) : Int) := by
  rw [z_and1e e2, z_shr e hv hi hk]
  rfl
theorem z_bit1 {v i w x : Int32} {s k : Nat} (e : w = v >>> (i &&& 31)) (e2 : x = w &&& 1) (hv : v.toInt = (s : Int)) (hi : i.toInt = (k : Int)) (hk : k < 15) : x.toInt = 1 ↔ s / 2 ^ k % 2 = 1 := by
  have h := z_bit e e2 hv hi hk
  generalize s / 2 ^ k % 2 = m at h ⊢
  omega
theorem z_shl {i w : Int32} {k : Nat} (e : w = (1 : Int32) <<< (i &&& 31)) (h : i.toInt = (k : Int)) (hk : k < 15) : w.toInt = ((2 ^ k : Nat) : Int) := by
  subst e
  have c : k = 0 ∨ k = 1 ∨ k = 2 ∨ k = 3 ∨ k = 4 ∨ k = 5 ∨ k = 6 ∨ k = 7 ∨ k = 8 ∨ k = 9 ∨ k = 10 ∨ k = 11 ∨ k = 12 ∨ k = 13 ∨ k = 14 := by omega
  rcases c with c | c | c | c | c | c | c | c | c | c | c | c | c | c | c
  · obtain rfl : i = 0 := Int32.toInt_inj.mp (h.trans (by rw [c]; decide))
    rw [c]
    decide
  · obtain rfl : i = 1 := Int32.toInt_inj.mp (h.trans (by rw [c]; decide))
    rw [c]
    decide
  · obtain rfl : i = 2 := Int32.toInt_inj.mp (h.trans (by rw [c]; decide))
    rw [c]
    decide
  · obtain rfl : i = 3 := Int32.toInt_inj.mp (h.trans (by rw [c]; decide))
    rw [c]
    decide
  · obtain rfl : i = 4 := Int32.toInt_inj.mp (h.trans (by rw [c]; decide))
    rw [c]
    decide
  · obtain rfl : i = 5 := Int32.toInt_inj.mp (h.trans (by rw [c]; decide))
    rw [c]
    decide
  · obtain rfl : i = 6 := Int32.toInt_inj.mp (h.trans (by rw [c]; decide))
    rw [c]
    decide
  · obtain rfl : i = 7 := Int32.toInt_inj.mp (h.trans (by rw [c]; decide))
    rw [c]
    decide
  · obtain rfl : i = 8 := Int32.toInt_inj.mp (h.trans (by rw [c]; decide))
    rw [c]
    decide
  · obtain rfl : i = 9 := Int32.toInt_inj.mp (h.trans (by rw [c]; decide))
    rw [c]
    decide
  · obtain rfl : i = 10 := Int32.toInt_inj.mp (h.trans (by rw [c]; decide))
    rw [c]
    decide
  · obtain rfl : i = 11 := Int32.toInt_inj.mp (h.trans (by rw [c]; decide))
    rw [c]
    decide
  · obtain rfl : i = 12 := Int32.toInt_inj.mp (h.trans (by rw [c]; decide))
    rw [c]
    decide
  · obtain rfl : i = 13 := Int32.toInt_inj.mp (h.trans (by rw [c]; decide))
    rw [c]
    decide
  · obtain rfl : i = 14 := Int32.toInt_inj.mp (h.trans (by rw [c]; decide))
    rw [c]
    decide
theorem z_orb {v w x : Int32} {s k : Nat} (e : x = v ||| w) (hv : v.toInt = (s : Int)) (hw : w.toInt = ((2 ^ k : Nat) : Int)) (hs : s < 2 ^ k) (hk : k < 15) : x.toInt = ((s + 2 ^ k : Nat) : Int) := by
  subst e
  have hm : 2 ^ k ≤ 2 ^ 14 := Nat.pow_le_pow_right (by omega) (by omega)
  have h16 : (2 : Nat) ^ 14 = 16384 := by decide
  refine tN_to ?_ (by omega)
  rw [Int32.toBitVec_or, BitVec.toNat_or, tN_of hv, tN_of hw, Nat.or_comm]
  have h := Nat.two_pow_add_eq_or_of_lt hs 1
  rw [Nat.mul_one] at h
  rw [← h]
  omega
/-! the class's search -/
def skF (N : Int) (W P : Nat → Int32) (wt : Int32) : Nat → Nat → Int32 → Int32 → Int32 → Int32 × Int32 → Int32 × Int32
  | 0, _, set, re, pr, b => if re.toInt < wt.toInt ∨ b.1.toInt ≤ pr.toInt then b else (pr, set)
  | n + 1, i, set, re, pr, b => if re.toInt < wt.toInt ∨ b.1.toInt ≤ pr.toInt then b else if N ≤ (i : Int) then (pr, set) else skF N W P wt n (i + 1) set (re - W i) pr (skF N W P wt n (i + 1) (set ||| ((1 : Int32) <<< (Int32.ofNat i &&& 31))) re (pr + P i) b)
theorem skF_b {N : Int} {W P : Nat → Int32} {wt : Int32} {n i : Nat} {set re pr : Int32} {b : Int32 × Int32} (h : re.toInt < wt.toInt ∨ b.1.toInt ≤ pr.toInt) : skF N W P wt n i set re pr b = b := by
  cases n with
  | zero => exact if_pos h
  | succ n => exact if_pos h
theorem skF_l {N : Int} {W P : Nat → Int32} {wt : Int32} {n i : Nat} {set re pr : Int32} {b : Int32 × Int32} (h : ¬ (re.toInt < wt.toInt ∨ b.1.toInt ≤ pr.toInt)) (hn : n = 0 ∨ N ≤ (i : Int)) : skF N W P wt n i set re pr b = (pr, set) := by
  cases n with
  | zero => exact if_neg h
  | succ n => exact (if_neg h).trans (if_pos (hn.resolve_left (by omega)))
theorem skF_s {N : Int} {W P : Nat → Int32} {wt : Int32} {n i : Nat} {set re pr : Int32} {b : Int32 × Int32} (h : ¬ (re.toInt < wt.toInt ∨ b.1.toInt ≤ pr.toInt)) (hn : ¬ N ≤ (i : Int)) : skF N W P wt (n + 1) i set re pr b = skF N W P wt n (i + 1) set (re - W i) pr (skF N W P wt n (i + 1) (set ||| ((1 : Int32) <<< (Int32.ofNat i &&& 31))) re (pr + P i) b) := (if_neg h).trans (if_neg hn)
def resF (o : Option (Int × Nat)) (pr : Int) (z i : Nat) (b : Int32 × Int32) : Int32 × Int32 := match o with
  | some y => if pr + y.1 < b.1.toInt then (Int32.ofInt (pr + y.1), Int32.ofInt ((z + 2 ^ i * y.2 : Nat) : Int)) else b
  | none => b
theorem res_n {pr : Int} {z i : Nat} {b : Int32 × Int32} : resF none pr z i b = b := rfl
theorem res_y {y : Int × Nat} {pr : Int} {z i : Nat} {b : Int32 × Int32} (h : pr + y.1 < b.1.toInt) : resF (some y) pr z i b = (Int32.ofInt (pr + y.1), Int32.ofInt ((z + 2 ^ i * y.2 : Nat) : Int)) := if_pos h
theorem res_b {y : Int × Nat} {pr : Int} {z i : Nat} {b : Int32 × Int32} (h : ¬ pr + y.1 < b.1.toInt) : resF (some y) pr z i b = b := if_neg h
theorem ti_of {v : Int} (h0 : 0 ≤ v) (h1 : v ≤ 2000000000) : (Int32.ofInt v).toInt = v := Int32.toInt_ofInt_of_le (by have hd : Int32.minValue.toInt = -2147483648 := (by decide); omega) (by have hd : (2 : Int) ^ 31 = 2147483648 := (by decide); omega)
theorem res_m {a : It} {oy on : Option (Int × Nat)} {pr : Int} {z i : Nat} {b : Int32 × Int32} (hp : 0 ≤ pr) (ha : 0 ≤ a.2) (hy : ∀ y, oy = some y → 0 ≤ y.1 ∧ pr + a.2 + y.1 ≤ 2000000000) (hn : ∀ y, on = some y → 0 ≤ y.1) : resF (optM a oy on) pr z i b = resF on pr z (i + 1) (resF oy (pr + a.2) (z + 2 ^ i) (i + 1) b) := by
  have q1 : ∀ u : Nat, z + 2 ^ i * (2 * u + 1) = z + 2 ^ i + 2 ^ (i + 1) * u := fun u => by
    rw [pw_s, Nat.mul_add, Nat.mul_one, Nat.mul_comm 2 (2 ^ i), Nat.mul_assoc]
    omega
  have q0 : ∀ u : Nat, z + 2 ^ i * (2 * u) = z + 2 ^ (i + 1) * u := fun u => by
    rw [pw_s, Nat.mul_comm 2 (2 ^ i), Nat.mul_assoc]
  cases oy with
  | none =>
    cases on with
    | none => rfl
    | some n =>
      rw [res_n]
      show resF (some (n.1, 2 * n.2)) pr z i b = _
      by_cases c : pr + n.1 < b.1.toInt
      · rw [res_y c, res_y (y := (n.1, 2 * n.2)) c]
        show (_, Int32.ofInt ((z + 2 ^ i * (2 * n.2) : Nat) : Int)) = _
        rw [q0]
      · rw [res_b c, res_b (y := (n.1, 2 * n.2)) c]
  | some y =>
    obtain ⟨y0, y1⟩ := hy y rfl
    have e1 : (Int32.ofInt (pr + a.2 + y.1)).toInt = pr + a.2 + y.1 := ti_of (by omega) y1
    have e2 : pr + (y.1 + a.2) = pr + a.2 + y.1 := by omega
    cases on with
    | none =>
      rw [res_n]
      show resF (some (y.1 + a.2, 2 * y.2 + 1)) pr z i b = _
      by_cases c : pr + a.2 + y.1 < b.1.toInt
      · rw [res_y c, res_y (y := (y.1 + a.2, 2 * y.2 + 1)) (by show pr + (y.1 + a.2) < _; omega)]
        show (Int32.ofInt (pr + (y.1 + a.2)), Int32.ofInt ((z + 2 ^ i * (2 * y.2 + 1) : Nat) : Int)) = _
        rw [q1, e2]
      · rw [res_b c, res_b (y := (y.1 + a.2, 2 * y.2 + 1)) (by show ¬ pr + (y.1 + a.2) < _; omega)]
    | some n =>
      have n0 := hn n rfl
      by_cases d : y.1 + a.2 ≤ n.1
      · rw [show optM a (some y) (some n) = some (y.1 + a.2, 2 * y.2 + 1) from if_pos d]
        by_cases c : pr + a.2 + y.1 < b.1.toInt
        · rw [res_y c, res_y (y := (y.1 + a.2, 2 * y.2 + 1)) (by show pr + (y.1 + a.2) < _; omega), res_b (by show ¬ pr + n.1 < (Int32.ofInt (pr + a.2 + y.1)).toInt; omega)]
          show (Int32.ofInt (pr + (y.1 + a.2)), Int32.ofInt ((z + 2 ^ i * (2 * y.2 + 1) : Nat) : Int)) = _
          rw [q1, e2]
        · rw [res_b c, res_b (y := (y.1 + a.2, 2 * y.2 + 1)) (by show ¬ pr + (y.1 + a.2) < _; omega), res_b (by omega)]
      · rw [show optM a (some y) (some n) = some (n.1, 2 * n.2) from if_neg d]
        by_cases c : pr + n.1 < b.1.toInt
        · rw [res_y (y := (n.1, 2 * n.2)) c]
          show (_, Int32.ofInt ((z + 2 ^ i * (2 * n.2) : Nat) : Int)) = _
          rw [q0]
          by_cases c2 : pr + a.2 + y.1 < b.1.toInt
          · rw [res_y c2, res_y (by show pr + n.1 < (Int32.ofInt (pr + a.2 + y.1)).toInt; omega)]
          · rw [res_b c2, res_y c]
        · rw [res_b (y := (n.1, 2 * n.2)) c, res_b (y := y) (by omega), res_b c]
/-- the search finds the cheapest, of like ones the first -/
theorem skF_opt {L : List It} {W P : Nat → Int32} {wt : Int32} (hN : L.length ≤ 14) (hn : NnB L) (hW : ∀ (j : Nat) (a : It), L[j]? = some a → (W j).toInt = a.1 ∧ (P j).toInt = a.2) (hT : totB wIt L ≤ 1000000000) (hP : totB pIt L ≤ 1000000000) : ∀ (n i : Nat) (R : List It) (set re pr : Int32) (z : Nat) (b : Int32 × Int32), n + i = 14 → R = L.drop i → set.toInt = (z : Int) → z < 2 ^ i → 0 ≤ re.toInt - totB wIt R → re.toInt ≤ 1000000000 → 0 ≤ pr.toInt → pr.toInt + totB pIt R ≤ 1000000000 → skF (L.length : Int) W P wt n i set re pr b = resF (opt R (wt.toInt - (re.toInt - totB wIt R))) pr.toInt z i b
  | n, i, R, set, re, pr, z, b, hi, hR, hs, hz, h1, h2, h3, h4 => by
    have hnR : NnB R := fun a ha => hn a (by rw [hR] at ha; exact List.mem_of_mem_drop ha)
    have t0 := tot_0 R hnR
    by_cases c : re.toInt < wt.toInt ∨ b.1.toInt ≤ pr.toInt
    · rw [skF_b c]
      cases o : opt R (wt.toInt - (re.toInt - totB wIt R)) with
      | none => rfl
      | some y =>
        have l := opt_le _ _ _ hnR o
        rcases c with c | c
        · rw [opt_far R _ hnR (by omega)] at o
          cases o
        · rw [res_b (by omega)]
    · cases R with
      | nil =>
        have hl : L.length ≤ i := List.drop_eq_nil_iff.mp hR.symm
        rw [skF_l c (Or.inr (by omega))]
        have e0 : totB wIt [] = 0 := rfl
        rw [e0, opt_n, if_pos (by omega), res_y (by show pr.toInt + 0 < _; omega)]
        show (pr, set) = (Int32.ofInt (pr.toInt + 0), Int32.ofInt ((z + 2 ^ i * 0 : Nat) : Int))
        rw [Nat.mul_zero, Nat.add_zero, Int.add_zero, ← hs, Int32.ofInt_toInt, Int32.ofInt_toInt]
      | cons a r =>
        have hlt : i < L.length := by
          have h : (a :: r).length = (L.drop i).length := by rw [hR]
          rw [List.length_drop] at h
          have h' : r.length + 1 = L.length - i := h
          omega
        have hd : L.drop i = L[i] :: L.drop (i + 1) := List.drop_eq_getElem_cons hlt
        rw [hd] at hR
        injection hR with ha hr
        obtain ⟨w1, w2⟩ := hW i a (by rw [List.getElem?_eq_getElem hlt, ha])
        obtain ⟨m, rfl⟩ : ∃ m, n = m + 1 := ⟨n - 1, by omega⟩
        have ea : totB wIt (a :: r) = a.1 + totB wIt r := rfl
        have ep : totB pIt (a :: r) = a.2 + totB pIt r := rfl
        have n0 := nn_h hnR
        have tr := tot_0 r (nn_t hnR)
        rw [ea] at h1 ⊢
        rw [ep] at h4
        have eo : (Int32.ofNat i).toInt = (i : Int) := Int32.toInt_ofNat_of_lt (by omega)
        have es : (set ||| ((1 : Int32) <<< (Int32.ofNat i &&& 31))).toInt = ((z + 2 ^ i : Nat) : Int) := z_orb rfl hs (z_shl rfl eo (by omega)) hz (by omega)
        have e1 : (pr + P i).toInt = pr.toInt + a.2 := by rw [← w2]; exact z_add rfl rfl rfl (by omega) (by omega)
        have e2 : (re - W i).toInt = re.toInt - a.1 := by rw [← w1]; exact z_sub rfl rfl rfl (by omega) (by omega)
        have p2 : 2 ^ (i + 1) = 2 * 2 ^ i := pw_s
        have i1 := skF_opt (wt := wt) hN hn hW hT hP m (i + 1) r _ re (pr + P i) _ b (by omega) hr es (by omega) (by omega) h2 (by omega) (by omega)
        rw [skF_s c (by omega), i1]
        have i2 := skF_opt (wt := wt) hN hn hW hT hP m (i + 1) r set (re - W i) pr z (resF (opt r (wt.toInt - (re.toInt - totB wIt r))) (pr + P i).toInt (z + 2 ^ i) (i + 1) b) (by omega) hr hs (by omega) (by omega) (by omega) h3 (by omega)
        rw [i2, e1, e2, opt_c, show wt.toInt - (re.toInt - (a.1 + totB wIt r)) - a.1 = wt.toInt - (re.toInt - totB wIt r) by omega, show wt.toInt - (re.toInt - a.1 - totB wIt r) = wt.toInt - (re.toInt - (a.1 + totB wIt r)) by omega]
        exact (res_m h3 n0.2 (fun y hy => by have := opt_le _ _ _ (nn_t hnR) hy; omega) (fun y hy => (opt_le _ _ _ (nn_t hnR) hy).1)).symm
termination_by n => n
decreasing_by all_goals omega
/-! ===== the class's mixer ===== -/
abbrev OfT : Type := Int × Int32 × Int32
def itI (t : OfT) : It := (t.2.1.toInt, t.2.2.toInt)
def wsI (L : List OfT) : Int32 := L.foldl (fun a t => a + t.2.1) 0
/-- what a mixer was offered -/
def MxV (S : PS) (M : Nat) (L : List OfT) : Prop := (pI S 203 M).toInt = (L.length : Int) ∧ pI S 204 M = wsI L ∧ ∀ (i : Nat) (t : OfT), L[i]? = some t → (mA S M 200 i).toInt = t.1 ∧ mA S M 201 i = t.2.1 ∧ mA S M 202 i = t.2.2
def OfA (S T : PS) (M : Nat) (a b c : Int32) : Prop := ((pI T 203 M).toInt = (pI S 203 M).toInt + 1 ∧ pI T 204 M = pI S 204 M + b ∧ pI T 205 M = pI S 205 M ∧ pI T 206 M = pI S 206 M ∧ pI T 207 M = pI S 207 M) ∧ (∀ j, mA T M 200 j = if j = (pI S 203 M).toInt.toNat then a else mA S M 200 j) ∧ (∀ j, mA T M 201 j = if j = (pI S 203 M).toInt.toNat then b else mA S M 201 j) ∧ ∀ j, mA T M 202 j = if j = (pI S 203 M).toInt.toNat then c else mA S M 202 j
theorem wsI_s {L : List OfT} {t : OfT} : wsI (L ++ [t]) = wsI L + t.2.1 := by
  unfold wsI
  rw [List.foldl_append]
  rfl
theorem MxV_add {S T : PS} {M : Nat} {L : List OfT} {a b c : Int32} {k : Int} (ha : a.toInt = k) (h : MxV S M L) (ho : OfA S T M a b c) : MxV T M (L ++ [(k, b, c)]) := by
  obtain ⟨h1, h2, h3⟩ := h
  obtain ⟨⟨o1, o2, -, -, -⟩, o3, o4, o5⟩ := ho
  have hl : (pI S 203 M).toInt.toNat = L.length := by omega
  rw [hl] at o3 o4 o5
  refine ⟨by rw [o1, h1, List.length_append]; rfl, by rw [o2, h2, wsI_s], fun i t hi => ?_⟩
  rw [o3, o4, o5]
  by_cases e : i = L.length
  · rw [e, List.getElem?_append_right (Nat.le_refl _), Nat.sub_self] at hi
    have hi' : some ((k, b, c) : OfT) = some t := hi
    cases hi'
    rw [if_pos e, if_pos e, if_pos e]
    exact ⟨ha, rfl, rfl⟩
  · have hlt := (List.getElem?_eq_some_iff.mp hi).1
    rw [List.length_append] at hlt
    have hlt' : i < L.length + 1 := hlt
    rw [List.getElem?_append_left (by omega)] at hi
    rw [if_neg e, if_neg e, if_neg e]
    exact h3 i t hi
def mxL : List Nat := [203, 204, 200, 201, 202, 11734, 11754, 11774]
theorem MxV_fr {X : List Nat} {S T : PS} {M : Nat} {L : List OfT} (hG : GX S) (hM : At S M 2) (hF : Fr X S T) (hX : mxL.all (fun g => !X.contains g) = true) (h : MxV S M L) : MxV T M L := by
  obtain ⟨h1, h2, h3⟩ := h
  refine ⟨by rw [hF.I' (g := 203) (allc hX (by decide)) hM rfl]; exact h1, by rw [hF.I' (g := 204) (allc hX (by decide)) hM rfl]; exact h2, fun i t hi => ?_⟩
  rw [mA_frc hF hM (ex3 (gQ_2_200 hG hM)) (allc hX (by decide)) (allc hX (by decide)), mA_frc hF hM (ex3 (gQ_2_201 hG hM)) (allc hX (by decide)) (allc hX (by decide)), mA_frc hF hM (ex3 (gQ_2_202 hG hM)) (allc hX (by decide)) (allc hX (by decide))]
  exact h3 i t hi
/-- a number is in the set u of what was offered -/
def ChB (L : List OfT) (u : Nat) (k : Int) : Prop := ∃ (i : Nat) (t : OfT), L[i]? = some t ∧ t.1 = k ∧ u / 2 ^ i % 2 = 1
def DsB (L : List OfT) : Prop := ∀ (i j : Nat) (s t : OfT), L[i]? = some s → L[j]? = some t → s.1 = t.1 → i = j
theorem ch_no {L : List OfT} {u i : Nat} {t : OfT} {k : Int} (hd : DsB L) (hi : L[i]? = some t) (hk : t.1 = k) (hb : u / 2 ^ i % 2 ≠ 1) : ¬ ChB L u k := fun ⟨j, s, hj, e, b⟩ => by
  have := hd i j t s hi hj (hk.trans e.symm)
  subst this
  exact hb b
theorem ch_out {L : List OfT} {u n : Nat} {k : Int} (hl : L.length ≤ n) (h : ∀ (i : Nat) (t : OfT), i < n → L[i]? = some t → t.1 ≠ k) : ¬ ChB L u k := fun ⟨j, s, hj, e, _⟩ => h j s (by have := (List.getElem?_eq_some_iff.mp hj).1; omega) hj e
theorem z_eq0 {x : Int32} (h : x.toInt = 0) : x = 0 := Int32.toInt_inj.mp (h.trans (by decide))
theorem SN_to {M : List Nat} {S T : PS} {x : Nat} (hx : At S x 8) (hG : GX S) (hF : Fr M S T) (hM : ([800, 808, 10019] : List Nat).all (fun g => !M.contains g) = true) (h : SN S x) : SN T x := fun k hk hn => by
  rw [hF.I' (g := 800) (allc hM (by decide)) hx rfl] at hk
  rw [mB_frc hF hx (ex3 (gQ_8_808 hG hx)) (allc hM (by decide)) (allc hM (by decide))] at hn
  exact h k hk hn
theorem mx_at {S : PS} {x M : Nat} (hG : GX S) (hx : At S x 8) (h : pR S 812 x = some M) : At S M 2 := by
  obtain ⟨c, k1, k2⟩ := gQ_8_812 hG hx
  rw [k1] at h
  cases h
  exact k2
/-! ===== marked ===== -/
noncomputable def chI (L : List OfT) (u : Nat) (k : Int) : Int32 := @ite Int32 (ChB L u k) (Classical.propDecidable _) 1 0
theorem chI_y {L : List OfT} {u : Nat} {k : Int} (h : ChB L u k) : chI L u k = 1 := if_pos h
theorem chI_n {L : List OfT} {u : Nat} {k : Int} (h : ¬ ChB L u k) : chI L u k = 0 := if_neg h
def soI (v c : Int32) (sell : Int) : Int32 := if v ≠ 0 ∨ (c ≠ 0 ∧ sell ≠ 0) then 1 else 0
theorem soI_y {v c : Int32} {sell : Int} (h : v ≠ 0 ∨ (c ≠ 0 ∧ sell ≠ 0)) : soI v c sell = 1 := if_pos h
theorem soI_n {v c : Int32} {sell : Int} (h : ¬ (v ≠ 0 ∨ (c ≠ 0 ∧ sell ≠ 0))) : soI v c sell = 0 := if_neg h
def MkI (S T : PS) (x : Nat) (L : List OfT) (u : Nat) (sell n : Int) : Prop := (∀ (j q : Nat), (j : Int) < n → mB S x 808 j = some q → pI T 709 q = chI L u j ∧ pI T 708 q = soI (pI S 708 q) (chI L u j) sell) ∧ ∀ (j q : Nat), n ≤ (j : Int) → (j : Int) < (pI S 800 x).toInt → mB S x 808 j = some q → pI T 708 q = pI S 708 q
theorem MkI_0 {S : PS} {x u : Nat} {L : List OfT} {sell : Int} : MkI S S x L u sell 0 := ⟨fun j q h _ => by omega, fun _ _ _ _ _ => rfl⟩
theorem MkI_s {S T T1 T2 : PS} {x q k u : Nat} {L : List OfT} {sell n : Int} {c v : Int32} (hn : n = (k : Int)) (hb : n < (pI S 800 x).toInt) (hd : ∀ j : Nat, (j : Int) < (pI S 800 x).toInt → mB S x 808 j = some q → j = k) (hk : mB S x 808 k = some q) (e1 : T1 = sI T 709 q c) (e2 : T2 = sI T1 708 q v) (hc : c = chI L u k) (hv : v = soI (pI T 708 q) c sell) (h : MkI S T x L u sell n) : MkI S T2 x L u sell (n + 1) := by
  obtain ⟨h1, h2⟩ := h
  have e8 := h2 k q (by omega) (by omega) hk
  have o : ∀ (g b : Nat), b ≠ q → pI T2 g b = pI T g b := fun g b hb => by
    rw [e2, e1, pI_sI_ne hb, pI_sI_ne hb]
  have s9 : pI T2 709 q = c := by rw [e2, e1, pI_sI_nf (by decide)]; exact pI_sI_same
  have s8 : pI T2 708 q = v := by rw [e2]; exact pI_sI_same
  refine ⟨fun j b hj hm => ?_, fun j b hj hj2 hm => ?_⟩
  · by_cases e : b = q
    · subst e
      have := hd j (by omega) hm
      subst this
      rw [s9, s8, hv, e8, hc]
      exact ⟨rfl, rfl⟩
    · rw [o 709 b e, o 708 b e]
      refine h1 j b ?_ hm
      have : j ≠ k := fun z => by
        rw [z, hk] at hm
        cases hm
        exact e rfl
      omega
  · by_cases e : b = q
    · subst e
      have := hd j hj2 hm
      omega
    · rw [o 708 b e]
      exact h2 j b (by omega) hj2 hm
/-! ===== what is offered ===== -/
def mtD (S : PS) (g : List Mt) (k : Nat) : Int32 := mtS S (g.getD k [])
def loG (S : PS) (g : List Mt) : Int32 := loN (mtD S g) g.length
def hiG (S : PS) (g : List Mt) : Int32 := hiN (mtD S g) g.length
theorem loN_eq {f h : Nat → Int32} : ∀ n : Nat, (∀ k, k < n → f k = h k) → loN f n = loN h n
  | 0, _ => rfl
  | n + 1, e => by
    have ih := loN_eq n (fun k hk => e k (by omega))
    show (if f n < loN f n then f n else loN f n) = (if h n < loN h n then h n else loN h n)
    rw [ih, e n (by omega)]
theorem hiN_eq {f h : Nat → Int32} : ∀ n : Nat, (∀ k, k < n → f k = h k) → hiN f n = hiN h n
  | 0, _ => rfl
  | n + 1, e => by
    have ih := hiN_eq n (fun k hk => e k (by omega))
    show (if hiN f n < f n then f n else hiN f n) = (if hiN h n < h n then h n else hiN h n)
    rw [ih, e n (by omega)]
theorem mtD_of {S : PS} {f : Nat → Int32} {g : List Mt} (h : ∀ (k : Nat) (m : Mt), g[k]? = some m → f k = mtS S m) : ∀ k, k < g.length → f k = mtD S g k := fun k hk => by
  rw [h k g[k] (List.getElem?_eq_getElem hk)]
  unfold mtD
  rw [List.getD_eq_getElem?_getD, List.getElem?_eq_getElem hk]
  rfl
abbrev okM (lo hi : List Mt → Int32) (a b : Int) (s : Sk) : Prop := s.1.2.2.1 = 0 ∧ a ≤ (lo s.2.2.2).toInt ∧ (hi s.2.2.2).toInt ≤ b
/-- what the first n skeins offer -/
def ofN (w : List Mt → Int32) (pr : Nat → Int32) (lo hi : List Mt → Int32) (a b : Int) (L : List Sk) : Nat → List OfT
  | 0 => []
  | n + 1 => match L[n]? with
    | none => ofN w pr lo hi a b L n
    | some s => if okM lo hi a b s ∧ (ofN w pr lo hi a b L n).length < 14 then ofN w pr lo hi a b L n ++ [((n : Int), w s.2.2.2, pcI (w s.2.2.2) (pr (gI s.1.2.1)))] else ofN w pr lo hi a b L n
theorem ofN_s {w : List Mt → Int32} {pr : Nat → Int32} {lo hi : List Mt → Int32} {a b : Int} {L : List Sk} {n : Nat} {s : Sk} (h : L[n]? = some s) : ofN w pr lo hi a b L (n + 1) = if okM lo hi a b s ∧ (ofN w pr lo hi a b L n).length < 14 then ofN w pr lo hi a b L n ++ [((n : Int), w s.2.2.2, pcI (w s.2.2.2) (pr (gI s.1.2.1)))] else ofN w pr lo hi a b L n := by
  show (match L[n]? with
    | none => ofN w pr lo hi a b L n
    | some s => if okM lo hi a b s ∧ (ofN w pr lo hi a b L n).length < 14 then ofN w pr lo hi a b L n ++ [((n : Int), w s.2.2.2, pcI (w s.2.2.2) (pr (gI s.1.2.1)))] else ofN w pr lo hi a b L n) = _
  rw [h]
theorem ofN_y {w : List Mt → Int32} {pr : Nat → Int32} {lo hi : List Mt → Int32} {a b : Int} {L : List Sk} {n : Nat} {s : Sk} (h : L[n]? = some s) (c : okM lo hi a b s) (hl : (ofN w pr lo hi a b L n).length < 14) : ofN w pr lo hi a b L (n + 1) = ofN w pr lo hi a b L n ++ [((n : Int), w s.2.2.2, pcI (w s.2.2.2) (pr (gI s.1.2.1)))] := (ofN_s h).trans (if_pos ⟨c, hl⟩)
theorem ofN_n {w : List Mt → Int32} {pr : Nat → Int32} {lo hi : List Mt → Int32} {a b : Int} {L : List Sk} {n : Nat} {s : Sk} (h : L[n]? = some s) (c : ¬ (okM lo hi a b s ∧ (ofN w pr lo hi a b L n).length < 14)) : ofN w pr lo hi a b L (n + 1) = ofN w pr lo hi a b L n := (ofN_s h).trans (if_neg c)
theorem ofN_in {w : List Mt → Int32} {pr : Nat → Int32} {lo hi : List Mt → Int32} {a b : Int} {L : List Sk} : ∀ n : Nat, n ≤ L.length → (ofN w pr lo hi a b L n).length ≤ 14 ∧ DsB (ofN w pr lo hi a b L n) ∧ ∀ t, t ∈ ofN w pr lo hi a b L n → (0 ≤ t.1 ∧ t.1 < (n : Int)) ∧ ∃ s, L[t.1.toNat]? = some s ∧ okM lo hi a b s ∧ t.2.1 = w s.2.2.2 ∧ t.2.2 = pcI (w s.2.2.2) (pr (gI s.1.2.1))
  | 0, _ => ⟨by show 0 ≤ 14; omega, fun i j s t h _ _ => (by cases h), fun t ht => (by cases ht)⟩
  | n + 1, hn => by
    obtain ⟨h1, h2, h3⟩ := ofN_in (w := w) (pr := pr) (lo := lo) (hi := hi) (a := a) (b := b) (L := L) n (by omega)
    obtain ⟨s, hs⟩ : ∃ s, L[n]? = some s := ⟨_, List.getElem?_eq_getElem (by omega)⟩
    have up : ∀ t, t ∈ ofN w pr lo hi a b L n → (0 ≤ t.1 ∧ t.1 < ((n + 1 : Nat) : Int)) ∧ ∃ s, L[t.1.toNat]? = some s ∧ okM lo hi a b s ∧ t.2.1 = w s.2.2.2 ∧ t.2.2 = pcI (w s.2.2.2) (pr (gI s.1.2.1)) := fun t ht => by
      obtain ⟨k1, k2⟩ := h3 t ht
      exact ⟨⟨k1.1, by omega⟩, k2⟩
    by_cases c : okM lo hi a b s ∧ (ofN w pr lo hi a b L n).length < 14
    · rw [ofN_y hs c.1 c.2]
      generalize ofN w pr lo hi a b L n = O at h1 h2 h3 up c ⊢
      refine ⟨by rw [List.length_append]; show O.length + 1 ≤ 14; omega, fun i j x y hx hy e => ?_, fun t ht => ?_⟩
      · have q : ∀ (i : Nat) (x : OfT), (O ++ [((n : Int), w s.2.2.2, pcI (w s.2.2.2) (pr (gI s.1.2.1)))])[i]? = some x → (i < O.length ∧ O[i]? = some x ∧ x.1 < (n : Int)) ∨ (i = O.length ∧ x.1 = (n : Int)) := fun i x hx => by
          by_cases z : i < O.length
          · rw [List.getElem?_append_left z] at hx
            exact Or.inl ⟨z, hx, (h3 x (List.mem_of_getElem? hx)).1.2⟩
          · have hl := (List.getElem?_eq_some_iff.mp hx).1
            rw [List.length_append] at hl
            have hl' : i < O.length + 1 := hl
            have z2 : i = O.length := by omega
            rw [z2, List.getElem?_append_right (Nat.le_refl _), Nat.sub_self] at hx
            have hx' : some ((((n : Int), w s.2.2.2, pcI (w s.2.2.2) (pr (gI s.1.2.1)))) : OfT) = some x := hx
            cases hx'
            exact Or.inr ⟨z2, rfl⟩
        rcases q i x hx with ⟨a1, a2, a3⟩ | ⟨a1, a2⟩ <;> rcases q j y hy with ⟨b1, b2, b3⟩ | ⟨b1, b2⟩
        · exact h2 i j x y a2 b2 e
        · omega
        · omega
        · omega
      · rcases List.mem_append.mp ht with ht | ht
        · exact up t ht
        · have := List.mem_singleton.mp ht
          subst this
          exact ⟨⟨by show (0 : Int) ≤ (n : Int); omega, by show (n : Int) < _; omega⟩, s, hs, c.1, rfl, rfl⟩
    · rw [ofN_n hs c]
      exact ⟨h1, h2, up⟩
/-! how much silk there may be -/
theorem fvP_b {S : PS} {c : Nat} {p : Int32} (hG : GX S) (hc : At S c 0) : 0 ≤ (fvP S c p).toInt ∧ (fvP S c p).toInt ≤ 66 := by
  have h8 := gI_0_8 hG hc
  have h2 := gI_0_2 hG hc
  unfold fvP fcI
  split
  · next h =>
    have t : ∀ k : Nat, 0 ≤ (thinF k).toInt ∧ (thinF k).toInt ≤ 104 := fun k => thin_rng rfl
    have b := t (8 * p.toInt / (pI S 2 c).toInt).toNat
    generalize thinF (8 * p.toInt / (pI S 2 c).toInt).toNat = th at b ⊢
    have m0 : 0 ≤ (pI S 8 c).toInt * th.toInt := Int.mul_nonneg (by omega) b.1
    have m1 : (pI S 8 c).toInt * th.toInt ≤ 64 * 104 := Int.mul_le_mul h8.2 b.2 b.1 (by omega)
    have e1 : (pI S 8 c * th).toInt = (pI S 8 c).toInt * th.toInt := z_mul rfl rfl rfl (by omega) (by omega)
    have e2 : (pI S 8 c * th / 100).toInt = (pI S 8 c * th).toInt / 100 := z_div rfl rfl (by decide : (100 : Int32).toInt = 100) (by omega) (by omega)
    rw [e2, e1]
    omega
  · exact ⟨by decide, by decide⟩
theorem fol_b {α : Type} {f : α → Int32} {b : Int} (hb : 0 ≤ b) : ∀ (l : List α) (a : Int32), 0 ≤ a.toInt → a.toInt + b * (l.length : Int) ≤ 2000000000 → (∀ z, z ∈ l → 0 ≤ (f z).toInt ∧ (f z).toInt ≤ b) → 0 ≤ (l.foldl (fun a z => a + f z) a).toInt ∧ (l.foldl (fun a z => a + f z) a).toInt ≤ a.toInt + b * (l.length : Int)
  | [], a, h0, h1, _ => by
    show 0 ≤ a.toInt ∧ a.toInt ≤ a.toInt + b * ((0 : Nat) : Int)
    rw [show b * ((0 : Nat) : Int) = 0 from Int.mul_zero b]
    omega
  | z :: t, a, h0, h1, h => by
    have hz := h z (List.mem_cons_self ..)
    have el : b * (((z :: t).length : Nat) : Int) = b * (t.length : Int) + b := by
      show b * ((t.length + 1 : Nat) : Int) = _
      rw [show ((t.length + 1 : Nat) : Int) = (t.length : Int) + 1 by omega, Int.mul_add, Int.mul_one]
    rw [el] at h1 ⊢
    have p0 : 0 ≤ b * (t.length : Int) := Int.mul_nonneg hb (by omega)
    have e : (a + f z).toInt = a.toInt + (f z).toInt := z_add rfl rfl rfl (by omega) (by omega)
    have ih := fol_b hb t (a + f z) (by omega) (by omega) (fun y hy => h y (List.mem_cons_of_mem _ hy))
    show 0 ≤ (t.foldl (fun a z => a + f z) (a + f z)).toInt ∧ (t.foldl (fun a z => a + f z) (a + f z)).toInt ≤ _
    omega
theorem mtS_b {S : PS} {m : Mt} (hG : GX S) (hl : m.length ≤ 12) (h : ∀ z, z ∈ m → At S z.1 0) : 0 ≤ (mtS S m).toInt ∧ (mtS S m).toInt ≤ 792 := by
  have k := fol_b (f := fun z : Nat × Int32 => fvP S z.1 z.2) (b := 66) (by omega) m 0 (by decide) (by have hd : (0 : Int32).toInt = 0 := (by decide); omega) (fun z hz => fvP_b hG (h z hz))
  have e0 : (0 : Int32).toInt = 0 := by decide
  unfold mtS
  omega
theorem siS_b {S : PS} {g : List Mt} (hl : g.length ≤ 300) (h : ∀ m, m ∈ g → 0 ≤ (mtS S m).toInt ∧ (mtS S m).toInt ≤ 792) : 0 ≤ (siS S g).toInt ∧ (siS S g).toInt ≤ 237600 := by
  have k := fol_b (f := fun m : Mt => mtS S m) (b := 792) (by omega) g 0 (by decide) (by have hd : (0 : Int32).toInt = 0 := (by decide); omega) h
  have e0 : (0 : Int32).toInt = 0 := by decide
  unfold siS
  omega
theorem pc_b {a b : Int32} (ha : 0 ≤ a.toInt ∧ a.toInt ≤ 237600) (hb : 0 ≤ b.toInt ∧ b.toInt ≤ 1000) : 0 ≤ (pcI a b).toInt ∧ (pcI a b).toInt ≤ 2376000 := by
  have m0 : 0 ≤ a.toInt * b.toInt := Int.mul_nonneg ha.1 hb.1
  have m1 : a.toInt * b.toInt ≤ 237600 * 1000 := Int.mul_le_mul ha.2 hb.2 hb.1 (by omega)
  have e1 : (a * b).toInt = a.toInt * b.toInt := z_mul rfl rfl rfl (by omega) (by omega)
  have e2 : (a * b / 100).toInt = (a * b).toInt / 100 := z_div rfl rfl (by decide : (100 : Int32).toInt = 100) (by omega) (by omega)
  unfold pcI
  rw [e2, e1]
  omega
def WdB (L : List Sk) : Prop := ∀ s, s ∈ L → ∀ m, m ∈ s.2.2.2 → m.length ≤ 12
theorem sk_mt {S : PS} {D : Nat → Prop} {K k : Nat} {L : List Sk} {s : Sk} (hG : GX S) (hK : At S K 8) (hV : SkV S D K L) (hB : WdB L) (h : L[k]? = some s) : s.2.2.2.length ≤ 300 ∧ ∀ m, m ∈ s.2.2.2 → 0 ≤ (mtS S m).toInt ∧ (mtS S m).toInt ≤ 792 := by
  obtain ⟨q, hq, g, f, j2, -, -, hv, -⟩ := hV.2 _ _ h
  have hg := sk_str hG (sk_at hG hK hq) j2
  have r9 := gI_9_902 hG hg
  have e9 := hv.1
  exact ⟨by omega, fun m hm => mtS_b hG (hB s (List.mem_of_getElem? h) m hm) (fun z hz => (hv.2.2.1 m hm z hz).2)⟩
theorem sk_si {S : PS} {D : Nat → Prop} {K k : Nat} {L : List Sk} {s : Sk} (hG : GX S) (hK : At S K 8) (hV : SkV S D K L) (hB : WdB L) (h : L[k]? = some s) : 0 ≤ (siS S s.2.2.2).toInt ∧ (siS S s.2.2.2).toInt ≤ 237600 := by
  obtain ⟨h1, h2⟩ := sk_mt hG hK hV hB h
  exact siS_b h1 h2
theorem pr_b {S : PS} {K : Nat} (hG : GX S) (hK : At S K 8) (j : Nat) : 0 ≤ (mA S K 807 j).toInt ∧ (mA S K 807 j).toInt ≤ 1000 := by
  obtain ⟨q, k1, k2, -⟩ := gQ_8_807 hG hK
  rw [mA_eq k1]
  exact gE_154 hG k2 j
def OfB (O : List OfT) : Prop := ∀ t, t ∈ O → (0 ≤ t.2.1.toInt ∧ t.2.1.toInt ≤ 237600) ∧ 0 ≤ t.2.2.toInt ∧ t.2.2.toInt ≤ 2376000
theorem ofC_b {S : PS} {D : Nat → Prop} {K : Nat} {L : List Sk} {a b : Int} (hG : GX S) (hK : At S K 8) (hV : SkV S D K L) (hB : WdB L) : OfB (ofN (siS S) (mA S K 807) (loG S) (hiG S) a b L L.length) := fun t ht => by
  obtain ⟨-, s, hs, -, e1, e2⟩ := (ofN_in L.length (Nat.le_refl _)).2.2 t ht
  have h := sk_si hG hK hV hB hs
  rw [e1, e2]
  exact ⟨h, pc_b h (pr_b hG hK _)⟩
theorem nn_of {O : List OfT} (h : OfB O) : NnB (O.map itI) := fun a ha => by
  obtain ⟨t, ht, e⟩ := List.mem_map.mp ha
  subst e
  exact ⟨(h t ht).1.1, (h t ht).2.1⟩
theorem tot_b : ∀ O : List OfT, OfB O → totB wIt (O.map itI) ≤ 237600 * (O.length : Int) ∧ totB pIt (O.map itI) ≤ 2376000 * (O.length : Int)
  | [], _ => ⟨Int.le_refl _, Int.le_refl _⟩
  | t :: r, h => by
    have ih := tot_b r (fun y hy => h y (List.mem_cons_of_mem _ hy))
    have ht := h t (List.mem_cons_self ..)
    have e1 : totB wIt ((t :: r).map itI) = t.2.1.toInt + totB wIt (r.map itI) := rfl
    have e2 : totB pIt ((t :: r).map itI) = t.2.2.toInt + totB pIt (r.map itI) := rfl
    have el : (((t :: r).length : Nat) : Int) = (r.length : Int) + 1 := rfl
    rw [e1, e2, el]
    omega
theorem ws_to : ∀ (O : List OfT) (a : Int32), OfB O → 0 ≤ a.toInt → a.toInt + 237600 * (O.length : Int) ≤ 2000000000 → (O.foldl (fun a t => a + t.2.1) a).toInt = a.toInt + totB wIt (O.map itI)
  | [], a, _, _, _ => by
    show a.toInt = a.toInt + 0
    omega
  | t :: r, a, h, h0, h1 => by
    have ht := h t (List.mem_cons_self ..)
    have el : (((t :: r).length : Nat) : Int) = (r.length : Int) + 1 := rfl
    rw [el] at h1
    have e : (a + t.2.1).toInt = a.toInt + t.2.1.toInt := z_add rfl rfl rfl (by omega) (by omega)
    have ih := ws_to r (a + t.2.1) (fun y hy => h y (List.mem_cons_of_mem _ hy)) (by omega) (by omega)
    have e1 : totB wIt ((t :: r).map itI) = t.2.1.toInt + totB wIt (r.map itI) := rfl
    show (r.foldl (fun a t => a + t.2.1) (a + t.2.1)).toInt = _
    rw [ih, e, e1]
    omega
theorem mx_res {T : PS} {M : Nat} {O : List OfT} {w : Int32} (h : MxV T M O) (h14 : O.length ≤ 14) (hb : OfB O) : skF (pI T 203 M).toInt (mA T M 201) (mA T M 202) w 14 0 0 (pI T 204 M) 0 (2147483647, 0) = resF (opt (O.map itI) w.toInt) 0 0 0 (2147483647, 0) := by
  obtain ⟨h1, h2, h3⟩ := h
  have hl : (O.map itI).length = O.length := List.length_map ..
  have tb := tot_b O hb
  have z0 : (0 : Int32).toInt = 0 := by decide
  have hw : (pI T 204 M).toInt = totB wIt (O.map itI) := by
    rw [h2]
    have k := ws_to O 0 hb (by omega) (by omega)
    unfold wsI
    rw [k, z0]
    omega
  have t0 := tot_0 _ (nn_of hb)
  have k := skF_opt (L := O.map itI) (W := mA T M 201) (P := mA T M 202) (wt := w) (by omega) (nn_of hb) (fun j a hj => by
    rw [List.getElem?_map] at hj
    cases e : O[j]? with
    | none => rw [e] at hj; cases hj
    | some t =>
      rw [e] at hj
      cases hj
      obtain ⟨-, k2, k3⟩ := h3 j t e
      rw [k2, k3]
      exact ⟨rfl, rfl⟩) (by omega) (by omega) 14 0 (O.map itI) 0 (pI T 204 M) 0 0 (2147483647, 0) rfl rfl z0 (by decide) (by omega) (by omega) (by omega) (by omega)
  rw [hl, ← h1] at k
  rw [k, hw, z0, show w.toInt - (totB wIt (O.map itI) - totB wIt (O.map itI)) = w.toInt by omega]
/-- what a mix finds and marks -/
def MxC (S T : PS) (K : Nat) (O : List OfT) (w sell : Int) (r : Int32) : Prop := (opt (O.map itI) w = none → r.toInt = -1 ∧ Fr eMX S T) ∧ ∀ y, opt (O.map itI) w = some y → r.toInt = y.1 ∧ MkI S T K O y.2 sell (pI S 800 K).toInt
theorem mx_no {O : List OfT} {w : Int} {p : Int32 × Int32} (ho : opt (O.map itI) w = none) (e : p = resF (opt (O.map itI) w) 0 0 0 (2147483647, 0)) : p.2 = 0 := by
  rw [e, ho]
  rfl
theorem mx_ye {O : List OfT} {w : Int} {p : Int32 × Int32} {y : Int × Nat} (hb : OfB O) (h14 : O.length ≤ 14) (hw : 1 ≤ w) (ho : opt (O.map itI) w = some y) (e : p = resF (opt (O.map itI) w) 0 0 0 (2147483647, 0)) : p.2 ≠ 0 ∧ p.1.toInt = y.1 ∧ p.2.toInt = (y.2 : Int) ∧ y.2 < 16384 := by
  have hl : (O.map itI).length = O.length := List.length_map ..
  have tb := tot_b O hb
  have b := opt_le _ _ _ (nn_of hb) ho
  have bs := (opt_bs _ _).1 y ho
  have hp : 2 ^ O.length ≤ 2 ^ 14 := Nat.pow_le_pow_right (by omega) h14
  have h16 : (2 : Nat) ^ 14 = 16384 := by decide
  have hy := bs.1
  rw [hl] at hy
  have hm : (2147483647 : Int32).toInt = 2147483647 := by decide
  have c : 0 + y.1 < ((2147483647, 0) : Int32 × Int32).1.toInt := by
    show 0 + y.1 < (2147483647 : Int32).toInt
    omega
  rw [ho, res_y c] at e
  have e2 : p.2.toInt = (y.2 : Int) := by
    rw [e]
    show (Int32.ofInt ((0 + 2 ^ 0 * y.2 : Nat) : Int)).toInt = _
    rw [ti_of (by omega) (by rw [Nat.pow_zero]; omega), Nat.pow_zero]
    omega
  have e1 : p.1.toInt = y.1 := by
    rw [e]
    show (Int32.ofInt (0 + y.1)).toInt = _
    rw [ti_of (by omega) (by omega)]
    omega
  refine ⟨fun z => ?_, e1, e2, by omega⟩
  rw [z] at e2
  have z0 : (0 : Int32).toInt = 0 := by decide
  have y0 : y.2 = 0 := by omega
  have := bs.2.1
  rw [y0, sumB_0] at this
  omega
theorem MkI_to {S T U : PS} {x u : Nat} {L : List OfT} {sell : Int} (hB : mB T x 808 = mB S x 808) (h8 : pI T 800 x = pI S 800 x) (h7 : ∀ j q : Nat, mB S x 808 j = some q → pI T 708 q = pI S 708 q) (h : MkI T U x L u sell (pI T 800 x).toInt) : MkI S U x L u sell (pI S 800 x).toInt := by
  obtain ⟨h1, h2⟩ := h
  rw [hB, h8] at h1 h2
  refine ⟨fun j q hj hm => ?_, fun j q hj hj2 hm => ?_⟩
  · obtain ⟨k1, k2⟩ := h1 j q hj hm
    rw [h7 j q hm] at k2
    exact ⟨k1, k2⟩
  · omega
def MxI (L : List Sk) (k : Int) : Prop := ∃ s, 0 ≤ k ∧ L[k.toNat]? = some s ∧ s.1.2.2.2 ≠ 0

set_option maxHeartbeats 4000000 in
set_option maxRecDepth 100000 in
theorem k_X2_seek8_0 (l : Launch) (G : va_G) (cy : Nat → ClassId) (κ : Nat → Nat) (S : PS) (sz : Nat) (x : Nat) (a1 : Int32) (a1_z : Int) (a2 : Int32) (a2_z : Int) (a3 : Int32) (a3_z : Int) (a4 : Int32) (a4_z : Int) (hG : GX S) (ha_x : At S x 2) (hz_a1 : a1.toInt = a1_z) (hz_a2 : a2.toInt = a2_z) (hz_a3 : a3.toInt = a3_z) (hz_a4 : a4.toInt = a4_z) (hp_0 : a1_z = 14) : Cv l yX2_seek wsX2_seek ({ frames := 1, cells := 0, slots := 0, locals := 48 }) G cy κ S sz [.ref x, .int (a1), .int (a2), .int (a3), .int (a4)] (fun (S9 : PS) => Ok eSK S S9 ∧ (pI S9 206 x = (skF (pI S 203 x).toInt (mA S x 201) (mA S x 202) (pI S 205 x) 0 14 a2 a3 a4 (pI S 206 x, pI S 207 x)).1 ∧ pI S9 207 x = (skF (pI S 203 x).toInt (mA S x 201) (mA S x 202) (pI S 205 x) 0 14 a2 a3 a4 (pI S 206 x, pI S 207 x)).2)) := by
  refine ent_m (cc := cX2_seek) (maxL := 5) (ret := none) (by decide) rfl (Nat.le_of_ble_eq_true rfl) ?_
  intro p e s m below meth c ls X hr hlocks hin hw hl hsz
  subst hsz
  have X : Cx p c cX2_seek 5 s [.ref x, .int (a1), .int (a2), .int (a3), .int (a4)].toArray wsX2_seek RX2 m G cy κ (AS S s.heap.size) := X
  have hl : lv_has ls 5 [(0, .ref x), (1, .int (a1)), (2, .int (a2)), (3, .int (a3)), (4, .int (a4))] := hl
  have rg_a1 : (-2147483648) ≤ a1_z ∧ a1_z ≤ 2147483647 := by rw [← hz_a1]; exact ⟨z_lo _, z_hi _⟩
  have rg_a2 : (-2147483648) ≤ a2_z ∧ a2_z ≤ 2147483647 := by rw [← hz_a2]; exact ⟨z_lo _, z_hi _⟩
  have rg_a3 : (-2147483648) ≤ a3_z ∧ a3_z ≤ 2147483647 := by rw [← hz_a3]; exact ⟨z_lo _, z_hi _⟩
  have rg_a4 : (-2147483648) ≤ a4_z ∧ a4_z ≤ 2147483647 := by rw [← hz_a4]; exact ⟨z_lo _, z_hi _⟩
  have hO : Ok eSK S S := Ok.rf hG
  obtain ⟨v_1, ev_1⟩ : ∃ v, pI S 203 x = v := ⟨_, rfl⟩
  have rg_2 := gI_2_203 hO.1 ha_x; rw [ev_1] at rg_2
  have pz_3 : (pI S 203 x).toInt = v_1.toInt := by rw [ev_1]
  obtain ⟨v_4, ev_4⟩ : ∃ v, pI S 205 x = v := ⟨_, rfl⟩
  have rg_6 := And.intro (z_lo v_4) (z_hi v_4)
  have pz_7 : (pI S 205 x).toInt = v_4.toInt := by rw [ev_4]
  obtain ⟨v_8, ev_8⟩ : ∃ v, pI S 206 x = v := ⟨_, rfl⟩
  have rg_10 := And.intro (z_lo v_8) (z_hi v_8)
  have pz_11 : (pI S 206 x).toInt = v_8.toInt := by rw [ev_8]
  obtain ⟨v_12, ev_12⟩ : ∃ v, pI S 207 x = v := ⟨_, rfl⟩
  have rg_14 := And.intro (z_lo v_12) (z_hi v_12)
  have pz_15 : (pI S 207 x).toInt = v_12.toInt := by rw [ev_12]
  have pz_16 : (pI S 203 x).toInt = v_1.toInt := (congrArg Int32.toInt ev_1).trans rfl
  have pz_17 : (pI S 205 x).toInt = v_4.toInt := (congrArg Int32.toInt ev_4).trans rfl
  have pz_18 : (pI S 206 x).toInt = v_8.toInt := (congrArg Int32.toInt ev_8).trans rfl
  refine lv_iload_n X.1 X.2.1 dX2_seek_0 rfl (lv_at hl 3 rfl) ?_
  refine lv_aload_n X.1 X.2.1 dX2_seek_1 rfl (lv_at hl 0 rfl) ?_
  refine r_getI (g := 205) (x := v_4) X hw ha_x rfl 5 ev_4 (by decide) rfl inn_X2_seek_2 (by decide) (X.2.2.2.1 (.fieldLink RX2 28 "SilkMill$Mixer" "wanted" "I") (by decide +kernel)) rfl (gv_205 _ _) dX2_seek_2 ?_
  refine lv_icmp_lt (tgt := 17) X.1 X.2.1 dX2_seek_5 (by decide) (fun c_19 => ?_) (fun c_19 => ?_)
  · have z_b_20 := trivial
    have k_21 : a3_z < v_4.toInt := z_lt hz_a3 rfl c_19
    have hb_22 : a3.toInt < (pI S 205 x).toInt ∨ (pI S 206 x).toInt ≤ a4.toInt := by omega
    exact ret_v X hw hr hlocks (Nat.le_of_ble_eq_true rfl) (Nat.le_of_ble_eq_true rfl) ⟨hO, (by rw [skF_b (b := (pI S 206 x, pI S 207 x)) hb_22]; exact ⟨rfl, rfl⟩)⟩ dX2_seek_17
  · have z_b_23 := trivial
    have k_24 : a3_z ≥ v_4.toInt := z_nlt hz_a3 rfl c_19
    refine lv_iload X.1 X.2.1 dX2_seek_8 (lv_at hl 4 rfl) ?_
    refine lv_aload_n X.1 X.2.1 dX2_seek_10 rfl (lv_at hl 0 rfl) ?_
    refine r_getI (g := 206) (x := v_8) X hw ha_x rfl 6 ev_8 (by decide) rfl inn_X2_seek_2 (by decide) (X.2.2.2.1 (.fieldLink RX2 34 "SilkMill$Mixer" "bestPrice" "I") (by decide +kernel)) rfl (gv_206 _ _) dX2_seek_11 ?_
    refine lv_icmp_lt (tgt := 18) X.1 X.2.1 dX2_seek_14 (by decide) (fun c_25 => ?_) (fun c_25 => ?_)
    · have z_b_26 := trivial
      have k_27 : a4_z < v_8.toInt := z_lt hz_a4 rfl c_25
      refine lv_iload_n X.1 X.2.1 dX2_seek_18 rfl (lv_at hl 1 rfl) ?_
      refine lv_aload_n X.1 X.2.1 dX2_seek_19 rfl (lv_at hl 0 rfl) ?_
      refine r_getI (g := 203) (x := v_1) X hw ha_x rfl 3 ev_1 (by decide) rfl inn_X2_seek_2 (by decide) (X.2.2.2.1 (.fieldLink RX2 21 "SilkMill$Mixer" "size" "I") (by decide +kernel)) rfl (gv_203 _ _) dX2_seek_20 ?_
      refine lv_icmp_ge (tgt := 32) X.1 X.2.1 dX2_seek_23 (by decide) (fun c_28 => ?_) (fun c_28 => ?_)
      · have z_b_29 := trivial
        have k_30 : a1_z ≥ v_1.toInt := z_le rfl hz_a1 c_28
        refine lv_aload_n X.1 X.2.1 dX2_seek_32 rfl (lv_at hl 0 rfl) ?_
        refine lv_iload X.1 X.2.1 dX2_seek_33 (lv_at hl 4 rfl) ?_
        refine r_putI (v := a4) X hw ha_x rfl 6 206 tyX2 (by decide) rfl inn_X2_seek_2 tyX2_ok nmX2 (by decide) (X.2.2.2.1 (.fieldLink RX2 34 "SilkMill$Mixer" "bestPrice" "I") (by decide +kernel)) rfl (Or.inl rfl) rfl rfl (Nat.le_of_ble_eq_true rfl) (st_206 _ _) dX2_seek_35 (fun H locs hw => ?_)
        obtain ⟨S_31, eS_31⟩ : ∃ T, T = sI S 206 x (a4) := ⟨_, rfl⟩
        rw [← eS_31] at hw
        have hO_32 : Ok eSK S S_31 := hO.sI eS_31 (by decide +kernel) (uI_2_206 hO.1 ha_x)
        have h_33 : pI S_31 206 x = a4 := tI_sIs eS_31
        refine lv_aload_n X.1 X.2.1 dX2_seek_38 rfl (lv_at hl 0 rfl) ?_
        refine lv_iload_n X.1 X.2.1 dX2_seek_39 rfl (lv_at hl 2 rfl) ?_
        have t_34 : At S_31 x 2 := tAt_sI eS_31 ha_x
        refine r_putI (v := a2) X hw t_34 rfl 7 207 tyX2 (by decide) rfl inn_X2_seek_2 tyX2_ok nmX2 (by decide) (X.2.2.2.1 (.fieldLink RX2 37 "SilkMill$Mixer" "bestSet" "I") (by decide +kernel)) rfl (Or.inl rfl) rfl rfl (Nat.le_of_ble_eq_true rfl) (st_207 _ _) dX2_seek_40 (fun H locs hw => ?_)
        obtain ⟨S_35, eS_35⟩ : ∃ T, T = sI S_31 207 x (a2) := ⟨_, rfl⟩
        rw [← eS_35] at hw
        have hO_36 : Ok eSK S S_35 := hO_32.sI eS_35 (by decide +kernel) (uI_2_207 hO_32.1 t_34)
        have h_37 : pI S_35 207 x = a2 := tI_sIs eS_35
        have hc_38 : ¬ (a3.toInt < (pI S 205 x).toInt ∨ (pI S 206 x).toInt ≤ a4.toInt) := by omega
        have hl_39 := skF_l (N := (pI S 203 x).toInt) (W := mA S x 201) (P := mA S x 202) (n := 0) (i := 14) (set := a2) (b := (pI S 206 x, pI S 207 x)) hc_38 (Or.inl rfl)
        have t_40 : pI S_35 206 x = a4 := tI_sI eS_35 rfl h_33
        exact ret_v X hw hr hlocks (Nat.le_of_ble_eq_true rfl) (Nat.le_of_ble_eq_true rfl) ⟨hO_36, ⟨(t_40).trans (congrArg Prod.fst hl_39).symm, (h_37).trans (congrArg Prod.snd hl_39).symm⟩⟩ dX2_seek_43
      · have z_b_41 := trivial
        have k_42 : a1_z < v_1.toInt := z_nle rfl hz_a1 c_28
        refine lv_iload_n X.1 X.2.1 dX2_seek_26 rfl (lv_at hl 1 rfl) ?_
        refine lv_bipush (v := 14) X.1 X.2.1 dX2_seek_27 (by decide) ?_
        refine lv_icmp_lt (tgt := 44) X.1 X.2.1 dX2_seek_29 (by decide) (fun c_43 => ?_) (fun c_43 => ?_)
        · exfalso
          have k_44 : a1_z < 14 := z_lt hz_a1 ti_14 c_43
          omega
        have k_45 : a1_z ≥ 14 := z_nlt hz_a1 ti_14 c_43
        refine lv_aload_n X.1 X.2.1 dX2_seek_32 rfl (lv_at hl 0 rfl) ?_
        refine lv_iload X.1 X.2.1 dX2_seek_33 (lv_at hl 4 rfl) ?_
        refine r_putI (v := a4) X hw ha_x rfl 6 206 tyX2 (by decide) rfl inn_X2_seek_2 tyX2_ok nmX2 (by decide) (X.2.2.2.1 (.fieldLink RX2 34 "SilkMill$Mixer" "bestPrice" "I") (by decide +kernel)) rfl (Or.inl rfl) rfl rfl (Nat.le_of_ble_eq_true rfl) (st_206 _ _) dX2_seek_35 (fun H locs hw => ?_)
        obtain ⟨S_46, eS_46⟩ : ∃ T, T = sI S 206 x (a4) := ⟨_, rfl⟩
        rw [← eS_46] at hw
        have hO_47 : Ok eSK S S_46 := hO.sI eS_46 (by decide +kernel) (uI_2_206 hO.1 ha_x)
        have h_48 : pI S_46 206 x = a4 := tI_sIs eS_46
        refine lv_aload_n X.1 X.2.1 dX2_seek_38 rfl (lv_at hl 0 rfl) ?_
        refine lv_iload_n X.1 X.2.1 dX2_seek_39 rfl (lv_at hl 2 rfl) ?_
        have t_49 : At S_46 x 2 := tAt_sI eS_46 ha_x
        refine r_putI (v := a2) X hw t_49 rfl 7 207 tyX2 (by decide) rfl inn_X2_seek_2 tyX2_ok nmX2 (by decide) (X.2.2.2.1 (.fieldLink RX2 37 "SilkMill$Mixer" "bestSet" "I") (by decide +kernel)) rfl (Or.inl rfl) rfl rfl (Nat.le_of_ble_eq_true rfl) (st_207 _ _) dX2_seek_40 (fun H locs hw => ?_)
        obtain ⟨S_50, eS_50⟩ : ∃ T, T = sI S_46 207 x (a2) := ⟨_, rfl⟩
        rw [← eS_50] at hw
        have hO_51 : Ok eSK S S_50 := hO_47.sI eS_50 (by decide +kernel) (uI_2_207 hO_47.1 t_49)
        have h_52 : pI S_50 207 x = a2 := tI_sIs eS_50
        have hc_53 : ¬ (a3.toInt < (pI S 205 x).toInt ∨ (pI S 206 x).toInt ≤ a4.toInt) := by omega
        have hl_54 := skF_l (N := (pI S 203 x).toInt) (W := mA S x 201) (P := mA S x 202) (n := 0) (i := 14) (set := a2) (b := (pI S 206 x, pI S 207 x)) hc_53 (Or.inl rfl)
        have t_55 : pI S_50 206 x = a4 := tI_sI eS_50 rfl h_48
        exact ret_v X hw hr hlocks (Nat.le_of_ble_eq_true rfl) (Nat.le_of_ble_eq_true rfl) ⟨hO_51, ⟨(t_55).trans (congrArg Prod.fst hl_54).symm, (h_52).trans (congrArg Prod.snd hl_54).symm⟩⟩ dX2_seek_43
    · have z_b_56 := trivial
      have k_57 : a4_z ≥ v_8.toInt := z_nlt hz_a4 rfl c_25
      have hb_58 : a3.toInt < (pI S 205 x).toInt ∨ (pI S 206 x).toInt ≤ a4.toInt := by omega
      exact ret_v X hw hr hlocks (Nat.le_of_ble_eq_true rfl) (Nat.le_of_ble_eq_true rfl) ⟨hO, (by rw [skF_b (b := (pI S 206 x, pI S 207 x)) hb_58]; exact ⟨rfl, rfl⟩)⟩ dX2_seek_17
set_option maxHeartbeats 4000000 in
set_option maxRecDepth 100000 in
theorem k_X2_seek8_1 (l : Launch) (G : va_G) (cy : Nat → ClassId) (κ : Nat → Nat) (S : PS) (sz : Nat) (x : Nat) (a1 : Int32) (a1_z : Int) (a2 : Int32) (a2_z : Int) (a3 : Int32) (a3_z : Int) (a4 : Int32) (a4_z : Int) (hG : GX S) (ha_x : At S x 2) (hz_a1 : a1.toInt = a1_z) (hz_a2 : a2.toInt = a2_z) (hz_a3 : a3.toInt = a3_z) (hz_a4 : a4.toInt = a4_z) (hp_0 : a1_z = 13) : Cv l yX2_seek wsX2_seek ({ frames := 2, cells := 0, slots := 0, locals := 96 }) G cy κ S sz [.ref x, .int (a1), .int (a2), .int (a3), .int (a4)] (fun (S9 : PS) => Ok eSK S S9 ∧ (pI S9 206 x = (skF (pI S 203 x).toInt (mA S x 201) (mA S x 202) (pI S 205 x) 1 13 a2 a3 a4 (pI S 206 x, pI S 207 x)).1 ∧ pI S9 207 x = (skF (pI S 203 x).toInt (mA S x 201) (mA S x 202) (pI S 205 x) 1 13 a2 a3 a4 (pI S 206 x, pI S 207 x)).2)) := by
  refine ent_m (cc := cX2_seek) (maxL := 5) (ret := none) (by decide) rfl (Nat.le_of_ble_eq_true rfl) ?_
  intro p e s m below meth c ls X hr hlocks hin hw hl hsz
  subst hsz
  have X : Cx p c cX2_seek 5 s [.ref x, .int (a1), .int (a2), .int (a3), .int (a4)].toArray wsX2_seek RX2 m G cy κ (AS S s.heap.size) := X
  have hl : lv_has ls 5 [(0, .ref x), (1, .int (a1)), (2, .int (a2)), (3, .int (a3)), (4, .int (a4))] := hl
  have rg_a1 : (-2147483648) ≤ a1_z ∧ a1_z ≤ 2147483647 := by rw [← hz_a1]; exact ⟨z_lo _, z_hi _⟩
  have rg_a2 : (-2147483648) ≤ a2_z ∧ a2_z ≤ 2147483647 := by rw [← hz_a2]; exact ⟨z_lo _, z_hi _⟩
  have rg_a3 : (-2147483648) ≤ a3_z ∧ a3_z ≤ 2147483647 := by rw [← hz_a3]; exact ⟨z_lo _, z_hi _⟩
  have rg_a4 : (-2147483648) ≤ a4_z ∧ a4_z ≤ 2147483647 := by rw [← hz_a4]; exact ⟨z_lo _, z_hi _⟩
  have hO : Ok eSK S S := Ok.rf hG
  obtain ⟨v_1, ev_1⟩ : ∃ v, pI S 203 x = v := ⟨_, rfl⟩
  have rg_2 := gI_2_203 hO.1 ha_x; rw [ev_1] at rg_2
  have pz_3 : (pI S 203 x).toInt = v_1.toInt := by rw [ev_1]
  obtain ⟨v_4, ev_4⟩ : ∃ v, pI S 205 x = v := ⟨_, rfl⟩
  have rg_6 := And.intro (z_lo v_4) (z_hi v_4)
  have pz_7 : (pI S 205 x).toInt = v_4.toInt := by rw [ev_4]
  obtain ⟨v_8, ev_8⟩ : ∃ v, pI S 206 x = v := ⟨_, rfl⟩
  have rg_10 := And.intro (z_lo v_8) (z_hi v_8)
  have pz_11 : (pI S 206 x).toInt = v_8.toInt := by rw [ev_8]
  obtain ⟨v_12, ev_12⟩ : ∃ v, pI S 207 x = v := ⟨_, rfl⟩
  have rg_14 := And.intro (z_lo v_12) (z_hi v_12)
  have pz_15 : (pI S 207 x).toInt = v_12.toInt := by rw [ev_12]
  have pz_16 : (pI S 203 x).toInt = v_1.toInt := (congrArg Int32.toInt ev_1).trans rfl
  have pz_17 : (pI S 205 x).toInt = v_4.toInt := (congrArg Int32.toInt ev_4).trans rfl
  have pz_18 : (pI S 206 x).toInt = v_8.toInt := (congrArg Int32.toInt ev_8).trans rfl
  refine lv_iload_n X.1 X.2.1 dX2_seek_0 rfl (lv_at hl 3 rfl) ?_
  refine lv_aload_n X.1 X.2.1 dX2_seek_1 rfl (lv_at hl 0 rfl) ?_
  refine r_getI (g := 205) (x := v_4) X hw ha_x rfl 5 ev_4 (by decide) rfl inn_X2_seek_2 (by decide) (X.2.2.2.1 (.fieldLink RX2 28 "SilkMill$Mixer" "wanted" "I") (by decide +kernel)) rfl (gv_205 _ _) dX2_seek_2 ?_
  refine lv_icmp_lt (tgt := 17) X.1 X.2.1 dX2_seek_5 (by decide) (fun c_19 => ?_) (fun c_19 => ?_)
  · have z_b_20 := trivial
    have k_21 : a3_z < v_4.toInt := z_lt hz_a3 rfl c_19
    have hb_22 : a3.toInt < (pI S 205 x).toInt ∨ (pI S 206 x).toInt ≤ a4.toInt := by omega
    exact ret_v X hw hr hlocks (Nat.le_of_ble_eq_true rfl) (Nat.le_of_ble_eq_true rfl) ⟨hO, (by rw [skF_b (b := (pI S 206 x, pI S 207 x)) hb_22]; exact ⟨rfl, rfl⟩)⟩ dX2_seek_17
  · have z_b_23 := trivial
    have k_24 : a3_z ≥ v_4.toInt := z_nlt hz_a3 rfl c_19
    refine lv_iload X.1 X.2.1 dX2_seek_8 (lv_at hl 4 rfl) ?_
    refine lv_aload_n X.1 X.2.1 dX2_seek_10 rfl (lv_at hl 0 rfl) ?_
    refine r_getI (g := 206) (x := v_8) X hw ha_x rfl 6 ev_8 (by decide) rfl inn_X2_seek_2 (by decide) (X.2.2.2.1 (.fieldLink RX2 34 "SilkMill$Mixer" "bestPrice" "I") (by decide +kernel)) rfl (gv_206 _ _) dX2_seek_11 ?_
    refine lv_icmp_lt (tgt := 18) X.1 X.2.1 dX2_seek_14 (by decide) (fun c_25 => ?_) (fun c_25 => ?_)
    · have z_b_26 := trivial
      have k_27 : a4_z < v_8.toInt := z_lt hz_a4 rfl c_25
      refine lv_iload_n X.1 X.2.1 dX2_seek_18 rfl (lv_at hl 1 rfl) ?_
      refine lv_aload_n X.1 X.2.1 dX2_seek_19 rfl (lv_at hl 0 rfl) ?_
      refine r_getI (g := 203) (x := v_1) X hw ha_x rfl 3 ev_1 (by decide) rfl inn_X2_seek_2 (by decide) (X.2.2.2.1 (.fieldLink RX2 21 "SilkMill$Mixer" "size" "I") (by decide +kernel)) rfl (gv_203 _ _) dX2_seek_20 ?_
      refine lv_icmp_ge (tgt := 32) X.1 X.2.1 dX2_seek_23 (by decide) (fun c_28 => ?_) (fun c_28 => ?_)
      · have z_b_29 := trivial
        have k_30 : a1_z ≥ v_1.toInt := z_le rfl hz_a1 c_28
        refine lv_aload_n X.1 X.2.1 dX2_seek_32 rfl (lv_at hl 0 rfl) ?_
        refine lv_iload X.1 X.2.1 dX2_seek_33 (lv_at hl 4 rfl) ?_
        refine r_putI (v := a4) X hw ha_x rfl 6 206 tyX2 (by decide) rfl inn_X2_seek_2 tyX2_ok nmX2 (by decide) (X.2.2.2.1 (.fieldLink RX2 34 "SilkMill$Mixer" "bestPrice" "I") (by decide +kernel)) rfl (Or.inl rfl) rfl rfl (Nat.le_of_ble_eq_true rfl) (st_206 _ _) dX2_seek_35 (fun H locs hw => ?_)
        obtain ⟨S_31, eS_31⟩ : ∃ T, T = sI S 206 x (a4) := ⟨_, rfl⟩
        rw [← eS_31] at hw
        have hO_32 : Ok eSK S S_31 := hO.sI eS_31 (by decide +kernel) (uI_2_206 hO.1 ha_x)
        have h_33 : pI S_31 206 x = a4 := tI_sIs eS_31
        refine lv_aload_n X.1 X.2.1 dX2_seek_38 rfl (lv_at hl 0 rfl) ?_
        refine lv_iload_n X.1 X.2.1 dX2_seek_39 rfl (lv_at hl 2 rfl) ?_
        have t_34 : At S_31 x 2 := tAt_sI eS_31 ha_x
        refine r_putI (v := a2) X hw t_34 rfl 7 207 tyX2 (by decide) rfl inn_X2_seek_2 tyX2_ok nmX2 (by decide) (X.2.2.2.1 (.fieldLink RX2 37 "SilkMill$Mixer" "bestSet" "I") (by decide +kernel)) rfl (Or.inl rfl) rfl rfl (Nat.le_of_ble_eq_true rfl) (st_207 _ _) dX2_seek_40 (fun H locs hw => ?_)
        obtain ⟨S_35, eS_35⟩ : ∃ T, T = sI S_31 207 x (a2) := ⟨_, rfl⟩
        rw [← eS_35] at hw
        have hO_36 : Ok eSK S S_35 := hO_32.sI eS_35 (by decide +kernel) (uI_2_207 hO_32.1 t_34)
        have h_37 : pI S_35 207 x = a2 := tI_sIs eS_35
        have hc_38 : ¬ (a3.toInt < (pI S 205 x).toInt ∨ (pI S 206 x).toInt ≤ a4.toInt) := by omega
        have hl_39 := skF_l (N := (pI S 203 x).toInt) (W := mA S x 201) (P := mA S x 202) (n := 1) (i := 13) (set := a2) (b := (pI S 206 x, pI S 207 x)) hc_38 (Or.inr (show (pI S 203 x).toInt ≤ ((13 : Nat) : Int) by omega))
        have t_40 : pI S_35 206 x = a4 := tI_sI eS_35 rfl h_33
        exact ret_v X hw hr hlocks (Nat.le_of_ble_eq_true rfl) (Nat.le_of_ble_eq_true rfl) ⟨hO_36, ⟨(t_40).trans (congrArg Prod.fst hl_39).symm, (h_37).trans (congrArg Prod.snd hl_39).symm⟩⟩ dX2_seek_43
      · have z_b_41 := trivial
        have k_42 : a1_z < v_1.toInt := z_nle rfl hz_a1 c_28
        refine lv_iload_n X.1 X.2.1 dX2_seek_26 rfl (lv_at hl 1 rfl) ?_
        refine lv_bipush (v := 14) X.1 X.2.1 dX2_seek_27 (by decide) ?_
        refine lv_icmp_lt (tgt := 44) X.1 X.2.1 dX2_seek_29 (by decide) (fun c_43 => ?_) (fun c_43 => ?_)
        rotate_left
        · exfalso
          have k_44 : a1_z ≥ 14 := z_nlt hz_a1 ti_14 c_43
          omega
        have k_45 : a1_z < 14 := z_lt hz_a1 ti_14 c_43
        refine lv_aload_n X.1 X.2.1 dX2_seek_44 rfl (lv_at hl 0 rfl) ?_
        refine lv_iload_n X.1 X.2.1 dX2_seek_45 rfl (lv_at hl 1 rfl) ?_
        refine lv_iconst (v := 1) X.1 X.2.1 dX2_seek_46 (by decide) ?_
        refine lv_iadd X.1 X.2.1 dX2_seek_47 ?_
        refine lv_topi (fun v_46 ev_46 => ?_)
        have z_47 : v_46.toInt = a1_z + 1 := z_add ev_46 hz_a1 ti_1 (by omega) (by omega)
        refine lv_iload_n X.1 X.2.1 dX2_seek_48 rfl (lv_at hl 2 rfl) ?_
        refine lv_iconst (v := 1) X.1 X.2.1 dX2_seek_49 (by decide) ?_
        refine lv_iload_n X.1 X.2.1 dX2_seek_50 rfl (lv_at hl 1 rfl) ?_
        refine lv_ishl X.1 X.2.1 dX2_seek_51 ?_
        refine lv_topi (fun v_48 ev_48 => ?_)
        have rg_49 := And.intro (z_lo v_48) (z_hi v_48)
        refine lv_ior X.1 X.2.1 dX2_seek_52 ?_
        refine lv_topi (fun v_50 ev_50 => ?_)
        have rg_51 := And.intro (z_lo v_50) (z_hi v_50)
        refine lv_iload_n X.1 X.2.1 dX2_seek_53 rfl (lv_at hl 3 rfl) ?_
        refine lv_iload X.1 X.2.1 dX2_seek_54 (lv_at hl 4 rfl) ?_
        refine lv_aload_n X.1 X.2.1 dX2_seek_56 rfl (lv_at hl 0 rfl) ?_
        obtain ⟨q_52, h_53, h_54, h_55⟩ := gQ_2_202 hO.1 ha_x
        refine r_getR (g := 202) X hw ha_x rfl 2 h_53 (by decide) rfl inn_X2_seek_2 (by decide) (X.2.2.2.1 (.fieldLink RX2 18 "SilkMill$Mixer" "prices" "[I") (by decide +kernel)) rfl (gv_202 _ _) dX2_seek_57 ?_
        refine lv_iload_n X.1 X.2.1 dX2_seek_60 rfl (lv_at hl 1 rfl) ?_
        refine r_iald X hw h_54 rfl (by rw [h_55]; exact z_ix hz_a1 (by omega) (by omega)) dX2_seek_61 ?_
        refine lv_topi (fun v_56 ev_56 => ?_)
        have rg_57 := And.intro (z_lo v_56) (z_hi v_56)
        have ev_56 := ev_56.symm
        refine lv_iadd X.1 X.2.1 dX2_seek_62 ?_
        refine lv_topi (fun v_58 ev_58 => ?_)
        have rg_59 := And.intro (z_lo v_58) (z_hi v_58)
        refine k_v (rm := { frames := 1, cells := 0, slots := 0, locals := 48 }) (av := [.ref x, .int (v_46), .int (v_50), .int (a3), .int (v_58)]) X hw (va_runS (As := [.ref x, .int (v_46), .int (v_50), .int (a3), .int (v_58)]) (rest := []) (cfix X) (k_X2_seek8_0 l G cy κ S _ x (v_46) (v_46.toInt) (v_50) (v_50.toInt) (a3) (a3_z) (v_58) (v_58.toInt) hO.1 ha_x rfl rfl hz_a3 rfl (by omega)) (cwS 5 X.2.2.2.1 gX2_seek_X2_seek rfl rfl rfl (by decide +kernel) ⟨Nat.le_of_ble_eq_true rfl, Nat.le_of_ble_eq_true rfl⟩) (pre_S X hw _) rfl rfl hl.1 rfl (lv_room (Nat.le_of_ble_eq_true rfl)) dX2_seek_63 ⟨Nat.le_of_ble_eq_true rfl, Nat.le_of_ble_eq_true rfl⟩) 0 0 (Nat.le_of_ble_eq_true rfl) (Nat.le_of_ble_eq_true rfl) (fun S_61 H locs hp hw hfr hnw => ?_)
        obtain ⟨hk_62, hp⟩ := hp
        have hO_63 : Ok eSK S S_61 := hO.call hk_62 (by decide +kernel)
        obtain ⟨sk_64, sk_65⟩ := hp
        refine lv_aload_n X.1 X.2.1 dX2_seek_66 rfl (lv_at hl 0 rfl) ?_
        refine lv_iload_n X.1 X.2.1 dX2_seek_67 rfl (lv_at hl 1 rfl) ?_
        refine lv_iconst (v := 1) X.1 X.2.1 dX2_seek_68 (by decide) ?_
        refine lv_iadd X.1 X.2.1 dX2_seek_69 ?_
        refine lv_topi (fun v_66 ev_66 => ?_)
        have z_67 : v_66.toInt = a1_z + 1 := z_add ev_66 hz_a1 ti_1 (by omega) (by omega)
        refine lv_iload_n X.1 X.2.1 dX2_seek_70 rfl (lv_at hl 2 rfl) ?_
        refine lv_iload_n X.1 X.2.1 dX2_seek_71 rfl (lv_at hl 3 rfl) ?_
        refine lv_aload_n X.1 X.2.1 dX2_seek_72 rfl (lv_at hl 0 rfl) ?_
        have t_68 : At S_61 x 2 := hk_62.fr.at ha_x
        obtain ⟨q_69, h_70, h_71, h_72⟩ := gQ_2_201 hO_63.1 t_68
        refine r_getR (g := 201) X hw t_68 rfl 1 h_70 (by decide) rfl inn_X2_seek_2 (by decide) (X.2.2.2.1 (.fieldLink RX2 15 "SilkMill$Mixer" "weights" "[I") (by decide +kernel)) rfl (gv_201 _ _) dX2_seek_73 ?_
        refine lv_iload_n X.1 X.2.1 dX2_seek_76 rfl (lv_at hl 1 rfl) ?_
        refine r_iald X hw h_71 rfl (by rw [h_72]; exact z_ix hz_a1 (by omega) (by omega)) dX2_seek_77 ?_
        refine lv_topi (fun v_73 ev_73 => ?_)
        have rg_74 := And.intro (z_lo v_73) (z_hi v_73)
        have ev_73 := ev_73.symm
        refine lv_isub X.1 X.2.1 dX2_seek_78 ?_
        refine lv_topi (fun v_75 ev_75 => ?_)
        have rg_76 := And.intro (z_lo v_75) (z_hi v_75)
        refine lv_iload X.1 X.2.1 dX2_seek_79 (lv_at hl 4 rfl) ?_
        refine k_v (rm := { frames := 1, cells := 0, slots := 0, locals := 48 }) (av := [.ref x, .int (v_66), .int (a2), .int (v_75), .int (a4)]) X hw (va_runS (As := [.ref x, .int (v_66), .int (a2), .int (v_75), .int (a4)]) (rest := []) (cfix X) (k_X2_seek8_0 l G cy κ S_61 _ x (v_66) (v_66.toInt) (a2) (a2_z) (v_75) (v_75.toInt) (a4) (a4_z) hO_63.1 t_68 rfl hz_a2 rfl hz_a4 (by omega)) (cwS 5 X.2.2.2.1 gX2_seek_X2_seek rfl rfl rfl (by decide +kernel) ⟨Nat.le_of_ble_eq_true rfl, Nat.le_of_ble_eq_true rfl⟩) (pre_S X hw _) rfl rfl hl.1 rfl (lv_room (Nat.le_of_ble_eq_true rfl)) dX2_seek_81 ⟨Nat.le_of_ble_eq_true rfl, Nat.le_of_ble_eq_true rfl⟩) 0 0 (Nat.le_of_ble_eq_true rfl) (Nat.le_of_ble_eq_true rfl) (fun S_78 H locs hp hw hfr hnw => ?_)
        obtain ⟨hk_79, hp⟩ := hp
        have hO_80 : Ok eSK S S_78 := hO_63.call hk_79 (by decide +kernel)
        obtain ⟨sk_81, sk_82⟩ := hp
        have hc_83 : ¬ (a3.toInt < (pI S 205 x).toInt ∨ (pI S 206 x).toInt ≤ a4.toInt) := by omega
        have hn_84 : ¬ (pI S 203 x).toInt ≤ ((13 : Nat) : Int) := by omega
        have ai_85 : a1 = Int32.ofNat 13 := Int32.toInt_inj.mp (hz_a1.trans (by rw [show a1_z = 13 by omega]; decide))
        have sx_89 : mA S x 202 13 = v_56 := by rw [mA_eq h_53, show 13 = Int32.toNatClampNeg a1 from (by rw [z_nc hz_a1 (by omega)]; omega)]; exact ev_56
        have eW_91 : mA S_61 x 201 = mA S x 201 := mA_frc hk_62.fr ha_x (ex3 (gQ_2_201 hG ha_x)) (by decide +kernel) (by decide +kernel)
        have eP_92 : mA S_61 x 202 = mA S x 202 := mA_frc hk_62.fr ha_x (ex3 (gQ_2_202 hG ha_x)) (by decide +kernel) (by decide +kernel)
        have e3_93 : pI S_61 203 x = pI S 203 x := hk_62.fr.I' (by decide +kernel) ha_x rfl
        have e5_94 : pI S_61 205 x = pI S 205 x := hk_62.fr.I' (by decide +kernel) ha_x rfl
        have sx_90 : mA S x 201 13 = v_73 := by rw [← eW_91, mA_eq h_70, show 13 = Int32.toNatClampNeg a1 from (by rw [z_nc hz_a1 (by omega)]; omega)]; exact ev_73
        have sx_86 : v_50 = a2 ||| ((1 : Int32) <<< (Int32.ofNat 13 &&& 31)) := by rw [ev_50, ev_48, ai_85]
        have sx_87 : v_58 = a4 + mA S x 202 13 := by rw [ev_58, sx_89]
        have sx_88 : v_75 = a3 - mA S x 201 13 := by rw [ev_75, sx_90]
        rw [sx_86, sx_87] at sk_64 sk_65
        rw [e3_93, eW_91, eP_92, e5_94, sx_88] at sk_81 sk_82
        have q_95 : (pI S_61 206 x, pI S_61 207 x) = (skF (pI S 203 x).toInt (mA S x 201) (mA S x 202) (pI S 205 x) 0 14 (a2 ||| ((1 : Int32) <<< (Int32.ofNat 13 &&& 31))) a3 (a4 + mA S x 202 13) (pI S 206 x, pI S 207 x)) := Prod.ext sk_64 sk_65
        have q_96 : (pI S_78 206 x, pI S_78 207 x) = skF (pI S 203 x).toInt (mA S x 201) (mA S x 202) (pI S 205 x) 0 14 a2 (a3 - mA S x 201 13) a4 (pI S_61 206 x, pI S_61 207 x) := Prod.ext sk_81 sk_82
        rw [q_95] at q_96
        have fi_97 : (pI S_78 206 x, pI S_78 207 x) = skF (pI S 203 x).toInt (mA S x 201) (mA S x 202) (pI S 205 x) 1 13 a2 a3 a4 (pI S 206 x, pI S 207 x) := q_96.trans (skF_s (n := 0) (i := 13) (b := (pI S 206 x, pI S 207 x)) hc_83 hn_84).symm
        exact ret_v X hw hr hlocks (Nat.le_of_ble_eq_true rfl) (Nat.le_of_ble_eq_true rfl) ⟨hO_80, ⟨congrArg Prod.fst fi_97, congrArg Prod.snd fi_97⟩⟩ dX2_seek_84
    · have z_b_98 := trivial
      have k_99 : a4_z ≥ v_8.toInt := z_nlt hz_a4 rfl c_25
      have hb_100 : a3.toInt < (pI S 205 x).toInt ∨ (pI S 206 x).toInt ≤ a4.toInt := by omega
      exact ret_v X hw hr hlocks (Nat.le_of_ble_eq_true rfl) (Nat.le_of_ble_eq_true rfl) ⟨hO, (by rw [skF_b (b := (pI S 206 x, pI S 207 x)) hb_100]; exact ⟨rfl, rfl⟩)⟩ dX2_seek_17
set_option maxHeartbeats 4000000 in
set_option maxRecDepth 100000 in
theorem k_X2_seek8_2 (l : Launch) (G : va_G) (cy : Nat → ClassId) (κ : Nat → Nat) (S : PS) (sz : Nat) (x : Nat) (a1 : Int32) (a1_z : Int) (a2 : Int32) (a2_z : Int) (a3 : Int32) (a3_z : Int) (a4 : Int32) (a4_z : Int) (hG : GX S) (ha_x : At S x 2) (hz_a1 : a1.toInt = a1_z) (hz_a2 : a2.toInt = a2_z) (hz_a3 : a3.toInt = a3_z) (hz_a4 : a4.toInt = a4_z) (hp_0 : a1_z = 12) : Cv l yX2_seek wsX2_seek ({ frames := 3, cells := 0, slots := 0, locals := 144 }) G cy κ S sz [.ref x, .int (a1), .int (a2), .int (a3), .int (a4)] (fun (S9 : PS) => Ok eSK S S9 ∧ (pI S9 206 x = (skF (pI S 203 x).toInt (mA S x 201) (mA S x 202) (pI S 205 x) 2 12 a2 a3 a4 (pI S 206 x, pI S 207 x)).1 ∧ pI S9 207 x = (skF (pI S 203 x).toInt (mA S x 201) (mA S x 202) (pI S 205 x) 2 12 a2 a3 a4 (pI S 206 x, pI S 207 x)).2)) := by
  refine ent_m (cc := cX2_seek) (maxL := 5) (ret := none) (by decide) rfl (Nat.le_of_ble_eq_true rfl) ?_
  intro p e s m below meth c ls X hr hlocks hin hw hl hsz
  subst hsz
  have X : Cx p c cX2_seek 5 s [.ref x, .int (a1), .int (a2), .int (a3), .int (a4)].toArray wsX2_seek RX2 m G cy κ (AS S s.heap.size) := X
  have hl : lv_has ls 5 [(0, .ref x), (1, .int (a1)), (2, .int (a2)), (3, .int (a3)), (4, .int (a4))] := hl
  have rg_a1 : (-2147483648) ≤ a1_z ∧ a1_z ≤ 2147483647 := by rw [← hz_a1]; exact ⟨z_lo _, z_hi _⟩
  have rg_a2 : (-2147483648) ≤ a2_z ∧ a2_z ≤ 2147483647 := by rw [← hz_a2]; exact ⟨z_lo _, z_hi _⟩
  have rg_a3 : (-2147483648) ≤ a3_z ∧ a3_z ≤ 2147483647 := by rw [← hz_a3]; exact ⟨z_lo _, z_hi _⟩
  have rg_a4 : (-2147483648) ≤ a4_z ∧ a4_z ≤ 2147483647 := by rw [← hz_a4]; exact ⟨z_lo _, z_hi _⟩
  have hO : Ok eSK S S := Ok.rf hG
  obtain ⟨v_1, ev_1⟩ : ∃ v, pI S 203 x = v := ⟨_, rfl⟩
  have rg_2 := gI_2_203 hO.1 ha_x; rw [ev_1] at rg_2
  have pz_3 : (pI S 203 x).toInt = v_1.toInt := by rw [ev_1]
  obtain ⟨v_4, ev_4⟩ : ∃ v, pI S 205 x = v := ⟨_, rfl⟩
  have rg_6 := And.intro (z_lo v_4) (z_hi v_4)
  have pz_7 : (pI S 205 x).toInt = v_4.toInt := by rw [ev_4]
  obtain ⟨v_8, ev_8⟩ : ∃ v, pI S 206 x = v := ⟨_, rfl⟩
  have rg_10 := And.intro (z_lo v_8) (z_hi v_8)
  have pz_11 : (pI S 206 x).toInt = v_8.toInt := by rw [ev_8]
  obtain ⟨v_12, ev_12⟩ : ∃ v, pI S 207 x = v := ⟨_, rfl⟩
  have rg_14 := And.intro (z_lo v_12) (z_hi v_12)
  have pz_15 : (pI S 207 x).toInt = v_12.toInt := by rw [ev_12]
  have pz_16 : (pI S 203 x).toInt = v_1.toInt := (congrArg Int32.toInt ev_1).trans rfl
  have pz_17 : (pI S 205 x).toInt = v_4.toInt := (congrArg Int32.toInt ev_4).trans rfl
  have pz_18 : (pI S 206 x).toInt = v_8.toInt := (congrArg Int32.toInt ev_8).trans rfl
  refine lv_iload_n X.1 X.2.1 dX2_seek_0 rfl (lv_at hl 3 rfl) ?_
  refine lv_aload_n X.1 X.2.1 dX2_seek_1 rfl (lv_at hl 0 rfl) ?_
  refine r_getI (g := 205) (x := v_4) X hw ha_x rfl 5 ev_4 (by decide) rfl inn_X2_seek_2 (by decide) (X.2.2.2.1 (.fieldLink RX2 28 "SilkMill$Mixer" "wanted" "I") (by decide +kernel)) rfl (gv_205 _ _) dX2_seek_2 ?_
  refine lv_icmp_lt (tgt := 17) X.1 X.2.1 dX2_seek_5 (by decide) (fun c_19 => ?_) (fun c_19 => ?_)
  · have z_b_20 := trivial
    have k_21 : a3_z < v_4.toInt := z_lt hz_a3 rfl c_19
    have hb_22 : a3.toInt < (pI S 205 x).toInt ∨ (pI S 206 x).toInt ≤ a4.toInt := by omega
    exact ret_v X hw hr hlocks (Nat.le_of_ble_eq_true rfl) (Nat.le_of_ble_eq_true rfl) ⟨hO, (by rw [skF_b (b := (pI S 206 x, pI S 207 x)) hb_22]; exact ⟨rfl, rfl⟩)⟩ dX2_seek_17
  · have z_b_23 := trivial
    have k_24 : a3_z ≥ v_4.toInt := z_nlt hz_a3 rfl c_19
    refine lv_iload X.1 X.2.1 dX2_seek_8 (lv_at hl 4 rfl) ?_
    refine lv_aload_n X.1 X.2.1 dX2_seek_10 rfl (lv_at hl 0 rfl) ?_
    refine r_getI (g := 206) (x := v_8) X hw ha_x rfl 6 ev_8 (by decide) rfl inn_X2_seek_2 (by decide) (X.2.2.2.1 (.fieldLink RX2 34 "SilkMill$Mixer" "bestPrice" "I") (by decide +kernel)) rfl (gv_206 _ _) dX2_seek_11 ?_
    refine lv_icmp_lt (tgt := 18) X.1 X.2.1 dX2_seek_14 (by decide) (fun c_25 => ?_) (fun c_25 => ?_)
    · have z_b_26 := trivial
      have k_27 : a4_z < v_8.toInt := z_lt hz_a4 rfl c_25
      refine lv_iload_n X.1 X.2.1 dX2_seek_18 rfl (lv_at hl 1 rfl) ?_
      refine lv_aload_n X.1 X.2.1 dX2_seek_19 rfl (lv_at hl 0 rfl) ?_
      refine r_getI (g := 203) (x := v_1) X hw ha_x rfl 3 ev_1 (by decide) rfl inn_X2_seek_2 (by decide) (X.2.2.2.1 (.fieldLink RX2 21 "SilkMill$Mixer" "size" "I") (by decide +kernel)) rfl (gv_203 _ _) dX2_seek_20 ?_
      refine lv_icmp_ge (tgt := 32) X.1 X.2.1 dX2_seek_23 (by decide) (fun c_28 => ?_) (fun c_28 => ?_)
      · have z_b_29 := trivial
        have k_30 : a1_z ≥ v_1.toInt := z_le rfl hz_a1 c_28
        refine lv_aload_n X.1 X.2.1 dX2_seek_32 rfl (lv_at hl 0 rfl) ?_
        refine lv_iload X.1 X.2.1 dX2_seek_33 (lv_at hl 4 rfl) ?_
        refine r_putI (v := a4) X hw ha_x rfl 6 206 tyX2 (by decide) rfl inn_X2_seek_2 tyX2_ok nmX2 (by decide) (X.2.2.2.1 (.fieldLink RX2 34 "SilkMill$Mixer" "bestPrice" "I") (by decide +kernel)) rfl (Or.inl rfl) rfl rfl (Nat.le_of_ble_eq_true rfl) (st_206 _ _) dX2_seek_35 (fun H locs hw => ?_)
        obtain ⟨S_31, eS_31⟩ : ∃ T, T = sI S 206 x (a4) := ⟨_, rfl⟩
        rw [← eS_31] at hw
        have hO_32 : Ok eSK S S_31 := hO.sI eS_31 (by decide +kernel) (uI_2_206 hO.1 ha_x)
        have h_33 : pI S_31 206 x = a4 := tI_sIs eS_31
        refine lv_aload_n X.1 X.2.1 dX2_seek_38 rfl (lv_at hl 0 rfl) ?_
        refine lv_iload_n X.1 X.2.1 dX2_seek_39 rfl (lv_at hl 2 rfl) ?_
        have t_34 : At S_31 x 2 := tAt_sI eS_31 ha_x
        refine r_putI (v := a2) X hw t_34 rfl 7 207 tyX2 (by decide) rfl inn_X2_seek_2 tyX2_ok nmX2 (by decide) (X.2.2.2.1 (.fieldLink RX2 37 "SilkMill$Mixer" "bestSet" "I") (by decide +kernel)) rfl (Or.inl rfl) rfl rfl (Nat.le_of_ble_eq_true rfl) (st_207 _ _) dX2_seek_40 (fun H locs hw => ?_)
        obtain ⟨S_35, eS_35⟩ : ∃ T, T = sI S_31 207 x (a2) := ⟨_, rfl⟩
        rw [← eS_35] at hw
        have hO_36 : Ok eSK S S_35 := hO_32.sI eS_35 (by decide +kernel) (uI_2_207 hO_32.1 t_34)
        have h_37 : pI S_35 207 x = a2 := tI_sIs eS_35
        have hc_38 : ¬ (a3.toInt < (pI S 205 x).toInt ∨ (pI S 206 x).toInt ≤ a4.toInt) := by omega
        have hl_39 := skF_l (N := (pI S 203 x).toInt) (W := mA S x 201) (P := mA S x 202) (n := 2) (i := 12) (set := a2) (b := (pI S 206 x, pI S 207 x)) hc_38 (Or.inr (show (pI S 203 x).toInt ≤ ((12 : Nat) : Int) by omega))
        have t_40 : pI S_35 206 x = a4 := tI_sI eS_35 rfl h_33
        exact ret_v X hw hr hlocks (Nat.le_of_ble_eq_true rfl) (Nat.le_of_ble_eq_true rfl) ⟨hO_36, ⟨(t_40).trans (congrArg Prod.fst hl_39).symm, (h_37).trans (congrArg Prod.snd hl_39).symm⟩⟩ dX2_seek_43
      · have z_b_41 := trivial
        have k_42 : a1_z < v_1.toInt := z_nle rfl hz_a1 c_28
        refine lv_iload_n X.1 X.2.1 dX2_seek_26 rfl (lv_at hl 1 rfl) ?_
        refine lv_bipush (v := 14) X.1 X.2.1 dX2_seek_27 (by decide) ?_
        refine lv_icmp_lt (tgt := 44) X.1 X.2.1 dX2_seek_29 (by decide) (fun c_43 => ?_) (fun c_43 => ?_)
        rotate_left
        · exfalso
          have k_44 : a1_z ≥ 14 := z_nlt hz_a1 ti_14 c_43
          omega
        have k_45 : a1_z < 14 := z_lt hz_a1 ti_14 c_43
        refine lv_aload_n X.1 X.2.1 dX2_seek_44 rfl (lv_at hl 0 rfl) ?_
        refine lv_iload_n X.1 X.2.1 dX2_seek_45 rfl (lv_at hl 1 rfl) ?_
        refine lv_iconst (v := 1) X.1 X.2.1 dX2_seek_46 (by decide) ?_
        refine lv_iadd X.1 X.2.1 dX2_seek_47 ?_
        refine lv_topi (fun v_46 ev_46 => ?_)
        have z_47 : v_46.toInt = a1_z + 1 := z_add ev_46 hz_a1 ti_1 (by omega) (by omega)
        refine lv_iload_n X.1 X.2.1 dX2_seek_48 rfl (lv_at hl 2 rfl) ?_
        refine lv_iconst (v := 1) X.1 X.2.1 dX2_seek_49 (by decide) ?_
        refine lv_iload_n X.1 X.2.1 dX2_seek_50 rfl (lv_at hl 1 rfl) ?_
        refine lv_ishl X.1 X.2.1 dX2_seek_51 ?_
        refine lv_topi (fun v_48 ev_48 => ?_)
        have rg_49 := And.intro (z_lo v_48) (z_hi v_48)
        refine lv_ior X.1 X.2.1 dX2_seek_52 ?_
        refine lv_topi (fun v_50 ev_50 => ?_)
        have rg_51 := And.intro (z_lo v_50) (z_hi v_50)
        refine lv_iload_n X.1 X.2.1 dX2_seek_53 rfl (lv_at hl 3 rfl) ?_
        refine lv_iload X.1 X.2.1 dX2_seek_54 (lv_at hl 4 rfl) ?_
        refine lv_aload_n X.1 X.2.1 dX2_seek_56 rfl (lv_at hl 0 rfl) ?_
        obtain ⟨q_52, h_53, h_54, h_55⟩ := gQ_2_202 hO.1 ha_x
        refine r_getR (g := 202) X hw ha_x rfl 2 h_53 (by decide) rfl inn_X2_seek_2 (by decide) (X.2.2.2.1 (.fieldLink RX2 18 "SilkMill$Mixer" "prices" "[I") (by decide +kernel)) rfl (gv_202 _ _) dX2_seek_57 ?_
        refine lv_iload_n X.1 X.2.1 dX2_seek_60 rfl (lv_at hl 1 rfl) ?_
        refine r_iald X hw h_54 rfl (by rw [h_55]; exact z_ix hz_a1 (by omega) (by omega)) dX2_seek_61 ?_
        refine lv_topi (fun v_56 ev_56 => ?_)
        have rg_57 := And.intro (z_lo v_56) (z_hi v_56)
        have ev_56 := ev_56.symm
        refine lv_iadd X.1 X.2.1 dX2_seek_62 ?_
        refine lv_topi (fun v_58 ev_58 => ?_)
        have rg_59 := And.intro (z_lo v_58) (z_hi v_58)
        refine k_v (rm := { frames := 2, cells := 0, slots := 0, locals := 96 }) (av := [.ref x, .int (v_46), .int (v_50), .int (a3), .int (v_58)]) X hw (va_runS (As := [.ref x, .int (v_46), .int (v_50), .int (a3), .int (v_58)]) (rest := []) (cfix X) (k_X2_seek8_1 l G cy κ S _ x (v_46) (v_46.toInt) (v_50) (v_50.toInt) (a3) (a3_z) (v_58) (v_58.toInt) hO.1 ha_x rfl rfl hz_a3 rfl (by omega)) (cwS 5 X.2.2.2.1 gX2_seek_X2_seek rfl rfl rfl (by decide +kernel) ⟨Nat.le_of_ble_eq_true rfl, Nat.le_of_ble_eq_true rfl⟩) (pre_S X hw _) rfl rfl hl.1 rfl (lv_room (Nat.le_of_ble_eq_true rfl)) dX2_seek_63 ⟨Nat.le_of_ble_eq_true rfl, Nat.le_of_ble_eq_true rfl⟩) 0 0 (Nat.le_of_ble_eq_true rfl) (Nat.le_of_ble_eq_true rfl) (fun S_61 H locs hp hw hfr hnw => ?_)
        obtain ⟨hk_62, hp⟩ := hp
        have hO_63 : Ok eSK S S_61 := hO.call hk_62 (by decide +kernel)
        obtain ⟨sk_64, sk_65⟩ := hp
        refine lv_aload_n X.1 X.2.1 dX2_seek_66 rfl (lv_at hl 0 rfl) ?_
        refine lv_iload_n X.1 X.2.1 dX2_seek_67 rfl (lv_at hl 1 rfl) ?_
        refine lv_iconst (v := 1) X.1 X.2.1 dX2_seek_68 (by decide) ?_
        refine lv_iadd X.1 X.2.1 dX2_seek_69 ?_
        refine lv_topi (fun v_66 ev_66 => ?_)
        have z_67 : v_66.toInt = a1_z + 1 := z_add ev_66 hz_a1 ti_1 (by omega) (by omega)
        refine lv_iload_n X.1 X.2.1 dX2_seek_70 rfl (lv_at hl 2 rfl) ?_
        refine lv_iload_n X.1 X.2.1 dX2_seek_71 rfl (lv_at hl 3 rfl) ?_
        refine lv_aload_n X.1 X.2.1 dX2_seek_72 rfl (lv_at hl 0 rfl) ?_
        have t_68 : At S_61 x 2 := hk_62.fr.at ha_x
        obtain ⟨q_69, h_70, h_71, h_72⟩ := gQ_2_201 hO_63.1 t_68
        refine r_getR (g := 201) X hw t_68 rfl 1 h_70 (by decide) rfl inn_X2_seek_2 (by decide) (X.2.2.2.1 (.fieldLink RX2 15 "SilkMill$Mixer" "weights" "[I") (by decide +kernel)) rfl (gv_201 _ _) dX2_seek_73 ?_
        refine lv_iload_n X.1 X.2.1 dX2_seek_76 rfl (lv_at hl 1 rfl) ?_
        refine r_iald X hw h_71 rfl (by rw [h_72]; exact z_ix hz_a1 (by omega) (by omega)) dX2_seek_77 ?_
        refine lv_topi (fun v_73 ev_73 => ?_)
        have rg_74 := And.intro (z_lo v_73) (z_hi v_73)
        have ev_73 := ev_73.symm
        refine lv_isub X.1 X.2.1 dX2_seek_78 ?_
        refine lv_topi (fun v_75 ev_75 => ?_)
        have rg_76 := And.intro (z_lo v_75) (z_hi v_75)
        refine lv_iload X.1 X.2.1 dX2_seek_79 (lv_at hl 4 rfl) ?_
        refine k_v (rm := { frames := 2, cells := 0, slots := 0, locals := 96 }) (av := [.ref x, .int (v_66), .int (a2), .int (v_75), .int (a4)]) X hw (va_runS (As := [.ref x, .int (v_66), .int (a2), .int (v_75), .int (a4)]) (rest := []) (cfix X) (k_X2_seek8_1 l G cy κ S_61 _ x (v_66) (v_66.toInt) (a2) (a2_z) (v_75) (v_75.toInt) (a4) (a4_z) hO_63.1 t_68 rfl hz_a2 rfl hz_a4 (by omega)) (cwS 5 X.2.2.2.1 gX2_seek_X2_seek rfl rfl rfl (by decide +kernel) ⟨Nat.le_of_ble_eq_true rfl, Nat.le_of_ble_eq_true rfl⟩) (pre_S X hw _) rfl rfl hl.1 rfl (lv_room (Nat.le_of_ble_eq_true rfl)) dX2_seek_81 ⟨Nat.le_of_ble_eq_true rfl, Nat.le_of_ble_eq_true rfl⟩) 0 0 (Nat.le_of_ble_eq_true rfl) (Nat.le_of_ble_eq_true rfl) (fun S_78 H locs hp hw hfr hnw => ?_)
        obtain ⟨hk_79, hp⟩ := hp
        have hO_80 : Ok eSK S S_78 := hO_63.call hk_79 (by decide +kernel)
        obtain ⟨sk_81, sk_82⟩ := hp
        have hc_83 : ¬ (a3.toInt < (pI S 205 x).toInt ∨ (pI S 206 x).toInt ≤ a4.toInt) := by omega
        have hn_84 : ¬ (pI S 203 x).toInt ≤ ((12 : Nat) : Int) := by omega
        have ai_85 : a1 = Int32.ofNat 12 := Int32.toInt_inj.mp (hz_a1.trans (by rw [show a1_z = 12 by omega]; decide))
        have sx_89 : mA S x 202 12 = v_56 := by rw [mA_eq h_53, show 12 = Int32.toNatClampNeg a1 from (by rw [z_nc hz_a1 (by omega)]; omega)]; exact ev_56
        have eW_91 : mA S_61 x 201 = mA S x 201 := mA_frc hk_62.fr ha_x (ex3 (gQ_2_201 hG ha_x)) (by decide +kernel) (by decide +kernel)
        have eP_92 : mA S_61 x 202 = mA S x 202 := mA_frc hk_62.fr ha_x (ex3 (gQ_2_202 hG ha_x)) (by decide +kernel) (by decide +kernel)
        have e3_93 : pI S_61 203 x = pI S 203 x := hk_62.fr.I' (by decide +kernel) ha_x rfl
        have e5_94 : pI S_61 205 x = pI S 205 x := hk_62.fr.I' (by decide +kernel) ha_x rfl
        have sx_90 : mA S x 201 12 = v_73 := by rw [← eW_91, mA_eq h_70, show 12 = Int32.toNatClampNeg a1 from (by rw [z_nc hz_a1 (by omega)]; omega)]; exact ev_73
        have sx_86 : v_50 = a2 ||| ((1 : Int32) <<< (Int32.ofNat 12 &&& 31)) := by rw [ev_50, ev_48, ai_85]
        have sx_87 : v_58 = a4 + mA S x 202 12 := by rw [ev_58, sx_89]
        have sx_88 : v_75 = a3 - mA S x 201 12 := by rw [ev_75, sx_90]
        rw [sx_86, sx_87] at sk_64 sk_65
        rw [e3_93, eW_91, eP_92, e5_94, sx_88] at sk_81 sk_82
        have q_95 : (pI S_61 206 x, pI S_61 207 x) = (skF (pI S 203 x).toInt (mA S x 201) (mA S x 202) (pI S 205 x) 1 13 (a2 ||| ((1 : Int32) <<< (Int32.ofNat 12 &&& 31))) a3 (a4 + mA S x 202 12) (pI S 206 x, pI S 207 x)) := Prod.ext sk_64 sk_65
        have q_96 : (pI S_78 206 x, pI S_78 207 x) = skF (pI S 203 x).toInt (mA S x 201) (mA S x 202) (pI S 205 x) 1 13 a2 (a3 - mA S x 201 12) a4 (pI S_61 206 x, pI S_61 207 x) := Prod.ext sk_81 sk_82
        rw [q_95] at q_96
        have fi_97 : (pI S_78 206 x, pI S_78 207 x) = skF (pI S 203 x).toInt (mA S x 201) (mA S x 202) (pI S 205 x) 2 12 a2 a3 a4 (pI S 206 x, pI S 207 x) := q_96.trans (skF_s (n := 1) (i := 12) (b := (pI S 206 x, pI S 207 x)) hc_83 hn_84).symm
        exact ret_v X hw hr hlocks (Nat.le_of_ble_eq_true rfl) (Nat.le_of_ble_eq_true rfl) ⟨hO_80, ⟨congrArg Prod.fst fi_97, congrArg Prod.snd fi_97⟩⟩ dX2_seek_84
    · have z_b_98 := trivial
      have k_99 : a4_z ≥ v_8.toInt := z_nlt hz_a4 rfl c_25
      have hb_100 : a3.toInt < (pI S 205 x).toInt ∨ (pI S 206 x).toInt ≤ a4.toInt := by omega
      exact ret_v X hw hr hlocks (Nat.le_of_ble_eq_true rfl) (Nat.le_of_ble_eq_true rfl) ⟨hO, (by rw [skF_b (b := (pI S 206 x, pI S 207 x)) hb_100]; exact ⟨rfl, rfl⟩)⟩ dX2_seek_17
set_option maxHeartbeats 4000000 in
set_option maxRecDepth 100000 in
theorem k_X2_seek8_3 (l : Launch) (G : va_G) (cy : Nat → ClassId) (κ : Nat → Nat) (S : PS) (sz : Nat) (x : Nat) (a1 : Int32) (a1_z : Int) (a2 : Int32) (a2_z : Int) (a3 : Int32) (a3_z : Int) (a4 : Int32) (a4_z : Int) (hG : GX S) (ha_x : At S x 2) (hz_a1 : a1.toInt = a1_z) (hz_a2 : a2.toInt = a2_z) (hz_a3 : a3.toInt = a3_z) (hz_a4 : a4.toInt = a4_z) (hp_0 : a1_z = 11) : Cv l yX2_seek wsX2_seek ({ frames := 4, cells := 0, slots := 0, locals := 192 }) G cy κ S sz [.ref x, .int (a1), .int (a2), .int (a3), .int (a4)] (fun (S9 : PS) => Ok eSK S S9 ∧ (pI S9 206 x = (skF (pI S 203 x).toInt (mA S x 201) (mA S x 202) (pI S 205 x) 3 11 a2 a3 a4 (pI S 206 x, pI S 207 x)).1 ∧ pI S9 207 x = (skF (pI S 203 x).toInt (mA S x 201) (mA S x 202) (pI S 205 x) 3 11 a2 a3 a4 (pI S 206 x, pI S 207 x)).2)) := by
  refine ent_m (cc := cX2_seek) (maxL := 5) (ret := none) (by decide) rfl (Nat.le_of_ble_eq_true rfl) ?_
  intro p e s m below meth c ls X hr hlocks hin hw hl hsz
  subst hsz
  have X : Cx p c cX2_seek 5 s [.ref x, .int (a1), .int (a2), .int (a3), .int (a4)].toArray wsX2_seek RX2 m G cy κ (AS S s.heap.size) := X
  have hl : lv_has ls 5 [(0, .ref x), (1, .int (a1)), (2, .int (a2)), (3, .int (a3)), (4, .int (a4))] := hl
  have rg_a1 : (-2147483648) ≤ a1_z ∧ a1_z ≤ 2147483647 := by rw [← hz_a1]; exact ⟨z_lo _, z_hi _⟩
  have rg_a2 : (-2147483648) ≤ a2_z ∧ a2_z ≤ 2147483647 := by rw [← hz_a2]; exact ⟨z_lo _, z_hi _⟩
  have rg_a3 : (-2147483648) ≤ a3_z ∧ a3_z ≤ 2147483647 := by rw [← hz_a3]; exact ⟨z_lo _, z_hi _⟩
  have rg_a4 : (-2147483648) ≤ a4_z ∧ a4_z ≤ 2147483647 := by rw [← hz_a4]; exact ⟨z_lo _, z_hi _⟩
  have hO : Ok eSK S S := Ok.rf hG
  obtain ⟨v_1, ev_1⟩ : ∃ v, pI S 203 x = v := ⟨_, rfl⟩
  have rg_2 := gI_2_203 hO.1 ha_x; rw [ev_1] at rg_2
  have pz_3 : (pI S 203 x).toInt = v_1.toInt := by rw [ev_1]
  obtain ⟨v_4, ev_4⟩ : ∃ v, pI S 205 x = v := ⟨_, rfl⟩
  have rg_6 := And.intro (z_lo v_4) (z_hi v_4)
  have pz_7 : (pI S 205 x).toInt = v_4.toInt := by rw [ev_4]
  obtain ⟨v_8, ev_8⟩ : ∃ v, pI S 206 x = v := ⟨_, rfl⟩
  have rg_10 := And.intro (z_lo v_8) (z_hi v_8)
  have pz_11 : (pI S 206 x).toInt = v_8.toInt := by rw [ev_8]
  obtain ⟨v_12, ev_12⟩ : ∃ v, pI S 207 x = v := ⟨_, rfl⟩
  have rg_14 := And.intro (z_lo v_12) (z_hi v_12)
  have pz_15 : (pI S 207 x).toInt = v_12.toInt := by rw [ev_12]
  have pz_16 : (pI S 203 x).toInt = v_1.toInt := (congrArg Int32.toInt ev_1).trans rfl
  have pz_17 : (pI S 205 x).toInt = v_4.toInt := (congrArg Int32.toInt ev_4).trans rfl
  have pz_18 : (pI S 206 x).toInt = v_8.toInt := (congrArg Int32.toInt ev_8).trans rfl
  refine lv_iload_n X.1 X.2.1 dX2_seek_0 rfl (lv_at hl 3 rfl) ?_
  refine lv_aload_n X.1 X.2.1 dX2_seek_1 rfl (lv_at hl 0 rfl) ?_
  refine r_getI (g := 205) (x := v_4) X hw ha_x rfl 5 ev_4 (by decide) rfl inn_X2_seek_2 (by decide) (X.2.2.2.1 (.fieldLink RX2 28 "SilkMill$Mixer" "wanted" "I") (by decide +kernel)) rfl (gv_205 _ _) dX2_seek_2 ?_
  refine lv_icmp_lt (tgt := 17) X.1 X.2.1 dX2_seek_5 (by decide) (fun c_19 => ?_) (fun c_19 => ?_)
  · have z_b_20 := trivial
    have k_21 : a3_z < v_4.toInt := z_lt hz_a3 rfl c_19
    have hb_22 : a3.toInt < (pI S 205 x).toInt ∨ (pI S 206 x).toInt ≤ a4.toInt := by omega
    exact ret_v X hw hr hlocks (Nat.le_of_ble_eq_true rfl) (Nat.le_of_ble_eq_true rfl) ⟨hO, (by rw [skF_b (b := (pI S 206 x, pI S 207 x)) hb_22]; exact ⟨rfl, rfl⟩)⟩ dX2_seek_17
  · have z_b_23 := trivial
    have k_24 : a3_z ≥ v_4.toInt := z_nlt hz_a3 rfl c_19
    refine lv_iload X.1 X.2.1 dX2_seek_8 (lv_at hl 4 rfl) ?_
    refine lv_aload_n X.1 X.2.1 dX2_seek_10 rfl (lv_at hl 0 rfl) ?_
    refine r_getI (g := 206) (x := v_8) X hw ha_x rfl 6 ev_8 (by decide) rfl inn_X2_seek_2 (by decide) (X.2.2.2.1 (.fieldLink RX2 34 "SilkMill$Mixer" "bestPrice" "I") (by decide +kernel)) rfl (gv_206 _ _) dX2_seek_11 ?_
    refine lv_icmp_lt (tgt := 18) X.1 X.2.1 dX2_seek_14 (by decide) (fun c_25 => ?_) (fun c_25 => ?_)
    · have z_b_26 := trivial
      have k_27 : a4_z < v_8.toInt := z_lt hz_a4 rfl c_25
      refine lv_iload_n X.1 X.2.1 dX2_seek_18 rfl (lv_at hl 1 rfl) ?_
      refine lv_aload_n X.1 X.2.1 dX2_seek_19 rfl (lv_at hl 0 rfl) ?_
      refine r_getI (g := 203) (x := v_1) X hw ha_x rfl 3 ev_1 (by decide) rfl inn_X2_seek_2 (by decide) (X.2.2.2.1 (.fieldLink RX2 21 "SilkMill$Mixer" "size" "I") (by decide +kernel)) rfl (gv_203 _ _) dX2_seek_20 ?_
      refine lv_icmp_ge (tgt := 32) X.1 X.2.1 dX2_seek_23 (by decide) (fun c_28 => ?_) (fun c_28 => ?_)
      · have z_b_29 := trivial
        have k_30 : a1_z ≥ v_1.toInt := z_le rfl hz_a1 c_28
        refine lv_aload_n X.1 X.2.1 dX2_seek_32 rfl (lv_at hl 0 rfl) ?_
        refine lv_iload X.1 X.2.1 dX2_seek_33 (lv_at hl 4 rfl) ?_
        refine r_putI (v := a4) X hw ha_x rfl 6 206 tyX2 (by decide) rfl inn_X2_seek_2 tyX2_ok nmX2 (by decide) (X.2.2.2.1 (.fieldLink RX2 34 "SilkMill$Mixer" "bestPrice" "I") (by decide +kernel)) rfl (Or.inl rfl) rfl rfl (Nat.le_of_ble_eq_true rfl) (st_206 _ _) dX2_seek_35 (fun H locs hw => ?_)
        obtain ⟨S_31, eS_31⟩ : ∃ T, T = sI S 206 x (a4) := ⟨_, rfl⟩
        rw [← eS_31] at hw
        have hO_32 : Ok eSK S S_31 := hO.sI eS_31 (by decide +kernel) (uI_2_206 hO.1 ha_x)
        have h_33 : pI S_31 206 x = a4 := tI_sIs eS_31
        refine lv_aload_n X.1 X.2.1 dX2_seek_38 rfl (lv_at hl 0 rfl) ?_
        refine lv_iload_n X.1 X.2.1 dX2_seek_39 rfl (lv_at hl 2 rfl) ?_
        have t_34 : At S_31 x 2 := tAt_sI eS_31 ha_x
        refine r_putI (v := a2) X hw t_34 rfl 7 207 tyX2 (by decide) rfl inn_X2_seek_2 tyX2_ok nmX2 (by decide) (X.2.2.2.1 (.fieldLink RX2 37 "SilkMill$Mixer" "bestSet" "I") (by decide +kernel)) rfl (Or.inl rfl) rfl rfl (Nat.le_of_ble_eq_true rfl) (st_207 _ _) dX2_seek_40 (fun H locs hw => ?_)
        obtain ⟨S_35, eS_35⟩ : ∃ T, T = sI S_31 207 x (a2) := ⟨_, rfl⟩
        rw [← eS_35] at hw
        have hO_36 : Ok eSK S S_35 := hO_32.sI eS_35 (by decide +kernel) (uI_2_207 hO_32.1 t_34)
        have h_37 : pI S_35 207 x = a2 := tI_sIs eS_35
        have hc_38 : ¬ (a3.toInt < (pI S 205 x).toInt ∨ (pI S 206 x).toInt ≤ a4.toInt) := by omega
        have hl_39 := skF_l (N := (pI S 203 x).toInt) (W := mA S x 201) (P := mA S x 202) (n := 3) (i := 11) (set := a2) (b := (pI S 206 x, pI S 207 x)) hc_38 (Or.inr (show (pI S 203 x).toInt ≤ ((11 : Nat) : Int) by omega))
        have t_40 : pI S_35 206 x = a4 := tI_sI eS_35 rfl h_33
        exact ret_v X hw hr hlocks (Nat.le_of_ble_eq_true rfl) (Nat.le_of_ble_eq_true rfl) ⟨hO_36, ⟨(t_40).trans (congrArg Prod.fst hl_39).symm, (h_37).trans (congrArg Prod.snd hl_39).symm⟩⟩ dX2_seek_43
      · have z_b_41 := trivial
        have k_42 : a1_z < v_1.toInt := z_nle rfl hz_a1 c_28
        refine lv_iload_n X.1 X.2.1 dX2_seek_26 rfl (lv_at hl 1 rfl) ?_
        refine lv_bipush (v := 14) X.1 X.2.1 dX2_seek_27 (by decide) ?_
        refine lv_icmp_lt (tgt := 44) X.1 X.2.1 dX2_seek_29 (by decide) (fun c_43 => ?_) (fun c_43 => ?_)
        rotate_left
        · exfalso
          have k_44 : a1_z ≥ 14 := z_nlt hz_a1 ti_14 c_43
          omega
        have k_45 : a1_z < 14 := z_lt hz_a1 ti_14 c_43
        refine lv_aload_n X.1 X.2.1 dX2_seek_44 rfl (lv_at hl 0 rfl) ?_
        refine lv_iload_n X.1 X.2.1 dX2_seek_45 rfl (lv_at hl 1 rfl) ?_
        refine lv_iconst (v := 1) X.1 X.2.1 dX2_seek_46 (by decide) ?_
        refine lv_iadd X.1 X.2.1 dX2_seek_47 ?_
        refine lv_topi (fun v_46 ev_46 => ?_)
        have z_47 : v_46.toInt = a1_z + 1 := z_add ev_46 hz_a1 ti_1 (by omega) (by omega)
        refine lv_iload_n X.1 X.2.1 dX2_seek_48 rfl (lv_at hl 2 rfl) ?_
        refine lv_iconst (v := 1) X.1 X.2.1 dX2_seek_49 (by decide) ?_
        refine lv_iload_n X.1 X.2.1 dX2_seek_50 rfl (lv_at hl 1 rfl) ?_
        refine lv_ishl X.1 X.2.1 dX2_seek_51 ?_
        refine lv_topi (fun v_48 ev_48 => ?_)
        have rg_49 := And.intro (z_lo v_48) (z_hi v_48)
        refine lv_ior X.1 X.2.1 dX2_seek_52 ?_
        refine lv_topi (fun v_50 ev_50 => ?_)
        have rg_51 := And.intro (z_lo v_50) (z_hi v_50)
        refine lv_iload_n X.1 X.2.1 dX2_seek_53 rfl (lv_at hl 3 rfl) ?_
        refine lv_iload X.1 X.2.1 dX2_seek_54 (lv_at hl 4 rfl) ?_
        refine lv_aload_n X.1 X.2.1 dX2_seek_56 rfl (lv_at hl 0 rfl) ?_
        obtain ⟨q_52, h_53, h_54, h_55⟩ := gQ_2_202 hO.1 ha_x
        refine r_getR (g := 202) X hw ha_x rfl 2 h_53 (by decide) rfl inn_X2_seek_2 (by decide) (X.2.2.2.1 (.fieldLink RX2 18 "SilkMill$Mixer" "prices" "[I") (by decide +kernel)) rfl (gv_202 _ _) dX2_seek_57 ?_
        refine lv_iload_n X.1 X.2.1 dX2_seek_60 rfl (lv_at hl 1 rfl) ?_
        refine r_iald X hw h_54 rfl (by rw [h_55]; exact z_ix hz_a1 (by omega) (by omega)) dX2_seek_61 ?_
        refine lv_topi (fun v_56 ev_56 => ?_)
        have rg_57 := And.intro (z_lo v_56) (z_hi v_56)
        have ev_56 := ev_56.symm
        refine lv_iadd X.1 X.2.1 dX2_seek_62 ?_
        refine lv_topi (fun v_58 ev_58 => ?_)
        have rg_59 := And.intro (z_lo v_58) (z_hi v_58)
        refine k_v (rm := { frames := 3, cells := 0, slots := 0, locals := 144 }) (av := [.ref x, .int (v_46), .int (v_50), .int (a3), .int (v_58)]) X hw (va_runS (As := [.ref x, .int (v_46), .int (v_50), .int (a3), .int (v_58)]) (rest := []) (cfix X) (k_X2_seek8_2 l G cy κ S _ x (v_46) (v_46.toInt) (v_50) (v_50.toInt) (a3) (a3_z) (v_58) (v_58.toInt) hO.1 ha_x rfl rfl hz_a3 rfl (by omega)) (cwS 5 X.2.2.2.1 gX2_seek_X2_seek rfl rfl rfl (by decide +kernel) ⟨Nat.le_of_ble_eq_true rfl, Nat.le_of_ble_eq_true rfl⟩) (pre_S X hw _) rfl rfl hl.1 rfl (lv_room (Nat.le_of_ble_eq_true rfl)) dX2_seek_63 ⟨Nat.le_of_ble_eq_true rfl, Nat.le_of_ble_eq_true rfl⟩) 0 0 (Nat.le_of_ble_eq_true rfl) (Nat.le_of_ble_eq_true rfl) (fun S_61 H locs hp hw hfr hnw => ?_)
        obtain ⟨hk_62, hp⟩ := hp
        have hO_63 : Ok eSK S S_61 := hO.call hk_62 (by decide +kernel)
        obtain ⟨sk_64, sk_65⟩ := hp
        refine lv_aload_n X.1 X.2.1 dX2_seek_66 rfl (lv_at hl 0 rfl) ?_
        refine lv_iload_n X.1 X.2.1 dX2_seek_67 rfl (lv_at hl 1 rfl) ?_
        refine lv_iconst (v := 1) X.1 X.2.1 dX2_seek_68 (by decide) ?_
        refine lv_iadd X.1 X.2.1 dX2_seek_69 ?_
        refine lv_topi (fun v_66 ev_66 => ?_)
        have z_67 : v_66.toInt = a1_z + 1 := z_add ev_66 hz_a1 ti_1 (by omega) (by omega)
        refine lv_iload_n X.1 X.2.1 dX2_seek_70 rfl (lv_at hl 2 rfl) ?_
        refine lv_iload_n X.1 X.2.1 dX2_seek_71 rfl (lv_at hl 3 rfl) ?_
        refine lv_aload_n X.1 X.2.1 dX2_seek_72 rfl (lv_at hl 0 rfl) ?_
        have t_68 : At S_61 x 2 := hk_62.fr.at ha_x
        obtain ⟨q_69, h_70, h_71, h_72⟩ := gQ_2_201 hO_63.1 t_68
        refine r_getR (g := 201) X hw t_68 rfl 1 h_70 (by decide) rfl inn_X2_seek_2 (by decide) (X.2.2.2.1 (.fieldLink RX2 15 "SilkMill$Mixer" "weights" "[I") (by decide +kernel)) rfl (gv_201 _ _) dX2_seek_73 ?_
        refine lv_iload_n X.1 X.2.1 dX2_seek_76 rfl (lv_at hl 1 rfl) ?_
        refine r_iald X hw h_71 rfl (by rw [h_72]; exact z_ix hz_a1 (by omega) (by omega)) dX2_seek_77 ?_
        refine lv_topi (fun v_73 ev_73 => ?_)
        have rg_74 := And.intro (z_lo v_73) (z_hi v_73)
        have ev_73 := ev_73.symm
        refine lv_isub X.1 X.2.1 dX2_seek_78 ?_
        refine lv_topi (fun v_75 ev_75 => ?_)
        have rg_76 := And.intro (z_lo v_75) (z_hi v_75)
        refine lv_iload X.1 X.2.1 dX2_seek_79 (lv_at hl 4 rfl) ?_
        refine k_v (rm := { frames := 3, cells := 0, slots := 0, locals := 144 }) (av := [.ref x, .int (v_66), .int (a2), .int (v_75), .int (a4)]) X hw (va_runS (As := [.ref x, .int (v_66), .int (a2), .int (v_75), .int (a4)]) (rest := []) (cfix X) (k_X2_seek8_2 l G cy κ S_61 _ x (v_66) (v_66.toInt) (a2) (a2_z) (v_75) (v_75.toInt) (a4) (a4_z) hO_63.1 t_68 rfl hz_a2 rfl hz_a4 (by omega)) (cwS 5 X.2.2.2.1 gX2_seek_X2_seek rfl rfl rfl (by decide +kernel) ⟨Nat.le_of_ble_eq_true rfl, Nat.le_of_ble_eq_true rfl⟩) (pre_S X hw _) rfl rfl hl.1 rfl (lv_room (Nat.le_of_ble_eq_true rfl)) dX2_seek_81 ⟨Nat.le_of_ble_eq_true rfl, Nat.le_of_ble_eq_true rfl⟩) 0 0 (Nat.le_of_ble_eq_true rfl) (Nat.le_of_ble_eq_true rfl) (fun S_78 H locs hp hw hfr hnw => ?_)
        obtain ⟨hk_79, hp⟩ := hp
        have hO_80 : Ok eSK S S_78 := hO_63.call hk_79 (by decide +kernel)
        obtain ⟨sk_81, sk_82⟩ := hp
        have hc_83 : ¬ (a3.toInt < (pI S 205 x).toInt ∨ (pI S 206 x).toInt ≤ a4.toInt) := by omega
        have hn_84 : ¬ (pI S 203 x).toInt ≤ ((11 : Nat) : Int) := by omega
        have ai_85 : a1 = Int32.ofNat 11 := Int32.toInt_inj.mp (hz_a1.trans (by rw [show a1_z = 11 by omega]; decide))
        have sx_89 : mA S x 202 11 = v_56 := by rw [mA_eq h_53, show 11 = Int32.toNatClampNeg a1 from (by rw [z_nc hz_a1 (by omega)]; omega)]; exact ev_56
        have eW_91 : mA S_61 x 201 = mA S x 201 := mA_frc hk_62.fr ha_x (ex3 (gQ_2_201 hG ha_x)) (by decide +kernel) (by decide +kernel)
        have eP_92 : mA S_61 x 202 = mA S x 202 := mA_frc hk_62.fr ha_x (ex3 (gQ_2_202 hG ha_x)) (by decide +kernel) (by decide +kernel)
        have e3_93 : pI S_61 203 x = pI S 203 x := hk_62.fr.I' (by decide +kernel) ha_x rfl
        have e5_94 : pI S_61 205 x = pI S 205 x := hk_62.fr.I' (by decide +kernel) ha_x rfl
        have sx_90 : mA S x 201 11 = v_73 := by rw [← eW_91, mA_eq h_70, show 11 = Int32.toNatClampNeg a1 from (by rw [z_nc hz_a1 (by omega)]; omega)]; exact ev_73
        have sx_86 : v_50 = a2 ||| ((1 : Int32) <<< (Int32.ofNat 11 &&& 31)) := by rw [ev_50, ev_48, ai_85]
        have sx_87 : v_58 = a4 + mA S x 202 11 := by rw [ev_58, sx_89]
        have sx_88 : v_75 = a3 - mA S x 201 11 := by rw [ev_75, sx_90]
        rw [sx_86, sx_87] at sk_64 sk_65
        rw [e3_93, eW_91, eP_92, e5_94, sx_88] at sk_81 sk_82
        have q_95 : (pI S_61 206 x, pI S_61 207 x) = (skF (pI S 203 x).toInt (mA S x 201) (mA S x 202) (pI S 205 x) 2 12 (a2 ||| ((1 : Int32) <<< (Int32.ofNat 11 &&& 31))) a3 (a4 + mA S x 202 11) (pI S 206 x, pI S 207 x)) := Prod.ext sk_64 sk_65
        have q_96 : (pI S_78 206 x, pI S_78 207 x) = skF (pI S 203 x).toInt (mA S x 201) (mA S x 202) (pI S 205 x) 2 12 a2 (a3 - mA S x 201 11) a4 (pI S_61 206 x, pI S_61 207 x) := Prod.ext sk_81 sk_82
        rw [q_95] at q_96
        have fi_97 : (pI S_78 206 x, pI S_78 207 x) = skF (pI S 203 x).toInt (mA S x 201) (mA S x 202) (pI S 205 x) 3 11 a2 a3 a4 (pI S 206 x, pI S 207 x) := q_96.trans (skF_s (n := 2) (i := 11) (b := (pI S 206 x, pI S 207 x)) hc_83 hn_84).symm
        exact ret_v X hw hr hlocks (Nat.le_of_ble_eq_true rfl) (Nat.le_of_ble_eq_true rfl) ⟨hO_80, ⟨congrArg Prod.fst fi_97, congrArg Prod.snd fi_97⟩⟩ dX2_seek_84
    · have z_b_98 := trivial
      have k_99 : a4_z ≥ v_8.toInt := z_nlt hz_a4 rfl c_25
      have hb_100 : a3.toInt < (pI S 205 x).toInt ∨ (pI S 206 x).toInt ≤ a4.toInt := by omega
      exact ret_v X hw hr hlocks (Nat.le_of_ble_eq_true rfl) (Nat.le_of_ble_eq_true rfl) ⟨hO, (by rw [skF_b (b := (pI S 206 x, pI S 207 x)) hb_100]; exact ⟨rfl, rfl⟩)⟩ dX2_seek_17
set_option maxHeartbeats 4000000 in
set_option maxRecDepth 100000 in
theorem k_X2_seek8_4 (l : Launch) (G : va_G) (cy : Nat → ClassId) (κ : Nat → Nat) (S : PS) (sz : Nat) (x : Nat) (a1 : Int32) (a1_z : Int) (a2 : Int32) (a2_z : Int) (a3 : Int32) (a3_z : Int) (a4 : Int32) (a4_z : Int) (hG : GX S) (ha_x : At S x 2) (hz_a1 : a1.toInt = a1_z) (hz_a2 : a2.toInt = a2_z) (hz_a3 : a3.toInt = a3_z) (hz_a4 : a4.toInt = a4_z) (hp_0 : a1_z = 10) : Cv l yX2_seek wsX2_seek ({ frames := 5, cells := 0, slots := 0, locals := 240 }) G cy κ S sz [.ref x, .int (a1), .int (a2), .int (a3), .int (a4)] (fun (S9 : PS) => Ok eSK S S9 ∧ (pI S9 206 x = (skF (pI S 203 x).toInt (mA S x 201) (mA S x 202) (pI S 205 x) 4 10 a2 a3 a4 (pI S 206 x, pI S 207 x)).1 ∧ pI S9 207 x = (skF (pI S 203 x).toInt (mA S x 201) (mA S x 202) (pI S 205 x) 4 10 a2 a3 a4 (pI S 206 x, pI S 207 x)).2)) := by
  refine ent_m (cc := cX2_seek) (maxL := 5) (ret := none) (by decide) rfl (Nat.le_of_ble_eq_true rfl) ?_
  intro p e s m below meth c ls X hr hlocks hin hw hl hsz
  subst hsz
  have X : Cx p c cX2_seek 5 s [.ref x, .int (a1), .int (a2), .int (a3), .int (a4)].toArray wsX2_seek RX2 m G cy κ (AS S s.heap.size) := X
  have hl : lv_has ls 5 [(0, .ref x), (1, .int (a1)), (2, .int (a2)), (3, .int (a3)), (4, .int (a4))] := hl
  have rg_a1 : (-2147483648) ≤ a1_z ∧ a1_z ≤ 2147483647 := by rw [← hz_a1]; exact ⟨z_lo _, z_hi _⟩
  have rg_a2 : (-2147483648) ≤ a2_z ∧ a2_z ≤ 2147483647 := by rw [← hz_a2]; exact ⟨z_lo _, z_hi _⟩
  have rg_a3 : (-2147483648) ≤ a3_z ∧ a3_z ≤ 2147483647 := by rw [← hz_a3]; exact ⟨z_lo _, z_hi _⟩
  have rg_a4 : (-2147483648) ≤ a4_z ∧ a4_z ≤ 2147483647 := by rw [← hz_a4]; exact ⟨z_lo _, z_hi _⟩
  have hO : Ok eSK S S := Ok.rf hG
  obtain ⟨v_1, ev_1⟩ : ∃ v, pI S 203 x = v := ⟨_, rfl⟩
  have rg_2 := gI_2_203 hO.1 ha_x; rw [ev_1] at rg_2
  have pz_3 : (pI S 203 x).toInt = v_1.toInt := by rw [ev_1]
  obtain ⟨v_4, ev_4⟩ : ∃ v, pI S 205 x = v := ⟨_, rfl⟩
  have rg_6 := And.intro (z_lo v_4) (z_hi v_4)
  have pz_7 : (pI S 205 x).toInt = v_4.toInt := by rw [ev_4]
  obtain ⟨v_8, ev_8⟩ : ∃ v, pI S 206 x = v := ⟨_, rfl⟩
  have rg_10 := And.intro (z_lo v_8) (z_hi v_8)
  have pz_11 : (pI S 206 x).toInt = v_8.toInt := by rw [ev_8]
  obtain ⟨v_12, ev_12⟩ : ∃ v, pI S 207 x = v := ⟨_, rfl⟩
  have rg_14 := And.intro (z_lo v_12) (z_hi v_12)
  have pz_15 : (pI S 207 x).toInt = v_12.toInt := by rw [ev_12]
  have pz_16 : (pI S 203 x).toInt = v_1.toInt := (congrArg Int32.toInt ev_1).trans rfl
  have pz_17 : (pI S 205 x).toInt = v_4.toInt := (congrArg Int32.toInt ev_4).trans rfl
  have pz_18 : (pI S 206 x).toInt = v_8.toInt := (congrArg Int32.toInt ev_8).trans rfl
  refine lv_iload_n X.1 X.2.1 dX2_seek_0 rfl (lv_at hl 3 rfl) ?_
  refine lv_aload_n X.1 X.2.1 dX2_seek_1 rfl (lv_at hl 0 rfl) ?_
  refine r_getI (g := 205) (x := v_4) X hw ha_x rfl 5 ev_4 (by decide) rfl inn_X2_seek_2 (by decide) (X.2.2.2.1 (.fieldLink RX2 28 "SilkMill$Mixer" "wanted" "I") (by decide +kernel)) rfl (gv_205 _ _) dX2_seek_2 ?_
  refine lv_icmp_lt (tgt := 17) X.1 X.2.1 dX2_seek_5 (by decide) (fun c_19 => ?_) (fun c_19 => ?_)
  · have z_b_20 := trivial
    have k_21 : a3_z < v_4.toInt := z_lt hz_a3 rfl c_19
    have hb_22 : a3.toInt < (pI S 205 x).toInt ∨ (pI S 206 x).toInt ≤ a4.toInt := by omega
    exact ret_v X hw hr hlocks (Nat.le_of_ble_eq_true rfl) (Nat.le_of_ble_eq_true rfl) ⟨hO, (by rw [skF_b (b := (pI S 206 x, pI S 207 x)) hb_22]; exact ⟨rfl, rfl⟩)⟩ dX2_seek_17
  · have z_b_23 := trivial
    have k_24 : a3_z ≥ v_4.toInt := z_nlt hz_a3 rfl c_19
    refine lv_iload X.1 X.2.1 dX2_seek_8 (lv_at hl 4 rfl) ?_
    refine lv_aload_n X.1 X.2.1 dX2_seek_10 rfl (lv_at hl 0 rfl) ?_
    refine r_getI (g := 206) (x := v_8) X hw ha_x rfl 6 ev_8 (by decide) rfl inn_X2_seek_2 (by decide) (X.2.2.2.1 (.fieldLink RX2 34 "SilkMill$Mixer" "bestPrice" "I") (by decide +kernel)) rfl (gv_206 _ _) dX2_seek_11 ?_
    refine lv_icmp_lt (tgt := 18) X.1 X.2.1 dX2_seek_14 (by decide) (fun c_25 => ?_) (fun c_25 => ?_)
    · have z_b_26 := trivial
      have k_27 : a4_z < v_8.toInt := z_lt hz_a4 rfl c_25
      refine lv_iload_n X.1 X.2.1 dX2_seek_18 rfl (lv_at hl 1 rfl) ?_
      refine lv_aload_n X.1 X.2.1 dX2_seek_19 rfl (lv_at hl 0 rfl) ?_
      refine r_getI (g := 203) (x := v_1) X hw ha_x rfl 3 ev_1 (by decide) rfl inn_X2_seek_2 (by decide) (X.2.2.2.1 (.fieldLink RX2 21 "SilkMill$Mixer" "size" "I") (by decide +kernel)) rfl (gv_203 _ _) dX2_seek_20 ?_
      refine lv_icmp_ge (tgt := 32) X.1 X.2.1 dX2_seek_23 (by decide) (fun c_28 => ?_) (fun c_28 => ?_)
      · have z_b_29 := trivial
        have k_30 : a1_z ≥ v_1.toInt := z_le rfl hz_a1 c_28
        refine lv_aload_n X.1 X.2.1 dX2_seek_32 rfl (lv_at hl 0 rfl) ?_
        refine lv_iload X.1 X.2.1 dX2_seek_33 (lv_at hl 4 rfl) ?_
        refine r_putI (v := a4) X hw ha_x rfl 6 206 tyX2 (by decide) rfl inn_X2_seek_2 tyX2_ok nmX2 (by decide) (X.2.2.2.1 (.fieldLink RX2 34 "SilkMill$Mixer" "bestPrice" "I") (by decide +kernel)) rfl (Or.inl rfl) rfl rfl (Nat.le_of_ble_eq_true rfl) (st_206 _ _) dX2_seek_35 (fun H locs hw => ?_)
        obtain ⟨S_31, eS_31⟩ : ∃ T, T = sI S 206 x (a4) := ⟨_, rfl⟩
        rw [← eS_31] at hw
        have hO_32 : Ok eSK S S_31 := hO.sI eS_31 (by decide +kernel) (uI_2_206 hO.1 ha_x)
        have h_33 : pI S_31 206 x = a4 := tI_sIs eS_31
        refine lv_aload_n X.1 X.2.1 dX2_seek_38 rfl (lv_at hl 0 rfl) ?_
        refine lv_iload_n X.1 X.2.1 dX2_seek_39 rfl (lv_at hl 2 rfl) ?_
        have t_34 : At S_31 x 2 := tAt_sI eS_31 ha_x
        refine r_putI (v := a2) X hw t_34 rfl 7 207 tyX2 (by decide) rfl inn_X2_seek_2 tyX2_ok nmX2 (by decide) (X.2.2.2.1 (.fieldLink RX2 37 "SilkMill$Mixer" "bestSet" "I") (by decide +kernel)) rfl (Or.inl rfl) rfl rfl (Nat.le_of_ble_eq_true rfl) (st_207 _ _) dX2_seek_40 (fun H locs hw => ?_)
        obtain ⟨S_35, eS_35⟩ : ∃ T, T = sI S_31 207 x (a2) := ⟨_, rfl⟩
        rw [← eS_35] at hw
        have hO_36 : Ok eSK S S_35 := hO_32.sI eS_35 (by decide +kernel) (uI_2_207 hO_32.1 t_34)
        have h_37 : pI S_35 207 x = a2 := tI_sIs eS_35
        have hc_38 : ¬ (a3.toInt < (pI S 205 x).toInt ∨ (pI S 206 x).toInt ≤ a4.toInt) := by omega
        have hl_39 := skF_l (N := (pI S 203 x).toInt) (W := mA S x 201) (P := mA S x 202) (n := 4) (i := 10) (set := a2) (b := (pI S 206 x, pI S 207 x)) hc_38 (Or.inr (show (pI S 203 x).toInt ≤ ((10 : Nat) : Int) by omega))
        have t_40 : pI S_35 206 x = a4 := tI_sI eS_35 rfl h_33
        exact ret_v X hw hr hlocks (Nat.le_of_ble_eq_true rfl) (Nat.le_of_ble_eq_true rfl) ⟨hO_36, ⟨(t_40).trans (congrArg Prod.fst hl_39).symm, (h_37).trans (congrArg Prod.snd hl_39).symm⟩⟩ dX2_seek_43
      · have z_b_41 := trivial
        have k_42 : a1_z < v_1.toInt := z_nle rfl hz_a1 c_28
        refine lv_iload_n X.1 X.2.1 dX2_seek_26 rfl (lv_at hl 1 rfl) ?_
        refine lv_bipush (v := 14) X.1 X.2.1 dX2_seek_27 (by decide) ?_
        refine lv_icmp_lt (tgt := 44) X.1 X.2.1 dX2_seek_29 (by decide) (fun c_43 => ?_) (fun c_43 => ?_)
        rotate_left
        · exfalso
          have k_44 : a1_z ≥ 14 := z_nlt hz_a1 ti_14 c_43
          omega
        have k_45 : a1_z < 14 := z_lt hz_a1 ti_14 c_43
        refine lv_aload_n X.1 X.2.1 dX2_seek_44 rfl (lv_at hl 0 rfl) ?_
        refine lv_iload_n X.1 X.2.1 dX2_seek_45 rfl (lv_at hl 1 rfl) ?_
        refine lv_iconst (v := 1) X.1 X.2.1 dX2_seek_46 (by decide) ?_
        refine lv_iadd X.1 X.2.1 dX2_seek_47 ?_
        refine lv_topi (fun v_46 ev_46 => ?_)
        have z_47 : v_46.toInt = a1_z + 1 := z_add ev_46 hz_a1 ti_1 (by omega) (by omega)
        refine lv_iload_n X.1 X.2.1 dX2_seek_48 rfl (lv_at hl 2 rfl) ?_
        refine lv_iconst (v := 1) X.1 X.2.1 dX2_seek_49 (by decide) ?_
        refine lv_iload_n X.1 X.2.1 dX2_seek_50 rfl (lv_at hl 1 rfl) ?_
        refine lv_ishl X.1 X.2.1 dX2_seek_51 ?_
        refine lv_topi (fun v_48 ev_48 => ?_)
        have rg_49 := And.intro (z_lo v_48) (z_hi v_48)
        refine lv_ior X.1 X.2.1 dX2_seek_52 ?_
        refine lv_topi (fun v_50 ev_50 => ?_)
        have rg_51 := And.intro (z_lo v_50) (z_hi v_50)
        refine lv_iload_n X.1 X.2.1 dX2_seek_53 rfl (lv_at hl 3 rfl) ?_
        refine lv_iload X.1 X.2.1 dX2_seek_54 (lv_at hl 4 rfl) ?_
        refine lv_aload_n X.1 X.2.1 dX2_seek_56 rfl (lv_at hl 0 rfl) ?_
        obtain ⟨q_52, h_53, h_54, h_55⟩ := gQ_2_202 hO.1 ha_x
        refine r_getR (g := 202) X hw ha_x rfl 2 h_53 (by decide) rfl inn_X2_seek_2 (by decide) (X.2.2.2.1 (.fieldLink RX2 18 "SilkMill$Mixer" "prices" "[I") (by decide +kernel)) rfl (gv_202 _ _) dX2_seek_57 ?_
        refine lv_iload_n X.1 X.2.1 dX2_seek_60 rfl (lv_at hl 1 rfl) ?_
        refine r_iald X hw h_54 rfl (by rw [h_55]; exact z_ix hz_a1 (by omega) (by omega)) dX2_seek_61 ?_
        refine lv_topi (fun v_56 ev_56 => ?_)
        have rg_57 := And.intro (z_lo v_56) (z_hi v_56)
        have ev_56 := ev_56.symm
        refine lv_iadd X.1 X.2.1 dX2_seek_62 ?_
        refine lv_topi (fun v_58 ev_58 => ?_)
        have rg_59 := And.intro (z_lo v_58) (z_hi v_58)
        refine k_v (rm := { frames := 4, cells := 0, slots := 0, locals := 192 }) (av := [.ref x, .int (v_46), .int (v_50), .int (a3), .int (v_58)]) X hw (va_runS (As := [.ref x, .int (v_46), .int (v_50), .int (a3), .int (v_58)]) (rest := []) (cfix X) (k_X2_seek8_3 l G cy κ S _ x (v_46) (v_46.toInt) (v_50) (v_50.toInt) (a3) (a3_z) (v_58) (v_58.toInt) hO.1 ha_x rfl rfl hz_a3 rfl (by omega)) (cwS 5 X.2.2.2.1 gX2_seek_X2_seek rfl rfl rfl (by decide +kernel) ⟨Nat.le_of_ble_eq_true rfl, Nat.le_of_ble_eq_true rfl⟩) (pre_S X hw _) rfl rfl hl.1 rfl (lv_room (Nat.le_of_ble_eq_true rfl)) dX2_seek_63 ⟨Nat.le_of_ble_eq_true rfl, Nat.le_of_ble_eq_true rfl⟩) 0 0 (Nat.le_of_ble_eq_true rfl) (Nat.le_of_ble_eq_true rfl) (fun S_61 H locs hp hw hfr hnw => ?_)
        obtain ⟨hk_62, hp⟩ := hp
        have hO_63 : Ok eSK S S_61 := hO.call hk_62 (by decide +kernel)
        obtain ⟨sk_64, sk_65⟩ := hp
        refine lv_aload_n X.1 X.2.1 dX2_seek_66 rfl (lv_at hl 0 rfl) ?_
        refine lv_iload_n X.1 X.2.1 dX2_seek_67 rfl (lv_at hl 1 rfl) ?_
        refine lv_iconst (v := 1) X.1 X.2.1 dX2_seek_68 (by decide) ?_
        refine lv_iadd X.1 X.2.1 dX2_seek_69 ?_
        refine lv_topi (fun v_66 ev_66 => ?_)
        have z_67 : v_66.toInt = a1_z + 1 := z_add ev_66 hz_a1 ti_1 (by omega) (by omega)
        refine lv_iload_n X.1 X.2.1 dX2_seek_70 rfl (lv_at hl 2 rfl) ?_
        refine lv_iload_n X.1 X.2.1 dX2_seek_71 rfl (lv_at hl 3 rfl) ?_
        refine lv_aload_n X.1 X.2.1 dX2_seek_72 rfl (lv_at hl 0 rfl) ?_
        have t_68 : At S_61 x 2 := hk_62.fr.at ha_x
        obtain ⟨q_69, h_70, h_71, h_72⟩ := gQ_2_201 hO_63.1 t_68
        refine r_getR (g := 201) X hw t_68 rfl 1 h_70 (by decide) rfl inn_X2_seek_2 (by decide) (X.2.2.2.1 (.fieldLink RX2 15 "SilkMill$Mixer" "weights" "[I") (by decide +kernel)) rfl (gv_201 _ _) dX2_seek_73 ?_
        refine lv_iload_n X.1 X.2.1 dX2_seek_76 rfl (lv_at hl 1 rfl) ?_
        refine r_iald X hw h_71 rfl (by rw [h_72]; exact z_ix hz_a1 (by omega) (by omega)) dX2_seek_77 ?_
        refine lv_topi (fun v_73 ev_73 => ?_)
        have rg_74 := And.intro (z_lo v_73) (z_hi v_73)
        have ev_73 := ev_73.symm
        refine lv_isub X.1 X.2.1 dX2_seek_78 ?_
        refine lv_topi (fun v_75 ev_75 => ?_)
        have rg_76 := And.intro (z_lo v_75) (z_hi v_75)
        refine lv_iload X.1 X.2.1 dX2_seek_79 (lv_at hl 4 rfl) ?_
        refine k_v (rm := { frames := 4, cells := 0, slots := 0, locals := 192 }) (av := [.ref x, .int (v_66), .int (a2), .int (v_75), .int (a4)]) X hw (va_runS (As := [.ref x, .int (v_66), .int (a2), .int (v_75), .int (a4)]) (rest := []) (cfix X) (k_X2_seek8_3 l G cy κ S_61 _ x (v_66) (v_66.toInt) (a2) (a2_z) (v_75) (v_75.toInt) (a4) (a4_z) hO_63.1 t_68 rfl hz_a2 rfl hz_a4 (by omega)) (cwS 5 X.2.2.2.1 gX2_seek_X2_seek rfl rfl rfl (by decide +kernel) ⟨Nat.le_of_ble_eq_true rfl, Nat.le_of_ble_eq_true rfl⟩) (pre_S X hw _) rfl rfl hl.1 rfl (lv_room (Nat.le_of_ble_eq_true rfl)) dX2_seek_81 ⟨Nat.le_of_ble_eq_true rfl, Nat.le_of_ble_eq_true rfl⟩) 0 0 (Nat.le_of_ble_eq_true rfl) (Nat.le_of_ble_eq_true rfl) (fun S_78 H locs hp hw hfr hnw => ?_)
        obtain ⟨hk_79, hp⟩ := hp
        have hO_80 : Ok eSK S S_78 := hO_63.call hk_79 (by decide +kernel)
        obtain ⟨sk_81, sk_82⟩ := hp
        have hc_83 : ¬ (a3.toInt < (pI S 205 x).toInt ∨ (pI S 206 x).toInt ≤ a4.toInt) := by omega
        have hn_84 : ¬ (pI S 203 x).toInt ≤ ((10 : Nat) : Int) := by omega
        have ai_85 : a1 = Int32.ofNat 10 := Int32.toInt_inj.mp (hz_a1.trans (by rw [show a1_z = 10 by omega]; decide))
        have sx_89 : mA S x 202 10 = v_56 := by rw [mA_eq h_53, show 10 = Int32.toNatClampNeg a1 from (by rw [z_nc hz_a1 (by omega)]; omega)]; exact ev_56
        have eW_91 : mA S_61 x 201 = mA S x 201 := mA_frc hk_62.fr ha_x (ex3 (gQ_2_201 hG ha_x)) (by decide +kernel) (by decide +kernel)
        have eP_92 : mA S_61 x 202 = mA S x 202 := mA_frc hk_62.fr ha_x (ex3 (gQ_2_202 hG ha_x)) (by decide +kernel) (by decide +kernel)
        have e3_93 : pI S_61 203 x = pI S 203 x := hk_62.fr.I' (by decide +kernel) ha_x rfl
        have e5_94 : pI S_61 205 x = pI S 205 x := hk_62.fr.I' (by decide +kernel) ha_x rfl
        have sx_90 : mA S x 201 10 = v_73 := by rw [← eW_91, mA_eq h_70, show 10 = Int32.toNatClampNeg a1 from (by rw [z_nc hz_a1 (by omega)]; omega)]; exact ev_73
        have sx_86 : v_50 = a2 ||| ((1 : Int32) <<< (Int32.ofNat 10 &&& 31)) := by rw [ev_50, ev_48, ai_85]
        have sx_87 : v_58 = a4 + mA S x 202 10 := by rw [ev_58, sx_89]
        have sx_88 : v_75 = a3 - mA S x 201 10 := by rw [ev_75, sx_90]
        rw [sx_86, sx_87] at sk_64 sk_65
        rw [e3_93, eW_91, eP_92, e5_94, sx_88] at sk_81 sk_82
        have q_95 : (pI S_61 206 x, pI S_61 207 x) = (skF (pI S 203 x).toInt (mA S x 201) (mA S x 202) (pI S 205 x) 3 11 (a2 ||| ((1 : Int32) <<< (Int32.ofNat 10 &&& 31))) a3 (a4 + mA S x 202 10) (pI S 206 x, pI S 207 x)) := Prod.ext sk_64 sk_65
        have q_96 : (pI S_78 206 x, pI S_78 207 x) = skF (pI S 203 x).toInt (mA S x 201) (mA S x 202) (pI S 205 x) 3 11 a2 (a3 - mA S x 201 10) a4 (pI S_61 206 x, pI S_61 207 x) := Prod.ext sk_81 sk_82
        rw [q_95] at q_96
        have fi_97 : (pI S_78 206 x, pI S_78 207 x) = skF (pI S 203 x).toInt (mA S x 201) (mA S x 202) (pI S 205 x) 4 10 a2 a3 a4 (pI S 206 x, pI S 207 x) := q_96.trans (skF_s (n := 3) (i := 10) (b := (pI S 206 x, pI S 207 x)) hc_83 hn_84).symm
        exact ret_v X hw hr hlocks (Nat.le_of_ble_eq_true rfl) (Nat.le_of_ble_eq_true rfl) ⟨hO_80, ⟨congrArg Prod.fst fi_97, congrArg Prod.snd fi_97⟩⟩ dX2_seek_84
    · have z_b_98 := trivial
      have k_99 : a4_z ≥ v_8.toInt := z_nlt hz_a4 rfl c_25
      have hb_100 : a3.toInt < (pI S 205 x).toInt ∨ (pI S 206 x).toInt ≤ a4.toInt := by omega
      exact ret_v X hw hr hlocks (Nat.le_of_ble_eq_true rfl) (Nat.le_of_ble_eq_true rfl) ⟨hO, (by rw [skF_b (b := (pI S 206 x, pI S 207 x)) hb_100]; exact ⟨rfl, rfl⟩)⟩ dX2_seek_17
set_option maxHeartbeats 4000000 in
set_option maxRecDepth 100000 in
theorem k_X2_seek8_5 (l : Launch) (G : va_G) (cy : Nat → ClassId) (κ : Nat → Nat) (S : PS) (sz : Nat) (x : Nat) (a1 : Int32) (a1_z : Int) (a2 : Int32) (a2_z : Int) (a3 : Int32) (a3_z : Int) (a4 : Int32) (a4_z : Int) (hG : GX S) (ha_x : At S x 2) (hz_a1 : a1.toInt = a1_z) (hz_a2 : a2.toInt = a2_z) (hz_a3 : a3.toInt = a3_z) (hz_a4 : a4.toInt = a4_z) (hp_0 : a1_z = 9) : Cv l yX2_seek wsX2_seek ({ frames := 6, cells := 0, slots := 0, locals := 288 }) G cy κ S sz [.ref x, .int (a1), .int (a2), .int (a3), .int (a4)] (fun (S9 : PS) => Ok eSK S S9 ∧ (pI S9 206 x = (skF (pI S 203 x).toInt (mA S x 201) (mA S x 202) (pI S 205 x) 5 9 a2 a3 a4 (pI S 206 x, pI S 207 x)).1 ∧ pI S9 207 x = (skF (pI S 203 x).toInt (mA S x 201) (mA S x 202) (pI S 205 x) 5 9 a2 a3 a4 (pI S 206 x, pI S 207 x)).2)) := by
  refine ent_m (cc := cX2_seek) (maxL := 5) (ret := none) (by decide) rfl (Nat.le_of_ble_eq_true rfl) ?_
  intro p e s m below meth c ls X hr hlocks hin hw hl hsz
  subst hsz
  have X : Cx p c cX2_seek 5 s [.ref x, .int (a1), .int (a2), .int (a3), .int (a4)].toArray wsX2_seek RX2 m G cy κ (AS S s.heap.size) := X
  have hl : lv_has ls 5 [(0, .ref x), (1, .int (a1)), (2, .int (a2)), (3, .int (a3)), (4, .int (a4))] := hl
  have rg_a1 : (-2147483648) ≤ a1_z ∧ a1_z ≤ 2147483647 := by rw [← hz_a1]; exact ⟨z_lo _, z_hi _⟩
  have rg_a2 : (-2147483648) ≤ a2_z ∧ a2_z ≤ 2147483647 := by rw [← hz_a2]; exact ⟨z_lo _, z_hi _⟩
  have rg_a3 : (-2147483648) ≤ a3_z ∧ a3_z ≤ 2147483647 := by rw [← hz_a3]; exact ⟨z_lo _, z_hi _⟩
  have rg_a4 : (-2147483648) ≤ a4_z ∧ a4_z ≤ 2147483647 := by rw [← hz_a4]; exact ⟨z_lo _, z_hi _⟩
  have hO : Ok eSK S S := Ok.rf hG
  obtain ⟨v_1, ev_1⟩ : ∃ v, pI S 203 x = v := ⟨_, rfl⟩
  have rg_2 := gI_2_203 hO.1 ha_x; rw [ev_1] at rg_2
  have pz_3 : (pI S 203 x).toInt = v_1.toInt := by rw [ev_1]
  obtain ⟨v_4, ev_4⟩ : ∃ v, pI S 205 x = v := ⟨_, rfl⟩
  have rg_6 := And.intro (z_lo v_4) (z_hi v_4)
  have pz_7 : (pI S 205 x).toInt = v_4.toInt := by rw [ev_4]
  obtain ⟨v_8, ev_8⟩ : ∃ v, pI S 206 x = v := ⟨_, rfl⟩
  have rg_10 := And.intro (z_lo v_8) (z_hi v_8)
  have pz_11 : (pI S 206 x).toInt = v_8.toInt := by rw [ev_8]
  obtain ⟨v_12, ev_12⟩ : ∃ v, pI S 207 x = v := ⟨_, rfl⟩
  have rg_14 := And.intro (z_lo v_12) (z_hi v_12)
  have pz_15 : (pI S 207 x).toInt = v_12.toInt := by rw [ev_12]
  have pz_16 : (pI S 203 x).toInt = v_1.toInt := (congrArg Int32.toInt ev_1).trans rfl
  have pz_17 : (pI S 205 x).toInt = v_4.toInt := (congrArg Int32.toInt ev_4).trans rfl
  have pz_18 : (pI S 206 x).toInt = v_8.toInt := (congrArg Int32.toInt ev_8).trans rfl
  refine lv_iload_n X.1 X.2.1 dX2_seek_0 rfl (lv_at hl 3 rfl) ?_
  refine lv_aload_n X.1 X.2.1 dX2_seek_1 rfl (lv_at hl 0 rfl) ?_
  refine r_getI (g := 205) (x := v_4) X hw ha_x rfl 5 ev_4 (by decide) rfl inn_X2_seek_2 (by decide) (X.2.2.2.1 (.fieldLink RX2 28 "SilkMill$Mixer" "wanted" "I") (by decide +kernel)) rfl (gv_205 _ _) dX2_seek_2 ?_
  refine lv_icmp_lt (tgt := 17) X.1 X.2.1 dX2_seek_5 (by decide) (fun c_19 => ?_) (fun c_19 => ?_)
  · have z_b_20 := trivial
    have k_21 : a3_z < v_4.toInt := z_lt hz_a3 rfl c_19
    have hb_22 : a3.toInt < (pI S 205 x).toInt ∨ (pI S 206 x).toInt ≤ a4.toInt := by omega
    exact ret_v X hw hr hlocks (Nat.le_of_ble_eq_true rfl) (Nat.le_of_ble_eq_true rfl) ⟨hO, (by rw [skF_b (b := (pI S 206 x, pI S 207 x)) hb_22]; exact ⟨rfl, rfl⟩)⟩ dX2_seek_17
  · have z_b_23 := trivial
    have k_24 : a3_z ≥ v_4.toInt := z_nlt hz_a3 rfl c_19
    refine lv_iload X.1 X.2.1 dX2_seek_8 (lv_at hl 4 rfl) ?_
    refine lv_aload_n X.1 X.2.1 dX2_seek_10 rfl (lv_at hl 0 rfl) ?_
    refine r_getI (g := 206) (x := v_8) X hw ha_x rfl 6 ev_8 (by decide) rfl inn_X2_seek_2 (by decide) (X.2.2.2.1 (.fieldLink RX2 34 "SilkMill$Mixer" "bestPrice" "I") (by decide +kernel)) rfl (gv_206 _ _) dX2_seek_11 ?_
    refine lv_icmp_lt (tgt := 18) X.1 X.2.1 dX2_seek_14 (by decide) (fun c_25 => ?_) (fun c_25 => ?_)
    · have z_b_26 := trivial
      have k_27 : a4_z < v_8.toInt := z_lt hz_a4 rfl c_25
      refine lv_iload_n X.1 X.2.1 dX2_seek_18 rfl (lv_at hl 1 rfl) ?_
      refine lv_aload_n X.1 X.2.1 dX2_seek_19 rfl (lv_at hl 0 rfl) ?_
      refine r_getI (g := 203) (x := v_1) X hw ha_x rfl 3 ev_1 (by decide) rfl inn_X2_seek_2 (by decide) (X.2.2.2.1 (.fieldLink RX2 21 "SilkMill$Mixer" "size" "I") (by decide +kernel)) rfl (gv_203 _ _) dX2_seek_20 ?_
      refine lv_icmp_ge (tgt := 32) X.1 X.2.1 dX2_seek_23 (by decide) (fun c_28 => ?_) (fun c_28 => ?_)
      · have z_b_29 := trivial
        have k_30 : a1_z ≥ v_1.toInt := z_le rfl hz_a1 c_28
        refine lv_aload_n X.1 X.2.1 dX2_seek_32 rfl (lv_at hl 0 rfl) ?_
        refine lv_iload X.1 X.2.1 dX2_seek_33 (lv_at hl 4 rfl) ?_
        refine r_putI (v := a4) X hw ha_x rfl 6 206 tyX2 (by decide) rfl inn_X2_seek_2 tyX2_ok nmX2 (by decide) (X.2.2.2.1 (.fieldLink RX2 34 "SilkMill$Mixer" "bestPrice" "I") (by decide +kernel)) rfl (Or.inl rfl) rfl rfl (Nat.le_of_ble_eq_true rfl) (st_206 _ _) dX2_seek_35 (fun H locs hw => ?_)
        obtain ⟨S_31, eS_31⟩ : ∃ T, T = sI S 206 x (a4) := ⟨_, rfl⟩
        rw [← eS_31] at hw
        have hO_32 : Ok eSK S S_31 := hO.sI eS_31 (by decide +kernel) (uI_2_206 hO.1 ha_x)
        have h_33 : pI S_31 206 x = a4 := tI_sIs eS_31
        refine lv_aload_n X.1 X.2.1 dX2_seek_38 rfl (lv_at hl 0 rfl) ?_
        refine lv_iload_n X.1 X.2.1 dX2_seek_39 rfl (lv_at hl 2 rfl) ?_
        have t_34 : At S_31 x 2 := tAt_sI eS_31 ha_x
        refine r_putI (v := a2) X hw t_34 rfl 7 207 tyX2 (by decide) rfl inn_X2_seek_2 tyX2_ok nmX2 (by decide) (X.2.2.2.1 (.fieldLink RX2 37 "SilkMill$Mixer" "bestSet" "I") (by decide +kernel)) rfl (Or.inl rfl) rfl rfl (Nat.le_of_ble_eq_true rfl) (st_207 _ _) dX2_seek_40 (fun H locs hw => ?_)
        obtain ⟨S_35, eS_35⟩ : ∃ T, T = sI S_31 207 x (a2) := ⟨_, rfl⟩
        rw [← eS_35] at hw
        have hO_36 : Ok eSK S S_35 := hO_32.sI eS_35 (by decide +kernel) (uI_2_207 hO_32.1 t_34)
        have h_37 : pI S_35 207 x = a2 := tI_sIs eS_35
        have hc_38 : ¬ (a3.toInt < (pI S 205 x).toInt ∨ (pI S 206 x).toInt ≤ a4.toInt) := by omega
        have hl_39 := skF_l (N := (pI S 203 x).toInt) (W := mA S x 201) (P := mA S x 202) (n := 5) (i := 9) (set := a2) (b := (pI S 206 x, pI S 207 x)) hc_38 (Or.inr (show (pI S 203 x).toInt ≤ ((9 : Nat) : Int) by omega))
        have t_40 : pI S_35 206 x = a4 := tI_sI eS_35 rfl h_33
        exact ret_v X hw hr hlocks (Nat.le_of_ble_eq_true rfl) (Nat.le_of_ble_eq_true rfl) ⟨hO_36, ⟨(t_40).trans (congrArg Prod.fst hl_39).symm, (h_37).trans (congrArg Prod.snd hl_39).symm⟩⟩ dX2_seek_43
      · have z_b_41 := trivial
        have k_42 : a1_z < v_1.toInt := z_nle rfl hz_a1 c_28
        refine lv_iload_n X.1 X.2.1 dX2_seek_26 rfl (lv_at hl 1 rfl) ?_
        refine lv_bipush (v := 14) X.1 X.2.1 dX2_seek_27 (by decide) ?_
        refine lv_icmp_lt (tgt := 44) X.1 X.2.1 dX2_seek_29 (by decide) (fun c_43 => ?_) (fun c_43 => ?_)
        rotate_left
        · exfalso
          have k_44 : a1_z ≥ 14 := z_nlt hz_a1 ti_14 c_43
          omega
        have k_45 : a1_z < 14 := z_lt hz_a1 ti_14 c_43
        refine lv_aload_n X.1 X.2.1 dX2_seek_44 rfl (lv_at hl 0 rfl) ?_
        refine lv_iload_n X.1 X.2.1 dX2_seek_45 rfl (lv_at hl 1 rfl) ?_
        refine lv_iconst (v := 1) X.1 X.2.1 dX2_seek_46 (by decide) ?_
        refine lv_iadd X.1 X.2.1 dX2_seek_47 ?_
        refine lv_topi (fun v_46 ev_46 => ?_)
        have z_47 : v_46.toInt = a1_z + 1 := z_add ev_46 hz_a1 ti_1 (by omega) (by omega)
        refine lv_iload_n X.1 X.2.1 dX2_seek_48 rfl (lv_at hl 2 rfl) ?_
        refine lv_iconst (v := 1) X.1 X.2.1 dX2_seek_49 (by decide) ?_
        refine lv_iload_n X.1 X.2.1 dX2_seek_50 rfl (lv_at hl 1 rfl) ?_
        refine lv_ishl X.1 X.2.1 dX2_seek_51 ?_
        refine lv_topi (fun v_48 ev_48 => ?_)
        have rg_49 := And.intro (z_lo v_48) (z_hi v_48)
        refine lv_ior X.1 X.2.1 dX2_seek_52 ?_
        refine lv_topi (fun v_50 ev_50 => ?_)
        have rg_51 := And.intro (z_lo v_50) (z_hi v_50)
        refine lv_iload_n X.1 X.2.1 dX2_seek_53 rfl (lv_at hl 3 rfl) ?_
        refine lv_iload X.1 X.2.1 dX2_seek_54 (lv_at hl 4 rfl) ?_
        refine lv_aload_n X.1 X.2.1 dX2_seek_56 rfl (lv_at hl 0 rfl) ?_
        obtain ⟨q_52, h_53, h_54, h_55⟩ := gQ_2_202 hO.1 ha_x
        refine r_getR (g := 202) X hw ha_x rfl 2 h_53 (by decide) rfl inn_X2_seek_2 (by decide) (X.2.2.2.1 (.fieldLink RX2 18 "SilkMill$Mixer" "prices" "[I") (by decide +kernel)) rfl (gv_202 _ _) dX2_seek_57 ?_
        refine lv_iload_n X.1 X.2.1 dX2_seek_60 rfl (lv_at hl 1 rfl) ?_
        refine r_iald X hw h_54 rfl (by rw [h_55]; exact z_ix hz_a1 (by omega) (by omega)) dX2_seek_61 ?_
        refine lv_topi (fun v_56 ev_56 => ?_)
        have rg_57 := And.intro (z_lo v_56) (z_hi v_56)
        have ev_56 := ev_56.symm
        refine lv_iadd X.1 X.2.1 dX2_seek_62 ?_
        refine lv_topi (fun v_58 ev_58 => ?_)
        have rg_59 := And.intro (z_lo v_58) (z_hi v_58)
        refine k_v (rm := { frames := 5, cells := 0, slots := 0, locals := 240 }) (av := [.ref x, .int (v_46), .int (v_50), .int (a3), .int (v_58)]) X hw (va_runS (As := [.ref x, .int (v_46), .int (v_50), .int (a3), .int (v_58)]) (rest := []) (cfix X) (k_X2_seek8_4 l G cy κ S _ x (v_46) (v_46.toInt) (v_50) (v_50.toInt) (a3) (a3_z) (v_58) (v_58.toInt) hO.1 ha_x rfl rfl hz_a3 rfl (by omega)) (cwS 5 X.2.2.2.1 gX2_seek_X2_seek rfl rfl rfl (by decide +kernel) ⟨Nat.le_of_ble_eq_true rfl, Nat.le_of_ble_eq_true rfl⟩) (pre_S X hw _) rfl rfl hl.1 rfl (lv_room (Nat.le_of_ble_eq_true rfl)) dX2_seek_63 ⟨Nat.le_of_ble_eq_true rfl, Nat.le_of_ble_eq_true rfl⟩) 0 0 (Nat.le_of_ble_eq_true rfl) (Nat.le_of_ble_eq_true rfl) (fun S_61 H locs hp hw hfr hnw => ?_)
        obtain ⟨hk_62, hp⟩ := hp
        have hO_63 : Ok eSK S S_61 := hO.call hk_62 (by decide +kernel)
        obtain ⟨sk_64, sk_65⟩ := hp
        refine lv_aload_n X.1 X.2.1 dX2_seek_66 rfl (lv_at hl 0 rfl) ?_
        refine lv_iload_n X.1 X.2.1 dX2_seek_67 rfl (lv_at hl 1 rfl) ?_
        refine lv_iconst (v := 1) X.1 X.2.1 dX2_seek_68 (by decide) ?_
        refine lv_iadd X.1 X.2.1 dX2_seek_69 ?_
        refine lv_topi (fun v_66 ev_66 => ?_)
        have z_67 : v_66.toInt = a1_z + 1 := z_add ev_66 hz_a1 ti_1 (by omega) (by omega)
        refine lv_iload_n X.1 X.2.1 dX2_seek_70 rfl (lv_at hl 2 rfl) ?_
        refine lv_iload_n X.1 X.2.1 dX2_seek_71 rfl (lv_at hl 3 rfl) ?_
        refine lv_aload_n X.1 X.2.1 dX2_seek_72 rfl (lv_at hl 0 rfl) ?_
        have t_68 : At S_61 x 2 := hk_62.fr.at ha_x
        obtain ⟨q_69, h_70, h_71, h_72⟩ := gQ_2_201 hO_63.1 t_68
        refine r_getR (g := 201) X hw t_68 rfl 1 h_70 (by decide) rfl inn_X2_seek_2 (by decide) (X.2.2.2.1 (.fieldLink RX2 15 "SilkMill$Mixer" "weights" "[I") (by decide +kernel)) rfl (gv_201 _ _) dX2_seek_73 ?_
        refine lv_iload_n X.1 X.2.1 dX2_seek_76 rfl (lv_at hl 1 rfl) ?_
        refine r_iald X hw h_71 rfl (by rw [h_72]; exact z_ix hz_a1 (by omega) (by omega)) dX2_seek_77 ?_
        refine lv_topi (fun v_73 ev_73 => ?_)
        have rg_74 := And.intro (z_lo v_73) (z_hi v_73)
        have ev_73 := ev_73.symm
        refine lv_isub X.1 X.2.1 dX2_seek_78 ?_
        refine lv_topi (fun v_75 ev_75 => ?_)
        have rg_76 := And.intro (z_lo v_75) (z_hi v_75)
        refine lv_iload X.1 X.2.1 dX2_seek_79 (lv_at hl 4 rfl) ?_
        refine k_v (rm := { frames := 5, cells := 0, slots := 0, locals := 240 }) (av := [.ref x, .int (v_66), .int (a2), .int (v_75), .int (a4)]) X hw (va_runS (As := [.ref x, .int (v_66), .int (a2), .int (v_75), .int (a4)]) (rest := []) (cfix X) (k_X2_seek8_4 l G cy κ S_61 _ x (v_66) (v_66.toInt) (a2) (a2_z) (v_75) (v_75.toInt) (a4) (a4_z) hO_63.1 t_68 rfl hz_a2 rfl hz_a4 (by omega)) (cwS 5 X.2.2.2.1 gX2_seek_X2_seek rfl rfl rfl (by decide +kernel) ⟨Nat.le_of_ble_eq_true rfl, Nat.le_of_ble_eq_true rfl⟩) (pre_S X hw _) rfl rfl hl.1 rfl (lv_room (Nat.le_of_ble_eq_true rfl)) dX2_seek_81 ⟨Nat.le_of_ble_eq_true rfl, Nat.le_of_ble_eq_true rfl⟩) 0 0 (Nat.le_of_ble_eq_true rfl) (Nat.le_of_ble_eq_true rfl) (fun S_78 H locs hp hw hfr hnw => ?_)
        obtain ⟨hk_79, hp⟩ := hp
        have hO_80 : Ok eSK S S_78 := hO_63.call hk_79 (by decide +kernel)
        obtain ⟨sk_81, sk_82⟩ := hp
        have hc_83 : ¬ (a3.toInt < (pI S 205 x).toInt ∨ (pI S 206 x).toInt ≤ a4.toInt) := by omega
        have hn_84 : ¬ (pI S 203 x).toInt ≤ ((9 : Nat) : Int) := by omega
        have ai_85 : a1 = Int32.ofNat 9 := Int32.toInt_inj.mp (hz_a1.trans (by rw [show a1_z = 9 by omega]; decide))
        have sx_89 : mA S x 202 9 = v_56 := by rw [mA_eq h_53, show 9 = Int32.toNatClampNeg a1 from (by rw [z_nc hz_a1 (by omega)]; omega)]; exact ev_56
        have eW_91 : mA S_61 x 201 = mA S x 201 := mA_frc hk_62.fr ha_x (ex3 (gQ_2_201 hG ha_x)) (by decide +kernel) (by decide +kernel)
        have eP_92 : mA S_61 x 202 = mA S x 202 := mA_frc hk_62.fr ha_x (ex3 (gQ_2_202 hG ha_x)) (by decide +kernel) (by decide +kernel)
        have e3_93 : pI S_61 203 x = pI S 203 x := hk_62.fr.I' (by decide +kernel) ha_x rfl
        have e5_94 : pI S_61 205 x = pI S 205 x := hk_62.fr.I' (by decide +kernel) ha_x rfl
        have sx_90 : mA S x 201 9 = v_73 := by rw [← eW_91, mA_eq h_70, show 9 = Int32.toNatClampNeg a1 from (by rw [z_nc hz_a1 (by omega)]; omega)]; exact ev_73
        have sx_86 : v_50 = a2 ||| ((1 : Int32) <<< (Int32.ofNat 9 &&& 31)) := by rw [ev_50, ev_48, ai_85]
        have sx_87 : v_58 = a4 + mA S x 202 9 := by rw [ev_58, sx_89]
        have sx_88 : v_75 = a3 - mA S x 201 9 := by rw [ev_75, sx_90]
        rw [sx_86, sx_87] at sk_64 sk_65
        rw [e3_93, eW_91, eP_92, e5_94, sx_88] at sk_81 sk_82
        have q_95 : (pI S_61 206 x, pI S_61 207 x) = (skF (pI S 203 x).toInt (mA S x 201) (mA S x 202) (pI S 205 x) 4 10 (a2 ||| ((1 : Int32) <<< (Int32.ofNat 9 &&& 31))) a3 (a4 + mA S x 202 9) (pI S 206 x, pI S 207 x)) := Prod.ext sk_64 sk_65
        have q_96 : (pI S_78 206 x, pI S_78 207 x) = skF (pI S 203 x).toInt (mA S x 201) (mA S x 202) (pI S 205 x) 4 10 a2 (a3 - mA S x 201 9) a4 (pI S_61 206 x, pI S_61 207 x) := Prod.ext sk_81 sk_82
        rw [q_95] at q_96
        have fi_97 : (pI S_78 206 x, pI S_78 207 x) = skF (pI S 203 x).toInt (mA S x 201) (mA S x 202) (pI S 205 x) 5 9 a2 a3 a4 (pI S 206 x, pI S 207 x) := q_96.trans (skF_s (n := 4) (i := 9) (b := (pI S 206 x, pI S 207 x)) hc_83 hn_84).symm
        exact ret_v X hw hr hlocks (Nat.le_of_ble_eq_true rfl) (Nat.le_of_ble_eq_true rfl) ⟨hO_80, ⟨congrArg Prod.fst fi_97, congrArg Prod.snd fi_97⟩⟩ dX2_seek_84
    · have z_b_98 := trivial
      have k_99 : a4_z ≥ v_8.toInt := z_nlt hz_a4 rfl c_25
      have hb_100 : a3.toInt < (pI S 205 x).toInt ∨ (pI S 206 x).toInt ≤ a4.toInt := by omega
      exact ret_v X hw hr hlocks (Nat.le_of_ble_eq_true rfl) (Nat.le_of_ble_eq_true rfl) ⟨hO, (by rw [skF_b (b := (pI S 206 x, pI S 207 x)) hb_100]; exact ⟨rfl, rfl⟩)⟩ dX2_seek_17
set_option maxHeartbeats 4000000 in
set_option maxRecDepth 100000 in
theorem k_X2_seek8_6 (l : Launch) (G : va_G) (cy : Nat → ClassId) (κ : Nat → Nat) (S : PS) (sz : Nat) (x : Nat) (a1 : Int32) (a1_z : Int) (a2 : Int32) (a2_z : Int) (a3 : Int32) (a3_z : Int) (a4 : Int32) (a4_z : Int) (hG : GX S) (ha_x : At S x 2) (hz_a1 : a1.toInt = a1_z) (hz_a2 : a2.toInt = a2_z) (hz_a3 : a3.toInt = a3_z) (hz_a4 : a4.toInt = a4_z) (hp_0 : a1_z = 8) : Cv l yX2_seek wsX2_seek ({ frames := 7, cells := 0, slots := 0, locals := 336 }) G cy κ S sz [.ref x, .int (a1), .int (a2), .int (a3), .int (a4)] (fun (S9 : PS) => Ok eSK S S9 ∧ (pI S9 206 x = (skF (pI S 203 x).toInt (mA S x 201) (mA S x 202) (pI S 205 x) 6 8 a2 a3 a4 (pI S 206 x, pI S 207 x)).1 ∧ pI S9 207 x = (skF (pI S 203 x).toInt (mA S x 201) (mA S x 202) (pI S 205 x) 6 8 a2 a3 a4 (pI S 206 x, pI S 207 x)).2)) := by
  refine ent_m (cc := cX2_seek) (maxL := 5) (ret := none) (by decide) rfl (Nat.le_of_ble_eq_true rfl) ?_
  intro p e s m below meth c ls X hr hlocks hin hw hl hsz
  subst hsz
  have X : Cx p c cX2_seek 5 s [.ref x, .int (a1), .int (a2), .int (a3), .int (a4)].toArray wsX2_seek RX2 m G cy κ (AS S s.heap.size) := X
  have hl : lv_has ls 5 [(0, .ref x), (1, .int (a1)), (2, .int (a2)), (3, .int (a3)), (4, .int (a4))] := hl
  have rg_a1 : (-2147483648) ≤ a1_z ∧ a1_z ≤ 2147483647 := by rw [← hz_a1]; exact ⟨z_lo _, z_hi _⟩
  have rg_a2 : (-2147483648) ≤ a2_z ∧ a2_z ≤ 2147483647 := by rw [← hz_a2]; exact ⟨z_lo _, z_hi _⟩
  have rg_a3 : (-2147483648) ≤ a3_z ∧ a3_z ≤ 2147483647 := by rw [← hz_a3]; exact ⟨z_lo _, z_hi _⟩
  have rg_a4 : (-2147483648) ≤ a4_z ∧ a4_z ≤ 2147483647 := by rw [← hz_a4]; exact ⟨z_lo _, z_hi _⟩
  have hO : Ok eSK S S := Ok.rf hG
  obtain ⟨v_1, ev_1⟩ : ∃ v, pI S 203 x = v := ⟨_, rfl⟩
  have rg_2 := gI_2_203 hO.1 ha_x; rw [ev_1] at rg_2
  have pz_3 : (pI S 203 x).toInt = v_1.toInt := by rw [ev_1]
  obtain ⟨v_4, ev_4⟩ : ∃ v, pI S 205 x = v := ⟨_, rfl⟩
  have rg_6 := And.intro (z_lo v_4) (z_hi v_4)
  have pz_7 : (pI S 205 x).toInt = v_4.toInt := by rw [ev_4]
  obtain ⟨v_8, ev_8⟩ : ∃ v, pI S 206 x = v := ⟨_, rfl⟩
  have rg_10 := And.intro (z_lo v_8) (z_hi v_8)
  have pz_11 : (pI S 206 x).toInt = v_8.toInt := by rw [ev_8]
  obtain ⟨v_12, ev_12⟩ : ∃ v, pI S 207 x = v := ⟨_, rfl⟩
  have rg_14 := And.intro (z_lo v_12) (z_hi v_12)
  have pz_15 : (pI S 207 x).toInt = v_12.toInt := by rw [ev_12]
  have pz_16 : (pI S 203 x).toInt = v_1.toInt := (congrArg Int32.toInt ev_1).trans rfl
  have pz_17 : (pI S 205 x).toInt = v_4.toInt := (congrArg Int32.toInt ev_4).trans rfl
  have pz_18 : (pI S 206 x).toInt = v_8.toInt := (congrArg Int32.toInt ev_8).trans rfl
  refine lv_iload_n X.1 X.2.1 dX2_seek_0 rfl (lv_at hl 3 rfl) ?_
  refine lv_aload_n X.1 X.2.1 dX2_seek_1 rfl (lv_at hl 0 rfl) ?_
  refine r_getI (g := 205) (x := v_4) X hw ha_x rfl 5 ev_4 (by decide) rfl inn_X2_seek_2 (by decide) (X.2.2.2.1 (.fieldLink RX2 28 "SilkMill$Mixer" "wanted" "I") (by decide +kernel)) rfl (gv_205 _ _) dX2_seek_2 ?_
  refine lv_icmp_lt (tgt := 17) X.1 X.2.1 dX2_seek_5 (by decide) (fun c_19 => ?_) (fun c_19 => ?_)
  · have z_b_20 := trivial
    have k_21 : a3_z < v_4.toInt := z_lt hz_a3 rfl c_19
    have hb_22 : a3.toInt < (pI S 205 x).toInt ∨ (pI S 206 x).toInt ≤ a4.toInt := by omega
    exact ret_v X hw hr hlocks (Nat.le_of_ble_eq_true rfl) (Nat.le_of_ble_eq_true rfl) ⟨hO, (by rw [skF_b (b := (pI S 206 x, pI S 207 x)) hb_22]; exact ⟨rfl, rfl⟩)⟩ dX2_seek_17
  · have z_b_23 := trivial
    have k_24 : a3_z ≥ v_4.toInt := z_nlt hz_a3 rfl c_19
    refine lv_iload X.1 X.2.1 dX2_seek_8 (lv_at hl 4 rfl) ?_
    refine lv_aload_n X.1 X.2.1 dX2_seek_10 rfl (lv_at hl 0 rfl) ?_
    refine r_getI (g := 206) (x := v_8) X hw ha_x rfl 6 ev_8 (by decide) rfl inn_X2_seek_2 (by decide) (X.2.2.2.1 (.fieldLink RX2 34 "SilkMill$Mixer" "bestPrice" "I") (by decide +kernel)) rfl (gv_206 _ _) dX2_seek_11 ?_
    refine lv_icmp_lt (tgt := 18) X.1 X.2.1 dX2_seek_14 (by decide) (fun c_25 => ?_) (fun c_25 => ?_)
    · have z_b_26 := trivial
      have k_27 : a4_z < v_8.toInt := z_lt hz_a4 rfl c_25
      refine lv_iload_n X.1 X.2.1 dX2_seek_18 rfl (lv_at hl 1 rfl) ?_
      refine lv_aload_n X.1 X.2.1 dX2_seek_19 rfl (lv_at hl 0 rfl) ?_
      refine r_getI (g := 203) (x := v_1) X hw ha_x rfl 3 ev_1 (by decide) rfl inn_X2_seek_2 (by decide) (X.2.2.2.1 (.fieldLink RX2 21 "SilkMill$Mixer" "size" "I") (by decide +kernel)) rfl (gv_203 _ _) dX2_seek_20 ?_
      refine lv_icmp_ge (tgt := 32) X.1 X.2.1 dX2_seek_23 (by decide) (fun c_28 => ?_) (fun c_28 => ?_)
      · have z_b_29 := trivial
        have k_30 : a1_z ≥ v_1.toInt := z_le rfl hz_a1 c_28
        refine lv_aload_n X.1 X.2.1 dX2_seek_32 rfl (lv_at hl 0 rfl) ?_
        refine lv_iload X.1 X.2.1 dX2_seek_33 (lv_at hl 4 rfl) ?_
        refine r_putI (v := a4) X hw ha_x rfl 6 206 tyX2 (by decide) rfl inn_X2_seek_2 tyX2_ok nmX2 (by decide) (X.2.2.2.1 (.fieldLink RX2 34 "SilkMill$Mixer" "bestPrice" "I") (by decide +kernel)) rfl (Or.inl rfl) rfl rfl (Nat.le_of_ble_eq_true rfl) (st_206 _ _) dX2_seek_35 (fun H locs hw => ?_)
        obtain ⟨S_31, eS_31⟩ : ∃ T, T = sI S 206 x (a4) := ⟨_, rfl⟩
        rw [← eS_31] at hw
        have hO_32 : Ok eSK S S_31 := hO.sI eS_31 (by decide +kernel) (uI_2_206 hO.1 ha_x)
        have h_33 : pI S_31 206 x = a4 := tI_sIs eS_31
        refine lv_aload_n X.1 X.2.1 dX2_seek_38 rfl (lv_at hl 0 rfl) ?_
        refine lv_iload_n X.1 X.2.1 dX2_seek_39 rfl (lv_at hl 2 rfl) ?_
        have t_34 : At S_31 x 2 := tAt_sI eS_31 ha_x
        refine r_putI (v := a2) X hw t_34 rfl 7 207 tyX2 (by decide) rfl inn_X2_seek_2 tyX2_ok nmX2 (by decide) (X.2.2.2.1 (.fieldLink RX2 37 "SilkMill$Mixer" "bestSet" "I") (by decide +kernel)) rfl (Or.inl rfl) rfl rfl (Nat.le_of_ble_eq_true rfl) (st_207 _ _) dX2_seek_40 (fun H locs hw => ?_)
        obtain ⟨S_35, eS_35⟩ : ∃ T, T = sI S_31 207 x (a2) := ⟨_, rfl⟩
        rw [← eS_35] at hw
        have hO_36 : Ok eSK S S_35 := hO_32.sI eS_35 (by decide +kernel) (uI_2_207 hO_32.1 t_34)
        have h_37 : pI S_35 207 x = a2 := tI_sIs eS_35
        have hc_38 : ¬ (a3.toInt < (pI S 205 x).toInt ∨ (pI S 206 x).toInt ≤ a4.toInt) := by omega
        have hl_39 := skF_l (N := (pI S 203 x).toInt) (W := mA S x 201) (P := mA S x 202) (n := 6) (i := 8) (set := a2) (b := (pI S 206 x, pI S 207 x)) hc_38 (Or.inr (show (pI S 203 x).toInt ≤ ((8 : Nat) : Int) by omega))
        have t_40 : pI S_35 206 x = a4 := tI_sI eS_35 rfl h_33
        exact ret_v X hw hr hlocks (Nat.le_of_ble_eq_true rfl) (Nat.le_of_ble_eq_true rfl) ⟨hO_36, ⟨(t_40).trans (congrArg Prod.fst hl_39).symm, (h_37).trans (congrArg Prod.snd hl_39).symm⟩⟩ dX2_seek_43
      · have z_b_41 := trivial
        have k_42 : a1_z < v_1.toInt := z_nle rfl hz_a1 c_28
        refine lv_iload_n X.1 X.2.1 dX2_seek_26 rfl (lv_at hl 1 rfl) ?_
        refine lv_bipush (v := 14) X.1 X.2.1 dX2_seek_27 (by decide) ?_
        refine lv_icmp_lt (tgt := 44) X.1 X.2.1 dX2_seek_29 (by decide) (fun c_43 => ?_) (fun c_43 => ?_)
        rotate_left
        · exfalso
          have k_44 : a1_z ≥ 14 := z_nlt hz_a1 ti_14 c_43
          omega
        have k_45 : a1_z < 14 := z_lt hz_a1 ti_14 c_43
        refine lv_aload_n X.1 X.2.1 dX2_seek_44 rfl (lv_at hl 0 rfl) ?_
        refine lv_iload_n X.1 X.2.1 dX2_seek_45 rfl (lv_at hl 1 rfl) ?_
        refine lv_iconst (v := 1) X.1 X.2.1 dX2_seek_46 (by decide) ?_
        refine lv_iadd X.1 X.2.1 dX2_seek_47 ?_
        refine lv_topi (fun v_46 ev_46 => ?_)
        have z_47 : v_46.toInt = a1_z + 1 := z_add ev_46 hz_a1 ti_1 (by omega) (by omega)
        refine lv_iload_n X.1 X.2.1 dX2_seek_48 rfl (lv_at hl 2 rfl) ?_
        refine lv_iconst (v := 1) X.1 X.2.1 dX2_seek_49 (by decide) ?_
        refine lv_iload_n X.1 X.2.1 dX2_seek_50 rfl (lv_at hl 1 rfl) ?_
        refine lv_ishl X.1 X.2.1 dX2_seek_51 ?_
        refine lv_topi (fun v_48 ev_48 => ?_)
        have rg_49 := And.intro (z_lo v_48) (z_hi v_48)
        refine lv_ior X.1 X.2.1 dX2_seek_52 ?_
        refine lv_topi (fun v_50 ev_50 => ?_)
        have rg_51 := And.intro (z_lo v_50) (z_hi v_50)
        refine lv_iload_n X.1 X.2.1 dX2_seek_53 rfl (lv_at hl 3 rfl) ?_
        refine lv_iload X.1 X.2.1 dX2_seek_54 (lv_at hl 4 rfl) ?_
        refine lv_aload_n X.1 X.2.1 dX2_seek_56 rfl (lv_at hl 0 rfl) ?_
        obtain ⟨q_52, h_53, h_54, h_55⟩ := gQ_2_202 hO.1 ha_x
        refine r_getR (g := 202) X hw ha_x rfl 2 h_53 (by decide) rfl inn_X2_seek_2 (by decide) (X.2.2.2.1 (.fieldLink RX2 18 "SilkMill$Mixer" "prices" "[I") (by decide +kernel)) rfl (gv_202 _ _) dX2_seek_57 ?_
        refine lv_iload_n X.1 X.2.1 dX2_seek_60 rfl (lv_at hl 1 rfl) ?_
        refine r_iald X hw h_54 rfl (by rw [h_55]; exact z_ix hz_a1 (by omega) (by omega)) dX2_seek_61 ?_
        refine lv_topi (fun v_56 ev_56 => ?_)
        have rg_57 := And.intro (z_lo v_56) (z_hi v_56)
        have ev_56 := ev_56.symm
        refine lv_iadd X.1 X.2.1 dX2_seek_62 ?_
        refine lv_topi (fun v_58 ev_58 => ?_)
        have rg_59 := And.intro (z_lo v_58) (z_hi v_58)
        refine k_v (rm := { frames := 6, cells := 0, slots := 0, locals := 288 }) (av := [.ref x, .int (v_46), .int (v_50), .int (a3), .int (v_58)]) X hw (va_runS (As := [.ref x, .int (v_46), .int (v_50), .int (a3), .int (v_58)]) (rest := []) (cfix X) (k_X2_seek8_5 l G cy κ S _ x (v_46) (v_46.toInt) (v_50) (v_50.toInt) (a3) (a3_z) (v_58) (v_58.toInt) hO.1 ha_x rfl rfl hz_a3 rfl (by omega)) (cwS 5 X.2.2.2.1 gX2_seek_X2_seek rfl rfl rfl (by decide +kernel) ⟨Nat.le_of_ble_eq_true rfl, Nat.le_of_ble_eq_true rfl⟩) (pre_S X hw _) rfl rfl hl.1 rfl (lv_room (Nat.le_of_ble_eq_true rfl)) dX2_seek_63 ⟨Nat.le_of_ble_eq_true rfl, Nat.le_of_ble_eq_true rfl⟩) 0 0 (Nat.le_of_ble_eq_true rfl) (Nat.le_of_ble_eq_true rfl) (fun S_61 H locs hp hw hfr hnw => ?_)
        obtain ⟨hk_62, hp⟩ := hp
        have hO_63 : Ok eSK S S_61 := hO.call hk_62 (by decide +kernel)
        obtain ⟨sk_64, sk_65⟩ := hp
        refine lv_aload_n X.1 X.2.1 dX2_seek_66 rfl (lv_at hl 0 rfl) ?_
        refine lv_iload_n X.1 X.2.1 dX2_seek_67 rfl (lv_at hl 1 rfl) ?_
        refine lv_iconst (v := 1) X.1 X.2.1 dX2_seek_68 (by decide) ?_
        refine lv_iadd X.1 X.2.1 dX2_seek_69 ?_
        refine lv_topi (fun v_66 ev_66 => ?_)
        have z_67 : v_66.toInt = a1_z + 1 := z_add ev_66 hz_a1 ti_1 (by omega) (by omega)
        refine lv_iload_n X.1 X.2.1 dX2_seek_70 rfl (lv_at hl 2 rfl) ?_
        refine lv_iload_n X.1 X.2.1 dX2_seek_71 rfl (lv_at hl 3 rfl) ?_
        refine lv_aload_n X.1 X.2.1 dX2_seek_72 rfl (lv_at hl 0 rfl) ?_
        have t_68 : At S_61 x 2 := hk_62.fr.at ha_x
        obtain ⟨q_69, h_70, h_71, h_72⟩ := gQ_2_201 hO_63.1 t_68
        refine r_getR (g := 201) X hw t_68 rfl 1 h_70 (by decide) rfl inn_X2_seek_2 (by decide) (X.2.2.2.1 (.fieldLink RX2 15 "SilkMill$Mixer" "weights" "[I") (by decide +kernel)) rfl (gv_201 _ _) dX2_seek_73 ?_
        refine lv_iload_n X.1 X.2.1 dX2_seek_76 rfl (lv_at hl 1 rfl) ?_
        refine r_iald X hw h_71 rfl (by rw [h_72]; exact z_ix hz_a1 (by omega) (by omega)) dX2_seek_77 ?_
        refine lv_topi (fun v_73 ev_73 => ?_)
        have rg_74 := And.intro (z_lo v_73) (z_hi v_73)
        have ev_73 := ev_73.symm
        refine lv_isub X.1 X.2.1 dX2_seek_78 ?_
        refine lv_topi (fun v_75 ev_75 => ?_)
        have rg_76 := And.intro (z_lo v_75) (z_hi v_75)
        refine lv_iload X.1 X.2.1 dX2_seek_79 (lv_at hl 4 rfl) ?_
        refine k_v (rm := { frames := 6, cells := 0, slots := 0, locals := 288 }) (av := [.ref x, .int (v_66), .int (a2), .int (v_75), .int (a4)]) X hw (va_runS (As := [.ref x, .int (v_66), .int (a2), .int (v_75), .int (a4)]) (rest := []) (cfix X) (k_X2_seek8_5 l G cy κ S_61 _ x (v_66) (v_66.toInt) (a2) (a2_z) (v_75) (v_75.toInt) (a4) (a4_z) hO_63.1 t_68 rfl hz_a2 rfl hz_a4 (by omega)) (cwS 5 X.2.2.2.1 gX2_seek_X2_seek rfl rfl rfl (by decide +kernel) ⟨Nat.le_of_ble_eq_true rfl, Nat.le_of_ble_eq_true rfl⟩) (pre_S X hw _) rfl rfl hl.1 rfl (lv_room (Nat.le_of_ble_eq_true rfl)) dX2_seek_81 ⟨Nat.le_of_ble_eq_true rfl, Nat.le_of_ble_eq_true rfl⟩) 0 0 (Nat.le_of_ble_eq_true rfl) (Nat.le_of_ble_eq_true rfl) (fun S_78 H locs hp hw hfr hnw => ?_)
        obtain ⟨hk_79, hp⟩ := hp
        have hO_80 : Ok eSK S S_78 := hO_63.call hk_79 (by decide +kernel)
        obtain ⟨sk_81, sk_82⟩ := hp
        have hc_83 : ¬ (a3.toInt < (pI S 205 x).toInt ∨ (pI S 206 x).toInt ≤ a4.toInt) := by omega
        have hn_84 : ¬ (pI S 203 x).toInt ≤ ((8 : Nat) : Int) := by omega
        have ai_85 : a1 = Int32.ofNat 8 := Int32.toInt_inj.mp (hz_a1.trans (by rw [show a1_z = 8 by omega]; decide))
        have sx_89 : mA S x 202 8 = v_56 := by rw [mA_eq h_53, show 8 = Int32.toNatClampNeg a1 from (by rw [z_nc hz_a1 (by omega)]; omega)]; exact ev_56
        have eW_91 : mA S_61 x 201 = mA S x 201 := mA_frc hk_62.fr ha_x (ex3 (gQ_2_201 hG ha_x)) (by decide +kernel) (by decide +kernel)
        have eP_92 : mA S_61 x 202 = mA S x 202 := mA_frc hk_62.fr ha_x (ex3 (gQ_2_202 hG ha_x)) (by decide +kernel) (by decide +kernel)
        have e3_93 : pI S_61 203 x = pI S 203 x := hk_62.fr.I' (by decide +kernel) ha_x rfl
        have e5_94 : pI S_61 205 x = pI S 205 x := hk_62.fr.I' (by decide +kernel) ha_x rfl
        have sx_90 : mA S x 201 8 = v_73 := by rw [← eW_91, mA_eq h_70, show 8 = Int32.toNatClampNeg a1 from (by rw [z_nc hz_a1 (by omega)]; omega)]; exact ev_73
        have sx_86 : v_50 = a2 ||| ((1 : Int32) <<< (Int32.ofNat 8 &&& 31)) := by rw [ev_50, ev_48, ai_85]
        have sx_87 : v_58 = a4 + mA S x 202 8 := by rw [ev_58, sx_89]
        have sx_88 : v_75 = a3 - mA S x 201 8 := by rw [ev_75, sx_90]
        rw [sx_86, sx_87] at sk_64 sk_65
        rw [e3_93, eW_91, eP_92, e5_94, sx_88] at sk_81 sk_82
        have q_95 : (pI S_61 206 x, pI S_61 207 x) = (skF (pI S 203 x).toInt (mA S x 201) (mA S x 202) (pI S 205 x) 5 9 (a2 ||| ((1 : Int32) <<< (Int32.ofNat 8 &&& 31))) a3 (a4 + mA S x 202 8) (pI S 206 x, pI S 207 x)) := Prod.ext sk_64 sk_65
        have q_96 : (pI S_78 206 x, pI S_78 207 x) = skF (pI S 203 x).toInt (mA S x 201) (mA S x 202) (pI S 205 x) 5 9 a2 (a3 - mA S x 201 8) a4 (pI S_61 206 x, pI S_61 207 x) := Prod.ext sk_81 sk_82
        rw [q_95] at q_96
        have fi_97 : (pI S_78 206 x, pI S_78 207 x) = skF (pI S 203 x).toInt (mA S x 201) (mA S x 202) (pI S 205 x) 6 8 a2 a3 a4 (pI S 206 x, pI S 207 x) := q_96.trans (skF_s (n := 5) (i := 8) (b := (pI S 206 x, pI S 207 x)) hc_83 hn_84).symm
        exact ret_v X hw hr hlocks (Nat.le_of_ble_eq_true rfl) (Nat.le_of_ble_eq_true rfl) ⟨hO_80, ⟨congrArg Prod.fst fi_97, congrArg Prod.snd fi_97⟩⟩ dX2_seek_84
    · have z_b_98 := trivial
      have k_99 : a4_z ≥ v_8.toInt := z_nlt hz_a4 rfl c_25
      have hb_100 : a3.toInt < (pI S 205 x).toInt ∨ (pI S 206 x).toInt ≤ a4.toInt := by omega
      exact ret_v X hw hr hlocks (Nat.le_of_ble_eq_true rfl) (Nat.le_of_ble_eq_true rfl) ⟨hO, (by rw [skF_b (b := (pI S 206 x, pI S 207 x)) hb_100]; exact ⟨rfl, rfl⟩)⟩ dX2_seek_17
set_option maxHeartbeats 4000000 in
set_option maxRecDepth 100000 in
theorem k_X2_seek8_7 (l : Launch) (G : va_G) (cy : Nat → ClassId) (κ : Nat → Nat) (S : PS) (sz : Nat) (x : Nat) (a1 : Int32) (a1_z : Int) (a2 : Int32) (a2_z : Int) (a3 : Int32) (a3_z : Int) (a4 : Int32) (a4_z : Int) (hG : GX S) (ha_x : At S x 2) (hz_a1 : a1.toInt = a1_z) (hz_a2 : a2.toInt = a2_z) (hz_a3 : a3.toInt = a3_z) (hz_a4 : a4.toInt = a4_z) (hp_0 : a1_z = 7) : Cv l yX2_seek wsX2_seek ({ frames := 8, cells := 0, slots := 0, locals := 384 }) G cy κ S sz [.ref x, .int (a1), .int (a2), .int (a3), .int (a4)] (fun (S9 : PS) => Ok eSK S S9 ∧ (pI S9 206 x = (skF (pI S 203 x).toInt (mA S x 201) (mA S x 202) (pI S 205 x) 7 7 a2 a3 a4 (pI S 206 x, pI S 207 x)).1 ∧ pI S9 207 x = (skF (pI S 203 x).toInt (mA S x 201) (mA S x 202) (pI S 205 x) 7 7 a2 a3 a4 (pI S 206 x, pI S 207 x)).2)) := by
  refine ent_m (cc := cX2_seek) (maxL := 5) (ret := none) (by decide) rfl (Nat.le_of_ble_eq_true rfl) ?_
  intro p e s m below meth c ls X hr hlocks hin hw hl hsz
  subst hsz
  have X : Cx p c cX2_seek 5 s [.ref x, .int (a1), .int (a2), .int (a3), .int (a4)].toArray wsX2_seek RX2 m G cy κ (AS S s.heap.size) := X
  have hl : lv_has ls 5 [(0, .ref x), (1, .int (a1)), (2, .int (a2)), (3, .int (a3)), (4, .int (a4))] := hl
  have rg_a1 : (-2147483648) ≤ a1_z ∧ a1_z ≤ 2147483647 := by rw [← hz_a1]; exact ⟨z_lo _, z_hi _⟩
  have rg_a2 : (-2147483648) ≤ a2_z ∧ a2_z ≤ 2147483647 := by rw [← hz_a2]; exact ⟨z_lo _, z_hi _⟩
  have rg_a3 : (-2147483648) ≤ a3_z ∧ a3_z ≤ 2147483647 := by rw [← hz_a3]; exact ⟨z_lo _, z_hi _⟩
  have rg_a4 : (-2147483648) ≤ a4_z ∧ a4_z ≤ 2147483647 := by rw [← hz_a4]; exact ⟨z_lo _, z_hi _⟩
  have hO : Ok eSK S S := Ok.rf hG
  obtain ⟨v_1, ev_1⟩ : ∃ v, pI S 203 x = v := ⟨_, rfl⟩
  have rg_2 := gI_2_203 hO.1 ha_x; rw [ev_1] at rg_2
  have pz_3 : (pI S 203 x).toInt = v_1.toInt := by rw [ev_1]
  obtain ⟨v_4, ev_4⟩ : ∃ v, pI S 205 x = v := ⟨_, rfl⟩
  have rg_6 := And.intro (z_lo v_4) (z_hi v_4)
  have pz_7 : (pI S 205 x).toInt = v_4.toInt := by rw [ev_4]
  obtain ⟨v_8, ev_8⟩ : ∃ v, pI S 206 x = v := ⟨_, rfl⟩
  have rg_10 := And.intro (z_lo v_8) (z_hi v_8)
  have pz_11 : (pI S 206 x).toInt = v_8.toInt := by rw [ev_8]
  obtain ⟨v_12, ev_12⟩ : ∃ v, pI S 207 x = v := ⟨_, rfl⟩
  have rg_14 := And.intro (z_lo v_12) (z_hi v_12)
  have pz_15 : (pI S 207 x).toInt = v_12.toInt := by rw [ev_12]
  have pz_16 : (pI S 203 x).toInt = v_1.toInt := (congrArg Int32.toInt ev_1).trans rfl
  have pz_17 : (pI S 205 x).toInt = v_4.toInt := (congrArg Int32.toInt ev_4).trans rfl
  have pz_18 : (pI S 206 x).toInt = v_8.toInt := (congrArg Int32.toInt ev_8).trans rfl
  refine lv_iload_n X.1 X.2.1 dX2_seek_0 rfl (lv_at hl 3 rfl) ?_
  refine lv_aload_n X.1 X.2.1 dX2_seek_1 rfl (lv_at hl 0 rfl) ?_
  refine r_getI (g := 205) (x := v_4) X hw ha_x rfl 5 ev_4 (by decide) rfl inn_X2_seek_2 (by decide) (X.2.2.2.1 (.fieldLink RX2 28 "SilkMill$Mixer" "wanted" "I") (by decide +kernel)) rfl (gv_205 _ _) dX2_seek_2 ?_
  refine lv_icmp_lt (tgt := 17) X.1 X.2.1 dX2_seek_5 (by decide) (fun c_19 => ?_) (fun c_19 => ?_)
  · have z_b_20 := trivial
    have k_21 : a3_z < v_4.toInt := z_lt hz_a3 rfl c_19
    have hb_22 : a3.toInt < (pI S 205 x).toInt ∨ (pI S 206 x).toInt ≤ a4.toInt := by omega
    exact ret_v X hw hr hlocks (Nat.le_of_ble_eq_true rfl) (Nat.le_of_ble_eq_true rfl) ⟨hO, (by rw [skF_b (b := (pI S 206 x, pI S 207 x)) hb_22]; exact ⟨rfl, rfl⟩)⟩ dX2_seek_17
  · have z_b_23 := trivial
    have k_24 : a3_z ≥ v_4.toInt := z_nlt hz_a3 rfl c_19
    refine lv_iload X.1 X.2.1 dX2_seek_8 (lv_at hl 4 rfl) ?_
    refine lv_aload_n X.1 X.2.1 dX2_seek_10 rfl (lv_at hl 0 rfl) ?_
    refine r_getI (g := 206) (x := v_8) X hw ha_x rfl 6 ev_8 (by decide) rfl inn_X2_seek_2 (by decide) (X.2.2.2.1 (.fieldLink RX2 34 "SilkMill$Mixer" "bestPrice" "I") (by decide +kernel)) rfl (gv_206 _ _) dX2_seek_11 ?_
    refine lv_icmp_lt (tgt := 18) X.1 X.2.1 dX2_seek_14 (by decide) (fun c_25 => ?_) (fun c_25 => ?_)
    · have z_b_26 := trivial
      have k_27 : a4_z < v_8.toInt := z_lt hz_a4 rfl c_25
      refine lv_iload_n X.1 X.2.1 dX2_seek_18 rfl (lv_at hl 1 rfl) ?_
      refine lv_aload_n X.1 X.2.1 dX2_seek_19 rfl (lv_at hl 0 rfl) ?_
      refine r_getI (g := 203) (x := v_1) X hw ha_x rfl 3 ev_1 (by decide) rfl inn_X2_seek_2 (by decide) (X.2.2.2.1 (.fieldLink RX2 21 "SilkMill$Mixer" "size" "I") (by decide +kernel)) rfl (gv_203 _ _) dX2_seek_20 ?_
      refine lv_icmp_ge (tgt := 32) X.1 X.2.1 dX2_seek_23 (by decide) (fun c_28 => ?_) (fun c_28 => ?_)
      · have z_b_29 := trivial
        have k_30 : a1_z ≥ v_1.toInt := z_le rfl hz_a1 c_28
        refine lv_aload_n X.1 X.2.1 dX2_seek_32 rfl (lv_at hl 0 rfl) ?_
        refine lv_iload X.1 X.2.1 dX2_seek_33 (lv_at hl 4 rfl) ?_
        refine r_putI (v := a4) X hw ha_x rfl 6 206 tyX2 (by decide) rfl inn_X2_seek_2 tyX2_ok nmX2 (by decide) (X.2.2.2.1 (.fieldLink RX2 34 "SilkMill$Mixer" "bestPrice" "I") (by decide +kernel)) rfl (Or.inl rfl) rfl rfl (Nat.le_of_ble_eq_true rfl) (st_206 _ _) dX2_seek_35 (fun H locs hw => ?_)
        obtain ⟨S_31, eS_31⟩ : ∃ T, T = sI S 206 x (a4) := ⟨_, rfl⟩
        rw [← eS_31] at hw
        have hO_32 : Ok eSK S S_31 := hO.sI eS_31 (by decide +kernel) (uI_2_206 hO.1 ha_x)
        have h_33 : pI S_31 206 x = a4 := tI_sIs eS_31
        refine lv_aload_n X.1 X.2.1 dX2_seek_38 rfl (lv_at hl 0 rfl) ?_
        refine lv_iload_n X.1 X.2.1 dX2_seek_39 rfl (lv_at hl 2 rfl) ?_
        have t_34 : At S_31 x 2 := tAt_sI eS_31 ha_x
        refine r_putI (v := a2) X hw t_34 rfl 7 207 tyX2 (by decide) rfl inn_X2_seek_2 tyX2_ok nmX2 (by decide) (X.2.2.2.1 (.fieldLink RX2 37 "SilkMill$Mixer" "bestSet" "I") (by decide +kernel)) rfl (Or.inl rfl) rfl rfl (Nat.le_of_ble_eq_true rfl) (st_207 _ _) dX2_seek_40 (fun H locs hw => ?_)
        obtain ⟨S_35, eS_35⟩ : ∃ T, T = sI S_31 207 x (a2) := ⟨_, rfl⟩
        rw [← eS_35] at hw
        have hO_36 : Ok eSK S S_35 := hO_32.sI eS_35 (by decide +kernel) (uI_2_207 hO_32.1 t_34)
        have h_37 : pI S_35 207 x = a2 := tI_sIs eS_35
        have hc_38 : ¬ (a3.toInt < (pI S 205 x).toInt ∨ (pI S 206 x).toInt ≤ a4.toInt) := by omega
        have hl_39 := skF_l (N := (pI S 203 x).toInt) (W := mA S x 201) (P := mA S x 202) (n := 7) (i := 7) (set := a2) (b := (pI S 206 x, pI S 207 x)) hc_38 (Or.inr (show (pI S 203 x).toInt ≤ ((7 : Nat) : Int) by omega))
        have t_40 : pI S_35 206 x = a4 := tI_sI eS_35 rfl h_33
        exact ret_v X hw hr hlocks (Nat.le_of_ble_eq_true rfl) (Nat.le_of_ble_eq_true rfl) ⟨hO_36, ⟨(t_40).trans (congrArg Prod.fst hl_39).symm, (h_37).trans (congrArg Prod.snd hl_39).symm⟩⟩ dX2_seek_43
      · have z_b_41 := trivial
        have k_42 : a1_z < v_1.toInt := z_nle rfl hz_a1 c_28
        refine lv_iload_n X.1 X.2.1 dX2_seek_26 rfl (lv_at hl 1 rfl) ?_
        refine lv_bipush (v := 14) X.1 X.2.1 dX2_seek_27 (by decide) ?_
        refine lv_icmp_lt (tgt := 44) X.1 X.2.1 dX2_seek_29 (by decide) (fun c_43 => ?_) (fun c_43 => ?_)
        rotate_left
        · exfalso
          have k_44 : a1_z ≥ 14 := z_nlt hz_a1 ti_14 c_43
          omega
        have k_45 : a1_z < 14 := z_lt hz_a1 ti_14 c_43
        refine lv_aload_n X.1 X.2.1 dX2_seek_44 rfl (lv_at hl 0 rfl) ?_
        refine lv_iload_n X.1 X.2.1 dX2_seek_45 rfl (lv_at hl 1 rfl) ?_
        refine lv_iconst (v := 1) X.1 X.2.1 dX2_seek_46 (by decide) ?_
        refine lv_iadd X.1 X.2.1 dX2_seek_47 ?_
        refine lv_topi (fun v_46 ev_46 => ?_)
        have z_47 : v_46.toInt = a1_z + 1 := z_add ev_46 hz_a1 ti_1 (by omega) (by omega)
        refine lv_iload_n X.1 X.2.1 dX2_seek_48 rfl (lv_at hl 2 rfl) ?_
        refine lv_iconst (v := 1) X.1 X.2.1 dX2_seek_49 (by decide) ?_
        refine lv_iload_n X.1 X.2.1 dX2_seek_50 rfl (lv_at hl 1 rfl) ?_
        refine lv_ishl X.1 X.2.1 dX2_seek_51 ?_
        refine lv_topi (fun v_48 ev_48 => ?_)
        have rg_49 := And.intro (z_lo v_48) (z_hi v_48)
        refine lv_ior X.1 X.2.1 dX2_seek_52 ?_
        refine lv_topi (fun v_50 ev_50 => ?_)
        have rg_51 := And.intro (z_lo v_50) (z_hi v_50)
        refine lv_iload_n X.1 X.2.1 dX2_seek_53 rfl (lv_at hl 3 rfl) ?_
        refine lv_iload X.1 X.2.1 dX2_seek_54 (lv_at hl 4 rfl) ?_
        refine lv_aload_n X.1 X.2.1 dX2_seek_56 rfl (lv_at hl 0 rfl) ?_
        obtain ⟨q_52, h_53, h_54, h_55⟩ := gQ_2_202 hO.1 ha_x
        refine r_getR (g := 202) X hw ha_x rfl 2 h_53 (by decide) rfl inn_X2_seek_2 (by decide) (X.2.2.2.1 (.fieldLink RX2 18 "SilkMill$Mixer" "prices" "[I") (by decide +kernel)) rfl (gv_202 _ _) dX2_seek_57 ?_
        refine lv_iload_n X.1 X.2.1 dX2_seek_60 rfl (lv_at hl 1 rfl) ?_
        refine r_iald X hw h_54 rfl (by rw [h_55]; exact z_ix hz_a1 (by omega) (by omega)) dX2_seek_61 ?_
        refine lv_topi (fun v_56 ev_56 => ?_)
        have rg_57 := And.intro (z_lo v_56) (z_hi v_56)
        have ev_56 := ev_56.symm
        refine lv_iadd X.1 X.2.1 dX2_seek_62 ?_
        refine lv_topi (fun v_58 ev_58 => ?_)
        have rg_59 := And.intro (z_lo v_58) (z_hi v_58)
        refine k_v (rm := { frames := 7, cells := 0, slots := 0, locals := 336 }) (av := [.ref x, .int (v_46), .int (v_50), .int (a3), .int (v_58)]) X hw (va_runS (As := [.ref x, .int (v_46), .int (v_50), .int (a3), .int (v_58)]) (rest := []) (cfix X) (k_X2_seek8_6 l G cy κ S _ x (v_46) (v_46.toInt) (v_50) (v_50.toInt) (a3) (a3_z) (v_58) (v_58.toInt) hO.1 ha_x rfl rfl hz_a3 rfl (by omega)) (cwS 5 X.2.2.2.1 gX2_seek_X2_seek rfl rfl rfl (by decide +kernel) ⟨Nat.le_of_ble_eq_true rfl, Nat.le_of_ble_eq_true rfl⟩) (pre_S X hw _) rfl rfl hl.1 rfl (lv_room (Nat.le_of_ble_eq_true rfl)) dX2_seek_63 ⟨Nat.le_of_ble_eq_true rfl, Nat.le_of_ble_eq_true rfl⟩) 0 0 (Nat.le_of_ble_eq_true rfl) (Nat.le_of_ble_eq_true rfl) (fun S_61 H locs hp hw hfr hnw => ?_)
        obtain ⟨hk_62, hp⟩ := hp
        have hO_63 : Ok eSK S S_61 := hO.call hk_62 (by decide +kernel)
        obtain ⟨sk_64, sk_65⟩ := hp
        refine lv_aload_n X.1 X.2.1 dX2_seek_66 rfl (lv_at hl 0 rfl) ?_
        refine lv_iload_n X.1 X.2.1 dX2_seek_67 rfl (lv_at hl 1 rfl) ?_
        refine lv_iconst (v := 1) X.1 X.2.1 dX2_seek_68 (by decide) ?_
        refine lv_iadd X.1 X.2.1 dX2_seek_69 ?_
        refine lv_topi (fun v_66 ev_66 => ?_)
        have z_67 : v_66.toInt = a1_z + 1 := z_add ev_66 hz_a1 ti_1 (by omega) (by omega)
        refine lv_iload_n X.1 X.2.1 dX2_seek_70 rfl (lv_at hl 2 rfl) ?_
        refine lv_iload_n X.1 X.2.1 dX2_seek_71 rfl (lv_at hl 3 rfl) ?_
        refine lv_aload_n X.1 X.2.1 dX2_seek_72 rfl (lv_at hl 0 rfl) ?_
        have t_68 : At S_61 x 2 := hk_62.fr.at ha_x
        obtain ⟨q_69, h_70, h_71, h_72⟩ := gQ_2_201 hO_63.1 t_68
        refine r_getR (g := 201) X hw t_68 rfl 1 h_70 (by decide) rfl inn_X2_seek_2 (by decide) (X.2.2.2.1 (.fieldLink RX2 15 "SilkMill$Mixer" "weights" "[I") (by decide +kernel)) rfl (gv_201 _ _) dX2_seek_73 ?_
        refine lv_iload_n X.1 X.2.1 dX2_seek_76 rfl (lv_at hl 1 rfl) ?_
        refine r_iald X hw h_71 rfl (by rw [h_72]; exact z_ix hz_a1 (by omega) (by omega)) dX2_seek_77 ?_
        refine lv_topi (fun v_73 ev_73 => ?_)
        have rg_74 := And.intro (z_lo v_73) (z_hi v_73)
        have ev_73 := ev_73.symm
        refine lv_isub X.1 X.2.1 dX2_seek_78 ?_
        refine lv_topi (fun v_75 ev_75 => ?_)
        have rg_76 := And.intro (z_lo v_75) (z_hi v_75)
        refine lv_iload X.1 X.2.1 dX2_seek_79 (lv_at hl 4 rfl) ?_
        refine k_v (rm := { frames := 7, cells := 0, slots := 0, locals := 336 }) (av := [.ref x, .int (v_66), .int (a2), .int (v_75), .int (a4)]) X hw (va_runS (As := [.ref x, .int (v_66), .int (a2), .int (v_75), .int (a4)]) (rest := []) (cfix X) (k_X2_seek8_6 l G cy κ S_61 _ x (v_66) (v_66.toInt) (a2) (a2_z) (v_75) (v_75.toInt) (a4) (a4_z) hO_63.1 t_68 rfl hz_a2 rfl hz_a4 (by omega)) (cwS 5 X.2.2.2.1 gX2_seek_X2_seek rfl rfl rfl (by decide +kernel) ⟨Nat.le_of_ble_eq_true rfl, Nat.le_of_ble_eq_true rfl⟩) (pre_S X hw _) rfl rfl hl.1 rfl (lv_room (Nat.le_of_ble_eq_true rfl)) dX2_seek_81 ⟨Nat.le_of_ble_eq_true rfl, Nat.le_of_ble_eq_true rfl⟩) 0 0 (Nat.le_of_ble_eq_true rfl) (Nat.le_of_ble_eq_true rfl) (fun S_78 H locs hp hw hfr hnw => ?_)
        obtain ⟨hk_79, hp⟩ := hp
        have hO_80 : Ok eSK S S_78 := hO_63.call hk_79 (by decide +kernel)
        obtain ⟨sk_81, sk_82⟩ := hp
        have hc_83 : ¬ (a3.toInt < (pI S 205 x).toInt ∨ (pI S 206 x).toInt ≤ a4.toInt) := by omega
        have hn_84 : ¬ (pI S 203 x).toInt ≤ ((7 : Nat) : Int) := by omega
        have ai_85 : a1 = Int32.ofNat 7 := Int32.toInt_inj.mp (hz_a1.trans (by rw [show a1_z = 7 by omega]; decide))
        have sx_89 : mA S x 202 7 = v_56 := by rw [mA_eq h_53, show 7 = Int32.toNatClampNeg a1 from (by rw [z_nc hz_a1 (by omega)]; omega)]; exact ev_56
        have eW_91 : mA S_61 x 201 = mA S x 201 := mA_frc hk_62.fr ha_x (ex3 (gQ_2_201 hG ha_x)) (by decide +kernel) (by decide +kernel)
        have eP_92 : mA S_61 x 202 = mA S x 202 := mA_frc hk_62.fr ha_x (ex3 (gQ_2_202 hG ha_x)) (by decide +kernel) (by decide +kernel)
        have e3_93 : pI S_61 203 x = pI S 203 x := hk_62.fr.I' (by decide +kernel) ha_x rfl
        have e5_94 : pI S_61 205 x = pI S 205 x := hk_62.fr.I' (by decide +kernel) ha_x rfl
        have sx_90 : mA S x 201 7 = v_73 := by rw [← eW_91, mA_eq h_70, show 7 = Int32.toNatClampNeg a1 from (by rw [z_nc hz_a1 (by omega)]; omega)]; exact ev_73
        have sx_86 : v_50 = a2 ||| ((1 : Int32) <<< (Int32.ofNat 7 &&& 31)) := by rw [ev_50, ev_48, ai_85]
        have sx_87 : v_58 = a4 + mA S x 202 7 := by rw [ev_58, sx_89]
        have sx_88 : v_75 = a3 - mA S x 201 7 := by rw [ev_75, sx_90]
        rw [sx_86, sx_87] at sk_64 sk_65
        rw [e3_93, eW_91, eP_92, e5_94, sx_88] at sk_81 sk_82
        have q_95 : (pI S_61 206 x, pI S_61 207 x) = (skF (pI S 203 x).toInt (mA S x 201) (mA S x 202) (pI S 205 x) 6 8 (a2 ||| ((1 : Int32) <<< (Int32.ofNat 7 &&& 31))) a3 (a4 + mA S x 202 7) (pI S 206 x, pI S 207 x)) := Prod.ext sk_64 sk_65
        have q_96 : (pI S_78 206 x, pI S_78 207 x) = skF (pI S 203 x).toInt (mA S x 201) (mA S x 202) (pI S 205 x) 6 8 a2 (a3 - mA S x 201 7) a4 (pI S_61 206 x, pI S_61 207 x) := Prod.ext sk_81 sk_82
        rw [q_95] at q_96
        have fi_97 : (pI S_78 206 x, pI S_78 207 x) = skF (pI S 203 x).toInt (mA S x 201) (mA S x 202) (pI S 205 x) 7 7 a2 a3 a4 (pI S 206 x, pI S 207 x) := q_96.trans (skF_s (n := 6) (i := 7) (b := (pI S 206 x, pI S 207 x)) hc_83 hn_84).symm
        exact ret_v X hw hr hlocks (Nat.le_of_ble_eq_true rfl) (Nat.le_of_ble_eq_true rfl) ⟨hO_80, ⟨congrArg Prod.fst fi_97, congrArg Prod.snd fi_97⟩⟩ dX2_seek_84
    · have z_b_98 := trivial
      have k_99 : a4_z ≥ v_8.toInt := z_nlt hz_a4 rfl c_25
      have hb_100 : a3.toInt < (pI S 205 x).toInt ∨ (pI S 206 x).toInt ≤ a4.toInt := by omega
      exact ret_v X hw hr hlocks (Nat.le_of_ble_eq_true rfl) (Nat.le_of_ble_eq_true rfl) ⟨hO, (by rw [skF_b (b := (pI S 206 x, pI S 207 x)) hb_100]; exact ⟨rfl, rfl⟩)⟩ dX2_seek_17
set_option maxHeartbeats 4000000 in
set_option maxRecDepth 100000 in
theorem k_X2_seek8_8 (l : Launch) (G : va_G) (cy : Nat → ClassId) (κ : Nat → Nat) (S : PS) (sz : Nat) (x : Nat) (a1 : Int32) (a1_z : Int) (a2 : Int32) (a2_z : Int) (a3 : Int32) (a3_z : Int) (a4 : Int32) (a4_z : Int) (hG : GX S) (ha_x : At S x 2) (hz_a1 : a1.toInt = a1_z) (hz_a2 : a2.toInt = a2_z) (hz_a3 : a3.toInt = a3_z) (hz_a4 : a4.toInt = a4_z) (hp_0 : a1_z = 6) : Cv l yX2_seek wsX2_seek ({ frames := 9, cells := 0, slots := 0, locals := 432 }) G cy κ S sz [.ref x, .int (a1), .int (a2), .int (a3), .int (a4)] (fun (S9 : PS) => Ok eSK S S9 ∧ (pI S9 206 x = (skF (pI S 203 x).toInt (mA S x 201) (mA S x 202) (pI S 205 x) 8 6 a2 a3 a4 (pI S 206 x, pI S 207 x)).1 ∧ pI S9 207 x = (skF (pI S 203 x).toInt (mA S x 201) (mA S x 202) (pI S 205 x) 8 6 a2 a3 a4 (pI S 206 x, pI S 207 x)).2)) := by
  refine ent_m (cc := cX2_seek) (maxL := 5) (ret := none) (by decide) rfl (Nat.le_of_ble_eq_true rfl) ?_
  intro p e s m below meth c ls X hr hlocks hin hw hl hsz
  subst hsz
  have X : Cx p c cX2_seek 5 s [.ref x, .int (a1), .int (a2), .int (a3), .int (a4)].toArray wsX2_seek RX2 m G cy κ (AS S s.heap.size) := X
  have hl : lv_has ls 5 [(0, .ref x), (1, .int (a1)), (2, .int (a2)), (3, .int (a3)), (4, .int (a4))] := hl
  have rg_a1 : (-2147483648) ≤ a1_z ∧ a1_z ≤ 2147483647 := by rw [← hz_a1]; exact ⟨z_lo _, z_hi _⟩
  have rg_a2 : (-2147483648) ≤ a2_z ∧ a2_z ≤ 2147483647 := by rw [← hz_a2]; exact ⟨z_lo _, z_hi _⟩
  have rg_a3 : (-2147483648) ≤ a3_z ∧ a3_z ≤ 2147483647 := by rw [← hz_a3]; exact ⟨z_lo _, z_hi _⟩
  have rg_a4 : (-2147483648) ≤ a4_z ∧ a4_z ≤ 2147483647 := by rw [← hz_a4]; exact ⟨z_lo _, z_hi _⟩
  have hO : Ok eSK S S := Ok.rf hG
  obtain ⟨v_1, ev_1⟩ : ∃ v, pI S 203 x = v := ⟨_, rfl⟩
  have rg_2 := gI_2_203 hO.1 ha_x; rw [ev_1] at rg_2
  have pz_3 : (pI S 203 x).toInt = v_1.toInt := by rw [ev_1]
  obtain ⟨v_4, ev_4⟩ : ∃ v, pI S 205 x = v := ⟨_, rfl⟩
  have rg_6 := And.intro (z_lo v_4) (z_hi v_4)
  have pz_7 : (pI S 205 x).toInt = v_4.toInt := by rw [ev_4]
  obtain ⟨v_8, ev_8⟩ : ∃ v, pI S 206 x = v := ⟨_, rfl⟩
  have rg_10 := And.intro (z_lo v_8) (z_hi v_8)
  have pz_11 : (pI S 206 x).toInt = v_8.toInt := by rw [ev_8]
  obtain ⟨v_12, ev_12⟩ : ∃ v, pI S 207 x = v := ⟨_, rfl⟩
  have rg_14 := And.intro (z_lo v_12) (z_hi v_12)
  have pz_15 : (pI S 207 x).toInt = v_12.toInt := by rw [ev_12]
  have pz_16 : (pI S 203 x).toInt = v_1.toInt := (congrArg Int32.toInt ev_1).trans rfl
  have pz_17 : (pI S 205 x).toInt = v_4.toInt := (congrArg Int32.toInt ev_4).trans rfl
  have pz_18 : (pI S 206 x).toInt = v_8.toInt := (congrArg Int32.toInt ev_8).trans rfl
  refine lv_iload_n X.1 X.2.1 dX2_seek_0 rfl (lv_at hl 3 rfl) ?_
  refine lv_aload_n X.1 X.2.1 dX2_seek_1 rfl (lv_at hl 0 rfl) ?_
  refine r_getI (g := 205) (x := v_4) X hw ha_x rfl 5 ev_4 (by decide) rfl inn_X2_seek_2 (by decide) (X.2.2.2.1 (.fieldLink RX2 28 "SilkMill$Mixer" "wanted" "I") (by decide +kernel)) rfl (gv_205 _ _) dX2_seek_2 ?_
  refine lv_icmp_lt (tgt := 17) X.1 X.2.1 dX2_seek_5 (by decide) (fun c_19 => ?_) (fun c_19 => ?_)
  · have z_b_20 := trivial
    have k_21 : a3_z < v_4.toInt := z_lt hz_a3 rfl c_19
    have hb_22 : a3.toInt < (pI S 205 x).toInt ∨ (pI S 206 x).toInt ≤ a4.toInt := by omega
    exact ret_v X hw hr hlocks (Nat.le_of_ble_eq_true rfl) (Nat.le_of_ble_eq_true rfl) ⟨hO, (by rw [skF_b (b := (pI S 206 x, pI S 207 x)) hb_22]; exact ⟨rfl, rfl⟩)⟩ dX2_seek_17
  · have z_b_23 := trivial
    have k_24 : a3_z ≥ v_4.toInt := z_nlt hz_a3 rfl c_19
    refine lv_iload X.1 X.2.1 dX2_seek_8 (lv_at hl 4 rfl) ?_
    refine lv_aload_n X.1 X.2.1 dX2_seek_10 rfl (lv_at hl 0 rfl) ?_
    refine r_getI (g := 206) (x := v_8) X hw ha_x rfl 6 ev_8 (by decide) rfl inn_X2_seek_2 (by decide) (X.2.2.2.1 (.fieldLink RX2 34 "SilkMill$Mixer" "bestPrice" "I") (by decide +kernel)) rfl (gv_206 _ _) dX2_seek_11 ?_
    refine lv_icmp_lt (tgt := 18) X.1 X.2.1 dX2_seek_14 (by decide) (fun c_25 => ?_) (fun c_25 => ?_)
    · have z_b_26 := trivial
      have k_27 : a4_z < v_8.toInt := z_lt hz_a4 rfl c_25
      refine lv_iload_n X.1 X.2.1 dX2_seek_18 rfl (lv_at hl 1 rfl) ?_
      refine lv_aload_n X.1 X.2.1 dX2_seek_19 rfl (lv_at hl 0 rfl) ?_
      refine r_getI (g := 203) (x := v_1) X hw ha_x rfl 3 ev_1 (by decide) rfl inn_X2_seek_2 (by decide) (X.2.2.2.1 (.fieldLink RX2 21 "SilkMill$Mixer" "size" "I") (by decide +kernel)) rfl (gv_203 _ _) dX2_seek_20 ?_
      refine lv_icmp_ge (tgt := 32) X.1 X.2.1 dX2_seek_23 (by decide) (fun c_28 => ?_) (fun c_28 => ?_)
      · have z_b_29 := trivial
        have k_30 : a1_z ≥ v_1.toInt := z_le rfl hz_a1 c_28
        refine lv_aload_n X.1 X.2.1 dX2_seek_32 rfl (lv_at hl 0 rfl) ?_
        refine lv_iload X.1 X.2.1 dX2_seek_33 (lv_at hl 4 rfl) ?_
        refine r_putI (v := a4) X hw ha_x rfl 6 206 tyX2 (by decide) rfl inn_X2_seek_2 tyX2_ok nmX2 (by decide) (X.2.2.2.1 (.fieldLink RX2 34 "SilkMill$Mixer" "bestPrice" "I") (by decide +kernel)) rfl (Or.inl rfl) rfl rfl (Nat.le_of_ble_eq_true rfl) (st_206 _ _) dX2_seek_35 (fun H locs hw => ?_)
        obtain ⟨S_31, eS_31⟩ : ∃ T, T = sI S 206 x (a4) := ⟨_, rfl⟩
        rw [← eS_31] at hw
        have hO_32 : Ok eSK S S_31 := hO.sI eS_31 (by decide +kernel) (uI_2_206 hO.1 ha_x)
        have h_33 : pI S_31 206 x = a4 := tI_sIs eS_31
        refine lv_aload_n X.1 X.2.1 dX2_seek_38 rfl (lv_at hl 0 rfl) ?_
        refine lv_iload_n X.1 X.2.1 dX2_seek_39 rfl (lv_at hl 2 rfl) ?_
        have t_34 : At S_31 x 2 := tAt_sI eS_31 ha_x
        refine r_putI (v := a2) X hw t_34 rfl 7 207 tyX2 (by decide) rfl inn_X2_seek_2 tyX2_ok nmX2 (by decide) (X.2.2.2.1 (.fieldLink RX2 37 "SilkMill$Mixer" "bestSet" "I") (by decide +kernel)) rfl (Or.inl rfl) rfl rfl (Nat.le_of_ble_eq_true rfl) (st_207 _ _) dX2_seek_40 (fun H locs hw => ?_)
        obtain ⟨S_35, eS_35⟩ : ∃ T, T = sI S_31 207 x (a2) := ⟨_, rfl⟩
        rw [← eS_35] at hw
        have hO_36 : Ok eSK S S_35 := hO_32.sI eS_35 (by decide +kernel) (uI_2_207 hO_32.1 t_34)
        have h_37 : pI S_35 207 x = a2 := tI_sIs eS_35
        have hc_38 : ¬ (a3.toInt < (pI S 205 x).toInt ∨ (pI S 206 x).toInt ≤ a4.toInt) := by omega
        have hl_39 := skF_l (N := (pI S 203 x).toInt) (W := mA S x 201) (P := mA S x 202) (n := 8) (i := 6) (set := a2) (b := (pI S 206 x, pI S 207 x)) hc_38 (Or.inr (show (pI S 203 x).toInt ≤ ((6 : Nat) : Int) by omega))
        have t_40 : pI S_35 206 x = a4 := tI_sI eS_35 rfl h_33
        exact ret_v X hw hr hlocks (Nat.le_of_ble_eq_true rfl) (Nat.le_of_ble_eq_true rfl) ⟨hO_36, ⟨(t_40).trans (congrArg Prod.fst hl_39).symm, (h_37).trans (congrArg Prod.snd hl_39).symm⟩⟩ dX2_seek_43
      · have z_b_41 := trivial
        have k_42 : a1_z < v_1.toInt := z_nle rfl hz_a1 c_28
        refine lv_iload_n X.1 X.2.1 dX2_seek_26 rfl (lv_at hl 1 rfl) ?_
        refine lv_bipush (v := 14) X.1 X.2.1 dX2_seek_27 (by decide) ?_
        refine lv_icmp_lt (tgt := 44) X.1 X.2.1 dX2_seek_29 (by decide) (fun c_43 => ?_) (fun c_43 => ?_)
        rotate_left
        · exfalso
          have k_44 : a1_z ≥ 14 := z_nlt hz_a1 ti_14 c_43
          omega
        have k_45 : a1_z < 14 := z_lt hz_a1 ti_14 c_43
        refine lv_aload_n X.1 X.2.1 dX2_seek_44 rfl (lv_at hl 0 rfl) ?_
        refine lv_iload_n X.1 X.2.1 dX2_seek_45 rfl (lv_at hl 1 rfl) ?_
        refine lv_iconst (v := 1) X.1 X.2.1 dX2_seek_46 (by decide) ?_
        refine lv_iadd X.1 X.2.1 dX2_seek_47 ?_
        refine lv_topi (fun v_46 ev_46 => ?_)
        have z_47 : v_46.toInt = a1_z + 1 := z_add ev_46 hz_a1 ti_1 (by omega) (by omega)
        refine lv_iload_n X.1 X.2.1 dX2_seek_48 rfl (lv_at hl 2 rfl) ?_
        refine lv_iconst (v := 1) X.1 X.2.1 dX2_seek_49 (by decide) ?_
        refine lv_iload_n X.1 X.2.1 dX2_seek_50 rfl (lv_at hl 1 rfl) ?_
        refine lv_ishl X.1 X.2.1 dX2_seek_51 ?_
        refine lv_topi (fun v_48 ev_48 => ?_)
        have rg_49 := And.intro (z_lo v_48) (z_hi v_48)
        refine lv_ior X.1 X.2.1 dX2_seek_52 ?_
        refine lv_topi (fun v_50 ev_50 => ?_)
        have rg_51 := And.intro (z_lo v_50) (z_hi v_50)
        refine lv_iload_n X.1 X.2.1 dX2_seek_53 rfl (lv_at hl 3 rfl) ?_
        refine lv_iload X.1 X.2.1 dX2_seek_54 (lv_at hl 4 rfl) ?_
        refine lv_aload_n X.1 X.2.1 dX2_seek_56 rfl (lv_at hl 0 rfl) ?_
        obtain ⟨q_52, h_53, h_54, h_55⟩ := gQ_2_202 hO.1 ha_x
        refine r_getR (g := 202) X hw ha_x rfl 2 h_53 (by decide) rfl inn_X2_seek_2 (by decide) (X.2.2.2.1 (.fieldLink RX2 18 "SilkMill$Mixer" "prices" "[I") (by decide +kernel)) rfl (gv_202 _ _) dX2_seek_57 ?_
        refine lv_iload_n X.1 X.2.1 dX2_seek_60 rfl (lv_at hl 1 rfl) ?_
        refine r_iald X hw h_54 rfl (by rw [h_55]; exact z_ix hz_a1 (by omega) (by omega)) dX2_seek_61 ?_
        refine lv_topi (fun v_56 ev_56 => ?_)
        have rg_57 := And.intro (z_lo v_56) (z_hi v_56)
        have ev_56 := ev_56.symm
        refine lv_iadd X.1 X.2.1 dX2_seek_62 ?_
        refine lv_topi (fun v_58 ev_58 => ?_)
        have rg_59 := And.intro (z_lo v_58) (z_hi v_58)
        refine k_v (rm := { frames := 8, cells := 0, slots := 0, locals := 384 }) (av := [.ref x, .int (v_46), .int (v_50), .int (a3), .int (v_58)]) X hw (va_runS (As := [.ref x, .int (v_46), .int (v_50), .int (a3), .int (v_58)]) (rest := []) (cfix X) (k_X2_seek8_7 l G cy κ S _ x (v_46) (v_46.toInt) (v_50) (v_50.toInt) (a3) (a3_z) (v_58) (v_58.toInt) hO.1 ha_x rfl rfl hz_a3 rfl (by omega)) (cwS 5 X.2.2.2.1 gX2_seek_X2_seek rfl rfl rfl (by decide +kernel) ⟨Nat.le_of_ble_eq_true rfl, Nat.le_of_ble_eq_true rfl⟩) (pre_S X hw _) rfl rfl hl.1 rfl (lv_room (Nat.le_of_ble_eq_true rfl)) dX2_seek_63 ⟨Nat.le_of_ble_eq_true rfl, Nat.le_of_ble_eq_true rfl⟩) 0 0 (Nat.le_of_ble_eq_true rfl) (Nat.le_of_ble_eq_true rfl) (fun S_61 H locs hp hw hfr hnw => ?_)
        obtain ⟨hk_62, hp⟩ := hp
        have hO_63 : Ok eSK S S_61 := hO.call hk_62 (by decide +kernel)
        obtain ⟨sk_64, sk_65⟩ := hp
        refine lv_aload_n X.1 X.2.1 dX2_seek_66 rfl (lv_at hl 0 rfl) ?_
        refine lv_iload_n X.1 X.2.1 dX2_seek_67 rfl (lv_at hl 1 rfl) ?_
        refine lv_iconst (v := 1) X.1 X.2.1 dX2_seek_68 (by decide) ?_
        refine lv_iadd X.1 X.2.1 dX2_seek_69 ?_
        refine lv_topi (fun v_66 ev_66 => ?_)
        have z_67 : v_66.toInt = a1_z + 1 := z_add ev_66 hz_a1 ti_1 (by omega) (by omega)
        refine lv_iload_n X.1 X.2.1 dX2_seek_70 rfl (lv_at hl 2 rfl) ?_
        refine lv_iload_n X.1 X.2.1 dX2_seek_71 rfl (lv_at hl 3 rfl) ?_
        refine lv_aload_n X.1 X.2.1 dX2_seek_72 rfl (lv_at hl 0 rfl) ?_
        have t_68 : At S_61 x 2 := hk_62.fr.at ha_x
        obtain ⟨q_69, h_70, h_71, h_72⟩ := gQ_2_201 hO_63.1 t_68
        refine r_getR (g := 201) X hw t_68 rfl 1 h_70 (by decide) rfl inn_X2_seek_2 (by decide) (X.2.2.2.1 (.fieldLink RX2 15 "SilkMill$Mixer" "weights" "[I") (by decide +kernel)) rfl (gv_201 _ _) dX2_seek_73 ?_
        refine lv_iload_n X.1 X.2.1 dX2_seek_76 rfl (lv_at hl 1 rfl) ?_
        refine r_iald X hw h_71 rfl (by rw [h_72]; exact z_ix hz_a1 (by omega) (by omega)) dX2_seek_77 ?_
        refine lv_topi (fun v_73 ev_73 => ?_)
        have rg_74 := And.intro (z_lo v_73) (z_hi v_73)
        have ev_73 := ev_73.symm
        refine lv_isub X.1 X.2.1 dX2_seek_78 ?_
        refine lv_topi (fun v_75 ev_75 => ?_)
        have rg_76 := And.intro (z_lo v_75) (z_hi v_75)
        refine lv_iload X.1 X.2.1 dX2_seek_79 (lv_at hl 4 rfl) ?_
        refine k_v (rm := { frames := 8, cells := 0, slots := 0, locals := 384 }) (av := [.ref x, .int (v_66), .int (a2), .int (v_75), .int (a4)]) X hw (va_runS (As := [.ref x, .int (v_66), .int (a2), .int (v_75), .int (a4)]) (rest := []) (cfix X) (k_X2_seek8_7 l G cy κ S_61 _ x (v_66) (v_66.toInt) (a2) (a2_z) (v_75) (v_75.toInt) (a4) (a4_z) hO_63.1 t_68 rfl hz_a2 rfl hz_a4 (by omega)) (cwS 5 X.2.2.2.1 gX2_seek_X2_seek rfl rfl rfl (by decide +kernel) ⟨Nat.le_of_ble_eq_true rfl, Nat.le_of_ble_eq_true rfl⟩) (pre_S X hw _) rfl rfl hl.1 rfl (lv_room (Nat.le_of_ble_eq_true rfl)) dX2_seek_81 ⟨Nat.le_of_ble_eq_true rfl, Nat.le_of_ble_eq_true rfl⟩) 0 0 (Nat.le_of_ble_eq_true rfl) (Nat.le_of_ble_eq_true rfl) (fun S_78 H locs hp hw hfr hnw => ?_)
        obtain ⟨hk_79, hp⟩ := hp
        have hO_80 : Ok eSK S S_78 := hO_63.call hk_79 (by decide +kernel)
        obtain ⟨sk_81, sk_82⟩ := hp
        have hc_83 : ¬ (a3.toInt < (pI S 205 x).toInt ∨ (pI S 206 x).toInt ≤ a4.toInt) := by omega
        have hn_84 : ¬ (pI S 203 x).toInt ≤ ((6 : Nat) : Int) := by omega
        have ai_85 : a1 = Int32.ofNat 6 := Int32.toInt_inj.mp (hz_a1.trans (by rw [show a1_z = 6 by omega]; decide))
        have sx_89 : mA S x 202 6 = v_56 := by rw [mA_eq h_53, show 6 = Int32.toNatClampNeg a1 from (by rw [z_nc hz_a1 (by omega)]; omega)]; exact ev_56
        have eW_91 : mA S_61 x 201 = mA S x 201 := mA_frc hk_62.fr ha_x (ex3 (gQ_2_201 hG ha_x)) (by decide +kernel) (by decide +kernel)
        have eP_92 : mA S_61 x 202 = mA S x 202 := mA_frc hk_62.fr ha_x (ex3 (gQ_2_202 hG ha_x)) (by decide +kernel) (by decide +kernel)
        have e3_93 : pI S_61 203 x = pI S 203 x := hk_62.fr.I' (by decide +kernel) ha_x rfl
        have e5_94 : pI S_61 205 x = pI S 205 x := hk_62.fr.I' (by decide +kernel) ha_x rfl
        have sx_90 : mA S x 201 6 = v_73 := by rw [← eW_91, mA_eq h_70, show 6 = Int32.toNatClampNeg a1 from (by rw [z_nc hz_a1 (by omega)]; omega)]; exact ev_73
        have sx_86 : v_50 = a2 ||| ((1 : Int32) <<< (Int32.ofNat 6 &&& 31)) := by rw [ev_50, ev_48, ai_85]
        have sx_87 : v_58 = a4 + mA S x 202 6 := by rw [ev_58, sx_89]
        have sx_88 : v_75 = a3 - mA S x 201 6 := by rw [ev_75, sx_90]
        rw [sx_86, sx_87] at sk_64 sk_65
        rw [e3_93, eW_91, eP_92, e5_94, sx_88] at sk_81 sk_82
        have q_95 : (pI S_61 206 x, pI S_61 207 x) = (skF (pI S 203 x).toInt (mA S x 201) (mA S x 202) (pI S 205 x) 7 7 (a2 ||| ((1 : Int32) <<< (Int32.ofNat 6 &&& 31))) a3 (a4 + mA S x 202 6) (pI S 206 x, pI S 207 x)) := Prod.ext sk_64 sk_65
        have q_96 : (pI S_78 206 x, pI S_78 207 x) = skF (pI S 203 x).toInt (mA S x 201) (mA S x 202) (pI S 205 x) 7 7 a2 (a3 - mA S x 201 6) a4 (pI S_61 206 x, pI S_61 207 x) := Prod.ext sk_81 sk_82
        rw [q_95] at q_96
        have fi_97 : (pI S_78 206 x, pI S_78 207 x) = skF (pI S 203 x).toInt (mA S x 201) (mA S x 202) (pI S 205 x) 8 6 a2 a3 a4 (pI S 206 x, pI S 207 x) := q_96.trans (skF_s (n := 7) (i := 6) (b := (pI S 206 x, pI S 207 x)) hc_83 hn_84).symm
        exact ret_v X hw hr hlocks (Nat.le_of_ble_eq_true rfl) (Nat.le_of_ble_eq_true rfl) ⟨hO_80, ⟨congrArg Prod.fst fi_97, congrArg Prod.snd fi_97⟩⟩ dX2_seek_84
    · have z_b_98 := trivial
      have k_99 : a4_z ≥ v_8.toInt := z_nlt hz_a4 rfl c_25
      have hb_100 : a3.toInt < (pI S 205 x).toInt ∨ (pI S 206 x).toInt ≤ a4.toInt := by omega
      exact ret_v X hw hr hlocks (Nat.le_of_ble_eq_true rfl) (Nat.le_of_ble_eq_true rfl) ⟨hO, (by rw [skF_b (b := (pI S 206 x, pI S 207 x)) hb_100]; exact ⟨rfl, rfl⟩)⟩ dX2_seek_17
set_option maxHeartbeats 4000000 in
set_option maxRecDepth 100000 in
theorem k_X2_seek8_9 (l : Launch) (G : va_G) (cy : Nat → ClassId) (κ : Nat → Nat) (S : PS) (sz : Nat) (x : Nat) (a1 : Int32) (a1_z : Int) (a2 : Int32) (a2_z : Int) (a3 : Int32) (a3_z : Int) (a4 : Int32) (a4_z : Int) (hG : GX S) (ha_x : At S x 2) (hz_a1 : a1.toInt = a1_z) (hz_a2 : a2.toInt = a2_z) (hz_a3 : a3.toInt = a3_z) (hz_a4 : a4.toInt = a4_z) (hp_0 : a1_z = 5) : Cv l yX2_seek wsX2_seek ({ frames := 10, cells := 0, slots := 0, locals := 480 }) G cy κ S sz [.ref x, .int (a1), .int (a2), .int (a3), .int (a4)] (fun (S9 : PS) => Ok eSK S S9 ∧ (pI S9 206 x = (skF (pI S 203 x).toInt (mA S x 201) (mA S x 202) (pI S 205 x) 9 5 a2 a3 a4 (pI S 206 x, pI S 207 x)).1 ∧ pI S9 207 x = (skF (pI S 203 x).toInt (mA S x 201) (mA S x 202) (pI S 205 x) 9 5 a2 a3 a4 (pI S 206 x, pI S 207 x)).2)) := by
  refine ent_m (cc := cX2_seek) (maxL := 5) (ret := none) (by decide) rfl (Nat.le_of_ble_eq_true rfl) ?_
  intro p e s m below meth c ls X hr hlocks hin hw hl hsz
  subst hsz
  have X : Cx p c cX2_seek 5 s [.ref x, .int (a1), .int (a2), .int (a3), .int (a4)].toArray wsX2_seek RX2 m G cy κ (AS S s.heap.size) := X
  have hl : lv_has ls 5 [(0, .ref x), (1, .int (a1)), (2, .int (a2)), (3, .int (a3)), (4, .int (a4))] := hl
  have rg_a1 : (-2147483648) ≤ a1_z ∧ a1_z ≤ 2147483647 := by rw [← hz_a1]; exact ⟨z_lo _, z_hi _⟩
  have rg_a2 : (-2147483648) ≤ a2_z ∧ a2_z ≤ 2147483647 := by rw [← hz_a2]; exact ⟨z_lo _, z_hi _⟩
  have rg_a3 : (-2147483648) ≤ a3_z ∧ a3_z ≤ 2147483647 := by rw [← hz_a3]; exact ⟨z_lo _, z_hi _⟩
  have rg_a4 : (-2147483648) ≤ a4_z ∧ a4_z ≤ 2147483647 := by rw [← hz_a4]; exact ⟨z_lo _, z_hi _⟩
  have hO : Ok eSK S S := Ok.rf hG
  obtain ⟨v_1, ev_1⟩ : ∃ v, pI S 203 x = v := ⟨_, rfl⟩
  have rg_2 := gI_2_203 hO.1 ha_x; rw [ev_1] at rg_2
  have pz_3 : (pI S 203 x).toInt = v_1.toInt := by rw [ev_1]
  obtain ⟨v_4, ev_4⟩ : ∃ v, pI S 205 x = v := ⟨_, rfl⟩
  have rg_6 := And.intro (z_lo v_4) (z_hi v_4)
  have pz_7 : (pI S 205 x).toInt = v_4.toInt := by rw [ev_4]
  obtain ⟨v_8, ev_8⟩ : ∃ v, pI S 206 x = v := ⟨_, rfl⟩
  have rg_10 := And.intro (z_lo v_8) (z_hi v_8)
  have pz_11 : (pI S 206 x).toInt = v_8.toInt := by rw [ev_8]
  obtain ⟨v_12, ev_12⟩ : ∃ v, pI S 207 x = v := ⟨_, rfl⟩
  have rg_14 := And.intro (z_lo v_12) (z_hi v_12)
  have pz_15 : (pI S 207 x).toInt = v_12.toInt := by rw [ev_12]
  have pz_16 : (pI S 203 x).toInt = v_1.toInt := (congrArg Int32.toInt ev_1).trans rfl
  have pz_17 : (pI S 205 x).toInt = v_4.toInt := (congrArg Int32.toInt ev_4).trans rfl
  have pz_18 : (pI S 206 x).toInt = v_8.toInt := (congrArg Int32.toInt ev_8).trans rfl
  refine lv_iload_n X.1 X.2.1 dX2_seek_0 rfl (lv_at hl 3 rfl) ?_
  refine lv_aload_n X.1 X.2.1 dX2_seek_1 rfl (lv_at hl 0 rfl) ?_
  refine r_getI (g := 205) (x := v_4) X hw ha_x rfl 5 ev_4 (by decide) rfl inn_X2_seek_2 (by decide) (X.2.2.2.1 (.fieldLink RX2 28 "SilkMill$Mixer" "wanted" "I") (by decide +kernel)) rfl (gv_205 _ _) dX2_seek_2 ?_
  refine lv_icmp_lt (tgt := 17) X.1 X.2.1 dX2_seek_5 (by decide) (fun c_19 => ?_) (fun c_19 => ?_)
  · have z_b_20 := trivial
    have k_21 : a3_z < v_4.toInt := z_lt hz_a3 rfl c_19
    have hb_22 : a3.toInt < (pI S 205 x).toInt ∨ (pI S 206 x).toInt ≤ a4.toInt := by omega
    exact ret_v X hw hr hlocks (Nat.le_of_ble_eq_true rfl) (Nat.le_of_ble_eq_true rfl) ⟨hO, (by rw [skF_b (b := (pI S 206 x, pI S 207 x)) hb_22]; exact ⟨rfl, rfl⟩)⟩ dX2_seek_17
  · have z_b_23 := trivial
    have k_24 : a3_z ≥ v_4.toInt := z_nlt hz_a3 rfl c_19
    refine lv_iload X.1 X.2.1 dX2_seek_8 (lv_at hl 4 rfl) ?_
    refine lv_aload_n X.1 X.2.1 dX2_seek_10 rfl (lv_at hl 0 rfl) ?_
    refine r_getI (g := 206) (x := v_8) X hw ha_x rfl 6 ev_8 (by decide) rfl inn_X2_seek_2 (by decide) (X.2.2.2.1 (.fieldLink RX2 34 "SilkMill$Mixer" "bestPrice" "I") (by decide +kernel)) rfl (gv_206 _ _) dX2_seek_11 ?_
    refine lv_icmp_lt (tgt := 18) X.1 X.2.1 dX2_seek_14 (by decide) (fun c_25 => ?_) (fun c_25 => ?_)
    · have z_b_26 := trivial
      have k_27 : a4_z < v_8.toInt := z_lt hz_a4 rfl c_25
      refine lv_iload_n X.1 X.2.1 dX2_seek_18 rfl (lv_at hl 1 rfl) ?_
      refine lv_aload_n X.1 X.2.1 dX2_seek_19 rfl (lv_at hl 0 rfl) ?_
      refine r_getI (g := 203) (x := v_1) X hw ha_x rfl 3 ev_1 (by decide) rfl inn_X2_seek_2 (by decide) (X.2.2.2.1 (.fieldLink RX2 21 "SilkMill$Mixer" "size" "I") (by decide +kernel)) rfl (gv_203 _ _) dX2_seek_20 ?_
      refine lv_icmp_ge (tgt := 32) X.1 X.2.1 dX2_seek_23 (by decide) (fun c_28 => ?_) (fun c_28 => ?_)
      · have z_b_29 := trivial
        have k_30 : a1_z ≥ v_1.toInt := z_le rfl hz_a1 c_28
        refine lv_aload_n X.1 X.2.1 dX2_seek_32 rfl (lv_at hl 0 rfl) ?_
        refine lv_iload X.1 X.2.1 dX2_seek_33 (lv_at hl 4 rfl) ?_
        refine r_putI (v := a4) X hw ha_x rfl 6 206 tyX2 (by decide) rfl inn_X2_seek_2 tyX2_ok nmX2 (by decide) (X.2.2.2.1 (.fieldLink RX2 34 "SilkMill$Mixer" "bestPrice" "I") (by decide +kernel)) rfl (Or.inl rfl) rfl rfl (Nat.le_of_ble_eq_true rfl) (st_206 _ _) dX2_seek_35 (fun H locs hw => ?_)
        obtain ⟨S_31, eS_31⟩ : ∃ T, T = sI S 206 x (a4) := ⟨_, rfl⟩
        rw [← eS_31] at hw
        have hO_32 : Ok eSK S S_31 := hO.sI eS_31 (by decide +kernel) (uI_2_206 hO.1 ha_x)
        have h_33 : pI S_31 206 x = a4 := tI_sIs eS_31
        refine lv_aload_n X.1 X.2.1 dX2_seek_38 rfl (lv_at hl 0 rfl) ?_
        refine lv_iload_n X.1 X.2.1 dX2_seek_39 rfl (lv_at hl 2 rfl) ?_
        have t_34 : At S_31 x 2 := tAt_sI eS_31 ha_x
        refine r_putI (v := a2) X hw t_34 rfl 7 207 tyX2 (by decide) rfl inn_X2_seek_2 tyX2_ok nmX2 (by decide) (X.2.2.2.1 (.fieldLink RX2 37 "SilkMill$Mixer" "bestSet" "I") (by decide +kernel)) rfl (Or.inl rfl) rfl rfl (Nat.le_of_ble_eq_true rfl) (st_207 _ _) dX2_seek_40 (fun H locs hw => ?_)
        obtain ⟨S_35, eS_35⟩ : ∃ T, T = sI S_31 207 x (a2) := ⟨_, rfl⟩
        rw [← eS_35] at hw
        have hO_36 : Ok eSK S S_35 := hO_32.sI eS_35 (by decide +kernel) (uI_2_207 hO_32.1 t_34)
        have h_37 : pI S_35 207 x = a2 := tI_sIs eS_35
        have hc_38 : ¬ (a3.toInt < (pI S 205 x).toInt ∨ (pI S 206 x).toInt ≤ a4.toInt) := by omega
        have hl_39 := skF_l (N := (pI S 203 x).toInt) (W := mA S x 201) (P := mA S x 202) (n := 9) (i := 5) (set := a2) (b := (pI S 206 x, pI S 207 x)) hc_38 (Or.inr (show (pI S 203 x).toInt ≤ ((5 : Nat) : Int) by omega))
        have t_40 : pI S_35 206 x = a4 := tI_sI eS_35 rfl h_33
        exact ret_v X hw hr hlocks (Nat.le_of_ble_eq_true rfl) (Nat.le_of_ble_eq_true rfl) ⟨hO_36, ⟨(t_40).trans (congrArg Prod.fst hl_39).symm, (h_37).trans (congrArg Prod.snd hl_39).symm⟩⟩ dX2_seek_43
      · have z_b_41 := trivial
        have k_42 : a1_z < v_1.toInt := z_nle rfl hz_a1 c_28
        refine lv_iload_n X.1 X.2.1 dX2_seek_26 rfl (lv_at hl 1 rfl) ?_
        refine lv_bipush (v := 14) X.1 X.2.1 dX2_seek_27 (by decide) ?_
        refine lv_icmp_lt (tgt := 44) X.1 X.2.1 dX2_seek_29 (by decide) (fun c_43 => ?_) (fun c_43 => ?_)
        rotate_left
        · exfalso
          have k_44 : a1_z ≥ 14 := z_nlt hz_a1 ti_14 c_43
          omega
        have k_45 : a1_z < 14 := z_lt hz_a1 ti_14 c_43
        refine lv_aload_n X.1 X.2.1 dX2_seek_44 rfl (lv_at hl 0 rfl) ?_
        refine lv_iload_n X.1 X.2.1 dX2_seek_45 rfl (lv_at hl 1 rfl) ?_
        refine lv_iconst (v := 1) X.1 X.2.1 dX2_seek_46 (by decide) ?_
        refine lv_iadd X.1 X.2.1 dX2_seek_47 ?_
        refine lv_topi (fun v_46 ev_46 => ?_)
        have z_47 : v_46.toInt = a1_z + 1 := z_add ev_46 hz_a1 ti_1 (by omega) (by omega)
        refine lv_iload_n X.1 X.2.1 dX2_seek_48 rfl (lv_at hl 2 rfl) ?_
        refine lv_iconst (v := 1) X.1 X.2.1 dX2_seek_49 (by decide) ?_
        refine lv_iload_n X.1 X.2.1 dX2_seek_50 rfl (lv_at hl 1 rfl) ?_
        refine lv_ishl X.1 X.2.1 dX2_seek_51 ?_
        refine lv_topi (fun v_48 ev_48 => ?_)
        have rg_49 := And.intro (z_lo v_48) (z_hi v_48)
        refine lv_ior X.1 X.2.1 dX2_seek_52 ?_
        refine lv_topi (fun v_50 ev_50 => ?_)
        have rg_51 := And.intro (z_lo v_50) (z_hi v_50)
        refine lv_iload_n X.1 X.2.1 dX2_seek_53 rfl (lv_at hl 3 rfl) ?_
        refine lv_iload X.1 X.2.1 dX2_seek_54 (lv_at hl 4 rfl) ?_
        refine lv_aload_n X.1 X.2.1 dX2_seek_56 rfl (lv_at hl 0 rfl) ?_
        obtain ⟨q_52, h_53, h_54, h_55⟩ := gQ_2_202 hO.1 ha_x
        refine r_getR (g := 202) X hw ha_x rfl 2 h_53 (by decide) rfl inn_X2_seek_2 (by decide) (X.2.2.2.1 (.fieldLink RX2 18 "SilkMill$Mixer" "prices" "[I") (by decide +kernel)) rfl (gv_202 _ _) dX2_seek_57 ?_
        refine lv_iload_n X.1 X.2.1 dX2_seek_60 rfl (lv_at hl 1 rfl) ?_
        refine r_iald X hw h_54 rfl (by rw [h_55]; exact z_ix hz_a1 (by omega) (by omega)) dX2_seek_61 ?_
        refine lv_topi (fun v_56 ev_56 => ?_)
        have rg_57 := And.intro (z_lo v_56) (z_hi v_56)
        have ev_56 := ev_56.symm
        refine lv_iadd X.1 X.2.1 dX2_seek_62 ?_
        refine lv_topi (fun v_58 ev_58 => ?_)
        have rg_59 := And.intro (z_lo v_58) (z_hi v_58)
        refine k_v (rm := { frames := 9, cells := 0, slots := 0, locals := 432 }) (av := [.ref x, .int (v_46), .int (v_50), .int (a3), .int (v_58)]) X hw (va_runS (As := [.ref x, .int (v_46), .int (v_50), .int (a3), .int (v_58)]) (rest := []) (cfix X) (k_X2_seek8_8 l G cy κ S _ x (v_46) (v_46.toInt) (v_50) (v_50.toInt) (a3) (a3_z) (v_58) (v_58.toInt) hO.1 ha_x rfl rfl hz_a3 rfl (by omega)) (cwS 5 X.2.2.2.1 gX2_seek_X2_seek rfl rfl rfl (by decide +kernel) ⟨Nat.le_of_ble_eq_true rfl, Nat.le_of_ble_eq_true rfl⟩) (pre_S X hw _) rfl rfl hl.1 rfl (lv_room (Nat.le_of_ble_eq_true rfl)) dX2_seek_63 ⟨Nat.le_of_ble_eq_true rfl, Nat.le_of_ble_eq_true rfl⟩) 0 0 (Nat.le_of_ble_eq_true rfl) (Nat.le_of_ble_eq_true rfl) (fun S_61 H locs hp hw hfr hnw => ?_)
        obtain ⟨hk_62, hp⟩ := hp
        have hO_63 : Ok eSK S S_61 := hO.call hk_62 (by decide +kernel)
        obtain ⟨sk_64, sk_65⟩ := hp
        refine lv_aload_n X.1 X.2.1 dX2_seek_66 rfl (lv_at hl 0 rfl) ?_
        refine lv_iload_n X.1 X.2.1 dX2_seek_67 rfl (lv_at hl 1 rfl) ?_
        refine lv_iconst (v := 1) X.1 X.2.1 dX2_seek_68 (by decide) ?_
        refine lv_iadd X.1 X.2.1 dX2_seek_69 ?_
        refine lv_topi (fun v_66 ev_66 => ?_)
        have z_67 : v_66.toInt = a1_z + 1 := z_add ev_66 hz_a1 ti_1 (by omega) (by omega)
        refine lv_iload_n X.1 X.2.1 dX2_seek_70 rfl (lv_at hl 2 rfl) ?_
        refine lv_iload_n X.1 X.2.1 dX2_seek_71 rfl (lv_at hl 3 rfl) ?_
        refine lv_aload_n X.1 X.2.1 dX2_seek_72 rfl (lv_at hl 0 rfl) ?_
        have t_68 : At S_61 x 2 := hk_62.fr.at ha_x
        obtain ⟨q_69, h_70, h_71, h_72⟩ := gQ_2_201 hO_63.1 t_68
        refine r_getR (g := 201) X hw t_68 rfl 1 h_70 (by decide) rfl inn_X2_seek_2 (by decide) (X.2.2.2.1 (.fieldLink RX2 15 "SilkMill$Mixer" "weights" "[I") (by decide +kernel)) rfl (gv_201 _ _) dX2_seek_73 ?_
        refine lv_iload_n X.1 X.2.1 dX2_seek_76 rfl (lv_at hl 1 rfl) ?_
        refine r_iald X hw h_71 rfl (by rw [h_72]; exact z_ix hz_a1 (by omega) (by omega)) dX2_seek_77 ?_
        refine lv_topi (fun v_73 ev_73 => ?_)
        have rg_74 := And.intro (z_lo v_73) (z_hi v_73)
        have ev_73 := ev_73.symm
        refine lv_isub X.1 X.2.1 dX2_seek_78 ?_
        refine lv_topi (fun v_75 ev_75 => ?_)
        have rg_76 := And.intro (z_lo v_75) (z_hi v_75)
        refine lv_iload X.1 X.2.1 dX2_seek_79 (lv_at hl 4 rfl) ?_
        refine k_v (rm := { frames := 9, cells := 0, slots := 0, locals := 432 }) (av := [.ref x, .int (v_66), .int (a2), .int (v_75), .int (a4)]) X hw (va_runS (As := [.ref x, .int (v_66), .int (a2), .int (v_75), .int (a4)]) (rest := []) (cfix X) (k_X2_seek8_8 l G cy κ S_61 _ x (v_66) (v_66.toInt) (a2) (a2_z) (v_75) (v_75.toInt) (a4) (a4_z) hO_63.1 t_68 rfl hz_a2 rfl hz_a4 (by omega)) (cwS 5 X.2.2.2.1 gX2_seek_X2_seek rfl rfl rfl (by decide +kernel) ⟨Nat.le_of_ble_eq_true rfl, Nat.le_of_ble_eq_true rfl⟩) (pre_S X hw _) rfl rfl hl.1 rfl (lv_room (Nat.le_of_ble_eq_true rfl)) dX2_seek_81 ⟨Nat.le_of_ble_eq_true rfl, Nat.le_of_ble_eq_true rfl⟩) 0 0 (Nat.le_of_ble_eq_true rfl) (Nat.le_of_ble_eq_true rfl) (fun S_78 H locs hp hw hfr hnw => ?_)
        obtain ⟨hk_79, hp⟩ := hp
        have hO_80 : Ok eSK S S_78 := hO_63.call hk_79 (by decide +kernel)
        obtain ⟨sk_81, sk_82⟩ := hp
        have hc_83 : ¬ (a3.toInt < (pI S 205 x).toInt ∨ (pI S 206 x).toInt ≤ a4.toInt) := by omega
        have hn_84 : ¬ (pI S 203 x).toInt ≤ ((5 : Nat) : Int) := by omega
        have ai_85 : a1 = Int32.ofNat 5 := Int32.toInt_inj.mp (hz_a1.trans (by rw [show a1_z = 5 by omega]; decide))
        have sx_89 : mA S x 202 5 = v_56 := by rw [mA_eq h_53, show 5 = Int32.toNatClampNeg a1 from (by rw [z_nc hz_a1 (by omega)]; omega)]; exact ev_56
        have eW_91 : mA S_61 x 201 = mA S x 201 := mA_frc hk_62.fr ha_x (ex3 (gQ_2_201 hG ha_x)) (by decide +kernel) (by decide +kernel)
        have eP_92 : mA S_61 x 202 = mA S x 202 := mA_frc hk_62.fr ha_x (ex3 (gQ_2_202 hG ha_x)) (by decide +kernel) (by decide +kernel)
        have e3_93 : pI S_61 203 x = pI S 203 x := hk_62.fr.I' (by decide +kernel) ha_x rfl
        have e5_94 : pI S_61 205 x = pI S 205 x := hk_62.fr.I' (by decide +kernel) ha_x rfl
        have sx_90 : mA S x 201 5 = v_73 := by rw [← eW_91, mA_eq h_70, show 5 = Int32.toNatClampNeg a1 from (by rw [z_nc hz_a1 (by omega)]; omega)]; exact ev_73
        have sx_86 : v_50 = a2 ||| ((1 : Int32) <<< (Int32.ofNat 5 &&& 31)) := by rw [ev_50, ev_48, ai_85]
        have sx_87 : v_58 = a4 + mA S x 202 5 := by rw [ev_58, sx_89]
        have sx_88 : v_75 = a3 - mA S x 201 5 := by rw [ev_75, sx_90]
        rw [sx_86, sx_87] at sk_64 sk_65
        rw [e3_93, eW_91, eP_92, e5_94, sx_88] at sk_81 sk_82
        have q_95 : (pI S_61 206 x, pI S_61 207 x) = (skF (pI S 203 x).toInt (mA S x 201) (mA S x 202) (pI S 205 x) 8 6 (a2 ||| ((1 : Int32) <<< (Int32.ofNat 5 &&& 31))) a3 (a4 + mA S x 202 5) (pI S 206 x, pI S 207 x)) := Prod.ext sk_64 sk_65
        have q_96 : (pI S_78 206 x, pI S_78 207 x) = skF (pI S 203 x).toInt (mA S x 201) (mA S x 202) (pI S 205 x) 8 6 a2 (a3 - mA S x 201 5) a4 (pI S_61 206 x, pI S_61 207 x) := Prod.ext sk_81 sk_82
        rw [q_95] at q_96
        have fi_97 : (pI S_78 206 x, pI S_78 207 x) = skF (pI S 203 x).toInt (mA S x 201) (mA S x 202) (pI S 205 x) 9 5 a2 a3 a4 (pI S 206 x, pI S 207 x) := q_96.trans (skF_s (n := 8) (i := 5) (b := (pI S 206 x, pI S 207 x)) hc_83 hn_84).symm
        exact ret_v X hw hr hlocks (Nat.le_of_ble_eq_true rfl) (Nat.le_of_ble_eq_true rfl) ⟨hO_80, ⟨congrArg Prod.fst fi_97, congrArg Prod.snd fi_97⟩⟩ dX2_seek_84
    · have z_b_98 := trivial
      have k_99 : a4_z ≥ v_8.toInt := z_nlt hz_a4 rfl c_25
      have hb_100 : a3.toInt < (pI S 205 x).toInt ∨ (pI S 206 x).toInt ≤ a4.toInt := by omega
      exact ret_v X hw hr hlocks (Nat.le_of_ble_eq_true rfl) (Nat.le_of_ble_eq_true rfl) ⟨hO, (by rw [skF_b (b := (pI S 206 x, pI S 207 x)) hb_100]; exact ⟨rfl, rfl⟩)⟩ dX2_seek_17
set_option maxHeartbeats 4000000 in
set_option maxRecDepth 100000 in
theorem k_X2_seek8_10 (l : Launch) (G : va_G) (cy : Nat → ClassId) (κ : Nat → Nat) (S : PS) (sz : Nat) (x : Nat) (a1 : Int32) (a1_z : Int) (a2 : Int32) (a2_z : Int) (a3 : Int32) (a3_z : Int) (a4 : Int32) (a4_z : Int) (hG : GX S) (ha_x : At S x 2) (hz_a1 : a1.toInt = a1_z) (hz_a2 : a2.toInt = a2_z) (hz_a3 : a3.toInt = a3_z) (hz_a4 : a4.toInt = a4_z) (hp_0 : a1_z = 4) : Cv l yX2_seek wsX2_seek ({ frames := 11, cells := 0, slots := 0, locals := 528 }) G cy κ S sz [.ref x, .int (a1), .int (a2), .int (a3), .int (a4)] (fun (S9 : PS) => Ok eSK S S9 ∧ (pI S9 206 x = (skF (pI S 203 x).toInt (mA S x 201) (mA S x 202) (pI S 205 x) 10 4 a2 a3 a4 (pI S 206 x, pI S 207 x)).1 ∧ pI S9 207 x = (skF (pI S 203 x).toInt (mA S x 201) (mA S x 202) (pI S 205 x) 10 4 a2 a3 a4 (pI S 206 x, pI S 207 x)).2)) := by
  refine ent_m (cc := cX2_seek) (maxL := 5) (ret := none) (by decide) rfl (Nat.le_of_ble_eq_true rfl) ?_
  intro p e s m below meth c ls X hr hlocks hin hw hl hsz
  subst hsz
  have X : Cx p c cX2_seek 5 s [.ref x, .int (a1), .int (a2), .int (a3), .int (a4)].toArray wsX2_seek RX2 m G cy κ (AS S s.heap.size) := X
  have hl : lv_has ls 5 [(0, .ref x), (1, .int (a1)), (2, .int (a2)), (3, .int (a3)), (4, .int (a4))] := hl
  have rg_a1 : (-2147483648) ≤ a1_z ∧ a1_z ≤ 2147483647 := by rw [← hz_a1]; exact ⟨z_lo _, z_hi _⟩
  have rg_a2 : (-2147483648) ≤ a2_z ∧ a2_z ≤ 2147483647 := by rw [← hz_a2]; exact ⟨z_lo _, z_hi _⟩
  have rg_a3 : (-2147483648) ≤ a3_z ∧ a3_z ≤ 2147483647 := by rw [← hz_a3]; exact ⟨z_lo _, z_hi _⟩
  have rg_a4 : (-2147483648) ≤ a4_z ∧ a4_z ≤ 2147483647 := by rw [← hz_a4]; exact ⟨z_lo _, z_hi _⟩
  have hO : Ok eSK S S := Ok.rf hG
  obtain ⟨v_1, ev_1⟩ : ∃ v, pI S 203 x = v := ⟨_, rfl⟩
  have rg_2 := gI_2_203 hO.1 ha_x; rw [ev_1] at rg_2
  have pz_3 : (pI S 203 x).toInt = v_1.toInt := by rw [ev_1]
  obtain ⟨v_4, ev_4⟩ : ∃ v, pI S 205 x = v := ⟨_, rfl⟩
  have rg_6 := And.intro (z_lo v_4) (z_hi v_4)
  have pz_7 : (pI S 205 x).toInt = v_4.toInt := by rw [ev_4]
  obtain ⟨v_8, ev_8⟩ : ∃ v, pI S 206 x = v := ⟨_, rfl⟩
  have rg_10 := And.intro (z_lo v_8) (z_hi v_8)
  have pz_11 : (pI S 206 x).toInt = v_8.toInt := by rw [ev_8]
  obtain ⟨v_12, ev_12⟩ : ∃ v, pI S 207 x = v := ⟨_, rfl⟩
  have rg_14 := And.intro (z_lo v_12) (z_hi v_12)
  have pz_15 : (pI S 207 x).toInt = v_12.toInt := by rw [ev_12]
  have pz_16 : (pI S 203 x).toInt = v_1.toInt := (congrArg Int32.toInt ev_1).trans rfl
  have pz_17 : (pI S 205 x).toInt = v_4.toInt := (congrArg Int32.toInt ev_4).trans rfl
  have pz_18 : (pI S 206 x).toInt = v_8.toInt := (congrArg Int32.toInt ev_8).trans rfl
  refine lv_iload_n X.1 X.2.1 dX2_seek_0 rfl (lv_at hl 3 rfl) ?_
  refine lv_aload_n X.1 X.2.1 dX2_seek_1 rfl (lv_at hl 0 rfl) ?_
  refine r_getI (g := 205) (x := v_4) X hw ha_x rfl 5 ev_4 (by decide) rfl inn_X2_seek_2 (by decide) (X.2.2.2.1 (.fieldLink RX2 28 "SilkMill$Mixer" "wanted" "I") (by decide +kernel)) rfl (gv_205 _ _) dX2_seek_2 ?_
  refine lv_icmp_lt (tgt := 17) X.1 X.2.1 dX2_seek_5 (by decide) (fun c_19 => ?_) (fun c_19 => ?_)
  · have z_b_20 := trivial
    have k_21 : a3_z < v_4.toInt := z_lt hz_a3 rfl c_19
    have hb_22 : a3.toInt < (pI S 205 x).toInt ∨ (pI S 206 x).toInt ≤ a4.toInt := by omega
    exact ret_v X hw hr hlocks (Nat.le_of_ble_eq_true rfl) (Nat.le_of_ble_eq_true rfl) ⟨hO, (by rw [skF_b (b := (pI S 206 x, pI S 207 x)) hb_22]; exact ⟨rfl, rfl⟩)⟩ dX2_seek_17
  · have z_b_23 := trivial
    have k_24 : a3_z ≥ v_4.toInt := z_nlt hz_a3 rfl c_19
    refine lv_iload X.1 X.2.1 dX2_seek_8 (lv_at hl 4 rfl) ?_
    refine lv_aload_n X.1 X.2.1 dX2_seek_10 rfl (lv_at hl 0 rfl) ?_
    refine r_getI (g := 206) (x := v_8) X hw ha_x rfl 6 ev_8 (by decide) rfl inn_X2_seek_2 (by decide) (X.2.2.2.1 (.fieldLink RX2 34 "SilkMill$Mixer" "bestPrice" "I") (by decide +kernel)) rfl (gv_206 _ _) dX2_seek_11 ?_
    refine lv_icmp_lt (tgt := 18) X.1 X.2.1 dX2_seek_14 (by decide) (fun c_25 => ?_) (fun c_25 => ?_)
    · have z_b_26 := trivial
      have k_27 : a4_z < v_8.toInt := z_lt hz_a4 rfl c_25
      refine lv_iload_n X.1 X.2.1 dX2_seek_18 rfl (lv_at hl 1 rfl) ?_
      refine lv_aload_n X.1 X.2.1 dX2_seek_19 rfl (lv_at hl 0 rfl) ?_
      refine r_getI (g := 203) (x := v_1) X hw ha_x rfl 3 ev_1 (by decide) rfl inn_X2_seek_2 (by decide) (X.2.2.2.1 (.fieldLink RX2 21 "SilkMill$Mixer" "size" "I") (by decide +kernel)) rfl (gv_203 _ _) dX2_seek_20 ?_
      refine lv_icmp_ge (tgt := 32) X.1 X.2.1 dX2_seek_23 (by decide) (fun c_28 => ?_) (fun c_28 => ?_)
      · have z_b_29 := trivial
        have k_30 : a1_z ≥ v_1.toInt := z_le rfl hz_a1 c_28
        refine lv_aload_n X.1 X.2.1 dX2_seek_32 rfl (lv_at hl 0 rfl) ?_
        refine lv_iload X.1 X.2.1 dX2_seek_33 (lv_at hl 4 rfl) ?_
        refine r_putI (v := a4) X hw ha_x rfl 6 206 tyX2 (by decide) rfl inn_X2_seek_2 tyX2_ok nmX2 (by decide) (X.2.2.2.1 (.fieldLink RX2 34 "SilkMill$Mixer" "bestPrice" "I") (by decide +kernel)) rfl (Or.inl rfl) rfl rfl (Nat.le_of_ble_eq_true rfl) (st_206 _ _) dX2_seek_35 (fun H locs hw => ?_)
        obtain ⟨S_31, eS_31⟩ : ∃ T, T = sI S 206 x (a4) := ⟨_, rfl⟩
        rw [← eS_31] at hw
        have hO_32 : Ok eSK S S_31 := hO.sI eS_31 (by decide +kernel) (uI_2_206 hO.1 ha_x)
        have h_33 : pI S_31 206 x = a4 := tI_sIs eS_31
        refine lv_aload_n X.1 X.2.1 dX2_seek_38 rfl (lv_at hl 0 rfl) ?_
        refine lv_iload_n X.1 X.2.1 dX2_seek_39 rfl (lv_at hl 2 rfl) ?_
        have t_34 : At S_31 x 2 := tAt_sI eS_31 ha_x
        refine r_putI (v := a2) X hw t_34 rfl 7 207 tyX2 (by decide) rfl inn_X2_seek_2 tyX2_ok nmX2 (by decide) (X.2.2.2.1 (.fieldLink RX2 37 "SilkMill$Mixer" "bestSet" "I") (by decide +kernel)) rfl (Or.inl rfl) rfl rfl (Nat.le_of_ble_eq_true rfl) (st_207 _ _) dX2_seek_40 (fun H locs hw => ?_)
        obtain ⟨S_35, eS_35⟩ : ∃ T, T = sI S_31 207 x (a2) := ⟨_, rfl⟩
        rw [← eS_35] at hw
        have hO_36 : Ok eSK S S_35 := hO_32.sI eS_35 (by decide +kernel) (uI_2_207 hO_32.1 t_34)
        have h_37 : pI S_35 207 x = a2 := tI_sIs eS_35
        have hc_38 : ¬ (a3.toInt < (pI S 205 x).toInt ∨ (pI S 206 x).toInt ≤ a4.toInt) := by omega
        have hl_39 := skF_l (N := (pI S 203 x).toInt) (W := mA S x 201) (P := mA S x 202) (n := 10) (i := 4) (set := a2) (b := (pI S 206 x, pI S 207 x)) hc_38 (Or.inr (show (pI S 203 x).toInt ≤ ((4 : Nat) : Int) by omega))
        have t_40 : pI S_35 206 x = a4 := tI_sI eS_35 rfl h_33
        exact ret_v X hw hr hlocks (Nat.le_of_ble_eq_true rfl) (Nat.le_of_ble_eq_true rfl) ⟨hO_36, ⟨(t_40).trans (congrArg Prod.fst hl_39).symm, (h_37).trans (congrArg Prod.snd hl_39).symm⟩⟩ dX2_seek_43
      · have z_b_41 := trivial
        have k_42 : a1_z < v_1.toInt := z_nle rfl hz_a1 c_28
        refine lv_iload_n X.1 X.2.1 dX2_seek_26 rfl (lv_at hl 1 rfl) ?_
        refine lv_bipush (v := 14) X.1 X.2.1 dX2_seek_27 (by decide) ?_
        refine lv_icmp_lt (tgt := 44) X.1 X.2.1 dX2_seek_29 (by decide) (fun c_43 => ?_) (fun c_43 => ?_)
        rotate_left
        · exfalso
          have k_44 : a1_z ≥ 14 := z_nlt hz_a1 ti_14 c_43
          omega
        have k_45 : a1_z < 14 := z_lt hz_a1 ti_14 c_43
        refine lv_aload_n X.1 X.2.1 dX2_seek_44 rfl (lv_at hl 0 rfl) ?_
        refine lv_iload_n X.1 X.2.1 dX2_seek_45 rfl (lv_at hl 1 rfl) ?_
        refine lv_iconst (v := 1) X.1 X.2.1 dX2_seek_46 (by decide) ?_
        refine lv_iadd X.1 X.2.1 dX2_seek_47 ?_
        refine lv_topi (fun v_46 ev_46 => ?_)
        have z_47 : v_46.toInt = a1_z + 1 := z_add ev_46 hz_a1 ti_1 (by omega) (by omega)
        refine lv_iload_n X.1 X.2.1 dX2_seek_48 rfl (lv_at hl 2 rfl) ?_
        refine lv_iconst (v := 1) X.1 X.2.1 dX2_seek_49 (by decide) ?_
        refine lv_iload_n X.1 X.2.1 dX2_seek_50 rfl (lv_at hl 1 rfl) ?_
        refine lv_ishl X.1 X.2.1 dX2_seek_51 ?_
        refine lv_topi (fun v_48 ev_48 => ?_)
        have rg_49 := And.intro (z_lo v_48) (z_hi v_48)
        refine lv_ior X.1 X.2.1 dX2_seek_52 ?_
        refine lv_topi (fun v_50 ev_50 => ?_)
        have rg_51 := And.intro (z_lo v_50) (z_hi v_50)
        refine lv_iload_n X.1 X.2.1 dX2_seek_53 rfl (lv_at hl 3 rfl) ?_
        refine lv_iload X.1 X.2.1 dX2_seek_54 (lv_at hl 4 rfl) ?_
        refine lv_aload_n X.1 X.2.1 dX2_seek_56 rfl (lv_at hl 0 rfl) ?_
        obtain ⟨q_52, h_53, h_54, h_55⟩ := gQ_2_202 hO.1 ha_x
        refine r_getR (g := 202) X hw ha_x rfl 2 h_53 (by decide) rfl inn_X2_seek_2 (by decide) (X.2.2.2.1 (.fieldLink RX2 18 "SilkMill$Mixer" "prices" "[I") (by decide +kernel)) rfl (gv_202 _ _) dX2_seek_57 ?_
        refine lv_iload_n X.1 X.2.1 dX2_seek_60 rfl (lv_at hl 1 rfl) ?_
        refine r_iald X hw h_54 rfl (by rw [h_55]; exact z_ix hz_a1 (by omega) (by omega)) dX2_seek_61 ?_
        refine lv_topi (fun v_56 ev_56 => ?_)
        have rg_57 := And.intro (z_lo v_56) (z_hi v_56)
        have ev_56 := ev_56.symm
        refine lv_iadd X.1 X.2.1 dX2_seek_62 ?_
        refine lv_topi (fun v_58 ev_58 => ?_)
        have rg_59 := And.intro (z_lo v_58) (z_hi v_58)
        refine k_v (rm := { frames := 10, cells := 0, slots := 0, locals := 480 }) (av := [.ref x, .int (v_46), .int (v_50), .int (a3), .int (v_58)]) X hw (va_runS (As := [.ref x, .int (v_46), .int (v_50), .int (a3), .int (v_58)]) (rest := []) (cfix X) (k_X2_seek8_9 l G cy κ S _ x (v_46) (v_46.toInt) (v_50) (v_50.toInt) (a3) (a3_z) (v_58) (v_58.toInt) hO.1 ha_x rfl rfl hz_a3 rfl (by omega)) (cwS 5 X.2.2.2.1 gX2_seek_X2_seek rfl rfl rfl (by decide +kernel) ⟨Nat.le_of_ble_eq_true rfl, Nat.le_of_ble_eq_true rfl⟩) (pre_S X hw _) rfl rfl hl.1 rfl (lv_room (Nat.le_of_ble_eq_true rfl)) dX2_seek_63 ⟨Nat.le_of_ble_eq_true rfl, Nat.le_of_ble_eq_true rfl⟩) 0 0 (Nat.le_of_ble_eq_true rfl) (Nat.le_of_ble_eq_true rfl) (fun S_61 H locs hp hw hfr hnw => ?_)
        obtain ⟨hk_62, hp⟩ := hp
        have hO_63 : Ok eSK S S_61 := hO.call hk_62 (by decide +kernel)
        obtain ⟨sk_64, sk_65⟩ := hp
        refine lv_aload_n X.1 X.2.1 dX2_seek_66 rfl (lv_at hl 0 rfl) ?_
        refine lv_iload_n X.1 X.2.1 dX2_seek_67 rfl (lv_at hl 1 rfl) ?_
        refine lv_iconst (v := 1) X.1 X.2.1 dX2_seek_68 (by decide) ?_
        refine lv_iadd X.1 X.2.1 dX2_seek_69 ?_
        refine lv_topi (fun v_66 ev_66 => ?_)
        have z_67 : v_66.toInt = a1_z + 1 := z_add ev_66 hz_a1 ti_1 (by omega) (by omega)
        refine lv_iload_n X.1 X.2.1 dX2_seek_70 rfl (lv_at hl 2 rfl) ?_
        refine lv_iload_n X.1 X.2.1 dX2_seek_71 rfl (lv_at hl 3 rfl) ?_
        refine lv_aload_n X.1 X.2.1 dX2_seek_72 rfl (lv_at hl 0 rfl) ?_
        have t_68 : At S_61 x 2 := hk_62.fr.at ha_x
        obtain ⟨q_69, h_70, h_71, h_72⟩ := gQ_2_201 hO_63.1 t_68
        refine r_getR (g := 201) X hw t_68 rfl 1 h_70 (by decide) rfl inn_X2_seek_2 (by decide) (X.2.2.2.1 (.fieldLink RX2 15 "SilkMill$Mixer" "weights" "[I") (by decide +kernel)) rfl (gv_201 _ _) dX2_seek_73 ?_
        refine lv_iload_n X.1 X.2.1 dX2_seek_76 rfl (lv_at hl 1 rfl) ?_
        refine r_iald X hw h_71 rfl (by rw [h_72]; exact z_ix hz_a1 (by omega) (by omega)) dX2_seek_77 ?_
        refine lv_topi (fun v_73 ev_73 => ?_)
        have rg_74 := And.intro (z_lo v_73) (z_hi v_73)
        have ev_73 := ev_73.symm
        refine lv_isub X.1 X.2.1 dX2_seek_78 ?_
        refine lv_topi (fun v_75 ev_75 => ?_)
        have rg_76 := And.intro (z_lo v_75) (z_hi v_75)
        refine lv_iload X.1 X.2.1 dX2_seek_79 (lv_at hl 4 rfl) ?_
        refine k_v (rm := { frames := 10, cells := 0, slots := 0, locals := 480 }) (av := [.ref x, .int (v_66), .int (a2), .int (v_75), .int (a4)]) X hw (va_runS (As := [.ref x, .int (v_66), .int (a2), .int (v_75), .int (a4)]) (rest := []) (cfix X) (k_X2_seek8_9 l G cy κ S_61 _ x (v_66) (v_66.toInt) (a2) (a2_z) (v_75) (v_75.toInt) (a4) (a4_z) hO_63.1 t_68 rfl hz_a2 rfl hz_a4 (by omega)) (cwS 5 X.2.2.2.1 gX2_seek_X2_seek rfl rfl rfl (by decide +kernel) ⟨Nat.le_of_ble_eq_true rfl, Nat.le_of_ble_eq_true rfl⟩) (pre_S X hw _) rfl rfl hl.1 rfl (lv_room (Nat.le_of_ble_eq_true rfl)) dX2_seek_81 ⟨Nat.le_of_ble_eq_true rfl, Nat.le_of_ble_eq_true rfl⟩) 0 0 (Nat.le_of_ble_eq_true rfl) (Nat.le_of_ble_eq_true rfl) (fun S_78 H locs hp hw hfr hnw => ?_)
        obtain ⟨hk_79, hp⟩ := hp
        have hO_80 : Ok eSK S S_78 := hO_63.call hk_79 (by decide +kernel)
        obtain ⟨sk_81, sk_82⟩ := hp
        have hc_83 : ¬ (a3.toInt < (pI S 205 x).toInt ∨ (pI S 206 x).toInt ≤ a4.toInt) := by omega
        have hn_84 : ¬ (pI S 203 x).toInt ≤ ((4 : Nat) : Int) := by omega
        have ai_85 : a1 = Int32.ofNat 4 := Int32.toInt_inj.mp (hz_a1.trans (by rw [show a1_z = 4 by omega]; decide))
        have sx_89 : mA S x 202 4 = v_56 := by rw [mA_eq h_53, show 4 = Int32.toNatClampNeg a1 from (by rw [z_nc hz_a1 (by omega)]; omega)]; exact ev_56
        have eW_91 : mA S_61 x 201 = mA S x 201 := mA_frc hk_62.fr ha_x (ex3 (gQ_2_201 hG ha_x)) (by decide +kernel) (by decide +kernel)
        have eP_92 : mA S_61 x 202 = mA S x 202 := mA_frc hk_62.fr ha_x (ex3 (gQ_2_202 hG ha_x)) (by decide +kernel) (by decide +kernel)
        have e3_93 : pI S_61 203 x = pI S 203 x := hk_62.fr.I' (by decide +kernel) ha_x rfl
        have e5_94 : pI S_61 205 x = pI S 205 x := hk_62.fr.I' (by decide +kernel) ha_x rfl
        have sx_90 : mA S x 201 4 = v_73 := by rw [← eW_91, mA_eq h_70, show 4 = Int32.toNatClampNeg a1 from (by rw [z_nc hz_a1 (by omega)]; omega)]; exact ev_73
        have sx_86 : v_50 = a2 ||| ((1 : Int32) <<< (Int32.ofNat 4 &&& 31)) := by rw [ev_50, ev_48, ai_85]
        have sx_87 : v_58 = a4 + mA S x 202 4 := by rw [ev_58, sx_89]
        have sx_88 : v_75 = a3 - mA S x 201 4 := by rw [ev_75, sx_90]
        rw [sx_86, sx_87] at sk_64 sk_65
        rw [e3_93, eW_91, eP_92, e5_94, sx_88] at sk_81 sk_82
        have q_95 : (pI S_61 206 x, pI S_61 207 x) = (skF (pI S 203 x).toInt (mA S x 201) (mA S x 202) (pI S 205 x) 9 5 (a2 ||| ((1 : Int32) <<< (Int32.ofNat 4 &&& 31))) a3 (a4 + mA S x 202 4) (pI S 206 x, pI S 207 x)) := Prod.ext sk_64 sk_65
        have q_96 : (pI S_78 206 x, pI S_78 207 x) = skF (pI S 203 x).toInt (mA S x 201) (mA S x 202) (pI S 205 x) 9 5 a2 (a3 - mA S x 201 4) a4 (pI S_61 206 x, pI S_61 207 x) := Prod.ext sk_81 sk_82
        rw [q_95] at q_96
        have fi_97 : (pI S_78 206 x, pI S_78 207 x) = skF (pI S 203 x).toInt (mA S x 201) (mA S x 202) (pI S 205 x) 10 4 a2 a3 a4 (pI S 206 x, pI S 207 x) := q_96.trans (skF_s (n := 9) (i := 4) (b := (pI S 206 x, pI S 207 x)) hc_83 hn_84).symm
        exact ret_v X hw hr hlocks (Nat.le_of_ble_eq_true rfl) (Nat.le_of_ble_eq_true rfl) ⟨hO_80, ⟨congrArg Prod.fst fi_97, congrArg Prod.snd fi_97⟩⟩ dX2_seek_84
    · have z_b_98 := trivial
      have k_99 : a4_z ≥ v_8.toInt := z_nlt hz_a4 rfl c_25
      have hb_100 : a3.toInt < (pI S 205 x).toInt ∨ (pI S 206 x).toInt ≤ a4.toInt := by omega
      exact ret_v X hw hr hlocks (Nat.le_of_ble_eq_true rfl) (Nat.le_of_ble_eq_true rfl) ⟨hO, (by rw [skF_b (b := (pI S 206 x, pI S 207 x)) hb_100]; exact ⟨rfl, rfl⟩)⟩ dX2_seek_17
set_option maxHeartbeats 4000000 in
set_option maxRecDepth 100000 in
theorem k_X2_seek8_11 (l : Launch) (G : va_G) (cy : Nat → ClassId) (κ : Nat → Nat) (S : PS) (sz : Nat) (x : Nat) (a1 : Int32) (a1_z : Int) (a2 : Int32) (a2_z : Int) (a3 : Int32) (a3_z : Int) (a4 : Int32) (a4_z : Int) (hG : GX S) (ha_x : At S x 2) (hz_a1 : a1.toInt = a1_z) (hz_a2 : a2.toInt = a2_z) (hz_a3 : a3.toInt = a3_z) (hz_a4 : a4.toInt = a4_z) (hp_0 : a1_z = 3) : Cv l yX2_seek wsX2_seek ({ frames := 12, cells := 0, slots := 0, locals := 576 }) G cy κ S sz [.ref x, .int (a1), .int (a2), .int (a3), .int (a4)] (fun (S9 : PS) => Ok eSK S S9 ∧ (pI S9 206 x = (skF (pI S 203 x).toInt (mA S x 201) (mA S x 202) (pI S 205 x) 11 3 a2 a3 a4 (pI S 206 x, pI S 207 x)).1 ∧ pI S9 207 x = (skF (pI S 203 x).toInt (mA S x 201) (mA S x 202) (pI S 205 x) 11 3 a2 a3 a4 (pI S 206 x, pI S 207 x)).2)) := by
  refine ent_m (cc := cX2_seek) (maxL := 5) (ret := none) (by decide) rfl (Nat.le_of_ble_eq_true rfl) ?_
  intro p e s m below meth c ls X hr hlocks hin hw hl hsz
  subst hsz
  have X : Cx p c cX2_seek 5 s [.ref x, .int (a1), .int (a2), .int (a3), .int (a4)].toArray wsX2_seek RX2 m G cy κ (AS S s.heap.size) := X
  have hl : lv_has ls 5 [(0, .ref x), (1, .int (a1)), (2, .int (a2)), (3, .int (a3)), (4, .int (a4))] := hl
  have rg_a1 : (-2147483648) ≤ a1_z ∧ a1_z ≤ 2147483647 := by rw [← hz_a1]; exact ⟨z_lo _, z_hi _⟩
  have rg_a2 : (-2147483648) ≤ a2_z ∧ a2_z ≤ 2147483647 := by rw [← hz_a2]; exact ⟨z_lo _, z_hi _⟩
  have rg_a3 : (-2147483648) ≤ a3_z ∧ a3_z ≤ 2147483647 := by rw [← hz_a3]; exact ⟨z_lo _, z_hi _⟩
  have rg_a4 : (-2147483648) ≤ a4_z ∧ a4_z ≤ 2147483647 := by rw [← hz_a4]; exact ⟨z_lo _, z_hi _⟩
  have hO : Ok eSK S S := Ok.rf hG
  obtain ⟨v_1, ev_1⟩ : ∃ v, pI S 203 x = v := ⟨_, rfl⟩
  have rg_2 := gI_2_203 hO.1 ha_x; rw [ev_1] at rg_2
  have pz_3 : (pI S 203 x).toInt = v_1.toInt := by rw [ev_1]
  obtain ⟨v_4, ev_4⟩ : ∃ v, pI S 205 x = v := ⟨_, rfl⟩
  have rg_6 := And.intro (z_lo v_4) (z_hi v_4)
  have pz_7 : (pI S 205 x).toInt = v_4.toInt := by rw [ev_4]
  obtain ⟨v_8, ev_8⟩ : ∃ v, pI S 206 x = v := ⟨_, rfl⟩
  have rg_10 := And.intro (z_lo v_8) (z_hi v_8)
  have pz_11 : (pI S 206 x).toInt = v_8.toInt := by rw [ev_8]
  obtain ⟨v_12, ev_12⟩ : ∃ v, pI S 207 x = v := ⟨_, rfl⟩
  have rg_14 := And.intro (z_lo v_12) (z_hi v_12)
  have pz_15 : (pI S 207 x).toInt = v_12.toInt := by rw [ev_12]
  have pz_16 : (pI S 203 x).toInt = v_1.toInt := (congrArg Int32.toInt ev_1).trans rfl
  have pz_17 : (pI S 205 x).toInt = v_4.toInt := (congrArg Int32.toInt ev_4).trans rfl
  have pz_18 : (pI S 206 x).toInt = v_8.toInt := (congrArg Int32.toInt ev_8).trans rfl
  refine lv_iload_n X.1 X.2.1 dX2_seek_0 rfl (lv_at hl 3 rfl) ?_
  refine lv_aload_n X.1 X.2.1 dX2_seek_1 rfl (lv_at hl 0 rfl) ?_
  refine r_getI (g := 205) (x := v_4) X hw ha_x rfl 5 ev_4 (by decide) rfl inn_X2_seek_2 (by decide) (X.2.2.2.1 (.fieldLink RX2 28 "SilkMill$Mixer" "wanted" "I") (by decide +kernel)) rfl (gv_205 _ _) dX2_seek_2 ?_
  refine lv_icmp_lt (tgt := 17) X.1 X.2.1 dX2_seek_5 (by decide) (fun c_19 => ?_) (fun c_19 => ?_)
  · have z_b_20 := trivial
    have k_21 : a3_z < v_4.toInt := z_lt hz_a3 rfl c_19
    have hb_22 : a3.toInt < (pI S 205 x).toInt ∨ (pI S 206 x).toInt ≤ a4.toInt := by omega
    exact ret_v X hw hr hlocks (Nat.le_of_ble_eq_true rfl) (Nat.le_of_ble_eq_true rfl) ⟨hO, (by rw [skF_b (b := (pI S 206 x, pI S 207 x)) hb_22]; exact ⟨rfl, rfl⟩)⟩ dX2_seek_17
  · have z_b_23 := trivial
    have k_24 : a3_z ≥ v_4.toInt := z_nlt hz_a3 rfl c_19
    refine lv_iload X.1 X.2.1 dX2_seek_8 (lv_at hl 4 rfl) ?_
    refine lv_aload_n X.1 X.2.1 dX2_seek_10 rfl (lv_at hl 0 rfl) ?_
    refine r_getI (g := 206) (x := v_8) X hw ha_x rfl 6 ev_8 (by decide) rfl inn_X2_seek_2 (by decide) (X.2.2.2.1 (.fieldLink RX2 34 "SilkMill$Mixer" "bestPrice" "I") (by decide +kernel)) rfl (gv_206 _ _) dX2_seek_11 ?_
    refine lv_icmp_lt (tgt := 18) X.1 X.2.1 dX2_seek_14 (by decide) (fun c_25 => ?_) (fun c_25 => ?_)
    · have z_b_26 := trivial
      have k_27 : a4_z < v_8.toInt := z_lt hz_a4 rfl c_25
      refine lv_iload_n X.1 X.2.1 dX2_seek_18 rfl (lv_at hl 1 rfl) ?_
      refine lv_aload_n X.1 X.2.1 dX2_seek_19 rfl (lv_at hl 0 rfl) ?_
      refine r_getI (g := 203) (x := v_1) X hw ha_x rfl 3 ev_1 (by decide) rfl inn_X2_seek_2 (by decide) (X.2.2.2.1 (.fieldLink RX2 21 "SilkMill$Mixer" "size" "I") (by decide +kernel)) rfl (gv_203 _ _) dX2_seek_20 ?_
      refine lv_icmp_ge (tgt := 32) X.1 X.2.1 dX2_seek_23 (by decide) (fun c_28 => ?_) (fun c_28 => ?_)
      · have z_b_29 := trivial
        have k_30 : a1_z ≥ v_1.toInt := z_le rfl hz_a1 c_28
        refine lv_aload_n X.1 X.2.1 dX2_seek_32 rfl (lv_at hl 0 rfl) ?_
        refine lv_iload X.1 X.2.1 dX2_seek_33 (lv_at hl 4 rfl) ?_
        refine r_putI (v := a4) X hw ha_x rfl 6 206 tyX2 (by decide) rfl inn_X2_seek_2 tyX2_ok nmX2 (by decide) (X.2.2.2.1 (.fieldLink RX2 34 "SilkMill$Mixer" "bestPrice" "I") (by decide +kernel)) rfl (Or.inl rfl) rfl rfl (Nat.le_of_ble_eq_true rfl) (st_206 _ _) dX2_seek_35 (fun H locs hw => ?_)
        obtain ⟨S_31, eS_31⟩ : ∃ T, T = sI S 206 x (a4) := ⟨_, rfl⟩
        rw [← eS_31] at hw
        have hO_32 : Ok eSK S S_31 := hO.sI eS_31 (by decide +kernel) (uI_2_206 hO.1 ha_x)
        have h_33 : pI S_31 206 x = a4 := tI_sIs eS_31
        refine lv_aload_n X.1 X.2.1 dX2_seek_38 rfl (lv_at hl 0 rfl) ?_
        refine lv_iload_n X.1 X.2.1 dX2_seek_39 rfl (lv_at hl 2 rfl) ?_
        have t_34 : At S_31 x 2 := tAt_sI eS_31 ha_x
        refine r_putI (v := a2) X hw t_34 rfl 7 207 tyX2 (by decide) rfl inn_X2_seek_2 tyX2_ok nmX2 (by decide) (X.2.2.2.1 (.fieldLink RX2 37 "SilkMill$Mixer" "bestSet" "I") (by decide +kernel)) rfl (Or.inl rfl) rfl rfl (Nat.le_of_ble_eq_true rfl) (st_207 _ _) dX2_seek_40 (fun H locs hw => ?_)
        obtain ⟨S_35, eS_35⟩ : ∃ T, T = sI S_31 207 x (a2) := ⟨_, rfl⟩
        rw [← eS_35] at hw
        have hO_36 : Ok eSK S S_35 := hO_32.sI eS_35 (by decide +kernel) (uI_2_207 hO_32.1 t_34)
        have h_37 : pI S_35 207 x = a2 := tI_sIs eS_35
        have hc_38 : ¬ (a3.toInt < (pI S 205 x).toInt ∨ (pI S 206 x).toInt ≤ a4.toInt) := by omega
        have hl_39 := skF_l (N := (pI S 203 x).toInt) (W := mA S x 201) (P := mA S x 202) (n := 11) (i := 3) (set := a2) (b := (pI S 206 x, pI S 207 x)) hc_38 (Or.inr (show (pI S 203 x).toInt ≤ ((3 : Nat) : Int) by omega))
        have t_40 : pI S_35 206 x = a4 := tI_sI eS_35 rfl h_33
        exact ret_v X hw hr hlocks (Nat.le_of_ble_eq_true rfl) (Nat.le_of_ble_eq_true rfl) ⟨hO_36, ⟨(t_40).trans (congrArg Prod.fst hl_39).symm, (h_37).trans (congrArg Prod.snd hl_39).symm⟩⟩ dX2_seek_43
      · have z_b_41 := trivial
        have k_42 : a1_z < v_1.toInt := z_nle rfl hz_a1 c_28
        refine lv_iload_n X.1 X.2.1 dX2_seek_26 rfl (lv_at hl 1 rfl) ?_
        refine lv_bipush (v := 14) X.1 X.2.1 dX2_seek_27 (by decide) ?_
        refine lv_icmp_lt (tgt := 44) X.1 X.2.1 dX2_seek_29 (by decide) (fun c_43 => ?_) (fun c_43 => ?_)
        rotate_left
        · exfalso
          have k_44 : a1_z ≥ 14 := z_nlt hz_a1 ti_14 c_43
          omega
        have k_45 : a1_z < 14 := z_lt hz_a1 ti_14 c_43
        refine lv_aload_n X.1 X.2.1 dX2_seek_44 rfl (lv_at hl 0 rfl) ?_
        refine lv_iload_n X.1 X.2.1 dX2_seek_45 rfl (lv_at hl 1 rfl) ?_
        refine lv_iconst (v := 1) X.1 X.2.1 dX2_seek_46 (by decide) ?_
        refine lv_iadd X.1 X.2.1 dX2_seek_47 ?_
        refine lv_topi (fun v_46 ev_46 => ?_)
        have z_47 : v_46.toInt = a1_z + 1 := z_add ev_46 hz_a1 ti_1 (by omega) (by omega)
        refine lv_iload_n X.1 X.2.1 dX2_seek_48 rfl (lv_at hl 2 rfl) ?_
        refine lv_iconst (v := 1) X.1 X.2.1 dX2_seek_49 (by decide) ?_
        refine lv_iload_n X.1 X.2.1 dX2_seek_50 rfl (lv_at hl 1 rfl) ?_
        refine lv_ishl X.1 X.2.1 dX2_seek_51 ?_
        refine lv_topi (fun v_48 ev_48 => ?_)
        have rg_49 := And.intro (z_lo v_48) (z_hi v_48)
        refine lv_ior X.1 X.2.1 dX2_seek_52 ?_
        refine lv_topi (fun v_50 ev_50 => ?_)
        have rg_51 := And.intro (z_lo v_50) (z_hi v_50)
        refine lv_iload_n X.1 X.2.1 dX2_seek_53 rfl (lv_at hl 3 rfl) ?_
        refine lv_iload X.1 X.2.1 dX2_seek_54 (lv_at hl 4 rfl) ?_
        refine lv_aload_n X.1 X.2.1 dX2_seek_56 rfl (lv_at hl 0 rfl) ?_
        obtain ⟨q_52, h_53, h_54, h_55⟩ := gQ_2_202 hO.1 ha_x
        refine r_getR (g := 202) X hw ha_x rfl 2 h_53 (by decide) rfl inn_X2_seek_2 (by decide) (X.2.2.2.1 (.fieldLink RX2 18 "SilkMill$Mixer" "prices" "[I") (by decide +kernel)) rfl (gv_202 _ _) dX2_seek_57 ?_
        refine lv_iload_n X.1 X.2.1 dX2_seek_60 rfl (lv_at hl 1 rfl) ?_
        refine r_iald X hw h_54 rfl (by rw [h_55]; exact z_ix hz_a1 (by omega) (by omega)) dX2_seek_61 ?_
        refine lv_topi (fun v_56 ev_56 => ?_)
        have rg_57 := And.intro (z_lo v_56) (z_hi v_56)
        have ev_56 := ev_56.symm
        refine lv_iadd X.1 X.2.1 dX2_seek_62 ?_
        refine lv_topi (fun v_58 ev_58 => ?_)
        have rg_59 := And.intro (z_lo v_58) (z_hi v_58)
        refine k_v (rm := { frames := 11, cells := 0, slots := 0, locals := 528 }) (av := [.ref x, .int (v_46), .int (v_50), .int (a3), .int (v_58)]) X hw (va_runS (As := [.ref x, .int (v_46), .int (v_50), .int (a3), .int (v_58)]) (rest := []) (cfix X) (k_X2_seek8_10 l G cy κ S _ x (v_46) (v_46.toInt) (v_50) (v_50.toInt) (a3) (a3_z) (v_58) (v_58.toInt) hO.1 ha_x rfl rfl hz_a3 rfl (by omega)) (cwS 5 X.2.2.2.1 gX2_seek_X2_seek rfl rfl rfl (by decide +kernel) ⟨Nat.le_of_ble_eq_true rfl, Nat.le_of_ble_eq_true rfl⟩) (pre_S X hw _) rfl rfl hl.1 rfl (lv_room (Nat.le_of_ble_eq_true rfl)) dX2_seek_63 ⟨Nat.le_of_ble_eq_true rfl, Nat.le_of_ble_eq_true rfl⟩) 0 0 (Nat.le_of_ble_eq_true rfl) (Nat.le_of_ble_eq_true rfl) (fun S_61 H locs hp hw hfr hnw => ?_)
        obtain ⟨hk_62, hp⟩ := hp
        have hO_63 : Ok eSK S S_61 := hO.call hk_62 (by decide +kernel)
        obtain ⟨sk_64, sk_65⟩ := hp
        refine lv_aload_n X.1 X.2.1 dX2_seek_66 rfl (lv_at hl 0 rfl) ?_
        refine lv_iload_n X.1 X.2.1 dX2_seek_67 rfl (lv_at hl 1 rfl) ?_
        refine lv_iconst (v := 1) X.1 X.2.1 dX2_seek_68 (by decide) ?_
        refine lv_iadd X.1 X.2.1 dX2_seek_69 ?_
        refine lv_topi (fun v_66 ev_66 => ?_)
        have z_67 : v_66.toInt = a1_z + 1 := z_add ev_66 hz_a1 ti_1 (by omega) (by omega)
        refine lv_iload_n X.1 X.2.1 dX2_seek_70 rfl (lv_at hl 2 rfl) ?_
        refine lv_iload_n X.1 X.2.1 dX2_seek_71 rfl (lv_at hl 3 rfl) ?_
        refine lv_aload_n X.1 X.2.1 dX2_seek_72 rfl (lv_at hl 0 rfl) ?_
        have t_68 : At S_61 x 2 := hk_62.fr.at ha_x
        obtain ⟨q_69, h_70, h_71, h_72⟩ := gQ_2_201 hO_63.1 t_68
        refine r_getR (g := 201) X hw t_68 rfl 1 h_70 (by decide) rfl inn_X2_seek_2 (by decide) (X.2.2.2.1 (.fieldLink RX2 15 "SilkMill$Mixer" "weights" "[I") (by decide +kernel)) rfl (gv_201 _ _) dX2_seek_73 ?_
        refine lv_iload_n X.1 X.2.1 dX2_seek_76 rfl (lv_at hl 1 rfl) ?_
        refine r_iald X hw h_71 rfl (by rw [h_72]; exact z_ix hz_a1 (by omega) (by omega)) dX2_seek_77 ?_
        refine lv_topi (fun v_73 ev_73 => ?_)
        have rg_74 := And.intro (z_lo v_73) (z_hi v_73)
        have ev_73 := ev_73.symm
        refine lv_isub X.1 X.2.1 dX2_seek_78 ?_
        refine lv_topi (fun v_75 ev_75 => ?_)
        have rg_76 := And.intro (z_lo v_75) (z_hi v_75)
        refine lv_iload X.1 X.2.1 dX2_seek_79 (lv_at hl 4 rfl) ?_
        refine k_v (rm := { frames := 11, cells := 0, slots := 0, locals := 528 }) (av := [.ref x, .int (v_66), .int (a2), .int (v_75), .int (a4)]) X hw (va_runS (As := [.ref x, .int (v_66), .int (a2), .int (v_75), .int (a4)]) (rest := []) (cfix X) (k_X2_seek8_10 l G cy κ S_61 _ x (v_66) (v_66.toInt) (a2) (a2_z) (v_75) (v_75.toInt) (a4) (a4_z) hO_63.1 t_68 rfl hz_a2 rfl hz_a4 (by omega)) (cwS 5 X.2.2.2.1 gX2_seek_X2_seek rfl rfl rfl (by decide +kernel) ⟨Nat.le_of_ble_eq_true rfl, Nat.le_of_ble_eq_true rfl⟩) (pre_S X hw _) rfl rfl hl.1 rfl (lv_room (Nat.le_of_ble_eq_true rfl)) dX2_seek_81 ⟨Nat.le_of_ble_eq_true rfl, Nat.le_of_ble_eq_true rfl⟩) 0 0 (Nat.le_of_ble_eq_true rfl) (Nat.le_of_ble_eq_true rfl) (fun S_78 H locs hp hw hfr hnw => ?_)
        obtain ⟨hk_79, hp⟩ := hp
        have hO_80 : Ok eSK S S_78 := hO_63.call hk_79 (by decide +kernel)
        obtain ⟨sk_81, sk_82⟩ := hp
        have hc_83 : ¬ (a3.toInt < (pI S 205 x).toInt ∨ (pI S 206 x).toInt ≤ a4.toInt) := by omega
        have hn_84 : ¬ (pI S 203 x).toInt ≤ ((3 : Nat) : Int) := by omega
        have ai_85 : a1 = Int32.ofNat 3 := Int32.toInt_inj.mp (hz_a1.trans (by rw [show a1_z = 3 by omega]; decide))
        have sx_89 : mA S x 202 3 = v_56 := by rw [mA_eq h_53, show 3 = Int32.toNatClampNeg a1 from (by rw [z_nc hz_a1 (by omega)]; omega)]; exact ev_56
        have eW_91 : mA S_61 x 201 = mA S x 201 := mA_frc hk_62.fr ha_x (ex3 (gQ_2_201 hG ha_x)) (by decide +kernel) (by decide +kernel)
        have eP_92 : mA S_61 x 202 = mA S x 202 := mA_frc hk_62.fr ha_x (ex3 (gQ_2_202 hG ha_x)) (by decide +kernel) (by decide +kernel)
        have e3_93 : pI S_61 203 x = pI S 203 x := hk_62.fr.I' (by decide +kernel) ha_x rfl
        have e5_94 : pI S_61 205 x = pI S 205 x := hk_62.fr.I' (by decide +kernel) ha_x rfl
        have sx_90 : mA S x 201 3 = v_73 := by rw [← eW_91, mA_eq h_70, show 3 = Int32.toNatClampNeg a1 from (by rw [z_nc hz_a1 (by omega)]; omega)]; exact ev_73
        have sx_86 : v_50 = a2 ||| ((1 : Int32) <<< (Int32.ofNat 3 &&& 31)) := by rw [ev_50, ev_48, ai_85]
        have sx_87 : v_58 = a4 + mA S x 202 3 := by rw [ev_58, sx_89]
        have sx_88 : v_75 = a3 - mA S x 201 3 := by rw [ev_75, sx_90]
        rw [sx_86, sx_87] at sk_64 sk_65
        rw [e3_93, eW_91, eP_92, e5_94, sx_88] at sk_81 sk_82
        have q_95 : (pI S_61 206 x, pI S_61 207 x) = (skF (pI S 203 x).toInt (mA S x 201) (mA S x 202) (pI S 205 x) 10 4 (a2 ||| ((1 : Int32) <<< (Int32.ofNat 3 &&& 31))) a3 (a4 + mA S x 202 3) (pI S 206 x, pI S 207 x)) := Prod.ext sk_64 sk_65
        have q_96 : (pI S_78 206 x, pI S_78 207 x) = skF (pI S 203 x).toInt (mA S x 201) (mA S x 202) (pI S 205 x) 10 4 a2 (a3 - mA S x 201 3) a4 (pI S_61 206 x, pI S_61 207 x) := Prod.ext sk_81 sk_82
        rw [q_95] at q_96
        have fi_97 : (pI S_78 206 x, pI S_78 207 x) = skF (pI S 203 x).toInt (mA S x 201) (mA S x 202) (pI S 205 x) 11 3 a2 a3 a4 (pI S 206 x, pI S 207 x) := q_96.trans (skF_s (n := 10) (i := 3) (b := (pI S 206 x, pI S 207 x)) hc_83 hn_84).symm
        exact ret_v X hw hr hlocks (Nat.le_of_ble_eq_true rfl) (Nat.le_of_ble_eq_true rfl) ⟨hO_80, ⟨congrArg Prod.fst fi_97, congrArg Prod.snd fi_97⟩⟩ dX2_seek_84
    · have z_b_98 := trivial
      have k_99 : a4_z ≥ v_8.toInt := z_nlt hz_a4 rfl c_25
      have hb_100 : a3.toInt < (pI S 205 x).toInt ∨ (pI S 206 x).toInt ≤ a4.toInt := by omega
      exact ret_v X hw hr hlocks (Nat.le_of_ble_eq_true rfl) (Nat.le_of_ble_eq_true rfl) ⟨hO, (by rw [skF_b (b := (pI S 206 x, pI S 207 x)) hb_100]; exact ⟨rfl, rfl⟩)⟩ dX2_seek_17
set_option maxHeartbeats 4000000 in
set_option maxRecDepth 100000 in
theorem k_X2_seek8_12 (l : Launch) (G : va_G) (cy : Nat → ClassId) (κ : Nat → Nat) (S : PS) (sz : Nat) (x : Nat) (a1 : Int32) (a1_z : Int) (a2 : Int32) (a2_z : Int) (a3 : Int32) (a3_z : Int) (a4 : Int32) (a4_z : Int) (hG : GX S) (ha_x : At S x 2) (hz_a1 : a1.toInt = a1_z) (hz_a2 : a2.toInt = a2_z) (hz_a3 : a3.toInt = a3_z) (hz_a4 : a4.toInt = a4_z) (hp_0 : a1_z = 2) : Cv l yX2_seek wsX2_seek ({ frames := 13, cells := 0, slots := 0, locals := 624 }) G cy κ S sz [.ref x, .int (a1), .int (a2), .int (a3), .int (a4)] (fun (S9 : PS) => Ok eSK S S9 ∧ (pI S9 206 x = (skF (pI S 203 x).toInt (mA S x 201) (mA S x 202) (pI S 205 x) 12 2 a2 a3 a4 (pI S 206 x, pI S 207 x)).1 ∧ pI S9 207 x = (skF (pI S 203 x).toInt (mA S x 201) (mA S x 202) (pI S 205 x) 12 2 a2 a3 a4 (pI S 206 x, pI S 207 x)).2)) := by
  refine ent_m (cc := cX2_seek) (maxL := 5) (ret := none) (by decide) rfl (Nat.le_of_ble_eq_true rfl) ?_
  intro p e s m below meth c ls X hr hlocks hin hw hl hsz
  subst hsz
  have X : Cx p c cX2_seek 5 s [.ref x, .int (a1), .int (a2), .int (a3), .int (a4)].toArray wsX2_seek RX2 m G cy κ (AS S s.heap.size) := X
  have hl : lv_has ls 5 [(0, .ref x), (1, .int (a1)), (2, .int (a2)), (3, .int (a3)), (4, .int (a4))] := hl
  have rg_a1 : (-2147483648) ≤ a1_z ∧ a1_z ≤ 2147483647 := by rw [← hz_a1]; exact ⟨z_lo _, z_hi _⟩
  have rg_a2 : (-2147483648) ≤ a2_z ∧ a2_z ≤ 2147483647 := by rw [← hz_a2]; exact ⟨z_lo _, z_hi _⟩
  have rg_a3 : (-2147483648) ≤ a3_z ∧ a3_z ≤ 2147483647 := by rw [← hz_a3]; exact ⟨z_lo _, z_hi _⟩
  have rg_a4 : (-2147483648) ≤ a4_z ∧ a4_z ≤ 2147483647 := by rw [← hz_a4]; exact ⟨z_lo _, z_hi _⟩
  have hO : Ok eSK S S := Ok.rf hG
  obtain ⟨v_1, ev_1⟩ : ∃ v, pI S 203 x = v := ⟨_, rfl⟩
  have rg_2 := gI_2_203 hO.1 ha_x; rw [ev_1] at rg_2
  have pz_3 : (pI S 203 x).toInt = v_1.toInt := by rw [ev_1]
  obtain ⟨v_4, ev_4⟩ : ∃ v, pI S 205 x = v := ⟨_, rfl⟩
  have rg_6 := And.intro (z_lo v_4) (z_hi v_4)
  have pz_7 : (pI S 205 x).toInt = v_4.toInt := by rw [ev_4]
  obtain ⟨v_8, ev_8⟩ : ∃ v, pI S 206 x = v := ⟨_, rfl⟩
  have rg_10 := And.intro (z_lo v_8) (z_hi v_8)
  have pz_11 : (pI S 206 x).toInt = v_8.toInt := by rw [ev_8]
  obtain ⟨v_12, ev_12⟩ : ∃ v, pI S 207 x = v := ⟨_, rfl⟩
  have rg_14 := And.intro (z_lo v_12) (z_hi v_12)
  have pz_15 : (pI S 207 x).toInt = v_12.toInt := by rw [ev_12]
  have pz_16 : (pI S 203 x).toInt = v_1.toInt := (congrArg Int32.toInt ev_1).trans rfl
  have pz_17 : (pI S 205 x).toInt = v_4.toInt := (congrArg Int32.toInt ev_4).trans rfl
  have pz_18 : (pI S 206 x).toInt = v_8.toInt := (congrArg Int32.toInt ev_8).trans rfl
  refine lv_iload_n X.1 X.2.1 dX2_seek_0 rfl (lv_at hl 3 rfl) ?_
  refine lv_aload_n X.1 X.2.1 dX2_seek_1 rfl (lv_at hl 0 rfl) ?_
  refine r_getI (g := 205) (x := v_4) X hw ha_x rfl 5 ev_4 (by decide) rfl inn_X2_seek_2 (by decide) (X.2.2.2.1 (.fieldLink RX2 28 "SilkMill$Mixer" "wanted" "I") (by decide +kernel)) rfl (gv_205 _ _) dX2_seek_2 ?_
  refine lv_icmp_lt (tgt := 17) X.1 X.2.1 dX2_seek_5 (by decide) (fun c_19 => ?_) (fun c_19 => ?_)
  · have z_b_20 := trivial
    have k_21 : a3_z < v_4.toInt := z_lt hz_a3 rfl c_19
    have hb_22 : a3.toInt < (pI S 205 x).toInt ∨ (pI S 206 x).toInt ≤ a4.toInt := by omega
    exact ret_v X hw hr hlocks (Nat.le_of_ble_eq_true rfl) (Nat.le_of_ble_eq_true rfl) ⟨hO, (by rw [skF_b (b := (pI S 206 x, pI S 207 x)) hb_22]; exact ⟨rfl, rfl⟩)⟩ dX2_seek_17
  · have z_b_23 := trivial
    have k_24 : a3_z ≥ v_4.toInt := z_nlt hz_a3 rfl c_19
    refine lv_iload X.1 X.2.1 dX2_seek_8 (lv_at hl 4 rfl) ?_
    refine lv_aload_n X.1 X.2.1 dX2_seek_10 rfl (lv_at hl 0 rfl) ?_
    refine r_getI (g := 206) (x := v_8) X hw ha_x rfl 6 ev_8 (by decide) rfl inn_X2_seek_2 (by decide) (X.2.2.2.1 (.fieldLink RX2 34 "SilkMill$Mixer" "bestPrice" "I") (by decide +kernel)) rfl (gv_206 _ _) dX2_seek_11 ?_
    refine lv_icmp_lt (tgt := 18) X.1 X.2.1 dX2_seek_14 (by decide) (fun c_25 => ?_) (fun c_25 => ?_)
    · have z_b_26 := trivial
      have k_27 : a4_z < v_8.toInt := z_lt hz_a4 rfl c_25
      refine lv_iload_n X.1 X.2.1 dX2_seek_18 rfl (lv_at hl 1 rfl) ?_
      refine lv_aload_n X.1 X.2.1 dX2_seek_19 rfl (lv_at hl 0 rfl) ?_
      refine r_getI (g := 203) (x := v_1) X hw ha_x rfl 3 ev_1 (by decide) rfl inn_X2_seek_2 (by decide) (X.2.2.2.1 (.fieldLink RX2 21 "SilkMill$Mixer" "size" "I") (by decide +kernel)) rfl (gv_203 _ _) dX2_seek_20 ?_
      refine lv_icmp_ge (tgt := 32) X.1 X.2.1 dX2_seek_23 (by decide) (fun c_28 => ?_) (fun c_28 => ?_)
      · have z_b_29 := trivial
        have k_30 : a1_z ≥ v_1.toInt := z_le rfl hz_a1 c_28
        refine lv_aload_n X.1 X.2.1 dX2_seek_32 rfl (lv_at hl 0 rfl) ?_
        refine lv_iload X.1 X.2.1 dX2_seek_33 (lv_at hl 4 rfl) ?_
        refine r_putI (v := a4) X hw ha_x rfl 6 206 tyX2 (by decide) rfl inn_X2_seek_2 tyX2_ok nmX2 (by decide) (X.2.2.2.1 (.fieldLink RX2 34 "SilkMill$Mixer" "bestPrice" "I") (by decide +kernel)) rfl (Or.inl rfl) rfl rfl (Nat.le_of_ble_eq_true rfl) (st_206 _ _) dX2_seek_35 (fun H locs hw => ?_)
        obtain ⟨S_31, eS_31⟩ : ∃ T, T = sI S 206 x (a4) := ⟨_, rfl⟩
        rw [← eS_31] at hw
        have hO_32 : Ok eSK S S_31 := hO.sI eS_31 (by decide +kernel) (uI_2_206 hO.1 ha_x)
        have h_33 : pI S_31 206 x = a4 := tI_sIs eS_31
        refine lv_aload_n X.1 X.2.1 dX2_seek_38 rfl (lv_at hl 0 rfl) ?_
        refine lv_iload_n X.1 X.2.1 dX2_seek_39 rfl (lv_at hl 2 rfl) ?_
        have t_34 : At S_31 x 2 := tAt_sI eS_31 ha_x
        refine r_putI (v := a2) X hw t_34 rfl 7 207 tyX2 (by decide) rfl inn_X2_seek_2 tyX2_ok nmX2 (by decide) (X.2.2.2.1 (.fieldLink RX2 37 "SilkMill$Mixer" "bestSet" "I") (by decide +kernel)) rfl (Or.inl rfl) rfl rfl (Nat.le_of_ble_eq_true rfl) (st_207 _ _) dX2_seek_40 (fun H locs hw => ?_)
        obtain ⟨S_35, eS_35⟩ : ∃ T, T = sI S_31 207 x (a2) := ⟨_, rfl⟩
        rw [← eS_35] at hw
        have hO_36 : Ok eSK S S_35 := hO_32.sI eS_35 (by decide +kernel) (uI_2_207 hO_32.1 t_34)
        have h_37 : pI S_35 207 x = a2 := tI_sIs eS_35
        have hc_38 : ¬ (a3.toInt < (pI S 205 x).toInt ∨ (pI S 206 x).toInt ≤ a4.toInt) := by omega
        have hl_39 := skF_l (N := (pI S 203 x).toInt) (W := mA S x 201) (P := mA S x 202) (n := 12) (i := 2) (set := a2) (b := (pI S 206 x, pI S 207 x)) hc_38 (Or.inr (show (pI S 203 x).toInt ≤ ((2 : Nat) : Int) by omega))
        have t_40 : pI S_35 206 x = a4 := tI_sI eS_35 rfl h_33
        exact ret_v X hw hr hlocks (Nat.le_of_ble_eq_true rfl) (Nat.le_of_ble_eq_true rfl) ⟨hO_36, ⟨(t_40).trans (congrArg Prod.fst hl_39).symm, (h_37).trans (congrArg Prod.snd hl_39).symm⟩⟩ dX2_seek_43
      · have z_b_41 := trivial
        have k_42 : a1_z < v_1.toInt := z_nle rfl hz_a1 c_28
        refine lv_iload_n X.1 X.2.1 dX2_seek_26 rfl (lv_at hl 1 rfl) ?_
        refine lv_bipush (v := 14) X.1 X.2.1 dX2_seek_27 (by decide) ?_
        refine lv_icmp_lt (tgt := 44) X.1 X.2.1 dX2_seek_29 (by decide) (fun c_43 => ?_) (fun c_43 => ?_)
        rotate_left
        · exfalso
          have k_44 : a1_z ≥ 14 := z_nlt hz_a1 ti_14 c_43
          omega
        have k_45 : a1_z < 14 := z_lt hz_a1 ti_14 c_43
        refine lv_aload_n X.1 X.2.1 dX2_seek_44 rfl (lv_at hl 0 rfl) ?_
        refine lv_iload_n X.1 X.2.1 dX2_seek_45 rfl (lv_at hl 1 rfl) ?_
        refine lv_iconst (v := 1) X.1 X.2.1 dX2_seek_46 (by decide) ?_
        refine lv_iadd X.1 X.2.1 dX2_seek_47 ?_
        refine lv_topi (fun v_46 ev_46 => ?_)
        have z_47 : v_46.toInt = a1_z + 1 := z_add ev_46 hz_a1 ti_1 (by omega) (by omega)
        refine lv_iload_n X.1 X.2.1 dX2_seek_48 rfl (lv_at hl 2 rfl) ?_
        refine lv_iconst (v := 1) X.1 X.2.1 dX2_seek_49 (by decide) ?_
        refine lv_iload_n X.1 X.2.1 dX2_seek_50 rfl (lv_at hl 1 rfl) ?_
        refine lv_ishl X.1 X.2.1 dX2_seek_51 ?_
        refine lv_topi (fun v_48 ev_48 => ?_)
        have rg_49 := And.intro (z_lo v_48) (z_hi v_48)
        refine lv_ior X.1 X.2.1 dX2_seek_52 ?_
        refine lv_topi (fun v_50 ev_50 => ?_)
        have rg_51 := And.intro (z_lo v_50) (z_hi v_50)
        refine lv_iload_n X.1 X.2.1 dX2_seek_53 rfl (lv_at hl 3 rfl) ?_
        refine lv_iload X.1 X.2.1 dX2_seek_54 (lv_at hl 4 rfl) ?_
        refine lv_aload_n X.1 X.2.1 dX2_seek_56 rfl (lv_at hl 0 rfl) ?_
        obtain ⟨q_52, h_53, h_54, h_55⟩ := gQ_2_202 hO.1 ha_x
        refine r_getR (g := 202) X hw ha_x rfl 2 h_53 (by decide) rfl inn_X2_seek_2 (by decide) (X.2.2.2.1 (.fieldLink RX2 18 "SilkMill$Mixer" "prices" "[I") (by decide +kernel)) rfl (gv_202 _ _) dX2_seek_57 ?_
        refine lv_iload_n X.1 X.2.1 dX2_seek_60 rfl (lv_at hl 1 rfl) ?_
        refine r_iald X hw h_54 rfl (by rw [h_55]; exact z_ix hz_a1 (by omega) (by omega)) dX2_seek_61 ?_
        refine lv_topi (fun v_56 ev_56 => ?_)
        have rg_57 := And.intro (z_lo v_56) (z_hi v_56)
        have ev_56 := ev_56.symm
        refine lv_iadd X.1 X.2.1 dX2_seek_62 ?_
        refine lv_topi (fun v_58 ev_58 => ?_)
        have rg_59 := And.intro (z_lo v_58) (z_hi v_58)
        refine k_v (rm := { frames := 12, cells := 0, slots := 0, locals := 576 }) (av := [.ref x, .int (v_46), .int (v_50), .int (a3), .int (v_58)]) X hw (va_runS (As := [.ref x, .int (v_46), .int (v_50), .int (a3), .int (v_58)]) (rest := []) (cfix X) (k_X2_seek8_11 l G cy κ S _ x (v_46) (v_46.toInt) (v_50) (v_50.toInt) (a3) (a3_z) (v_58) (v_58.toInt) hO.1 ha_x rfl rfl hz_a3 rfl (by omega)) (cwS 5 X.2.2.2.1 gX2_seek_X2_seek rfl rfl rfl (by decide +kernel) ⟨Nat.le_of_ble_eq_true rfl, Nat.le_of_ble_eq_true rfl⟩) (pre_S X hw _) rfl rfl hl.1 rfl (lv_room (Nat.le_of_ble_eq_true rfl)) dX2_seek_63 ⟨Nat.le_of_ble_eq_true rfl, Nat.le_of_ble_eq_true rfl⟩) 0 0 (Nat.le_of_ble_eq_true rfl) (Nat.le_of_ble_eq_true rfl) (fun S_61 H locs hp hw hfr hnw => ?_)
        obtain ⟨hk_62, hp⟩ := hp
        have hO_63 : Ok eSK S S_61 := hO.call hk_62 (by decide +kernel)
        obtain ⟨sk_64, sk_65⟩ := hp
        refine lv_aload_n X.1 X.2.1 dX2_seek_66 rfl (lv_at hl 0 rfl) ?_
        refine lv_iload_n X.1 X.2.1 dX2_seek_67 rfl (lv_at hl 1 rfl) ?_
        refine lv_iconst (v := 1) X.1 X.2.1 dX2_seek_68 (by decide) ?_
        refine lv_iadd X.1 X.2.1 dX2_seek_69 ?_
        refine lv_topi (fun v_66 ev_66 => ?_)
        have z_67 : v_66.toInt = a1_z + 1 := z_add ev_66 hz_a1 ti_1 (by omega) (by omega)
        refine lv_iload_n X.1 X.2.1 dX2_seek_70 rfl (lv_at hl 2 rfl) ?_
        refine lv_iload_n X.1 X.2.1 dX2_seek_71 rfl (lv_at hl 3 rfl) ?_
        refine lv_aload_n X.1 X.2.1 dX2_seek_72 rfl (lv_at hl 0 rfl) ?_
        have t_68 : At S_61 x 2 := hk_62.fr.at ha_x
        obtain ⟨q_69, h_70, h_71, h_72⟩ := gQ_2_201 hO_63.1 t_68
        refine r_getR (g := 201) X hw t_68 rfl 1 h_70 (by decide) rfl inn_X2_seek_2 (by decide) (X.2.2.2.1 (.fieldLink RX2 15 "SilkMill$Mixer" "weights" "[I") (by decide +kernel)) rfl (gv_201 _ _) dX2_seek_73 ?_
        refine lv_iload_n X.1 X.2.1 dX2_seek_76 rfl (lv_at hl 1 rfl) ?_
        refine r_iald X hw h_71 rfl (by rw [h_72]; exact z_ix hz_a1 (by omega) (by omega)) dX2_seek_77 ?_
        refine lv_topi (fun v_73 ev_73 => ?_)
        have rg_74 := And.intro (z_lo v_73) (z_hi v_73)
        have ev_73 := ev_73.symm
        refine lv_isub X.1 X.2.1 dX2_seek_78 ?_
        refine lv_topi (fun v_75 ev_75 => ?_)
        have rg_76 := And.intro (z_lo v_75) (z_hi v_75)
        refine lv_iload X.1 X.2.1 dX2_seek_79 (lv_at hl 4 rfl) ?_
        refine k_v (rm := { frames := 12, cells := 0, slots := 0, locals := 576 }) (av := [.ref x, .int (v_66), .int (a2), .int (v_75), .int (a4)]) X hw (va_runS (As := [.ref x, .int (v_66), .int (a2), .int (v_75), .int (a4)]) (rest := []) (cfix X) (k_X2_seek8_11 l G cy κ S_61 _ x (v_66) (v_66.toInt) (a2) (a2_z) (v_75) (v_75.toInt) (a4) (a4_z) hO_63.1 t_68 rfl hz_a2 rfl hz_a4 (by omega)) (cwS 5 X.2.2.2.1 gX2_seek_X2_seek rfl rfl rfl (by decide +kernel) ⟨Nat.le_of_ble_eq_true rfl, Nat.le_of_ble_eq_true rfl⟩) (pre_S X hw _) rfl rfl hl.1 rfl (lv_room (Nat.le_of_ble_eq_true rfl)) dX2_seek_81 ⟨Nat.le_of_ble_eq_true rfl, Nat.le_of_ble_eq_true rfl⟩) 0 0 (Nat.le_of_ble_eq_true rfl) (Nat.le_of_ble_eq_true rfl) (fun S_78 H locs hp hw hfr hnw => ?_)
        obtain ⟨hk_79, hp⟩ := hp
        have hO_80 : Ok eSK S S_78 := hO_63.call hk_79 (by decide +kernel)
        obtain ⟨sk_81, sk_82⟩ := hp
        have hc_83 : ¬ (a3.toInt < (pI S 205 x).toInt ∨ (pI S 206 x).toInt ≤ a4.toInt) := by omega
        have hn_84 : ¬ (pI S 203 x).toInt ≤ ((2 : Nat) : Int) := by omega
        have ai_85 : a1 = Int32.ofNat 2 := Int32.toInt_inj.mp (hz_a1.trans (by rw [show a1_z = 2 by omega]; decide))
        have sx_89 : mA S x 202 2 = v_56 := by rw [mA_eq h_53, show 2 = Int32.toNatClampNeg a1 from (by rw [z_nc hz_a1 (by omega)]; omega)]; exact ev_56
        have eW_91 : mA S_61 x 201 = mA S x 201 := mA_frc hk_62.fr ha_x (ex3 (gQ_2_201 hG ha_x)) (by decide +kernel) (by decide +kernel)
        have eP_92 : mA S_61 x 202 = mA S x 202 := mA_frc hk_62.fr ha_x (ex3 (gQ_2_202 hG ha_x)) (by decide +kernel) (by decide +kernel)
        have e3_93 : pI S_61 203 x = pI S 203 x := hk_62.fr.I' (by decide +kernel) ha_x rfl
        have e5_94 : pI S_61 205 x = pI S 205 x := hk_62.fr.I' (by decide +kernel) ha_x rfl
        have sx_90 : mA S x 201 2 = v_73 := by rw [← eW_91, mA_eq h_70, show 2 = Int32.toNatClampNeg a1 from (by rw [z_nc hz_a1 (by omega)]; omega)]; exact ev_73
        have sx_86 : v_50 = a2 ||| ((1 : Int32) <<< (Int32.ofNat 2 &&& 31)) := by rw [ev_50, ev_48, ai_85]
        have sx_87 : v_58 = a4 + mA S x 202 2 := by rw [ev_58, sx_89]
        have sx_88 : v_75 = a3 - mA S x 201 2 := by rw [ev_75, sx_90]
        rw [sx_86, sx_87] at sk_64 sk_65
        rw [e3_93, eW_91, eP_92, e5_94, sx_88] at sk_81 sk_82
        have q_95 : (pI S_61 206 x, pI S_61 207 x) = (skF (pI S 203 x).toInt (mA S x 201) (mA S x 202) (pI S 205 x) 11 3 (a2 ||| ((1 : Int32) <<< (Int32.ofNat 2 &&& 31))) a3 (a4 + mA S x 202 2) (pI S 206 x, pI S 207 x)) := Prod.ext sk_64 sk_65
        have q_96 : (pI S_78 206 x, pI S_78 207 x) = skF (pI S 203 x).toInt (mA S x 201) (mA S x 202) (pI S 205 x) 11 3 a2 (a3 - mA S x 201 2) a4 (pI S_61 206 x, pI S_61 207 x) := Prod.ext sk_81 sk_82
        rw [q_95] at q_96
        have fi_97 : (pI S_78 206 x, pI S_78 207 x) = skF (pI S 203 x).toInt (mA S x 201) (mA S x 202) (pI S 205 x) 12 2 a2 a3 a4 (pI S 206 x, pI S 207 x) := q_96.trans (skF_s (n := 11) (i := 2) (b := (pI S 206 x, pI S 207 x)) hc_83 hn_84).symm
        exact ret_v X hw hr hlocks (Nat.le_of_ble_eq_true rfl) (Nat.le_of_ble_eq_true rfl) ⟨hO_80, ⟨congrArg Prod.fst fi_97, congrArg Prod.snd fi_97⟩⟩ dX2_seek_84
    · have z_b_98 := trivial
      have k_99 : a4_z ≥ v_8.toInt := z_nlt hz_a4 rfl c_25
      have hb_100 : a3.toInt < (pI S 205 x).toInt ∨ (pI S 206 x).toInt ≤ a4.toInt := by omega
      exact ret_v X hw hr hlocks (Nat.le_of_ble_eq_true rfl) (Nat.le_of_ble_eq_true rfl) ⟨hO, (by rw [skF_b (b := (pI S 206 x, pI S 207 x)) hb_100]; exact ⟨rfl, rfl⟩)⟩ dX2_seek_17
set_option maxHeartbeats 4000000 in
set_option maxRecDepth 100000 in
theorem k_X2_seek8_13 (l : Launch) (G : va_G) (cy : Nat → ClassId) (κ : Nat → Nat) (S : PS) (sz : Nat) (x : Nat) (a1 : Int32) (a1_z : Int) (a2 : Int32) (a2_z : Int) (a3 : Int32) (a3_z : Int) (a4 : Int32) (a4_z : Int) (hG : GX S) (ha_x : At S x 2) (hz_a1 : a1.toInt = a1_z) (hz_a2 : a2.toInt = a2_z) (hz_a3 : a3.toInt = a3_z) (hz_a4 : a4.toInt = a4_z) (hp_0 : a1_z = 1) : Cv l yX2_seek wsX2_seek ({ frames := 14, cells := 0, slots := 0, locals := 672 }) G cy κ S sz [.ref x, .int (a1), .int (a2), .int (a3), .int (a4)] (fun (S9 : PS) => Ok eSK S S9 ∧ (pI S9 206 x = (skF (pI S 203 x).toInt (mA S x 201) (mA S x 202) (pI S 205 x) 13 1 a2 a3 a4 (pI S 206 x, pI S 207 x)).1 ∧ pI S9 207 x = (skF (pI S 203 x).toInt (mA S x 201) (mA S x 202) (pI S 205 x) 13 1 a2 a3 a4 (pI S 206 x, pI S 207 x)).2)) := by
  refine ent_m (cc := cX2_seek) (maxL := 5) (ret := none) (by decide) rfl (Nat.le_of_ble_eq_true rfl) ?_
  intro p e s m below meth c ls X hr hlocks hin hw hl hsz
  subst hsz
  have X : Cx p c cX2_seek 5 s [.ref x, .int (a1), .int (a2), .int (a3), .int (a4)].toArray wsX2_seek RX2 m G cy κ (AS S s.heap.size) := X
  have hl : lv_has ls 5 [(0, .ref x), (1, .int (a1)), (2, .int (a2)), (3, .int (a3)), (4, .int (a4))] := hl
  have rg_a1 : (-2147483648) ≤ a1_z ∧ a1_z ≤ 2147483647 := by rw [← hz_a1]; exact ⟨z_lo _, z_hi _⟩
  have rg_a2 : (-2147483648) ≤ a2_z ∧ a2_z ≤ 2147483647 := by rw [← hz_a2]; exact ⟨z_lo _, z_hi _⟩
  have rg_a3 : (-2147483648) ≤ a3_z ∧ a3_z ≤ 2147483647 := by rw [← hz_a3]; exact ⟨z_lo _, z_hi _⟩
  have rg_a4 : (-2147483648) ≤ a4_z ∧ a4_z ≤ 2147483647 := by rw [← hz_a4]; exact ⟨z_lo _, z_hi _⟩
  have hO : Ok eSK S S := Ok.rf hG
  obtain ⟨v_1, ev_1⟩ : ∃ v, pI S 203 x = v := ⟨_, rfl⟩
  have rg_2 := gI_2_203 hO.1 ha_x; rw [ev_1] at rg_2
  have pz_3 : (pI S 203 x).toInt = v_1.toInt := by rw [ev_1]
  obtain ⟨v_4, ev_4⟩ : ∃ v, pI S 205 x = v := ⟨_, rfl⟩
  have rg_6 := And.intro (z_lo v_4) (z_hi v_4)
  have pz_7 : (pI S 205 x).toInt = v_4.toInt := by rw [ev_4]
  obtain ⟨v_8, ev_8⟩ : ∃ v, pI S 206 x = v := ⟨_, rfl⟩
  have rg_10 := And.intro (z_lo v_8) (z_hi v_8)
  have pz_11 : (pI S 206 x).toInt = v_8.toInt := by rw [ev_8]
  obtain ⟨v_12, ev_12⟩ : ∃ v, pI S 207 x = v := ⟨_, rfl⟩
  have rg_14 := And.intro (z_lo v_12) (z_hi v_12)
  have pz_15 : (pI S 207 x).toInt = v_12.toInt := by rw [ev_12]
  have pz_16 : (pI S 203 x).toInt = v_1.toInt := (congrArg Int32.toInt ev_1).trans rfl
  have pz_17 : (pI S 205 x).toInt = v_4.toInt := (congrArg Int32.toInt ev_4).trans rfl
  have pz_18 : (pI S 206 x).toInt = v_8.toInt := (congrArg Int32.toInt ev_8).trans rfl
  refine lv_iload_n X.1 X.2.1 dX2_seek_0 rfl (lv_at hl 3 rfl) ?_
  refine lv_aload_n X.1 X.2.1 dX2_seek_1 rfl (lv_at hl 0 rfl) ?_
  refine r_getI (g := 205) (x := v_4) X hw ha_x rfl 5 ev_4 (by decide) rfl inn_X2_seek_2 (by decide) (X.2.2.2.1 (.fieldLink RX2 28 "SilkMill$Mixer" "wanted" "I") (by decide +kernel)) rfl (gv_205 _ _) dX2_seek_2 ?_
  refine lv_icmp_lt (tgt := 17) X.1 X.2.1 dX2_seek_5 (by decide) (fun c_19 => ?_) (fun c_19 => ?_)
  · have z_b_20 := trivial
    have k_21 : a3_z < v_4.toInt := z_lt hz_a3 rfl c_19
    have hb_22 : a3.toInt < (pI S 205 x).toInt ∨ (pI S 206 x).toInt ≤ a4.toInt := by omega
    exact ret_v X hw hr hlocks (Nat.le_of_ble_eq_true rfl) (Nat.le_of_ble_eq_true rfl) ⟨hO, (by rw [skF_b (b := (pI S 206 x, pI S 207 x)) hb_22]; exact ⟨rfl, rfl⟩)⟩ dX2_seek_17
  · have z_b_23 := trivial
    have k_24 : a3_z ≥ v_4.toInt := z_nlt hz_a3 rfl c_19
    refine lv_iload X.1 X.2.1 dX2_seek_8 (lv_at hl 4 rfl) ?_
    refine lv_aload_n X.1 X.2.1 dX2_seek_10 rfl (lv_at hl 0 rfl) ?_
    refine r_getI (g := 206) (x := v_8) X hw ha_x rfl 6 ev_8 (by decide) rfl inn_X2_seek_2 (by decide) (X.2.2.2.1 (.fieldLink RX2 34 "SilkMill$Mixer" "bestPrice" "I") (by decide +kernel)) rfl (gv_206 _ _) dX2_seek_11 ?_
    refine lv_icmp_lt (tgt := 18) X.1 X.2.1 dX2_seek_14 (by decide) (fun c_25 => ?_) (fun c_25 => ?_)
    · have z_b_26 := trivial
      have k_27 : a4_z < v_8.toInt := z_lt hz_a4 rfl c_25
      refine lv_iload_n X.1 X.2.1 dX2_seek_18 rfl (lv_at hl 1 rfl) ?_
      refine lv_aload_n X.1 X.2.1 dX2_seek_19 rfl (lv_at hl 0 rfl) ?_
      refine r_getI (g := 203) (x := v_1) X hw ha_x rfl 3 ev_1 (by decide) rfl inn_X2_seek_2 (by decide) (X.2.2.2.1 (.fieldLink RX2 21 "SilkMill$Mixer" "size" "I") (by decide +kernel)) rfl (gv_203 _ _) dX2_seek_20 ?_
      refine lv_icmp_ge (tgt := 32) X.1 X.2.1 dX2_seek_23 (by decide) (fun c_28 => ?_) (fun c_28 => ?_)
      · have z_b_29 := trivial
        have k_30 : a1_z ≥ v_1.toInt := z_le rfl hz_a1 c_28
        refine lv_aload_n X.1 X.2.1 dX2_seek_32 rfl (lv_at hl 0 rfl) ?_
        refine lv_iload X.1 X.2.1 dX2_seek_33 (lv_at hl 4 rfl) ?_
        refine r_putI (v := a4) X hw ha_x rfl 6 206 tyX2 (by decide) rfl inn_X2_seek_2 tyX2_ok nmX2 (by decide) (X.2.2.2.1 (.fieldLink RX2 34 "SilkMill$Mixer" "bestPrice" "I") (by decide +kernel)) rfl (Or.inl rfl) rfl rfl (Nat.le_of_ble_eq_true rfl) (st_206 _ _) dX2_seek_35 (fun H locs hw => ?_)
        obtain ⟨S_31, eS_31⟩ : ∃ T, T = sI S 206 x (a4) := ⟨_, rfl⟩
        rw [← eS_31] at hw
        have hO_32 : Ok eSK S S_31 := hO.sI eS_31 (by decide +kernel) (uI_2_206 hO.1 ha_x)
        have h_33 : pI S_31 206 x = a4 := tI_sIs eS_31
        refine lv_aload_n X.1 X.2.1 dX2_seek_38 rfl (lv_at hl 0 rfl) ?_
        refine lv_iload_n X.1 X.2.1 dX2_seek_39 rfl (lv_at hl 2 rfl) ?_
        have t_34 : At S_31 x 2 := tAt_sI eS_31 ha_x
        refine r_putI (v := a2) X hw t_34 rfl 7 207 tyX2 (by decide) rfl inn_X2_seek_2 tyX2_ok nmX2 (by decide) (X.2.2.2.1 (.fieldLink RX2 37 "SilkMill$Mixer" "bestSet" "I") (by decide +kernel)) rfl (Or.inl rfl) rfl rfl (Nat.le_of_ble_eq_true rfl) (st_207 _ _) dX2_seek_40 (fun H locs hw => ?_)
        obtain ⟨S_35, eS_35⟩ : ∃ T, T = sI S_31 207 x (a2) := ⟨_, rfl⟩
        rw [← eS_35] at hw
        have hO_36 : Ok eSK S S_35 := hO_32.sI eS_35 (by decide +kernel) (uI_2_207 hO_32.1 t_34)
        have h_37 : pI S_35 207 x = a2 := tI_sIs eS_35
        have hc_38 : ¬ (a3.toInt < (pI S 205 x).toInt ∨ (pI S 206 x).toInt ≤ a4.toInt) := by omega
        have hl_39 := skF_l (N := (pI S 203 x).toInt) (W := mA S x 201) (P := mA S x 202) (n := 13) (i := 1) (set := a2) (b := (pI S 206 x, pI S 207 x)) hc_38 (Or.inr (show (pI S 203 x).toInt ≤ ((1 : Nat) : Int) by omega))
        have t_40 : pI S_35 206 x = a4 := tI_sI eS_35 rfl h_33
        exact ret_v X hw hr hlocks (Nat.le_of_ble_eq_true rfl) (Nat.le_of_ble_eq_true rfl) ⟨hO_36, ⟨(t_40).trans (congrArg Prod.fst hl_39).symm, (h_37).trans (congrArg Prod.snd hl_39).symm⟩⟩ dX2_seek_43
      · have z_b_41 := trivial
        have k_42 : a1_z < v_1.toInt := z_nle rfl hz_a1 c_28
        refine lv_iload_n X.1 X.2.1 dX2_seek_26 rfl (lv_at hl 1 rfl) ?_
        refine lv_bipush (v := 14) X.1 X.2.1 dX2_seek_27 (by decide) ?_
        refine lv_icmp_lt (tgt := 44) X.1 X.2.1 dX2_seek_29 (by decide) (fun c_43 => ?_) (fun c_43 => ?_)
        rotate_left
        · exfalso
          have k_44 : a1_z ≥ 14 := z_nlt hz_a1 ti_14 c_43
          omega
        have k_45 : a1_z < 14 := z_lt hz_a1 ti_14 c_43
        refine lv_aload_n X.1 X.2.1 dX2_seek_44 rfl (lv_at hl 0 rfl) ?_
        refine lv_iload_n X.1 X.2.1 dX2_seek_45 rfl (lv_at hl 1 rfl) ?_
        refine lv_iconst (v := 1) X.1 X.2.1 dX2_seek_46 (by decide) ?_
        refine lv_iadd X.1 X.2.1 dX2_seek_47 ?_
        refine lv_topi (fun v_46 ev_46 => ?_)
        have z_47 : v_46.toInt = a1_z + 1 := z_add ev_46 hz_a1 ti_1 (by omega) (by omega)
        refine lv_iload_n X.1 X.2.1 dX2_seek_48 rfl (lv_at hl 2 rfl) ?_
        refine lv_iconst (v := 1) X.1 X.2.1 dX2_seek_49 (by decide) ?_
        refine lv_iload_n X.1 X.2.1 dX2_seek_50 rfl (lv_at hl 1 rfl) ?_
        refine lv_ishl X.1 X.2.1 dX2_seek_51 ?_
        refine lv_topi (fun v_48 ev_48 => ?_)
        have rg_49 := And.intro (z_lo v_48) (z_hi v_48)
        refine lv_ior X.1 X.2.1 dX2_seek_52 ?_
        refine lv_topi (fun v_50 ev_50 => ?_)
        have rg_51 := And.intro (z_lo v_50) (z_hi v_50)
        refine lv_iload_n X.1 X.2.1 dX2_seek_53 rfl (lv_at hl 3 rfl) ?_
        refine lv_iload X.1 X.2.1 dX2_seek_54 (lv_at hl 4 rfl) ?_
        refine lv_aload_n X.1 X.2.1 dX2_seek_56 rfl (lv_at hl 0 rfl) ?_
        obtain ⟨q_52, h_53, h_54, h_55⟩ := gQ_2_202 hO.1 ha_x
        refine r_getR (g := 202) X hw ha_x rfl 2 h_53 (by decide) rfl inn_X2_seek_2 (by decide) (X.2.2.2.1 (.fieldLink RX2 18 "SilkMill$Mixer" "prices" "[I") (by decide +kernel)) rfl (gv_202 _ _) dX2_seek_57 ?_
        refine lv_iload_n X.1 X.2.1 dX2_seek_60 rfl (lv_at hl 1 rfl) ?_
        refine r_iald X hw h_54 rfl (by rw [h_55]; exact z_ix hz_a1 (by omega) (by omega)) dX2_seek_61 ?_
        refine lv_topi (fun v_56 ev_56 => ?_)
        have rg_57 := And.intro (z_lo v_56) (z_hi v_56)
        have ev_56 := ev_56.symm
        refine lv_iadd X.1 X.2.1 dX2_seek_62 ?_
        refine lv_topi (fun v_58 ev_58 => ?_)
        have rg_59 := And.intro (z_lo v_58) (z_hi v_58)
        refine k_v (rm := { frames := 13, cells := 0, slots := 0, locals := 624 }) (av := [.ref x, .int (v_46), .int (v_50), .int (a3), .int (v_58)]) X hw (va_runS (As := [.ref x, .int (v_46), .int (v_50), .int (a3), .int (v_58)]) (rest := []) (cfix X) (k_X2_seek8_12 l G cy κ S _ x (v_46) (v_46.toInt) (v_50) (v_50.toInt) (a3) (a3_z) (v_58) (v_58.toInt) hO.1 ha_x rfl rfl hz_a3 rfl (by omega)) (cwS 5 X.2.2.2.1 gX2_seek_X2_seek rfl rfl rfl (by decide +kernel) ⟨Nat.le_of_ble_eq_true rfl, Nat.le_of_ble_eq_true rfl⟩) (pre_S X hw _) rfl rfl hl.1 rfl (lv_room (Nat.le_of_ble_eq_true rfl)) dX2_seek_63 ⟨Nat.le_of_ble_eq_true rfl, Nat.le_of_ble_eq_true rfl⟩) 0 0 (Nat.le_of_ble_eq_true rfl) (Nat.le_of_ble_eq_true rfl) (fun S_61 H locs hp hw hfr hnw => ?_)
        obtain ⟨hk_62, hp⟩ := hp
        have hO_63 : Ok eSK S S_61 := hO.call hk_62 (by decide +kernel)
        obtain ⟨sk_64, sk_65⟩ := hp
        refine lv_aload_n X.1 X.2.1 dX2_seek_66 rfl (lv_at hl 0 rfl) ?_
        refine lv_iload_n X.1 X.2.1 dX2_seek_67 rfl (lv_at hl 1 rfl) ?_
        refine lv_iconst (v := 1) X.1 X.2.1 dX2_seek_68 (by decide) ?_
        refine lv_iadd X.1 X.2.1 dX2_seek_69 ?_
        refine lv_topi (fun v_66 ev_66 => ?_)
        have z_67 : v_66.toInt = a1_z + 1 := z_add ev_66 hz_a1 ti_1 (by omega) (by omega)
        refine lv_iload_n X.1 X.2.1 dX2_seek_70 rfl (lv_at hl 2 rfl) ?_
        refine lv_iload_n X.1 X.2.1 dX2_seek_71 rfl (lv_at hl 3 rfl) ?_
        refine lv_aload_n X.1 X.2.1 dX2_seek_72 rfl (lv_at hl 0 rfl) ?_
        have t_68 : At S_61 x 2 := hk_62.fr.at ha_x
        obtain ⟨q_69, h_70, h_71, h_72⟩ := gQ_2_201 hO_63.1 t_68
        refine r_getR (g := 201) X hw t_68 rfl 1 h_70 (by decide) rfl inn_X2_seek_2 (by decide) (X.2.2.2.1 (.fieldLink RX2 15 "SilkMill$Mixer" "weights" "[I") (by decide +kernel)) rfl (gv_201 _ _) dX2_seek_73 ?_
        refine lv_iload_n X.1 X.2.1 dX2_seek_76 rfl (lv_at hl 1 rfl) ?_
        refine r_iald X hw h_71 rfl (by rw [h_72]; exact z_ix hz_a1 (by omega) (by omega)) dX2_seek_77 ?_
        refine lv_topi (fun v_73 ev_73 => ?_)
        have rg_74 := And.intro (z_lo v_73) (z_hi v_73)
        have ev_73 := ev_73.symm
        refine lv_isub X.1 X.2.1 dX2_seek_78 ?_
        refine lv_topi (fun v_75 ev_75 => ?_)
        have rg_76 := And.intro (z_lo v_75) (z_hi v_75)
        refine lv_iload X.1 X.2.1 dX2_seek_79 (lv_at hl 4 rfl) ?_
        refine k_v (rm := { frames := 13, cells := 0, slots := 0, locals := 624 }) (av := [.ref x, .int (v_66), .int (a2), .int (v_75), .int (a4)]) X hw (va_runS (As := [.ref x, .int (v_66), .int (a2), .int (v_75), .int (a4)]) (rest := []) (cfix X) (k_X2_seek8_12 l G cy κ S_61 _ x (v_66) (v_66.toInt) (a2) (a2_z) (v_75) (v_75.toInt) (a4) (a4_z) hO_63.1 t_68 rfl hz_a2 rfl hz_a4 (by omega)) (cwS 5 X.2.2.2.1 gX2_seek_X2_seek rfl rfl rfl (by decide +kernel) ⟨Nat.le_of_ble_eq_true rfl, Nat.le_of_ble_eq_true rfl⟩) (pre_S X hw _) rfl rfl hl.1 rfl (lv_room (Nat.le_of_ble_eq_true rfl)) dX2_seek_81 ⟨Nat.le_of_ble_eq_true rfl, Nat.le_of_ble_eq_true rfl⟩) 0 0 (Nat.le_of_ble_eq_true rfl) (Nat.le_of_ble_eq_true rfl) (fun S_78 H locs hp hw hfr hnw => ?_)
        obtain ⟨hk_79, hp⟩ := hp
        have hO_80 : Ok eSK S S_78 := hO_63.call hk_79 (by decide +kernel)
        obtain ⟨sk_81, sk_82⟩ := hp
        have hc_83 : ¬ (a3.toInt < (pI S 205 x).toInt ∨ (pI S 206 x).toInt ≤ a4.toInt) := by omega
        have hn_84 : ¬ (pI S 203 x).toInt ≤ ((1 : Nat) : Int) := by omega
        have ai_85 : a1 = Int32.ofNat 1 := Int32.toInt_inj.mp (hz_a1.trans (by rw [show a1_z = 1 by omega]; decide))
        have sx_89 : mA S x 202 1 = v_56 := by rw [mA_eq h_53, show 1 = Int32.toNatClampNeg a1 from (by rw [z_nc hz_a1 (by omega)]; omega)]; exact ev_56
        have eW_91 : mA S_61 x 201 = mA S x 201 := mA_frc hk_62.fr ha_x (ex3 (gQ_2_201 hG ha_x)) (by decide +kernel) (by decide +kernel)
        have eP_92 : mA S_61 x 202 = mA S x 202 := mA_frc hk_62.fr ha_x (ex3 (gQ_2_202 hG ha_x)) (by decide +kernel) (by decide +kernel)
        have e3_93 : pI S_61 203 x = pI S 203 x := hk_62.fr.I' (by decide +kernel) ha_x rfl
        have e5_94 : pI S_61 205 x = pI S 205 x := hk_62.fr.I' (by decide +kernel) ha_x rfl
        have sx_90 : mA S x 201 1 = v_73 := by rw [← eW_91, mA_eq h_70, show 1 = Int32.toNatClampNeg a1 from (by rw [z_nc hz_a1 (by omega)]; omega)]; exact ev_73
        have sx_86 : v_50 = a2 ||| ((1 : Int32) <<< (Int32.ofNat 1 &&& 31)) := by rw [ev_50, ev_48, ai_85]
        have sx_87 : v_58 = a4 + mA S x 202 1 := by rw [ev_58, sx_89]
        have sx_88 : v_75 = a3 - mA S x 201 1 := by rw [ev_75, sx_90]
        rw [sx_86, sx_87] at sk_64 sk_65
        rw [e3_93, eW_91, eP_92, e5_94, sx_88] at sk_81 sk_82
        have q_95 : (pI S_61 206 x, pI S_61 207 x) = (skF (pI S 203 x).toInt (mA S x 201) (mA S x 202) (pI S 205 x) 12 2 (a2 ||| ((1 : Int32) <<< (Int32.ofNat 1 &&& 31))) a3 (a4 + mA S x 202 1) (pI S 206 x, pI S 207 x)) := Prod.ext sk_64 sk_65
        have q_96 : (pI S_78 206 x, pI S_78 207 x) = skF (pI S 203 x).toInt (mA S x 201) (mA S x 202) (pI S 205 x) 12 2 a2 (a3 - mA S x 201 1) a4 (pI S_61 206 x, pI S_61 207 x) := Prod.ext sk_81 sk_82
        rw [q_95] at q_96
        have fi_97 : (pI S_78 206 x, pI S_78 207 x) = skF (pI S 203 x).toInt (mA S x 201) (mA S x 202) (pI S 205 x) 13 1 a2 a3 a4 (pI S 206 x, pI S 207 x) := q_96.trans (skF_s (n := 12) (i := 1) (b := (pI S 206 x, pI S 207 x)) hc_83 hn_84).symm
        exact ret_v X hw hr hlocks (Nat.le_of_ble_eq_true rfl) (Nat.le_of_ble_eq_true rfl) ⟨hO_80, ⟨congrArg Prod.fst fi_97, congrArg Prod.snd fi_97⟩⟩ dX2_seek_84
    · have z_b_98 := trivial
      have k_99 : a4_z ≥ v_8.toInt := z_nlt hz_a4 rfl c_25
      have hb_100 : a3.toInt < (pI S 205 x).toInt ∨ (pI S 206 x).toInt ≤ a4.toInt := by omega
      exact ret_v X hw hr hlocks (Nat.le_of_ble_eq_true rfl) (Nat.le_of_ble_eq_true rfl) ⟨hO, (by rw [skF_b (b := (pI S 206 x, pI S 207 x)) hb_100]; exact ⟨rfl, rfl⟩)⟩ dX2_seek_17
set_option maxHeartbeats 4000000 in
set_option maxRecDepth 100000 in
theorem k_X2_seek8_14 (l : Launch) (G : va_G) (cy : Nat → ClassId) (κ : Nat → Nat) (S : PS) (sz : Nat) (x : Nat) (a1 : Int32) (a1_z : Int) (a2 : Int32) (a2_z : Int) (a3 : Int32) (a3_z : Int) (a4 : Int32) (a4_z : Int) (hG : GX S) (ha_x : At S x 2) (hz_a1 : a1.toInt = a1_z) (hz_a2 : a2.toInt = a2_z) (hz_a3 : a3.toInt = a3_z) (hz_a4 : a4.toInt = a4_z) (hp_0 : a1_z = 0) : Cv l yX2_seek wsX2_seek ({ frames := 15, cells := 0, slots := 0, locals := 720 }) G cy κ S sz [.ref x, .int (a1), .int (a2), .int (a3), .int (a4)] (fun (S9 : PS) => Ok eSK S S9 ∧ (pI S9 206 x = (skF (pI S 203 x).toInt (mA S x 201) (mA S x 202) (pI S 205 x) 14 0 a2 a3 a4 (pI S 206 x, pI S 207 x)).1 ∧ pI S9 207 x = (skF (pI S 203 x).toInt (mA S x 201) (mA S x 202) (pI S 205 x) 14 0 a2 a3 a4 (pI S 206 x, pI S 207 x)).2)) := by
  refine ent_m (cc := cX2_seek) (maxL := 5) (ret := none) (by decide) rfl (Nat.le_of_ble_eq_true rfl) ?_
  intro p e s m below meth c ls X hr hlocks hin hw hl hsz
  subst hsz
  have X : Cx p c cX2_seek 5 s [.ref x, .int (a1), .int (a2), .int (a3), .int (a4)].toArray wsX2_seek RX2 m G cy κ (AS S s.heap.size) := X
  have hl : lv_has ls 5 [(0, .ref x), (1, .int (a1)), (2, .int (a2)), (3, .int (a3)), (4, .int (a4))] := hl
  have rg_a1 : (-2147483648) ≤ a1_z ∧ a1_z ≤ 2147483647 := by rw [← hz_a1]; exact ⟨z_lo _, z_hi _⟩
  have rg_a2 : (-2147483648) ≤ a2_z ∧ a2_z ≤ 2147483647 := by rw [← hz_a2]; exact ⟨z_lo _, z_hi _⟩
  have rg_a3 : (-2147483648) ≤ a3_z ∧ a3_z ≤ 2147483647 := by rw [← hz_a3]; exact ⟨z_lo _, z_hi _⟩
  have rg_a4 : (-2147483648) ≤ a4_z ∧ a4_z ≤ 2147483647 := by rw [← hz_a4]; exact ⟨z_lo _, z_hi _⟩
  have hO : Ok eSK S S := Ok.rf hG
  obtain ⟨v_1, ev_1⟩ : ∃ v, pI S 203 x = v := ⟨_, rfl⟩
  have rg_2 := gI_2_203 hO.1 ha_x; rw [ev_1] at rg_2
  have pz_3 : (pI S 203 x).toInt = v_1.toInt := by rw [ev_1]
  obtain ⟨v_4, ev_4⟩ : ∃ v, pI S 205 x = v := ⟨_, rfl⟩
  have rg_6 := And.intro (z_lo v_4) (z_hi v_4)
  have pz_7 : (pI S 205 x).toInt = v_4.toInt := by rw [ev_4]
  obtain ⟨v_8, ev_8⟩ : ∃ v, pI S 206 x = v := ⟨_, rfl⟩
  have rg_10 := And.intro (z_lo v_8) (z_hi v_8)
  have pz_11 : (pI S 206 x).toInt = v_8.toInt := by rw [ev_8]
  obtain ⟨v_12, ev_12⟩ : ∃ v, pI S 207 x = v := ⟨_, rfl⟩
  have rg_14 := And.intro (z_lo v_12) (z_hi v_12)
  have pz_15 : (pI S 207 x).toInt = v_12.toInt := by rw [ev_12]
  have pz_16 : (pI S 203 x).toInt = v_1.toInt := (congrArg Int32.toInt ev_1).trans rfl
  have pz_17 : (pI S 205 x).toInt = v_4.toInt := (congrArg Int32.toInt ev_4).trans rfl
  have pz_18 : (pI S 206 x).toInt = v_8.toInt := (congrArg Int32.toInt ev_8).trans rfl
  refine lv_iload_n X.1 X.2.1 dX2_seek_0 rfl (lv_at hl 3 rfl) ?_
  refine lv_aload_n X.1 X.2.1 dX2_seek_1 rfl (lv_at hl 0 rfl) ?_
  refine r_getI (g := 205) (x := v_4) X hw ha_x rfl 5 ev_4 (by decide) rfl inn_X2_seek_2 (by decide) (X.2.2.2.1 (.fieldLink RX2 28 "SilkMill$Mixer" "wanted" "I") (by decide +kernel)) rfl (gv_205 _ _) dX2_seek_2 ?_
  refine lv_icmp_lt (tgt := 17) X.1 X.2.1 dX2_seek_5 (by decide) (fun c_19 => ?_) (fun c_19 => ?_)
  · have z_b_20 := trivial
    have k_21 : a3_z < v_4.toInt := z_lt hz_a3 rfl c_19
    have hb_22 : a3.toInt < (pI S 205 x).toInt ∨ (pI S 206 x).toInt ≤ a4.toInt := by omega
    exact ret_v X hw hr hlocks (Nat.le_of_ble_eq_true rfl) (Nat.le_of_ble_eq_true rfl) ⟨hO, (by rw [skF_b (b := (pI S 206 x, pI S 207 x)) hb_22]; exact ⟨rfl, rfl⟩)⟩ dX2_seek_17
  · have z_b_23 := trivial
    have k_24 : a3_z ≥ v_4.toInt := z_nlt hz_a3 rfl c_19
    refine lv_iload X.1 X.2.1 dX2_seek_8 (lv_at hl 4 rfl) ?_
    refine lv_aload_n X.1 X.2.1 dX2_seek_10 rfl (lv_at hl 0 rfl) ?_
    refine r_getI (g := 206) (x := v_8) X hw ha_x rfl 6 ev_8 (by decide) rfl inn_X2_seek_2 (by decide) (X.2.2.2.1 (.fieldLink RX2 34 "SilkMill$Mixer" "bestPrice" "I") (by decide +kernel)) rfl (gv_206 _ _) dX2_seek_11 ?_
    refine lv_icmp_lt (tgt := 18) X.1 X.2.1 dX2_seek_14 (by decide) (fun c_25 => ?_) (fun c_25 => ?_)
    · have z_b_26 := trivial
      have k_27 : a4_z < v_8.toInt := z_lt hz_a4 rfl c_25
      refine lv_iload_n X.1 X.2.1 dX2_seek_18 rfl (lv_at hl 1 rfl) ?_
      refine lv_aload_n X.1 X.2.1 dX2_seek_19 rfl (lv_at hl 0 rfl) ?_
      refine r_getI (g := 203) (x := v_1) X hw ha_x rfl 3 ev_1 (by decide) rfl inn_X2_seek_2 (by decide) (X.2.2.2.1 (.fieldLink RX2 21 "SilkMill$Mixer" "size" "I") (by decide +kernel)) rfl (gv_203 _ _) dX2_seek_20 ?_
      refine lv_icmp_ge (tgt := 32) X.1 X.2.1 dX2_seek_23 (by decide) (fun c_28 => ?_) (fun c_28 => ?_)
      · have z_b_29 := trivial
        have k_30 : a1_z ≥ v_1.toInt := z_le rfl hz_a1 c_28
        refine lv_aload_n X.1 X.2.1 dX2_seek_32 rfl (lv_at hl 0 rfl) ?_
        refine lv_iload X.1 X.2.1 dX2_seek_33 (lv_at hl 4 rfl) ?_
        refine r_putI (v := a4) X hw ha_x rfl 6 206 tyX2 (by decide) rfl inn_X2_seek_2 tyX2_ok nmX2 (by decide) (X.2.2.2.1 (.fieldLink RX2 34 "SilkMill$Mixer" "bestPrice" "I") (by decide +kernel)) rfl (Or.inl rfl) rfl rfl (Nat.le_of_ble_eq_true rfl) (st_206 _ _) dX2_seek_35 (fun H locs hw => ?_)
        obtain ⟨S_31, eS_31⟩ : ∃ T, T = sI S 206 x (a4) := ⟨_, rfl⟩
        rw [← eS_31] at hw
        have hO_32 : Ok eSK S S_31 := hO.sI eS_31 (by decide +kernel) (uI_2_206 hO.1 ha_x)
        have h_33 : pI S_31 206 x = a4 := tI_sIs eS_31
        refine lv_aload_n X.1 X.2.1 dX2_seek_38 rfl (lv_at hl 0 rfl) ?_
        refine lv_iload_n X.1 X.2.1 dX2_seek_39 rfl (lv_at hl 2 rfl) ?_
        have t_34 : At S_31 x 2 := tAt_sI eS_31 ha_x
        refine r_putI (v := a2) X hw t_34 rfl 7 207 tyX2 (by decide) rfl inn_X2_seek_2 tyX2_ok nmX2 (by decide) (X.2.2.2.1 (.fieldLink RX2 37 "SilkMill$Mixer" "bestSet" "I") (by decide +kernel)) rfl (Or.inl rfl) rfl rfl (Nat.le_of_ble_eq_true rfl) (st_207 _ _) dX2_seek_40 (fun H locs hw => ?_)
        obtain ⟨S_35, eS_35⟩ : ∃ T, T = sI S_31 207 x (a2) := ⟨_, rfl⟩
        rw [← eS_35] at hw
        have hO_36 : Ok eSK S S_35 := hO_32.sI eS_35 (by decide +kernel) (uI_2_207 hO_32.1 t_34)
        have h_37 : pI S_35 207 x = a2 := tI_sIs eS_35
        have hc_38 : ¬ (a3.toInt < (pI S 205 x).toInt ∨ (pI S 206 x).toInt ≤ a4.toInt) := by omega
        have hl_39 := skF_l (N := (pI S 203 x).toInt) (W := mA S x 201) (P := mA S x 202) (n := 14) (i := 0) (set := a2) (b := (pI S 206 x, pI S 207 x)) hc_38 (Or.inr (show (pI S 203 x).toInt ≤ ((0 : Nat) : Int) by omega))
        have t_40 : pI S_35 206 x = a4 := tI_sI eS_35 rfl h_33
        exact ret_v X hw hr hlocks (Nat.le_of_ble_eq_true rfl) (Nat.le_of_ble_eq_true rfl) ⟨hO_36, ⟨(t_40).trans (congrArg Prod.fst hl_39).symm, (h_37).trans (congrArg Prod.snd hl_39).symm⟩⟩ dX2_seek_43
      · have z_b_41 := trivial
        have k_42 : a1_z < v_1.toInt := z_nle rfl hz_a1 c_28
        refine lv_iload_n X.1 X.2.1 dX2_seek_26 rfl (lv_at hl 1 rfl) ?_
        refine lv_bipush (v := 14) X.1 X.2.1 dX2_seek_27 (by decide) ?_
        refine lv_icmp_lt (tgt := 44) X.1 X.2.1 dX2_seek_29 (by decide) (fun c_43 => ?_) (fun c_43 => ?_)
        rotate_left
        · exfalso
          have k_44 : a1_z ≥ 14 := z_nlt hz_a1 ti_14 c_43
          omega
        have k_45 : a1_z < 14 := z_lt hz_a1 ti_14 c_43
        refine lv_aload_n X.1 X.2.1 dX2_seek_44 rfl (lv_at hl 0 rfl) ?_
        refine lv_iload_n X.1 X.2.1 dX2_seek_45 rfl (lv_at hl 1 rfl) ?_
        refine lv_iconst (v := 1) X.1 X.2.1 dX2_seek_46 (by decide) ?_
        refine lv_iadd X.1 X.2.1 dX2_seek_47 ?_
        refine lv_topi (fun v_46 ev_46 => ?_)
        have z_47 : v_46.toInt = a1_z + 1 := z_add ev_46 hz_a1 ti_1 (by omega) (by omega)
        refine lv_iload_n X.1 X.2.1 dX2_seek_48 rfl (lv_at hl 2 rfl) ?_
        refine lv_iconst (v := 1) X.1 X.2.1 dX2_seek_49 (by decide) ?_
        refine lv_iload_n X.1 X.2.1 dX2_seek_50 rfl (lv_at hl 1 rfl) ?_
        refine lv_ishl X.1 X.2.1 dX2_seek_51 ?_
        refine lv_topi (fun v_48 ev_48 => ?_)
        have rg_49 := And.intro (z_lo v_48) (z_hi v_48)
        refine lv_ior X.1 X.2.1 dX2_seek_52 ?_
        refine lv_topi (fun v_50 ev_50 => ?_)
        have rg_51 := And.intro (z_lo v_50) (z_hi v_50)
        refine lv_iload_n X.1 X.2.1 dX2_seek_53 rfl (lv_at hl 3 rfl) ?_
        refine lv_iload X.1 X.2.1 dX2_seek_54 (lv_at hl 4 rfl) ?_
        refine lv_aload_n X.1 X.2.1 dX2_seek_56 rfl (lv_at hl 0 rfl) ?_
        obtain ⟨q_52, h_53, h_54, h_55⟩ := gQ_2_202 hO.1 ha_x
        refine r_getR (g := 202) X hw ha_x rfl 2 h_53 (by decide) rfl inn_X2_seek_2 (by decide) (X.2.2.2.1 (.fieldLink RX2 18 "SilkMill$Mixer" "prices" "[I") (by decide +kernel)) rfl (gv_202 _ _) dX2_seek_57 ?_
        refine lv_iload_n X.1 X.2.1 dX2_seek_60 rfl (lv_at hl 1 rfl) ?_
        refine r_iald X hw h_54 rfl (by rw [h_55]; exact z_ix hz_a1 (by omega) (by omega)) dX2_seek_61 ?_
        refine lv_topi (fun v_56 ev_56 => ?_)
        have rg_57 := And.intro (z_lo v_56) (z_hi v_56)
        have ev_56 := ev_56.symm
        refine lv_iadd X.1 X.2.1 dX2_seek_62 ?_
        refine lv_topi (fun v_58 ev_58 => ?_)
        have rg_59 := And.intro (z_lo v_58) (z_hi v_58)
        refine k_v (rm := { frames := 14, cells := 0, slots := 0, locals := 672 }) (av := [.ref x, .int (v_46), .int (v_50), .int (a3), .int (v_58)]) X hw (va_runS (As := [.ref x, .int (v_46), .int (v_50), .int (a3), .int (v_58)]) (rest := []) (cfix X) (k_X2_seek8_13 l G cy κ S _ x (v_46) (v_46.toInt) (v_50) (v_50.toInt) (a3) (a3_z) (v_58) (v_58.toInt) hO.1 ha_x rfl rfl hz_a3 rfl (by omega)) (cwS 5 X.2.2.2.1 gX2_seek_X2_seek rfl rfl rfl (by decide +kernel) ⟨Nat.le_of_ble_eq_true rfl, Nat.le_of_ble_eq_true rfl⟩) (pre_S X hw _) rfl rfl hl.1 rfl (lv_room (Nat.le_of_ble_eq_true rfl)) dX2_seek_63 ⟨Nat.le_of_ble_eq_true rfl, Nat.le_of_ble_eq_true rfl⟩) 0 0 (Nat.le_of_ble_eq_true rfl) (Nat.le_of_ble_eq_true rfl) (fun S_61 H locs hp hw hfr hnw => ?_)
        obtain ⟨hk_62, hp⟩ := hp
        have hO_63 : Ok eSK S S_61 := hO.call hk_62 (by decide +kernel)
        obtain ⟨sk_64, sk_65⟩ := hp
        refine lv_aload_n X.1 X.2.1 dX2_seek_66 rfl (lv_at hl 0 rfl) ?_
        refine lv_iload_n X.1 X.2.1 dX2_seek_67 rfl (lv_at hl 1 rfl) ?_
        refine lv_iconst (v := 1) X.1 X.2.1 dX2_seek_68 (by decide) ?_
        refine lv_iadd X.1 X.2.1 dX2_seek_69 ?_
        refine lv_topi (fun v_66 ev_66 => ?_)
        have z_67 : v_66.toInt = a1_z + 1 := z_add ev_66 hz_a1 ti_1 (by omega) (by omega)
        refine lv_iload_n X.1 X.2.1 dX2_seek_70 rfl (lv_at hl 2 rfl) ?_
        refine lv_iload_n X.1 X.2.1 dX2_seek_71 rfl (lv_at hl 3 rfl) ?_
        refine lv_aload_n X.1 X.2.1 dX2_seek_72 rfl (lv_at hl 0 rfl) ?_
        have t_68 : At S_61 x 2 := hk_62.fr.at ha_x
        obtain ⟨q_69, h_70, h_71, h_72⟩ := gQ_2_201 hO_63.1 t_68
        refine r_getR (g := 201) X hw t_68 rfl 1 h_70 (by decide) rfl inn_X2_seek_2 (by decide) (X.2.2.2.1 (.fieldLink RX2 15 "SilkMill$Mixer" "weights" "[I") (by decide +kernel)) rfl (gv_201 _ _) dX2_seek_73 ?_
        refine lv_iload_n X.1 X.2.1 dX2_seek_76 rfl (lv_at hl 1 rfl) ?_
        refine r_iald X hw h_71 rfl (by rw [h_72]; exact z_ix hz_a1 (by omega) (by omega)) dX2_seek_77 ?_
        refine lv_topi (fun v_73 ev_73 => ?_)
        have rg_74 := And.intro (z_lo v_73) (z_hi v_73)
        have ev_73 := ev_73.symm
        refine lv_isub X.1 X.2.1 dX2_seek_78 ?_
        refine lv_topi (fun v_75 ev_75 => ?_)
        have rg_76 := And.intro (z_lo v_75) (z_hi v_75)
        refine lv_iload X.1 X.2.1 dX2_seek_79 (lv_at hl 4 rfl) ?_
        refine k_v (rm := { frames := 14, cells := 0, slots := 0, locals := 672 }) (av := [.ref x, .int (v_66), .int (a2), .int (v_75), .int (a4)]) X hw (va_runS (As := [.ref x, .int (v_66), .int (a2), .int (v_75), .int (a4)]) (rest := []) (cfix X) (k_X2_seek8_13 l G cy κ S_61 _ x (v_66) (v_66.toInt) (a2) (a2_z) (v_75) (v_75.toInt) (a4) (a4_z) hO_63.1 t_68 rfl hz_a2 rfl hz_a4 (by omega)) (cwS 5 X.2.2.2.1 gX2_seek_X2_seek rfl rfl rfl (by decide +kernel) ⟨Nat.le_of_ble_eq_true rfl, Nat.le_of_ble_eq_true rfl⟩) (pre_S X hw _) rfl rfl hl.1 rfl (lv_room (Nat.le_of_ble_eq_true rfl)) dX2_seek_81 ⟨Nat.le_of_ble_eq_true rfl, Nat.le_of_ble_eq_true rfl⟩) 0 0 (Nat.le_of_ble_eq_true rfl) (Nat.le_of_ble_eq_true rfl) (fun S_78 H locs hp hw hfr hnw => ?_)
        obtain ⟨hk_79, hp⟩ := hp
        have hO_80 : Ok eSK S S_78 := hO_63.call hk_79 (by decide +kernel)
        obtain ⟨sk_81, sk_82⟩ := hp
        have hc_83 : ¬ (a3.toInt < (pI S 205 x).toInt ∨ (pI S 206 x).toInt ≤ a4.toInt) := by omega
        have hn_84 : ¬ (pI S 203 x).toInt ≤ ((0 : Nat) : Int) := by omega
        have ai_85 : a1 = Int32.ofNat 0 := Int32.toInt_inj.mp (hz_a1.trans (by rw [show a1_z = 0 by omega]; decide))
        have sx_89 : mA S x 202 0 = v_56 := by rw [mA_eq h_53, show 0 = Int32.toNatClampNeg a1 from (by rw [z_nc hz_a1 (by omega)]; omega)]; exact ev_56
        have eW_91 : mA S_61 x 201 = mA S x 201 := mA_frc hk_62.fr ha_x (ex3 (gQ_2_201 hG ha_x)) (by decide +kernel) (by decide +kernel)
        have eP_92 : mA S_61 x 202 = mA S x 202 := mA_frc hk_62.fr ha_x (ex3 (gQ_2_202 hG ha_x)) (by decide +kernel) (by decide +kernel)
        have e3_93 : pI S_61 203 x = pI S 203 x := hk_62.fr.I' (by decide +kernel) ha_x rfl
        have e5_94 : pI S_61 205 x = pI S 205 x := hk_62.fr.I' (by decide +kernel) ha_x rfl
        have sx_90 : mA S x 201 0 = v_73 := by rw [← eW_91, mA_eq h_70, show 0 = Int32.toNatClampNeg a1 from (by rw [z_nc hz_a1 (by omega)]; omega)]; exact ev_73
        have sx_86 : v_50 = a2 ||| ((1 : Int32) <<< (Int32.ofNat 0 &&& 31)) := by rw [ev_50, ev_48, ai_85]
        have sx_87 : v_58 = a4 + mA S x 202 0 := by rw [ev_58, sx_89]
        have sx_88 : v_75 = a3 - mA S x 201 0 := by rw [ev_75, sx_90]
        rw [sx_86, sx_87] at sk_64 sk_65
        rw [e3_93, eW_91, eP_92, e5_94, sx_88] at sk_81 sk_82
        have q_95 : (pI S_61 206 x, pI S_61 207 x) = (skF (pI S 203 x).toInt (mA S x 201) (mA S x 202) (pI S 205 x) 13 1 (a2 ||| ((1 : Int32) <<< (Int32.ofNat 0 &&& 31))) a3 (a4 + mA S x 202 0) (pI S 206 x, pI S 207 x)) := Prod.ext sk_64 sk_65
        have q_96 : (pI S_78 206 x, pI S_78 207 x) = skF (pI S 203 x).toInt (mA S x 201) (mA S x 202) (pI S 205 x) 13 1 a2 (a3 - mA S x 201 0) a4 (pI S_61 206 x, pI S_61 207 x) := Prod.ext sk_81 sk_82
        rw [q_95] at q_96
        have fi_97 : (pI S_78 206 x, pI S_78 207 x) = skF (pI S 203 x).toInt (mA S x 201) (mA S x 202) (pI S 205 x) 14 0 a2 a3 a4 (pI S 206 x, pI S 207 x) := q_96.trans (skF_s (n := 13) (i := 0) (b := (pI S 206 x, pI S 207 x)) hc_83 hn_84).symm
        exact ret_v X hw hr hlocks (Nat.le_of_ble_eq_true rfl) (Nat.le_of_ble_eq_true rfl) ⟨hO_80, ⟨congrArg Prod.fst fi_97, congrArg Prod.snd fi_97⟩⟩ dX2_seek_84
    · have z_b_98 := trivial
      have k_99 : a4_z ≥ v_8.toInt := z_nlt hz_a4 rfl c_25
      have hb_100 : a3.toInt < (pI S 205 x).toInt ∨ (pI S 206 x).toInt ≤ a4.toInt := by omega
      exact ret_v X hw hr hlocks (Nat.le_of_ble_eq_true rfl) (Nat.le_of_ble_eq_true rfl) ⟨hO, (by rw [skF_b (b := (pI S 206 x, pI S 207 x)) hb_100]; exact ⟨rfl, rfl⟩)⟩ dX2_seek_17
set_option maxHeartbeats 4000000 in
set_option maxRecDepth 100000 in
theorem k_X2_beginFor8 (l : Launch) (G : va_G) (cy : Nat → ClassId) (κ : Nat → Nat) (S : PS) (sz : Nat) (x : Nat) (a1 : Int32) (a1_z : Int) (hG : GX S) (ha_x : At S x 2) (hz_a1 : a1.toInt = a1_z) : Cv l yX2_beginFor wsX2_beginFor ({ frames := 1, cells := 0, slots := 0, locals := 48 }) G cy κ S sz [.ref x, .int (a1)] (fun (S9 : PS) => Ok eMX S S9 ∧ (pI S9 203 x = 0 ∧ pI S9 204 x = 0 ∧ pI S9 205 x = a1 ∧ pI S9 206 x = 2147483647 ∧ pI S9 207 x = 0)) := by
  refine ent_m (cc := cX2_beginFor) (maxL := 2) (ret := none) (by decide) rfl (Nat.le_of_ble_eq_true rfl) ?_
  intro p e s m below meth c ls X hr hlocks hin hw hl hsz
  subst hsz
  have X : Cx p c cX2_beginFor 2 s [.ref x, .int (a1)].toArray wsX2_beginFor RX2 m G cy κ (AS S s.heap.size) := X
  have hl : lv_has ls 2 [(0, .ref x), (1, .int (a1))] := hl
  have rg_a1 : (-2147483648) ≤ a1_z ∧ a1_z ≤ 2147483647 := by rw [← hz_a1]; exact ⟨z_lo _, z_hi _⟩
  have hO : Ok eMX S S := Ok.rf hG
  refine lv_aload_n X.1 X.2.1 dX2_beginFor_0 rfl (lv_at hl 0 rfl) ?_
  refine lv_iconst (v := 0) X.1 X.2.1 dX2_beginFor_1 (by decide) ?_
  refine r_putI (v := 0) X hw ha_x rfl 3 203 tyX2 (by decide) rfl inn_X2_beginFor_2 tyX2_ok nmX2 (by decide) (X.2.2.2.1 (.fieldLink RX2 21 "SilkMill$Mixer" "size" "I") (by decide +kernel)) rfl (Or.inl rfl) rfl rfl (Nat.le_of_ble_eq_true rfl) (st_203 _ _) dX2_beginFor_2 (fun H locs hw => ?_)
  obtain ⟨S_1, eS_1⟩ : ∃ T, T = sI S 203 x (0) := ⟨_, rfl⟩
  rw [← eS_1] at hw
  have hO_2 : Ok eMX S S_1 := hO.sI eS_1 (by decide +kernel) (uI_2_203 hO.1 ha_x (by rw [ti_0]; omega) (by rw [ti_0]; omega))
  have h_3 : pI S_1 203 x = 0 := tI_sIs eS_1
  refine lv_aload_n X.1 X.2.1 dX2_beginFor_5 rfl (lv_at hl 0 rfl) ?_
  refine lv_iconst (v := 0) X.1 X.2.1 dX2_beginFor_6 (by decide) ?_
  have t_4 : At S_1 x 2 := tAt_sI eS_1 ha_x
  refine r_putI (v := 0) X hw t_4 rfl 4 204 tyX2 (by decide) rfl inn_X2_beginFor_2 tyX2_ok nmX2 (by decide) (X.2.2.2.1 (.fieldLink RX2 25 "SilkMill$Mixer" "offered" "I") (by decide +kernel)) rfl (Or.inl rfl) rfl rfl (Nat.le_of_ble_eq_true rfl) (st_204 _ _) dX2_beginFor_7 (fun H locs hw => ?_)
  obtain ⟨S_5, eS_5⟩ : ∃ T, T = sI S_1 204 x (0) := ⟨_, rfl⟩
  rw [← eS_5] at hw
  have hO_6 : Ok eMX S S_5 := hO_2.sI eS_5 (by decide +kernel) (uI_2_204 hO_2.1 t_4)
  have h_7 : pI S_5 204 x = 0 := tI_sIs eS_5
  refine lv_aload_n X.1 X.2.1 dX2_beginFor_10 rfl (lv_at hl 0 rfl) ?_
  refine lv_iload_n X.1 X.2.1 dX2_beginFor_11 rfl (lv_at hl 1 rfl) ?_
  have t_8 : At S_5 x 2 := tAt_sI eS_5 t_4
  refine r_putI (v := a1) X hw t_8 rfl 5 205 tyX2 (by decide) rfl inn_X2_beginFor_2 tyX2_ok nmX2 (by decide) (X.2.2.2.1 (.fieldLink RX2 28 "SilkMill$Mixer" "wanted" "I") (by decide +kernel)) rfl (Or.inl rfl) rfl rfl (Nat.le_of_ble_eq_true rfl) (st_205 _ _) dX2_beginFor_12 (fun H locs hw => ?_)
  obtain ⟨S_9, eS_9⟩ : ∃ T, T = sI S_5 205 x (a1) := ⟨_, rfl⟩
  rw [← eS_9] at hw
  have hO_10 : Ok eMX S S_9 := hO_6.sI eS_9 (by decide +kernel) (uI_2_205 hO_6.1 t_8)
  have h_11 : pI S_9 205 x = a1 := tI_sIs eS_9
  refine lv_aload_n X.1 X.2.1 dX2_beginFor_15 rfl (lv_at hl 0 rfl) ?_
  refine lv_ldc (v := 2147483647) X.1 X.2.1 X.2.2.2.2.1 (X.2.2.2.1 (.constant RX2 33 2147483647) (by decide +kernel)) dX2_beginFor_16 ?_
  have t_12 : At S_9 x 2 := tAt_sI eS_9 t_8
  refine r_putI (v := 2147483647) X hw t_12 rfl 6 206 tyX2 (by decide) rfl inn_X2_beginFor_2 tyX2_ok nmX2 (by decide) (X.2.2.2.1 (.fieldLink RX2 34 "SilkMill$Mixer" "bestPrice" "I") (by decide +kernel)) rfl (Or.inl rfl) rfl rfl (Nat.le_of_ble_eq_true rfl) (st_206 _ _) dX2_beginFor_18 (fun H locs hw => ?_)
  obtain ⟨S_13, eS_13⟩ : ∃ T, T = sI S_9 206 x (2147483647) := ⟨_, rfl⟩
  rw [← eS_13] at hw
  have hO_14 : Ok eMX S S_13 := hO_10.sI eS_13 (by decide +kernel) (uI_2_206 hO_10.1 t_12)
  have h_15 : pI S_13 206 x = 2147483647 := tI_sIs eS_13
  refine lv_aload_n X.1 X.2.1 dX2_beginFor_21 rfl (lv_at hl 0 rfl) ?_
  refine lv_iconst (v := 0) X.1 X.2.1 dX2_beginFor_22 (by decide) ?_
  have t_16 : At S_13 x 2 := tAt_sI eS_13 t_12
  refine r_putI (v := 0) X hw t_16 rfl 7 207 tyX2 (by decide) rfl inn_X2_beginFor_2 tyX2_ok nmX2 (by decide) (X.2.2.2.1 (.fieldLink RX2 37 "SilkMill$Mixer" "bestSet" "I") (by decide +kernel)) rfl (Or.inl rfl) rfl rfl (Nat.le_of_ble_eq_true rfl) (st_207 _ _) dX2_beginFor_23 (fun H locs hw => ?_)
  obtain ⟨S_17, eS_17⟩ : ∃ T, T = sI S_13 207 x (0) := ⟨_, rfl⟩
  rw [← eS_17] at hw
  have hO_18 : Ok eMX S S_17 := hO_14.sI eS_17 (by decide +kernel) (uI_2_207 hO_14.1 t_16)
  have h_19 : pI S_17 207 x = 0 := tI_sIs eS_17
  have t_20 : pI S_5 203 x = 0 := tI_sI eS_5 rfl h_3
  have t_21 : pI S_9 203 x = 0 := tI_sI eS_9 rfl t_20
  have t_22 : pI S_13 203 x = 0 := tI_sI eS_13 rfl t_21
  have t_23 : pI S_17 203 x = 0 := tI_sI eS_17 rfl t_22
  have t_24 : pI S_9 204 x = 0 := tI_sI eS_9 rfl h_7
  have t_25 : pI S_13 204 x = 0 := tI_sI eS_13 rfl t_24
  have t_26 : pI S_17 204 x = 0 := tI_sI eS_17 rfl t_25
  have t_27 : pI S_13 205 x = a1 := tI_sI eS_13 rfl h_11
  have t_28 : pI S_17 205 x = a1 := tI_sI eS_17 rfl t_27
  have t_29 : pI S_17 206 x = 2147483647 := tI_sI eS_17 rfl h_15
  exact ret_v X hw hr hlocks (Nat.le_of_ble_eq_true rfl) (Nat.le_of_ble_eq_true rfl) ⟨hO_18, ⟨t_23, t_26, t_28, t_29, h_19⟩⟩ dX2_beginFor_26
set_option maxHeartbeats 4000000 in
set_option maxRecDepth 100000 in
theorem k_X2_offer8 (l : Launch) (G : va_G) (cy : Nat → ClassId) (κ : Nat → Nat) (S : PS) (sz : Nat) (x : Nat) (a1 : Int32) (a1_z : Int) (a2 : Int32) (a2_z : Int) (a3 : Int32) (a3_z : Int) (hG : GX S) (ha_x : At S x 2) (hz_a1 : a1.toInt = a1_z) (hz_a2 : a2.toInt = a2_z) (hz_a3 : a3.toInt = a3_z) : Cv l yX2_offer wsX2_offer ({ frames := 1, cells := 0, slots := 0, locals := 48 }) G cy κ S sz [.ref x, .int (a1), .int (a2), .int (a3)] (fun (S9 : PS) => Ok eMX S S9 ∧ (((pI S 203 x).toInt < 14 → OfA S S9 x a1 a2 a3) ∧ (¬ (pI S 203 x).toInt < 14 → S9 = S))) := by
  refine ent_m (cc := cX2_offer) (maxL := 4) (ret := none) (by decide) rfl (Nat.le_of_ble_eq_true rfl) ?_
  intro p e s m below meth c ls X hr hlocks hin hw hl hsz
  subst hsz
  have X : Cx p c cX2_offer 4 s [.ref x, .int (a1), .int (a2), .int (a3)].toArray wsX2_offer RX2 m G cy κ (AS S s.heap.size) := X
  have hl : lv_has ls 4 [(0, .ref x), (1, .int (a1)), (2, .int (a2)), (3, .int (a3))] := hl
  have rg_a1 : (-2147483648) ≤ a1_z ∧ a1_z ≤ 2147483647 := by rw [← hz_a1]; exact ⟨z_lo _, z_hi _⟩
  have rg_a2 : (-2147483648) ≤ a2_z ∧ a2_z ≤ 2147483647 := by rw [← hz_a2]; exact ⟨z_lo _, z_hi _⟩
  have rg_a3 : (-2147483648) ≤ a3_z ∧ a3_z ≤ 2147483647 := by rw [← hz_a3]; exact ⟨z_lo _, z_hi _⟩
  have hO : Ok eMX S S := Ok.rf hG
  obtain ⟨v_1, ev_1⟩ : ∃ v, pI S 203 x = v := ⟨_, rfl⟩
  have rg_2 := gI_2_203 hO.1 ha_x; rw [ev_1] at rg_2
  have pz_3 : (pI S 203 x).toInt = v_1.toInt := by rw [ev_1]
  obtain ⟨v_4, ev_4⟩ : ∃ v, pI S 204 x = v := ⟨_, rfl⟩
  have rg_6 := And.intro (z_lo v_4) (z_hi v_4)
  have pz_7 : (pI S 204 x).toInt = v_4.toInt := by rw [ev_4]
  obtain ⟨v_8, ev_8⟩ : ∃ v, pI S 205 x = v := ⟨_, rfl⟩
  have rg_10 := And.intro (z_lo v_8) (z_hi v_8)
  have pz_11 : (pI S 205 x).toInt = v_8.toInt := by rw [ev_8]
  obtain ⟨v_12, ev_12⟩ : ∃ v, pI S 206 x = v := ⟨_, rfl⟩
  have rg_14 := And.intro (z_lo v_12) (z_hi v_12)
  have pz_15 : (pI S 206 x).toInt = v_12.toInt := by rw [ev_12]
  obtain ⟨v_16, ev_16⟩ : ∃ v, pI S 207 x = v := ⟨_, rfl⟩
  have rg_18 := And.intro (z_lo v_16) (z_hi v_16)
  have pz_19 : (pI S 207 x).toInt = v_16.toInt := by rw [ev_16]
  have pz_20 : (pI S 203 x).toInt = v_1.toInt := (congrArg Int32.toInt ev_1).trans rfl
  obtain ⟨q_21, h_22, h_23, h_24⟩ := gQ_2_200 hO.1 ha_x
  obtain ⟨q_25, h_26, h_27, h_28⟩ := gQ_2_201 hO.1 ha_x
  obtain ⟨q_29, h_30, h_31, h_32⟩ := gQ_2_202 hO.1 ha_x
  refine lv_aload_n X.1 X.2.1 dX2_offer_0 rfl (lv_at hl 0 rfl) ?_
  refine r_getI (g := 203) (x := v_1) X hw ha_x rfl 3 ev_1 (by decide) rfl inn_X2_offer_2 (by decide) (X.2.2.2.1 (.fieldLink RX2 21 "SilkMill$Mixer" "size" "I") (by decide +kernel)) rfl (gv_203 _ _) dX2_offer_1 ?_
  refine lv_bipush (v := 14) X.1 X.2.1 dX2_offer_4 (by decide) ?_
  refine lv_icmp_ge (tgt := 59) X.1 X.2.1 dX2_offer_6 (by decide) (fun c_33 => ?_) (fun c_33 => ?_)
  · have z_b_34 := trivial
    have k_35 : v_1.toInt ≥ 14 := z_le ti_14 rfl c_33
    exact ret_v X hw hr hlocks (Nat.le_of_ble_eq_true rfl) (Nat.le_of_ble_eq_true rfl) ⟨hO, ⟨fun h => absurd h (by omega), fun _ => rfl⟩⟩ dX2_offer_59
  · have z_b_36 := trivial
    have k_37 : v_1.toInt < 14 := z_nle ti_14 rfl c_33
    refine lv_aload_n X.1 X.2.1 dX2_offer_9 rfl (lv_at hl 0 rfl) ?_
    refine r_getR (g := 200) X hw ha_x rfl 0 h_22 (by decide) rfl inn_X2_offer_2 (by decide) (X.2.2.2.1 (.fieldLink RX2 9 "SilkMill$Mixer" "numbers" "[I") (by decide +kernel)) rfl (gv_200 _ _) dX2_offer_10 ?_
    refine lv_aload_n X.1 X.2.1 dX2_offer_13 rfl (lv_at hl 0 rfl) ?_
    refine r_getI (g := 203) (x := v_1) X hw ha_x rfl 3 ev_1 (by decide) rfl inn_X2_offer_2 (by decide) (X.2.2.2.1 (.fieldLink RX2 21 "SilkMill$Mixer" "size" "I") (by decide +kernel)) rfl (gv_203 _ _) dX2_offer_14 ?_
    refine lv_iload_n X.1 X.2.1 dX2_offer_17 rfl (lv_at hl 1 rfl) ?_
    refine r_iast X hw h_23 rfl (by rw [h_24]; exact z_ix rfl (by omega) (by omega)) dX2_offer_18 (fun H locs hw => ?_)
    obtain ⟨S_38, eS_38⟩ : ∃ T, T = sA S q_21 (upd (pA S q_21) (Int32.toNatClampNeg (v_1)) (a1)) := ⟨_, rfl⟩
    rw [← eS_38] at hw
    have hO_39 : Ok eMX S S_38 := hO.sA eS_38 h_23 (by decide +kernel) (uA_1734 hO.1 h_23)
    have h_40 : pA S_38 q_21 (Int32.toNatClampNeg (v_1)) = a1 := tA_sAs eS_38
    have t_41 : pR S_38 200 x = some q_21 := tR_sA eS_38 h_22
    have t_42 : pR S 200 x = some q_21 := by have h := t_41; rw [eS_38, pR_sA] at h; exact h
    have ms_43 : ∀ j, mA S_38 x 200 j = if j = (v_1.toInt).toNat then a1 else mA S x 200 j := by have h := mA_sAs eS_38 t_42; rw [z_nc rfl (by omega)] at h; exact h
    refine lv_aload_n X.1 X.2.1 dX2_offer_19 rfl (lv_at hl 0 rfl) ?_
    have t_44 : At S_38 x 2 := tAt_sA eS_38 ha_x
    have t_45 : pR S_38 201 x = some q_25 := tR_sA eS_38 h_26
    refine r_getR (g := 201) X hw t_44 rfl 1 t_45 (by decide) rfl inn_X2_offer_2 (by decide) (X.2.2.2.1 (.fieldLink RX2 15 "SilkMill$Mixer" "weights" "[I") (by decide +kernel)) rfl (gv_201 _ _) dX2_offer_20 ?_
    refine lv_aload_n X.1 X.2.1 dX2_offer_23 rfl (lv_at hl 0 rfl) ?_
    have t_46 : pI S_38 203 x = v_1 := tI_sA eS_38 ev_1
    refine r_getI (g := 203) (x := v_1) X hw t_44 rfl 3 t_46 (by decide) rfl inn_X2_offer_2 (by decide) (X.2.2.2.1 (.fieldLink RX2 21 "SilkMill$Mixer" "size" "I") (by decide +kernel)) rfl (gv_203 _ _) dX2_offer_24 ?_
    refine lv_iload_n X.1 X.2.1 dX2_offer_27 rfl (lv_at hl 2 rfl) ?_
    have t_47 : At S_38 q_25 1754 := tAt_sA eS_38 h_27
    have t_48 : pN S_38 q_25 = 14 := tN_sA eS_38 h_28
    clear h_28
    refine r_iast X hw t_47 rfl (by rw [t_48]; exact z_ix rfl (by omega) (by omega)) dX2_offer_28 (fun H locs hw => ?_)
    obtain ⟨S_49, eS_49⟩ : ∃ T, T = sA S_38 q_25 (upd (pA S_38 q_25) (Int32.toNatClampNeg (v_1)) (a2)) := ⟨_, rfl⟩
    rw [← eS_49] at hw
    have hO_50 : Ok eMX S S_49 := hO_39.sA eS_49 t_47 (by decide +kernel) (uA_1754 hO_39.1 t_47)
    have h_51 : pA S_49 q_25 (Int32.toNatClampNeg (v_1)) = a2 := tA_sAs eS_49
    have t_52 : pR S_49 201 x = some q_25 := tR_sA eS_49 t_45
    have t_53 : pR S_38 201 x = some q_25 := by have h := t_52; rw [eS_49, pR_sA] at h; exact h
    have ms_54 : ∀ j, mA S_49 x 201 j = if j = (v_1.toInt).toNat then a2 else mA S_38 x 201 j := by have h := mA_sAs eS_49 t_53; rw [z_nc rfl (by omega)] at h; exact h
    refine lv_aload_n X.1 X.2.1 dX2_offer_29 rfl (lv_at hl 0 rfl) ?_
    have t_55 : At S_49 x 2 := tAt_sA eS_49 t_44
    have t_56 : pR S_38 202 x = some q_29 := tR_sA eS_38 h_30
    have t_57 : pR S_49 202 x = some q_29 := tR_sA eS_49 t_56
    refine r_getR (g := 202) X hw t_55 rfl 2 t_57 (by decide) rfl inn_X2_offer_2 (by decide) (X.2.2.2.1 (.fieldLink RX2 18 "SilkMill$Mixer" "prices" "[I") (by decide +kernel)) rfl (gv_202 _ _) dX2_offer_30 ?_
    refine lv_aload_n X.1 X.2.1 dX2_offer_33 rfl (lv_at hl 0 rfl) ?_
    have t_58 : pI S_49 203 x = v_1 := tI_sA eS_49 t_46
    refine r_getI (g := 203) (x := v_1) X hw t_55 rfl 3 t_58 (by decide) rfl inn_X2_offer_2 (by decide) (X.2.2.2.1 (.fieldLink RX2 21 "SilkMill$Mixer" "size" "I") (by decide +kernel)) rfl (gv_203 _ _) dX2_offer_34 ?_
    refine lv_iload_n X.1 X.2.1 dX2_offer_37 rfl (lv_at hl 3 rfl) ?_
    have t_59 : At S_38 q_29 1774 := tAt_sA eS_38 h_31
    have t_60 : At S_49 q_29 1774 := tAt_sA eS_49 t_59
    have t_61 : pN S_38 q_29 = 14 := tN_sA eS_38 h_32
    clear h_32
    have t_62 : pN S_49 q_29 = 14 := tN_sA eS_49 t_61
    clear t_61
    refine r_iast X hw t_60 rfl (by rw [t_62]; exact z_ix rfl (by omega) (by omega)) dX2_offer_38 (fun H locs hw => ?_)
    obtain ⟨S_63, eS_63⟩ : ∃ T, T = sA S_49 q_29 (upd (pA S_49 q_29) (Int32.toNatClampNeg (v_1)) (a3)) := ⟨_, rfl⟩
    rw [← eS_63] at hw
    have hO_64 : Ok eMX S S_63 := hO_50.sA eS_63 t_60 (by decide +kernel) (uA_1774 hO_50.1 t_60)
    have h_65 : pA S_63 q_29 (Int32.toNatClampNeg (v_1)) = a3 := tA_sAs eS_63
    have t_66 : pR S_63 202 x = some q_29 := tR_sA eS_63 t_57
    have t_67 : pR S_49 202 x = some q_29 := by have h := t_66; rw [eS_63, pR_sA] at h; exact h
    have ms_68 : ∀ j, mA S_63 x 202 j = if j = (v_1.toInt).toNat then a3 else mA S_49 x 202 j := by have h := mA_sAs eS_63 t_67; rw [z_nc rfl (by omega)] at h; exact h
    refine lv_aload_n X.1 X.2.1 dX2_offer_39 rfl (lv_at hl 0 rfl) ?_
    refine lv_dup X.1 X.2.1 dX2_offer_40 rfl ?_
    have t_69 : At S_63 x 2 := tAt_sA eS_63 t_55
    have t_70 : pI S_63 203 x = v_1 := tI_sA eS_63 t_58
    refine r_getI (g := 203) (x := v_1) X hw t_69 rfl 3 t_70 (by decide) rfl inn_X2_offer_2 (by decide) (X.2.2.2.1 (.fieldLink RX2 21 "SilkMill$Mixer" "size" "I") (by decide +kernel)) rfl (gv_203 _ _) dX2_offer_41 ?_
    refine lv_iconst (v := 1) X.1 X.2.1 dX2_offer_44 (by decide) ?_
    refine lv_iadd X.1 X.2.1 dX2_offer_45 ?_
    refine lv_topi (fun v_71 ev_71 => ?_)
    have z_72 : v_71.toInt = v_1.toInt + 1 := z_add ev_71 rfl ti_1 (by omega) (by omega)
    refine r_putI (v := v_71) X hw t_69 rfl 3 203 tyX2 (by decide) rfl inn_X2_offer_2 tyX2_ok nmX2 (by decide) (X.2.2.2.1 (.fieldLink RX2 21 "SilkMill$Mixer" "size" "I") (by decide +kernel)) rfl (Or.inl rfl) rfl rfl (Nat.le_of_ble_eq_true rfl) (st_203 _ _) dX2_offer_46 (fun H locs hw => ?_)
    obtain ⟨S_73, eS_73⟩ : ∃ T, T = sI S_63 203 x (v_71) := ⟨_, rfl⟩
    rw [← eS_73] at hw
    have hO_74 : Ok eMX S S_73 := hO_64.sI eS_73 (by decide +kernel) (uI_2_203 hO_64.1 t_69 (by omega) (by omega))
    have h_75 : pI S_73 203 x = v_71 := tI_sIs eS_73
    refine lv_aload_n X.1 X.2.1 dX2_offer_49 rfl (lv_at hl 0 rfl) ?_
    refine lv_dup X.1 X.2.1 dX2_offer_50 rfl ?_
    have t_76 : At S_73 x 2 := tAt_sI eS_73 t_69
    have t_77 : pI S_38 204 x = v_4 := tI_sA eS_38 ev_4
    have t_78 : pI S_49 204 x = v_4 := tI_sA eS_49 t_77
    have t_79 : pI S_63 204 x = v_4 := tI_sA eS_63 t_78
    have t_80 : pI S_73 204 x = v_4 := tI_sI eS_73 rfl t_79
    refine r_getI (g := 204) (x := v_4) X hw t_76 rfl 4 t_80 (by decide) rfl inn_X2_offer_2 (by decide) (X.2.2.2.1 (.fieldLink RX2 25 "SilkMill$Mixer" "offered" "I") (by decide +kernel)) rfl (gv_204 _ _) dX2_offer_51 ?_
    refine lv_iload_n X.1 X.2.1 dX2_offer_54 rfl (lv_at hl 2 rfl) ?_
    refine lv_iadd X.1 X.2.1 dX2_offer_55 ?_
    refine lv_topi (fun v_81 ev_81 => ?_)
    have rg_82 := And.intro (z_lo v_81) (z_hi v_81)
    refine r_putI (v := v_81) X hw t_76 rfl 4 204 tyX2 (by decide) rfl inn_X2_offer_2 tyX2_ok nmX2 (by decide) (X.2.2.2.1 (.fieldLink RX2 25 "SilkMill$Mixer" "offered" "I") (by decide +kernel)) rfl (Or.inl rfl) rfl rfl (Nat.le_of_ble_eq_true rfl) (st_204 _ _) dX2_offer_56 (fun H locs hw => ?_)
    obtain ⟨S_83, eS_83⟩ : ∃ T, T = sI S_73 204 x (v_81) := ⟨_, rfl⟩
    rw [← eS_83] at hw
    have hO_84 : Ok eMX S S_83 := hO_74.sI eS_83 (by decide +kernel) (uI_2_204 hO_74.1 t_76)
    have h_85 : pI S_83 204 x = v_81 := tI_sIs eS_83
    have t_86 : pI S_83 203 x = v_71 := tI_sI eS_83 rfl h_75
    have of_87 : (pI S_83 203 x).toInt = (pI S 203 x).toInt + 1 := by rw [t_86, ev_1]; exact (by have e1 : (v_71).toInt = v_71.toInt := rfl; omega)
    have t_88 : pI S_38 205 x = v_8 := tI_sA eS_38 ev_8
    have t_89 : pI S_49 205 x = v_8 := tI_sA eS_49 t_88
    have t_90 : pI S_63 205 x = v_8 := tI_sA eS_63 t_89
    have t_91 : pI S_73 205 x = v_8 := tI_sI eS_73 rfl t_90
    have t_92 : pI S_83 205 x = v_8 := tI_sI eS_83 rfl t_91
    have t_93 : pI S_38 206 x = v_12 := tI_sA eS_38 ev_12
    have t_94 : pI S_49 206 x = v_12 := tI_sA eS_49 t_93
    have t_95 : pI S_63 206 x = v_12 := tI_sA eS_63 t_94
    have t_96 : pI S_73 206 x = v_12 := tI_sI eS_73 rfl t_95
    have t_97 : pI S_83 206 x = v_12 := tI_sI eS_83 rfl t_96
    have t_98 : pI S_38 207 x = v_16 := tI_sA eS_38 ev_16
    have t_99 : pI S_49 207 x = v_16 := tI_sA eS_49 t_98
    have t_100 : pI S_63 207 x = v_16 := tI_sA eS_63 t_99
    have t_101 : pI S_73 207 x = v_16 := tI_sI eS_73 rfl t_100
    have t_102 : pI S_83 207 x = v_16 := tI_sI eS_83 rfl t_101
    have mc_103 : mA S_49 x 200 = mA S_38 x 200 := mA_sAn eS_49 (ex3 (gQ_2_200 hO_39.1 t_44)) t_47 rfl
    have mc_104 : mA S_63 x 200 = mA S_38 x 200 := (mA_sAn eS_63 (ex3 (gQ_2_200 hO_50.1 t_55)) t_60 rfl).trans mc_103
    have mc_105 : mA S_73 x 200 = mA S_38 x 200 := (mA_sI eS_73).trans mc_104
    have mc_106 : mA S_83 x 200 = mA S_38 x 200 := (mA_sI eS_83).trans mc_105
    have mc_107 : mA S_38 x 201 = mA S x 201 := mA_sAn eS_38 (ex3 (gQ_2_201 hO.1 ha_x)) h_23 rfl
    have mc_108 : mA S_63 x 201 = mA S_49 x 201 := mA_sAn eS_63 (ex3 (gQ_2_201 hO_50.1 t_55)) t_60 rfl
    have mc_109 : mA S_73 x 201 = mA S_49 x 201 := (mA_sI eS_73).trans mc_108
    have mc_110 : mA S_83 x 201 = mA S_49 x 201 := (mA_sI eS_83).trans mc_109
    have mc_111 : mA S_38 x 202 = mA S x 202 := mA_sAn eS_38 (ex3 (gQ_2_202 hO.1 ha_x)) h_23 rfl
    have mc_112 : mA S_49 x 202 = mA S x 202 := (mA_sAn eS_49 (ex3 (gQ_2_202 hO_39.1 t_44)) t_47 rfl).trans mc_111
    have mc_113 : mA S_73 x 202 = mA S_63 x 202 := mA_sI eS_73
    have mc_114 : mA S_83 x 202 = mA S_63 x 202 := (mA_sI eS_83).trans mc_113
    exact ret_v X hw hr hlocks (Nat.le_of_ble_eq_true rfl) (Nat.le_of_ble_eq_true rfl) ⟨hO_84, ⟨fun _ => ⟨⟨of_87, by rw [h_85, ev_4, ev_81], (t_92).trans ev_8.symm, (t_97).trans ev_12.symm, (t_102).trans ev_16.symm⟩, fun j => (by rw [mc_106, ms_43 j, show (v_1.toInt).toNat = (pI S 203 x).toInt.toNat by omega]), fun j => (by rw [mc_110, ms_54 j, mc_107, show (v_1.toInt).toNat = (pI S 203 x).toInt.toNat by omega]), fun j => (by rw [mc_114, ms_68 j, mc_112, show (v_1.toInt).toNat = (pI S 203 x).toInt.toNat by omega])⟩, fun h => absurd (by omega) h⟩⟩ dX2_offer_59
set_option maxHeartbeats 4000000 in
set_option maxRecDepth 100000 in
theorem k_X2_leastPrice8 (l : Launch) (G : va_G) (cy : Nat → ClassId) (κ : Nat → Nat) (S : PS) (sz : Nat) (x : Nat) (hG : GX S) (ha_x : At S x 2) : Ci l yX2_leastPrice wsX2_leastPrice ({ frames := 16, cells := 0, slots := 0, locals := 768 }) G cy κ S sz [.ref x] (fun (r : Int32) (S9 : PS) => Ok eSK S S9 ∧ (-2147483648 ≤ r.toInt ∧ r.toInt ≤ 2147483647 ∧ pI S9 206 x = (skF (pI S 203 x).toInt (mA S x 201) (mA S x 202) (pI S 205 x) 14 0 0 (pI S 204 x) 0 (pI S 206 x, pI S 207 x)).1 ∧ pI S9 207 x = (skF (pI S 203 x).toInt (mA S x 201) (mA S x 202) (pI S 205 x) 14 0 0 (pI S 204 x) 0 (pI S 206 x, pI S 207 x)).2 ∧ (pI S9 207 x = 0 → r = -1) ∧ (pI S9 207 x ≠ 0 → r = pI S9 206 x))) := by
  refine ent_m (cc := cX2_leastPrice) (maxL := 1) (ret := (some .int)) (by decide) rfl (Nat.le_of_ble_eq_true rfl) ?_
  intro p e s m below meth c ls X hr hlocks hin hw hl hsz
  subst hsz
  have X : Cx p c cX2_leastPrice 1 s [.ref x].toArray wsX2_leastPrice RX2 m G cy κ (AS S s.heap.size) := X
  have hl : lv_has ls 1 [(0, .ref x)] := hl
  have hO : Ok eSK S S := Ok.rf hG
  obtain ⟨v_1, ev_1⟩ : ∃ v, pI S 204 x = v := ⟨_, rfl⟩
  have rg_3 := And.intro (z_lo v_1) (z_hi v_1)
  have pz_4 : (pI S 204 x).toInt = v_1.toInt := by rw [ev_1]
  refine lv_aload_n X.1 X.2.1 dX2_leastPrice_0 rfl (lv_at hl 0 rfl) ?_
  refine lv_iconst (v := 0) X.1 X.2.1 dX2_leastPrice_1 (by decide) ?_
  refine lv_iconst (v := 0) X.1 X.2.1 dX2_leastPrice_2 (by decide) ?_
  refine lv_aload_n X.1 X.2.1 dX2_leastPrice_3 rfl (lv_at hl 0 rfl) ?_
  refine r_getI (g := 204) (x := v_1) X hw ha_x rfl 4 ev_1 (by decide) rfl inn_X2_leastPrice_2 (by decide) (X.2.2.2.1 (.fieldLink RX2 25 "SilkMill$Mixer" "offered" "I") (by decide +kernel)) rfl (gv_204 _ _) dX2_leastPrice_4 ?_
  refine lv_iconst (v := 0) X.1 X.2.1 dX2_leastPrice_7 (by decide) ?_
  refine k_v (rm := { frames := 15, cells := 0, slots := 0, locals := 720 }) (av := [.ref x, .int 0, .int 0, .int (v_1), .int 0]) X hw (va_runS (As := [.ref x, .int 0, .int 0, .int (v_1), .int 0]) (rest := []) (cfix X) (k_X2_seek8_14 l G cy κ S _ x (0) (0) (0) (0) (v_1) (v_1.toInt) (0) (0) hO.1 ha_x ti_0 ti_0 rfl ti_0 (by omega)) (cwS 5 X.2.2.2.1 gX2_leastPrice_X2_seek rfl rfl rfl (by decide +kernel) ⟨Nat.le_of_ble_eq_true rfl, Nat.le_of_ble_eq_true rfl⟩) (pre_S X hw _) rfl rfl hl.1 rfl (lv_room (Nat.le_of_ble_eq_true rfl)) dX2_leastPrice_8 ⟨Nat.le_of_ble_eq_true rfl, Nat.le_of_ble_eq_true rfl⟩) 0 0 (Nat.le_of_ble_eq_true rfl) (Nat.le_of_ble_eq_true rfl) (fun S_6 H locs hp hw hfr hnw => ?_)
  obtain ⟨hk_7, hp⟩ := hp
  have hO_8 : Ok eSK S S_6 := hO.call hk_7 (by decide +kernel)
  obtain ⟨sk_9, sk_10⟩ := hp
  refine lv_aload_n X.1 X.2.1 dX2_leastPrice_11 rfl (lv_at hl 0 rfl) ?_
  have t_11 : At S_6 x 2 := hk_7.fr.at ha_x
  obtain ⟨v_12, ev_12⟩ : ∃ v, pI S_6 207 x = v := ⟨_, rfl⟩
  have rg_14 := And.intro (z_lo v_12) (z_hi v_12)
  have pz_15 : (pI S_6 207 x).toInt = v_12.toInt := by rw [ev_12]
  refine r_getI (g := 207) (x := v_12) X hw t_11 rfl 7 ev_12 (by decide) rfl inn_X2_leastPrice_2 (by decide) (X.2.2.2.1 (.fieldLink RX2 37 "SilkMill$Mixer" "bestSet" "I") (by decide +kernel)) rfl (gv_207 _ _) dX2_leastPrice_12 ?_
  refine lv_if_ne (tgt := 22) X.1 X.2.1 dX2_leastPrice_15 (by decide) (fun c_16 => ?_) (fun c_16 => ?_)
  · have z_b_17 := trivial
    have k_18 : v_12.toInt ≠ 0 := z_ne rfl ti_0 c_16
    refine lv_aload_n X.1 X.2.1 dX2_leastPrice_22 rfl (lv_at hl 0 rfl) ?_
    obtain ⟨v_19, ev_19⟩ : ∃ v, pI S_6 206 x = v := ⟨_, rfl⟩
    have rg_21 := And.intro (z_lo v_19) (z_hi v_19)
    have pz_22 : (pI S_6 206 x).toInt = v_19.toInt := by rw [ev_19]
    refine r_getI (g := 206) (x := v_19) X hw t_11 rfl 6 ev_19 (by decide) rfl inn_X2_leastPrice_2 (by decide) (X.2.2.2.1 (.fieldLink RX2 34 "SilkMill$Mixer" "bestPrice" "I") (by decide +kernel)) rfl (gv_206 _ _) dX2_leastPrice_23 ?_
    have lp_23 : pI S_6 207 x ≠ 0 := fun e => by have e1 := congrArg Int32.toInt (ev_12.symm.trans e); have e0 : (0 : Int32).toInt = 0 := (by decide); omega
    exact ret_i X hw hr hlocks (Nat.le_of_ble_eq_true rfl) (Nat.le_of_ble_eq_true rfl) ⟨hO_8, ⟨z_lo _, z_hi _, (by have h := sk_9; rw [← ev_1] at h; exact h), (by have h := sk_10; rw [← ev_1] at h; exact h), fun h => absurd h lp_23, fun _ => ev_19.symm⟩⟩ dX2_leastPrice_26
  · have z_b_24 := trivial
    have k_25 : v_12.toInt = 0 := z_eq rfl ti_0 c_16
    refine lv_iconst (v := (-1)) X.1 X.2.1 dX2_leastPrice_18 (by decide) ?_
    refine lv_goto (tgt := 26) X.1 X.2.1 dX2_leastPrice_19 (by decide) ?_
    have lp_26 : pI S_6 207 x = 0 := ev_12.trans (z_eq0 (by omega))
    exact ret_i X hw hr hlocks (Nat.le_of_ble_eq_true rfl) (Nat.le_of_ble_eq_true rfl) ⟨hO_8, ⟨z_lo _, z_hi _, (by have h := sk_9; rw [← ev_1] at h; exact h), (by have h := sk_10; rw [← ev_1] at h; exact h), fun _ => rfl, fun h => absurd lp_26 h⟩⟩ dX2_leastPrice_26
set_option maxHeartbeats 4000000 in
set_option maxRecDepth 100000 in
theorem k_X2_isChosen8 (l : Launch) (G : va_G) (cy : Nat → ClassId) (κ : Nat → Nat) (S : PS) (sz : Nat) (x : Nat) (a1 : Int32) (a1_z : Int) (L : List OfT) (u : Nat) (hG : GX S) (ha_x : At S x 2) (hz_a1 : a1.toInt = a1_z) (hp_0 : MxV S x L) (hp_1 : DsB L) (hp_2 : (pI S 207 x).toInt = (u : Int)) (hp_3 : u < 16384) : Ci l yX2_isChosen wsX2_isChosen ({ frames := 1, cells := 0, slots := 0, locals := 48 }) G cy κ S sz [.ref x, .int (a1)] (fun (r : Int32) (S9 : PS) => S = S9 ∧ (((ChB L u a1_z) ∧ r = 1) ∨ ((¬ ChB L u a1_z) ∧ r = 0))) := by
  refine ent_m (cc := cX2_isChosen) (maxL := 3) (ret := (some .boolean)) (by decide) rfl (Nat.le_of_ble_eq_true rfl) ?_
  intro p e s m below meth c ls X hr hlocks hin hw hl hsz
  subst hsz
  have X : Cx p c cX2_isChosen 3 s [.ref x, .int (a1)].toArray wsX2_isChosen RX2 m G cy κ (AS S s.heap.size) := X
  have hl : lv_has ls 3 [(0, .ref x), (1, .int (a1))] := hl
  have rg_a1 : (-2147483648) ≤ a1_z ∧ a1_z ≤ 2147483647 := by rw [← hz_a1]; exact ⟨z_lo _, z_hi _⟩
  generalize hQQ : MQ below _ _ _ _ _ _ = QQ
  replace hQQ := hQQ.symm
  obtain ⟨v_1, ev_1⟩ : ∃ v, pI S 203 x = v := ⟨_, rfl⟩
  have rg_2 := gI_2_203 hG ha_x; rw [ev_1] at rg_2
  have pz_3 : (pI S 203 x).toInt = v_1.toInt := by rw [ev_1]
  have pz_4 : (pI S 203 x).toInt = v_1.toInt := (congrArg Int32.toInt ev_1).trans rfl
  have hl203 := hp_0.1
  refine lv_iconst (v := 0) X.1 X.2.1 dX2_isChosen_0 (by decide) ?_
  refine lv_istore_n (lv' := [(2, .int 0), (0, .ref x), (1, .int (a1))]) X.1 X.2.1 dX2_isChosen_1 rfl hl (by decide) rfl (fun ls hl => ?_)
  have L_5 : ∀ (n : Nat) (H : Heap) (locs : List Loc) (ls : Array Slot) (i2_6 : Int32) (i2_6_z : Int), ((14 - i2_6_z).toNat = n) → (Wd G cy (AS S s.heap.size) s.heap S H locs) → (i2_6.toInt = i2_6_z) → (0 ≤ i2_6_z ∧ i2_6_z ≤ 14) → ((∀ (i : Nat) (t : OfT), (i : Int) < i2_6_z → L[i]? = some t → t.1 ≠ a1_z)) → (i2_6_z ≤ (L.length : Int)) → (lv_has ls 3 [(2, .int (i2_6)), (0, .ref x), (1, .int (a1))]) → W p l e ({ frames := 1, cells := 0, slots := 0, locals := 48 }) s m [.ref x, .int (a1)].toArray below meth c H locs 0 0 QQ (F0 m 2 ls []) := by
    intro n
    induction n using Nat.strongRecOn with
    | ind n ih =>
    intro H locs ls i2_6 i2_6_z hn hw hz_i2_6 hr_i2_6 iv_7 iv_8 hl
    have rg_9 : (-2147483648) ≤ i2_6_z ∧ i2_6_z ≤ 2147483647 := by rw [← hz_i2_6]; exact ⟨z_lo _, z_hi _⟩
    refine lv_iload_n X.1 X.2.1 dX2_isChosen_2 rfl (lv_at hl 0 rfl) ?_
    refine lv_aload_n X.1 X.2.1 dX2_isChosen_3 rfl (lv_at hl 1 rfl) ?_
    refine r_getI (g := 203) (x := v_1) X hw ha_x rfl 3 ev_1 (by decide) rfl inn_X2_isChosen_2 (by decide) (X.2.2.2.1 (.fieldLink RX2 21 "SilkMill$Mixer" "size" "I") (by decide +kernel)) rfl (gv_203 _ _) dX2_isChosen_4 ?_
    refine lv_icmp_ge (tgt := 44) X.1 X.2.1 dX2_isChosen_7 (by decide) (fun c_10 => ?_) (fun c_10 => ?_)
    · have z_b_11 := trivial
      have k_12 : i2_6_z ≥ v_1.toInt := z_le rfl hz_i2_6 c_10
      refine lv_iconst (v := 0) X.1 X.2.1 dX2_isChosen_44 (by decide) ?_
      rw [hQQ]
      exact ret_z X hw hr hlocks (Nat.le_of_ble_eq_true rfl) (Nat.le_of_ble_eq_true rfl) (by decide) ⟨rfl, Or.inr ⟨ch_out (n := (i2_6_z).toNat) (by omega) (fun i t hi ht => iv_7 i t (by omega) ht), rfl⟩⟩ dX2_isChosen_45
    · have z_b_13 := trivial
      have k_14 : i2_6_z < v_1.toInt := z_nle rfl hz_i2_6 c_10
      refine lv_aload_n X.1 X.2.1 dX2_isChosen_10 rfl (lv_at hl 1 rfl) ?_
      obtain ⟨q_15, h_16, h_17, h_18⟩ := gQ_2_200 hG ha_x
      refine r_getR (g := 200) X hw ha_x rfl 0 h_16 (by decide) rfl inn_X2_isChosen_2 (by decide) (X.2.2.2.1 (.fieldLink RX2 9 "SilkMill$Mixer" "numbers" "[I") (by decide +kernel)) rfl (gv_200 _ _) dX2_isChosen_11 ?_
      refine lv_iload_n X.1 X.2.1 dX2_isChosen_14 rfl (lv_at hl 0 rfl) ?_
      refine r_iald X hw h_17 rfl (by rw [h_18]; exact z_ix hz_i2_6 (by omega) (by omega)) dX2_isChosen_15 ?_
      refine lv_topi (fun v_19 ev_19 => ?_)
      have rg_20 := And.intro (z_lo v_19) (z_hi v_19)
      have ev_19 := ev_19.symm
      obtain ⟨t_21, ht_22⟩ : ∃ t, L[(i2_6_z).toNat]? = some t := ⟨_, List.getElem?_eq_getElem (by omega)⟩
      have nu_23 : v_19.toInt = t_21.1 := by have h := (hp_0.2.2 _ _ ht_22).1; rw [mA_eq h_16, ← z_nc (x := i2_6) hz_i2_6 (by omega), ev_19] at h; exact (rfl).symm.trans h
      refine lv_iload_n X.1 X.2.1 dX2_isChosen_16 rfl (lv_at hl 2 rfl) ?_
      refine lv_icmp_ne (tgt := 38) X.1 X.2.1 dX2_isChosen_17 (by decide) (fun c_24 => ?_) (fun c_24 => ?_)
      · have z_b_25 := trivial
        have k_26 : v_19.toInt ≠ a1_z := z_ne rfl hz_a1 c_24
        obtain ⟨x_27, ex_27⟩ : ∃ y : Int32, y = i2_6 + 1 := ⟨_, rfl⟩
        have z_28 : x_27.toInt = i2_6_z + 1 := z_add ex_27 hz_i2_6 ti_1 (by omega) (by omega)
        refine lv_iinc (v := x_27) (lv' := [(2, .int (x_27)), (0, .ref x), (1, .int (a1))]) X.1 X.2.1 dX2_isChosen_38 hl (k := 0) rfl (by rw [ex_27]; rfl) (by decide) rfl (fun ls hl => ?_)
        refine lv_goto (tgt := 2) X.1 X.2.1 dX2_isChosen_41 (by decide) ?_
        exact ih _ (by omega) _ _ _ (x_27) (x_27.toInt) rfl hw rfl (by omega) (fun i t hi h => if c : i = (i2_6_z).toNat then (by subst c; rw [ht_22] at h; cases h; omega) else iv_7 i t (by omega) h) (by omega) (lv_sub hl [0, 1, 2] rfl)
      · have z_b_29 := trivial
        have k_30 : v_19.toInt = a1_z := z_eq rfl hz_a1 c_24
        refine lv_aload_n X.1 X.2.1 dX2_isChosen_20 rfl (lv_at hl 1 rfl) ?_
        obtain ⟨v_31, ev_31⟩ : ∃ v, pI S 207 x = v := ⟨_, rfl⟩
        have rg_33 := And.intro (z_lo v_31) (z_hi v_31)
        have pz_34 : (pI S 207 x).toInt = v_31.toInt := by rw [ev_31]
        refine r_getI (g := 207) (x := v_31) X hw ha_x rfl 7 ev_31 (by decide) rfl inn_X2_isChosen_2 (by decide) (X.2.2.2.1 (.fieldLink RX2 37 "SilkMill$Mixer" "bestSet" "I") (by decide +kernel)) rfl (gv_207 _ _) dX2_isChosen_21 ?_
        refine lv_iload_n X.1 X.2.1 dX2_isChosen_24 rfl (lv_at hl 0 rfl) ?_
        refine lv_ishr X.1 X.2.1 dX2_isChosen_25 ?_
        refine lv_topi (fun v_35 ev_35 => ?_)
        have rg_36 := And.intro (z_lo v_35) (z_hi v_35)
        refine lv_iconst (v := 1) X.1 X.2.1 dX2_isChosen_26 (by decide) ?_
        refine lv_iand X.1 X.2.1 dX2_isChosen_27 ?_
        refine lv_topi (fun v_37 ev_37 => ?_)
        have rg_38 := And.intro (z_lo v_37) (z_hi v_37)
        have bt_39 : v_37.toInt = 1 ↔ u / 2 ^ (i2_6_z).toNat % 2 = 1 := z_bit1 ev_35 ev_37 (by rw [← ev_31]; exact hp_2) (hz_i2_6.trans (by omega)) (by omega)
        refine lv_iconst (v := 1) X.1 X.2.1 dX2_isChosen_28 (by decide) ?_
        refine lv_icmp_ne (tgt := 36) X.1 X.2.1 dX2_isChosen_29 (by decide) (fun c_40 => ?_) (fun c_40 => ?_)
        · have z_b_41 := trivial
          have k_42 : v_37.toInt ≠ 1 := z_ne rfl ti_1 c_40
          refine lv_iconst (v := 0) X.1 X.2.1 dX2_isChosen_36 (by decide) ?_
          rw [hQQ]
          exact ret_z X hw hr hlocks (Nat.le_of_ble_eq_true rfl) (Nat.le_of_ble_eq_true rfl) (by decide) ⟨rfl, Or.inr ⟨ch_no hp_1 ht_22 (by omega) (fun z => absurd (bt_39.mpr z) (by omega)), rfl⟩⟩ dX2_isChosen_37
        · have z_b_43 := trivial
          have k_44 : v_37.toInt = 1 := z_eq rfl ti_1 c_40
          refine lv_iconst (v := 1) X.1 X.2.1 dX2_isChosen_32 (by decide) ?_
          refine lv_goto (tgt := 37) X.1 X.2.1 dX2_isChosen_33 (by decide) ?_
          rw [hQQ]
          exact ret_z X hw hr hlocks (Nat.le_of_ble_eq_true rfl) (Nat.le_of_ble_eq_true rfl) (by decide) ⟨rfl, Or.inl ⟨⟨(i2_6_z).toNat, t_21, ht_22, by omega, bt_39.mp (by omega)⟩, rfl⟩⟩ dX2_isChosen_37
  exact L_5 _ _ _ _ (0) (0) rfl hw ti_0 (by omega) (fun i t hi _ => absurd hi (by omega)) (by omega) (lv_sub hl [0, 1, 2] rfl)
set_option maxHeartbeats 4000000 in
set_option maxRecDepth 100000 in
theorem k_X8_markMix8 (l : Launch) (G : va_G) (cy : Nat → ClassId) (κ : Nat → Nat) (S : PS) (sz : Nat) (x : Nat) (a1 : Int32) (a1_z : Int) (D : Nat → Prop) (Ls : List Sk) (M : Nat) (L : List OfT) (u : Nat) (hG : GX S) (ha_x : At S x 8) (hz_a1 : a1.toInt = a1_z) (hp_0 : SkV S D x Ls) (hp_1 : pR S 812 x = some M) (hp_2 : MxV S M L) (hp_3 : DsB L) (hp_4 : (pI S 207 M).toInt = (u : Int)) (hp_5 : u < 16384) : Cv l yX8_markMix wsX8_markMix ({ frames := 2, cells := 0, slots := 0, locals := 96 }) G cy κ S sz [.ref x, .int (a1)] (fun (S9 : PS) => Ok eMM S S9 ∧ (MkI S S9 x L u a1_z (pI S 800 x).toInt)) := by
  refine ent_m (cc := cX8_markMix) (maxL := 4) (ret := none) (by decide) rfl (Nat.le_of_ble_eq_true rfl) ?_
  intro p e s m below meth c ls X hr hlocks hin hw hl hsz
  subst hsz
  have X : Cx p c cX8_markMix 4 s [.ref x, .int (a1)].toArray wsX8_markMix RX8 m G cy κ (AS S s.heap.size) := X
  have hl : lv_has ls 4 [(0, .ref x), (1, .int (a1))] := hl
  have rg_a1 : (-2147483648) ≤ a1_z ∧ a1_z ≤ 2147483647 := by rw [← hz_a1]; exact ⟨z_lo _, z_hi _⟩
  have hO : Ok eMM S S := Ok.rf hG
  generalize hQQ : MQ below _ _ _ _ _ _ = QQ
  replace hQQ := hQQ.symm
  obtain ⟨v_1, ev_1⟩ : ∃ v, pI S 800 x = v := ⟨_, rfl⟩
  have rg_2 := gI_8_800 hO.1 ha_x; rw [ev_1] at rg_2
  have pz_3 : (pI S 800 x).toInt = v_1.toInt := by rw [ev_1]
  have pz_4 : (pI S 800 x).toInt = v_1.toInt := (congrArg Int32.toInt ev_1).trans rfl
  have hkl := hp_0.1
  have haM := mx_at hG ha_x hp_1
  refine lv_iconst (v := 0) X.1 X.2.1 dX8_markMix_0 (by decide) ?_
  refine lv_istore_n (lv' := [(2, .int 0), (0, .ref x), (1, .int (a1))]) X.1 X.2.1 dX8_markMix_1 rfl hl (by decide) rfl (fun ls hl => ?_)
  have L_5 : ∀ (n : Nat) (T_7 : PS) (H : Heap) (locs : List Loc) (ls : Array Slot) (i2_6 : Int32) (i2_6_z : Int), ((40 - i2_6_z).toNat = n) → (Wd G cy (AS S s.heap.size) s.heap T_7 H locs) → (i2_6.toInt = i2_6_z) → (0 ≤ i2_6_z ∧ i2_6_z ≤ 40) → (At T_7 x 8) → (Ok eMM S T_7) → (MkI S T_7 x L u a1_z i2_6_z) → (i2_6_z ≤ (pI S 800 x).toInt) → (pI T_7 800 x = v_1) → (pR T_7 812 x = some M) → (At T_7 M 2) → (lv_has ls 4 [(2, .int (i2_6)), (0, .ref x), (1, .int (a1))]) → W p l e ({ frames := 2, cells := 0, slots := 0, locals := 96 }) s m [.ref x, .int (a1)].toArray below meth c H locs 0 0 QQ (F0 m 2 ls []) := by
    intro n
    induction n using Nat.strongRecOn with
    | ind n ih =>
    intro T_7 H locs ls i2_6 i2_6_z hn hw hz_i2_6 hr_i2_6 ha_x_L_8 hO_T_7 iv_9 iv_10 ik_11 ik_12 ik_13 hl
    have rg_14 : (-2147483648) ≤ i2_6_z ∧ i2_6_z ≤ 2147483647 := by rw [← hz_i2_6]; exact ⟨z_lo _, z_hi _⟩
    refine lv_iload_n X.1 X.2.1 dX8_markMix_2 rfl (lv_at hl 0 rfl) ?_
    refine lv_aload_n X.1 X.2.1 dX8_markMix_3 rfl (lv_at hl 1 rfl) ?_
    refine r_getI (g := 800) (x := v_1) X hw ha_x_L_8 rfl 0 ik_11 (by decide) rfl inn_X8_markMix_8 (by decide) (X.2.2.2.1 (.fieldLink RX8 37 "SilkMill$Store" "kept" "I") (by decide +kernel)) rfl (gv_800 _ _) dX8_markMix_4 ?_
    refine lv_icmp_ge (tgt := 65) X.1 X.2.1 dX8_markMix_7 (by decide) (fun c_15 => ?_) (fun c_15 => ?_)
    · have z_b_16 := trivial
      have k_17 : i2_6_z ≥ v_1.toInt := z_le rfl hz_i2_6 c_15
      rw [hQQ]
      exact ret_v X hw hr hlocks (Nat.le_of_ble_eq_true rfl) (Nat.le_of_ble_eq_true rfl) ⟨hO_T_7, (by rw [show (pI S 800 x).toInt = i2_6_z by omega]; exact iv_9)⟩ dX8_markMix_65
    · have z_b_18 := trivial
      have k_19 : i2_6_z < v_1.toInt := z_nle rfl hz_i2_6 c_15
      refine lv_aload_n X.1 X.2.1 dX8_markMix_10 rfl (lv_at hl 1 rfl) ?_
      refine lv_iload_n X.1 X.2.1 dX8_markMix_11 rfl (lv_at hl 0 rfl) ?_
      refine k_q (rm := { frames := 1, cells := 0, slots := 0, locals := 48 }) (av := [.ref x, .int (i2_6)]) X hw (va_runV (As := [.int (i2_6)]) (rest := []) (cfix X) (k_X8_skeinAt7 l G cy κ T_7 _ x (i2_6) (i2_6_z) hO_T_7.1 ha_x_L_8 hz_i2_6) (cwV 1 X.2.2.2.1 gX8_markMix_X8_skeinAt rfl rfl rfl (by decide +kernel) ⟨Nat.le_of_ble_eq_true rfl, Nat.le_of_ble_eq_true rfl⟩) (pre_V X hw _ ha_x_L_8 rfl (by decide) rfl) rfl rfl hl.1 rfl (lv_room (Nat.le_of_ble_eq_true rfl)) dX8_markMix_12 ⟨Nat.le_of_ble_eq_true rfl, Nat.le_of_ble_eq_true rfl⟩) 0 0 (Nat.le_of_ble_eq_true rfl) (Nat.le_of_ble_eq_true rfl) (fun rr_20 S_21 H locs hp hw hfr hnw => ?_)
      obtain ⟨e2, hp⟩ := hp
      subst e2
      obtain ⟨hq_22, hnf_23⟩ := hp
      rcases rr_20 with _ | q_24
      · refine W.eq (g2 := F0 m 15 ls (.null :: [])) rfl ?_
        have nf_25 := hnf_23 rfl
        refine lv_astore_nN (lv' := [(3, .null), (2, .int (i2_6)), (0, .ref x), (1, .int (a1))]) X.1 X.2.1 dX8_markMix_15 rfl hl (by decide) rfl (fun ls hl => ?_)
        have pz_26 : (pI T_7 800 x).toInt = v_1.toInt := (congrArg Int32.toInt ik_11).trans rfl
        exact absurd ⟨by omega, by omega⟩ (nf_25 (SN_to ha_x hG hO_T_7.fr (by decide +kernel) (SN_of hp_0)))
      · refine W.eq (g2 := F0 m 15 ls (.ref q_24 :: [])) rfl ?_
        obtain ⟨ha_27, f_28, f_29, f_30⟩ := hq_22 _ rfl
        have eB_36 : mB T_7 x 808 = mB S x 808 := mB_frc hO_T_7.fr ha_x (ex3 (gQ_8_808 hG ha_x)) (by decide +kernel) (by decide +kernel)
        have mb_39 : mB S x 808 (i2_6_z).toNat = some q_24 := by rw [← eB_36]; exact f_30
        obtain ⟨s_31, hs_32⟩ : ∃ s, Ls[(i2_6_z).toNat]? = some s := ⟨_, List.getElem?_eq_getElem (by omega)⟩
        obtain ⟨q_33, j_34, so_35⟩ := hp_0.2 _ _ hs_32
        have eq_37 : q_33 = q_24 := Option.some.inj (j_34.symm.trans mb_39)
        rw [eq_37] at so_35
        have dd_38 := sk_dst so_35
        refine lv_astore_n (lv' := [(3, .ref q_24), (2, .int (i2_6)), (0, .ref x), (1, .int (a1))]) X.1 X.2.1 dX8_markMix_15 rfl hl (by decide) rfl (fun ls hl => ?_)
        refine lv_aload_n X.1 X.2.1 dX8_markMix_16 rfl (lv_at hl 0 rfl) ?_
        refine lv_ifnull X.1 X.2.1 dX8_markMix_17 ?_
        refine lv_aload_n X.1 X.2.1 dX8_markMix_20 rfl (lv_at hl 0 rfl) ?_
        refine lv_aload_n X.1 X.2.1 dX8_markMix_21 rfl (lv_at hl 2 rfl) ?_
        refine r_getR (g := 812) X hw ha_x_L_8 rfl 12 ik_12 (by decide) rfl inn_X8_markMix_8 (by decide) (X.2.2.2.1 (.fieldLink RX8 33 "SilkMill$Store" "mixer" "LSilkMill$Mixer;") (by decide +kernel)) rfl (gv_812 _ _) dX8_markMix_22 ?_
        refine lv_iload_n X.1 X.2.1 dX8_markMix_25 rfl (lv_at hl 1 rfl) ?_
        have e7_40 : pI T_7 207 M = pI S 207 M := hO_T_7.fr.I' (by decide +kernel) haM rfl
        refine k_i (rm := { frames := 1, cells := 0, slots := 0, locals := 48 }) (av := [.ref M, .int (i2_6)]) X hw (va_runV (As := [.int (i2_6)]) (rest := [.ref q_24]) (cfix X) (k_X2_isChosen8 l G cy κ T_7 _ M (i2_6) (i2_6_z) L u hO_T_7.1 ik_13 hz_i2_6 (MxV_fr hG haM hO_T_7.fr (by decide +kernel) hp_2) hp_3 (by rw [e7_40]; exact hp_4) hp_5) (cwV 1 X.2.2.2.1 gX8_markMix_X2_isChosen rfl rfl rfl (by decide +kernel) ⟨Nat.le_of_ble_eq_true rfl, Nat.le_of_ble_eq_true rfl⟩) (pre_V X hw _ ik_13 rfl (by decide) rfl) rfl rfl hl.1 rfl (lv_room (Nat.le_of_ble_eq_true rfl)) dX8_markMix_26 ⟨Nat.le_of_ble_eq_true rfl, Nat.le_of_ble_eq_true rfl⟩) 0 0 (Nat.le_of_ble_eq_true rfl) (Nat.le_of_ble_eq_true rfl) (fun rr_41 S_42 H locs hp hw hfr hnw => ?_)
        obtain ⟨e2, hp⟩ := hp
        subst e2
        rcases hp with ⟨f_43, er_44⟩ | ⟨f_43, er_44⟩ <;> subst er_44
        · have z_b_45 := trivial
          refine r_putI (v := 1) X hw ha_27 rfl 9 709 tyX7 (by decide) rfl inn_X8_markMix_7 tyX7_ok nmX7 (by decide) (X.2.2.2.1 (.fieldLink RX8 110 "SilkMill$Skein" "inLatestMix" "Z") (by decide +kernel)) rfl (Or.inl rfl) (by decide) (by decide) (Nat.le_of_ble_eq_true rfl) (st_709 _ _) dX8_markMix_29 (fun H locs hw => ?_)
          obtain ⟨S_46, eS_46⟩ : ∃ T, T = sI T_7 709 q_24 (1) := ⟨_, rfl⟩
          rw [← eS_46] at hw
          have hO_47 : Ok eMM S S_46 := hO_T_7.sI eS_46 (by decide +kernel) (uI_7_709 hO_T_7.1 ha_27)
          have h_48 : pI S_46 709 q_24 = 1 := tI_sIs eS_46
          refine lv_aload_n X.1 X.2.1 dX8_markMix_32 rfl (lv_at hl 0 rfl) ?_
          refine lv_aload_n X.1 X.2.1 dX8_markMix_33 rfl (lv_at hl 0 rfl) ?_
          have t_49 : At S_46 q_24 7 := tAt_sI eS_46 ha_27
          obtain ⟨v_50, ev_50⟩ : ∃ v, pI S_46 708 q_24 = v := ⟨_, rfl⟩
          have rg_51 := gI_7_708 hO_47.1 t_49; rw [ev_50] at rg_51
          have pz_52 : (pI S_46 708 q_24).toInt = v_50.toInt := by rw [ev_50]
          refine r_getI (g := 708) (x := v_50) X hw t_49 rfl 8 ev_50 (by decide) rfl inn_X8_markMix_7 (by decide) (X.2.2.2.1 (.fieldLink RX8 80 "SilkMill$Skein" "sold" "Z") (by decide +kernel)) rfl (gv_708 _ _) dX8_markMix_34 ?_
          refine lv_if_ne (tgt := 51) X.1 X.2.1 dX8_markMix_37 (by decide) (fun c_53 => ?_) (fun c_53 => ?_)
          · have z_b_54 := trivial
            have k_55 : v_50.toInt ≠ 0 := z_ne rfl ti_0 c_53
            refine lv_iconst (v := 1) X.1 X.2.1 dX8_markMix_51 (by decide) ?_
            refine lv_goto (tgt := 56) X.1 X.2.1 dX8_markMix_52 (by decide) ?_
            have sw_57 : pI T_7 708 q_24 = v_50 := by have h := ev_50; rw [eS_46, pI_sI_nf (by decide)] at h; exact h
            have sv_56 : (1 : Int32) = soI (pI T_7 708 q_24) (1 : Int32) a1_z := by rw [sw_57]; exact (soI_y (by first | exact Or.inl (z_nz rfl (by omega)) | exact Or.inr ⟨by decide, by omega⟩)).symm
            refine r_putI (v := 1) X hw t_49 rfl 8 708 tyX7 (by decide) rfl inn_X8_markMix_7 tyX7_ok nmX7 (by decide) (X.2.2.2.1 (.fieldLink RX8 80 "SilkMill$Skein" "sold" "Z") (by decide +kernel)) rfl (Or.inl rfl) (by decide) (by decide) (Nat.le_of_ble_eq_true rfl) (st_708 _ _) dX8_markMix_56 (fun H locs hw => ?_)
            obtain ⟨S_58, eS_58⟩ : ∃ T, T = sI S_46 708 q_24 (1) := ⟨_, rfl⟩
            rw [← eS_58] at hw
            have hO_59 : Ok eMM S S_58 := hO_47.sI eS_58 (by decide +kernel) (uI_7_708 hO_47.1 t_49 (by rw [ti_1]; omega) (by rw [ti_1]; omega))
            have h_60 : pI S_58 708 q_24 = 1 := tI_sIs eS_58
            obtain ⟨x_61, ex_61⟩ : ∃ y : Int32, y = i2_6 + 1 := ⟨_, rfl⟩
            have z_62 : x_61.toInt = i2_6_z + 1 := z_add ex_61 hz_i2_6 ti_1 (by omega) (by omega)
            refine lv_iinc (v := x_61) (lv' := [(2, .int (x_61)), (3, .ref q_24), (0, .ref x), (1, .int (a1))]) X.1 X.2.1 dX8_markMix_59 hl (k := 1) rfl (by rw [ex_61]; rfl) (by decide) rfl (fun ls hl => ?_)
            refine lv_goto (tgt := 2) X.1 X.2.1 dX8_markMix_62 (by decide) ?_
            have t_63 : At S_46 x 8 := tAt_sI eS_46 ha_x_L_8
            have t_64 : At S_58 x 8 := tAt_sI eS_58 t_63
            have t_65 : pI S_46 800 x = v_1 := tI_sI eS_46 rfl ik_11
            have t_66 : pI S_58 800 x = v_1 := tI_sI eS_58 rfl t_65
            have t_67 : pR S_46 812 x = some M := tR_sI eS_46 ik_12
            have t_68 : pR S_58 812 x = some M := tR_sI eS_58 t_67
            have t_69 : At S_46 M 2 := tAt_sI eS_46 ik_13
            have t_70 : At S_58 M 2 := tAt_sI eS_58 t_69
            exact ih _ (by omega) _ _ _ _ (x_61) (x_61.toInt) rfl hw rfl (by omega) t_64 hO_59 (by rw [show x_61.toInt = i2_6_z + 1 by omega]; exact MkI_s (k := (i2_6_z).toNat) (by omega) (by omega) dd_38 mb_39 eS_46 eS_58 (chI_y (by rw [show (((i2_6_z).toNat : Nat) : Int) = i2_6_z by omega]; exact f_43)).symm sv_56 iv_9) (by omega) t_66 t_68 t_70 (lv_sub hl [0, 2, 3] rfl)
          · have z_b_71 := trivial
            have k_72 : v_50.toInt = 0 := z_eq rfl ti_0 c_53
            refine lv_aload_n X.1 X.2.1 dX8_markMix_40 rfl (lv_at hl 0 rfl) ?_
            refine r_getI (g := 709) (x := 1) X hw t_49 rfl 9 h_48 (by decide) rfl inn_X8_markMix_7 (by decide) (X.2.2.2.1 (.fieldLink RX8 110 "SilkMill$Skein" "inLatestMix" "Z") (by decide +kernel)) rfl (gv_709 _ _) dX8_markMix_41 ?_
            refine lv_if_eq (tgt := 55) X.1 X.2.1 dX8_markMix_44 (by decide) (fun c_73 => absurd c_73 (by decide)) (fun c_73 => ?_)
            refine lv_iload_n X.1 X.2.1 dX8_markMix_47 rfl (lv_at hl 3 rfl) ?_
            refine lv_if_eq (tgt := 55) X.1 X.2.1 dX8_markMix_48 (by decide) (fun c_74 => ?_) (fun c_74 => ?_)
            · have z_b_75 := trivial
              have k_76 : a1_z = 0 := z_eq hz_a1 ti_0 c_74
              refine lv_iconst (v := 0) X.1 X.2.1 dX8_markMix_55 (by decide) ?_
              have sw_78 : pI T_7 708 q_24 = v_50 := by have h := ev_50; rw [eS_46, pI_sI_nf (by decide)] at h; exact h
              have sv_77 : (0 : Int32) = soI (pI T_7 708 q_24) (1 : Int32) a1_z := by rw [sw_78]; exact (soI_n (fun h => by rcases h with h | ⟨h1, h2⟩; exact h (z_eq0 (by omega)); first | exact h1 rfl | omega)).symm
              refine r_putI (v := 0) X hw t_49 rfl 8 708 tyX7 (by decide) rfl inn_X8_markMix_7 tyX7_ok nmX7 (by decide) (X.2.2.2.1 (.fieldLink RX8 80 "SilkMill$Skein" "sold" "Z") (by decide +kernel)) rfl (Or.inl rfl) (by decide) (by decide) (Nat.le_of_ble_eq_true rfl) (st_708 _ _) dX8_markMix_56 (fun H locs hw => ?_)
              obtain ⟨S_79, eS_79⟩ : ∃ T, T = sI S_46 708 q_24 (0) := ⟨_, rfl⟩
              rw [← eS_79] at hw
              have hO_80 : Ok eMM S S_79 := hO_47.sI eS_79 (by decide +kernel) (uI_7_708 hO_47.1 t_49 (by rw [ti_0]; omega) (by rw [ti_0]; omega))
              have h_81 : pI S_79 708 q_24 = 0 := tI_sIs eS_79
              obtain ⟨x_82, ex_82⟩ : ∃ y : Int32, y = i2_6 + 1 := ⟨_, rfl⟩
              have z_83 : x_82.toInt = i2_6_z + 1 := z_add ex_82 hz_i2_6 ti_1 (by omega) (by omega)
              refine lv_iinc (v := x_82) (lv' := [(2, .int (x_82)), (3, .ref q_24), (0, .ref x), (1, .int (a1))]) X.1 X.2.1 dX8_markMix_59 hl (k := 1) rfl (by rw [ex_82]; rfl) (by decide) rfl (fun ls hl => ?_)
              refine lv_goto (tgt := 2) X.1 X.2.1 dX8_markMix_62 (by decide) ?_
              have t_84 : At S_46 x 8 := tAt_sI eS_46 ha_x_L_8
              have t_85 : At S_79 x 8 := tAt_sI eS_79 t_84
              have t_86 : pI S_46 800 x = v_1 := tI_sI eS_46 rfl ik_11
              have t_87 : pI S_79 800 x = v_1 := tI_sI eS_79 rfl t_86
              have t_88 : pR S_46 812 x = some M := tR_sI eS_46 ik_12
              have t_89 : pR S_79 812 x = some M := tR_sI eS_79 t_88
              have t_90 : At S_46 M 2 := tAt_sI eS_46 ik_13
              have t_91 : At S_79 M 2 := tAt_sI eS_79 t_90
              exact ih _ (by omega) _ _ _ _ (x_82) (x_82.toInt) rfl hw rfl (by omega) t_85 hO_80 (by rw [show x_82.toInt = i2_6_z + 1 by omega]; exact MkI_s (k := (i2_6_z).toNat) (by omega) (by omega) dd_38 mb_39 eS_46 eS_79 (chI_y (by rw [show (((i2_6_z).toNat : Nat) : Int) = i2_6_z by omega]; exact f_43)).symm sv_77 iv_9) (by omega) t_87 t_89 t_91 (lv_sub hl [0, 2, 3] rfl)
            · have z_b_92 := trivial
              have k_93 : a1_z ≠ 0 := z_ne hz_a1 ti_0 c_74
              refine lv_iconst (v := 1) X.1 X.2.1 dX8_markMix_51 (by decide) ?_
              refine lv_goto (tgt := 56) X.1 X.2.1 dX8_markMix_52 (by decide) ?_
              have sw_95 : pI T_7 708 q_24 = v_50 := by have h := ev_50; rw [eS_46, pI_sI_nf (by decide)] at h; exact h
              have sv_94 : (1 : Int32) = soI (pI T_7 708 q_24) (1 : Int32) a1_z := by rw [sw_95]; exact (soI_y (by first | exact Or.inl (z_nz rfl (by omega)) | exact Or.inr ⟨by decide, by omega⟩)).symm
              refine r_putI (v := 1) X hw t_49 rfl 8 708 tyX7 (by decide) rfl inn_X8_markMix_7 tyX7_ok nmX7 (by decide) (X.2.2.2.1 (.fieldLink RX8 80 "SilkMill$Skein" "sold" "Z") (by decide +kernel)) rfl (Or.inl rfl) (by decide) (by decide) (Nat.le_of_ble_eq_true rfl) (st_708 _ _) dX8_markMix_56 (fun H locs hw => ?_)
              obtain ⟨S_96, eS_96⟩ : ∃ T, T = sI S_46 708 q_24 (1) := ⟨_, rfl⟩
              rw [← eS_96] at hw
              have hO_97 : Ok eMM S S_96 := hO_47.sI eS_96 (by decide +kernel) (uI_7_708 hO_47.1 t_49 (by rw [ti_1]; omega) (by rw [ti_1]; omega))
              have h_98 : pI S_96 708 q_24 = 1 := tI_sIs eS_96
              obtain ⟨x_99, ex_99⟩ : ∃ y : Int32, y = i2_6 + 1 := ⟨_, rfl⟩
              have z_100 : x_99.toInt = i2_6_z + 1 := z_add ex_99 hz_i2_6 ti_1 (by omega) (by omega)
              refine lv_iinc (v := x_99) (lv' := [(2, .int (x_99)), (3, .ref q_24), (0, .ref x), (1, .int (a1))]) X.1 X.2.1 dX8_markMix_59 hl (k := 1) rfl (by rw [ex_99]; rfl) (by decide) rfl (fun ls hl => ?_)
              refine lv_goto (tgt := 2) X.1 X.2.1 dX8_markMix_62 (by decide) ?_
              have t_101 : At S_46 x 8 := tAt_sI eS_46 ha_x_L_8
              have t_102 : At S_96 x 8 := tAt_sI eS_96 t_101
              have t_103 : pI S_46 800 x = v_1 := tI_sI eS_46 rfl ik_11
              have t_104 : pI S_96 800 x = v_1 := tI_sI eS_96 rfl t_103
              have t_105 : pR S_46 812 x = some M := tR_sI eS_46 ik_12
              have t_106 : pR S_96 812 x = some M := tR_sI eS_96 t_105
              have t_107 : At S_46 M 2 := tAt_sI eS_46 ik_13
              have t_108 : At S_96 M 2 := tAt_sI eS_96 t_107
              exact ih _ (by omega) _ _ _ _ (x_99) (x_99.toInt) rfl hw rfl (by omega) t_102 hO_97 (by rw [show x_99.toInt = i2_6_z + 1 by omega]; exact MkI_s (k := (i2_6_z).toNat) (by omega) (by omega) dd_38 mb_39 eS_46 eS_96 (chI_y (by rw [show (((i2_6_z).toNat : Nat) : Int) = i2_6_z by omega]; exact f_43)).symm sv_94 iv_9) (by omega) t_104 t_106 t_108 (lv_sub hl [0, 2, 3] rfl)
        · have z_b_109 := trivial
          refine r_putI (v := 0) X hw ha_27 rfl 9 709 tyX7 (by decide) rfl inn_X8_markMix_7 tyX7_ok nmX7 (by decide) (X.2.2.2.1 (.fieldLink RX8 110 "SilkMill$Skein" "inLatestMix" "Z") (by decide +kernel)) rfl (Or.inl rfl) (by decide) (by decide) (Nat.le_of_ble_eq_true rfl) (st_709 _ _) dX8_markMix_29 (fun H locs hw => ?_)
          obtain ⟨S_110, eS_110⟩ : ∃ T, T = sI T_7 709 q_24 (0) := ⟨_, rfl⟩
          rw [← eS_110] at hw
          have hO_111 : Ok eMM S S_110 := hO_T_7.sI eS_110 (by decide +kernel) (uI_7_709 hO_T_7.1 ha_27)
          have h_112 : pI S_110 709 q_24 = 0 := tI_sIs eS_110
          refine lv_aload_n X.1 X.2.1 dX8_markMix_32 rfl (lv_at hl 0 rfl) ?_
          refine lv_aload_n X.1 X.2.1 dX8_markMix_33 rfl (lv_at hl 0 rfl) ?_
          have t_113 : At S_110 q_24 7 := tAt_sI eS_110 ha_27
          obtain ⟨v_114, ev_114⟩ : ∃ v, pI S_110 708 q_24 = v := ⟨_, rfl⟩
          have rg_115 := gI_7_708 hO_111.1 t_113; rw [ev_114] at rg_115
          have pz_116 : (pI S_110 708 q_24).toInt = v_114.toInt := by rw [ev_114]
          refine r_getI (g := 708) (x := v_114) X hw t_113 rfl 8 ev_114 (by decide) rfl inn_X8_markMix_7 (by decide) (X.2.2.2.1 (.fieldLink RX8 80 "SilkMill$Skein" "sold" "Z") (by decide +kernel)) rfl (gv_708 _ _) dX8_markMix_34 ?_
          refine lv_if_ne (tgt := 51) X.1 X.2.1 dX8_markMix_37 (by decide) (fun c_117 => ?_) (fun c_117 => ?_)
          · have z_b_118 := trivial
            have k_119 : v_114.toInt ≠ 0 := z_ne rfl ti_0 c_117
            refine lv_iconst (v := 1) X.1 X.2.1 dX8_markMix_51 (by decide) ?_
            refine lv_goto (tgt := 56) X.1 X.2.1 dX8_markMix_52 (by decide) ?_
            have sw_121 : pI T_7 708 q_24 = v_114 := by have h := ev_114; rw [eS_110, pI_sI_nf (by decide)] at h; exact h
            have sv_120 : (1 : Int32) = soI (pI T_7 708 q_24) (0 : Int32) a1_z := by rw [sw_121]; exact (soI_y (by first | exact Or.inl (z_nz rfl (by omega)) | exact Or.inr ⟨by decide, by omega⟩)).symm
            refine r_putI (v := 1) X hw t_113 rfl 8 708 tyX7 (by decide) rfl inn_X8_markMix_7 tyX7_ok nmX7 (by decide) (X.2.2.2.1 (.fieldLink RX8 80 "SilkMill$Skein" "sold" "Z") (by decide +kernel)) rfl (Or.inl rfl) (by decide) (by decide) (Nat.le_of_ble_eq_true rfl) (st_708 _ _) dX8_markMix_56 (fun H locs hw => ?_)
            obtain ⟨S_122, eS_122⟩ : ∃ T, T = sI S_110 708 q_24 (1) := ⟨_, rfl⟩
            rw [← eS_122] at hw
            have hO_123 : Ok eMM S S_122 := hO_111.sI eS_122 (by decide +kernel) (uI_7_708 hO_111.1 t_113 (by rw [ti_1]; omega) (by rw [ti_1]; omega))
            have h_124 : pI S_122 708 q_24 = 1 := tI_sIs eS_122
            obtain ⟨x_125, ex_125⟩ : ∃ y : Int32, y = i2_6 + 1 := ⟨_, rfl⟩
            have z_126 : x_125.toInt = i2_6_z + 1 := z_add ex_125 hz_i2_6 ti_1 (by omega) (by omega)
            refine lv_iinc (v := x_125) (lv' := [(2, .int (x_125)), (3, .ref q_24), (0, .ref x), (1, .int (a1))]) X.1 X.2.1 dX8_markMix_59 hl (k := 1) rfl (by rw [ex_125]; rfl) (by decide) rfl (fun ls hl => ?_)
            refine lv_goto (tgt := 2) X.1 X.2.1 dX8_markMix_62 (by decide) ?_
            have t_127 : At S_110 x 8 := tAt_sI eS_110 ha_x_L_8
            have t_128 : At S_122 x 8 := tAt_sI eS_122 t_127
            have t_129 : pI S_110 800 x = v_1 := tI_sI eS_110 rfl ik_11
            have t_130 : pI S_122 800 x = v_1 := tI_sI eS_122 rfl t_129
            have t_131 : pR S_110 812 x = some M := tR_sI eS_110 ik_12
            have t_132 : pR S_122 812 x = some M := tR_sI eS_122 t_131
            have t_133 : At S_110 M 2 := tAt_sI eS_110 ik_13
            have t_134 : At S_122 M 2 := tAt_sI eS_122 t_133
            exact ih _ (by omega) _ _ _ _ (x_125) (x_125.toInt) rfl hw rfl (by omega) t_128 hO_123 (by rw [show x_125.toInt = i2_6_z + 1 by omega]; exact MkI_s (k := (i2_6_z).toNat) (by omega) (by omega) dd_38 mb_39 eS_110 eS_122 (chI_n (by rw [show (((i2_6_z).toNat : Nat) : Int) = i2_6_z by omega]; exact f_43)).symm sv_120 iv_9) (by omega) t_130 t_132 t_134 (lv_sub hl [0, 2, 3] rfl)
          · have z_b_135 := trivial
            have k_136 : v_114.toInt = 0 := z_eq rfl ti_0 c_117
            refine lv_aload_n X.1 X.2.1 dX8_markMix_40 rfl (lv_at hl 0 rfl) ?_
            refine r_getI (g := 709) (x := 0) X hw t_113 rfl 9 h_112 (by decide) rfl inn_X8_markMix_7 (by decide) (X.2.2.2.1 (.fieldLink RX8 110 "SilkMill$Skein" "inLatestMix" "Z") (by decide +kernel)) rfl (gv_709 _ _) dX8_markMix_41 ?_
            refine lv_if_eq (tgt := 55) X.1 X.2.1 dX8_markMix_44 (by decide) (fun c_137 => ?_) (fun c_137 => absurd c_137 (by decide))
            refine lv_iconst (v := 0) X.1 X.2.1 dX8_markMix_55 (by decide) ?_
            have sw_139 : pI T_7 708 q_24 = v_114 := by have h := ev_114; rw [eS_110, pI_sI_nf (by decide)] at h; exact h
            have sv_138 : (0 : Int32) = soI (pI T_7 708 q_24) (0 : Int32) a1_z := by rw [sw_139]; exact (soI_n (fun h => by rcases h with h | ⟨h1, h2⟩; exact h (z_eq0 (by omega)); first | exact h1 rfl | omega)).symm
            refine r_putI (v := 0) X hw t_113 rfl 8 708 tyX7 (by decide) rfl inn_X8_markMix_7 tyX7_ok nmX7 (by decide) (X.2.2.2.1 (.fieldLink RX8 80 "SilkMill$Skein" "sold" "Z") (by decide +kernel)) rfl (Or.inl rfl) (by decide) (by decide) (Nat.le_of_ble_eq_true rfl) (st_708 _ _) dX8_markMix_56 (fun H locs hw => ?_)
            obtain ⟨S_140, eS_140⟩ : ∃ T, T = sI S_110 708 q_24 (0) := ⟨_, rfl⟩
            rw [← eS_140] at hw
            have hO_141 : Ok eMM S S_140 := hO_111.sI eS_140 (by decide +kernel) (uI_7_708 hO_111.1 t_113 (by rw [ti_0]; omega) (by rw [ti_0]; omega))
            have h_142 : pI S_140 708 q_24 = 0 := tI_sIs eS_140
            obtain ⟨x_143, ex_143⟩ : ∃ y : Int32, y = i2_6 + 1 := ⟨_, rfl⟩
            have z_144 : x_143.toInt = i2_6_z + 1 := z_add ex_143 hz_i2_6 ti_1 (by omega) (by omega)
            refine lv_iinc (v := x_143) (lv' := [(2, .int (x_143)), (3, .ref q_24), (0, .ref x), (1, .int (a1))]) X.1 X.2.1 dX8_markMix_59 hl (k := 1) rfl (by rw [ex_143]; rfl) (by decide) rfl (fun ls hl => ?_)
            refine lv_goto (tgt := 2) X.1 X.2.1 dX8_markMix_62 (by decide) ?_
            have t_145 : At S_110 x 8 := tAt_sI eS_110 ha_x_L_8
            have t_146 : At S_140 x 8 := tAt_sI eS_140 t_145
            have t_147 : pI S_110 800 x = v_1 := tI_sI eS_110 rfl ik_11
            have t_148 : pI S_140 800 x = v_1 := tI_sI eS_140 rfl t_147
            have t_149 : pR S_110 812 x = some M := tR_sI eS_110 ik_12
            have t_150 : pR S_140 812 x = some M := tR_sI eS_140 t_149
            have t_151 : At S_110 M 2 := tAt_sI eS_110 ik_13
            have t_152 : At S_140 M 2 := tAt_sI eS_140 t_151
            exact ih _ (by omega) _ _ _ _ (x_143) (x_143.toInt) rfl hw rfl (by omega) t_146 hO_141 (by rw [show x_143.toInt = i2_6_z + 1 by omega]; exact MkI_s (k := (i2_6_z).toNat) (by omega) (by omega) dd_38 mb_39 eS_110 eS_140 (chI_n (by rw [show (((i2_6_z).toNat : Nat) : Int) = i2_6_z by omega]; exact f_43)).symm sv_138 iv_9) (by omega) t_148 t_150 t_152 (lv_sub hl [0, 2, 3] rfl)
  exact L_5 _ _ _ _ _ (0) (0) rfl hw ti_0 (by omega) ha_x hO MkI_0 (by omega) ev_1 hp_1 haM (lv_sub hl [0, 1, 2] rfl)
set_option maxHeartbeats 4000000 in
set_option maxRecDepth 100000 in
theorem k_X8_mixFor8 (l : Launch) (G : va_G) (cy : Nat → ClassId) (κ : Nat → Nat) (S : PS) (sz : Nat) (x : Nat) (a1 : Int32) (a1_z : Int) (a2 : Int32) (a2_z : Int) (a3 : Int32) (a3_z : Int) (a4 : Int32) (a4_z : Int) (D : Nat → Prop) (Ls : List Sk) (M : Nat) (hG : GX S) (ha_x : At S x 8) (hz_a1 : a1.toInt = a1_z) (hz_a2 : a2.toInt = a2_z) (hz_a3 : a3.toInt = a3_z) (hz_a4 : a4.toInt = a4_z) (hp_0 : SkV S D x Ls) (hp_1 : pR S 812 x = some M) (hp_2 : WdB Ls) (hp_3 : 1 ≤ a1_z) : Ci l yX8_mixFor wsX8_mixFor ({ frames := 17, cells := 0, slots := 0, locals := 816 }) G cy κ S sz [.ref x, .int (a1), .int (a2), .int (a3), .int (a4)] (fun (r : Int32) (S9 : PS) => Ok eMI S S9 ∧ (-2147483648 ≤ r.toInt ∧ r.toInt ≤ 2147483647 ∧ MxC S S9 x (ofN (siS S) (mA S x 807) (loG S) (hiG S) a2_z a3_z Ls Ls.length) a1_z a4_z r)) := by
  refine ent_m (cc := cX8_mixFor) (maxL := 7) (ret := (some .int)) (by decide) rfl (Nat.le_of_ble_eq_true rfl) ?_
  intro p e s m below meth c ls X hr hlocks hin hw hl hsz
  subst hsz
  have X : Cx p c cX8_mixFor 7 s [.ref x, .int (a1), .int (a2), .int (a3), .int (a4)].toArray wsX8_mixFor RX8 m G cy κ (AS S s.heap.size) := X
  have hl : lv_has ls 7 [(0, .ref x), (1, .int (a1)), (2, .int (a2)), (3, .int (a3)), (4, .int (a4))] := hl
  have rg_a1 : (-2147483648) ≤ a1_z ∧ a1_z ≤ 2147483647 := by rw [← hz_a1]; exact ⟨z_lo _, z_hi _⟩
  have rg_a2 : (-2147483648) ≤ a2_z ∧ a2_z ≤ 2147483647 := by rw [← hz_a2]; exact ⟨z_lo _, z_hi _⟩
  have rg_a3 : (-2147483648) ≤ a3_z ∧ a3_z ≤ 2147483647 := by rw [← hz_a3]; exact ⟨z_lo _, z_hi _⟩
  have rg_a4 : (-2147483648) ≤ a4_z ∧ a4_z ≤ 2147483647 := by rw [← hz_a4]; exact ⟨z_lo _, z_hi _⟩
  have hO : Ok eMI S S := Ok.rf hG
  generalize hQQ : MQ below _ _ _ _ _ _ = QQ
  replace hQQ := hQQ.symm
  obtain ⟨v_1, ev_1⟩ : ∃ v, pI S 800 x = v := ⟨_, rfl⟩
  have rg_2 := gI_8_800 hO.1 ha_x; rw [ev_1] at rg_2
  have pz_3 : (pI S 800 x).toInt = v_1.toInt := by rw [ev_1]
  have pz_4 : (pI S 800 x).toInt = v_1.toInt := (congrArg Int32.toInt ev_1).trans rfl
  have hkl := hp_0.1
  have haM := mx_at hG ha_x hp_1
  refine lv_aload_n X.1 X.2.1 dX8_mixFor_0 rfl (lv_at hl 0 rfl) ?_
  refine r_getR (g := 812) X hw ha_x rfl 12 hp_1 (by decide) rfl inn_X8_mixFor_8 (by decide) (X.2.2.2.1 (.fieldLink RX8 33 "SilkMill$Store" "mixer" "LSilkMill$Mixer;") (by decide +kernel)) rfl (gv_812 _ _) dX8_mixFor_1 ?_
  refine lv_iload_n X.1 X.2.1 dX8_mixFor_4 rfl (lv_at hl 1 rfl) ?_
  refine k_v (rm := { frames := 1, cells := 0, slots := 0, locals := 48 }) (av := [.ref M, .int (a1)]) X hw (va_runV (As := [.int (a1)]) (rest := []) (cfix X) (k_X2_beginFor8 l G cy κ S _ M (a1) (a1_z) hO.1 haM hz_a1) (cwV 1 X.2.2.2.1 gX8_mixFor_X2_beginFor rfl rfl rfl (by decide +kernel) ⟨Nat.le_of_ble_eq_true rfl, Nat.le_of_ble_eq_true rfl⟩) (pre_V X hw _ haM rfl (by decide) rfl) rfl rfl hl.1 rfl (lv_room (Nat.le_of_ble_eq_true rfl)) dX8_mixFor_5 ⟨Nat.le_of_ble_eq_true rfl, Nat.le_of_ble_eq_true rfl⟩) 0 0 (Nat.le_of_ble_eq_true rfl) (Nat.le_of_ble_eq_true rfl) (fun S_6 H locs hp hw hfr hnw => ?_)
  obtain ⟨hk_7, hp⟩ := hp
  have hO_8 : Ok eMI S S_6 := hO.call hk_7 (by decide +kernel)
  obtain ⟨bf_9, bf_10, bf_11, bf_12, bf_13⟩ := hp
  refine lv_iconst (v := 0) X.1 X.2.1 dX8_mixFor_8 (by decide) ?_
  refine lv_istore (lv' := [(5, .int 0), (0, .ref x), (1, .int (a1)), (2, .int (a2)), (3, .int (a3)), (4, .int (a4))]) X.1 X.2.1 dX8_mixFor_9 hl (by decide) rfl (fun ls hl => ?_)
  have t_22 : pI S_6 800 x = v_1 := hk_7.fr.I' (by decide +kernel) ha_x ev_1
  have t_24 : pR S_6 812 x = some M := hk_7.fr.R' (by decide +kernel) ha_x hp_1
  have L_14 : ∀ (n : Nat) (T_16 : PS) (H : Heap) (locs : List Loc) (ls : Array Slot) (i5_15 : Int32) (i5_15_z : Int), ((40 - i5_15_z).toNat = n) → (Wd G cy (AS S s.heap.size) s.heap T_16 H locs) → (i5_15.toInt = i5_15_z) → (0 ≤ i5_15_z ∧ i5_15_z ≤ 40) → (At T_16 x 8) → (Ok eMI S T_16) → (Fr eMX S T_16) → (MxV T_16 M (ofN (siS S) (mA S x 807) (loG S) (hiG S) a2_z a3_z Ls (i5_15_z).toNat)) → (pI T_16 205 M = a1 ∧ pI T_16 206 M = 2147483647 ∧ pI T_16 207 M = 0) → (i5_15_z ≤ (Ls.length : Int)) → (pI T_16 800 x = v_1) → (pR T_16 812 x = some M) → (At T_16 M 2) → (lv_has ls 7 [(5, .int (i5_15)), (0, .ref x), (1, .int (a1)), (2, .int (a2)), (3, .int (a3)), (4, .int (a4))]) → W p l e ({ frames := 17, cells := 0, slots := 0, locals := 816 }) s m [.ref x, .int (a1), .int (a2), .int (a3), .int (a4)].toArray below meth c H locs 0 0 QQ (F0 m 11 ls []) := by
    intro n
    induction n using Nat.strongRecOn with
    | ind n ih =>
    intro T_16 H locs ls i5_15 i5_15_z hn hw hz_i5_15 hr_i5_15 ha_x_L_17 hO_T_16 iv_18 iv_19 iv_20 iv_21 ik_23 ik_25 ik_26 hl
    have rg_27 : (-2147483648) ≤ i5_15_z ∧ i5_15_z ≤ 2147483647 := by rw [← hz_i5_15]; exact ⟨z_lo _, z_hi _⟩
    refine lv_iload X.1 X.2.1 dX8_mixFor_11 (lv_at hl 0 rfl) ?_
    refine lv_aload_n X.1 X.2.1 dX8_mixFor_13 rfl (lv_at hl 1 rfl) ?_
    refine r_getI (g := 800) (x := v_1) X hw ha_x_L_17 rfl 0 ik_23 (by decide) rfl inn_X8_mixFor_8 (by decide) (X.2.2.2.1 (.fieldLink RX8 37 "SilkMill$Store" "kept" "I") (by decide +kernel)) rfl (gv_800 _ _) dX8_mixFor_14 ?_
    refine lv_icmp_ge (tgt := 88) X.1 X.2.1 dX8_mixFor_17 (by decide) (fun c_28 => ?_) (fun c_28 => ?_)
    · have z_b_29 := trivial
      have k_30 : i5_15_z ≥ v_1.toInt := z_le rfl hz_i5_15 c_28
      refine lv_aload_n X.1 X.2.1 dX8_mixFor_88 rfl (lv_at hl 1 rfl) ?_
      refine r_getR (g := 812) X hw ha_x_L_17 rfl 12 ik_25 (by decide) rfl inn_X8_mixFor_8 (by decide) (X.2.2.2.1 (.fieldLink RX8 33 "SilkMill$Store" "mixer" "LSilkMill$Mixer;") (by decide +kernel)) rfl (gv_812 _ _) dX8_mixFor_89 ?_
      have hOL : (i5_15_z).toNat = Ls.length := by omega
      have mv_31 : MxV T_16 M (ofN (siS S) (mA S x 807) (loG S) (hiG S) a2_z a3_z Ls Ls.length) := by have h := iv_19; rw [hOL] at h; exact h
      refine k_i (rm := { frames := 16, cells := 0, slots := 0, locals := 768 }) (av := [.ref M]) X hw (va_runV (As := []) (rest := []) (cfix X) (k_X2_leastPrice8 l G cy κ T_16 _ M hO_T_16.1 ik_26) (cwV 0 X.2.2.2.1 gX8_mixFor_X2_leastPrice rfl rfl rfl (by decide +kernel) ⟨Nat.le_of_ble_eq_true rfl, Nat.le_of_ble_eq_true rfl⟩) (pre_V X hw _ ik_26 rfl (by decide) rfl) rfl rfl hl.1 rfl (lv_room (Nat.le_of_ble_eq_true rfl)) dX8_mixFor_92 ⟨Nat.le_of_ble_eq_true rfl, Nat.le_of_ble_eq_true rfl⟩) 0 0 (Nat.le_of_ble_eq_true rfl) (Nat.le_of_ble_eq_true rfl) (fun rr_32 S_33 H locs hp hw hfr hnw => ?_)
      obtain ⟨hk_34, hp⟩ := hp
      have hO_35 : Ok eMI S S_33 := hO_T_16.call hk_34 (by decide +kernel)
      obtain ⟨lp_36, lp_37, lp_38, lp_39, lp_40, lp_41⟩ := hp
      have pr_42 : (pI S_33 206 M, pI S_33 207 M) = skF (pI T_16 203 M).toInt (mA T_16 M 201) (mA T_16 M 202) (pI T_16 205 M) 14 0 0 (pI T_16 204 M) 0 (pI T_16 206 M, pI T_16 207 M) := Prod.ext lp_38 lp_39
      rw [iv_20.2.1, iv_20.2.2, iv_20.1, mx_res mv_31 (ofN_in _ (Nat.le_refl _)).1 (ofC_b hG ha_x hp_0 hp_2), hz_a1] at pr_42
      have rg_44 := And.intro (z_lo rr_32) (z_hi rr_32)
      refine lv_istore (lv' := [(5, .int (rr_32)), (0, .ref x), (1, .int (a1)), (2, .int (a2)), (3, .int (a3)), (4, .int (a4))]) X.1 X.2.1 dX8_mixFor_95 hl (by decide) rfl (fun ls hl => ?_)
      refine lv_iload X.1 X.2.1 dX8_mixFor_97 (lv_at hl 0 rfl) ?_
      refine lv_iconst (v := (-1)) X.1 X.2.1 dX8_mixFor_99 (by decide) ?_
      refine lv_icmp_eq (tgt := 109) X.1 X.2.1 dX8_mixFor_100 (by decide) (fun c_45 => ?_) (fun c_45 => ?_)
      · have z_b_46 := trivial
        have k_47 : rr_32.toInt = (-1) := z_eq rfl ti_m1 c_45
        refine lv_iload X.1 X.2.1 dX8_mixFor_109 (lv_at hl 0 rfl) ?_
        rw [hQQ]
        exact ret_i X hw hr hlocks (Nat.le_of_ble_eq_true rfl) (Nat.le_of_ble_eq_true rfl) ⟨hO_35, ⟨z_lo _, z_hi _, fun ho => ⟨by rw [lp_40 (mx_no ho pr_42)]; decide, iv_18.trans (hk_34.fr.mono (by decide +kernel))⟩, fun y ho => absurd (mx_ye (ofC_b hG ha_x hp_0 hp_2) (ofN_in _ (Nat.le_refl _)).1 hp_3 ho pr_42) (fun h => (by have e1 := congrArg Int32.toInt (lp_41 h.1); have e2 : (pI S_33 206 M).toInt = y.1 := h.2.1; have e3 := (opt_le _ _ _ (nn_of (ofC_b hG ha_x hp_0 hp_2)) ho).1; omega))⟩⟩ dX8_mixFor_111
      · have z_b_48 := trivial
        have k_49 : rr_32.toInt ≠ (-1) := z_ne rfl ti_m1 c_45
        refine lv_aload_n X.1 X.2.1 dX8_mixFor_103 rfl (lv_at hl 1 rfl) ?_
        refine lv_iload X.1 X.2.1 dX8_mixFor_104 (lv_at hl 5 rfl) ?_
        obtain ⟨y_50, ho_51⟩ : ∃ y, opt ((ofN (siS S) (mA S x 807) (loG S) (hiG S) a2_z a3_z Ls Ls.length).map itI) a1_z = some y := by
          cases e : opt ((ofN (siS S) (mA S x 807) (loG S) (hiG S) a2_z a3_z Ls Ls.length).map itI) a1_z with
          | some y => exact ⟨y, rfl⟩
          | none => exact absurd (lp_40 (mx_no e pr_42)) (fun z => by have e1 := congrArg Int32.toInt z; have h : (-1 : Int32).toInt = -1 := (by decide); omega)
        have hy_52 := mx_ye (ofC_b hG ha_x hp_0 hp_2) (ofN_in _ (Nat.le_refl _)).1 hp_3 ho_51 pr_42
        have t_53 : At S_33 x 8 := hk_34.fr.at ha_x_L_17
        have fx_54 : Fr eMX S S_33 := iv_18.trans (hk_34.fr.mono (by decide +kernel))
        have t_55 : pR S_33 812 x = some M := hk_34.fr.R' (by decide +kernel) ha_x_L_17 ik_25
        refine k_v (rm := { frames := 2, cells := 0, slots := 0, locals := 96 }) (av := [.ref x, .int (a4)]) X hw (va_runV (As := [.int (a4)]) (rest := []) (cfix X) (k_X8_markMix8 l G cy κ S_33 _ x (a4) (a4_z) D Ls M (ofN (siS S) (mA S x 807) (loG S) (hiG S) a2_z a3_z Ls Ls.length) y_50.2 hO_35.1 t_53 hz_a4 (SkV_fr hG ha_x fx_54 (by decide +kernel) hp_0) t_55 (MxV_fr hO_T_16.1 ik_26 hk_34.fr (by decide +kernel) mv_31) (ofN_in _ (Nat.le_refl _)).2.1 hy_52.2.2.1 hy_52.2.2.2) (cwV 1 X.2.2.2.1 gX8_mixFor_X8_markMix rfl rfl rfl (by decide +kernel) ⟨Nat.le_of_ble_eq_true rfl, Nat.le_of_ble_eq_true rfl⟩) (pre_V X hw _ t_53 rfl (by decide) rfl) rfl rfl hl.1 rfl (lv_room (Nat.le_of_ble_eq_true rfl)) dX8_mixFor_106 ⟨Nat.le_of_ble_eq_true rfl, Nat.le_of_ble_eq_true rfl⟩) 0 0 (Nat.le_of_ble_eq_true rfl) (Nat.le_of_ble_eq_true rfl) (fun S_57 H locs hp hw hfr hnw => ?_)
        obtain ⟨hk_58, hp⟩ := hp
        have hO_59 : Ok eMI S S_57 := hO_35.call hk_58 (by decide +kernel)
        have mkc_60 := hp
        refine lv_iload X.1 X.2.1 dX8_mixFor_109 (lv_at hl 0 rfl) ?_
        have fx_64 : Fr eMX S S_33 := iv_18.trans (hk_34.fr.mono (by decide +kernel))
        have eB_61 : mB S_33 x 808 = mB S x 808 := mB_frc fx_64 ha_x (ex3 (gQ_8_808 hG ha_x)) (by decide +kernel) (by decide +kernel)
        have e8_62 : pI S_33 800 x = pI S 800 x := fx_64.I' (by decide +kernel) ha_x rfl
        rw [hQQ]
        exact ret_i X hw hr hlocks (Nat.le_of_ble_eq_true rfl) (Nat.le_of_ble_eq_true rfl) ⟨hO_59, ⟨z_lo _, z_hi _, fun hn => (by rw [ho_51] at hn; cases hn), fun y h => (by rw [ho_51] at h; cases h; exact ⟨by rw [lp_41 hy_52.1]; exact hy_52.2.1, MkI_to eB_61 e8_62 (fun j q hm => fx_64.I' (by decide +kernel) (sk_at hG ha_x hm) rfl) mkc_60⟩)⟩⟩ dX8_mixFor_111
    · have z_b_65 := trivial
      have k_66 : i5_15_z < v_1.toInt := z_nle rfl hz_i5_15 c_28
      refine lv_aload_n X.1 X.2.1 dX8_mixFor_20 rfl (lv_at hl 1 rfl) ?_
      refine lv_iload X.1 X.2.1 dX8_mixFor_21 (lv_at hl 0 rfl) ?_
      refine k_q (rm := { frames := 1, cells := 0, slots := 0, locals := 48 }) (av := [.ref x, .int (i5_15)]) X hw (va_runV (As := [.int (i5_15)]) (rest := []) (cfix X) (k_X8_skeinAt7 l G cy κ T_16 _ x (i5_15) (i5_15_z) hO_T_16.1 ha_x_L_17 hz_i5_15) (cwV 1 X.2.2.2.1 gX8_mixFor_X8_skeinAt rfl rfl rfl (by decide +kernel) ⟨Nat.le_of_ble_eq_true rfl, Nat.le_of_ble_eq_true rfl⟩) (pre_V X hw _ ha_x_L_17 rfl (by decide) rfl) rfl rfl hl.1 rfl (lv_room (Nat.le_of_ble_eq_true rfl)) dX8_mixFor_23 ⟨Nat.le_of_ble_eq_true rfl, Nat.le_of_ble_eq_true rfl⟩) 0 0 (Nat.le_of_ble_eq_true rfl) (Nat.le_of_ble_eq_true rfl) (fun rr_67 S_68 H locs hp hw hfr hnw => ?_)
      obtain ⟨e2, hp⟩ := hp
      subst e2
      obtain ⟨hq_69, hnf_70⟩ := hp
      rcases rr_67 with _ | q_71
      · refine W.eq (g2 := F0 m 26 ls (.null :: [])) rfl ?_
        have nf_72 := hnf_70 rfl
        refine lv_astoreN (lv' := [(6, .null), (5, .int (i5_15)), (0, .ref x), (1, .int (a1)), (2, .int (a2)), (3, .int (a3)), (4, .int (a4))]) X.1 X.2.1 dX8_mixFor_26 hl (by decide) rfl (fun ls hl => ?_)
        have pz_73 : (pI T_16 800 x).toInt = v_1.toInt := (congrArg Int32.toInt ik_23).trans rfl
        exact absurd ⟨by omega, by omega⟩ (nf_72 (SN_to ha_x hG iv_18 (by decide +kernel) (SN_of hp_0)))
      · refine W.eq (g2 := F0 m 26 ls (.ref q_71 :: [])) rfl ?_
        obtain ⟨ha_74, f_75, f_76, f_77⟩ := hq_69 _ rfl
        have fx_78 : Fr eMX S T_16 := iv_18
        have eB_106 : mB T_16 x 808 = mB S x 808 := mB_frc fx_78 ha_x (ex3 (gQ_8_808 hG ha_x)) (by decide +kernel) (by decide +kernel)
        have mb_107 : mB S x 808 (i5_15_z).toNat = some q_71 := by rw [← eB_106]; exact f_77
        obtain ⟨s_79, hs_80⟩ : ∃ s, Ls[(i5_15_z).toNat]? = some s := ⟨_, List.getElem?_eq_getElem (by omega)⟩
        obtain ⟨q_81, j_82, g_83, fo_84, j_85, j_86, ⟨⟨d_87, d_88, d_89, d_90⟩, d_91, d_92⟩, ⟨k_93, k_94, k_95, fo_96, eo_97, k_98, k_99, k_100⟩, j_101, j_102, j_103, dd_104⟩ := hp_0.2 _ _ hs_80
        have eq_105 : q_81 = q_71 := Option.some.inj (j_82.symm.trans mb_107)
        rw [eq_105] at j_85 d_87 d_88 d_89 d_90 d_91 d_92 j_101 j_102 j_103
        have ef_108 : fo_96 = fo_84 := Option.some.inj (k_98.symm.trans j_86)
        rw [ef_108] at k_100
        have lo_109 : pI S 704 q_71 = loG S s_79.2.2.2 := j_101.trans (loN_eq _ (mtD_of (fun k m hk => (k_100 k m hk).1)))
        have hi_110 : pI S 705 q_71 = hiG S s_79.2.2.2 := j_102.trans (hiN_eq _ (mtD_of (fun k m hk => (k_100 k m hk).1)))
        have a7_111 := sk_at hG ha_x mb_107
        have ag_112 := sk_str hG a7_111 j_85
        have fe_113 := (fx_78.I' (g := 708) (by decide +kernel) a7_111 rfl).trans d_89
        have fe_114 := (fx_78.I' (g := 704) (by decide +kernel) a7_111 rfl).trans lo_109
        have fe_115 := (fx_78.I' (g := 705) (by decide +kernel) a7_111 rfl).trans hi_110
        have fe_116 := (fx_78.I' (g := 707) (by decide +kernel) a7_111 rfl).trans d_88
        have fe_117 := (fx_78.I' (g := 903) (by decide +kernel) ag_112 rfl).trans k_94
        have fr3_118 : pR T_16 703 q_71 = some g_83 := fx_78.R' (by decide +kernel) a7_111 j_85
        have p7_119 : mA T_16 x 807 = mA S x 807 := mA_frc fx_78 ha_x (ex3 (gQ_8_807 hG ha_x)) (by decide +kernel) (by decide +kernel)
        refine lv_astore (lv' := [(6, .ref q_71), (5, .int (i5_15)), (0, .ref x), (1, .int (a1)), (2, .int (a2)), (3, .int (a3)), (4, .int (a4))]) X.1 X.2.1 dX8_mixFor_26 hl (by decide) rfl (fun ls hl => ?_)
        refine lv_aload X.1 X.2.1 dX8_mixFor_28 (lv_at hl 0 rfl) ?_
        refine lv_ifnull X.1 X.2.1 dX8_mixFor_30 ?_
        refine lv_aload X.1 X.2.1 dX8_mixFor_33 (lv_at hl 0 rfl) ?_
        obtain ⟨v_120, ev_120⟩ : ∃ v, pI T_16 708 q_71 = v := ⟨_, rfl⟩
        have rg_121 := gI_7_708 hO_T_16.1 ha_74; rw [ev_120] at rg_121
        have pz_122 : (pI T_16 708 q_71).toInt = v_120.toInt := by rw [ev_120]
        refine r_getI (g := 708) (x := v_120) X hw ha_74 rfl 8 ev_120 (by decide) rfl inn_X8_mixFor_7 (by decide) (X.2.2.2.1 (.fieldLink RX8 80 "SilkMill$Skein" "sold" "Z") (by decide +kernel)) rfl (gv_708 _ _) dX8_mixFor_35 ?_
        refine lv_if_ne (tgt := 82) X.1 X.2.1 dX8_mixFor_38 (by decide) (fun c_123 => ?_) (fun c_123 => ?_)
        · have z_b_124 := trivial
          have k_125 : v_120.toInt ≠ 0 := z_ne rfl ti_0 c_123
          obtain ⟨x_126, ex_126⟩ : ∃ y : Int32, y = i5_15 + 1 := ⟨_, rfl⟩
          have z_127 : x_126.toInt = i5_15_z + 1 := z_add ex_126 hz_i5_15 ti_1 (by omega) (by omega)
          refine lv_iinc (v := x_126) (lv' := [(5, .int (x_126)), (6, .ref q_71), (0, .ref x), (1, .int (a1)), (2, .int (a2)), (3, .int (a3)), (4, .int (a4))]) X.1 X.2.1 dX8_mixFor_82 hl (k := 1) rfl (by rw [ex_126]; rfl) (by decide) rfl (fun ls hl => ?_)
          refine lv_goto (tgt := 11) X.1 X.2.1 dX8_mixFor_85 (by decide) ?_
          exact ih _ (by omega) _ _ _ _ (x_126) (x_126.toInt) rfl hw rfl (by omega) ha_x_L_17 hO_T_16 iv_18 (by rw [show (x_126.toInt).toNat = (i5_15_z).toNat + 1 by omega, ofN_n hs_80 (fun h => by have k1 := h.1.1; have k2 := h.1.2.1; have k3 := h.1.2.2; rw [← fe_113] at k1; rw [← fe_114] at k2; rw [← fe_115] at k3; have e0 : (0 : Int32).toInt = 0 := (by decide); have e1 := congrArg Int32.toInt k1; omega)]; exact iv_19) iv_20 (by omega) ik_23 ik_25 ik_26 (lv_sub hl [0, 2, 3, 4, 5, 6] rfl)
        · have z_b_128 := trivial
          have k_129 : v_120.toInt = 0 := z_eq rfl ti_0 c_123
          refine lv_aload X.1 X.2.1 dX8_mixFor_41 (lv_at hl 0 rfl) ?_
          obtain ⟨v_130, ev_130⟩ : ∃ v, pI T_16 704 q_71 = v := ⟨_, rfl⟩
          have rg_132 := And.intro (z_lo v_130) (z_hi v_130)
          have pz_133 : (pI T_16 704 q_71).toInt = v_130.toInt := by rw [ev_130]
          refine r_getI (g := 704) (x := v_130) X hw ha_74 rfl 4 ev_130 (by decide) rfl inn_X8_mixFor_7 (by decide) (X.2.2.2.1 (.fieldLink RX8 84 "SilkMill$Skein" "least" "I") (by decide +kernel)) rfl (gv_704 _ _) dX8_mixFor_43 ?_
          refine lv_iload_n X.1 X.2.1 dX8_mixFor_46 rfl (lv_at hl 4 rfl) ?_
          refine lv_icmp_lt (tgt := 82) X.1 X.2.1 dX8_mixFor_47 (by decide) (fun c_134 => ?_) (fun c_134 => ?_)
          · have z_b_135 := trivial
            have k_136 : v_130.toInt < a2_z := z_lt rfl hz_a2 c_134
            obtain ⟨x_137, ex_137⟩ : ∃ y : Int32, y = i5_15 + 1 := ⟨_, rfl⟩
            have z_138 : x_137.toInt = i5_15_z + 1 := z_add ex_137 hz_i5_15 ti_1 (by omega) (by omega)
            refine lv_iinc (v := x_137) (lv' := [(5, .int (x_137)), (6, .ref q_71), (0, .ref x), (1, .int (a1)), (2, .int (a2)), (3, .int (a3)), (4, .int (a4))]) X.1 X.2.1 dX8_mixFor_82 hl (k := 1) rfl (by rw [ex_137]; rfl) (by decide) rfl (fun ls hl => ?_)
            refine lv_goto (tgt := 11) X.1 X.2.1 dX8_mixFor_85 (by decide) ?_
            exact ih _ (by omega) _ _ _ _ (x_137) (x_137.toInt) rfl hw rfl (by omega) ha_x_L_17 hO_T_16 iv_18 (by rw [show (x_137.toInt).toNat = (i5_15_z).toNat + 1 by omega, ofN_n hs_80 (fun h => by have k1 := h.1.1; have k2 := h.1.2.1; have k3 := h.1.2.2; rw [← fe_113] at k1; rw [← fe_114] at k2; rw [← fe_115] at k3; have e0 : (0 : Int32).toInt = 0 := (by decide); have e1 := congrArg Int32.toInt k1; omega)]; exact iv_19) iv_20 (by omega) ik_23 ik_25 ik_26 (lv_sub hl [0, 2, 3, 4, 5, 6] rfl)
          · have z_b_139 := trivial
            have k_140 : v_130.toInt ≥ a2_z := z_nlt rfl hz_a2 c_134
            refine lv_aload X.1 X.2.1 dX8_mixFor_50 (lv_at hl 0 rfl) ?_
            obtain ⟨v_141, ev_141⟩ : ∃ v, pI T_16 705 q_71 = v := ⟨_, rfl⟩
            have rg_143 := And.intro (z_lo v_141) (z_hi v_141)
            have pz_144 : (pI T_16 705 q_71).toInt = v_141.toInt := by rw [ev_141]
            refine r_getI (g := 705) (x := v_141) X hw ha_74 rfl 5 ev_141 (by decide) rfl inn_X8_mixFor_7 (by decide) (X.2.2.2.1 (.fieldLink RX8 87 "SilkMill$Skein" "greatest" "I") (by decide +kernel)) rfl (gv_705 _ _) dX8_mixFor_52 ?_
            refine lv_iload_n X.1 X.2.1 dX8_mixFor_55 rfl (lv_at hl 5 rfl) ?_
            refine lv_icmp_gt (tgt := 82) X.1 X.2.1 dX8_mixFor_56 (by decide) (fun c_145 => ?_) (fun c_145 => ?_)
            · have z_b_146 := trivial
              have k_147 : v_141.toInt > a3_z := z_lt hz_a3 rfl c_145
              obtain ⟨x_148, ex_148⟩ : ∃ y : Int32, y = i5_15 + 1 := ⟨_, rfl⟩
              have z_149 : x_148.toInt = i5_15_z + 1 := z_add ex_148 hz_i5_15 ti_1 (by omega) (by omega)
              refine lv_iinc (v := x_148) (lv' := [(5, .int (x_148)), (6, .ref q_71), (0, .ref x), (1, .int (a1)), (2, .int (a2)), (3, .int (a3)), (4, .int (a4))]) X.1 X.2.1 dX8_mixFor_82 hl (k := 1) rfl (by rw [ex_148]; rfl) (by decide) rfl (fun ls hl => ?_)
              refine lv_goto (tgt := 11) X.1 X.2.1 dX8_mixFor_85 (by decide) ?_
              exact ih _ (by omega) _ _ _ _ (x_148) (x_148.toInt) rfl hw rfl (by omega) ha_x_L_17 hO_T_16 iv_18 (by rw [show (x_148.toInt).toNat = (i5_15_z).toNat + 1 by omega, ofN_n hs_80 (fun h => by have k1 := h.1.1; have k2 := h.1.2.1; have k3 := h.1.2.2; rw [← fe_113] at k1; rw [← fe_114] at k2; rw [← fe_115] at k3; have e0 : (0 : Int32).toInt = 0 := (by decide); have e1 := congrArg Int32.toInt k1; omega)]; exact iv_19) iv_20 (by omega) ik_23 ik_25 ik_26 (lv_sub hl [0, 2, 3, 4, 5, 6] rfl)
            · have z_b_150 := trivial
              have k_151 : v_141.toInt ≤ a3_z := z_nlt hz_a3 rfl c_145
              refine lv_aload_n X.1 X.2.1 dX8_mixFor_59 rfl (lv_at hl 2 rfl) ?_
              refine r_getR (g := 812) X hw ha_x_L_17 rfl 12 ik_25 (by decide) rfl inn_X8_mixFor_8 (by decide) (X.2.2.2.1 (.fieldLink RX8 33 "SilkMill$Store" "mixer" "LSilkMill$Mixer;") (by decide +kernel)) rfl (gv_812 _ _) dX8_mixFor_60 ?_
              refine lv_iload X.1 X.2.1 dX8_mixFor_63 (lv_at hl 1 rfl) ?_
              refine lv_aload X.1 X.2.1 dX8_mixFor_65 (lv_at hl 0 rfl) ?_
              refine r_getR (g := 703) X hw ha_74 rfl 3 fr3_118 (by decide) rfl inn_X8_mixFor_7 (by decide) (X.2.2.2.1 (.fieldLink RX8 68 "SilkMill$Skein" "strand" "LSilkMill$Strand;") (by decide +kernel)) rfl (gv_703 _ _) dX8_mixFor_67 ?_
              obtain ⟨v_152, ev_152⟩ : ∃ v, pI T_16 903 g_83 = v := ⟨_, rfl⟩
              have rg_154 := And.intro (z_lo v_152) (z_hi v_152)
              have pz_155 : (pI T_16 903 g_83).toInt = v_152.toInt := by rw [ev_152]
              refine r_getI (g := 903) (x := v_152) X hw (fx_78.at ag_112) rfl 3 ev_152 (by decide) rfl inn_X8_mixFor_9 (by decide) (X.2.2.2.1 (.fieldLink RX8 44 "SilkMill$Strand" "silk" "I") (by decide +kernel)) rfl (gv_903 _ _) dX8_mixFor_70 ?_
              refine lv_aload_n X.1 X.2.1 dX8_mixFor_73 rfl (lv_at hl 2 rfl) ?_
              refine lv_aload X.1 X.2.1 dX8_mixFor_74 (lv_at hl 0 rfl) ?_
              refine k_i (rm := { frames := 2, cells := 0, slots := 0, locals := 96 }) (av := [.ref x, .ref q_71]) X hw (va_runV (As := [.ref q_71]) (rest := [.int (v_152), .int (i5_15), .ref M]) (cfix X) (k_X8_priceOf8 l G cy κ T_16 _ x q_71 g_83 hO_T_16.1 ha_x_L_17 ha_74 fr3_118) (cwV 1 X.2.2.2.1 gX8_mixFor_X8_priceOf rfl rfl rfl (by decide +kernel) ⟨Nat.le_of_ble_eq_true rfl, Nat.le_of_ble_eq_true rfl⟩) (pre_V X hw _ ha_x_L_17 rfl (by decide) rfl) rfl rfl hl.1 rfl (lv_room (Nat.le_of_ble_eq_true rfl)) dX8_mixFor_76 ⟨Nat.le_of_ble_eq_true rfl, Nat.le_of_ble_eq_true rfl⟩) 0 0 (Nat.le_of_ble_eq_true rfl) (Nat.le_of_ble_eq_true rfl) (fun rr_156 S_157 H locs hp hw hfr hnw => ?_)
              obtain ⟨e2, hp⟩ := hp
              subst e2
              obtain ⟨po_158, po_159, po_160⟩ := hp
              refine k_v (rm := { frames := 1, cells := 0, slots := 0, locals := 48 }) (av := [.ref M, .int (i5_15), .int (v_152), .int (rr_156)]) X hw (va_runV (As := [.int (i5_15), .int (v_152), .int (rr_156)]) (rest := []) (cfix X) (k_X2_offer8 l G cy κ T_16 _ M (i5_15) (i5_15_z) (v_152) (v_152.toInt) (rr_156) (rr_156.toInt) hO_T_16.1 ik_26 hz_i5_15 rfl rfl) (cwV 3 X.2.2.2.1 gX8_mixFor_X2_offer rfl rfl rfl (by decide +kernel) ⟨Nat.le_of_ble_eq_true rfl, Nat.le_of_ble_eq_true rfl⟩) (pre_V X hw _ ik_26 rfl (by decide) rfl) rfl rfl hl.1 rfl (lv_room (Nat.le_of_ble_eq_true rfl)) dX8_mixFor_79 ⟨Nat.le_of_ble_eq_true rfl, Nat.le_of_ble_eq_true rfl⟩) 0 0 (Nat.le_of_ble_eq_true rfl) (Nat.le_of_ble_eq_true rfl) (fun S_162 H locs hp hw hfr hnw => ?_)
              obtain ⟨hk_163, hp⟩ := hp
              have hO_164 : Ok eMI S S_162 := hO_T_16.call hk_163 (by decide +kernel)
              obtain ⟨ofc_165, ofc_166⟩ := hp
              obtain ⟨x_167, ex_167⟩ : ∃ y : Int32, y = i5_15 + 1 := ⟨_, rfl⟩
              have z_168 : x_167.toInt = i5_15_z + 1 := z_add ex_167 hz_i5_15 ti_1 (by omega) (by omega)
              refine lv_iinc (v := x_167) (lv' := [(5, .int (x_167)), (6, .ref q_71), (0, .ref x), (1, .int (a1)), (2, .int (a2)), (3, .int (a3)), (4, .int (a4))]) X.1 X.2.1 dX8_mixFor_82 hl (k := 1) rfl (by rw [ex_167]; rfl) (by decide) rfl (fun ls hl => ?_)
              refine lv_goto (tgt := 11) X.1 X.2.1 dX8_mixFor_85 (by decide) ?_
              have t_169 : At S_162 x 8 := hk_163.fr.at ha_x_L_17
              have ok_172 : okM (loG S) (hiG S) a2_z a3_z s_79 := ⟨by rw [← fe_113]; exact z_eq0 (by omega), by rw [← fe_114]; omega, by rw [← fe_115]; omega⟩
              have ow_170 : v_152 = siS S s_79.2.2.2 := (ev_152).symm.trans fe_117
              have ow_171 : rr_156 = pcI (siS S s_79.2.2.2) (mA S x 807 (gI s_79.1.2.1)) := by have h := po_160; rw [fe_117, p7_119, fe_116] at h; exact h
              have hl_174 := iv_19.1
              have zn_175 : MxV S_162 M (ofN (siS S) (mA S x 807) (loG S) (hiG S) a2_z a3_z Ls ((i5_15_z).toNat + 1)) := by
                by_cases c_173 : (pI T_16 203 M).toInt < 14
                · rw [ofN_y hs_80 ok_172 (by omega), ← ow_171, ← ow_170]; exact MxV_add (hz_i5_15.trans (by omega)) iv_19 (ofc_165 c_173)
                · rw [ofN_n hs_80 (fun h => by omega), ofc_166 c_173]; exact iv_19
              have i2_176 : pI S_162 205 M = a1 ∧ pI S_162 206 M = 2147483647 ∧ pI S_162 207 M = 0 := by
                by_cases c_177 : (pI T_16 203 M).toInt < 14
                · obtain ⟨⟨-, -, e5, e6, e7⟩, -⟩ := ofc_165 c_177
                  rw [e5, e6, e7]; exact iv_20
                · rw [ofc_166 c_177]; exact iv_20
              have t_178 : pI S_162 800 x = v_1 := hk_163.fr.I' (by decide +kernel) ha_x_L_17 ik_23
              have t_179 : pR S_162 812 x = some M := hk_163.fr.R' (by decide +kernel) ha_x_L_17 ik_25
              have t_180 : At S_162 M 2 := hk_163.fr.at ik_26
              exact ih _ (by omega) _ _ _ _ (x_167) (x_167.toInt) rfl hw rfl (by omega) t_169 hO_164 (iv_18.trans hk_163.fr) (by rw [show (x_167.toInt).toNat = (i5_15_z).toNat + 1 by omega]; exact zn_175) i2_176 (by omega) t_178 t_179 t_180 (lv_sub hl [0, 2, 3, 4, 5, 6] rfl)
  have t_181 : At S_6 x 8 := hk_7.fr.at ha_x
  have t_182 : At S_6 M 2 := hk_7.fr.at haM
  exact L_14 _ _ _ _ _ (0) (0) rfl hw ti_0 (by omega) t_181 hO_8 hk_7.fr (⟨by rw [bf_9]; rfl, bf_10, fun i t hi => by cases hi⟩ : MxV S_6 M []) ⟨bf_11, bf_12, bf_13⟩ (by omega) t_22 t_24 t_182 (lv_sub hl [0, 1, 2, 3, 4, 5] rfl)
set_option maxHeartbeats 4000000 in
set_option maxRecDepth 100000 in
theorem k_X11_mix8 (l : Launch) (G : va_G) (cy : Nat → ClassId) (κ : Nat → Nat) (S : PS) (sz : Nat) (x : Nat) (a1 : Int32) (a1_z : Int) (a2 : Int32) (a2_z : Int) (a3 : Int32) (a3_z : Int) (a4 : Int32) (a4_z : Int) (D : Nat → Prop) (K : Nat) (Ls : List Sk) (hG : GX S) (ha_x : At S x 11) (hz_a1 : a1.toInt = a1_z) (hz_a2 : a2.toInt = a2_z) (hz_a3 : a3.toInt = a3_z) (hz_a4 : a4.toInt = a4_z) (hp_0 : pR S 1107 x = some K) (hp_1 : SkV S D K Ls) (hp_2 : WdB Ls) : Ci l yX11_mix wsX11_mix ({ frames := 18, cells := 0, slots := 0, locals := 864 }) G cy κ S sz [.ref x, .int (a1), .int (a2), .int (a3), .int (a4)] (fun (r : Int32) (S9 : PS) => Ok eMI S S9 ∧ (-2147483648 ≤ r.toInt ∧ r.toInt ≤ 2147483647 ∧ (a1_z < 1 → r.toInt = -1 ∧ S9 = S) ∧ (1 ≤ a1_z → MxC S S9 K (ofN (siS S) (mA S K 807) (loG S) (hiG S) a2_z a3_z Ls Ls.length) a1_z a4_z r))) := by
  refine ent_m (cc := cX11_mix) (maxL := 5) (ret := (some .int)) (by decide) rfl (Nat.le_of_ble_eq_true rfl) ?_
  intro p e s m below meth c ls X hr hlocks hin hw hl hsz
  subst hsz
  have X : Cx p c cX11_mix 5 s [.ref x, .int (a1), .int (a2), .int (a3), .int (a4)].toArray wsX11_mix RX11 m G cy κ (AS S s.heap.size) := X
  have hl : lv_has ls 5 [(0, .ref x), (1, .int (a1)), (2, .int (a2)), (3, .int (a3)), (4, .int (a4))] := hl
  have rg_a1 : (-2147483648) ≤ a1_z ∧ a1_z ≤ 2147483647 := by rw [← hz_a1]; exact ⟨z_lo _, z_hi _⟩
  have rg_a2 : (-2147483648) ≤ a2_z ∧ a2_z ≤ 2147483647 := by rw [← hz_a2]; exact ⟨z_lo _, z_hi _⟩
  have rg_a3 : (-2147483648) ≤ a3_z ∧ a3_z ≤ 2147483647 := by rw [← hz_a3]; exact ⟨z_lo _, z_hi _⟩
  have rg_a4 : (-2147483648) ≤ a4_z ∧ a4_z ≤ 2147483647 := by rw [← hz_a4]; exact ⟨z_lo _, z_hi _⟩
  have hO : Ok eMI S S := Ok.rf hG
  have haK := st_at hG ha_x hp_0
  refine lv_iload_n X.1 X.2.1 dX11_mix_0 rfl (lv_at hl 1 rfl) ?_
  refine lv_iconst (v := 1) X.1 X.2.1 dX11_mix_1 (by decide) ?_
  refine lv_icmp_ge (tgt := 9) X.1 X.2.1 dX11_mix_2 (by decide) (fun c_1 => ?_) (fun c_1 => ?_)
  · have z_b_2 := trivial
    have k_3 : a1_z ≥ 1 := z_le ti_1 hz_a1 c_1
    refine lv_aload_n X.1 X.2.1 dX11_mix_9 rfl (lv_at hl 0 rfl) ?_
    refine r_getR (g := 1107) X hw ha_x rfl 7 hp_0 (by decide) rfl inn_X11_mix_11 (by decide) (X.2.2.2.1 (.fieldLink RX11 42 "SilkMill" "store" "LSilkMill$Store;") (by decide +kernel)) rfl (gv_1107 _ _) dX11_mix_10 ?_
    refine lv_iload_n X.1 X.2.1 dX11_mix_13 rfl (lv_at hl 1 rfl) ?_
    refine lv_iload_n X.1 X.2.1 dX11_mix_14 rfl (lv_at hl 2 rfl) ?_
    refine lv_iload_n X.1 X.2.1 dX11_mix_15 rfl (lv_at hl 3 rfl) ?_
    refine lv_iload X.1 X.2.1 dX11_mix_16 (lv_at hl 4 rfl) ?_
    obtain ⟨q_4, h_5, h_6⟩ := gQ_8_812 hO.1 haK
    refine k_i (rm := { frames := 17, cells := 0, slots := 0, locals := 816 }) (av := [.ref K, .int (a1), .int (a2), .int (a3), .int (a4)]) X hw (va_runV (As := [.int (a1), .int (a2), .int (a3), .int (a4)]) (rest := []) (cfix X) (k_X8_mixFor8 l G cy κ S _ K (a1) (a1_z) (a2) (a2_z) (a3) (a3_z) (a4) (a4_z) D Ls q_4 hO.1 haK hz_a1 hz_a2 hz_a3 hz_a4 hp_1 h_5 hp_2 (by omega)) (cwV 4 X.2.2.2.1 gX11_mix_X8_mixFor rfl rfl rfl (by decide +kernel) ⟨Nat.le_of_ble_eq_true rfl, Nat.le_of_ble_eq_true rfl⟩) (pre_V X hw _ haK rfl (by decide) rfl) rfl rfl hl.1 rfl (lv_room (Nat.le_of_ble_eq_true rfl)) dX11_mix_18 ⟨Nat.le_of_ble_eq_true rfl, Nat.le_of_ble_eq_true rfl⟩) 0 0 (Nat.le_of_ble_eq_true rfl) (Nat.le_of_ble_eq_true rfl) (fun rr_8 S_9 H locs hp hw hfr hnw => ?_)
    obtain ⟨hk_10, hp⟩ := hp
    have hO_11 : Ok eMI S S_9 := hO.call hk_10 (by decide +kernel)
    obtain ⟨mfc_12, mfc_13, mfc_14⟩ := hp
    exact ret_i X hw hr hlocks (Nat.le_of_ble_eq_true rfl) (Nat.le_of_ble_eq_true rfl) ⟨hO_11, ⟨z_lo _, z_hi _, fun h => by omega, fun _ => mfc_14⟩⟩ dX11_mix_21
  · have z_b_15 := trivial
    have k_16 : a1_z < 1 := z_nle ti_1 hz_a1 c_1
    refine lv_iconst (v := (-1)) X.1 X.2.1 dX11_mix_5 (by decide) ?_
    refine lv_goto (tgt := 21) X.1 X.2.1 dX11_mix_6 (by decide) ?_
    exact ret_i X hw hr hlocks (Nat.le_of_ble_eq_true rfl) (Nat.le_of_ble_eq_true rfl) ⟨hO, ⟨z_lo _, z_hi _, fun _ => ⟨by decide, rfl⟩, fun h => by omega⟩⟩ dX11_mix_21
set_option maxHeartbeats 4000000 in
set_option maxRecDepth 100000 in
theorem k_X11_mixed8 (l : Launch) (G : va_G) (cy : Nat → ClassId) (κ : Nat → Nat) (S : PS) (sz : Nat) (x : Nat) (a1 : Int32) (a1_z : Int) (D : Nat → Prop) (K : Nat) (Ls : List Sk) (hG : GX S) (ha_x : At S x 11) (hz_a1 : a1.toInt = a1_z) (hp_0 : pR S 1107 x = some K) (hp_1 : SkV S D K Ls) : Ci l yX11_mixed wsX11_mixed ({ frames := 2, cells := 0, slots := 0, locals := 96 }) G cy κ S sz [.ref x, .int (a1)] (fun (r : Int32) (S9 : PS) => S = S9 ∧ (((MxI Ls a1_z) ∧ r = 1) ∨ ((¬ MxI Ls a1_z) ∧ r = 0))) := by
  refine ent_m (cc := cX11_mixed) (maxL := 3) (ret := (some .boolean)) (by decide) rfl (Nat.le_of_ble_eq_true rfl) ?_
  intro p e s m below meth c ls X hr hlocks hin hw hl hsz
  subst hsz
  have X : Cx p c cX11_mixed 3 s [.ref x, .int (a1)].toArray wsX11_mixed RX11 m G cy κ (AS S s.heap.size) := X
  have hl : lv_has ls 3 [(0, .ref x), (1, .int (a1))] := hl
  have rg_a1 : (-2147483648) ≤ a1_z ∧ a1_z ≤ 2147483647 := by rw [← hz_a1]; exact ⟨z_lo _, z_hi _⟩
  have haK := st_at hG ha_x hp_0
  obtain ⟨v_1, ev_1⟩ : ∃ v, pI S 800 K = v := ⟨_, rfl⟩
  have rg_2 := gI_8_800 hG haK; rw [ev_1] at rg_2
  have pz_3 : (pI S 800 K).toInt = v_1.toInt := by rw [ev_1]
  have pz_4 : (pI S 800 K).toInt = v_1.toInt := (congrArg Int32.toInt ev_1).trans rfl
  have hkl := hp_1.1
  refine lv_aload_n X.1 X.2.1 dX11_mixed_0 rfl (lv_at hl 0 rfl) ?_
  refine r_getR (g := 1107) X hw ha_x rfl 7 hp_0 (by decide) rfl inn_X11_mixed_11 (by decide) (X.2.2.2.1 (.fieldLink RX11 42 "SilkMill" "store" "LSilkMill$Store;") (by decide +kernel)) rfl (gv_1107 _ _) dX11_mixed_1 ?_
  refine lv_iload_n X.1 X.2.1 dX11_mixed_4 rfl (lv_at hl 1 rfl) ?_
  refine k_q (rm := { frames := 1, cells := 0, slots := 0, locals := 48 }) (av := [.ref K, .int (a1)]) X hw (va_runV (As := [.int (a1)]) (rest := []) (cfix X) (k_X8_skeinAt7 l G cy κ S _ K (a1) (a1_z) hG haK hz_a1) (cwV 1 X.2.2.2.1 gX11_mixed_X8_skeinAt rfl rfl rfl (by decide +kernel) ⟨Nat.le_of_ble_eq_true rfl, Nat.le_of_ble_eq_true rfl⟩) (pre_V X hw _ haK rfl (by decide) rfl) rfl rfl hl.1 rfl (lv_room (Nat.le_of_ble_eq_true rfl)) dX11_mixed_5 ⟨Nat.le_of_ble_eq_true rfl, Nat.le_of_ble_eq_true rfl⟩) 0 0 (Nat.le_of_ble_eq_true rfl) (Nat.le_of_ble_eq_true rfl) (fun rr_5 S_6 H locs hp hw hfr hnw => ?_)
  obtain ⟨e2, hp⟩ := hp
  subst e2
  obtain ⟨hq_7, hnf_8⟩ := hp
  rcases rr_5 with _ | q_9
  · refine W.eq (g2 := F0 m 8 ls (.null :: [])) rfl ?_
    have nf_10 := hnf_8 rfl
    refine lv_astore_nN (lv' := [(2, .null), (0, .ref x), (1, .int (a1))]) X.1 X.2.1 dX11_mixed_8 rfl hl (by decide) rfl (fun ls hl => ?_)
    refine lv_aload_nN X.1 X.2.1 dX11_mixed_9 rfl (lv_at hl 0 rfl) ?_
    refine lv_ifnullN (tgt := 24) X.1 X.2.1 dX11_mixed_10 (by decide) ?_
    refine lv_iconst (v := 0) X.1 X.2.1 dX11_mixed_24 (by decide) ?_
    exact ret_z X hw hr hlocks (Nat.le_of_ble_eq_true rfl) (Nat.le_of_ble_eq_true rfl) (by decide) ⟨rfl, Or.inr ⟨fun ⟨s, h0, h1, _⟩ => nf_10 (SN_of hp_1) ⟨h0, by have := (List.getElem?_eq_some_iff.mp h1).1; omega⟩, rfl⟩⟩ dX11_mixed_25
  · refine W.eq (g2 := F0 m 8 ls (.ref q_9 :: [])) rfl ?_
    obtain ⟨ha_11, f_12, f_13, f_14⟩ := hq_7 _ rfl
    obtain ⟨s_15, hs_16⟩ : ∃ s, Ls[a1_z.toNat]? = some s := ⟨_, List.getElem?_eq_getElem (by omega)⟩
    obtain ⟨q_17, j_18, -, -, -, -, ⟨⟨-, -, -, d_21⟩, -⟩, -⟩ := hp_1.2 _ _ hs_16
    have eq_20 : q_17 = q_9 := Option.some.inj (j_18.symm.trans f_14)
    rw [eq_20] at d_21
    refine lv_astore_n (lv' := [(2, .ref q_9), (0, .ref x), (1, .int (a1))]) X.1 X.2.1 dX11_mixed_8 rfl hl (by decide) rfl (fun ls hl => ?_)
    refine lv_aload_n X.1 X.2.1 dX11_mixed_9 rfl (lv_at hl 0 rfl) ?_
    refine lv_ifnull X.1 X.2.1 dX11_mixed_10 ?_
    refine lv_aload_n X.1 X.2.1 dX11_mixed_13 rfl (lv_at hl 0 rfl) ?_
    obtain ⟨v_22, ev_22⟩ : ∃ v, pI S 709 q_9 = v := ⟨_, rfl⟩
    have rg_24 := And.intro (z_lo v_22) (z_hi v_22)
    have pz_25 : (pI S 709 q_9).toInt = v_22.toInt := by rw [ev_22]
    refine r_getI (g := 709) (x := v_22) X hw ha_11 rfl 9 ev_22 (by decide) rfl inn_X11_mixed_7 (by decide) (X.2.2.2.1 (.fieldLink RX11 346 "SilkMill$Skein" "inLatestMix" "Z") (by decide +kernel)) rfl (gv_709 _ _) dX11_mixed_14 ?_
    refine lv_if_eq (tgt := 24) X.1 X.2.1 dX11_mixed_17 (by decide) (fun c_26 => ?_) (fun c_26 => ?_)
    · have z_b_27 := trivial
      have k_28 : v_22.toInt = 0 := z_eq rfl ti_0 c_26
      refine lv_iconst (v := 0) X.1 X.2.1 dX11_mixed_24 (by decide) ?_
      exact ret_z X hw hr hlocks (Nat.le_of_ble_eq_true rfl) (Nat.le_of_ble_eq_true rfl) (by decide) ⟨rfl, Or.inr ⟨fun ⟨s, h0, h1, h2⟩ => (by rw [hs_16] at h1; cases h1; rw [← d_21, ev_22] at h2; exact h2 (z_eq0 (by omega))), rfl⟩⟩ dX11_mixed_25
    · have z_b_29 := trivial
      have k_30 : v_22.toInt ≠ 0 := z_ne rfl ti_0 c_26
      refine lv_iconst (v := 1) X.1 X.2.1 dX11_mixed_20 (by decide) ?_
      refine lv_goto (tgt := 25) X.1 X.2.1 dX11_mixed_21 (by decide) ?_
      exact ret_z X hw hr hlocks (Nat.le_of_ble_eq_true rfl) (Nat.le_of_ble_eq_true rfl) (by decide) ⟨rfl, Or.inl ⟨⟨s_15, by omega, hs_16, by rw [← d_21, ev_22]; exact z_nz rfl (by omega)⟩, rfl⟩⟩ dX11_mixed_25
