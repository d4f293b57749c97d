/-! ===== pieces of a strand, as its metres tell them ===== -/
def inB (c : Nat) (m : Mt) : Bool := m.any (fun z => z.1 == c)
theorem inB_n {c : Nat} : inB c [] = false := rfl
theorem inB_a {c : Nat} {m : Mt} {z : Nat × Int32} : inB c (m ++ [z]) = (inB c m || z.1 == c) := by
  unfold inB
  rw [List.any_append, List.any_cons, List.any_nil, Bool.or_false]
theorem inB_i {c : Nat} {m : Mt} : inB c m = true ↔ ∃ z, z ∈ m ∧ z.1 = c := by
  unfold inB
  rw [List.any_eq_true]
  constructor
  · rintro ⟨z, h, e⟩
    exact ⟨z, h, by simpa using e⟩
  · rintro ⟨z, h, e⟩
    exact ⟨z, h, by simpa using e⟩
abbrev Pc : Type := Nat × Nat × Int32
/-- the pieces in the order in which they begin: cocoon, metre, place -/
def pcR (n : Nat) (pm : Mt) : List Mt → List Pc
  | [] => []
  | m :: r => (m.filter (fun z => !inB z.1 pm)).map (fun z => (z.1, n, z.2)) ++ pcR (n + 1) m r
def pcs (g : List Mt) : List Pc := pcR 0 [] g
def lastM (pm : Mt) : List Mt → Mt
  | [] => pm
  | m :: r => lastM m r
/-- how many metres from here on hold the cocoon -/
def runN (c : Nat) : List Mt → Nat
  | [] => 0
  | m :: r => if inB c m = true then runN c r + 1 else 0
def ruN (g : List Mt) (c m : Nat) : Nat := runN c (g.drop m)
theorem pcR_app : ∀ (g : List Mt) (n : Nat) (pm m : Mt), pcR n pm (g ++ [m]) = pcR n pm g ++ (m.filter (fun z => !inB z.1 (lastM pm g))).map (fun z => (z.1, n + g.length, z.2))
  | [], n, pm, m => by
    show (m.filter (fun z => !inB z.1 pm)).map (fun z => (z.1, n, z.2)) ++ [] = [] ++ _
    rw [List.append_nil, List.nil_append]
    rfl
  | a :: r, n, pm, m => by
    show (a.filter (fun z => !inB z.1 pm)).map (fun z => (z.1, n, z.2)) ++ pcR (n + 1) a (r ++ [m]) = _
    rw [pcR_app r (n + 1) a m, ← List.append_assoc]
    show _ ++ (m.filter (fun z => !inB z.1 (lastM a r))).map (fun z => (z.1, n + 1 + r.length, z.2)) = ((a.filter (fun z => !inB z.1 pm)).map (fun z => (z.1, n, z.2)) ++ pcR (n + 1) a r) ++ (m.filter (fun z => !inB z.1 (lastM a r))).map (fun z => (z.1, n + (r.length + 1), z.2))
    rw [show n + 1 + r.length = n + (r.length + 1) by omega]
theorem pcs_e {g : List Mt} : pcs (g ++ [[]]) = pcs g := by
  unfold pcs
  rw [pcR_app]
  exact List.append_nil _
theorem pcs_y {g : List Mt} {t : Mt} {z : Nat × Int32} (h : inB z.1 (lastM [] g) = true) : pcs (g ++ [t ++ [z]]) = pcs (g ++ [t]) := by
  unfold pcs
  rw [pcR_app, pcR_app, List.filter_append, List.map_append]
  have e : ([z] : Mt).filter (fun z => !inB z.1 (lastM [] g)) = [] := by
    rw [List.filter_cons_of_neg (by rw [h]; decide)]
    rfl
  rw [e, List.map_nil, List.append_nil]
theorem pcs_n {g : List Mt} {t : Mt} {z : Nat × Int32} (h : inB z.1 (lastM [] g) = false) : pcs (g ++ [t ++ [z]]) = pcs (g ++ [t]) ++ [(z.1, g.length, z.2)] := by
  unfold pcs
  rw [pcR_app, pcR_app, List.filter_append, List.map_append]
  have e : ([z] : Mt).filter (fun z => !inB z.1 (lastM [] g)) = [z] := by
    rw [List.filter_cons_of_pos (by rw [h]; decide)]
    rfl
  rw [e, ← List.append_assoc]
  show _ ++ [(z.1, 0 + g.length, z.2)] = _
  rw [Nat.zero_add]
theorem run_le {c : Nat} : ∀ L : List Mt, runN c L ≤ L.length
  | [] => Nat.le_refl _
  | m :: r => by
    have ih := run_le (c := c) r
    show (if inB c m = true then runN c r + 1 else 0) ≤ r.length + 1
    split <;> omega
theorem run_app {c : Nat} {m : Mt} : ∀ L : List Mt, runN c (L ++ [m]) = if runN c L = L.length ∧ inB c m = true then L.length + 1 else runN c L
  | [] => by
    show (if inB c m = true then 0 + 1 else 0) = if (0 : Nat) = 0 ∧ inB c m = true then 0 + 1 else 0
    by_cases h : inB c m = true
    · rw [if_pos h, if_pos ⟨rfl, h⟩]
    · rw [if_neg h, if_neg (fun z => h z.2)]
  | a :: r => by
    have ih := run_app (c := c) (m := m) r
    have hl := run_le (c := c) r
    show (if inB c a = true then runN c (r ++ [m]) + 1 else 0) = if (if inB c a = true then runN c r + 1 else 0) = r.length + 1 ∧ inB c m = true then r.length + 1 + 1 else (if inB c a = true then runN c r + 1 else 0)
    rw [ih]
    by_cases h : inB c a = true
    · rw [if_pos h, if_pos h]
      by_cases k : runN c r = r.length ∧ inB c m = true
      · rw [if_pos k, if_pos ⟨by omega, k.2⟩]
      · rw [if_neg k, if_neg (fun z => k ⟨by omega, z.2⟩)]
    · rw [if_neg h, if_neg h, if_neg (fun z => by omega)]
theorem ru_app {g : List Mt} {m : Mt} {c k : Nat} (hk : k ≤ g.length) : ruN (g ++ [m]) c k = if k + ruN g c k = g.length ∧ inB c m = true then ruN g c k + 1 else ruN g c k := by
  unfold ruN
  rw [List.drop_append_of_le_length hk, run_app, List.length_drop]
  have := run_le (c := c) (g.drop k)
  rw [List.length_drop] at this
  by_cases h : k + runN c (g.drop k) = g.length ∧ inB c m = true
  · rw [if_pos h, if_pos ⟨by omega, h.2⟩]
    omega
  · rw [if_neg h, if_neg (fun z => h ⟨by omega, z.2⟩)]
theorem ru_e {g : List Mt} {c k : Nat} (hk : k ≤ g.length) : ruN (g ++ [[]]) c k = ruN g c k := by
  rw [ru_app hk, if_neg (fun z => by have h := z.2; rw [inB_n] at h; cases h)]
theorem ru_len {g : List Mt} {c k : Nat} (hk : k ≤ g.length) : k + ruN g c k ≤ g.length := by
  have := run_le (c := c) (g.drop k)
  rw [List.length_drop] at this
  unfold ruN
  omega
theorem last_app {g : List Mt} {m pm : Mt} : lastM pm (g ++ [m]) = m := by
  induction g generalizing pm with
  | nil => rfl
  | cons a r ih => exact ih
/-- what reaches the end is in the last metre -/
theorem ru_last : ∀ {g : List Mt} {c k : Nat}, k < g.length → k + ruN g c k = g.length → inB c (lastM [] g) = true := by
  intro g c k hk h
  obtain ⟨g0, m, rfl⟩ : ∃ g0 m, g = g0 ++ [m] := by
    cases e : g.reverse with
    | nil => rw [List.reverse_eq_nil_iff.mp e] at hk; exact absurd hk (Nat.not_lt_zero _)
    | cons a r => exact ⟨r.reverse, a, by rw [← List.reverse_reverse g, e, List.reverse_cons]⟩
  rw [List.length_append] at hk h
  have hk' : k < g0.length + 1 := hk
  have h' : k + ruN (g0 ++ [m]) c k = g0.length + 1 := h
  rw [last_app]
  rw [ru_app (by omega)] at h'
  by_cases z : k + ruN g0 c k = g0.length ∧ inB c m = true
  · exact z.2
  · rw [if_neg z] at h'
    have := ru_len (g := g0) (c := c) (k := k) (by omega)
    omega
/-- the pieces of what was drawn first stay -/
theorem pcs_pre {g : List Mt} {m : Mt} {i : Nat} {p : Pc} (h : (pcs g)[i]? = some p) : (pcs (g ++ [m]))[i]? = some p := by
  unfold pcs at *
  rw [pcR_app, List.getElem?_append_left (List.getElem?_eq_some_iff.mp h).1]
  exact h
theorem pcR_lt : ∀ (g : List Mt) (n : Nat) (pm : Mt) (p : Pc), p ∈ pcR n pm g → n ≤ p.2.1 ∧ p.2.1 < n + g.length
  | [], _, _, p, h => absurd h List.not_mem_nil
  | a :: r, n, pm, p, h => by
    rcases List.mem_append.mp (show p ∈ (a.filter (fun z => !inB z.1 pm)).map (fun z => (z.1, n, z.2)) ++ pcR (n + 1) a r from h) with h | h
    · obtain ⟨z, -, e⟩ := List.mem_map.mp h
      subst e
      exact ⟨Nat.le_refl _, by show n < n + (r.length + 1); omega⟩
    · have k := pcR_lt r (n + 1) a p h
      exact ⟨by omega, by show p.2.1 < n + (r.length + 1); omega⟩
theorem pcs_lt {g : List Mt} {i : Nat} {p : Pc} (h : (pcs g)[i]? = some p) : p.2.1 < g.length := by
  have k := pcR_lt g 0 [] p (List.mem_of_getElem? h)
  omega
/-- a cocoon of the last metre has a piece that reaches the end -/
theorem run_ex : ∀ (r : List Mt) (c : Nat), inB c (lastM [] r.reverse) = true → r ≠ [] → ∃ (i m : Nat) (p : Int32), (pcs r.reverse)[i]? = some (c, m, p) ∧ m + ruN r.reverse c m = r.reverse.length
  | [], _, _, h => absurd rfl h
  | t :: r, c, hc, _ => by
    rw [List.reverse_cons] at hc ⊢
    rw [last_app] at hc
    by_cases h : inB c (lastM [] r.reverse) = true ∧ r ≠ []
    · obtain ⟨i, m, p, h1, h2⟩ := run_ex r c h.1 h.2
      have hl := pcs_lt h1
      have hl' : m < r.reverse.length := hl
      refine ⟨i, m, p, pcs_pre h1, ?_⟩
      rw [ru_app (by omega), if_pos ⟨h2, hc⟩, List.length_append]
      show m + (ruN r.reverse c m + 1) = r.reverse.length + 1
      omega
    · have hn : inB c (lastM [] r.reverse) = false := by
        cases e : inB c (lastM [] r.reverse) with
        | false => rfl
        | true =>
          have : r = [] := Classical.byContradiction (fun z => h ⟨e, z⟩)
          subst this
          cases e
      obtain ⟨z, hz, ez⟩ := inB_i.mp hc
      have hm : ((z.1, r.reverse.length, z.2) : Pc) ∈ pcs (r.reverse ++ [t]) := by
        unfold pcs
        rw [pcR_app]
        refine List.mem_append_right _ (List.mem_map.mpr ⟨z, List.mem_filter.mpr ⟨hz, by rw [ez, hn]; rfl⟩, ?_⟩)
        rw [Nat.zero_add]
      obtain ⟨i, hi⟩ := List.mem_iff_getElem?.mp hm
      refine ⟨i, r.reverse.length, z.2, by rw [← ez]; exact hi, ?_⟩
      have e0 : ruN r.reverse c r.reverse.length = 0 := by
        unfold ruN
        rw [List.drop_length]
        rfl
      rw [ru_app (Nat.le_refl _), e0, if_pos ⟨by omega, hc⟩, List.length_append]
      rfl
/-! ===== pieces: the class ===== -/
def cdS (S : PS) (c : Nat) : Int32 := pI S 0 c * 100 + pI S 1 c
def PieV (S : PS) (q : Nat) (g : List Mt) : Prop := (pI S 904 q).toInt = ((pcs g).length : Int) ∧ ∀ (i : Nat) (p : Pc), (pcs g)[i]? = some p → mA S q 905 i = cdS S p.1 ∧ (mA S q 906 i).toInt = (p.2.1 : Int) ∧ (mA S q 907 i).toInt = (ruN g p.1 p.2.1 : Int) ∧ mA S q 908 i = p.2.2
/-- where a piece reaches the last metre, or the last but one, its cocoon knows its number -/
def LpV (S : PS) (g : List Mt) : Prop := ∀ (i : Nat) (p : Pc), (pcs g)[i]? = some p → g.length ≤ p.2.1 + ruN g p.1 p.2.1 + 1 → (pI S 6 p.1).toInt = (i : Int)
def LpZ (S : PS) (g : List Mt) : Prop := ∀ (i : Nat) (p : Pc), (pcs g)[i]? = some p → g.length ≤ p.2.1 + ruN g p.1 p.2.1 → (pI S 6 p.1).toInt = (i : Int)
theorem LpV_b {S : PS} {g : List Mt} (h : LpZ S g) : LpV S (g ++ [[]]) := fun i p hi hl => by
  rw [pcs_e] at hi
  have hm := pcs_lt hi
  rw [ru_e (by omega), List.length_append] at hl
  have hl' : g.length + 1 ≤ p.2.1 + ruN g p.1 p.2.1 + 1 := hl
  exact h i p hi (by omega)
theorem LpZ_e {S : PS} {g : List Mt} (h : LpV S g) : LpZ S g := fun i p hi hl => h i p hi (by omega)
theorem PieV_b {S : PS} {q : Nat} {g : List Mt} (h : PieV S q g) : PieV S q (g ++ [[]]) := by
  refine ⟨by rw [pcs_e]; exact h.1, fun i p hi => ?_⟩
  rw [pcs_e] at hi
  have hm := pcs_lt hi
  rw [ru_e (by omega)]
  exact h.2 i p hi
theorem pcR_in : ∀ (g : List Mt) (n : Nat) (pm : Mt) (p : Pc), p ∈ pcR n pm g → ∃ t, g[p.2.1 - n]? = some t ∧ inB p.1 t = true
  | [], _, _, p, h => absurd h List.not_mem_nil
  | a :: r, n, pm, p, h => by
    rcases List.mem_append.mp (show p ∈ (a.filter (fun z => !inB z.1 pm)).map (fun z => (z.1, n, z.2)) ++ pcR (n + 1) a r from h) with h | h
    · obtain ⟨z, hz, e⟩ := List.mem_map.mp h
      subst e
      refine ⟨a, ?_, inB_i.mpr ⟨z, (List.mem_filter.mp hz).1, rfl⟩⟩
      show (a :: r)[n - n]? = some a
      rw [Nat.sub_self]
      rfl
    · have k := pcR_lt r (n + 1) a p h
      obtain ⟨t, h1, h2⟩ := pcR_in r (n + 1) a p h
      refine ⟨t, ?_, h2⟩
      rw [show p.2.1 - n = (p.2.1 - (n + 1)) + 1 by omega]
      exact h1
theorem pcs_in {g : List Mt} {i : Nat} {p : Pc} (h : (pcs g)[i]? = some p) : ∃ t, g[p.2.1]? = some t ∧ inB p.1 t = true := pcR_in g 0 [] p (List.mem_of_getElem? h)
/-- a piece of a cocoon that is not in the last metre yet -/
theorem pc_old {g : List Mt} {t : Mt} {i : Nat} {p : Pc} (h : (pcs (g ++ [t]))[i]? = some p) (ht : inB p.1 t = false) : p.2.1 < g.length ∧ ruN (g ++ [t]) p.1 p.2.1 = ruN g p.1 p.2.1 := by
  have hl := pcs_lt h
  rw [List.length_append] at hl
  have hl' : p.2.1 < g.length + 1 := hl
  have h1 : p.2.1 < g.length := by
    refine Classical.byContradiction (fun c => ?_)
    obtain ⟨u, h1, h2⟩ := pcs_in h
    rw [show p.2.1 = g.length by omega, List.getElem?_append_right (Nat.le_refl _), Nat.sub_self] at h1
    have h1' : some t = some u := h1
    cases h1'
    rw [ht] at h2
    cases h2
  refine ⟨h1, ?_⟩
  rw [ru_app (by omega), if_neg (fun z => by have k := z.2; rw [ht] at k; cases k)]
theorem run_ex' {g : List Mt} {c : Nat} (h : inB c (lastM [] g) = true) : ∃ (i m : Nat) (p : Int32), (pcs g)[i]? = some (c, m, p) ∧ m + ruN g c m = g.length := by
  have e : g.reverse.reverse = g := List.reverse_reverse g
  have hn : g.reverse ≠ [] := fun z => by
    rw [List.reverse_eq_nil_iff.mp z] at h
    cases h
  have k := run_ex g.reverse c (by rw [e]; exact h) hn
  rw [e] at k
  exact k
/-- the class asks whether the latest piece reaches up to here -/
theorem pie_br {S : PS} {q c : Nat} {g : List Mt} {t : Mt} (hV : PieV S q (g ++ [t])) (hL : LpV S (g ++ [t])) (ht : inB c t = false) (hcd : ∀ (i : Nat) (p : Pc), (pcs (g ++ [t]))[i]? = some p → cdS S p.1 = cdS S c → p.1 = c) : (0 ≤ (pI S 6 c).toInt ∧ (pI S 6 c).toInt < (pI S 904 q).toInt ∧ mA S q 905 (pI S 6 c).toInt.toNat = cdS S c ∧ (mA S q 906 (pI S 6 c).toInt.toNat).toInt + (mA S q 907 (pI S 6 c).toInt.toNat).toInt = (g.length : Int)) ↔ inB c (lastM [] g) = true := by
  have h9 := hV.1
  constructor
  · rintro ⟨h0, h1, h2, h3⟩
    obtain ⟨p, hp⟩ : ∃ p, (pcs (g ++ [t]))[(pI S 6 c).toInt.toNat]? = some p := ⟨_, List.getElem?_eq_getElem (by omega)⟩
    obtain ⟨k1, k2, k3, -⟩ := hV.2 _ _ hp
    have e := hcd _ p hp (k1.symm.trans h2)
    subst e
    obtain ⟨o1, o2⟩ := pc_old hp ht
    rw [o2] at k3
    exact ru_last o1 (by omega)
  · intro h
    obtain ⟨i, m, p, h1, h2⟩ := run_ex' h
    have h1' := pcs_pre (m := t) h1
    obtain ⟨o1, o2⟩ := pc_old h1' ht
    have o2' : ruN (g ++ [t]) c m = ruN g c m := o2
    obtain ⟨k1, k2, k3, -⟩ := hV.2 _ _ h1'
    have k2' : (mA S q 906 i).toInt = (m : Int) := k2
    have k3' : (mA S q 907 i).toInt = (ruN (g ++ [t]) c m : Int) := k3
    have el : (g ++ [t]).length = g.length + 1 := by rw [List.length_append]; rfl
    have hl : (pI S 6 c).toInt = (i : Int) := hL i (c, m, p) h1' (by show (g ++ [t]).length ≤ m + ruN (g ++ [t]) c m + 1; omega)
    have hi := (List.getElem?_eq_some_iff.mp h1').1
    rw [hl]
    refine ⟨by omega, by omega, ?_, ?_⟩
    · rw [show ((i : Int)).toNat = i by omega]
      exact k1
    · rw [show ((i : Int)).toNat = i by omega, k2', k3', o2']
      omega
/-- it goes on -/
theorem PieV_y {S T : PS} {q c : Nat} {g : List Mt} {t : Mt} {pl : Int32} (hV : PieV S q (g ++ [t])) (hL : LpV S (g ++ [t])) (ht : inB c t = false) (hb : inB c (lastM [] g) = true) (e4 : pI T 904 q = pI S 904 q) (e5 : mA T q 905 = mA S q 905) (e6 : mA T q 906 = mA S q 906) (e8 : mA T q 908 = mA S q 908) (e7 : ∀ j, (mA T q 907 j).toInt = if j = (pI S 6 c).toInt.toNat then (mA S q 907 j).toInt + 1 else (mA S q 907 j).toInt) {D : Nat → Prop} (hD : ∀ (i : Nat) (p : Pc), (pcs (g ++ [t]))[i]? = some p → D p.1) (ec : ∀ d, D d → cdS T d = cdS S d) (e66 : ∀ d, D d → pI T 6 d = pI S 6 d) : PieV T q (g ++ [t ++ [(c, pl)]]) ∧ LpV T (g ++ [t ++ [(c, pl)]]) := by
  have ep : pcs (g ++ [t ++ [(c, pl)]]) = pcs (g ++ [t]) := pcs_y (z := (c, pl)) hb
  have ru : ∀ (i : Nat) (p : Pc), (pcs (g ++ [t]))[i]? = some p → ruN (g ++ [t ++ [(c, pl)]]) p.1 p.2.1 = if i = (pI S 6 c).toInt.toNat then ruN (g ++ [t]) p.1 p.2.1 + 1 else ruN (g ++ [t]) p.1 p.2.1 := fun i p hi => by
    have hl := pcs_lt hi
    rw [List.length_append] at hl
    have hl' : p.2.1 < g.length + 1 := hl
    have el : (g ++ [t]).length = g.length + 1 := by rw [List.length_append]; rfl
    by_cases d : p.1 = c
    · subst d
      obtain ⟨o1, o2⟩ := pc_old hi ht
      have ia : inB p.1 (t ++ [(p.1, pl)]) = true := inB_i.mpr ⟨(p.1, pl), List.mem_append_right _ (List.mem_singleton.mpr rfl), rfl⟩
      rw [ru_app (by omega), o2]
      by_cases z : p.2.1 + ruN g p.1 p.2.1 = g.length
      · have k := hL i p hi (by rw [o2, el]; omega)
        rw [if_pos ⟨z, ia⟩, if_pos (by omega)]
      · rw [if_neg (fun y => z y.1), if_neg (fun y => z ?_)]
        obtain ⟨i', m, p', h1, h2⟩ := run_ex' hb
        have h1' := pcs_pre (m := t) h1
        obtain ⟨q1, q2⟩ := pc_old h1' ht
        have q2' : ruN (g ++ [t]) p.1 m = ruN g p.1 m := q2
        have k := hL i' (p.1, m, p') h1' (by show (g ++ [t]).length ≤ m + ruN (g ++ [t]) p.1 m + 1; omega)
        have k' : (pI S 6 p.1).toInt = (i' : Int) := k
        have ii : i = i' := by omega
        rw [ii, h1'] at hi
        have hi' := Option.some.inj hi
        rw [← hi']
        exact h2
    · have ia : inB p.1 (t ++ [(c, pl)]) = inB p.1 t := by
        rw [inB_a]
        have : (((c, pl) : Nat × Int32).1 == p.1) = false := by
          show (c == p.1) = false
          exact beq_eq_false_iff_ne.mpr (fun y => d y.symm)
        rw [this, Bool.or_false]
      have nx : i ≠ (pI S 6 c).toInt.toNat := fun y => by
        obtain ⟨i', m, p', h1, h2⟩ := run_ex' hb
        have h1' := pcs_pre (m := t) h1
        obtain ⟨q1, q2⟩ := pc_old h1' ht
        have q2' : ruN (g ++ [t]) c m = ruN g c m := q2
        have k : (pI S 6 c).toInt = (i' : Int) := hL i' (c, m, p') h1' (by show (g ++ [t]).length ≤ m + ruN (g ++ [t]) c m + 1; omega)
        have ii : i = i' := by omega
        rw [ii, h1'] at hi
        have hi' := Option.some.inj hi
        exact d (by rw [← hi'])
      rw [if_neg nx, ru_app (by omega), ru_app (by omega), ia]
  refine ⟨⟨by rw [e4, ep]; exact hV.1, fun i p hi => ?_⟩, fun i p hi hl => ?_⟩
  · rw [ep] at hi
    obtain ⟨k1, k2, k3, k4⟩ := hV.2 i p hi
    refine ⟨by rw [e5, ec _ (hD i p hi)]; exact k1, by rw [e6]; exact k2, ?_, by rw [e8]; exact k4⟩
    rw [e7, ru i p hi]
    by_cases z : i = (pI S 6 c).toInt.toNat
    · rw [if_pos z, if_pos z, k3]
      omega
    · rw [if_neg z, if_neg z, k3]
  · rw [ep] at hi
    rw [e66 _ (hD i p hi)]
    by_cases z : i = (pI S 6 c).toInt.toNat
    · obtain ⟨i', m, p', h1, h2⟩ := run_ex' hb
      have h1' := pcs_pre (m := t) h1
      obtain ⟨q1, q2⟩ := pc_old h1' ht
      have q2' : ruN (g ++ [t]) c m = ruN g c m := q2
      have el : (g ++ [t]).length = g.length + 1 := by rw [List.length_append]; rfl
      have k : (pI S 6 c).toInt = (i' : Int) := hL i' (c, m, p') h1' (by show (g ++ [t]).length ≤ m + ruN (g ++ [t]) c m + 1; omega)
      have ii : i = i' := by omega
      rw [ii, h1'] at hi
      have hi' := Option.some.inj hi
      rw [← hi', ii]
      exact k
    · have r := ru i p hi
      rw [if_neg z] at r
      rw [r] at hl
      refine hL i p hi ?_
      rw [List.length_append] at hl ⊢
      exact hl
/-- it begins -/
theorem PieV_n {S T : PS} {q c : Nat} {g : List Mt} {t : Mt} {pl : Int32} (hV : PieV S q (g ++ [t])) (hL : LpV S (g ++ [t])) (ht : inB c t = false) (hb : inB c (lastM [] g) = false) (e4 : (pI T 904 q).toInt = (pI S 904 q).toInt + 1) (e5 : ∀ j : Nat, (j : Int) ≤ (pI S 904 q).toInt → mA T q 905 j = if j = (pI S 904 q).toInt.toNat then cdS S c else mA S q 905 j) (e6 : ∀ j : Nat, (j : Int) ≤ (pI S 904 q).toInt → (mA T q 906 j).toInt = if j = (pI S 904 q).toInt.toNat then (g.length : Int) else (mA S q 906 j).toInt) (e7 : ∀ j : Nat, (j : Int) ≤ (pI S 904 q).toInt → (mA T q 907 j).toInt = if j = (pI S 904 q).toInt.toNat then 1 else (mA S q 907 j).toInt) (e8 : ∀ j : Nat, (j : Int) ≤ (pI S 904 q).toInt → mA T q 908 j = if j = (pI S 904 q).toInt.toNat then pl else mA S q 908 j) {D : Nat → Prop} (hD : ∀ (i : Nat) (p : Pc), (pcs (g ++ [t]))[i]? = some p → D p.1) (hDc : D c) (ec : ∀ d, D d → cdS T d = cdS S d) (e66 : ∀ d, D d → d ≠ c → pI T 6 d = pI S 6 d) (e6c : pI T 6 c = pI S 904 q) : PieV T q (g ++ [t ++ [(c, pl)]]) ∧ LpV T (g ++ [t ++ [(c, pl)]]) := by
  have ep : pcs (g ++ [t ++ [(c, pl)]]) = pcs (g ++ [t]) ++ [(c, g.length, pl)] := pcs_n (z := (c, pl)) hb
  have h9 := hV.1
  have hn : (pI S 904 q).toInt.toNat = (pcs (g ++ [t])).length := by omega
  rw [hn] at e5 e6 e7 e8
  have ia : inB c (t ++ [(c, pl)]) = true := inB_i.mpr ⟨(c, pl), List.mem_append_right _ (List.mem_singleton.mpr rfl), rfl⟩
  have el : (g ++ [t]).length = g.length + 1 := by rw [List.length_append]; rfl
  have el' : (g ++ [t ++ [(c, pl)]]).length = g.length + 1 := by rw [List.length_append]; rfl
  have rn : ruN (g ++ [t ++ [(c, pl)]]) c g.length = 1 := by
    have e0 : ruN g c g.length = 0 := by
      unfold ruN
      rw [List.drop_length]
      rfl
    rw [ru_app (Nat.le_refl _), e0, if_pos ⟨by omega, ia⟩]
  have ro : ∀ (i : Nat) (p : Pc), (pcs (g ++ [t]))[i]? = some p → ruN (g ++ [t ++ [(c, pl)]]) p.1 p.2.1 = ruN (g ++ [t]) p.1 p.2.1 := fun i p hi => by
    have hl := pcs_lt hi
    by_cases d : p.1 = c
    · subst d
      obtain ⟨o1, o2⟩ := pc_old hi ht
      rw [o2, ru_app (by omega), if_neg (fun y => by
        have k := ru_last o1 y.1
        rw [hb] at k
        cases k)]
    · have ib : inB p.1 (t ++ [(c, pl)]) = inB p.1 t := by
        rw [inB_a]
        have : (((c, pl) : Nat × Int32).1 == p.1) = false := by
          show (c == p.1) = false
          exact beq_eq_false_iff_ne.mpr (fun y => d y.symm)
        rw [this, Bool.or_false]
      rw [ru_app (by omega), ru_app (by omega), ib]
  have sp : ∀ (i : Nat) (p : Pc), (pcs (g ++ [t ++ [(c, pl)]]))[i]? = some p → (i < (pcs (g ++ [t])).length ∧ (pcs (g ++ [t]))[i]? = some p) ∨ (i = (pcs (g ++ [t])).length ∧ p = (c, g.length, pl)) := fun i p hi => by
    rw [ep] at hi
    by_cases z : i < (pcs (g ++ [t])).length
    · rw [List.getElem?_append_left z] at hi
      exact Or.inl ⟨z, hi⟩
    · have hl := (List.getElem?_eq_some_iff.mp hi).1
      rw [List.length_append] at hl
      have hl' : i < (pcs (g ++ [t])).length + 1 := hl
      have z2 : i = (pcs (g ++ [t])).length := by omega
      rw [z2, List.getElem?_append_right (Nat.le_refl _), Nat.sub_self] at hi
      have hi' : some ((c, g.length, pl) : Pc) = some p := hi
      exact Or.inr ⟨z2, (Option.some.inj hi').symm⟩
  refine ⟨⟨by rw [e4, h9, ep, List.length_append]; rfl, fun i p hi => ?_⟩, fun i p hi hl => ?_⟩
  · rcases sp i p hi with ⟨z, h⟩ | ⟨z, h⟩
    · obtain ⟨k1, k2, k3, k4⟩ := hV.2 i p h
      rw [e5 i (by omega), e6 i (by omega), e7 i (by omega), e8 i (by omega), if_neg (by omega), if_neg (by omega), if_neg (by omega), if_neg (by omega), ec _ (hD i p h), ro i p h]
      exact ⟨k1, k2, k3, k4⟩
    · rw [h, e5 i (by omega), e6 i (by omega), e7 i (by omega), e8 i (by omega), if_pos z, if_pos z, if_pos z, if_pos z, ec _ hDc]
      refine ⟨rfl, rfl, ?_, rfl⟩
      show (1 : Int) = (ruN (g ++ [t ++ [(c, pl)]]) c g.length : Int)
      rw [rn]
      rfl
  · rcases sp i p hi with ⟨z, h⟩ | ⟨z, h⟩
    · rw [el', ro i p h] at hl
      by_cases d : p.1 = c
      · exfalso
        subst d
        obtain ⟨o1, o2⟩ := pc_old h ht
        have := ru_len (g := g) (c := p.1) (k := p.2.1) (by omega)
        have k := ru_last (g := g) (c := p.1) (k := p.2.1) o1 (by omega)
        rw [hb] at k
        cases k
      · rw [e66 _ (hD i p h) d]
        exact hL i p h (by rw [el]; exact hl)
    · rw [h]
      show (pI T 6 c).toInt = (i : Int)
      rw [e6c]
      omega
/-! ===== pieces: room for one more, one end more ===== -/
def DsO (S : PS) (q : Nat) : Prop := ∀ g g', g ∈ pcG → g' ∈ pcG → g ≠ g' → pR S g q ≠ pR S g' q
theorem DsO_of {S : PS} {q a5 a6 a7 a8 : Nat} (h5 : pR S 905 q = some a5) (h6 : pR S 906 q = some a6) (h7 : pR S 907 q = some a7) (h8 : pR S 908 q = some a8) (n56 : a5 ≠ a6) (n57 : a5 ≠ a7) (n58 : a5 ≠ a8) (n67 : a6 ≠ a7) (n68 : a6 ≠ a8) (n78 : a7 ≠ a8) : DsO S q := fun g g' hg hg' hn => by
  simp only [pcG, List.mem_cons, List.not_mem_nil, or_false] at hg hg'
  have key : ∀ {a b : Nat}, a ≠ b → (some a : Option Nat) ≠ some b := fun h z => h (Option.some.inj z)
  rcases hg with e | e | e | e <;> rcases hg' with e' | e' | e' | e' <;> subst e <;> subst e'
  · exact absurd rfl hn
  · rw [h5, h6]; exact key n56
  · rw [h5, h7]; exact key n57
  · rw [h5, h8]; exact key n58
  · rw [h6, h5]; exact key (Ne.symm n56)
  · exact absurd rfl hn
  · rw [h6, h7]; exact key n67
  · rw [h6, h8]; exact key n68
  · rw [h7, h5]; exact key (Ne.symm n57)
  · rw [h7, h6]; exact key (Ne.symm n67)
  · exact absurd rfl hn
  · rw [h7, h8]; exact key n78
  · rw [h8, h5]; exact key (Ne.symm n58)
  · rw [h8, h6]; exact key (Ne.symm n68)
  · rw [h8, h7]; exact key (Ne.symm n78)
  · exact absurd rfl hn
/-- rows of pieces that were copied (L: which) -/
def MrP (S T : PS) (x : Nat) (L : List Nat) : Prop := Kq S T x ∧ (x ∈ pL T ∧ pK T x = pK S x) ∧ (∀ g, pI T g x = pI S g x) ∧ (∀ g, g ∉ L → pR T g x = pR S g x) ∧ (∀ g, g ∈ L → ∃ q c, pR T g x = some q ∧ q ∉ pL S ∧ q ∈ pL T ∧ pR S g x = some c ∧ ∀ i : Nat, (i : Int) < (pI S 904 x).toInt → pA T q i = pA S c i) ∧ ∀ g g', g ∈ L → g' ∈ L → g ≠ g' → pR T g x ≠ pR T g' x
theorem MrP_0 {S : PS} {x : Nat} (hx : x ∈ pL S) : MrP S S x [] := ⟨Kq.rf S x, ⟨hx, rfl⟩, fun _ => rfl, fun _ _ => rfl, fun _ h => absurd h List.not_mem_nil, fun _ _ h => absurd h List.not_mem_nil⟩
theorem MrP_s {S T T1 U : PS} {x q c g n0 nq k : Nat} {L : List Nat} (h : MrP S T x L) (hg : g ∉ L) (hx : At S x 29) (hc : pR T g x = some c) (hcS : At S c k) (hk : k ≠ 29) (hy : Cpy T T1 q nq) (hi : CyI T T1 c q n0 nq) (hb : ∀ i : Nat, (i : Int) < (pI S 904 x).toInt → i < n0 ∧ i < nq) (e : U = sR T1 g x (some q)) : MrP S U x (g :: L) := by
  obtain ⟨h1, ⟨hxT, hxK⟩, h2, h3, h4, h5⟩ := h
  have hqT : q ∉ pL T := hy.1
  have hqS : q ∉ pL S := h1.new hqT
  have hcx : c ≠ x := At_ne hcS hx hk
  have kx := (hy.2.1 x hxT).2 (ne_of_new hqT hxT)
  have hcT : pR S g x = some c := (h3 g hg).symm.trans hc
  have h1q : ∀ b, b ∈ pL T → pA T1 b = pA T b := fun b hb => ((hy.2.1 b hb).2 (ne_of_new hqT hb)).2.2.2.2.1
  have hgU : pR U g x = some q := by rw [e]; exact pR_sR_same
  have hoU : ∀ g', g' ≠ g → pR U g' x = pR T g' x := fun g' hn => by
    rw [e, pR_sR_nf hn]
    exact kx.2.2.1 g'
  have hoL : ∀ g', g' ∈ L → pR U g' x = pR T g' x := fun g' hm => hoU g' (fun w => hg (by rw [← w]; exact hm))
  refine ⟨(h1.sub hqS hy.2.1).sR e, ?_, fun g' => ?_, fun g' hn => ?_, fun g' hm => ?_, fun g' g'' hm hm' hn => ?_⟩
  · rw [e]
    exact ⟨(hy.2.1 x hxT).1, kx.1.trans hxK⟩
  · rw [e]
    exact (kx.2.1 g').trans (h2 g')
  · rw [hoU g' (fun z => hn (by rw [z]; exact List.mem_cons_self))]
    exact h3 g' (fun z => hn (List.mem_cons_of_mem _ z))
  · rcases List.mem_cons.mp hm with z | z
    · rw [z]
      refine ⟨q, c, hgU, hqS, ?_, hcT, fun i hi' => ?_⟩
      · rw [e]
        exact hy.2.2.1.1
      · obtain ⟨b1, b2⟩ := hb i hi'
        have e1 : pA U q i = pA T1 q i := by rw [e]; rfl
        rw [e1, hi i b1 b2, ((h1 c hcS.1).2 hcx).2.2.2.2.1]
    · obtain ⟨q', c', a1, a2, a3, a4, a5⟩ := h4 g' z
      refine ⟨q', c', (hoL g' z).trans a1, a2, ?_, a4, fun i hi' => ?_⟩
      · rw [e]
        exact (hy.2.1 q' a3).1
      · have e1 : pA U q' i = pA T1 q' i := by rw [e]; rfl
        rw [e1, h1q q' a3]
        exact a5 i hi'
  · have key : ∀ y, y ∈ L → pR U y x ≠ some q := fun y hy' z => by
      obtain ⟨q', c', a1, a2, a3, -⟩ := h4 y hy'
      rw [hoL y hy', a1] at z
      cases z
      exact hqT a3
    rcases List.mem_cons.mp hm with z | z
    · rcases List.mem_cons.mp hm' with z' | z'
      · exact absurd (z.trans z'.symm) hn
      · rw [z, hgU]
        exact fun y => key g'' z' y.symm
    · rcases List.mem_cons.mp hm' with z' | z'
      · rw [z', hgU]
        exact key g' z
      · rw [hoL g' z, hoL g'' z']
        exact h5 g' g'' z z' hn
def mrL : List Nat := [908, 907, 906, 905]
theorem mr_pc {g : Nat} (h : g ∈ pcG) : g ∈ mrL := by
  simp only [pcG, List.mem_cons, List.not_mem_nil, or_false] at h
  simp only [mrL, List.mem_cons, List.not_mem_nil, or_false]
  omega
theorem pc_mr {g : Nat} (h : g ∉ pcG) : g ∉ mrL := by
  simp only [pcG, List.mem_cons, List.not_mem_nil, or_false] at h
  simp only [mrL, List.mem_cons, List.not_mem_nil, or_false]
  omega
def MrO (S T : PS) (x : Nat) : Prop := T = S ∨ MrP S T x mrL
theorem MrO_f {S T : PS} {x : Nat} (hx : At S x 29) (h : MrO S T x) : Kq S T x ∧ (x ∈ pL T ∧ pK T x = pK S x) ∧ (∀ g, pI T g x = pI S g x) ∧ (∀ g, g ∉ pcG → pR T g x = pR S g x) ∧ (∀ g, g ∈ pcG → ∀ i : Nat, (i : Int) < (pI S 904 x).toInt → mA T x g i = mA S x g i) ∧ (∀ g, g ∈ pcG → pR T g x = pR S g x ∨ ∃ a, pR T g x = some a ∧ a ∉ pL S) ∧ (DsO S x → DsO T x) := by
  rcases h with h | h
  · subst h
    exact ⟨Kq.rf _ x, ⟨hx.1, rfl⟩, fun _ => rfl, fun _ _ => rfl, fun _ _ _ _ => rfl, fun _ _ => Or.inl rfl, fun h => h⟩
  · obtain ⟨h1, h2, h3, h4, h5, h6⟩ := h
    refine ⟨h1, h2, h3, fun g hg => h4 g (pc_mr hg), fun g hg i hi => ?_, fun g hg => ?_, fun _ g g' hg hg' => h6 g g' (mr_pc hg) (mr_pc hg')⟩
    · obtain ⟨q, c, a1, -, -, a4, a5⟩ := h5 g (mr_pc hg)
      rw [mA_eq a1, mA_eq a4]
      exact a5 i hi
    · obtain ⟨q, c, a1, a2, -, -, -⟩ := h5 g (mr_pc hg)
      exact Or.inr ⟨q, a1, a2⟩
/-- whether the latest piece of a cocoon goes on -/
def AoC (S : PS) (x c : Nat) (a : Int32) : Prop := 0 ≤ (pI S 6 c).toInt ∧ (pI S 6 c).toInt < (pI S 904 x).toInt ∧ mA S x 905 (pI S 6 c).toInt.toNat = cdS S c ∧ mA S x 906 (pI S 6 c).toInt.toNat + mA S x 907 (pI S 6 c).toInt.toNat = a
def AoN (S U : PS) (x c : Nat) (a : Int32) : Prop := ∃ T T1 T2 T3 T4 T5 b5 b6 b7 b8, MrO S T x ∧ (pR T 905 x = some b5 ∧ pR T 906 x = some b6 ∧ pR T 907 x = some b7 ∧ pR T 908 x = some b8) ∧ T1 = sA T b5 (upd (pA T b5) (pI S 904 x).toInt.toNat (cdS S c)) ∧ T2 = sA T1 b6 (upd (pA T1 b6) (pI S 904 x).toInt.toNat a) ∧ T3 = sA T2 b7 (upd (pA T2 b7) (pI S 904 x).toInt.toNat 1) ∧ T4 = sA T3 b8 (upd (pA T3 b8) (pI S 904 x).toInt.toNat (pI S 4 c)) ∧ T5 = sI T4 6 c (pI S 904 x) ∧ U = sI T5 904 x (pI S 904 x + 1)
def AoO (S U : PS) (x c : Nat) (a : Int32) : Prop := (AoC S x c a ∧ ∃ b, pR S 907 x = some b ∧ U = sA S b (upd (pA S b) (pI S 6 c).toInt.toNat (pA S b (pI S 6 c).toInt.toNat + 1))) ∨ (¬ AoC S x c a ∧ ¬ (pI S 904 x).toInt < 3600 ∧ U = S) ∨ (¬ AoC S x c a ∧ (pI S 904 x).toInt < 3600 ∧ AoN S U x c a)
theorem Ao_A {T T1 T2 T3 T4 T5 U : PS} {b5 b6 b7 b8 n c x : Nat} {v5 v6 v7 v8 v9 v10 : Int32} (n56 : b5 ≠ b6) (n57 : b5 ≠ b7) (n58 : b5 ≠ b8) (n67 : b6 ≠ b7) (n68 : b6 ≠ b8) (n78 : b7 ≠ b8) (e1 : T1 = sA T b5 (upd (pA T b5) n v5)) (e2 : T2 = sA T1 b6 (upd (pA T1 b6) n v6)) (e3 : T3 = sA T2 b7 (upd (pA T2 b7) n v7)) (e4 : T4 = sA T3 b8 (upd (pA T3 b8) n v8)) (e5 : T5 = sI T4 6 c v9) (e6 : U = sI T5 904 x v10) : pA U b5 = upd (pA T b5) n v5 ∧ pA U b6 = upd (pA T b6) n v6 ∧ pA U b7 = upd (pA T b7) n v7 ∧ pA U b8 = upd (pA T b8) n v8 ∧ ∀ a, a ≠ b5 → a ≠ b6 → a ≠ b7 → a ≠ b8 → pA U a = pA T a := by
  have u : pA U = pA T4 := by rw [e6, e5]; rfl
  have p1 : ∀ a, a ≠ b5 → pA T1 a = pA T a := fun a h => by rw [e1]; exact pA_sA_ne h
  have p2 : ∀ a, a ≠ b6 → pA T2 a = pA T1 a := fun a h => by rw [e2]; exact pA_sA_ne h
  have p3 : ∀ a, a ≠ b7 → pA T3 a = pA T2 a := fun a h => by rw [e3]; exact pA_sA_ne h
  have p4 : ∀ a, a ≠ b8 → pA T4 a = pA T3 a := fun a h => by rw [e4]; exact pA_sA_ne h
  have q1 : pA T1 b5 = upd (pA T b5) n v5 := by rw [e1]; exact if_pos rfl
  have q2 : pA T2 b6 = upd (pA T1 b6) n v6 := by rw [e2]; exact if_pos rfl
  have q3 : pA T3 b7 = upd (pA T2 b7) n v7 := by rw [e3]; exact if_pos rfl
  have q4 : pA T4 b8 = upd (pA T3 b8) n v8 := by rw [e4]; exact if_pos rfl
  rw [u]
  refine ⟨?_, ?_, ?_, ?_, fun a h5 h6 h7 h8 => ?_⟩
  · rw [p4 _ n58, p3 _ n57, p2 _ n56, q1]
  · rw [p4 _ n68, p3 _ n67, q2, p1 _ (Ne.symm n56)]
  · rw [p4 _ n78, q3, p2 _ (Ne.symm n67), p1 _ (Ne.symm n57)]
  · rw [q4, p3 _ (Ne.symm n78), p2 _ (Ne.symm n68), p1 _ (Ne.symm n58)]
  · rw [p4 a h8, p3 a h7, p2 a h6, p1 a h5]
theorem upd_if {f : Nat → Int32} {i j : Nat} {v : Int32} : upd f i v j = if j = i then v else f j := by
  by_cases h : j = i
  · rw [if_pos h, h]
    exact upd_s
  · rw [if_neg h]
    exact upd_n h
theorem i32_sum {a b c : Int32} {x y : Nat} {z : Int} (ha : a.toInt = (x : Int)) (hb : b.toInt = (y : Int)) (hx : x ≤ 100000) (hy : y ≤ 100000) (hc : c.toInt = z) : a + b = c ↔ (x : Int) + (y : Int) = z := by
  have h := z_add (v := a + b) rfl ha hb (by omega) (by omega)
  constructor
  · intro e
    rw [e, hc] at h
    exact h.symm
  · intro e
    exact Int32.toInt_inj.mp (by rw [h, hc, e])
/-- what else one end more may touch -/
def PzX (S T : PS) (q : Nat) (A : Nat → Prop) : Prop := (∀ a k, At S a k → At T a k) ∧ (∀ c, At S c 0 → ¬ A c → pI T 6 c = pI S 6 c) ∧ (∀ b, At S b 9 ∨ (At S b 29 ∧ b ≠ q) → pI T 904 b = pI S 904 b ∧ ∀ g, g ∈ pcG → pR T g b = pR S g b) ∧ (∀ a, At S a 14 → (∀ g, g ∈ pcG → pR S g q ≠ some a) → pA T a = pA S a) ∧ ∀ g, g ∈ pcG → pR T g q = pR S g q ∨ ∃ a, pR T g q = some a ∧ a ∉ pL S
theorem PzX_rf (S : PS) (q : Nat) (A : Nat → Prop) : PzX S S q A := ⟨fun _ _ h => h, fun _ _ _ => rfl, fun _ _ => ⟨rfl, fun _ _ => rfl⟩, fun _ _ _ => rfl, fun _ _ => Or.inl rfl⟩
theorem PzX_tr {S T U : PS} {q : Nat} {A B : Nat → Prop} (hB : ∀ c, B c → A c) (h : PzX S T q A) (h' : PzX T U q B) : PzX S U q A := by
  obtain ⟨a1, a2, a3, a4, a5⟩ := h
  obtain ⟨b1, b2, b3, b4, b5⟩ := h'
  refine ⟨fun a k z => b1 a k (a1 a k z), fun c hc hn => (b2 c (a1 c 0 hc) (fun z => hn (hB c z))).trans (a2 c hc hn), fun b hb => ?_, fun a ha hn => ?_, fun g hg => ?_⟩
  · obtain ⟨k1, k2⟩ := a3 b hb
    obtain ⟨l1, l2⟩ := b3 b (hb.elim (fun z => Or.inl (a1 b 9 z)) (fun z => Or.inr ⟨a1 b 29 z.1, z.2⟩))
    exact ⟨l1.trans k1, fun g hg => (l2 g hg).trans (k2 g hg)⟩
  · refine (b4 a (a1 a 14 ha) (fun g hg z => ?_)).trans (a4 a ha hn)
    rcases a5 g hg with y | ⟨y, h1, h2⟩
    · exact hn g hg (y.symm.trans z)
    · rw [h1] at z
      cases z
      exact h2 ha.1
  · rcases b5 g hg with y | ⟨y, h1, h2⟩
    · rw [y]
      exact a5 g hg
    · exact Or.inr ⟨y, h1, fun z => h2 (a1 y _ ⟨z, rfl⟩).1⟩
theorem pc_ar {S : PS} {q g b : Nat} (hG : GX S) (hq : At S q 29) (hg : g ∈ pcG) (h : pR S g q = some b) : At S b 14 := by
  obtain ⟨q1, q2, q3, q4, n, r1, r2, r3, r4, t1, t2, t3, t4, -⟩ := gGrw hG hq
  simp only [pcG, List.mem_cons, List.not_mem_nil, or_false] at hg
  rcases hg with e | e | e | e <;> subst e
  · rw [r1] at h; cases h; exact t1
  · rw [r2] at h; cases h; exact t2
  · rw [r3] at h; cases h; exact t3
  · rw [r4] at h; cases h; exact t4
theorem ne_rows {S : PS} {q g g' b b' : Nat} (hd : DsO S q) (hg : g ∈ pcG) (hg' : g' ∈ pcG) (hn : g ≠ g') (h : pR S g q = some b) (h' : pR S g' q = some b') : b ≠ b' := fun z => hd g g' hg hg' hn (by rw [h, h', z])
/-- one end more: its piece goes on, or begins -/
theorem Ao_pie {S U : PS} {q c : Nat} {a : Int32} {g : List Mt} {t : Mt} {D : Nat → Prop} (hG : GX S) (hq : At S q 29) (hDa : ∀ d, D d → At S d 0) (hDc : D c) (hd : DsO S q) (ho : AoO S U q c a) (hV : PieV S q (g ++ [t])) (hL : LpV S (g ++ [t])) (ht : inB c t = false) (hD : ∀ (i : Nat) (p : Pc), (pcs (g ++ [t]))[i]? = some p → D p.1) (hcd : ∀ d e, D d → D e → cdS S d = cdS S e → d = e) (ha : a.toInt = (g.length : Int)) (hg : g.length < 300) (hn : (pcs (g ++ [t])).length < 3600) : (PieV U q (g ++ [t ++ [(c, pI S 4 c)]]) ∧ LpV U (g ++ [t ++ [(c, pI S 4 c)]])) ∧ DsO U q ∧ PzX S U q (fun d => d = c) ∧ ∀ d, At S d 0 → cdS U d = cdS S d := by
  have hn4 := hV.1
  have hr := gGrw hG hq
  obtain ⟨q1, q2, q3, q4, nn, r1, r2, r3, r4, t1, t2, t3, t4, l1, l2, l3, l4, d0, d1, d2⟩ := hr
  have el : (g ++ [t]).length = g.length + 1 := by rw [List.length_append]; rfl
  have hsum : ∀ i p, (pcs (g ++ [t]))[i]? = some p → (mA S q 906 i + mA S q 907 i = a ↔ (mA S q 906 i).toInt + (mA S q 907 i).toInt = (g.length : Int)) := fun i p hp => by
    obtain ⟨-, k2, k3, -⟩ := hV.2 i p hp
    have h1 := pcs_lt hp
    have h2 := ru_len (g := g ++ [t]) (c := p.1) (k := p.2.1) (by omega)
    rw [k2, k3]
    exact i32_sum k2 k3 (by omega) (by omega) ha
  have hcd' : ∀ (i : Nat) (p : Pc), (pcs (g ++ [t]))[i]? = some p → cdS S p.1 = cdS S c → p.1 = c := fun i p hp e => hcd _ _ (hD i p hp) hDc e
  have hbr := pie_br hV hL ht hcd'
  have hC : AoC S q c a ↔ inB c (lastM [] g) = true := by
    rw [← hbr]
    unfold AoC
    constructor
    · rintro ⟨h0, h1, h2, h3⟩
      obtain ⟨p, hp⟩ : ∃ p, (pcs (g ++ [t]))[(pI S 6 c).toInt.toNat]? = some p := ⟨_, List.getElem?_eq_getElem (by omega)⟩
      exact ⟨h0, h1, h2, (hsum _ p hp).mp h3⟩
    · rintro ⟨h0, h1, h2, h3⟩
      obtain ⟨p, hp⟩ : ∃ p, (pcs (g ++ [t]))[(pI S 6 c).toInt.toNat]? = some p := ⟨_, List.getElem?_eq_getElem (by omega)⟩
      exact ⟨h0, h1, h2, (hsum _ p hp).mpr h3⟩
  rcases ho with ⟨hy, b, hb, e⟩ | ⟨hy, h3, e⟩ | ⟨hy, h3, T, T1, T2, T3, T4, T5, b5, b6, b7, b8, hM, ⟨m5, m6, m7, m8⟩, e1, e2, e3, e4, e5, e6⟩
  · rw [r3] at hb
    cases hb
    have hin := hC.mp hy
    have h0 := hy.1
    have h1 := hy.2.1
    have pU : ∀ y, y ≠ q3 → pA U y = pA S y := fun y hy => by rw [e]; exact pA_sA_ne hy
    have pI' : ∀ k y, pI U k y = pI S k y := fun k y => by rw [e]; rfl
    have pR' : ∀ k y, pR U k y = pR S k y := fun k y => by rw [e]; rfl
    have mo : ∀ k b', k ∈ pcG → k ≠ 907 → pR S k q = some b' → mA U q k = mA S q k := fun k b' hk hn' hb' => by
      rw [mA_eq ((pR' k q).trans hb'), mA_eq hb']
      exact pU b' (ne_rows hd hk (by decide) hn' hb' r3)
    obtain ⟨p, hp⟩ : ∃ p, (pcs (g ++ [t]))[(pI S 6 c).toInt.toNat]? = some p := ⟨_, List.getElem?_eq_getElem (by omega)⟩
    have k3 := (hV.2 _ p hp).2.2.1
    have hl := ru_len (g := g ++ [t]) (c := p.1) (k := p.2.1) (by have := pcs_lt hp; omega)
    rw [mA_eq r3] at k3
    have z1 : (pA S q3 (pI S 6 c).toInt.toNat + 1).toInt = (pA S q3 (pI S 6 c).toInt.toNat).toInt + 1 := z_add rfl rfl (by decide) (by omega) (by omega)
    refine ⟨PieV_y hV hL ht hin (pI' 904 q) (mo 905 q1 (by decide) (by decide) r1) (mo 906 q2 (by decide) (by decide) r2) (mo 908 q4 (by decide) (by decide) r4) (fun j => ?_) hD (fun d _ => by unfold cdS; rw [pI', pI']) (fun d _ => pI' 6 d), fun k k' hk hk' hn' => by rw [pR', pR']; exact hd k k' hk hk' hn', ⟨fun y k hy => by rw [e]; exact hy, fun d _ _ => pI' 6 d, fun y _ => ⟨pI' 904 y, fun k _ => pR' k y⟩, fun y _ hy => pU y (fun z => hy 907 (by decide) (by rw [z]; exact r3)), fun k _ => Or.inl (pR' k q)⟩, fun d _ => by unfold cdS; rw [pI', pI']⟩
    rw [mA_eq ((pR' 907 q).trans r3), mA_eq r3, e, show pA (sA S q3 (upd (pA S q3) (pI S 6 c).toInt.toNat (pA S q3 (pI S 6 c).toInt.toNat + 1))) q3 = upd (pA S q3) (pI S 6 c).toInt.toNat (pA S q3 (pI S 6 c).toInt.toNat + 1) from if_pos rfl, upd_if]
    by_cases z : j = (pI S 6 c).toInt.toNat
    · rw [if_pos z, if_pos z, z1, z]
    · rw [if_neg z, if_neg z]
  · exact absurd (by omega) h3
  · have hin : inB c (lastM [] g) = false := by
      cases z : inB c (lastM [] g)
      · rfl
      · exact absurd (hC.mpr z) hy
    obtain ⟨f1, f2, f3, f4, f5, f6, f7⟩ := MrO_f hq hM
    have hdT := f7 hd
    have n56 := ne_rows hdT (g := 905) (g' := 906) (by decide) (by decide) (by decide) m5 m6
    have n57 := ne_rows hdT (g := 905) (g' := 907) (by decide) (by decide) (by decide) m5 m7
    have n58 := ne_rows hdT (g := 905) (g' := 908) (by decide) (by decide) (by decide) m5 m8
    have n67 := ne_rows hdT (g := 906) (g' := 907) (by decide) (by decide) (by decide) m6 m7
    have n68 := ne_rows hdT (g := 906) (g' := 908) (by decide) (by decide) (by decide) m6 m8
    have n78 := ne_rows hdT (g := 907) (g' := 908) (by decide) (by decide) (by decide) m7 m8
    obtain ⟨a5, a6, a7, a8, ao⟩ := Ao_A n56 n57 n58 n67 n68 n78 e1 e2 e3 e4 e5 e6
    have pR' : ∀ k y, pR U k y = pR T k y := fun k y => by rw [e6, e5, e4, e3, e2, e1]; rfl
    have pI' : ∀ k y, pI U k y = pI (sI (sI T 6 c (pI S 904 q)) 904 q (pI S 904 q + 1)) k y := fun k y => by rw [e6, e5, e4, e3, e2, e1]; rfl
    have pL' : ∀ y k, At T y k → At U y k := fun y k h => by rw [e6, e5, e4, e3, e2, e1]; exact h
    have aT : ∀ y k, y ≠ q → At S y k → At T y k := fun y k hn' h => ⟨(f1 y h.1).1, ((f1 y h.1).2 hn').1.trans h.2⟩
    have hcq : ∀ d, At S d 0 → d ≠ q := fun d h => At_ne h hq (by decide)
    have iT : ∀ y k, At S y k → k ≠ 29 → ∀ f, pI T f y = pI S f y := fun y k h hk f => ((f1 y h.1).2 (At_ne h hq hk)).2.1 f
    have iU : ∀ d, At S d 0 → ∀ f, f ≠ 6 → pI U f d = pI S f d := fun d h f hf => by
      rw [pI', pI_sI_ne (hcq d h), pI_sI_nf hf]
      exact iT d 0 h (by decide) f
    have c4 : pI U 904 q = pI S 904 q + 1 := by rw [pI']; exact pI_sI_same
    have mS : ∀ k, k ∈ pcG → ∀ j : Nat, j < (pI S 904 q).toInt.toNat → mA T q k j = mA S q k j := fun k hk j hj => f5 k hk j (by omega)
    have E : ∀ k b v, k ∈ pcG → pR T k q = some b → pA U b = upd (pA T b) (pI S 904 q).toInt.toNat v → ∀ j : Nat, (j : Int) ≤ (pI S 904 q).toInt → mA U q k j = if j = (pI S 904 q).toInt.toNat then v else mA S q k j := fun k b v hk hb hu j hj => by
      rw [mA_eq ((pR' k q).trans hb), hu, upd_if]
      by_cases z : j = (pI S 904 q).toInt.toNat
      · rw [if_pos z, if_pos z]
      · rw [if_neg z, if_neg z, ← mS k hk j (by omega), mA_eq hb]
    have E5 := E 905 b5 _ (by decide) m5 a5
    have E6 := E 906 b6 _ (by decide) m6 a6
    have E7 := E 907 b7 _ (by decide) m7 a7
    have E8 := E 908 b8 _ (by decide) m8 a8
    refine ⟨PieV_n hV hL ht hin (by rw [c4]; exact z_add rfl rfl (by decide) (by omega) (by omega)) E5 (fun j hj => ?_) (fun j hj => ?_) E8 hD hDc (fun d h => by unfold cdS; rw [iU d (hDa d h) 0 (by decide), iU d (hDa d h) 1 (by decide)]) (fun d h hn' => ?_) ?_, fun k k' hk hk' hn' => by rw [pR', pR']; exact hdT k k' hk hk' hn', ⟨fun y k hy' => ?_, fun d hd' hn' => ?_, fun y hy' => ?_, fun y hy' hn' => ?_, fun k hk => ?_⟩, fun d h => by unfold cdS; rw [iU d h 0 (by decide), iU d h 1 (by decide)]⟩
    · rw [E6 j hj]
      by_cases z : j = (pI S 904 q).toInt.toNat
      · rw [if_pos z, if_pos z, ha]
      · rw [if_neg z, if_neg z]
    · rw [E7 j hj]
      by_cases z : j = (pI S 904 q).toInt.toNat
      · rw [if_pos z, if_pos z]
        decide
      · rw [if_neg z, if_neg z]
    · rw [pI', pI_sI_nf (by decide), pI_sI_ne hn']
      exact iT d 0 (hDa d h) (by decide) 6
    · rw [pI', pI_sI_nf (by decide)]
      exact pI_sI_same
    · by_cases z : y = q
      · rw [z] at hy' ⊢
        exact pL' q k ⟨f2.1, f2.2.trans hy'.2⟩
      · exact pL' y k (aT y k z hy')
    · rw [pI', pI_sI_nf (by decide), pI_sI_ne hn']
      exact iT d 0 hd' (by decide) 6
    · have hyq : y ≠ q := hy'.elim (fun z => At_ne z hq (by decide)) (fun z => z.2)
      have hyS : y ∈ pL S := hy'.elim (fun z => z.1) (fun z => z.1.1)
      refine ⟨?_, fun k hk => ?_⟩
      · rw [pI', pI_sI_ne hyq, pI_sI_nf (by decide)]
        exact ((f1 y hyS).2 hyq).2.1 904
      · rw [pR']
        exact ((f1 y hyS).2 hyq).2.2.1 k
    · have key : ∀ k b, k ∈ pcG → pR T k q = some b → y ≠ b := fun k b hk hb z => by
        rcases f6 k hk with w | ⟨w, w1, w2⟩
        · exact hn' k hk (by rw [z]; exact w.symm.trans hb)
        · rw [hb] at w1
          cases w1
          exact w2 (by rw [← z]; exact hy'.1)
      rw [ao y (key 905 b5 (by decide) m5) (key 906 b6 (by decide) m6) (key 907 b7 (by decide) m7) (key 908 b8 (by decide) m8)]
      exact ((f1 y hy'.1).2 (At_ne hy' hq (by decide))).2.2.2.2.1
    · rw [pR']
      exact f6 k hk
