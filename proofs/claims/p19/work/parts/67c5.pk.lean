/-! ===== pieces of a strand, as its metres tell them ===== -/
def inB (c : Nat) (m : Mt) : Bool := m.any (fun z => z.1 == c)
theorem inB_n {c : Nat} : inB c [] = false := rfl
theorem inB_a {c : Nat} {m : Mt} {z : Nat × Int32} : inB c (m ++ [z]) = (inB c m || z.1 == c) := by
  unfold inB
  rw [List.any_append, List.any_cons, List.any_nil, Bool.or_false]
theorem inB_i {c : Nat} {m : Mt} : inB c m = true ↔ ∃ z, z ∈ m ∧ z.1 = c := by
  unfold inB
  rw [List.any_eq_true]
  constructor
  · rintro ⟨z, h, e⟩
    exact ⟨z, h, by simpa using e⟩
  · rintro ⟨z, h, e⟩
    exact ⟨z, h, by simpa using e⟩
abbrev Pc : Type := Nat × Nat × Int32
/-- the pieces in the order in which they begin: cocoon, metre, place -/
def pcR (n : Nat) (pm : Mt) : List Mt → List Pc
  | [] => []
  | m :: r => (m.filter (fun z => !inB z.1 pm)).map (fun z => (z.1, n, z.2)) ++ pcR (n + 1) m r
def pcs (g : List Mt) : List Pc := pcR 0 [] g
def lastM (pm : Mt) : List Mt → Mt
  | [] => pm
  | m :: r => lastM m r
/-- how many metres from here on hold the cocoon -/
def runN (c : Nat) : List Mt → Nat
  | [] => 0
  | m :: r => if inB c m = true then runN c r + 1 else 0
def ruN (g : List Mt) (c m : Nat) : Nat := runN c (g.drop m)
theorem pcR_app : ∀ (g : List Mt) (n : Nat) (pm m : Mt), pcR n pm (g ++ [m]) = pcR n pm g ++ (m.filter (fun z => !inB z.1 (lastM pm g))).map (fun z => (z.1, n + g.length, z.2))
  | [], n, pm, m => by
    show (m.filter (fun z => !inB z.1 pm)).map (fun z => (z.1, n, z.2)) ++ [] = [] ++ _
    rw [List.append_nil, List.nil_append]
    rfl
  | a :: r, n, pm, m => by
    show (a.filter (fun z => !inB z.1 pm)).map (fun z => (z.1, n, z.2)) ++ pcR (n + 1) a (r ++ [m]) = _
    rw [pcR_app r (n + 1) a m, ← List.append_assoc]
    show _ ++ (m.filter (fun z => !inB z.1 (lastM a r))).map (fun z => (z.1, n + 1 + r.length, z.2)) = ((a.filter (fun z => !inB z.1 pm)).map (fun z => (z.1, n, z.2)) ++ pcR (n + 1) a r) ++ (m.filter (fun z => !inB z.1 (lastM a r))).map (fun z => (z.1, n + (r.length + 1), z.2))
    rw [show n + 1 + r.length = n + (r.length + 1) by omega]
theorem pcs_e {g : List Mt} : pcs (g ++ [[]]) = pcs g := by
  unfold pcs
  rw [pcR_app]
  exact List.append_nil _
theorem pcs_y {g : List Mt} {t : Mt} {z : Nat × Int32} (h : inB z.1 (lastM [] g) = true) : pcs (g ++ [t ++ [z]]) = pcs (g ++ [t]) := by
  unfold pcs
  rw [pcR_app, pcR_app, List.filter_append, List.map_append]
  have e : ([z] : Mt).filter (fun z => !inB z.1 (lastM [] g)) = [] := by
    rw [List.filter_cons_of_neg (by rw [h]; decide)]
    rfl
  rw [e, List.map_nil, List.append_nil]
theorem pcs_n {g : List Mt} {t : Mt} {z : Nat × Int32} (h : inB z.1 (lastM [] g) = false) : pcs (g ++ [t ++ [z]]) = pcs (g ++ [t]) ++ [(z.1, g.length, z.2)] := by
  unfold pcs
  rw [pcR_app, pcR_app, List.filter_append, List.map_append]
  have e : ([z] : Mt).filter (fun z => !inB z.1 (lastM [] g)) = [z] := by
    rw [List.filter_cons_of_pos (by rw [h]; decide)]
    rfl
  rw [e, ← List.append_assoc]
  show _ ++ [(z.1, 0 + g.length, z.2)] = _
  rw [Nat.zero_add]
theorem run_le {c : Nat} : ∀ L : List Mt, runN c L ≤ L.length
  | [] => Nat.le_refl _
  | m :: r => by
    have ih := run_le (c := c) r
    show (if inB c m = true then runN c r + 1 else 0) ≤ r.length + 1
    split <;> omega
theorem run_app {c : Nat} {m : Mt} : ∀ L : List Mt, runN c (L ++ [m]) = if runN c L = L.length ∧ inB c m = true then L.length + 1 else runN c L
  | [] => by
    show (if inB c m = true then 0 + 1 else 0) = if (0 : Nat) = 0 ∧ inB c m = true then 0 + 1 else 0
    by_cases h : inB c m = true
    · rw [if_pos h, if_pos ⟨rfl, h⟩]
    · rw [if_neg h, if_neg (fun z => h z.2)]
  | a :: r => by
    have ih := run_app (c := c) (m := m) r
    have hl := run_le (c := c) r
    show (if inB c a = true then runN c (r ++ [m]) + 1 else 0) = if (if inB c a = true then runN c r + 1 else 0) = r.length + 1 ∧ inB c m = true then r.length + 1 + 1 else (if inB c a = true then runN c r + 1 else 0)
    rw [ih]
    by_cases h : inB c a = true
    · rw [if_pos h, if_pos h]
      by_cases k : runN c r = r.length ∧ inB c m = true
      · rw [if_pos k, if_pos ⟨by omega, k.2⟩]
      · rw [if_neg k, if_neg (fun z => k ⟨by omega, z.2⟩)]
    · rw [if_neg h, if_neg h, if_neg (fun z => by omega)]
theorem ru_app {g : List Mt} {m : Mt} {c k : Nat} (hk : k ≤ g.length) : ruN (g ++ [m]) c k = if k + ruN g c k = g.length ∧ inB c m = true then ruN g c k + 1 else ruN g c k := by
  unfold ruN
  rw [List.drop_append_of_le_length hk, run_app, List.length_drop]
  have := run_le (c := c) (g.drop k)
  rw [List.length_drop] at this
  by_cases h : k + runN c (g.drop k) = g.length ∧ inB c m = true
  · rw [if_pos h, if_pos ⟨by omega, h.2⟩]
    omega
  · rw [if_neg h, if_neg (fun z => h ⟨by omega, z.2⟩)]
theorem ru_e {g : List Mt} {c k : Nat} (hk : k ≤ g.length) : ruN (g ++ [[]]) c k = ruN g c k := by
  rw [ru_app hk, if_neg (fun z => by have h := z.2; rw [inB_n] at h; cases h)]
theorem ru_len {g : List Mt} {c k : Nat} (hk : k ≤ g.length) : k + ruN g c k ≤ g.length := by
  have := run_le (c := c) (g.drop k)
  rw [List.length_drop] at this
  unfold ruN
  omega
theorem last_app {g : List Mt} {m pm : Mt} : lastM pm (g ++ [m]) = m := by
  induction g generalizing pm with
  | nil => rfl
  | cons a r ih => exact ih
/-- what reaches the end is in the last metre -/
theorem ru_last : ∀ {g : List Mt} {c k : Nat}, k < g.length → k + ruN g c k = g.length → inB c (lastM [] g) = true := by
  intro g c k hk h
  obtain ⟨g0, m, rfl⟩ : ∃ g0 m, g = g0 ++ [m] := by
    cases e : g.reverse with
    | nil => rw [List.reverse_eq_nil_iff.mp e] at hk; exact absurd hk (Nat.not_lt_zero _)
    | cons a r => exact ⟨r.reverse, a, by rw [← List.reverse_reverse g, e, List.reverse_cons]⟩
  rw [List.length_append] at hk h
  have hk' : k < g0.length + 1 := hk
  have h' : k + ruN (g0 ++ [m]) c k = g0.length + 1 := h
  rw [last_app]
  rw [ru_app (by omega)] at h'
  by_cases z : k + ruN g0 c k = g0.length ∧ inB c m = true
  · exact z.2
  · rw [if_neg z] at h'
    have := ru_len (g := g0) (c := c) (k := k) (by omega)
    omega
/-- the pieces of what was drawn first stay -/
theorem pcs_pre {g : List Mt} {m : Mt} {i : Nat} {p : Pc} (h : (pcs g)[i]? = some p) : (pcs (g ++ [m]))[i]? = some p := by
  unfold pcs at *
  rw [pcR_app, List.getElem?_append_left (List.getElem?_eq_some_iff.mp h).1]
  exact h
theorem pcR_lt : ∀ (g : List Mt) (n : Nat) (pm : Mt) (p : Pc), p ∈ pcR n pm g → n ≤ p.2.1 ∧ p.2.1 < n + g.length
  | [], _, _, p, h => absurd h List.not_mem_nil
  | a :: r, n, pm, p, h => by
    rcases List.mem_append.mp (show p ∈ (a.filter (fun z => !inB z.1 pm)).map (fun z => (z.1, n, z.2)) ++ pcR (n + 1) a r from h) with h | h
    · obtain ⟨z, -, e⟩ := List.mem_map.mp h
      subst e
      exact ⟨Nat.le_refl _, by show n < n + (r.length + 1); omega⟩
    · have k := pcR_lt r (n + 1) a p h
      exact ⟨by omega, by show p.2.1 < n + (r.length + 1); omega⟩
theorem pcs_lt {g : List Mt} {i : Nat} {p : Pc} (h : (pcs g)[i]? = some p) : p.2.1 < g.length := by
  have k := pcR_lt g 0 [] p (List.mem_of_getElem? h)
  omega
/-- a cocoon of the last metre has a piece that reaches the end -/
theorem run_ex : ∀ (r : List Mt) (c : Nat), inB c (lastM [] r.reverse) = true → r ≠ [] → ∃ (i m : Nat) (p : Int32), (pcs r.reverse)[i]? = some (c, m, p) ∧ m + ruN r.reverse c m = r.reverse.length
  | [], _, _, h => absurd rfl h
  | t :: r, c, hc, _ => by
    rw [List.reverse_cons] at hc ⊢
    rw [last_app] at hc
    by_cases h : inB c (lastM [] r.reverse) = true ∧ r ≠ []
    · obtain ⟨i, m, p, h1, h2⟩ := run_ex r c h.1 h.2
      have hl := pcs_lt h1
      have hl' : m < r.reverse.length := hl
      refine ⟨i, m, p, pcs_pre h1, ?_⟩
      rw [ru_app (by omega), if_pos ⟨h2, hc⟩, List.length_append]
      show m + (ruN r.reverse c m + 1) = r.reverse.length + 1
      omega
    · have hn : inB c (lastM [] r.reverse) = false := by
        cases e : inB c (lastM [] r.reverse) with
        | false => rfl
        | true =>
          have : r = [] := Classical.byContradiction (fun z => h ⟨e, z⟩)
          subst this
          cases e
      obtain ⟨z, hz, ez⟩ := inB_i.mp hc
      have hm : ((z.1, r.reverse.length, z.2) : Pc) ∈ pcs (r.reverse ++ [t]) := by
        unfold pcs
        rw [pcR_app]
        refine List.mem_append_right _ (List.mem_map.mpr ⟨z, List.mem_filter.mpr ⟨hz, by rw [ez, hn]; rfl⟩, ?_⟩)
        rw [Nat.zero_add]
      obtain ⟨i, hi⟩ := List.mem_iff_getElem?.mp hm
      refine ⟨i, r.reverse.length, z.2, by rw [← ez]; exact hi, ?_⟩
      have e0 : ruN r.reverse c r.reverse.length = 0 := by
        unfold ruN
        rw [List.drop_length]
        rfl
      rw [ru_app (Nat.le_refl _), e0, if_pos ⟨by omega, hc⟩, List.length_append]
      rfl
/-! ===== pieces: the class ===== -/
def cdS (S : PS) (c : Nat) : Int32 := pI S 0 c * 100 + pI S 1 c
def PieV (S : PS) (q : Nat) (g : List Mt) : Prop := (pI S 904 q).toInt = ((pcs g).length : Int) ∧ ∀ (i : Nat) (p : Pc), (pcs g)[i]? = some p → mA S q 905 i = cdS S p.1 ∧ (mA S q 906 i).toInt = (p.2.1 : Int) ∧ (mA S q 907 i).toInt = (ruN g p.1 p.2.1 : Int) ∧ mA S q 908 i = p.2.2
/-- where a piece reaches the last metre, or the last but one, its cocoon knows its number -/
def LpV (S : PS) (g : List Mt) : Prop := ∀ (i : Nat) (p : Pc), (pcs g)[i]? = some p → g.length ≤ p.2.1 + ruN g p.1 p.2.1 + 1 → (pI S 6 p.1).toInt = (i : Int)
def LpZ (S : PS) (g : List Mt) : Prop := ∀ (i : Nat) (p : Pc), (pcs g)[i]? = some p → g.length ≤ p.2.1 + ruN g p.1 p.2.1 → (pI S 6 p.1).toInt = (i : Int)
theorem LpV_b {S : PS} {g : List Mt} (h : LpZ S g) : LpV S (g ++ [[]]) := fun i p hi hl => by
  rw [pcs_e] at hi
  have hm := pcs_lt hi
  rw [ru_e (by omega), List.length_append] at hl
  have hl' : g.length + 1 ≤ p.2.1 + ruN g p.1 p.2.1 + 1 := hl
  exact h i p hi (by omega)
theorem LpZ_e {S : PS} {g : List Mt} (h : LpV S g) : LpZ S g := fun i p hi hl => h i p hi (by omega)
theorem PieV_b {S : PS} {q : Nat} {g : List Mt} (h : PieV S q g) : PieV S q (g ++ [[]]) := by
  refine ⟨by rw [pcs_e]; exact h.1, fun i p hi => ?_⟩
  rw [pcs_e] at hi
  have hm := pcs_lt hi
  rw [ru_e (by omega)]
  exact h.2 i p hi
theorem pcR_in : ∀ (g : List Mt) (n : Nat) (pm : Mt) (p : Pc), p ∈ pcR n pm g → ∃ t, g[p.2.1 - n]? = some t ∧ inB p.1 t = true
  | [], _, _, p, h => absurd h List.not_mem_nil
  | a :: r, n, pm, p, h => by
    rcases List.mem_append.mp (show p ∈ (a.filter (fun z => !inB z.1 pm)).map (fun z => (z.1, n, z.2)) ++ pcR (n + 1) a r from h) with h | h
    · obtain ⟨z, hz, e⟩ := List.mem_map.mp h
      subst e
      refine ⟨a, ?_, inB_i.mpr ⟨z, (List.mem_filter.mp hz).1, rfl⟩⟩
      show (a :: r)[n - n]? = some a
      rw [Nat.sub_self]
      rfl
    · have k := pcR_lt r (n + 1) a p h
      obtain ⟨t, h1, h2⟩ := pcR_in r (n + 1) a p h
      refine ⟨t, ?_, h2⟩
      rw [show p.2.1 - n = (p.2.1 - (n + 1)) + 1 by omega]
      exact h1
theorem pcs_in {g : List Mt} {i : Nat} {p : Pc} (h : (pcs g)[i]? = some p) : ∃ t, g[p.2.1]? = some t ∧ inB p.1 t = true := pcR_in g 0 [] p (List.mem_of_getElem? h)
/-- a piece of a cocoon that is not in the last metre yet -/
theorem pc_old {g : List Mt} {t : Mt} {i : Nat} {p : Pc} (h : (pcs (g ++ [t]))[i]? = some p) (ht : inB p.1 t = false) : p.2.1 < g.length ∧ ruN (g ++ [t]) p.1 p.2.1 = ruN g p.1 p.2.1 := by
  have hl := pcs_lt h
  rw [List.length_append] at hl
  have hl' : p.2.1 < g.length + 1 := hl
  have h1 : p.2.1 < g.length := by
    refine Classical.byContradiction (fun c => ?_)
    obtain ⟨u, h1, h2⟩ := pcs_in h
    rw [show p.2.1 = g.length by omega, List.getElem?_append_right (Nat.le_refl _), Nat.sub_self] at h1
    have h1' : some t = some u := h1
    cases h1'
    rw [ht] at h2
    cases h2
  refine ⟨h1, ?_⟩
  rw [ru_app (by omega), if_neg (fun z => by have k := z.2; rw [ht] at k; cases k)]
theorem run_ex' {g : List Mt} {c : Nat} (h : inB c (lastM [] g) = true) : ∃ (i m : Nat) (p : Int32), (pcs g)[i]? = some (c, m, p) ∧ m + ruN g c m = g.length := by
  have e : g.reverse.reverse = g := List.reverse_reverse g
  have hn : g.reverse ≠ [] := fun z => by
    rw [List.reverse_eq_nil_iff.mp z] at h
    cases h
  have k := run_ex g.reverse c (by rw [e]; exact h) hn
  rw [e] at k
  exact k
/-- the class asks whether the latest piece reaches up to here -/
theorem pie_br {S : PS} {q c : Nat} {g : List Mt} {t : Mt} (hV : PieV S q (g ++ [t])) (hL : LpV S (g ++ [t])) (ht : inB c t = false) (hcd : ∀ (i : Nat) (p : Pc), (pcs (g ++ [t]))[i]? = some p → cdS S p.1 = cdS S c → p.1 = c) : (0 ≤ (pI S 6 c).toInt ∧ (pI S 6 c).toInt < (pI S 904 q).toInt ∧ mA S q 905 (pI S 6 c).toInt.toNat = cdS S c ∧ (mA S q 906 (pI S 6 c).toInt.toNat).toInt + (mA S q 907 (pI S 6 c).toInt.toNat).toInt = (g.length : Int)) ↔ inB c (lastM [] g) = true := by
  have h9 := hV.1
  constructor
  · rintro ⟨h0, h1, h2, h3⟩
    obtain ⟨p, hp⟩ : ∃ p, (pcs (g ++ [t]))[(pI S 6 c).toInt.toNat]? = some p := ⟨_, List.getElem?_eq_getElem (by omega)⟩
    obtain ⟨k1, k2, k3, -⟩ := hV.2 _ _ hp
    have e := hcd _ p hp (k1.symm.trans h2)
    subst e
    obtain ⟨o1, o2⟩ := pc_old hp ht
    rw [o2] at k3
    exact ru_last o1 (by omega)
  · intro h
    obtain ⟨i, m, p, h1, h2⟩ := run_ex' h
    have h1' := pcs_pre (m := t) h1
    obtain ⟨o1, o2⟩ := pc_old h1' ht
    have o2' : ruN (g ++ [t]) c m = ruN g c m := o2
    obtain ⟨k1, k2, k3, -⟩ := hV.2 _ _ h1'
    have k2' : (mA S q 906 i).toInt = (m : Int) := k2
    have k3' : (mA S q 907 i).toInt = (ruN (g ++ [t]) c m : Int) := k3
    have el : (g ++ [t]).length = g.length + 1 := by rw [List.length_append]; rfl
    have hl : (pI S 6 c).toInt = (i : Int) := hL i (c, m, p) h1' (by show (g ++ [t]).length ≤ m + ruN (g ++ [t]) c m + 1; omega)
    have hi := (List.getElem?_eq_some_iff.mp h1').1
    rw [hl]
    refine ⟨by omega, by omega, ?_, ?_⟩
    · rw [show ((i : Int)).toNat = i by omega]
      exact k1
    · rw [show ((i : Int)).toNat = i by omega, k2', k3', o2']
      omega
/-- it goes on -/
theorem PieV_y {S T : PS} {q c : Nat} {g : List Mt} {t : Mt} {pl : Int32} (hV : PieV S q (g ++ [t])) (hL : LpV S (g ++ [t])) (ht : inB c t = false) (hb : inB c (lastM [] g) = true) (e4 : pI T 904 q = pI S 904 q) (e5 : mA T q 905 = mA S q 905) (e6 : mA T q 906 = mA S q 906) (e8 : mA T q 908 = mA S q 908) (e7 : ∀ j, (mA T q 907 j).toInt = if j = (pI S 6 c).toInt.toNat then (mA S q 907 j).toInt + 1 else (mA S q 907 j).toInt) {D : Nat → Prop} (hD : ∀ (i : Nat) (p : Pc), (pcs (g ++ [t]))[i]? = some p → D p.1) (ec : ∀ d, D d → cdS T d = cdS S d) (e66 : ∀ d, D d → pI T 6 d = pI S 6 d) : PieV T q (g ++ [t ++ [(c, pl)]]) ∧ LpV T (g ++ [t ++ [(c, pl)]]) := by
  have ep : pcs (g ++ [t ++ [(c, pl)]]) = pcs (g ++ [t]) := pcs_y (z := (c, pl)) hb
  have ru : ∀ (i : Nat) (p : Pc), (pcs (g ++ [t]))[i]? = some p → ruN (g ++ [t ++ [(c, pl)]]) p.1 p.2.1 = if i = (pI S 6 c).toInt.toNat then ruN (g ++ [t]) p.1 p.2.1 + 1 else ruN (g ++ [t]) p.1 p.2.1 := fun i p hi => by
    have hl := pcs_lt hi
    rw [List.length_append] at hl
    have hl' : p.2.1 < g.length + 1 := hl
    have el : (g ++ [t]).length = g.length + 1 := by rw [List.length_append]; rfl
    by_cases d : p.1 = c
    · subst d
      obtain ⟨o1, o2⟩ := pc_old hi ht
      have ia : inB p.1 (t ++ [(p.1, pl)]) = true := inB_i.mpr ⟨(p.1, pl), List.mem_append_right _ (List.mem_singleton.mpr rfl), rfl⟩
      rw [ru_app (by omega), o2]
      by_cases z : p.2.1 + ruN g p.1 p.2.1 = g.length
      · have k := hL i p hi (by rw [o2, el]; omega)
        rw [if_pos ⟨z, ia⟩, if_pos (by omega)]
      · rw [if_neg (fun y => z y.1), if_neg (fun y => z ?_)]
        obtain ⟨i', m, p', h1, h2⟩ := run_ex' hb
        have h1' := pcs_pre (m := t) h1
        obtain ⟨q1, q2⟩ := pc_old h1' ht
        have q2' : ruN (g ++ [t]) p.1 m = ruN g p.1 m := q2
        have k := hL i' (p.1, m, p') h1' (by show (g ++ [t]).length ≤ m + ruN (g ++ [t]) p.1 m + 1; omega)
        have k' : (pI S 6 p.1).toInt = (i' : Int) := k
        have ii : i = i' := by omega
        rw [ii, h1'] at hi
        have hi' := Option.some.inj hi
        rw [← hi']
        exact h2
    · have ia : inB p.1 (t ++ [(c, pl)]) = inB p.1 t := by
        rw [inB_a]
        have : (((c, pl) : Nat × Int32).1 == p.1) = false := by
          show (c == p.1) = false
          exact beq_eq_false_iff_ne.mpr (fun y => d y.symm)
        rw [this, Bool.or_false]
      have nx : i ≠ (pI S 6 c).toInt.toNat := fun y => by
        obtain ⟨i', m, p', h1, h2⟩ := run_ex' hb
        have h1' := pcs_pre (m := t) h1
        obtain ⟨q1, q2⟩ := pc_old h1' ht
        have q2' : ruN (g ++ [t]) c m = ruN g c m := q2
        have k : (pI S 6 c).toInt = (i' : Int) := hL i' (c, m, p') h1' (by show (g ++ [t]).length ≤ m + ruN (g ++ [t]) c m + 1; omega)
        have ii : i = i' := by omega
        rw [ii, h1'] at hi
        have hi' := Option.some.inj hi
        exact d (by rw [← hi'])
      rw [if_neg nx, ru_app (by omega), ru_app (by omega), ia]
  refine ⟨⟨by rw [e4, ep]; exact hV.1, fun i p hi => ?_⟩, fun i p hi hl => ?_⟩
  · rw [ep] at hi
    obtain ⟨k1, k2, k3, k4⟩ := hV.2 i p hi
    refine ⟨by rw [e5, ec _ (hD i p hi)]; exact k1, by rw [e6]; exact k2, ?_, by rw [e8]; exact k4⟩
    rw [e7, ru i p hi]
    by_cases z : i = (pI S 6 c).toInt.toNat
    · rw [if_pos z, if_pos z, k3]
      omega
    · rw [if_neg z, if_neg z, k3]
  · rw [ep] at hi
    rw [e66 _ (hD i p hi)]
    by_cases z : i = (pI S 6 c).toInt.toNat
    · obtain ⟨i', m, p', h1, h2⟩ := run_ex' hb
      have h1' := pcs_pre (m := t) h1
      obtain ⟨q1, q2⟩ := pc_old h1' ht
      have q2' : ruN (g ++ [t]) c m = ruN g c m := q2
      have el : (g ++ [t]).length = g.length + 1 := by rw [List.length_append]; rfl
      have k : (pI S 6 c).toInt = (i' : Int) := hL i' (c, m, p') h1' (by show (g ++ [t]).length ≤ m + ruN (g ++ [t]) c m + 1; omega)
      have ii : i = i' := by omega
      rw [ii, h1'] at hi
      have hi' := Option.some.inj hi
      rw [← hi', ii]
      exact k
    · have r := ru i p hi
      rw [if_neg z] at r
      rw [r] at hl
      refine hL i p hi ?_
      rw [List.length_append] at hl ⊢
      exact hl
/-- it begins -/
theorem PieV_n {S T : PS} {q c : Nat} {g : List Mt} {t : Mt} {pl : Int32} (hV : PieV S q (g ++ [t])) (hL : LpV S (g ++ [t])) (ht : inB c t = false) (hb : inB c (lastM [] g) = false) (e4 : (pI T 904 q).toInt = (pI S 904 q).toInt + 1) (e5 : ∀ j : Nat, (j : Int) ≤ (pI S 904 q).toInt → mA T q 905 j = if j = (pI S 904 q).toInt.toNat then cdS S c else mA S q 905 j) (e6 : ∀ j : Nat, (j : Int) ≤ (pI S 904 q).toInt → (mA T q 906 j).toInt = if j = (pI S 904 q).toInt.toNat then (g.length : Int) else (mA S q 906 j).toInt) (e7 : ∀ j : Nat, (j : Int) ≤ (pI S 904 q).toInt → (mA T q 907 j).toInt = if j = (pI S 904 q).toInt.toNat then 1 else (mA S q 907 j).toInt) (e8 : ∀ j : Nat, (j : Int) ≤ (pI S 904 q).toInt → mA T q 908 j = if j = (pI S 904 q).toInt.toNat then pl else mA S q 908 j) {D : Nat → Prop} (hD : ∀ (i : Nat) (p : Pc), (pcs (g ++ [t]))[i]? = some p → D p.1) (hDc : D c) (ec : ∀ d, D d → cdS T d = cdS S d) (e66 : ∀ d, D d → d ≠ c → pI T 6 d = pI S 6 d) (e6c : pI T 6 c = pI S 904 q) : PieV T q (g ++ [t ++ [(c, pl)]]) ∧ LpV T (g ++ [t ++ [(c, pl)]]) := by
  have ep : pcs (g ++ [t ++ [(c, pl)]]) = pcs (g ++ [t]) ++ [(c, g.length, pl)] := pcs_n (z := (c, pl)) hb
  have h9 := hV.1
  have hn : (pI S 904 q).toInt.toNat = (pcs (g ++ [t])).length := by omega
  rw [hn] at e5 e6 e7 e8
  have ia : inB c (t ++ [(c, pl)]) = true := inB_i.mpr ⟨(c, pl), List.mem_append_right _ (List.mem_singleton.mpr rfl), rfl⟩
  have el : (g ++ [t]).length = g.length + 1 := by rw [List.length_append]; rfl
  have el' : (g ++ [t ++ [(c, pl)]]).length = g.length + 1 := by rw [List.length_append]; rfl
  have rn : ruN (g ++ [t ++ [(c, pl)]]) c g.length = 1 := by
    have e0 : ruN g c g.length = 0 := by
      unfold ruN
      rw [List.drop_length]
      rfl
    rw [ru_app (Nat.le_refl _), e0, if_pos ⟨by omega, ia⟩]
  have ro : ∀ (i : Nat) (p : Pc), (pcs (g ++ [t]))[i]? = some p → ruN (g ++ [t ++ [(c, pl)]]) p.1 p.2.1 = ruN (g ++ [t]) p.1 p.2.1 := fun i p hi => by
    have hl := pcs_lt hi
    by_cases d : p.1 = c
    · subst d
      obtain ⟨o1, o2⟩ := pc_old hi ht
      rw [o2, ru_app (by omega), if_neg (fun y => by
        have k := ru_last o1 y.1
        rw [hb] at k
        cases k)]
    · have ib : inB p.1 (t ++ [(c, pl)]) = inB p.1 t := by
        rw [inB_a]
        have : (((c, pl) : Nat × Int32).1 == p.1) = false := by
          show (c == p.1) = false
          exact beq_eq_false_iff_ne.mpr (fun y => d y.symm)
        rw [this, Bool.or_false]
      rw [ru_app (by omega), ru_app (by omega), ib]
  have sp : ∀ (i : Nat) (p : Pc), (pcs (g ++ [t ++ [(c, pl)]]))[i]? = some p → (i < (pcs (g ++ [t])).length ∧ (pcs (g ++ [t]))[i]? = some p) ∨ (i = (pcs (g ++ [t])).length ∧ p = (c, g.length, pl)) := fun i p hi => by
    rw [ep] at hi
    by_cases z : i < (pcs (g ++ [t])).length
    · rw [List.getElem?_append_left z] at hi
      exact Or.inl ⟨z, hi⟩
    · have hl := (List.getElem?_eq_some_iff.mp hi).1
      rw [List.length_append] at hl
      have hl' : i < (pcs (g ++ [t])).length + 1 := hl
      have z2 : i = (pcs (g ++ [t])).length := by omega
      rw [z2, List.getElem?_append_right (Nat.le_refl _), Nat.sub_self] at hi
      have hi' : some ((c, g.length, pl) : Pc) = some p := hi
      exact Or.inr ⟨z2, (Option.some.inj hi').symm⟩
  refine ⟨⟨by rw [e4, h9, ep, List.length_append]; rfl, fun i p hi => ?_⟩, fun i p hi hl => ?_⟩
  · rcases sp i p hi with ⟨z, h⟩ | ⟨z, h⟩
    · obtain ⟨k1, k2, k3, k4⟩ := hV.2 i p h
      rw [e5 i (by omega), e6 i (by omega), e7 i (by omega), e8 i (by omega), if_neg (by omega), if_neg (by omega), if_neg (by omega), if_neg (by omega), ec _ (hD i p h), ro i p h]
      exact ⟨k1, k2, k3, k4⟩
    · rw [h, e5 i (by omega), e6 i (by omega), e7 i (by omega), e8 i (by omega), if_pos z, if_pos z, if_pos z, if_pos z, ec _ hDc]
      refine ⟨rfl, rfl, ?_, rfl⟩
      show (1 : Int) = (ruN (g ++ [t ++ [(c, pl)]]) c g.length : Int)
      rw [rn]
      rfl
  · rcases sp i p hi with ⟨z, h⟩ | ⟨z, h⟩
    · rw [el', ro i p h] at hl
      by_cases d : p.1 = c
      · exfalso
        subst d
        obtain ⟨o1, o2⟩ := pc_old h ht
        have := ru_len (g := g) (c := p.1) (k := p.2.1) (by omega)
        have k := ru_last (g := g) (c := p.1) (k := p.2.1) o1 (by omega)
        rw [hb] at k
        cases k
      · rw [e66 _ (hD i p h) d]
        exact hL i p h (by rw [el]; exact hl)
    · rw [h]
      show (pI T 6 c).toInt = (i : Int)
      rw [e6c]
      omega
/-! ===== pieces: room for one more, one end more ===== -/
def DsO (S : PS) (q : Nat) : Prop := ∀ g g', g ∈ pcG → g' ∈ pcG → g ≠ g' → pR S g q ≠ pR S g' q
theorem DsO_of {S : PS} {q a5 a6 a7 a8 : Nat} (h5 : pR S 905 q = some a5) (h6 : pR S 906 q = some a6) (h7 : pR S 907 q = some a7) (h8 : pR S 908 q = some a8) (n56 : a5 ≠ a6) (n57 : a5 ≠ a7) (n58 : a5 ≠ a8) (n67 : a6 ≠ a7) (n68 : a6 ≠ a8) (n78 : a7 ≠ a8) : DsO S q := fun g g' hg hg' hn => by
  simp only [pcG, List.mem_cons, List.not_mem_nil, or_false] at hg hg'
  have key : ∀ {a b : Nat}, a ≠ b → (some a : Option Nat) ≠ some b := fun h z => h (Option.some.inj z)
  rcases hg with e | e | e | e <;> rcases hg' with e' | e' | e' | e' <;> subst e <;> subst e'
  · exact absurd rfl hn
  · rw [h5, h6]; exact key n56
  · rw [h5, h7]; exact key n57
  · rw [h5, h8]; exact key n58
  · rw [h6, h5]; exact key (Ne.symm n56)
  · exact absurd rfl hn
  · rw [h6, h7]; exact key n67
  · rw [h6, h8]; exact key n68
  · rw [h7, h5]; exact key (Ne.symm n57)
  · rw [h7, h6]; exact key (Ne.symm n67)
  · exact absurd rfl hn
  · rw [h7, h8]; exact key n78
  · rw [h8, h5]; exact key (Ne.symm n58)
  · rw [h8, h6]; exact key (Ne.symm n68)
  · rw [h8, h7]; exact key (Ne.symm n78)
  · exact absurd rfl hn
/-- rows of pieces that were copied (L: which) -/
def MrP (S T : PS) (x : Nat) (L : List Nat) : Prop := Kq S T x ∧ (x ∈ pL T ∧ pK T x = pK S x) ∧ (∀ g, pI T g x = pI S g x) ∧ (∀ g, g ∉ L → pR T g x = pR S g x) ∧ (∀ g, g ∈ L → ∃ q c, pR T g x = some q ∧ q ∉ pL S ∧ q ∈ pL T ∧ pR S g x = some c ∧ ∀ i : Nat, (i : Int) < (pI S 904 x).toInt → pA T q i = pA S c i) ∧ ∀ g g', g ∈ L → g' ∈ L → g ≠ g' → pR T g x ≠ pR T g' x
theorem MrP_0 {S : PS} {x : Nat} (hx : x ∈ pL S) : MrP S S x [] := ⟨Kq.rf S x, ⟨hx, rfl⟩, fun _ => rfl, fun _ _ => rfl, fun _ h => absurd h List.not_mem_nil, fun _ _ h => absurd h List.not_mem_nil⟩
theorem MrP_s {S T T1 U : PS} {x q c g n0 nq k : Nat} {L : List Nat} (h : MrP S T x L) (hg : g ∉ L) (hx : At S x 29) (hc : pR T g x = some c) (hcS : At S c k) (hk : k ≠ 29) (hy : Cpy T T1 q nq) (hi : CyI T T1 c q n0 nq) (hb : ∀ i : Nat, (i : Int) < (pI S 904 x).toInt → i < n0 ∧ i < nq) (e : U = sR T1 g x (some q)) : MrP S U x (g :: L) := by
  obtain ⟨h1, ⟨hxT, hxK⟩, h2, h3, h4, h5⟩ := h
  have hqT : q ∉ pL T := hy.1
  have hqS : q ∉ pL S := h1.new hqT
  have hcx : c ≠ x := At_ne hcS hx hk
  have kx := (hy.2.1 x hxT).2 (ne_of_new hqT hxT)
  have hcT : pR S g x = some c := (h3 g hg).symm.trans hc
  have h1q : ∀ b, b ∈ pL T → pA T1 b = pA T b := fun b hb => ((hy.2.1 b hb).2 (ne_of_new hqT hb)).2.2.2.2.1
  have hgU : pR U g x = some q := by rw [e]; exact pR_sR_same
  have hoU : ∀ g', g' ≠ g → pR U g' x = pR T g' x := fun g' hn => by
    rw [e, pR_sR_nf hn]
    exact kx.2.2.1 g'
  have hoL : ∀ g', g' ∈ L → pR U g' x = pR T g' x := fun g' hm => hoU g' (fun w => hg (by rw [← w]; exact hm))
  refine ⟨(h1.sub hqS hy.2.1).sR e, ?_, fun g' => ?_, fun g' hn => ?_, fun g' hm => ?_, fun g' g'' hm hm' hn => ?_⟩
  · rw [e]
    exact ⟨(hy.2.1 x hxT).1, kx.1.trans hxK⟩
  · rw [e]
    exact (kx.2.1 g').trans (h2 g')
  · rw [hoU g' (fun z => hn (by rw [z]; exact List.mem_cons_self))]
    exact h3 g' (fun z => hn (List.mem_cons_of_mem _ z))
  · rcases List.mem_cons.mp hm with z | z
    · rw [z]
      refine ⟨q, c, hgU, hqS, ?_, hcT, fun i hi' => ?_⟩
      · rw [e]
        exact hy.2.2.1.1
      · obtain ⟨b1, b2⟩ := hb i hi'
        have e1 : pA U q i = pA T1 q i := by rw [e]; rfl
        rw [e1, hi i b1 b2, ((h1 c hcS.1).2 hcx).2.2.2.2.1]
    · obtain ⟨q', c', a1, a2, a3, a4, a5⟩ := h4 g' z
      refine ⟨q', c', (hoL g' z).trans a1, a2, ?_, a4, fun i hi' => ?_⟩
      · rw [e]
        exact (hy.2.1 q' a3).1
      · have e1 : pA U q' i = pA T1 q' i := by rw [e]; rfl
        rw [e1, h1q q' a3]
        exact a5 i hi'
  · have key : ∀ y, y ∈ L → pR U y x ≠ some q := fun y hy' z => by
      obtain ⟨q', c', a1, a2, a3, -⟩ := h4 y hy'
      rw [hoL y hy', a1] at z
      cases z
      exact hqT a3
    rcases List.mem_cons.mp hm with z | z
    · rcases List.mem_cons.mp hm' with z' | z'
      · exact absurd (z.trans z'.symm) hn
      · rw [z, hgU]
        exact fun y => key g'' z' y.symm
    · rcases List.mem_cons.mp hm' with z' | z'
      · rw [z', hgU]
        exact key g' z
      · rw [hoL g' z, hoL g'' z']
        exact h5 g' g'' z z' hn
def mrL : List Nat := [908, 907, 906, 905]
theorem mr_pc {g : Nat} (h : g ∈ pcG) : g ∈ mrL := by
  simp only [pcG, List.mem_cons, List.not_mem_nil, or_false] at h
  simp only [mrL, List.mem_cons, List.not_mem_nil, or_false]
  omega
theorem pc_mr {g : Nat} (h : g ∉ pcG) : g ∉ mrL := by
  simp only [pcG, List.mem_cons, List.not_mem_nil, or_false] at h
  simp only [mrL, List.mem_cons, List.not_mem_nil, or_false]
  omega
def MrO (S T : PS) (x : Nat) : Prop := T = S ∨ MrP S T x mrL
theorem MrO_f {S T : PS} {x : Nat} (hx : At S x 29) (h : MrO S T x) : Kq S T x ∧ (x ∈ pL T ∧ pK T x = pK S x) ∧ (∀ g, pI T g x = pI S g x) ∧ (∀ g, g ∉ pcG → pR T g x = pR S g x) ∧ (∀ g, g ∈ pcG → ∀ i : Nat, (i : Int) < (pI S 904 x).toInt → mA T x g i = mA S x g i) ∧ (∀ g, g ∈ pcG → pR T g x = pR S g x ∨ ∃ a, pR T g x = some a ∧ a ∉ pL S) ∧ (DsO S x → DsO T x) := by
  rcases h with h | h
  · subst h
    exact ⟨Kq.rf _ x, ⟨hx.1, rfl⟩, fun _ => rfl, fun _ _ => rfl, fun _ _ _ _ => rfl, fun _ _ => Or.inl rfl, fun h => h⟩
  · obtain ⟨h1, h2, h3, h4, h5, h6⟩ := h
    refine ⟨h1, h2, h3, fun g hg => h4 g (pc_mr hg), fun g hg i hi => ?_, fun g hg => ?_, fun _ g g' hg hg' => h6 g g' (mr_pc hg) (mr_pc hg')⟩
    · obtain ⟨q, c, a1, -, -, a4, a5⟩ := h5 g (mr_pc hg)
      rw [mA_eq a1, mA_eq a4]
      exact a5 i hi
    · obtain ⟨q, c, a1, a2, -, -, -⟩ := h5 g (mr_pc hg)
      exact Or.inr ⟨q, a1, a2⟩
/-- whether the latest piece of a cocoon goes on -/
def AoC (S : PS) (x c : Nat) (a : Int32) : Prop := 0 ≤ (pI S 6 c).toInt ∧ (pI S 6 c).toInt < (pI S 904 x).toInt ∧ mA S x 905 (pI S 6 c).toInt.toNat = cdS S c ∧ mA S x 906 (pI S 6 c).toInt.toNat + mA S x 907 (pI S 6 c).toInt.toNat = a
def AoN (S U : PS) (x c : Nat) (a : Int32) : Prop := ∃ T T1 T2 T3 T4 T5 b5 b6 b7 b8, MrO S T x ∧ (pR T 905 x = some b5 ∧ pR T 906 x = some b6 ∧ pR T 907 x = some b7 ∧ pR T 908 x = some b8) ∧ T1 = sA T b5 (upd (pA T b5) (pI S 904 x).toInt.toNat (cdS S c)) ∧ T2 = sA T1 b6 (upd (pA T1 b6) (pI S 904 x).toInt.toNat a) ∧ T3 = sA T2 b7 (upd (pA T2 b7) (pI S 904 x).toInt.toNat 1) ∧ T4 = sA T3 b8 (upd (pA T3 b8) (pI S 904 x).toInt.toNat (pI S 4 c)) ∧ T5 = sI T4 6 c (pI S 904 x) ∧ U = sI T5 904 x (pI S 904 x + 1)
def AoO (S U : PS) (x c : Nat) (a : Int32) : Prop := (AoC S x c a ∧ ∃ b, pR S 907 x = some b ∧ U = sA S b (upd (pA S b) (pI S 6 c).toInt.toNat (pA S b (pI S 6 c).toInt.toNat + 1))) ∨ (¬ AoC S x c a ∧ ¬ (pI S 904 x).toInt < 3600 ∧ U = S) ∨ (¬ AoC S x c a ∧ (pI S 904 x).toInt < 3600 ∧ AoN S U x c a)
theorem Ao_A {T T1 T2 T3 T4 T5 U : PS} {b5 b6 b7 b8 n c x : Nat} {v5 v6 v7 v8 v9 v10 : Int32} (n56 : b5 ≠ b6) (n57 : b5 ≠ b7) (n58 : b5 ≠ b8) (n67 : b6 ≠ b7) (n68 : b6 ≠ b8) (n78 : b7 ≠ b8) (e1 : T1 = sA T b5 (upd (pA T b5) n v5)) (e2 : T2 = sA T1 b6 (upd (pA T1 b6) n v6)) (e3 : T3 = sA T2 b7 (upd (pA T2 b7) n v7)) (e4 : T4 = sA T3 b8 (upd (pA T3 b8) n v8)) (e5 : T5 = sI T4 6 c v9) (e6 : U = sI T5 904 x v10) : pA U b5 = upd (pA T b5) n v5 ∧ pA U b6 = upd (pA T b6) n v6 ∧ pA U b7 = upd (pA T b7) n v7 ∧ pA U b8 = upd (pA T b8) n v8 ∧ ∀ a, a ≠ b5 → a ≠ b6 → a ≠ b7 → a ≠ b8 → pA U a = pA T a := by
  have u : pA U = pA T4 := by rw [e6, e5]; rfl
  have p1 : ∀ a, a ≠ b5 → pA T1 a = pA T a := fun a h => by rw [e1]; exact pA_sA_ne h
  have p2 : ∀ a, a ≠ b6 → pA T2 a = pA T1 a := fun a h => by rw [e2]; exact pA_sA_ne h
  have p3 : ∀ a, a ≠ b7 → pA T3 a = pA T2 a := fun a h => by rw [e3]; exact pA_sA_ne h
  have p4 : ∀ a, a ≠ b8 → pA T4 a = pA T3 a := fun a h => by rw [e4]; exact pA_sA_ne h
  have q1 : pA T1 b5 = upd (pA T b5) n v5 := by rw [e1]; exact if_pos rfl
  have q2 : pA T2 b6 = upd (pA T1 b6) n v6 := by rw [e2]; exact if_pos rfl
  have q3 : pA T3 b7 = upd (pA T2 b7) n v7 := by rw [e3]; exact if_pos rfl
  have q4 : pA T4 b8 = upd (pA T3 b8) n v8 := by rw [e4]; exact if_pos rfl
  rw [u]
  refine ⟨?_, ?_, ?_, ?_, fun a h5 h6 h7 h8 => ?_⟩
  · rw [p4 _ n58, p3 _ n57, p2 _ n56, q1]
  · rw [p4 _ n68, p3 _ n67, q2, p1 _ (Ne.symm n56)]
  · rw [p4 _ n78, q3, p2 _ (Ne.symm n67), p1 _ (Ne.symm n57)]
  · rw [q4, p3 _ (Ne.symm n78), p2 _ (Ne.symm n68), p1 _ (Ne.symm n58)]
  · rw [p4 a h8, p3 a h7, p2 a h6, p1 a h5]
theorem upd_if {f : Nat → Int32} {i j : Nat} {v : Int32} : upd f i v j = if j = i then v else f j := by
  by_cases h : j = i
  · rw [if_pos h, h]
    exact upd_s
  · rw [if_neg h]
    exact upd_n h
theorem i32_sum {a b c : Int32} {x y : Nat} {z : Int} (ha : a.toInt = (x : Int)) (hb : b.toInt = (y : Int)) (hx : x ≤ 100000) (hy : y ≤ 100000) (hc : c.toInt = z) : a + b = c ↔ (x : Int) + (y : Int) = z := by
  have h := z_add (v := a + b) rfl ha hb (by omega) (by omega)
  constructor
  · intro e
    rw [e, hc] at h
    exact h.symm
  · intro e
    exact Int32.toInt_inj.mp (by rw [h, hc, e])
/-- what else one end more may touch -/
def PzX (S T : PS) (q : Nat) (A : Nat → Prop) : Prop := (∀ a k, At S a k → At T a k) ∧ (∀ c, At S c 0 → ¬ A c → pI T 6 c = pI S 6 c) ∧ (∀ b, At S b 9 ∨ (At S b 29 ∧ b ≠ q) → pI T 904 b = pI S 904 b ∧ ∀ g, g ∈ pcG → pR T g b = pR S g b) ∧ (∀ a, At S a 14 → (∀ g, g ∈ pcG → pR S g q ≠ some a) → pA T a = pA S a) ∧ ∀ g, g ∈ pcG → pR T g q = pR S g q ∨ ∃ a, pR T g q = some a ∧ a ∉ pL S
theorem PzX_rf (S : PS) (q : Nat) (A : Nat → Prop) : PzX S S q A := ⟨fun _ _ h => h, fun _ _ _ => rfl, fun _ _ => ⟨rfl, fun _ _ => rfl⟩, fun _ _ _ => rfl, fun _ _ => Or.inl rfl⟩
theorem PzX_tr {S T U : PS} {q : Nat} {A B : Nat → Prop} (hB : ∀ c, B c → A c) (h : PzX S T q A) (h' : PzX T U q B) : PzX S U q A := by
  obtain ⟨a1, a2, a3, a4, a5⟩ := h
  obtain ⟨b1, b2, b3, b4, b5⟩ := h'
  refine ⟨fun a k z => b1 a k (a1 a k z), fun c hc hn => (b2 c (a1 c 0 hc) (fun z => hn (hB c z))).trans (a2 c hc hn), fun b hb => ?_, fun a ha hn => ?_, fun g hg => ?_⟩
  · obtain ⟨k1, k2⟩ := a3 b hb
    obtain ⟨l1, l2⟩ := b3 b (hb.elim (fun z => Or.inl (a1 b 9 z)) (fun z => Or.inr ⟨a1 b 29 z.1, z.2⟩))
    exact ⟨l1.trans k1, fun g hg => (l2 g hg).trans (k2 g hg)⟩
  · refine (b4 a (a1 a 14 ha) (fun g hg z => ?_)).trans (a4 a ha hn)
    rcases a5 g hg with y | ⟨y, h1, h2⟩
    · exact hn g hg (y.symm.trans z)
    · rw [h1] at z
      cases z
      exact h2 ha.1
  · rcases b5 g hg with y | ⟨y, h1, h2⟩
    · rw [y]
      exact a5 g hg
    · exact Or.inr ⟨y, h1, fun z => h2 (a1 y _ ⟨z, rfl⟩).1⟩
theorem pc_ar {S : PS} {q g b : Nat} (hG : GX S) (hq : At S q 29) (hg : g ∈ pcG) (h : pR S g q = some b) : At S b 14 := by
  obtain ⟨q1, q2, q3, q4, n, r1, r2, r3, r4, t1, t2, t3, t4, -⟩ := gGrw hG hq
  simp only [pcG, List.mem_cons, List.not_mem_nil, or_false] at hg
  rcases hg with e | e | e | e <;> subst e
  · rw [r1] at h; cases h; exact t1
  · rw [r2] at h; cases h; exact t2
  · rw [r3] at h; cases h; exact t3
  · rw [r4] at h; cases h; exact t4
theorem ne_rows {S : PS} {q g g' b b' : Nat} (hd : DsO S q) (hg : g ∈ pcG) (hg' : g' ∈ pcG) (hn : g ≠ g') (h : pR S g q = some b) (h' : pR S g' q = some b') : b ≠ b' := fun z => hd g g' hg hg' hn (by rw [h, h', z])
/-- one end more: its piece goes on, or begins -/
theorem Ao_pie {S U : PS} {q c : Nat} {a : Int32} {g : List Mt} {t : Mt} {D : Nat → Prop} (hG : GX S) (hq : At S q 29) (hDa : ∀ d, D d → At S d 0) (hDc : D c) (hd : DsO S q) (ho : AoO S U q c a) (hV : PieV S q (g ++ [t])) (hL : LpV S (g ++ [t])) (ht : inB c t = false) (hD : ∀ (i : Nat) (p : Pc), (pcs (g ++ [t]))[i]? = some p → D p.1) (hcd : ∀ d e, D d → D e → cdS S d = cdS S e → d = e) (ha : a.toInt = (g.length : Int)) (hg : g.length < 300) (hn : (pcs (g ++ [t])).length < 3600) : (PieV U q (g ++ [t ++ [(c, pI S 4 c)]]) ∧ LpV U (g ++ [t ++ [(c, pI S 4 c)]])) ∧ DsO U q ∧ PzX S U q (fun d => d = c) ∧ ∀ d, At S d 0 → cdS U d = cdS S d := by
  have hn4 := hV.1
  have hr := gGrw hG hq
  obtain ⟨q1, q2, q3, q4, nn, r1, r2, r3, r4, t1, t2, t3, t4, l1, l2, l3, l4, d0, d1, d2⟩ := hr
  have el : (g ++ [t]).length = g.length + 1 := by rw [List.length_append]; rfl
  have hsum : ∀ i p, (pcs (g ++ [t]))[i]? = some p → (mA S q 906 i + mA S q 907 i = a ↔ (mA S q 906 i).toInt + (mA S q 907 i).toInt = (g.length : Int)) := fun i p hp => by
    obtain ⟨-, k2, k3, -⟩ := hV.2 i p hp
    have h1 := pcs_lt hp
    have h2 := ru_len (g := g ++ [t]) (c := p.1) (k := p.2.1) (by omega)
    rw [k2, k3]
    exact i32_sum k2 k3 (by omega) (by omega) ha
  have hcd' : ∀ (i : Nat) (p : Pc), (pcs (g ++ [t]))[i]? = some p → cdS S p.1 = cdS S c → p.1 = c := fun i p hp e => hcd _ _ (hD i p hp) hDc e
  have hbr := pie_br hV hL ht hcd'
  have hC : AoC S q c a ↔ inB c (lastM [] g) = true := by
    rw [← hbr]
    unfold AoC
    constructor
    · rintro ⟨h0, h1, h2, h3⟩
      obtain ⟨p, hp⟩ : ∃ p, (pcs (g ++ [t]))[(pI S 6 c).toInt.toNat]? = some p := ⟨_, List.getElem?_eq_getElem (by omega)⟩
      exact ⟨h0, h1, h2, (hsum _ p hp).mp h3⟩
    · rintro ⟨h0, h1, h2, h3⟩
      obtain ⟨p, hp⟩ : ∃ p, (pcs (g ++ [t]))[(pI S 6 c).toInt.toNat]? = some p := ⟨_, List.getElem?_eq_getElem (by omega)⟩
      exact ⟨h0, h1, h2, (hsum _ p hp).mpr h3⟩
  rcases ho with ⟨hy, b, hb, e⟩ | ⟨hy, h3, e⟩ | ⟨hy, h3, T, T1, T2, T3, T4, T5, b5, b6, b7, b8, hM, ⟨m5, m6, m7, m8⟩, e1, e2, e3, e4, e5, e6⟩
  · rw [r3] at hb
    cases hb
    have hin := hC.mp hy
    have h0 := hy.1
    have h1 := hy.2.1
    have pU : ∀ y, y ≠ q3 → pA U y = pA S y := fun y hy => by rw [e]; exact pA_sA_ne hy
    have pI' : ∀ k y, pI U k y = pI S k y := fun k y => by rw [e]; rfl
    have pR' : ∀ k y, pR U k y = pR S k y := fun k y => by rw [e]; rfl
    have mo : ∀ k b', k ∈ pcG → k ≠ 907 → pR S k q = some b' → mA U q k = mA S q k := fun k b' hk hn' hb' => by
      rw [mA_eq ((pR' k q).trans hb'), mA_eq hb']
      exact pU b' (ne_rows hd hk (by decide) hn' hb' r3)
    obtain ⟨p, hp⟩ : ∃ p, (pcs (g ++ [t]))[(pI S 6 c).toInt.toNat]? = some p := ⟨_, List.getElem?_eq_getElem (by omega)⟩
    have k3 := (hV.2 _ p hp).2.2.1
    have hl := ru_len (g := g ++ [t]) (c := p.1) (k := p.2.1) (by have := pcs_lt hp; omega)
    rw [mA_eq r3] at k3
    have z1 : (pA S q3 (pI S 6 c).toInt.toNat + 1).toInt = (pA S q3 (pI S 6 c).toInt.toNat).toInt + 1 := z_add rfl rfl (by decide) (by omega) (by omega)
    refine ⟨PieV_y hV hL ht hin (pI' 904 q) (mo 905 q1 (by decide) (by decide) r1) (mo 906 q2 (by decide) (by decide) r2) (mo 908 q4 (by decide) (by decide) r4) (fun j => ?_) hD (fun d _ => by unfold cdS; rw [pI', pI']) (fun d _ => pI' 6 d), fun k k' hk hk' hn' => by rw [pR', pR']; exact hd k k' hk hk' hn', ⟨fun y k hy => by rw [e]; exact hy, fun d _ _ => pI' 6 d, fun y _ => ⟨pI' 904 y, fun k _ => pR' k y⟩, fun y _ hy => pU y (fun z => hy 907 (by decide) (by rw [z]; exact r3)), fun k _ => Or.inl (pR' k q)⟩, fun d _ => by unfold cdS; rw [pI', pI']⟩
    rw [mA_eq ((pR' 907 q).trans r3), mA_eq r3, e, show pA (sA S q3 (upd (pA S q3) (pI S 6 c).toInt.toNat (pA S q3 (pI S 6 c).toInt.toNat + 1))) q3 = upd (pA S q3) (pI S 6 c).toInt.toNat (pA S q3 (pI S 6 c).toInt.toNat + 1) from if_pos rfl, upd_if]
    by_cases z : j = (pI S 6 c).toInt.toNat
    · rw [if_pos z, if_pos z, z1, z]
    · rw [if_neg z, if_neg z]
  · exact absurd (by omega) h3
  · have hin : inB c (lastM [] g) = false := by
      cases z : inB c (lastM [] g)
      · rfl
      · exact absurd (hC.mpr z) hy
    obtain ⟨f1, f2, f3, f4, f5, f6, f7⟩ := MrO_f hq hM
    have hdT := f7 hd
    have n56 := ne_rows hdT (g := 905) (g' := 906) (by decide) (by decide) (by decide) m5 m6
    have n57 := ne_rows hdT (g := 905) (g' := 907) (by decide) (by decide) (by decide) m5 m7
    have n58 := ne_rows hdT (g := 905) (g' := 908) (by decide) (by decide) (by decide) m5 m8
    have n67 := ne_rows hdT (g := 906) (g' := 907) (by decide) (by decide) (by decide) m6 m7
    have n68 := ne_rows hdT (g := 906) (g' := 908) (by decide) (by decide) (by decide) m6 m8
    have n78 := ne_rows hdT (g := 907) (g' := 908) (by decide) (by decide) (by decide) m7 m8
    obtain ⟨a5, a6, a7, a8, ao⟩ := Ao_A n56 n57 n58 n67 n68 n78 e1 e2 e3 e4 e5 e6
    have pR' : ∀ k y, pR U k y = pR T k y := fun k y => by rw [e6, e5, e4, e3, e2, e1]; rfl
    have pI' : ∀ k y, pI U k y = pI (sI (sI T 6 c (pI S 904 q)) 904 q (pI S 904 q + 1)) k y := fun k y => by rw [e6, e5, e4, e3, e2, e1]; rfl
    have pL' : ∀ y k, At T y k → At U y k := fun y k h => by rw [e6, e5, e4, e3, e2, e1]; exact h
    have aT : ∀ y k, y ≠ q → At S y k → At T y k := fun y k hn' h => ⟨(f1 y h.1).1, ((f1 y h.1).2 hn').1.trans h.2⟩
    have hcq : ∀ d, At S d 0 → d ≠ q := fun d h => At_ne h hq (by decide)
    have iT : ∀ y k, At S y k → k ≠ 29 → ∀ f, pI T f y = pI S f y := fun y k h hk f => ((f1 y h.1).2 (At_ne h hq hk)).2.1 f
    have iU : ∀ d, At S d 0 → ∀ f, f ≠ 6 → pI U f d = pI S f d := fun d h f hf => by
      rw [pI', pI_sI_ne (hcq d h), pI_sI_nf hf]
      exact iT d 0 h (by decide) f
    have c4 : pI U 904 q = pI S 904 q + 1 := by rw [pI']; exact pI_sI_same
    have mS : ∀ k, k ∈ pcG → ∀ j : Nat, j < (pI S 904 q).toInt.toNat → mA T q k j = mA S q k j := fun k hk j hj => f5 k hk j (by omega)
    have E : ∀ k b v, k ∈ pcG → pR T k q = some b → pA U b = upd (pA T b) (pI S 904 q).toInt.toNat v → ∀ j : Nat, (j : Int) ≤ (pI S 904 q).toInt → mA U q k j = if j = (pI S 904 q).toInt.toNat then v else mA S q k j := fun k b v hk hb hu j hj => by
      rw [mA_eq ((pR' k q).trans hb), hu, upd_if]
      by_cases z : j = (pI S 904 q).toInt.toNat
      · rw [if_pos z, if_pos z]
      · rw [if_neg z, if_neg z, ← mS k hk j (by omega), mA_eq hb]
    have E5 := E 905 b5 _ (by decide) m5 a5
    have E6 := E 906 b6 _ (by decide) m6 a6
    have E7 := E 907 b7 _ (by decide) m7 a7
    have E8 := E 908 b8 _ (by decide) m8 a8
    refine ⟨PieV_n hV hL ht hin (by rw [c4]; exact z_add rfl rfl (by decide) (by omega) (by omega)) E5 (fun j hj => ?_) (fun j hj => ?_) E8 hD hDc (fun d h => by unfold cdS; rw [iU d (hDa d h) 0 (by decide), iU d (hDa d h) 1 (by decide)]) (fun d h hn' => ?_) ?_, fun k k' hk hk' hn' => by rw [pR', pR']; exact hdT k k' hk hk' hn', ⟨fun y k hy' => ?_, fun d hd' hn' => ?_, fun y hy' => ?_, fun y hy' hn' => ?_, fun k hk => ?_⟩, fun d h => by unfold cdS; rw [iU d h 0 (by decide), iU d h 1 (by decide)]⟩
    · rw [E6 j hj]
      by_cases z : j = (pI S 904 q).toInt.toNat
      · rw [if_pos z, if_pos z, ha]
      · rw [if_neg z, if_neg z]
    · rw [E7 j hj]
      by_cases z : j = (pI S 904 q).toInt.toNat
      · rw [if_pos z, if_pos z]
        decide
      · rw [if_neg z, if_neg z]
    · rw [pI', pI_sI_nf (by decide), pI_sI_ne hn']
      exact iT d 0 (hDa d h) (by decide) 6
    · rw [pI', pI_sI_nf (by decide)]
      exact pI_sI_same
    · by_cases z : y = q
      · rw [z] at hy' ⊢
        exact pL' q k ⟨f2.1, f2.2.trans hy'.2⟩
      · exact pL' y k (aT y k z hy')
    · rw [pI', pI_sI_nf (by decide), pI_sI_ne hn']
      exact iT d 0 hd' (by decide) 6
    · have hyq : y ≠ q := hy'.elim (fun z => At_ne z hq (by decide)) (fun z => z.2)
      have hyS : y ∈ pL S := hy'.elim (fun z => z.1) (fun z => z.1.1)
      refine ⟨?_, fun k hk => ?_⟩
      · rw [pI', pI_sI_ne hyq, pI_sI_nf (by decide)]
        exact ((f1 y hyS).2 hyq).2.1 904
      · rw [pR']
        exact ((f1 y hyS).2 hyq).2.2.1 k
    · have key : ∀ k b, k ∈ pcG → pR T k q = some b → y ≠ b := fun k b hk hb z => by
        rcases f6 k hk with w | ⟨w, w1, w2⟩
        · exact hn' k hk (by rw [z]; exact w.symm.trans hb)
        · rw [hb] at w1
          cases w1
          exact w2 (by rw [← z]; exact hy'.1)
      rw [ao y (key 905 b5 (by decide) m5) (key 906 b6 (by decide) m6) (key 907 b7 (by decide) m7) (key 908 b8 (by decide) m8)]
      exact ((f1 y hy'.1).2 (At_ne hy' hq (by decide))).2.2.2.2.1
    · rw [pR']
      exact f6 k hk

set_option maxHeartbeats 4000000 in
set_option maxRecDepth 100000 in
theorem k_J7_copyOf_59c91_H (l : Launch) (G : va_G) (cy : Nat → ClassId) (κ : Nat → Nat) (S : PS) (sz : Nat) (x : Nat) (a1 : Int32) (a1_z : Int) (n0 : Nat) (nq : Nat) (B : Nat) (hC : CI S) (ha_x : At S x 14) (hz_a1 : a1.toInt = a1_z) (hp_0 : pN S x = n0) (hp_1 : a1_z = (nq : Int)) (hp_2 : nq ≤ 3600) (hp_3 : n0 ≤ 3600) (hp_4 : nq ≤ B) : Cq l yJ7_copyOf_59c91 wsJ7_copyOf_59c91 ({ frames := 2, cells := 1, slots := B, locals := 96 }) G cy κ S sz [.ref x, .int (a1)] (fun (r : Option Nat) (S9 : PS) => ∃ q, r = some q ∧ Cpy S S9 q nq ∧ CyI S S9 x q n0 nq) := by
  refine ent_m (cc := cJ7_copyOf_59c91) (maxL := 3) (ret := (some (.array .int))) (by decide) rfl (Nat.le_of_ble_eq_true rfl) ?_
  intro p e s m below meth c ls X hr hlocks hin hw hl hsz
  subst hsz
  have X : Cx p c cJ7_copyOf_59c91 3 s [.ref x, .int (a1)].toArray wsJ7_copyOf_59c91 RJ7 m G cy κ (AS S s.heap.size) := X
  have hl : lv_has ls 3 [(0, .ref x), (1, .int (a1))] := hl
  have rg_a1 : (-2147483648) ≤ a1_z ∧ a1_z ≤ 2147483647 := by rw [← hz_a1]; exact ⟨z_lo _, z_hi _⟩
  refine lv_iload_n X.1 X.2.1 dJ7_copyOf_59c91_0 rfl (lv_at hl 1 rfl) ?_
  refine lv_aload_n X.1 X.2.1 dJ7_copyOf_59c91_1 rfl (lv_at hl 0 rfl) ?_
  refine r_alen X hw ha_x rfl (by decide) rfl dJ7_copyOf_59c91_2 ?_
  rw [hp_0]
  refine lv_topi (fun v_1 ev_1 => ?_)
  have z_2 : v_1.toInt = (n0 : Int) := z_len ev_1 (by omega)
  refine lv_icmp_ne (tgt := 14) X.1 X.2.1 dJ7_copyOf_59c91_3 (by decide) (fun c_3 => ?_) (fun c_3 => ?_)
  · have z_b_4 := trivial
    have k_5 : a1_z ≠ v_1.toInt := z_ne hz_a1 rfl c_3
    refine lv_iload_n X.1 X.2.1 dJ7_copyOf_59c91_14 rfl (lv_at hl 1 rfl) ?_
    refine r_newI (N := nq) X hw 14 (0 + nq) 1 rfl (X.2.2.2.1 (.arrayClass .int) (by decide +kernel)) (z_nn hz_a1 (by omega)) (z_tn (by have := hz_a1; omega) (by have := hz_a1; omega)) (by omega) (by show 0 + 1 ≤ 1; omega) (by show 0 + nq ≤ (0 + nq); omega) (by show 1 ≤ 1; omega) (by show (0 + nq) ≤ B; omega) dJ7_copyOf_59c91_15 (fun q_6 H hq_6 hw => ?_)
    obtain ⟨S_7, eS_7⟩ : ∃ T, T = sN S q_6 14 nq := ⟨_, rfl⟩
    rw [← eS_7] at hw
    have ha_8 : At S_7 q_6 14 := by rw [eS_7]; exact At_nN _ _ _ _
    have hn_9 : pN S_7 q_6 = nq := by rw [eS_7]; exact pN_sN_new
    refine lv_astore_n (lv' := [(2, .ref q_6), (0, .ref x), (1, .int (a1))]) X.1 X.2.1 dJ7_copyOf_59c91_17 rfl hl (by decide) rfl (fun ls hl => ?_)
    refine lv_aload_n X.1 X.2.1 dJ7_copyOf_59c91_18 rfl (lv_at hl 1 rfl) ?_
    refine lv_iconst (v := 0) X.1 X.2.1 dJ7_copyOf_59c91_19 (by decide) ?_
    refine lv_aload_n X.1 X.2.1 dJ7_copyOf_59c91_20 rfl (lv_at hl 0 rfl) ?_
    refine lv_iconst (v := 0) X.1 X.2.1 dJ7_copyOf_59c91_21 (by decide) ?_
    refine lv_aload_n X.1 X.2.1 dJ7_copyOf_59c91_22 rfl (lv_at hl 1 rfl) ?_
    have t_10 : At S_7 x 14 := by rw [eS_7]; exact At_sN ha_x hq_6
    have t_11 : pN S_7 x = n0 := by rw [eS_7]; exact (pN_sN_ne (ne_of_new hq_6 ha_x.1)).trans hp_0
    refine r_alen X hw t_10 rfl (by decide) rfl dJ7_copyOf_59c91_23 ?_
    rw [t_11]
    refine lv_topi (fun v_12 ev_12 => ?_)
    have z_13 : v_12.toInt = (n0 : Int) := z_len ev_12 (by omega)
    refine lv_iload_n X.1 X.2.1 dJ7_copyOf_59c91_24 rfl (lv_at hl 2 rfl) ?_
    refine va_mmin X.1 X.2.1 (X.2.2.1.trans hl.1.symm) X.2.2.2.2.1 (X.2.2.2.1 (.methodLink RJ7 304 Lib.Math.min.name) (by decide +kernel)) (X.2.2.2.1 (.static Lib.Math.min.name) (by decide +kernel)) (X.2.2.2.1 (.initialized "java/lang/Math") (by decide +kernel)) (X.2.2.2.1 (.code Lib.Math.min.name Lib.Math.min.code 2 (some .int)) (by decide +kernel)) (Nat.le_of_ble_eq_true rfl) (Nat.le_of_ble_eq_true rfl) (by show 1 ≤ 1; omega) (by show (0 + nq) ≤ B; omega) dJ7_copyOf_59c91_25 ?_
    refine lv_topi (fun v_14 ev_14 => ?_)
    have z_15 := z_min ev_14 rfl hz_a1
    refine r_copyI X hw hl t_10 rfl ha_8 rfl (X.2.2.2.1 (.methodLink RJ7 150 arraycopyName) (by decide +kernel)) (X.2.2.2.1 (.native arraycopyName) (by decide +kernel)) (X.2.2.2.1 (.static arraycopyName) (by decide +kernel)) (X.2.2.2.1 (.initialized "java/lang/System") (by decide +kernel)) (by rw [t_11]; exact z_cp ti_0 rfl (by omega) (by omega) (by omega)) (by rw [hn_9]; exact z_cp ti_0 rfl (by omega) (by omega) (by omega)) (z_nn ti_0 (by omega)) (z_nn ti_0 (by omega)) (z_nn rfl (by omega)) (Nat.le_of_ble_eq_true rfl) (Nat.le_of_ble_eq_true rfl) dJ7_copyOf_59c91_28 (fun H locs hw => ?_)
    obtain ⟨S_16, eS_16⟩ : ∃ T, T = sA S_7 q_6 (va_cpy (pA S_7 x) (pA S_7 q_6) (Int32.toNatClampNeg (0)) (Int32.toNatClampNeg (0)) (Int32.toNatClampNeg (v_14))) := ⟨_, rfl⟩
    rw [← eS_16] at hw
    have hcp := Cpy_of hC hq_6 eS_7 eS_16
    refine lv_aload_n X.1 X.2.1 dJ7_copyOf_59c91_31 rfl (lv_at hl 0 rfl) ?_
    have t_17 : At S_16 q_6 14 := tAt_sA eS_16 ha_8
    exact ret_qA (some q_6) rfl X hw hr hlocks (by show 1 ≤ 1; omega) (by show (0 + nq) ≤ B; omega) ⟨_, rfl, (by first | exact hcp | (have hz : nq = n0 := (by omega); rw [hz]; exact hcp)), (CyI_of ha_x.1 hq_6 eS_7 eS_16 (by decide) (by decide) (fun i h1 h2 => by have hzn := z_nat (x := v_14) rfl (by omega); omega))⟩ dJ7_copyOf_59c91_32
  · have z_b_18 := trivial
    have k_19 : a1_z = v_1.toInt := z_eq hz_a1 rfl c_3
    refine lv_aload_n X.1 X.2.1 dJ7_copyOf_59c91_6 rfl (lv_at hl 0 rfl) ?_
    refine r_clone X hw hl ha_x rfl (X.2.2.2.1 (.methodLink RJ7 316 ⟨"[I", "clone", "()Ljava/lang/Object;"⟩) (by decide +kernel)) (X.2.2.2.1 (.sameMethod "[I" "java/lang/Object" "clone" "()Ljava/lang/Object;") (by decide +kernel)) (X.2.2.2.1 (.native ⟨"java/lang/Object", "clone", "()Ljava/lang/Object;"⟩) (by decide +kernel)) (X.2.2.2.1 (.instanceMethod ⟨"java/lang/Object", "clone", "()Ljava/lang/Object;"⟩) (by decide +kernel)) (X.2.2.2.1 (.selects "[I" ⟨"[I", "clone", "()Ljava/lang/Object;"⟩ ⟨"java/lang/Object", "clone", "()Ljava/lang/Object;"⟩) (by decide +kernel)) (Nat.le_of_ble_eq_true rfl) (Nat.le_of_ble_eq_true rfl) (Nat.le_of_ble_eq_true rfl) (by show 0 + pN S x ≤ _; rw [hp_0]; show 0 + n0 ≤ B; omega) dJ7_copyOf_59c91_7 (fun q_20 H hq_20 hw => ?_)
    rw [hp_0]
    rw [hp_0] at hw
    obtain ⟨S_21, eS_21⟩ : ∃ T, T = sN S q_20 14 n0 := ⟨_, rfl⟩
    rw [← eS_21] at hw
    obtain ⟨S_22, eS_22⟩ : ∃ T, T = sA S_21 q_20 (pA S x) := ⟨_, rfl⟩
    rw [← eS_22] at hw
    have hcp := Cpy_of hC hq_20 eS_21 eS_22
    have ha_q_20 := hcp.2.2.1
    refine r_castI X hw ha_q_20 rfl (X.2.2.2.1 (.classLink RJ7 317 "[I") (by decide +kernel)) dJ7_copyOf_59c91_10 ?_
    exact ret_qA (some q_20) rfl X hw hr hlocks (by show 1 ≤ 1; omega) (by show (0 + n0) ≤ B; omega) ⟨_, rfl, (by first | exact hcp | (have hz : nq = n0 := (by omega); rw [hz]; exact hcp)), (fun i _ _ => by rw [eS_22]; exact congrFun (if_pos rfl) i)⟩ dJ7_copyOf_59c91_13
set_option maxHeartbeats 4000000 in
set_option maxRecDepth 100000 in
theorem k_X9_makeRoomForPiece9 (l : Launch) (G : va_G) (cy : Nat → ClassId) (κ : Nat → Nat) (S : PS) (sz hz : Nat) (x : Nat) (hG : GX S) (ha_x : At S x 29) (hp_0 : (pI S 904 x).toInt < 3600) : Gv l yX9_makeRoomForPiece wsX9_makeRoomForPiece ({ frames := 3, cells := Phc S + 4, slots := Phs S + 14400, locals := 144 }) G cy κ S sz hz 0 0 [.ref x] (fun (S9 : PS) => Og eMR S S9 ∧ ((∀ q, pR S9 905 x = some q → (pI S9 904 x).toInt < (pN S9 q : Int)) ∧ MrO S S9 x)) := by
  refine ent_g (cc := cX9_makeRoomForPiece) (maxL := 2) (ret := none) (by decide) rfl (Nat.le_of_ble_eq_true rfl) ?_
  intro p e s m below meth c ls X hr hlocks hin hw hl hsz hhz
  subst hsz hhz
  have X : Cx p c cX9_makeRoomForPiece 2 s [.ref x].toArray wsX9_makeRoomForPiece RX9 m G cy κ (AS S s.heap.size) := X
  have hl : lv_has ls 2 [(0, .ref x)] := hl
  have hK : Kq S S x := Kq.rf S _
  have hC : CI S := hG.ci
  have hNW : ∀ b ∈ pL S, b ∈ pL S ∨ pK S b = 14 := fun b h => Or.inl h
  obtain ⟨q_1, q_2, q_3, q_4, n_5, h_6, h_7, h_8, h_9, h_10, h_11, h_12, h_13, h_14, h_15, h_16, h_17, h_18⟩ := gGrwQ hG ha_x
  obtain ⟨v_19, ev_19⟩ : ∃ v, pI S 904 x = v := ⟨_, rfl⟩
  have rg_20 := gGrw_904 hG ha_x h_6 h_14; rw [ev_19] at rg_20
  have pz_21 : (pI S 904 x).toInt = v_19.toInt := by rw [ev_19]
  obtain ⟨v_22, ev_22⟩ : ∃ v, pI S 902 x = v := ⟨_, rfl⟩
  have rg_23 := gI_29_902 hG ha_x; rw [ev_22] at rg_23
  have pz_24 : (pI S 902 x).toInt = v_22.toInt := by rw [ev_22]
  obtain ⟨q_25, h_26, h_27, h_28⟩ := gQ_29_900 hG ha_x
  obtain ⟨q_29, h_30, h_31, h_32⟩ := gQ_29_901 hG ha_x
  have pz_33 : (pI S 904 x).toInt = v_19.toInt := (congrArg Int32.toInt ev_19).trans rfl
  refine lv_aload_n X.1 X.2.1 dX9_makeRoomForPiece_0 rfl (lv_at hl 0 rfl) ?_
  refine r_getI (g := 904) (x := v_19) X hw ha_x rfl 4 ev_19 (by decide) rfl inn_X9_makeRoomForPiece_9 (by decide) (X.2.2.2.1 (.fieldLink RX9 43 "SilkMill$Strand" "pieces" "I") (by decide +kernel)) rfl (gv_904 _ _) dX9_makeRoomForPiece_1 ?_
  refine lv_aload_n X.1 X.2.1 dX9_makeRoomForPiece_4 rfl (lv_at hl 0 rfl) ?_
  refine r_getR (g := 905) X hw ha_x rfl 5 h_6 (by decide) rfl inn_X9_makeRoomForPiece_9 (by decide) (X.2.2.2.1 (.fieldLink RX9 18 "SilkMill$Strand" "codes" "[I") (by decide +kernel)) rfl (gv_905 _ _) dX9_makeRoomForPiece_5 ?_
  refine r_alen X hw h_10 rfl (by decide) rfl dX9_makeRoomForPiece_8 ?_
  rw [h_14]
  refine lv_topi (fun v_34 ev_34 => ?_)
  have z_35 : v_34.toInt = (n_5 : Int) := z_len ev_34 (by omega)
  refine lv_icmp_ge (tgt := 13) X.1 X.2.1 dX9_makeRoomForPiece_9 (by decide) (fun c_36 => ?_) (fun c_36 => ?_)
  · have z_b_37 := trivial
    have k_38 : v_19.toInt ≥ v_34.toInt := z_le rfl rfl c_36
    refine lv_sipush (v := 3600) X.1 X.2.1 dX9_makeRoomForPiece_13 (by decide) ?_
    refine lv_iconst (v := 2) X.1 X.2.1 dX9_makeRoomForPiece_16 (by decide) ?_
    refine lv_aload_n X.1 X.2.1 dX9_makeRoomForPiece_17 rfl (lv_at hl 0 rfl) ?_
    refine r_getI (g := 904) (x := v_19) X hw ha_x rfl 4 ev_19 (by decide) rfl inn_X9_makeRoomForPiece_9 (by decide) (X.2.2.2.1 (.fieldLink RX9 43 "SilkMill$Strand" "pieces" "I") (by decide +kernel)) rfl (gv_904 _ _) dX9_makeRoomForPiece_18 ?_
    refine lv_imul X.1 X.2.1 dX9_makeRoomForPiece_21 ?_
    refine lv_topi (fun v_39 ev_39 => ?_)
    have z_40 : v_39.toInt = 2 * v_19.toInt := z_mul ev_39 ti_2 rfl (by omega) (by omega)
    refine lv_iconst (v := 1) X.1 X.2.1 dX9_makeRoomForPiece_22 (by decide) ?_
    refine lv_iadd X.1 X.2.1 dX9_makeRoomForPiece_23 ?_
    refine lv_topi (fun v_41 ev_41 => ?_)
    have z_42 : v_41.toInt = v_39.toInt + 1 := z_add ev_41 rfl ti_1 (by omega) (by omega)
    refine va_mmin X.1 X.2.1 (X.2.2.1.trans hl.1.symm) X.2.2.2.2.1 (X.2.2.2.1 (.methodLink RX9 67 Lib.Math.min.name) (by decide +kernel)) (X.2.2.2.1 (.static Lib.Math.min.name) (by decide +kernel)) (X.2.2.2.1 (.initialized "java/lang/Math") (by decide +kernel)) (X.2.2.2.1 (.code Lib.Math.min.name Lib.Math.min.code 2 (some .int)) (by decide +kernel)) (Nat.le_of_ble_eq_true rfl) (Nat.le_of_ble_eq_true rfl) (by show 0 ≤ Phc S + 4; omega) (by show 0 ≤ Phs S + 14400; omega) dX9_makeRoomForPiece_24 ?_
    refine lv_topi (fun v_43 ev_43 => ?_)
    have z_44 := z_min ev_43 ti_3600 rfl
    refine lv_istore_n (lv' := [(1, .int (v_43)), (0, .ref x)]) X.1 X.2.1 dX9_makeRoomForPiece_27 rfl hl (by decide) rfl (fun ls hl => ?_)
    refine lv_aload_n X.1 X.2.1 dX9_makeRoomForPiece_28 rfl (lv_at hl 1 rfl) ?_
    refine lv_aload_n X.1 X.2.1 dX9_makeRoomForPiece_29 rfl (lv_at hl 1 rfl) ?_
    refine r_getR (g := 905) X hw ha_x rfl 5 h_6 (by decide) rfl inn_X9_makeRoomForPiece_9 (by decide) (X.2.2.2.1 (.fieldLink RX9 18 "SilkMill$Strand" "codes" "[I") (by decide +kernel)) rfl (gv_905 _ _) dX9_makeRoomForPiece_30 ?_
    refine lv_iload_n X.1 X.2.1 dX9_makeRoomForPiece_33 rfl (lv_at hl 0 rfl) ?_
    refine k_q (rm := { frames := 2, cells := 1, slots := (v_43.toInt.toNat), locals := 96 }) (av := [.ref q_1, .int (v_43)]) X hw (va_runS (As := [.ref q_1, .int (v_43)]) (rest := [.ref x]) (cfix X) (k_J7_copyOf_59c91_H l G cy κ S _ q_1 (v_43) (v_43.toInt) n_5 (v_43.toInt.toNat) (v_43.toInt.toNat) hC h_10 rfl h_14 (by omega) (by omega) (by omega) (by omega)) (va_cwS 2 X.2.2.2.1 gX9_makeRoomForPiece_J7_copyOf_59c91 rfl rfl rfl (by decide +kernel) ⟨Nat.le_of_ble_eq_true rfl, Nat.le_of_ble_eq_true rfl⟩) (pre_S X hw _) rfl rfl hl.1 rfl (lv_room (Nat.le_of_ble_eq_true rfl)) dX9_makeRoomForPiece_34 ⟨(by show 0 + 1 ≤ Phc S + 4; omega), (by show 0 + (v_43.toInt.toNat) ≤ Phs S + 14400; omega)⟩) 1 (0 + (v_43.toInt.toNat)) (by show 0 + 1 ≤ 1; omega) (by show 0 + (v_43.toInt.toNat) ≤ (0 + (v_43.toInt.toNat)); omega) (fun rr_45 S_46 H locs hp hw hfr hnw => ?_)
    obtain ⟨q_47, er_49, hcp_48, hct_50⟩ := hp
    subst er_49
    refine W.eq (g2 := F0 m 37 ls (.ref q_47 :: .ref x :: [])) rfl ?_
    have hcp_48_a := hcp_48.2.2.1
    have hcp_48_n := hcp_48.2.2.2.1
    have ph_51 : Phc S_46 = Phc S := hcp_48.2.2.2.2.2.1
    have ph_52 : Phs S_46 = Phs S := hcp_48.2.2.2.2.2.2.1
    have hn0_q_47 := hK.new hcp_48.1
    have hK_53 : Kq S S_46 x := hK.sub hn0_q_47 hcp_48.2.1
    have nw_54 : ∀ b ∈ pL S_46, b ∈ pL S ∨ pK S_46 b = 14 := NewA.step hNW hcp_48
    have t_55 : At S_46 x 29 := ⟨(hcp_48.2.1 x ha_x.1).1, ((hcp_48.2.1 x ha_x.1).2 (ne_of_new hcp_48.1 ha_x.1)).1.trans ha_x.2⟩
    have t_56 : pR S_46 905 x = some q_1 := (((hcp_48.2.1 x ha_x.1).2 (ne_of_new hcp_48.1 ha_x.1)).2.2.1 905).trans h_6
    have t_57 : pN S_46 q_1 = n_5 := ((hcp_48.2.1 q_1 h_10.1).2 (ne_of_new hcp_48.1 h_10.1)).2.2.2.1.trans h_14
    clear h_14
    have nd0 := nodup_of hw
    refine r_putR X hw t_55 rfl 5 905 (some q_47) rfl tyX9 (by decide) rfl inn_X9_makeRoomForPiece_9 tyX9_ok nmX9 (by decide) (X.2.2.2.1 (.fieldLink RX9 18 "SilkMill$Strand" "codes" "[I") (by decide +kernel)) rfl (Or.inl rfl) (fun _ => rfl) rfl (fun _ => rfl) rfl (Nat.le_of_ble_eq_true rfl) (st_905 _ _) dX9_makeRoomForPiece_37 (fun H locs hw => ?_)
    obtain ⟨S_58, eS_58⟩ : ∃ T, T = sR S_46 905 x (some q_47) := ⟨_, rfl⟩
    rw [← eS_58] at hw
    have hK_59 : Kq S S_58 x := hK_53.sR eS_58
    have nw_60 : ∀ b ∈ pL S_58, b ∈ pL S ∨ pK S_58 b = 14 := fun b hb => by rw [eS_58] at hb ⊢; exact nw_54 b hb
    have hC_61 : CI S_58 := CI_sR hcp_48.2.2.2.2.1 hcp_48_a.1 eS_58
    have ph_62 : Phc S_58 + fC (n_5) = Phc S_46 + fC ((v_43.toInt.toNat)) := Ph_905 nd0 t_55 t_56 t_57 hcp_48_n eS_58
    have ph_63 : Phs S_58 + fS (n_5) = Phs S_46 + fS ((v_43.toInt.toNat)) := Ph_905 nd0 t_55 t_56 t_57 hcp_48_n eS_58
    have h_64 : pR S_58 905 x = some q_47 := tR_sRs eS_58
    refine lv_aload_n X.1 X.2.1 dX9_makeRoomForPiece_40 rfl (lv_at hl 1 rfl) ?_
    refine lv_aload_n X.1 X.2.1 dX9_makeRoomForPiece_41 rfl (lv_at hl 1 rfl) ?_
    have t_65 : At S_58 x 29 := tAt_sR eS_58 t_55
    have t_66 : pR S_46 906 x = some q_2 := (((hcp_48.2.1 x ha_x.1).2 (ne_of_new hcp_48.1 ha_x.1)).2.2.1 906).trans h_7
    have t_67 : pR S_58 906 x = some q_2 := tR_sR eS_58 rfl t_66
    refine r_getR (g := 906) X hw t_65 rfl 6 t_67 (by decide) rfl inn_X9_makeRoomForPiece_9 (by decide) (X.2.2.2.1 (.fieldLink RX9 21 "SilkMill$Strand" "firsts" "[I") (by decide +kernel)) rfl (gv_906 _ _) dX9_makeRoomForPiece_42 ?_
    refine lv_iload_n X.1 X.2.1 dX9_makeRoomForPiece_45 rfl (lv_at hl 0 rfl) ?_
    have t_68 : At S_46 q_2 14 := ⟨(hcp_48.2.1 q_2 h_11.1).1, ((hcp_48.2.1 q_2 h_11.1).2 (ne_of_new hcp_48.1 h_11.1)).1.trans h_11.2⟩
    have t_69 : At S_58 q_2 14 := tAt_sR eS_58 t_68
    have t_70 : pN S_46 q_2 = n_5 := ((hcp_48.2.1 q_2 h_11.1).2 (ne_of_new hcp_48.1 h_11.1)).2.2.2.1.trans h_15
    clear h_15
    have t_71 : pN S_58 q_2 = n_5 := tN_sR eS_58 t_70
    clear t_70
    refine k_q (rm := { frames := 2, cells := 1, slots := (v_43.toInt.toNat), locals := 96 }) (av := [.ref q_2, .int (v_43)]) X hw (va_runS (As := [.ref q_2, .int (v_43)]) (rest := [.ref x]) (cfix X) (k_J7_copyOf_59c91_H l G cy κ S_58 _ q_2 (v_43) (v_43.toInt) n_5 (v_43.toInt.toNat) (v_43.toInt.toNat) hC_61 t_69 rfl t_71 (by omega) (by omega) (by omega) (by omega)) (va_cwS 2 X.2.2.2.1 gX9_makeRoomForPiece_J7_copyOf_59c91 rfl rfl rfl (by decide +kernel) ⟨Nat.le_of_ble_eq_true rfl, Nat.le_of_ble_eq_true rfl⟩) (pre_S X hw _) rfl rfl hl.1 rfl (lv_room (Nat.le_of_ble_eq_true rfl)) dX9_makeRoomForPiece_46 ⟨(by show 1 + 1 ≤ Phc S + 4; omega), (by show (0 + (v_43.toInt.toNat)) + (v_43.toInt.toNat) ≤ Phs S + 14400; omega)⟩) 2 ((0 + (v_43.toInt.toNat)) + (v_43.toInt.toNat)) (by show 1 + 1 ≤ 2; omega) (by show (0 + (v_43.toInt.toNat)) + (v_43.toInt.toNat) ≤ ((0 + (v_43.toInt.toNat)) + (v_43.toInt.toNat)); omega) (fun rr_72 S_73 H locs hp hw hfr hnw => ?_)
    obtain ⟨q_74, er_76, hcp_75, hct_77⟩ := hp
    subst er_76
    refine W.eq (g2 := F0 m 49 ls (.ref q_74 :: .ref x :: [])) rfl ?_
    have hcp_75_a := hcp_75.2.2.1
    have hcp_75_n := hcp_75.2.2.2.1
    have ph_78 : Phc S_73 = Phc S_58 := hcp_75.2.2.2.2.2.1
    have ph_79 : Phs S_73 = Phs S_58 := hcp_75.2.2.2.2.2.2.1
    have hn0_q_74 := hK_59.new hcp_75.1
    have hK_80 : Kq S S_73 x := hK_59.sub hn0_q_74 hcp_75.2.1
    have nw_81 : ∀ b ∈ pL S_73, b ∈ pL S ∨ pK S_73 b = 14 := NewA.step nw_60 hcp_75
    have t_82 : At S_73 x 29 := ⟨(hcp_75.2.1 x t_65.1).1, ((hcp_75.2.1 x t_65.1).2 (ne_of_new hcp_75.1 t_65.1)).1.trans t_65.2⟩
    refine r_putR X hw t_82 rfl 6 906 (some q_74) rfl tyX9 (by decide) rfl inn_X9_makeRoomForPiece_9 tyX9_ok nmX9 (by decide) (X.2.2.2.1 (.fieldLink RX9 21 "SilkMill$Strand" "firsts" "[I") (by decide +kernel)) rfl (Or.inl rfl) (fun _ => rfl) rfl (fun _ => rfl) rfl (Nat.le_of_ble_eq_true rfl) (st_906 _ _) dX9_makeRoomForPiece_49 (fun H locs hw => ?_)
    obtain ⟨S_83, eS_83⟩ : ∃ T, T = sR S_73 906 x (some q_74) := ⟨_, rfl⟩
    rw [← eS_83] at hw
    have ph_84 : Phc S_83 = Phc S_73 := Ph_sR eS_83 rfl
    have ph_85 : Phs S_83 = Phs S_73 := Ph_sR eS_83 rfl
    have hK_86 : Kq S S_83 x := hK_80.sR eS_83
    have nw_87 : ∀ b ∈ pL S_83, b ∈ pL S ∨ pK S_83 b = 14 := fun b hb => by rw [eS_83] at hb ⊢; exact nw_81 b hb
    have hC_88 : CI S_83 := CI_sR hcp_75.2.2.2.2.1 hcp_75_a.1 eS_83
    have h_89 : pR S_83 906 x = some q_74 := tR_sRs eS_83
    refine lv_aload_n X.1 X.2.1 dX9_makeRoomForPiece_52 rfl (lv_at hl 1 rfl) ?_
    refine lv_aload_n X.1 X.2.1 dX9_makeRoomForPiece_53 rfl (lv_at hl 1 rfl) ?_
    have t_90 : At S_83 x 29 := tAt_sR eS_83 t_82
    have t_91 : pR S_46 907 x = some q_3 := (((hcp_48.2.1 x ha_x.1).2 (ne_of_new hcp_48.1 ha_x.1)).2.2.1 907).trans h_8
    have t_92 : pR S_58 907 x = some q_3 := tR_sR eS_58 rfl t_91
    have t_93 : pR S_73 907 x = some q_3 := (((hcp_75.2.1 x t_65.1).2 (ne_of_new hcp_75.1 t_65.1)).2.2.1 907).trans t_92
    have t_94 : pR S_83 907 x = some q_3 := tR_sR eS_83 rfl t_93
    refine r_getR (g := 907) X hw t_90 rfl 7 t_94 (by decide) rfl inn_X9_makeRoomForPiece_9 (by decide) (X.2.2.2.1 (.fieldLink RX9 24 "SilkMill$Strand" "lengths" "[I") (by decide +kernel)) rfl (gv_907 _ _) dX9_makeRoomForPiece_54 ?_
    refine lv_iload_n X.1 X.2.1 dX9_makeRoomForPiece_57 rfl (lv_at hl 0 rfl) ?_
    have t_95 : At S_46 q_3 14 := ⟨(hcp_48.2.1 q_3 h_12.1).1, ((hcp_48.2.1 q_3 h_12.1).2 (ne_of_new hcp_48.1 h_12.1)).1.trans h_12.2⟩
    have t_96 : At S_58 q_3 14 := tAt_sR eS_58 t_95
    have t_97 : At S_73 q_3 14 := ⟨(hcp_75.2.1 q_3 t_96.1).1, ((hcp_75.2.1 q_3 t_96.1).2 (ne_of_new hcp_75.1 t_96.1)).1.trans t_96.2⟩
    have t_98 : At S_83 q_3 14 := tAt_sR eS_83 t_97
    have t_99 : pN S_46 q_3 = n_5 := ((hcp_48.2.1 q_3 h_12.1).2 (ne_of_new hcp_48.1 h_12.1)).2.2.2.1.trans h_16
    clear h_16
    have t_100 : pN S_58 q_3 = n_5 := tN_sR eS_58 t_99
    clear t_99
    have t_102 : At S_46 q_3 14 := ⟨(hcp_48.2.1 q_3 h_12.1).1, ((hcp_48.2.1 q_3 h_12.1).2 (ne_of_new hcp_48.1 h_12.1)).1.trans h_12.2⟩
    have t_103 : At S_58 q_3 14 := tAt_sR eS_58 t_102
    have t_101 : pN S_73 q_3 = n_5 := ((hcp_75.2.1 q_3 t_103.1).2 (ne_of_new hcp_75.1 t_103.1)).2.2.2.1.trans t_100
    clear t_100
    have t_104 : pN S_83 q_3 = n_5 := tN_sR eS_83 t_101
    clear t_101
    refine k_q (rm := { frames := 2, cells := 1, slots := (v_43.toInt.toNat), locals := 96 }) (av := [.ref q_3, .int (v_43)]) X hw (va_runS (As := [.ref q_3, .int (v_43)]) (rest := [.ref x]) (cfix X) (k_J7_copyOf_59c91_H l G cy κ S_83 _ q_3 (v_43) (v_43.toInt) n_5 (v_43.toInt.toNat) (v_43.toInt.toNat) hC_88 t_98 rfl t_104 (by omega) (by omega) (by omega) (by omega)) (va_cwS 2 X.2.2.2.1 gX9_makeRoomForPiece_J7_copyOf_59c91 rfl rfl rfl (by decide +kernel) ⟨Nat.le_of_ble_eq_true rfl, Nat.le_of_ble_eq_true rfl⟩) (pre_S X hw _) rfl rfl hl.1 rfl (lv_room (Nat.le_of_ble_eq_true rfl)) dX9_makeRoomForPiece_58 ⟨(by show 2 + 1 ≤ Phc S + 4; omega), (by show ((0 + (v_43.toInt.toNat)) + (v_43.toInt.toNat)) + (v_43.toInt.toNat) ≤ Phs S + 14400; omega)⟩) 3 (((0 + (v_43.toInt.toNat)) + (v_43.toInt.toNat)) + (v_43.toInt.toNat)) (by show 2 + 1 ≤ 3; omega) (by show ((0 + (v_43.toInt.toNat)) + (v_43.toInt.toNat)) + (v_43.toInt.toNat) ≤ (((0 + (v_43.toInt.toNat)) + (v_43.toInt.toNat)) + (v_43.toInt.toNat)); omega) (fun rr_105 S_106 H locs hp hw hfr hnw => ?_)
    obtain ⟨q_107, er_109, hcp_108, hct_110⟩ := hp
    subst er_109
    refine W.eq (g2 := F0 m 61 ls (.ref q_107 :: .ref x :: [])) rfl ?_
    have hcp_108_a := hcp_108.2.2.1
    have hcp_108_n := hcp_108.2.2.2.1
    have ph_111 : Phc S_106 = Phc S_83 := hcp_108.2.2.2.2.2.1
    have ph_112 : Phs S_106 = Phs S_83 := hcp_108.2.2.2.2.2.2.1
    have hn0_q_107 := hK_86.new hcp_108.1
    have hK_113 : Kq S S_106 x := hK_86.sub hn0_q_107 hcp_108.2.1
    have nw_114 : ∀ b ∈ pL S_106, b ∈ pL S ∨ pK S_106 b = 14 := NewA.step nw_87 hcp_108
    have t_115 : At S_106 x 29 := ⟨(hcp_108.2.1 x t_90.1).1, ((hcp_108.2.1 x t_90.1).2 (ne_of_new hcp_108.1 t_90.1)).1.trans t_90.2⟩
    refine r_putR X hw t_115 rfl 7 907 (some q_107) rfl tyX9 (by decide) rfl inn_X9_makeRoomForPiece_9 tyX9_ok nmX9 (by decide) (X.2.2.2.1 (.fieldLink RX9 24 "SilkMill$Strand" "lengths" "[I") (by decide +kernel)) rfl (Or.inl rfl) (fun _ => rfl) rfl (fun _ => rfl) rfl (Nat.le_of_ble_eq_true rfl) (st_907 _ _) dX9_makeRoomForPiece_61 (fun H locs hw => ?_)
    obtain ⟨S_116, eS_116⟩ : ∃ T, T = sR S_106 907 x (some q_107) := ⟨_, rfl⟩
    rw [← eS_116] at hw
    have ph_117 : Phc S_116 = Phc S_106 := Ph_sR eS_116 rfl
    have ph_118 : Phs S_116 = Phs S_106 := Ph_sR eS_116 rfl
    have hK_119 : Kq S S_116 x := hK_113.sR eS_116
    have nw_120 : ∀ b ∈ pL S_116, b ∈ pL S ∨ pK S_116 b = 14 := fun b hb => by rw [eS_116] at hb ⊢; exact nw_114 b hb
    have hC_121 : CI S_116 := CI_sR hcp_108.2.2.2.2.1 hcp_108_a.1 eS_116
    have h_122 : pR S_116 907 x = some q_107 := tR_sRs eS_116
    refine lv_aload_n X.1 X.2.1 dX9_makeRoomForPiece_64 rfl (lv_at hl 1 rfl) ?_
    refine lv_aload_n X.1 X.2.1 dX9_makeRoomForPiece_65 rfl (lv_at hl 1 rfl) ?_
    have t_123 : At S_116 x 29 := tAt_sR eS_116 t_115
    have t_124 : pR S_46 908 x = some q_4 := (((hcp_48.2.1 x ha_x.1).2 (ne_of_new hcp_48.1 ha_x.1)).2.2.1 908).trans h_9
    have t_125 : pR S_58 908 x = some q_4 := tR_sR eS_58 rfl t_124
    have t_126 : pR S_73 908 x = some q_4 := (((hcp_75.2.1 x t_65.1).2 (ne_of_new hcp_75.1 t_65.1)).2.2.1 908).trans t_125
    have t_127 : pR S_83 908 x = some q_4 := tR_sR eS_83 rfl t_126
    have t_128 : pR S_106 908 x = some q_4 := (((hcp_108.2.1 x t_90.1).2 (ne_of_new hcp_108.1 t_90.1)).2.2.1 908).trans t_127
    have t_129 : pR S_116 908 x = some q_4 := tR_sR eS_116 rfl t_128
    refine r_getR (g := 908) X hw t_123 rfl 8 t_129 (by decide) rfl inn_X9_makeRoomForPiece_9 (by decide) (X.2.2.2.1 (.fieldLink RX9 27 "SilkMill$Strand" "places" "[I") (by decide +kernel)) rfl (gv_908 _ _) dX9_makeRoomForPiece_66 ?_
    refine lv_iload_n X.1 X.2.1 dX9_makeRoomForPiece_69 rfl (lv_at hl 0 rfl) ?_
    have t_130 : At S_46 q_4 14 := ⟨(hcp_48.2.1 q_4 h_13.1).1, ((hcp_48.2.1 q_4 h_13.1).2 (ne_of_new hcp_48.1 h_13.1)).1.trans h_13.2⟩
    have t_131 : At S_58 q_4 14 := tAt_sR eS_58 t_130
    have t_132 : At S_73 q_4 14 := ⟨(hcp_75.2.1 q_4 t_131.1).1, ((hcp_75.2.1 q_4 t_131.1).2 (ne_of_new hcp_75.1 t_131.1)).1.trans t_131.2⟩
    have t_133 : At S_83 q_4 14 := tAt_sR eS_83 t_132
    have t_134 : At S_106 q_4 14 := ⟨(hcp_108.2.1 q_4 t_133.1).1, ((hcp_108.2.1 q_4 t_133.1).2 (ne_of_new hcp_108.1 t_133.1)).1.trans t_133.2⟩
    have t_135 : At S_116 q_4 14 := tAt_sR eS_116 t_134
    have t_136 : pN S_46 q_4 = n_5 := ((hcp_48.2.1 q_4 h_13.1).2 (ne_of_new hcp_48.1 h_13.1)).2.2.2.1.trans h_17
    clear h_17
    have t_137 : pN S_58 q_4 = n_5 := tN_sR eS_58 t_136
    clear t_136
    have t_139 : At S_46 q_4 14 := ⟨(hcp_48.2.1 q_4 h_13.1).1, ((hcp_48.2.1 q_4 h_13.1).2 (ne_of_new hcp_48.1 h_13.1)).1.trans h_13.2⟩
    have t_140 : At S_58 q_4 14 := tAt_sR eS_58 t_139
    have t_138 : pN S_73 q_4 = n_5 := ((hcp_75.2.1 q_4 t_140.1).2 (ne_of_new hcp_75.1 t_140.1)).2.2.2.1.trans t_137
    clear t_137
    have t_141 : pN S_83 q_4 = n_5 := tN_sR eS_83 t_138
    clear t_138
    have t_143 : At S_73 q_4 14 := ⟨(hcp_75.2.1 q_4 t_140.1).1, ((hcp_75.2.1 q_4 t_140.1).2 (ne_of_new hcp_75.1 t_140.1)).1.trans t_140.2⟩
    have t_144 : At S_83 q_4 14 := tAt_sR eS_83 t_143
    have t_142 : pN S_106 q_4 = n_5 := ((hcp_108.2.1 q_4 t_144.1).2 (ne_of_new hcp_108.1 t_144.1)).2.2.2.1.trans t_141
    clear t_141
    have t_145 : pN S_116 q_4 = n_5 := tN_sR eS_116 t_142
    clear t_142
    refine k_q (rm := { frames := 2, cells := 1, slots := (v_43.toInt.toNat), locals := 96 }) (av := [.ref q_4, .int (v_43)]) X hw (va_runS (As := [.ref q_4, .int (v_43)]) (rest := [.ref x]) (cfix X) (k_J7_copyOf_59c91_H l G cy κ S_116 _ q_4 (v_43) (v_43.toInt) n_5 (v_43.toInt.toNat) (v_43.toInt.toNat) hC_121 t_135 rfl t_145 (by omega) (by omega) (by omega) (by omega)) (va_cwS 2 X.2.2.2.1 gX9_makeRoomForPiece_J7_copyOf_59c91 rfl rfl rfl (by decide +kernel) ⟨Nat.le_of_ble_eq_true rfl, Nat.le_of_ble_eq_true rfl⟩) (pre_S X hw _) rfl rfl hl.1 rfl (lv_room (Nat.le_of_ble_eq_true rfl)) dX9_makeRoomForPiece_70 ⟨(by show 3 + 1 ≤ Phc S + 4; omega), (by show (((0 + (v_43.toInt.toNat)) + (v_43.toInt.toNat)) + (v_43.toInt.toNat)) + (v_43.toInt.toNat) ≤ Phs S + 14400; omega)⟩) 4 ((((0 + (v_43.toInt.toNat)) + (v_43.toInt.toNat)) + (v_43.toInt.toNat)) + (v_43.toInt.toNat)) (by show 3 + 1 ≤ 4; omega) (by show (((0 + (v_43.toInt.toNat)) + (v_43.toInt.toNat)) + (v_43.toInt.toNat)) + (v_43.toInt.toNat) ≤ ((((0 + (v_43.toInt.toNat)) + (v_43.toInt.toNat)) + (v_43.toInt.toNat)) + (v_43.toInt.toNat)); omega) (fun rr_146 S_147 H locs hp hw hfr hnw => ?_)
    obtain ⟨q_148, er_150, hcp_149, hct_151⟩ := hp
    subst er_150
    refine W.eq (g2 := F0 m 73 ls (.ref q_148 :: .ref x :: [])) rfl ?_
    have hcp_149_a := hcp_149.2.2.1
    have hcp_149_n := hcp_149.2.2.2.1
    have ph_152 : Phc S_147 = Phc S_116 := hcp_149.2.2.2.2.2.1
    have ph_153 : Phs S_147 = Phs S_116 := hcp_149.2.2.2.2.2.2.1
    have hn0_q_148 := hK_119.new hcp_149.1
    have hK_154 : Kq S S_147 x := hK_119.sub hn0_q_148 hcp_149.2.1
    have nw_155 : ∀ b ∈ pL S_147, b ∈ pL S ∨ pK S_147 b = 14 := NewA.step nw_120 hcp_149
    have t_156 : At S_147 x 29 := ⟨(hcp_149.2.1 x t_123.1).1, ((hcp_149.2.1 x t_123.1).2 (ne_of_new hcp_149.1 t_123.1)).1.trans t_123.2⟩
    refine r_putR X hw t_156 rfl 8 908 (some q_148) rfl tyX9 (by decide) rfl inn_X9_makeRoomForPiece_9 tyX9_ok nmX9 (by decide) (X.2.2.2.1 (.fieldLink RX9 27 "SilkMill$Strand" "places" "[I") (by decide +kernel)) rfl (Or.inl rfl) (fun _ => rfl) rfl (fun _ => rfl) rfl (Nat.le_of_ble_eq_true rfl) (st_908 _ _) dX9_makeRoomForPiece_73 (fun H locs hw => ?_)
    obtain ⟨S_157, eS_157⟩ : ∃ T, T = sR S_147 908 x (some q_148) := ⟨_, rfl⟩
    rw [← eS_157] at hw
    have ph_158 : Phc S_157 = Phc S_147 := Ph_sR eS_157 rfl
    have ph_159 : Phs S_157 = Phs S_147 := Ph_sR eS_157 rfl
    have hK_160 : Kq S S_157 x := hK_154.sR eS_157
    have nw_161 : ∀ b ∈ pL S_157, b ∈ pL S ∨ pK S_157 b = 14 := fun b hb => by rw [eS_157] at hb ⊢; exact nw_155 b hb
    have hC_162 : CI S_157 := CI_sR hcp_149.2.2.2.2.1 hcp_149_a.1 eS_157
    have h_163 : pR S_157 908 x = some q_148 := tR_sRs eS_157
    have hgr := grow_ok (n := n_5) (N := (v_43.toInt.toNat)) (by omega) (by omega) (by omega)
    have t_164 : pR S_73 905 x = some q_47 := (((hcp_75.2.1 x t_65.1).2 (ne_of_new hcp_75.1 t_65.1)).2.2.1 905).trans h_64
    have t_165 : pR S_83 905 x = some q_47 := tR_sR eS_83 rfl t_164
    have t_166 : pR S_106 905 x = some q_47 := (((hcp_108.2.1 x t_90.1).2 (ne_of_new hcp_108.1 t_90.1)).2.2.1 905).trans t_165
    have t_167 : pR S_116 905 x = some q_47 := tR_sR eS_116 rfl t_166
    have t_168 : pR S_147 905 x = some q_47 := (((hcp_149.2.1 x t_123.1).2 (ne_of_new hcp_149.1 t_123.1)).2.2.1 905).trans t_167
    have t_169 : pR S_157 905 x = some q_47 := tR_sR eS_157 rfl t_168
    have t_170 : pN S_58 q_47 = (v_43.toInt.toNat) := tN_sR eS_58 hcp_48_n
    have t_172 : At S_58 q_47 14 := tAt_sR eS_58 hcp_48_a
    have t_171 : pN S_73 q_47 = (v_43.toInt.toNat) := ((hcp_75.2.1 q_47 t_172.1).2 (ne_of_new hcp_75.1 t_172.1)).2.2.2.1.trans t_170
    clear t_170
    have t_173 : pN S_83 q_47 = (v_43.toInt.toNat) := tN_sR eS_83 t_171
    clear t_171
    have t_175 : At S_73 q_47 14 := ⟨(hcp_75.2.1 q_47 t_172.1).1, ((hcp_75.2.1 q_47 t_172.1).2 (ne_of_new hcp_75.1 t_172.1)).1.trans t_172.2⟩
    have t_176 : At S_83 q_47 14 := tAt_sR eS_83 t_175
    have t_174 : pN S_106 q_47 = (v_43.toInt.toNat) := ((hcp_108.2.1 q_47 t_176.1).2 (ne_of_new hcp_108.1 t_176.1)).2.2.2.1.trans t_173
    clear t_173
    have t_177 : pN S_116 q_47 = (v_43.toInt.toNat) := tN_sR eS_116 t_174
    clear t_174
    have t_179 : At S_106 q_47 14 := ⟨(hcp_108.2.1 q_47 t_176.1).1, ((hcp_108.2.1 q_47 t_176.1).2 (ne_of_new hcp_108.1 t_176.1)).1.trans t_176.2⟩
    have t_180 : At S_116 q_47 14 := tAt_sR eS_116 t_179
    have t_178 : pN S_147 q_47 = (v_43.toInt.toNat) := ((hcp_149.2.1 q_47 t_180.1).2 (ne_of_new hcp_149.1 t_180.1)).2.2.2.1.trans t_177
    clear t_177
    have t_181 : pN S_157 q_47 = (v_43.toInt.toNat) := tN_sR eS_157 t_178
    clear t_178
    have t_182 : pI S_46 904 x = v_19 := (((hcp_48.2.1 x ha_x.1).2 (ne_of_new hcp_48.1 ha_x.1)).2.1 904).trans ev_19
    have t_183 : pI S_58 904 x = v_19 := tI_sR eS_58 t_182
    have t_184 : pI S_73 904 x = v_19 := (((hcp_75.2.1 x t_65.1).2 (ne_of_new hcp_75.1 t_65.1)).2.1 904).trans t_183
    have t_185 : pI S_83 904 x = v_19 := tI_sR eS_83 t_184
    have t_186 : pI S_106 904 x = v_19 := (((hcp_108.2.1 x t_90.1).2 (ne_of_new hcp_108.1 t_90.1)).2.1 904).trans t_185
    have t_187 : pI S_116 904 x = v_19 := tI_sR eS_116 t_186
    have t_188 : pI S_147 904 x = v_19 := (((hcp_149.2.1 x t_123.1).2 (ne_of_new hcp_149.1 t_123.1)).2.1 904).trans t_187
    have t_189 : pI S_157 904 x = v_19 := tI_sR eS_157 t_188
    have mr_190 : MrP S S_58 x [905] := MrP_s (MrP_0 ha_x.1) (by decide) ha_x h_6 h_10 (by decide) hcp_48 hct_50 (fun i hi => ⟨by omega, by omega⟩) eS_58
    have mr_191 : MrP S S_83 x [906, 905] := MrP_s mr_190 (by decide) ha_x ((mr_190.2.2.2.1 906 (by decide)).trans h_7) h_11 (by decide) hcp_75 hct_77 (fun i hi => ⟨by omega, by omega⟩) eS_83
    have mr_192 : MrP S S_116 x [907, 906, 905] := MrP_s mr_191 (by decide) ha_x ((mr_191.2.2.2.1 907 (by decide)).trans h_8) h_12 (by decide) hcp_108 hct_110 (fun i hi => ⟨by omega, by omega⟩) eS_116
    have mr_193 : MrP S S_157 x [908, 907, 906, 905] := MrP_s mr_192 (by decide) ha_x ((mr_192.2.2.2.1 908 (by decide)).trans h_9) h_13 (by decide) hcp_149 hct_151 (fun i hi => ⟨by omega, by omega⟩) eS_157
    have t_194 : At S_157 x 29 := tAt_sR eS_157 t_156
    have t_196 : At S_147 q_47 14 := ⟨(hcp_149.2.1 q_47 t_180.1).1, ((hcp_149.2.1 q_47 t_180.1).2 (ne_of_new hcp_149.1 t_180.1)).1.trans t_180.2⟩
    have t_197 : At S_157 q_47 14 := tAt_sR eS_157 t_196
    have t_198 : pR S_106 906 x = some q_74 := (((hcp_108.2.1 x t_90.1).2 (ne_of_new hcp_108.1 t_90.1)).2.2.1 906).trans h_89
    have t_199 : pR S_116 906 x = some q_74 := tR_sR eS_116 rfl t_198
    have t_200 : pR S_147 906 x = some q_74 := (((hcp_149.2.1 x t_123.1).2 (ne_of_new hcp_149.1 t_123.1)).2.2.1 906).trans t_199
    have t_201 : pR S_157 906 x = some q_74 := tR_sR eS_157 rfl t_200
    have t_202 : At S_83 q_74 14 := tAt_sR eS_83 hcp_75_a
    have t_203 : At S_106 q_74 14 := ⟨(hcp_108.2.1 q_74 t_202.1).1, ((hcp_108.2.1 q_74 t_202.1).2 (ne_of_new hcp_108.1 t_202.1)).1.trans t_202.2⟩
    have t_204 : At S_116 q_74 14 := tAt_sR eS_116 t_203
    have t_205 : At S_147 q_74 14 := ⟨(hcp_149.2.1 q_74 t_204.1).1, ((hcp_149.2.1 q_74 t_204.1).2 (ne_of_new hcp_149.1 t_204.1)).1.trans t_204.2⟩
    have t_206 : At S_157 q_74 14 := tAt_sR eS_157 t_205
    have t_207 : pN S_83 q_74 = (v_43.toInt.toNat) := tN_sR eS_83 hcp_75_n
    have t_209 : At S_83 q_74 14 := tAt_sR eS_83 hcp_75_a
    have t_208 : pN S_106 q_74 = (v_43.toInt.toNat) := ((hcp_108.2.1 q_74 t_209.1).2 (ne_of_new hcp_108.1 t_209.1)).2.2.2.1.trans t_207
    clear t_207
    have t_210 : pN S_116 q_74 = (v_43.toInt.toNat) := tN_sR eS_116 t_208
    clear t_208
    have t_212 : At S_106 q_74 14 := ⟨(hcp_108.2.1 q_74 t_209.1).1, ((hcp_108.2.1 q_74 t_209.1).2 (ne_of_new hcp_108.1 t_209.1)).1.trans t_209.2⟩
    have t_213 : At S_116 q_74 14 := tAt_sR eS_116 t_212
    have t_211 : pN S_147 q_74 = (v_43.toInt.toNat) := ((hcp_149.2.1 q_74 t_213.1).2 (ne_of_new hcp_149.1 t_213.1)).2.2.2.1.trans t_210
    clear t_210
    have t_214 : pN S_157 q_74 = (v_43.toInt.toNat) := tN_sR eS_157 t_211
    clear t_211
    have t_215 : pR S_147 907 x = some q_107 := (((hcp_149.2.1 x t_123.1).2 (ne_of_new hcp_149.1 t_123.1)).2.2.1 907).trans h_122
    have t_216 : pR S_157 907 x = some q_107 := tR_sR eS_157 rfl t_215
    have t_217 : At S_116 q_107 14 := tAt_sR eS_116 hcp_108_a
    have t_218 : At S_147 q_107 14 := ⟨(hcp_149.2.1 q_107 t_217.1).1, ((hcp_149.2.1 q_107 t_217.1).2 (ne_of_new hcp_149.1 t_217.1)).1.trans t_217.2⟩
    have t_219 : At S_157 q_107 14 := tAt_sR eS_157 t_218
    have t_220 : pN S_116 q_107 = (v_43.toInt.toNat) := tN_sR eS_116 hcp_108_n
    have t_222 : At S_116 q_107 14 := tAt_sR eS_116 hcp_108_a
    have t_221 : pN S_147 q_107 = (v_43.toInt.toNat) := ((hcp_149.2.1 q_107 t_222.1).2 (ne_of_new hcp_149.1 t_222.1)).2.2.2.1.trans t_220
    clear t_220
    have t_223 : pN S_157 q_107 = (v_43.toInt.toNat) := tN_sR eS_157 t_221
    clear t_221
    have t_224 : At S_157 q_148 14 := tAt_sR eS_157 hcp_149_a
    have t_225 : pN S_157 q_148 = (v_43.toInt.toNat) := tN_sR eS_157 hcp_149_n
    have t_226 : pI S_46 902 x = v_22 := (((hcp_48.2.1 x ha_x.1).2 (ne_of_new hcp_48.1 ha_x.1)).2.1 902).trans ev_22
    have t_227 : pI S_58 902 x = v_22 := tI_sR eS_58 t_226
    have t_228 : pI S_73 902 x = v_22 := (((hcp_75.2.1 x t_65.1).2 (ne_of_new hcp_75.1 t_65.1)).2.1 902).trans t_227
    have t_229 : pI S_83 902 x = v_22 := tI_sR eS_83 t_228
    have t_230 : pI S_106 902 x = v_22 := (((hcp_108.2.1 x t_90.1).2 (ne_of_new hcp_108.1 t_90.1)).2.1 902).trans t_229
    have t_231 : pI S_116 902 x = v_22 := tI_sR eS_116 t_230
    have t_232 : pI S_147 902 x = v_22 := (((hcp_149.2.1 x t_123.1).2 (ne_of_new hcp_149.1 t_123.1)).2.1 902).trans t_231
    have t_233 : pI S_157 902 x = v_22 := tI_sR eS_157 t_232
    have t_234 : pR S_46 900 x = some q_25 := (((hcp_48.2.1 x ha_x.1).2 (ne_of_new hcp_48.1 ha_x.1)).2.2.1 900).trans h_26
    have t_235 : pR S_58 900 x = some q_25 := tR_sR eS_58 rfl t_234
    have t_236 : pR S_73 900 x = some q_25 := (((hcp_75.2.1 x t_65.1).2 (ne_of_new hcp_75.1 t_65.1)).2.2.1 900).trans t_235
    have t_237 : pR S_83 900 x = some q_25 := tR_sR eS_83 rfl t_236
    have t_238 : pR S_106 900 x = some q_25 := (((hcp_108.2.1 x t_90.1).2 (ne_of_new hcp_108.1 t_90.1)).2.2.1 900).trans t_237
    have t_239 : pR S_116 900 x = some q_25 := tR_sR eS_116 rfl t_238
    have t_240 : pR S_147 900 x = some q_25 := (((hcp_149.2.1 x t_123.1).2 (ne_of_new hcp_149.1 t_123.1)).2.2.1 900).trans t_239
    have t_241 : pR S_157 900 x = some q_25 := tR_sR eS_157 rfl t_240
    have t_242 : pR S_46 901 x = some q_29 := (((hcp_48.2.1 x ha_x.1).2 (ne_of_new hcp_48.1 ha_x.1)).2.2.1 901).trans h_30
    have t_243 : pR S_58 901 x = some q_29 := tR_sR eS_58 rfl t_242
    have t_244 : pR S_73 901 x = some q_29 := (((hcp_75.2.1 x t_65.1).2 (ne_of_new hcp_75.1 t_65.1)).2.2.1 901).trans t_243
    have t_245 : pR S_83 901 x = some q_29 := tR_sR eS_83 rfl t_244
    have t_246 : pR S_106 901 x = some q_29 := (((hcp_108.2.1 x t_90.1).2 (ne_of_new hcp_108.1 t_90.1)).2.2.1 901).trans t_245
    have t_247 : pR S_116 901 x = some q_29 := tR_sR eS_116 rfl t_246
    have t_248 : pR S_147 901 x = some q_29 := (((hcp_149.2.1 x t_123.1).2 (ne_of_new hcp_149.1 t_123.1)).2.2.1 901).trans t_247
    have t_249 : pR S_157 901 x = some q_29 := tR_sR eS_157 rfl t_248
    have t_250 : At S_46 q_25 1614 := ⟨(hcp_48.2.1 q_25 h_27.1).1, ((hcp_48.2.1 q_25 h_27.1).2 (ne_of_new hcp_48.1 h_27.1)).1.trans h_27.2⟩
    have t_251 : At S_58 q_25 1614 := tAt_sR eS_58 t_250
    have t_252 : At S_73 q_25 1614 := ⟨(hcp_75.2.1 q_25 t_251.1).1, ((hcp_75.2.1 q_25 t_251.1).2 (ne_of_new hcp_75.1 t_251.1)).1.trans t_251.2⟩
    have t_253 : At S_83 q_25 1614 := tAt_sR eS_83 t_252
    have t_254 : At S_106 q_25 1614 := ⟨(hcp_108.2.1 q_25 t_253.1).1, ((hcp_108.2.1 q_25 t_253.1).2 (ne_of_new hcp_108.1 t_253.1)).1.trans t_253.2⟩
    have t_255 : At S_116 q_25 1614 := tAt_sR eS_116 t_254
    have t_256 : At S_147 q_25 1614 := ⟨(hcp_149.2.1 q_25 t_255.1).1, ((hcp_149.2.1 q_25 t_255.1).2 (ne_of_new hcp_149.1 t_255.1)).1.trans t_255.2⟩
    have t_257 : At S_157 q_25 1614 := tAt_sR eS_157 t_256
    have t_258 : pN S_46 q_25 = 300 := ((hcp_48.2.1 q_25 h_27.1).2 (ne_of_new hcp_48.1 h_27.1)).2.2.2.1.trans h_28
    clear h_28
    have t_259 : pN S_58 q_25 = 300 := tN_sR eS_58 t_258
    clear t_258
    have t_261 : At S_46 q_25 1614 := ⟨(hcp_48.2.1 q_25 h_27.1).1, ((hcp_48.2.1 q_25 h_27.1).2 (ne_of_new hcp_48.1 h_27.1)).1.trans h_27.2⟩
    have t_262 : At S_58 q_25 1614 := tAt_sR eS_58 t_261
    have t_260 : pN S_73 q_25 = 300 := ((hcp_75.2.1 q_25 t_262.1).2 (ne_of_new hcp_75.1 t_262.1)).2.2.2.1.trans t_259
    clear t_259
    have t_263 : pN S_83 q_25 = 300 := tN_sR eS_83 t_260
    clear t_260
    have t_265 : At S_73 q_25 1614 := ⟨(hcp_75.2.1 q_25 t_262.1).1, ((hcp_75.2.1 q_25 t_262.1).2 (ne_of_new hcp_75.1 t_262.1)).1.trans t_262.2⟩
    have t_266 : At S_83 q_25 1614 := tAt_sR eS_83 t_265
    have t_264 : pN S_106 q_25 = 300 := ((hcp_108.2.1 q_25 t_266.1).2 (ne_of_new hcp_108.1 t_266.1)).2.2.2.1.trans t_263
    clear t_263
    have t_267 : pN S_116 q_25 = 300 := tN_sR eS_116 t_264
    clear t_264
    have t_269 : At S_106 q_25 1614 := ⟨(hcp_108.2.1 q_25 t_266.1).1, ((hcp_108.2.1 q_25 t_266.1).2 (ne_of_new hcp_108.1 t_266.1)).1.trans t_266.2⟩
    have t_270 : At S_116 q_25 1614 := tAt_sR eS_116 t_269
    have t_268 : pN S_147 q_25 = 300 := ((hcp_149.2.1 q_25 t_270.1).2 (ne_of_new hcp_149.1 t_270.1)).2.2.2.1.trans t_267
    clear t_267
    have t_271 : pN S_157 q_25 = 300 := tN_sR eS_157 t_268
    clear t_268
    have t_272 : At S_46 q_29 1634 := ⟨(hcp_48.2.1 q_29 h_31.1).1, ((hcp_48.2.1 q_29 h_31.1).2 (ne_of_new hcp_48.1 h_31.1)).1.trans h_31.2⟩
    have t_273 : At S_58 q_29 1634 := tAt_sR eS_58 t_272
    have t_274 : At S_73 q_29 1634 := ⟨(hcp_75.2.1 q_29 t_273.1).1, ((hcp_75.2.1 q_29 t_273.1).2 (ne_of_new hcp_75.1 t_273.1)).1.trans t_273.2⟩
    have t_275 : At S_83 q_29 1634 := tAt_sR eS_83 t_274
    have t_276 : At S_106 q_29 1634 := ⟨(hcp_108.2.1 q_29 t_275.1).1, ((hcp_108.2.1 q_29 t_275.1).2 (ne_of_new hcp_108.1 t_275.1)).1.trans t_275.2⟩
    have t_277 : At S_116 q_29 1634 := tAt_sR eS_116 t_276
    have t_278 : At S_147 q_29 1634 := ⟨(hcp_149.2.1 q_29 t_277.1).1, ((hcp_149.2.1 q_29 t_277.1).2 (ne_of_new hcp_149.1 t_277.1)).1.trans t_277.2⟩
    have t_279 : At S_157 q_29 1634 := tAt_sR eS_157 t_278
    have t_280 : pN S_46 q_29 = 300 := ((hcp_48.2.1 q_29 h_31.1).2 (ne_of_new hcp_48.1 h_31.1)).2.2.2.1.trans h_32
    clear h_32
    have t_281 : pN S_58 q_29 = 300 := tN_sR eS_58 t_280
    clear t_280
    have t_283 : At S_46 q_29 1634 := ⟨(hcp_48.2.1 q_29 h_31.1).1, ((hcp_48.2.1 q_29 h_31.1).2 (ne_of_new hcp_48.1 h_31.1)).1.trans h_31.2⟩
    have t_284 : At S_58 q_29 1634 := tAt_sR eS_58 t_283
    have t_282 : pN S_73 q_29 = 300 := ((hcp_75.2.1 q_29 t_284.1).2 (ne_of_new hcp_75.1 t_284.1)).2.2.2.1.trans t_281
    clear t_281
    have t_285 : pN S_83 q_29 = 300 := tN_sR eS_83 t_282
    clear t_282
    have t_287 : At S_73 q_29 1634 := ⟨(hcp_75.2.1 q_29 t_284.1).1, ((hcp_75.2.1 q_29 t_284.1).2 (ne_of_new hcp_75.1 t_284.1)).1.trans t_284.2⟩
    have t_288 : At S_83 q_29 1634 := tAt_sR eS_83 t_287
    have t_286 : pN S_106 q_29 = 300 := ((hcp_108.2.1 q_29 t_288.1).2 (ne_of_new hcp_108.1 t_288.1)).2.2.2.1.trans t_285
    clear t_285
    have t_289 : pN S_116 q_29 = 300 := tN_sR eS_116 t_286
    clear t_286
    have t_291 : At S_106 q_29 1634 := ⟨(hcp_108.2.1 q_29 t_288.1).1, ((hcp_108.2.1 q_29 t_288.1).2 (ne_of_new hcp_108.1 t_288.1)).1.trans t_288.2⟩
    have t_292 : At S_116 q_29 1634 := tAt_sR eS_116 t_291
    have t_290 : pN S_147 q_29 = 300 := ((hcp_149.2.1 q_29 t_292.1).2 (ne_of_new hcp_149.1 t_292.1)).2.2.2.1.trans t_289
    clear t_289
    have t_293 : pN S_157 q_29 = 300 := tN_sR eS_157 t_290
    clear t_290
    have t_294 : pN S_46 x = (pN S x) := ((hcp_48.2.1 x ha_x.1).2 (ne_of_new hcp_48.1 ha_x.1)).2.2.2.1.trans (rfl : pN S x = pN S x)
    have t_295 : pN S_58 x = (pN S x) := tN_sR eS_58 t_294
    clear t_294
    have t_296 : pN S_73 x = (pN S x) := ((hcp_75.2.1 x t_65.1).2 (ne_of_new hcp_75.1 t_65.1)).2.2.2.1.trans t_295
    clear t_295
    have t_297 : pN S_83 x = (pN S x) := tN_sR eS_83 t_296
    clear t_296
    have t_298 : pN S_106 x = (pN S x) := ((hcp_108.2.1 x t_90.1).2 (ne_of_new hcp_108.1 t_90.1)).2.2.2.1.trans t_297
    clear t_297
    have t_299 : pN S_116 x = (pN S x) := tN_sR eS_116 t_298
    clear t_298
    have t_300 : pN S_147 x = (pN S x) := ((hcp_149.2.1 x t_123.1).2 (ne_of_new hcp_149.1 t_123.1)).2.2.2.1.trans t_299
    clear t_299
    have t_301 : pN S_157 x = (pN S x) := tN_sR eS_157 t_300
    clear t_300
    have hg9 : GX S_157 := GX_ofKq hG ha_x t_194 t_301 hK_160 (mk_29 (by rw [t_233]; omega) ⟨q_25, t_241, t_257, t_271⟩ ⟨q_29, t_249, t_279, t_293⟩ ⟨q_47, q_74, q_107, q_148, (v_43.toInt.toNat), t_169, t_201, t_216, h_163, t_197, t_206, t_219, t_224, t_181, t_214, t_223, t_225, by rw [t_189]; omega, by rw [t_189]; omega, by omega⟩) (fun q hq h0 => (nw_161 q hq).resolve_left h0)
    have t_302 : pN S_46 x = (pN S x) := ((hcp_48.2.1 x ha_x.1).2 (ne_of_new hcp_48.1 ha_x.1)).2.2.2.1.trans (rfl : pN S x = pN S x)
    have t_303 : pN S_58 x = (pN S x) := tN_sR eS_58 t_302
    clear t_302
    have t_304 : pN S_73 x = (pN S x) := ((hcp_75.2.1 x t_65.1).2 (ne_of_new hcp_75.1 t_65.1)).2.2.2.1.trans t_303
    clear t_303
    have t_305 : pN S_83 x = (pN S x) := tN_sR eS_83 t_304
    clear t_304
    have t_306 : pN S_106 x = (pN S x) := ((hcp_108.2.1 x t_90.1).2 (ne_of_new hcp_108.1 t_90.1)).2.2.2.1.trans t_305
    clear t_305
    have t_307 : pN S_116 x = (pN S x) := tN_sR eS_116 t_306
    clear t_306
    have t_308 : pN S_147 x = (pN S x) := ((hcp_149.2.1 x t_123.1).2 (ne_of_new hcp_149.1 t_123.1)).2.2.2.1.trans t_307
    clear t_307
    have t_309 : pN S_157 x = (pN S x) := tN_sR eS_157 t_308
    clear t_308
    have fx_310 : Fx S S x := Fx.rf S x
    have fx_311 : Fx S S_46 x := fx_310.kq hcp_48.2.1 ha_x.1 hcp_48.1
    have fx_312 : Fx S S_58 x := fx_311.sR eS_58 (by decide)
    have fx_313 : Fx S S_73 x := fx_312.kq hcp_75.2.1 t_65.1 hcp_75.1
    have fx_314 : Fx S S_83 x := fx_313.sR eS_83 (by decide)
    have fx_315 : Fx S S_106 x := fx_314.kq hcp_108.2.1 t_90.1 hcp_108.1
    have fx_316 : Fx S S_116 x := fx_315.sR eS_116 (by decide)
    have fx_317 : Fx S S_147 x := fx_316.kq hcp_149.2.1 t_123.1 hcp_149.1
    have fx_318 : Fx S S_157 x := fx_317.sR eS_157 (by decide)
    have hO9 : Og eMR S S_157 := ⟨hg9, Fr_ofKq ha_x t_194 t_309 hK_160 fx_318 (by decide +kernel)⟩
    exact ret_gv X hw hr hlocks (by show 4 ≤ Phc S + 4; omega) (by show ((((0 + (v_43.toInt.toNat)) + (v_43.toInt.toNat)) + (v_43.toInt.toNat)) + (v_43.toInt.toNat)) ≤ Phs S + 14400; omega) (by omega) (by omega) ⟨hO9, ⟨(fun q hq => by rw [t_169] at hq; cases hq; rw [t_189, t_181]; omega), Or.inr mr_193⟩⟩ dX9_makeRoomForPiece_76
  · have z_b_319 := trivial
    have k_320 : v_19.toInt < v_34.toInt := z_nle rfl rfl c_36
    have hO9 : Og eMR S S := Og.rf hG
    exact ret_gv X hw hr hlocks (by show 0 ≤ Phc S + 4; omega) (by show 0 ≤ Phs S + 14400; omega) (by omega) (by omega) ⟨hO9, ⟨(fun q hq => by rw [h_6] at hq; cases hq; rw [ev_19, h_14]; omega), Or.inl rfl⟩⟩ dX9_makeRoomForPiece_12
set_option maxHeartbeats 4000000 in
set_option maxRecDepth 100000 in
theorem k_X9_addMetreOf9 (l : Launch) (G : va_G) (cy : Nat → ClassId) (κ : Nat → Nat) (S : PS) (sz hz : Nat) (x : Nat) (c1 : Nat) (a1 : Int32) (a1_z : Int) (hG : GX S) (ha_x : At S x 29) (ha_c1 : At S c1 0) (hz_a1 : a1.toInt = a1_z) : Gv l yX9_addMetreOf wsX9_addMetreOf ({ frames := 4, cells := Phc S + 4, slots := Phs S + 14400, locals := 192 }) G cy κ S sz hz 0 0 [.ref x, .ref c1, .int (a1)] (fun (S9 : PS) => Og eMO S S9 ∧ (AoO S S9 x c1 a1)) := by
  refine ent_g (cc := cX9_addMetreOf) (maxL := 4) (ret := none) (by decide) rfl (Nat.le_of_ble_eq_true rfl) ?_
  intro p e s m below meth c ls X hr hlocks hin hw hl hsz hhz
  subst hsz hhz
  have X : Cx p c cX9_addMetreOf 4 s [.ref x, .ref c1, .int (a1)].toArray wsX9_addMetreOf RX9 m G cy κ (AS S s.heap.size) := X
  have hl : lv_has ls 4 [(0, .ref x), (1, .ref c1), (2, .int (a1))] := hl
  have rg_a1 : (-2147483648) ≤ a1_z ∧ a1_z ≤ 2147483647 := by rw [← hz_a1]; exact ⟨z_lo _, z_hi _⟩
  have hpc0 : 0 + Phc S ≤ Phc S + 0 := by omega
  have hps0 : 0 + Phs S ≤ Phs S + 0 := by omega
  have hO : Og eMO S S := Og.rf hG
  obtain ⟨q_1, q_2, q_3, q_4, n_5, h_6, h_7, h_8, h_9, h_10, h_11, h_12, h_13, h_14, h_15, h_16, h_17, h_18⟩ := gGrwQ hO.1 ha_x
  obtain ⟨v_19, ev_19⟩ : ∃ v, pI S 904 x = v := ⟨_, rfl⟩
  have rg_20 := gGrw_904 hO.1 ha_x h_6 h_14; rw [ev_19] at rg_20
  have pz_21 : (pI S 904 x).toInt = v_19.toInt := by rw [ev_19]
  have pz_22 : (pI S 904 x).toInt = v_19.toInt := (congrArg Int32.toInt ev_19).trans rfl
  obtain ⟨v_23, ev_23⟩ : ∃ v, pI S 6 c1 = v := ⟨_, rfl⟩
  have rg_25 := And.intro (z_lo v_23) (z_hi v_23)
  have pz_26 : (pI S 6 c1).toInt = v_23.toInt := by rw [ev_23]
  have pz_27 : (pI S 6 c1).toInt = v_23.toInt := (congrArg Int32.toInt ev_23).trans rfl
  obtain ⟨v_28, ev_28⟩ : ∃ v, pI S 0 c1 = v := ⟨_, rfl⟩
  have rg_30 := And.intro (z_lo v_28) (z_hi v_28)
  have pz_31 : (pI S 0 c1).toInt = v_28.toInt := by rw [ev_28]
  obtain ⟨v_32, ev_32⟩ : ∃ v, pI S 1 c1 = v := ⟨_, rfl⟩
  have rg_34 := And.intro (z_lo v_32) (z_hi v_32)
  have pz_35 : (pI S 1 c1).toInt = v_32.toInt := by rw [ev_32]
  obtain ⟨v_36, ev_36⟩ : ∃ v, pI S 4 c1 = v := ⟨_, rfl⟩
  have rg_38 := And.intro (z_lo v_36) (z_hi v_36)
  have pz_39 : (pI S 4 c1).toInt = v_36.toInt := by rw [ev_36]
  refine lv_aload_n X.1 X.2.1 dX9_addMetreOf_0 rfl (lv_at hl 1 rfl) ?_
  refine r_getI (g := 6) (x := v_23) X hw ha_c1 rfl 6 ev_23 (by decide) rfl inn_X9_addMetreOf_0 (by decide) (X.2.2.2.1 (.fieldLink RX9 52 "SilkMill$Cocoon" "latestPiece" "I") (by decide +kernel)) rfl (gv_6 _ _) dX9_addMetreOf_1 ?_
  refine lv_istore_n (lv' := [(3, .int (v_23)), (0, .ref x), (1, .ref c1), (2, .int (a1))]) X.1 X.2.1 dX9_addMetreOf_4 rfl hl (by decide) rfl (fun ls hl => ?_)
  refine lv_iload_n X.1 X.2.1 dX9_addMetreOf_5 rfl (lv_at hl 0 rfl) ?_
  refine lv_if_lt (tgt := 58) X.1 X.2.1 dX9_addMetreOf_6 (by decide) (fun c_40 => ?_) (fun c_40 => ?_)
  · have z_b_41 := trivial
    have k_42 : v_23.toInt < 0 := z_lt rfl ti_0 c_40
    refine lv_aload_n X.1 X.2.1 dX9_addMetreOf_58 rfl (lv_at hl 1 rfl) ?_
    refine r_getI (g := 904) (x := v_19) X hw ha_x rfl 4 ev_19 (by decide) rfl inn_X9_addMetreOf_9 (by decide) (X.2.2.2.1 (.fieldLink RX9 43 "SilkMill$Strand" "pieces" "I") (by decide +kernel)) rfl (gv_904 _ _) dX9_addMetreOf_59 ?_
    refine lv_sipush (v := 3600) X.1 X.2.1 dX9_addMetreOf_62 (by decide) ?_
    refine lv_icmp_lt (tgt := 69) X.1 X.2.1 dX9_addMetreOf_65 (by decide) (fun c_43 => ?_) (fun c_43 => ?_)
    · have z_b_44 := trivial
      have k_45 : v_19.toInt < 3600 := z_lt rfl ti_3600 c_43
      refine lv_aload_n X.1 X.2.1 dX9_addMetreOf_69 rfl (lv_at hl 1 rfl) ?_
      refine k_gv (kc := 0) (ks := 0) (rm := { frames := 3, cells := Phc S + 4, slots := Phs S + 14400, locals := 144 }) (av := [.ref x]) X hw (va_runV (As := []) (rest := []) (cfix X) (k_X9_makeRoomForPiece9 l G cy κ S _ _ x hO.1 ha_x (by omega)) (cwV 0 X.2.2.2.1 gX9_addMetreOf_X9_makeRoomForPiece rfl rfl rfl (by decide +kernel) ⟨Nat.le_of_ble_eq_true rfl, Nat.le_of_ble_eq_true rfl⟩) (pre_gV X hw _ ha_x rfl (by decide) rfl) rfl rfl hl.1 rfl (lv_room (Nat.le_of_ble_eq_true rfl)) dX9_addMetreOf_70 ⟨(by show 0 + (Phc S + 4) ≤ Phc S + 4; omega), (by show 0 + (Phs S + 14400) ≤ Phs S + 14400; omega)⟩) (fun S_47 H locs c_48 n_49 hc_48 hn_49 hp hw => ?_)
      obtain ⟨hk_50, hp⟩ := hp
      have ph_51 : c_48 + Phc S_47 ≤ Phc S + 0 := by omega
      have ph_52 : n_49 + Phs S_47 ≤ Phs S + 0 := by omega
      clear hpc0
      clear hps0
      clear hc_48
      clear hn_49
      have hO_53 : Og eMO S S_47 := hO.call hk_50 (by decide +kernel)
      obtain ⟨mr_54, mr_55⟩ := hp
      have t_76 : At S_47 x 29 := hk_50.fr.at ha_x
      obtain ⟨q_58, q_59, q_60, q_61, n_62, h_63, h_64, h_65, h_66, h_67, h_68, h_69, h_70, h_71, h_72, h_73, h_74, h_75⟩ := gGrwQ hO_53.1 t_76
      have t_77 : pI S_47 904 x = v_19 := hk_50.fr.I' (by decide +kernel) ha_x ev_19
      have mr_56 := mr_54 _ h_63; rw [t_77, h_71] at mr_56
      refine lv_aload_n X.1 X.2.1 dX9_addMetreOf_73 rfl (lv_at hl 1 rfl) ?_
      refine r_getR (g := 905) X hw t_76 rfl 5 h_63 (by decide) rfl inn_X9_addMetreOf_9 (by decide) (X.2.2.2.1 (.fieldLink RX9 18 "SilkMill$Strand" "codes" "[I") (by decide +kernel)) rfl (gv_905 _ _) dX9_addMetreOf_74 ?_
      refine lv_aload_n X.1 X.2.1 dX9_addMetreOf_77 rfl (lv_at hl 1 rfl) ?_
      refine r_getI (g := 904) (x := v_19) X hw t_76 rfl 4 t_77 (by decide) rfl inn_X9_addMetreOf_9 (by decide) (X.2.2.2.1 (.fieldLink RX9 43 "SilkMill$Strand" "pieces" "I") (by decide +kernel)) rfl (gv_904 _ _) dX9_addMetreOf_78 ?_
      refine lv_aload_n X.1 X.2.1 dX9_addMetreOf_81 rfl (lv_at hl 2 rfl) ?_
      have t_78 : At S_47 c1 0 := hk_50.fr.at ha_c1
      refine k_i (rm := { frames := 1, cells := 0, slots := 0, locals := 48 }) (av := [.ref c1]) X hw (va_runV (As := []) (rest := [.int (v_19), .ref q_58]) (cfix X) (k_X0_code3 l G cy κ S_47 _ c1 hO_53.1 t_78) (cwV 0 X.2.2.2.1 gX9_addMetreOf_X0_code rfl rfl rfl (by decide +kernel) ⟨Nat.le_of_ble_eq_true rfl, Nat.le_of_ble_eq_true rfl⟩) (pre_V X hw _ t_78 rfl (by decide) rfl) rfl rfl hl.1 rfl (lv_room (Nat.le_of_ble_eq_true rfl)) dX9_addMetreOf_82 ⟨(by show c_48 + 0 ≤ Phc S + 4; omega), (by show n_49 + 0 ≤ Phs S + 14400; omega)⟩) c_48 n_49 (by show c_48 + 0 ≤ c_48; omega) (by show n_49 + 0 ≤ n_49; omega) (fun rr_79 S_80 H locs hp hw hfr hnw => ?_)
      obtain ⟨e2, hp⟩ := hp
      subst e2
      obtain ⟨cd_81, cd_82, cd_83⟩ := hp
      have t_85 : pI S_47 0 c1 = v_28 := hk_50.fr.I' (by decide +kernel) ha_c1 ev_28
      have t_86 : pI S_47 1 c1 = v_32 := hk_50.fr.I' (by decide +kernel) ha_c1 ev_32
      have cd_84 : cdS S c1 = rr_79 := by rw [cd_83, t_85, t_86]; unfold cdS; rw [ev_28, ev_32]
      refine r_iast X hw h_67 rfl (by rw [h_71]; exact z_ix rfl (by omega) (by omega)) dX9_addMetreOf_85 (fun H locs hw => ?_)
      obtain ⟨S_87, eS_87⟩ : ∃ T, T = sA S_47 q_58 (upd (pA S_47 q_58) (Int32.toNatClampNeg (v_19)) (rr_79)) := ⟨_, rfl⟩
      rw [← eS_87] at hw
      have ph_88 : c_48 + Phc S_87 ≤ Phc S + 0 := by rw [show Phc S_87 = Phc S_47 from Ph_sA eS_87]; exact ph_51
      have ph_89 : n_49 + Phs S_87 ≤ Phs S + 0 := by rw [show Phs S_87 = Phs S_47 from Ph_sA eS_87]; exact ph_52
      clear ph_51
      clear ph_52
      have hO_90 : Og eMO S S_87 := hO_53.sA eS_87 h_67 (by decide +kernel) (uA_14 hO_53.1 h_67)
      have h_91 : pA S_87 q_58 (Int32.toNatClampNeg (v_19)) = rr_79 := tA_sAs eS_87
      refine lv_aload_n X.1 X.2.1 dX9_addMetreOf_86 rfl (lv_at hl 1 rfl) ?_
      have t_92 : At S_87 x 29 := tAt_sA eS_87 t_76
      have t_93 : pR S_87 906 x = some q_59 := tR_sA eS_87 h_64
      refine r_getR (g := 906) X hw t_92 rfl 6 t_93 (by decide) rfl inn_X9_addMetreOf_9 (by decide) (X.2.2.2.1 (.fieldLink RX9 21 "SilkMill$Strand" "firsts" "[I") (by decide +kernel)) rfl (gv_906 _ _) dX9_addMetreOf_87 ?_
      refine lv_aload_n X.1 X.2.1 dX9_addMetreOf_90 rfl (lv_at hl 1 rfl) ?_
      have t_94 : pI S_87 904 x = v_19 := tI_sA eS_87 t_77
      refine r_getI (g := 904) (x := v_19) X hw t_92 rfl 4 t_94 (by decide) rfl inn_X9_addMetreOf_9 (by decide) (X.2.2.2.1 (.fieldLink RX9 43 "SilkMill$Strand" "pieces" "I") (by decide +kernel)) rfl (gv_904 _ _) dX9_addMetreOf_91 ?_
      refine lv_iload_n X.1 X.2.1 dX9_addMetreOf_94 rfl (lv_at hl 3 rfl) ?_
      have t_95 : At S_87 q_59 14 := tAt_sA eS_87 h_68
      have t_96 : pN S_87 q_59 = n_62 := tN_sA eS_87 h_72
      clear h_72
      refine r_iast X hw t_95 rfl (by rw [t_96]; exact z_ix rfl (by omega) (by omega)) dX9_addMetreOf_95 (fun H locs hw => ?_)
      obtain ⟨S_97, eS_97⟩ : ∃ T, T = sA S_87 q_59 (upd (pA S_87 q_59) (Int32.toNatClampNeg (v_19)) (a1)) := ⟨_, rfl⟩
      rw [← eS_97] at hw
      have ph_98 : c_48 + Phc S_97 ≤ Phc S + 0 := by rw [show Phc S_97 = Phc S_87 from Ph_sA eS_97]; exact ph_88
      have ph_99 : n_49 + Phs S_97 ≤ Phs S + 0 := by rw [show Phs S_97 = Phs S_87 from Ph_sA eS_97]; exact ph_89
      clear ph_88
      clear ph_89
      have hO_100 : Og eMO S S_97 := hO_90.sA eS_97 t_95 (by decide +kernel) (uA_14 hO_90.1 t_95)
      have h_101 : pA S_97 q_59 (Int32.toNatClampNeg (v_19)) = a1 := tA_sAs eS_97
      refine lv_aload_n X.1 X.2.1 dX9_addMetreOf_96 rfl (lv_at hl 1 rfl) ?_
      have t_102 : At S_97 x 29 := tAt_sA eS_97 t_92
      have t_103 : pR S_87 907 x = some q_60 := tR_sA eS_87 h_65
      have t_104 : pR S_97 907 x = some q_60 := tR_sA eS_97 t_103
      refine r_getR (g := 907) X hw t_102 rfl 7 t_104 (by decide) rfl inn_X9_addMetreOf_9 (by decide) (X.2.2.2.1 (.fieldLink RX9 24 "SilkMill$Strand" "lengths" "[I") (by decide +kernel)) rfl (gv_907 _ _) dX9_addMetreOf_97 ?_
      refine lv_aload_n X.1 X.2.1 dX9_addMetreOf_100 rfl (lv_at hl 1 rfl) ?_
      have t_105 : pI S_97 904 x = v_19 := tI_sA eS_97 t_94
      refine r_getI (g := 904) (x := v_19) X hw t_102 rfl 4 t_105 (by decide) rfl inn_X9_addMetreOf_9 (by decide) (X.2.2.2.1 (.fieldLink RX9 43 "SilkMill$Strand" "pieces" "I") (by decide +kernel)) rfl (gv_904 _ _) dX9_addMetreOf_101 ?_
      refine lv_iconst (v := 1) X.1 X.2.1 dX9_addMetreOf_104 (by decide) ?_
      have t_106 : At S_87 q_60 14 := tAt_sA eS_87 h_69
      have t_107 : At S_97 q_60 14 := tAt_sA eS_97 t_106
      have t_108 : pN S_87 q_60 = n_62 := tN_sA eS_87 h_73
      clear h_73
      have t_109 : pN S_97 q_60 = n_62 := tN_sA eS_97 t_108
      clear t_108
      refine r_iast X hw t_107 rfl (by rw [t_109]; exact z_ix rfl (by omega) (by omega)) dX9_addMetreOf_105 (fun H locs hw => ?_)
      obtain ⟨S_110, eS_110⟩ : ∃ T, T = sA S_97 q_60 (upd (pA S_97 q_60) (Int32.toNatClampNeg (v_19)) (1)) := ⟨_, rfl⟩
      rw [← eS_110] at hw
      have ph_111 : c_48 + Phc S_110 ≤ Phc S + 0 := by rw [show Phc S_110 = Phc S_97 from Ph_sA eS_110]; exact ph_98
      have ph_112 : n_49 + Phs S_110 ≤ Phs S + 0 := by rw [show Phs S_110 = Phs S_97 from Ph_sA eS_110]; exact ph_99
      clear ph_98
      clear ph_99
      have hO_113 : Og eMO S S_110 := hO_100.sA eS_110 t_107 (by decide +kernel) (uA_14 hO_100.1 t_107)
      have h_114 : pA S_110 q_60 (Int32.toNatClampNeg (v_19)) = 1 := tA_sAs eS_110
      refine lv_aload_n X.1 X.2.1 dX9_addMetreOf_106 rfl (lv_at hl 1 rfl) ?_
      have t_115 : At S_110 x 29 := tAt_sA eS_110 t_102
      have t_116 : pR S_87 908 x = some q_61 := tR_sA eS_87 h_66
      have t_117 : pR S_97 908 x = some q_61 := tR_sA eS_97 t_116
      have t_118 : pR S_110 908 x = some q_61 := tR_sA eS_110 t_117
      refine r_getR (g := 908) X hw t_115 rfl 8 t_118 (by decide) rfl inn_X9_addMetreOf_9 (by decide) (X.2.2.2.1 (.fieldLink RX9 27 "SilkMill$Strand" "places" "[I") (by decide +kernel)) rfl (gv_908 _ _) dX9_addMetreOf_107 ?_
      refine lv_aload_n X.1 X.2.1 dX9_addMetreOf_110 rfl (lv_at hl 1 rfl) ?_
      have t_119 : pI S_110 904 x = v_19 := tI_sA eS_110 t_105
      refine r_getI (g := 904) (x := v_19) X hw t_115 rfl 4 t_119 (by decide) rfl inn_X9_addMetreOf_9 (by decide) (X.2.2.2.1 (.fieldLink RX9 43 "SilkMill$Strand" "pieces" "I") (by decide +kernel)) rfl (gv_904 _ _) dX9_addMetreOf_111 ?_
      refine lv_aload_n X.1 X.2.1 dX9_addMetreOf_114 rfl (lv_at hl 2 rfl) ?_
      have t_120 : At S_87 c1 0 := tAt_sA eS_87 t_78
      have t_121 : At S_97 c1 0 := tAt_sA eS_97 t_120
      have t_122 : At S_110 c1 0 := tAt_sA eS_110 t_121
      have t_123 : pI S_47 4 c1 = v_36 := hk_50.fr.I' (by decide +kernel) ha_c1 ev_36
      have t_124 : pI S_87 4 c1 = v_36 := tI_sA eS_87 t_123
      have t_125 : pI S_97 4 c1 = v_36 := tI_sA eS_97 t_124
      have t_126 : pI S_110 4 c1 = v_36 := tI_sA eS_110 t_125
      refine r_getI (g := 4) (x := v_36) X hw t_122 rfl 4 t_126 (by decide) rfl inn_X9_addMetreOf_0 (by decide) (X.2.2.2.1 (.fieldLink RX9 64 "SilkMill$Cocoon" "drawnTo" "I") (by decide +kernel)) rfl (gv_4 _ _) dX9_addMetreOf_115 ?_
      have t_127 : At S_87 q_61 14 := tAt_sA eS_87 h_70
      have t_128 : At S_97 q_61 14 := tAt_sA eS_97 t_127
      have t_129 : At S_110 q_61 14 := tAt_sA eS_110 t_128
      have t_130 : pN S_87 q_61 = n_62 := tN_sA eS_87 h_74
      clear h_74
      have t_131 : pN S_97 q_61 = n_62 := tN_sA eS_97 t_130
      clear t_130
      have t_132 : pN S_110 q_61 = n_62 := tN_sA eS_110 t_131
      clear t_131
      refine r_iast X hw t_129 rfl (by rw [t_132]; exact z_ix rfl (by omega) (by omega)) dX9_addMetreOf_118 (fun H locs hw => ?_)
      obtain ⟨S_133, eS_133⟩ : ∃ T, T = sA S_110 q_61 (upd (pA S_110 q_61) (Int32.toNatClampNeg (v_19)) (v_36)) := ⟨_, rfl⟩
      rw [← eS_133] at hw
      have ph_134 : c_48 + Phc S_133 ≤ Phc S + 0 := by rw [show Phc S_133 = Phc S_110 from Ph_sA eS_133]; exact ph_111
      have ph_135 : n_49 + Phs S_133 ≤ Phs S + 0 := by rw [show Phs S_133 = Phs S_110 from Ph_sA eS_133]; exact ph_112
      clear ph_111
      clear ph_112
      have hO_136 : Og eMO S S_133 := hO_113.sA eS_133 t_129 (by decide +kernel) (uA_14 hO_113.1 t_129)
      have h_137 : pA S_133 q_61 (Int32.toNatClampNeg (v_19)) = v_36 := tA_sAs eS_133
      refine lv_aload_n X.1 X.2.1 dX9_addMetreOf_119 rfl (lv_at hl 2 rfl) ?_
      refine lv_aload_n X.1 X.2.1 dX9_addMetreOf_120 rfl (lv_at hl 1 rfl) ?_
      have t_138 : At S_133 x 29 := tAt_sA eS_133 t_115
      have t_139 : pI S_133 904 x = v_19 := tI_sA eS_133 t_119
      refine r_getI (g := 904) (x := v_19) X hw t_138 rfl 4 t_139 (by decide) rfl inn_X9_addMetreOf_9 (by decide) (X.2.2.2.1 (.fieldLink RX9 43 "SilkMill$Strand" "pieces" "I") (by decide +kernel)) rfl (gv_904 _ _) dX9_addMetreOf_121 ?_
      have t_140 : At S_133 c1 0 := tAt_sA eS_133 t_122
      refine r_putI (v := v_19) X hw t_140 rfl 6 6 tyX0 (by decide) rfl inn_X9_addMetreOf_0 tyX0_ok nmX0 (by decide) (X.2.2.2.1 (.fieldLink RX9 52 "SilkMill$Cocoon" "latestPiece" "I") (by decide +kernel)) rfl (Or.inl rfl) rfl rfl (Nat.le_of_ble_eq_true rfl) (st_6 _ _) dX9_addMetreOf_124 (fun H locs hw => ?_)
      obtain ⟨S_141, eS_141⟩ : ∃ T, T = sI S_133 6 c1 (v_19) := ⟨_, rfl⟩
      rw [← eS_141] at hw
      have ph_142 : c_48 + Phc S_141 ≤ Phc S + 0 := by rw [show Phc S_141 = Phc S_133 from Ph_sI eS_141 rfl rfl]; exact ph_134
      have ph_143 : n_49 + Phs S_141 ≤ Phs S + 0 := by rw [show Phs S_141 = Phs S_133 from Ph_sI eS_141 rfl rfl]; exact ph_135
      clear ph_134
      clear ph_135
      have hO_144 : Og eMO S S_141 := hO_136.sI eS_141 (by decide +kernel) (uI_0_6 hO_136.1 t_140)
      have h_145 : pI S_141 6 c1 = v_19 := tI_sIs eS_141
      refine lv_aload_n X.1 X.2.1 dX9_addMetreOf_127 rfl (lv_at hl 1 rfl) ?_
      refine lv_dup X.1 X.2.1 dX9_addMetreOf_128 rfl ?_
      have t_146 : At S_141 x 29 := tAt_sI eS_141 t_138
      have t_147 : pI S_141 904 x = v_19 := tI_sI eS_141 rfl t_139
      refine r_getI (g := 904) (x := v_19) X hw t_146 rfl 4 t_147 (by decide) rfl inn_X9_addMetreOf_9 (by decide) (X.2.2.2.1 (.fieldLink RX9 43 "SilkMill$Strand" "pieces" "I") (by decide +kernel)) rfl (gv_904 _ _) dX9_addMetreOf_129 ?_
      refine lv_iconst (v := 1) X.1 X.2.1 dX9_addMetreOf_132 (by decide) ?_
      refine lv_iadd X.1 X.2.1 dX9_addMetreOf_133 ?_
      refine lv_topi (fun v_148 ev_148 => ?_)
      have z_149 : v_148.toInt = v_19.toInt + 1 := z_add ev_148 rfl ti_1 (by omega) (by omega)
      have t_150 : pR S_87 905 x = some q_58 := tR_sA eS_87 h_63
      have t_151 : pR S_97 905 x = some q_58 := tR_sA eS_97 t_150
      have t_152 : pR S_110 905 x = some q_58 := tR_sA eS_110 t_151
      have t_153 : pR S_133 905 x = some q_58 := tR_sA eS_133 t_152
      have t_154 : pR S_141 905 x = some q_58 := tR_sI eS_141 t_153
      have t_155 : pN S_87 q_58 = n_62 := tN_sA eS_87 h_71
      clear h_71
      have t_156 : pN S_97 q_58 = n_62 := tN_sA eS_97 t_155
      clear t_155
      have t_157 : pN S_110 q_58 = n_62 := tN_sA eS_110 t_156
      clear t_156
      have t_158 : pN S_133 q_58 = n_62 := tN_sA eS_133 t_157
      clear t_157
      have t_159 : pN S_141 q_58 = n_62 := tN_sI eS_141 t_158
      clear t_158
      refine r_putI (v := v_148) X hw t_146 rfl 4 904 tyX9 (by decide) rfl inn_X9_addMetreOf_9 tyX9_ok nmX9 (by decide) (X.2.2.2.1 (.fieldLink RX9 43 "SilkMill$Strand" "pieces" "I") (by decide +kernel)) rfl (Or.inl rfl) rfl rfl (Nat.le_of_ble_eq_true rfl) (st_904 _ _) dX9_addMetreOf_134 (fun H locs hw => ?_)
      obtain ⟨S_160, eS_160⟩ : ∃ T, T = sI S_141 904 x (v_148) := ⟨_, rfl⟩
      rw [← eS_160] at hw
      have ph_161 : c_48 + Phc S_160 ≤ Phc S + 0 := by rw [show Phc S_160 = Phc S_141 from Ph_sI eS_160 rfl rfl]; exact ph_142
      have ph_162 : n_49 + Phs S_160 ≤ Phs S + 0 := by rw [show Phs S_160 = Phs S_141 from Ph_sI eS_160 rfl rfl]; exact ph_143
      clear ph_142
      clear ph_143
      have hO_163 : Og eMO S S_160 := hO_144.sI eS_160 (by decide +kernel) (uI_29_904 hO_144.1 t_146 t_154 t_159 (by omega) (by omega))
      have h_164 : pI S_160 904 x = v_148 := tI_sIs eS_160
      have hn_165 : Int32.toNatClampNeg (v_19) = (pI S 904 x).toInt.toNat := by rw [ev_19]; exact z_nc rfl (by omega)
      exact ret_gv X hw hr hlocks (by show c_48 ≤ Phc S + 4; omega) (by show n_49 ≤ Phs S + 14400; omega) (by omega) (by omega) ⟨hO_163, Or.inr (Or.inr ⟨(fun h => by obtain ⟨h0, h1, h2, h3⟩ := h; omega), by omega, S_47, S_87, S_97, S_110, S_133, S_141, q_58, q_59, q_60, q_61, mr_55, ⟨h_63, h_64, h_65, h_66⟩, by rw [← hn_165, cd_84]; exact eS_87, by rw [← hn_165]; exact eS_97, by rw [← hn_165]; exact eS_110, by rw [← hn_165, ev_36]; exact eS_133, by rw [ev_19]; exact eS_141, by rw [ev_19, ← ev_148]; exact eS_160⟩)⟩ dX9_addMetreOf_137
    · have z_b_166 := trivial
      have k_167 : v_19.toInt ≥ 3600 := z_nlt rfl ti_3600 c_43
      exact ret_gv X hw hr hlocks (by show 0 ≤ Phc S + 4; omega) (by show 0 ≤ Phs S + 14400; omega) (by omega) (by omega) ⟨hO, Or.inr (Or.inl ⟨(fun h => by obtain ⟨h0, h1, h2, h3⟩ := h; omega), by omega, rfl⟩)⟩ dX9_addMetreOf_68
  · have z_b_168 := trivial
    have k_169 : v_23.toInt ≥ 0 := z_nlt rfl ti_0 c_40
    refine lv_iload_n X.1 X.2.1 dX9_addMetreOf_9 rfl (lv_at hl 0 rfl) ?_
    refine lv_aload_n X.1 X.2.1 dX9_addMetreOf_10 rfl (lv_at hl 1 rfl) ?_
    refine r_getI (g := 904) (x := v_19) X hw ha_x rfl 4 ev_19 (by decide) rfl inn_X9_addMetreOf_9 (by decide) (X.2.2.2.1 (.fieldLink RX9 43 "SilkMill$Strand" "pieces" "I") (by decide +kernel)) rfl (gv_904 _ _) dX9_addMetreOf_11 ?_
    refine lv_icmp_ge (tgt := 58) X.1 X.2.1 dX9_addMetreOf_14 (by decide) (fun c_170 => ?_) (fun c_170 => ?_)
    · have z_b_171 := trivial
      have k_172 : v_23.toInt ≥ v_19.toInt := z_le rfl rfl c_170
      refine lv_aload_n X.1 X.2.1 dX9_addMetreOf_58 rfl (lv_at hl 1 rfl) ?_
      refine r_getI (g := 904) (x := v_19) X hw ha_x rfl 4 ev_19 (by decide) rfl inn_X9_addMetreOf_9 (by decide) (X.2.2.2.1 (.fieldLink RX9 43 "SilkMill$Strand" "pieces" "I") (by decide +kernel)) rfl (gv_904 _ _) dX9_addMetreOf_59 ?_
      refine lv_sipush (v := 3600) X.1 X.2.1 dX9_addMetreOf_62 (by decide) ?_
      refine lv_icmp_lt (tgt := 69) X.1 X.2.1 dX9_addMetreOf_65 (by decide) (fun c_173 => ?_) (fun c_173 => ?_)
      · have z_b_174 := trivial
        have k_175 : v_19.toInt < 3600 := z_lt rfl ti_3600 c_173
        refine lv_aload_n X.1 X.2.1 dX9_addMetreOf_69 rfl (lv_at hl 1 rfl) ?_
        refine k_gv (kc := 0) (ks := 0) (rm := { frames := 3, cells := Phc S + 4, slots := Phs S + 14400, locals := 144 }) (av := [.ref x]) X hw (va_runV (As := []) (rest := []) (cfix X) (k_X9_makeRoomForPiece9 l G cy κ S _ _ x hO.1 ha_x (by omega)) (cwV 0 X.2.2.2.1 gX9_addMetreOf_X9_makeRoomForPiece rfl rfl rfl (by decide +kernel) ⟨Nat.le_of_ble_eq_true rfl, Nat.le_of_ble_eq_true rfl⟩) (pre_gV X hw _ ha_x rfl (by decide) rfl) rfl rfl hl.1 rfl (lv_room (Nat.le_of_ble_eq_true rfl)) dX9_addMetreOf_70 ⟨(by show 0 + (Phc S + 4) ≤ Phc S + 4; omega), (by show 0 + (Phs S + 14400) ≤ Phs S + 14400; omega)⟩) (fun S_177 H locs c_178 n_179 hc_178 hn_179 hp hw => ?_)
        obtain ⟨hk_180, hp⟩ := hp
        have ph_181 : c_178 + Phc S_177 ≤ Phc S + 0 := by omega
        have ph_182 : n_179 + Phs S_177 ≤ Phs S + 0 := by omega
        clear hpc0
        clear hps0
        clear hc_178
        clear hn_179
        have hO_183 : Og eMO S S_177 := hO.call hk_180 (by decide +kernel)
        obtain ⟨mr_184, mr_185⟩ := hp
        have t_206 : At S_177 x 29 := hk_180.fr.at ha_x
        obtain ⟨q_188, q_189, q_190, q_191, n_192, h_193, h_194, h_195, h_196, h_197, h_198, h_199, h_200, h_201, h_202, h_203, h_204, h_205⟩ := gGrwQ hO_183.1 t_206
        have t_207 : pI S_177 904 x = v_19 := hk_180.fr.I' (by decide +kernel) ha_x ev_19
        have mr_186 := mr_184 _ h_193; rw [t_207, h_201] at mr_186
        refine lv_aload_n X.1 X.2.1 dX9_addMetreOf_73 rfl (lv_at hl 1 rfl) ?_
        refine r_getR (g := 905) X hw t_206 rfl 5 h_193 (by decide) rfl inn_X9_addMetreOf_9 (by decide) (X.2.2.2.1 (.fieldLink RX9 18 "SilkMill$Strand" "codes" "[I") (by decide +kernel)) rfl (gv_905 _ _) dX9_addMetreOf_74 ?_
        refine lv_aload_n X.1 X.2.1 dX9_addMetreOf_77 rfl (lv_at hl 1 rfl) ?_
        refine r_getI (g := 904) (x := v_19) X hw t_206 rfl 4 t_207 (by decide) rfl inn_X9_addMetreOf_9 (by decide) (X.2.2.2.1 (.fieldLink RX9 43 "SilkMill$Strand" "pieces" "I") (by decide +kernel)) rfl (gv_904 _ _) dX9_addMetreOf_78 ?_
        refine lv_aload_n X.1 X.2.1 dX9_addMetreOf_81 rfl (lv_at hl 2 rfl) ?_
        have t_208 : At S_177 c1 0 := hk_180.fr.at ha_c1
        refine k_i (rm := { frames := 1, cells := 0, slots := 0, locals := 48 }) (av := [.ref c1]) X hw (va_runV (As := []) (rest := [.int (v_19), .ref q_188]) (cfix X) (k_X0_code3 l G cy κ S_177 _ c1 hO_183.1 t_208) (cwV 0 X.2.2.2.1 gX9_addMetreOf_X0_code rfl rfl rfl (by decide +kernel) ⟨Nat.le_of_ble_eq_true rfl, Nat.le_of_ble_eq_true rfl⟩) (pre_V X hw _ t_208 rfl (by decide) rfl) rfl rfl hl.1 rfl (lv_room (Nat.le_of_ble_eq_true rfl)) dX9_addMetreOf_82 ⟨(by show c_178 + 0 ≤ Phc S + 4; omega), (by show n_179 + 0 ≤ Phs S + 14400; omega)⟩) c_178 n_179 (by show c_178 + 0 ≤ c_178; omega) (by show n_179 + 0 ≤ n_179; omega) (fun rr_209 S_210 H locs hp hw hfr hnw => ?_)
        obtain ⟨e2, hp⟩ := hp
        subst e2
        obtain ⟨cd_211, cd_212, cd_213⟩ := hp
        have t_215 : pI S_177 0 c1 = v_28 := hk_180.fr.I' (by decide +kernel) ha_c1 ev_28
        have t_216 : pI S_177 1 c1 = v_32 := hk_180.fr.I' (by decide +kernel) ha_c1 ev_32
        have cd_214 : cdS S c1 = rr_209 := by rw [cd_213, t_215, t_216]; unfold cdS; rw [ev_28, ev_32]
        refine r_iast X hw h_197 rfl (by rw [h_201]; exact z_ix rfl (by omega) (by omega)) dX9_addMetreOf_85 (fun H locs hw => ?_)
        obtain ⟨S_217, eS_217⟩ : ∃ T, T = sA S_177 q_188 (upd (pA S_177 q_188) (Int32.toNatClampNeg (v_19)) (rr_209)) := ⟨_, rfl⟩
        rw [← eS_217] at hw
        have ph_218 : c_178 + Phc S_217 ≤ Phc S + 0 := by rw [show Phc S_217 = Phc S_177 from Ph_sA eS_217]; exact ph_181
        have ph_219 : n_179 + Phs S_217 ≤ Phs S + 0 := by rw [show Phs S_217 = Phs S_177 from Ph_sA eS_217]; exact ph_182
        clear ph_181
        clear ph_182
        have hO_220 : Og eMO S S_217 := hO_183.sA eS_217 h_197 (by decide +kernel) (uA_14 hO_183.1 h_197)
        have h_221 : pA S_217 q_188 (Int32.toNatClampNeg (v_19)) = rr_209 := tA_sAs eS_217
        refine lv_aload_n X.1 X.2.1 dX9_addMetreOf_86 rfl (lv_at hl 1 rfl) ?_
        have t_222 : At S_217 x 29 := tAt_sA eS_217 t_206
        have t_223 : pR S_217 906 x = some q_189 := tR_sA eS_217 h_194
        refine r_getR (g := 906) X hw t_222 rfl 6 t_223 (by decide) rfl inn_X9_addMetreOf_9 (by decide) (X.2.2.2.1 (.fieldLink RX9 21 "SilkMill$Strand" "firsts" "[I") (by decide +kernel)) rfl (gv_906 _ _) dX9_addMetreOf_87 ?_
        refine lv_aload_n X.1 X.2.1 dX9_addMetreOf_90 rfl (lv_at hl 1 rfl) ?_
        have t_224 : pI S_217 904 x = v_19 := tI_sA eS_217 t_207
        refine r_getI (g := 904) (x := v_19) X hw t_222 rfl 4 t_224 (by decide) rfl inn_X9_addMetreOf_9 (by decide) (X.2.2.2.1 (.fieldLink RX9 43 "SilkMill$Strand" "pieces" "I") (by decide +kernel)) rfl (gv_904 _ _) dX9_addMetreOf_91 ?_
        refine lv_iload_n X.1 X.2.1 dX9_addMetreOf_94 rfl (lv_at hl 3 rfl) ?_
        have t_225 : At S_217 q_189 14 := tAt_sA eS_217 h_198
        have t_226 : pN S_217 q_189 = n_192 := tN_sA eS_217 h_202
        clear h_202
        refine r_iast X hw t_225 rfl (by rw [t_226]; exact z_ix rfl (by omega) (by omega)) dX9_addMetreOf_95 (fun H locs hw => ?_)
        obtain ⟨S_227, eS_227⟩ : ∃ T, T = sA S_217 q_189 (upd (pA S_217 q_189) (Int32.toNatClampNeg (v_19)) (a1)) := ⟨_, rfl⟩
        rw [← eS_227] at hw
        have ph_228 : c_178 + Phc S_227 ≤ Phc S + 0 := by rw [show Phc S_227 = Phc S_217 from Ph_sA eS_227]; exact ph_218
        have ph_229 : n_179 + Phs S_227 ≤ Phs S + 0 := by rw [show Phs S_227 = Phs S_217 from Ph_sA eS_227]; exact ph_219
        clear ph_218
        clear ph_219
        have hO_230 : Og eMO S S_227 := hO_220.sA eS_227 t_225 (by decide +kernel) (uA_14 hO_220.1 t_225)
        have h_231 : pA S_227 q_189 (Int32.toNatClampNeg (v_19)) = a1 := tA_sAs eS_227
        refine lv_aload_n X.1 X.2.1 dX9_addMetreOf_96 rfl (lv_at hl 1 rfl) ?_
        have t_232 : At S_227 x 29 := tAt_sA eS_227 t_222
        have t_233 : pR S_217 907 x = some q_190 := tR_sA eS_217 h_195
        have t_234 : pR S_227 907 x = some q_190 := tR_sA eS_227 t_233
        refine r_getR (g := 907) X hw t_232 rfl 7 t_234 (by decide) rfl inn_X9_addMetreOf_9 (by decide) (X.2.2.2.1 (.fieldLink RX9 24 "SilkMill$Strand" "lengths" "[I") (by decide +kernel)) rfl (gv_907 _ _) dX9_addMetreOf_97 ?_
        refine lv_aload_n X.1 X.2.1 dX9_addMetreOf_100 rfl (lv_at hl 1 rfl) ?_
        have t_235 : pI S_227 904 x = v_19 := tI_sA eS_227 t_224
        refine r_getI (g := 904) (x := v_19) X hw t_232 rfl 4 t_235 (by decide) rfl inn_X9_addMetreOf_9 (by decide) (X.2.2.2.1 (.fieldLink RX9 43 "SilkMill$Strand" "pieces" "I") (by decide +kernel)) rfl (gv_904 _ _) dX9_addMetreOf_101 ?_
        refine lv_iconst (v := 1) X.1 X.2.1 dX9_addMetreOf_104 (by decide) ?_
        have t_236 : At S_217 q_190 14 := tAt_sA eS_217 h_199
        have t_237 : At S_227 q_190 14 := tAt_sA eS_227 t_236
        have t_238 : pN S_217 q_190 = n_192 := tN_sA eS_217 h_203
        clear h_203
        have t_239 : pN S_227 q_190 = n_192 := tN_sA eS_227 t_238
        clear t_238
        refine r_iast X hw t_237 rfl (by rw [t_239]; exact z_ix rfl (by omega) (by omega)) dX9_addMetreOf_105 (fun H locs hw => ?_)
        obtain ⟨S_240, eS_240⟩ : ∃ T, T = sA S_227 q_190 (upd (pA S_227 q_190) (Int32.toNatClampNeg (v_19)) (1)) := ⟨_, rfl⟩
        rw [← eS_240] at hw
        have ph_241 : c_178 + Phc S_240 ≤ Phc S + 0 := by rw [show Phc S_240 = Phc S_227 from Ph_sA eS_240]; exact ph_228
        have ph_242 : n_179 + Phs S_240 ≤ Phs S + 0 := by rw [show Phs S_240 = Phs S_227 from Ph_sA eS_240]; exact ph_229
        clear ph_228
        clear ph_229
        have hO_243 : Og eMO S S_240 := hO_230.sA eS_240 t_237 (by decide +kernel) (uA_14 hO_230.1 t_237)
        have h_244 : pA S_240 q_190 (Int32.toNatClampNeg (v_19)) = 1 := tA_sAs eS_240
        refine lv_aload_n X.1 X.2.1 dX9_addMetreOf_106 rfl (lv_at hl 1 rfl) ?_
        have t_245 : At S_240 x 29 := tAt_sA eS_240 t_232
        have t_246 : pR S_217 908 x = some q_191 := tR_sA eS_217 h_196
        have t_247 : pR S_227 908 x = some q_191 := tR_sA eS_227 t_246
        have t_248 : pR S_240 908 x = some q_191 := tR_sA eS_240 t_247
        refine r_getR (g := 908) X hw t_245 rfl 8 t_248 (by decide) rfl inn_X9_addMetreOf_9 (by decide) (X.2.2.2.1 (.fieldLink RX9 27 "SilkMill$Strand" "places" "[I") (by decide +kernel)) rfl (gv_908 _ _) dX9_addMetreOf_107 ?_
        refine lv_aload_n X.1 X.2.1 dX9_addMetreOf_110 rfl (lv_at hl 1 rfl) ?_
        have t_249 : pI S_240 904 x = v_19 := tI_sA eS_240 t_235
        refine r_getI (g := 904) (x := v_19) X hw t_245 rfl 4 t_249 (by decide) rfl inn_X9_addMetreOf_9 (by decide) (X.2.2.2.1 (.fieldLink RX9 43 "SilkMill$Strand" "pieces" "I") (by decide +kernel)) rfl (gv_904 _ _) dX9_addMetreOf_111 ?_
        refine lv_aload_n X.1 X.2.1 dX9_addMetreOf_114 rfl (lv_at hl 2 rfl) ?_
        have t_250 : At S_217 c1 0 := tAt_sA eS_217 t_208
        have t_251 : At S_227 c1 0 := tAt_sA eS_227 t_250
        have t_252 : At S_240 c1 0 := tAt_sA eS_240 t_251
        have t_253 : pI S_177 4 c1 = v_36 := hk_180.fr.I' (by decide +kernel) ha_c1 ev_36
        have t_254 : pI S_217 4 c1 = v_36 := tI_sA eS_217 t_253
        have t_255 : pI S_227 4 c1 = v_36 := tI_sA eS_227 t_254
        have t_256 : pI S_240 4 c1 = v_36 := tI_sA eS_240 t_255
        refine r_getI (g := 4) (x := v_36) X hw t_252 rfl 4 t_256 (by decide) rfl inn_X9_addMetreOf_0 (by decide) (X.2.2.2.1 (.fieldLink RX9 64 "SilkMill$Cocoon" "drawnTo" "I") (by decide +kernel)) rfl (gv_4 _ _) dX9_addMetreOf_115 ?_
        have t_257 : At S_217 q_191 14 := tAt_sA eS_217 h_200
        have t_258 : At S_227 q_191 14 := tAt_sA eS_227 t_257
        have t_259 : At S_240 q_191 14 := tAt_sA eS_240 t_258
        have t_260 : pN S_217 q_191 = n_192 := tN_sA eS_217 h_204
        clear h_204
        have t_261 : pN S_227 q_191 = n_192 := tN_sA eS_227 t_260
        clear t_260
        have t_262 : pN S_240 q_191 = n_192 := tN_sA eS_240 t_261
        clear t_261
        refine r_iast X hw t_259 rfl (by rw [t_262]; exact z_ix rfl (by omega) (by omega)) dX9_addMetreOf_118 (fun H locs hw => ?_)
        obtain ⟨S_263, eS_263⟩ : ∃ T, T = sA S_240 q_191 (upd (pA S_240 q_191) (Int32.toNatClampNeg (v_19)) (v_36)) := ⟨_, rfl⟩
        rw [← eS_263] at hw
        have ph_264 : c_178 + Phc S_263 ≤ Phc S + 0 := by rw [show Phc S_263 = Phc S_240 from Ph_sA eS_263]; exact ph_241
        have ph_265 : n_179 + Phs S_263 ≤ Phs S + 0 := by rw [show Phs S_263 = Phs S_240 from Ph_sA eS_263]; exact ph_242
        clear ph_241
        clear ph_242
        have hO_266 : Og eMO S S_263 := hO_243.sA eS_263 t_259 (by decide +kernel) (uA_14 hO_243.1 t_259)
        have h_267 : pA S_263 q_191 (Int32.toNatClampNeg (v_19)) = v_36 := tA_sAs eS_263
        refine lv_aload_n X.1 X.2.1 dX9_addMetreOf_119 rfl (lv_at hl 2 rfl) ?_
        refine lv_aload_n X.1 X.2.1 dX9_addMetreOf_120 rfl (lv_at hl 1 rfl) ?_
        have t_268 : At S_263 x 29 := tAt_sA eS_263 t_245
        have t_269 : pI S_263 904 x = v_19 := tI_sA eS_263 t_249
        refine r_getI (g := 904) (x := v_19) X hw t_268 rfl 4 t_269 (by decide) rfl inn_X9_addMetreOf_9 (by decide) (X.2.2.2.1 (.fieldLink RX9 43 "SilkMill$Strand" "pieces" "I") (by decide +kernel)) rfl (gv_904 _ _) dX9_addMetreOf_121 ?_
        have t_270 : At S_263 c1 0 := tAt_sA eS_263 t_252
        refine r_putI (v := v_19) X hw t_270 rfl 6 6 tyX0 (by decide) rfl inn_X9_addMetreOf_0 tyX0_ok nmX0 (by decide) (X.2.2.2.1 (.fieldLink RX9 52 "SilkMill$Cocoon" "latestPiece" "I") (by decide +kernel)) rfl (Or.inl rfl) rfl rfl (Nat.le_of_ble_eq_true rfl) (st_6 _ _) dX9_addMetreOf_124 (fun H locs hw => ?_)
        obtain ⟨S_271, eS_271⟩ : ∃ T, T = sI S_263 6 c1 (v_19) := ⟨_, rfl⟩
        rw [← eS_271] at hw
        have ph_272 : c_178 + Phc S_271 ≤ Phc S + 0 := by rw [show Phc S_271 = Phc S_263 from Ph_sI eS_271 rfl rfl]; exact ph_264
        have ph_273 : n_179 + Phs S_271 ≤ Phs S + 0 := by rw [show Phs S_271 = Phs S_263 from Ph_sI eS_271 rfl rfl]; exact ph_265
        clear ph_264
        clear ph_265
        have hO_274 : Og eMO S S_271 := hO_266.sI eS_271 (by decide +kernel) (uI_0_6 hO_266.1 t_270)
        have h_275 : pI S_271 6 c1 = v_19 := tI_sIs eS_271
        refine lv_aload_n X.1 X.2.1 dX9_addMetreOf_127 rfl (lv_at hl 1 rfl) ?_
        refine lv_dup X.1 X.2.1 dX9_addMetreOf_128 rfl ?_
        have t_276 : At S_271 x 29 := tAt_sI eS_271 t_268
        have t_277 : pI S_271 904 x = v_19 := tI_sI eS_271 rfl t_269
        refine r_getI (g := 904) (x := v_19) X hw t_276 rfl 4 t_277 (by decide) rfl inn_X9_addMetreOf_9 (by decide) (X.2.2.2.1 (.fieldLink RX9 43 "SilkMill$Strand" "pieces" "I") (by decide +kernel)) rfl (gv_904 _ _) dX9_addMetreOf_129 ?_
        refine lv_iconst (v := 1) X.1 X.2.1 dX9_addMetreOf_132 (by decide) ?_
        refine lv_iadd X.1 X.2.1 dX9_addMetreOf_133 ?_
        refine lv_topi (fun v_278 ev_278 => ?_)
        have z_279 : v_278.toInt = v_19.toInt + 1 := z_add ev_278 rfl ti_1 (by omega) (by omega)
        have t_280 : pR S_217 905 x = some q_188 := tR_sA eS_217 h_193
        have t_281 : pR S_227 905 x = some q_188 := tR_sA eS_227 t_280
        have t_282 : pR S_240 905 x = some q_188 := tR_sA eS_240 t_281
        have t_283 : pR S_263 905 x = some q_188 := tR_sA eS_263 t_282
        have t_284 : pR S_271 905 x = some q_188 := tR_sI eS_271 t_283
        have t_285 : pN S_217 q_188 = n_192 := tN_sA eS_217 h_201
        clear h_201
        have t_286 : pN S_227 q_188 = n_192 := tN_sA eS_227 t_285
        clear t_285
        have t_287 : pN S_240 q_188 = n_192 := tN_sA eS_240 t_286
        clear t_286
        have t_288 : pN S_263 q_188 = n_192 := tN_sA eS_263 t_287
        clear t_287
        have t_289 : pN S_271 q_188 = n_192 := tN_sI eS_271 t_288
        clear t_288
        refine r_putI (v := v_278) X hw t_276 rfl 4 904 tyX9 (by decide) rfl inn_X9_addMetreOf_9 tyX9_ok nmX9 (by decide) (X.2.2.2.1 (.fieldLink RX9 43 "SilkMill$Strand" "pieces" "I") (by decide +kernel)) rfl (Or.inl rfl) rfl rfl (Nat.le_of_ble_eq_true rfl) (st_904 _ _) dX9_addMetreOf_134 (fun H locs hw => ?_)
        obtain ⟨S_290, eS_290⟩ : ∃ T, T = sI S_271 904 x (v_278) := ⟨_, rfl⟩
        rw [← eS_290] at hw
        have ph_291 : c_178 + Phc S_290 ≤ Phc S + 0 := by rw [show Phc S_290 = Phc S_271 from Ph_sI eS_290 rfl rfl]; exact ph_272
        have ph_292 : n_179 + Phs S_290 ≤ Phs S + 0 := by rw [show Phs S_290 = Phs S_271 from Ph_sI eS_290 rfl rfl]; exact ph_273
        clear ph_272
        clear ph_273
        have hO_293 : Og eMO S S_290 := hO_274.sI eS_290 (by decide +kernel) (uI_29_904 hO_274.1 t_276 t_284 t_289 (by omega) (by omega))
        have h_294 : pI S_290 904 x = v_278 := tI_sIs eS_290
        have hn_295 : Int32.toNatClampNeg (v_19) = (pI S 904 x).toInt.toNat := by rw [ev_19]; exact z_nc rfl (by omega)
        exact ret_gv X hw hr hlocks (by show c_178 ≤ Phc S + 4; omega) (by show n_179 ≤ Phs S + 14400; omega) (by omega) (by omega) ⟨hO_293, Or.inr (Or.inr ⟨(fun h => by obtain ⟨h0, h1, h2, h3⟩ := h; omega), by omega, S_177, S_217, S_227, S_240, S_263, S_271, q_188, q_189, q_190, q_191, mr_185, ⟨h_193, h_194, h_195, h_196⟩, by rw [← hn_295, cd_214]; exact eS_217, by rw [← hn_295]; exact eS_227, by rw [← hn_295]; exact eS_240, by rw [← hn_295, ev_36]; exact eS_263, by rw [ev_19]; exact eS_271, by rw [ev_19, ← ev_278]; exact eS_290⟩)⟩ dX9_addMetreOf_137
      · have z_b_296 := trivial
        have k_297 : v_19.toInt ≥ 3600 := z_nlt rfl ti_3600 c_173
        exact ret_gv X hw hr hlocks (by show 0 ≤ Phc S + 4; omega) (by show 0 ≤ Phs S + 14400; omega) (by omega) (by omega) ⟨hO, Or.inr (Or.inl ⟨(fun h => by obtain ⟨h0, h1, h2, h3⟩ := h; omega), by omega, rfl⟩)⟩ dX9_addMetreOf_68
    · have z_b_298 := trivial
      have k_299 : v_23.toInt < v_19.toInt := z_nle rfl rfl c_170
      refine lv_aload_n X.1 X.2.1 dX9_addMetreOf_17 rfl (lv_at hl 1 rfl) ?_
      refine r_getR (g := 905) X hw ha_x rfl 5 h_6 (by decide) rfl inn_X9_addMetreOf_9 (by decide) (X.2.2.2.1 (.fieldLink RX9 18 "SilkMill$Strand" "codes" "[I") (by decide +kernel)) rfl (gv_905 _ _) dX9_addMetreOf_18 ?_
      refine lv_iload_n X.1 X.2.1 dX9_addMetreOf_21 rfl (lv_at hl 0 rfl) ?_
      refine r_iald X hw h_10 rfl (by rw [h_14]; exact z_ix rfl (by omega) (by omega)) dX9_addMetreOf_22 ?_
      refine lv_topi (fun v_300 ev_300 => ?_)
      have rg_301 := And.intro (z_lo v_300) (z_hi v_300)
      have ev_300 := ev_300.symm
      have ld_302 : mA S x 905 (pI S 6 c1).toInt.toNat = v_300 := by rw [mA_eq h_6, ev_23, ← z_nc (x := v_23) rfl (by omega), ev_300]
      refine lv_aload_n X.1 X.2.1 dX9_addMetreOf_23 rfl (lv_at hl 2 rfl) ?_
      refine k_i (rm := { frames := 1, cells := 0, slots := 0, locals := 48 }) (av := [.ref c1]) X hw (va_runV (As := []) (rest := [.int (v_300)]) (cfix X) (k_X0_code3 l G cy κ S _ c1 hO.1 ha_c1) (cwV 0 X.2.2.2.1 gX9_addMetreOf_X0_code rfl rfl rfl (by decide +kernel) ⟨Nat.le_of_ble_eq_true rfl, Nat.le_of_ble_eq_true rfl⟩) (pre_V X hw _ ha_c1 rfl (by decide) rfl) rfl rfl hl.1 rfl (lv_room (Nat.le_of_ble_eq_true rfl)) dX9_addMetreOf_24 ⟨(by show 0 + 0 ≤ Phc S + 4; omega), (by show 0 + 0 ≤ Phs S + 14400; omega)⟩) 0 0 (by show 0 + 0 ≤ 0; omega) (by show 0 + 0 ≤ 0; omega) (fun rr_303 S_304 H locs hp hw hfr hnw => ?_)
      obtain ⟨e2, hp⟩ := hp
      subst e2
      obtain ⟨cd_305, cd_306, cd_307⟩ := hp
      have cd_308 : cdS S c1 = rr_303 := cd_307.symm
      refine lv_icmp_ne (tgt := 58) X.1 X.2.1 dX9_addMetreOf_27 (by decide) (fun c_309 => ?_) (fun c_309 => ?_)
      · have z_b_310 := trivial
        have k_311 : v_300.toInt ≠ rr_303.toInt := z_ne rfl rfl c_309
        refine lv_aload_n X.1 X.2.1 dX9_addMetreOf_58 rfl (lv_at hl 1 rfl) ?_
        refine r_getI (g := 904) (x := v_19) X hw ha_x rfl 4 ev_19 (by decide) rfl inn_X9_addMetreOf_9 (by decide) (X.2.2.2.1 (.fieldLink RX9 43 "SilkMill$Strand" "pieces" "I") (by decide +kernel)) rfl (gv_904 _ _) dX9_addMetreOf_59 ?_
        refine lv_sipush (v := 3600) X.1 X.2.1 dX9_addMetreOf_62 (by decide) ?_
        refine lv_icmp_lt (tgt := 69) X.1 X.2.1 dX9_addMetreOf_65 (by decide) (fun c_312 => ?_) (fun c_312 => ?_)
        · have z_b_313 := trivial
          have k_314 : v_19.toInt < 3600 := z_lt rfl ti_3600 c_312
          refine lv_aload_n X.1 X.2.1 dX9_addMetreOf_69 rfl (lv_at hl 1 rfl) ?_
          refine k_gv (kc := 0) (ks := 0) (rm := { frames := 3, cells := Phc S + 4, slots := Phs S + 14400, locals := 144 }) (av := [.ref x]) X hw (va_runV (As := []) (rest := []) (cfix X) (k_X9_makeRoomForPiece9 l G cy κ S _ _ x hO.1 ha_x (by omega)) (cwV 0 X.2.2.2.1 gX9_addMetreOf_X9_makeRoomForPiece rfl rfl rfl (by decide +kernel) ⟨Nat.le_of_ble_eq_true rfl, Nat.le_of_ble_eq_true rfl⟩) (pre_gV X hw _ ha_x rfl (by decide) rfl) rfl rfl hl.1 rfl (lv_room (Nat.le_of_ble_eq_true rfl)) dX9_addMetreOf_70 ⟨(by show 0 + (Phc S + 4) ≤ Phc S + 4; omega), (by show 0 + (Phs S + 14400) ≤ Phs S + 14400; omega)⟩) (fun S_316 H locs c_317 n_318 hc_317 hn_318 hp hw => ?_)
          obtain ⟨hk_319, hp⟩ := hp
          have ph_320 : c_317 + Phc S_316 ≤ Phc S + 0 := by omega
          have ph_321 : n_318 + Phs S_316 ≤ Phs S + 0 := by omega
          clear hpc0
          clear hps0
          clear hc_317
          clear hn_318
          have hO_322 : Og eMO S S_316 := hO.call hk_319 (by decide +kernel)
          obtain ⟨mr_323, mr_324⟩ := hp
          have t_345 : At S_316 x 29 := hk_319.fr.at ha_x
          obtain ⟨q_327, q_328, q_329, q_330, n_331, h_332, h_333, h_334, h_335, h_336, h_337, h_338, h_339, h_340, h_341, h_342, h_343, h_344⟩ := gGrwQ hO_322.1 t_345
          have t_346 : pI S_316 904 x = v_19 := hk_319.fr.I' (by decide +kernel) ha_x ev_19
          have mr_325 := mr_323 _ h_332; rw [t_346, h_340] at mr_325
          refine lv_aload_n X.1 X.2.1 dX9_addMetreOf_73 rfl (lv_at hl 1 rfl) ?_
          refine r_getR (g := 905) X hw t_345 rfl 5 h_332 (by decide) rfl inn_X9_addMetreOf_9 (by decide) (X.2.2.2.1 (.fieldLink RX9 18 "SilkMill$Strand" "codes" "[I") (by decide +kernel)) rfl (gv_905 _ _) dX9_addMetreOf_74 ?_
          refine lv_aload_n X.1 X.2.1 dX9_addMetreOf_77 rfl (lv_at hl 1 rfl) ?_
          refine r_getI (g := 904) (x := v_19) X hw t_345 rfl 4 t_346 (by decide) rfl inn_X9_addMetreOf_9 (by decide) (X.2.2.2.1 (.fieldLink RX9 43 "SilkMill$Strand" "pieces" "I") (by decide +kernel)) rfl (gv_904 _ _) dX9_addMetreOf_78 ?_
          refine lv_aload_n X.1 X.2.1 dX9_addMetreOf_81 rfl (lv_at hl 2 rfl) ?_
          have t_347 : At S_316 c1 0 := hk_319.fr.at ha_c1
          refine k_i (rm := { frames := 1, cells := 0, slots := 0, locals := 48 }) (av := [.ref c1]) X hw (va_runV (As := []) (rest := [.int (v_19), .ref q_327]) (cfix X) (k_X0_code3 l G cy κ S_316 _ c1 hO_322.1 t_347) (cwV 0 X.2.2.2.1 gX9_addMetreOf_X0_code rfl rfl rfl (by decide +kernel) ⟨Nat.le_of_ble_eq_true rfl, Nat.le_of_ble_eq_true rfl⟩) (pre_V X hw _ t_347 rfl (by decide) rfl) rfl rfl hl.1 rfl (lv_room (Nat.le_of_ble_eq_true rfl)) dX9_addMetreOf_82 ⟨(by show c_317 + 0 ≤ Phc S + 4; omega), (by show n_318 + 0 ≤ Phs S + 14400; omega)⟩) c_317 n_318 (by show c_317 + 0 ≤ c_317; omega) (by show n_318 + 0 ≤ n_318; omega) (fun rr_348 S_349 H locs hp hw hfr hnw => ?_)
          obtain ⟨e2, hp⟩ := hp
          subst e2
          obtain ⟨cd_350, cd_351, cd_352⟩ := hp
          have t_354 : pI S_316 0 c1 = v_28 := hk_319.fr.I' (by decide +kernel) ha_c1 ev_28
          have t_355 : pI S_316 1 c1 = v_32 := hk_319.fr.I' (by decide +kernel) ha_c1 ev_32
          have cd_353 : cdS S c1 = rr_348 := by rw [cd_352, t_354, t_355]; unfold cdS; rw [ev_28, ev_32]
          refine r_iast X hw h_336 rfl (by rw [h_340]; exact z_ix rfl (by omega) (by omega)) dX9_addMetreOf_85 (fun H locs hw => ?_)
          obtain ⟨S_356, eS_356⟩ : ∃ T, T = sA S_316 q_327 (upd (pA S_316 q_327) (Int32.toNatClampNeg (v_19)) (rr_348)) := ⟨_, rfl⟩
          rw [← eS_356] at hw
          have ph_357 : c_317 + Phc S_356 ≤ Phc S + 0 := by rw [show Phc S_356 = Phc S_316 from Ph_sA eS_356]; exact ph_320
          have ph_358 : n_318 + Phs S_356 ≤ Phs S + 0 := by rw [show Phs S_356 = Phs S_316 from Ph_sA eS_356]; exact ph_321
          clear ph_320
          clear ph_321
          have hO_359 : Og eMO S S_356 := hO_322.sA eS_356 h_336 (by decide +kernel) (uA_14 hO_322.1 h_336)
          have h_360 : pA S_356 q_327 (Int32.toNatClampNeg (v_19)) = rr_348 := tA_sAs eS_356
          refine lv_aload_n X.1 X.2.1 dX9_addMetreOf_86 rfl (lv_at hl 1 rfl) ?_
          have t_361 : At S_356 x 29 := tAt_sA eS_356 t_345
          have t_362 : pR S_356 906 x = some q_328 := tR_sA eS_356 h_333
          refine r_getR (g := 906) X hw t_361 rfl 6 t_362 (by decide) rfl inn_X9_addMetreOf_9 (by decide) (X.2.2.2.1 (.fieldLink RX9 21 "SilkMill$Strand" "firsts" "[I") (by decide +kernel)) rfl (gv_906 _ _) dX9_addMetreOf_87 ?_
          refine lv_aload_n X.1 X.2.1 dX9_addMetreOf_90 rfl (lv_at hl 1 rfl) ?_
          have t_363 : pI S_356 904 x = v_19 := tI_sA eS_356 t_346
          refine r_getI (g := 904) (x := v_19) X hw t_361 rfl 4 t_363 (by decide) rfl inn_X9_addMetreOf_9 (by decide) (X.2.2.2.1 (.fieldLink RX9 43 "SilkMill$Strand" "pieces" "I") (by decide +kernel)) rfl (gv_904 _ _) dX9_addMetreOf_91 ?_
          refine lv_iload_n X.1 X.2.1 dX9_addMetreOf_94 rfl (lv_at hl 3 rfl) ?_
          have t_364 : At S_356 q_328 14 := tAt_sA eS_356 h_337
          have t_365 : pN S_356 q_328 = n_331 := tN_sA eS_356 h_341
          clear h_341
          refine r_iast X hw t_364 rfl (by rw [t_365]; exact z_ix rfl (by omega) (by omega)) dX9_addMetreOf_95 (fun H locs hw => ?_)
          obtain ⟨S_366, eS_366⟩ : ∃ T, T = sA S_356 q_328 (upd (pA S_356 q_328) (Int32.toNatClampNeg (v_19)) (a1)) := ⟨_, rfl⟩
          rw [← eS_366] at hw
          have ph_367 : c_317 + Phc S_366 ≤ Phc S + 0 := by rw [show Phc S_366 = Phc S_356 from Ph_sA eS_366]; exact ph_357
          have ph_368 : n_318 + Phs S_366 ≤ Phs S + 0 := by rw [show Phs S_366 = Phs S_356 from Ph_sA eS_366]; exact ph_358
          clear ph_357
          clear ph_358
          have hO_369 : Og eMO S S_366 := hO_359.sA eS_366 t_364 (by decide +kernel) (uA_14 hO_359.1 t_364)
          have h_370 : pA S_366 q_328 (Int32.toNatClampNeg (v_19)) = a1 := tA_sAs eS_366
          refine lv_aload_n X.1 X.2.1 dX9_addMetreOf_96 rfl (lv_at hl 1 rfl) ?_
          have t_371 : At S_366 x 29 := tAt_sA eS_366 t_361
          have t_372 : pR S_356 907 x = some q_329 := tR_sA eS_356 h_334
          have t_373 : pR S_366 907 x = some q_329 := tR_sA eS_366 t_372
          refine r_getR (g := 907) X hw t_371 rfl 7 t_373 (by decide) rfl inn_X9_addMetreOf_9 (by decide) (X.2.2.2.1 (.fieldLink RX9 24 "SilkMill$Strand" "lengths" "[I") (by decide +kernel)) rfl (gv_907 _ _) dX9_addMetreOf_97 ?_
          refine lv_aload_n X.1 X.2.1 dX9_addMetreOf_100 rfl (lv_at hl 1 rfl) ?_
          have t_374 : pI S_366 904 x = v_19 := tI_sA eS_366 t_363
          refine r_getI (g := 904) (x := v_19) X hw t_371 rfl 4 t_374 (by decide) rfl inn_X9_addMetreOf_9 (by decide) (X.2.2.2.1 (.fieldLink RX9 43 "SilkMill$Strand" "pieces" "I") (by decide +kernel)) rfl (gv_904 _ _) dX9_addMetreOf_101 ?_
          refine lv_iconst (v := 1) X.1 X.2.1 dX9_addMetreOf_104 (by decide) ?_
          have t_375 : At S_356 q_329 14 := tAt_sA eS_356 h_338
          have t_376 : At S_366 q_329 14 := tAt_sA eS_366 t_375
          have t_377 : pN S_356 q_329 = n_331 := tN_sA eS_356 h_342
          clear h_342
          have t_378 : pN S_366 q_329 = n_331 := tN_sA eS_366 t_377
          clear t_377
          refine r_iast X hw t_376 rfl (by rw [t_378]; exact z_ix rfl (by omega) (by omega)) dX9_addMetreOf_105 (fun H locs hw => ?_)
          obtain ⟨S_379, eS_379⟩ : ∃ T, T = sA S_366 q_329 (upd (pA S_366 q_329) (Int32.toNatClampNeg (v_19)) (1)) := ⟨_, rfl⟩
          rw [← eS_379] at hw
          have ph_380 : c_317 + Phc S_379 ≤ Phc S + 0 := by rw [show Phc S_379 = Phc S_366 from Ph_sA eS_379]; exact ph_367
          have ph_381 : n_318 + Phs S_379 ≤ Phs S + 0 := by rw [show Phs S_379 = Phs S_366 from Ph_sA eS_379]; exact ph_368
          clear ph_367
          clear ph_368
          have hO_382 : Og eMO S S_379 := hO_369.sA eS_379 t_376 (by decide +kernel) (uA_14 hO_369.1 t_376)
          have h_383 : pA S_379 q_329 (Int32.toNatClampNeg (v_19)) = 1 := tA_sAs eS_379
          refine lv_aload_n X.1 X.2.1 dX9_addMetreOf_106 rfl (lv_at hl 1 rfl) ?_
          have t_384 : At S_379 x 29 := tAt_sA eS_379 t_371
          have t_385 : pR S_356 908 x = some q_330 := tR_sA eS_356 h_335
          have t_386 : pR S_366 908 x = some q_330 := tR_sA eS_366 t_385
          have t_387 : pR S_379 908 x = some q_330 := tR_sA eS_379 t_386
          refine r_getR (g := 908) X hw t_384 rfl 8 t_387 (by decide) rfl inn_X9_addMetreOf_9 (by decide) (X.2.2.2.1 (.fieldLink RX9 27 "SilkMill$Strand" "places" "[I") (by decide +kernel)) rfl (gv_908 _ _) dX9_addMetreOf_107 ?_
          refine lv_aload_n X.1 X.2.1 dX9_addMetreOf_110 rfl (lv_at hl 1 rfl) ?_
          have t_388 : pI S_379 904 x = v_19 := tI_sA eS_379 t_374
          refine r_getI (g := 904) (x := v_19) X hw t_384 rfl 4 t_388 (by decide) rfl inn_X9_addMetreOf_9 (by decide) (X.2.2.2.1 (.fieldLink RX9 43 "SilkMill$Strand" "pieces" "I") (by decide +kernel)) rfl (gv_904 _ _) dX9_addMetreOf_111 ?_
          refine lv_aload_n X.1 X.2.1 dX9_addMetreOf_114 rfl (lv_at hl 2 rfl) ?_
          have t_389 : At S_356 c1 0 := tAt_sA eS_356 t_347
          have t_390 : At S_366 c1 0 := tAt_sA eS_366 t_389
          have t_391 : At S_379 c1 0 := tAt_sA eS_379 t_390
          have t_392 : pI S_316 4 c1 = v_36 := hk_319.fr.I' (by decide +kernel) ha_c1 ev_36
          have t_393 : pI S_356 4 c1 = v_36 := tI_sA eS_356 t_392
          have t_394 : pI S_366 4 c1 = v_36 := tI_sA eS_366 t_393
          have t_395 : pI S_379 4 c1 = v_36 := tI_sA eS_379 t_394
          refine r_getI (g := 4) (x := v_36) X hw t_391 rfl 4 t_395 (by decide) rfl inn_X9_addMetreOf_0 (by decide) (X.2.2.2.1 (.fieldLink RX9 64 "SilkMill$Cocoon" "drawnTo" "I") (by decide +kernel)) rfl (gv_4 _ _) dX9_addMetreOf_115 ?_
          have t_396 : At S_356 q_330 14 := tAt_sA eS_356 h_339
          have t_397 : At S_366 q_330 14 := tAt_sA eS_366 t_396
          have t_398 : At S_379 q_330 14 := tAt_sA eS_379 t_397
          have t_399 : pN S_356 q_330 = n_331 := tN_sA eS_356 h_343
          clear h_343
          have t_400 : pN S_366 q_330 = n_331 := tN_sA eS_366 t_399
          clear t_399
          have t_401 : pN S_379 q_330 = n_331 := tN_sA eS_379 t_400
          clear t_400
          refine r_iast X hw t_398 rfl (by rw [t_401]; exact z_ix rfl (by omega) (by omega)) dX9_addMetreOf_118 (fun H locs hw => ?_)
          obtain ⟨S_402, eS_402⟩ : ∃ T, T = sA S_379 q_330 (upd (pA S_379 q_330) (Int32.toNatClampNeg (v_19)) (v_36)) := ⟨_, rfl⟩
          rw [← eS_402] at hw
          have ph_403 : c_317 + Phc S_402 ≤ Phc S + 0 := by rw [show Phc S_402 = Phc S_379 from Ph_sA eS_402]; exact ph_380
          have ph_404 : n_318 + Phs S_402 ≤ Phs S + 0 := by rw [show Phs S_402 = Phs S_379 from Ph_sA eS_402]; exact ph_381
          clear ph_380
          clear ph_381
          have hO_405 : Og eMO S S_402 := hO_382.sA eS_402 t_398 (by decide +kernel) (uA_14 hO_382.1 t_398)
          have h_406 : pA S_402 q_330 (Int32.toNatClampNeg (v_19)) = v_36 := tA_sAs eS_402
          refine lv_aload_n X.1 X.2.1 dX9_addMetreOf_119 rfl (lv_at hl 2 rfl) ?_
          refine lv_aload_n X.1 X.2.1 dX9_addMetreOf_120 rfl (lv_at hl 1 rfl) ?_
          have t_407 : At S_402 x 29 := tAt_sA eS_402 t_384
          have t_408 : pI S_402 904 x = v_19 := tI_sA eS_402 t_388
          refine r_getI (g := 904) (x := v_19) X hw t_407 rfl 4 t_408 (by decide) rfl inn_X9_addMetreOf_9 (by decide) (X.2.2.2.1 (.fieldLink RX9 43 "SilkMill$Strand" "pieces" "I") (by decide +kernel)) rfl (gv_904 _ _) dX9_addMetreOf_121 ?_
          have t_409 : At S_402 c1 0 := tAt_sA eS_402 t_391
          refine r_putI (v := v_19) X hw t_409 rfl 6 6 tyX0 (by decide) rfl inn_X9_addMetreOf_0 tyX0_ok nmX0 (by decide) (X.2.2.2.1 (.fieldLink RX9 52 "SilkMill$Cocoon" "latestPiece" "I") (by decide +kernel)) rfl (Or.inl rfl) rfl rfl (Nat.le_of_ble_eq_true rfl) (st_6 _ _) dX9_addMetreOf_124 (fun H locs hw => ?_)
          obtain ⟨S_410, eS_410⟩ : ∃ T, T = sI S_402 6 c1 (v_19) := ⟨_, rfl⟩
          rw [← eS_410] at hw
          have ph_411 : c_317 + Phc S_410 ≤ Phc S + 0 := by rw [show Phc S_410 = Phc S_402 from Ph_sI eS_410 rfl rfl]; exact ph_403
          have ph_412 : n_318 + Phs S_410 ≤ Phs S + 0 := by rw [show Phs S_410 = Phs S_402 from Ph_sI eS_410 rfl rfl]; exact ph_404
          clear ph_403
          clear ph_404
          have hO_413 : Og eMO S S_410 := hO_405.sI eS_410 (by decide +kernel) (uI_0_6 hO_405.1 t_409)
          have h_414 : pI S_410 6 c1 = v_19 := tI_sIs eS_410
          refine lv_aload_n X.1 X.2.1 dX9_addMetreOf_127 rfl (lv_at hl 1 rfl) ?_
          refine lv_dup X.1 X.2.1 dX9_addMetreOf_128 rfl ?_
          have t_415 : At S_410 x 29 := tAt_sI eS_410 t_407
          have t_416 : pI S_410 904 x = v_19 := tI_sI eS_410 rfl t_408
          refine r_getI (g := 904) (x := v_19) X hw t_415 rfl 4 t_416 (by decide) rfl inn_X9_addMetreOf_9 (by decide) (X.2.2.2.1 (.fieldLink RX9 43 "SilkMill$Strand" "pieces" "I") (by decide +kernel)) rfl (gv_904 _ _) dX9_addMetreOf_129 ?_
          refine lv_iconst (v := 1) X.1 X.2.1 dX9_addMetreOf_132 (by decide) ?_
          refine lv_iadd X.1 X.2.1 dX9_addMetreOf_133 ?_
          refine lv_topi (fun v_417 ev_417 => ?_)
          have z_418 : v_417.toInt = v_19.toInt + 1 := z_add ev_417 rfl ti_1 (by omega) (by omega)
          have t_419 : pR S_356 905 x = some q_327 := tR_sA eS_356 h_332
          have t_420 : pR S_366 905 x = some q_327 := tR_sA eS_366 t_419
          have t_421 : pR S_379 905 x = some q_327 := tR_sA eS_379 t_420
          have t_422 : pR S_402 905 x = some q_327 := tR_sA eS_402 t_421
          have t_423 : pR S_410 905 x = some q_327 := tR_sI eS_410 t_422
          have t_424 : pN S_356 q_327 = n_331 := tN_sA eS_356 h_340
          clear h_340
          have t_425 : pN S_366 q_327 = n_331 := tN_sA eS_366 t_424
          clear t_424
          have t_426 : pN S_379 q_327 = n_331 := tN_sA eS_379 t_425
          clear t_425
          have t_427 : pN S_402 q_327 = n_331 := tN_sA eS_402 t_426
          clear t_426
          have t_428 : pN S_410 q_327 = n_331 := tN_sI eS_410 t_427
          clear t_427
          refine r_putI (v := v_417) X hw t_415 rfl 4 904 tyX9 (by decide) rfl inn_X9_addMetreOf_9 tyX9_ok nmX9 (by decide) (X.2.2.2.1 (.fieldLink RX9 43 "SilkMill$Strand" "pieces" "I") (by decide +kernel)) rfl (Or.inl rfl) rfl rfl (Nat.le_of_ble_eq_true rfl) (st_904 _ _) dX9_addMetreOf_134 (fun H locs hw => ?_)
          obtain ⟨S_429, eS_429⟩ : ∃ T, T = sI S_410 904 x (v_417) := ⟨_, rfl⟩
          rw [← eS_429] at hw
          have ph_430 : c_317 + Phc S_429 ≤ Phc S + 0 := by rw [show Phc S_429 = Phc S_410 from Ph_sI eS_429 rfl rfl]; exact ph_411
          have ph_431 : n_318 + Phs S_429 ≤ Phs S + 0 := by rw [show Phs S_429 = Phs S_410 from Ph_sI eS_429 rfl rfl]; exact ph_412
          clear ph_411
          clear ph_412
          have hO_432 : Og eMO S S_429 := hO_413.sI eS_429 (by decide +kernel) (uI_29_904 hO_413.1 t_415 t_423 t_428 (by omega) (by omega))
          have h_433 : pI S_429 904 x = v_417 := tI_sIs eS_429
          have hn_434 : Int32.toNatClampNeg (v_19) = (pI S 904 x).toInt.toNat := by rw [ev_19]; exact z_nc rfl (by omega)
          exact ret_gv X hw hr hlocks (by show c_317 ≤ Phc S + 4; omega) (by show n_318 ≤ Phs S + 14400; omega) (by omega) (by omega) ⟨hO_432, Or.inr (Or.inr ⟨(fun h => by obtain ⟨h0, h1, h2, h3⟩ := h; rw [ld_302, cd_308] at h2; have h4 := congrArg Int32.toInt h2; omega), by omega, S_316, S_356, S_366, S_379, S_402, S_410, q_327, q_328, q_329, q_330, mr_324, ⟨h_332, h_333, h_334, h_335⟩, by rw [← hn_434, cd_353]; exact eS_356, by rw [← hn_434]; exact eS_366, by rw [← hn_434]; exact eS_379, by rw [← hn_434, ev_36]; exact eS_402, by rw [ev_19]; exact eS_410, by rw [ev_19, ← ev_417]; exact eS_429⟩)⟩ dX9_addMetreOf_137
        · have z_b_435 := trivial
          have k_436 : v_19.toInt ≥ 3600 := z_nlt rfl ti_3600 c_312
          exact ret_gv X hw hr hlocks (by show 0 ≤ Phc S + 4; omega) (by show 0 ≤ Phs S + 14400; omega) (by omega) (by omega) ⟨hO, Or.inr (Or.inl ⟨(fun h => by obtain ⟨h0, h1, h2, h3⟩ := h; rw [ld_302, cd_308] at h2; have h4 := congrArg Int32.toInt h2; omega), by omega, rfl⟩)⟩ dX9_addMetreOf_68
      · have z_b_437 := trivial
        have k_438 : v_300.toInt = rr_303.toInt := z_eq rfl rfl c_309
        refine lv_aload_n X.1 X.2.1 dX9_addMetreOf_30 rfl (lv_at hl 1 rfl) ?_
        refine r_getR (g := 906) X hw ha_x rfl 6 h_7 (by decide) rfl inn_X9_addMetreOf_9 (by decide) (X.2.2.2.1 (.fieldLink RX9 21 "SilkMill$Strand" "firsts" "[I") (by decide +kernel)) rfl (gv_906 _ _) dX9_addMetreOf_31 ?_
        refine lv_iload_n X.1 X.2.1 dX9_addMetreOf_34 rfl (lv_at hl 0 rfl) ?_
        refine r_iald X hw h_11 rfl (by rw [h_15]; exact z_ix rfl (by omega) (by omega)) dX9_addMetreOf_35 ?_
        refine lv_topi (fun v_439 ev_439 => ?_)
        have rg_440 := And.intro (z_lo v_439) (z_hi v_439)
        have ev_439 := ev_439.symm
        have ld_441 : mA S x 906 (pI S 6 c1).toInt.toNat = v_439 := by rw [mA_eq h_7, ev_23, ← z_nc (x := v_23) rfl (by omega), ev_439]
        refine lv_aload_n X.1 X.2.1 dX9_addMetreOf_36 rfl (lv_at hl 1 rfl) ?_
        refine r_getR (g := 907) X hw ha_x rfl 7 h_8 (by decide) rfl inn_X9_addMetreOf_9 (by decide) (X.2.2.2.1 (.fieldLink RX9 24 "SilkMill$Strand" "lengths" "[I") (by decide +kernel)) rfl (gv_907 _ _) dX9_addMetreOf_37 ?_
        refine lv_iload_n X.1 X.2.1 dX9_addMetreOf_40 rfl (lv_at hl 0 rfl) ?_
        refine r_iald X hw h_12 rfl (by rw [h_16]; exact z_ix rfl (by omega) (by omega)) dX9_addMetreOf_41 ?_
        refine lv_topi (fun v_442 ev_442 => ?_)
        have rg_443 := And.intro (z_lo v_442) (z_hi v_442)
        have ev_442 := ev_442.symm
        have ld_444 : mA S x 907 (pI S 6 c1).toInt.toNat = v_442 := by rw [mA_eq h_8, ev_23, ← z_nc (x := v_23) rfl (by omega), ev_442]
        refine lv_iadd X.1 X.2.1 dX9_addMetreOf_42 ?_
        refine lv_topi (fun v_445 ev_445 => ?_)
        have rg_446 := And.intro (z_lo v_445) (z_hi v_445)
        refine lv_iload_n X.1 X.2.1 dX9_addMetreOf_43 rfl (lv_at hl 3 rfl) ?_
        refine lv_icmp_ne (tgt := 58) X.1 X.2.1 dX9_addMetreOf_44 (by decide) (fun c_447 => ?_) (fun c_447 => ?_)
        · have z_b_448 := trivial
          have k_449 : v_445.toInt ≠ a1_z := z_ne rfl hz_a1 c_447
          refine lv_aload_n X.1 X.2.1 dX9_addMetreOf_58 rfl (lv_at hl 1 rfl) ?_
          refine r_getI (g := 904) (x := v_19) X hw ha_x rfl 4 ev_19 (by decide) rfl inn_X9_addMetreOf_9 (by decide) (X.2.2.2.1 (.fieldLink RX9 43 "SilkMill$Strand" "pieces" "I") (by decide +kernel)) rfl (gv_904 _ _) dX9_addMetreOf_59 ?_
          refine lv_sipush (v := 3600) X.1 X.2.1 dX9_addMetreOf_62 (by decide) ?_
          refine lv_icmp_lt (tgt := 69) X.1 X.2.1 dX9_addMetreOf_65 (by decide) (fun c_450 => ?_) (fun c_450 => ?_)
          · have z_b_451 := trivial
            have k_452 : v_19.toInt < 3600 := z_lt rfl ti_3600 c_450
            refine lv_aload_n X.1 X.2.1 dX9_addMetreOf_69 rfl (lv_at hl 1 rfl) ?_
            refine k_gv (kc := 0) (ks := 0) (rm := { frames := 3, cells := Phc S + 4, slots := Phs S + 14400, locals := 144 }) (av := [.ref x]) X hw (va_runV (As := []) (rest := []) (cfix X) (k_X9_makeRoomForPiece9 l G cy κ S _ _ x hO.1 ha_x (by omega)) (cwV 0 X.2.2.2.1 gX9_addMetreOf_X9_makeRoomForPiece rfl rfl rfl (by decide +kernel) ⟨Nat.le_of_ble_eq_true rfl, Nat.le_of_ble_eq_true rfl⟩) (pre_gV X hw _ ha_x rfl (by decide) rfl) rfl rfl hl.1 rfl (lv_room (Nat.le_of_ble_eq_true rfl)) dX9_addMetreOf_70 ⟨(by show 0 + (Phc S + 4) ≤ Phc S + 4; omega), (by show 0 + (Phs S + 14400) ≤ Phs S + 14400; omega)⟩) (fun S_454 H locs c_455 n_456 hc_455 hn_456 hp hw => ?_)
            obtain ⟨hk_457, hp⟩ := hp
            have ph_458 : c_455 + Phc S_454 ≤ Phc S + 0 := by omega
            have ph_459 : n_456 + Phs S_454 ≤ Phs S + 0 := by omega
            clear hpc0
            clear hps0
            clear hc_455
            clear hn_456
            have hO_460 : Og eMO S S_454 := hO.call hk_457 (by decide +kernel)
            obtain ⟨mr_461, mr_462⟩ := hp
            have t_483 : At S_454 x 29 := hk_457.fr.at ha_x
            obtain ⟨q_465, q_466, q_467, q_468, n_469, h_470, h_471, h_472, h_473, h_474, h_475, h_476, h_477, h_478, h_479, h_480, h_481, h_482⟩ := gGrwQ hO_460.1 t_483
            have t_484 : pI S_454 904 x = v_19 := hk_457.fr.I' (by decide +kernel) ha_x ev_19
            have mr_463 := mr_461 _ h_470; rw [t_484, h_478] at mr_463
            refine lv_aload_n X.1 X.2.1 dX9_addMetreOf_73 rfl (lv_at hl 1 rfl) ?_
            refine r_getR (g := 905) X hw t_483 rfl 5 h_470 (by decide) rfl inn_X9_addMetreOf_9 (by decide) (X.2.2.2.1 (.fieldLink RX9 18 "SilkMill$Strand" "codes" "[I") (by decide +kernel)) rfl (gv_905 _ _) dX9_addMetreOf_74 ?_
            refine lv_aload_n X.1 X.2.1 dX9_addMetreOf_77 rfl (lv_at hl 1 rfl) ?_
            refine r_getI (g := 904) (x := v_19) X hw t_483 rfl 4 t_484 (by decide) rfl inn_X9_addMetreOf_9 (by decide) (X.2.2.2.1 (.fieldLink RX9 43 "SilkMill$Strand" "pieces" "I") (by decide +kernel)) rfl (gv_904 _ _) dX9_addMetreOf_78 ?_
            refine lv_aload_n X.1 X.2.1 dX9_addMetreOf_81 rfl (lv_at hl 2 rfl) ?_
            have t_485 : At S_454 c1 0 := hk_457.fr.at ha_c1
            refine k_i (rm := { frames := 1, cells := 0, slots := 0, locals := 48 }) (av := [.ref c1]) X hw (va_runV (As := []) (rest := [.int (v_19), .ref q_465]) (cfix X) (k_X0_code3 l G cy κ S_454 _ c1 hO_460.1 t_485) (cwV 0 X.2.2.2.1 gX9_addMetreOf_X0_code rfl rfl rfl (by decide +kernel) ⟨Nat.le_of_ble_eq_true rfl, Nat.le_of_ble_eq_true rfl⟩) (pre_V X hw _ t_485 rfl (by decide) rfl) rfl rfl hl.1 rfl (lv_room (Nat.le_of_ble_eq_true rfl)) dX9_addMetreOf_82 ⟨(by show c_455 + 0 ≤ Phc S + 4; omega), (by show n_456 + 0 ≤ Phs S + 14400; omega)⟩) c_455 n_456 (by show c_455 + 0 ≤ c_455; omega) (by show n_456 + 0 ≤ n_456; omega) (fun rr_486 S_487 H locs hp hw hfr hnw => ?_)
            obtain ⟨e2, hp⟩ := hp
            subst e2
            obtain ⟨cd_488, cd_489, cd_490⟩ := hp
            have t_492 : pI S_454 0 c1 = v_28 := hk_457.fr.I' (by decide +kernel) ha_c1 ev_28
            have t_493 : pI S_454 1 c1 = v_32 := hk_457.fr.I' (by decide +kernel) ha_c1 ev_32
            have cd_491 : cdS S c1 = rr_486 := by rw [cd_490, t_492, t_493]; unfold cdS; rw [ev_28, ev_32]
            refine r_iast X hw h_474 rfl (by rw [h_478]; exact z_ix rfl (by omega) (by omega)) dX9_addMetreOf_85 (fun H locs hw => ?_)
            obtain ⟨S_494, eS_494⟩ : ∃ T, T = sA S_454 q_465 (upd (pA S_454 q_465) (Int32.toNatClampNeg (v_19)) (rr_486)) := ⟨_, rfl⟩
            rw [← eS_494] at hw
            have ph_495 : c_455 + Phc S_494 ≤ Phc S + 0 := by rw [show Phc S_494 = Phc S_454 from Ph_sA eS_494]; exact ph_458
            have ph_496 : n_456 + Phs S_494 ≤ Phs S + 0 := by rw [show Phs S_494 = Phs S_454 from Ph_sA eS_494]; exact ph_459
            clear ph_458
            clear ph_459
            have hO_497 : Og eMO S S_494 := hO_460.sA eS_494 h_474 (by decide +kernel) (uA_14 hO_460.1 h_474)
            have h_498 : pA S_494 q_465 (Int32.toNatClampNeg (v_19)) = rr_486 := tA_sAs eS_494
            refine lv_aload_n X.1 X.2.1 dX9_addMetreOf_86 rfl (lv_at hl 1 rfl) ?_
            have t_499 : At S_494 x 29 := tAt_sA eS_494 t_483
            have t_500 : pR S_494 906 x = some q_466 := tR_sA eS_494 h_471
            refine r_getR (g := 906) X hw t_499 rfl 6 t_500 (by decide) rfl inn_X9_addMetreOf_9 (by decide) (X.2.2.2.1 (.fieldLink RX9 21 "SilkMill$Strand" "firsts" "[I") (by decide +kernel)) rfl (gv_906 _ _) dX9_addMetreOf_87 ?_
            refine lv_aload_n X.1 X.2.1 dX9_addMetreOf_90 rfl (lv_at hl 1 rfl) ?_
            have t_501 : pI S_494 904 x = v_19 := tI_sA eS_494 t_484
            refine r_getI (g := 904) (x := v_19) X hw t_499 rfl 4 t_501 (by decide) rfl inn_X9_addMetreOf_9 (by decide) (X.2.2.2.1 (.fieldLink RX9 43 "SilkMill$Strand" "pieces" "I") (by decide +kernel)) rfl (gv_904 _ _) dX9_addMetreOf_91 ?_
            refine lv_iload_n X.1 X.2.1 dX9_addMetreOf_94 rfl (lv_at hl 3 rfl) ?_
            have t_502 : At S_494 q_466 14 := tAt_sA eS_494 h_475
            have t_503 : pN S_494 q_466 = n_469 := tN_sA eS_494 h_479
            clear h_479
            refine r_iast X hw t_502 rfl (by rw [t_503]; exact z_ix rfl (by omega) (by omega)) dX9_addMetreOf_95 (fun H locs hw => ?_)
            obtain ⟨S_504, eS_504⟩ : ∃ T, T = sA S_494 q_466 (upd (pA S_494 q_466) (Int32.toNatClampNeg (v_19)) (a1)) := ⟨_, rfl⟩
            rw [← eS_504] at hw
            have ph_505 : c_455 + Phc S_504 ≤ Phc S + 0 := by rw [show Phc S_504 = Phc S_494 from Ph_sA eS_504]; exact ph_495
            have ph_506 : n_456 + Phs S_504 ≤ Phs S + 0 := by rw [show Phs S_504 = Phs S_494 from Ph_sA eS_504]; exact ph_496
            clear ph_495
            clear ph_496
            have hO_507 : Og eMO S S_504 := hO_497.sA eS_504 t_502 (by decide +kernel) (uA_14 hO_497.1 t_502)
            have h_508 : pA S_504 q_466 (Int32.toNatClampNeg (v_19)) = a1 := tA_sAs eS_504
            refine lv_aload_n X.1 X.2.1 dX9_addMetreOf_96 rfl (lv_at hl 1 rfl) ?_
            have t_509 : At S_504 x 29 := tAt_sA eS_504 t_499
            have t_510 : pR S_494 907 x = some q_467 := tR_sA eS_494 h_472
            have t_511 : pR S_504 907 x = some q_467 := tR_sA eS_504 t_510
            refine r_getR (g := 907) X hw t_509 rfl 7 t_511 (by decide) rfl inn_X9_addMetreOf_9 (by decide) (X.2.2.2.1 (.fieldLink RX9 24 "SilkMill$Strand" "lengths" "[I") (by decide +kernel)) rfl (gv_907 _ _) dX9_addMetreOf_97 ?_
            refine lv_aload_n X.1 X.2.1 dX9_addMetreOf_100 rfl (lv_at hl 1 rfl) ?_
            have t_512 : pI S_504 904 x = v_19 := tI_sA eS_504 t_501
            refine r_getI (g := 904) (x := v_19) X hw t_509 rfl 4 t_512 (by decide) rfl inn_X9_addMetreOf_9 (by decide) (X.2.2.2.1 (.fieldLink RX9 43 "SilkMill$Strand" "pieces" "I") (by decide +kernel)) rfl (gv_904 _ _) dX9_addMetreOf_101 ?_
            refine lv_iconst (v := 1) X.1 X.2.1 dX9_addMetreOf_104 (by decide) ?_
            have t_513 : At S_494 q_467 14 := tAt_sA eS_494 h_476
            have t_514 : At S_504 q_467 14 := tAt_sA eS_504 t_513
            have t_515 : pN S_494 q_467 = n_469 := tN_sA eS_494 h_480
            clear h_480
            have t_516 : pN S_504 q_467 = n_469 := tN_sA eS_504 t_515
            clear t_515
            refine r_iast X hw t_514 rfl (by rw [t_516]; exact z_ix rfl (by omega) (by omega)) dX9_addMetreOf_105 (fun H locs hw => ?_)
            obtain ⟨S_517, eS_517⟩ : ∃ T, T = sA S_504 q_467 (upd (pA S_504 q_467) (Int32.toNatClampNeg (v_19)) (1)) := ⟨_, rfl⟩
            rw [← eS_517] at hw
            have ph_518 : c_455 + Phc S_517 ≤ Phc S + 0 := by rw [show Phc S_517 = Phc S_504 from Ph_sA eS_517]; exact ph_505
            have ph_519 : n_456 + Phs S_517 ≤ Phs S + 0 := by rw [show Phs S_517 = Phs S_504 from Ph_sA eS_517]; exact ph_506
            clear ph_505
            clear ph_506
            have hO_520 : Og eMO S S_517 := hO_507.sA eS_517 t_514 (by decide +kernel) (uA_14 hO_507.1 t_514)
            have h_521 : pA S_517 q_467 (Int32.toNatClampNeg (v_19)) = 1 := tA_sAs eS_517
            refine lv_aload_n X.1 X.2.1 dX9_addMetreOf_106 rfl (lv_at hl 1 rfl) ?_
            have t_522 : At S_517 x 29 := tAt_sA eS_517 t_509
            have t_523 : pR S_494 908 x = some q_468 := tR_sA eS_494 h_473
            have t_524 : pR S_504 908 x = some q_468 := tR_sA eS_504 t_523
            have t_525 : pR S_517 908 x = some q_468 := tR_sA eS_517 t_524
            refine r_getR (g := 908) X hw t_522 rfl 8 t_525 (by decide) rfl inn_X9_addMetreOf_9 (by decide) (X.2.2.2.1 (.fieldLink RX9 27 "SilkMill$Strand" "places" "[I") (by decide +kernel)) rfl (gv_908 _ _) dX9_addMetreOf_107 ?_
            refine lv_aload_n X.1 X.2.1 dX9_addMetreOf_110 rfl (lv_at hl 1 rfl) ?_
            have t_526 : pI S_517 904 x = v_19 := tI_sA eS_517 t_512
            refine r_getI (g := 904) (x := v_19) X hw t_522 rfl 4 t_526 (by decide) rfl inn_X9_addMetreOf_9 (by decide) (X.2.2.2.1 (.fieldLink RX9 43 "SilkMill$Strand" "pieces" "I") (by decide +kernel)) rfl (gv_904 _ _) dX9_addMetreOf_111 ?_
            refine lv_aload_n X.1 X.2.1 dX9_addMetreOf_114 rfl (lv_at hl 2 rfl) ?_
            have t_527 : At S_494 c1 0 := tAt_sA eS_494 t_485
            have t_528 : At S_504 c1 0 := tAt_sA eS_504 t_527
            have t_529 : At S_517 c1 0 := tAt_sA eS_517 t_528
            have t_530 : pI S_454 4 c1 = v_36 := hk_457.fr.I' (by decide +kernel) ha_c1 ev_36
            have t_531 : pI S_494 4 c1 = v_36 := tI_sA eS_494 t_530
            have t_532 : pI S_504 4 c1 = v_36 := tI_sA eS_504 t_531
            have t_533 : pI S_517 4 c1 = v_36 := tI_sA eS_517 t_532
            refine r_getI (g := 4) (x := v_36) X hw t_529 rfl 4 t_533 (by decide) rfl inn_X9_addMetreOf_0 (by decide) (X.2.2.2.1 (.fieldLink RX9 64 "SilkMill$Cocoon" "drawnTo" "I") (by decide +kernel)) rfl (gv_4 _ _) dX9_addMetreOf_115 ?_
            have t_534 : At S_494 q_468 14 := tAt_sA eS_494 h_477
            have t_535 : At S_504 q_468 14 := tAt_sA eS_504 t_534
            have t_536 : At S_517 q_468 14 := tAt_sA eS_517 t_535
            have t_537 : pN S_494 q_468 = n_469 := tN_sA eS_494 h_481
            clear h_481
            have t_538 : pN S_504 q_468 = n_469 := tN_sA eS_504 t_537
            clear t_537
            have t_539 : pN S_517 q_468 = n_469 := tN_sA eS_517 t_538
            clear t_538
            refine r_iast X hw t_536 rfl (by rw [t_539]; exact z_ix rfl (by omega) (by omega)) dX9_addMetreOf_118 (fun H locs hw => ?_)
            obtain ⟨S_540, eS_540⟩ : ∃ T, T = sA S_517 q_468 (upd (pA S_517 q_468) (Int32.toNatClampNeg (v_19)) (v_36)) := ⟨_, rfl⟩
            rw [← eS_540] at hw
            have ph_541 : c_455 + Phc S_540 ≤ Phc S + 0 := by rw [show Phc S_540 = Phc S_517 from Ph_sA eS_540]; exact ph_518
            have ph_542 : n_456 + Phs S_540 ≤ Phs S + 0 := by rw [show Phs S_540 = Phs S_517 from Ph_sA eS_540]; exact ph_519
            clear ph_518
            clear ph_519
            have hO_543 : Og eMO S S_540 := hO_520.sA eS_540 t_536 (by decide +kernel) (uA_14 hO_520.1 t_536)
            have h_544 : pA S_540 q_468 (Int32.toNatClampNeg (v_19)) = v_36 := tA_sAs eS_540
            refine lv_aload_n X.1 X.2.1 dX9_addMetreOf_119 rfl (lv_at hl 2 rfl) ?_
            refine lv_aload_n X.1 X.2.1 dX9_addMetreOf_120 rfl (lv_at hl 1 rfl) ?_
            have t_545 : At S_540 x 29 := tAt_sA eS_540 t_522
            have t_546 : pI S_540 904 x = v_19 := tI_sA eS_540 t_526
            refine r_getI (g := 904) (x := v_19) X hw t_545 rfl 4 t_546 (by decide) rfl inn_X9_addMetreOf_9 (by decide) (X.2.2.2.1 (.fieldLink RX9 43 "SilkMill$Strand" "pieces" "I") (by decide +kernel)) rfl (gv_904 _ _) dX9_addMetreOf_121 ?_
            have t_547 : At S_540 c1 0 := tAt_sA eS_540 t_529
            refine r_putI (v := v_19) X hw t_547 rfl 6 6 tyX0 (by decide) rfl inn_X9_addMetreOf_0 tyX0_ok nmX0 (by decide) (X.2.2.2.1 (.fieldLink RX9 52 "SilkMill$Cocoon" "latestPiece" "I") (by decide +kernel)) rfl (Or.inl rfl) rfl rfl (Nat.le_of_ble_eq_true rfl) (st_6 _ _) dX9_addMetreOf_124 (fun H locs hw => ?_)
            obtain ⟨S_548, eS_548⟩ : ∃ T, T = sI S_540 6 c1 (v_19) := ⟨_, rfl⟩
            rw [← eS_548] at hw
            have ph_549 : c_455 + Phc S_548 ≤ Phc S + 0 := by rw [show Phc S_548 = Phc S_540 from Ph_sI eS_548 rfl rfl]; exact ph_541
            have ph_550 : n_456 + Phs S_548 ≤ Phs S + 0 := by rw [show Phs S_548 = Phs S_540 from Ph_sI eS_548 rfl rfl]; exact ph_542
            clear ph_541
            clear ph_542
            have hO_551 : Og eMO S S_548 := hO_543.sI eS_548 (by decide +kernel) (uI_0_6 hO_543.1 t_547)
            have h_552 : pI S_548 6 c1 = v_19 := tI_sIs eS_548
            refine lv_aload_n X.1 X.2.1 dX9_addMetreOf_127 rfl (lv_at hl 1 rfl) ?_
            refine lv_dup X.1 X.2.1 dX9_addMetreOf_128 rfl ?_
            have t_553 : At S_548 x 29 := tAt_sI eS_548 t_545
            have t_554 : pI S_548 904 x = v_19 := tI_sI eS_548 rfl t_546
            refine r_getI (g := 904) (x := v_19) X hw t_553 rfl 4 t_554 (by decide) rfl inn_X9_addMetreOf_9 (by decide) (X.2.2.2.1 (.fieldLink RX9 43 "SilkMill$Strand" "pieces" "I") (by decide +kernel)) rfl (gv_904 _ _) dX9_addMetreOf_129 ?_
            refine lv_iconst (v := 1) X.1 X.2.1 dX9_addMetreOf_132 (by decide) ?_
            refine lv_iadd X.1 X.2.1 dX9_addMetreOf_133 ?_
            refine lv_topi (fun v_555 ev_555 => ?_)
            have z_556 : v_555.toInt = v_19.toInt + 1 := z_add ev_555 rfl ti_1 (by omega) (by omega)
            have t_557 : pR S_494 905 x = some q_465 := tR_sA eS_494 h_470
            have t_558 : pR S_504 905 x = some q_465 := tR_sA eS_504 t_557
            have t_559 : pR S_517 905 x = some q_465 := tR_sA eS_517 t_558
            have t_560 : pR S_540 905 x = some q_465 := tR_sA eS_540 t_559
            have t_561 : pR S_548 905 x = some q_465 := tR_sI eS_548 t_560
            have t_562 : pN S_494 q_465 = n_469 := tN_sA eS_494 h_478
            clear h_478
            have t_563 : pN S_504 q_465 = n_469 := tN_sA eS_504 t_562
            clear t_562
            have t_564 : pN S_517 q_465 = n_469 := tN_sA eS_517 t_563
            clear t_563
            have t_565 : pN S_540 q_465 = n_469 := tN_sA eS_540 t_564
            clear t_564
            have t_566 : pN S_548 q_465 = n_469 := tN_sI eS_548 t_565
            clear t_565
            refine r_putI (v := v_555) X hw t_553 rfl 4 904 tyX9 (by decide) rfl inn_X9_addMetreOf_9 tyX9_ok nmX9 (by decide) (X.2.2.2.1 (.fieldLink RX9 43 "SilkMill$Strand" "pieces" "I") (by decide +kernel)) rfl (Or.inl rfl) rfl rfl (Nat.le_of_ble_eq_true rfl) (st_904 _ _) dX9_addMetreOf_134 (fun H locs hw => ?_)
            obtain ⟨S_567, eS_567⟩ : ∃ T, T = sI S_548 904 x (v_555) := ⟨_, rfl⟩
            rw [← eS_567] at hw
            have ph_568 : c_455 + Phc S_567 ≤ Phc S + 0 := by rw [show Phc S_567 = Phc S_548 from Ph_sI eS_567 rfl rfl]; exact ph_549
            have ph_569 : n_456 + Phs S_567 ≤ Phs S + 0 := by rw [show Phs S_567 = Phs S_548 from Ph_sI eS_567 rfl rfl]; exact ph_550
            clear ph_549
            clear ph_550
            have hO_570 : Og eMO S S_567 := hO_551.sI eS_567 (by decide +kernel) (uI_29_904 hO_551.1 t_553 t_561 t_566 (by omega) (by omega))
            have h_571 : pI S_567 904 x = v_555 := tI_sIs eS_567
            have hn_572 : Int32.toNatClampNeg (v_19) = (pI S 904 x).toInt.toNat := by rw [ev_19]; exact z_nc rfl (by omega)
            exact ret_gv X hw hr hlocks (by show c_455 ≤ Phc S + 4; omega) (by show n_456 ≤ Phs S + 14400; omega) (by omega) (by omega) ⟨hO_570, Or.inr (Or.inr ⟨(fun h => by obtain ⟨h0, h1, h2, h3⟩ := h; rw [ld_441, ld_444, ← ev_445] at h3; have h4 := congrArg Int32.toInt h3; omega), by omega, S_454, S_494, S_504, S_517, S_540, S_548, q_465, q_466, q_467, q_468, mr_462, ⟨h_470, h_471, h_472, h_473⟩, by rw [← hn_572, cd_491]; exact eS_494, by rw [← hn_572]; exact eS_504, by rw [← hn_572]; exact eS_517, by rw [← hn_572, ev_36]; exact eS_540, by rw [ev_19]; exact eS_548, by rw [ev_19, ← ev_555]; exact eS_567⟩)⟩ dX9_addMetreOf_137
          · have z_b_573 := trivial
            have k_574 : v_19.toInt ≥ 3600 := z_nlt rfl ti_3600 c_450
            exact ret_gv X hw hr hlocks (by show 0 ≤ Phc S + 4; omega) (by show 0 ≤ Phs S + 14400; omega) (by omega) (by omega) ⟨hO, Or.inr (Or.inl ⟨(fun h => by obtain ⟨h0, h1, h2, h3⟩ := h; rw [ld_441, ld_444, ← ev_445] at h3; have h4 := congrArg Int32.toInt h3; omega), by omega, rfl⟩)⟩ dX9_addMetreOf_68
        · have z_b_575 := trivial
          have k_576 : v_445.toInt = a1_z := z_eq rfl hz_a1 c_447
          refine lv_aload_n X.1 X.2.1 dX9_addMetreOf_47 rfl (lv_at hl 1 rfl) ?_
          refine r_getR (g := 907) X hw ha_x rfl 7 h_8 (by decide) rfl inn_X9_addMetreOf_9 (by decide) (X.2.2.2.1 (.fieldLink RX9 24 "SilkMill$Strand" "lengths" "[I") (by decide +kernel)) rfl (gv_907 _ _) dX9_addMetreOf_48 ?_
          refine lv_iload_n X.1 X.2.1 dX9_addMetreOf_51 rfl (lv_at hl 0 rfl) ?_
          refine lv_dup2_11 X.1 X.2.1 dX9_addMetreOf_52 rfl rfl ?_
          refine r_iald X hw h_12 rfl (by rw [h_16]; exact z_ix rfl (by omega) (by omega)) dX9_addMetreOf_53 ?_
          rw [ev_442]
          refine lv_iconst (v := 1) X.1 X.2.1 dX9_addMetreOf_54 (by decide) ?_
          refine lv_iadd X.1 X.2.1 dX9_addMetreOf_55 ?_
          refine lv_topi (fun v_577 ev_577 => ?_)
          have rg_578 := And.intro (z_lo v_577) (z_hi v_577)
          refine r_iast X hw h_12 rfl (by rw [h_16]; exact z_ix rfl (by omega) (by omega)) dX9_addMetreOf_56 (fun H locs hw => ?_)
          obtain ⟨S_579, eS_579⟩ : ∃ T, T = sA S q_3 (upd (pA S q_3) (Int32.toNatClampNeg (v_23)) (v_577)) := ⟨_, rfl⟩
          rw [← eS_579] at hw
          have ph_580 : 0 + Phc S_579 ≤ Phc S + 0 := by rw [show Phc S_579 = Phc S from Ph_sA eS_579]; exact hpc0
          have ph_581 : 0 + Phs S_579 ≤ Phs S + 0 := by rw [show Phs S_579 = Phs S from Ph_sA eS_579]; exact hps0
          clear hpc0
          clear hps0
          have hO_582 : Og eMO S S_579 := hO.sA eS_579 h_12 (by decide +kernel) (uA_14 hO.1 h_12)
          have h_583 : pA S_579 q_3 (Int32.toNatClampNeg (v_23)) = v_577 := tA_sAs eS_579
          exact ret_gv X hw hr hlocks (by show 0 ≤ Phc S + 4; omega) (by show 0 ≤ Phs S + 14400; omega) (by omega) (by omega) ⟨hO_582, Or.inl ⟨⟨by omega, by omega, ld_302.trans ((show v_300 = rr_303 from Int32.toInt_inj.mp (by omega)).trans cd_308.symm), by rw [ld_441, ld_444, ← ev_445]; exact Int32.toInt_inj.mp (by omega)⟩, q_3, h_8, by rw [ev_23, ← z_nc (x := v_23) rfl (by omega), ev_442, ← ev_577]; exact eS_579⟩⟩ dX9_addMetreOf_57
