/-! ===== a pot, as a function of its rows ===== -/
abbrev Mt : Type := List (Nat × Int32)
abbrev Sk : Type := Int32 × Int32 × Int32 × List Mt
def Pt : Type := List Nat × List Nat × List Nat × Int32 × Int32 × List Mt × (Nat → Int32) × (Nat → Int32) × List Sk × List (List Mt) × Int32 × Int32
def qb (A : Pt) : List Nat := A.1
def qe (A : Pt) : List Nat := A.2.1
def ql (A : Pt) : List Nat := A.2.2.1
def qst (A : Pt) : Int32 := A.2.2.2.1
def qse (A : Pt) : Int32 := A.2.2.2.2.1
def qg (A : Pt) : List Mt := A.2.2.2.2.2.1
def qpl (A : Pt) : Nat → Int32 := A.2.2.2.2.2.2.1
def qsd (A : Pt) : Nat → Int32 := A.2.2.2.2.2.2.2.1
def qsk (A : Pt) : List Sk := A.2.2.2.2.2.2.2.2.1
def qws (A : Pt) : List (List Mt) := A.2.2.2.2.2.2.2.2.2.1
def qdr (A : Pt) : Int32 := A.2.2.2.2.2.2.2.2.2.2.1
def qtk (A : Pt) : Int32 := A.2.2.2.2.2.2.2.2.2.2.2
def pmk (b e l : List Nat) (st se : Int32) (g : List Mt) (pl sd : Nat → Int32) (sk : List Sk) (ws : List (List Mt)) (dr tk : Int32) : Pt := (b, e, l, st, se, g, pl, sd, sk, ws, dr, tk)
def wb (A : Pt) (v : List Nat) : Pt := pmk v (qe A) (ql A) (qst A) (qse A) (qg A) (qpl A) (qsd A) (qsk A) (qws A) (qdr A) (qtk A)
def we (A : Pt) (v : List Nat) : Pt := pmk (qb A) v (ql A) (qst A) (qse A) (qg A) (qpl A) (qsd A) (qsk A) (qws A) (qdr A) (qtk A)
def wl (A : Pt) (v : List Nat) : Pt := pmk (qb A) (qe A) v (qst A) (qse A) (qg A) (qpl A) (qsd A) (qsk A) (qws A) (qdr A) (qtk A)
def wst (A : Pt) (v : Int32) : Pt := pmk (qb A) (qe A) (ql A) v (qse A) (qg A) (qpl A) (qsd A) (qsk A) (qws A) (qdr A) (qtk A)
def wse (A : Pt) (v : Int32) : Pt := pmk (qb A) (qe A) (ql A) (qst A) v (qg A) (qpl A) (qsd A) (qsk A) (qws A) (qdr A) (qtk A)
def wg (A : Pt) (v : List Mt) : Pt := pmk (qb A) (qe A) (ql A) (qst A) (qse A) v (qpl A) (qsd A) (qsk A) (qws A) (qdr A) (qtk A)
def wpl (A : Pt) (v : Nat → Int32) : Pt := pmk (qb A) (qe A) (ql A) (qst A) (qse A) (qg A) v (qsd A) (qsk A) (qws A) (qdr A) (qtk A)
def wsd (A : Pt) (v : Nat → Int32) : Pt := pmk (qb A) (qe A) (ql A) (qst A) (qse A) (qg A) (qpl A) v (qsk A) (qws A) (qdr A) (qtk A)
def wsk (A : Pt) (v : List Sk) (u : List (List Mt)) : Pt := pmk (qb A) (qe A) (ql A) (qst A) (qse A) (qg A) (qpl A) (qsd A) v u (qdr A) (qtk A)
def wdr (A : Pt) (v : Int32) : Pt := pmk (qb A) (qe A) (ql A) (qst A) (qse A) (qg A) (qpl A) (qsd A) (qsk A) (qws A) v (qtk A)
def wtk (A : Pt) (v : Int32) : Pt := pmk (qb A) (qe A) (ql A) (qst A) (qse A) (qg A) (qpl A) (qsd A) (qsk A) (qws A) (qdr A) v
def fuI (f : Nat → Int32) (c : Nat) (v : Int32) : Nat → Int32 := fun a => if a = c then v else f a
/-- a cocoon's length, its fineness and its breaks by the place; the day, the pot's number, its aim, its find -/
def En : Type := (Nat → Int32) × (Nat → Int32 → Int32) × (Nat → Int32 → Prop) × Int32 × Int32 × Int32 × Int32
def elen (E : En) : Nat → Int32 := E.1
def efn (E : En) : Nat → Int32 → Int32 := E.2.1
def ebr (E : En) : Nat → Int32 → Prop := E.2.2.1
def eday (E : En) : Int32 := E.2.2.2.1
def epot (E : En) : Int32 := E.2.2.2.2.1
def eaim (E : En) : Int32 := E.2.2.2.2.2.1
def efind (E : En) : Int32 := E.2.2.2.2.2.2
def fetF (A : Pt) : Pt := match ql A with
  | [] => wse A 0
  | c :: t => wse (wl (wb (wsd A (fuI (qsd A) c 1)) (capL 600 (qb A) c)) t) (if t = [] then 0 else qse A)
theorem fetF_n {A : Pt} (h : ql A = []) : fetF A = wse A 0 := by
  unfold fetF
  rw [h]
theorem fetF_c {A : Pt} {c : Nat} {t : List Nat} (h : ql A = c :: t) : fetF A = wse (wl (wb (wsd A (fuI (qsd A) c 1)) (capL 600 (qb A) c)) t) (if t = [] then 0 else qse A) := by
  unfold fetF
  rw [h]
def seaF (E : En) (A : Pt) : Pt := if ql A = [] then A else if (qse A + 1).toInt < (efind E).toInt then wse A (qse A + 1) else fetF (wse A 0)
theorem seaF_n {E : En} {A : Pt} (h : ql A = []) : seaF E A = A := if_pos h
theorem seaF_w {E : En} {A : Pt} (h : ql A ≠ []) (h2 : (qse A + 1).toInt < (efind E).toInt) : seaF E A = wse A (qse A + 1) := (if_neg h).trans (if_pos h2)
theorem seaF_f {E : En} {A : Pt} (h : ql A ≠ []) (h2 : ¬ (qse A + 1).toInt < (efind E).toInt) : seaF E A = fetF (wse A 0) := (if_neg h).trans (if_neg h2)
def casF (A : Pt) : Pt := match qb A with
  | [] => A
  | c :: t => if (qe A).length < 12 then we (wb (wsd A (fuI (qsd A) c 2)) t) (capL 12 (qe A) c) else A
theorem casF_n {A : Pt} (h : qb A = [] ∨ ¬ (qe A).length < 12) : casF A = A := by
  unfold casF
  split
  · rfl
  · rename_i c t e
    rcases h with h | h
    · rw [h] at e; cases e
    · exact if_neg h
theorem casF_c {A : Pt} {c : Nat} {t : List Nat} (h : qb A = c :: t) (h2 : (qe A).length < 12) : casF A = we (wb (wsd A (fuI (qsd A) c 2)) t) (capL 12 (qe A) c) := by
  unfold casF
  rw [h]
  exact if_pos h2
def finF (E : En) (A : Pt) : Nat → Int32 := fun c => efn E c (qpl A c)
def thiF (E : En) (A : Pt) : Int := (thN (fun c => (finF E A c).toInt) (qe A) (qe A).length).1
def droF (E : En) (A : Pt) : Pt := if 0 ≤ thiF E A then (match (qe A)[(thiF E A).toNat]? with
  | some c => wb (we (wsd A (fuI (qsd A) c 1)) ((qe A).eraseIdx (thiF E A).toNat)) (capF 600 (qb A) c)
  | none => A) else A
theorem droF_n {E : En} {A : Pt} (h : ¬ (0 ≤ thiF E A ∧ thiF E A < ((qe A).length : Int))) : droF E A = A := by
  unfold droF
  split
  · rename_i h0
    rw [List.getElem?_eq_none_iff.mpr (by omega)]
  · rfl
theorem droF_c {E : En} {A : Pt} {c : Nat} (h0 : 0 ≤ thiF E A) (h : (qe A)[(thiF E A).toNat]? = some c) : droF E A = wb (we (wsd A (fuI (qsd A) c 1)) ((qe A).eraseIdx (thiF E A).toNat)) (capF 600 (qb A) c) := by
  unfold droF
  rw [if_pos h0, h]
def fndF (A : Pt) : Pt := if ql A = [] then A else wst (fetF A) (qst (fetF A) + 2)
def throF (A : Pt) : Pt := match (qb A)[(qb A).length - 1]? with
  | some c => wb (wsd A (fuI (qsd A) c 6)) ((qb A).eraseIdx ((qb A).length - 1))
  | none => A
theorem throF_n {A : Pt} (h : qb A = []) : throF A = A := by
  unfold throF
  rw [h]
  rfl
theorem throF_c {A : Pt} {c : Nat} (h : (qb A)[(qb A).length - 1]? = some c) : throF A = wb (wsd A (fuI (qsd A) c 6)) ((qb A).eraseIdx ((qb A).length - 1)) := by
  unfold throF
  rw [h]
def cutF (E : En) (A : Pt) : Pt := if qg A = [] then A else if (qsk A).length < 40 then wg (wsk A (qsk A ++ [(epot E, eday E, eaim E, qg A)]) (qws A)) [] else wg (wsk A (qsk A) (qws A ++ [qg A])) []
theorem cutF_n {E : En} {A : Pt} (h : qg A = []) : cutF E A = A := if_pos h
theorem cutF_k {E : En} {A : Pt} (h : qg A ≠ []) (h2 : (qsk A).length < 40) : cutF E A = wg (wsk A (qsk A ++ [(epot E, eday E, eaim E, qg A)]) (qws A)) [] := (if_neg h).trans (if_pos h2)
theorem cutF_w {E : En} {A : Pt} (h : qg A ≠ []) (h2 : ¬ (qsk A).length < 40) : cutF E A = wg (wsk A (qsk A) (qws A ++ [qg A])) [] := (if_neg h).trans (if_neg h2)
def actF (E : En) (a m : Int32) (A : Pt) : Pt := if a = 0 then casF A else if a = 1 then droF E A else if a = 2 then fndF A else if a = 3 then throF A else if a = 4 then cutF E A else wst A (qst A + m)
def valF (E : En) (A : Pt) (f : Int32) : Int := if f = 0 then (suL (finF E A) (qe A)).toInt else if f = 1 then ((qe A).length : Int) else if f = 2 then ((qb A).length : Int) else if f = 3 then ((ql A).length : Int) else if f = 4 then ((qg A).length : Int) else if f = 5 then (match (qe A)[(thiF E A).toNat]? with | some c => if 0 ≤ thiF E A then (finF E A c).toInt else 0 | none => 0) else (eday E).toInt
def relP (r : Int32) (v n : Int) : Prop := if r = 60 then v < n else if r = 61 then v = n else n < v
def allP (E : En) (A : Pt) (L : List (Int32 × Int32 × Int32)) : Prop := ∀ c, c ∈ L → relP c.2.1 (valF E A c.1) c.2.2.toInt
noncomputable def ruF (E : En) (A : Pt) (r : Ru) : Pt := @ite Pt (allP E A r.2.2) (Classical.propDecidable _) (actF E r.1 r.2.1 A) A
noncomputable def rusF (E : En) (A : Pt) (R : List Ru) : Pt := R.foldl (ruF E) A
/-- one end is drawn: it has been taken from the front -/
noncomputable def endF (E : En) (A : Pt) (c : Nat) : Pt :=
  let p := qpl A c + 1
  let v := if (elen E c).toInt ≤ p.toInt then 4 else @ite Int32 (ebr E c (qpl A c)) (Classical.propDecidable _) 3 (qsd A c)
  let B := wsd (wpl A (fuI (qpl A) c p)) (fuI (qsd A) c v)
  if v = 2 then we B (capL 12 (qe B) c) else if v = 3 then wl B (capL 600 (ql B) c) else B
noncomputable def stpF (E : En) (A : Pt) : Pt := match qe A with
  | [] => A
  | c :: t => endF E (we A t) c
theorem stpF_n {E : En} {A : Pt} (h : qe A = []) : stpF E A = A := by
  unfold stpF
  rw [h]
theorem stpF_c {E : En} {A : Pt} {c : Nat} {t : List Nat} (h : qe A = c :: t) : stpF E A = endF E (we A t) c := by
  unfold stpF
  rw [h]
noncomputable def endsF (E : En) : Nat → Pt → Pt
  | 0, A => A
  | n + 1, A => stpF E (endsF E n A)
def capG (g : List Mt) (m : Mt) : List Mt := if g.length < 300 then g ++ [m] else g
theorem capG_y {g : List Mt} {m : Mt} (h : g.length < 300) : ((capG g m).length : Int) = (g.length : Int) + 1 := by
  unfold capG
  rw [if_pos h, List.length_append]
  rfl
theorem capG_n {g : List Mt} {m : Mt} (h : ¬ g.length < 300) : capG g m = g := if_neg h
noncomputable def drwF (E : En) (A : Pt) : Pt :=
  let B := endsF E (qe A).length (wdr (wg A (capG (qg A) ((qe A).map (fun c => (c, qpl A c))))) (qdr A + 1))
  if 300 ≤ (qg B).length then cutF E B else B
noncomputable def ticF (E : En) (R : List Ru) (A : Pt) : Pt × Prop :=
  let B := seaF E (wtk A (qtk A + 1))
  let C := if qst B = 0 then rusF E B R else B
  if 0 < (qst C).toInt then (wst C (qst C - 1), False) else if qe C = [] then (C, False) else (drwF E C, True)
theorem fndF_n {A : Pt} (h : ql A = []) : fndF A = A := if_pos h
theorem fndF_c {A : Pt} (h : ql A ≠ []) : fndF A = wst (fetF A) (qst (fetF A) + 2) := if_neg h
theorem i32_ne {f : Int32} {z c : Int} {k : Int32} (h : f.toInt = z) (hk : k.toInt = c) (hn : z ≠ c) : ¬ f = k := fun e => by
  rw [e, hk] at h
  omega
theorem i32_eq {f : Int32} {z c : Int} {k : Int32} (h : f.toInt = z) (hk : k.toInt = c) (hn : z = c) : f = k := Int32.toInt_inj.mp (by rw [h, hk, hn])
theorem t0 : (0 : Int32).toInt = 0 := by decide
theorem t1 : (1 : Int32).toInt = 1 := by decide
theorem t2 : (2 : Int32).toInt = 2 := by decide
theorem t3 : (3 : Int32).toInt = 3 := by decide
theorem t4 : (4 : Int32).toInt = 4 := by decide
theorem t5 : (5 : Int32).toInt = 5 := by decide
theorem valF_0 {E : En} {A : Pt} {f : Int32} (h : f.toInt = 0) : valF E A f = (suL (finF E A) (qe A)).toInt := if_pos (i32_eq h t0 rfl)
theorem valF_1 {E : En} {A : Pt} {f : Int32} (h : f.toInt = 1) : valF E A f = ((qe A).length : Int) := by
  unfold valF
  rw [if_neg (i32_ne h t0 (by decide)), if_pos (i32_eq h t1 rfl)]
theorem valF_2 {E : En} {A : Pt} {f : Int32} (h : f.toInt = 2) : valF E A f = ((qb A).length : Int) := by
  unfold valF
  rw [if_neg (i32_ne h t0 (by decide)), if_neg (i32_ne h t1 (by decide)), if_pos (i32_eq h t2 rfl)]
theorem valF_3 {E : En} {A : Pt} {f : Int32} (h : f.toInt = 3) : valF E A f = ((ql A).length : Int) := by
  unfold valF
  rw [if_neg (i32_ne h t0 (by decide)), if_neg (i32_ne h t1 (by decide)), if_neg (i32_ne h t2 (by decide)), if_pos (i32_eq h t3 rfl)]
theorem valF_4 {E : En} {A : Pt} {f : Int32} (h : f.toInt = 4) : valF E A f = ((qg A).length : Int) := by
  unfold valF
  rw [if_neg (i32_ne h t0 (by decide)), if_neg (i32_ne h t1 (by decide)), if_neg (i32_ne h t2 (by decide)), if_neg (i32_ne h t3 (by decide)), if_pos (i32_eq h t4 rfl)]
theorem valF_5 {E : En} {A : Pt} {f : Int32} (h : f.toInt = 5) : valF E A f = (match (qe A)[(thiF E A).toNat]? with | some c => if 0 ≤ thiF E A then (finF E A c).toInt else 0 | none => 0) := by
  unfold valF
  rw [if_neg (i32_ne h t0 (by decide)), if_neg (i32_ne h t1 (by decide)), if_neg (i32_ne h t2 (by decide)), if_neg (i32_ne h t3 (by decide)), if_neg (i32_ne h t4 (by decide)), if_pos (i32_eq h t5 rfl)]
theorem valF_5c {E : En} {A : Pt} {f : Int32} {c : Nat} (h : f.toInt = 5) (h0 : 0 ≤ thiF E A) (hc : (qe A)[(thiF E A).toNat]? = some c) : valF E A f = (finF E A c).toInt := by
  rw [valF_5 h, hc]
  exact if_pos h0
theorem valF_5n {E : En} {A : Pt} {f : Int32} (h : f.toInt = 5) (hn : ¬ (0 ≤ thiF E A ∧ thiF E A < ((qe A).length : Int))) : valF E A f = 0 := by
  rw [valF_5 h]
  cases e : (qe A)[(thiF E A).toNat]? with
  | none => rfl
  | some c =>
    show (if 0 ≤ thiF E A then (finF E A c).toInt else 0) = 0
    rw [if_neg (fun z => hn ⟨z, by
      have := (List.getElem?_eq_some_iff.mp e).1
      omega⟩)]
theorem valF_d {E : En} {A : Pt} {f : Int32} {z : Int} (h : f.toInt = z) (hz : z < 0 ∨ 5 < z) : valF E A f = (eday E).toInt := by
  unfold valF
  rw [if_neg (i32_ne h t0 (by omega)), if_neg (i32_ne h t1 (by omega)), if_neg (i32_ne h t2 (by omega)), if_neg (i32_ne h t3 (by omega)), if_neg (i32_ne h t4 (by omega)), if_neg (i32_ne h t5 (by omega))]
theorem actF_0 {E : En} {A : Pt} {a m : Int32} (h : a.toInt = 0) : actF E a m A = casF A := if_pos (i32_eq h t0 rfl)
theorem actF_1 {E : En} {A : Pt} {a m : Int32} (h : a.toInt = 1) : actF E a m A = droF E A := by
  unfold actF
  rw [if_neg (i32_ne h t0 (by decide)), if_pos (i32_eq h t1 rfl)]
theorem actF_2 {E : En} {A : Pt} {a m : Int32} (h : a.toInt = 2) : actF E a m A = fndF A := by
  unfold actF
  rw [if_neg (i32_ne h t0 (by decide)), if_neg (i32_ne h t1 (by decide)), if_pos (i32_eq h t2 rfl)]
theorem actF_3 {E : En} {A : Pt} {a m : Int32} (h : a.toInt = 3) : actF E a m A = throF A := by
  unfold actF
  rw [if_neg (i32_ne h t0 (by decide)), if_neg (i32_ne h t1 (by decide)), if_neg (i32_ne h t2 (by decide)), if_pos (i32_eq h t3 rfl)]
theorem actF_4 {E : En} {A : Pt} {a m : Int32} (h : a.toInt = 4) : actF E a m A = cutF E A := by
  unfold actF
  rw [if_neg (i32_ne h t0 (by decide)), if_neg (i32_ne h t1 (by decide)), if_neg (i32_ne h t2 (by decide)), if_neg (i32_ne h t3 (by decide)), if_pos (i32_eq h t4 rfl)]
theorem actF_d {E : En} {A : Pt} {a m : Int32} {z : Int} (h : a.toInt = z) (hz : z < 0 ∨ 4 < z) : actF E a m A = wst A (qst A + m) := by
  unfold actF
  rw [if_neg (i32_ne h t0 (by omega)), if_neg (i32_ne h t1 (by omega)), if_neg (i32_ne h t2 (by omega)), if_neg (i32_ne h t3 (by omega)), if_neg (i32_ne h t4 (by omega))]
theorem ruF_y {E : En} {A : Pt} {r : Ru} (h : allP E A r.2.2) : ruF E A r = actF E r.1 r.2.1 A := if_pos h
theorem ruF_n {E : En} {A : Pt} {r : Ru} (h : ¬ allP E A r.2.2) : ruF E A r = A := if_neg h
theorem rusF_s {E : En} {A : Pt} {R : List Ru} {k : Nat} {r : Ru} (h : R[k]? = some r) : rusF E A (R.take (k + 1)) = ruF E (rusF E A (R.take k)) r := by
  unfold rusF
  rw [List.take_succ, h, List.foldl_append]
  rfl
/-! ===== a pot of the class stands for a state ===== -/
def PotR (S : PS) (P R0 R1 R2 G : Nat) : Prop := pR S 400 P = some R0 ∧ pR S 401 P = some R1 ∧ pR S 402 P = some R2 ∧ pR S 403 P = some G ∧ (R0 ≠ R1 ∧ R0 ≠ R2 ∧ R1 ≠ R2) ∧ pR S 501 R0 ≠ pR S 501 R1 ∧ pR S 501 R0 ≠ pR S 501 R2 ∧ pR S 501 R1 ≠ pR S 501 R2
theorem PotR_fr {M : List Nat} {S T : PS} {P R0 R1 R2 G : Nat} (hG : GX S) (hP : At S P 4) (hF : Fr M S T) (hM : ([400, 401, 402, 403, 501] : List Nat).all (fun g => !M.contains g) = true) (h : PotR S P R0 R1 R2 G) : PotR T P R0 R1 R2 G := by
  obtain ⟨h0, h1, h2, h3, h4, h5, h6, h7⟩ := h
  have a0 := row_at hG hP (Or.inl h0)
  have a1 := row_at hG hP (Or.inr (Or.inl h1))
  have a2 := row_at hG hP (Or.inr (Or.inr h2))
  refine ⟨hF.R' (allc hM (by decide)) hP h0, hF.R' (allc hM (by decide)) hP h1, hF.R' (allc hM (by decide)) hP h2, hF.R' (allc hM (by decide)) hP h3, h4, ?_, ?_, ?_⟩
  · rw [frR hF (allc hM (by decide)) a0.1, frR hF (allc hM (by decide)) a1.1]; exact h5
  · rw [frR hF (allc hM (by decide)) a0.1, frR hF (allc hM (by decide)) a2.1]; exact h6
  · rw [frR hF (allc hM (by decide)) a1.1, frR hF (allc hM (by decide)) a2.1]; exact h7
def CoP (S : PS) (D : Nat → Prop) (pl sd : Nat → Int32) : Prop := ∀ c, D c → pI S 4 c = pl c ∧ pI S 3 c = sd c
theorem CoP_sI {S T : PS} {D : Nat → Prop} {pl sd : Nat → Int32} {g a : Nat} {v : Int32} (h : CoP S D pl sd) (e : T = sI S g a v) (h3 : 3 ≠ g) (h4 : 4 ≠ g) : CoP T D pl sd := fun c hc => by
  subst e
  rw [pI_sI_nf h4, pI_sI_nf h3]
  exact h c hc
theorem CoP_s3 {S T : PS} {D : Nat → Prop} {pl sd : Nat → Int32} {a : Nat} {v : Int32} (h : CoP S D pl sd) (e : T = sI S 3 a v) : CoP T D pl (fuI sd a v) := fun c hc => by
  subst e
  refine ⟨by rw [pI_sI_nf (by decide)]; exact (h c hc).1, ?_⟩
  unfold fuI
  by_cases z : c = a
  · rw [if_pos z, z]; exact pI_sI_same
  · rw [if_neg z, pI_sI_ne z]; exact (h c hc).2
theorem CoP_fr {M : List Nat} {S T : PS} {D : Nat → Prop} {pl sd : Nat → Int32} (hF : Fr M S T) (hD : ∀ c, D c → At S c 0) (hM : ([3, 4] : List Nat).all (fun g => !M.contains g) = true) (h : CoP S D pl sd) : CoP T D pl sd := fun c hc => by
  rw [hF.I' (g := 4) (allc hM (by decide)) (hD c hc) rfl, hF.I' (g := 3) (allc hM (by decide)) (hD c hc) rfl]
  exact h c hc
def InD (D : Nat → Prop) (A : Pt) : Prop := ∀ c, c ∈ qb A ∨ c ∈ qe A ∨ c ∈ ql A → D c
theorem capL_mem {n c d : Nat} {L : List Nat} (h : d ∈ capL n L c) : d ∈ L ∨ d = c := by
  unfold capL at h
  split at h
  · rcases List.mem_append.mp h with z | z
    · exact Or.inl z
    · exact Or.inr (List.mem_singleton.mp z)
  · exact Or.inl h
theorem capF_mem {n c d : Nat} {L : List Nat} (h : d ∈ capF n L c) : d ∈ L ∨ d = c := by
  unfold capF at h
  split at h
  · rcases List.mem_cons.mp h with z | z
    · exact Or.inr z
    · exact Or.inl z
  · exact Or.inl h
theorem er_mem {i d : Nat} {L : List Nat} (h : d ∈ L.eraseIdx i) : d ∈ L := List.mem_of_mem_eraseIdx h
theorem ix_mem {i d : Nat} {L : List Nat} (h : L[i]? = some d) : d ∈ L := List.mem_of_getElem? h
theorem inD_fet {D : Nat → Prop} {A : Pt} (h : InD D A) : InD D (fetF A) := by
  cases e : ql A with
  | nil => rw [fetF_n e]; exact h
  | cons c t =>
    rw [fetF_c e]
    intro d hd
    have hc : c ∈ ql A := by rw [e]; exact List.mem_cons_self
    rcases hd with z | z | z
    · rcases capL_mem (show d ∈ capL 600 (qb A) c from z) with y | y
      · exact h d (Or.inl y)
      · rw [y]; exact h c (Or.inr (Or.inr hc))
    · exact h d (Or.inr (Or.inl z))
    · exact h d (Or.inr (Or.inr (by rw [e]; exact List.mem_cons_of_mem _ z)))
theorem inD_sea {E : En} {D : Nat → Prop} {A : Pt} (h : InD D A) : InD D (seaF E A) := by
  unfold seaF
  split
  · exact h
  · split
    · exact h
    · exact inD_fet (A := wse A 0) h
theorem inD_cas {D : Nat → Prop} {A : Pt} (h : InD D A) : InD D (casF A) := by
  cases e : qb A with
  | nil => rw [casF_n (Or.inl e)]; exact h
  | cons c t =>
    by_cases e2 : (qe A).length < 12
    · rw [casF_c e e2]
      intro d hd
      have hc : c ∈ qb A := by rw [e]; exact List.mem_cons_self
      rcases hd with z | z | z
      · exact h d (Or.inl (by rw [e]; exact List.mem_cons_of_mem _ z))
      · rcases capL_mem (show d ∈ capL 12 (qe A) c from z) with y | y
        · exact h d (Or.inr (Or.inl y))
        · rw [y]; exact h c (Or.inl hc)
      · exact h d (Or.inr (Or.inr z))
    · rw [casF_n (Or.inr e2)]; exact h
theorem inD_dro {E : En} {D : Nat → Prop} {A : Pt} (h : InD D A) : InD D (droF E A) := by
  by_cases h0 : 0 ≤ thiF E A
  · cases e : (qe A)[(thiF E A).toNat]? with
    | none => rw [droF_n (by have := List.getElem?_eq_none_iff.mp e; omega)]; exact h
    | some c =>
      rw [droF_c h0 e]
      intro d hd
      have hc : c ∈ qe A := ix_mem e
      rcases hd with z | z | z
      · rcases capF_mem (show d ∈ capF 600 (qb A) c from z) with y | y
        · exact h d (Or.inl y)
        · rw [y]; exact h c (Or.inr (Or.inl hc))
      · exact h d (Or.inr (Or.inl (er_mem z)))
      · exact h d (Or.inr (Or.inr z))
  · rw [droF_n (by omega)]; exact h
theorem inD_thr {D : Nat → Prop} {A : Pt} (h : InD D A) : InD D (throF A) := by
  unfold throF
  split
  · intro d hd
    rcases hd with z | z | z
    · exact h d (Or.inl (er_mem z))
    · exact h d (Or.inr (Or.inl z))
    · exact h d (Or.inr (Or.inr z))
  · exact h
theorem inD_fnd {D : Nat → Prop} {A : Pt} (h : InD D A) : InD D (fndF A) := by
  unfold fndF
  split
  · exact h
  · exact inD_fet (A := A) h
theorem inD_cut {E : En} {D : Nat → Prop} {A : Pt} (h : InD D A) : InD D (cutF E A) := by
  unfold cutF
  split
  · exact h
  · split <;> exact h
def PotV (S : PS) (D : Nat → Prop) (P R0 R1 R2 G K : Nat) (A : Pt) : Prop := RowIs S R0 (qb A) 600 ∧ RowIs S R1 (qe A) 12 ∧ RowIs S R2 (ql A) 600 ∧ pI S 405 P = qst A ∧ pI S 406 P = qse A ∧ (pI S 902 G).toInt = ((qg A).length : Int) ∧ pI S 407 P = qdr A ∧ pI S 408 P = qtk A ∧ (pI S 800 K).toInt = ((qsk A).length : Int) ∧ CoP S D (qpl A) (qsd A) ∧ InD D A
theorem PotR_sI {S T : PS} {P R0 R1 R2 G g a : Nat} {v : Int32} (h : PotR S P R0 R1 R2 G) (e : T = sI S g a v) : PotR T P R0 R1 R2 G := by
  subst e
  exact h
theorem RowIs_sz {S : PS} {R n : Nat} {L : List Nat} (h : RowIs S R L n) : (pI S 500 R).toInt = (L.length : Int) := by
  obtain ⟨q, -, -, h3, -⟩ := h
  exact h3
theorem PotV_of {S : PS} {D : Nat → Prop} {P R0 R1 R2 G K : Nat} {F B : Pt} (e : F = B) (h0 : RowIs S R0 (qb B) 600) (h1 : RowIs S R1 (qe B) 12) (h2 : RowIs S R2 (ql B) 600) (h3 : pI S 405 P = qst B) (h4 : pI S 406 P = qse B) (h5 : (pI S 902 G).toInt = ((qg B).length : Int)) (h6 : pI S 407 P = qdr B) (h7 : pI S 408 P = qtk B) (h8 : (pI S 800 K).toInt = ((qsk B).length : Int)) (h9 : CoP S D (qpl B) (qsd B)) (h10 : InD D F) : PotV S D P R0 R1 R2 G K F := by
  rw [e] at h10 ⊢
  exact ⟨h0, h1, h2, h3, h4, h5, h6, h7, h8, h9, h10⟩
/-- what the functions of a tick are told of cocoons, day, pot -/
def EnC (S : PS) (D : Nat → Prop) (P K : Nat) (E : En) : Prop := (∀ c, D c → elen E c = pI S 2 c ∧ (∀ p, efn E c p = fcI (pI S 8 c) (pI S 2 c) p) ∧ ∀ p, ebr E c p ↔ brI (pI S 7 c) (pI S 9 c) (pI S 1 c) p) ∧ eday E = pI S 801 K ∧ epot E = pI S 410 P ∧ eaim E = pI S 404 P ∧ efind E = pI S 411 P
theorem EnC_sI {S T : PS} {D : Nat → Prop} {P K g a : Nat} {v : Int32} {E : En} (h : EnC S D P K E) (e : T = sI S g a v) (hg : ([1, 2, 7, 8, 9, 801, 410, 404, 411] : List Nat).contains g = false) : EnC T D P K E := by
  subst e
  have hn : ∀ k, k ∈ ([1, 2, 7, 8, 9, 801, 410, 404, 411] : List Nat) → ∀ b, pI (sI S g a v) k b = pI S k b := fun k hk b => pI_sI_nf (fun z => by rw [z] at hk; rw [List.contains_iff_mem.mpr hk] at hg; cases hg)
  obtain ⟨h1, h2, h3, h4, h5⟩ := h
  refine ⟨fun c hc => ?_, by rw [hn 801 (by decide)]; exact h2, by rw [hn 410 (by decide)]; exact h3, by rw [hn 404 (by decide)]; exact h4, by rw [hn 411 (by decide)]; exact h5⟩
  rw [hn 1 (by decide), hn 2 (by decide), hn 7 (by decide), hn 8 (by decide), hn 9 (by decide)]
  exact h1 c hc
theorem EnC_fr {M : List Nat} {S T : PS} {D : Nat → Prop} {P K : Nat} {E : En} (hF : Fr M S T) (hD : ∀ c, D c → At S c 0) (hP : At S P 4) (hK : At S K 8) (hM : ([1, 2, 7, 8, 9, 801, 410, 404, 411] : List Nat).all (fun g => !M.contains g) = true) (h : EnC S D P K E) : EnC T D P K E := by
  obtain ⟨h1, h2, h3, h4, h5⟩ := h
  refine ⟨fun c hc => ?_, by rw [hF.I' (g := 801) (allc hM (by decide)) hK rfl]; exact h2, by rw [hF.I' (g := 410) (allc hM (by decide)) hP rfl]; exact h3, by rw [hF.I' (g := 404) (allc hM (by decide)) hP rfl]; exact h4, by rw [hF.I' (g := 411) (allc hM (by decide)) hP rfl]; exact h5⟩
  rw [hF.I' (g := 1) (allc hM (by decide)) (hD c hc) rfl, hF.I' (g := 2) (allc hM (by decide)) (hD c hc) rfl, hF.I' (g := 7) (allc hM (by decide)) (hD c hc) rfl, hF.I' (g := 8) (allc hM (by decide)) (hD c hc) rfl, hF.I' (g := 9) (allc hM (by decide)) (hD c hc) rfl]
  exact h1 c hc
theorem thN_eq {f g : Nat → Int} {L : List Nat} (h : ∀ c, c ∈ L → f c = g c) : ∀ k, thN f L k = thN g L k
  | 0 => rfl
  | k + 1 => by
    have ih := thN_eq h k
    cases e : L[k]? with
    | none =>
      show (match L[k]? with | some c => if f c < (thN f L k).2 then ((k : Int), f c) else thN f L k | none => thN f L k) = (match L[k]? with | some c => if g c < (thN g L k).2 then ((k : Int), g c) else thN g L k | none => thN g L k)
      rw [e]
      exact ih
    | some c =>
      show (match L[k]? with | some c => if f c < (thN f L k).2 then ((k : Int), f c) else thN f L k | none => thN f L k) = (match L[k]? with | some c => if g c < (thN g L k).2 then ((k : Int), g c) else thN g L k | none => thN g L k)
      rw [e]
      show (if f c < (thN f L k).2 then ((k : Int), f c) else thN f L k) = (if g c < (thN g L k).2 then ((k : Int), g c) else thN g L k)
      rw [ih, h c (ix_mem e)]
theorem suL_eq {f g : Nat → Int32} {L : List Nat} (h : ∀ c, c ∈ L → f c = g c) : suL f L = suL g L := by
  unfold suL
  generalize (0 : Int32) = a
  induction L generalizing a with
  | nil => rfl
  | cons c t ih =>
    show t.foldl (fun a c => a + f c) (a + f c) = t.foldl (fun a c => a + g c) (a + g c)
    rw [h c List.mem_cons_self]
    exact ih (fun d hd => h d (List.mem_cons_of_mem _ hd)) _
theorem fin_fv {S : PS} {D : Nat → Prop} {P K c : Nat} {E : En} {A : Pt} (hE : EnC S D P K E) (hc : CoP S D (qpl A) (qsd A)) (hd : D c) : finF E A c = fvS S c := by
  unfold finF fvS
  rw [(hE.1 c hd).2.1, (hc c hd).1]
theorem thi_fv {S : PS} {D : Nat → Prop} {P K : Nat} {E : En} {A : Pt} (hE : EnC S D P K E) (hc : CoP S D (qpl A) (qsd A)) (hi : InD D A) : (thN (fun c => (fvS S c).toInt) (qe A) (qe A).length).1 = thiF E A := by
  unfold thiF
  rw [thN_eq (fun c hm => by show (fvS S c).toInt = (finF E A c).toInt; rw [fin_fv hE hc (hi c (Or.inr (Or.inl hm)))])]
/-! ===== what a pot's own method leaves of the other pots ===== -/
def PotX (S T : PS) (x R0 R1 R2 G : Nat) : Prop := (∀ a, At S a 5 → pR T 501 a = pR S 501 a) ∧ (∀ R, At S R 5 → R ≠ R0 → R ≠ R1 → R ≠ R2 → pR S 501 R ≠ pR S 501 R0 → pR S 501 R ≠ pR S 501 R1 → pR S 501 R ≠ pR S 501 R2 → ∀ L n, RowIs S R L n → RowIs T R L n) ∧ (∀ P, At S P 4 → P ≠ x → ∀ g, g ∈ ([405, 406, 407, 408] : List Nat) → pI T g P = pI S g P) ∧ ∀ q, At S q 29 → q ≠ G → pI T 902 q = pI S 902 q
theorem PotX_rf (S : PS) (x R0 R1 R2 G : Nat) : PotX S S x R0 R1 R2 G := ⟨fun _ _ => rfl, fun _ _ _ _ _ _ _ _ _ _ h => h, fun _ _ _ _ _ => rfl, fun _ _ _ => rfl⟩
theorem PotX_sI {S T U : PS} {x R0 R1 R2 G g a : Nat} {v : Int32} (h : PotX S T x R0 R1 R2 G) (e : U = sI T g a v) (hg : ([500, 502, 405, 406, 407, 408, 902] : List Nat).contains g = false) : PotX S U x R0 R1 R2 G := by
  subst e
  have hn : ∀ k, k ∈ ([500, 502, 405, 406, 407, 408, 902] : List Nat) → k ≠ g := fun k hk z => by rw [z] at hk; rw [List.contains_iff_mem.mpr hk] at hg; cases hg
  obtain ⟨h1, h2, h3, h4⟩ := h
  refine ⟨h1, fun R a b c d e f k L n hL => RowIs_sI (h2 R a b c d e f k L n hL) rfl (hn 500 (by decide)) (hn 502 (by decide)), fun P hP hx k hk => ?_, fun q hq hx => ?_⟩
  · rw [pI_sI_nf (hn k (by revert hk; simp only [List.mem_cons, List.not_mem_nil, or_false]; omega))]; exact h3 P hP hx k hk
  · rw [pI_sI_nf (hn 902 (by decide))]; exact h4 q hq hx
theorem PotX_sx {S T U : PS} {x R0 R1 R2 G g : Nat} {v : Int32} (h : PotX S T x R0 R1 R2 G) (e : U = sI T g x v) (hg : ([500, 502, 902] : List Nat).contains g = false) : PotX S U x R0 R1 R2 G := by
  subst e
  have hn : ∀ k, k ∈ ([500, 502, 902] : List Nat) → k ≠ g := fun k hk z => by rw [z] at hk; rw [List.contains_iff_mem.mpr hk] at hg; cases hg
  obtain ⟨h1, h2, h3, h4⟩ := h
  refine ⟨h1, fun R a b c d e f k L n hL => RowIs_sI (h2 R a b c d e f k L n hL) rfl (hn 500 (by decide)) (hn 502 (by decide)), fun P hP hx k hk => ?_, fun q hq hx => ?_⟩
  · rw [pI_sI_ne hx]; exact h3 P hP hx k hk
  · rw [pI_sI_nf (hn 902 (by decide))]; exact h4 q hq hx
theorem PotX_row {M : List Nat} {S T U : PS} {x R0 R1 R2 G R : Nat} (h : PotX S T x R0 R1 R2 G) (hE : ∀ a k, At S a k → At T a k) (h0 : At S R0 5) (h1 : At S R1 5) (h2 : At S R2 5) (hR : R = R0 ∨ R = R1 ∨ R = R2) (hX : RowX T U R) (hF : Fr M T U) (hM : ([405, 406, 407, 408, 902] : List Nat).all (fun g => !M.contains g) = true) : PotX S U x R0 R1 R2 G := by
  obtain ⟨g1, g2, g3, g4⟩ := h
  refine ⟨fun a ha => (hX.1 a).trans (g1 a ha), fun Q a b c d e f k L n hL => ?_, fun P hP hx k hk => ?_, fun q hq hx => ?_⟩
  · refine hX.2 Q ?_ ?_ L n (g2 Q a b c d e f k L n hL)
    · rcases hR with z | z | z <;> rw [z] <;> assumption
    · rcases hR with z | z | z
      · rw [z, g1 Q a, g1 R0 h0]; exact e
      · rw [z, g1 Q a, g1 R1 h1]; exact f
      · rw [z, g1 Q a, g1 R2 h2]; exact k
  · rw [hF.I' (g := k) (allc hM (by revert hk; simp only [List.mem_cons, List.not_mem_nil, or_false]; omega)) (hE _ _ hP) rfl]; exact g3 P hP hx k hk
  · rw [hF.I' (g := 902) (allc hM (by decide)) (hE _ _ hq) rfl]; exact g4 q hq hx
theorem PotX_fr {M : List Nat} {S T U : PS} {x R0 R1 R2 G : Nat} (h : PotX S T x R0 R1 R2 G) (hE : ∀ a k, At S a k → At T a k) (hG : GX T) (hF : Fr M T U) (hM : ([500, 501, 502, 10016, 405, 406, 407, 408, 902] : List Nat).all (fun g => !M.contains g) = true) : PotX S U x R0 R1 R2 G := by
  obtain ⟨g1, g2, g3, g4⟩ := h
  refine ⟨fun a ha => (frR hF (allc hM (by decide)) (hE _ _ ha).1).trans (g1 a ha), fun Q a b c d e f k L n hL => RowIs_fr hG (hE _ _ a) hF (by
    rw [List.all_eq_true]
    intro y hy
    exact List.all_eq_true.mp hM y (by revert hy; simp only [List.mem_cons, List.not_mem_nil, or_false]; omega)) (g2 Q a b c d e f k L n hL), fun P hP hx k hk => ?_, fun q hq hx => ?_⟩
  · rw [hF.I' (g := k) (allc hM (by revert hk; simp only [List.mem_cons, List.not_mem_nil, or_false]; omega)) (hE _ _ hP) rfl]; exact g3 P hP hx k hk
  · rw [hF.I' (g := 902) (allc hM (by decide)) (hE _ _ hq) rfl]; exact g4 q hq hx
theorem PotX_tr {S T U : PS} {x R0 R1 R2 G : Nat} (h : PotX S T x R0 R1 R2 G) (hE : ∀ a k, At S a k → At T a k) (h0 : At S R0 5) (h1 : At S R1 5) (h2 : At S R2 5) (h' : PotX T U x R0 R1 R2 G) : PotX S U x R0 R1 R2 G := by
  obtain ⟨g1, g2, g3, g4⟩ := h
  obtain ⟨k1, k2, k3, k4⟩ := h'
  refine ⟨fun a ha => (k1 a (hE _ _ ha)).trans (g1 a ha), fun Q a b c d e f k L n hL => k2 Q (hE _ _ a) b c d ?_ ?_ ?_ L n (g2 Q a b c d e f k L n hL), fun P hP hx g hg => (k3 P (hE _ _ hP) hx g hg).trans (g3 P hP hx g hg), fun q hq hx => (k4 q (hE _ _ hq) hx).trans (g4 q hq hx)⟩
  · rw [g1 Q a, g1 R0 h0]; exact e
  · rw [g1 Q a, g1 R1 h1]; exact f
  · rw [g1 Q a, g1 R2 h2]; exact k
theorem PotX_st {M : List Nat} {S T U : PS} {x R0 R1 R2 G : Nat} (h : PotX S T x R0 R1 R2 G) (hE : ∀ a k, At S a k → At T a k) (hG : GX T) (hF : Fr M T U) (hM : ([500, 501, 502, 10016, 405, 406, 407, 408] : List Nat).all (fun g => !M.contains g) = true) (h9 : ∀ q, At T q 29 → q ≠ G → pI U 902 q = pI T 902 q) : PotX S U x R0 R1 R2 G := by
  obtain ⟨g1, g2, g3, g4⟩ := h
  refine ⟨fun a ha => (frR hF (allc hM (by decide)) (hE _ _ ha).1).trans (g1 a ha), fun Q a b c d e f k L n hL => RowIs_fr hG (hE _ _ a) hF (by
    rw [List.all_eq_true]
    intro y hy
    exact List.all_eq_true.mp hM y (by revert hy; simp only [List.mem_cons, List.not_mem_nil, or_false]; omega)) (g2 Q a b c d e f k L n hL), fun P hP hx k hk => ?_, fun q hq hx => (h9 q (hE _ _ hq) hx).trans (g4 q hq hx)⟩
  rw [hF.I' (g := k) (allc hM (by revert hk; simp only [List.mem_cons, List.not_mem_nil, or_false]; omega)) (hE _ _ hP) rfl]; exact g3 P hP hx k hk

set_option maxHeartbeats 4000000 in
set_option maxRecDepth 100000 in
theorem k_X4_fetchLost5 (l : Launch) (G : va_G) (cy : Nat → ClassId) (κ : Nat → Nat) (S : PS) (sz : Nat) (x : Nat) (D : Nat → Prop) (R0 : Nat) (R1 : Nat) (R2 : Nat) (Gs : Nat) (Ks : Nat) (A : Pt) (Ev : En) (hG : GX S) (ha_x : At S x 4) (hp_0 : (∀ c, D c → At S c 0)) (hp_1 : PotR S x R0 R1 R2 Gs) (hp_2 : PotV S D x R0 R1 R2 Gs Ks A) (hp_3 : EnC S D x Ks Ev) (hp_4 : At S Ks 8) : Cv l yX4_fetchLost wsX4_fetchLost ({ frames := 3, cells := 0, slots := 0, locals := 144 }) G cy κ S sz [.ref x] (fun (S9 : PS) => Ok eFL S S9 ∧ (PotV S9 D x R0 R1 R2 Gs Ks (fetF A) ∧ PotX S S9 x R0 R1 R2 Gs)) := by
  refine ent_m (cc := cX4_fetchLost) (maxL := 2) (ret := none) (by decide) rfl (Nat.le_of_ble_eq_true rfl) ?_
  intro p e s m below meth c ls X hr hlocks hin hw hl hsz
  subst hsz
  have X : Cx p c cX4_fetchLost 2 s [.ref x].toArray wsX4_fetchLost RX4 m G cy κ (AS S s.heap.size) := X
  have hl : lv_has ls 2 [(0, .ref x)] := hl
  have hO : Ok eFL S S := Ok.rf hG
  have hpr := hp_1
  obtain ⟨hr0, hr1, hr2, hr3, hne, hcn⟩ := hpr
  have haR0 := row_at hG ha_x (Or.inl hr0)
  have haR1 := row_at hG ha_x (Or.inr (Or.inl hr1))
  have haR2 := row_at hG ha_x (Or.inr (Or.inr hr2))
  have haGs : At S Gs 29 := by obtain ⟨c, k1, k2⟩ := gQ_4_403 hG ha_x; have h3 := hr3; rw [k1] at h3; cases h3; exact k2
  have hpv := hp_2
  obtain ⟨pv_1, pv_2, pv_3, pv_4, pv_5, pv_6, pv_7, pv_8, pv_9, pv_10, pv_11⟩ := hpv
  obtain ⟨v_12, ev_12⟩ : ∃ v, pI S 902 Gs = v := ⟨_, rfl⟩
  have rg_13 := gI_29_902 hO.1 haGs; rw [ev_12] at rg_13
  have pz_14 : (pI S 902 Gs).toInt = v_12.toInt := by rw [ev_12]
  have pz_15 : (pI S 902 Gs).toInt = v_12.toInt := (congrArg Int32.toInt ev_12).trans rfl
  obtain ⟨v_16, ev_16⟩ : ∃ v, pI S 800 Ks = v := ⟨_, rfl⟩
  have rg_17 := gI_8_800 hO.1 hp_4; rw [ev_16] at rg_17
  have pz_18 : (pI S 800 Ks).toInt = v_16.toInt := by rw [ev_16]
  have pz_19 : (pI S 800 Ks).toInt = v_16.toInt := (congrArg Int32.toInt ev_16).trans rfl
  refine lv_aload_n X.1 X.2.1 dX4_fetchLost_0 rfl (lv_at hl 0 rfl) ?_
  refine r_getR (g := 402) X hw ha_x rfl 2 hr2 (by decide) rfl inn_X4_fetchLost_4 (by decide) (X.2.2.2.1 (.fieldLink RX4 23 "SilkMill$Pot" "lost" "LSilkMill$Row;") (by decide +kernel)) rfl (gv_402 _ _) dX4_fetchLost_1 ?_
  refine k_q (rm := { frames := 2, cells := 0, slots := 0, locals := 96 }) (av := [.ref R2]) X hw (va_runV (As := []) (rest := []) (cfix X) (k_X5_removeFirst5 l G cy κ S _ R2 (ql A) 600 hO.1 haR2 pv_3) (cwV 0 X.2.2.2.1 gX4_fetchLost_X5_removeFirst rfl rfl rfl (by decide +kernel) ⟨Nat.le_of_ble_eq_true rfl, Nat.le_of_ble_eq_true rfl⟩) (pre_V X hw _ haR2 rfl (by decide) rfl) rfl rfl hl.1 rfl (lv_room (Nat.le_of_ble_eq_true rfl)) dX4_fetchLost_4 ⟨Nat.le_of_ble_eq_true rfl, Nat.le_of_ble_eq_true rfl⟩) 0 0 (Nat.le_of_ble_eq_true rfl) (Nat.le_of_ble_eq_true rfl) (fun rr_20 S_21 H locs hp hw hfr hnw => ?_)
  obtain ⟨hk_22, hp⟩ := hp
  have hO_23 : Ok eFL S S_21 := hO.call hk_22 (by decide +kernel)
  obtain ⟨hs_24, hn_25, hx_26⟩ := hp
  rcases rr_20 with _ | q_27
  · refine W.eq (g2 := F0 m 7 ls (.null :: [])) rfl ?_
    obtain ⟨hL_28, eS_29⟩ := hn_25 rfl
    have rw_30 : RowIs S_21 R2 (ql A) 600 := by rw [eS_29]; exact pv_3
    refine lv_astore_nN (lv' := [(1, .null), (0, .ref x)]) X.1 X.2.1 dX4_fetchLost_7 rfl hl (by decide) rfl (fun ls hl => ?_)
    refine lv_aload_nN X.1 X.2.1 dX4_fetchLost_8 rfl (lv_at hl 0 rfl) ?_
    refine lv_ifnullN (tgt := 25) X.1 X.2.1 dX4_fetchLost_9 (by decide) ?_
    refine lv_aload_n X.1 X.2.1 dX4_fetchLost_25 rfl (lv_at hl 1 rfl) ?_
    have t_31 : At S_21 x 4 := hk_22.fr.at ha_x
    have t_32 : pR S_21 402 x = some R2 := hk_22.fr.R' (by decide +kernel) ha_x hr2
    refine r_getR (g := 402) X hw t_31 rfl 2 t_32 (by decide) rfl inn_X4_fetchLost_4 (by decide) (X.2.2.2.1 (.fieldLink RX4 23 "SilkMill$Pot" "lost" "LSilkMill$Row;") (by decide +kernel)) rfl (gv_402 _ _) dX4_fetchLost_26 ?_
    have t_33 : At S_21 R2 5 := hk_22.fr.at haR2
    obtain ⟨v_34, ev_34⟩ : ∃ v, pI S_21 500 R2 = v := ⟨_, rfl⟩
    obtain ⟨q_36, n_37, h_38, h_39, h_40, h_41, h_42⟩ := gRowQ hO_23.1 t_33
    have rg_35 := gRow_500 hO_23.1 t_33 h_38 h_40; rw [ev_34] at rg_35
    have pz_43 : (pI S_21 500 R2).toInt = v_34.toInt := by rw [ev_34]
    refine r_getI (g := 500) (x := v_34) X hw t_33 rfl 0 ev_34 (by decide) rfl inn_X4_fetchLost_5 (by decide) (X.2.2.2.1 (.fieldLink RX4 73 "SilkMill$Row" "size" "I") (by decide +kernel)) rfl (gv_500 _ _) dX4_fetchLost_29 ?_
    have sz_44 := RowIs_sz rw_30
    have pz_45 : (pI S_21 500 R2).toInt = v_34.toInt := (congrArg Int32.toInt ev_34).trans rfl
    refine lv_if_ne (tgt := 40) X.1 X.2.1 dX4_fetchLost_32 (by decide) (fun c_46 => ?_) (fun c_46 => ?_)
    · have z_b_47 := trivial
      have k_48 : v_34.toInt ≠ 0 := z_ne rfl ti_0 c_46
      have px_49 : PotX S S_21 x R0 R1 R2 Gs := PotX_row (PotX_rf S x R0 R1 R2 Gs) (fun _ _ h => h) haR0 haR1 haR2 (Or.inr (Or.inr rfl)) hx_26 hk_22.fr (by decide +kernel)
      exact ret_v X hw hr hlocks (Nat.le_of_ble_eq_true rfl) (Nat.le_of_ble_eq_true rfl) ⟨hO_23, ⟨(by exfalso; have e0 := congrArg List.length hL_28; have e1 : ([] : List Nat).length = 0 := rfl; omega), px_49⟩⟩ dX4_fetchLost_40
    · have z_b_50 := trivial
      have k_51 : v_34.toInt = 0 := z_eq rfl ti_0 c_46
      refine lv_aload_n X.1 X.2.1 dX4_fetchLost_35 rfl (lv_at hl 1 rfl) ?_
      refine lv_iconst (v := 0) X.1 X.2.1 dX4_fetchLost_36 (by decide) ?_
      refine r_putI (v := 0) X hw t_31 rfl 6 406 tyX4 (by decide) rfl inn_X4_fetchLost_4 tyX4_ok nmX4 (by decide) (X.2.2.2.1 (.fieldLink RX4 91 "SilkMill$Pot" "search" "I") (by decide +kernel)) rfl (Or.inl rfl) rfl rfl (Nat.le_of_ble_eq_true rfl) (st_406 _ _) dX4_fetchLost_37 (fun H locs hw => ?_)
      obtain ⟨S_52, eS_52⟩ : ∃ T, T = sI S_21 406 x (0) := ⟨_, rfl⟩
      rw [← eS_52] at hw
      have hO_53 : Ok eFL S S_52 := hO_23.sI eS_52 (by decide +kernel) (uI_4_406 hO_23.1 t_31)
      have h_54 : pI S_52 406 x = 0 := tI_sIs eS_52
      have rw_55 : RowIs S_21 R0 (qb A) 600 := hx_26.2 _ hne.2.1 hp_1.2.2.2.2.2.2.1 _ _ pv_1
      have rw_56 : RowIs S_52 R0 (qb A) 600 := RowIs_sI rw_55 eS_52 (by decide) (by decide)
      have rw_57 : RowIs S_21 R1 (qe A) 12 := hx_26.2 _ hne.2.2 hp_1.2.2.2.2.2.2.2 _ _ pv_2
      have rw_58 : RowIs S_52 R1 (qe A) 12 := RowIs_sI rw_57 eS_52 (by decide) (by decide)
      have rw_59 : RowIs S_52 R2 (ql A) 600 := RowIs_sI rw_30 eS_52 (by decide) (by decide)
      have co_60 : CoP S_21 D (qpl A) (qsd A) := CoP_fr hk_22.fr hp_0 (by decide +kernel) pv_10
      have co_61 : CoP S_52 D (qpl A) (qsd A) := CoP_sI co_60 eS_52 (by decide) (by decide)
      have t_62 : pI S_21 405 x = (qst A) := hk_22.fr.I' (by decide +kernel) ha_x pv_4
      have t_63 : pI S_52 405 x = (qst A) := tI_sI eS_52 rfl t_62
      have t_64 : pI S_21 902 Gs = v_12 := hk_22.fr.I' (by decide +kernel) haGs ev_12
      have t_65 : pI S_52 902 Gs = v_12 := tI_sI eS_52 rfl t_64
      have pz_66 : (pI S_52 902 Gs).toInt = v_12.toInt := (congrArg Int32.toInt t_65).trans rfl
      have t_67 : pI S_21 407 x = (qdr A) := hk_22.fr.I' (by decide +kernel) ha_x pv_7
      have t_68 : pI S_52 407 x = (qdr A) := tI_sI eS_52 rfl t_67
      have t_69 : pI S_21 408 x = (qtk A) := hk_22.fr.I' (by decide +kernel) ha_x pv_8
      have t_70 : pI S_52 408 x = (qtk A) := tI_sI eS_52 rfl t_69
      have t_71 : pI S_21 800 Ks = v_16 := hk_22.fr.I' (by decide +kernel) hp_4 ev_16
      have t_72 : pI S_52 800 Ks = v_16 := tI_sI eS_52 rfl t_71
      have pz_73 : (pI S_52 800 Ks).toInt = v_16.toInt := (congrArg Int32.toInt t_72).trans rfl
      have px_74 : PotX S S_21 x R0 R1 R2 Gs := PotX_row (PotX_rf S x R0 R1 R2 Gs) (fun _ _ h => h) haR0 haR1 haR2 (Or.inr (Or.inr rfl)) hx_26 hk_22.fr (by decide +kernel)
      have px_75 : PotX S S_52 x R0 R1 R2 Gs := PotX_sx px_74 eS_52 (by decide)
      exact ret_v X hw hr hlocks (Nat.le_of_ble_eq_true rfl) (Nat.le_of_ble_eq_true rfl) ⟨hO_53, ⟨PotV_of (fetF_n hL_28) rw_56 rw_58 rw_59 t_63 h_54 (show (pI S_52 902 Gs).toInt = (((qg A)).length : Int) by omega) t_68 t_70 (show (pI S_52 800 Ks).toInt = (((qsk A)).length : Int) by omega) co_61 (inD_fet pv_11), px_75⟩⟩ dX4_fetchLost_40
  · refine W.eq (g2 := F0 m 7 ls (.ref q_27 :: [])) rfl ?_
    obtain ⟨ha_76, t_77, hL_78, hr_79⟩ := hs_24 _ rfl
    refine lv_astore_n (lv' := [(1, .ref q_27), (0, .ref x)]) X.1 X.2.1 dX4_fetchLost_7 rfl hl (by decide) rfl (fun ls hl => ?_)
    refine lv_aload_n X.1 X.2.1 dX4_fetchLost_8 rfl (lv_at hl 0 rfl) ?_
    refine lv_ifnull X.1 X.2.1 dX4_fetchLost_9 ?_
    refine lv_aload_n X.1 X.2.1 dX4_fetchLost_12 rfl (lv_at hl 0 rfl) ?_
    refine lv_iconst (v := 1) X.1 X.2.1 dX4_fetchLost_13 (by decide) ?_
    refine r_putI (v := 1) X hw ha_76 rfl 3 3 tyX0 (by decide) rfl inn_X4_fetchLost_0 tyX0_ok nmX0 (by decide) (X.2.2.2.1 (.fieldLink RX4 53 "SilkMill$Cocoon" "stand" "I") (by decide +kernel)) rfl (Or.inl rfl) rfl rfl (Nat.le_of_ble_eq_true rfl) (st_3 _ _) dX4_fetchLost_14 (fun H locs hw => ?_)
    obtain ⟨S_80, eS_80⟩ : ∃ T, T = sI S_21 3 q_27 (1) := ⟨_, rfl⟩
    rw [← eS_80] at hw
    have hO_81 : Ok eFL S S_80 := hO_23.sI eS_80 (by decide +kernel) (uI_0_3 hO_23.1 ha_76)
    have h_82 : pI S_80 3 q_27 = 1 := tI_sIs eS_80
    refine lv_aload_n X.1 X.2.1 dX4_fetchLost_17 rfl (lv_at hl 1 rfl) ?_
    have t_83 : At S_21 x 4 := hk_22.fr.at ha_x
    have t_84 : At S_80 x 4 := tAt_sI eS_80 t_83
    have t_85 : pR S_21 400 x = some R0 := hk_22.fr.R' (by decide +kernel) ha_x hr0
    have t_86 : pR S_80 400 x = some R0 := tR_sI eS_80 t_85
    refine r_getR (g := 400) X hw t_84 rfl 0 t_86 (by decide) rfl inn_X4_fetchLost_4 (by decide) (X.2.2.2.1 (.fieldLink RX4 14 "SilkMill$Pot" "basket" "LSilkMill$Row;") (by decide +kernel)) rfl (gv_400 _ _) dX4_fetchLost_18 ?_
    refine lv_aload_n X.1 X.2.1 dX4_fetchLost_21 rfl (lv_at hl 0 rfl) ?_
    have t_87 : At S_21 R0 5 := hk_22.fr.at haR0
    have t_88 : At S_80 R0 5 := tAt_sI eS_80 t_87
    have t_89 : At S_80 q_27 0 := tAt_sI eS_80 ha_76
    have rw_90 : RowIs S_21 R0 (qb A) 600 := hx_26.2 _ hne.2.1 hp_1.2.2.2.2.2.2.1 _ _ pv_1
    have rw_91 : RowIs S_80 R0 (qb A) 600 := RowIs_sI rw_90 eS_80 (by decide) (by decide)
    refine k_v (rm := { frames := 2, cells := 0, slots := 0, locals := 96 }) (av := [.ref R0, .ref q_27]) X hw (va_runV (As := [.ref q_27]) (rest := []) (cfix X) (k_X5_addLast5 l G cy κ S_80 _ R0 q_27 (qb A) 600 hO_81.1 t_88 t_89 rw_91) (cwV 1 X.2.2.2.1 gX4_fetchLost_X5_addLast rfl rfl rfl (by decide +kernel) ⟨Nat.le_of_ble_eq_true rfl, Nat.le_of_ble_eq_true rfl⟩) (pre_V X hw _ t_88 rfl (by decide) rfl) rfl rfl hl.1 rfl (lv_room (Nat.le_of_ble_eq_true rfl)) dX4_fetchLost_22 ⟨Nat.le_of_ble_eq_true rfl, Nat.le_of_ble_eq_true rfl⟩) 0 0 (Nat.le_of_ble_eq_true rfl) (Nat.le_of_ble_eq_true rfl) (fun S_93 H locs hp hw hfr hnw => ?_)
    obtain ⟨hk_94, hp⟩ := hp
    have hO_95 : Ok eFL S S_93 := hO_81.call hk_94 (by decide +kernel)
    obtain ⟨hx_96, hr_97⟩ := hp
    refine lv_aload_n X.1 X.2.1 dX4_fetchLost_25 rfl (lv_at hl 1 rfl) ?_
    have t_98 : At S_93 x 4 := hk_94.fr.at t_84
    have t_99 : pR S_21 402 x = some R2 := hk_22.fr.R' (by decide +kernel) ha_x hr2
    have t_100 : pR S_80 402 x = some R2 := tR_sI eS_80 t_99
    have t_101 : pR S_93 402 x = some R2 := hk_94.fr.R' (by decide +kernel) t_84 t_100
    refine r_getR (g := 402) X hw t_98 rfl 2 t_101 (by decide) rfl inn_X4_fetchLost_4 (by decide) (X.2.2.2.1 (.fieldLink RX4 23 "SilkMill$Pot" "lost" "LSilkMill$Row;") (by decide +kernel)) rfl (gv_402 _ _) dX4_fetchLost_26 ?_
    have t_102 : At S_21 R2 5 := hk_22.fr.at haR2
    have t_103 : At S_80 R2 5 := tAt_sI eS_80 t_102
    have t_104 : At S_93 R2 5 := hk_94.fr.at t_103
    obtain ⟨v_105, ev_105⟩ : ∃ v, pI S_93 500 R2 = v := ⟨_, rfl⟩
    obtain ⟨q_107, n_108, h_109, h_110, h_111, h_112, h_113⟩ := gRowQ hO_95.1 t_104
    have rg_106 := gRow_500 hO_95.1 t_104 h_109 h_111; rw [ev_105] at rg_106
    have pz_114 : (pI S_93 500 R2).toInt = v_105.toInt := by rw [ev_105]
    refine r_getI (g := 500) (x := v_105) X hw t_104 rfl 0 ev_105 (by decide) rfl inn_X4_fetchLost_5 (by decide) (X.2.2.2.1 (.fieldLink RX4 73 "SilkMill$Row" "size" "I") (by decide +kernel)) rfl (gv_500 _ _) dX4_fetchLost_29 ?_
    have rw_115 : RowIs S_80 R2 t_77 600 := RowIs_sI hr_79 eS_80 (by decide) (by decide)
    have pr_117 : PotR S_21 x R0 R1 R2 Gs := PotR_fr hO.1 ha_x hk_22.fr (by decide +kernel) hp_1
    have pr_118 : PotR S_80 x R0 R1 R2 Gs := PotR_sI pr_117 eS_80
    have rw_116 : RowIs S_93 R2 t_77 600 := hx_96.2 _ (Ne.symm hne.2.1) (Ne.symm pr_118.2.2.2.2.2.2.1) _ _ rw_115
    have sz_119 := RowIs_sz rw_116
    have pz_120 : (pI S_93 500 R2).toInt = v_105.toInt := (congrArg Int32.toInt ev_105).trans rfl
    refine lv_if_ne (tgt := 40) X.1 X.2.1 dX4_fetchLost_32 (by decide) (fun c_121 => ?_) (fun c_121 => ?_)
    · have z_b_122 := trivial
      have k_123 : v_105.toInt ≠ 0 := z_ne rfl ti_0 c_121
      have rw_124 : RowIs S_21 R1 (qe A) 12 := hx_26.2 _ hne.2.2 hp_1.2.2.2.2.2.2.2 _ _ pv_2
      have rw_125 : RowIs S_80 R1 (qe A) 12 := RowIs_sI rw_124 eS_80 (by decide) (by decide)
      have rw_126 : RowIs S_93 R1 (qe A) 12 := hx_96.2 _ (Ne.symm hne.1) (Ne.symm pr_118.2.2.2.2.2.1) _ _ rw_125
      have co_127 : CoP S_21 D (qpl A) (qsd A) := CoP_fr hk_22.fr hp_0 (by decide +kernel) pv_10
      have co_128 : CoP S_80 D (qpl A) (fuI (qsd A) q_27 1) := CoP_s3 co_127 eS_80
      have dt_130 : ∀ c, D c → At S_21 c 0 := fun c h => hk_22.fr.at (hp_0 c h)
      have dt_131 : ∀ c, D c → At S_80 c 0 := fun c h => tAt_sI eS_80 (dt_130 c h)
      have co_129 : CoP S_93 D (qpl A) (fuI (qsd A) q_27 1) := CoP_fr hk_94.fr dt_131 (by decide +kernel) co_128
      have t_132 : pI S_21 405 x = (qst A) := hk_22.fr.I' (by decide +kernel) ha_x pv_4
      have t_133 : pI S_80 405 x = (qst A) := tI_sI eS_80 rfl t_132
      have t_134 : pI S_93 405 x = (qst A) := hk_94.fr.I' (by decide +kernel) t_84 t_133
      have t_135 : pI S_21 406 x = (qse A) := hk_22.fr.I' (by decide +kernel) ha_x pv_5
      have t_136 : pI S_80 406 x = (qse A) := tI_sI eS_80 rfl t_135
      have t_137 : pI S_93 406 x = (qse A) := hk_94.fr.I' (by decide +kernel) t_84 t_136
      have t_138 : pI S_21 902 Gs = v_12 := hk_22.fr.I' (by decide +kernel) haGs ev_12
      have t_139 : pI S_80 902 Gs = v_12 := tI_sI eS_80 rfl t_138
      have t_141 : At S_21 Gs 29 := hk_22.fr.at haGs
      have t_142 : At S_80 Gs 29 := tAt_sI eS_80 t_141
      have t_140 : pI S_93 902 Gs = v_12 := hk_94.fr.I' (by decide +kernel) t_142 t_139
      have pz_143 : (pI S_93 902 Gs).toInt = v_12.toInt := (congrArg Int32.toInt t_140).trans rfl
      have t_144 : pI S_21 407 x = (qdr A) := hk_22.fr.I' (by decide +kernel) ha_x pv_7
      have t_145 : pI S_80 407 x = (qdr A) := tI_sI eS_80 rfl t_144
      have t_146 : pI S_93 407 x = (qdr A) := hk_94.fr.I' (by decide +kernel) t_84 t_145
      have t_147 : pI S_21 408 x = (qtk A) := hk_22.fr.I' (by decide +kernel) ha_x pv_8
      have t_148 : pI S_80 408 x = (qtk A) := tI_sI eS_80 rfl t_147
      have t_149 : pI S_93 408 x = (qtk A) := hk_94.fr.I' (by decide +kernel) t_84 t_148
      have t_150 : pI S_21 800 Ks = v_16 := hk_22.fr.I' (by decide +kernel) hp_4 ev_16
      have t_151 : pI S_80 800 Ks = v_16 := tI_sI eS_80 rfl t_150
      have t_153 : At S_21 Ks 8 := hk_22.fr.at hp_4
      have t_154 : At S_80 Ks 8 := tAt_sI eS_80 t_153
      have t_152 : pI S_93 800 Ks = v_16 := hk_94.fr.I' (by decide +kernel) t_154 t_151
      have pz_155 : (pI S_93 800 Ks).toInt = v_16.toInt := (congrArg Int32.toInt t_152).trans rfl
      have px_156 : PotX S S_21 x R0 R1 R2 Gs := PotX_row (PotX_rf S x R0 R1 R2 Gs) (fun _ _ h => h) haR0 haR1 haR2 (Or.inr (Or.inr rfl)) hx_26 hk_22.fr (by decide +kernel)
      have px_157 : PotX S S_80 x R0 R1 R2 Gs := PotX_sI px_156 eS_80 (by decide)
      have ax_159 : ∀ a k, At S a k → At S_21 a k := fun a k h => hk_22.fr.at ((fun _ _ h => h) a k h)
      have ax_160 : ∀ a k, At S a k → At S_80 a k := fun a k h => tAt_sI eS_80 (ax_159 a k h)
      have px_158 : PotX S S_93 x R0 R1 R2 Gs := PotX_row px_157 ax_160 haR0 haR1 haR2 (Or.inl rfl) hx_96 hk_94.fr (by decide +kernel)
      exact ret_v X hw hr hlocks (Nat.le_of_ble_eq_true rfl) (Nat.le_of_ble_eq_true rfl) ⟨hO_95, ⟨PotV_of (B := (wse (wl (wb (wsd A (fuI (qsd A) q_27 1)) (capL 600 (qb A) q_27)) t_77) (qse A))) ((fetF_c hL_78).trans (by rw [if_neg (fun z => by rw [z] at sz_119; have z1 : (([] : List Nat).length : Int) = 0 := rfl; omega)])) hr_97 rw_126 rw_116 t_134 t_137 (show (pI S_93 902 Gs).toInt = (((qg A)).length : Int) by omega) t_146 t_149 (show (pI S_93 800 Ks).toInt = (((qsk A)).length : Int) by omega) co_129 (inD_fet pv_11), px_158⟩⟩ dX4_fetchLost_40
    · have z_b_161 := trivial
      have k_162 : v_105.toInt = 0 := z_eq rfl ti_0 c_121
      refine lv_aload_n X.1 X.2.1 dX4_fetchLost_35 rfl (lv_at hl 1 rfl) ?_
      refine lv_iconst (v := 0) X.1 X.2.1 dX4_fetchLost_36 (by decide) ?_
      refine r_putI (v := 0) X hw t_98 rfl 6 406 tyX4 (by decide) rfl inn_X4_fetchLost_4 tyX4_ok nmX4 (by decide) (X.2.2.2.1 (.fieldLink RX4 91 "SilkMill$Pot" "search" "I") (by decide +kernel)) rfl (Or.inl rfl) rfl rfl (Nat.le_of_ble_eq_true rfl) (st_406 _ _) dX4_fetchLost_37 (fun H locs hw => ?_)
      obtain ⟨S_163, eS_163⟩ : ∃ T, T = sI S_93 406 x (0) := ⟨_, rfl⟩
      rw [← eS_163] at hw
      have hO_164 : Ok eFL S S_163 := hO_95.sI eS_163 (by decide +kernel) (uI_4_406 hO_95.1 t_98)
      have h_165 : pI S_163 406 x = 0 := tI_sIs eS_163
      have rw_166 : RowIs S_163 R0 (capL 600 (qb A) q_27) 600 := RowIs_sI hr_97 eS_163 (by decide) (by decide)
      have rw_167 : RowIs S_21 R1 (qe A) 12 := hx_26.2 _ hne.2.2 hp_1.2.2.2.2.2.2.2 _ _ pv_2
      have rw_168 : RowIs S_80 R1 (qe A) 12 := RowIs_sI rw_167 eS_80 (by decide) (by decide)
      have rw_169 : RowIs S_93 R1 (qe A) 12 := hx_96.2 _ (Ne.symm hne.1) (Ne.symm pr_118.2.2.2.2.2.1) _ _ rw_168
      have rw_170 : RowIs S_163 R1 (qe A) 12 := RowIs_sI rw_169 eS_163 (by decide) (by decide)
      have rw_171 : RowIs S_163 R2 t_77 600 := RowIs_sI rw_116 eS_163 (by decide) (by decide)
      have co_172 : CoP S_21 D (qpl A) (qsd A) := CoP_fr hk_22.fr hp_0 (by decide +kernel) pv_10
      have co_173 : CoP S_80 D (qpl A) (fuI (qsd A) q_27 1) := CoP_s3 co_172 eS_80
      have dt_175 : ∀ c, D c → At S_21 c 0 := fun c h => hk_22.fr.at (hp_0 c h)
      have dt_176 : ∀ c, D c → At S_80 c 0 := fun c h => tAt_sI eS_80 (dt_175 c h)
      have co_174 : CoP S_93 D (qpl A) (fuI (qsd A) q_27 1) := CoP_fr hk_94.fr dt_176 (by decide +kernel) co_173
      have co_177 : CoP S_163 D (qpl A) (fuI (qsd A) q_27 1) := CoP_sI co_174 eS_163 (by decide) (by decide)
      have t_178 : pI S_21 405 x = (qst A) := hk_22.fr.I' (by decide +kernel) ha_x pv_4
      have t_179 : pI S_80 405 x = (qst A) := tI_sI eS_80 rfl t_178
      have t_180 : pI S_93 405 x = (qst A) := hk_94.fr.I' (by decide +kernel) t_84 t_179
      have t_181 : pI S_163 405 x = (qst A) := tI_sI eS_163 rfl t_180
      have t_182 : pI S_21 902 Gs = v_12 := hk_22.fr.I' (by decide +kernel) haGs ev_12
      have t_183 : pI S_80 902 Gs = v_12 := tI_sI eS_80 rfl t_182
      have t_185 : At S_21 Gs 29 := hk_22.fr.at haGs
      have t_186 : At S_80 Gs 29 := tAt_sI eS_80 t_185
      have t_184 : pI S_93 902 Gs = v_12 := hk_94.fr.I' (by decide +kernel) t_186 t_183
      have t_187 : pI S_163 902 Gs = v_12 := tI_sI eS_163 rfl t_184
      have pz_188 : (pI S_163 902 Gs).toInt = v_12.toInt := (congrArg Int32.toInt t_187).trans rfl
      have t_189 : pI S_21 407 x = (qdr A) := hk_22.fr.I' (by decide +kernel) ha_x pv_7
      have t_190 : pI S_80 407 x = (qdr A) := tI_sI eS_80 rfl t_189
      have t_191 : pI S_93 407 x = (qdr A) := hk_94.fr.I' (by decide +kernel) t_84 t_190
      have t_192 : pI S_163 407 x = (qdr A) := tI_sI eS_163 rfl t_191
      have t_193 : pI S_21 408 x = (qtk A) := hk_22.fr.I' (by decide +kernel) ha_x pv_8
      have t_194 : pI S_80 408 x = (qtk A) := tI_sI eS_80 rfl t_193
      have t_195 : pI S_93 408 x = (qtk A) := hk_94.fr.I' (by decide +kernel) t_84 t_194
      have t_196 : pI S_163 408 x = (qtk A) := tI_sI eS_163 rfl t_195
      have t_197 : pI S_21 800 Ks = v_16 := hk_22.fr.I' (by decide +kernel) hp_4 ev_16
      have t_198 : pI S_80 800 Ks = v_16 := tI_sI eS_80 rfl t_197
      have t_200 : At S_21 Ks 8 := hk_22.fr.at hp_4
      have t_201 : At S_80 Ks 8 := tAt_sI eS_80 t_200
      have t_199 : pI S_93 800 Ks = v_16 := hk_94.fr.I' (by decide +kernel) t_201 t_198
      have t_202 : pI S_163 800 Ks = v_16 := tI_sI eS_163 rfl t_199
      have pz_203 : (pI S_163 800 Ks).toInt = v_16.toInt := (congrArg Int32.toInt t_202).trans rfl
      have px_204 : PotX S S_21 x R0 R1 R2 Gs := PotX_row (PotX_rf S x R0 R1 R2 Gs) (fun _ _ h => h) haR0 haR1 haR2 (Or.inr (Or.inr rfl)) hx_26 hk_22.fr (by decide +kernel)
      have px_205 : PotX S S_80 x R0 R1 R2 Gs := PotX_sI px_204 eS_80 (by decide)
      have ax_207 : ∀ a k, At S a k → At S_21 a k := fun a k h => hk_22.fr.at ((fun _ _ h => h) a k h)
      have ax_208 : ∀ a k, At S a k → At S_80 a k := fun a k h => tAt_sI eS_80 (ax_207 a k h)
      have px_206 : PotX S S_93 x R0 R1 R2 Gs := PotX_row px_205 ax_208 haR0 haR1 haR2 (Or.inl rfl) hx_96 hk_94.fr (by decide +kernel)
      have px_209 : PotX S S_163 x R0 R1 R2 Gs := PotX_sx px_206 eS_163 (by decide)
      exact ret_v X hw hr hlocks (Nat.le_of_ble_eq_true rfl) (Nat.le_of_ble_eq_true rfl) ⟨hO_164, ⟨PotV_of (B := (wse (wl (wb (wsd A (fuI (qsd A) q_27 1)) (capL 600 (qb A) q_27)) t_77) 0)) ((fetF_c hL_78).trans (by rw [if_pos (List.eq_nil_of_length_eq_zero (by omega))])) rw_166 rw_170 rw_171 t_181 h_165 (show (pI S_163 902 Gs).toInt = (((qg A)).length : Int) by omega) t_192 t_196 (show (pI S_163 800 Ks).toInt = (((qsk A)).length : Int) by omega) co_177 (inD_fet pv_11), px_209⟩⟩ dX4_fetchLost_40
set_option maxHeartbeats 4000000 in
set_option maxRecDepth 100000 in
theorem k_X4_castFirst5 (l : Launch) (G : va_G) (cy : Nat → ClassId) (κ : Nat → Nat) (S : PS) (sz : Nat) (x : Nat) (D : Nat → Prop) (R0 : Nat) (R1 : Nat) (R2 : Nat) (Gs : Nat) (Ks : Nat) (A : Pt) (Ev : En) (hG : GX S) (ha_x : At S x 4) (hp_0 : (∀ c, D c → At S c 0)) (hp_1 : PotR S x R0 R1 R2 Gs) (hp_2 : PotV S D x R0 R1 R2 Gs Ks A) (hp_3 : EnC S D x Ks Ev) (hp_4 : At S Ks 8) : Cv l yX4_castFirst wsX4_castFirst ({ frames := 3, cells := 0, slots := 0, locals := 144 }) G cy κ S sz [.ref x] (fun (S9 : PS) => Ok eCF S S9 ∧ (PotV S9 D x R0 R1 R2 Gs Ks (casF A) ∧ PotX S S9 x R0 R1 R2 Gs)) := by
  refine ent_m (cc := cX4_castFirst) (maxL := 2) (ret := none) (by decide) rfl (Nat.le_of_ble_eq_true rfl) ?_
  intro p e s m below meth c ls X hr hlocks hin hw hl hsz
  subst hsz
  have X : Cx p c cX4_castFirst 2 s [.ref x].toArray wsX4_castFirst RX4 m G cy κ (AS S s.heap.size) := X
  have hl : lv_has ls 2 [(0, .ref x)] := hl
  have hO : Ok eCF S S := Ok.rf hG
  have hpr := hp_1
  obtain ⟨hr0, hr1, hr2, hr3, hne, hcn⟩ := hpr
  have haR0 := row_at hG ha_x (Or.inl hr0)
  have haR1 := row_at hG ha_x (Or.inr (Or.inl hr1))
  have haR2 := row_at hG ha_x (Or.inr (Or.inr hr2))
  have haGs : At S Gs 29 := by obtain ⟨c, k1, k2⟩ := gQ_4_403 hG ha_x; have h3 := hr3; rw [k1] at h3; cases h3; exact k2
  have hpv := hp_2
  obtain ⟨pv_1, pv_2, pv_3, pv_4, pv_5, pv_6, pv_7, pv_8, pv_9, pv_10, pv_11⟩ := hpv
  obtain ⟨v_12, ev_12⟩ : ∃ v, pI S 902 Gs = v := ⟨_, rfl⟩
  have rg_13 := gI_29_902 hO.1 haGs; rw [ev_12] at rg_13
  have pz_14 : (pI S 902 Gs).toInt = v_12.toInt := by rw [ev_12]
  have pz_15 : (pI S 902 Gs).toInt = v_12.toInt := (congrArg Int32.toInt ev_12).trans rfl
  obtain ⟨v_16, ev_16⟩ : ∃ v, pI S 800 Ks = v := ⟨_, rfl⟩
  have rg_17 := gI_8_800 hO.1 hp_4; rw [ev_16] at rg_17
  have pz_18 : (pI S 800 Ks).toInt = v_16.toInt := by rw [ev_16]
  have pz_19 : (pI S 800 Ks).toInt = v_16.toInt := (congrArg Int32.toInt ev_16).trans rfl
  refine lv_aload_n X.1 X.2.1 dX4_castFirst_0 rfl (lv_at hl 0 rfl) ?_
  refine r_getR (g := 400) X hw ha_x rfl 0 hr0 (by decide) rfl inn_X4_castFirst_4 (by decide) (X.2.2.2.1 (.fieldLink RX4 14 "SilkMill$Pot" "basket" "LSilkMill$Row;") (by decide +kernel)) rfl (gv_400 _ _) dX4_castFirst_1 ?_
  obtain ⟨v_20, ev_20⟩ : ∃ v, pI S 500 R0 = v := ⟨_, rfl⟩
  obtain ⟨q_22, n_23, h_24, h_25, h_26, h_27, h_28⟩ := gRowQ hO.1 haR0
  have rg_21 := gRow_500 hO.1 haR0 h_24 h_26; rw [ev_20] at rg_21
  have pz_29 : (pI S 500 R0).toInt = v_20.toInt := by rw [ev_20]
  refine r_getI (g := 500) (x := v_20) X hw haR0 rfl 0 ev_20 (by decide) rfl inn_X4_castFirst_5 (by decide) (X.2.2.2.1 (.fieldLink RX4 73 "SilkMill$Row" "size" "I") (by decide +kernel)) rfl (gv_500 _ _) dX4_castFirst_4 ?_
  have sz_30 := RowIs_sz pv_1
  have pz_31 : (pI S 500 R0).toInt = v_20.toInt := (congrArg Int32.toInt ev_20).trans rfl
  refine lv_if_le (tgt := 47) X.1 X.2.1 dX4_castFirst_7 (by decide) (fun c_32 => ?_) (fun c_32 => ?_)
  · have z_b_33 := trivial
    have k_34 : v_20.toInt ≤ 0 := z_le rfl ti_0 c_32
    have pz_35 : (pI S 902 Gs).toInt = v_12.toInt := (congrArg Int32.toInt ev_12).trans rfl
    have pz_36 : (pI S 800 Ks).toInt = v_16.toInt := (congrArg Int32.toInt ev_16).trans rfl
    exact ret_v X hw hr hlocks (Nat.le_of_ble_eq_true rfl) (Nat.le_of_ble_eq_true rfl) ⟨hO, ⟨PotV_of (casF_n (by first | exact Or.inl (List.eq_nil_of_length_eq_zero (by omega)) | exact Or.inr (by omega))) pv_1 pv_2 pv_3 pv_4 pv_5 (show (pI S 902 Gs).toInt = (((qg A)).length : Int) by omega) pv_7 pv_8 (show (pI S 800 Ks).toInt = (((qsk A)).length : Int) by omega) pv_10 (inD_cas pv_11), (PotX_rf S x R0 R1 R2 Gs)⟩⟩ dX4_castFirst_47
  · have z_b_37 := trivial
    have k_38 : v_20.toInt > 0 := z_nle rfl ti_0 c_32
    refine lv_aload_n X.1 X.2.1 dX4_castFirst_10 rfl (lv_at hl 0 rfl) ?_
    refine r_getR (g := 401) X hw ha_x rfl 1 hr1 (by decide) rfl inn_X4_castFirst_4 (by decide) (X.2.2.2.1 (.fieldLink RX4 20 "SilkMill$Pot" "ends" "LSilkMill$Row;") (by decide +kernel)) rfl (gv_401 _ _) dX4_castFirst_11 ?_
    obtain ⟨v_39, ev_39⟩ : ∃ v, pI S 500 R1 = v := ⟨_, rfl⟩
    obtain ⟨q_41, n_42, h_43, h_44, h_45, h_46, h_47⟩ := gRowQ hO.1 haR1
    have rg_40 := gRow_500 hO.1 haR1 h_43 h_45; rw [ev_39] at rg_40
    have pz_48 : (pI S 500 R1).toInt = v_39.toInt := by rw [ev_39]
    refine r_getI (g := 500) (x := v_39) X hw haR1 rfl 0 ev_39 (by decide) rfl inn_X4_castFirst_5 (by decide) (X.2.2.2.1 (.fieldLink RX4 73 "SilkMill$Row" "size" "I") (by decide +kernel)) rfl (gv_500 _ _) dX4_castFirst_14 ?_
    refine lv_bipush (v := 12) X.1 X.2.1 dX4_castFirst_17 (by decide) ?_
    have sz_49 := RowIs_sz pv_2
    have pz_50 : (pI S 500 R1).toInt = v_39.toInt := (congrArg Int32.toInt ev_39).trans rfl
    refine lv_icmp_ge (tgt := 47) X.1 X.2.1 dX4_castFirst_19 (by decide) (fun c_51 => ?_) (fun c_51 => ?_)
    · have z_b_52 := trivial
      have k_53 : v_39.toInt ≥ 12 := z_le ti_12 rfl c_51
      have pz_54 : (pI S 902 Gs).toInt = v_12.toInt := (congrArg Int32.toInt ev_12).trans rfl
      have pz_55 : (pI S 800 Ks).toInt = v_16.toInt := (congrArg Int32.toInt ev_16).trans rfl
      exact ret_v X hw hr hlocks (Nat.le_of_ble_eq_true rfl) (Nat.le_of_ble_eq_true rfl) ⟨hO, ⟨PotV_of (casF_n (by first | exact Or.inl (List.eq_nil_of_length_eq_zero (by omega)) | exact Or.inr (by omega))) pv_1 pv_2 pv_3 pv_4 pv_5 (show (pI S 902 Gs).toInt = (((qg A)).length : Int) by omega) pv_7 pv_8 (show (pI S 800 Ks).toInt = (((qsk A)).length : Int) by omega) pv_10 (inD_cas pv_11), (PotX_rf S x R0 R1 R2 Gs)⟩⟩ dX4_castFirst_47
    · have z_b_56 := trivial
      have k_57 : v_39.toInt < 12 := z_nle ti_12 rfl c_51
      refine lv_aload_n X.1 X.2.1 dX4_castFirst_22 rfl (lv_at hl 0 rfl) ?_
      refine r_getR (g := 400) X hw ha_x rfl 0 hr0 (by decide) rfl inn_X4_castFirst_4 (by decide) (X.2.2.2.1 (.fieldLink RX4 14 "SilkMill$Pot" "basket" "LSilkMill$Row;") (by decide +kernel)) rfl (gv_400 _ _) dX4_castFirst_23 ?_
      refine k_q (rm := { frames := 2, cells := 0, slots := 0, locals := 96 }) (av := [.ref R0]) X hw (va_runV (As := []) (rest := []) (cfix X) (k_X5_removeFirst5 l G cy κ S _ R0 (qb A) 600 hO.1 haR0 pv_1) (cwV 0 X.2.2.2.1 gX4_castFirst_X5_removeFirst rfl rfl rfl (by decide +kernel) ⟨Nat.le_of_ble_eq_true rfl, Nat.le_of_ble_eq_true rfl⟩) (pre_V X hw _ haR0 rfl (by decide) rfl) rfl rfl hl.1 rfl (lv_room (Nat.le_of_ble_eq_true rfl)) dX4_castFirst_26 ⟨Nat.le_of_ble_eq_true rfl, Nat.le_of_ble_eq_true rfl⟩) 0 0 (Nat.le_of_ble_eq_true rfl) (Nat.le_of_ble_eq_true rfl) (fun rr_58 S_59 H locs hp hw hfr hnw => ?_)
      obtain ⟨hk_60, hp⟩ := hp
      have hO_61 : Ok eCF S S_59 := hO.call hk_60 (by decide +kernel)
      obtain ⟨hs_62, hn_63, hx_64⟩ := hp
      rcases rr_58 with _ | q_65
      · refine W.eq (g2 := F0 m 29 ls (.null :: [])) rfl ?_
        obtain ⟨hL_66, eS_67⟩ := hn_63 rfl
        have rw_68 : RowIs S_59 R0 (qb A) 600 := by rw [eS_67]; exact pv_1
        refine lv_astore_nN (lv' := [(1, .null), (0, .ref x)]) X.1 X.2.1 dX4_castFirst_29 rfl hl (by decide) rfl (fun ls hl => ?_)
        refine lv_aload_nN X.1 X.2.1 dX4_castFirst_30 rfl (lv_at hl 0 rfl) ?_
        refine lv_ifnullN (tgt := 47) X.1 X.2.1 dX4_castFirst_31 (by decide) ?_
        have px_69 : PotX S S_59 x R0 R1 R2 Gs := PotX_row (PotX_rf S x R0 R1 R2 Gs) (fun _ _ h => h) haR0 haR1 haR2 (Or.inl rfl) hx_64 hk_60.fr (by decide +kernel)
        exact ret_v X hw hr hlocks (Nat.le_of_ble_eq_true rfl) (Nat.le_of_ble_eq_true rfl) ⟨hO_61, ⟨(by exfalso; have e0 := congrArg List.length hL_66; have e1 : ([] : List Nat).length = 0 := rfl; omega), px_69⟩⟩ dX4_castFirst_47
      · refine W.eq (g2 := F0 m 29 ls (.ref q_65 :: [])) rfl ?_
        obtain ⟨ha_70, t_71, hL_72, hr_73⟩ := hs_62 _ rfl
        refine lv_astore_n (lv' := [(1, .ref q_65), (0, .ref x)]) X.1 X.2.1 dX4_castFirst_29 rfl hl (by decide) rfl (fun ls hl => ?_)
        refine lv_aload_n X.1 X.2.1 dX4_castFirst_30 rfl (lv_at hl 0 rfl) ?_
        refine lv_ifnull X.1 X.2.1 dX4_castFirst_31 ?_
        refine lv_aload_n X.1 X.2.1 dX4_castFirst_34 rfl (lv_at hl 0 rfl) ?_
        refine lv_iconst (v := 2) X.1 X.2.1 dX4_castFirst_35 (by decide) ?_
        refine r_putI (v := 2) X hw ha_70 rfl 3 3 tyX0 (by decide) rfl inn_X4_castFirst_0 tyX0_ok nmX0 (by decide) (X.2.2.2.1 (.fieldLink RX4 53 "SilkMill$Cocoon" "stand" "I") (by decide +kernel)) rfl (Or.inl rfl) rfl rfl (Nat.le_of_ble_eq_true rfl) (st_3 _ _) dX4_castFirst_36 (fun H locs hw => ?_)
        obtain ⟨S_74, eS_74⟩ : ∃ T, T = sI S_59 3 q_65 (2) := ⟨_, rfl⟩
        rw [← eS_74] at hw
        have hO_75 : Ok eCF S S_74 := hO_61.sI eS_74 (by decide +kernel) (uI_0_3 hO_61.1 ha_70)
        have h_76 : pI S_74 3 q_65 = 2 := tI_sIs eS_74
        refine lv_aload_n X.1 X.2.1 dX4_castFirst_39 rfl (lv_at hl 1 rfl) ?_
        have t_77 : At S_59 x 4 := hk_60.fr.at ha_x
        have t_78 : At S_74 x 4 := tAt_sI eS_74 t_77
        have t_79 : pR S_59 401 x = some R1 := hk_60.fr.R' (by decide +kernel) ha_x hr1
        have t_80 : pR S_74 401 x = some R1 := tR_sI eS_74 t_79
        refine r_getR (g := 401) X hw t_78 rfl 1 t_80 (by decide) rfl inn_X4_castFirst_4 (by decide) (X.2.2.2.1 (.fieldLink RX4 20 "SilkMill$Pot" "ends" "LSilkMill$Row;") (by decide +kernel)) rfl (gv_401 _ _) dX4_castFirst_40 ?_
        refine lv_aload_n X.1 X.2.1 dX4_castFirst_43 rfl (lv_at hl 0 rfl) ?_
        have t_81 : At S_59 R1 5 := hk_60.fr.at haR1
        have t_82 : At S_74 R1 5 := tAt_sI eS_74 t_81
        have t_83 : At S_74 q_65 0 := tAt_sI eS_74 ha_70
        have rw_84 : RowIs S_59 R1 (qe A) 12 := hx_64.2 _ (Ne.symm hne.1) (Ne.symm hp_1.2.2.2.2.2.1) _ _ pv_2
        have rw_85 : RowIs S_74 R1 (qe A) 12 := RowIs_sI rw_84 eS_74 (by decide) (by decide)
        refine k_v (rm := { frames := 2, cells := 0, slots := 0, locals := 96 }) (av := [.ref R1, .ref q_65]) X hw (va_runV (As := [.ref q_65]) (rest := []) (cfix X) (k_X5_addLast5 l G cy κ S_74 _ R1 q_65 (qe A) 12 hO_75.1 t_82 t_83 rw_85) (cwV 1 X.2.2.2.1 gX4_castFirst_X5_addLast rfl rfl rfl (by decide +kernel) ⟨Nat.le_of_ble_eq_true rfl, Nat.le_of_ble_eq_true rfl⟩) (pre_V X hw _ t_82 rfl (by decide) rfl) rfl rfl hl.1 rfl (lv_room (Nat.le_of_ble_eq_true rfl)) dX4_castFirst_44 ⟨Nat.le_of_ble_eq_true rfl, Nat.le_of_ble_eq_true rfl⟩) 0 0 (Nat.le_of_ble_eq_true rfl) (Nat.le_of_ble_eq_true rfl) (fun S_87 H locs hp hw hfr hnw => ?_)
        obtain ⟨hk_88, hp⟩ := hp
        have hO_89 : Ok eCF S S_87 := hO_75.call hk_88 (by decide +kernel)
        obtain ⟨hx_90, hr_91⟩ := hp
        have rw_92 : RowIs S_74 R0 t_71 600 := RowIs_sI hr_73 eS_74 (by decide) (by decide)
        have pr_94 : PotR S_59 x R0 R1 R2 Gs := PotR_fr hO.1 ha_x hk_60.fr (by decide +kernel) hp_1
        have pr_95 : PotR S_74 x R0 R1 R2 Gs := PotR_sI pr_94 eS_74
        have rw_93 : RowIs S_87 R0 t_71 600 := hx_90.2 _ hne.1 pr_95.2.2.2.2.2.1 _ _ rw_92
        have rw_96 : RowIs S_59 R2 (ql A) 600 := hx_64.2 _ (Ne.symm hne.2.1) (Ne.symm hp_1.2.2.2.2.2.2.1) _ _ pv_3
        have rw_97 : RowIs S_74 R2 (ql A) 600 := RowIs_sI rw_96 eS_74 (by decide) (by decide)
        have rw_98 : RowIs S_87 R2 (ql A) 600 := hx_90.2 _ (Ne.symm hne.2.2) (Ne.symm pr_95.2.2.2.2.2.2.2) _ _ rw_97
        have co_99 : CoP S_59 D (qpl A) (qsd A) := CoP_fr hk_60.fr hp_0 (by decide +kernel) pv_10
        have co_100 : CoP S_74 D (qpl A) (fuI (qsd A) q_65 2) := CoP_s3 co_99 eS_74
        have dt_102 : ∀ c, D c → At S_59 c 0 := fun c h => hk_60.fr.at (hp_0 c h)
        have dt_103 : ∀ c, D c → At S_74 c 0 := fun c h => tAt_sI eS_74 (dt_102 c h)
        have co_101 : CoP S_87 D (qpl A) (fuI (qsd A) q_65 2) := CoP_fr hk_88.fr dt_103 (by decide +kernel) co_100
        have t_104 : pI S_59 405 x = (qst A) := hk_60.fr.I' (by decide +kernel) ha_x pv_4
        have t_105 : pI S_74 405 x = (qst A) := tI_sI eS_74 rfl t_104
        have t_106 : pI S_87 405 x = (qst A) := hk_88.fr.I' (by decide +kernel) t_78 t_105
        have t_107 : pI S_59 406 x = (qse A) := hk_60.fr.I' (by decide +kernel) ha_x pv_5
        have t_108 : pI S_74 406 x = (qse A) := tI_sI eS_74 rfl t_107
        have t_109 : pI S_87 406 x = (qse A) := hk_88.fr.I' (by decide +kernel) t_78 t_108
        have t_110 : pI S_59 902 Gs = v_12 := hk_60.fr.I' (by decide +kernel) haGs ev_12
        have t_111 : pI S_74 902 Gs = v_12 := tI_sI eS_74 rfl t_110
        have t_113 : At S_59 Gs 29 := hk_60.fr.at haGs
        have t_114 : At S_74 Gs 29 := tAt_sI eS_74 t_113
        have t_112 : pI S_87 902 Gs = v_12 := hk_88.fr.I' (by decide +kernel) t_114 t_111
        have pz_115 : (pI S_87 902 Gs).toInt = v_12.toInt := (congrArg Int32.toInt t_112).trans rfl
        have t_116 : pI S_59 407 x = (qdr A) := hk_60.fr.I' (by decide +kernel) ha_x pv_7
        have t_117 : pI S_74 407 x = (qdr A) := tI_sI eS_74 rfl t_116
        have t_118 : pI S_87 407 x = (qdr A) := hk_88.fr.I' (by decide +kernel) t_78 t_117
        have t_119 : pI S_59 408 x = (qtk A) := hk_60.fr.I' (by decide +kernel) ha_x pv_8
        have t_120 : pI S_74 408 x = (qtk A) := tI_sI eS_74 rfl t_119
        have t_121 : pI S_87 408 x = (qtk A) := hk_88.fr.I' (by decide +kernel) t_78 t_120
        have t_122 : pI S_59 800 Ks = v_16 := hk_60.fr.I' (by decide +kernel) hp_4 ev_16
        have t_123 : pI S_74 800 Ks = v_16 := tI_sI eS_74 rfl t_122
        have t_125 : At S_59 Ks 8 := hk_60.fr.at hp_4
        have t_126 : At S_74 Ks 8 := tAt_sI eS_74 t_125
        have t_124 : pI S_87 800 Ks = v_16 := hk_88.fr.I' (by decide +kernel) t_126 t_123
        have pz_127 : (pI S_87 800 Ks).toInt = v_16.toInt := (congrArg Int32.toInt t_124).trans rfl
        have px_128 : PotX S S_59 x R0 R1 R2 Gs := PotX_row (PotX_rf S x R0 R1 R2 Gs) (fun _ _ h => h) haR0 haR1 haR2 (Or.inl rfl) hx_64 hk_60.fr (by decide +kernel)
        have px_129 : PotX S S_74 x R0 R1 R2 Gs := PotX_sI px_128 eS_74 (by decide)
        have ax_131 : ∀ a k, At S a k → At S_59 a k := fun a k h => hk_60.fr.at ((fun _ _ h => h) a k h)
        have ax_132 : ∀ a k, At S a k → At S_74 a k := fun a k h => tAt_sI eS_74 (ax_131 a k h)
        have px_130 : PotX S S_87 x R0 R1 R2 Gs := PotX_row px_129 ax_132 haR0 haR1 haR2 (Or.inr (Or.inl rfl)) hx_90 hk_88.fr (by decide +kernel)
        exact ret_v X hw hr hlocks (Nat.le_of_ble_eq_true rfl) (Nat.le_of_ble_eq_true rfl) ⟨hO_89, ⟨PotV_of (casF_c hL_72 (by omega)) rw_93 hr_91 rw_98 t_106 t_109 (show (pI S_87 902 Gs).toInt = (((qg A)).length : Int) by omega) t_118 t_121 (show (pI S_87 800 Ks).toInt = (((qsk A)).length : Int) by omega) co_101 (inD_cas pv_11), px_130⟩⟩ dX4_castFirst_47
set_option maxHeartbeats 4000000 in
set_option maxRecDepth 100000 in
theorem k_X4_dropThinnest5 (l : Launch) (G : va_G) (cy : Nat → ClassId) (κ : Nat → Nat) (S : PS) (sz : Nat) (x : Nat) (D : Nat → Prop) (R0 : Nat) (R1 : Nat) (R2 : Nat) (Gs : Nat) (Ks : Nat) (A : Pt) (Ev : En) (hG : GX S) (ha_x : At S x 4) (hp_0 : (∀ c, D c → At S c 0)) (hp_1 : PotR S x R0 R1 R2 Gs) (hp_2 : PotV S D x R0 R1 R2 Gs Ks A) (hp_3 : EnC S D x Ks Ev) (hp_4 : At S Ks 8) : Cv l yX4_dropThinnest wsX4_dropThinnest ({ frames := 4, cells := 0, slots := 0, locals := 192 }) G cy κ S sz [.ref x] (fun (S9 : PS) => Ok eCF S S9 ∧ (PotV S9 D x R0 R1 R2 Gs Ks (droF Ev A) ∧ PotX S S9 x R0 R1 R2 Gs)) := by
  refine ent_m (cc := cX4_dropThinnest) (maxL := 2) (ret := none) (by decide) rfl (Nat.le_of_ble_eq_true rfl) ?_
  intro p e s m below meth c ls X hr hlocks hin hw hl hsz
  subst hsz
  have X : Cx p c cX4_dropThinnest 2 s [.ref x].toArray wsX4_dropThinnest RX4 m G cy κ (AS S s.heap.size) := X
  have hl : lv_has ls 2 [(0, .ref x)] := hl
  have hO : Ok eCF S S := Ok.rf hG
  have hpr := hp_1
  obtain ⟨hr0, hr1, hr2, hr3, hne, hcn⟩ := hpr
  have haR0 := row_at hG ha_x (Or.inl hr0)
  have haR1 := row_at hG ha_x (Or.inr (Or.inl hr1))
  have haR2 := row_at hG ha_x (Or.inr (Or.inr hr2))
  have haGs : At S Gs 29 := by obtain ⟨c, k1, k2⟩ := gQ_4_403 hG ha_x; have h3 := hr3; rw [k1] at h3; cases h3; exact k2
  have hpv := hp_2
  obtain ⟨pv_1, pv_2, pv_3, pv_4, pv_5, pv_6, pv_7, pv_8, pv_9, pv_10, pv_11⟩ := hpv
  obtain ⟨v_12, ev_12⟩ : ∃ v, pI S 902 Gs = v := ⟨_, rfl⟩
  have rg_13 := gI_29_902 hO.1 haGs; rw [ev_12] at rg_13
  have pz_14 : (pI S 902 Gs).toInt = v_12.toInt := by rw [ev_12]
  have pz_15 : (pI S 902 Gs).toInt = v_12.toInt := (congrArg Int32.toInt ev_12).trans rfl
  obtain ⟨v_16, ev_16⟩ : ∃ v, pI S 800 Ks = v := ⟨_, rfl⟩
  have rg_17 := gI_8_800 hO.1 hp_4; rw [ev_16] at rg_17
  have pz_18 : (pI S 800 Ks).toInt = v_16.toInt := by rw [ev_16]
  have pz_19 : (pI S 800 Ks).toInt = v_16.toInt := (congrArg Int32.toInt ev_16).trans rfl
  refine lv_aload_n X.1 X.2.1 dX4_dropThinnest_0 rfl (lv_at hl 0 rfl) ?_
  refine r_getR (g := 401) X hw ha_x rfl 1 hr1 (by decide) rfl inn_X4_dropThinnest_4 (by decide) (X.2.2.2.1 (.fieldLink RX4 20 "SilkMill$Pot" "ends" "LSilkMill$Row;") (by decide +kernel)) rfl (gv_401 _ _) dX4_dropThinnest_1 ?_
  refine lv_aload_n X.1 X.2.1 dX4_dropThinnest_4 rfl (lv_at hl 0 rfl) ?_
  refine r_getR (g := 401) X hw ha_x rfl 1 hr1 (by decide) rfl inn_X4_dropThinnest_4 (by decide) (X.2.2.2.1 (.fieldLink RX4 20 "SilkMill$Pot" "ends" "LSilkMill$Row;") (by decide +kernel)) rfl (gv_401 _ _) dX4_dropThinnest_5 ?_
  refine k_i (rm := { frames := 3, cells := 0, slots := 0, locals := 144 }) (av := [.ref R1]) X hw (va_runV (As := []) (rest := [.ref R1]) (cfix X) (k_X5_thinnest5 l G cy κ S _ R1 (qe A) 12 hO.1 haR1 pv_2) (cwV 0 X.2.2.2.1 gX4_dropThinnest_X5_thinnest rfl rfl rfl (by decide +kernel) ⟨Nat.le_of_ble_eq_true rfl, Nat.le_of_ble_eq_true rfl⟩) (pre_V X hw _ haR1 rfl (by decide) rfl) rfl rfl hl.1 rfl (lv_room (Nat.le_of_ble_eq_true rfl)) dX4_dropThinnest_8 ⟨Nat.le_of_ble_eq_true rfl, Nat.le_of_ble_eq_true rfl⟩) 0 0 (Nat.le_of_ble_eq_true rfl) (Nat.le_of_ble_eq_true rfl) (fun rr_20 S_21 H locs hp hw hfr hnw => ?_)
  obtain ⟨e2, hp⟩ := hp
  subst e2
  obtain ⟨th_22, th_23, th_24⟩ := hp
  have th_25 := th_24.trans (thi_fv (A := A) hp_3 pv_10 pv_11)
  refine k_q (rm := { frames := 3, cells := 0, slots := 0, locals := 144 }) (av := [.ref R1, .int (rr_20)]) X hw (va_runV (As := [.int (rr_20)]) (rest := []) (cfix X) (k_X5_removeAt5 l G cy κ S _ R1 (rr_20) (rr_20.toInt) (qe A) 12 hO.1 haR1 rfl pv_2) (cwV 1 X.2.2.2.1 gX4_dropThinnest_X5_removeAt rfl rfl rfl (by decide +kernel) ⟨Nat.le_of_ble_eq_true rfl, Nat.le_of_ble_eq_true rfl⟩) (pre_V X hw _ haR1 rfl (by decide) rfl) rfl rfl hl.1 rfl (lv_room (Nat.le_of_ble_eq_true rfl)) dX4_dropThinnest_11 ⟨Nat.le_of_ble_eq_true rfl, Nat.le_of_ble_eq_true rfl⟩) 0 0 (Nat.le_of_ble_eq_true rfl) (Nat.le_of_ble_eq_true rfl) (fun rr_26 S_27 H locs hp hw hfr hnw => ?_)
  obtain ⟨hk_28, hp⟩ := hp
  have hO_29 : Ok eCF S S_27 := hO.call hk_28 (by decide +kernel)
  obtain ⟨hs_30, hn_31, hx_32⟩ := hp
  rcases rr_26 with _ | q_33
  · refine W.eq (g2 := F0 m 14 ls (.null :: [])) rfl ?_
    obtain ⟨hL_34, eS_35⟩ := hn_31 rfl
    have rw_36 : RowIs S_27 R1 (qe A) 12 := by rw [eS_35]; exact pv_2
    refine lv_astore_nN (lv' := [(1, .null), (0, .ref x)]) X.1 X.2.1 dX4_dropThinnest_14 rfl hl (by decide) rfl (fun ls hl => ?_)
    refine lv_aload_nN X.1 X.2.1 dX4_dropThinnest_15 rfl (lv_at hl 0 rfl) ?_
    refine lv_ifnullN (tgt := 32) X.1 X.2.1 dX4_dropThinnest_16 (by decide) ?_
    have rw_37 : RowIs S_27 R0 (qb A) 600 := hx_32.2 _ hne.1 hp_1.2.2.2.2.2.1 _ _ pv_1
    have rw_38 : RowIs S_27 R2 (ql A) 600 := hx_32.2 _ (Ne.symm hne.2.2) (Ne.symm hp_1.2.2.2.2.2.2.2) _ _ pv_3
    have co_39 : CoP S_27 D (qpl A) (qsd A) := CoP_fr hk_28.fr hp_0 (by decide +kernel) pv_10
    have t_40 : pI S_27 405 x = (qst A) := hk_28.fr.I' (by decide +kernel) ha_x pv_4
    have t_41 : pI S_27 406 x = (qse A) := hk_28.fr.I' (by decide +kernel) ha_x pv_5
    have t_42 : pI S_27 902 Gs = v_12 := hk_28.fr.I' (by decide +kernel) haGs ev_12
    have pz_43 : (pI S_27 902 Gs).toInt = v_12.toInt := (congrArg Int32.toInt t_42).trans rfl
    have t_44 : pI S_27 407 x = (qdr A) := hk_28.fr.I' (by decide +kernel) ha_x pv_7
    have t_45 : pI S_27 408 x = (qtk A) := hk_28.fr.I' (by decide +kernel) ha_x pv_8
    have t_46 : pI S_27 800 Ks = v_16 := hk_28.fr.I' (by decide +kernel) hp_4 ev_16
    have pz_47 : (pI S_27 800 Ks).toInt = v_16.toInt := (congrArg Int32.toInt t_46).trans rfl
    have px_48 : PotX S S_27 x R0 R1 R2 Gs := PotX_row (PotX_rf S x R0 R1 R2 Gs) (fun _ _ h => h) haR0 haR1 haR2 (Or.inr (Or.inl rfl)) hx_32 hk_28.fr (by decide +kernel)
    exact ret_v X hw hr hlocks (Nat.le_of_ble_eq_true rfl) (Nat.le_of_ble_eq_true rfl) ⟨hO_29, ⟨PotV_of (droF_n (by rw [← th_25]; exact hL_34)) rw_37 rw_36 rw_38 t_40 t_41 (show (pI S_27 902 Gs).toInt = (((qg A)).length : Int) by omega) t_44 t_45 (show (pI S_27 800 Ks).toInt = (((qsk A)).length : Int) by omega) co_39 (inD_dro pv_11), px_48⟩⟩ dX4_dropThinnest_32
  · refine W.eq (g2 := F0 m 14 ls (.ref q_33 :: [])) rfl ?_
    obtain ⟨ha_49, g0_50, g1_51, gi_52, hr_53⟩ := hs_30 _ rfl
    refine lv_astore_n (lv' := [(1, .ref q_33), (0, .ref x)]) X.1 X.2.1 dX4_dropThinnest_14 rfl hl (by decide) rfl (fun ls hl => ?_)
    refine lv_aload_n X.1 X.2.1 dX4_dropThinnest_15 rfl (lv_at hl 0 rfl) ?_
    refine lv_ifnull X.1 X.2.1 dX4_dropThinnest_16 ?_
    refine lv_aload_n X.1 X.2.1 dX4_dropThinnest_19 rfl (lv_at hl 0 rfl) ?_
    refine lv_iconst (v := 1) X.1 X.2.1 dX4_dropThinnest_20 (by decide) ?_
    refine r_putI (v := 1) X hw ha_49 rfl 3 3 tyX0 (by decide) rfl inn_X4_dropThinnest_0 tyX0_ok nmX0 (by decide) (X.2.2.2.1 (.fieldLink RX4 53 "SilkMill$Cocoon" "stand" "I") (by decide +kernel)) rfl (Or.inl rfl) rfl rfl (Nat.le_of_ble_eq_true rfl) (st_3 _ _) dX4_dropThinnest_21 (fun H locs hw => ?_)
    obtain ⟨S_54, eS_54⟩ : ∃ T, T = sI S_27 3 q_33 (1) := ⟨_, rfl⟩
    rw [← eS_54] at hw
    have hO_55 : Ok eCF S S_54 := hO_29.sI eS_54 (by decide +kernel) (uI_0_3 hO_29.1 ha_49)
    have h_56 : pI S_54 3 q_33 = 1 := tI_sIs eS_54
    refine lv_aload_n X.1 X.2.1 dX4_dropThinnest_24 rfl (lv_at hl 1 rfl) ?_
    have t_57 : At S_27 x 4 := hk_28.fr.at ha_x
    have t_58 : At S_54 x 4 := tAt_sI eS_54 t_57
    have t_59 : pR S_27 400 x = some R0 := hk_28.fr.R' (by decide +kernel) ha_x hr0
    have t_60 : pR S_54 400 x = some R0 := tR_sI eS_54 t_59
    refine r_getR (g := 400) X hw t_58 rfl 0 t_60 (by decide) rfl inn_X4_dropThinnest_4 (by decide) (X.2.2.2.1 (.fieldLink RX4 14 "SilkMill$Pot" "basket" "LSilkMill$Row;") (by decide +kernel)) rfl (gv_400 _ _) dX4_dropThinnest_25 ?_
    refine lv_aload_n X.1 X.2.1 dX4_dropThinnest_28 rfl (lv_at hl 0 rfl) ?_
    have t_61 : At S_27 R0 5 := hk_28.fr.at haR0
    have t_62 : At S_54 R0 5 := tAt_sI eS_54 t_61
    have t_63 : At S_54 q_33 0 := tAt_sI eS_54 ha_49
    have rw_64 : RowIs S_27 R0 (qb A) 600 := hx_32.2 _ hne.1 hp_1.2.2.2.2.2.1 _ _ pv_1
    have rw_65 : RowIs S_54 R0 (qb A) 600 := RowIs_sI rw_64 eS_54 (by decide) (by decide)
    refine k_v (rm := { frames := 2, cells := 0, slots := 0, locals := 96 }) (av := [.ref R0, .ref q_33]) X hw (va_runV (As := [.ref q_33]) (rest := []) (cfix X) (k_X5_addFirst5 l G cy κ S_54 _ R0 q_33 (qb A) 600 hO_55.1 t_62 t_63 rw_65) (cwV 1 X.2.2.2.1 gX4_dropThinnest_X5_addFirst rfl rfl rfl (by decide +kernel) ⟨Nat.le_of_ble_eq_true rfl, Nat.le_of_ble_eq_true rfl⟩) (pre_V X hw _ t_62 rfl (by decide) rfl) rfl rfl hl.1 rfl (lv_room (Nat.le_of_ble_eq_true rfl)) dX4_dropThinnest_29 ⟨Nat.le_of_ble_eq_true rfl, Nat.le_of_ble_eq_true rfl⟩) 0 0 (Nat.le_of_ble_eq_true rfl) (Nat.le_of_ble_eq_true rfl) (fun S_67 H locs hp hw hfr hnw => ?_)
    obtain ⟨hk_68, hp⟩ := hp
    have hO_69 : Ok eCF S S_67 := hO_55.call hk_68 (by decide +kernel)
    obtain ⟨hx_70, hr_71⟩ := hp
    have rw_72 : RowIs S_54 R1 ((qe A).eraseIdx (rr_20.toInt).toNat) 12 := RowIs_sI hr_53 eS_54 (by decide) (by decide)
    have pr_74 : PotR S_27 x R0 R1 R2 Gs := PotR_fr hO.1 ha_x hk_28.fr (by decide +kernel) hp_1
    have pr_75 : PotR S_54 x R0 R1 R2 Gs := PotR_sI pr_74 eS_54
    have rw_73 : RowIs S_67 R1 ((qe A).eraseIdx (rr_20.toInt).toNat) 12 := hx_70.2 _ (Ne.symm hne.1) (Ne.symm pr_75.2.2.2.2.2.1) _ _ rw_72
    have rw_76 : RowIs S_27 R2 (ql A) 600 := hx_32.2 _ (Ne.symm hne.2.2) (Ne.symm hp_1.2.2.2.2.2.2.2) _ _ pv_3
    have rw_77 : RowIs S_54 R2 (ql A) 600 := RowIs_sI rw_76 eS_54 (by decide) (by decide)
    have rw_78 : RowIs S_67 R2 (ql A) 600 := hx_70.2 _ (Ne.symm hne.2.1) (Ne.symm pr_75.2.2.2.2.2.2.1) _ _ rw_77
    have co_79 : CoP S_27 D (qpl A) (qsd A) := CoP_fr hk_28.fr hp_0 (by decide +kernel) pv_10
    have co_80 : CoP S_54 D (qpl A) (fuI (qsd A) q_33 1) := CoP_s3 co_79 eS_54
    have dt_82 : ∀ c, D c → At S_27 c 0 := fun c h => hk_28.fr.at (hp_0 c h)
    have dt_83 : ∀ c, D c → At S_54 c 0 := fun c h => tAt_sI eS_54 (dt_82 c h)
    have co_81 : CoP S_67 D (qpl A) (fuI (qsd A) q_33 1) := CoP_fr hk_68.fr dt_83 (by decide +kernel) co_80
    have t_84 : pI S_27 405 x = (qst A) := hk_28.fr.I' (by decide +kernel) ha_x pv_4
    have t_85 : pI S_54 405 x = (qst A) := tI_sI eS_54 rfl t_84
    have t_86 : pI S_67 405 x = (qst A) := hk_68.fr.I' (by decide +kernel) t_58 t_85
    have t_87 : pI S_27 406 x = (qse A) := hk_28.fr.I' (by decide +kernel) ha_x pv_5
    have t_88 : pI S_54 406 x = (qse A) := tI_sI eS_54 rfl t_87
    have t_89 : pI S_67 406 x = (qse A) := hk_68.fr.I' (by decide +kernel) t_58 t_88
    have t_90 : pI S_27 902 Gs = v_12 := hk_28.fr.I' (by decide +kernel) haGs ev_12
    have t_91 : pI S_54 902 Gs = v_12 := tI_sI eS_54 rfl t_90
    have t_93 : At S_27 Gs 29 := hk_28.fr.at haGs
    have t_94 : At S_54 Gs 29 := tAt_sI eS_54 t_93
    have t_92 : pI S_67 902 Gs = v_12 := hk_68.fr.I' (by decide +kernel) t_94 t_91
    have pz_95 : (pI S_67 902 Gs).toInt = v_12.toInt := (congrArg Int32.toInt t_92).trans rfl
    have t_96 : pI S_27 407 x = (qdr A) := hk_28.fr.I' (by decide +kernel) ha_x pv_7
    have t_97 : pI S_54 407 x = (qdr A) := tI_sI eS_54 rfl t_96
    have t_98 : pI S_67 407 x = (qdr A) := hk_68.fr.I' (by decide +kernel) t_58 t_97
    have t_99 : pI S_27 408 x = (qtk A) := hk_28.fr.I' (by decide +kernel) ha_x pv_8
    have t_100 : pI S_54 408 x = (qtk A) := tI_sI eS_54 rfl t_99
    have t_101 : pI S_67 408 x = (qtk A) := hk_68.fr.I' (by decide +kernel) t_58 t_100
    have t_102 : pI S_27 800 Ks = v_16 := hk_28.fr.I' (by decide +kernel) hp_4 ev_16
    have t_103 : pI S_54 800 Ks = v_16 := tI_sI eS_54 rfl t_102
    have t_105 : At S_27 Ks 8 := hk_28.fr.at hp_4
    have t_106 : At S_54 Ks 8 := tAt_sI eS_54 t_105
    have t_104 : pI S_67 800 Ks = v_16 := hk_68.fr.I' (by decide +kernel) t_106 t_103
    have pz_107 : (pI S_67 800 Ks).toInt = v_16.toInt := (congrArg Int32.toInt t_104).trans rfl
    have px_108 : PotX S S_27 x R0 R1 R2 Gs := PotX_row (PotX_rf S x R0 R1 R2 Gs) (fun _ _ h => h) haR0 haR1 haR2 (Or.inr (Or.inl rfl)) hx_32 hk_28.fr (by decide +kernel)
    have px_109 : PotX S S_54 x R0 R1 R2 Gs := PotX_sI px_108 eS_54 (by decide)
    have ax_111 : ∀ a k, At S a k → At S_27 a k := fun a k h => hk_28.fr.at ((fun _ _ h => h) a k h)
    have ax_112 : ∀ a k, At S a k → At S_54 a k := fun a k h => tAt_sI eS_54 (ax_111 a k h)
    have px_110 : PotX S S_67 x R0 R1 R2 Gs := PotX_row px_109 ax_112 haR0 haR1 haR2 (Or.inl rfl) hx_70 hk_68.fr (by decide +kernel)
    exact ret_v X hw hr hlocks (Nat.le_of_ble_eq_true rfl) (Nat.le_of_ble_eq_true rfl) ⟨hO_69, ⟨PotV_of (B := (wb (we (wsd A (fuI (qsd A) q_33 1)) ((qe A).eraseIdx (rr_20.toInt).toNat)) (capF 600 (qb A) q_33))) ((droF_c (E := Ev) (by rw [← th_25]; exact g0_50) (by rw [← th_25]; exact gi_52)).trans (by rw [← th_25])) hr_71 rw_73 rw_78 t_86 t_89 (show (pI S_67 902 Gs).toInt = (((qg A)).length : Int) by omega) t_98 t_101 (show (pI S_67 800 Ks).toInt = (((qsk A)).length : Int) by omega) co_81 (inD_dro pv_11), px_110⟩⟩ dX4_dropThinnest_32
set_option maxHeartbeats 4000000 in
set_option maxRecDepth 100000 in
theorem k_X4_searchLost5 (l : Launch) (G : va_G) (cy : Nat → ClassId) (κ : Nat → Nat) (S : PS) (sz : Nat) (x : Nat) (D : Nat → Prop) (R0 : Nat) (R1 : Nat) (R2 : Nat) (Gs : Nat) (Ks : Nat) (A : Pt) (Ev : En) (hG : GX S) (ha_x : At S x 4) (hp_0 : (∀ c, D c → At S c 0)) (hp_1 : PotR S x R0 R1 R2 Gs) (hp_2 : PotV S D x R0 R1 R2 Gs Ks A) (hp_3 : EnC S D x Ks Ev) (hp_4 : At S Ks 8) : Cv l yX4_searchLost wsX4_searchLost ({ frames := 4, cells := 0, slots := 0, locals := 192 }) G cy κ S sz [.ref x] (fun (S9 : PS) => Ok eFL S S9 ∧ (PotV S9 D x R0 R1 R2 Gs Ks (seaF Ev A) ∧ PotX S S9 x R0 R1 R2 Gs)) := by
  refine ent_m (cc := cX4_searchLost) (maxL := 1) (ret := none) (by decide) rfl (Nat.le_of_ble_eq_true rfl) ?_
  intro p e s m below meth c ls X hr hlocks hin hw hl hsz
  subst hsz
  have X : Cx p c cX4_searchLost 1 s [.ref x].toArray wsX4_searchLost RX4 m G cy κ (AS S s.heap.size) := X
  have hl : lv_has ls 1 [(0, .ref x)] := hl
  have hO : Ok eFL S S := Ok.rf hG
  have hpr := hp_1
  obtain ⟨hr0, hr1, hr2, hr3, hne, hcn⟩ := hpr
  have haR0 := row_at hG ha_x (Or.inl hr0)
  have haR1 := row_at hG ha_x (Or.inr (Or.inl hr1))
  have haR2 := row_at hG ha_x (Or.inr (Or.inr hr2))
  have haGs : At S Gs 29 := by obtain ⟨c, k1, k2⟩ := gQ_4_403 hG ha_x; have h3 := hr3; rw [k1] at h3; cases h3; exact k2
  have hpv := hp_2
  obtain ⟨pv_1, pv_2, pv_3, pv_4, pv_5, pv_6, pv_7, pv_8, pv_9, pv_10, pv_11⟩ := hpv
  obtain ⟨v_12, ev_12⟩ : ∃ v, pI S 902 Gs = v := ⟨_, rfl⟩
  have rg_13 := gI_29_902 hO.1 haGs; rw [ev_12] at rg_13
  have pz_14 : (pI S 902 Gs).toInt = v_12.toInt := by rw [ev_12]
  have pz_15 : (pI S 902 Gs).toInt = v_12.toInt := (congrArg Int32.toInt ev_12).trans rfl
  obtain ⟨v_16, ev_16⟩ : ∃ v, pI S 800 Ks = v := ⟨_, rfl⟩
  have rg_17 := gI_8_800 hO.1 hp_4; rw [ev_16] at rg_17
  have pz_18 : (pI S 800 Ks).toInt = v_16.toInt := by rw [ev_16]
  have pz_19 : (pI S 800 Ks).toInt = v_16.toInt := (congrArg Int32.toInt ev_16).trans rfl
  refine lv_aload_n X.1 X.2.1 dX4_searchLost_0 rfl (lv_at hl 0 rfl) ?_
  refine r_getR (g := 402) X hw ha_x rfl 2 hr2 (by decide) rfl inn_X4_searchLost_4 (by decide) (X.2.2.2.1 (.fieldLink RX4 23 "SilkMill$Pot" "lost" "LSilkMill$Row;") (by decide +kernel)) rfl (gv_402 _ _) dX4_searchLost_1 ?_
  obtain ⟨v_20, ev_20⟩ : ∃ v, pI S 500 R2 = v := ⟨_, rfl⟩
  obtain ⟨q_22, n_23, h_24, h_25, h_26, h_27, h_28⟩ := gRowQ hO.1 haR2
  have rg_21 := gRow_500 hO.1 haR2 h_24 h_26; rw [ev_20] at rg_21
  have pz_29 : (pI S 500 R2).toInt = v_20.toInt := by rw [ev_20]
  refine r_getI (g := 500) (x := v_20) X hw haR2 rfl 0 ev_20 (by decide) rfl inn_X4_searchLost_5 (by decide) (X.2.2.2.1 (.fieldLink RX4 73 "SilkMill$Row" "size" "I") (by decide +kernel)) rfl (gv_500 _ _) dX4_searchLost_4 ?_
  have sz_30 := RowIs_sz pv_3
  have pz_31 : (pI S 500 R2).toInt = v_20.toInt := (congrArg Int32.toInt ev_20).trans rfl
  refine lv_if_ne (tgt := 11) X.1 X.2.1 dX4_searchLost_7 (by decide) (fun c_32 => ?_) (fun c_32 => ?_)
  · have z_b_33 := trivial
    have k_34 : v_20.toInt ≠ 0 := z_ne rfl ti_0 c_32
    refine lv_aload_n X.1 X.2.1 dX4_searchLost_11 rfl (lv_at hl 0 rfl) ?_
    refine lv_dup X.1 X.2.1 dX4_searchLost_12 rfl ?_
    refine r_getI (g := 406) (x := (qse A)) X hw ha_x rfl 6 pv_5 (by decide) rfl inn_X4_searchLost_4 (by decide) (X.2.2.2.1 (.fieldLink RX4 91 "SilkMill$Pot" "search" "I") (by decide +kernel)) rfl (gv_406 _ _) dX4_searchLost_13 ?_
    refine lv_iconst (v := 1) X.1 X.2.1 dX4_searchLost_16 (by decide) ?_
    refine lv_iadd X.1 X.2.1 dX4_searchLost_17 ?_
    refine lv_topi (fun v_35 ev_35 => ?_)
    have rg_36 := And.intro (z_lo v_35) (z_hi v_35)
    refine r_putI (v := v_35) X hw ha_x rfl 6 406 tyX4 (by decide) rfl inn_X4_searchLost_4 tyX4_ok nmX4 (by decide) (X.2.2.2.1 (.fieldLink RX4 91 "SilkMill$Pot" "search" "I") (by decide +kernel)) rfl (Or.inl rfl) rfl rfl (Nat.le_of_ble_eq_true rfl) (st_406 _ _) dX4_searchLost_18 (fun H locs hw => ?_)
    obtain ⟨S_37, eS_37⟩ : ∃ T, T = sI S 406 x (v_35) := ⟨_, rfl⟩
    rw [← eS_37] at hw
    have hO_38 : Ok eFL S S_37 := hO.sI eS_37 (by decide +kernel) (uI_4_406 hO.1 ha_x)
    have h_39 : pI S_37 406 x = v_35 := tI_sIs eS_37
    refine lv_aload_n X.1 X.2.1 dX4_searchLost_21 rfl (lv_at hl 0 rfl) ?_
    have t_40 : At S_37 x 4 := tAt_sI eS_37 ha_x
    refine r_getI (g := 406) (x := v_35) X hw t_40 rfl 6 h_39 (by decide) rfl inn_X4_searchLost_4 (by decide) (X.2.2.2.1 (.fieldLink RX4 91 "SilkMill$Pot" "search" "I") (by decide +kernel)) rfl (gv_406 _ _) dX4_searchLost_22 ?_
    refine lv_aload_n X.1 X.2.1 dX4_searchLost_25 rfl (lv_at hl 0 rfl) ?_
    obtain ⟨v_41, ev_41⟩ : ∃ v, pI S_37 411 x = v := ⟨_, rfl⟩
    have rg_43 := And.intro (z_lo v_41) (z_hi v_41)
    have pz_44 : (pI S_37 411 x).toInt = v_41.toInt := by rw [ev_41]
    refine r_getI (g := 411) (x := v_41) X hw t_40 rfl 11 ev_41 (by decide) rfl inn_X4_searchLost_4 (by decide) (X.2.2.2.1 (.fieldLink RX4 47 "SilkMill$Pot" "find" "I") (by decide +kernel)) rfl (gv_411 _ _) dX4_searchLost_26 ?_
    have en_46 : EnC S_37 D x Ks Ev := EnC_sI hp_3 eS_37 (by decide)
    refine lv_icmp_lt (tgt := 41) X.1 X.2.1 dX4_searchLost_29 (by decide) (fun c_47 => ?_) (fun c_47 => ?_)
    · have z_b_48 := trivial
      have k_49 : v_35.toInt < v_41.toInt := z_lt rfl rfl c_47
      have rw_50 : RowIs S_37 R0 (qb A) 600 := RowIs_sI pv_1 eS_37 (by decide) (by decide)
      have rw_51 : RowIs S_37 R1 (qe A) 12 := RowIs_sI pv_2 eS_37 (by decide) (by decide)
      have rw_52 : RowIs S_37 R2 (ql A) 600 := RowIs_sI pv_3 eS_37 (by decide) (by decide)
      have co_53 : CoP S_37 D (qpl A) (qsd A) := CoP_sI pv_10 eS_37 (by decide) (by decide)
      have t_54 : pI S_37 405 x = (qst A) := tI_sI eS_37 rfl pv_4
      have t_55 : pI S_37 902 Gs = v_12 := tI_sI eS_37 rfl ev_12
      have pz_56 : (pI S_37 902 Gs).toInt = v_12.toInt := (congrArg Int32.toInt t_55).trans rfl
      have t_57 : pI S_37 407 x = (qdr A) := tI_sI eS_37 rfl pv_7
      have t_58 : pI S_37 408 x = (qtk A) := tI_sI eS_37 rfl pv_8
      have t_59 : pI S_37 800 Ks = v_16 := tI_sI eS_37 rfl ev_16
      have pz_60 : (pI S_37 800 Ks).toInt = v_16.toInt := (congrArg Int32.toInt t_59).trans rfl
      have px_61 : PotX S S_37 x R0 R1 R2 Gs := PotX_sx (PotX_rf S x R0 R1 R2 Gs) eS_37 (by decide)
      exact ret_v X hw hr hlocks (Nat.le_of_ble_eq_true rfl) (Nat.le_of_ble_eq_true rfl) ⟨hO_38, ⟨PotV_of (seaF_w (fun z => by have e0 := congrArg List.length z; have e1 : ([] : List Nat).length = 0 := rfl; omega) (by rw [← ev_35, en_46.2.2.2.2, ev_41]; omega)) rw_50 rw_51 rw_52 t_54 (h_39.trans ev_35) (show (pI S_37 902 Gs).toInt = (((qg A)).length : Int) by omega) t_57 t_58 (show (pI S_37 800 Ks).toInt = (((qsk A)).length : Int) by omega) co_53 (inD_sea pv_11), px_61⟩⟩ dX4_searchLost_41
    · have z_b_62 := trivial
      have k_63 : v_35.toInt ≥ v_41.toInt := z_nlt rfl rfl c_47
      refine lv_aload_n X.1 X.2.1 dX4_searchLost_32 rfl (lv_at hl 0 rfl) ?_
      refine lv_iconst (v := 0) X.1 X.2.1 dX4_searchLost_33 (by decide) ?_
      refine r_putI (v := 0) X hw t_40 rfl 6 406 tyX4 (by decide) rfl inn_X4_searchLost_4 tyX4_ok nmX4 (by decide) (X.2.2.2.1 (.fieldLink RX4 91 "SilkMill$Pot" "search" "I") (by decide +kernel)) rfl (Or.inl rfl) rfl rfl (Nat.le_of_ble_eq_true rfl) (st_406 _ _) dX4_searchLost_34 (fun H locs hw => ?_)
      obtain ⟨S_64, eS_64⟩ : ∃ T, T = sI S_37 406 x (0) := ⟨_, rfl⟩
      rw [← eS_64] at hw
      have hO_65 : Ok eFL S S_64 := hO_38.sI eS_64 (by decide +kernel) (uI_4_406 hO_38.1 t_40)
      have h_66 : pI S_64 406 x = 0 := tI_sIs eS_64
      refine lv_aload_n X.1 X.2.1 dX4_searchLost_37 rfl (lv_at hl 0 rfl) ?_
      have t_67 : At S_64 x 4 := tAt_sI eS_64 t_40
      have dt_68 : ∀ c, D c → At S_37 c 0 := fun c h => tAt_sI eS_37 (hp_0 c h)
      have dt_69 : ∀ c, D c → At S_64 c 0 := fun c h => tAt_sI eS_64 (dt_68 c h)
      have pr_70 : PotR S_37 x R0 R1 R2 Gs := PotR_sI hp_1 eS_37
      have pr_71 : PotR S_64 x R0 R1 R2 Gs := PotR_sI pr_70 eS_64
      have rw_72 : RowIs S_37 R0 (qb A) 600 := RowIs_sI pv_1 eS_37 (by decide) (by decide)
      have rw_73 : RowIs S_64 R0 (qb A) 600 := RowIs_sI rw_72 eS_64 (by decide) (by decide)
      have rw_74 : RowIs S_37 R1 (qe A) 12 := RowIs_sI pv_2 eS_37 (by decide) (by decide)
      have rw_75 : RowIs S_64 R1 (qe A) 12 := RowIs_sI rw_74 eS_64 (by decide) (by decide)
      have rw_76 : RowIs S_37 R2 (ql A) 600 := RowIs_sI pv_3 eS_37 (by decide) (by decide)
      have rw_77 : RowIs S_64 R2 (ql A) 600 := RowIs_sI rw_76 eS_64 (by decide) (by decide)
      have co_78 : CoP S_37 D (qpl A) (qsd A) := CoP_sI pv_10 eS_37 (by decide) (by decide)
      have co_79 : CoP S_64 D (qpl A) (qsd A) := CoP_sI co_78 eS_64 (by decide) (by decide)
      have t_80 : pI S_37 405 x = (qst A) := tI_sI eS_37 rfl pv_4
      have t_81 : pI S_64 405 x = (qst A) := tI_sI eS_64 rfl t_80
      have t_82 : pI S_37 902 Gs = v_12 := tI_sI eS_37 rfl ev_12
      have t_83 : pI S_64 902 Gs = v_12 := tI_sI eS_64 rfl t_82
      have pz_84 : (pI S_64 902 Gs).toInt = v_12.toInt := (congrArg Int32.toInt t_83).trans rfl
      have t_85 : pI S_37 407 x = (qdr A) := tI_sI eS_37 rfl pv_7
      have t_86 : pI S_64 407 x = (qdr A) := tI_sI eS_64 rfl t_85
      have t_87 : pI S_37 408 x = (qtk A) := tI_sI eS_37 rfl pv_8
      have t_88 : pI S_64 408 x = (qtk A) := tI_sI eS_64 rfl t_87
      have t_89 : pI S_37 800 Ks = v_16 := tI_sI eS_37 rfl ev_16
      have t_90 : pI S_64 800 Ks = v_16 := tI_sI eS_64 rfl t_89
      have pz_91 : (pI S_64 800 Ks).toInt = v_16.toInt := (congrArg Int32.toInt t_90).trans rfl
      have en_92 : EnC S_64 D x Ks Ev := EnC_sI en_46 eS_64 (by decide)
      have t_93 : At S_37 Ks 8 := tAt_sI eS_37 hp_4
      have t_94 : At S_64 Ks 8 := tAt_sI eS_64 t_93
      refine k_v (rm := { frames := 3, cells := 0, slots := 0, locals := 144 }) (av := [.ref x]) X hw (va_runV (As := []) (rest := []) (cfix X) (k_X4_fetchLost5 l G cy κ S_64 _ x D R0 R1 R2 Gs Ks (wse A 0) Ev hO_65.1 t_67 dt_69 pr_71 (PotV_of (rfl : (wse A 0) = (wse A 0)) rw_73 rw_75 rw_77 t_81 h_66 (show (pI S_64 902 Gs).toInt = (((qg A)).length : Int) by omega) t_86 t_88 (show (pI S_64 800 Ks).toInt = (((qsk A)).length : Int) by omega) co_79 pv_11) en_92 t_94) (cwV 0 X.2.2.2.1 gX4_searchLost_X4_fetchLost rfl rfl rfl (by decide +kernel) ⟨Nat.le_of_ble_eq_true rfl, Nat.le_of_ble_eq_true rfl⟩) (pre_V X hw _ t_67 rfl (by decide) rfl) rfl rfl hl.1 rfl (lv_room (Nat.le_of_ble_eq_true rfl)) dX4_searchLost_38 ⟨Nat.le_of_ble_eq_true rfl, Nat.le_of_ble_eq_true rfl⟩) 0 0 (Nat.le_of_ble_eq_true rfl) (Nat.le_of_ble_eq_true rfl) (fun S_96 H locs hp hw hfr hnw => ?_)
      obtain ⟨hk_97, hp⟩ := hp
      have hO_98 : Ok eFL S S_96 := hO_65.call hk_97 (by decide +kernel)
      obtain ⟨pv_99, hx_100⟩ := hp
      obtain ⟨pv_101, pv_102, pv_103, pv_104, pv_105, pv_106, pv_107, pv_108, pv_109, pv_110, pv_111⟩ := pv_99
      have t_113 : At S_37 Gs 29 := tAt_sI eS_37 haGs
      have t_114 : At S_64 Gs 29 := tAt_sI eS_64 t_113
      have t_112 : pI S_96 902 Gs = v_12 := hk_97.fr.I' (by decide +kernel) t_114 t_83
      have pz_115 : (pI S_96 902 Gs).toInt = v_12.toInt := (congrArg Int32.toInt t_112).trans rfl
      have t_116 : pI S_96 800 Ks = v_16 := hk_97.fr.I' (by decide +kernel) t_94 t_90
      have pz_117 : (pI S_96 800 Ks).toInt = v_16.toInt := (congrArg Int32.toInt t_116).trans rfl
      have pz_118 : (pI S_96 902 Gs).toInt = v_12.toInt := (congrArg Int32.toInt t_112).trans rfl
      have pz_119 : (pI S_96 800 Ks).toInt = v_16.toInt := (congrArg Int32.toInt t_116).trans rfl
      have px_120 : PotX S S_37 x R0 R1 R2 Gs := PotX_sx (PotX_rf S x R0 R1 R2 Gs) eS_37 (by decide)
      have px_121 : PotX S S_64 x R0 R1 R2 Gs := PotX_sx px_120 eS_64 (by decide)
      have ax_123 : ∀ a k, At S a k → At S_37 a k := fun a k h => tAt_sI eS_37 ((fun _ _ h => h) a k h)
      have ax_124 : ∀ a k, At S a k → At S_64 a k := fun a k h => tAt_sI eS_64 (ax_123 a k h)
      have px_122 : PotX S S_96 x R0 R1 R2 Gs := PotX_tr px_121 ax_124 haR0 haR1 haR2 hx_100
      exact ret_v X hw hr hlocks (Nat.le_of_ble_eq_true rfl) (Nat.le_of_ble_eq_true rfl) ⟨hO_98, ⟨PotV_of (seaF_f (fun z => by have e0 := congrArg List.length z; have e1 : ([] : List Nat).length = 0 := rfl; omega) (by rw [← ev_35, en_46.2.2.2.2, ev_41]; omega)) pv_101 pv_102 pv_103 pv_104 pv_105 (show (pI S_96 902 Gs).toInt = (((qg (fetF (wse A 0)))).length : Int) by omega) pv_107 pv_108 (show (pI S_96 800 Ks).toInt = (((qsk (fetF (wse A 0)))).length : Int) by omega) pv_110 (inD_sea pv_11), px_122⟩⟩ dX4_searchLost_41
  · have z_b_125 := trivial
    have k_126 : v_20.toInt = 0 := z_eq rfl ti_0 c_32
    have pz_127 : (pI S 902 Gs).toInt = v_12.toInt := (congrArg Int32.toInt ev_12).trans rfl
    have pz_128 : (pI S 800 Ks).toInt = v_16.toInt := (congrArg Int32.toInt ev_16).trans rfl
    exact ret_v X hw hr hlocks (Nat.le_of_ble_eq_true rfl) (Nat.le_of_ble_eq_true rfl) ⟨hO, ⟨PotV_of (seaF_n (List.eq_nil_of_length_eq_zero (by omega))) pv_1 pv_2 pv_3 pv_4 pv_5 (show (pI S 902 Gs).toInt = (((qg A)).length : Int) by omega) pv_7 pv_8 (show (pI S 800 Ks).toInt = (((qsk A)).length : Int) by omega) pv_10 (inD_sea pv_11), (PotX_rf S x R0 R1 R2 Gs)⟩⟩ dX4_searchLost_10
set_option maxHeartbeats 4000000 in
set_option maxRecDepth 100000 in
theorem k_X4_findFirst5 (l : Launch) (G : va_G) (cy : Nat → ClassId) (κ : Nat → Nat) (S : PS) (sz : Nat) (x : Nat) (D : Nat → Prop) (R0 : Nat) (R1 : Nat) (R2 : Nat) (Gs : Nat) (Ks : Nat) (A : Pt) (Ev : En) (hG : GX S) (ha_x : At S x 4) (hp_0 : (∀ c, D c → At S c 0)) (hp_1 : PotR S x R0 R1 R2 Gs) (hp_2 : PotV S D x R0 R1 R2 Gs Ks A) (hp_3 : EnC S D x Ks Ev) (hp_4 : At S Ks 8) : Cv l yX4_findFirst wsX4_findFirst ({ frames := 4, cells := 0, slots := 0, locals := 192 }) G cy κ S sz [.ref x] (fun (S9 : PS) => Ok eFI S S9 ∧ (PotV S9 D x R0 R1 R2 Gs Ks (fndF A) ∧ PotX S S9 x R0 R1 R2 Gs)) := by
  refine ent_m (cc := cX4_findFirst) (maxL := 1) (ret := none) (by decide) rfl (Nat.le_of_ble_eq_true rfl) ?_
  intro p e s m below meth c ls X hr hlocks hin hw hl hsz
  subst hsz
  have X : Cx p c cX4_findFirst 1 s [.ref x].toArray wsX4_findFirst RX4 m G cy κ (AS S s.heap.size) := X
  have hl : lv_has ls 1 [(0, .ref x)] := hl
  have hO : Ok eFI S S := Ok.rf hG
  have hpr := hp_1
  obtain ⟨hr0, hr1, hr2, hr3, hne, hcn⟩ := hpr
  have haR0 := row_at hG ha_x (Or.inl hr0)
  have haR1 := row_at hG ha_x (Or.inr (Or.inl hr1))
  have haR2 := row_at hG ha_x (Or.inr (Or.inr hr2))
  have haGs : At S Gs 29 := by obtain ⟨c, k1, k2⟩ := gQ_4_403 hG ha_x; have h3 := hr3; rw [k1] at h3; cases h3; exact k2
  have hpv := hp_2
  obtain ⟨pv_1, pv_2, pv_3, pv_4, pv_5, pv_6, pv_7, pv_8, pv_9, pv_10, pv_11⟩ := hpv
  obtain ⟨v_12, ev_12⟩ : ∃ v, pI S 902 Gs = v := ⟨_, rfl⟩
  have rg_13 := gI_29_902 hO.1 haGs; rw [ev_12] at rg_13
  have pz_14 : (pI S 902 Gs).toInt = v_12.toInt := by rw [ev_12]
  have pz_15 : (pI S 902 Gs).toInt = v_12.toInt := (congrArg Int32.toInt ev_12).trans rfl
  obtain ⟨v_16, ev_16⟩ : ∃ v, pI S 800 Ks = v := ⟨_, rfl⟩
  have rg_17 := gI_8_800 hO.1 hp_4; rw [ev_16] at rg_17
  have pz_18 : (pI S 800 Ks).toInt = v_16.toInt := by rw [ev_16]
  have pz_19 : (pI S 800 Ks).toInt = v_16.toInt := (congrArg Int32.toInt ev_16).trans rfl
  refine lv_aload_n X.1 X.2.1 dX4_findFirst_0 rfl (lv_at hl 0 rfl) ?_
  refine r_getR (g := 402) X hw ha_x rfl 2 hr2 (by decide) rfl inn_X4_findFirst_4 (by decide) (X.2.2.2.1 (.fieldLink RX4 23 "SilkMill$Pot" "lost" "LSilkMill$Row;") (by decide +kernel)) rfl (gv_402 _ _) dX4_findFirst_1 ?_
  obtain ⟨v_20, ev_20⟩ : ∃ v, pI S 500 R2 = v := ⟨_, rfl⟩
  obtain ⟨q_22, n_23, h_24, h_25, h_26, h_27, h_28⟩ := gRowQ hO.1 haR2
  have rg_21 := gRow_500 hO.1 haR2 h_24 h_26; rw [ev_20] at rg_21
  have pz_29 : (pI S 500 R2).toInt = v_20.toInt := by rw [ev_20]
  refine r_getI (g := 500) (x := v_20) X hw haR2 rfl 0 ev_20 (by decide) rfl inn_X4_findFirst_5 (by decide) (X.2.2.2.1 (.fieldLink RX4 73 "SilkMill$Row" "size" "I") (by decide +kernel)) rfl (gv_500 _ _) dX4_findFirst_4 ?_
  have sz_30 := RowIs_sz pv_3
  have pz_31 : (pI S 500 R2).toInt = v_20.toInt := (congrArg Int32.toInt ev_20).trans rfl
  refine lv_if_le (tgt := 24) X.1 X.2.1 dX4_findFirst_7 (by decide) (fun c_32 => ?_) (fun c_32 => ?_)
  · have z_b_33 := trivial
    have k_34 : v_20.toInt ≤ 0 := z_le rfl ti_0 c_32
    have pz_35 : (pI S 902 Gs).toInt = v_12.toInt := (congrArg Int32.toInt ev_12).trans rfl
    have pz_36 : (pI S 800 Ks).toInt = v_16.toInt := (congrArg Int32.toInt ev_16).trans rfl
    exact ret_v X hw hr hlocks (Nat.le_of_ble_eq_true rfl) (Nat.le_of_ble_eq_true rfl) ⟨hO, ⟨PotV_of (fndF_n (List.eq_nil_of_length_eq_zero (by omega))) pv_1 pv_2 pv_3 pv_4 pv_5 (show (pI S 902 Gs).toInt = (((qg A)).length : Int) by omega) pv_7 pv_8 (show (pI S 800 Ks).toInt = (((qsk A)).length : Int) by omega) pv_10 (inD_fnd pv_11), (PotX_rf S x R0 R1 R2 Gs)⟩⟩ dX4_findFirst_24
  · have z_b_37 := trivial
    have k_38 : v_20.toInt > 0 := z_nle rfl ti_0 c_32
    refine lv_aload_n X.1 X.2.1 dX4_findFirst_10 rfl (lv_at hl 0 rfl) ?_
    have pz_39 : (pI S 902 Gs).toInt = v_12.toInt := (congrArg Int32.toInt ev_12).trans rfl
    have pz_40 : (pI S 800 Ks).toInt = v_16.toInt := (congrArg Int32.toInt ev_16).trans rfl
    refine k_v (rm := { frames := 3, cells := 0, slots := 0, locals := 144 }) (av := [.ref x]) X hw (va_runV (As := []) (rest := []) (cfix X) (k_X4_fetchLost5 l G cy κ S _ x D R0 R1 R2 Gs Ks A Ev hO.1 ha_x hp_0 hp_1 (PotV_of (rfl : A = A) pv_1 pv_2 pv_3 pv_4 pv_5 (show (pI S 902 Gs).toInt = (((qg A)).length : Int) by omega) pv_7 pv_8 (show (pI S 800 Ks).toInt = (((qsk A)).length : Int) by omega) pv_10 pv_11) hp_3 hp_4) (cwV 0 X.2.2.2.1 gX4_findFirst_X4_fetchLost rfl rfl rfl (by decide +kernel) ⟨Nat.le_of_ble_eq_true rfl, Nat.le_of_ble_eq_true rfl⟩) (pre_V X hw _ ha_x rfl (by decide) rfl) rfl rfl hl.1 rfl (lv_room (Nat.le_of_ble_eq_true rfl)) dX4_findFirst_11 ⟨Nat.le_of_ble_eq_true rfl, Nat.le_of_ble_eq_true rfl⟩) 0 0 (Nat.le_of_ble_eq_true rfl) (Nat.le_of_ble_eq_true rfl) (fun S_42 H locs hp hw hfr hnw => ?_)
    obtain ⟨hk_43, hp⟩ := hp
    have hO_44 : Ok eFI S S_42 := hO.call hk_43 (by decide +kernel)
    obtain ⟨pv_45, hx_46⟩ := hp
    obtain ⟨pv_47, pv_48, pv_49, pv_50, pv_51, pv_52, pv_53, pv_54, pv_55, pv_56, pv_57⟩ := pv_45
    have t_58 : pI S_42 902 Gs = v_12 := hk_43.fr.I' (by decide +kernel) haGs ev_12
    have pz_59 : (pI S_42 902 Gs).toInt = v_12.toInt := (congrArg Int32.toInt t_58).trans rfl
    have t_60 : pI S_42 800 Ks = v_16 := hk_43.fr.I' (by decide +kernel) hp_4 ev_16
    have pz_61 : (pI S_42 800 Ks).toInt = v_16.toInt := (congrArg Int32.toInt t_60).trans rfl
    refine lv_aload_n X.1 X.2.1 dX4_findFirst_14 rfl (lv_at hl 0 rfl) ?_
    refine lv_dup X.1 X.2.1 dX4_findFirst_15 rfl ?_
    have t_62 : At S_42 x 4 := hk_43.fr.at ha_x
    refine r_getI (g := 405) (x := (qst (fetF A))) X hw t_62 rfl 5 pv_50 (by decide) rfl inn_X4_findFirst_4 (by decide) (X.2.2.2.1 (.fieldLink RX4 66 "SilkMill$Pot" "stop" "I") (by decide +kernel)) rfl (gv_405 _ _) dX4_findFirst_16 ?_
    refine lv_iconst (v := 2) X.1 X.2.1 dX4_findFirst_19 (by decide) ?_
    refine lv_iadd X.1 X.2.1 dX4_findFirst_20 ?_
    refine lv_topi (fun v_63 ev_63 => ?_)
    have rg_64 := And.intro (z_lo v_63) (z_hi v_63)
    refine r_putI (v := v_63) X hw t_62 rfl 5 405 tyX4 (by decide) rfl inn_X4_findFirst_4 tyX4_ok nmX4 (by decide) (X.2.2.2.1 (.fieldLink RX4 66 "SilkMill$Pot" "stop" "I") (by decide +kernel)) rfl (Or.inl rfl) rfl rfl (Nat.le_of_ble_eq_true rfl) (st_405 _ _) dX4_findFirst_21 (fun H locs hw => ?_)
    obtain ⟨S_65, eS_65⟩ : ∃ T, T = sI S_42 405 x (v_63) := ⟨_, rfl⟩
    rw [← eS_65] at hw
    have hO_66 : Ok eFI S S_65 := hO_44.sI eS_65 (by decide +kernel) (uI_4_405 hO_44.1 t_62)
    have h_67 : pI S_65 405 x = v_63 := tI_sIs eS_65
    have rw_68 : RowIs S_65 R0 (qb (fetF A)) 600 := RowIs_sI pv_47 eS_65 (by decide) (by decide)
    have rw_69 : RowIs S_65 R1 (qe (fetF A)) 12 := RowIs_sI pv_48 eS_65 (by decide) (by decide)
    have rw_70 : RowIs S_65 R2 (ql (fetF A)) 600 := RowIs_sI pv_49 eS_65 (by decide) (by decide)
    have co_71 : CoP S_65 D (qpl (fetF A)) (qsd (fetF A)) := CoP_sI pv_56 eS_65 (by decide) (by decide)
    have t_72 : pI S_65 406 x = (qse (fetF A)) := tI_sI eS_65 rfl pv_51
    have t_73 : pI S_65 902 Gs = v_12 := tI_sI eS_65 rfl t_58
    have pz_74 : (pI S_65 902 Gs).toInt = v_12.toInt := (congrArg Int32.toInt t_73).trans rfl
    have t_75 : pI S_65 407 x = (qdr (fetF A)) := tI_sI eS_65 rfl pv_53
    have t_76 : pI S_65 408 x = (qtk (fetF A)) := tI_sI eS_65 rfl pv_54
    have t_77 : pI S_65 800 Ks = v_16 := tI_sI eS_65 rfl t_60
    have pz_78 : (pI S_65 800 Ks).toInt = v_16.toInt := (congrArg Int32.toInt t_77).trans rfl
    have px_79 : PotX S S_42 x R0 R1 R2 Gs := PotX_tr (PotX_rf S x R0 R1 R2 Gs) (fun _ _ h => h) haR0 haR1 haR2 hx_46
    have px_80 : PotX S S_65 x R0 R1 R2 Gs := PotX_sx px_79 eS_65 (by decide)
    exact ret_v X hw hr hlocks (Nat.le_of_ble_eq_true rfl) (Nat.le_of_ble_eq_true rfl) ⟨hO_66, ⟨PotV_of (fndF_c (fun z => by have e0 := congrArg List.length z; have e1 : ([] : List Nat).length = 0 := rfl; omega)) rw_68 rw_69 rw_70 (h_67.trans ev_63) t_72 (show (pI S_65 902 Gs).toInt = (((qg (fetF A))).length : Int) by omega) t_75 t_76 (show (pI S_65 800 Ks).toInt = (((qsk (fetF A))).length : Int) by omega) co_71 (inD_fnd pv_11), px_80⟩⟩ dX4_findFirst_24
set_option maxHeartbeats 4000000 in
set_option maxRecDepth 100000 in
theorem k_X4_throwLast5 (l : Launch) (G : va_G) (cy : Nat → ClassId) (κ : Nat → Nat) (S : PS) (sz : Nat) (x : Nat) (s1 : Nat) (D : Nat → Prop) (R0 : Nat) (R1 : Nat) (R2 : Nat) (Gs : Nat) (A : Pt) (Ev : En) (hG : GX S) (ha_x : At S x 4) (ha_s1 : At S s1 8) (hp_0 : (∀ c, D c → At S c 0)) (hp_1 : PotR S x R0 R1 R2 Gs) (hp_2 : PotV S D x R0 R1 R2 Gs s1 A) (hp_3 : EnC S D x s1 Ev) : Cv l yX4_throwLast wsX4_throwLast ({ frames := 4, cells := 0, slots := 0, locals := 192 }) G cy κ S sz [.ref x, .ref s1] (fun (S9 : PS) => Ok eTH S S9 ∧ (PotV S9 D x R0 R1 R2 Gs s1 (throF A) ∧ PotX S S9 x R0 R1 R2 Gs)) := by
  refine ent_m (cc := cX4_throwLast) (maxL := 3) (ret := none) (by decide) rfl (Nat.le_of_ble_eq_true rfl) ?_
  intro p e s m below meth c ls X hr hlocks hin hw hl hsz
  subst hsz
  have X : Cx p c cX4_throwLast 3 s [.ref x, .ref s1].toArray wsX4_throwLast RX4 m G cy κ (AS S s.heap.size) := X
  have hl : lv_has ls 3 [(0, .ref x), (1, .ref s1)] := hl
  have hO : Ok eTH S S := Ok.rf hG
  have hpr := hp_1
  obtain ⟨hr0, hr1, hr2, hr3, hne, hcn⟩ := hpr
  have haR0 := row_at hG ha_x (Or.inl hr0)
  have haR1 := row_at hG ha_x (Or.inr (Or.inl hr1))
  have haR2 := row_at hG ha_x (Or.inr (Or.inr hr2))
  have haGs : At S Gs 29 := by obtain ⟨c, k1, k2⟩ := gQ_4_403 hG ha_x; have h3 := hr3; rw [k1] at h3; cases h3; exact k2
  have hpv := hp_2
  obtain ⟨pv_1, pv_2, pv_3, pv_4, pv_5, pv_6, pv_7, pv_8, pv_9, pv_10, pv_11⟩ := hpv
  obtain ⟨v_12, ev_12⟩ : ∃ v, pI S 902 Gs = v := ⟨_, rfl⟩
  have rg_13 := gI_29_902 hO.1 haGs; rw [ev_12] at rg_13
  have pz_14 : (pI S 902 Gs).toInt = v_12.toInt := by rw [ev_12]
  have pz_15 : (pI S 902 Gs).toInt = v_12.toInt := (congrArg Int32.toInt ev_12).trans rfl
  obtain ⟨v_16, ev_16⟩ : ∃ v, pI S 800 s1 = v := ⟨_, rfl⟩
  have rg_17 := gI_8_800 hO.1 ha_s1; rw [ev_16] at rg_17
  have pz_18 : (pI S 800 s1).toInt = v_16.toInt := by rw [ev_16]
  have pz_19 : (pI S 800 s1).toInt = v_16.toInt := (congrArg Int32.toInt ev_16).trans rfl
  refine lv_aload_n X.1 X.2.1 dX4_throwLast_0 rfl (lv_at hl 0 rfl) ?_
  refine r_getR (g := 400) X hw ha_x rfl 0 hr0 (by decide) rfl inn_X4_throwLast_4 (by decide) (X.2.2.2.1 (.fieldLink RX4 14 "SilkMill$Pot" "basket" "LSilkMill$Row;") (by decide +kernel)) rfl (gv_400 _ _) dX4_throwLast_1 ?_
  refine lv_aload_n X.1 X.2.1 dX4_throwLast_4 rfl (lv_at hl 0 rfl) ?_
  refine r_getR (g := 400) X hw ha_x rfl 0 hr0 (by decide) rfl inn_X4_throwLast_4 (by decide) (X.2.2.2.1 (.fieldLink RX4 14 "SilkMill$Pot" "basket" "LSilkMill$Row;") (by decide +kernel)) rfl (gv_400 _ _) dX4_throwLast_5 ?_
  obtain ⟨v_20, ev_20⟩ : ∃ v, pI S 500 R0 = v := ⟨_, rfl⟩
  obtain ⟨q_22, n_23, h_24, h_25, h_26, h_27, h_28⟩ := gRowQ hO.1 haR0
  have rg_21 := gRow_500 hO.1 haR0 h_24 h_26; rw [ev_20] at rg_21
  have pz_29 : (pI S 500 R0).toInt = v_20.toInt := by rw [ev_20]
  refine r_getI (g := 500) (x := v_20) X hw haR0 rfl 0 ev_20 (by decide) rfl inn_X4_throwLast_5 (by decide) (X.2.2.2.1 (.fieldLink RX4 73 "SilkMill$Row" "size" "I") (by decide +kernel)) rfl (gv_500 _ _) dX4_throwLast_8 ?_
  refine lv_iconst (v := 1) X.1 X.2.1 dX4_throwLast_11 (by decide) ?_
  refine lv_isub X.1 X.2.1 dX4_throwLast_12 ?_
  refine lv_topi (fun v_30 ev_30 => ?_)
  have z_31 : v_30.toInt = v_20.toInt - 1 := z_sub ev_30 rfl ti_1 (by omega) (by omega)
  have sz_32 := RowIs_sz pv_1
  have pz_33 : (pI S 500 R0).toInt = v_20.toInt := (congrArg Int32.toInt ev_20).trans rfl
  refine k_q (rm := { frames := 3, cells := 0, slots := 0, locals := 144 }) (av := [.ref R0, .int (v_30)]) X hw (va_runV (As := [.int (v_30)]) (rest := []) (cfix X) (k_X5_removeAt5 l G cy κ S _ R0 (v_30) (v_30.toInt) (qb A) 600 hO.1 haR0 rfl pv_1) (cwV 1 X.2.2.2.1 gX4_throwLast_X5_removeAt rfl rfl rfl (by decide +kernel) ⟨Nat.le_of_ble_eq_true rfl, Nat.le_of_ble_eq_true rfl⟩) (pre_V X hw _ haR0 rfl (by decide) rfl) rfl rfl hl.1 rfl (lv_room (Nat.le_of_ble_eq_true rfl)) dX4_throwLast_13 ⟨Nat.le_of_ble_eq_true rfl, Nat.le_of_ble_eq_true rfl⟩) 0 0 (Nat.le_of_ble_eq_true rfl) (Nat.le_of_ble_eq_true rfl) (fun rr_34 S_35 H locs hp hw hfr hnw => ?_)
  obtain ⟨hk_36, hp⟩ := hp
  have hO_37 : Ok eTH S S_35 := hO.call hk_36 (by decide +kernel)
  obtain ⟨hs_38, hn_39, hx_40⟩ := hp
  rcases rr_34 with _ | q_41
  · refine W.eq (g2 := F0 m 16 ls (.null :: [])) rfl ?_
    obtain ⟨hL_42, eS_43⟩ := hn_39 rfl
    have rw_44 : RowIs S_35 R0 (qb A) 600 := by rw [eS_43]; exact pv_1
    refine lv_astore_nN (lv' := [(2, .null), (0, .ref x), (1, .ref s1)]) X.1 X.2.1 dX4_throwLast_16 rfl hl (by decide) rfl (fun ls hl => ?_)
    refine lv_aload_nN X.1 X.2.1 dX4_throwLast_17 rfl (lv_at hl 0 rfl) ?_
    refine lv_ifnullN (tgt := 48) X.1 X.2.1 dX4_throwLast_18 (by decide) ?_
    have rw_45 : RowIs S_35 R1 (qe A) 12 := hx_40.2 _ (Ne.symm hne.1) (Ne.symm hp_1.2.2.2.2.2.1) _ _ pv_2
    have rw_46 : RowIs S_35 R2 (ql A) 600 := hx_40.2 _ (Ne.symm hne.2.1) (Ne.symm hp_1.2.2.2.2.2.2.1) _ _ pv_3
    have co_47 : CoP S_35 D (qpl A) (qsd A) := CoP_fr hk_36.fr hp_0 (by decide +kernel) pv_10
    have t_48 : pI S_35 405 x = (qst A) := hk_36.fr.I' (by decide +kernel) ha_x pv_4
    have t_49 : pI S_35 406 x = (qse A) := hk_36.fr.I' (by decide +kernel) ha_x pv_5
    have t_50 : pI S_35 902 Gs = v_12 := hk_36.fr.I' (by decide +kernel) haGs ev_12
    have pz_51 : (pI S_35 902 Gs).toInt = v_12.toInt := (congrArg Int32.toInt t_50).trans rfl
    have t_52 : pI S_35 407 x = (qdr A) := hk_36.fr.I' (by decide +kernel) ha_x pv_7
    have t_53 : pI S_35 408 x = (qtk A) := hk_36.fr.I' (by decide +kernel) ha_x pv_8
    have t_54 : pI S_35 800 s1 = v_16 := hk_36.fr.I' (by decide +kernel) ha_s1 ev_16
    have pz_55 : (pI S_35 800 s1).toInt = v_16.toInt := (congrArg Int32.toInt t_54).trans rfl
    have px_56 : PotX S S_35 x R0 R1 R2 Gs := PotX_row (PotX_rf S x R0 R1 R2 Gs) (fun _ _ h => h) haR0 haR1 haR2 (Or.inl rfl) hx_40 hk_36.fr (by decide +kernel)
    exact ret_v X hw hr hlocks (Nat.le_of_ble_eq_true rfl) (Nat.le_of_ble_eq_true rfl) ⟨hO_37, ⟨PotV_of (throF_n (List.eq_nil_of_length_eq_zero (by omega))) rw_44 rw_45 rw_46 t_48 t_49 (show (pI S_35 902 Gs).toInt = (((qg A)).length : Int) by omega) t_52 t_53 (show (pI S_35 800 s1).toInt = (((qsk A)).length : Int) by omega) co_47 (inD_thr pv_11), px_56⟩⟩ dX4_throwLast_48
  · refine W.eq (g2 := F0 m 16 ls (.ref q_41 :: [])) rfl ?_
    obtain ⟨ha_57, g0_58, g1_59, gi_60, hr_61⟩ := hs_38 _ rfl
    refine lv_astore_n (lv' := [(2, .ref q_41), (0, .ref x), (1, .ref s1)]) X.1 X.2.1 dX4_throwLast_16 rfl hl (by decide) rfl (fun ls hl => ?_)
    refine lv_aload_n X.1 X.2.1 dX4_throwLast_17 rfl (lv_at hl 0 rfl) ?_
    refine lv_ifnull X.1 X.2.1 dX4_throwLast_18 ?_
    refine lv_aload_n X.1 X.2.1 dX4_throwLast_21 rfl (lv_at hl 0 rfl) ?_
    refine lv_bipush (v := 6) X.1 X.2.1 dX4_throwLast_22 (by decide) ?_
    refine r_putI (v := 6) X hw ha_57 rfl 3 3 tyX0 (by decide) rfl inn_X4_throwLast_0 tyX0_ok nmX0 (by decide) (X.2.2.2.1 (.fieldLink RX4 53 "SilkMill$Cocoon" "stand" "I") (by decide +kernel)) rfl (Or.inl rfl) rfl rfl (Nat.le_of_ble_eq_true rfl) (st_3 _ _) dX4_throwLast_24 (fun H locs hw => ?_)
    obtain ⟨S_62, eS_62⟩ : ∃ T, T = sI S_35 3 q_41 (6) := ⟨_, rfl⟩
    rw [← eS_62] at hw
    have hO_63 : Ok eTH S S_62 := hO_37.sI eS_62 (by decide +kernel) (uI_0_3 hO_37.1 ha_57)
    have h_64 : pI S_62 3 q_41 = 6 := tI_sIs eS_62
    refine lv_aload_n X.1 X.2.1 dX4_throwLast_27 rfl (lv_at hl 2 rfl) ?_
    refine lv_dup X.1 X.2.1 dX4_throwLast_28 rfl ?_
    have t_65 : At S_35 s1 8 := hk_36.fr.at ha_s1
    have t_66 : At S_62 s1 8 := tAt_sI eS_62 t_65
    obtain ⟨v_67, ev_67⟩ : ∃ v, pI S_62 804 s1 = v := ⟨_, rfl⟩
    have rg_69 := And.intro (z_lo v_67) (z_hi v_67)
    have pz_70 : (pI S_62 804 s1).toInt = v_67.toInt := by rw [ev_67]
    refine r_getI (g := 804) (x := v_67) X hw t_66 rfl 4 ev_67 (by decide) rfl inn_X4_throwLast_8 (by decide) (X.2.2.2.1 (.fieldLink RX4 177 "SilkMill$Store" "silkThrown" "I") (by decide +kernel)) rfl (gv_804 _ _) dX4_throwLast_29 ?_
    refine lv_aload_n X.1 X.2.1 dX4_throwLast_32 rfl (lv_at hl 0 rfl) ?_
    refine lv_aload_n X.1 X.2.1 dX4_throwLast_33 rfl (lv_at hl 0 rfl) ?_
    have t_71 : At S_62 q_41 0 := tAt_sI eS_62 ha_57
    obtain ⟨v_72, ev_72⟩ : ∃ v, pI S_62 4 q_41 = v := ⟨_, rfl⟩
    have rg_74 := And.intro (z_lo v_72) (z_hi v_72)
    have pz_75 : (pI S_62 4 q_41).toInt = v_72.toInt := by rw [ev_72]
    refine r_getI (g := 4) (x := v_72) X hw t_71 rfl 4 ev_72 (by decide) rfl inn_X4_throwLast_0 (by decide) (X.2.2.2.1 (.fieldLink RX4 180 "SilkMill$Cocoon" "drawnTo" "I") (by decide +kernel)) rfl (gv_4 _ _) dX4_throwLast_34 ?_
    refine lv_aload_n X.1 X.2.1 dX4_throwLast_37 rfl (lv_at hl 0 rfl) ?_
    obtain ⟨v_76, ev_76⟩ : ∃ v, pI S_62 2 q_41 = v := ⟨_, rfl⟩
    have rg_77 := gI_0_2 hO_63.1 t_71; rw [ev_76] at rg_77
    have pz_78 : (pI S_62 2 q_41).toInt = v_76.toInt := by rw [ev_76]
    refine r_getI (g := 2) (x := v_76) X hw t_71 rfl 2 ev_76 (by decide) rfl inn_X4_throwLast_0 (by decide) (X.2.2.2.1 (.fieldLink RX4 183 "SilkMill$Cocoon" "length" "I") (by decide +kernel)) rfl (gv_2 _ _) dX4_throwLast_38 ?_
    refine k_i (rm := { frames := 2, cells := 0, slots := 0, locals := 96 }) (av := [.ref q_41, .int (v_72), .int (v_76)]) X hw (va_runV (As := [.int (v_72), .int (v_76)]) (rest := [.int (v_67), .ref s1]) (cfix X) (k_X0_silkBetween l G cy κ S_62 _ q_41 (v_72) (v_72.toInt) (v_76) (v_76.toInt) hO_63.1 t_71 rfl rfl) (cwV 2 X.2.2.2.1 gX4_throwLast_X0_silkBetween rfl rfl rfl (by decide +kernel) ⟨Nat.le_of_ble_eq_true rfl, Nat.le_of_ble_eq_true rfl⟩) (pre_V X hw _ t_71 rfl (by decide) rfl) rfl rfl hl.1 rfl (lv_room (Nat.le_of_ble_eq_true rfl)) dX4_throwLast_41 ⟨Nat.le_of_ble_eq_true rfl, Nat.le_of_ble_eq_true rfl⟩) 0 0 (Nat.le_of_ble_eq_true rfl) (Nat.le_of_ble_eq_true rfl) (fun rr_79 S_80 H locs hp hw hfr hnw => ?_)
    obtain ⟨e2, hp⟩ := hp
    subst e2
    have rg_81 := And.intro (z_lo rr_79) (z_hi rr_79)
    refine lv_iadd X.1 X.2.1 dX4_throwLast_44 ?_
    refine lv_topi (fun v_82 ev_82 => ?_)
    have rg_83 := And.intro (z_lo v_82) (z_hi v_82)
    refine r_putI (v := v_82) X hw t_66 rfl 4 804 tyX8 (by decide) rfl inn_X4_throwLast_8 tyX8_ok nmX8 (by decide) (X.2.2.2.1 (.fieldLink RX4 177 "SilkMill$Store" "silkThrown" "I") (by decide +kernel)) rfl (Or.inl rfl) rfl rfl (Nat.le_of_ble_eq_true rfl) (st_804 _ _) dX4_throwLast_45 (fun H locs hw => ?_)
    obtain ⟨S_84, eS_84⟩ : ∃ T, T = sI S_62 804 s1 (v_82) := ⟨_, rfl⟩
    rw [← eS_84] at hw
    have hO_85 : Ok eTH S S_84 := hO_63.sI eS_84 (by decide +kernel) (uI_8_804 hO_63.1 t_66)
    have h_86 : pI S_84 804 s1 = v_82 := tI_sIs eS_84
    have rw_87 : RowIs S_62 R0 ((qb A).eraseIdx (v_30.toInt).toNat) 600 := RowIs_sI hr_61 eS_62 (by decide) (by decide)
    have rw_88 : RowIs S_84 R0 ((qb A).eraseIdx (v_30.toInt).toNat) 600 := RowIs_sI rw_87 eS_84 (by decide) (by decide)
    have rw_89 : RowIs S_35 R1 (qe A) 12 := hx_40.2 _ (Ne.symm hne.1) (Ne.symm hp_1.2.2.2.2.2.1) _ _ pv_2
    have rw_90 : RowIs S_62 R1 (qe A) 12 := RowIs_sI rw_89 eS_62 (by decide) (by decide)
    have rw_91 : RowIs S_84 R1 (qe A) 12 := RowIs_sI rw_90 eS_84 (by decide) (by decide)
    have rw_92 : RowIs S_35 R2 (ql A) 600 := hx_40.2 _ (Ne.symm hne.2.1) (Ne.symm hp_1.2.2.2.2.2.2.1) _ _ pv_3
    have rw_93 : RowIs S_62 R2 (ql A) 600 := RowIs_sI rw_92 eS_62 (by decide) (by decide)
    have rw_94 : RowIs S_84 R2 (ql A) 600 := RowIs_sI rw_93 eS_84 (by decide) (by decide)
    have co_95 : CoP S_35 D (qpl A) (qsd A) := CoP_fr hk_36.fr hp_0 (by decide +kernel) pv_10
    have co_96 : CoP S_62 D (qpl A) (fuI (qsd A) q_41 6) := CoP_s3 co_95 eS_62
    have co_97 : CoP S_84 D (qpl A) (fuI (qsd A) q_41 6) := CoP_sI co_96 eS_84 (by decide) (by decide)
    have t_98 : pI S_35 405 x = (qst A) := hk_36.fr.I' (by decide +kernel) ha_x pv_4
    have t_99 : pI S_62 405 x = (qst A) := tI_sI eS_62 rfl t_98
    have t_100 : pI S_84 405 x = (qst A) := tI_sI eS_84 rfl t_99
    have t_101 : pI S_35 406 x = (qse A) := hk_36.fr.I' (by decide +kernel) ha_x pv_5
    have t_102 : pI S_62 406 x = (qse A) := tI_sI eS_62 rfl t_101
    have t_103 : pI S_84 406 x = (qse A) := tI_sI eS_84 rfl t_102
    have t_104 : pI S_35 902 Gs = v_12 := hk_36.fr.I' (by decide +kernel) haGs ev_12
    have t_105 : pI S_62 902 Gs = v_12 := tI_sI eS_62 rfl t_104
    have t_106 : pI S_84 902 Gs = v_12 := tI_sI eS_84 rfl t_105
    have pz_107 : (pI S_84 902 Gs).toInt = v_12.toInt := (congrArg Int32.toInt t_106).trans rfl
    have t_108 : pI S_35 407 x = (qdr A) := hk_36.fr.I' (by decide +kernel) ha_x pv_7
    have t_109 : pI S_62 407 x = (qdr A) := tI_sI eS_62 rfl t_108
    have t_110 : pI S_84 407 x = (qdr A) := tI_sI eS_84 rfl t_109
    have t_111 : pI S_35 408 x = (qtk A) := hk_36.fr.I' (by decide +kernel) ha_x pv_8
    have t_112 : pI S_62 408 x = (qtk A) := tI_sI eS_62 rfl t_111
    have t_113 : pI S_84 408 x = (qtk A) := tI_sI eS_84 rfl t_112
    have t_114 : pI S_35 800 s1 = v_16 := hk_36.fr.I' (by decide +kernel) ha_s1 ev_16
    have t_115 : pI S_62 800 s1 = v_16 := tI_sI eS_62 rfl t_114
    have t_116 : pI S_84 800 s1 = v_16 := tI_sI eS_84 rfl t_115
    have pz_117 : (pI S_84 800 s1).toInt = v_16.toInt := (congrArg Int32.toInt t_116).trans rfl
    have px_118 : PotX S S_35 x R0 R1 R2 Gs := PotX_row (PotX_rf S x R0 R1 R2 Gs) (fun _ _ h => h) haR0 haR1 haR2 (Or.inl rfl) hx_40 hk_36.fr (by decide +kernel)
    have px_119 : PotX S S_62 x R0 R1 R2 Gs := PotX_sI px_118 eS_62 (by decide)
    have px_120 : PotX S S_84 x R0 R1 R2 Gs := PotX_sI px_119 eS_84 (by decide)
    exact ret_v X hw hr hlocks (Nat.le_of_ble_eq_true rfl) (Nat.le_of_ble_eq_true rfl) ⟨hO_85, ⟨PotV_of (B := (wb (wsd A (fuI (qsd A) q_41 6)) ((qb A).eraseIdx (v_30.toInt).toNat))) ((throF_c (by rw [show (qb A).length - 1 = (v_30.toInt).toNat by omega]; exact gi_60)).trans (by rw [show (qb A).length - 1 = (v_30.toInt).toNat by omega])) rw_88 rw_91 rw_94 t_100 t_103 (show (pI S_84 902 Gs).toInt = (((qg A)).length : Int) by omega) t_110 t_113 (show (pI S_84 800 s1).toInt = (((qsk A)).length : Int) by omega) co_97 (inD_thr pv_11), px_120⟩⟩ dX4_throwLast_48
set_option maxHeartbeats 4000000 in
set_option maxRecDepth 100000 in
theorem k_X4_isRelated5 (l : Launch) (G : va_G) (cy : Nat → ClassId) (κ : Nat → Nat) (S : PS) (sz : Nat) (a1 : Int32) (a1_z : Int) (a2 : Int32) (a2_z : Int) (a3 : Int32) (a3_z : Int) (hG : GX S) (hz_a1 : a1.toInt = a1_z) (hz_a2 : a2.toInt = a2_z) (hz_a3 : a3.toInt = a3_z) : Ci l yX4_isRelated wsX4_isRelated ({ frames := 1, cells := 0, slots := 0, locals := 48 }) G cy κ S sz [.int (a1), .int (a2), .int (a3)] (fun (r : Int32) (S9 : PS) => S = S9 ∧ (((relP a2 a1_z a3_z) ∧ r = 1) ∨ ((¬ relP a2 a1_z a3_z) ∧ r = 0))) := by
  refine ent_m (cc := cX4_isRelated) (maxL := 3) (ret := (some .boolean)) (by decide) rfl (Nat.le_of_ble_eq_true rfl) ?_
  intro p e s m below meth c ls X hr hlocks hin hw hl hsz
  subst hsz
  have X : Cx p c cX4_isRelated 3 s [.int (a1), .int (a2), .int (a3)].toArray wsX4_isRelated RX4 m G cy κ (AS S s.heap.size) := X
  have hl : lv_has ls 3 [(0, .int (a1)), (1, .int (a2)), (2, .int (a3))] := hl
  have rg_a1 : (-2147483648) ≤ a1_z ∧ a1_z ≤ 2147483647 := by rw [← hz_a1]; exact ⟨z_lo _, z_hi _⟩
  have rg_a2 : (-2147483648) ≤ a2_z ∧ a2_z ≤ 2147483647 := by rw [← hz_a2]; exact ⟨z_lo _, z_hi _⟩
  have rg_a3 : (-2147483648) ≤ a3_z ∧ a3_z ≤ 2147483647 := by rw [← hz_a3]; exact ⟨z_lo _, z_hi _⟩
  refine lv_iload_n X.1 X.2.1 dX4_isRelated_0 rfl (lv_at hl 1 rfl) ?_
  refine lv_bipush (v := 60) X.1 X.2.1 dX4_isRelated_1 (by decide) ?_
  refine lv_icmp_ne (tgt := 17) X.1 X.2.1 dX4_isRelated_3 (by decide) (fun c_1 => ?_) (fun c_1 => ?_)
  · have z_b_2 := trivial
    have k_3 : a2_z ≠ 60 := z_ne hz_a2 ti_60 c_1
    refine lv_iload_n X.1 X.2.1 dX4_isRelated_17 rfl (lv_at hl 1 rfl) ?_
    refine lv_bipush (v := 61) X.1 X.2.1 dX4_isRelated_18 (by decide) ?_
    refine lv_icmp_ne (tgt := 36) X.1 X.2.1 dX4_isRelated_20 (by decide) (fun c_4 => ?_) (fun c_4 => ?_)
    · have z_b_5 := trivial
      have k_6 : a2_z ≠ 61 := z_ne hz_a2 ti_61 c_4
      refine lv_iload_n X.1 X.2.1 dX4_isRelated_36 rfl (lv_at hl 0 rfl) ?_
      refine lv_iload_n X.1 X.2.1 dX4_isRelated_37 rfl (lv_at hl 2 rfl) ?_
      refine lv_icmp_le (tgt := 45) X.1 X.2.1 dX4_isRelated_38 (by decide) (fun c_7 => ?_) (fun c_7 => ?_)
      · have z_b_8 := trivial
        have k_9 : a1_z ≤ a3_z := z_le hz_a1 hz_a3 c_7
        refine lv_iconst (v := 0) X.1 X.2.1 dX4_isRelated_45 (by decide) ?_
        exact ret_z X hw hr hlocks (Nat.le_of_ble_eq_true rfl) (Nat.le_of_ble_eq_true rfl) (by decide) ⟨rfl, Or.inr ⟨(by unfold relP; first | (have e6 : a2 = 60 := i32_eq hz_a2 ti_60 (by omega); rw [if_pos e6]; omega) | (have e6 : ¬ a2 = 60 := i32_ne hz_a2 ti_60 (by omega); rw [if_neg e6]; have e7 : a2 = 61 := i32_eq hz_a2 ti_61 (by omega); rw [if_pos e7]; omega) | (have e6 : ¬ a2 = 60 := i32_ne hz_a2 ti_60 (by omega); rw [if_neg e6]; have e7 : ¬ a2 = 61 := i32_ne hz_a2 ti_61 (by omega); rw [if_neg e7]; omega)), rfl⟩⟩ dX4_isRelated_46
      · have z_b_10 := trivial
        have k_11 : a1_z > a3_z := z_nle hz_a1 hz_a3 c_7
        refine lv_iconst (v := 1) X.1 X.2.1 dX4_isRelated_41 (by decide) ?_
        refine lv_goto (tgt := 46) X.1 X.2.1 dX4_isRelated_42 (by decide) ?_
        exact ret_z X hw hr hlocks (Nat.le_of_ble_eq_true rfl) (Nat.le_of_ble_eq_true rfl) (by decide) ⟨rfl, Or.inl ⟨(by unfold relP; first | (have e6 : a2 = 60 := i32_eq hz_a2 ti_60 (by omega); rw [if_pos e6]; omega) | (have e6 : ¬ a2 = 60 := i32_ne hz_a2 ti_60 (by omega); rw [if_neg e6]; have e7 : a2 = 61 := i32_eq hz_a2 ti_61 (by omega); rw [if_pos e7]; omega) | (have e6 : ¬ a2 = 60 := i32_ne hz_a2 ti_60 (by omega); rw [if_neg e6]; have e7 : ¬ a2 = 61 := i32_ne hz_a2 ti_61 (by omega); rw [if_neg e7]; omega)), rfl⟩⟩ dX4_isRelated_46
    · have z_b_12 := trivial
      have k_13 : a2_z = 61 := z_eq hz_a2 ti_61 c_4
      refine lv_iload_n X.1 X.2.1 dX4_isRelated_23 rfl (lv_at hl 0 rfl) ?_
      refine lv_iload_n X.1 X.2.1 dX4_isRelated_24 rfl (lv_at hl 2 rfl) ?_
      refine lv_icmp_ne (tgt := 32) X.1 X.2.1 dX4_isRelated_25 (by decide) (fun c_14 => ?_) (fun c_14 => ?_)
      · have z_b_15 := trivial
        have k_16 : a1_z ≠ a3_z := z_ne hz_a1 hz_a3 c_14
        refine lv_iconst (v := 0) X.1 X.2.1 dX4_isRelated_32 (by decide) ?_
        refine lv_goto (tgt := 46) X.1 X.2.1 dX4_isRelated_33 (by decide) ?_
        exact ret_z X hw hr hlocks (Nat.le_of_ble_eq_true rfl) (Nat.le_of_ble_eq_true rfl) (by decide) ⟨rfl, Or.inr ⟨(by unfold relP; first | (have e6 : a2 = 60 := i32_eq hz_a2 ti_60 (by omega); rw [if_pos e6]; omega) | (have e6 : ¬ a2 = 60 := i32_ne hz_a2 ti_60 (by omega); rw [if_neg e6]; have e7 : a2 = 61 := i32_eq hz_a2 ti_61 (by omega); rw [if_pos e7]; omega) | (have e6 : ¬ a2 = 60 := i32_ne hz_a2 ti_60 (by omega); rw [if_neg e6]; have e7 : ¬ a2 = 61 := i32_ne hz_a2 ti_61 (by omega); rw [if_neg e7]; omega)), rfl⟩⟩ dX4_isRelated_46
      · have z_b_17 := trivial
        have k_18 : a1_z = a3_z := z_eq hz_a1 hz_a3 c_14
        refine lv_iconst (v := 1) X.1 X.2.1 dX4_isRelated_28 (by decide) ?_
        refine lv_goto (tgt := 46) X.1 X.2.1 dX4_isRelated_29 (by decide) ?_
        exact ret_z X hw hr hlocks (Nat.le_of_ble_eq_true rfl) (Nat.le_of_ble_eq_true rfl) (by decide) ⟨rfl, Or.inl ⟨(by unfold relP; first | (have e6 : a2 = 60 := i32_eq hz_a2 ti_60 (by omega); rw [if_pos e6]; omega) | (have e6 : ¬ a2 = 60 := i32_ne hz_a2 ti_60 (by omega); rw [if_neg e6]; have e7 : a2 = 61 := i32_eq hz_a2 ti_61 (by omega); rw [if_pos e7]; omega) | (have e6 : ¬ a2 = 60 := i32_ne hz_a2 ti_60 (by omega); rw [if_neg e6]; have e7 : ¬ a2 = 61 := i32_ne hz_a2 ti_61 (by omega); rw [if_neg e7]; omega)), rfl⟩⟩ dX4_isRelated_46
  · have z_b_19 := trivial
    have k_20 : a2_z = 60 := z_eq hz_a2 ti_60 c_1
    refine lv_iload_n X.1 X.2.1 dX4_isRelated_6 rfl (lv_at hl 0 rfl) ?_
    refine lv_iload_n X.1 X.2.1 dX4_isRelated_7 rfl (lv_at hl 2 rfl) ?_
    refine lv_icmp_ge (tgt := 15) X.1 X.2.1 dX4_isRelated_8 (by decide) (fun c_21 => ?_) (fun c_21 => ?_)
    · have z_b_22 := trivial
      have k_23 : a1_z ≥ a3_z := z_le hz_a3 hz_a1 c_21
      refine lv_iconst (v := 0) X.1 X.2.1 dX4_isRelated_15 (by decide) ?_
      exact ret_z X hw hr hlocks (Nat.le_of_ble_eq_true rfl) (Nat.le_of_ble_eq_true rfl) (by decide) ⟨rfl, Or.inr ⟨(by unfold relP; first | (have e6 : a2 = 60 := i32_eq hz_a2 ti_60 (by omega); rw [if_pos e6]; omega) | (have e6 : ¬ a2 = 60 := i32_ne hz_a2 ti_60 (by omega); rw [if_neg e6]; have e7 : a2 = 61 := i32_eq hz_a2 ti_61 (by omega); rw [if_pos e7]; omega) | (have e6 : ¬ a2 = 60 := i32_ne hz_a2 ti_60 (by omega); rw [if_neg e6]; have e7 : ¬ a2 = 61 := i32_ne hz_a2 ti_61 (by omega); rw [if_neg e7]; omega)), rfl⟩⟩ dX4_isRelated_16
    · have z_b_24 := trivial
      have k_25 : a1_z < a3_z := z_nle hz_a3 hz_a1 c_21
      refine lv_iconst (v := 1) X.1 X.2.1 dX4_isRelated_11 (by decide) ?_
      refine lv_goto (tgt := 16) X.1 X.2.1 dX4_isRelated_12 (by decide) ?_
      exact ret_z X hw hr hlocks (Nat.le_of_ble_eq_true rfl) (Nat.le_of_ble_eq_true rfl) (by decide) ⟨rfl, Or.inl ⟨(by unfold relP; first | (have e6 : a2 = 60 := i32_eq hz_a2 ti_60 (by omega); rw [if_pos e6]; omega) | (have e6 : ¬ a2 = 60 := i32_ne hz_a2 ti_60 (by omega); rw [if_neg e6]; have e7 : a2 = 61 := i32_eq hz_a2 ti_61 (by omega); rw [if_pos e7]; omega) | (have e6 : ¬ a2 = 60 := i32_ne hz_a2 ti_60 (by omega); rw [if_neg e6]; have e7 : ¬ a2 = 61 := i32_ne hz_a2 ti_61 (by omega); rw [if_neg e7]; omega)), rfl⟩⟩ dX4_isRelated_16
set_option maxHeartbeats 4000000 in
set_option maxRecDepth 100000 in
theorem k_X4_finenessOf5 (l : Launch) (G : va_G) (cy : Nat → ClassId) (κ : Nat → Nat) (S : PS) (sz : Nat) (c1 : Option Nat) (hG : GX S) (hq_c1 : ∀ q, c1 = some q → At S q 0) : Ci l yX4_finenessOf wsX4_finenessOf ({ frames := 2, cells := 0, slots := 0, locals := 96 }) G cy κ S sz [va_rf c1] (fun (r : Int32) (S9 : PS) => S = S9 ∧ (-2147483648 ≤ r.toInt ∧ r.toInt ≤ 2147483647 ∧ (∀ q, c1 = some q → r = fvS S q) ∧ (c1 = none → r = 0))) := by
  rcases c1 with _ | q_c1
  · have z_b_1 := trivial
    refine ent_m (cc := cX4_finenessOf) (maxL := 1) (ret := (some .int)) (by decide) rfl (Nat.le_of_ble_eq_true rfl) ?_
    intro p e s m below meth c ls X hr hlocks hin hw hl hsz
    subst hsz
    have X : Cx p c cX4_finenessOf 1 s [.null].toArray wsX4_finenessOf RX4 m G cy κ (AS S s.heap.size) := X
    have hl : lv_has ls 1 [(0, .null)] := hl
    refine lv_aload_nN X.1 X.2.1 dX4_finenessOf_0 rfl (lv_at hl 0 rfl) ?_
    refine lv_ifnonnullN X.1 X.2.1 dX4_finenessOf_1 ?_
    refine lv_iconst (v := 0) X.1 X.2.1 dX4_finenessOf_4 (by decide) ?_
    refine lv_goto (tgt := 16) X.1 X.2.1 dX4_finenessOf_5 (by decide) ?_
    exact ret_i X hw hr hlocks (Nat.le_of_ble_eq_true rfl) (Nat.le_of_ble_eq_true rfl) ⟨rfl, ⟨z_lo _, z_hi _, fun q h => (by cases h), fun _ => rfl⟩⟩ dX4_finenessOf_16
  · have z_b_2 := trivial
    have ha_q_c1 : At S q_c1 0 := hq_c1 _ rfl
    refine ent_m (cc := cX4_finenessOf) (maxL := 1) (ret := (some .int)) (by decide) rfl (Nat.le_of_ble_eq_true rfl) ?_
    intro p e s m below meth c ls X hr hlocks hin hw hl hsz
    subst hsz
    have X : Cx p c cX4_finenessOf 1 s [.ref q_c1].toArray wsX4_finenessOf RX4 m G cy κ (AS S s.heap.size) := X
    have hl : lv_has ls 1 [(0, .ref q_c1)] := hl
    refine lv_aload_n X.1 X.2.1 dX4_finenessOf_0 rfl (lv_at hl 0 rfl) ?_
    refine lv_ifnonnull (tgt := 8) X.1 X.2.1 dX4_finenessOf_1 (by decide) ?_
    refine lv_aload_n X.1 X.2.1 dX4_finenessOf_8 rfl (lv_at hl 0 rfl) ?_
    refine lv_aload_n X.1 X.2.1 dX4_finenessOf_9 rfl (lv_at hl 0 rfl) ?_
    obtain ⟨v_3, ev_3⟩ : ∃ v, pI S 4 q_c1 = v := ⟨_, rfl⟩
    have rg_5 := And.intro (z_lo v_3) (z_hi v_3)
    have pz_6 : (pI S 4 q_c1).toInt = v_3.toInt := by rw [ev_3]
    refine r_getI (g := 4) (x := v_3) X hw ha_q_c1 rfl 4 ev_3 (by decide) rfl inn_X4_finenessOf_0 (by decide) (X.2.2.2.1 (.fieldLink RX4 180 "SilkMill$Cocoon" "drawnTo" "I") (by decide +kernel)) rfl (gv_4 _ _) dX4_finenessOf_10 ?_
    refine k_i (rm := { frames := 1, cells := 0, slots := 0, locals := 48 }) (av := [.ref q_c1, .int (v_3)]) X hw (va_runV (As := [.int (v_3)]) (rest := []) (cfix X) (k_X0_finenessAt2 l G cy κ S _ q_c1 (v_3) (v_3.toInt) hG ha_q_c1 rfl) (cwV 1 X.2.2.2.1 gX4_finenessOf_X0_finenessAt rfl rfl rfl (by decide +kernel) ⟨Nat.le_of_ble_eq_true rfl, Nat.le_of_ble_eq_true rfl⟩) (pre_V X hw _ ha_q_c1 rfl (by decide) rfl) rfl rfl hl.1 rfl (lv_room (Nat.le_of_ble_eq_true rfl)) dX4_finenessOf_13 ⟨Nat.le_of_ble_eq_true rfl, Nat.le_of_ble_eq_true rfl⟩) 0 0 (Nat.le_of_ble_eq_true rfl) (Nat.le_of_ble_eq_true rfl) (fun rr_7 S_8 H locs hp hw hfr hnw => ?_)
    obtain ⟨e2, hp⟩ := hp
    subst e2
    have fn_9 := hp
    have rg_10 := And.intro (z_lo rr_7) (z_hi rr_7)
    exact ret_i X hw hr hlocks (Nat.le_of_ble_eq_true rfl) (Nat.le_of_ble_eq_true rfl) ⟨rfl, ⟨z_lo _, z_hi _, fun q h => (by cases h; unfold fvS; rw [ev_3]; exact fn_9), fun h => (by cases h)⟩⟩ dX4_finenessOf_16
set_option maxHeartbeats 4000000 in
set_option maxRecDepth 100000 in
theorem k_X4_valueOf5 (l : Launch) (G : va_G) (cy : Nat → ClassId) (κ : Nat → Nat) (S : PS) (sz : Nat) (x : Nat) (a1 : Int32) (a1_z : Int) (a2 : Int32) (a2_z : Int) (D : Nat → Prop) (R0 : Nat) (R1 : Nat) (R2 : Nat) (Gs : Nat) (Ks : Nat) (A : Pt) (Ev : En) (hG : GX S) (ha_x : At S x 4) (hz_a1 : a1.toInt = a1_z) (hz_a2 : a2.toInt = a2_z) (hp_0 : (∀ c, D c → At S c 0)) (hp_1 : PotR S x R0 R1 R2 Gs) (hp_2 : PotV S D x R0 R1 R2 Gs Ks A) (hp_3 : EnC S D x Ks Ev) (hp_4 : At S Ks 8) (hp_5 : a2 = eday Ev) : Ci l yX4_valueOf wsX4_valueOf ({ frames := 4, cells := 0, slots := 0, locals := 192 }) G cy κ S sz [.ref x, .int (a1), .int (a2)] (fun (r : Int32) (S9 : PS) => S = S9 ∧ (-2147483648 ≤ r.toInt ∧ r.toInt ≤ 2147483647 ∧ r.toInt = valF Ev A a1)) := by
  refine ent_m (cc := cX4_valueOf) (maxL := 3) (ret := (some .int)) (by decide) rfl (Nat.le_of_ble_eq_true rfl) ?_
  intro p e s m below meth c ls X hr hlocks hin hw hl hsz
  subst hsz
  have X : Cx p c cX4_valueOf 3 s [.ref x, .int (a1), .int (a2)].toArray wsX4_valueOf RX4 m G cy κ (AS S s.heap.size) := X
  have hl : lv_has ls 3 [(0, .ref x), (1, .int (a1)), (2, .int (a2))] := hl
  have rg_a1 : (-2147483648) ≤ a1_z ∧ a1_z ≤ 2147483647 := by rw [← hz_a1]; exact ⟨z_lo _, z_hi _⟩
  have rg_a2 : (-2147483648) ≤ a2_z ∧ a2_z ≤ 2147483647 := by rw [← hz_a2]; exact ⟨z_lo _, z_hi _⟩
  have hpr := hp_1
  obtain ⟨hr0, hr1, hr2, hr3, hne, hcn⟩ := hpr
  have haR0 := row_at hG ha_x (Or.inl hr0)
  have haR1 := row_at hG ha_x (Or.inr (Or.inl hr1))
  have haR2 := row_at hG ha_x (Or.inr (Or.inr hr2))
  have haGs : At S Gs 29 := by obtain ⟨c, k1, k2⟩ := gQ_4_403 hG ha_x; have h3 := hr3; rw [k1] at h3; cases h3; exact k2
  have hpv := hp_2
  obtain ⟨pv_1, pv_2, pv_3, pv_4, pv_5, pv_6, pv_7, pv_8, pv_9, pv_10, pv_11⟩ := hpv
  obtain ⟨v_12, ev_12⟩ : ∃ v, pI S 902 Gs = v := ⟨_, rfl⟩
  have rg_13 := gI_29_902 hG haGs; rw [ev_12] at rg_13
  have pz_14 : (pI S 902 Gs).toInt = v_12.toInt := by rw [ev_12]
  have pz_15 : (pI S 902 Gs).toInt = v_12.toInt := (congrArg Int32.toInt ev_12).trans rfl
  obtain ⟨v_16, ev_16⟩ : ∃ v, pI S 800 Ks = v := ⟨_, rfl⟩
  have rg_17 := gI_8_800 hG hp_4; rw [ev_16] at rg_17
  have pz_18 : (pI S 800 Ks).toInt = v_16.toInt := by rw [ev_16]
  have pz_19 : (pI S 800 Ks).toInt = v_16.toInt := (congrArg Int32.toInt ev_16).trans rfl
  refine lv_iload_n X.1 X.2.1 dX4_valueOf_0 rfl (lv_at hl 1 rfl) ?_
  by_cases w_20 : (a1).toInt < 0 ∨ 5 < (a1).toInt
  · refine lv_tableOut (tgt := 98) X.1 X.2.1 dX4_valueOf_1 w_20 (by decide) ?_
    refine lv_iload_n X.1 X.2.1 dX4_valueOf_98 rfl (lv_at hl 2 rfl) ?_
    exact ret_i X hw hr hlocks (Nat.le_of_ble_eq_true rfl) (Nat.le_of_ble_eq_true rfl) ⟨rfl, ⟨z_lo _, z_hi _, by rw [valF_d hz_a1 (by omega), ← hp_5]⟩⟩ dX4_valueOf_99
  have w_20b : (a1).toInt = 0 ∨ (a1).toInt = 1 ∨ (a1).toInt = 2 ∨ (a1).toInt = 3 ∨ (a1).toInt = 4 ∨ (a1).toInt = 5 := by omega
  rcases w_20b with w_20c | w_20c | w_20c | w_20c | w_20c | w_20c
  · refine lv_tableIn (tgt := 40) X.1 X.2.1 dX4_valueOf_1 (by omega) (by omega) (by rw [w_20c]; rfl) (by decide) ?_
    refine lv_aload_n X.1 X.2.1 dX4_valueOf_40 rfl (lv_at hl 0 rfl) ?_
    refine r_getR (g := 401) X hw ha_x rfl 1 hr1 (by decide) rfl inn_X4_valueOf_4 (by decide) (X.2.2.2.1 (.fieldLink RX4 20 "SilkMill$Pot" "ends" "LSilkMill$Row;") (by decide +kernel)) rfl (gv_401 _ _) dX4_valueOf_41 ?_
    refine k_i (rm := { frames := 3, cells := 0, slots := 0, locals := 144 }) (av := [.ref R1]) X hw (va_runV (As := []) (rest := []) (cfix X) (k_X5_sumOfFineness5 l G cy κ S _ R1 (qe A) 12 hG haR1 pv_2) (cwV 0 X.2.2.2.1 gX4_valueOf_X5_sumOfFineness rfl rfl rfl (by decide +kernel) ⟨Nat.le_of_ble_eq_true rfl, Nat.le_of_ble_eq_true rfl⟩) (pre_V X hw _ haR1 rfl (by decide) rfl) rfl rfl hl.1 rfl (lv_room (Nat.le_of_ble_eq_true rfl)) dX4_valueOf_44 ⟨Nat.le_of_ble_eq_true rfl, Nat.le_of_ble_eq_true rfl⟩) 0 0 (Nat.le_of_ble_eq_true rfl) (Nat.le_of_ble_eq_true rfl) (fun rr_21 S_22 H locs hp hw hfr hnw => ?_)
    obtain ⟨e2, hp⟩ := hp
    subst e2
    obtain ⟨su_23, su_24, su_25⟩ := hp
    exact ret_i X hw hr hlocks (Nat.le_of_ble_eq_true rfl) (Nat.le_of_ble_eq_true rfl) ⟨rfl, ⟨z_lo _, z_hi _, by rw [valF_0 (show a1.toInt = 0 by omega), su_25]; exact congrArg Int32.toInt (suL_eq (fun c hm => (fin_fv hp_3 pv_10 (pv_11 _ (Or.inr (Or.inl hm)))).symm))⟩⟩ dX4_valueOf_47
  · refine lv_tableIn (tgt := 48) X.1 X.2.1 dX4_valueOf_1 (by omega) (by omega) (by rw [w_20c]; rfl) (by decide) ?_
    refine lv_aload_n X.1 X.2.1 dX4_valueOf_48 rfl (lv_at hl 0 rfl) ?_
    refine r_getR (g := 401) X hw ha_x rfl 1 hr1 (by decide) rfl inn_X4_valueOf_4 (by decide) (X.2.2.2.1 (.fieldLink RX4 20 "SilkMill$Pot" "ends" "LSilkMill$Row;") (by decide +kernel)) rfl (gv_401 _ _) dX4_valueOf_49 ?_
    obtain ⟨v_26, ev_26⟩ : ∃ v, pI S 500 R1 = v := ⟨_, rfl⟩
    obtain ⟨q_28, n_29, h_30, h_31, h_32, h_33, h_34⟩ := gRowQ hG haR1
    have rg_27 := gRow_500 hG haR1 h_30 h_32; rw [ev_26] at rg_27
    have pz_35 : (pI S 500 R1).toInt = v_26.toInt := by rw [ev_26]
    refine r_getI (g := 500) (x := v_26) X hw haR1 rfl 0 ev_26 (by decide) rfl inn_X4_valueOf_5 (by decide) (X.2.2.2.1 (.fieldLink RX4 73 "SilkMill$Row" "size" "I") (by decide +kernel)) rfl (gv_500 _ _) dX4_valueOf_52 ?_
    have sz_36 := RowIs_sz pv_2
    exact ret_i X hw hr hlocks (Nat.le_of_ble_eq_true rfl) (Nat.le_of_ble_eq_true rfl) ⟨rfl, ⟨z_lo _, z_hi _, by rw [valF_1 (show a1.toInt = 1 by omega), ← sz_36, ev_26]⟩⟩ dX4_valueOf_55
  · refine lv_tableIn (tgt := 56) X.1 X.2.1 dX4_valueOf_1 (by omega) (by omega) (by rw [w_20c]; rfl) (by decide) ?_
    refine lv_aload_n X.1 X.2.1 dX4_valueOf_56 rfl (lv_at hl 0 rfl) ?_
    refine r_getR (g := 400) X hw ha_x rfl 0 hr0 (by decide) rfl inn_X4_valueOf_4 (by decide) (X.2.2.2.1 (.fieldLink RX4 14 "SilkMill$Pot" "basket" "LSilkMill$Row;") (by decide +kernel)) rfl (gv_400 _ _) dX4_valueOf_57 ?_
    obtain ⟨v_37, ev_37⟩ : ∃ v, pI S 500 R0 = v := ⟨_, rfl⟩
    obtain ⟨q_39, n_40, h_41, h_42, h_43, h_44, h_45⟩ := gRowQ hG haR0
    have rg_38 := gRow_500 hG haR0 h_41 h_43; rw [ev_37] at rg_38
    have pz_46 : (pI S 500 R0).toInt = v_37.toInt := by rw [ev_37]
    refine r_getI (g := 500) (x := v_37) X hw haR0 rfl 0 ev_37 (by decide) rfl inn_X4_valueOf_5 (by decide) (X.2.2.2.1 (.fieldLink RX4 73 "SilkMill$Row" "size" "I") (by decide +kernel)) rfl (gv_500 _ _) dX4_valueOf_60 ?_
    have sz_47 := RowIs_sz pv_1
    exact ret_i X hw hr hlocks (Nat.le_of_ble_eq_true rfl) (Nat.le_of_ble_eq_true rfl) ⟨rfl, ⟨z_lo _, z_hi _, by rw [valF_2 (show a1.toInt = 2 by omega), ← sz_47, ev_37]⟩⟩ dX4_valueOf_63
  · refine lv_tableIn (tgt := 64) X.1 X.2.1 dX4_valueOf_1 (by omega) (by omega) (by rw [w_20c]; rfl) (by decide) ?_
    refine lv_aload_n X.1 X.2.1 dX4_valueOf_64 rfl (lv_at hl 0 rfl) ?_
    refine r_getR (g := 402) X hw ha_x rfl 2 hr2 (by decide) rfl inn_X4_valueOf_4 (by decide) (X.2.2.2.1 (.fieldLink RX4 23 "SilkMill$Pot" "lost" "LSilkMill$Row;") (by decide +kernel)) rfl (gv_402 _ _) dX4_valueOf_65 ?_
    obtain ⟨v_48, ev_48⟩ : ∃ v, pI S 500 R2 = v := ⟨_, rfl⟩
    obtain ⟨q_50, n_51, h_52, h_53, h_54, h_55, h_56⟩ := gRowQ hG haR2
    have rg_49 := gRow_500 hG haR2 h_52 h_54; rw [ev_48] at rg_49
    have pz_57 : (pI S 500 R2).toInt = v_48.toInt := by rw [ev_48]
    refine r_getI (g := 500) (x := v_48) X hw haR2 rfl 0 ev_48 (by decide) rfl inn_X4_valueOf_5 (by decide) (X.2.2.2.1 (.fieldLink RX4 73 "SilkMill$Row" "size" "I") (by decide +kernel)) rfl (gv_500 _ _) dX4_valueOf_68 ?_
    have sz_58 := RowIs_sz pv_3
    exact ret_i X hw hr hlocks (Nat.le_of_ble_eq_true rfl) (Nat.le_of_ble_eq_true rfl) ⟨rfl, ⟨z_lo _, z_hi _, by rw [valF_3 (show a1.toInt = 3 by omega), ← sz_58, ev_48]⟩⟩ dX4_valueOf_71
  · refine lv_tableIn (tgt := 72) X.1 X.2.1 dX4_valueOf_1 (by omega) (by omega) (by rw [w_20c]; rfl) (by decide) ?_
    refine lv_aload_n X.1 X.2.1 dX4_valueOf_72 rfl (lv_at hl 0 rfl) ?_
    refine r_getR (g := 403) X hw ha_x rfl 3 hr3 (by decide) rfl inn_X4_valueOf_4 (by decide) (X.2.2.2.1 (.fieldLink RX4 29 "SilkMill$Pot" "strand" "LSilkMill$Strand;") (by decide +kernel)) rfl (gv_403 _ _) dX4_valueOf_73 ?_
    refine r_getI (g := 902) (x := v_12) X hw haGs rfl 2 ev_12 (by decide) rfl inn_X4_valueOf_9 (by decide) (X.2.2.2.1 (.fieldLink RX4 79 "SilkMill$Strand" "metres" "I") (by decide +kernel)) rfl (gv_902 _ _) dX4_valueOf_76 ?_
    have pz_59 : (pI S 902 Gs).toInt = v_12.toInt := (congrArg Int32.toInt ev_12).trans rfl
    exact ret_i X hw hr hlocks (Nat.le_of_ble_eq_true rfl) (Nat.le_of_ble_eq_true rfl) ⟨rfl, ⟨z_lo _, z_hi _, by rw [valF_4 (show a1.toInt = 4 by omega)]; omega⟩⟩ dX4_valueOf_79
  · refine lv_tableIn (tgt := 80) X.1 X.2.1 dX4_valueOf_1 (by omega) (by omega) (by rw [w_20c]; rfl) (by decide) ?_
    refine lv_aload_n X.1 X.2.1 dX4_valueOf_80 rfl (lv_at hl 0 rfl) ?_
    refine r_getR (g := 401) X hw ha_x rfl 1 hr1 (by decide) rfl inn_X4_valueOf_4 (by decide) (X.2.2.2.1 (.fieldLink RX4 20 "SilkMill$Pot" "ends" "LSilkMill$Row;") (by decide +kernel)) rfl (gv_401 _ _) dX4_valueOf_81 ?_
    refine lv_aload_n X.1 X.2.1 dX4_valueOf_84 rfl (lv_at hl 0 rfl) ?_
    refine r_getR (g := 401) X hw ha_x rfl 1 hr1 (by decide) rfl inn_X4_valueOf_4 (by decide) (X.2.2.2.1 (.fieldLink RX4 20 "SilkMill$Pot" "ends" "LSilkMill$Row;") (by decide +kernel)) rfl (gv_401 _ _) dX4_valueOf_85 ?_
    refine k_i (rm := { frames := 3, cells := 0, slots := 0, locals := 144 }) (av := [.ref R1]) X hw (va_runV (As := []) (rest := [.ref R1]) (cfix X) (k_X5_thinnest5 l G cy κ S _ R1 (qe A) 12 hG haR1 pv_2) (cwV 0 X.2.2.2.1 gX4_valueOf_X5_thinnest rfl rfl rfl (by decide +kernel) ⟨Nat.le_of_ble_eq_true rfl, Nat.le_of_ble_eq_true rfl⟩) (pre_V X hw _ haR1 rfl (by decide) rfl) rfl rfl hl.1 rfl (lv_room (Nat.le_of_ble_eq_true rfl)) dX4_valueOf_88 ⟨Nat.le_of_ble_eq_true rfl, Nat.le_of_ble_eq_true rfl⟩) 0 0 (Nat.le_of_ble_eq_true rfl) (Nat.le_of_ble_eq_true rfl) (fun rr_60 S_61 H locs hp hw hfr hnw => ?_)
    obtain ⟨e2, hp⟩ := hp
    subst e2
    obtain ⟨th_62, th_63, th_64⟩ := hp
    have th_65 := th_64.trans (thi_fv (A := A) hp_3 pv_10 pv_11)
    refine k_q (rm := { frames := 2, cells := 0, slots := 0, locals := 96 }) (av := [.ref R1, .int (rr_60)]) X hw (va_runV (As := [.int (rr_60)]) (rest := []) (cfix X) (k_X5_at5 l G cy κ S _ R1 (rr_60) (rr_60.toInt) (qe A) 12 hG haR1 rfl pv_2) (cwV 1 X.2.2.2.1 gX4_valueOf_X5_at rfl rfl rfl (by decide +kernel) ⟨Nat.le_of_ble_eq_true rfl, Nat.le_of_ble_eq_true rfl⟩) (pre_V X hw _ haR1 rfl (by decide) rfl) rfl rfl hl.1 rfl (lv_room (Nat.le_of_ble_eq_true rfl)) dX4_valueOf_91 ⟨Nat.le_of_ble_eq_true rfl, Nat.le_of_ble_eq_true rfl⟩) 0 0 (Nat.le_of_ble_eq_true rfl) (Nat.le_of_ble_eq_true rfl) (fun rr_66 S_67 H locs hp hw hfr hnw => ?_)
    obtain ⟨e2, hp⟩ := hp
    subst e2
    obtain ⟨hq_68, hnf_69⟩ := hp
    rcases rr_66 with _ | q_70
    · refine W.eq (g2 := F0 m 94 ls (.null :: [])) rfl ?_
      have nf_71 := hnf_69 rfl
      refine k_i (rm := { frames := 2, cells := 0, slots := 0, locals := 96 }) (av := [.null]) X hw (va_runS (As := [.null]) (rest := []) (cfix X) (k_X4_finenessOf5 l G cy κ S _ none hG (fun q h => by cases h)) (cwS 1 X.2.2.2.1 gX4_valueOf_X4_finenessOf rfl rfl rfl (by decide +kernel) ⟨Nat.le_of_ble_eq_true rfl, Nat.le_of_ble_eq_true rfl⟩) (pre_S X hw _) rfl rfl hl.1 rfl (lv_room (Nat.le_of_ble_eq_true rfl)) dX4_valueOf_94 ⟨Nat.le_of_ble_eq_true rfl, Nat.le_of_ble_eq_true rfl⟩) 0 0 (Nat.le_of_ble_eq_true rfl) (Nat.le_of_ble_eq_true rfl) (fun rr_72 S_73 H locs hp hw hfr hnw => ?_)
      obtain ⟨e2, hp⟩ := hp
      subst e2
      obtain ⟨fo_74, fo_75, fo_76, fo_77⟩ := hp
      exact ret_i X hw hr hlocks (Nat.le_of_ble_eq_true rfl) (Nat.le_of_ble_eq_true rfl) ⟨rfl, ⟨z_lo _, z_hi _, by rw [valF_5n (show a1.toInt = 5 by omega) (by rw [← th_65]; exact nf_71), fo_77 rfl]; decide⟩⟩ dX4_valueOf_97
    · refine W.eq (g2 := F0 m 94 ls (.ref q_70 :: [])) rfl ?_
      obtain ⟨ha_78, f_79, f_80, f_81⟩ := hq_68 _ rfl
      refine k_i (rm := { frames := 2, cells := 0, slots := 0, locals := 96 }) (av := [.ref q_70]) X hw (va_runS (As := [.ref q_70]) (rest := []) (cfix X) (k_X4_finenessOf5 l G cy κ S _ (some q_70) hG (fun q h => by cases h; exact ha_78)) (cwS 1 X.2.2.2.1 gX4_valueOf_X4_finenessOf rfl rfl rfl (by decide +kernel) ⟨Nat.le_of_ble_eq_true rfl, Nat.le_of_ble_eq_true rfl⟩) (pre_S X hw _) rfl rfl hl.1 rfl (lv_room (Nat.le_of_ble_eq_true rfl)) dX4_valueOf_94 ⟨Nat.le_of_ble_eq_true rfl, Nat.le_of_ble_eq_true rfl⟩) 0 0 (Nat.le_of_ble_eq_true rfl) (Nat.le_of_ble_eq_true rfl) (fun rr_82 S_83 H locs hp hw hfr hnw => ?_)
      obtain ⟨e2, hp⟩ := hp
      subst e2
      obtain ⟨fo_84, fo_85, fo_86, fo_87⟩ := hp
      exact ret_i X hw hr hlocks (Nat.le_of_ble_eq_true rfl) (Nat.le_of_ble_eq_true rfl) ⟨rfl, ⟨z_lo _, z_hi _, by rw [valF_5c (show a1.toInt = 5 by omega) (by rw [← th_65]; exact f_79) (by rw [← th_65]; exact f_81), fo_86 _ rfl, (fin_fv hp_3 pv_10 (pv_11 _ (Or.inr (Or.inl (ix_mem f_81)))))]⟩⟩ dX4_valueOf_97
