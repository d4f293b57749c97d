/-! ===== a pot, as a function of its rows ===== -/
abbrev Mt : Type := List (Nat × Int32)
abbrev Sk : Type := Int32 × Int32 × Int32 × List Mt
def Pt : Type := List Nat × List Nat × List Nat × Int32 × Int32 × List Mt × (Nat → Int32) × (Nat → Int32) × List Sk × List (List Mt) × Int32 × Int32
def qb (A : Pt) : List Nat := A.1
def qe (A : Pt) : List Nat := A.2.1
def ql (A : Pt) : List Nat := A.2.2.1
def qst (A : Pt) : Int32 := A.2.2.2.1
def qse (A : Pt) : Int32 := A.2.2.2.2.1
def qg (A : Pt) : List Mt := A.2.2.2.2.2.1
def qpl (A : Pt) : Nat → Int32 := A.2.2.2.2.2.2.1
def qsd (A : Pt) : Nat → Int32 := A.2.2.2.2.2.2.2.1
def qsk (A : Pt) : List Sk := A.2.2.2.2.2.2.2.2.1
def qws (A : Pt) : List (List Mt) := A.2.2.2.2.2.2.2.2.2.1
def qdr (A : Pt) : Int32 := A.2.2.2.2.2.2.2.2.2.2.1
def qtk (A : Pt) : Int32 := A.2.2.2.2.2.2.2.2.2.2.2
def pmk (b e l : List Nat) (st se : Int32) (g : List Mt) (pl sd : Nat → Int32) (sk : List Sk) (ws : List (List Mt)) (dr tk : Int32) : Pt := (b, e, l, st, se, g, pl, sd, sk, ws, dr, tk)
def wb (A : Pt) (v : List Nat) : Pt := pmk v (qe A) (ql A) (qst A) (qse A) (qg A) (qpl A) (qsd A) (qsk A) (qws A) (qdr A) (qtk A)
def we (A : Pt) (v : List Nat) : Pt := pmk (qb A) v (ql A) (qst A) (qse A) (qg A) (qpl A) (qsd A) (qsk A) (qws A) (qdr A) (qtk A)
def wl (A : Pt) (v : List Nat) : Pt := pmk (qb A) (qe A) v (qst A) (qse A) (qg A) (qpl A) (qsd A) (qsk A) (qws A) (qdr A) (qtk A)
def wst (A : Pt) (v : Int32) : Pt := pmk (qb A) (qe A) (ql A) v (qse A) (qg A) (qpl A) (qsd A) (qsk A) (qws A) (qdr A) (qtk A)
def wse (A : Pt) (v : Int32) : Pt := pmk (qb A) (qe A) (ql A) (qst A) v (qg A) (qpl A) (qsd A) (qsk A) (qws A) (qdr A) (qtk A)
def wg (A : Pt) (v : List Mt) : Pt := pmk (qb A) (qe A) (ql A) (qst A) (qse A) v (qpl A) (qsd A) (qsk A) (qws A) (qdr A) (qtk A)
def wpl (A : Pt) (v : Nat → Int32) : Pt := pmk (qb A) (qe A) (ql A) (qst A) (qse A) (qg A) v (qsd A) (qsk A) (qws A) (qdr A) (qtk A)
def wsd (A : Pt) (v : Nat → Int32) : Pt := pmk (qb A) (qe A) (ql A) (qst A) (qse A) (qg A) (qpl A) v (qsk A) (qws A) (qdr A) (qtk A)
def wsk (A : Pt) (v : List Sk) (u : List (List Mt)) : Pt := pmk (qb A) (qe A) (ql A) (qst A) (qse A) (qg A) (qpl A) (qsd A) v u (qdr A) (qtk A)
def wdr (A : Pt) (v : Int32) : Pt := pmk (qb A) (qe A) (ql A) (qst A) (qse A) (qg A) (qpl A) (qsd A) (qsk A) (qws A) v (qtk A)
def wtk (A : Pt) (v : Int32) : Pt := pmk (qb A) (qe A) (ql A) (qst A) (qse A) (qg A) (qpl A) (qsd A) (qsk A) (qws A) (qdr A) v
def fuI (f : Nat → Int32) (c : Nat) (v : Int32) : Nat → Int32 := fun a => if a = c then v else f a
/-- a cocoon's length, its fineness and its breaks by the place; the day, the pot's number, its aim, its find -/
def En : Type := (Nat → Int32) × (Nat → Int32 → Int32) × (Nat → Int32 → Prop) × Int32 × Int32 × Int32 × Int32
def elen (E : En) : Nat → Int32 := E.1
def efn (E : En) : Nat → Int32 → Int32 := E.2.1
def ebr (E : En) : Nat → Int32 → Prop := E.2.2.1
def eday (E : En) : Int32 := E.2.2.2.1
def epot (E : En) : Int32 := E.2.2.2.2.1
def eaim (E : En) : Int32 := E.2.2.2.2.2.1
def efind (E : En) : Int32 := E.2.2.2.2.2.2
def fetF (A : Pt) : Pt := match ql A with
  | [] => wse A 0
  | c :: t => wse (wl (wb (wsd A (fuI (qsd A) c 1)) (capL 600 (qb A) c)) t) (if t = [] then 0 else qse A)
theorem fetF_n {A : Pt} (h : ql A = []) : fetF A = wse A 0 := by
  unfold fetF
  rw [h]
theorem fetF_c {A : Pt} {c : Nat} {t : List Nat} (h : ql A = c :: t) : fetF A = wse (wl (wb (wsd A (fuI (qsd A) c 1)) (capL 600 (qb A) c)) t) (if t = [] then 0 else qse A) := by
  unfold fetF
  rw [h]
def seaF (E : En) (A : Pt) : Pt := if ql A = [] then A else if (qse A + 1).toInt < (efind E).toInt then wse A (qse A + 1) else fetF (wse A 0)
theorem seaF_n {E : En} {A : Pt} (h : ql A = []) : seaF E A = A := if_pos h
theorem seaF_w {E : En} {A : Pt} (h : ql A ≠ []) (h2 : (qse A + 1).toInt < (efind E).toInt) : seaF E A = wse A (qse A + 1) := (if_neg h).trans (if_pos h2)
theorem seaF_f {E : En} {A : Pt} (h : ql A ≠ []) (h2 : ¬ (qse A + 1).toInt < (efind E).toInt) : seaF E A = fetF (wse A 0) := (if_neg h).trans (if_neg h2)
def casF (A : Pt) : Pt := match qb A with
  | [] => A
  | c :: t => if (qe A).length < 12 then we (wb (wsd A (fuI (qsd A) c 2)) t) (capL 12 (qe A) c) else A
theorem casF_n {A : Pt} (h : qb A = [] ∨ ¬ (qe A).length < 12) : casF A = A := by
  unfold casF
  split
  · rfl
  · rename_i c t e
    rcases h with h | h
    · rw [h] at e; cases e
    · exact if_neg h
theorem casF_c {A : Pt} {c : Nat} {t : List Nat} (h : qb A = c :: t) (h2 : (qe A).length < 12) : casF A = we (wb (wsd A (fuI (qsd A) c 2)) t) (capL 12 (qe A) c) := by
  unfold casF
  rw [h]
  exact if_pos h2
def finF (E : En) (A : Pt) : Nat → Int32 := fun c => efn E c (qpl A c)
def thiF (E : En) (A : Pt) : Int := (thN (fun c => (finF E A c).toInt) (qe A) (qe A).length).1
def droF (E : En) (A : Pt) : Pt := if 0 ≤ thiF E A then (match (qe A)[(thiF E A).toNat]? with
  | some c => wb (we (wsd A (fuI (qsd A) c 1)) ((qe A).eraseIdx (thiF E A).toNat)) (capF 600 (qb A) c)
  | none => A) else A
theorem droF_n {E : En} {A : Pt} (h : ¬ (0 ≤ thiF E A ∧ thiF E A < ((qe A).length : Int))) : droF E A = A := by
  unfold droF
  split
  · rename_i h0
    rw [List.getElem?_eq_none_iff.mpr (by omega)]
  · rfl
theorem droF_c {E : En} {A : Pt} {c : Nat} (h0 : 0 ≤ thiF E A) (h : (qe A)[(thiF E A).toNat]? = some c) : droF E A = wb (we (wsd A (fuI (qsd A) c 1)) ((qe A).eraseIdx (thiF E A).toNat)) (capF 600 (qb A) c) := by
  unfold droF
  rw [if_pos h0, h]
def fndF (A : Pt) : Pt := if ql A = [] then A else wst (fetF A) (qst (fetF A) + 2)
def throF (A : Pt) : Pt := match (qb A)[(qb A).length - 1]? with
  | some c => wb (wsd A (fuI (qsd A) c 6)) ((qb A).eraseIdx ((qb A).length - 1))
  | none => A
theorem throF_n {A : Pt} (h : qb A = []) : throF A = A := by
  unfold throF
  rw [h]
  rfl
theorem throF_c {A : Pt} {c : Nat} (h : (qb A)[(qb A).length - 1]? = some c) : throF A = wb (wsd A (fuI (qsd A) c 6)) ((qb A).eraseIdx ((qb A).length - 1)) := by
  unfold throF
  rw [h]
def cutF (E : En) (A : Pt) : Pt := if qg A = [] then A else if (qsk A).length < 40 then wg (wsk A (qsk A ++ [(epot E, eday E, eaim E, qg A)]) (qws A)) [] else wg (wsk A (qsk A) (qws A ++ [qg A])) []
theorem cutF_n {E : En} {A : Pt} (h : qg A = []) : cutF E A = A := if_pos h
theorem cutF_k {E : En} {A : Pt} (h : qg A ≠ []) (h2 : (qsk A).length < 40) : cutF E A = wg (wsk A (qsk A ++ [(epot E, eday E, eaim E, qg A)]) (qws A)) [] := (if_neg h).trans (if_pos h2)
theorem cutF_w {E : En} {A : Pt} (h : qg A ≠ []) (h2 : ¬ (qsk A).length < 40) : cutF E A = wg (wsk A (qsk A) (qws A ++ [qg A])) [] := (if_neg h).trans (if_neg h2)
def actF (E : En) (a m : Int32) (A : Pt) : Pt := if a = 0 then casF A else if a = 1 then droF E A else if a = 2 then fndF A else if a = 3 then throF A else if a = 4 then cutF E A else wst A (qst A + m)
def valF (E : En) (A : Pt) (f : Int32) : Int := if f = 0 then (suL (finF E A) (qe A)).toInt else if f = 1 then ((qe A).length : Int) else if f = 2 then ((qb A).length : Int) else if f = 3 then ((ql A).length : Int) else if f = 4 then ((qg A).length : Int) else if f = 5 then (match (qe A)[(thiF E A).toNat]? with | some c => if 0 ≤ thiF E A then (finF E A c).toInt else 0 | none => 0) else (eday E).toInt
def relP (r : Int32) (v n : Int) : Prop := if r = 60 then v < n else if r = 61 then v = n else n < v
def allP (E : En) (A : Pt) (L : List (Int32 × Int32 × Int32)) : Prop := ∀ c, c ∈ L → relP c.2.1 (valF E A c.1) c.2.2.toInt
noncomputable def ruF (E : En) (A : Pt) (r : Ru) : Pt := @ite Pt (allP E A r.2.2) (Classical.propDecidable _) (actF E r.1 r.2.1 A) A
noncomputable def rusF (E : En) (A : Pt) (R : List Ru) : Pt := R.foldl (ruF E) A
/-- one end is drawn: it has been taken from the front -/
noncomputable def endF (E : En) (A : Pt) (c : Nat) : Pt :=
  let p := qpl A c + 1
  let v := if (elen E c).toInt ≤ p.toInt then 4 else @ite Int32 (ebr E c (qpl A c)) (Classical.propDecidable _) 3 (qsd A c)
  let B := wsd (wpl A (fuI (qpl A) c p)) (fuI (qsd A) c v)
  if v = 2 then we B (capL 12 (qe B) c) else if v = 3 then wl B (capL 600 (ql B) c) else B
noncomputable def stpF (E : En) (A : Pt) : Pt := match qe A with
  | [] => A
  | c :: t => endF E (we A t) c
theorem stpF_n {E : En} {A : Pt} (h : qe A = []) : stpF E A = A := by
  unfold stpF
  rw [h]
theorem stpF_c {E : En} {A : Pt} {c : Nat} {t : List Nat} (h : qe A = c :: t) : stpF E A = endF E (we A t) c := by
  unfold stpF
  rw [h]
noncomputable def endsF (E : En) : Nat → Pt → Pt
  | 0, A => A
  | n + 1, A => stpF E (endsF E n A)
def capG (g : List Mt) (m : Mt) : List Mt := if g.length < 300 then g ++ [m] else g
theorem capG_y {g : List Mt} {m : Mt} (h : g.length < 300) : ((capG g m).length : Int) = (g.length : Int) + 1 := by
  unfold capG
  rw [if_pos h, List.length_append]
  rfl
theorem capG_n {g : List Mt} {m : Mt} (h : ¬ g.length < 300) : capG g m = g := if_neg h
noncomputable def drwF (E : En) (A : Pt) : Pt :=
  let B := endsF E (qe A).length (wdr (wg A (capG (qg A) ((qe A).map (fun c => (c, qpl A c))))) (qdr A + 1))
  if 300 ≤ (qg B).length then cutF E B else B
noncomputable def ticF (E : En) (R : List Ru) (A : Pt) : Pt × Prop :=
  let B := seaF E (wtk A (qtk A + 1))
  let C := if qst B = 0 then rusF E B R else B
  if 0 < (qst C).toInt then (wst C (qst C - 1), False) else if qe C = [] then (C, False) else (drwF E C, True)
theorem fndF_n {A : Pt} (h : ql A = []) : fndF A = A := if_pos h
theorem fndF_c {A : Pt} (h : ql A ≠ []) : fndF A = wst (fetF A) (qst (fetF A) + 2) := if_neg h
theorem i32_ne {f : Int32} {z c : Int} {k : Int32} (h : f.toInt = z) (hk : k.toInt = c) (hn : z ≠ c) : ¬ f = k := fun e => by
  rw [e, hk] at h
  omega
theorem i32_eq {f : Int32} {z c : Int} {k : Int32} (h : f.toInt = z) (hk : k.toInt = c) (hn : z = c) : f = k := Int32.toInt_inj.mp (by rw [h, hk, hn])
theorem t0 : (0 : Int32).toInt = 0 := by decide
theorem t1 : (1 : Int32).toInt = 1 := by decide
theorem t2 : (2 : Int32).toInt = 2 := by decide
theorem t3 : (3 : Int32).toInt = 3 := by decide
theorem t4 : (4 : Int32).toInt = 4 := by decide
theorem t5 : (5 : Int32).toInt = 5 := by decide
theorem valF_0 {E : En} {A : Pt} {f : Int32} (h : f.toInt = 0) : valF E A f = (suL (finF E A) (qe A)).toInt := if_pos (i32_eq h t0 rfl)
theorem valF_1 {E : En} {A : Pt} {f : Int32} (h : f.toInt = 1) : valF E A f = ((qe A).length : Int) := by
  unfold valF
  rw [if_neg (i32_ne h t0 (by decide)), if_pos (i32_eq h t1 rfl)]
theorem valF_2 {E : En} {A : Pt} {f : Int32} (h : f.toInt = 2) : valF E A f = ((qb A).length : Int) := by
  unfold valF
  rw [if_neg (i32_ne h t0 (by decide)), if_neg (i32_ne h t1 (by decide)), if_pos (i32_eq h t2 rfl)]
theorem valF_3 {E : En} {A : Pt} {f : Int32} (h : f.toInt = 3) : valF E A f = ((ql A).length : Int) := by
  unfold valF
  rw [if_neg (i32_ne h t0 (by decide)), if_neg (i32_ne h t1 (by decide)), if_neg (i32_ne h t2 (by decide)), if_pos (i32_eq h t3 rfl)]
theorem valF_4 {E : En} {A : Pt} {f : Int32} (h : f.toInt = 4) : valF E A f = ((qg A).length : Int) := by
  unfold valF
  rw [if_neg (i32_ne h t0 (by decide)), if_neg (i32_ne h t1 (by decide)), if_neg (i32_ne h t2 (by decide)), if_neg (i32_ne h t3 (by decide)), if_pos (i32_eq h t4 rfl)]
theorem valF_5 {E : En} {A : Pt} {f : Int32} (h : f.toInt = 5) : valF E A f = (match (qe A)[(thiF E A).toNat]? with | some c => if 0 ≤ thiF E A then (finF E A c).toInt else 0 | none => 0) := by
  unfold valF
  rw [if_neg (i32_ne h t0 (by decide)), if_neg (i32_ne h t1 (by decide)), if_neg (i32_ne h t2 (by decide)), if_neg (i32_ne h t3 (by decide)), if_neg (i32_ne h t4 (by decide)), if_pos (i32_eq h t5 rfl)]
theorem valF_5c {E : En} {A : Pt} {f : Int32} {c : Nat} (h : f.toInt = 5) (h0 : 0 ≤ thiF E A) (hc : (qe A)[(thiF E A).toNat]? = some c) : valF E A f = (finF E A c).toInt := by
  rw [valF_5 h, hc]
  exact if_pos h0
theorem valF_5n {E : En} {A : Pt} {f : Int32} (h : f.toInt = 5) (hn : ¬ (0 ≤ thiF E A ∧ thiF E A < ((qe A).length : Int))) : valF E A f = 0 := by
  rw [valF_5 h]
  cases e : (qe A)[(thiF E A).toNat]? with
  | none => rfl
  | some c =>
    show (if 0 ≤ thiF E A then (finF E A c).toInt else 0) = 0
    rw [if_neg (fun z => hn ⟨z, by
      have := (List.getElem?_eq_some_iff.mp e).1
      omega⟩)]
theorem valF_d {E : En} {A : Pt} {f : Int32} {z : Int} (h : f.toInt = z) (hz : z < 0 ∨ 5 < z) : valF E A f = (eday E).toInt := by
  unfold valF
  rw [if_neg (i32_ne h t0 (by omega)), if_neg (i32_ne h t1 (by omega)), if_neg (i32_ne h t2 (by omega)), if_neg (i32_ne h t3 (by omega)), if_neg (i32_ne h t4 (by omega)), if_neg (i32_ne h t5 (by omega))]
theorem actF_0 {E : En} {A : Pt} {a m : Int32} (h : a.toInt = 0) : actF E a m A = casF A := if_pos (i32_eq h t0 rfl)
theorem actF_1 {E : En} {A : Pt} {a m : Int32} (h : a.toInt = 1) : actF E a m A = droF E A := by
  unfold actF
  rw [if_neg (i32_ne h t0 (by decide)), if_pos (i32_eq h t1 rfl)]
theorem actF_2 {E : En} {A : Pt} {a m : Int32} (h : a.toInt = 2) : actF E a m A = fndF A := by
  unfold actF
  rw [if_neg (i32_ne h t0 (by decide)), if_neg (i32_ne h t1 (by decide)), if_pos (i32_eq h t2 rfl)]
theorem actF_3 {E : En} {A : Pt} {a m : Int32} (h : a.toInt = 3) : actF E a m A = throF A := by
  unfold actF
  rw [if_neg (i32_ne h t0 (by decide)), if_neg (i32_ne h t1 (by decide)), if_neg (i32_ne h t2 (by decide)), if_pos (i32_eq h t3 rfl)]
theorem actF_4 {E : En} {A : Pt} {a m : Int32} (h : a.toInt = 4) : actF E a m A = cutF E A := by
  unfold actF
  rw [if_neg (i32_ne h t0 (by decide)), if_neg (i32_ne h t1 (by decide)), if_neg (i32_ne h t2 (by decide)), if_neg (i32_ne h t3 (by decide)), if_pos (i32_eq h t4 rfl)]
theorem actF_d {E : En} {A : Pt} {a m : Int32} {z : Int} (h : a.toInt = z) (hz : z < 0 ∨ 4 < z) : actF E a m A = wst A (qst A + m) := by
  unfold actF
  rw [if_neg (i32_ne h t0 (by omega)), if_neg (i32_ne h t1 (by omega)), if_neg (i32_ne h t2 (by omega)), if_neg (i32_ne h t3 (by omega)), if_neg (i32_ne h t4 (by omega))]
theorem ruF_y {E : En} {A : Pt} {r : Ru} (h : allP E A r.2.2) : ruF E A r = actF E r.1 r.2.1 A := if_pos h
theorem ruF_n {E : En} {A : Pt} {r : Ru} (h : ¬ allP E A r.2.2) : ruF E A r = A := if_neg h
theorem rusF_s {E : En} {A : Pt} {R : List Ru} {k : Nat} {r : Ru} (h : R[k]? = some r) : rusF E A (R.take (k + 1)) = ruF E (rusF E A (R.take k)) r := by
  unfold rusF
  rw [List.take_succ, h, List.foldl_append]
  rfl
/-! ===== strands, by their metres ===== -/
def fvP (S : PS) (c : Nat) (p : Int32) : Int32 := fcI (pI S 8 c) (pI S 2 c) p
def mtS (S : PS) (m : Mt) : Int32 := m.foldl (fun a z => a + fvP S z.1 z.2) 0
def siS (S : PS) (g : List Mt) : Int32 := g.foldl (fun a m => a + mtS S m) 0
def MtD (S : PS) (D : Nat → Prop) (g : List Mt) : Prop := ∀ m, m ∈ g → ∀ z, z ∈ m → D z.1 ∧ At S z.1 0
def CoE (S T : PS) : Prop := ∀ c, At S c 0 → At T c 0 ∧ pI T 8 c = pI S 8 c ∧ pI T 2 c = pI S 2 c
theorem flx {α β : Type} {f g : β → α → β} : ∀ {l : List α} {b : β}, (∀ b z, z ∈ l → f b z = g b z) → l.foldl f b = l.foldl g b
  | [], _, _ => rfl
  | a :: t, b, h => by
    show t.foldl f (f b a) = t.foldl g (g b a)
    rw [h b a List.mem_cons_self]
    exact flx (fun b z hz => h b z (List.mem_cons_of_mem _ hz))
theorem mtS_eq {S T : PS} {D : Nat → Prop} {m : Mt} (h : CoE S T) (hm : ∀ z, z ∈ m → D z.1 ∧ At S z.1 0) : mtS T m = mtS S m := flx (fun b z hz => by
  show b + fvP T z.1 z.2 = b + fvP S z.1 z.2
  unfold fvP
  rw [(h z.1 (hm z hz).2).2.1, (h z.1 (hm z hz).2).2.2])
theorem siS_eq {S T : PS} {D : Nat → Prop} {g : List Mt} (h : CoE S T) (hm : MtD S D g) : siS T g = siS S g := flx (fun b m hz => by
  show b + mtS T m = b + mtS S m
  rw [mtS_eq h (hm m hz)])
theorem CoE_fr {M : List Nat} {S T : PS} (hF : Fr M S T) (hM : ([2, 8] : List Nat).all (fun g => !M.contains g) = true) : CoE S T := fun c hc => ⟨hF.at hc, hF.I' (g := 8) (allc hM (by decide)) hc rfl, hF.I' (g := 2) (allc hM (by decide)) hc rfl⟩
theorem MtD_to {S T : PS} {D : Nat → Prop} {g : List Mt} (h : CoE S T) (hm : MtD S D g) : MtD T D g := fun m h1 z h2 => ⟨(hm m h1 z h2).1, (h z.1 (hm m h1 z h2).2).1⟩
theorem CoE_sI {S T : PS} {g a : Nat} {v : Int32} (e : T = sI S g a v) (h2 : 2 ≠ g) (h8 : 8 ≠ g) : CoE S T := fun c hc => by
  subst e
  exact ⟨tAt_sI rfl hc, pI_sI_nf h8, pI_sI_nf h2⟩
def StV (S : PS) (D : Nat → Prop) (q : Nat) (g : List Mt) : Prop := (pI S 902 q).toInt = (g.length : Int) ∧ pI S 903 q = siS S g ∧ MtD S D g ∧ ∃ f e, pR S 900 q = some f ∧ pR S 901 q = some e ∧ ∀ (k : Nat) (m : Mt), g[k]? = some m → pA S f k = mtS S m ∧ (pA S e k).toInt = (m.length : Int)
theorem StV_to {S T : PS} {D : Nat → Prop} {q : Nat} {g : List Mt} (hC : CoE S T) (h2 : pI T 902 q = pI S 902 q) (h3 : pI T 903 q = pI S 903 q) (h0 : pR T 900 q = pR S 900 q) (h1 : pR T 901 q = pR S 901 q) (hA : ∀ f, pR S 900 q = some f → pA T f = pA S f) (hB : ∀ e, pR S 901 q = some e → pA T e = pA S e) (h : StV S D q g) : StV T D q g := by
  obtain ⟨a1, a2, a3, f, e, a4, a5, a6⟩ := h
  refine ⟨by rw [h2]; exact a1, by rw [h3, siS_eq hC a3]; exact a2, MtD_to hC a3, f, e, by rw [h0]; exact a4, by rw [h1]; exact a5, fun k m hk => ?_⟩
  rw [hA f a4, hB e a5, mtS_eq hC (a3 m (List.mem_of_getElem? hk))]
  exact a6 k m hk
def sgL : List Nat := [902, 903, 900, 901, 11614, 11634, 2, 8]
theorem StV_fr {M : List Nat} {S T : PS} {D : Nat → Prop} {q : Nat} {g : List Mt} (hG : GX S) (hq : At S q 29) (hF : Fr M S T) (hM : sgL.all (fun g => !M.contains g) = true) (h : StV S D q g) : StV T D q g :=
  StV_to (CoE_fr hF (sub_all hM (by decide))) (hF.I' (allc hM (by decide)) hq rfl) (hF.I' (allc hM (by decide)) hq rfl) (frR hF (allc hM (by decide)) hq.1) (frR hF (allc hM (by decide)) hq.1)
    (fun f hf => by obtain ⟨c, k1, k2, -⟩ := gQ_29_900 hG hq; rw [k1] at hf; cases hf; exact hF.A' (allc hM (by decide)) k2)
    (fun f hf => by obtain ⟨c, k1, k2, -⟩ := gQ_29_901 hG hq; rw [k1] at hf; cases hf; exact hF.A' (allc hM (by decide)) k2) h
theorem StV_sI {S T : PS} {D : Nat → Prop} {q g' a : Nat} {v : Int32} {g : List Mt} (h : StV S D q g) (e : T = sI S g' a v) (hg : ([902, 903, 2, 8] : List Nat).contains g' = false) : StV T D q g := by
  have hn : ∀ k, k ∈ ([902, 903, 2, 8] : List Nat) → k ≠ g' := fun k hk z => by rw [z] at hk; rw [List.contains_iff_mem.mpr hk] at hg; cases hg
  refine StV_to (CoE_sI e (hn 2 (by decide)) (hn 8 (by decide))) ?_ ?_ ?_ ?_ ?_ ?_ h
  · subst e; exact pI_sI_nf (hn 902 (by decide))
  · subst e; exact pI_sI_nf (hn 903 (by decide))
  · subst e; rfl
  · subst e; rfl
  · subst e; exact fun _ _ => rfl
  · subst e; exact fun _ _ => rfl
/-- a metre more -/
def AmO (S T : PS) (x : Nat) (a b : Int32) : Prop := ∃ f e, pR S 900 x = some f ∧ pR S 901 x = some e ∧ T = sI (sI (sA (sA S f (upd (pA S f) (Int32.toNatClampNeg (pI S 902 x)) a)) e (upd (pA S e) (Int32.toNatClampNeg (pI S 902 x)) b)) 902 x (pI S 902 x + 1)) 903 x (pI S 903 x + a)
theorem siS_add {S : PS} {g : List Mt} {m : Mt} : siS S (g ++ [m]) = siS S g + mtS S m := by
  unfold siS
  rw [List.foldl_append]
  rfl
theorem StV_add {S T : PS} {D : Nat → Prop} {q : Nat} {g : List Mt} {m : Mt} {a b : Int32} (hG : GX S) (hq : At S q 29) (hn : g.length < 300) (ho : AmO S T q a b) (ha : a = mtS S m) (hb : b.toInt = (m.length : Int)) (hm : ∀ z, z ∈ m → D z.1 ∧ At S z.1 0) (h : StV S D q g) : StV T D q (g ++ [m]) := by
  obtain ⟨a1, a2, a3, f, e, a4, a5, a6⟩ := h
  obtain ⟨f', e', b1, b2, b3⟩ := ho
  rw [a4] at b1
  cases b1
  rw [a5] at b2
  cases b2
  obtain ⟨c, k1, k2, -⟩ := gQ_29_900 hG hq
  rw [a4] at k1
  cases k1
  obtain ⟨c', l1, l2, -⟩ := gQ_29_901 hG hq
  rw [a5] at l1
  cases l1
  have hne : f ≠ e := At_ne k2 l2 (by decide)
  have hD : MtD S D (g ++ [m]) := fun x hx => by
    rcases List.mem_append.mp hx with z | z
    · exact a3 x z
    · rw [List.mem_singleton.mp z]; exact hm
  have hC : CoE S T := fun c hc => by
    rw [b3]
    exact ⟨tAt_sI rfl (tAt_sI rfl (tAt_sA rfl (tAt_sA rfl hc))), by rw [pI_sI_nf (by decide), pI_sI_nf (by decide)]; rfl, by rw [pI_sI_nf (by decide), pI_sI_nf (by decide)]; rfl⟩
  have hr := gI_29_902 hG hq
  have zn := z_nat (x := pI S 902 q) rfl hr.1
  have e2 : pI T 902 q = pI S 902 q + 1 := by rw [b3, pI_sI_nf (by decide)]; exact pI_sI_same
  have e3 : pI T 903 q = pI S 903 q + a := by rw [b3]; exact pI_sI_same
  have eF : pA T f = upd (pA S f) (Int32.toNatClampNeg (pI S 902 q)) a := by
    rw [b3]
    show pA (sA (sA S f (upd (pA S f) (Int32.toNatClampNeg (pI S 902 q)) a)) e (upd (pA S e) (Int32.toNatClampNeg (pI S 902 q)) b)) f = _
    exact (if_neg hne).trans (if_pos rfl)
  have eE : pA T e = upd (pA S e) (Int32.toNatClampNeg (pI S 902 q)) b := by
    rw [b3]
    show pA (sA (sA S f (upd (pA S f) (Int32.toNatClampNeg (pI S 902 q)) a)) e (upd (pA S e) (Int32.toNatClampNeg (pI S 902 q)) b)) e = _
    exact if_pos rfl
  refine ⟨?_, ?_, MtD_to hC hD, f, e, by rw [b3]; exact a4, by rw [b3]; exact a5, fun k x hk => ?_⟩
  · rw [e2, z_add rfl (rfl : (pI S 902 q).toInt = (pI S 902 q).toInt) (show (1 : Int32).toInt = 1 by decide) (by omega) (by omega), a1, List.length_append]
    rfl
  · rw [e3, siS_eq hC hD, siS_add, a2, ha]
  · rw [eF, eE, mtS_eq hC (hD x (List.mem_of_getElem? hk))]
    by_cases z : k = g.length
    · have hx : x = m := by
        rw [z, List.getElem?_append_right (Nat.le_refl _), Nat.sub_self] at hk
        exact (Option.some.inj hk).symm
      rw [show k = Int32.toNatClampNeg (pI S 902 q) by omega, upd_s, upd_s, hx]
      exact ⟨ha, hb⟩
    · have hl := (List.getElem?_eq_some_iff.mp hk).1
      rw [List.length_append] at hl
      have hl2 : k < g.length + 1 := hl
      rw [List.getElem?_append_left (by omega)] at hk
      rw [upd_n (by omega), upd_n (by omega)]
      exact a6 k x hk
/-- begun anew -/
def BaO (S T : PS) (x : Nat) : Prop := T = sI (sI (sI S 902 x 0) 903 x 0) 904 x 0
theorem StV_ba {S T : PS} {D : Nat → Prop} {q : Nat} {g : List Mt} (ho : BaO S T q) (h : StV S D q g) : StV T D q [] := by
  obtain ⟨-, -, -, f, e, a4, a5, -⟩ := h
  unfold BaO at ho
  refine ⟨?_, ?_, fun m hm => absurd hm List.not_mem_nil, f, e, by rw [ho]; exact a4, by rw [ho]; exact a5, fun k m hk => by cases hk⟩
  · rw [ho, pI_sI_nf (by decide), pI_sI_nf (by decide), pI_sI_same]; rfl
  · rw [ho, pI_sI_nf (by decide), pI_sI_same]; rfl
theorem mt_su {S : PS} {L : List Nat} {pl : Nat → Int32} (h : ∀ c, c ∈ L → pI S 4 c = pl c) : mtS S (L.map (fun c => (c, pl c))) = suL (fvS S) L := by
  unfold mtS suL
  rw [List.foldl_map]
  exact flx (fun b c hc => by
    show b + fvP S c (pl c) = b + fvS S c
    unfold fvP fvS
    rw [h c hc])
/-! ===== what a step leaves of other strands ===== -/
def StX (S T : PS) (G : Nat) : Prop := At S G 29 → (pR T 900 G = pR S 900 G ∧ pR T 901 G = pR S 901 G) ∧ (∀ q, At S q 29 → q ≠ G → pI T 902 q = pI S 902 q ∧ pI T 903 q = pI S 903 q) ∧ (∀ a, At S a 1614 → pR S 900 G ≠ some a → pA T a = pA S a) ∧ ∀ a, At S a 1634 → pR S 901 G ≠ some a → pA T a = pA S a
theorem StX_rf (S : PS) (G : Nat) : StX S S G := fun _ => ⟨⟨rfl, rfl⟩, fun _ _ _ => ⟨rfl, rfl⟩, fun _ _ _ => rfl, fun _ _ _ => rfl⟩
theorem StX_sI {S T U : PS} {G g a : Nat} {v : Int32} (h : StX S T G) (e : U = sI T g a v) (h2 : 902 ≠ g) (h3 : 903 ≠ g) : StX S U G := fun hG => by
  subst e
  obtain ⟨k1, k2, k3, k4⟩ := h hG
  exact ⟨k1, fun q hq hn => ⟨by rw [pI_sI_nf h2]; exact (k2 q hq hn).1, by rw [pI_sI_nf h3]; exact (k2 q hq hn).2⟩, k3, k4⟩
theorem StX_tr {S T U : PS} {G : Nat} (h : StX S T G) (hE : ∀ a k, At S a k → At T a k) (h' : StX T U G) : StX S U G := fun hG => by
  obtain ⟨⟨k0, k1⟩, k2, k3, k4⟩ := h hG
  obtain ⟨⟨j0, j1⟩, j2, j3, j4⟩ := h' (hE _ _ hG)
  exact ⟨⟨j0.trans k0, j1.trans k1⟩, fun q hq hn => ⟨(j2 q (hE _ _ hq) hn).1.trans (k2 q hq hn).1, (j2 q (hE _ _ hq) hn).2.trans (k2 q hq hn).2⟩, fun a ha hn => (j3 a (hE _ _ ha) (by rw [k0]; exact hn)).trans (k3 a ha hn), fun a ha hn => (j4 a (hE _ _ ha) (by rw [k1]; exact hn)).trans (k4 a ha hn)⟩
theorem StX_of {M : List Nat} {T U : PS} {G : Nat} (hF : Fr M T U) (hM : ([902, 903, 900, 901, 11614, 11634] : List Nat).all (fun g => !M.contains g) = true) : StX T U G := fun hG => ⟨⟨frR hF (allc hM (by decide)) hG.1, frR hF (allc hM (by decide)) hG.1⟩, fun q hq _ => ⟨hF.I' (g := 902) (allc hM (by decide)) hq rfl, hF.I' (g := 903) (allc hM (by decide)) hq rfl⟩, fun a ha _ => hF.A' (allc hM (by decide)) ha, fun a ha _ => hF.A' (allc hM (by decide)) ha⟩
theorem StX_am {S T : PS} {x : Nat} {a b : Int32} (hG : GX S) (h : AmO S T x a b) : StX S T x := fun hx => by
  obtain ⟨f, e, h1, h2, h3⟩ := h
  obtain ⟨c, k1, k2, -⟩ := gQ_29_900 hG hx
  obtain ⟨c', l1, l2, -⟩ := gQ_29_901 hG hx
  rw [h1] at k1
  cases k1
  rw [h2] at l1
  cases l1
  subst h3
  refine ⟨⟨rfl, rfl⟩, fun q _ hn => ⟨?_, ?_⟩, fun y hy hn => ?_, fun y hy hn => ?_⟩
  · rw [pI_sI_nf (by decide), pI_sI_ne hn]; rfl
  · rw [pI_sI_ne hn, pI_sI_nf (by decide)]; rfl
  · show pA (sA (sA S f _) e _) y = pA S y
    exact (if_neg (At_ne hy l2 (by decide))).trans (if_neg (fun z => hn (by rw [h1, z])))
  · show pA (sA (sA S f _) e _) y = pA S y
    exact (if_neg (fun z => hn (by rw [h2, z]))).trans (if_neg (At_ne hy k2 (by decide)))
theorem StX_ba {S T : PS} {x : Nat} (h : BaO S T x) : StX S T x := fun hx => by
  unfold BaO at h
  subst h
  refine ⟨⟨rfl, rfl⟩, fun q _ hn => ⟨?_, ?_⟩, fun _ _ _ => rfl, fun _ _ _ => rfl⟩
  · rw [pI_sI_nf (by decide), pI_sI_nf (by decide), pI_sI_ne hn]
  · rw [pI_sI_nf (by decide), pI_sI_ne hn, pI_sI_nf (by decide)]
/-! ===== skeins that are kept ===== -/
def loN (f : Nat → Int32) : Nat → Int32
  | 0 => 2147483647
  | k + 1 => if f k < loN f k then f k else loN f k
def hiN (f : Nat → Int32) : Nat → Int32
  | 0 => 0
  | k + 1 => if hiN f k < f k then f k else hiN f k
def abI (x : Int32) : Int32 := if 0 ≤ x then x else 0 - x
def slN (f : Nat → Int32) : Nat → Int32
  | 0 => 0
  | k + 1 => if 0 < k ∧ 4 < (abI (f k - f (k - 1))).toInt then slN f k + 1 else slN f k
theorem slN_y {f : Nat → Int32} {k : Nat} (h : 0 < k) (h2 : 4 < (abI (f k - f (k - 1))).toInt) : slN f (k + 1) = slN f k + 1 := if_pos ⟨h, h2⟩
theorem slN_n {f : Nat → Int32} {k : Nat} (h : ¬ (0 < k ∧ 4 < (abI (f k - f (k - 1))).toInt)) : slN f (k + 1) = slN f k := if_neg h
def SkO (S : PS) (D : Nat → Prop) (q : Nat) (s : Sk) : Prop := ∃ g f, pR S 703 q = some g ∧ pR S 900 g = some f ∧ (pI S 700 q = s.1 ∧ pI S 702 q = s.2.1 ∧ pI S 701 q = s.2.2.1) ∧ StV S D g s.2.2.2 ∧ pI S 704 q = loN (pA S f) s.2.2.2.length ∧ pI S 705 q = hiN (pA S f) s.2.2.2.length ∧ pI S 706 q = slN (pA S f) s.2.2.2.length
def skL : List Nat := [703, 700, 701, 702, 704, 705, 706, 900, 901, 11654, 2, 8]
theorem sk_str {S : PS} {q g : Nat} (hG : GX S) (hq : At S q 7) (h : pR S 703 q = some g) : At S g 9 := by
  obtain ⟨c, k1, k2⟩ := gQ_7_703 hG hq
  rw [k1] at h
  cases h
  exact k2
theorem SkO_fr {M : List Nat} {S T : PS} {D : Nat → Prop} {q : Nat} {s : Sk} (hG : GX S) (hq : At S q 7) (hF : Fr M S T) (hM : skL.all (fun g => !M.contains g) = true) (h9 : ∀ g, At S g 9 → pI T 902 g = pI S 902 g ∧ pI T 903 g = pI S 903 g) (h : SkO S D q s) : SkO T D q s := by
  obtain ⟨g, f, a1, a2, ⟨a3, a4, a5⟩, a6, a7, a8, a9⟩ := h
  have hg := sk_str hG hq a1
  have hA : ∀ f, pR S 900 g = some f → pA T f = pA S f := fun f hf => by obtain ⟨c, k1, k2, -⟩ := gC_9_900 hG hg; rw [k1] at hf; cases hf; exact hF.A' (allc hM (by decide)) k2
  have hB : ∀ f, pR S 901 g = some f → pA T f = pA S f := fun f hf => by obtain ⟨c, k1, k2, -⟩ := gC_9_901 hG hg; rw [k1] at hf; cases hf; exact hF.A' (allc hM (by decide)) k2
  refine ⟨g, f, hF.R' (allc hM (by decide)) hq a1, hF.R' (allc hM (by decide)) hg a2, ⟨hF.I' (allc hM (by decide)) hq a3, hF.I' (allc hM (by decide)) hq a4, hF.I' (allc hM (by decide)) hq a5⟩, StV_to (CoE_fr hF (sub_all hM (by decide))) (h9 g hg).1 (h9 g hg).2 (frR hF (allc hM (by decide)) hg.1) (frR hF (allc hM (by decide)) hg.1) hA hB a6, ?_, ?_, ?_⟩
  · rw [hA f a2]; exact hF.I' (allc hM (by decide)) hq a7
  · rw [hA f a2]; exact hF.I' (allc hM (by decide)) hq a8
  · rw [hA f a2]; exact hF.I' (allc hM (by decide)) hq a9
def SkV (S : PS) (D : Nat → Prop) (K : Nat) (L : List Sk) : Prop := (pI S 800 K).toInt = (L.length : Int) ∧ ∀ (k : Nat) (s : Sk), L[k]? = some s → ∃ q, mB S K 808 k = some q ∧ SkO S D q s
theorem sk_at {S : PS} {K q k : Nat} (hG : GX S) (hK : At S K 8) (h : mB S K 808 k = some q) : At S q 7 := by
  obtain ⟨c, k1, k2, -⟩ := gQ_8_808 hG hK
  rw [mB_eq k1] at h
  exact gEl_19 hG k2 k q h
theorem SkV_st {M : List Nat} {S T : PS} {D : Nat → Prop} {K : Nat} {L : List Sk} (hG : GX S) (hK : At S K 8) (hF : Fr M S T) (hM : (skL ++ [800, 808, 10019]).all (fun g => !M.contains g) = true) (h9 : ∀ g, At S g 9 → pI T 902 g = pI S 902 g ∧ pI T 903 g = pI S 903 g) (h : SkV S D K L) : SkV T D K L := by
  refine ⟨by rw [hF.I' (g := 800) (allc hM (by decide)) hK rfl]; exact h.1, fun k s hk => ?_⟩
  obtain ⟨q, h1, h2⟩ := h.2 k s hk
  exact ⟨q, by rw [mB_frc hF hK (ex3 (gQ_8_808 hG hK)) (allc hM (by decide)) (allc hM (by decide))]; exact h1, SkO_fr hG (sk_at hG hK h1) hF (sub_all hM (by decide)) h9 h2⟩
theorem SkV_fr {M : List Nat} {S T : PS} {D : Nat → Prop} {K : Nat} {L : List Sk} (hG : GX S) (hK : At S K 8) (hF : Fr M S T) (hM : (skL ++ [800, 808, 10019, 902, 903]).all (fun g => !M.contains g) = true) (h : SkV S D K L) : SkV T D K L := SkV_st hG hK hF (sub_all hM (by decide)) (fun g hg => ⟨hF.I' (g := 902) (allc hM (by decide)) hg rfl, hF.I' (g := 903) (allc hM (by decide)) hg rfl⟩) h
theorem SkV_sI {S T : PS} {D : Nat → Prop} {K g a : Nat} {v : Int32} {L : List Sk} (hG : GX S) (hK : At S K 8) (h : SkV S D K L) (e : T = sI S g a v) (hg : (skL ++ [800, 808, 10019, 902, 903]).contains g = false) : SkV T D K L := SkV_fr (M := [g]) hG hK (by rw [e]; exact Fr_sI (List.mem_singleton.mpr rfl)) (List.all_eq_true.mpr (fun y hy => by
  have hn : ¬ y = g := fun z => by rw [z] at hy; rw [List.contains_iff_mem.mpr hy] at hg; cases hg
  have : List.contains [g] y = false := by
    cases c : List.contains [g] y
    · rfl
    · exact absurd (List.mem_singleton.mp (List.contains_iff_mem.mp c)) hn
  rw [this]; rfl)) h
/-! ===== a strand is copied, a skein is made and kept ===== -/
def pcG : List Nat := [905, 906, 907, 908]
def CpS (T : PS) (x g : Nat) : Prop := (pI T 902 x = pI T 902 g ∧ pI T 903 x = pI T 903 g ∧ pI T 904 x = pI T 904 g) ∧ (∃ f e f0 e0, pR T 900 x = some f ∧ pR T 901 x = some e ∧ pR T 900 g = some f0 ∧ pR T 901 g = some e0 ∧ (pN T f : Int) = (pI T 902 g).toInt ∧ ∀ k : Nat, (k : Int) < (pI T 902 g).toInt → pA T f k = pA T f0 k ∧ pA T e k = pA T e0 k) ∧ ∀ h, h ∈ pcG → ∃ a a0, pR T h x = some a ∧ pR T h g = some a0 ∧ ∀ k : Nat, (k : Int) < (pI T 904 g).toInt → pA T a k = pA T a0 k
def spG : List Nat := [900, 901, 905, 906, 907, 908]
theorem CpS_to {T U : PS} {x g : Nat} (hI : ∀ h, h ∈ ([902, 903, 904] : List Nat) → pI U h x = pI T h x ∧ pI U h g = pI T h g) (hR : ∀ h, h ∈ spG → pR U h x = pR T h x ∧ pR U h g = pR T h g) (hA : ∀ h, h ∈ spG → ∀ a, pR T h x = some a ∨ pR T h g = some a → pA U a = pA T a ∧ pN U a = pN T a) (h : CpS T x g) : CpS U x g := by
  obtain ⟨⟨a1, a2, a3⟩, ⟨f, e, f0, e0, b1, b2, b3, b4, b5, b6⟩, c⟩ := h
  have i2 := hI 902 (by decide)
  have i3 := hI 903 (by decide)
  have i4 := hI 904 (by decide)
  have r0 := hR 900 (by decide)
  have r1 := hR 901 (by decide)
  refine ⟨⟨by rw [i2.1, i2.2]; exact a1, by rw [i3.1, i3.2]; exact a2, by rw [i4.1, i4.2]; exact a3⟩, ⟨f, e, f0, e0, by rw [r0.1]; exact b1, by rw [r1.1]; exact b2, by rw [r0.2]; exact b3, by rw [r1.2]; exact b4, by rw [(hA 900 (by decide) f (Or.inl b1)).2, i2.2]; exact b5, fun k hk => ?_⟩, fun h hh => ?_⟩
  · rw [i2.2] at hk
    rw [(hA 900 (by decide) f (Or.inl b1)).1, (hA 901 (by decide) e (Or.inl b2)).1, (hA 900 (by decide) f0 (Or.inr b3)).1, (hA 901 (by decide) e0 (Or.inr b4)).1]
    exact b6 k hk
  · have hs : h ∈ spG := by
      simp only [pcG, List.mem_cons, List.not_mem_nil, or_false] at hh
      rcases hh with z | z | z | z <;> subst z <;> decide
    obtain ⟨a, a0, c1, c2, c3⟩ := c h hh
    refine ⟨a, a0, by rw [(hR h hs).1]; exact c1, by rw [(hR h hs).2]; exact c2, fun k hk => ?_⟩
    rw [i4.2] at hk
    rw [(hA h hs a (Or.inl c1)).1, (hA h hs a0 (Or.inr c2)).1]
    exact c3 k hk
theorem CpS_sI {T U : PS} {x g h' a : Nat} {v : Int32} (h : CpS T x g) (e : U = sI T h' a v) (hg : ([902, 903, 904] : List Nat).contains h' = false) : CpS U x g := by
  have hn : ∀ k, k ∈ ([902, 903, 904] : List Nat) → k ≠ h' := fun k hk z => by rw [z] at hk; rw [List.contains_iff_mem.mpr hk] at hg; cases hg
  subst e
  exact CpS_to (fun k hk => ⟨pI_sI_nf (hn k hk), pI_sI_nf (hn k hk)⟩) (fun _ _ => ⟨rfl, rfl⟩) (fun _ _ _ _ => ⟨rfl, rfl⟩) h
theorem CpS_sB {T U : PS} {x g a : Nat} {f : Nat → Option Nat} (h : CpS T x g) (e : U = sB T a f) : CpS U x g := by
  subst e
  exact h
theorem sp_arr {T : PS} {x h a : Nat} (hG : GX T) (hh : h ∈ spG) (hx : At T x 9 ∨ At T x 29) (ha : pR T h x = some a) : At T a 14 ∨ At T a 1614 ∨ At T a 1634 ∨ At T a 1654 := by
  simp only [spG, List.mem_cons, List.not_mem_nil, or_false] at hh
  rcases hx with hx | hx
  · refine Or.inr (Or.inr (Or.inr ?_))
    rcases hh with z | z | z | z | z | z <;> subst z
    · obtain ⟨c, k1, k2, -⟩ := gC_9_900 hG hx; rw [k1] at ha; cases ha; exact k2
    · obtain ⟨c, k1, k2, -⟩ := gC_9_901 hG hx; rw [k1] at ha; cases ha; exact k2
    · obtain ⟨c, k1, k2, -⟩ := gC_9_905 hG hx; rw [k1] at ha; cases ha; exact k2
    · obtain ⟨c, k1, k2, -⟩ := gC_9_906 hG hx; rw [k1] at ha; cases ha; exact k2
    · obtain ⟨c, k1, k2, -⟩ := gC_9_907 hG hx; rw [k1] at ha; cases ha; exact k2
    · obtain ⟨c, k1, k2, -⟩ := gC_9_908 hG hx; rw [k1] at ha; cases ha; exact k2
  · obtain ⟨q1, q2, q3, q4, n, r1, r2, r3, r4, t1, t2, t3, t4, -⟩ := gGrw hG hx
    rcases hh with z | z | z | z | z | z <;> subst z
    · obtain ⟨c, k1, k2, -⟩ := gQ_29_900 hG hx; rw [k1] at ha; cases ha; exact Or.inr (Or.inl k2)
    · obtain ⟨c, k1, k2, -⟩ := gQ_29_901 hG hx; rw [k1] at ha; cases ha; exact Or.inr (Or.inr (Or.inl k2))
    · rw [r1] at ha; cases ha; exact Or.inl t1
    · rw [r2] at ha; cases ha; exact Or.inl t2
    · rw [r3] at ha; cases ha; exact Or.inl t3
    · rw [r4] at ha; cases ha; exact Or.inl t4
theorem CpS_kq {T U : PS} {x g q k : Nat} (hG : GX T) (hx : At T x 9) (hg : At T g 29) (hq : At T q k) (hk : k ≠ 9 ∧ k ≠ 29 ∧ k ≠ 14 ∧ k ≠ 1614 ∧ k ≠ 1634 ∧ k ≠ 1654) (hK : Kq T U q) (h : CpS T x g) : CpS U x g := by
  have nx : x ≠ q := At_ne hx hq (fun z => hk.1 z.symm)
  have ng : g ≠ q := At_ne hg hq (fun z => hk.2.1 z.symm)
  have kx := (hK x hx.1).2 nx
  have kg := (hK g hg.1).2 ng
  have arr : ∀ a, (At T a 14 ∨ At T a 1614 ∨ At T a 1634 ∨ At T a 1654) → pA U a = pA T a ∧ pN U a = pN T a := fun a ha => by
    rcases ha with z | z | z | z
    · have w := (hK a z.1).2 (At_ne z hq (fun y => hk.2.2.1 y.symm)); exact ⟨w.2.2.2.2.1, w.2.2.2.1⟩
    · have w := (hK a z.1).2 (At_ne z hq (fun y => hk.2.2.2.1 y.symm)); exact ⟨w.2.2.2.2.1, w.2.2.2.1⟩
    · have w := (hK a z.1).2 (At_ne z hq (fun y => hk.2.2.2.2.1 y.symm)); exact ⟨w.2.2.2.2.1, w.2.2.2.1⟩
    · have w := (hK a z.1).2 (At_ne z hq (fun y => hk.2.2.2.2.2 y.symm)); exact ⟨w.2.2.2.2.1, w.2.2.2.1⟩
  exact CpS_to (fun h _ => ⟨kx.2.1 h, kg.2.1 h⟩) (fun h _ => ⟨kx.2.2.1 h, kg.2.2.1 h⟩) (fun h hh a ha => by
    rcases ha with z | z
    · exact arr a (sp_arr hG hh (Or.inl hx) z)
    · exact arr a (sp_arr hG hh (Or.inr hg) z)) h
theorem pcg {P : Nat → Prop} (h5 : P 905) (h6 : P 906) (h7 : P 907) (h8 : P 908) : ∀ h, h ∈ pcG → P h := fun h hm => by
  simp only [pcG, List.mem_cons, List.not_mem_nil, or_false] at hm
  rcases hm with e | e | e | e <;> subst e <;> assumption
def SkI (T : PS) (x s : Nat) (a b c : Int32) : Prop := pR T 703 x = some s ∧ (pI T 700 x = a ∧ pI T 701 x = b ∧ pI T 702 x = c) ∧ (pI T 707 x = 3 ∧ pI T 708 x = 0 ∧ pI T 709 x = 0) ∧ ∀ f, pR T 900 s = some f → pI T 704 x = loN (pA T f) (pN T f) ∧ pI T 705 x = hiN (pA T f) (pN T f) ∧ pI T 706 x = slN (pA T f) (pN T f)
theorem SkI_sI {T U : PS} {x s g q : Nat} {v a b c : Int32} (h : SkI T x s a b c) (e : U = sI T g q v) (hg : g < 700 ∨ 709 < g) : SkI U x s a b c := by
  subst e
  have n : ∀ k, 700 ≤ k → k ≤ 709 → ∀ y, pI (sI T g q v) k y = pI T k y := fun k h1 h2 y => pI_sI_nf (by omega)
  obtain ⟨h1, h2, h3, h4⟩ := h
  refine ⟨h1, ?_, ?_, fun f hf => ?_⟩
  · rw [n 700 (by omega) (by omega), n 701 (by omega) (by omega), n 702 (by omega) (by omega)]; exact h2
  · rw [n 707 (by omega) (by omega), n 708 (by omega) (by omega), n 709 (by omega) (by omega)]; exact h3
  · rw [n 704 (by omega) (by omega), n 705 (by omega) (by omega), n 706 (by omega) (by omega)]; exact h4 f hf
theorem SkI_sB {T U : PS} {x s q : Nat} {f : Nat → Option Nat} {a b c : Int32} (h : SkI T x s a b c) (e : U = sB T q f) : SkI U x s a b c := by
  subst e
  exact h
def KeO (S T : PS) (x g : Nat) (a b : Int32) : Prop := ∃ q s, q ∉ pL S ∧ mB T x 808 = va_up (mB S x 808) (pI S 800 x).toInt.toNat (some q) ∧ SkI T q s a b (pI S 801 x) ∧ CpS T s g
theorem SkO_ke {T : PS} {D : Nat → Prop} {g q s : Nat} {a b c : Int32} {L : List Mt} (h1 : SkI T q s a b c) (h3 : CpS T s g) (h : StV T D g L) : SkO T D q (a, c, b, L) := by
  obtain ⟨a1, a2, a3, f1, e1, a4, a5, a6⟩ := h
  obtain ⟨⟨b1, b2, -⟩, ⟨f, e', f0, e0, b3, b4, b5, b6, b7, b8⟩, -⟩ := h3
  obtain ⟨c1, ⟨c2, c3, c4⟩, -, c5⟩ := h1
  obtain ⟨h5, h6, h7⟩ := c5 f b3
  rw [a4] at b5
  cases b5
  rw [a5] at b6
  cases b6
  have hn : pN T f = L.length := by omega
  rw [hn] at h5 h6 h7
  refine ⟨s, f, c1, b3, ⟨c2, c4, c3⟩, ⟨by rw [b1]; exact a1, by rw [b2]; exact a2, a3, f, e', b3, b4, fun k m hk => ?_⟩, h5, h6, h7⟩
  have hl : k < L.length := (List.getElem?_eq_some_iff.mp hk).1
  obtain ⟨d1, d2⟩ := b8 k (by omega)
  rw [d1, d2]
  exact a6 k m hk
theorem SkV_ke {S T : PS} {D : Nat → Prop} {x g : Nat} {a b : Int32} {K : List Sk} {L : List Mt} (hG : GX S) (hx : At S x 8) (hg : At S g 29) (hF : Fr eKE S T) (h8 : (pI T 800 x).toInt = (pI S 800 x).toInt + 1) (ho : KeO S T x g a b) (hL : StV S D g L) (h : SkV S D x K) : SkV T D x (K ++ [(a, pI S 801 x, b, L)]) := by
  obtain ⟨q, s, -, k1, k2, k3⟩ := ho
  have hLT : StV T D g L := StV_fr hG hg hF (by decide +kernel) hL
  have h1 := h.1
  refine ⟨by rw [h8, h1, List.length_append]; rfl, fun k y hk => ?_⟩
  by_cases z : k = K.length
  · have hy : y = (a, pI S 801 x, b, L) := by
      rw [z, List.getElem?_append_right (Nat.le_refl _), Nat.sub_self] at hk
      exact (Option.some.inj hk).symm
    rw [hy]
    refine ⟨q, ?_, SkO_ke k2 k3 hLT⟩
    rw [k1, show k = (pI S 800 x).toInt.toNat by omega]
    exact if_pos rfl
  · have hl := (List.getElem?_eq_some_iff.mp hk).1
    rw [List.length_append] at hl
    have hl2 : k < K.length + 1 := hl
    rw [List.getElem?_append_left (by omega)] at hk
    obtain ⟨q', j1, j2⟩ := h.2 k y hk
    refine ⟨q', ?_, SkO_fr hG (sk_at hG hx j1) hF (by decide +kernel) (fun g hg => ⟨hF.I' (g := 902) (by decide +kernel) hg rfl, hF.I' (g := 903) (by decide +kernel) hg rfl⟩) j2⟩
    rw [k1]
    exact (if_neg (by omega)).trans j1
theorem SkV_kw {S T : PS} {D : Nat → Prop} {x : Nat} {K : List Sk} (hG : GX S) (hx : At S x 8) (hF : Fr [805] S T) (h : SkV S D x K) : SkV T D x K := SkV_fr hG hx hF (by decide +kernel) h
theorem SkV_am {S T : PS} {D : Nat → Prop} {x G : Nat} {a b : Int32} {K : List Sk} (hG : GX S) (hx : At S x 8) (hg : At S G 29) (hF : Fr eAM S T) (ho : AmO S T G a b) (h : SkV S D x K) : SkV T D x K := SkV_st hG hx hF (by decide +kernel) (fun g hq => by
  obtain ⟨f, e, -, -, h3⟩ := ho
  have hn : g ≠ G := At_ne hq hg (by decide)
  subst h3
  exact ⟨by rw [pI_sI_nf (by decide), pI_sI_ne hn]; rfl, by rw [pI_sI_ne hn, pI_sI_nf (by decide)]; rfl⟩) h
theorem SkV_ba {S T : PS} {D : Nat → Prop} {x G : Nat} {K : List Sk} (hG : GX S) (hx : At S x 8) (hg : At S G 29) (hF : Fr eBA S T) (ho : BaO S T G) (h : SkV S D x K) : SkV T D x K := SkV_st hG hx hF (by decide +kernel) (fun g hq => by
  have hn : g ≠ G := At_ne hq hg (by decide)
  unfold BaO at ho
  subst ho
  exact ⟨by rw [pI_sI_nf (by decide), pI_sI_nf (by decide), pI_sI_ne hn], by rw [pI_sI_nf (by decide), pI_sI_ne hn, pI_sI_nf (by decide)]⟩) h
theorem capG_a {g : List Mt} {m : Mt} (h : g.length < 300) : capG g m = g ++ [m] := if_pos h
theorem StV_cap {S T : PS} {D : Nat → Prop} {q : Nat} {g : List Mt} {m : Mt} {a b : Int32} (hG : GX S) (hq : At S q 29) (h1 : (pI S 902 q).toInt < 300 → AmO S T q a b) (h2 : ¬ (pI S 902 q).toInt < 300 → T = S) (ha : a = mtS S m) (hb : b.toInt = (m.length : Int)) (hm : ∀ z, z ∈ m → D z.1 ∧ At S z.1 0) (h : StV S D q g) : StV T D q (capG g m) := by
  have hl := h.1
  by_cases h3 : g.length < 300
  · rw [capG_a h3]
    exact StV_add hG hq h3 (h1 (by omega)) ha hb hm h
  · rw [capG_n h3, h2 (by omega)]
    exact h
theorem StX_cap {S T : PS} {q : Nat} {a b : Int32} (hG : GX S) (h1 : (pI S 902 q).toInt < 300 → AmO S T q a b) (h2 : ¬ (pI S 902 q).toInt < 300 → T = S) : StX S T q := by
  by_cases h3 : (pI S 902 q).toInt < 300
  · exact StX_am hG (h1 h3)
  · rw [h2 h3]
    exact StX_rf S q
theorem SkV_cap {S T : PS} {D : Nat → Prop} {x q : Nat} {a b : Int32} {K : List Sk} (hG : GX S) (hx : At S x 8) (hq : At S q 29) (hF : Fr eAM S T) (h1 : (pI S 902 q).toInt < 300 → AmO S T q a b) (h2 : ¬ (pI S 902 q).toInt < 300 → T = S) (h : SkV S D x K) : SkV T D x K := by
  by_cases h3 : (pI S 902 q).toInt < 300
  · exact SkV_am hG hx hq hF (h1 h3) h
  · rw [h2 h3]
    exact h
theorem StV_up {S : PS} {D D' : Nat → Prop} {q : Nat} {g : List Mt} (hD : ∀ c, D c → D' c) (h : StV S D q g) : StV S D' q g := by
  obtain ⟨a1, a2, a3, a4⟩ := h
  exact ⟨a1, a2, fun m h1 z h2 => ⟨hD _ (a3 m h1 z h2).1, (a3 m h1 z h2).2⟩, a4⟩
theorem SkV_up {S : PS} {D D' : Nat → Prop} {K : Nat} {L : List Sk} (hD : ∀ c, D c → D' c) (h : SkV S D K L) : SkV S D' K L := ⟨h.1, fun k s hk => by
  obtain ⟨q, h1, g, f, h2, h3, h4, h5, h6⟩ := h.2 k s hk
  exact ⟨q, h1, g, f, h2, h3, h4, StV_up hD h5, h6⟩⟩
def CoS (S T : PS) : Prop := CoE S T ∧ ∀ q, At S q 29 → pR T 900 q = pR S 900 q ∧ pR T 901 q = pR S 901 q
theorem CoS_fr {M : List Nat} {S T : PS} (hF : Fr M S T) (hM : ([2, 8, 900, 901] : List Nat).all (fun g => !M.contains g) = true) : CoS S T := ⟨CoE_fr hF (sub_all hM (by decide)), fun q hq => ⟨frR hF (allc hM (by decide)) hq.1, frR hF (allc hM (by decide)) hq.1⟩⟩
theorem StV_X {S T : PS} {D : Nat → Prop} {G H : Nat} {g : List Mt} (hG : GX S) (hg : At S G 29) (hh : At S H 29) (hX : StX S T G) (hC : CoS S T) (hne : H ≠ G) (ho : pR S 900 G ≠ pR S 900 H ∧ pR S 901 G ≠ pR S 901 H) (h : StV S D H g) : StV T D H g := by
  obtain ⟨-, x2, x3, x4⟩ := hX hg
  obtain ⟨c1, c2⟩ := hC
  obtain ⟨f, f1, f2, -⟩ := gQ_29_900 hG hh
  obtain ⟨e, e1, e2, -⟩ := gQ_29_901 hG hh
  exact StV_to c1 (x2 H hh hne).1 (x2 H hh hne).2 (c2 H hh).1 (c2 H hh).2 (fun y hy => by
    rw [f1] at hy
    cases hy
    exact x3 f f2 (fun z => ho.1 (by rw [z, f1]))) (fun y hy => by
    rw [e1] at hy
    cases hy
    exact x4 e e2 (fun z => ho.2 (by rw [z, e1]))) h
/-! ===== a pot of the class stands for a state ===== -/
def PotR (S : PS) (P R0 R1 R2 G : Nat) : Prop := pR S 400 P = some R0 ∧ pR S 401 P = some R1 ∧ pR S 402 P = some R2 ∧ pR S 403 P = some G ∧ (R0 ≠ R1 ∧ R0 ≠ R2 ∧ R1 ≠ R2) ∧ pR S 501 R0 ≠ pR S 501 R1 ∧ pR S 501 R0 ≠ pR S 501 R2 ∧ pR S 501 R1 ≠ pR S 501 R2
theorem PotR_fr {M : List Nat} {S T : PS} {P R0 R1 R2 G : Nat} (hG : GX S) (hP : At S P 4) (hF : Fr M S T) (hM : ([400, 401, 402, 403, 501] : List Nat).all (fun g => !M.contains g) = true) (h : PotR S P R0 R1 R2 G) : PotR T P R0 R1 R2 G := by
  obtain ⟨h0, h1, h2, h3, h4, h5, h6, h7⟩ := h
  have a0 := row_at hG hP (Or.inl h0)
  have a1 := row_at hG hP (Or.inr (Or.inl h1))
  have a2 := row_at hG hP (Or.inr (Or.inr h2))
  refine ⟨hF.R' (allc hM (by decide)) hP h0, hF.R' (allc hM (by decide)) hP h1, hF.R' (allc hM (by decide)) hP h2, hF.R' (allc hM (by decide)) hP h3, h4, ?_, ?_, ?_⟩
  · rw [frR hF (allc hM (by decide)) a0.1, frR hF (allc hM (by decide)) a1.1]; exact h5
  · rw [frR hF (allc hM (by decide)) a0.1, frR hF (allc hM (by decide)) a2.1]; exact h6
  · rw [frR hF (allc hM (by decide)) a1.1, frR hF (allc hM (by decide)) a2.1]; exact h7
def CoP (S : PS) (D : Nat → Prop) (pl sd : Nat → Int32) : Prop := ∀ c, D c → pI S 4 c = pl c ∧ pI S 3 c = sd c
theorem CoP_sI {S T : PS} {D : Nat → Prop} {pl sd : Nat → Int32} {g a : Nat} {v : Int32} (h : CoP S D pl sd) (e : T = sI S g a v) (h3 : 3 ≠ g) (h4 : 4 ≠ g) : CoP T D pl sd := fun c hc => by
  subst e
  rw [pI_sI_nf h4, pI_sI_nf h3]
  exact h c hc
theorem CoP_s3 {S T : PS} {D : Nat → Prop} {pl sd : Nat → Int32} {a : Nat} {v : Int32} (h : CoP S D pl sd) (e : T = sI S 3 a v) : CoP T D pl (fuI sd a v) := fun c hc => by
  subst e
  refine ⟨by rw [pI_sI_nf (by decide)]; exact (h c hc).1, ?_⟩
  unfold fuI
  by_cases z : c = a
  · rw [if_pos z, z]; exact pI_sI_same
  · rw [if_neg z, pI_sI_ne z]; exact (h c hc).2
theorem CoP_fr {M : List Nat} {S T : PS} {D : Nat → Prop} {pl sd : Nat → Int32} (hF : Fr M S T) (hD : ∀ c, D c → At S c 0) (hM : ([3, 4] : List Nat).all (fun g => !M.contains g) = true) (h : CoP S D pl sd) : CoP T D pl sd := fun c hc => by
  rw [hF.I' (g := 4) (allc hM (by decide)) (hD c hc) rfl, hF.I' (g := 3) (allc hM (by decide)) (hD c hc) rfl]
  exact h c hc
def InD (D : Nat → Prop) (A : Pt) : Prop := ∀ c, c ∈ qb A ∨ c ∈ qe A ∨ c ∈ ql A → D c
theorem capL_mem {n c d : Nat} {L : List Nat} (h : d ∈ capL n L c) : d ∈ L ∨ d = c := by
  unfold capL at h
  split at h
  · rcases List.mem_append.mp h with z | z
    · exact Or.inl z
    · exact Or.inr (List.mem_singleton.mp z)
  · exact Or.inl h
theorem capF_mem {n c d : Nat} {L : List Nat} (h : d ∈ capF n L c) : d ∈ L ∨ d = c := by
  unfold capF at h
  split at h
  · rcases List.mem_cons.mp h with z | z
    · exact Or.inr z
    · exact Or.inl z
  · exact Or.inl h
theorem er_mem {i d : Nat} {L : List Nat} (h : d ∈ L.eraseIdx i) : d ∈ L := List.mem_of_mem_eraseIdx h
theorem ix_mem {i d : Nat} {L : List Nat} (h : L[i]? = some d) : d ∈ L := List.mem_of_getElem? h
theorem inD_fet {D : Nat → Prop} {A : Pt} (h : InD D A) : InD D (fetF A) := by
  cases e : ql A with
  | nil => rw [fetF_n e]; exact h
  | cons c t =>
    rw [fetF_c e]
    intro d hd
    have hc : c ∈ ql A := by rw [e]; exact List.mem_cons_self
    rcases hd with z | z | z
    · rcases capL_mem (show d ∈ capL 600 (qb A) c from z) with y | y
      · exact h d (Or.inl y)
      · rw [y]; exact h c (Or.inr (Or.inr hc))
    · exact h d (Or.inr (Or.inl z))
    · exact h d (Or.inr (Or.inr (by rw [e]; exact List.mem_cons_of_mem _ z)))
theorem inD_sea {E : En} {D : Nat → Prop} {A : Pt} (h : InD D A) : InD D (seaF E A) := by
  unfold seaF
  split
  · exact h
  · split
    · exact h
    · exact inD_fet (A := wse A 0) h
theorem inD_cas {D : Nat → Prop} {A : Pt} (h : InD D A) : InD D (casF A) := by
  cases e : qb A with
  | nil => rw [casF_n (Or.inl e)]; exact h
  | cons c t =>
    by_cases e2 : (qe A).length < 12
    · rw [casF_c e e2]
      intro d hd
      have hc : c ∈ qb A := by rw [e]; exact List.mem_cons_self
      rcases hd with z | z | z
      · exact h d (Or.inl (by rw [e]; exact List.mem_cons_of_mem _ z))
      · rcases capL_mem (show d ∈ capL 12 (qe A) c from z) with y | y
        · exact h d (Or.inr (Or.inl y))
        · rw [y]; exact h c (Or.inl hc)
      · exact h d (Or.inr (Or.inr z))
    · rw [casF_n (Or.inr e2)]; exact h
theorem inD_dro {E : En} {D : Nat → Prop} {A : Pt} (h : InD D A) : InD D (droF E A) := by
  by_cases h0 : 0 ≤ thiF E A
  · cases e : (qe A)[(thiF E A).toNat]? with
    | none => rw [droF_n (by have := List.getElem?_eq_none_iff.mp e; omega)]; exact h
    | some c =>
      rw [droF_c h0 e]
      intro d hd
      have hc : c ∈ qe A := ix_mem e
      rcases hd with z | z | z
      · rcases capF_mem (show d ∈ capF 600 (qb A) c from z) with y | y
        · exact h d (Or.inl y)
        · rw [y]; exact h c (Or.inr (Or.inl hc))
      · exact h d (Or.inr (Or.inl (er_mem z)))
      · exact h d (Or.inr (Or.inr z))
  · rw [droF_n (by omega)]; exact h
theorem inD_thr {D : Nat → Prop} {A : Pt} (h : InD D A) : InD D (throF A) := by
  unfold throF
  split
  · intro d hd
    rcases hd with z | z | z
    · exact h d (Or.inl (er_mem z))
    · exact h d (Or.inr (Or.inl z))
    · exact h d (Or.inr (Or.inr z))
  · exact h
theorem inD_fnd {D : Nat → Prop} {A : Pt} (h : InD D A) : InD D (fndF A) := by
  unfold fndF
  split
  · exact h
  · exact inD_fet (A := A) h
theorem inD_cut {E : En} {D : Nat → Prop} {A : Pt} (h : InD D A) : InD D (cutF E A) := by
  unfold cutF
  split
  · exact h
  · split <;> exact h
def PotV (S : PS) (D : Nat → Prop) (P R0 R1 R2 G K : Nat) (A : Pt) : Prop := RowIs S R0 (qb A) 600 ∧ RowIs S R1 (qe A) 12 ∧ RowIs S R2 (ql A) 600 ∧ pI S 405 P = qst A ∧ pI S 406 P = qse A ∧ StV S D G (qg A) ∧ pI S 407 P = qdr A ∧ pI S 408 P = qtk A ∧ SkV S D K (qsk A) ∧ CoP S D (qpl A) (qsd A) ∧ InD D A
theorem PotR_sI {S T : PS} {P R0 R1 R2 G g a : Nat} {v : Int32} (h : PotR S P R0 R1 R2 G) (e : T = sI S g a v) : PotR T P R0 R1 R2 G := by
  subst e
  exact h
theorem RowIs_sz {S : PS} {R n : Nat} {L : List Nat} (h : RowIs S R L n) : (pI S 500 R).toInt = (L.length : Int) := by
  obtain ⟨q, -, -, h3, -⟩ := h
  exact h3
theorem PotV_of {S : PS} {D : Nat → Prop} {P R0 R1 R2 G K : Nat} {F B : Pt} (e : F = B) (h0 : RowIs S R0 (qb B) 600) (h1 : RowIs S R1 (qe B) 12) (h2 : RowIs S R2 (ql B) 600) (h3 : pI S 405 P = qst B) (h4 : pI S 406 P = qse B) (h5 : StV S D G (qg B)) (h6 : pI S 407 P = qdr B) (h7 : pI S 408 P = qtk B) (h8 : SkV S D K (qsk B)) (h9 : CoP S D (qpl B) (qsd B)) (h10 : InD D F) : PotV S D P R0 R1 R2 G K F := by
  rw [e] at h10 ⊢
  exact ⟨h0, h1, h2, h3, h4, h5, h6, h7, h8, h9, h10⟩
/-- what the functions of a tick are told of cocoons, day, pot -/
def EnC (S : PS) (D : Nat → Prop) (P K : Nat) (E : En) : Prop := (∀ c, D c → elen E c = pI S 2 c ∧ (∀ p, efn E c p = fcI (pI S 8 c) (pI S 2 c) p) ∧ ∀ p, ebr E c p ↔ brI (pI S 7 c) (pI S 9 c) (pI S 1 c) p) ∧ eday E = pI S 801 K ∧ epot E = pI S 410 P ∧ eaim E = pI S 404 P ∧ efind E = pI S 411 P
theorem EnC_sI {S T : PS} {D : Nat → Prop} {P K g a : Nat} {v : Int32} {E : En} (h : EnC S D P K E) (e : T = sI S g a v) (hg : ([1, 2, 7, 8, 9, 801, 410, 404, 411] : List Nat).contains g = false) : EnC T D P K E := by
  subst e
  have hn : ∀ k, k ∈ ([1, 2, 7, 8, 9, 801, 410, 404, 411] : List Nat) → ∀ b, pI (sI S g a v) k b = pI S k b := fun k hk b => pI_sI_nf (fun z => by rw [z] at hk; rw [List.contains_iff_mem.mpr hk] at hg; cases hg)
  obtain ⟨h1, h2, h3, h4, h5⟩ := h
  refine ⟨fun c hc => ?_, by rw [hn 801 (by decide)]; exact h2, by rw [hn 410 (by decide)]; exact h3, by rw [hn 404 (by decide)]; exact h4, by rw [hn 411 (by decide)]; exact h5⟩
  rw [hn 1 (by decide), hn 2 (by decide), hn 7 (by decide), hn 8 (by decide), hn 9 (by decide)]
  exact h1 c hc
theorem EnC_fr {M : List Nat} {S T : PS} {D : Nat → Prop} {P K : Nat} {E : En} (hF : Fr M S T) (hD : ∀ c, D c → At S c 0) (hP : At S P 4) (hK : At S K 8) (hM : ([1, 2, 7, 8, 9, 801, 410, 404, 411] : List Nat).all (fun g => !M.contains g) = true) (h : EnC S D P K E) : EnC T D P K E := by
  obtain ⟨h1, h2, h3, h4, h5⟩ := h
  refine ⟨fun c hc => ?_, by rw [hF.I' (g := 801) (allc hM (by decide)) hK rfl]; exact h2, by rw [hF.I' (g := 410) (allc hM (by decide)) hP rfl]; exact h3, by rw [hF.I' (g := 404) (allc hM (by decide)) hP rfl]; exact h4, by rw [hF.I' (g := 411) (allc hM (by decide)) hP rfl]; exact h5⟩
  rw [hF.I' (g := 1) (allc hM (by decide)) (hD c hc) rfl, hF.I' (g := 2) (allc hM (by decide)) (hD c hc) rfl, hF.I' (g := 7) (allc hM (by decide)) (hD c hc) rfl, hF.I' (g := 8) (allc hM (by decide)) (hD c hc) rfl, hF.I' (g := 9) (allc hM (by decide)) (hD c hc) rfl]
  exact h1 c hc
theorem thN_eq {f g : Nat → Int} {L : List Nat} (h : ∀ c, c ∈ L → f c = g c) : ∀ k, thN f L k = thN g L k
  | 0 => rfl
  | k + 1 => by
    have ih := thN_eq h k
    cases e : L[k]? with
    | none =>
      show (match L[k]? with | some c => if f c < (thN f L k).2 then ((k : Int), f c) else thN f L k | none => thN f L k) = (match L[k]? with | some c => if g c < (thN g L k).2 then ((k : Int), g c) else thN g L k | none => thN g L k)
      rw [e]
      exact ih
    | some c =>
      show (match L[k]? with | some c => if f c < (thN f L k).2 then ((k : Int), f c) else thN f L k | none => thN f L k) = (match L[k]? with | some c => if g c < (thN g L k).2 then ((k : Int), g c) else thN g L k | none => thN g L k)
      rw [e]
      show (if f c < (thN f L k).2 then ((k : Int), f c) else thN f L k) = (if g c < (thN g L k).2 then ((k : Int), g c) else thN g L k)
      rw [ih, h c (ix_mem e)]
theorem suL_eq {f g : Nat → Int32} {L : List Nat} (h : ∀ c, c ∈ L → f c = g c) : suL f L = suL g L := by
  unfold suL
  generalize (0 : Int32) = a
  induction L generalizing a with
  | nil => rfl
  | cons c t ih =>
    show t.foldl (fun a c => a + f c) (a + f c) = t.foldl (fun a c => a + g c) (a + g c)
    rw [h c List.mem_cons_self]
    exact ih (fun d hd => h d (List.mem_cons_of_mem _ hd)) _
theorem fin_fv {S : PS} {D : Nat → Prop} {P K c : Nat} {E : En} {A : Pt} (hE : EnC S D P K E) (hc : CoP S D (qpl A) (qsd A)) (hd : D c) : finF E A c = fvS S c := by
  unfold finF fvS
  rw [(hE.1 c hd).2.1, (hc c hd).1]
theorem thi_fv {S : PS} {D : Nat → Prop} {P K : Nat} {E : En} {A : Pt} (hE : EnC S D P K E) (hc : CoP S D (qpl A) (qsd A)) (hi : InD D A) : (thN (fun c => (fvS S c).toInt) (qe A) (qe A).length).1 = thiF E A := by
  unfold thiF
  rw [thN_eq (fun c hm => by show (fvS S c).toInt = (finF E A c).toInt; rw [fin_fv hE hc (hi c (Or.inr (Or.inl hm)))])]
/-! ===== what a pot's own method leaves of the other pots ===== -/
def PotX (S T : PS) (x R0 R1 R2 G : Nat) : Prop := (∀ a, At S a 5 → pR T 501 a = pR S 501 a) ∧ (∀ R, At S R 5 → R ≠ R0 → R ≠ R1 → R ≠ R2 → pR S 501 R ≠ pR S 501 R0 → pR S 501 R ≠ pR S 501 R1 → pR S 501 R ≠ pR S 501 R2 → ∀ L n, RowIs S R L n → RowIs T R L n) ∧ (∀ P, At S P 4 → P ≠ x → ∀ g, g ∈ ([405, 406, 407, 408] : List Nat) → pI T g P = pI S g P) ∧ StX S T G
theorem PotX_rf (S : PS) (x R0 R1 R2 G : Nat) : PotX S S x R0 R1 R2 G := ⟨fun _ _ => rfl, fun _ _ _ _ _ _ _ _ _ _ h => h, fun _ _ _ _ _ => rfl, StX_rf S G⟩
theorem PotX_sI {S T U : PS} {x R0 R1 R2 G g a : Nat} {v : Int32} (h : PotX S T x R0 R1 R2 G) (e : U = sI T g a v) (hg : ([500, 502, 405, 406, 407, 408, 902, 903] : List Nat).contains g = false) : PotX S U x R0 R1 R2 G := by
  have hn : ∀ k, k ∈ ([500, 502, 405, 406, 407, 408, 902, 903] : List Nat) → k ≠ g := fun k hk z => by rw [z] at hk; rw [List.contains_iff_mem.mpr hk] at hg; cases hg
  obtain ⟨h1, h2, h3, h4⟩ := h
  refine ⟨?_, fun R a b c d e' f k L n hL => RowIs_sI (h2 R a b c d e' f k L n hL) e (hn 500 (by decide)) (hn 502 (by decide)), fun P hP hx k hk => ?_, StX_sI h4 e (hn 902 (by decide)) (hn 903 (by decide))⟩
  · subst e; exact h1
  · subst e; rw [pI_sI_nf (hn k (by revert hk; simp only [List.mem_cons, List.not_mem_nil, or_false]; omega))]; exact h3 P hP hx k hk
theorem PotX_sx {S T U : PS} {x R0 R1 R2 G g : Nat} {v : Int32} (h : PotX S T x R0 R1 R2 G) (e : U = sI T g x v) (hg : ([500, 502, 902, 903] : List Nat).contains g = false) : PotX S U x R0 R1 R2 G := by
  have hn : ∀ k, k ∈ ([500, 502, 902, 903] : List Nat) → k ≠ g := fun k hk z => by rw [z] at hk; rw [List.contains_iff_mem.mpr hk] at hg; cases hg
  obtain ⟨h1, h2, h3, h4⟩ := h
  refine ⟨?_, fun R a b c d e' f k L n hL => RowIs_sI (h2 R a b c d e' f k L n hL) e (hn 500 (by decide)) (hn 502 (by decide)), fun P hP hx k hk => ?_, StX_sI h4 e (hn 902 (by decide)) (hn 903 (by decide))⟩
  · subst e; exact h1
  · subst e; rw [pI_sI_ne hx]; exact h3 P hP hx k hk
theorem PotX_row {M : List Nat} {S T U : PS} {x R0 R1 R2 G R : Nat} (h : PotX S T x R0 R1 R2 G) (hE : ∀ a k, At S a k → At T a k) (h0 : At S R0 5) (h1 : At S R1 5) (h2 : At S R2 5) (hR : R = R0 ∨ R = R1 ∨ R = R2) (hX : RowX T U R) (hF : Fr M T U) (hM : ([405, 406, 407, 408, 902, 903, 900, 901, 11614, 11634] : List Nat).all (fun g => !M.contains g) = true) : PotX S U x R0 R1 R2 G := by
  obtain ⟨g1, g2, g3, g4⟩ := h
  refine ⟨fun a ha => (hX.1 a).trans (g1 a ha), fun Q a b c d e f k L n hL => ?_, fun P hP hx k hk => ?_, StX_tr g4 hE (StX_of hF (sub_all hM (by decide)))⟩
  · refine hX.2 Q ?_ ?_ L n (g2 Q a b c d e f k L n hL)
    · rcases hR with z | z | z <;> rw [z] <;> assumption
    · rcases hR with z | z | z
      · rw [z, g1 Q a, g1 R0 h0]; exact e
      · rw [z, g1 Q a, g1 R1 h1]; exact f
      · rw [z, g1 Q a, g1 R2 h2]; exact k
  · rw [hF.I' (g := k) (allc hM (by revert hk; simp only [List.mem_cons, List.not_mem_nil, or_false]; omega)) (hE _ _ hP) rfl]; exact g3 P hP hx k hk
theorem PotX_fr {M : List Nat} {S T U : PS} {x R0 R1 R2 G : Nat} (h : PotX S T x R0 R1 R2 G) (hE : ∀ a k, At S a k → At T a k) (hG : GX T) (hF : Fr M T U) (hM : ([500, 501, 502, 10016, 405, 406, 407, 408, 902, 903, 900, 901, 11614, 11634] : List Nat).all (fun g => !M.contains g) = true) : PotX S U x R0 R1 R2 G := by
  obtain ⟨g1, g2, g3, g4⟩ := h
  refine ⟨fun a ha => (frR hF (allc hM (by decide)) (hE _ _ ha).1).trans (g1 a ha), fun Q a b c d e f k L n hL => RowIs_fr hG (hE _ _ a) hF (by
    rw [List.all_eq_true]
    intro y hy
    exact List.all_eq_true.mp hM y (by revert hy; simp only [List.mem_cons, List.not_mem_nil, or_false]; omega)) (g2 Q a b c d e f k L n hL), fun P hP hx k hk => ?_, StX_tr g4 hE (StX_of hF (sub_all hM (by decide)))⟩
  rw [hF.I' (g := k) (allc hM (by revert hk; simp only [List.mem_cons, List.not_mem_nil, or_false]; omega)) (hE _ _ hP) rfl]; exact g3 P hP hx k hk
theorem PotX_tr {S T U : PS} {x R0 R1 R2 G : Nat} (h : PotX S T x R0 R1 R2 G) (hE : ∀ a k, At S a k → At T a k) (h0 : At S R0 5) (h1 : At S R1 5) (h2 : At S R2 5) (h' : PotX T U x R0 R1 R2 G) : PotX S U x R0 R1 R2 G := by
  obtain ⟨g1, g2, g3, g4⟩ := h
  obtain ⟨k1, k2, k3, k4⟩ := h'
  refine ⟨fun a ha => (k1 a (hE _ _ ha)).trans (g1 a ha), fun Q a b c d e f k L n hL => k2 Q (hE _ _ a) b c d ?_ ?_ ?_ L n (g2 Q a b c d e f k L n hL), fun P hP hx g hg => (k3 P (hE _ _ hP) hx g hg).trans (g3 P hP hx g hg), StX_tr g4 hE k4⟩
  · rw [g1 Q a, g1 R0 h0]; exact e
  · rw [g1 Q a, g1 R1 h1]; exact f
  · rw [g1 Q a, g1 R2 h2]; exact k
theorem PotX_st {M : List Nat} {S T U : PS} {x R0 R1 R2 G : Nat} (h : PotX S T x R0 R1 R2 G) (hE : ∀ a k, At S a k → At T a k) (hG : GX T) (hF : Fr M T U) (hM : ([500, 501, 502, 10016, 405, 406, 407, 408] : List Nat).all (fun g => !M.contains g) = true) (h9 : StX T U G) : PotX S U x R0 R1 R2 G := by
  obtain ⟨g1, g2, g3, g4⟩ := h
  refine ⟨fun a ha => (frR hF (allc hM (by decide)) (hE _ _ ha).1).trans (g1 a ha), fun Q a b c d e f k L n hL => RowIs_fr hG (hE _ _ a) hF (by
    rw [List.all_eq_true]
    intro y hy
    exact List.all_eq_true.mp hM y (by revert hy; simp only [List.mem_cons, List.not_mem_nil, or_false]; omega)) (g2 Q a b c d e f k L n hL), fun P hP hx k hk => ?_, StX_tr g4 hE h9⟩
  rw [hF.I' (g := k) (allc hM (by revert hk; simp only [List.mem_cons, List.not_mem_nil, or_false]; omega)) (hE _ _ hP) rfl]; exact g3 P hP hx k hk

set_option maxHeartbeats 4000000 in
set_option maxRecDepth 100000 in
theorem k_X4_fetchLost5 (l : Launch) (G : va_G) (cy : Nat → ClassId) (κ : Nat → Nat) (S : PS) (sz : Nat) (x : Nat) (D : Nat → Prop) (R0 : Nat) (R1 : Nat) (R2 : Nat) (Gs : Nat) (Ks : Nat) (A : Pt) (Ev : En) (hG : GX S) (ha_x : At S x 4) (hp_0 : (∀ c, D c → At S c 0)) (hp_1 : PotR S x R0 R1 R2 Gs) (hp_2 : PotV S D x R0 R1 R2 Gs Ks A) (hp_3 : EnC S D x Ks Ev) (hp_4 : At S Ks 8) : Cv l yX4_fetchLost wsX4_fetchLost ({ frames := 3, cells := 0, slots := 0, locals := 144 }) G cy κ S sz [.ref x] (fun (S9 : PS) => Ok eFL S S9 ∧ (PotV S9 D x R0 R1 R2 Gs Ks (fetF A) ∧ PotX S S9 x R0 R1 R2 Gs)) := by
  refine ent_m (cc := cX4_fetchLost) (maxL := 2) (ret := none) (by decide) rfl (Nat.le_of_ble_eq_true rfl) ?_
  intro p e s m below meth c ls X hr hlocks hin hw hl hsz
  subst hsz
  have X : Cx p c cX4_fetchLost 2 s [.ref x].toArray wsX4_fetchLost RX4 m G cy κ (AS S s.heap.size) := X
  have hl : lv_has ls 2 [(0, .ref x)] := hl
  have hO : Ok eFL S S := Ok.rf hG
  have hpr := hp_1
  obtain ⟨hr0, hr1, hr2, hr3, hne, hcn⟩ := hpr
  have haR0 := row_at hG ha_x (Or.inl hr0)
  have haR1 := row_at hG ha_x (Or.inr (Or.inl hr1))
  have haR2 := row_at hG ha_x (Or.inr (Or.inr hr2))
  have haGs : At S Gs 29 := by obtain ⟨c, k1, k2⟩ := gQ_4_403 hG ha_x; have h3 := hr3; rw [k1] at h3; cases h3; exact k2
  have hpv := hp_2
  obtain ⟨pv_1, pv_2, pv_3, pv_4, pv_5, pv_6, pv_7, pv_8, pv_9, pv_10, pv_11⟩ := hpv
  obtain ⟨v_12, ev_12⟩ : ∃ v, pI S 902 Gs = v := ⟨_, rfl⟩
  have rg_13 := gI_29_902 hO.1 haGs; rw [ev_12] at rg_13
  have pz_14 : (pI S 902 Gs).toInt = v_12.toInt := by rw [ev_12]
  have pz_15 : (pI S 902 Gs).toInt = v_12.toInt := (congrArg Int32.toInt ev_12).trans rfl
  obtain ⟨v_16, ev_16⟩ : ∃ v, pI S 800 Ks = v := ⟨_, rfl⟩
  have rg_17 := gI_8_800 hO.1 hp_4; rw [ev_16] at rg_17
  have pz_18 : (pI S 800 Ks).toInt = v_16.toInt := by rw [ev_16]
  have pz_19 : (pI S 800 Ks).toInt = v_16.toInt := (congrArg Int32.toInt ev_16).trans rfl
  have sl_20 := pv_6.1
  have sl_21 := pv_9.1
  refine lv_aload_n X.1 X.2.1 dX4_fetchLost_0 rfl (lv_at hl 0 rfl) ?_
  refine r_getR (g := 402) X hw ha_x rfl 2 hr2 (by decide) rfl inn_X4_fetchLost_4 (by decide) (X.2.2.2.1 (.fieldLink RX4 23 "SilkMill$Pot" "lost" "LSilkMill$Row;") (by decide +kernel)) rfl (gv_402 _ _) dX4_fetchLost_1 ?_
  refine k_q (rm := { frames := 2, cells := 0, slots := 0, locals := 96 }) (av := [.ref R2]) X hw (va_runV (As := []) (rest := []) (cfix X) (k_X5_removeFirst5 l G cy κ S _ R2 (ql A) 600 hO.1 haR2 pv_3) (cwV 0 X.2.2.2.1 gX4_fetchLost_X5_removeFirst rfl rfl rfl (by decide +kernel) ⟨Nat.le_of_ble_eq_true rfl, Nat.le_of_ble_eq_true rfl⟩) (pre_V X hw _ haR2 rfl (by decide) rfl) rfl rfl hl.1 rfl (lv_room (Nat.le_of_ble_eq_true rfl)) dX4_fetchLost_4 ⟨Nat.le_of_ble_eq_true rfl, Nat.le_of_ble_eq_true rfl⟩) 0 0 (Nat.le_of_ble_eq_true rfl) (Nat.le_of_ble_eq_true rfl) (fun rr_22 S_23 H locs hp hw hfr hnw => ?_)
  obtain ⟨hk_24, hp⟩ := hp
  have hO_25 : Ok eFL S S_23 := hO.call hk_24 (by decide +kernel)
  obtain ⟨hs_26, hn_27, hx_28⟩ := hp
  rcases rr_22 with _ | q_29
  · refine W.eq (g2 := F0 m 7 ls (.null :: [])) rfl ?_
    obtain ⟨hL_30, eS_31⟩ := hn_27 rfl
    have rw_32 : RowIs S_23 R2 (ql A) 600 := by rw [eS_31]; exact pv_3
    refine lv_astore_nN (lv' := [(1, .null), (0, .ref x)]) X.1 X.2.1 dX4_fetchLost_7 rfl hl (by decide) rfl (fun ls hl => ?_)
    refine lv_aload_nN X.1 X.2.1 dX4_fetchLost_8 rfl (lv_at hl 0 rfl) ?_
    refine lv_ifnullN (tgt := 25) X.1 X.2.1 dX4_fetchLost_9 (by decide) ?_
    refine lv_aload_n X.1 X.2.1 dX4_fetchLost_25 rfl (lv_at hl 1 rfl) ?_
    have t_33 : At S_23 x 4 := hk_24.fr.at ha_x
    have t_34 : pR S_23 402 x = some R2 := hk_24.fr.R' (by decide +kernel) ha_x hr2
    refine r_getR (g := 402) X hw t_33 rfl 2 t_34 (by decide) rfl inn_X4_fetchLost_4 (by decide) (X.2.2.2.1 (.fieldLink RX4 23 "SilkMill$Pot" "lost" "LSilkMill$Row;") (by decide +kernel)) rfl (gv_402 _ _) dX4_fetchLost_26 ?_
    have t_35 : At S_23 R2 5 := hk_24.fr.at haR2
    obtain ⟨v_36, ev_36⟩ : ∃ v, pI S_23 500 R2 = v := ⟨_, rfl⟩
    obtain ⟨q_38, n_39, h_40, h_41, h_42, h_43, h_44⟩ := gRowQ hO_25.1 t_35
    have rg_37 := gRow_500 hO_25.1 t_35 h_40 h_42; rw [ev_36] at rg_37
    have pz_45 : (pI S_23 500 R2).toInt = v_36.toInt := by rw [ev_36]
    refine r_getI (g := 500) (x := v_36) X hw t_35 rfl 0 ev_36 (by decide) rfl inn_X4_fetchLost_5 (by decide) (X.2.2.2.1 (.fieldLink RX4 73 "SilkMill$Row" "size" "I") (by decide +kernel)) rfl (gv_500 _ _) dX4_fetchLost_29 ?_
    have sz_46 := RowIs_sz rw_32
    have pz_47 : (pI S_23 500 R2).toInt = v_36.toInt := (congrArg Int32.toInt ev_36).trans rfl
    refine lv_if_ne (tgt := 40) X.1 X.2.1 dX4_fetchLost_32 (by decide) (fun c_48 => ?_) (fun c_48 => ?_)
    · have z_b_49 := trivial
      have k_50 : v_36.toInt ≠ 0 := z_ne rfl ti_0 c_48
      have px_51 : PotX S S_23 x R0 R1 R2 Gs := PotX_row (PotX_rf S x R0 R1 R2 Gs) (fun _ _ h => h) haR0 haR1 haR2 (Or.inr (Or.inr rfl)) hx_28 hk_24.fr (by decide +kernel)
      exact ret_v X hw hr hlocks (Nat.le_of_ble_eq_true rfl) (Nat.le_of_ble_eq_true rfl) ⟨hO_25, ⟨(by exfalso; have e0 := congrArg List.length hL_30; have e1 : ([] : List Nat).length = 0 := rfl; omega), px_51⟩⟩ dX4_fetchLost_40
    · have z_b_52 := trivial
      have k_53 : v_36.toInt = 0 := z_eq rfl ti_0 c_48
      refine lv_aload_n X.1 X.2.1 dX4_fetchLost_35 rfl (lv_at hl 1 rfl) ?_
      refine lv_iconst (v := 0) X.1 X.2.1 dX4_fetchLost_36 (by decide) ?_
      refine r_putI (v := 0) X hw t_33 rfl 6 406 tyX4 (by decide) rfl inn_X4_fetchLost_4 tyX4_ok nmX4 (by decide) (X.2.2.2.1 (.fieldLink RX4 91 "SilkMill$Pot" "search" "I") (by decide +kernel)) rfl (Or.inl rfl) rfl rfl (Nat.le_of_ble_eq_true rfl) (st_406 _ _) dX4_fetchLost_37 (fun H locs hw => ?_)
      obtain ⟨S_54, eS_54⟩ : ∃ T, T = sI S_23 406 x (0) := ⟨_, rfl⟩
      rw [← eS_54] at hw
      have hO_55 : Ok eFL S S_54 := hO_25.sI eS_54 (by decide +kernel) (uI_4_406 hO_25.1 t_33)
      have h_56 : pI S_54 406 x = 0 := tI_sIs eS_54
      have rw_57 : RowIs S_23 R0 (qb A) 600 := hx_28.2 _ hne.2.1 hp_1.2.2.2.2.2.2.1 _ _ pv_1
      have rw_58 : RowIs S_54 R0 (qb A) 600 := RowIs_sI rw_57 eS_54 (by decide) (by decide)
      have rw_59 : RowIs S_23 R1 (qe A) 12 := hx_28.2 _ hne.2.2 hp_1.2.2.2.2.2.2.2 _ _ pv_2
      have rw_60 : RowIs S_54 R1 (qe A) 12 := RowIs_sI rw_59 eS_54 (by decide) (by decide)
      have rw_61 : RowIs S_54 R2 (ql A) 600 := RowIs_sI rw_32 eS_54 (by decide) (by decide)
      have co_62 : CoP S_23 D (qpl A) (qsd A) := CoP_fr hk_24.fr hp_0 (by decide +kernel) pv_10
      have co_63 : CoP S_54 D (qpl A) (qsd A) := CoP_sI co_62 eS_54 (by decide) (by decide)
      have t_64 : pI S_23 405 x = (qst A) := hk_24.fr.I' (by decide +kernel) ha_x pv_4
      have t_65 : pI S_54 405 x = (qst A) := tI_sI eS_54 rfl t_64
      have sg_66 : StV S_23 D Gs (qg A) := StV_fr hO.1 haGs hk_24.fr (by decide +kernel) pv_6
      have sg_67 : StV S_54 D Gs (qg A) := StV_sI sg_66 eS_54 (by decide)
      have t_68 : pI S_23 407 x = (qdr A) := hk_24.fr.I' (by decide +kernel) ha_x pv_7
      have t_69 : pI S_54 407 x = (qdr A) := tI_sI eS_54 rfl t_68
      have t_70 : pI S_23 408 x = (qtk A) := hk_24.fr.I' (by decide +kernel) ha_x pv_8
      have t_71 : pI S_54 408 x = (qtk A) := tI_sI eS_54 rfl t_70
      have sk_72 : SkV S_23 D Ks (qsk A) := SkV_fr hO.1 hp_4 hk_24.fr (by decide +kernel) pv_9
      have t_74 : At S_23 Ks 8 := hk_24.fr.at hp_4
      have sk_73 : SkV S_54 D Ks (qsk A) := SkV_sI hO_25.1 t_74 sk_72 eS_54 (by decide)
      have px_75 : PotX S S_23 x R0 R1 R2 Gs := PotX_row (PotX_rf S x R0 R1 R2 Gs) (fun _ _ h => h) haR0 haR1 haR2 (Or.inr (Or.inr rfl)) hx_28 hk_24.fr (by decide +kernel)
      have px_76 : PotX S S_54 x R0 R1 R2 Gs := PotX_sx px_75 eS_54 (by decide)
      exact ret_v X hw hr hlocks (Nat.le_of_ble_eq_true rfl) (Nat.le_of_ble_eq_true rfl) ⟨hO_55, ⟨PotV_of (fetF_n hL_30) rw_58 rw_60 rw_61 t_65 h_56 sg_67 t_69 t_71 sk_73 co_63 (inD_fet pv_11), px_76⟩⟩ dX4_fetchLost_40
  · refine W.eq (g2 := F0 m 7 ls (.ref q_29 :: [])) rfl ?_
    obtain ⟨ha_77, t_78, hL_79, hr_80⟩ := hs_26 _ rfl
    refine lv_astore_n (lv' := [(1, .ref q_29), (0, .ref x)]) X.1 X.2.1 dX4_fetchLost_7 rfl hl (by decide) rfl (fun ls hl => ?_)
    refine lv_aload_n X.1 X.2.1 dX4_fetchLost_8 rfl (lv_at hl 0 rfl) ?_
    refine lv_ifnull X.1 X.2.1 dX4_fetchLost_9 ?_
    refine lv_aload_n X.1 X.2.1 dX4_fetchLost_12 rfl (lv_at hl 0 rfl) ?_
    refine lv_iconst (v := 1) X.1 X.2.1 dX4_fetchLost_13 (by decide) ?_
    refine r_putI (v := 1) X hw ha_77 rfl 3 3 tyX0 (by decide) rfl inn_X4_fetchLost_0 tyX0_ok nmX0 (by decide) (X.2.2.2.1 (.fieldLink RX4 53 "SilkMill$Cocoon" "stand" "I") (by decide +kernel)) rfl (Or.inl rfl) rfl rfl (Nat.le_of_ble_eq_true rfl) (st_3 _ _) dX4_fetchLost_14 (fun H locs hw => ?_)
    obtain ⟨S_81, eS_81⟩ : ∃ T, T = sI S_23 3 q_29 (1) := ⟨_, rfl⟩
    rw [← eS_81] at hw
    have hO_82 : Ok eFL S S_81 := hO_25.sI eS_81 (by decide +kernel) (uI_0_3 hO_25.1 ha_77)
    have h_83 : pI S_81 3 q_29 = 1 := tI_sIs eS_81
    refine lv_aload_n X.1 X.2.1 dX4_fetchLost_17 rfl (lv_at hl 1 rfl) ?_
    have t_84 : At S_23 x 4 := hk_24.fr.at ha_x
    have t_85 : At S_81 x 4 := tAt_sI eS_81 t_84
    have t_86 : pR S_23 400 x = some R0 := hk_24.fr.R' (by decide +kernel) ha_x hr0
    have t_87 : pR S_81 400 x = some R0 := tR_sI eS_81 t_86
    refine r_getR (g := 400) X hw t_85 rfl 0 t_87 (by decide) rfl inn_X4_fetchLost_4 (by decide) (X.2.2.2.1 (.fieldLink RX4 14 "SilkMill$Pot" "basket" "LSilkMill$Row;") (by decide +kernel)) rfl (gv_400 _ _) dX4_fetchLost_18 ?_
    refine lv_aload_n X.1 X.2.1 dX4_fetchLost_21 rfl (lv_at hl 0 rfl) ?_
    have t_88 : At S_23 R0 5 := hk_24.fr.at haR0
    have t_89 : At S_81 R0 5 := tAt_sI eS_81 t_88
    have t_90 : At S_81 q_29 0 := tAt_sI eS_81 ha_77
    have rw_91 : RowIs S_23 R0 (qb A) 600 := hx_28.2 _ hne.2.1 hp_1.2.2.2.2.2.2.1 _ _ pv_1
    have rw_92 : RowIs S_81 R0 (qb A) 600 := RowIs_sI rw_91 eS_81 (by decide) (by decide)
    refine k_v (rm := { frames := 2, cells := 0, slots := 0, locals := 96 }) (av := [.ref R0, .ref q_29]) X hw (va_runV (As := [.ref q_29]) (rest := []) (cfix X) (k_X5_addLast5 l G cy κ S_81 _ R0 q_29 (qb A) 600 hO_82.1 t_89 t_90 rw_92) (cwV 1 X.2.2.2.1 gX4_fetchLost_X5_addLast rfl rfl rfl (by decide +kernel) ⟨Nat.le_of_ble_eq_true rfl, Nat.le_of_ble_eq_true rfl⟩) (pre_V X hw _ t_89 rfl (by decide) rfl) rfl rfl hl.1 rfl (lv_room (Nat.le_of_ble_eq_true rfl)) dX4_fetchLost_22 ⟨Nat.le_of_ble_eq_true rfl, Nat.le_of_ble_eq_true rfl⟩) 0 0 (Nat.le_of_ble_eq_true rfl) (Nat.le_of_ble_eq_true rfl) (fun S_94 H locs hp hw hfr hnw => ?_)
    obtain ⟨hk_95, hp⟩ := hp
    have hO_96 : Ok eFL S S_94 := hO_82.call hk_95 (by decide +kernel)
    obtain ⟨hx_97, hr_98⟩ := hp
    refine lv_aload_n X.1 X.2.1 dX4_fetchLost_25 rfl (lv_at hl 1 rfl) ?_
    have t_99 : At S_94 x 4 := hk_95.fr.at t_85
    have t_100 : pR S_23 402 x = some R2 := hk_24.fr.R' (by decide +kernel) ha_x hr2
    have t_101 : pR S_81 402 x = some R2 := tR_sI eS_81 t_100
    have t_102 : pR S_94 402 x = some R2 := hk_95.fr.R' (by decide +kernel) t_85 t_101
    refine r_getR (g := 402) X hw t_99 rfl 2 t_102 (by decide) rfl inn_X4_fetchLost_4 (by decide) (X.2.2.2.1 (.fieldLink RX4 23 "SilkMill$Pot" "lost" "LSilkMill$Row;") (by decide +kernel)) rfl (gv_402 _ _) dX4_fetchLost_26 ?_
    have t_103 : At S_23 R2 5 := hk_24.fr.at haR2
    have t_104 : At S_81 R2 5 := tAt_sI eS_81 t_103
    have t_105 : At S_94 R2 5 := hk_95.fr.at t_104
    obtain ⟨v_106, ev_106⟩ : ∃ v, pI S_94 500 R2 = v := ⟨_, rfl⟩
    obtain ⟨q_108, n_109, h_110, h_111, h_112, h_113, h_114⟩ := gRowQ hO_96.1 t_105
    have rg_107 := gRow_500 hO_96.1 t_105 h_110 h_112; rw [ev_106] at rg_107
    have pz_115 : (pI S_94 500 R2).toInt = v_106.toInt := by rw [ev_106]
    refine r_getI (g := 500) (x := v_106) X hw t_105 rfl 0 ev_106 (by decide) rfl inn_X4_fetchLost_5 (by decide) (X.2.2.2.1 (.fieldLink RX4 73 "SilkMill$Row" "size" "I") (by decide +kernel)) rfl (gv_500 _ _) dX4_fetchLost_29 ?_
    have rw_116 : RowIs S_81 R2 t_78 600 := RowIs_sI hr_80 eS_81 (by decide) (by decide)
    have pr_118 : PotR S_23 x R0 R1 R2 Gs := PotR_fr hO.1 ha_x hk_24.fr (by decide +kernel) hp_1
    have pr_119 : PotR S_81 x R0 R1 R2 Gs := PotR_sI pr_118 eS_81
    have rw_117 : RowIs S_94 R2 t_78 600 := hx_97.2 _ (Ne.symm hne.2.1) (Ne.symm pr_119.2.2.2.2.2.2.1) _ _ rw_116
    have sz_120 := RowIs_sz rw_117
    have pz_121 : (pI S_94 500 R2).toInt = v_106.toInt := (congrArg Int32.toInt ev_106).trans rfl
    refine lv_if_ne (tgt := 40) X.1 X.2.1 dX4_fetchLost_32 (by decide) (fun c_122 => ?_) (fun c_122 => ?_)
    · have z_b_123 := trivial
      have k_124 : v_106.toInt ≠ 0 := z_ne rfl ti_0 c_122
      have rw_125 : RowIs S_23 R1 (qe A) 12 := hx_28.2 _ hne.2.2 hp_1.2.2.2.2.2.2.2 _ _ pv_2
      have rw_126 : RowIs S_81 R1 (qe A) 12 := RowIs_sI rw_125 eS_81 (by decide) (by decide)
      have rw_127 : RowIs S_94 R1 (qe A) 12 := hx_97.2 _ (Ne.symm hne.1) (Ne.symm pr_119.2.2.2.2.2.1) _ _ rw_126
      have co_128 : CoP S_23 D (qpl A) (qsd A) := CoP_fr hk_24.fr hp_0 (by decide +kernel) pv_10
      have co_129 : CoP S_81 D (qpl A) (fuI (qsd A) q_29 1) := CoP_s3 co_128 eS_81
      have dt_131 : ∀ c, D c → At S_23 c 0 := fun c h => hk_24.fr.at (hp_0 c h)
      have dt_132 : ∀ c, D c → At S_81 c 0 := fun c h => tAt_sI eS_81 (dt_131 c h)
      have co_130 : CoP S_94 D (qpl A) (fuI (qsd A) q_29 1) := CoP_fr hk_95.fr dt_132 (by decide +kernel) co_129
      have t_133 : pI S_23 405 x = (qst A) := hk_24.fr.I' (by decide +kernel) ha_x pv_4
      have t_134 : pI S_81 405 x = (qst A) := tI_sI eS_81 rfl t_133
      have t_135 : pI S_94 405 x = (qst A) := hk_95.fr.I' (by decide +kernel) t_85 t_134
      have t_136 : pI S_23 406 x = (qse A) := hk_24.fr.I' (by decide +kernel) ha_x pv_5
      have t_137 : pI S_81 406 x = (qse A) := tI_sI eS_81 rfl t_136
      have t_138 : pI S_94 406 x = (qse A) := hk_95.fr.I' (by decide +kernel) t_85 t_137
      have sg_139 : StV S_23 D Gs (qg A) := StV_fr hO.1 haGs hk_24.fr (by decide +kernel) pv_6
      have sg_140 : StV S_81 D Gs (qg A) := StV_sI sg_139 eS_81 (by decide)
      have t_142 : At S_23 Gs 29 := hk_24.fr.at haGs
      have t_143 : At S_81 Gs 29 := tAt_sI eS_81 t_142
      have sg_141 : StV S_94 D Gs (qg A) := StV_fr hO_82.1 t_143 hk_95.fr (by decide +kernel) sg_140
      have t_144 : pI S_23 407 x = (qdr A) := hk_24.fr.I' (by decide +kernel) ha_x pv_7
      have t_145 : pI S_81 407 x = (qdr A) := tI_sI eS_81 rfl t_144
      have t_146 : pI S_94 407 x = (qdr A) := hk_95.fr.I' (by decide +kernel) t_85 t_145
      have t_147 : pI S_23 408 x = (qtk A) := hk_24.fr.I' (by decide +kernel) ha_x pv_8
      have t_148 : pI S_81 408 x = (qtk A) := tI_sI eS_81 rfl t_147
      have t_149 : pI S_94 408 x = (qtk A) := hk_95.fr.I' (by decide +kernel) t_85 t_148
      have sk_150 : SkV S_23 D Ks (qsk A) := SkV_fr hO.1 hp_4 hk_24.fr (by decide +kernel) pv_9
      have t_152 : At S_23 Ks 8 := hk_24.fr.at hp_4
      have sk_151 : SkV S_81 D Ks (qsk A) := SkV_sI hO_25.1 t_152 sk_150 eS_81 (by decide)
      have t_154 : At S_81 Ks 8 := tAt_sI eS_81 t_152
      have sk_153 : SkV S_94 D Ks (qsk A) := SkV_fr hO_82.1 t_154 hk_95.fr (by decide +kernel) sk_151
      have px_155 : PotX S S_23 x R0 R1 R2 Gs := PotX_row (PotX_rf S x R0 R1 R2 Gs) (fun _ _ h => h) haR0 haR1 haR2 (Or.inr (Or.inr rfl)) hx_28 hk_24.fr (by decide +kernel)
      have px_156 : PotX S S_81 x R0 R1 R2 Gs := PotX_sI px_155 eS_81 (by decide)
      have ax_158 : ∀ a k, At S a k → At S_23 a k := fun a k h => hk_24.fr.at ((fun _ _ h => h) a k h)
      have ax_159 : ∀ a k, At S a k → At S_81 a k := fun a k h => tAt_sI eS_81 (ax_158 a k h)
      have px_157 : PotX S S_94 x R0 R1 R2 Gs := PotX_row px_156 ax_159 haR0 haR1 haR2 (Or.inl rfl) hx_97 hk_95.fr (by decide +kernel)
      exact ret_v X hw hr hlocks (Nat.le_of_ble_eq_true rfl) (Nat.le_of_ble_eq_true rfl) ⟨hO_96, ⟨PotV_of (B := (wse (wl (wb (wsd A (fuI (qsd A) q_29 1)) (capL 600 (qb A) q_29)) t_78) (qse A))) ((fetF_c hL_79).trans (by rw [if_neg (fun z => by rw [z] at sz_120; have z1 : (([] : List Nat).length : Int) = 0 := rfl; omega)])) hr_98 rw_127 rw_117 t_135 t_138 sg_141 t_146 t_149 sk_153 co_130 (inD_fet pv_11), px_157⟩⟩ dX4_fetchLost_40
    · have z_b_160 := trivial
      have k_161 : v_106.toInt = 0 := z_eq rfl ti_0 c_122
      refine lv_aload_n X.1 X.2.1 dX4_fetchLost_35 rfl (lv_at hl 1 rfl) ?_
      refine lv_iconst (v := 0) X.1 X.2.1 dX4_fetchLost_36 (by decide) ?_
      refine r_putI (v := 0) X hw t_99 rfl 6 406 tyX4 (by decide) rfl inn_X4_fetchLost_4 tyX4_ok nmX4 (by decide) (X.2.2.2.1 (.fieldLink RX4 91 "SilkMill$Pot" "search" "I") (by decide +kernel)) rfl (Or.inl rfl) rfl rfl (Nat.le_of_ble_eq_true rfl) (st_406 _ _) dX4_fetchLost_37 (fun H locs hw => ?_)
      obtain ⟨S_162, eS_162⟩ : ∃ T, T = sI S_94 406 x (0) := ⟨_, rfl⟩
      rw [← eS_162] at hw
      have hO_163 : Ok eFL S S_162 := hO_96.sI eS_162 (by decide +kernel) (uI_4_406 hO_96.1 t_99)
      have h_164 : pI S_162 406 x = 0 := tI_sIs eS_162
      have rw_165 : RowIs S_162 R0 (capL 600 (qb A) q_29) 600 := RowIs_sI hr_98 eS_162 (by decide) (by decide)
      have rw_166 : RowIs S_23 R1 (qe A) 12 := hx_28.2 _ hne.2.2 hp_1.2.2.2.2.2.2.2 _ _ pv_2
      have rw_167 : RowIs S_81 R1 (qe A) 12 := RowIs_sI rw_166 eS_81 (by decide) (by decide)
      have rw_168 : RowIs S_94 R1 (qe A) 12 := hx_97.2 _ (Ne.symm hne.1) (Ne.symm pr_119.2.2.2.2.2.1) _ _ rw_167
      have rw_169 : RowIs S_162 R1 (qe A) 12 := RowIs_sI rw_168 eS_162 (by decide) (by decide)
      have rw_170 : RowIs S_162 R2 t_78 600 := RowIs_sI rw_117 eS_162 (by decide) (by decide)
      have co_171 : CoP S_23 D (qpl A) (qsd A) := CoP_fr hk_24.fr hp_0 (by decide +kernel) pv_10
      have co_172 : CoP S_81 D (qpl A) (fuI (qsd A) q_29 1) := CoP_s3 co_171 eS_81
      have dt_174 : ∀ c, D c → At S_23 c 0 := fun c h => hk_24.fr.at (hp_0 c h)
      have dt_175 : ∀ c, D c → At S_81 c 0 := fun c h => tAt_sI eS_81 (dt_174 c h)
      have co_173 : CoP S_94 D (qpl A) (fuI (qsd A) q_29 1) := CoP_fr hk_95.fr dt_175 (by decide +kernel) co_172
      have co_176 : CoP S_162 D (qpl A) (fuI (qsd A) q_29 1) := CoP_sI co_173 eS_162 (by decide) (by decide)
      have t_177 : pI S_23 405 x = (qst A) := hk_24.fr.I' (by decide +kernel) ha_x pv_4
      have t_178 : pI S_81 405 x = (qst A) := tI_sI eS_81 rfl t_177
      have t_179 : pI S_94 405 x = (qst A) := hk_95.fr.I' (by decide +kernel) t_85 t_178
      have t_180 : pI S_162 405 x = (qst A) := tI_sI eS_162 rfl t_179
      have sg_181 : StV S_23 D Gs (qg A) := StV_fr hO.1 haGs hk_24.fr (by decide +kernel) pv_6
      have sg_182 : StV S_81 D Gs (qg A) := StV_sI sg_181 eS_81 (by decide)
      have t_184 : At S_23 Gs 29 := hk_24.fr.at haGs
      have t_185 : At S_81 Gs 29 := tAt_sI eS_81 t_184
      have sg_183 : StV S_94 D Gs (qg A) := StV_fr hO_82.1 t_185 hk_95.fr (by decide +kernel) sg_182
      have sg_186 : StV S_162 D Gs (qg A) := StV_sI sg_183 eS_162 (by decide)
      have t_187 : pI S_23 407 x = (qdr A) := hk_24.fr.I' (by decide +kernel) ha_x pv_7
      have t_188 : pI S_81 407 x = (qdr A) := tI_sI eS_81 rfl t_187
      have t_189 : pI S_94 407 x = (qdr A) := hk_95.fr.I' (by decide +kernel) t_85 t_188
      have t_190 : pI S_162 407 x = (qdr A) := tI_sI eS_162 rfl t_189
      have t_191 : pI S_23 408 x = (qtk A) := hk_24.fr.I' (by decide +kernel) ha_x pv_8
      have t_192 : pI S_81 408 x = (qtk A) := tI_sI eS_81 rfl t_191
      have t_193 : pI S_94 408 x = (qtk A) := hk_95.fr.I' (by decide +kernel) t_85 t_192
      have t_194 : pI S_162 408 x = (qtk A) := tI_sI eS_162 rfl t_193
      have sk_195 : SkV S_23 D Ks (qsk A) := SkV_fr hO.1 hp_4 hk_24.fr (by decide +kernel) pv_9
      have t_197 : At S_23 Ks 8 := hk_24.fr.at hp_4
      have sk_196 : SkV S_81 D Ks (qsk A) := SkV_sI hO_25.1 t_197 sk_195 eS_81 (by decide)
      have t_199 : At S_81 Ks 8 := tAt_sI eS_81 t_197
      have sk_198 : SkV S_94 D Ks (qsk A) := SkV_fr hO_82.1 t_199 hk_95.fr (by decide +kernel) sk_196
      have t_201 : At S_94 Ks 8 := hk_95.fr.at t_199
      have sk_200 : SkV S_162 D Ks (qsk A) := SkV_sI hO_96.1 t_201 sk_198 eS_162 (by decide)
      have px_202 : PotX S S_23 x R0 R1 R2 Gs := PotX_row (PotX_rf S x R0 R1 R2 Gs) (fun _ _ h => h) haR0 haR1 haR2 (Or.inr (Or.inr rfl)) hx_28 hk_24.fr (by decide +kernel)
      have px_203 : PotX S S_81 x R0 R1 R2 Gs := PotX_sI px_202 eS_81 (by decide)
      have ax_205 : ∀ a k, At S a k → At S_23 a k := fun a k h => hk_24.fr.at ((fun _ _ h => h) a k h)
      have ax_206 : ∀ a k, At S a k → At S_81 a k := fun a k h => tAt_sI eS_81 (ax_205 a k h)
      have px_204 : PotX S S_94 x R0 R1 R2 Gs := PotX_row px_203 ax_206 haR0 haR1 haR2 (Or.inl rfl) hx_97 hk_95.fr (by decide +kernel)
      have px_207 : PotX S S_162 x R0 R1 R2 Gs := PotX_sx px_204 eS_162 (by decide)
      exact ret_v X hw hr hlocks (Nat.le_of_ble_eq_true rfl) (Nat.le_of_ble_eq_true rfl) ⟨hO_163, ⟨PotV_of (B := (wse (wl (wb (wsd A (fuI (qsd A) q_29 1)) (capL 600 (qb A) q_29)) t_78) 0)) ((fetF_c hL_79).trans (by rw [if_pos (List.eq_nil_of_length_eq_zero (by omega))])) rw_165 rw_169 rw_170 t_180 h_164 sg_186 t_190 t_194 sk_200 co_176 (inD_fet pv_11), px_207⟩⟩ dX4_fetchLost_40
set_option maxHeartbeats 4000000 in
set_option maxRecDepth 100000 in
theorem k_X4_castFirst5 (l : Launch) (G : va_G) (cy : Nat → ClassId) (κ : Nat → Nat) (S : PS) (sz : Nat) (x : Nat) (D : Nat → Prop) (R0 : Nat) (R1 : Nat) (R2 : Nat) (Gs : Nat) (Ks : Nat) (A : Pt) (Ev : En) (hG : GX S) (ha_x : At S x 4) (hp_0 : (∀ c, D c → At S c 0)) (hp_1 : PotR S x R0 R1 R2 Gs) (hp_2 : PotV S D x R0 R1 R2 Gs Ks A) (hp_3 : EnC S D x Ks Ev) (hp_4 : At S Ks 8) : Cv l yX4_castFirst wsX4_castFirst ({ frames := 3, cells := 0, slots := 0, locals := 144 }) G cy κ S sz [.ref x] (fun (S9 : PS) => Ok eCF S S9 ∧ (PotV S9 D x R0 R1 R2 Gs Ks (casF A) ∧ PotX S S9 x R0 R1 R2 Gs)) := by
  refine ent_m (cc := cX4_castFirst) (maxL := 2) (ret := none) (by decide) rfl (Nat.le_of_ble_eq_true rfl) ?_
  intro p e s m below meth c ls X hr hlocks hin hw hl hsz
  subst hsz
  have X : Cx p c cX4_castFirst 2 s [.ref x].toArray wsX4_castFirst RX4 m G cy κ (AS S s.heap.size) := X
  have hl : lv_has ls 2 [(0, .ref x)] := hl
  have hO : Ok eCF S S := Ok.rf hG
  have hpr := hp_1
  obtain ⟨hr0, hr1, hr2, hr3, hne, hcn⟩ := hpr
  have haR0 := row_at hG ha_x (Or.inl hr0)
  have haR1 := row_at hG ha_x (Or.inr (Or.inl hr1))
  have haR2 := row_at hG ha_x (Or.inr (Or.inr hr2))
  have haGs : At S Gs 29 := by obtain ⟨c, k1, k2⟩ := gQ_4_403 hG ha_x; have h3 := hr3; rw [k1] at h3; cases h3; exact k2
  have hpv := hp_2
  obtain ⟨pv_1, pv_2, pv_3, pv_4, pv_5, pv_6, pv_7, pv_8, pv_9, pv_10, pv_11⟩ := hpv
  obtain ⟨v_12, ev_12⟩ : ∃ v, pI S 902 Gs = v := ⟨_, rfl⟩
  have rg_13 := gI_29_902 hO.1 haGs; rw [ev_12] at rg_13
  have pz_14 : (pI S 902 Gs).toInt = v_12.toInt := by rw [ev_12]
  have pz_15 : (pI S 902 Gs).toInt = v_12.toInt := (congrArg Int32.toInt ev_12).trans rfl
  obtain ⟨v_16, ev_16⟩ : ∃ v, pI S 800 Ks = v := ⟨_, rfl⟩
  have rg_17 := gI_8_800 hO.1 hp_4; rw [ev_16] at rg_17
  have pz_18 : (pI S 800 Ks).toInt = v_16.toInt := by rw [ev_16]
  have pz_19 : (pI S 800 Ks).toInt = v_16.toInt := (congrArg Int32.toInt ev_16).trans rfl
  have sl_20 := pv_6.1
  have sl_21 := pv_9.1
  refine lv_aload_n X.1 X.2.1 dX4_castFirst_0 rfl (lv_at hl 0 rfl) ?_
  refine r_getR (g := 400) X hw ha_x rfl 0 hr0 (by decide) rfl inn_X4_castFirst_4 (by decide) (X.2.2.2.1 (.fieldLink RX4 14 "SilkMill$Pot" "basket" "LSilkMill$Row;") (by decide +kernel)) rfl (gv_400 _ _) dX4_castFirst_1 ?_
  obtain ⟨v_22, ev_22⟩ : ∃ v, pI S 500 R0 = v := ⟨_, rfl⟩
  obtain ⟨q_24, n_25, h_26, h_27, h_28, h_29, h_30⟩ := gRowQ hO.1 haR0
  have rg_23 := gRow_500 hO.1 haR0 h_26 h_28; rw [ev_22] at rg_23
  have pz_31 : (pI S 500 R0).toInt = v_22.toInt := by rw [ev_22]
  refine r_getI (g := 500) (x := v_22) X hw haR0 rfl 0 ev_22 (by decide) rfl inn_X4_castFirst_5 (by decide) (X.2.2.2.1 (.fieldLink RX4 73 "SilkMill$Row" "size" "I") (by decide +kernel)) rfl (gv_500 _ _) dX4_castFirst_4 ?_
  have sz_32 := RowIs_sz pv_1
  have pz_33 : (pI S 500 R0).toInt = v_22.toInt := (congrArg Int32.toInt ev_22).trans rfl
  refine lv_if_le (tgt := 47) X.1 X.2.1 dX4_castFirst_7 (by decide) (fun c_34 => ?_) (fun c_34 => ?_)
  · have z_b_35 := trivial
    have k_36 : v_22.toInt ≤ 0 := z_le rfl ti_0 c_34
    exact ret_v X hw hr hlocks (Nat.le_of_ble_eq_true rfl) (Nat.le_of_ble_eq_true rfl) ⟨hO, ⟨PotV_of (casF_n (by first | exact Or.inl (List.eq_nil_of_length_eq_zero (by omega)) | exact Or.inr (by omega))) pv_1 pv_2 pv_3 pv_4 pv_5 pv_6 pv_7 pv_8 pv_9 pv_10 (inD_cas pv_11), (PotX_rf S x R0 R1 R2 Gs)⟩⟩ dX4_castFirst_47
  · have z_b_37 := trivial
    have k_38 : v_22.toInt > 0 := z_nle rfl ti_0 c_34
    refine lv_aload_n X.1 X.2.1 dX4_castFirst_10 rfl (lv_at hl 0 rfl) ?_
    refine r_getR (g := 401) X hw ha_x rfl 1 hr1 (by decide) rfl inn_X4_castFirst_4 (by decide) (X.2.2.2.1 (.fieldLink RX4 20 "SilkMill$Pot" "ends" "LSilkMill$Row;") (by decide +kernel)) rfl (gv_401 _ _) dX4_castFirst_11 ?_
    obtain ⟨v_39, ev_39⟩ : ∃ v, pI S 500 R1 = v := ⟨_, rfl⟩
    obtain ⟨q_41, n_42, h_43, h_44, h_45, h_46, h_47⟩ := gRowQ hO.1 haR1
    have rg_40 := gRow_500 hO.1 haR1 h_43 h_45; rw [ev_39] at rg_40
    have pz_48 : (pI S 500 R1).toInt = v_39.toInt := by rw [ev_39]
    refine r_getI (g := 500) (x := v_39) X hw haR1 rfl 0 ev_39 (by decide) rfl inn_X4_castFirst_5 (by decide) (X.2.2.2.1 (.fieldLink RX4 73 "SilkMill$Row" "size" "I") (by decide +kernel)) rfl (gv_500 _ _) dX4_castFirst_14 ?_
    refine lv_bipush (v := 12) X.1 X.2.1 dX4_castFirst_17 (by decide) ?_
    have sz_49 := RowIs_sz pv_2
    have pz_50 : (pI S 500 R1).toInt = v_39.toInt := (congrArg Int32.toInt ev_39).trans rfl
    refine lv_icmp_ge (tgt := 47) X.1 X.2.1 dX4_castFirst_19 (by decide) (fun c_51 => ?_) (fun c_51 => ?_)
    · have z_b_52 := trivial
      have k_53 : v_39.toInt ≥ 12 := z_le ti_12 rfl c_51
      exact ret_v X hw hr hlocks (Nat.le_of_ble_eq_true rfl) (Nat.le_of_ble_eq_true rfl) ⟨hO, ⟨PotV_of (casF_n (by first | exact Or.inl (List.eq_nil_of_length_eq_zero (by omega)) | exact Or.inr (by omega))) pv_1 pv_2 pv_3 pv_4 pv_5 pv_6 pv_7 pv_8 pv_9 pv_10 (inD_cas pv_11), (PotX_rf S x R0 R1 R2 Gs)⟩⟩ dX4_castFirst_47
    · have z_b_54 := trivial
      have k_55 : v_39.toInt < 12 := z_nle ti_12 rfl c_51
      refine lv_aload_n X.1 X.2.1 dX4_castFirst_22 rfl (lv_at hl 0 rfl) ?_
      refine r_getR (g := 400) X hw ha_x rfl 0 hr0 (by decide) rfl inn_X4_castFirst_4 (by decide) (X.2.2.2.1 (.fieldLink RX4 14 "SilkMill$Pot" "basket" "LSilkMill$Row;") (by decide +kernel)) rfl (gv_400 _ _) dX4_castFirst_23 ?_
      refine k_q (rm := { frames := 2, cells := 0, slots := 0, locals := 96 }) (av := [.ref R0]) X hw (va_runV (As := []) (rest := []) (cfix X) (k_X5_removeFirst5 l G cy κ S _ R0 (qb A) 600 hO.1 haR0 pv_1) (cwV 0 X.2.2.2.1 gX4_castFirst_X5_removeFirst rfl rfl rfl (by decide +kernel) ⟨Nat.le_of_ble_eq_true rfl, Nat.le_of_ble_eq_true rfl⟩) (pre_V X hw _ haR0 rfl (by decide) rfl) rfl rfl hl.1 rfl (lv_room (Nat.le_of_ble_eq_true rfl)) dX4_castFirst_26 ⟨Nat.le_of_ble_eq_true rfl, Nat.le_of_ble_eq_true rfl⟩) 0 0 (Nat.le_of_ble_eq_true rfl) (Nat.le_of_ble_eq_true rfl) (fun rr_56 S_57 H locs hp hw hfr hnw => ?_)
      obtain ⟨hk_58, hp⟩ := hp
      have hO_59 : Ok eCF S S_57 := hO.call hk_58 (by decide +kernel)
      obtain ⟨hs_60, hn_61, hx_62⟩ := hp
      rcases rr_56 with _ | q_63
      · refine W.eq (g2 := F0 m 29 ls (.null :: [])) rfl ?_
        obtain ⟨hL_64, eS_65⟩ := hn_61 rfl
        have rw_66 : RowIs S_57 R0 (qb A) 600 := by rw [eS_65]; exact pv_1
        refine lv_astore_nN (lv' := [(1, .null), (0, .ref x)]) X.1 X.2.1 dX4_castFirst_29 rfl hl (by decide) rfl (fun ls hl => ?_)
        refine lv_aload_nN X.1 X.2.1 dX4_castFirst_30 rfl (lv_at hl 0 rfl) ?_
        refine lv_ifnullN (tgt := 47) X.1 X.2.1 dX4_castFirst_31 (by decide) ?_
        have px_67 : PotX S S_57 x R0 R1 R2 Gs := PotX_row (PotX_rf S x R0 R1 R2 Gs) (fun _ _ h => h) haR0 haR1 haR2 (Or.inl rfl) hx_62 hk_58.fr (by decide +kernel)
        exact ret_v X hw hr hlocks (Nat.le_of_ble_eq_true rfl) (Nat.le_of_ble_eq_true rfl) ⟨hO_59, ⟨(by exfalso; have e0 := congrArg List.length hL_64; have e1 : ([] : List Nat).length = 0 := rfl; omega), px_67⟩⟩ dX4_castFirst_47
      · refine W.eq (g2 := F0 m 29 ls (.ref q_63 :: [])) rfl ?_
        obtain ⟨ha_68, t_69, hL_70, hr_71⟩ := hs_60 _ rfl
        refine lv_astore_n (lv' := [(1, .ref q_63), (0, .ref x)]) X.1 X.2.1 dX4_castFirst_29 rfl hl (by decide) rfl (fun ls hl => ?_)
        refine lv_aload_n X.1 X.2.1 dX4_castFirst_30 rfl (lv_at hl 0 rfl) ?_
        refine lv_ifnull X.1 X.2.1 dX4_castFirst_31 ?_
        refine lv_aload_n X.1 X.2.1 dX4_castFirst_34 rfl (lv_at hl 0 rfl) ?_
        refine lv_iconst (v := 2) X.1 X.2.1 dX4_castFirst_35 (by decide) ?_
        refine r_putI (v := 2) X hw ha_68 rfl 3 3 tyX0 (by decide) rfl inn_X4_castFirst_0 tyX0_ok nmX0 (by decide) (X.2.2.2.1 (.fieldLink RX4 53 "SilkMill$Cocoon" "stand" "I") (by decide +kernel)) rfl (Or.inl rfl) rfl rfl (Nat.le_of_ble_eq_true rfl) (st_3 _ _) dX4_castFirst_36 (fun H locs hw => ?_)
        obtain ⟨S_72, eS_72⟩ : ∃ T, T = sI S_57 3 q_63 (2) := ⟨_, rfl⟩
        rw [← eS_72] at hw
        have hO_73 : Ok eCF S S_72 := hO_59.sI eS_72 (by decide +kernel) (uI_0_3 hO_59.1 ha_68)
        have h_74 : pI S_72 3 q_63 = 2 := tI_sIs eS_72
        refine lv_aload_n X.1 X.2.1 dX4_castFirst_39 rfl (lv_at hl 1 rfl) ?_
        have t_75 : At S_57 x 4 := hk_58.fr.at ha_x
        have t_76 : At S_72 x 4 := tAt_sI eS_72 t_75
        have t_77 : pR S_57 401 x = some R1 := hk_58.fr.R' (by decide +kernel) ha_x hr1
        have t_78 : pR S_72 401 x = some R1 := tR_sI eS_72 t_77
        refine r_getR (g := 401) X hw t_76 rfl 1 t_78 (by decide) rfl inn_X4_castFirst_4 (by decide) (X.2.2.2.1 (.fieldLink RX4 20 "SilkMill$Pot" "ends" "LSilkMill$Row;") (by decide +kernel)) rfl (gv_401 _ _) dX4_castFirst_40 ?_
        refine lv_aload_n X.1 X.2.1 dX4_castFirst_43 rfl (lv_at hl 0 rfl) ?_
        have t_79 : At S_57 R1 5 := hk_58.fr.at haR1
        have t_80 : At S_72 R1 5 := tAt_sI eS_72 t_79
        have t_81 : At S_72 q_63 0 := tAt_sI eS_72 ha_68
        have rw_82 : RowIs S_57 R1 (qe A) 12 := hx_62.2 _ (Ne.symm hne.1) (Ne.symm hp_1.2.2.2.2.2.1) _ _ pv_2
        have rw_83 : RowIs S_72 R1 (qe A) 12 := RowIs_sI rw_82 eS_72 (by decide) (by decide)
        refine k_v (rm := { frames := 2, cells := 0, slots := 0, locals := 96 }) (av := [.ref R1, .ref q_63]) X hw (va_runV (As := [.ref q_63]) (rest := []) (cfix X) (k_X5_addLast5 l G cy κ S_72 _ R1 q_63 (qe A) 12 hO_73.1 t_80 t_81 rw_83) (cwV 1 X.2.2.2.1 gX4_castFirst_X5_addLast rfl rfl rfl (by decide +kernel) ⟨Nat.le_of_ble_eq_true rfl, Nat.le_of_ble_eq_true rfl⟩) (pre_V X hw _ t_80 rfl (by decide) rfl) rfl rfl hl.1 rfl (lv_room (Nat.le_of_ble_eq_true rfl)) dX4_castFirst_44 ⟨Nat.le_of_ble_eq_true rfl, Nat.le_of_ble_eq_true rfl⟩) 0 0 (Nat.le_of_ble_eq_true rfl) (Nat.le_of_ble_eq_true rfl) (fun S_85 H locs hp hw hfr hnw => ?_)
        obtain ⟨hk_86, hp⟩ := hp
        have hO_87 : Ok eCF S S_85 := hO_73.call hk_86 (by decide +kernel)
        obtain ⟨hx_88, hr_89⟩ := hp
        have rw_90 : RowIs S_72 R0 t_69 600 := RowIs_sI hr_71 eS_72 (by decide) (by decide)
        have pr_92 : PotR S_57 x R0 R1 R2 Gs := PotR_fr hO.1 ha_x hk_58.fr (by decide +kernel) hp_1
        have pr_93 : PotR S_72 x R0 R1 R2 Gs := PotR_sI pr_92 eS_72
        have rw_91 : RowIs S_85 R0 t_69 600 := hx_88.2 _ hne.1 pr_93.2.2.2.2.2.1 _ _ rw_90
        have rw_94 : RowIs S_57 R2 (ql A) 600 := hx_62.2 _ (Ne.symm hne.2.1) (Ne.symm hp_1.2.2.2.2.2.2.1) _ _ pv_3
        have rw_95 : RowIs S_72 R2 (ql A) 600 := RowIs_sI rw_94 eS_72 (by decide) (by decide)
        have rw_96 : RowIs S_85 R2 (ql A) 600 := hx_88.2 _ (Ne.symm hne.2.2) (Ne.symm pr_93.2.2.2.2.2.2.2) _ _ rw_95
        have co_97 : CoP S_57 D (qpl A) (qsd A) := CoP_fr hk_58.fr hp_0 (by decide +kernel) pv_10
        have co_98 : CoP S_72 D (qpl A) (fuI (qsd A) q_63 2) := CoP_s3 co_97 eS_72
        have dt_100 : ∀ c, D c → At S_57 c 0 := fun c h => hk_58.fr.at (hp_0 c h)
        have dt_101 : ∀ c, D c → At S_72 c 0 := fun c h => tAt_sI eS_72 (dt_100 c h)
        have co_99 : CoP S_85 D (qpl A) (fuI (qsd A) q_63 2) := CoP_fr hk_86.fr dt_101 (by decide +kernel) co_98
        have t_102 : pI S_57 405 x = (qst A) := hk_58.fr.I' (by decide +kernel) ha_x pv_4
        have t_103 : pI S_72 405 x = (qst A) := tI_sI eS_72 rfl t_102
        have t_104 : pI S_85 405 x = (qst A) := hk_86.fr.I' (by decide +kernel) t_76 t_103
        have t_105 : pI S_57 406 x = (qse A) := hk_58.fr.I' (by decide +kernel) ha_x pv_5
        have t_106 : pI S_72 406 x = (qse A) := tI_sI eS_72 rfl t_105
        have t_107 : pI S_85 406 x = (qse A) := hk_86.fr.I' (by decide +kernel) t_76 t_106
        have sg_108 : StV S_57 D Gs (qg A) := StV_fr hO.1 haGs hk_58.fr (by decide +kernel) pv_6
        have sg_109 : StV S_72 D Gs (qg A) := StV_sI sg_108 eS_72 (by decide)
        have t_111 : At S_57 Gs 29 := hk_58.fr.at haGs
        have t_112 : At S_72 Gs 29 := tAt_sI eS_72 t_111
        have sg_110 : StV S_85 D Gs (qg A) := StV_fr hO_73.1 t_112 hk_86.fr (by decide +kernel) sg_109
        have t_113 : pI S_57 407 x = (qdr A) := hk_58.fr.I' (by decide +kernel) ha_x pv_7
        have t_114 : pI S_72 407 x = (qdr A) := tI_sI eS_72 rfl t_113
        have t_115 : pI S_85 407 x = (qdr A) := hk_86.fr.I' (by decide +kernel) t_76 t_114
        have t_116 : pI S_57 408 x = (qtk A) := hk_58.fr.I' (by decide +kernel) ha_x pv_8
        have t_117 : pI S_72 408 x = (qtk A) := tI_sI eS_72 rfl t_116
        have t_118 : pI S_85 408 x = (qtk A) := hk_86.fr.I' (by decide +kernel) t_76 t_117
        have sk_119 : SkV S_57 D Ks (qsk A) := SkV_fr hO.1 hp_4 hk_58.fr (by decide +kernel) pv_9
        have t_121 : At S_57 Ks 8 := hk_58.fr.at hp_4
        have sk_120 : SkV S_72 D Ks (qsk A) := SkV_sI hO_59.1 t_121 sk_119 eS_72 (by decide)
        have t_123 : At S_72 Ks 8 := tAt_sI eS_72 t_121
        have sk_122 : SkV S_85 D Ks (qsk A) := SkV_fr hO_73.1 t_123 hk_86.fr (by decide +kernel) sk_120
        have px_124 : PotX S S_57 x R0 R1 R2 Gs := PotX_row (PotX_rf S x R0 R1 R2 Gs) (fun _ _ h => h) haR0 haR1 haR2 (Or.inl rfl) hx_62 hk_58.fr (by decide +kernel)
        have px_125 : PotX S S_72 x R0 R1 R2 Gs := PotX_sI px_124 eS_72 (by decide)
        have ax_127 : ∀ a k, At S a k → At S_57 a k := fun a k h => hk_58.fr.at ((fun _ _ h => h) a k h)
        have ax_128 : ∀ a k, At S a k → At S_72 a k := fun a k h => tAt_sI eS_72 (ax_127 a k h)
        have px_126 : PotX S S_85 x R0 R1 R2 Gs := PotX_row px_125 ax_128 haR0 haR1 haR2 (Or.inr (Or.inl rfl)) hx_88 hk_86.fr (by decide +kernel)
        exact ret_v X hw hr hlocks (Nat.le_of_ble_eq_true rfl) (Nat.le_of_ble_eq_true rfl) ⟨hO_87, ⟨PotV_of (casF_c hL_70 (by omega)) rw_91 hr_89 rw_96 t_104 t_107 sg_110 t_115 t_118 sk_122 co_99 (inD_cas pv_11), px_126⟩⟩ dX4_castFirst_47
set_option maxHeartbeats 4000000 in
set_option maxRecDepth 100000 in
theorem k_X4_dropThinnest5 (l : Launch) (G : va_G) (cy : Nat → ClassId) (κ : Nat → Nat) (S : PS) (sz : Nat) (x : Nat) (D : Nat → Prop) (R0 : Nat) (R1 : Nat) (R2 : Nat) (Gs : Nat) (Ks : Nat) (A : Pt) (Ev : En) (hG : GX S) (ha_x : At S x 4) (hp_0 : (∀ c, D c → At S c 0)) (hp_1 : PotR S x R0 R1 R2 Gs) (hp_2 : PotV S D x R0 R1 R2 Gs Ks A) (hp_3 : EnC S D x Ks Ev) (hp_4 : At S Ks 8) : Cv l yX4_dropThinnest wsX4_dropThinnest ({ frames := 4, cells := 0, slots := 0, locals := 192 }) G cy κ S sz [.ref x] (fun (S9 : PS) => Ok eCF S S9 ∧ (PotV S9 D x R0 R1 R2 Gs Ks (droF Ev A) ∧ PotX S S9 x R0 R1 R2 Gs)) := by
  refine ent_m (cc := cX4_dropThinnest) (maxL := 2) (ret := none) (by decide) rfl (Nat.le_of_ble_eq_true rfl) ?_
  intro p e s m below meth c ls X hr hlocks hin hw hl hsz
  subst hsz
  have X : Cx p c cX4_dropThinnest 2 s [.ref x].toArray wsX4_dropThinnest RX4 m G cy κ (AS S s.heap.size) := X
  have hl : lv_has ls 2 [(0, .ref x)] := hl
  have hO : Ok eCF S S := Ok.rf hG
  have hpr := hp_1
  obtain ⟨hr0, hr1, hr2, hr3, hne, hcn⟩ := hpr
  have haR0 := row_at hG ha_x (Or.inl hr0)
  have haR1 := row_at hG ha_x (Or.inr (Or.inl hr1))
  have haR2 := row_at hG ha_x (Or.inr (Or.inr hr2))
  have haGs : At S Gs 29 := by obtain ⟨c, k1, k2⟩ := gQ_4_403 hG ha_x; have h3 := hr3; rw [k1] at h3; cases h3; exact k2
  have hpv := hp_2
  obtain ⟨pv_1, pv_2, pv_3, pv_4, pv_5, pv_6, pv_7, pv_8, pv_9, pv_10, pv_11⟩ := hpv
  obtain ⟨v_12, ev_12⟩ : ∃ v, pI S 902 Gs = v := ⟨_, rfl⟩
  have rg_13 := gI_29_902 hO.1 haGs; rw [ev_12] at rg_13
  have pz_14 : (pI S 902 Gs).toInt = v_12.toInt := by rw [ev_12]
  have pz_15 : (pI S 902 Gs).toInt = v_12.toInt := (congrArg Int32.toInt ev_12).trans rfl
  obtain ⟨v_16, ev_16⟩ : ∃ v, pI S 800 Ks = v := ⟨_, rfl⟩
  have rg_17 := gI_8_800 hO.1 hp_4; rw [ev_16] at rg_17
  have pz_18 : (pI S 800 Ks).toInt = v_16.toInt := by rw [ev_16]
  have pz_19 : (pI S 800 Ks).toInt = v_16.toInt := (congrArg Int32.toInt ev_16).trans rfl
  have sl_20 := pv_6.1
  have sl_21 := pv_9.1
  refine lv_aload_n X.1 X.2.1 dX4_dropThinnest_0 rfl (lv_at hl 0 rfl) ?_
  refine r_getR (g := 401) X hw ha_x rfl 1 hr1 (by decide) rfl inn_X4_dropThinnest_4 (by decide) (X.2.2.2.1 (.fieldLink RX4 20 "SilkMill$Pot" "ends" "LSilkMill$Row;") (by decide +kernel)) rfl (gv_401 _ _) dX4_dropThinnest_1 ?_
  refine lv_aload_n X.1 X.2.1 dX4_dropThinnest_4 rfl (lv_at hl 0 rfl) ?_
  refine r_getR (g := 401) X hw ha_x rfl 1 hr1 (by decide) rfl inn_X4_dropThinnest_4 (by decide) (X.2.2.2.1 (.fieldLink RX4 20 "SilkMill$Pot" "ends" "LSilkMill$Row;") (by decide +kernel)) rfl (gv_401 _ _) dX4_dropThinnest_5 ?_
  refine k_i (rm := { frames := 3, cells := 0, slots := 0, locals := 144 }) (av := [.ref R1]) X hw (va_runV (As := []) (rest := [.ref R1]) (cfix X) (k_X5_thinnest5 l G cy κ S _ R1 (qe A) 12 hO.1 haR1 pv_2) (cwV 0 X.2.2.2.1 gX4_dropThinnest_X5_thinnest rfl rfl rfl (by decide +kernel) ⟨Nat.le_of_ble_eq_true rfl, Nat.le_of_ble_eq_true rfl⟩) (pre_V X hw _ haR1 rfl (by decide) rfl) rfl rfl hl.1 rfl (lv_room (Nat.le_of_ble_eq_true rfl)) dX4_dropThinnest_8 ⟨Nat.le_of_ble_eq_true rfl, Nat.le_of_ble_eq_true rfl⟩) 0 0 (Nat.le_of_ble_eq_true rfl) (Nat.le_of_ble_eq_true rfl) (fun rr_22 S_23 H locs hp hw hfr hnw => ?_)
  obtain ⟨e2, hp⟩ := hp
  subst e2
  obtain ⟨th_24, th_25, th_26⟩ := hp
  have th_27 := th_26.trans (thi_fv (A := A) hp_3 pv_10 pv_11)
  refine k_q (rm := { frames := 3, cells := 0, slots := 0, locals := 144 }) (av := [.ref R1, .int (rr_22)]) X hw (va_runV (As := [.int (rr_22)]) (rest := []) (cfix X) (k_X5_removeAt5 l G cy κ S _ R1 (rr_22) (rr_22.toInt) (qe A) 12 hO.1 haR1 rfl pv_2) (cwV 1 X.2.2.2.1 gX4_dropThinnest_X5_removeAt rfl rfl rfl (by decide +kernel) ⟨Nat.le_of_ble_eq_true rfl, Nat.le_of_ble_eq_true rfl⟩) (pre_V X hw _ haR1 rfl (by decide) rfl) rfl rfl hl.1 rfl (lv_room (Nat.le_of_ble_eq_true rfl)) dX4_dropThinnest_11 ⟨Nat.le_of_ble_eq_true rfl, Nat.le_of_ble_eq_true rfl⟩) 0 0 (Nat.le_of_ble_eq_true rfl) (Nat.le_of_ble_eq_true rfl) (fun rr_28 S_29 H locs hp hw hfr hnw => ?_)
  obtain ⟨hk_30, hp⟩ := hp
  have hO_31 : Ok eCF S S_29 := hO.call hk_30 (by decide +kernel)
  obtain ⟨hs_32, hn_33, hx_34⟩ := hp
  rcases rr_28 with _ | q_35
  · refine W.eq (g2 := F0 m 14 ls (.null :: [])) rfl ?_
    obtain ⟨hL_36, eS_37⟩ := hn_33 rfl
    have rw_38 : RowIs S_29 R1 (qe A) 12 := by rw [eS_37]; exact pv_2
    refine lv_astore_nN (lv' := [(1, .null), (0, .ref x)]) X.1 X.2.1 dX4_dropThinnest_14 rfl hl (by decide) rfl (fun ls hl => ?_)
    refine lv_aload_nN X.1 X.2.1 dX4_dropThinnest_15 rfl (lv_at hl 0 rfl) ?_
    refine lv_ifnullN (tgt := 32) X.1 X.2.1 dX4_dropThinnest_16 (by decide) ?_
    have rw_39 : RowIs S_29 R0 (qb A) 600 := hx_34.2 _ hne.1 hp_1.2.2.2.2.2.1 _ _ pv_1
    have rw_40 : RowIs S_29 R2 (ql A) 600 := hx_34.2 _ (Ne.symm hne.2.2) (Ne.symm hp_1.2.2.2.2.2.2.2) _ _ pv_3
    have co_41 : CoP S_29 D (qpl A) (qsd A) := CoP_fr hk_30.fr hp_0 (by decide +kernel) pv_10
    have t_42 : pI S_29 405 x = (qst A) := hk_30.fr.I' (by decide +kernel) ha_x pv_4
    have t_43 : pI S_29 406 x = (qse A) := hk_30.fr.I' (by decide +kernel) ha_x pv_5
    have sg_44 : StV S_29 D Gs (qg A) := StV_fr hO.1 haGs hk_30.fr (by decide +kernel) pv_6
    have t_45 : pI S_29 407 x = (qdr A) := hk_30.fr.I' (by decide +kernel) ha_x pv_7
    have t_46 : pI S_29 408 x = (qtk A) := hk_30.fr.I' (by decide +kernel) ha_x pv_8
    have sk_47 : SkV S_29 D Ks (qsk A) := SkV_fr hO.1 hp_4 hk_30.fr (by decide +kernel) pv_9
    have px_48 : PotX S S_29 x R0 R1 R2 Gs := PotX_row (PotX_rf S x R0 R1 R2 Gs) (fun _ _ h => h) haR0 haR1 haR2 (Or.inr (Or.inl rfl)) hx_34 hk_30.fr (by decide +kernel)
    exact ret_v X hw hr hlocks (Nat.le_of_ble_eq_true rfl) (Nat.le_of_ble_eq_true rfl) ⟨hO_31, ⟨PotV_of (droF_n (by rw [← th_27]; exact hL_36)) rw_39 rw_38 rw_40 t_42 t_43 sg_44 t_45 t_46 sk_47 co_41 (inD_dro pv_11), px_48⟩⟩ dX4_dropThinnest_32
  · refine W.eq (g2 := F0 m 14 ls (.ref q_35 :: [])) rfl ?_
    obtain ⟨ha_49, g0_50, g1_51, gi_52, hr_53⟩ := hs_32 _ rfl
    refine lv_astore_n (lv' := [(1, .ref q_35), (0, .ref x)]) X.1 X.2.1 dX4_dropThinnest_14 rfl hl (by decide) rfl (fun ls hl => ?_)
    refine lv_aload_n X.1 X.2.1 dX4_dropThinnest_15 rfl (lv_at hl 0 rfl) ?_
    refine lv_ifnull X.1 X.2.1 dX4_dropThinnest_16 ?_
    refine lv_aload_n X.1 X.2.1 dX4_dropThinnest_19 rfl (lv_at hl 0 rfl) ?_
    refine lv_iconst (v := 1) X.1 X.2.1 dX4_dropThinnest_20 (by decide) ?_
    refine r_putI (v := 1) X hw ha_49 rfl 3 3 tyX0 (by decide) rfl inn_X4_dropThinnest_0 tyX0_ok nmX0 (by decide) (X.2.2.2.1 (.fieldLink RX4 53 "SilkMill$Cocoon" "stand" "I") (by decide +kernel)) rfl (Or.inl rfl) rfl rfl (Nat.le_of_ble_eq_true rfl) (st_3 _ _) dX4_dropThinnest_21 (fun H locs hw => ?_)
    obtain ⟨S_54, eS_54⟩ : ∃ T, T = sI S_29 3 q_35 (1) := ⟨_, rfl⟩
    rw [← eS_54] at hw
    have hO_55 : Ok eCF S S_54 := hO_31.sI eS_54 (by decide +kernel) (uI_0_3 hO_31.1 ha_49)
    have h_56 : pI S_54 3 q_35 = 1 := tI_sIs eS_54
    refine lv_aload_n X.1 X.2.1 dX4_dropThinnest_24 rfl (lv_at hl 1 rfl) ?_
    have t_57 : At S_29 x 4 := hk_30.fr.at ha_x
    have t_58 : At S_54 x 4 := tAt_sI eS_54 t_57
    have t_59 : pR S_29 400 x = some R0 := hk_30.fr.R' (by decide +kernel) ha_x hr0
    have t_60 : pR S_54 400 x = some R0 := tR_sI eS_54 t_59
    refine r_getR (g := 400) X hw t_58 rfl 0 t_60 (by decide) rfl inn_X4_dropThinnest_4 (by decide) (X.2.2.2.1 (.fieldLink RX4 14 "SilkMill$Pot" "basket" "LSilkMill$Row;") (by decide +kernel)) rfl (gv_400 _ _) dX4_dropThinnest_25 ?_
    refine lv_aload_n X.1 X.2.1 dX4_dropThinnest_28 rfl (lv_at hl 0 rfl) ?_
    have t_61 : At S_29 R0 5 := hk_30.fr.at haR0
    have t_62 : At S_54 R0 5 := tAt_sI eS_54 t_61
    have t_63 : At S_54 q_35 0 := tAt_sI eS_54 ha_49
    have rw_64 : RowIs S_29 R0 (qb A) 600 := hx_34.2 _ hne.1 hp_1.2.2.2.2.2.1 _ _ pv_1
    have rw_65 : RowIs S_54 R0 (qb A) 600 := RowIs_sI rw_64 eS_54 (by decide) (by decide)
    refine k_v (rm := { frames := 2, cells := 0, slots := 0, locals := 96 }) (av := [.ref R0, .ref q_35]) X hw (va_runV (As := [.ref q_35]) (rest := []) (cfix X) (k_X5_addFirst5 l G cy κ S_54 _ R0 q_35 (qb A) 600 hO_55.1 t_62 t_63 rw_65) (cwV 1 X.2.2.2.1 gX4_dropThinnest_X5_addFirst rfl rfl rfl (by decide +kernel) ⟨Nat.le_of_ble_eq_true rfl, Nat.le_of_ble_eq_true rfl⟩) (pre_V X hw _ t_62 rfl (by decide) rfl) rfl rfl hl.1 rfl (lv_room (Nat.le_of_ble_eq_true rfl)) dX4_dropThinnest_29 ⟨Nat.le_of_ble_eq_true rfl, Nat.le_of_ble_eq_true rfl⟩) 0 0 (Nat.le_of_ble_eq_true rfl) (Nat.le_of_ble_eq_true rfl) (fun S_67 H locs hp hw hfr hnw => ?_)
    obtain ⟨hk_68, hp⟩ := hp
    have hO_69 : Ok eCF S S_67 := hO_55.call hk_68 (by decide +kernel)
    obtain ⟨hx_70, hr_71⟩ := hp
    have rw_72 : RowIs S_54 R1 ((qe A).eraseIdx (rr_22.toInt).toNat) 12 := RowIs_sI hr_53 eS_54 (by decide) (by decide)
    have pr_74 : PotR S_29 x R0 R1 R2 Gs := PotR_fr hO.1 ha_x hk_30.fr (by decide +kernel) hp_1
    have pr_75 : PotR S_54 x R0 R1 R2 Gs := PotR_sI pr_74 eS_54
    have rw_73 : RowIs S_67 R1 ((qe A).eraseIdx (rr_22.toInt).toNat) 12 := hx_70.2 _ (Ne.symm hne.1) (Ne.symm pr_75.2.2.2.2.2.1) _ _ rw_72
    have rw_76 : RowIs S_29 R2 (ql A) 600 := hx_34.2 _ (Ne.symm hne.2.2) (Ne.symm hp_1.2.2.2.2.2.2.2) _ _ pv_3
    have rw_77 : RowIs S_54 R2 (ql A) 600 := RowIs_sI rw_76 eS_54 (by decide) (by decide)
    have rw_78 : RowIs S_67 R2 (ql A) 600 := hx_70.2 _ (Ne.symm hne.2.1) (Ne.symm pr_75.2.2.2.2.2.2.1) _ _ rw_77
    have co_79 : CoP S_29 D (qpl A) (qsd A) := CoP_fr hk_30.fr hp_0 (by decide +kernel) pv_10
    have co_80 : CoP S_54 D (qpl A) (fuI (qsd A) q_35 1) := CoP_s3 co_79 eS_54
    have dt_82 : ∀ c, D c → At S_29 c 0 := fun c h => hk_30.fr.at (hp_0 c h)
    have dt_83 : ∀ c, D c → At S_54 c 0 := fun c h => tAt_sI eS_54 (dt_82 c h)
    have co_81 : CoP S_67 D (qpl A) (fuI (qsd A) q_35 1) := CoP_fr hk_68.fr dt_83 (by decide +kernel) co_80
    have t_84 : pI S_29 405 x = (qst A) := hk_30.fr.I' (by decide +kernel) ha_x pv_4
    have t_85 : pI S_54 405 x = (qst A) := tI_sI eS_54 rfl t_84
    have t_86 : pI S_67 405 x = (qst A) := hk_68.fr.I' (by decide +kernel) t_58 t_85
    have t_87 : pI S_29 406 x = (qse A) := hk_30.fr.I' (by decide +kernel) ha_x pv_5
    have t_88 : pI S_54 406 x = (qse A) := tI_sI eS_54 rfl t_87
    have t_89 : pI S_67 406 x = (qse A) := hk_68.fr.I' (by decide +kernel) t_58 t_88
    have sg_90 : StV S_29 D Gs (qg A) := StV_fr hO.1 haGs hk_30.fr (by decide +kernel) pv_6
    have sg_91 : StV S_54 D Gs (qg A) := StV_sI sg_90 eS_54 (by decide)
    have t_93 : At S_29 Gs 29 := hk_30.fr.at haGs
    have t_94 : At S_54 Gs 29 := tAt_sI eS_54 t_93
    have sg_92 : StV S_67 D Gs (qg A) := StV_fr hO_55.1 t_94 hk_68.fr (by decide +kernel) sg_91
    have t_95 : pI S_29 407 x = (qdr A) := hk_30.fr.I' (by decide +kernel) ha_x pv_7
    have t_96 : pI S_54 407 x = (qdr A) := tI_sI eS_54 rfl t_95
    have t_97 : pI S_67 407 x = (qdr A) := hk_68.fr.I' (by decide +kernel) t_58 t_96
    have t_98 : pI S_29 408 x = (qtk A) := hk_30.fr.I' (by decide +kernel) ha_x pv_8
    have t_99 : pI S_54 408 x = (qtk A) := tI_sI eS_54 rfl t_98
    have t_100 : pI S_67 408 x = (qtk A) := hk_68.fr.I' (by decide +kernel) t_58 t_99
    have sk_101 : SkV S_29 D Ks (qsk A) := SkV_fr hO.1 hp_4 hk_30.fr (by decide +kernel) pv_9
    have t_103 : At S_29 Ks 8 := hk_30.fr.at hp_4
    have sk_102 : SkV S_54 D Ks (qsk A) := SkV_sI hO_31.1 t_103 sk_101 eS_54 (by decide)
    have t_105 : At S_54 Ks 8 := tAt_sI eS_54 t_103
    have sk_104 : SkV S_67 D Ks (qsk A) := SkV_fr hO_55.1 t_105 hk_68.fr (by decide +kernel) sk_102
    have px_106 : PotX S S_29 x R0 R1 R2 Gs := PotX_row (PotX_rf S x R0 R1 R2 Gs) (fun _ _ h => h) haR0 haR1 haR2 (Or.inr (Or.inl rfl)) hx_34 hk_30.fr (by decide +kernel)
    have px_107 : PotX S S_54 x R0 R1 R2 Gs := PotX_sI px_106 eS_54 (by decide)
    have ax_109 : ∀ a k, At S a k → At S_29 a k := fun a k h => hk_30.fr.at ((fun _ _ h => h) a k h)
    have ax_110 : ∀ a k, At S a k → At S_54 a k := fun a k h => tAt_sI eS_54 (ax_109 a k h)
    have px_108 : PotX S S_67 x R0 R1 R2 Gs := PotX_row px_107 ax_110 haR0 haR1 haR2 (Or.inl rfl) hx_70 hk_68.fr (by decide +kernel)
    exact ret_v X hw hr hlocks (Nat.le_of_ble_eq_true rfl) (Nat.le_of_ble_eq_true rfl) ⟨hO_69, ⟨PotV_of (B := (wb (we (wsd A (fuI (qsd A) q_35 1)) ((qe A).eraseIdx (rr_22.toInt).toNat)) (capF 600 (qb A) q_35))) ((droF_c (E := Ev) (by rw [← th_27]; exact g0_50) (by rw [← th_27]; exact gi_52)).trans (by rw [← th_27])) hr_71 rw_73 rw_78 t_86 t_89 sg_92 t_97 t_100 sk_104 co_81 (inD_dro pv_11), px_108⟩⟩ dX4_dropThinnest_32
set_option maxHeartbeats 4000000 in
set_option maxRecDepth 100000 in
theorem k_X4_searchLost5 (l : Launch) (G : va_G) (cy : Nat → ClassId) (κ : Nat → Nat) (S : PS) (sz : Nat) (x : Nat) (D : Nat → Prop) (R0 : Nat) (R1 : Nat) (R2 : Nat) (Gs : Nat) (Ks : Nat) (A : Pt) (Ev : En) (hG : GX S) (ha_x : At S x 4) (hp_0 : (∀ c, D c → At S c 0)) (hp_1 : PotR S x R0 R1 R2 Gs) (hp_2 : PotV S D x R0 R1 R2 Gs Ks A) (hp_3 : EnC S D x Ks Ev) (hp_4 : At S Ks 8) : Cv l yX4_searchLost wsX4_searchLost ({ frames := 4, cells := 0, slots := 0, locals := 192 }) G cy κ S sz [.ref x] (fun (S9 : PS) => Ok eFL S S9 ∧ (PotV S9 D x R0 R1 R2 Gs Ks (seaF Ev A) ∧ PotX S S9 x R0 R1 R2 Gs)) := by
  refine ent_m (cc := cX4_searchLost) (maxL := 1) (ret := none) (by decide) rfl (Nat.le_of_ble_eq_true rfl) ?_
  intro p e s m below meth c ls X hr hlocks hin hw hl hsz
  subst hsz
  have X : Cx p c cX4_searchLost 1 s [.ref x].toArray wsX4_searchLost RX4 m G cy κ (AS S s.heap.size) := X
  have hl : lv_has ls 1 [(0, .ref x)] := hl
  have hO : Ok eFL S S := Ok.rf hG
  have hpr := hp_1
  obtain ⟨hr0, hr1, hr2, hr3, hne, hcn⟩ := hpr
  have haR0 := row_at hG ha_x (Or.inl hr0)
  have haR1 := row_at hG ha_x (Or.inr (Or.inl hr1))
  have haR2 := row_at hG ha_x (Or.inr (Or.inr hr2))
  have haGs : At S Gs 29 := by obtain ⟨c, k1, k2⟩ := gQ_4_403 hG ha_x; have h3 := hr3; rw [k1] at h3; cases h3; exact k2
  have hpv := hp_2
  obtain ⟨pv_1, pv_2, pv_3, pv_4, pv_5, pv_6, pv_7, pv_8, pv_9, pv_10, pv_11⟩ := hpv
  obtain ⟨v_12, ev_12⟩ : ∃ v, pI S 902 Gs = v := ⟨_, rfl⟩
  have rg_13 := gI_29_902 hO.1 haGs; rw [ev_12] at rg_13
  have pz_14 : (pI S 902 Gs).toInt = v_12.toInt := by rw [ev_12]
  have pz_15 : (pI S 902 Gs).toInt = v_12.toInt := (congrArg Int32.toInt ev_12).trans rfl
  obtain ⟨v_16, ev_16⟩ : ∃ v, pI S 800 Ks = v := ⟨_, rfl⟩
  have rg_17 := gI_8_800 hO.1 hp_4; rw [ev_16] at rg_17
  have pz_18 : (pI S 800 Ks).toInt = v_16.toInt := by rw [ev_16]
  have pz_19 : (pI S 800 Ks).toInt = v_16.toInt := (congrArg Int32.toInt ev_16).trans rfl
  have sl_20 := pv_6.1
  have sl_21 := pv_9.1
  refine lv_aload_n X.1 X.2.1 dX4_searchLost_0 rfl (lv_at hl 0 rfl) ?_
  refine r_getR (g := 402) X hw ha_x rfl 2 hr2 (by decide) rfl inn_X4_searchLost_4 (by decide) (X.2.2.2.1 (.fieldLink RX4 23 "SilkMill$Pot" "lost" "LSilkMill$Row;") (by decide +kernel)) rfl (gv_402 _ _) dX4_searchLost_1 ?_
  obtain ⟨v_22, ev_22⟩ : ∃ v, pI S 500 R2 = v := ⟨_, rfl⟩
  obtain ⟨q_24, n_25, h_26, h_27, h_28, h_29, h_30⟩ := gRowQ hO.1 haR2
  have rg_23 := gRow_500 hO.1 haR2 h_26 h_28; rw [ev_22] at rg_23
  have pz_31 : (pI S 500 R2).toInt = v_22.toInt := by rw [ev_22]
  refine r_getI (g := 500) (x := v_22) X hw haR2 rfl 0 ev_22 (by decide) rfl inn_X4_searchLost_5 (by decide) (X.2.2.2.1 (.fieldLink RX4 73 "SilkMill$Row" "size" "I") (by decide +kernel)) rfl (gv_500 _ _) dX4_searchLost_4 ?_
  have sz_32 := RowIs_sz pv_3
  have pz_33 : (pI S 500 R2).toInt = v_22.toInt := (congrArg Int32.toInt ev_22).trans rfl
  refine lv_if_ne (tgt := 11) X.1 X.2.1 dX4_searchLost_7 (by decide) (fun c_34 => ?_) (fun c_34 => ?_)
  · have z_b_35 := trivial
    have k_36 : v_22.toInt ≠ 0 := z_ne rfl ti_0 c_34
    refine lv_aload_n X.1 X.2.1 dX4_searchLost_11 rfl (lv_at hl 0 rfl) ?_
    refine lv_dup X.1 X.2.1 dX4_searchLost_12 rfl ?_
    refine r_getI (g := 406) (x := (qse A)) X hw ha_x rfl 6 pv_5 (by decide) rfl inn_X4_searchLost_4 (by decide) (X.2.2.2.1 (.fieldLink RX4 91 "SilkMill$Pot" "search" "I") (by decide +kernel)) rfl (gv_406 _ _) dX4_searchLost_13 ?_
    refine lv_iconst (v := 1) X.1 X.2.1 dX4_searchLost_16 (by decide) ?_
    refine lv_iadd X.1 X.2.1 dX4_searchLost_17 ?_
    refine lv_topi (fun v_37 ev_37 => ?_)
    have rg_38 := And.intro (z_lo v_37) (z_hi v_37)
    refine r_putI (v := v_37) X hw ha_x rfl 6 406 tyX4 (by decide) rfl inn_X4_searchLost_4 tyX4_ok nmX4 (by decide) (X.2.2.2.1 (.fieldLink RX4 91 "SilkMill$Pot" "search" "I") (by decide +kernel)) rfl (Or.inl rfl) rfl rfl (Nat.le_of_ble_eq_true rfl) (st_406 _ _) dX4_searchLost_18 (fun H locs hw => ?_)
    obtain ⟨S_39, eS_39⟩ : ∃ T, T = sI S 406 x (v_37) := ⟨_, rfl⟩
    rw [← eS_39] at hw
    have hO_40 : Ok eFL S S_39 := hO.sI eS_39 (by decide +kernel) (uI_4_406 hO.1 ha_x)
    have h_41 : pI S_39 406 x = v_37 := tI_sIs eS_39
    refine lv_aload_n X.1 X.2.1 dX4_searchLost_21 rfl (lv_at hl 0 rfl) ?_
    have t_42 : At S_39 x 4 := tAt_sI eS_39 ha_x
    refine r_getI (g := 406) (x := v_37) X hw t_42 rfl 6 h_41 (by decide) rfl inn_X4_searchLost_4 (by decide) (X.2.2.2.1 (.fieldLink RX4 91 "SilkMill$Pot" "search" "I") (by decide +kernel)) rfl (gv_406 _ _) dX4_searchLost_22 ?_
    refine lv_aload_n X.1 X.2.1 dX4_searchLost_25 rfl (lv_at hl 0 rfl) ?_
    obtain ⟨v_43, ev_43⟩ : ∃ v, pI S_39 411 x = v := ⟨_, rfl⟩
    have rg_45 := And.intro (z_lo v_43) (z_hi v_43)
    have pz_46 : (pI S_39 411 x).toInt = v_43.toInt := by rw [ev_43]
    refine r_getI (g := 411) (x := v_43) X hw t_42 rfl 11 ev_43 (by decide) rfl inn_X4_searchLost_4 (by decide) (X.2.2.2.1 (.fieldLink RX4 47 "SilkMill$Pot" "find" "I") (by decide +kernel)) rfl (gv_411 _ _) dX4_searchLost_26 ?_
    have en_48 : EnC S_39 D x Ks Ev := EnC_sI hp_3 eS_39 (by decide)
    refine lv_icmp_lt (tgt := 41) X.1 X.2.1 dX4_searchLost_29 (by decide) (fun c_49 => ?_) (fun c_49 => ?_)
    · have z_b_50 := trivial
      have k_51 : v_37.toInt < v_43.toInt := z_lt rfl rfl c_49
      have rw_52 : RowIs S_39 R0 (qb A) 600 := RowIs_sI pv_1 eS_39 (by decide) (by decide)
      have rw_53 : RowIs S_39 R1 (qe A) 12 := RowIs_sI pv_2 eS_39 (by decide) (by decide)
      have rw_54 : RowIs S_39 R2 (ql A) 600 := RowIs_sI pv_3 eS_39 (by decide) (by decide)
      have co_55 : CoP S_39 D (qpl A) (qsd A) := CoP_sI pv_10 eS_39 (by decide) (by decide)
      have t_56 : pI S_39 405 x = (qst A) := tI_sI eS_39 rfl pv_4
      have sg_57 : StV S_39 D Gs (qg A) := StV_sI pv_6 eS_39 (by decide)
      have t_58 : pI S_39 407 x = (qdr A) := tI_sI eS_39 rfl pv_7
      have t_59 : pI S_39 408 x = (qtk A) := tI_sI eS_39 rfl pv_8
      have sk_60 : SkV S_39 D Ks (qsk A) := SkV_sI hO.1 hp_4 pv_9 eS_39 (by decide)
      have px_61 : PotX S S_39 x R0 R1 R2 Gs := PotX_sx (PotX_rf S x R0 R1 R2 Gs) eS_39 (by decide)
      exact ret_v X hw hr hlocks (Nat.le_of_ble_eq_true rfl) (Nat.le_of_ble_eq_true rfl) ⟨hO_40, ⟨PotV_of (seaF_w (fun z => by have e0 := congrArg List.length z; have e1 : ([] : List Nat).length = 0 := rfl; omega) (by rw [← ev_37, en_48.2.2.2.2, ev_43]; omega)) rw_52 rw_53 rw_54 t_56 (h_41.trans ev_37) sg_57 t_58 t_59 sk_60 co_55 (inD_sea pv_11), px_61⟩⟩ dX4_searchLost_41
    · have z_b_62 := trivial
      have k_63 : v_37.toInt ≥ v_43.toInt := z_nlt rfl rfl c_49
      refine lv_aload_n X.1 X.2.1 dX4_searchLost_32 rfl (lv_at hl 0 rfl) ?_
      refine lv_iconst (v := 0) X.1 X.2.1 dX4_searchLost_33 (by decide) ?_
      refine r_putI (v := 0) X hw t_42 rfl 6 406 tyX4 (by decide) rfl inn_X4_searchLost_4 tyX4_ok nmX4 (by decide) (X.2.2.2.1 (.fieldLink RX4 91 "SilkMill$Pot" "search" "I") (by decide +kernel)) rfl (Or.inl rfl) rfl rfl (Nat.le_of_ble_eq_true rfl) (st_406 _ _) dX4_searchLost_34 (fun H locs hw => ?_)
      obtain ⟨S_64, eS_64⟩ : ∃ T, T = sI S_39 406 x (0) := ⟨_, rfl⟩
      rw [← eS_64] at hw
      have hO_65 : Ok eFL S S_64 := hO_40.sI eS_64 (by decide +kernel) (uI_4_406 hO_40.1 t_42)
      have h_66 : pI S_64 406 x = 0 := tI_sIs eS_64
      refine lv_aload_n X.1 X.2.1 dX4_searchLost_37 rfl (lv_at hl 0 rfl) ?_
      have t_67 : At S_64 x 4 := tAt_sI eS_64 t_42
      have dt_68 : ∀ c, D c → At S_39 c 0 := fun c h => tAt_sI eS_39 (hp_0 c h)
      have dt_69 : ∀ c, D c → At S_64 c 0 := fun c h => tAt_sI eS_64 (dt_68 c h)
      have pr_70 : PotR S_39 x R0 R1 R2 Gs := PotR_sI hp_1 eS_39
      have pr_71 : PotR S_64 x R0 R1 R2 Gs := PotR_sI pr_70 eS_64
      have rw_72 : RowIs S_39 R0 (qb A) 600 := RowIs_sI pv_1 eS_39 (by decide) (by decide)
      have rw_73 : RowIs S_64 R0 (qb A) 600 := RowIs_sI rw_72 eS_64 (by decide) (by decide)
      have rw_74 : RowIs S_39 R1 (qe A) 12 := RowIs_sI pv_2 eS_39 (by decide) (by decide)
      have rw_75 : RowIs S_64 R1 (qe A) 12 := RowIs_sI rw_74 eS_64 (by decide) (by decide)
      have rw_76 : RowIs S_39 R2 (ql A) 600 := RowIs_sI pv_3 eS_39 (by decide) (by decide)
      have rw_77 : RowIs S_64 R2 (ql A) 600 := RowIs_sI rw_76 eS_64 (by decide) (by decide)
      have co_78 : CoP S_39 D (qpl A) (qsd A) := CoP_sI pv_10 eS_39 (by decide) (by decide)
      have co_79 : CoP S_64 D (qpl A) (qsd A) := CoP_sI co_78 eS_64 (by decide) (by decide)
      have t_80 : pI S_39 405 x = (qst A) := tI_sI eS_39 rfl pv_4
      have t_81 : pI S_64 405 x = (qst A) := tI_sI eS_64 rfl t_80
      have sg_82 : StV S_39 D Gs (qg A) := StV_sI pv_6 eS_39 (by decide)
      have sg_83 : StV S_64 D Gs (qg A) := StV_sI sg_82 eS_64 (by decide)
      have t_84 : pI S_39 407 x = (qdr A) := tI_sI eS_39 rfl pv_7
      have t_85 : pI S_64 407 x = (qdr A) := tI_sI eS_64 rfl t_84
      have t_86 : pI S_39 408 x = (qtk A) := tI_sI eS_39 rfl pv_8
      have t_87 : pI S_64 408 x = (qtk A) := tI_sI eS_64 rfl t_86
      have sk_88 : SkV S_39 D Ks (qsk A) := SkV_sI hO.1 hp_4 pv_9 eS_39 (by decide)
      have t_90 : At S_39 Ks 8 := tAt_sI eS_39 hp_4
      have sk_89 : SkV S_64 D Ks (qsk A) := SkV_sI hO_40.1 t_90 sk_88 eS_64 (by decide)
      have en_91 : EnC S_64 D x Ks Ev := EnC_sI en_48 eS_64 (by decide)
      have t_92 : At S_64 Ks 8 := tAt_sI eS_64 t_90
      refine k_v (rm := { frames := 3, cells := 0, slots := 0, locals := 144 }) (av := [.ref x]) X hw (va_runV (As := []) (rest := []) (cfix X) (k_X4_fetchLost5 l G cy κ S_64 _ x D R0 R1 R2 Gs Ks (wse A 0) Ev hO_65.1 t_67 dt_69 pr_71 (PotV_of (rfl : (wse A 0) = (wse A 0)) rw_73 rw_75 rw_77 t_81 h_66 sg_83 t_85 t_87 sk_89 co_79 pv_11) en_91 t_92) (cwV 0 X.2.2.2.1 gX4_searchLost_X4_fetchLost rfl rfl rfl (by decide +kernel) ⟨Nat.le_of_ble_eq_true rfl, Nat.le_of_ble_eq_true rfl⟩) (pre_V X hw _ t_67 rfl (by decide) rfl) rfl rfl hl.1 rfl (lv_room (Nat.le_of_ble_eq_true rfl)) dX4_searchLost_38 ⟨Nat.le_of_ble_eq_true rfl, Nat.le_of_ble_eq_true rfl⟩) 0 0 (Nat.le_of_ble_eq_true rfl) (Nat.le_of_ble_eq_true rfl) (fun S_94 H locs hp hw hfr hnw => ?_)
      obtain ⟨hk_95, hp⟩ := hp
      have hO_96 : Ok eFL S S_94 := hO_65.call hk_95 (by decide +kernel)
      obtain ⟨pv_97, hx_98⟩ := hp
      obtain ⟨pv_99, pv_100, pv_101, pv_102, pv_103, pv_104, pv_105, pv_106, pv_107, pv_108, pv_109⟩ := pv_97
      have t_110 : pI S_39 902 Gs = v_12 := tI_sI eS_39 rfl ev_12
      have t_111 : pI S_64 902 Gs = v_12 := tI_sI eS_64 rfl t_110
      have t_113 : At S_39 Gs 29 := tAt_sI eS_39 haGs
      have t_114 : At S_64 Gs 29 := tAt_sI eS_64 t_113
      have t_112 : pI S_94 902 Gs = v_12 := hk_95.fr.I' (by decide +kernel) t_114 t_111
      have pz_115 : (pI S_94 902 Gs).toInt = v_12.toInt := (congrArg Int32.toInt t_112).trans rfl
      have t_116 : pI S_39 800 Ks = v_16 := tI_sI eS_39 rfl ev_16
      have t_117 : pI S_64 800 Ks = v_16 := tI_sI eS_64 rfl t_116
      have t_118 : pI S_94 800 Ks = v_16 := hk_95.fr.I' (by decide +kernel) t_92 t_117
      have pz_119 : (pI S_94 800 Ks).toInt = v_16.toInt := (congrArg Int32.toInt t_118).trans rfl
      have sl_120 := pv_104.1
      have sl_121 := pv_107.1
      have px_122 : PotX S S_39 x R0 R1 R2 Gs := PotX_sx (PotX_rf S x R0 R1 R2 Gs) eS_39 (by decide)
      have px_123 : PotX S S_64 x R0 R1 R2 Gs := PotX_sx px_122 eS_64 (by decide)
      have ax_125 : ∀ a k, At S a k → At S_39 a k := fun a k h => tAt_sI eS_39 ((fun _ _ h => h) a k h)
      have ax_126 : ∀ a k, At S a k → At S_64 a k := fun a k h => tAt_sI eS_64 (ax_125 a k h)
      have px_124 : PotX S S_94 x R0 R1 R2 Gs := PotX_tr px_123 ax_126 haR0 haR1 haR2 hx_98
      exact ret_v X hw hr hlocks (Nat.le_of_ble_eq_true rfl) (Nat.le_of_ble_eq_true rfl) ⟨hO_96, ⟨PotV_of (seaF_f (fun z => by have e0 := congrArg List.length z; have e1 : ([] : List Nat).length = 0 := rfl; omega) (by rw [← ev_37, en_48.2.2.2.2, ev_43]; omega)) pv_99 pv_100 pv_101 pv_102 pv_103 pv_104 pv_105 pv_106 pv_107 pv_108 (inD_sea pv_11), px_124⟩⟩ dX4_searchLost_41
  · have z_b_127 := trivial
    have k_128 : v_22.toInt = 0 := z_eq rfl ti_0 c_34
    exact ret_v X hw hr hlocks (Nat.le_of_ble_eq_true rfl) (Nat.le_of_ble_eq_true rfl) ⟨hO, ⟨PotV_of (seaF_n (List.eq_nil_of_length_eq_zero (by omega))) pv_1 pv_2 pv_3 pv_4 pv_5 pv_6 pv_7 pv_8 pv_9 pv_10 (inD_sea pv_11), (PotX_rf S x R0 R1 R2 Gs)⟩⟩ dX4_searchLost_10
set_option maxHeartbeats 4000000 in
set_option maxRecDepth 100000 in
theorem k_X4_findFirst5 (l : Launch) (G : va_G) (cy : Nat → ClassId) (κ : Nat → Nat) (S : PS) (sz : Nat) (x : Nat) (D : Nat → Prop) (R0 : Nat) (R1 : Nat) (R2 : Nat) (Gs : Nat) (Ks : Nat) (A : Pt) (Ev : En) (hG : GX S) (ha_x : At S x 4) (hp_0 : (∀ c, D c → At S c 0)) (hp_1 : PotR S x R0 R1 R2 Gs) (hp_2 : PotV S D x R0 R1 R2 Gs Ks A) (hp_3 : EnC S D x Ks Ev) (hp_4 : At S Ks 8) : Cv l yX4_findFirst wsX4_findFirst ({ frames := 4, cells := 0, slots := 0, locals := 192 }) G cy κ S sz [.ref x] (fun (S9 : PS) => Ok eFI S S9 ∧ (PotV S9 D x R0 R1 R2 Gs Ks (fndF A) ∧ PotX S S9 x R0 R1 R2 Gs)) := by
  refine ent_m (cc := cX4_findFirst) (maxL := 1) (ret := none) (by decide) rfl (Nat.le_of_ble_eq_true rfl) ?_
  intro p e s m below meth c ls X hr hlocks hin hw hl hsz
  subst hsz
  have X : Cx p c cX4_findFirst 1 s [.ref x].toArray wsX4_findFirst RX4 m G cy κ (AS S s.heap.size) := X
  have hl : lv_has ls 1 [(0, .ref x)] := hl
  have hO : Ok eFI S S := Ok.rf hG
  have hpr := hp_1
  obtain ⟨hr0, hr1, hr2, hr3, hne, hcn⟩ := hpr
  have haR0 := row_at hG ha_x (Or.inl hr0)
  have haR1 := row_at hG ha_x (Or.inr (Or.inl hr1))
  have haR2 := row_at hG ha_x (Or.inr (Or.inr hr2))
  have haGs : At S Gs 29 := by obtain ⟨c, k1, k2⟩ := gQ_4_403 hG ha_x; have h3 := hr3; rw [k1] at h3; cases h3; exact k2
  have hpv := hp_2
  obtain ⟨pv_1, pv_2, pv_3, pv_4, pv_5, pv_6, pv_7, pv_8, pv_9, pv_10, pv_11⟩ := hpv
  obtain ⟨v_12, ev_12⟩ : ∃ v, pI S 902 Gs = v := ⟨_, rfl⟩
  have rg_13 := gI_29_902 hO.1 haGs; rw [ev_12] at rg_13
  have pz_14 : (pI S 902 Gs).toInt = v_12.toInt := by rw [ev_12]
  have pz_15 : (pI S 902 Gs).toInt = v_12.toInt := (congrArg Int32.toInt ev_12).trans rfl
  obtain ⟨v_16, ev_16⟩ : ∃ v, pI S 800 Ks = v := ⟨_, rfl⟩
  have rg_17 := gI_8_800 hO.1 hp_4; rw [ev_16] at rg_17
  have pz_18 : (pI S 800 Ks).toInt = v_16.toInt := by rw [ev_16]
  have pz_19 : (pI S 800 Ks).toInt = v_16.toInt := (congrArg Int32.toInt ev_16).trans rfl
  have sl_20 := pv_6.1
  have sl_21 := pv_9.1
  refine lv_aload_n X.1 X.2.1 dX4_findFirst_0 rfl (lv_at hl 0 rfl) ?_
  refine r_getR (g := 402) X hw ha_x rfl 2 hr2 (by decide) rfl inn_X4_findFirst_4 (by decide) (X.2.2.2.1 (.fieldLink RX4 23 "SilkMill$Pot" "lost" "LSilkMill$Row;") (by decide +kernel)) rfl (gv_402 _ _) dX4_findFirst_1 ?_
  obtain ⟨v_22, ev_22⟩ : ∃ v, pI S 500 R2 = v := ⟨_, rfl⟩
  obtain ⟨q_24, n_25, h_26, h_27, h_28, h_29, h_30⟩ := gRowQ hO.1 haR2
  have rg_23 := gRow_500 hO.1 haR2 h_26 h_28; rw [ev_22] at rg_23
  have pz_31 : (pI S 500 R2).toInt = v_22.toInt := by rw [ev_22]
  refine r_getI (g := 500) (x := v_22) X hw haR2 rfl 0 ev_22 (by decide) rfl inn_X4_findFirst_5 (by decide) (X.2.2.2.1 (.fieldLink RX4 73 "SilkMill$Row" "size" "I") (by decide +kernel)) rfl (gv_500 _ _) dX4_findFirst_4 ?_
  have sz_32 := RowIs_sz pv_3
  have pz_33 : (pI S 500 R2).toInt = v_22.toInt := (congrArg Int32.toInt ev_22).trans rfl
  refine lv_if_le (tgt := 24) X.1 X.2.1 dX4_findFirst_7 (by decide) (fun c_34 => ?_) (fun c_34 => ?_)
  · have z_b_35 := trivial
    have k_36 : v_22.toInt ≤ 0 := z_le rfl ti_0 c_34
    exact ret_v X hw hr hlocks (Nat.le_of_ble_eq_true rfl) (Nat.le_of_ble_eq_true rfl) ⟨hO, ⟨PotV_of (fndF_n (List.eq_nil_of_length_eq_zero (by omega))) pv_1 pv_2 pv_3 pv_4 pv_5 pv_6 pv_7 pv_8 pv_9 pv_10 (inD_fnd pv_11), (PotX_rf S x R0 R1 R2 Gs)⟩⟩ dX4_findFirst_24
  · have z_b_37 := trivial
    have k_38 : v_22.toInt > 0 := z_nle rfl ti_0 c_34
    refine lv_aload_n X.1 X.2.1 dX4_findFirst_10 rfl (lv_at hl 0 rfl) ?_
    refine k_v (rm := { frames := 3, cells := 0, slots := 0, locals := 144 }) (av := [.ref x]) X hw (va_runV (As := []) (rest := []) (cfix X) (k_X4_fetchLost5 l G cy κ S _ x D R0 R1 R2 Gs Ks A Ev hO.1 ha_x hp_0 hp_1 (PotV_of (rfl : A = A) pv_1 pv_2 pv_3 pv_4 pv_5 pv_6 pv_7 pv_8 pv_9 pv_10 pv_11) hp_3 hp_4) (cwV 0 X.2.2.2.1 gX4_findFirst_X4_fetchLost rfl rfl rfl (by decide +kernel) ⟨Nat.le_of_ble_eq_true rfl, Nat.le_of_ble_eq_true rfl⟩) (pre_V X hw _ ha_x rfl (by decide) rfl) rfl rfl hl.1 rfl (lv_room (Nat.le_of_ble_eq_true rfl)) dX4_findFirst_11 ⟨Nat.le_of_ble_eq_true rfl, Nat.le_of_ble_eq_true rfl⟩) 0 0 (Nat.le_of_ble_eq_true rfl) (Nat.le_of_ble_eq_true rfl) (fun S_40 H locs hp hw hfr hnw => ?_)
    obtain ⟨hk_41, hp⟩ := hp
    have hO_42 : Ok eFI S S_40 := hO.call hk_41 (by decide +kernel)
    obtain ⟨pv_43, hx_44⟩ := hp
    obtain ⟨pv_45, pv_46, pv_47, pv_48, pv_49, pv_50, pv_51, pv_52, pv_53, pv_54, pv_55⟩ := pv_43
    have t_56 : pI S_40 902 Gs = v_12 := hk_41.fr.I' (by decide +kernel) haGs ev_12
    have pz_57 : (pI S_40 902 Gs).toInt = v_12.toInt := (congrArg Int32.toInt t_56).trans rfl
    have t_58 : pI S_40 800 Ks = v_16 := hk_41.fr.I' (by decide +kernel) hp_4 ev_16
    have pz_59 : (pI S_40 800 Ks).toInt = v_16.toInt := (congrArg Int32.toInt t_58).trans rfl
    have sl_60 := pv_50.1
    have sl_61 := pv_53.1
    refine lv_aload_n X.1 X.2.1 dX4_findFirst_14 rfl (lv_at hl 0 rfl) ?_
    refine lv_dup X.1 X.2.1 dX4_findFirst_15 rfl ?_
    have t_62 : At S_40 x 4 := hk_41.fr.at ha_x
    refine r_getI (g := 405) (x := (qst (fetF A))) X hw t_62 rfl 5 pv_48 (by decide) rfl inn_X4_findFirst_4 (by decide) (X.2.2.2.1 (.fieldLink RX4 66 "SilkMill$Pot" "stop" "I") (by decide +kernel)) rfl (gv_405 _ _) dX4_findFirst_16 ?_
    refine lv_iconst (v := 2) X.1 X.2.1 dX4_findFirst_19 (by decide) ?_
    refine lv_iadd X.1 X.2.1 dX4_findFirst_20 ?_
    refine lv_topi (fun v_63 ev_63 => ?_)
    have rg_64 := And.intro (z_lo v_63) (z_hi v_63)
    refine r_putI (v := v_63) X hw t_62 rfl 5 405 tyX4 (by decide) rfl inn_X4_findFirst_4 tyX4_ok nmX4 (by decide) (X.2.2.2.1 (.fieldLink RX4 66 "SilkMill$Pot" "stop" "I") (by decide +kernel)) rfl (Or.inl rfl) rfl rfl (Nat.le_of_ble_eq_true rfl) (st_405 _ _) dX4_findFirst_21 (fun H locs hw => ?_)
    obtain ⟨S_65, eS_65⟩ : ∃ T, T = sI S_40 405 x (v_63) := ⟨_, rfl⟩
    rw [← eS_65] at hw
    have hO_66 : Ok eFI S S_65 := hO_42.sI eS_65 (by decide +kernel) (uI_4_405 hO_42.1 t_62)
    have h_67 : pI S_65 405 x = v_63 := tI_sIs eS_65
    have rw_68 : RowIs S_65 R0 (qb (fetF A)) 600 := RowIs_sI pv_45 eS_65 (by decide) (by decide)
    have rw_69 : RowIs S_65 R1 (qe (fetF A)) 12 := RowIs_sI pv_46 eS_65 (by decide) (by decide)
    have rw_70 : RowIs S_65 R2 (ql (fetF A)) 600 := RowIs_sI pv_47 eS_65 (by decide) (by decide)
    have co_71 : CoP S_65 D (qpl (fetF A)) (qsd (fetF A)) := CoP_sI pv_54 eS_65 (by decide) (by decide)
    have t_72 : pI S_65 406 x = (qse (fetF A)) := tI_sI eS_65 rfl pv_49
    have sg_73 : StV S_65 D Gs (qg (fetF A)) := StV_sI pv_50 eS_65 (by decide)
    have t_74 : pI S_65 407 x = (qdr (fetF A)) := tI_sI eS_65 rfl pv_51
    have t_75 : pI S_65 408 x = (qtk (fetF A)) := tI_sI eS_65 rfl pv_52
    have t_77 : At S_40 Ks 8 := hk_41.fr.at hp_4
    have sk_76 : SkV S_65 D Ks (qsk (fetF A)) := SkV_sI hO_42.1 t_77 pv_53 eS_65 (by decide)
    have px_78 : PotX S S_40 x R0 R1 R2 Gs := PotX_tr (PotX_rf S x R0 R1 R2 Gs) (fun _ _ h => h) haR0 haR1 haR2 hx_44
    have px_79 : PotX S S_65 x R0 R1 R2 Gs := PotX_sx px_78 eS_65 (by decide)
    exact ret_v X hw hr hlocks (Nat.le_of_ble_eq_true rfl) (Nat.le_of_ble_eq_true rfl) ⟨hO_66, ⟨PotV_of (fndF_c (fun z => by have e0 := congrArg List.length z; have e1 : ([] : List Nat).length = 0 := rfl; omega)) rw_68 rw_69 rw_70 (h_67.trans ev_63) t_72 sg_73 t_74 t_75 sk_76 co_71 (inD_fnd pv_11), px_79⟩⟩ dX4_findFirst_24
set_option maxHeartbeats 4000000 in
set_option maxRecDepth 100000 in
theorem k_X4_throwLast5 (l : Launch) (G : va_G) (cy : Nat → ClassId) (κ : Nat → Nat) (S : PS) (sz : Nat) (x : Nat) (s1 : Nat) (D : Nat → Prop) (R0 : Nat) (R1 : Nat) (R2 : Nat) (Gs : Nat) (A : Pt) (Ev : En) (hG : GX S) (ha_x : At S x 4) (ha_s1 : At S s1 8) (hp_0 : (∀ c, D c → At S c 0)) (hp_1 : PotR S x R0 R1 R2 Gs) (hp_2 : PotV S D x R0 R1 R2 Gs s1 A) (hp_3 : EnC S D x s1 Ev) : Cv l yX4_throwLast wsX4_throwLast ({ frames := 4, cells := 0, slots := 0, locals := 192 }) G cy κ S sz [.ref x, .ref s1] (fun (S9 : PS) => Ok eTH S S9 ∧ (PotV S9 D x R0 R1 R2 Gs s1 (throF A) ∧ PotX S S9 x R0 R1 R2 Gs)) := by
  refine ent_m (cc := cX4_throwLast) (maxL := 3) (ret := none) (by decide) rfl (Nat.le_of_ble_eq_true rfl) ?_
  intro p e s m below meth c ls X hr hlocks hin hw hl hsz
  subst hsz
  have X : Cx p c cX4_throwLast 3 s [.ref x, .ref s1].toArray wsX4_throwLast RX4 m G cy κ (AS S s.heap.size) := X
  have hl : lv_has ls 3 [(0, .ref x), (1, .ref s1)] := hl
  have hO : Ok eTH S S := Ok.rf hG
  have hpr := hp_1
  obtain ⟨hr0, hr1, hr2, hr3, hne, hcn⟩ := hpr
  have haR0 := row_at hG ha_x (Or.inl hr0)
  have haR1 := row_at hG ha_x (Or.inr (Or.inl hr1))
  have haR2 := row_at hG ha_x (Or.inr (Or.inr hr2))
  have haGs : At S Gs 29 := by obtain ⟨c, k1, k2⟩ := gQ_4_403 hG ha_x; have h3 := hr3; rw [k1] at h3; cases h3; exact k2
  have hpv := hp_2
  obtain ⟨pv_1, pv_2, pv_3, pv_4, pv_5, pv_6, pv_7, pv_8, pv_9, pv_10, pv_11⟩ := hpv
  obtain ⟨v_12, ev_12⟩ : ∃ v, pI S 902 Gs = v := ⟨_, rfl⟩
  have rg_13 := gI_29_902 hO.1 haGs; rw [ev_12] at rg_13
  have pz_14 : (pI S 902 Gs).toInt = v_12.toInt := by rw [ev_12]
  have pz_15 : (pI S 902 Gs).toInt = v_12.toInt := (congrArg Int32.toInt ev_12).trans rfl
  obtain ⟨v_16, ev_16⟩ : ∃ v, pI S 800 s1 = v := ⟨_, rfl⟩
  have rg_17 := gI_8_800 hO.1 ha_s1; rw [ev_16] at rg_17
  have pz_18 : (pI S 800 s1).toInt = v_16.toInt := by rw [ev_16]
  have pz_19 : (pI S 800 s1).toInt = v_16.toInt := (congrArg Int32.toInt ev_16).trans rfl
  have sl_20 := pv_6.1
  have sl_21 := pv_9.1
  refine lv_aload_n X.1 X.2.1 dX4_throwLast_0 rfl (lv_at hl 0 rfl) ?_
  refine r_getR (g := 400) X hw ha_x rfl 0 hr0 (by decide) rfl inn_X4_throwLast_4 (by decide) (X.2.2.2.1 (.fieldLink RX4 14 "SilkMill$Pot" "basket" "LSilkMill$Row;") (by decide +kernel)) rfl (gv_400 _ _) dX4_throwLast_1 ?_
  refine lv_aload_n X.1 X.2.1 dX4_throwLast_4 rfl (lv_at hl 0 rfl) ?_
  refine r_getR (g := 400) X hw ha_x rfl 0 hr0 (by decide) rfl inn_X4_throwLast_4 (by decide) (X.2.2.2.1 (.fieldLink RX4 14 "SilkMill$Pot" "basket" "LSilkMill$Row;") (by decide +kernel)) rfl (gv_400 _ _) dX4_throwLast_5 ?_
  obtain ⟨v_22, ev_22⟩ : ∃ v, pI S 500 R0 = v := ⟨_, rfl⟩
  obtain ⟨q_24, n_25, h_26, h_27, h_28, h_29, h_30⟩ := gRowQ hO.1 haR0
  have rg_23 := gRow_500 hO.1 haR0 h_26 h_28; rw [ev_22] at rg_23
  have pz_31 : (pI S 500 R0).toInt = v_22.toInt := by rw [ev_22]
  refine r_getI (g := 500) (x := v_22) X hw haR0 rfl 0 ev_22 (by decide) rfl inn_X4_throwLast_5 (by decide) (X.2.2.2.1 (.fieldLink RX4 73 "SilkMill$Row" "size" "I") (by decide +kernel)) rfl (gv_500 _ _) dX4_throwLast_8 ?_
  refine lv_iconst (v := 1) X.1 X.2.1 dX4_throwLast_11 (by decide) ?_
  refine lv_isub X.1 X.2.1 dX4_throwLast_12 ?_
  refine lv_topi (fun v_32 ev_32 => ?_)
  have z_33 : v_32.toInt = v_22.toInt - 1 := z_sub ev_32 rfl ti_1 (by omega) (by omega)
  have sz_34 := RowIs_sz pv_1
  have pz_35 : (pI S 500 R0).toInt = v_22.toInt := (congrArg Int32.toInt ev_22).trans rfl
  refine k_q (rm := { frames := 3, cells := 0, slots := 0, locals := 144 }) (av := [.ref R0, .int (v_32)]) X hw (va_runV (As := [.int (v_32)]) (rest := []) (cfix X) (k_X5_removeAt5 l G cy κ S _ R0 (v_32) (v_32.toInt) (qb A) 600 hO.1 haR0 rfl pv_1) (cwV 1 X.2.2.2.1 gX4_throwLast_X5_removeAt rfl rfl rfl (by decide +kernel) ⟨Nat.le_of_ble_eq_true rfl, Nat.le_of_ble_eq_true rfl⟩) (pre_V X hw _ haR0 rfl (by decide) rfl) rfl rfl hl.1 rfl (lv_room (Nat.le_of_ble_eq_true rfl)) dX4_throwLast_13 ⟨Nat.le_of_ble_eq_true rfl, Nat.le_of_ble_eq_true rfl⟩) 0 0 (Nat.le_of_ble_eq_true rfl) (Nat.le_of_ble_eq_true rfl) (fun rr_36 S_37 H locs hp hw hfr hnw => ?_)
  obtain ⟨hk_38, hp⟩ := hp
  have hO_39 : Ok eTH S S_37 := hO.call hk_38 (by decide +kernel)
  obtain ⟨hs_40, hn_41, hx_42⟩ := hp
  rcases rr_36 with _ | q_43
  · refine W.eq (g2 := F0 m 16 ls (.null :: [])) rfl ?_
    obtain ⟨hL_44, eS_45⟩ := hn_41 rfl
    have rw_46 : RowIs S_37 R0 (qb A) 600 := by rw [eS_45]; exact pv_1
    refine lv_astore_nN (lv' := [(2, .null), (0, .ref x), (1, .ref s1)]) X.1 X.2.1 dX4_throwLast_16 rfl hl (by decide) rfl (fun ls hl => ?_)
    refine lv_aload_nN X.1 X.2.1 dX4_throwLast_17 rfl (lv_at hl 0 rfl) ?_
    refine lv_ifnullN (tgt := 48) X.1 X.2.1 dX4_throwLast_18 (by decide) ?_
    have rw_47 : RowIs S_37 R1 (qe A) 12 := hx_42.2 _ (Ne.symm hne.1) (Ne.symm hp_1.2.2.2.2.2.1) _ _ pv_2
    have rw_48 : RowIs S_37 R2 (ql A) 600 := hx_42.2 _ (Ne.symm hne.2.1) (Ne.symm hp_1.2.2.2.2.2.2.1) _ _ pv_3
    have co_49 : CoP S_37 D (qpl A) (qsd A) := CoP_fr hk_38.fr hp_0 (by decide +kernel) pv_10
    have t_50 : pI S_37 405 x = (qst A) := hk_38.fr.I' (by decide +kernel) ha_x pv_4
    have t_51 : pI S_37 406 x = (qse A) := hk_38.fr.I' (by decide +kernel) ha_x pv_5
    have sg_52 : StV S_37 D Gs (qg A) := StV_fr hO.1 haGs hk_38.fr (by decide +kernel) pv_6
    have t_53 : pI S_37 407 x = (qdr A) := hk_38.fr.I' (by decide +kernel) ha_x pv_7
    have t_54 : pI S_37 408 x = (qtk A) := hk_38.fr.I' (by decide +kernel) ha_x pv_8
    have sk_55 : SkV S_37 D s1 (qsk A) := SkV_fr hO.1 ha_s1 hk_38.fr (by decide +kernel) pv_9
    have px_56 : PotX S S_37 x R0 R1 R2 Gs := PotX_row (PotX_rf S x R0 R1 R2 Gs) (fun _ _ h => h) haR0 haR1 haR2 (Or.inl rfl) hx_42 hk_38.fr (by decide +kernel)
    exact ret_v X hw hr hlocks (Nat.le_of_ble_eq_true rfl) (Nat.le_of_ble_eq_true rfl) ⟨hO_39, ⟨PotV_of (throF_n (List.eq_nil_of_length_eq_zero (by omega))) rw_46 rw_47 rw_48 t_50 t_51 sg_52 t_53 t_54 sk_55 co_49 (inD_thr pv_11), px_56⟩⟩ dX4_throwLast_48
  · refine W.eq (g2 := F0 m 16 ls (.ref q_43 :: [])) rfl ?_
    obtain ⟨ha_57, g0_58, g1_59, gi_60, hr_61⟩ := hs_40 _ rfl
    refine lv_astore_n (lv' := [(2, .ref q_43), (0, .ref x), (1, .ref s1)]) X.1 X.2.1 dX4_throwLast_16 rfl hl (by decide) rfl (fun ls hl => ?_)
    refine lv_aload_n X.1 X.2.1 dX4_throwLast_17 rfl (lv_at hl 0 rfl) ?_
    refine lv_ifnull X.1 X.2.1 dX4_throwLast_18 ?_
    refine lv_aload_n X.1 X.2.1 dX4_throwLast_21 rfl (lv_at hl 0 rfl) ?_
    refine lv_bipush (v := 6) X.1 X.2.1 dX4_throwLast_22 (by decide) ?_
    refine r_putI (v := 6) X hw ha_57 rfl 3 3 tyX0 (by decide) rfl inn_X4_throwLast_0 tyX0_ok nmX0 (by decide) (X.2.2.2.1 (.fieldLink RX4 53 "SilkMill$Cocoon" "stand" "I") (by decide +kernel)) rfl (Or.inl rfl) rfl rfl (Nat.le_of_ble_eq_true rfl) (st_3 _ _) dX4_throwLast_24 (fun H locs hw => ?_)
    obtain ⟨S_62, eS_62⟩ : ∃ T, T = sI S_37 3 q_43 (6) := ⟨_, rfl⟩
    rw [← eS_62] at hw
    have hO_63 : Ok eTH S S_62 := hO_39.sI eS_62 (by decide +kernel) (uI_0_3 hO_39.1 ha_57)
    have h_64 : pI S_62 3 q_43 = 6 := tI_sIs eS_62
    refine lv_aload_n X.1 X.2.1 dX4_throwLast_27 rfl (lv_at hl 2 rfl) ?_
    refine lv_dup X.1 X.2.1 dX4_throwLast_28 rfl ?_
    have t_65 : At S_37 s1 8 := hk_38.fr.at ha_s1
    have t_66 : At S_62 s1 8 := tAt_sI eS_62 t_65
    obtain ⟨v_67, ev_67⟩ : ∃ v, pI S_62 804 s1 = v := ⟨_, rfl⟩
    have rg_69 := And.intro (z_lo v_67) (z_hi v_67)
    have pz_70 : (pI S_62 804 s1).toInt = v_67.toInt := by rw [ev_67]
    refine r_getI (g := 804) (x := v_67) X hw t_66 rfl 4 ev_67 (by decide) rfl inn_X4_throwLast_8 (by decide) (X.2.2.2.1 (.fieldLink RX4 177 "SilkMill$Store" "silkThrown" "I") (by decide +kernel)) rfl (gv_804 _ _) dX4_throwLast_29 ?_
    refine lv_aload_n X.1 X.2.1 dX4_throwLast_32 rfl (lv_at hl 0 rfl) ?_
    refine lv_aload_n X.1 X.2.1 dX4_throwLast_33 rfl (lv_at hl 0 rfl) ?_
    have t_71 : At S_62 q_43 0 := tAt_sI eS_62 ha_57
    obtain ⟨v_72, ev_72⟩ : ∃ v, pI S_62 4 q_43 = v := ⟨_, rfl⟩
    have rg_74 := And.intro (z_lo v_72) (z_hi v_72)
    have pz_75 : (pI S_62 4 q_43).toInt = v_72.toInt := by rw [ev_72]
    refine r_getI (g := 4) (x := v_72) X hw t_71 rfl 4 ev_72 (by decide) rfl inn_X4_throwLast_0 (by decide) (X.2.2.2.1 (.fieldLink RX4 180 "SilkMill$Cocoon" "drawnTo" "I") (by decide +kernel)) rfl (gv_4 _ _) dX4_throwLast_34 ?_
    refine lv_aload_n X.1 X.2.1 dX4_throwLast_37 rfl (lv_at hl 0 rfl) ?_
    obtain ⟨v_76, ev_76⟩ : ∃ v, pI S_62 2 q_43 = v := ⟨_, rfl⟩
    have rg_77 := gI_0_2 hO_63.1 t_71; rw [ev_76] at rg_77
    have pz_78 : (pI S_62 2 q_43).toInt = v_76.toInt := by rw [ev_76]
    refine r_getI (g := 2) (x := v_76) X hw t_71 rfl 2 ev_76 (by decide) rfl inn_X4_throwLast_0 (by decide) (X.2.2.2.1 (.fieldLink RX4 183 "SilkMill$Cocoon" "length" "I") (by decide +kernel)) rfl (gv_2 _ _) dX4_throwLast_38 ?_
    refine k_i (rm := { frames := 2, cells := 0, slots := 0, locals := 96 }) (av := [.ref q_43, .int (v_72), .int (v_76)]) X hw (va_runV (As := [.int (v_72), .int (v_76)]) (rest := [.int (v_67), .ref s1]) (cfix X) (k_X0_silkBetween l G cy κ S_62 _ q_43 (v_72) (v_72.toInt) (v_76) (v_76.toInt) hO_63.1 t_71 rfl rfl) (cwV 2 X.2.2.2.1 gX4_throwLast_X0_silkBetween rfl rfl rfl (by decide +kernel) ⟨Nat.le_of_ble_eq_true rfl, Nat.le_of_ble_eq_true rfl⟩) (pre_V X hw _ t_71 rfl (by decide) rfl) rfl rfl hl.1 rfl (lv_room (Nat.le_of_ble_eq_true rfl)) dX4_throwLast_41 ⟨Nat.le_of_ble_eq_true rfl, Nat.le_of_ble_eq_true rfl⟩) 0 0 (Nat.le_of_ble_eq_true rfl) (Nat.le_of_ble_eq_true rfl) (fun rr_79 S_80 H locs hp hw hfr hnw => ?_)
    obtain ⟨e2, hp⟩ := hp
    subst e2
    have rg_81 := And.intro (z_lo rr_79) (z_hi rr_79)
    refine lv_iadd X.1 X.2.1 dX4_throwLast_44 ?_
    refine lv_topi (fun v_82 ev_82 => ?_)
    have rg_83 := And.intro (z_lo v_82) (z_hi v_82)
    refine r_putI (v := v_82) X hw t_66 rfl 4 804 tyX8 (by decide) rfl inn_X4_throwLast_8 tyX8_ok nmX8 (by decide) (X.2.2.2.1 (.fieldLink RX4 177 "SilkMill$Store" "silkThrown" "I") (by decide +kernel)) rfl (Or.inl rfl) rfl rfl (Nat.le_of_ble_eq_true rfl) (st_804 _ _) dX4_throwLast_45 (fun H locs hw => ?_)
    obtain ⟨S_84, eS_84⟩ : ∃ T, T = sI S_62 804 s1 (v_82) := ⟨_, rfl⟩
    rw [← eS_84] at hw
    have hO_85 : Ok eTH S S_84 := hO_63.sI eS_84 (by decide +kernel) (uI_8_804 hO_63.1 t_66)
    have h_86 : pI S_84 804 s1 = v_82 := tI_sIs eS_84
    have rw_87 : RowIs S_62 R0 ((qb A).eraseIdx (v_32.toInt).toNat) 600 := RowIs_sI hr_61 eS_62 (by decide) (by decide)
    have rw_88 : RowIs S_84 R0 ((qb A).eraseIdx (v_32.toInt).toNat) 600 := RowIs_sI rw_87 eS_84 (by decide) (by decide)
    have rw_89 : RowIs S_37 R1 (qe A) 12 := hx_42.2 _ (Ne.symm hne.1) (Ne.symm hp_1.2.2.2.2.2.1) _ _ pv_2
    have rw_90 : RowIs S_62 R1 (qe A) 12 := RowIs_sI rw_89 eS_62 (by decide) (by decide)
    have rw_91 : RowIs S_84 R1 (qe A) 12 := RowIs_sI rw_90 eS_84 (by decide) (by decide)
    have rw_92 : RowIs S_37 R2 (ql A) 600 := hx_42.2 _ (Ne.symm hne.2.1) (Ne.symm hp_1.2.2.2.2.2.2.1) _ _ pv_3
    have rw_93 : RowIs S_62 R2 (ql A) 600 := RowIs_sI rw_92 eS_62 (by decide) (by decide)
    have rw_94 : RowIs S_84 R2 (ql A) 600 := RowIs_sI rw_93 eS_84 (by decide) (by decide)
    have co_95 : CoP S_37 D (qpl A) (qsd A) := CoP_fr hk_38.fr hp_0 (by decide +kernel) pv_10
    have co_96 : CoP S_62 D (qpl A) (fuI (qsd A) q_43 6) := CoP_s3 co_95 eS_62
    have co_97 : CoP S_84 D (qpl A) (fuI (qsd A) q_43 6) := CoP_sI co_96 eS_84 (by decide) (by decide)
    have t_98 : pI S_37 405 x = (qst A) := hk_38.fr.I' (by decide +kernel) ha_x pv_4
    have t_99 : pI S_62 405 x = (qst A) := tI_sI eS_62 rfl t_98
    have t_100 : pI S_84 405 x = (qst A) := tI_sI eS_84 rfl t_99
    have t_101 : pI S_37 406 x = (qse A) := hk_38.fr.I' (by decide +kernel) ha_x pv_5
    have t_102 : pI S_62 406 x = (qse A) := tI_sI eS_62 rfl t_101
    have t_103 : pI S_84 406 x = (qse A) := tI_sI eS_84 rfl t_102
    have sg_104 : StV S_37 D Gs (qg A) := StV_fr hO.1 haGs hk_38.fr (by decide +kernel) pv_6
    have sg_105 : StV S_62 D Gs (qg A) := StV_sI sg_104 eS_62 (by decide)
    have sg_106 : StV S_84 D Gs (qg A) := StV_sI sg_105 eS_84 (by decide)
    have t_107 : pI S_37 407 x = (qdr A) := hk_38.fr.I' (by decide +kernel) ha_x pv_7
    have t_108 : pI S_62 407 x = (qdr A) := tI_sI eS_62 rfl t_107
    have t_109 : pI S_84 407 x = (qdr A) := tI_sI eS_84 rfl t_108
    have t_110 : pI S_37 408 x = (qtk A) := hk_38.fr.I' (by decide +kernel) ha_x pv_8
    have t_111 : pI S_62 408 x = (qtk A) := tI_sI eS_62 rfl t_110
    have t_112 : pI S_84 408 x = (qtk A) := tI_sI eS_84 rfl t_111
    have sk_113 : SkV S_37 D s1 (qsk A) := SkV_fr hO.1 ha_s1 hk_38.fr (by decide +kernel) pv_9
    have t_115 : At S_37 s1 8 := hk_38.fr.at ha_s1
    have sk_114 : SkV S_62 D s1 (qsk A) := SkV_sI hO_39.1 t_115 sk_113 eS_62 (by decide)
    have sk_116 : SkV S_84 D s1 (qsk A) := SkV_sI hO_63.1 t_66 sk_114 eS_84 (by decide)
    have px_117 : PotX S S_37 x R0 R1 R2 Gs := PotX_row (PotX_rf S x R0 R1 R2 Gs) (fun _ _ h => h) haR0 haR1 haR2 (Or.inl rfl) hx_42 hk_38.fr (by decide +kernel)
    have px_118 : PotX S S_62 x R0 R1 R2 Gs := PotX_sI px_117 eS_62 (by decide)
    have px_119 : PotX S S_84 x R0 R1 R2 Gs := PotX_sI px_118 eS_84 (by decide)
    exact ret_v X hw hr hlocks (Nat.le_of_ble_eq_true rfl) (Nat.le_of_ble_eq_true rfl) ⟨hO_85, ⟨PotV_of (B := (wb (wsd A (fuI (qsd A) q_43 6)) ((qb A).eraseIdx (v_32.toInt).toNat))) ((throF_c (by rw [show (qb A).length - 1 = (v_32.toInt).toNat by omega]; exact gi_60)).trans (by rw [show (qb A).length - 1 = (v_32.toInt).toNat by omega])) rw_88 rw_91 rw_94 t_100 t_103 sg_106 t_109 t_112 sk_116 co_97 (inD_thr pv_11), px_119⟩⟩ dX4_throwLast_48
set_option maxHeartbeats 4000000 in
set_option maxRecDepth 100000 in
theorem k_X4_isRelated5 (l : Launch) (G : va_G) (cy : Nat → ClassId) (κ : Nat → Nat) (S : PS) (sz : Nat) (a1 : Int32) (a1_z : Int) (a2 : Int32) (a2_z : Int) (a3 : Int32) (a3_z : Int) (hG : GX S) (hz_a1 : a1.toInt = a1_z) (hz_a2 : a2.toInt = a2_z) (hz_a3 : a3.toInt = a3_z) : Ci l yX4_isRelated wsX4_isRelated ({ frames := 1, cells := 0, slots := 0, locals := 48 }) G cy κ S sz [.int (a1), .int (a2), .int (a3)] (fun (r : Int32) (S9 : PS) => S = S9 ∧ (((relP a2 a1_z a3_z) ∧ r = 1) ∨ ((¬ relP a2 a1_z a3_z) ∧ r = 0))) := by
  refine ent_m (cc := cX4_isRelated) (maxL := 3) (ret := (some .boolean)) (by decide) rfl (Nat.le_of_ble_eq_true rfl) ?_
  intro p e s m below meth c ls X hr hlocks hin hw hl hsz
  subst hsz
  have X : Cx p c cX4_isRelated 3 s [.int (a1), .int (a2), .int (a3)].toArray wsX4_isRelated RX4 m G cy κ (AS S s.heap.size) := X
  have hl : lv_has ls 3 [(0, .int (a1)), (1, .int (a2)), (2, .int (a3))] := hl
  have rg_a1 : (-2147483648) ≤ a1_z ∧ a1_z ≤ 2147483647 := by rw [← hz_a1]; exact ⟨z_lo _, z_hi _⟩
  have rg_a2 : (-2147483648) ≤ a2_z ∧ a2_z ≤ 2147483647 := by rw [← hz_a2]; exact ⟨z_lo _, z_hi _⟩
  have rg_a3 : (-2147483648) ≤ a3_z ∧ a3_z ≤ 2147483647 := by rw [← hz_a3]; exact ⟨z_lo _, z_hi _⟩
  refine lv_iload_n X.1 X.2.1 dX4_isRelated_0 rfl (lv_at hl 1 rfl) ?_
  refine lv_bipush (v := 60) X.1 X.2.1 dX4_isRelated_1 (by decide) ?_
  refine lv_icmp_ne (tgt := 17) X.1 X.2.1 dX4_isRelated_3 (by decide) (fun c_1 => ?_) (fun c_1 => ?_)
  · have z_b_2 := trivial
    have k_3 : a2_z ≠ 60 := z_ne hz_a2 ti_60 c_1
    refine lv_iload_n X.1 X.2.1 dX4_isRelated_17 rfl (lv_at hl 1 rfl) ?_
    refine lv_bipush (v := 61) X.1 X.2.1 dX4_isRelated_18 (by decide) ?_
    refine lv_icmp_ne (tgt := 36) X.1 X.2.1 dX4_isRelated_20 (by decide) (fun c_4 => ?_) (fun c_4 => ?_)
    · have z_b_5 := trivial
      have k_6 : a2_z ≠ 61 := z_ne hz_a2 ti_61 c_4
      refine lv_iload_n X.1 X.2.1 dX4_isRelated_36 rfl (lv_at hl 0 rfl) ?_
      refine lv_iload_n X.1 X.2.1 dX4_isRelated_37 rfl (lv_at hl 2 rfl) ?_
      refine lv_icmp_le (tgt := 45) X.1 X.2.1 dX4_isRelated_38 (by decide) (fun c_7 => ?_) (fun c_7 => ?_)
      · have z_b_8 := trivial
        have k_9 : a1_z ≤ a3_z := z_le hz_a1 hz_a3 c_7
        refine lv_iconst (v := 0) X.1 X.2.1 dX4_isRelated_45 (by decide) ?_
        exact ret_z X hw hr hlocks (Nat.le_of_ble_eq_true rfl) (Nat.le_of_ble_eq_true rfl) (by decide) ⟨rfl, Or.inr ⟨(by unfold relP; first | (have e6 : a2 = 60 := i32_eq hz_a2 ti_60 (by omega); rw [if_pos e6]; omega) | (have e6 : ¬ a2 = 60 := i32_ne hz_a2 ti_60 (by omega); rw [if_neg e6]; have e7 : a2 = 61 := i32_eq hz_a2 ti_61 (by omega); rw [if_pos e7]; omega) | (have e6 : ¬ a2 = 60 := i32_ne hz_a2 ti_60 (by omega); rw [if_neg e6]; have e7 : ¬ a2 = 61 := i32_ne hz_a2 ti_61 (by omega); rw [if_neg e7]; omega)), rfl⟩⟩ dX4_isRelated_46
      · have z_b_10 := trivial
        have k_11 : a1_z > a3_z := z_nle hz_a1 hz_a3 c_7
        refine lv_iconst (v := 1) X.1 X.2.1 dX4_isRelated_41 (by decide) ?_
        refine lv_goto (tgt := 46) X.1 X.2.1 dX4_isRelated_42 (by decide) ?_
        exact ret_z X hw hr hlocks (Nat.le_of_ble_eq_true rfl) (Nat.le_of_ble_eq_true rfl) (by decide) ⟨rfl, Or.inl ⟨(by unfold relP; first | (have e6 : a2 = 60 := i32_eq hz_a2 ti_60 (by omega); rw [if_pos e6]; omega) | (have e6 : ¬ a2 = 60 := i32_ne hz_a2 ti_60 (by omega); rw [if_neg e6]; have e7 : a2 = 61 := i32_eq hz_a2 ti_61 (by omega); rw [if_pos e7]; omega) | (have e6 : ¬ a2 = 60 := i32_ne hz_a2 ti_60 (by omega); rw [if_neg e6]; have e7 : ¬ a2 = 61 := i32_ne hz_a2 ti_61 (by omega); rw [if_neg e7]; omega)), rfl⟩⟩ dX4_isRelated_46
    · have z_b_12 := trivial
      have k_13 : a2_z = 61 := z_eq hz_a2 ti_61 c_4
      refine lv_iload_n X.1 X.2.1 dX4_isRelated_23 rfl (lv_at hl 0 rfl) ?_
      refine lv_iload_n X.1 X.2.1 dX4_isRelated_24 rfl (lv_at hl 2 rfl) ?_
      refine lv_icmp_ne (tgt := 32) X.1 X.2.1 dX4_isRelated_25 (by decide) (fun c_14 => ?_) (fun c_14 => ?_)
      · have z_b_15 := trivial
        have k_16 : a1_z ≠ a3_z := z_ne hz_a1 hz_a3 c_14
        refine lv_iconst (v := 0) X.1 X.2.1 dX4_isRelated_32 (by decide) ?_
        refine lv_goto (tgt := 46) X.1 X.2.1 dX4_isRelated_33 (by decide) ?_
        exact ret_z X hw hr hlocks (Nat.le_of_ble_eq_true rfl) (Nat.le_of_ble_eq_true rfl) (by decide) ⟨rfl, Or.inr ⟨(by unfold relP; first | (have e6 : a2 = 60 := i32_eq hz_a2 ti_60 (by omega); rw [if_pos e6]; omega) | (have e6 : ¬ a2 = 60 := i32_ne hz_a2 ti_60 (by omega); rw [if_neg e6]; have e7 : a2 = 61 := i32_eq hz_a2 ti_61 (by omega); rw [if_pos e7]; omega) | (have e6 : ¬ a2 = 60 := i32_ne hz_a2 ti_60 (by omega); rw [if_neg e6]; have e7 : ¬ a2 = 61 := i32_ne hz_a2 ti_61 (by omega); rw [if_neg e7]; omega)), rfl⟩⟩ dX4_isRelated_46
      · have z_b_17 := trivial
        have k_18 : a1_z = a3_z := z_eq hz_a1 hz_a3 c_14
        refine lv_iconst (v := 1) X.1 X.2.1 dX4_isRelated_28 (by decide) ?_
        refine lv_goto (tgt := 46) X.1 X.2.1 dX4_isRelated_29 (by decide) ?_
        exact ret_z X hw hr hlocks (Nat.le_of_ble_eq_true rfl) (Nat.le_of_ble_eq_true rfl) (by decide) ⟨rfl, Or.inl ⟨(by unfold relP; first | (have e6 : a2 = 60 := i32_eq hz_a2 ti_60 (by omega); rw [if_pos e6]; omega) | (have e6 : ¬ a2 = 60 := i32_ne hz_a2 ti_60 (by omega); rw [if_neg e6]; have e7 : a2 = 61 := i32_eq hz_a2 ti_61 (by omega); rw [if_pos e7]; omega) | (have e6 : ¬ a2 = 60 := i32_ne hz_a2 ti_60 (by omega); rw [if_neg e6]; have e7 : ¬ a2 = 61 := i32_ne hz_a2 ti_61 (by omega); rw [if_neg e7]; omega)), rfl⟩⟩ dX4_isRelated_46
  · have z_b_19 := trivial
    have k_20 : a2_z = 60 := z_eq hz_a2 ti_60 c_1
    refine lv_iload_n X.1 X.2.1 dX4_isRelated_6 rfl (lv_at hl 0 rfl) ?_
    refine lv_iload_n X.1 X.2.1 dX4_isRelated_7 rfl (lv_at hl 2 rfl) ?_
    refine lv_icmp_ge (tgt := 15) X.1 X.2.1 dX4_isRelated_8 (by decide) (fun c_21 => ?_) (fun c_21 => ?_)
    · have z_b_22 := trivial
      have k_23 : a1_z ≥ a3_z := z_le hz_a3 hz_a1 c_21
      refine lv_iconst (v := 0) X.1 X.2.1 dX4_isRelated_15 (by decide) ?_
      exact ret_z X hw hr hlocks (Nat.le_of_ble_eq_true rfl) (Nat.le_of_ble_eq_true rfl) (by decide) ⟨rfl, Or.inr ⟨(by unfold relP; first | (have e6 : a2 = 60 := i32_eq hz_a2 ti_60 (by omega); rw [if_pos e6]; omega) | (have e6 : ¬ a2 = 60 := i32_ne hz_a2 ti_60 (by omega); rw [if_neg e6]; have e7 : a2 = 61 := i32_eq hz_a2 ti_61 (by omega); rw [if_pos e7]; omega) | (have e6 : ¬ a2 = 60 := i32_ne hz_a2 ti_60 (by omega); rw [if_neg e6]; have e7 : ¬ a2 = 61 := i32_ne hz_a2 ti_61 (by omega); rw [if_neg e7]; omega)), rfl⟩⟩ dX4_isRelated_16
    · have z_b_24 := trivial
      have k_25 : a1_z < a3_z := z_nle hz_a3 hz_a1 c_21
      refine lv_iconst (v := 1) X.1 X.2.1 dX4_isRelated_11 (by decide) ?_
      refine lv_goto (tgt := 16) X.1 X.2.1 dX4_isRelated_12 (by decide) ?_
      exact ret_z X hw hr hlocks (Nat.le_of_ble_eq_true rfl) (Nat.le_of_ble_eq_true rfl) (by decide) ⟨rfl, Or.inl ⟨(by unfold relP; first | (have e6 : a2 = 60 := i32_eq hz_a2 ti_60 (by omega); rw [if_pos e6]; omega) | (have e6 : ¬ a2 = 60 := i32_ne hz_a2 ti_60 (by omega); rw [if_neg e6]; have e7 : a2 = 61 := i32_eq hz_a2 ti_61 (by omega); rw [if_pos e7]; omega) | (have e6 : ¬ a2 = 60 := i32_ne hz_a2 ti_60 (by omega); rw [if_neg e6]; have e7 : ¬ a2 = 61 := i32_ne hz_a2 ti_61 (by omega); rw [if_neg e7]; omega)), rfl⟩⟩ dX4_isRelated_16
set_option maxHeartbeats 4000000 in
set_option maxRecDepth 100000 in
theorem k_X4_finenessOf5 (l : Launch) (G : va_G) (cy : Nat → ClassId) (κ : Nat → Nat) (S : PS) (sz : Nat) (c1 : Option Nat) (hG : GX S) (hq_c1 : ∀ q, c1 = some q → At S q 0) : Ci l yX4_finenessOf wsX4_finenessOf ({ frames := 2, cells := 0, slots := 0, locals := 96 }) G cy κ S sz [va_rf c1] (fun (r : Int32) (S9 : PS) => S = S9 ∧ (-2147483648 ≤ r.toInt ∧ r.toInt ≤ 2147483647 ∧ (∀ q, c1 = some q → r = fvS S q) ∧ (c1 = none → r = 0))) := by
  rcases c1 with _ | q_c1
  · have z_b_1 := trivial
    refine ent_m (cc := cX4_finenessOf) (maxL := 1) (ret := (some .int)) (by decide) rfl (Nat.le_of_ble_eq_true rfl) ?_
    intro p e s m below meth c ls X hr hlocks hin hw hl hsz
    subst hsz
    have X : Cx p c cX4_finenessOf 1 s [.null].toArray wsX4_finenessOf RX4 m G cy κ (AS S s.heap.size) := X
    have hl : lv_has ls 1 [(0, .null)] := hl
    refine lv_aload_nN X.1 X.2.1 dX4_finenessOf_0 rfl (lv_at hl 0 rfl) ?_
    refine lv_ifnonnullN X.1 X.2.1 dX4_finenessOf_1 ?_
    refine lv_iconst (v := 0) X.1 X.2.1 dX4_finenessOf_4 (by decide) ?_
    refine lv_goto (tgt := 16) X.1 X.2.1 dX4_finenessOf_5 (by decide) ?_
    exact ret_i X hw hr hlocks (Nat.le_of_ble_eq_true rfl) (Nat.le_of_ble_eq_true rfl) ⟨rfl, ⟨z_lo _, z_hi _, fun q h => (by cases h), fun _ => rfl⟩⟩ dX4_finenessOf_16
  · have z_b_2 := trivial
    have ha_q_c1 : At S q_c1 0 := hq_c1 _ rfl
    refine ent_m (cc := cX4_finenessOf) (maxL := 1) (ret := (some .int)) (by decide) rfl (Nat.le_of_ble_eq_true rfl) ?_
    intro p e s m below meth c ls X hr hlocks hin hw hl hsz
    subst hsz
    have X : Cx p c cX4_finenessOf 1 s [.ref q_c1].toArray wsX4_finenessOf RX4 m G cy κ (AS S s.heap.size) := X
    have hl : lv_has ls 1 [(0, .ref q_c1)] := hl
    refine lv_aload_n X.1 X.2.1 dX4_finenessOf_0 rfl (lv_at hl 0 rfl) ?_
    refine lv_ifnonnull (tgt := 8) X.1 X.2.1 dX4_finenessOf_1 (by decide) ?_
    refine lv_aload_n X.1 X.2.1 dX4_finenessOf_8 rfl (lv_at hl 0 rfl) ?_
    refine lv_aload_n X.1 X.2.1 dX4_finenessOf_9 rfl (lv_at hl 0 rfl) ?_
    obtain ⟨v_3, ev_3⟩ : ∃ v, pI S 4 q_c1 = v := ⟨_, rfl⟩
    have rg_5 := And.intro (z_lo v_3) (z_hi v_3)
    have pz_6 : (pI S 4 q_c1).toInt = v_3.toInt := by rw [ev_3]
    refine r_getI (g := 4) (x := v_3) X hw ha_q_c1 rfl 4 ev_3 (by decide) rfl inn_X4_finenessOf_0 (by decide) (X.2.2.2.1 (.fieldLink RX4 180 "SilkMill$Cocoon" "drawnTo" "I") (by decide +kernel)) rfl (gv_4 _ _) dX4_finenessOf_10 ?_
    refine k_i (rm := { frames := 1, cells := 0, slots := 0, locals := 48 }) (av := [.ref q_c1, .int (v_3)]) X hw (va_runV (As := [.int (v_3)]) (rest := []) (cfix X) (k_X0_finenessAt2 l G cy κ S _ q_c1 (v_3) (v_3.toInt) hG ha_q_c1 rfl) (cwV 1 X.2.2.2.1 gX4_finenessOf_X0_finenessAt rfl rfl rfl (by decide +kernel) ⟨Nat.le_of_ble_eq_true rfl, Nat.le_of_ble_eq_true rfl⟩) (pre_V X hw _ ha_q_c1 rfl (by decide) rfl) rfl rfl hl.1 rfl (lv_room (Nat.le_of_ble_eq_true rfl)) dX4_finenessOf_13 ⟨Nat.le_of_ble_eq_true rfl, Nat.le_of_ble_eq_true rfl⟩) 0 0 (Nat.le_of_ble_eq_true rfl) (Nat.le_of_ble_eq_true rfl) (fun rr_7 S_8 H locs hp hw hfr hnw => ?_)
    obtain ⟨e2, hp⟩ := hp
    subst e2
    have fn_9 := hp
    have rg_10 := And.intro (z_lo rr_7) (z_hi rr_7)
    exact ret_i X hw hr hlocks (Nat.le_of_ble_eq_true rfl) (Nat.le_of_ble_eq_true rfl) ⟨rfl, ⟨z_lo _, z_hi _, fun q h => (by cases h; unfold fvS; rw [ev_3]; exact fn_9), fun h => (by cases h)⟩⟩ dX4_finenessOf_16
set_option maxHeartbeats 4000000 in
set_option maxRecDepth 100000 in
theorem k_X4_valueOf5 (l : Launch) (G : va_G) (cy : Nat → ClassId) (κ : Nat → Nat) (S : PS) (sz : Nat) (x : Nat) (a1 : Int32) (a1_z : Int) (a2 : Int32) (a2_z : Int) (D : Nat → Prop) (R0 : Nat) (R1 : Nat) (R2 : Nat) (Gs : Nat) (Ks : Nat) (A : Pt) (Ev : En) (hG : GX S) (ha_x : At S x 4) (hz_a1 : a1.toInt = a1_z) (hz_a2 : a2.toInt = a2_z) (hp_0 : (∀ c, D c → At S c 0)) (hp_1 : PotR S x R0 R1 R2 Gs) (hp_2 : PotV S D x R0 R1 R2 Gs Ks A) (hp_3 : EnC S D x Ks Ev) (hp_4 : At S Ks 8) (hp_5 : a2 = eday Ev) : Ci l yX4_valueOf wsX4_valueOf ({ frames := 4, cells := 0, slots := 0, locals := 192 }) G cy κ S sz [.ref x, .int (a1), .int (a2)] (fun (r : Int32) (S9 : PS) => S = S9 ∧ (-2147483648 ≤ r.toInt ∧ r.toInt ≤ 2147483647 ∧ r.toInt = valF Ev A a1)) := by
  refine ent_m (cc := cX4_valueOf) (maxL := 3) (ret := (some .int)) (by decide) rfl (Nat.le_of_ble_eq_true rfl) ?_
  intro p e s m below meth c ls X hr hlocks hin hw hl hsz
  subst hsz
  have X : Cx p c cX4_valueOf 3 s [.ref x, .int (a1), .int (a2)].toArray wsX4_valueOf RX4 m G cy κ (AS S s.heap.size) := X
  have hl : lv_has ls 3 [(0, .ref x), (1, .int (a1)), (2, .int (a2))] := hl
  have rg_a1 : (-2147483648) ≤ a1_z ∧ a1_z ≤ 2147483647 := by rw [← hz_a1]; exact ⟨z_lo _, z_hi _⟩
  have rg_a2 : (-2147483648) ≤ a2_z ∧ a2_z ≤ 2147483647 := by rw [← hz_a2]; exact ⟨z_lo _, z_hi _⟩
  have hpr := hp_1
  obtain ⟨hr0, hr1, hr2, hr3, hne, hcn⟩ := hpr
  have haR0 := row_at hG ha_x (Or.inl hr0)
  have haR1 := row_at hG ha_x (Or.inr (Or.inl hr1))
  have haR2 := row_at hG ha_x (Or.inr (Or.inr hr2))
  have haGs : At S Gs 29 := by obtain ⟨c, k1, k2⟩ := gQ_4_403 hG ha_x; have h3 := hr3; rw [k1] at h3; cases h3; exact k2
  have hpv := hp_2
  obtain ⟨pv_1, pv_2, pv_3, pv_4, pv_5, pv_6, pv_7, pv_8, pv_9, pv_10, pv_11⟩ := hpv
  obtain ⟨v_12, ev_12⟩ : ∃ v, pI S 902 Gs = v := ⟨_, rfl⟩
  have rg_13 := gI_29_902 hG haGs; rw [ev_12] at rg_13
  have pz_14 : (pI S 902 Gs).toInt = v_12.toInt := by rw [ev_12]
  have pz_15 : (pI S 902 Gs).toInt = v_12.toInt := (congrArg Int32.toInt ev_12).trans rfl
  obtain ⟨v_16, ev_16⟩ : ∃ v, pI S 800 Ks = v := ⟨_, rfl⟩
  have rg_17 := gI_8_800 hG hp_4; rw [ev_16] at rg_17
  have pz_18 : (pI S 800 Ks).toInt = v_16.toInt := by rw [ev_16]
  have pz_19 : (pI S 800 Ks).toInt = v_16.toInt := (congrArg Int32.toInt ev_16).trans rfl
  have sl_20 := pv_6.1
  have sl_21 := pv_9.1
  refine lv_iload_n X.1 X.2.1 dX4_valueOf_0 rfl (lv_at hl 1 rfl) ?_
  by_cases w_22 : (a1).toInt < 0 ∨ 5 < (a1).toInt
  · refine lv_tableOut (tgt := 98) X.1 X.2.1 dX4_valueOf_1 w_22 (by decide) ?_
    refine lv_iload_n X.1 X.2.1 dX4_valueOf_98 rfl (lv_at hl 2 rfl) ?_
    exact ret_i X hw hr hlocks (Nat.le_of_ble_eq_true rfl) (Nat.le_of_ble_eq_true rfl) ⟨rfl, ⟨z_lo _, z_hi _, by rw [valF_d hz_a1 (by omega), ← hp_5]⟩⟩ dX4_valueOf_99
  have w_22b : (a1).toInt = 0 ∨ (a1).toInt = 1 ∨ (a1).toInt = 2 ∨ (a1).toInt = 3 ∨ (a1).toInt = 4 ∨ (a1).toInt = 5 := by omega
  rcases w_22b with w_22c | w_22c | w_22c | w_22c | w_22c | w_22c
  · refine lv_tableIn (tgt := 40) X.1 X.2.1 dX4_valueOf_1 (by omega) (by omega) (by rw [w_22c]; rfl) (by decide) ?_
    refine lv_aload_n X.1 X.2.1 dX4_valueOf_40 rfl (lv_at hl 0 rfl) ?_
    refine r_getR (g := 401) X hw ha_x rfl 1 hr1 (by decide) rfl inn_X4_valueOf_4 (by decide) (X.2.2.2.1 (.fieldLink RX4 20 "SilkMill$Pot" "ends" "LSilkMill$Row;") (by decide +kernel)) rfl (gv_401 _ _) dX4_valueOf_41 ?_
    refine k_i (rm := { frames := 3, cells := 0, slots := 0, locals := 144 }) (av := [.ref R1]) X hw (va_runV (As := []) (rest := []) (cfix X) (k_X5_sumOfFineness5 l G cy κ S _ R1 (qe A) 12 hG haR1 pv_2) (cwV 0 X.2.2.2.1 gX4_valueOf_X5_sumOfFineness rfl rfl rfl (by decide +kernel) ⟨Nat.le_of_ble_eq_true rfl, Nat.le_of_ble_eq_true rfl⟩) (pre_V X hw _ haR1 rfl (by decide) rfl) rfl rfl hl.1 rfl (lv_room (Nat.le_of_ble_eq_true rfl)) dX4_valueOf_44 ⟨Nat.le_of_ble_eq_true rfl, Nat.le_of_ble_eq_true rfl⟩) 0 0 (Nat.le_of_ble_eq_true rfl) (Nat.le_of_ble_eq_true rfl) (fun rr_23 S_24 H locs hp hw hfr hnw => ?_)
    obtain ⟨e2, hp⟩ := hp
    subst e2
    obtain ⟨su_25, su_26, su_27⟩ := hp
    exact ret_i X hw hr hlocks (Nat.le_of_ble_eq_true rfl) (Nat.le_of_ble_eq_true rfl) ⟨rfl, ⟨z_lo _, z_hi _, by rw [valF_0 (show a1.toInt = 0 by omega), su_27]; exact congrArg Int32.toInt (suL_eq (fun c hm => (fin_fv hp_3 pv_10 (pv_11 _ (Or.inr (Or.inl hm)))).symm))⟩⟩ dX4_valueOf_47
  · refine lv_tableIn (tgt := 48) X.1 X.2.1 dX4_valueOf_1 (by omega) (by omega) (by rw [w_22c]; rfl) (by decide) ?_
    refine lv_aload_n X.1 X.2.1 dX4_valueOf_48 rfl (lv_at hl 0 rfl) ?_
    refine r_getR (g := 401) X hw ha_x rfl 1 hr1 (by decide) rfl inn_X4_valueOf_4 (by decide) (X.2.2.2.1 (.fieldLink RX4 20 "SilkMill$Pot" "ends" "LSilkMill$Row;") (by decide +kernel)) rfl (gv_401 _ _) dX4_valueOf_49 ?_
    obtain ⟨v_28, ev_28⟩ : ∃ v, pI S 500 R1 = v := ⟨_, rfl⟩
    obtain ⟨q_30, n_31, h_32, h_33, h_34, h_35, h_36⟩ := gRowQ hG haR1
    have rg_29 := gRow_500 hG haR1 h_32 h_34; rw [ev_28] at rg_29
    have pz_37 : (pI S 500 R1).toInt = v_28.toInt := by rw [ev_28]
    refine r_getI (g := 500) (x := v_28) X hw haR1 rfl 0 ev_28 (by decide) rfl inn_X4_valueOf_5 (by decide) (X.2.2.2.1 (.fieldLink RX4 73 "SilkMill$Row" "size" "I") (by decide +kernel)) rfl (gv_500 _ _) dX4_valueOf_52 ?_
    have sz_38 := RowIs_sz pv_2
    exact ret_i X hw hr hlocks (Nat.le_of_ble_eq_true rfl) (Nat.le_of_ble_eq_true rfl) ⟨rfl, ⟨z_lo _, z_hi _, by rw [valF_1 (show a1.toInt = 1 by omega), ← sz_38, ev_28]⟩⟩ dX4_valueOf_55
  · refine lv_tableIn (tgt := 56) X.1 X.2.1 dX4_valueOf_1 (by omega) (by omega) (by rw [w_22c]; rfl) (by decide) ?_
    refine lv_aload_n X.1 X.2.1 dX4_valueOf_56 rfl (lv_at hl 0 rfl) ?_
    refine r_getR (g := 400) X hw ha_x rfl 0 hr0 (by decide) rfl inn_X4_valueOf_4 (by decide) (X.2.2.2.1 (.fieldLink RX4 14 "SilkMill$Pot" "basket" "LSilkMill$Row;") (by decide +kernel)) rfl (gv_400 _ _) dX4_valueOf_57 ?_
    obtain ⟨v_39, ev_39⟩ : ∃ v, pI S 500 R0 = v := ⟨_, rfl⟩
    obtain ⟨q_41, n_42, h_43, h_44, h_45, h_46, h_47⟩ := gRowQ hG haR0
    have rg_40 := gRow_500 hG haR0 h_43 h_45; rw [ev_39] at rg_40
    have pz_48 : (pI S 500 R0).toInt = v_39.toInt := by rw [ev_39]
    refine r_getI (g := 500) (x := v_39) X hw haR0 rfl 0 ev_39 (by decide) rfl inn_X4_valueOf_5 (by decide) (X.2.2.2.1 (.fieldLink RX4 73 "SilkMill$Row" "size" "I") (by decide +kernel)) rfl (gv_500 _ _) dX4_valueOf_60 ?_
    have sz_49 := RowIs_sz pv_1
    exact ret_i X hw hr hlocks (Nat.le_of_ble_eq_true rfl) (Nat.le_of_ble_eq_true rfl) ⟨rfl, ⟨z_lo _, z_hi _, by rw [valF_2 (show a1.toInt = 2 by omega), ← sz_49, ev_39]⟩⟩ dX4_valueOf_63
  · refine lv_tableIn (tgt := 64) X.1 X.2.1 dX4_valueOf_1 (by omega) (by omega) (by rw [w_22c]; rfl) (by decide) ?_
    refine lv_aload_n X.1 X.2.1 dX4_valueOf_64 rfl (lv_at hl 0 rfl) ?_
    refine r_getR (g := 402) X hw ha_x rfl 2 hr2 (by decide) rfl inn_X4_valueOf_4 (by decide) (X.2.2.2.1 (.fieldLink RX4 23 "SilkMill$Pot" "lost" "LSilkMill$Row;") (by decide +kernel)) rfl (gv_402 _ _) dX4_valueOf_65 ?_
    obtain ⟨v_50, ev_50⟩ : ∃ v, pI S 500 R2 = v := ⟨_, rfl⟩
    obtain ⟨q_52, n_53, h_54, h_55, h_56, h_57, h_58⟩ := gRowQ hG haR2
    have rg_51 := gRow_500 hG haR2 h_54 h_56; rw [ev_50] at rg_51
    have pz_59 : (pI S 500 R2).toInt = v_50.toInt := by rw [ev_50]
    refine r_getI (g := 500) (x := v_50) X hw haR2 rfl 0 ev_50 (by decide) rfl inn_X4_valueOf_5 (by decide) (X.2.2.2.1 (.fieldLink RX4 73 "SilkMill$Row" "size" "I") (by decide +kernel)) rfl (gv_500 _ _) dX4_valueOf_68 ?_
    have sz_60 := RowIs_sz pv_3
    exact ret_i X hw hr hlocks (Nat.le_of_ble_eq_true rfl) (Nat.le_of_ble_eq_true rfl) ⟨rfl, ⟨z_lo _, z_hi _, by rw [valF_3 (show a1.toInt = 3 by omega), ← sz_60, ev_50]⟩⟩ dX4_valueOf_71
  · refine lv_tableIn (tgt := 72) X.1 X.2.1 dX4_valueOf_1 (by omega) (by omega) (by rw [w_22c]; rfl) (by decide) ?_
    refine lv_aload_n X.1 X.2.1 dX4_valueOf_72 rfl (lv_at hl 0 rfl) ?_
    refine r_getR (g := 403) X hw ha_x rfl 3 hr3 (by decide) rfl inn_X4_valueOf_4 (by decide) (X.2.2.2.1 (.fieldLink RX4 29 "SilkMill$Pot" "strand" "LSilkMill$Strand;") (by decide +kernel)) rfl (gv_403 _ _) dX4_valueOf_73 ?_
    refine r_getI (g := 902) (x := v_12) X hw haGs rfl 2 ev_12 (by decide) rfl inn_X4_valueOf_9 (by decide) (X.2.2.2.1 (.fieldLink RX4 79 "SilkMill$Strand" "metres" "I") (by decide +kernel)) rfl (gv_902 _ _) dX4_valueOf_76 ?_
    have pz_61 : (pI S 902 Gs).toInt = v_12.toInt := (congrArg Int32.toInt ev_12).trans rfl
    exact ret_i X hw hr hlocks (Nat.le_of_ble_eq_true rfl) (Nat.le_of_ble_eq_true rfl) ⟨rfl, ⟨z_lo _, z_hi _, by rw [valF_4 (show a1.toInt = 4 by omega)]; omega⟩⟩ dX4_valueOf_79
  · refine lv_tableIn (tgt := 80) X.1 X.2.1 dX4_valueOf_1 (by omega) (by omega) (by rw [w_22c]; rfl) (by decide) ?_
    refine lv_aload_n X.1 X.2.1 dX4_valueOf_80 rfl (lv_at hl 0 rfl) ?_
    refine r_getR (g := 401) X hw ha_x rfl 1 hr1 (by decide) rfl inn_X4_valueOf_4 (by decide) (X.2.2.2.1 (.fieldLink RX4 20 "SilkMill$Pot" "ends" "LSilkMill$Row;") (by decide +kernel)) rfl (gv_401 _ _) dX4_valueOf_81 ?_
    refine lv_aload_n X.1 X.2.1 dX4_valueOf_84 rfl (lv_at hl 0 rfl) ?_
    refine r_getR (g := 401) X hw ha_x rfl 1 hr1 (by decide) rfl inn_X4_valueOf_4 (by decide) (X.2.2.2.1 (.fieldLink RX4 20 "SilkMill$Pot" "ends" "LSilkMill$Row;") (by decide +kernel)) rfl (gv_401 _ _) dX4_valueOf_85 ?_
    refine k_i (rm := { frames := 3, cells := 0, slots := 0, locals := 144 }) (av := [.ref R1]) X hw (va_runV (As := []) (rest := [.ref R1]) (cfix X) (k_X5_thinnest5 l G cy κ S _ R1 (qe A) 12 hG haR1 pv_2) (cwV 0 X.2.2.2.1 gX4_valueOf_X5_thinnest rfl rfl rfl (by decide +kernel) ⟨Nat.le_of_ble_eq_true rfl, Nat.le_of_ble_eq_true rfl⟩) (pre_V X hw _ haR1 rfl (by decide) rfl) rfl rfl hl.1 rfl (lv_room (Nat.le_of_ble_eq_true rfl)) dX4_valueOf_88 ⟨Nat.le_of_ble_eq_true rfl, Nat.le_of_ble_eq_true rfl⟩) 0 0 (Nat.le_of_ble_eq_true rfl) (Nat.le_of_ble_eq_true rfl) (fun rr_62 S_63 H locs hp hw hfr hnw => ?_)
    obtain ⟨e2, hp⟩ := hp
    subst e2
    obtain ⟨th_64, th_65, th_66⟩ := hp
    have th_67 := th_66.trans (thi_fv (A := A) hp_3 pv_10 pv_11)
    refine k_q (rm := { frames := 2, cells := 0, slots := 0, locals := 96 }) (av := [.ref R1, .int (rr_62)]) X hw (va_runV (As := [.int (rr_62)]) (rest := []) (cfix X) (k_X5_at5 l G cy κ S _ R1 (rr_62) (rr_62.toInt) (qe A) 12 hG haR1 rfl pv_2) (cwV 1 X.2.2.2.1 gX4_valueOf_X5_at rfl rfl rfl (by decide +kernel) ⟨Nat.le_of_ble_eq_true rfl, Nat.le_of_ble_eq_true rfl⟩) (pre_V X hw _ haR1 rfl (by decide) rfl) rfl rfl hl.1 rfl (lv_room (Nat.le_of_ble_eq_true rfl)) dX4_valueOf_91 ⟨Nat.le_of_ble_eq_true rfl, Nat.le_of_ble_eq_true rfl⟩) 0 0 (Nat.le_of_ble_eq_true rfl) (Nat.le_of_ble_eq_true rfl) (fun rr_68 S_69 H locs hp hw hfr hnw => ?_)
    obtain ⟨e2, hp⟩ := hp
    subst e2
    obtain ⟨hq_70, hnf_71⟩ := hp
    rcases rr_68 with _ | q_72
    · refine W.eq (g2 := F0 m 94 ls (.null :: [])) rfl ?_
      have nf_73 := hnf_71 rfl
      refine k_i (rm := { frames := 2, cells := 0, slots := 0, locals := 96 }) (av := [.null]) X hw (va_runS (As := [.null]) (rest := []) (cfix X) (k_X4_finenessOf5 l G cy κ S _ none hG (fun q h => by cases h)) (cwS 1 X.2.2.2.1 gX4_valueOf_X4_finenessOf rfl rfl rfl (by decide +kernel) ⟨Nat.le_of_ble_eq_true rfl, Nat.le_of_ble_eq_true rfl⟩) (pre_S X hw _) rfl rfl hl.1 rfl (lv_room (Nat.le_of_ble_eq_true rfl)) dX4_valueOf_94 ⟨Nat.le_of_ble_eq_true rfl, Nat.le_of_ble_eq_true rfl⟩) 0 0 (Nat.le_of_ble_eq_true rfl) (Nat.le_of_ble_eq_true rfl) (fun rr_74 S_75 H locs hp hw hfr hnw => ?_)
      obtain ⟨e2, hp⟩ := hp
      subst e2
      obtain ⟨fo_76, fo_77, fo_78, fo_79⟩ := hp
      exact ret_i X hw hr hlocks (Nat.le_of_ble_eq_true rfl) (Nat.le_of_ble_eq_true rfl) ⟨rfl, ⟨z_lo _, z_hi _, by rw [valF_5n (show a1.toInt = 5 by omega) (by rw [← th_67]; exact nf_73), fo_79 rfl]; decide⟩⟩ dX4_valueOf_97
    · refine W.eq (g2 := F0 m 94 ls (.ref q_72 :: [])) rfl ?_
      obtain ⟨ha_80, f_81, f_82, f_83⟩ := hq_70 _ rfl
      refine k_i (rm := { frames := 2, cells := 0, slots := 0, locals := 96 }) (av := [.ref q_72]) X hw (va_runS (As := [.ref q_72]) (rest := []) (cfix X) (k_X4_finenessOf5 l G cy κ S _ (some q_72) hG (fun q h => by cases h; exact ha_80)) (cwS 1 X.2.2.2.1 gX4_valueOf_X4_finenessOf rfl rfl rfl (by decide +kernel) ⟨Nat.le_of_ble_eq_true rfl, Nat.le_of_ble_eq_true rfl⟩) (pre_S X hw _) rfl rfl hl.1 rfl (lv_room (Nat.le_of_ble_eq_true rfl)) dX4_valueOf_94 ⟨Nat.le_of_ble_eq_true rfl, Nat.le_of_ble_eq_true rfl⟩) 0 0 (Nat.le_of_ble_eq_true rfl) (Nat.le_of_ble_eq_true rfl) (fun rr_84 S_85 H locs hp hw hfr hnw => ?_)
      obtain ⟨e2, hp⟩ := hp
      subst e2
      obtain ⟨fo_86, fo_87, fo_88, fo_89⟩ := hp
      exact ret_i X hw hr hlocks (Nat.le_of_ble_eq_true rfl) (Nat.le_of_ble_eq_true rfl) ⟨rfl, ⟨z_lo _, z_hi _, by rw [valF_5c (show a1.toInt = 5 by omega) (by rw [← th_67]; exact f_81) (by rw [← th_67]; exact f_83), fo_88 _ rfl, (fin_fv hp_3 pv_10 (pv_11 _ (Or.inr (Or.inl (ix_mem f_83)))))]⟩⟩ dX4_valueOf_97
