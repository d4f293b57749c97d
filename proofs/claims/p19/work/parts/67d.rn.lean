/-! ===== rules ===== -/
def RuS (S : PS) (x : Nat) (R : List Ru) : Prop := ∃ ρ, pR S 409 x = some ρ ∧ RuIs S ρ R
theorem ru_at {S : PS} {x ρ : Nat} (hG : GX S) (hx : At S x 4) (h : pR S 409 x = some ρ) : At S ρ 6 := by
  obtain ⟨c, k1, k2⟩ := gQ_4_409 hG hx
  rw [k1] at h
  cases h
  exact k2
theorem RuS_fr {M : List Nat} {S T : PS} {x : Nat} {R : List Ru} (hG : GX S) (hx : At S x 4) (hF : Fr M S T) (hM : ([409, 600, 601, 602, 603, 604, 605, 606, 10034, 10134] : List Nat).all (fun g => !M.contains g) = true) (h : RuS S x R) : RuS T x R := by
  obtain ⟨ρ, h1, h2⟩ := h
  exact ⟨ρ, hF.R' (allc hM (by decide)) hx h1, RuIs_fr hG (ru_at hG hx h1) hF (List.all_eq_true.mpr (fun g hg => List.all_eq_true.mp hM g (List.mem_cons_of_mem _ hg))) h2⟩
theorem RuS_sI {S T : PS} {x g a : Nat} {v : Int32} {R : List Ru} (h : RuS S x R) (e : T = sI S g a v) (hg : 600 ≠ g) : RuS T x R := by
  obtain ⟨ρ, h1, h2⟩ := h
  exact ⟨ρ, by rw [e]; exact h1, RuIs_sI h2 e hg⟩
theorem allP_of {E : En} {A : Pt} {L : List (Int32 × Int32 × Int32)} (h : ∀ (j : Nat) (c : Int32 × Int32 × Int32), L[j]? = some c → relP c.2.1 (valF E A c.1) c.2.2.toInt) : allP E A L := fun c hc => by
  obtain ⟨j, hj⟩ := List.mem_iff_getElem?.mp hc
  exact h j c hj
theorem inD_act {E : En} {D : Nat → Prop} {A : Pt} {a m : Int32} (h : InD D A) : InD D (actF E a m A) := by
  unfold actF
  split
  · exact inD_cas h
  · split
    · exact inD_dro h
    · split
      · exact inD_fnd h
      · split
        · exact inD_thr h
        · split
          · exact inD_cut h
          · exact h
def cutR (A : Pt) : Int := if qg A = [] then -1 else if (qsk A).length < 40 then ((qsk A).length : Int) else -2
theorem cutR_n {A : Pt} (h : qg A = []) : cutR A = -1 := if_pos h
theorem cutR_k {A : Pt} (h : qg A ≠ []) (h2 : (qsk A).length < 40) : cutR A = ((qsk A).length : Int) := (if_neg h).trans (if_pos h2)
theorem cutR_w {A : Pt} (h : qg A ≠ []) (h2 : ¬ (qsk A).length < 40) : cutR A = -2 := (if_neg h).trans (if_neg h2)
/-- a metre of a cocoon is drawn -/
def DrO (S T : PS) (x : Nat) : Prop := ((pI S 2 x).toInt ≤ (pI S 4 x + 1).toInt ∧ T = sI (sI S 4 x (pI S 4 x + 1)) 3 x 4) ∨ (¬ (pI S 2 x).toInt ≤ (pI S 4 x + 1).toInt ∧ brI (pI S 7 x) (pI S 9 x) (pI S 1 x) (pI S 4 x) ∧ T = sI (sI S 4 x (pI S 4 x + 1)) 3 x 3) ∨ (¬ (pI S 2 x).toInt ≤ (pI S 4 x + 1).toInt ∧ ¬ brI (pI S 7 x) (pI S 9 x) (pI S 1 x) (pI S 4 x) ∧ T = sI S 4 x (pI S 4 x + 1))
noncomputable def sdV (E : En) (A : Pt) (c : Nat) : Int32 := if (elen E c).toInt ≤ (qpl A c + 1).toInt then 4 else @ite Int32 (ebr E c (qpl A c)) (Classical.propDecidable _) 3 (qsd A c)
theorem endF_2 {E : En} {A : Pt} {c : Nat} (h : sdV E A c = 2) : endF E A c = we (wsd (wpl A (fuI (qpl A) c (qpl A c + 1))) (fuI (qsd A) c (sdV E A c))) (capL 12 (qe A) c) := if_pos h
theorem endF_3 {E : En} {A : Pt} {c : Nat} (h : sdV E A c = 3) : endF E A c = wl (wsd (wpl A (fuI (qpl A) c (qpl A c + 1))) (fuI (qsd A) c (sdV E A c))) (capL 600 (ql A) c) := (if_neg (show ¬ sdV E A c = 2 by rw [h]; decide)).trans (if_pos h)
theorem endF_n {E : En} {A : Pt} {c : Nat} (h2 : sdV E A c ≠ 2) (h3 : sdV E A c ≠ 3) : endF E A c = wsd (wpl A (fuI (qpl A) c (qpl A c + 1))) (fuI (qsd A) c (sdV E A c)) := (if_neg h2).trans (if_neg h3)
theorem inD_end {E : En} {D : Nat → Prop} {A : Pt} {c : Nat} (h : InD D A) (hc : D c) : InD D (endF E A c) := by
  by_cases h2 : sdV E A c = 2
  · rw [endF_2 h2]
    intro d hd
    rcases hd with z | z | z
    · exact h d (Or.inl z)
    · rcases capL_mem (show d ∈ capL 12 (qe A) c from z) with y | y
      · exact h d (Or.inr (Or.inl y))
      · rw [y]; exact hc
    · exact h d (Or.inr (Or.inr z))
  · by_cases h3 : sdV E A c = 3
    · rw [endF_3 h3]
      intro d hd
      rcases hd with z | z | z
      · exact h d (Or.inl z)
      · exact h d (Or.inr (Or.inl z))
      · rcases capL_mem (show d ∈ capL 600 (ql A) c from z) with y | y
        · exact h d (Or.inr (Or.inr y))
        · rw [y]; exact hc
    · rw [endF_n h2 h3]; exact h
/-- what a drawn metre does to places and stands -/
theorem DrO_co {S T : PS} {D : Nat → Prop} {P K x : Nat} {E : En} {A : Pt} (hE : EnC S D P K E) (hc : CoP S D (qpl A) (qsd A)) (hd : D x) (h : DrO S T x) : CoP T D (fuI (qpl A) x (qpl A x + 1)) (fuI (qsd A) x (sdV E A x)) ∧ pI T 3 x = sdV E A x := by
  obtain ⟨e1, -, e3⟩ := hE.1 x hd
  obtain ⟨c4, c3⟩ := hc x hd
  have key : ∀ v : Int32, (∀ g a, pI T g a = if a = x then (if g = 4 then pI S 4 x + 1 else if g = 3 then v else pI S g x) else pI S g a) → v = sdV E A x → CoP T D (fuI (qpl A) x (qpl A x + 1)) (fuI (qsd A) x (sdV E A x)) ∧ pI T 3 x = sdV E A x := by
    intro v hT hv
    refine ⟨fun c hc2 => ?_, by rw [hT 3 x, if_pos rfl, if_neg (by decide), if_pos rfl]; exact hv⟩
    unfold fuI
    rw [hT 4 c, hT 3 c]
    by_cases z : c = x
    · rw [if_pos z, if_pos z, if_pos z, if_pos z, if_pos rfl, if_neg (by decide), if_pos rfl, c4]
      exact ⟨rfl, hv⟩
    · rw [if_neg z, if_neg z, if_neg z, if_neg z]
      exact hc c hc2
  have s1 : ∀ g a, pI (sI S 4 x (pI S 4 x + 1)) g a = if a = x then (if g = 4 then pI S 4 x + 1 else pI S g x) else pI S g a := fun g a => by
    by_cases z : a = x
    · subst z
      rw [if_pos rfl]
      by_cases y : g = 4
      · subst y; rw [if_pos rfl]; exact pI_sI_same
      · rw [if_neg y]; exact pI_sI_nf y
    · rw [if_neg z]; exact pI_sI_ne z
  have s2 : ∀ v : Int32, ∀ g a, pI (sI (sI S 4 x (pI S 4 x + 1)) 3 x v) g a = if a = x then (if g = 4 then pI S 4 x + 1 else if g = 3 then v else pI S g x) else pI S g a := fun v g a => by
    by_cases z : a = x
    · subst z
      rw [if_pos rfl]
      by_cases y : g = 3
      · subst y; rw [if_neg (by decide), if_pos rfl]; exact pI_sI_same
      · rw [pI_sI_nf y, s1, if_pos rfl, if_neg y]
    · rw [if_neg z, pI_sI_ne z, s1, if_neg z]
  unfold sdV at *
  rcases h with ⟨h1, h2⟩ | ⟨h1, h2, h3⟩ | ⟨h1, h2, h3⟩
  · rw [c4] at h1
    exact key 4 (by rw [h2]; exact s2 4) (by rw [e1, if_pos h1])
  · rw [c4] at h1 h2
    exact key 3 (by rw [h3]; exact s2 3) (by rw [e1, if_neg h1, if_pos ((e3 _).mpr h2)])
  · rw [c4] at h1 h2
    refine key (qsd A x) (fun g a => ?_) (by rw [e1, if_neg h1, if_neg (fun z => h2 ((e3 _).mp z))])
    rw [h3, s1]
    by_cases z : a = x
    · subst z
      rw [if_pos rfl, if_pos rfl]
      by_cases y : g = 4
      · rw [if_pos y, if_pos y]
      · rw [if_neg y, if_neg y]
        by_cases y3 : g = 3
        · subst y3; rw [if_pos rfl]; exact c3
        · rw [if_neg y3]
    · rw [if_neg z, if_neg z]
theorem inD_tl {D : Nat → Prop} {A : Pt} {c : Nat} {t : List Nat} (h : InD D A) (e : qe A = c :: t) : InD D (we A t) := fun d hd => by
  rcases hd with z | z | z
  · exact h d (Or.inl z)
  · exact h d (Or.inr (Or.inl (by rw [e]; exact List.mem_cons_of_mem _ z)))
  · exact h d (Or.inr (Or.inr z))
theorem inD_stp {E : En} {D : Nat → Prop} {A : Pt} (h : InD D A) : InD D (stpF E A) := by
  cases e : qe A with
  | nil => rw [stpF_n e]; exact h
  | cons c t =>
    rw [stpF_c e]
    have hc : c ∈ qe A := by rw [e]; exact List.mem_cons_self
    exact inD_end (A := we A t) (fun d hd => by
      rcases hd with z | z | z
      · exact h d (Or.inl z)
      · exact h d (Or.inr (Or.inl (by rw [e]; exact List.mem_cons_of_mem _ z)))
      · exact h d (Or.inr (Or.inr z))) (h c (Or.inr (Or.inl hc)))
theorem inD_ends {E : En} {D : Nat → Prop} {A : Pt} (h : InD D A) : ∀ n, InD D (endsF E n A)
  | 0 => h
  | n + 1 => inD_stp (inD_ends h n)
theorem inD_ru {E : En} {D : Nat → Prop} {A : Pt} {r : Ru} (h : InD D A) : InD D (ruF E A r) := by
  by_cases e : allP E A r.2.2
  · rw [ruF_y e]; exact inD_act h
  · rw [ruF_n e]; exact h
theorem inD_rus {E : En} {D : Nat → Prop} : ∀ {R : List Ru} {A : Pt}, InD D A → InD D (rusF E A R)
  | [], _, h => h
  | r :: t, A, h => inD_rus (R := t) (A := ruF E A r) (inD_ru h)
/-! ===== the tick, in pieces ===== -/
noncomputable def drwB (E : En) (A : Pt) : Pt := endsF E (qe A).length (wdr (wg A (capG (qg A) ((qe A).map (fun c => (c, qpl A c))))) (qdr A + 1))
theorem drwF_c {E : En} {A : Pt} (h : 300 ≤ (qg (drwB E A)).length) : drwF E A = cutF E (drwB E A) := if_pos h
theorem drwF_n {E : En} {A : Pt} (h : ¬ 300 ≤ (qg (drwB E A)).length) : drwF E A = drwB E A := if_neg h
theorem inD_drw {E : En} {D : Nat → Prop} {A : Pt} (h : InD D A) : InD D (drwF E A) := by
  have hB : InD D (drwB E A) := inD_ends (A := wdr (wg A (capG (qg A) ((qe A).map (fun c => (c, qpl A c))))) (qdr A + 1)) h _
  by_cases e : 300 ≤ (qg (drwB E A)).length
  · rw [drwF_c e]; exact inD_cut hB
  · rw [drwF_n e]; exact hB
noncomputable def ticB (E : En) (R : List Ru) (A : Pt) : Pt := if qst (seaF E (wtk A (qtk A + 1))) = 0 then rusF E (seaF E (wtk A (qtk A + 1))) R else seaF E (wtk A (qtk A + 1))
theorem ticF_s {E : En} {R : List Ru} {A : Pt} (h : 0 < (qst (ticB E R A)).toInt) : ticF E R A = (wst (ticB E R A) (qst (ticB E R A) - 1), False) := if_pos h
theorem ticF_0 {E : En} {R : List Ru} {A : Pt} (h : ¬ 0 < (qst (ticB E R A)).toInt) (h2 : qe (ticB E R A) = []) : ticF E R A = (ticB E R A, False) := (if_neg h).trans (if_pos h2)
theorem ticF_d {E : En} {R : List Ru} {A : Pt} (h : ¬ 0 < (qst (ticB E R A)).toInt) (h2 : qe (ticB E R A) ≠ []) : ticF E R A = (drwF E (ticB E R A), True) := (if_neg h).trans (if_neg h2)
theorem inD_tic {E : En} {R : List Ru} {D : Nat → Prop} {A : Pt} (h : InD D A) : InD D (ticF E R A).1 := by
  have hB : InD D (ticB E R A) := by
    unfold ticB
    split
    · exact inD_rus (inD_sea (A := wtk A (qtk A + 1)) h)
    · exact inD_sea (A := wtk A (qtk A + 1)) h
  by_cases h1 : 0 < (qst (ticB E R A)).toInt
  · rw [ticF_s h1]; exact hB
  · by_cases h2 : qe (ticB E R A) = []
    · rw [ticF_0 h1 h2]; exact hB
    · rw [ticF_d h1 h2]; exact inD_drw hB
/-! ===== pieces of a pot: nothing is twice in its rows ===== -/
def cnA (A : Pt) (c : Nat) : Nat := (qb A).count c + (qe A).count c + (ql A).count c
theorem con_cn {L : List Nat} {c d : Nat} : (c :: L).count d = [c].count d + L.count d := by
  rw [show c :: L = [c] ++ L from rfl, List.count_append]
theorem cap_cn {n : Nat} {L : List Nat} {c d : Nat} : (capL n L c).count d ≤ L.count d + [c].count d := by
  unfold capL
  split
  · rw [List.count_append]
    exact Nat.le_refl _
  · exact Nat.le_add_right _ _
theorem caf_cn {n : Nat} {L : List Nat} {c d : Nat} : (capF n L c).count d ≤ L.count d + [c].count d := by
  unfold capF
  split
  · rw [con_cn]
    omega
  · exact Nat.le_add_right _ _
theorem er_cn : ∀ {L : List Nat} {i c : Nat} (d : Nat), L[i]? = some c → (L.eraseIdx i).count d + [c].count d = L.count d
  | [], _, _, _, h => by
    rw [List.getElem?_nil] at h
    cases h
  | a :: t, 0, c, d, h => by
    rw [List.getElem?_cons_zero] at h
    cases h
    rw [con_cn (L := t)]
    show t.count d + _ = _
    omega
  | a :: t, i + 1, c, d, h => by
    rw [List.getElem?_cons_succ] at h
    have ih := er_cn d h
    show (a :: t.eraseIdx i).count d + _ = _
    rw [con_cn (L := t), con_cn (L := t.eraseIdx i)]
    omega
theorem nd_i : ∀ {L : List Nat}, (∀ c, L.count c ≤ 1) → ∀ {i j c : Nat}, L[i]? = some c → L[j]? = some c → i = j
  | [], _, _, _, _, h, _ => by
    rw [List.getElem?_nil] at h
    cases h
  | a :: t, hn, i, j, c, hi, hj => by
    have h1 := hn c
    rw [con_cn] at h1
    have tw : ∀ k, (a :: t)[0]? = some c → t[k]? = some c → False := fun k h0 hk => by
      rw [List.getElem?_cons_zero] at h0
      cases h0
      have p1 : 0 < [a].count a := List.count_pos_iff.mpr (List.mem_singleton.mpr rfl)
      have p2 : 0 < t.count a := List.count_pos_iff.mpr (List.mem_of_getElem? hk)
      omega
    cases i with
    | zero =>
      cases j with
      | zero => rfl
      | succ j =>
        rw [List.getElem?_cons_succ] at hj
        exact absurd hj (fun z => tw j hi z)
    | succ i =>
      rw [List.getElem?_cons_succ] at hi
      cases j with
      | zero => exact absurd hi (fun z => tw i hj z)
      | succ j =>
        rw [List.getElem?_cons_succ] at hj
        rw [nd_i (fun d => by have h := hn d; rw [con_cn] at h; omega) hi hj]
theorem cn_fet {A : Pt} (d : Nat) : cnA (fetF A) d ≤ cnA A d := by
  cases e : ql A with
  | nil =>
    rw [fetF_n e]
    exact Nat.le_refl _
  | cons c t =>
    rw [fetF_c e]
    show (capL 600 (qb A) c).count d + (qe A).count d + t.count d ≤ (qb A).count d + (qe A).count d + (ql A).count d
    rw [e, con_cn (L := t)]
    have := cap_cn (n := 600) (L := qb A) (c := c) (d := d)
    omega
theorem cn_sea {E : En} {A : Pt} (d : Nat) : cnA (seaF E A) d ≤ cnA A d := by
  by_cases h : ql A = []
  · rw [seaF_n h]
    exact Nat.le_refl _
  · by_cases h2 : (qse A + 1).toInt < (efind E).toInt
    · rw [seaF_w h h2]
      exact Nat.le_refl _
    · rw [seaF_f h h2]
      exact cn_fet (A := wse A 0) d
theorem cn_cas {A : Pt} (d : Nat) : cnA (casF A) d ≤ cnA A d := by
  cases e : qb A with
  | nil =>
    rw [casF_n (Or.inl e)]
    exact Nat.le_refl _
  | cons c t =>
    by_cases h : (qe A).length < 12
    · rw [casF_c e h]
      show t.count d + (capL 12 (qe A) c).count d + (ql A).count d ≤ (qb A).count d + (qe A).count d + (ql A).count d
      rw [e, con_cn (L := t)]
      have := cap_cn (n := 12) (L := qe A) (c := c) (d := d)
      omega
    · rw [casF_n (Or.inr h)]
      exact Nat.le_refl _
theorem cn_dro {E : En} {A : Pt} (d : Nat) : cnA (droF E A) d ≤ cnA A d := by
  by_cases h0 : 0 ≤ thiF E A ∧ thiF E A < ((qe A).length : Int)
  · obtain ⟨c, hc⟩ : ∃ c, (qe A)[(thiF E A).toNat]? = some c := ⟨_, List.getElem?_eq_getElem (by omega)⟩
    rw [droF_c h0.1 hc]
    show (capF 600 (qb A) c).count d + ((qe A).eraseIdx (thiF E A).toNat).count d + (ql A).count d ≤ (qb A).count d + (qe A).count d + (ql A).count d
    have h1 := er_cn d hc
    have h2 := caf_cn (n := 600) (L := qb A) (c := c) (d := d)
    omega
  · rw [droF_n h0]
    exact Nat.le_refl _
theorem cn_fnd {A : Pt} (d : Nat) : cnA (fndF A) d ≤ cnA A d := by
  by_cases h : ql A = []
  · rw [fndF_n h]
    exact Nat.le_refl _
  · rw [fndF_c h]
    exact cn_fet d
theorem cn_thr {A : Pt} (d : Nat) : cnA (throF A) d ≤ cnA A d := by
  cases e : (qb A)[(qb A).length - 1]? with
  | none =>
    have h : throF A = A := by
      unfold throF
      rw [e]
    rw [h]
    exact Nat.le_refl _
  | some c =>
    rw [throF_c e]
    show ((qb A).eraseIdx ((qb A).length - 1)).count d + (qe A).count d + (ql A).count d ≤ (qb A).count d + (qe A).count d + (ql A).count d
    have h1 := er_cn d e
    omega
theorem gs_fet {A : Pt} : qg (fetF A) = qg A ∧ qsk (fetF A) = qsk A := by
  cases e : ql A with
  | nil =>
    rw [fetF_n e]
    exact ⟨rfl, rfl⟩
  | cons c t =>
    rw [fetF_c e]
    exact ⟨rfl, rfl⟩
theorem gs_sea {E : En} {A : Pt} : qg (seaF E A) = qg A ∧ qsk (seaF E A) = qsk A := by
  by_cases h : ql A = []
  · rw [seaF_n h]
    exact ⟨rfl, rfl⟩
  · by_cases h2 : (qse A + 1).toInt < (efind E).toInt
    · rw [seaF_w h h2]
      exact ⟨rfl, rfl⟩
    · rw [seaF_f h h2]
      exact gs_fet (A := wse A 0)
theorem gs_cas {A : Pt} : qg (casF A) = qg A ∧ qsk (casF A) = qsk A := by
  cases e : qb A with
  | nil =>
    rw [casF_n (Or.inl e)]
    exact ⟨rfl, rfl⟩
  | cons c t =>
    by_cases h : (qe A).length < 12
    · rw [casF_c e h]
      exact ⟨rfl, rfl⟩
    · rw [casF_n (Or.inr h)]
      exact ⟨rfl, rfl⟩
theorem gs_dro {E : En} {A : Pt} : qg (droF E A) = qg A ∧ qsk (droF E A) = qsk A := by
  by_cases h0 : 0 ≤ thiF E A ∧ thiF E A < ((qe A).length : Int)
  · obtain ⟨c, hc⟩ : ∃ c, (qe A)[(thiF E A).toNat]? = some c := ⟨_, List.getElem?_eq_getElem (by omega)⟩
    rw [droF_c h0.1 hc]
    exact ⟨rfl, rfl⟩
  · rw [droF_n h0]
    exact ⟨rfl, rfl⟩
theorem gs_fnd {A : Pt} : qg (fndF A) = qg A ∧ qsk (fndF A) = qsk A := by
  by_cases h : ql A = []
  · rw [fndF_n h]
    exact ⟨rfl, rfl⟩
  · rw [fndF_c h]
    exact gs_fet
theorem gs_thr {A : Pt} : qg (throF A) = qg A ∧ qsk (throF A) = qsk A := by
  cases e : (qb A)[(qb A).length - 1]? with
  | none =>
    have h : throF A = A := by
      unfold throF
      rw [e]
    rw [h]
    exact ⟨rfl, rfl⟩
  | some c =>
    rw [throF_c e]
    exact ⟨rfl, rfl⟩
theorem cn_cut {E : En} {A : Pt} (d : Nat) : cnA (cutF E A) d = cnA A d := by
  by_cases h : qg A = []
  · rw [cutF_n h]
  · by_cases h2 : (qsk A).length < 40
    · rw [cutF_k h h2]
      rfl
    · rw [cutF_w h h2]
      rfl
theorem qg_cut {E : En} {A : Pt} : qg (cutF E A) = [] := by
  by_cases h : qg A = []
  · rw [cutF_n h]
    exact h
  · by_cases h2 : (qsk A).length < 40
    · rw [cutF_k h h2]
      rfl
    · rw [cutF_w h h2]
      rfl
theorem cn_end {E : En} {A : Pt} {c : Nat} (d : Nat) : cnA (endF E A c) d ≤ cnA A d + [c].count d := by
  by_cases h2 : sdV E A c = 2
  · rw [endF_2 h2]
    show (qb A).count d + (capL 12 (qe A) c).count d + (ql A).count d ≤ (qb A).count d + (qe A).count d + (ql A).count d + _
    have := cap_cn (n := 12) (L := qe A) (c := c) (d := d)
    omega
  · by_cases h3 : sdV E A c = 3
    · rw [endF_3 h3]
      show (qb A).count d + (qe A).count d + (capL 600 (ql A) c).count d ≤ (qb A).count d + (qe A).count d + (ql A).count d + _
      have := cap_cn (n := 600) (L := ql A) (c := c) (d := d)
      omega
    · rw [endF_n h2 h3]
      exact Nat.le_add_right _ _
theorem cn_stp {E : En} {A : Pt} (d : Nat) : cnA (stpF E A) d ≤ cnA A d := by
  cases e : qe A with
  | nil =>
    rw [stpF_n e]
    exact Nat.le_refl _
  | cons c t =>
    rw [stpF_c e]
    have h := cn_end (E := E) (A := we A t) (c := c) d
    have h2 : cnA (we A t) d + [c].count d = cnA A d := by
      show (qb A).count d + t.count d + (ql A).count d + _ = (qb A).count d + (qe A).count d + (ql A).count d
      rw [e, con_cn (L := t)]
      omega
    omega
theorem cn_ends {E : En} {A : Pt} (d : Nat) : ∀ n, cnA (endsF E n A) d ≤ cnA A d
  | 0 => Nat.le_refl _
  | n + 1 => Nat.le_trans (cn_stp d) (cn_ends d n)
theorem end_q {E : En} {A : Pt} {c : Nat} : (∃ Y, qe (endF E A c) = qe A ++ Y) ∧ (∀ d, d ≠ c → qpl (endF E A c) d = qpl A d) ∧ qg (endF E A c) = qg A ∧ qsk (endF E A c) = qsk A := by
  have pl : ∀ d, d ≠ c → fuI (qpl A) c (qpl A c + 1) d = qpl A d := fun d h => if_neg h
  by_cases h2 : sdV E A c = 2
  · rw [endF_2 h2]
    refine ⟨?_, pl, rfl, rfl⟩
    show ∃ Y, capL 12 (qe A) c = qe A ++ Y
    unfold capL
    split
    · exact ⟨_, rfl⟩
    · exact ⟨[], (List.append_nil _).symm⟩
  · by_cases h3 : sdV E A c = 3
    · rw [endF_3 h3]
      exact ⟨⟨[], (List.append_nil _).symm⟩, pl, rfl, rfl⟩
    · rw [endF_n h2 h3]
      exact ⟨⟨[], (List.append_nil _).symm⟩, pl, rfl, rfl⟩
theorem ends_q {E : En} {A : Pt} : ∀ j, j ≤ (qe A).length → (∃ X, qe (endsF E j A) = (qe A).drop j ++ X) ∧ (∀ c, (∀ i : Nat, i < j → (qe A)[i]? ≠ some c) → qpl (endsF E j A) c = qpl A c) ∧ qg (endsF E j A) = qg A ∧ qsk (endsF E j A) = qsk A
  | 0, _ => ⟨⟨[], by rw [List.drop_zero, List.append_nil]; rfl⟩, fun _ _ => rfl, rfl, rfl⟩
  | j + 1, hj => by
    obtain ⟨⟨X, h1⟩, h2, h3, h4⟩ := ends_q (E := E) (A := A) j (by omega)
    rw [List.drop_eq_getElem_cons (by omega)] at h1
    have h1' : qe (endsF E j A) = (qe A)[j] :: ((qe A).drop (j + 1) ++ X) := h1
    have es : endsF E (j + 1) A = endF E (we (endsF E j A) ((qe A).drop (j + 1) ++ X)) (qe A)[j] := stpF_c h1'
    obtain ⟨⟨Y, k1⟩, k2, k3, k4⟩ := end_q (E := E) (A := we (endsF E j A) ((qe A).drop (j + 1) ++ X)) (c := (qe A)[j])
    rw [es]
    refine ⟨⟨X ++ Y, ?_⟩, fun c hc => ?_, k3.trans h3, k4.trans h4⟩
    · rw [k1]
      show ((qe A).drop (j + 1) ++ X) ++ Y = _
      rw [List.append_assoc]
    · rw [k2 c (fun z => hc j (by omega) (by rw [List.getElem?_eq_getElem (by omega), z]))]
      exact h2 c (fun i hi => hc i (by omega))
abbrev MTa (A : Pt) : Mt := (qe A).map (fun c => (c, qpl A c))
abbrev DRa (A : Pt) : Pt := wdr (wg A (capG (qg A) ((qe A).map (fun c => (c, qpl A c))))) (qdr A + 1)
theorem pcs_len : ∀ {g : List Mt} {n : Nat} {pm : Mt}, (∀ m, m ∈ g → m.length ≤ 12) → (pcR n pm g).length ≤ 12 * g.length
  | [], _, _, _ => Nat.le_refl _
  | m :: r, n, pm, h => by
    have ih := pcs_len (g := r) (n := n + 1) (pm := m) (fun y hy => h y (List.mem_cons_of_mem _ hy))
    have h1 := h m List.mem_cons_self
    have h2 := List.length_filter_le (fun z : Nat × Int32 => !inB z.1 pm) m
    show (((m.filter (fun z => !inB z.1 pm)).map (fun z => (z.1, n, z.2))) ++ pcR (n + 1) m r).length ≤ 12 * (r.length + 1)
    rw [List.length_append, List.length_map]
    omega
theorem pcs_len1 {g : List Mt} {t : Mt} (h : ∀ m, m ∈ g → m.length ≤ 12) : (pcs (g ++ [t])).length ≤ 12 * g.length + t.length := by
  unfold pcs
  have h1 := pcs_len (n := 0) (pm := []) h
  have h2 := List.length_filter_le (fun z : Nat × Int32 => !inB z.1 (lastM [] g)) t
  rw [pcR_app, List.length_append, List.length_map]
  omega
theorem row_le {S : PS} {R n : Nat} {L : List Nat} (hG : GX S) (hR : At S R 5) (h : RowIs S R L n) : L.length ≤ n := by
  obtain ⟨q, h1, h2, h3, -⟩ := h
  obtain ⟨q', n', a1, b1, c1, d1, d2, d3, d4, -⟩ := gRow hG hR
  rw [h1] at a1
  cases a1
  omega
/-! ===== what keeps pieces ===== -/
def PzF (S T : PS) (K : Nat) : Prop := (∀ a k, At S a k → At T a k) ∧ (∀ c, At S c 0 → pI T 0 c = pI S 0 c ∧ pI T 1 c = pI S 1 c ∧ pI T 6 c = pI S 6 c) ∧ (∀ b, At S b 9 ∨ At S b 29 → pI T 904 b = pI S 904 b ∧ ∀ g, g ∈ pcG → pR T g b = pR S g b) ∧ (∀ a, At S a 14 ∨ At S a 1654 → pA T a = pA S a) ∧ mB T K 808 = mB S K 808 ∧ ∀ o, At S o 7 → pR T 703 o = pR S 703 o
def pzL : List Nat := [0, 1, 6, 904, 905, 906, 907, 908, 10014, 11654, 808, 10019, 703]
theorem pc_pz {g : Nat} (h : g ∈ pcG) : g ∈ pzL := by
  simp only [pcG, List.mem_cons, List.not_mem_nil, or_false] at h
  simp only [pzL, List.mem_cons, List.not_mem_nil, or_false]
  omega
theorem PzF_rf (S : PS) (K : Nat) : PzF S S K := ⟨fun _ _ h => h, fun _ _ => ⟨rfl, rfl, rfl⟩, fun _ _ => ⟨rfl, fun _ _ => rfl⟩, fun _ _ => rfl, rfl, fun _ _ => rfl⟩
theorem PzF_fr {M : List Nat} {S T : PS} {K : Nat} (hG : GX S) (hK : At S K 8) (hF : Fr M S T) (hM : pzL.all (fun g => !M.contains g) = true) : PzF S T K :=
  ⟨fun _ _ h => hF.at h, fun _ hc => ⟨hF.I' (g := 0) (allc hM (by decide)) hc rfl, hF.I' (g := 1) (allc hM (by decide)) hc rfl, hF.I' (g := 6) (allc hM (by decide)) hc rfl⟩,
   fun b hb => ⟨hb.elim (fun z => hF.I' (g := 904) (allc hM (by decide)) z rfl) (fun z => hF.I' (g := 904) (allc hM (by decide)) z rfl), fun _ hg => frR hF (allc hM (pc_pz hg)) (hb.elim (fun z => z.1) (fun z => z.1))⟩,
   fun _ ha => ha.elim (fun z => hF.A' (allc hM (by decide)) z) (fun z => hF.A' (allc hM (by decide)) z), mB_frc hF hK (ex3 (gQ_8_808 hG hK)) (allc hM (by decide)) (allc hM (by decide)), fun _ ho => frR hF (allc hM (by decide)) ho.1⟩
theorem PzF_sI {S T : PS} {K g a : Nat} {v : Int32} (hG : GX S) (hK : At S K 8) (e : T = sI S g a v) (hg : pzL.contains g = false) : PzF S T K := PzF_fr (M := [g]) hG hK (by rw [e]; exact Fr_sI (List.mem_singleton.mpr rfl)) (List.all_eq_true.mpr (fun y hy => by
  have hn : ¬ y = g := fun z => by rw [z] at hy; rw [List.contains_iff_mem.mpr hy] at hg; cases hg
  have : List.contains [g] y = false := by
    cases c : List.contains [g] y
    · rfl
    · exact absurd (List.mem_singleton.mp (List.contains_iff_mem.mp c)) hn
  rw [this]; rfl))
theorem PzF_tr {S T U : PS} {K : Nat} (h : PzF S T K) (h' : PzF T U K) : PzF S U K := by
  obtain ⟨a1, a2, a3, a4, a5, a6⟩ := h
  obtain ⟨b1, b2, b3, b4, b5, b6⟩ := h'
  refine ⟨fun a k z => b1 a k (a1 a k z), fun c hc => ?_, fun b hb => ?_, fun a ha => ?_, b5.trans a5, fun o ho => (b6 o (a1 o 7 ho)).trans (a6 o ho)⟩
  · obtain ⟨k1, k2, k3⟩ := a2 c hc
    obtain ⟨l1, l2, l3⟩ := b2 c (a1 c 0 hc)
    exact ⟨l1.trans k1, l2.trans k2, l3.trans k3⟩
  · obtain ⟨k1, k2⟩ := a3 b hb
    obtain ⟨l1, l2⟩ := b3 b (hb.elim (fun z => Or.inl (a1 b 9 z)) (fun z => Or.inr (a1 b 29 z)))
    exact ⟨l1.trans k1, fun g hg => (l2 g hg).trans (k2 g hg)⟩
  · exact (b4 a (ha.elim (fun z => Or.inl (a1 a 14 z)) (fun z => Or.inr (a1 a 1654 z)))).trans (a4 a ha)
theorem PzX_pf {S T : PS} {K q : Nat} {A : Nat → Prop} (hq : At S q 29) (h : PzF S T K) : PzX S T q A := ⟨h.1, fun c hc _ => (h.2.1 c hc).2.2, fun b hb => h.2.2.1 b (hb.elim Or.inl (fun z => Or.inr z.1)), fun a ha _ => h.2.2.2.1 a (Or.inl ha), fun g hg => Or.inl ((h.2.2.1 q (Or.inr hq)).2 g hg)⟩
theorem cd_pf {S T : PS} {K c : Nat} (h : PzF S T K) (hc : At S c 0) : cdS T c = cdS S c := by
  unfold cdS
  rw [(h.2.1 c hc).1, (h.2.1 c hc).2.1]
theorem PieV_to {S T : PS} {q : Nat} {g : List Mt} (h4 : pI T 904 q = pI S 904 q) (hm : ∀ k, k ∈ pcG → mA T q k = mA S q k) (hc : ∀ (i : Nat) (p : Pc), (pcs g)[i]? = some p → cdS T p.1 = cdS S p.1) (h : PieV S q g) : PieV T q g := ⟨by rw [h4]; exact h.1, fun i p hp => by
  rw [hm 905 (by decide), hm 906 (by decide), hm 907 (by decide), hm 908 (by decide), hc i p hp]
  exact h.2 i p hp⟩
theorem mA_rw {S T : PS} {q k : Nat} (hR : pR T k q = pR S k q) (hA : ∀ b, pR S k q = some b → pA T b = pA S b) : mA T q k = mA S q k := by
  unfold mA
  rw [hR]
  cases e : pR S k q with
  | none => rfl
  | some b => exact hA b e
def MtA (S : PS) (g : List Mt) : Prop := ∀ m, m ∈ g → ∀ z, z ∈ m → At S z.1 0
theorem pc_at {S : PS} {g : List Mt} (h : MtA S g) {i : Nat} {p : Pc} (hp : (pcs g)[i]? = some p) : At S p.1 0 := by
  obtain ⟨t, h1, h2⟩ := pcs_in hp
  obtain ⟨z, h3, h4⟩ := inB_i.mp h2
  rw [← h4]
  exact h t (List.mem_of_getElem? h1) z h3
theorem PieV_pf {S T : PS} {K q : Nat} {g : List Mt} (hG : GX S) (hq : At S q 29) (hg : MtA S g) (h : PzF S T K) (hV : PieV S q g) : PieV T q g := PieV_to (h.2.2.1 q (Or.inr hq)).1 (fun k hk => mA_rw ((h.2.2.1 q (Or.inr hq)).2 k hk) (fun b hb => h.2.2.2.1 b (Or.inl (pc_ar hG hq hk hb)))) (fun i p hp => cd_pf h (pc_at hg hp)) hV
theorem LpV_pf {S T : PS} {K : Nat} {g : List Mt} (hg : MtA S g) (h : PzF S T K) (hL : LpV S g) : LpV T g := fun i p hp hl => by
  rw [(h.2.1 p.1 (pc_at hg hp)).2.2]
  exact hL i p hp hl
theorem LpZ_pf {S T : PS} {K : Nat} {g : List Mt} (hg : MtA S g) (h : PzF S T K) (hL : LpZ S g) : LpZ T g := fun i p hp hl => by
  rw [(h.2.1 p.1 (pc_at hg hp)).2.2]
  exact hL i p hp hl
theorem DsO_to {S T : PS} {q : Nat} (h : ∀ g, g ∈ pcG → pR T g q = pR S g q) (hd : DsO S q) : DsO T q := fun g g' hg hg' hn => by
  rw [h g hg, h g' hg']
  exact hd g g' hg hg' hn
/-- the skeins' pieces -/
def SkP (S : PS) (K : Nat) (L : List Sk) : Prop := ∀ (k : Nat) (s : Sk), L[k]? = some s → ∃ o b, mB S K 808 k = some o ∧ pR S 703 o = some b ∧ PieV S b s.2.2.2 ∧ MtA S s.2.2.2
theorem pc_ar9 {S : PS} {q g b : Nat} (hG : GX S) (hq : At S q 9) (hg : g ∈ pcG) (h : pR S g q = some b) : At S b 1654 := by
  simp only [pcG, List.mem_cons, List.not_mem_nil, or_false] at hg
  rcases hg with e | e | e | e <;> subst e
  · obtain ⟨c, k1, k2, -⟩ := gC_9_905 hG hq; rw [k1] at h; cases h; exact k2
  · obtain ⟨c, k1, k2, -⟩ := gC_9_906 hG hq; rw [k1] at h; cases h; exact k2
  · obtain ⟨c, k1, k2, -⟩ := gC_9_907 hG hq; rw [k1] at h; cases h; exact k2
  · obtain ⟨c, k1, k2, -⟩ := gC_9_908 hG hq; rw [k1] at h; cases h; exact k2
theorem SkP_to {S T : PS} {K : Nat} {L : List Sk} (hG : GX S) (hK : At S K 8) (hat : ∀ a k, At S a k → At T a k) (hcd : ∀ c, At S c 0 → cdS T c = cdS S c) (h9 : ∀ b, At S b 9 → pI T 904 b = pI S 904 b ∧ ∀ g, g ∈ pcG → pR T g b = pR S g b) (hA : ∀ a, At S a 1654 → pA T a = pA S a) (hm : ∀ k, k < L.length → mB T K 808 k = mB S K 808 k) (h7 : ∀ o, At S o 7 → pR T 703 o = pR S 703 o) (h : SkP S K L) : SkP T K L := fun k s hs => by
  obtain ⟨o, b, h1, h2, h3, h4⟩ := h k s hs
  have ho := sk_at hG hK h1
  have hb := sk_str hG ho h2
  refine ⟨o, b, (hm k (List.getElem?_eq_some_iff.mp hs).1).trans h1, (h7 o ho).trans h2, PieV_to (h9 b hb).1 (fun g hg => mA_rw ((h9 b hb).2 g hg) (fun a ha => hA a (pc_ar9 hG hb hg ha))) (fun i p hp => hcd _ (pc_at h4 hp)) h3, fun m hm' z hz => hat _ 0 (h4 m hm' z hz)⟩
theorem SkP_pf {S T : PS} {K : Nat} {L : List Sk} (hG : GX S) (hK : At S K 8) (h : PzF S T K) (hL : SkP S K L) : SkP T K L := SkP_to hG hK h.1 (fun c hc => cd_pf h hc) (fun b hb => h.2.2.1 b (Or.inl hb)) (fun a ha => h.2.2.2.1 a (Or.inr ha)) (fun k _ => congrFun h.2.2.2.2.1 k) h.2.2.2.2.2 hL
def PzB (T : PS) (D : Nat → Prop) (q K : Nat) (A : Pt) (g : List Mt) : Prop := DsO T q ∧ (∀ c d, D c → D d → cdS T c = cdS T d → c = d) ∧ (∀ c, D c → At T c 0) ∧ (∀ m, m ∈ g → m.length ≤ 12 ∧ ∀ z, z ∈ m → D z.1) ∧ (∀ c, cnA A c ≤ 1 ∧ (0 < cnA A c → D c)) ∧ SkP T K (qsk A)
theorem PzB_a {T : PS} {D : Nat → Prop} {q K : Nat} {A : Pt} {g : List Mt} (h : PzB T D q K A g) : MtA T g := fun m hm z hz => h.2.2.1 _ ((h.2.2.2.1 m hm).2 z hz)
theorem PzB_pf {S T : PS} {D : Nat → Prop} {q K : Nat} {A B : Pt} {g : List Mt} (hG : GX S) (hq : At S q 29) (hK : At S K 8) (hP : PzF S T K) (hs : qsk B = qsk A) (hc : ∀ c, cnA B c ≤ cnA A c) (h : PzB S D q K A g) : PzB T D q K B g := by
  obtain ⟨h1, h2, h3, h4, h5, h6⟩ := h
  refine ⟨DsO_to (hP.2.2.1 q (Or.inr hq)).2 h1, fun c d hc' hd' e => h2 c d hc' hd' ?_, fun c hc' => hP.1 c 0 (h3 c hc'), h4, fun c => ⟨Nat.le_trans (hc c) (h5 c).1, fun z => (h5 c).2 (Nat.lt_of_lt_of_le z (hc c))⟩, by rw [hs]; exact SkP_pf hG hK hP h6⟩
  rw [cd_pf hP (h3 c hc'), cd_pf hP (h3 d hd')] at e
  exact e
def PzW (T : PS) (D : Nat → Prop) (q K : Nat) (A : Pt) : Prop := PzB T D q K A (qg A) ∧ PieV T q (qg A) ∧ LpZ T (qg A)
def PzT (S T : PS) (D : Nat → Prop) (q K : Nat) (A B : Pt) : Prop := PzW S D q K A → (qg A).length < 300 → PzW T D q K B ∧ (qg B).length < 300 ∧ PzX S T q (fun c => 0 < cnA A c) ∧ ∀ c, cnA B c ≤ cnA A c
def CzT (S T : PS) (D : Nat → Prop) (q K : Nat) (A B : Pt) : Prop := PzW S D q K A → PzW T D q K B ∧ (qg B).length = 0 ∧ PzX S T q (fun c => 0 < cnA A c) ∧ ∀ c, cnA B c ≤ cnA A c
theorem PzT_rf (S : PS) (D : Nat → Prop) (q K : Nat) (A : Pt) : PzT S S D q K A A := fun h hl => ⟨h, hl, PzX_rf S q _, fun _ => Nat.le_refl _⟩
theorem PzT_tr {S T U : PS} {D : Nat → Prop} {q K : Nat} {A B C : Pt} (h : PzT S T D q K A B) (h' : PzT T U D q K B C) : PzT S U D q K A C := fun hW hl => by
  obtain ⟨a1, a2, a3, a4⟩ := h hW hl
  obtain ⟨b1, b2, b3, b4⟩ := h' a1 a2
  exact ⟨b1, b2, PzX_tr (fun c hc => Nat.lt_of_lt_of_le hc (a4 c)) a3 b3, fun c => Nat.le_trans (b4 c) (a4 c)⟩
theorem PzT_mv {S T : PS} {D : Nat → Prop} {q K : Nat} {A B : Pt} (hG : GX S) (hq : At S q 29) (hK : At S K 8) (hP : PzF S T K) (hg : qg B = qg A) (hs : qsk B = qsk A) (hc : ∀ c, cnA B c ≤ cnA A c) : PzT S T D q K A B := fun hW hl => by
  obtain ⟨h1, h2, h3⟩ := hW
  have ha := PzB_a h1
  refine ⟨⟨?_, ?_, ?_⟩, by rw [hg]; exact hl, PzX_pf hq hP, hc⟩
  · rw [hg]
    exact PzB_pf hG hq hK hP hs hc h1
  · rw [hg]
    exact PieV_pf hG hq ha hP h2
  · rw [hg]
    exact LpZ_pf ha hP h3
theorem PzT_e {S T : PS} {D : Nat → Prop} {q K : Nat} {A B C : Pt} (e : C = B) (h : PzT S T D q K A B) : PzT S T D q K A C := by
  rw [e]
  exact h
theorem PzT_c {S T : PS} {D : Nat → Prop} {q K : Nat} {A B : Pt} (h : CzT S T D q K A B) : PzT S T D q K A B := fun hW _ => by
  obtain ⟨h1, h2, h3, h4⟩ := h hW
  exact ⟨h1, by omega, h3, h4⟩
/-! ===== a strand is cut ===== -/
theorem PieV_0 {S : PS} {q : Nat} (h : pI S 904 q = 0) : PieV S q [] := ⟨by rw [h]; decide, fun i p hp => by cases hp⟩
theorem LpZ_0 (S : PS) : LpZ S [] := fun i p hp _ => by cases hp
theorem PieV_cp {T : PS} {s q : Nat} {g : List Mt} (h : CpS T s q) (hV : PieV T q g) : PieV T s g := by
  obtain ⟨⟨-, -, a3⟩, -, c⟩ := h
  have h1 := hV.1
  refine ⟨by rw [a3]; exact h1, fun i p hp => ?_⟩
  have hi := (List.getElem?_eq_some_iff.mp hp).1
  have m : ∀ k, k ∈ pcG → mA T s k i = mA T q k i := fun k hk => by
    obtain ⟨a, a0, c1, c2, c3⟩ := c k hk
    rw [mA_eq c1, mA_eq c2]
    exact c3 i (by omega)
  rw [m 905 (by decide), m 906 (by decide), m 907 (by decide), m 908 (by decide)]
  exact hV.2 i p hp
theorem ba_f {T U : PS} {q : Nat} (h : BaO T U q) : (∀ a k, At T a k → At U a k) ∧ (∀ g b, g ∉ ([902, 903, 904] : List Nat) ∨ b ≠ q → pI U g b = pI T g b) ∧ (∀ g b, pR U g b = pR T g b) ∧ (∀ a, pA U a = pA T a) ∧ (∀ K, mB U K 808 = mB T K 808) ∧ pI U 904 q = 0 := by
  unfold BaO at h
  refine ⟨fun a k z => by rw [h]; exact z, fun g b hz => ?_, fun g b => by rw [h]; rfl, fun a => by rw [h]; rfl, fun K => by rw [h]; rfl, by rw [h]; exact pI_sI_same⟩
  rw [h]
  rcases hz with z | z
  · have hn : ∀ k, k ∈ ([902, 903, 904] : List Nat) → g ≠ k := fun k hk y => z (by rw [y]; exact hk)
    rw [pI_sI_nf (hn 904 (by decide)), pI_sI_nf (hn 903 (by decide)), pI_sI_nf (hn 902 (by decide))]
  · rw [pI_sI_ne z, pI_sI_ne z, pI_sI_ne z]
/-- behind what was kept, the strand begins anew -/
theorem cut_b {S T U : PS} {D : Nat → Prop} {q K : Nat} {A B : Pt} (hGT : GX T) (hq : At S q 29) (hK : At S K 8) (hP : PzX S T q (fun c => 0 < cnA A c)) (hcd : ∀ c, At S c 0 → cdS T c = cdS S c) (hR : ∀ g, g ∈ pcG → pR T g q = pR S g q) (hB : PzB S D q K A (qg A)) (hS : SkP T K (qsk B)) (hu : BaO T U q) (eg : qg B = []) (ec : ∀ c, cnA B c ≤ cnA A c) : PzW U D q K B ∧ (qg B).length = 0 ∧ PzX S U q (fun c => 0 < cnA A c) ∧ ∀ c, cnA B c ≤ cnA A c := by
  obtain ⟨u1, u2, u3, u4, u5, u6⟩ := ba_f hu
  obtain ⟨h1, h2, h3, h4, h5, -⟩ := hB
  have cu : ∀ c, At T c 0 → cdS U c = cdS T c := fun c hc => by
    unfold cdS
    rw [u2 0 c (Or.inl (by decide)), u2 1 c (Or.inl (by decide))]
  have hx : PzX T U q (fun c => 0 < cnA A c) := ⟨u1, fun c _ _ => u2 6 c (Or.inl (by decide)), fun b hb => ⟨u2 904 b (Or.inr (hb.elim (fun z => At_ne z (hP.1 q 29 hq) (by decide)) (fun z => z.2))), fun g _ => u3 g b⟩, fun a _ _ => u4 a, fun g _ => Or.inl (u3 g q)⟩
  refine ⟨⟨⟨DsO_to (fun g hg => (u3 g q).trans (hR g hg)) h1, fun c d hc hd e => h2 c d hc hd ?_, fun c hc => u1 c 0 (hP.1 c 0 (h3 c hc)), ?_, fun c => ⟨Nat.le_trans (ec c) (h5 c).1, fun z => (h5 c).2 (Nat.lt_of_lt_of_le z (ec c))⟩, ?_⟩, ?_, ?_⟩, by rw [eg]; rfl, PzX_tr (fun c hc => hc) hP hx, ec⟩
  · rw [cu c (hP.1 c 0 (h3 c hc)), cu d (hP.1 d 0 (h3 d hd)), hcd c (h3 c hc), hcd d (h3 d hd)] at e
    exact e
  · rw [eg]
    exact fun m hm => absurd hm List.not_mem_nil
  · exact SkP_to hGT (hP.1 K 8 hK) u1 cu (fun b hb => ⟨u2 904 b (Or.inr (At_ne hb (hP.1 q 29 hq) (by decide))), fun g _ => u3 g b⟩) (fun a _ => u4 a) (fun k _ => congrFun (u5 K) k) (fun o _ => u3 703 o) hS
  · rw [eg]
    exact PieV_0 u6
  · rw [eg]
    exact LpZ_0 U
def pzK : List Nat := [0, 1, 6, 904, 905, 906, 907, 908, 10014, 11654, 703]
theorem CzT_n {S : PS} {D : Nat → Prop} {q K : Nat} {A B : Pt} (e : B = A) (hg : qg A = []) : CzT S S D q K A B := fun h => by
  rw [e]
  exact ⟨h, by rw [hg]; rfl, PzX_rf S q _, fun _ => Nat.le_refl _⟩
theorem CzT_w {S T U : PS} {D : Nat → Prop} {q K : Nat} {A B : Pt} (hG : GX S) (hGT : GX T) (hq : At S q 29) (hK : At S K 8) (hF : Fr [805] S T) (hu : BaO T U q) (eg : qg B = []) (es : qsk B = qsk A) (ec : ∀ c, cnA B c ≤ cnA A c) : CzT S U D q K A B := fun h => by
  have hP : PzF S T K := PzF_fr hG hK hF (by decide +kernel)
  exact cut_b hGT hq hK (PzX_pf hq hP) (fun c hc => cd_pf hP hc) (hP.2.2.1 q (Or.inr hq)).2 h.1 (by rw [es]; exact SkP_pf hG hK hP h.1.2.2.2.2.2) hu eg ec
theorem CzT_k {S T U : PS} {D : Nat → Prop} {q K : Nat} {A B : Pt} {a b : Int32} {w : Sk} (hG : GX S) (hGT : GX T) (hq : At S q 29) (hK : At S K 8) (hF : Fr eKE S T) (hn : (pI S 800 K).toInt = ((qsk A).length : Int)) (ho : KeO S T K q a b) (hu : BaO T U q) (hw : w.2.2.2 = qg A) (eg : qg B = []) (es : qsk B = qsk A ++ [w]) (ec : ∀ c, cnA B c ≤ cnA A c) : CzT S U D q K A B := fun h => by
  have hM : pzK.all (fun g => !eKE.contains g) = true := by decide +kernel
  obtain ⟨o, s, -, k1, k2, k3⟩ := ho
  have hcd : ∀ c, At S c 0 → cdS T c = cdS S c := fun c hc => by
    unfold cdS
    rw [hF.I' (g := 0) (allc hM (by decide)) hc rfl, hF.I' (g := 1) (allc hM (by decide)) hc rfl]
  have pk : ∀ g, g ∈ pcG → eKE.contains g = false := fun g hg => allc hM (by
    simp only [pcG, List.mem_cons, List.not_mem_nil, or_false] at hg
    simp only [pzK, List.mem_cons, List.not_mem_nil, or_false]
    omega)
  have hP : PzX S T q (fun c => 0 < cnA A c) := ⟨fun _ _ h => hF.at h, fun _ hc _ => hF.I' (g := 6) (allc hM (by decide)) hc rfl, fun b' hb => ⟨hb.elim (fun z => hF.I' (g := 904) (allc hM (by decide)) z rfl) (fun z => hF.I' (g := 904) (allc hM (by decide)) z.1 rfl), fun g hg => frR hF (pk g hg) (hb.elim (fun z => z.1) (fun z => z.1.1))⟩, fun _ ha _ => hF.A' (allc hM (by decide)) ha, fun g hg => Or.inl (frR hF (pk g hg) hq.1)⟩
  have hR : ∀ g, g ∈ pcG → pR T g q = pR S g q := fun g hg => frR hF (pk g hg) hq.1
  have ha := PzB_a h.1
  have hV : PieV T q (qg A) := PieV_to (hF.I' (g := 904) (allc hM (by decide)) hq rfl) (fun g hg => mA_rw (hR g hg) (fun b' hb => hF.A' (allc hM (by decide)) (pc_ar hG hq hg hb))) (fun i p hp => hcd _ (pc_at ha hp)) h.2.1
  refine cut_b hGT hq hK hP hcd hR h.1 ?_ hu eg ec
  rw [es]
  intro k y hy
  by_cases z : k = (qsk A).length
  · have hy' : y = w := by
      rw [z, List.getElem?_append_right (Nat.le_refl _), Nat.sub_self] at hy
      exact (Option.some.inj hy).symm
    refine ⟨o, s, ?_, k2.1, by rw [hy', hw]; exact PieV_cp k3 hV, by rw [hy', hw]; exact fun m hm z hz => hF.at (ha m hm z hz)⟩
    rw [k1, show k = (pI S 800 K).toInt.toNat by omega]
    exact if_pos rfl
  · have hl := (List.getElem?_eq_some_iff.mp hy).1
    rw [List.length_append] at hl
    have hl2 : k < (qsk A).length + 1 := hl
    rw [List.getElem?_append_left (by omega)] at hy
    have hk : ∀ j, j < (qsk A).length → mB T K 808 j = mB S K 808 j := fun j hj => by
      rw [k1]
      exact if_neg (by omega)
    exact SkP_to hG hK (fun _ _ h => hF.at h) hcd (fun b' hb => ⟨hF.I' (g := 904) (allc hM (by decide)) hb rfl, fun g hg => frR hF (pk g hg) hb.1⟩) (fun _ ha => hF.A' (allc hM (by decide)) ha) hk (fun _ ho => frR hF (allc hM (by decide)) ho.1) h.1.2.2.2.2.2 k y hy
/-! ===== a metre is drawn ===== -/
def PzL (T : PS) (D : Nat → Prop) (q K : Nat) (g : List Mt) (t : Mt) (B : Pt) : Prop := PzB T D q K B (g ++ [t]) ∧ PieV T q (g ++ [t]) ∧ LpV T (g ++ [t])
def PzI (S T : PS) (D : Nat → Prop) (q K : Nat) (E : En) (A : Pt) (j : Nat) : Prop := PzW S D q K A → (qg A).length < 300 → PzL T D q K (qg A) ((MTa A).take j) (endsF E j (DRa A)) ∧ PzX S T q (fun c => 0 < cnA A c) ∧ ∀ c, cnA (endsF E j (DRa A)) c ≤ cnA A c
def EoP (S T : PS) (q K c : Nat) (a : Int32) : Prop := ∃ S1, AoO S S1 q c a ∧ Fr eMO S S1 ∧ GX S1 ∧ PzF S1 T K
theorem PzI_0 {S T : PS} {D : Nat → Prop} {q K : Nat} {E : En} {A : Pt} (h : PzT S T D q K A A) : PzI S T D q K E A 0 := fun hW hl => by
  obtain ⟨⟨b1, b2, b3⟩, -, b5, -⟩ := h hW hl
  obtain ⟨h1, h2, h3, h4, h5, h6⟩ := b1
  rw [List.take_zero]
  refine ⟨⟨⟨h1, h2, h3, fun m hm => ?_, h5, h6⟩, PieV_b b2, LpV_b b3⟩, b5, fun _ => Nat.le_refl _⟩
  rcases List.mem_append.mp hm with z | z
  · exact h4 m z
  · rw [List.mem_singleton.mp z]
    exact ⟨Nat.zero_le _, fun z hz => absurd hz List.not_mem_nil⟩
theorem PzI_n {E : En} {A : Pt} {j : Nat} (hj : j < (qe A).length) (hL : qe (endsF E j (DRa A)) = []) : False := by
  obtain ⟨⟨X, h1⟩, -⟩ := ends_q (E := E) (A := DRa A) j (Nat.le_of_lt hj)
  rw [hL, List.drop_eq_getElem_cons (show j < (qe (DRa A)).length from hj)] at h1
  cases h1
theorem PzI_s {S U U1 U2 : PS} {D : Nat → Prop} {q K c j : Nat} {E : En} {A : Pt} {tl : List Nat} {a : Int32} (hGU : GX U) (hG : GX U1) (hqU : At U q 29) (hKU : At U K 8) (h : PzI S U D q K E A j) (hP : PzF U U1 K) (ho : EoP U1 U2 q K c a) (hj : j < (qe A).length) (h12 : (qe A).length ≤ 12) (hL : qe (endsF E j (DRa A)) = c :: tl) (h4 : pI U1 4 c = qpl (endsF E j (DRa A)) c) (ha : a.toInt = ((qg A).length : Int)) : PzI S U2 D q K E A (j + 1) := fun hW hl => by
  obtain ⟨⟨hB, hV, hLp⟩, hX, hc⟩ := h hW hl
  obtain ⟨S1, o1, o2, o3, o4⟩ := ho
  have hj' : j ≤ (qe (DRa A)).length := Nat.le_of_lt hj
  obtain ⟨⟨X, q1⟩, q2, -, q4⟩ := ends_q (E := E) (A := DRa A) j hj'
  rw [hL, List.drop_eq_getElem_cons (show j < (qe (DRa A)).length from hj)] at q1
  have hcj : (qe A)[j]? = some c := by
    rw [List.getElem?_eq_getElem hj]
    have q1' : c :: tl = (qe A)[j] :: ((qe A).drop (j + 1) ++ X) := q1
    injection q1' with e1 e2
    rw [e1]
  have hn1 : ∀ d, (qe A).count d ≤ 1 := fun d => by
    have h1 := (hW.1.2.2.2.2.1 d).1
    unfold cnA at h1
    omega
  have hne : ∀ i : Nat, i < j → (qe A)[i]? ≠ some c := fun i hi z => by
    have := nd_i hn1 z hcj
    omega
  have hpl : pI U1 4 c = qpl A c := h4.trans (q2 c hne)
  have hcA : 0 < cnA A c := by
    have : 0 < (qe A).count c := List.count_pos_iff.mpr (List.mem_of_getElem? hcj)
    unfold cnA
    omega
  have hDc : D c := (hW.1.2.2.2.2.1 c).2 hcA
  have mj : (MTa A)[j]? = some (c, qpl A c) := by
    rw [List.getElem?_map, hcj]
    rfl
  have tk : (MTa A).take (j + 1) = (MTa A).take j ++ [(c, qpl A c)] := by
    rw [List.take_succ, mj]
    rfl
  have tl' : ((MTa A).take j).length ≤ j := by
    rw [List.length_take]
    omega
  have hin : inB c ((MTa A).take j) = false := by
    cases z : inB c ((MTa A).take j) with
    | false => rfl
    | true =>
      obtain ⟨y, y1, y2⟩ := inB_i.mp z
      obtain ⟨i, hi⟩ := List.mem_iff_getElem?.mp y1
      have hij : i < j := Nat.lt_of_lt_of_le (List.getElem?_eq_some_iff.mp hi).1 tl'
      rw [List.getElem?_take_of_lt hij, List.getElem?_map] at hi
      cases w : (qe A)[i]? with
      | none =>
        rw [w] at hi
        cases hi
      | some d =>
        rw [w] at hi
        have hi' : (d, qpl A d) = y := Option.some.inj hi
        rw [← hi'] at y2
        exact absurd (w.trans (by rw [show d = c from y2])) (hne i hij)
  -- at the pool behind the row
  have hqU1 := hP.1 q 29 hqU
  have hKU1 := hP.1 K 8 hKU
  have hmt := PzB_a hB
  have hB1 : PzB U1 D q K (endsF E j (DRa A)) (qg A ++ [(MTa A).take j]) := PzB_pf hGU hqU hKU hP rfl (fun _ => Nat.le_refl _) hB
  have hV1 := PieV_pf hGU hqU hmt hP hV
  have hL1 := LpV_pf hmt hP hLp
  have hmt1 := PzB_a hB1
  obtain ⟨d1, d2, d3, d4, d5, d6⟩ := hB1
  have hpc : ∀ (i : Nat) (p : Pc), (pcs (qg A ++ [(MTa A).take j]))[i]? = some p → D p.1 := fun i p hp => by
    obtain ⟨t, y1, y2⟩ := pcs_in hp
    obtain ⟨z, y3, y5⟩ := inB_i.mp y2
    rw [← y5]
    exact (d4 t (List.mem_of_getElem? y1)).2 z y3
  have hlen := pcs_len1 (g := qg A) (t := (MTa A).take j) (fun m hm => (d4 m (List.mem_append_left _ hm)).1)
  obtain ⟨⟨e1, e2⟩, e3, e4, e5⟩ := Ao_pie hG hqU1 d3 hDc d1 o1 hV1 hL1 hin hpc d2 ha hl (by omega)
  rw [hpl, ← tk] at e1 e2
  have hqS := e4.1 q 29 hqU1
  have hKS := e4.1 K 8 hKU1
  have hM : ([808, 10019, 703, 11654] : List Nat).all (fun g => !eMO.contains g) = true := by decide +kernel
  have hk6 : SkP S1 K (qsk (endsF E j (DRa A))) := SkP_to hG hKU1 e4.1 e5 (fun b hb => e4.2.2.1 b (Or.inl hb)) (fun a ha => o2.A' (allc hM (by decide)) ha) (fun k _ => congrFun (mB_frc o2 hKU1 (ex3 (gQ_8_808 hG hKU1)) (allc hM (by decide)) (allc hM (by decide))) k) (fun o ho => frR o2 (allc hM (by decide)) ho.1) d6
  have hgm : ∀ m, m ∈ qg A ++ [(MTa A).take (j + 1)] → m.length ≤ 12 ∧ ∀ z, z ∈ m → D z.1 := fun m hm => by
    rcases List.mem_append.mp hm with z | z
    · exact d4 m (List.mem_append_left _ z)
    · rw [List.mem_singleton.mp z, tk]
      refine ⟨by rw [List.length_append]; show _ + 1 ≤ 12; omega, fun y hy => ?_⟩
      rcases List.mem_append.mp hy with w | w
      · exact (d4 _ (List.mem_append_right _ (List.mem_singleton.mpr rfl))).2 y w
      · rw [List.mem_singleton.mp w]
        exact hDc
  have hS1 : PzB S1 D q K (endsF E j (DRa A)) (qg A ++ [(MTa A).take (j + 1)]) := ⟨e3, fun x y hx hy e => d2 x y hx hy (by rw [e5 x (d3 x hx), e5 y (d3 y hy)] at e; exact e), fun x hx => e4.1 x 0 (d3 x hx), hgm, d5, hk6⟩
  have hcn : ∀ d, cnA (endsF E (j + 1) (DRa A)) d ≤ cnA (endsF E j (DRa A)) d := fun d => cn_stp d
  have hsk : qsk (endsF E (j + 1) (DRa A)) = qsk (endsF E j (DRa A)) := by
    rw [q4]
    exact (ends_q (E := E) (A := DRa A) (j + 1) hj).2.2.2
  refine ⟨⟨PzB_pf o3 hqS hKS o4 hsk hcn hS1, PieV_pf o3 hqS (PzB_a hS1) o4 e1, LpV_pf (PzB_a hS1) o4 e2⟩, ?_, fun d => Nat.le_trans (hcn d) (hc d)⟩
  have x1 : PzX S U1 q (fun c => 0 < cnA A c) := PzX_tr (fun c hc => hc) hX (PzX_pf (A := fun c => 0 < cnA A c) hqU hP)
  have x2 : PzX S S1 q (fun c => 0 < cnA A c) := PzX_tr (B := fun d => d = c) (fun d hd => by rw [hd]; exact hcA) x1 e4
  exact PzX_tr (fun c hc => hc) x2 (PzX_pf (A := fun c => 0 < cnA A c) hqS o4)
theorem drw_f {E : En} {A : Pt} (hl : (qg A).length < 300) : qg (drwB E A) = qg A ++ [MTa A] ∧ qsk (drwB E A) = qsk A := by
  obtain ⟨-, -, h3, h4⟩ := ends_q (E := E) (A := DRa A) (qe A).length (Nat.le_refl _)
  exact ⟨h3.trans (capG_a hl), h4⟩
theorem PzI_w {S U : PS} {D : Nat → Prop} {q K n : Nat} {E : En} {A : Pt} (h : PzI S U D q K E A n) (hn : n = (qe A).length) (hW : PzW S D q K A) (hl : (qg A).length < 300) : PzW U D q K (drwB E A) ∧ PzX S U q (fun c => 0 < cnA A c) ∧ ∀ c, cnA (drwB E A) c ≤ cnA A c := by
  obtain ⟨⟨hB, hV, hLp⟩, hX, hc⟩ := h hW hl
  have tk : (MTa A).take n = MTa A := by
    rw [hn]
    exact List.take_of_length_le (by rw [List.length_map]; exact Nat.le_refl _)
  rw [tk, ← (drw_f (E := E) hl).1] at hB hV hLp
  subst hn
  exact ⟨⟨hB, hV, LpZ_e hLp⟩, hX, hc⟩
theorem PzI_e {S U : PS} {D : Nat → Prop} {q K n : Nat} {E : En} {A : Pt} (h : PzI S U D q K E A n) (hn : n = (qe A).length) (h3 : ¬ 300 ≤ (qg (drwB E A)).length) : PzT S U D q K A (drwF E A) := fun hW hl => by
  obtain ⟨h1, h2, h4⟩ := PzI_w h hn hW hl
  rw [drwF_n h3]
  exact ⟨h1, by omega, h2, h4⟩
theorem PzI_c {S U T : PS} {D : Nat → Prop} {q K n : Nat} {E : En} {A : Pt} (h : PzI S U D q K E A n) (hn : n = (qe A).length) (h3 : 300 ≤ (qg (drwB E A)).length) (hc : CzT U T D q K (drwB E A) (cutF E (drwB E A))) : PzT S T D q K A (drwF E A) := fun hW hl => by
  obtain ⟨h1, h2, h4⟩ := PzI_w h hn hW hl
  obtain ⟨k1, k2, k3, k4⟩ := hc h1
  rw [drwF_c h3]
  exact ⟨k1, by omega, PzX_tr (fun c hc => Nat.lt_of_lt_of_le hc (h4 c)) h2 k3, fun c => Nat.le_trans (k4 c) (h4 c)⟩

set_option maxHeartbeats 4000000 in
set_option maxRecDepth 100000 in
theorem k_X4_cutStrand5 (l : Launch) (G : va_G) (cy : Nat → ClassId) (κ : Nat → Nat) (S : PS) (sz hz : Nat) (x : Nat) (s1 : Nat) (D : Nat → Prop) (R0 : Nat) (R1 : Nat) (R2 : Nat) (Gs : Nat) (A : Pt) (Ev : En) (hG : GX S) (ha_x : At S x 4) (ha_s1 : At S s1 8) (hp_0 : (∀ c, D c → At S c 0)) (hp_1 : PotR S x R0 R1 R2 Gs) (hp_2 : PotV S D x R0 R1 R2 Gs s1 A) (hp_3 : EnC S D x s1 Ev) : Gi l yX4_cutStrand wsX4_cutStrand ({ frames := 5, cells := Phc S + 8, slots := Phs S + 15019, locals := 240 }) G cy κ S sz hz 0 0 [.ref x, .ref s1] (fun (r : Int32) (S9 : PS) => Og eCU S S9 ∧ (-2147483648 ≤ r.toInt ∧ r.toInt ≤ 2147483647 ∧ PotV S9 D x R0 R1 R2 Gs s1 (cutF Ev A) ∧ PotX S S9 x R0 R1 R2 Gs ∧ r.toInt = cutR A ∧ CzT S S9 D Gs s1 A (cutF Ev A))) := by
  refine ent_g (cc := cX4_cutStrand) (maxL := 3) (ret := (some .int)) (by decide) rfl (Nat.le_of_ble_eq_true rfl) ?_
  intro p e s m below meth c ls X hr hlocks hin hw hl hsz hhz
  subst hsz hhz
  have X : Cx p c cX4_cutStrand 3 s [.ref x, .ref s1].toArray wsX4_cutStrand RX4 m G cy κ (AS S s.heap.size) := X
  have hl : lv_has ls 3 [(0, .ref x), (1, .ref s1)] := hl
  have hpc0 : 0 + Phc S ≤ Phc S + 0 := by omega
  have hps0 : 0 + Phs S ≤ Phs S + 0 := by omega
  have hO : Og eCU S S := Og.rf hG
  have hpr := hp_1
  obtain ⟨hr0, hr1, hr2, hr3, hne, hcn⟩ := hpr
  have haR0 := row_at hG ha_x (Or.inl hr0)
  have haR1 := row_at hG ha_x (Or.inr (Or.inl hr1))
  have haR2 := row_at hG ha_x (Or.inr (Or.inr hr2))
  have haGs : At S Gs 29 := by obtain ⟨c, k1, k2⟩ := gQ_4_403 hG ha_x; have h3 := hr3; rw [k1] at h3; cases h3; exact k2
  have hpv := hp_2
  obtain ⟨pv_1, pv_2, pv_3, pv_4, pv_5, pv_6, pv_7, pv_8, pv_9, pv_10, pv_11⟩ := hpv
  obtain ⟨v_12, ev_12⟩ : ∃ v, pI S 902 Gs = v := ⟨_, rfl⟩
  have rg_13 := gI_29_902 hO.1 haGs; rw [ev_12] at rg_13
  have pz_14 : (pI S 902 Gs).toInt = v_12.toInt := by rw [ev_12]
  have pz_15 : (pI S 902 Gs).toInt = v_12.toInt := (congrArg Int32.toInt ev_12).trans rfl
  obtain ⟨v_16, ev_16⟩ : ∃ v, pI S 800 s1 = v := ⟨_, rfl⟩
  have rg_17 := gI_8_800 hO.1 ha_s1; rw [ev_16] at rg_17
  have pz_18 : (pI S 800 s1).toInt = v_16.toInt := by rw [ev_16]
  have pz_19 : (pI S 800 s1).toInt = v_16.toInt := (congrArg Int32.toInt ev_16).trans rfl
  have sl_20 := pv_6.1
  have sl_21 := pv_9.1
  refine lv_aload_n X.1 X.2.1 dX4_cutStrand_0 rfl (lv_at hl 0 rfl) ?_
  refine r_getR (g := 403) X hw ha_x rfl 3 hr3 (by decide) rfl inn_X4_cutStrand_4 (by decide) (X.2.2.2.1 (.fieldLink RX4 29 "SilkMill$Pot" "strand" "LSilkMill$Strand;") (by decide +kernel)) rfl (gv_403 _ _) dX4_cutStrand_1 ?_
  refine r_getI (g := 902) (x := v_12) X hw haGs rfl 2 ev_12 (by decide) rfl inn_X4_cutStrand_9 (by decide) (X.2.2.2.1 (.fieldLink RX4 79 "SilkMill$Strand" "metres" "I") (by decide +kernel)) rfl (gv_902 _ _) dX4_cutStrand_4 ?_
  refine lv_if_ne (tgt := 12) X.1 X.2.1 dX4_cutStrand_7 (by decide) (fun c_22 => ?_) (fun c_22 => ?_)
  · have z_b_23 := trivial
    have k_24 : v_12.toInt ≠ 0 := z_ne rfl ti_0 c_22
    refine lv_aload_n X.1 X.2.1 dX4_cutStrand_12 rfl (lv_at hl 1 rfl) ?_
    refine lv_aload_n X.1 X.2.1 dX4_cutStrand_13 rfl (lv_at hl 0 rfl) ?_
    refine r_getR (g := 403) X hw ha_x rfl 3 hr3 (by decide) rfl inn_X4_cutStrand_4 (by decide) (X.2.2.2.1 (.fieldLink RX4 29 "SilkMill$Pot" "strand" "LSilkMill$Strand;") (by decide +kernel)) rfl (gv_403 _ _) dX4_cutStrand_14 ?_
    refine lv_aload_n X.1 X.2.1 dX4_cutStrand_17 rfl (lv_at hl 0 rfl) ?_
    obtain ⟨v_25, ev_25⟩ : ∃ v, pI S 410 x = v := ⟨_, rfl⟩
    have rg_27 := And.intro (z_lo v_25) (z_hi v_25)
    have pz_28 : (pI S 410 x).toInt = v_25.toInt := by rw [ev_25]
    refine r_getI (g := 410) (x := v_25) X hw ha_x rfl 10 ev_25 (by decide) rfl inn_X4_cutStrand_4 (by decide) (X.2.2.2.1 (.fieldLink RX4 40 "SilkMill$Pot" "potNumber" "I") (by decide +kernel)) rfl (gv_410 _ _) dX4_cutStrand_18 ?_
    refine lv_aload_n X.1 X.2.1 dX4_cutStrand_21 rfl (lv_at hl 0 rfl) ?_
    obtain ⟨v_29, ev_29⟩ : ∃ v, pI S 404 x = v := ⟨_, rfl⟩
    have rg_31 := And.intro (z_lo v_29) (z_hi v_29)
    have pz_32 : (pI S 404 x).toInt = v_29.toInt := by rw [ev_29]
    refine r_getI (g := 404) (x := v_29) X hw ha_x rfl 4 ev_29 (by decide) rfl inn_X4_cutStrand_4 (by decide) (X.2.2.2.1 (.fieldLink RX4 44 "SilkMill$Pot" "aim" "I") (by decide +kernel)) rfl (gv_404 _ _) dX4_cutStrand_22 ?_
    refine k_gi (kc := 0) (ks := 0) (rm := { frames := 4, cells := Phc S + 8, slots := Phs S + 15019, locals := 192 }) (av := [.ref s1, .ref Gs, .int (v_25), .int (v_29)]) X hw (va_runV (As := [.ref Gs, .int (v_25), .int (v_29)]) (rest := []) (cfix X) (k_X8_keep7 l G cy κ S _ _ s1 Gs (v_25) (v_25.toInt) (v_29) (v_29.toInt) hO.1 ha_s1 haGs rfl rfl) (cwV 3 X.2.2.2.1 gX4_cutStrand_X8_keep rfl rfl rfl (by decide +kernel) ⟨Nat.le_of_ble_eq_true rfl, Nat.le_of_ble_eq_true rfl⟩) (pre_gV X hw _ ha_s1 rfl (by decide) rfl) rfl rfl hl.1 rfl (lv_room (Nat.le_of_ble_eq_true rfl)) dX4_cutStrand_25 ⟨(by show 0 + (Phc S + 8) ≤ Phc S + 8; omega), (by show 0 + (Phs S + 15019) ≤ Phs S + 15019; omega)⟩) (fun rr_33 S_34 H locs c_35 n_36 hc_35 hn_36 hp hw => ?_)
    obtain ⟨hk_37, hp⟩ := hp
    have ph_38 : c_35 + Phc S_34 ≤ Phc S + 0 := by omega
    have ph_39 : n_36 + Phs S_34 ≤ Phs S + 0 := by omega
    clear hpc0
    clear hps0
    clear hc_35
    clear hn_36
    have hO_40 : Og eCU S S_34 := hO.call hk_37 (by decide +kernel)
    obtain ⟨kp_41, kp_42, kp_43, kp_44⟩ := hp
    by_cases kp_45 : ((qsk A)).length < 40
    · obtain ⟨kp_46, kp_47, kp_49⟩ := kp_43 (by omega)
      have en_51 : EnC S_34 D x s1 Ev := EnC_fr hk_37.fr hp_0 ha_x ha_s1 (by decide +kernel) hp_3
      have t_52 : pI S_34 410 x = v_25 := hk_37.fr.I' (by decide +kernel) ha_x ev_25
      have t_53 : pI S_34 404 x = v_29 := hk_37.fr.I' (by decide +kernel) ha_x ev_29
      have sk_50 : SkV S_34 D s1 ((qsk A) ++ [(epot Ev, eday Ev, eaim Ev, (qg A))]) := by rw [en_51.2.1, en_51.2.2.1, en_51.2.2.2.1, t_52, t_53, show pI S_34 801 s1 = pI S 801 s1 from hk_37.fr.I' (by decide +kernel) ha_s1 rfl]; exact SkV_ke hO.1 ha_s1 haGs hk_37.fr kp_47 kp_49 pv_6 pv_9
      have kp_48 : (((qsk A) ++ [(epot Ev, eday Ev, eaim Ev, (qg A))]).length : Int) = (((qsk A)).length : Int) + 1 := by rw [List.length_append]; rfl
      obtain ⟨v_55, ev_55⟩ : ∃ v, pI S_34 800 s1 = v := ⟨_, rfl⟩
      have t_57 : At S_34 s1 8 := hk_37.fr.at ha_s1
      have rg_56 := gI_8_800 hO_40.1 t_57; rw [ev_55] at rg_56
      have pz_58 : (pI S_34 800 s1).toInt = v_55.toInt := by rw [ev_55]
      have pz_59 : (pI S_34 800 s1).toInt = v_55.toInt := (congrArg Int32.toInt ev_55).trans rfl
      refine lv_istore_n (lv' := [(2, .int (rr_33)), (0, .ref x), (1, .ref s1)]) X.1 X.2.1 dX4_cutStrand_28 rfl hl (by decide) rfl (fun ls hl => ?_)
      refine lv_aload_n X.1 X.2.1 dX4_cutStrand_29 rfl (lv_at hl 1 rfl) ?_
      have t_60 : At S_34 x 4 := hk_37.fr.at ha_x
      have t_61 : pR S_34 403 x = some Gs := hk_37.fr.R' (by decide +kernel) ha_x hr3
      refine r_getR (g := 403) X hw t_60 rfl 3 t_61 (by decide) rfl inn_X4_cutStrand_4 (by decide) (X.2.2.2.1 (.fieldLink RX4 29 "SilkMill$Pot" "strand" "LSilkMill$Strand;") (by decide +kernel)) rfl (gv_403 _ _) dX4_cutStrand_30 ?_
      have t_62 : At S_34 Gs 29 := hk_37.fr.at haGs
      refine k_v (rm := { frames := 1, cells := 0, slots := 0, locals := 48 }) (av := [.ref Gs]) X hw (va_runV (As := []) (rest := []) (cfix X) (k_X9_beginAnew7 l G cy κ S_34 _ Gs hO_40.1 t_62) (cwV 0 X.2.2.2.1 gX4_cutStrand_X9_beginAnew rfl rfl rfl (by decide +kernel) ⟨Nat.le_of_ble_eq_true rfl, Nat.le_of_ble_eq_true rfl⟩) (pre_V X hw _ t_62 rfl (by decide) rfl) rfl rfl hl.1 rfl (lv_room (Nat.le_of_ble_eq_true rfl)) dX4_cutStrand_33 ⟨(by show c_35 + 0 ≤ Phc S + 8; omega), (by show n_36 + 0 ≤ Phs S + 15019; omega)⟩) c_35 n_36 (by show c_35 + 0 ≤ c_35; omega) (by show n_36 + 0 ≤ n_36; omega) (fun S_64 H locs hp hw hfr hnw => ?_)
      obtain ⟨hk_65, hp⟩ := hp
      have ph_66 : c_35 + Phc S_64 ≤ Phc S + 0 := by rw [show Phc S_64 = Phc S_34 from Ph_ok hO_40.1 hk_65 (by decide +kernel) (by decide +kernel) (by decide +kernel)]; exact ph_38
      have ph_67 : n_36 + Phs S_64 ≤ Phs S + 0 := by rw [show Phs S_64 = Phs S_34 from Ph_ok hO_40.1 hk_65 (by decide +kernel) (by decide +kernel) (by decide +kernel)]; exact ph_39
      clear ph_38
      clear ph_39
      have hO_68 : Og eCU S S_64 := hO_40.call hk_65.og (by decide +kernel)
      have ba_69 := hp
      refine lv_iload_n X.1 X.2.1 dX4_cutStrand_36 rfl (lv_at hl 0 rfl) ?_
      have rw_70 : RowIs S_34 R0 (qb A) 600 := RowIs_fr hO.1 haR0 hk_37.fr (by decide +kernel) pv_1
      have t_72 : At S_34 R0 5 := hk_37.fr.at haR0
      have rw_71 : RowIs S_64 R0 (qb A) 600 := RowIs_fr hO_40.1 t_72 hk_65.fr (by decide +kernel) rw_70
      have rw_73 : RowIs S_34 R1 (qe A) 12 := RowIs_fr hO.1 haR1 hk_37.fr (by decide +kernel) pv_2
      have t_75 : At S_34 R1 5 := hk_37.fr.at haR1
      have rw_74 : RowIs S_64 R1 (qe A) 12 := RowIs_fr hO_40.1 t_75 hk_65.fr (by decide +kernel) rw_73
      have rw_76 : RowIs S_34 R2 (ql A) 600 := RowIs_fr hO.1 haR2 hk_37.fr (by decide +kernel) pv_3
      have t_78 : At S_34 R2 5 := hk_37.fr.at haR2
      have rw_77 : RowIs S_64 R2 (ql A) 600 := RowIs_fr hO_40.1 t_78 hk_65.fr (by decide +kernel) rw_76
      have co_79 : CoP S_34 D (qpl A) (qsd A) := CoP_fr hk_37.fr hp_0 (by decide +kernel) pv_10
      have dt_81 : ∀ c, D c → At S_34 c 0 := fun c h => hk_37.fr.at (hp_0 c h)
      have co_80 : CoP S_64 D (qpl A) (qsd A) := CoP_fr hk_65.fr dt_81 (by decide +kernel) co_79
      have t_82 : pI S_34 405 x = (qst A) := hk_37.fr.I' (by decide +kernel) ha_x pv_4
      have t_83 : pI S_64 405 x = (qst A) := hk_65.fr.I' (by decide +kernel) t_60 t_82
      have t_84 : pI S_34 406 x = (qse A) := hk_37.fr.I' (by decide +kernel) ha_x pv_5
      have t_85 : pI S_64 406 x = (qse A) := hk_65.fr.I' (by decide +kernel) t_60 t_84
      have sg_86 : StV S_34 D Gs (qg A) := StV_fr hO.1 haGs hk_37.fr (by decide +kernel) pv_6
      have sg_87 : StV S_64 D Gs ([] : List Mt) := (StV_ba ba_69 sg_86)
      have t_88 : pI S_34 407 x = (qdr A) := hk_37.fr.I' (by decide +kernel) ha_x pv_7
      have t_89 : pI S_64 407 x = (qdr A) := hk_65.fr.I' (by decide +kernel) t_60 t_88
      have t_90 : pI S_34 408 x = (qtk A) := hk_37.fr.I' (by decide +kernel) ha_x pv_8
      have t_91 : pI S_64 408 x = (qtk A) := hk_65.fr.I' (by decide +kernel) t_60 t_90
      have sk_92 : SkV S_34 D s1 ((qsk A) ++ [(epot Ev, eday Ev, eaim Ev, (qg A))]) := sk_50
      have sk_93 : SkV S_64 D s1 ((qsk A) ++ [(epot Ev, eday Ev, eaim Ev, (qg A))]) := (SkV_ba hO_40.1 t_57 t_62 hk_65.fr ba_69 sk_92)
      have px_94 : PotX S S_34 x R0 R1 R2 Gs := PotX_fr (PotX_rf S x R0 R1 R2 Gs) (fun _ _ h => h) hO.1 hk_37.fr (by decide +kernel)
      have ax_96 : ∀ a k, At S a k → At S_34 a k := fun a k h => hk_37.fr.at ((fun _ _ h => h) a k h)
      have px_95 : PotX S S_64 x R0 R1 R2 Gs := PotX_st px_94 ax_96 hO_40.1 hk_65.fr (by decide +kernel) (StX_ba ba_69)
      exact ret_gi X hw hr hlocks (by show c_35 ≤ Phc S + 8; omega) (by show n_36 ≤ Phs S + 15019; omega) (by omega) (by omega) ⟨hO_68, ⟨z_lo _, z_hi _, PotV_of (cutF_k (fun z => by have e0 := congrArg List.length z; have e1 : ([] : List Mt).length = 0 := rfl; omega) kp_45) rw_71 rw_74 rw_77 t_83 t_85 sg_87 t_89 t_91 sk_93 co_80 (inD_cut pv_11), px_95, by rw [cutR_k (fun z => by have e0 := congrArg List.length z; have e1 : ([] : List Mt).length = 0 := rfl; omega) kp_45]; omega, CzT_k (w := (epot Ev, eday Ev, eaim Ev, qg A)) hG hO_40.1 haGs ha_s1 hk_37.fr pv_9.1 kp_49 ba_69 rfl qg_cut (by rw [cutF_k (fun z => by have e0 := congrArg List.length z; have e1 : ([] : List Mt).length = 0 := rfl; omega) kp_45]; rfl) (fun c => Nat.le_of_eq (cn_cut c))⟩⟩ dX4_cutStrand_37
    · obtain ⟨kp_46, kp_47, kp_49⟩ := kp_44 (by omega)
      obtain ⟨v_99, ev_99⟩ : ∃ v, pI S_34 800 s1 = v := ⟨_, rfl⟩
      have t_101 : At S_34 s1 8 := hk_37.fr.at ha_s1
      have rg_100 := gI_8_800 hO_40.1 t_101; rw [ev_99] at rg_100
      have pz_102 : (pI S_34 800 s1).toInt = v_99.toInt := by rw [ev_99]
      have pz_103 : (pI S_34 800 s1).toInt = v_99.toInt := (congrArg Int32.toInt ev_99).trans rfl
      refine lv_istore_n (lv' := [(2, .int (rr_33)), (0, .ref x), (1, .ref s1)]) X.1 X.2.1 dX4_cutStrand_28 rfl hl (by decide) rfl (fun ls hl => ?_)
      refine lv_aload_n X.1 X.2.1 dX4_cutStrand_29 rfl (lv_at hl 1 rfl) ?_
      have t_104 : At S_34 x 4 := hk_37.fr.at ha_x
      have t_105 : pR S_34 403 x = some Gs := hk_37.fr.R' (by decide +kernel) ha_x hr3
      refine r_getR (g := 403) X hw t_104 rfl 3 t_105 (by decide) rfl inn_X4_cutStrand_4 (by decide) (X.2.2.2.1 (.fieldLink RX4 29 "SilkMill$Pot" "strand" "LSilkMill$Strand;") (by decide +kernel)) rfl (gv_403 _ _) dX4_cutStrand_30 ?_
      have t_106 : At S_34 Gs 29 := hk_37.fr.at haGs
      refine k_v (rm := { frames := 1, cells := 0, slots := 0, locals := 48 }) (av := [.ref Gs]) X hw (va_runV (As := []) (rest := []) (cfix X) (k_X9_beginAnew7 l G cy κ S_34 _ Gs hO_40.1 t_106) (cwV 0 X.2.2.2.1 gX4_cutStrand_X9_beginAnew rfl rfl rfl (by decide +kernel) ⟨Nat.le_of_ble_eq_true rfl, Nat.le_of_ble_eq_true rfl⟩) (pre_V X hw _ t_106 rfl (by decide) rfl) rfl rfl hl.1 rfl (lv_room (Nat.le_of_ble_eq_true rfl)) dX4_cutStrand_33 ⟨(by show c_35 + 0 ≤ Phc S + 8; omega), (by show n_36 + 0 ≤ Phs S + 15019; omega)⟩) c_35 n_36 (by show c_35 + 0 ≤ c_35; omega) (by show n_36 + 0 ≤ n_36; omega) (fun S_108 H locs hp hw hfr hnw => ?_)
      obtain ⟨hk_109, hp⟩ := hp
      have ph_110 : c_35 + Phc S_108 ≤ Phc S + 0 := by rw [show Phc S_108 = Phc S_34 from Ph_ok hO_40.1 hk_109 (by decide +kernel) (by decide +kernel) (by decide +kernel)]; exact ph_38
      have ph_111 : n_36 + Phs S_108 ≤ Phs S + 0 := by rw [show Phs S_108 = Phs S_34 from Ph_ok hO_40.1 hk_109 (by decide +kernel) (by decide +kernel) (by decide +kernel)]; exact ph_39
      clear ph_38
      clear ph_39
      have hO_112 : Og eCU S S_108 := hO_40.call hk_109.og (by decide +kernel)
      have ba_113 := hp
      refine lv_iload_n X.1 X.2.1 dX4_cutStrand_36 rfl (lv_at hl 0 rfl) ?_
      have rw_114 : RowIs S_34 R0 (qb A) 600 := RowIs_fr hO.1 haR0 hk_37.fr (by decide +kernel) pv_1
      have t_116 : At S_34 R0 5 := hk_37.fr.at haR0
      have rw_115 : RowIs S_108 R0 (qb A) 600 := RowIs_fr hO_40.1 t_116 hk_109.fr (by decide +kernel) rw_114
      have rw_117 : RowIs S_34 R1 (qe A) 12 := RowIs_fr hO.1 haR1 hk_37.fr (by decide +kernel) pv_2
      have t_119 : At S_34 R1 5 := hk_37.fr.at haR1
      have rw_118 : RowIs S_108 R1 (qe A) 12 := RowIs_fr hO_40.1 t_119 hk_109.fr (by decide +kernel) rw_117
      have rw_120 : RowIs S_34 R2 (ql A) 600 := RowIs_fr hO.1 haR2 hk_37.fr (by decide +kernel) pv_3
      have t_122 : At S_34 R2 5 := hk_37.fr.at haR2
      have rw_121 : RowIs S_108 R2 (ql A) 600 := RowIs_fr hO_40.1 t_122 hk_109.fr (by decide +kernel) rw_120
      have co_123 : CoP S_34 D (qpl A) (qsd A) := CoP_fr hk_37.fr hp_0 (by decide +kernel) pv_10
      have dt_125 : ∀ c, D c → At S_34 c 0 := fun c h => hk_37.fr.at (hp_0 c h)
      have co_124 : CoP S_108 D (qpl A) (qsd A) := CoP_fr hk_109.fr dt_125 (by decide +kernel) co_123
      have t_126 : pI S_34 405 x = (qst A) := hk_37.fr.I' (by decide +kernel) ha_x pv_4
      have t_127 : pI S_108 405 x = (qst A) := hk_109.fr.I' (by decide +kernel) t_104 t_126
      have t_128 : pI S_34 406 x = (qse A) := hk_37.fr.I' (by decide +kernel) ha_x pv_5
      have t_129 : pI S_108 406 x = (qse A) := hk_109.fr.I' (by decide +kernel) t_104 t_128
      have sg_130 : StV S_34 D Gs (qg A) := StV_fr hO.1 haGs hk_37.fr (by decide +kernel) pv_6
      have sg_131 : StV S_108 D Gs ([] : List Mt) := (StV_ba ba_113 sg_130)
      have t_132 : pI S_34 407 x = (qdr A) := hk_37.fr.I' (by decide +kernel) ha_x pv_7
      have t_133 : pI S_108 407 x = (qdr A) := hk_109.fr.I' (by decide +kernel) t_104 t_132
      have t_134 : pI S_34 408 x = (qtk A) := hk_37.fr.I' (by decide +kernel) ha_x pv_8
      have t_135 : pI S_108 408 x = (qtk A) := hk_109.fr.I' (by decide +kernel) t_104 t_134
      have sk_136 : SkV S_34 D s1 (qsk A) := (SkV_kw hO.1 ha_s1 kp_49 pv_9)
      have sk_137 : SkV S_108 D s1 (qsk A) := (SkV_ba hO_40.1 t_101 t_106 hk_109.fr ba_113 sk_136)
      have px_138 : PotX S S_34 x R0 R1 R2 Gs := PotX_fr (PotX_rf S x R0 R1 R2 Gs) (fun _ _ h => h) hO.1 hk_37.fr (by decide +kernel)
      have ax_140 : ∀ a k, At S a k → At S_34 a k := fun a k h => hk_37.fr.at ((fun _ _ h => h) a k h)
      have px_139 : PotX S S_108 x R0 R1 R2 Gs := PotX_st px_138 ax_140 hO_40.1 hk_109.fr (by decide +kernel) (StX_ba ba_113)
      exact ret_gi X hw hr hlocks (by show c_35 ≤ Phc S + 8; omega) (by show n_36 ≤ Phs S + 15019; omega) (by omega) (by omega) ⟨hO_112, ⟨z_lo _, z_hi _, PotV_of (cutF_w (fun z => by have e0 := congrArg List.length z; have e1 : ([] : List Mt).length = 0 := rfl; omega) kp_45) rw_115 rw_118 rw_121 t_127 t_129 sg_131 t_133 t_135 sk_137 co_124 (inD_cut pv_11), px_139, by rw [cutR_w (fun z => by have e0 := congrArg List.length z; have e1 : ([] : List Mt).length = 0 := rfl; omega) kp_45]; omega, CzT_w hG hO_40.1 haGs ha_s1 kp_49 ba_113 qg_cut (by rw [cutF_w (fun z => by have e0 := congrArg List.length z; have e1 : ([] : List Mt).length = 0 := rfl; omega) kp_45]; rfl) (fun c => Nat.le_of_eq (cn_cut c))⟩⟩ dX4_cutStrand_37
  · have z_b_141 := trivial
    have k_142 : v_12.toInt = 0 := z_eq rfl ti_0 c_22
    refine lv_iconst (v := (-1)) X.1 X.2.1 dX4_cutStrand_10 (by decide) ?_
    exact ret_gi X hw hr hlocks (by show 0 ≤ Phc S + 8; omega) (by show 0 ≤ Phs S + 15019; omega) (by omega) (by omega) ⟨hO, ⟨z_lo _, z_hi _, PotV_of (cutF_n (List.eq_nil_of_length_eq_zero (by omega))) pv_1 pv_2 pv_3 pv_4 pv_5 pv_6 pv_7 pv_8 pv_9 pv_10 (inD_cut pv_11), (PotX_rf S x R0 R1 R2 Gs), by rw [cutR_n (List.eq_nil_of_length_eq_zero (by omega))]; decide, CzT_n (cutF_n (List.eq_nil_of_length_eq_zero (by omega))) (List.eq_nil_of_length_eq_zero (by omega))⟩⟩ dX4_cutStrand_11
