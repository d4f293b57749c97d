/-! ===== pieces among the ties: what a pot's steps keep ===== -/
def nz5 (v : Int32) : Prop := v.toInt ≠ 0 ∧ v.toInt ≠ 5
theorem nz5_1 : nz5 1 := ⟨by decide, by decide⟩
theorem nz5_2 : nz5 2 := ⟨by decide, by decide⟩
theorem nz5_3 : nz5 3 := ⟨by decide, by decide⟩
theorem nz5_4 : nz5 4 := ⟨by decide, by decide⟩
theorem nz5_6 : nz5 6 := ⟨by decide, by decide⟩
def InA (A : Pt) (c : Nat) : Prop := 0 < cnA A c ∨ ∃ m, m ∈ qg A ∧ inB c m = true
def StA (A B : Pt) : Prop := (∀ c, InA B c → InA A c) ∧ ∀ c, nz5 (qsd A c) → nz5 (qsd B c)
theorem StA_rf (A : Pt) : StA A A := ⟨fun _ h => h, fun _ h => h⟩
theorem StA_tr {A B C : Pt} (h : StA A B) (h' : StA B C) : StA A C := ⟨fun c z => h.1 c (h'.1 c z), fun c z => h'.2 c (h.2 c z)⟩
theorem StA_mv {A B : Pt} (hg : qg B = qg A) (hc : ∀ c, cnA B c ≤ cnA A c) (hn : ∀ c, nz5 (qsd A c) → nz5 (qsd B c)) : StA A B := ⟨fun c z => by
  rcases z with z | z
  · exact Or.inl (Nat.lt_of_lt_of_le z (hc c))
  · rw [hg] at z
    exact Or.inr z, hn⟩
theorem nz_fu {f : Nat → Int32} {c : Nat} {v : Int32} (hv : nz5 v) : ∀ d, nz5 (f d) → nz5 (fuI f c v d) := fun d h => by
  unfold fuI
  split
  · exact hv
  · exact h
theorem st_fet {A : Pt} : StA A (fetF A) := StA_mv gs_fet.1 (fun c => cn_fet c) (fun d h => by
  cases e : ql A with
  | nil =>
    rw [fetF_n e]
    exact h
  | cons c t =>
    rw [fetF_c e]
    show nz5 (fuI (qsd A) c 1 d)
    exact nz_fu nz5_1 d h)
theorem st_wse {A : Pt} {v : Int32} : StA A (wse A v) := StA_mv rfl (fun _ => Nat.le_refl _) (fun _ h => h)
theorem st_wst {A : Pt} {v : Int32} : StA A (wst A v) := StA_mv rfl (fun _ => Nat.le_refl _) (fun _ h => h)
theorem st_sea {E : En} {A : Pt} : StA A (seaF E A) := by
  by_cases h : ql A = []
  · rw [seaF_n h]
    exact StA_rf A
  · by_cases h2 : (qse A + 1).toInt < (efind E).toInt
    · rw [seaF_w h h2]
      exact st_wse
    · rw [seaF_f h h2]
      exact StA_tr st_wse st_fet
theorem st_cas {A : Pt} : StA A (casF A) := StA_mv gs_cas.1 (fun c => cn_cas c) (fun d h => by
  cases e : qb A with
  | nil =>
    rw [casF_n (Or.inl e)]
    exact h
  | cons c t =>
    by_cases h2 : (qe A).length < 12
    · rw [casF_c e h2]
      show nz5 (fuI (qsd A) c 2 d)
      exact nz_fu nz5_2 d h
    · rw [casF_n (Or.inr h2)]
      exact h)
theorem st_dro {E : En} {A : Pt} : StA A (droF E A) := StA_mv gs_dro.1 (fun c => cn_dro c) (fun d h => by
  by_cases h0 : 0 ≤ thiF E A ∧ thiF E A < ((qe A).length : Int)
  · obtain ⟨c, hc⟩ : ∃ c, (qe A)[(thiF E A).toNat]? = some c := ⟨_, List.getElem?_eq_getElem (by omega)⟩
    rw [droF_c h0.1 hc]
    show nz5 (fuI (qsd A) c 1 d)
    exact nz_fu nz5_1 d h
  · rw [droF_n h0]
    exact h)
theorem st_fnd {A : Pt} : StA A (fndF A) := by
  by_cases h : ql A = []
  · rw [fndF_n h]
    exact StA_rf A
  · rw [fndF_c h]
    exact StA_tr st_fet st_wst
theorem st_thr {A : Pt} : StA A (throF A) := StA_mv gs_thr.1 (fun c => cn_thr c) (fun d h => by
  cases e : (qb A)[(qb A).length - 1]? with
  | none =>
    have h' : throF A = A := by
      unfold throF
      rw [e]
    rw [h']
    exact h
  | some c =>
    rw [throF_c e]
    show nz5 (fuI (qsd A) c 6 d)
    exact nz_fu nz5_6 d h)
theorem st_cut {E : En} {A : Pt} : StA A (cutF E A) := ⟨fun c z => by
  rcases z with z | ⟨m, hm, -⟩
  · rw [cn_cut] at z
    exact Or.inl z
  · rw [qg_cut] at hm
    exact absurd hm List.not_mem_nil, fun d h => by
  by_cases h1 : qg A = []
  · rw [cutF_n h1]
    exact h
  · by_cases h2 : (qsk A).length < 40
    · rw [cutF_k h1 h2]
      exact h
    · rw [cutF_w h1 h2]
      exact h⟩
theorem st_act {E : En} {A : Pt} {a m : Int32} : StA A (actF E a m A) := by
  unfold actF
  split
  · exact st_cas
  · split
    · exact st_dro
    · split
      · exact st_fnd
      · split
        · exact st_thr
        · split
          · exact st_cut
          · exact st_wst
theorem st_ru {E : En} {A : Pt} {r : Ru} : StA A (ruF E A r) := by
  by_cases h : allP E A r.2.2
  · rw [ruF_y h]
    exact st_act
  · rw [ruF_n h]
    exact StA_rf A
theorem st_rus {E : En} : ∀ {R : List Ru} {A : Pt}, StA A (rusF E A R)
  | [], A => StA_rf A
  | r :: R, A => by
    show StA A (rusF E (ruF E A r) R)
    exact StA_tr st_ru st_rus
theorem nz_end {E : En} {A : Pt} {c : Nat} (d : Nat) (h : nz5 (qsd A d)) : nz5 (qsd (endF E A c) d) := by
  have key : nz5 (fuI (qsd A) c (sdV E A c) d) := by
    unfold fuI
    split
    · rename_i e
      unfold sdV
      split
      · exact nz5_4
      · split
        · exact nz5_3
        · rw [← e]
          exact h
    · exact h
  by_cases h2 : sdV E A c = 2
  · rw [endF_2 h2]
    exact key
  · by_cases h3 : sdV E A c = 3
    · rw [endF_3 h3]
      exact key
    · rw [endF_n h2 h3]
      exact key
theorem st_stp {E : En} {A : Pt} : StA A (stpF E A) := by
  cases e : qe A with
  | nil =>
    rw [stpF_n e]
    exact StA_rf A
  | cons c t => exact StA_mv (by rw [stpF_c e]; exact end_q.2.2.1) (fun d => cn_stp d) (fun d h => by
      rw [stpF_c e]
      exact nz_end (A := we A t) d h)
theorem st_ends {E : En} {A : Pt} : ∀ n, StA A (endsF E n A)
  | 0 => StA_rf A
  | n + 1 => StA_tr (st_ends n) st_stp
theorem st_dra {A : Pt} : StA A (DRa A) := ⟨fun c z => by
  rcases z with z | ⟨m, hm, hi⟩
  · exact Or.inl z
  · have hm' : m ∈ capG (qg A) (MTa A) := hm
    unfold capG at hm'
    split at hm'
    · rcases List.mem_append.mp hm' with y | y
      · exact Or.inr ⟨m, y, hi⟩
      · rw [List.mem_singleton.mp y] at hi
        obtain ⟨z, hz, ez⟩ := inB_i.mp hi
        obtain ⟨d, hd, ed⟩ := List.mem_map.mp hz
        refine Or.inl ?_
        have : 0 < (qe A).count c := List.count_pos_iff.mpr (by
          rw [← ez, ← ed]
          exact hd)
        unfold cnA
        omega
    · exact Or.inr ⟨m, hm', hi⟩, fun _ h => h⟩
theorem st_drw {E : En} {A : Pt} : StA A (drwF E A) := by
  have h1 : StA A (drwB E A) := StA_tr st_dra (st_ends _)
  by_cases h : 300 ≤ (qg (drwB E A)).length
  · rw [drwF_c h]
    exact StA_tr h1 st_cut
  · rw [drwF_n h]
    exact h1
theorem st_tic {E : En} {R : List Ru} {A : Pt} : StA A (ticF E R A).1 := by
  have h1 : StA A (wtk A (qtk A + 1)) := StA_mv rfl (fun _ => Nat.le_refl _) (fun _ h => h)
  have h2 : StA A (seaF E (wtk A (qtk A + 1))) := StA_tr h1 st_sea
  have h3 : StA A (ticB E R A) := by
    unfold ticB
    split
    · exact StA_tr h2 st_rus
    · exact h2
  by_cases c1 : 0 < (qst (ticB E R A)).toInt
  · rw [ticF_s c1]
    exact StA_tr h3 st_wst
  · by_cases c2 : qe (ticB E R A) = []
    · rw [ticF_0 c1 c2]
      exact h3
    · rw [ticF_d c1 c2]
      exact StA_tr h3 st_drw
theorem st_run {E : En} {R : List Ru} {A : Pt} : ∀ n, StA A (runF E R n A).1
  | 0 => StA_rf A
  | n + 1 => StA_tr (st_run n) st_tic
theorem fil_in : ∀ {L : List Nat} {A : Pt}, (∀ c, InA (filF A L) c → InA A c ∨ c ∈ L) ∧ (∀ c, nz5 (qsd A c) → nz5 (qsd (filF A L) c)) ∧ (∀ c, c ∈ L → nz5 (qsd (filF A L) c)) ∧ qg (filF A L) = qg A
  | [], A => ⟨fun c h => Or.inl h, fun _ h => h, fun c h => absurd h List.not_mem_nil, rfl⟩
  | a :: t, A => by
    obtain ⟨h1, h2, h3, h4⟩ := fil_in (L := t) (A := recF A a)
    have r2 : ∀ c, nz5 (qsd A c) → nz5 (qsd (recF A a) c) := fun c h => nz_fu nz5_1 c h
    have r3 : nz5 (qsd (recF A a) a) := by
      show nz5 (fuI (qsd A) a 1 a)
      unfold fuI
      rw [if_pos rfl]
      exact nz5_1
    refine ⟨fun c h => ?_, fun c h => h2 c (r2 c h), fun c h => ?_, h4⟩
    · rcases h1 c h with z | z
      · rcases z with z | z
        · by_cases e : c = a
          · exact Or.inr (by rw [e]; exact List.mem_cons_self)
          · refine Or.inl (Or.inl ?_)
            have k := cap_cn (n := 600) (L := qb A) (c := a) (d := c)
            have k0 : [a].count c = 0 := List.count_eq_zero.mpr (fun y => e (List.mem_singleton.mp y))
            have z' : 0 < (capL 600 (qb A) a).count c + (qe A).count c + (ql A).count c := z
            unfold cnA
            omega
        · exact Or.inl (Or.inr z)
      · exact Or.inr (List.mem_cons_of_mem _ z)
    · rcases List.mem_cons.mp h with z | z
      · rw [z]
        exact h2 a r3
      · exact h3 c z
/-! ===== what the reference's rows tell is told once ===== -/
theorem row_u {S : PS} {R n n' : Nat} {L L' : List Nat} (h : RowIs S R L n) (h' : RowIs S R L' n') : L = L' := by
  obtain ⟨q, a1, a2, a3, a4⟩ := h
  obtain ⟨q', b1, b2, b3, b4⟩ := h'
  rw [a1] at b1
  cases b1
  have hn : n = n' := a2.symm.trans b2
  subst hn
  have hl : L.length = L'.length := by omega
  refine List.ext_getElem? (fun k => ?_)
  by_cases hk : k < L.length
  · exact (a4 k hk).symm.trans (b4 k (by omega))
  · rw [List.getElem?_eq_none (by omega), List.getElem?_eq_none (by omega)]
theorem row_el {S : PS} {R n c : Nat} {L : List Nat} (hG : GX S) (hR : At S R 5) (h : RowIs S R L n) (hc : c ∈ L) : At S c 0 := by
  obtain ⟨q, a1, a2, a3, a4⟩ := h
  obtain ⟨q', n', b1, b2, -⟩ := gRow hG hR
  rw [a1] at b1
  cases b1
  obtain ⟨k, hk⟩ := List.mem_iff_getElem?.mp hc
  exact gEl_16 hG b2 _ c ((a4 k (List.getElem?_eq_some_iff.mp hk).1).trans hk)
theorem RowIs_bk {M : List Nat} {S T : PS} {R n : Nat} {L : List Nat} (hG : GX S) (hR : At S R 5) (hF : Fr M S T) (hM : ([500, 501, 502, 10016] : List Nat).all (fun g => !M.contains g) = true) (h : RowIs T R L n) : RowIs S R L n := by
  obtain ⟨q, a1, a2, a3, a4⟩ := h
  rw [frR hF (g := 501) (allc hM (by decide)) hR.1] at a1
  obtain ⟨q', n', b1, b2, -⟩ := gRow hG hR
  have hq : At S q 16 := by
    rw [a1] at b1
    cases b1
    exact b2
  rw [hF.I' (g := 500) (allc hM (by decide)) hR rfl] at a3
  rw [hF.I' (g := 502) (allc hM (by decide)) hR rfl, hF.B' (allc hM (by decide)) hq] at a4
  exact ⟨q, a1, (hF.1 q hq.1).2.2.symm.trans a2, a3, a4⟩
theorem mt_u {S : PS} {x m : Nat} {t t' : Mt} (h : MtR S x m t) (h' : MtR S x m t') : t = t' := by
  have hl : t.length = t'.length := by
    have a := h.1
    have b := h'.1
    omega
  refine List.ext_getElem? (fun k => ?_)
  by_cases hk : k < t.length
  · obtain ⟨z, hz⟩ : ∃ z, t[k]? = some z := ⟨_, List.getElem?_eq_getElem hk⟩
    obtain ⟨y, hy⟩ : ∃ y, t'[k]? = some y := ⟨_, List.getElem?_eq_getElem (by omega)⟩
    obtain ⟨a1, a2, a3⟩ := h.2 k z hz
    obtain ⟨b1, b2, b3⟩ := h'.2 k y hy
    have e1 : z.1 = y.1 := by omega
    have e2 : z.2 = y.2 := Int32.toInt_inj.mp (by omega)
    rw [hz, hy]
    exact congrArg some (Prod.ext e1 e2)
  · rw [List.getElem?_eq_none (by omega), List.getElem?_eq_none (by omega)]
theorem gr_u {S : PS} {x p : Nat} {g g' : List Mt} (h : GrW S x p g) (h' : GrW S x p g') : g = g' := by
  have hl : g.length = g'.length := by
    have a := h.1
    have b := h'.1
    omega
  refine List.ext_getElem? (fun k => ?_)
  by_cases hk : k < g.length
  · obtain ⟨z, hz⟩ : ∃ z, g[k]? = some z := ⟨_, List.getElem?_eq_getElem hk⟩
    obtain ⟨y, hy⟩ : ∃ y, g'[k]? = some y := ⟨_, List.getElem?_eq_getElem (by omega)⟩
    rw [hz, hy, mt_u (h.2 k z hz) (h'.2 k y hy)]
  · rw [List.getElem?_eq_none (by omega), List.getElem?_eq_none (by omega)]
/-- the metres of a skein, as the reference has them -/
def GsW (S : PS) (x k : Nat) (g : List Mt) : Prop := zA S x 1239 (k + 1) = zA S x 1239 k + (g.length : Int) ∧ ∀ (j : Nat) (t : Mt), g[j]? = some t → MtR S x ((zA S x 1239 k).toNat + j) t
theorem gs_u {S : PS} {x k : Nat} {g g' : List Mt} (h : GsW S x k g) (h' : GsW S x k g') : g = g' := by
  have hl : g.length = g'.length := by
    have a := h.1
    have b := h'.1
    omega
  refine List.ext_getElem? (fun j => ?_)
  by_cases hk : j < g.length
  · obtain ⟨z, hz⟩ : ∃ z, g[j]? = some z := ⟨_, List.getElem?_eq_getElem hk⟩
    obtain ⟨y, hy⟩ : ∃ y, g'[j]? = some y := ⟨_, List.getElem?_eq_getElem (by omega)⟩
    rw [hz, hy, mt_u (h.2 j z hz) (h'.2 j y hy)]
  · rw [List.getElem?_eq_none (by omega), List.getElem?_eq_none (by omega)]
theorem mtN_u {ν : Nat → Nat} {D : Nat → Prop} (hI : Inj ν D) : ∀ {t t' : Mt}, (∀ z, z ∈ t → D z.1) → (∀ z, z ∈ t' → D z.1) → mtN ν t = mtN ν t' → t = t'
  | [], [], _, _, _ => rfl
  | [], _ :: _, _, _, e => by cases e
  | _ :: _, [], _, _, e => by cases e
  | a :: t, b :: t', h, h', e => by
    have e' : (ν a.1, a.2) :: mtN ν t = (ν b.1, b.2) :: mtN ν t' := e
    injection e' with e1 e2
    injection e1 with e3 e4
    have e5 : a.1 = b.1 := hI _ _ (h a List.mem_cons_self) (h' b List.mem_cons_self) e3
    rw [mtN_u hI (fun z hz => h z (List.mem_cons_of_mem _ hz)) (fun z hz => h' z (List.mem_cons_of_mem _ hz)) e2, show a = b from Prod.ext e5 e4]
theorem gN_u {ν : Nat → Nat} {D : Nat → Prop} (hI : Inj ν D) : ∀ {g g' : List Mt}, (∀ m, m ∈ g → ∀ z, z ∈ m → D z.1) → (∀ m, m ∈ g' → ∀ z, z ∈ m → D z.1) → g.map (mtN ν) = g'.map (mtN ν) → g = g'
  | [], [], _, _, _ => rfl
  | [], _ :: _, _, _, e => by cases e
  | _ :: _, [], _, _, e => by cases e
  | a :: t, b :: t', h, h', e => by
    have e' : mtN ν a :: t.map (mtN ν) = mtN ν b :: t'.map (mtN ν) := e
    injection e' with e1 e2
    rw [gN_u hI (fun m hm => h m (List.mem_cons_of_mem _ hm)) (fun m hm => h' m (List.mem_cons_of_mem _ hm)) e2, mtN_u hI (h a List.mem_cons_self) (h' b List.mem_cons_self) e1]
theorem gN_nu {D : Nat → Prop} {g : List Mt} {ν ν' : Nat → Nat} (h : ∀ m, m ∈ g → ∀ z, z ∈ m → D z.1) (e : ∀ c, D c → ν' c = ν c) : g.map (mtN ν') = g.map (mtN ν) := List.map_congr_left (fun m hm => List.map_congr_left (fun z hz => by
  show (ν' z.1, z.2) = (ν z.1, z.2)
  rw [e z.1 (h m hm z hz)]))
theorem nd_of : ∀ {L : List Nat} {c : Nat}, (∀ i j : Nat, i < j → L[i]? = some c → L[j]? = some c → False) → L.count c ≤ 1
  | [], _, _ => Nat.zero_le _
  | a :: t, c, h => by
    rw [con_cn]
    have ih : t.count c ≤ 1 := nd_of (fun i j hij hi hj => h (i + 1) (j + 1) (by omega) (by rw [List.getElem?_cons_succ]; exact hi) (by rw [List.getElem?_cons_succ]; exact hj))
    have h1 : [a].count c ≤ 1 := List.count_le_length
    by_cases e : a = c
    · have : t.count c = 0 := List.count_eq_zero.mpr (fun z => by
        obtain ⟨k, hk⟩ := List.mem_iff_getElem?.mp z
        exact h 0 (k + 1) (by omega) (by rw [List.getElem?_cons_zero, e]) (by rw [List.getElem?_cons_succ]; exact hk))
      omega
    · have : [a].count c = 0 := List.count_eq_zero.mpr (fun z => e (List.mem_singleton.mp z).symm)
      omega
theorem row_cn {S : PS} {mo r : Nat} {L : List Nat} {ν : Nat → Nat} (hMI : MI S mo) (hr : r < 12) (h : RowR S mo r (L.map ν)) (c : Nat) : L.count c ≤ 1 ∧ (0 < L.count c → zA S mo 1207 (ν c) = ((r % 3 + 1 : Nat) : Int)) := by
  have hl : zA S mo 1219 r = (L.length : Int) := by
    have a := h.1
    rw [List.length_map] at a
    exact a
  have hc : ∀ k, L[k]? = some c → zA S mo 1218 (600 * r + k) = ((ν c : Nat) : Int) ∧ (k : Int) < zA S mo 1219 r := fun k hk => by
    refine ⟨h.2 k (ν c) (by rw [List.getElem?_map, hk]; rfl), ?_⟩
    have := (List.getElem?_eq_some_iff.mp hk).1
    omega
  refine ⟨nd_of (fun i j hij hi hj => ?_), fun z => ?_⟩
  · obtain ⟨a1, a2⟩ := hc i hi
    obtain ⟨b1, b2⟩ := hc j hj
    exact hMI.2.2.1 r i j hr hij b2 (a1.trans b1.symm)
  · obtain ⟨k, hk⟩ := List.mem_iff_getElem?.mp (List.count_pos_iff.mp z)
    obtain ⟨a1, a2⟩ := hc k hk
    have m := (hMI.2.1 r k hr a2).2.2.1
    rw [a1, Int.toNat_natCast] at m
    exact m
theorem cn_of {S : PS} {mo p : Nat} {ν : Nat → Nat} {A : Pt} (hMI : MI S mo) (hp : p < 4) (h : PW S mo (p : Int) (rnA ν A)) (c : Nat) : cnA A c ≤ 1 := by
  obtain ⟨h0, h1, h2, -⟩ := h
  have a : RowR S mo (3 * p) ((qb A).map ν) := by
    have e : (3 * (p : Int) + 0).toNat = 3 * p := by omega
    rw [e] at h0
    exact h0
  have b : RowR S mo (3 * p + 1) ((qe A).map ν) := by
    have e : (3 * (p : Int) + 1).toNat = 3 * p + 1 := by omega
    rw [e] at h1
    exact h1
  have d : RowR S mo (3 * p + 2) ((ql A).map ν) := by
    have e : (3 * (p : Int) + 2).toNat = 3 * p + 2 := by omega
    rw [e] at h2
    exact h2
  obtain ⟨a1, a2⟩ := row_cn hMI (by omega) a c
  obtain ⟨b1, b2⟩ := row_cn hMI (by omega) b c
  obtain ⟨d1, d2⟩ := row_cn hMI (by omega) d c
  unfold cnA
  rcases Nat.eq_zero_or_pos ((qb A).count c) with x | x <;> rcases Nat.eq_zero_or_pos ((qe A).count c) with y | y <;> rcases Nat.eq_zero_or_pos ((ql A).count c) with z | z
  · omega
  · omega
  · omega
  · have := b2 y
    have := d2 z
    omega
  · omega
  · have := a2 x
    have := d2 z
    omega
  · have := a2 x
    have := b2 y
    omega
  · have := a2 x
    have := b2 y
    omega
theorem cd_inj {S : PS} {x mo : Nat} (hG : GX S) (hx : At S x 11) (ct : CT S x mo) : ∀ c d, DC S x c → DC S x d → cdS S c = cdS S d → c = d := by
  have hr := gI_11_1102 hG hx
  have key : ∀ c, DC S x c → ∃ l i : Nat, (i : Int) < 60 ∧ mB S x 1100 (60 * l + i) = some c ∧ (cdS S c).toInt = (l : Int) * 100 + (i : Int) := fun c ⟨l, i, k1, k2, k3⟩ => by
    have b1 := il60 hG hx l
    obtain ⟨c', c1, -, c3, c4, -⟩ := CT_get (l := (l : Int)) (i := (i : Int)) ct (by omega) k1 (by omega) k2 (by omega)
    rw [show (60 * (l : Int) + (i : Int)).toNat = 60 * l + i by omega, k3] at c1
    cases c1
    have t0 : (pI S 0 c).toInt = (l : Int) := by
      rw [c3, Int32.toInt_ofInt]
      exact bm_id (by omega) (by omega)
    have t1 : (pI S 1 c).toInt = (i : Int) := by
      rw [c4, Int32.toInt_ofInt]
      exact bm_id (by omega) (by omega)
    have t2 : (pI S 0 c * 100).toInt = (l : Int) * 100 := z_mul rfl t0 (show (100 : Int32).toInt = 100 by decide) (by omega) (by omega)
    exact ⟨l, i, by omega, k3, z_add rfl t2 t1 (by omega) (by omega)⟩
  intro c d hc hd e
  obtain ⟨l, i, a1, a2, a3⟩ := key c hc
  obtain ⟨l', i', b1, b2, b3⟩ := key d hd
  rw [e, b3] at a3
  have e1 : l = l' := by omega
  have e2 : i = i' := by omega
  rw [e1, e2, b2] at a2
  exact (Option.some.inj a2).symm
