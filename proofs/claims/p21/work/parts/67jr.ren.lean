/-! ===== the same state under other names ===== -/
def mtN (ν : Nat → Nat) (m : Mt) : Mt := m.map (fun u => (ν u.1, u.2))
def skN (ν : Nat → Nat) (s : Sk) : Sk := (s.1, s.2.1, s.2.2.1, s.2.2.2.map (mtN ν))
def Ren (ν : Nat → Nat) (D : Nat → Prop) (A B : Pt) : Prop := qb B = (qb A).map ν ∧ qe B = (qe A).map ν ∧ ql B = (ql A).map ν ∧ qst B = qst A ∧ qse B = qse A ∧ qg B = (qg A).map (mtN ν) ∧ (∀ c, D c → qpl B (ν c) = qpl A c ∧ qsd B (ν c) = qsd A c) ∧ qsk B = (qsk A).map (skN ν) ∧ qws B = (qws A).map (List.map (mtN ν)) ∧ qdr B = qdr A ∧ qtk B = qtk A ∧ InD D A
def ReE (ν : Nat → Nat) (D : Nat → Prop) (E F : En) : Prop := (∀ c, D c → elen F (ν c) = elen E c ∧ (∀ p, efn F (ν c) p = efn E c p) ∧ ∀ p, ebr F (ν c) p ↔ ebr E c p) ∧ eday F = eday E ∧ epot F = epot E ∧ eaim F = eaim E ∧ efind F = efind E
def Inj (ν : Nat → Nat) (D : Nat → Prop) : Prop := ∀ c d, D c → D d → ν c = ν d → c = d
theorem fu_ren {ν : Nat → Nat} {D : Nat → Prop} {f g : Nat → Int32} {a : Nat} {v : Int32} (hI : Inj ν D) (ha : D a) (h : ∀ c, D c → g (ν c) = f c) : ∀ c, D c → fuI g (ν a) v (ν c) = fuI f a v c := fun c hc => by
  unfold fuI
  by_cases e : c = a
  · rw [if_pos e, if_pos (by rw [e])]
  · rw [if_neg e, if_neg (fun z => e (hI c a hc ha z))]
    exact h c hc
theorem capL_ren {ν : Nat → Nat} {n c : Nat} {L : List Nat} : capL n (L.map ν) (ν c) = (capL n L c).map ν := by
  unfold capL
  rw [List.length_map]
  split
  · rw [List.map_append]; rfl
  · rfl
theorem capF_ren {ν : Nat → Nat} {n c : Nat} {L : List Nat} : capF n (L.map ν) (ν c) = (capF n L c).map ν := by
  unfold capF
  rw [List.length_map]
  split <;> rfl
theorem er_ren {ν : Nat → Nat} : ∀ {L : List Nat} {i : Nat}, (L.map ν).eraseIdx i = (L.eraseIdx i).map ν
  | [], _ => rfl
  | _ :: _, 0 => rfl
  | a :: t, i + 1 => by
    show ν a :: (t.map ν).eraseIdx i = ν a :: (t.eraseIdx i).map ν
    rw [er_ren]
theorem nil_ren {ν : Nat → Nat} {L : List Nat} : L.map ν = [] ↔ L = [] := List.map_eq_nil_iff
theorem ren_fet {ν : Nat → Nat} {D : Nat → Prop} {A B : Pt} (hI : Inj ν D) (h : Ren ν D A B) : Ren ν D (fetF A) (fetF B) := by
  obtain ⟨h0, h1, h2, h3, h4, h5, h6, h7, h8, h9, h10, h11⟩ := h
  cases e : ql A with
  | nil =>
    rw [e] at h2
    rw [fetF_n e, fetF_n h2]
    exact ⟨h0, h1, by show ql B = (ql A).map ν; rw [e]; exact h2, h3, rfl, h5, h6, h7, h8, h9, h10, h11⟩
  | cons c t =>
    rw [e] at h2
    have hc : D c := h11 c (Or.inr (Or.inr (by rw [e]; exact List.mem_cons_self)))
    have hD := inD_fet h11
    rw [fetF_c e] at hD
    rw [fetF_c e, fetF_c (c := ν c) (t := t.map ν) h2]
    refine ⟨?_, h1, rfl, h3, ?_, h5, fun d hd => ⟨(h6 d hd).1, ?_⟩, h7, h8, h9, h10, hD⟩
    · show capL 600 (qb B) (ν c) = (capL 600 (qb A) c).map ν
      rw [h0]; exact capL_ren
    · show (if t.map ν = [] then (0 : Int32) else qse B) = (if t = [] then 0 else qse A)
      by_cases z : t = []
      · rw [if_pos z, if_pos (nil_ren.mpr z)]
      · rw [if_neg z, if_neg (fun y => z (nil_ren.mp y)), h4]
    · exact fu_ren hI hc (fun c hc => (h6 c hc).2) d hd
theorem ren_sea {ν : Nat → Nat} {D : Nat → Prop} {A B : Pt} {E F : En} (hI : Inj ν D) (hE : ReE ν D E F) (h : Ren ν D A B) : Ren ν D (seaF E A) (seaF F B) := by
  have h' := h
  obtain ⟨h0, h1, h2, h3, h4, h5, h6, h7, h8, h9, h10, h11⟩ := h'
  by_cases e : ql A = []
  · rw [seaF_n e, seaF_n (by rw [h2, e]; rfl)]; exact h
  · have e2 : ql B ≠ [] := fun z => e (nil_ren.mp (by rw [← h2]; exact z))
    by_cases k : (qse A + 1).toInt < (efind E).toInt
    · rw [seaF_w e k, seaF_w e2 (by rw [h4, hE.2.2.2.2]; exact k)]
      exact ⟨h0, h1, h2, h3, by show qse B + 1 = qse A + 1; rw [h4], h5, h6, h7, h8, h9, h10, h11⟩
    · rw [seaF_f e k, seaF_f e2 (by rw [h4, hE.2.2.2.2]; exact k)]
      exact ren_fet hI ⟨h0, h1, h2, h3, rfl, h5, h6, h7, h8, h9, h10, h11⟩
theorem ren_cas {ν : Nat → Nat} {D : Nat → Prop} {A B : Pt} (hI : Inj ν D) (h : Ren ν D A B) : Ren ν D (casF A) (casF B) := by
  have h' := h
  obtain ⟨h0, h1, h2, h3, h4, h5, h6, h7, h8, h9, h10, h11⟩ := h'
  cases e : qb A with
  | nil => rw [casF_n (Or.inl e), casF_n (Or.inl (by rw [h0, e]; rfl))]; exact h
  | cons c t =>
    have e2 : qb B = ν c :: t.map ν := by rw [h0, e]; rfl
    have hc : D c := h11 c (Or.inl (by rw [e]; exact List.mem_cons_self))
    by_cases k : (qe A).length < 12
    · have hD := inD_cas h11
      rw [casF_c e k] at hD
      rw [casF_c e k, casF_c e2 (by rw [h1, List.length_map]; exact k)]
      refine ⟨rfl, ?_, h2, h3, h4, h5, fun d hd => ⟨(h6 d hd).1, fu_ren hI hc (fun c hc => (h6 c hc).2) d hd⟩, h7, h8, h9, h10, hD⟩
      show capL 12 (qe B) (ν c) = (capL 12 (qe A) c).map ν
      rw [h1]; exact capL_ren
    · rw [casF_n (Or.inr k), casF_n (Or.inr (by rw [h1, List.length_map]; exact k))]; exact h
theorem ren_fin {ν : Nat → Nat} {D : Nat → Prop} {A B : Pt} {E F : En} (hE : ReE ν D E F) (h : Ren ν D A B) {c : Nat} (hc : D c) : finF F B (ν c) = finF E A c := by
  unfold finF
  rw [(hE.1 c hc).2.1, (h.2.2.2.2.2.2.1 c hc).1]
theorem ren_th {ν : Nat → Nat} {f g : Nat → Int} {L : List Nat} (h : ∀ c, c ∈ L → g (ν c) = f c) : ∀ k, thN g (L.map ν) k = thN f L k
  | 0 => rfl
  | k + 1 => by
    have ih := ren_th h k
    show (match (L.map ν)[k]? with | some c => if g c < (thN g (L.map ν) k).2 then ((k : Int), g c) else thN g (L.map ν) k | none => thN g (L.map ν) k) = (match L[k]? with | some c => if f c < (thN f L k).2 then ((k : Int), f c) else thN f L k | none => thN f L k)
    rw [List.getElem?_map, ih]
    cases e : L[k]? with
    | none => rfl
    | some c =>
      show (if g (ν c) < (thN f L k).2 then ((k : Int), g (ν c)) else thN f L k) = (if f c < (thN f L k).2 then ((k : Int), f c) else thN f L k)
      rw [h c (ix_mem e)]
theorem ren_thi {ν : Nat → Nat} {D : Nat → Prop} {A B : Pt} {E F : En} (hE : ReE ν D E F) (h : Ren ν D A B) : thiF F B = thiF E A := by
  unfold thiF
  rw [h.2.1, List.length_map, ren_th (f := fun c => (finF E A c).toInt) (fun c hm => by
    show (finF F B (ν c)).toInt = (finF E A c).toInt
    rw [ren_fin hE h (h.2.2.2.2.2.2.2.2.2.2.2 c (Or.inr (Or.inl hm)))])]
theorem ren_dro {ν : Nat → Nat} {D : Nat → Prop} {A B : Pt} {E F : En} (hI : Inj ν D) (hE : ReE ν D E F) (h : Ren ν D A B) : Ren ν D (droF E A) (droF F B) := by
  have ht := ren_thi hE h
  have h' := h
  obtain ⟨h0, h1, h2, h3, h4, h5, h6, h7, h8, h9, h10, h11⟩ := h'
  by_cases k : 0 ≤ thiF E A ∧ thiF E A < ((qe A).length : Int)
  · obtain ⟨c, hc⟩ : ∃ c, (qe A)[(thiF E A).toNat]? = some c := ⟨_, List.getElem?_eq_getElem (by omega)⟩
    have hD := inD_dro (E := E) h11
    rw [droF_c k.1 hc] at hD
    have hd : D c := h11 c (Or.inr (Or.inl (ix_mem hc)))
    rw [droF_c k.1 hc, droF_c (E := F) (A := B) (c := ν c) (by rw [ht]; exact k.1) (by rw [ht, h1, List.getElem?_map, hc]; rfl)]
    refine ⟨?_, ?_, h2, h3, h4, h5, fun d hd2 => ⟨(h6 d hd2).1, fu_ren hI hd (fun c hc => (h6 c hc).2) d hd2⟩, h7, h8, h9, h10, hD⟩
    · show capF 600 (qb B) (ν c) = (capF 600 (qb A) c).map ν
      rw [h0]; exact capF_ren
    · show (qe B).eraseIdx (thiF F B).toNat = ((qe A).eraseIdx (thiF E A).toNat).map ν
      rw [ht, h1]; exact er_ren
  · rw [droF_n k, droF_n (by rw [ht, h1, List.length_map]; exact k)]; exact h
theorem ren_fnd {ν : Nat → Nat} {D : Nat → Prop} {A B : Pt} (hI : Inj ν D) (h : Ren ν D A B) : Ren ν D (fndF A) (fndF B) := by
  by_cases e : ql A = []
  · rw [fndF_n e, fndF_n (by rw [h.2.2.1, e]; rfl)]; exact h
  · rw [fndF_c e, fndF_c (fun z => e (nil_ren.mp (by rw [← h.2.2.1]; exact z)))]
    obtain ⟨h0, h1, h2, h3, h4, h5, h6, h7, h8, h9, h10, h11⟩ := ren_fet hI h
    exact ⟨h0, h1, h2, by show qst (fetF B) + 2 = qst (fetF A) + 2; rw [h3], h4, h5, h6, h7, h8, h9, h10, h11⟩
theorem ren_thr {ν : Nat → Nat} {D : Nat → Prop} {A B : Pt} (hI : Inj ν D) (h : Ren ν D A B) : Ren ν D (throF A) (throF B) := by
  have h' := h
  obtain ⟨h0, h1, h2, h3, h4, h5, h6, h7, h8, h9, h10, h11⟩ := h'
  cases e : (qb A)[(qb A).length - 1]? with
  | none =>
    have e1 : qb A = [] := by
      have := List.getElem?_eq_none_iff.mp e
      exact List.eq_nil_of_length_eq_zero (by omega)
    rw [throF_n e1, throF_n (by rw [h0, e1]; rfl)]; exact h
  | some c =>
    have hD := inD_thr h11
    rw [throF_c e] at hD
    have hd : D c := h11 c (Or.inl (ix_mem e))
    rw [throF_c e, throF_c (A := B) (c := ν c) (by rw [h0, List.length_map, List.getElem?_map, e]; rfl)]
    refine ⟨?_, h1, h2, h3, h4, h5, fun d hd2 => ⟨(h6 d hd2).1, fu_ren hI hd (fun c hc => (h6 c hc).2) d hd2⟩, h7, h8, h9, h10, hD⟩
    show (qb B).eraseIdx ((qb B).length - 1) = ((qb A).eraseIdx ((qb A).length - 1)).map ν
    rw [h0, List.length_map]; exact er_ren
theorem ren_cut {ν : Nat → Nat} {D : Nat → Prop} {A B : Pt} {E F : En} (hE : ReE ν D E F) (h : Ren ν D A B) : Ren ν D (cutF E A) (cutF F B) := by
  have h' := h
  obtain ⟨h0, h1, h2, h3, h4, h5, h6, h7, h8, h9, h10, h11⟩ := h'
  by_cases e : qg A = []
  · rw [cutF_n e, cutF_n (by rw [h5, e]; rfl)]; exact h
  · have e2 : qg B ≠ [] := fun z => e (List.map_eq_nil_iff.mp (by rw [← h5]; exact z))
    by_cases k : (qsk A).length < 40
    · rw [cutF_k e k, cutF_k e2 (by rw [h7, List.length_map]; exact k)]
      refine ⟨h0, h1, h2, h3, h4, rfl, h6, ?_, h8, h9, h10, h11⟩
      show qsk B ++ [(epot F, eday F, eaim F, qg B)] = (qsk A ++ [(epot E, eday E, eaim E, qg A)]).map (skN ν)
      rw [h7, List.map_append, hE.2.1, hE.2.2.1, hE.2.2.2.1, h5]
      rfl
    · rw [cutF_w e k, cutF_w e2 (by rw [h7, List.length_map]; exact k)]
      refine ⟨h0, h1, h2, h3, h4, rfl, h6, h7, ?_, h9, h10, h11⟩
      show qws B ++ [qg B] = (qws A ++ [qg A]).map (List.map (mtN ν))
      rw [h8, List.map_append, h5]
      rfl
theorem ren_act {ν : Nat → Nat} {D : Nat → Prop} {A B : Pt} {E F : En} {a m : Int32} (hI : Inj ν D) (hE : ReE ν D E F) (h : Ren ν D A B) : Ren ν D (actF E a m A) (actF F a m B) := by
  unfold actF
  split
  · exact ren_cas hI h
  · split
    · exact ren_dro hI hE h
    · split
      · exact ren_fnd hI h
      · split
        · exact ren_thr hI h
        · split
          · exact ren_cut hE h
          · obtain ⟨h0, h1, h2, h3, h4, h5, h6, h7, h8, h9, h10, h11⟩ := h
            exact ⟨h0, h1, h2, by show qst B + m = qst A + m; rw [h3], h4, h5, h6, h7, h8, h9, h10, h11⟩
theorem ren_su {ν : Nat → Nat} {f g : Nat → Int32} {L : List Nat} (h : ∀ c, c ∈ L → g (ν c) = f c) : suL g (L.map ν) = suL f L := by
  unfold suL
  generalize (0 : Int32) = a
  induction L generalizing a with
  | nil => rfl
  | cons c t ih =>
    show (t.map ν).foldl (fun a c => a + g c) (a + g (ν c)) = t.foldl (fun a c => a + f c) (a + f c)
    rw [h c List.mem_cons_self]
    exact ih (fun d hd => h d (List.mem_cons_of_mem _ hd)) _
theorem ren_val {ν : Nat → Nat} {D : Nat → Prop} {A B : Pt} {E F : En} {f : Int32} (hE : ReE ν D E F) (h : Ren ν D A B) : valF F B f = valF E A f := by
  have ht := ren_thi hE h
  have hf : ∀ c, c ∈ qe A → finF F B (ν c) = finF E A c := fun c hm => ren_fin hE h (h.2.2.2.2.2.2.2.2.2.2.2 c (Or.inr (Or.inl hm)))
  unfold valF
  rw [h.2.1, h.1, h.2.2.1, h.2.2.2.2.2.1, List.length_map, List.length_map, List.length_map, List.length_map, ren_su hf, hE.2.1, ht, List.getElem?_map]
  cases e : (qe A)[(thiF E A).toNat]? with
  | none => rfl
  | some c =>
    show (if f = 0 then _ else if f = 1 then _ else if f = 2 then _ else if f = 3 then _ else if f = 4 then _ else if f = 5 then (if 0 ≤ thiF E A then (finF F B (ν c)).toInt else 0) else _) = _
    rw [hf c (ix_mem e)]
theorem ren_all {ν : Nat → Nat} {D : Nat → Prop} {A B : Pt} {E F : En} {L : List (Int32 × Int32 × Int32)} (hE : ReE ν D E F) (h : Ren ν D A B) : allP F B L ↔ allP E A L := by
  unfold allP
  constructor
  · intro k c hc
    have := k c hc
    rw [ren_val hE h] at this
    exact this
  · intro k c hc
    rw [ren_val hE h]
    exact k c hc
theorem ren_ru {ν : Nat → Nat} {D : Nat → Prop} {A B : Pt} {E F : En} {r : Ru} (hI : Inj ν D) (hE : ReE ν D E F) (h : Ren ν D A B) : Ren ν D (ruF E A r) (ruF F B r) := by
  by_cases e : allP E A r.2.2
  · rw [ruF_y e, ruF_y ((ren_all hE h).mpr e)]; exact ren_act hI hE h
  · rw [ruF_n e, ruF_n (fun z => e ((ren_all hE h).mp z))]; exact h
theorem ren_rus {ν : Nat → Nat} {D : Nat → Prop} {E F : En} (hI : Inj ν D) (hE : ReE ν D E F) : ∀ {R : List Ru} {A B : Pt}, Ren ν D A B → Ren ν D (rusF E A R) (rusF F B R)
  | [], _, _, h => h
  | r :: t, A, B, h => ren_rus hI hE (R := t) (A := ruF E A r) (B := ruF F B r) (ren_ru hI hE h)
theorem ren_sdv {ν : Nat → Nat} {D : Nat → Prop} {A B : Pt} {E F : En} {c : Nat} (hE : ReE ν D E F) (h : Ren ν D A B) (hc : D c) : sdV F B (ν c) = sdV E A c := by
  obtain ⟨e1, -, e3⟩ := hE.1 c hc
  obtain ⟨p1, p2⟩ := h.2.2.2.2.2.2.1 c hc
  unfold sdV
  rw [e1, p1, p2]
  by_cases k : (elen E c).toInt ≤ (qpl A c + 1).toInt
  · rw [if_pos k, if_pos k]
  · rw [if_neg k, if_neg k]
    by_cases b : ebr E c (qpl A c)
    · rw [if_pos b, if_pos ((e3 _).mpr b)]
    · rw [if_neg b, if_neg (fun z => b ((e3 _).mp z))]
theorem ren_end {ν : Nat → Nat} {D : Nat → Prop} {A B : Pt} {E F : En} {c : Nat} (hI : Inj ν D) (hE : ReE ν D E F) (h : Ren ν D A B) (hc : D c) : Ren ν D (endF E A c) (endF F B (ν c)) := by
  have hs := ren_sdv hE h hc
  have hD := inD_end (E := E) h.2.2.2.2.2.2.2.2.2.2.2 hc
  obtain ⟨h0, h1, h2, h3, h4, h5, h6, h7, h8, h9, h10, h11⟩ := h
  have hp : ∀ d, D d → fuI (qpl B) (ν c) (qpl B (ν c) + 1) (ν d) = fuI (qpl A) c (qpl A c + 1) d := by
    rw [(h6 c hc).1]; exact fu_ren hI hc (fun c hc => (h6 c hc).1)
  have hd : ∀ d, D d → fuI (qsd B) (ν c) (sdV F B (ν c)) (ν d) = fuI (qsd A) c (sdV E A c) d := by
    rw [hs]; exact fu_ren hI hc (fun c hc => (h6 c hc).2)
  by_cases k2 : sdV E A c = 2
  · rw [endF_2 k2] at hD ⊢
    rw [endF_2 (by rw [hs]; exact k2)]
    refine ⟨h0, ?_, h2, h3, h4, h5, fun d hd2 => ⟨hp d hd2, hd d hd2⟩, h7, h8, h9, h10, hD⟩
    show capL 12 (qe B) (ν c) = (capL 12 (qe A) c).map ν
    rw [h1]; exact capL_ren
  · by_cases k3 : sdV E A c = 3
    · rw [endF_3 k3] at hD ⊢
      rw [endF_3 (by rw [hs]; exact k3)]
      refine ⟨h0, h1, ?_, h3, h4, h5, fun d hd2 => ⟨hp d hd2, hd d hd2⟩, h7, h8, h9, h10, hD⟩
      show capL 600 (ql B) (ν c) = (capL 600 (ql A) c).map ν
      rw [h2]; exact capL_ren
    · rw [endF_n k2 k3] at hD ⊢
      rw [endF_n (by rw [hs]; exact k2) (by rw [hs]; exact k3)]
      exact ⟨h0, h1, h2, h3, h4, h5, fun d hd2 => ⟨hp d hd2, hd d hd2⟩, h7, h8, h9, h10, hD⟩
theorem ren_stp {ν : Nat → Nat} {D : Nat → Prop} {A B : Pt} {E F : En} (hI : Inj ν D) (hE : ReE ν D E F) (h : Ren ν D A B) : Ren ν D (stpF E A) (stpF F B) := by
  cases e : qe A with
  | nil => rw [stpF_n e, stpF_n (by rw [h.2.1, e]; rfl)]; exact h
  | cons c t =>
    have h11 := h.2.2.2.2.2.2.2.2.2.2.2
    rw [stpF_c e, stpF_c (c := ν c) (t := t.map ν) (by rw [h.2.1, e]; rfl)]
    obtain ⟨h0, h1, h2, h3, h4, h5, h6, h7, h8, h9, h10, -⟩ := h
    exact ren_end (A := we A t) (B := we B (t.map ν)) hI hE ⟨h0, rfl, h2, h3, h4, h5, h6, h7, h8, h9, h10, inD_tl h11 e⟩ (h11 c (Or.inr (Or.inl (by rw [e]; exact List.mem_cons_self))))
theorem ren_ends {ν : Nat → Nat} {D : Nat → Prop} {A B : Pt} {E F : En} (hI : Inj ν D) (hE : ReE ν D E F) (h : Ren ν D A B) : ∀ n, Ren ν D (endsF E n A) (endsF F n B)
  | 0 => h
  | n + 1 => ren_stp hI hE (ren_ends hI hE h n)
theorem ren_drw {ν : Nat → Nat} {D : Nat → Prop} {A B : Pt} {E F : En} (hI : Inj ν D) (hE : ReE ν D E F) (h : Ren ν D A B) : Ren ν D (drwF E A) (drwF F B) := by
  have hB : Ren ν D (drwB E A) (drwB F B) := by
    unfold drwB
    rw [show (qe B).length = (qe A).length by rw [h.2.1, List.length_map]]
    refine ren_ends hI hE ?_ _
    obtain ⟨h0, h1, h2, h3, h4, h5, h6, h7, h8, h9, h10, h11⟩ := h
    refine ⟨h0, h1, h2, h3, h4, ?_, h6, h7, h8, by show qdr B + 1 = qdr A + 1; rw [h9], h10, h11⟩
    show capG (qg B) ((qe B).map (fun c => (c, qpl B c))) = (capG (qg A) ((qe A).map (fun c => (c, qpl A c)))).map (mtN ν)
    have em : (qe B).map (fun c => (c, qpl B c)) = mtN ν ((qe A).map (fun c => (c, qpl A c))) := by
      unfold mtN
      rw [h1, List.map_map, List.map_map]
      refine List.map_congr_left (fun c hm => ?_)
      show (ν c, qpl B (ν c)) = (ν c, qpl A c)
      rw [(h6 c (h11 c (Or.inr (Or.inl hm)))).1]
    unfold capG
    rw [em, h5, List.length_map]
    split
    · rw [List.map_append]; rfl
    · rfl
  have hl : (qg (drwB F B)).length = (qg (drwB E A)).length := by rw [hB.2.2.2.2.2.1, List.length_map]
  by_cases k : 300 ≤ (qg (drwB E A)).length
  · rw [drwF_c k, drwF_c (by rw [hl]; exact k)]; exact ren_cut hE hB
  · rw [drwF_n k, drwF_n (by rw [hl]; exact k)]; exact hB
theorem ren_tic {ν : Nat → Nat} {D : Nat → Prop} {A B : Pt} {E F : En} {R : List Ru} (hI : Inj ν D) (hE : ReE ν D E F) (h : Ren ν D A B) : Ren ν D (ticF E R A).1 (ticF F R B).1 ∧ ((ticF F R B).2 ↔ (ticF E R A).2) := by
  have hS : Ren ν D (seaF E (wtk A (qtk A + 1))) (seaF F (wtk B (qtk B + 1))) := by
    refine ren_sea hI hE ?_
    obtain ⟨h0, h1, h2, h3, h4, h5, h6, h7, h8, h9, h10, h11⟩ := h
    exact ⟨h0, h1, h2, h3, h4, h5, h6, h7, h8, h9, by show qtk B + 1 = qtk A + 1; rw [h10], h11⟩
  have hB : Ren ν D (ticB E R A) (ticB F R B) := by
    unfold ticB
    by_cases k : qst (seaF E (wtk A (qtk A + 1))) = 0
    · rw [if_pos k, if_pos (by rw [hS.2.2.2.1]; exact k)]; exact ren_rus hI hE hS
    · rw [if_neg k, if_neg (by rw [hS.2.2.2.1]; exact k)]; exact hS
  have ht : qst (ticB F R B) = qst (ticB E R A) := hB.2.2.2.1
  by_cases k1 : 0 < (qst (ticB E R A)).toInt
  · rw [ticF_s k1, ticF_s (by rw [ht]; exact k1)]
    obtain ⟨h0, h1, h2, h3, h4, h5, h6, h7, h8, h9, h10, h11⟩ := hB
    exact ⟨⟨h0, h1, h2, by show qst (ticB F R B) - 1 = qst (ticB E R A) - 1; rw [ht], h4, h5, h6, h7, h8, h9, h10, h11⟩, Iff.rfl⟩
  · by_cases k2 : qe (ticB E R A) = []
    · rw [ticF_0 k1 k2, ticF_0 (by rw [ht]; exact k1) (by rw [hB.2.1, k2]; rfl)]
      exact ⟨hB, Iff.rfl⟩
    · rw [ticF_d k1 k2, ticF_d (by rw [ht]; exact k1) (fun z => k2 (nil_ren.mp (by rw [← hB.2.1]; exact z)))]
      exact ⟨ren_drw hI hE hB, Iff.rfl⟩
theorem ren_run {ν : Nat → Nat} {D : Nat → Prop} {A B : Pt} {E F : En} {R : List Ru} (hI : Inj ν D) (hE : ReE ν D E F) (h : Ren ν D A B) : ∀ n, Ren ν D (runF E R n A).1 (runF F R n B).1 ∧ (runF F R n B).2 = (runF E R n A).2
  | 0 => ⟨h, rfl⟩
  | n + 1 => by
    obtain ⟨k1, k2⟩ := ren_run hI hE h (R := R) n
    obtain ⟨t1, t2⟩ := ren_tic (R := R) hI hE k1
    refine ⟨t1, ?_⟩
    by_cases z : (ticF E R (runF E R n A).1).2
    · rw [runF_y z, runF_y (t2.mpr z), k2]
    · rw [runF_n z, runF_n (fun y => z (t2.mp y)), k2]
/-! ===== what search keeps ===== -/
def IvQ (fd : Int) (A : Pt) : Prop := (ql A = [] → qse A = 0) ∧ 0 ≤ (qse A).toInt ∧ (qse A).toInt < fd
theorem iv_se {fd : Int} {A B : Pt} (hl : ql B = ql A) (hs : qse B = qse A) (h : IvQ fd A) : IvQ fd B := by
  unfold IvQ
  rw [hl, hs]
  exact h
theorem iv_fet {fd : Int} {A : Pt} (hf : 0 < fd) (h : 0 ≤ (qse A).toInt ∧ (qse A).toInt < fd) : IvQ fd (fetF A) := by
  cases e : ql A with
  | nil =>
    rw [fetF_n e]
    exact ⟨fun _ => rfl, by show 0 ≤ (0 : Int32).toInt; decide, by show (0 : Int32).toInt < fd; rw [t0]; exact hf⟩
  | cons c t =>
    rw [fetF_c e]
    show ((t = []) → (if t = [] then (0 : Int32) else qse A) = 0) ∧ 0 ≤ (if t = [] then (0 : Int32) else qse A).toInt ∧ (if t = [] then (0 : Int32) else qse A).toInt < fd
    by_cases z : t = []
    · rw [if_pos z, t0]
      exact ⟨fun _ => rfl, by decide, hf⟩
    · rw [if_neg z]
      exact ⟨fun y => absurd y z, h⟩
theorem iv_sea {E : En} {A : Pt} (hf : 0 < (efind E).toInt) (h : IvQ (efind E).toInt A) : IvQ (efind E).toInt (seaF E A) := by
  by_cases e : ql A = []
  · rw [seaF_n e]; exact h
  · by_cases k : (qse A + 1).toInt < (efind E).toInt
    · rw [seaF_w e k]
      refine ⟨fun z => absurd z e, ?_, k⟩
      show 0 ≤ (qse A + 1).toInt
      have h1 := z_add (v := qse A + 1) (x := qse A) (y := 1) rfl rfl t1 (by have := h.2.1; omega) (by have := h.2.2; have := z_hi (efind E); omega)
      have := h.2.1
      omega
    · rw [seaF_f e k]
      exact iv_fet hf ⟨by show 0 ≤ (0 : Int32).toInt; decide, by show (0 : Int32).toInt < _; rw [t0]; exact hf⟩
theorem iv_cas {fd : Int} {A : Pt} (h : IvQ fd A) : IvQ fd (casF A) := by
  unfold casF
  split
  · exact h
  · split <;> exact h
theorem iv_dro {fd : Int} {E : En} {A : Pt} (h : IvQ fd A) : IvQ fd (droF E A) := by
  unfold droF
  split
  · split <;> exact h
  · exact h
theorem iv_thr {fd : Int} {A : Pt} (h : IvQ fd A) : IvQ fd (throF A) := by
  unfold throF
  split <;> exact h
theorem iv_cut {fd : Int} {E : En} {A : Pt} (h : IvQ fd A) : IvQ fd (cutF E A) := by
  unfold cutF
  split
  · exact h
  · split <;> exact h
theorem iv_fnd {fd : Int} {A : Pt} (hf : 0 < fd) (h : IvQ fd A) : IvQ fd (fndF A) := by
  unfold fndF
  split
  · exact h
  · exact iv_fet (A := A) hf h.2
theorem iv_act {fd : Int} {E : En} {A : Pt} {a m : Int32} (hf : 0 < fd) (h : IvQ fd A) : IvQ fd (actF E a m A) := by
  unfold actF
  split
  · exact iv_cas h
  · split
    · exact iv_dro h
    · split
      · exact iv_fnd hf h
      · split
        · exact iv_thr h
        · split
          · exact iv_cut h
          · exact h
theorem iv_ru {fd : Int} {E : En} {A : Pt} {r : Ru} (hf : 0 < fd) (h : IvQ fd A) : IvQ fd (ruF E A r) := by
  by_cases e : allP E A r.2.2
  · rw [ruF_y e]; exact iv_act hf h
  · rw [ruF_n e]; exact h
theorem iv_rus {fd : Int} {E : En} (hf : 0 < fd) : ∀ {R : List Ru} {A : Pt}, IvQ fd A → IvQ fd (rusF E A R)
  | [], _, h => h
  | r :: t, A, h => iv_rus hf (R := t) (A := ruF E A r) (iv_ru hf h)
theorem iv_end {fd : Int} {E : En} {A : Pt} {c : Nat} (h : IvQ fd A) : IvQ fd (endF E A c) := by
  by_cases k2 : sdV E A c = 2
  · rw [endF_2 k2]; exact h
  · by_cases k3 : sdV E A c = 3
    · rw [endF_3 k3]
      refine ⟨fun z => h.1 ?_, h.2⟩
      have z2 : capL 600 (ql A) c = [] := z
      unfold capL at z2
      split at z2
      · exact absurd z2 (by simp)
      · exact z2
    · rw [endF_n k2 k3]; exact h
theorem iv_stp {fd : Int} {E : En} {A : Pt} (h : IvQ fd A) : IvQ fd (stpF E A) := by
  cases e : qe A with
  | nil => rw [stpF_n e]; exact h
  | cons c t => rw [stpF_c e]; exact iv_end (A := we A t) h
theorem iv_ends {fd : Int} {E : En} {A : Pt} (h : IvQ fd A) : ∀ n, IvQ fd (endsF E n A)
  | 0 => h
  | n + 1 => iv_stp (iv_ends h n)
theorem iv_drw {fd : Int} {E : En} {A : Pt} (h : IvQ fd A) : IvQ fd (drwF E A) := by
  have hB : IvQ fd (drwB E A) := iv_ends (A := wdr (wg A (capG (qg A) ((qe A).map (fun c => (c, qpl A c))))) (qdr A + 1)) h _
  by_cases k : 300 ≤ (qg (drwB E A)).length
  · rw [drwF_c k]; exact iv_cut hB
  · rw [drwF_n k]; exact hB
theorem iv_tic {E : En} {R : List Ru} {A : Pt} (hf : 0 < (efind E).toInt) (h : IvQ (efind E).toInt A) : IvQ (efind E).toInt (ticF E R A).1 := by
  have hS : IvQ (efind E).toInt (seaF E (wtk A (qtk A + 1))) := iv_sea hf (A := wtk A (qtk A + 1)) h
  have hB : IvQ (efind E).toInt (ticB E R A) := by
    unfold ticB
    split
    · exact iv_rus hf hS
    · exact hS
  by_cases k1 : 0 < (qst (ticB E R A)).toInt
  · rw [ticF_s k1]; exact hB
  · by_cases k2 : qe (ticB E R A) = []
    · rw [ticF_0 k1 k2]; exact hB
    · rw [ticF_d k1 k2]; exact iv_drw hB
theorem iv_run {E : En} {R : List Ru} {A : Pt} (hf : 0 < (efind E).toInt) (h : IvQ (efind E).toInt A) : ∀ n, IvQ (efind E).toInt (runF E R n A).1
  | 0 => h
  | n + 1 => iv_tic hf (iv_run hf h n)
/-! ===== the ends of a metre, one after the other: those that stay are kept apart ===== -/
noncomputable def endK (E : En) (A : Pt) (c : Nat) : Pt :=
  let B := wsd (wpl A (fuI (qpl A) c (qpl A c + 1))) (fuI (qsd A) c (sdV E A c))
  if sdV E A c = 2 then we B (qe A ++ [c]) else if sdV E A c = 3 then wl B (capL 600 (ql A) c) else B
theorem endK_2 {E : En} {A : Pt} {c : Nat} (h : sdV E A c = 2) : endK E A c = we (wsd (wpl A (fuI (qpl A) c (qpl A c + 1))) (fuI (qsd A) c (sdV E A c))) (qe A ++ [c]) := if_pos h
theorem endK_3 {E : En} {A : Pt} {c : Nat} (h : sdV E A c = 3) : endK E A c = wl (wsd (wpl A (fuI (qpl A) c (qpl A c + 1))) (fuI (qsd A) c (sdV E A c))) (capL 600 (ql A) c) := (if_neg (show ¬ sdV E A c = 2 by rw [h]; decide)).trans (if_pos h)
theorem endK_n {E : En} {A : Pt} {c : Nat} (h2 : sdV E A c ≠ 2) (h3 : sdV E A c ≠ 3) : endK E A c = wsd (wpl A (fuI (qpl A) c (qpl A c + 1))) (fuI (qsd A) c (sdV E A c)) := (if_neg h2).trans (if_neg h3)
noncomputable def folF (E : En) : List Nat → Pt → Pt
  | [], A => A
  | c :: t, A => folF E t (endK E A c)
theorem folF_app {E : En} : ∀ {L M : List Nat} {A : Pt}, folF E (L ++ M) A = folF E M (folF E L A)
  | [], _, _ => rfl
  | c :: t, M, A => folF_app (L := t) (M := M) (A := endK E A c)
theorem endK_len {E : En} {A : Pt} {c : Nat} : (qe (endK E A c)).length ≤ (qe A).length + 1 := by
  by_cases k2 : sdV E A c = 2
  · rw [endK_2 k2]
    show (qe A ++ [c]).length ≤ _
    rw [List.length_append]
    exact Nat.le_refl _
  · by_cases k3 : sdV E A c = 3
    · rw [endK_3 k3]
      show (qe A).length ≤ _
      omega
    · rw [endK_n k2 k3]
      show (qe A).length ≤ _
      omega
theorem folF_len {E : En} : ∀ {L : List Nat} {A : Pt}, (qe (folF E L A)).length ≤ (qe A).length + L.length
  | [], _ => Nat.le_refl _
  | c :: t, A => by
    have h1 := folF_len (E := E) (L := t) (A := endK E A c)
    have h2 := endK_len (E := E) (A := A) (c := c)
    show (qe (folF E t (endK E A c))).length ≤ (qe A).length + (t.length + 1)
    omega
/-- drawing an end with others behind it -/
theorem endF_K {E : En} {A : Pt} {c : Nat} {M : List Nat} (h : (M ++ qe A).length < 12) : endF E (we A (M ++ qe A)) c = we (endK E A c) (M ++ qe (endK E A c)) := by
  have hs : sdV E (we A (M ++ qe A)) c = sdV E A c := rfl
  by_cases k2 : sdV E A c = 2
  · rw [endF_2 (by rw [hs]; exact k2), endK_2 k2]
    show we (wsd (wpl (we A (M ++ qe A)) (fuI (qpl A) c (qpl A c + 1))) (fuI (qsd A) c (sdV E A c))) (capL 12 (M ++ qe A) c) = we (we (wsd (wpl A (fuI (qpl A) c (qpl A c + 1))) (fuI (qsd A) c (sdV E A c))) (qe A ++ [c])) (M ++ (qe A ++ [c]))
    rw [show capL 12 (M ++ qe A) c = M ++ (qe A ++ [c]) from (if_pos h).trans (List.append_assoc _ _ _)]
    rfl
  · by_cases k3 : sdV E A c = 3
    · rw [endF_3 (by rw [hs]; exact k3), endK_3 k3]
      rfl
    · rw [endF_n (by rw [hs]; exact k2) (by rw [hs]; exact k3), endK_n k2 k3]
      rfl
theorem ends_fol {E : En} {A : Pt} (h12 : (qe A).length ≤ 12) : ∀ i, i ≤ (qe A).length → endsF E i A = we (folF E ((qe A).take i) (we A [])) ((qe A).drop i ++ qe (folF E ((qe A).take i) (we A [])))
  | 0, _ => by
    show A = we (we A []) ((qe A) ++ [])
    rw [List.append_nil]
    rfl
  | i + 1, hi => by
    have ih := ends_fol (E := E) h12 i (by omega)
    obtain ⟨c, hc⟩ : ∃ c, (qe A)[i]? = some c := ⟨_, List.getElem?_eq_getElem (by omega)⟩
    have hd : (qe A).drop i = c :: (qe A).drop (i + 1) := by
      have hlt : i < (qe A).length := by omega
      rw [List.drop_eq_getElem_cons hlt]
      rw [List.getElem?_eq_getElem hlt] at hc
      cases hc
      rfl
    have ht : (qe A).take (i + 1) = (qe A).take i ++ [c] := by
      rw [List.take_succ, hc]
      rfl
    generalize hF : folF E ((qe A).take i) (we A []) = F at ih
    have hl : (qe F).length ≤ i := by
      rw [← hF]
      have := folF_len (E := E) (L := (qe A).take i) (A := we A [])
      have h0 : (qe (we A [])).length = 0 := rfl
      rw [List.length_take] at this
      omega
    show stpF E (endsF E i A) = _
    rw [ih, ht, folF_app, hF]
    show stpF E (we F ((qe A).drop i ++ qe F)) = we (endK E F c) ((qe A).drop (i + 1) ++ qe (endK E F c))
    rw [stpF_c (c := c) (t := (qe A).drop (i + 1) ++ qe F) (by show (qe A).drop i ++ qe F = _; rw [hd]; rfl)]
    show endF E (we F ((qe A).drop (i + 1) ++ qe F)) c = _
    exact endF_K (by rw [List.length_append, List.length_drop]; omega)
theorem ends_all {E : En} {A : Pt} (h12 : (qe A).length ≤ 12) : endsF E (qe A).length A = folF E (qe A) (we A []) := by
  rw [ends_fol h12 _ (Nat.le_refl _), List.take_length, List.drop_length, List.nil_append]
  rfl
