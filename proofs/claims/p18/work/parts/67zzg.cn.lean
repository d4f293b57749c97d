def slC (b l : Int32) (a : Int) : Nat → Int32
  | 0 => 0
  | n + 1 => slC b l a n + fcI b l (Int32.ofInt (a + (n : Int)))
theorem slC_s {b l v : Int32} {a : Int} {n : Nat} (h : a + (n : Int) = v.toInt) : slC b l a (n + 1) = slC b l a n + fcI b l v := by
  show slC b l a n + fcI b l (Int32.ofInt (a + (n : Int))) = _
  rw [h, Int32.ofInt_toInt]
/-! ===== silk, by a pot's state ===== -/
def mtE (E : En) (m : Mt) : Int32 := m.foldl (fun a z => a + efn E z.1 z.2) 0
def siE (E : En) (g : List Mt) : Int32 := g.foldl (fun a m => a + mtE E m) 0
def kpE (E : En) (L : List Sk) : Int32 := L.foldl (fun a s => a + siE E s.2.2.2) 0
def wsE (E : En) (W : List (List Mt)) : Int32 := W.foldl (fun a g => a + siE E g) 0
def twE (E : En) (A : Pt) : Int32 := kpE E (qsk A) + wsE E (qws A) + siE E (qg A)
def slE (E : En) (c : Nat) (a : Int) : Nat → Int32
  | 0 => 0
  | n + 1 => slE E c a n + efn E c (Int32.ofInt (a + (n : Int)))
def dwE (E : En) (L : List Nat) (A : Pt) : Int32 := suL (fun c => slE E c 0 (qpl A c).toInt.toNat) L
def thV (E : En) (A : Pt) (c : Nat) : Int32 := if qsd A c = 6 then slE E c (qpl A c).toInt ((elen E c).toInt - (qpl A c).toInt).toNat else 0
def thE (E : En) (L : List Nat) (A : Pt) : Int32 := suL (thV E A) L
theorem fo_app {α : Type} {f : α → Int32} {l : List α} {x : α} : (l ++ [x]).foldl (fun a z => a + f z) 0 = l.foldl (fun a z => a + f z) 0 + f x := by
  rw [List.foldl_append]
  rfl
theorem fo_b {α : Type} {f : α → Int32} : ∀ {l : List α} {b : Int32}, l.foldl (fun a z => a + f z) b = b + l.foldl (fun a z => a + f z) 0
  | [], b => (Int32.add_zero b).symm
  | x :: t, b => by
    show t.foldl (fun a z => a + f z) (b + f x) = b + t.foldl (fun a z => a + f z) (0 + f x)
    rw [fo_b (b := b + f x), fo_b (b := 0 + f x), Int32.zero_add, Int32.add_assoc]
theorem su_c {f : Nat → Int32} {a : Nat} {t : List Nat} : suL f (a :: t) = f a + suL f t := by
  show t.foldl (fun b c => b + f c) (0 + f a) = f a + t.foldl (fun b c => b + f c) 0
  rw [fo_b, Int32.zero_add]
theorem su_a {f : Nat → Int32} {a : Nat} {t : List Nat} : suL f (t ++ [a]) = suL f t + f a := fo_app
theorem su_e {f g : Nat → Int32} {L : List Nat} (h : ∀ c, c ∈ L → g c = f c) : suL g L = suL f L := flx (fun b z hz => by
  show b + g z = b + f z
  rw [h z hz])
theorem i4 (a b c d : Int32) : a + b + (c + d) = a + c + (b + d) := by
  rw [Int32.add_assoc, Int32.add_assoc, ← Int32.add_assoc b, Int32.add_comm b c, Int32.add_assoc c]
theorem i3 (a b c : Int32) : a + b + c = a + c + b := by
  rw [Int32.add_assoc, Int32.add_comm b, ← Int32.add_assoc]
/-- one summand changes -/
theorem su_up {f g : Nat → Int32} {q : Nat} (h : ∀ c, c ≠ q → g c = f c) : ∀ {L : List Nat}, (L.count q = 0 → suL g L = suL f L) ∧ (L.count q = 1 → suL g L + f q = suL f L + g q)
  | [] => ⟨fun _ => rfl, fun z => by rw [List.count_nil] at z; cases z⟩
  | a :: t => by
    obtain ⟨k0, k1⟩ := su_up h (L := t)
    rw [con_cn, su_c, su_c]
    by_cases e : a = q
    · have c1 : 0 < [a].count q := List.count_pos_iff.mpr (by rw [e]; exact List.mem_singleton.mpr rfl)
      have c2 : [a].count q ≤ 1 := List.count_le_length
      refine ⟨fun z => by omega, fun z => ?_⟩
      rw [k0 (by omega), e, Int32.add_comm (g q), Int32.add_comm (f q), i3]
    · have c0 : [a].count q = 0 := List.count_eq_zero.mpr (fun z => e (List.mem_singleton.mp z).symm)
      refine ⟨fun z => by rw [k0 (by omega), h a e], fun z => ?_⟩
      rw [Int32.add_assoc, k1 (by omega), h a e, Int32.add_assoc]
theorem sl_s {E : En} {c : Nat} {a : Int} {n : Nat} {v : Int32} (h : a + (n : Int) = v.toInt) : slE E c a (n + 1) = slE E c a n + efn E c v := by
  show slE E c a n + efn E c (Int32.ofInt (a + (n : Int))) = _
  rw [h, Int32.ofInt_toInt]
theorem mt_E {E : En} {A : Pt} : ∀ L : List Nat, mtE E (L.map (fun c => (c, qpl A c))) = suL (finF E A) L := fun L => by
  unfold mtE suL
  rw [List.foldl_map]
  rfl
/-- what is needed: nothing twice, nothing thrown in the rows, places within the cocoons -/
def CnW (E : En) (L : List Nat) (A : Pt) : Prop := (∀ c, cnA A c ≤ 1) ∧ ∀ c, 0 < cnA A c → qsd A c ≠ 6 ∧ L.count c = 1 ∧ 0 ≤ (qpl A c).toInt ∧ (qpl A c).toInt < (elen E c).toInt ∧ (elen E c).toInt ≤ 1000
def CnV (E : En) (L : List Nat) (A : Pt) : Prop := (qg A).length < 300 ∧ CnW E L A
def SmC (A B : Pt) : Prop := qg B = qg A ∧ qsk B = qsk A ∧ qws B = qws A ∧ qpl B = qpl A
theorem tw_sm {E : En} {A B : Pt} (h : SmC A B) : twE E B = twE E A := by
  unfold twE
  rw [h.1, h.2.1, h.2.2.1]
theorem dw_sm {E : En} {L : List Nat} {A B : Pt} (h : SmC A B) : dwE E L B = dwE E L A := by
  unfold dwE
  rw [h.2.2.2]
theorem th_sm {E : En} {L : List Nat} {A B : Pt} (h : SmC A B) (hs : ∀ c, qsd B c = 6 ↔ qsd A c = 6) : thE E L B = thE E L A := su_e (fun c _ => by
  unfold thV
  rw [h.2.2.2]
  by_cases z : qsd A c = 6
  · rw [if_pos z, if_pos ((hs c).mpr z)]
  · rw [if_neg z, if_neg (fun y => z ((hs c).mp y))])
theorem CnV_mv {E : En} {L : List Nat} {A B : Pt} (h : SmC A B) (hc : ∀ c, cnA B c ≤ cnA A c) (hs : ∀ c, qsd B c = 6 ↔ qsd A c = 6) (hV : CnV E L A) : CnV E L B := by
  obtain ⟨a1, a2, a3⟩ := hV
  refine ⟨by rw [h.1]; exact a1, fun c => Nat.le_trans (hc c) (a2 c), fun c z => ?_⟩
  obtain ⟨b1, b2⟩ := a3 c (Nat.lt_of_lt_of_le z (hc c))
  rw [h.2.2.2]
  exact ⟨fun y => b1 ((hs c).mp y), b2⟩
theorem fu6 {f : Nat → Int32} {q : Nat} {v : Int32} (hv : v ≠ 6) (hq : f q ≠ 6) : ∀ c, fuI f q v c = 6 ↔ f c = 6 := fun c => by
  unfold fuI
  by_cases e : c = q
  · rw [if_pos e, e]
    exact ⟨fun z => absurd z hv, fun z => absurd z hq⟩
  · rw [if_neg e]
/-- a move of cocoons: what counts stays -/
def Mv6 (E : En) (L : List Nat) (A B : Pt) : Prop := CnV E L A → SmC A B ∧ (∀ c, cnA B c ≤ cnA A c) ∧ ∀ c, qsd B c = 6 ↔ qsd A c = 6
theorem m6_rf {E : En} {L : List Nat} (A : Pt) : Mv6 E L A A := fun _ => ⟨⟨rfl, rfl, rfl, rfl⟩, fun _ => Nat.le_refl _, fun _ => Iff.rfl⟩
theorem m6_tr {E : En} {L : List Nat} {A B C : Pt} (h : Mv6 E L A B) (h' : Mv6 E L B C) : Mv6 E L A C := fun hV => by
  obtain ⟨a1, a2, a3⟩ := h hV
  obtain ⟨b1, b2, b3⟩ := h' (CnV_mv a1 a2 a3 hV)
  exact ⟨⟨b1.1.trans a1.1, b1.2.1.trans a1.2.1, b1.2.2.1.trans a1.2.2.1, b1.2.2.2.trans a1.2.2.2⟩, fun c => Nat.le_trans (b2 c) (a2 c), fun c => (b3 c).trans (a3 c)⟩
theorem mem_b {A : Pt} {c : Nat} {t : List Nat} (h : qb A = c :: t) : 0 < cnA A c := by
  have : 0 < (qb A).count c := List.count_pos_iff.mpr (by rw [h]; exact List.mem_cons_self)
  unfold cnA
  omega
theorem mem_l {A : Pt} {c : Nat} {t : List Nat} (h : ql A = c :: t) : 0 < cnA A c := by
  have : 0 < (ql A).count c := List.count_pos_iff.mpr (by rw [h]; exact List.mem_cons_self)
  unfold cnA
  omega
theorem m6_fet {E : En} {L : List Nat} {A : Pt} : Mv6 E L A (fetF A) := fun hV => by
  cases e : ql A with
  | nil =>
    refine ⟨?_, fun c => cn_fet c, fun c => ?_⟩
    · rw [fetF_n e]
      exact ⟨rfl, rfl, rfl, rfl⟩
    · rw [fetF_n e]
      exact Iff.rfl
  | cons c t =>
    refine ⟨?_, fun d => cn_fet d, fun d => ?_⟩
    · rw [fetF_c e]
      exact ⟨rfl, rfl, rfl, rfl⟩
    · rw [fetF_c e]
      exact fu6 (by decide) (hV.2.2 c (mem_l e)).1 d
theorem m6_st {E : En} {L : List Nat} {A : Pt} {v : Int32} : Mv6 E L A (wst A v) := fun _ => ⟨⟨rfl, rfl, rfl, rfl⟩, fun _ => Nat.le_refl _, fun _ => Iff.rfl⟩
theorem m6_se {E : En} {L : List Nat} {A : Pt} {v : Int32} : Mv6 E L A (wse A v) := fun _ => ⟨⟨rfl, rfl, rfl, rfl⟩, fun _ => Nat.le_refl _, fun _ => Iff.rfl⟩
theorem m6_tk {E : En} {L : List Nat} {A : Pt} {v : Int32} : Mv6 E L A (wtk A v) := fun _ => ⟨⟨rfl, rfl, rfl, rfl⟩, fun _ => Nat.le_refl _, fun _ => Iff.rfl⟩
theorem m6_sea {E F : En} {L : List Nat} {A : Pt} : Mv6 E L A (seaF F A) := by
  by_cases h : ql A = []
  · rw [seaF_n h]
    exact m6_rf A
  · by_cases h2 : (qse A + 1).toInt < (efind F).toInt
    · rw [seaF_w h h2]
      exact m6_se
    · rw [seaF_f h h2]
      exact m6_tr m6_se m6_fet
theorem m6_cas {E : En} {L : List Nat} {A : Pt} : Mv6 E L A (casF A) := fun hV => by
  cases e : qb A with
  | nil =>
    rw [casF_n (Or.inl e)]
    exact m6_rf A hV
  | cons c t =>
    by_cases h : (qe A).length < 12
    · refine ⟨?_, fun d => cn_cas d, fun d => ?_⟩
      · rw [casF_c e h]
        exact ⟨rfl, rfl, rfl, rfl⟩
      · rw [casF_c e h]
        exact fu6 (by decide) (hV.2.2 c (mem_b e)).1 d
    · rw [casF_n (Or.inr h)]
      exact m6_rf A hV
theorem m6_dro {E F : En} {L : List Nat} {A : Pt} : Mv6 E L A (droF F A) := fun hV => by
  by_cases h0 : 0 ≤ thiF F A ∧ thiF F A < ((qe A).length : Int)
  · obtain ⟨c, hc⟩ : ∃ c, (qe A)[(thiF F A).toNat]? = some c := ⟨_, List.getElem?_eq_getElem (by omega)⟩
    have hm : 0 < cnA A c := by
      have : 0 < (qe A).count c := List.count_pos_iff.mpr (List.mem_of_getElem? hc)
      unfold cnA
      omega
    refine ⟨?_, fun d => cn_dro d, fun d => ?_⟩
    · rw [droF_c h0.1 hc]
      exact ⟨rfl, rfl, rfl, rfl⟩
    · rw [droF_c h0.1 hc]
      exact fu6 (by decide) (hV.2.2 c hm).1 d
  · rw [droF_n h0]
    exact m6_rf A hV
theorem m6_fnd {E : En} {L : List Nat} {A : Pt} : Mv6 E L A (fndF A) := by
  by_cases h : ql A = []
  · rw [fndF_n h]
    exact m6_rf A
  · rw [fndF_c h]
    exact m6_tr m6_fet m6_st
/-! ===== the sums of a pot's step ===== -/
def CnT (E : En) (L : List Nat) (A B : Pt) : Prop := CnV E L A → CnV E L B ∧ dwE E L B + twE E A = dwE E L A + twE E B
theorem cn_tr {a b c d e f : Int32} (h : b + d = a + e) (h' : c + e = b + f) : c + d = a + f := by
  have k : c + d + e = a + f + e := by
    rw [i3, h', i3, h, i3]
  exact (Int32.add_left_inj e).mp k
theorem CnT_tr {E : En} {L : List Nat} {A B C : Pt} (h : CnT E L A B) (h' : CnT E L B C) : CnT E L A C := fun hV => by
  obtain ⟨a1, a2⟩ := h hV
  obtain ⟨b1, b2⟩ := h' a1
  exact ⟨b1, cn_tr a2 b2⟩
theorem CnT_mv {E : En} {L : List Nat} {A B : Pt} (h : Mv6 E L A B) : CnT E L A B := fun hV => by
  obtain ⟨a1, a2, a3⟩ := h hV
  exact ⟨CnV_mv a1 a2 a3 hV, by rw [dw_sm a1, tw_sm a1]⟩
theorem CnT_thr {E : En} {L : List Nat} {A : Pt} : CnT E L A (throF A) := fun hV => by
  cases e : (qb A)[(qb A).length - 1]? with
  | none =>
    have h : throF A = A := by
      unfold throF
      rw [e]
    rw [h]
    exact ⟨hV, rfl⟩
  | some c =>
    obtain ⟨a1, a2, a3⟩ := hV
    have hq : throF A = wb (wsd A (fuI (qsd A) c 6)) ((qb A).eraseIdx ((qb A).length - 1)) := throF_c e
    have k0 : ∀ d, cnA (throF A) d + [c].count d = cnA A d := fun d => by
      rw [hq]
      have h1 := er_cn d e
      show ((qb A).eraseIdx ((qb A).length - 1)).count d + (qe A).count d + (ql A).count d + _ = (qb A).count d + (qe A).count d + (ql A).count d
      omega
    refine ⟨⟨by rw [hq]; exact a1, fun d => by have := k0 d; have := a2 d; omega, fun d z => ?_⟩, by rw [hq]; rfl⟩
    have hd : d ≠ c := fun y => by
      have k1 := k0 d
      have k2 := a2 d
      have k3 : 0 < [c].count d := List.count_pos_iff.mpr (List.mem_singleton.mpr y)
      omega
    obtain ⟨b1, b2⟩ := a3 d (by have := k0 d; omega)
    rw [hq]
    refine ⟨?_, b2⟩
    show fuI (qsd A) c 6 d ≠ 6
    unfold fuI
    rw [if_neg hd]
    exact b1
theorem cut_cn {E F : En} {L : List Nat} {A : Pt} (hW : CnW E L A) : CnV E L (cutF F A) ∧ dwE E L (cutF F A) = dwE E L A ∧ twE E (cutF F A) = twE E A ∧ thE E L (cutF F A) = thE E L A := by
  obtain ⟨a2, a3⟩ := hW
  have h0 : qpl (cutF F A) = qpl A ∧ qsd (cutF F A) = qsd A := by
    by_cases h : qg A = []
    · rw [cutF_n h]
      exact ⟨rfl, rfl⟩
    · by_cases h2 : (qsk A).length < 40
      · rw [cutF_k h h2]
        exact ⟨rfl, rfl⟩
      · rw [cutF_w h h2]
        exact ⟨rfl, rfl⟩
  have ht : twE E (cutF F A) = twE E A := by
    by_cases h : qg A = []
    · rw [cutF_n h]
    · by_cases h2 : (qsk A).length < 40
      · rw [cutF_k h h2]
        show kpE E (qsk A ++ [(epot F, eday F, eaim F, qg A)]) + wsE E (qws A) + siE E [] = kpE E (qsk A) + wsE E (qws A) + siE E (qg A)
        rw [show kpE E (qsk A ++ [(epot F, eday F, eaim F, qg A)]) = kpE E (qsk A) + siE E (qg A) from fo_app, show siE E [] = 0 from rfl, Int32.add_zero, i3]
      · rw [cutF_w h h2]
        show kpE E (qsk A) + wsE E (qws A ++ [qg A]) + siE E [] = kpE E (qsk A) + wsE E (qws A) + siE E (qg A)
        rw [show wsE E (qws A ++ [qg A]) = wsE E (qws A) + siE E (qg A) from fo_app, show siE E [] = 0 from rfl, Int32.add_zero, Int32.add_assoc]
  refine ⟨⟨by rw [qg_cut]; exact (by decide : ([] : List Mt).length < 300), fun c => by rw [cn_cut]; exact a2 c, fun c z => ?_⟩, ?_, ht, ?_⟩
  · rw [cn_cut] at z
    rw [h0.1, h0.2]
    exact a3 c z
  · unfold dwE
    rw [h0.1]
  · exact su_e (fun c _ => by
      unfold thV
      rw [h0.1, h0.2])
theorem CnT_cut {E F : En} {L : List Nat} {A : Pt} : CnT E L A (cutF F A) := fun hV => by
  obtain ⟨h1, h2, h3, -⟩ := cut_cn (F := F) hV.2
  exact ⟨h1, by rw [h2, h3]⟩
theorem end_ps {E : En} {A : Pt} {c : Nat} : qpl (endF E A c) = fuI (qpl A) c (qpl A c + 1) ∧ qsd (endF E A c) = fuI (qsd A) c (sdV E A c) ∧ qws (endF E A c) = qws A := by
  by_cases h2 : sdV E A c = 2
  · rw [endF_2 h2]
    exact ⟨rfl, rfl, rfl⟩
  · by_cases h3 : sdV E A c = 3
    · rw [endF_3 h3]
      exact ⟨rfl, rfl, rfl⟩
    · rw [endF_n h2 h3]
      exact ⟨rfl, rfl, rfl⟩
theorem sdV_4c {E : En} {A : Pt} {c : Nat} (h : (elen E c).toInt ≤ (qpl A c + 1).toInt) : sdV E A c = 4 := if_pos h
/-- one end is drawn -/
theorem stp_cn {E : En} {L : List Nat} {A : Pt} {c : Nat} {t : List Nat} (hW : CnW E L A) (e : qe A = c :: t) : CnW E L (stpF E A) ∧ thE E L (stpF E A) = thE E L A ∧ dwE E L (stpF E A) = dwE E L A + efn E c (qpl A c) ∧ qws (stpF E A) = qws A := by
  have hm : 0 < cnA A c := by
    have : 0 < (qe A).count c := List.count_pos_iff.mpr (by rw [e]; exact List.mem_cons_self)
    unfold cnA
    omega
  obtain ⟨r1, r2, r3, r4, r5⟩ := hW.2 c hm
  have es := stpF_c (E := E) e
  obtain ⟨p1, p2, p3⟩ := end_ps (E := E) (A := we A t) (c := c)
  have q1 : qpl (stpF E A) = fuI (qpl A) c (qpl A c + 1) := by rw [es]; exact p1
  have q2 : qsd (stpF E A) = fuI (qsd A) c (sdV E (we A t) c) := by rw [es]; exact p2
  have z1 : (qpl A c + 1).toInt = (qpl A c).toInt + 1 := z_add rfl rfl (by decide) (by omega) (by omega)
  have hv : sdV E (we A t) c ≠ 6 := by
    unfold sdV
    split
    · decide
    · split
      · decide
      · exact r1
  have hcn : ∀ d, cnA (we A t) d + [c].count d = cnA A d := fun d => by
    show (qb A).count d + t.count d + (ql A).count d + _ = (qb A).count d + (qe A).count d + (ql A).count d
    rw [e, con_cn (L := t)]
    omega
  refine ⟨⟨fun d => Nat.le_trans (cn_stp d) (hW.1 d), fun d z => ?_⟩, su_e (fun d _ => ?_), ?_, by rw [es]; exact p3⟩
  · rw [q1, q2]
    by_cases hd : d = c
    · have hn : ¬ (elen E c).toInt ≤ (qpl A c + 1).toInt := fun y => by
        have v4 : sdV E (we A t) c = 4 := sdV_4c y
        rw [es, endF_n (by rw [v4]; decide) (by rw [v4]; decide)] at z
        have z' : 0 < cnA (we A t) d := z
        have k1 := hcn d
        have k2 := hW.1 d
        have k3 : 0 < [c].count d := List.count_pos_iff.mpr (List.mem_singleton.mpr hd)
        omega
      rw [hd]
      unfold fuI
      rw [if_pos rfl, if_pos rfl]
      exact ⟨hv, r2, by omega, by omega, r5⟩
    · have k := cn_stp (E := E) (A := A) d
      have hh := hW.2 d (by omega)
      unfold fuI
      rw [if_neg hd, if_neg hd]
      exact hh
  · unfold thV
    rw [q1, q2]
    unfold fuI
    by_cases hd : d = c
    · rw [if_pos hd, if_neg hv, hd, if_neg r1]
    · rw [if_neg hd, if_neg hd]
  · have hu := (su_up (f := fun d => slE E d 0 (qpl A d).toInt.toNat) (g := fun d => slE E d 0 (qpl (stpF E A) d).toInt.toNat) (q := c) (fun d hd => by
      show slE E d 0 (qpl (stpF E A) d).toInt.toNat = slE E d 0 (qpl A d).toInt.toNat
      rw [q1]
      unfold fuI
      rw [if_neg hd]) (L := L)).2 r2
    have hs : slE E c 0 (qpl (stpF E A) c).toInt.toNat = slE E c 0 (qpl A c).toInt.toNat + efn E c (qpl A c) := by
      rw [q1]
      show slE E c 0 (if c = c then qpl A c + 1 else qpl A c).toInt.toNat = _
      rw [if_pos rfl, z1, show ((qpl A c).toInt + 1).toNat = (qpl A c).toInt.toNat + 1 by omega]
      exact sl_s (by omega)
    have hu' : dwE E L (stpF E A) + slE E c 0 (qpl A c).toInt.toNat = dwE E L A + slE E c 0 (qpl (stpF E A) c).toInt.toNat := hu
    rw [hs, ← Int32.add_assoc, i3 (dwE E L A)] at hu'
    exact (Int32.add_left_inj _).mp hu'
theorem ends_cn {E : En} {L : List Nat} {A : Pt} (hW : CnW E L A) : ∀ j, j ≤ (qe A).length → CnW E L (endsF E j A) ∧ thE E L (endsF E j A) = thE E L A ∧ dwE E L (endsF E j A) = dwE E L A + suL (finF E A) ((qe A).take j) ∧ qws (endsF E j A) = qws A
  | 0, _ => ⟨hW, rfl, by rw [List.take_zero]; exact (Int32.add_zero _).symm, rfl⟩
  | j + 1, hj => by
    obtain ⟨h1, h2, h3, h4⟩ := ends_cn hW j (by omega)
    obtain ⟨⟨X, q1⟩, q2, -, -⟩ := ends_q (E := E) (A := A) j (by omega)
    rw [List.drop_eq_getElem_cons (by omega)] at q1
    have q1' : qe (endsF E j A) = (qe A)[j] :: ((qe A).drop (j + 1) ++ X) := q1
    obtain ⟨k1, k2, k3, k4⟩ := stp_cn h1 q1'
    have hn1 : ∀ d, (qe A).count d ≤ 1 := fun d => by
      have z := hW.1 d
      unfold cnA at z
      omega
    have hj' : (qe A)[j]? = some (qe A)[j] := List.getElem?_eq_getElem (by omega)
    have hp : qpl (endsF E j A) (qe A)[j] = qpl A (qe A)[j] := q2 _ (fun i hi z => by
      have := nd_i hn1 z hj'
      omega)
    refine ⟨k1, k2.trans h2, ?_, k4.trans h4⟩
    show dwE E L (stpF E (endsF E j A)) = _
    rw [k3, h3, hp, List.take_succ, hj']
    show _ = dwE E L A + suL (finF E A) ((qe A).take j ++ [(qe A)[j]])
    rw [su_a, ← Int32.add_assoc]
    rfl
/-- a metre is drawn -/
theorem drw_cn {E : En} {L : List Nat} {A : Pt} (hV : CnV E L A) : CnW E L (drwB E A) ∧ thE E L (drwB E A) = thE E L A ∧ dwE E L (drwB E A) = dwE E L A + suL (finF E A) (qe A) ∧ twE E (drwB E A) = twE E A + suL (finF E A) (qe A) := by
  obtain ⟨hl, hW⟩ := hV
  have hW' : CnW E L (DRa A) := hW
  obtain ⟨k1, k2, k3, k4⟩ := ends_cn (E := E) hW' (qe A).length (Nat.le_refl _)
  obtain ⟨-, -, h3, h4⟩ := ends_q (E := E) (A := DRa A) (qe A).length (Nat.le_refl _)
  have h3' : qg (drwB E A) = qg A ++ [MTa A] := h3.trans (capG_a hl)
  have h4' : qsk (drwB E A) = qsk A := h4
  have k4' : qws (drwB E A) = qws A := k4
  refine ⟨k1, k2, ?_, ?_⟩
  · have k3' : dwE E L (drwB E A) = dwE E L A + suL (finF E A) ((qe A).take (qe A).length) := k3
    rw [List.take_length] at k3'
    exact k3'
  · unfold twE
    rw [h3', h4', k4', show siE E (qg A ++ [MTa A]) = siE E (qg A) + mtE E (MTa A) from fo_app, mt_E, ← Int32.add_assoc]
theorem CnT_drw {E : En} {L : List Nat} {A : Pt} : CnT E L A (drwF E A) := fun hV => by
  obtain ⟨h1, -, h3, h4⟩ := drw_cn hV
  have hs : dwE E L (drwB E A) + twE E A = dwE E L A + twE E (drwB E A) := by
    rw [h3, h4, i3, Int32.add_assoc, Int32.add_comm (twE E A)]
  by_cases h : 300 ≤ (qg (drwB E A)).length
  · rw [drwF_c h]
    obtain ⟨c1, c2, c3, -⟩ := cut_cn (F := E) h1
    exact ⟨c1, by rw [c2, c3]; exact hs⟩
  · rw [drwF_n h]
    exact ⟨⟨by omega, h1⟩, hs⟩
theorem CnT_act {E F : En} {L : List Nat} {A : Pt} {a m : Int32} : CnT E L A (actF F a m A) := by
  unfold actF
  split
  · exact CnT_mv m6_cas
  · split
    · exact CnT_mv m6_dro
    · split
      · exact CnT_mv m6_fnd
      · split
        · exact CnT_thr
        · split
          · exact CnT_cut
          · exact CnT_mv m6_st
theorem CnT_rus {E F : En} {L : List Nat} : ∀ {R : List Ru} {A : Pt}, CnT E L A (rusF F A R)
  | [], A => CnT_mv (m6_rf A)
  | r :: R, A => by
    show CnT E L A (rusF F (ruF F A r) R)
    refine CnT_tr ?_ CnT_rus
    by_cases h : allP F A r.2.2
    · rw [ruF_y h]
      exact CnT_act
    · rw [ruF_n h]
      exact CnT_mv (m6_rf A)
theorem CnT_tic {E : En} {L : List Nat} {R : List Ru} {A : Pt} : CnT E L A (ticF E R A).1 := by
  have h2 : CnT E L A (seaF E (wtk A (qtk A + 1))) := CnT_mv (m6_tr m6_tk m6_sea)
  have h3 : CnT E L A (ticB E R A) := by
    unfold ticB
    split
    · exact CnT_tr h2 CnT_rus
    · exact h2
  by_cases c1 : 0 < (qst (ticB E R A)).toInt
  · rw [ticF_s c1]
    exact CnT_tr h3 (CnT_mv m6_st)
  · by_cases c2 : qe (ticB E R A) = []
    · rw [ticF_0 c1 c2]
      exact h3
    · rw [ticF_d c1 c2]
      exact CnT_tr h3 CnT_drw
theorem CnT_run {E : En} {L : List Nat} {R : List Ru} {A : Pt} : ∀ n, CnT E L A (runF E R n A).1
  | 0 => CnT_mv (m6_rf A)
  | n + 1 => CnT_tr (CnT_run n) CnT_tic
/-! ===== what the store counts ===== -/
def ctG : List Nat := [802, 803, 804, 805]
def CtF (S T : PS) (K : Nat) : Prop := ∀ g, g ∈ ctG → pI T g K = pI S g K
theorem CtF_rf (S : PS) (K : Nat) : CtF S S K := fun _ _ => rfl
theorem CtF_tr {S T U : PS} {K : Nat} (h : CtF S T K) (h' : CtF T U K) : CtF S U K := fun g hg => (h' g hg).trans (h g hg)
theorem CtF_fr {M : List Nat} {S T : PS} {K : Nat} (hK : At S K 8) (hF : Fr M S T) (hM : ctG.all (fun g => !M.contains g) = true) : CtF S T K := fun g hg => hF.I' (g := g) (allc hM hg) hK rfl
theorem CtF_sI {S T : PS} {K g a : Nat} {v : Int32} (e : T = sI S g a v) (hg : ctG.contains g = false) : CtF S T K := fun k hk => by
  rw [e]
  exact pI_sI_nf (fun z => by rw [z] at hk; rw [List.contains_iff_mem.mpr hk] at hg; cases hg)
def CtV (S T : PS) (K : Nat) (E : En) (L : List Nat) (A B : Pt) : Prop := pI T 802 K + twE E A = pI S 802 K + twE E B ∧ pI T 803 K + kpE E (qsk A) = pI S 803 K + kpE E (qsk B) ∧ pI T 804 K + thE E L A = pI S 804 K + thE E L B ∧ pI T 805 K + wsE E (qws A) = pI S 805 K + wsE E (qws B)
def CtT (S T : PS) (K : Nat) (E : En) (A B : Pt) : Prop := ∀ L, CnV E L A → CnV E L B ∧ CtV S T K E L A B
def CwT (S T : PS) (K : Nat) (E : En) (A B : Pt) : Prop := ∀ L, CnW E L A → CnV E L B ∧ CtV S T K E L A B
theorem CtV_rf (S : PS) (K : Nat) (E : En) (L : List Nat) (A : Pt) : CtV S S K E L A A := ⟨rfl, rfl, rfl, rfl⟩
theorem CtV_tr {S T U : PS} {K : Nat} {E : En} {L : List Nat} {A B C : Pt} (h : CtV S T K E L A B) (h' : CtV T U K E L B C) : CtV S U K E L A C := ⟨cn_tr h.1 h'.1, cn_tr h.2.1 h'.2.1, cn_tr h.2.2.1 h'.2.2.1, cn_tr h.2.2.2 h'.2.2.2⟩
theorem CtT_rf (S : PS) (K : Nat) (E : En) (A : Pt) : CtT S S K E A A := fun L h => ⟨h, CtV_rf S K E L A⟩
theorem CtT_tr {S T U : PS} {K : Nat} {E : En} {A B C : Pt} (h : CtT S T K E A B) (h' : CtT T U K E B C) : CtT S U K E A C := fun L hV => by
  obtain ⟨a1, a2⟩ := h L hV
  obtain ⟨b1, b2⟩ := h' L a1
  exact ⟨b1, CtV_tr a2 b2⟩
theorem CtT_e {S T : PS} {K : Nat} {E : En} {A B C : Pt} (e : C = B) (h : CtT S T K E A B) : CtT S T K E A C := by
  rw [e]
  exact h
theorem CtT_c {S T : PS} {K : Nat} {E : En} {A B : Pt} (h : CwT S T K E A B) : CtT S T K E A B := fun L hV => h L hV.2
theorem CtT_mv {S T : PS} {K : Nat} {E : En} {A B : Pt} (hF : CtF S T K) (hm : ∀ L, Mv6 E L A B) : CtT S T K E A B := fun L hV => by
  obtain ⟨a1, a2, a3⟩ := hm L hV
  refine ⟨CnV_mv a1 a2 a3 hV, ?_, ?_, ?_, ?_⟩
  · rw [hF 802 (by decide), tw_sm a1]
  · rw [hF 803 (by decide), a1.2.1]
  · rw [hF 804 (by decide), th_sm a1 a3]
  · rw [hF 805 (by decide), a1.2.2.1]
theorem m6_id {E : En} {L : List Nat} {A B : Pt} (h : SmC A B) (hc : ∀ c, cnA B c ≤ cnA A c) (hs : qsd B = qsd A) : Mv6 E L A B := fun _ => ⟨h, hc, fun c => by rw [hs]⟩
theorem mt_SE {S : PS} {D : Nat → Prop} {P K : Nat} {E : En} {m : Mt} (hE : EnC S D P K E) (hm : ∀ z, z ∈ m → D z.1 ∧ At S z.1 0) : mtS S m = mtE E m := flx (fun b z hz => by
  show b + fvP S z.1 z.2 = b + efn E z.1 z.2
  rw [(hE.1 z.1 (hm z hz).1).2.1 z.2]
  rfl)
theorem si_SE {S : PS} {D : Nat → Prop} {P K : Nat} {E : En} {g : List Mt} (hE : EnC S D P K E) (hm : MtD S D g) : siS S g = siE E g := flx (fun b m hz => by
  show b + mtS S m = b + mtE E m
  rw [mt_SE hE (hm m hz)])
theorem sl_CE {S : PS} {D : Nat → Prop} {P K c : Nat} {E : En} {a : Int} (hE : EnC S D P K E) (hc : D c) : ∀ n, slC (pI S 8 c) (pI S 2 c) a n = slE E c a n
  | 0 => rfl
  | n + 1 => by
    show slC (pI S 8 c) (pI S 2 c) a n + fcI (pI S 8 c) (pI S 2 c) (Int32.ofInt (a + (n : Int))) = slE E c a n + efn E c (Int32.ofInt (a + (n : Int)))
    rw [sl_CE hE hc n, (hE.1 c hc).2.1]
theorem CwT_n {S : PS} {K : Nat} {E F : En} {A : Pt} (hg : qg A = []) : CwT S S K E A (cutF F A) := fun L hW => by
  rw [cutF_n hg]
  exact ⟨⟨by rw [hg]; exact (by decide : ([] : List Mt).length < 300), hW⟩, CtV_rf S K E L A⟩
theorem CwT_k {S T U : PS} {D : Nat → Prop} {P K G : Nat} {E F : En} {A : Pt} (hE : EnC S D P K E) (hV : StV S D G (qg A)) (hn : qg A ≠ []) (h40 : (qsk A).length < 40) (h3 : pI T 803 K = pI S 803 K + pI S 903 G) (h2 : pI T 802 K = pI S 802 K) (h4 : pI T 804 K = pI S 804 K) (h5 : pI T 805 K = pI S 805 K) (hU : CtF T U K) : CwT S U K E A (cutF F A) := fun L hW => by
  obtain ⟨c1, -, c3, c4⟩ := cut_cn (F := F) hW
  have hsi : pI S 903 G = siE E (qg A) := hV.2.1.trans (si_SE hE hV.2.2.1)
  refine ⟨c1, ?_, ?_, ?_, ?_⟩
  · rw [hU 802 (by decide), h2, c3]
  · rw [hU 803 (by decide), h3, hsi, cutF_k hn h40]
    show _ = pI S 803 K + kpE E (qsk A ++ [(epot F, eday F, eaim F, qg A)])
    rw [show kpE E (qsk A ++ [(epot F, eday F, eaim F, qg A)]) = kpE E (qsk A) + siE E (qg A) from fo_app, i3, Int32.add_assoc]
  · rw [hU 804 (by decide), h4, c4]
  · rw [hU 805 (by decide), h5, cutF_k hn h40]
    rfl
theorem CwT_w {S T U : PS} {D : Nat → Prop} {P K G : Nat} {E F : En} {A : Pt} (hE : EnC S D P K E) (hV : StV S D G (qg A)) (hn : qg A ≠ []) (h40 : ¬ (qsk A).length < 40) (h5 : pI T 805 K = pI S 805 K + pI S 903 G) (h2 : pI T 802 K = pI S 802 K) (h4 : pI T 804 K = pI S 804 K) (h3 : pI T 803 K = pI S 803 K) (hU : CtF T U K) : CwT S U K E A (cutF F A) := fun L hW => by
  obtain ⟨c1, -, c3, c4⟩ := cut_cn (F := F) hW
  have hsi : pI S 903 G = siE E (qg A) := hV.2.1.trans (si_SE hE hV.2.2.1)
  refine ⟨c1, ?_, ?_, ?_, ?_⟩
  · rw [hU 802 (by decide), h2, c3]
  · rw [hU 803 (by decide), h3, cutF_w hn h40]
    rfl
  · rw [hU 804 (by decide), h4, c4]
  · rw [hU 805 (by decide), h5, hsi, cutF_w hn h40]
    show _ = pI S 805 K + wsE E (qws A ++ [qg A])
    rw [show wsE E (qws A ++ [qg A]) = wsE E (qws A) + siE E (qg A) from fo_app, i3, Int32.add_assoc]
/-- the last of the basket is thrown -/
theorem CtT_thr {S T : PS} {D : Nat → Prop} {P K c : Nat} {E : En} {A : Pt} (hE : EnC S D P K E) (hC : CoP S D (qpl A) (qsd A)) (hD : D c) (hq : (qb A)[(qb A).length - 1]? = some c) (h4 : pI T 804 K = pI S 804 K + slC (pI S 8 c) (pI S 2 c) (pI S 4 c).toInt ((pI S 2 c).toInt - (pI S 4 c).toInt).toNat) (h2 : pI T 802 K = pI S 802 K) (h3 : pI T 803 K = pI S 803 K) (h5 : pI T 805 K = pI S 805 K) : CtT S T K E A (throF A) := fun L hV => by
  obtain ⟨k1, -⟩ := CnT_thr (E := E) hV
  have hm : 0 < cnA A c := by
    have : 0 < (qb A).count c := List.count_pos_iff.mpr (List.mem_of_getElem? hq)
    unfold cnA
    omega
  obtain ⟨r1, r2, -⟩ := hV.2.2 c hm
  have hu := (su_up (f := thV E A) (g := thV E (throF A)) (q := c) (fun d hd => by
    unfold thV
    rw [throF_c hq]
    show (if fuI (qsd A) c 6 d = 6 then _ else _) = _
    unfold fuI
    rw [if_neg hd]
    rfl) (L := L)).2 r2
  have f0 : thV E A c = 0 := by
    unfold thV
    rw [if_neg r1]
  have g0 : thV E (throF A) c = slE E c (qpl A c).toInt ((elen E c).toInt - (qpl A c).toInt).toNat := by
    unfold thV
    rw [throF_c hq]
    show (if fuI (qsd A) c 6 c = 6 then slE E c (qpl A c).toInt ((elen E c).toInt - (qpl A c).toInt).toNat else 0) = _
    unfold fuI
    rw [if_pos rfl, if_pos rfl]
  have hu' : thE E L (throF A) = thE E L A + slE E c (qpl A c).toInt ((elen E c).toInt - (qpl A c).toInt).toNat := by
    have z : thE E L (throF A) + thV E A c = thE E L A + thV E (throF A) c := hu
    rw [f0, g0, Int32.add_zero] at z
    exact z
  have hs : slC (pI S 8 c) (pI S 2 c) (pI S 4 c).toInt ((pI S 2 c).toInt - (pI S 4 c).toInt).toNat = slE E c (qpl A c).toInt ((elen E c).toInt - (qpl A c).toInt).toNat := by
    rw [sl_CE hE hD, (hC c hD).1, (hE.1 c hD).1]
  refine ⟨k1, ?_, ?_, ?_, ?_⟩
  · rw [h2, throF_c hq]
    rfl
  · rw [h3, throF_c hq]
    rfl
  · rw [h4, hs, hu', Int32.add_assoc, Int32.add_comm (slE E c _ _)]
  · rw [h5, throF_c hq]
    rfl
/-- a metre is drawn -/
def CdI (S T : PS) (K : Nat) (E : En) (A : Pt) : Prop := pI T 802 K = pI S 802 K + suL (finF E A) (qe A) ∧ pI T 803 K = pI S 803 K ∧ pI T 804 K = pI S 804 K ∧ pI T 805 K = pI S 805 K
theorem CdI_F {S T U : PS} {K : Nat} {E : En} {A : Pt} (h : CdI S T K E A) (hF : CtF T U K) : CdI S U K E A := ⟨(hF 802 (by decide)).trans h.1, (hF 803 (by decide)).trans h.2.1, (hF 804 (by decide)).trans h.2.2.1, (hF 805 (by decide)).trans h.2.2.2⟩
theorem CdI_v {S U : PS} {K : Nat} {E : En} {L : List Nat} {A : Pt} (h : CdI S U K E A) (hV : CnV E L A) : CnW E L (drwB E A) ∧ CtV S U K E L A (drwB E A) := by
  obtain ⟨h1, h2, -, h4⟩ := drw_cn hV
  obtain ⟨-, -, q3, q4⟩ := ends_q (E := E) (A := DRa A) (qe A).length (Nat.le_refl _)
  obtain ⟨-, -, -, k4⟩ := ends_cn (E := E) (L := L) (A := DRa A) hV.2 (qe A).length (Nat.le_refl _)
  have q4' : qsk (drwB E A) = qsk A := q4
  have k4' : qws (drwB E A) = qws A := k4
  refine ⟨h1, ?_, ?_, ?_, ?_⟩
  · rw [h.1, h4, i3, Int32.add_assoc]
  · rw [h.2.1, q4']
  · rw [h.2.2.1, h2]
  · rw [h.2.2.2, k4']
theorem CtT_d {S U : PS} {K : Nat} {E : En} {A : Pt} (h : CdI S U K E A) (h3 : ¬ 300 ≤ (qg (drwB E A)).length) : CtT S U K E A (drwF E A) := fun L hV => by
  obtain ⟨h1, h2⟩ := CdI_v h hV
  rw [drwF_n h3]
  exact ⟨⟨by omega, h1⟩, h2⟩
theorem CtT_dc {S U T : PS} {K : Nat} {E : En} {A : Pt} (h : CdI S U K E A) (h3 : 300 ≤ (qg (drwB E A)).length) (hc : CwT U T K E (drwB E A) (cutF E (drwB E A))) : CtT S T K E A (drwF E A) := fun L hV => by
  obtain ⟨h1, h2⟩ := CdI_v h hV
  obtain ⟨c1, c2⟩ := hc L h1
  rw [drwF_c h3]
  exact ⟨c1, CtV_tr h2 c2⟩
